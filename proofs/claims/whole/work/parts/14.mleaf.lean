theorem kB_m100 : kB (-100) = (-100) := by decide
theorem kB_m2 : kB (-2) = (-2) := by decide
theorem kB_6 : kB 6 = nI 6 := by decide
theorem kB_7 : kB 7 = nI 7 := by decide
theorem kB_8 : kB 8 = nI 8 := by decide
theorem kB_9 : kB 9 = nI 9 := by decide
theorem kB_10 : kB 10 = nI 10 := by decide
theorem kB_11 : kB 11 = nI 11 := by decide
theorem kB_12 : kB 12 = nI 12 := by decide
theorem kB_13 : kB 13 = nI 13 := by decide
theorem kB_14 : kB 14 = nI 14 := by decide
theorem kB_15 : kB 15 = nI 15 := by decide
theorem kB_16 : kB 16 = nI 16 := by decide
theorem kB_19 : kB 19 = nI 19 := by decide
theorem kB_20 : kB 20 = nI 20 := by decide
theorem kB_22 : kB 22 = nI 22 := by decide
theorem kB_24 : kB 24 = nI 24 := by decide
theorem kB_31 : kB 31 = nI 31 := by decide
theorem kB_32 : kB 32 = nI 32 := by decide
theorem kB_35 : kB 35 = nI 35 := by decide
theorem kB_48 : kB 48 = nI 48 := by decide
theorem kB_51 : kB 51 = nI 51 := by decide
theorem kB_57 : kB 57 = nI 57 := by decide
theorem kB_59 : kB 59 = nI 59 := by decide
theorem kB_60 : kB 60 = nI 60 := by decide
theorem kB_61 : kB 61 = nI 61 := by decide
theorem kB_63 : kB 63 = nI 63 := by decide
theorem kB_66 : kB 66 = nI 66 := by decide
theorem kB_71 : kB 71 = nI 71 := by decide
theorem kB_74 : kB 74 = nI 74 := by decide
theorem kB_75 : kB 75 = nI 75 := by decide
theorem kB_84 : kB 84 = nI 84 := by decide
theorem kB_97 : kB 97 = nI 97 := by decide
theorem kB_99 : kB 99 = nI 99 := by decide
theorem kB_100 : kB 100 = nI 100 := by decide
theorem kB_122 : kB 122 = nI 122 := by decide
theorem kS_188 : kS 188 = nI 188 := by decide
theorem kS_200 : kS 200 = nI 200 := by decide
theorem kS_255 : kS 255 = nI 255 := by decide
theorem kS_330 : kS 330 = nI 330 := by decide
theorem kS_352 : kS 352 = nI 352 := by decide
theorem kS_700 : kS 700 = nI 700 := by decide
theorem kS_999 : kS 999 = nI 999 := by decide
theorem kS_1000 : kS 1000 = nI 1000 := by decide
theorem kI_m8 : kI (-8) = (-8) := by decide
theorem kI_m1 : kI (-1) = (-1) := by decide
theorem kI_0 : kI 0 = nI 0 := by decide
theorem kI_1 : kI 1 = nI 1 := by decide
theorem kI_2 : kI 2 = nI 2 := by decide
theorem kI_3 : kI 3 = nI 3 := by decide
theorem kI_4 : kI 4 = nI 4 := by decide
theorem kI_5 : kI 5 = nI 5 := by decide
theorem kI_6 : kI 6 = nI 6 := by decide

def LX11_no : List (Nat × Nat × List En) := [(0, 7, [(.aload_n 0, 0, 0, 0), (.iload_n 1, 0, 0, 0), (.putfield 56, 186, 11, 11), (.iconst (-1), 0, 0, 0), (.ireturn, 0, 0, 0)])]
theorem nX11_no : mX11_no.2.2.2.1 = 2 := rfl
theorem kX11_no : okP mX11_no LX11_no = true := by decide +kernel

def LX11_anew : List (Nat × Nat × List En) := [(0, 11, [(.aload_n 0, 0, 0, 0), (.iconst 0, 0, 0, 0), (.putfield 53, 175, 11, 0), (.aload_n 0, 0, 0, 0), (.iconst 0, 0, 0, 0), (.putfield 56, 186, 11, 11), (.return_, 0, 0, 0)])]
theorem nX11_anew : mX11_anew.2.2.2.1 = 1 := rfl
theorem kX11_anew : okP mX11_anew LX11_anew = true := by decide +kernel

def LX11_isNot : List (Nat × Nat × List En) := [(0, 7, [(.aload_n 0, 0, 0, 0), (.iload_n 1, 0, 0, 0), (.putfield 56, 186, 11, 11), (.iconst 0, 0, 0, 0), (.ireturn, 0, 0, 0)])]
theorem nX11_isNot : mX11_isNot.2.2.2.1 = 2 := rfl
theorem kX11_isNot : okP mX11_isNot LX11_isNot = true := by decide +kernel

def LX11_in : List (Nat × Nat × List En) := [(0, 5, [(.iload_n 0, 0, 0, 0), (.iload_n 1, 0, 0, 0), (.if_icmp .lt 12, 14, 0, 0)]),
  (5, 10, [(.iload_n 0, 0, 0, 0), (.iload_n 2, 0, 0, 0), (.if_icmp .gt 7, 14, 0, 0)]),
  (10, 14, [(.iconst 1, 0, 0, 0), (.goto 4, 15, 0, 0)]),
  (14, 15, [(.iconst 0, 0, 0, 0)]),
  (15, 16, [(.ireturn, 0, 0, 0)])]
theorem nX11_in : mX11_in.2.2.2.1 = 3 := rfl
theorem kX11_in : okP mX11_in LX11_in = true := by decide +kernel

def LX11_hasBit : List (Nat × Nat × List En) := [(0, 9, [(.iload_n 0, 0, 0, 0), (.iload_n 1, 0, 0, 0), (.ishr, 0, 0, 0), (.iconst 1, 0, 0, 0), (.iand, 0, 0, 0), (.iconst 1, 0, 0, 0), (.if_icmp .ne 7, 13, 0, 0)]),
  (9, 13, [(.iconst 1, 0, 0, 0), (.goto 4, 14, 0, 0)]),
  (13, 14, [(.iconst 0, 0, 0, 0)]),
  (14, 15, [(.ireturn, 0, 0, 0)])]
theorem nX11_hasBit : mX11_hasBit.2.2.2.1 = 2 := rfl
theorem kX11_hasBit : okP mX11_hasBit LX11_hasBit = true := by decide +kernel

def LX11_ones : List (Nat × Nat × List En) := [(0, 4, [(.iconst 0, 0, 0, 0), (.istore_n 1, 0, 0, 0), (.iconst 0, 0, 0, 0), (.istore_n 2, 0, 0, 0)]),
  (4, 10, [(.iload_n 2, 0, 0, 0), (.bipush 15, 0, 0, 0), (.if_icmp .ge 17, 24, 0, 0)]),
  (10, 24, [(.iload_n 1, 0, 0, 0), (.iload_n 0, 0, 0, 0), (.iload_n 2, 0, 0, 0), (.ishr, 0, 0, 0), (.iconst 1, 0, 0, 0), (.iand, 0, 0, 0), (.iadd, 0, 0, 0), (.istore_n 1, 0, 0, 0), (.iinc 2 1, 0, 0, 0), (.goto (-17), 4, 0, 0)]),
  (24, 26, [(.iload_n 1, 0, 0, 0), (.ireturn, 0, 0, 0)])]
theorem nX11_ones : mX11_ones.2.2.2.1 = 3 := rfl
theorem kX11_ones : okP mX11_ones LX11_ones = true := by decide +kernel

def LX11_see : List (Nat × Nat × List En) := [(0, 8, [(.iload_n 1, 0, 0, 0), (.aload_n 0, 0, 0, 0), (.getfield 62, 178, 11, 3), (.if_icmp .ge 12, 17, 0, 0)]),
  (8, 17, [(.aload_n 0, 0, 0, 0), (.getfield 7, 176, 11, 1), (.iload_n 1, 0, 0, 0), (.iaload, 0, 0, 0), (.goto 4, 18, 0, 0)]),
  (17, 18, [(.iconst (-1), 0, 0, 0)]),
  (18, 19, [(.ireturn, 0, 0, 0)])]
theorem nX11_see : mX11_see.2.2.2.1 = 2 := rfl
theorem kX11_see : okP mX11_see LX11_see = true := by decide +kernel

def LX11_isSmall : List (Nat × Nat × List En) := [(0, 6, [(.iload_n 0, 0, 0, 0), (.bipush 97, 0, 0, 0), (.if_icmp .lt 13, 16, 0, 0)]),
  (6, 12, [(.iload_n 0, 0, 0, 0), (.bipush 122, 0, 0, 0), (.if_icmp .gt 7, 16, 0, 0)]),
  (12, 16, [(.iconst 1, 0, 0, 0), (.goto 4, 17, 0, 0)]),
  (16, 17, [(.iconst 0, 0, 0, 0)]),
  (17, 18, [(.ireturn, 0, 0, 0)])]
theorem nX11_isSmall : mX11_isSmall.2.2.2.1 = 1 := rfl
theorem kX11_isSmall : okP mX11_isSmall LX11_isSmall = true := by decide +kernel

def LX11_isDigit : List (Nat × Nat × List En) := [(0, 6, [(.iload_n 0, 0, 0, 0), (.bipush 48, 0, 0, 0), (.if_icmp .lt 13, 16, 0, 0)]),
  (6, 12, [(.iload_n 0, 0, 0, 0), (.bipush 57, 0, 0, 0), (.if_icmp .gt 7, 16, 0, 0)]),
  (12, 16, [(.iconst 1, 0, 0, 0), (.goto 4, 17, 0, 0)]),
  (16, 17, [(.iconst 0, 0, 0, 0)]),
  (17, 18, [(.ireturn, 0, 0, 0)])]
theorem nX11_isDigit : mX11_isDigit.2.2.2.1 = 1 := rfl
theorem kX11_isDigit : okP mX11_isDigit LX11_isDigit = true := by decide +kernel

def LX11_thrown : List (Nat × Nat × List En) := [(0, 5, [(.aload_n 0, 0, 0, 0), (.getfield 53, 175, 11, 0), (.ireturn, 0, 0, 0)])]
theorem nX11_thrown : mX11_thrown.2.2.2.1 = 1 := rfl
theorem kX11_thrown : okP mX11_thrown LX11_thrown = true := by decide +kernel

def LX11_wrong : List (Nat × Nat × List En) := [(0, 7, [(.aload_n 0, 0, 0, 0), (.getfield 91, 188, 11, 13), (.ifCond .eq 4, 8, 0, 0)]),
  (7, 8, [(.return_, 0, 0, 0)]),
  (8, 24, [(.aload_n 0, 0, 0, 0), (.iconst 1, 0, 0, 0), (.putfield 91, 188, 11, 13), (.aload_n 0, 0, 0, 0), (.iload_n 1, 0, 0, 0), (.putfield 95, 184, 11, 9), (.aload_n 0, 0, 0, 0), (.iload_n 2, 0, 0, 0), (.putfield 13, 185, 11, 10), (.return_, 0, 0, 0)])]
theorem nX11_wrong : mX11_wrong.2.2.2.1 = 3 := rfl
theorem kX11_wrong : okP mX11_wrong LX11_wrong = true := by decide +kernel

def LX11_why : List (Nat × Nat × List En) := [(0, 4, [(.iload_n 1, 0, 0, 0), (.ifCond .ne 7, 8, 0, 0)]),
  (4, 8, [(.iconst 1, 0, 0, 0), (.goto 12, 17, 0, 0)]),
  (8, 12, [(.iload_n 2, 0, 0, 0), (.ifCond .eq 7, 16, 0, 0)]),
  (12, 16, [(.iconst 0, 0, 0, 0), (.goto 4, 17, 0, 0)]),
  (16, 17, [(.iconst 2, 0, 0, 0)]),
  (17, 18, [(.ireturn, 0, 0, 0)])]
theorem nX11_why : mX11_why.2.2.2.1 = 3 := rfl
theorem kX11_why : okP mX11_why LX11_why = true := by decide +kernel

def LX11_nameAt : List (Nat × Nat × List En) := [(0, 5, [(.bipush (-2), 0, 0, 0), (.istore_n 2, 0, 0, 0), (.iconst 0, 0, 0, 0), (.istore_n 3, 0, 0, 0)]),
  (5, 15, [(.iload_n 3, 0, 0, 0), (.aload_n 0, 0, 0, 0), (.getfield 20, 190, 11, 15), (.iconst 4, 0, 0, 0), (.iaload, 0, 0, 0), (.if_icmp .ge 55, 67, 0, 0)]),
  (15, 30, [(.aload_n 0, 0, 0, 0), (.getfield 20, 190, 11, 15), (.bipush 19, 0, 0, 0), (.iconst 2, 0, 0, 0), (.iload_n 3, 0, 0, 0), (.imul, 0, 0, 0), (.iadd, 0, 0, 0), (.iaload, 0, 0, 0), (.iload_n 1, 0, 0, 0), (.if_icmp .gt 34, 61, 0, 0)]),
  (30, 34, [(.iload_n 2, 0, 0, 0), (.ifCond .lt 28, 59, 0, 0)]),
  (34, 59, [(.aload_n 0, 0, 0, 0), (.getfield 20, 190, 11, 15), (.bipush 19, 0, 0, 0), (.iconst 2, 0, 0, 0), (.iload_n 3, 0, 0, 0), (.imul, 0, 0, 0), (.iadd, 0, 0, 0), (.iaload, 0, 0, 0), (.aload_n 0, 0, 0, 0), (.getfield 20, 190, 11, 15), (.bipush 19, 0, 0, 0), (.iconst 2, 0, 0, 0), (.iload_n 2, 0, 0, 0), (.imul, 0, 0, 0), (.iadd, 0, 0, 0), (.iaload, 0, 0, 0), (.if_icmp .le 5, 61, 0, 0)]),
  (59, 61, [(.iload_n 3, 0, 0, 0), (.istore_n 2, 0, 0, 0)]),
  (61, 67, [(.iinc 3 1, 0, 0, 0), (.goto (-59), 5, 0, 0)]),
  (67, 69, [(.iload_n 2, 0, 0, 0), (.ireturn, 0, 0, 0)])]
theorem nX11_nameAt : mX11_nameAt.2.2.2.1 = 4 := rfl
theorem kX11_nameAt : okP mX11_nameAt LX11_nameAt = true := by decide +kernel

theorem qX11_lives_5 : okC mX11_lives 5 (.invokestatic 245) 222 239 1 2 = true := by decide +kernel -- X11_hasBit
def LX11_lives : List (Nat × Nat × List En) := [(0, 5, [(.aload_n 1, 0, 0, 0), (.bipush 10, 0, 0, 0), (.iaload, 0, 0, 0), (.iload_n 2, 0, 0, 0)]),
  (8, 11, [(.ifCond .ne 7, 15, 0, 0)]),
  (11, 15, [(.iconst 1, 0, 0, 0), (.goto 4, 16, 0, 0)]),
  (15, 16, [(.iconst 0, 0, 0, 0)]),
  (16, 17, [(.ireturn, 0, 0, 0)])]
theorem nX11_lives : mX11_lives.2.2.2.1 = 3 := rfl
theorem kX11_lives : okP mX11_lives LX11_lives = true := by decide +kernel

def LX11_seenOf : List (Nat × Nat × List En) := [(0, 19, [(.aload_n 0, 0, 0, 0), (.getfield 20, 190, 11, 15), (.bipush 9, 0, 0, 0), (.iconst 2, 0, 0, 0), (.iload_n 2, 0, 0, 0), (.imul, 0, 0, 0), (.iadd, 0, 0, 0), (.iaload, 0, 0, 0), (.istore 4, 0, 0, 0), (.iload 4, 0, 0, 0), (.iconst 1, 0, 0, 0), (.if_icmp .ne 15, 31, 0, 0)]),
  (19, 31, [(.iload_n 3, 0, 0, 0), (.iconst 3, 0, 0, 0), (.aload_n 1, 0, 0, 0), (.iconst 5, 0, 0, 0), (.iload_n 2, 0, 0, 0), (.iadd, 0, 0, 0), (.iaload, 0, 0, 0), (.imul, 0, 0, 0), (.iadd, 0, 0, 0), (.goto 16, 44, 0, 0)]),
  (31, 37, [(.iload 4, 0, 0, 0), (.iconst 2, 0, 0, 0), (.if_icmp .ne 9, 43, 0, 0)]),
  (37, 43, [(.iconst 2, 0, 0, 0), (.iload_n 3, 0, 0, 0), (.imul, 0, 0, 0), (.goto 4, 44, 0, 0)]),
  (43, 44, [(.iload_n 3, 0, 0, 0)]),
  (44, 45, [(.ireturn, 0, 0, 0)])]
theorem nX11_seenOf : mX11_seenOf.2.2.2.1 = 5 := rfl
theorem kX11_seenOf : okP mX11_seenOf LX11_seenOf = true := by decide +kernel

theorem qX11_isPerson_17 : okC mX11_isPerson 17 (.invokestatic 140) 182 197 1 3 = true := by decide +kernel -- X11_in
def LX11_isPerson : List (Nat × Nat × List En) := [(0, 7, [(.aload_n 0, 0, 0, 0), (.getfield 174, 189, 11, 14), (.ifCond .eq 23, 27, 0, 0)]),
  (7, 17, [(.iload_n 1, 0, 0, 0), (.iconst 0, 0, 0, 0), (.aload_n 0, 0, 0, 0), (.getfield 20, 190, 11, 15), (.iconst 3, 0, 0, 0), (.iaload, 0, 0, 0), (.iconst 1, 0, 0, 0), (.isub, 0, 0, 0)]),
  (20, 23, [(.ifCond .eq 7, 27, 0, 0)]),
  (23, 27, [(.iconst 1, 0, 0, 0), (.goto 4, 28, 0, 0)]),
  (27, 28, [(.iconst 0, 0, 0, 0)]),
  (28, 29, [(.ireturn, 0, 0, 0)])]
theorem nX11_isPerson : mX11_isPerson.2.2.2.1 = 2 := rfl
theorem kX11_isPerson : okP mX11_isPerson LX11_isPerson = true := by decide +kernel

theorem qX11_isName_17 : okC mX11_isName 17 (.invokestatic 140) 182 197 1 3 = true := by decide +kernel -- X11_in
def LX11_isName : List (Nat × Nat × List En) := [(0, 7, [(.aload_n 0, 0, 0, 0), (.getfield 174, 189, 11, 14), (.ifCond .eq 23, 27, 0, 0)]),
  (7, 17, [(.iload_n 1, 0, 0, 0), (.iconst 0, 0, 0, 0), (.aload_n 0, 0, 0, 0), (.getfield 20, 190, 11, 15), (.iconst 4, 0, 0, 0), (.iaload, 0, 0, 0), (.iconst 1, 0, 0, 0), (.isub, 0, 0, 0)]),
  (20, 23, [(.ifCond .eq 7, 27, 0, 0)]),
  (23, 27, [(.iconst 1, 0, 0, 0), (.goto 4, 28, 0, 0)]),
  (27, 28, [(.iconst 0, 0, 0, 0)]),
  (28, 29, [(.ireturn, 0, 0, 0)])]
theorem nX11_isName : mX11_isName.2.2.2.1 = 2 := rfl
theorem kX11_isName : okP mX11_isName LX11_isName = true := by decide +kernel

def LX11_everybody : List (Nat × Nat × List En) := [(0, 11, [(.iconst 1, 0, 0, 0), (.aload_n 0, 0, 0, 0), (.getfield 20, 190, 11, 15), (.iconst 3, 0, 0, 0), (.iaload, 0, 0, 0), (.ishl, 0, 0, 0), (.iconst 1, 0, 0, 0), (.isub, 0, 0, 0), (.ireturn, 0, 0, 0)])]
theorem nX11_everybody : mX11_everybody.2.2.2.1 = 1 := rfl
theorem kX11_everybody : okP mX11_everybody LX11_everybody = true := by decide +kernel

theorem qX11_aheadWhy_6 : okC mX11_aheadWhy 6 (.invokestatic 140) 182 197 1 3 = true := by decide +kernel -- X11_in
theorem qX11_aheadWhy_9 : okC mX11_aheadWhy 9 (.invokevirtual 241) 235 252 0 2 = true := by decide +kernel -- X11_why
def LX11_aheadWhy : List (Nat × Nat × List En) := [(0, 6, [(.aload_n 0, 0, 0, 0), (.iload_n 1, 0, 0, 0), (.iload_n 3, 0, 0, 0), (.iload_n 2, 0, 0, 0), (.bipush 60, 0, 0, 0)]),
  (12, 13, [(.ireturn, 0, 0, 0)])]
theorem nX11_aheadWhy : mX11_aheadWhy.2.2.2.1 = 4 := rfl
theorem kX11_aheadWhy : okP mX11_aheadWhy LX11_aheadWhy = true := by decide +kernel

theorem qX11_fastWhy_3 : okC mX11_fastWhy 3 (.invokevirtual 288) 216 233 0 1 = true := by decide +kernel -- X11_isName
theorem qX11_fastWhy_9 : okC mX11_fastWhy 9 (.invokestatic 140) 182 197 1 3 = true := by decide +kernel -- X11_in
theorem qX11_fastWhy_12 : okC mX11_fastWhy 12 (.invokevirtual 241) 235 252 0 2 = true := by decide +kernel -- X11_why
def LX11_fastWhy : List (Nat × Nat × List En) := [(0, 3, [(.aload_n 0, 0, 0, 0), (.aload_n 0, 0, 0, 0), (.iload_n 1, 0, 0, 0)]),
  (6, 9, [(.iload_n 2, 0, 0, 0), (.iconst 1, 0, 0, 0), (.iconst 3, 0, 0, 0)]),
  (15, 16, [(.ireturn, 0, 0, 0)])]
theorem nX11_fastWhy : mX11_fastWhy.2.2.2.1 = 3 := rfl
theorem kX11_fastWhy : okP mX11_fastWhy LX11_fastWhy = true := by decide +kernel

set_option maxRecDepth 100000 in
set_option maxHeartbeats 4000000 in
theorem rI {x : Int32} : rOK (some .int) (some (.int x)) := ⟨.int, rfl, rfl⟩
set_option maxRecDepth 100000 in
set_option maxHeartbeats 4000000 in
theorem rZ {c : Prop} [Decidable c] : rOK (some .boolean) (some (.int (if c then nI 1 else nI 0))) := by
  split
  · exact ⟨.boolean, rfl, rfl⟩
  · exact ⟨.boolean, rfl, rfl⟩
set_option maxRecDepth 100000 in
set_option maxHeartbeats 4000000 in
theorem cl_lt {n : Nat} (h : n < 2147483648) : (nI n).toNatClampNeg = n := nI_clamp (by omega)
set_option maxRecDepth 100000 in
set_option maxHeartbeats 4000000 in
theorem in_lt {n N : Nat} (h : n < N) (hN : N < 2147483648) : vp_in (nI n) N := vp_in_nI h (by omega)
set_option maxRecDepth 100000 in
set_option maxHeartbeats 4000000 in
theorem lt_iff {a b : Nat} (ha : a < 2147483648) (hb : b < 2147483648) : nI a < nI b ↔ a < b := nI_ltI (by omega) (by omega)
set_option maxRecDepth 100000 in
set_option maxHeartbeats 4000000 in
theorem not0 {n : Nat} (h : n < 2147483648) : ¬ nI n < 0 := nI_pos (by omega)
/-- a number, or none: as the program has it -/
def oI (o : Option Nat) : Int32 := match o with
  | none => -2
  | some k => nI k
def btr (f : Nat → Int32) (n : Nat) (o : Option Nat) : Bool := match o with
  | none => true
  | some j => decide (f j < f n)
/-- the name of the greatest from, of the first n, that x reaches -/
def nmF (f : Nat → Int32) (x : Int32) : Nat → Option Nat
  | 0 => none
  | n + 1 => if ¬ x < f n ∧ btr f n (nmF f x n) = true then some n else nmF f x n
set_option maxRecDepth 100000 in
set_option maxHeartbeats 4000000 in
theorem nmF_lt (f : Nat → Int32) (x : Int32) : ∀ (n k : Nat), nmF f x n = some k → k < n := by
  intro n
  induction n with
  | zero => intro k h; cases h
  | succ n ih =>
    intro k h
    unfold nmF at h
    split at h
    · cases h; omega
    · have := ih k h; omega
set_option maxRecDepth 100000 in
set_option maxHeartbeats 4000000 in
theorem nmF_no {f : Nat → Int32} {x : Int32} {k : Nat} (c : x < f k) : nmF f x (k + 1) = nmF f x k := if_neg (fun z => z.1 c)
set_option maxRecDepth 100000 in
set_option maxHeartbeats 4000000 in
theorem nmF_1 {f : Nat → Int32} {x : Int32} {k : Nat} (c : ¬ x < f k) (hb : nmF f x k = none) : nmF f x (k + 1) = some k := if_pos ⟨c, by rw [hb]; rfl⟩
set_option maxRecDepth 100000 in
set_option maxHeartbeats 4000000 in
theorem nmF_y {f : Nat → Int32} {x : Int32} {k j : Nat} (c : ¬ x < f k) (hb : nmF f x k = some j) (c3 : f j < f k) : nmF f x (k + 1) = some k := if_pos ⟨c, by rw [hb]; exact decide_eq_true c3⟩
set_option maxRecDepth 100000 in
set_option maxHeartbeats 4000000 in
theorem nmF_n {f : Nat → Int32} {x : Int32} {k j : Nat} (hb : nmF f x k = some j) (c3 : ¬ f j < f k) : nmF f x (k + 1) = some j := (if_neg (fun z => c3 (by have := z.2; rw [hb] at this; exact of_decide_eq_true this))).trans hb
set_option maxRecDepth 100000 in
set_option maxHeartbeats 4000000 in
theorem nmF_neg {f : Nat → Int32} {x : Int32} {k : Nat} (hk : k < 1000) (c : oI (nmF f x k) < 0) : nmF f x k = none := by
  cases hb : nmF f x k with
  | none => rfl
  | some j =>
    rw [hb] at c
    have := nmF_lt _ _ _ _ hb
    exact absurd c (not0 (by omega))
set_option maxRecDepth 100000 in
set_option maxHeartbeats 4000000 in
theorem nmF_pos {f : Nat → Int32} {x : Int32} {k : Nat} (c : ¬ oI (nmF f x k) < 0) : ∃ j, nmF f x k = some j ∧ j < k := by
  cases hb : nmF f x k with
  | none => rw [hb] at c; exact absurd (by decide) c
  | some j => exact ⟨j, rfl, nmF_lt _ _ _ _ hb⟩
section MLEAF
variable {d : Nat} {h : aH} {F : Nat → Int32} {G : Nat → Int64} {B : Nat → List Int32}
set_option maxRecDepth 100000 in
set_option maxHeartbeats 4000000 in
theorem c_no (hl : 181 ≤ h.length) (y : Int32) : CT d mX11_no (0, 0) [.ref 167, .int y] (MH h F G B) (fun r h' => r = some (.int (-1)) ∧ h' = MH h (fu F 11 y) G B) := by
  refine ct_ev (by decide +kernel) (Nat.le_of_ble_eq_true rfl) (fun r h' q => by rw [q.1]; exact rI) ?_
  refine ev_p 5 [] rfl kX11_no ?_
  simp only [LX11_no, nX11_no, evP, evK, List.lookup, evL, stq, qLI, qLL, qLR, qSI, qSL, qSR, qIn, qI2, qD2, qL2, qLD, qI1, qDu, qDD, qPo, qIf, qIc, qG2, qG1, qGF, qP1, qPF, xCl, qA1, qAl, qB1, qBl, qJ1, qJl, qR2, qR1, qRl, qIs1, qIs, qBs1, qBs, qJs1, qJs, qN1, xNl, qNl, qRI, qRJ, qRV, fv0, fv1, fv2, fv3, sto1, sto2, kil, pf, eN, eL, List.cons_append, List.nil_append, List.append_nil, List.length_cons, List.length_nil, List.getElem?_cons_zero, List.getElem?_cons_succ, List.getElem?_nil, List.set_cons_succ, List.set_cons_zero, List.replicate, List.not_mem_nil, List.mem_cons, Nat.reduceBEq, Nat.reduceAdd, Nat.reduceSub, Nat.reduceLT, Nat.reduceLeDiff, Nat.reduceEqDiff, Nat.succ_eq_add_one, Nat.zero_add, Nat.zero_lt_succ, Value.category, false_or, or_false, or_self, if_false, if_true, ite_false, ite_true, reduceIte, true_and, and_true, false_and, and_false, not_true_eq_false, not_false_eq_true, reduceCtorEq, Option.toList, kB_m100, kB_m2, kB_6, kB_7, kB_8, kB_9, kB_10, kB_11, kB_12, kB_13, kB_14, kB_15, kB_16, kB_19, kB_20, kB_22, kB_24, kB_31, kB_32, kB_35, kB_48, kB_51, kB_57, kB_59, kB_60, kB_61, kB_63, kB_66, kB_71, kB_74, kB_75, kB_84, kB_97, kB_99, kB_100, kB_122, kS_188, kS_200, kS_255, kS_330, kS_352, kS_700, kS_999, kS_1000, kI_m8, kI_m1, kI_0, kI_1, kI_2, kI_3, kI_4, kI_5, kI_6, MH_o hl, MH_so hl, MH_0 hl, MH_s0 hl, MH_1 hl, MH_s1 hl, MH_2 hl, MH_s2 hl, MH_3 hl, MH_s3 hl, MH_4 hl, MH_s4 hl, MH_5 hl, MH_s5 hl, MH_6 hl, MH_s6 hl, MH_7 hl, MH_s7 hl, MH_8 hl, MH_s8 hl, MH_9 hl, MH_s9 hl, MH_10 hl, MH_s10 hl, MH_11 hl, MH_s11 hl, MH_12 hl, MH_s12 hl, mF_len, mF_0, mF_1, mF_2, mF_3, mF_4, mF_5, mF_6, mF_7, mF_8, mF_9, mF_10, mF_11, mF_12, mF_13, mF_14, mF_15, mF_16, mF_17, mF_18, mF_19, mF_20, mF_21, mF_22, mF_23, mF_24, mF_25, mF_26, mF_27, mF_28, mF_29, mF_30, mF_31, mF_32, mF_33, mF_34, mF_35, mF_36, mF_37, mF_38, mF_39, mF_40, mF_41, mF_42, mF_43, mF_s0, tM_0, mF_s2, tM_2, mF_s3, tM_3, mF_s4, tM_4, mF_s5, tM_5, mF_s6, tM_6, mF_s7, tM_7, mF_s8, tM_8, mF_s9, tM_9, mF_s10, tM_10, mF_s11, tM_11, mF_s13, tM_13, mF_s14, tM_14, mF_s23, tM_23, mF_s24, tM_24, mF_s25, tM_25, mF_s26, tM_26, mF_s29, tM_29, mF_s30, tM_30, mF_s31, tM_31, mF_s32, tM_32, mF_s33, tM_33, mF_s34, tM_34, mF_s35, tM_35, mF_s37, tM_37, mF_s38, tM_38, mF_s39, tM_39, mF_s40, tM_40, mF_s41, tM_41, mF_s42, tM_42, mF_s43, tM_43]
set_option maxRecDepth 100000 in
set_option maxHeartbeats 4000000 in
theorem c_anew (hl : 181 ≤ h.length) : CT d mX11_anew (0, 0) [.ref 167] (MH h F G B) (fun r h' => r = none ∧ h' = MH h (fu (fu F 0 (nI 0)) 11 (nI 0)) G B) := by
  refine ct_ev (by decide +kernel) (Nat.le_of_ble_eq_true rfl) (fun r h' q => by rw [q.1]; rfl) ?_
  refine ev_p 5 [] rfl kX11_anew ?_
  simp only [LX11_anew, nX11_anew, evP, evK, List.lookup, evL, stq, qLI, qLL, qLR, qSI, qSL, qSR, qIn, qI2, qD2, qL2, qLD, qI1, qDu, qDD, qPo, qIf, qIc, qG2, qG1, qGF, qP1, qPF, xCl, qA1, qAl, qB1, qBl, qJ1, qJl, qR2, qR1, qRl, qIs1, qIs, qBs1, qBs, qJs1, qJs, qN1, xNl, qNl, qRI, qRJ, qRV, fv0, fv1, fv2, fv3, sto1, sto2, kil, pf, eN, eL, List.cons_append, List.nil_append, List.append_nil, List.length_cons, List.length_nil, List.getElem?_cons_zero, List.getElem?_cons_succ, List.getElem?_nil, List.set_cons_succ, List.set_cons_zero, List.replicate, List.not_mem_nil, List.mem_cons, Nat.reduceBEq, Nat.reduceAdd, Nat.reduceSub, Nat.reduceLT, Nat.reduceLeDiff, Nat.reduceEqDiff, Nat.succ_eq_add_one, Nat.zero_add, Nat.zero_lt_succ, Value.category, false_or, or_false, or_self, if_false, if_true, ite_false, ite_true, reduceIte, true_and, and_true, false_and, and_false, not_true_eq_false, not_false_eq_true, reduceCtorEq, Option.toList, kB_m100, kB_m2, kB_6, kB_7, kB_8, kB_9, kB_10, kB_11, kB_12, kB_13, kB_14, kB_15, kB_16, kB_19, kB_20, kB_22, kB_24, kB_31, kB_32, kB_35, kB_48, kB_51, kB_57, kB_59, kB_60, kB_61, kB_63, kB_66, kB_71, kB_74, kB_75, kB_84, kB_97, kB_99, kB_100, kB_122, kS_188, kS_200, kS_255, kS_330, kS_352, kS_700, kS_999, kS_1000, kI_m8, kI_m1, kI_0, kI_1, kI_2, kI_3, kI_4, kI_5, kI_6, MH_o hl, MH_so hl, MH_0 hl, MH_s0 hl, MH_1 hl, MH_s1 hl, MH_2 hl, MH_s2 hl, MH_3 hl, MH_s3 hl, MH_4 hl, MH_s4 hl, MH_5 hl, MH_s5 hl, MH_6 hl, MH_s6 hl, MH_7 hl, MH_s7 hl, MH_8 hl, MH_s8 hl, MH_9 hl, MH_s9 hl, MH_10 hl, MH_s10 hl, MH_11 hl, MH_s11 hl, MH_12 hl, MH_s12 hl, mF_len, mF_0, mF_1, mF_2, mF_3, mF_4, mF_5, mF_6, mF_7, mF_8, mF_9, mF_10, mF_11, mF_12, mF_13, mF_14, mF_15, mF_16, mF_17, mF_18, mF_19, mF_20, mF_21, mF_22, mF_23, mF_24, mF_25, mF_26, mF_27, mF_28, mF_29, mF_30, mF_31, mF_32, mF_33, mF_34, mF_35, mF_36, mF_37, mF_38, mF_39, mF_40, mF_41, mF_42, mF_43, mF_s0, tM_0, mF_s2, tM_2, mF_s3, tM_3, mF_s4, tM_4, mF_s5, tM_5, mF_s6, tM_6, mF_s7, tM_7, mF_s8, tM_8, mF_s9, tM_9, mF_s10, tM_10, mF_s11, tM_11, mF_s13, tM_13, mF_s14, tM_14, mF_s23, tM_23, mF_s24, tM_24, mF_s25, tM_25, mF_s26, tM_26, mF_s29, tM_29, mF_s30, tM_30, mF_s31, tM_31, mF_s32, tM_32, mF_s33, tM_33, mF_s34, tM_34, mF_s35, tM_35, mF_s37, tM_37, mF_s38, tM_38, mF_s39, tM_39, mF_s40, tM_40, mF_s41, tM_41, mF_s42, tM_42, mF_s43, tM_43]
set_option maxRecDepth 100000 in
set_option maxHeartbeats 4000000 in
theorem c_isNot (hl : 181 ≤ h.length) (y : Int32) : CT d mX11_isNot (0, 0) [.ref 167, .int y] (MH h F G B) (fun r h' => r = some (.int (nI 0)) ∧ h' = MH h (fu F 11 y) G B) := by
  refine ct_ev (by decide +kernel) (Nat.le_of_ble_eq_true rfl) (fun r h' q => by rw [q.1]; exact ⟨.boolean, rfl, rfl⟩) ?_
  refine ev_p 5 [] rfl kX11_isNot ?_
  simp only [LX11_isNot, nX11_isNot, evP, evK, List.lookup, evL, stq, qLI, qLL, qLR, qSI, qSL, qSR, qIn, qI2, qD2, qL2, qLD, qI1, qDu, qDD, qPo, qIf, qIc, qG2, qG1, qGF, qP1, qPF, xCl, qA1, qAl, qB1, qBl, qJ1, qJl, qR2, qR1, qRl, qIs1, qIs, qBs1, qBs, qJs1, qJs, qN1, xNl, qNl, qRI, qRJ, qRV, fv0, fv1, fv2, fv3, sto1, sto2, kil, pf, eN, eL, List.cons_append, List.nil_append, List.append_nil, List.length_cons, List.length_nil, List.getElem?_cons_zero, List.getElem?_cons_succ, List.getElem?_nil, List.set_cons_succ, List.set_cons_zero, List.replicate, List.not_mem_nil, List.mem_cons, Nat.reduceBEq, Nat.reduceAdd, Nat.reduceSub, Nat.reduceLT, Nat.reduceLeDiff, Nat.reduceEqDiff, Nat.succ_eq_add_one, Nat.zero_add, Nat.zero_lt_succ, Value.category, false_or, or_false, or_self, if_false, if_true, ite_false, ite_true, reduceIte, true_and, and_true, false_and, and_false, not_true_eq_false, not_false_eq_true, reduceCtorEq, Option.toList, kB_m100, kB_m2, kB_6, kB_7, kB_8, kB_9, kB_10, kB_11, kB_12, kB_13, kB_14, kB_15, kB_16, kB_19, kB_20, kB_22, kB_24, kB_31, kB_32, kB_35, kB_48, kB_51, kB_57, kB_59, kB_60, kB_61, kB_63, kB_66, kB_71, kB_74, kB_75, kB_84, kB_97, kB_99, kB_100, kB_122, kS_188, kS_200, kS_255, kS_330, kS_352, kS_700, kS_999, kS_1000, kI_m8, kI_m1, kI_0, kI_1, kI_2, kI_3, kI_4, kI_5, kI_6, MH_o hl, MH_so hl, MH_0 hl, MH_s0 hl, MH_1 hl, MH_s1 hl, MH_2 hl, MH_s2 hl, MH_3 hl, MH_s3 hl, MH_4 hl, MH_s4 hl, MH_5 hl, MH_s5 hl, MH_6 hl, MH_s6 hl, MH_7 hl, MH_s7 hl, MH_8 hl, MH_s8 hl, MH_9 hl, MH_s9 hl, MH_10 hl, MH_s10 hl, MH_11 hl, MH_s11 hl, MH_12 hl, MH_s12 hl, mF_len, mF_0, mF_1, mF_2, mF_3, mF_4, mF_5, mF_6, mF_7, mF_8, mF_9, mF_10, mF_11, mF_12, mF_13, mF_14, mF_15, mF_16, mF_17, mF_18, mF_19, mF_20, mF_21, mF_22, mF_23, mF_24, mF_25, mF_26, mF_27, mF_28, mF_29, mF_30, mF_31, mF_32, mF_33, mF_34, mF_35, mF_36, mF_37, mF_38, mF_39, mF_40, mF_41, mF_42, mF_43, mF_s0, tM_0, mF_s2, tM_2, mF_s3, tM_3, mF_s4, tM_4, mF_s5, tM_5, mF_s6, tM_6, mF_s7, tM_7, mF_s8, tM_8, mF_s9, tM_9, mF_s10, tM_10, mF_s11, tM_11, mF_s13, tM_13, mF_s14, tM_14, mF_s23, tM_23, mF_s24, tM_24, mF_s25, tM_25, mF_s26, tM_26, mF_s29, tM_29, mF_s30, tM_30, mF_s31, tM_31, mF_s32, tM_32, mF_s33, tM_33, mF_s34, tM_34, mF_s35, tM_35, mF_s37, tM_37, mF_s38, tM_38, mF_s39, tM_39, mF_s40, tM_40, mF_s41, tM_41, mF_s42, tM_42, mF_s43, tM_43]
set_option maxRecDepth 100000 in
set_option maxHeartbeats 4000000 in
theorem c_in (h : aH) (v a z : Int32) : CT d mX11_in (0, 0) [.int v, .int a, .int z] h (fun r h' => r = some (.int (if ¬ v < a ∧ ¬ z < v then nI 1 else nI 0)) ∧ h' = h) := by
  refine ct_ev (by decide +kernel) (Nat.le_of_ble_eq_true rfl) (fun r h' q => by rw [q.1]; exact rZ) ?_
  refine ev_p 5 [] rfl kX11_in ?_
  simp only [LX11_in, nX11_in, evP, evK, List.lookup, evL, stq, qLI, qLL, qLR, qSI, qSL, qSR, qIn, qI2, qD2, qL2, qLD, qI1, qDu, qDD, qPo, qIf, qIc, qG2, qG1, qGF, qP1, qPF, xCl, qA1, qAl, qB1, qBl, qJ1, qJl, qR2, qR1, qRl, qIs1, qIs, qBs1, qBs, qJs1, qJs, qN1, xNl, qNl, qRI, qRJ, qRV, fv0, fv1, fv2, fv3, sto1, sto2, kil, pf, eN, eL, List.cons_append, List.nil_append, List.append_nil, List.length_cons, List.length_nil, List.getElem?_cons_zero, List.getElem?_cons_succ, List.getElem?_nil, List.set_cons_succ, List.set_cons_zero, List.replicate, List.not_mem_nil, List.mem_cons, Nat.reduceBEq, Nat.reduceAdd, Nat.reduceSub, Nat.reduceLT, Nat.reduceLeDiff, Nat.reduceEqDiff, Nat.succ_eq_add_one, Nat.zero_add, Nat.zero_lt_succ, Value.category, false_or, or_false, or_self, if_false, if_true, ite_false, ite_true, reduceIte, true_and, and_true, false_and, and_false, not_true_eq_false, not_false_eq_true, reduceCtorEq, Option.toList, kB_m100, kB_m2, kB_6, kB_7, kB_8, kB_9, kB_10, kB_11, kB_12, kB_13, kB_14, kB_15, kB_16, kB_19, kB_20, kB_22, kB_24, kB_31, kB_32, kB_35, kB_48, kB_51, kB_57, kB_59, kB_60, kB_61, kB_63, kB_66, kB_71, kB_74, kB_75, kB_84, kB_97, kB_99, kB_100, kB_122, kS_188, kS_200, kS_255, kS_330, kS_352, kS_700, kS_999, kS_1000, kI_m8, kI_m1, kI_0, kI_1, kI_2, kI_3, kI_4, kI_5, kI_6]
  refine ⟨fun h1 => ?_, fun h1 => ⟨fun h2 => ?_, fun h2 => ?_⟩⟩ <;> simp_all
/-- a bit of a set -/
def bitQ (s k : Int32) : Prop := s >>> (k &&& 31) &&& nI 1 = nI 1
set_option maxRecDepth 100000 in
set_option maxHeartbeats 4000000 in
theorem c_hasBit (h : aH) (s k : Int32) : CT d mX11_hasBit (0, 0) [.int s, .int k] h (fun r h' => r = some (.int (if s >>> (k &&& 31) &&& nI 1 = nI 1 then nI 1 else nI 0)) ∧ h' = h) := by
  refine ct_ev (by decide +kernel) (Nat.le_of_ble_eq_true rfl) (fun r h' q => by rw [q.1]; exact rZ) ?_
  refine ev_p 5 [] rfl kX11_hasBit ?_
  simp only [LX11_hasBit, nX11_hasBit, evP, evK, List.lookup, evL, stq, qLI, qLL, qLR, qSI, qSL, qSR, qIn, qI2, qD2, qL2, qLD, qI1, qDu, qDD, qPo, qIf, qIc, qG2, qG1, qGF, qP1, qPF, xCl, qA1, qAl, qB1, qBl, qJ1, qJl, qR2, qR1, qRl, qIs1, qIs, qBs1, qBs, qJs1, qJs, qN1, xNl, qNl, qRI, qRJ, qRV, fv0, fv1, fv2, fv3, sto1, sto2, kil, pf, eN, eL, List.cons_append, List.nil_append, List.append_nil, List.length_cons, List.length_nil, List.getElem?_cons_zero, List.getElem?_cons_succ, List.getElem?_nil, List.set_cons_succ, List.set_cons_zero, List.replicate, List.not_mem_nil, List.mem_cons, Nat.reduceBEq, Nat.reduceAdd, Nat.reduceSub, Nat.reduceLT, Nat.reduceLeDiff, Nat.reduceEqDiff, Nat.succ_eq_add_one, Nat.zero_add, Nat.zero_lt_succ, Value.category, false_or, or_false, or_self, if_false, if_true, ite_false, ite_true, reduceIte, true_and, and_true, false_and, and_false, not_true_eq_false, not_false_eq_true, reduceCtorEq, Option.toList, kB_m100, kB_m2, kB_6, kB_7, kB_8, kB_9, kB_10, kB_11, kB_12, kB_13, kB_14, kB_15, kB_16, kB_19, kB_20, kB_22, kB_24, kB_31, kB_32, kB_35, kB_48, kB_51, kB_57, kB_59, kB_60, kB_61, kB_63, kB_66, kB_71, kB_74, kB_75, kB_84, kB_97, kB_99, kB_100, kB_122, kS_188, kS_200, kS_255, kS_330, kS_352, kS_700, kS_999, kS_1000, kI_m8, kI_m1, kI_0, kI_1, kI_2, kI_3, kI_4, kI_5, kI_6]
  refine ⟨fun h1 => ?_, fun h1 => ?_⟩ <;> simp_all
set_option maxRecDepth 100000 in
set_option maxHeartbeats 4000000 in
theorem c_why (hl : 181 ≤ h.length) (a b : Int32) : CT d mX11_why (0, 0) [.ref 167, .int a, .int b] (MH h F G B) (fun r h' => r = some (.int (if a = 0 then nI 1 else if b = 0 then nI 2 else nI 0)) ∧ h' = MH h F G B) := by
  refine ct_ev (by decide +kernel) (Nat.le_of_ble_eq_true rfl) (fun r h' q => by rw [q.1]; exact rI) ?_
  refine ev_p 7 [] rfl kX11_why ?_
  simp only [LX11_why, nX11_why, evP, evK, List.lookup, evL, stq, qLI, qLL, qLR, qSI, qSL, qSR, qIn, qI2, qD2, qL2, qLD, qI1, qDu, qDD, qPo, qIf, qIc, qG2, qG1, qGF, qP1, qPF, xCl, qA1, qAl, qB1, qBl, qJ1, qJl, qR2, qR1, qRl, qIs1, qIs, qBs1, qBs, qJs1, qJs, qN1, xNl, qNl, qRI, qRJ, qRV, fv0, fv1, fv2, fv3, sto1, sto2, kil, pf, eN, eL, List.cons_append, List.nil_append, List.append_nil, List.length_cons, List.length_nil, List.getElem?_cons_zero, List.getElem?_cons_succ, List.getElem?_nil, List.set_cons_succ, List.set_cons_zero, List.replicate, List.not_mem_nil, List.mem_cons, Nat.reduceBEq, Nat.reduceAdd, Nat.reduceSub, Nat.reduceLT, Nat.reduceLeDiff, Nat.reduceEqDiff, Nat.succ_eq_add_one, Nat.zero_add, Nat.zero_lt_succ, Value.category, false_or, or_false, or_self, if_false, if_true, ite_false, ite_true, reduceIte, true_and, and_true, false_and, and_false, not_true_eq_false, not_false_eq_true, reduceCtorEq, Option.toList, kB_m100, kB_m2, kB_6, kB_7, kB_8, kB_9, kB_10, kB_11, kB_12, kB_13, kB_14, kB_15, kB_16, kB_19, kB_20, kB_22, kB_24, kB_31, kB_32, kB_35, kB_48, kB_51, kB_57, kB_59, kB_60, kB_61, kB_63, kB_66, kB_71, kB_74, kB_75, kB_84, kB_97, kB_99, kB_100, kB_122, kS_188, kS_200, kS_255, kS_330, kS_352, kS_700, kS_999, kS_1000, kI_m8, kI_m1, kI_0, kI_1, kI_2, kI_3, kI_4, kI_5, kI_6, MH_o hl, MH_so hl, MH_0 hl, MH_s0 hl, MH_1 hl, MH_s1 hl, MH_2 hl, MH_s2 hl, MH_3 hl, MH_s3 hl, MH_4 hl, MH_s4 hl, MH_5 hl, MH_s5 hl, MH_6 hl, MH_s6 hl, MH_7 hl, MH_s7 hl, MH_8 hl, MH_s8 hl, MH_9 hl, MH_s9 hl, MH_10 hl, MH_s10 hl, MH_11 hl, MH_s11 hl, MH_12 hl, MH_s12 hl, mF_len, mF_0, mF_1, mF_2, mF_3, mF_4, mF_5, mF_6, mF_7, mF_8, mF_9, mF_10, mF_11, mF_12, mF_13, mF_14, mF_15, mF_16, mF_17, mF_18, mF_19, mF_20, mF_21, mF_22, mF_23, mF_24, mF_25, mF_26, mF_27, mF_28, mF_29, mF_30, mF_31, mF_32, mF_33, mF_34, mF_35, mF_36, mF_37, mF_38, mF_39, mF_40, mF_41, mF_42, mF_43, mF_s0, tM_0, mF_s2, tM_2, mF_s3, tM_3, mF_s4, tM_4, mF_s5, tM_5, mF_s6, tM_6, mF_s7, tM_7, mF_s8, tM_8, mF_s9, tM_9, mF_s10, tM_10, mF_s11, tM_11, mF_s13, tM_13, mF_s14, tM_14, mF_s23, tM_23, mF_s24, tM_24, mF_s25, tM_25, mF_s26, tM_26, mF_s29, tM_29, mF_s30, tM_30, mF_s31, tM_31, mF_s32, tM_32, mF_s33, tM_33, mF_s34, tM_34, mF_s35, tM_35, mF_s37, tM_37, mF_s38, tM_38, mF_s39, tM_39, mF_s40, tM_40, mF_s41, tM_41, mF_s42, tM_42, mF_s43, tM_43]
  refine ⟨fun h1 => ?_, fun h1 => ⟨fun h2 => ?_, fun h2 => ?_⟩⟩ <;> simp_all
set_option maxRecDepth 100000 in
set_option maxHeartbeats 4000000 in
theorem c_thrown (hl : 181 ≤ h.length) : CT d mX11_thrown (0, 0) [.ref 167] (MH h F G B) (fun r h' => r = some (.int (F 0)) ∧ h' = MH h F G B) := by
  refine ct_ev (by decide +kernel) (Nat.le_of_ble_eq_true rfl) (fun r h' q => by rw [q.1]; exact rI) ?_
  refine ev_p 7 [] rfl kX11_thrown ?_
  simp only [LX11_thrown, nX11_thrown, evP, evK, List.lookup, evL, stq, qLI, qLL, qLR, qSI, qSL, qSR, qIn, qI2, qD2, qL2, qLD, qI1, qDu, qDD, qPo, qIf, qIc, qG2, qG1, qGF, qP1, qPF, xCl, qA1, qAl, qB1, qBl, qJ1, qJl, qR2, qR1, qRl, qIs1, qIs, qBs1, qBs, qJs1, qJs, qN1, xNl, qNl, qRI, qRJ, qRV, fv0, fv1, fv2, fv3, sto1, sto2, kil, pf, eN, eL, List.cons_append, List.nil_append, List.append_nil, List.length_cons, List.length_nil, List.getElem?_cons_zero, List.getElem?_cons_succ, List.getElem?_nil, List.set_cons_succ, List.set_cons_zero, List.replicate, List.not_mem_nil, List.mem_cons, Nat.reduceBEq, Nat.reduceAdd, Nat.reduceSub, Nat.reduceLT, Nat.reduceLeDiff, Nat.reduceEqDiff, Nat.succ_eq_add_one, Nat.zero_add, Nat.zero_lt_succ, Value.category, false_or, or_false, or_self, if_false, if_true, ite_false, ite_true, reduceIte, true_and, and_true, false_and, and_false, not_true_eq_false, not_false_eq_true, reduceCtorEq, Option.toList, kB_m100, kB_m2, kB_6, kB_7, kB_8, kB_9, kB_10, kB_11, kB_12, kB_13, kB_14, kB_15, kB_16, kB_19, kB_20, kB_22, kB_24, kB_31, kB_32, kB_35, kB_48, kB_51, kB_57, kB_59, kB_60, kB_61, kB_63, kB_66, kB_71, kB_74, kB_75, kB_84, kB_97, kB_99, kB_100, kB_122, kS_188, kS_200, kS_255, kS_330, kS_352, kS_700, kS_999, kS_1000, kI_m8, kI_m1, kI_0, kI_1, kI_2, kI_3, kI_4, kI_5, kI_6, MH_o hl, MH_so hl, MH_0 hl, MH_s0 hl, MH_1 hl, MH_s1 hl, MH_2 hl, MH_s2 hl, MH_3 hl, MH_s3 hl, MH_4 hl, MH_s4 hl, MH_5 hl, MH_s5 hl, MH_6 hl, MH_s6 hl, MH_7 hl, MH_s7 hl, MH_8 hl, MH_s8 hl, MH_9 hl, MH_s9 hl, MH_10 hl, MH_s10 hl, MH_11 hl, MH_s11 hl, MH_12 hl, MH_s12 hl, mF_len, mF_0, mF_1, mF_2, mF_3, mF_4, mF_5, mF_6, mF_7, mF_8, mF_9, mF_10, mF_11, mF_12, mF_13, mF_14, mF_15, mF_16, mF_17, mF_18, mF_19, mF_20, mF_21, mF_22, mF_23, mF_24, mF_25, mF_26, mF_27, mF_28, mF_29, mF_30, mF_31, mF_32, mF_33, mF_34, mF_35, mF_36, mF_37, mF_38, mF_39, mF_40, mF_41, mF_42, mF_43, mF_s0, tM_0, mF_s2, tM_2, mF_s3, tM_3, mF_s4, tM_4, mF_s5, tM_5, mF_s6, tM_6, mF_s7, tM_7, mF_s8, tM_8, mF_s9, tM_9, mF_s10, tM_10, mF_s11, tM_11, mF_s13, tM_13, mF_s14, tM_14, mF_s23, tM_23, mF_s24, tM_24, mF_s25, tM_25, mF_s26, tM_26, mF_s29, tM_29, mF_s30, tM_30, mF_s31, tM_31, mF_s32, tM_32, mF_s33, tM_33, mF_s34, tM_34, mF_s35, tM_35, mF_s37, tM_37, mF_s38, tM_38, mF_s39, tM_39, mF_s40, tM_40, mF_s41, tM_41, mF_s42, tM_42, mF_s43, tM_43]
set_option maxRecDepth 100000 in
set_option maxHeartbeats 4000000 in
theorem e_nameAt (hl : 181 ≤ h.length) {N : Nat} (hN : N ≤ 8) (h2 : (B 2).length = 188) (h4 : (B 2).getD 4 0 = nI N) (x : Int32) : ∀ (n k : Nat), k + n = N → Ev d none mX11_nameAt (0, 0) 5 [.ref 167, .int x, .int (oI (nmF (fun k => (B 2).getD (19 + 2 * k) 0) x k)), .int (nI k)] [] (MH h F G B) (fun r h' => r = some (.int (oI (nmF (fun k => (B 2).getD (19 + 2 * k) 0) x N))) ∧ h' = MH h F G B) := by
  intro n
  induction n with
  | zero =>
    intro k hk
    refine ev_p 9 [5] rfl kX11_nameAt ?_
    have e : k = N := by omega
    subst e
    simp only [LX11_nameAt, nX11_nameAt, evP, evK, List.lookup, evL, stq, qLI, qLL, qLR, qSI, qSL, qSR, qIn, qI2, qD2, qL2, qLD, qI1, qDu, qDD, qPo, qIf, qIc, qG2, qG1, qGF, qP1, qPF, xCl, qA1, qAl, qB1, qBl, qJ1, qJl, qR2, qR1, qRl, qIs1, qIs, qBs1, qBs, qJs1, qJs, qN1, xNl, qNl, qRI, qRJ, qRV, fv0, fv1, fv2, fv3, sto1, sto2, kil, pf, eN, eL, List.cons_append, List.nil_append, List.append_nil, List.length_cons, List.length_nil, List.getElem?_cons_zero, List.getElem?_cons_succ, List.getElem?_nil, List.set_cons_succ, List.set_cons_zero, List.replicate, List.not_mem_nil, List.mem_cons, Nat.reduceBEq, Nat.reduceAdd, Nat.reduceSub, Nat.reduceLT, Nat.reduceLeDiff, Nat.reduceEqDiff, Nat.succ_eq_add_one, Nat.zero_add, Nat.zero_lt_succ, Value.category, false_or, or_false, or_self, if_false, if_true, ite_false, ite_true, reduceIte, true_and, and_true, false_and, and_false, not_true_eq_false, not_false_eq_true, reduceCtorEq, Option.toList, kB_m100, kB_m2, kB_6, kB_7, kB_8, kB_9, kB_10, kB_11, kB_12, kB_13, kB_14, kB_15, kB_16, kB_19, kB_20, kB_22, kB_24, kB_31, kB_32, kB_35, kB_48, kB_51, kB_57, kB_59, kB_60, kB_61, kB_63, kB_66, kB_71, kB_74, kB_75, kB_84, kB_97, kB_99, kB_100, kB_122, kS_188, kS_200, kS_255, kS_330, kS_352, kS_700, kS_999, kS_1000, kI_m8, kI_m1, kI_0, kI_1, kI_2, kI_3, kI_4, kI_5, kI_6, MH_o hl, MH_so hl, MH_0 hl, MH_s0 hl, MH_1 hl, MH_s1 hl, MH_2 hl, MH_s2 hl, MH_3 hl, MH_s3 hl, MH_4 hl, MH_s4 hl, MH_5 hl, MH_s5 hl, MH_6 hl, MH_s6 hl, MH_7 hl, MH_s7 hl, MH_8 hl, MH_s8 hl, MH_9 hl, MH_s9 hl, MH_10 hl, MH_s10 hl, MH_11 hl, MH_s11 hl, MH_12 hl, MH_s12 hl, mF_len, mF_0, mF_1, mF_2, mF_3, mF_4, mF_5, mF_6, mF_7, mF_8, mF_9, mF_10, mF_11, mF_12, mF_13, mF_14, mF_15, mF_16, mF_17, mF_18, mF_19, mF_20, mF_21, mF_22, mF_23, mF_24, mF_25, mF_26, mF_27, mF_28, mF_29, mF_30, mF_31, mF_32, mF_33, mF_34, mF_35, mF_36, mF_37, mF_38, mF_39, mF_40, mF_41, mF_42, mF_43, mF_s0, tM_0, mF_s2, tM_2, mF_s3, tM_3, mF_s4, tM_4, mF_s5, tM_5, mF_s6, tM_6, mF_s7, tM_7, mF_s8, tM_8, mF_s9, tM_9, mF_s10, tM_10, mF_s11, tM_11, mF_s13, tM_13, mF_s14, tM_14, mF_s23, tM_23, mF_s24, tM_24, mF_s25, tM_25, mF_s26, tM_26, mF_s29, tM_29, mF_s30, tM_30, mF_s31, tM_31, mF_s32, tM_32, mF_s33, tM_33, mF_s34, tM_34, mF_s35, tM_35, mF_s37, tM_37, mF_s38, tM_38, mF_s39, tM_39, mF_s40, tM_40, mF_s41, tM_41, mF_s42, tM_42, mF_s43, tM_43, nI_add, pk_mul, cl_lt (show 4 < 2147483648 by omega), h2, h4]
    exact ⟨in_lt (by omega) (by omega), fun z => absurd z (by rw [lt_iff (by omega) (by omega)]; omega), fun _ => trivial⟩
  | succ n ih =>
    intro k hk
    refine ev_p 9 [5] rfl kX11_nameAt ?_
    have ih' := ih (k + 1) (by omega)
    simp only [LX11_nameAt, nX11_nameAt, evP, evK, List.lookup, evL, stq, qLI, qLL, qLR, qSI, qSL, qSR, qIn, qI2, qD2, qL2, qLD, qI1, qDu, qDD, qPo, qIf, qIc, qG2, qG1, qGF, qP1, qPF, xCl, qA1, qAl, qB1, qBl, qJ1, qJl, qR2, qR1, qRl, qIs1, qIs, qBs1, qBs, qJs1, qJs, qN1, xNl, qNl, qRI, qRJ, qRV, fv0, fv1, fv2, fv3, sto1, sto2, kil, pf, eN, eL, List.cons_append, List.nil_append, List.append_nil, List.length_cons, List.length_nil, List.getElem?_cons_zero, List.getElem?_cons_succ, List.getElem?_nil, List.set_cons_succ, List.set_cons_zero, List.replicate, List.not_mem_nil, List.mem_cons, Nat.reduceBEq, Nat.reduceAdd, Nat.reduceSub, Nat.reduceLT, Nat.reduceLeDiff, Nat.reduceEqDiff, Nat.succ_eq_add_one, Nat.zero_add, Nat.zero_lt_succ, Value.category, false_or, or_false, or_self, if_false, if_true, ite_false, ite_true, reduceIte, true_and, and_true, false_and, and_false, not_true_eq_false, not_false_eq_true, reduceCtorEq, Option.toList, kB_m100, kB_m2, kB_6, kB_7, kB_8, kB_9, kB_10, kB_11, kB_12, kB_13, kB_14, kB_15, kB_16, kB_19, kB_20, kB_22, kB_24, kB_31, kB_32, kB_35, kB_48, kB_51, kB_57, kB_59, kB_60, kB_61, kB_63, kB_66, kB_71, kB_74, kB_75, kB_84, kB_97, kB_99, kB_100, kB_122, kS_188, kS_200, kS_255, kS_330, kS_352, kS_700, kS_999, kS_1000, kI_m8, kI_m1, kI_0, kI_1, kI_2, kI_3, kI_4, kI_5, kI_6, MH_o hl, MH_so hl, MH_0 hl, MH_s0 hl, MH_1 hl, MH_s1 hl, MH_2 hl, MH_s2 hl, MH_3 hl, MH_s3 hl, MH_4 hl, MH_s4 hl, MH_5 hl, MH_s5 hl, MH_6 hl, MH_s6 hl, MH_7 hl, MH_s7 hl, MH_8 hl, MH_s8 hl, MH_9 hl, MH_s9 hl, MH_10 hl, MH_s10 hl, MH_11 hl, MH_s11 hl, MH_12 hl, MH_s12 hl, mF_len, mF_0, mF_1, mF_2, mF_3, mF_4, mF_5, mF_6, mF_7, mF_8, mF_9, mF_10, mF_11, mF_12, mF_13, mF_14, mF_15, mF_16, mF_17, mF_18, mF_19, mF_20, mF_21, mF_22, mF_23, mF_24, mF_25, mF_26, mF_27, mF_28, mF_29, mF_30, mF_31, mF_32, mF_33, mF_34, mF_35, mF_36, mF_37, mF_38, mF_39, mF_40, mF_41, mF_42, mF_43, mF_s0, tM_0, mF_s2, tM_2, mF_s3, tM_3, mF_s4, tM_4, mF_s5, tM_5, mF_s6, tM_6, mF_s7, tM_7, mF_s8, tM_8, mF_s9, tM_9, mF_s10, tM_10, mF_s11, tM_11, mF_s13, tM_13, mF_s14, tM_14, mF_s23, tM_23, mF_s24, tM_24, mF_s25, tM_25, mF_s26, tM_26, mF_s29, tM_29, mF_s30, tM_30, mF_s31, tM_31, mF_s32, tM_32, mF_s33, tM_33, mF_s34, tM_34, mF_s35, tM_35, mF_s37, tM_37, mF_s38, tM_38, mF_s39, tM_39, mF_s40, tM_40, mF_s41, tM_41, mF_s42, tM_42, mF_s43, tM_43, nI_add, pk_mul, cl_lt (show 4 < 2147483648 by omega), cl_lt (show 19 + 2 * k < 2147483648 by omega), h2, h4]
    refine ⟨in_lt (by omega) (by omega), fun _ => ⟨in_lt (by omega) (by omega), fun c1 => ?_, fun c1 => ⟨fun c2 => ?_, fun c2 => ?_⟩⟩, fun z => absurd ((lt_iff (by omega) (by omega)).mpr (by omega)) z⟩
    · rw [nmF_no c1] at ih'; exact ih'
    · rw [nmF_1 c1 (nmF_neg (by omega) c2)] at ih'; exact ih'
    · obtain ⟨j, hb, hj⟩ := nmF_pos c2
      simp only [hb, oI, pk_mul, nI_add, cl_lt (show 19 + 2 * j < 2147483648 by omega)]
      refine ⟨in_lt (by omega) (by omega), in_lt (by omega) (by omega), fun c3 => ?_, fun c3 => ?_⟩
      · rw [nmF_y c1 hb c3] at ih'; exact ih'
      · rw [nmF_n hb c3] at ih'; exact ih'
set_option maxRecDepth 100000 in
set_option maxHeartbeats 4000000 in
theorem c_nameAt (hl : 181 ≤ h.length) {N : Nat} (hN : N ≤ 8) (h2 : (B 2).length = 188) (h4 : (B 2).getD 4 0 = nI N) (x : Int32) : CT d mX11_nameAt (0, 0) [.ref 167, .int x] (MH h F G B) (fun r h' => r = some (.int (oI (nmF (fun k => (B 2).getD (19 + 2 * k) 0) x N))) ∧ h' = MH h F G B) := by
  refine ct_ev (by decide +kernel) (Nat.le_of_ble_eq_true rfl) (fun r h' q => by rw [q.1]; exact rI) ?_
  refine ev_p 7 [5] rfl kX11_nameAt ?_
  simp only [LX11_nameAt, nX11_nameAt, evP, evK, List.lookup, evL, stq, qLI, qLL, qLR, qSI, qSL, qSR, qIn, qI2, qD2, qL2, qLD, qI1, qDu, qDD, qPo, qIf, qIc, qG2, qG1, qGF, qP1, qPF, xCl, qA1, qAl, qB1, qBl, qJ1, qJl, qR2, qR1, qRl, qIs1, qIs, qBs1, qBs, qJs1, qJs, qN1, xNl, qNl, qRI, qRJ, qRV, fv0, fv1, fv2, fv3, sto1, sto2, kil, pf, eN, eL, List.cons_append, List.nil_append, List.append_nil, List.length_cons, List.length_nil, List.getElem?_cons_zero, List.getElem?_cons_succ, List.getElem?_nil, List.set_cons_succ, List.set_cons_zero, List.replicate, List.not_mem_nil, List.mem_cons, Nat.reduceBEq, Nat.reduceAdd, Nat.reduceSub, Nat.reduceLT, Nat.reduceLeDiff, Nat.reduceEqDiff, Nat.succ_eq_add_one, Nat.zero_add, Nat.zero_lt_succ, Value.category, false_or, or_false, or_self, if_false, if_true, ite_false, ite_true, reduceIte, true_and, and_true, false_and, and_false, not_true_eq_false, not_false_eq_true, reduceCtorEq, Option.toList, kB_m100, kB_m2, kB_6, kB_7, kB_8, kB_9, kB_10, kB_11, kB_12, kB_13, kB_14, kB_15, kB_16, kB_19, kB_20, kB_22, kB_24, kB_31, kB_32, kB_35, kB_48, kB_51, kB_57, kB_59, kB_60, kB_61, kB_63, kB_66, kB_71, kB_74, kB_75, kB_84, kB_97, kB_99, kB_100, kB_122, kS_188, kS_200, kS_255, kS_330, kS_352, kS_700, kS_999, kS_1000, kI_m8, kI_m1, kI_0, kI_1, kI_2, kI_3, kI_4, kI_5, kI_6, MH_o hl, MH_so hl, MH_0 hl, MH_s0 hl, MH_1 hl, MH_s1 hl, MH_2 hl, MH_s2 hl, MH_3 hl, MH_s3 hl, MH_4 hl, MH_s4 hl, MH_5 hl, MH_s5 hl, MH_6 hl, MH_s6 hl, MH_7 hl, MH_s7 hl, MH_8 hl, MH_s8 hl, MH_9 hl, MH_s9 hl, MH_10 hl, MH_s10 hl, MH_11 hl, MH_s11 hl, MH_12 hl, MH_s12 hl, mF_len, mF_0, mF_1, mF_2, mF_3, mF_4, mF_5, mF_6, mF_7, mF_8, mF_9, mF_10, mF_11, mF_12, mF_13, mF_14, mF_15, mF_16, mF_17, mF_18, mF_19, mF_20, mF_21, mF_22, mF_23, mF_24, mF_25, mF_26, mF_27, mF_28, mF_29, mF_30, mF_31, mF_32, mF_33, mF_34, mF_35, mF_36, mF_37, mF_38, mF_39, mF_40, mF_41, mF_42, mF_43, mF_s0, tM_0, mF_s2, tM_2, mF_s3, tM_3, mF_s4, tM_4, mF_s5, tM_5, mF_s6, tM_6, mF_s7, tM_7, mF_s8, tM_8, mF_s9, tM_9, mF_s10, tM_10, mF_s11, tM_11, mF_s13, tM_13, mF_s14, tM_14, mF_s23, tM_23, mF_s24, tM_24, mF_s25, tM_25, mF_s26, tM_26, mF_s29, tM_29, mF_s30, tM_30, mF_s31, tM_31, mF_s32, tM_32, mF_s33, tM_33, mF_s34, tM_34, mF_s35, tM_35, mF_s37, tM_37, mF_s38, tM_38, mF_s39, tM_39, mF_s40, tM_40, mF_s41, tM_41, mF_s42, tM_42, mF_s43, tM_43]
  exact e_nameAt hl hN h2 h4 x N 0 (by omega)
end MLEAF
