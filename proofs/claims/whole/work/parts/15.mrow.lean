def sX11_namerOf_4 : List En := (.istore 4, 0, 0, 0) :: []
def sX11_namerOf_3 : List En := (.iconst 0, 0, 0, 0) :: sX11_namerOf_4
def sX11_namerOf_2 : List En := (.istore_n 3, 0, 0, 0) :: sX11_namerOf_3
def sX11_namerOf_0 : List En := (.bipush (-2), 0, 0, 0) :: sX11_namerOf_2
def sX11_namerOf_14 : List En := (.if_icmp .ge 55, 69, 0, 0) :: []
def sX11_namerOf_13 : List En := (.iaload, 0, 0, 0) :: sX11_namerOf_14
def sX11_namerOf_12 : List En := (.iconst 3, 0, 0, 0) :: sX11_namerOf_13
def sX11_namerOf_9 : List En := (.getfield 20, 190, 11, 15) :: sX11_namerOf_12
def sX11_namerOf_8 : List En := (.aload_n 0, 0, 0, 0) :: sX11_namerOf_9
def sX11_namerOf_6 : List En := (.iload 4, 0, 0, 0) :: sX11_namerOf_8
def sX11_namerOf_19 : List En := (.iload 4, 0, 0, 0) :: []
def sX11_namerOf_18 : List En := (.aload_n 1, 0, 0, 0) :: sX11_namerOf_19
def sX11_namerOf_17 : List En := (.aload_n 0, 0, 0, 0) :: sX11_namerOf_18
theorem qX11_namerOf_21 : okC mX11_namerOf 21 (.invokevirtual 249) 221 238 0 2 = true := by decide +kernel -- X11_lives
def sX11_namerOf_24 : List En := (.ifCond .eq 39, 63, 0, 0) :: []
def sX11_namerOf_30 : List En := (.if_icmp .eq 33, 63, 0, 0) :: []
def sX11_namerOf_29 : List En := (.iload_n 2, 0, 0, 0) :: sX11_namerOf_30
def sX11_namerOf_27 : List En := (.iload 4, 0, 0, 0) :: sX11_namerOf_29
def sX11_namerOf_34 : List En := (.ifCond .lt 26, 60, 0, 0) :: []
def sX11_namerOf_33 : List En := (.iload_n 3, 0, 0, 0) :: sX11_namerOf_34
def sX11_namerOf_44 : List En := (.iaload, 0, 0, 0) :: []
def sX11_namerOf_42 : List En := (.iload 4, 0, 0, 0) :: sX11_namerOf_44
def sX11_namerOf_41 : List En := (.aload_n 1, 0, 0, 0) :: sX11_namerOf_42
def sX11_namerOf_39 : List En := (.iload 4, 0, 0, 0) :: sX11_namerOf_41
def sX11_namerOf_38 : List En := (.aload_n 1, 0, 0, 0) :: sX11_namerOf_39
def sX11_namerOf_37 : List En := (.aload_n 0, 0, 0, 0) :: sX11_namerOf_38
theorem qX11_namerOf_45 : okC mX11_namerOf 45 (.invokevirtual 253) 223 240 0 3 = true := by decide +kernel -- X11_seenOf
def sX11_namerOf_53 : List En := (.iaload, 0, 0, 0) :: []
def sX11_namerOf_52 : List En := (.iload_n 3, 0, 0, 0) :: sX11_namerOf_53
def sX11_namerOf_51 : List En := (.aload_n 1, 0, 0, 0) :: sX11_namerOf_52
def sX11_namerOf_50 : List En := (.iload_n 3, 0, 0, 0) :: sX11_namerOf_51
def sX11_namerOf_49 : List En := (.aload_n 1, 0, 0, 0) :: sX11_namerOf_50
def sX11_namerOf_48 : List En := (.aload_n 0, 0, 0, 0) :: sX11_namerOf_49
theorem qX11_namerOf_54 : okC mX11_namerOf 54 (.invokevirtual 253) 223 240 0 3 = true := by decide +kernel -- X11_seenOf
def sX11_namerOf_57 : List En := (.if_icmp .le 6, 63, 0, 0) :: []
def sX11_namerOf_62 : List En := (.istore_n 3, 0, 0, 0) :: []
def sX11_namerOf_60 : List En := (.iload 4, 0, 0, 0) :: sX11_namerOf_62
def sX11_namerOf_66 : List En := (.goto (-60), 6, 0, 0) :: []
def sX11_namerOf_63 : List En := (.iinc 4 1, 0, 0, 0) :: sX11_namerOf_66
def sX11_namerOf_70 : List En := (.ireturn, 0, 0, 0) :: []
def sX11_namerOf_69 : List En := (.iload_n 3, 0, 0, 0) :: sX11_namerOf_70
def LX11_namerOf : List (Nat × Nat × List En) := [(0, (6, sX11_namerOf_0)), (6, (17, sX11_namerOf_6)), (17, (21, sX11_namerOf_17)), (24, (27, sX11_namerOf_24)), (27, (33, sX11_namerOf_27)), (33, (37, sX11_namerOf_33)), (37, (45, sX11_namerOf_37)), (48, (54, sX11_namerOf_48)), (57, (60, sX11_namerOf_57)), (60, (63, sX11_namerOf_60)), (63, (69, sX11_namerOf_63)), (69, (71, sX11_namerOf_69))]
theorem nX11_namerOf : mX11_namerOf.2.2.2.1 = 5 := rfl
theorem kX11_namerOf : okP mX11_namerOf LX11_namerOf = true := by decide +kernel
section
variable {d n : Nat} {X : Option (List Int32)} {b : Nat × Nat} {Q : Option Value → aH → Prop} {sp : List Nat} {xs : List Value} {h : aH} {st : List Value}
theorem pX11_namerOf_0 : evP d X mX11_namerOf b Q LX11_namerOf sp (n + 1) 0 xs h st = evL mX11_namerOf X Q (evK sp (evE d X mX11_namerOf b Q) (evP d X mX11_namerOf b Q LX11_namerOf sp n)) sX11_namerOf_0 6 xs h st := rfl
theorem pX11_namerOf_6 : evP d X mX11_namerOf b Q LX11_namerOf sp (n + 1) 6 xs h st = evL mX11_namerOf X Q (evK sp (evE d X mX11_namerOf b Q) (evP d X mX11_namerOf b Q LX11_namerOf sp n)) sX11_namerOf_6 17 xs h st := rfl
theorem pX11_namerOf_17 : evP d X mX11_namerOf b Q LX11_namerOf sp (n + 1) 17 xs h st = evL mX11_namerOf X Q (evK sp (evE d X mX11_namerOf b Q) (evP d X mX11_namerOf b Q LX11_namerOf sp n)) sX11_namerOf_17 21 xs h st := rfl
theorem pX11_namerOf_21 : evP d X mX11_namerOf b Q LX11_namerOf sp (n + 1) 21 xs h st = evE d X mX11_namerOf b Q 21 xs h st := rfl
theorem pX11_namerOf_24 : evP d X mX11_namerOf b Q LX11_namerOf sp (n + 1) 24 xs h st = evL mX11_namerOf X Q (evK sp (evE d X mX11_namerOf b Q) (evP d X mX11_namerOf b Q LX11_namerOf sp n)) sX11_namerOf_24 27 xs h st := rfl
theorem pX11_namerOf_27 : evP d X mX11_namerOf b Q LX11_namerOf sp (n + 1) 27 xs h st = evL mX11_namerOf X Q (evK sp (evE d X mX11_namerOf b Q) (evP d X mX11_namerOf b Q LX11_namerOf sp n)) sX11_namerOf_27 33 xs h st := rfl
theorem pX11_namerOf_33 : evP d X mX11_namerOf b Q LX11_namerOf sp (n + 1) 33 xs h st = evL mX11_namerOf X Q (evK sp (evE d X mX11_namerOf b Q) (evP d X mX11_namerOf b Q LX11_namerOf sp n)) sX11_namerOf_33 37 xs h st := rfl
theorem pX11_namerOf_37 : evP d X mX11_namerOf b Q LX11_namerOf sp (n + 1) 37 xs h st = evL mX11_namerOf X Q (evK sp (evE d X mX11_namerOf b Q) (evP d X mX11_namerOf b Q LX11_namerOf sp n)) sX11_namerOf_37 45 xs h st := rfl
theorem pX11_namerOf_45 : evP d X mX11_namerOf b Q LX11_namerOf sp (n + 1) 45 xs h st = evE d X mX11_namerOf b Q 45 xs h st := rfl
theorem pX11_namerOf_48 : evP d X mX11_namerOf b Q LX11_namerOf sp (n + 1) 48 xs h st = evL mX11_namerOf X Q (evK sp (evE d X mX11_namerOf b Q) (evP d X mX11_namerOf b Q LX11_namerOf sp n)) sX11_namerOf_48 54 xs h st := rfl
theorem pX11_namerOf_54 : evP d X mX11_namerOf b Q LX11_namerOf sp (n + 1) 54 xs h st = evE d X mX11_namerOf b Q 54 xs h st := rfl
theorem pX11_namerOf_57 : evP d X mX11_namerOf b Q LX11_namerOf sp (n + 1) 57 xs h st = evL mX11_namerOf X Q (evK sp (evE d X mX11_namerOf b Q) (evP d X mX11_namerOf b Q LX11_namerOf sp n)) sX11_namerOf_57 60 xs h st := rfl
theorem pX11_namerOf_60 : evP d X mX11_namerOf b Q LX11_namerOf sp (n + 1) 60 xs h st = evL mX11_namerOf X Q (evK sp (evE d X mX11_namerOf b Q) (evP d X mX11_namerOf b Q LX11_namerOf sp n)) sX11_namerOf_60 63 xs h st := rfl
theorem pX11_namerOf_63 : evP d X mX11_namerOf b Q LX11_namerOf sp (n + 1) 63 xs h st = evL mX11_namerOf X Q (evK sp (evE d X mX11_namerOf b Q) (evP d X mX11_namerOf b Q LX11_namerOf sp n)) sX11_namerOf_63 69 xs h st := rfl
theorem pX11_namerOf_69 : evP d X mX11_namerOf b Q LX11_namerOf sp (n + 1) 69 xs h st = evL mX11_namerOf X Q (evK sp (evE d X mX11_namerOf b Q) (evP d X mX11_namerOf b Q LX11_namerOf sp n)) sX11_namerOf_69 71 xs h st := rfl
end
section
variable {X : Option (List Int32)} {Q : Option Value → aH → Prop} {K : Nat → KT} {np : Nat} {xs : List Value} {h : aH} {st : List Value}
theorem uX11_namerOf_0 : evL mX11_namerOf X Q K sX11_namerOf_0 np xs h st = (qK (.int ((-2))) xs h st (evL mX11_namerOf X Q K sX11_namerOf_2 np)) := congrArg (fun v : Int32 => qK (.int v) xs h st (evL mX11_namerOf X Q K sX11_namerOf_2 np)) kB_m2
theorem uX11_namerOf_2 : evL mX11_namerOf X Q K sX11_namerOf_2 np xs h st = (qSI 5 (3) st xs h (evL mX11_namerOf X Q K sX11_namerOf_3 np)) := rfl
theorem uX11_namerOf_3 : evL mX11_namerOf X Q K sX11_namerOf_3 np xs h st = (qK (.int (nI 0)) xs h st (evL mX11_namerOf X Q K sX11_namerOf_4 np)) := congrArg (fun v : Int32 => qK (.int v) xs h st (evL mX11_namerOf X Q K sX11_namerOf_4 np)) kI_0
theorem uX11_namerOf_4 : evL mX11_namerOf X Q K sX11_namerOf_4 np xs h st = (qSI 5 4 st xs h (evL mX11_namerOf X Q K [] np)) := rfl
theorem uX11_namerOf_6 : evL mX11_namerOf X Q K sX11_namerOf_6 np xs h st = (qLI (xs[4]?) xs h st (evL mX11_namerOf X Q K sX11_namerOf_8 np)) := rfl
theorem uX11_namerOf_8 : evL mX11_namerOf X Q K sX11_namerOf_8 np xs h st = (qLR (xs[0]?) xs h st (evL mX11_namerOf X Q K sX11_namerOf_9 np)) := rfl
theorem uX11_namerOf_9 : evL mX11_namerOf X Q K sX11_namerOf_9 np xs h st = (qGF 11 15 st xs h (evL mX11_namerOf X Q K sX11_namerOf_12 np)) := rfl
theorem uX11_namerOf_12 : evL mX11_namerOf X Q K sX11_namerOf_12 np xs h st = (qK (.int (nI 3)) xs h st (evL mX11_namerOf X Q K sX11_namerOf_13 np)) := congrArg (fun v : Int32 => qK (.int v) xs h st (evL mX11_namerOf X Q K sX11_namerOf_13 np)) kI_3
theorem uX11_namerOf_13 : evL mX11_namerOf X Q K sX11_namerOf_13 np xs h st = (qAl X st xs h (evL mX11_namerOf X Q K sX11_namerOf_14 np)) := rfl
theorem uX11_namerOf_14 : evL mX11_namerOf X Q K sX11_namerOf_14 np xs h st = (qIc (fun x y => x < y) st xs h (evL mX11_namerOf X Q K [] np) (K 69)) := rfl
theorem uX11_namerOf_17 : evL mX11_namerOf X Q K sX11_namerOf_17 np xs h st = (qLR (xs[0]?) xs h st (evL mX11_namerOf X Q K sX11_namerOf_18 np)) := rfl
theorem uX11_namerOf_18 : evL mX11_namerOf X Q K sX11_namerOf_18 np xs h st = (qLR (xs[1]?) xs h st (evL mX11_namerOf X Q K sX11_namerOf_19 np)) := rfl
theorem uX11_namerOf_19 : evL mX11_namerOf X Q K sX11_namerOf_19 np xs h st = (qLI (xs[4]?) xs h st (evL mX11_namerOf X Q K [] np)) := rfl
theorem uX11_namerOf_24 : evL mX11_namerOf X Q K sX11_namerOf_24 np xs h st = (qIf (fun x => x = 0) st xs h (K 63) (evL mX11_namerOf X Q K [] np)) := rfl
theorem uX11_namerOf_27 : evL mX11_namerOf X Q K sX11_namerOf_27 np xs h st = (qLI (xs[4]?) xs h st (evL mX11_namerOf X Q K sX11_namerOf_29 np)) := rfl
theorem uX11_namerOf_29 : evL mX11_namerOf X Q K sX11_namerOf_29 np xs h st = (qLI (xs[2]?) xs h st (evL mX11_namerOf X Q K sX11_namerOf_30 np)) := rfl
theorem uX11_namerOf_30 : evL mX11_namerOf X Q K sX11_namerOf_30 np xs h st = (qIc (fun x y => x = y) st xs h (K 63) (evL mX11_namerOf X Q K [] np)) := rfl
theorem uX11_namerOf_33 : evL mX11_namerOf X Q K sX11_namerOf_33 np xs h st = (qLI (xs[3]?) xs h st (evL mX11_namerOf X Q K sX11_namerOf_34 np)) := rfl
theorem uX11_namerOf_34 : evL mX11_namerOf X Q K sX11_namerOf_34 np xs h st = (qIf (fun x => x < 0) st xs h (K 60) (evL mX11_namerOf X Q K [] np)) := rfl
theorem uX11_namerOf_37 : evL mX11_namerOf X Q K sX11_namerOf_37 np xs h st = (qLR (xs[0]?) xs h st (evL mX11_namerOf X Q K sX11_namerOf_38 np)) := rfl
theorem uX11_namerOf_38 : evL mX11_namerOf X Q K sX11_namerOf_38 np xs h st = (qLR (xs[1]?) xs h st (evL mX11_namerOf X Q K sX11_namerOf_39 np)) := rfl
theorem uX11_namerOf_39 : evL mX11_namerOf X Q K sX11_namerOf_39 np xs h st = (qLI (xs[4]?) xs h st (evL mX11_namerOf X Q K sX11_namerOf_41 np)) := rfl
theorem uX11_namerOf_41 : evL mX11_namerOf X Q K sX11_namerOf_41 np xs h st = (qLR (xs[1]?) xs h st (evL mX11_namerOf X Q K sX11_namerOf_42 np)) := rfl
theorem uX11_namerOf_42 : evL mX11_namerOf X Q K sX11_namerOf_42 np xs h st = (qLI (xs[4]?) xs h st (evL mX11_namerOf X Q K sX11_namerOf_44 np)) := rfl
theorem uX11_namerOf_44 : evL mX11_namerOf X Q K sX11_namerOf_44 np xs h st = (qAl X st xs h (evL mX11_namerOf X Q K [] np)) := rfl
theorem uX11_namerOf_48 : evL mX11_namerOf X Q K sX11_namerOf_48 np xs h st = (qLR (xs[0]?) xs h st (evL mX11_namerOf X Q K sX11_namerOf_49 np)) := rfl
theorem uX11_namerOf_49 : evL mX11_namerOf X Q K sX11_namerOf_49 np xs h st = (qLR (xs[1]?) xs h st (evL mX11_namerOf X Q K sX11_namerOf_50 np)) := rfl
theorem uX11_namerOf_50 : evL mX11_namerOf X Q K sX11_namerOf_50 np xs h st = (qLI (xs[3]?) xs h st (evL mX11_namerOf X Q K sX11_namerOf_51 np)) := rfl
theorem uX11_namerOf_51 : evL mX11_namerOf X Q K sX11_namerOf_51 np xs h st = (qLR (xs[1]?) xs h st (evL mX11_namerOf X Q K sX11_namerOf_52 np)) := rfl
theorem uX11_namerOf_52 : evL mX11_namerOf X Q K sX11_namerOf_52 np xs h st = (qLI (xs[3]?) xs h st (evL mX11_namerOf X Q K sX11_namerOf_53 np)) := rfl
theorem uX11_namerOf_53 : evL mX11_namerOf X Q K sX11_namerOf_53 np xs h st = (qAl X st xs h (evL mX11_namerOf X Q K [] np)) := rfl
theorem uX11_namerOf_57 : evL mX11_namerOf X Q K sX11_namerOf_57 np xs h st = (qIc (fun x y => y < x) st xs h (evL mX11_namerOf X Q K [] np) (K 63)) := rfl
theorem uX11_namerOf_60 : evL mX11_namerOf X Q K sX11_namerOf_60 np xs h st = (qLI (xs[4]?) xs h st (evL mX11_namerOf X Q K sX11_namerOf_62 np)) := rfl
theorem uX11_namerOf_62 : evL mX11_namerOf X Q K sX11_namerOf_62 np xs h st = (qSI 5 (3) st xs h (evL mX11_namerOf X Q K [] np)) := rfl
theorem uX11_namerOf_63 : evL mX11_namerOf X Q K sX11_namerOf_63 np xs h st = (qIn (xs[4]?) 5 4 (nI 1) xs h st (evL mX11_namerOf X Q K sX11_namerOf_66 np)) := congrArg (fun v : Int32 => qIn (xs[4]?) 5 4 v xs h st (evL mX11_namerOf X Q K sX11_namerOf_66 np)) kI_1
theorem uX11_namerOf_66 : evL mX11_namerOf X Q K sX11_namerOf_66 np xs h st = (K 6 xs h st) := rfl
theorem uX11_namerOf_69 : evL mX11_namerOf X Q K sX11_namerOf_69 np xs h st = (qLI (xs[3]?) xs h st (evL mX11_namerOf X Q K sX11_namerOf_70 np)) := rfl
theorem uX11_namerOf_70 : evL mX11_namerOf X Q K sX11_namerOf_70 np xs h st = (qRI st h Q) := rfl
end

def sX11_fastersOf_6 : List En := (.istore_n 3, 0, 0, 0) :: []
def sX11_fastersOf_5 : List En := (.iconst 0, 0, 0, 0) :: sX11_fastersOf_6
def sX11_fastersOf_4 : List En := (.istore_n 2, 0, 0, 0) :: sX11_fastersOf_5
def sX11_fastersOf_3 : List En := (.iaload, 0, 0, 0) :: sX11_fastersOf_4
def sX11_fastersOf_1 : List En := (.bipush 11, 0, 0, 0) :: sX11_fastersOf_3
def sX11_fastersOf_0 : List En := (.aload_n 1, 0, 0, 0) :: sX11_fastersOf_1
def sX11_fastersOf_14 : List En := (.if_icmp .ge 51, 65, 0, 0) :: []
def sX11_fastersOf_13 : List En := (.iaload, 0, 0, 0) :: sX11_fastersOf_14
def sX11_fastersOf_12 : List En := (.iconst 5, 0, 0, 0) :: sX11_fastersOf_13
def sX11_fastersOf_9 : List En := (.getfield 20, 190, 11, 15) :: sX11_fastersOf_12
def sX11_fastersOf_8 : List En := (.aload_n 0, 0, 0, 0) :: sX11_fastersOf_9
def sX11_fastersOf_7 : List En := (.iload_n 3, 0, 0, 0) :: sX11_fastersOf_8
def sX11_fastersOf_37 : List En := (.if_icmp .ne 19, 56, 0, 0) :: []
def sX11_fastersOf_36 : List En := (.iadd, 0, 0, 0) :: sX11_fastersOf_37
def sX11_fastersOf_35 : List En := (.iconst 1, 0, 0, 0) :: sX11_fastersOf_36
def sX11_fastersOf_34 : List En := (.iaload, 0, 0, 0) :: sX11_fastersOf_35
def sX11_fastersOf_32 : List En := (.bipush 13, 0, 0, 0) :: sX11_fastersOf_34
def sX11_fastersOf_31 : List En := (.aload_n 1, 0, 0, 0) :: sX11_fastersOf_32
def sX11_fastersOf_30 : List En := (.iaload, 0, 0, 0) :: sX11_fastersOf_31
def sX11_fastersOf_29 : List En := (.iadd, 0, 0, 0) :: sX11_fastersOf_30
def sX11_fastersOf_28 : List En := (.iconst 1, 0, 0, 0) :: sX11_fastersOf_29
def sX11_fastersOf_27 : List En := (.iadd, 0, 0, 0) :: sX11_fastersOf_28
def sX11_fastersOf_26 : List En := (.imul, 0, 0, 0) :: sX11_fastersOf_27
def sX11_fastersOf_25 : List En := (.iload_n 3, 0, 0, 0) :: sX11_fastersOf_26
def sX11_fastersOf_24 : List En := (.iconst 2, 0, 0, 0) :: sX11_fastersOf_25
def sX11_fastersOf_22 : List En := (.bipush 35, 0, 0, 0) :: sX11_fastersOf_24
def sX11_fastersOf_19 : List En := (.getfield 20, 190, 11, 15) :: sX11_fastersOf_22
def sX11_fastersOf_18 : List En := (.aload_n 0, 0, 0, 0) :: sX11_fastersOf_19
def sX11_fastersOf_17 : List En := (.iload_n 2, 0, 0, 0) :: sX11_fastersOf_18
def sX11_fastersOf_53 : List En := (.goto 4, 57, 0, 0) :: []
def sX11_fastersOf_52 : List En := (.ishl, 0, 0, 0) :: sX11_fastersOf_53
def sX11_fastersOf_51 : List En := (.iaload, 0, 0, 0) :: sX11_fastersOf_52
def sX11_fastersOf_50 : List En := (.iadd, 0, 0, 0) :: sX11_fastersOf_51
def sX11_fastersOf_49 : List En := (.imul, 0, 0, 0) :: sX11_fastersOf_50
def sX11_fastersOf_48 : List En := (.iload_n 3, 0, 0, 0) :: sX11_fastersOf_49
def sX11_fastersOf_47 : List En := (.iconst 2, 0, 0, 0) :: sX11_fastersOf_48
def sX11_fastersOf_45 : List En := (.bipush 35, 0, 0, 0) :: sX11_fastersOf_47
def sX11_fastersOf_42 : List En := (.getfield 20, 190, 11, 15) :: sX11_fastersOf_45
def sX11_fastersOf_41 : List En := (.aload_n 0, 0, 0, 0) :: sX11_fastersOf_42
def sX11_fastersOf_40 : List En := (.iconst 1, 0, 0, 0) :: sX11_fastersOf_41
def sX11_fastersOf_56 : List En := (.iconst 0, 0, 0, 0) :: []
def sX11_fastersOf_62 : List En := (.goto (-55), 7, 0, 0) :: []
def sX11_fastersOf_59 : List En := (.iinc 3 1, 0, 0, 0) :: sX11_fastersOf_62
def sX11_fastersOf_58 : List En := (.istore_n 2, 0, 0, 0) :: sX11_fastersOf_59
def sX11_fastersOf_57 : List En := (.ior, 0, 0, 0) :: sX11_fastersOf_58
def sX11_fastersOf_66 : List En := (.ireturn, 0, 0, 0) :: []
def sX11_fastersOf_65 : List En := (.iload_n 2, 0, 0, 0) :: sX11_fastersOf_66
def LX11_fastersOf : List (Nat × Nat × List En) := [(0, (7, sX11_fastersOf_0)), (7, (17, sX11_fastersOf_7)), (17, (40, sX11_fastersOf_17)), (40, (56, sX11_fastersOf_40)), (56, (57, sX11_fastersOf_56)), (57, (65, sX11_fastersOf_57)), (65, (67, sX11_fastersOf_65))]
theorem nX11_fastersOf : mX11_fastersOf.2.2.2.1 = 4 := rfl
theorem kX11_fastersOf : okP mX11_fastersOf LX11_fastersOf = true := by decide +kernel
section
variable {d n : Nat} {X : Option (List Int32)} {b : Nat × Nat} {Q : Option Value → aH → Prop} {sp : List Nat} {xs : List Value} {h : aH} {st : List Value}
theorem pX11_fastersOf_0 : evP d X mX11_fastersOf b Q LX11_fastersOf sp (n + 1) 0 xs h st = evL mX11_fastersOf X Q (evK sp (evE d X mX11_fastersOf b Q) (evP d X mX11_fastersOf b Q LX11_fastersOf sp n)) sX11_fastersOf_0 7 xs h st := rfl
theorem pX11_fastersOf_7 : evP d X mX11_fastersOf b Q LX11_fastersOf sp (n + 1) 7 xs h st = evL mX11_fastersOf X Q (evK sp (evE d X mX11_fastersOf b Q) (evP d X mX11_fastersOf b Q LX11_fastersOf sp n)) sX11_fastersOf_7 17 xs h st := rfl
theorem pX11_fastersOf_17 : evP d X mX11_fastersOf b Q LX11_fastersOf sp (n + 1) 17 xs h st = evL mX11_fastersOf X Q (evK sp (evE d X mX11_fastersOf b Q) (evP d X mX11_fastersOf b Q LX11_fastersOf sp n)) sX11_fastersOf_17 40 xs h st := rfl
theorem pX11_fastersOf_40 : evP d X mX11_fastersOf b Q LX11_fastersOf sp (n + 1) 40 xs h st = evL mX11_fastersOf X Q (evK sp (evE d X mX11_fastersOf b Q) (evP d X mX11_fastersOf b Q LX11_fastersOf sp n)) sX11_fastersOf_40 56 xs h st := rfl
theorem pX11_fastersOf_56 : evP d X mX11_fastersOf b Q LX11_fastersOf sp (n + 1) 56 xs h st = evL mX11_fastersOf X Q (evK sp (evE d X mX11_fastersOf b Q) (evP d X mX11_fastersOf b Q LX11_fastersOf sp n)) sX11_fastersOf_56 57 xs h st := rfl
theorem pX11_fastersOf_57 : evP d X mX11_fastersOf b Q LX11_fastersOf sp (n + 1) 57 xs h st = evL mX11_fastersOf X Q (evK sp (evE d X mX11_fastersOf b Q) (evP d X mX11_fastersOf b Q LX11_fastersOf sp n)) sX11_fastersOf_57 65 xs h st := rfl
theorem pX11_fastersOf_65 : evP d X mX11_fastersOf b Q LX11_fastersOf sp (n + 1) 65 xs h st = evL mX11_fastersOf X Q (evK sp (evE d X mX11_fastersOf b Q) (evP d X mX11_fastersOf b Q LX11_fastersOf sp n)) sX11_fastersOf_65 67 xs h st := rfl
end
section
variable {X : Option (List Int32)} {Q : Option Value → aH → Prop} {K : Nat → KT} {np : Nat} {xs : List Value} {h : aH} {st : List Value}
theorem uX11_fastersOf_0 : evL mX11_fastersOf X Q K sX11_fastersOf_0 np xs h st = (qLR (xs[1]?) xs h st (evL mX11_fastersOf X Q K sX11_fastersOf_1 np)) := rfl
theorem uX11_fastersOf_1 : evL mX11_fastersOf X Q K sX11_fastersOf_1 np xs h st = (qK (.int (nI 11)) xs h st (evL mX11_fastersOf X Q K sX11_fastersOf_3 np)) := congrArg (fun v : Int32 => qK (.int v) xs h st (evL mX11_fastersOf X Q K sX11_fastersOf_3 np)) kB_11
theorem uX11_fastersOf_3 : evL mX11_fastersOf X Q K sX11_fastersOf_3 np xs h st = (qAl X st xs h (evL mX11_fastersOf X Q K sX11_fastersOf_4 np)) := rfl
theorem uX11_fastersOf_4 : evL mX11_fastersOf X Q K sX11_fastersOf_4 np xs h st = (qSI 4 (2) st xs h (evL mX11_fastersOf X Q K sX11_fastersOf_5 np)) := rfl
theorem uX11_fastersOf_5 : evL mX11_fastersOf X Q K sX11_fastersOf_5 np xs h st = (qK (.int (nI 0)) xs h st (evL mX11_fastersOf X Q K sX11_fastersOf_6 np)) := congrArg (fun v : Int32 => qK (.int v) xs h st (evL mX11_fastersOf X Q K sX11_fastersOf_6 np)) kI_0
theorem uX11_fastersOf_6 : evL mX11_fastersOf X Q K sX11_fastersOf_6 np xs h st = (qSI 4 (3) st xs h (evL mX11_fastersOf X Q K [] np)) := rfl
theorem uX11_fastersOf_7 : evL mX11_fastersOf X Q K sX11_fastersOf_7 np xs h st = (qLI (xs[3]?) xs h st (evL mX11_fastersOf X Q K sX11_fastersOf_8 np)) := rfl
theorem uX11_fastersOf_8 : evL mX11_fastersOf X Q K sX11_fastersOf_8 np xs h st = (qLR (xs[0]?) xs h st (evL mX11_fastersOf X Q K sX11_fastersOf_9 np)) := rfl
theorem uX11_fastersOf_9 : evL mX11_fastersOf X Q K sX11_fastersOf_9 np xs h st = (qGF 11 15 st xs h (evL mX11_fastersOf X Q K sX11_fastersOf_12 np)) := rfl
theorem uX11_fastersOf_12 : evL mX11_fastersOf X Q K sX11_fastersOf_12 np xs h st = (qK (.int (nI 5)) xs h st (evL mX11_fastersOf X Q K sX11_fastersOf_13 np)) := congrArg (fun v : Int32 => qK (.int v) xs h st (evL mX11_fastersOf X Q K sX11_fastersOf_13 np)) kI_5
theorem uX11_fastersOf_13 : evL mX11_fastersOf X Q K sX11_fastersOf_13 np xs h st = (qAl X st xs h (evL mX11_fastersOf X Q K sX11_fastersOf_14 np)) := rfl
theorem uX11_fastersOf_14 : evL mX11_fastersOf X Q K sX11_fastersOf_14 np xs h st = (qIc (fun x y => x < y) st xs h (evL mX11_fastersOf X Q K [] np) (K 65)) := rfl
theorem uX11_fastersOf_17 : evL mX11_fastersOf X Q K sX11_fastersOf_17 np xs h st = (qLI (xs[2]?) xs h st (evL mX11_fastersOf X Q K sX11_fastersOf_18 np)) := rfl
theorem uX11_fastersOf_18 : evL mX11_fastersOf X Q K sX11_fastersOf_18 np xs h st = (qLR (xs[0]?) xs h st (evL mX11_fastersOf X Q K sX11_fastersOf_19 np)) := rfl
theorem uX11_fastersOf_19 : evL mX11_fastersOf X Q K sX11_fastersOf_19 np xs h st = (qGF 11 15 st xs h (evL mX11_fastersOf X Q K sX11_fastersOf_22 np)) := rfl
theorem uX11_fastersOf_22 : evL mX11_fastersOf X Q K sX11_fastersOf_22 np xs h st = (qK (.int (nI 35)) xs h st (evL mX11_fastersOf X Q K sX11_fastersOf_24 np)) := congrArg (fun v : Int32 => qK (.int v) xs h st (evL mX11_fastersOf X Q K sX11_fastersOf_24 np)) kB_35
theorem uX11_fastersOf_24 : evL mX11_fastersOf X Q K sX11_fastersOf_24 np xs h st = (qK (.int (nI 2)) xs h st (evL mX11_fastersOf X Q K sX11_fastersOf_25 np)) := congrArg (fun v : Int32 => qK (.int v) xs h st (evL mX11_fastersOf X Q K sX11_fastersOf_25 np)) kI_2
theorem uX11_fastersOf_25 : evL mX11_fastersOf X Q K sX11_fastersOf_25 np xs h st = (qLI (xs[3]?) xs h st (evL mX11_fastersOf X Q K sX11_fastersOf_26 np)) := rfl
theorem uX11_fastersOf_26 : evL mX11_fastersOf X Q K sX11_fastersOf_26 np xs h st = (qI2 (fun x y => x * y) st xs h (evL mX11_fastersOf X Q K sX11_fastersOf_27 np)) := rfl
theorem uX11_fastersOf_27 : evL mX11_fastersOf X Q K sX11_fastersOf_27 np xs h st = (qI2 (fun x y => x + y) st xs h (evL mX11_fastersOf X Q K sX11_fastersOf_28 np)) := rfl
theorem uX11_fastersOf_28 : evL mX11_fastersOf X Q K sX11_fastersOf_28 np xs h st = (qK (.int (nI 1)) xs h st (evL mX11_fastersOf X Q K sX11_fastersOf_29 np)) := congrArg (fun v : Int32 => qK (.int v) xs h st (evL mX11_fastersOf X Q K sX11_fastersOf_29 np)) kI_1
theorem uX11_fastersOf_29 : evL mX11_fastersOf X Q K sX11_fastersOf_29 np xs h st = (qI2 (fun x y => x + y) st xs h (evL mX11_fastersOf X Q K sX11_fastersOf_30 np)) := rfl
theorem uX11_fastersOf_30 : evL mX11_fastersOf X Q K sX11_fastersOf_30 np xs h st = (qAl X st xs h (evL mX11_fastersOf X Q K sX11_fastersOf_31 np)) := rfl
theorem uX11_fastersOf_31 : evL mX11_fastersOf X Q K sX11_fastersOf_31 np xs h st = (qLR (xs[1]?) xs h st (evL mX11_fastersOf X Q K sX11_fastersOf_32 np)) := rfl
theorem uX11_fastersOf_32 : evL mX11_fastersOf X Q K sX11_fastersOf_32 np xs h st = (qK (.int (nI 13)) xs h st (evL mX11_fastersOf X Q K sX11_fastersOf_34 np)) := congrArg (fun v : Int32 => qK (.int v) xs h st (evL mX11_fastersOf X Q K sX11_fastersOf_34 np)) kB_13
theorem uX11_fastersOf_34 : evL mX11_fastersOf X Q K sX11_fastersOf_34 np xs h st = (qAl X st xs h (evL mX11_fastersOf X Q K sX11_fastersOf_35 np)) := rfl
theorem uX11_fastersOf_35 : evL mX11_fastersOf X Q K sX11_fastersOf_35 np xs h st = (qK (.int (nI 1)) xs h st (evL mX11_fastersOf X Q K sX11_fastersOf_36 np)) := congrArg (fun v : Int32 => qK (.int v) xs h st (evL mX11_fastersOf X Q K sX11_fastersOf_36 np)) kI_1
theorem uX11_fastersOf_36 : evL mX11_fastersOf X Q K sX11_fastersOf_36 np xs h st = (qI2 (fun x y => x + y) st xs h (evL mX11_fastersOf X Q K sX11_fastersOf_37 np)) := rfl
theorem uX11_fastersOf_37 : evL mX11_fastersOf X Q K sX11_fastersOf_37 np xs h st = (qIc (fun x y => x = y) st xs h (evL mX11_fastersOf X Q K [] np) (K 56)) := rfl
theorem uX11_fastersOf_40 : evL mX11_fastersOf X Q K sX11_fastersOf_40 np xs h st = (qK (.int (nI 1)) xs h st (evL mX11_fastersOf X Q K sX11_fastersOf_41 np)) := congrArg (fun v : Int32 => qK (.int v) xs h st (evL mX11_fastersOf X Q K sX11_fastersOf_41 np)) kI_1
theorem uX11_fastersOf_41 : evL mX11_fastersOf X Q K sX11_fastersOf_41 np xs h st = (qLR (xs[0]?) xs h st (evL mX11_fastersOf X Q K sX11_fastersOf_42 np)) := rfl
theorem uX11_fastersOf_42 : evL mX11_fastersOf X Q K sX11_fastersOf_42 np xs h st = (qGF 11 15 st xs h (evL mX11_fastersOf X Q K sX11_fastersOf_45 np)) := rfl
theorem uX11_fastersOf_45 : evL mX11_fastersOf X Q K sX11_fastersOf_45 np xs h st = (qK (.int (nI 35)) xs h st (evL mX11_fastersOf X Q K sX11_fastersOf_47 np)) := congrArg (fun v : Int32 => qK (.int v) xs h st (evL mX11_fastersOf X Q K sX11_fastersOf_47 np)) kB_35
theorem uX11_fastersOf_47 : evL mX11_fastersOf X Q K sX11_fastersOf_47 np xs h st = (qK (.int (nI 2)) xs h st (evL mX11_fastersOf X Q K sX11_fastersOf_48 np)) := congrArg (fun v : Int32 => qK (.int v) xs h st (evL mX11_fastersOf X Q K sX11_fastersOf_48 np)) kI_2
theorem uX11_fastersOf_48 : evL mX11_fastersOf X Q K sX11_fastersOf_48 np xs h st = (qLI (xs[3]?) xs h st (evL mX11_fastersOf X Q K sX11_fastersOf_49 np)) := rfl
theorem uX11_fastersOf_49 : evL mX11_fastersOf X Q K sX11_fastersOf_49 np xs h st = (qI2 (fun x y => x * y) st xs h (evL mX11_fastersOf X Q K sX11_fastersOf_50 np)) := rfl
theorem uX11_fastersOf_50 : evL mX11_fastersOf X Q K sX11_fastersOf_50 np xs h st = (qI2 (fun x y => x + y) st xs h (evL mX11_fastersOf X Q K sX11_fastersOf_51 np)) := rfl
theorem uX11_fastersOf_51 : evL mX11_fastersOf X Q K sX11_fastersOf_51 np xs h st = (qAl X st xs h (evL mX11_fastersOf X Q K sX11_fastersOf_52 np)) := rfl
theorem uX11_fastersOf_52 : evL mX11_fastersOf X Q K sX11_fastersOf_52 np xs h st = (qI2 (fun x y => x <<< (y &&& 31)) st xs h (evL mX11_fastersOf X Q K sX11_fastersOf_53 np)) := rfl
theorem uX11_fastersOf_53 : evL mX11_fastersOf X Q K sX11_fastersOf_53 np xs h st = (K 57 xs h st) := rfl
theorem uX11_fastersOf_56 : evL mX11_fastersOf X Q K sX11_fastersOf_56 np xs h st = (qK (.int (nI 0)) xs h st (evL mX11_fastersOf X Q K [] np)) := congrArg (fun v : Int32 => qK (.int v) xs h st (evL mX11_fastersOf X Q K [] np)) kI_0
theorem uX11_fastersOf_57 : evL mX11_fastersOf X Q K sX11_fastersOf_57 np xs h st = (qI2 (fun x y => x ||| y) st xs h (evL mX11_fastersOf X Q K sX11_fastersOf_58 np)) := rfl
theorem uX11_fastersOf_58 : evL mX11_fastersOf X Q K sX11_fastersOf_58 np xs h st = (qSI 4 (2) st xs h (evL mX11_fastersOf X Q K sX11_fastersOf_59 np)) := rfl
theorem uX11_fastersOf_59 : evL mX11_fastersOf X Q K sX11_fastersOf_59 np xs h st = (qIn (xs[3]?) 4 3 (nI 1) xs h st (evL mX11_fastersOf X Q K sX11_fastersOf_62 np)) := congrArg (fun v : Int32 => qIn (xs[3]?) 4 3 v xs h st (evL mX11_fastersOf X Q K sX11_fastersOf_62 np)) kI_1
theorem uX11_fastersOf_62 : evL mX11_fastersOf X Q K sX11_fastersOf_62 np xs h st = (K 7 xs h st) := rfl
theorem uX11_fastersOf_65 : evL mX11_fastersOf X Q K sX11_fastersOf_65 np xs h st = (qLI (xs[2]?) xs h st (evL mX11_fastersOf X Q K sX11_fastersOf_66 np)) := rfl
theorem uX11_fastersOf_66 : evL mX11_fastersOf X Q K sX11_fastersOf_66 np xs h st = (qRI st h Q) := rfl
end

def sX11_copy_1 : List En := (.istore 5, 0, 0, 0) :: []
def sX11_copy_0 : List En := (.iconst 0, 0, 0, 0) :: sX11_copy_1
def sX11_copy_7 : List En := (.if_icmp .ge 21, 28, 0, 0) :: []
def sX11_copy_5 : List En := (.iload 4, 0, 0, 0) :: sX11_copy_7
def sX11_copy_3 : List En := (.iload 5, 0, 0, 0) :: sX11_copy_5
def sX11_copy_25 : List En := (.goto (-22), 3, 0, 0) :: []
def sX11_copy_22 : List En := (.iinc 5 1, 0, 0, 0) :: sX11_copy_25
def sX11_copy_21 : List En := (.iastore, 0, 0, 0) :: sX11_copy_22
def sX11_copy_20 : List En := (.iaload, 0, 0, 0) :: sX11_copy_21
def sX11_copy_19 : List En := (.iadd, 0, 0, 0) :: sX11_copy_20
def sX11_copy_17 : List En := (.iload 5, 0, 0, 0) :: sX11_copy_19
def sX11_copy_16 : List En := (.iload_n 1, 0, 0, 0) :: sX11_copy_17
def sX11_copy_15 : List En := (.aload_n 0, 0, 0, 0) :: sX11_copy_16
def sX11_copy_14 : List En := (.iadd, 0, 0, 0) :: sX11_copy_15
def sX11_copy_12 : List En := (.iload 5, 0, 0, 0) :: sX11_copy_14
def sX11_copy_11 : List En := (.iload_n 3, 0, 0, 0) :: sX11_copy_12
def sX11_copy_10 : List En := (.aload_n 2, 0, 0, 0) :: sX11_copy_11
def sX11_copy_28 : List En := (.return_, 0, 0, 0) :: []
def LX11_copy : List (Nat × Nat × List En) := [(0, (3, sX11_copy_0)), (3, (10, sX11_copy_3)), (10, (28, sX11_copy_10)), (28, (29, sX11_copy_28))]
theorem nX11_copy : mX11_copy.2.2.2.1 = 6 := rfl
theorem kX11_copy : okP mX11_copy LX11_copy = true := by decide +kernel
section
variable {d n : Nat} {X : Option (List Int32)} {b : Nat × Nat} {Q : Option Value → aH → Prop} {sp : List Nat} {xs : List Value} {h : aH} {st : List Value}
theorem pX11_copy_0 : evP d X mX11_copy b Q LX11_copy sp (n + 1) 0 xs h st = evL mX11_copy X Q (evK sp (evE d X mX11_copy b Q) (evP d X mX11_copy b Q LX11_copy sp n)) sX11_copy_0 3 xs h st := rfl
theorem pX11_copy_3 : evP d X mX11_copy b Q LX11_copy sp (n + 1) 3 xs h st = evL mX11_copy X Q (evK sp (evE d X mX11_copy b Q) (evP d X mX11_copy b Q LX11_copy sp n)) sX11_copy_3 10 xs h st := rfl
theorem pX11_copy_10 : evP d X mX11_copy b Q LX11_copy sp (n + 1) 10 xs h st = evL mX11_copy X Q (evK sp (evE d X mX11_copy b Q) (evP d X mX11_copy b Q LX11_copy sp n)) sX11_copy_10 28 xs h st := rfl
theorem pX11_copy_28 : evP d X mX11_copy b Q LX11_copy sp (n + 1) 28 xs h st = evL mX11_copy X Q (evK sp (evE d X mX11_copy b Q) (evP d X mX11_copy b Q LX11_copy sp n)) sX11_copy_28 29 xs h st := rfl
end
section
variable {X : Option (List Int32)} {Q : Option Value → aH → Prop} {K : Nat → KT} {np : Nat} {xs : List Value} {h : aH} {st : List Value}
theorem uX11_copy_0 : evL mX11_copy X Q K sX11_copy_0 np xs h st = (qK (.int (nI 0)) xs h st (evL mX11_copy X Q K sX11_copy_1 np)) := congrArg (fun v : Int32 => qK (.int v) xs h st (evL mX11_copy X Q K sX11_copy_1 np)) kI_0
theorem uX11_copy_1 : evL mX11_copy X Q K sX11_copy_1 np xs h st = (qSI 6 5 st xs h (evL mX11_copy X Q K [] np)) := rfl
theorem uX11_copy_3 : evL mX11_copy X Q K sX11_copy_3 np xs h st = (qLI (xs[5]?) xs h st (evL mX11_copy X Q K sX11_copy_5 np)) := rfl
theorem uX11_copy_5 : evL mX11_copy X Q K sX11_copy_5 np xs h st = (qLI (xs[4]?) xs h st (evL mX11_copy X Q K sX11_copy_7 np)) := rfl
theorem uX11_copy_7 : evL mX11_copy X Q K sX11_copy_7 np xs h st = (qIc (fun x y => x < y) st xs h (evL mX11_copy X Q K [] np) (K 28)) := rfl
theorem uX11_copy_10 : evL mX11_copy X Q K sX11_copy_10 np xs h st = (qLR (xs[2]?) xs h st (evL mX11_copy X Q K sX11_copy_11 np)) := rfl
theorem uX11_copy_11 : evL mX11_copy X Q K sX11_copy_11 np xs h st = (qLI (xs[3]?) xs h st (evL mX11_copy X Q K sX11_copy_12 np)) := rfl
theorem uX11_copy_12 : evL mX11_copy X Q K sX11_copy_12 np xs h st = (qLI (xs[5]?) xs h st (evL mX11_copy X Q K sX11_copy_14 np)) := rfl
theorem uX11_copy_14 : evL mX11_copy X Q K sX11_copy_14 np xs h st = (qI2 (fun x y => x + y) st xs h (evL mX11_copy X Q K sX11_copy_15 np)) := rfl
theorem uX11_copy_15 : evL mX11_copy X Q K sX11_copy_15 np xs h st = (qLR (xs[0]?) xs h st (evL mX11_copy X Q K sX11_copy_16 np)) := rfl
theorem uX11_copy_16 : evL mX11_copy X Q K sX11_copy_16 np xs h st = (qLI (xs[1]?) xs h st (evL mX11_copy X Q K sX11_copy_17 np)) := rfl
theorem uX11_copy_17 : evL mX11_copy X Q K sX11_copy_17 np xs h st = (qLI (xs[5]?) xs h st (evL mX11_copy X Q K sX11_copy_19 np)) := rfl
theorem uX11_copy_19 : evL mX11_copy X Q K sX11_copy_19 np xs h st = (qI2 (fun x y => x + y) st xs h (evL mX11_copy X Q K sX11_copy_20 np)) := rfl
theorem uX11_copy_20 : evL mX11_copy X Q K sX11_copy_20 np xs h st = (qAl X st xs h (evL mX11_copy X Q K sX11_copy_21 np)) := rfl
theorem uX11_copy_21 : evL mX11_copy X Q K sX11_copy_21 np xs h st = (qIs st xs h (evL mX11_copy X Q K sX11_copy_22 np)) := rfl
theorem uX11_copy_22 : evL mX11_copy X Q K sX11_copy_22 np xs h st = (qIn (xs[5]?) 6 5 (nI 1) xs h st (evL mX11_copy X Q K sX11_copy_25 np)) := congrArg (fun v : Int32 => qIn (xs[5]?) 6 5 v xs h st (evL mX11_copy X Q K sX11_copy_25 np)) kI_1
theorem uX11_copy_25 : evL mX11_copy X Q K sX11_copy_25 np xs h st = (K 3 xs h st) := rfl
theorem uX11_copy_28 : evL mX11_copy X Q K sX11_copy_28 np xs h st = (qRV st h Q) := rfl
end

def bitB (s : Int32) (p : Nat) : Bool := decide (s >>> (nI p &&& 31) &&& nI 1 = nI 1)
def seenF (kd fa hg : Int32) : Int32 := if kd = nI 1 then hg + nI 3 * fa else if kd = nI 2 then nI 2 * hg else hg
/-- who, of the first n, is seen hungriest, but one -/
def namF (lv : Nat → Bool) (sn : Nat → Int32) (as : Int32) : Nat → Option Nat
  | 0 => none
  | n + 1 => if lv n = true ∧ ¬ nI n = as ∧ btr sn n (namF lv sn as n) = true then some n else namF lv sn as n
set_option maxRecDepth 100000 in
set_option maxHeartbeats 4000000 in
theorem namF_lt (lv : Nat → Bool) (sn : Nat → Int32) (as : Int32) : ∀ (n k : Nat), namF lv sn as n = some k → k < n := by
  intro n
  induction n with
  | zero => intro k h; cases h
  | succ n ih =>
    intro k h
    unfold namF at h
    split at h
    · cases h; omega
    · have := ih k h; omega
set_option maxRecDepth 100000 in
set_option maxHeartbeats 4000000 in
theorem namF_d {lv : Nat → Bool} {sn : Nat → Int32} {as : Int32} {k : Nat} (c : lv k = false) : namF lv sn as (k + 1) = namF lv sn as k := if_neg (fun z => by rw [c] at z; cases z.1)
set_option maxRecDepth 100000 in
set_option maxHeartbeats 4000000 in
theorem namF_a {lv : Nat → Bool} {sn : Nat → Int32} {as : Int32} {k : Nat} (c : nI k = as) : namF lv sn as (k + 1) = namF lv sn as k := if_neg (fun z => z.2.1 c)
set_option maxRecDepth 100000 in
set_option maxHeartbeats 4000000 in
theorem namF_1 {lv : Nat → Bool} {sn : Nat → Int32} {as : Int32} {k : Nat} (c0 : lv k = true) (c : ¬ nI k = as) (hb : namF lv sn as k = none) : namF lv sn as (k + 1) = some k := if_pos ⟨c0, c, by rw [hb]; rfl⟩
set_option maxRecDepth 100000 in
set_option maxHeartbeats 4000000 in
theorem namF_y {lv : Nat → Bool} {sn : Nat → Int32} {as : Int32} {k j : Nat} (c0 : lv k = true) (c : ¬ nI k = as) (hb : namF lv sn as k = some j) (c3 : sn j < sn k) : namF lv sn as (k + 1) = some k := if_pos ⟨c0, c, by rw [hb]; exact decide_eq_true c3⟩
set_option maxRecDepth 100000 in
set_option maxHeartbeats 4000000 in
theorem namF_n {lv : Nat → Bool} {sn : Nat → Int32} {as : Int32} {k j : Nat} (hb : namF lv sn as k = some j) (c3 : ¬ sn j < sn k) : namF lv sn as (k + 1) = some j := (if_neg (fun z => c3 (by have := z.2.2; rw [hb] at this; exact of_decide_eq_true this))).trans hb
set_option maxRecDepth 100000 in
set_option maxHeartbeats 4000000 in
theorem oI_neg {o : Option Nat} (ho : ∀ k, o = some k → k < 5000) (c : oI o < 0) : o = none := by
  cases o with
  | none => rfl
  | some j => exact absurd c (not0 (ho j rfl))
set_option maxRecDepth 100000 in
set_option maxHeartbeats 4000000 in
theorem oI_pos {o : Option Nat} (c : ¬ oI o < 0) : ∃ j, o = some j := by
  cases o with
  | none => exact absurd (by decide) c
  | some j => exact ⟨j, rfl⟩
def rowA (a i : Nat) : Prop := (a = 174 ∧ i = 6) ∨ (a = 175 ∧ i = 7)
section MROW
variable {d : Nat} {h : aH} {F : Nat → Int32} {G : Nat → Int64} {B : Nat → List Int32}
set_option maxRecDepth 100000 in
set_option maxHeartbeats 4000000 in
theorem row_g (hl : 181 ≤ h.length) {a i : Nat} (hi : rowA a i) : (MH h F G B)[a]? = some (.inl (0, .inl (B i))) := by
  rcases hi with ⟨rfl, rfl⟩ | ⟨rfl, rfl⟩
  · exact MH_6 hl
  · exact MH_7 hl
set_option maxRecDepth 100000 in
set_option maxHeartbeats 4000000 in
theorem row_s (hl : 181 ≤ h.length) {a i : Nat} (hi : rowA a i) (ys : List Int32) : (MH h F G B).set a (.inl (0, .inl ys)) = MH h F G (bu B i ys) := by
  rcases hi with ⟨rfl, rfl⟩ | ⟨rfl, rfl⟩
  · exact MH_s6 hl ys
  · exact MH_s7 hl ys
set_option maxRecDepth 100000 in
set_option maxHeartbeats 4000000 in
theorem c_lives (hl : 181 ≤ h.length) {a i : Nat} (hi : rowA a i) (hr : (B i).length = 22) (p : Nat) : CT (d + 1) mX11_lives (0, 0) [.ref 167, .ref (a), .int (nI p)] (MH h F G B) (fun r h' => r = some (.int (if bitB ((B i).getD 10 0) p = true then nI 0 else nI 1)) ∧ h' = MH h F G B) := by
  refine ct_ev (by decide +kernel) (Nat.le_of_ble_eq_true rfl) (fun r h' q => by rw [q.1]; split <;> exact ⟨.boolean, rfl, rfl⟩) ?_
  have e1 : Ev (d + 1) none mX11_lives (0, 0) 5 [.ref 167, .ref (a), .int (nI p)] [.int (nI p), .int ((B i).getD 10 0)] (MH h F G B) (fun r h' => r = some (.int (if bitB ((B i).getD 10 0) p = true then nI 0 else nI 1)) ∧ h' = MH h F G B) := by
    refine ev_S qX11_lives_5 jX11_hasBit (c_hasBit _ _ _) rfl (Nat.le_of_ble_eq_true rfl) rfl (as := [.int ((B i).getD 10 0), .int (nI p)]) (rest := []) rfl (Nat.zero_le _) (fun r h' hq => ?_)
    obtain ⟨rfl, rfl⟩ := hq
    refine ev_p 3 [] rfl kX11_lives ?_
    by_cases hb : (B i).getD 10 0 >>> (nI p &&& 31) &&& nI 1 = nI 1
    · have hb' : bitB ((B i).getD 10 0) p = true := decide_eq_true hb
      rw [if_pos hb, if_pos hb']
      simp only [pX11_lives_0, pX11_lives_5, pX11_lives_8, pX11_lives_11, pX11_lives_15, pX11_lives_16, nX11_lives, evP_0, evK_in, evK_out, evL_nil, List.cons_append, List.nil_append, List.append_nil, List.length_cons, List.length_nil, List.getElem?_cons_zero, List.getElem?_cons_succ, List.getElem?_nil, List.set_cons_succ, List.set_cons_zero, List.not_mem_nil, List.mem_cons, Nat.reduceBEq, Nat.reduceAdd, Nat.reduceSub, Nat.reduceLT, Nat.reduceLeDiff, Nat.reduceEqDiff, false_or, or_false, or_self, if_false, if_true, reduceIte, true_and, and_true, not_true_eq_false, not_false_eq_true, reduceCtorEq, uX11_lives_0, qLR, uX11_lives_1, qK, uX11_lives_3, qAl, xCl, qA1, uX11_lives_4, qLI, uX11_lives_8, qIf, uX11_lives_11, uX11_lives_12, uX11_lives_15, uX11_lives_16, qRI, Option.toList]
      exact ⟨fun z => absurd z (by decide), fun _ => trivial⟩
    · have hb' : ¬ bitB ((B i).getD 10 0) p = true := fun z => hb (of_decide_eq_true z)
      rw [if_neg hb, if_neg hb']
      simp only [pX11_lives_0, pX11_lives_5, pX11_lives_8, pX11_lives_11, pX11_lives_15, pX11_lives_16, nX11_lives, evP_0, evK_in, evK_out, evL_nil, List.cons_append, List.nil_append, List.append_nil, List.length_cons, List.length_nil, List.getElem?_cons_zero, List.getElem?_cons_succ, List.getElem?_nil, List.set_cons_succ, List.set_cons_zero, List.not_mem_nil, List.mem_cons, Nat.reduceBEq, Nat.reduceAdd, Nat.reduceSub, Nat.reduceLT, Nat.reduceLeDiff, Nat.reduceEqDiff, false_or, or_false, or_self, if_false, if_true, reduceIte, true_and, and_true, not_true_eq_false, not_false_eq_true, reduceCtorEq, uX11_lives_0, qLR, uX11_lives_1, qK, uX11_lives_3, qAl, xCl, qA1, uX11_lives_4, qLI, uX11_lives_8, qIf, uX11_lives_11, uX11_lives_12, uX11_lives_15, uX11_lives_16, qRI, Option.toList]
      exact ⟨fun _ => trivial, fun z => absurd (by decide) z⟩
  refine ev_p 2 [] rfl kX11_lives ?_
  simp only [pX11_lives_0, pX11_lives_5, pX11_lives_8, pX11_lives_11, pX11_lives_15, pX11_lives_16, nX11_lives, evP_0, evK_in, evK_out, evL_nil, List.cons_append, List.nil_append, List.append_nil, List.length_cons, List.length_nil, List.getElem?_cons_zero, List.getElem?_cons_succ, List.getElem?_nil, List.set_cons_succ, List.set_cons_zero, List.not_mem_nil, List.mem_cons, Nat.reduceBEq, Nat.reduceAdd, Nat.reduceSub, Nat.reduceLT, Nat.reduceLeDiff, Nat.reduceEqDiff, false_or, or_false, or_self, if_false, if_true, reduceIte, true_and, and_true, not_true_eq_false, not_false_eq_true, reduceCtorEq, uX11_lives_0, qLR, uX11_lives_1, qK, uX11_lives_3, qAl, xCl, qA1, uX11_lives_4, qLI, uX11_lives_8, qIf, uX11_lives_11, uX11_lives_12, uX11_lives_15, uX11_lives_16, qRI, eN, eL, List.replicate, Nat.reduceAdd, Nat.reduceSub, row_g hl hi, cl_lt (show 10 < 5000 by omega), hr]
  exact ⟨in_lt (by omega) (by omega), e1⟩
set_option maxRecDepth 100000 in
set_option maxHeartbeats 4000000 in
theorem c_seenOf (hl : 181 ≤ h.length) {a i : Nat} (hi : rowA a i) (h2 : (B 2).length = 188) (hr : (B i).length = 22) (p : Nat) (hp : p < 5) (x : Int32) : CT d mX11_seenOf (0, 0) [.ref 167, .ref (a), .int (nI p), .int x] (MH h F G B) (fun r h' => r = some (.int (seenF ((B 2).getD (9 + 2 * p) 0) ((B i).getD (5 + p) 0) x)) ∧ h' = MH h F G B) := by
  refine ct_ev (by decide +kernel) (Nat.le_of_ble_eq_true rfl) (fun r h' q => by rw [q.1]; exact rI) ?_
  refine ev_p 4 [] rfl kX11_seenOf ?_
  simp only [pX11_seenOf_0, pX11_seenOf_19, pX11_seenOf_31, pX11_seenOf_37, pX11_seenOf_43, pX11_seenOf_44, nX11_seenOf, evP_0, evK_in, evK_out, evL_nil, List.cons_append, List.nil_append, List.append_nil, List.length_cons, List.length_nil, List.getElem?_cons_zero, List.getElem?_cons_succ, List.getElem?_nil, List.set_cons_succ, List.set_cons_zero, List.not_mem_nil, List.mem_cons, Nat.reduceBEq, Nat.reduceAdd, Nat.reduceSub, Nat.reduceLT, Nat.reduceLeDiff, Nat.reduceEqDiff, false_or, or_false, or_self, if_false, if_true, reduceIte, true_and, and_true, not_true_eq_false, not_false_eq_true, reduceCtorEq, uX11_seenOf_0, qLR, uX11_seenOf_1, qGF, qG1, qG2, MH_o hl, mF_15, MH_2 hl, uX11_seenOf_4, qK, uX11_seenOf_6, uX11_seenOf_7, qLI, uX11_seenOf_8, qI2, uX11_seenOf_9, uX11_seenOf_10, qAl, xCl, qA1, uX11_seenOf_11, qSI, sto1, kil, uX11_seenOf_13, uX11_seenOf_15, uX11_seenOf_16, qIc, uX11_seenOf_19, uX11_seenOf_20, uX11_seenOf_21, uX11_seenOf_22, uX11_seenOf_23, uX11_seenOf_24, uX11_seenOf_25, uX11_seenOf_26, uX11_seenOf_27, uX11_seenOf_28, uX11_seenOf_31, uX11_seenOf_33, uX11_seenOf_34, uX11_seenOf_37, uX11_seenOf_38, uX11_seenOf_39, uX11_seenOf_40, uX11_seenOf_43, uX11_seenOf_44, qRI, eN, eL, List.replicate, Nat.reduceAdd, Nat.reduceSub, row_g hl hi, ix2, nI_add, cl_lt (show 9 + 2 * p < 5000 by omega), cl_lt (show 5 + p < 5000 by omega), hr, h2]
  refine ⟨in_lt (by omega) (by omega), fun c1 => ⟨in_lt (by omega) (by omega), ?_⟩, fun c1 => ⟨fun c2 => ?_, fun c2 => ?_⟩⟩
  · rw [seenF, if_pos c1]
  · rw [seenF, if_neg c1, if_pos c2]
  · rw [seenF, if_neg c1, if_neg c2]
end MROW
