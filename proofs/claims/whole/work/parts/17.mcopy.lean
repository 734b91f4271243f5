def sX11_begin_10 : List En := (.bipush 22, 0, 0, 0) :: []
def sX11_begin_9 : List En := (.iconst 0, 0, 0, 0) :: sX11_begin_10
def sX11_begin_6 : List En := (.getfield 35, 195, 11, 20) :: sX11_begin_9
def sX11_begin_5 : List En := (.aload_n 0, 0, 0, 0) :: sX11_begin_6
def sX11_begin_4 : List En := (.iconst 0, 0, 0, 0) :: sX11_begin_5
def sX11_begin_1 : List En := (.getfield 32, 194, 11, 19) :: sX11_begin_4
def sX11_begin_0 : List En := (.aload_n 0, 0, 0, 0) :: sX11_begin_1
theorem qX11_begin_12 : okC mX11_begin 12 (.invokestatic 170) 210 227 1 5 = true := by decide +kernel -- X11_copy
def sX11_begin_15 : List En := (.return_, 0, 0, 0) :: []
def LX11_begin : List (Nat × Nat × List En) := [(0, (12, sX11_begin_0)), (15, (16, sX11_begin_15))]
theorem nX11_begin : mX11_begin.2.2.2.1 = 1 := rfl
theorem kX11_begin : okP mX11_begin LX11_begin = true := by decide +kernel
section
variable {d n : Nat} {X : Option (List Int32)} {b : Nat × Nat} {Q : Option Value → aH → Prop} {sp : List Nat} {xs : List Value} {h : aH} {st : List Value}
theorem pX11_begin_0 : evP d X mX11_begin b Q LX11_begin sp (n + 1) 0 xs h st = evL mX11_begin X Q (evK sp (evE d X mX11_begin b Q) (evP d X mX11_begin b Q LX11_begin sp n)) sX11_begin_0 12 xs h st := rfl
theorem pX11_begin_12 : evP d X mX11_begin b Q LX11_begin sp (n + 1) 12 xs h st = evE d X mX11_begin b Q 12 xs h st := rfl
theorem pX11_begin_15 : evP d X mX11_begin b Q LX11_begin sp (n + 1) 15 xs h st = evL mX11_begin X Q (evK sp (evE d X mX11_begin b Q) (evP d X mX11_begin b Q LX11_begin sp n)) sX11_begin_15 16 xs h st := rfl
end
section
variable {X : Option (List Int32)} {Q : Option Value → aH → Prop} {K : Nat → KT} {np : Nat} {xs : List Value} {h : aH} {st : List Value}
theorem uX11_begin_0 : evL mX11_begin X Q K sX11_begin_0 np xs h st = (qLR (xs[0]?) xs h st (evL mX11_begin X Q K sX11_begin_1 np)) := rfl
theorem uX11_begin_1 : evL mX11_begin X Q K sX11_begin_1 np xs h st = (qGF 11 19 st xs h (evL mX11_begin X Q K sX11_begin_4 np)) := rfl
theorem uX11_begin_4 : evL mX11_begin X Q K sX11_begin_4 np xs h st = (qK (.int (nI 0)) xs h st (evL mX11_begin X Q K sX11_begin_5 np)) := congrArg (fun v : Int32 => qK (.int v) xs h st (evL mX11_begin X Q K sX11_begin_5 np)) kI_0
theorem uX11_begin_5 : evL mX11_begin X Q K sX11_begin_5 np xs h st = (qLR (xs[0]?) xs h st (evL mX11_begin X Q K sX11_begin_6 np)) := rfl
theorem uX11_begin_6 : evL mX11_begin X Q K sX11_begin_6 np xs h st = (qGF 11 20 st xs h (evL mX11_begin X Q K sX11_begin_9 np)) := rfl
theorem uX11_begin_9 : evL mX11_begin X Q K sX11_begin_9 np xs h st = (qK (.int (nI 0)) xs h st (evL mX11_begin X Q K sX11_begin_10 np)) := congrArg (fun v : Int32 => qK (.int v) xs h st (evL mX11_begin X Q K sX11_begin_10 np)) kI_0
theorem uX11_begin_10 : evL mX11_begin X Q K sX11_begin_10 np xs h st = (qK (.int (nI 22)) xs h st (evL mX11_begin X Q K [] np)) := congrArg (fun v : Int32 => qK (.int v) xs h st (evL mX11_begin X Q K [] np)) kB_22
theorem uX11_begin_15 : evL mX11_begin X Q K sX11_begin_15 np xs h st = (qRV st h Q) := rfl
end

def sX11_dawn_0 : List En := (.aload_n 0, 0, 0, 0) :: []
theorem qX11_dawn_1 : okC mX11_dawn 1 (.invokevirtual 278) 220 237 0 0 = true := by decide +kernel -- X11_begin
def sX11_dawn_5 : List En := (.istore_n 1, 0, 0, 0) :: []
def sX11_dawn_4 : List En := (.iconst 0, 0, 0, 0) :: sX11_dawn_5
def sX11_dawn_13 : List En := (.if_icmp .ge 47, 60, 0, 0) :: []
def sX11_dawn_12 : List En := (.iaload, 0, 0, 0) :: sX11_dawn_13
def sX11_dawn_11 : List En := (.iconst 3, 0, 0, 0) :: sX11_dawn_12
def sX11_dawn_8 : List En := (.getfield 20, 190, 11, 15) :: sX11_dawn_11
def sX11_dawn_7 : List En := (.aload_n 0, 0, 0, 0) :: sX11_dawn_8
def sX11_dawn_6 : List En := (.iload_n 1, 0, 0, 0) :: sX11_dawn_7
def sX11_dawn_28 : List En := (.iload_n 1, 0, 0, 0) :: []
def sX11_dawn_25 : List En := (.getfield 35, 195, 11, 20) :: sX11_dawn_28
def sX11_dawn_24 : List En := (.aload_n 0, 0, 0, 0) :: sX11_dawn_25
def sX11_dawn_23 : List En := (.aload_n 0, 0, 0, 0) :: sX11_dawn_24
def sX11_dawn_22 : List En := (.iaload, 0, 0, 0) :: sX11_dawn_23
def sX11_dawn_21 : List En := (.dup2, 0, 0, 0) :: sX11_dawn_22
def sX11_dawn_20 : List En := (.iload_n 1, 0, 0, 0) :: sX11_dawn_21
def sX11_dawn_17 : List En := (.getfield 35, 195, 11, 20) :: sX11_dawn_20
def sX11_dawn_16 : List En := (.aload_n 0, 0, 0, 0) :: sX11_dawn_17
theorem qX11_dawn_29 : okC mX11_dawn 29 (.invokevirtual 249) 221 238 0 2 = true := by decide +kernel -- X11_lives
def sX11_dawn_32 : List En := (.ifCond .eq 19, 51, 0, 0) :: []
def sX11_dawn_48 : List En := (.goto 4, 52, 0, 0) :: []
def sX11_dawn_47 : List En := (.iaload, 0, 0, 0) :: sX11_dawn_48
def sX11_dawn_46 : List En := (.iadd, 0, 0, 0) :: sX11_dawn_47
def sX11_dawn_45 : List En := (.iconst 1, 0, 0, 0) :: sX11_dawn_46
def sX11_dawn_44 : List En := (.iadd, 0, 0, 0) :: sX11_dawn_45
def sX11_dawn_43 : List En := (.imul, 0, 0, 0) :: sX11_dawn_44
def sX11_dawn_42 : List En := (.iload_n 1, 0, 0, 0) :: sX11_dawn_43
def sX11_dawn_41 : List En := (.iconst 2, 0, 0, 0) :: sX11_dawn_42
def sX11_dawn_39 : List En := (.bipush 9, 0, 0, 0) :: sX11_dawn_41
def sX11_dawn_36 : List En := (.getfield 20, 190, 11, 15) :: sX11_dawn_39
def sX11_dawn_35 : List En := (.aload_n 0, 0, 0, 0) :: sX11_dawn_36
def sX11_dawn_51 : List En := (.iconst 0, 0, 0, 0) :: []
def sX11_dawn_57 : List En := (.goto (-51), 6, 0, 0) :: []
def sX11_dawn_54 : List En := (.iinc 1 1, 0, 0, 0) :: sX11_dawn_57
def sX11_dawn_53 : List En := (.iastore, 0, 0, 0) :: sX11_dawn_54
def sX11_dawn_52 : List En := (.iadd, 0, 0, 0) :: sX11_dawn_53
def sX11_dawn_60 : List En := (.return_, 0, 0, 0) :: []
def LX11_dawn : List (Nat × Nat × List En) := [(0, (1, sX11_dawn_0)), (4, (6, sX11_dawn_4)), (6, (16, sX11_dawn_6)), (16, (29, sX11_dawn_16)), (32, (35, sX11_dawn_32)), (35, (51, sX11_dawn_35)), (51, (52, sX11_dawn_51)), (52, (60, sX11_dawn_52)), (60, (61, sX11_dawn_60))]
theorem nX11_dawn : mX11_dawn.2.2.2.1 = 2 := rfl
theorem kX11_dawn : okP mX11_dawn LX11_dawn = true := by decide +kernel
section
variable {d n : Nat} {X : Option (List Int32)} {b : Nat × Nat} {Q : Option Value → aH → Prop} {sp : List Nat} {xs : List Value} {h : aH} {st : List Value}
theorem pX11_dawn_0 : evP d X mX11_dawn b Q LX11_dawn sp (n + 1) 0 xs h st = evL mX11_dawn X Q (evK sp (evE d X mX11_dawn b Q) (evP d X mX11_dawn b Q LX11_dawn sp n)) sX11_dawn_0 1 xs h st := rfl
theorem pX11_dawn_1 : evP d X mX11_dawn b Q LX11_dawn sp (n + 1) 1 xs h st = evE d X mX11_dawn b Q 1 xs h st := rfl
theorem pX11_dawn_4 : evP d X mX11_dawn b Q LX11_dawn sp (n + 1) 4 xs h st = evL mX11_dawn X Q (evK sp (evE d X mX11_dawn b Q) (evP d X mX11_dawn b Q LX11_dawn sp n)) sX11_dawn_4 6 xs h st := rfl
theorem pX11_dawn_6 : evP d X mX11_dawn b Q LX11_dawn sp (n + 1) 6 xs h st = evL mX11_dawn X Q (evK sp (evE d X mX11_dawn b Q) (evP d X mX11_dawn b Q LX11_dawn sp n)) sX11_dawn_6 16 xs h st := rfl
theorem pX11_dawn_16 : evP d X mX11_dawn b Q LX11_dawn sp (n + 1) 16 xs h st = evL mX11_dawn X Q (evK sp (evE d X mX11_dawn b Q) (evP d X mX11_dawn b Q LX11_dawn sp n)) sX11_dawn_16 29 xs h st := rfl
theorem pX11_dawn_29 : evP d X mX11_dawn b Q LX11_dawn sp (n + 1) 29 xs h st = evE d X mX11_dawn b Q 29 xs h st := rfl
theorem pX11_dawn_32 : evP d X mX11_dawn b Q LX11_dawn sp (n + 1) 32 xs h st = evL mX11_dawn X Q (evK sp (evE d X mX11_dawn b Q) (evP d X mX11_dawn b Q LX11_dawn sp n)) sX11_dawn_32 35 xs h st := rfl
theorem pX11_dawn_35 : evP d X mX11_dawn b Q LX11_dawn sp (n + 1) 35 xs h st = evL mX11_dawn X Q (evK sp (evE d X mX11_dawn b Q) (evP d X mX11_dawn b Q LX11_dawn sp n)) sX11_dawn_35 51 xs h st := rfl
theorem pX11_dawn_51 : evP d X mX11_dawn b Q LX11_dawn sp (n + 1) 51 xs h st = evL mX11_dawn X Q (evK sp (evE d X mX11_dawn b Q) (evP d X mX11_dawn b Q LX11_dawn sp n)) sX11_dawn_51 52 xs h st := rfl
theorem pX11_dawn_52 : evP d X mX11_dawn b Q LX11_dawn sp (n + 1) 52 xs h st = evL mX11_dawn X Q (evK sp (evE d X mX11_dawn b Q) (evP d X mX11_dawn b Q LX11_dawn sp n)) sX11_dawn_52 60 xs h st := rfl
theorem pX11_dawn_60 : evP d X mX11_dawn b Q LX11_dawn sp (n + 1) 60 xs h st = evL mX11_dawn X Q (evK sp (evE d X mX11_dawn b Q) (evP d X mX11_dawn b Q LX11_dawn sp n)) sX11_dawn_60 61 xs h st := rfl
end
section
variable {X : Option (List Int32)} {Q : Option Value → aH → Prop} {K : Nat → KT} {np : Nat} {xs : List Value} {h : aH} {st : List Value}
theorem uX11_dawn_0 : evL mX11_dawn X Q K sX11_dawn_0 np xs h st = (qLR (xs[0]?) xs h st (evL mX11_dawn X Q K [] np)) := rfl
theorem uX11_dawn_4 : evL mX11_dawn X Q K sX11_dawn_4 np xs h st = (qK (.int (nI 0)) xs h st (evL mX11_dawn X Q K sX11_dawn_5 np)) := congrArg (fun v : Int32 => qK (.int v) xs h st (evL mX11_dawn X Q K sX11_dawn_5 np)) kI_0
theorem uX11_dawn_5 : evL mX11_dawn X Q K sX11_dawn_5 np xs h st = (qSI 2 (1) st xs h (evL mX11_dawn X Q K [] np)) := rfl
theorem uX11_dawn_6 : evL mX11_dawn X Q K sX11_dawn_6 np xs h st = (qLI (xs[1]?) xs h st (evL mX11_dawn X Q K sX11_dawn_7 np)) := rfl
theorem uX11_dawn_7 : evL mX11_dawn X Q K sX11_dawn_7 np xs h st = (qLR (xs[0]?) xs h st (evL mX11_dawn X Q K sX11_dawn_8 np)) := rfl
theorem uX11_dawn_8 : evL mX11_dawn X Q K sX11_dawn_8 np xs h st = (qGF 11 15 st xs h (evL mX11_dawn X Q K sX11_dawn_11 np)) := rfl
theorem uX11_dawn_11 : evL mX11_dawn X Q K sX11_dawn_11 np xs h st = (qK (.int (nI 3)) xs h st (evL mX11_dawn X Q K sX11_dawn_12 np)) := congrArg (fun v : Int32 => qK (.int v) xs h st (evL mX11_dawn X Q K sX11_dawn_12 np)) kI_3
theorem uX11_dawn_12 : evL mX11_dawn X Q K sX11_dawn_12 np xs h st = (qAl X st xs h (evL mX11_dawn X Q K sX11_dawn_13 np)) := rfl
theorem uX11_dawn_13 : evL mX11_dawn X Q K sX11_dawn_13 np xs h st = (qIc (fun x y => x < y) st xs h (evL mX11_dawn X Q K [] np) (K 60)) := rfl
theorem uX11_dawn_16 : evL mX11_dawn X Q K sX11_dawn_16 np xs h st = (qLR (xs[0]?) xs h st (evL mX11_dawn X Q K sX11_dawn_17 np)) := rfl
theorem uX11_dawn_17 : evL mX11_dawn X Q K sX11_dawn_17 np xs h st = (qGF 11 20 st xs h (evL mX11_dawn X Q K sX11_dawn_20 np)) := rfl
theorem uX11_dawn_20 : evL mX11_dawn X Q K sX11_dawn_20 np xs h st = (qLI (xs[1]?) xs h st (evL mX11_dawn X Q K sX11_dawn_21 np)) := rfl
theorem uX11_dawn_21 : evL mX11_dawn X Q K sX11_dawn_21 np xs h st = (qDD st xs h (evL mX11_dawn X Q K sX11_dawn_22 np)) := rfl
theorem uX11_dawn_22 : evL mX11_dawn X Q K sX11_dawn_22 np xs h st = (qAl X st xs h (evL mX11_dawn X Q K sX11_dawn_23 np)) := rfl
theorem uX11_dawn_23 : evL mX11_dawn X Q K sX11_dawn_23 np xs h st = (qLR (xs[0]?) xs h st (evL mX11_dawn X Q K sX11_dawn_24 np)) := rfl
theorem uX11_dawn_24 : evL mX11_dawn X Q K sX11_dawn_24 np xs h st = (qLR (xs[0]?) xs h st (evL mX11_dawn X Q K sX11_dawn_25 np)) := rfl
theorem uX11_dawn_25 : evL mX11_dawn X Q K sX11_dawn_25 np xs h st = (qGF 11 20 st xs h (evL mX11_dawn X Q K sX11_dawn_28 np)) := rfl
theorem uX11_dawn_28 : evL mX11_dawn X Q K sX11_dawn_28 np xs h st = (qLI (xs[1]?) xs h st (evL mX11_dawn X Q K [] np)) := rfl
theorem uX11_dawn_32 : evL mX11_dawn X Q K sX11_dawn_32 np xs h st = (qIf (fun x => x = 0) st xs h (K 51) (evL mX11_dawn X Q K [] np)) := rfl
theorem uX11_dawn_35 : evL mX11_dawn X Q K sX11_dawn_35 np xs h st = (qLR (xs[0]?) xs h st (evL mX11_dawn X Q K sX11_dawn_36 np)) := rfl
theorem uX11_dawn_36 : evL mX11_dawn X Q K sX11_dawn_36 np xs h st = (qGF 11 15 st xs h (evL mX11_dawn X Q K sX11_dawn_39 np)) := rfl
theorem uX11_dawn_39 : evL mX11_dawn X Q K sX11_dawn_39 np xs h st = (qK (.int (nI 9)) xs h st (evL mX11_dawn X Q K sX11_dawn_41 np)) := congrArg (fun v : Int32 => qK (.int v) xs h st (evL mX11_dawn X Q K sX11_dawn_41 np)) kB_9
theorem uX11_dawn_41 : evL mX11_dawn X Q K sX11_dawn_41 np xs h st = (qK (.int (nI 2)) xs h st (evL mX11_dawn X Q K sX11_dawn_42 np)) := congrArg (fun v : Int32 => qK (.int v) xs h st (evL mX11_dawn X Q K sX11_dawn_42 np)) kI_2
theorem uX11_dawn_42 : evL mX11_dawn X Q K sX11_dawn_42 np xs h st = (qLI (xs[1]?) xs h st (evL mX11_dawn X Q K sX11_dawn_43 np)) := rfl
theorem uX11_dawn_43 : evL mX11_dawn X Q K sX11_dawn_43 np xs h st = (qI2 (fun x y => x * y) st xs h (evL mX11_dawn X Q K sX11_dawn_44 np)) := rfl
theorem uX11_dawn_44 : evL mX11_dawn X Q K sX11_dawn_44 np xs h st = (qI2 (fun x y => x + y) st xs h (evL mX11_dawn X Q K sX11_dawn_45 np)) := rfl
theorem uX11_dawn_45 : evL mX11_dawn X Q K sX11_dawn_45 np xs h st = (qK (.int (nI 1)) xs h st (evL mX11_dawn X Q K sX11_dawn_46 np)) := congrArg (fun v : Int32 => qK (.int v) xs h st (evL mX11_dawn X Q K sX11_dawn_46 np)) kI_1
theorem uX11_dawn_46 : evL mX11_dawn X Q K sX11_dawn_46 np xs h st = (qI2 (fun x y => x + y) st xs h (evL mX11_dawn X Q K sX11_dawn_47 np)) := rfl
theorem uX11_dawn_47 : evL mX11_dawn X Q K sX11_dawn_47 np xs h st = (qAl X st xs h (evL mX11_dawn X Q K sX11_dawn_48 np)) := rfl
theorem uX11_dawn_48 : evL mX11_dawn X Q K sX11_dawn_48 np xs h st = (K 52 xs h st) := rfl
theorem uX11_dawn_51 : evL mX11_dawn X Q K sX11_dawn_51 np xs h st = (qK (.int (nI 0)) xs h st (evL mX11_dawn X Q K [] np)) := congrArg (fun v : Int32 => qK (.int v) xs h st (evL mX11_dawn X Q K [] np)) kI_0
theorem uX11_dawn_52 : evL mX11_dawn X Q K sX11_dawn_52 np xs h st = (qI2 (fun x y => x + y) st xs h (evL mX11_dawn X Q K sX11_dawn_53 np)) := rfl
theorem uX11_dawn_53 : evL mX11_dawn X Q K sX11_dawn_53 np xs h st = (qIs st xs h (evL mX11_dawn X Q K sX11_dawn_54 np)) := rfl
theorem uX11_dawn_54 : evL mX11_dawn X Q K sX11_dawn_54 np xs h st = (qIn (xs[1]?) 2 1 (nI 1) xs h st (evL mX11_dawn X Q K sX11_dawn_57 np)) := congrArg (fun v : Int32 => qIn (xs[1]?) 2 1 v xs h st (evL mX11_dawn X Q K sX11_dawn_57 np)) kI_1
theorem uX11_dawn_57 : evL mX11_dawn X Q K sX11_dawn_57 np xs h st = (K 6 xs h st) := rfl
theorem uX11_dawn_60 : evL mX11_dawn X Q K sX11_dawn_60 np xs h st = (qRV st h Q) := rfl
end

def arrA (a i : Nat) : Prop := i < 13 ∧ a = 168 + i
def cpy (ys : List Int32) (p q : Nat) : Nat → List Int32 → List Int32
  | 0, zs => zs
  | n + 1, zs => (cpy ys p q n zs).set (q + n) (ys.getD (p + n) 0)
set_option maxRecDepth 100000 in
set_option maxHeartbeats 4000000 in
theorem cpy_len (ys : List Int32) (p q : Nat) : ∀ (n : Nat) (zs : List Int32), (cpy ys p q n zs).length = zs.length := by
  intro n
  induction n with
  | zero => intro zs; rfl
  | succ n ih => intro zs; show ((cpy ys p q n zs).set (q + n) _).length = _; rw [List.length_set]; exact ih zs
set_option maxRecDepth 100000 in
set_option maxHeartbeats 4000000 in
theorem cpy_s (ys : List Int32) (p q n : Nat) (zs : List Int32) : (cpy ys p q n zs).set (q + n) (ys.getD (p + n) 0) = cpy ys p q (n + 1) zs := by rw [cpy]
-- a whole row over another as long
set_option maxRecDepth 100000 in
set_option maxHeartbeats 4000000 in
theorem cpy_get (ys : List Int32) (p q : Nat) : ∀ (n : Nat) (zs : List Int32) (j : Nat), q + n ≤ zs.length → (cpy ys p q n zs).getD j 0 = if q ≤ j ∧ j < q + n then ys.getD (p + (j - q)) 0 else zs.getD j 0 := by
  intro n
  induction n with
  | zero => intro zs j _; rw [if_neg (by omega)]; rfl
  | succ n ih =>
    intro zs j hj
    rw [← cpy_s]
    by_cases hq : q + n = j
    · subst hq
      rw [if_pos (by omega), List.getD_eq_getElem?_getD, List.getElem?_set_self (by rw [cpy_len]; omega)]
      show ys.getD (p + n) 0 = _
      rw [show q + n - q = n by omega]
    · rw [List.getD_eq_getElem?_getD, List.getElem?_set_ne hq, ← List.getD_eq_getElem?_getD, ih zs j (by omega)]
      by_cases hc : q ≤ j ∧ j < q + n
      · rw [if_pos hc, if_pos (by omega)]
      · rw [if_neg hc, if_neg (by omega)]
set_option maxRecDepth 100000 in
set_option maxHeartbeats 4000000 in
theorem getD_ext {ys zs : List Int32} (hl : ys.length = zs.length) (h : ∀ j, j < ys.length → ys.getD j 0 = zs.getD j 0) : ys = zs := by
  apply List.ext_getElem hl
  intro j h1 h2
  have := h j h1
  rw [List.getD_eq_getElem?_getD, List.getD_eq_getElem?_getD, List.getElem?_eq_getElem h1, List.getElem?_eq_getElem h2] at this
  exact this
set_option maxRecDepth 100000 in
set_option maxHeartbeats 4000000 in
theorem cpy_all {ys zs : List Int32} (hl : ys.length = zs.length) : cpy ys 0 0 ys.length zs = ys := by
  refine getD_ext (by rw [cpy_len]; exact hl.symm) (fun j hj => ?_)
  rw [cpy_len] at hj
  rw [cpy_get _ _ _ _ _ _ (by omega), if_pos (by omega), Nat.zero_add, Nat.sub_zero]
set_option maxRecDepth 100000 in
set_option maxHeartbeats 4000000 in
theorem bu_self (B : Nat → List Int32) (j : Nat) : bu B j (B j) = B := by
  funext k
  unfold bu
  split
  · rename_i e; rw [e]
  · rfl
set_option maxRecDepth 100000 in
set_option maxHeartbeats 4000000 in
theorem bu_bu (B : Nat → List Int32) (j : Nat) (x y : List Int32) : bu (bu B j x) j y = bu B j y := by
  funext k
  unfold bu
  split <;> rfl
set_option maxRecDepth 100000 in
set_option maxHeartbeats 4000000 in
theorem bu_ne {B : Nat → List Int32} {j i : Nat} {x : List Int32} (hn : i ≠ j) : bu B j x i = B i := if_neg hn
set_option maxRecDepth 100000 in
set_option maxHeartbeats 4000000 in
theorem bu_eq {B : Nat → List Int32} {j : Nat} {x : List Int32} : bu B j x j = x := if_pos rfl
section MCOPY
variable {d : Nat} {h : aH} {F : Nat → Int32} {G : Nat → Int64} {B : Nat → List Int32}
set_option maxRecDepth 100000 in
set_option maxHeartbeats 4000000 in
theorem arr_g (hl : 181 ≤ h.length) {a i : Nat} (hi : arrA a i) : (MH h F G B)[a]? = some (.inl (0, .inl (B i))) := by
  obtain ⟨h1, rfl⟩ := hi
  match i, h1 with
  | 0, _ => exact MH_0 hl
  | 1, _ => exact MH_1 hl
  | 2, _ => exact MH_2 hl
  | 3, _ => exact MH_3 hl
  | 4, _ => exact MH_4 hl
  | 5, _ => exact MH_5 hl
  | 6, _ => exact MH_6 hl
  | 7, _ => exact MH_7 hl
  | 8, _ => exact MH_8 hl
  | 9, _ => exact MH_9 hl
  | 10, _ => exact MH_10 hl
  | 11, _ => exact MH_11 hl
  | 12, _ => exact MH_12 hl
set_option maxRecDepth 100000 in
set_option maxHeartbeats 4000000 in
theorem arr_s (hl : 181 ≤ h.length) {a i : Nat} (hi : arrA a i) (ys : List Int32) : (MH h F G B).set a (.inl (0, .inl ys)) = MH h F G (bu B i ys) := by
  obtain ⟨h1, rfl⟩ := hi
  match i, h1 with
  | 0, _ => exact MH_s0 hl ys
  | 1, _ => exact MH_s1 hl ys
  | 2, _ => exact MH_s2 hl ys
  | 3, _ => exact MH_s3 hl ys
  | 4, _ => exact MH_s4 hl ys
  | 5, _ => exact MH_s5 hl ys
  | 6, _ => exact MH_s6 hl ys
  | 7, _ => exact MH_s7 hl ys
  | 8, _ => exact MH_s8 hl ys
  | 9, _ => exact MH_s9 hl ys
  | 10, _ => exact MH_s10 hl ys
  | 11, _ => exact MH_s11 hl ys
  | 12, _ => exact MH_s12 hl ys
set_option maxRecDepth 100000 in
set_option maxHeartbeats 4000000 in
theorem e_copy (hl : 181 ≤ h.length) {a0 a1 i j p q n : Nat} (ha : arrA a0 i) (hb : arrA a1 j) (hij : i ≠ j) (h1 : p + n ≤ (B i).length) (h2 : q + n ≤ (B j).length) (h3 : (B i).length < 5000) (h4 : (B j).length < 5000) : ∀ (m k : Nat), k + m = n → Ev d none mX11_copy (0, 0) 3 [.ref a0, .int (nI p), .ref a1, .int (nI q), .int (nI n), .int (nI k)] [] (MH h F G (bu B j (cpy (B i) p q k (B j)))) (fun r h' => r = none ∧ h' = MH h F G (bu B j (cpy (B i) p q n (B j)))) := by
  intro m
  induction m with
  | zero =>
    intro k hk
    refine ev_p 2 [3] rfl kX11_copy ?_
    have e : k = n := by omega
    subst e
    simp only [pX11_copy_0, pX11_copy_3, pX11_copy_10, pX11_copy_28, nX11_copy, evP_0, evK_in, evK_out, evL_nil, List.cons_append, List.nil_append, List.append_nil, List.length_cons, List.length_nil, List.getElem?_cons_zero, List.getElem?_cons_succ, List.getElem?_nil, List.set_cons_succ, List.set_cons_zero, List.not_mem_nil, List.mem_cons, Nat.reduceBEq, Nat.reduceAdd, Nat.reduceSub, Nat.reduceLT, Nat.reduceLeDiff, Nat.reduceEqDiff, false_or, or_false, or_self, if_false, if_true, reduceIte, true_and, and_true, not_true_eq_false, not_false_eq_true, reduceCtorEq, uX11_copy_0, qK, uX11_copy_1, qSI, sto1, kil, uX11_copy_3, qLI, uX11_copy_5, uX11_copy_7, qIc, uX11_copy_10, qLR, uX11_copy_11, uX11_copy_12, uX11_copy_14, qI2, uX11_copy_15, uX11_copy_16, uX11_copy_17, uX11_copy_19, uX11_copy_20, qAl, xCl, qA1, uX11_copy_21, qIs, qIs1, uX11_copy_22, qIn, uX11_copy_25, uX11_copy_28, qRV]
    exact ⟨fun z => absurd z (by rw [lt_iff (by omega) (by omega)]; omega), fun _ => trivial⟩
  | succ m ih =>
    intro k hk
    have ih' := ih (k + 1) (by omega)
    refine ev_p 2 [3] rfl kX11_copy ?_
    simp only [pX11_copy_0, pX11_copy_3, pX11_copy_10, pX11_copy_28, nX11_copy, evP_0, evK_in, evK_out, evL_nil, List.cons_append, List.nil_append, List.append_nil, List.length_cons, List.length_nil, List.getElem?_cons_zero, List.getElem?_cons_succ, List.getElem?_nil, List.set_cons_succ, List.set_cons_zero, List.not_mem_nil, List.mem_cons, Nat.reduceBEq, Nat.reduceAdd, Nat.reduceSub, Nat.reduceLT, Nat.reduceLeDiff, Nat.reduceEqDiff, false_or, or_false, or_self, if_false, if_true, reduceIte, true_and, and_true, not_true_eq_false, not_false_eq_true, reduceCtorEq, uX11_copy_0, qK, uX11_copy_1, qSI, sto1, kil, uX11_copy_3, qLI, uX11_copy_5, uX11_copy_7, qIc, uX11_copy_10, qLR, uX11_copy_11, uX11_copy_12, uX11_copy_14, qI2, uX11_copy_15, uX11_copy_16, uX11_copy_17, uX11_copy_19, uX11_copy_20, qAl, xCl, qA1, uX11_copy_21, qIs, qIs1, uX11_copy_22, qIn, uX11_copy_25, uX11_copy_28, qRV, nI_add, arr_g hl ha, arr_g hl hb, arr_s hl hb, bu_ne hij, bu_eq, bu_bu, cpy_len, cl_lt (show p + k < 5000 by omega), cl_lt (show q + k < 5000 by omega), cpy_s]
    exact ⟨fun _ => ⟨in_lt (by omega) (by omega), in_lt (by omega) (by omega), ih'⟩, fun z => absurd ((lt_iff (by omega) (by omega)).mpr (by omega)) z⟩
set_option maxRecDepth 100000 in
set_option maxHeartbeats 4000000 in
theorem c_copy (hl : 181 ≤ h.length) {a0 a1 i j p q n : Nat} (ha : arrA a0 i) (hb : arrA a1 j) (hij : i ≠ j) (h1 : p + n ≤ (B i).length) (h2 : q + n ≤ (B j).length) (h3 : (B i).length < 5000) (h4 : (B j).length < 5000) : CT d mX11_copy (0, 0) [.ref a0, .int (nI p), .ref a1, .int (nI q), .int (nI n)] (MH h F G B) (fun r h' => r = none ∧ h' = MH h F G (bu B j (cpy (B i) p q n (B j)))) := by
  refine ct_ev (by decide +kernel) (Nat.le_of_ble_eq_true rfl) (fun r h' q => by rw [q.1]; rfl) ?_
  have e0 := e_copy (d := d) (F := F) (G := G) hl ha hb hij h1 h2 h3 h4 n 0 (by omega)
  rw [show cpy (B i) p q 0 (B j) = B j from rfl, bu_self] at e0
  refine ev_p 1 [3] rfl kX11_copy ?_
  simp only [pX11_copy_0, pX11_copy_3, pX11_copy_10, pX11_copy_28, nX11_copy, evP_0, evK_in, evK_out, evL_nil, List.cons_append, List.nil_append, List.append_nil, List.length_cons, List.length_nil, List.getElem?_cons_zero, List.getElem?_cons_succ, List.getElem?_nil, List.set_cons_succ, List.set_cons_zero, List.not_mem_nil, List.mem_cons, Nat.reduceBEq, Nat.reduceAdd, Nat.reduceSub, Nat.reduceLT, Nat.reduceLeDiff, Nat.reduceEqDiff, false_or, or_false, or_self, if_false, if_true, reduceIte, true_and, and_true, not_true_eq_false, not_false_eq_true, reduceCtorEq, uX11_copy_0, qK, uX11_copy_1, qSI, sto1, kil, uX11_copy_3, qLI, uX11_copy_5, uX11_copy_7, qIc, uX11_copy_10, qLR, uX11_copy_11, uX11_copy_12, uX11_copy_14, qI2, uX11_copy_15, uX11_copy_16, uX11_copy_17, uX11_copy_19, uX11_copy_20, qAl, xCl, qA1, uX11_copy_21, qIs, qIs1, uX11_copy_22, qIn, uX11_copy_25, uX11_copy_28, qRV, eN, eL, List.replicate, Nat.reduceAdd, Nat.reduceSub]
  exact e0
set_option maxRecDepth 100000 in
set_option maxHeartbeats 4000000 in
theorem c_begin (hl : 181 ≤ h.length) (h6 : (B 6).length = 22) (h7 : (B 7).length = 22) : CT (d + 1) mX11_begin (0, 0) [.ref 167] (MH h F G B) (fun r h' => r = none ∧ h' = MH h F G (bu B 7 (B 6))) := by
  refine ct_ev (by decide +kernel) (Nat.le_of_ble_eq_true rfl) (fun r h' q => by rw [q.1]; rfl) ?_
  refine ev_p 2 [] rfl kX11_begin ?_
  simp only [pX11_begin_0, pX11_begin_12, pX11_begin_15, nX11_begin, evP_0, evK_in, evK_out, evL_nil, List.cons_append, List.nil_append, List.append_nil, List.length_cons, List.length_nil, List.getElem?_cons_zero, List.getElem?_cons_succ, List.getElem?_nil, List.set_cons_succ, List.set_cons_zero, List.not_mem_nil, List.mem_cons, Nat.reduceBEq, Nat.reduceAdd, Nat.reduceSub, Nat.reduceLT, Nat.reduceLeDiff, Nat.reduceEqDiff, false_or, or_false, or_self, if_false, if_true, reduceIte, true_and, and_true, not_true_eq_false, not_false_eq_true, reduceCtorEq, uX11_begin_0, qLR, uX11_begin_1, qGF, qG1, qG2, MH_o hl, mF_19, MH_6 hl, uX11_begin_4, qK, uX11_begin_5, uX11_begin_6, mF_20, MH_7 hl, uX11_begin_9, uX11_begin_10, uX11_begin_15, qRV, eN, eL, List.replicate, Nat.reduceAdd, Nat.reduceSub]
  refine ev_S qX11_begin_12 jX11_copy (c_copy (a0 := 174) (a1 := 175) (i := 6) (j := 7) (p := 0) (q := 0) (n := 22) hl ⟨by omega, rfl⟩ ⟨by omega, rfl⟩ (by omega) (by omega) (by omega) (by omega) (by omega)) rfl (Nat.le_of_ble_eq_true rfl) rfl (as := [.ref 174, .int (nI 0), .ref 175, .int (nI 0), .int (nI 22)]) (rest := []) rfl (Nat.zero_le _) (fun r h' hq => ?_)
  obtain ⟨rfl, rfl⟩ := hq
  have e1 : cpy (B 6) 0 0 22 (B 7) = B 6 := by
    have := cpy_all (ys := B 6) (zs := B 7) (by omega)
    rw [h6] at this
    exact this
  rw [e1]
  refine ev_p 1 [] rfl kX11_begin ?_
  simp only [pX11_begin_0, pX11_begin_12, pX11_begin_15, nX11_begin, evP_0, evK_in, evK_out, evL_nil, List.cons_append, List.nil_append, List.append_nil, List.length_cons, List.length_nil, List.getElem?_cons_zero, List.getElem?_cons_succ, List.getElem?_nil, List.set_cons_succ, List.set_cons_zero, List.not_mem_nil, List.mem_cons, Nat.reduceBEq, Nat.reduceAdd, Nat.reduceSub, Nat.reduceLT, Nat.reduceLeDiff, Nat.reduceEqDiff, false_or, or_false, or_self, if_false, if_true, reduceIte, true_and, and_true, not_true_eq_false, not_false_eq_true, reduceCtorEq, uX11_begin_0, qLR, uX11_begin_1, qGF, qG1, qG2, MH_o hl, mF_19, MH_6 hl, uX11_begin_4, qK, uX11_begin_5, uX11_begin_6, mF_20, MH_7 hl, uX11_begin_9, uX11_begin_10, uX11_begin_15, qRV, Option.toList]
end MCOPY
