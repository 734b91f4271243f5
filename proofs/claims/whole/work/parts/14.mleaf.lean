theorem kB_m100 : kB (-100) = (-100) := by decide
theorem kB_m2 : kB (-2) = (-2) := by decide
theorem kB_6 : kB 6 = nI 6 := by decide
theorem kB_7 : kB 7 = nI 7 := by decide
theorem kB_8 : kB 8 = nI 8 := by decide
theorem kB_9 : kB 9 = nI 9 := by decide
theorem kB_10 : kB 10 = nI 10 := by decide
theorem kB_11 : kB 11 = nI 11 := by decide
theorem kB_12 : kB 12 = nI 12 := by decide
theorem kB_13 : kB 13 = nI 13 := by decide
theorem kB_14 : kB 14 = nI 14 := by decide
theorem kB_15 : kB 15 = nI 15 := by decide
theorem kB_16 : kB 16 = nI 16 := by decide
theorem kB_19 : kB 19 = nI 19 := by decide
theorem kB_20 : kB 20 = nI 20 := by decide
theorem kB_22 : kB 22 = nI 22 := by decide
theorem kB_24 : kB 24 = nI 24 := by decide
theorem kB_31 : kB 31 = nI 31 := by decide
theorem kB_32 : kB 32 = nI 32 := by decide
theorem kB_35 : kB 35 = nI 35 := by decide
theorem kB_48 : kB 48 = nI 48 := by decide
theorem kB_51 : kB 51 = nI 51 := by decide
theorem kB_57 : kB 57 = nI 57 := by decide
theorem kB_59 : kB 59 = nI 59 := by decide
theorem kB_60 : kB 60 = nI 60 := by decide
theorem kB_61 : kB 61 = nI 61 := by decide
theorem kB_63 : kB 63 = nI 63 := by decide
theorem kB_66 : kB 66 = nI 66 := by decide
theorem kB_71 : kB 71 = nI 71 := by decide
theorem kB_74 : kB 74 = nI 74 := by decide
theorem kB_75 : kB 75 = nI 75 := by decide
theorem kB_84 : kB 84 = nI 84 := by decide
theorem kB_97 : kB 97 = nI 97 := by decide
theorem kB_99 : kB 99 = nI 99 := by decide
theorem kB_100 : kB 100 = nI 100 := by decide
theorem kB_122 : kB 122 = nI 122 := by decide
theorem kS_188 : kS 188 = nI 188 := by decide
theorem kS_200 : kS 200 = nI 200 := by decide
theorem kS_255 : kS 255 = nI 255 := by decide
theorem kS_330 : kS 330 = nI 330 := by decide
theorem kS_352 : kS 352 = nI 352 := by decide
theorem kS_700 : kS 700 = nI 700 := by decide
theorem kS_999 : kS 999 = nI 999 := by decide
theorem kS_1000 : kS 1000 = nI 1000 := by decide
theorem kI_m8 : kI (-8) = (-8) := by decide
theorem kI_m1 : kI (-1) = (-1) := by decide
theorem kI_0 : kI 0 = nI 0 := by decide
theorem kI_1 : kI 1 = nI 1 := by decide
theorem kI_2 : kI 2 = nI 2 := by decide
theorem kI_3 : kI 3 = nI 3 := by decide
theorem kI_4 : kI 4 = nI 4 := by decide
theorem kI_5 : kI 5 = nI 5 := by decide
theorem kI_6 : kI 6 = nI 6 := by decide

def sX11_no_6 : List En := (.ireturn, 0, 0, 0) :: []
def sX11_no_5 : List En := (.iconst (-1), 0, 0, 0) :: sX11_no_6
def sX11_no_2 : List En := (.putfield 56, 186, 11, 11) :: sX11_no_5
def sX11_no_1 : List En := (.iload_n 1, 0, 0, 0) :: sX11_no_2
def sX11_no_0 : List En := (.aload_n 0, 0, 0, 0) :: sX11_no_1
def LX11_no : List (Nat × Nat × List En) := [(0, (7, sX11_no_0))]
theorem nX11_no : mX11_no.2.2.2.1 = 2 := rfl
theorem kX11_no : okP mX11_no LX11_no = true := by decide +kernel
section
variable {d n : Nat} {X : Option (List Int32)} {b : Nat × Nat} {Q : Option Value → aH → Prop} {sp : List Nat} {xs : List Value} {h : aH} {st : List Value}
theorem pX11_no_0 : evP d X mX11_no b Q LX11_no sp (n + 1) 0 xs h st = evL mX11_no X Q (evK sp (evE d X mX11_no b Q) (evP d X mX11_no b Q LX11_no sp n)) sX11_no_0 7 xs h st := rfl
end
section
variable {X : Option (List Int32)} {Q : Option Value → aH → Prop} {K : Nat → KT} {np : Nat} {xs : List Value} {h : aH} {st : List Value}
theorem uX11_no_0 : evL mX11_no X Q K sX11_no_0 np xs h st = (qLR (xs[0]?) xs h st (evL mX11_no X Q K sX11_no_1 np)) := rfl
theorem uX11_no_1 : evL mX11_no X Q K sX11_no_1 np xs h st = (qLI (xs[1]?) xs h st (evL mX11_no X Q K sX11_no_2 np)) := rfl
theorem uX11_no_2 : evL mX11_no X Q K sX11_no_2 np xs h st = (qPF 11 11 st xs h (evL mX11_no X Q K sX11_no_5 np)) := rfl
theorem uX11_no_5 : evL mX11_no X Q K sX11_no_5 np xs h st = (qK (.int ((-1))) xs h st (evL mX11_no X Q K sX11_no_6 np)) := congrArg (fun v : Int32 => qK (.int v) xs h st (evL mX11_no X Q K sX11_no_6 np)) kI_m1
theorem uX11_no_6 : evL mX11_no X Q K sX11_no_6 np xs h st = (qRI st h Q) := rfl
end

def sX11_anew_10 : List En := (.return_, 0, 0, 0) :: []
def sX11_anew_7 : List En := (.putfield 56, 186, 11, 11) :: sX11_anew_10
def sX11_anew_6 : List En := (.iconst 0, 0, 0, 0) :: sX11_anew_7
def sX11_anew_5 : List En := (.aload_n 0, 0, 0, 0) :: sX11_anew_6
def sX11_anew_2 : List En := (.putfield 53, 175, 11, 0) :: sX11_anew_5
def sX11_anew_1 : List En := (.iconst 0, 0, 0, 0) :: sX11_anew_2
def sX11_anew_0 : List En := (.aload_n 0, 0, 0, 0) :: sX11_anew_1
def LX11_anew : List (Nat × Nat × List En) := [(0, (11, sX11_anew_0))]
theorem nX11_anew : mX11_anew.2.2.2.1 = 1 := rfl
theorem kX11_anew : okP mX11_anew LX11_anew = true := by decide +kernel
section
variable {d n : Nat} {X : Option (List Int32)} {b : Nat × Nat} {Q : Option Value → aH → Prop} {sp : List Nat} {xs : List Value} {h : aH} {st : List Value}
theorem pX11_anew_0 : evP d X mX11_anew b Q LX11_anew sp (n + 1) 0 xs h st = evL mX11_anew X Q (evK sp (evE d X mX11_anew b Q) (evP d X mX11_anew b Q LX11_anew sp n)) sX11_anew_0 11 xs h st := rfl
end
section
variable {X : Option (List Int32)} {Q : Option Value → aH → Prop} {K : Nat → KT} {np : Nat} {xs : List Value} {h : aH} {st : List Value}
theorem uX11_anew_0 : evL mX11_anew X Q K sX11_anew_0 np xs h st = (qLR (xs[0]?) xs h st (evL mX11_anew X Q K sX11_anew_1 np)) := rfl
theorem uX11_anew_1 : evL mX11_anew X Q K sX11_anew_1 np xs h st = (qK (.int (nI 0)) xs h st (evL mX11_anew X Q K sX11_anew_2 np)) := congrArg (fun v : Int32 => qK (.int v) xs h st (evL mX11_anew X Q K sX11_anew_2 np)) kI_0
theorem uX11_anew_2 : evL mX11_anew X Q K sX11_anew_2 np xs h st = (qPF 11 0 st xs h (evL mX11_anew X Q K sX11_anew_5 np)) := rfl
theorem uX11_anew_5 : evL mX11_anew X Q K sX11_anew_5 np xs h st = (qLR (xs[0]?) xs h st (evL mX11_anew X Q K sX11_anew_6 np)) := rfl
theorem uX11_anew_6 : evL mX11_anew X Q K sX11_anew_6 np xs h st = (qK (.int (nI 0)) xs h st (evL mX11_anew X Q K sX11_anew_7 np)) := congrArg (fun v : Int32 => qK (.int v) xs h st (evL mX11_anew X Q K sX11_anew_7 np)) kI_0
theorem uX11_anew_7 : evL mX11_anew X Q K sX11_anew_7 np xs h st = (qPF 11 11 st xs h (evL mX11_anew X Q K sX11_anew_10 np)) := rfl
theorem uX11_anew_10 : evL mX11_anew X Q K sX11_anew_10 np xs h st = (qRV st h Q) := rfl
end

def sX11_isNot_6 : List En := (.ireturn, 0, 0, 0) :: []
def sX11_isNot_5 : List En := (.iconst 0, 0, 0, 0) :: sX11_isNot_6
def sX11_isNot_2 : List En := (.putfield 56, 186, 11, 11) :: sX11_isNot_5
def sX11_isNot_1 : List En := (.iload_n 1, 0, 0, 0) :: sX11_isNot_2
def sX11_isNot_0 : List En := (.aload_n 0, 0, 0, 0) :: sX11_isNot_1
def LX11_isNot : List (Nat × Nat × List En) := [(0, (7, sX11_isNot_0))]
theorem nX11_isNot : mX11_isNot.2.2.2.1 = 2 := rfl
theorem kX11_isNot : okP mX11_isNot LX11_isNot = true := by decide +kernel
section
variable {d n : Nat} {X : Option (List Int32)} {b : Nat × Nat} {Q : Option Value → aH → Prop} {sp : List Nat} {xs : List Value} {h : aH} {st : List Value}
theorem pX11_isNot_0 : evP d X mX11_isNot b Q LX11_isNot sp (n + 1) 0 xs h st = evL mX11_isNot X Q (evK sp (evE d X mX11_isNot b Q) (evP d X mX11_isNot b Q LX11_isNot sp n)) sX11_isNot_0 7 xs h st := rfl
end
section
variable {X : Option (List Int32)} {Q : Option Value → aH → Prop} {K : Nat → KT} {np : Nat} {xs : List Value} {h : aH} {st : List Value}
theorem uX11_isNot_0 : evL mX11_isNot X Q K sX11_isNot_0 np xs h st = (qLR (xs[0]?) xs h st (evL mX11_isNot X Q K sX11_isNot_1 np)) := rfl
theorem uX11_isNot_1 : evL mX11_isNot X Q K sX11_isNot_1 np xs h st = (qLI (xs[1]?) xs h st (evL mX11_isNot X Q K sX11_isNot_2 np)) := rfl
theorem uX11_isNot_2 : evL mX11_isNot X Q K sX11_isNot_2 np xs h st = (qPF 11 11 st xs h (evL mX11_isNot X Q K sX11_isNot_5 np)) := rfl
theorem uX11_isNot_5 : evL mX11_isNot X Q K sX11_isNot_5 np xs h st = (qK (.int (nI 0)) xs h st (evL mX11_isNot X Q K sX11_isNot_6 np)) := congrArg (fun v : Int32 => qK (.int v) xs h st (evL mX11_isNot X Q K sX11_isNot_6 np)) kI_0
theorem uX11_isNot_6 : evL mX11_isNot X Q K sX11_isNot_6 np xs h st = (qRI st h Q) := rfl
end

def sX11_in_2 : List En := (.if_icmp .lt 12, 14, 0, 0) :: []
def sX11_in_1 : List En := (.iload_n 1, 0, 0, 0) :: sX11_in_2
def sX11_in_0 : List En := (.iload_n 0, 0, 0, 0) :: sX11_in_1
def sX11_in_7 : List En := (.if_icmp .gt 7, 14, 0, 0) :: []
def sX11_in_6 : List En := (.iload_n 2, 0, 0, 0) :: sX11_in_7
def sX11_in_5 : List En := (.iload_n 0, 0, 0, 0) :: sX11_in_6
def sX11_in_11 : List En := (.goto 4, 15, 0, 0) :: []
def sX11_in_10 : List En := (.iconst 1, 0, 0, 0) :: sX11_in_11
def sX11_in_14 : List En := (.iconst 0, 0, 0, 0) :: []
def sX11_in_15 : List En := (.ireturn, 0, 0, 0) :: []
def LX11_in : List (Nat × Nat × List En) := [(0, (5, sX11_in_0)), (5, (10, sX11_in_5)), (10, (14, sX11_in_10)), (14, (15, sX11_in_14)), (15, (16, sX11_in_15))]
theorem nX11_in : mX11_in.2.2.2.1 = 3 := rfl
theorem kX11_in : okP mX11_in LX11_in = true := by decide +kernel
section
variable {d n : Nat} {X : Option (List Int32)} {b : Nat × Nat} {Q : Option Value → aH → Prop} {sp : List Nat} {xs : List Value} {h : aH} {st : List Value}
theorem pX11_in_0 : evP d X mX11_in b Q LX11_in sp (n + 1) 0 xs h st = evL mX11_in X Q (evK sp (evE d X mX11_in b Q) (evP d X mX11_in b Q LX11_in sp n)) sX11_in_0 5 xs h st := rfl
theorem pX11_in_5 : evP d X mX11_in b Q LX11_in sp (n + 1) 5 xs h st = evL mX11_in X Q (evK sp (evE d X mX11_in b Q) (evP d X mX11_in b Q LX11_in sp n)) sX11_in_5 10 xs h st := rfl
theorem pX11_in_10 : evP d X mX11_in b Q LX11_in sp (n + 1) 10 xs h st = evL mX11_in X Q (evK sp (evE d X mX11_in b Q) (evP d X mX11_in b Q LX11_in sp n)) sX11_in_10 14 xs h st := rfl
theorem pX11_in_14 : evP d X mX11_in b Q LX11_in sp (n + 1) 14 xs h st = evL mX11_in X Q (evK sp (evE d X mX11_in b Q) (evP d X mX11_in b Q LX11_in sp n)) sX11_in_14 15 xs h st := rfl
theorem pX11_in_15 : evP d X mX11_in b Q LX11_in sp (n + 1) 15 xs h st = evL mX11_in X Q (evK sp (evE d X mX11_in b Q) (evP d X mX11_in b Q LX11_in sp n)) sX11_in_15 16 xs h st := rfl
end
section
variable {X : Option (List Int32)} {Q : Option Value → aH → Prop} {K : Nat → KT} {np : Nat} {xs : List Value} {h : aH} {st : List Value}
theorem uX11_in_0 : evL mX11_in X Q K sX11_in_0 np xs h st = (qLI (xs[0]?) xs h st (evL mX11_in X Q K sX11_in_1 np)) := rfl
theorem uX11_in_1 : evL mX11_in X Q K sX11_in_1 np xs h st = (qLI (xs[1]?) xs h st (evL mX11_in X Q K sX11_in_2 np)) := rfl
theorem uX11_in_2 : evL mX11_in X Q K sX11_in_2 np xs h st = (qIc (fun x y => x < y) st xs h (K 14) (evL mX11_in X Q K [] np)) := rfl
theorem uX11_in_5 : evL mX11_in X Q K sX11_in_5 np xs h st = (qLI (xs[0]?) xs h st (evL mX11_in X Q K sX11_in_6 np)) := rfl
theorem uX11_in_6 : evL mX11_in X Q K sX11_in_6 np xs h st = (qLI (xs[2]?) xs h st (evL mX11_in X Q K sX11_in_7 np)) := rfl
theorem uX11_in_7 : evL mX11_in X Q K sX11_in_7 np xs h st = (qIc (fun x y => y < x) st xs h (K 14) (evL mX11_in X Q K [] np)) := rfl
theorem uX11_in_10 : evL mX11_in X Q K sX11_in_10 np xs h st = (qK (.int (nI 1)) xs h st (evL mX11_in X Q K sX11_in_11 np)) := congrArg (fun v : Int32 => qK (.int v) xs h st (evL mX11_in X Q K sX11_in_11 np)) kI_1
theorem uX11_in_11 : evL mX11_in X Q K sX11_in_11 np xs h st = (K 15 xs h st) := rfl
theorem uX11_in_14 : evL mX11_in X Q K sX11_in_14 np xs h st = (qK (.int (nI 0)) xs h st (evL mX11_in X Q K [] np)) := congrArg (fun v : Int32 => qK (.int v) xs h st (evL mX11_in X Q K [] np)) kI_0
theorem uX11_in_15 : evL mX11_in X Q K sX11_in_15 np xs h st = (qRI st h Q) := rfl
end

def sX11_hasBit_6 : List En := (.if_icmp .ne 7, 13, 0, 0) :: []
def sX11_hasBit_5 : List En := (.iconst 1, 0, 0, 0) :: sX11_hasBit_6
def sX11_hasBit_4 : List En := (.iand, 0, 0, 0) :: sX11_hasBit_5
def sX11_hasBit_3 : List En := (.iconst 1, 0, 0, 0) :: sX11_hasBit_4
def sX11_hasBit_2 : List En := (.ishr, 0, 0, 0) :: sX11_hasBit_3
def sX11_hasBit_1 : List En := (.iload_n 1, 0, 0, 0) :: sX11_hasBit_2
def sX11_hasBit_0 : List En := (.iload_n 0, 0, 0, 0) :: sX11_hasBit_1
def sX11_hasBit_10 : List En := (.goto 4, 14, 0, 0) :: []
def sX11_hasBit_9 : List En := (.iconst 1, 0, 0, 0) :: sX11_hasBit_10
def sX11_hasBit_13 : List En := (.iconst 0, 0, 0, 0) :: []
def sX11_hasBit_14 : List En := (.ireturn, 0, 0, 0) :: []
def LX11_hasBit : List (Nat × Nat × List En) := [(0, (9, sX11_hasBit_0)), (9, (13, sX11_hasBit_9)), (13, (14, sX11_hasBit_13)), (14, (15, sX11_hasBit_14))]
theorem nX11_hasBit : mX11_hasBit.2.2.2.1 = 2 := rfl
theorem kX11_hasBit : okP mX11_hasBit LX11_hasBit = true := by decide +kernel
section
variable {d n : Nat} {X : Option (List Int32)} {b : Nat × Nat} {Q : Option Value → aH → Prop} {sp : List Nat} {xs : List Value} {h : aH} {st : List Value}
theorem pX11_hasBit_0 : evP d X mX11_hasBit b Q LX11_hasBit sp (n + 1) 0 xs h st = evL mX11_hasBit X Q (evK sp (evE d X mX11_hasBit b Q) (evP d X mX11_hasBit b Q LX11_hasBit sp n)) sX11_hasBit_0 9 xs h st := rfl
theorem pX11_hasBit_9 : evP d X mX11_hasBit b Q LX11_hasBit sp (n + 1) 9 xs h st = evL mX11_hasBit X Q (evK sp (evE d X mX11_hasBit b Q) (evP d X mX11_hasBit b Q LX11_hasBit sp n)) sX11_hasBit_9 13 xs h st := rfl
theorem pX11_hasBit_13 : evP d X mX11_hasBit b Q LX11_hasBit sp (n + 1) 13 xs h st = evL mX11_hasBit X Q (evK sp (evE d X mX11_hasBit b Q) (evP d X mX11_hasBit b Q LX11_hasBit sp n)) sX11_hasBit_13 14 xs h st := rfl
theorem pX11_hasBit_14 : evP d X mX11_hasBit b Q LX11_hasBit sp (n + 1) 14 xs h st = evL mX11_hasBit X Q (evK sp (evE d X mX11_hasBit b Q) (evP d X mX11_hasBit b Q LX11_hasBit sp n)) sX11_hasBit_14 15 xs h st := rfl
end
section
variable {X : Option (List Int32)} {Q : Option Value → aH → Prop} {K : Nat → KT} {np : Nat} {xs : List Value} {h : aH} {st : List Value}
theorem uX11_hasBit_0 : evL mX11_hasBit X Q K sX11_hasBit_0 np xs h st = (qLI (xs[0]?) xs h st (evL mX11_hasBit X Q K sX11_hasBit_1 np)) := rfl
theorem uX11_hasBit_1 : evL mX11_hasBit X Q K sX11_hasBit_1 np xs h st = (qLI (xs[1]?) xs h st (evL mX11_hasBit X Q K sX11_hasBit_2 np)) := rfl
theorem uX11_hasBit_2 : evL mX11_hasBit X Q K sX11_hasBit_2 np xs h st = (qI2 (fun x y => x >>> (y &&& 31)) st xs h (evL mX11_hasBit X Q K sX11_hasBit_3 np)) := rfl
theorem uX11_hasBit_3 : evL mX11_hasBit X Q K sX11_hasBit_3 np xs h st = (qK (.int (nI 1)) xs h st (evL mX11_hasBit X Q K sX11_hasBit_4 np)) := congrArg (fun v : Int32 => qK (.int v) xs h st (evL mX11_hasBit X Q K sX11_hasBit_4 np)) kI_1
theorem uX11_hasBit_4 : evL mX11_hasBit X Q K sX11_hasBit_4 np xs h st = (qI2 (fun x y => x &&& y) st xs h (evL mX11_hasBit X Q K sX11_hasBit_5 np)) := rfl
theorem uX11_hasBit_5 : evL mX11_hasBit X Q K sX11_hasBit_5 np xs h st = (qK (.int (nI 1)) xs h st (evL mX11_hasBit X Q K sX11_hasBit_6 np)) := congrArg (fun v : Int32 => qK (.int v) xs h st (evL mX11_hasBit X Q K sX11_hasBit_6 np)) kI_1
theorem uX11_hasBit_6 : evL mX11_hasBit X Q K sX11_hasBit_6 np xs h st = (qIc (fun x y => x = y) st xs h (evL mX11_hasBit X Q K [] np) (K 13)) := rfl
theorem uX11_hasBit_9 : evL mX11_hasBit X Q K sX11_hasBit_9 np xs h st = (qK (.int (nI 1)) xs h st (evL mX11_hasBit X Q K sX11_hasBit_10 np)) := congrArg (fun v : Int32 => qK (.int v) xs h st (evL mX11_hasBit X Q K sX11_hasBit_10 np)) kI_1
theorem uX11_hasBit_10 : evL mX11_hasBit X Q K sX11_hasBit_10 np xs h st = (K 14 xs h st) := rfl
theorem uX11_hasBit_13 : evL mX11_hasBit X Q K sX11_hasBit_13 np xs h st = (qK (.int (nI 0)) xs h st (evL mX11_hasBit X Q K [] np)) := congrArg (fun v : Int32 => qK (.int v) xs h st (evL mX11_hasBit X Q K [] np)) kI_0
theorem uX11_hasBit_14 : evL mX11_hasBit X Q K sX11_hasBit_14 np xs h st = (qRI st h Q) := rfl
end

def sX11_ones_3 : List En := (.istore_n 2, 0, 0, 0) :: []
def sX11_ones_2 : List En := (.iconst 0, 0, 0, 0) :: sX11_ones_3
def sX11_ones_1 : List En := (.istore_n 1, 0, 0, 0) :: sX11_ones_2
def sX11_ones_0 : List En := (.iconst 0, 0, 0, 0) :: sX11_ones_1
def sX11_ones_7 : List En := (.if_icmp .ge 17, 24, 0, 0) :: []
def sX11_ones_5 : List En := (.bipush 15, 0, 0, 0) :: sX11_ones_7
def sX11_ones_4 : List En := (.iload_n 2, 0, 0, 0) :: sX11_ones_5
def sX11_ones_21 : List En := (.goto (-17), 4, 0, 0) :: []
def sX11_ones_18 : List En := (.iinc 2 1, 0, 0, 0) :: sX11_ones_21
def sX11_ones_17 : List En := (.istore_n 1, 0, 0, 0) :: sX11_ones_18
def sX11_ones_16 : List En := (.iadd, 0, 0, 0) :: sX11_ones_17
def sX11_ones_15 : List En := (.iand, 0, 0, 0) :: sX11_ones_16
def sX11_ones_14 : List En := (.iconst 1, 0, 0, 0) :: sX11_ones_15
def sX11_ones_13 : List En := (.ishr, 0, 0, 0) :: sX11_ones_14
def sX11_ones_12 : List En := (.iload_n 2, 0, 0, 0) :: sX11_ones_13
def sX11_ones_11 : List En := (.iload_n 0, 0, 0, 0) :: sX11_ones_12
def sX11_ones_10 : List En := (.iload_n 1, 0, 0, 0) :: sX11_ones_11
def sX11_ones_25 : List En := (.ireturn, 0, 0, 0) :: []
def sX11_ones_24 : List En := (.iload_n 1, 0, 0, 0) :: sX11_ones_25
def LX11_ones : List (Nat × Nat × List En) := [(0, (4, sX11_ones_0)), (4, (10, sX11_ones_4)), (10, (24, sX11_ones_10)), (24, (26, sX11_ones_24))]
theorem nX11_ones : mX11_ones.2.2.2.1 = 3 := rfl
theorem kX11_ones : okP mX11_ones LX11_ones = true := by decide +kernel
section
variable {d n : Nat} {X : Option (List Int32)} {b : Nat × Nat} {Q : Option Value → aH → Prop} {sp : List Nat} {xs : List Value} {h : aH} {st : List Value}
theorem pX11_ones_0 : evP d X mX11_ones b Q LX11_ones sp (n + 1) 0 xs h st = evL mX11_ones X Q (evK sp (evE d X mX11_ones b Q) (evP d X mX11_ones b Q LX11_ones sp n)) sX11_ones_0 4 xs h st := rfl
theorem pX11_ones_4 : evP d X mX11_ones b Q LX11_ones sp (n + 1) 4 xs h st = evL mX11_ones X Q (evK sp (evE d X mX11_ones b Q) (evP d X mX11_ones b Q LX11_ones sp n)) sX11_ones_4 10 xs h st := rfl
theorem pX11_ones_10 : evP d X mX11_ones b Q LX11_ones sp (n + 1) 10 xs h st = evL mX11_ones X Q (evK sp (evE d X mX11_ones b Q) (evP d X mX11_ones b Q LX11_ones sp n)) sX11_ones_10 24 xs h st := rfl
theorem pX11_ones_24 : evP d X mX11_ones b Q LX11_ones sp (n + 1) 24 xs h st = evL mX11_ones X Q (evK sp (evE d X mX11_ones b Q) (evP d X mX11_ones b Q LX11_ones sp n)) sX11_ones_24 26 xs h st := rfl
end
section
variable {X : Option (List Int32)} {Q : Option Value → aH → Prop} {K : Nat → KT} {np : Nat} {xs : List Value} {h : aH} {st : List Value}
theorem uX11_ones_0 : evL mX11_ones X Q K sX11_ones_0 np xs h st = (qK (.int (nI 0)) xs h st (evL mX11_ones X Q K sX11_ones_1 np)) := congrArg (fun v : Int32 => qK (.int v) xs h st (evL mX11_ones X Q K sX11_ones_1 np)) kI_0
theorem uX11_ones_1 : evL mX11_ones X Q K sX11_ones_1 np xs h st = (qSI 3 (1) st xs h (evL mX11_ones X Q K sX11_ones_2 np)) := rfl
theorem uX11_ones_2 : evL mX11_ones X Q K sX11_ones_2 np xs h st = (qK (.int (nI 0)) xs h st (evL mX11_ones X Q K sX11_ones_3 np)) := congrArg (fun v : Int32 => qK (.int v) xs h st (evL mX11_ones X Q K sX11_ones_3 np)) kI_0
theorem uX11_ones_3 : evL mX11_ones X Q K sX11_ones_3 np xs h st = (qSI 3 (2) st xs h (evL mX11_ones X Q K [] np)) := rfl
theorem uX11_ones_4 : evL mX11_ones X Q K sX11_ones_4 np xs h st = (qLI (xs[2]?) xs h st (evL mX11_ones X Q K sX11_ones_5 np)) := rfl
theorem uX11_ones_5 : evL mX11_ones X Q K sX11_ones_5 np xs h st = (qK (.int (nI 15)) xs h st (evL mX11_ones X Q K sX11_ones_7 np)) := congrArg (fun v : Int32 => qK (.int v) xs h st (evL mX11_ones X Q K sX11_ones_7 np)) kB_15
theorem uX11_ones_7 : evL mX11_ones X Q K sX11_ones_7 np xs h st = (qIc (fun x y => x < y) st xs h (evL mX11_ones X Q K [] np) (K 24)) := rfl
theorem uX11_ones_10 : evL mX11_ones X Q K sX11_ones_10 np xs h st = (qLI (xs[1]?) xs h st (evL mX11_ones X Q K sX11_ones_11 np)) := rfl
theorem uX11_ones_11 : evL mX11_ones X Q K sX11_ones_11 np xs h st = (qLI (xs[0]?) xs h st (evL mX11_ones X Q K sX11_ones_12 np)) := rfl
theorem uX11_ones_12 : evL mX11_ones X Q K sX11_ones_12 np xs h st = (qLI (xs[2]?) xs h st (evL mX11_ones X Q K sX11_ones_13 np)) := rfl
theorem uX11_ones_13 : evL mX11_ones X Q K sX11_ones_13 np xs h st = (qI2 (fun x y => x >>> (y &&& 31)) st xs h (evL mX11_ones X Q K sX11_ones_14 np)) := rfl
theorem uX11_ones_14 : evL mX11_ones X Q K sX11_ones_14 np xs h st = (qK (.int (nI 1)) xs h st (evL mX11_ones X Q K sX11_ones_15 np)) := congrArg (fun v : Int32 => qK (.int v) xs h st (evL mX11_ones X Q K sX11_ones_15 np)) kI_1
theorem uX11_ones_15 : evL mX11_ones X Q K sX11_ones_15 np xs h st = (qI2 (fun x y => x &&& y) st xs h (evL mX11_ones X Q K sX11_ones_16 np)) := rfl
theorem uX11_ones_16 : evL mX11_ones X Q K sX11_ones_16 np xs h st = (qI2 (fun x y => x + y) st xs h (evL mX11_ones X Q K sX11_ones_17 np)) := rfl
theorem uX11_ones_17 : evL mX11_ones X Q K sX11_ones_17 np xs h st = (qSI 3 (1) st xs h (evL mX11_ones X Q K sX11_ones_18 np)) := rfl
theorem uX11_ones_18 : evL mX11_ones X Q K sX11_ones_18 np xs h st = (qIn (xs[2]?) 3 2 (nI 1) xs h st (evL mX11_ones X Q K sX11_ones_21 np)) := congrArg (fun v : Int32 => qIn (xs[2]?) 3 2 v xs h st (evL mX11_ones X Q K sX11_ones_21 np)) kI_1
theorem uX11_ones_21 : evL mX11_ones X Q K sX11_ones_21 np xs h st = (K 4 xs h st) := rfl
theorem uX11_ones_24 : evL mX11_ones X Q K sX11_ones_24 np xs h st = (qLI (xs[1]?) xs h st (evL mX11_ones X Q K sX11_ones_25 np)) := rfl
theorem uX11_ones_25 : evL mX11_ones X Q K sX11_ones_25 np xs h st = (qRI st h Q) := rfl
end

def sX11_see_5 : List En := (.if_icmp .ge 12, 17, 0, 0) :: []
def sX11_see_2 : List En := (.getfield 62, 178, 11, 3) :: sX11_see_5
def sX11_see_1 : List En := (.aload_n 0, 0, 0, 0) :: sX11_see_2
def sX11_see_0 : List En := (.iload_n 1, 0, 0, 0) :: sX11_see_1
def sX11_see_14 : List En := (.goto 4, 18, 0, 0) :: []
def sX11_see_13 : List En := (.iaload, 0, 0, 0) :: sX11_see_14
def sX11_see_12 : List En := (.iload_n 1, 0, 0, 0) :: sX11_see_13
def sX11_see_9 : List En := (.getfield 7, 176, 11, 1) :: sX11_see_12
def sX11_see_8 : List En := (.aload_n 0, 0, 0, 0) :: sX11_see_9
def sX11_see_17 : List En := (.iconst (-1), 0, 0, 0) :: []
def sX11_see_18 : List En := (.ireturn, 0, 0, 0) :: []
def LX11_see : List (Nat × Nat × List En) := [(0, (8, sX11_see_0)), (8, (17, sX11_see_8)), (17, (18, sX11_see_17)), (18, (19, sX11_see_18))]
theorem nX11_see : mX11_see.2.2.2.1 = 2 := rfl
theorem kX11_see : okP mX11_see LX11_see = true := by decide +kernel
section
variable {d n : Nat} {X : Option (List Int32)} {b : Nat × Nat} {Q : Option Value → aH → Prop} {sp : List Nat} {xs : List Value} {h : aH} {st : List Value}
theorem pX11_see_0 : evP d X mX11_see b Q LX11_see sp (n + 1) 0 xs h st = evL mX11_see X Q (evK sp (evE d X mX11_see b Q) (evP d X mX11_see b Q LX11_see sp n)) sX11_see_0 8 xs h st := rfl
theorem pX11_see_8 : evP d X mX11_see b Q LX11_see sp (n + 1) 8 xs h st = evL mX11_see X Q (evK sp (evE d X mX11_see b Q) (evP d X mX11_see b Q LX11_see sp n)) sX11_see_8 17 xs h st := rfl
theorem pX11_see_17 : evP d X mX11_see b Q LX11_see sp (n + 1) 17 xs h st = evL mX11_see X Q (evK sp (evE d X mX11_see b Q) (evP d X mX11_see b Q LX11_see sp n)) sX11_see_17 18 xs h st := rfl
theorem pX11_see_18 : evP d X mX11_see b Q LX11_see sp (n + 1) 18 xs h st = evL mX11_see X Q (evK sp (evE d X mX11_see b Q) (evP d X mX11_see b Q LX11_see sp n)) sX11_see_18 19 xs h st := rfl
end
section
variable {X : Option (List Int32)} {Q : Option Value → aH → Prop} {K : Nat → KT} {np : Nat} {xs : List Value} {h : aH} {st : List Value}
theorem uX11_see_0 : evL mX11_see X Q K sX11_see_0 np xs h st = (qLI (xs[1]?) xs h st (evL mX11_see X Q K sX11_see_1 np)) := rfl
theorem uX11_see_1 : evL mX11_see X Q K sX11_see_1 np xs h st = (qLR (xs[0]?) xs h st (evL mX11_see X Q K sX11_see_2 np)) := rfl
theorem uX11_see_2 : evL mX11_see X Q K sX11_see_2 np xs h st = (qGF 11 3 st xs h (evL mX11_see X Q K sX11_see_5 np)) := rfl
theorem uX11_see_5 : evL mX11_see X Q K sX11_see_5 np xs h st = (qIc (fun x y => x < y) st xs h (evL mX11_see X Q K [] np) (K 17)) := rfl
theorem uX11_see_8 : evL mX11_see X Q K sX11_see_8 np xs h st = (qLR (xs[0]?) xs h st (evL mX11_see X Q K sX11_see_9 np)) := rfl
theorem uX11_see_9 : evL mX11_see X Q K sX11_see_9 np xs h st = (qGF 11 1 st xs h (evL mX11_see X Q K sX11_see_12 np)) := rfl
theorem uX11_see_12 : evL mX11_see X Q K sX11_see_12 np xs h st = (qLI (xs[1]?) xs h st (evL mX11_see X Q K sX11_see_13 np)) := rfl
theorem uX11_see_13 : evL mX11_see X Q K sX11_see_13 np xs h st = (qAl X st xs h (evL mX11_see X Q K sX11_see_14 np)) := rfl
theorem uX11_see_14 : evL mX11_see X Q K sX11_see_14 np xs h st = (K 18 xs h st) := rfl
theorem uX11_see_17 : evL mX11_see X Q K sX11_see_17 np xs h st = (qK (.int ((-1))) xs h st (evL mX11_see X Q K [] np)) := congrArg (fun v : Int32 => qK (.int v) xs h st (evL mX11_see X Q K [] np)) kI_m1
theorem uX11_see_18 : evL mX11_see X Q K sX11_see_18 np xs h st = (qRI st h Q) := rfl
end

def sX11_isSmall_3 : List En := (.if_icmp .lt 13, 16, 0, 0) :: []
def sX11_isSmall_1 : List En := (.bipush 97, 0, 0, 0) :: sX11_isSmall_3
def sX11_isSmall_0 : List En := (.iload_n 0, 0, 0, 0) :: sX11_isSmall_1
def sX11_isSmall_9 : List En := (.if_icmp .gt 7, 16, 0, 0) :: []
def sX11_isSmall_7 : List En := (.bipush 122, 0, 0, 0) :: sX11_isSmall_9
def sX11_isSmall_6 : List En := (.iload_n 0, 0, 0, 0) :: sX11_isSmall_7
def sX11_isSmall_13 : List En := (.goto 4, 17, 0, 0) :: []
def sX11_isSmall_12 : List En := (.iconst 1, 0, 0, 0) :: sX11_isSmall_13
def sX11_isSmall_16 : List En := (.iconst 0, 0, 0, 0) :: []
def sX11_isSmall_17 : List En := (.ireturn, 0, 0, 0) :: []
def LX11_isSmall : List (Nat × Nat × List En) := [(0, (6, sX11_isSmall_0)), (6, (12, sX11_isSmall_6)), (12, (16, sX11_isSmall_12)), (16, (17, sX11_isSmall_16)), (17, (18, sX11_isSmall_17))]
theorem nX11_isSmall : mX11_isSmall.2.2.2.1 = 1 := rfl
theorem kX11_isSmall : okP mX11_isSmall LX11_isSmall = true := by decide +kernel
section
variable {d n : Nat} {X : Option (List Int32)} {b : Nat × Nat} {Q : Option Value → aH → Prop} {sp : List Nat} {xs : List Value} {h : aH} {st : List Value}
theorem pX11_isSmall_0 : evP d X mX11_isSmall b Q LX11_isSmall sp (n + 1) 0 xs h st = evL mX11_isSmall X Q (evK sp (evE d X mX11_isSmall b Q) (evP d X mX11_isSmall b Q LX11_isSmall sp n)) sX11_isSmall_0 6 xs h st := rfl
theorem pX11_isSmall_6 : evP d X mX11_isSmall b Q LX11_isSmall sp (n + 1) 6 xs h st = evL mX11_isSmall X Q (evK sp (evE d X mX11_isSmall b Q) (evP d X mX11_isSmall b Q LX11_isSmall sp n)) sX11_isSmall_6 12 xs h st := rfl
theorem pX11_isSmall_12 : evP d X mX11_isSmall b Q LX11_isSmall sp (n + 1) 12 xs h st = evL mX11_isSmall X Q (evK sp (evE d X mX11_isSmall b Q) (evP d X mX11_isSmall b Q LX11_isSmall sp n)) sX11_isSmall_12 16 xs h st := rfl
theorem pX11_isSmall_16 : evP d X mX11_isSmall b Q LX11_isSmall sp (n + 1) 16 xs h st = evL mX11_isSmall X Q (evK sp (evE d X mX11_isSmall b Q) (evP d X mX11_isSmall b Q LX11_isSmall sp n)) sX11_isSmall_16 17 xs h st := rfl
theorem pX11_isSmall_17 : evP d X mX11_isSmall b Q LX11_isSmall sp (n + 1) 17 xs h st = evL mX11_isSmall X Q (evK sp (evE d X mX11_isSmall b Q) (evP d X mX11_isSmall b Q LX11_isSmall sp n)) sX11_isSmall_17 18 xs h st := rfl
end
section
variable {X : Option (List Int32)} {Q : Option Value → aH → Prop} {K : Nat → KT} {np : Nat} {xs : List Value} {h : aH} {st : List Value}
theorem uX11_isSmall_0 : evL mX11_isSmall X Q K sX11_isSmall_0 np xs h st = (qLI (xs[0]?) xs h st (evL mX11_isSmall X Q K sX11_isSmall_1 np)) := rfl
theorem uX11_isSmall_1 : evL mX11_isSmall X Q K sX11_isSmall_1 np xs h st = (qK (.int (nI 97)) xs h st (evL mX11_isSmall X Q K sX11_isSmall_3 np)) := congrArg (fun v : Int32 => qK (.int v) xs h st (evL mX11_isSmall X Q K sX11_isSmall_3 np)) kB_97
theorem uX11_isSmall_3 : evL mX11_isSmall X Q K sX11_isSmall_3 np xs h st = (qIc (fun x y => x < y) st xs h (K 16) (evL mX11_isSmall X Q K [] np)) := rfl
theorem uX11_isSmall_6 : evL mX11_isSmall X Q K sX11_isSmall_6 np xs h st = (qLI (xs[0]?) xs h st (evL mX11_isSmall X Q K sX11_isSmall_7 np)) := rfl
theorem uX11_isSmall_7 : evL mX11_isSmall X Q K sX11_isSmall_7 np xs h st = (qK (.int (nI 122)) xs h st (evL mX11_isSmall X Q K sX11_isSmall_9 np)) := congrArg (fun v : Int32 => qK (.int v) xs h st (evL mX11_isSmall X Q K sX11_isSmall_9 np)) kB_122
theorem uX11_isSmall_9 : evL mX11_isSmall X Q K sX11_isSmall_9 np xs h st = (qIc (fun x y => y < x) st xs h (K 16) (evL mX11_isSmall X Q K [] np)) := rfl
theorem uX11_isSmall_12 : evL mX11_isSmall X Q K sX11_isSmall_12 np xs h st = (qK (.int (nI 1)) xs h st (evL mX11_isSmall X Q K sX11_isSmall_13 np)) := congrArg (fun v : Int32 => qK (.int v) xs h st (evL mX11_isSmall X Q K sX11_isSmall_13 np)) kI_1
theorem uX11_isSmall_13 : evL mX11_isSmall X Q K sX11_isSmall_13 np xs h st = (K 17 xs h st) := rfl
theorem uX11_isSmall_16 : evL mX11_isSmall X Q K sX11_isSmall_16 np xs h st = (qK (.int (nI 0)) xs h st (evL mX11_isSmall X Q K [] np)) := congrArg (fun v : Int32 => qK (.int v) xs h st (evL mX11_isSmall X Q K [] np)) kI_0
theorem uX11_isSmall_17 : evL mX11_isSmall X Q K sX11_isSmall_17 np xs h st = (qRI st h Q) := rfl
end

def sX11_isDigit_3 : List En := (.if_icmp .lt 13, 16, 0, 0) :: []
def sX11_isDigit_1 : List En := (.bipush 48, 0, 0, 0) :: sX11_isDigit_3
def sX11_isDigit_0 : List En := (.iload_n 0, 0, 0, 0) :: sX11_isDigit_1
def sX11_isDigit_9 : List En := (.if_icmp .gt 7, 16, 0, 0) :: []
def sX11_isDigit_7 : List En := (.bipush 57, 0, 0, 0) :: sX11_isDigit_9
def sX11_isDigit_6 : List En := (.iload_n 0, 0, 0, 0) :: sX11_isDigit_7
def sX11_isDigit_13 : List En := (.goto 4, 17, 0, 0) :: []
def sX11_isDigit_12 : List En := (.iconst 1, 0, 0, 0) :: sX11_isDigit_13
def sX11_isDigit_16 : List En := (.iconst 0, 0, 0, 0) :: []
def sX11_isDigit_17 : List En := (.ireturn, 0, 0, 0) :: []
def LX11_isDigit : List (Nat × Nat × List En) := [(0, (6, sX11_isDigit_0)), (6, (12, sX11_isDigit_6)), (12, (16, sX11_isDigit_12)), (16, (17, sX11_isDigit_16)), (17, (18, sX11_isDigit_17))]
theorem nX11_isDigit : mX11_isDigit.2.2.2.1 = 1 := rfl
theorem kX11_isDigit : okP mX11_isDigit LX11_isDigit = true := by decide +kernel
section
variable {d n : Nat} {X : Option (List Int32)} {b : Nat × Nat} {Q : Option Value → aH → Prop} {sp : List Nat} {xs : List Value} {h : aH} {st : List Value}
theorem pX11_isDigit_0 : evP d X mX11_isDigit b Q LX11_isDigit sp (n + 1) 0 xs h st = evL mX11_isDigit X Q (evK sp (evE d X mX11_isDigit b Q) (evP d X mX11_isDigit b Q LX11_isDigit sp n)) sX11_isDigit_0 6 xs h st := rfl
theorem pX11_isDigit_6 : evP d X mX11_isDigit b Q LX11_isDigit sp (n + 1) 6 xs h st = evL mX11_isDigit X Q (evK sp (evE d X mX11_isDigit b Q) (evP d X mX11_isDigit b Q LX11_isDigit sp n)) sX11_isDigit_6 12 xs h st := rfl
theorem pX11_isDigit_12 : evP d X mX11_isDigit b Q LX11_isDigit sp (n + 1) 12 xs h st = evL mX11_isDigit X Q (evK sp (evE d X mX11_isDigit b Q) (evP d X mX11_isDigit b Q LX11_isDigit sp n)) sX11_isDigit_12 16 xs h st := rfl
theorem pX11_isDigit_16 : evP d X mX11_isDigit b Q LX11_isDigit sp (n + 1) 16 xs h st = evL mX11_isDigit X Q (evK sp (evE d X mX11_isDigit b Q) (evP d X mX11_isDigit b Q LX11_isDigit sp n)) sX11_isDigit_16 17 xs h st := rfl
theorem pX11_isDigit_17 : evP d X mX11_isDigit b Q LX11_isDigit sp (n + 1) 17 xs h st = evL mX11_isDigit X Q (evK sp (evE d X mX11_isDigit b Q) (evP d X mX11_isDigit b Q LX11_isDigit sp n)) sX11_isDigit_17 18 xs h st := rfl
end
section
variable {X : Option (List Int32)} {Q : Option Value → aH → Prop} {K : Nat → KT} {np : Nat} {xs : List Value} {h : aH} {st : List Value}
theorem uX11_isDigit_0 : evL mX11_isDigit X Q K sX11_isDigit_0 np xs h st = (qLI (xs[0]?) xs h st (evL mX11_isDigit X Q K sX11_isDigit_1 np)) := rfl
theorem uX11_isDigit_1 : evL mX11_isDigit X Q K sX11_isDigit_1 np xs h st = (qK (.int (nI 48)) xs h st (evL mX11_isDigit X Q K sX11_isDigit_3 np)) := congrArg (fun v : Int32 => qK (.int v) xs h st (evL mX11_isDigit X Q K sX11_isDigit_3 np)) kB_48
theorem uX11_isDigit_3 : evL mX11_isDigit X Q K sX11_isDigit_3 np xs h st = (qIc (fun x y => x < y) st xs h (K 16) (evL mX11_isDigit X Q K [] np)) := rfl
theorem uX11_isDigit_6 : evL mX11_isDigit X Q K sX11_isDigit_6 np xs h st = (qLI (xs[0]?) xs h st (evL mX11_isDigit X Q K sX11_isDigit_7 np)) := rfl
theorem uX11_isDigit_7 : evL mX11_isDigit X Q K sX11_isDigit_7 np xs h st = (qK (.int (nI 57)) xs h st (evL mX11_isDigit X Q K sX11_isDigit_9 np)) := congrArg (fun v : Int32 => qK (.int v) xs h st (evL mX11_isDigit X Q K sX11_isDigit_9 np)) kB_57
theorem uX11_isDigit_9 : evL mX11_isDigit X Q K sX11_isDigit_9 np xs h st = (qIc (fun x y => y < x) st xs h (K 16) (evL mX11_isDigit X Q K [] np)) := rfl
theorem uX11_isDigit_12 : evL mX11_isDigit X Q K sX11_isDigit_12 np xs h st = (qK (.int (nI 1)) xs h st (evL mX11_isDigit X Q K sX11_isDigit_13 np)) := congrArg (fun v : Int32 => qK (.int v) xs h st (evL mX11_isDigit X Q K sX11_isDigit_13 np)) kI_1
theorem uX11_isDigit_13 : evL mX11_isDigit X Q K sX11_isDigit_13 np xs h st = (K 17 xs h st) := rfl
theorem uX11_isDigit_16 : evL mX11_isDigit X Q K sX11_isDigit_16 np xs h st = (qK (.int (nI 0)) xs h st (evL mX11_isDigit X Q K [] np)) := congrArg (fun v : Int32 => qK (.int v) xs h st (evL mX11_isDigit X Q K [] np)) kI_0
theorem uX11_isDigit_17 : evL mX11_isDigit X Q K sX11_isDigit_17 np xs h st = (qRI st h Q) := rfl
end

def sX11_thrown_4 : List En := (.ireturn, 0, 0, 0) :: []
def sX11_thrown_1 : List En := (.getfield 53, 175, 11, 0) :: sX11_thrown_4
def sX11_thrown_0 : List En := (.aload_n 0, 0, 0, 0) :: sX11_thrown_1
def LX11_thrown : List (Nat × Nat × List En) := [(0, (5, sX11_thrown_0))]
theorem nX11_thrown : mX11_thrown.2.2.2.1 = 1 := rfl
theorem kX11_thrown : okP mX11_thrown LX11_thrown = true := by decide +kernel
section
variable {d n : Nat} {X : Option (List Int32)} {b : Nat × Nat} {Q : Option Value → aH → Prop} {sp : List Nat} {xs : List Value} {h : aH} {st : List Value}
theorem pX11_thrown_0 : evP d X mX11_thrown b Q LX11_thrown sp (n + 1) 0 xs h st = evL mX11_thrown X Q (evK sp (evE d X mX11_thrown b Q) (evP d X mX11_thrown b Q LX11_thrown sp n)) sX11_thrown_0 5 xs h st := rfl
end
section
variable {X : Option (List Int32)} {Q : Option Value → aH → Prop} {K : Nat → KT} {np : Nat} {xs : List Value} {h : aH} {st : List Value}
theorem uX11_thrown_0 : evL mX11_thrown X Q K sX11_thrown_0 np xs h st = (qLR (xs[0]?) xs h st (evL mX11_thrown X Q K sX11_thrown_1 np)) := rfl
theorem uX11_thrown_1 : evL mX11_thrown X Q K sX11_thrown_1 np xs h st = (qGF 11 0 st xs h (evL mX11_thrown X Q K sX11_thrown_4 np)) := rfl
theorem uX11_thrown_4 : evL mX11_thrown X Q K sX11_thrown_4 np xs h st = (qRI st h Q) := rfl
end

def sX11_wrong_4 : List En := (.ifCond .eq 4, 8, 0, 0) :: []
def sX11_wrong_1 : List En := (.getfield 91, 188, 11, 13) :: sX11_wrong_4
def sX11_wrong_0 : List En := (.aload_n 0, 0, 0, 0) :: sX11_wrong_1
def sX11_wrong_7 : List En := (.return_, 0, 0, 0) :: []
def sX11_wrong_23 : List En := (.return_, 0, 0, 0) :: []
def sX11_wrong_20 : List En := (.putfield 13, 185, 11, 10) :: sX11_wrong_23
def sX11_wrong_19 : List En := (.iload_n 2, 0, 0, 0) :: sX11_wrong_20
def sX11_wrong_18 : List En := (.aload_n 0, 0, 0, 0) :: sX11_wrong_19
def sX11_wrong_15 : List En := (.putfield 95, 184, 11, 9) :: sX11_wrong_18
def sX11_wrong_14 : List En := (.iload_n 1, 0, 0, 0) :: sX11_wrong_15
def sX11_wrong_13 : List En := (.aload_n 0, 0, 0, 0) :: sX11_wrong_14
def sX11_wrong_10 : List En := (.putfield 91, 188, 11, 13) :: sX11_wrong_13
def sX11_wrong_9 : List En := (.iconst 1, 0, 0, 0) :: sX11_wrong_10
def sX11_wrong_8 : List En := (.aload_n 0, 0, 0, 0) :: sX11_wrong_9
def LX11_wrong : List (Nat × Nat × List En) := [(0, (7, sX11_wrong_0)), (7, (8, sX11_wrong_7)), (8, (24, sX11_wrong_8))]
theorem nX11_wrong : mX11_wrong.2.2.2.1 = 3 := rfl
theorem kX11_wrong : okP mX11_wrong LX11_wrong = true := by decide +kernel
section
variable {d n : Nat} {X : Option (List Int32)} {b : Nat × Nat} {Q : Option Value → aH → Prop} {sp : List Nat} {xs : List Value} {h : aH} {st : List Value}
theorem pX11_wrong_0 : evP d X mX11_wrong b Q LX11_wrong sp (n + 1) 0 xs h st = evL mX11_wrong X Q (evK sp (evE d X mX11_wrong b Q) (evP d X mX11_wrong b Q LX11_wrong sp n)) sX11_wrong_0 7 xs h st := rfl
theorem pX11_wrong_7 : evP d X mX11_wrong b Q LX11_wrong sp (n + 1) 7 xs h st = evL mX11_wrong X Q (evK sp (evE d X mX11_wrong b Q) (evP d X mX11_wrong b Q LX11_wrong sp n)) sX11_wrong_7 8 xs h st := rfl
theorem pX11_wrong_8 : evP d X mX11_wrong b Q LX11_wrong sp (n + 1) 8 xs h st = evL mX11_wrong X Q (evK sp (evE d X mX11_wrong b Q) (evP d X mX11_wrong b Q LX11_wrong sp n)) sX11_wrong_8 24 xs h st := rfl
end
section
variable {X : Option (List Int32)} {Q : Option Value → aH → Prop} {K : Nat → KT} {np : Nat} {xs : List Value} {h : aH} {st : List Value}
theorem uX11_wrong_0 : evL mX11_wrong X Q K sX11_wrong_0 np xs h st = (qLR (xs[0]?) xs h st (evL mX11_wrong X Q K sX11_wrong_1 np)) := rfl
theorem uX11_wrong_1 : evL mX11_wrong X Q K sX11_wrong_1 np xs h st = (qGF 11 13 st xs h (evL mX11_wrong X Q K sX11_wrong_4 np)) := rfl
theorem uX11_wrong_4 : evL mX11_wrong X Q K sX11_wrong_4 np xs h st = (qIf (fun x => x = 0) st xs h (K 8) (evL mX11_wrong X Q K [] np)) := rfl
theorem uX11_wrong_7 : evL mX11_wrong X Q K sX11_wrong_7 np xs h st = (qRV st h Q) := rfl
theorem uX11_wrong_8 : evL mX11_wrong X Q K sX11_wrong_8 np xs h st = (qLR (xs[0]?) xs h st (evL mX11_wrong X Q K sX11_wrong_9 np)) := rfl
theorem uX11_wrong_9 : evL mX11_wrong X Q K sX11_wrong_9 np xs h st = (qK (.int (nI 1)) xs h st (evL mX11_wrong X Q K sX11_wrong_10 np)) := congrArg (fun v : Int32 => qK (.int v) xs h st (evL mX11_wrong X Q K sX11_wrong_10 np)) kI_1
theorem uX11_wrong_10 : evL mX11_wrong X Q K sX11_wrong_10 np xs h st = (qPF 11 13 st xs h (evL mX11_wrong X Q K sX11_wrong_13 np)) := rfl
theorem uX11_wrong_13 : evL mX11_wrong X Q K sX11_wrong_13 np xs h st = (qLR (xs[0]?) xs h st (evL mX11_wrong X Q K sX11_wrong_14 np)) := rfl
theorem uX11_wrong_14 : evL mX11_wrong X Q K sX11_wrong_14 np xs h st = (qLI (xs[1]?) xs h st (evL mX11_wrong X Q K sX11_wrong_15 np)) := rfl
theorem uX11_wrong_15 : evL mX11_wrong X Q K sX11_wrong_15 np xs h st = (qPF 11 9 st xs h (evL mX11_wrong X Q K sX11_wrong_18 np)) := rfl
theorem uX11_wrong_18 : evL mX11_wrong X Q K sX11_wrong_18 np xs h st = (qLR (xs[0]?) xs h st (evL mX11_wrong X Q K sX11_wrong_19 np)) := rfl
theorem uX11_wrong_19 : evL mX11_wrong X Q K sX11_wrong_19 np xs h st = (qLI (xs[2]?) xs h st (evL mX11_wrong X Q K sX11_wrong_20 np)) := rfl
theorem uX11_wrong_20 : evL mX11_wrong X Q K sX11_wrong_20 np xs h st = (qPF 11 10 st xs h (evL mX11_wrong X Q K sX11_wrong_23 np)) := rfl
theorem uX11_wrong_23 : evL mX11_wrong X Q K sX11_wrong_23 np xs h st = (qRV st h Q) := rfl
end

def sX11_why_1 : List En := (.ifCond .ne 7, 8, 0, 0) :: []
def sX11_why_0 : List En := (.iload_n 1, 0, 0, 0) :: sX11_why_1
def sX11_why_5 : List En := (.goto 12, 17, 0, 0) :: []
def sX11_why_4 : List En := (.iconst 1, 0, 0, 0) :: sX11_why_5
def sX11_why_9 : List En := (.ifCond .eq 7, 16, 0, 0) :: []
def sX11_why_8 : List En := (.iload_n 2, 0, 0, 0) :: sX11_why_9
def sX11_why_13 : List En := (.goto 4, 17, 0, 0) :: []
def sX11_why_12 : List En := (.iconst 0, 0, 0, 0) :: sX11_why_13
def sX11_why_16 : List En := (.iconst 2, 0, 0, 0) :: []
def sX11_why_17 : List En := (.ireturn, 0, 0, 0) :: []
def LX11_why : List (Nat × Nat × List En) := [(0, (4, sX11_why_0)), (4, (8, sX11_why_4)), (8, (12, sX11_why_8)), (12, (16, sX11_why_12)), (16, (17, sX11_why_16)), (17, (18, sX11_why_17))]
theorem nX11_why : mX11_why.2.2.2.1 = 3 := rfl
theorem kX11_why : okP mX11_why LX11_why = true := by decide +kernel
section
variable {d n : Nat} {X : Option (List Int32)} {b : Nat × Nat} {Q : Option Value → aH → Prop} {sp : List Nat} {xs : List Value} {h : aH} {st : List Value}
theorem pX11_why_0 : evP d X mX11_why b Q LX11_why sp (n + 1) 0 xs h st = evL mX11_why X Q (evK sp (evE d X mX11_why b Q) (evP d X mX11_why b Q LX11_why sp n)) sX11_why_0 4 xs h st := rfl
theorem pX11_why_4 : evP d X mX11_why b Q LX11_why sp (n + 1) 4 xs h st = evL mX11_why X Q (evK sp (evE d X mX11_why b Q) (evP d X mX11_why b Q LX11_why sp n)) sX11_why_4 8 xs h st := rfl
theorem pX11_why_8 : evP d X mX11_why b Q LX11_why sp (n + 1) 8 xs h st = evL mX11_why X Q (evK sp (evE d X mX11_why b Q) (evP d X mX11_why b Q LX11_why sp n)) sX11_why_8 12 xs h st := rfl
theorem pX11_why_12 : evP d X mX11_why b Q LX11_why sp (n + 1) 12 xs h st = evL mX11_why X Q (evK sp (evE d X mX11_why b Q) (evP d X mX11_why b Q LX11_why sp n)) sX11_why_12 16 xs h st := rfl
theorem pX11_why_16 : evP d X mX11_why b Q LX11_why sp (n + 1) 16 xs h st = evL mX11_why X Q (evK sp (evE d X mX11_why b Q) (evP d X mX11_why b Q LX11_why sp n)) sX11_why_16 17 xs h st := rfl
theorem pX11_why_17 : evP d X mX11_why b Q LX11_why sp (n + 1) 17 xs h st = evL mX11_why X Q (evK sp (evE d X mX11_why b Q) (evP d X mX11_why b Q LX11_why sp n)) sX11_why_17 18 xs h st := rfl
end
section
variable {X : Option (List Int32)} {Q : Option Value → aH → Prop} {K : Nat → KT} {np : Nat} {xs : List Value} {h : aH} {st : List Value}
theorem uX11_why_0 : evL mX11_why X Q K sX11_why_0 np xs h st = (qLI (xs[1]?) xs h st (evL mX11_why X Q K sX11_why_1 np)) := rfl
theorem uX11_why_1 : evL mX11_why X Q K sX11_why_1 np xs h st = (qIf (fun x => x = 0) st xs h (evL mX11_why X Q K [] np) (K 8)) := rfl
theorem uX11_why_4 : evL mX11_why X Q K sX11_why_4 np xs h st = (qK (.int (nI 1)) xs h st (evL mX11_why X Q K sX11_why_5 np)) := congrArg (fun v : Int32 => qK (.int v) xs h st (evL mX11_why X Q K sX11_why_5 np)) kI_1
theorem uX11_why_5 : evL mX11_why X Q K sX11_why_5 np xs h st = (K 17 xs h st) := rfl
theorem uX11_why_8 : evL mX11_why X Q K sX11_why_8 np xs h st = (qLI (xs[2]?) xs h st (evL mX11_why X Q K sX11_why_9 np)) := rfl
theorem uX11_why_9 : evL mX11_why X Q K sX11_why_9 np xs h st = (qIf (fun x => x = 0) st xs h (K 16) (evL mX11_why X Q K [] np)) := rfl
theorem uX11_why_12 : evL mX11_why X Q K sX11_why_12 np xs h st = (qK (.int (nI 0)) xs h st (evL mX11_why X Q K sX11_why_13 np)) := congrArg (fun v : Int32 => qK (.int v) xs h st (evL mX11_why X Q K sX11_why_13 np)) kI_0
theorem uX11_why_13 : evL mX11_why X Q K sX11_why_13 np xs h st = (K 17 xs h st) := rfl
theorem uX11_why_16 : evL mX11_why X Q K sX11_why_16 np xs h st = (qK (.int (nI 2)) xs h st (evL mX11_why X Q K [] np)) := congrArg (fun v : Int32 => qK (.int v) xs h st (evL mX11_why X Q K [] np)) kI_2
theorem uX11_why_17 : evL mX11_why X Q K sX11_why_17 np xs h st = (qRI st h Q) := rfl
end

def sX11_nameAt_4 : List En := (.istore_n 3, 0, 0, 0) :: []
def sX11_nameAt_3 : List En := (.iconst 0, 0, 0, 0) :: sX11_nameAt_4
def sX11_nameAt_2 : List En := (.istore_n 2, 0, 0, 0) :: sX11_nameAt_3
def sX11_nameAt_0 : List En := (.bipush (-2), 0, 0, 0) :: sX11_nameAt_2
def sX11_nameAt_12 : List En := (.if_icmp .ge 55, 67, 0, 0) :: []
def sX11_nameAt_11 : List En := (.iaload, 0, 0, 0) :: sX11_nameAt_12
def sX11_nameAt_10 : List En := (.iconst 4, 0, 0, 0) :: sX11_nameAt_11
def sX11_nameAt_7 : List En := (.getfield 20, 190, 11, 15) :: sX11_nameAt_10
def sX11_nameAt_6 : List En := (.aload_n 0, 0, 0, 0) :: sX11_nameAt_7
def sX11_nameAt_5 : List En := (.iload_n 3, 0, 0, 0) :: sX11_nameAt_6
def sX11_nameAt_27 : List En := (.if_icmp .gt 34, 61, 0, 0) :: []
def sX11_nameAt_26 : List En := (.iload_n 1, 0, 0, 0) :: sX11_nameAt_27
def sX11_nameAt_25 : List En := (.iaload, 0, 0, 0) :: sX11_nameAt_26
def sX11_nameAt_24 : List En := (.iadd, 0, 0, 0) :: sX11_nameAt_25
def sX11_nameAt_23 : List En := (.imul, 0, 0, 0) :: sX11_nameAt_24
def sX11_nameAt_22 : List En := (.iload_n 3, 0, 0, 0) :: sX11_nameAt_23
def sX11_nameAt_21 : List En := (.iconst 2, 0, 0, 0) :: sX11_nameAt_22
def sX11_nameAt_19 : List En := (.bipush 19, 0, 0, 0) :: sX11_nameAt_21
def sX11_nameAt_16 : List En := (.getfield 20, 190, 11, 15) :: sX11_nameAt_19
def sX11_nameAt_15 : List En := (.aload_n 0, 0, 0, 0) :: sX11_nameAt_16
def sX11_nameAt_31 : List En := (.ifCond .lt 28, 59, 0, 0) :: []
def sX11_nameAt_30 : List En := (.iload_n 2, 0, 0, 0) :: sX11_nameAt_31
def sX11_nameAt_56 : List En := (.if_icmp .le 5, 61, 0, 0) :: []
def sX11_nameAt_55 : List En := (.iaload, 0, 0, 0) :: sX11_nameAt_56
def sX11_nameAt_54 : List En := (.iadd, 0, 0, 0) :: sX11_nameAt_55
def sX11_nameAt_53 : List En := (.imul, 0, 0, 0) :: sX11_nameAt_54
def sX11_nameAt_52 : List En := (.iload_n 2, 0, 0, 0) :: sX11_nameAt_53
def sX11_nameAt_51 : List En := (.iconst 2, 0, 0, 0) :: sX11_nameAt_52
def sX11_nameAt_49 : List En := (.bipush 19, 0, 0, 0) :: sX11_nameAt_51
def sX11_nameAt_46 : List En := (.getfield 20, 190, 11, 15) :: sX11_nameAt_49
def sX11_nameAt_45 : List En := (.aload_n 0, 0, 0, 0) :: sX11_nameAt_46
def sX11_nameAt_44 : List En := (.iaload, 0, 0, 0) :: sX11_nameAt_45
def sX11_nameAt_43 : List En := (.iadd, 0, 0, 0) :: sX11_nameAt_44
def sX11_nameAt_42 : List En := (.imul, 0, 0, 0) :: sX11_nameAt_43
def sX11_nameAt_41 : List En := (.iload_n 3, 0, 0, 0) :: sX11_nameAt_42
def sX11_nameAt_40 : List En := (.iconst 2, 0, 0, 0) :: sX11_nameAt_41
def sX11_nameAt_38 : List En := (.bipush 19, 0, 0, 0) :: sX11_nameAt_40
def sX11_nameAt_35 : List En := (.getfield 20, 190, 11, 15) :: sX11_nameAt_38
def sX11_nameAt_34 : List En := (.aload_n 0, 0, 0, 0) :: sX11_nameAt_35
def sX11_nameAt_60 : List En := (.istore_n 2, 0, 0, 0) :: []
def sX11_nameAt_59 : List En := (.iload_n 3, 0, 0, 0) :: sX11_nameAt_60
def sX11_nameAt_64 : List En := (.goto (-59), 5, 0, 0) :: []
def sX11_nameAt_61 : List En := (.iinc 3 1, 0, 0, 0) :: sX11_nameAt_64
def sX11_nameAt_68 : List En := (.ireturn, 0, 0, 0) :: []
def sX11_nameAt_67 : List En := (.iload_n 2, 0, 0, 0) :: sX11_nameAt_68
def LX11_nameAt : List (Nat × Nat × List En) := [(0, (5, sX11_nameAt_0)), (5, (15, sX11_nameAt_5)), (15, (30, sX11_nameAt_15)), (30, (34, sX11_nameAt_30)), (34, (59, sX11_nameAt_34)), (59, (61, sX11_nameAt_59)), (61, (67, sX11_nameAt_61)), (67, (69, sX11_nameAt_67))]
theorem nX11_nameAt : mX11_nameAt.2.2.2.1 = 4 := rfl
theorem kX11_nameAt : okP mX11_nameAt LX11_nameAt = true := by decide +kernel
section
variable {d n : Nat} {X : Option (List Int32)} {b : Nat × Nat} {Q : Option Value → aH → Prop} {sp : List Nat} {xs : List Value} {h : aH} {st : List Value}
theorem pX11_nameAt_0 : evP d X mX11_nameAt b Q LX11_nameAt sp (n + 1) 0 xs h st = evL mX11_nameAt X Q (evK sp (evE d X mX11_nameAt b Q) (evP d X mX11_nameAt b Q LX11_nameAt sp n)) sX11_nameAt_0 5 xs h st := rfl
theorem pX11_nameAt_5 : evP d X mX11_nameAt b Q LX11_nameAt sp (n + 1) 5 xs h st = evL mX11_nameAt X Q (evK sp (evE d X mX11_nameAt b Q) (evP d X mX11_nameAt b Q LX11_nameAt sp n)) sX11_nameAt_5 15 xs h st := rfl
theorem pX11_nameAt_15 : evP d X mX11_nameAt b Q LX11_nameAt sp (n + 1) 15 xs h st = evL mX11_nameAt X Q (evK sp (evE d X mX11_nameAt b Q) (evP d X mX11_nameAt b Q LX11_nameAt sp n)) sX11_nameAt_15 30 xs h st := rfl
theorem pX11_nameAt_30 : evP d X mX11_nameAt b Q LX11_nameAt sp (n + 1) 30 xs h st = evL mX11_nameAt X Q (evK sp (evE d X mX11_nameAt b Q) (evP d X mX11_nameAt b Q LX11_nameAt sp n)) sX11_nameAt_30 34 xs h st := rfl
theorem pX11_nameAt_34 : evP d X mX11_nameAt b Q LX11_nameAt sp (n + 1) 34 xs h st = evL mX11_nameAt X Q (evK sp (evE d X mX11_nameAt b Q) (evP d X mX11_nameAt b Q LX11_nameAt sp n)) sX11_nameAt_34 59 xs h st := rfl
theorem pX11_nameAt_59 : evP d X mX11_nameAt b Q LX11_nameAt sp (n + 1) 59 xs h st = evL mX11_nameAt X Q (evK sp (evE d X mX11_nameAt b Q) (evP d X mX11_nameAt b Q LX11_nameAt sp n)) sX11_nameAt_59 61 xs h st := rfl
theorem pX11_nameAt_61 : evP d X mX11_nameAt b Q LX11_nameAt sp (n + 1) 61 xs h st = evL mX11_nameAt X Q (evK sp (evE d X mX11_nameAt b Q) (evP d X mX11_nameAt b Q LX11_nameAt sp n)) sX11_nameAt_61 67 xs h st := rfl
theorem pX11_nameAt_67 : evP d X mX11_nameAt b Q LX11_nameAt sp (n + 1) 67 xs h st = evL mX11_nameAt X Q (evK sp (evE d X mX11_nameAt b Q) (evP d X mX11_nameAt b Q LX11_nameAt sp n)) sX11_nameAt_67 69 xs h st := rfl
end
section
variable {X : Option (List Int32)} {Q : Option Value → aH → Prop} {K : Nat → KT} {np : Nat} {xs : List Value} {h : aH} {st : List Value}
theorem uX11_nameAt_0 : evL mX11_nameAt X Q K sX11_nameAt_0 np xs h st = (qK (.int ((-2))) xs h st (evL mX11_nameAt X Q K sX11_nameAt_2 np)) := congrArg (fun v : Int32 => qK (.int v) xs h st (evL mX11_nameAt X Q K sX11_nameAt_2 np)) kB_m2
theorem uX11_nameAt_2 : evL mX11_nameAt X Q K sX11_nameAt_2 np xs h st = (qSI 4 (2) st xs h (evL mX11_nameAt X Q K sX11_nameAt_3 np)) := rfl
theorem uX11_nameAt_3 : evL mX11_nameAt X Q K sX11_nameAt_3 np xs h st = (qK (.int (nI 0)) xs h st (evL mX11_nameAt X Q K sX11_nameAt_4 np)) := congrArg (fun v : Int32 => qK (.int v) xs h st (evL mX11_nameAt X Q K sX11_nameAt_4 np)) kI_0
theorem uX11_nameAt_4 : evL mX11_nameAt X Q K sX11_nameAt_4 np xs h st = (qSI 4 (3) st xs h (evL mX11_nameAt X Q K [] np)) := rfl
theorem uX11_nameAt_5 : evL mX11_nameAt X Q K sX11_nameAt_5 np xs h st = (qLI (xs[3]?) xs h st (evL mX11_nameAt X Q K sX11_nameAt_6 np)) := rfl
theorem uX11_nameAt_6 : evL mX11_nameAt X Q K sX11_nameAt_6 np xs h st = (qLR (xs[0]?) xs h st (evL mX11_nameAt X Q K sX11_nameAt_7 np)) := rfl
theorem uX11_nameAt_7 : evL mX11_nameAt X Q K sX11_nameAt_7 np xs h st = (qGF 11 15 st xs h (evL mX11_nameAt X Q K sX11_nameAt_10 np)) := rfl
theorem uX11_nameAt_10 : evL mX11_nameAt X Q K sX11_nameAt_10 np xs h st = (qK (.int (nI 4)) xs h st (evL mX11_nameAt X Q K sX11_nameAt_11 np)) := congrArg (fun v : Int32 => qK (.int v) xs h st (evL mX11_nameAt X Q K sX11_nameAt_11 np)) kI_4
theorem uX11_nameAt_11 : evL mX11_nameAt X Q K sX11_nameAt_11 np xs h st = (qAl X st xs h (evL mX11_nameAt X Q K sX11_nameAt_12 np)) := rfl
theorem uX11_nameAt_12 : evL mX11_nameAt X Q K sX11_nameAt_12 np xs h st = (qIc (fun x y => x < y) st xs h (evL mX11_nameAt X Q K [] np) (K 67)) := rfl
theorem uX11_nameAt_15 : evL mX11_nameAt X Q K sX11_nameAt_15 np xs h st = (qLR (xs[0]?) xs h st (evL mX11_nameAt X Q K sX11_nameAt_16 np)) := rfl
theorem uX11_nameAt_16 : evL mX11_nameAt X Q K sX11_nameAt_16 np xs h st = (qGF 11 15 st xs h (evL mX11_nameAt X Q K sX11_nameAt_19 np)) := rfl
theorem uX11_nameAt_19 : evL mX11_nameAt X Q K sX11_nameAt_19 np xs h st = (qK (.int (nI 19)) xs h st (evL mX11_nameAt X Q K sX11_nameAt_21 np)) := congrArg (fun v : Int32 => qK (.int v) xs h st (evL mX11_nameAt X Q K sX11_nameAt_21 np)) kB_19
theorem uX11_nameAt_21 : evL mX11_nameAt X Q K sX11_nameAt_21 np xs h st = (qK (.int (nI 2)) xs h st (evL mX11_nameAt X Q K sX11_nameAt_22 np)) := congrArg (fun v : Int32 => qK (.int v) xs h st (evL mX11_nameAt X Q K sX11_nameAt_22 np)) kI_2
theorem uX11_nameAt_22 : evL mX11_nameAt X Q K sX11_nameAt_22 np xs h st = (qLI (xs[3]?) xs h st (evL mX11_nameAt X Q K sX11_nameAt_23 np)) := rfl
theorem uX11_nameAt_23 : evL mX11_nameAt X Q K sX11_nameAt_23 np xs h st = (qI2 (fun x y => x * y) st xs h (evL mX11_nameAt X Q K sX11_nameAt_24 np)) := rfl
theorem uX11_nameAt_24 : evL mX11_nameAt X Q K sX11_nameAt_24 np xs h st = (qI2 (fun x y => x + y) st xs h (evL mX11_nameAt X Q K sX11_nameAt_25 np)) := rfl
theorem uX11_nameAt_25 : evL mX11_nameAt X Q K sX11_nameAt_25 np xs h st = (qAl X st xs h (evL mX11_nameAt X Q K sX11_nameAt_26 np)) := rfl
theorem uX11_nameAt_26 : evL mX11_nameAt X Q K sX11_nameAt_26 np xs h st = (qLI (xs[1]?) xs h st (evL mX11_nameAt X Q K sX11_nameAt_27 np)) := rfl
theorem uX11_nameAt_27 : evL mX11_nameAt X Q K sX11_nameAt_27 np xs h st = (qIc (fun x y => y < x) st xs h (K 61) (evL mX11_nameAt X Q K [] np)) := rfl
theorem uX11_nameAt_30 : evL mX11_nameAt X Q K sX11_nameAt_30 np xs h st = (qLI (xs[2]?) xs h st (evL mX11_nameAt X Q K sX11_nameAt_31 np)) := rfl
theorem uX11_nameAt_31 : evL mX11_nameAt X Q K sX11_nameAt_31 np xs h st = (qIf (fun x => x < 0) st xs h (K 59) (evL mX11_nameAt X Q K [] np)) := rfl
theorem uX11_nameAt_34 : evL mX11_nameAt X Q K sX11_nameAt_34 np xs h st = (qLR (xs[0]?) xs h st (evL mX11_nameAt X Q K sX11_nameAt_35 np)) := rfl
theorem uX11_nameAt_35 : evL mX11_nameAt X Q K sX11_nameAt_35 np xs h st = (qGF 11 15 st xs h (evL mX11_nameAt X Q K sX11_nameAt_38 np)) := rfl
theorem uX11_nameAt_38 : evL mX11_nameAt X Q K sX11_nameAt_38 np xs h st = (qK (.int (nI 19)) xs h st (evL mX11_nameAt X Q K sX11_nameAt_40 np)) := congrArg (fun v : Int32 => qK (.int v) xs h st (evL mX11_nameAt X Q K sX11_nameAt_40 np)) kB_19
theorem uX11_nameAt_40 : evL mX11_nameAt X Q K sX11_nameAt_40 np xs h st = (qK (.int (nI 2)) xs h st (evL mX11_nameAt X Q K sX11_nameAt_41 np)) := congrArg (fun v : Int32 => qK (.int v) xs h st (evL mX11_nameAt X Q K sX11_nameAt_41 np)) kI_2
theorem uX11_nameAt_41 : evL mX11_nameAt X Q K sX11_nameAt_41 np xs h st = (qLI (xs[3]?) xs h st (evL mX11_nameAt X Q K sX11_nameAt_42 np)) := rfl
theorem uX11_nameAt_42 : evL mX11_nameAt X Q K sX11_nameAt_42 np xs h st = (qI2 (fun x y => x * y) st xs h (evL mX11_nameAt X Q K sX11_nameAt_43 np)) := rfl
theorem uX11_nameAt_43 : evL mX11_nameAt X Q K sX11_nameAt_43 np xs h st = (qI2 (fun x y => x + y) st xs h (evL mX11_nameAt X Q K sX11_nameAt_44 np)) := rfl
theorem uX11_nameAt_44 : evL mX11_nameAt X Q K sX11_nameAt_44 np xs h st = (qAl X st xs h (evL mX11_nameAt X Q K sX11_nameAt_45 np)) := rfl
theorem uX11_nameAt_45 : evL mX11_nameAt X Q K sX11_nameAt_45 np xs h st = (qLR (xs[0]?) xs h st (evL mX11_nameAt X Q K sX11_nameAt_46 np)) := rfl
theorem uX11_nameAt_46 : evL mX11_nameAt X Q K sX11_nameAt_46 np xs h st = (qGF 11 15 st xs h (evL mX11_nameAt X Q K sX11_nameAt_49 np)) := rfl
theorem uX11_nameAt_49 : evL mX11_nameAt X Q K sX11_nameAt_49 np xs h st = (qK (.int (nI 19)) xs h st (evL mX11_nameAt X Q K sX11_nameAt_51 np)) := congrArg (fun v : Int32 => qK (.int v) xs h st (evL mX11_nameAt X Q K sX11_nameAt_51 np)) kB_19
theorem uX11_nameAt_51 : evL mX11_nameAt X Q K sX11_nameAt_51 np xs h st = (qK (.int (nI 2)) xs h st (evL mX11_nameAt X Q K sX11_nameAt_52 np)) := congrArg (fun v : Int32 => qK (.int v) xs h st (evL mX11_nameAt X Q K sX11_nameAt_52 np)) kI_2
theorem uX11_nameAt_52 : evL mX11_nameAt X Q K sX11_nameAt_52 np xs h st = (qLI (xs[2]?) xs h st (evL mX11_nameAt X Q K sX11_nameAt_53 np)) := rfl
theorem uX11_nameAt_53 : evL mX11_nameAt X Q K sX11_nameAt_53 np xs h st = (qI2 (fun x y => x * y) st xs h (evL mX11_nameAt X Q K sX11_nameAt_54 np)) := rfl
theorem uX11_nameAt_54 : evL mX11_nameAt X Q K sX11_nameAt_54 np xs h st = (qI2 (fun x y => x + y) st xs h (evL mX11_nameAt X Q K sX11_nameAt_55 np)) := rfl
theorem uX11_nameAt_55 : evL mX11_nameAt X Q K sX11_nameAt_55 np xs h st = (qAl X st xs h (evL mX11_nameAt X Q K sX11_nameAt_56 np)) := rfl
theorem uX11_nameAt_56 : evL mX11_nameAt X Q K sX11_nameAt_56 np xs h st = (qIc (fun x y => y < x) st xs h (evL mX11_nameAt X Q K [] np) (K 61)) := rfl
theorem uX11_nameAt_59 : evL mX11_nameAt X Q K sX11_nameAt_59 np xs h st = (qLI (xs[3]?) xs h st (evL mX11_nameAt X Q K sX11_nameAt_60 np)) := rfl
theorem uX11_nameAt_60 : evL mX11_nameAt X Q K sX11_nameAt_60 np xs h st = (qSI 4 (2) st xs h (evL mX11_nameAt X Q K [] np)) := rfl
theorem uX11_nameAt_61 : evL mX11_nameAt X Q K sX11_nameAt_61 np xs h st = (qIn (xs[3]?) 4 3 (nI 1) xs h st (evL mX11_nameAt X Q K sX11_nameAt_64 np)) := congrArg (fun v : Int32 => qIn (xs[3]?) 4 3 v xs h st (evL mX11_nameAt X Q K sX11_nameAt_64 np)) kI_1
theorem uX11_nameAt_64 : evL mX11_nameAt X Q K sX11_nameAt_64 np xs h st = (K 5 xs h st) := rfl
theorem uX11_nameAt_67 : evL mX11_nameAt X Q K sX11_nameAt_67 np xs h st = (qLI (xs[2]?) xs h st (evL mX11_nameAt X Q K sX11_nameAt_68 np)) := rfl
theorem uX11_nameAt_68 : evL mX11_nameAt X Q K sX11_nameAt_68 np xs h st = (qRI st h Q) := rfl
end

def sX11_lives_4 : List En := (.iload_n 2, 0, 0, 0) :: []
def sX11_lives_3 : List En := (.iaload, 0, 0, 0) :: sX11_lives_4
def sX11_lives_1 : List En := (.bipush 10, 0, 0, 0) :: sX11_lives_3
def sX11_lives_0 : List En := (.aload_n 1, 0, 0, 0) :: sX11_lives_1
theorem qX11_lives_5 : okC mX11_lives 5 (.invokestatic 245) 222 239 1 2 = true := by decide +kernel -- X11_hasBit
def sX11_lives_8 : List En := (.ifCond .ne 7, 15, 0, 0) :: []
def sX11_lives_12 : List En := (.goto 4, 16, 0, 0) :: []
def sX11_lives_11 : List En := (.iconst 1, 0, 0, 0) :: sX11_lives_12
def sX11_lives_15 : List En := (.iconst 0, 0, 0, 0) :: []
def sX11_lives_16 : List En := (.ireturn, 0, 0, 0) :: []
def LX11_lives : List (Nat × Nat × List En) := [(0, (5, sX11_lives_0)), (8, (11, sX11_lives_8)), (11, (15, sX11_lives_11)), (15, (16, sX11_lives_15)), (16, (17, sX11_lives_16))]
theorem nX11_lives : mX11_lives.2.2.2.1 = 3 := rfl
theorem kX11_lives : okP mX11_lives LX11_lives = true := by decide +kernel
section
variable {d n : Nat} {X : Option (List Int32)} {b : Nat × Nat} {Q : Option Value → aH → Prop} {sp : List Nat} {xs : List Value} {h : aH} {st : List Value}
theorem pX11_lives_0 : evP d X mX11_lives b Q LX11_lives sp (n + 1) 0 xs h st = evL mX11_lives X Q (evK sp (evE d X mX11_lives b Q) (evP d X mX11_lives b Q LX11_lives sp n)) sX11_lives_0 5 xs h st := rfl
theorem pX11_lives_5 : evP d X mX11_lives b Q LX11_lives sp (n + 1) 5 xs h st = evE d X mX11_lives b Q 5 xs h st := rfl
theorem pX11_lives_8 : evP d X mX11_lives b Q LX11_lives sp (n + 1) 8 xs h st = evL mX11_lives X Q (evK sp (evE d X mX11_lives b Q) (evP d X mX11_lives b Q LX11_lives sp n)) sX11_lives_8 11 xs h st := rfl
theorem pX11_lives_11 : evP d X mX11_lives b Q LX11_lives sp (n + 1) 11 xs h st = evL mX11_lives X Q (evK sp (evE d X mX11_lives b Q) (evP d X mX11_lives b Q LX11_lives sp n)) sX11_lives_11 15 xs h st := rfl
theorem pX11_lives_15 : evP d X mX11_lives b Q LX11_lives sp (n + 1) 15 xs h st = evL mX11_lives X Q (evK sp (evE d X mX11_lives b Q) (evP d X mX11_lives b Q LX11_lives sp n)) sX11_lives_15 16 xs h st := rfl
theorem pX11_lives_16 : evP d X mX11_lives b Q LX11_lives sp (n + 1) 16 xs h st = evL mX11_lives X Q (evK sp (evE d X mX11_lives b Q) (evP d X mX11_lives b Q LX11_lives sp n)) sX11_lives_16 17 xs h st := rfl
end
section
variable {X : Option (List Int32)} {Q : Option Value → aH → Prop} {K : Nat → KT} {np : Nat} {xs : List Value} {h : aH} {st : List Value}
theorem uX11_lives_0 : evL mX11_lives X Q K sX11_lives_0 np xs h st = (qLR (xs[1]?) xs h st (evL mX11_lives X Q K sX11_lives_1 np)) := rfl
theorem uX11_lives_1 : evL mX11_lives X Q K sX11_lives_1 np xs h st = (qK (.int (nI 10)) xs h st (evL mX11_lives X Q K sX11_lives_3 np)) := congrArg (fun v : Int32 => qK (.int v) xs h st (evL mX11_lives X Q K sX11_lives_3 np)) kB_10
theorem uX11_lives_3 : evL mX11_lives X Q K sX11_lives_3 np xs h st = (qAl X st xs h (evL mX11_lives X Q K sX11_lives_4 np)) := rfl
theorem uX11_lives_4 : evL mX11_lives X Q K sX11_lives_4 np xs h st = (qLI (xs[2]?) xs h st (evL mX11_lives X Q K [] np)) := rfl
theorem uX11_lives_8 : evL mX11_lives X Q K sX11_lives_8 np xs h st = (qIf (fun x => x = 0) st xs h (evL mX11_lives X Q K [] np) (K 15)) := rfl
theorem uX11_lives_11 : evL mX11_lives X Q K sX11_lives_11 np xs h st = (qK (.int (nI 1)) xs h st (evL mX11_lives X Q K sX11_lives_12 np)) := congrArg (fun v : Int32 => qK (.int v) xs h st (evL mX11_lives X Q K sX11_lives_12 np)) kI_1
theorem uX11_lives_12 : evL mX11_lives X Q K sX11_lives_12 np xs h st = (K 16 xs h st) := rfl
theorem uX11_lives_15 : evL mX11_lives X Q K sX11_lives_15 np xs h st = (qK (.int (nI 0)) xs h st (evL mX11_lives X Q K [] np)) := congrArg (fun v : Int32 => qK (.int v) xs h st (evL mX11_lives X Q K [] np)) kI_0
theorem uX11_lives_16 : evL mX11_lives X Q K sX11_lives_16 np xs h st = (qRI st h Q) := rfl
end

def sX11_seenOf_16 : List En := (.if_icmp .ne 15, 31, 0, 0) :: []
def sX11_seenOf_15 : List En := (.iconst 1, 0, 0, 0) :: sX11_seenOf_16
def sX11_seenOf_13 : List En := (.iload 4, 0, 0, 0) :: sX11_seenOf_15
def sX11_seenOf_11 : List En := (.istore 4, 0, 0, 0) :: sX11_seenOf_13
def sX11_seenOf_10 : List En := (.iaload, 0, 0, 0) :: sX11_seenOf_11
def sX11_seenOf_9 : List En := (.iadd, 0, 0, 0) :: sX11_seenOf_10
def sX11_seenOf_8 : List En := (.imul, 0, 0, 0) :: sX11_seenOf_9
def sX11_seenOf_7 : List En := (.iload_n 2, 0, 0, 0) :: sX11_seenOf_8
def sX11_seenOf_6 : List En := (.iconst 2, 0, 0, 0) :: sX11_seenOf_7
def sX11_seenOf_4 : List En := (.bipush 9, 0, 0, 0) :: sX11_seenOf_6
def sX11_seenOf_1 : List En := (.getfield 20, 190, 11, 15) :: sX11_seenOf_4
def sX11_seenOf_0 : List En := (.aload_n 0, 0, 0, 0) :: sX11_seenOf_1
def sX11_seenOf_28 : List En := (.goto 16, 44, 0, 0) :: []
def sX11_seenOf_27 : List En := (.iadd, 0, 0, 0) :: sX11_seenOf_28
def sX11_seenOf_26 : List En := (.imul, 0, 0, 0) :: sX11_seenOf_27
def sX11_seenOf_25 : List En := (.iaload, 0, 0, 0) :: sX11_seenOf_26
def sX11_seenOf_24 : List En := (.iadd, 0, 0, 0) :: sX11_seenOf_25
def sX11_seenOf_23 : List En := (.iload_n 2, 0, 0, 0) :: sX11_seenOf_24
def sX11_seenOf_22 : List En := (.iconst 5, 0, 0, 0) :: sX11_seenOf_23
def sX11_seenOf_21 : List En := (.aload_n 1, 0, 0, 0) :: sX11_seenOf_22
def sX11_seenOf_20 : List En := (.iconst 3, 0, 0, 0) :: sX11_seenOf_21
def sX11_seenOf_19 : List En := (.iload_n 3, 0, 0, 0) :: sX11_seenOf_20
def sX11_seenOf_34 : List En := (.if_icmp .ne 9, 43, 0, 0) :: []
def sX11_seenOf_33 : List En := (.iconst 2, 0, 0, 0) :: sX11_seenOf_34
def sX11_seenOf_31 : List En := (.iload 4, 0, 0, 0) :: sX11_seenOf_33
def sX11_seenOf_40 : List En := (.goto 4, 44, 0, 0) :: []
def sX11_seenOf_39 : List En := (.imul, 0, 0, 0) :: sX11_seenOf_40
def sX11_seenOf_38 : List En := (.iload_n 3, 0, 0, 0) :: sX11_seenOf_39
def sX11_seenOf_37 : List En := (.iconst 2, 0, 0, 0) :: sX11_seenOf_38
def sX11_seenOf_43 : List En := (.iload_n 3, 0, 0, 0) :: []
def sX11_seenOf_44 : List En := (.ireturn, 0, 0, 0) :: []
def LX11_seenOf : List (Nat × Nat × List En) := [(0, (19, sX11_seenOf_0)), (19, (31, sX11_seenOf_19)), (31, (37, sX11_seenOf_31)), (37, (43, sX11_seenOf_37)), (43, (44, sX11_seenOf_43)), (44, (45, sX11_seenOf_44))]
theorem nX11_seenOf : mX11_seenOf.2.2.2.1 = 5 := rfl
theorem kX11_seenOf : okP mX11_seenOf LX11_seenOf = true := by decide +kernel
section
variable {d n : Nat} {X : Option (List Int32)} {b : Nat × Nat} {Q : Option Value → aH → Prop} {sp : List Nat} {xs : List Value} {h : aH} {st : List Value}
theorem pX11_seenOf_0 : evP d X mX11_seenOf b Q LX11_seenOf sp (n + 1) 0 xs h st = evL mX11_seenOf X Q (evK sp (evE d X mX11_seenOf b Q) (evP d X mX11_seenOf b Q LX11_seenOf sp n)) sX11_seenOf_0 19 xs h st := rfl
theorem pX11_seenOf_19 : evP d X mX11_seenOf b Q LX11_seenOf sp (n + 1) 19 xs h st = evL mX11_seenOf X Q (evK sp (evE d X mX11_seenOf b Q) (evP d X mX11_seenOf b Q LX11_seenOf sp n)) sX11_seenOf_19 31 xs h st := rfl
theorem pX11_seenOf_31 : evP d X mX11_seenOf b Q LX11_seenOf sp (n + 1) 31 xs h st = evL mX11_seenOf X Q (evK sp (evE d X mX11_seenOf b Q) (evP d X mX11_seenOf b Q LX11_seenOf sp n)) sX11_seenOf_31 37 xs h st := rfl
theorem pX11_seenOf_37 : evP d X mX11_seenOf b Q LX11_seenOf sp (n + 1) 37 xs h st = evL mX11_seenOf X Q (evK sp (evE d X mX11_seenOf b Q) (evP d X mX11_seenOf b Q LX11_seenOf sp n)) sX11_seenOf_37 43 xs h st := rfl
theorem pX11_seenOf_43 : evP d X mX11_seenOf b Q LX11_seenOf sp (n + 1) 43 xs h st = evL mX11_seenOf X Q (evK sp (evE d X mX11_seenOf b Q) (evP d X mX11_seenOf b Q LX11_seenOf sp n)) sX11_seenOf_43 44 xs h st := rfl
theorem pX11_seenOf_44 : evP d X mX11_seenOf b Q LX11_seenOf sp (n + 1) 44 xs h st = evL mX11_seenOf X Q (evK sp (evE d X mX11_seenOf b Q) (evP d X mX11_seenOf b Q LX11_seenOf sp n)) sX11_seenOf_44 45 xs h st := rfl
end
section
variable {X : Option (List Int32)} {Q : Option Value → aH → Prop} {K : Nat → KT} {np : Nat} {xs : List Value} {h : aH} {st : List Value}
theorem uX11_seenOf_0 : evL mX11_seenOf X Q K sX11_seenOf_0 np xs h st = (qLR (xs[0]?) xs h st (evL mX11_seenOf X Q K sX11_seenOf_1 np)) := rfl
theorem uX11_seenOf_1 : evL mX11_seenOf X Q K sX11_seenOf_1 np xs h st = (qGF 11 15 st xs h (evL mX11_seenOf X Q K sX11_seenOf_4 np)) := rfl
theorem uX11_seenOf_4 : evL mX11_seenOf X Q K sX11_seenOf_4 np xs h st = (qK (.int (nI 9)) xs h st (evL mX11_seenOf X Q K sX11_seenOf_6 np)) := congrArg (fun v : Int32 => qK (.int v) xs h st (evL mX11_seenOf X Q K sX11_seenOf_6 np)) kB_9
theorem uX11_seenOf_6 : evL mX11_seenOf X Q K sX11_seenOf_6 np xs h st = (qK (.int (nI 2)) xs h st (evL mX11_seenOf X Q K sX11_seenOf_7 np)) := congrArg (fun v : Int32 => qK (.int v) xs h st (evL mX11_seenOf X Q K sX11_seenOf_7 np)) kI_2
theorem uX11_seenOf_7 : evL mX11_seenOf X Q K sX11_seenOf_7 np xs h st = (qLI (xs[2]?) xs h st (evL mX11_seenOf X Q K sX11_seenOf_8 np)) := rfl
theorem uX11_seenOf_8 : evL mX11_seenOf X Q K sX11_seenOf_8 np xs h st = (qI2 (fun x y => x * y) st xs h (evL mX11_seenOf X Q K sX11_seenOf_9 np)) := rfl
theorem uX11_seenOf_9 : evL mX11_seenOf X Q K sX11_seenOf_9 np xs h st = (qI2 (fun x y => x + y) st xs h (evL mX11_seenOf X Q K sX11_seenOf_10 np)) := rfl
theorem uX11_seenOf_10 : evL mX11_seenOf X Q K sX11_seenOf_10 np xs h st = (qAl X st xs h (evL mX11_seenOf X Q K sX11_seenOf_11 np)) := rfl
theorem uX11_seenOf_11 : evL mX11_seenOf X Q K sX11_seenOf_11 np xs h st = (qSI 5 4 st xs h (evL mX11_seenOf X Q K sX11_seenOf_13 np)) := rfl
theorem uX11_seenOf_13 : evL mX11_seenOf X Q K sX11_seenOf_13 np xs h st = (qLI (xs[4]?) xs h st (evL mX11_seenOf X Q K sX11_seenOf_15 np)) := rfl
theorem uX11_seenOf_15 : evL mX11_seenOf X Q K sX11_seenOf_15 np xs h st = (qK (.int (nI 1)) xs h st (evL mX11_seenOf X Q K sX11_seenOf_16 np)) := congrArg (fun v : Int32 => qK (.int v) xs h st (evL mX11_seenOf X Q K sX11_seenOf_16 np)) kI_1
theorem uX11_seenOf_16 : evL mX11_seenOf X Q K sX11_seenOf_16 np xs h st = (qIc (fun x y => x = y) st xs h (evL mX11_seenOf X Q K [] np) (K 31)) := rfl
theorem uX11_seenOf_19 : evL mX11_seenOf X Q K sX11_seenOf_19 np xs h st = (qLI (xs[3]?) xs h st (evL mX11_seenOf X Q K sX11_seenOf_20 np)) := rfl
theorem uX11_seenOf_20 : evL mX11_seenOf X Q K sX11_seenOf_20 np xs h st = (qK (.int (nI 3)) xs h st (evL mX11_seenOf X Q K sX11_seenOf_21 np)) := congrArg (fun v : Int32 => qK (.int v) xs h st (evL mX11_seenOf X Q K sX11_seenOf_21 np)) kI_3
theorem uX11_seenOf_21 : evL mX11_seenOf X Q K sX11_seenOf_21 np xs h st = (qLR (xs[1]?) xs h st (evL mX11_seenOf X Q K sX11_seenOf_22 np)) := rfl
theorem uX11_seenOf_22 : evL mX11_seenOf X Q K sX11_seenOf_22 np xs h st = (qK (.int (nI 5)) xs h st (evL mX11_seenOf X Q K sX11_seenOf_23 np)) := congrArg (fun v : Int32 => qK (.int v) xs h st (evL mX11_seenOf X Q K sX11_seenOf_23 np)) kI_5
theorem uX11_seenOf_23 : evL mX11_seenOf X Q K sX11_seenOf_23 np xs h st = (qLI (xs[2]?) xs h st (evL mX11_seenOf X Q K sX11_seenOf_24 np)) := rfl
theorem uX11_seenOf_24 : evL mX11_seenOf X Q K sX11_seenOf_24 np xs h st = (qI2 (fun x y => x + y) st xs h (evL mX11_seenOf X Q K sX11_seenOf_25 np)) := rfl
theorem uX11_seenOf_25 : evL mX11_seenOf X Q K sX11_seenOf_25 np xs h st = (qAl X st xs h (evL mX11_seenOf X Q K sX11_seenOf_26 np)) := rfl
theorem uX11_seenOf_26 : evL mX11_seenOf X Q K sX11_seenOf_26 np xs h st = (qI2 (fun x y => x * y) st xs h (evL mX11_seenOf X Q K sX11_seenOf_27 np)) := rfl
theorem uX11_seenOf_27 : evL mX11_seenOf X Q K sX11_seenOf_27 np xs h st = (qI2 (fun x y => x + y) st xs h (evL mX11_seenOf X Q K sX11_seenOf_28 np)) := rfl
theorem uX11_seenOf_28 : evL mX11_seenOf X Q K sX11_seenOf_28 np xs h st = (K 44 xs h st) := rfl
theorem uX11_seenOf_31 : evL mX11_seenOf X Q K sX11_seenOf_31 np xs h st = (qLI (xs[4]?) xs h st (evL mX11_seenOf X Q K sX11_seenOf_33 np)) := rfl
theorem uX11_seenOf_33 : evL mX11_seenOf X Q K sX11_seenOf_33 np xs h st = (qK (.int (nI 2)) xs h st (evL mX11_seenOf X Q K sX11_seenOf_34 np)) := congrArg (fun v : Int32 => qK (.int v) xs h st (evL mX11_seenOf X Q K sX11_seenOf_34 np)) kI_2
theorem uX11_seenOf_34 : evL mX11_seenOf X Q K sX11_seenOf_34 np xs h st = (qIc (fun x y => x = y) st xs h (evL mX11_seenOf X Q K [] np) (K 43)) := rfl
theorem uX11_seenOf_37 : evL mX11_seenOf X Q K sX11_seenOf_37 np xs h st = (qK (.int (nI 2)) xs h st (evL mX11_seenOf X Q K sX11_seenOf_38 np)) := congrArg (fun v : Int32 => qK (.int v) xs h st (evL mX11_seenOf X Q K sX11_seenOf_38 np)) kI_2
theorem uX11_seenOf_38 : evL mX11_seenOf X Q K sX11_seenOf_38 np xs h st = (qLI (xs[3]?) xs h st (evL mX11_seenOf X Q K sX11_seenOf_39 np)) := rfl
theorem uX11_seenOf_39 : evL mX11_seenOf X Q K sX11_seenOf_39 np xs h st = (qI2 (fun x y => x * y) st xs h (evL mX11_seenOf X Q K sX11_seenOf_40 np)) := rfl
theorem uX11_seenOf_40 : evL mX11_seenOf X Q K sX11_seenOf_40 np xs h st = (K 44 xs h st) := rfl
theorem uX11_seenOf_43 : evL mX11_seenOf X Q K sX11_seenOf_43 np xs h st = (qLI (xs[3]?) xs h st (evL mX11_seenOf X Q K [] np)) := rfl
theorem uX11_seenOf_44 : evL mX11_seenOf X Q K sX11_seenOf_44 np xs h st = (qRI st h Q) := rfl
end

def sX11_isPerson_4 : List En := (.ifCond .eq 23, 27, 0, 0) :: []
def sX11_isPerson_1 : List En := (.getfield 174, 189, 11, 14) :: sX11_isPerson_4
def sX11_isPerson_0 : List En := (.aload_n 0, 0, 0, 0) :: sX11_isPerson_1
def sX11_isPerson_16 : List En := (.isub, 0, 0, 0) :: []
def sX11_isPerson_15 : List En := (.iconst 1, 0, 0, 0) :: sX11_isPerson_16
def sX11_isPerson_14 : List En := (.iaload, 0, 0, 0) :: sX11_isPerson_15
def sX11_isPerson_13 : List En := (.iconst 3, 0, 0, 0) :: sX11_isPerson_14
def sX11_isPerson_10 : List En := (.getfield 20, 190, 11, 15) :: sX11_isPerson_13
def sX11_isPerson_9 : List En := (.aload_n 0, 0, 0, 0) :: sX11_isPerson_10
def sX11_isPerson_8 : List En := (.iconst 0, 0, 0, 0) :: sX11_isPerson_9
def sX11_isPerson_7 : List En := (.iload_n 1, 0, 0, 0) :: sX11_isPerson_8
theorem qX11_isPerson_17 : okC mX11_isPerson 17 (.invokestatic 140) 182 197 1 3 = true := by decide +kernel -- X11_in
def sX11_isPerson_20 : List En := (.ifCond .eq 7, 27, 0, 0) :: []
def sX11_isPerson_24 : List En := (.goto 4, 28, 0, 0) :: []
def sX11_isPerson_23 : List En := (.iconst 1, 0, 0, 0) :: sX11_isPerson_24
def sX11_isPerson_27 : List En := (.iconst 0, 0, 0, 0) :: []
def sX11_isPerson_28 : List En := (.ireturn, 0, 0, 0) :: []
def LX11_isPerson : List (Nat × Nat × List En) := [(0, (7, sX11_isPerson_0)), (7, (17, sX11_isPerson_7)), (20, (23, sX11_isPerson_20)), (23, (27, sX11_isPerson_23)), (27, (28, sX11_isPerson_27)), (28, (29, sX11_isPerson_28))]
theorem nX11_isPerson : mX11_isPerson.2.2.2.1 = 2 := rfl
theorem kX11_isPerson : okP mX11_isPerson LX11_isPerson = true := by decide +kernel
section
variable {d n : Nat} {X : Option (List Int32)} {b : Nat × Nat} {Q : Option Value → aH → Prop} {sp : List Nat} {xs : List Value} {h : aH} {st : List Value}
theorem pX11_isPerson_0 : evP d X mX11_isPerson b Q LX11_isPerson sp (n + 1) 0 xs h st = evL mX11_isPerson X Q (evK sp (evE d X mX11_isPerson b Q) (evP d X mX11_isPerson b Q LX11_isPerson sp n)) sX11_isPerson_0 7 xs h st := rfl
theorem pX11_isPerson_7 : evP d X mX11_isPerson b Q LX11_isPerson sp (n + 1) 7 xs h st = evL mX11_isPerson X Q (evK sp (evE d X mX11_isPerson b Q) (evP d X mX11_isPerson b Q LX11_isPerson sp n)) sX11_isPerson_7 17 xs h st := rfl
theorem pX11_isPerson_17 : evP d X mX11_isPerson b Q LX11_isPerson sp (n + 1) 17 xs h st = evE d X mX11_isPerson b Q 17 xs h st := rfl
theorem pX11_isPerson_20 : evP d X mX11_isPerson b Q LX11_isPerson sp (n + 1) 20 xs h st = evL mX11_isPerson X Q (evK sp (evE d X mX11_isPerson b Q) (evP d X mX11_isPerson b Q LX11_isPerson sp n)) sX11_isPerson_20 23 xs h st := rfl
theorem pX11_isPerson_23 : evP d X mX11_isPerson b Q LX11_isPerson sp (n + 1) 23 xs h st = evL mX11_isPerson X Q (evK sp (evE d X mX11_isPerson b Q) (evP d X mX11_isPerson b Q LX11_isPerson sp n)) sX11_isPerson_23 27 xs h st := rfl
theorem pX11_isPerson_27 : evP d X mX11_isPerson b Q LX11_isPerson sp (n + 1) 27 xs h st = evL mX11_isPerson X Q (evK sp (evE d X mX11_isPerson b Q) (evP d X mX11_isPerson b Q LX11_isPerson sp n)) sX11_isPerson_27 28 xs h st := rfl
theorem pX11_isPerson_28 : evP d X mX11_isPerson b Q LX11_isPerson sp (n + 1) 28 xs h st = evL mX11_isPerson X Q (evK sp (evE d X mX11_isPerson b Q) (evP d X mX11_isPerson b Q LX11_isPerson sp n)) sX11_isPerson_28 29 xs h st := rfl
end
section
variable {X : Option (List Int32)} {Q : Option Value → aH → Prop} {K : Nat → KT} {np : Nat} {xs : List Value} {h : aH} {st : List Value}
theorem uX11_isPerson_0 : evL mX11_isPerson X Q K sX11_isPerson_0 np xs h st = (qLR (xs[0]?) xs h st (evL mX11_isPerson X Q K sX11_isPerson_1 np)) := rfl
theorem uX11_isPerson_1 : evL mX11_isPerson X Q K sX11_isPerson_1 np xs h st = (qGF 11 14 st xs h (evL mX11_isPerson X Q K sX11_isPerson_4 np)) := rfl
theorem uX11_isPerson_4 : evL mX11_isPerson X Q K sX11_isPerson_4 np xs h st = (qIf (fun x => x = 0) st xs h (K 27) (evL mX11_isPerson X Q K [] np)) := rfl
theorem uX11_isPerson_7 : evL mX11_isPerson X Q K sX11_isPerson_7 np xs h st = (qLI (xs[1]?) xs h st (evL mX11_isPerson X Q K sX11_isPerson_8 np)) := rfl
theorem uX11_isPerson_8 : evL mX11_isPerson X Q K sX11_isPerson_8 np xs h st = (qK (.int (nI 0)) xs h st (evL mX11_isPerson X Q K sX11_isPerson_9 np)) := congrArg (fun v : Int32 => qK (.int v) xs h st (evL mX11_isPerson X Q K sX11_isPerson_9 np)) kI_0
theorem uX11_isPerson_9 : evL mX11_isPerson X Q K sX11_isPerson_9 np xs h st = (qLR (xs[0]?) xs h st (evL mX11_isPerson X Q K sX11_isPerson_10 np)) := rfl
theorem uX11_isPerson_10 : evL mX11_isPerson X Q K sX11_isPerson_10 np xs h st = (qGF 11 15 st xs h (evL mX11_isPerson X Q K sX11_isPerson_13 np)) := rfl
theorem uX11_isPerson_13 : evL mX11_isPerson X Q K sX11_isPerson_13 np xs h st = (qK (.int (nI 3)) xs h st (evL mX11_isPerson X Q K sX11_isPerson_14 np)) := congrArg (fun v : Int32 => qK (.int v) xs h st (evL mX11_isPerson X Q K sX11_isPerson_14 np)) kI_3
theorem uX11_isPerson_14 : evL mX11_isPerson X Q K sX11_isPerson_14 np xs h st = (qAl X st xs h (evL mX11_isPerson X Q K sX11_isPerson_15 np)) := rfl
theorem uX11_isPerson_15 : evL mX11_isPerson X Q K sX11_isPerson_15 np xs h st = (qK (.int (nI 1)) xs h st (evL mX11_isPerson X Q K sX11_isPerson_16 np)) := congrArg (fun v : Int32 => qK (.int v) xs h st (evL mX11_isPerson X Q K sX11_isPerson_16 np)) kI_1
theorem uX11_isPerson_16 : evL mX11_isPerson X Q K sX11_isPerson_16 np xs h st = (qI2 (fun x y => x - y) st xs h (evL mX11_isPerson X Q K [] np)) := rfl
theorem uX11_isPerson_20 : evL mX11_isPerson X Q K sX11_isPerson_20 np xs h st = (qIf (fun x => x = 0) st xs h (K 27) (evL mX11_isPerson X Q K [] np)) := rfl
theorem uX11_isPerson_23 : evL mX11_isPerson X Q K sX11_isPerson_23 np xs h st = (qK (.int (nI 1)) xs h st (evL mX11_isPerson X Q K sX11_isPerson_24 np)) := congrArg (fun v : Int32 => qK (.int v) xs h st (evL mX11_isPerson X Q K sX11_isPerson_24 np)) kI_1
theorem uX11_isPerson_24 : evL mX11_isPerson X Q K sX11_isPerson_24 np xs h st = (K 28 xs h st) := rfl
theorem uX11_isPerson_27 : evL mX11_isPerson X Q K sX11_isPerson_27 np xs h st = (qK (.int (nI 0)) xs h st (evL mX11_isPerson X Q K [] np)) := congrArg (fun v : Int32 => qK (.int v) xs h st (evL mX11_isPerson X Q K [] np)) kI_0
theorem uX11_isPerson_28 : evL mX11_isPerson X Q K sX11_isPerson_28 np xs h st = (qRI st h Q) := rfl
end

def sX11_isName_4 : List En := (.ifCond .eq 23, 27, 0, 0) :: []
def sX11_isName_1 : List En := (.getfield 174, 189, 11, 14) :: sX11_isName_4
def sX11_isName_0 : List En := (.aload_n 0, 0, 0, 0) :: sX11_isName_1
def sX11_isName_16 : List En := (.isub, 0, 0, 0) :: []
def sX11_isName_15 : List En := (.iconst 1, 0, 0, 0) :: sX11_isName_16
def sX11_isName_14 : List En := (.iaload, 0, 0, 0) :: sX11_isName_15
def sX11_isName_13 : List En := (.iconst 4, 0, 0, 0) :: sX11_isName_14
def sX11_isName_10 : List En := (.getfield 20, 190, 11, 15) :: sX11_isName_13
def sX11_isName_9 : List En := (.aload_n 0, 0, 0, 0) :: sX11_isName_10
def sX11_isName_8 : List En := (.iconst 0, 0, 0, 0) :: sX11_isName_9
def sX11_isName_7 : List En := (.iload_n 1, 0, 0, 0) :: sX11_isName_8
theorem qX11_isName_17 : okC mX11_isName 17 (.invokestatic 140) 182 197 1 3 = true := by decide +kernel -- X11_in
def sX11_isName_20 : List En := (.ifCond .eq 7, 27, 0, 0) :: []
def sX11_isName_24 : List En := (.goto 4, 28, 0, 0) :: []
def sX11_isName_23 : List En := (.iconst 1, 0, 0, 0) :: sX11_isName_24
def sX11_isName_27 : List En := (.iconst 0, 0, 0, 0) :: []
def sX11_isName_28 : List En := (.ireturn, 0, 0, 0) :: []
def LX11_isName : List (Nat × Nat × List En) := [(0, (7, sX11_isName_0)), (7, (17, sX11_isName_7)), (20, (23, sX11_isName_20)), (23, (27, sX11_isName_23)), (27, (28, sX11_isName_27)), (28, (29, sX11_isName_28))]
theorem nX11_isName : mX11_isName.2.2.2.1 = 2 := rfl
theorem kX11_isName : okP mX11_isName LX11_isName = true := by decide +kernel
section
variable {d n : Nat} {X : Option (List Int32)} {b : Nat × Nat} {Q : Option Value → aH → Prop} {sp : List Nat} {xs : List Value} {h : aH} {st : List Value}
theorem pX11_isName_0 : evP d X mX11_isName b Q LX11_isName sp (n + 1) 0 xs h st = evL mX11_isName X Q (evK sp (evE d X mX11_isName b Q) (evP d X mX11_isName b Q LX11_isName sp n)) sX11_isName_0 7 xs h st := rfl
theorem pX11_isName_7 : evP d X mX11_isName b Q LX11_isName sp (n + 1) 7 xs h st = evL mX11_isName X Q (evK sp (evE d X mX11_isName b Q) (evP d X mX11_isName b Q LX11_isName sp n)) sX11_isName_7 17 xs h st := rfl
theorem pX11_isName_17 : evP d X mX11_isName b Q LX11_isName sp (n + 1) 17 xs h st = evE d X mX11_isName b Q 17 xs h st := rfl
theorem pX11_isName_20 : evP d X mX11_isName b Q LX11_isName sp (n + 1) 20 xs h st = evL mX11_isName X Q (evK sp (evE d X mX11_isName b Q) (evP d X mX11_isName b Q LX11_isName sp n)) sX11_isName_20 23 xs h st := rfl
theorem pX11_isName_23 : evP d X mX11_isName b Q LX11_isName sp (n + 1) 23 xs h st = evL mX11_isName X Q (evK sp (evE d X mX11_isName b Q) (evP d X mX11_isName b Q LX11_isName sp n)) sX11_isName_23 27 xs h st := rfl
theorem pX11_isName_27 : evP d X mX11_isName b Q LX11_isName sp (n + 1) 27 xs h st = evL mX11_isName X Q (evK sp (evE d X mX11_isName b Q) (evP d X mX11_isName b Q LX11_isName sp n)) sX11_isName_27 28 xs h st := rfl
theorem pX11_isName_28 : evP d X mX11_isName b Q LX11_isName sp (n + 1) 28 xs h st = evL mX11_isName X Q (evK sp (evE d X mX11_isName b Q) (evP d X mX11_isName b Q LX11_isName sp n)) sX11_isName_28 29 xs h st := rfl
end
section
variable {X : Option (List Int32)} {Q : Option Value → aH → Prop} {K : Nat → KT} {np : Nat} {xs : List Value} {h : aH} {st : List Value}
theorem uX11_isName_0 : evL mX11_isName X Q K sX11_isName_0 np xs h st = (qLR (xs[0]?) xs h st (evL mX11_isName X Q K sX11_isName_1 np)) := rfl
theorem uX11_isName_1 : evL mX11_isName X Q K sX11_isName_1 np xs h st = (qGF 11 14 st xs h (evL mX11_isName X Q K sX11_isName_4 np)) := rfl
theorem uX11_isName_4 : evL mX11_isName X Q K sX11_isName_4 np xs h st = (qIf (fun x => x = 0) st xs h (K 27) (evL mX11_isName X Q K [] np)) := rfl
theorem uX11_isName_7 : evL mX11_isName X Q K sX11_isName_7 np xs h st = (qLI (xs[1]?) xs h st (evL mX11_isName X Q K sX11_isName_8 np)) := rfl
theorem uX11_isName_8 : evL mX11_isName X Q K sX11_isName_8 np xs h st = (qK (.int (nI 0)) xs h st (evL mX11_isName X Q K sX11_isName_9 np)) := congrArg (fun v : Int32 => qK (.int v) xs h st (evL mX11_isName X Q K sX11_isName_9 np)) kI_0
theorem uX11_isName_9 : evL mX11_isName X Q K sX11_isName_9 np xs h st = (qLR (xs[0]?) xs h st (evL mX11_isName X Q K sX11_isName_10 np)) := rfl
theorem uX11_isName_10 : evL mX11_isName X Q K sX11_isName_10 np xs h st = (qGF 11 15 st xs h (evL mX11_isName X Q K sX11_isName_13 np)) := rfl
theorem uX11_isName_13 : evL mX11_isName X Q K sX11_isName_13 np xs h st = (qK (.int (nI 4)) xs h st (evL mX11_isName X Q K sX11_isName_14 np)) := congrArg (fun v : Int32 => qK (.int v) xs h st (evL mX11_isName X Q K sX11_isName_14 np)) kI_4
theorem uX11_isName_14 : evL mX11_isName X Q K sX11_isName_14 np xs h st = (qAl X st xs h (evL mX11_isName X Q K sX11_isName_15 np)) := rfl
theorem uX11_isName_15 : evL mX11_isName X Q K sX11_isName_15 np xs h st = (qK (.int (nI 1)) xs h st (evL mX11_isName X Q K sX11_isName_16 np)) := congrArg (fun v : Int32 => qK (.int v) xs h st (evL mX11_isName X Q K sX11_isName_16 np)) kI_1
theorem uX11_isName_16 : evL mX11_isName X Q K sX11_isName_16 np xs h st = (qI2 (fun x y => x - y) st xs h (evL mX11_isName X Q K [] np)) := rfl
theorem uX11_isName_20 : evL mX11_isName X Q K sX11_isName_20 np xs h st = (qIf (fun x => x = 0) st xs h (K 27) (evL mX11_isName X Q K [] np)) := rfl
theorem uX11_isName_23 : evL mX11_isName X Q K sX11_isName_23 np xs h st = (qK (.int (nI 1)) xs h st (evL mX11_isName X Q K sX11_isName_24 np)) := congrArg (fun v : Int32 => qK (.int v) xs h st (evL mX11_isName X Q K sX11_isName_24 np)) kI_1
theorem uX11_isName_24 : evL mX11_isName X Q K sX11_isName_24 np xs h st = (K 28 xs h st) := rfl
theorem uX11_isName_27 : evL mX11_isName X Q K sX11_isName_27 np xs h st = (qK (.int (nI 0)) xs h st (evL mX11_isName X Q K [] np)) := congrArg (fun v : Int32 => qK (.int v) xs h st (evL mX11_isName X Q K [] np)) kI_0
theorem uX11_isName_28 : evL mX11_isName X Q K sX11_isName_28 np xs h st = (qRI st h Q) := rfl
end

def sX11_everybody_10 : List En := (.ireturn, 0, 0, 0) :: []
def sX11_everybody_9 : List En := (.isub, 0, 0, 0) :: sX11_everybody_10
def sX11_everybody_8 : List En := (.iconst 1, 0, 0, 0) :: sX11_everybody_9
def sX11_everybody_7 : List En := (.ishl, 0, 0, 0) :: sX11_everybody_8
def sX11_everybody_6 : List En := (.iaload, 0, 0, 0) :: sX11_everybody_7
def sX11_everybody_5 : List En := (.iconst 3, 0, 0, 0) :: sX11_everybody_6
def sX11_everybody_2 : List En := (.getfield 20, 190, 11, 15) :: sX11_everybody_5
def sX11_everybody_1 : List En := (.aload_n 0, 0, 0, 0) :: sX11_everybody_2
def sX11_everybody_0 : List En := (.iconst 1, 0, 0, 0) :: sX11_everybody_1
def LX11_everybody : List (Nat × Nat × List En) := [(0, (11, sX11_everybody_0))]
theorem nX11_everybody : mX11_everybody.2.2.2.1 = 1 := rfl
theorem kX11_everybody : okP mX11_everybody LX11_everybody = true := by decide +kernel
section
variable {d n : Nat} {X : Option (List Int32)} {b : Nat × Nat} {Q : Option Value → aH → Prop} {sp : List Nat} {xs : List Value} {h : aH} {st : List Value}
theorem pX11_everybody_0 : evP d X mX11_everybody b Q LX11_everybody sp (n + 1) 0 xs h st = evL mX11_everybody X Q (evK sp (evE d X mX11_everybody b Q) (evP d X mX11_everybody b Q LX11_everybody sp n)) sX11_everybody_0 11 xs h st := rfl
end
section
variable {X : Option (List Int32)} {Q : Option Value → aH → Prop} {K : Nat → KT} {np : Nat} {xs : List Value} {h : aH} {st : List Value}
theorem uX11_everybody_0 : evL mX11_everybody X Q K sX11_everybody_0 np xs h st = (qK (.int (nI 1)) xs h st (evL mX11_everybody X Q K sX11_everybody_1 np)) := congrArg (fun v : Int32 => qK (.int v) xs h st (evL mX11_everybody X Q K sX11_everybody_1 np)) kI_1
theorem uX11_everybody_1 : evL mX11_everybody X Q K sX11_everybody_1 np xs h st = (qLR (xs[0]?) xs h st (evL mX11_everybody X Q K sX11_everybody_2 np)) := rfl
theorem uX11_everybody_2 : evL mX11_everybody X Q K sX11_everybody_2 np xs h st = (qGF 11 15 st xs h (evL mX11_everybody X Q K sX11_everybody_5 np)) := rfl
theorem uX11_everybody_5 : evL mX11_everybody X Q K sX11_everybody_5 np xs h st = (qK (.int (nI 3)) xs h st (evL mX11_everybody X Q K sX11_everybody_6 np)) := congrArg (fun v : Int32 => qK (.int v) xs h st (evL mX11_everybody X Q K sX11_everybody_6 np)) kI_3
theorem uX11_everybody_6 : evL mX11_everybody X Q K sX11_everybody_6 np xs h st = (qAl X st xs h (evL mX11_everybody X Q K sX11_everybody_7 np)) := rfl
theorem uX11_everybody_7 : evL mX11_everybody X Q K sX11_everybody_7 np xs h st = (qI2 (fun x y => x <<< (y &&& 31)) st xs h (evL mX11_everybody X Q K sX11_everybody_8 np)) := rfl
theorem uX11_everybody_8 : evL mX11_everybody X Q K sX11_everybody_8 np xs h st = (qK (.int (nI 1)) xs h st (evL mX11_everybody X Q K sX11_everybody_9 np)) := congrArg (fun v : Int32 => qK (.int v) xs h st (evL mX11_everybody X Q K sX11_everybody_9 np)) kI_1
theorem uX11_everybody_9 : evL mX11_everybody X Q K sX11_everybody_9 np xs h st = (qI2 (fun x y => x - y) st xs h (evL mX11_everybody X Q K sX11_everybody_10 np)) := rfl
theorem uX11_everybody_10 : evL mX11_everybody X Q K sX11_everybody_10 np xs h st = (qRI st h Q) := rfl
end

def sX11_aheadWhy_4 : List En := (.bipush 60, 0, 0, 0) :: []
def sX11_aheadWhy_3 : List En := (.iload_n 2, 0, 0, 0) :: sX11_aheadWhy_4
def sX11_aheadWhy_2 : List En := (.iload_n 3, 0, 0, 0) :: sX11_aheadWhy_3
def sX11_aheadWhy_1 : List En := (.iload_n 1, 0, 0, 0) :: sX11_aheadWhy_2
def sX11_aheadWhy_0 : List En := (.aload_n 0, 0, 0, 0) :: sX11_aheadWhy_1
theorem qX11_aheadWhy_6 : okC mX11_aheadWhy 6 (.invokestatic 140) 182 197 1 3 = true := by decide +kernel -- X11_in
theorem qX11_aheadWhy_9 : okC mX11_aheadWhy 9 (.invokevirtual 241) 235 252 0 2 = true := by decide +kernel -- X11_why
def sX11_aheadWhy_12 : List En := (.ireturn, 0, 0, 0) :: []
def LX11_aheadWhy : List (Nat × Nat × List En) := [(0, (6, sX11_aheadWhy_0)), (12, (13, sX11_aheadWhy_12))]
theorem nX11_aheadWhy : mX11_aheadWhy.2.2.2.1 = 4 := rfl
theorem kX11_aheadWhy : okP mX11_aheadWhy LX11_aheadWhy = true := by decide +kernel
section
variable {d n : Nat} {X : Option (List Int32)} {b : Nat × Nat} {Q : Option Value → aH → Prop} {sp : List Nat} {xs : List Value} {h : aH} {st : List Value}
theorem pX11_aheadWhy_0 : evP d X mX11_aheadWhy b Q LX11_aheadWhy sp (n + 1) 0 xs h st = evL mX11_aheadWhy X Q (evK sp (evE d X mX11_aheadWhy b Q) (evP d X mX11_aheadWhy b Q LX11_aheadWhy sp n)) sX11_aheadWhy_0 6 xs h st := rfl
theorem pX11_aheadWhy_6 : evP d X mX11_aheadWhy b Q LX11_aheadWhy sp (n + 1) 6 xs h st = evE d X mX11_aheadWhy b Q 6 xs h st := rfl
theorem pX11_aheadWhy_9 : evP d X mX11_aheadWhy b Q LX11_aheadWhy sp (n + 1) 9 xs h st = evE d X mX11_aheadWhy b Q 9 xs h st := rfl
theorem pX11_aheadWhy_12 : evP d X mX11_aheadWhy b Q LX11_aheadWhy sp (n + 1) 12 xs h st = evL mX11_aheadWhy X Q (evK sp (evE d X mX11_aheadWhy b Q) (evP d X mX11_aheadWhy b Q LX11_aheadWhy sp n)) sX11_aheadWhy_12 13 xs h st := rfl
end
section
variable {X : Option (List Int32)} {Q : Option Value → aH → Prop} {K : Nat → KT} {np : Nat} {xs : List Value} {h : aH} {st : List Value}
theorem uX11_aheadWhy_0 : evL mX11_aheadWhy X Q K sX11_aheadWhy_0 np xs h st = (qLR (xs[0]?) xs h st (evL mX11_aheadWhy X Q K sX11_aheadWhy_1 np)) := rfl
theorem uX11_aheadWhy_1 : evL mX11_aheadWhy X Q K sX11_aheadWhy_1 np xs h st = (qLI (xs[1]?) xs h st (evL mX11_aheadWhy X Q K sX11_aheadWhy_2 np)) := rfl
theorem uX11_aheadWhy_2 : evL mX11_aheadWhy X Q K sX11_aheadWhy_2 np xs h st = (qLI (xs[3]?) xs h st (evL mX11_aheadWhy X Q K sX11_aheadWhy_3 np)) := rfl
theorem uX11_aheadWhy_3 : evL mX11_aheadWhy X Q K sX11_aheadWhy_3 np xs h st = (qLI (xs[2]?) xs h st (evL mX11_aheadWhy X Q K sX11_aheadWhy_4 np)) := rfl
theorem uX11_aheadWhy_4 : evL mX11_aheadWhy X Q K sX11_aheadWhy_4 np xs h st = (qK (.int (nI 60)) xs h st (evL mX11_aheadWhy X Q K [] np)) := congrArg (fun v : Int32 => qK (.int v) xs h st (evL mX11_aheadWhy X Q K [] np)) kB_60
theorem uX11_aheadWhy_12 : evL mX11_aheadWhy X Q K sX11_aheadWhy_12 np xs h st = (qRI st h Q) := rfl
end

def sX11_fastWhy_2 : List En := (.iload_n 1, 0, 0, 0) :: []
def sX11_fastWhy_1 : List En := (.aload_n 0, 0, 0, 0) :: sX11_fastWhy_2
def sX11_fastWhy_0 : List En := (.aload_n 0, 0, 0, 0) :: sX11_fastWhy_1
theorem qX11_fastWhy_3 : okC mX11_fastWhy 3 (.invokevirtual 288) 216 233 0 1 = true := by decide +kernel -- X11_isName
def sX11_fastWhy_8 : List En := (.iconst 3, 0, 0, 0) :: []
def sX11_fastWhy_7 : List En := (.iconst 1, 0, 0, 0) :: sX11_fastWhy_8
def sX11_fastWhy_6 : List En := (.iload_n 2, 0, 0, 0) :: sX11_fastWhy_7
theorem qX11_fastWhy_9 : okC mX11_fastWhy 9 (.invokestatic 140) 182 197 1 3 = true := by decide +kernel -- X11_in
theorem qX11_fastWhy_12 : okC mX11_fastWhy 12 (.invokevirtual 241) 235 252 0 2 = true := by decide +kernel -- X11_why
def sX11_fastWhy_15 : List En := (.ireturn, 0, 0, 0) :: []
def LX11_fastWhy : List (Nat × Nat × List En) := [(0, (3, sX11_fastWhy_0)), (6, (9, sX11_fastWhy_6)), (15, (16, sX11_fastWhy_15))]
theorem nX11_fastWhy : mX11_fastWhy.2.2.2.1 = 3 := rfl
theorem kX11_fastWhy : okP mX11_fastWhy LX11_fastWhy = true := by decide +kernel
section
variable {d n : Nat} {X : Option (List Int32)} {b : Nat × Nat} {Q : Option Value → aH → Prop} {sp : List Nat} {xs : List Value} {h : aH} {st : List Value}
theorem pX11_fastWhy_0 : evP d X mX11_fastWhy b Q LX11_fastWhy sp (n + 1) 0 xs h st = evL mX11_fastWhy X Q (evK sp (evE d X mX11_fastWhy b Q) (evP d X mX11_fastWhy b Q LX11_fastWhy sp n)) sX11_fastWhy_0 3 xs h st := rfl
theorem pX11_fastWhy_3 : evP d X mX11_fastWhy b Q LX11_fastWhy sp (n + 1) 3 xs h st = evE d X mX11_fastWhy b Q 3 xs h st := rfl
theorem pX11_fastWhy_6 : evP d X mX11_fastWhy b Q LX11_fastWhy sp (n + 1) 6 xs h st = evL mX11_fastWhy X Q (evK sp (evE d X mX11_fastWhy b Q) (evP d X mX11_fastWhy b Q LX11_fastWhy sp n)) sX11_fastWhy_6 9 xs h st := rfl
theorem pX11_fastWhy_9 : evP d X mX11_fastWhy b Q LX11_fastWhy sp (n + 1) 9 xs h st = evE d X mX11_fastWhy b Q 9 xs h st := rfl
theorem pX11_fastWhy_12 : evP d X mX11_fastWhy b Q LX11_fastWhy sp (n + 1) 12 xs h st = evE d X mX11_fastWhy b Q 12 xs h st := rfl
theorem pX11_fastWhy_15 : evP d X mX11_fastWhy b Q LX11_fastWhy sp (n + 1) 15 xs h st = evL mX11_fastWhy X Q (evK sp (evE d X mX11_fastWhy b Q) (evP d X mX11_fastWhy b Q LX11_fastWhy sp n)) sX11_fastWhy_15 16 xs h st := rfl
end
section
variable {X : Option (List Int32)} {Q : Option Value → aH → Prop} {K : Nat → KT} {np : Nat} {xs : List Value} {h : aH} {st : List Value}
theorem uX11_fastWhy_0 : evL mX11_fastWhy X Q K sX11_fastWhy_0 np xs h st = (qLR (xs[0]?) xs h st (evL mX11_fastWhy X Q K sX11_fastWhy_1 np)) := rfl
theorem uX11_fastWhy_1 : evL mX11_fastWhy X Q K sX11_fastWhy_1 np xs h st = (qLR (xs[0]?) xs h st (evL mX11_fastWhy X Q K sX11_fastWhy_2 np)) := rfl
theorem uX11_fastWhy_2 : evL mX11_fastWhy X Q K sX11_fastWhy_2 np xs h st = (qLI (xs[1]?) xs h st (evL mX11_fastWhy X Q K [] np)) := rfl
theorem uX11_fastWhy_6 : evL mX11_fastWhy X Q K sX11_fastWhy_6 np xs h st = (qLI (xs[2]?) xs h st (evL mX11_fastWhy X Q K sX11_fastWhy_7 np)) := rfl
theorem uX11_fastWhy_7 : evL mX11_fastWhy X Q K sX11_fastWhy_7 np xs h st = (qK (.int (nI 1)) xs h st (evL mX11_fastWhy X Q K sX11_fastWhy_8 np)) := congrArg (fun v : Int32 => qK (.int v) xs h st (evL mX11_fastWhy X Q K sX11_fastWhy_8 np)) kI_1
theorem uX11_fastWhy_8 : evL mX11_fastWhy X Q K sX11_fastWhy_8 np xs h st = (qK (.int (nI 3)) xs h st (evL mX11_fastWhy X Q K [] np)) := congrArg (fun v : Int32 => qK (.int v) xs h st (evL mX11_fastWhy X Q K [] np)) kI_3
theorem uX11_fastWhy_15 : evL mX11_fastWhy X Q K sX11_fastWhy_15 np xs h st = (qRI st h Q) := rfl
end

set_option maxRecDepth 100000 in
set_option maxHeartbeats 4000000 in
theorem rI {x : Int32} : rOK (some .int) (some (.int x)) := ⟨.int, rfl, rfl⟩
set_option maxRecDepth 100000 in
set_option maxHeartbeats 4000000 in
theorem rZ {c : Prop} [Decidable c] : rOK (some .boolean) (some (.int (if c then nI 1 else nI 0))) := by
  split
  · exact ⟨.boolean, rfl, rfl⟩
  · exact ⟨.boolean, rfl, rfl⟩
set_option maxRecDepth 100000 in
set_option maxHeartbeats 4000000 in
theorem b31 {n : Nat} (h : n < 5000) : n < 2 ^ 31 := Nat.lt_of_lt_of_le h (Nat.le_of_ble_eq_true rfl)
set_option maxRecDepth 100000 in
set_option maxHeartbeats 4000000 in
theorem cl_lt {n : Nat} (h : n < 5000) : (nI n).toNatClampNeg = n := nI_clamp (b31 h)
set_option maxRecDepth 100000 in
set_option maxHeartbeats 4000000 in
theorem in_lt {n N : Nat} (h : n < N) (hN : N < 5000) : vp_in (nI n) N := vp_in_nI h (b31 hN)
set_option maxRecDepth 100000 in
set_option maxHeartbeats 4000000 in
theorem lt_iff {a b : Nat} (ha : a < 5000) (hb : b < 5000) : nI a < nI b ↔ a < b := nI_ltI (b31 ha) (b31 hb)
set_option maxRecDepth 100000 in
set_option maxHeartbeats 4000000 in
theorem eq_iff {a b : Nat} (ha : a < 5000) (hb : b < 5000) : nI a = nI b ↔ a = b := nI_eq (b31 ha) (b31 hb)
set_option maxRecDepth 100000 in
set_option maxHeartbeats 4000000 in
theorem not0 {n : Nat} (h : n < 5000) : ¬ nI n < 0 := nI_pos (b31 h)
set_option maxRecDepth 100000 in
set_option maxHeartbeats 4000000 in
theorem ix2 (c k : Nat) : nI c + nI 2 * nI k = nI (c + 2 * k) := by rw [pk_mul, nI_add]
set_option maxRecDepth 100000 in
set_option maxHeartbeats 4000000 in
theorem ix8 (c k : Nat) : nI c + nI 8 * nI k = nI (c + 8 * k) := by rw [pk_mul, nI_add]
set_option maxRecDepth 100000 in
set_option maxHeartbeats 4000000 in
theorem ix22 (k : Nat) : nI 22 * nI k = nI (22 * k) := pk_mul _ _
set_option maxRecDepth 100000 in
set_option maxHeartbeats 4000000 in
theorem ix5 (k : Nat) : nI 5 * nI k = nI (5 * k) := pk_mul _ _
/-- a number, or none: as the program has it -/
def oI (o : Option Nat) : Int32 := match o with
  | none => -2
  | some k => nI k
def btr (f : Nat → Int32) (n : Nat) (o : Option Nat) : Bool := match o with
  | none => true
  | some j => decide (f j < f n)
/-- the name of the greatest from, of the first n, that x reaches -/
def nmF (f : Nat → Int32) (x : Int32) : Nat → Option Nat
  | 0 => none
  | n + 1 => if ¬ x < f n ∧ btr f n (nmF f x n) = true then some n else nmF f x n
set_option maxRecDepth 100000 in
set_option maxHeartbeats 4000000 in
theorem nmF_lt (f : Nat → Int32) (x : Int32) : ∀ (n k : Nat), nmF f x n = some k → k < n := by
  intro n
  induction n with
  | zero => intro k h; cases h
  | succ n ih =>
    intro k h
    unfold nmF at h
    split at h
    · cases h; omega
    · have := ih k h; omega
set_option maxRecDepth 100000 in
set_option maxHeartbeats 4000000 in
theorem nmF_no {f : Nat → Int32} {x : Int32} {k : Nat} (c : x < f k) : nmF f x (k + 1) = nmF f x k := if_neg (fun z => z.1 c)
set_option maxRecDepth 100000 in
set_option maxHeartbeats 4000000 in
theorem nmF_1 {f : Nat → Int32} {x : Int32} {k : Nat} (c : ¬ x < f k) (hb : nmF f x k = none) : nmF f x (k + 1) = some k := if_pos ⟨c, by rw [hb]; rfl⟩
set_option maxRecDepth 100000 in
set_option maxHeartbeats 4000000 in
theorem nmF_y {f : Nat → Int32} {x : Int32} {k j : Nat} (c : ¬ x < f k) (hb : nmF f x k = some j) (c3 : f j < f k) : nmF f x (k + 1) = some k := if_pos ⟨c, by rw [hb]; exact decide_eq_true c3⟩
set_option maxRecDepth 100000 in
set_option maxHeartbeats 4000000 in
theorem nmF_n {f : Nat → Int32} {x : Int32} {k j : Nat} (hb : nmF f x k = some j) (c3 : ¬ f j < f k) : nmF f x (k + 1) = some j := (if_neg (fun z => c3 (by have := z.2; rw [hb] at this; exact of_decide_eq_true this))).trans hb
set_option maxRecDepth 100000 in
set_option maxHeartbeats 4000000 in
theorem nmF_neg {f : Nat → Int32} {x : Int32} {k : Nat} (hk : k < 1000) (c : oI (nmF f x k) < 0) : nmF f x k = none := by
  cases hb : nmF f x k with
  | none => rfl
  | some j =>
    rw [hb] at c
    have := nmF_lt _ _ _ _ hb
    exact absurd c (not0 (by omega))
set_option maxRecDepth 100000 in
set_option maxHeartbeats 4000000 in
theorem nmF_pos {f : Nat → Int32} {x : Int32} {k : Nat} (c : ¬ oI (nmF f x k) < 0) : ∃ j, nmF f x k = some j ∧ j < k := by
  cases hb : nmF f x k with
  | none => rw [hb] at c; exact absurd (by decide) c
  | some j => exact ⟨j, rfl, nmF_lt _ _ _ _ hb⟩
section MLEAF
variable {d : Nat} {h : aH} {F : Nat → Int32} {G : Nat → Int64} {B : Nat → List Int32}
set_option maxRecDepth 100000 in
set_option maxHeartbeats 4000000 in
theorem c_no (hl : 181 ≤ h.length) (y : Int32) : CT d mX11_no (0, 0) [.ref 167, .int y] (MH h F G B) (fun r h' => r = some (.int (-1)) ∧ h' = MH h (fu F 11 y) G B) := by
  refine ct_ev (by decide +kernel) (Nat.le_of_ble_eq_true rfl) (fun r h' q => by rw [q.1]; exact rI) ?_
  refine ev_p 1 [] rfl kX11_no ?_
  simp only [pX11_no_0, nX11_no, evP_0, evK_in, evK_out, evL_nil, List.cons_append, List.nil_append, List.append_nil, List.length_cons, List.length_nil, List.getElem?_cons_zero, List.getElem?_cons_succ, List.getElem?_nil, List.set_cons_succ, List.set_cons_zero, List.not_mem_nil, List.mem_cons, Nat.reduceBEq, Nat.reduceAdd, Nat.reduceSub, Nat.reduceLT, Nat.reduceLeDiff, Nat.reduceEqDiff, false_or, or_false, or_self, if_false, if_true, reduceIte, true_and, and_true, not_true_eq_false, not_false_eq_true, reduceCtorEq, uX11_no_0, qLR, uX11_no_1, qLI, uX11_no_2, qPF, qP1, pf, MH_o hl, mF_11, MH_so hl, mF_s11, mF_len, tM_11, uX11_no_5, qK, uX11_no_6, qRI, eN, eL, List.replicate, Nat.reduceAdd, Nat.reduceSub]
set_option maxRecDepth 100000 in
set_option maxHeartbeats 4000000 in
theorem c_anew (hl : 181 ≤ h.length) : CT d mX11_anew (0, 0) [.ref 167] (MH h F G B) (fun r h' => r = none ∧ h' = MH h (fu (fu F 0 (nI 0)) 11 (nI 0)) G B) := by
  refine ct_ev (by decide +kernel) (Nat.le_of_ble_eq_true rfl) (fun r h' q => by rw [q.1]; rfl) ?_
  refine ev_p 1 [] rfl kX11_anew ?_
  simp only [pX11_anew_0, nX11_anew, evP_0, evK_in, evK_out, evL_nil, List.cons_append, List.nil_append, List.append_nil, List.length_cons, List.length_nil, List.getElem?_cons_zero, List.getElem?_cons_succ, List.getElem?_nil, List.set_cons_succ, List.set_cons_zero, List.not_mem_nil, List.mem_cons, Nat.reduceBEq, Nat.reduceAdd, Nat.reduceSub, Nat.reduceLT, Nat.reduceLeDiff, Nat.reduceEqDiff, false_or, or_false, or_self, if_false, if_true, reduceIte, true_and, and_true, not_true_eq_false, not_false_eq_true, reduceCtorEq, uX11_anew_0, qLR, uX11_anew_1, qK, uX11_anew_2, qPF, qP1, pf, MH_o hl, mF_0, MH_so hl, mF_s0, mF_len, tM_0, uX11_anew_5, uX11_anew_6, uX11_anew_7, mF_11, mF_s11, tM_11, uX11_anew_10, qRV, eN, eL, List.replicate, Nat.reduceAdd, Nat.reduceSub]
set_option maxRecDepth 100000 in
set_option maxHeartbeats 4000000 in
theorem c_isNot (hl : 181 ≤ h.length) (y : Int32) : CT d mX11_isNot (0, 0) [.ref 167, .int y] (MH h F G B) (fun r h' => r = some (.int (nI 0)) ∧ h' = MH h (fu F 11 y) G B) := by
  refine ct_ev (by decide +kernel) (Nat.le_of_ble_eq_true rfl) (fun r h' q => by rw [q.1]; exact ⟨.boolean, rfl, rfl⟩) ?_
  refine ev_p 1 [] rfl kX11_isNot ?_
  simp only [pX11_isNot_0, nX11_isNot, evP_0, evK_in, evK_out, evL_nil, List.cons_append, List.nil_append, List.append_nil, List.length_cons, List.length_nil, List.getElem?_cons_zero, List.getElem?_cons_succ, List.getElem?_nil, List.set_cons_succ, List.set_cons_zero, List.not_mem_nil, List.mem_cons, Nat.reduceBEq, Nat.reduceAdd, Nat.reduceSub, Nat.reduceLT, Nat.reduceLeDiff, Nat.reduceEqDiff, false_or, or_false, or_self, if_false, if_true, reduceIte, true_and, and_true, not_true_eq_false, not_false_eq_true, reduceCtorEq, uX11_isNot_0, qLR, uX11_isNot_1, qLI, uX11_isNot_2, qPF, qP1, pf, MH_o hl, mF_11, MH_so hl, mF_s11, mF_len, tM_11, uX11_isNot_5, qK, uX11_isNot_6, qRI, eN, eL, List.replicate, Nat.reduceAdd, Nat.reduceSub]
set_option maxRecDepth 100000 in
set_option maxHeartbeats 4000000 in
theorem c_in (h : aH) (v a z : Int32) : CT d mX11_in (0, 0) [.int v, .int a, .int z] h (fun r h' => r = some (.int (if ¬ v < a ∧ ¬ z < v then nI 1 else nI 0)) ∧ h' = h) := by
  refine ct_ev (by decide +kernel) (Nat.le_of_ble_eq_true rfl) (fun r h' q => by rw [q.1]; exact rZ) ?_
  refine ev_p 4 [] rfl kX11_in ?_
  simp only [pX11_in_0, pX11_in_5, pX11_in_10, pX11_in_14, pX11_in_15, nX11_in, evP_0, evK_in, evK_out, evL_nil, List.cons_append, List.nil_append, List.append_nil, List.length_cons, List.length_nil, List.getElem?_cons_zero, List.getElem?_cons_succ, List.getElem?_nil, List.set_cons_succ, List.set_cons_zero, List.not_mem_nil, List.mem_cons, Nat.reduceBEq, Nat.reduceAdd, Nat.reduceSub, Nat.reduceLT, Nat.reduceLeDiff, Nat.reduceEqDiff, false_or, or_false, or_self, if_false, if_true, reduceIte, true_and, and_true, not_true_eq_false, not_false_eq_true, reduceCtorEq, uX11_in_0, qLI, uX11_in_1, uX11_in_2, qIc, uX11_in_5, uX11_in_6, uX11_in_7, uX11_in_10, qK, uX11_in_11, uX11_in_14, uX11_in_15, qRI, eN, eL, List.replicate, Nat.reduceAdd, Nat.reduceSub]
  refine ⟨fun h1 => ?_, fun h1 => ⟨fun h2 => ?_, fun h2 => ?_⟩⟩ <;> simp_all
/-- a bit of a set -/
def bitQ (s k : Int32) : Prop := s >>> (k &&& 31) &&& nI 1 = nI 1
set_option maxRecDepth 100000 in
set_option maxHeartbeats 4000000 in
theorem c_hasBit (h : aH) (s k : Int32) : CT d mX11_hasBit (0, 0) [.int s, .int k] h (fun r h' => r = some (.int (if s >>> (k &&& 31) &&& nI 1 = nI 1 then nI 1 else nI 0)) ∧ h' = h) := by
  refine ct_ev (by decide +kernel) (Nat.le_of_ble_eq_true rfl) (fun r h' q => by rw [q.1]; exact rZ) ?_
  refine ev_p 3 [] rfl kX11_hasBit ?_
  simp only [pX11_hasBit_0, pX11_hasBit_9, pX11_hasBit_13, pX11_hasBit_14, nX11_hasBit, evP_0, evK_in, evK_out, evL_nil, List.cons_append, List.nil_append, List.append_nil, List.length_cons, List.length_nil, List.getElem?_cons_zero, List.getElem?_cons_succ, List.getElem?_nil, List.set_cons_succ, List.set_cons_zero, List.not_mem_nil, List.mem_cons, Nat.reduceBEq, Nat.reduceAdd, Nat.reduceSub, Nat.reduceLT, Nat.reduceLeDiff, Nat.reduceEqDiff, false_or, or_false, or_self, if_false, if_true, reduceIte, true_and, and_true, not_true_eq_false, not_false_eq_true, reduceCtorEq, uX11_hasBit_0, qLI, uX11_hasBit_1, uX11_hasBit_2, qI2, uX11_hasBit_3, qK, uX11_hasBit_4, uX11_hasBit_5, uX11_hasBit_6, qIc, uX11_hasBit_9, uX11_hasBit_10, uX11_hasBit_13, uX11_hasBit_14, qRI, eN, eL, List.replicate, Nat.reduceAdd, Nat.reduceSub]
  refine ⟨fun h1 => ?_, fun h1 => ?_⟩ <;> simp_all
set_option maxRecDepth 100000 in
set_option maxHeartbeats 4000000 in
theorem c_why (hl : 181 ≤ h.length) (a b : Int32) : CT d mX11_why (0, 0) [.ref 167, .int a, .int b] (MH h F G B) (fun r h' => r = some (.int (if a = 0 then nI 1 else if b = 0 then nI 2 else nI 0)) ∧ h' = MH h F G B) := by
  refine ct_ev (by decide +kernel) (Nat.le_of_ble_eq_true rfl) (fun r h' q => by rw [q.1]; exact rI) ?_
  refine ev_p 4 [] rfl kX11_why ?_
  simp only [pX11_why_0, pX11_why_4, pX11_why_8, pX11_why_12, pX11_why_16, pX11_why_17, nX11_why, evP_0, evK_in, evK_out, evL_nil, List.cons_append, List.nil_append, List.append_nil, List.length_cons, List.length_nil, List.getElem?_cons_zero, List.getElem?_cons_succ, List.getElem?_nil, List.set_cons_succ, List.set_cons_zero, List.not_mem_nil, List.mem_cons, Nat.reduceBEq, Nat.reduceAdd, Nat.reduceSub, Nat.reduceLT, Nat.reduceLeDiff, Nat.reduceEqDiff, false_or, or_false, or_self, if_false, if_true, reduceIte, true_and, and_true, not_true_eq_false, not_false_eq_true, reduceCtorEq, uX11_why_0, qLI, uX11_why_1, qIf, uX11_why_4, qK, uX11_why_5, uX11_why_8, uX11_why_9, uX11_why_12, uX11_why_13, uX11_why_16, uX11_why_17, qRI, eN, eL, List.replicate, Nat.reduceAdd, Nat.reduceSub]
  refine ⟨fun h1 => ?_, fun h1 => ⟨fun h2 => ?_, fun h2 => ?_⟩⟩ <;> simp_all
set_option maxRecDepth 100000 in
set_option maxHeartbeats 4000000 in
theorem c_thrown (hl : 181 ≤ h.length) : CT d mX11_thrown (0, 0) [.ref 167] (MH h F G B) (fun r h' => r = some (.int (F 0)) ∧ h' = MH h F G B) := by
  refine ct_ev (by decide +kernel) (Nat.le_of_ble_eq_true rfl) (fun r h' q => by rw [q.1]; exact rI) ?_
  refine ev_p 1 [] rfl kX11_thrown ?_
  simp only [pX11_thrown_0, nX11_thrown, evP_0, evK_in, evK_out, evL_nil, List.cons_append, List.nil_append, List.append_nil, List.length_cons, List.length_nil, List.getElem?_cons_zero, List.getElem?_cons_succ, List.getElem?_nil, List.set_cons_succ, List.set_cons_zero, List.not_mem_nil, List.mem_cons, Nat.reduceBEq, Nat.reduceAdd, Nat.reduceSub, Nat.reduceLT, Nat.reduceLeDiff, Nat.reduceEqDiff, false_or, or_false, or_self, if_false, if_true, reduceIte, true_and, and_true, not_true_eq_false, not_false_eq_true, reduceCtorEq, uX11_thrown_0, qLR, uX11_thrown_1, qGF, qG1, qG2, MH_o hl, mF_0, uX11_thrown_4, qRI, eN, eL, List.replicate, Nat.reduceAdd, Nat.reduceSub]
set_option maxRecDepth 100000 in
set_option maxHeartbeats 4000000 in
theorem e_nameAt (hl : 181 ≤ h.length) {N : Nat} (hN : N ≤ 8) (h2 : (B 2).length = 188) (h4 : (B 2).getD 4 0 = nI N) (x : Int32) : ∀ (n k : Nat), k + n = N → Ev d none mX11_nameAt (0, 0) 5 [.ref 167, .int x, .int (oI (nmF (fun k => (B 2).getD (19 + 2 * k) 0) x k)), .int (nI k)] [] (MH h F G B) (fun r h' => r = some (.int (oI (nmF (fun k => (B 2).getD (19 + 2 * k) 0) x N))) ∧ h' = MH h F G B) := by
  intro n
  induction n with
  | zero =>
    intro k hk
    refine ev_p 6 [5] rfl kX11_nameAt ?_
    have e : k = N := by omega
    subst e
    simp only [pX11_nameAt_0, pX11_nameAt_5, pX11_nameAt_15, pX11_nameAt_30, pX11_nameAt_34, pX11_nameAt_59, pX11_nameAt_61, pX11_nameAt_67, nX11_nameAt, evP_0, evK_in, evK_out, evL_nil, List.cons_append, List.nil_append, List.append_nil, List.length_cons, List.length_nil, List.getElem?_cons_zero, List.getElem?_cons_succ, List.getElem?_nil, List.set_cons_succ, List.set_cons_zero, List.not_mem_nil, List.mem_cons, Nat.reduceBEq, Nat.reduceAdd, Nat.reduceSub, Nat.reduceLT, Nat.reduceLeDiff, Nat.reduceEqDiff, false_or, or_false, or_self, if_false, if_true, reduceIte, true_and, and_true, not_true_eq_false, not_false_eq_true, reduceCtorEq, uX11_nameAt_0, qK, uX11_nameAt_2, qSI, sto1, kil, uX11_nameAt_3, uX11_nameAt_4, uX11_nameAt_5, qLI, uX11_nameAt_6, qLR, uX11_nameAt_7, qGF, qG1, qG2, MH_o hl, mF_15, MH_2 hl, uX11_nameAt_10, uX11_nameAt_11, qAl, xCl, qA1, uX11_nameAt_12, qIc, uX11_nameAt_15, uX11_nameAt_16, uX11_nameAt_19, uX11_nameAt_21, uX11_nameAt_22, uX11_nameAt_23, qI2, uX11_nameAt_24, uX11_nameAt_25, uX11_nameAt_26, uX11_nameAt_27, uX11_nameAt_30, uX11_nameAt_31, qIf, uX11_nameAt_34, uX11_nameAt_35, uX11_nameAt_38, uX11_nameAt_40, uX11_nameAt_41, uX11_nameAt_42, uX11_nameAt_43, uX11_nameAt_44, uX11_nameAt_45, uX11_nameAt_46, uX11_nameAt_49, uX11_nameAt_51, uX11_nameAt_52, uX11_nameAt_53, uX11_nameAt_54, uX11_nameAt_55, uX11_nameAt_56, uX11_nameAt_59, uX11_nameAt_60, uX11_nameAt_61, qIn, uX11_nameAt_64, uX11_nameAt_67, uX11_nameAt_68, qRI, eN, eL, List.replicate, Nat.reduceAdd, Nat.reduceSub, ix2, nI_add, cl_lt (show 4 < 5000 by omega), h2, h4]
    exact ⟨in_lt (by omega) (by omega), fun z => absurd z (by rw [lt_iff (by omega) (by omega)]; omega), fun _ => trivial⟩
  | succ n ih =>
    intro k hk
    refine ev_p 6 [5] rfl kX11_nameAt ?_
    have ih' := ih (k + 1) (by omega)
    simp only [pX11_nameAt_0, pX11_nameAt_5, pX11_nameAt_15, pX11_nameAt_30, pX11_nameAt_34, pX11_nameAt_59, pX11_nameAt_61, pX11_nameAt_67, nX11_nameAt, evP_0, evK_in, evK_out, evL_nil, List.cons_append, List.nil_append, List.append_nil, List.length_cons, List.length_nil, List.getElem?_cons_zero, List.getElem?_cons_succ, List.getElem?_nil, List.set_cons_succ, List.set_cons_zero, List.not_mem_nil, List.mem_cons, Nat.reduceBEq, Nat.reduceAdd, Nat.reduceSub, Nat.reduceLT, Nat.reduceLeDiff, Nat.reduceEqDiff, false_or, or_false, or_self, if_false, if_true, reduceIte, true_and, and_true, not_true_eq_false, not_false_eq_true, reduceCtorEq, uX11_nameAt_0, qK, uX11_nameAt_2, qSI, sto1, kil, uX11_nameAt_3, uX11_nameAt_4, uX11_nameAt_5, qLI, uX11_nameAt_6, qLR, uX11_nameAt_7, qGF, qG1, qG2, MH_o hl, mF_15, MH_2 hl, uX11_nameAt_10, uX11_nameAt_11, qAl, xCl, qA1, uX11_nameAt_12, qIc, uX11_nameAt_15, uX11_nameAt_16, uX11_nameAt_19, uX11_nameAt_21, uX11_nameAt_22, uX11_nameAt_23, qI2, uX11_nameAt_24, uX11_nameAt_25, uX11_nameAt_26, uX11_nameAt_27, uX11_nameAt_30, uX11_nameAt_31, qIf, uX11_nameAt_34, uX11_nameAt_35, uX11_nameAt_38, uX11_nameAt_40, uX11_nameAt_41, uX11_nameAt_42, uX11_nameAt_43, uX11_nameAt_44, uX11_nameAt_45, uX11_nameAt_46, uX11_nameAt_49, uX11_nameAt_51, uX11_nameAt_52, uX11_nameAt_53, uX11_nameAt_54, uX11_nameAt_55, uX11_nameAt_56, uX11_nameAt_59, uX11_nameAt_60, uX11_nameAt_61, qIn, uX11_nameAt_64, uX11_nameAt_67, uX11_nameAt_68, qRI, eN, eL, List.replicate, Nat.reduceAdd, Nat.reduceSub, ix2, nI_add, cl_lt (show 4 < 5000 by omega), cl_lt (show 19 + 2 * k < 5000 by omega), h2, h4]
    refine ⟨in_lt (by omega) (by omega), fun _ => ⟨in_lt (by omega) (by omega), fun c1 => ?_, fun c1 => ⟨fun c2 => ?_, fun c2 => ?_⟩⟩, fun z => absurd ((lt_iff (by omega) (by omega)).mpr (by omega)) z⟩
    · rw [nmF_no (f := fun k => (B 2).getD (19 + 2 * k) 0) (k := k) c1] at ih'; exact ih'
    · rw [nmF_1 (f := fun k => (B 2).getD (19 + 2 * k) 0) (k := k) c1 (nmF_neg (by omega) c2)] at ih'; exact ih'
    · obtain ⟨j, hb, hj⟩ := nmF_pos c2
      simp only [hb, oI, ix2, nI_add, cl_lt (show 19 + 2 * j < 5000 by omega)]
      refine ⟨in_lt (by omega) (by omega), in_lt (by omega) (by omega), fun c3 => ?_, fun c3 => ?_⟩
      · rw [nmF_y (f := fun k => (B 2).getD (19 + 2 * k) 0) (k := k) c1 hb c3] at ih'; exact ih'
      · rw [nmF_n (f := fun k => (B 2).getD (19 + 2 * k) 0) (k := k) hb c3] at ih'; exact ih'
set_option maxRecDepth 100000 in
set_option maxHeartbeats 4000000 in
theorem c_nameAt (hl : 181 ≤ h.length) {N : Nat} (hN : N ≤ 8) (h2 : (B 2).length = 188) (h4 : (B 2).getD 4 0 = nI N) (x : Int32) : CT d mX11_nameAt (0, 0) [.ref 167, .int x] (MH h F G B) (fun r h' => r = some (.int (oI (nmF (fun k => (B 2).getD (19 + 2 * k) 0) x N))) ∧ h' = MH h F G B) := by
  refine ct_ev (by decide +kernel) (Nat.le_of_ble_eq_true rfl) (fun r h' q => by rw [q.1]; exact rI) ?_
  refine ev_p 1 [5] rfl kX11_nameAt ?_
  simp only [pX11_nameAt_0, pX11_nameAt_5, pX11_nameAt_15, pX11_nameAt_30, pX11_nameAt_34, pX11_nameAt_59, pX11_nameAt_61, pX11_nameAt_67, nX11_nameAt, evP_0, evK_in, evK_out, evL_nil, List.cons_append, List.nil_append, List.append_nil, List.length_cons, List.length_nil, List.getElem?_cons_zero, List.getElem?_cons_succ, List.getElem?_nil, List.set_cons_succ, List.set_cons_zero, List.not_mem_nil, List.mem_cons, Nat.reduceBEq, Nat.reduceAdd, Nat.reduceSub, Nat.reduceLT, Nat.reduceLeDiff, Nat.reduceEqDiff, false_or, or_false, or_self, if_false, if_true, reduceIte, true_and, and_true, not_true_eq_false, not_false_eq_true, reduceCtorEq, uX11_nameAt_0, qK, uX11_nameAt_2, qSI, sto1, kil, uX11_nameAt_3, uX11_nameAt_4, uX11_nameAt_5, qLI, uX11_nameAt_6, qLR, uX11_nameAt_7, qGF, qG1, qG2, MH_o hl, mF_15, MH_2 hl, uX11_nameAt_10, uX11_nameAt_11, qAl, xCl, qA1, uX11_nameAt_12, qIc, uX11_nameAt_15, uX11_nameAt_16, uX11_nameAt_19, uX11_nameAt_21, uX11_nameAt_22, uX11_nameAt_23, qI2, uX11_nameAt_24, uX11_nameAt_25, uX11_nameAt_26, uX11_nameAt_27, uX11_nameAt_30, uX11_nameAt_31, qIf, uX11_nameAt_34, uX11_nameAt_35, uX11_nameAt_38, uX11_nameAt_40, uX11_nameAt_41, uX11_nameAt_42, uX11_nameAt_43, uX11_nameAt_44, uX11_nameAt_45, uX11_nameAt_46, uX11_nameAt_49, uX11_nameAt_51, uX11_nameAt_52, uX11_nameAt_53, uX11_nameAt_54, uX11_nameAt_55, uX11_nameAt_56, uX11_nameAt_59, uX11_nameAt_60, uX11_nameAt_61, qIn, uX11_nameAt_64, uX11_nameAt_67, uX11_nameAt_68, qRI, eN, eL, List.replicate, Nat.reduceAdd, Nat.reduceSub]
  exact e_nameAt hl hN h2 h4 x N 0 (by omega)
end MLEAF
