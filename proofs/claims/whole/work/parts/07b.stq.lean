/-! THE SAME INSTRUCTIONS, in a form that simp walks forward: no continuation stands under a binder -/
abbrev KT : Type := List Value → aH → List Value → Prop
def qK (v : Value) (xs : List Value) (h : aH) (st : List Value) (k : KT) : Prop := k xs h (v :: st)
def qLI (o : Option Value) (xs : List Value) (h : aH) (st : List Value) (k : KT) : Prop := match o with
  | some (.int x) => k xs h (.int x :: st)
  | _ => False
def qLL (o : Option Value) (xs : List Value) (h : aH) (st : List Value) (k : KT) : Prop := match o with
  | some (.long x) => k xs h (.long x :: st)
  | _ => False
def qLR (o : Option Value) (xs : List Value) (h : aH) (st : List Value) (k : KT) : Prop := match o with
  | some (.ref x) => k xs h (.ref x :: st)
  | _ => False
def qSI (n a : Nat) (st xs : List Value) (h : aH) (k : KT) : Prop := match st with
  | .int x :: q => a < n ∧ k (sto1 xs a (.int x)) h q
  | _ => False
def qSL (n a : Nat) (st xs : List Value) (h : aH) (k : KT) : Prop := match st with
  | .long x :: q => a + 1 < n ∧ k (sto2 xs a (.long x)) h q
  | _ => False
def qSR (n a : Nat) (st xs : List Value) (h : aH) (k : KT) : Prop := match st with
  | .ref x :: q => a < n ∧ k (sto1 xs a (.ref x)) h q
  | _ => False
def qIn (o : Option Value) (n a : Nat) (c : Int32) (xs : List Value) (h : aH) (st : List Value) (k : KT) : Prop := match o with
  | some (.int x) => a < n ∧ k (sto1 xs a (.int (x + c))) h st
  | _ => False
def qI2 (f : Int32 → Int32 → Int32) (st xs : List Value) (h : aH) (k : KT) : Prop := match st with
  | .int y :: .int x :: q => k xs h (.int (f x y) :: q)
  | _ => False
def qD2 (f : Int32 → Int32 → Int32) (st xs : List Value) (h : aH) (k : KT) : Prop := match st with
  | .int y :: .int x :: q => ¬ y = 0 ∧ k xs h (.int (f x y) :: q)
  | _ => False
def qL2 (f : Int64 → Int64 → Value) (st xs : List Value) (h : aH) (k : KT) : Prop := match st with
  | .long y :: .long x :: q => k xs h (f x y :: q)
  | _ => False
def qLD (f : Int64 → Int64 → Int64) (st xs : List Value) (h : aH) (k : KT) : Prop := match st with
  | .long y :: .long x :: q => ¬ y = 0 ∧ k xs h (.long (f x y) :: q)
  | _ => False
def qI1 (f : Int32 → Value) (st xs : List Value) (h : aH) (k : KT) : Prop := match st with
  | .int x :: q => k xs h (f x :: q)
  | _ => False
def qDu (st xs : List Value) (h : aH) (k : KT) : Prop := match st with
  | v :: q => v.category = 1 ∧ k xs h (v :: v :: q)
  | _ => False
def qDD (st xs : List Value) (h : aH) (k : KT) : Prop := match st with
  | v :: w :: q => v.category = 1 ∧ w.category = 1 ∧ k xs h (v :: w :: v :: w :: q)
  | _ => False
def qPo (st xs : List Value) (h : aH) (k : KT) : Prop := match st with
  | v :: q => v.category = 1 ∧ k xs h q
  | _ => False
def qIf (P : Int32 → Prop) (st xs : List Value) (h : aH) (kt kf : KT) : Prop := match st with
  | .int x :: q => (P x → kt xs h q) ∧ (¬ P x → kf xs h q)
  | _ => False
def qIc (P : Int32 → Int32 → Prop) (st xs : List Value) (h : aH) (kt kf : KT) : Prop := match st with
  | .int y :: .int x :: q => (P x y → kt xs h q) ∧ (¬ P x y → kf xs h q)
  | _ => False
def qG2 (o : Option Value) (xs : List Value) (h : aH) (q : List Value) (k : KT) : Prop := match o with
  | some v => k xs h (v :: q)
  | none => False
def qG1 (o : Option aC) (ci fk : Nat) (xs : List Value) (h : aH) (q : List Value) (k : KT) : Prop := match o with
  | some (.inr (c, fs)) => c = ci ∧ qG2 (fs[fk]?) xs h q k
  | _ => False
def qGF (ci fk : Nat) (st xs : List Value) (h : aH) (k : KT) : Prop := match st with
  | .ref a :: q => qG1 (h[a]?) ci fk xs h q k
  | _ => False
def qP1 (o : Option aC) (a : Nat) (v : Value) (ci fk : Nat) (xs : List Value) (h : aH) (q : List Value) (k : KT) : Prop := match o with
  | some (.inr (c, fs)) => c = ci ∧ fk < fs.length ∧ pf (tyC ci fk) v ∧ k xs (h.set a (.inr (ci, fs.set fk v))) q
  | _ => False
def qPF (ci fk : Nat) (st xs : List Value) (h : aH) (k : KT) : Prop := match st with
  | v :: .ref a :: q => qP1 (h[a]?) a v ci fk xs h q k
  | _ => False
def xCl (X : Option (List Int32)) (h : aH) (a : Nat) : Option aC := match X with
  | none => h[a]?
  | some zs => if a = XB then some (.inl (0, .inl zs)) else h[a]?
def qA1 (o : Option aC) (i : Int32) (xs : List Value) (h : aH) (q : List Value) (k : KT) : Prop := match o with
  | some (.inl (t, .inl ys)) => t = 0 ∧ vp_in i ys.length ∧ k xs h (.int (ys.getD i.toNatClampNeg 0) :: q)
  | _ => False
def qAl (X : Option (List Int32)) (st xs : List Value) (h : aH) (k : KT) : Prop := match st with
  | .int i :: .ref a :: q => qA1 (xCl X h a) i xs h q k
  | _ => False
def qB1 (o : Option aC) (i : Int32) (xs : List Value) (h : aH) (q : List Value) (k : KT) : Prop := match o with
  | some (.inl (t, .inl ys)) => (t = 1 ∨ t = 2) ∧ vp_in i ys.length ∧ k xs h (.int (ys.getD i.toNatClampNeg 0) :: q)
  | _ => False
def qBl (st xs : List Value) (h : aH) (k : KT) : Prop := match st with
  | .int i :: .ref a :: q => qB1 (h[a]?) i xs h q k
  | _ => False
def qJ1 (o : Option aC) (i : Int32) (xs : List Value) (h : aH) (q : List Value) (k : KT) : Prop := match o with
  | some (.inl (t, .inr (.inl ys))) => t = 3 ∧ vp_in i ys.length ∧ k xs h (.long (ys.getD i.toNatClampNeg 0) :: q)
  | _ => False
def qJl (st xs : List Value) (h : aH) (k : KT) : Prop := match st with
  | .int i :: .ref a :: q => qJ1 (h[a]?) i xs h q k
  | _ => False
def qR2 (o : Option Nat) (xs : List Value) (h : aH) (q : List Value) (k : KT) : Prop := match o with
  | some y => k xs h (.ref y :: q)
  | none => False
def qR1 (o : Option aC) (i : Int32) (xs : List Value) (h : aH) (q : List Value) (k : KT) : Prop := match o with
  | some (.inl (t, .inr (.inr ys))) => t = 4 ∧ vp_in i ys.length ∧ qR2 (ys.getD i.toNatClampNeg none) xs h q k
  | _ => False
def qRl (st xs : List Value) (h : aH) (k : KT) : Prop := match st with
  | .int i :: .ref a :: q => qR1 (h[a]?) i xs h q k
  | _ => False
def qIs1 (o : Option aC) (a : Nat) (i x : Int32) (xs : List Value) (h : aH) (q : List Value) (k : KT) : Prop := match o with
  | some (.inl (t, .inl ys)) => t = 0 ∧ vp_in i ys.length ∧ k xs (h.set a (.inl (0, .inl (ys.set i.toNatClampNeg x)))) q
  | _ => False
def qIs (st xs : List Value) (h : aH) (k : KT) : Prop := match st with
  | .int x :: .int i :: .ref a :: q => qIs1 (h[a]?) a i x xs h q k
  | _ => False
def qBs1 (o : Option aC) (a : Nat) (i x : Int32) (xs : List Value) (h : aH) (q : List Value) (k : KT) : Prop := match o with
  | some (.inl (t, .inl ys)) => (t = 1 ∨ t = 2) ∧ vp_in i ys.length ∧ k xs (h.set a (.inl (t, .inl (ys.set i.toNatClampNeg (if t = 1 then vp_nar .byte x else vp_nar .boolean x))))) q
  | _ => False
def qBs (st xs : List Value) (h : aH) (k : KT) : Prop := match st with
  | .int x :: .int i :: .ref a :: q => qBs1 (h[a]?) a i x xs h q k
  | _ => False
def qJs1 (o : Option aC) (a : Nat) (i : Int32) (x : Int64) (xs : List Value) (h : aH) (q : List Value) (k : KT) : Prop := match o with
  | some (.inl (t, .inr (.inl ys))) => t = 3 ∧ vp_in i ys.length ∧ k xs (h.set a (.inl (3, .inr (.inl (ys.set i.toNatClampNeg x))))) q
  | _ => False
def qJs (st xs : List Value) (h : aH) (k : KT) : Prop := match st with
  | .long x :: .int i :: .ref a :: q => qJs1 (h[a]?) a i x xs h q k
  | _ => False
def qN1 (o : Option aC) (xs : List Value) (h : aH) (q : List Value) (k : KT) : Prop := match o with
  | some (.inl (t, .inl ys)) => t < 3 ∧ k xs h (.int (nI ys.length) :: q)
  | some (.inl (t, .inr (.inl ys))) => t = 3 ∧ k xs h (.int (nI ys.length) :: q)
  | some (.inl (t, .inr (.inr ys))) => t = 4 ∧ k xs h (.int (nI ys.length) :: q)
  | _ => False
def xNl (X : Option (List Int32)) (h : aH) (a : Nat) : Option aC := match X with
  | none => h[a]?
  | some zs => if a = XB then some (.inl (0, .inl zs)) else none
def qNl (X : Option (List Int32)) (st xs : List Value) (h : aH) (k : KT) : Prop := match st with
  | .ref a :: q => qN1 (xNl X h a) xs h q k
  | _ => False
def qRI (st : List Value) (h : aH) (rt : Option Value → aH → Prop) : Prop := match st with
  | [.int x] => rt (some (.int x)) h
  | _ => False
def qRJ (st : List Value) (h : aH) (rt : Option Value → aH → Prop) : Prop := match st with
  | [.long x] => rt (some (.long x)) h
  | _ => False
def qRV (st : List Value) (h : aH) (rt : Option Value → aH → Prop) : Prop := match st with
  | [] => rt none h
  | _ => False
def stq (M : Mt) (X : Option (List Int32)) (i : Instr) (r : Nat × Nat × Nat) (xs : List Value) (h : aH) (st : List Value) (k : KT) (j : Nat → KT) (rt : Option Value → aH → Prop) : Prop := match i with
  | .iconst n => qK (.int (kI n)) xs h st k
  | .bipush n => qK (.int (kB n)) xs h st k
  | .sipush n => qK (.int (kS n)) xs h st k
  | .lconst n => qK (.long (kJ n)) xs h st k
  | .iload_n a => qLI (xs[fv a]?) xs h st k
  | .iload a => qLI (xs[a]?) xs h st k
  | .lload_n a => qLL (xs[fv a]?) xs h st k
  | .lload a => qLL (xs[a]?) xs h st k
  | .aload_n a => qLR (xs[fv a]?) xs h st k
  | .aload a => qLR (xs[a]?) xs h st k
  | .istore_n a => qSI M.2.2.2.1 (fv a) st xs h k
  | .istore a => qSI M.2.2.2.1 a st xs h k
  | .lstore_n a => qSL M.2.2.2.1 (fv a) st xs h k
  | .lstore a => qSL M.2.2.2.1 a st xs h k
  | .astore_n a => qSR M.2.2.2.1 (fv a) st xs h k
  | .astore a => qSR M.2.2.2.1 a st xs h k
  | .iinc a n => qIn (xs[a]?) M.2.2.2.1 a (kI n) xs h st k
  | .iadd => qI2 (fun x y => x + y) st xs h k
  | .isub => qI2 (fun x y => x - y) st xs h k
  | .imul => qI2 (fun x y => x * y) st xs h k
  | .iand => qI2 (fun x y => x &&& y) st xs h k
  | .ior => qI2 (fun x y => x ||| y) st xs h k
  | .ixor => qI2 (fun x y => x ^^^ y) st xs h k
  | .idiv => qD2 (fun x y => x / y) st xs h k
  | .irem => qD2 (fun x y => x - x / y * y) st xs h k
  | .ineg => qI1 (fun x => .int (-x)) st xs h k
  | .ishl => qI2 (fun x y => x <<< (y &&& 31)) st xs h k
  | .ishr => qI2 (fun x y => x >>> (y &&& 31)) st xs h k
  | .iushr => qI2 (fun x y => (x.toUInt32 >>> (y.toUInt32 &&& Int32.toUInt32 31)).toInt32) st xs h k
  | .ladd => qL2 (fun x y => .long (x + y)) st xs h k
  | .lmul => qL2 (fun x y => .long (x * y)) st xs h k
  | .ldiv => qLD (fun x y => x / y) st xs h k
  | .lrem => qLD (fun x y => x - x / y * y) st xs h k
  | .lcmp => qL2 (fun x y => .int (lg_cmp x y)) st xs h k
  | .i2l => qI1 (fun x => .long x.toInt64) st xs h k
  | .i2b => qI1 (fun x => .int x.toInt8.toInt32) st xs h k
  | .dup => qDu st xs h k
  | .dup2 => qDD st xs h k
  | .pop => qPo st xs h k
  | .goto _ => j r.1 xs h st
  | .ifCond .eq _ => qIf (fun x => x = 0) st xs h (j r.1) k
  | .ifCond .ne _ => qIf (fun x => x = 0) st xs h k (j r.1)
  | .ifCond .lt _ => qIf (fun x => x < 0) st xs h (j r.1) k
  | .ifCond .ge _ => qIf (fun x => x < 0) st xs h k (j r.1)
  | .ifCond .gt _ => qIf (fun x => 0 < x) st xs h (j r.1) k
  | .ifCond .le _ => qIf (fun x => 0 < x) st xs h k (j r.1)
  | .if_icmp .eq _ => qIc (fun x y => x = y) st xs h (j r.1) k
  | .if_icmp .ne _ => qIc (fun x y => x = y) st xs h k (j r.1)
  | .if_icmp .lt _ => qIc (fun x y => x < y) st xs h (j r.1) k
  | .if_icmp .ge _ => qIc (fun x y => x < y) st xs h k (j r.1)
  | .if_icmp .gt _ => qIc (fun x y => y < x) st xs h (j r.1) k
  | .if_icmp .le _ => qIc (fun x y => y < x) st xs h k (j r.1)
  | .getfield _ => qGF r.2.1 r.2.2 st xs h k
  | .putfield _ => qPF r.2.1 r.2.2 st xs h k
  | .iaload => qAl X st xs h k
  | .iastore => qIs st xs h k
  | .baload => qBl st xs h k
  | .bastore => qBs st xs h k
  | .laload => qJl st xs h k
  | .lastore => qJs st xs h k
  | .aaload => qRl st xs h k
  | .arraylength => qNl X st xs h k
  | .ireturn => qRI st h rt
  | .lreturn => qRJ st h rt
  | .return_ => qRV st h rt
  | _ => False
theorem stq_stp {M : Mt} {X : Option (List Int32)} {i : Instr} {r : Nat × Nat × Nat} {xs : List Value} {h : aH} {st : List Value} {k : KT} {j : Nat → KT} {rt : Option Value → aH → Prop} (q : stq M X i r xs h st k j rt) : stp M X i r xs st h (fun xs st h => k xs h st) (fun t xs st h => j t xs h st) rt := by
  cases i with
  | iconst n =>
    exact q
  | bipush n =>
    exact q
  | sipush n =>
    exact q
  | lconst n =>
    exact q
  | goto a =>
    exact q
  | iload_n a =>
    show gI _ _ _
    have q2 : qLI _ _ _ _ _ := q
    unfold qLI at q2
    unfold gI
    split at q2
    · rename_i e; rw [e]; exact q2
    · exact q2.elim
  | iload a =>
    show gI _ _ _
    have q2 : qLI _ _ _ _ _ := q
    unfold qLI at q2
    unfold gI
    split at q2
    · rename_i e; rw [e]; exact q2
    · exact q2.elim
  | lload_n a =>
    show gL _ _ _
    have q2 : qLL _ _ _ _ _ := q
    unfold qLL at q2
    unfold gL
    split at q2
    · rename_i e; rw [e]; exact q2
    · exact q2.elim
  | lload a =>
    show gL _ _ _
    have q2 : qLL _ _ _ _ _ := q
    unfold qLL at q2
    unfold gL
    split at q2
    · rename_i e; rw [e]; exact q2
    · exact q2.elim
  | aload_n a =>
    show gR _ _ _
    have q2 : qLR _ _ _ _ _ := q
    unfold qLR at q2
    unfold gR
    split at q2
    · rename_i e; rw [e]; exact q2
    · exact q2.elim
  | aload a =>
    show gR _ _ _
    have q2 : qLR _ _ _ _ _ := q
    unfold qLR at q2
    unfold gR
    split at q2
    · rename_i e; rw [e]; exact q2
    · exact q2.elim
  | iinc a n =>
    show gI _ _ _
    have q2 : qIn _ _ _ _ _ _ _ _ := q
    unfold qIn at q2
    unfold gI
    split at q2
    · rename_i e; rw [e]; exact q2
    · exact q2.elim
  | istore_n a =>
    have q2 : qSI _ _ _ _ _ _ := q
    unfold qSI at q2
    split at q2
    · exact q2
    · exact q2.elim
  | istore a =>
    have q2 : qSI _ _ _ _ _ _ := q
    unfold qSI at q2
    split at q2
    · exact q2
    · exact q2.elim
  | lstore_n a =>
    have q2 : qSL _ _ _ _ _ _ := q
    unfold qSL at q2
    split at q2
    · exact q2
    · exact q2.elim
  | lstore a =>
    have q2 : qSL _ _ _ _ _ _ := q
    unfold qSL at q2
    split at q2
    · exact q2
    · exact q2.elim
  | astore_n a =>
    have q2 : qSR _ _ _ _ _ _ := q
    unfold qSR at q2
    split at q2
    · exact q2
    · exact q2.elim
  | astore a =>
    have q2 : qSR _ _ _ _ _ _ := q
    unfold qSR at q2
    split at q2
    · exact q2
    · exact q2.elim
  | iadd =>
    have q2 : qI2 _ _ _ _ _ := q
    unfold qI2 at q2
    split at q2
    · exact q2
    · exact q2.elim
  | isub =>
    have q2 : qI2 _ _ _ _ _ := q
    unfold qI2 at q2
    split at q2
    · exact q2
    · exact q2.elim
  | imul =>
    have q2 : qI2 _ _ _ _ _ := q
    unfold qI2 at q2
    split at q2
    · exact q2
    · exact q2.elim
  | iand =>
    have q2 : qI2 _ _ _ _ _ := q
    unfold qI2 at q2
    split at q2
    · exact q2
    · exact q2.elim
  | ior =>
    have q2 : qI2 _ _ _ _ _ := q
    unfold qI2 at q2
    split at q2
    · exact q2
    · exact q2.elim
  | ixor =>
    have q2 : qI2 _ _ _ _ _ := q
    unfold qI2 at q2
    split at q2
    · exact q2
    · exact q2.elim
  | ishl =>
    have q2 : qI2 _ _ _ _ _ := q
    unfold qI2 at q2
    split at q2
    · exact q2
    · exact q2.elim
  | ishr =>
    have q2 : qI2 _ _ _ _ _ := q
    unfold qI2 at q2
    split at q2
    · exact q2
    · exact q2.elim
  | iushr =>
    have q2 : qI2 _ _ _ _ _ := q
    unfold qI2 at q2
    split at q2
    · exact q2
    · exact q2.elim
  | idiv =>
    have q2 : qD2 _ _ _ _ _ := q
    unfold qD2 at q2
    split at q2
    · exact q2
    · exact q2.elim
  | irem =>
    have q2 : qD2 _ _ _ _ _ := q
    unfold qD2 at q2
    split at q2
    · exact q2
    · exact q2.elim
  | ladd =>
    have q2 : qL2 _ _ _ _ _ := q
    unfold qL2 at q2
    split at q2
    · exact q2
    · exact q2.elim
  | lmul =>
    have q2 : qL2 _ _ _ _ _ := q
    unfold qL2 at q2
    split at q2
    · exact q2
    · exact q2.elim
  | lcmp =>
    have q2 : qL2 _ _ _ _ _ := q
    unfold qL2 at q2
    split at q2
    · exact q2
    · exact q2.elim
  | ldiv =>
    have q2 : qLD _ _ _ _ _ := q
    unfold qLD at q2
    split at q2
    · exact q2
    · exact q2.elim
  | lrem =>
    have q2 : qLD _ _ _ _ _ := q
    unfold qLD at q2
    split at q2
    · exact q2
    · exact q2.elim
  | ineg =>
    have q2 : qI1 _ _ _ _ _ := q
    unfold qI1 at q2
    split at q2
    · exact q2
    · exact q2.elim
  | i2l =>
    have q2 : qI1 _ _ _ _ _ := q
    unfold qI1 at q2
    split at q2
    · exact q2
    · exact q2.elim
  | i2b =>
    have q2 : qI1 _ _ _ _ _ := q
    unfold qI1 at q2
    split at q2
    · exact q2
    · exact q2.elim
  | dup =>
    have q2 : qDu _ _ _ _ := q
    unfold qDu at q2
    split at q2
    · exact q2
    · exact q2.elim
  | dup2 =>
    have q2 : qDD _ _ _ _ := q
    unfold qDD at q2
    split at q2
    · exact q2
    · exact q2.elim
  | pop =>
    have q2 : qPo _ _ _ _ := q
    unfold qPo at q2
    split at q2
    · exact q2
    · exact q2.elim
  | ifCond cd a =>
    cases cd <;> (
      have q2 : qIf _ _ _ _ _ _ := q
      unfold qIf at q2
      split at q2
      · exact q2
      · exact q2.elim)
  | if_icmp cd a =>
    cases cd <;> (
      have q2 : qIc _ _ _ _ _ _ := q
      unfold qIc at q2
      split at q2
      · exact q2
      · exact q2.elim)
  | getfield a =>
    have q2 : qGF _ _ _ _ _ _ := q
    unfold qGF at q2
    split at q2
    · show aO _ _ _ _
      unfold qG1 at q2
      unfold aO
      split at q2
      · rename_i e
        rw [e]
        refine ⟨q2.1, ?_⟩
        have q3 := q2.2
        unfold qG2 at q3
        split at q3
        · rename_i e2; dsimp only; rw [e2]; exact q3
        · exact q3.elim
      · exact q2.elim
    · exact q2.elim
  | putfield a =>
    have q2 : qPF _ _ _ _ _ _ := q
    unfold qPF at q2
    split at q2
    · show aO _ _ _ _
      unfold qP1 at q2
      unfold aO
      split at q2
      · rename_i e
        rw [e]
        exact q2
      · exact q2.elim
    · exact q2.elim
  | iastore =>
    have q2 : qIs _ _ _ _ := q
    unfold qIs at q2
    split at q2
    · show aI _ _ _
      unfold qIs1 at q2
      unfold aI
      split at q2
      · rename_i e
        rw [e]
        exact q2
      · exact q2.elim
    · exact q2.elim
  | baload =>
    have q2 : qBl _ _ _ _ := q
    unfold qBl at q2
    split at q2
    · show aI _ _ _
      unfold qB1 at q2
      unfold aI
      split at q2
      · rename_i e
        rw [e]
        exact q2
      · exact q2.elim
    · exact q2.elim
  | bastore =>
    have q2 : qBs _ _ _ _ := q
    unfold qBs at q2
    split at q2
    · show aI _ _ _
      unfold qBs1 at q2
      unfold aI
      split at q2
      · rename_i e
        rw [e]
        exact q2
      · exact q2.elim
    · exact q2.elim
  | laload =>
    have q2 : qJl _ _ _ _ := q
    unfold qJl at q2
    split at q2
    · show aL _ _ _
      unfold qJ1 at q2
      unfold aL
      split at q2
      · rename_i e
        rw [e]
        exact q2
      · exact q2.elim
    · exact q2.elim
  | lastore =>
    have q2 : qJs _ _ _ _ := q
    unfold qJs at q2
    split at q2
    · show aL _ _ _
      unfold qJs1 at q2
      unfold aL
      split at q2
      · rename_i e
        rw [e]
        exact q2
      · exact q2.elim
    · exact q2.elim
  | aaload =>
    have q2 : qRl _ _ _ _ := q
    unfold qRl at q2
    split at q2
    · show aR _ _ _
      unfold qR1 at q2
      unfold aR
      split at q2
      · rename_i e
        rw [e]
        refine ⟨q2.1, q2.2.1, ?_⟩
        have q3 := q2.2.2
        unfold qR2 at q3
        split at q3
        · rename_i e2; rw [e2]; exact q3
        · exact q3.elim
      · exact q2.elim
    · exact q2.elim
  | iaload =>
    have q2 : qAl _ _ _ _ _ := q
    unfold qAl at q2
    split at q2
    · rename_i n a q5
      show xI _ _ _ _
      unfold xI
      cases X with
      | none =>
        show aI _ _ _
        have q3 : qA1 (h[a]?) _ _ _ _ _ := q2
        unfold qA1 at q3
        unfold aI
        split at q3
        · rename_i e; rw [e]; exact q3
        · exact q3.elim
      | some zs =>
        have q3 : qA1 (if a = XB then some (.inl (0, .inl zs)) else h[a]?) _ _ _ _ _ := q2
        dsimp only
        split
        · rename_i e
          rw [if_pos e] at q3
          exact q3
        · rename_i e
          rw [if_neg e] at q3
          unfold qA1 at q3
          unfold aI
          split at q3
          · rename_i e; rw [e]; exact q3
          · exact q3.elim
    · exact q2.elim
  | arraylength =>
    have q2 : qNl _ _ _ _ _ := q
    unfold qNl at q2
    split at q2
    · rename_i a q5
      show xN X h a (fun n => k xs h (.int (nI n) :: q5))
      unfold xN
      cases X with
      | none =>
        have q3 : qN1 (h[a]?) _ _ _ _ := q2
        unfold qN1 at q3
        dsimp only
        split at q3
        · rename_i e; rw [e]; exact q3
        · rename_i e; rw [e]; exact q3
        · rename_i e; rw [e]; exact q3
        · exact q3.elim
      | some zs =>
        have q3 : qN1 (if a = XB then some (.inl (0, .inl zs)) else none) _ _ _ _ := q2
        dsimp only
        split
        · rename_i e
          rw [if_pos e] at q3
          exact q3.2
        · rename_i e
          rw [if_neg e] at q3
          exact q3.elim
    · exact q2.elim
  | ireturn =>
    have q2 : qRI _ _ _ := q
    unfold qRI at q2
    split at q2
    · exact ⟨rfl, q2⟩
    · exact q2.elim
  | lreturn =>
    have q2 : qRJ _ _ _ := q
    unfold qRJ at q2
    split at q2
    · exact ⟨rfl, q2⟩
    · exact q2.elim
  | return_ =>
    have q2 : qRV _ _ _ := q
    unfold qRV at q2
    split at q2
    · exact ⟨rfl, q2⟩
    · exact q2.elim
  | _ => exact q.elim
