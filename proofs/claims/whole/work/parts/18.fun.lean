-- THE PROGRAM AS FUNCTIONS: a block of plain instructions as a function to Option
abbrev KO (α : Type) : Type := List Value → aH → List Value → Option α
section FUN
variable {α : Type}
def oK (v : Value) (xs : List Value) (h : aH) (st : List Value) (k : KO α) : Option α := k xs h (v :: st)
def oLI (o : Option Value) (xs : List Value) (h : aH) (st : List Value) (k : KO α) : Option α := match o with
  | some (.int x) => k xs h (.int x :: st)
  | _ => none
def oLL (o : Option Value) (xs : List Value) (h : aH) (st : List Value) (k : KO α) : Option α := match o with
  | some (.long x) => k xs h (.long x :: st)
  | _ => none
def oLR (o : Option Value) (xs : List Value) (h : aH) (st : List Value) (k : KO α) : Option α := match o with
  | some (.ref x) => k xs h (.ref x :: st)
  | _ => none
def oSI (a : Nat) (st xs : List Value) (h : aH) (k : KO α) : Option α := match st with
  | .int x :: q => k (sto1 xs a (.int x)) h q
  | _ => none
def oSL (a : Nat) (st xs : List Value) (h : aH) (k : KO α) : Option α := match st with
  | .long x :: q => k (sto2 xs a (.long x)) h q
  | _ => none
def oSR (a : Nat) (st xs : List Value) (h : aH) (k : KO α) : Option α := match st with
  | .ref x :: q => k (sto1 xs a (.ref x)) h q
  | _ => none
def oIn (o : Option Value) (a : Nat) (c : Int32) (xs : List Value) (h : aH) (st : List Value) (k : KO α) : Option α := match o with
  | some (.int x) => k (sto1 xs a (.int (x + c))) h st
  | _ => none
def oI2 (f : Int32 → Int32 → Int32) (st xs : List Value) (h : aH) (k : KO α) : Option α := match st with
  | .int y :: .int x :: q => k xs h (.int (f x y) :: q)
  | _ => none
def oD2 (f : Int32 → Int32 → Int32) (st xs : List Value) (h : aH) (k : KO α) : Option α := match st with
  | .int y :: .int x :: q => if y = 0 then none else k xs h (.int (f x y) :: q)
  | _ => none
def oL2 (f : Int64 → Int64 → Value) (st xs : List Value) (h : aH) (k : KO α) : Option α := match st with
  | .long y :: .long x :: q => k xs h (f x y :: q)
  | _ => none
def oLD (f : Int64 → Int64 → Int64) (st xs : List Value) (h : aH) (k : KO α) : Option α := match st with
  | .long y :: .long x :: q => if y = 0 then none else k xs h (.long (f x y) :: q)
  | _ => none
def oI1 (f : Int32 → Value) (st xs : List Value) (h : aH) (k : KO α) : Option α := match st with
  | .int x :: q => k xs h (f x :: q)
  | _ => none
def oDu (st xs : List Value) (h : aH) (k : KO α) : Option α := match st with
  | .int v :: q => k xs h (.int v :: .int v :: q)
  | .ref v :: q => k xs h (.ref v :: .ref v :: q)
  | _ => none
def oDD (st xs : List Value) (h : aH) (k : KO α) : Option α := match st with
  | .int v :: .int w :: q => k xs h (.int v :: .int w :: .int v :: .int w :: q)
  | .int v :: .ref w :: q => k xs h (.int v :: .ref w :: .int v :: .ref w :: q)
  | _ => none
def oPo (st xs : List Value) (h : aH) (k : KO α) : Option α := match st with
  | .int _ :: q => k xs h q
  | .ref _ :: q => k xs h q
  | _ => none
def oIf (P : Int32 → Prop) [DecidablePred P] (st xs : List Value) (h : aH) (kt kf : KO α) : Option α := match st with
  | .int x :: q => if P x then kt xs h q else kf xs h q
  | _ => none
def oIc (P : Int32 → Int32 → Prop) [∀ x y, Decidable (P x y)] (st xs : List Value) (h : aH) (kt kf : KO α) : Option α := match st with
  | .int y :: .int x :: q => if P x y then kt xs h q else kf xs h q
  | _ => none
-- fields
def gV (h : aH) (ci a fk : Nat) : Option Value := match h[a]? with
  | some (.inr (c, fs)) => if c = ci then fs[fk]? else none
  | _ => none
def gFI (h : aH) (ci a fk : Nat) : Option Int32 := match gV h ci a fk with
  | some (.int v) => some v
  | _ => none
def gFR (h : aH) (ci a fk : Nat) : Option Nat := match gV h ci a fk with
  | some (.ref v) => some v
  | _ => none
def gFJ (h : aH) (ci a fk : Nat) : Option Int64 := match gV h ci a fk with
  | some (.long v) => some v
  | _ => none
def pfB (ty : FieldType) (v : Value) : Bool := match ty, v with
  | .int, .int _ => true
  | .long, .long _ => true
  | .boolean, .int x => decide (x = 0 ∨ x = 1)
  | .object _, .ref _ => true
  | .array _, .ref _ => true
  | _, _ => false
set_option maxRecDepth 100000 in
set_option maxHeartbeats 4000000 in
theorem pfB_ok {ty : FieldType} {v : Value} (h : pfB ty v = true) : pf ty v := by
  unfold pfB at h
  unfold pf
  split at h <;> simp_all
def pWV (h : aH) (ci a fk : Nat) (v : Value) : Option aH := match h[a]? with
  | some (.inr (c, fs)) => if c = ci ∧ fk < fs.length ∧ pfB (tyC ci fk) v = true then some (h.set a (.inr (ci, fs.set fk v))) else none
  | _ => none
def tgL : List (List Nat) := [[2, 1, 1, 1], [1, 1, 1, 1, 0, 0], [0, 0, 0, 1, 1, 0, 0], [0, 0, 0, 0, 1, 1, 1], [0, 0, 1], [0, 1], [0, 0, 1, 1], [1, 1, 1, 0, 0, 0, 0], [0, 0, 0, 1, 1, 1, 1, 1, 0, 0, 0, 0, 0, 0, 0], [0, 0, 0, 0, 0, 0, 0, 0, 1, 1, 1, 1, 1, 1, 1, 1, 1, 1, 1], [1, 1, 1, 1, 1, 1, 1, 1, 1, 1, 1, 0, 0], [0, 1, 0, 0, 0, 0, 0, 0, 0, 0, 0, 0, 1, 0, 0, 1, 1, 1, 1, 1, 1, 1, 1, 0, 0, 0, 0, 1, 1, 0, 0, 0, 0, 0, 0, 0, 1, 0, 0, 0, 0, 2, 2, 2]]
def oGF (tg ci fk : Nat) (st xs : List Value) (h : aH) (k : KO α) : Option α := match st with
  | .ref a :: q => (match tg with
    | 0 => (gFI h ci a fk).bind fun v => k xs h (.int v :: q)
    | 1 => (gFR h ci a fk).bind fun v => k xs h (.ref v :: q)
    | _ => (gFJ h ci a fk).bind fun v => k xs h (.long v :: q))
  | _ => none
def oPF (ci fk : Nat) (st xs : List Value) (h : aH) (k : KO α) : Option α := match st with
  | .int v :: .ref a :: q => (pWV h ci a fk (.int v)).bind fun h' => k xs h' q
  | .long v :: .ref a :: q => (pWV h ci a fk (.long v)).bind fun h' => k xs h' q
  | .ref v :: .ref a :: q => (pWV h ci a fk (.ref v)).bind fun h' => k xs h' q
  | _ => none
-- rows
def vpB (i : Int32) (n : Nat) : Bool := !decide (i < 0 ∨ n ≤ i.toNatClampNeg)
set_option maxRecDepth 100000 in
set_option maxHeartbeats 4000000 in
theorem vpB_ok {i : Int32} {n : Nat} (h : vpB i n = true) : vp_in i n := by
  unfold vpB at h
  rw [Bool.not_eq_true', decide_eq_false_iff_not] at h
  exact h
set_option maxRecDepth 100000 in
set_option maxHeartbeats 4000000 in
theorem vpB_in {i : Int32} {n : Nat} (h : vp_in i n) : vpB i n = true := by
  unfold vpB
  rw [Bool.not_eq_true', decide_eq_false_iff_not]
  exact h
def aRI (o : Option aC) (i : Int32) : Option Int32 := match o with
  | some (.inl (t, .inl ys)) => if t = 0 ∧ vpB i ys.length = true then some (ys.getD i.toNatClampNeg 0) else none
  | _ => none
def aRB (o : Option aC) (i : Int32) : Option Int32 := match o with
  | some (.inl (t, .inl ys)) => if (t = 1 ∨ t = 2) ∧ vpB i ys.length = true then some (ys.getD i.toNatClampNeg 0) else none
  | _ => none
def aRJ (o : Option aC) (i : Int32) : Option Int64 := match o with
  | some (.inl (t, .inr (.inl ys))) => if t = 3 ∧ vpB i ys.length = true then some (ys.getD i.toNatClampNeg 0) else none
  | _ => none
def aRR (o : Option aC) (i : Int32) : Option Nat := match o with
  | some (.inl (t, .inr (.inr ys))) => if t = 4 ∧ vpB i ys.length = true then ys.getD i.toNatClampNeg none else none
  | _ => none
def aWI (h : aH) (a : Nat) (i x : Int32) : Option aH := match h[a]? with
  | some (.inl (t, .inl ys)) => if t = 0 ∧ vpB i ys.length = true then some (h.set a (.inl (0, .inl (ys.set i.toNatClampNeg x)))) else none
  | _ => none
def aWB (h : aH) (a : Nat) (i x : Int32) : Option aH := match h[a]? with
  | some (.inl (t, .inl ys)) => if (t = 1 ∨ t = 2) ∧ vpB i ys.length = true then some (h.set a (.inl (t, .inl (ys.set i.toNatClampNeg (if t = 1 then vp_nar .byte x else vp_nar .boolean x))))) else none
  | _ => none
def aWJ (h : aH) (a : Nat) (i : Int32) (x : Int64) : Option aH := match h[a]? with
  | some (.inl (t, .inr (.inl ys))) => if t = 3 ∧ vpB i ys.length = true then some (h.set a (.inl (3, .inr (.inl (ys.set i.toNatClampNeg x))))) else none
  | _ => none
def aLn (o : Option aC) : Option Int32 := match o with
  | some (.inl (t, .inl ys)) => if t < 3 then some (nI ys.length) else none
  | some (.inl (t, .inr (.inl ys))) => if t = 3 then some (nI ys.length) else none
  | some (.inl (t, .inr (.inr ys))) => if t = 4 then some (nI ys.length) else none
  | _ => none
def oAl (X : Option (List Int32)) (st xs : List Value) (h : aH) (k : KO α) : Option α := match st with
  | .int i :: .ref a :: q => (aRI (xCl X h a) i).bind fun v => k xs h (.int v :: q)
  | _ => none
def oBl (st xs : List Value) (h : aH) (k : KO α) : Option α := match st with
  | .int i :: .ref a :: q => (aRB (h[a]?) i).bind fun v => k xs h (.int v :: q)
  | _ => none
def oJl (st xs : List Value) (h : aH) (k : KO α) : Option α := match st with
  | .int i :: .ref a :: q => (aRJ (h[a]?) i).bind fun v => k xs h (.long v :: q)
  | _ => none
def oRl (st xs : List Value) (h : aH) (k : KO α) : Option α := match st with
  | .int i :: .ref a :: q => (aRR (h[a]?) i).bind fun v => k xs h (.ref v :: q)
  | _ => none
def oIs (st xs : List Value) (h : aH) (k : KO α) : Option α := match st with
  | .int x :: .int i :: .ref a :: q => (aWI h a i x).bind fun h' => k xs h' q
  | _ => none
def oBs (st xs : List Value) (h : aH) (k : KO α) : Option α := match st with
  | .int x :: .int i :: .ref a :: q => (aWB h a i x).bind fun h' => k xs h' q
  | _ => none
def oJs (st xs : List Value) (h : aH) (k : KO α) : Option α := match st with
  | .long x :: .int i :: .ref a :: q => (aWJ h a i x).bind fun h' => k xs h' q
  | _ => none
def oNl (X : Option (List Int32)) (st xs : List Value) (h : aH) (k : KO α) : Option α := match st with
  | .ref a :: q => (aLn (xNl X h a)).bind fun v => k xs h (.int v :: q)
  | _ => none
def oRI (st : List Value) (h : aH) (rt : Option Value → aH → Option α) : Option α := match st with
  | [.int x] => rt (some (.int x)) h
  | _ => none
def oRJ (st : List Value) (h : aH) (rt : Option Value → aH → Option α) : Option α := match st with
  | [.long x] => rt (some (.long x)) h
  | _ => none
def oRV (st : List Value) (h : aH) (rt : Option Value → aH → Option α) : Option α := match st with
  | [] => rt none h
  | _ => none
def sto (X : Option (List Int32)) (i : Instr) (r : Nat × Nat × Nat) (xs : List Value) (h : aH) (st : List Value) (k j : KO α) (rt : Option Value → aH → Option α) : Option α := match i with
  | .iconst n => oK (.int (kI n)) xs h st k
  | .bipush n => oK (.int (kB n)) xs h st k
  | .sipush n => oK (.int (kS n)) xs h st k
  | .lconst n => oK (.long (kJ n)) xs h st k
  | .iload_n a => oLI (xs[fv a]?) xs h st k
  | .iload a => oLI (xs[a]?) xs h st k
  | .lload_n a => oLL (xs[fv a]?) xs h st k
  | .lload a => oLL (xs[a]?) xs h st k
  | .aload_n a => oLR (xs[fv a]?) xs h st k
  | .aload a => oLR (xs[a]?) xs h st k
  | .istore_n a => oSI (fv a) st xs h k
  | .istore a => oSI a st xs h k
  | .lstore_n a => oSL (fv a) st xs h k
  | .lstore a => oSL a st xs h k
  | .astore_n a => oSR (fv a) st xs h k
  | .astore a => oSR a st xs h k
  | .iinc a n => oIn (xs[a]?) a (kI n) xs h st k
  | .iadd => oI2 (fun x y => x + y) st xs h k
  | .isub => oI2 (fun x y => x - y) st xs h k
  | .imul => oI2 (fun x y => x * y) st xs h k
  | .iand => oI2 (fun x y => x &&& y) st xs h k
  | .ior => oI2 (fun x y => x ||| y) st xs h k
  | .ixor => oI2 (fun x y => x ^^^ y) st xs h k
  | .idiv => oD2 (fun x y => x / y) st xs h k
  | .irem => oD2 (fun x y => x - x / y * y) st xs h k
  | .ineg => oI1 (fun x => .int (-x)) st xs h k
  | .ishl => oI2 (fun x y => x <<< (y &&& 31)) st xs h k
  | .ishr => oI2 (fun x y => x >>> (y &&& 31)) st xs h k
  | .iushr => oI2 (fun x y => (x.toUInt32 >>> (y.toUInt32 &&& Int32.toUInt32 31)).toInt32) st xs h k
  | .ladd => oL2 (fun x y => .long (x + y)) st xs h k
  | .lmul => oL2 (fun x y => .long (x * y)) st xs h k
  | .ldiv => oLD (fun x y => x / y) st xs h k
  | .lrem => oLD (fun x y => x - x / y * y) st xs h k
  | .lcmp => oL2 (fun x y => .int (lg_cmp x y)) st xs h k
  | .i2l => oI1 (fun x => .long x.toInt64) st xs h k
  | .i2b => oI1 (fun x => .int x.toInt8.toInt32) st xs h k
  | .dup => oDu st xs h k
  | .dup2 => oDD st xs h k
  | .pop => oPo st xs h k
  | .goto _ => j xs h st
  | .ifCond .eq _ => oIf (fun x => x = 0) st xs h j k
  | .ifCond .ne _ => oIf (fun x => x = 0) st xs h k j
  | .ifCond .lt _ => oIf (fun x => x < 0) st xs h j k
  | .ifCond .ge _ => oIf (fun x => x < 0) st xs h k j
  | .ifCond .gt _ => oIf (fun x => 0 < x) st xs h j k
  | .ifCond .le _ => oIf (fun x => 0 < x) st xs h k j
  | .if_icmp .eq _ => oIc (fun x y => x = y) st xs h j k
  | .if_icmp .ne _ => oIc (fun x y => x = y) st xs h k j
  | .if_icmp .lt _ => oIc (fun x y => x < y) st xs h j k
  | .if_icmp .ge _ => oIc (fun x y => x < y) st xs h k j
  | .if_icmp .gt _ => oIc (fun x y => y < x) st xs h j k
  | .if_icmp .le _ => oIc (fun x y => y < x) st xs h k j
  | .getfield _ => oGF ((tgL.getD r.2.1 []).getD r.2.2 0) r.2.1 r.2.2 st xs h k
  | .putfield _ => oPF r.2.1 r.2.2 st xs h k
  | .iaload => oAl X st xs h k
  | .iastore => oIs st xs h k
  | .baload => oBl st xs h k
  | .bastore => oBs st xs h k
  | .laload => oJl st xs h k
  | .lastore => oJs st xs h k
  | .aaload => oRl st xs h k
  | .arraylength => oNl X st xs h k
  | .ireturn => oRI st h rt
  | .lreturn => oRJ st h rt
  | .return_ => oRV st h rt
  | _ => none
def isJ (i : Instr) : Bool := match i with
  | .goto _ => true
  | .ifCond _ _ => true
  | .if_icmp _ _ => true
  | _ => false
-- every store within the locals, every jump to tt
def ckT (n tt : Nat) (e : En) : Bool := match e.1 with
  | .istore_n a => decide (fv a < n)
  | .istore a => decide (a < n)
  | .lstore_n a => decide (fv a + 1 < n)
  | .lstore a => decide (a + 1 < n)
  | .astore_n a => decide (fv a < n)
  | .astore a => decide (a < n)
  | .iinc a _ => decide (a < n)
  | .goto _ => e.2.1 == tt
  | .ifCond _ _ => e.2.1 == tt
  | .if_icmp _ _ => e.2.1 == tt
  | _ => true
section
variable {M : Mt} {X : Option (List Int32)} {xs st : List Value} {h : aH} {k j kt kf : KO α} {rt : Option Value → aH → Option α} {z : α}
def KP (k : KO α) (z : α) : KT := fun xs h st => k xs h st = some z
set_option maxRecDepth 100000 in
set_option maxHeartbeats 4000000 in
theorem lLI {o : Option Value} (q : oLI o xs h st k = some z) : qLI o xs h st (KP k z) := by
  unfold oLI at q
  unfold qLI
  split at q
  · exact q
  · cases q
set_option maxRecDepth 100000 in
set_option maxHeartbeats 4000000 in
theorem lLL {o : Option Value} (q : oLL o xs h st k = some z) : qLL o xs h st (KP k z) := by
  unfold oLL at q
  unfold qLL
  split at q
  · exact q
  · cases q
set_option maxRecDepth 100000 in
set_option maxHeartbeats 4000000 in
theorem lLR {o : Option Value} (q : oLR o xs h st k = some z) : qLR o xs h st (KP k z) := by
  unfold oLR at q
  unfold qLR
  split at q
  · exact q
  · cases q
set_option maxRecDepth 100000 in
set_option maxHeartbeats 4000000 in
theorem lSI {n a : Nat} (ha : a < n) (q : oSI a st xs h k = some z) : qSI n a st xs h (KP k z) := by
  unfold oSI at q
  unfold qSI
  split at q
  · exact ⟨ha, q⟩
  · cases q
set_option maxRecDepth 100000 in
set_option maxHeartbeats 4000000 in
theorem lSR {n a : Nat} (ha : a < n) (q : oSR a st xs h k = some z) : qSR n a st xs h (KP k z) := by
  unfold oSR at q
  unfold qSR
  split at q
  · exact ⟨ha, q⟩
  · cases q
set_option maxRecDepth 100000 in
set_option maxHeartbeats 4000000 in
theorem lSL {n a : Nat} (ha : a + 1 < n) (q : oSL a st xs h k = some z) : qSL n a st xs h (KP k z) := by
  unfold oSL at q
  unfold qSL
  split at q
  · exact ⟨ha, q⟩
  · cases q
set_option maxRecDepth 100000 in
set_option maxHeartbeats 4000000 in
theorem lIn {o : Option Value} {n a : Nat} {c : Int32} (ha : a < n) (q : oIn o a c xs h st k = some z) : qIn o n a c xs h st (KP k z) := by
  unfold oIn at q
  unfold qIn
  split at q
  · exact ⟨ha, q⟩
  · cases q
set_option maxRecDepth 100000 in
set_option maxHeartbeats 4000000 in
theorem lI2 {f : Int32 → Int32 → Int32} (q : oI2 f st xs h k = some z) : qI2 f st xs h (KP k z) := by
  unfold oI2 at q
  unfold qI2
  split at q
  · exact q
  · cases q
set_option maxRecDepth 100000 in
set_option maxHeartbeats 4000000 in
theorem lL2 {f : Int64 → Int64 → Value} (q : oL2 f st xs h k = some z) : qL2 f st xs h (KP k z) := by
  unfold oL2 at q
  unfold qL2
  split at q
  · exact q
  · cases q
set_option maxRecDepth 100000 in
set_option maxHeartbeats 4000000 in
theorem lI1 {f : Int32 → Value} (q : oI1 f st xs h k = some z) : qI1 f st xs h (KP k z) := by
  unfold oI1 at q
  unfold qI1
  split at q
  · exact q
  · cases q
set_option maxRecDepth 100000 in
set_option maxHeartbeats 4000000 in
theorem lD2 {f : Int32 → Int32 → Int32} (q : oD2 f st xs h k = some z) : qD2 f st xs h (KP k z) := by
  unfold oD2 at q
  unfold qD2
  split at q
  · split at q
    · cases q
    · rename_i hy; exact ⟨hy, q⟩
  · cases q
set_option maxRecDepth 100000 in
set_option maxHeartbeats 4000000 in
theorem lLD {f : Int64 → Int64 → Int64} (q : oLD f st xs h k = some z) : qLD f st xs h (KP k z) := by
  unfold oLD at q
  unfold qLD
  split at q
  · split at q
    · cases q
    · rename_i hy; exact ⟨hy, q⟩
  · cases q
set_option maxRecDepth 100000 in
set_option maxHeartbeats 4000000 in
theorem lDu (q : oDu st xs h k = some z) : qDu st xs h (KP k z) := by
  unfold oDu at q
  split at q
  · exact ⟨rfl, q⟩
  · exact ⟨rfl, q⟩
  · cases q
set_option maxRecDepth 100000 in
set_option maxHeartbeats 4000000 in
theorem lDD (q : oDD st xs h k = some z) : qDD st xs h (KP k z) := by
  unfold oDD at q
  split at q
  · exact ⟨rfl, rfl, q⟩
  · exact ⟨rfl, rfl, q⟩
  · cases q
set_option maxRecDepth 100000 in
set_option maxHeartbeats 4000000 in
theorem lPo (q : oPo st xs h k = some z) : qPo st xs h (KP k z) := by
  unfold oPo at q
  split at q
  · exact ⟨rfl, q⟩
  · exact ⟨rfl, q⟩
  · cases q
set_option maxRecDepth 100000 in
set_option maxHeartbeats 4000000 in
theorem lIf {P : Int32 → Prop} [DecidablePred P] {A B : KT} (hA : ∀ xs h st, KP kt z xs h st → A xs h st) (hB : ∀ xs h st, KP kf z xs h st → B xs h st) (q : oIf P st xs h kt kf = some z) : qIf P st xs h A B := by
  unfold oIf at q
  split at q
  · refine ⟨fun c => ?_, fun c => ?_⟩
    · rw [if_pos c] at q; exact hA _ _ _ q
    · rw [if_neg c] at q; exact hB _ _ _ q
  · cases q
set_option maxRecDepth 100000 in
set_option maxHeartbeats 4000000 in
theorem lIc {P : Int32 → Int32 → Prop} [∀ x y, Decidable (P x y)] {A B : KT} (hA : ∀ xs h st, KP kt z xs h st → A xs h st) (hB : ∀ xs h st, KP kf z xs h st → B xs h st) (q : oIc P st xs h kt kf = some z) : qIc P st xs h A B := by
  unfold oIc at q
  split at q
  · refine ⟨fun c => ?_, fun c => ?_⟩
    · rw [if_pos c] at q; exact hA _ _ _ q
    · rw [if_neg c] at q; exact hB _ _ _ q
  · cases q
set_option maxRecDepth 100000 in
set_option maxHeartbeats 4000000 in
theorem bnd {β γ : Type} {o : Option β} {f : β → Option γ} {y : γ} (q : o.bind f = some y) : ∃ x, o = some x ∧ f x = some y := by
  cases o with
  | none => cases q
  | some x => exact ⟨x, rfl, q⟩
set_option maxRecDepth 100000 in
set_option maxHeartbeats 4000000 in
theorem gV_ok {ci a fk : Nat} {v : Value} (q : gV h ci a fk = some v) {qs : List Value} {K : KT} (hk : K xs h (v :: qs)) : qG1 (h[a]?) ci fk xs h qs K := by
  unfold gV at q
  split at q
  · rename_i c fs e
    rw [e]
    split at q
    · rename_i hc
      refine ⟨hc, ?_⟩
      rw [q]
      exact hk
    · cases q
  · cases q
set_option maxRecDepth 100000 in
set_option maxHeartbeats 4000000 in
theorem gFI_v {ci a fk : Nat} {v : Int32} (q : gFI h ci a fk = some v) : gV h ci a fk = some (.int v) := by
  unfold gFI at q
  split at q
  · rename_i e; cases q; exact e
  · cases q
set_option maxRecDepth 100000 in
set_option maxHeartbeats 4000000 in
theorem gFR_v {ci a fk : Nat} {v : Nat} (q : gFR h ci a fk = some v) : gV h ci a fk = some (.ref v) := by
  unfold gFR at q
  split at q
  · rename_i e; cases q; exact e
  · cases q
set_option maxRecDepth 100000 in
set_option maxHeartbeats 4000000 in
theorem gFJ_v {ci a fk : Nat} {v : Int64} (q : gFJ h ci a fk = some v) : gV h ci a fk = some (.long v) := by
  unfold gFJ at q
  split at q
  · rename_i e; cases q; exact e
  · cases q
set_option maxRecDepth 100000 in
set_option maxHeartbeats 4000000 in
theorem lGF {tg ci fk : Nat} (q : oGF tg ci fk st xs h k = some z) : qGF ci fk st xs h (KP k z) := by
  unfold oGF at q
  split at q
  · split at q
    · obtain ⟨v, h1, h2⟩ := bnd q
      exact gV_ok (gFI_v h1) h2
    · obtain ⟨v, h1, h2⟩ := bnd q
      exact gV_ok (gFR_v h1) h2
    · obtain ⟨v, h1, h2⟩ := bnd q
      exact gV_ok (gFJ_v h1) h2
  · cases q
set_option maxRecDepth 100000 in
set_option maxHeartbeats 4000000 in
theorem pWV_ok {ci a fk : Nat} {v : Value} {h' : aH} (q : pWV h ci a fk v = some h') {qs : List Value} {K : KT} (hk : K xs h' qs) : qP1 (h[a]?) a v ci fk xs h qs K := by
  unfold pWV at q
  split at q
  · rename_i c fs e
    rw [e]
    split at q
    · rename_i hc
      cases q
      exact ⟨hc.1, hc.2.1, pfB_ok hc.2.2, hk⟩
    · cases q
  · cases q
set_option maxRecDepth 100000 in
set_option maxHeartbeats 4000000 in
theorem lPF {ci fk : Nat} (q : oPF ci fk st xs h k = some z) : qPF ci fk st xs h (KP k z) := by
  unfold oPF at q
  split at q
  · obtain ⟨v, h1, h2⟩ := bnd q
    exact pWV_ok h1 h2
  · obtain ⟨v, h1, h2⟩ := bnd q
    exact pWV_ok h1 h2
  · obtain ⟨v, h1, h2⟩ := bnd q
    exact pWV_ok h1 h2
  · cases q
set_option maxRecDepth 100000 in
set_option maxHeartbeats 4000000 in
theorem lAl (q : oAl X st xs h k = some z) : qAl X st xs h (KP k z) := by
  unfold oAl at q
  split at q
  · rename_i i a qs
    obtain ⟨v, h1, h2⟩ := bnd q
    show qA1 _ i xs h qs (KP k z)
    unfold aRI at h1
    split at h1
    · rename_i e
      rw [e]
      split at h1
      · rename_i hc
        cases h1
        exact ⟨hc.1, vpB_ok hc.2, h2⟩
      · cases h1
    · cases h1
  · cases q
set_option maxRecDepth 100000 in
set_option maxHeartbeats 4000000 in
theorem lBl (q : oBl st xs h k = some z) : qBl st xs h (KP k z) := by
  unfold oBl at q
  split at q
  · rename_i i a qs
    obtain ⟨v, h1, h2⟩ := bnd q
    show qB1 _ i xs h qs (KP k z)
    unfold aRB at h1
    split at h1
    · rename_i e
      rw [e]
      split at h1
      · rename_i hc
        cases h1
        exact ⟨hc.1, vpB_ok hc.2, h2⟩
      · cases h1
    · cases h1
  · cases q
set_option maxRecDepth 100000 in
set_option maxHeartbeats 4000000 in
theorem lJl (q : oJl st xs h k = some z) : qJl st xs h (KP k z) := by
  unfold oJl at q
  split at q
  · rename_i i a qs
    obtain ⟨v, h1, h2⟩ := bnd q
    show qJ1 _ i xs h qs (KP k z)
    unfold aRJ at h1
    split at h1
    · rename_i e
      rw [e]
      split at h1
      · rename_i hc
        cases h1
        exact ⟨hc.1, vpB_ok hc.2, h2⟩
      · cases h1
    · cases h1
  · cases q
set_option maxRecDepth 100000 in
set_option maxHeartbeats 4000000 in
theorem lRl (q : oRl st xs h k = some z) : qRl st xs h (KP k z) := by
  unfold oRl at q
  split at q
  · rename_i i a qs
    obtain ⟨v, h1, h2⟩ := bnd q
    show qR1 _ i xs h qs (KP k z)
    unfold aRR at h1
    split at h1
    · rename_i e
      rw [e]
      split at h1
      · rename_i hc
        refine ⟨hc.1, vpB_ok hc.2, ?_⟩
        rw [h1]
        exact h2
      · cases h1
    · cases h1
  · cases q
set_option maxRecDepth 100000 in
set_option maxHeartbeats 4000000 in
theorem lNl (q : oNl X st xs h k = some z) : qNl X st xs h (KP k z) := by
  unfold oNl at q
  split at q
  · rename_i a qs
    obtain ⟨v, h1, h2⟩ := bnd q
    show qN1 _ xs h qs (KP k z)
    unfold aLn at h1
    split at h1
    · rename_i e
      rw [e]
      split at h1
      · rename_i hc
        cases h1
        exact ⟨hc, h2⟩
      · cases h1
    · rename_i e
      rw [e]
      split at h1
      · rename_i hc
        cases h1
        exact ⟨hc, h2⟩
      · cases h1
    · rename_i e
      rw [e]
      split at h1
      · rename_i hc
        cases h1
        exact ⟨hc, h2⟩
      · cases h1
    · cases h1
  · cases q
set_option maxRecDepth 100000 in
set_option maxHeartbeats 4000000 in
theorem lIs (q : oIs st xs h k = some z) : qIs st xs h (KP k z) := by
  unfold oIs at q
  split at q
  · rename_i x i a qs
    obtain ⟨v, h1, h2⟩ := bnd q
    show qIs1 _ a i x xs h qs (KP k z)
    unfold aWI at h1
    split at h1
    · rename_i e
      rw [e]
      split at h1
      · rename_i hc
        cases h1
        exact ⟨hc.1, vpB_ok hc.2, h2⟩
      · cases h1
    · cases h1
  · cases q
set_option maxRecDepth 100000 in
set_option maxHeartbeats 4000000 in
theorem lBs (q : oBs st xs h k = some z) : qBs st xs h (KP k z) := by
  unfold oBs at q
  split at q
  · rename_i x i a qs
    obtain ⟨v, h1, h2⟩ := bnd q
    show qBs1 _ a i x xs h qs (KP k z)
    unfold aWB at h1
    split at h1
    · rename_i e
      rw [e]
      split at h1
      · rename_i hc
        cases h1
        exact ⟨hc.1, vpB_ok hc.2, h2⟩
      · cases h1
    · cases h1
  · cases q
set_option maxRecDepth 100000 in
set_option maxHeartbeats 4000000 in
theorem lJs (q : oJs st xs h k = some z) : qJs st xs h (KP k z) := by
  unfold oJs at q
  split at q
  · rename_i x i a qs
    obtain ⟨v, h1, h2⟩ := bnd q
    show qJs1 _ a i x xs h qs (KP k z)
    unfold aWJ at h1
    split at h1
    · rename_i e
      rw [e]
      split at h1
      · rename_i hc
        cases h1
        exact ⟨hc.1, vpB_ok hc.2, h2⟩
      · cases h1
    · cases h1
  · cases q
set_option maxRecDepth 100000 in
set_option maxHeartbeats 4000000 in
theorem lRI (q : oRI st h rt = some z) : qRI st h (fun v h => rt v h = some z) := by
  unfold oRI at q
  split at q
  · exact q
  · cases q
set_option maxRecDepth 100000 in
set_option maxHeartbeats 4000000 in
theorem lRJ (q : oRJ st h rt = some z) : qRJ st h (fun v h => rt v h = some z) := by
  unfold oRJ at q
  split at q
  · exact q
  · cases q
set_option maxRecDepth 100000 in
set_option maxHeartbeats 4000000 in
theorem lRV (q : oRV st h rt = some z) : qRV st h (fun v h => rt v h = some z) := by
  unfold oRV at q
  split at q
  · exact q
  · cases q
set_option maxRecDepth 100000 in
set_option maxHeartbeats 4000000 in
theorem sto_ok {i : Instr} {r : Nat × Nat × Nat} (hc : ckT M.2.2.2.1 r.1 (i, r) = true) (q : sto X i r xs h st k j rt = some z) : stq M X i r xs h st (KP k z) (fun t xs h st => t = r.1 ∧ isJ i = true ∧ KP j z xs h st) (fun v h => rt v h = some z) := by
  cases i with
  | iconst n => exact q
  | bipush n => exact q
  | sipush n => exact q
  | lconst n => exact q
  | iload_n a => exact lLI q
  | iload a => exact lLI q
  | lload_n a => exact lLL q
  | lload a => exact lLL q
  | aload_n a => exact lLR q
  | aload a => exact lLR q
  | istore_n a => exact lSI (of_decide_eq_true hc) q
  | istore a => exact lSI (of_decide_eq_true hc) q
  | lstore_n a => exact lSL (of_decide_eq_true hc) q
  | lstore a => exact lSL (of_decide_eq_true hc) q
  | astore_n a => exact lSR (of_decide_eq_true hc) q
  | astore a => exact lSR (of_decide_eq_true hc) q
  | iinc a n => exact lIn (of_decide_eq_true hc) q
  | iadd => exact lI2 q
  | isub => exact lI2 q
  | imul => exact lI2 q
  | iand => exact lI2 q
  | ior => exact lI2 q
  | ixor => exact lI2 q
  | idiv => exact lD2 q
  | irem => exact lD2 q
  | ineg => exact lI1 q
  | ishl => exact lI2 q
  | ishr => exact lI2 q
  | iushr => exact lI2 q
  | ladd => exact lL2 q
  | lmul => exact lL2 q
  | ldiv => exact lLD q
  | lrem => exact lLD q
  | lcmp => exact lL2 q
  | i2l => exact lI1 q
  | i2b => exact lI1 q
  | dup => exact lDu q
  | dup2 => exact lDD q
  | pop => exact lPo q
  | goto ix => exact ⟨rfl, rfl, q⟩
  | getfield ix => exact lGF q
  | putfield ix => exact lPF q
  | iaload => exact lAl q
  | iastore => exact lIs q
  | baload => exact lBl q
  | bastore => exact lBs q
  | laload => exact lJl q
  | lastore => exact lJs q
  | aaload => exact lRl q
  | arraylength => exact lNl q
  | ireturn => exact lRI q
  | lreturn => exact lRJ q
  | return_ => exact lRV q
  | ifCond c ix =>
    cases c with
    | eq => exact lIf (A := fun xs h st => r.1 = r.1 ∧ isJ (.ifCond .eq ix) = true ∧ KP j z xs h st) (B := KP k z) (fun _ _ _ z => ⟨rfl, rfl, z⟩) (fun _ _ _ z => z) q
    | ne => exact lIf (A := KP k z) (B := fun xs h st => r.1 = r.1 ∧ isJ (.ifCond .ne ix) = true ∧ KP j z xs h st) (fun _ _ _ z => z) (fun _ _ _ z => ⟨rfl, rfl, z⟩) q
    | lt => exact lIf (A := fun xs h st => r.1 = r.1 ∧ isJ (.ifCond .lt ix) = true ∧ KP j z xs h st) (B := KP k z) (fun _ _ _ z => ⟨rfl, rfl, z⟩) (fun _ _ _ z => z) q
    | ge => exact lIf (A := KP k z) (B := fun xs h st => r.1 = r.1 ∧ isJ (.ifCond .ge ix) = true ∧ KP j z xs h st) (fun _ _ _ z => z) (fun _ _ _ z => ⟨rfl, rfl, z⟩) q
    | gt => exact lIf (A := fun xs h st => r.1 = r.1 ∧ isJ (.ifCond .gt ix) = true ∧ KP j z xs h st) (B := KP k z) (fun _ _ _ z => ⟨rfl, rfl, z⟩) (fun _ _ _ z => z) q
    | le => exact lIf (A := KP k z) (B := fun xs h st => r.1 = r.1 ∧ isJ (.ifCond .le ix) = true ∧ KP j z xs h st) (fun _ _ _ z => z) (fun _ _ _ z => ⟨rfl, rfl, z⟩) q
  | if_icmp c ix =>
    cases c with
    | eq => exact lIc (A := fun xs h st => r.1 = r.1 ∧ isJ (.if_icmp .eq ix) = true ∧ KP j z xs h st) (B := KP k z) (fun _ _ _ z => ⟨rfl, rfl, z⟩) (fun _ _ _ z => z) q
    | ne => exact lIc (A := KP k z) (B := fun xs h st => r.1 = r.1 ∧ isJ (.if_icmp .ne ix) = true ∧ KP j z xs h st) (fun _ _ _ z => z) (fun _ _ _ z => ⟨rfl, rfl, z⟩) q
    | lt => exact lIc (A := fun xs h st => r.1 = r.1 ∧ isJ (.if_icmp .lt ix) = true ∧ KP j z xs h st) (B := KP k z) (fun _ _ _ z => ⟨rfl, rfl, z⟩) (fun _ _ _ z => z) q
    | ge => exact lIc (A := KP k z) (B := fun xs h st => r.1 = r.1 ∧ isJ (.if_icmp .ge ix) = true ∧ KP j z xs h st) (fun _ _ _ z => z) (fun _ _ _ z => ⟨rfl, rfl, z⟩) q
    | gt => exact lIc (A := fun xs h st => r.1 = r.1 ∧ isJ (.if_icmp .gt ix) = true ∧ KP j z xs h st) (B := KP k z) (fun _ _ _ z => ⟨rfl, rfl, z⟩) (fun _ _ _ z => z) q
    | le => exact lIc (A := KP k z) (B := fun xs h st => r.1 = r.1 ∧ isJ (.if_icmp .le ix) = true ∧ KP j z xs h st) (fun _ _ _ z => z) (fun _ _ _ z => ⟨rfl, rfl, z⟩) q
  | _ => cases q
end
def go (X : Option (List Int32)) : List En → KO α → KO α → (Option Value → aH → Option α) → KO α
  | [], kN, _, _ => kN
  | e :: tl, kN, kT, kR => fun xs h st => sto X e.1 e.2 xs h st (go X tl kN kT kR) kT kR
set_option maxRecDepth 100000 in
set_option maxHeartbeats 4000000 in
theorem go_ok {d : Nat} {X : Option (List Int32)} {M : Mt} {b : Nat × Nat} {Q : Option Value → aH → Prop} {z : α} {kN kT : KO α} {kR : Option Value → aH → Option α} {tt : Nat} {np : Nat}
    (hN : ∀ xs h st, kN xs h st = some z → Ev d X M b np xs st h Q) (hT : ∀ xs h st, kT xs h st = some z → Ev d X M b tt xs st h Q) (hR : ∀ v h, kR v h = some z → Q v h) :
    ∀ {blk : List En} {pc : Nat} {xs st : List Value} {h : aH}, (blk.all (fun e => !isF e.1) = true ∨ cN M.1 = M.2.1.cls) → okB M pc np blk = true → blk.all (ckT M.2.2.2.1 tt) = true → go X blk kN kT kR xs h st = some z → Ev d X M b pc xs st h Q := by
  intro blk
  induction blk with
  | nil =>
    intro pc xs st h _ h1 _ h2
    have e : pc = np := by simpa [okB] using h1
    rw [e]
    exact hN _ _ _ h2
  | cons e tl ih =>
    intro pc xs st h hF h1 h3 h2
    have hF1 : isF e.1 = true → cN M.1 = M.2.1.cls := by
      intro z
      rcases hF with hF | hF
      · rw [List.all_cons, Bool.and_eq_true, z] at hF; cases hF.1
      · exact hF
    have hF2 : tl.all (fun e => !isF e.1) = true ∨ cN M.1 = M.2.1.cls := by
      rcases hF with hF | hF
      · rw [List.all_cons, Bool.and_eq_true] at hF; exact Or.inl hF.2
      · exact Or.inr hF
    unfold okB at h1
    simp only [Bool.and_eq_true, decide_eq_true_eq] at h1
    rw [List.all_cons, Bool.and_eq_true] at h3
    have hs : ckT M.2.2.2.1 e.2.1 (e.1, e.2) = true := by
      have := h3.1
      revert this
      unfold ckT
      cases e.1 <;> intro z <;> first | exact z | exact beq_self_eq_true _
    refine stp_ok hF1 h1.1 h1.2.1 (stq_stp (sto_ok hs h2)) (fun xs' st' h' q => ih hF2 h1.2.2 h3.2 q) (fun t xs' st' h' q => ?_) (fun v h' q => hR v h' q)
    obtain ⟨rfl, qj, q2⟩ := q
    have q3 : kT xs' h' st' = some z := q2
    have ht : e.2.1 = tt := by
      have h4 := h3.1
      unfold ckT at h4
      revert h4 qj
      cases e.1 <;> intro qj h4 <;> first | exact eq_of_beq h4 | cases qj
    rw [ht]
    exact hT _ _ _ q3
-- typed locals and stack
def Ty : Nat → Type
  | 1 => Int32
  | 2 => Nat
  | 3 => Int64
  | _ => Unit
def Fn (β : Type) : List Nat → Type
  | [] => β
  | 0 :: ts => Fn β ts
  | (n + 1) :: ts => Ty (n + 1) → Fn β ts
def app {β : Type} : (sh : List Nat) → Fn (Option β) sh → List Value → Option β
  | [], f, _ => f
  | 0 :: ts, f, _ :: xs => app ts f xs
  | 1 :: ts, f, .int v :: xs => app ts (f v) xs
  | 2 :: ts, f, .ref v :: xs => app ts (f v) xs
  | 3 :: ts, f, .long v :: xs => app ts (f v) xs
  | _, _, _ => none
def Hyp {β : Type} (z : β) : (sh : List Nat) → Fn (Option β) sh → (List Value → Prop) → Prop
  | [], f, P => f = some z → P []
  | 0 :: ts, f, P => Hyp z ts f (fun l => P (.null :: l))
  | 1 :: ts, f, P => ∀ v : Int32, Hyp z ts (f v) (fun l => P (.int v :: l))
  | 2 :: ts, f, P => ∀ v : Nat, Hyp z ts (f v) (fun l => P (.ref v :: l))
  | 3 :: ts, f, P => ∀ v : Int64, Hyp z ts (f v) (fun l => P (.long v :: l))
  | (_ + 4) :: _, _, _ => True
def les : List Value → List Value → Prop
  | [], _ => True
  | v :: xs, w :: ys => (v = .null ∨ v = w) ∧ les xs ys
  | _ :: _, [] => False
set_option maxRecDepth 100000 in
set_option maxHeartbeats 4000000 in
theorem les_at : ∀ {xs ys : List Value}, les xs ys → ∀ (i : Nat) (v : Value), xs[i]? = some v → v = .null ∨ ys[i]? = some v := by
  intro xs
  induction xs with
  | nil => intro ys _ i v h; simp at h
  | cons w xs ih =>
    intro ys h i v hv
    cases ys with
    | nil => exact h.elim
    | cons z ys =>
      cases i with
      | zero =>
        have e : w = v := by simpa using hv
        subst e
        rcases h.1 with h1 | h1
        · exact Or.inl h1
        · exact Or.inr (by rw [h1]; rfl)
      | succ i => exact ih h.2 i v (by simpa using hv)
set_option maxRecDepth 100000 in
set_option maxHeartbeats 4000000 in
theorem app_ok {β : Type} {z : β} : ∀ (sh : List Nat) (f : Fn (Option β) sh) (P : List Value → Prop) (xs : List Value), Hyp z sh f P → app sh f xs = some z → ∃ l, P l ∧ les l xs := by
  intro sh
  induction sh with
  | nil => intro f P xs hy ha; exact ⟨[], hy ha, trivial⟩
  | cons t ts ih =>
    intro f P xs hy ha
    match t, xs, f, hy, ha with
    | 0, _ :: xs, f, hy, ha =>
      obtain ⟨l, h1, h2⟩ := ih f _ xs hy ha
      exact ⟨.null :: l, h1, Or.inl rfl, h2⟩
    | 1, .int v :: xs, f, hy, ha =>
      obtain ⟨l, h1, h2⟩ := ih (f v) _ xs (hy v) ha
      exact ⟨.int v :: l, h1, Or.inr rfl, h2⟩
    | 2, .ref v :: xs, f, hy, ha =>
      obtain ⟨l, h1, h2⟩ := ih (f v) _ xs (hy v) ha
      exact ⟨.ref v :: l, h1, Or.inr rfl, h2⟩
    | 3, .long v :: xs, f, hy, ha =>
      obtain ⟨l, h1, h2⟩ := ih (f v) _ xs (hy v) ha
      exact ⟨.long v :: l, h1, Or.inr rfl, h2⟩
-- the stack: just so
def apS {β : Type} : (sh : List Nat) → Fn (Option β) sh → List Value → Option β
  | [], f, [] => f
  | 1 :: ts, f, .int v :: xs => apS ts (f v) xs
  | 2 :: ts, f, .ref v :: xs => apS ts (f v) xs
  | 3 :: ts, f, .long v :: xs => apS ts (f v) xs
  | _, _, _ => none
set_option maxRecDepth 100000 in
set_option maxHeartbeats 4000000 in
theorem apS_ok {β : Type} {z : β} : ∀ (sh : List Nat) (f : Fn (Option β) sh) (P : List Value → Prop) (xs : List Value), Hyp z sh f P → apS sh f xs = some z → P xs := by
  intro sh
  induction sh with
  | nil =>
    intro f P xs hy ha
    cases xs with
    | nil => exact hy ha
    | cons v xs => cases ha
  | cons t ts ih =>
    intro f P xs hy ha
    match t, xs, f, hy, ha with
    | 1, .int v :: xs, f, hy, ha => exact ih (f v) (fun l => P (.int v :: l)) xs (hy v) ha
    | 2, .ref v :: xs, f, hy, ha => exact ih (f v) (fun l => P (.ref v :: l)) xs (hy v) ha
    | 3, .long v :: xs, f, hy, ha => exact ih (f v) (fun l => P (.long v :: l)) xs (hy v) ha
set_option maxRecDepth 100000 in
set_option maxHeartbeats 4000000 in
theorem jm {d : Nat} {X : Option (List Int32)} {M : Mt} {b : Nat × Nat} {Q : Option Value → aH → Prop} {t : Nat} {st xs : List Value} {h : aH} {z : α} (sh : List Nat) (f : Fn (Option α) sh) (hy : Hyp z sh f (fun l => Ev d X M b t l st h Q)) (ha : app sh f xs = some z) : Ev d X M b t xs st h Q := by
  obtain ⟨l, h1, h2⟩ := app_ok sh f _ xs hy ha
  exact ev_les (les_at h2) h1
-- what a method gives back
def kRI (v : Option Value) (h : aH) : Option (Int32 × aH) := match v with
  | some (.int x) => some (x, h)
  | _ => none
def kRZ (v : Option Value) (h : aH) : Option (Int32 × aH) := match v with
  | some (.int x) => if x = 0 ∨ x = 1 then some (x, h) else none
  | _ => none
def kRJ (v : Option Value) (h : aH) : Option (Int64 × aH) := match v with
  | some (.long x) => some (x, h)
  | _ => none
def kRV (v : Option Value) (h : aH) : Option aH := match v with
  | none => some h
  | _ => none
def QI (z : Int32 × aH) (v : Option Value) (h : aH) : Prop := v = some (.int z.1) ∧ h = z.2
def QZ (z : Int32 × aH) (v : Option Value) (h : aH) : Prop := (z.1 = 0 ∨ z.1 = 1) ∧ v = some (.int z.1) ∧ h = z.2
def QJ (z : Int64 × aH) (v : Option Value) (h : aH) : Prop := v = some (.long z.1) ∧ h = z.2
def QV (z : aH) (v : Option Value) (h : aH) : Prop := v = none ∧ h = z
set_option maxRecDepth 100000 in
set_option maxHeartbeats 4000000 in
theorem kRI_ok {z : Int32 × aH} (v : Option Value) (h : aH) (q : kRI v h = some z) : QI z v h := by
  unfold kRI at q
  split at q
  · cases q; exact ⟨rfl, rfl⟩
  · cases q
set_option maxRecDepth 100000 in
set_option maxHeartbeats 4000000 in
theorem kRZ_ok {z : Int32 × aH} (v : Option Value) (h : aH) (q : kRZ v h = some z) : QZ z v h := by
  unfold kRZ at q
  split at q
  · split at q
    · rename_i hx; cases q; exact ⟨hx, rfl, rfl⟩
    · cases q
  · cases q
set_option maxRecDepth 100000 in
set_option maxHeartbeats 4000000 in
theorem kRJ_ok {z : Int64 × aH} (v : Option Value) (h : aH) (q : kRJ v h = some z) : QJ z v h := by
  unfold kRJ at q
  split at q
  · cases q; exact ⟨rfl, rfl⟩
  · cases q
set_option maxRecDepth 100000 in
set_option maxHeartbeats 4000000 in
theorem kRV_ok {z : aH} (v : Option Value) (h : aH) (q : kRV v h = some z) : QV z v h := by
  unfold kRV at q
  split at q
  · cases q; exact ⟨rfl, rfl⟩
  · cases q
set_option maxRecDepth 100000 in
set_option maxHeartbeats 4000000 in
theorem QI_r {z : Int32 × aH} (v : Option Value) (h : aH) (q : QI z v h) : rOK (some .int) v := by rw [q.1]; exact rI
set_option maxRecDepth 100000 in
set_option maxHeartbeats 4000000 in
theorem QZ_r {z : Int32 × aH} (v : Option Value) (h : aH) (q : QZ z v h) : rOK (some .boolean) v := by
  rw [q.2.1]
  rcases q.1 with e | e <;> (rw [e]; exact ⟨.boolean, rfl, rfl⟩)
set_option maxRecDepth 100000 in
set_option maxHeartbeats 4000000 in
theorem QJ_r {z : Int64 × aH} (v : Option Value) (h : aH) (q : QJ z v h) : rOK (some .long) v := by rw [q.1]; rfl
set_option maxRecDepth 100000 in
set_option maxHeartbeats 4000000 in
theorem QV_r {z : aH} (v : Option Value) (h : aH) (q : QV z v h) : rOK none v := by rw [q.1]; rfl
def isO (h : aH) (c a : Nat) : Option Unit := match h[a]? with
  | some (.inr (c', _)) => if c' = c then some () else none
  | _ => none
set_option maxRecDepth 100000 in
set_option maxHeartbeats 4000000 in
theorem isO_ok {h : aH} {c a : Nat} {u : Unit} (q : isO h c a = some u) : ∃ fs, h[a]? = some (.inr (c, fs)) := by
  unfold isO at q
  split at q
  · rename_i c' fs e
    split at q
    · rename_i hc; rw [e, hc]; exact ⟨fs, rfl⟩
    · cases q
  · cases q
-- a whole int row over another
def aCp (h : aH) (a0 : Nat) (i0 : Int32) (a1 : Nat) (i1 n : Int32) : Option aH := match h[a0]?, h[a1]? with
  | some (.inl (t0, .inl ys)), some (.inl (t1, .inl zs)) => if t0 = 0 ∧ t1 = 0 ∧ i0 = 0 ∧ i1 = 0 ∧ n = nI ys.length ∧ zs.length = ys.length ∧ ys.length < 1000 then some (h.set a1 (.inl (0, .inl ys))) else none
  | _, _ => none
set_option maxRecDepth 100000 in
set_option maxHeartbeats 4000000 in
theorem aCp_ok {h h' : aH} {a0 a1 : Nat} {i0 i1 n : Int32} (q : aCp h a0 i0 a1 i1 n = some h') : ∃ ys zs : List Int32, h[a0]? = some (.inl (0, .inl ys)) ∧ h[a1]? = some (.inl (0, .inl zs)) ∧ i0 = 0 ∧ i1 = 0 ∧ n = nI ys.length ∧ zs.length = ys.length ∧ ys.length < 1000 ∧ h' = h.set a1 (.inl (0, .inl ys)) := by
  unfold aCp at q
  split at q
  · rename_i t0 ys t1 zs e0 e1
    split at q
    · rename_i hc
      cases q
      obtain ⟨h0, h1, h2, h3, h4, h5, h6⟩ := hc
      exact ⟨ys, zs, by rw [e0, h0], by rw [e1, h1], h2, h3, h4, h5, h6, rfl⟩
    · cases q
  · cases q
set_option maxRecDepth 100000 in
set_option maxHeartbeats 4000000 in
theorem FU_ex : ∃ n : Nat, n = 40000 := ⟨40000, rfl⟩
noncomputable def FU : Nat := Classical.choose FU_ex
set_option maxRecDepth 100000 in
set_option maxHeartbeats 4000000 in
theorem FU_eq : FU = 40000 := Classical.choose_spec FU_ex
set_option maxRecDepth 100000 in
set_option maxHeartbeats 4000000 in
theorem nos {β : Type} {P : Prop} {z : β} (q : (none : Option β) = some z) : P := by cases q
set_option maxRecDepth 100000 in
set_option maxHeartbeats 4000000 in
theorem ts_out {lo hi : Int} {x : Int32} (h : ∀ n : Int, lo ≤ n → n ≤ hi → x = kI n → False) : x.toInt < lo ∨ hi < x.toInt := by
  by_cases h1 : x.toInt < lo
  · exact Or.inl h1
  · by_cases h2 : hi < x.toInt
    · exact Or.inr h2
    · exact (h x.toInt (by omega) (by omega) (by unfold kI; exact (Int32.ofInt_toInt x).symm)).elim
set_option maxRecDepth 100000 in
set_option maxHeartbeats 4000000 in
theorem kI_ne {x : Int32} {a : Int} (h : ¬ x = kI a) : ¬ x.toInt = a := fun z => h (by rw [← z]; exact (Int32.ofInt_toInt x).symm)
set_option maxRecDepth 100000 in
set_option maxHeartbeats 4000000 in
theorem ls_out2 (x : Int32) {a b oa ob dd : Int} (ha : ¬ x = kI a) (hb : ¬ x = kI b) : Op.lookupswitch.offset [(a, oa), (b, ob)] dd x.toInt = dd := by
  have h1 := kI_ne ha
  have h2 := kI_ne hb
  simp [Op.lookupswitch.offset, h1, h2, Ne.symm h1, Ne.symm h2]
end FUN
