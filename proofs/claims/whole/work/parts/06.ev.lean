/-! THE JUDGEMENT OF THE ABSTRACT MACHINE: Ev d X M b pc xs st h Q: from place pc of the method M, with these locals, this stack, this heap (all abstract), the machine comes to M's return with an answer and a heap of which Q holds -/
def SB : Nat := 1000000
def XB : Nat := 2000000
def VB : Nat := 1500000
def QB : Nat := 1900000
def tyL (dA : Nat → ClassId) : List (ClassId × FieldType) := [(dA 0, .int), (dA 1, .byte), (dA 2, .boolean), (dA 3, .long), (dA 4, .object RX7)]
/-- a String constant: its class, an empty coder, its bytes -/
def sS (len : Nat) (byt : List Int32) (a v : Nat) (A : Nat → Prop) (U : State) (H : Heap) : Prop :=
  va_O "java/lang/String" a A U H ∧ va_OF "java/lang/String" "code\x72" "B" (.int 0) a A U H ∧ va_OF "java/lang/String" "value" "[B" (.ref v) a A U H ∧ va_T .byte v len (fun j => .int (byt.getD j 0)) A U H
theorem sS.moved {len : Nat} {byt : List Int32} {a v : Nat} {A : Nat → Prop} {u U : State} {H : Heap} (hvm : u.vm.Alike U.vm) (h : sS len byt a v A u H) : sS len byt a v A U H := ⟨va_O.moved hvm h.1, va_OF.moved hvm h.2.1, va_OF.moved hvm h.2.2.1, va_T.moved hvm h.2.2.2⟩
theorem sS.kept {len : Nat} {byt : List Int32} {a v : Nat} {A : Nat → Prop} {U : State} {H H1 : Heap} (h : sS len byt a v A U H) (hq : ∀ a : Nat, a < H.size → ¬ A a → H1[a]? = H[a]?) : sS len byt a v A U H1 := ⟨h.1.kept hq, h.2.1.kept hq, h.2.2.1.kept hq, h.2.2.2.kept hq⟩
theorem sS.narrow {len : Nat} {byt : List Int32} {a v : Nat} {A B : Nat → Prop} {U : State} {H : Heap} (h : sS len byt a v A U H) (hAB : ∀ q, B q → A q) : sS len byt a v B U H := ⟨h.1.narrow hAB, h.2.1.narrow hAB, h.2.2.1.narrow hAB, h.2.2.2.narrow hAB⟩
/-- what lies outside the abstract heap: links of nest mates, String constants (the i-th of sT is SB + i), two statics, the class of rows of Plights -/
def XF (ad : Nat → Nat) (A : Nat → Prop) (U : State) : Prop :=
  (∀ e ∈ nT, ∀ M : Mt, MT[e.2.2.1]? = some M → va_Nw (.methodLinkNest (cN e.1) e.2.1 M.2.1 "LeanTable") U) ∧
  (∀ (i : Nat) (e : Nat × Nat × Nat × Nat), sT[i]? = some e → vk_R (cN e.1) e.2.1 (sTx.getD e.2.2.1 "") (ad (SB + i)) U ∧ sS (sLen.getD e.2.2.1 0) (sByt.getD e.2.2.1 []) (ad (SB + i)) (ad (VB + i)) A U U.heap) ∧
  va_Z "java/lang/String" "COMPACT_STRINGS" "Z" (.int 1) A U U.heap ∧
  (va_Z "jdk/internal/util/Preconditions" "SIOOBE_FORMATTER" "Ljava/util/function/BiFunction;" .null A U U.heap ∨ va_Z "jdk/internal/util/Preconditions" "SIOOBE_FORMATTER" "Ljava/util/function/BiFunction;" (.ref (ad QB)) A U U.heap) ∧ va_AO RX7 U ∧ XE A U
theorem XF.call {ad ad' : Nat → Nat} {A B : Nat → Prop} {s U : State} {locs : List Loc} (h : XF ad A s) (hW : s.WarmedH U.vm) (hS : va_S A s.heap U.heap locs) (hB : ∀ q, B q → A q) (had : ∀ k, SB ≤ k → ad' k = ad k) : XF ad' B U := by
  obtain ⟨h1, h3, h4, h5, h6, h7⟩ := h
  refine ⟨fun x hx M hM => (h1 x hx M hM).warmM hW, fun i e he => ?_, ?_, ?_, h6.moved hW.alike, h7.call hW hS hB⟩
  · rw [had _ (Nat.le_add_right _ _), had (VB + i) (by unfold SB VB; omega)]
    exact ⟨(h3 i e he).1.warm hW, (((h3 i e he).2.kept hS.2.1).narrow hB).moved hW.alike⟩
  · exact ((h4.kept hS.2.1).narrow hB).moved hW.alike
  · rw [had QB (by unfold SB QB; omega)]
    rcases h5 with h5 | h5
    · exact Or.inl (((h5.kept hS.2.1).narrow hB).moved hW.alike)
    · exact Or.inr (((h5.kept hS.2.1).narrow hB).moved hW.alike)
theorem XF.same {ad : Nat → Nat} {A : Nat → Prop} {u U : State} (hv : U.vm = u.vm) (hh : U.heap = u.heap) (h : XF ad A u) : XF ad A U := by
  obtain ⟨h1, h3, h4, h5, h6, h7⟩ := h
  have al : u.vm.Alike U.vm := by rw [hv]; exact Vm.Alike.refl _
  refine ⟨fun x hx M hM => (h1 x hx M hM).same rfl hv.symm, fun i e he => ?_, ?_, ?_, h6.moved al, h7.same hv hh⟩
  · rw [hh]; exact ⟨(h3 i e he).1.same hv, (h3 i e he).2.moved al⟩
  · rw [hh]; exact h4.moved al
  · rw [hh]
    rcases h5 with h5 | h5
    · exact Or.inl (h5.moved al)
    · exact Or.inr (h5.moved al)
/-- what holds of a frame as long as it lives -/
def FC (d : Nat) (X : Option (List Int32)) (M : Mt) (p : Program) (R : Room) (s : State) (m : MethodId) (args : Array Value) (meth : Method) (c : Code) (D : va_G) (dA : Nat → ClassId) (A : Nat → Prop) (mc ms : Nat) (ad0 : Nat → Nat) : Prop :=
  p.tables.exec = Jvm.exec ∧ c.code = M.2.2.1 ∧ c.maxLocals = M.2.2.2.1 ∧ s.vm.findClass M.2.1.cls = some m.cls ∧ (∀ w ∈ gtbl, w.before args s = true) ∧ (∀ q : Nat, s.heap.size ≤ q → A q) ∧ va_K D vwCl (tyL dA) s ∧ XF ad0 A s ∧ d ≤ R.frames ∧ 40 * d ≤ R.locals ∧ mc ≤ R.cells ∧ ms ≤ R.slots ∧ (M.2.1.name = "<init>" → meth.name = "<init>") ∧
  (∀ ys : List Int32, X = some ys → va_X (ad0 XB) ys.length (fun j => ys.getD j 0) s s.heap ∧ ad0 XB < s.heap.size ∧ ¬ A (ad0 XB))
/-- addresses: what was made before stays where it was -/
def Ag (ad0 : Nat → Nat) (n0 mc : Nat) (ad : Nat → Nat) (n : Nat) : Prop := (∀ k, k < n0 ∨ SB ≤ k → ad k = ad0 k) ∧ (mc = 0 → ad = ad0) ∧ n0 ≤ n
/-- what changes as the frame goes on -/
def Sx (s : State) (D : va_G) (dA : Nat → ClassId) (A : Nat → Prop) (mc ms : Nat) (ad0 : Nat → Nat) (n0 nL : Nat) (ad : Nat → Nat) (H : Heap) (locs : List Loc) (cells slots : Nat) (ls : Array Slot) (b : Nat × Nat) (xs : List Value) (h : aH) : Prop :=
  cells + b.1 ≤ mc ∧ slots + b.2 ≤ ms ∧ Ag ad0 n0 mc ad h.length ∧ va_P D vwCl (wld dA ad h) H ∧ va_D A (wld dA ad h) ∧ va_S A s.heap H locs ∧ lvx ls nL (xs.map (rv ad))
def retI (r : Option Value) : Instr := match r with
  | none => .return_
  | some (.long _) => .lreturn
  | some _ => .ireturn
def RC (M : Mt) (Q : Option Value → aH → Prop) (p : Program) (l : Launch) (e : Env) (R : Room) (s : State) (m : MethodId) (args : Array Value) (below : List Frame) (meth : Method) (c : Code) (D : va_G) (dA : Nat → ClassId) (A : Nat → Prop) (mc ms : Nat) (ad0 : Nat → Nat) (n0 : Nat) (Z : State → Prop) : Prop :=
  (∀ (r : Option Value) (h : aH) (ad : Nat → Nat) (H : Heap) (locs : List Loc) (cells slots : Nat) (ls : Array Slot) (xs : List Value) (pc : Nat), Q r h → (∃ b, Sx s D dA A mc ms ad0 n0 M.2.2.2.1 ad H locs cells slots ls b xs h) → ((∃ x, r = some (.int x)) ∨ (∃ x, r = some (.long x)) ∨ r = none) → decode M.2.2.1 pc = .ok (retI r, 1) →
    W p l e R s m args below meth c H locs cells slots Z (F0 m pc ls (r.toList.map (rv ad)))) ∧
  (∀ (h : aH) (ad : Nat → Nat) (H : Heap) (locs : List Loc) (cells slots : Nat) (ls : Array Slot) (xs : List Value) (pc : Nat), Q (some (.ref pc)) h → (∃ b, Sx s D dA A mc ms ad0 n0 M.2.2.2.1 ad H locs cells slots ls b xs h) → W p l e R s m args below meth c H locs cells slots Z (F0 m pc ls []))
def Ev (d : Nat) (X : Option (List Int32)) (M : Mt) (b : Nat × Nat) (pc : Nat) (xs st : List Value) (h : aH) (Q : Option Value → aH → Prop) : Prop :=
  ∀ (p : Program) (l : LN) (e : Env) (R : Room) (s : State) (m : MethodId) (args : Array Value) (below : List Frame) (meth : Method) (c : Code) (D : va_G) (dA : Nat → ClassId) (A : Nat → Prop) (mc ms : Nat) (ad0 : Nat → Nat) (n0 : Nat) (Z : State → Prop),
    FC d X M p R s m args meth c D dA A mc ms ad0 → RC M Q p l e R s m args below meth c D dA A mc ms ad0 n0 Z →
    ∀ (ad : Nat → Nat) (H : Heap) (locs : List Loc) (cells slots : Nat) (ls : Array Slot), Sx s D dA A mc ms ad0 n0 M.2.2.2.1 ad H locs cells slots ls b xs h →
      W p l e R s m args below meth c H locs cells slots Z (F0 m pc ls (st.map (rv ad)))
/-! THE INSTRUCTIONS -/
def lenI (i : Instr) : Nat := match i with
  | .bipush _ => 2
  | .sipush _ => 3
  | .iload _ => 2
  | .lload _ => 2
  | .aload _ => 2
  | .istore _ => 2
  | .lstore _ => 2
  | .astore _ => 2
  | .ldc _ => 2
  | .ldc_w _ => 3
  | .ldc2_w _ => 3
  | .iinc _ _ => 3
  | .ifCond _ _ => 3
  | .if_icmp _ _ => 3
  | .goto _ => 3
  | .getfield _ => 3
  | .putfield _ => 3
  | .invokestatic _ => 3
  | .newarray _ => 2
  | _ => 1
def pI (st : List Value) (f : Int32 → List Value → Prop) : Prop := match st with
  | .int x :: r => f x r
  | _ => False
def pL (st : List Value) (f : Int64 → List Value → Prop) : Prop := match st with
  | .long x :: r => f x r
  | _ => False
def pR (st : List Value) (f : Nat → List Value → Prop) : Prop := match st with
  | .ref x :: r => f x r
  | _ => False
def pV (st : List Value) (f : Value → List Value → Prop) : Prop := match st with
  | v :: r => f v r
  | [] => False
def gI (xs : List Value) (i : Nat) (f : Int32 → Prop) : Prop := match xs[i]? with
  | some (.int x) => f x
  | _ => False
def gL (xs : List Value) (i : Nat) (f : Int64 → Prop) : Prop := match xs[i]? with
  | some (.long x) => f x
  | _ => False
def gR (xs : List Value) (i : Nat) (f : Nat → Prop) : Prop := match xs[i]? with
  | some (.ref x) => f x
  | _ => False
def aI (h : aH) (a : Nat) (f : Nat → List Int32 → Prop) : Prop := match h[a]? with
  | some (.inl (t, .inl ys)) => f t ys
  | _ => False
def aL (h : aH) (a : Nat) (f : Nat → List Int64 → Prop) : Prop := match h[a]? with
  | some (.inl (t, .inr (.inl ys))) => f t ys
  | _ => False
def aR (h : aH) (a : Nat) (f : Nat → List (Option Nat) → Prop) : Prop := match h[a]? with
  | some (.inl (t, .inr (.inr ys))) => f t ys
  | _ => False
def xI (X : Option (List Int32)) (h : aH) (a : Nat) (f : Nat → List Int32 → Prop) : Prop := match X with
  | none => aI h a f
  | some zs => if a = XB then f 0 zs else aI h a f
def xN (X : Option (List Int32)) (h : aH) (a : Nat) (f : Nat → Prop) : Prop := match X with
  | none => (match h[a]? with
    | some (.inl (t, .inl ys)) => t < 3 ∧ f ys.length
    | some (.inl (t, .inr (.inl ys))) => t = 3 ∧ f ys.length
    | some (.inl (t, .inr (.inr ys))) => t = 4 ∧ f ys.length
    | _ => False)
  | some zs => if a = XB then f zs.length else False
def aO (h : aH) (a : Nat) (ci : Nat) (f : List Value → Prop) : Prop := match h[a]? with
  | some (.inr (c, fs)) => c = ci ∧ f fs
  | _ => False
theorem pI_of {st : List Value} {f : Int32 → List Value → Prop} (h : pI st f) : ∃ x r, st = .int x :: r ∧ f x r := by
  unfold pI at h; split at h
  · exact ⟨_, _, rfl, h⟩
  · exact h.elim
theorem pL_of {st : List Value} {f : Int64 → List Value → Prop} (h : pL st f) : ∃ x r, st = .long x :: r ∧ f x r := by
  unfold pL at h; split at h
  · exact ⟨_, _, rfl, h⟩
  · exact h.elim
theorem pR_of {st : List Value} {f : Nat → List Value → Prop} (h : pR st f) : ∃ x r, st = .ref x :: r ∧ f x r := by
  unfold pR at h; split at h
  · exact ⟨_, _, rfl, h⟩
  · exact h.elim
theorem pV_of {st : List Value} {f : Value → List Value → Prop} (h : pV st f) : ∃ x r, st = x :: r ∧ f x r := by
  cases st with
  | nil => exact h.elim
  | cons v r => exact ⟨v, r, rfl, h⟩
theorem gI_of {xs : List Value} {i : Nat} {f : Int32 → Prop} (h : gI xs i f) : ∃ x, xs[i]? = some (.int x) ∧ f x := by
  unfold gI at h; split at h
  · exact ⟨_, by assumption, h⟩
  · exact h.elim
theorem gL_of {xs : List Value} {i : Nat} {f : Int64 → Prop} (h : gL xs i f) : ∃ x, xs[i]? = some (.long x) ∧ f x := by
  unfold gL at h; split at h
  · exact ⟨_, by assumption, h⟩
  · exact h.elim
theorem gR_of {xs : List Value} {i : Nat} {f : Nat → Prop} (h : gR xs i f) : ∃ x, xs[i]? = some (.ref x) ∧ f x := by
  unfold gR at h; split at h
  · exact ⟨_, by assumption, h⟩
  · exact h.elim
theorem aI_of {h : aH} {a : Nat} {f : Nat → List Int32 → Prop} (q : aI h a f) : ∃ t ys, h[a]? = some (.inl (t, .inl ys)) ∧ f t ys := by
  unfold aI at q; split at q
  · exact ⟨_, _, by assumption, q⟩
  · exact q.elim
theorem aL_of {h : aH} {a : Nat} {f : Nat → List Int64 → Prop} (q : aL h a f) : ∃ t ys, h[a]? = some (.inl (t, .inr (.inl ys))) ∧ f t ys := by
  unfold aL at q; split at q
  · exact ⟨_, _, by assumption, q⟩
  · exact q.elim
theorem aR_of {h : aH} {a : Nat} {f : Nat → List (Option Nat) → Prop} (q : aR h a f) : ∃ t ys, h[a]? = some (.inl (t, .inr (.inr ys))) ∧ f t ys := by
  unfold aR at q; split at q
  · exact ⟨_, _, by assumption, q⟩
  · exact q.elim
theorem aO_of {h : aH} {a ci : Nat} {f : List Value → Prop} (q : aO h a ci f) : ∃ fs, h[a]? = some (.inr (ci, fs)) ∧ f fs := by
  unfold aO at q; split at q
  · obtain ⟨rfl, q⟩ := q; exact ⟨_, by assumption, q⟩
  · exact q.elim
/-- what a field of a type takes -/
def pf (ty : FieldType) (v : Value) : Prop := match ty, v with
  | .int, .int _ => True
  | .long, .long _ => True
  | .boolean, .int x => x = 0 ∨ x = 1
  | .object _, .ref _ => True
  | .array _, .ref _ => True
  | _, _ => False
theorem pf_ok {ty : FieldType} {v : Value} (ad : Nat → Nat) (h : pf ty v) : narrow ty (rv ad v) = rv ad v ∧ fits ty (rv ad v) = true := by
  unfold pf at h
  split at h
  · exact ⟨rfl, rfl⟩
  · exact ⟨rfl, rfl⟩
  · rcases h with rfl | rfl <;> exact ⟨rfl, rfl⟩
  · exact ⟨rfl, rfl⟩
  · exact ⟨rfl, rfl⟩
  · exact h.elim
def fv (a : Fin 4) : Nat := a.val
theorem fv0 : fv 0 = 0 := rfl
theorem fv1 : fv 1 = 1 := rfl
theorem fv2 : fv 2 = 2 := rfl
theorem fv3 : fv 3 = 3 := rfl
def kI (n : Int) : Int32 := Int32.ofInt n
def kB (n : Int) : Int32 := (Int8.ofInt n).toInt32
def kS (n : Int) : Int32 := (Int16.ofInt n).toInt32
def kJ (n : Fin 2) : Int64 := Int64.ofNat n
def br (P : Prop) (T F : Prop) : Prop := (P → T) ∧ (¬ P → F)
/-- one instruction; r: what the names of the constant pool mean (for a field: its row of fT, class, place) -/
def stp (M : Mt) (X : Option (List Int32)) (i : Instr) (r : Nat × Nat × Nat) (xs st : List Value) (h : aH) (k : List Value → List Value → aH → Prop) (j : Nat → List Value → List Value → aH → Prop) (rt : Option Value → aH → Prop) : Prop := match i with
  | .iconst n => k xs (.int (kI n) :: st) h
  | .bipush n => k xs (.int (kB n) :: st) h
  | .sipush n => k xs (.int (kS n) :: st) h
  | .lconst n => k xs (.long (kJ n) :: st) h
  | .iload_n a => gI xs (fv a) (fun x => k xs (.int x :: st) h)
  | .iload a => gI xs a (fun x => k xs (.int x :: st) h)
  | .lload_n a => gL xs (fv a) (fun x => k xs (.long x :: st) h)
  | .lload a => gL xs a (fun x => k xs (.long x :: st) h)
  | .aload_n a => gR xs (fv a) (fun x => k xs (.ref x :: st) h)
  | .aload a => gR xs a (fun x => k xs (.ref x :: st) h)
  | .istore_n a => pI st (fun x q => fv a < M.2.2.2.1 ∧ k (sto1 xs (fv a) (.int x)) q h)
  | .istore a => pI st (fun x q => a < M.2.2.2.1 ∧ k (sto1 xs a (.int x)) q h)
  | .lstore_n a => pL st (fun x q => fv a + 1 < M.2.2.2.1 ∧ k (sto2 xs (fv a) (.long x)) q h)
  | .lstore a => pL st (fun x q => a + 1 < M.2.2.2.1 ∧ k (sto2 xs a (.long x)) q h)
  | .astore_n a => pR st (fun x q => fv a < M.2.2.2.1 ∧ k (sto1 xs (fv a) (.ref x)) q h)
  | .astore a => pR st (fun x q => a < M.2.2.2.1 ∧ k (sto1 xs a (.ref x)) q h)
  | .iinc a n => gI xs a (fun x => a < M.2.2.2.1 ∧ k (sto1 xs a (.int (x + kI n))) st h)
  | .iadd => pI st (fun y q => pI q (fun x q => k xs (.int (x + y) :: q) h))
  | .isub => pI st (fun y q => pI q (fun x q => k xs (.int (x - y) :: q) h))
  | .imul => pI st (fun y q => pI q (fun x q => k xs (.int (x * y) :: q) h))
  | .iand => pI st (fun y q => pI q (fun x q => k xs (.int (x &&& y) :: q) h))
  | .ior => pI st (fun y q => pI q (fun x q => k xs (.int (x ||| y) :: q) h))
  | .ixor => pI st (fun y q => pI q (fun x q => k xs (.int (x ^^^ y) :: q) h))
  | .idiv => pI st (fun y q => pI q (fun x q => ¬ y = 0 ∧ k xs (.int (x / y) :: q) h))
  | .irem => pI st (fun y q => pI q (fun x q => ¬ y = 0 ∧ k xs (.int (x - x / y * y) :: q) h))
  | .ineg => pI st (fun x q => k xs (.int (-x) :: q) h)
  | .ishl => pI st (fun y q => pI q (fun x q => k xs (.int (x <<< (y &&& 31)) :: q) h))
  | .ishr => pI st (fun y q => pI q (fun x q => k xs (.int (x >>> (y &&& 31)) :: q) h))
  | .iushr => pI st (fun y q => pI q (fun x q => k xs (.int (x.toUInt32 >>> (y.toUInt32 &&& Int32.toUInt32 31)).toInt32 :: q) h))
  | .ladd => pL st (fun y q => pL q (fun x q => k xs (.long (x + y) :: q) h))
  | .lmul => pL st (fun y q => pL q (fun x q => k xs (.long (x * y) :: q) h))
  | .ldiv => pL st (fun y q => pL q (fun x q => ¬ y = 0 ∧ k xs (.long (x / y) :: q) h))
  | .lrem => pL st (fun y q => pL q (fun x q => ¬ y = 0 ∧ k xs (.long (x - x / y * y) :: q) h))
  | .lcmp => pL st (fun y q => pL q (fun x q => k xs (.int (lg_cmp x y) :: q) h))
  | .i2l => pI st (fun x q => k xs (.long x.toInt64 :: q) h)
  | .i2b => pI st (fun x q => k xs (.int x.toInt8.toInt32 :: q) h)
  | .dup => pV st (fun v q => v.category = 1 ∧ k xs (v :: v :: q) h)
  | .dup2 => pV st (fun v q => pV q (fun w q => v.category = 1 ∧ w.category = 1 ∧ k xs (v :: w :: v :: w :: q) h))
  | .pop => pV st (fun v q => v.category = 1 ∧ k xs q h)
  | .goto off => j r.1 xs st h
  | .ifCond .eq off => pI st (fun x q => br (x = 0) (j r.1 xs q h) (k xs q h))
  | .ifCond .ne off => pI st (fun x q => br (x = 0) (k xs q h) (j r.1 xs q h))
  | .ifCond .lt off => pI st (fun x q => br (x < 0) (j r.1 xs q h) (k xs q h))
  | .ifCond .ge off => pI st (fun x q => br (x < 0) (k xs q h) (j r.1 xs q h))
  | .ifCond .gt off => pI st (fun x q => br (0 < x) (j r.1 xs q h) (k xs q h))
  | .ifCond .le off => pI st (fun x q => br (0 < x) (k xs q h) (j r.1 xs q h))
  | .if_icmp .eq off => pI st (fun y q => pI q (fun x q => br (x = y) (j r.1 xs q h) (k xs q h)))
  | .if_icmp .ne off => pI st (fun y q => pI q (fun x q => br (x = y) (k xs q h) (j r.1 xs q h)))
  | .if_icmp .lt off => pI st (fun y q => pI q (fun x q => br (x < y) (j r.1 xs q h) (k xs q h)))
  | .if_icmp .ge off => pI st (fun y q => pI q (fun x q => br (x < y) (k xs q h) (j r.1 xs q h)))
  | .if_icmp .gt off => pI st (fun y q => pI q (fun x q => br (y < x) (j r.1 xs q h) (k xs q h)))
  | .if_icmp .le off => pI st (fun y q => pI q (fun x q => br (y < x) (k xs q h) (j r.1 xs q h)))
  | .getfield _ => pR st (fun a q => aO h a r.2.1 (fun fs => match fs[r.2.2]? with
    | some v => k xs (v :: q) h
    | none => False))
  | .putfield _ => pV st (fun v q => pR q (fun a q => aO h a r.2.1 (fun fs => r.2.2 < fs.length ∧ pf (tyC r.2.1 r.2.2) v ∧ k xs q (h.set a (.inr (r.2.1, fs.set r.2.2 v))))))
  | .iaload => pI st (fun i q => pR q (fun a q => xI X h a (fun t ys => t = 0 ∧ vp_in i ys.length ∧ k xs (.int (ys.getD i.toNatClampNeg 0) :: q) h)))
  | .iastore => pI st (fun x q => pI q (fun i q => pR q (fun a q => aI h a (fun t ys => t = 0 ∧ vp_in i ys.length ∧ k xs q (h.set a (.inl (0, .inl (ys.set i.toNatClampNeg x))))))))
  | .baload => pI st (fun i q => pR q (fun a q => aI h a (fun t ys => (t = 1 ∨ t = 2) ∧ vp_in i ys.length ∧ k xs (.int (ys.getD i.toNatClampNeg 0) :: q) h)))
  | .bastore => pI st (fun x q => pI q (fun i q => pR q (fun a q => aI h a (fun t ys => (t = 1 ∨ t = 2) ∧ vp_in i ys.length ∧ k xs q (h.set a (.inl (t, .inl (ys.set i.toNatClampNeg (if t = 1 then vp_nar .byte x else vp_nar .boolean x)))))))))
  | .laload => pI st (fun i q => pR q (fun a q => aL h a (fun t ys => t = 3 ∧ vp_in i ys.length ∧ k xs (.long (ys.getD i.toNatClampNeg 0) :: q) h)))
  | .lastore => pL st (fun x q => pI q (fun i q => pR q (fun a q => aL h a (fun t ys => t = 3 ∧ vp_in i ys.length ∧ k xs q (h.set a (.inl (3, .inr (.inl (ys.set i.toNatClampNeg x)))))))))
  | .aaload => pI st (fun i q => pR q (fun a q => aR h a (fun t ys => t = 4 ∧ vp_in i ys.length ∧ (match ys.getD i.toNatClampNeg none with
    | some y => k xs (.ref y :: q) h
    | none => False))))
  | .arraylength => pR st (fun a q => xN X h a (fun n => k xs (.int (nI n) :: q) h))
  | .ireturn => pI st (fun x q => q = [] ∧ rt (some (.int x)) h)
  | .lreturn => pL st (fun x q => q = [] ∧ rt (some (.long x)) h)
  | .return_ => st = [] ∧ rt none h
  | _ => False
/-- what the constant pool must say, and that jumps stay within -/
def okI (M : Mt) (pc : Nat) (i : Instr) (r : Nat × Nat × Nat) : Bool := match i with
  | .getfield ix => (match fT[r.1]? with
    | some (o, i', ci, k, _) => o == M.1 && (i' == ix && (ci == r.2.1 && k == r.2.2))
    | none => false)
  | .putfield ix => (match fT[r.1]? with
    | some (o, i', ci, k, _) => o == M.1 && (i' == ix && (ci == r.2.1 && (k == r.2.2 && (match vwCl[ci]? with
      | some (_, T, _) => (T k).2.2.2 == false || (M.2.1.name == "<init>" && ci == M.1)
      | none => false))))
    | none => false)
  | .goto off => decide ((pc : Int) + off = (r.1 : Int))
  | .ifCond _ off => decide ((pc : Int) + off = (r.1 : Int))
  | .if_icmp _ off => decide ((pc : Int) + off = (r.1 : Int))
  | _ => true
