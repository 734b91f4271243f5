/-! THE ABSTRACT WORLD: cells by their numbers (the order in which they were made), references are numbers; 'ad' says at which address a number lies -/
abbrev aC : Type := (Nat × (List Int32 ⊕ (List Int64 ⊕ List (Option Nat)))) ⊕ (Nat × List Value)
abbrev aH : Type := List aC
def rv (ad : Nat → Nat) (v : Value) : Value := match v with
  | .ref a => .ref (ad a)
  | .int x => .int x
  | .long x => .long x
  | .float x => .float x
  | .double x => .double x
  | .null => .null
  | .retAddr x => .retAddr x
def cE (dA : Nat → ClassId) (ad : Nat → Nat) (c : aC) : va_E := match c with
  | .inl (t, .inl xs) => .inl (dA t, xs.length, .inl (fun j => xs.getD j 0))
  | .inl (t, .inr (.inl xs)) => .inl (dA t, xs.length, .inr (.inl (fun j => xs.getD j 0)))
  | .inl (t, .inr (.inr rs)) => .inl (dA t, rs.length, .inr (.inr (.inr (.inr (fun j => (rs.getD j none).map ad)))))
  | .inr (ci, vs) => .inr (ci, vs.map (rv ad))
def wld (dA : Nat → ClassId) (ad : Nat → Nat) (h : aH) : va_W := h.mapIdx (fun k c => (ad k, cE dA ad c))
section WLD
variable {dA : Nat → ClassId} {ad : Nat → Nat} {h : aH} {k : Nat} {c : aC}
theorem wld_get (dA : Nat → ClassId) (ad : Nat → Nat) (h : aH) (k : Nat) : (wld dA ad h)[k]? = (h[k]?).map (fun c => (ad k, cE dA ad c)) := by
  simp [wld, List.getElem?_mapIdx]
theorem wld_some (hk : h[k]? = some c) : (wld dA ad h)[k]? = some (ad k, cE dA ad c) := by rw [wld_get, hk]; rfl
theorem wld_set (h : aH) (k : Nat) (c : aC) : (wld dA ad h).set k (ad k, cE dA ad c) = wld dA ad (h.set k c) := by
  apply List.ext_getElem?
  intro j
  rw [wld_get]
  by_cases hj : k = j
  · subst hj
    rw [List.getElem?_set_self', List.getElem?_set_self', wld_get]
    cases h[k]? <;> rfl
  · rw [List.getElem?_set_ne hj, List.getElem?_set_ne hj, wld_get]
theorem wld_len (h : aH) : (wld dA ad h).length = h.length := by simp [wld]
theorem wld_app (h : aH) (c : aC) : wld dA ad (h ++ [c]) = wld dA ad h ++ [(ad h.length, cE dA ad c)] := by
  simp [wld, List.mapIdx_append]
theorem upd_getD (xs : List Int32) (i : Nat) (x : Int32) (hi : i < xs.length) : upd (fun j => xs.getD j 0) i x = fun j => (xs.set i x).getD j 0 := by
  funext j
  unfold upd
  by_cases hj : j = i
  · subst hj
    simp [hi]
  · simp [hj, List.getD_eq_getElem?_getD, List.getElem?_set_ne (Ne.symm hj)]
theorem updL_getD (xs : List Int64) (i : Nat) (x : Int64) (hi : i < xs.length) : vp_updL (fun j => xs.getD j 0) i x = fun j => (xs.set i x).getD j 0 := by
  funext j
  unfold vp_updL
  by_cases hj : j = i
  · subst hj
    simp [hi]
  · simp [hj, List.getD_eq_getElem?_getD, List.getElem?_set_ne (Ne.symm hj)]
theorem upR_getD (rs : List (Option Nat)) (ad : Nat → Nat) (i : Nat) (q : Nat) (hi : i < rs.length) : va_up (fun j => (rs.getD j none).map ad) i (some (ad q)) = fun j => ((rs.set i (some q)).getD j none).map ad := by
  funext j
  unfold va_up
  by_cases hj : j = i
  · subst hj
    simp [hi]
  · simp [hj, List.getD_eq_getElem?_getD, List.getElem?_set_ne (Ne.symm hj)]
theorem vp_in_lt {i : Int32} {n : Nat} (h : vp_in i n) : i.toNatClampNeg < n := Nat.not_le.mp fun q => h (Or.inr q)
end WLD
/-! the locals: by their places; .null stands for what isn't known -/
def asl (xs : List Value) : List (Nat × Value) := (List.range xs.length).filterMap (fun i => match xs[i]? with
  | some Value.null => none
  | some v => some (i, v)
  | none => none)
theorem asl_mem {xs : List Value} {q : Nat × Value} : q ∈ asl xs ↔ xs[q.1]? = some q.2 ∧ q.2 ≠ .null := by
  obtain ⟨i, v⟩ := q
  unfold asl
  rw [List.mem_filterMap]
  constructor
  · rintro ⟨j, hj, hq⟩
    cases hx : xs[j]? with
    | none => rw [hx] at hq; cases hq
    | some w =>
      rw [hx] at hq
      cases w <;> cases hq <;> exact ⟨hx, fun z => by cases z⟩
  · rintro ⟨h1, h2⟩
    have hl : i < xs.length := (List.getElem?_eq_some_iff.mp h1).1
    refine ⟨i, List.mem_range.mpr hl, ?_⟩
    dsimp only at h1 h2 ⊢
    rw [h1]
    cases v <;> first | rfl | exact absurd rfl h2
def lvx (ls : Array Slot) (nL : Nat) (xs : List Value) : Prop := lv_has ls nL (asl xs)
theorem lvx_at {ls : Array Slot} {nL : Nat} {xs : List Value} (h : lvx ls nL xs) {i : Nat} {v : Value} (hv : xs[i]? = some v) (hn : v ≠ .null) : ls[i]? = some (.val v) := h.2.2 (i, v) (asl_mem.mpr ⟨hv, hn⟩)
/-- what was known of a long that ends where a value is stored is forgotten -/
def kil (xs : List Value) (i : Nat) : List Value := match i with
  | 0 => xs
  | j + 1 => match xs[j]? with
    | some (.long _) => xs.set j .null
    | some (.double _) => xs.set j .null
    | _ => xs
def sto1 (xs : List Value) (i : Nat) (v : Value) : List Value := (kil xs i).set i v
def sto2 (xs : List Value) (i : Nat) (v : Value) : List Value := ((kil xs i).set (i + 1) .null).set i v
theorem kil_get {xs : List Value} {i j : Nat} {v : Value} (h : (kil xs i)[j]? = some v) (hn : v ≠ .null) : xs[j]? = some v ∧ ¬ (j + 1 = i ∧ v.category = 2) := by
  unfold kil at h
  cases i with
  | zero => exact ⟨h, fun z => by omega⟩
  | succ k =>
    dsimp only at h
    have key : ∀ (ys : List Value), ys = xs.set k .null → ys[j]? = some v → xs[j]? = some v ∧ ¬ (j + 1 = k + 1 ∧ v.category = 2) := by
      intro ys e hy
      subst e
      by_cases hj : k = j
      · subst hj
        rw [List.getElem?_set_self'] at hy
        cases hx : xs[k]? with
        | none => rw [hx] at hy; cases hy
        | some w => rw [hx] at hy; cases hy; exact absurd rfl hn
      · rw [List.getElem?_set_ne hj] at hy
        exact ⟨hy, fun z => hj (by omega)⟩
    cases hx : xs[k]? with
    | none =>
      rw [hx] at h
      refine ⟨h, fun z => ?_⟩
      have : j = k := by omega
      subst this
      dsimp only at h
      rw [hx] at h; cases h
    | some w =>
      rw [hx] at h
      cases w with
      | long y => exact key _ rfl h
      | double y => exact key _ rfl h
      | _ =>
        refine ⟨h, fun z => ?_⟩
        have : j = k := by omega
        subst this
        dsimp only at h
        rw [hx] at h
        cases h
        have := z.2
        simp [Value.category] at this
theorem lvx_sto1 {ls : Array Slot} {nL : Nat} {xs : List Value} {i : Nat} {v : Value} (h : lv_has ls nL ((i, v) :: (asl xs).filter (fun q => !(q.1 == i) && !(q.1 + 1 == i && q.2.category == 2)))) : lvx ls nL (sto1 xs i v) := by
  refine ⟨h.1, h.2.1, fun q hq => h.2.2 q ?_⟩
  obtain ⟨h1, h2⟩ := asl_mem.mp hq
  unfold sto1 at h1
  by_cases hi : i = q.1
  · rw [hi, List.getElem?_set_self'] at h1
    cases hx : (kil xs q.1)[q.1]? with
    | none => rw [hx] at h1; cases h1
    | some w =>
      rw [hx] at h1
      have e : v = q.2 := Option.some.inj h1
      rw [hi, e]
      exact List.mem_cons_self
  · rw [List.getElem?_set_ne hi] at h1
    obtain ⟨g1, g2⟩ := kil_get h1 h2
    refine List.mem_cons_of_mem _ (List.mem_filter.mpr ⟨asl_mem.mpr ⟨g1, h2⟩, ?_⟩)
    simp only [Bool.and_eq_true, Bool.not_eq_true', beq_eq_false_iff_ne, ne_eq, Bool.and_eq_false_iff]
    refine ⟨fun z => hi z.symm, ?_⟩
    by_cases hz : q.1 + 1 = i
    · exact Or.inr (fun y => g2 ⟨hz, y⟩)
    · exact Or.inl hz
theorem lvx_sto2 {ls : Array Slot} {nL : Nat} {xs : List Value} {i : Nat} {v : Value} (h : lv_has ls nL ((i, v) :: (asl xs).filter (fun q => !(q.1 == i) && (!(q.1 == i + 1) && !(q.1 + 1 == i && q.2.category == 2))))) : lvx ls nL (sto2 xs i v) := by
  refine ⟨h.1, h.2.1, fun q hq => h.2.2 q ?_⟩
  obtain ⟨h1, h2⟩ := asl_mem.mp hq
  unfold sto2 at h1
  by_cases hi : i = q.1
  · rw [hi, List.getElem?_set_self'] at h1
    cases hx : ((kil xs q.1).set (q.1 + 1) .null)[q.1]? with
    | none => rw [hx] at h1; cases h1
    | some w =>
      rw [hx] at h1
      have e : v = q.2 := Option.some.inj h1
      rw [hi, e]
      exact List.mem_cons_self
  · rw [List.getElem?_set_ne hi] at h1
    by_cases hj : i + 1 = q.1
    · rw [hj, List.getElem?_set_self'] at h1
      cases hx : (kil xs i)[q.1]? with
      | none => rw [hx] at h1; cases h1
      | some w => rw [hx] at h1; exact absurd (Option.some.inj h1).symm h2
    · rw [List.getElem?_set_ne hj] at h1
      obtain ⟨g1, g2⟩ := kil_get h1 h2
      refine List.mem_cons_of_mem _ (List.mem_filter.mpr ⟨asl_mem.mpr ⟨g1, h2⟩, ?_⟩)
      simp only [Bool.and_eq_true, Bool.not_eq_true', beq_eq_false_iff_ne, ne_eq, Bool.and_eq_false_iff]
      refine ⟨fun z => hi z.symm, fun z => hj z.symm, ?_⟩
      by_cases hz : q.1 + 1 = i
      · exact Or.inr (fun y => g2 ⟨hz, y⟩)
      · exact Or.inl hz
/-- fewer known locals -/
def lesV (xs ys : List Value) : Bool := (List.range xs.length).all (fun i => match xs[i]? with
  | some Value.null => true
  | some v => decide (ys[i]? = some v)
  | none => true)
theorem lvx_les {ls : Array Slot} {nL : Nat} {xs ys : List Value} (h : lvx ls nL ys) (hl : ∀ (i : Nat) (v : Value), xs[i]? = some v → v = .null ∨ ys[i]? = some v) : lvx ls nL xs := by
  refine ⟨h.1, h.2.1, fun q hq => h.2.2 q ?_⟩
  obtain ⟨h1, h2⟩ := asl_mem.mp hq
  rcases hl _ _ h1 with z | z
  · exact absurd z h2
  · exact asl_mem.mpr ⟨z, h2⟩
/-- the locals with which a method begins -/
def eL : List Value → List Value
  | [] => []
  | v :: r => match v with
    | .long x => .long x :: .null :: eL r
    | .double x => .double x :: .null :: eL r
    | w => w :: eL r
def eN (as : List Value) (n : Nat) : List Value := eL as ++ List.replicate (n - (eL as).length) .null
theorem eL_args : ∀ (as : List Value) (i j : Nat) (v : Value), (eL as)[j]? = some v → v ≠ .null → (i + j, v) ∈ lv_args i as := by
  intro as
  induction as with
  | nil => intro i j v h; simp [eL] at h
  | cons a r ih =>
    intro i j v h hn
    have one : ∀ (w : Value), (w :: eL r)[j]? = some v → w = a → ¬ a.category = 2 → (i + j, v) ∈ lv_args i (a :: r) := by
      intro w hw e hc
      unfold lv_args
      rw [if_neg hc]
      cases j with
      | zero => cases hw; rw [e]; exact List.mem_cons_self
      | succ j =>
        have := ih (i + 1) j v (by simpa using hw) hn
        rw [show i + 1 + j = i + (j + 1) by omega] at this
        exact List.mem_cons_of_mem _ this
    have two : ∀ (w : Value), (w :: .null :: eL r)[j]? = some v → w = a → a.category = 2 → (i + j, v) ∈ lv_args i (a :: r) := by
      intro w hw e hc
      unfold lv_args
      rw [if_pos hc]
      match j, hw with
      | 0, hw => cases hw; rw [e]; exact List.mem_cons_self
      | 1, hw => cases hw; exact absurd rfl hn
      | j + 2, hw =>
        have := ih (i + 2) j v (by simpa using hw) hn
        rw [show i + 2 + j = i + (j + 2) by omega] at this
        exact List.mem_cons_of_mem _ this
    cases a with
    | long x => exact two _ h rfl rfl
    | double x => exact two _ h rfl rfl
    | _ => exact one _ h rfl (by simp [Value.category])
theorem lvx_entry {ls : Array Slot} {n : Nat} {as : List Value} (h : lv_has ls n (lv_args 0 as)) : lvx ls n (eN as n) := by
  refine ⟨h.1, h.2.1, fun q hq => h.2.2 q ?_⟩
  obtain ⟨h1, h2⟩ := asl_mem.mp hq
  unfold eN at h1
  by_cases hl : q.1 < (eL as).length
  · rw [List.getElem?_append_left hl] at h1
    have := eL_args as 0 q.1 q.2 h1 h2
    rw [Nat.zero_add] at this
    exact this
  · rw [List.getElem?_append_right (by omega), List.getElem?_replicate] at h1
    split at h1
    · exact absurd (Option.some.inj h1).symm h2
    · cases h1
theorem eL_map (ad : Nat → Nat) : ∀ (as : List Value), eL (as.map (rv ad)) = (eL as).map (rv ad) := by
  intro as
  induction as with
  | nil => rfl
  | cons a r ih => cases a <;> simp [eL, rv, ih]
theorem eN_map (ad : Nat → Nat) (as : List Value) (n : Nat) : eN (as.map (rv ad)) n = (eN as n).map (rv ad) := by
  simp [eN, eL_map, rv]
theorem rv_null {ad : Nat → Nat} {v : Value} : rv ad v = .null ↔ v = .null := by cases v <;> simp [rv]
theorem rv_cat (ad : Nat → Nat) (v : Value) : (rv ad v).category = v.category := by cases v <;> rfl
theorem rv_cats (ad : Nat → Nat) (st : List Value) : ((st.map (rv ad)).map fun v => v.category) = st.map fun v => v.category := by
  simp [rv_cat]
theorem kil_map (ad : Nat → Nat) (xs : List Value) (i : Nat) : kil (xs.map (rv ad)) i = (kil xs i).map (rv ad) := by
  cases i with
  | zero => rfl
  | succ j =>
    unfold kil
    dsimp only
    rw [List.getElem?_map]
    cases hx : xs[j]? with
    | none => rfl
    | some w => cases w <;> simp [rv]
theorem sto1_map (ad : Nat → Nat) (xs : List Value) (i : Nat) (v : Value) : sto1 (xs.map (rv ad)) i (rv ad v) = (sto1 xs i v).map (rv ad) := by
  simp [sto1, kil_map, List.map_set]
theorem sto2_map (ad : Nat → Nat) (xs : List Value) (i : Nat) (v : Value) : sto2 (xs.map (rv ad)) i (rv ad v) = (sto2 xs i v).map (rv ad) := by
  simp [sto2, kil_map, List.map_set, rv]
theorem lvx_get {ls : Array Slot} {nL : Nat} {xs : List Value} {ad : Nat → Nat} (h : lvx ls nL (xs.map (rv ad))) {i : Nat} {v : Value} (hv : xs[i]? = some v) (hn : v ≠ .null) : ls[i]? = some (.val (rv ad v)) :=
  lvx_at h (by rw [List.getElem?_map, hv]; rfl) (fun z => hn (rv_null.mp z))
