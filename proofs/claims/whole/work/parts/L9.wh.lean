-- THE WHOLE: the start
def S0 : Mem := fun c j => if (c = 12 ∨ c = 19 ∨ c = 44 ∨ c = 53 ∨ c = 136) ∧ j < 2 then kB (-2) else if c = 167 ∧ j = 10 then kI (-1) else 0
def J0 : MeJ := fun _ _ => 0
def T0 : Nat → Nat := fun i => if i = 0 then 143 else 155
set_option maxRecDepth 100000 in
set_option maxHeartbeats 400000 in
theorem S0_z {c j : Nat} (h1 : c ≠ 12) (h2 : c ≠ 19) (h3 : c ≠ 44) (h4 : c ≠ 53) (h5 : c ≠ 136) (h6 : ¬ (c = 167 ∧ j = 10)) : S0 c j = nI 0 := by
  unfold S0
  rw [if_neg (fun z => by omega), if_neg h6]
  rfl
set_option maxRecDepth 100000 in
set_option maxHeartbeats 400000 in
theorem Rl_s : Rl S0 T0 := by
  refine ⟨Or.inl ⟨rfl, rfl⟩, ⟨0, by omega, S0_z (by omega) (by omega) (by omega) (by omega) (by omega) (by omega), S0_z (by omega) (by omega) (by omega) (by omega) (by omega) (by omega), fun k hk => absurd hk (Nat.not_lt_zero _)⟩, ⟨?_, ?_, fun z => ?_⟩, Or.inr ⟨S0_z (by omega) (by omega) (by omega) (by omega) (by omega) (by omega), fun j hj => ?_, ?_, ?_, ?_, ?_, ?_, ?_⟩⟩
  · rw [S0_z (by omega) (by omega) (by omega) (by omega) (by omega) (by omega), S0_z (by omega) (by omega) (by omega) (by omega) (by omega) (by omega)]
  · rw [S0_z (by omega) (by omega) (by omega) (by omega) (by omega) (by omega), S0_z (by omega) (by omega) (by omega) (by omega) (by omega) (by omega)]
  · rw [S0_z (by omega) (by omega) (by omega) (by omega) (by omega) (by omega), eq_eq (by omega) (by omega)] at z
    omega
  · show S0 143 j = nI 0
    exact S0_z (by omega) (by omega) (by omega) (by omega) (by omega) (by omega)
  · exact S0_z (by omega) (by omega) (by omega) (by omega) (by omega) (by omega)
  · exact S0_z (by omega) (by omega) (by omega) (by omega) (by omega) (by omega)
  · exact S0_z (by omega) (by omega) (by omega) (by omega) (by omega) (by omega)
  · exact S0_z (by omega) (by omega) (by omega) (by omega) (by omega) (by omega)
  · exact S0_z (by omega) (by omega) (by omega) (by omega) (by omega) (by omega)
  · exact S0_z (by omega) (by omega) (by omega) (by omega) (by omega) (by omega)
def hA : aH := (hp S0 J0 T0).take 167
def hB : aH := (hp S0 J0 T0).take 181
def h1A : aH := [.inr (10, dfl 10 13)]
def h1B : aH := hA ++ [.inr (11, dfl 11 44)]
def eqC (a b : aC) : Bool := match a, b with
  | .inl (t, .inl x), .inl (u, .inl y) => decide (t = u) && decide (x = y)
  | .inl (t, .inr (.inl x)), .inl (u, .inr (.inl y)) => decide (t = u) && decide (x = y)
  | .inl (t, .inr (.inr x)), .inl (u, .inr (.inr y)) => decide (t = u) && decide (x = y)
  | .inr (t, x), .inr (u, y) => decide (t = u) && decide (x = y)
  | _, _ => false
set_option maxRecDepth 100000 in
set_option maxHeartbeats 400000 in
theorem eqC_ok {a b : aC} (h : eqC a b = true) : a = b := by
  unfold eqC at h
  split at h
  · rw [Bool.and_eq_true] at h; rw [of_decide_eq_true h.1, of_decide_eq_true h.2]
  · rw [Bool.and_eq_true] at h; rw [of_decide_eq_true h.1, of_decide_eq_true h.2]
  · rw [Bool.and_eq_true] at h; rw [of_decide_eq_true h.1, of_decide_eq_true h.2]
  · rw [Bool.and_eq_true] at h; rw [of_decide_eq_true h.1, of_decide_eq_true h.2]
  · cases h
def eqH : aH → aH → Bool
  | [], [] => true
  | a :: x, b :: y => eqC a b && eqH x y
  | _, _ => false
set_option maxRecDepth 100000 in
set_option maxHeartbeats 400000 in
theorem eqH_ok : ∀ {x y : aH}, eqH x y = true → x = y := by
  intro x
  induction x with
  | nil =>
    intro y h
    cases y with
    | nil => rfl
    | cons b y => cases h
  | cons a x ih =>
    intro y h
    cases y with
    | nil => cases h
    | cons b y =>
      have h' : (eqC a b && eqH x y) = true := h
      rw [Bool.and_eq_true] at h'
      rw [eqC_ok h'.1, ih h'.2]
def eqX (o : Option (aH × Nat × Nat)) (h : aH) (c s : Nat) : Bool := match o with
  | some z => eqH z.1 h && (decide (z.2.1 = c) && decide (z.2.2 = s))
  | none => false
set_option maxRecDepth 100000 in
set_option maxHeartbeats 400000 in
theorem eqX_ok {o : Option (aH × Nat × Nat)} {h : aH} {c s : Nat} (q : eqX o h c s = true) : o = some (h, c, s) := by
  unfold eqX at q
  split at q
  · rename_i z
    rw [Bool.and_eq_true, Bool.and_eq_true] at q
    obtain ⟨a, b, d⟩ := z
    have e1 : a = h := eqH_ok q.1
    have e2 : b = c := of_decide_eq_true q.2.1
    have e3 : d = s := of_decide_eq_true q.2.2
    rw [e1, e2, e3]
  · cases q
set_option maxRecDepth 100000 in
set_option maxRecDepth 100000 in
set_option maxHeartbeats 400000 in
theorem exA : ex 700 5 10 0 (eN [.ref 0] (mxL 10)) [] h1A = some (hA, 166, 1815) := eqX_ok (by decide +kernel)
set_option maxRecDepth 100000 in
set_option maxRecDepth 100000 in
set_option maxHeartbeats 400000 in
theorem exB : ex 700 5 11 0 (eN [.ref 167] (mxL 11)) [] h1B = some (hB, 13, 1604) := eqX_ok (by decide +kernel)
set_option maxRecDepth 100000 in
set_option maxRecDepth 100000 in
set_option maxHeartbeats 400000 in
theorem exC : hB ++ [.inl (3, .inr (.inl (List.replicate 1 0)))] = hp S0 J0 T0 := eqH_ok (by decide +kernel)
