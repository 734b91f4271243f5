-- THE TEXT: no two names are the same word
def uqW (y : Nat → Nat) (W : WL) : Prop := ∀ w w', w ∈ W → w' ∈ W → w.2.1 = w'.2.1 → eqY y w.1 w'.1 w.2.1 = true → w.2.2 = w'.2.2
set_option maxRecDepth 100000 in
set_option maxHeartbeats 400000 in
theorem eqY_all {y : Nat → Nat} {a b : Nat} : ∀ l, eqY y a b l = true ↔ ∀ k, k < l → y (a + k) = y (b + k) := by
  intro l
  induction l with
  | zero => exact ⟨fun _ k hk => absurd hk (Nat.not_lt_zero _), fun _ => rfl⟩
  | succ l ih =>
    show (eqY y a b l && decide (y (a + l) = y (b + l))) = true ↔ _
    rw [Bool.and_eq_true, ih]
    constructor
    · intro h k hk
      by_cases z : k = l
      · rw [z]; exact of_decide_eq_true h.2
      · exact h.1 k (by omega)
    · intro h
      exact ⟨fun k hk => h k (by omega), decide_eq_true (h l (by omega))⟩
set_option maxRecDepth 100000 in
set_option maxHeartbeats 400000 in
theorem fdW_some {y : Nat → Nat} {s l : Nat} : ∀ {W : WL} {d : Nat}, fdW y s l W = some d → ∃ w, w ∈ W ∧ w.2.2 = d ∧ w.2.1 = l ∧ eqY y w.1 s l = true := by
  intro W
  induction W with
  | nil => intro d h; cases h
  | cons a W ih =>
    intro d h
    unfold fdW at h
    by_cases z : a.2.1 = l ∧ eqY y a.1 s l = true
    · rw [if_pos z] at h
      exact ⟨a, List.mem_cons_self, Option.some.inj h, z.1, z.2⟩
    · rw [if_neg z] at h
      obtain ⟨w, h1, h2⟩ := ih h
      exact ⟨w, List.mem_cons_of_mem _ h1, h2⟩
set_option maxRecDepth 100000 in
set_option maxHeartbeats 400000 in
theorem fdW_none {y : Nat → Nat} {s l : Nat} : ∀ {W : WL}, fdW y s l W = none → ∀ w, w ∈ W → ¬ (w.2.1 = l ∧ eqY y w.1 s l = true) := by
  intro W
  induction W with
  | nil => intro _ w hw; cases hw
  | cons a W ih =>
    intro h w hw
    unfold fdW at h
    by_cases z : a.2.1 = l ∧ eqY y a.1 s l = true
    · rw [if_pos z] at h; cases h
    · rw [if_neg z] at h
      rcases List.mem_cons.mp hw with q | q
      · rw [q]; exact z
      · exact ih h w q
set_option maxRecDepth 100000 in
set_option maxHeartbeats 400000 in
theorem fdW_uq {y : Nat → Nat} {s l : Nat} {W : WL} (hu : uqW y W) {w : Nat × Nat × Nat} (hw : w ∈ W) (h1 : w.2.1 = l) (h2 : eqY y w.1 s l = true) : fdW y s l W = some w.2.2 := by
  cases z : fdW y s l W with
  | none => exact absurd ⟨h1, h2⟩ (fdW_none z w hw)
  | some d =>
    obtain ⟨w', a1, a2, a3, a4⟩ := fdW_some z
    rw [← a2]
    refine congrArg some (hu w' w a1 hw (by omega) ?_)
    rw [a3]
    exact (eqY_all l).mpr (fun k hk => ((eqY_all l).mp a4 k hk).trans ((eqY_all l).mp h2 k hk).symm)
set_option maxRecDepth 100000 in
set_option maxHeartbeats 400000 in
theorem uq_app {y : Nat → Nat} {s l d : Nat} {W : WL} (hu : uqW y W) (h : fdW y s l W = none) : uqW y (W ++ [(s, l, d)]) := by
  intro w w' hw hw' h1 h2
  rcases List.mem_append.mp hw with z | z
  · rcases List.mem_append.mp hw' with z' | z'
    · exact hu w w' z z' h1 h2
    · rw [List.mem_singleton.mp z'] at h1 h2
      have h1' : w.2.1 = l := h1
      rw [h1'] at h2
      exact absurd ⟨h1', h2⟩ (fdW_none h w z)
  · rcases List.mem_append.mp hw' with z' | z'
    · rw [List.mem_singleton.mp z] at h1 h2
      have h1' : l = w'.2.1 := h1
      have h2' : eqY y s w'.1 l = true := h2
      exact absurd ⟨h1'.symm, (eqY_all l).mpr (fun k hk => ((eqY_all l).mp h2' k hk).symm)⟩ (fdW_none h w' z')
    · rw [List.mem_singleton.mp z, List.mem_singleton.mp z']
