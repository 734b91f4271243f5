-- THE TEXT: what a read table is like
def pIv (R : Row) (W : WL) (c : Nat → Nat) : Prop := cB c ∧ (c 0 ≤ 20 ∧ c 1 ≤ 200 ∧ c 2 ≤ 100) ∧ (∀ w, w ∈ W → w.2.2 < c 3 ∨ (5 ≤ w.2.2 ∧ w.2.2 < 5 + c 4)) ∧ (∀ p, p < c 3 → sm (R (10 + 2 * p)) 9 ∧ sm (R (100 + p)) 99) ∧ (∀ k, k < c 4 → sm (R (19 + 2 * k)) 200 ∧ sm (R (114 + k)) 20) ∧ (∀ j k, j < k → k < c 4 → R (19 + 2 * j) ≠ R (19 + 2 * k)) ∧ (∀ k, k < c 5 → ∃ p, p < c 3 ∧ R (35 + 2 * k) = nI p) ∧ (∀ k, k < c 6 → (∃ p, p < c 3 ∧ R (51 + 2 * k) = nI p) ∧ sm (R (52 + 2 * k)) 99) ∧ (∀ k, k < c 7 → ∃ d, 1 ≤ d ∧ d ≤ 60 ∧ R (60 + 2 * k) = nI d)
set_option maxRecDepth 100000 in
set_option maxHeartbeats 400000 in
theorem bdP_inv {α β : Type} {x : PR α} {f : α → PR β} {b : β} (h : bdP x f = .inr b) : ∃ a, x = .inr a ∧ f a = .inr b := by
  cases x with
  | inl e => cases h
  | inr a => exact ⟨a, rfl, h⟩
set_option maxRecDepth 100000 in
set_option maxHeartbeats 400000 in
theorem pNu_inv {y : Nat → Nat} {n lo hi s v : Nat} (h : pNu y n lo hi s = .inr v) : lo ≤ v ∧ v ≤ hi := by
  unfold pNu at h
  by_cases z3 : tkK y n s = 3
  · rw [if_pos z3] at h
    by_cases z : lo ≤ tkV y n s ∧ tkV y n s ≤ hi
    · rw [if_pos z] at h
      have := Sum.inr.inj h
      omega
    · rw [if_neg z] at h; cases h
  · rw [if_neg z3] at h; cases h
set_option maxRecDepth 100000 in
set_option maxHeartbeats 400000 in
theorem pA_inv {y : Nat → Nat} {n q lo hi s : Nat} {v : Nat × Nat} (h : pA y n q lo hi s = .inr v) : lo ≤ v.1 ∧ v.1 ≤ hi := by
  unfold pA at h
  obtain ⟨s1, _, h⟩ := bdP_inv h
  obtain ⟨w, h1, h2⟩ := bdP_inv h
  rw [← Sum.inr.inj h2]
  exact pNu_inv h1
set_option maxRecDepth 100000 in
set_option maxHeartbeats 400000 in
theorem fdW_mem {y : Nat → Nat} {s l : Nat} : ∀ {W : WL} {d : Nat}, fdW y s l W = some d → ∃ w, w ∈ W ∧ w.2.2 = d := by
  intro W
  induction W with
  | nil => intro d h; cases h
  | cons a W ih =>
    intro d h
    unfold fdW at h
    split at h
    · exact ⟨a, List.mem_cons_self, Option.some.inj h⟩
    · obtain ⟨w, h1, h2⟩ := ih h
      exact ⟨w, List.mem_cons_of_mem _ h1, h2⟩
set_option maxRecDepth 100000 in
set_option maxHeartbeats 400000 in
theorem pTd_inv {y : Nat → Nat} {n lo hi s p : Nat} {W : WL} (h : pTd y n W lo hi s = .inr p) : lo + p ≤ hi ∧ ∃ w, w ∈ W ∧ w.2.2 = lo + p := by
  unfold pTd at h
  obtain ⟨l, _, h⟩ := bdP_inv h
  cases z : fdW y s l W with
  | none => rw [z] at h; cases h
  | some d =>
    rw [z] at h
    have h' : (if lo ≤ d ∧ d ≤ hi then (Sum.inr (d - lo) : PR Nat) else .inl (2, s)) = .inr p := h
    by_cases zz : lo ≤ d ∧ d ≤ hi
    · rw [if_pos zz] at h'
      have := Sum.inr.inj h'
      obtain ⟨w, h1, h2⟩ := fdW_mem z
      exact ⟨by omega, w, h1, by omega⟩
    · rw [if_neg zz] at h'; cases h'
set_option maxRecDepth 100000 in
set_option maxHeartbeats 400000 in
theorem pBeg_inv {q : PSt} {m i a : Nat} (h : pBeg q m i = .inr a) : q.2.2.1 i < m := by
  unfold pBeg at h
  by_cases z : q.2.2.1 i < m
  · exact z
  · rw [if_neg z] at h; cases h
set_option maxRecDepth 100000 in
set_option maxHeartbeats 400000 in
theorem sm_n {a B : Nat} (h : a ≤ B) : sm (nI a) B := ⟨a, h, rfl⟩
set_option maxRecDepth 100000 in
set_option maxHeartbeats 400000 in
theorem anyR_no {R : Row} {a : Nat} {x : Int32} : ∀ {k : Nat}, anyR R a x k = false → ∀ i, i < k → R (a + 2 * i) ≠ x := by
  intro k
  induction k with
  | zero => intro _ i hi; omega
  | succ k ih =>
    intro h i hi
    have h' : (anyR R a x k || decide (R (a + 2 * k) = x)) = false := h
    rw [Bool.or_eq_false_iff] at h'
    by_cases z : i = k
    · rw [z]; exact of_decide_eq_false h'.2
    · exact ih h'.1 i (by omega)
set_option maxRecDepth 100000 in
set_option maxHeartbeats 400000 in
theorem iv_per {R : Row} {W : WL} {c : Nat → Nat} (h : pIv R W c) (hK : c 3 < 5) {s l kd hu nd : Nat} (h1 : hu ≤ 99) (h2 : nd ≤ 9) : pIv (up (up (up R (9 + 2 * c 3) (nI kd)) (100 + c 3) (nI hu)) (10 + 2 * c 3) (nI nd)) (W ++ [(s, l, c 3)]) (upN c 3 (c 3 + 1)) := by
  obtain ⟨b, ⟨a0, a1, a2⟩, ww, pp, nn, dd, ff, uu, ee⟩ := h
  obtain ⟨b3, b4, b5, b6, b7, b8⟩ := b
  generalize hR : (up (up (up R (9 + 2 * c 3) (nI kd)) (100 + c 3) (nI hu)) (10 + 2 * c 3) (nI nd)) = R'
  have r0 : ∀ j, j ≠ 9 + 2 * c 3 → j ≠ 100 + c 3 → j ≠ 10 + 2 * c 3 → R' j = R j := fun j z0 z1 z2 => by rw [← hR, up_ne z2, up_ne z1, up_ne z0]
  have w0 : R' (9 + 2 * c 3) = nI kd := by rw [← hR, up_ne (by omega), up_ne (by omega), up_eq]
  have w1 : R' (100 + c 3) = nI hu := by rw [← hR, up_ne (by omega), up_eq]
  have w2 : R' (10 + 2 * c 3) = nI nd := by rw [← hR, up_eq]
  have uK : upN c 3 (c 3 + 1) 3 = c 3 + 1 := upN_eq
  have e0 : upN c 3 (c 3 + 1) 0 = c 0 := upN_ne (by omega)
  have e1 : upN c 3 (c 3 + 1) 1 = c 1 := upN_ne (by omega)
  have e2 : upN c 3 (c 3 + 1) 2 = c 2 := upN_ne (by omega)
  have e4 : upN c 3 (c 3 + 1) 4 = c 4 := upN_ne (by omega)
  have e5 : upN c 3 (c 3 + 1) 5 = c 5 := upN_ne (by omega)
  have e6 : upN c 3 (c 3 + 1) 6 = c 6 := upN_ne (by omega)
  have e7 : upN c 3 (c 3 + 1) 7 = c 7 := upN_ne (by omega)
  have e8 : upN c 3 (c 3 + 1) 8 = c 8 := upN_ne (by omega)
  generalize upN c 3 (c 3 + 1) = d at uK e0 e1 e2 e4 e5 e6 e7 e8 ⊢
  refine ⟨?_, ?_, ?_, ?_, ?_, ?_, ?_, ?_, ?_⟩
  · exact ⟨by omega, by omega, by omega, by omega, by omega, by omega⟩
  · exact ⟨by omega, by omega, by omega⟩
  · intro w hw
    rcases List.mem_append.mp hw with z | z
    · rcases ww w z with z | z
      · exact Or.inl (by omega)
      · exact Or.inr ⟨by omega, by omega⟩
    · rw [List.mem_singleton.mp z]
      exact Or.inl (by show c 3 < d 3; omega)
  · intro p hq
    by_cases z : p = c 3
    · rw [z, w2, w1]; exact ⟨sm_n h2, sm_n h1⟩
    · rw [r0 _ (by omega) (by omega) (by omega), r0 _ (by omega) (by omega) (by omega)]; exact pp p (by omega)
  · exact fun k hk => by rw [r0 _ (by omega) (by omega) (by omega), r0 _ (by omega) (by omega) (by omega)]; exact nn k (by omega)
  · exact fun j k hj hk => by rw [r0 _ (by omega) (by omega) (by omega), r0 _ (by omega) (by omega) (by omega)]; exact dd j k hj (by omega)
  · exact fun k hk => by obtain ⟨p, z1, z2⟩ := ff k (by omega); exact ⟨p, by omega, by rw [r0 _ (by omega) (by omega) (by omega)]; exact z2⟩
  · exact fun k hk => by obtain ⟨⟨p, z1, z2⟩, z3⟩ := uu k (by omega); exact ⟨⟨p, by omega, by rw [r0 _ (by omega) (by omega) (by omega)]; exact z2⟩, by rw [r0 _ (by omega) (by omega) (by omega)]; exact z3⟩
  · exact fun k hk => by obtain ⟨d, z1, z2, z3⟩ := ee k (by omega); exact ⟨d, z1, z2, by rw [r0 _ (by omega) (by omega) (by omega)]; exact z3⟩
set_option maxRecDepth 100000 in
set_option maxHeartbeats 400000 in
theorem iv_nam {R : Row} {W : WL} {c : Nat → Nat} (h : pIv R W c) (hK : c 4 < 8) {s l f w : Nat} (h1 : f ≤ 200) (h2 : w ≤ 20) (h3 : anyR R 19 (nI f) (c 4) = false) : pIv (up (up R (19 + 2 * c 4) (nI f)) (114 + c 4) (nI w)) (W ++ [(s, l, 5 + c 4)]) (upN c 4 (c 4 + 1)) := by
  obtain ⟨b, ⟨a0, a1, a2⟩, ww, pp, nn, dd, ff, uu, ee⟩ := h
  obtain ⟨b3, b4, b5, b6, b7, b8⟩ := b
  generalize hR : (up (up R (19 + 2 * c 4) (nI f)) (114 + c 4) (nI w)) = R'
  have r0 : ∀ j, j ≠ 19 + 2 * c 4 → j ≠ 114 + c 4 → R' j = R j := fun j z0 z1 => by rw [← hR, up_ne z1, up_ne z0]
  have w0 : R' (19 + 2 * c 4) = nI f := by rw [← hR, up_ne (by omega), up_eq]
  have w1 : R' (114 + c 4) = nI w := by rw [← hR, up_eq]
  have uK : upN c 4 (c 4 + 1) 4 = c 4 + 1 := upN_eq
  have e0 : upN c 4 (c 4 + 1) 0 = c 0 := upN_ne (by omega)
  have e1 : upN c 4 (c 4 + 1) 1 = c 1 := upN_ne (by omega)
  have e2 : upN c 4 (c 4 + 1) 2 = c 2 := upN_ne (by omega)
  have e3 : upN c 4 (c 4 + 1) 3 = c 3 := upN_ne (by omega)
  have e5 : upN c 4 (c 4 + 1) 5 = c 5 := upN_ne (by omega)
  have e6 : upN c 4 (c 4 + 1) 6 = c 6 := upN_ne (by omega)
  have e7 : upN c 4 (c 4 + 1) 7 = c 7 := upN_ne (by omega)
  have e8 : upN c 4 (c 4 + 1) 8 = c 8 := upN_ne (by omega)
  generalize upN c 4 (c 4 + 1) = d at uK e0 e1 e2 e3 e5 e6 e7 e8 ⊢
  refine ⟨?_, ?_, ?_, ?_, ?_, ?_, ?_, ?_, ?_⟩
  · exact ⟨by omega, by omega, by omega, by omega, by omega, by omega⟩
  · exact ⟨by omega, by omega, by omega⟩
  · intro w hw
    rcases List.mem_append.mp hw with z | z
    · rcases ww w z with z | z
      · exact Or.inl (by omega)
      · exact Or.inr ⟨by omega, by omega⟩
    · rw [List.mem_singleton.mp z]
      exact Or.inr ⟨by show 5 ≤ 5 + c 4; omega, by show 5 + c 4 < 5 + d 4; omega⟩
  · exact fun p hq => by rw [r0 _ (by omega) (by omega), r0 _ (by omega) (by omega)]; exact pp p (by omega)
  · intro k hk
    by_cases z : k = c 4
    · rw [z, w0, w1]; exact ⟨sm_n h1, sm_n h2⟩
    · rw [r0 _ (by omega) (by omega), r0 _ (by omega) (by omega)]; exact nn k (by omega)
  · intro j k hj hk
    by_cases z : k = c 4
    · rw [z, w0, r0 _ (by omega) (by omega)]; exact anyR_no h3 j (by omega)
    · rw [r0 _ (by omega) (by omega), r0 _ (by omega) (by omega)]; exact dd j k hj (by omega)
  · exact fun k hk => by obtain ⟨p, z1, z2⟩ := ff k (by omega); exact ⟨p, by omega, by rw [r0 _ (by omega) (by omega)]; exact z2⟩
  · exact fun k hk => by obtain ⟨⟨p, z1, z2⟩, z3⟩ := uu k (by omega); exact ⟨⟨p, by omega, by rw [r0 _ (by omega) (by omega)]; exact z2⟩, by rw [r0 _ (by omega) (by omega)]; exact z3⟩
  · exact fun k hk => by obtain ⟨d, z1, z2, z3⟩ := ee k (by omega); exact ⟨d, z1, z2, by rw [r0 _ (by omega) (by omega)]; exact z3⟩
set_option maxRecDepth 100000 in
set_option maxHeartbeats 400000 in
theorem iv_fst {R : Row} {W : WL} {c : Nat → Nat} (h : pIv R W c) (hK : c 5 < 8) {p x : Nat} (h1 : p < c 3) : pIv (up (up R (35 + 2 * c 5) (nI p)) (36 + 2 * c 5) (nI x)) W (upN c 5 (c 5 + 1)) := by
  obtain ⟨b, ⟨a0, a1, a2⟩, ww, pp, nn, dd, ff, uu, ee⟩ := h
  obtain ⟨b3, b4, b5, b6, b7, b8⟩ := b
  generalize hR : (up (up R (35 + 2 * c 5) (nI p)) (36 + 2 * c 5) (nI x)) = R'
  have r0 : ∀ j, j ≠ 35 + 2 * c 5 → j ≠ 36 + 2 * c 5 → R' j = R j := fun j z0 z1 => by rw [← hR, up_ne z1, up_ne z0]
  have w0 : R' (35 + 2 * c 5) = nI p := by rw [← hR, up_ne (by omega), up_eq]
  have w1 : R' (36 + 2 * c 5) = nI x := by rw [← hR, up_eq]
  have uK : upN c 5 (c 5 + 1) 5 = c 5 + 1 := upN_eq
  have e0 : upN c 5 (c 5 + 1) 0 = c 0 := upN_ne (by omega)
  have e1 : upN c 5 (c 5 + 1) 1 = c 1 := upN_ne (by omega)
  have e2 : upN c 5 (c 5 + 1) 2 = c 2 := upN_ne (by omega)
  have e3 : upN c 5 (c 5 + 1) 3 = c 3 := upN_ne (by omega)
  have e4 : upN c 5 (c 5 + 1) 4 = c 4 := upN_ne (by omega)
  have e6 : upN c 5 (c 5 + 1) 6 = c 6 := upN_ne (by omega)
  have e7 : upN c 5 (c 5 + 1) 7 = c 7 := upN_ne (by omega)
  have e8 : upN c 5 (c 5 + 1) 8 = c 8 := upN_ne (by omega)
  generalize upN c 5 (c 5 + 1) = d at uK e0 e1 e2 e3 e4 e6 e7 e8 ⊢
  refine ⟨?_, ?_, ?_, ?_, ?_, ?_, ?_, ?_, ?_⟩
  · exact ⟨by omega, by omega, by omega, by omega, by omega, by omega⟩
  · exact ⟨by omega, by omega, by omega⟩
  · exact fun w hw => by rcases ww w hw with z | z; exact Or.inl (by omega); exact Or.inr ⟨by omega, by omega⟩
  · exact fun p hq => by rw [r0 _ (by omega) (by omega), r0 _ (by omega) (by omega)]; exact pp p (by omega)
  · exact fun k hk => by rw [r0 _ (by omega) (by omega), r0 _ (by omega) (by omega)]; exact nn k (by omega)
  · exact fun j k hj hk => by rw [r0 _ (by omega) (by omega), r0 _ (by omega) (by omega)]; exact dd j k hj (by omega)
  · intro k hk
    by_cases z : k = c 5
    · rw [z, w0]; exact ⟨p, by omega, rfl⟩
    · obtain ⟨p, z1, z2⟩ := ff k (by omega)
      exact ⟨p, by omega, by rw [r0 _ (by omega) (by omega)]; exact z2⟩
  · exact fun k hk => by obtain ⟨⟨p, z1, z2⟩, z3⟩ := uu k (by omega); exact ⟨⟨p, by omega, by rw [r0 _ (by omega) (by omega)]; exact z2⟩, by rw [r0 _ (by omega) (by omega)]; exact z3⟩
  · exact fun k hk => by obtain ⟨d, z1, z2, z3⟩ := ee k (by omega); exact ⟨d, z1, z2, by rw [r0 _ (by omega) (by omega)]; exact z3⟩
set_option maxRecDepth 100000 in
set_option maxHeartbeats 400000 in
theorem iv_uns {R : Row} {W : WL} {c : Nat → Nat} (h : pIv R W c) (hK : c 6 < 4) {p x : Nat} (h1 : p < c 3) (h2 : x ≤ 99) : pIv (up (up R (51 + 2 * c 6) (nI p)) (52 + 2 * c 6) (nI x)) W (upN c 6 (c 6 + 1)) := by
  obtain ⟨b, ⟨a0, a1, a2⟩, ww, pp, nn, dd, ff, uu, ee⟩ := h
  obtain ⟨b3, b4, b5, b6, b7, b8⟩ := b
  generalize hR : (up (up R (51 + 2 * c 6) (nI p)) (52 + 2 * c 6) (nI x)) = R'
  have r0 : ∀ j, j ≠ 51 + 2 * c 6 → j ≠ 52 + 2 * c 6 → R' j = R j := fun j z0 z1 => by rw [← hR, up_ne z1, up_ne z0]
  have w0 : R' (51 + 2 * c 6) = nI p := by rw [← hR, up_ne (by omega), up_eq]
  have w1 : R' (52 + 2 * c 6) = nI x := by rw [← hR, up_eq]
  have uK : upN c 6 (c 6 + 1) 6 = c 6 + 1 := upN_eq
  have e0 : upN c 6 (c 6 + 1) 0 = c 0 := upN_ne (by omega)
  have e1 : upN c 6 (c 6 + 1) 1 = c 1 := upN_ne (by omega)
  have e2 : upN c 6 (c 6 + 1) 2 = c 2 := upN_ne (by omega)
  have e3 : upN c 6 (c 6 + 1) 3 = c 3 := upN_ne (by omega)
  have e4 : upN c 6 (c 6 + 1) 4 = c 4 := upN_ne (by omega)
  have e5 : upN c 6 (c 6 + 1) 5 = c 5 := upN_ne (by omega)
  have e7 : upN c 6 (c 6 + 1) 7 = c 7 := upN_ne (by omega)
  have e8 : upN c 6 (c 6 + 1) 8 = c 8 := upN_ne (by omega)
  generalize upN c 6 (c 6 + 1) = d at uK e0 e1 e2 e3 e4 e5 e7 e8 ⊢
  refine ⟨?_, ?_, ?_, ?_, ?_, ?_, ?_, ?_, ?_⟩
  · exact ⟨by omega, by omega, by omega, by omega, by omega, by omega⟩
  · exact ⟨by omega, by omega, by omega⟩
  · exact fun w hw => by rcases ww w hw with z | z; exact Or.inl (by omega); exact Or.inr ⟨by omega, by omega⟩
  · exact fun p hq => by rw [r0 _ (by omega) (by omega), r0 _ (by omega) (by omega)]; exact pp p (by omega)
  · exact fun k hk => by rw [r0 _ (by omega) (by omega), r0 _ (by omega) (by omega)]; exact nn k (by omega)
  · exact fun j k hj hk => by rw [r0 _ (by omega) (by omega), r0 _ (by omega) (by omega)]; exact dd j k hj (by omega)
  · exact fun k hk => by obtain ⟨p, z1, z2⟩ := ff k (by omega); exact ⟨p, by omega, by rw [r0 _ (by omega) (by omega)]; exact z2⟩
  · intro k hk
    by_cases z : k = c 6
    · rw [z, w0, w1]; exact ⟨⟨p, by omega, rfl⟩, sm_n h2⟩
    · obtain ⟨⟨p, z1, z2⟩, z3⟩ := uu k (by omega)
      exact ⟨⟨p, by omega, by rw [r0 _ (by omega) (by omega)]; exact z2⟩, by rw [r0 _ (by omega) (by omega)]; exact z3⟩
  · exact fun k hk => by obtain ⟨d, z1, z2, z3⟩ := ee k (by omega); exact ⟨d, z1, z2, by rw [r0 _ (by omega) (by omega)]; exact z3⟩
set_option maxRecDepth 100000 in
set_option maxHeartbeats 400000 in
theorem iv_hrd {R : Row} {W : WL} {c : Nat → Nat} (h : pIv R W c) (hK : c 7 < 6) {p x : Nat} (h1 : 1 ≤ x) (h2 : x ≤ 60) : pIv (up (up R (59 + 2 * c 7) (nI p)) (60 + 2 * c 7) (nI x)) W (upN c 7 (c 7 + 1)) := by
  obtain ⟨b, ⟨a0, a1, a2⟩, ww, pp, nn, dd, ff, uu, ee⟩ := h
  obtain ⟨b3, b4, b5, b6, b7, b8⟩ := b
  generalize hR : (up (up R (59 + 2 * c 7) (nI p)) (60 + 2 * c 7) (nI x)) = R'
  have r0 : ∀ j, j ≠ 59 + 2 * c 7 → j ≠ 60 + 2 * c 7 → R' j = R j := fun j z0 z1 => by rw [← hR, up_ne z1, up_ne z0]
  have w0 : R' (59 + 2 * c 7) = nI p := by rw [← hR, up_ne (by omega), up_eq]
  have w1 : R' (60 + 2 * c 7) = nI x := by rw [← hR, up_eq]
  have uK : upN c 7 (c 7 + 1) 7 = c 7 + 1 := upN_eq
  have e0 : upN c 7 (c 7 + 1) 0 = c 0 := upN_ne (by omega)
  have e1 : upN c 7 (c 7 + 1) 1 = c 1 := upN_ne (by omega)
  have e2 : upN c 7 (c 7 + 1) 2 = c 2 := upN_ne (by omega)
  have e3 : upN c 7 (c 7 + 1) 3 = c 3 := upN_ne (by omega)
  have e4 : upN c 7 (c 7 + 1) 4 = c 4 := upN_ne (by omega)
  have e5 : upN c 7 (c 7 + 1) 5 = c 5 := upN_ne (by omega)
  have e6 : upN c 7 (c 7 + 1) 6 = c 6 := upN_ne (by omega)
  have e8 : upN c 7 (c 7 + 1) 8 = c 8 := upN_ne (by omega)
  generalize upN c 7 (c 7 + 1) = d at uK e0 e1 e2 e3 e4 e5 e6 e8 ⊢
  refine ⟨?_, ?_, ?_, ?_, ?_, ?_, ?_, ?_, ?_⟩
  · exact ⟨by omega, by omega, by omega, by omega, by omega, by omega⟩
  · exact ⟨by omega, by omega, by omega⟩
  · exact fun w hw => by rcases ww w hw with z | z; exact Or.inl (by omega); exact Or.inr ⟨by omega, by omega⟩
  · exact fun p hq => by rw [r0 _ (by omega) (by omega), r0 _ (by omega) (by omega)]; exact pp p (by omega)
  · exact fun k hk => by rw [r0 _ (by omega) (by omega), r0 _ (by omega) (by omega)]; exact nn k (by omega)
  · exact fun j k hj hk => by rw [r0 _ (by omega) (by omega), r0 _ (by omega) (by omega)]; exact dd j k hj (by omega)
  · exact fun k hk => by obtain ⟨p, z1, z2⟩ := ff k (by omega); exact ⟨p, by omega, by rw [r0 _ (by omega) (by omega)]; exact z2⟩
  · exact fun k hk => by obtain ⟨⟨p, z1, z2⟩, z3⟩ := uu k (by omega); exact ⟨⟨p, by omega, by rw [r0 _ (by omega) (by omega)]; exact z2⟩, by rw [r0 _ (by omega) (by omega)]; exact z3⟩
  · intro k hk
    by_cases z : k = c 7
    · rw [z, w1]; exact ⟨x, h1, h2, rfl⟩
    · obtain ⟨d, z1, z2, z3⟩ := ee k (by omega)
      exact ⟨d, z1, z2, by rw [r0 _ (by omega) (by omega)]; exact z3⟩
set_option maxRecDepth 100000 in
set_option maxHeartbeats 400000 in
theorem iv_tab {R : Row} {W : WL} {c : Nat → Nat} (h : pIv R W c) {x0 x1 x2 : Nat} (h0 : x0 ≤ 20) (h1 : x1 ≤ 200) (h2 : x2 ≤ 100) : pIv R W (upN (upN (upN (upN c 0 x0) 1 x1) 2 x2) 8 1) := by
  obtain ⟨⟨b3, b4, b5, b6, b7, b8⟩, a, ww, pp, nn, dd, ff, uu, ee⟩ := h
  exact ⟨⟨b3, b4, b5, b6, b7, Nat.le_refl 1⟩, ⟨h0, h1, h2⟩, ww, pp, nn, dd, ff, uu, ee⟩
set_option maxRecDepth 100000 in
set_option maxHeartbeats 400000 in
theorem td_p {R : Row} {W : WL} {c : Nat → Nat} (h : pIv R W c) {y : Nat → Nat} {n s p : Nat} (q : pTd y n W 0 4 s = .inr p) : p < c 3 := by
  obtain ⟨q1, w, q2, q3⟩ := pTd_inv q
  rcases h.2.2.1 w q2 with z | z <;> omega
set_option maxRecDepth 100000 in
set_option maxHeartbeats 400000 in
theorem pIv_lin {y : Nat → Nat} {n : Nat} {q q' : PSt} (h : pIv q.1 q.2.1 q.2.2.1) (e : pLin y n q = .inr q') : pIv q'.1 q'.2.1 q'.2.2.1 := by
  unfold pLin at e
  split at e
  · cases e
  · unfold pTab at e
    by_cases z : q.2.2.1 8 = 0
    · rw [if_pos z] at e
      obtain ⟨b, b1, e⟩ := bdP_inv e
      obtain ⟨a, a1, e⟩ := bdP_inv e
      obtain ⟨f, f1, e⟩ := bdP_inv e
      rw [← Sum.inr.inj e]
      exact iv_tab h (pA_inv b1).2 (pA_inv a1).2 (pA_inv f1).2
    · rw [if_neg z] at e; cases e
  · unfold pPer at e
    obtain ⟨_, z1, e⟩ := bdP_inv e
    obtain ⟨l, _, e⟩ := bdP_inv e
    obtain ⟨kd, _, e⟩ := bdP_inv e
    obtain ⟨hu, z4, e⟩ := bdP_inv e
    obtain ⟨nd, z5, e⟩ := bdP_inv e
    rw [← Sum.inr.inj e]
    exact iv_per h (pBeg_inv z1) (pA_inv z4).2 (pA_inv z5).2
  · unfold pNam at e
    obtain ⟨_, z1, e⟩ := bdP_inv e
    obtain ⟨l, _, e⟩ := bdP_inv e
    obtain ⟨f, z3, e⟩ := bdP_inv e
    cases za : anyR q.1 19 (nI f.1) (q.2.2.1 4) with
    | true => rw [za, if_pos rfl] at e; cases e
    | false =>
      rw [za, if_neg (by decide)] at e
      obtain ⟨w, z4, e⟩ := bdP_inv e
      rw [← Sum.inr.inj e]
      exact iv_nam h (pBeg_inv z1) (pA_inv z3).2 (pA_inv z4).2 za
  · unfold pFst at e
    obtain ⟨_, z1, e⟩ := bdP_inv e
    obtain ⟨p, z2, e⟩ := bdP_inv e
    obtain ⟨d, z3, e⟩ := bdP_inv e
    cases za : anyR2 q.1 35 (nI p) (nI d.1) (q.2.2.1 5) with
    | true => rw [za, if_pos rfl] at e; cases e
    | false =>
      rw [za, if_neg (by decide)] at e
      rw [← Sum.inr.inj e]
      exact iv_fst h (pBeg_inv z1) (td_p h z2)
  · unfold pUns at e
    obtain ⟨_, z1, e⟩ := bdP_inv e
    obtain ⟨p, z2, e⟩ := bdP_inv e
    cases za : anyR q.1 51 (nI p) (q.2.2.1 6) with
    | true => rw [za, if_pos rfl] at e; cases e
    | false =>
      rw [za, if_neg (by decide)] at e
      obtain ⟨w, z4, e⟩ := bdP_inv e
      rw [← Sum.inr.inj e]
      exact iv_uns h (pBeg_inv z1) (td_p h z2) (pNu_inv z4).2
  · unfold pHrd at e
    obtain ⟨_, z1, e⟩ := bdP_inv e
    obtain ⟨p, z2, e⟩ := bdP_inv e
    obtain ⟨d, z3, e⟩ := bdP_inv e
    cases za : anyR q.1 60 (nI d.1) (q.2.2.1 7) with
    | true => rw [za, if_pos rfl] at e; cases e
    | false =>
      rw [za, if_neg (by decide)] at e
      rw [← Sum.inr.inj e]
      exact iv_hrd h (pBeg_inv z1) (pA_inv z3).1 (pA_inv z3).2
set_option maxRecDepth 100000 in
set_option maxHeartbeats 400000 in
theorem pIv_0 {y : Nat → Nat} {n : Nat} : pIv (p0 y n).1 (p0 y n).2.1 (p0 y n).2.2.1 := by
  refine ⟨⟨Nat.zero_le _, Nat.zero_le _, Nat.zero_le _, Nat.zero_le _, Nat.zero_le _, Nat.zero_le _⟩, ⟨Nat.zero_le _, Nat.zero_le _, Nat.zero_le _⟩, fun w hw => ?_, fun p hq => ?_, fun k hk => ?_, fun j k hj hk => ?_, fun k hk => ?_, fun k hk => ?_, fun k hk => ?_⟩
  · cases hw
  · exact absurd hq (Nat.not_lt_zero _)
  · exact absurd hk (Nat.not_lt_zero _)
  · exact absurd hk (Nat.not_lt_zero _)
  · exact absurd hk (Nat.not_lt_zero _)
  · exact absurd hk (Nat.not_lt_zero _)
  · exact absurd hk (Nat.not_lt_zero _)
set_option maxRecDepth 100000 in
set_option maxHeartbeats 400000 in
theorem pIv_loo {y : Nat → Nat} {n : Nat} : ∀ {f : Nat} {q q' : PSt}, pIv q.1 q.2.1 q.2.2.1 → pLoo y n f q = .inr q' → pIv q'.1 q'.2.1 q'.2.2.1 := by
  intro f
  induction f with
  | zero => intro q q' h e; rw [← Sum.inr.inj e]; exact h
  | succ f ih =>
    intro q q' h e
    unfold pLoo at e
    by_cases z0 : tkK y n q.2.2.2 = 0
    · rw [if_pos z0] at e; rw [← Sum.inr.inj e]; exact h
    · rw [if_neg z0] at e
      by_cases z4 : tkK y n q.2.2.2 = 4
      · rw [if_pos z4] at e
        obtain ⟨q1, e1, e2⟩ := bdP_inv e
        exact ih (pIv_lin (q := (q.1, q.2.1, q.2.2.1, nx y n q.2.2.2)) h e1) e2
      · rw [if_neg z4] at e; cases e
