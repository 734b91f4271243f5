-- WHO SHOULD FAST: the fewer eat, the more there is for each
def sv0 (w : Nat) (s : (Nat → Nat) × Nat) (p : Nat) : (Nat → Nat) × Nat := if s.2 = 0 ∨ s.1 p = 0 then s else (upN s.1 p (s.1 p - w), s.2 - 1)
def rn0 (w : Nat) (L : List Nat) : Nat → (Nat → Nat) × Nat → (Nat → Nat) × Nat
  | 0, s => s
  | n + 1, s => rn0 w L n (L.foldl (sv0 w) s)
def pjS (s : Sv) : (Nat → Nat) × Nat := (s.1, s.2.1)
set_option maxRecDepth 100000 in
set_option maxHeartbeats 400000 in
theorem pj_sv (w : Nat) (s : Sv) (p : Nat) : pjS (sv1 w s p) = sv0 w (pjS s) p := by
  unfold sv1 sv0 pjS
  by_cases h : s.2.1 = 0 ∨ s.1 p = 0
  · rw [if_pos h, if_pos h]
  · rw [if_neg h, if_neg h]
set_option maxRecDepth 100000 in
set_option maxHeartbeats 400000 in
theorem pj_rnd (w : Nat) : ∀ (L : List Nat) (s : Sv), pjS (rnd w L s) = L.foldl (sv0 w) (pjS s) := by
  intro L
  induction L with
  | nil => intro s; rfl
  | cons p L ih =>
    intro s
    show pjS (rnd w L (sv1 w s p)) = L.foldl (sv0 w) (sv0 w (pjS s) p)
    rw [ih, pj_sv]
set_option maxRecDepth 100000 in
set_option maxHeartbeats 400000 in
theorem rnd_st (w : Nat) : ∀ (L : List Nat) (s : Sv), s.2.2.2 = false → (rnd w L s).2.2.2 = false → pjS (rnd w L s) = pjS s := by
  intro L
  induction L with
  | nil => intro s _ _; rfl
  | cons p L ih =>
    intro s h1 h2
    have e : rnd w (p :: L) s = rnd w L (sv1 w s p) := rfl
    rw [e] at h2 ⊢
    by_cases h : s.2.1 = 0 ∨ s.1 p = 0
    · have e1 : sv1 w s p = s := if_pos h
      rw [e1] at h2 ⊢
      exact ih s h1 h2
    · have e1 : (sv1 w s p).2.2.2 = true := by unfold sv1; rw [if_neg h]
      rw [rnd_g w L _ e1] at h2
      cases h2
set_option maxRecDepth 100000 in
set_option maxHeartbeats 400000 in
theorem rn0_fix {w : Nat} {L : List Nat} {s : (Nat → Nat) × Nat} (h : L.foldl (sv0 w) s = s) : ∀ n, rn0 w L n s = s := by
  intro n
  induction n with
  | zero => rfl
  | succ n ih =>
    show rn0 w L n (L.foldl (sv0 w) s) = s
    rw [h]
    exact ih
set_option maxRecDepth 100000 in
set_option maxHeartbeats 400000 in
theorem pj_srv (w : Nat) (L : List Nat) : ∀ (n : Nat) (s : Sv), (s.2.2.2 = true ∨ L.foldl (sv0 w) (pjS s) = pjS s) → pjS (srv w L n s) = rn0 w L n (pjS s) := by
  intro n
  induction n with
  | zero => intro s _; rfl
  | succ n ih =>
    intro s h
    unfold srv
    cases hf : s.2.2.2 with
    | false =>
      rcases h with z | z
      · rw [hf] at z; cases z
      · rw [if_neg (by decide), rn0_fix z]
    | true =>
      rw [if_pos rfl]
      have e : pjS (s.1, s.2.1, s.2.2.1, false) = pjS s := rfl
      have e2 := pj_rnd w L (s.1, s.2.1, s.2.2.1, false)
      rw [ih (rnd w L (s.1, s.2.1, s.2.2.1, false)) ?_, e2, e]
      · rfl
      · cases hu : (rnd w L (s.1, s.2.1, s.2.2.1, false)).2.2.2 with
        | true => exact Or.inl rfl
        | false =>
          refine Or.inr ?_
          have z := rnd_st w L (s.1, s.2.1, s.2.2.1, false) rfl hu
          rw [z, e] at e2 ⊢
          exact e2.symm
def cmS (E : Nat → Bool) (s s' : (Nat → Nat) × Nat) : Prop := s.2 ≤ s'.2 ∧ ∀ p, E p = true → s'.1 p ≤ s.1 p
set_option maxRecDepth 100000 in
set_option maxHeartbeats 400000 in
theorem cm_both {E : Nat → Bool} {w p : Nat} {s s' : (Nat → Nat) × Nat} (hp : E p = true) (h : cmS E s s') : cmS E (sv0 w s p) (sv0 w s' p) := by
  obtain ⟨h1, h2⟩ := h
  have h3 := h2 p hp
  unfold sv0
  by_cases a : s.2 = 0 ∨ s.1 p = 0
  · rw [if_pos a]
    by_cases b : s'.2 = 0 ∨ s'.1 p = 0
    · rw [if_pos b]; exact ⟨h1, h2⟩
    · rw [if_neg b]
      refine ⟨?_, fun q hq => ?_⟩
      · show s.2 ≤ s'.2 - 1
        rcases a with z | z
        · omega
        · exact absurd (Or.inr (by omega)) b
      · show upN s'.1 p (s'.1 p - w) q ≤ s.1 q
        have := h2 q hq
        unfold upN
        split
        · rename_i e; rw [e] at this ⊢; omega
        · exact this
  · rw [if_neg a]
    by_cases b : s'.2 = 0 ∨ s'.1 p = 0
    · rw [if_pos b]
      refine ⟨?_, fun q hq => ?_⟩
      · show s.2 - 1 ≤ s'.2
        omega
      · show s'.1 q ≤ upN s.1 p (s.1 p - w) q
        have := h2 q hq
        unfold upN
        split
        · rename_i e
          rw [e]
          rcases b with z | z
          · exact absurd (Or.inl (by omega)) a
          · omega
        · exact this
    · rw [if_neg b]
      refine ⟨?_, fun q hq => ?_⟩
      · show s.2 - 1 ≤ s'.2 - 1
        omega
      · show upN s'.1 p (s'.1 p - w) q ≤ upN s.1 p (s.1 p - w) q
        have := h2 q hq
        unfold upN
        split
        · omega
        · exact this
set_option maxRecDepth 100000 in
set_option maxHeartbeats 400000 in
theorem cm_one {E : Nat → Bool} {w p : Nat} {s s' : (Nat → Nat) × Nat} (hp : E p = false) (h : cmS E s s') : cmS E (sv0 w s p) s' := by
  obtain ⟨h1, h2⟩ := h
  unfold sv0
  by_cases a : s.2 = 0 ∨ s.1 p = 0
  · rw [if_pos a]; exact ⟨h1, h2⟩
  · rw [if_neg a]
    refine ⟨?_, fun q hq => ?_⟩
    · show s.2 - 1 ≤ s'.2
      omega
    · show s'.1 q ≤ upN s.1 p (s.1 p - w) q
      have := h2 q hq
      rw [upN_ne (fun e => by rw [e, hp] at hq; cases hq)]
      exact this
set_option maxRecDepth 100000 in
set_option maxHeartbeats 400000 in
theorem cm_list {E : Nat → Bool} {w : Nat} : ∀ (L : List Nat) (s s' : (Nat → Nat) × Nat), cmS E s s' → cmS E (L.foldl (sv0 w) s) ((L.filter E).foldl (sv0 w) s') := by
  intro L
  induction L with
  | nil => intro s s' h; exact h
  | cons p L ih =>
    intro s s' h
    cases hp : E p with
    | true =>
      rw [List.filter_cons_of_pos hp]
      exact ih _ _ (cm_both hp h)
    | false =>
      rw [List.filter_cons_of_neg (by rw [hp]; decide)]
      exact ih _ _ (cm_one hp h)
set_option maxRecDepth 100000 in
set_option maxHeartbeats 400000 in
theorem cm_rn {E : Nat → Bool} {w : Nat} {L : List Nat} : ∀ (n : Nat) (s s' : (Nat → Nat) × Nat), cmS E s s' → cmS E (rn0 w L n s) (rn0 w (L.filter E) n s') := by
  intro n
  induction n with
  | zero => intro s s' h; exact h
  | succ n ih => intro s s' h; exact ih _ _ (cm_list L s s' h)
set_option maxRecDepth 100000 in
set_option maxHeartbeats 400000 in
theorem rn0_ne {w p : Nat} {L : List Nat} (hp : p ∉ L) : ∀ (n : Nat) (s : (Nat → Nat) × Nat), (rn0 w L n s).1 p = s.1 p := by
  have h1 : ∀ (M : List Nat) (s : (Nat → Nat) × Nat), p ∉ M → (M.foldl (sv0 w) s).1 p = s.1 p := by
    intro M
    induction M with
    | nil => intro s _; rfl
    | cons q M ih =>
      intro s hq
      rw [List.mem_cons, not_or] at hq
      show (M.foldl (sv0 w) (sv0 w s q)).1 p = s.1 p
      rw [ih _ hq.2]
      unfold sv0
      split
      · rfl
      · exact upN_ne hq.1
  intro n
  induction n with
  | zero => intro s; rfl
  | succ n ih =>
    intro s
    show (rn0 w L n (L.foldl (sv0 w) s)).1 p = s.1 p
    rw [ih, h1 L s hp]
-- seats of some of those who eat
def srtd (R : Row) : List Nat → Prop
  | [] => True
  | x :: xs => (∀ y ∈ xs, ¬ R y < R x) ∧ srtd R xs
set_option maxRecDepth 100000 in
set_option maxHeartbeats 400000 in
theorem rins_sr {R : Row} {p : Nat} : ∀ {X : List Nat}, srtd R X → srtd R (rins R p X) := by
  intro X
  induction X with
  | nil => intro _; exact ⟨(fun y hy => by cases hy), trivial⟩
  | cons x xs ih =>
    intro h
    unfold rins
    by_cases hc : R x < R p
    · rw [if_pos hc]
      refine ⟨fun y hy => ?_, ih h.2⟩
      rcases rins_mem hy with z | z
      · rw [z]; intro q; rw [Int32.lt_iff_toInt_lt] at q hc; omega
      · exact h.1 y z
    · rw [if_neg hc]
      refine ⟨fun y hy => ?_, h⟩
      rcases List.mem_cons.mp hy with z | z
      · rw [z]; exact hc
      · have := h.1 y z
        intro q
        rw [Int32.lt_iff_toInt_lt] at q hc this
        omega
set_option maxRecDepth 100000 in
set_option maxHeartbeats 400000 in
theorem rins_hd {R : Row} {p : Nat} {Y : List Nat} (h : ∀ y ∈ Y, ¬ R y < R p) : rins R p Y = p :: Y := by
  cases Y with
  | nil => rfl
  | cons y ys =>
    unfold rins
    rw [if_neg (h y List.mem_cons_self)]
set_option maxRecDepth 100000 in
set_option maxHeartbeats 400000 in
theorem rins_fl {R : Row} {p : Nat} {E : Nat → Bool} (hp : E p = true) : ∀ {X : List Nat}, srtd R X → (rins R p X).filter E = rins R p (X.filter E) := by
  intro X
  induction X with
  | nil => intro _; show [p].filter E = [p]; rw [List.filter_cons_of_pos hp]; rfl
  | cons x xs ih =>
    intro h
    by_cases hc : R x < R p
    · have e : rins R p (x :: xs) = x :: rins R p xs := by show (if R x < R p then _ else _) = _; rw [if_pos hc]
      rw [e]
      cases hx : E x with
      | true =>
        rw [List.filter_cons_of_pos hx, List.filter_cons_of_pos hx, ih h.2]
        show _ = (if R x < R p then x :: rins R p (xs.filter E) else p :: x :: xs.filter E)
        rw [if_pos hc]
      | false => rw [List.filter_cons_of_neg (by rw [hx]; decide), List.filter_cons_of_neg (by rw [hx]; decide), ih h.2]
    · have e : rins R p (x :: xs) = p :: x :: xs := by show (if R x < R p then _ else _) = _; rw [if_neg hc]
      rw [e, List.filter_cons_of_pos hp]
      refine (rins_hd (fun y hy => ?_)).symm
      have hy2 := (List.mem_filter.mp hy).1
      rcases List.mem_cons.mp hy2 with z | z
      · rw [z]; exact hc
      · have := h.1 y z
        intro q
        rw [Int32.lt_iff_toInt_lt] at q hc this
        omega
set_option maxRecDepth 100000 in
set_option maxHeartbeats 400000 in
theorem rins_fn {R : Row} {p : Nat} {E : Nat → Bool} (hp : E p = false) : ∀ (X : List Nat), (rins R p X).filter E = X.filter E := by
  intro X
  induction X with
  | nil => show [p].filter E = []; rw [List.filter_cons_of_neg (by rw [hp]; decide)]; rfl
  | cons x xs ih =>
    unfold rins
    split
    · cases hx : E x with
      | true => rw [List.filter_cons_of_pos hx, List.filter_cons_of_pos hx, ih]
      | false => rw [List.filter_cons_of_neg (by rw [hx]; decide), List.filter_cons_of_neg (by rw [hx]; decide), ih]
    · rw [List.filter_cons_of_neg (by rw [hp]; decide)]
set_option maxRecDepth 100000 in
set_option maxHeartbeats 400000 in
theorem sq_fl {R : Row} {E D : Nat → Bool} {P : Nat} (h : ∀ p, p < P → D p = true → E p = true) : sq R D P = (sq R E P).filter D := by
  have h1 : ∀ n k X, k + n = P → srtd R X → itr (sqS R D) n k (X.filter D) = (itr (sqS R E) n k X).filter D := by
    intro n
    induction n with
    | zero => intro k X _ _; rfl
    | succ n ih =>
      intro k X hk hs
      show itr (sqS R D) n (k + 1) (sqS R D k (X.filter D)) = (itr (sqS R E) n (k + 1) (sqS R E k X)).filter D
      have e : sqS R D k (X.filter D) = (sqS R E k X).filter D := by
        unfold sqS
        cases hd : D k with
        | true => rw [h k (by omega) hd, if_pos rfl, if_pos rfl, rins_fl hd hs]
        | false =>
          rw [if_neg (by decide)]
          split
          · rw [rins_fn hd]
          · rfl
      rw [e]
      refine ih (k + 1) _ (by omega) ?_
      unfold sqS
      split
      · exact rins_sr hs
      · exact hs
  unfold sq
  rw [List.filter_reverse]
  exact congrArg List.reverse (h1 P 0 [] (by omega) trivial)
set_option maxRecDepth 100000 in
set_option maxHeartbeats 400000 in
theorem sq_E {R : Row} {E : Nat → Bool} {P : Nat} : ∀ p, p ∈ sq R E P → E p = true := by
  have h1 : ∀ n k X, (∀ p ∈ X, E p = true) → ∀ p ∈ itr (sqS R E) n k X, E p = true := by
    intro n
    induction n with
    | zero => intro k X h; exact h
    | succ n ih =>
      intro k X h
      refine ih (k + 1) _ (fun p hp => ?_)
      unfold sqS at hp
      cases he : E k with
      | true =>
        rw [he, if_pos rfl] at hp
        rcases rins_mem hp with z | z
        · rw [z]; exact he
        · exact h p z
      | false =>
        rw [he, if_neg (by decide)] at hp
        exact h p hp
  intro p hp
  exact h1 P 0 [] (fun p hp => by cases hp) p (List.mem_reverse.mp hp)
