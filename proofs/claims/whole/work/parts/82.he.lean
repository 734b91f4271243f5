-- HEARSAY: the table as told, with a set's hungers
def uns (r : Row) (s : Nat) (k : Nat) (X : Row) : Row := if bt (nI s) k = true then up X (cN2 (r (51 + 2 * k))) (r (52 + 2 * k)) else X
def bg0 (r X : Row) : Row := fun j => if j < 5 then r (100 + j) else if j < 10 then nI 0 else if 14 ≤ j ∧ j < 22 then r (114 + (j - 14)) else X j
def bgC (r X : Row) (s U : Nat) : Row := up (up (up (up (itr (uns r s) U 0 (bg0 r X)) 10 (nI 0)) 11 (nI 0)) 12 (nI 0)) 13 (nI 0)
def bgM (q Z X : Row) (s U : Nat) : Row := itr (uns q s) U 0 (cpR Z X 22)
set_option maxRecDepth 100000 in
set_option maxHeartbeats 400000 in
theorem uns_hi {r : Row} {s U P : Nat} (hP5 : P ≤ 5) (hu : ∀ k, k < U → ∃ p, p < P ∧ r (51 + 2 * k) = nI p) {j : Nat} (hj : 5 ≤ j) : ∀ n k X, k + n ≤ U → itr (uns r s) n k X j = X j := by
  intro n
  induction n with
  | zero => intro k X _; rfl
  | succ n ih =>
    intro k X hk
    show itr (uns r s) n (k + 1) (uns r s k X) j = X j
    rw [ih (k + 1) _ (by omega)]
    unfold uns
    split
    · obtain ⟨p, hp, e⟩ := hu k (by omega)
      have := sm_cN (x := r (51 + 2 * k)) (B := 5) ⟨p, by omega, e⟩ (by omega)
      have e2 : cN2 (r (51 + 2 * k)) < 5 := by
        obtain ⟨a1, a2⟩ := sm_cN (x := r (51 + 2 * k)) (B := 4) ⟨p, by omega, e⟩ (by omega)
        omega
      rw [up_ne (by omega)]
    · rfl
set_option maxRecDepth 100000 in
set_option maxHeartbeats 400000 in
theorem uns_ag {r q : Row} {s U E P : Nat} (hag : agU r q U E) : ∀ n k (X Y : Row), k + n ≤ U → (∀ p, p < P → X p = Y p) → ∀ p, p < P → itr (uns r s) n k X p = itr (uns q s) n k Y p := by
  intro n
  induction n with
  | zero => intro k X Y _ h; exact h
  | succ n ih =>
    intro k X Y hk h
    refine ih (k + 1) (uns r s k X) (uns q s k Y) (by omega) (fun p hpP => ?_)
    obtain ⟨e1, e2⟩ := hag.1 k (by omega)
    unfold uns
    rw [e1, e2]
    split
    · by_cases z : p = cN2 (q (51 + 2 * k))
      · rw [z, up_eq, up_eq]
      · rw [up_ne z, up_ne z]
        exact h p hpP
    · exact h p hpP
set_option maxRecDepth 100000 in
set_option maxHeartbeats 400000 in
theorem bg_ag {r q Z X Y : Row} {s U E P N : Nat} (hP5 : P ≤ 5) (hN8 : N ≤ 8) (hag : agU r q U E) (hu : ∀ k, k < U → ∃ p, p < P ∧ q (51 + 2 * k) = nI p) (h1 : ∀ p, p < P → r (100 + p) = Z p) (h2 : ∀ k, k < N → r (114 + k) = Z (14 + k)) (h3 : ∀ j, 5 ≤ j → j < 14 → Z j = nI 0) : agR (bgC r X s U) (bgM q Z Y s U) P N := by
  have hu' : ∀ k, k < U → ∃ p, p < P ∧ r (51 + 2 * k) = nI p := fun k hk => by rw [(hag.1 k hk).1]; exact hu k hk
  have hc : ∀ j, j < 22 → cpR Z Y 22 j = Z j := fun j hj => if_pos (by omega)
  have hm : ∀ j, 5 ≤ j → j < 22 → bgM q Z Y s U j = Z j := fun j a b => by
    unfold bgM
    rw [uns_hi hP5 hu a U 0 _ (by omega), hc j b]
  refine ⟨fun p hpP => ⟨?_, ?_⟩, fun j a b => ?_, fun k hk => ?_⟩
  · unfold bgC bgM
    rw [up_ne (by omega), up_ne (by omega), up_ne (by omega), up_ne (by omega)]
    refine uns_ag hag U 0 _ _ (by omega) (fun p hpP => ?_) p hpP
    rw [hc p (by omega), ← h1 p hpP]
    exact if_pos (by omega)
  · rw [hm (5 + p) (by omega) (by omega), h3 _ (by omega) (by omega)]
    unfold bgC
    rw [up_ne (by omega), up_ne (by omega), up_ne (by omega), up_ne (by omega), uns_hi hP5 hu' (by omega) U 0 _ (by omega)]
    unfold bg0
    rw [if_neg (by omega), if_pos (by omega)]
  · rw [hm j (by omega) (by omega), h3 _ (by omega) (by omega)]
    unfold bgC
    have : j = 10 ∨ j = 11 ∨ j = 12 ∨ j = 13 := by omega
    rcases this with rfl | rfl | rfl | rfl
    · rw [up_ne (by omega), up_ne (by omega), up_ne (by omega), up_eq]
    · rw [up_ne (by omega), up_ne (by omega), up_eq]
    · rw [up_ne (by omega), up_eq]
    · rw [up_eq]
  · rw [hm (14 + k) (by omega) (by omega), ← h2 k hk]
    unfold bgC
    rw [up_ne (by omega), up_ne (by omega), up_ne (by omega), up_ne (by omega), uns_hi hP5 hu' (by omega) U 0 _ (by omega)]
    unfold bg0
    rw [if_neg (by omega), if_neg (by omega), if_pos (by omega), show 14 + k - 14 = k by omega]
