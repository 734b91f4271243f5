-- ACTS: a day; undoing, images
set_option maxRecDepth 100000 in
set_option maxHeartbeats 400000 in
theorem Inv_mo {R : Row} {P N D D' : Nat} (h : Inv R P N D) (hD : D ≤ D') : Inv R P N D' := ⟨h.1, h.2.1, fun p hp => sm_le (h.2.2.1 p hp) hD, h.2.2.2.1, h.2.2.2.2.1, h.2.2.2.2.2.1, sm_le h.2.2.2.2.2.2.1 hD, h.2.2.2.2.2.2.2⟩
set_option maxRecDepth 100000 in
set_option maxHeartbeats 400000 in
theorem Inv_d {R : Row} {P N d : Nat} (h : Inv R P N 999) (hf : Fdd R P) (hd : R 13 = nI d) (hd9 : d ≤ 999) : Inv R P N d := ⟨h.1, h.2.1, fun p hp => by
    obtain ⟨a, d', q1, q2, q3, q4⟩ := hf p hp
    rw [hd, eq_eq (by omega) (by omega)] at q4
    exact ⟨a, by omega, q3⟩, h.2.2.2.1, h.2.2.2.2.1, h.2.2.2.2.2.1, ⟨d, Nat.le_refl _, hd⟩, h.2.2.2.2.2.2.2⟩
set_option maxRecDepth 100000 in
set_option maxHeartbeats 400000 in
theorem day_Fd {r R : Row} {P N F d : Nat} {bes bowl : Int32} {fl : Bool} (ht : TbS r P N) (h : Inv R P N 999) (hf : Fdd R P) (hd : R 13 = nI d) (hd9 : d < 999) (hb : sm bowl 20) : Inv (dayR r R P N F bes fl bowl) P N 999 ∧ Fdd (dayR r R P N F bes fl bowl) P := by
  have h1 := day_inv (F := F) (bes := bes) (fl := fl) ht (Inv_d h hf hd (by omega)) (by omega) hb
  refine ⟨Inv_mo h1 (by omega), fun p hp => ?_⟩
  obtain ⟨a, ha, ea⟩ := h1.2.2.1 p hp
  refine ⟨a, d + 1, ha, by omega, ea, ?_⟩
  unfold dayR
  rw [dEnd_13, dRw_hi ht.2.1 (by omega) (by omega), hd, nI_add]
set_option maxRecDepth 100000 in
set_option maxHeartbeats 400000 in
theorem gen_Rl {S S' : Mem} {T : Nat → Nat} {P N F U E : Nat} (h : Rl S T) (h14 : S 167 14 = nI 1) (hy : Yes S (T 0) P N F U E) (hf : ∀ c, c ∈ [1, 2, 168, 170, 172, 143, 155] → S' c = S c) (hH : Hst S' P N) (hI : Img S' P N) (hag : agR (S' 139) (S' 174) P N) (hin : Inv (S' 174) P N 999) (hfd : FdA S' P) (h011 : S' 0 11 = S' 167 11) (h4 : S' 167 11 ≠ nI 4) (h012 : S' 0 12 = S 0 12) (hpm : ∀ j, j ∈ [2, 9, 14] → S' 167 j = S 167 j) : Rl S' T := by
  obtain ⟨h0, h1, h2, -⟩ := h
  have e1 : S' 1 = S 1 := hf 1 (by decide)
  have e2 : S' 2 = S 2 := hf 2 (by decide)
  have e168 : S' 168 = S 168 := hf 168 (by decide)
  have e170 : S' 170 = S 170 := hf 170 (by decide)
  have e172 : S' 172 = S 172 := hf 172 (by decide)
  have et : S' (T 0) = S (T 0) := by
    rcases h0 with z | z
    · rw [z.1]; exact hf 143 (by decide)
    · rw [z.1]; exact hf 155 (by decide)
  have p2 := hpm 2 (by decide)
  have p9 := hpm 9 (by decide)
  have p14 := hpm 14 (by decide)
  obtain ⟨y1, y2, y3, y4, y5, y6, -, -⟩ := hy
  refine ⟨h0, ?_, ⟨h011, by rw [h012, p9]; exact h2.2.1, fun z => absurd z h4⟩, Or.inl ⟨by rw [p14]; exact h14, P, N, F, U, E, ⟨by rw [e170]; exact y1, by rw [e170, et]; exact y2, by rw [e170, et]; exact y3, ?_, hag, hin, hH, hI⟩, hfd⟩⟩
  · unfold Tpe at h1 ⊢
    rw [e1, e2, e168, p2]
    exact h1
  · unfold Tld at y4 ⊢
    rw [et, e172]
    exact y4
