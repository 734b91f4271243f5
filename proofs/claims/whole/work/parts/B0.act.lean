-- ACTS: what is kept ahead of one
def AL : List Nat := [0, 56, 58, 62, 66, 70, 74, 78, 82, 86, 90, 94, 98, 102, 106, 110, 114, 118, 136, 139, 167, 174, 175, 176, 178, 179]
def u1 (u : Nat) : Nat := if u < 16 then u + 1 else 16
def x1 (x : Nat) : Nat := if x + 1 < 16 then x + 1 else 0
def nrw (S : Mem) (u i : Nat) : Row := fun j => if u = 16 then (if i < 15 then rw22 S 176 (i + 1) j else S 174 j) else (if i < u then rw22 S 176 i j else S 174 j)
set_option maxRecDepth 100000 in
set_option maxHeartbeats 400000 in
theorem u1_le {u : Nat} (h : u ≤ 16) : u1 u ≤ 16 := by unfold u1; split <;> omega
set_option maxRecDepth 100000 in
set_option maxHeartbeats 400000 in
theorem x1_lt {x : Nat} : x1 x < 16 := by unfold x1; split <;> omega
set_option maxRecDepth 100000 in
set_option maxHeartbeats 400000 in
theorem hi_1 {u x i : Nat} (hu : u < 16) (hx : x < 16) (hi : i < u) : (x1 x + 16 - u1 u + i) % 16 = (x + 16 - u + i) % 16 ∧ (x + 16 - u + i) % 16 ≠ x := by
  unfold x1 u1
  split <;> (try split) <;> omega
set_option maxRecDepth 100000 in
set_option maxHeartbeats 400000 in
theorem hi_2 {u x : Nat} (hu : u < 16) (hx : x < 16) : (x1 x + 16 - u1 u + u) % 16 = x := by
  unfold x1 u1
  split <;> (try split) <;> omega
set_option maxRecDepth 100000 in
set_option maxHeartbeats 400000 in
theorem hi_3 {x i : Nat} (hx : x < 16) (hi : i < 15) : (x1 x + 16 - u1 16 + i) % 16 = (x + 16 - 16 + (i + 1)) % 16 ∧ (x + 16 - 16 + (i + 1)) % 16 ≠ x := by
  unfold x1 u1
  split <;> (try split) <;> omega
set_option maxRecDepth 100000 in
set_option maxHeartbeats 400000 in
theorem hi_4 {x : Nat} (hx : x < 16) : (x1 x + 16 - u1 16 + 15) % 16 = x := by
  unfold x1 u1
  split <;> (try split) <;> omega
set_option maxRecDepth 100000 in
set_option maxHeartbeats 400000 in
theorem plA_h : ∀ x, x < 16 → plA (58 + 4 * x)
  | 0, _ => plA_58
  | 1, _ => plA_62
  | 2, _ => plA_66
  | 3, _ => plA_70
  | 4, _ => plA_74
  | 5, _ => plA_78
  | 6, _ => plA_82
  | 7, _ => plA_86
  | 8, _ => plA_90
  | 9, _ => plA_94
  | 10, _ => plA_98
  | 11, _ => plA_102
  | 12, _ => plA_106
  | 13, _ => plA_110
  | 14, _ => plA_114
  | 15, _ => plA_118
  | n + 16, h => absurd h (by omega)
set_option maxRecDepth 100000 in
set_option maxHeartbeats 400000 in
theorem plA_i : ∀ x, x < 3 → plA (124 + 4 * x)
  | 0, _ => plA_124
  | 1, _ => plA_128
  | 2, _ => plA_132
  | n + 3, h => absurd h (by omega)
set_option maxRecDepth 100000 in
set_option maxHeartbeats 400000 in
theorem agR_tr {R Q V : Row} {P N : Nat} (h : agR R Q P N) (h' : agR Q V P N) : agR R V P N := ⟨fun p hp => ⟨(h.1 p hp).1.trans (h'.1 p hp).1, (h.1 p hp).2.trans (h'.1 p hp).2⟩, fun j a b => (h.2.1 j a b).trans (h'.2.1 j a b), fun k hk => (h.2.2 k hk).trans (h'.2.2 k hk)⟩
set_option maxRecDepth 100000 in
set_option maxHeartbeats 400000 in
theorem ag_22 {R Q : Row} {P N : Nat} (hP : P ≤ 5) (hN : N ≤ 8) (h : ∀ j, j < 22 → R j = Q j) : agR R Q P N := ⟨fun p hp => ⟨h p (by omega), h (5 + p) (by omega)⟩, fun j a b => h j (by omega), fun k hk => h (14 + k) (by omega)⟩
set_option maxRecDepth 100000 in
set_option maxHeartbeats 400000 in
theorem Fdd_ag {R Q : Row} {P N : Nat} (h : agR R Q P N) (hq : Fdd Q P) : Fdd R P := fun p hp => by
  obtain ⟨a, d, h1, h2, h3, h4⟩ := hq p hp
  exact ⟨a, d, h1, h2, by rw [(h.1 p hp).2]; exact h3, by rw [h.2.1 13 (by omega) (by omega)]; exact h4⟩
set_option maxRecDepth 100000 in
set_option maxHeartbeats 400000 in
theorem Rl_bas2 {S : Mem} {T : Nat → Nat} (h : Rl S T) : ∃ ht P N F U E, Bas S T ht P N F U E ∧ (ht = true → FdA S P) := by
  obtain ⟨h0, h1, h2, h3⟩ := h
  obtain ⟨t1, t2, t3⟩ := tT_pl h0
  rcases h3 with ⟨z1, P, N, F, U, E, z2, z3⟩ | ⟨z1, z2⟩
  · refine ⟨true, P, N, F, U, E, ⟨t1, t2, ?_, ?_, z2.1.1.2.1, z2.1.1.2.2.2.1, z1, ?_, fun _ => z2, fun z => by cases z⟩, fun _ => z3⟩
    · rw [z2.2.1.1 3 (by omega)]; exact z2.1.1.1
    · rw [z2.2.1.1 4 (by omega)]; exact z2.1.1.2.2.1
    · have := z2.1.2.1
      rw [decide_eq_false (by omega)]; rfl
  · exact ⟨false, 0, 0, 0, 0, 0, ⟨t1, t2, z2.1 3 (by omega), z2.1 4 (by omega), by omega, by omega, z1, rfl, (fun z => by cases z), fun _ => ⟨rfl, rfl⟩⟩, (fun z => by cases z)⟩
-- an act keeps the relation
set_option maxRecDepth 100000 in
set_option maxHeartbeats 400000 in
theorem act_Rl {S S' : Mem} {T : Nat → Nat} {P N F U E u x : Nat} (h : Rl S T) (h14 : S 167 14 = nI 1) (hy : Yes S (T 0) P N F U E) (hfd : FdA S P) (hu : u ≤ 16) (hx : x < 16) (h23 : S 167 23 = nI u) (hw : ∀ i, i < u → agR (S (58 + 4 * ((x + 16 - u + i) % 16))) (rw22 S 176 i) P N ∧ Inv (rw22 S 176 i) P N 999)
    (hf : fr S S' AL) (hk : ∀ k, k < 16 → k ≠ x → S' (58 + 4 * k) = S (58 + 4 * k)) (hkx : agR (S' (58 + 4 * x)) (S 174) P N) (e560 : S' 56 0 = nI (u1 u)) (e561 : S' 56 1 = nI (x1 x)) (e23 : S' 167 23 = nI (u1 u)) (h176 : ∀ i, i < u1 u → ∀ j, j < 22 → rw22 S' 176 i j = nrw S u i j)
    (hag : agR (S' 139) (S' 174) P N) (hin : Inv (S' 174) P N 999) (hfd' : Fdd (S' 174) P) (h011 : S' 0 11 = nI 0) (h012 : S' 0 12 = S 0 12) (hm11 : S' 167 11 = nI 0) (hpm : ∀ j, j ∈ pM → j ≠ 23 → S' 167 j = S 167 j) : Rl S' T := by
  obtain ⟨h0, h1, h2, -⟩ := h
  have ho : ∀ c, c ∉ AL → S' c = S c := hf
  have e1 : S' 1 = S 1 := ho 1 (by decide)
  have e2 : S' 2 = S 2 := ho 2 (by decide)
  have e168 : S' 168 = S 168 := ho 168 (by decide)
  have e170 : S' 170 = S 170 := ho 170 (by decide)
  have e172 : S' 172 = S 172 := ho 172 (by decide)
  have e177 : S' 177 = S 177 := ho 177 (by decide)
  have e122 : S' 122 = S 122 := ho 122 (by decide)
  have et : S' (T 0) = S (T 0) := by
    rcases h0 with z | z
    · rw [z.1]; exact ho 143 (by decide)
    · rw [z.1]; exact ho 155 (by decide)
  have ei : ∀ k, k < 3 → S' (124 + 4 * k) = S (124 + 4 * k) := fun k hk => ho _ (by
    have : ∀ k, k < 3 → (124 + 4 * k) ∉ AL := by decide
    exact this k hk)
  have p2 := hpm 2 (by decide) (by decide)
  have p9 := hpm 9 (by decide) (by decide)
  have p14 := hpm 14 (by decide) (by decide)
  have p24 := hpm 24 (by decide) (by decide)
  obtain ⟨y1, y2, y3, y4, y5, y6, -, ⟨v, v1, v2, v3, v4⟩⟩ := hy
  have hP5 : P ≤ 5 := y1.1.2.1
  have hN8 : N ≤ 8 := y1.1.2.2.2.1
  have hrow : ∀ i, i < u1 u → ∃ Q, agR (rw22 S' 176 i) Q P N ∧ agR (S' (58 + 4 * ((x1 x + 16 - u1 u + i) % 16))) Q P N ∧ Inv Q P N 999 ∧ Fdd Q P := by
    intro i hi
    have h22 := h176 i hi
    by_cases hu16 : u = 16
    · subst hu16
      by_cases hi15 : i < 15
      · obtain ⟨a1, a2⟩ := hi_3 hx hi15
        obtain ⟨b1, b2⟩ := hw (i + 1) (by omega)
        refine ⟨rw22 S 176 (i + 1), ag_22 hP5 hN8 (fun j hj => ?_), ?_, b2, hfd.2.1 16 (by omega) h23 (i + 1) (by omega)⟩
        · rw [h22 j hj]
          unfold nrw
          rw [if_pos rfl, if_pos hi15]
        · rw [a1, hk _ (Nat.mod_lt _ (by omega)) a2]
          exact b1
      · have e15 : i = 15 := by unfold u1 at hi; rw [if_neg (by omega)] at hi; omega
        subst e15
        refine ⟨S 174, ag_22 hP5 hN8 (fun j hj => ?_), ?_, y6, hfd.1⟩
        · rw [h22 j hj]
          unfold nrw
          rw [if_pos rfl, if_neg hi15]
        · rw [hi_4 hx]
          exact hkx
    · by_cases hiu : i < u
      · obtain ⟨a1, a2⟩ := hi_1 (by omega) hx hiu
        obtain ⟨b1, b2⟩ := hw i hiu
        refine ⟨rw22 S 176 i, ag_22 hP5 hN8 (fun j hj => ?_), ?_, b2, hfd.2.1 u hu h23 i hiu⟩
        · rw [h22 j hj]
          unfold nrw
          rw [if_neg hu16, if_pos hiu]
        · rw [a1, hk _ (Nat.mod_lt _ (by omega)) a2]
          exact b1
      · have eu : i = u := by unfold u1 at hi; rw [if_pos (by omega)] at hi; omega
        subst eu
        refine ⟨S 174, ag_22 hP5 hN8 (fun j hj => ?_), ?_, y6, hfd.1⟩
        · rw [h22 j hj]
          unfold nrw
          rw [if_neg hu16, if_neg hiu]
        · rw [hi_2 (by omega) hx]
          exact hkx
  refine ⟨h0, ?_, ⟨by rw [h011, hm11], by rw [h012, p9]; exact h2.2.1, fun z => absurd z (by rw [hm11]; decide)⟩, Or.inl ⟨by rw [p14]; exact h14, P, N, F, U, E, ⟨by rw [e170]; exact y1, by rw [e170, et]; exact y2, by rw [e170, et]; exact y3, ?_, hag, hin, ⟨u1 u, x1 x, u1_le hu, x1_lt, e560, e561, e23, fun i hi => ?_⟩, ⟨v, v1, by rw [e122]; exact v2, by rw [p24]; exact v3, fun i hi => ?_⟩⟩, hfd', fun u' hu' hu2 i hi => ?_, fun v' hv' hv2 i hi => ?_⟩⟩
  · unfold Tpe at h1 ⊢
    rw [e1, e2, e168, p2]
    exact h1
  · unfold Tld at y4 ⊢
    rw [et, e172]
    exact y4
  · obtain ⟨Q, q1, q2, q3, q4⟩ := hrow i hi
    exact ⟨agR_tr q2 (agR_sy q1), Inv_ag q1 q3⟩
  · have := v4 i hi
    unfold rw22 at this ⊢
    rw [ei i (by omega), e177]
    exact this
  · rw [e23] at hu2
    have eu : u1 u = u' := by rwa [eq_eq (by have := u1_le hu; omega) (by omega)] at hu2
    obtain ⟨Q, q1, q2, q3, q4⟩ := hrow i (by omega)
    exact Fdd_ag q1 q4
  · rw [p24] at hv2
    have := hfd.2.2 v' hv' hv2 i hi
    unfold rw22 at this ⊢
    rw [e177]
    exact this
section ACT0
variable {S : Mem} {J : MeJ} {T : Nat → Nat}
set_option maxRecDepth 100000 in
set_option maxHeartbeats 400000 in
theorem c_hkeep {u x : Nat} (hu : u ≤ 16) (hx : x < 16) (h0 : S 56 0 = nI u) (h1 : S 56 1 = nI x) : ∃ S', gX4_keep 56 139 (hp S J T) = some (hp S' J T) ∧ S' (58 + 4 * x) = cpR (S 139) (S (58 + 4 * x)) 22 ∧ S' 56 0 = nI (u1 u) ∧ S' 56 1 = nI (x1 x) ∧ fr S S' [56, 58 + 4 * x] := by
  have hpl := plA_h x hx
  refine ⟨stR (stR S (58 + 4 * x) (cpR (S 139) (S (58 + 4 * x)) 22)) 56 (up (up (S 56) 1 (nI (x1 x))) 0 (nI (u1 u))), ?_, ?_, ?_, ?_, ?_⟩
  · by_cases hx1 : x + 1 < 16
    · by_cases hu1 : u < 16
      · have a1 : ¬ 16 < u + 1 := by omega
        simp (disch := omega) only [gX4_keep, fX4_keep_0, fX4_keep_10, fX4_keep_13, fX4_keep_25, fX4_keep_34, fX4_keep_35, fX4_keep_47, fX4_keep_50, hi_f2, hi_r2, hi_g1, pl_isO hpl, kI_1, kB_16, kI_0, hi_p1, hi_g0, hi_p0, Option.bind_some, n35, n9, n19, n51, n59, nI_add, ix2, ix8, ix22, ix5, ↓reduceIte, h0, h1, c_copy hpl plA_139 (show 139 ≠ 58 + 4 * x by omega), stR_ne (show 56 ≠ 58 + 4 * x by omega), lt_eq, hx1, a1, stS_R, stR_stR, stR_eq, up_ne, x1, u1, hu1]
      · have a1 : 16 < u + 1 := by omega
        simp (disch := omega) only [gX4_keep, fX4_keep_0, fX4_keep_10, fX4_keep_13, fX4_keep_25, fX4_keep_34, fX4_keep_35, fX4_keep_47, fX4_keep_50, hi_f2, hi_r2, hi_g1, pl_isO hpl, kI_1, kB_16, kI_0, hi_p1, hi_g0, hi_p0, Option.bind_some, n35, n9, n19, n51, n59, nI_add, ix2, ix8, ix22, ix5, ↓reduceIte, h0, h1, c_copy hpl plA_139 (show 139 ≠ 58 + 4 * x by omega), stR_ne (show 56 ≠ 58 + 4 * x by omega), lt_eq, hx1, a1, stS_R, stR_stR, stR_eq, up_ne, x1, u1, hu1]
    · by_cases hu1 : u < 16
      · have a1 : ¬ 16 < u + 1 := by omega
        simp (disch := omega) only [gX4_keep, fX4_keep_0, fX4_keep_10, fX4_keep_13, fX4_keep_25, fX4_keep_34, fX4_keep_35, fX4_keep_47, fX4_keep_50, hi_f2, hi_r2, hi_g1, pl_isO hpl, kI_1, kB_16, kI_0, hi_p1, hi_g0, hi_p0, Option.bind_some, n35, n9, n19, n51, n59, nI_add, ix2, ix8, ix22, ix5, ↓reduceIte, h0, h1, c_copy hpl plA_139 (show 139 ≠ 58 + 4 * x by omega), stR_ne (show 56 ≠ 58 + 4 * x by omega), lt_eq, hx1, a1, stS_R, stR_stR, stR_eq, up_ne, x1, u1, hu1]
      · have a1 : 16 < u + 1 := by omega
        simp (disch := omega) only [gX4_keep, fX4_keep_0, fX4_keep_10, fX4_keep_13, fX4_keep_25, fX4_keep_34, fX4_keep_35, fX4_keep_47, fX4_keep_50, hi_f2, hi_r2, hi_g1, pl_isO hpl, kI_1, kB_16, kI_0, hi_p1, hi_g0, hi_p0, Option.bind_some, n35, n9, n19, n51, n59, nI_add, ix2, ix8, ix22, ix5, ↓reduceIte, h0, h1, c_copy hpl plA_139 (show 139 ≠ 58 + 4 * x by omega), stR_ne (show 56 ≠ 58 + 4 * x by omega), lt_eq, hx1, a1, stS_R, stR_stR, stR_eq, up_ne, x1, u1, hu1]
  · rw [stR_ne (by omega), stR_eq]
  · rw [stR_eq, up_eq]
  · rw [stR_eq, up_ne (by omega), up_eq]
  · exact fr_st (fr_st (fr_rf S _) (by simp)) (by simp)
def shf (A : Row) (k : Nat) : Row := fun j => if j < k then A (j + 22) else A j
set_option maxRecDepth 100000 in
set_option maxHeartbeats 400000 in
theorem shf_0 (A : Row) : shf A 0 = A := by funext j; exact if_neg (by omega)
set_option maxRecDepth 100000 in
set_option maxHeartbeats 400000 in
theorem shf_s (A : Row) (k : Nat) : up (shf A k) k (A (k + 22)) = shf A (k + 1) := by
  funext j
  unfold up shf
  by_cases h : j = k
  · rw [if_pos h, if_pos (by omega), h]
  · rw [if_neg h]
    by_cases h2 : j < k
    · rw [if_pos h2, if_pos (by omega)]
    · rw [if_neg h2, if_neg (by omega)]
set_option maxRecDepth 100000 in
set_option maxHeartbeats 400000 in
theorem l_shift : lX11_note_11 FU 167 (nI 0) (hp S J T) = fX11_note_39 167 (hp (stR S 176 (shf (S 176) 330)) J T) := by
  have hz : hp S J T = hp (stR S 176 (shf (S 176) 0)) J T := by rw [shf_0, stR_self]
  conv => lhs; rw [hz]
  refine for_at lX11_note_11 fX11_note_11 (fun _ => rfl) (fun K k (R : Row) => K 167 (nI k) (hp (stR S 176 R) J T)) 330 (shf (S 176)) _ (fun K k hk => ?_) (fun K => ?_) (FU_lt (by omega))
  · have e : shf (S 176) k (k + 22) = S 176 (k + 22) := if_neg (by omega)
    rw [← shf_s]
    simp (disch := omega) only [fX11_note_11, fX11_note_18, kS_330, kB_22, kI_1, lt_eq, hk, mo_f21, mo_r21, mo_w21, Option.bind_some, ↓reduceIte, nI_add, stR_eq, e, stS_R, stR_stR]
  · simp (disch := omega) only [fX11_note_11, kS_330, lt_eq, Nat.lt_irrefl, ↓reduceIte]
set_option maxRecDepth 100000 in
set_option maxHeartbeats 400000 in
theorem s15 : nI 16 - nI 1 = nI 15 := by decide
set_option maxRecDepth 100000 in
set_option maxHeartbeats 400000 in
theorem c_note {u : Nat} (hu : u ≤ 16) (h0 : S 167 23 = nI u) : ∃ S', gX11_note 167 (hp S J T) = some (hp S' J T) ∧ (∀ i, i < u1 u → ∀ j, j < 22 → rw22 S' 176 i j = nrw S u i j) ∧ S' 167 = up (S 167) 23 (nI (u1 u)) ∧ fr S S' [167, 176] := by
  by_cases hu1 : u = 16
  · subst hu1
    refine ⟨stR (stR (stR (stR S 176 (shf (S 176) 330)) 167 (up (S 167) 23 (nI 15))) 176 (cpA (S 174) (shf (S 176) 330) 0 (22 * 15) 22)) 167 (up (S 167) 23 (nI 16)), ?_, fun i hi j hj => ?_, ?_, ?_⟩
    · have hc := c_cpy (S := stR (stR S 176 (shf (S 176) 330)) 167 (up (S 167) 23 (nI 15))) (J := J) (T := T) (c1 := 174) (c2 := 176) (n1 := 22) (n2 := 352) (i0 := 0) (i1 := 22 * 15) (n := 22) rfl rfl (by omega) (by omega) (by omega) (by omega) (by omega)
      rw [stR_ne (show 174 ≠ 167 by omega), stR_ne (show 174 ≠ 176 by omega), stR_ne (show 176 ≠ 167 by omega), stR_eq] at hc
      have h39 : fX11_note_39 167 (hp (stR S 176 (shf (S 176) 330)) J T) = some (hp (stR (stR (stR (stR S 176 (shf (S 176) 330)) 167 (up (S 167) 23 (nI 15))) 176 (cpA (S 174) (shf (S 176) 330) 0 (22 * 15) 22)) 167 (up (S 167) 23 (nI 16))) J T) := by
        have e16 : nI 15 + nI 1 = nI 16 := by decide
        simp (disch := omega) only [fX11_note_39, fX11_note_49, fX11_note_67, fX11_note_70, mo_g23, mo_p23, mo_f19, mo_f21, h0, stR_ne (show 167 ≠ 176 by omega), kI_1, kI_0, kB_22, s15, stS_R, stR_eq, up_eq, up_up, Option.bind_some, ix22, hc, e16]
      simp (disch := omega) only [gX11_note, fX11_note_0, fX11_note_9, mo_g23, h0, kB_16, kI_0, Option.bind_some, ↓reduceIte, l_shift, h39]
    · have e : rw22 (stR (stR (stR (stR S 176 (shf (S 176) 330)) 167 (up (S 167) 23 (nI 15))) 176 (cpA (S 174) (shf (S 176) 330) 0 (22 * 15) 22)) 167 (up (S 167) 23 (nI 16))) 176 i j = cpA (S 174) (shf (S 176) 330) 0 (22 * 15) 22 (22 * i + j) := by unfold rw22; rw [stR_ne (by omega), stR_eq]
      rw [e]
      unfold nrw cpA
      rw [if_pos rfl]
      have hi16 : i < 16 := hi
      by_cases hi15 : i < 15
      · rw [if_pos hi15, if_neg (by omega)]
        unfold shf rw22
        rw [if_pos (by omega)]
        exact congrArg (S 176) (by omega)
      · rw [if_neg hi15, if_pos (by omega)]
        exact congrArg (S 174) (by omega)
    · rw [stR_eq]; rfl
    · exact fr_st (fr_st (fr_st (fr_st (fr_rf S _) (by decide)) (by decide)) (by decide)) (by decide)
  · have hlt : u < 16 := by omega
    have hu2 : u1 u = u + 1 := if_pos hlt
    refine ⟨stR (stR S 176 (cpA (S 174) (S 176) 0 (22 * u) 22)) 167 (up (S 167) 23 (nI (u + 1))), ?_, fun i hi j hj => ?_, ?_, ?_⟩
    · have hc := c_cpy (S := S) (J := J) (T := T) (c1 := 174) (c2 := 176) (n1 := 22) (n2 := 352) (i0 := 0) (i1 := 22 * u) (n := 22) rfl rfl (by omega) (by omega) (by omega) (by omega) (by omega)
      simp (disch := omega) only [gX11_note, fX11_note_0, fX11_note_49, fX11_note_67, fX11_note_70, mo_g23, mo_p23, mo_f19, mo_f21, h0, stR_ne (show 167 ≠ 176 by omega), kI_1, kI_0, kB_22, kB_16, eq_eq, hu1, stS_R, stR_eq, Option.bind_some, ↓reduceIte, ix22, hc, nI_add]
    · have e : rw22 (stR (stR S 176 (cpA (S 174) (S 176) 0 (22 * u) 22)) 167 (up (S 167) 23 (nI (u + 1)))) 176 i j = cpA (S 174) (S 176) 0 (22 * u) 22 (22 * i + j) := by unfold rw22; rw [stR_ne (by omega), stR_eq]
      rw [e]
      unfold nrw cpA
      rw [if_neg hu1]
      by_cases hiu : i < u
      · rw [if_pos hiu, if_neg (by omega)]
        rfl
      · rw [if_neg hiu, if_pos (by omega)]
        exact congrArg (S 174) (by omega)
    · rw [stR_eq, hu2]
    · exact fr_st (fr_st (fr_rf S _) (by decide)) (by decide)
end ACT0
