-- QUESTIONS: what both stand on
def Bas (S : Mem) (T : Nat → Nat) (ht : Bool) (P N F U E : Nat) : Prop := tlA (T 0) ∧ 56 ≤ T 0 ∧ S (T 0) 3 = nI P ∧ S (T 0) 4 = nI N ∧ P ≤ 5 ∧ N ≤ 8 ∧ S 167 14 = bI ht ∧ decide (P = 0) = !ht ∧ (ht = true → Yes S (T 0) P N F U E) ∧ (ht = false → P = 0 ∧ N = 0)
set_option maxRecDepth 100000 in
set_option maxHeartbeats 400000 in
theorem Rl_bas {S : Mem} {T : Nat → Nat} (h : Rl S T) : ∃ ht P N F U E, Bas S T ht P N F U E := by
  obtain ⟨h0, h1, h2, h3⟩ := h
  obtain ⟨t1, t2, t3⟩ := tT_pl h0
  rcases h3 with ⟨z1, P, N, F, U, E, z2, z3⟩ | ⟨z1, z2⟩
  · refine ⟨true, P, N, F, U, E, t1, t2, ?_, ?_, z2.1.1.2.1, z2.1.1.2.2.2.1, z1, ?_, fun _ => z2, fun z => by cases z⟩
    · rw [z2.2.1.1 3 (by omega)]; exact z2.1.1.1
    · rw [z2.2.1.1 4 (by omega)]; exact z2.1.1.2.2.1
    · have := z2.1.2.1
      rw [decide_eq_false (by omega)]; rfl
  · exact ⟨false, 0, 0, 0, 0, 0, t1, t2, z2.1 3 (by omega), z2.1 4 (by omega), by omega, by omega, z1, rfl, (fun z => by cases z), fun _ => ⟨rfl, rfl⟩⟩
set_option maxRecDepth 100000 in
set_option maxHeartbeats 400000 in
theorem ok0 (p : Int32) : okB' p 0 = false := by
  unfold okB'
  refine decide_eq_false (fun z => ?_)
  exact z.1 z.2
set_option maxRecDepth 100000 in
set_option maxHeartbeats 400000 in
theorem TbS_ag {r q : Row} {P N F : Nat} (h : agT r q P N F) (ht : TbS q P N) : TbS r P N := by
  obtain ⟨a1, a2, a3, a4, a5, a6, a7, a8⟩ := ht
  refine ⟨by rw [h.1 3 (by omega)]; exact a1, a2, by rw [h.1 4 (by omega)]; exact a3, a4, by rw [h.1 0 (by omega)]; exact a5, by rw [h.1 1 (by omega)]; exact a6, fun p hp => by rw [(h.2.1 p hp).2]; exact a7 p hp, ?_⟩
  obtain ⟨k, hk, ek⟩ := a8
  exact ⟨k, hk, by rw [h.2.2.1 k hk]; exact ek⟩
set_option maxRecDepth 100000 in
set_option maxHeartbeats 400000 in
theorem Inv_ag {R Q : Row} {P N D : Nat} (h : agR R Q P N) (hi : Inv Q P N D) : Inv R P N D := by
  obtain ⟨a1, a2, a3, a4, a5, a6, a7, a8⟩ := hi
  exact ⟨fun p hp => by rw [(h.1 p hp).1]; exact a1 p hp, fun p hp hl => by rw [(h.1 p hp).1]; exact a2 p hp (by rw [← ag_lv h]; exact hl), fun p hp => by rw [(h.1 p hp).2]; exact a3 p hp, by rw [h.2.1 12 (by omega) (by omega)]; exact a4, fun k hk => by rw [h.2.2 k hk]; exact a5 k hk, by rw [h.2.1 10 (by omega) (by omega)]; exact a6, by rw [h.2.1 13 (by omega) (by omega)]; exact a7, by rw [h.2.1 11 (by omega) (by omega)]; exact a8⟩
set_option maxRecDepth 100000 in
set_option maxHeartbeats 400000 in
theorem agR_cp {A B Q : Row} {P N : Nat} (hP : P ≤ 5) (hN : N ≤ 8) (h : agR A Q P N) : agR (cpR A B 22) Q P N := by
  refine ⟨fun p hp => ⟨?_, ?_⟩, fun j h1 h2 => ?_, fun k hk => ?_⟩
  · rw [show cpR A B 22 p = A p from if_pos (by omega)]; exact (h.1 p hp).1
  · rw [show cpR A B 22 (5 + p) = A (5 + p) from if_pos (by omega)]; exact (h.1 p hp).2
  · rw [show cpR A B 22 j = A j from if_pos (by omega)]; exact h.2.1 j h1 h2
  · rw [show cpR A B 22 (14 + k) = A (14 + k) from if_pos (by omega)]; exact h.2.2 k hk
set_option maxRecDepth 100000 in
set_option maxHeartbeats 400000 in
theorem agR_rf (R : Row) (P N : Nat) : agR R R P N := ⟨fun _ _ => ⟨rfl, rfl⟩, fun _ _ _ => rfl, fun _ _ => rfl⟩
set_option maxRecDepth 100000 in
set_option maxHeartbeats 400000 in
theorem agR_sy {R Q : Row} {P N : Nat} (h : agR R Q P N) : agR Q R P N := ⟨fun p hp => ⟨(h.1 p hp).1.symm, (h.1 p hp).2.symm⟩, fun j a b => (h.2.1 j a b).symm, fun k hk => (h.2.2 k hk).symm⟩
set_option maxRecDepth 100000 in
set_option maxHeartbeats 400000 in
theorem agT_rf (r : Row) (P N F : Nat) : agT r r P N F := ⟨fun _ _ => rfl, fun _ _ => ⟨rfl, rfl⟩, fun _ _ => rfl, fun _ _ => ⟨rfl, rfl⟩⟩
-- the course, in the reference's words
def crM (S : Mem) (r : Row) (P N F : Nat) (R : Row) (n : Nat) : Prop :=
  agR (S 8) (dyN r P N F (r 0) n R) P N ∧ (∀ i, n = i + 1 → S 12 0 = oi (wn r (dyN r P N F (r 0) i R) P false) ∧ S 12 1 = oi (dWt r (dyN r P N F (r 0) i R) P N false)) ∧ (∀ p, p < P → S 15 p = aN r P N F (r 0) R n p) ∧ (∀ p, p < P → S 16 p = bN r P N F (r 0) R n p) ∧ S 7 4 = dN' r P N F (r 0) R n ∧ S 7 5 = wN r P N F (r 0) R n
def mcM (S : Mem) (r : Row) (P N F : Nat) (R : Row) (n : Nat) : Prop :=
  agR (S 175) (dyN r P N F (r 0) n R) P N ∧ (∀ i, n = i + 1 → S 167 25 = oi (wn r (dyN r P N F (r 0) i R) P false) ∧ S 167 26 = oi (dWt r (dyN r P N F (r 0) i R) P N false) ∧ (∀ p, p < 5 → S 178 p = nI (dayE r (dyN r P N F (r 0) i R) P N F (nI 0) false (r 0) p)))
section Q0
variable {S S0 : Mem} {J : MeJ} {T : Nat → Nat} {t P N F U E : Nat}
set_option maxRecDepth 100000 in
set_option maxHeartbeats 400000 in
theorem crs_M {r q : Row} {R Q : Row} {n : Nat} (hr : agT r q P N F) (h : agR R Q P N) (hP5 : P ≤ 5) (hc : crs S r P N F (r 0) R n) : crM S q P N F Q n := by
  obtain ⟨h1, h2, h3, h4, h5, h6⟩ := hc
  rw [hr.1 0 (by omega)] at h1 h2 h3 h4 h5 h6
  refine ⟨by rw [h1]; exact dyN_ag hr h hP5 n, fun i hi => ?_, fun p hp => ?_, fun p hp => ?_, ?_, ?_⟩
  · rw [← ag_wn hr (dyN_ag hr h hP5 i), ← ag_dWt hr (dyN_ag hr h hP5 i)]
    exact h2 i hi
  · rw [h3 p hp, aN_ag hr h hP5]
  · rw [h4 p hp, bN_ag hr h hP5]
  · rw [h5, dN_ag hr h hP5]
  · rw [h6, wN_ag hr h hP5]
set_option maxRecDepth 100000 in
set_option maxHeartbeats 400000 in
theorem mcr_M {r R Q : Row} {n : Nat} (h : agR R Q P N) (hP5 : P ≤ 5) (hc : mcr S r P N F R n) : mcM S r P N F Q n := by
  obtain ⟨h1, h2⟩ := hc
  have hr := agT_rf r P N F
  refine ⟨by rw [h1]; exact dyN_ag hr h hP5 n, fun i hi => ?_⟩
  obtain ⟨a1, a2, a3⟩ := h2 i hi
  refine ⟨?_, ?_, fun p hp => ?_⟩
  · rw [← ag_wn hr (dyN_ag hr h hP5 i)]; exact a1
  · rw [← ag_dWt hr (dyN_ag hr h hP5 i)]; exact a2
  · rw [← (ag_day hr (dyN_ag hr h hP5 i) hP5 _ _ _).2]; exact a3 p hp
set_option maxRecDepth 100000 in
set_option maxHeartbeats 400000 in
theorem y_walk (ht : tlA t) (ht0 : 56 ≤ t) (hy : Yes S t P N F U E) (h0t : S0 t = S t) (h0n : S0 139 = S 139) {n : Nat} (hn : n ≤ 60) : ∃ S', gX1_walk 7 t 139 (nI n) (hp S0 J T) = some (hp S' J T) ∧ crM S' (S 170) P N F (S 174) n ∧ fr S0 S' [7, 8, 12, 15, 16] := by
  obtain ⟨y1, y2, y3, y4, y5, y6, y7, y8⟩ := hy
  have hR : agR (cpR (S0 139) (S0 8) 22) (S 174) P N := agR_cp y1.1.2.1 y1.1.2.2.2.1 (by rw [h0n]; exact y5)
  obtain ⟨S', k1, k2, k3⟩ := c_walk (S := S0) (J := J) (T := T) (t := t) (a := 139) (P := P) (N := N) (F := F) (D := 999) ht ht0 plA_139 (by omega) (by rw [h0t]; exact TbS_ag y2 y1.1) (by rw [h0t, y2.1 5 (by omega)]; exact y1.2.2.1) y1.2.2.2.1 (Inv_ag hR y6) (n := n) (by omega) rfl
  refine ⟨S', k1, ?_, k3⟩
  rw [h0t] at k2
  exact crs_M y2 hR y1.1.2.1 k2
set_option maxRecDepth 100000 in
set_option maxHeartbeats 400000 in
theorem y_days (hy : Yes S t P N F U E) (h0r : S0 170 = S 170) (h0s : S0 174 = S 174) {n : Nat} (hn : n ≤ 60) : ∃ S', gX11_daysOn 167 (nI n) (hp S0 J T) = some (hp S' J T) ∧ mcM S' (S 170) P N F (S 174) n ∧ mfr S0 S' := by
  obtain ⟨y1, y2, y3, y4, y5, y6, y7, y8⟩ := hy
  have hR : agR (cpR (S0 174) (S0 175) 22) (S 174) P N := agR_cp y1.1.2.1 y1.1.2.2.2.1 (by rw [h0s]; exact agR_rf _ _ _)
  obtain ⟨S', k1, k2, k3⟩ := c_daysOn (S := S0) (J := J) (T := T) (P := P) (N := N) (F := F) (D := 999) (by rw [h0r]; exact y1.1) (by rw [h0r]; exact y1.2.2.1) y1.2.2.2.1 (Inv_ag hR y6) (n := n) (by omega) rfl
  refine ⟨S', k1, ?_, k3⟩
  rw [h0r] at k2
  exact mcr_M hR y1.1.2.1 k2
-- a question refused
set_option maxRecDepth 100000 in
set_option maxHeartbeats 400000 in
theorem cq_no {g : aH → Option (Int32 × aH)} {v tr : Int32} (h : g (hp S J T) = some (v, hp (stR S 0 (up (S 0) 11 tr)) J T)) : cq g S J T v tr := ⟨_, h, fr_st (fr_rf S _) (by decide), by rw [stR_eq, up_eq], by rw [stR_eq, up_ne (by omega)]⟩
set_option maxRecDepth 100000 in
set_option maxHeartbeats 400000 in
theorem mq_no {g : aH → Option (Int32 × aH)} {v tr : Int32} {X : Row} (h : g (hp S J T) = some (v, hp (stR S 167 X) J T)) (h11 : X 11 = tr) (hp : ∀ j, j ∈ pM → X j = S 167 j) : mq g S J T v tr := ⟨_, h, fr_st (fr_rf S _) (by decide), by rw [stR_eq]; exact h11, fun j hj => by rw [stR_eq]; exact hp j hj⟩
set_option maxRecDepth 100000 in
set_option maxHeartbeats 400000 in
theorem pM_ne {j : Nat} (h : j ∈ pM) : j ≠ 0 ∧ j ≠ 11 ∧ j ≠ 25 ∧ j ≠ 26 := by
  have : ∀ j, j ∈ pM → j ≠ 0 ∧ j ≠ 11 ∧ j ≠ 25 ∧ j ≠ 26 := by decide
  exact this j h
def nw (S : Mem) : Row := up (up (S 167) 0 (nI 0)) 11 (nI 0)
set_option maxRecDepth 100000 in
set_option maxHeartbeats 400000 in
theorem nw_p (S : Mem) (x : Int32) : ∀ j, j ∈ pM → up (nw S) 11 x j = S 167 j := by
  intro j hj
  obtain ⟨a, b, -⟩ := pM_ne hj
  unfold nw
  rw [up_ne b, up_ne b, up_ne a]
set_option maxRecDepth 100000 in
set_option maxHeartbeats 400000 in
theorem nw_q (S : Mem) : ∀ j, j ∈ pM → nw S j = S 167 j := by
  intro j hj
  obtain ⟨a, b, -⟩ := pM_ne hj
  unfold nw
  rw [up_ne b, up_ne a]
set_option maxRecDepth 100000 in
set_option maxHeartbeats 400000 in
theorem fr_CL {S S1 S2 : Mem} (h : fr S S1 CL) (h2 : fr S1 S2 [7, 8, 12, 15, 16]) : fr S S2 CL := fr_tr h (fr_mo h2 (by decide))
set_option maxRecDepth 100000 in
set_option maxHeartbeats 400000 in
theorem mfr_q {S S' : Mem} (h : mfr (stR S 167 (nw S)) S') : fr S S' ML ∧ S' 167 11 = nI 0 ∧ ∀ j, j ∈ pM → S' 167 j = S 167 j := by
  refine ⟨fr_tr (fr_st (fr_rf S _) (by decide)) (fr_mo h.1 (by decide)), ?_, fun j hj => ?_⟩
  · rw [h.2 11 (by omega) (by omega), stR_eq]
    exact up_eq
  · obtain ⟨-, -, a, b⟩ := pM_ne hj
    rw [h.2 j a b, stR_eq]
    exact nw_q S j hj
end Q0
