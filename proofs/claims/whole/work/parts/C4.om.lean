-- WHO FLINCHES: odds, mean
def bthJ (gc gm : aH → Option (Int64 × aH)) (S : Mem) (J : MeJ) (T : Nat → Nat) : Prop := ∃ (v : Int64) (S1 S2 : Mem) (J1 J2 : MeJ) (T1 : Nat → Nat), gc (hp S J T) = some (v, hp S1 J1 T1) ∧ gm (hp S1 J1 T1) = some (v, hp S2 J2 T1) ∧ Rl S2 T1
set_option maxRecDepth 100000 in
set_option maxHeartbeats 400000 in
theorem bthJ_q {gc gm : aH → Option (Int64 × aH)} {S S1 : Mem} {J J1 : MeJ} {T : Nat → Nat} (h : Rl S T) {v : Int64} {tr : Int32} (hc : gc (hp S J T) = some (v, hp S1 J1 T)) (a2 : fr S S1 CL) (a3 : S1 0 11 = tr) (a4 : S1 0 12 = S 0 12) (hm : ∃ S2 J2, gm (hp S1 J1 T) = some (v, hp S2 J2 T) ∧ fr S1 S2 ML ∧ S2 167 11 = tr ∧ ∀ j, j ∈ pM → S2 167 j = S1 167 j) (h4 : tr ≠ nI 4) : bthJ gc gm S J T := by
  obtain ⟨S2, J2, b1, b2, b3, b4⟩ := hm
  refine ⟨v, S1, S2, J1, J2, T, hc, b1, Rl_q h ?_ ?_ ?_ (by rw [b3]; exact h4) (fun j hj => ?_)⟩
  · exact fr_tr (fr_mo a2 (fun c hc => List.mem_append_left _ hc)) (fr_mo b2 (fun c hc => List.mem_append_right _ hc))
  · rw [b2 0 (by decide)]; exact a4
  · rw [b2 0 (by decide), a3, b3]
  · rw [b4 j hj, a2 167 (by decide)]
set_option maxRecDepth 100000 in
set_option maxHeartbeats 400000 in
theorem oi_eq {x : Option Nat} (hx : ∀ k, x = some k → k < 5000) {j : Nat} (hj : j < 5000) : (oi x = nI j) = (x = some j) := by
  cases x with
  | none => rw [on_nI hj]; exact (eq_false (fun z => by cases z)).symm
  | some k =>
    rw [oi_some, eq_eq (hx k rfl) hj]
    exact propext ⟨fun z => by rw [z], fun z => Option.some.inj z⟩
set_option maxRecDepth 100000 in
set_option maxHeartbeats 400000 in
theorem sumF_add {a b c : Nat → Nat} : ∀ n, sumF (fun k => (a k + b k) * c k) n = sumF (fun k => a k * c k) n + sumF (fun k => b k * c k) n := by
  intro n
  induction n with
  | zero => rfl
  | succ n ih =>
    show sumF _ n + (a n + b n) * c n = (sumF _ n + a n * c n) + (sumF _ n + b n * c n)
    rw [ih, Nat.add_mul]
    omega
set_option maxRecDepth 100000 in
set_option maxHeartbeats 400000 in
theorem sumF_one {x : Option Nat} {w : Nat} {c : Nat → Nat} : ∀ n, sumF (fun k => (if x = some k then w else 0) * c k) n = match x with
    | none => 0
    | some j => if j < n then w * c j else 0 := by
  intro n
  cases x with
  | none =>
    induction n with
    | zero => rfl
    | succ n ih =>
      show sumF _ n + (if none = some n then w else 0) * c n = 0
      rw [if_neg (fun z => by cases z), Nat.zero_mul]
      exact ih
  | some j =>
    induction n with
    | zero => exact (if_neg (by omega)).symm
    | succ n ih =>
      show sumF _ n + (if some j = some n then w else 0) * c n = if j < n + 1 then w * c j else 0
      have ih' : sumF (fun k => (if some j = some k then w else 0) * c k) n = if j < n then w * c j else 0 := ih
      rw [ih']
      by_cases z : j = n
      · subst z
        rw [if_neg (by omega), if_pos rfl, if_pos (by omega), Nat.zero_add]
      · rw [if_neg (show ¬ some j = some n from fun q => z (Option.some.inj q)), Nat.zero_mul, Nat.add_zero]
        by_cases y : j < n
        · rw [if_pos y, if_pos (by omega)]
        · rw [if_neg y, if_neg (by omega)]
set_option maxRecDepth 100000 in
set_option maxHeartbeats 400000 in
theorem wA_wC {r R : Row} {P N F f M : Nat} : ∀ n, sumF (fun k => sumF (wA r R P N F f M k) n * cN2 (R (14 + k))) N = sumF (wC r R P N F f M) n := by
  intro n
  induction n with
  | zero =>
    have : ∀ m, sumF (fun k => sumF (wA r R P N F f M k) 0 * cN2 (R (14 + k))) m = 0 := by
      intro m
      induction m with
      | zero => rfl
      | succ m ih =>
        show sumF _ m + 0 * _ = 0
        rw [ih, Nat.zero_mul]
    exact this N
  | succ n ih =>
    show sumF (fun k => (sumF (wA r R P N F f M k) n + wA r R P N F f M k n) * cN2 (R (14 + k))) N = sumF (wC r R P N F f M) n + wC r R P N F f M n
    rw [sumF_add, ih]
    have e := sumF_one (x := wht r R P N F (bt (nI n)) M) (w := wS f M n) (c := fun k => cN2 (R (14 + k))) N
    have e2 : sumF (fun k => wA r R P N F f M k n * cN2 (R (14 + k))) N = wC r R P N F f M n := by
      refine Eq.trans e ?_
      unfold wC
      cases hx : wht r R P N F (bt (nI n)) M with
      | none => rfl
      | some j => exact if_pos (wht_lt hx)
    rw [e2]
section OM
variable {S : Mem} {J : MeJ} {T : Nat → Nat} {t P N F : Nat}
set_option maxRecDepth 100000 in
set_option maxHeartbeats 400000 in
theorem c_wow (htl : tlA t) (hN : S t 4 = nI N) (hN8 : N ≤ 8) {W w : Nat → Nat} (hW : ∀ k, k < N → J 48 k = nJ (W k)) (hw : ∀ k, k < N → S 139 (14 + k) = nI (w k) ∧ w k ≤ 100) : gX0_weightOfWorths 47 t 139 (hp S J T) = some (nJ (sumF (fun k => W k * w k) N), hp S J T) := by
  unfold gX0_weightOfWorths fX0_weightOfWorths_0
  rw [kI_0, kJ_0]
  refine for_at lX0_weightOfWorths_5 fX0_weightOfWorths_5 (fun _ => rfl) (fun K k y => K 47 t 139 y (nI k) (hp S J T)) N (fun k => nJ (sumF (fun k => W k * w k) k)) _ (fun K k hk => ?_) (fun K => ?_) (FU_lt (by omega))
  · have e : nJ (sumF (fun k => W k * w k) k) + nJ (W k) * (nI (w k)).toInt64 = nJ (sumF (fun k => W k * w k) (k + 1)) := by
      rw [(tJ (w k) (hw k hk).2).1, nJ_mul, nJ_add]
      rfl
    simp (disch := omega) only [gX0_weightOfWorths, fX0_weightOfWorths_0, fX0_weightOfWorths_5, fX0_weightOfWorths_14, fX0_weightOfWorths_39, kI_0, tl_g4 htl, ch_f1, ch_r1, pl_f2 plA_139, pl_r2 plA_139, kI_1, Option.bind_some, n35, n9, n19, n51, n59, nI_add, ix2, ix8, ix22, ix5, ↓reduceIte, hN, lt_eq, hk, hW k hk, (hw k hk).1, e]
  · simp (disch := omega) only [gX0_weightOfWorths, fX0_weightOfWorths_0, fX0_weightOfWorths_5, fX0_weightOfWorths_14, fX0_weightOfWorths_39, kI_0, tl_g4 htl, ch_f1, ch_r1, pl_f2 plA_139, pl_r2 plA_139, kI_1, Option.bind_some, n35, n9, n19, n51, n59, nI_add, ix2, ix8, ix22, ix5, ↓reduceIte, hN, lt_eq, Nat.lt_irrefl]
set_option maxRecDepth 100000 in
set_option maxHeartbeats 400000 in
theorem q_odds (h : Rl S T) (p n : Int32) (lw : Bool) : bthJ (fun h => gX10_odds 0 p n (bI lw) h) (fun h => gX11_odds 167 p n (bI lw) h) S J T := by
  obtain ⟨ht, P, N, F, U, E, hB⟩ := Rl_bas h
  obtain ⟨b1, b2, b3, b4, b5, b6, b7, b8, b9, b10⟩ := id hB
  have hanew : ∀ (S1 : Mem) (J1 : MeJ), gX11_anew 167 (hp S1 J1 T) = some (hp (stR S1 167 (nw S1)) J1 T) := fun S1 J1 => c_anew
  have hip : ∀ (S1 : Mem) (J1 : MeJ), S1 167 14 = S 167 14 → S1 170 = S 170 → gX11_isName 167 p (hp (stR S1 167 (nw S1)) J1 T) = some (bI (okB' p N), hp (stR S1 167 (nw S1)) J1 T) := fun S1 J1 h1 h2 => m_isN (S1 := stR S1 167 (nw S1)) (J := J1) (p := p) hB (by rw [stR_eq, nw14]; exact h1) (by rw [stR_ne (by omega)]; exact h2)
  cases hno : (okB' p N && inB n (nI 1) (nI 6)) with
  | false =>
    generalize hSa : stR S 0 (up (S 0) 11 (why (okB' p N) (inB n (nI 1) (nI 6)))) = Sa
    have e0 : Sa 0 = up (S 0) 11 (why (okB' p N) (inB n (nI 1) (nI 6))) := by rw [← hSa, stR_eq]
    have e1 : ∀ c, c ≠ 0 → Sa c = S c := fun c z => by rw [← hSa, stR_ne z]
    have hm64 : (-1 : Int64) = m1.toInt64 := by decide
    refine bthJ_q h (v := m1.toInt64) (tr := why (okB' p N) (inB n (nI 1) (nI 6))) (S1 := Sa) (J1 := J) ?_ (fun c hc => e1 c (fun z => hc (by rw [z]; decide))) (by rw [e0, up_eq]) (by rw [e0, up_ne (by omega)]) ⟨stR Sa 167 (up (nw Sa) 11 (why (okB' p N) (inB n (nI 1) (nI 6)))), J, ?_, fr_st (fr_rf Sa _) (by decide), by rw [stR_eq, up_eq], fun j hj => by rw [stR_eq]; exact nw_p Sa _ j hj⟩ (why_4 _ _)
    · rw [← hSa]
      simp (disch := omega) only [gX10_odds, fX10_odds_0, fX10_odds_3, fX10_odds_6, fX10_odds_10, fX10_odds_13, fX10_odds_16, fX10_odds_19, fX10_odds_20, fX10_odds_33, fX10_odds_36, fX10_odds_53, fX10_odds_56, lt_isO, kI_1, kB_6, lt_f4, lt_f9, lt_f8, ch_isO, ch_f1, ch_r1, ch_g0, Option.bind_some, n35, n9, n19, n51, n59, nI_add, ix2, ix8, ix22, ix5, ↓reduceIte, lt_isO, c_lacksName b1 b4, c_isRefused, hno, Bool.not_false, bI_t, n1_0, hm64]
    · have hi := hip Sa J (by rw [e1 167 (by omega)]) (e1 170 (by omega))
      simp (disch := omega) only [gX11_odds, fX11_odds_0, fX11_odds_1, fX11_odds_4, fX11_odds_7, fX11_odds_10, fX11_odds_14, fX11_odds_17, fX11_odds_20, fX11_odds_27, fX11_odds_30, fX11_odds_33, fX11_odds_35, fX11_odds_38, fX11_odds_41, fX11_odds_50, fX11_odds_53, mo_isO, kI_1, kB_6, mo_g42, mo_g41, Option.bind_some, n35, n9, n19, n51, n59, nI_add, ix2, ix8, ix22, ix5, ↓reduceIte, hanew, hi, c_in, c_why, why_ne hno, c_no, stR_stR, stR_eq]
  | true =>
    rw [Bool.and_eq_true] at hno
    obtain ⟨hok, hin⟩ := hno
    obtain rfl := ok_yesN hB hok
    obtain ⟨j, hj, rfl⟩ := okB_t (by omega) hok
    have hln : gX10_lacksName 0 (nI j) (hp S J T) = some (nI 0, hp S J T) := by rw [c_lacksName b1 b4, hok]; rfl
    obtain ⟨M, hM0, hM, rfl⟩ := inB_t (by omega) (by omega) hin
    have hy := b9 rfl
    obtain ⟨f, hf, ef⟩ := hy.1.2.2.2.2.2.2.2.2.1
    have hTb : TbS (S (T 0)) P N := TbS_ag hy.2.1 hy.1.1
    have hI1 : Inv (S 139) P N 999 := Inv_ag hy.2.2.2.2.1 hy.2.2.2.2.2.1
    have h100 : 100 ^ M < 2 ^ 62 := s62 hM
    have hp100 : 0 < 100 ^ M := Nat.pow_pos (by omega)
    have hall := wS_all M (by omega) f (by omega)
    have hwag : ∀ s, wht (S (T 0)) (S 139) P N F (bt (nI s)) M = wht (S 170) (S 174) P N F (bt (nI s)) M := fun s => wht_ag hy.2.1 hy.2.2.2.2.1 b5 M
    generalize hSa : stR S 0 (up (S 0) 11 (nI 0)) = Sa
    have ha0 : Sa 0 = up (S 0) 11 (nI 0) := by rw [← hSa, stR_eq]
    have hae : ∀ c, c ≠ 0 → Sa c = S c := fun c z => by rw [← hSa, stR_ne z]
    obtain ⟨S1, J1, k1, k2, k3, k4⟩ := c_weighC (S := Sa) (J := J) (T := T) (t := T 0) (P := P) (N := N) (F := F) (M := M) (f := f) b1 b2 hTb (by rw [hy.2.1.1 5 (by omega)]; exact hy.1.2.2.1) hy.1.2.2.2.1 hM (by omega) hf (by rw [hy.2.1.1 2 (by omega)]; exact ef) hI1 (hae _ (by omega)) (hae 139 (by omega))
    have f0 : S1 0 = up (S 0) 11 (nI 0) := by rw [k4 0 (by decide), ha0]
    have fe : ∀ c, c ≠ 0 → c ∉ [49, 53] → S1 c = S c := fun c z1 z2 => by rw [k4 c z2, hae c z1]
    have e167 : S1 167 = S 167 := fe 167 (by omega) (by decide)
    have e170 : S1 170 = S 170 := fe 170 (by omega) (by decide)
    have e174 : S1 174 = S 174 := fe 174 (by omega) (by decide)
    have hcin : ∀ h : aH, gX11_in (nI M) (nI 1) (nI 6) h = some (nI 1, h) := fun h => by rw [c_in, hin]; rfl
    have hcw : ∀ (S1 : Mem) (J1 : MeJ), gX11_why 167 (nI 1) (nI 1) (hp S1 J1 T) = some (nI 0, hp S1 J1 T) := fun S1 J1 => c_why (a := true) (b := true)
    obtain ⟨S2, J2, m1', m2, m3, m4, m5⟩ := c_tryF (S := stR S1 167 (nw S1)) (J := J1) (T := T) (P := P) (N := N) (F := F) (M := M) (f := f) hy.1.1 hy.1.2.2.1 hy.1.2.2.2.1 hM (by omega) hf ef hy.2.2.2.2.2.1 (v1 := nI j) (by rw [stR_ne (by omega)]; exact e170) (by rw [stR_ne (by omega)]; exact e174)
    obtain ⟨q1, q2, q3⟩ := mfr_q m5
    have hup : sumF (wB (S 170) (S 174) P N F f M (nI j)) (2 ^ M) = sumF (wA (S (T 0)) (S 139) P N F f M j) (2 ^ M) := sumF_cg _ (fun s hs => by
      unfold wA wB
      rw [hwag s]
      have e := oi_eq (x := wht (S 170) (S 174) P N F (bt (nI s)) M) (fun k hk => by have := wht_lt hk; omega) (j := j) (by omega)
      by_cases z : wht (S 170) (S 174) P N F (bt (nI s)) M = some j
      · rw [if_pos z, if_pos (e.mpr z)]
      · rw [if_neg z, if_neg (fun y => z (e.mp y))])
    have hlt : sumF (wA (S (T 0)) (S 139) P N F f M j) (2 ^ M) < 2 ^ 62 := by
      refine Nat.lt_of_le_of_lt ?_ h100
      rw [← hall]
      have := sumF_le (f := wA (S (T 0)) (S 139) P N F f M j) (g := wS f M) (c := 1) (2 ^ M) (fun k hk => by
        unfold wA
        split <;> omega)
      omega
    rw [hup] at m3
    have k3j := k3 j (by omega)
    have hi := hip S1 J1 (by rw [e167]) e170
    rw [hok] at hi
    refine bthJ_q h (v := nJ (lowN (sumF (wA (S (T 0)) (S 139) P N F f M j) (2 ^ M)) (100 ^ M) lw)) (tr := nI 0) (S1 := S1) (J1 := J1) ?_ (fun c hc => fe c (fun z => hc (by rw [z]; decide)) (fun z => hc ((by decide : ∀ c, c ∈ [49, 53] → c ∈ CL) c z))) (by rw [f0, up_eq]) (by rw [f0, up_ne (by omega)]) ⟨S2, J2, ?_, q1, q2, q3⟩ n0_4
    · have hlo := c_lowC (h := hp S1 J1 T) (lw := lw) hlt h100 hp100
      simp (disch := omega) only [gX10_odds, fX10_odds_0, fX10_odds_3, fX10_odds_6, fX10_odds_10, fX10_odds_13, fX10_odds_16, fX10_odds_19, fX10_odds_20, fX10_odds_33, fX10_odds_36, fX10_odds_53, fX10_odds_56, lt_isO, kI_1, kB_6, lt_f4, lt_f9, lt_f8, ch_isO, ch_f1, ch_r1, ch_g0, Option.bind_some, n35, n9, n19, n51, n59, nI_add, ix2, ix8, ix22, ix5, ↓reduceIte, lt_isO, ch_isO, lt_f4, lt_f8, lt_f9, hln, c_isRef1 hin, n0_0, hSa, k1, ch_f1, ch_r1, ch_g0, k3j, k2, hlo]
    · have hlo := c_lowM (h := hp S2 J2 T) (lw := lw) hlt h100 hp100
      simp (disch := omega) only [gX11_odds, fX11_odds_0, fX11_odds_1, fX11_odds_4, fX11_odds_7, fX11_odds_10, fX11_odds_14, fX11_odds_17, fX11_odds_20, fX11_odds_27, fX11_odds_30, fX11_odds_33, fX11_odds_35, fX11_odds_38, fX11_odds_41, fX11_odds_50, fX11_odds_53, mo_isO, kI_1, kB_6, mo_g42, mo_g41, Option.bind_some, n35, n9, n19, n51, n59, nI_add, ix2, ix8, ix22, ix5, ↓reduceIte, hanew, hi, bI_t, hcin, hcw, n0_0, m1', mo_g41, mo_g42, m2, m3, hlo]
set_option maxRecDepth 100000 in
set_option maxHeartbeats 400000 in
theorem q_mean (h : Rl S T) (n : Int32) (lw : Bool) : bthJ (fun h => gX10_mean 0 n (bI lw) h) (fun h => gX11_mean 167 n (bI lw) h) S J T := by
  obtain ⟨ht, P, N, F, U, E, hB⟩ := Rl_bas h
  obtain ⟨b1, b2, b3, b4, b5, b6, b7, b8, b9, b10⟩ := id hB
  have hanew : ∀ (S1 : Mem) (J1 : MeJ), gX11_anew 167 (hp S1 J1 T) = some (hp (stR S1 167 (nw S1)) J1 T) := fun S1 J1 => c_anew
  cases hno : (ht && inB n (nI 1) (nI 6)) with
  | false =>
    generalize hSa : stR S 0 (up (S 0) 11 (why (ht) (inB n (nI 1) (nI 6)))) = Sa
    have e0 : Sa 0 = up (S 0) 11 (why (ht) (inB n (nI 1) (nI 6))) := by rw [← hSa, stR_eq]
    have e1 : ∀ c, c ≠ 0 → Sa c = S c := fun c z => by rw [← hSa, stR_ne z]
    have hm64 : (-1 : Int64) = m1.toInt64 := by decide
    refine bthJ_q h (v := m1.toInt64) (tr := why (ht) (inB n (nI 1) (nI 6))) (S1 := Sa) (J1 := J) ?_ (fun c hc => e1 c (fun z => hc (by rw [z]; decide))) (by rw [e0, up_eq]) (by rw [e0, up_ne (by omega)]) ⟨stR Sa 167 (up (nw Sa) 11 (why (ht) (inB n (nI 1) (nI 6)))), J, ?_, fr_st (fr_rf Sa _) (by decide), by rw [stR_eq, up_eq], fun j hj => by rw [stR_eq]; exact nw_p Sa _ j hj⟩ (why_4 _ _)
    · rw [← hSa]
      simp (disch := omega) only [gX10_mean, fX10_mean_0, fX10_mean_2, fX10_mean_5, fX10_mean_9, fX10_mean_12, fX10_mean_15, fX10_mean_18, fX10_mean_19, fX10_mean_32, fX10_mean_35, fX10_mean_47, fX10_mean_50, fX10_mean_58, fX10_mean_61, lt_isO, kI_1, kB_6, lt_f4, lt_f9, lt_f8, ch_isO, ch_g0, Option.bind_some, n35, n9, n19, n51, n59, nI_add, ix2, ix8, ix22, ix5, ↓reduceIte, lt_isO, c_lacksTable b1 b3 b5, b8, c_isRefused, hno, Bool.not_false, bI_t, n1_0, hm64]
    · have h14 : nw Sa 14 = bI ht := by rw [nw14, e1 167 (by omega)]; exact b7
      simp (disch := omega) only [gX11_mean, fX11_mean_0, fX11_mean_1, fX11_mean_4, fX11_mean_13, fX11_mean_16, fX11_mean_19, fX11_mean_24, fX11_mean_26, fX11_mean_29, fX11_mean_31, fX11_mean_34, fX11_mean_37, fX11_mean_46, fX11_mean_49, mo_isO, mo_g14, kI_1, kB_6, kI_n, mo_g43, mo_g41, Option.bind_some, n35, n9, n19, n51, n59, nI_add, ix2, ix8, ix22, ix5, ↓reduceIte, hanew, stR_eq, h14, c_in, c_why, why_ne hno, c_no, stR_stR]
  | true =>
    rw [Bool.and_eq_true] at hno
    obtain ⟨rfl, hin⟩ := hno
    have hln := c_lack1 (J := J) hB
    obtain ⟨M, hM0, hM, rfl⟩ := inB_t (by omega) (by omega) hin
    have hy := b9 rfl
    obtain ⟨f, hf, ef⟩ := hy.1.2.2.2.2.2.2.2.2.1
    have hTb : TbS (S (T 0)) P N := TbS_ag hy.2.1 hy.1.1
    have hI1 : Inv (S 139) P N 999 := Inv_ag hy.2.2.2.2.1 hy.2.2.2.2.2.1
    have h100 : 100 ^ M < 2 ^ 62 := s62 hM
    have hp100 : 0 < 100 ^ M := Nat.pow_pos (by omega)
    have hall := wS_all M (by omega) f (by omega)
    have hwag : ∀ s, wht (S (T 0)) (S 139) P N F (bt (nI s)) M = wht (S 170) (S 174) P N F (bt (nI s)) M := fun s => wht_ag hy.2.1 hy.2.2.2.2.1 b5 M
    generalize hSa : stR S 0 (up (S 0) 11 (nI 0)) = Sa
    have ha0 : Sa 0 = up (S 0) 11 (nI 0) := by rw [← hSa, stR_eq]
    have hae : ∀ c, c ≠ 0 → Sa c = S c := fun c z => by rw [← hSa, stR_ne z]
    obtain ⟨S1, J1, k1, k2, k3, k4⟩ := c_weighC (S := Sa) (J := J) (T := T) (t := T 0) (P := P) (N := N) (F := F) (M := M) (f := f) b1 b2 hTb (by rw [hy.2.1.1 5 (by omega)]; exact hy.1.2.2.1) hy.1.2.2.2.1 hM (by omega) hf (by rw [hy.2.1.1 2 (by omega)]; exact ef) hI1 (hae _ (by omega)) (hae 139 (by omega))
    have f0 : S1 0 = up (S 0) 11 (nI 0) := by rw [k4 0 (by decide), ha0]
    have fe : ∀ c, c ≠ 0 → c ∉ [49, 53] → S1 c = S c := fun c z1 z2 => by rw [k4 c z2, hae c z1]
    have e167 : S1 167 = S 167 := fe 167 (by omega) (by decide)
    have e170 : S1 170 = S 170 := fe 170 (by omega) (by decide)
    have e174 : S1 174 = S 174 := fe 174 (by omega) (by decide)
    have hcin : ∀ h : aH, gX11_in (nI M) (nI 1) (nI 6) h = some (nI 1, h) := fun h => by rw [c_in, hin]; rfl
    have hcw : ∀ (S1 : Mem) (J1 : MeJ), gX11_why 167 (nI 1) (nI 1) (hp S1 J1 T) = some (nI 0, hp S1 J1 T) := fun S1 J1 => c_why (a := true) (b := true)
    obtain ⟨S2, J2, m1', m2, m3, m4, m5⟩ := c_tryF (S := stR S1 167 (nw S1)) (J := J1) (T := T) (P := P) (N := N) (F := F) (M := M) (f := f) hy.1.1 hy.1.2.2.1 hy.1.2.2.2.1 hM (by omega) hf ef hy.2.2.2.2.2.1 (v1 := m1) (by rw [stR_ne (by omega)]; exact e170) (by rw [stR_ne (by omega)]; exact e174)
    obtain ⟨q1, q2, q3⟩ := mfr_q m5
    have hwo : ∀ k, k < N → S 139 (14 + k) = nI (cN2 (S 139 (14 + k))) ∧ cN2 (S 139 (14 + k)) ≤ 20 := fun k hk => sm_cN (hI1.2.2.2.2.1 k hk) (by omega)
    have hwC : sumF (wC (S 170) (S 174) P N F f M) (2 ^ M) = sumF (wC (S (T 0)) (S 139) P N F f M) (2 ^ M) := sumF_cg _ (fun s hs => by
      unfold wC
      rw [hwag s]
      cases hx : wht (S 170) (S 174) P N F (bt (nI s)) M with
      | none => rfl
      | some k =>
        show _ * cN2 (S 174 (14 + k)) = _ * cN2 (S 139 (14 + k))
        rw [hy.2.2.2.2.1.2.2 k (wht_lt hx)])
    have hlt : sumF (wC (S (T 0)) (S 139) P N F f M) (2 ^ M) < 2 ^ 62 := by
      have h1 := sumF_le (f := wC (S (T 0)) (S 139) P N F f M) (g := wS f M) (c := 20) (2 ^ M) (fun k hk => by
        unfold wC
        cases hx : wht (S (T 0)) (S 139) P N F (bt (nI k)) M with
        | none => exact Nat.zero_le _
        | some i =>
          show wS f M k * cN2 (S 139 (14 + i)) ≤ 20 * wS f M k
          rw [Nat.mul_comm]
          exact Nat.mul_le_mul_right _ (hwo i (wht_lt hx)).2)
      rw [hall] at h1
      refine Nat.lt_of_le_of_lt h1 ?_
      exact Nat.lt_of_le_of_lt (Nat.mul_le_mul_left 20 (Nat.pow_le_pow_right (by omega) hM)) (by decide)
    rw [hwC] at m4
    have hco := c_wow (S := S1) (J := J1) (T := T) (t := T 0) (N := N) (W := fun k => sumF (wA (S (T 0)) (S 139) P N F f M k) (2 ^ M)) (w := fun k => cN2 (S 139 (14 + k))) b1 (by rw [fe _ (by omega) (by simp; omega)]; exact b4) b6 (fun k hk => k3 k (by omega)) (fun k hk => by
      rw [fe 139 (by omega) (by decide)]
      exact ⟨(hwo k hk).1, by have := (hwo k hk).2; omega⟩)
    rw [wA_wC] at hco
    have h14 : nw S1 14 = nI 1 := by rw [nw14, e167]; exact b7
    refine bthJ_q h (v := nJ (lowN (sumF (wC (S (T 0)) (S 139) P N F f M) (2 ^ M)) (100 ^ M) lw)) (tr := nI 0) (S1 := S1) (J1 := J1) ?_ (fun c hc => fe c (fun z => hc (by rw [z]; decide)) (fun z => hc ((by decide : ∀ c, c ∈ [49, 53] → c ∈ CL) c z))) (by rw [f0, up_eq]) (by rw [f0, up_ne (by omega)]) ⟨S2, J2, ?_, q1, q2, q3⟩ n0_4
    · have hlo := c_lowC (h := hp S1 J1 T) (lw := lw) hlt h100 hp100
      simp (disch := omega) only [gX10_mean, fX10_mean_0, fX10_mean_2, fX10_mean_5, fX10_mean_9, fX10_mean_12, fX10_mean_15, fX10_mean_18, fX10_mean_19, fX10_mean_32, fX10_mean_35, fX10_mean_47, fX10_mean_50, fX10_mean_58, fX10_mean_61, lt_isO, kI_1, kB_6, lt_f4, lt_f9, lt_f8, ch_isO, ch_g0, Option.bind_some, n35, n9, n19, n51, n59, nI_add, ix2, ix8, ix22, ix5, ↓reduceIte, lt_isO, ch_isO, lt_f4, lt_f8, lt_f9, hln, c_isRef1 hin, n0_0, hSa, k1, hco, ch_g0, k2, hlo]
    · have hlo := c_lowM (h := hp S2 J2 T) (lw := lw) hlt h100 hp100
      simp (disch := omega) only [gX11_mean, fX11_mean_0, fX11_mean_1, fX11_mean_4, fX11_mean_13, fX11_mean_16, fX11_mean_19, fX11_mean_24, fX11_mean_26, fX11_mean_29, fX11_mean_31, fX11_mean_34, fX11_mean_37, fX11_mean_46, fX11_mean_49, mo_isO, mo_g14, kI_1, kB_6, kI_n, mo_g43, mo_g41, Option.bind_some, n35, n9, n19, n51, n59, nI_add, ix2, ix8, ix22, ix5, ↓reduceIte, hanew, stR_eq, h14, kI_n, hcin, hcw, n0_0, m1', mo_g41, mo_g43, m2, m4, hlo]
end OM
