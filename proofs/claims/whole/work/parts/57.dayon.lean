-- A DAY OF THE REFERENCE, WHOLE
def Fsm (R : Row) (P : Nat) : Prop := ∀ p, p < P → sm (R (5 + p)) 4000
def Lst (r : Row) (N : Nat) : Prop := ∃ k, k < N ∧ r (19 + 2 * k) = nI 0
set_option maxRecDepth 100000 in
set_option maxHeartbeats 400000 in
theorem se_sm {r R : Row} {p : Nat} {g : Int32} (h1 : sm (R (5 + p)) 4000) (h2 : sm g 4100) : ∃ n, n < 20000 ∧ se r R p g = nI n := by
  obtain ⟨a, ha, ea⟩ := h1
  obtain ⟨b, hb, eb⟩ := h2
  unfold se
  split
  · exact ⟨b + 3 * a, by omega, by rw [ea, eb, pk_mul, nI_add]⟩
  · split
    · exact ⟨2 * b, by omega, by rw [eb, pk_mul]⟩
    · exact ⟨b, by omega, eb⟩
set_option maxRecDepth 100000 in
set_option maxHeartbeats 400000 in
theorem nm_of {r : Row} {N : Nat} (hz : Lst r N) {hg : Int32} (h : ∃ n, n < 20000 ∧ hg = nI n) : ∃ k, nm r N hg = some k ∧ k < N := by
  obtain ⟨k, hk, ek⟩ := hz
  obtain ⟨n, hn, rfl⟩ := h
  refine nm_some ⟨k, hk, ?_⟩
  rw [ek]
  exact fun z => absurd ((nI_ltI (a := n) (b := 0) (by omega) (by omega)).mp z) (by omega)
set_option maxRecDepth 100000 in
set_option maxHeartbeats 400000 in
theorem nav {as : Option Nat} (ha : ∀ j, as = some j → j < 5) : ∀ k, k < 5 → (nI k = oi as) = (as = some k) := by
  intro k hk
  cases as with
  | none =>
    refine propext ⟨fun z => ?_, fun z => by cases z⟩
    have h1 : (nI k < 0) = False := nI_lt0 (by omega)
    rw [z, on_lt] at h1
    exact (cast h1 trivial : False).elim
  | some j =>
    have := ha j rfl
    rw [oi_some, eq_eq (by omega) (by omega)]
    exact propext ⟨fun z => by rw [z], fun z => by cases z; rfl⟩
set_option maxRecDepth 100000 in
set_option maxHeartbeats 400000 in
theorem nav1 : ∀ k, k < 5 → (nI k = m1) = ((none : Option Nat) = some k) := by
  intro k hk
  refine propext ⟨fun z => ?_, fun z => by cases z⟩
  have h1 : (nI k < 0) = False := nI_lt0 (by omega)
  rw [z, mn_lt] at h1
  exact (cast h1 trivial : False).elim
set_option maxRecDepth 100000 in
set_option maxHeartbeats 400000 in
theorem dPo_eq {r R : Row} {P N : Nat} {bowl : Int32} (h : Sml r R P N) (hb : sm bowl 20) : (if nI 99 < bowl + R 12 then nI 99 else bowl + R 12) = dPo R bowl := by
  obtain ⟨n, hn, en⟩ := h.2.2.1
  obtain ⟨k, hk, ek⟩ := hb
  unfold dPo
  rw [en, ek, nI_add, nI_add, Nat.add_comm k n]
  by_cases h1 : 99 < n + k
  · rw [if_pos ((lt_iff (by omega) (by omega)).mpr h1), if_neg (fun z => by have := (lt_iff (by omega) (by omega)).mp z; omega)]
  · rw [if_neg (fun z => h1 ((lt_iff (by omega) (by omega)).mp z))]
    by_cases h2 : n + k < 99
    · rw [if_pos ((lt_iff (by omega) (by omega)).mpr h2)]
    · rw [if_neg (fun z => h2 ((lt_iff (by omega) (by omega)).mp z)), show n + k = 99 by omega]
set_option maxRecDepth 100000 in
set_option maxHeartbeats 400000 in
theorem nr_lt {r R : Row} {P : Nat} {as : Option Nat} : ∀ j, nr r R P as = some j → j < P := by
  intro j hj
  have := am_lt (n := P) (k := 0) (b := none) (fun j h => by cases h) j hj
  omega
section DAYM
variable {S : Mem} {J : MeJ} {T : Nat → Nat} {w : Nat}
set_option maxRecDepth 100000 in
set_option maxHeartbeats 400000 in
theorem l_dayZ {a1 a2 : Int32} : lX11_dayOn_12 FU 167 w a1 a2 (nI 0) (hp S J T) = fX11_dayOn_32 167 w a1 a2 (hp (stR S 178 (flR (S 178) 0 (nI 0) 5)) J T) := by
  have h0 : hp S J T = hp (stR S 178 (flR (S 178) 0 (nI 0) 0)) J T := by rw [flR_0, stR_self]
  rw [h0]
  refine for_at lX11_dayOn_12 fX11_dayOn_12 (fun _ => rfl) (fun K k (R : Row) => K 167 w a1 a2 (nI k) (hp (stR S 178 R) J T)) 5 (flR (S 178) 0 (nI 0)) _ (fun K k hk => ?_) (fun K => ?_) (FU_lt (by omega))
  · rw [← flR_s]
    simp (disch := omega) only [fX11_dayOn_12, fX11_dayOn_18, kI_5, kI_0, kI_1, lt_eq, hk, ↓reduceIte, mo_f27, mo_w27, Option.bind_some, nI_add, stS_R, stR_stR, stR_eq, Nat.zero_add]
  · simp (disch := omega) only [fX11_dayOn_12, kI_5, lt_eq, Nat.lt_irrefl, ↓reduceIte]
set_option maxRecDepth 100000 in
set_option maxHeartbeats 400000 in
theorem l_dayG (hw : rwA w) (h0 : w ≠ 170) {P : Nat} (hP : S 170 3 = nI P) (hP5 : P ≤ 5) {a1 a2 : Int32} : lX11_dayOn_35 FU 167 w a1 a2 (nI 0) (hp S J T) = fX11_dayOn_87 167 w a1 a2 (hp (stR S w (grR (S 170) (S w) P)) J T) := by
  have hz : hp S J T = hp (stR S w (grR (S 170) (S w) 0)) J T := by rw [grR_0, stR_self]
  rw [hz]
  refine for_at lX11_dayOn_35 fX11_dayOn_35 (fun _ => rfl) (fun K k (R : Row) => K 167 w a1 a2 (nI k) (hp (stR S w R) J T)) P (grR (S 170) (S w)) _ (fun K k hk => ?_) (fun K => ?_) (FU_lt (by omega))
  · cases h1 : bt (S w 10) k with
    | true =>
      have hl : lv (S w) k = false := by unfold lv; rw [h1]; rfl
      have hlg : lv (grR (S 170) (S w) k) k = false := by rw [lv_gr (by omega)]; exact hl
      have hu : up (grR (S 170) (S w) k) k (S w k) = grR (S 170) (S w) k := by
        conv => lhs; rw [show S w k = grR (S 170) (S w) k k from (grR_ge (Nat.le_refl _)).symm]
        exact up_self
      rw [grR_2 hl]
      simp (disch := omega) only [fX11_dayOn_35, fX11_dayOn_46, fX11_dayOn_55, fX11_dayOn_58, fX11_dayOn_78, fX11_dayOn_79, kI_3, kI_0, kI_1, mo_f15, mo_r15, mo_isO, Option.bind_some, rw_r hw, rw_w hw, c_lives hw, stR_ne h0.symm, stR_eq, hP, lt_eq, hk, ↓reduceIte, hlg, bI_f, n0_0, grR_ge, add0, nI_add, stS_R, stR_stR, hu]
    | false =>
      have hl : lv (S w) k = true := by unfold lv; rw [h1]; rfl
      have hlg : lv (grR (S 170) (S w) k) k = true := by rw [lv_gr (by omega)]; exact hl
      rw [← grR_1 hl]
      simp (disch := omega) only [fX11_dayOn_35, fX11_dayOn_46, fX11_dayOn_55, fX11_dayOn_58, fX11_dayOn_61, fX11_dayOn_79, kI_3, kI_2, kI_1, kB_9, ix2, n9, mo_f15, mo_r15, mo_isO, Option.bind_some, rw_r hw, rw_w hw, c_lives hw, stR_ne h0.symm, stR_eq, hP, lt_eq, hk, ↓reduceIte, hlg, bI_t, n1_0, grR_ge, nI_add, stS_R, stR_stR]
  · simp (disch := omega) only [fX11_dayOn_35, kI_3, mo_f15, mo_r15, Option.bind_some, stR_ne h0.symm, hP, lt_eq, Nat.lt_irrefl, ↓reduceIte]
set_option maxRecDepth 100000 in
set_option maxHeartbeats 400000 in
theorem l_dayC (hw : rwA w) (h0 : w ≠ 170) {P : Nat} (hP : S 170 3 = nI P) (hP5 : P ≤ 5) {f : Int32} : lX11_dayOn_215 FU 167 w f (nI 0) (hp S J T) = some (hp (stR S w (dEnd (S 170) f (S w) P)) J T) := by
  have hz : hp S J T = hp (stR S w (clR (S 170) f (S w) 0)) J T := by rw [clR_0, stR_self]
  rw [hz]
  refine for_at lX11_dayOn_215 fX11_dayOn_215 (fun _ => rfl) (fun K k (R : Row) => K 167 w f (nI k) (hp (stR S w R) J T)) P (clR (S 170) f (S w)) _ (fun K k hk => ?_) (fun K => ?_) (FU_lt (by omega))
  · have hlc : lv (clR (S 170) f (S w) k) k = lv (S w) k := by unfold lv; rw [clR_10 (by omega), ddR_bt (by omega) (Nat.le_refl _)]
    cases h1 : lv (S w) k with
    | false =>
      rw [clR_2 h1]
      simp (disch := omega) only [fX11_dayOn_215, fX11_dayOn_226, fX11_dayOn_230, fX11_dayOn_233, fX11_dayOn_236, fX11_dayOn_291, kI_3, kI_1, mo_f15, mo_r15, mo_isO, Option.bind_some, c_lives hw, stR_ne h0.symm, stR_eq, hP, lt_eq, hk, ↓reduceIte, hlc, h1, bI_f, n0_0, nI_add]
    | true =>
      rw [← clR_1 (by omega) h1]
      by_cases h2 : S 170 1 < S w k
      · have e : ddR (S 170) (S w) (k + 1) = ddR (S 170) (S w) k ||| (nI 1 <<< (nI k &&& 31)) := by
          show (if _ then _ else _) = _
          rw [if_pos ⟨h1, h2⟩]
        rw [e]
        cases h3 : bt f k <;> simp (disch := omega) only [fX11_dayOn_215, fX11_dayOn_226, fX11_dayOn_230, fX11_dayOn_233, fX11_dayOn_239, fX11_dayOn_248, fX11_dayOn_251, fX11_dayOn_254, fX11_dayOn_265, fX11_dayOn_266, fX11_dayOn_280, fX11_dayOn_291, kI_3, kI_1, kI_0, kI_5, kB_10, mo_f15, mo_r15, mo_isO, Option.bind_some, rw_r hw, rw_w hw, c_lives hw, c_hasBit, stR_ne h0.symm, stR_eq, hP, lt_eq, hk, ↓reduceIte, hlc, h1, bI_t, n1_0, bI_f, n0_0, nI_add, h3, stS_R, stR_stR, up_ne, clR_lo, clR_ge, clR_10, h2, Bool.false_eq_true]
      · have e : ddR (S 170) (S w) (k + 1) = ddR (S 170) (S w) k := by
          show (if _ then _ else _) = _
          rw [if_neg (fun z => h2 z.2)]
        have hu : ∀ x : Int32, up (up (clR (S 170) f (S w) k) (5 + k) x) 10 (ddR (S 170) (S w) k) = up (clR (S 170) f (S w) k) (5 + k) x := by
          intro x
          have : ddR (S 170) (S w) k = up (clR (S 170) f (S w) k) (5 + k) x 10 := by rw [up_ne (by omega), clR_10 (by omega)]
          rw [this, up_self]
        rw [e, hu]
        cases h3 : bt f k <;> simp (disch := omega) only [fX11_dayOn_215, fX11_dayOn_226, fX11_dayOn_230, fX11_dayOn_233, fX11_dayOn_239, fX11_dayOn_248, fX11_dayOn_251, fX11_dayOn_254, fX11_dayOn_265, fX11_dayOn_266, fX11_dayOn_280, fX11_dayOn_291, kI_3, kI_1, kI_0, kI_5, kB_10, mo_f15, mo_r15, mo_isO, Option.bind_some, rw_r hw, rw_w hw, c_lives hw, c_hasBit, stR_ne h0.symm, stR_eq, hP, lt_eq, hk, ↓reduceIte, hlc, h1, bI_t, n1_0, bI_f, n0_0, nI_add, h3, stS_R, stR_stR, up_ne, clR_lo, clR_ge, clR_10, h2, Bool.false_eq_true]
  · simp (disch := omega) only [fX11_dayOn_215, fX11_dayOn_297, kI_3, kI_0, kI_1, kB_11, kB_13, mo_f15, mo_r15, Option.bind_some, stR_ne h0.symm, stR_eq, hP, lt_eq, Nat.lt_irrefl, ↓reduceIte, rw_r hw, rw_w hw, stS_R, stR_stR, up_ne, clR_ge]
    rfl
set_option maxRecDepth 100000 in
set_option maxHeartbeats 400000 in
theorem flR_aE (A : Row) : flR A 0 (nI 0) 5 = aE A (fun _ => 0) := by
  funext j
  unfold flR aE
  by_cases h : j < 5
  · rw [if_pos h, if_pos (by omega)]
  · rw [if_neg h, if_neg (by omega)]
set_option maxRecDepth 100000 in
set_option maxHeartbeats 400000 in
theorem aE_aE (A : Row) (E E' : Nat → Nat) : aE (aE A E) E' = aE A E' := by
  funext j
  unfold aE
  by_cases h : j < 5
  · rw [if_pos h, if_pos h]
  · rw [if_neg h, if_neg h, if_neg h]
set_option maxRecDepth 100000 in
set_option maxHeartbeats 400000 in
theorem c_dayOn (hw : rwA w) (h8 : w ≠ 178) (h9 : w ≠ 179) (h7 : w ≠ 167) (h0 : w ≠ 170) {P N F : Nat} (hP : S 170 3 = nI P) (hP5 : P ≤ 5) (hN : S 170 4 = nI N) (hN8 : N ≤ 8) (hF : S 170 5 = nI F) (hF8 : F ≤ 8) {bes : Int32} {fl : Bool} (hb : sm (S 170 0) 20) (hs : Sml (S 170) (S w) P N) (hfs : Fsm (S w) P) (hz : Lst (S 170) N) : ∃ O : Row, gX11_dayOn 167 w bes (bI fl) (hp S J T) = some (hp (stR (stR (stR (stR S 167 (up (up (S 167) 25 (oi (wn (S 170) (S w) P fl))) 26 (oi (dWt (S 170) (S w) P N fl)))) 179 O) w (dayR (S 170) (S w) P N F bes fl (S 170 0))) 178 (aE (S 178) (dayE (S 170) (S w) P N F bes fl (S 170 0)))) J T) := by
  obtain ⟨hn1, hn2⟩ := nr_wn (r := S 170) (R := S w) hP5
  have hwl : ∀ p, wn (S 170) (S w) P fl = some p → p < P := wn_lt
  have hql : ∀ k, dWt (S 170) (S w) P N fl = some k → k < N := dWt_lt
  have hwe : ∀ f g, itr (wnS (sh (S 170) (S w)) (lv (S w))) P 0 (none, none) = (f, g) → wn (S 170) (S w) P fl = if fl = true ∧ g ≠ none then g else f := by
    intro f g e
    unfold wn
    rw [e]
  have hlw : ∀ p, wn (S 170) (S w) P fl = some p → lv (S w) p = true := by
    intro p hp
    obtain ⟨a1, a2⟩ := wn_AM (s := sh (S 170) (S w)) (l := lv (S w)) P
    cases e : itr (wnS (sh (S 170) (S w)) (lv (S w))) P 0 (none, none) with
    | mk f g =>
      rw [e] at a1 a2
      rw [hwe f g e] at hp
      dsimp only at a1 a2
      split at hp
      · rw [hp] at a2
        have := a2.2.1
        unfold lx at this
        rw [Bool.and_eq_true] at this
        exact this.1
      · rw [hp] at a1
        exact a1.2.1
  -- to the namer
  have hA : gX11_dayOn 167 w bes (bI fl) (hp S J T) = fX11_dayOn_87 167 w (bI fl) (dF (S 170) (S w) F bes) (hp (stR (stR S 178 (aE (S 178) (fun _ => 0))) w (grR (S 170) (S w) P)) J T) := by
    simp only [gX11_dayOn, fX11_dayOn_0, fX11_dayOn_2, fX11_dayOn_5, fX11_dayOn_32, mo_isO, Option.bind_some, c_fastersOf hw hF hF8, kI_0, l_dayZ, flR_aE]
    rw [l_dayG (S := stR S 178 (aE (S 178) (fun _ => 0))) hw h0 (by rw [stR_ne (by omega)]; exact hP) hP5, stR_ne (show 170 ≠ 178 by omega), stR_ne h8]
    rfl
  rw [hA]
  clear hA
  generalize hf : dF (S 170) (S w) F bes = f
  generalize hG : grR (S 170) (S w) P = G at hn1 hn2 ⊢
  have hGs : ∀ p, p < P → sm (G p) 4100 := by rw [← hG]; exact grR_sm hs
  have hGf : ∀ p, p < P → sm (G (5 + p)) 4000 := fun p hp => by rw [← hG, grR_ge (by omega)]; exact hfs p hp
  generalize hM : stR (stR S 178 (aE (S 178) (fun _ => 0))) w G = M
  have m170 : M 170 = S 170 := by rw [← hM, stR_ne h0.symm, stR_ne (by omega)]
  have m167 : M 167 = S 167 := by rw [← hM, stR_ne h7.symm, stR_ne (by omega)]
  have mw : M w = G := by rw [← hM, stR_eq]
  have m178 : M 178 = aE (S 178) (fun _ => 0) := by rw [← hM, stR_ne h8.symm, stR_eq]
  have hX : ∀ X : Row, stR M 167 X 170 3 = nI P := fun X => by rw [stR_ne (by omega), m170]; exact hP
  have hX0 : M 170 3 = nI P := by rw [m170]; exact hP
  have hXN : ∀ X : Row, stR M 167 X 170 4 = nI N := fun X => by rw [stR_ne (by omega), m170]; exact hN
  have hna : nr (S 170) G P none = (itr (wnS (sh (S 170) (S w)) (lv (S w))) P 0 (none, none)).1 := hn1
  have hB : fX11_dayOn_87 167 w (bI fl) f (hp M J T) = fX11_dayOn_128 167 w f (hp (stR M 167 (up (S 167) 25 (oi (wn (S 170) (S w) P fl)))) J T) := by
    cases e : itr (wnS (sh (S 170) (S w)) (lv (S w))) P 0 (none, none) with
    | mk x y =>
      rw [e] at hn1 hn2
      dsimp only at hn1 hn2
      rw [hn1] at hn2
      rw [hwe x y e]
      have hxl : ∀ j, x = some j → j < 5 := fun j hj => by have := nr_lt (r := S 170) (R := G) (P := P) (as := none) j (by rw [hn1]; exact hj); omega
      have hyl : ∀ j, y = some j → j < 5 := fun j hj => by have := nr_lt (r := S 170) (R := G) (P := P) (as := x) j (by rw [hn2]; exact hj); omega
      cases fl with
      | false => simp (disch := omega) only [fX11_dayOn_87, fX11_dayOn_91, fX11_dayOn_94, fX11_dayOn_113, fX11_dayOn_115, kI_n, kB_o, mo_isO, Option.bind_some, c_namerOf hw hX0 hP5 nav1, m170, mw, hn1, mo_p25, bI_f, n0_0, ↓reduceIte, on_lt, Bool.false_eq_true, false_and, stS_R, m167]
      | true =>
        cases y with
        | none => simp (disch := omega) only [fX11_dayOn_87, fX11_dayOn_91, fX11_dayOn_94, fX11_dayOn_101, fX11_dayOn_107, fX11_dayOn_110, fX11_dayOn_115, kI_n, mo_isO, Option.bind_some, c_namerOf hw hX0 hP5 nav1, m170, mw, hn1, mo_p25, mo_g25, bI_t, n1_0, ↓reduceIte, stS_R, m167, stR_eq, up_eq, c_namerOf hw (hX _) hP5 (nav hxl), stR_ne (show 170 ≠ 167 by omega), stR_ne h7, hn2, on_lt, ne_eq, not_true_eq_false, and_false]
        | some j =>
          have := hyl j rfl
          simp (disch := omega) only [fX11_dayOn_87, fX11_dayOn_91, fX11_dayOn_94, fX11_dayOn_101, fX11_dayOn_107, fX11_dayOn_110, fX11_dayOn_115, fX11_dayOn_122, kI_n, mo_isO, Option.bind_some, c_namerOf hw hX0 hP5 nav1, m170, mw, hn1, mo_p25, mo_g25, bI_t, n1_0, ↓reduceIte, stS_R, m167, stR_eq, stR_stR, up_eq, up_up, c_namerOf hw (hX _) hP5 (nav hxl), stR_ne (show 170 ≠ 167 by omega), stR_ne h7, hn2, oi_some, nI_lt0, ne_eq, reduceCtorEq, not_false_eq_true, and_self]
  rw [hB]
  clear hB
  generalize hU : up (S 167) 25 (oi (wn (S 170) (S w) P fl)) = U
  have hU25 : U 25 = oi (wn (S 170) (S w) P fl) := by rw [← hU, up_eq]
  have hpo := dPo_eq hs hb
  have hG12 : G 12 = S w 12 := by rw [← hG]; exact grR_ge (by omega)
  have hP12 := sm_cN (dPo_sm hs hb) (by omega)
  have hC : fX11_dayOn_128 167 w f (hp (stR M 167 U) J T) = fX11_dayOn_187 167 w f (dPo (S w) (S 170 0)) (hp (stR M 167 (up U 26 (oi (dWt (S 170) (S w) P N fl)))) J T) := by
    have hif : ∀ Y : Row, (if nI 99 < S 170 0 + G 12 then fX11_dayOn_187 167 w f (nI 99) (hp (stR M 167 Y) J T) else fX11_dayOn_187 167 w f (S 170 0 + G 12) (hp (stR M 167 Y) J T)) = fX11_dayOn_187 167 w f (dPo (S w) (S 170 0)) (hp (stR M 167 Y) J T) := by
      intro Y
      rw [hG12, ← hpo]
      split <;> rfl
    cases hwho : wn (S 170) (S w) P fl with
    | none =>
      have e2 : dWt (S 170) (S w) P N fl = none := by unfold dWt; rw [hwho]
      rw [hwho] at hU25
      rw [e2]
      simp (disch := omega) only [fX11_dayOn_128, fX11_dayOn_136, fX11_dayOn_160, fX11_dayOn_183, mo_g25, mo_p26, Option.bind_some, stR_eq, hU25, on_lt, ↓reduceIte, kB_o, stS_R, stR_stR, mo_f15, mo_r15, kI_0, kB_12, kB_99, rw_r hw, stR_ne (show 170 ≠ 167 by omega), stR_ne h7, m170, mw, hif]
    | some p =>
      have hpP := hwl p hwho
      have hlp := hlw p hwho
      have e2 : dWt (S 170) (S w) P N fl = nm (S 170) N (sh (S 170) (S w) p) := by unfold dWt; rw [hwho]
      have e3 : se (S 170) G p (G p) = sh (S 170) (S w) p := by rw [← hG]; exact sh_gr hP5 hpP hlp
      rw [hwho] at hU25
      rw [e2]
      simp (disch := omega) only [fX11_dayOn_128, fX11_dayOn_141, fX11_dayOn_154, fX11_dayOn_157, fX11_dayOn_160, fX11_dayOn_183, mo_isO, mo_g25, mo_p26, Option.bind_some, stR_eq, hU25, oi_some, nI_lt0, ↓reduceIte, c_seenOf hw, c_nameAt (hXN _) hN8, e3, stS_R, stR_stR, mo_f15, mo_r15, kI_0, kB_12, kB_99, rw_r hw, stR_ne (show 170 ≠ 167 by omega), stR_ne h7, m170, mw, hif]
  rw [hC]
  clear hC
  generalize hV : up U 26 (oi (dWt (S 170) (S w) P N fl)) = V
  have hV26 : V 26 = oi (dWt (S 170) (S w) P N fl) := by rw [← hV, up_eq]
  have hdS := dSq_eq (r := S 170) (R := S w) hP hP5 f
  rw [hG] at hdS
  have hGn : ∀ p, p < P → G p = nI (cN2 (G p)) := fun p hp => (sm_cN (hGs p hp) (by omega)).1
  cases hq : dWt (S 170) (S w) P N fl with
  | none =>
    have hwho : wn (S 170) (S w) P fl = none := by
      cases hw2 : wn (S 170) (S w) P fl with
      | none => rfl
      | some p =>
        exfalso
        have hpP := hwl p hw2
        have e3 : se (S 170) G p (G p) = sh (S 170) (S w) p := by rw [← hG]; exact sh_gr hP5 hpP (hlw p hw2)
        obtain ⟨k, hk, -⟩ := nm_of hz (se_sm (r := S 170) (hGf p hpP) (hGs p hpP))
        have e2 : dWt (S 170) (S w) P N fl = nm (S 170) N (sh (S 170) (S w) p) := by unfold dWt; rw [hw2]
        rw [e3, ← e2, hq] at hk
        cases hk
    have hnone : ∀ p, p < P → lv (S w) p = false := by
      obtain ⟨a1, a2⟩ := wn_AM (s := sh (S 170) (S w)) (l := lv (S w)) P
      cases e : itr (wnS (sh (S 170) (S w)) (lv (S w))) P 0 (none, none) with
      | mk x y =>
        rw [e] at a1 a2
        rw [hwe x y e] at hwho
        dsimp only at a1 a2
        split at hwho
        · rename_i hc; rw [hwho] at hc; exact absurd rfl hc.2
        · rw [hwho] at a1; exact a1
    have hnil : dSq (S 170) (S w) P f = [] := by
      rw [hdS]
      refine sq_nil P (fun p hp => ?_)
      rw [← hG, lv_gr hP5, hnone p hp, Bool.false_and]
    have hsv : dSv (S 170) (S w) P f (S 170 0) none = (fun p => cN2 (G p), cN2 (dPo (S w) (S 170 0)), fun _ => 0, false) := by
      unfold dSv
      rw [hnil, hG]
      rfl
    have hrw : dRw (S 170) (S w) P f (S 170 0) none = up G 12 (dPo (S w) (S 170 0)) := by
      unfold dRw
      rw [hsv, hG]
      dsimp only
      rw [← qE_12 (by omega), qE_self hGn, ← hP12.1]
    refine ⟨S 179, ?_⟩
    unfold dayR dayE
    rw [hf, hq, hrw, hsv]
    rw [hq] at hV26
    have h1 : fX11_dayOn_187 167 w f (dPo (S w) (S 170 0)) (hp (stR M 167 V) J T) = lX11_dayOn_215 FU 167 w f (nI 0) (hp (stR (stR M 167 V) w (up G 12 (dPo (S w) (S 170 0)))) J T) := by
      simp (disch := omega) only [fX11_dayOn_187, fX11_dayOn_194, fX11_dayOn_212, mo_g26, Option.bind_some, stR_eq, hV26, on_lt, ↓reduceIte, kB_12, rw_w hw, stS_R, stR_ne h7, mw, kI_0]
    rw [h1, l_dayC (S := stR (stR M 167 V) w (up G 12 (dPo (S w) (S 170 0)))) hw h0 (by rw [stR_ne h0.symm, stR_ne (by omega), m170]; exact hP) hP5, stR_ne h0.symm, stR_ne (show 170 ≠ 167 by omega), m170, stR_eq, stR_stR]
    have hmm : ∀ X : Row, stR (stR M 167 V) w X = stR (stR (stR (stR S 167 V) 179 (S 179)) w X) 178 (aE (S 178) (fun _ => 0)) := by
      intro X
      rw [← hM]
      funext c
      by_cases c1 : c = w
      · subst c1; simp only [stR_eq, stR_ne h8]
      · by_cases c2 : c = 178
        · subst c2; simp only [stR_eq, stR_ne c1, stR_ne (show 178 ≠ 167 by omega)]
        · by_cases c3 : c = 179
          · subst c3; simp only [stR_eq, stR_ne c1, stR_ne c2, stR_ne (show 179 ≠ 167 by omega)]
          · by_cases c4 : c = 167
            · subst c4; simp only [stR_eq, stR_ne c1, stR_ne c2, stR_ne c3]
            · simp only [stR_ne c1, stR_ne c2, stR_ne c3, stR_ne c4]
    rw [hmm]
  | some d =>
    have hdN := hql d hq
    have hw1 : sm (wo (S w) (some d)) 100 := hs.2.2.2 d hdN
    have hw2 := sm_cN hw1 (by omega)
    have hGd : G (14 + d) = wo (S w) (some d) := by rw [← hG]; exact grR_ge (by omega)
    rw [hq, oi_some] at hV26
    obtain ⟨O, hO⟩ := c_eatOn (S := stR M 167 V) (J := J) (T := T) (w := w) (P := P) (v := cN2 (wo (S w) (some d))) (d := d) (l := cN2 (dPo (S w) (S 170 0))) (H := fun p => cN2 (G p)) (e := f) hw h8 h9 h7 h0 (by rw [stR_ne (by omega), m170]; exact hP) hP5 (by omega) (by rw [stR_eq]; exact hV26) (by omega)
      (by rw [stR_ne h7, mw, hGd]; exact hw2.1) (fun p hp => by rw [stR_ne h7, mw]; exact hGn p hp) (fun p hp => by have := (sm_cN (hGs p hp) (by omega)).2; omega) hP12.2 (fun j hj => by rw [stR_ne (by omega), m178]; exact aE_lo hj)
    rw [stR_ne h7, mw, stR_ne (show 178 ≠ 167 by omega), m178, aE_aE, ← hP12.1] at hO
    have hsv : srv (cN2 (wo (S w) (some d))) (sq G (fun p => lv G p && !bt f p) P) 100 (fun p => cN2 (G p), cN2 (dPo (S w) (S 170 0)), fun _ => 0, true) = dSv (S 170) (S w) P f (S 170 0) (some d) := by
      unfold dSv
      rw [hdS, hG]
    rw [hsv] at hO
    have hrw : pE P G (dSv (S 170) (S w) P f (S 170 0) (some d)).1 (dSv (S 170) (S w) P f (S 170 0) (some d)).2.1 = dRw (S 170) (S w) P f (S 170 0) (some d) := by unfold dRw; rw [hG]
    rw [hrw] at hO
    refine ⟨O, ?_⟩
    unfold dayR dayE
    rw [hf, hq]
    have h1 : fX11_dayOn_187 167 w f (dPo (S w) (S 170 0)) (hp (stR M 167 V) J T) = lX11_dayOn_215 FU 167 w f (nI 0) (hp (stR (stR (stR (stR M 167 V) 179 O) w (dRw (S 170) (S w) P f (S 170 0) (some d))) 178 (aE (S 178) (dSv (S 170) (S w) P f (S 170 0) (some d)).2.2.1)) J T) := by
      simp (disch := omega) only [fX11_dayOn_187, fX11_dayOn_203, fX11_dayOn_209, fX11_dayOn_212, mo_isO, mo_g26, Option.bind_some, stR_eq, hV26, nI_lt0, ↓reduceIte, hO, kI_0]
    rw [h1, l_dayC (S := stR (stR (stR (stR M 167 V) 179 O) w (dRw (S 170) (S w) P f (S 170 0) (some d))) 178 (aE (S 178) (dSv (S 170) (S w) P f (S 170 0) (some d)).2.2.1)) hw h0 (by rw [stR_ne (by omega), stR_ne h0.symm, stR_ne (by omega), stR_ne (by omega), m170]; exact hP) hP5, stR_ne (show 170 ≠ 178 by omega), stR_ne h0.symm, stR_ne (show 170 ≠ 179 by omega), stR_ne (show 170 ≠ 167 by omega), m170, stR_ne h8, stR_eq]
    have hmm : ∀ X Z Y : Row, stR (stR (stR (stR (stR M 167 V) 179 O) w Z) 178 Y) w X = stR (stR (stR (stR S 167 V) 179 O) w X) 178 Y := by
      intro X Z Y
      rw [← hM]
      funext c
      by_cases c1 : c = w
      · subst c1; simp only [stR_eq, stR_ne h8]
      · by_cases c2 : c = 178
        · subst c2; simp only [stR_eq, stR_ne c1]
        · by_cases c3 : c = 179
          · subst c3; simp only [stR_eq, stR_ne c1, stR_ne c2]
          · by_cases c4 : c = 167
            · subst c4; simp only [stR_eq, stR_ne c1, stR_ne c2, stR_ne c3]
            · simp only [stR_ne c1, stR_ne c2, stR_ne c3, stR_ne c4]
    rw [hmm]
end DAYM
