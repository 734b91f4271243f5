-- QUESTIONS OVER DAYS
set_option maxRecDepth 100000 in
set_option maxHeartbeats 400000 in
theorem why_ne {a b : Bool} (h : (a && b) = false) : (why a b = 0) = False := by cases a <;> cases b <;> first | exact eq_false (by decide) | exact absurd h (by decide)
set_option maxRecDepth 100000 in
set_option maxHeartbeats 400000 in
theorem why_tt : why true true = nI 0 := rfl
set_option maxRecDepth 100000 in
set_option maxHeartbeats 400000 in
theorem why_4 (a b : Bool) : why a b ≠ nI 4 := by cases a <;> cases b <;> decide
set_option maxRecDepth 100000 in
set_option maxHeartbeats 400000 in
theorem n0_4 : nI 0 ≠ nI 4 := by decide
set_option maxRecDepth 100000 in
set_option maxHeartbeats 400000 in
theorem n1_4 : nI 1 ≠ nI 4 := by decide
set_option maxRecDepth 100000 in
set_option maxHeartbeats 400000 in
theorem inB_n {k lo hi : Nat} (h1 : lo ≤ k) (h2 : k ≤ hi) (h3 : hi < 5000) : inB (nI k) (nI lo) (nI hi) = true := by
  unfold inB
  refine decide_eq_true ⟨fun z => ?_, fun z => ?_⟩
  · have := (lt_iff (by omega) (by omega)).mp z; omega
  · have := (lt_iff (by omega) (by omega)).mp z; omega
def hu (R : Row) (P : Nat) : Option Nat := am (fun j k => decide (R j < R k)) (lv R) P 0 none
def hl (R : Row) (P : Nat) : Option Nat := am (fun j k => decide (R k < R j)) (lv R) P 0 none
set_option maxRecDepth 100000 in
set_option maxHeartbeats 400000 in
theorem hu_lt {R : Row} {P : Nat} : ∀ j, hu R P = some j → j < P := by
  intro j hj
  have := am_lt (n := P) (k := 0) (b := none) (fun j h => by cases h) j hj
  omega
set_option maxRecDepth 100000 in
set_option maxHeartbeats 400000 in
theorem hl_lt {R : Row} {P : Nat} : ∀ j, hl R P = some j → j < P := by
  intro j hj
  have := am_lt (n := P) (k := 0) (b := none) (fun j h => by cases h) j hj
  omega
set_option maxRecDepth 100000 in
set_option maxHeartbeats 400000 in
theorem hu_AM (R : Row) (P : Nat) : AM (fun i => (R i).toInt) (lv R) P (hu R P) := by
  unfold hu
  exact am_AM (σ := fun i => (R i).toInt) (lt := fun j k => decide (R j < R k)) (l := lv R) (fun i j => lt_toI (R i) (R j)) P
set_option maxRecDepth 100000 in
set_option maxHeartbeats 400000 in
theorem hl_AM (R : Row) (P : Nat) : AM (fun i => -(R i).toInt) (lv R) P (hl R P) := by
  unfold hl
  refine am_AM (σ := fun i => -(R i).toInt) (lt := fun j k => decide (R k < R j)) (l := lv R) (fun i j => ?_) P
  have e := lt_toI (R j) (R i)
  rw [e]
  by_cases h : (R j).toInt < (R i).toInt
  · rw [decide_eq_true h, decide_eq_true (by omega)]
  · rw [decide_eq_false h, decide_eq_false (by omega)]
set_option maxRecDepth 100000 in
set_option maxHeartbeats 400000 in
theorem hu_ag {R Q : Row} {P N : Nat} (h : agR R Q P N) : hu R P = hu Q P := AM_uni (AM_cg (fun i _ => ag_lv h i) (fun i hi _ => by rw [(h.1 i hi).1]) (hu_AM R P)) (hu_AM Q P)
set_option maxRecDepth 100000 in
set_option maxHeartbeats 400000 in
theorem hl_ag {R Q : Row} {P N : Nat} (h : agR R Q P N) : hl R P = hl Q P := AM_uni (AM_cg (fun i _ => ag_lv h i) (fun i hi _ => by rw [(h.1 i hi).1]) (hl_AM R P)) (hl_AM Q P)
set_option maxRecDepth 100000 in
set_option maxHeartbeats 400000 in
theorem c_isRef1 {S : Mem} {J : MeJ} {T : Nat → Nat} {v lo hi : Int32} (h : inB v lo hi = true) : gX10_isRefused 0 (nI 0) v lo hi (hp S J T) = some (nI 0, hp (stR S 0 (up (S 0) 11 (nI 0))) J T) := by
  have := c_isRefused (S := S) (J := J) (T := T) (a := true) (v := v) (lo := lo) (hi := hi)
  rw [h] at this
  exact this
set_option maxRecDepth 100000 in
set_option maxHeartbeats 400000 in
theorem c_ahead1 {S : Mem} {J : MeJ} {T : Nat → Nat} {lo n : Int32} (h : inB n lo (nI 60) = true) : gX11_aheadWhy 167 (nI 1) lo n (hp S J T) = some (nI 0, hp S J T) := by
  have := c_aheadWhy (S := S) (J := J) (T := T) (a := true) (lo := lo) (n := n)
  rw [h] at this
  exact this
set_option maxRecDepth 100000 in
set_option maxHeartbeats 400000 in
theorem c_lack1 {S : Mem} {J : MeJ} {T : Nat → Nat} {P N F U E : Nat} (hB : Bas S T true P N F U E) : gX10_lacksTable 0 (hp S J T) = some (nI 0, hp S J T) := by
  rw [c_lacksTable hB.1 hB.2.2.1 hB.2.2.2.2.1, hB.2.2.2.2.2.2.2.1]
  rfl
section Q1
variable {S S1 : Mem} {J : MeJ} {T : Nat → Nat} {t a w P N F U E : Nat} {ht : Bool}
set_option maxRecDepth 100000 in
set_option maxHeartbeats 400000 in
theorem c_everybody : gX11_everybody 167 (hp S J T) = some ((nI 1 <<< (S 170 3 &&& 31)) - nI 1, hp S J T) := by
  simp (disch := omega) only [gX11_everybody, fX11_everybody_0, kI_1, mo_f15, mo_r15, kI_3, Option.bind_some, n35, n9, n19, n51, n59, nI_add, ix2, ix8, ix22, ix5, ↓reduceIte]
set_option maxRecDepth 100000 in
set_option maxHeartbeats 400000 in
theorem c_hungriest (ha : plA a) (htl : tlA t) (hP : S t 3 = nI P) (hP5 : P ≤ 5) : gX7_hungriest a t (hp S J T) = some (oi (hu (S a) P), hp S J T) := by
  unfold gX7_hungriest fX7_hungriest_0
  rw [kB_o, kI_0]
  refine for_loop lX7_hungriest_5 fX7_hungriest_5 (fun _ => rfl) (fun K k b => K a t (oi b) (nI k) (hp S J T)) (fun k b => ∀ j, b = some j → j < k) P _ (fun b => some (oi b, hp S J T)) (fun K k b hk hb => ?_) (fun k b hk hb => ams_lt hb) (fun K b hb => ?_) P 0 FU none (by omega) (FU_lt (by omega)) (fun j hj => by cases hj)
  · cases h1 : bt (S a 10) k with
    | true =>
      rw [ams_f (by unfold lv; rw [h1]; rfl)]
      simp (disch := omega) only [gX7_hungriest, fX7_hungriest_0, fX7_hungriest_5, fX7_hungriest_13, fX7_hungriest_15, fX7_hungriest_18, fX7_hungriest_21, fX7_hungriest_25, fX7_hungriest_40, fX7_hungriest_42, fX7_hungriest_48, kB_o, kI_0, tl_g3 htl, pl_isO ha, pl_f0 ha, pl_r0 ha, kI_1, Option.bind_some, n35, n9, n19, n51, n59, nI_add, ix2, ix8, ix22, ix5, ↓reduceIte, hP, lt_eq, hk, c_isDead ha, h1, bI_t, n1_0]
    | false =>
      have hlv : lv (S a) k = true := by unfold lv; rw [h1]; rfl
      cases b with
      | none =>
        rw [ams_n hlv]
        simp (disch := omega) only [gX7_hungriest, fX7_hungriest_0, fX7_hungriest_5, fX7_hungriest_13, fX7_hungriest_15, fX7_hungriest_18, fX7_hungriest_21, fX7_hungriest_25, fX7_hungriest_40, fX7_hungriest_42, fX7_hungriest_48, kB_o, kI_0, tl_g3 htl, pl_isO ha, pl_f0 ha, pl_r0 ha, kI_1, Option.bind_some, n35, n9, n19, n51, n59, nI_add, ix2, ix8, ix22, ix5, ↓reduceIte, hP, lt_eq, hk, c_isDead ha, h1, bI_f, n0_0, on_lt, oi_some]
      | some j =>
        have hj := hb j rfl
        by_cases h2 : S a j < S a k
        · rw [ams_t hlv (decide_eq_true h2)]
          simp (disch := omega) only [gX7_hungriest, fX7_hungriest_0, fX7_hungriest_5, fX7_hungriest_13, fX7_hungriest_15, fX7_hungriest_18, fX7_hungriest_21, fX7_hungriest_25, fX7_hungriest_40, fX7_hungriest_42, fX7_hungriest_48, kB_o, kI_0, tl_g3 htl, pl_isO ha, pl_f0 ha, pl_r0 ha, kI_1, Option.bind_some, n35, n9, n19, n51, n59, nI_add, ix2, ix8, ix22, ix5, ↓reduceIte, hP, lt_eq, hk, c_isDead ha, h1, bI_f, n0_0, oi_some, nI_lt0, h2]
        · rw [ams_e hlv (decide_eq_false h2)]
          simp (disch := omega) only [gX7_hungriest, fX7_hungriest_0, fX7_hungriest_5, fX7_hungriest_13, fX7_hungriest_15, fX7_hungriest_18, fX7_hungriest_21, fX7_hungriest_25, fX7_hungriest_40, fX7_hungriest_42, fX7_hungriest_48, kB_o, kI_0, tl_g3 htl, pl_isO ha, pl_f0 ha, pl_r0 ha, kI_1, Option.bind_some, n35, n9, n19, n51, n59, nI_add, ix2, ix8, ix22, ix5, ↓reduceIte, hP, lt_eq, hk, c_isDead ha, h1, bI_f, n0_0, oi_some, nI_lt0, h2]
  · simp (disch := omega) only [gX7_hungriest, fX7_hungriest_0, fX7_hungriest_5, fX7_hungriest_13, fX7_hungriest_15, fX7_hungriest_18, fX7_hungriest_21, fX7_hungriest_25, fX7_hungriest_40, fX7_hungriest_42, fX7_hungriest_48, kB_o, kI_0, tl_g3 htl, pl_isO ha, pl_f0 ha, pl_r0 ha, kI_1, Option.bind_some, n35, n9, n19, n51, n59, nI_add, ix2, ix8, ix22, ix5, ↓reduceIte, hP, lt_eq, Nat.lt_irrefl]
set_option maxRecDepth 100000 in
set_option maxHeartbeats 400000 in
theorem c_hungriestOf (hw : rwA w) (hP : S 170 3 = nI P) (hP5 : P ≤ 5) (le : Bool) : gX11_hungriestOf 167 w (bI le) (hp S J T) = some (oi (if le then hl (S w) P else hu (S w) P), hp S J T) := by
  unfold gX11_hungriestOf fX11_hungriestOf_0
  rw [kB_o, kI_0]
  have e : (if le then hl (S w) P else hu (S w) P) = am (fun j k => if le then decide (S w k < S w j) else decide (S w j < S w k)) (lv (S w)) P 0 none := by cases le <;> rfl
  rw [e]
  refine for_loop lX11_hungriestOf_6 fX11_hungriestOf_6 (fun _ => rfl) (fun K k b => K 167 w (bI le) (oi b) (nI k) (hp S J T)) (fun k b => ∀ j, b = some j → j < k) P _ (fun b => some (oi b, hp S J T)) (fun K k b hk hb => ?_) (fun k b hk hb => ams_lt hb) (fun K b hb => ?_) P 0 FU none (by omega) (FU_lt (by omega)) (fun j hj => by cases hj)
  · cases h1 : lv (S w) k with
    | false =>
      rw [ams_f h1]
      simp (disch := omega) only [gX11_hungriestOf, fX11_hungriestOf_0, fX11_hungriestOf_6, fX11_hungriestOf_17, fX11_hungriestOf_21, fX11_hungriestOf_24, fX11_hungriestOf_27, fX11_hungriestOf_31, fX11_hungriestOf_35, fX11_hungriestOf_45, fX11_hungriestOf_48, fX11_hungriestOf_58, fX11_hungriestOf_61, fX11_hungriestOf_67, kB_o, kI_0, mo_f15, mo_r15, kI_3, mo_isO, kI_1, Option.bind_some, n35, n9, n19, n51, n59, nI_add, ix2, ix8, ix22, ix5, ↓reduceIte, hP, lt_eq, hk, c_lives hw, h1, bI_f, n0_0]
    | true =>
      cases b with
      | none =>
        rw [ams_n h1]
        simp (disch := omega) only [gX11_hungriestOf, fX11_hungriestOf_0, fX11_hungriestOf_6, fX11_hungriestOf_17, fX11_hungriestOf_21, fX11_hungriestOf_24, fX11_hungriestOf_27, fX11_hungriestOf_31, fX11_hungriestOf_35, fX11_hungriestOf_45, fX11_hungriestOf_48, fX11_hungriestOf_58, fX11_hungriestOf_61, fX11_hungriestOf_67, kB_o, kI_0, mo_f15, mo_r15, kI_3, mo_isO, kI_1, Option.bind_some, n35, n9, n19, n51, n59, nI_add, ix2, ix8, ix22, ix5, ↓reduceIte, hP, lt_eq, hk, c_lives hw, h1, bI_t, n1_0, on_lt, oi_some]
      | some j =>
        have hj := hb j rfl
        cases le with
        | true =>
          by_cases h2 : S w k < S w j
          · rw [ams_t h1 (by rw [if_pos rfl]; exact decide_eq_true h2)]
            simp (disch := omega) only [gX11_hungriestOf, fX11_hungriestOf_0, fX11_hungriestOf_6, fX11_hungriestOf_17, fX11_hungriestOf_21, fX11_hungriestOf_24, fX11_hungriestOf_27, fX11_hungriestOf_31, fX11_hungriestOf_35, fX11_hungriestOf_45, fX11_hungriestOf_48, fX11_hungriestOf_58, fX11_hungriestOf_61, fX11_hungriestOf_67, kB_o, kI_0, mo_f15, mo_r15, kI_3, mo_isO, kI_1, Option.bind_some, n35, n9, n19, n51, n59, nI_add, ix2, ix8, ix22, ix5, ↓reduceIte, hP, lt_eq, hk, c_lives hw, h1, bI_t, n1_0, rw_r hw, oi_some, nI_lt0, h2]
          · rw [ams_e h1 (by rw [if_pos rfl]; exact decide_eq_false h2)]
            simp (disch := omega) only [gX11_hungriestOf, fX11_hungriestOf_0, fX11_hungriestOf_6, fX11_hungriestOf_17, fX11_hungriestOf_21, fX11_hungriestOf_24, fX11_hungriestOf_27, fX11_hungriestOf_31, fX11_hungriestOf_35, fX11_hungriestOf_45, fX11_hungriestOf_48, fX11_hungriestOf_58, fX11_hungriestOf_61, fX11_hungriestOf_67, kB_o, kI_0, mo_f15, mo_r15, kI_3, mo_isO, kI_1, Option.bind_some, n35, n9, n19, n51, n59, nI_add, ix2, ix8, ix22, ix5, ↓reduceIte, hP, lt_eq, hk, c_lives hw, h1, bI_t, n1_0, rw_r hw, oi_some, nI_lt0, h2]
        | false =>
          by_cases h2 : S w j < S w k
          · rw [ams_t h1 (by rw [if_neg (by decide)]; exact decide_eq_true h2)]
            simp (disch := omega) only [gX11_hungriestOf, fX11_hungriestOf_0, fX11_hungriestOf_6, fX11_hungriestOf_17, fX11_hungriestOf_21, fX11_hungriestOf_24, fX11_hungriestOf_27, fX11_hungriestOf_31, fX11_hungriestOf_35, fX11_hungriestOf_45, fX11_hungriestOf_48, fX11_hungriestOf_58, fX11_hungriestOf_61, fX11_hungriestOf_67, kB_o, kI_0, mo_f15, mo_r15, kI_3, mo_isO, kI_1, Option.bind_some, n35, n9, n19, n51, n59, nI_add, ix2, ix8, ix22, ix5, ↓reduceIte, hP, lt_eq, hk, c_lives hw, h1, bI_t, bI_f, n0_0, n1_0, rw_r hw, oi_some, nI_lt0, h2]
          · rw [ams_e h1 (by rw [if_neg (by decide)]; exact decide_eq_false h2)]
            simp (disch := omega) only [gX11_hungriestOf, fX11_hungriestOf_0, fX11_hungriestOf_6, fX11_hungriestOf_17, fX11_hungriestOf_21, fX11_hungriestOf_24, fX11_hungriestOf_27, fX11_hungriestOf_31, fX11_hungriestOf_35, fX11_hungriestOf_45, fX11_hungriestOf_48, fX11_hungriestOf_58, fX11_hungriestOf_61, fX11_hungriestOf_67, kB_o, kI_0, mo_f15, mo_r15, kI_3, mo_isO, kI_1, Option.bind_some, n35, n9, n19, n51, n59, nI_add, ix2, ix8, ix22, ix5, ↓reduceIte, hP, lt_eq, hk, c_lives hw, h1, bI_t, bI_f, n0_0, n1_0, rw_r hw, oi_some, nI_lt0, h2]
  · simp (disch := omega) only [gX11_hungriestOf, fX11_hungriestOf_0, fX11_hungriestOf_6, fX11_hungriestOf_17, fX11_hungriestOf_21, fX11_hungriestOf_24, fX11_hungriestOf_27, fX11_hungriestOf_31, fX11_hungriestOf_35, fX11_hungriestOf_45, fX11_hungriestOf_48, fX11_hungriestOf_58, fX11_hungriestOf_61, fX11_hungriestOf_67, kB_o, kI_0, mo_f15, mo_r15, kI_3, mo_isO, kI_1, Option.bind_some, n35, n9, n19, n51, n59, nI_add, ix2, ix8, ix22, ix5, ↓reduceIte, hP, lt_eq, Nat.lt_irrefl]
set_option maxRecDepth 100000 in
set_option maxHeartbeats 400000 in
theorem qc_namerIn_no (hB : Bas S T ht P N F U E) {n : Int32} (hno : (ht && inB n (nI 1) (nI 60)) = false) : cq (fun h => gX10_namerIn 0 n h) S J T m1 (why ht (inB n (nI 1) (nI 60))) := by
  obtain ⟨b1, b2, b3, b4, b5, b6, b7, b8, b9, b10⟩ := hB
  refine cq_no ?_
  simp (disch := omega) only [gX10_namerIn, fX10_namerIn_0, fX10_namerIn_2, fX10_namerIn_5, fX10_namerIn_9, fX10_namerIn_12, fX10_namerIn_15, fX10_namerIn_17, fX10_namerIn_30, fX10_namerIn_33, lt_isO, kI_1, kB_60, kI_n, lt_f1, lt_f9, lt_f8, co_isO, co_f1, Option.bind_some, n35, n9, n19, n51, n59, nI_add, ix2, ix8, ix22, ix5, ↓reduceIte, lt_isO, c_lacksTable b1 b3 b5, b8, c_isRefused, hno, Bool.not_false, bI_t, n1_0]
set_option maxRecDepth 100000 in
set_option maxHeartbeats 400000 in
theorem qc_namerIn (hB : Bas S T true P N F U E) {k : Nat} (hk : 1 ≤ k) (hk2 : k ≤ 60) {V : Int32} (hV : ∀ S', crM S' (S 170) P N F (S 174) k → S' 12 0 = V) : cq (fun h => gX10_namerIn 0 (nI k) h) S J T V (nI 0) := by
  have hlk := c_lack1 (J := J) hB
  obtain ⟨b1, b2, b3, b4, b5, b6, b7, b8, b9, b10⟩ := hB
  obtain ⟨S', k1, k2, k3⟩ := y_walk (S := S) (S0 := stR S 0 (up (S 0) 11 (nI 0))) (J := J) (T := T) b1 b2 (b9 rfl) (by rw [stR_ne (by omega)]) (by rw [stR_ne (by omega)]) hk2
  have f0 : S' 0 = up (S 0) 11 (nI 0) := by rw [k3 0 (by decide), stR_eq]
  have ft : S' (T 0) = S (T 0) := by rw [k3 (T 0) (by simp; omega), stR_ne (by omega)]
  refine ⟨S', ?_, fr_CL (fr_st (fr_rf S _) (by decide)) k3, by rw [f0, up_eq], by rw [f0, up_ne (by omega)]⟩
  rw [← hV S' k2]
  simp (disch := omega) only [gX10_namerIn, fX10_namerIn_0, fX10_namerIn_2, fX10_namerIn_5, fX10_namerIn_9, fX10_namerIn_12, fX10_namerIn_15, fX10_namerIn_17, fX10_namerIn_30, fX10_namerIn_33, lt_isO, kI_1, kB_60, kI_n, lt_f1, lt_f9, lt_f8, co_isO, co_f1, Option.bind_some, n35, n9, n19, n51, n59, nI_add, ix2, ix8, ix22, ix5, ↓reduceIte, lt_isO, hlk, c_isRef1 (inB_n hk hk2 (by omega)), n0_0, lt_f1, lt_f8, lt_f9, co_isO, k1, co_f0, co_f1, co_g4, co_g5, ml_g0 mlA_12, ml_g1 mlA_12, pl_g5 plA_8, pl_isO plA_8, c_living plA_8 b1, c_hungriest plA_8 b1 (show S' (T 0) 3 = nI P by rw [ft]; exact b3) b5, ft, b3]
set_option maxRecDepth 100000 in
set_option maxHeartbeats 400000 in
theorem qm_namerIn_no (h14 : S 167 14 = bI ht) {n : Int32} (hno : (ht && inB n (nI 1) (nI 60)) = false) : mq (fun h => gX11_namerIn 167 n h) S J T m1 (why ht (inB n (nI 1) (nI 60))) := by
  refine mq_no (X := up (nw S) 11 (why ht (inB n (nI 1) (nI 60)))) ?_ up_eq (nw_p S _)
  simp (disch := omega) only [gX11_namerIn, fX11_namerIn_0, fX11_namerIn_1, fX11_namerIn_4, fX11_namerIn_11, fX11_namerIn_14, fX11_namerIn_19, fX11_namerIn_21, fX11_namerIn_24, fX11_namerIn_25, fX11_namerIn_27, fX11_namerIn_30, mo_isO, mo_g14, kI_1, mo_g25, Option.bind_some, n35, n9, n19, n51, n59, nI_add, ix2, ix8, ix22, ix5, ↓reduceIte, c_anew, stR_eq, up_ne, h14, c_aheadWhy, why_ne hno, c_no, stR_stR, nw]
set_option maxRecDepth 100000 in
set_option maxHeartbeats 400000 in
theorem q_namerIn (h : Rl S T) (n : Int32) : bth (fun h => gX10_namerIn 0 n h) (fun h => gX11_namerIn 167 n h) S J T := by
  obtain ⟨ht, P, N, F, U, E, hB⟩ := Rl_bas h
  cases hno : (ht && inB n (nI 1) (nI 60)) with
  | false => exact bth_q h (qc_namerIn_no hB hno) (fun S1 hf => qm_namerIn_no (by rw [hf 167 (by decide)]; exact hB.2.2.2.2.2.2.1) hno) (why_4 _ _)
  | true =>
    rw [Bool.and_eq_true] at hno
    obtain ⟨rfl, hin⟩ := hno
    obtain ⟨k, hk, hk2, rfl⟩ := inB_t (by omega) (by omega) hin
    have hy := hB.2.2.2.2.2.2.2.2.1 rfl
    have hP5 := hB.2.2.2.2.1
    have hr3 : S 170 3 = nI P := hy.1.1.1
    obtain ⟨i, rfl⟩ : ∃ i, k = i + 1 := ⟨k - 1, by omega⟩
    refine bth_q h (qc_namerIn hB hk hk2 (V := oi (wn (S 170) (dyN (S 170) P N F (S 170 0) i (S 174)) P false)) (fun S' hc => (hc.2.1 i rfl).1)) (fun S1 hf => ?_) n0_4
    have h167 : S1 167 = S 167 := hf 167 (by decide)
    obtain ⟨S2, k1, k2, k3⟩ := y_days (S := S) (S0 := stR S1 167 (nw S1)) (J := J) (T := T) hy (by rw [stR_ne (by omega)]; exact hf 170 (by decide)) (by rw [stR_ne (by omega)]; exact hf 174 (by decide)) hk2
    obtain ⟨q1, q2, q3⟩ := mfr_q k3
    have h170 : S2 170 = S 170 := by rw [q1 170 (by decide)]; exact hf 170 (by decide)
    refine ⟨S2, ?_, q1, q2, q3⟩
    have h14 : nw S1 14 = nI 1 := by unfold nw; rw [up_ne (by omega), up_ne (by omega), h167]; exact hB.2.2.2.2.2.2.1
    have hanew : gX11_anew 167 (hp S1 J T) = some (hp (stR S1 167 (nw S1)) J T) := c_anew
    have hho : gX11_hungriestOf 167 175 (nI 0) (hp S2 J T) = some (oi (hu (S2 175) P), hp S2 J T) := c_hungriestOf (J := J) (T := T) rwA_175 (show S2 170 3 = nI P by rw [h170]; exact hr3) hP5 false
    have hval : S2 167 25 = oi (wn (S 170) (dyN (S 170) P N F (S 170 0) i (S 174)) P false) := (k2.2 i rfl).1
    rw [← hval]
    simp (disch := omega) only [gX11_namerIn, fX11_namerIn_0, fX11_namerIn_1, fX11_namerIn_4, fX11_namerIn_11, fX11_namerIn_14, fX11_namerIn_19, fX11_namerIn_21, fX11_namerIn_24, fX11_namerIn_25, fX11_namerIn_27, fX11_namerIn_30, mo_isO, mo_g14, kI_1, mo_g25, Option.bind_some, n35, n9, n19, n51, n59, nI_add, ix2, ix8, ix22, ix5, ↓reduceIte, hanew, stR_eq, h14, c_ahead1 (inB_n hk hk2 (by omega)), n0_0, k1, mo_g25, mo_g26, mo_f20, rw_r rwA_175, c_everybody, hho, h170, hr3, kI_n, kB_12, kB_10, Bool.false_eq_true, if_false]
set_option maxRecDepth 100000 in
set_option maxHeartbeats 400000 in
theorem qc_dishIn_no (hB : Bas S T ht P N F U E) {n : Int32} (hno : (ht && inB n (nI 1) (nI 60)) = false) : cq (fun h => gX10_dishIn 0 n h) S J T m1 (why ht (inB n (nI 1) (nI 60))) := by
  obtain ⟨b1, b2, b3, b4, b5, b6, b7, b8, b9, b10⟩ := hB
  refine cq_no ?_
  simp (disch := omega) only [gX10_dishIn, fX10_dishIn_0, fX10_dishIn_2, fX10_dishIn_5, fX10_dishIn_9, fX10_dishIn_12, fX10_dishIn_15, fX10_dishIn_17, fX10_dishIn_30, fX10_dishIn_33, lt_isO, kI_1, kB_60, kI_n, lt_f1, lt_f9, lt_f8, co_isO, co_f1, Option.bind_some, n35, n9, n19, n51, n59, nI_add, ix2, ix8, ix22, ix5, ↓reduceIte, lt_isO, c_lacksTable b1 b3 b5, b8, c_isRefused, hno, Bool.not_false, bI_t, n1_0]
set_option maxRecDepth 100000 in
set_option maxHeartbeats 400000 in
theorem qc_dishIn (hB : Bas S T true P N F U E) {k : Nat} (hk : 1 ≤ k) (hk2 : k ≤ 60) {V : Int32} (hV : ∀ S', crM S' (S 170) P N F (S 174) k → S' 12 1 = V) : cq (fun h => gX10_dishIn 0 (nI k) h) S J T V (nI 0) := by
  have hlk := c_lack1 (J := J) hB
  obtain ⟨b1, b2, b3, b4, b5, b6, b7, b8, b9, b10⟩ := hB
  obtain ⟨S', k1, k2, k3⟩ := y_walk (S := S) (S0 := stR S 0 (up (S 0) 11 (nI 0))) (J := J) (T := T) b1 b2 (b9 rfl) (by rw [stR_ne (by omega)]) (by rw [stR_ne (by omega)]) hk2
  have f0 : S' 0 = up (S 0) 11 (nI 0) := by rw [k3 0 (by decide), stR_eq]
  have ft : S' (T 0) = S (T 0) := by rw [k3 (T 0) (by simp; omega), stR_ne (by omega)]
  refine ⟨S', ?_, fr_CL (fr_st (fr_rf S _) (by decide)) k3, by rw [f0, up_eq], by rw [f0, up_ne (by omega)]⟩
  rw [← hV S' k2]
  simp (disch := omega) only [gX10_dishIn, fX10_dishIn_0, fX10_dishIn_2, fX10_dishIn_5, fX10_dishIn_9, fX10_dishIn_12, fX10_dishIn_15, fX10_dishIn_17, fX10_dishIn_30, fX10_dishIn_33, lt_isO, kI_1, kB_60, kI_n, lt_f1, lt_f9, lt_f8, co_isO, co_f1, Option.bind_some, n35, n9, n19, n51, n59, nI_add, ix2, ix8, ix22, ix5, ↓reduceIte, lt_isO, hlk, c_isRef1 (inB_n hk hk2 (by omega)), n0_0, lt_f1, lt_f8, lt_f9, co_isO, k1, co_f0, co_f1, co_g4, co_g5, ml_g0 mlA_12, ml_g1 mlA_12, pl_g5 plA_8, pl_isO plA_8, c_living plA_8 b1, c_hungriest plA_8 b1 (show S' (T 0) 3 = nI P by rw [ft]; exact b3) b5, ft, b3]
set_option maxRecDepth 100000 in
set_option maxHeartbeats 400000 in
theorem qm_dishIn_no (h14 : S 167 14 = bI ht) {n : Int32} (hno : (ht && inB n (nI 1) (nI 60)) = false) : mq (fun h => gX11_dishIn 167 n h) S J T m1 (why ht (inB n (nI 1) (nI 60))) := by
  refine mq_no (X := up (nw S) 11 (why ht (inB n (nI 1) (nI 60)))) ?_ up_eq (nw_p S _)
  simp (disch := omega) only [gX11_dishIn, fX11_dishIn_0, fX11_dishIn_1, fX11_dishIn_4, fX11_dishIn_11, fX11_dishIn_14, fX11_dishIn_19, fX11_dishIn_21, fX11_dishIn_24, fX11_dishIn_25, fX11_dishIn_27, fX11_dishIn_30, mo_isO, mo_g14, kI_1, mo_g26, Option.bind_some, n35, n9, n19, n51, n59, nI_add, ix2, ix8, ix22, ix5, ↓reduceIte, c_anew, stR_eq, up_ne, h14, c_aheadWhy, why_ne hno, c_no, stR_stR, nw]
set_option maxRecDepth 100000 in
set_option maxHeartbeats 400000 in
theorem q_dishIn (h : Rl S T) (n : Int32) : bth (fun h => gX10_dishIn 0 n h) (fun h => gX11_dishIn 167 n h) S J T := by
  obtain ⟨ht, P, N, F, U, E, hB⟩ := Rl_bas h
  cases hno : (ht && inB n (nI 1) (nI 60)) with
  | false => exact bth_q h (qc_dishIn_no hB hno) (fun S1 hf => qm_dishIn_no (by rw [hf 167 (by decide)]; exact hB.2.2.2.2.2.2.1) hno) (why_4 _ _)
  | true =>
    rw [Bool.and_eq_true] at hno
    obtain ⟨rfl, hin⟩ := hno
    obtain ⟨k, hk, hk2, rfl⟩ := inB_t (by omega) (by omega) hin
    have hy := hB.2.2.2.2.2.2.2.2.1 rfl
    have hP5 := hB.2.2.2.2.1
    have hr3 : S 170 3 = nI P := hy.1.1.1
    obtain ⟨i, rfl⟩ : ∃ i, k = i + 1 := ⟨k - 1, by omega⟩
    refine bth_q h (qc_dishIn hB hk hk2 (V := oi (dWt (S 170) (dyN (S 170) P N F (S 170 0) i (S 174)) P N false)) (fun S' hc => (hc.2.1 i rfl).2)) (fun S1 hf => ?_) n0_4
    have h167 : S1 167 = S 167 := hf 167 (by decide)
    obtain ⟨S2, k1, k2, k3⟩ := y_days (S := S) (S0 := stR S1 167 (nw S1)) (J := J) (T := T) hy (by rw [stR_ne (by omega)]; exact hf 170 (by decide)) (by rw [stR_ne (by omega)]; exact hf 174 (by decide)) hk2
    obtain ⟨q1, q2, q3⟩ := mfr_q k3
    have h170 : S2 170 = S 170 := by rw [q1 170 (by decide)]; exact hf 170 (by decide)
    refine ⟨S2, ?_, q1, q2, q3⟩
    have h14 : nw S1 14 = nI 1 := by unfold nw; rw [up_ne (by omega), up_ne (by omega), h167]; exact hB.2.2.2.2.2.2.1
    have hanew : gX11_anew 167 (hp S1 J T) = some (hp (stR S1 167 (nw S1)) J T) := c_anew
    have hho : gX11_hungriestOf 167 175 (nI 0) (hp S2 J T) = some (oi (hu (S2 175) P), hp S2 J T) := c_hungriestOf (J := J) (T := T) rwA_175 (show S2 170 3 = nI P by rw [h170]; exact hr3) hP5 false
    have hval : S2 167 26 = oi (dWt (S 170) (dyN (S 170) P N F (S 170 0) i (S 174)) P N false) := (k2.2 i rfl).2.1
    rw [← hval]
    simp (disch := omega) only [gX11_dishIn, fX11_dishIn_0, fX11_dishIn_1, fX11_dishIn_4, fX11_dishIn_11, fX11_dishIn_14, fX11_dishIn_19, fX11_dishIn_21, fX11_dishIn_24, fX11_dishIn_25, fX11_dishIn_27, fX11_dishIn_30, mo_isO, mo_g14, kI_1, mo_g26, Option.bind_some, n35, n9, n19, n51, n59, nI_add, ix2, ix8, ix22, ix5, ↓reduceIte, hanew, stR_eq, h14, c_ahead1 (inB_n hk hk2 (by omega)), n0_0, k1, mo_g25, mo_g26, mo_f20, rw_r rwA_175, c_everybody, hho, h170, hr3, kI_n, kB_12, kB_10, Bool.false_eq_true, if_false]
set_option maxRecDepth 100000 in
set_option maxHeartbeats 400000 in
theorem qc_leftIn_no (hB : Bas S T ht P N F U E) {n : Int32} (hno : (ht && inB n (nI 0) (nI 60)) = false) : cq (fun h => gX10_leftIn 0 n h) S J T m1 (why ht (inB n (nI 0) (nI 60))) := by
  obtain ⟨b1, b2, b3, b4, b5, b6, b7, b8, b9, b10⟩ := hB
  refine cq_no ?_
  simp (disch := omega) only [gX10_leftIn, fX10_leftIn_0, fX10_leftIn_2, fX10_leftIn_5, fX10_leftIn_9, fX10_leftIn_12, fX10_leftIn_15, fX10_leftIn_17, fX10_leftIn_30, fX10_leftIn_33, lt_isO, kI_0, kB_60, kI_n, lt_f1, lt_f9, lt_f8, co_isO, co_f0, Option.bind_some, n35, n9, n19, n51, n59, nI_add, ix2, ix8, ix22, ix5, ↓reduceIte, lt_isO, c_lacksTable b1 b3 b5, b8, c_isRefused, hno, Bool.not_false, bI_t, n1_0]
set_option maxRecDepth 100000 in
set_option maxHeartbeats 400000 in
theorem qc_leftIn (hB : Bas S T true P N F U E) {k : Nat} (hk : 0 ≤ k) (hk2 : k ≤ 60) {V : Int32} (hV : ∀ S', crM S' (S 170) P N F (S 174) k → S' 8 12 = V) : cq (fun h => gX10_leftIn 0 (nI k) h) S J T V (nI 0) := by
  have hlk := c_lack1 (J := J) hB
  obtain ⟨b1, b2, b3, b4, b5, b6, b7, b8, b9, b10⟩ := hB
  obtain ⟨S', k1, k2, k3⟩ := y_walk (S := S) (S0 := stR S 0 (up (S 0) 11 (nI 0))) (J := J) (T := T) b1 b2 (b9 rfl) (by rw [stR_ne (by omega)]) (by rw [stR_ne (by omega)]) hk2
  have f0 : S' 0 = up (S 0) 11 (nI 0) := by rw [k3 0 (by decide), stR_eq]
  have ft : S' (T 0) = S (T 0) := by rw [k3 (T 0) (by simp; omega), stR_ne (by omega)]
  refine ⟨S', ?_, fr_CL (fr_st (fr_rf S _) (by decide)) k3, by rw [f0, up_eq], by rw [f0, up_ne (by omega)]⟩
  rw [← hV S' k2]
  simp (disch := omega) only [gX10_leftIn, fX10_leftIn_0, fX10_leftIn_2, fX10_leftIn_5, fX10_leftIn_9, fX10_leftIn_12, fX10_leftIn_15, fX10_leftIn_17, fX10_leftIn_30, fX10_leftIn_33, lt_isO, kI_0, kB_60, kI_n, lt_f1, lt_f9, lt_f8, co_isO, co_f0, Option.bind_some, n35, n9, n19, n51, n59, nI_add, ix2, ix8, ix22, ix5, ↓reduceIte, lt_isO, hlk, c_isRef1 (inB_n hk hk2 (by omega)), n0_0, lt_f1, lt_f8, lt_f9, co_isO, k1, co_f0, co_f1, co_g4, co_g5, ml_g0 mlA_12, ml_g1 mlA_12, pl_g5 plA_8, pl_isO plA_8, c_living plA_8 b1, c_hungriest plA_8 b1 (show S' (T 0) 3 = nI P by rw [ft]; exact b3) b5, ft, b3]
set_option maxRecDepth 100000 in
set_option maxHeartbeats 400000 in
theorem qm_leftIn_no (h14 : S 167 14 = bI ht) {n : Int32} (hno : (ht && inB n (nI 0) (nI 60)) = false) : mq (fun h => gX11_leftIn 167 n h) S J T m1 (why ht (inB n (nI 0) (nI 60))) := by
  refine mq_no (X := up (nw S) 11 (why ht (inB n (nI 0) (nI 60)))) ?_ up_eq (nw_p S _)
  simp (disch := omega) only [gX11_leftIn, fX11_leftIn_0, fX11_leftIn_1, fX11_leftIn_4, fX11_leftIn_11, fX11_leftIn_14, fX11_leftIn_19, fX11_leftIn_21, fX11_leftIn_24, fX11_leftIn_25, fX11_leftIn_27, fX11_leftIn_30, mo_isO, mo_g14, kI_0, mo_f20, mo_r20, kB_12, Option.bind_some, n35, n9, n19, n51, n59, nI_add, ix2, ix8, ix22, ix5, ↓reduceIte, c_anew, stR_eq, up_ne, h14, c_aheadWhy, why_ne hno, c_no, stR_stR, nw]
set_option maxRecDepth 100000 in
set_option maxHeartbeats 400000 in
theorem q_leftIn (h : Rl S T) (n : Int32) : bth (fun h => gX10_leftIn 0 n h) (fun h => gX11_leftIn 167 n h) S J T := by
  obtain ⟨ht, P, N, F, U, E, hB⟩ := Rl_bas h
  cases hno : (ht && inB n (nI 0) (nI 60)) with
  | false => exact bth_q h (qc_leftIn_no hB hno) (fun S1 hf => qm_leftIn_no (by rw [hf 167 (by decide)]; exact hB.2.2.2.2.2.2.1) hno) (why_4 _ _)
  | true =>
    rw [Bool.and_eq_true] at hno
    obtain ⟨rfl, hin⟩ := hno
    obtain ⟨k, hk, hk2, rfl⟩ := inB_t (by omega) (by omega) hin
    have hy := hB.2.2.2.2.2.2.2.2.1 rfl
    have hP5 := hB.2.2.2.2.1
    have hr3 : S 170 3 = nI P := hy.1.1.1
    refine bth_q h (qc_leftIn hB hk hk2 (V := (dyN (S 170) P N F (S 170 0) k (S 174)) 12) (fun S' hc => hc.1.2.1 12 (by omega) (by omega))) (fun S1 hf => ?_) n0_4
    have h167 : S1 167 = S 167 := hf 167 (by decide)
    obtain ⟨S2, k1, k2, k3⟩ := y_days (S := S) (S0 := stR S1 167 (nw S1)) (J := J) (T := T) hy (by rw [stR_ne (by omega)]; exact hf 170 (by decide)) (by rw [stR_ne (by omega)]; exact hf 174 (by decide)) hk2
    obtain ⟨q1, q2, q3⟩ := mfr_q k3
    have h170 : S2 170 = S 170 := by rw [q1 170 (by decide)]; exact hf 170 (by decide)
    refine ⟨S2, ?_, q1, q2, q3⟩
    have h14 : nw S1 14 = nI 1 := by unfold nw; rw [up_ne (by omega), up_ne (by omega), h167]; exact hB.2.2.2.2.2.2.1
    have hanew : gX11_anew 167 (hp S1 J T) = some (hp (stR S1 167 (nw S1)) J T) := c_anew
    have hho : gX11_hungriestOf 167 175 (nI 0) (hp S2 J T) = some (oi (hu (S2 175) P), hp S2 J T) := c_hungriestOf (J := J) (T := T) rwA_175 (show S2 170 3 = nI P by rw [h170]; exact hr3) hP5 false
    have hval : S2 175 12 = (dyN (S 170) P N F (S 170 0) k (S 174)) 12 := k2.1.2.1 12 (by omega) (by omega)
    rw [← hval]
    simp (disch := omega) only [gX11_leftIn, fX11_leftIn_0, fX11_leftIn_1, fX11_leftIn_4, fX11_leftIn_11, fX11_leftIn_14, fX11_leftIn_19, fX11_leftIn_21, fX11_leftIn_24, fX11_leftIn_25, fX11_leftIn_27, fX11_leftIn_30, mo_isO, mo_g14, kI_0, mo_f20, mo_r20, kB_12, Option.bind_some, n35, n9, n19, n51, n59, nI_add, ix2, ix8, ix22, ix5, ↓reduceIte, hanew, stR_eq, h14, c_ahead1 (inB_n hk hk2 (by omega)), n0_0, k1, mo_g25, mo_g26, mo_f20, rw_r rwA_175, c_everybody, hho, h170, hr3, kI_n, kB_12, kB_10, Bool.false_eq_true, if_false]
set_option maxRecDepth 100000 in
set_option maxHeartbeats 400000 in
theorem qc_livingIn_no (hB : Bas S T ht P N F U E) {n : Int32} (hno : (ht && inB n (nI 0) (nI 60)) = false) : cq (fun h => gX10_livingIn 0 n h) S J T m1 (why ht (inB n (nI 0) (nI 60))) := by
  obtain ⟨b1, b2, b3, b4, b5, b6, b7, b8, b9, b10⟩ := hB
  refine cq_no ?_
  simp (disch := omega) only [gX10_livingIn, fX10_livingIn_0, fX10_livingIn_2, fX10_livingIn_5, fX10_livingIn_9, fX10_livingIn_12, fX10_livingIn_15, fX10_livingIn_17, fX10_livingIn_30, fX10_livingIn_33, fX10_livingIn_44, fX10_livingIn_47, lt_isO, kI_0, kB_60, kI_n, lt_f1, lt_f9, lt_f8, co_isO, co_f0, Option.bind_some, n35, n9, n19, n51, n59, nI_add, ix2, ix8, ix22, ix5, ↓reduceIte, lt_isO, c_lacksTable b1 b3 b5, b8, c_isRefused, hno, Bool.not_false, bI_t, n1_0]
set_option maxRecDepth 100000 in
set_option maxHeartbeats 400000 in
theorem qc_livingIn (hB : Bas S T true P N F U E) {k : Nat} (hk : 0 ≤ k) (hk2 : k ≤ 60) {V : Int32} (hV : ∀ S', crM S' (S 170) P N F (S 174) k → ((nI 1 <<< (nI P &&& 31)) - nI 1) &&& (S' 8 10 ^^^ m1) = V) : cq (fun h => gX10_livingIn 0 (nI k) h) S J T V (nI 0) := by
  have hlk := c_lack1 (J := J) hB
  obtain ⟨b1, b2, b3, b4, b5, b6, b7, b8, b9, b10⟩ := hB
  obtain ⟨S', k1, k2, k3⟩ := y_walk (S := S) (S0 := stR S 0 (up (S 0) 11 (nI 0))) (J := J) (T := T) b1 b2 (b9 rfl) (by rw [stR_ne (by omega)]) (by rw [stR_ne (by omega)]) hk2
  have f0 : S' 0 = up (S 0) 11 (nI 0) := by rw [k3 0 (by decide), stR_eq]
  have ft : S' (T 0) = S (T 0) := by rw [k3 (T 0) (by simp; omega), stR_ne (by omega)]
  refine ⟨S', ?_, fr_CL (fr_st (fr_rf S _) (by decide)) k3, by rw [f0, up_eq], by rw [f0, up_ne (by omega)]⟩
  rw [← hV S' k2]
  simp (disch := omega) only [gX10_livingIn, fX10_livingIn_0, fX10_livingIn_2, fX10_livingIn_5, fX10_livingIn_9, fX10_livingIn_12, fX10_livingIn_15, fX10_livingIn_17, fX10_livingIn_30, fX10_livingIn_33, fX10_livingIn_44, fX10_livingIn_47, lt_isO, kI_0, kB_60, kI_n, lt_f1, lt_f9, lt_f8, co_isO, co_f0, Option.bind_some, n35, n9, n19, n51, n59, nI_add, ix2, ix8, ix22, ix5, ↓reduceIte, lt_isO, hlk, c_isRef1 (inB_n hk hk2 (by omega)), n0_0, lt_f1, lt_f8, lt_f9, co_isO, k1, co_f0, co_f1, co_g4, co_g5, ml_g0 mlA_12, ml_g1 mlA_12, pl_g5 plA_8, pl_isO plA_8, c_living plA_8 b1, c_hungriest plA_8 b1 (show S' (T 0) 3 = nI P by rw [ft]; exact b3) b5, ft, b3]
set_option maxRecDepth 100000 in
set_option maxHeartbeats 400000 in
theorem qm_livingIn_no (h14 : S 167 14 = bI ht) {n : Int32} (hno : (ht && inB n (nI 0) (nI 60)) = false) : mq (fun h => gX11_livingIn 167 n h) S J T m1 (why ht (inB n (nI 0) (nI 60))) := by
  refine mq_no (X := up (nw S) 11 (why ht (inB n (nI 0) (nI 60)))) ?_ up_eq (nw_p S _)
  simp (disch := omega) only [gX11_livingIn, fX11_livingIn_0, fX11_livingIn_1, fX11_livingIn_4, fX11_livingIn_11, fX11_livingIn_14, fX11_livingIn_19, fX11_livingIn_21, fX11_livingIn_24, fX11_livingIn_25, fX11_livingIn_27, fX11_livingIn_30, fX11_livingIn_31, fX11_livingIn_34, mo_isO, mo_g14, kI_0, mo_f20, mo_r20, kB_10, kI_n, Option.bind_some, n35, n9, n19, n51, n59, nI_add, ix2, ix8, ix22, ix5, ↓reduceIte, c_anew, stR_eq, up_ne, h14, c_aheadWhy, why_ne hno, c_no, stR_stR, nw]
set_option maxRecDepth 100000 in
set_option maxHeartbeats 400000 in
theorem q_livingIn (h : Rl S T) (n : Int32) : bth (fun h => gX10_livingIn 0 n h) (fun h => gX11_livingIn 167 n h) S J T := by
  obtain ⟨ht, P, N, F, U, E, hB⟩ := Rl_bas h
  cases hno : (ht && inB n (nI 0) (nI 60)) with
  | false => exact bth_q h (qc_livingIn_no hB hno) (fun S1 hf => qm_livingIn_no (by rw [hf 167 (by decide)]; exact hB.2.2.2.2.2.2.1) hno) (why_4 _ _)
  | true =>
    rw [Bool.and_eq_true] at hno
    obtain ⟨rfl, hin⟩ := hno
    obtain ⟨k, hk, hk2, rfl⟩ := inB_t (by omega) (by omega) hin
    have hy := hB.2.2.2.2.2.2.2.2.1 rfl
    have hP5 := hB.2.2.2.2.1
    have hr3 : S 170 3 = nI P := hy.1.1.1
    refine bth_q h (qc_livingIn hB hk hk2 (V := ((nI 1 <<< (nI P &&& 31)) - nI 1) &&& ((dyN (S 170) P N F (S 170 0) k (S 174)) 10 ^^^ m1)) (fun S' hc => by rw [hc.1.2.1 10 (by omega) (by omega)])) (fun S1 hf => ?_) n0_4
    have h167 : S1 167 = S 167 := hf 167 (by decide)
    obtain ⟨S2, k1, k2, k3⟩ := y_days (S := S) (S0 := stR S1 167 (nw S1)) (J := J) (T := T) hy (by rw [stR_ne (by omega)]; exact hf 170 (by decide)) (by rw [stR_ne (by omega)]; exact hf 174 (by decide)) hk2
    obtain ⟨q1, q2, q3⟩ := mfr_q k3
    have h170 : S2 170 = S 170 := by rw [q1 170 (by decide)]; exact hf 170 (by decide)
    refine ⟨S2, ?_, q1, q2, q3⟩
    have h14 : nw S1 14 = nI 1 := by unfold nw; rw [up_ne (by omega), up_ne (by omega), h167]; exact hB.2.2.2.2.2.2.1
    have hanew : gX11_anew 167 (hp S1 J T) = some (hp (stR S1 167 (nw S1)) J T) := c_anew
    have hho : gX11_hungriestOf 167 175 (nI 0) (hp S2 J T) = some (oi (hu (S2 175) P), hp S2 J T) := c_hungriestOf (J := J) (T := T) rwA_175 (show S2 170 3 = nI P by rw [h170]; exact hr3) hP5 false
    have hval : ((nI 1 <<< (nI P &&& 31)) - nI 1) &&& (S2 175 10 ^^^ m1) = ((nI 1 <<< (nI P &&& 31)) - nI 1) &&& ((dyN (S 170) P N F (S 170 0) k (S 174)) 10 ^^^ m1) := by rw [k2.1.2.1 10 (by omega) (by omega)]
    rw [← hval]
    simp (disch := omega) only [gX11_livingIn, fX11_livingIn_0, fX11_livingIn_1, fX11_livingIn_4, fX11_livingIn_11, fX11_livingIn_14, fX11_livingIn_19, fX11_livingIn_21, fX11_livingIn_24, fX11_livingIn_25, fX11_livingIn_27, fX11_livingIn_30, fX11_livingIn_31, fX11_livingIn_34, mo_isO, mo_g14, kI_0, mo_f20, mo_r20, kB_10, kI_n, Option.bind_some, n35, n9, n19, n51, n59, nI_add, ix2, ix8, ix22, ix5, ↓reduceIte, hanew, stR_eq, h14, c_ahead1 (inB_n hk hk2 (by omega)), n0_0, k1, mo_g25, mo_g26, mo_f20, rw_r rwA_175, c_everybody, hho, h170, hr3, kI_n, kB_12, kB_10, Bool.false_eq_true, if_false]
set_option maxRecDepth 100000 in
set_option maxHeartbeats 400000 in
theorem qc_hungriestIn_no (hB : Bas S T ht P N F U E) {n : Int32} (hno : (ht && inB n (nI 0) (nI 60)) = false) : cq (fun h => gX10_hungriestIn 0 n h) S J T m1 (why ht (inB n (nI 0) (nI 60))) := by
  obtain ⟨b1, b2, b3, b4, b5, b6, b7, b8, b9, b10⟩ := hB
  refine cq_no ?_
  simp (disch := omega) only [gX10_hungriestIn, fX10_hungriestIn_0, fX10_hungriestIn_2, fX10_hungriestIn_5, fX10_hungriestIn_9, fX10_hungriestIn_12, fX10_hungriestIn_15, fX10_hungriestIn_17, fX10_hungriestIn_30, fX10_hungriestIn_33, fX10_hungriestIn_44, fX10_hungriestIn_47, lt_isO, kI_0, kB_60, kI_n, lt_f1, lt_f9, lt_f8, co_isO, co_f0, Option.bind_some, n35, n9, n19, n51, n59, nI_add, ix2, ix8, ix22, ix5, ↓reduceIte, lt_isO, c_lacksTable b1 b3 b5, b8, c_isRefused, hno, Bool.not_false, bI_t, n1_0]
set_option maxRecDepth 100000 in
set_option maxHeartbeats 400000 in
theorem qc_hungriestIn (hB : Bas S T true P N F U E) {k : Nat} (hk : 0 ≤ k) (hk2 : k ≤ 60) {V : Int32} (hV : ∀ S', crM S' (S 170) P N F (S 174) k → oi (hu (S' 8) P) = V) : cq (fun h => gX10_hungriestIn 0 (nI k) h) S J T V (nI 0) := by
  have hlk := c_lack1 (J := J) hB
  obtain ⟨b1, b2, b3, b4, b5, b6, b7, b8, b9, b10⟩ := hB
  obtain ⟨S', k1, k2, k3⟩ := y_walk (S := S) (S0 := stR S 0 (up (S 0) 11 (nI 0))) (J := J) (T := T) b1 b2 (b9 rfl) (by rw [stR_ne (by omega)]) (by rw [stR_ne (by omega)]) hk2
  have f0 : S' 0 = up (S 0) 11 (nI 0) := by rw [k3 0 (by decide), stR_eq]
  have ft : S' (T 0) = S (T 0) := by rw [k3 (T 0) (by simp; omega), stR_ne (by omega)]
  refine ⟨S', ?_, fr_CL (fr_st (fr_rf S _) (by decide)) k3, by rw [f0, up_eq], by rw [f0, up_ne (by omega)]⟩
  rw [← hV S' k2]
  simp (disch := omega) only [gX10_hungriestIn, fX10_hungriestIn_0, fX10_hungriestIn_2, fX10_hungriestIn_5, fX10_hungriestIn_9, fX10_hungriestIn_12, fX10_hungriestIn_15, fX10_hungriestIn_17, fX10_hungriestIn_30, fX10_hungriestIn_33, fX10_hungriestIn_44, fX10_hungriestIn_47, lt_isO, kI_0, kB_60, kI_n, lt_f1, lt_f9, lt_f8, co_isO, co_f0, Option.bind_some, n35, n9, n19, n51, n59, nI_add, ix2, ix8, ix22, ix5, ↓reduceIte, lt_isO, hlk, c_isRef1 (inB_n hk hk2 (by omega)), n0_0, lt_f1, lt_f8, lt_f9, co_isO, k1, co_f0, co_f1, co_g4, co_g5, ml_g0 mlA_12, ml_g1 mlA_12, pl_g5 plA_8, pl_isO plA_8, c_living plA_8 b1, c_hungriest plA_8 b1 (show S' (T 0) 3 = nI P by rw [ft]; exact b3) b5, ft, b3]
set_option maxRecDepth 100000 in
set_option maxHeartbeats 400000 in
theorem qm_hungriestIn_no (h14 : S 167 14 = bI ht) {n : Int32} (hno : (ht && inB n (nI 0) (nI 60)) = false) : mq (fun h => gX11_hungriestIn 167 n h) S J T m1 (why ht (inB n (nI 0) (nI 60))) := by
  refine mq_no (X := up (nw S) 11 (why ht (inB n (nI 0) (nI 60)))) ?_ up_eq (nw_p S _)
  simp (disch := omega) only [gX11_hungriestIn, fX11_hungriestIn_0, fX11_hungriestIn_1, fX11_hungriestIn_4, fX11_hungriestIn_11, fX11_hungriestIn_14, fX11_hungriestIn_19, fX11_hungriestIn_21, fX11_hungriestIn_24, fX11_hungriestIn_25, fX11_hungriestIn_27, fX11_hungriestIn_30, fX11_hungriestIn_36, fX11_hungriestIn_39, mo_isO, mo_g14, kI_0, mo_f20, Option.bind_some, n35, n9, n19, n51, n59, nI_add, ix2, ix8, ix22, ix5, ↓reduceIte, c_anew, stR_eq, up_ne, h14, c_aheadWhy, why_ne hno, c_no, stR_stR, nw]
set_option maxRecDepth 100000 in
set_option maxHeartbeats 400000 in
theorem q_hungriestIn (h : Rl S T) (n : Int32) : bth (fun h => gX10_hungriestIn 0 n h) (fun h => gX11_hungriestIn 167 n h) S J T := by
  obtain ⟨ht, P, N, F, U, E, hB⟩ := Rl_bas h
  cases hno : (ht && inB n (nI 0) (nI 60)) with
  | false => exact bth_q h (qc_hungriestIn_no hB hno) (fun S1 hf => qm_hungriestIn_no (by rw [hf 167 (by decide)]; exact hB.2.2.2.2.2.2.1) hno) (why_4 _ _)
  | true =>
    rw [Bool.and_eq_true] at hno
    obtain ⟨rfl, hin⟩ := hno
    obtain ⟨k, hk, hk2, rfl⟩ := inB_t (by omega) (by omega) hin
    have hy := hB.2.2.2.2.2.2.2.2.1 rfl
    have hP5 := hB.2.2.2.2.1
    have hr3 : S 170 3 = nI P := hy.1.1.1
    refine bth_q h (qc_hungriestIn hB hk hk2 (V := oi (hu (dyN (S 170) P N F (S 170 0) k (S 174)) P)) (fun S' hc => by rw [hu_ag hc.1])) (fun S1 hf => ?_) n0_4
    have h167 : S1 167 = S 167 := hf 167 (by decide)
    obtain ⟨S2, k1, k2, k3⟩ := y_days (S := S) (S0 := stR S1 167 (nw S1)) (J := J) (T := T) hy (by rw [stR_ne (by omega)]; exact hf 170 (by decide)) (by rw [stR_ne (by omega)]; exact hf 174 (by decide)) hk2
    obtain ⟨q1, q2, q3⟩ := mfr_q k3
    have h170 : S2 170 = S 170 := by rw [q1 170 (by decide)]; exact hf 170 (by decide)
    refine ⟨S2, ?_, q1, q2, q3⟩
    have h14 : nw S1 14 = nI 1 := by unfold nw; rw [up_ne (by omega), up_ne (by omega), h167]; exact hB.2.2.2.2.2.2.1
    have hanew : gX11_anew 167 (hp S1 J T) = some (hp (stR S1 167 (nw S1)) J T) := c_anew
    have hho : gX11_hungriestOf 167 175 (nI 0) (hp S2 J T) = some (oi (hu (S2 175) P), hp S2 J T) := c_hungriestOf (J := J) (T := T) rwA_175 (show S2 170 3 = nI P by rw [h170]; exact hr3) hP5 false
    have hval : oi (hu (S2 175) P) = oi (hu (dyN (S 170) P N F (S 170 0) k (S 174)) P) := by rw [hu_ag k2.1]
    rw [← hval]
    simp (disch := omega) only [gX11_hungriestIn, fX11_hungriestIn_0, fX11_hungriestIn_1, fX11_hungriestIn_4, fX11_hungriestIn_11, fX11_hungriestIn_14, fX11_hungriestIn_19, fX11_hungriestIn_21, fX11_hungriestIn_24, fX11_hungriestIn_25, fX11_hungriestIn_27, fX11_hungriestIn_30, fX11_hungriestIn_36, fX11_hungriestIn_39, mo_isO, mo_g14, kI_0, mo_f20, Option.bind_some, n35, n9, n19, n51, n59, nI_add, ix2, ix8, ix22, ix5, ↓reduceIte, hanew, stR_eq, h14, c_ahead1 (inB_n hk hk2 (by omega)), n0_0, k1, mo_g25, mo_g26, mo_f20, rw_r rwA_175, c_everybody, hho, h170, hr3, kI_n, kB_12, kB_10, Bool.false_eq_true, if_false]
end Q1
