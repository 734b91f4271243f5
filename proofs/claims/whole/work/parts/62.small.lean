-- SMALL METHODS OF BOTH SIDES
def inB (v lo hi : Int32) : Bool := decide (¬ v < lo ∧ ¬ hi < v)
def okB' (p : Int32) (P : Nat) : Bool := decide (¬ p < 0 ∧ p < nI P)
set_option maxRecDepth 100000 in
set_option maxHeartbeats 400000 in
theorem okB_t {p : Int32} {P : Nat} (hP : P < 5000) (h : okB' p P = true) : ∃ k, k < P ∧ p = nI k := by
  unfold okB' at h
  obtain ⟨h1, h2⟩ := of_decide_eq_true h
  obtain ⟨n, hn, rfl⟩ := nI_of h1
  refine ⟨n, ?_, rfl⟩
  exact (nI_ltI hn (by omega)).mp h2
set_option maxRecDepth 100000 in
set_option maxHeartbeats 400000 in
theorem okB_n {k P : Nat} (hk : k < 5000) (hP : P < 5000) : okB' (nI k) P = decide (k < P) := by
  unfold okB'
  by_cases h : k < P
  · rw [decide_eq_true h, decide_eq_true ⟨not0 hk, (lt_iff hk hP).mpr h⟩]
  · rw [decide_eq_false h, decide_eq_false (fun z => h ((lt_iff hk hP).mp z.2))]
set_option maxRecDepth 100000 in
set_option maxHeartbeats 400000 in
theorem lt_pred {p : Int32} {P : Nat} (h0 : ¬ p < 0) (hP : 0 < P) (hP5 : P < 5000) : (nI (P - 1) < p) = ¬ (p < nI P) := by
  obtain ⟨n, hn, rfl⟩ := nI_of h0
  refine propext ⟨fun h z => ?_, fun h => ?_⟩
  · have h1 := (nI_ltI (by omega) hn).mp h
    have h2 := (nI_ltI hn (by omega)).mp z
    omega
  · refine (nI_ltI (by omega) hn).mpr ?_
    rcases Nat.lt_or_ge n P with z | z
    · exact absurd ((nI_ltI hn (by omega)).mpr z) h
    · omega
set_option maxRecDepth 100000 in
set_option maxHeartbeats 400000 in
theorem inB_pred {p : Int32} {P : Nat} (hP : 0 < P) (hP5 : P < 5000) : inB p (nI 0) (nI (P - 1)) = okB' p P := by
  unfold inB okB'
  rw [show (nI 0 : Int32) = 0 from rfl]
  by_cases h0 : p < 0
  · rw [decide_eq_false (fun z => z.1 h0), decide_eq_false (fun z => z.1 h0)]
  · have e := lt_pred h0 hP hP5
    by_cases h1 : p < nI P
    · rw [decide_eq_true ⟨h0, fun z => (e.mp z) h1⟩, decide_eq_true ⟨h0, h1⟩]
    · rw [decide_eq_false (fun z => z.2 (e.mpr h1)), decide_eq_false (fun z => h1 z.2)]
set_option maxRecDepth 100000 in
set_option maxHeartbeats 400000 in
theorem inB_t {v : Int32} {lo hi : Nat} (hhi : hi < 5000) (hlo : lo < 5000) (h : inB v (nI lo) (nI hi) = true) : ∃ n, lo ≤ n ∧ n ≤ hi ∧ v = nI n := by
  unfold inB at h
  obtain ⟨h1, h2⟩ := of_decide_eq_true h
  have h0 : ¬ v < 0 := by
    intro z
    apply h1
    have a := Int32.lt_iff_toInt_lt.mp z
    refine Int32.lt_iff_toInt_lt.mpr ?_
    have b : (nI lo).toInt = (lo : Int) := by
      show (Int32.ofNat lo).toInt = _
      rw [Int32.toInt_ofNat_of_lt (by omega)]
    have c : (0 : Int32).toInt = 0 := by decide
    omega
  obtain ⟨n, hn, rfl⟩ := nI_of h0
  refine ⟨n, ?_, ?_, rfl⟩
  · rcases Nat.lt_or_ge n lo with z | z
    · exact absurd ((nI_ltI hn (by omega)).mpr z) h1
    · exact z
  · rcases Nat.lt_or_ge hi n with z | z
    · exact absurd ((nI_ltI (by omega) hn).mpr z) h2
    · exact z
def why (a b : Bool) : Int32 := if a then (if b then nI 0 else nI 2) else nI 1
set_option maxRecDepth 100000 in
set_option maxHeartbeats 400000 in
theorem why_0 {a b : Bool} : (why a b = 0) = (a = true ∧ b = true) := by cases a <;> cases b <;> exact propext (by decide)
section SMALLM
variable {S : Mem} {J : MeJ} {T : Nat → Nat} {t : Nat}
set_option maxRecDepth 100000 in
set_option maxHeartbeats 400000 in
theorem c_in {v lo hi : Int32} {h : aH} : gX11_in v lo hi h = some (bI (inB v lo hi), h) := by
  unfold inB
  by_cases h1 : v < lo
  · rw [decide_eq_false (fun z => z.1 h1)]
    simp only [gX11_in, fX11_in_0, fX11_in_5, fX11_in_10, fX11_in_14, fX11_in_15, kI_1, kI_0, Option.bind_some, n35, n9, n19, n51, n59, nI_add, ix2, ix8, ix22, ix5, ↓reduceIte, h1]
    rfl
  · by_cases h2 : hi < v
    · rw [decide_eq_false (fun z => z.2 h2)]
      simp only [gX11_in, fX11_in_0, fX11_in_5, fX11_in_10, fX11_in_14, fX11_in_15, kI_1, kI_0, Option.bind_some, n35, n9, n19, n51, n59, nI_add, ix2, ix8, ix22, ix5, ↓reduceIte, h1, h2]
      rfl
    · rw [decide_eq_true ⟨h1, h2⟩]
      simp only [gX11_in, fX11_in_0, fX11_in_5, fX11_in_10, fX11_in_14, fX11_in_15, kI_1, kI_0, Option.bind_some, n35, n9, n19, n51, n59, nI_add, ix2, ix8, ix22, ix5, ↓reduceIte, h1, h2]
      rfl
set_option maxRecDepth 100000 in
set_option maxHeartbeats 400000 in
theorem c_anew : gX11_anew 167 (hp S J T) = some (hp (stR S 167 (up (up (S 167) 0 (nI 0)) 11 (nI 0))) J T) := by
  simp (disch := omega) only [gX11_anew, fX11_anew_0, kI_0, mo_p0, mo_p11, Option.bind_some, n35, n9, n19, n51, n59, nI_add, ix2, ix8, ix22, ix5, ↓reduceIte, stS_R, stR_stR, stR_eq]
set_option maxRecDepth 100000 in
set_option maxHeartbeats 400000 in
theorem c_no {v : Int32} : gX11_no 167 v (hp S J T) = some (m1, hp (stR S 167 (up (S 167) 11 v)) J T) := by
  simp (disch := omega) only [gX11_no, fX11_no_0, mo_p11, kI_n, Option.bind_some, n35, n9, n19, n51, n59, nI_add, ix2, ix8, ix22, ix5, ↓reduceIte, stS_R]
set_option maxRecDepth 100000 in
set_option maxHeartbeats 400000 in
theorem c_why {a b : Bool} : gX11_why 167 (bI a) (bI b) (hp S J T) = some (why a b, hp S J T) := by
  cases a <;> cases b <;> simp (disch := omega) only [gX11_why, fX11_why_0, fX11_why_4, fX11_why_8, fX11_why_12, fX11_why_16, fX11_why_17, kI_1, kI_0, kI_2, Option.bind_some, n35, n9, n19, n51, n59, nI_add, ix2, ix8, ix22, ix5, ↓reduceIte, bI_t, bI_f, n0_0, n1_0] <;> rfl
set_option maxRecDepth 100000 in
set_option maxHeartbeats 400000 in
theorem c_aheadWhy {a : Bool} {lo n : Int32} : gX11_aheadWhy 167 (bI a) lo n (hp S J T) = some (why a (inB n lo (nI 60)), hp S J T) := by
  simp (disch := omega) only [gX11_aheadWhy, fX11_aheadWhy_0, fX11_aheadWhy_6, fX11_aheadWhy_9, fX11_aheadWhy_12, kB_60, mo_isO, Option.bind_some, n35, n9, n19, n51, n59, nI_add, ix2, ix8, ix22, ix5, ↓reduceIte, c_in, c_why]
set_option maxRecDepth 100000 in
set_option maxHeartbeats 400000 in
theorem c_isPerson {ht : Bool} {P : Nat} (hh : S 167 14 = bI ht) (hP : ht = true → S 170 3 = nI P ∧ 0 < P ∧ P ≤ 5) {p : Int32} : gX11_isPerson 167 p (hp S J T) = some (bI (ht && okB' p P), hp S J T) := by
  cases ht with
  | false => simp (disch := omega) only [gX11_isPerson, fX11_isPerson_0, fX11_isPerson_7, fX11_isPerson_17, fX11_isPerson_20, fX11_isPerson_23, fX11_isPerson_27, fX11_isPerson_28, mo_g14, kI_0, mo_f15, mo_r15, kI_3, kI_1, Option.bind_some, n35, n9, n19, n51, n59, nI_add, ix2, ix8, ix22, ix5, ↓reduceIte, hh, bI_f, n0_0, Bool.false_and]; rfl
  | true =>
    obtain ⟨h1, h2, h3⟩ := hP rfl
    simp (disch := omega) only [gX11_isPerson, fX11_isPerson_0, fX11_isPerson_7, fX11_isPerson_17, fX11_isPerson_20, fX11_isPerson_23, fX11_isPerson_27, fX11_isPerson_28, mo_g14, kI_0, mo_f15, mo_r15, kI_3, kI_1, Option.bind_some, n35, n9, n19, n51, n59, nI_add, ix2, ix8, ix22, ix5, ↓reduceIte, hh, bI_t, n1_0, h1, nsub, c_in, inB_pred, Bool.true_and]
    cases okB' p P <;> rfl
set_option maxRecDepth 100000 in
set_option maxHeartbeats 400000 in
theorem c_isName {ht : Bool} {N : Nat} (hh : S 167 14 = bI ht) (hN : ht = true → S 170 4 = nI N ∧ 0 < N ∧ N ≤ 8) {p : Int32} : gX11_isName 167 p (hp S J T) = some (bI (ht && okB' p N), hp S J T) := by
  cases ht with
  | false => simp (disch := omega) only [gX11_isName, fX11_isName_0, fX11_isName_7, fX11_isName_17, fX11_isName_20, fX11_isName_23, fX11_isName_27, fX11_isName_28, mo_g14, kI_0, mo_f15, mo_r15, kI_4, kI_1, Option.bind_some, n35, n9, n19, n51, n59, nI_add, ix2, ix8, ix22, ix5, ↓reduceIte, hh, bI_f, n0_0, Bool.false_and]; rfl
  | true =>
    obtain ⟨h1, h2, h3⟩ := hN rfl
    simp (disch := omega) only [gX11_isName, fX11_isName_0, fX11_isName_7, fX11_isName_17, fX11_isName_20, fX11_isName_23, fX11_isName_27, fX11_isName_28, mo_g14, kI_0, mo_f15, mo_r15, kI_4, kI_1, Option.bind_some, n35, n9, n19, n51, n59, nI_add, ix2, ix8, ix22, ix5, ↓reduceIte, hh, bI_t, n1_0, h1, nsub, c_in, inB_pred, Bool.true_and]
    cases okB' p N <;> rfl
-- the class
set_option maxRecDepth 100000 in
set_option maxHeartbeats 400000 in
theorem c_answer {v : Int32} : gX10_answer 0 v (hp S J T) = some (v, hp (stR S 0 (up (S 0) 11 (nI 0))) J T) := by
  simp (disch := omega) only [gX10_answer, fX10_answer_0, kI_0, lt_p11, Option.bind_some, n35, n9, n19, n51, n59, nI_add, ix2, ix8, ix22, ix5, ↓reduceIte, stS_R]
set_option maxRecDepth 100000 in
set_option maxHeartbeats 400000 in
theorem c_refuse {v : Int32} : gX10_refuse 0 v (hp S J T) = some (m1, hp (stR S 0 (up (S 0) 11 v)) J T) := by
  simp (disch := omega) only [gX10_refuse, fX10_refuse_0, lt_p11, kI_n, Option.bind_some, n35, n9, n19, n51, n59, nI_add, ix2, ix8, ix22, ix5, ↓reduceIte, stS_R]
set_option maxRecDepth 100000 in
set_option maxHeartbeats 400000 in
theorem c_lacksTable (ht : tlA (T 0)) {P : Nat} (hP : S (T 0) 3 = nI P) (hP5 : P ≤ 5) : gX10_lacksTable 0 (hp S J T) = some (bI (decide (P = 0)), hp S J T) := by
  by_cases h : P = 0
  · rw [decide_eq_true h]
    simp (disch := omega) only [gX10_lacksTable, fX10_lacksTable_0, fX10_lacksTable_10, fX10_lacksTable_14, fX10_lacksTable_15, lt_f9, tl_g3 ht, kI_1, kI_0, Option.bind_some, n35, n9, n19, n51, n59, nI_add, ix2, ix8, ix22, ix5, ↓reduceIte, hP, eq0, h]
    rfl
  · rw [decide_eq_false h]
    simp (disch := omega) only [gX10_lacksTable, fX10_lacksTable_0, fX10_lacksTable_10, fX10_lacksTable_14, fX10_lacksTable_15, lt_f9, tl_g3 ht, kI_1, kI_0, Option.bind_some, n35, n9, n19, n51, n59, nI_add, ix2, ix8, ix22, ix5, ↓reduceIte, hP, eq0, h]
    rfl
set_option maxRecDepth 100000 in
set_option maxHeartbeats 400000 in
theorem c_lacksPerson (ht : tlA (T 0)) {P : Nat} (hP : S (T 0) 3 = nI P) {p : Int32} : gX10_lacksPerson 0 p (hp S J T) = some (bI (!okB' p P), hp S J T) := by
  unfold okB'
  by_cases h : p < 0
  · rw [decide_eq_false (fun z => z.1 h)]
    simp (disch := omega) only [gX10_lacksPerson, fX10_lacksPerson_0, fX10_lacksPerson_4, fX10_lacksPerson_15, fX10_lacksPerson_19, fX10_lacksPerson_20, lt_f9, tl_g3 ht, kI_1, kI_0, Option.bind_some, n35, n9, n19, n51, n59, nI_add, ix2, ix8, ix22, ix5, ↓reduceIte, h]
    rfl
  · by_cases h2 : p < nI P
    · rw [decide_eq_true ⟨h, h2⟩]
      simp (disch := omega) only [gX10_lacksPerson, fX10_lacksPerson_0, fX10_lacksPerson_4, fX10_lacksPerson_15, fX10_lacksPerson_19, fX10_lacksPerson_20, lt_f9, tl_g3 ht, kI_1, kI_0, Option.bind_some, n35, n9, n19, n51, n59, nI_add, ix2, ix8, ix22, ix5, ↓reduceIte, hP, h, h2]
      rfl
    · rw [decide_eq_false (fun z => h2 z.2)]
      simp (disch := omega) only [gX10_lacksPerson, fX10_lacksPerson_0, fX10_lacksPerson_4, fX10_lacksPerson_15, fX10_lacksPerson_19, fX10_lacksPerson_20, lt_f9, tl_g3 ht, kI_1, kI_0, Option.bind_some, n35, n9, n19, n51, n59, nI_add, ix2, ix8, ix22, ix5, ↓reduceIte, hP, h, h2]
      rfl
set_option maxRecDepth 100000 in
set_option maxHeartbeats 400000 in
theorem c_lacksName (ht : tlA (T 0)) {P : Nat} (hP : S (T 0) 4 = nI P) {p : Int32} : gX10_lacksName 0 p (hp S J T) = some (bI (!okB' p P), hp S J T) := by
  unfold okB'
  by_cases h : p < 0
  · rw [decide_eq_false (fun z => z.1 h)]
    simp (disch := omega) only [gX10_lacksName, fX10_lacksName_0, fX10_lacksName_4, fX10_lacksName_15, fX10_lacksName_19, fX10_lacksName_20, lt_f9, tl_g4 ht, kI_1, kI_0, Option.bind_some, n35, n9, n19, n51, n59, nI_add, ix2, ix8, ix22, ix5, ↓reduceIte, h]
    rfl
  · by_cases h2 : p < nI P
    · rw [decide_eq_true ⟨h, h2⟩]
      simp (disch := omega) only [gX10_lacksName, fX10_lacksName_0, fX10_lacksName_4, fX10_lacksName_15, fX10_lacksName_19, fX10_lacksName_20, lt_f9, tl_g4 ht, kI_1, kI_0, Option.bind_some, n35, n9, n19, n51, n59, nI_add, ix2, ix8, ix22, ix5, ↓reduceIte, hP, h, h2]
      rfl
    · rw [decide_eq_false (fun z => h2 z.2)]
      simp (disch := omega) only [gX10_lacksName, fX10_lacksName_0, fX10_lacksName_4, fX10_lacksName_15, fX10_lacksName_19, fX10_lacksName_20, lt_f9, tl_g4 ht, kI_1, kI_0, Option.bind_some, n35, n9, n19, n51, n59, nI_add, ix2, ix8, ix22, ix5, ↓reduceIte, hP, h, h2]
      rfl
set_option maxRecDepth 100000 in
set_option maxHeartbeats 400000 in
theorem c_isOutside {v lo hi : Int32} {h : aH} : gX10_isOutside v lo hi h = some (bI (!inB v lo hi), h) := by
  unfold inB
  by_cases h1 : v < lo
  · rw [decide_eq_false (fun z => z.1 h1)]
    simp only [gX10_isOutside, fX10_isOutside_0, fX10_isOutside_5, fX10_isOutside_10, fX10_isOutside_14, fX10_isOutside_15, kI_1, kI_0, Option.bind_some, n35, n9, n19, n51, n59, nI_add, ix2, ix8, ix22, ix5, ↓reduceIte, h1]
    rfl
  · by_cases h2 : hi < v
    · rw [decide_eq_false (fun z => z.2 h2)]
      simp only [gX10_isOutside, fX10_isOutside_0, fX10_isOutside_5, fX10_isOutside_10, fX10_isOutside_14, fX10_isOutside_15, kI_1, kI_0, Option.bind_some, n35, n9, n19, n51, n59, nI_add, ix2, ix8, ix22, ix5, ↓reduceIte, h1, h2]
      rfl
    · rw [decide_eq_true ⟨h1, h2⟩]
      simp only [gX10_isOutside, fX10_isOutside_0, fX10_isOutside_5, fX10_isOutside_10, fX10_isOutside_14, fX10_isOutside_15, kI_1, kI_0, Option.bind_some, n35, n9, n19, n51, n59, nI_add, ix2, ix8, ix22, ix5, ↓reduceIte, h1, h2]
      rfl
set_option maxRecDepth 100000 in
set_option maxHeartbeats 400000 in
theorem c_isRefused {a : Bool} {v lo hi : Int32} : gX10_isRefused 0 (bI (!a)) v lo hi (hp S J T) = some (bI (!(a && inB v lo hi)), hp (stR S 0 (up (S 0) 11 (why a (inB v lo hi)))) J T) := by
  cases a with
  | false =>
    simp (disch := omega) only [gX10_isRefused, fX10_isRefused_0, fX10_isRefused_4, fX10_isRefused_12, fX10_isRefused_17, fX10_isRefused_20, fX10_isRefused_23, fX10_isRefused_27, fX10_isRefused_28, fX10_isRefused_31, fX10_isRefused_38, fX10_isRefused_42, fX10_isRefused_43, kI_1, lt_p11, kI_2, kI_0, lt_g11, Option.bind_some, n35, n9, n19, n51, n59, nI_add, ix2, ix8, ix22, ix5, ↓reduceIte, Bool.not_false, bI_t, n1_0, stS_R, stR_eq, up_eq, Bool.false_and]
    rfl
  | true =>
    cases hb : inB v lo hi with
    | false =>
      simp (disch := omega) only [gX10_isRefused, fX10_isRefused_0, fX10_isRefused_4, fX10_isRefused_12, fX10_isRefused_17, fX10_isRefused_20, fX10_isRefused_23, fX10_isRefused_27, fX10_isRefused_28, fX10_isRefused_31, fX10_isRefused_38, fX10_isRefused_42, fX10_isRefused_43, kI_1, lt_p11, kI_2, kI_0, lt_g11, Option.bind_some, n35, n9, n19, n51, n59, nI_add, ix2, ix8, ix22, ix5, ↓reduceIte, Bool.not_true, bI_f, n0_0, c_isOutside, hb, Bool.not_false, bI_t, n1_0, stS_R, stR_eq, up_eq, Bool.true_and, show (nI 2 = 0) = False from eq_false (by decide)]
      rfl
    | true =>
      simp (disch := omega) only [gX10_isRefused, fX10_isRefused_0, fX10_isRefused_4, fX10_isRefused_12, fX10_isRefused_17, fX10_isRefused_20, fX10_isRefused_23, fX10_isRefused_27, fX10_isRefused_28, fX10_isRefused_31, fX10_isRefused_38, fX10_isRefused_42, fX10_isRefused_43, kI_1, lt_p11, kI_2, kI_0, lt_g11, Option.bind_some, n35, n9, n19, n51, n59, nI_add, ix2, ix8, ix22, ix5, ↓reduceIte, Bool.not_true, bI_f, n0_0, c_isOutside, hb, stS_R, stR_eq, up_eq, Bool.true_and]
      rfl
end SMALLM
