-- THE BEST FAST: what both choose
set_option maxRecDepth 100000 in
set_option maxHeartbeats 400000 in
theorem and0 {x y : Int32} : (x &&& y = 0) ↔ ∀ i, i < 32 → (bt x i && bt y i) = false := by
  refine ⟨fun h i hi => ?_, fun h => b_ext (fun i hi => ?_)⟩
  · rw [← b_and, h]
    exact b_0 i
  · rw [b_and, h i hi]
    exact (b_0 i).symm
set_option maxRecDepth 100000 in
set_option maxHeartbeats 400000 in
theorem b_not (x : Int32) {i : Nat} (hi : i < 32) : bt (x ^^^ m1) i = !bt x i := by
  rw [b_xor, b_m1 i hi, Bool.xor_true]
set_option maxRecDepth 100000 in
set_option maxHeartbeats 400000 in
theorem and_sm (a : Nat) (z : Int32) (ha : a < 4294967296) : ∃ b, b ≤ a ∧ nI a &&& z = nI b := by
  refine ⟨a &&& z.toBitVec.toNat, Nat.and_le_left, ?_⟩
  rw [← nI_and]
  refine congrArg (nI a &&& ·) (Int32.toBitVec_inj.mp ?_)
  show z.toBitVec = BitVec.ofNat 32 z.toBitVec.toNat
  rw [BitVec.ofNat_toNat, BitVec.setWidth_eq]
def fre (r R : Row) (F : Nat) : Int32 := lvm r R &&& (fs r (R 13 + nI 1) F 0 (R 11) ^^^ m1)
def lF (f : Int32) (k : Nat) : Bool := decide (nI k &&& (f ^^^ m1) = 0)
set_option maxRecDepth 100000 in
set_option maxHeartbeats 400000 in
theorem ev_n : ∀ P, P ≤ 5 → (nI 1 <<< (nI P &&& 31)) - nI 1 = nI (2 ^ P - 1) ∧ 2 ^ P ≤ 32 := by decide
set_option maxRecDepth 100000 in
set_option maxHeartbeats 400000 in
theorem fre_sm {r R : Row} {F P : Nat} (hP : r 3 = nI P) (hP5 : P ≤ 5) : ∃ f, f < 2 ^ P ∧ fre r R F = nI f := by
  obtain ⟨e1, e2⟩ := ev_n P hP5
  have hp : 0 < 2 ^ P := Nat.pow_pos (by omega)
  unfold fre lvm
  rw [hP, e1]
  obtain ⟨b, hb, eb⟩ := and_sm (2 ^ P - 1) (R 10 ^^^ m1) (by omega)
  rw [eb]
  obtain ⟨c, hc, ec⟩ := and_sm b (fs r (R 13 + nI 1) F 0 (R 11) ^^^ m1) (by omega)
  exact ⟨c, by omega, ec⟩
set_option maxRecDepth 100000 in
set_option maxHeartbeats 400000 in
theorem lF_le : ∀ k, k < 32 → ∀ f, f < 32 → nI k &&& (nI f ^^^ m1) = 0 → k ≤ f := by decide
set_option maxRecDepth 100000 in
set_option maxHeartbeats 400000 in
theorem lF_0 (f : Int32) : lF f 0 = true := decide_eq_true (and0.mpr (fun i hi => by rw [b_0, Bool.false_and]))
set_option maxRecDepth 100000 in
set_option maxHeartbeats 400000 in
theorem fre_ag {r q R Q : Row} {P N F : Nat} (hr : agT r q P N F) (h : agR R Q P N) : fre r R F = fre q Q F := by
  unfold fre lvm
  rw [hr.1 3 (by omega), h.2.1 10 (by omega) (by omega), h.2.1 11 (by omega) (by omega), h.2.1 13 (by omega) (by omega), ag_fs hr]
set_option maxRecDepth 100000 in
set_option maxHeartbeats 400000 in
theorem am_x {lt : Nat → Nat → Bool} {l : Nat → Bool} : ∀ (m n k : Nat) (b : Option Nat), (∀ j, k + n ≤ j → j < k + n + m → l j = false) → am lt l (n + m) k b = am lt l n k b := by
  intro m n
  induction n with
  | zero =>
    intro k b h
    rw [Nat.zero_add]
    have : ∀ m k b, (∀ j, k ≤ j → j < k + m → l j = false) → am lt l m k b = b := by
      intro m
      induction m with
      | zero => intro k b _; rfl
      | succ m ih =>
        intro k b h
        show am lt l m (k + 1) (ams lt l k b) = b
        rw [ams_f (h k (by omega) (by omega))]
        exact ih (k + 1) b (fun j h1 h2 => h j (by omega) (by omega))
    exact this m k b (fun j h1 h2 => h j (by omega) (by omega))
  | succ n ih =>
    intro k b h
    rw [show n + 1 + m = n + m + 1 by omega]
    show am lt l (n + m) (k + 1) (ams lt l k b) = am lt l n (k + 1) (ams lt l k b)
    exact ih (k + 1) _ (fun j h1 h2 => h j (by omega) (by omega))
set_option maxRecDepth 100000 in
set_option maxHeartbeats 400000 in
theorem am_so {lt : Nat → Nat → Bool} {l : Nat → Bool} : ∀ (n k : Nat) (j : Nat), ∃ i, am lt l n k (some j) = some i := by
  intro n
  induction n with
  | zero => intro k j; exact ⟨j, rfl⟩
  | succ n ih =>
    intro k j
    show ∃ i, am lt l n (k + 1) (ams lt l k (some j)) = some i
    unfold ams
    split
    · simp only [ams1]
      split
      · exact ih _ _
      · exact ih _ _
    · exact ih _ _
def rw1 (r R : Row) (P N F k : Nat) : Row := dayR r R P N F (nI k) false (r 0)
def wvl (r R : Row) (P N F k : Nat) : Int32 := wo (rw1 r R P N F k) (dWt r (rw1 r R P N F k) P N false)
def btr (w : Nat → Int32) (j k : Nat) : Bool := decide (w j < w k) || (decide (w j = w k) && decide (pc k < pc j))
section BF
variable {S S0 : Mem} {J : MeJ} {T : Nat → Nat} {t a P N F U E : Nat}
set_option maxRecDepth 100000 in
set_option maxHeartbeats 400000 in
theorem c_free (ha : plA a) (htl : tlA t) (hF : S t 5 = nI F) (hF8 : F ≤ 8) : gX7_freeToFast a t (hp S J T) = some (fre (S t) (S a) F, hp S J T) := by
  simp (disch := omega) only [gX7_freeToFast, fX7_freeToFast_0, fX7_freeToFast_2, fX7_freeToFast_5, fX7_freeToFast_7, fX7_freeToFast_10, pl_isO ha, kI_n, Option.bind_some, n35, n9, n19, n51, n59, nI_add, ix2, ix8, ix22, ix5, ↓reduceIte, c_living ha htl, c_fastingNext ha htl hF hF8, fre, lvm]
-- the class's choice so far
def cSt (w : Nat → Int32) (X : Row) (b : Option Nat) : Prop := match b with
  | none => X 0 = nI 1000 ∧ X 1 = nI 0 ∧ X 2 = m1
  | some j => X 0 = nI (pc j) ∧ X 1 = nI j ∧ X 2 = w j
set_option maxRecDepth 100000 in
set_option maxHeartbeats 400000 in
theorem c_better {k : Nat} (hk : k < 32768) {c b : Nat} (hc : c ≤ 1000) (hb : b < 32768) (h0 : S 17 0 = nI c) (h1 : S 17 1 = nI b) : gX2_isBetter 17 (nI k) (hp S J T) = some (bI (decide (pc k < c) || (decide (pc k = c) && decide (k < b))), hp S J T) := by
  have hp15 := pc_le k
  have hlt : (nI k < nI b) = (k < b) := propext (by
    rw [Int32.lt_iff_toInt_lt]
    show (Int32.ofNat k).toInt < (Int32.ofNat b).toInt ↔ _
    rw [Int32.toInt_ofNat_of_lt (by omega), Int32.toInt_ofNat_of_lt (by omega)]
    omega)
  by_cases z1 : pc k < c
  · rw [decide_eq_true z1, Bool.true_or]
    simp (disch := omega) only [gX2_isBetter, fX2_isBetter_0, fX2_isBetter_1, fX2_isBetter_4, fX2_isBetter_13, fX2_isBetter_21, fX2_isBetter_29, fX2_isBetter_33, fX2_isBetter_34, se_g0, se_g1, kI_1, kI_0, Option.bind_some, n35, n9, n19, n51, n59, nI_add, ix2, ix8, ix22, ix5, ↓reduceIte, c_bc hk, h0, lt_eq, z1, bI_t, n1_0, n11, false_or, z1_z]
  · rw [decide_eq_false z1, Bool.false_or]
    by_cases z2 : pc k = c
    · rw [decide_eq_true z2, Bool.true_and]
      by_cases z3 : k < b
      · rw [decide_eq_true z3]
        simp (disch := omega) only [gX2_isBetter, fX2_isBetter_0, fX2_isBetter_1, fX2_isBetter_4, fX2_isBetter_13, fX2_isBetter_21, fX2_isBetter_29, fX2_isBetter_33, fX2_isBetter_34, se_g0, se_g1, kI_1, kI_0, Option.bind_some, n35, n9, n19, n51, n59, nI_add, ix2, ix8, ix22, ix5, ↓reduceIte, c_bc hk, h0, h1, lt_eq, eq_eq, z1, z2, Nat.lt_irrefl, hlt, z3, bI_t, n1_0, n11, false_or, z1_z]
      · rw [decide_eq_false z3]
        simp (disch := omega) only [gX2_isBetter, fX2_isBetter_0, fX2_isBetter_1, fX2_isBetter_4, fX2_isBetter_13, fX2_isBetter_21, fX2_isBetter_29, fX2_isBetter_33, fX2_isBetter_34, se_g0, se_g1, kI_1, kI_0, Option.bind_some, n35, n9, n19, n51, n59, nI_add, ix2, ix8, ix22, ix5, ↓reduceIte, c_bc hk, h0, h1, lt_eq, eq_eq, z1, z2, Nat.lt_irrefl, hlt, z3, bI_f, n0_0, true_or, z0_z]
    · rw [decide_eq_false z2, Bool.false_and]
      simp (disch := omega) only [gX2_isBetter, fX2_isBetter_0, fX2_isBetter_1, fX2_isBetter_4, fX2_isBetter_13, fX2_isBetter_21, fX2_isBetter_29, fX2_isBetter_33, fX2_isBetter_34, se_g0, se_g1, kI_1, kI_0, Option.bind_some, n35, n9, n19, n51, n59, nI_add, ix2, ix8, ix22, ix5, ↓reduceIte, c_bc hk, h0, lt_eq, eq_eq, z1, z2, bI_f, n0_0, true_or, z0_z]
set_option maxRecDepth 100000 in
set_option maxHeartbeats 400000 in
theorem c_weighF {w : Nat → Int32} (hw : ∀ k, sm (w k) 20) {k : Nat} (hk : k < 32) {b : Option Nat} (hb : ∀ j, b = some j → j < k) (h : cSt w (S 17) b) : ∃ X : Row, gX2_weighFast 17 (nI k) (w k) (hp S J T) = some (hp (stR S 17 X) J T) ∧ cSt w X (ams1 (btr w) k b) ∧ ∀ j, 3 ≤ j → X j = S 17 j := by
  have hset : fX2_weighFast_24 17 (nI k) (w k) (hp S J T) = some (hp (stR S 17 (up (up (up (S 17) 2 (w k)) 0 (nI (pc k))) 1 (nI k))) J T) := by
    simp (disch := omega) only [fX2_weighFast_24, fX2_weighFast_31, fX2_weighFast_34, fX2_weighFast_42, se_p0, se_p1, se_p2, c_bc (show k < 32768 by omega), Option.bind_some, stS_R, stR_stR, stR_eq]
  have hnew : cSt w (up (up (up (S 17) 2 (w k)) 0 (nI (pc k))) 1 (nI k)) (some k) := ⟨by rw [up_ne (by omega), up_eq], by rw [up_eq], by rw [up_ne (by omega), up_ne (by omega), up_eq]⟩
  have hoth : ∀ j, 3 ≤ j → up (up (up (S 17) 2 (w k)) 0 (nI (pc k))) 1 (nI k) j = S 17 j := fun j hj => by rw [up_ne (by omega), up_ne (by omega), up_ne (by omega)]
  obtain ⟨x, hx, ex⟩ := hw k
  cases b with
  | none =>
    refine ⟨_, ?_, hnew, hoth⟩
    rw [← hset]
    have c1 : (m1 < w k) = True := eq_true (by rw [ex, Int32.lt_iff_toInt_lt]; show m1.toInt < (Int32.ofNat x).toInt; rw [Int32.toInt_ofNat_of_lt (by omega), show m1.toInt = -1 by decide]; omega)
    unfold gX2_weighFast fX2_weighFast_0
    rw [se_g2, Option.bind_some, h.2.2, if_pos (c1 ▸ trivial)]
  | some j =>
    have hj := hb j rfl
    have hpj := pc_le j
    obtain ⟨h0, h1, h2⟩ := h
    by_cases z1 : w j < w k
    · have e : ams1 (btr w) k (some j) = some k := by
        show (if btr w j k = true then some k else some j) = some k
        unfold btr
        rw [decide_eq_true z1, Bool.true_or, if_pos rfl]
      rw [e]
      refine ⟨_, ?_, hnew, hoth⟩
      rw [← hset]
      unfold gX2_weighFast fX2_weighFast_0
      rw [se_g2, Option.bind_some, h2, if_pos z1]
    · by_cases z2 : w k = w j
      · by_cases z3 : pc k < pc j
        · have e : ams1 (btr w) k (some j) = some k := by
            show (if btr w j k = true then some k else some j) = some k
            unfold btr
            rw [decide_eq_true z2.symm, decide_eq_true z3, Bool.true_and, Bool.or_true, if_pos rfl]
          rw [e]
          refine ⟨_, ?_, hnew, hoth⟩
          rw [← hset]
          unfold gX2_weighFast fX2_weighFast_0
          rw [se_g2, Option.bind_some, h2, if_neg z1]
          unfold fX2_weighFast_8
          rw [se_g2, Option.bind_some, h2, if_pos z2]
          unfold fX2_weighFast_16 fX2_weighFast_18
          rw [se_isO, Option.bind_some, c_better (c := pc j) (b := j) (by omega) (by omega) (by omega) h0 h1, Option.bind_some, decide_eq_true z3, Bool.true_or]
          unfold fX2_weighFast_21
          rw [if_neg (show ¬ bI true = 0 by decide)]
        · have e : ams1 (btr w) k (some j) = some j := by
            show (if btr w j k = true then some k else some j) = some j
            unfold btr
            rw [decide_eq_false z1, decide_eq_false z3, Bool.and_false, Bool.or_false, if_neg (by decide)]
          rw [e]
          refine ⟨S 17, ?_, ⟨h0, h1, h2⟩, fun _ _ => rfl⟩
          rw [stR_self]
          unfold gX2_weighFast fX2_weighFast_0
          rw [se_g2, Option.bind_some, h2, if_neg z1]
          unfold fX2_weighFast_8
          rw [se_g2, Option.bind_some, h2, if_pos z2]
          unfold fX2_weighFast_16 fX2_weighFast_18
          rw [se_isO, Option.bind_some, c_better (c := pc j) (b := j) (by omega) (by omega) (by omega) h0 h1, Option.bind_some, decide_eq_false z3, decide_eq_false (show ¬ k < j by omega), Bool.and_false, Bool.or_false]
          unfold fX2_weighFast_21
          rw [if_pos (show bI false = 0 by decide)]
          rfl
      · have e : ams1 (btr w) k (some j) = some j := by
          show (if btr w j k = true then some k else some j) = some j
          unfold btr
          rw [decide_eq_false z1, decide_eq_false (fun z => z2 z.symm), Bool.false_and, Bool.or_false, if_neg (by decide)]
        rw [e]
        refine ⟨S 17, ?_, ⟨h0, h1, h2⟩, fun _ _ => rfl⟩
        rw [stR_self]
        unfold gX2_weighFast fX2_weighFast_0
        rw [se_g2, Option.bind_some, h2, if_neg z1]
        unfold fX2_weighFast_8
        rw [se_g2, Option.bind_some, h2, if_neg z2]
        rfl
end BF
