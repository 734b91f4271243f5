-- ROWS THAT GO ON: growing, closing, copying, fasting
def fs (r : Row) (day : Int32) : Nat → Nat → Int32 → Int32 := itr (fun k x => if r (36 + 2 * k) = day then x ||| (nI 1 <<< (r (35 + 2 * k) &&& 31)) else x)
set_option maxRecDepth 100000 in
set_option maxHeartbeats 4000000 in
theorem fs_or (r : Row) (day : Int32) : ∀ (n k : Nat) (x y : Int32), fs r day n k (x ||| y) = x ||| fs r day n k y := by
  intro n
  induction n with
  | zero => intro k x y; rfl
  | succ n ih =>
    intro k x y
    show fs r day n (k + 1) (if r (36 + 2 * k) = day then (x ||| y) ||| (nI 1 <<< (r (35 + 2 * k) &&& 31)) else (x ||| y)) = x ||| fs r day n (k + 1) (if r (36 + 2 * k) = day then y ||| (nI 1 <<< (r (35 + 2 * k) &&& 31)) else y)
    by_cases h : r (36 + 2 * k) = day
    · rw [if_pos h, if_pos h, or_as, ih]
    · rw [if_neg h, if_neg h, ih]
def grR (r R : Row) (k : Nat) : Row := fun j => if j < k ∧ lv R j = true then R j + r (10 + 2 * j) else R j
set_option maxRecDepth 100000 in
set_option maxHeartbeats 4000000 in
theorem grR_0 (r R : Row) : grR r R 0 = R := by funext j; unfold grR; rw [if_neg (by omega)]
set_option maxRecDepth 100000 in
set_option maxHeartbeats 4000000 in
theorem grR_ge {r R : Row} {k j : Nat} (h : k ≤ j) : grR r R k j = R j := if_neg (by omega)
set_option maxRecDepth 100000 in
set_option maxHeartbeats 4000000 in
theorem grR_1 {r R : Row} {k : Nat} (h : lv R k = true) : up (grR r R k) k (R k + r (10 + 2 * k)) = grR r R (k + 1) := by
  funext j
  unfold up grR
  by_cases h1 : j = k
  · subst h1; rw [if_pos rfl, if_pos ⟨by omega, h⟩]
  · rw [if_neg h1]
    by_cases h2 : j < k ∧ lv R j = true
    · rw [if_pos h2, if_pos ⟨by omega, h2.2⟩]
    · rw [if_neg h2, if_neg (fun z => h2 ⟨by omega, z.2⟩)]
set_option maxRecDepth 100000 in
set_option maxHeartbeats 4000000 in
theorem grR_2 {r R : Row} {k : Nat} (h : lv R k = false) : grR r R (k + 1) = grR r R k := by
  funext j
  unfold grR
  by_cases h2 : j < k ∧ lv R j = true
  · rw [if_pos h2, if_pos ⟨by omega, h2.2⟩]
  · rw [if_neg h2, if_neg (fun z => ?_)]
    by_cases h1 : j = k
    · subst h1; rw [h] at z; cases z.2
    · exact h2 ⟨by omega, z.2⟩
def ddR (r R : Row) : Nat → Int32
  | 0 => R 10
  | k + 1 => if lv R k = true ∧ r 1 < R k then ddR r R k ||| (nI 1 <<< (nI k &&& 31)) else ddR r R k
set_option maxRecDepth 100000 in
set_option maxHeartbeats 4000000 in
theorem ddR_bt {r R : Row} {p : Nat} (hp : p < 32) : ∀ {k : Nat}, k ≤ p → bt (ddR r R k) p = bt (R 10) p := by
  intro k
  induction k with
  | zero => intro _; rfl
  | succ k ih =>
    intro h
    unfold ddR
    split
    · rw [b_or, b_sh k (by omega) hp, ih (by omega), decide_eq_false (by omega), Bool.or_false]
    · exact ih (by omega)
def clR (r : Row) (f : Int32) (R : Row) (k : Nat) : Row := fun j => if 5 ≤ j ∧ j < 5 + k ∧ lv R (j - 5) = true then (if bt f (j - 5) then R j + nI 1 else nI 0) else if j = 10 then ddR r R k else R j
set_option maxRecDepth 100000 in
set_option maxHeartbeats 4000000 in
theorem clR_0 (r : Row) (f : Int32) (R : Row) : clR r f R 0 = R := by
  funext j
  unfold clR
  rw [if_neg (by omega)]
  split
  · rename_i h; rw [h]; rfl
  · rfl
set_option maxRecDepth 100000 in
set_option maxHeartbeats 4000000 in
theorem clR_lo {r : Row} {f : Int32} {R : Row} {k j : Nat} (h : j < 5) : clR r f R k j = R j := by
  unfold clR
  rw [if_neg (by omega), if_neg (by omega)]
set_option maxRecDepth 100000 in
set_option maxHeartbeats 4000000 in
theorem clR_ge {r : Row} {f : Int32} {R : Row} {k j : Nat} (h : 5 + k ≤ j) (h2 : j ≠ 10) : clR r f R k j = R j := by
  unfold clR
  rw [if_neg (by omega), if_neg h2]
set_option maxRecDepth 100000 in
set_option maxHeartbeats 4000000 in
theorem clR_10 {r : Row} {f : Int32} {R : Row} {k : Nat} (hk : k ≤ 5) : clR r f R k 10 = ddR r R k := by
  unfold clR
  rw [if_neg (by omega), if_pos rfl]
set_option maxRecDepth 100000 in
set_option maxHeartbeats 4000000 in
theorem clR_1 {r : Row} {f : Int32} {R : Row} {k : Nat} (hk : k < 5) (h : lv R k = true) : up (up (clR r f R k) (5 + k) (if bt f k then R (5 + k) + nI 1 else nI 0)) 10 (ddR r R (k + 1)) = clR r f R (k + 1) := by
  funext j
  unfold up clR
  by_cases h10 : j = 10
  · rw [if_pos h10, if_neg (by omega), if_pos h10]
  · rw [if_neg h10]
    by_cases h1 : j = 5 + k
    · subst h1
      have hc : 5 ≤ 5 + k ∧ 5 + k < 5 + (k + 1) ∧ lv R k = true := ⟨by omega, by omega, h⟩
      rw [if_pos rfl, Nat.add_sub_cancel_left, if_pos hc]
    · rw [if_neg h1, if_neg h10, if_neg h10]
      by_cases h2 : 5 ≤ j ∧ j < 5 + k ∧ lv R (j - 5) = true
      · have hc : 5 ≤ j ∧ j < 5 + (k + 1) ∧ lv R (j - 5) = true := ⟨h2.1, by omega, h2.2.2⟩
        rw [if_pos h2, if_pos hc]
      · have hc : ¬ (5 ≤ j ∧ j < 5 + (k + 1) ∧ lv R (j - 5) = true) := fun z => h2 ⟨z.1, by omega, z.2.2⟩
        rw [if_neg h2, if_neg hc]
set_option maxRecDepth 100000 in
set_option maxHeartbeats 4000000 in
theorem clR_2 {r : Row} {f : Int32} {R : Row} {k : Nat} (h : lv R k = false) : clR r f R (k + 1) = clR r f R k := by
  have e : ddR r R (k + 1) = ddR r R k := by
    unfold ddR
    rw [if_neg (by rw [h]; intro z; cases z.1)]
    cases k <;> rfl
  funext j
  unfold clR
  rw [e]
  by_cases h2 : 5 ≤ j ∧ j < 5 + k ∧ lv R (j - 5) = true
  · rw [if_pos h2, if_pos ⟨h2.1, by omega, h2.2.2⟩]
  · rw [if_neg h2, if_neg (fun z => ?_)]
    by_cases h1 : j = 5 + k
    · subst h1; rw [Nat.add_sub_cancel_left, h] at z; cases z.2.2
    · exact h2 ⟨z.1, by omega, z.2.2⟩
-- n numbers of a row come to another
def cpR (A B : Row) (n : Nat) : Row := fun j => if j < n then A j else B j
section ROW
variable {S : Mem} {J : MeJ} {T : Nat → Nat} {w a b m t : Nat}
set_option maxRecDepth 100000 in
set_option maxHeartbeats 4000000 in
theorem c_fastersOf (hw : rwA w) {F : Nat} (hF : S 170 5 = nI F) (hF8 : F ≤ 8) : gX11_fastersOf 167 w (hp S J T) = some (fs (S 170) (S w 13 + nI 1) F 0 (S w 11), hp S J T) := by
  unfold gX11_fastersOf fX11_fastersOf_0
  rw [kB_11, rw_r hw (by omega), Option.bind_some, kI_0]
  refine for_loop lX11_fastersOf_7 fX11_fastersOf_7 (fun _ => rfl) (fun K k x => K 167 w x (nI k) (hp S J T)) (fun _ _ => True) F _ (fun x => some (x, hp S J T)) (fun K k x hk _ => ?_) (fun k b hk hb => trivial) (fun K x _ => ?_) F 0 FU _ (by omega) (FU_lt (by omega)) trivial
  · by_cases h : S 170 (36 + 2 * k) = S w 13 + nI 1
    · simp (disch := omega) only [gX11_fastersOf, fX11_fastersOf_0, fX11_fastersOf_7, fX11_fastersOf_17, fX11_fastersOf_40, fX11_fastersOf_56, fX11_fastersOf_57, fX11_fastersOf_65, kB_11, kI_0, mo_f15, mo_r15, kI_5, kB_35, kI_2, kI_1, kB_13, Option.bind_some, n35, n9, n19, n51, n59, nI_add, ix2, ix8, ix22, ix5, ↓reduceIte, hF, lt_eq, hk, rw_r hw, h]
    · simp (disch := omega) only [gX11_fastersOf, fX11_fastersOf_0, fX11_fastersOf_7, fX11_fastersOf_17, fX11_fastersOf_40, fX11_fastersOf_56, fX11_fastersOf_57, fX11_fastersOf_65, kB_11, kI_0, mo_f15, mo_r15, kI_5, kB_35, kI_2, kI_1, kB_13, Option.bind_some, n35, n9, n19, n51, n59, nI_add, ix2, ix8, ix22, ix5, ↓reduceIte, hF, lt_eq, hk, rw_r hw, h, or0]
  · simp (disch := omega) only [gX11_fastersOf, fX11_fastersOf_0, fX11_fastersOf_7, fX11_fastersOf_17, fX11_fastersOf_40, fX11_fastersOf_56, fX11_fastersOf_57, fX11_fastersOf_65, kB_11, kI_0, mo_f15, mo_r15, kI_5, kB_35, kI_2, kI_1, kB_13, Option.bind_some, n35, n9, n19, n51, n59, nI_add, ix2, ix8, ix22, ix5, ↓reduceIte, hF, lt_eq, Nat.lt_irrefl]
set_option maxRecDepth 100000 in
set_option maxHeartbeats 4000000 in
theorem c_fastingOn (ht : tlA t) {F : Nat} (hF : S t 5 = nI F) (hF8 : F ≤ 8) {day : Int32} : gX9_fastingOn t day (hp S J T) = some (fs (S t) day F 0 (nI 0), hp S J T) := by
  unfold gX9_fastingOn fX9_fastingOn_0
  rw [kI_0]
  refine for_loop lX9_fastingOn_4 fX9_fastingOn_4 (fun _ => rfl) (fun K k x => K t day x (nI k) (hp S J T)) (fun _ _ => True) F _ (fun x => some (x, hp S J T)) (fun K k x hk _ => ?_) (fun k b hk hb => trivial) (fun K x _ => ?_) F 0 FU _ (by omega) (FU_lt (by omega)) trivial
  · by_cases h : S t (36 + 2 * k) = day
    · simp (disch := omega) only [gX9_fastingOn, fX9_fastingOn_0, fX9_fastingOn_4, fX9_fastingOn_12, fX9_fastingOn_22, fX9_fastingOn_33, fX9_fastingOn_39, kI_0, tl_g5 ht, tl_f14 ht, tl_r14 ht, kI_1, tl_f13 ht, tl_r13 ht, Option.bind_some, n35, n9, n19, n51, n59, nI_add, ix2, ix8, ix22, ix5, ↓reduceIte, hF, lt_eq, hk, h]
    · simp (disch := omega) only [gX9_fastingOn, fX9_fastingOn_0, fX9_fastingOn_4, fX9_fastingOn_12, fX9_fastingOn_22, fX9_fastingOn_33, fX9_fastingOn_39, kI_0, tl_g5 ht, tl_f14 ht, tl_r14 ht, kI_1, tl_f13 ht, tl_r13 ht, Option.bind_some, n35, n9, n19, n51, n59, nI_add, ix2, ix8, ix22, ix5, ↓reduceIte, hF, lt_eq, hk, h]
  · simp (disch := omega) only [gX9_fastingOn, fX9_fastingOn_0, fX9_fastingOn_4, fX9_fastingOn_12, fX9_fastingOn_22, fX9_fastingOn_33, fX9_fastingOn_39, kI_0, tl_g5 ht, tl_f14 ht, tl_r14 ht, kI_1, tl_f13 ht, tl_r13 ht, Option.bind_some, n35, n9, n19, n51, n59, nI_add, ix2, ix8, ix22, ix5, ↓reduceIte, hF, lt_eq, Nat.lt_irrefl]
set_option maxRecDepth 100000 in
set_option maxHeartbeats 4000000 in
theorem c_fastingNext (ha : plA a) (ht : tlA t) {F : Nat} (hF : S t 5 = nI F) (hF8 : F ≤ 8) : gX7_fastingNext a t (hp S J T) = some (fs (S t) (S a 13 + nI 1) F 0 (S a 11), hp S J T) := by
  simp (disch := omega) only [gX7_fastingNext, fX7_fastingNext_0, fX7_fastingNext_11, fX7_fastingNext_14, pl_g4 ha, pl_g6 ha, kI_1, tl_isO ht, Option.bind_some, n35, n9, n19, n51, n59, nI_add, ix2, ix8, ix22, ix5, ↓reduceIte, c_fastingOn ht hF hF8]
  rw [← fs_or, or0]
set_option maxRecDepth 100000 in
set_option maxHeartbeats 4000000 in
theorem c_grow (ha : plA a) (ht : tlA t) (hne : t ≠ a) {P : Nat} (hP : S t 3 = nI P) (hP5 : P ≤ 5) : gX7_grow a t (hp S J T) = some (hp (stR S a (grR (S t) (S a) P)) J T) := by
  unfold gX7_grow fX7_grow_0
  rw [kI_0]
  have h0 : hp S J T = hp (stR S a (grR (S t) (S a) 0)) J T := by rw [grR_0, stR_self]
  rw [h0]
  refine for_at lX7_grow_2 fX7_grow_2 (fun _ => rfl) (fun K k (R : Row) => K a t (nI k) (hp (stR S a R) J T)) P (grR (S t) (S a)) _ (fun K k hk => ?_) (fun K => ?_) (FU_lt (by omega))
  · cases h1 : bt (S a 10) k with
    | true =>
      rw [grR_2 (by unfold lv; rw [h1]; rfl)]
      simp (disch := omega) only [gX7_grow, fX7_grow_0, fX7_grow_2, fX7_grow_10, fX7_grow_12, fX7_grow_15, fX7_grow_18, fX7_grow_33, fX7_grow_39, kI_0, tl_g3 ht, pl_isO ha, pl_f0 ha, pl_r0 ha, pl_w0 ha, tl_f9 ht, tl_r9 ht, tl_w9 ht, kI_1, Option.bind_some, n35, n9, n19, n51, n59, nI_add, ix2, ix8, ix22, ix5, ↓reduceIte, stR_ne hne, stR_eq, hP, lt_eq, hk, c_isDead ha, grR_ge, h1, bI_t, n1_0]
    | false =>
      rw [← grR_1 (by unfold lv; rw [h1]; rfl)]
      simp (disch := omega) only [gX7_grow, fX7_grow_0, fX7_grow_2, fX7_grow_10, fX7_grow_12, fX7_grow_15, fX7_grow_18, fX7_grow_33, fX7_grow_39, kI_0, tl_g3 ht, pl_isO ha, pl_f0 ha, pl_r0 ha, pl_w0 ha, tl_f9 ht, tl_r9 ht, tl_w9 ht, kI_1, Option.bind_some, n35, n9, n19, n51, n59, nI_add, ix2, ix8, ix22, ix5, ↓reduceIte, stR_ne hne, stR_eq, hP, lt_eq, hk, c_isDead ha, grR_ge, h1, bI_f, n0_0, stS_R, stR_stR]
  · simp (disch := omega) only [gX7_grow, fX7_grow_0, fX7_grow_2, fX7_grow_10, fX7_grow_12, fX7_grow_15, fX7_grow_18, fX7_grow_33, fX7_grow_39, kI_0, tl_g3 ht, pl_isO ha, pl_f0 ha, pl_r0 ha, pl_w0 ha, tl_f9 ht, tl_r9 ht, tl_w9 ht, kI_1, Option.bind_some, n35, n9, n19, n51, n59, nI_add, ix2, ix8, ix22, ix5, ↓reduceIte, stR_ne hne, stR_eq, hP, lt_eq, Nat.lt_irrefl]
set_option maxRecDepth 100000 in
set_option maxHeartbeats 4000000 in
theorem c_close (ha : plA a) (ht : tlA t) (hne : t ≠ a) {P : Nat} (hP : S t 3 = nI P) (hP5 : P ≤ 5) {f : Int32} : gX7_close a t f (hp S J T) = some (hp (stR S a (up (up (clR (S t) f (S a) P) 11 (nI 0)) 13 (S a 13 + nI 1))) J T) := by
  unfold gX7_close fX7_close_0
  rw [kI_0]
  have h0 : hp S J T = hp (stR S a (clR (S t) f (S a) 0)) J T := by rw [clR_0, stR_self]
  rw [h0]
  refine for_at lX7_close_2 fX7_close_2 (fun _ => rfl) (fun K k (R : Row) => K a t f (nI k) (hp (stR S a R) J T)) P (clR (S t) f (S a)) _ (fun K k hk => ?_) (fun K => ?_) (FU_lt (by omega))
  · cases h1 : bt (S a 10) k with
    | true =>
      rw [clR_2 (by unfold lv; rw [h1]; rfl)]
      simp (disch := omega) only [gX7_close, fX7_close_0, fX7_close_2, fX7_close_10, fX7_close_12, fX7_close_15, fX7_close_18, fX7_close_32, fX7_close_43, fX7_close_44, fX7_close_63, fX7_close_69, fX7_close_70, fX7_close_74, fX7_close_80, kI_0, tl_g3 ht, pl_isO ha, pl_f1 ha, pl_r1 ha, pl_w1 ha, kI_1, pl_g3 ha, pl_f0 ha, pl_r0 ha, pl_w0 ha, tl_g1 ht, pl_p3 ha, pl_p4 ha, pl_g6 ha, pl_p6 ha, Option.bind_some, n35, n9, n19, n51, n59, nI_add, ix2, ix8, ix22, ix5, ↓reduceIte, stR_ne hne, stR_eq, hP, lt_eq, hk, c_isDead ha, clR_10, ddR_bt, h1, bI_t, n1_0]
    | false =>
      have hl : lv (S a) k = true := by unfold lv; rw [h1]; rfl
      rw [← clR_1 (by omega) hl]
      by_cases h2 : S t 1 < S a k
      · have e : ddR (S t) (S a) (k + 1) = ddR (S t) (S a) k ||| (nI 1 <<< (nI k &&& 31)) := by
          show (if _ then _ else _) = _
          rw [if_pos ⟨hl, h2⟩]
        rw [e]
        cases h3 : bt f k <;> simp (disch := omega) only [gX7_close, fX7_close_0, fX7_close_2, fX7_close_10, fX7_close_12, fX7_close_15, fX7_close_18, fX7_close_32, fX7_close_43, fX7_close_44, fX7_close_63, fX7_close_69, fX7_close_70, fX7_close_74, fX7_close_80, kI_0, tl_g3 ht, pl_isO ha, pl_f1 ha, pl_r1 ha, pl_w1 ha, kI_1, pl_g3 ha, pl_f0 ha, pl_r0 ha, pl_w0 ha, tl_g1 ht, pl_p3 ha, pl_p4 ha, pl_g6 ha, pl_p6 ha, Option.bind_some, n35, n9, n19, n51, n59, nI_add, ix2, ix8, ix22, ix5, ↓reduceIte, stR_ne hne, stR_eq, hP, lt_eq, hk, c_isDead ha, clR_10, ddR_bt, clR_lo, clR_ge, up_ne, h1, bI_f, n0_0, stS_R, stR_stR, bt_eq, h3, h2, Bool.false_eq_true]
      · have e : ddR (S t) (S a) (k + 1) = ddR (S t) (S a) k := by
          show (if _ then _ else _) = _
          rw [if_neg (fun z => h2 z.2)]
        rw [e]
        cases h3 : bt f k <;> simp (disch := omega) only [gX7_close, fX7_close_0, fX7_close_2, fX7_close_10, fX7_close_12, fX7_close_15, fX7_close_18, fX7_close_32, fX7_close_43, fX7_close_44, fX7_close_63, fX7_close_69, fX7_close_70, fX7_close_74, fX7_close_80, kI_0, tl_g3 ht, pl_isO ha, pl_f1 ha, pl_r1 ha, pl_w1 ha, kI_1, pl_g3 ha, pl_f0 ha, pl_r0 ha, pl_w0 ha, tl_g1 ht, pl_p3 ha, pl_p4 ha, pl_g6 ha, pl_p6 ha, Option.bind_some, n35, n9, n19, n51, n59, nI_add, ix2, ix8, ix22, ix5, ↓reduceIte, stR_ne hne, stR_eq, hP, lt_eq, hk, c_isDead ha, clR_10, ddR_bt, clR_lo, clR_ge, up_ne, h1, bI_f, n0_0, stS_R, stR_stR, bt_eq, h3, h2, Bool.false_eq_true, or0]
  · simp (disch := omega) only [gX7_close, fX7_close_0, fX7_close_2, fX7_close_10, fX7_close_12, fX7_close_15, fX7_close_18, fX7_close_32, fX7_close_43, fX7_close_44, fX7_close_63, fX7_close_69, fX7_close_70, fX7_close_74, fX7_close_80, kI_0, tl_g3 ht, pl_isO ha, pl_f1 ha, pl_r1 ha, pl_w1 ha, kI_1, pl_g3 ha, pl_f0 ha, pl_r0 ha, pl_w0 ha, tl_g1 ht, pl_p3 ha, pl_p4 ha, pl_g6 ha, pl_p6 ha, Option.bind_some, n35, n9, n19, n51, n59, nI_add, ix2, ix8, ix22, ix5, ↓reduceIte, stR_ne hne, stR_eq, hP, lt_eq, Nat.lt_irrefl, stS_R, stR_stR, clR_ge, up_ne]
set_option maxRecDepth 100000 in
set_option maxHeartbeats 4000000 in
theorem cp_all {A B : Row} : up (up (up (up (fun j => if 14 ≤ j ∧ j < 14 + 8 then A (14 + (j - 14)) else if 5 ≤ j ∧ j < 5 + 5 then A (5 + (j - 5)) else if 0 ≤ j ∧ j < 0 + 5 then A (0 + (j - 0)) else B j) 10 (A 10)) 11 (A 11)) 12 (A 12)) 13 (A 13) = cpR A B 22 := by
  funext j
  show (if j = 13 then A 13 else if j = 12 then A 12 else if j = 11 then A 11 else if j = 10 then A 10 else if 14 ≤ j ∧ j < 14 + 8 then A (14 + (j - 14)) else if 5 ≤ j ∧ j < 5 + 5 then A (5 + (j - 5)) else if 0 ≤ j ∧ j < 0 + 5 then A (0 + (j - 0)) else B j) = if j < 22 then A j else B j
  by_cases h13 : j = 13
  · rw [if_pos h13, if_pos (show j < 22 by omega), h13]
  by_cases h12 : j = 12
  · rw [if_neg h13, if_pos h12, if_pos (show j < 22 by omega), h12]
  by_cases h11 : j = 11
  · rw [if_neg h13, if_neg h12, if_pos h11, if_pos (show j < 22 by omega), h11]
  by_cases h10 : j = 10
  · rw [if_neg h13, if_neg h12, if_neg h11, if_pos h10, if_pos (show j < 22 by omega), h10]
  rw [if_neg h13, if_neg h12, if_neg h11, if_neg h10]
  by_cases h14 : 14 ≤ j ∧ j < 14 + 8
  · rw [if_pos h14, if_pos (show j < 22 by omega), show 14 + (j - 14) = j by omega]
  · rw [if_neg h14]
    by_cases h5 : 5 ≤ j ∧ j < 5 + 5
    · rw [if_pos h5, if_pos (show j < 22 by omega), show 5 + (j - 5) = j by omega]
    · rw [if_neg h5]
      by_cases h0 : 0 ≤ j ∧ j < 0 + 5
      · rw [if_pos h0, if_pos (show j < 22 by omega), show 0 + (j - 0) = j by omega]
      · rw [if_neg h0, if_neg (show ¬ j < 22 by omega)]
set_option maxRecDepth 100000 in
set_option maxHeartbeats 4000000 in
theorem cpS_R {n c o p : Nat} : cpS S b o c p n = stR S c (fun j => if p ≤ j ∧ j < p + n then S b (o + (j - p)) else S c j) := by
  funext d j
  unfold cpS stR
  by_cases h : d = c
  · subst h
    rw [if_pos rfl]
    by_cases h2 : p ≤ j ∧ j < p + n
    · rw [if_pos ⟨rfl, h2⟩, if_pos h2]
    · rw [if_neg (fun z => h2 z.2), if_neg h2]
  · rw [if_neg (fun z => h z.1), if_neg h]
set_option maxRecDepth 100000 in
set_option maxHeartbeats 4000000 in
theorem c_copy (ha : plA a) (hb : plA b) (hne : b ≠ a) : gX7_copy a b (hp S J T) = some (hp (stR S a (cpR (S b) (S a) 22)) J T) := by
  simp (disch := omega) only [gX7_copy, fX7_copy_0, fX7_copy_11, fX7_copy_14, fX7_copy_25, fX7_copy_28, fX7_copy_40, fX7_copy_43, pl_f0 ha, pl_f0 hb, kI_0, kI_5, pl_c0 hb ha, pl_c1 hb ha, pl_c2 hb ha, pl_f1 ha, pl_f1 hb, pl_f2 ha, pl_f2 hb, kB_8, pl_g3 ha, pl_g3 hb, pl_p3 ha, pl_p3 hb, pl_g4 ha, pl_g4 hb, pl_p4 ha, pl_p4 hb, pl_g5 ha, pl_g5 hb, pl_p5 ha, pl_p5 hb, pl_g6 ha, pl_g6 hb, pl_p6 ha, pl_p6 hb, Option.bind_some, n35, n9, n19, n51, n59, nI_add, ix2, ix8, ix22, ix5, ↓reduceIte, cpS_R, stR_ne hne, stR_eq, stR_stR, stS_R]
  rw [cp_all]
set_option maxRecDepth 100000 in
set_option maxHeartbeats 4000000 in
theorem c_living (ha : plA a) (ht : tlA t) : gX7_living a t (hp S J T) = some (((nI 1 <<< (S t 3 &&& 31)) - nI 1) &&& (S a 10 ^^^ m1), hp S J T) := by
  simp (disch := omega) only [gX7_living, fX7_living_0, kI_1, tl_g3 ht, pl_g3 ha, kI_n, Option.bind_some, n35, n9, n19, n51, n59, nI_add, ix2, ix8, ix22, ix5, ↓reduceIte]
def wo (R : Row) (b : Option Nat) : Int32 := match b with
  | none => nI 0
  | some k => R (14 + k)
set_option maxRecDepth 100000 in
set_option maxHeartbeats 4000000 in
theorem c_worthOf (ha : plA a) {q : Option Nat} (hq : ∀ k, q = some k → k < 8) : gX7_worthOf a (oi q) (hp S J T) = some (wo (S a) q, hp S J T) := by
  cases q with
  | none => simp (disch := omega) only [gX7_worthOf, fX7_worthOf_0, fX7_worthOf_4, fX7_worthOf_10, fX7_worthOf_14, fX7_worthOf_20, kB_8, kI_0, pl_f2 ha, pl_r2 ha, Option.bind_some, n35, n9, n19, n51, n59, nI_add, ix2, ix8, ix22, ix5, ↓reduceIte, on_lt, wo]
  | some k =>
    have := hq k rfl
    simp (disch := omega) only [gX7_worthOf, fX7_worthOf_0, fX7_worthOf_4, fX7_worthOf_10, fX7_worthOf_14, fX7_worthOf_20, kB_8, kI_0, pl_f2 ha, pl_r2 ha, Option.bind_some, n35, n9, n19, n51, n59, nI_add, ix2, ix8, ix22, ix5, ↓reduceIte, oi_some, nI_lt0, lt_eq, this, wo]
end ROW
