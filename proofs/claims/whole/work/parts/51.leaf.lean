-- LEAVES OF BOTH SIDES
def se (r R : Row) (p : Nat) (g : Int32) : Int32 := if r (9 + 2 * p) = nI 1 then g + nI 3 * R (5 + p) else if r (9 + 2 * p) = nI 2 then nI 2 * g else g
def nm (r : Row) (N : Nat) (hg : Int32) : Option Nat := am (fun j k => decide (r (19 + 2 * j) < r (19 + 2 * k))) (fun k => !decide (hg < r (19 + 2 * k))) N 0 none
def lv (R : Row) (p : Nat) : Bool := !bt (R 10) p
section LEAF
variable {S : Mem} {J : MeJ} {T : Nat → Nat} {w a m t : Nat}
set_option maxRecDepth 100000 in
set_option maxHeartbeats 4000000 in
theorem c_hasBit {x : Int32} {p : Nat} (hq : p < 32) {h : aH} : gX11_hasBit x (nI p) h = some (bI (bt x p), h) := by
  simp only [gX11_hasBit, fX11_hasBit_0, fX11_hasBit_9, fX11_hasBit_13, fX11_hasBit_14, kI_1, kI_0, Option.bind_some, n35, n9, n19, n51, n59, nI_add, ix2, ix8, ix22, ix5, ↓reduceIte, bt_eq hq]
  cases bt x p <;> rfl
set_option maxRecDepth 100000 in
set_option maxHeartbeats 4000000 in
theorem c_lives (hw : rwA w) {p : Nat} (hq : p < 32) : gX11_lives 167 w (nI p) (hp S J T) = some (bI (lv (S w) p), hp S J T) := by
  simp (disch := omega) only [gX11_lives, fX11_lives_0, fX11_lives_5, fX11_lives_8, fX11_lives_11, fX11_lives_15, fX11_lives_16, kB_10, kI_1, kI_0, Option.bind_some, n35, n9, n19, n51, n59, nI_add, ix2, ix8, ix22, ix5, ↓reduceIte, rw_r hw, c_hasBit hq, bI_0]
  unfold lv
  cases bt (S w 10) p <;> rfl
set_option maxRecDepth 100000 in
set_option maxHeartbeats 4000000 in
theorem c_seenOf (hw : rwA w) {p : Nat} (h : p < 5) {g : Int32} : gX11_seenOf 167 w (nI p) g (hp S J T) = some (se (S 170) (S w) p g, hp S J T) := by
  simp (disch := omega) only [gX11_seenOf, fX11_seenOf_0, fX11_seenOf_19, fX11_seenOf_31, fX11_seenOf_37, fX11_seenOf_43, fX11_seenOf_44, mo_f15, mo_r15, kB_9, kI_2, kI_1, kI_3, kI_5, Option.bind_some, n35, n9, n19, n51, n59, nI_add, ix2, ix8, ix22, ix5, ↓reduceIte, rw_r hw]
  unfold se
  split
  · rfl
  · split <;> rfl
set_option maxRecDepth 100000 in
set_option maxHeartbeats 4000000 in
theorem s_nameAt {N k : Nat} (hN : S 170 4 = nI N) (hN8 : N ≤ 8) (hk : k < N) {hg : Int32} {b : Option Nat} (hb : ∀ j, b = some j → j < k) (K : Nat → Int32 → Int32 → Int32 → aH → Option (Int32 × aH)) : fX11_nameAt_5 K 167 hg (oi b) (nI k) (hp S J T) = K 167 hg (oi (ams (fun j k => decide (S 170 (19 + 2 * j) < S 170 (19 + 2 * k))) (fun k => !decide (hg < S 170 (19 + 2 * k))) k b)) (nI (k + 1)) (hp S J T) := by
  by_cases h1 : hg < S 170 (19 + 2 * k)
  · rw [ams_f (dN h1)]
    simp (disch := omega) only [gX11_nameAt, fX11_nameAt_0, fX11_nameAt_5, fX11_nameAt_15, fX11_nameAt_30, fX11_nameAt_34, fX11_nameAt_59, fX11_nameAt_61, fX11_nameAt_67, kB_o, kI_0, mo_f15, mo_r15, kI_4, kB_19, kI_2, kI_1, Option.bind_some, n35, n9, n19, n51, n59, nI_add, ix2, ix8, ix22, ix5, ↓reduceIte, hN, lt_eq, hk, h1]
  · cases b with
    | none =>
      rw [ams_n (dY h1)]
      simp (disch := omega) only [gX11_nameAt, fX11_nameAt_0, fX11_nameAt_5, fX11_nameAt_15, fX11_nameAt_30, fX11_nameAt_34, fX11_nameAt_59, fX11_nameAt_61, fX11_nameAt_67, kB_o, kI_0, mo_f15, mo_r15, kI_4, kB_19, kI_2, kI_1, Option.bind_some, n35, n9, n19, n51, n59, nI_add, ix2, ix8, ix22, ix5, ↓reduceIte, hN, lt_eq, hk, h1, on_lt, oi_some]
    | some j =>
      have hj := hb j rfl
      by_cases h2 : S 170 (19 + 2 * j) < S 170 (19 + 2 * k)
      · rw [ams_t (dY h1) (decide_eq_true h2)]
        simp (disch := omega) only [gX11_nameAt, fX11_nameAt_0, fX11_nameAt_5, fX11_nameAt_15, fX11_nameAt_30, fX11_nameAt_34, fX11_nameAt_59, fX11_nameAt_61, fX11_nameAt_67, kB_o, kI_0, mo_f15, mo_r15, kI_4, kB_19, kI_2, kI_1, Option.bind_some, n35, n9, n19, n51, n59, nI_add, ix2, ix8, ix22, ix5, ↓reduceIte, hN, lt_eq, hk, h1, oi_some, nI_lt0, h2]
      · rw [ams_e (dY h1) (decide_eq_false h2)]
        simp (disch := omega) only [gX11_nameAt, fX11_nameAt_0, fX11_nameAt_5, fX11_nameAt_15, fX11_nameAt_30, fX11_nameAt_34, fX11_nameAt_59, fX11_nameAt_61, fX11_nameAt_67, kB_o, kI_0, mo_f15, mo_r15, kI_4, kB_19, kI_2, kI_1, Option.bind_some, n35, n9, n19, n51, n59, nI_add, ix2, ix8, ix22, ix5, ↓reduceIte, hN, lt_eq, hk, h1, oi_some, nI_lt0, h2]
set_option maxRecDepth 100000 in
set_option maxHeartbeats 4000000 in
theorem c_nameAt {N : Nat} (hN : S 170 4 = nI N) (hN8 : N ≤ 8) {hg : Int32} : gX11_nameAt 167 hg (hp S J T) = some (oi (nm (S 170) N hg), hp S J T) := by
  unfold gX11_nameAt fX11_nameAt_0
  rw [kB_o, kI_0]
  refine for_loop lX11_nameAt_5 fX11_nameAt_5 (fun _ => rfl) (fun K k b => K 167 hg (oi b) (nI k) (hp S J T)) (fun k b => ∀ j, b = some j → j < k) N _ (fun b => some (oi b, hp S J T)) (fun K k b hk hb => s_nameAt hN hN8 hk hb K) (fun k b hk hb => ams_lt hb) (fun K b hb => ?_) N 0 FU none (by omega) (FU_lt (by omega)) (fun j hj => by cases hj)
  simp (disch := omega) only [gX11_nameAt, fX11_nameAt_0, fX11_nameAt_5, fX11_nameAt_15, fX11_nameAt_30, fX11_nameAt_34, fX11_nameAt_59, fX11_nameAt_61, fX11_nameAt_67, kB_o, kI_0, mo_f15, mo_r15, kI_4, kB_19, kI_2, kI_1, Option.bind_some, n35, n9, n19, n51, n59, nI_add, ix2, ix8, ix22, ix5, ↓reduceIte, hN, lt_eq, Nat.lt_irrefl]
set_option maxRecDepth 100000 in
set_option maxHeartbeats 4000000 in
theorem s_nameSeen (ht : tlA t) {N k : Nat} (hN : S t 4 = nI N) (hN8 : N ≤ 8) (hk : k < N) {hg : Int32} {b : Option Nat} (hb : ∀ j, b = some j → j < k) (K : Nat → Int32 → Int32 → Int32 → aH → Option (Int32 × aH)) : fX9_nameSeen_5 K t hg (oi b) (nI k) (hp S J T) = K t hg (oi (ams (fun j k => decide (S t (19 + 2 * j) < S t (19 + 2 * k))) (fun k => !decide (hg < S t (19 + 2 * k))) k b)) (nI (k + 1)) (hp S J T) := by
  by_cases h1 : hg < S t (19 + 2 * k)
  · rw [ams_f (dN h1)]
    simp (disch := omega) only [gX9_nameSeen, fX9_nameSeen_0, fX9_nameSeen_5, fX9_nameSeen_13, fX9_nameSeen_23, fX9_nameSeen_27, fX9_nameSeen_42, fX9_nameSeen_44, fX9_nameSeen_50, kB_o, kI_0, tl_g4 ht, tl_f11 ht, tl_r11 ht, kI_1, Option.bind_some, n35, n9, n19, n51, n59, nI_add, ix2, ix8, ix22, ix5, ↓reduceIte, hN, lt_eq, hk, h1]
  · cases b with
    | none =>
      rw [ams_n (dY h1)]
      simp (disch := omega) only [gX9_nameSeen, fX9_nameSeen_0, fX9_nameSeen_5, fX9_nameSeen_13, fX9_nameSeen_23, fX9_nameSeen_27, fX9_nameSeen_42, fX9_nameSeen_44, fX9_nameSeen_50, kB_o, kI_0, tl_g4 ht, tl_f11 ht, tl_r11 ht, kI_1, Option.bind_some, n35, n9, n19, n51, n59, nI_add, ix2, ix8, ix22, ix5, ↓reduceIte, hN, lt_eq, hk, h1, on_lt, oi_some]
    | some j =>
      have hj := hb j rfl
      by_cases h2 : S t (19 + 2 * j) < S t (19 + 2 * k)
      · rw [ams_t (dY h1) (decide_eq_true h2)]
        simp (disch := omega) only [gX9_nameSeen, fX9_nameSeen_0, fX9_nameSeen_5, fX9_nameSeen_13, fX9_nameSeen_23, fX9_nameSeen_27, fX9_nameSeen_42, fX9_nameSeen_44, fX9_nameSeen_50, kB_o, kI_0, tl_g4 ht, tl_f11 ht, tl_r11 ht, kI_1, Option.bind_some, n35, n9, n19, n51, n59, nI_add, ix2, ix8, ix22, ix5, ↓reduceIte, hN, lt_eq, hk, h1, oi_some, nI_lt0, h2]
      · rw [ams_e (dY h1) (decide_eq_false h2)]
        simp (disch := omega) only [gX9_nameSeen, fX9_nameSeen_0, fX9_nameSeen_5, fX9_nameSeen_13, fX9_nameSeen_23, fX9_nameSeen_27, fX9_nameSeen_42, fX9_nameSeen_44, fX9_nameSeen_50, kB_o, kI_0, tl_g4 ht, tl_f11 ht, tl_r11 ht, kI_1, Option.bind_some, n35, n9, n19, n51, n59, nI_add, ix2, ix8, ix22, ix5, ↓reduceIte, hN, lt_eq, hk, h1, oi_some, nI_lt0, h2]
set_option maxRecDepth 100000 in
set_option maxHeartbeats 4000000 in
theorem c_nameSeen (ht : tlA t) {N : Nat} (hN : S t 4 = nI N) (hN8 : N ≤ 8) {hg : Int32} : gX9_nameSeen t hg (hp S J T) = some (oi (nm (S t) N hg), hp S J T) := by
  unfold gX9_nameSeen fX9_nameSeen_0
  rw [kB_o, kI_0]
  refine for_loop lX9_nameSeen_5 fX9_nameSeen_5 (fun _ => rfl) (fun K k b => K t hg (oi b) (nI k) (hp S J T)) (fun k b => ∀ j, b = some j → j < k) N _ (fun b => some (oi b, hp S J T)) (fun K k b hk hb => s_nameSeen ht hN hN8 hk hb K) (fun k b hk hb => ams_lt hb) (fun K b hb => ?_) N 0 FU none (by omega) (FU_lt (by omega)) (fun j hj => by cases hj)
  simp (disch := omega) only [gX9_nameSeen, fX9_nameSeen_0, fX9_nameSeen_5, fX9_nameSeen_13, fX9_nameSeen_23, fX9_nameSeen_27, fX9_nameSeen_42, fX9_nameSeen_44, fX9_nameSeen_50, kB_o, kI_0, tl_g4 ht, tl_f11 ht, tl_r11 ht, kI_1, Option.bind_some, n35, n9, n19, n51, n59, nI_add, ix2, ix8, ix22, ix5, ↓reduceIte, hN, lt_eq, Nat.lt_irrefl]
-- who names
def nrl (R : Row) (as : Option Nat) (p : Nat) : Bool := lv R p && !decide (as = some p)
def nr (r R : Row) (P : Nat) (as : Option Nat) : Option Nat := am (fun j k => decide (se r R j (R j) < se r R k (R k))) (nrl R as) P 0 none
set_option maxRecDepth 100000 in
set_option maxHeartbeats 4000000 in
theorem s_namerOf (hw : rwA w) {P k : Nat} (hP : S 170 3 = nI P) (hP5 : P ≤ 5) (hk : k < P) {as : Option Nat} {av : Int32} (hav : (nI k = av) = (as = some k)) {b : Option Nat} (hb : ∀ j, b = some j → j < k) (K : Nat → Nat → Int32 → Int32 → Int32 → aH → Option (Int32 × aH)) : fX11_namerOf_6 K 167 w av (oi b) (nI k) (hp S J T) = K 167 w av (oi (ams (fun j k => decide (se (S 170) (S w) j (S w j) < se (S 170) (S w) k (S w k))) (nrl (S w) as) k b)) (nI (k + 1)) (hp S J T) := by
  cases h1 : lv (S w) k with
  | false =>
    rw [ams_f (by unfold nrl; rw [h1]; rfl)]
    simp (disch := omega) only [gX11_namerOf, fX11_namerOf_0, fX11_namerOf_6, fX11_namerOf_17, fX11_namerOf_21, fX11_namerOf_24, fX11_namerOf_27, fX11_namerOf_33, fX11_namerOf_37, fX11_namerOf_45, fX11_namerOf_48, fX11_namerOf_54, fX11_namerOf_57, fX11_namerOf_60, fX11_namerOf_63, fX11_namerOf_69, kB_o, kI_0, mo_f15, mo_r15, kI_3, mo_isO, kI_1, Option.bind_some, n35, n9, n19, n51, n59, nI_add, ix2, ix8, ix22, ix5, ↓reduceIte, hP, lt_eq, hk, c_lives hw, h1, bI_f, n0_0]
  | true =>
    by_cases h2 : as = some k
    · rw [ams_f (by unfold nrl; rw [h1, decide_eq_true h2]; rfl)]
      simp (disch := omega) only [gX11_namerOf, fX11_namerOf_0, fX11_namerOf_6, fX11_namerOf_17, fX11_namerOf_21, fX11_namerOf_24, fX11_namerOf_27, fX11_namerOf_33, fX11_namerOf_37, fX11_namerOf_45, fX11_namerOf_48, fX11_namerOf_54, fX11_namerOf_57, fX11_namerOf_60, fX11_namerOf_63, fX11_namerOf_69, kB_o, kI_0, mo_f15, mo_r15, kI_3, mo_isO, kI_1, Option.bind_some, n35, n9, n19, n51, n59, nI_add, ix2, ix8, ix22, ix5, ↓reduceIte, hP, lt_eq, hk, c_lives hw, h1, bI_t, n1_0, hav, h2]
    · have hl : nrl (S w) as k = true := by unfold nrl; rw [h1, decide_eq_false h2]; rfl
      cases b with
      | none =>
        rw [ams_n hl]
        simp (disch := omega) only [gX11_namerOf, fX11_namerOf_0, fX11_namerOf_6, fX11_namerOf_17, fX11_namerOf_21, fX11_namerOf_24, fX11_namerOf_27, fX11_namerOf_33, fX11_namerOf_37, fX11_namerOf_45, fX11_namerOf_48, fX11_namerOf_54, fX11_namerOf_57, fX11_namerOf_60, fX11_namerOf_63, fX11_namerOf_69, kB_o, kI_0, mo_f15, mo_r15, kI_3, mo_isO, kI_1, Option.bind_some, n35, n9, n19, n51, n59, nI_add, ix2, ix8, ix22, ix5, ↓reduceIte, hP, lt_eq, hk, c_lives hw, h1, bI_t, n1_0, hav, h2, on_lt, oi_some]
      | some j =>
        have hj := hb j rfl
        by_cases h3 : se (S 170) (S w) j (S w j) < se (S 170) (S w) k (S w k)
        · rw [ams_t hl (decide_eq_true h3)]
          simp (disch := omega) only [gX11_namerOf, fX11_namerOf_0, fX11_namerOf_6, fX11_namerOf_17, fX11_namerOf_21, fX11_namerOf_24, fX11_namerOf_27, fX11_namerOf_33, fX11_namerOf_37, fX11_namerOf_45, fX11_namerOf_48, fX11_namerOf_54, fX11_namerOf_57, fX11_namerOf_60, fX11_namerOf_63, fX11_namerOf_69, kB_o, kI_0, mo_f15, mo_r15, kI_3, mo_isO, kI_1, Option.bind_some, n35, n9, n19, n51, n59, nI_add, ix2, ix8, ix22, ix5, ↓reduceIte, hP, lt_eq, hk, c_lives hw, h1, bI_t, n1_0, hav, h2, oi_some, nI_lt0, rw_r hw, c_seenOf hw, h3]
        · rw [ams_e hl (decide_eq_false h3)]
          simp (disch := omega) only [gX11_namerOf, fX11_namerOf_0, fX11_namerOf_6, fX11_namerOf_17, fX11_namerOf_21, fX11_namerOf_24, fX11_namerOf_27, fX11_namerOf_33, fX11_namerOf_37, fX11_namerOf_45, fX11_namerOf_48, fX11_namerOf_54, fX11_namerOf_57, fX11_namerOf_60, fX11_namerOf_63, fX11_namerOf_69, kB_o, kI_0, mo_f15, mo_r15, kI_3, mo_isO, kI_1, Option.bind_some, n35, n9, n19, n51, n59, nI_add, ix2, ix8, ix22, ix5, ↓reduceIte, hP, lt_eq, hk, c_lives hw, h1, bI_t, n1_0, hav, h2, oi_some, nI_lt0, rw_r hw, c_seenOf hw, h3]
set_option maxRecDepth 100000 in
set_option maxHeartbeats 4000000 in
theorem c_namerOf (hw : rwA w) {P : Nat} (hP : S 170 3 = nI P) (hP5 : P ≤ 5) {as : Option Nat} {av : Int32} (hav : ∀ k, k < 5 → (nI k = av) = (as = some k)) : gX11_namerOf 167 w av (hp S J T) = some (oi (nr (S 170) (S w) P as), hp S J T) := by
  unfold gX11_namerOf fX11_namerOf_0
  rw [kB_o, kI_0]
  refine for_loop lX11_namerOf_6 fX11_namerOf_6 (fun _ => rfl) (fun K k b => K 167 w av (oi b) (nI k) (hp S J T)) (fun k b => ∀ j, b = some j → j < k) P _ (fun b => some (oi b, hp S J T)) (fun K k b hk hb => s_namerOf hw hP hP5 hk (hav k (by omega)) hb K) (fun k b hk hb => ams_lt hb) (fun K b hb => ?_) P 0 FU none (by omega) (FU_lt (by omega)) (fun j hj => by cases hj)
  simp (disch := omega) only [gX11_namerOf, fX11_namerOf_0, fX11_namerOf_6, fX11_namerOf_17, fX11_namerOf_21, fX11_namerOf_24, fX11_namerOf_27, fX11_namerOf_33, fX11_namerOf_37, fX11_namerOf_45, fX11_namerOf_48, fX11_namerOf_54, fX11_namerOf_57, fX11_namerOf_60, fX11_namerOf_63, fX11_namerOf_69, kB_o, kI_0, mo_f15, mo_r15, kI_3, mo_isO, kI_1, Option.bind_some, n35, n9, n19, n51, n59, nI_add, ix2, ix8, ix22, ix5, ↓reduceIte, hP, lt_eq, Nat.lt_irrefl]
set_option maxRecDepth 100000 in
set_option maxHeartbeats 4000000 in
theorem c_isDead (ha : plA a) {p : Nat} (hq : p < 32) : gX7_isDead a (nI p) (hp S J T) = some (bI (bt (S a 10) p), hp S J T) := by
  simp (disch := omega) only [gX7_isDead, fX7_isDead_0, fX7_isDead_12, fX7_isDead_16, fX7_isDead_17, pl_g3 ha, kI_1, kI_0, Option.bind_some, n35, n9, n19, n51, n59, nI_add, ix2, ix8, ix22, ix5, ↓reduceIte, bt_eq hq]
  cases bt (S a 10) p <;> rfl
set_option maxRecDepth 100000 in
set_option maxHeartbeats 4000000 in
theorem c_seenHunger (ha : plA a) (ht : tlA t) {p : Nat} (h : p < 5) : gX7_seenHunger a t (nI p) (hp S J T) = some (se (S t) (S a) p (S a p + S t (10 + 2 * p)), hp S J T) := by
  simp (disch := omega) only [gX7_seenHunger, fX7_seenHunger_0, fX7_seenHunger_20, fX7_seenHunger_48, fX7_seenHunger_59, fX7_seenHunger_63, pl_f0 ha, pl_r0 ha, tl_f9 ht, tl_r9 ht, tl_f10 ht, tl_r10 ht, kc0, kc1, kc2, kc3, kc4, kc5, kc6, kc7, kc8, kc9, kc10, kc11, kI_3, pl_f1 ha, pl_r1 ha, kI_2, Option.bind_some, n35, n9, n19, n51, n59, nI_add, ix2, ix8, ix22, ix5, ↓reduceIte]
  unfold se
  split
  · rfl
  · split <;> rfl
-- one pass: the first and the next
def wnS (s : Nat → Int32) (l : Nat → Bool) (k : Nat) (q : Option Nat × Option Nat) : Option Nat × Option Nat :=
  if l k then (match q.1 with
    | none => (some k, q.1)
    | some f => if s f < s k then (some k, q.1) else (match q.2 with
      | none => (q.1, some k)
      | some g => if s g < s k then (q.1, some k) else q)) else q
set_option maxRecDepth 100000 in
set_option maxHeartbeats 4000000 in
theorem wnS_lt {s : Nat → Int32} {l : Nat → Bool} {k : Nat} {q : Option Nat × Option Nat} (h : (∀ j, q.1 = some j → j < k) ∧ (∀ j, q.2 = some j → j < k)) : (∀ j, (wnS s l k q).1 = some j → j < k + 1) ∧ (∀ j, (wnS s l k q).2 = some j → j < k + 1) := by
  obtain ⟨f, g⟩ := q
  obtain ⟨h1, h2⟩ := h
  dsimp only at h1 h2
  have e1 : ∀ j, f = some j → j < k + 1 := fun j hj => by have := h1 j hj; omega
  have e2 : ∀ j, g = some j → j < k + 1 := fun j hj => by have := h2 j hj; omega
  have e3 : ∀ j, some k = some j → j < k + 1 := fun j hj => by cases hj; omega
  unfold wnS
  split
  · cases f with
    | none => exact ⟨e3, e1⟩
    | some f =>
      dsimp only
      split
      · exact ⟨e3, e1⟩
      · cases g with
        | none => exact ⟨e1, e3⟩
        | some g =>
          dsimp only
          split
          · exact ⟨e1, e3⟩
          · exact ⟨e1, e2⟩
  · exact ⟨e1, e2⟩
def sh (r R : Row) (p : Nat) : Int32 := se r R p (R p + r (10 + 2 * p))
def wn (r R : Row) (P : Nat) (fl : Bool) : Option Nat := match itr (wnS (sh r R) (lv R)) P 0 (none, none) with
  | (f, g) => if fl = true ∧ g ≠ none then g else f
set_option maxRecDepth 100000 in
set_option maxHeartbeats 4000000 in
theorem s_whoNames (ha : plA a) (ht : tlA t) {P k : Nat} (hP : S t 3 = nI P) (hP5 : P ≤ 5) (hk : k < P) {fl : Int32} {q : Option Nat × Option Nat} (hb : (∀ j, q.1 = some j → j < k) ∧ (∀ j, q.2 = some j → j < k)) (K : Nat → Nat → Int32 → Int32 → Int32 → Int32 → aH → Option (Int32 × aH)) : fX7_whoNames_10 K a t fl (oi q.1) (oi q.2) (nI k) (hp S J T) = K a t fl (oi (wnS (sh (S t) (S a)) (lv (S a)) k q).1) (oi (wnS (sh (S t) (S a)) (lv (S a)) k q).2) (nI (k + 1)) (hp S J T) := by
  obtain ⟨f, g⟩ := q
  obtain ⟨hf, hg⟩ := hb
  dsimp only at hf hg
  cases h1 : bt (S a 10) k with
  | true =>
    have e : wnS (sh (S t) (S a)) (lv (S a)) k (f, g) = (f, g) := by unfold wnS lv; rw [h1]; rfl
    rw [e]
    simp (disch := omega) only [gX7_whoNames, fX7_whoNames_0, fX7_whoNames_10, fX7_whoNames_19, fX7_whoNames_22, fX7_whoNames_25, fX7_whoNames_28, fX7_whoNames_31, fX7_whoNames_35, fX7_whoNames_38, fX7_whoNames_44, fX7_whoNames_49, fX7_whoNames_52, fX7_whoNames_55, fX7_whoNames_64, fX7_whoNames_69, fX7_whoNames_75, fX7_whoNames_78, fX7_whoNames_81, fX7_whoNames_85, fX7_whoNames_91, fX7_whoNames_95, fX7_whoNames_100, fX7_whoNames_105, fX7_whoNames_106, kB_o, kI_0, tl_g3 ht, pl_isO ha, kI_1, Option.bind_some, n35, n9, n19, n51, n59, nI_add, ix2, ix8, ix22, ix5, ↓reduceIte, hP, lt_eq, hk, c_isDead ha, h1, bI_t, n1_0]
  | false =>
    cases f with
    | none =>
      have e : wnS (sh (S t) (S a)) (lv (S a)) k (none, g) = (some k, none) := by unfold wnS lv; rw [h1]; rfl
      rw [e]
      simp (disch := omega) only [gX7_whoNames, fX7_whoNames_0, fX7_whoNames_10, fX7_whoNames_19, fX7_whoNames_22, fX7_whoNames_25, fX7_whoNames_28, fX7_whoNames_31, fX7_whoNames_35, fX7_whoNames_38, fX7_whoNames_44, fX7_whoNames_49, fX7_whoNames_52, fX7_whoNames_55, fX7_whoNames_64, fX7_whoNames_69, fX7_whoNames_75, fX7_whoNames_78, fX7_whoNames_81, fX7_whoNames_85, fX7_whoNames_91, fX7_whoNames_95, fX7_whoNames_100, fX7_whoNames_105, fX7_whoNames_106, kB_o, kI_0, tl_g3 ht, pl_isO ha, kI_1, Option.bind_some, n35, n9, n19, n51, n59, nI_add, ix2, ix8, ix22, ix5, ↓reduceIte, hP, lt_eq, hk, c_isDead ha, h1, bI_f, n0_0, c_seenHunger ha ht, on_lt, oi_some]
    | some f =>
      have hf' := hf f rfl
      by_cases h2 : sh (S t) (S a) f < sh (S t) (S a) k
      · have e : wnS (sh (S t) (S a)) (lv (S a)) k (some f, g) = (some k, some f) := by unfold wnS lv; rw [h1]; exact if_pos h2
        rw [e]
        unfold sh at h2
        simp (disch := omega) only [gX7_whoNames, fX7_whoNames_0, fX7_whoNames_10, fX7_whoNames_19, fX7_whoNames_22, fX7_whoNames_25, fX7_whoNames_28, fX7_whoNames_31, fX7_whoNames_35, fX7_whoNames_38, fX7_whoNames_44, fX7_whoNames_49, fX7_whoNames_52, fX7_whoNames_55, fX7_whoNames_64, fX7_whoNames_69, fX7_whoNames_75, fX7_whoNames_78, fX7_whoNames_81, fX7_whoNames_85, fX7_whoNames_91, fX7_whoNames_95, fX7_whoNames_100, fX7_whoNames_105, fX7_whoNames_106, kB_o, kI_0, tl_g3 ht, pl_isO ha, kI_1, Option.bind_some, n35, n9, n19, n51, n59, nI_add, ix2, ix8, ix22, ix5, ↓reduceIte, hP, lt_eq, hk, c_isDead ha, h1, bI_f, n0_0, c_seenHunger ha ht, nI_lt0, oi_some, h2]
      · cases g with
        | none =>
          have e : wnS (sh (S t) (S a)) (lv (S a)) k (some f, none) = (some f, some k) := by unfold wnS lv; rw [h1]; exact if_neg h2
          rw [e]
          unfold sh at h2
          simp (disch := omega) only [gX7_whoNames, fX7_whoNames_0, fX7_whoNames_10, fX7_whoNames_19, fX7_whoNames_22, fX7_whoNames_25, fX7_whoNames_28, fX7_whoNames_31, fX7_whoNames_35, fX7_whoNames_38, fX7_whoNames_44, fX7_whoNames_49, fX7_whoNames_52, fX7_whoNames_55, fX7_whoNames_64, fX7_whoNames_69, fX7_whoNames_75, fX7_whoNames_78, fX7_whoNames_81, fX7_whoNames_85, fX7_whoNames_91, fX7_whoNames_95, fX7_whoNames_100, fX7_whoNames_105, fX7_whoNames_106, kB_o, kI_0, tl_g3 ht, pl_isO ha, kI_1, Option.bind_some, n35, n9, n19, n51, n59, nI_add, ix2, ix8, ix22, ix5, ↓reduceIte, hP, lt_eq, hk, c_isDead ha, h1, bI_f, n0_0, c_seenHunger ha ht, nI_lt0, oi_some, h2, on_lt]
        | some g =>
          have hg' := hg g rfl
          by_cases h3 : sh (S t) (S a) g < sh (S t) (S a) k
          · have e : wnS (sh (S t) (S a)) (lv (S a)) k (some f, some g) = (some f, some k) := by unfold wnS lv; rw [h1]; exact (if_neg h2).trans (if_pos h3)
            rw [e]
            unfold sh at h2 h3
            simp (disch := omega) only [gX7_whoNames, fX7_whoNames_0, fX7_whoNames_10, fX7_whoNames_19, fX7_whoNames_22, fX7_whoNames_25, fX7_whoNames_28, fX7_whoNames_31, fX7_whoNames_35, fX7_whoNames_38, fX7_whoNames_44, fX7_whoNames_49, fX7_whoNames_52, fX7_whoNames_55, fX7_whoNames_64, fX7_whoNames_69, fX7_whoNames_75, fX7_whoNames_78, fX7_whoNames_81, fX7_whoNames_85, fX7_whoNames_91, fX7_whoNames_95, fX7_whoNames_100, fX7_whoNames_105, fX7_whoNames_106, kB_o, kI_0, tl_g3 ht, pl_isO ha, kI_1, Option.bind_some, n35, n9, n19, n51, n59, nI_add, ix2, ix8, ix22, ix5, ↓reduceIte, hP, lt_eq, hk, c_isDead ha, h1, bI_f, n0_0, c_seenHunger ha ht, nI_lt0, oi_some, h2, h3]
          · have e : wnS (sh (S t) (S a)) (lv (S a)) k (some f, some g) = (some f, some g) := by unfold wnS lv; rw [h1]; exact (if_neg h2).trans (if_neg h3)
            rw [e]
            unfold sh at h2 h3
            simp (disch := omega) only [gX7_whoNames, fX7_whoNames_0, fX7_whoNames_10, fX7_whoNames_19, fX7_whoNames_22, fX7_whoNames_25, fX7_whoNames_28, fX7_whoNames_31, fX7_whoNames_35, fX7_whoNames_38, fX7_whoNames_44, fX7_whoNames_49, fX7_whoNames_52, fX7_whoNames_55, fX7_whoNames_64, fX7_whoNames_69, fX7_whoNames_75, fX7_whoNames_78, fX7_whoNames_81, fX7_whoNames_85, fX7_whoNames_91, fX7_whoNames_95, fX7_whoNames_100, fX7_whoNames_105, fX7_whoNames_106, kB_o, kI_0, tl_g3 ht, pl_isO ha, kI_1, Option.bind_some, n35, n9, n19, n51, n59, nI_add, ix2, ix8, ix22, ix5, ↓reduceIte, hP, lt_eq, hk, c_isDead ha, h1, bI_f, n0_0, c_seenHunger ha ht, nI_lt0, oi_some, h2, h3]
set_option maxRecDepth 100000 in
set_option maxHeartbeats 4000000 in
theorem c_whoNames (ha : plA a) (ht : tlA t) {P : Nat} (hP : S t 3 = nI P) (hP5 : P ≤ 5) {fl : Bool} : gX7_whoNames a t (bI fl) (hp S J T) = some (oi (wn (S t) (S a) P fl), hp S J T) := by
  unfold gX7_whoNames fX7_whoNames_0
  rw [kB_o, kI_0]
  have hz : (∀ j, (none : Option Nat) = some j → j < 0) ∧ (∀ j, (none : Option Nat) = some j → j < 0) := ⟨(fun j h => by cases h), (fun j h => by cases h)⟩
  refine (for_loop lX7_whoNames_10 fX7_whoNames_10 (fun _ => rfl) (fun K k (q : Option Nat × Option Nat) => K a t (bI fl) (oi q.1) (oi q.2) (nI k) (hp S J T)) (fun k q => (∀ j, q.1 = some j → j < k) ∧ (∀ j, q.2 = some j → j < k)) P (wnS (sh (S t) (S a)) (lv (S a))) (fun q => some (oi (if fl = true ∧ q.2 ≠ none then q.2 else q.1), hp S J T)) (fun K k q hk hb => s_whoNames ha ht hP hP5 hk hb K) (fun k q hk hb => wnS_lt hb) (fun K q hb => ?_) P 0 FU (none, none) (by omega) (FU_lt (by omega)) hz).trans rfl
  obtain ⟨f, g⟩ := q
  obtain ⟨hf, hg⟩ := hb
  dsimp only at hf hg ⊢
  cases fl with
  | false => simp (disch := omega) only [gX7_whoNames, fX7_whoNames_0, fX7_whoNames_10, fX7_whoNames_19, fX7_whoNames_22, fX7_whoNames_25, fX7_whoNames_28, fX7_whoNames_31, fX7_whoNames_35, fX7_whoNames_38, fX7_whoNames_44, fX7_whoNames_49, fX7_whoNames_52, fX7_whoNames_55, fX7_whoNames_64, fX7_whoNames_69, fX7_whoNames_75, fX7_whoNames_78, fX7_whoNames_81, fX7_whoNames_85, fX7_whoNames_91, fX7_whoNames_95, fX7_whoNames_100, fX7_whoNames_105, fX7_whoNames_106, kB_o, kI_0, tl_g3 ht, pl_isO ha, kI_1, Option.bind_some, n35, n9, n19, n51, n59, nI_add, ix2, ix8, ix22, ix5, ↓reduceIte, hP, lt_eq, Nat.lt_irrefl, bI_f, n0_0, Bool.false_eq_true, false_and]
  | true =>
    cases g with
    | none => simp (disch := omega) only [gX7_whoNames, fX7_whoNames_0, fX7_whoNames_10, fX7_whoNames_19, fX7_whoNames_22, fX7_whoNames_25, fX7_whoNames_28, fX7_whoNames_31, fX7_whoNames_35, fX7_whoNames_38, fX7_whoNames_44, fX7_whoNames_49, fX7_whoNames_52, fX7_whoNames_55, fX7_whoNames_64, fX7_whoNames_69, fX7_whoNames_75, fX7_whoNames_78, fX7_whoNames_81, fX7_whoNames_85, fX7_whoNames_91, fX7_whoNames_95, fX7_whoNames_100, fX7_whoNames_105, fX7_whoNames_106, kB_o, kI_0, tl_g3 ht, pl_isO ha, kI_1, Option.bind_some, n35, n9, n19, n51, n59, nI_add, ix2, ix8, ix22, ix5, ↓reduceIte, hP, lt_eq, Nat.lt_irrefl, bI_t, n1_0, on_lt, ne_eq, not_true_eq_false, and_false]
    | some g =>
      have hg' := hg g rfl
      simp (disch := omega) only [gX7_whoNames, fX7_whoNames_0, fX7_whoNames_10, fX7_whoNames_19, fX7_whoNames_22, fX7_whoNames_25, fX7_whoNames_28, fX7_whoNames_31, fX7_whoNames_35, fX7_whoNames_38, fX7_whoNames_44, fX7_whoNames_49, fX7_whoNames_52, fX7_whoNames_55, fX7_whoNames_64, fX7_whoNames_69, fX7_whoNames_75, fX7_whoNames_78, fX7_whoNames_81, fX7_whoNames_85, fX7_whoNames_91, fX7_whoNames_95, fX7_whoNames_100, fX7_whoNames_105, fX7_whoNames_106, kB_o, kI_0, tl_g3 ht, pl_isO ha, kI_1, Option.bind_some, n35, n9, n19, n51, n59, nI_add, ix2, ix8, ix22, ix5, ↓reduceIte, hP, lt_eq, Nat.lt_irrefl, bI_t, n1_0, oi_some, nI_lt0, ne_eq, reduceCtorEq, not_false_eq_true, and_self]
end LEAF
