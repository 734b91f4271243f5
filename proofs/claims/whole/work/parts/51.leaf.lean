-- LEAVES OF BOTH SIDES
def se (r R : Row) (p : Nat) (g : Int32) : Int32 := if r (9 + 2 * p) = nI 1 then g + nI 3 * R (5 + p) else if r (9 + 2 * p) = nI 2 then nI 2 * g else g
def nm (r : Row) (N : Nat) (hg : Int32) : Option Nat := am (fun j k => decide (r (19 + 2 * j) < r (19 + 2 * k))) (fun k => !decide (hg < r (19 + 2 * k))) N 0 none
def lv (R : Row) (p : Nat) : Bool := !bt (R 10) p
section LEAF
variable {S : Mem} {J : MeJ} {T : Nat → Nat} {w a m t : Nat}
set_option maxRecDepth 100000 in
set_option maxHeartbeats 4000000 in
theorem c_hasBit {x : Int32} {p : Nat} {h : aH} : gX11_hasBit x (nI p) h = some (bI (bt x p), h) := by
  simp only [gX11_hasBit, fX11_hasBit_0, fX11_hasBit_9, fX11_hasBit_13, fX11_hasBit_14, kI_1, kI_0, Option.bind_some, nI_add, ix2, ix8, ix22, ix5, ↓reduceIte, bt_eq]
  cases bt x p <;> rfl
set_option maxRecDepth 100000 in
set_option maxHeartbeats 4000000 in
theorem c_lives (hw : rwA w) {p : Nat} : gX11_lives 167 w (nI p) (hp S J T) = some (bI (lv (S w) p), hp S J T) := by
  simp (disch := omega) only [gX11_lives, fX11_lives_0, fX11_lives_5, fX11_lives_8, fX11_lives_11, fX11_lives_15, fX11_lives_16, kB_10, kI_1, kI_0, Option.bind_some, nI_add, ix2, ix8, ix22, ix5, ↓reduceIte, rw_r hw, c_hasBit, bI_0]
  unfold lv
  cases bt (S w 10) p <;> rfl
set_option maxRecDepth 100000 in
set_option maxHeartbeats 4000000 in
theorem c_seenOf (hw : rwA w) {p : Nat} (h : p < 5) {g : Int32} : gX11_seenOf 167 w (nI p) g (hp S J T) = some (se (S 170) (S w) p g, hp S J T) := by
  simp (disch := omega) only [gX11_seenOf, fX11_seenOf_0, fX11_seenOf_19, fX11_seenOf_31, fX11_seenOf_37, fX11_seenOf_43, fX11_seenOf_44, mo_f15, mo_r15, kB_9, kI_2, kI_1, kI_3, kI_5, Option.bind_some, nI_add, ix2, ix8, ix22, ix5, ↓reduceIte, rw_r hw]
  unfold se
  split
  · rfl
  · split <;> rfl
set_option maxRecDepth 100000 in
set_option maxHeartbeats 4000000 in
theorem s_nameAt {N k : Nat} (hN : S 170 4 = nI N) (hN8 : N ≤ 8) (hk : k < N) {hg : Int32} {b : Option Nat} (hb : ∀ j, b = some j → j < k) (K : Nat → Int32 → Int32 → Int32 → aH → Option (Int32 × aH)) : fX11_nameAt_5 K 167 hg (oi b) (nI k) (hp S J T) = K 167 hg (oi (ams (fun j k => decide (S 170 (19 + 2 * j) < S 170 (19 + 2 * k))) (fun k => !decide (hg < S 170 (19 + 2 * k))) k b)) (nI (k + 1)) (hp S J T) := by
  by_cases h1 : hg < S 170 (19 + 2 * k)
  · rw [ams_f (dN h1)]
    simp (disch := omega) only [gX11_nameAt, fX11_nameAt_0, fX11_nameAt_5, fX11_nameAt_15, fX11_nameAt_30, fX11_nameAt_34, fX11_nameAt_59, fX11_nameAt_61, fX11_nameAt_67, kB_o, kI_0, mo_f15, mo_r15, kI_4, kB_19, kI_2, kI_1, Option.bind_some, nI_add, ix2, ix8, ix22, ix5, ↓reduceIte, hN, lt_eq, hk, h1]
  · cases b with
    | none =>
      rw [ams_n (dY h1)]
      simp (disch := omega) only [gX11_nameAt, fX11_nameAt_0, fX11_nameAt_5, fX11_nameAt_15, fX11_nameAt_30, fX11_nameAt_34, fX11_nameAt_59, fX11_nameAt_61, fX11_nameAt_67, kB_o, kI_0, mo_f15, mo_r15, kI_4, kB_19, kI_2, kI_1, Option.bind_some, nI_add, ix2, ix8, ix22, ix5, ↓reduceIte, hN, lt_eq, hk, h1, on_lt, oi_some]
    | some j =>
      have hj := hb j rfl
      by_cases h2 : S 170 (19 + 2 * j) < S 170 (19 + 2 * k)
      · rw [ams_t (dY h1) (decide_eq_true h2)]
        simp (disch := omega) only [gX11_nameAt, fX11_nameAt_0, fX11_nameAt_5, fX11_nameAt_15, fX11_nameAt_30, fX11_nameAt_34, fX11_nameAt_59, fX11_nameAt_61, fX11_nameAt_67, kB_o, kI_0, mo_f15, mo_r15, kI_4, kB_19, kI_2, kI_1, Option.bind_some, nI_add, ix2, ix8, ix22, ix5, ↓reduceIte, hN, lt_eq, hk, h1, oi_some, nI_lt0, h2]
      · rw [ams_e (dY h1) (decide_eq_false h2)]
        simp (disch := omega) only [gX11_nameAt, fX11_nameAt_0, fX11_nameAt_5, fX11_nameAt_15, fX11_nameAt_30, fX11_nameAt_34, fX11_nameAt_59, fX11_nameAt_61, fX11_nameAt_67, kB_o, kI_0, mo_f15, mo_r15, kI_4, kB_19, kI_2, kI_1, Option.bind_some, nI_add, ix2, ix8, ix22, ix5, ↓reduceIte, hN, lt_eq, hk, h1, oi_some, nI_lt0, h2]
set_option maxRecDepth 100000 in
set_option maxHeartbeats 4000000 in
theorem l_nameAt {N : Nat} (hN : S 170 4 = nI N) (hN8 : N ≤ 8) {hg : Int32} : ∀ (n k f : Nat) (b : Option Nat), k + n = N → n < f → (∀ j, b = some j → j < k) → lX11_nameAt_5 f 167 hg (oi b) (nI k) (hp S J T) = some (oi (am (fun j k => decide (S 170 (19 + 2 * j) < S 170 (19 + 2 * k))) (fun k => !decide (hg < S 170 (19 + 2 * k))) n k b), hp S J T) := by
  intro n
  induction n with
  | zero =>
    intro k f b hk hf hb
    obtain ⟨f, rfl⟩ : ∃ g, f = g + 1 := ⟨f - 1, by omega⟩
    unfold lX11_nameAt_5
    simp (disch := omega) only [gX11_nameAt, fX11_nameAt_0, fX11_nameAt_5, fX11_nameAt_15, fX11_nameAt_30, fX11_nameAt_34, fX11_nameAt_59, fX11_nameAt_61, fX11_nameAt_67, kB_o, kI_0, mo_f15, mo_r15, kI_4, kB_19, kI_2, kI_1, Option.bind_some, nI_add, ix2, ix8, ix22, ix5, ↓reduceIte, hN, lt_eq, show ¬ k < N by omega, am]
  | succ n ih =>
    intro k f b hk hf hb
    obtain ⟨f, rfl⟩ : ∃ g, f = g + 1 := ⟨f - 1, by omega⟩
    unfold lX11_nameAt_5 am
    rw [s_nameAt hN hN8 (by omega) hb]
    exact ih (k + 1) f _ (by omega) (by omega) (ams_lt hb)
set_option maxRecDepth 100000 in
set_option maxHeartbeats 4000000 in
theorem c_nameAt {N : Nat} (hN : S 170 4 = nI N) (hN8 : N ≤ 8) {hg : Int32} : gX11_nameAt 167 hg (hp S J T) = some (oi (nm (S 170) N hg), hp S J T) := by
  unfold gX11_nameAt fX11_nameAt_0
  rw [kB_o, kI_0]
  exact l_nameAt hN hN8 N 0 FU none (by omega) (FU_lt (by omega)) (fun j hj => by cases hj)
end LEAF
