-- HEARSAY: whom to ask
def wt (p : Nat → Bool) (u : Nat) : Nat → Int32
  | 0 => nI 0
  | k + 1 => wt p u k + bI (p k && bt (nI k) u)
set_option maxRecDepth 100000 in
set_option maxHeartbeats 400000 in
theorem wt_cg {p q : Nat → Bool} {u : Nat} : ∀ k, (∀ j, j < k → p j = q j) → wt p u k = wt q u k := by
  intro k
  induction k with
  | zero => intro _; rfl
  | succ k ih =>
    intro h
    show wt p u k + bI (p k && bt (nI k) u) = wt q u k + bI (q k && bt (nI k) u)
    rw [ih (fun j hj => h j (by omega)), h k (by omega)]
set_option maxRecDepth 100000 in
set_option maxHeartbeats 400000 in
theorem wt_x {p : Nat → Bool} {u n : Nat} (h : ∀ j, n ≤ j → p j = false) : ∀ m, wt p u (n + m) = wt p u n := by
  intro m
  induction m with
  | zero => rfl
  | succ m ih =>
    show wt p u (n + m) + bI (p (n + m) && bt (nI (n + m)) u) = _
    rw [h (n + m) (by omega), Bool.false_and, ih]
    exact add0 _
set_option maxRecDepth 100000 in
set_option maxHeartbeats 400000 in
theorem bit1 (x : Int32) {u : Nat} (hu : u < 32) : (x >>> (nI u &&& 31)) &&& nI 1 = bI (bt x u) := by
  cases e : bt x u with
  | true => exact (bt_eq hu).mpr e
  | false =>
    refine b_ext (fun i hi => ?_)
    rw [b_and, b_1 i hi, b_sshr u hu x hi]
    show _ = bt (nI 0) i
    rw [b_0]
    by_cases h0 : i = 0
    · subst h0; rw [if_pos (by omega), Nat.add_zero, e]; rfl
    · rw [decide_eq_false h0, Bool.and_false]
set_option maxRecDepth 100000 in
set_option maxHeartbeats 400000 in
theorem wiS_at {s : Nat} : ∀ (m k : Nat) (X : Row) (u : Nat), u < 32 → itr (wiS s) m k X u = if k ≤ u ∧ u < k + m then X u + bI (bt (nI s) u) else X u := by
  intro m
  induction m with
  | zero => intro k X u hu; rw [if_neg (by omega)]; rfl
  | succ m ih =>
    intro k X u hu
    show itr (wiS s) m (k + 1) (wiS s k X) u = _
    rw [ih _ _ _ hu]
    by_cases h1 : u = k
    · subst h1
      rw [if_neg (by omega), if_pos (by omega)]
      unfold wiS
      rw [up_eq, bit1 _ hu]
    · have e : wiS s k X u = X u := by unfold wiS; rw [up_ne h1]
      rw [e]
      by_cases h2 : k ≤ u ∧ u < k + (m + 1)
      · rw [if_pos h2, if_pos (by omega)]
      · rw [if_neg h2, if_neg (by omega)]
set_option maxRecDepth 100000 in
set_option maxHeartbeats 400000 in
theorem sk_of {r Z : Row} {P N F U E : Nat} {v1 : Int32} (hU : U < 5) {u : Nat} (hu : u < U) : ∀ (m k : Nat) (q : Int32 × Int32 × Int32 × Int32 × Row), q.2.2.2.2 u = wt (fi r Z P N F U E) u k → (itr (skS r Z P N F U E v1) m k q).2.2.2.2 u = wt (fi r Z P N F U E) u (k + m) := by
  intro m
  induction m with
  | zero => intro k q h; exact h
  | succ m ih =>
    intro k q h
    rw [show k + (m + 1) = k + 1 + m by omega]
    refine ih (k + 1) _ ?_
    show _ = wt (fi r Z P N F U E) u k + bI (fi r Z P N F U E k && bt (nI k) u)
    unfold skS
    cases hf : fi r Z P N F U E k with
    | true =>
      rw [if_pos rfl]
      show itr (wiS k) U 0 q.2.2.2.2 u = _
      rw [wiS_at U 0 _ u (by omega), if_pos (by omega), h, Bool.true_and]
    | false =>
      rw [if_neg (by decide), Bool.false_and, h]
      exact (add0 _).symm
set_option maxRecDepth 100000 in
set_option maxHeartbeats 400000 in
theorem z4_at (X : Row) : ∀ u, u < 4 → z4 X u = nI 0 := by
  intro u hu
  show up (up (up (up X 0 (nI 0)) 1 (nI 0)) 2 (nI 0)) 3 (nI 0) u = nI 0
  unfold up
  rcases (show u = 0 ∨ u = 1 ∨ u = 2 ∨ u = 3 by omega) with h | h | h | h <;> subst h <;> rfl
def lam (X : Row) (u : Nat) : Int32 := if wt (bt (X 3)) u 16 < X 0 - wt (bt (X 3)) u 16 then X 0 - wt (bt (X 3)) u 16 else wt (bt (X 3)) u 16
def lem (c : Int32) (O : Row) (u : Nat) : Int32 := if c - O u < O u then O u else c - O u
set_option maxRecDepth 100000 in
set_option maxHeartbeats 400000 in
theorem mx_sw (x y : Int32) : (if y < x then x else y) = (if x < y then y else x) := by
  by_cases h1 : y < x
  · rw [if_pos h1, if_neg (fun h2 => by rw [Int32.lt_iff_toInt_lt] at h1 h2; omega)]
  · rw [if_neg h1]
    by_cases h2 : x < y
    · rw [if_pos h2]
    · rw [if_neg h2]
      refine Int32.toInt_inj.mp ?_
      rw [Int32.lt_iff_toInt_lt] at h1 h2
      omega
def askF (c : Int32) (L : Nat → Int32) (U : Nat) : Option Nat := if 0 < c then am (fun j k => decide (L k < L j)) (fun _ => true) U 0 none else none
set_option maxRecDepth 100000 in
set_option maxHeartbeats 400000 in
theorem askF_cg {c : Int32} {L M : Nat → Int32} {U : Nat} (h : ∀ u, u < U → L u = M u) : askF c L U = askF c M U := by
  unfold askF
  split
  · refine am_cg (fun j hj => by cases hj) (fun _ _ _ => rfl) (fun i j h1 h2 _ => ?_)
    rw [h i (by omega), h j (by omega)]
  · rfl
set_option maxRecDepth 100000 in
set_option maxHeartbeats 400000 in
theorem askF_lt {c : Int32} {L : Nat → Int32} {U u : Nat} (h : askF c L U = some u) : u < U := by
  unfold askF at h
  split at h
  · have := am_lt (n := U) (k := 0) (b := none) (fun j h => by cases h) u h
    omega
  · cases h
section HE16
variable {S S0 : Mem} {J : MeJ} {T : Nat → Nat} {t P N F U E : Nat}
set_option maxRecDepth 100000 in
set_option maxHeartbeats 400000 in
theorem c_leftAtMost {u : Nat} (hu : u < 4) : gX3_leftAtMost 38 (nI u) (hp S J T) = some (lam (S 38) u, hp S J T) := by
  unfold gX3_leftAtMost fX3_leftAtMost_0
  rw [kI_0]
  refine for_at lX3_leftAtMost_4 fX3_leftAtMost_4 (fun _ => rfl) (fun K k w => K 38 (nI u) w (nI k) (hp S J T)) 16 (wt (bt (S 38 3)) u) _ (fun K k hk => ?_) (fun K => ?_) (FU_lt (by omega))
  · show _ = K 38 (nI u) (wt (bt (S 38 3)) u k + bI (bt (S 38 3) k && bt (nI k) u)) (nI (k + 1)) (hp S J T)
    cases e : bt (S 38 3) k with
    | false => simp (disch := omega) only [gX3_leftAtMost, fX3_leftAtMost_0, fX3_leftAtMost_4, fX3_leftAtMost_10, fX3_leftAtMost_13, fX3_leftAtMost_16, fX3_leftAtMost_19, fX3_leftAtMost_28, fX3_leftAtMost_32, fX3_leftAtMost_33, fX3_leftAtMost_41, fX3_leftAtMost_48, fX3_leftAtMost_51, kI_0, kB_16, he_isO, kI_1, he_g0, Option.bind_some, n35, n9, n19, n51, n59, nI_add, ix2, ix8, ix22, ix5, ↓reduceIte, lt_eq, hk, c_isFit, e, bI_f, n0_0, Bool.false_and]
    | true =>
      cases e2 : bt (nI k) u with
      | false => simp (disch := omega) only [gX3_leftAtMost, fX3_leftAtMost_0, fX3_leftAtMost_4, fX3_leftAtMost_10, fX3_leftAtMost_13, fX3_leftAtMost_16, fX3_leftAtMost_19, fX3_leftAtMost_28, fX3_leftAtMost_32, fX3_leftAtMost_33, fX3_leftAtMost_41, fX3_leftAtMost_48, fX3_leftAtMost_51, kI_0, kB_16, he_isO, kI_1, he_g0, Option.bind_some, n35, n9, n19, n51, n59, nI_add, ix2, ix8, ix22, ix5, ↓reduceIte, lt_eq, hk, c_isFit, e, e2, bI_t, bI_f, n1_0, Bool.and_false, bt_eq, Bool.false_eq_true]
      | true => simp (disch := omega) only [gX3_leftAtMost, fX3_leftAtMost_0, fX3_leftAtMost_4, fX3_leftAtMost_10, fX3_leftAtMost_13, fX3_leftAtMost_16, fX3_leftAtMost_19, fX3_leftAtMost_28, fX3_leftAtMost_32, fX3_leftAtMost_33, fX3_leftAtMost_41, fX3_leftAtMost_48, fX3_leftAtMost_51, kI_0, kB_16, he_isO, kI_1, he_g0, Option.bind_some, n35, n9, n19, n51, n59, nI_add, ix2, ix8, ix22, ix5, ↓reduceIte, lt_eq, hk, c_isFit, e, e2, bI_t, n1_0, Bool.and_true, bt_eq]
  · simp (disch := omega) only [gX3_leftAtMost, fX3_leftAtMost_0, fX3_leftAtMost_4, fX3_leftAtMost_10, fX3_leftAtMost_13, fX3_leftAtMost_16, fX3_leftAtMost_19, fX3_leftAtMost_28, fX3_leftAtMost_32, fX3_leftAtMost_33, fX3_leftAtMost_41, fX3_leftAtMost_48, fX3_leftAtMost_51, kI_0, kB_16, he_isO, kI_1, he_g0, Option.bind_some, n35, n9, n19, n51, n59, nI_add, ix2, ix8, ix22, ix5, ↓reduceIte, lt_eq, Nat.lt_irrefl, lam]
set_option maxRecDepth 100000 in
set_option maxHeartbeats 400000 in
theorem c_whom (htl : tlA t) (hU : S t 6 = nI U) (hU4 : U ≤ 4) : gX3_whomToAsk 38 t (hp S J T) = some (oi (askF (S 38 0) (lam (S 38)) U), hp S J T) := by
  unfold gX3_whomToAsk fX3_whomToAsk_0
  rw [kB_o, kI_0]
  by_cases hc : 0 < S 38 0
  · unfold askF
    rw [if_pos hc]
    refine for_loop lX3_whomToAsk_5 fX3_whomToAsk_5 (fun _ => rfl) (fun K k b => K 38 t (oi b) (nI k) (hp S J T)) (fun k b => ∀ j, b = some j → j < k) U _ (fun b => some (oi b, hp S J T)) (fun K k b hk hb => ?_) (fun k b hk hb => ams_lt hb) (fun K b hb => ?_) U 0 FU none (by omega) (FU_lt (by omega)) (fun j hj => by cases hj)
    · cases b with
      | none =>
        rw [ams_n rfl]
        simp (disch := omega) only [gX3_whomToAsk, fX3_whomToAsk_0, fX3_whomToAsk_5, fX3_whomToAsk_13, fX3_whomToAsk_20, fX3_whomToAsk_24, fX3_whomToAsk_26, fX3_whomToAsk_29, fX3_whomToAsk_31, fX3_whomToAsk_34, fX3_whomToAsk_37, fX3_whomToAsk_39, fX3_whomToAsk_45, kB_o, kI_0, tl_g6 htl, he_g0, he_isO, kI_1, Option.bind_some, n35, n9, n19, n51, n59, nI_add, ix2, ix8, ix22, ix5, ↓reduceIte, hU, lt_eq, hk, hc, on_lt, oi_some]
      | some j =>
        have hj := hb j rfl
        by_cases h2 : lam (S 38) k < lam (S 38) j
        · rw [ams_t rfl (decide_eq_true h2)]
          simp (disch := omega) only [gX3_whomToAsk, fX3_whomToAsk_0, fX3_whomToAsk_5, fX3_whomToAsk_13, fX3_whomToAsk_20, fX3_whomToAsk_24, fX3_whomToAsk_26, fX3_whomToAsk_29, fX3_whomToAsk_31, fX3_whomToAsk_34, fX3_whomToAsk_37, fX3_whomToAsk_39, fX3_whomToAsk_45, kB_o, kI_0, tl_g6 htl, he_g0, he_isO, kI_1, Option.bind_some, n35, n9, n19, n51, n59, nI_add, ix2, ix8, ix22, ix5, ↓reduceIte, hU, lt_eq, hk, hc, oi_some, nI_lt0, c_leftAtMost, h2]
        · rw [ams_e rfl (decide_eq_false h2)]
          simp (disch := omega) only [gX3_whomToAsk, fX3_whomToAsk_0, fX3_whomToAsk_5, fX3_whomToAsk_13, fX3_whomToAsk_20, fX3_whomToAsk_24, fX3_whomToAsk_26, fX3_whomToAsk_29, fX3_whomToAsk_31, fX3_whomToAsk_34, fX3_whomToAsk_37, fX3_whomToAsk_39, fX3_whomToAsk_45, kB_o, kI_0, tl_g6 htl, he_g0, he_isO, kI_1, Option.bind_some, n35, n9, n19, n51, n59, nI_add, ix2, ix8, ix22, ix5, ↓reduceIte, hU, lt_eq, hk, hc, oi_some, nI_lt0, c_leftAtMost, h2]
    · simp (disch := omega) only [gX3_whomToAsk, fX3_whomToAsk_0, fX3_whomToAsk_5, fX3_whomToAsk_13, fX3_whomToAsk_20, fX3_whomToAsk_24, fX3_whomToAsk_26, fX3_whomToAsk_29, fX3_whomToAsk_31, fX3_whomToAsk_34, fX3_whomToAsk_37, fX3_whomToAsk_39, fX3_whomToAsk_45, kB_o, kI_0, tl_g6 htl, he_g0, he_isO, kI_1, Option.bind_some, n35, n9, n19, n51, n59, nI_add, ix2, ix8, ix22, ix5, ↓reduceIte, hU, lt_eq, Nat.lt_irrefl]
  · unfold askF
    rw [if_neg hc]
    obtain ⟨g, hg⟩ : ∃ g, FU = g + 1 := ⟨FU - 1, by have := FU_lt (n := 0) (by omega); omega⟩
    rw [hg]
    unfold lX3_whomToAsk_5
    by_cases hu : 0 < U
    · simp (disch := omega) only [gX3_whomToAsk, fX3_whomToAsk_0, fX3_whomToAsk_5, fX3_whomToAsk_13, fX3_whomToAsk_20, fX3_whomToAsk_24, fX3_whomToAsk_26, fX3_whomToAsk_29, fX3_whomToAsk_31, fX3_whomToAsk_34, fX3_whomToAsk_37, fX3_whomToAsk_39, fX3_whomToAsk_45, kB_o, kI_0, tl_g6 htl, he_g0, he_isO, kI_1, Option.bind_some, n35, n9, n19, n51, n59, nI_add, ix2, ix8, ix22, ix5, ↓reduceIte, hU, lt_eq, hu, hc]
    · simp (disch := omega) only [gX3_whomToAsk, fX3_whomToAsk_0, fX3_whomToAsk_5, fX3_whomToAsk_13, fX3_whomToAsk_20, fX3_whomToAsk_24, fX3_whomToAsk_26, fX3_whomToAsk_29, fX3_whomToAsk_31, fX3_whomToAsk_34, fX3_whomToAsk_37, fX3_whomToAsk_39, fX3_whomToAsk_45, kB_o, kI_0, tl_g6 htl, he_g0, he_isO, kI_1, Option.bind_some, n35, n9, n19, n51, n59, nI_add, ix2, ix8, ix22, ix5, ↓reduceIte, hU, lt_eq, hu]
set_option maxRecDepth 100000 in
set_option maxHeartbeats 400000 in
theorem c_leaves {u : Nat} (hu : u < 4) : gX11_leavesOf 167 (nI u) (hp S J T) = some (lem (S 167 37) (S 180) u, hp S J T) := by
  unfold lem
  by_cases h : S 167 37 - S 180 u < S 180 u
  · simp (disch := omega) only [gX11_leavesOf, fX11_leavesOf_0, fX11_leavesOf_20, fX11_leavesOf_29, fX11_leavesOf_40, mo_f36, mo_r36, mo_g37, Option.bind_some, n35, n9, n19, n51, n59, nI_add, ix2, ix8, ix22, ix5, ↓reduceIte, h]
  · simp (disch := omega) only [gX11_leavesOf, fX11_leavesOf_0, fX11_leavesOf_20, fX11_leavesOf_29, fX11_leavesOf_40, mo_f36, mo_r36, mo_g37, Option.bind_some, n35, n9, n19, n51, n59, nI_add, ix2, ix8, ix22, ix5, ↓reduceIte, h]
set_option maxRecDepth 100000 in
set_option maxHeartbeats 400000 in
theorem l_askOf (hU : S 170 6 = nI U) (hU4 : U ≤ 4) : lX11_askOf_11 FU 167 (oi none) (nI 0) (hp S J T) = some (oi (askF (S 167 37) (lem (S 167 37) (S 180)) U), hp S J T) := by
  by_cases hc : 0 < S 167 37
  · unfold askF
    rw [if_pos hc]
    refine for_loop lX11_askOf_11 fX11_askOf_11 (fun _ => rfl) (fun K k b => K 167 (oi b) (nI k) (hp S J T)) (fun k b => ∀ j, b = some j → j < k) U _ (fun b => some (oi b, hp S J T)) (fun K k b hk hb => ?_) (fun k b hk hb => ams_lt hb) (fun K b hb => ?_) U 0 FU none (by omega) (FU_lt (by omega)) (fun j hj => by cases hj)
    · cases b with
      | none =>
        rw [ams_n rfl]
        simp (disch := omega) only [gX11_askOf, fX11_askOf_0, fX11_askOf_2, fX11_askOf_5, fX11_askOf_11, fX11_askOf_22, fX11_askOf_29, fX11_askOf_33, fX11_askOf_35, fX11_askOf_38, fX11_askOf_40, fX11_askOf_43, fX11_askOf_46, fX11_askOf_48, fX11_askOf_54, kI_n, mo_isO, kB_o, kI_0, mo_f15, mo_r15, kB_6, mo_g37, kI_1, Option.bind_some, n35, n9, n19, n51, n59, nI_add, ix2, ix8, ix22, ix5, ↓reduceIte, hU, lt_eq, hk, hc, on_lt, oi_some]
      | some j =>
        have hj := hb j rfl
        by_cases h2 : lem (S 167 37) (S 180) k < lem (S 167 37) (S 180) j
        · rw [ams_t rfl (decide_eq_true h2)]
          simp (disch := omega) only [gX11_askOf, fX11_askOf_0, fX11_askOf_2, fX11_askOf_5, fX11_askOf_11, fX11_askOf_22, fX11_askOf_29, fX11_askOf_33, fX11_askOf_35, fX11_askOf_38, fX11_askOf_40, fX11_askOf_43, fX11_askOf_46, fX11_askOf_48, fX11_askOf_54, kI_n, mo_isO, kB_o, kI_0, mo_f15, mo_r15, kB_6, mo_g37, kI_1, Option.bind_some, n35, n9, n19, n51, n59, nI_add, ix2, ix8, ix22, ix5, ↓reduceIte, hU, lt_eq, hk, hc, oi_some, nI_lt0, c_leaves, h2]
        · rw [ams_e rfl (decide_eq_false h2)]
          simp (disch := omega) only [gX11_askOf, fX11_askOf_0, fX11_askOf_2, fX11_askOf_5, fX11_askOf_11, fX11_askOf_22, fX11_askOf_29, fX11_askOf_33, fX11_askOf_35, fX11_askOf_38, fX11_askOf_40, fX11_askOf_43, fX11_askOf_46, fX11_askOf_48, fX11_askOf_54, kI_n, mo_isO, kB_o, kI_0, mo_f15, mo_r15, kB_6, mo_g37, kI_1, Option.bind_some, n35, n9, n19, n51, n59, nI_add, ix2, ix8, ix22, ix5, ↓reduceIte, hU, lt_eq, hk, hc, oi_some, nI_lt0, c_leaves, h2]
    · simp (disch := omega) only [gX11_askOf, fX11_askOf_0, fX11_askOf_2, fX11_askOf_5, fX11_askOf_11, fX11_askOf_22, fX11_askOf_29, fX11_askOf_33, fX11_askOf_35, fX11_askOf_38, fX11_askOf_40, fX11_askOf_43, fX11_askOf_46, fX11_askOf_48, fX11_askOf_54, kI_n, mo_isO, kB_o, kI_0, mo_f15, mo_r15, kB_6, mo_g37, kI_1, Option.bind_some, n35, n9, n19, n51, n59, nI_add, ix2, ix8, ix22, ix5, ↓reduceIte, hU, lt_eq, Nat.lt_irrefl]
  · unfold askF
    rw [if_neg hc]
    obtain ⟨g, hg⟩ : ∃ g, FU = g + 1 := ⟨FU - 1, by have := FU_lt (n := 0) (by omega); omega⟩
    rw [hg]
    unfold lX11_askOf_11
    by_cases hu : 0 < U
    · simp (disch := omega) only [gX11_askOf, fX11_askOf_0, fX11_askOf_2, fX11_askOf_5, fX11_askOf_11, fX11_askOf_22, fX11_askOf_29, fX11_askOf_33, fX11_askOf_35, fX11_askOf_38, fX11_askOf_40, fX11_askOf_43, fX11_askOf_46, fX11_askOf_48, fX11_askOf_54, kI_n, mo_isO, kB_o, kI_0, mo_f15, mo_r15, kB_6, mo_g37, kI_1, Option.bind_some, n35, n9, n19, n51, n59, nI_add, ix2, ix8, ix22, ix5, ↓reduceIte, hU, lt_eq, hu, hc]
    · simp (disch := omega) only [gX11_askOf, fX11_askOf_0, fX11_askOf_2, fX11_askOf_5, fX11_askOf_11, fX11_askOf_22, fX11_askOf_29, fX11_askOf_33, fX11_askOf_35, fX11_askOf_38, fX11_askOf_40, fX11_askOf_43, fX11_askOf_46, fX11_askOf_48, fX11_askOf_54, kI_n, mo_isO, kB_o, kI_0, mo_f15, mo_r15, kB_6, mo_g37, kI_1, Option.bind_some, n35, n9, n19, n51, n59, nI_add, ix2, ix8, ix22, ix5, ↓reduceIte, hU, lt_eq, hu]
end HE16
