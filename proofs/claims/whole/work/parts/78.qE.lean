-- TWO TABLES: what a part's namer names is worth
def ms (r R : Row) (P : Nat) (x : Int32) : Option Nat := am (fun j k => decide (sh r R j < sh r R k)) (bt x) P 0 none
def msV (r R : Row) : Option Nat → Int32
  | none => m1
  | some j => sh r R j
def wv (r R : Row) (P N : Nat) (x : Int32) : Int32 := match ms r R P x with
  | none => nI 0
  | some p => wo R (nm r N (sh r R p))
set_option maxRecDepth 100000 in
set_option maxHeartbeats 400000 in
theorem ms_lt {r R : Row} {P : Nat} {x : Int32} : ∀ j, ms r R P x = some j → j < P := by
  intro j hj
  have := am_lt (k := 0) (b := none) (fun j hj => by cases hj) j hj
  omega
set_option maxRecDepth 100000 in
set_option maxHeartbeats 400000 in
theorem ag_ms {r q R Q : Row} {P N F : Nat} {x : Int32} (hr : agT r q P N F) (h : agR R Q P N) : ms r R P x = ms q Q P x := by
  unfold ms
  refine am_cg (fun j hj => by cases hj) (fun _ _ _ => rfl) (fun i j hij hj _ => ?_)
  rw [ag_sh hr h (show i < P by omega), ag_sh hr h (show j < P by omega)]
set_option maxRecDepth 100000 in
set_option maxHeartbeats 400000 in
theorem ag_wv {r q R Q : Row} {P N F : Nat} {x : Int32} (hr : agT r q P N F) (h : agR R Q P N) : wv r R P N x = wv q Q P N x := by
  unfold wv
  rw [ag_ms hr h]
  cases e : ms q Q P x with
  | none => rfl
  | some p =>
    dsimp only
    rw [ag_sh hr h (ms_lt p e), ag_nm hr, ag_wo h nm_lt]
section Q14
variable {S S1 : Mem} {J : MeJ} {T : Nat → Nat} {t a w P N F U E D : Nat} {ht : Bool}
set_option maxRecDepth 100000 in
set_option maxHeartbeats 400000 in
theorem s_mostSeen (ha : plA a) (htl : tlA t) {k : Nat} (hP : S t 3 = nI P) (hP5 : P ≤ 5) (hk : k < P) (hs : m1 < sh (S t) (S a) k) {x : Int32} {b : Option Nat} (K : Nat → Nat → Int32 → Int32 → Int32 → Int32 → aH → Option (Int32 × aH)) : fX7_mostSeen_9 K a t x (oi b) (msV (S t) (S a) b) (nI k) (hp S J T) = K a t x (oi (ams (fun j k => decide (sh (S t) (S a) j < sh (S t) (S a) k)) (bt x) k b)) (msV (S t) (S a) (ams (fun j k => decide (sh (S t) (S a) j < sh (S t) (S a) k)) (bt x) k b)) (nI (k + 1)) (hp S J T) := by
  have hsh : se (S t) (S a) k (S a k + S t (10 + 2 * k)) = sh (S t) (S a) k := rfl
  cases h1 : bt x k with
  | false =>
    rw [ams_f h1]
    simp (disch := omega) only [gX7_mostSeen, fX7_mostSeen_0, fX7_mostSeen_9, fX7_mostSeen_18, fX7_mostSeen_28, fX7_mostSeen_32, fX7_mostSeen_35, fX7_mostSeen_40, fX7_mostSeen_47, fX7_mostSeen_50, fX7_mostSeen_52, fX7_mostSeen_58, kB_o, kI_n, kI_0, tl_g3 htl, kI_1, pl_isO ha, Option.bind_some, n35, n9, n19, n51, n59, nI_add, ix2, ix8, ix22, ix5, ↓reduceIte, hP, lt_eq, hk, bt_eq, h1, Bool.false_eq_true]
  | true =>
    cases b with
    | none =>
      rw [ams_n h1]
      simp (disch := omega) only [gX7_mostSeen, fX7_mostSeen_0, fX7_mostSeen_9, fX7_mostSeen_18, fX7_mostSeen_28, fX7_mostSeen_32, fX7_mostSeen_35, fX7_mostSeen_40, fX7_mostSeen_47, fX7_mostSeen_50, fX7_mostSeen_52, fX7_mostSeen_58, kB_o, kI_n, kI_0, tl_g3 htl, kI_1, pl_isO ha, Option.bind_some, n35, n9, n19, n51, n59, nI_add, ix2, ix8, ix22, ix5, ↓reduceIte, pl_isO ha, hP, lt_eq, hk, bt_eq, h1, c_seenHunger ha htl, hsh, msV, hs, oi_some]
    | some j =>
      by_cases h3 : sh (S t) (S a) j < sh (S t) (S a) k
      · rw [ams_t h1 (decide_eq_true h3)]
        simp (disch := omega) only [gX7_mostSeen, fX7_mostSeen_0, fX7_mostSeen_9, fX7_mostSeen_18, fX7_mostSeen_28, fX7_mostSeen_32, fX7_mostSeen_35, fX7_mostSeen_40, fX7_mostSeen_47, fX7_mostSeen_50, fX7_mostSeen_52, fX7_mostSeen_58, kB_o, kI_n, kI_0, tl_g3 htl, kI_1, pl_isO ha, Option.bind_some, n35, n9, n19, n51, n59, nI_add, ix2, ix8, ix22, ix5, ↓reduceIte, pl_isO ha, hP, lt_eq, hk, bt_eq, h1, c_seenHunger ha htl, hsh, msV, h3, oi_some]
      · rw [ams_e h1 (decide_eq_false h3)]
        simp (disch := omega) only [gX7_mostSeen, fX7_mostSeen_0, fX7_mostSeen_9, fX7_mostSeen_18, fX7_mostSeen_28, fX7_mostSeen_32, fX7_mostSeen_35, fX7_mostSeen_40, fX7_mostSeen_47, fX7_mostSeen_50, fX7_mostSeen_52, fX7_mostSeen_58, kB_o, kI_n, kI_0, tl_g3 htl, kI_1, pl_isO ha, Option.bind_some, n35, n9, n19, n51, n59, nI_add, ix2, ix8, ix22, ix5, ↓reduceIte, pl_isO ha, hP, lt_eq, hk, bt_eq, h1, c_seenHunger ha htl, hsh, msV, h3, oi_some]
set_option maxRecDepth 100000 in
set_option maxHeartbeats 400000 in
theorem c_mostSeen (ha : plA a) (htl : tlA t) (hP : S t 3 = nI P) (hP5 : P ≤ 5) (hs : ∀ k, k < P → m1 < sh (S t) (S a) k) {x : Int32} : gX7_mostSeen a t x (hp S J T) = some (oi (ms (S t) (S a) P x), hp S J T) := by
  unfold gX7_mostSeen fX7_mostSeen_0
  rw [kB_o, kI_n, kI_0]
  refine for_loop lX7_mostSeen_9 fX7_mostSeen_9 (fun _ => rfl) (fun K k b => K a t x (oi b) (msV (S t) (S a) b) (nI k) (hp S J T)) (fun k b => True) P _ (fun b => some (oi b, hp S J T)) (fun K k b hk hb => s_mostSeen ha htl hP hP5 hk (hs k hk) K) (fun k b hk hb => trivial) (fun K b hb => ?_) P 0 FU none (by omega) (FU_lt (by omega)) trivial
  simp (disch := omega) only [gX7_mostSeen, fX7_mostSeen_0, fX7_mostSeen_9, fX7_mostSeen_18, fX7_mostSeen_28, fX7_mostSeen_32, fX7_mostSeen_35, fX7_mostSeen_40, fX7_mostSeen_47, fX7_mostSeen_50, fX7_mostSeen_52, fX7_mostSeen_58, kB_o, kI_n, kI_0, tl_g3 htl, kI_1, pl_isO ha, Option.bind_some, n35, n9, n19, n51, n59, nI_add, ix2, ix8, ix22, ix5, ↓reduceIte, hP, lt_eq, Nat.lt_irrefl]
set_option maxRecDepth 100000 in
set_option maxHeartbeats 400000 in
theorem c_worthNamedBy (b1 : tlA (T 0)) (hP : S (T 0) 3 = nI P) (hP5 : P ≤ 5) (hN : S (T 0) 4 = nI N) (hN8 : N ≤ 8) (hs : ∀ k, k < P → m1 < sh (S (T 0)) (S 139) k) {x : Int32} : gX10_worthNamedBy 0 x (hp S J T) = some (wv (S (T 0)) (S 139) P N x, hp S J T) := by
  unfold wv
  have hsh : ∀ k, se (S (T 0)) (S 139) k (S 139 k + S (T 0) (10 + 2 * k)) = sh (S (T 0)) (S 139) k := fun k => rfl
  cases e : ms (S (T 0)) (S 139) P x with
  | none => simp (disch := omega) only [gX10_worthNamedBy, fX10_worthNamedBy_0, fX10_worthNamedBy_9, fX10_worthNamedBy_12, fX10_worthNamedBy_17, fX10_worthNamedBy_21, fX10_worthNamedBy_38, fX10_worthNamedBy_41, fX10_worthNamedBy_44, fX10_worthNamedBy_47, lt_f8, lt_f9, pl_isO plA_139, kI_0, tl_isO b1, Option.bind_some, n35, n9, n19, n51, n59, nI_add, ix2, ix8, ix22, ix5, ↓reduceIte, pl_isO plA_139, c_mostSeen plA_139 b1 hP hP5 hs, e, on_lt]
  | some p =>
    have := ms_lt p e
    have hq : ∀ k, nm (S (T 0)) N (sh (S (T 0)) (S 139) p) = some k → k < 8 := fun k hk => by have := nm_lt k hk; omega
    simp (disch := omega) only [gX10_worthNamedBy, fX10_worthNamedBy_0, fX10_worthNamedBy_9, fX10_worthNamedBy_12, fX10_worthNamedBy_17, fX10_worthNamedBy_21, fX10_worthNamedBy_38, fX10_worthNamedBy_41, fX10_worthNamedBy_44, fX10_worthNamedBy_47, lt_f8, lt_f9, pl_isO plA_139, kI_0, tl_isO b1, Option.bind_some, n35, n9, n19, n51, n59, nI_add, ix2, ix8, ix22, ix5, ↓reduceIte, pl_isO plA_139, tl_isO b1, c_mostSeen plA_139 b1 hP hP5 hs, e, oi_some, nI_lt0, c_seenHunger plA_139 b1, hsh, c_nameSeen b1 hN hN8, c_worthOf plA_139 hq]
set_option maxRecDepth 100000 in
set_option maxHeartbeats 400000 in
theorem s_worthM {r R : Row} {k : Nat} (hr : S 170 = r) (hg : S 175 = grR r R P) (hP : r 3 = nI P) (hP5 : P ≤ 5) (hk : k < P) (hs : m1 < sh r R k) {x : Int32} (hl : bt x k = true → lv R k = true) {b : Option Nat} (K : Nat → Int32 → Int32 → Int32 → aH → Option (Int32 × aH)) : fX11_worthOf_4 K 167 x (msV r R b) (nI k) (hp S J T) = K 167 x (msV r R (ams (fun j k => decide (sh r R j < sh r R k)) (bt x) k b)) (nI (k + 1)) (hp S J T) := by
  cases h1 : bt x k with
  | false =>
    rw [ams_f h1]
    simp (disch := omega) only [gX11_worthOf, fX11_worthOf_0, fX11_worthOf_4, fX11_worthOf_14, fX11_worthOf_16, fX11_worthOf_19, fX11_worthOf_22, fX11_worthOf_25, fX11_worthOf_37, fX11_worthOf_40, fX11_worthOf_48, fX11_worthOf_53, fX11_worthOf_54, fX11_worthOf_55, fX11_worthOf_61, fX11_worthOf_65, fX11_worthOf_69, fX11_worthOf_77, fX11_worthOf_80, fX11_worthOf_82, kI_n, kI_0, mo_f15, mo_r15, kI_3, mo_f20, mo_r20, mo_isO, kI_1, mo_f19, mo_r19, kB_14, Option.bind_some, n35, n9, n19, n51, n59, nI_add, ix2, ix8, ix22, ix5, ↓reduceIte, hr, hP, lt_eq, hk, c_hasBit (show k < 32 by omega), h1, bI_f, n0_0]
  | true =>
    have hsh := sh_gr (r := r) hP5 hk (hl h1)
    cases b with
    | none =>
      rw [ams_n h1]
      simp (disch := omega) only [gX11_worthOf, fX11_worthOf_0, fX11_worthOf_4, fX11_worthOf_14, fX11_worthOf_16, fX11_worthOf_19, fX11_worthOf_22, fX11_worthOf_25, fX11_worthOf_37, fX11_worthOf_40, fX11_worthOf_48, fX11_worthOf_53, fX11_worthOf_54, fX11_worthOf_55, fX11_worthOf_61, fX11_worthOf_65, fX11_worthOf_69, fX11_worthOf_77, fX11_worthOf_80, fX11_worthOf_82, kI_n, kI_0, mo_f15, mo_r15, kI_3, mo_f20, mo_r20, mo_isO, kI_1, mo_f19, mo_r19, kB_14, Option.bind_some, n35, n9, n19, n51, n59, nI_add, ix2, ix8, ix22, ix5, ↓reduceIte, hr, hP, lt_eq, hk, c_hasBit (show k < 32 by omega), h1, bI_t, n1_0, rw_r rwA_175, c_seenOf rwA_175, hg, hsh, msV, hs]
    | some j =>
      by_cases h3 : sh r R j < sh r R k
      · rw [ams_t h1 (decide_eq_true h3)]
        simp (disch := omega) only [gX11_worthOf, fX11_worthOf_0, fX11_worthOf_4, fX11_worthOf_14, fX11_worthOf_16, fX11_worthOf_19, fX11_worthOf_22, fX11_worthOf_25, fX11_worthOf_37, fX11_worthOf_40, fX11_worthOf_48, fX11_worthOf_53, fX11_worthOf_54, fX11_worthOf_55, fX11_worthOf_61, fX11_worthOf_65, fX11_worthOf_69, fX11_worthOf_77, fX11_worthOf_80, fX11_worthOf_82, kI_n, kI_0, mo_f15, mo_r15, kI_3, mo_f20, mo_r20, mo_isO, kI_1, mo_f19, mo_r19, kB_14, Option.bind_some, n35, n9, n19, n51, n59, nI_add, ix2, ix8, ix22, ix5, ↓reduceIte, hr, hP, lt_eq, hk, c_hasBit (show k < 32 by omega), h1, bI_t, n1_0, rw_r rwA_175, c_seenOf rwA_175, hg, hsh, msV, h3]
      · rw [ams_e h1 (decide_eq_false h3)]
        simp (disch := omega) only [gX11_worthOf, fX11_worthOf_0, fX11_worthOf_4, fX11_worthOf_14, fX11_worthOf_16, fX11_worthOf_19, fX11_worthOf_22, fX11_worthOf_25, fX11_worthOf_37, fX11_worthOf_40, fX11_worthOf_48, fX11_worthOf_53, fX11_worthOf_54, fX11_worthOf_55, fX11_worthOf_61, fX11_worthOf_65, fX11_worthOf_69, fX11_worthOf_77, fX11_worthOf_80, fX11_worthOf_82, kI_n, kI_0, mo_f15, mo_r15, kI_3, mo_f20, mo_r20, mo_isO, kI_1, mo_f19, mo_r19, kB_14, Option.bind_some, n35, n9, n19, n51, n59, nI_add, ix2, ix8, ix22, ix5, ↓reduceIte, hr, hP, lt_eq, hk, c_hasBit (show k < 32 by omega), h1, bI_t, n1_0, rw_r rwA_175, c_seenOf rwA_175, hg, hsh, msV, h3]
set_option maxRecDepth 100000 in
set_option maxHeartbeats 400000 in
theorem c_worthM {r R : Row} (hr : S 170 = r) (hR : ∀ k, k < 8 → S 174 (14 + k) = R (14 + k)) (hg : S 175 = grR r R P) (hP : r 3 = nI P) (hP5 : P ≤ 5) (hN : r 4 = nI N) (hN8 : N ≤ 8) (hL : Lst r N) (hs : ∀ k, k < P → ∃ n, n < 20000 ∧ sh r R k = nI n) {x : Int32} (hl : ∀ k, k < P → bt x k = true → lv R k = true) : gX11_worthOf 167 x (hp S J T) = some (wv r R P N x, hp S J T) := by
  have hm : ∀ k, k < P → m1 < sh r R k := fun k hk => by
    obtain ⟨n, hn, e⟩ := hs k hk
    rw [e]
    have h0 : m1 < (0 : Int32) := by decide
    rcases Nat.eq_zero_or_pos n with z | z
    · rw [z]; exact h0
    · exact Int32.lt_trans h0 ((nI_ltI (a := 0) (by omega) (by omega)).mpr z)
  unfold gX11_worthOf fX11_worthOf_0
  rw [kI_n, kI_0]
  have e := for_loop lX11_worthOf_4 fX11_worthOf_4 (fun _ => rfl) (fun K k b => K 167 x (msV r R b) (nI k) (hp S J T)) (fun k b => ∀ j, b = some j → j < k) P (ams (fun j k => decide (sh r R j < sh r R k)) (bt x)) (fun b => some (match b with | none => nI 0 | some p => wo R (nm r N (sh r R p)), hp S J T)) (fun K k b hk hb => s_worthM hr hg hP hP5 hk (hm k hk) (hl k hk) K) (fun k b hk hb => ams_lt hb) (fun K b hb => ?_) P 0 FU none (by omega) (FU_lt (by omega)) (fun j hj => by cases hj)
  · exact e
  · cases b with
    | none => simp (disch := omega) only [gX11_worthOf, fX11_worthOf_0, fX11_worthOf_4, fX11_worthOf_14, fX11_worthOf_16, fX11_worthOf_19, fX11_worthOf_22, fX11_worthOf_25, fX11_worthOf_37, fX11_worthOf_40, fX11_worthOf_48, fX11_worthOf_53, fX11_worthOf_54, fX11_worthOf_55, fX11_worthOf_61, fX11_worthOf_65, fX11_worthOf_69, fX11_worthOf_77, fX11_worthOf_80, fX11_worthOf_82, kI_n, kI_0, mo_f15, mo_r15, kI_3, mo_f20, mo_r20, mo_isO, kI_1, mo_f19, mo_r19, kB_14, Option.bind_some, n35, n9, n19, n51, n59, nI_add, ix2, ix8, ix22, ix5, ↓reduceIte, hr, hP, lt_eq, Nat.lt_irrefl, msV, mn_lt]
    | some p =>
      obtain ⟨n, hn, en⟩ := hs p (hb p rfl)
      obtain ⟨k0, hk0, ek0⟩ := id hL
      obtain ⟨k, hk, hkN⟩ := nm_some (r := r) (N := N) (hg := sh r R p) ⟨k0, hk0, by rw [ek0, en]; exact fun z => by have := (nI_ltI (a := n) (b := 0) (by omega) (by omega)).mp z; omega⟩
      have hlt : (sh r R p < 0) = False := eq_false (by rw [en]; exact nI_pos (by omega))
      simp (disch := omega) only [gX11_worthOf, fX11_worthOf_0, fX11_worthOf_4, fX11_worthOf_14, fX11_worthOf_16, fX11_worthOf_19, fX11_worthOf_22, fX11_worthOf_25, fX11_worthOf_37, fX11_worthOf_40, fX11_worthOf_48, fX11_worthOf_53, fX11_worthOf_54, fX11_worthOf_55, fX11_worthOf_61, fX11_worthOf_65, fX11_worthOf_69, fX11_worthOf_77, fX11_worthOf_80, fX11_worthOf_82, kI_n, kI_0, mo_f15, mo_r15, kI_3, mo_f20, mo_r20, mo_isO, kI_1, mo_f19, mo_r19, kB_14, Option.bind_some, n35, n9, n19, n51, n59, nI_add, ix2, ix8, ix22, ix5, ↓reduceIte, hr, hP, lt_eq, Nat.lt_irrefl, msV, hlt, c_nameAt (show S 170 4 = nI N by rw [hr]; exact hN) hN8, hk, oi_some, hR k (by omega), wo]
end Q14
