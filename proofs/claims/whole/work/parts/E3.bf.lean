-- THE BEST FAST: the reference
def sm5 (s : Int32) (d : Nat) : Int32 := (s >>> (nI (5 * d) &&& 31)) &&& nI 31
def tol (r R : Row) (F d : Nat) : Int32 := fs r (R 13 + nI d + nI 1) F 0 (if d = 0 then R 11 else nI 0)
def okD (r R : Row) (F d : Nat) (x : Int32) : Bool := decide (x &&& (tol r R F d ||| R 10) = 0) && decide (x &&& (((nI 1 <<< (r 3 &&& 31)) - nI 1) ^^^ m1) = 0)
def mfB (r R : Row) (F : Nat) (s : Int32) : Nat → Bool
  | 0 => true
  | d + 1 => mfB r R F s d && okD r R F d (sm5 s d)
set_option maxRecDepth 100000 in
set_option maxHeartbeats 400000 in
theorem mfB_f {r R : Row} {F : Nat} {s : Int32} {k : Nat} (h : mfB r R F s k = false) : ∀ m, mfB r R F s (k + m) = false := by
  intro m
  induction m with
  | zero => exact h
  | succ m ih =>
    show (mfB r R F s (k + m) && _) = false
    rw [ih, Bool.false_and]
set_option maxRecDepth 100000 in
set_option maxHeartbeats 400000 in
theorem bl3 : ∀ a b c d : Bool, ((a && !((b && !c) && !d)) = false) ↔ ((a && (d || c)) = false ∧ (a && !b) = false) := by decide
set_option maxRecDepth 100000 in
set_option maxHeartbeats 400000 in
theorem okD_fre (ev dead to x : Int32) : (x &&& (((ev &&& (dead ^^^ m1)) &&& (to ^^^ m1)) ^^^ m1) = 0) ↔ (x &&& (to ||| dead) = 0 ∧ x &&& (ev ^^^ m1) = 0) := by
  rw [and0, and0, and0]
  refine ⟨fun h => ⟨fun i hi => ?_, fun i hi => ?_⟩, fun h i hi => ?_⟩
  · have := h i hi
    rw [b_not _ hi, b_and, b_and, b_not _ hi, b_not _ hi] at this
    rw [b_or]
    exact ((bl3 _ _ _ _).mp this).1
  · have := h i hi
    rw [b_not _ hi, b_and, b_and, b_not _ hi, b_not _ hi] at this
    rw [b_not _ hi]
    exact ((bl3 _ _ _ _).mp this).2
  · have h1 := h.1 i hi
    have h2 := h.2 i hi
    rw [b_or] at h1
    rw [b_not _ hi] at h2
    rw [b_not _ hi, b_and, b_and, b_not _ hi, b_not _ hi]
    exact (bl3 _ _ _ _).mpr ⟨h1, h2⟩
def wBs (w : Nat → Int32) (b : Option Nat) : Int32 := match b with
  | none => m1
  | some j => w j
section BF3
variable {S : Mem} {J : MeJ} {T : Nat → Nat} {t P N F U E : Nat}
set_option maxRecDepth 100000 in
set_option maxHeartbeats 400000 in
theorem l_mfi {r R : Row} (hr : S 170 = r) (hR : S 174 = R) (hF : r 5 = nI F) (hF8 : F ≤ 8) {v1 v2 v4 v5 : Int32} {d : Nat} (K : Nat → Int32 → Int32 → Int32 → aH → Option (Int32 × aH)) : lX11_mayFast_37 K FU 167 v1 v2 (nI d) v4 v5 (nI 0) (hp S J T) = fX11_mayFast_105 K 167 v1 v2 (nI d) v4 (fs r (R 13 + nI d + nI 1) F 0 v5) (hp S J T) := by
  unfold fs
  refine for_loop (lX11_mayFast_37 K) (fX11_mayFast_37 K) (fun _ => rfl) (fun K' k x => K' 167 v1 v2 (nI d) v4 x (nI k) (hp S J T)) (fun _ _ => True) F _ (fun x => fX11_mayFast_105 K 167 v1 v2 (nI d) v4 x (hp S J T)) (fun K' k x hk _ => ?_) (fun _ _ _ _ => trivial) (fun K' x _ => ?_) F 0 FU v5 (by omega) (FU_lt (by omega)) trivial
  · have e5 : S 170 5 = nI F := by rw [hr]; exact hF
    have e36 : S 170 (36 + 2 * k) = r (36 + 2 * k) := by rw [hr]
    have e35 : S 170 (35 + 2 * k) = r (35 + 2 * k) := by rw [hr]
    have e13 : S 174 13 = R 13 := by rw [hR]
    by_cases h : r (36 + 2 * k) = R 13 + nI d + nI 1
    · rw [if_pos h]
      simp (disch := omega) only [fX11_mayFast_37, fX11_mayFast_48, fX11_mayFast_78, fX11_mayFast_96, mo_f15, mo_f19, mo_r15, rw_r rwA_174, kI_5, kB_35, kI_2, kI_1, kB_13, e5, e36, e35, e13, lt_eq, hk, h, ix2, n35, nI_add, Option.bind_some, ↓reduceIte]
    · rw [if_neg h]
      simp (disch := omega) only [fX11_mayFast_37, fX11_mayFast_48, fX11_mayFast_95, fX11_mayFast_96, mo_f15, mo_f19, mo_r15, rw_r rwA_174, kI_0, kI_5, kB_35, kI_2, kI_1, kB_13, e5, e36, e13, lt_eq, hk, h, ix2, n35, nI_add, or0, Option.bind_some, ↓reduceIte]
  · have e5 : S 170 5 = nI F := by rw [hr]; exact hF
    simp (disch := omega) only [fX11_mayFast_37, mo_f15, mo_r15, kI_5, e5, lt_eq, Nat.lt_irrefl, Option.bind_some, ↓reduceIte]
set_option maxRecDepth 100000 in
set_option maxHeartbeats 400000 in
theorem c_mayF {r R : Row} (hr : S 170 = r) (hR : S 174 = R) (hF : r 5 = nI F) (hF8 : F ≤ 8) {s : Int32} {n : Nat} (hn : n ≤ 3) : gX11_mayFast 167 s (nI n) (hp S J T) = some (bI (mfB r R F s n), hp S J T) := by
  have h : ∀ m k g, k + m = n → m < g → mfB r R F s k = true → lX11_mayFast_2 g 167 s (nI n) (nI k) (hp S J T) = some (bI (mfB r R F s n), hp S J T) := by
    intro m
    induction m with
    | zero =>
      intro k g hk hg h1
      obtain ⟨g, rfl⟩ : ∃ x, g = x + 1 := ⟨g - 1, by omega⟩
      obtain rfl : k = n := by omega
      rw [h1]
      unfold lX11_mayFast_2
      simp (disch := omega) only [fX11_mayFast_2, fX11_mayFast_141, lt_eq, Nat.lt_irrefl, kI_1, n1_0, n11, false_or, if_true, z1_z, ↓reduceIte, bI_t]
    | succ m ih =>
      intro k g hk hg h1
      obtain ⟨g, rfl⟩ : ∃ x, g = x + 1 := ⟨g - 1, by omega⟩
      have hk3 : k < n := by omega
      have e3 : S 170 3 = r 3 := by rw [hr]
      have e10 : S 174 10 = R 10 := by rw [hR]
      have e11 : S 174 11 = R 11 := by rw [hR]
      have h5k : nI 5 * nI k = nI (5 * k) := ix5 k
      -- to the second look
      have hto : lX11_mayFast_2 (g + 1) 167 s (nI n) (nI k) (hp S J T) = fX11_mayFast_105 (lX11_mayFast_2 g) 167 s (nI n) (nI k) (sm5 s k) (tol r R F k) (hp S J T) := by
        conv => lhs; unfold lX11_mayFast_2
        unfold fX11_mayFast_2
        rw [if_pos (show nI k < nI n by rw [lt_eq (by omega) (by omega)]; exact hk3)]
        unfold fX11_mayFast_7 tol
        by_cases z : k = 0
        · subst z
          rw [if_pos (show nI 0 = 0 from rfl), if_pos rfl]
          unfold fX11_mayFast_21
          rw [mo_f19, Option.bind_some, kB_11, rw_r rwA_174 (by omega), Option.bind_some, e11, kI_5, h5k, show kB 31 = nI 31 by decide]
          unfold fX11_mayFast_32
          rw [kI_0, l_mfi hr hR hF hF8]
          rfl
        · rw [if_neg (show ¬ nI k = 0 by rw [nI_z (by omega)]; exact z), if_neg z]
          unfold fX11_mayFast_31 fX11_mayFast_32
          rw [kI_0, l_mfi hr hR hF hF8, kI_5, h5k, show kB 31 = nI 31 by decide]
          rfl
      rw [hto]
      cases hok : okD r R F k (sm5 s k) with
      | true =>
        have hk1 : mfB r R F s (k + 1) = true := by show (mfB r R F s k && okD r R F k (sm5 s k)) = true; rw [h1, hok]; rfl
        rw [← ih (k + 1) g (by omega) (by omega) hk1]
        unfold okD at hok
        rw [Bool.and_eq_true] at hok
        have o1 := of_decide_eq_true hok.1
        have o2 := of_decide_eq_true hok.2
        unfold fX11_mayFast_105
        rw [mo_f19, Option.bind_some, kB_10, rw_r rwA_174 (by omega), Option.bind_some, e10, if_pos o1]
        unfold fX11_mayFast_121 fX11_mayFast_124
        rw [mo_isO, Option.bind_some, c_everybody, Option.bind_some, e3]
        unfold fX11_mayFast_127
        rw [kI_n, if_pos o2]
        unfold fX11_mayFast_135
        rw [kI_1, nI_add]
      | false =>
        have hk1 : mfB r R F s n = false := by
          have := mfB_f (r := r) (R := R) (F := F) (s := s) (k := k + 1) (by show (mfB r R F s k && okD r R F k (sm5 s k)) = false; rw [hok, Bool.and_false]) m
          rwa [show k + 1 + m = n by omega] at this
        rw [hk1]
        have hno : fX11_mayFast_133 (hp S J T) = some (bI false, hp S J T) := by
          simp only [fX11_mayFast_133, kI_0, n0_0, true_or, if_true, z0_z, ↓reduceIte, bI_f]
        unfold okD at hok
        unfold fX11_mayFast_105
        rw [mo_f19, Option.bind_some, kB_10, rw_r rwA_174 (by omega), Option.bind_some, e10]
        by_cases o1 : sm5 s k &&& (tol r R F k ||| R 10) = 0
        · rw [decide_eq_true o1, Bool.true_and] at hok
          have o2 := of_decide_eq_false hok
          rw [if_pos o1]
          unfold fX11_mayFast_121 fX11_mayFast_124
          rw [mo_isO, Option.bind_some, c_everybody, Option.bind_some, e3]
          unfold fX11_mayFast_127
          rw [kI_n, if_neg o2]
          exact hno
        · rw [if_neg o1]
          exact hno
  unfold gX11_mayFast fX11_mayFast_0
  rw [kI_0]
  exact h n 0 FU (by omega) (FU_lt (by omega)) rfl
set_option maxRecDepth 100000 in
set_option maxHeartbeats 400000 in
theorem s_bf77 {w : Nat → Int32} (hw : ∀ k, sm (w k) 20) {k : Nat} (hk : k < 32) {b : Option Nat} (hb : ∀ j, b = some j → j < k) (h : S 167 34 = wBs w b) (K : Nat → Int32 → Int32 → aH → Option (Int32 × aH)) : fX11_bestFastOf_77 K 167 (oi b) (nI k) (w k) (hp S J T) = K 167 (oi (ams1 (btr w) k b)) (nI (k + 1)) (hp (stR S 167 (up (S 167) 34 (wBs w (ams1 (btr w) k b)))) J T) := by
  have hset : fX11_bestFastOf_112 K 167 (nI k) (w k) (hp S J T) = K 167 (nI k) (nI (k + 1)) (hp (stR S 167 (up (S 167) 34 (w k))) J T) := by
    unfold fX11_bestFastOf_112
    rw [mo_p34, Option.bind_some, stS_R]
    unfold fX11_bestFastOf_119
    rw [kI_1, nI_add]
  cases b with
  | none =>
    unfold fX11_bestFastOf_77
    rw [if_pos (show oi none < 0 by decide), hset]
    rfl
  | some j =>
    have hj := hb j rfl
    have hpj := pc_le j
    have hpk := pc_le k
    have h34 : S 167 34 = w j := h
    obtain ⟨x, hx, ex⟩ := hw k
    obtain ⟨y, hy, ey⟩ := hw j
    have hskip : K 167 (nI j) (nI k + kI 1) (hp S J T) = K 167 (nI j) (nI (k + 1)) (hp (stR S 167 (up (S 167) 34 (w j))) J T) := by
      rw [up_pt h34, stR_self, kI_1, nI_add]
    unfold fX11_bestFastOf_77
    rw [oi_some, if_neg (show ¬ nI j < 0 by rw [nI_lt0 (by omega)]; exact fun z => z)]
    unfold fX11_bestFastOf_82
    rw [mo_g34, Option.bind_some, h34]
    by_cases z1 : w k < w j
    · have e : ams1 (btr w) k (some j) = some j := by
        show (if btr w j k = true then some k else some j) = some j
        unfold btr
        rw [ex, ey, lt_eq (by omega) (by omega)] at z1
        rw [ex, ey, decide_eq_false (by rw [lt_eq (by omega) (by omega)]; omega), decide_eq_false (by rw [eq_eq (by omega) (by omega)]; omega), Bool.false_and, Bool.or_false, if_neg (by decide)]
      rw [if_pos z1, e]
      exact hskip
    · rw [if_neg z1]
      unfold fX11_bestFastOf_90
      rw [mo_g34, Option.bind_some, h34]
      by_cases z2 : w k = w j
      · rw [if_pos z2]
        unfold fX11_bestFastOf_98 fX11_bestFastOf_99
        rw [c_ones, Option.bind_some]
        unfold fX11_bestFastOf_102 fX11_bestFastOf_103
        rw [c_ones, Option.bind_some]
        unfold fX11_bestFastOf_106
        by_cases z3 : pc k < pc j
        · have e : ams1 (btr w) k (some j) = some k := by
            show (if btr w j k = true then some k else some j) = some k
            unfold btr
            rw [decide_eq_true z2.symm, decide_eq_true z3, Bool.true_and, Bool.or_true, if_pos rfl]
          rw [if_pos (show nI (pc k) < nI (pc j) by rw [lt_eq (by omega) (by omega)]; exact z3), hset, e]
          rfl
        · have e : ams1 (btr w) k (some j) = some j := by
            show (if btr w j k = true then some k else some j) = some j
            unfold btr
            rw [z2, decide_eq_false (fun z => by rw [Int32.lt_iff_toInt_lt] at z; omega), decide_eq_false z3, Bool.and_false, Bool.or_false, if_neg (by decide)]
          rw [if_neg (show ¬ nI (pc k) < nI (pc j) by rw [lt_eq (by omega) (by omega)]; exact z3), e]
          exact hskip
      · have e : ams1 (btr w) k (some j) = some k := by
          show (if btr w j k = true then some k else some j) = some k
          unfold btr
          have z4 : w j < w k := by
            rw [ex, ey, lt_eq (by omega) (by omega)] at z1
            rw [ex, ey, eq_eq (by omega) (by omega)] at z2
            rw [ex, ey, lt_eq (by omega) (by omega)]
            omega
          rw [decide_eq_true z4, Bool.true_or, if_pos rfl]
        rw [if_neg z2, hset, e]
        rfl
end BF3
