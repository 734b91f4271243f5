-- WHO SHOULD FAST: which sets are good
def Good (r R : Row) (P N F K n s : Nat) : Prop := s < w5 n ∧ mfB r R F (nI s) n = true ∧ dWt r (rwS r R P N F s (n - 1)) P N false = some K ∧ rwS r R P N F s n 10 = R 10
def preS (r R : Row) (P N F d b : Nat) : Prop := b < w5 d ∧ mfB r R F (nI b) d = true ∧ rwS r R P N F b d 10 = R 10
def enN (r R : Row) : Nat → Int32
  | 0 => nI 0
  | k + 1 => enN r R k ||| (if lv R k = true ∧ r 1 < R k + r (10 + 2 * k) then nI 1 <<< (nI k &&& 31) else nI 0)
set_option maxRecDepth 100000 in
set_option maxHeartbeats 400000 in
theorem b_en {r R : Row} {i : Nat} (hi : i < 32) : ∀ k, k ≤ 32 → bt (enN r R k) i = (decide (i < k) && (lv R i && decide (r 1 < R i + r (10 + 2 * i)))) := by
  intro k
  induction k with
  | zero => intro _; show bt (nI 0) i = _; rw [b_0, decide_eq_false (by omega), Bool.false_and]
  | succ k ih =>
    intro hk
    show bt (enN r R k ||| _) i = _
    rw [b_or, ih (by omega)]
    by_cases hc : lv R k = true ∧ r 1 < R k + r (10 + 2 * k)
    · rw [if_pos hc, b_sh k (by omega) hi]
      by_cases e : i = k
      · subst e
        rw [hc.1, decide_eq_true hc.2, decide_eq_true rfl, decide_eq_true (show i < i + 1 by omega), Bool.or_true]
        rfl
      · rw [decide_eq_false e, Bool.or_false]
        by_cases e2 : i < k
        · rw [decide_eq_true e2, decide_eq_true (show i < k + 1 by omega)]
        · rw [decide_eq_false e2, decide_eq_false (show ¬ i < k + 1 by omega)]
    · rw [if_neg hc, b_0, Bool.or_false]
      by_cases e : i = k
      · subst e
        have : (lv R i && decide (r 1 < R i + r (10 + 2 * i))) = false := by
          cases hl : lv R i with
          | false => rfl
          | true => rw [decide_eq_false (fun z => hc ⟨hl, z⟩)]; rfl
        rw [this, Bool.and_false, Bool.and_false]
      · by_cases e2 : i < k
        · rw [decide_eq_true e2, decide_eq_true (show i < k + 1 by omega)]
        · rw [decide_eq_false e2, decide_eq_false (show ¬ i < k + 1 by omega)]
def sfe (r R : Row) (P F : Nat) : Int32 := fre r R F &&& (enN r R P ^^^ m1)
set_option maxRecDepth 100000 in
set_option maxHeartbeats 400000 in
theorem sub_b {x y : Int32} : (x &&& (y ^^^ m1) = 0) ↔ ∀ i, i < 32 → bt x i = true → bt y i = true := by
  rw [and0]
  refine ⟨fun h i hi hx => ?_, fun h i hi => ?_⟩
  · have := h i hi
    rw [b_not _ hi, hx] at this
    cases hy : bt y i with
    | true => rfl
    | false => rw [hy] at this; cases this
  · rw [b_not _ hi]
    cases hx : bt x i with
    | false => rfl
    | true => rw [h i hi hx]; rfl
section GO
variable {r R : Row} {P N F K n s b d : Nat}
set_option maxRecDepth 100000 in
set_option maxHeartbeats 400000 in
theorem mfB_at {x : Int32} {n d : Nat} (h : mfB r R F x n = true) (hd : d < n) : okD r R F d (sm5 x d) = true := by
  induction n with
  | zero => omega
  | succ n ih =>
    have h2 : (mfB r R F x n && okD r R F n (sm5 x n)) = true := h
    rw [Bool.and_eq_true] at h2
    by_cases e : d = n
    · rw [e]; exact h2.2
    · exact ih h2.1 (by omega)
set_option maxRecDepth 100000 in
set_option maxHeartbeats 400000 in
theorem mfB_cg {x y : Int32} : ∀ n, (∀ i, i < n → sm5 x i = sm5 y i) → mfB r R F x n = mfB r R F y n := by
  intro n
  induction n with
  | zero => intro _; rfl
  | succ n ih =>
    intro h
    show (mfB r R F x n && okD r R F n (sm5 x n)) = (mfB r R F y n && okD r R F n (sm5 y n))
    rw [ih (fun i hi => h i (by omega)), h n (by omega)]
set_option maxRecDepth 100000 in
set_option maxHeartbeats 400000 in
theorem okD_row (hP5 : P ≤ 5) (h10 : rwS r R P N F s d 10 = R 10) (x : Int32) : okD r R F d x = decide (x &&& (fre r (rwS r R P N F s d) F ^^^ m1) = 0) := by
  have h := okD_fre ((nI 1 <<< (r 3 &&& 31)) - nI 1) (R 10) (tol r R F d) x
  have ef : fre r (rwS r R P N F s d) F = (((nI 1 <<< (r 3 &&& 31)) - nI 1) &&& (R 10 ^^^ m1)) &&& (tol r R F d ^^^ m1) := by
    unfold fre lvm tol
    rw [h10, rwS_13 hP5]
    cases d with
    | zero => rw [if_pos rfl]; rfl
    | succ d => rw [if_neg (by omega), rwS_11]
  rw [ef]
  unfold okD
  by_cases z : x &&& ((((nI 1 <<< (r 3 &&& 31)) - nI 1) &&& (R 10 ^^^ m1)) &&& (tol r R F d ^^^ m1) ^^^ m1) = 0
  · rw [decide_eq_true z, decide_eq_true (h.mp z).1, decide_eq_true (h.mp z).2]; rfl
  · rw [decide_eq_false z]
    by_cases z3 : x &&& (tol r R F d ||| R 10) = 0
    · rw [decide_eq_false (fun z4 => z (h.mpr ⟨z3, z4⟩)), Bool.and_false]
    · rw [decide_eq_false z3, Bool.false_and]
set_option maxRecDepth 100000 in
set_option maxHeartbeats 400000 in
theorem good_lt (hn : n ≤ 3) (h : Good r R P N F K n s) : s < 32768 := Nat.lt_of_lt_of_le h.1 (w5_p n (by omega)).2.2
set_option maxRecDepth 100000 in
set_option maxHeartbeats 400000 in
theorem good_row (hn : n ≤ 3) (hd : d ≤ n) (hb : s % w5 d = b) : rwS r R P N F s d = rwS r R P N F b d := rwS_cg d (fun i hi => by rw [← hb, dg_pre (by omega) hi])
set_option maxRecDepth 100000 in
set_option maxHeartbeats 400000 in
theorem good_sub (hT : TbS r P N) (hI : Inv R P N 999) (hn : n ≤ 3) (h : Good r R P N F K n s) (hd : d < n) : nI (dg s d) &&& (sfe r (rwS r R P N F s d) P F ^^^ m1) = 0 := by
  have hP5 := hT.2.1
  have hs := good_lt hn h
  have k1 := rwS_k hP5 h.2.2.2 (show d ≤ n by omega)
  have k2 := rwS_k hP5 h.2.2.2 (show d + 1 ≤ n by omega)
  have o1 := mfB_at h.2.1 hd
  rw [okD_row (N := N) (s := s) hP5 k1, sm5_n hs (by omega)] at o1
  have o2 := sub_b.mp (of_decide_eq_true o1)
  rw [sub_b]
  intro i hi hx
  unfold sfe
  rw [b_and, o2 i hi hx, Bool.true_and, b_not _ hi, b_en hi P (by omega)]
  have hf := o2 i hi hx
  unfold fre at hf
  rw [b_and, b_lvm hT.1 hP5 hi] at hf
  by_cases hp : i < P
  · cases hl : lv (rwS r R P N F s d) i with
    | false => rw [Bool.false_and, Bool.and_false]; rfl
    | true =>
      have hk : dayR r (rwS r R P N F s d) P N F (nI (dg s d)) false (r 0) 10 = rwS r R P N F s d 10 := k2.trans k1.symm
      rw [decide_eq_false (keeps_f hT (rwS_inv hT hI d (by omega)) hk hp hl hx), Bool.and_false, Bool.and_false]
      rfl
  · rw [decide_eq_false hp]
    rfl
set_option maxRecDepth 100000 in
set_option maxHeartbeats 400000 in
theorem good_all (hT : TbS r P N) (hI : Inv R P N 999) (hn : n ≤ 3) (h : Good r R P N F K n s) (hd : d < n) : dayR r (rwS r R P N F s d) P N F (sfe r (rwS r R P N F s d) P F) false (r 0) 10 = rwS r R P N F s d 10 := by
  have hP5 := hT.2.1
  have k1 := rwS_k hP5 h.2.2.2 (show d ≤ n by omega)
  have k2 := rwS_k hP5 h.2.2.2 (show d + 1 ≤ n by omega)
  have hk : dayR r (rwS r R P N F s d) P N F (nI (dg s d)) false (r 0) 10 = rwS r R P N F s d 10 := k2.trans k1.symm
  refine keeps_mo hT (rwS_inv hT hI d (by omega)) (fun p hp hb => ?_) (fun p hp hl hb => ?_) hk
  · exact sub_b.mp (good_sub hT hI hn h hd) p (by omega) hb
  · unfold sfe at hb
    rw [b_and, b_not _ (by omega), b_en (by omega) P (by omega), decide_eq_true hp, hl, Bool.and_eq_true] at hb
    intro z
    rw [decide_eq_true z] at hb
    exact absurd hb.2 (by decide)
set_option maxRecDepth 100000 in
set_option maxHeartbeats 400000 in
theorem pre_0 : preS r R P N F 0 0 := ⟨by decide, rfl, rfl⟩
set_option maxRecDepth 100000 in
set_option maxHeartbeats 400000 in
theorem pre_row {k : Nat} (hd : d < 3) (hb : b < w5 d) (hk : k < 32) : rwS r R P N F (b + k * w5 d) d = rwS r R P N F b d ∧ rwS r R P N F (b + k * w5 d) (d + 1) = dayR r (rwS r R P N F b d) P N F (nI k) false (r 0) := by
  obtain ⟨e1, e2, e3⟩ := dg_new hd hb hk
  have e4 : rwS r R P N F (b + k * w5 d) d = rwS r R P N F b d := rwS_cg d (fun i hi => by rw [← dg_pre (s := b + k * w5 d) (by omega) hi, e2])
  refine ⟨e4, ?_⟩
  show dayR r (rwS r R P N F (b + k * w5 d) d) P N F (nI (dg (b + k * w5 d) d)) false (r 0) = _
  rw [e4, e1]
set_option maxRecDepth 100000 in
set_option maxHeartbeats 400000 in
theorem pre_s (hP5 : P ≤ 5) {k : Nat} (hd : d < 3) (hk : k < 32) (h : preS r R P N F d b) (hs : nI k &&& (fre r (rwS r R P N F b d) F ^^^ m1) = 0) (hr : dayR r (rwS r R P N F b d) P N F (nI k) false (r 0) 10 = rwS r R P N F b d 10) : preS r R P N F (d + 1) (b + k * w5 d) := by
  obtain ⟨h1, h2, h3⟩ := h
  obtain ⟨e1, e2, e3⟩ := dg_new hd h1 hk
  obtain ⟨e4, e5⟩ := pre_row (r := r) (R := R) (P := P) (N := N) (F := F) hd h1 hk
  have hl : b + k * w5 d < 32768 := Nat.lt_of_lt_of_le e3 (w5_p (d + 1) (by omega)).2.2
  have hb3 : b < 32768 := Nat.lt_of_lt_of_le h1 (w5_p d (by omega)).2.2
  refine ⟨e3, ?_, by rw [e5, hr, h3]⟩
  show (mfB r R F (nI (b + k * w5 d)) d && okD r R F d (sm5 (nI (b + k * w5 d)) d)) = true
  have e6 : mfB r R F (nI (b + k * w5 d)) d = mfB r R F (nI b) d := mfB_cg d (fun i hi => by
    rw [sm5_n hl (by omega), sm5_n hb3 (by omega), ← dg_pre (s := b + k * w5 d) (show d < 4 by omega) hi, e2])
  rw [e6, h2, Bool.true_and, sm5_n hl hd, e1, okD_row (N := N) (s := b) hP5 h3]
  exact decide_eq_true hs
end GO
