-- WHO SHOULD FAST: sets of five bits a day
def w5 : Nat → Nat
  | 0 => 1
  | 1 => 32
  | 2 => 1024
  | _ => 32768
set_option maxRecDepth 100000 in
set_option maxHeartbeats 400000 in
theorem w5_p : ∀ d, d < 4 → 2 ^ (5 * d) = w5 d ∧ 0 < w5 d ∧ w5 d ≤ 32768 := by decide
set_option maxRecDepth 100000 in
set_option maxHeartbeats 400000 in
theorem w5_s : ∀ d, d < 3 → w5 (d + 1) = 32 * w5 d := by decide
def dg (s d : Nat) : Nat := s / w5 d % 32
set_option maxRecDepth 100000 in
set_option maxHeartbeats 400000 in
theorem dg_lt (s d : Nat) : dg s d < 32 := Nat.mod_lt _ (by omega)
set_option maxRecDepth 100000 in
set_option maxHeartbeats 400000 in
theorem nI_or (a b : Nat) : nI a ||| nI b = nI (a ||| b) := b_ext (fun i hi => by rw [b_or, bt_n hi, bt_n hi, bt_n hi, Nat.testBit_or])
set_option maxRecDepth 100000 in
set_option maxHeartbeats 400000 in
theorem nI_shl {a k : Nat} (hk : k < 32) : nI a <<< (nI k &&& 31) = nI (a <<< k) := b_ext (fun i hi => by
  rw [b_shl k hk _ hi, bt_n hi, Nat.testBit_shiftLeft]
  by_cases h : k ≤ i
  · rw [bt_n (by omega)]
  · rw [decide_eq_false h, Bool.false_and, Bool.false_and])
set_option maxRecDepth 100000 in
set_option maxHeartbeats 400000 in
theorem nI_sshr {a k : Nat} (ha : a < 32768) (hk : k < 32) : nI a >>> (nI k &&& 31) = nI (a >>> k) := b_ext (fun i hi => by
  rw [b_sshr k hk _ hi, bt_n hi, Nat.testBit_shiftRight]
  by_cases h : k + i < 32
  · rw [if_pos h, bt_n h]
  · rw [if_neg h, bt_n (by omega)]
    have e1 : a.testBit 31 = false := Nat.testBit_lt_two_pow (Nat.lt_of_lt_of_le ha (by decide))
    have e2 : a.testBit (k + i) = false := Nat.testBit_lt_two_pow (Nat.lt_of_lt_of_le ha (Nat.le_trans (show 32768 ≤ 2 ^ 15 by decide) (Nat.pow_le_pow_right (by omega) (by omega))))
    rw [e1, e2])
set_option maxRecDepth 100000 in
set_option maxHeartbeats 400000 in
theorem sm5_n {s d : Nat} (hs : s < 32768) (hd : d < 3) : sm5 (nI s) d = nI (dg s d) := by
  unfold sm5 dg
  rw [nI_sshr hs (by omega), nI_and, Nat.shiftRight_eq_div_pow, (w5_p d (by omega)).1]
  exact congrArg nI (Nat.and_two_pow_sub_one_eq_mod _ 5)
set_option maxRecDepth 100000 in
set_option maxHeartbeats 400000 in
theorem all_n {b k d : Nat} (hb : b < w5 d) (hd : d < 3) : nI b ||| (nI k <<< (nI (5 * d) &&& 31)) = nI (b + k * w5 d) := by
  rw [nI_shl (by omega), nI_or]
  rw [← (w5_p d (by omega)).1] at hb ⊢
  have := Nat.shiftLeft_add_eq_or_of_lt hb k
  rw [Nat.or_comm, ← this, Nat.shiftLeft_eq, Nat.add_comm]
set_option maxRecDepth 100000 in
set_option maxHeartbeats 400000 in
theorem dg_pre {s d i : Nat} (hd : d < 4) (hi : i < d) : dg (s % w5 d) i = dg s i := by
  have : (d = 1 ∧ i = 0) ∨ (d = 2 ∧ i = 0) ∨ (d = 2 ∧ i = 1) ∨ (d = 3 ∧ i = 0) ∨ (d = 3 ∧ i = 1) ∨ (d = 3 ∧ i = 2) := by omega
  rcases this with ⟨rfl, rfl⟩ | ⟨rfl, rfl⟩ | ⟨rfl, rfl⟩ | ⟨rfl, rfl⟩ | ⟨rfl, rfl⟩ | ⟨rfl, rfl⟩ <;> simp only [dg, w5] <;> omega
set_option maxRecDepth 100000 in
set_option maxHeartbeats 400000 in
theorem mod_s {s d : Nat} (hd : d < 3) : s % w5 (d + 1) = s % w5 d + dg s d * w5 d := by
  have : d = 0 ∨ d = 1 ∨ d = 2 := by omega
  rcases this with rfl | rfl | rfl <;> simp only [dg, w5] <;> omega
set_option maxRecDepth 100000 in
set_option maxHeartbeats 400000 in
theorem dg_new {b k d : Nat} (hd : d < 3) (hb : b < w5 d) (hk : k < 32) : dg (b + k * w5 d) d = k ∧ (b + k * w5 d) % w5 d = b ∧ b + k * w5 d < w5 (d + 1) := by
  have : d = 0 ∨ d = 1 ∨ d = 2 := by omega
  rcases this with rfl | rfl | rfl <;> simp only [dg, w5] at hb ⊢ <;> omega
set_option maxRecDepth 100000 in
set_option maxHeartbeats 400000 in
theorem pcB_mo {x y : Int32} (h : ∀ i, i < 32 → bt x i = true → bt y i = true) : ∀ k, k ≤ 32 → pcB x k ≤ pcB y k := by
  intro k
  induction k with
  | zero => intro _; exact Nat.le_refl _
  | succ k ih =>
    intro hk
    show pcB x k + cond (bt x k) 1 0 ≤ pcB y k + cond (bt y k) 1 0
    have := ih (by omega)
    cases hx : bt x k with
    | false => show pcB x k + 0 ≤ _; omega
    | true => rw [h k (by omega) hx]; show pcB x k + 1 ≤ pcB y k + 1; omega
set_option maxRecDepth 100000 in
set_option maxHeartbeats 400000 in
theorem pc_mod {s d : Nat} (hd : d < 4) : pc (s % w5 d) ≤ pc s := by
  refine pcB_mo (fun i hi h => ?_) 15 (by omega)
  rw [bt_n hi] at h ⊢
  rw [← (w5_p d hd).1, Nat.testBit_mod_two_pow, Bool.and_eq_true] at h
  exact h.2
-- the order of the choice
def key (s : Nat) : Nat := pc s * 65536 + s
set_option maxRecDepth 100000 in
set_option maxHeartbeats 400000 in
theorem key_inj {s u : Nat} (hs : s < 32768) (hu : u < 32768) (h : key s = key u) : s = u := by
  unfold key at h
  omega
set_option maxRecDepth 100000 in
set_option maxHeartbeats 400000 in
theorem key_mod {s d : Nat} (hd : d < 4) : key (s % w5 d) ≤ key s := by
  have h1 := pc_mod (s := s) hd
  have h2 := Nat.mod_le s (w5 d)
  unfold key
  omega
set_option maxRecDepth 100000 in
set_option maxHeartbeats 400000 in
theorem key_lt {s b : Nat} (hs : s < 32768) (hb : b < 32768) : (key s < key b) = (pc s < pc b ∨ pc s = pc b ∧ s < b) := by
  refine propext ?_
  unfold key
  omega
def btO (s : Nat) (B : Option Nat) : Prop := match B with
  | none => True
  | some b => key s < key b
def updG (G : Nat → Prop) (B B' : Option Nat) : Prop := (B' = B ∧ ∀ s, G s → ¬ btO s B) ∨ (∃ s, B' = some s ∧ G s ∧ btO s B ∧ ∀ u, G u → ¬ key u < key s)
set_option maxRecDepth 100000 in
set_option maxHeartbeats 400000 in
theorem upd_no {G : Nat → Prop} {B : Option Nat} (h : ∀ s, ¬ G s) : updG G B B := Or.inl ⟨rfl, fun s hs => absurd hs (h s)⟩
set_option maxRecDepth 100000 in
set_option maxHeartbeats 400000 in
theorem upd_cg {G H : Nat → Prop} {B B' : Option Nat} (h : ∀ s, G s ↔ H s) (q : updG G B B') : updG H B B' := by
  rcases q with ⟨q1, q2⟩ | ⟨s, q1, q2, q3, q4⟩
  · exact Or.inl ⟨q1, fun s hs => q2 s ((h s).mpr hs)⟩
  · exact Or.inr ⟨s, q1, (h s).mp q2, q3, fun u hu => q4 u ((h u).mpr hu)⟩
set_option maxRecDepth 100000 in
set_option maxHeartbeats 400000 in
theorem upd_tr {G H : Nat → Prop} {B B1 B2 : Option Nat} (h1 : updG G B B1) (h2 : updG H B1 B2) : updG (fun s => G s ∨ H s) B B2 := by
  rcases h1 with ⟨a1, a2⟩ | ⟨s, a1, a2, a3, a4⟩
  · rw [a1] at h2
    rcases h2 with ⟨c1, c2⟩ | ⟨u, c1, c2, c3, c4⟩
    · exact Or.inl ⟨c1, fun s hs => hs.elim (a2 s) (c2 s)⟩
    · refine Or.inr ⟨u, c1, Or.inr c2, c3, fun v hv => hv.elim (fun hg => ?_) (c4 v)⟩
      have hn := a2 v hg
      cases B with
      | none => exact absurd trivial hn
      | some b =>
        have hn' : ¬ key v < key b := hn
        have c3' : key u < key b := c3
        omega
  · rw [a1] at h2
    have low : ∀ u, key u < key s → btO u B := fun u hu => by
      cases B with
      | none => trivial
      | some b => have a3' : key s < key b := a3; show key u < key b; omega
    rcases h2 with ⟨c1, c2⟩ | ⟨u, c1, c2, c3, c4⟩
    · exact Or.inr ⟨s, c1, Or.inl a2, a3, fun v hv => hv.elim (a4 v) (fun hg => c2 v hg)⟩
    · have c3' : key u < key s := c3
      refine Or.inr ⟨u, c1, Or.inr c2, low u c3', fun v hv => hv.elim (fun hg => ?_) (c4 v)⟩
      have := a4 v hg
      omega
set_option maxRecDepth 100000 in
set_option maxHeartbeats 400000 in
theorem upd_uni {G : Nat → Prop} (hG : ∀ s, G s → s < 32768) {B C : Option Nat} (h1 : updG G none B) (h2 : updG G none C) : B = C := by
  rcases h1 with ⟨a1, a2⟩ | ⟨s, a1, a2, a3, a4⟩
  · rcases h2 with ⟨c1, c2⟩ | ⟨u, c1, c2, c3, c4⟩
    · rw [a1, c1]
    · exact absurd trivial (a2 u c2)
  · rcases h2 with ⟨c1, c2⟩ | ⟨u, c1, c2, c3, c4⟩
    · exact absurd trivial (c2 s a2)
    · have h3 := a4 u c2
      have h4 := c4 s a2
      rw [a1, c1, key_inj (hG s a2) (hG u c2) (by omega)]
-- the rows of a set
def rwS (r R : Row) (P N F s : Nat) : Nat → Row
  | 0 => R
  | d + 1 => dayR r (rwS r R P N F s d) P N F (nI (dg s d)) false (r 0)
set_option maxRecDepth 100000 in
set_option maxHeartbeats 400000 in
theorem rwS_cg {r R : Row} {P N F s u : Nat} : ∀ d, (∀ i, i < d → dg s i = dg u i) → rwS r R P N F s d = rwS r R P N F u d := by
  intro d
  induction d with
  | zero => intro _; rfl
  | succ d ih =>
    intro h
    show dayR r (rwS r R P N F s d) P N F (nI (dg s d)) false (r 0) = dayR r (rwS r R P N F u d) P N F (nI (dg u d)) false (r 0)
    rw [ih (fun i hi => h i (by omega)), h d (by omega)]
set_option maxRecDepth 100000 in
set_option maxHeartbeats 400000 in
theorem rwS_inv {r R : Row} {P N F s D : Nat} (hT : TbS r P N) (hI : Inv R P N D) : ∀ d, D + d ≤ 3001 → Inv (rwS r R P N F s d) P N (D + d) := by
  intro d
  induction d with
  | zero => intro _; exact hI
  | succ d ih => intro hd; exact day_inv hT (ih (by omega)) (by omega) hT.2.2.2.2.1
set_option maxRecDepth 100000 in
set_option maxHeartbeats 400000 in
theorem rwS_13 {r R : Row} {P N F s : Nat} (hP5 : P ≤ 5) : ∀ d, rwS r R P N F s d 13 = R 13 + nI d := by
  intro d
  induction d with
  | zero => exact (add0 _).symm
  | succ d ih =>
    show dayR r (rwS r R P N F s d) P N F _ false (r 0) 13 = _
    unfold dayR
    rw [dEnd_13, dRw_hi hP5 (by omega) (by omega), ih, Int32.add_assoc, nI_add]
set_option maxRecDepth 100000 in
set_option maxHeartbeats 400000 in
theorem rwS_11 {r R : Row} {P N F s d : Nat} : rwS r R P N F s (d + 1) 11 = nI 0 := by
  show dayR r (rwS r R P N F s d) P N F _ false (r 0) 11 = _
  unfold dayR
  rw [dEnd_11]
set_option maxRecDepth 100000 in
set_option maxHeartbeats 400000 in
theorem rwS_10 {r R : Row} {P N F s : Nat} (hP5 : P ≤ 5) {d i : Nat} (hi : i < 32) (h : bt (rwS r R P N F s d 10) i = true) : ∀ m, bt (rwS r R P N F s (d + m) 10) i = true := by
  intro m
  induction m with
  | zero => exact h
  | succ m ih =>
    show bt (dayR r (rwS r R P N F s (d + m)) P N F _ false (r 0) 10) i = true
    unfold dayR
    rw [dEnd_10 hP5, ddR_in hi P (by omega), dRw_hi hP5 (by omega) (by omega), ih, Bool.true_or]
set_option maxRecDepth 100000 in
set_option maxHeartbeats 400000 in
theorem rwS_k {r R : Row} {P N F s n : Nat} (hP5 : P ≤ 5) (h : rwS r R P N F s n 10 = R 10) {d : Nat} (hd : d ≤ n) : rwS r R P N F s d 10 = R 10 := by
  refine b_ext (fun i hi => ?_)
  cases h1 : bt (R 10) i with
  | true =>
    have := rwS_10 (r := r) (R := R) (N := N) (F := F) (s := s) hP5 (d := 0) hi h1 d
    rwa [Nat.zero_add] at this
  | false =>
    cases h2 : bt (rwS r R P N F s d 10) i with
    | false => rfl
    | true =>
      have := rwS_10 hP5 hi h2 (n - d)
      rw [show d + (n - d) = n by omega, h, h1] at this
      cases this
