-- THE TEXT: runs of bytes; tokens
def run (p : Nat → Bool) (n : Nat) : Nat → Nat → Nat
  | 0, k => k
  | f + 1, k => if k < n ∧ p k = true then run p n f (k + 1) else k
def rn (p : Nat → Bool) (n k : Nat) : Nat := run p n (n - k) k
section RN
variable {p : Nat → Bool} {n k : Nat}
set_option maxRecDepth 100000 in
set_option maxHeartbeats 400000 in
theorem rn_s (h : k < n) (hp : p k = true) : rn p n k = rn p n (k + 1) := by
  unfold rn
  obtain ⟨f, hf⟩ : ∃ f, n - k = f + 1 := ⟨n - k - 1, by omega⟩
  rw [hf, show n - (k + 1) = f by omega]
  show (if k < n ∧ p k = true then run p n f (k + 1) else k) = _
  rw [if_pos ⟨h, hp⟩]
set_option maxRecDepth 100000 in
set_option maxHeartbeats 400000 in
theorem rn_e (h : ¬ (k < n ∧ p k = true)) : rn p n k = k := by
  unfold rn
  cases hf : n - k with
  | zero => rfl
  | succ f =>
    show (if k < n ∧ p k = true then run p n f (k + 1) else k) = k
    rw [if_neg h]
set_option maxRecDepth 100000 in
set_option maxHeartbeats 400000 in
theorem rn_ind (P : Nat → Prop) (he : ∀ k, ¬ (k < n ∧ p k = true) → P k) (hs : ∀ k, k < n → p k = true → P (k + 1) → P k) : ∀ k, P k := by
  have h : ∀ m k, n - k = m → P k := by
    intro m
    induction m with
    | zero => intro k hk; exact he k (fun z => by omega)
    | succ m ih =>
      intro k hk
      by_cases z : k < n ∧ p k = true
      · exact hs k z.1 z.2 (ih (k + 1) (by omega))
      · exact he k z
  exact fun k => h (n - k) k rfl
set_option maxRecDepth 100000 in
set_option maxHeartbeats 400000 in
theorem rn_ge : k ≤ rn p n k := by
  refine rn_ind (p := p) (n := n) (fun k => k ≤ rn p n k) (fun k h => by rw [rn_e h]; exact Nat.le_refl _) (fun k h1 h2 ih => ?_) k
  show k ≤ rn p n k
  rw [rn_s h1 h2]
  have ih' : k + 1 ≤ rn p n (k + 1) := ih
  omega
set_option maxRecDepth 100000 in
set_option maxHeartbeats 400000 in
theorem rn_le (h : k ≤ n) : rn p n k ≤ n := by
  refine rn_ind (p := p) (n := n) (fun k => k ≤ n → rn p n k ≤ n) (fun k h h2 => by rw [rn_e h]; exact h2) (fun k h1 h2 ih _ => ?_) k h
  rw [rn_s h1 h2]
  exact ih (by omega)
set_option maxRecDepth 100000 in
set_option maxHeartbeats 400000 in
theorem rn_in {i : Nat} (h1 : k ≤ i) (h2 : i < rn p n k) : p i = true ∧ i < n := by
  refine rn_ind (p := p) (n := n) (fun k => k ≤ i → i < rn p n k → p i = true ∧ i < n) (fun k h a b => by rw [rn_e h] at b; omega) (fun k a1 a2 ih b1 b2 => ?_) k h1 h2
  rw [rn_s a1 a2] at b2
  by_cases e : i = k
  · rw [e]; exact ⟨a2, a1⟩
  · exact ih (by omega) b2
set_option maxRecDepth 100000 in
set_option maxHeartbeats 400000 in
theorem rn_no (h : rn p n k < n) : p (rn p n k) = false := by
  refine rn_ind (p := p) (n := n) (fun k => rn p n k < n → p (rn p n k) = false) (fun k h a => ?_) (fun k a1 a2 ih b => ?_) k h
  · rw [rn_e h] at a ⊢
    cases hp : p k with
    | false => rfl
    | true => exact absurd ⟨a, hp⟩ h
  · rw [rn_s a1 a2] at b ⊢
    exact ih b
end RN
def spB (c : Nat) : Bool := decide (c = 32)
def ltB (c : Nat) : Bool := decide (97 ≤ c ∧ c ≤ 122)
def dgB (c : Nat) : Bool := decide (48 ≤ c ∧ c ≤ 57)
def byv (c : Nat) : Int32 := (nI c).toInt8.toInt32
def digs (y : Nat → Nat) (s : Nat) : Nat → Nat
  | 0 => 0
  | k + 1 => digs y s k * 10 + (y (s + k) - 48)
-- a token: its sort (0 end, 1 none, 2 word, 3 whole, 4 mark), where it begins, where it ends, its number
def tkS (y : Nat → Nat) (n e : Nat) : Nat := rn (fun k => spB (y k)) n e
def tkK (y : Nat → Nat) (n s : Nat) : Nat := if s < n then (if y s = 59 then 4 else if ltB (y s) then (if 8 < rn (fun k => ltB (y k)) n s - s then 1 else 2) else if dgB (y s) then (if 3 < rn (fun k => dgB (y k)) n s - s then 1 else 3) else 1) else 0
def tkE (y : Nat → Nat) (n s : Nat) : Nat := if s < n then (if y s = 59 then s + 1 else if ltB (y s) then rn (fun k => ltB (y k)) n s else if dgB (y s) then rn (fun k => dgB (y k)) n s else s) else s
def tkV (y : Nat → Nat) (n s : Nat) : Nat := digs y s (tkE y n s - s)
set_option maxRecDepth 100000 in
set_option maxHeartbeats 400000 in
theorem bv_32 : ∀ c, c < 256 → (byv c = nI 32 ↔ c = 32) := by decide +kernel
set_option maxRecDepth 100000 in
set_option maxHeartbeats 400000 in
theorem bv_59 : ∀ c, c < 256 → (byv c = nI 59 ↔ c = 59) := by decide +kernel
set_option maxRecDepth 100000 in
set_option maxHeartbeats 400000 in
theorem bv_97 : ∀ c, c < 256 → (byv c < nI 97 ↔ (c < 97 ∨ 128 ≤ c)) := by decide +kernel
set_option maxRecDepth 100000 in
set_option maxHeartbeats 400000 in
theorem bv_122 : ∀ c, c < 256 → (nI 122 < byv c ↔ (122 < c ∧ c < 128)) := by decide +kernel
set_option maxRecDepth 100000 in
set_option maxHeartbeats 400000 in
theorem bv_48 : ∀ c, c < 256 → (byv c < nI 48 ↔ (c < 48 ∨ 128 ≤ c)) := by decide +kernel
set_option maxRecDepth 100000 in
set_option maxHeartbeats 400000 in
theorem bv_57 : ∀ c, c < 256 → (nI 57 < byv c ↔ (57 < c ∧ c < 128)) := by decide +kernel
set_option maxRecDepth 100000 in
set_option maxHeartbeats 400000 in
theorem bv_n : ∀ c, c < 128 → byv c = nI c := by decide +kernel
section TKC
variable {S : Mem} {J : MeJ} {T : Nat → Nat} {y : Nat → Nat} {n : Nat}
set_option maxRecDepth 100000 in
set_option maxHeartbeats 400000 in
theorem c_isLet {c : Nat} (hc : c < 256) {h : aH} : gX8_isLetter (byv c) h = some (bI (ltB c), h) := by
  have h1 := bv_97 c hc
  have h2 := bv_122 c hc
  unfold gX8_isLetter fX8_isLetter_0
  rw [kB_97]
  by_cases z1 : c < 97 ∨ 128 ≤ c
  · rw [if_pos (h1.mpr z1)]
    have e : ltB c = false := decide_eq_false (by omega)
    rw [e]
    simp only [fX8_isLetter_16, fX8_isLetter_17, kI_0, n0_0, true_or, if_true, z0_z, ↓reduceIte, bI_f]
  · rw [if_neg (fun q => z1 (h1.mp q))]
    unfold fX8_isLetter_6
    rw [kB_122]
    by_cases z2 : 122 < c ∧ c < 128
    · rw [if_pos (h2.mpr z2)]
      have e : ltB c = false := decide_eq_false (by omega)
      rw [e]
      simp only [fX8_isLetter_16, fX8_isLetter_17, kI_0, n0_0, true_or, if_true, z0_z, ↓reduceIte, bI_f]
    · rw [if_neg (fun q => z2 (h2.mp q))]
      have e : ltB c = true := decide_eq_true (by omega)
      rw [e]
      simp only [fX8_isLetter_12, fX8_isLetter_17, kI_1, n1_0, n11, false_or, if_true, z1_z, ↓reduceIte, bI_t]
set_option maxRecDepth 100000 in
set_option maxHeartbeats 400000 in
theorem c_isDig {c : Nat} (hc : c < 256) {h : aH} : gX8_isDigit (byv c) h = some (bI (dgB c), h) := by
  have h1 := bv_48 c hc
  have h2 := bv_57 c hc
  unfold gX8_isDigit fX8_isDigit_0
  rw [kB_48]
  by_cases z1 : c < 48 ∨ 128 ≤ c
  · rw [if_pos (h1.mpr z1)]
    have e : dgB c = false := decide_eq_false (by omega)
    rw [e]
    simp only [fX8_isDigit_16, fX8_isDigit_17, kI_0, n0_0, true_or, if_true, z0_z, ↓reduceIte, bI_f]
  · rw [if_neg (fun q => z1 (h1.mp q))]
    unfold fX8_isDigit_6
    rw [kB_57]
    by_cases z2 : 57 < c ∧ c < 128
    · rw [if_pos (h2.mpr z2)]
      have e : dgB c = false := decide_eq_false (by omega)
      rw [e]
      simp only [fX8_isDigit_16, fX8_isDigit_17, kI_0, n0_0, true_or, if_true, z0_z, ↓reduceIte, bI_f]
    · rw [if_neg (fun q => z2 (h2.mp q))]
      have e : dgB c = true := decide_eq_true (by omega)
      rw [e]
      simp only [fX8_isDigit_12, fX8_isDigit_17, kI_1, n1_0, n11, false_or, if_true, z1_z, ↓reduceIte, bI_t]
end TKC
