-- ROWS: the memory's rows as functions; loops; answers
abbrev Row : Type := Nat → Int32
def up (R : Row) (i : Nat) (x : Int32) : Row := fun j => if j = i then x else R j
def stR (S : Mem) (b : Nat) (R : Row) : Mem := fun c => if c = b then R else S c
section R50
variable {S : Mem} {R Q : Row} {a b c i j : Nat} {x y : Int32}
set_option maxRecDepth 100000 in
set_option maxHeartbeats 4000000 in
theorem up_eq : up R i x i = x := if_pos rfl
set_option maxRecDepth 100000 in
set_option maxHeartbeats 4000000 in
theorem up_ne (h : j ≠ i) : up R i x j = R j := if_neg h
set_option maxRecDepth 100000 in
set_option maxHeartbeats 4000000 in
theorem up_up : up (up R i x) i y = up R i y := by
  funext j
  unfold up
  split <;> rfl
set_option maxRecDepth 100000 in
set_option maxHeartbeats 4000000 in
theorem up_sw (h : i ≠ j) : up (up (up R i x) j y) i x = up (up R i x) j y := by
  funext k
  unfold up
  by_cases h1 : k = i
  · rw [if_pos h1, if_neg (by omega), if_pos h1]
  · rw [if_neg h1]
set_option maxRecDepth 100000 in
set_option maxHeartbeats 4000000 in
theorem up_self : up R i (R i) = R := by
  funext j
  unfold up
  split
  · rename_i h; rw [h]
  · rfl
set_option maxRecDepth 100000 in
set_option maxHeartbeats 4000000 in
theorem stR_eq : stR S b R b = R := if_pos rfl
set_option maxRecDepth 100000 in
set_option maxHeartbeats 4000000 in
theorem stR_ne (h : c ≠ b) : stR S b R c = S c := if_neg h
set_option maxRecDepth 100000 in
set_option maxHeartbeats 4000000 in
theorem stS_R : stS S b i x = stR S b (up (S b) i x) := by
  funext c j
  unfold stS stR up
  by_cases h : c = b
  · subst h
    rw [if_pos rfl]
    by_cases h2 : j = i
    · rw [if_pos ⟨rfl, h2⟩, if_pos h2]
    · rw [if_neg (fun z => h2 z.2), if_neg h2]
  · rw [if_neg (fun z => h z.1), if_neg h]
set_option maxRecDepth 100000 in
set_option maxHeartbeats 4000000 in
theorem stR_stR : stR (stR S b R) b Q = stR S b Q := by
  funext c
  unfold stR
  split <;> rfl
set_option maxRecDepth 100000 in
set_option maxHeartbeats 4000000 in
theorem stR_self : stR S b (S b) = S := by
  funext c
  unfold stR
  split
  · rename_i h; rw [h]
  · rfl
set_option maxRecDepth 100000 in
set_option maxHeartbeats 4000000 in
theorem stR_sw {R' : Row} (h : a ≠ b) : stR (stR (stR S a R) b Q) a R' = stR (stR S a R') b Q := by
  funext c
  unfold stR
  by_cases h1 : c = a
  · rw [if_pos h1, if_neg (by omega), if_pos h1]
  · rw [if_neg h1, if_neg h1, if_neg h1]
set_option maxRecDepth 100000 in
set_option maxHeartbeats 4000000 in
theorem stR_cm {R' : Row} (h : a ≠ b) : stR (stR S a R) b R' = stR (stR S b R') a R := by
  funext c
  unfold stR
  by_cases h1 : c = a
  · rw [if_pos h1, if_neg (by omega), if_pos h1]
  · rw [if_neg h1, if_neg h1]
end R50
set_option maxRecDepth 100000 in
set_option maxHeartbeats 4000000 in
theorem FU_lt {n : Nat} (h : n < 40000) : n < FU := by rw [FU_eq]; exact h
set_option maxRecDepth 100000 in
set_option maxHeartbeats 4000000 in
theorem n35 (k : Nat) : 35 + 2 * k + 1 = 36 + 2 * k := by omega
set_option maxRecDepth 100000 in
set_option maxHeartbeats 4000000 in
theorem n9 (k : Nat) : 9 + 2 * k + 1 = 10 + 2 * k := by omega
set_option maxRecDepth 100000 in
set_option maxHeartbeats 4000000 in
theorem n19 (k : Nat) : 19 + 2 * k + 1 = 20 + 2 * k := by omega
set_option maxRecDepth 100000 in
set_option maxHeartbeats 4000000 in
theorem n51 (k : Nat) : 51 + 2 * k + 1 = 52 + 2 * k := by omega
set_option maxRecDepth 100000 in
set_option maxHeartbeats 4000000 in
theorem n59 (k : Nat) : 59 + 2 * k + 1 = 60 + 2 * k := by omega
set_option maxRecDepth 100000 in
set_option maxHeartbeats 4000000 in
theorem kc0 : kI 0 = nI 0 := by decide
set_option maxRecDepth 100000 in
set_option maxHeartbeats 4000000 in
theorem kc1 : kI 1 = nI 1 := by decide
set_option maxRecDepth 100000 in
set_option maxHeartbeats 4000000 in
theorem kc2 : kI 2 = nI 2 := by decide
set_option maxRecDepth 100000 in
set_option maxHeartbeats 4000000 in
theorem kc3 : kI 3 = nI 3 := by decide
set_option maxRecDepth 100000 in
set_option maxHeartbeats 4000000 in
theorem kc4 : kI 4 = nI 4 := by decide
set_option maxRecDepth 100000 in
set_option maxHeartbeats 4000000 in
theorem kc5 : kI 5 = nI 5 := by decide
set_option maxRecDepth 100000 in
set_option maxHeartbeats 4000000 in
theorem kc6 : kI 6 = nI 6 := by decide
set_option maxRecDepth 100000 in
set_option maxHeartbeats 4000000 in
theorem kc7 : kI 7 = nI 7 := by decide
set_option maxRecDepth 100000 in
set_option maxHeartbeats 4000000 in
theorem kc8 : kI 8 = nI 8 := by decide
set_option maxRecDepth 100000 in
set_option maxHeartbeats 4000000 in
theorem kc9 : kI 9 = nI 9 := by decide
set_option maxRecDepth 100000 in
set_option maxHeartbeats 4000000 in
theorem kc10 : kI 10 = nI 10 := by decide
set_option maxRecDepth 100000 in
set_option maxHeartbeats 4000000 in
theorem kc11 : kI 11 = nI 11 := by decide
-- answers
def oi (b : Option Nat) : Int32 := match b with
  | none => -2
  | some j => nI j
def bI (b : Bool) : Int32 := if b then nI 1 else nI 0
def m1 : Int32 := -1
def m100 : Int32 := -100
set_option maxRecDepth 100000 in
set_option maxHeartbeats 4000000 in
theorem kB_o : kB (-2) = oi none := by decide
set_option maxRecDepth 100000 in
set_option maxHeartbeats 4000000 in
theorem kI_n : kI (-1) = m1 := by decide
set_option maxRecDepth 100000 in
set_option maxHeartbeats 4000000 in
theorem kB_h : kB (-100) = m100 := by decide
set_option maxRecDepth 100000 in
set_option maxHeartbeats 4000000 in
theorem on_lt : (oi none < 0) = True := eq_true (by decide)
set_option maxRecDepth 100000 in
set_option maxHeartbeats 4000000 in
theorem mn_lt : (m1 < 0) = True := eq_true (by decide)
set_option maxRecDepth 100000 in
set_option maxHeartbeats 4000000 in
theorem oi_some (j : Nat) : oi (some j) = nI j := rfl
set_option maxRecDepth 100000 in
set_option maxHeartbeats 4000000 in
theorem nI_lt0 {j : Nat} (h : j < 5000) : (nI j < 0) = False := eq_false (not0 h)
set_option maxRecDepth 100000 in
set_option maxHeartbeats 4000000 in
theorem oi_lt {b : Option Nat} (h : ∀ j, b = some j → j < 5000) : (oi b < 0) = (b = none) := by
  cases b with
  | none => exact eq_true (by decide) |>.trans (eq_true rfl).symm
  | some j => rw [oi_some, nI_lt0 (h j rfl)]; exact (eq_false (fun z => by cases z)).symm
set_option maxRecDepth 100000 in
set_option maxHeartbeats 4000000 in
theorem lt_eq {a b : Nat} (ha : a < 5000) (hb : b < 5000) : (nI a < nI b) = (a < b) := propext (lt_iff ha hb)
set_option maxRecDepth 100000 in
set_option maxHeartbeats 4000000 in
theorem eq_eq {a b : Nat} (ha : a < 5000) (hb : b < 5000) : (nI a = nI b) = (a = b) := propext (eq_iff ha hb)
set_option maxRecDepth 100000 in
set_option maxHeartbeats 4000000 in
theorem eq0 {a : Nat} (ha : a < 5000) : (nI a = 0) = (a = 0) := by rw [show (0 : Int32) = nI 0 from rfl]; exact eq_eq ha (by omega)
set_option maxRecDepth 100000 in
set_option maxHeartbeats 4000000 in
theorem bI_0 (b : Bool) : (bI b = 0) = (b = false) := by cases b <;> exact propext (by decide)
set_option maxRecDepth 100000 in
set_option maxHeartbeats 4000000 in
theorem bI_1 (b : Bool) : (bI b = 1) = (b = true) := by cases b <;> exact propext (by decide)
set_option maxRecDepth 100000 in
set_option maxHeartbeats 4000000 in
theorem bI_z (b : Bool) : (bI b = 0 ∨ bI b = 1) = True := by cases b <;> exact eq_true (by decide)
set_option maxRecDepth 100000 in
set_option maxHeartbeats 4000000 in
theorem z1_z : (nI 1 = 0 ∨ nI 1 = 1) = True := eq_true (by decide)
set_option maxRecDepth 100000 in
set_option maxHeartbeats 4000000 in
theorem z0_z : (nI 0 = 0 ∨ nI 0 = 1) = True := eq_true (by decide)
set_option maxRecDepth 100000 in
set_option maxHeartbeats 4000000 in
theorem n1_0 : (nI 1 = 0) = False := eq_false (by decide)
set_option maxRecDepth 100000 in
set_option maxHeartbeats 4000000 in
theorem n0_0 : (nI 0 = 0) = True := eq_true (by decide)
set_option maxRecDepth 100000 in
set_option maxHeartbeats 4000000 in
theorem bI_t : bI true = nI 1 := rfl
set_option maxRecDepth 100000 in
set_option maxHeartbeats 4000000 in
theorem bI_f : bI false = nI 0 := rfl
-- bits (these rows begin with kit/laws/BITS)
def bt (x : Int32) (i : Nat) : Bool := x.toBitVec.getLsbD i
set_option maxRecDepth 100000 in
set_option maxHeartbeats 4000000 in
theorem b_ext {x y : Int32} (h : ∀ i, i < 32 → bt x i = bt y i) : x = y := Int32.toBitVec_inj.mp (BitVec.eq_of_getLsbD_eq (fun i hi => h i hi))
set_option maxRecDepth 100000 in
set_option maxHeartbeats 4000000 in
theorem b_or (x y : Int32) (i : Nat) : bt (x ||| y) i = (bt x i || bt y i) := by unfold bt; rw [Int32.toBitVec_or, BitVec.getLsbD_or]
set_option maxRecDepth 100000 in
set_option maxHeartbeats 4000000 in
theorem b_and (x y : Int32) (i : Nat) : bt (x &&& y) i = (bt x i && bt y i) := by unfold bt; rw [Int32.toBitVec_and, BitVec.getLsbD_and]
set_option maxRecDepth 100000 in
set_option maxHeartbeats 4000000 in
theorem b_xor (x y : Int32) (i : Nat) : bt (x ^^^ y) i = (bt x i ^^ bt y i) := by unfold bt; rw [Int32.toBitVec_xor, BitVec.getLsbD_xor]
set_option maxRecDepth 100000 in
set_option maxHeartbeats 4000000 in
theorem s_l : ∀ n, n < 32 → ((nI n &&& 31).toBitVec.smod 32).toNat = n := by decide +kernel
set_option maxRecDepth 100000 in
set_option maxHeartbeats 4000000 in
theorem b_shl (n : Nat) (hn : n < 32) (x : Int32) {i : Nat} (hi : i < 32) : bt (x <<< (nI n &&& 31)) i = (decide (n ≤ i) && bt x (i - n)) := by
  unfold bt
  rw [Int32.toBitVec_shiftLeft, BitVec.shiftLeft_eq', s_l n hn, BitVec.getLsbD_shiftLeft]
  by_cases h : n ≤ i
  · simp [hi, h, Nat.not_lt.mpr h]
  · simp [hi, h, Nat.lt_of_not_le h]
set_option maxRecDepth 100000 in
set_option maxHeartbeats 4000000 in
theorem b_sshr (n : Nat) (hn : n < 32) (x : Int32) {i : Nat} (hi : i < 32) : bt (x >>> (nI n &&& 31)) i = if n + i < 32 then bt x (n + i) else bt x 31 := by
  unfold bt
  rw [Int32.toBitVec_shiftRight, BitVec.sshiftRight', s_l n hn, BitVec.getLsbD_sshiftRight]
  by_cases h : n + i < 32
  · simp [hi, h, Nat.not_le.mpr hi]
  · simp [hi, h, Nat.not_le.mpr hi, BitVec.msb_eq_getLsbD_last]
set_option maxRecDepth 100000 in
set_option maxHeartbeats 4000000 in
theorem b_1 : ∀ i, i < 32 → bt (nI 1) i = decide (i = 0) := by decide +kernel
set_option maxRecDepth 100000 in
set_option maxHeartbeats 4000000 in
theorem bt_eq {x : Int32} {p : Nat} (hp : p < 32) : ((x >>> (nI p &&& 31)) &&& nI 1 = nI 1) = (bt x p = true) := by
  refine propext ⟨fun h => ?_, fun h => b_ext (fun i hi => ?_)⟩
  · have h0 := congrArg (bt · 0) h
    simp only [b_and, b_1 0 (by omega), b_sshr p hp x (i := 0) (by omega)] at h0
    simpa [hp] using h0
  · rw [b_and, b_1 i hi, b_sshr p hp x hi]
    by_cases h0 : i = 0
    · subst h0; simp [hp, h]
    · simp [h0]
set_option maxRecDepth 100000 in
set_option maxHeartbeats 4000000 in
theorem b_0 (i : Nat) : bt (nI 0) i = false := BitVec.getLsbD_zero
set_option maxRecDepth 100000 in
set_option maxHeartbeats 4000000 in
theorem or0 (x : Int32) : x ||| nI 0 = x := b_ext (fun i hi => by rw [b_or, b_0, Bool.or_false])
set_option maxRecDepth 100000 in
set_option maxHeartbeats 4000000 in
theorem or_as (x y z : Int32) : x ||| y ||| z = x ||| (y ||| z) := b_ext (fun i hi => by rw [b_or, b_or, b_or, b_or, Bool.or_assoc])
set_option maxRecDepth 100000 in
set_option maxHeartbeats 4000000 in
theorem add0 (x : Int32) : x + nI 0 = x := Int32.add_zero x
set_option maxRecDepth 100000 in
set_option maxHeartbeats 4000000 in
theorem b_sh (n : Nat) (hn : n < 32) {i : Nat} (hi : i < 32) : bt (nI 1 <<< (nI n &&& 31)) i = decide (i = n) := by
  rw [b_shl n hn _ hi]
  by_cases h : n ≤ i
  · rw [b_1 (i - n) (by omega)]
    by_cases h2 : i = n
    · subst h2; simp
    · have : ¬ i - n = 0 := by omega
      simp [h, h2, this]
  · have h2 : ¬ i = n := by omega
    simp [h, h2]
-- loops
def itr {σ : Type} (f : Nat → σ → σ) : Nat → Nat → σ → σ
  | 0, _, s => s
  | n + 1, k, s => itr f n (k + 1) (f k s)
set_option maxRecDepth 100000 in
set_option maxHeartbeats 4000000 in
theorem for_loop {σ α κ : Type} (l : Nat → κ) (F : κ → κ) (hl : ∀ n, l (n + 1) = F (l n)) (ap : κ → Nat → σ → Option α) (I : Nat → σ → Prop) (N : Nat) (nx : Nat → σ → σ) (res : σ → Option α)
    (hs : ∀ K k s, k < N → I k s → ap (F K) k s = ap K (k + 1) (nx k s)) (hI : ∀ k s, k < N → I k s → I (k + 1) (nx k s)) (he : ∀ K s, I N s → ap (F K) N s = res s) : ∀ n k f s, k + n = N → n < f → I k s → ap (l f) k s = res (itr nx n k s) := by
  intro n
  induction n with
  | zero =>
    intro k f s hk hf hi
    obtain ⟨f, rfl⟩ : ∃ g, f = g + 1 := ⟨f - 1, by omega⟩
    obtain rfl : k = N := by omega
    rw [hl]
    exact he _ s hi
  | succ n ih =>
    intro k f s hk hf hi
    obtain ⟨f, rfl⟩ : ∃ g, f = g + 1 := ⟨f - 1, by omega⟩
    rw [hl, hs _ k s (by omega) hi]
    exact ih (k + 1) f _ (by omega) (by omega) (hI k s (by omega) hi)
set_option maxRecDepth 100000 in
set_option maxHeartbeats 4000000 in
theorem itr_inv {σ : Type} {f : Nat → σ → σ} {I : Nat → σ → Prop} {N : Nat} (hI : ∀ k s, k < N → I k s → I (k + 1) (f k s)) : ∀ n k s, k + n = N → I k s → I N (itr f n k s) := by
  intro n
  induction n with
  | zero => intro k s hk hi; obtain rfl : k = N := by omega
            exact hi
  | succ n ih => intro k s hk hi; exact ih (k + 1) _ (by omega) (hI k s (by omega) hi)
-- a loop whose state at k is known
set_option maxRecDepth 100000 in
set_option maxHeartbeats 4000000 in
theorem for_at {σ α κ : Type} (l : Nat → κ) (F : κ → κ) (hl : ∀ n, l (n + 1) = F (l n)) (ap : κ → Nat → σ → Option α) (N : Nat) (at_ : Nat → σ) (res : Option α)
    (hs : ∀ K k, k < N → ap (F K) k (at_ k) = ap K (k + 1) (at_ (k + 1))) (he : ∀ K, ap (F K) N (at_ N) = res) {f : Nat} (hf : N < f) : ap (l f) 0 (at_ 0) = res := by
  have h : ∀ n k f, k + n = N → n < f → ap (l f) k (at_ k) = res := by
    intro n
    induction n with
    | zero =>
      intro k f hk hf
      obtain ⟨f, rfl⟩ : ∃ g, f = g + 1 := ⟨f - 1, by omega⟩
      obtain rfl : k = N := by omega
      rw [hl]
      exact he _
    | succ n ih =>
      intro k f hk hf
      obtain ⟨f, rfl⟩ : ∃ g, f = g + 1 := ⟨f - 1, by omega⟩
      rw [hl, hs _ k (by omega)]
      exact ih (k + 1) f (by omega) (by omega)
  exact h N 0 f (by omega) hf
-- a loop that may end early: at k with what is known there
def itb {σ ρ : Type} (g : Nat → σ → σ ⊕ ρ) : Nat → Nat → σ → σ ⊕ ρ
  | 0, _, s => .inl s
  | n + 1, k, s => match g k s with
    | .inl s' => itb g n (k + 1) s'
    | .inr r => .inr r
set_option maxRecDepth 100000 in
set_option maxHeartbeats 4000000 in
theorem for_brk {σ α κ ρ : Type} (l : Nat → κ) (F : κ → κ) (hl : ∀ n, l (n + 1) = F (l n)) (ap : κ → Nat → σ → Option α) (I : Nat → σ → Prop) (N : Nat) (nx : Nat → σ → σ ⊕ ρ) (res : σ → Option α) (brk : ρ → Option α)
    (hs : ∀ K k s s', k < N → I k s → nx k s = .inl s' → ap (F K) k s = ap K (k + 1) s' ∧ I (k + 1) s') (hb : ∀ K k s r, k < N → I k s → nx k s = .inr r → ap (F K) k s = brk r) (he : ∀ K s, I N s → ap (F K) N s = res s) : ∀ n k f s, k + n = N → n < f → I k s → ap (l f) k s = (match itb nx n k s with
      | .inl s' => res s'
      | .inr r => brk r) := by
  intro n
  induction n with
  | zero =>
    intro k f s hk hf hi
    obtain ⟨f, rfl⟩ : ∃ g, f = g + 1 := ⟨f - 1, by omega⟩
    obtain rfl : k = N := by omega
    rw [hl]
    exact he _ s hi
  | succ n ih =>
    intro k f s hk hf hi
    obtain ⟨f, rfl⟩ : ∃ g, f = g + 1 := ⟨f - 1, by omega⟩
    rw [hl]
    cases hx : nx k s with
    | inl s' =>
      obtain ⟨h1, h2⟩ := hs (l f) k s s' (by omega) hi hx
      rw [h1, ih (k + 1) f s' (by omega) (by omega) h2]
      simp only [itb, hx]
    | inr r =>
      rw [hb (l f) k s r (by omega) hi hx]
      simp only [itb, hx]
-- the first best
def ams1 (lt : Nat → Nat → Bool) (k : Nat) : Option Nat → Option Nat
  | none => some k
  | some j => if lt j k then some k else some j
def ams (lt : Nat → Nat → Bool) (l : Nat → Bool) (k : Nat) (b : Option Nat) : Option Nat := if l k then ams1 lt k b else b
def am (lt : Nat → Nat → Bool) (l : Nat → Bool) : Nat → Nat → Option Nat → Option Nat := itr (ams lt l)
set_option maxRecDepth 100000 in
set_option maxHeartbeats 4000000 in
theorem ams_lt {lt : Nat → Nat → Bool} {l : Nat → Bool} {k : Nat} {b : Option Nat} (h : ∀ j, b = some j → j < k) : ∀ i, ams lt l k b = some i → i < k + 1 := by
  intro i hi
  unfold ams at hi
  cases hl : l k with
  | false => rw [hl] at hi; have := h i hi; omega
  | true =>
    rw [hl, if_pos rfl] at hi
    cases b with
    | none => cases hi; omega
    | some j0 =>
      have := h j0 rfl
      simp only [ams1] at hi
      split at hi <;> (have := Option.some.inj hi; omega)
set_option maxRecDepth 100000 in
set_option maxHeartbeats 4000000 in
theorem ams_f {lt : Nat → Nat → Bool} {l : Nat → Bool} {k : Nat} {b : Option Nat} (h : l k = false) : ams lt l k b = b := by unfold ams; rw [h]; rfl
set_option maxRecDepth 100000 in
set_option maxHeartbeats 4000000 in
theorem ams_n {lt : Nat → Nat → Bool} {l : Nat → Bool} {k : Nat} (h : l k = true) : ams lt l k none = some k := by unfold ams; rw [h]; rfl
set_option maxRecDepth 100000 in
set_option maxHeartbeats 4000000 in
theorem ams_t {lt : Nat → Nat → Bool} {l : Nat → Bool} {k j : Nat} (h : l k = true) (h2 : lt j k = true) : ams lt l k (some j) = some k := by simp only [ams, ams1, h, h2, if_true]
set_option maxRecDepth 100000 in
set_option maxHeartbeats 4000000 in
theorem ams_e {lt : Nat → Nat → Bool} {l : Nat → Bool} {k j : Nat} (h : l k = true) (h2 : lt j k = false) : ams lt l k (some j) = some j := by simp only [ams, ams1, h, h2, if_true, Bool.false_eq_true, if_false]
set_option maxRecDepth 100000 in
set_option maxHeartbeats 4000000 in
theorem dN {p : Prop} [Decidable p] (h : p) : (!decide p) = false := by rw [decide_eq_true h]; rfl
set_option maxRecDepth 100000 in
set_option maxHeartbeats 4000000 in
theorem dY {p : Prop} [Decidable p] (h : ¬ p) : (!decide p) = true := by rw [decide_eq_false h]; rfl
set_option maxRecDepth 100000 in
set_option maxHeartbeats 4000000 in
theorem am_lt {lt : Nat → Nat → Bool} {l : Nat → Bool} : ∀ {n k : Nat} {b : Option Nat}, (∀ j, b = some j → j < k) → ∀ j, am lt l n k b = some j → j < k + n := by
  intro n
  induction n with
  | zero => intro k b h j q; exact h j q
  | succ n ih =>
    intro k b h j q
    have := ih (ams_lt h) j q
    omega
set_option maxRecDepth 100000 in
set_option maxHeartbeats 4000000 in
theorem am_cg {lt lt' : Nat → Nat → Bool} {l l' : Nat → Bool} : ∀ {n k : Nat} {b : Option Nat}, (∀ j, b = some j → j < k) → (∀ i, k ≤ i → i < k + n → l i = l' i) → (∀ i j, i < j → j < k + n → l j = true → lt i j = lt' i j) → am lt l n k b = am lt' l' n k b := by
  intro n
  induction n with
  | zero => intro k b _ _ _; rfl
  | succ n ih =>
    intro k b h hl ht
    have e : ams lt l k b = ams lt' l' k b := by
      unfold ams
      rw [← hl k (Nat.le_refl _) (by omega)]
      cases hk : l k with
      | false => rfl
      | true =>
        cases b with
        | none => rfl
        | some j => simp only [if_true, ams1]; rw [ht j k (h j rfl) (by omega) hk]
    show am lt l n (k + 1) (ams lt l k b) = am lt' l' n (k + 1) (ams lt' l' k b)
    rw [← e]
    exact ih (ams_lt h) (fun i h1 h2 => hl i (by omega) (by omega)) (fun i j h1 h2 h3 => ht i j h1 (by omega) h3)
-- the reference's rows
def rwA (w : Nat) : Prop := SH[w]? = some (.inl (0, w, 0, 1, 22))
set_option maxRecDepth 100000 in
set_option maxHeartbeats 4000000 in
theorem rwA_172 : rwA 172 := rfl
set_option maxRecDepth 100000 in
set_option maxHeartbeats 4000000 in
theorem rwA_173 : rwA 173 := rfl
set_option maxRecDepth 100000 in
set_option maxHeartbeats 4000000 in
theorem rwA_174 : rwA 174 := rfl
set_option maxRecDepth 100000 in
set_option maxHeartbeats 4000000 in
theorem rwA_175 : rwA 175 := rfl
section RW
variable {S : Mem} {J : MeJ} {T : Nat → Nat} {w i : Nat} {x : Int32}
set_option maxRecDepth 100000 in
set_option maxHeartbeats 4000000 in
theorem rw_r (h : rwA w) (hi : i < 22) : aRI ((hp S J T)[w]?) (nI i) = some (S w i) := hp_aRI h hi (by omega) (by omega)
set_option maxRecDepth 100000 in
set_option maxHeartbeats 4000000 in
theorem rw_w (h : rwA w) (hi : i < 22) : aWI (hp S J T) w (nI i) x = some (hp (stS S w i x) J T) := hp_aWI h (by omega) hi (by omega) (by omega)
end RW
