-- ROWS: the memory's rows as functions; loops; answers
abbrev Row : Type := Nat → Int32
def up (R : Row) (i : Nat) (x : Int32) : Row := fun j => if j = i then x else R j
def stR (S : Mem) (b : Nat) (R : Row) : Mem := fun c => if c = b then R else S c
section R50
variable {S : Mem} {R Q : Row} {a b c i j : Nat} {x y : Int32}
set_option maxRecDepth 100000 in
set_option maxHeartbeats 4000000 in
theorem up_eq : up R i x i = x := if_pos rfl
set_option maxRecDepth 100000 in
set_option maxHeartbeats 4000000 in
theorem up_ne (h : j ≠ i) : up R i x j = R j := if_neg h
set_option maxRecDepth 100000 in
set_option maxHeartbeats 4000000 in
theorem up_up : up (up R i x) i y = up R i y := by
  funext j
  unfold up
  split <;> rfl
set_option maxRecDepth 100000 in
set_option maxHeartbeats 4000000 in
theorem up_sw (h : i ≠ j) : up (up (up R i x) j y) i x = up (up R i x) j y := by
  funext k
  unfold up
  by_cases h1 : k = i
  · rw [if_pos h1, if_neg (by omega), if_pos h1]
  · rw [if_neg h1]
set_option maxRecDepth 100000 in
set_option maxHeartbeats 4000000 in
theorem up_self : up R i (R i) = R := by
  funext j
  unfold up
  split
  · rename_i h; rw [h]
  · rfl
set_option maxRecDepth 100000 in
set_option maxHeartbeats 4000000 in
theorem stR_eq : stR S b R b = R := if_pos rfl
set_option maxRecDepth 100000 in
set_option maxHeartbeats 4000000 in
theorem stR_ne (h : c ≠ b) : stR S b R c = S c := if_neg h
set_option maxRecDepth 100000 in
set_option maxHeartbeats 4000000 in
theorem stS_R : stS S b i x = stR S b (up (S b) i x) := by
  funext c j
  unfold stS stR up
  by_cases h : c = b
  · subst h
    rw [if_pos rfl]
    by_cases h2 : j = i
    · rw [if_pos ⟨rfl, h2⟩, if_pos h2]
    · rw [if_neg (fun z => h2 z.2), if_neg h2]
  · rw [if_neg (fun z => h z.1), if_neg h]
set_option maxRecDepth 100000 in
set_option maxHeartbeats 4000000 in
theorem stR_stR : stR (stR S b R) b Q = stR S b Q := by
  funext c
  unfold stR
  split <;> rfl
set_option maxRecDepth 100000 in
set_option maxHeartbeats 4000000 in
theorem stR_self : stR S b (S b) = S := by
  funext c
  unfold stR
  split
  · rename_i h; rw [h]
  · rfl
set_option maxRecDepth 100000 in
set_option maxHeartbeats 4000000 in
theorem stR_sw {R' : Row} (h : a ≠ b) : stR (stR (stR S a R) b Q) a R' = stR (stR S a R') b Q := by
  funext c
  unfold stR
  by_cases h1 : c = a
  · rw [if_pos h1, if_neg (by omega), if_pos h1]
  · rw [if_neg h1, if_neg h1, if_neg h1]
set_option maxRecDepth 100000 in
set_option maxHeartbeats 4000000 in
theorem stR_cm {R' : Row} (h : a ≠ b) : stR (stR S a R) b R' = stR (stR S b R') a R := by
  funext c
  unfold stR
  by_cases h1 : c = a
  · rw [if_pos h1, if_neg (by omega), if_pos h1]
  · rw [if_neg h1, if_neg h1]
end R50
set_option maxRecDepth 100000 in
set_option maxHeartbeats 4000000 in
theorem FU_lt {n : Nat} (h : n < 40000) : n < FU := by rw [FU_eq]; exact h
-- answers
def oi (b : Option Nat) : Int32 := match b with
  | none => -2
  | some j => nI j
def bI (b : Bool) : Int32 := if b then nI 1 else nI 0
def m1 : Int32 := -1
def m100 : Int32 := -100
set_option maxRecDepth 100000 in
set_option maxHeartbeats 4000000 in
theorem kB_o : kB (-2) = oi none := by decide
set_option maxRecDepth 100000 in
set_option maxHeartbeats 4000000 in
theorem kI_n : kI (-1) = m1 := by decide
set_option maxRecDepth 100000 in
set_option maxHeartbeats 4000000 in
theorem kB_h : kB (-100) = m100 := by decide
set_option maxRecDepth 100000 in
set_option maxHeartbeats 4000000 in
theorem on_lt : (oi none < 0) = True := eq_true (by decide)
set_option maxRecDepth 100000 in
set_option maxHeartbeats 4000000 in
theorem mn_lt : (m1 < 0) = True := eq_true (by decide)
set_option maxRecDepth 100000 in
set_option maxHeartbeats 4000000 in
theorem oi_some (j : Nat) : oi (some j) = nI j := rfl
set_option maxRecDepth 100000 in
set_option maxHeartbeats 4000000 in
theorem nI_lt0 {j : Nat} (h : j < 5000) : (nI j < 0) = False := eq_false (not0 h)
set_option maxRecDepth 100000 in
set_option maxHeartbeats 4000000 in
theorem oi_lt {b : Option Nat} (h : ∀ j, b = some j → j < 5000) : (oi b < 0) = (b = none) := by
  cases b with
  | none => exact eq_true (by decide) |>.trans (eq_true rfl).symm
  | some j => rw [oi_some, nI_lt0 (h j rfl)]; exact (eq_false (fun z => by cases z)).symm
set_option maxRecDepth 100000 in
set_option maxHeartbeats 4000000 in
theorem lt_eq {a b : Nat} (ha : a < 5000) (hb : b < 5000) : (nI a < nI b) = (a < b) := propext (lt_iff ha hb)
set_option maxRecDepth 100000 in
set_option maxHeartbeats 4000000 in
theorem eq_eq {a b : Nat} (ha : a < 5000) (hb : b < 5000) : (nI a = nI b) = (a = b) := propext (eq_iff ha hb)
set_option maxRecDepth 100000 in
set_option maxHeartbeats 4000000 in
theorem eq0 {a : Nat} (ha : a < 5000) : (nI a = 0) = (a = 0) := by rw [show (0 : Int32) = nI 0 from rfl]; exact eq_eq ha (by omega)
set_option maxRecDepth 100000 in
set_option maxHeartbeats 4000000 in
theorem bI_0 (b : Bool) : (bI b = 0) = (b = false) := by cases b <;> exact propext (by decide)
set_option maxRecDepth 100000 in
set_option maxHeartbeats 4000000 in
theorem bI_1 (b : Bool) : (bI b = 1) = (b = true) := by cases b <;> exact propext (by decide)
set_option maxRecDepth 100000 in
set_option maxHeartbeats 4000000 in
theorem bI_z (b : Bool) : (bI b = 0 ∨ bI b = 1) = True := by cases b <;> exact eq_true (by decide)
set_option maxRecDepth 100000 in
set_option maxHeartbeats 4000000 in
theorem z1_z : (nI 1 = 0 ∨ nI 1 = 1) = True := eq_true (by decide)
set_option maxRecDepth 100000 in
set_option maxHeartbeats 4000000 in
theorem z0_z : (nI 0 = 0 ∨ nI 0 = 1) = True := eq_true (by decide)
set_option maxRecDepth 100000 in
set_option maxHeartbeats 4000000 in
theorem n1_0 : (nI 1 = 0) = False := eq_false (by decide)
set_option maxRecDepth 100000 in
set_option maxHeartbeats 4000000 in
theorem n0_0 : (nI 0 = 0) = True := eq_true (by decide)
set_option maxRecDepth 100000 in
set_option maxHeartbeats 4000000 in
theorem bI_t : bI true = nI 1 := rfl
set_option maxRecDepth 100000 in
set_option maxHeartbeats 4000000 in
theorem bI_f : bI false = nI 0 := rfl
-- bits
def bt (x : Int32) (p : Nat) : Bool := decide ((x >>> (nI p &&& 31)) &&& nI 1 = nI 1)
set_option maxRecDepth 100000 in
set_option maxHeartbeats 4000000 in
theorem bt_eq (x : Int32) (p : Nat) : ((x >>> (nI p &&& 31)) &&& nI 1 = nI 1) = (bt x p = true) := by unfold bt; rw [decide_eq_true_eq]
-- the first best
def ams1 (lt : Nat → Nat → Bool) (k : Nat) : Option Nat → Option Nat
  | none => some k
  | some j => if lt j k then some k else some j
def ams (lt : Nat → Nat → Bool) (l : Nat → Bool) (k : Nat) (b : Option Nat) : Option Nat := if l k then ams1 lt k b else b
def am (lt : Nat → Nat → Bool) (l : Nat → Bool) : Nat → Nat → Option Nat → Option Nat
  | 0, _, b => b
  | n + 1, k, b => am lt l n (k + 1) (ams lt l k b)
set_option maxRecDepth 100000 in
set_option maxHeartbeats 4000000 in
theorem ams_lt {lt : Nat → Nat → Bool} {l : Nat → Bool} {k : Nat} {b : Option Nat} (h : ∀ j, b = some j → j < k) : ∀ i, ams lt l k b = some i → i < k + 1 := by
  intro i hi
  unfold ams at hi
  cases hl : l k with
  | false => rw [hl] at hi; have := h i hi; omega
  | true =>
    rw [hl, if_pos rfl] at hi
    cases b with
    | none => cases hi; omega
    | some j0 =>
      have := h j0 rfl
      simp only [ams1] at hi
      split at hi <;> (have := Option.some.inj hi; omega)
set_option maxRecDepth 100000 in
set_option maxHeartbeats 4000000 in
theorem ams_f {lt : Nat → Nat → Bool} {l : Nat → Bool} {k : Nat} {b : Option Nat} (h : l k = false) : ams lt l k b = b := by unfold ams; rw [h]; rfl
set_option maxRecDepth 100000 in
set_option maxHeartbeats 4000000 in
theorem ams_n {lt : Nat → Nat → Bool} {l : Nat → Bool} {k : Nat} (h : l k = true) : ams lt l k none = some k := by unfold ams; rw [h]; rfl
set_option maxRecDepth 100000 in
set_option maxHeartbeats 4000000 in
theorem ams_t {lt : Nat → Nat → Bool} {l : Nat → Bool} {k j : Nat} (h : l k = true) (h2 : lt j k = true) : ams lt l k (some j) = some k := by simp only [ams, ams1, h, h2, if_true]
set_option maxRecDepth 100000 in
set_option maxHeartbeats 4000000 in
theorem ams_e {lt : Nat → Nat → Bool} {l : Nat → Bool} {k j : Nat} (h : l k = true) (h2 : lt j k = false) : ams lt l k (some j) = some j := by simp only [ams, ams1, h, h2, if_true, Bool.false_eq_true, if_false]
set_option maxRecDepth 100000 in
set_option maxHeartbeats 4000000 in
theorem dN {p : Prop} [Decidable p] (h : p) : (!decide p) = false := by rw [decide_eq_true h]; rfl
set_option maxRecDepth 100000 in
set_option maxHeartbeats 4000000 in
theorem dY {p : Prop} [Decidable p] (h : ¬ p) : (!decide p) = true := by rw [decide_eq_false h]; rfl
set_option maxRecDepth 100000 in
set_option maxHeartbeats 4000000 in
theorem am_lt {lt : Nat → Nat → Bool} {l : Nat → Bool} : ∀ {n k : Nat} {b : Option Nat}, (∀ j, b = some j → j < k) → ∀ j, am lt l n k b = some j → j < k + n := by
  intro n
  induction n with
  | zero => intro k b h j q; exact h j q
  | succ n ih =>
    intro k b h j q
    have := ih (ams_lt h) j q
    omega
set_option maxRecDepth 100000 in
set_option maxHeartbeats 4000000 in
theorem am_cg {lt lt' : Nat → Nat → Bool} {l l' : Nat → Bool} : ∀ {n k : Nat} {b : Option Nat}, (∀ j, b = some j → j < k) → (∀ i, k ≤ i → i < k + n → l i = l' i) → (∀ i j, i < j → j < k + n → l j = true → lt i j = lt' i j) → am lt l n k b = am lt' l' n k b := by
  intro n
  induction n with
  | zero => intro k b _ _ _; rfl
  | succ n ih =>
    intro k b h hl ht
    have e : ams lt l k b = ams lt' l' k b := by
      unfold ams
      rw [← hl k (Nat.le_refl _) (by omega)]
      cases hk : l k with
      | false => rfl
      | true =>
        cases b with
        | none => rfl
        | some j => simp only [if_true, ams1]; rw [ht j k (h j rfl) (by omega) hk]
    unfold am
    rw [← e]
    exact ih (ams_lt h) (fun i h1 h2 => hl i (by omega) (by omega)) (fun i j h1 h2 h3 => ht i j h1 (by omega) h3)
-- loops
def itr {σ : Type} (f : Nat → σ → σ) : Nat → Nat → σ → σ
  | 0, _, s => s
  | n + 1, k, s => itr f n (k + 1) (f k s)
-- the reference's rows
def rwA (w : Nat) : Prop := SH[w]? = some (.inl (0, w, 0, 1, 22))
set_option maxRecDepth 100000 in
set_option maxHeartbeats 4000000 in
theorem rwA_172 : rwA 172 := rfl
set_option maxRecDepth 100000 in
set_option maxHeartbeats 4000000 in
theorem rwA_173 : rwA 173 := rfl
set_option maxRecDepth 100000 in
set_option maxHeartbeats 4000000 in
theorem rwA_174 : rwA 174 := rfl
set_option maxRecDepth 100000 in
set_option maxHeartbeats 4000000 in
theorem rwA_175 : rwA 175 := rfl
section RW
variable {S : Mem} {J : MeJ} {T : Nat → Nat} {w i : Nat} {x : Int32}
set_option maxRecDepth 100000 in
set_option maxHeartbeats 4000000 in
theorem rw_r (h : rwA w) (hi : i < 22) : aRI ((hp S J T)[w]?) (nI i) = some (S w i) := hp_aRI h hi (by omega) (by omega)
set_option maxRecDepth 100000 in
set_option maxHeartbeats 4000000 in
theorem rw_w (h : rwA w) (hi : i < 22) : aWI (hp S J T) w (nI i) x = some (hp (stS S w i x) J T) := hp_aWI h (by omega) hi (by omega) (by omega)
end RW
