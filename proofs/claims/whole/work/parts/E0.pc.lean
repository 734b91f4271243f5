-- HOW MANY
def pcB (x : Int32) : Nat → Nat
  | 0 => 0
  | i + 1 => pcB x i + cond (bt x i) 1 0
def pc (k : Nat) : Nat := pcB (nI k) 15
set_option maxRecDepth 100000 in
set_option maxHeartbeats 400000 in
theorem pcB_le (x : Int32) : ∀ i, pcB x i ≤ i := by
  intro i
  induction i with
  | zero => exact Nat.le_refl _
  | succ i ih =>
    show pcB x i + cond (bt x i) 1 0 ≤ i + 1
    cases bt x i
    · show pcB x i + 0 ≤ i + 1; omega
    · show pcB x i + 1 ≤ i + 1; omega
set_option maxRecDepth 100000 in
set_option maxHeartbeats 400000 in
theorem pc_le (k : Nat) : pc k ≤ 15 := pcB_le _ 15
set_option maxRecDepth 100000 in
set_option maxHeartbeats 400000 in
theorem c_ones {k : Nat} {h : aH} : gX11_ones (nI k) h = some (nI (pc k), h) := by
  unfold gX11_ones fX11_ones_0
  rw [kI_0]
  refine for_at lX11_ones_4 fX11_ones_4 (fun _ => rfl) (fun K i (y : Int32) => K (nI k) y (nI i) h) 15 (fun i => nI (pcB (nI k) i)) _ (fun K i hi => ?_) (fun K => ?_) (FU_lt (by omega))
  · have e : nI (pcB (nI k) i) + ((nI k >>> (nI i &&& 31)) &&& nI 1) = nI (pcB (nI k) (i + 1)) := by
      rw [bit1 _ (by omega)]
      show _ = nI (pcB (nI k) i + cond (bt (nI k) i) 1 0)
      rw [← nI_add]
      cases bt (nI k) i <;> rfl
    simp (disch := omega) only [fX11_ones_4, fX11_ones_10, kB_15, kI_1, lt_eq, hi, ↓reduceIte, nI_add, e]
  · simp (disch := omega) only [fX11_ones_4, fX11_ones_24, kB_15, lt_eq, Nat.lt_irrefl, ↓reduceIte]
    rfl
set_option maxRecDepth 100000 in
set_option maxHeartbeats 400000 in
theorem bt_n {k i : Nat} (hi : i < 32) : bt (nI k) i = k.testBit i := by
  show (BitVec.ofNat 32 k).getLsbD i = k.testBit i
  rw [BitVec.getLsbD_ofNat, decide_eq_true hi, Bool.true_and]
set_option maxRecDepth 100000 in
set_option maxHeartbeats 400000 in
theorem nI_and (a b : Nat) : nI a &&& nI b = nI (a &&& b) := b_ext (fun i hi => by rw [b_and, bt_n hi, bt_n hi, bt_n hi, Nat.testBit_and])
set_option maxRecDepth 100000 in
set_option maxHeartbeats 400000 in
theorem nI_sub {a b : Nat} (h : b ≤ a) : nI a - nI b = nI (a - b) := by
  have := nI_add (a - b) b
  rw [show a - b + b = a by omega] at this
  rw [← this, Int32.add_sub_cancel]
set_option maxRecDepth 100000 in
set_option maxHeartbeats 400000 in
theorem ush {a s : Nat} (ha : a < 4294967296) (hs : s < 32) : ((nI a).toUInt32 >>> ((nI s).toUInt32 &&& Int32.toUInt32 31)).toInt32 = nI (a >>> s) := by
  have hz : ∀ s, s < 32 → ((nI s).toUInt32 &&& Int32.toUInt32 31).toBitVec.toNat % 32 = s := by decide
  have hm : ∀ s, s < 32 → (((nI s).toUInt32 &&& Int32.toUInt32 31).toBitVec.umod (BitVec.ofNat 32 32)).toNat = s := by decide
  refine Int32.toBitVec_inj.mp ?_
  show ((nI a).toUInt32 >>> ((nI s).toUInt32 &&& Int32.toUInt32 31)).toBitVec = _
  rw [UInt32.toBitVec_shiftRight, BitVec.ushiftRight_eq']
  refine BitVec.eq_of_getLsbD_eq (fun i hi => ?_)
  rw [BitVec.getLsbD_ushiftRight]
  have e1 : ((nI s).toUInt32 &&& Int32.toUInt32 31).toBitVec % 32 = ((nI s).toUInt32 &&& Int32.toUInt32 31).toBitVec.umod (BitVec.ofNat 32 32) := rfl
  rw [e1, hm s hs]
  show (BitVec.ofNat 32 a).getLsbD (s + i) = (BitVec.ofNat 32 (a >>> s)).getLsbD i
  rw [BitVec.getLsbD_ofNat, BitVec.getLsbD_ofNat, Nat.testBit_shiftRight, decide_eq_true hi, Bool.true_and]
  by_cases h : s + i < 32
  · rw [decide_eq_true h, Bool.true_and]
  · rw [decide_eq_false h, Bool.false_and]
    symm
    have h32 : 4294967296 = 2 ^ 32 := by decide
    rw [h32] at ha
    exact Nat.testBit_lt_two_pow (Nat.lt_of_lt_of_le ha (Nat.pow_le_pow_right (by omega) (show 32 ≤ s + i by omega)))
def bc1 (a : Nat) : Nat := a - ((a >>> 1) &&& 1431655765)
def bc2 (a : Nat) : Nat := (a &&& 858993459) + ((a >>> 2) &&& 858993459)
def bc3 (a : Nat) : Nat := (a + (a >>> 4)) &&& 252645135
def bc4 (a : Nat) : Nat := a + (a >>> 8)
def bcN (a : Nat) : Nat := (bc4 (bc3 (bc2 (bc1 a))) + (bc4 (bc3 (bc2 (bc1 a))) >>> 16)) &&& 63
def pcN (a : Nat) : Nat → Nat
  | 0 => 0
  | i + 1 => pcN a i + (a >>> i) % 2
set_option maxRecDepth 100000 in
set_option maxHeartbeats 400000 in
theorem pcB_N {a : Nat} : ∀ i, i ≤ 32 → pcB (nI a) i = pcN a i := by
  intro i
  induction i with
  | zero => intro _; rfl
  | succ i ih =>
    intro hi
    show pcB (nI a) i + cond (bt (nI a) i) 1 0 = pcN a i + (a >>> i) % 2
    rw [ih (by omega), bt_n (by omega), Nat.testBit]
    rcases Nat.mod_two_eq_zero_or_one (a >>> i) with z | z
    · rw [z]
      have e : (1 &&& a >>> i != 0) = false := by
        rw [Nat.one_and_eq_mod_two, z]; rfl
      rw [e]; rfl
    · rw [z]
      have e : (1 &&& a >>> i != 0) = true := by
        rw [Nat.one_and_eq_mod_two, z]; rfl
      rw [e]; rfl
def bcC : Nat → Nat → Bool
  | _, 0 => true
  | a, n + 1 => Nat.beq (bcN (a + n)) (pcN (a + n) 15) && bcC a n
