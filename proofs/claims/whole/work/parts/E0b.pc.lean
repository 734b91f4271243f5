-- HOW MANY: all of fifteen bits
set_option maxRecDepth 100000 in
set_option maxHeartbeats 400000 in
theorem bcC_all : (List.range 32).all (fun c => bcC (c * 1024) 1024) = true := by decide +kernel
set_option maxRecDepth 100000 in
set_option maxHeartbeats 400000 in
theorem bcC_at {a : Nat} : ∀ n, bcC a n = true → ∀ j, j < n → bcN (a + j) = pcN (a + j) 15 := by
  intro n
  induction n with
  | zero => intro _ j hj; omega
  | succ n ih =>
    intro h j hj
    have h2 : (Nat.beq (bcN (a + n)) (pcN (a + n) 15) && bcC a n) = true := h
    rw [Bool.and_eq_true] at h2
    by_cases z : j = n
    · rw [z]; exact Nat.eq_of_beq_eq_true h2.1
    · exact ih h2.2 j (by omega)
set_option maxRecDepth 100000 in
set_option maxHeartbeats 400000 in
theorem bcN_ok {a : Nat} (h : a < 32768) : bcN a = pcN a 15 := by
  have h1 := List.all_eq_true.mp bcC_all (a / 1024) (List.mem_range.mpr (by omega))
  have h2 := bcC_at 1024 h1 (a % 1024) (by omega)
  rwa [show a / 1024 * 1024 + a % 1024 = a by omega] at h2
set_option maxRecDepth 100000 in
set_option maxHeartbeats 400000 in
theorem an_le (a m : Nat) : a &&& m ≤ a := Nat.and_le_left
set_option maxRecDepth 100000 in
set_option maxHeartbeats 400000 in
theorem sr_le (a s : Nat) : a >>> s ≤ a := by rw [Nat.shiftRight_eq_div_pow]; exact Nat.div_le_self _ _
set_option maxRecDepth 100000 in
set_option maxHeartbeats 400000 in
theorem bcn1 : (1431655765 : Int32) = nI 1431655765 := rfl
set_option maxRecDepth 100000 in
set_option maxHeartbeats 400000 in
theorem bcn2 : (858993459 : Int32) = nI 858993459 := rfl
set_option maxRecDepth 100000 in
set_option maxHeartbeats 400000 in
theorem bcn3 : (252645135 : Int32) = nI 252645135 := rfl
set_option maxRecDepth 100000 in
set_option maxHeartbeats 400000 in
theorem c_bc {k : Nat} (hk : k < 32768) {h : aH} : gJ6_bitCount_0f7a4 (nI k) h = some (nI (pc k), h) := by
  have e1 : bc1 k ≤ k := Nat.sub_le _ _
  have e2 : bc2 (bc1 k) ≤ 65536 := by
    have a1 := an_le (bc1 k) 858993459
    have a2 := Nat.le_trans (an_le (bc1 k >>> 2) 858993459) (sr_le (bc1 k) 2)
    unfold bc2
    omega
  have e3 : bc3 (bc2 (bc1 k)) ≤ 131072 := by
    have a1 := sr_le (bc2 (bc1 k)) 4
    have a2 := an_le (bc2 (bc1 k) + bc2 (bc1 k) >>> 4) 252645135
    unfold bc3
    omega
  have e4 : bc4 (bc3 (bc2 (bc1 k))) ≤ 262144 := by
    have a1 := sr_le (bc3 (bc2 (bc1 k))) 8
    unfold bc4
    omega
  have hf : pc k = bcN k := by
    rw [bcN_ok hk]
    exact pcB_N 15 (by omega)
  rw [hf]
  have u1 : ((nI k).toUInt32 >>> ((nI 1).toUInt32 &&& Int32.toUInt32 31)).toInt32 = nI (k >>> 1) := ush (by omega) (by omega)
  have s1 : nI k - nI (k >>> 1 &&& 1431655765) = nI (bc1 k) := nI_sub (Nat.le_trans (an_le _ _) (sr_le _ _))
  have u2 : ((nI (bc1 k)).toUInt32 >>> ((nI 2).toUInt32 &&& Int32.toUInt32 31)).toInt32 = nI (bc1 k >>> 2) := ush (by omega) (by omega)
  have s2 : nI (bc1 k &&& 858993459) + nI (bc1 k >>> 2 &&& 858993459) = nI (bc2 (bc1 k)) := nI_add _ _
  have u3 : ((nI (bc2 (bc1 k))).toUInt32 >>> ((nI 4).toUInt32 &&& Int32.toUInt32 31)).toInt32 = nI (bc2 (bc1 k) >>> 4) := ush (by omega) (by omega)
  have s3 : nI (bc2 (bc1 k)) + nI (bc2 (bc1 k) >>> 4) &&& nI 252645135 = nI (bc3 (bc2 (bc1 k))) := by rw [nI_add, nI_and]; rfl
  have u4 : ((nI (bc3 (bc2 (bc1 k)))).toUInt32 >>> ((nI 8).toUInt32 &&& Int32.toUInt32 31)).toInt32 = nI (bc3 (bc2 (bc1 k)) >>> 8) := ush (by omega) (by omega)
  have s4 : nI (bc3 (bc2 (bc1 k))) + nI (bc3 (bc2 (bc1 k)) >>> 8) = nI (bc4 (bc3 (bc2 (bc1 k)))) := nI_add _ _
  have u5 : ((nI (bc4 (bc3 (bc2 (bc1 k))))).toUInt32 >>> ((nI 16).toUInt32 &&& Int32.toUInt32 31)).toInt32 = nI (bc4 (bc3 (bc2 (bc1 k))) >>> 16) := ush (by omega) (by omega)
  have s5 : nI (bc4 (bc3 (bc2 (bc1 k)))) + nI (bc4 (bc3 (bc2 (bc1 k))) >>> 16) &&& nI 63 = nI (bcN k) := by rw [nI_add, nI_and]; rfl
  have k63 : kB 63 = nI 63 := by decide
  unfold gJ6_bitCount_0f7a4 fJ6_bitCount_0f7a4_0 fJ6_bitCount_0f7a4_4 fJ6_bitCount_0f7a4_7
  rw [kI_1, u1, bcn1, nI_and, s1]
  unfold fJ6_bitCount_0f7a4_11 fJ6_bitCount_0f7a4_14
  rw [kI_2, u2, bcn2, nI_and]
  unfold fJ6_bitCount_0f7a4_18 fJ6_bitCount_0f7a4_21
  rw [bcn2, nI_and, s2, kI_4, u3]
  unfold fJ6_bitCount_0f7a4_29 fJ6_bitCount_0f7a4_32
  rw [bcn3, s3, kB_8, u4, s4, kB_16, u5, k63, s5]
