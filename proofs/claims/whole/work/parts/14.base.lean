theorem kB_m100 : kB (-100) = (-100) := by decide
theorem kB_m2 : kB (-2) = (-2) := by decide
theorem kB_6 : kB 6 = nI 6 := by decide
theorem kB_7 : kB 7 = nI 7 := by decide
theorem kB_8 : kB 8 = nI 8 := by decide
theorem kB_9 : kB 9 = nI 9 := by decide
theorem kB_10 : kB 10 = nI 10 := by decide
theorem kB_11 : kB 11 = nI 11 := by decide
theorem kB_12 : kB 12 = nI 12 := by decide
theorem kB_13 : kB 13 = nI 13 := by decide
theorem kB_14 : kB 14 = nI 14 := by decide
theorem kB_15 : kB 15 = nI 15 := by decide
theorem kB_16 : kB 16 = nI 16 := by decide
theorem kB_19 : kB 19 = nI 19 := by decide
theorem kB_20 : kB 20 = nI 20 := by decide
theorem kB_22 : kB 22 = nI 22 := by decide
theorem kB_24 : kB 24 = nI 24 := by decide
theorem kB_31 : kB 31 = nI 31 := by decide
theorem kB_32 : kB 32 = nI 32 := by decide
theorem kB_35 : kB 35 = nI 35 := by decide
theorem kB_48 : kB 48 = nI 48 := by decide
theorem kB_51 : kB 51 = nI 51 := by decide
theorem kB_57 : kB 57 = nI 57 := by decide
theorem kB_59 : kB 59 = nI 59 := by decide
theorem kB_60 : kB 60 = nI 60 := by decide
theorem kB_61 : kB 61 = nI 61 := by decide
theorem kB_63 : kB 63 = nI 63 := by decide
theorem kB_66 : kB 66 = nI 66 := by decide
theorem kB_71 : kB 71 = nI 71 := by decide
theorem kB_74 : kB 74 = nI 74 := by decide
theorem kB_75 : kB 75 = nI 75 := by decide
theorem kB_84 : kB 84 = nI 84 := by decide
theorem kB_97 : kB 97 = nI 97 := by decide
theorem kB_99 : kB 99 = nI 99 := by decide
theorem kB_100 : kB 100 = nI 100 := by decide
theorem kB_122 : kB 122 = nI 122 := by decide
theorem kS_188 : kS 188 = nI 188 := by decide
theorem kS_200 : kS 200 = nI 200 := by decide
theorem kS_255 : kS 255 = nI 255 := by decide
theorem kS_330 : kS 330 = nI 330 := by decide
theorem kS_352 : kS 352 = nI 352 := by decide
theorem kS_700 : kS 700 = nI 700 := by decide
theorem kS_999 : kS 999 = nI 999 := by decide
theorem kS_1000 : kS 1000 = nI 1000 := by decide
theorem kI_m8 : kI (-8) = (-8) := by decide
theorem kI_m1 : kI (-1) = (-1) := by decide
theorem kI_0 : kI 0 = nI 0 := by decide
theorem kI_1 : kI 1 = nI 1 := by decide
theorem kI_2 : kI 2 = nI 2 := by decide
theorem kI_3 : kI 3 = nI 3 := by decide
theorem kI_4 : kI 4 = nI 4 := by decide
theorem kI_5 : kI 5 = nI 5 := by decide
theorem kI_6 : kI 6 = nI 6 := by decide

set_option maxRecDepth 100000 in
set_option maxHeartbeats 4000000 in
theorem rI {x : Int32} : rOK (some .int) (some (.int x)) := ⟨.int, rfl, rfl⟩
set_option maxRecDepth 100000 in
set_option maxHeartbeats 4000000 in
theorem rZ {c : Prop} [Decidable c] : rOK (some .boolean) (some (.int (if c then nI 1 else nI 0))) := by
  split
  · exact ⟨.boolean, rfl, rfl⟩
  · exact ⟨.boolean, rfl, rfl⟩
set_option maxRecDepth 100000 in
set_option maxHeartbeats 4000000 in
theorem b31 {n : Nat} (h : n < 5000) : n < 2 ^ 31 := Nat.lt_of_lt_of_le h (Nat.le_of_ble_eq_true rfl)
set_option maxRecDepth 100000 in
set_option maxHeartbeats 4000000 in
theorem cl_lt {n : Nat} (h : n < 5000) : (nI n).toNatClampNeg = n := nI_clamp (b31 h)
set_option maxRecDepth 100000 in
set_option maxHeartbeats 4000000 in
theorem in_lt {n N : Nat} (h : n < N) (hN : N < 5000) : vp_in (nI n) N := vp_in_nI h (b31 hN)
set_option maxRecDepth 100000 in
set_option maxHeartbeats 4000000 in
theorem lt_iff {a b : Nat} (ha : a < 5000) (hb : b < 5000) : nI a < nI b ↔ a < b := nI_ltI (b31 ha) (b31 hb)
set_option maxRecDepth 100000 in
set_option maxHeartbeats 4000000 in
theorem eq_iff {a b : Nat} (ha : a < 5000) (hb : b < 5000) : nI a = nI b ↔ a = b := nI_eq (b31 ha) (b31 hb)
set_option maxRecDepth 100000 in
set_option maxHeartbeats 4000000 in
theorem not0 {n : Nat} (h : n < 5000) : ¬ nI n < 0 := nI_pos (b31 h)
set_option maxRecDepth 100000 in
set_option maxHeartbeats 4000000 in
theorem ix2 (c k : Nat) : nI c + nI 2 * nI k = nI (c + 2 * k) := by rw [pk_mul, nI_add]
set_option maxRecDepth 100000 in
set_option maxHeartbeats 4000000 in
theorem ix8 (c k : Nat) : nI c + nI 8 * nI k = nI (c + 8 * k) := by rw [pk_mul, nI_add]
set_option maxRecDepth 100000 in
set_option maxHeartbeats 4000000 in
theorem ix22 (k : Nat) : nI 22 * nI k = nI (22 * k) := pk_mul _ _
set_option maxRecDepth 100000 in
set_option maxHeartbeats 4000000 in
theorem ix5 (k : Nat) : nI 5 * nI k = nI (5 * k) := pk_mul _ _
set_option maxRecDepth 100000 in
set_option maxHeartbeats 4000000 in
theorem getD_ext {ys zs : List Int32} (hl : ys.length = zs.length) (h : ∀ j, j < ys.length → ys.getD j 0 = zs.getD j 0) : ys = zs := by
  apply List.ext_getElem hl
  intro j h1 h2
  have := h j h1
  rw [List.getD_eq_getElem?_getD, List.getD_eq_getElem?_getD, List.getElem?_eq_getElem h1, List.getElem?_eq_getElem h2] at this
  exact this
set_option maxRecDepth 100000 in
set_option maxHeartbeats 4000000 in
theorem bu_self (B : Nat → List Int32) (j : Nat) : bu B j (B j) = B := by
  funext k
  unfold bu
  split
  · rename_i e; rw [e]
  · rfl
set_option maxRecDepth 100000 in
set_option maxHeartbeats 4000000 in
theorem bu_bu (B : Nat → List Int32) (j : Nat) (x y : List Int32) : bu (bu B j x) j y = bu B j y := by
  funext k
  unfold bu
  split <;> rfl
set_option maxRecDepth 100000 in
set_option maxHeartbeats 4000000 in
theorem bu_ne {B : Nat → List Int32} {j i : Nat} {x : List Int32} (hn : i ≠ j) : bu B j x i = B i := if_neg hn
set_option maxRecDepth 100000 in
set_option maxHeartbeats 4000000 in
theorem bu_eq {B : Nat → List Int32} {j : Nat} {x : List Int32} : bu B j x j = x := if_pos rfl
def arrA (a i : Nat) : Prop := i < 13 ∧ a = 168 + i
section MCOPY
variable {d : Nat} {h : aH} {F : Nat → Int32} {G : Nat → Int64} {B : Nat → List Int32}
set_option maxRecDepth 100000 in
set_option maxHeartbeats 4000000 in
theorem arr_g (hl : 181 ≤ h.length) {a i : Nat} (hi : arrA a i) : (MH h F G B)[a]? = some (.inl (0, .inl (B i))) := by
  obtain ⟨h1, rfl⟩ := hi
  match i, h1 with
  | 0, _ => exact MH_0 hl
  | 1, _ => exact MH_1 hl
  | 2, _ => exact MH_2 hl
  | 3, _ => exact MH_3 hl
  | 4, _ => exact MH_4 hl
  | 5, _ => exact MH_5 hl
  | 6, _ => exact MH_6 hl
  | 7, _ => exact MH_7 hl
  | 8, _ => exact MH_8 hl
  | 9, _ => exact MH_9 hl
  | 10, _ => exact MH_10 hl
  | 11, _ => exact MH_11 hl
  | 12, _ => exact MH_12 hl
set_option maxRecDepth 100000 in
set_option maxHeartbeats 4000000 in
theorem arr_s (hl : 181 ≤ h.length) {a i : Nat} (hi : arrA a i) (ys : List Int32) : (MH h F G B).set a (.inl (0, .inl ys)) = MH h F G (bu B i ys) := by
  obtain ⟨h1, rfl⟩ := hi
  match i, h1 with
  | 0, _ => exact MH_s0 hl ys
  | 1, _ => exact MH_s1 hl ys
  | 2, _ => exact MH_s2 hl ys
  | 3, _ => exact MH_s3 hl ys
  | 4, _ => exact MH_s4 hl ys
  | 5, _ => exact MH_s5 hl ys
  | 6, _ => exact MH_s6 hl ys
  | 7, _ => exact MH_s7 hl ys
  | 8, _ => exact MH_s8 hl ys
  | 9, _ => exact MH_s9 hl ys
  | 10, _ => exact MH_s10 hl ys
  | 11, _ => exact MH_s11 hl ys
  | 12, _ => exact MH_s12 hl ys
end MCOPY
