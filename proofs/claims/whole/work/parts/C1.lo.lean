-- LONGS; lowest terms
def nJ (n : Nat) : Int64 := Int64.ofNat n
set_option maxRecDepth 100000 in
set_option maxHeartbeats 400000 in
theorem nJ_add (a b : Nat) : nJ a + nJ b = nJ (a + b) := (Int64.ofNat_add a b).symm
set_option maxRecDepth 100000 in
set_option maxHeartbeats 400000 in
theorem nJ_mul (a b : Nat) : nJ a * nJ b = nJ (a * b) := (Int64.ofNat_mul a b).symm
set_option maxRecDepth 100000 in
set_option maxHeartbeats 400000 in
theorem l62 {a : Nat} (h : a < 2 ^ 62) : a < 2 ^ 63 := Nat.lt_of_lt_of_le h (by decide)
set_option maxRecDepth 100000 in
set_option maxHeartbeats 400000 in
theorem nJ_div {a b : Nat} (ha : a < 2 ^ 62) (hb : b < 2 ^ 62) : nJ a / nJ b = nJ (a / b) := (Int64.ofNat_div (l62 ha) (l62 hb)).symm
set_option maxRecDepth 100000 in
set_option maxHeartbeats 400000 in
theorem nJ_rem {a b : Nat} (ha : a < 2 ^ 62) (hb : b < 2 ^ 62) : nJ a - nJ a / nJ b * nJ b = nJ (a % b) := by
  rw [nJ_div ha hb, nJ_mul]
  have e : nJ a = nJ (a % b) + nJ (a / b * b) := by
    rw [nJ_add]
    have := Nat.div_add_mod a b
    rw [Nat.mul_comm, Nat.add_comm] at this
    rw [this]
  rw [e, Int64.add_sub_cancel]
set_option maxRecDepth 100000 in
set_option maxHeartbeats 400000 in
theorem nJ_ti {a : Nat} (h : a < 2 ^ 62) : (nJ a).toInt = a := Int64.toInt_ofNat_of_lt (l62 h)
set_option maxRecDepth 100000 in
set_option maxHeartbeats 400000 in
theorem nJ_z {a : Nat} (h : a < 2 ^ 62) : (nJ a = 0) = (a = 0) := by
  refine propext ⟨fun z => ?_, fun z => by rw [z]; rfl⟩
  have := congrArg Int64.toInt z
  rw [nJ_ti h] at this
  exact Int.ofNat.inj this
set_option maxRecDepth 100000 in
set_option maxHeartbeats 400000 in
theorem kJ_0 : kJ 0 = nJ 0 := rfl
set_option maxRecDepth 100000 in
set_option maxHeartbeats 400000 in
theorem kJ_1 : kJ 1 = nJ 1 := rfl
set_option maxRecDepth 100000 in
set_option maxHeartbeats 400000 in
theorem cm_p {a : Nat} (h : a < 2 ^ 62) : (0 < lg_cmp (nJ a) (kJ 0)) = (0 < a) := by
  unfold lg_cmp
  rcases Nat.eq_zero_or_pos a with z | z
  · subst z
    exact propext ⟨fun q => by revert q; decide, fun q => by omega⟩
  · have hp : nJ a > kJ 0 := by
      show kJ 0 < nJ a
      rw [Int64.lt_iff_toInt_lt, nJ_ti h, kJ_0, nJ_ti (by decide)]
      omega
    rw [if_pos hp]
    exact propext ⟨fun _ => z, fun _ => by decide⟩
set_option maxRecDepth 100000 in
set_option maxHeartbeats 400000 in
theorem cm_z {a : Nat} (h : a < 2 ^ 62) : (lg_cmp (nJ a) (kJ 0) = 0) = (a = 0) := by
  unfold lg_cmp
  rcases Nat.eq_zero_or_pos a with z | z
  · subst z
    exact propext ⟨fun _ => rfl, fun _ => by decide⟩
  · have hp : nJ a > kJ 0 := by
      show kJ 0 < nJ a
      rw [Int64.lt_iff_toInt_lt, nJ_ti h, kJ_0, nJ_ti (by decide)]
      omega
    rw [if_pos hp]
    exact propext ⟨fun q => absurd q (by decide), fun q => by omega⟩
def ends : Nat → Nat → Nat → Prop
  | 0, _, b => b = 0
  | n + 1, a, b => b = 0 ∨ ends n b (a % b)
set_option maxRecDepth 100000 in
set_option maxHeartbeats 400000 in
theorem ends_ok : ∀ (K a b : Nat), b < 2 ^ K → ends (2 * K) a b := by
  intro K
  induction K with
  | zero => intro a b h; show b = 0; rw [Nat.pow_zero] at h; omega
  | succ K ih =>
    intro a b h
    show ends (2 * K + 1 + 1) a b
    rcases Nat.eq_zero_or_pos b with z | z
    · exact Or.inl z
    · refine Or.inr ?_
      rcases Nat.eq_zero_or_pos (a % b) with y | y
      · exact Or.inl y
      · refine Or.inr (ih _ _ ?_)
        have h1 := Nat.mod_lt a z
        have h2 := Nat.mod_lt b y
        have h3 := Nat.div_add_mod b (a % b)
        have h4 : 1 ≤ b / (a % b) := (Nat.le_div_iff_mul_le y).mpr (by omega)
        have h5 : (a % b) * 1 ≤ (a % b) * (b / (a % b)) := Nat.mul_le_mul_left _ h4
        rw [Nat.pow_succ] at h
        omega
set_option maxRecDepth 100000 in
set_option maxHeartbeats 400000 in
theorem gcd_s (a b : Nat) : Nat.gcd b (a % b) = Nat.gcd a b := by
  rw [Nat.gcd_comm a b, Nat.gcd_rec b a, Nat.gcd_comm]
def lowN (up dn : Nat) (lw : Bool) : Nat := (if lw then dn else up) / Nat.gcd dn up
section LOW
variable {h : aH}
set_option maxRecDepth 100000 in
set_option maxHeartbeats 400000 in
theorem l_lowC {up dn G : Nat} {lw : Bool} (hu : up < 2 ^ 62) (hd : dn < 2 ^ 62) (hG : 0 < G) : ∀ n a b k g, ends n a b → k + n < 1000 → n < g → a < 2 ^ 62 → b < 2 ^ 62 → Nat.gcd a b = G → lX0_lowest_9 g (nJ up) (nJ dn) (bI lw) (nJ a) (nJ b) (nI k) h = some (nJ ((if lw then dn else up) / G), h) := by
  have fin : ∀ a b k g, b = 0 → k < 1000 → 0 < g → a < 2 ^ 62 → Nat.gcd a b = G → lX0_lowest_9 g (nJ up) (nJ dn) (bI lw) (nJ a) (nJ b) (nI k) h = some (nJ ((if lw then dn else up) / G), h) := by
    intro a b k g hb hk hg ha hgc
    obtain ⟨g, rfl⟩ : ∃ x, g = x + 1 := ⟨g - 1, by omega⟩
    subst hb
    rw [Nat.gcd_zero_right] at hgc
    subst hgc
    have c1 : (0 < lg_cmp (nJ 0) (kJ 0)) = False := by rw [cm_p (by decide)]; exact eq_false (by omega)
    have c2 : (0 < lg_cmp (nJ a) (kJ 0)) = True := by rw [cm_p ha]; exact eq_true hG
    have c3 : (nJ a = 0) = False := by rw [nJ_z ha]; exact eq_false (by omega)
    unfold lX0_lowest_9
    cases lw with
    | true => simp (disch := omega) only [fX0_lowest_9, fX0_lowest_17, fX0_lowest_45, fX0_lowest_54, fX0_lowest_59, fX0_lowest_70, kS_1000, lt_eq, hk, c1, c2, c3, bI_t, n1_0, ↓reduceIte, nJ_div hd ha]
    | false => simp (disch := omega) only [fX0_lowest_9, fX0_lowest_17, fX0_lowest_45, fX0_lowest_54, fX0_lowest_66, fX0_lowest_70, kS_1000, lt_eq, hk, c1, c2, c3, bI_f, n0_0, ↓reduceIte, nJ_div hu ha, Bool.false_eq_true]
  intro n
  induction n with
  | zero => intro a b k g he hk hg ha hb hgc; exact fin a b k g he (by omega) (by omega) ha hgc
  | succ n ih =>
    intro a b k g he hk hg ha hb hgc
    rcases Nat.eq_zero_or_pos b with z | z
    · exact fin a b k g z (by omega) (by omega) ha hgc
    · have he2 : ends n b (a % b) := by
        rcases he with y | y
        · omega
        · exact y
      obtain ⟨g, rfl⟩ : ∃ x, g = x + 1 := ⟨g - 1, by omega⟩
      have c1 : (0 < lg_cmp (nJ b) (kJ 0)) = True := by rw [cm_p hb]; exact eq_true z
      have c3 : (nJ b = 0) = False := by rw [nJ_z hb]; exact eq_false (by omega)
      rw [← ih b (a % b) (k + 1) g he2 (by omega) (by omega) hb (Nat.lt_of_le_of_lt (Nat.mod_le a b) ha) ((gcd_s a b).trans hgc)]
      conv => lhs; unfold lX0_lowest_9
      simp (disch := omega) only [fX0_lowest_9, fX0_lowest_17, fX0_lowest_24, kS_1000, lt_eq, show k < 1000 by omega, c1, c3, ↓reduceIte, nJ_rem ha hb, kI_1, nI_add]
set_option maxRecDepth 100000 in
set_option maxHeartbeats 400000 in
theorem c_lowC {up dn : Nat} {lw : Bool} (hu : up < 2 ^ 62) (hd : dn < 2 ^ 62) (h0 : 0 < dn) : gX0_lowest (nJ up) (nJ dn) (bI lw) h = some (nJ (lowN up dn lw), h) := by
  unfold gX0_lowest fX0_lowest_0
  rw [kI_0]
  exact l_lowC hu hd (Nat.gcd_pos_of_pos_left _ h0) (2 * 62) dn up 0 FU (ends_ok 62 dn up hu) (by omega) (FU_lt (by omega)) hd hu rfl
set_option maxRecDepth 100000 in
set_option maxHeartbeats 400000 in
theorem l_lowM {up dn G : Nat} {lw : Bool} (hu : up < 2 ^ 62) (hd : dn < 2 ^ 62) (hG : 0 < G) : ∀ n a b g, ends n a b → n < g → a < 2 ^ 62 → b < 2 ^ 62 → Nat.gcd a b = G → lX11_lowest_6 g (nJ up) (nJ dn) (bI lw) (nJ a) (nJ b) h = some (nJ ((if lw then dn else up) / G), h) := by
  have fin : ∀ a b g, b = 0 → 0 < g → a < 2 ^ 62 → Nat.gcd a b = G → lX11_lowest_6 g (nJ up) (nJ dn) (bI lw) (nJ a) (nJ b) h = some (nJ ((if lw then dn else up) / G), h) := by
    intro a b g hb hg ha hgc
    obtain ⟨g, rfl⟩ : ∃ x, g = x + 1 := ⟨g - 1, by omega⟩
    subst hb
    rw [Nat.gcd_zero_right] at hgc
    subst hgc
    have c1 : (lg_cmp (nJ 0) (kJ 0) = 0) = True := by rw [cm_z (by decide)]; exact eq_true rfl
    have c3 : (nJ a = 0) = False := by rw [nJ_z ha]; exact eq_false (by omega)
    unfold lX11_lowest_6
    cases lw with
    | true => simp (disch := omega) only [fX11_lowest_6, fX11_lowest_31, fX11_lowest_36, fX11_lowest_41, c1, c3, bI_t, n1_0, ↓reduceIte, nJ_div hd ha]
    | false => simp (disch := omega) only [fX11_lowest_6, fX11_lowest_31, fX11_lowest_40, fX11_lowest_41, c1, c3, bI_f, n0_0, ↓reduceIte, nJ_div hu ha, Bool.false_eq_true]
  intro n
  induction n with
  | zero => intro a b g he hg ha hb hgc; exact fin a b g he (by omega) ha hgc
  | succ n ih =>
    intro a b g he hg ha hb hgc
    rcases Nat.eq_zero_or_pos b with z | z
    · exact fin a b g z (by omega) ha hgc
    · have he2 : ends n b (a % b) := by
        rcases he with y | y
        · omega
        · exact y
      obtain ⟨g, rfl⟩ : ∃ x, g = x + 1 := ⟨g - 1, by omega⟩
      have c1 : (lg_cmp (nJ b) (kJ 0) = 0) = False := by rw [cm_z hb]; exact eq_false (by omega)
      have c3 : (nJ b = 0) = False := by rw [nJ_z hb]; exact eq_false (by omega)
      rw [← ih b (a % b) g he2 (by omega) hb (Nat.lt_of_le_of_lt (Nat.mod_le a b) ha) ((gcd_s a b).trans hgc)]
      conv => lhs; unfold lX11_lowest_6
      simp (disch := omega) only [fX11_lowest_6, fX11_lowest_13, c1, c3, ↓reduceIte, nJ_rem ha hb]
set_option maxRecDepth 100000 in
set_option maxHeartbeats 400000 in
theorem c_lowM {up dn : Nat} {lw : Bool} (hu : up < 2 ^ 62) (hd : dn < 2 ^ 62) (h0 : 0 < dn) : gX11_lowest (nJ up) (nJ dn) (bI lw) h = some (nJ (lowN up dn lw), h) := by
  unfold gX11_lowest fX11_lowest_0
  exact l_lowM hu hd (Nat.gcd_pos_of_pos_left _ h0) (2 * 62) dn up FU (ends_ok 62 dn up hu) (FU_lt (by omega)) hd hu rfl
end LOW
