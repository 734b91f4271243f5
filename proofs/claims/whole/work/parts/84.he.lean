-- HEARSAY: the class's days
def dsh (r : Row) (P N F : Nat) (R : Row) (d : Nat) : Option Nat := dWt r (dyN r P N F (r 0) (d - 1) R) P N false
section HE2
variable {S S1 : Mem} {J : MeJ} {T : Nat → Nat} {t a w P N F U E D : Nat}
set_option maxRecDepth 100000 in
set_option maxHeartbeats 400000 in
theorem itr_max {f : Nat → Nat} : ∀ n k m, (∀ j, k ≤ j → j < k + n → f j ≤ itr (fun k m => if m < f k then f k else m) n k m) ∧ m ≤ itr (fun k m => if m < f k then f k else m) n k m ∧ (∀ B, m ≤ B → (∀ j, k ≤ j → j < k + n → f j ≤ B) → itr (fun k m => if m < f k then f k else m) n k m ≤ B) := by
  intro n
  induction n with
  | zero => intro k m; exact ⟨fun j a b => by omega, Nat.le_refl _, fun B h _ => h⟩
  | succ n ih =>
    intro k m
    obtain ⟨a, b, c⟩ := ih (k + 1) (if m < f k then f k else m)
    have e : m ≤ (if m < f k then f k else m) ∧ f k ≤ (if m < f k then f k else m) := by split <;> omega
    refine ⟨fun j h1 h2 => ?_, Nat.le_trans e.1 b, fun B hB hj => c B ?_ (fun j h1 h2 => hj j (by omega) (by omega))⟩
    · by_cases z : j = k
      · rw [z]; exact Nat.le_trans e.2 b
      · exact a j (by omega) (by omega)
    · have := hj k (by omega) (by omega)
      split <;> omega
set_option maxRecDepth 100000 in
set_option maxHeartbeats 400000 in
theorem c_lastHeard (htl : tlA t) (hE : S t 7 = nI E) (hE6 : E ≤ 6) {f : Nat → Nat} (hd : ∀ k, k < E → f k ≤ 60 ∧ S t (60 + 2 * k) = nI (f k)) : ∃ L, gX9_lastHeardDay t (hp S J T) = some (nI L, hp S J T) ∧ L ≤ 60 ∧ ∀ k, k < E → f k ≤ L := by
  obtain ⟨a, b, c⟩ := itr_max (f := f) E 0 0
  refine ⟨itr (fun k m => if m < f k then f k else m) E 0 0, ?_, c 60 (by omega) (fun j _ hj => (hd j (by omega)).1), fun k hk => a k (by omega) (by omega)⟩
  unfold gX9_lastHeardDay fX9_lastHeardDay_0
  rw [kI_0]
  refine for_loop lX9_lastHeardDay_4 fX9_lastHeardDay_4 (fun _ => rfl) (fun K k m => K t (nI m) (nI k) (hp S J T)) (fun _ m => m ≤ 60) E (fun k m => if m < f k then f k else m) (fun m => some (nI m, hp S J T)) (fun K k m hk hm => ?_) (fun k m hk hm => ?_) (fun K m _ => ?_) E 0 FU 0 (by omega) (FU_lt (by omega)) (by omega)
  · obtain ⟨d1, d2⟩ := hd k hk
    by_cases hlt : m < f k
    · simp (disch := omega) only [gX9_lastHeardDay, fX9_lastHeardDay_0, fX9_lastHeardDay_4, fX9_lastHeardDay_12, fX9_lastHeardDay_19, fX9_lastHeardDay_22, fX9_lastHeardDay_29, kI_0, tl_g7 htl, tl_f18 htl, tl_r18 htl, kI_1, Option.bind_some, n35, n9, n19, n51, n59, nI_add, ix2, ix8, ix22, ix5, ↓reduceIte, hE, lt_eq, hk, d2, hlt]
    · simp (disch := omega) only [gX9_lastHeardDay, fX9_lastHeardDay_0, fX9_lastHeardDay_4, fX9_lastHeardDay_12, fX9_lastHeardDay_19, fX9_lastHeardDay_22, fX9_lastHeardDay_29, kI_0, tl_g7 htl, tl_f18 htl, tl_r18 htl, kI_1, Option.bind_some, n35, n9, n19, n51, n59, nI_add, ix2, ix8, ix22, ix5, ↓reduceIte, hE, lt_eq, hk, d2, hlt]
  · have := (hd k hk).1
    split <;> omega
  · simp (disch := omega) only [gX9_lastHeardDay, fX9_lastHeardDay_0, fX9_lastHeardDay_4, fX9_lastHeardDay_12, fX9_lastHeardDay_19, fX9_lastHeardDay_22, fX9_lastHeardDay_29, kI_0, tl_g7 htl, tl_f18 htl, tl_r18 htl, kI_1, Option.bind_some, n35, n9, n19, n51, n59, nI_add, ix2, ix8, ix22, ix5, ↓reduceIte, hE, lt_eq, Nat.lt_irrefl]
set_option maxRecDepth 100000 in
set_option maxHeartbeats 400000 in
theorem l_hdays (htl : tlA t) (ht0 : 56 ≤ t) (hT : TbS (S t) P N) (hF : S t 5 = nI F) (hF8 : F ≤ 8) {R : Row} (hI : Inv R P N D) (hD : D + 61 ≤ 3000) {L : Nat} (hL : L ≤ 60) : ∀ (m k f : Nat) (S1 : Mem), k + m = L → m < f → S1 40 = dyN (S t) P N F (S t 0) k R → (∀ d, 1 ≤ d → d ≤ k → S1 39 d = oi (dsh (S t) P N F R d)) → fr S S1 [39, 40, 44] → ∃ S', lX3_firstUnlike_22 f 38 t (nI L) (nI (k + 1)) (hp S1 J T) = fX3_firstUnlike_66 38 t (hp S' J T) ∧ (∀ d, 1 ≤ d → d ≤ L → S' 39 d = oi (dsh (S t) P N F R d)) ∧ fr S S' [39, 40, 44] := by
  intro m
  induction m with
  | zero =>
    intro k f S1 hk hf h1 h2 h3
    obtain ⟨f, rfl⟩ : ∃ g, f = g + 1 := ⟨f - 1, by omega⟩
    obtain rfl : k = L := by omega
    refine ⟨S1, ?_, h2, h3⟩
    unfold lX3_firstUnlike_22
    simp (disch := omega) only [fX3_firstUnlike_22, lt_eq, show k < k + 1 by omega, ↓reduceIte]
  | succ m ih =>
    intro k f S1 hk hf h1 h2 h3
    obtain ⟨f, rfl⟩ : ∃ g, f = g + 1 := ⟨f - 1, by omega⟩
    have et : S1 t = S t := h3 t (by simp; omega)
    have hIk : Inv (S1 40) P N (D + k) := by rw [h1]; exact dyN_inv hT hI hT.2.2.2.2.1 k (by omega)
    obtain ⟨O, o1, o2, o3, o4⟩ := c_hold (S := S1) (J := J) (T := T) (m := 44) (a := 40) (t := t) (bes := nI 0) (fl := false) (bowl := S t 0) mlA_44 plA_40 htl (by omega) (by omega) (by omega) (P := P) (N := N) (F := F) (by rw [et]; exact hT.1) hT.2.1 (by rw [et]; exact hT.2.2.1) hT.2.2.2.1 (by rw [et]; exact hF) hF8 hT.2.2.2.2.1 (by rw [et]; exact inv_Sml hT hIk)
    rw [bI_f, et] at o1
    rw [et, h1] at o3
    obtain ⟨S', k1, k2, k3⟩ := ih (k + 1) f (stR (stR (stR S1 40 (dayR (S t) (S1 40) P N F (nI 0) false (S t 0))) 44 O) 39 (up (S1 39) (k + 1) (O 1))) (by omega) (by omega) (by
      rw [stR_ne (by omega), stR_ne (by omega), stR_eq, h1, dyN_s]) (fun d d1 d2 => by
      rw [stR_eq]
      by_cases z : d = k + 1
      · rw [z, up_eq, o3]
        rfl
      · rw [up_ne z]
        exact h2 d d1 (by omega)) (fr_st (fr_st (fr_st h3 (by decide)) (by decide)) (by decide))
    refine ⟨S', ?_, k2, k3⟩
    rw [← k1]
    conv => lhs; unfold lX3_firstUnlike_22
    simp (disch := omega) only [fX3_firstUnlike_22, fX3_firstUnlike_28, fX3_firstUnlike_43, fX3_firstUnlike_46, lt_eq, show ¬ L < k + 1 by omega, ↓reduceIte, he_f4, he_f5, he_f6, tl_g0 htl, et, kI_0, ml_isO mlA_44, o1, ml_g1 mlA_44, stR_eq, he_w4, stS_R, stR_ne (show 39 ≠ 44 by omega), stR_ne (show 39 ≠ 40 by omega), Option.bind_some, kI_1, nI_add]
end HE2
