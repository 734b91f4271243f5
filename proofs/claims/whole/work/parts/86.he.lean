-- HEARSAY: the reference's loops
section HE4
variable {S S1 : Mem} {J : MeJ} {T : Nat → Nat} {t a w P N F U E D : Nat}
set_option maxRecDepth 100000 in
set_option maxHeartbeats 400000 in
theorem l_winner {r : Row} (hr : S 170 = r) (hE : r 7 = nI E) (hE6 : E ≤ 6) {f : Nat → Nat} {b : Nat → Bool} {d : Nat} (hd60 : d ≤ 60) {x : Int32} (hx : S 167 26 = x) (hd : ∀ k, k < E → f k ≤ 60 ∧ r (60 + 2 * k) = nI (f k)) (hb : ∀ k, k < E → f k = d → b k = !decide (x = r (59 + 2 * k))) (K : Nat → Int32 → Int32 → aH → Option (Int32 × aH)) : ∀ m k g c, k + m = E → m < g → fst1 E (bq b f d k) c → ∃ c', lX11_wrongBy_95 K g 167 (oi c) (nI d) (nI k) (hp S J T) = K 167 (oi c') (nI (d + 1)) (hp S J T) ∧ fst1 E (bq b f d E) c' := by
  subst hr
  intro m
  induction m with
  | zero =>
    intro k g c hk hg hc
    obtain ⟨g, rfl⟩ : ∃ x, g = x + 1 := ⟨g - 1, by omega⟩
    obtain rfl : k = E := by omega
    refine ⟨c, ?_, hc⟩
    unfold lX11_wrongBy_95
    simp (disch := omega) only [fX11_wrongBy_95, fX11_wrongBy_163, mo_f15, mo_r15, kB_7, hE, lt_eq, Nat.lt_irrefl, Option.bind_some, ↓reduceIte, kI_1, nI_add]
  | succ m ih =>
    intro k g c hk hg hc
    obtain ⟨g, rfl⟩ : ∃ x, g = x + 1 := ⟨g - 1, by omega⟩
    obtain ⟨d1, d2⟩ := hd k (by omega)
    have hkE : k < E := by omega
    by_cases h1 : f k = d
    · by_cases h2 : S 170 (59 + 2 * k) = x
      · obtain ⟨c', e1, e2⟩ := ih (k + 1) g c (by omega) (by omega) (fst1_cg hc (fun j _ => bq_same (Or.inr (by rw [hb k hkE h1, h2, decide_eq_true rfl]; rfl)) j))
        refine ⟨c', ?_, e2⟩
        rw [← e1]
        conv => lhs; unfold lX11_wrongBy_95
        simp (disch := omega) only [fX11_wrongBy_95, fX11_wrongBy_107, fX11_wrongBy_125, fX11_wrongBy_157, mo_f15, mo_r15, mo_g26, kB_7, kB_59, kI_1, kI_2, n59, nI_add, ix2, hE, lt_eq, hkE, Option.bind_some, ↓reduceIte, d2, eq_eq, h1, h2, hx]
      · have hbk : b k = true := by rw [hb k hkE h1, decide_eq_false (fun z => h2 z.symm)]; rfl
        obtain ⟨q1, q2⟩ := bq_at h1 hbk
        have hs : ∀ c2, c2 = some k → (∀ j, j < k → bq b f d k j = false) → fst1 E (bq b f d (k + 1)) c2 := by
          intro c2 hc2 hj
          subst hc2
          exact ⟨hkE, q1, fun j hjk => by rw [← bq_ne (by omega)]; exact hj j hjk⟩
        cases c with
        | none =>
          obtain ⟨c', e1, e2⟩ := ih (k + 1) g (some k) (by omega) (by omega) (hs _ rfl (fun j hj => hc j (by omega)))
          refine ⟨c', ?_, e2⟩
          rw [← e1]
          conv => lhs; unfold lX11_wrongBy_95
          simp (disch := omega) only [fX11_wrongBy_95, fX11_wrongBy_107, fX11_wrongBy_125, fX11_wrongBy_144, fX11_wrongBy_154, fX11_wrongBy_157, mo_f15, mo_r15, mo_g26, kB_7, kB_59, kI_1, kI_2, n59, nI_add, ix2, hE, lt_eq, hkE, Option.bind_some, ↓reduceIte, d2, eq_eq, h1, h2, hx, on_lt, oi_some]
        | some i =>
          obtain ⟨i1, i2, i3⟩ := hc
          have hik : i ≠ k := fun z => by rw [z, q2] at i2; cases i2
          by_cases hlt : k < i
          · obtain ⟨c', e1, e2⟩ := ih (k + 1) g (some k) (by omega) (by omega) (hs _ rfl (fun j hj => i3 j (by omega)))
            refine ⟨c', ?_, e2⟩
            rw [← e1]
            conv => lhs; unfold lX11_wrongBy_95
            simp (disch := omega) only [fX11_wrongBy_95, fX11_wrongBy_107, fX11_wrongBy_125, fX11_wrongBy_144, fX11_wrongBy_148, fX11_wrongBy_154, fX11_wrongBy_157, mo_f15, mo_r15, mo_g26, kB_7, kB_59, kI_1, kI_2, n59, nI_add, ix2, hE, lt_eq, hkE, Option.bind_some, ↓reduceIte, d2, eq_eq, h1, h2, hx, oi_some, nI_lt0, hlt]
          · obtain ⟨c', e1, e2⟩ := ih (k + 1) g (some i) (by omega) (by omega) ⟨i1, by rw [← bq_ne hik]; exact i2, fun j hj => by rw [← bq_ne (by omega)]; exact i3 j hj⟩
            refine ⟨c', ?_, e2⟩
            rw [← e1]
            conv => lhs; unfold lX11_wrongBy_95
            simp (disch := omega) only [fX11_wrongBy_95, fX11_wrongBy_107, fX11_wrongBy_125, fX11_wrongBy_144, fX11_wrongBy_148, fX11_wrongBy_157, mo_f15, mo_r15, mo_g26, kB_7, kB_59, kI_1, kI_2, n59, nI_add, ix2, hE, lt_eq, hkE, Option.bind_some, ↓reduceIte, d2, eq_eq, h1, h2, hx, oi_some, nI_lt0, hlt]
    · obtain ⟨c', e1, e2⟩ := ih (k + 1) g c (by omega) (by omega) (fst1_cg hc (fun j _ => bq_same (Or.inl h1) j))
      refine ⟨c', ?_, e2⟩
      rw [← e1]
      conv => lhs; unfold lX11_wrongBy_95
      simp (disch := omega) only [fX11_wrongBy_95, fX11_wrongBy_107, fX11_wrongBy_157, mo_f15, mo_r15, kB_7, kB_59, kI_1, kI_2, n59, nI_add, ix2, hE, lt_eq, hkE, Option.bind_some, ↓reduceIte, d2, eq_eq, h1]
set_option maxRecDepth 100000 in
set_option maxHeartbeats 400000 in
theorem l_wouter {r : Row} (hT : TbS r P N) (hF : r 5 = nI F) (hF8 : F ≤ 8) (hE : r 7 = nI E) (hE6 : E ≤ 6) {R : Row} (hI : Inv R P N D) (hD : D + 61 ≤ 3000) {f : Nat → Nat} (hd : ∀ k, k < E → f k ≤ 60 ∧ r (60 + 2 * k) = nI (f k)) : ∀ m d g c S1, d + m = 60 → m < g → S1 170 = r → S1 175 = dyN r P N F (r 0) d R → fst1 E (bq (bd r P N F R f) f (d + 1) 0) c → ∃ c' S', lX11_wrongBy_76 g 167 (oi c) (nI (d + 1)) (hp S1 J T) = some (oi c', hp S' J T) ∧ mfr S1 S' ∧ fst1 E (bq (bd r P N F R f) f 61 0) c' := by
  intro m
  induction m with
  | zero =>
    intro d g c S1 hk hg h1 h2 h3
    obtain ⟨g, rfl⟩ : ∃ x, g = x + 1 := ⟨g - 1, by omega⟩
    obtain rfl : d = 60 := by omega
    refine ⟨c, S1, ?_, ⟨fr_rf _ _, fun _ _ _ => rfl⟩, h3⟩
    unfold lX11_wrongBy_76
    simp (disch := omega) only [fX11_wrongBy_76, fX11_wrongBy_169, kB_60, lt_eq, show 60 < 60 + 1 by omega, ↓reduceIte]
  | succ m ih =>
    intro d g c S1 hk hg h1 h2 h3
    obtain ⟨g, rfl⟩ : ∃ x, g = x + 1 := ⟨g - 1, by omega⟩
    have hIk : Inv (S1 175) P N (D + d) := by rw [h2]; exact dyN_inv hT hI hT.2.2.2.2.1 d (by omega)
    obtain ⟨S2, o1, o2, o3, o4, o5⟩ := m_day (S := S1) (J := J) (T := T) rwA_175 (by omega) (by omega) (by omega) (by omega) (P := P) (N := N) (F := F) (by rw [h1]; exact hT) (by rw [h1]; exact hF) hF8 hIk (by omega) (bes := nI 0) (fl := false)
    rw [h1] at o2 o3
    rw [bI_f] at o1
    have hm : mfr S1 S2 := ⟨fun c hc => o5 c (fun z => hc (by simp only [List.mem_cons, List.not_mem_nil, or_false] at z ⊢; omega)), fun j a b => by rw [o3, up_ne b, up_ne a]⟩
    have e170 : S2 170 = r := by rw [hm.1 170 (by decide)]; exact h1
    obtain ⟨c', e1, e2⟩ := l_winner (S := S2) (J := J) (T := T) (b := bd r P N F R f) (d := d + 1) e170 hE hE6 (by omega) (x := oi (dWt r (S1 175) P N false)) (by rw [o3, up_eq]) hd (fun k hk hf => by unfold bd dsh; rw [hf, h2, Nat.add_sub_cancel]) (lX11_wrongBy_76 g) E 0 FU c (by omega) (FU_lt (by omega)) h3
    obtain ⟨c2, S3, k1, k2, k3⟩ := ih (d + 1) g c' S2 (by omega) (by omega) e170 (by rw [o2, h2, dyN_s]) (fst1_cg e2 (fun j hj => bq_nx hj))
    refine ⟨c2, S3, ?_, mfr_tr hm k2, k3⟩
    rw [← k1, ← e1]
    conv => lhs; unfold lX11_wrongBy_76
    simp (disch := omega) only [fX11_wrongBy_76, fX11_wrongBy_82, fX11_wrongBy_89, fX11_wrongBy_92, mo_f20, mo_isO, kB_60, kI_0, lt_eq, show ¬ 60 < d + 1 by omega, ↓reduceIte, Option.bind_some, o1]
end HE4
