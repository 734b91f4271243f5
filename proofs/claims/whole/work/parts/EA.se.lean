-- WHO SHOULD FAST: the class seeks
def Gp (r R : Row) (P N F K n d b s : Nat) : Prop := Good r R P N F K n s ∧ s % w5 d = b
def soI (S S1 : Mem) (t d K n : Nat) (W : Row) (P N : Nat) (B : Option Nat) : Prop := S1 t = S t ∧ agR (S1 (22 + 4 * d)) W P N ∧ S1 17 5 = nI K ∧ S1 17 6 = nI n ∧ fSt (S1 17) B ∧ ∀ j, B = some j → j < 32768
def soF (S1 S' : Mem) (d : Nat) : Prop := (∀ j, 2 ≤ j → S' 17 j = S1 17 j) ∧ (∀ c, c ≠ 17 → c ≠ 19 → (∀ e, d < e → e < 4 → c ≠ 22 + 4 * e) → S' c = S1 c)
set_option maxRecDepth 100000 in
set_option maxHeartbeats 400000 in
theorem soF_rf (S1 : Mem) (d : Nat) : soF S1 S1 d := ⟨fun _ _ => rfl, fun _ _ _ _ => rfl⟩
set_option maxRecDepth 100000 in
set_option maxHeartbeats 400000 in
theorem soF_tr {S1 S2 S3 : Mem} {d : Nat} (h : soF S1 S2 d) (q : soF S2 S3 d) : soF S1 S3 d := ⟨fun j hj => (q.1 j hj).trans (h.1 j hj), fun c a b e => (q.2 c a b e).trans (h.2 c a b e)⟩
section SO
variable {S : Mem} {J : MeJ} {T : Nat → Nat} {t P N F U E K n : Nat}
set_option maxRecDepth 100000 in
set_option maxHeartbeats 400000 in
theorem soI_st {S1 S2 : Mem} {d : Nat} {W : Row} {B : Option Nat} (ht0 : 56 ≤ t) (hd : d < 4) (h : soI S S1 t d K n W P N B) (hf : soF S1 S2 d) {B2 : Option Nat} (h5 : fSt (S2 17) B2) (h6 : ∀ j, B2 = some j → j < 32768) : soI S S2 t d K n W P N B2 := by
  obtain ⟨a1, a2, a3, a4, a5, a6⟩ := h
  refine ⟨?_, ?_, ?_, ?_, h5, h6⟩
  · rw [hf.2 t (by omega) (by omega) (fun e h1 h2 => by omega)]; exact a1
  · rw [hf.2 _ (by omega) (by omega) (fun e h1 h2 => by omega)]; exact a2
  · rw [hf.1 5 (by omega)]; exact a3
  · rw [hf.1 6 (by omega)]; exact a4
set_option maxRecDepth 100000 in
set_option maxHeartbeats 400000 in
theorem l_so (htl : tlA t) (ht0 : 56 ≤ t) (hy : Yes S t P N F U E) (hn : n ≤ 3) {q d b f : Nat} (hd : d < n) (hpre : preS (S 170) (S 174) P N F d b) (hf : f < 32) (hfe : sfe (S 170) (rwS (S 170) (S 174) P N F b d) P F = nI f) (hdish : d + 1 = n → dWt (S 170) (rwS (S 170) (S 174) P N F b d) P N false = some K)
    (hrec : d + 1 < n → ∀ b1 S1 B, soI S S1 t (d + 1) K n (rwS (S 170) (S 174) P N F b1 (d + 1)) P N B → preS (S 170) (S 174) P N F (d + 1) b1 → ∃ S' B', gX2_seekOn q 17 t (nI (d + 1)) (nI b1) (hp S1 J T) = some (hp S' J T) ∧ fSt (S' 17) B' ∧ (∀ j, B' = some j → j < 32768) ∧ updG (Gp (S 170) (S 174) P N F K n (d + 1) b1) B B' ∧ soF S1 S' (d + 1)) :
    ∀ m k g S1 B, k + m = f + 1 → m < g → soI S S1 t d K n (rwS (S 170) (S 174) P N F b d) P N B → ∃ S' B', lX2_seekOn_95 (gX2_seekOn q) g 17 t (nI d) (nI b) (bI (decide (d + 1 = n))) (nI f) (nI k) (hp S1 J T) = some (hp S' J T) ∧ fSt (S' 17) B' ∧ (∀ j, B' = some j → j < 32768) ∧ updG (fun s => Gp (S 170) (S 174) P N F K n d b s ∧ k ≤ dg s d) B B' ∧ soF S1 S' d := by
  have hP5 : P ≤ 5 := hy.1.1.2.1
  have hT := hy.1.1
  have hI := hy.2.2.2.2.2.1
  have hgrow : ∀ s, Gp (S 170) (S 174) P N F K n d b s → rwS (S 170) (S 174) P N F s d = rwS (S 170) (S 174) P N F b d := fun s hs => good_row hn (by omega) hs.2
  have hgsub : ∀ s, Gp (S 170) (S 174) P N F K n d b s → nI (dg s d) &&& (nI f ^^^ m1) = 0 := fun s hs => by
    have := good_sub hT hI hn hs.1 hd
    rwa [hgrow s hs, hfe] at this
  intro m
  induction m with
  | zero =>
    intro k g S1 B hk hg h1
    obtain ⟨g, rfl⟩ : ∃ x, g = x + 1 := ⟨g - 1, by omega⟩
    refine ⟨S1, B, ?_, h1.2.2.2.2.1, h1.2.2.2.2.2, upd_no (fun s hs => ?_), soF_rf _ _⟩
    · unfold lX2_seekOn_95
      simp (disch := omega) only [fX2_seekOn_95, fX2_seekOn_184, lt_eq, show f < k by omega, ↓reduceIte]
    · have := lF_le (dg s d) (dg_lt s d) f hf (hgsub s hs.1)
      omega
  | succ m ih =>
    intro k g S1 B hk hg h1
    obtain ⟨g, rfl⟩ : ∃ x, g = x + 1 := ⟨g - 1, by omega⟩
    have hb3 : b < 32768 := Nat.lt_of_lt_of_le hpre.1 (w5_p d (by omega)).2.2
    obtain ⟨e1, e2, e3⟩ := dg_new (d := d) (b := b) (k := k) (by omega) hpre.1 (by omega)
    have hal : b + k * w5 d < 32768 := Nat.lt_of_lt_of_le e3 (w5_p (d + 1) (by omega)).2.2
    have hmodS : ∀ s, Gp (S 170) (S 174) P N F K n d b s → dg s d = k → s % w5 (d + 1) = b + k * w5 d := fun s hs hk => by rw [mod_s (by omega), hs.2, hk]
    -- it is enough to look at k
    suffices hone : ∃ S2 B2, fX2_seekOn_95 (gX2_seekOn q) (lX2_seekOn_95 (gX2_seekOn q) g) 17 t (nI d) (nI b) (bI (decide (d + 1 = n))) (nI f) (nI k) (hp S1 J T) = lX2_seekOn_95 (gX2_seekOn q) g 17 t (nI d) (nI b) (bI (decide (d + 1 = n))) (nI f) (nI (k + 1)) (hp S2 J T) ∧ fSt (S2 17) B2 ∧ (∀ j, B2 = some j → j < 32768) ∧ updG (fun s => Gp (S 170) (S 174) P N F K n d b s ∧ dg s d = k) B B2 ∧ soF S1 S2 d by
      obtain ⟨S2, B2, a1, a2, a3, a4, a5⟩ := hone
      obtain ⟨S3, B3, c1, c2, c3, c4, c5⟩ := ih (k + 1) g S2 B2 (by omega) (by omega) (soI_st ht0 (by omega) h1 a5 a2 a3)
      refine ⟨S3, B3, ?_, c2, c3, upd_cg (fun s => ?_) (upd_tr a4 c4), soF_tr a5 c5⟩
      · rw [← c1, ← a1]
        rfl
      · refine ⟨fun z => z.elim (fun y => ⟨y.1, by omega⟩) (fun y => ⟨y.1, by omega⟩), fun z => ?_⟩
        by_cases y : dg s d = k
        · exact Or.inl ⟨z.1, y⟩
        · exact Or.inr ⟨z.1, by omega⟩
    have hskip : ∀ S2, fX2_seekOn_178 (gX2_seekOn q) (lX2_seekOn_95 (gX2_seekOn q) g) 17 t (nI d) (nI b) (bI (decide (d + 1 = n))) (nI f) (nI k) (hp S2 J T) = lX2_seekOn_95 (gX2_seekOn q) g 17 t (nI d) (nI b) (bI (decide (d + 1 = n))) (nI f) (nI (k + 1)) (hp S2 J T) := fun S2 => by
      unfold fX2_seekOn_178
      rw [kI_1, nI_add]
    unfold fX2_seekOn_95
    rw [if_neg (show ¬ nI f < nI k by rw [lt_eq (by omega) (by omega)]; omega)]
    unfold fX2_seekOn_102
    rw [kI_n]
    by_cases hs : nI k &&& (nI f ^^^ m1) = 0
    · rw [if_pos hs, kI_5, ix5, all_n hpre.1 (by omega)]
      unfold fX2_seekOn_122 fX2_seekOn_125
      rw [se_isO, Option.bind_some, c_betO hal h1.2.2.2.2.2 h1.2.2.2.2.1, Option.bind_some]
      unfold fX2_seekOn_128
      cases hbt : btB (b + k * w5 d) B with
      | false =>
        rw [if_pos (show bI false = 0 by decide), hskip]
        obtain ⟨j, hj, hjk⟩ := btB_f hbt
        refine ⟨S1, B, rfl, h1.2.2.2.2.1, h1.2.2.2.2.2, Or.inl ⟨rfl, fun s hs => ?_⟩, soF_rf _ _⟩
        rw [hj]
        show ¬ key s < key j
        have h3 := key_mod (s := s) (d := d + 1) (by omega)
        rw [hmodS s hs.1 hs.2] at h3
        omega
      | true =>
        rw [if_neg (show ¬ bI true = 0 by decide)]
        unfold fX2_seekOn_131 fX2_seekOn_136
        obtain ⟨S2, k1, k2, k3⟩ := c_kA (S := S) (J := J) (T := T) (S1 := S1) (d := d) (D := 999 + d) htl ht0 hy (by omega) h1.1 h1.2.1 (rwS_inv hT hI d (by omega)) (x := nI k)
        rw [se_isO, Option.bind_some, k1, Option.bind_some]
        have hf2 : soF S1 S2 d := ⟨fun j hj => by rw [k3 17 (by simp; omega)], fun c c1 c2 c3 => k3 c (by simp; exact ⟨c3 (d + 1) (by omega) (by omega), c2⟩)⟩
        have f17 : S2 17 = S1 17 := k3 17 (by simp; omega)
        unfold fX2_seekOn_139
        by_cases hkp : dayR (S 170) (rwS (S 170) (S 174) P N F b d) P N F (nI k) false (S 170 0) 10 = rwS (S 170) (S 174) P N F b d 10
        · rw [decide_eq_true hkp, if_neg (show ¬ bI true = 0 by decide)]
          have hfree : nI k &&& (fre (S 170) (rwS (S 170) (S 174) P N F b d) F ^^^ m1) = 0 := by
            rw [sub_b] at hs ⊢
            intro i hi hx
            have := hs i hi hx
            rw [← hfe] at this
            unfold sfe at this
            rw [b_and, Bool.and_eq_true] at this
            exact this.1
          have hp2 := pre_s hP5 (by omega) (show k < 32 by omega) hpre hfree hkp
          obtain ⟨r1, r2⟩ := pre_row (r := S 170) (R := S 174) (P := P) (N := N) (F := F) (d := d) (by omega) hpre.1 (show k < 32 by omega)
          unfold fX2_seekOn_145
          by_cases hlast : d + 1 = n
          · rw [decide_eq_true hlast, if_neg (show ¬ bI true = 0 by decide)]
            unfold fX2_seekOn_150 fX2_seekOn_153
            rw [c_bc hal, Option.bind_some]
            unfold fX2_seekOn_156
            rw [se_p0, Option.bind_some, se_p1, Option.bind_some, stS_R, stS_R, stR_stR, stR_eq]
            have hsk2 := hskip (stR S2 17 (up (up (S2 17) 0 (nI (pc (b + k * w5 d)))) 1 (nI (b + k * w5 d))))
            rw [decide_eq_true hlast] at hsk2
            rw [hsk2]
            refine ⟨_, some (b + k * w5 d), rfl, ?_, fun j hj => by cases hj; exact hal, Or.inr ⟨b + k * w5 d, rfl, ⟨⟨⟨?_, ?_, ?_, ?_⟩, e2⟩, e1⟩, btB_t hbt, fun u hu => ?_⟩, soF_tr hf2 ⟨fun j hj => by rw [stR_eq, up_ne (by omega), up_ne (by omega)], fun c c1 c2 c3 => by rw [stR_ne c1]⟩⟩
            · rw [stR_eq]
              exact ⟨by rw [up_ne (by omega), up_eq], up_eq⟩
            · rw [← hlast]; exact e3
            · rw [← hlast]; exact hp2.2.1
            · rw [show n - 1 = d by omega, r1]; exact hdish hlast
            · rw [← hlast]; exact hp2.2.2
            · have h3 := key_mod (s := u) (d := d + 1) (by omega)
              rw [hmodS u hu.1 hu.2] at h3
              omega
          · rw [decide_eq_false hlast, if_pos (show bI false = 0 by decide)]
            unfold fX2_seekOn_168 fX2_seekOn_175
            obtain ⟨S3, B3, c1, c2, c3, c4, c5⟩ := hrec (by omega) (b + k * w5 d) S2 B ⟨by rw [hf2.2 t (by omega) (by omega) (fun e _ _ => by omega)]; exact h1.1, by rw [r2]; exact k2, by rw [f17]; exact h1.2.2.1, by rw [f17]; exact h1.2.2.2.1, by rw [f17]; exact h1.2.2.2.2.1, h1.2.2.2.2.2⟩ hp2
            rw [kI_1, nI_add, c1, Option.bind_some]
            have hsk2 := hskip S3
            rw [decide_eq_false hlast] at hsk2
            rw [hsk2]
            refine ⟨S3, B3, rfl, c2, c3, upd_cg (fun s => ?_) c4, soF_tr hf2 ⟨c5.1, fun c z1 z2 z3 => c5.2 c z1 z2 (fun e h1 h2 => z3 e (by omega) h2)⟩⟩
            refine ⟨fun z => ?_, fun z => ⟨z.1.1, hmodS s z.1 z.2⟩⟩
            have h4 := z.2
            rw [mod_s (by omega)] at h4
            have h5 : s % w5 d < w5 d := Nat.mod_lt _ (w5_p d (by omega)).2.1
            have h6 : (s % w5 d + dg s d * w5 d) % w5 d = (b + k * w5 d) % w5 d := by rw [h4]
            rw [Nat.add_mul_mod_self_right, Nat.mod_eq_of_lt h5, e2] at h6
            refine ⟨⟨z.1, h6⟩, ?_⟩
            have h7 := (dg_new (d := d) (b := s % w5 d) (k := dg s d) (by omega) h5 (dg_lt s d)).1
            rw [h4, e1] at h7
            exact h7.symm
        · rw [decide_eq_false hkp, if_pos (show bI false = 0 by decide)]
          unfold fX2_seekOn_142
          rw [hskip]
          refine ⟨S2, B, rfl, by rw [f17]; exact h1.2.2.2.2.1, h1.2.2.2.2.2, upd_no (fun s hs => hkp ?_), hf2⟩
          have q1 := rwS_k hP5 hs.1.1.2.2.2 (show d ≤ n by omega)
          have q2 := rwS_k hP5 hs.1.1.2.2.2 (show d + 1 ≤ n by omega)
          have q3 : dayR (S 170) (rwS (S 170) (S 174) P N F s d) P N F (nI (dg s d)) false (S 170 0) 10 = rwS (S 170) (S 174) P N F s d 10 := q2.trans q1.symm
          rwa [hgrow s hs.1, hs.2] at q3
    · rw [if_neg hs, hskip]
      refine ⟨S1, B, rfl, h1.2.2.2.2.1, h1.2.2.2.2.2, upd_no (fun s hs2 => hs ?_), soF_rf _ _⟩
      have := hgsub s hs2.1
      rwa [hs2.2] at this
end SO
