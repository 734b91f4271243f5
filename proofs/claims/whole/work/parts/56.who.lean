-- WHO NAMES: both ways agree
def AM (σ : Nat → Int) (l : Nat → Bool) (n : Nat) : Option Nat → Prop
  | none => ∀ k, k < n → l k = false
  | some j => j < n ∧ l j = true ∧ (∀ i, i < j → l i = true → σ i < σ j) ∧ (∀ i, j < i → i < n → l i = true → σ i ≤ σ j)
set_option maxRecDepth 100000 in
set_option maxHeartbeats 400000 in
theorem AM_uni {σ : Nat → Int} {l : Nat → Bool} {n : Nat} {b c : Option Nat} (h : AM σ l n b) (q : AM σ l n c) : b = c := by
  cases b with
  | none =>
    cases c with
    | none => rfl
    | some j => have := h j q.1; rw [q.2.1] at this; cases this
  | some i =>
    cases c with
    | none => have := q i h.1; rw [h.2.1] at this; cases this
    | some j =>
      obtain ⟨h1, h2, h3, h4⟩ := h
      obtain ⟨q1, q2, q3, q4⟩ := q
      rcases Nat.lt_trichotomy i j with z | z | z
      · have a1 := q3 i z h2
        have a2 := h4 j z q1 q2
        omega
      · rw [z]
      · have a1 := h3 j z q2
        have a2 := q4 i z h1 h2
        omega
set_option maxRecDepth 100000 in
set_option maxHeartbeats 400000 in
theorem AM_cg {σ τ : Nat → Int} {l k : Nat → Bool} {n : Nat} {b : Option Nat} (hl : ∀ i, i < n → l i = k i) (hs : ∀ i, i < n → l i = true → σ i = τ i) (h : AM σ l n b) : AM τ k n b := by
  cases b with
  | none => intro i hi; rw [← hl i hi]; exact h i hi
  | some j =>
    obtain ⟨h1, h2, h3, h4⟩ := h
    refine ⟨h1, by rw [← hl j h1]; exact h2, fun i hi q => ?_, fun i hi hn q => ?_⟩
    · have q' : l i = true := by rw [hl i (by omega)]; exact q
      rw [← hs i (by omega) q', ← hs j h1 h2]
      exact h3 i hi q'
    · have q' : l i = true := by rw [hl i hn]; exact q
      rw [← hs i hn q', ← hs j h1 h2]
      exact h4 i hi hn q'
set_option maxRecDepth 100000 in
set_option maxHeartbeats 400000 in
theorem AM_f {σ : Nat → Int} {l : Nat → Bool} {n : Nat} {b : Option Nat} (h : AM σ l n b) (hn : l n = false) : AM σ l (n + 1) b := by
  cases b with
  | none =>
    intro k hk
    by_cases e : k = n
    · rw [e]; exact hn
    · exact h k (by omega)
  | some j =>
    obtain ⟨h1, h2, h3, h4⟩ := h
    refine ⟨by omega, h2, h3, fun i hi hk q => ?_⟩
    by_cases e : i = n
    · rw [e, hn] at q; cases q
    · exact h4 i hi (by omega) q
set_option maxRecDepth 100000 in
set_option maxHeartbeats 400000 in
theorem AM_n {σ : Nat → Int} {l : Nat → Bool} {n : Nat} (h : AM σ l n none) (hn : l n = true) : AM σ l (n + 1) (some n) := by
  refine ⟨by omega, hn, fun i hi q => ?_, fun i hi hk _ => by omega⟩
  rw [h i hi] at q; cases q
set_option maxRecDepth 100000 in
set_option maxHeartbeats 400000 in
theorem AM_t {σ : Nat → Int} {l : Nat → Bool} {n j : Nat} (h : AM σ l n (some j)) (hn : l n = true) (hs : σ j < σ n) : AM σ l (n + 1) (some n) := by
  obtain ⟨h1, h2, h3, h4⟩ := h
  refine ⟨by omega, hn, fun i hi q => ?_, fun i hi hk _ => by omega⟩
  rcases Nat.lt_trichotomy i j with z | z | z
  · have := h3 i z q; omega
  · rw [z]; exact hs
  · have := h4 i z hi q; omega
set_option maxRecDepth 100000 in
set_option maxHeartbeats 400000 in
theorem AM_e {σ : Nat → Int} {l : Nat → Bool} {n j : Nat} (h : AM σ l n (some j)) (hs : ¬ σ j < σ n) : AM σ l (n + 1) (some j) := by
  obtain ⟨h1, h2, h3, h4⟩ := h
  refine ⟨by omega, h2, h3, fun i hi hk q => ?_⟩
  by_cases e : i = n
  · rw [e]; omega
  · exact h4 i hi (by omega) q
set_option maxRecDepth 100000 in
set_option maxHeartbeats 400000 in
theorem itr_succ {τ : Type} {f : Nat → τ → τ} : ∀ (n k : Nat) (s : τ), itr f (n + 1) k s = f (k + n) (itr f n k s) := by
  intro n
  induction n with
  | zero => intro k s; rfl
  | succ n ih =>
    intro k s
    show itr f (n + 1) (k + 1) (f k s) = f (k + (n + 1)) (itr f n (k + 1) (f k s))
    rw [ih, show k + 1 + n = k + (n + 1) by omega]
set_option maxRecDepth 100000 in
set_option maxHeartbeats 400000 in
theorem itr_cg {τ : Type} {f g : Nat → τ → τ} : ∀ (n k : Nat) (s : τ), (∀ i s, k ≤ i → i < k + n → f i s = g i s) → itr f n k s = itr g n k s := by
  intro n
  induction n with
  | zero => intro k s _; rfl
  | succ n ih =>
    intro k s h
    show itr f n (k + 1) (f k s) = itr g n (k + 1) (g k s)
    rw [h k s (by omega) (by omega)]
    exact ih (k + 1) _ (fun i s h1 h2 => h i s (by omega) (by omega))
set_option maxRecDepth 100000 in
set_option maxHeartbeats 400000 in
theorem am_AM {σ : Nat → Int} {lt : Nat → Nat → Bool} {l : Nat → Bool} (h : ∀ i j, lt i j = decide (σ i < σ j)) : ∀ n, AM σ l n (am lt l n 0 none) := by
  intro n
  induction n with
  | zero => intro k hk; omega
  | succ n ih =>
    unfold am at ih ⊢
    rw [itr_succ, Nat.zero_add]
    generalize itr (ams lt l) n 0 none = b at ih ⊢
    cases hl : l n with
    | false => rw [ams_f hl]; exact AM_f ih hl
    | true =>
      cases b with
      | none => rw [ams_n hl]; exact AM_n ih hl
      | some j =>
        by_cases hs : σ j < σ n
        · rw [ams_t hl (by rw [h]; exact decide_eq_true hs)]; exact AM_t ih hl hs
        · rw [ams_e hl (by rw [h]; exact decide_eq_false hs)]; exact AM_e ih hs
set_option maxRecDepth 100000 in
set_option maxHeartbeats 400000 in
theorem lt_toI (x y : Int32) : decide (x < y) = decide (x.toInt < y.toInt) := by
  have := Int32.lt_iff_toInt_lt (x := x) (y := y)
  by_cases h : x < y
  · rw [decide_eq_true h, decide_eq_true (this.mp h)]
  · rw [decide_eq_false h, decide_eq_false (fun z => h (this.mpr z))]
def lx (l : Nat → Bool) (f : Option Nat) (k : Nat) : Bool := l k && !decide (f = some k)
set_option maxRecDepth 100000 in
set_option maxHeartbeats 400000 in
theorem lx_t {l : Nat → Bool} {f : Option Nat} {k : Nat} (h : l k = true) (hf : f ≠ some k) : lx l f k = true := by unfold lx; rw [h, decide_eq_false hf]; rfl
set_option maxRecDepth 100000 in
set_option maxHeartbeats 400000 in
theorem lx_f {l : Nat → Bool} {f : Option Nat} {k : Nat} (h : l k = false) : lx l f k = false := by unfold lx; rw [h]; rfl
set_option maxRecDepth 100000 in
set_option maxHeartbeats 400000 in
theorem lx_s {l : Nat → Bool} {k : Nat} : lx l (some k) k = false := by unfold lx; rw [decide_eq_true rfl, Bool.not_true, Bool.and_false]
set_option maxRecDepth 100000 in
set_option maxHeartbeats 400000 in
theorem wn_AM {s : Nat → Int32} {l : Nat → Bool} : ∀ n, AM (fun i => (s i).toInt) l n (itr (wnS s l) n 0 (none, none)).1 ∧ AM (fun i => (s i).toInt) (lx l (itr (wnS s l) n 0 (none, none)).1) n (itr (wnS s l) n 0 (none, none)).2 := by
  intro n
  induction n with
  | zero => exact ⟨(fun k hk => by omega), (fun k hk => by omega)⟩
  | succ n ih =>
    rw [itr_succ, Nat.zero_add]
    generalize itr (wnS s l) n 0 (none, none) = q at ih ⊢
    obtain ⟨f, g⟩ := q
    obtain ⟨h1, h2⟩ := ih
    dsimp only at h1 h2
    cases hl : l n with
    | false =>
      have e : wnS s l n (f, g) = (f, g) := by unfold wnS; rw [hl]; rfl
      rw [e]
      exact ⟨AM_f h1 hl, AM_f h2 (lx_f hl)⟩
    | true =>
      cases f with
      | none =>
        have e : wnS s l n (none, g) = (some n, none) := by unfold wnS; rw [hl]; rfl
        rw [e]
        refine ⟨AM_n h1 hl, fun k hk => ?_⟩
        by_cases ek : k = n
        · rw [ek]; exact lx_s
        · exact lx_f (h1 k (by omega))
      | some j =>
        have hj := h1.1
        by_cases hs : s j < s n
        · have e : wnS s l n (some j, g) = (some n, some j) := by unfold wnS; rw [hl]; exact if_pos hs
          rw [e]
          refine ⟨AM_t h1 hl (Int32.lt_iff_toInt_lt.mp hs), ?_⟩
          have h3 : AM (fun i => (s i).toInt) (lx l (some n)) n (some j) := AM_cg (fun i hi => by unfold lx; rw [decide_eq_false (by intro z; cases z; omega), Bool.not_false, Bool.and_true]) (fun _ _ _ => rfl) h1
          exact AM_f h3 lx_s
        · have hs' : ¬ (s j).toInt < (s n).toInt := fun z => hs (Int32.lt_iff_toInt_lt.mpr z)
          have hln : lx l (some j) n = true := lx_t hl (by intro z; cases z; omega)
          cases g with
          | none =>
            have e : wnS s l n (some j, none) = (some j, some n) := by unfold wnS; rw [hl]; exact if_neg hs
            rw [e]
            exact ⟨AM_e h1 hs', AM_n h2 hln⟩
          | some g =>
            by_cases h3 : s g < s n
            · have e : wnS s l n (some j, some g) = (some j, some n) := by unfold wnS; rw [hl]; exact (if_neg hs).trans (if_pos h3)
              rw [e]
              exact ⟨AM_e h1 hs', AM_t h2 hln (Int32.lt_iff_toInt_lt.mp h3)⟩
            · have e : wnS s l n (some j, some g) = (some j, some g) := by unfold wnS; rw [hl]; exact (if_neg hs).trans (if_neg h3)
              rw [e]
              exact ⟨AM_e h1 hs', AM_e h2 (fun z => h3 (Int32.lt_iff_toInt_lt.mpr z))⟩
set_option maxRecDepth 100000 in
set_option maxHeartbeats 400000 in
theorem lv_gr {r R : Row} {P : Nat} (hP : P ≤ 5) (p : Nat) : lv (grR r R P) p = lv R p := by
  unfold lv
  rw [grR_ge (by omega)]
set_option maxRecDepth 100000 in
set_option maxHeartbeats 400000 in
theorem sh_gr {r R : Row} {P p : Nat} (hP : P ≤ 5) (hp : p < P) (hl : lv R p = true) : se r (grR r R P) p (grR r R P p) = sh r R p := by
  have e1 : grR r R P p = R p + r (10 + 2 * p) := if_pos ⟨hp, hl⟩
  have e2 : grR r R P (5 + p) = R (5 + p) := grR_ge (by omega)
  unfold sh se
  rw [e1, e2]
set_option maxRecDepth 100000 in
set_option maxHeartbeats 400000 in
theorem nr_AM {r R : Row} {P : Nat} (hP : P ≤ 5) (as : Option Nat) : AM (fun i => (sh r R i).toInt) (lx (lv R) as) P (nr r (grR r R P) P as) := by
  have q : AM (fun i => (se r (grR r R P) i (grR r R P i)).toInt) (nrl (grR r R P) as) P (nr r (grR r R P) P as) := by
    unfold nr
    exact am_AM (σ := fun i => (se r (grR r R P) i (grR r R P i)).toInt) (lt := fun j k => decide (se r (grR r R P) j (grR r R P j) < se r (grR r R P) k (grR r R P k))) (l := nrl (grR r R P) as) (fun i j => lt_toI (se r (grR r R P) i (grR r R P i)) (se r (grR r R P) j (grR r R P j))) P
  refine AM_cg (fun i hi => ?_) (fun i hi hl => ?_) q
  · unfold nrl lx
    rw [lv_gr hP]
  · unfold nrl at hl
    rw [lv_gr hP, Bool.and_eq_true] at hl
    show (se r (grR r R P) i (grR r R P i)).toInt = (sh r R i).toInt
    rw [sh_gr hP hi hl.1]
set_option maxRecDepth 100000 in
set_option maxHeartbeats 400000 in
theorem lx_none (l : Nat → Bool) : lx l none = l := by
  funext k
  unfold lx
  rw [decide_eq_false (by intro z; cases z), Bool.not_false, Bool.and_true]
set_option maxRecDepth 100000 in
set_option maxHeartbeats 400000 in
theorem nr_wn {r R : Row} {P : Nat} (hP : P ≤ 5) : nr r (grR r R P) P none = (itr (wnS (sh r R) (lv R)) P 0 (none, none)).1 ∧ nr r (grR r R P) P (nr r (grR r R P) P none) = (itr (wnS (sh r R) (lv R)) P 0 (none, none)).2 := by
  obtain ⟨h1, h2⟩ := wn_AM (s := sh r R) (l := lv R) P
  have q1 := nr_AM (r := r) (R := R) hP none
  rw [lx_none] at q1
  have e1 := AM_uni q1 h1
  have q2 := nr_AM (r := r) (R := R) hP (nr r (grR r R P) P none)
  rw [e1] at q2
  refine ⟨e1, ?_⟩
  rw [e1]
  exact AM_uni q2 h2
-- a name there is
set_option maxRecDepth 100000 in
set_option maxHeartbeats 400000 in
theorem nm_some {r : Row} {N : Nat} {hg : Int32} (h : ∃ k, k < N ∧ ¬ hg < r (19 + 2 * k)) : ∃ k, nm r N hg = some k ∧ k < N := by
  have q := am_AM (σ := fun k => (r (19 + 2 * k)).toInt) (lt := fun j k => decide (r (19 + 2 * j) < r (19 + 2 * k))) (l := fun k => !decide (hg < r (19 + 2 * k))) (fun i j => lt_toI _ _) N
  cases e : nm r N hg with
  | some k => exact ⟨k, rfl, nm_lt k e⟩
  | none =>
    unfold nm at e
    rw [e] at q
    obtain ⟨k, hk, hh⟩ := h
    have := q k hk
    dsimp only at this
    rw [decide_eq_false hh] at this
    cases this
-- bits of those who eat
set_option maxRecDepth 100000 in
set_option maxHeartbeats 400000 in
theorem b_m1 : ∀ i, i < 32 → bt m1 i = true := by decide +kernel
set_option maxRecDepth 100000 in
set_option maxHeartbeats 400000 in
theorem b_ev : ∀ P, P ≤ 5 → ∀ i, i < 32 → bt ((nI 1 <<< (nI P &&& 31)) - nI 1) i = decide (i < P) := by decide +kernel
set_option maxRecDepth 100000 in
set_option maxHeartbeats 400000 in
theorem b_lvm {r R : Row} {P p : Nat} (hP : r 3 = nI P) (hP5 : P ≤ 5) (hp : p < 32) : bt (lvm r R) p = (decide (p < P) && lv R p) := by
  unfold lvm lv
  rw [hP, b_and, b_ev P hP5 p hp, b_xor, b_m1 p hp, Bool.xor_true]
set_option maxRecDepth 100000 in
set_option maxHeartbeats 400000 in
theorem sq_cg {R : Row} {E E' : Nat → Bool} {P : Nat} (h : ∀ p, p < P → E p = E' p) : sq R E P = sq R E' P := by
  unfold sq
  rw [itr_cg (f := sqS R E) (g := sqS R E') P 0 [] (fun i s _ hi => by unfold sqS; rw [h i (by omega)])]
set_option maxRecDepth 100000 in
set_option maxHeartbeats 400000 in
theorem dSq_eq {r R : Row} {P : Nat} (hP : r 3 = nI P) (hP5 : P ≤ 5) (f : Int32) : dSq r R P f = sq (grR r R P) (fun p => lv (grR r R P) p && !bt f p) P := by
  unfold dSq
  refine sq_cg (fun p hp => ?_)
  rw [b_and, b_lvm hP hP5 (by omega), b_xor, b_m1 p (by omega), Bool.xor_true, decide_eq_true hp, Bool.true_and]
set_option maxRecDepth 100000 in
set_option maxHeartbeats 400000 in
theorem sq_nil {R : Row} {E : Nat → Bool} : ∀ P, (∀ p, p < P → E p = false) → sq R E P = [] := by
  intro P h
  have : ∀ n k, k + n ≤ P → itr (sqS R E) n k [] = [] := by
    intro n
    induction n with
    | zero => intro k _; rfl
    | succ n ih =>
      intro k hk
      show itr (sqS R E) n (k + 1) (sqS R E k []) = []
      have e : sqS R E k [] = [] := by unfold sqS; rw [h k (by omega)]; rfl
      rw [e]
      exact ih (k + 1) (by omega)
  unfold sq
  rw [this P 0 (by omega)]
  rfl
