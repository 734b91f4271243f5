-- WHAT A DAY LOOKS AT
def agT (r q : Row) (P N F : Nat) : Prop := (∀ j, j < 8 → r j = q j) ∧ (∀ p, p < P → r (9 + 2 * p) = q (9 + 2 * p) ∧ r (10 + 2 * p) = q (10 + 2 * p)) ∧ (∀ k, k < N → r (19 + 2 * k) = q (19 + 2 * k)) ∧ (∀ k, k < F → r (35 + 2 * k) = q (35 + 2 * k) ∧ r (36 + 2 * k) = q (36 + 2 * k))
def agR (R Q : Row) (P N : Nat) : Prop := (∀ p, p < P → R p = Q p ∧ R (5 + p) = Q (5 + p)) ∧ (∀ j, 10 ≤ j → j < 14 → R j = Q j) ∧ (∀ k, k < N → R (14 + k) = Q (14 + k))
section CG
variable {r q R Q : Row} {P N F : Nat}
set_option maxRecDepth 100000 in
set_option maxHeartbeats 400000 in
theorem ag_lv (h : agR R Q P N) (p : Nat) : lv R p = lv Q p := by unfold lv; rw [h.2.1 10 (by omega) (by omega)]
set_option maxRecDepth 100000 in
set_option maxHeartbeats 400000 in
theorem ag_sh (hr : agT r q P N F) (h : agR R Q P N) {p : Nat} (hp : p < P) : sh r R p = sh q Q p := by
  unfold sh se
  rw [(hr.2.1 p hp).1, (hr.2.1 p hp).2, (h.1 p hp).1, (h.1 p hp).2]
set_option maxRecDepth 100000 in
set_option maxHeartbeats 400000 in
theorem ag_wnp (hr : agT r q P N F) (h : agR R Q P N) : itr (wnS (sh r R) (lv R)) P 0 (none, none) = itr (wnS (sh q Q) (lv Q)) P 0 (none, none) := by
  obtain ⟨a1, a2⟩ := wn_AM (s := sh r R) (l := lv R) P
  obtain ⟨b1, b2⟩ := wn_AM (s := sh q Q) (l := lv Q) P
  have e1 := AM_uni (AM_cg (fun i _ => ag_lv h i) (fun i hi _ => by rw [ag_sh hr h hi]) a1) b1
  have e2 : (itr (wnS (sh r R) (lv R)) P 0 (none, none)).2 = (itr (wnS (sh q Q) (lv Q)) P 0 (none, none)).2 := by
    refine AM_uni (AM_cg (k := lx (lv Q) (itr (wnS (sh q Q) (lv Q)) P 0 (none, none)).1) (τ := fun i => (sh q Q i).toInt) (fun i _ => ?_) (fun i hi _ => by rw [ag_sh hr h hi]) a2) b2
    rw [e1]
    unfold lx
    rw [ag_lv h i]
  exact Prod.ext e1 e2
set_option maxRecDepth 100000 in
set_option maxHeartbeats 400000 in
theorem ag_wn (hr : agT r q P N F) (h : agR R Q P N) (fl : Bool) : wn r R P fl = wn q Q P fl := by
  unfold wn
  rw [ag_wnp hr h]
set_option maxRecDepth 100000 in
set_option maxHeartbeats 400000 in
theorem nm_AM (r : Row) (N : Nat) (hg : Int32) : AM (fun k => (r (19 + 2 * k)).toInt) (fun k => !decide (hg < r (19 + 2 * k))) N (nm r N hg) := by
  unfold nm
  exact am_AM (σ := fun k => (r (19 + 2 * k)).toInt) (lt := fun j k => decide (r (19 + 2 * j) < r (19 + 2 * k))) (l := fun k => !decide (hg < r (19 + 2 * k))) (fun i j => lt_toI (r (19 + 2 * i)) (r (19 + 2 * j))) N
set_option maxRecDepth 100000 in
set_option maxHeartbeats 400000 in
theorem ag_nm (hr : agT r q P N F) (hg : Int32) : nm r N hg = nm q N hg := by
  refine AM_uni (AM_cg (k := fun k => !decide (hg < q (19 + 2 * k))) (τ := fun k => (q (19 + 2 * k)).toInt) (fun i hi => ?_) (fun i hi _ => ?_) (nm_AM r N hg)) (nm_AM q N hg)
  · rw [hr.2.2.1 i hi]
  · rw [hr.2.2.1 i hi]
set_option maxRecDepth 100000 in
set_option maxHeartbeats 400000 in
theorem ag_dWt (hr : agT r q P N F) (h : agR R Q P N) (fl : Bool) : dWt r R P N fl = dWt q Q P N fl := by
  unfold dWt
  rw [← ag_wn hr h fl]
  cases e : wn r R P fl with
  | none => rfl
  | some p =>
    dsimp only
    rw [ag_sh hr h (wn_lt p e), ag_nm hr]
set_option maxRecDepth 100000 in
set_option maxHeartbeats 400000 in
theorem ag_fs (hr : agT r q P N F) (day x : Int32) : fs r day F 0 x = fs q day F 0 x := by
  unfold fs
  refine itr_cg F 0 x (fun i s _ hi => ?_)
  rw [(hr.2.2.2 i (by omega)).1, (hr.2.2.2 i (by omega)).2]
set_option maxRecDepth 100000 in
set_option maxHeartbeats 400000 in
theorem ag_dF (hr : agT r q P N F) (h : agR R Q P N) (bes : Int32) : dF r R F bes = dF q Q F bes := by
  unfold dF
  rw [ag_fs hr, h.2.1 13 (by omega) (by omega), h.2.1 11 (by omega) (by omega)]
set_option maxRecDepth 100000 in
set_option maxHeartbeats 400000 in
theorem ag_gr (hr : agT r q P N F) (h : agR R Q P N) {p : Nat} (hp : p < P) : grR r R P p = grR q Q P p := by
  unfold grR
  rw [ag_lv h, (h.1 p hp).1, (hr.2.1 p hp).2]
set_option maxRecDepth 100000 in
set_option maxHeartbeats 400000 in
theorem ag_lvm (hr : agT r q P N F) (h : agR R Q P N) (hP5 : P ≤ 5) : lvm r (grR r R P) = lvm q (grR q Q P) := by
  unfold lvm
  rw [grR_ge (by omega), grR_ge (by omega), hr.1 3 (by omega), h.2.1 10 (by omega) (by omega)]
set_option maxRecDepth 100000 in
set_option maxHeartbeats 400000 in
theorem itr_cg2 {τ : Type} {f g : Nat → τ → τ} (I : Nat → τ → Prop) {n0 : Nat} (hI : ∀ i s, i < n0 → I i s → I (i + 1) (f i s)) (h : ∀ i s, i < n0 → I i s → f i s = g i s) : ∀ (n k : Nat) (s : τ), k + n = n0 → I k s → itr f n k s = itr g n k s := by
  intro n
  induction n with
  | zero => intro k s _ _; rfl
  | succ n ih =>
    intro k s hk hs
    show itr f n (k + 1) (f k s) = itr g n (k + 1) (g k s)
    rw [← h k s (by omega) hs]
    exact ih (k + 1) _ (by omega) (hI k s (by omega) hs)
set_option maxRecDepth 100000 in
set_option maxHeartbeats 400000 in
theorem rins_cg {p : Nat} (hp : p < P) (h : ∀ j, j < P → R j = Q j) : ∀ (X : List Nat), (∀ x ∈ X, x < P) → rins R p X = rins Q p X := by
  intro X
  induction X with
  | nil => intro _; rfl
  | cons x xs ih =>
    intro hx
    unfold rins
    rw [h x (hx x List.mem_cons_self), h p hp, ih (fun y hy => hx y (List.mem_cons_of_mem _ hy))]
set_option maxRecDepth 100000 in
set_option maxHeartbeats 400000 in
theorem sq_cg2 {E : Nat → Bool} (h : ∀ j, j < P → R j = Q j) : sq R E P = sq Q E P := by
  unfold sq
  rw [itr_cg2 (f := sqS R E) (g := sqS Q E) (fun i X => ∀ x ∈ X, x < i) (n0 := P) (fun i X hi hX => ?_) (fun i X hi hX => ?_) P 0 [] (by omega) (fun x hx => by cases hx)]
  · intro x hx
    unfold sqS at hx
    split at hx
    · rcases rins_mem hx with z | z
      · omega
      · have := hX x z; omega
    · have := hX x hx; omega
  · unfold sqS
    rw [rins_cg hi h X (fun x hx => by have := hX x hx; omega)]
set_option maxRecDepth 100000 in
set_option maxHeartbeats 400000 in
theorem sq_lt {E : Nat → Bool} : ∀ p ∈ sq R E P, p < P := by
  intro p hp
  unfold sq at hp
  rw [List.mem_reverse] at hp
  exact itr_inv (f := sqS R E) (I := fun i X => ∀ x ∈ X, x < i) (N := P) (fun i X hi hX x hx => by
    unfold sqS at hx
    split at hx
    · rcases rins_mem hx with z | z
      · omega
      · have := hX x z; omega
    · have := hX x hx; omega) P 0 [] (by omega) (fun x hx => by cases hx) p hp
set_option maxRecDepth 100000 in
set_option maxHeartbeats 400000 in
theorem ag_dSq (hr : agT r q P N F) (h : agR R Q P N) (hP5 : P ≤ 5) (f : Int32) : dSq r R P f = dSq q Q P f := by
  unfold dSq
  rw [ag_lvm hr h hP5]
  exact sq_cg2 (fun j hj => ag_gr hr h hj)
-- portions look at hungers of those at table alone
def agS (P : Nat) (s t : Sv) : Prop := (∀ p, p < P → s.1 p = t.1 p) ∧ s.2.1 = t.2.1 ∧ s.2.2.1 = t.2.2.1 ∧ s.2.2.2 = t.2.2.2
set_option maxRecDepth 100000 in
set_option maxHeartbeats 400000 in
theorem ag_sv1 {w p : Nat} {s t : Sv} (hp : p < P) (h : agS P s t) : agS P (sv1 w s p) (sv1 w t p) := by
  obtain ⟨h1, h2, h3, h4⟩ := h
  unfold sv1
  rw [h1 p hp, h2, h3]
  split
  · exact ⟨h1, h2, h3, h4⟩
  · refine ⟨fun j hj => ?_, rfl, rfl, rfl⟩
    show upN s.1 p _ j = upN t.1 p _ j
    unfold upN
    split
    · rfl
    · exact h1 j hj
set_option maxRecDepth 100000 in
set_option maxHeartbeats 400000 in
theorem ag_rnd {w : Nat} : ∀ (L : List Nat) {s t : Sv}, (∀ p ∈ L, p < P) → agS P s t → agS P (rnd w L s) (rnd w L t) := by
  intro L
  induction L with
  | nil => intro s t _ h; exact h
  | cons p L ih => intro s t hL h; exact ih (fun x hx => hL x (List.mem_cons_of_mem _ hx)) (ag_sv1 (hL p List.mem_cons_self) h)
set_option maxRecDepth 100000 in
set_option maxHeartbeats 400000 in
theorem ag_srv {w : Nat} {L : List Nat} (hL : ∀ p ∈ L, p < P) : ∀ (n : Nat) {s t : Sv}, agS P s t → agS P (srv w L n s) (srv w L n t) := by
  intro n
  induction n with
  | zero => intro s t h; exact h
  | succ n ih =>
    intro s t h
    unfold srv
    rw [h.2.2.2]
    split
    · exact ih (ag_rnd L hL ⟨h.1, h.2.1, h.2.2.1, rfl⟩)
    · exact h
set_option maxRecDepth 100000 in
set_option maxHeartbeats 400000 in
theorem ag_wo (h : agR R Q P N) {x : Option Nat} (hx : ∀ k, x = some k → k < N) : wo R x = wo Q x := by
  cases x with
  | none => rfl
  | some k => exact h.2.2 k (hx k rfl)
set_option maxRecDepth 100000 in
set_option maxHeartbeats 400000 in
theorem ag_dPo (h : agR R Q P N) (bowl : Int32) : dPo R bowl = dPo Q bowl := by
  unfold dPo
  rw [h.2.1 12 (by omega) (by omega)]
set_option maxRecDepth 100000 in
set_option maxHeartbeats 400000 in
theorem ag_dSv (hr : agT r q P N F) (h : agR R Q P N) (hP5 : P ≤ 5) (f bowl : Int32) {x : Option Nat} (hx : ∀ k, x = some k → k < N) : agS P (dSv r R P f bowl x) (dSv q Q P f bowl x) := by
  unfold dSv
  rw [ag_wo h hx, ag_dSq hr h hP5, ag_dPo h]
  refine ag_srv (fun p hp => ?_) 100 ⟨fun p hp => ?_, rfl, rfl, rfl⟩
  · unfold dSq at hp
    exact sq_lt p hp
  · dsimp only
    rw [ag_gr hr h hp]
set_option maxRecDepth 100000 in
set_option maxHeartbeats 400000 in
theorem ag_dRw (hr : agT r q P N F) (h : agR R Q P N) (hP5 : P ≤ 5) (f bowl : Int32) {x : Option Nat} (hx : ∀ k, x = some k → k < N) : agR (dRw r R P f bowl x) (dRw q Q P f bowl x) P N := by
  obtain ⟨h1, h2, h3, h4⟩ := ag_dSv hr h hP5 f bowl hx
  unfold dRw
  refine ⟨fun p hp => ⟨?_, ?_⟩, fun j h10 h14 => ?_, fun k hk => ?_⟩
  · rw [pE_lo hp, pE_lo hp, h1 p hp]
  · unfold pE
    rw [if_neg (by omega), if_neg (by omega), if_neg (by omega), if_neg (by omega), grR_ge (by omega), grR_ge (by omega), (h.1 p hp).2]
  · unfold pE
    have e : ¬ j < P := by omega
    rw [h2, if_neg e, if_neg e]
    split
    · rfl
    · rw [grR_ge (by omega), grR_ge (by omega), h.2.1 j h10 h14]
  · unfold pE
    rw [if_neg (by omega), if_neg (by omega), if_neg (by omega), if_neg (by omega), grR_ge (by omega), grR_ge (by omega), h.2.2 k hk]
set_option maxRecDepth 100000 in
set_option maxHeartbeats 400000 in
theorem ag_ddR (hr : agT r q P N F) (h : agR R Q P N) : ∀ k, k ≤ P → ddR r R k = ddR q Q k := by
  intro k
  induction k with
  | zero => intro _; exact h.2.1 10 (by omega) (by omega)
  | succ k ih =>
    intro hk
    unfold ddR
    rw [ih (by omega), ag_lv h, hr.1 1 (by omega), (h.1 k (by omega)).1]
set_option maxRecDepth 100000 in
set_option maxHeartbeats 400000 in
theorem ag_dEnd (hr : agT r q P N F) (h : agR R Q P N) (hP5 : P ≤ 5) (f : Int32) : agR (dEnd r f R P) (dEnd q f Q P) P N := by
  unfold dEnd
  refine ⟨fun p hp => ⟨?_, ?_⟩, fun j h10 h14 => ?_, fun k hk => ?_⟩
  · rw [up_ne (by omega), up_ne (by omega), up_ne (by omega), up_ne (by omega), clR_lo (by omega), clR_lo (by omega), (h.1 p hp).1]
  · rw [up_ne (by omega), up_ne (by omega), up_ne (by omega), up_ne (by omega)]
    unfold clR
    rw [ag_ddR hr h P (Nat.le_refl _), ag_lv h, (h.1 p hp).2]
  · by_cases h13 : j = 13
    · subst h13
      rw [up_eq, up_eq, h.2.1 13 (by omega) (by omega)]
    · rw [up_ne h13, up_ne h13]
      by_cases h11 : j = 11
      · subst h11
        rw [up_eq, up_eq]
      · rw [up_ne h11, up_ne h11]
        by_cases h2 : j = 10
        · subst h2
          rw [clR_10 hP5, clR_10 hP5, ag_ddR hr h P (Nat.le_refl _)]
        · rw [clR_ge (by omega) h2, clR_ge (by omega) h2, h.2.1 j h10 h14]
  · rw [up_ne (by omega), up_ne (by omega), up_ne (by omega), up_ne (by omega), clR_ge (by omega) (by omega), clR_ge (by omega) (by omega), h.2.2 k hk]
set_option maxRecDepth 100000 in
set_option maxHeartbeats 400000 in
theorem ag_day (hr : agT r q P N F) (h : agR R Q P N) (hP5 : P ≤ 5) (bes : Int32) (fl : Bool) (bowl : Int32) : agR (dayR r R P N F bes fl bowl) (dayR q Q P N F bes fl bowl) P N ∧ dayE r R P N F bes fl bowl = dayE q Q P N F bes fl bowl := by
  unfold dayR dayE
  rw [ag_dF hr h, ag_dWt hr h]
  have hx : ∀ k, dWt q Q P N fl = some k → k < N := dWt_lt
  exact ⟨ag_dEnd hr (ag_dRw hr h hP5 _ bowl hx) hP5 _, (ag_dSv hr h hP5 _ bowl hx).2.2.1⟩
end CG
