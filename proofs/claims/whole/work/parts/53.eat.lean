-- SEATS AND PORTIONS
def upN (H : Nat → Nat) (p x : Nat) : Nat → Nat := fun j => if j = p then x else H j
set_option maxRecDepth 100000 in
set_option maxHeartbeats 4000000 in
theorem upN_eq {H : Nat → Nat} {p x : Nat} : upN H p x p = x := if_pos rfl
set_option maxRecDepth 100000 in
set_option maxHeartbeats 4000000 in
theorem upN_ne {H : Nat → Nat} {p x j : Nat} (h : j ≠ p) : upN H p x j = H j := if_neg h
-- seats, the last one first
def rins (R : Row) (p : Nat) : List Nat → List Nat
  | [] => [p]
  | x :: xs => if R x < R p then x :: rins R p xs else p :: x :: xs
def insO (R : Row) (o p : Nat) : Row → List Nat → Row
  | O, [] => up O o (nI p)
  | O, x :: xs => if R x < R p then insO R o p (up O (o + (xs.length + 1)) (nI x)) xs else up O (o + (xs.length + 1)) (nI p)
def ordA (o : Nat) (O : Row) : List Nat → Prop
  | [] => True
  | x :: xs => O (o + xs.length) = nI x ∧ ordA o O xs
set_option maxRecDepth 100000 in
set_option maxHeartbeats 4000000 in
theorem ordA_cg {o : Nat} {O O' : Row} : ∀ {X : List Nat}, (∀ i, i < X.length → O' (o + i) = O (o + i)) → ordA o O X → ordA o O' X := by
  intro X
  induction X with
  | nil => intro _ _; trivial
  | cons x xs ih =>
    intro h q
    refine ⟨?_, ih (fun i hi => h i (Nat.lt_succ_of_lt hi)) q.2⟩
    rw [h xs.length (Nat.lt_succ_self _)]
    exact q.1
set_option maxRecDepth 100000 in
set_option maxHeartbeats 4000000 in
theorem rins_len (R : Row) (p : Nat) : ∀ X : List Nat, (rins R p X).length = X.length + 1 := by
  intro X
  induction X with
  | nil => rfl
  | cons x xs ih =>
    unfold rins
    split
    · rw [List.length_cons, ih]; rfl
    · rfl
set_option maxRecDepth 100000 in
set_option maxHeartbeats 4000000 in
theorem rins_mem {R : Row} {p : Nat} : ∀ {X : List Nat} {q : Nat}, q ∈ rins R p X → q = p ∨ q ∈ X := by
  intro X
  induction X with
  | nil => intro q h; exact Or.inl (List.mem_singleton.mp h)
  | cons x xs ih =>
    intro q h
    unfold rins at h
    split at h
    · rcases List.mem_cons.mp h with h | h
      · exact Or.inr (List.mem_cons.mpr (Or.inl h))
      · rcases ih h with h | h
        · exact Or.inl h
        · exact Or.inr (List.mem_cons_of_mem _ h)
    · rcases List.mem_cons.mp h with h | h
      · exact Or.inl h
      · exact Or.inr h
set_option maxRecDepth 100000 in
set_option maxHeartbeats 4000000 in
theorem insO_ok {R : Row} {o p : Nat} : ∀ {X : List Nat} {O : Row}, ordA o O X → ordA o (insO R o p O X) (rins R p X) ∧ (∀ j, o + X.length < j → insO R o p O X j = O j) ∧ (∀ j, j < o → insO R o p O X j = O j) := by
  intro X
  induction X with
  | nil =>
    intro O _
    exact ⟨⟨up_eq, trivial⟩, fun j hj => up_ne (by rw [List.length_nil] at hj; omega), fun j hj => up_ne (by omega)⟩
  | cons x xs ih =>
    intro O h
    unfold rins insO
    by_cases hc : R x < R p
    · rw [if_pos hc, if_pos hc]
      obtain ⟨h1, h2, h3⟩ := ih (O := up O (o + (xs.length + 1)) (nI x)) (ordA_cg (fun i hi => up_ne (by omega)) h.2)
      refine ⟨⟨?_, h1⟩, fun j hj => ?_, fun j hj => ?_⟩
      · rw [rins_len, h2 _ (by omega), up_eq]
      · rw [List.length_cons] at hj
        rw [h2 j (by omega), up_ne (by omega)]
      · rw [h3 j hj, up_ne (by omega)]
    · rw [if_neg hc, if_neg hc]
      refine ⟨⟨?_, ?_⟩, fun j hj => ?_, fun j hj => up_ne (by omega)⟩
      · rw [List.length_cons, up_eq]
      · exact ordA_cg (fun i hi => up_ne (by rw [List.length_cons] at hi; omega)) h
      · rw [List.length_cons] at hj
        exact up_ne (by omega)
def sqS (R : Row) (E : Nat → Bool) (k : Nat) (X : List Nat) : List Nat := if E k then rins R k X else X
def sq (R : Row) (E : Nat → Bool) (P : Nat) : List Nat := (itr (sqS R E) P 0 []).reverse
set_option maxRecDepth 100000 in
set_option maxHeartbeats 4000000 in
theorem ordA_rev {o : Nat} {O : Row} : ∀ {X : List Nat}, ordA o O X → ∀ i p, X.reverse[i]? = some p → O (o + i) = nI p := by
  intro X
  induction X with
  | nil => intro _ i p h; simp at h
  | cons x xs ih =>
    intro h i p hp
    rw [List.reverse_cons] at hp
    by_cases hi : i < xs.length
    · rw [List.getElem?_append_left (by rw [List.length_reverse]; exact hi)] at hp
      exact ih h.2 i p hp
    · rw [List.getElem?_append_right (by rw [List.length_reverse]; omega), List.length_reverse] at hp
      have e : i - xs.length = 0 := by
        rcases Nat.eq_zero_or_pos (i - xs.length) with z | z
        · exact z
        · rw [List.getElem?_eq_none (by simp; omega)] at hp; cases hp
      rw [e] at hp
      cases hp
      rw [show i = xs.length by omega]
      exact h.1
set_option maxRecDepth 100000 in
set_option maxHeartbeats 4000000 in
theorem pm1 (n : Nat) : nI (n + 1) + m1 = nI n := by
  rw [← nI_add n 1]
  show nI n + nI 1 + m1 = nI n
  rw [Int32.add_assoc, show nI 1 + m1 = 0 by decide, Int32.add_zero]
set_option maxRecDepth 100000 in
set_option maxHeartbeats 4000000 in
theorem sb1 (n : Nat) : nI (n + 1) - nI 1 = nI n := by
  rw [← nI_add n 1, Int32.add_sub_cancel]
set_option maxRecDepth 100000 in
set_option maxHeartbeats 4000000 in
theorem pos_eq {n : Nat} (h : n < 5000) : (0 < nI n) = (0 < n) := by rw [show (0 : Int32) = nI 0 from rfl]; exact lt_eq (by omega) h
section SEAT
variable {S : Mem} {J : MeJ} {T : Nat → Nat} {w a m t : Nat}
set_option maxRecDepth 100000 in
set_option maxHeartbeats 4000000 in
theorem l_seatIn (hm : mlA m) (ha : plA a) (ht : tlA t) (hne : a ≠ m) {p n : Nat} (hp5 : p < 5) {e : Int32} (k6 : Nat → Nat → Nat → Int32 → Int32 → Int32 → aH → Option (Int32 × aH)) : ∀ (X : List Nat) (O : Row) (f : Nat), X.length < f → X.length < 5 → (∀ x ∈ X, x < 5) → ordA 7 O X → lX6_seat_29 k6 f m t a e (nI n) (nI p) (nI X.length) (hp (stR S m O) J T) = k6 m t a e (nI (n + 1)) (nI (p + 1)) (hp (stR S m (insO (S a) 7 p O X)) J T) := by
  intro X
  induction X with
  | nil =>
    intro O f hf hl hx ho
    obtain ⟨f, rfl⟩ : ∃ g, f = g + 1 := ⟨f - 1, by omega⟩
    unfold lX6_seat_29 insO
    simp (disch := omega) only [gX6_seat, fX6_seat_0, fX6_seat_6, fX6_seat_15, fX6_seat_25, fX6_seat_29, fX6_seat_34, fX6_seat_58, fX6_seat_80, fX6_seat_92, fX6_seat_98, kI_0, tl_g3 ht, kI_1, pl_f0 ha, pl_r0 ha, pl_w0 ha, ml_f3 hm, ml_r3 hm, ml_w3 hm, kI_n, Option.bind_some, n35, n9, n19, n51, n59, nI_add, ix2, ix8, ix22, ix5, ↓reduceIte, List.length_nil, pos_eq, Nat.lt_irrefl, stS_R, stR_stR, stR_eq, Nat.add_zero]
  | cons x xs ih =>
    intro O f hf hl hx ho
    obtain ⟨f, rfl⟩ : ∃ g, f = g + 1 := ⟨f - 1, by omega⟩
    have hx5 := hx x List.mem_cons_self
    rw [List.length_cons] at hf hl
    unfold lX6_seat_29 insO
    by_cases hc : S a x < S a p
    · rw [if_pos hc, List.length_cons]
      simp (disch := omega) only [gX6_seat, fX6_seat_0, fX6_seat_6, fX6_seat_15, fX6_seat_25, fX6_seat_29, fX6_seat_34, fX6_seat_58, fX6_seat_80, fX6_seat_92, fX6_seat_98, kI_0, tl_g3 ht, kI_1, pl_f0 ha, pl_r0 ha, pl_w0 ha, ml_f3 hm, ml_r3 hm, ml_w3 hm, kI_n, Option.bind_some, n35, n9, n19, n51, n59, nI_add, ix2, ix8, ix22, ix5, ↓reduceIte, pos_eq, Nat.succ_pos, sb1, pm1, stR_eq, stR_ne hne, ho.1, hc, stS_R, stR_stR]
      exact ih _ f (by omega) (by omega) (fun y hy => hx y (List.mem_cons_of_mem _ hy)) (ordA_cg (fun i hi => up_ne (by omega)) ho.2)
    · rw [if_neg hc, List.length_cons]
      simp (disch := omega) only [gX6_seat, fX6_seat_0, fX6_seat_6, fX6_seat_15, fX6_seat_25, fX6_seat_29, fX6_seat_34, fX6_seat_58, fX6_seat_80, fX6_seat_92, fX6_seat_98, kI_0, tl_g3 ht, kI_1, pl_f0 ha, pl_r0 ha, pl_w0 ha, ml_f3 hm, ml_r3 hm, ml_w3 hm, kI_n, Option.bind_some, n35, n9, n19, n51, n59, nI_add, ix2, ix8, ix22, ix5, ↓reduceIte, pos_eq, Nat.succ_pos, sb1, pm1, stR_eq, stR_ne hne, ho.1, hc, stS_R, stR_stR]
def soS (R : Row) (E : Nat → Bool) (o k : Nat) (q : List Nat × Row) : List Nat × Row := if E k then (rins R k q.1, insO R o k q.2 q.1) else q
set_option maxRecDepth 100000 in
set_option maxHeartbeats 4000000 in
theorem soS_1 {R : Row} {E : Nat → Bool} {o : Nat} : ∀ (n k : Nat) (q : List Nat × Row), (itr (soS R E o) n k q).1 = itr (sqS R E) n k q.1 := by
  intro n
  induction n with
  | zero => intro k q; rfl
  | succ n ih =>
    intro k q
    show (itr (soS R E o) n (k + 1) (soS R E o k q)).1 = itr (sqS R E) n (k + 1) (sqS R E k q.1)
    rw [ih]
    congr 1
    unfold soS sqS
    split <;> rfl
-- what holds of the seats
def sqI (o : Nat) (O0 : Row) (k : Nat) (q : List Nat × Row) : Prop := q.1.length ≤ k ∧ (∀ x ∈ q.1, x < k) ∧ ordA o q.2 q.1 ∧ (∀ j, j < o ∨ o + 5 ≤ j → q.2 j = O0 j)
set_option maxRecDepth 100000 in
set_option maxHeartbeats 4000000 in
theorem sqI_s {R : Row} {E : Nat → Bool} {o k : Nat} {O0 : Row} {q : List Nat × Row} (hk : k < 5) (h : sqI o O0 k q) : sqI o O0 (k + 1) (soS R E o k q) := by
  obtain ⟨h1, h2, h3, h4⟩ := h
  unfold soS
  split
  · obtain ⟨g1, g2, g3⟩ := insO_ok (R := R) (p := k) h3
    refine ⟨by dsimp only; rw [rins_len]; omega, fun x hx => ?_, g1, fun j hj => ?_⟩
    · rcases rins_mem hx with z | z
      · omega
      · have := h2 x z; omega
    · rcases hj with hj | hj
      · exact (g3 j hj).trans (h4 j (Or.inl hj))
      · exact (g2 j (by omega)).trans (h4 j (Or.inr hj))
  · exact ⟨by omega, fun x hx => by have := h2 x hx; omega, h3, h4⟩
set_option maxRecDepth 100000 in
set_option maxHeartbeats 4000000 in
theorem c_seat (hm : mlA m) (ha : plA a) (ht : tlA t) (hne : a ≠ m) (hnt : t ≠ m) {P : Nat} (hP : S t 3 = nI P) (hP5 : P ≤ 5) {e : Int32} : ∃ O : Row, gX6_seat m t a e (hp S J T) = some (nI (sq (S a) (bt e) P).length, hp (stR S m O) J T) ∧ (∀ i p, (sq (S a) (bt e) P)[i]? = some p → O (7 + i) = nI p) ∧ (∀ j, j < 7 → O j = S m j) ∧ (sq (S a) (bt e) P).length ≤ P ∧ (∀ p ∈ sq (S a) (bt e) P, p < P) := by
  have hI0 : sqI 7 (S m) 0 ([], S m) := ⟨Nat.le_refl _, (fun x hx => by cases hx), trivial, fun _ _ => rfl⟩
  have hI := itr_inv (f := soS (S a) (bt e) 7) (I := sqI 7 (S m)) (N := P) (fun k s hk h => sqI_s (by omega) h) P 0 ([], S m) (by omega) hI0
  have e1 := soS_1 (R := S a) (E := bt e) (o := 7) P 0 ([], S m)
  refine ⟨(itr (soS (S a) (bt e) 7) P 0 ([], S m)).2, ?_, ?_, fun j hj => hI.2.2.2 j (Or.inl hj), ?_, ?_⟩
  · unfold gX6_seat fX6_seat_0
    rw [kI_0]
    have h0 : hp S J T = hp (stR S m (S m)) J T := by rw [stR_self]
    rw [h0]
    refine (for_loop lX6_seat_6 fX6_seat_6 (fun _ => rfl) (fun K k (q : List Nat × Row) => K m t a e (nI q.1.length) (nI k) (hp (stR S m q.2) J T)) (sqI 7 (S m)) P (soS (S a) (bt e) 7) (fun q => some (nI q.1.length, hp (stR S m q.2) J T)) (fun K k q hk h => ?_) (fun k q hk h => sqI_s (by omega) h) (fun K q h => ?_) P 0 FU ([], S m) (by omega) (FU_lt (by omega)) hI0).trans ?_
    · obtain ⟨h1, h2, h3, h4⟩ := h
      cases he : bt e k with
      | true =>
        have es : soS (S a) (bt e) 7 k q = (rins (S a) k q.1, insO (S a) 7 k q.2 q.1) := by unfold soS; rw [he]; rfl
        rw [es]
        simp (disch := omega) only [gX6_seat, fX6_seat_0, fX6_seat_6, fX6_seat_15, fX6_seat_25, fX6_seat_29, fX6_seat_34, fX6_seat_58, fX6_seat_80, fX6_seat_92, fX6_seat_98, kI_0, tl_g3 ht, kI_1, pl_f0 ha, pl_r0 ha, pl_w0 ha, ml_f3 hm, ml_r3 hm, ml_w3 hm, kI_n, Option.bind_some, n35, n9, n19, n51, n59, nI_add, ix2, ix8, ix22, ix5, ↓reduceIte, stR_ne hnt, hP, lt_eq, hk, bt_eq, he, rins_len]
        exact l_seatIn hm ha ht hne (by omega) K q.1 q.2 FU (FU_lt (by omega)) (by omega) (fun x hx => by have := h2 x hx; omega) h3
      | false =>
        have es : soS (S a) (bt e) 7 k q = q := by unfold soS; rw [he]; rfl
        rw [es]
        simp (disch := omega) only [gX6_seat, fX6_seat_0, fX6_seat_6, fX6_seat_15, fX6_seat_25, fX6_seat_29, fX6_seat_34, fX6_seat_58, fX6_seat_80, fX6_seat_92, fX6_seat_98, kI_0, tl_g3 ht, kI_1, pl_f0 ha, pl_r0 ha, pl_w0 ha, ml_f3 hm, ml_r3 hm, ml_w3 hm, kI_n, Option.bind_some, n35, n9, n19, n51, n59, nI_add, ix2, ix8, ix22, ix5, ↓reduceIte, stR_ne hnt, hP, lt_eq, hk, bt_eq, he, Bool.false_eq_true]
    · simp (disch := omega) only [gX6_seat, fX6_seat_0, fX6_seat_6, fX6_seat_15, fX6_seat_25, fX6_seat_29, fX6_seat_34, fX6_seat_58, fX6_seat_80, fX6_seat_92, fX6_seat_98, kI_0, tl_g3 ht, kI_1, pl_f0 ha, pl_r0 ha, pl_w0 ha, ml_f3 hm, ml_r3 hm, ml_w3 hm, kI_n, Option.bind_some, n35, n9, n19, n51, n59, nI_add, ix2, ix8, ix22, ix5, ↓reduceIte, stR_ne hnt, hP, lt_eq, Nat.lt_irrefl]
    · rw [e1]
      unfold sq
      rw [List.length_reverse]
  · intro i p hp
    unfold sq at hp
    rw [← e1] at hp
    exact ordA_rev hI.2.2.1 i p hp
  · unfold sq
    rw [List.length_reverse, ← e1]
    exact hI.1
  · intro p hp
    unfold sq at hp
    rw [List.mem_reverse, ← e1] at hp
    exact hI.2.1 p hp
end SEAT
-- a row of numbers that are all alike
def flR (R : Row) (o : Nat) (x : Int32) (k : Nat) : Row := fun j => if o ≤ j ∧ j < o + k then x else R j
set_option maxRecDepth 100000 in
set_option maxHeartbeats 4000000 in
theorem flR_0 (R : Row) (o : Nat) (x : Int32) : flR R o x 0 = R := by funext j; unfold flR; rw [if_neg (by omega)]
set_option maxRecDepth 100000 in
set_option maxHeartbeats 4000000 in
theorem flR_s (R : Row) (o : Nat) (x : Int32) (k : Nat) : up (flR R o x k) (o + k) x = flR R o x (k + 1) := by
  funext j
  unfold up flR
  by_cases h : j = o + k
  · rw [if_pos h, if_pos (by omega)]
  · rw [if_neg h]
    by_cases h2 : o ≤ j ∧ j < o + k
    · have h3 : o ≤ j ∧ j < o + (k + 1) := by omega
      rw [if_pos h2, if_pos h3]
    · have h3 : ¬ (o ≤ j ∧ j < o + (k + 1)) := by omega
      rw [if_neg h2, if_neg h3]
set_option maxRecDepth 100000 in
set_option maxHeartbeats 4000000 in
theorem c_fill {S : Mem} {J : MeJ} {T : Nat → Nat} {c b o n : Nat} {x : Int32} (hc : SH[c]? = some (.inl (0, b, o, 1, n))) (hn : n < 100) : gJ7_fill_53178 c x (hp S J T) = some (hp (stR S b (flR (S b) o x n)) J T) := by
  simp only [gJ7_fill_53178, fJ7_fill_53178_0, kI_0, hp_aLn hc (by omega), Option.bind_some]
  have h0 : hp S J T = hp (stR S b (flR (S b) o x 0)) J T := by rw [flR_0, stR_self]
  rw [h0]
  refine for_at lJ7_fill_53178_5 fJ7_fill_53178_5 (fun _ => rfl) (fun K k (R : Row) => K c x (nI k) (nI n) (hp (stR S b R) J T)) n (flR (S b) o x) _ (fun K k hk => ?_) (fun K => ?_) (FU_lt (by omega))
  · rw [← flR_s]
    have hw : aWI (hp (stR S b (flR (S b) o x k)) J T) c (nI k) x = some (hp (stS (stR S b (flR (S b) o x k)) b (o + k) x) J T) := hp_aWI hc (by omega) hk (by omega) (by omega)
    simp (disch := omega) only [gJ7_fill_53178, fJ7_fill_53178_0, fJ7_fill_53178_5, fJ7_fill_53178_10, fJ7_fill_53178_20, kI_0, kI_1, Option.bind_some, n35, n9, n19, n51, n59, nI_add, ix2, ix8, ix22, ix5, ↓reduceIte, lt_eq, hk, hw, stS_R, stR_stR, stR_eq]
  · simp (disch := omega) only [gJ7_fill_53178, fJ7_fill_53178_0, fJ7_fill_53178_5, fJ7_fill_53178_10, fJ7_fill_53178_20, kI_0, kI_1, Option.bind_some, n35, n9, n19, n51, n59, nI_add, ix2, ix8, ix22, ix5, ↓reduceIte, lt_eq, Nat.lt_irrefl]
-- portions
abbrev Sv : Type := (Nat → Nat) × Nat × (Nat → Nat) × Bool
def sv1 (w : Nat) (s : Sv) (p : Nat) : Sv := if s.2.1 = 0 ∨ s.1 p = 0 then s else (upN s.1 p (s.1 p - w), s.2.1 - 1, upN s.2.2.1 p (s.2.2.1 p + 1), true)
def rnd (w : Nat) (F : List Nat) (s : Sv) : Sv := F.foldl (sv1 w) s
def srv (w : Nat) (F : List Nat) : Nat → Sv → Sv
  | 0, s => s
  | n + 1, s => if s.2.2.2 then srv w F n (rnd w F (s.1, s.2.1, s.2.2.1, false)) else s
set_option maxRecDepth 100000 in
set_option maxHeartbeats 4000000 in
theorem sv1_le (w : Nat) (s : Sv) (p : Nat) : (∀ q, (sv1 w s p).1 q ≤ s.1 q) ∧ (sv1 w s p).2.1 ≤ s.2.1 := by
  unfold sv1
  split
  · exact ⟨fun q => Nat.le_refl _, Nat.le_refl _⟩
  · refine ⟨fun q => ?_, Nat.sub_le _ _⟩
    show upN s.1 p (s.1 p - w) q ≤ s.1 q
    unfold upN
    split
    · rename_i h; rw [h]; exact Nat.sub_le _ _
    · exact Nat.le_refl _
set_option maxRecDepth 100000 in
set_option maxHeartbeats 4000000 in
theorem rnd_le (w : Nat) : ∀ (F : List Nat) (s : Sv), (∀ q, (rnd w F s).1 q ≤ s.1 q) ∧ (rnd w F s).2.1 ≤ s.2.1 := by
  intro F
  induction F with
  | nil => intro s; exact ⟨fun q => Nat.le_refl _, Nat.le_refl _⟩
  | cons p F ih =>
    intro s
    have h1 := sv1_le w s p
    have h2 := ih (sv1 w s p)
    exact ⟨fun q => Nat.le_trans (h2.1 q) (h1.1 q), Nat.le_trans h2.2 h1.2⟩
def pE (P : Nat) (R : Row) (H : Nat → Nat) (l : Nat) : Row := fun j => if j < P then nI (H j) else if j = 12 then nI l else R j
def mE (O : Row) (E : Nat → Nat) : Row := fun j => if 2 ≤ j ∧ j < 7 then nI (E (j - 2)) else O j
set_option maxRecDepth 100000 in
set_option maxHeartbeats 4000000 in
theorem pE_lo {P : Nat} {R : Row} {H : Nat → Nat} {l j : Nat} (h : j < P) : pE P R H l j = nI (H j) := if_pos h
set_option maxRecDepth 100000 in
set_option maxHeartbeats 4000000 in
theorem pE_12 {P : Nat} {R : Row} {H : Nat → Nat} {l : Nat} (h : P ≤ 12) : pE P R H l 12 = nI l := by unfold pE; rw [if_neg (by omega), if_pos rfl]
set_option maxRecDepth 100000 in
set_option maxHeartbeats 4000000 in
theorem pE_up {P : Nat} {R : Row} {H : Nat → Nat} {l p x : Nat} (h : p < P) : up (pE P R H l) p (nI x) = pE P R (upN H p x) l := by
  funext j
  unfold up pE upN
  by_cases h1 : j = p
  · rw [if_pos h1, if_pos (by omega), if_pos h1]
  · rw [if_neg h1, if_neg h1]
set_option maxRecDepth 100000 in
set_option maxHeartbeats 4000000 in
theorem pE_u12 {P : Nat} {R : Row} {H : Nat → Nat} {l l' : Nat} (h : P ≤ 12) : up (pE P R H l) 12 (nI l') = pE P R H l' := by
  funext j
  unfold up pE
  by_cases h1 : j = 12
  · rw [if_pos h1, if_neg (by omega), if_pos h1]
  · rw [if_neg h1, if_neg h1, if_neg h1]
set_option maxRecDepth 100000 in
set_option maxHeartbeats 4000000 in
theorem mE_hi {O : Row} {E : Nat → Nat} {j : Nat} : mE O E (7 + j) = O (7 + j) := if_neg (by omega)
set_option maxRecDepth 100000 in
set_option maxHeartbeats 4000000 in
theorem mE_lo {O : Row} {E : Nat → Nat} {j : Nat} (h : j < 5) : mE O E (2 + j) = nI (E j) := by
  unfold mE
  rw [if_pos (by omega), Nat.add_sub_cancel_left]
set_option maxRecDepth 100000 in
set_option maxHeartbeats 4000000 in
theorem mE_up {O : Row} {E : Nat → Nat} {p x : Nat} (h : p < 5) : up (mE O E) (2 + p) (nI x) = mE O (upN E p x) := by
  funext j
  unfold up mE upN
  by_cases h1 : j = 2 + p
  · have h2 : 2 ≤ j ∧ j < 7 := by omega
    have h3 : j - 2 = p := by omega
    rw [if_pos h1, if_pos h2, if_pos h3]
  · rw [if_neg h1]
    by_cases h2 : 2 ≤ j ∧ j < 7
    · have h3 : ¬ j - 2 = p := by omega
      rw [if_pos h2, if_pos h2, if_neg h3]
    · rw [if_neg h2, if_neg h2]
set_option maxRecDepth 100000 in
set_option maxHeartbeats 4000000 in
theorem nsub {a b : Nat} (h : b ≤ a) : nI a - nI b = nI (a - b) := by
  have e : nI a = nI (a - b) + nI b := by rw [nI_add, Nat.sub_add_cancel h]
  rw [e, Int32.add_sub_cancel]
set_option maxRecDepth 100000 in
set_option maxHeartbeats 4000000 in
theorem mx0 {h w : Nat} (h1 : h < 5000) (h2 : w < 5000) : (if nI 0 < nI h - nI w then nI h - nI w else nI 0) = nI (h - w) := by
  rcases Nat.lt_or_ge h w with q | q
  · have e : ¬ nI 0 < nI h - nI w := Int32.lt_asymm (pk_sneg (by omega) q)
    rw [if_neg e, show h - w = 0 by omega]
  · rw [nsub q]
    rcases Nat.eq_zero_or_pos (h - w) with z | z
    · rw [z]; split <;> rfl
    · rw [if_pos ((lt_iff (by omega) (by omega)).mpr z)]
section SERVE
variable {S : Mem} {J : MeJ} {T : Nat → Nat} {a m t : Nat}
set_option maxRecDepth 100000 in
set_option maxHeartbeats 4000000 in
theorem l_serveIn (hm : mlA m) (ha : plA a) (hne : a ≠ m) {P w : Nat} (hP5 : P ≤ 5) (hw : w < 5000) {O R : Row} {F : List Nat} (hF : ∀ p ∈ F, p < P) (hO : ∀ i p, F[i]? = some p → O (7 + i) = nI p) (hl5 : F.length ≤ 5) {rd : Int32} (k23 : Nat → Nat → Int32 → Int32 → Int32 → Int32 → aH → Option aH) : ∀ (G : List Nat) (i f : Nat) (s : Sv), F.drop i = G → G.length < f → i + G.length = F.length → (∀ p, p < P → s.1 p < 5000) → s.2.1 < 5000 → lX6_serve_41 k23 f m a (nI F.length) (nI w) (bI s.2.2.2) rd (nI i) (hp (stR (stR S a (pE P R s.1 s.2.1)) m (mE O s.2.2.1)) J T) = k23 m a (nI F.length) (nI w) (bI (rnd w G s).2.2.2) (rd + nI 1) (hp (stR (stR S a (pE P R (rnd w G s).1 (rnd w G s).2.1)) m (mE O (rnd w G s).2.2.1)) J T) := by
  intro G
  induction G with
  | nil =>
    intro i f s hd hf hi hs hl
    obtain ⟨f, rfl⟩ : ∃ g, f = g + 1 := ⟨f - 1, by omega⟩
    rw [List.length_nil, Nat.add_zero] at hi
    unfold lX6_serve_41
    simp (disch := omega) only [gX6_serve, fX6_serve_0, fX6_serve_5, fX6_serve_8, fX6_serve_13, fX6_serve_16, fX6_serve_23, fX6_serve_30, fX6_serve_35, fX6_serve_41, fX6_serve_47, fX6_serve_54, fX6_serve_73, fX6_serve_89, fX6_serve_92, fX6_serve_117, fX6_serve_123, fX6_serve_129, ml_f2 hm, ml_r2 hm, ml_w2 hm, kI_0, ml_g1 hm, pl_isO ha, kI_1, kB_99, pl_g5 ha, ml_f3 hm, ml_r3 hm, ml_w3 hm, pl_f0 ha, pl_r0 ha, pl_w0 ha, pl_p5 ha, Option.bind_some, n35, n9, n19, n51, n59, nI_add, ix2, ix8, ix22, ix5, ↓reduceIte, lt_eq, hi, Nat.lt_irrefl]
    rfl
  | cons p G ih =>
    intro i f s hd hf hi hs hl
    obtain ⟨f, rfl⟩ : ∃ g, f = g + 1 := ⟨f - 1, by omega⟩
    rw [List.length_cons] at hi hf
    have hip : F[i]? = some p := by
      have := congrArg (fun l => l[0]?) hd
      simpa using this
    have hpP : p < P := hF p (List.mem_of_getElem? hip)
    have hoi := hO i p hip
    have hd' : F.drop (i + 1) = G := by
      have := congrArg List.tail hd
      simpa using this
    have hsp := hs p hpP
    unfold lX6_serve_41
    show _ = k23 m a _ _ (bI (rnd w G (sv1 w s p)).2.2.2) _ (hp (stR (stR S a (pE P R (rnd w G (sv1 w s p)).1 (rnd w G (sv1 w s p)).2.1)) m (mE O (rnd w G (sv1 w s p)).2.2.1)) J T)
    by_cases h0 : s.2.1 = 0
    · have e : ∀ (G : List Nat), rnd w G s = s := by
        intro G
        induction G with
        | nil => rfl
        | cons q G ih2 =>
          have e1 : sv1 w s q = s := if_pos (Or.inl h0)
          show rnd w G (sv1 w s q) = s
          rw [e1, ih2]
      have e1 : sv1 w s p = s := if_pos (Or.inl h0)
      rw [e1, e]
      simp (disch := omega) only [gX6_serve, fX6_serve_0, fX6_serve_5, fX6_serve_8, fX6_serve_13, fX6_serve_16, fX6_serve_23, fX6_serve_30, fX6_serve_35, fX6_serve_41, fX6_serve_47, fX6_serve_54, fX6_serve_73, fX6_serve_89, fX6_serve_92, fX6_serve_117, fX6_serve_123, fX6_serve_129, ml_f2 hm, ml_r2 hm, ml_w2 hm, kI_0, ml_g1 hm, pl_isO ha, kI_1, kB_99, pl_g5 ha, ml_f3 hm, ml_r3 hm, ml_w3 hm, pl_f0 ha, pl_r0 ha, pl_w0 ha, pl_p5 ha, Option.bind_some, n35, n9, n19, n51, n59, nI_add, ix2, ix8, ix22, ix5, ↓reduceIte, lt_eq, show i < F.length by omega, stR_eq, stR_ne hne, pE_12, pos_eq, h0, Nat.lt_irrefl]
    · by_cases h1 : s.1 p = 0
      · have e1 : sv1 w s p = s := if_pos (Or.inr h1)
        rw [e1]
        simp (disch := omega) only [gX6_serve, fX6_serve_0, fX6_serve_5, fX6_serve_8, fX6_serve_13, fX6_serve_16, fX6_serve_23, fX6_serve_30, fX6_serve_35, fX6_serve_41, fX6_serve_47, fX6_serve_54, fX6_serve_73, fX6_serve_89, fX6_serve_92, fX6_serve_117, fX6_serve_123, fX6_serve_129, ml_f2 hm, ml_r2 hm, ml_w2 hm, kI_0, ml_g1 hm, pl_isO ha, kI_1, kB_99, pl_g5 ha, ml_f3 hm, ml_r3 hm, ml_w3 hm, pl_f0 ha, pl_r0 ha, pl_w0 ha, pl_p5 ha, Option.bind_some, n35, n9, n19, n51, n59, nI_add, ix2, ix8, ix22, ix5, ↓reduceIte, lt_eq, show i < F.length by omega, stR_eq, stR_ne hne, pE_12, pos_eq, show 0 < s.2.1 by omega, mE_hi, hoi, pE_lo, h1, Nat.lt_irrefl]
        exact ih (i + 1) f s hd' (by omega) (by omega) hs hl
      · have e1 : sv1 w s p = (upN s.1 p (s.1 p - w), s.2.1 - 1, upN s.2.2.1 p (s.2.2.1 p + 1), true) := if_neg (fun z => z.elim h0 h1)
        rw [e1]
        simp (disch := omega) only [gX6_serve, fX6_serve_0, fX6_serve_5, fX6_serve_8, fX6_serve_13, fX6_serve_16, fX6_serve_23, fX6_serve_30, fX6_serve_35, fX6_serve_41, fX6_serve_47, fX6_serve_54, fX6_serve_73, fX6_serve_89, fX6_serve_92, fX6_serve_117, fX6_serve_123, fX6_serve_129, ml_f2 hm, ml_r2 hm, ml_w2 hm, kI_0, ml_g1 hm, pl_isO ha, kI_1, kB_99, pl_g5 ha, ml_f3 hm, ml_r3 hm, ml_w3 hm, pl_f0 ha, pl_r0 ha, pl_w0 ha, pl_p5 ha, Option.bind_some, n35, n9, n19, n51, n59, nI_add, ix2, ix8, ix22, ix5, ↓reduceIte, lt_eq, show i < F.length by omega, stR_eq, stR_ne hne, pE_12, pos_eq, show 0 < s.2.1 by omega, mE_hi, hoi, pE_lo, show 0 < s.1 p by omega, mx0, nsub, stS_R, stR_stR, stR_sw hne, pE_up, pE_u12, mE_lo, mE_up]
        refine ih (i + 1) f (upN s.1 p (s.1 p - w), s.2.1 - 1, upN s.2.2.1 p (s.2.2.1 p + 1), true) hd' (by omega) (by omega) (fun q hq => ?_) (by dsimp only; omega)
        show upN s.1 p (s.1 p - w) q < 5000
        unfold upN
        split
        · omega
        · exact hs q hq
end SERVE
