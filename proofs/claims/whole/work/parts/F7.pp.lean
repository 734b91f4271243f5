-- THE TEXT: what both make of it
abbrev PR (α : Type) : Type := (Nat × Nat) ⊕ α
def bdP {α β : Type} (x : PR α) (f : α → PR β) : PR β := match x with
  | .inl e => .inl e
  | .inr a => f a
def pW (y : Nat → Nat) (n q s : Nat) : PR Nat := if wdB y n s q then .inr (nx y n s) else .inl (1, s)
def pNu (y : Nat → Nat) (n lo hi s : Nat) : PR Nat := if tkK y n s = 3 then (if lo ≤ tkV y n s ∧ tkV y n s ≤ hi then .inr (tkV y n s) else .inl (4, s)) else .inl (1, s)
def pA (y : Nat → Nat) (n q lo hi s : Nat) : PR (Nat × Nat) := bdP (pW y n q s) fun s1 => bdP (pNu y n lo hi s1) fun v => .inr (v, s1)
def eqY (y : Nat → Nat) (a b : Nat) : Nat → Bool
  | 0 => true
  | k + 1 => eqY y a b k && decide (y (a + k) = y (b + k))
abbrev WL : Type := List (Nat × Nat × Nat)
def fdW (y : Nat → Nat) (s l : Nat) : WL → Option Nat
  | [] => none
  | w :: ws => if w.2.1 = l ∧ eqY y w.1 s l = true then some w.2.2 else fdW y s l ws
abbrev PSt : Type := Row × WL × (Nat → Nat) × Nat
def pNm (y : Nat → Nat) (n s : Nat) : PR Nat := if tkK y n s = 2 ∧ lsN y n s = none then .inr (tkE y n s - s) else .inl (1, s)
def pNew (y : Nat → Nat) (n : Nat) (W : WL) (s : Nat) : PR Nat := bdP (pNm y n s) fun l => if fdW y s l W = none then .inr l else .inl (3, s)
def pTd (y : Nat → Nat) (n : Nat) (W : WL) (lo hi s : Nat) : PR Nat := bdP (pNm y n s) fun l => match fdW y s l W with
  | none => .inl (2, s)
  | some c => if lo ≤ c ∧ c ≤ hi then .inr (c - lo) else .inl (2, s)
def pKd (y : Nat → Nat) (n s : Nat) : PR Nat := if wdB y n s 9 then .inr 0 else if wdB y n s 10 then .inr 1 else if wdB y n s 11 then .inr 2 else .inl (1, s)
def anyR (R : Row) (a : Nat) (x : Int32) : Nat → Bool
  | 0 => false
  | k + 1 => anyR R a x k || decide (R (a + 2 * k) = x)
def anyR2 (R : Row) (a : Nat) (x z : Int32) : Nat → Bool
  | 0 => false
  | k + 1 => anyR2 R a x z k || (decide (R (a + 2 * k) = x) && decide (R (a + 1 + 2 * k) = z))
def pBeg (q : PSt) (m i : Nat) : PR Nat := if q.2.2.1 i < m then (if q.2.2.1 8 = 0 then .inl (6, q.2.2.2) else .inr 0) else .inl (5, q.2.2.2)
def pTab (y : Nat → Nat) (n : Nat) (q : PSt) : PR PSt := if q.2.2.1 8 = 0 then bdP (pA y n 6 1 20 (nx y n q.2.2.2)) fun b => bdP (pA y n 7 5 200 (nx y n b.2)) fun a => bdP (pA y n 8 0 100 (nx y n a.2)) fun f => .inr (q.1, q.2.1, upN (upN (upN (upN q.2.2.1 0 b.1) 1 a.1) 2 f.1) 8 1, nx y n f.2) else .inl (3, q.2.2.2)
def pPer (y : Nat → Nat) (n : Nat) (q : PSt) : PR PSt := bdP (pBeg q 5 3) fun _ => bdP (pNew y n q.2.1 (nx y n q.2.2.2)) fun l => bdP (pKd y n (nx y n (nx y n q.2.2.2))) fun kd => bdP (pA y n 12 0 99 (nx y n (nx y n (nx y n q.2.2.2)))) fun h => bdP (pA y n 13 1 9 (nx y n h.2)) fun d => .inr (up (up (up q.1 (9 + 2 * q.2.2.1 3) (nI kd)) (100 + q.2.2.1 3) (nI h.1)) (10 + 2 * q.2.2.1 3) (nI d.1), q.2.1 ++ [(nx y n q.2.2.2, l, q.2.2.1 3)], upN q.2.2.1 3 (q.2.2.1 3 + 1), nx y n d.2)
def pNam (y : Nat → Nat) (n : Nat) (q : PSt) : PR PSt := bdP (pBeg q 8 4) fun _ => bdP (pNew y n q.2.1 (nx y n q.2.2.2)) fun l => bdP (pA y n 14 0 200 (nx y n (nx y n q.2.2.2))) fun f => if anyR q.1 19 (nI f.1) (q.2.2.1 4) then .inl (3, f.2) else bdP (pA y n 15 0 20 (nx y n f.2)) fun w => .inr (up (up q.1 (19 + 2 * q.2.2.1 4) (nI f.1)) (114 + q.2.2.1 4) (nI w.1), q.2.1 ++ [(nx y n q.2.2.2, l, 5 + q.2.2.1 4)], upN q.2.2.1 4 (q.2.2.1 4 + 1), nx y n w.2)
def pFst (y : Nat → Nat) (n : Nat) (q : PSt) : PR PSt := bdP (pBeg q 8 5) fun _ => bdP (pTd y n q.2.1 0 4 (nx y n q.2.2.2)) fun p => bdP (pA y n 16 1 60 (nx y n (nx y n q.2.2.2))) fun d => if anyR2 q.1 35 (nI p) (nI d.1) (q.2.2.1 5) then .inl (3, d.2) else .inr (up (up q.1 (35 + 2 * q.2.2.1 5) (nI p)) (36 + 2 * q.2.2.1 5) (nI d.1), q.2.1, upN q.2.2.1 5 (q.2.2.1 5 + 1), nx y n d.2)
def pUns (y : Nat → Nat) (n : Nat) (q : PSt) : PR PSt := bdP (pBeg q 4 6) fun _ => bdP (pTd y n q.2.1 0 4 (nx y n q.2.2.2)) fun p => if anyR q.1 51 (nI p) (q.2.2.1 6) then .inl (3, nx y n q.2.2.2) else bdP (pNu y n 0 99 (nx y n (nx y n q.2.2.2))) fun h => .inr (up (up q.1 (51 + 2 * q.2.2.1 6) (nI p)) (52 + 2 * q.2.2.1 6) (nI h), q.2.1, upN q.2.2.1 6 (q.2.2.1 6 + 1), nx y n (nx y n (nx y n q.2.2.2)))
def pHrd (y : Nat → Nat) (n : Nat) (q : PSt) : PR PSt := bdP (pBeg q 6 7) fun _ => bdP (pTd y n q.2.1 5 12 (nx y n q.2.2.2)) fun k => bdP (pA y n 16 1 60 (nx y n (nx y n q.2.2.2))) fun d => if anyR q.1 60 (nI d.1) (q.2.2.1 7) then .inl (3, d.2) else .inr (up (up q.1 (59 + 2 * q.2.2.1 7) (nI k)) (60 + 2 * q.2.2.1 7) (nI d.1), q.2.1, upN q.2.2.1 7 (q.2.2.1 7 + 1), nx y n d.2)
def pLin (y : Nat → Nat) (n : Nat) (q : PSt) : PR PSt := match lsN y n q.2.2.2 with
  | none => .inl (1, q.2.2.2)
  | some 0 => pTab y n q
  | some 1 => pPer y n q
  | some 2 => pNam y n q
  | some 3 => pFst y n q
  | some 4 => pUns y n q
  | some _ => pHrd y n q
def pLoo (y : Nat → Nat) (n : Nat) : Nat → PSt → PR PSt
  | 0, q => .inr q
  | f + 1, q => if tkK y n q.2.2.2 = 0 then .inr q else if tkK y n q.2.2.2 = 4 then bdP (pLin y n (q.1, q.2.1, q.2.2.1, nx y n q.2.2.2)) (pLoo y n f) else .inl (1, q.2.2.2)
def p0 (y : Nat → Nat) (n : Nat) : PSt := (fun _ => nI 0, [], fun _ => 0, tkS y n 0)
def pAll (y : Nat → Nat) (n : Nat) : PR PSt := bdP (bdP (pLin y n (p0 y n)) (pLoo y n 700)) fun q => if q.2.2.1 3 = 0 ∨ anyR q.1 19 (nI 0) (q.2.2.1 4) = false then .inl (6, q.2.2.2) else .inr q
-- a whole's number is small
set_option maxRecDepth 100000 in
set_option maxHeartbeats 400000 in
theorem tk3 {y : Nat → Nat} {n s : Nat} (h : tkK y n s = 3) : s < n ∧ tkE y n s - s ≤ 3 ∧ (∀ i, s ≤ i → i < tkE y n s → dgB (y i) = true) ∧ s < tkE y n s := by
  unfold tkK at h
  by_cases hsn : s < n
  · rw [if_pos hsn] at h
    by_cases z59 : y s = 59
    · rw [if_pos z59] at h; omega
    · rw [if_neg z59] at h
      cases zl : ltB (y s) with
      | true =>
        rw [zl, if_pos rfl] at h
        split at h <;> omega
      | false =>
        rw [zl, if_neg (by decide)] at h
        cases zd : dgB (y s) with
        | true =>
          have eE : tkE y n s = rn (fun k => dgB (y k)) n s := by unfold tkE; rw [if_pos hsn, if_neg z59, zl, if_neg (by decide), zd, if_pos rfl]
          rw [zd, if_pos rfl] at h
          refine ⟨hsn, ?_, fun i z1 z2 => by rw [eE] at z2; exact (rn_in (p := fun k => dgB (y k)) z1 z2).1, ?_⟩
          · rw [eE]
            by_cases z8 : 3 < rn (fun k => dgB (y k)) n s - s
            · rw [if_pos z8] at h; omega
            · omega
          · rw [eE, rn_s hsn zd]
            have := rn_ge (p := fun k => dgB (y k)) (n := n) (k := s + 1)
            omega
        | false =>
          rw [zd, if_neg (by decide)] at h
          omega
  · rw [if_neg hsn] at h; omega
set_option maxRecDepth 100000 in
set_option maxHeartbeats 400000 in
theorem digs_lt {y : Nat → Nat} {s : Nat} : ∀ k, (∀ i, i < k → y (s + i) ≤ 57) → digs y s k < 10 ^ k := by
  intro k
  induction k with
  | zero => intro _; show 0 < 1; omega
  | succ k ih =>
    intro h
    have h1 := ih (fun i hi => h i (by omega))
    have h2 := h k (by omega)
    show digs y s k * 10 + (y (s + k) - 48) < 10 ^ k * 10
    omega
set_option maxRecDepth 100000 in
set_option maxHeartbeats 400000 in
theorem tkV_lt {y : Nat → Nat} {n s : Nat} (h : tkK y n s = 3) : tkV y n s < 1000 := by
  obtain ⟨h1, h2, h3, h4⟩ := tk3 h
  have q := digs_lt (y := y) (s := s) (tkE y n s - s) (fun i hi => by have := of_decide_eq_true (h3 (s + i) (by omega) (by omega)); omega)
  have q2 : 10 ^ (tkE y n s - s) ≤ 10 ^ 3 := Nat.pow_le_pow_right (by omega) h2
  exact Nat.lt_of_lt_of_le q q2
-- the class's outcome
set_option maxRecDepth 100000 in
set_option maxHeartbeats 400000 in
theorem o_0 : nI 0 = 0 ∨ nI 0 = 1 := Or.inl rfl
set_option maxRecDepth 100000 in
set_option maxHeartbeats 400000 in
theorem o_1 : nI 1 = 0 ∨ nI 1 = 1 := Or.inr rfl
def frR (S S' : Mem) : Prop := (∀ c, c ≠ 1 → S' c = S c) ∧ ∀ j, j ≠ 1 → j ≠ 2 → j ≠ 10 → j ≠ 11 → j ≠ 12 → j ≠ 13 → S' 1 j = S 1 j
set_option maxRecDepth 100000 in
set_option maxHeartbeats 400000 in
theorem frR_rf (S : Mem) : frR S S := ⟨fun _ _ => rfl, fun _ _ _ _ _ _ _ => rfl⟩
set_option maxRecDepth 100000 in
set_option maxHeartbeats 400000 in
theorem frR_tr {S S' S'' : Mem} (h : frR S S') (q : frR S' S'') : frR S S'' := ⟨fun c hc => (q.1 c hc).trans (h.1 c hc), fun j a b c d e f => (q.2 j a b c d e f).trans (h.2 j a b c d e f)⟩
def outC {α : Type} (S' : Mem) (b : Int32) (x : PR α) (ok : α → Prop) : Prop := match x with
  | .inl e => b = nI 0 ∧ S' 1 1 = nI e.1 ∧ S' 1 2 = nI e.2
  | .inr a => b = nI 1 ∧ ok a
section PPC
variable {S : Mem} {J : MeJ} {T : Nat → Nat} {y : Nat → Nat} {n s : Nat}
set_option maxRecDepth 100000 in
set_option maxHeartbeats 400000 in
theorem c_failC (h : tC S y n s) (f : Nat) : ∃ S', gX8_fail 1 (nI f) (hp S J T) = some (nI 0, hp S' J T) ∧ S' 1 1 = nI f ∧ S' 1 2 = nI s ∧ frR S S' := by
  refine ⟨stR S 1 (up (up (S 1) 1 (nI f)) 2 (nI s)), ?_, by rw [stR_eq, up_ne (by omega), up_eq], by rw [stR_eq, up_eq], fun c hc => stR_ne hc, fun j a b c d e g => by rw [stR_eq, up_ne b, up_ne a]⟩
  unfold gX8_fail fX8_fail_0
  rw [rd_p1, Option.bind_some, stS_R, rd_g10, Option.bind_some, stR_eq, up_ne (by omega), h.2.2.2.1, rd_p2, Option.bind_some, stS_R, stR_stR, stR_eq, kI_0, if_pos o_0]
set_option maxRecDepth 100000 in
set_option maxHeartbeats 400000 in
theorem s_stepR (h : tC S y n s) : ∃ S', gX8_step 1 (hp S J T) = some (hp S' J T) ∧ tC S' y n (nx y n s) ∧ frR S S' := by
  obtain ⟨X, a1, a2, a3⟩ := s_step (J := J) (T := T) h
  exact ⟨_, a1, a2, fun c hc => stR_ne hc, fun j a b c d e g => by rw [stR_eq]; exact a3 j c d e g⟩
set_option maxRecDepth 100000 in
set_option maxHeartbeats 400000 in
theorem c_wW (h : tC S y n s) {lo hi : Nat} (hlo : lo < 5000) (hhi : hi < 5000) : ∃ S' b, gX8_isWholeWithin 1 (nI lo) (nI hi) (hp S J T) = some (b, hp S' J T) ∧ outC S' b (pNu y n lo hi s) (fun v => S' = S ∧ S 1 13 = nI v ∧ v ≤ hi) ∧ frR S S' := by
  obtain ⟨h1, h2, h3, h4, h5, h6, h7⟩ := id h
  have hK := tkK_le y n s
  unfold gX8_isWholeWithin fX8_isWholeWithin_0 pNu
  rw [rd_g12, Option.bind_some, h6, kI_3]
  by_cases z3 : tkK y n s = 3
  · have hv := tkV_lt z3
    rw [z3, if_pos rfl, if_pos rfl]
    unfold fX8_isWholeWithin_14
    rw [rd_g13, Option.bind_some, h7.1 z3]
    obtain ⟨S4, f1, f2, f3, f4⟩ := c_failC (J := J) (T := T) h 4
    have h30 : fX8_isWholeWithin_30 1 (hp S J T) = some (nI 0, hp S4 J T) := by
      unfold fX8_isWholeWithin_30 fX8_isWholeWithin_32
      rw [rd_isO, Option.bind_some, kI_4, f1, Option.bind_some]
      unfold fX8_isWholeWithin_35
      rw [if_pos o_0]
    by_cases zl : tkV y n s < lo
    · rw [if_pos (ltn zl hlo), if_neg (fun q => by omega)]
      exact ⟨S4, nI 0, h30, ⟨rfl, f2, f3⟩, f4⟩
    · rw [if_neg (nltn zl (by omega) hlo)]
      unfold fX8_isWholeWithin_22
      rw [rd_g13, Option.bind_some, h7.1 z3]
      by_cases zh : hi < tkV y n s
      · rw [if_pos (ltn zh (by omega)), if_neg (fun q => by omega)]
        exact ⟨S4, nI 0, h30, ⟨rfl, f2, f3⟩, f4⟩
      · rw [if_neg (nltn zh hhi (by omega)), if_pos ⟨by omega, by omega⟩]
        refine ⟨S, nI 1, ?_, ⟨rfl, rfl, rfl, by omega⟩, frR_rf S⟩
        unfold fX8_isWholeWithin_36
        rw [kI_1, if_pos o_1]
  · rw [if_neg (show ¬ nI (tkK y n s) = nI 3 by rw [eq_eq (by omega) (by omega)]; exact z3), if_neg z3]
    obtain ⟨S4, f1, f2, f3, f4⟩ := c_failC (J := J) (T := T) h 1
    refine ⟨S4, nI 0, ?_, ⟨rfl, f2, f3⟩, f4⟩
    unfold fX8_isWholeWithin_8 fX8_isWholeWithin_10
    rw [rd_isO, Option.bind_some, kI_1, f1, Option.bind_some]
    unfold fX8_isWholeWithin_13
    rw [if_pos o_0]
set_option maxRecDepth 100000 in
set_option maxHeartbeats 400000 in
theorem c_fW (h : tC S y n s) {i lo hi : Nat} (hi34 : i < 34) (hlo : lo < 5000) (hhi : hi < 5000) : ∃ S' b, gX8_findsWhole 1 (SB + i) (nI lo) (nI hi) (hp S J T) = some (b, hp S' J T) ∧ outC S' b (pA y n (stN i) lo hi s) (fun v => tC S' y n v.2 ∧ S' 1 13 = nI v.1 ∧ v.1 ≤ hi) ∧ frR S S' := by
  unfold gX8_findsWhole fX8_findsWhole_0 fX8_findsWhole_2 pA pW
  rw [rd_isO, Option.bind_some, c_isW h hi34, Option.bind_some]
  unfold fX8_findsWhole_5
  cases zw : wdB y n s (stN i) with
  | false =>
    rw [if_pos (show bI false = 0 by decide)]
    obtain ⟨S4, f1, f2, f3, f4⟩ := c_failC (J := J) (T := T) h 1
    refine ⟨S4, nI 0, ?_, ⟨rfl, f2, f3⟩, f4⟩
    unfold fX8_findsWhole_8 fX8_findsWhole_10
    rw [rd_isO, Option.bind_some, kI_1, f1, Option.bind_some]
    unfold fX8_findsWhole_13
    rw [if_pos o_0]
  | true =>
    rw [if_neg (show ¬ bI true = 0 by decide)]
    obtain ⟨S2, a1, a2, a3⟩ := s_stepR (J := J) (T := T) h
    obtain ⟨S3, b, b1, b2, b3⟩ := c_wW (J := J) (T := T) a2 hlo hhi
    have hb : b = 0 ∨ b = 1 := by
      cases hp : pNu y n lo hi (nx y n s) with
      | inl e => rw [hp] at b2; exact Or.inl (by rw [b2.1]; rfl)
      | inr v => rw [hp] at b2; exact Or.inr (by rw [b2.1]; rfl)
    refine ⟨S3, b, ?_, ?_, frR_tr a3 b3⟩
    · unfold fX8_findsWhole_14 fX8_findsWhole_15
      rw [rd_isO, Option.bind_some, a1, Option.bind_some]
      unfold fX8_findsWhole_18 fX8_findsWhole_21
      rw [rd_isO, Option.bind_some, b1, Option.bind_some]
      unfold fX8_findsWhole_24
      rw [if_pos hb]
    · show outC S3 b (bdP (pNu y n lo hi (nx y n s)) fun v => .inr (v, nx y n s)) _
      cases hp : pNu y n lo hi (nx y n s) with
      | inl e => rw [hp] at b2; exact b2
      | inr v =>
        rw [hp] at b2
        obtain ⟨c1, c2, c3, c4⟩ := b2
        exact ⟨c1, by rw [c2]; exact a2, by rw [c2]; exact c3, c4⟩
end PPC
