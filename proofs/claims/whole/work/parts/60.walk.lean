-- DAYS TO COME
set_option maxRecDepth 100000 in
set_option maxHeartbeats 400000 in
theorem nav2 {as : Option Nat} (ha : ∀ j, as = some j → j < 5) (k : Nat) (hk : k < 5) : (oi as = nI k) = (as = some k) := by
  rw [← nav ha k hk]
  exact propext eq_comm
def fr (S S' : Mem) (l : List Nat) : Prop := ∀ c, c ∉ l → S' c = S c
set_option maxRecDepth 100000 in
set_option maxHeartbeats 400000 in
theorem fr_rf (S : Mem) (l : List Nat) : fr S S l := fun _ _ => rfl
set_option maxRecDepth 100000 in
set_option maxHeartbeats 400000 in
theorem fr_tr {S S' S'' : Mem} {l : List Nat} (h : fr S S' l) (h' : fr S' S'' l) : fr S S'' l := fun c hc => (h' c hc).trans (h c hc)
set_option maxRecDepth 100000 in
set_option maxHeartbeats 400000 in
theorem fr_st {S S' : Mem} {l : List Nat} {b : Nat} {R : Row} (h : fr S S' l) (hb : b ∈ l) : fr S (stR S' b R) l := fun c hc => by
  rw [stR_ne (by intro z; rw [z] at hc; exact hc hb)]
  exact h c hc
set_option maxRecDepth 100000 in
set_option maxHeartbeats 400000 in
theorem fr_mo {S S' : Mem} {l k : List Nat} (h : fr S S' l) (hk : ∀ c, c ∈ l → c ∈ k) : fr S S' k := fun c hc => h c (fun z => hc (hk c z))
-- copies of the reference
def cpA (A R : Row) (i0 i1 k : Nat) : Row := fun j => if i1 ≤ j ∧ j < i1 + k then A (i0 + (j - i1)) else R j
set_option maxRecDepth 100000 in
set_option maxHeartbeats 400000 in
theorem cpA_0 (A R : Row) (i0 i1 : Nat) : cpA A R i0 i1 0 = R := by funext j; unfold cpA; rw [if_neg (by omega)]
set_option maxRecDepth 100000 in
set_option maxHeartbeats 400000 in
theorem cpA_s (A R : Row) (i0 i1 k : Nat) : up (cpA A R i0 i1 k) (i1 + k) (A (i0 + k)) = cpA A R i0 i1 (k + 1) := by
  funext j
  unfold up cpA
  by_cases h : j = i1 + k
  · have h2 : i1 ≤ j ∧ j < i1 + (k + 1) := by omega
    rw [if_pos h, if_pos h2, show j - i1 = k by omega]
  · rw [if_neg h]
    by_cases h2 : i1 ≤ j ∧ j < i1 + k
    · have h3 : i1 ≤ j ∧ j < i1 + (k + 1) := by omega
      rw [if_pos h2, if_pos h3]
    · have h3 : ¬ (i1 ≤ j ∧ j < i1 + (k + 1)) := by omega
      rw [if_neg h2, if_neg h3]
section WALK
variable {S : Mem} {J : MeJ} {T : Nat → Nat} {a m t : Nat}
set_option maxRecDepth 100000 in
set_option maxHeartbeats 400000 in
theorem c_cpy {c1 c2 n1 n2 i0 i1 n : Nat} (h1 : SH[c1]? = some (.inl (0, c1, 0, 1, n1))) (h2 : SH[c2]? = some (.inl (0, c2, 0, 1, n2))) (hne : c1 ≠ c2) (ha : i0 + n ≤ n1) (hb : i1 + n ≤ n2) (hn1 : n1 < 5000) (hn2 : n2 < 5000) : gX11_copy c1 (nI i0) c2 (nI i1) (nI n) (hp S J T) = some (hp (stR S c2 (cpA (S c1) (S c2) i0 i1 n)) J T) := by
  unfold gX11_copy fX11_copy_0
  rw [kI_0]
  have hz : hp S J T = hp (stR S c2 (cpA (S c1) (S c2) i0 i1 0)) J T := by rw [cpA_0, stR_self]
  rw [hz]
  refine for_at lX11_copy_3 fX11_copy_3 (fun _ => rfl) (fun K k (R : Row) => K c1 (nI i0) c2 (nI i1) (nI n) (nI k) (hp (stR S c2 R) J T)) n (cpA (S c1) (S c2) i0 i1) _ (fun K k hk => ?_) (fun K => ?_) (FU_lt (by omega))
  · rw [← cpA_s]
    have hr : aRI ((hp (stR S c2 (cpA (S c1) (S c2) i0 i1 k)) J T)[c1]?) (nI (i0 + k)) = some (S c1 (i0 + k)) := by
      rw [hp_aRI (j := i0 + k) h1 (by omega) (by omega) (by omega), stR_ne hne]
    have hw : ∀ x : Int32, aWI (hp (stR S c2 (cpA (S c1) (S c2) i0 i1 k)) J T) c2 (nI (i1 + k)) x = some (hp (stS (stR S c2 (cpA (S c1) (S c2) i0 i1 k)) c2 (i1 + k) x) J T) := fun x => hp_aWI (j := i1 + k) h2 (by omega) (by omega) (by omega) (by omega)
    simp (disch := omega) only [fX11_copy_3, fX11_copy_10, lt_eq, hk, ↓reduceIte, nI_add, hr, hw, Option.bind_some, kI_1, stS_R, stR_stR, stR_eq]
  · simp (disch := omega) only [fX11_copy_3, fX11_copy_28, lt_eq, Nat.lt_irrefl, ↓reduceIte]
set_option maxRecDepth 100000 in
set_option maxHeartbeats 400000 in
theorem cpA_22 (A R : Row) : cpA A R 0 0 22 = cpR A R 22 := by
  funext j
  unfold cpA cpR
  by_cases h : j < 22
  · rw [if_pos h, if_pos (by omega), show 0 + (j - 0) = j by omega]
  · rw [if_neg h, if_neg (by omega)]
set_option maxRecDepth 100000 in
set_option maxHeartbeats 400000 in
theorem c_begin : gX11_begin 167 (hp S J T) = some (hp (stR S 175 (cpR (S 174) (S 175) 22)) J T) := by
  simp (disch := omega) only [gX11_begin, fX11_begin_0, fX11_begin_12, fX11_begin_15, mo_f19, kI_0, mo_f20, kB_22, Option.bind_some, n35, n9, n19, n51, n59, nI_add, ix2, ix8, ix22, ix5, ↓reduceIte, c_cpy (c1 := 174) (c2 := 175) (n1 := 22) (n2 := 22) rfl rfl (by omega) (show 0 + 22 ≤ 22 by omega) (show 0 + 22 ≤ 22 by omega) (by omega) (by omega), cpA_22]
-- the course of the class
set_option maxRecDepth 100000 in
set_option maxHeartbeats 400000 in
theorem c_start (ha : plA a) (h8 : a ≠ 8) (h15 : a ≠ 15) (h16 : a ≠ 16) (h7 : a ≠ 7) : ∃ S', gX1_start 7 a (hp S J T) = some (hp S' J T) ∧ S' 8 = cpR (S a) (S 8) 22 ∧ (∀ p, p < 5 → S' 15 p = nI 0) ∧ (∀ p, p < 5 → S' 16 p = nI 0) ∧ S' 7 4 = nI 0 ∧ S' 7 5 = nI 0 ∧ fr S S' [7, 8, 12, 15, 16] := by
  refine ⟨stR (stR (stR (stR S 8 (cpR (S a) (S 8) 22)) 15 (flR (S 15) 0 (nI 0) 5)) 16 (flR (S 16) 0 (nI 0) 5)) 7 (up (up (S 7) 4 (nI 0)) 5 (nI 0)), ?_, ?_, ?_, ?_, ?_, ?_, ?_⟩
  · simp (disch := omega) only [gX1_start, fX1_start_0, fX1_start_5, fX1_start_8, fX1_start_13, fX1_start_16, fX1_start_21, fX1_start_24, co_f0, pl_isO ha, co_f2, kI_0, co_f3, co_p4, co_p5, Option.bind_some, n35, n9, n19, n51, n59, nI_add, ix2, ix8, ix22, ix5, ↓reduceIte, pl_isO plA_8, c_copy plA_8 ha h8, c_fill (c := 15) (b := 15) (o := 0) (n := 5) rfl (by omega), c_fill (c := 16) (b := 16) (o := 0) (n := 5) rfl (by omega), stS_R, stR_ne (show 7 ≠ 8 by omega), stR_ne (show 7 ≠ 15 by omega), stR_ne (show 7 ≠ 16 by omega), stR_ne (show 15 ≠ 8 by omega), stR_ne (show 16 ≠ 15 by omega), stR_ne (show 16 ≠ 8 by omega), stR_stR, stR_eq]
  · rw [stR_ne (by omega), stR_ne (by omega), stR_ne (by omega), stR_eq]
  · intro p hp
    rw [stR_ne (by omega), stR_ne (by omega), stR_eq]
    exact if_pos (by omega)
  · intro p hp
    rw [stR_ne (by omega), stR_eq]
    exact if_pos (by omega)
  · rw [stR_eq, up_ne (by omega), up_eq]
  · rw [stR_eq, up_eq]
  · exact fr_st (fr_st (fr_st (fr_st (fr_rf S _) (by simp)) (by simp)) (by simp)) (by simp)
def bs (x : Option Nat) : Int32 := match x with
  | none => nI 0
  | some k => nI 1 <<< (nI k &&& 31)
def ws (x : Option Nat) (p : Nat) : Int32 := if x = some p then nI 1 else nI 0
def adR (A : Row) (E : Nat → Int32) (k : Nat) : Row := fun j => if j < k then A j + E j else A j
set_option maxRecDepth 100000 in
set_option maxHeartbeats 400000 in
theorem adR_0 (A : Row) (E : Nat → Int32) : adR A E 0 = A := by funext j; unfold adR; rw [if_neg (by omega)]
set_option maxRecDepth 100000 in
set_option maxHeartbeats 400000 in
theorem adR_s (A : Row) (E : Nat → Int32) (k : Nat) : up (adR A E k) k (A k + E k) = adR A E (k + 1) := by
  funext j
  unfold up adR
  by_cases h : j = k
  · rw [if_pos h, if_pos (by omega), h]
  · rw [if_neg h]
    by_cases h2 : j < k
    · rw [if_pos h2, if_pos (by omega)]
    · rw [if_neg h2, if_neg (by omega)]
set_option maxRecDepth 100000 in
set_option maxHeartbeats 400000 in
theorem adR_k {A : Row} {E : Nat → Int32} {k : Nat} : adR A E k k = A k := if_neg (by omega)
set_option maxRecDepth 100000 in
set_option maxHeartbeats 400000 in
theorem c_pass (ht : tlA t) (ht0 : 56 ≤ t) {P N F : Nat} (hP : S t 3 = nI P) (hP5 : P ≤ 5) (hN : S t 4 = nI N) (hN8 : N ≤ 8) (hF : S t 5 = nI F) (hF8 : F ≤ 8) {bowl : Int32} (hb : sm bowl 20) (hs : Sml (S t) (S 8) P N) : ∃ S', gX1_pass 7 t bowl (hp S J T) = some (hp S' J T) ∧ S' 8 = dayR (S t) (S 8) P N F (nI 0) false bowl ∧ S' 12 0 = oi (wn (S t) (S 8) P false) ∧ S' 12 1 = oi (dWt (S t) (S 8) P N false) ∧ (∀ p, p < P → S' 15 p = S 15 p + nI (dayE (S t) (S 8) P N F (nI 0) false bowl p)) ∧ (∀ p, p < P → S' 16 p = S 16 p + ws (wn (S t) (S 8) P false) p) ∧ S' 7 4 = S 7 4 ||| bs (dWt (S t) (S 8) P N false) ∧ S' 7 5 = S 7 5 + wo (S 8) (dWt (S t) (S 8) P N false) ∧ fr S S' [7, 8, 12, 15, 16] := by
  obtain ⟨O, hO, hO0, hO1, hO2⟩ := c_hold (S := S) (J := J) (T := T) (m := 12) (a := 8) (bes := nI 0) (fl := false) mlA_12 plA_8 ht (by omega) (by omega) (by omega) hP hP5 hN hN8 hF hF8 hb hs
  rw [bI_f] at hO
  have hwl : ∀ p, wn (S t) (S 8) P false = some p → p < P := wn_lt
  have hql : ∀ k, dWt (S t) (S 8) P N false = some k → k < N := dWt_lt
  generalize hR1 : dayR (S t) (S 8) P N F (nI 0) false bowl = R1 at hO ⊢
  generalize hE : dayE (S t) (S 8) P N F (nI 0) false bowl = E at hO2 ⊢
  have hwo : wo R1 (dWt (S t) (S 8) P N false) = wo (S 8) (dWt (S t) (S 8) P N false) := by rw [← hR1]; exact wo_day hP5 _
  generalize hq : dWt (S t) (S 8) P N false = x at hO1 hql hwo ⊢
  generalize hwh : wn (S t) (S 8) P false = y at hO0 hwl ⊢
  generalize hM : stR (stR S 8 R1) 12 O = M at hO
  have m15 : M 15 = S 15 := by rw [← hM, stR_ne (by omega), stR_ne (by omega)]
  have m16 : M 16 = S 16 := by rw [← hM, stR_ne (by omega), stR_ne (by omega)]
  have m12 : M 12 = O := by rw [← hM, stR_eq]
  have m8 : M 8 = R1 := by rw [← hM, stR_ne (by omega), stR_eq]
  have m7 : M 7 = S 7 := by rw [← hM, stR_ne (by omega), stR_ne (by omega)]
  have mt : M t = S t := by rw [← hM, stR_ne (by omega), stR_ne (by omega)]
  have hloop : lX1_pass_17 FU 7 t (nI 0) (hp M J T) = fX1_pass_74 7 (hp (stR (stR M 15 (adR (S 15) (fun p => nI (E p)) P)) 16 (adR (S 16) (ws y) P)) J T) := by
    have hz : hp M J T = hp (stR (stR M 15 (adR (S 15) (fun p => nI (E p)) 0)) 16 (adR (S 16) (ws y) 0)) J T := by rw [adR_0, adR_0, ← m15, stR_self, ← m16, stR_self]
    rw [hz]
    refine for_at lX1_pass_17 fX1_pass_17 (fun _ => rfl) (fun K k (q : Row × Row) => K 7 t (nI k) (hp (stR (stR M 15 q.1) 16 q.2) J T)) P (fun k => (adR (S 15) (fun p => nI (E p)) k, adR (S 16) (ws y) k)) _ (fun K k hk => ?_) (fun K => ?_) (FU_lt (by omega))
    · dsimp only
      rw [← adR_s, ← adR_s]
      have hk2 := hO2 k (by omega)
      by_cases hy : y = some k
      · have ew : ws y k = nI 1 := if_pos hy
        have ew2 : oi y = nI k := by rw [hy, oi_some]
        rw [ew]
        simp (disch := omega) only [gX1_pass, fX1_pass_0, fX1_pass_12, fX1_pass_15, fX1_pass_17, fX1_pass_25, fX1_pass_61, fX1_pass_65, fX1_pass_66, fX1_pass_74, fX1_pass_89, fX1_pass_93, fX1_pass_102, fX1_pass_122, fX1_pass_125, co_f1, co_f0, kI_0, ml_isO mlA_12, tl_g3 ht, co_f2, co_r2, co_w2, ml_f2 mlA_12, ml_r2 mlA_12, ml_w2 mlA_12, co_f3, co_r3, co_w3, ml_g0 mlA_12, kI_1, co_g4, ml_g1 mlA_12, co_p4, co_g5, pl_isO plA_8, co_p5, Option.bind_some, n35, n9, n19, n51, n59, nI_add, ix2, ix8, ix22, ix5, ↓reduceIte, mt, stR_ne (show t ≠ 16 by omega), stR_ne (show t ≠ 15 by omega), hP, lt_eq, hk, stR_ne (show 15 ≠ 16 by omega), stR_eq, adR_k, stR_ne (show 12 ≠ 16 by omega), stR_ne (show 12 ≠ 15 by omega), m12, hk2, stS_R, stR_sw (show 15 ≠ 16 by omega), hO0, ew2, stR_stR]
      · have ew : ws y k = nI 0 := if_neg hy
        have ew2 : (oi y = nI k) = False := by
          rw [nav2 (fun j hj => by have := hwl j hj; omega) k (by omega)]
          exact eq_false hy
        rw [ew]
        simp (disch := omega) only [gX1_pass, fX1_pass_0, fX1_pass_12, fX1_pass_15, fX1_pass_17, fX1_pass_25, fX1_pass_61, fX1_pass_65, fX1_pass_66, fX1_pass_74, fX1_pass_89, fX1_pass_93, fX1_pass_102, fX1_pass_122, fX1_pass_125, co_f1, co_f0, kI_0, ml_isO mlA_12, tl_g3 ht, co_f2, co_r2, co_w2, ml_f2 mlA_12, ml_r2 mlA_12, ml_w2 mlA_12, co_f3, co_r3, co_w3, ml_g0 mlA_12, kI_1, co_g4, ml_g1 mlA_12, co_p4, co_g5, pl_isO plA_8, co_p5, Option.bind_some, n35, n9, n19, n51, n59, nI_add, ix2, ix8, ix22, ix5, ↓reduceIte, mt, stR_ne (show t ≠ 16 by omega), stR_ne (show t ≠ 15 by omega), hP, lt_eq, hk, stR_ne (show 15 ≠ 16 by omega), stR_eq, adR_k, stR_ne (show 12 ≠ 16 by omega), stR_ne (show 12 ≠ 15 by omega), m12, hk2, stS_R, stR_sw (show 15 ≠ 16 by omega), hO0, ew2, stR_stR]
    · dsimp only
      simp (disch := omega) only [fX1_pass_17, tl_g3 ht, Option.bind_some, mt, stR_ne (show t ≠ 16 by omega), stR_ne (show t ≠ 15 by omega), hP, lt_eq, Nat.lt_irrefl, ↓reduceIte]
  have hend : fX1_pass_74 7 (hp (stR (stR M 15 (adR (S 15) (fun p => nI (E p)) P)) 16 (adR (S 16) (ws y) P)) J T) = some (hp (stR (stR (stR M 15 (adR (S 15) (fun p => nI (E p)) P)) 16 (adR (S 16) (ws y) P)) 7 (up (up (S 7) 4 (S 7 4 ||| bs x)) 5 (S 7 5 + wo (S 8) x))) J T) := by
    cases x with
    | none =>
      simp (disch := omega) only [fX1_pass_74, fX1_pass_89, fX1_pass_102, fX1_pass_122, fX1_pass_125, co_g4, co_p4, co_g5, co_p5, co_f0, co_f1, ml_g1 mlA_12, pl_isO plA_8, Option.bind_some, stR_ne (show 7 ≠ 16 by omega), stR_ne (show 7 ≠ 15 by omega), m7, stR_ne (show 12 ≠ 16 by omega), stR_ne (show 12 ≠ 15 by omega), stR_ne (show 12 ≠ 7 by omega), m12, hO1, on_lt, ↓reduceIte, kI_0, stS_R, stR_eq, up_ne, stR_stR, c_worthOf plA_8 (q := none) (fun k hk => by cases hk), stR_ne (show 8 ≠ 16 by omega), stR_ne (show 8 ≠ 15 by omega), stR_ne (show 8 ≠ 7 by omega), m8, hwo, bs]
    | some k =>
      have hk8 := hql k rfl
      have cw : ∀ X : Mem, gX7_worthOf 8 (nI k) (hp X J T) = some (wo (X 8) (some k), hp X J T) := fun X => c_worthOf plA_8 (q := some k) (fun j hj => by cases hj; omega)
      rw [oi_some] at hO1
      simp (disch := omega) only [fX1_pass_74, fX1_pass_93, fX1_pass_102, fX1_pass_122, fX1_pass_125, co_g4, co_p4, co_g5, co_p5, co_f0, co_f1, ml_g1 mlA_12, pl_isO plA_8, Option.bind_some, stR_ne (show 7 ≠ 16 by omega), stR_ne (show 7 ≠ 15 by omega), m7, stR_ne (show 12 ≠ 16 by omega), stR_ne (show 12 ≠ 15 by omega), stR_ne (show 12 ≠ 7 by omega), m12, hO1, cw, stR_ne (show 8 ≠ 16 by omega), stR_ne (show 8 ≠ 15 by omega), stR_ne (show 8 ≠ 7 by omega), m8, hwo, bs, nI_lt0, ↓reduceIte, kI_1, stS_R, stR_eq, up_ne, stR_stR]
  refine ⟨stR (stR (stR M 15 (adR (S 15) (fun p => nI (E p)) P)) 16 (adR (S 16) (ws y) P)) 7 (up (up (S 7) 4 (S 7 4 ||| bs x)) 5 (S 7 5 + wo (S 8) x)), ?_, ?_, ?_, ?_, fun p hp => ?_, fun p hp => ?_, ?_, ?_, ?_⟩
  · simp only [gX1_pass, fX1_pass_0, fX1_pass_12, fX1_pass_15, co_f0, co_f1, ml_isO mlA_12, Option.bind_some, kI_0, hO, hloop]
    exact hend
  · rw [stR_ne (by omega), stR_ne (by omega), stR_ne (by omega), m8]
  · rw [stR_ne (by omega), stR_ne (by omega), stR_ne (by omega), m12, hO0]
  · rw [stR_ne (by omega), stR_ne (by omega), stR_ne (by omega), m12, hO1]
  · rw [stR_ne (by omega), stR_ne (by omega), stR_eq]
    exact if_pos hp
  · rw [stR_ne (by omega), stR_eq]
    exact if_pos hp
  · rw [stR_eq, up_ne (by omega), up_eq]
  · rw [stR_eq, up_eq]
  · rw [← hM]
    exact fr_st (fr_st (fr_st (fr_st (fr_st (fr_rf S _) (by simp)) (by simp)) (by simp)) (by simp)) (by simp)
-- sums over days
def aN (r : Row) (P N F : Nat) (bowl : Int32) (R : Row) : Nat → Nat → Int32
  | 0, _ => nI 0
  | n + 1, p => aN r P N F bowl R n p + nI (dayE r (dyN r P N F bowl n R) P N F (nI 0) false bowl p)
def bN (r : Row) (P N F : Nat) (bowl : Int32) (R : Row) : Nat → Nat → Int32
  | 0, _ => nI 0
  | n + 1, p => bN r P N F bowl R n p + ws (wn r (dyN r P N F bowl n R) P false) p
def dN' (r : Row) (P N F : Nat) (bowl : Int32) (R : Row) : Nat → Int32
  | 0 => nI 0
  | n + 1 => dN' r P N F bowl R n ||| bs (dWt r (dyN r P N F bowl n R) P N false)
def wN (r : Row) (P N F : Nat) (bowl : Int32) (R : Row) : Nat → Int32
  | 0 => nI 0
  | n + 1 => wN r P N F bowl R n + wo (dyN r P N F bowl n R) (dWt r (dyN r P N F bowl n R) P N false)
-- what the course holds behind n days from R
def crs (S : Mem) (r : Row) (P N F : Nat) (bowl : Int32) (R : Row) (n : Nat) : Prop :=
  S 8 = dyN r P N F bowl n R ∧ (∀ i, n = i + 1 → S 12 0 = oi (wn r (dyN r P N F bowl i R) P false) ∧ S 12 1 = oi (dWt r (dyN r P N F bowl i R) P N false)) ∧ (∀ p, p < P → S 15 p = aN r P N F bowl R n p) ∧ (∀ p, p < P → S 16 p = bN r P N F bowl R n p) ∧ S 7 4 = dN' r P N F bowl R n ∧ S 7 5 = wN r P N F bowl R n
set_option maxRecDepth 100000 in
set_option maxHeartbeats 400000 in
theorem crs_s (ht : tlA t) (ht0 : 56 ≤ t) {P N F D n : Nat} (hT : TbS (S t) P N) (hF : S t 5 = nI F) (hF8 : F ≤ 8) {bowl : Int32} (hb : sm bowl 20) {R : Row} (hI : Inv R P N D) (hD : D + n ≤ 3000) (h : crs S (S t) P N F bowl R n) : ∃ S', gX1_pass 7 t bowl (hp S J T) = some (hp S' J T) ∧ crs S' (S t) P N F bowl R (n + 1) ∧ fr S S' [7, 8, 12, 15, 16] := by
  obtain ⟨h1, h2, h3, h4, h5, h6⟩ := h
  have hi := dyN_inv (F := F) hT hI hb n (by omega)
  obtain ⟨S', g0, g1, g2, g3, g4, g5, g6, g7, g8⟩ := c_pass (S := S) (J := J) (T := T) ht ht0 hT.1 hT.2.1 hT.2.2.1 hT.2.2.2.1 hF hF8 hb (by rw [h1]; exact inv_Sml hT hi)
  rw [h1] at g1 g2 g3 g4 g5 g6 g7
  refine ⟨S', g0, ⟨?_, ?_, ?_, ?_, ?_, ?_⟩, g8⟩
  · rw [g1, dyN_s]
  · intro i hi
    obtain rfl : i = n := by omega
    exact ⟨g2, g3⟩
  · intro p hp
    rw [g4 p hp, h3 p hp]; rfl
  · intro p hp
    rw [g5 p hp, h4 p hp]; rfl
  · rw [g6, h5]; rfl
  · rw [g7, h6]; rfl
set_option maxRecDepth 100000 in
set_option maxHeartbeats 400000 in
theorem l_walk (ht : tlA t) (ht0 : 56 ≤ t) {P N F D : Nat} (hT : TbS (S t) P N) (hF : S t 5 = nI F) (hF8 : F ≤ 8) {R : Row} (hI : Inv R P N D) {M : Nat} (hD : D + M ≤ 3000) : ∀ (n k f : Nat) (S1 : Mem), k + n = M → n < f → fr S S1 [7, 8, 12, 15, 16] → crs S1 (S t) P N F (S t 0) R k → ∃ S', lX1_walk_8 f 7 t (nI M) (nI k) (hp S1 J T) = some (hp S' J T) ∧ crs S' (S t) P N F (S t 0) R M ∧ fr S S' [7, 8, 12, 15, 16] := by
  intro n
  induction n with
  | zero =>
    intro k f S1 hk hf h1 h2
    obtain ⟨f, rfl⟩ : ∃ g, f = g + 1 := ⟨f - 1, by omega⟩
    obtain rfl : k = M := by omega
    refine ⟨S1, ?_, h2, h1⟩
    unfold lX1_walk_8
    simp (disch := omega) only [fX1_walk_8, fX1_walk_29, lt_eq, Nat.lt_irrefl, ↓reduceIte]
  | succ n ih =>
    intro k f S1 hk hf h1 h2
    obtain ⟨f, rfl⟩ : ∃ g, f = g + 1 := ⟨f - 1, by omega⟩
    have et : S1 t = S t := h1 t (by simp; omega)
    obtain ⟨S2, g1, g2, g3⟩ := crs_s (S := S1) (J := J) (T := T) ht ht0 (by rw [et]; exact hT) (by rw [et]; exact hF) hF8 (bowl := S t 0) hT.2.2.2.2.1 hI (n := k) (by omega) (by rw [et]; exact h2)
    rw [et] at g2
    unfold lX1_walk_8
    simp (disch := omega) only [fX1_walk_8, fX1_walk_14, fX1_walk_20, fX1_walk_23, lt_eq, show k < M by omega, ↓reduceIte, tl_g0 ht, et, co_isO, Option.bind_some, g1, kI_1, nI_add]
    exact ih (k + 1) f S2 (by omega) (by omega) (fr_tr h1 g3) g2
set_option maxRecDepth 100000 in
set_option maxHeartbeats 400000 in
theorem c_walk (ht : tlA t) (ht0 : 56 ≤ t) (ha : plA a) (ha0 : 56 ≤ a) {P N F D : Nat} (hT : TbS (S t) P N) (hF : S t 5 = nI F) (hF8 : F ≤ 8) {R : Row} (hI : Inv R P N D) {n : Nat} (hD : D + n ≤ 3000) (hR : cpR (S a) (S 8) 22 = R) : ∃ S', gX1_walk 7 t a (nI n) (hp S J T) = some (hp S' J T) ∧ crs S' (S t) P N F (S t 0) R n ∧ fr S S' [7, 8, 12, 15, 16] := by
  obtain ⟨S1, g1, g2, g3, g4, g5, g6, g7⟩ := c_start (S := S) (J := J) (T := T) ha (by omega) (by omega) (by omega) (by omega)
  obtain ⟨S', k1, k2, k3⟩ := l_walk (S := S) (J := J) (T := T) ht ht0 hT hF hF8 hI hD n 0 FU S1 (by omega) (FU_lt (by omega)) g7 ⟨g2.trans hR, (fun i hi => by omega), (fun p hp => g3 p (by have := hT.2.1; omega)), (fun p hp => g4 p (by have := hT.2.1; omega)), g5, g6⟩
  refine ⟨S', ?_, k2, k3⟩
  simp only [gX1_walk, fX1_walk_0, fX1_walk_2, fX1_walk_5, co_isO, Option.bind_some, g1, kI_0]
  exact k1
end WALK
