-- LED: who is led away
def ldG (dd : Nat → Bool) (i : Int32) : Nat → Nat → Nat → Option Nat
  | 0, _, _ => none
  | n + 1, p, c => if dd p = true then (if nI c = i then some p else ldG dd i n (p + 1) (c + 1)) else ldG dd i n (p + 1) c
set_option maxRecDepth 100000 in
set_option maxHeartbeats 400000 in
theorem ldG_neg {dd : Nat → Bool} {i : Int32} (hi : i < 0) : ∀ n p c, c + n < 5000 → ldG dd i n p c = none := by
  intro n
  induction n with
  | zero => intro p c _; rfl
  | succ n ih =>
    intro p c hc
    unfold ldG
    rw [if_neg (show ¬ nI c = i from fun z => not0 (show c < 5000 by omega) (by rw [z]; exact hi)), ih (p + 1) (c + 1) (by omega), ih (p + 1) c (by omega)]
    split <;> rfl
set_option maxRecDepth 100000 in
set_option maxHeartbeats 400000 in
theorem ldG_cg {dd dd' : Nat → Bool} {i : Int32} : ∀ n p c, (∀ q, p ≤ q → q < p + n → dd q = dd' q) → ldG dd i n p c = ldG dd' i n p c := by
  intro n
  induction n with
  | zero => intro p c _; rfl
  | succ n ih =>
    intro p c h
    unfold ldG
    rw [h p (by omega) (by omega), ih (p + 1) (c + 1) (fun q a b => h q (by omega) (by omega)), ih (p + 1) c (fun q a b => h q (by omega) (by omega))]
def ldR (S : Mem) (J : MeJ) (T : Nat → Nat) (r : Option Nat) : Option (Int32 × aH) := match r with
  | some p => some (nI p, hp (stR S 167 (up (S 167) 0 (nI 0))) J T)
  | none => some (nI 0, hp (stR S 167 (up (S 167) 0 (nI 1))) J T)
section LED
variable {S : Mem} {J : MeJ} {T : Nat → Nat}
set_option maxRecDepth 100000 in
set_option maxHeartbeats 400000 in
theorem c_led57 : fX11_led_57 167 (hp S J T) = ldR S J T none := by
  unfold fX11_led_57 ldR
  rw [kI_1, mo_p0, Option.bind_some, stS_R, kI_0]
set_option maxRecDepth 100000 in
set_option maxHeartbeats 400000 in
theorem c_ledN {i : Int32} (h14 : S 167 14 = nI 0) : gX11_led 167 i (hp S J T) = ldR S J T none := by
  obtain ⟨g, hg⟩ : ∃ g, FU = g + 1 := ⟨FU - 1, by have := FU_lt (n := 1) (by omega); omega⟩
  unfold gX11_led fX11_led_0
  rw [hg]
  unfold lX11_led_4 fX11_led_4
  rw [mo_g14, Option.bind_some, h14, if_pos (show nI 0 = 0 from rfl)]
  exact c_led57
set_option maxRecDepth 100000 in
set_option maxHeartbeats 400000 in
theorem c_ledM {i : Int32} {P : Nat} (h14 : S 167 14 = nI 1) (hP : S 170 3 = nI P) (hP5 : P ≤ 5) : gX11_led 167 i (hp S J T) = ldR S J T (ldG (fun p => bt (S 174 10) p) i P 0 0) := by
  have hloop : ∀ n p c g, p + n = P → n < g → lX11_led_4 g 167 i (nI c) (nI p) (hp S J T) = ldR S J T (ldG (fun p => bt (S 174 10) p) i n p c) := by
    intro n
    induction n with
    | zero =>
      intro p c g hk hg
      obtain ⟨g, rfl⟩ : ∃ z, g = z + 1 := ⟨g - 1, by omega⟩
      unfold lX11_led_4 fX11_led_4
      rw [mo_g14, Option.bind_some, h14, if_neg (show ¬ nI 1 = 0 by decide)]
      unfold fX11_led_11
      rw [mo_f15, Option.bind_some, kI_3, mo_r15 (by omega), Option.bind_some, hP, if_neg (nltn (show ¬ p < P by omega) (by omega) (by omega))]
      exact c_led57
    | succ n ih =>
      intro p c g hk hg
      obtain ⟨g, rfl⟩ : ∃ z, g = z + 1 := ⟨g - 1, by omega⟩
      conv => lhs; unfold lX11_led_4
      unfold fX11_led_4
      rw [mo_g14, Option.bind_some, h14, if_neg (show ¬ nI 1 = 0 by decide)]
      unfold fX11_led_11
      rw [mo_f15, Option.bind_some, kI_3, mo_r15 (by omega), Option.bind_some, hP, if_pos (ltn (show p < P by omega) (by omega))]
      unfold fX11_led_21 fX11_led_27
      rw [mo_f19, Option.bind_some, mo_isO, Option.bind_some, c_lives rwA_174 (by omega), Option.bind_some]
      unfold fX11_led_30 ldG lv
      dsimp only
      have e51 : ∀ c', fX11_led_51 (lX11_led_4 g) 167 i (nI c') (nI p) (hp S J T) = ldR S J T (ldG (fun p => bt (S 174 10) p) i n (p + 1) c') := fun c' => by
        unfold fX11_led_51
        rw [kI_1, nI_add]
        exact ih (p + 1) c' g (by omega) (by omega)
      cases zb : bt (S 174 10) p with
      | false =>
        rw [if_neg (show ¬ bI (!false) = 0 by decide), if_neg (by decide)]
        unfold fX11_led_33
        exact e51 c
      | true =>
        rw [if_pos (show bI (!true) = 0 by decide), if_pos rfl]
        unfold fX11_led_36
        by_cases zc : nI c = i
        · rw [if_pos zc, if_pos zc]
          unfold fX11_led_41 ldR
          rw [kI_0, mo_p0, Option.bind_some, stS_R]
        · rw [if_neg zc, if_neg zc]
          unfold fX11_led_48
          rw [kI_1, nI_add]
          exact e51 (c + 1)
  unfold gX11_led fX11_led_0
  rw [kI_0]
  exact hloop P 0 0 FU (by omega) (FU_lt (by omega))
-- the class
def QL (r : Option Nat) (h : aH) (v : Option Value) (h' : aH) : Prop := h' = h ∧ (match r with
  | some p => v = some (.int (nI p))
  | none => v = some (.ref 45))
set_option maxRecDepth 100000 in
set_option maxHeartbeats 400000 in
theorem dl0 : decode mX10_led.2.2.1 0 = .ok (.iload_n 1, 1) := by decide +kernel
set_option maxRecDepth 100000 in
set_option maxHeartbeats 400000 in
theorem dl1 : decode mX10_led.2.2.1 1 = .ok (.istore_n 2, 1) := by decide +kernel
set_option maxRecDepth 100000 in
set_option maxHeartbeats 400000 in
theorem dl2 : decode mX10_led.2.2.1 2 = .ok (.iconst 0, 1) := by decide +kernel
set_option maxRecDepth 100000 in
set_option maxHeartbeats 400000 in
theorem dl3 : decode mX10_led.2.2.1 3 = .ok (.istore_n 3, 1) := by decide +kernel
set_option maxRecDepth 100000 in
set_option maxHeartbeats 400000 in
theorem dl4 : decode mX10_led.2.2.1 4 = .ok (.iload_n 3, 1) := by decide +kernel
set_option maxRecDepth 100000 in
set_option maxHeartbeats 400000 in
theorem dl5 : decode mX10_led.2.2.1 5 = .ok (.aload_n 0, 1) := by decide +kernel
set_option maxRecDepth 100000 in
set_option maxHeartbeats 400000 in
theorem dl6 : decode mX10_led.2.2.1 6 = .ok (.getfield 75, 3) := by decide +kernel
set_option maxRecDepth 100000 in
set_option maxHeartbeats 400000 in
theorem dl9 : decode mX10_led.2.2.1 9 = .ok (.getfield 116, 3) := by decide +kernel
set_option maxRecDepth 100000 in
set_option maxHeartbeats 400000 in
theorem dl12 : decode mX10_led.2.2.1 12 = .ok (.if_icmp .ge 33, 3) := by decide +kernel
set_option maxRecDepth 100000 in
set_option maxHeartbeats 400000 in
theorem dl15 : decode mX10_led.2.2.1 15 = .ok (.iload_n 2, 1) := by decide +kernel
set_option maxRecDepth 100000 in
set_option maxHeartbeats 400000 in
theorem dl16 : decode mX10_led.2.2.1 16 = .ok (.ifCond .lt 29, 3) := by decide +kernel
set_option maxRecDepth 100000 in
set_option maxHeartbeats 400000 in
theorem dl19 : decode mX10_led.2.2.1 19 = .ok (.aload_n 0, 1) := by decide +kernel
set_option maxRecDepth 100000 in
set_option maxHeartbeats 400000 in
theorem dl20 : decode mX10_led.2.2.1 20 = .ok (.getfield 68, 3) := by decide +kernel
set_option maxRecDepth 100000 in
set_option maxHeartbeats 400000 in
theorem dl23 : decode mX10_led.2.2.1 23 = .ok (.iload_n 3, 1) := by decide +kernel
set_option maxRecDepth 100000 in
set_option maxHeartbeats 400000 in
theorem dl24 : okC mX10_led 24 (.invokevirtual 166) 70 54 0 1 = true := by decide +kernel
set_option maxRecDepth 100000 in
set_option maxHeartbeats 400000 in
theorem dl27 : decode mX10_led.2.2.1 27 = .ok (.ifCond .eq 12, 3) := by decide +kernel
set_option maxRecDepth 100000 in
set_option maxHeartbeats 400000 in
theorem dl30 : decode mX10_led.2.2.1 30 = .ok (.iload_n 2, 1) := by decide +kernel
set_option maxRecDepth 100000 in
set_option maxHeartbeats 400000 in
theorem dl31 : decode mX10_led.2.2.1 31 = .ok (.ifCond .ne 5, 3) := by decide +kernel
set_option maxRecDepth 100000 in
set_option maxHeartbeats 400000 in
theorem dl34 : decode mX10_led.2.2.1 34 = .ok (.iload_n 3, 1) := by decide +kernel
set_option maxRecDepth 100000 in
set_option maxHeartbeats 400000 in
theorem dl35 : decode mX10_led.2.2.1 35 = .ok (.ireturn, 1) := by decide +kernel
set_option maxRecDepth 100000 in
set_option maxHeartbeats 400000 in
theorem dl36 : decode mX10_led.2.2.1 36 = .ok (.iinc 2 (-1), 3) := by decide +kernel
set_option maxRecDepth 100000 in
set_option maxHeartbeats 400000 in
theorem dl39 : decode mX10_led.2.2.1 39 = .ok (.iinc 3 1, 3) := by decide +kernel
set_option maxRecDepth 100000 in
set_option maxHeartbeats 400000 in
theorem dl42 : decode mX10_led.2.2.1 42 = .ok (.goto (-38), 3) := by decide +kernel
set_option maxRecDepth 100000 in
set_option maxHeartbeats 400000 in
theorem ol6 : okI mX10_led 6 (.getfield 75) (171, 10, 9) = true := by decide +kernel
set_option maxRecDepth 100000 in
set_option maxHeartbeats 400000 in
theorem ol9 : okI mX10_led 9 (.getfield 116) (110, 9, 3) = true := by decide +kernel
set_option maxRecDepth 100000 in
set_option maxHeartbeats 400000 in
theorem ol20 : okI mX10_led 20 (.getfield 68) (170, 10, 8) = true := by decide +kernel
set_option maxRecDepth 100000 in
set_option maxHeartbeats 400000 in
theorem nI_dec (x : Nat) : nI (x + 1) + kI (-1) = nI x := by
  rw [← nI_add, Int32.add_assoc, show nI 1 + kI (-1) = 0 by decide, Int32.add_zero]
variable {d : Nat} {b : Nat × Nat} {Q : Option Value → aH → Prop}
-- the head of the loop: on or out
set_option maxRecDepth 100000 in
set_option maxHeartbeats 400000 in
theorem e_led4 {i a : Int32} {p P : Nat} (ht : tlA (T 0)) (hP : S (T 0) 3 = nI P) (hP5 : P ≤ 5) (hp5 : p ≤ 5) (hout : ¬ p < P ∨ a < 0 → Q (some (.ref 45)) (hp S J T)) (hin : p < P → ¬ a < 0 → Ev (d + 1) none mX10_led b 19 [.ref 0, .int i, .int a, .int (nI p)] [] (hp S J T) Q) : Ev (d + 1) none mX10_led b 4 [.ref 0, .int i, .int a, .int (nI p)] [] (hp S J T) Q := by
  refine s_k (i := .iload_n 3) (pc := 4) (0, 0, 0) (fun z => by cases z) dl4 rfl (fun k j rt q => q) ?_
  refine s_k (i := .aload_n 0) (pc := 5) (0, 0, 0) (fun z => by cases z) dl5 rfl (fun k j rt q => q) ?_
  refine s_gf (pc := 6) rfl dl6 ol6 (gFR_v lt_f9) ?_
  refine s_gf (pc := 9) rfl dl9 ol9 (gFI_v (tl_g3 ht)) ?_
  rw [hP]
  by_cases z : p < P
  · refine s_k (i := .if_icmp .ge 33) (pc := 12) (45, 0, 0) (fun z => by cases z) dl12 rfl (fun k j rt q => ⟨fun _ => q, fun w => absurd (ltn z (by omega)) w⟩) ?_
    refine s_k (i := .iload_n 2) (pc := 15) (0, 0, 0) (fun z => by cases z) dl15 rfl (fun k j rt q => q) ?_
    by_cases za : a < 0
    · refine s_j (i := .ifCond .lt 29) (pc := 16) (45, 0, 0) 45 (fun z => by cases z) dl16 rfl (fun k j rt q => ⟨fun _ => q, fun w => absurd za w⟩) ?_
      exact ev_thr (hout (Or.inr za))
    · refine s_k (i := .ifCond .lt 29) (pc := 16) (45, 0, 0) (fun z => by cases z) dl16 rfl (fun k j rt q => ⟨fun w => absurd w za, fun _ => q⟩) ?_
      exact hin z za
  · refine s_j (i := .if_icmp .ge 33) (pc := 12) (45, 0, 0) 45 (fun z => by cases z) dl12 rfl (fun k j rt q => ⟨fun w => absurd w (nltn z (by omega) (by omega)), fun _ => q⟩) ?_
    exact ev_thr (hout (Or.inl z))
set_option maxRecDepth 100000 in
set_option maxHeartbeats 400000 in
theorem e_led39 {i a : Int32} {p : Nat} (hk : Ev (d + 1) none mX10_led b 4 [.ref 0, .int i, .int a, .int (nI (p + 1))] [] (hp S J T) Q) : Ev (d + 1) none mX10_led b 39 [.ref 0, .int i, .int a, .int (nI p)] [] (hp S J T) Q := by
  refine s_k (i := .iinc 3 1) (pc := 39) (xs' := [.ref 0, .int i, .int a, .int (nI (p + 1))]) (st' := []) (h' := hp S J T) (0, 0, 0) (fun z => by cases z) dl39 rfl (fun k j rt q => ?_) ?_
  · show _ ∧ k (sto1 [.ref 0, .int i, .int a, .int (nI p)] 3 (.int (nI p + kI 1))) [] (hp S J T)
    rw [kI_1, nI_add]
    exact ⟨by decide, q⟩
  · exact s_j (i := .goto (-38)) (pc := 42) (4, 0, 0) 4 (fun z => by cases z) dl42 rfl (fun k j rt q => q) hk
set_option maxRecDepth 100000 in
set_option maxHeartbeats 400000 in
theorem e_led19 {i a : Int32} {p : Nat} (hp5 : p < 5) (hdead : bt (S 139 10) p = true → a = 0 → Q (some (.int (nI p))) (hp S J T)) (hmore : bt (S 139 10) p = true → a ≠ 0 → Ev (d + 1) none mX10_led b 4 [.ref 0, .int i, .int (a + kI (-1)), .int (nI (p + 1))] [] (hp S J T) Q) (hlive : bt (S 139 10) p = false → Ev (d + 1) none mX10_led b 4 [.ref 0, .int i, .int a, .int (nI (p + 1))] [] (hp S J T) Q) : Ev (d + 1) none mX10_led b 19 [.ref 0, .int i, .int a, .int (nI p)] [] (hp S J T) Q := by
  obtain ⟨fs, g1⟩ := isO_ok (pl_isO (S := S) (J := J) (T := T) plA_139)
  refine s_k (i := .aload_n 0) (pc := 19) (0, 0, 0) (fun z => by cases z) dl19 rfl (fun k j rt q => q) ?_
  refine s_gf (pc := 20) rfl dl20 ol20 (gFR_v lt_f8) ?_
  refine s_k (i := .iload_n 3) (pc := 23) (0, 0, 0) (fun z => by cases z) dl23 rfl (fun k j rt q => q) ?_
  refine ev_V (as := [.int (nI p)]) (rest := []) dl24 jX7_isDead (zX7_isDead (c_isDead plA_139 (by omega))) g1 rfl rfl (by decide) rfl rfl (Nat.le_of_ble_eq_true rfl) (fun r h' q => ?_)
  obtain ⟨-, rfl, rfl⟩ := q
  show Ev (d + 1) none mX10_led b 27 _ [.int (bI (bt (S 139 10) p))] (hp S J T) Q
  cases zb : bt (S 139 10) p with
  | false =>
    refine s_j (i := .ifCond .eq 12) (pc := 27) (39, 0, 0) 39 (fun z => by cases z) dl27 rfl (fun k j rt q => ⟨fun _ => q, fun w => absurd (show bI false = 0 by decide) w⟩) ?_
    exact e_led39 (hlive zb)
  | true =>
    refine s_k (i := .ifCond .eq 12) (pc := 27) (39, 0, 0) (fun z => by cases z) dl27 rfl (fun k j rt q => ⟨fun w => absurd w (show ¬ bI true = 0 by decide), fun _ => q⟩) ?_
    refine s_k (i := .iload_n 2) (pc := 30) (0, 0, 0) (fun z => by cases z) dl30 rfl (fun k j rt q => q) ?_
    by_cases za : a = 0
    · refine s_k (i := .ifCond .ne 5) (pc := 31) (36, 0, 0) (fun z => by cases z) dl31 rfl (fun k j rt q => ⟨fun _ => q, fun w => absurd za w⟩) ?_
      refine s_k (i := .iload_n 3) (pc := 34) (0, 0, 0) (fun z => by cases z) dl34 rfl (fun k j rt q => q) ?_
      exact s_r (i := .ireturn) (pc := 35) (0, 0, 0) (fun z => by cases z) dl35 rfl (fun k j rt q => ⟨rfl, q⟩) (hdead zb za)
    · refine s_j (i := .ifCond .ne 5) (pc := 31) (36, 0, 0) 36 (fun z => by cases z) dl31 rfl (fun k j rt q => ⟨fun w => absurd w za, fun _ => q⟩) ?_
      refine s_k (i := .iinc 2 (-1)) (pc := 36) (xs' := [.ref 0, .int i, .int (a + kI (-1)), .int (nI p)]) (0, 0, 0) (fun z => by cases z) dl36 rfl (fun k j rt q => ⟨by decide, q⟩) ?_
      exact e_led39 (hmore zb za)
set_option maxRecDepth 100000 in
set_option maxHeartbeats 400000 in
theorem ev_led {i : Int32} {P : Nat} (ht : tlA (T 0)) (hP : S (T 0) 3 = nI P) (hP5 : P ≤ 5) : Ev (d + 1) none mX10_led b 0 (eN [.ref 0, .int i] 4) [] (hp S J T) (QL (ldG (fun p => bt (S 139 10) p) i P 0 0) (hp S J T)) := by
  refine s_k (i := .iload_n 1) (pc := 0) (0, 0, 0) (fun z => by cases z) dl0 rfl (fun k j rt q => q) ?_
  refine s_k (i := .istore_n 2) (pc := 1) (xs' := [.ref 0, .int i, .int i, .null]) (0, 0, 0) (fun z => by cases z) dl1 rfl (fun k j rt q => ⟨by decide, q⟩) ?_
  refine s_k (i := .iconst 0) (pc := 2) (0, 0, 0) (fun z => by cases z) dl2 rfl (fun k j rt q => q) ?_
  refine s_k (i := .istore_n 3) (pc := 3) (xs' := [.ref 0, .int i, .int i, .int (nI 0)]) (0, 0, 0) (fun z => by cases z) dl3 rfl (fun k j rt q => ⟨by decide, q⟩) ?_
  show Ev (d + 1) none mX10_led b 4 [.ref 0, .int i, .int i, .int (nI 0)] [] (hp S J T) _
  by_cases hi : i < 0
  · rw [ldG_neg hi P 0 0 (by omega)]
    exact e_led4 ht hP hP5 (by omega) (fun _ => ⟨rfl, rfl⟩) (fun _ w => absurd hi w)
  · obtain ⟨m, hm, rfl⟩ := nI_of hi
    have hloop : ∀ n p c, p + n = P → c ≤ m → Ev (d + 1) none mX10_led b 4 [.ref 0, .int (nI m), .int (nI (m - c)), .int (nI p)] [] (hp S J T) (QL (ldG (fun p => bt (S 139 10) p) (nI m) n p c) (hp S J T)) := by
      intro n
      induction n with
      | zero =>
        intro p c hk hc
        exact e_led4 ht hP hP5 (by omega) (fun _ => ⟨rfl, rfl⟩) (fun w _ => absurd w (by omega))
      | succ n ih =>
        intro p c hk hc
        refine e_led4 ht hP hP5 (by omega) (fun w => ?_) (fun _ _ => ?_)
        · rcases w with w | w
          · exact absurd (show p < P by omega) w
          · exact absurd w (nI_pos (by omega))
        · unfold ldG
          refine e_led19 (by omega) (fun zb za => ?_) (fun zb za => ?_) (fun zb => ?_)
          · have e : m - c = 0 := by
              have za' : nI (m - c) = nI 0 := za
              exact (nI_eq (by omega) (by omega)).mp za'
            rw [zb, if_pos rfl, if_pos (show nI c = nI m by rw [show c = m by omega])]
            exact ⟨rfl, rfl⟩
          · have e : m - c ≠ 0 := fun z => za (by rw [z]; rfl)
            rw [zb, if_pos rfl, if_neg (show ¬ nI c = nI m from fun z => by have := (nI_eq (by omega) hm).mp z; omega)]
            have e2 : nI (m - c) + kI (-1) = nI (m - (c + 1)) := by
              rw [show m - c = m - (c + 1) + 1 by omega]
              exact nI_dec _
            rw [e2]
            exact ih (p + 1) (c + 1) (by omega) (by omega)
          · rw [zb, if_neg (by decide)]
            exact ih (p + 1) c (by omega) hc
    have := hloop P 0 0 (by omega) (Nat.zero_le _)
    rw [Nat.sub_zero] at this
    exact this
end LED
