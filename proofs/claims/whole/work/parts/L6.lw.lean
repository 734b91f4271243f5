-- THE LAW: led, the loop
section LW55
variable {S : Mem} {J : MeJ} {T : Nat → Nat} {ys : List Int32} {b : Nat × Nat} {i : Nat} {Q : Option Value → aH → Prop}
set_option maxRecDepth 100000 in
set_option maxHeartbeats 400000 in
theorem ld_both (hR : Rl S T) (v : Int32) : ∃ (r : Option Nat) (P : Nat), tlA (T 0) ∧ S (T 0) 3 = nI P ∧ P ≤ 5 ∧ r = ldG (fun p => bt (S 139 10) p) v P 0 0 ∧ ∀ J' : MeJ, gX11_led 167 v (hp S J' T) = ldR S J' T r := by
  have ht := (tT_pl hR.1).1
  rcases hR.2.2.2 with ⟨h14, P, N, F, U, E, hy, _⟩ | ⟨h14, hn⟩
  · obtain ⟨y1, y2, y3, y4, y5, y6, y7, y8⟩ := hy
    refine ⟨_, P, ht, by rw [y2.1 3 (by omega)]; exact y1.1.1, y1.1.2.1, rfl, fun J' => ?_⟩
    rw [c_ledM h14 y1.1.1 y1.1.2.1, y5.2.1 10 (by omega) (by omega)]
  · exact ⟨none, 0, ht, hn.1 3 (by omega), by omega, rfl, fun J' => c_ledN h14⟩
set_option maxRecDepth 100000 in
set_option maxHeartbeats 400000 in
theorem Rl_0 (hR : Rl S T) (x : Int32) : Rl (stR S 167 (up (S 167) 0 x)) T := by
  obtain ⟨b, hb, hb1, hb2, hb3⟩ := hR.2.1
  refine Rl_t hR (fun c hc => stR_ne (fun z => hc (by rw [z]; decide))) (by rw [stR_ne (by omega)]) (fun j z1 z2 => by rw [stR_eq, up_ne z1]) ?_
  exact ⟨b, hb, by rw [stR_ne (by omega)]; exact hb1, by rw [stR_eq, up_ne (by omega)]; exact hb2, fun k hk => by rw [stR_ne (by omega), stR_ne (by omega)]; exact hb3 k hk⟩
set_option maxRecDepth 100000 in
set_option maxHeartbeats 400000 in
theorem kq1789 : okC mL_law 1789 (.invokevirtual 252) 300 317 0 1 = true := by decide +kernel
set_option maxRecDepth 100000 in
set_option maxHeartbeats 400000 in
theorem kq1795 : okC mL_law 1795 (.invokevirtual 253) 178 193 0 0 = true := by decide +kernel
set_option maxRecDepth 100000 in
set_option maxHeartbeats 400000 in
theorem dk1780 : decode code 1780 = .ok (.istore 5, 2) := by decide +kernel
set_option maxRecDepth 100000 in
set_option maxHeartbeats 400000 in
theorem dk1792 : decode code 1792 = .ok (.istore 6, 2) := by decide +kernel
set_option maxRecDepth 100000 in
set_option maxHeartbeats 400000 in
theorem dk1800 : decode code 1800 = .ok (.if_icmp .eq 5, 3) := by decide +kernel
set_option maxRecDepth 100000 in
set_option maxHeartbeats 400000 in
theorem dk1807 : decode code 1807 = .ok (.ifCond .ne 15, 3) := by decide +kernel
set_option maxRecDepth 100000 in
set_option maxHeartbeats 400000 in
theorem dk1811 : decode code 1811 = .ok (.iconst 0, 1) := by decide +kernel
set_option maxRecDepth 100000 in
set_option maxHeartbeats 400000 in
theorem dk1812 : decode code 1812 = .ok (.laload, 1) := by decide +kernel
set_option maxRecDepth 100000 in
set_option maxHeartbeats 400000 in
theorem dk1815 : decode code 1815 = .ok (.i2l, 1) := by decide +kernel
set_option maxRecDepth 100000 in
set_option maxHeartbeats 400000 in
theorem dk1816 : decode code 1816 = .ok (.lcmp, 1) := by decide +kernel
set_option maxRecDepth 100000 in
set_option maxHeartbeats 400000 in
theorem dk1817 : decode code 1817 = .ok (.ifCond .eq 5, 3) := by decide +kernel
set_option maxRecDepth 100000 in
set_option maxHeartbeats 400000 in
theorem dk1822 : decode code 1822 = .ok (.goto 41, 3) := by decide +kernel
set_option maxRecDepth 100000 in
set_option maxHeartbeats 400000 in
theorem th_r {J' : MeJ} : gX11_thrown 167 (hp S J' T) = some (S 167 0, hp S J' T) := by
  unfold gX11_thrown fX11_thrown_0
  rw [mo_g0, Option.bind_some]
-- from behind the law's own led
set_option maxRecDepth 100000 in
set_option maxHeartbeats 400000 in
theorem lw_55a {J' : MeJ} {k5 : Int32} {S2 : Mem} {w : Int32} (hi : i + 5 < ys.length) (hl : ys.length ≤ 3072) (e2 : gX11_led 167 (ys.getD (i + 1) 0) (hp S J' T) = some (w, hp S2 J' T)) (e3 : S2 167 0 = k5) (hk : Ev 50 (some ys) mL_law b 1805 (lY i (.int k5) (.int w)) [] (hp S2 J' T) Q) : Ev 50 (some ys) mL_law b 1780 (lX i) [.int k5] (hp S J' T) Q := by
  obtain ⟨f2, g2⟩ := isO_ok (mo_isO (S := S) (J := J') (T := T))
  obtain ⟨f3, g3⟩ := isO_ok (mo_isO (S := S2) (J := J') (T := T))
  refine s_k (i := .istore 5) (pc := 1780) (xs' := lY i (.int k5) .null) (0, 0, 0) (fun z => by cases z) dk1780 rfl (fun k j rt q => ⟨by decide, q⟩) ?_
  refine w_al (pc := 1782) (a := 2) (by decide +kernel) rfl ?_
  refine w_arg (i := i) (pc := 1783) (j := 1) rfl rfl (by omega) (by decide +kernel) hi hl ?_
  refine ev_V (as := [.int (ys.getD (i + 1) 0)]) (rest := []) kq1789 jX11_led (zX11_led e2) g2 rfl rfl (by decide) rfl rfl (Nat.le_of_ble_eq_true rfl) (fun r h' q => ?_)
  obtain ⟨rfl, rfl⟩ := q
  refine s_k (i := .istore 6) (pc := 1792) (xs' := lY i (.int k5) (.int w)) (st' := []) (0, 0, 0) (fun z => by cases z) dk1792 rfl (fun k j rt q => ⟨by decide, q⟩) ?_
  refine w_al (pc := 1794) (a := 2) (by decide +kernel) rfl ?_
  refine ev_V (as := []) (rest := []) kq1795 jX11_thrown (zX11_thrown th_r) g3 rfl rfl (by decide) rfl rfl (Nat.le_of_ble_eq_true rfl) (fun r h' q => ?_)
  obtain ⟨rfl, rfl⟩ := q
  refine w_il (pc := 1798) (a := 5) (by decide +kernel) rfl ?_
  exact s_j (i := .if_icmp .eq 5) (pc := 1800) (st' := []) (1805, 0, 0) 1805 (fun z => by cases z) dk1800 rfl (fun k j rt q => ⟨fun _ => q, fun w => absurd e3 w⟩) hk
set_option maxRecDepth 100000 in
set_option maxHeartbeats 400000 in
theorem lw_55 (hR : Rl S T) (hi : i + 5 < ys.length) (hl : ys.length ≤ 3072) (hk : ∀ S' J' T', Rl S' T' → Ev 50 (some ys) mL_law b 23 (lX (i + 6)) [] (hp S' J' T') Q) : Ev 50 (some ys) mL_law (b.1 + 1, b.2 + 6) 1769 (lX i) [] (hp S J T) Q := by
  obtain ⟨r, P, ht, hP, hP5, hr, hM⟩ := ld_both hR (ys.getD (i + 1) 0)
  have kev : Ev 48 none mX10_led (0, 0) 0 (eN [.ref 0, .int (ys.getD (i + 1) 0)] mX10_led.2.2.2.1) [] (hp S J T) (QL r (hp S J T)) := by
    rw [hr]
    exact ev_led (d := 47) ht hP hP5
  have hct := ct_Lled (ct_led (by omega) kev)
  refine w_al (pc := 1769) (a := 1) (by decide +kernel) rfl ?_
  refine w_arg (i := i) (pc := 1770) (j := 1) rfl rfl (by omega) (by decide +kernel) hi hl ?_
  refine w_al (pc := 1776) (a := 3) (by decide +kernel) rfl ?_
  refine ev_SW (as := [.ref 0, .int (ys.getD (i + 1) 0), .ref 181]) (rest := []) hct rfl (Nat.le_of_ble_eq_true rfl) (fun r0 h' q => ?_)
  cases r with
  | some p =>
    obtain ⟨rfl, rfl⟩ := q
    refine lw_55a (k5 := nI 0) hi hl (hM _) (by rw [stR_eq, up_eq]) ?_
    refine w_il (pc := 1805) (a := 5) (by decide +kernel) rfl ?_
    refine s_k (i := .ifCond .ne 15) (pc := 1807) (st' := []) (1822, 0, 0) (fun z => by cases z) dk1807 rfl (fun k j rt q => ⟨fun _ => q, fun w => absurd (show nI 0 = 0 from rfl) w⟩) ?_
    refine w_al (pc := 1810) (a := 3) (by decide +kernel) rfl ?_
    refine s_k (i := .iconst 0) (pc := 1811) (0, 0, 0) (fun z => by cases z) dk1811 rfl (fun k j rt q => q) ?_
    refine s_k (i := .laload) (pc := 1812) (xs' := lY i (.int (nI 0)) (.int (nI p))) (h' := hp (stR S 167 (up (S 167) 0 (nI 0))) (stJ J 181 0 (nI p).toInt64) T) (st' := [.long (nI p).toInt64]) (0, 0, 0) (fun z => by cases z) dk1812 rfl (fun k j rt q => ?_) ?_
    · refine aRJ_s (a := 181) (i := kI 0) (h := hp (stR S 167 (up (S 167) 0 (nI 0))) (stJ J 181 0 (nI p).toInt64) T) (K := fun x => k (lY i (.int (nI 0)) (.int (nI p))) [.long x] (hp (stR S 167 (up (S 167) 0 (nI 0))) (stJ J 181 0 (nI p).toInt64) T)) (x := (nI p).toInt64) ?_ q
      rw [kI_0, ou_r (by omega)]
      exact congrArg some (if_pos ⟨rfl, rfl⟩)
    refine w_il (pc := 1813) (a := 6) (by decide +kernel) rfl ?_
    refine s_k (i := .i2l) (pc := 1815) (st' := [.long (nI p).toInt64, .long (nI p).toInt64]) (0, 0, 0) (fun z => by cases z) dk1815 rfl (fun k j rt q => q) ?_
    refine s_k (i := .lcmp) (pc := 1816) (xs' := lY i (.int (nI 0)) (.int (nI p))) (h' := hp (stR S 167 (up (S 167) 0 (nI 0))) (stJ J 181 0 (nI p).toInt64) T) (st' := [.int 0]) (0, 0, 0) (fun z => by cases z) dk1816 rfl (fun k j rt q => by show k (lY i (.int (nI 0)) (.int (nI p))) [.int (lg_cmp (nI p).toInt64 (nI p).toInt64)] (hp (stR S 167 (up (S 167) 0 (nI 0))) (stJ J 181 0 (nI p).toInt64) T); rw [lc_eq]; exact q) ?_
    refine s_j (i := .ifCond .eq 5) (pc := 1817) (st' := []) (1822, 0, 0) 1822 (fun z => by cases z) dk1817 rfl (fun k j rt q => ⟨fun _ => q, fun w => absurd rfl w⟩) ?_
    refine s_j (i := .goto 41) (pc := 1822) (1863, 0, 0) 1863 (fun z => by cases z) dk1822 rfl (fun k j rt q => q) ?_
    exact w_nxt (hk _ _ _ (Rl_0 hR _))
  | none =>
    obtain ⟨rfl, rfl⟩ := q
    refine lw_55a (k5 := nI 1) hi hl (hM _) (by rw [stR_eq, up_eq]) ?_
    refine w_il (pc := 1805) (a := 5) (by decide +kernel) rfl ?_
    refine s_j (i := .ifCond .ne 15) (pc := 1807) (st' := []) (1822, 0, 0) 1822 (fun z => by cases z) dk1807 rfl (fun k j rt q => ⟨fun w => absurd w (show ¬ nI 1 = 0 by decide), fun _ => q⟩) ?_
    refine s_j (i := .goto 41) (pc := 1822) (1863, 0, 0) 1863 (fun z => by cases z) dk1822 rfl (fun k j rt q => q) ?_
    exact w_nxt (hk _ _ _ (Rl_0 hR _))
end LW55
