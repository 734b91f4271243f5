-- THE LAW: the loop
set_option maxRecDepth 100000 in
set_option maxHeartbeats 400000 in
theorem dw23 : decode code 23 = .ok (.iload 4, 2) := by decide +kernel
set_option maxRecDepth 100000 in
set_option maxHeartbeats 400000 in
theorem dw26 : decode code 26 = .ok (.arraylength, 1) := by decide +kernel
set_option maxRecDepth 100000 in
set_option maxHeartbeats 400000 in
theorem dw27 : decode code 27 = .ok (.bipush 6, 2) := by decide +kernel
set_option maxRecDepth 100000 in
set_option maxHeartbeats 400000 in
theorem dw29 : decode code 29 = .ok (.isub, 1) := by decide +kernel
set_option maxRecDepth 100000 in
set_option maxHeartbeats 400000 in
theorem dw30 : decode code 30 = .ok (.if_icmp .gt 1839, 3) := by decide +kernel
set_option maxRecDepth 100000 in
set_option maxHeartbeats 400000 in
theorem dw36 : decode code 36 = .ok (.iaload, 1) := by decide +kernel
set_option maxRecDepth 100000 in
set_option maxHeartbeats 400000 in
theorem dw37 : decode code 37 = .ok (.bipush 63, 2) := by decide +kernel
set_option maxRecDepth 100000 in
set_option maxHeartbeats 400000 in
theorem dw39 : decode code 39 = .ok (.iand, 1) := by decide +kernel
set_option maxRecDepth 100000 in
set_option maxHeartbeats 400000 in
theorem dw40 : decode code 40 = .ok (.tableswitch 1823 0 57 #[248, 321, 346, 359, 372, 409, 446, 459, 484, 509, 522, 535, 560, 585, 610, 635, 660, 697, 722, 747, 772, 797, 822, 859, 896, 921, 946, 971, 1008, 1045, 1058, 1071, 1084, 1097, 1122, 1135, 1160, 1173, 1186, 1199, 1212, 1225, 1334, 1359, 1384, 1450, 1504, 1541, 1554, 1579, 1616, 1641, 1678, 1691, 1704, 1729, 1785, 1810], 248) := by decide +kernel
set_option maxRecDepth 100000 in
set_option maxHeartbeats 400000 in
theorem dw1869 : decode code 1869 = .ok (.iconst 1, 1) := by decide +kernel
set_option maxRecDepth 100000 in
set_option maxHeartbeats 400000 in
theorem dw1870 : decode code 1870 = .ok (.ireturn, 1) := by decide +kernel
set_option maxRecDepth 100000 in
set_option maxHeartbeats 400000 in
theorem lo6 : ∀ n, n < 6 → ∀ i, i < 6 → nI n - nI 6 < nI i := by decide
set_option maxRecDepth 100000 in
set_option maxHeartbeats 400000 in
theorem and63 (x : Int32) : ∃ m, m < 64 ∧ x &&& nI 63 = nI m := by
  obtain ⟨m, h1, h2⟩ := and_sm 63 x (by omega)
  exact ⟨m, by omega, by rw [Int32.and_comm]; exact h2⟩
section LWL
variable {S : Mem} {J : MeJ} {T : Nat → Nat} {ys : List Int32} {b : Nat × Nat} {i : Nat} {Q : Option Value → aH → Prop} {h : aH}
set_option maxRecDepth 100000 in
set_option maxHeartbeats 400000 in
theorem lw_hd (hb : Ev 50 (some ys) mL_law b 30 (lX i) [.int (nI ys.length - nI 6), .int (nI i)] h Q) : Ev 50 (some ys) mL_law b 23 (lX i) [] h Q := by
  refine w_il (pc := 23) dw23 rfl ?_
  refine w_al (pc := 25) (a := 0) (by decide +kernel) rfl ?_
  refine s_k (i := .arraylength) (pc := 26) (xs' := lX i) (h' := h) (st' := [.int (nI ys.length), .int (nI i)]) (0, 0, 0) (fun z => by cases z) dw26 rfl (fun k j rt q => by unfold stp; dsimp only [pR, xN]; rw [if_pos rfl]; exact q) ?_
  refine s_k (i := .bipush 6) (pc := 27) (0, 0, 0) (fun z => by cases z) dw27 rfl (fun k j rt q => q) ?_
  refine s_k (i := .isub) (pc := 29) (xs' := lX i) (h' := h) (st' := [.int (nI ys.length - nI 6), .int (nI i)]) (0, 0, 0) (fun z => by cases z) dw29 rfl (fun k j rt q => by show k (lX i) [.int (nI ys.length - kB 6), .int (nI i)] h; rw [kB_6]; exact q) hb
set_option maxRecDepth 100000 in
set_option maxHeartbeats 400000 in
theorem lw_out (h1 : ys.length < i + 6) (h2 : i ≤ ys.length) (hl : ys.length ≤ 3072) (hq : Q (some (.int (nI 1))) h) : Ev 50 (some ys) mL_law b 23 (lX i) [] h Q := by
  have hg : nI ys.length - nI 6 < nI i := by
    by_cases z : ys.length < 6
    · exact lo6 _ z i (by omega)
    · rw [nI_sub (by omega)]
      exact ltn (by omega) (by omega)
  refine lw_hd ?_
  refine s_j (i := .if_icmp .gt 1839) (pc := 30) (st' := []) (1869, 0, 0) 1869 (fun z => by cases z) dw30 rfl (fun k j rt q => ⟨fun _ => q, fun w => absurd hg w⟩) ?_
  refine s_k (i := .iconst 1) (pc := 1869) (0, 0, 0) (fun z => by cases z) dw1869 rfl (fun k j rt q => q) ?_
  exact s_r (i := .ireturn) (pc := 1870) (v := some (.int (nI 1))) (0, 0, 0) (fun z => by cases z) dw1870 rfl (fun k j rt q => ⟨rfl, by rw [kI_1]; exact q⟩) hq
set_option maxRecDepth 100000 in
set_option maxHeartbeats 400000 in
theorem lw_go (hi : i + 5 < ys.length) (hl : ys.length ≤ 3072) (hk : ∀ m, m < 64 → Ev 50 (some ys) mL_law b 40 (lX i) [.int (nI m)] h Q) : Ev 50 (some ys) mL_law b 23 (lX i) [] h Q := by
  refine lw_hd ?_
  rw [nI_sub (by omega)]
  refine s_k (i := .if_icmp .gt 1839) (pc := 30) (st' := []) (1869, 0, 0) (fun z => by cases z) dw30 rfl (fun k j rt q => ⟨fun w => absurd w (nltn (by omega) (by omega) (by omega)), fun _ => q⟩) ?_
  refine w_al (pc := 33) (a := 0) (by decide +kernel) rfl ?_
  refine w_il (pc := 34) (a := 4) (by decide +kernel) rfl ?_
  refine w_ia (pc := 36) rfl dw36 (by omega) hl ?_
  refine s_k (i := .bipush 63) (pc := 37) (0, 0, 0) (fun z => by cases z) dw37 rfl (fun k j rt q => q) ?_
  obtain ⟨m, hm, e⟩ := and63 (ys.getD i 0)
  refine s_k (i := .iand) (pc := 39) (xs' := lX i) (h' := h) (st' := [.int (nI m)]) (0, 0, 0) (fun z => by cases z) dw39 rfl (fun k j rt q => by show k (lX i) [.int (ys.getD i 0 &&& kB 63)] h; rw [kB_63, e]; exact q) ?_
  exact hk m hm
set_option maxRecDepth 100000 in
set_option maxHeartbeats 400000 in
theorem lw_step (hR : Rl S T) (hi : i + 5 < ys.length) (hl : ys.length ≤ 3072) (hk : ∀ S' J' T', Rl S' T' → Ev 50 (some ys) mL_law b 23 (lX (i + 6)) [] (hp S' J' T') Q) : Ev 50 (some ys) mL_law (b.1 + 1, b.2 + 6) 23 (lX i) [] (hp S J T) Q := by
  refine lw_go hi hl (fun m hm => ?_)
  have w1 : b.1 ≤ b.1 + 1 := by omega
  have w2 : b.2 ≤ b.2 + 6 := by omega
  by_cases hz : m < 58
  · match m, hz with
    | 0, _ => exact ev_tsI (x := nI 0) (off := 248) (t := 288) dw40 (by decide) (by decide) rfl (ev_wk (b := b) w1 w2 (lw_0 hR hi hl hk))
    | 1, _ => exact ev_tsI (x := nI 1) (off := 321) (t := 361) dw40 (by decide) (by decide) rfl (ev_wk (b := b) w1 w2 (lw_1 hR hi hl hk))
    | 2, _ => exact ev_tsI (x := nI 2) (off := 346) (t := 386) dw40 (by decide) (by decide) rfl (ev_wk (b := b) w1 w2 (lw_2 hR hi hl hk))
    | 3, _ => exact ev_tsI (x := nI 3) (off := 359) (t := 399) dw40 (by decide) (by decide) rfl (ev_wk (b := b) w1 w2 (lw_3 hR hi hl hk))
    | 4, _ => exact ev_tsI (x := nI 4) (off := 372) (t := 412) dw40 (by decide) (by decide) rfl (ev_wk (b := b) w1 w2 (lw_4 hR hi hl hk))
    | 5, _ => exact ev_tsI (x := nI 5) (off := 409) (t := 449) dw40 (by decide) (by decide) rfl (ev_wk (b := b) w1 w2 (lw_5 hR hi hl hk))
    | 6, _ => exact ev_tsI (x := nI 6) (off := 446) (t := 486) dw40 (by decide) (by decide) rfl (ev_wk (b := b) w1 w2 (lw_6 hR hi hl hk))
    | 7, _ => exact ev_tsI (x := nI 7) (off := 459) (t := 499) dw40 (by decide) (by decide) rfl (ev_wk (b := b) w1 w2 (lw_7 hR hi hl hk))
    | 8, _ => exact ev_tsI (x := nI 8) (off := 484) (t := 524) dw40 (by decide) (by decide) rfl (ev_wk (b := b) w1 w2 (lw_8 hR hi hl hk))
    | 9, _ => exact ev_tsI (x := nI 9) (off := 509) (t := 549) dw40 (by decide) (by decide) rfl (ev_wk (b := b) w1 w2 (lw_9 hR hi hl hk))
    | 10, _ => exact ev_tsI (x := nI 10) (off := 522) (t := 562) dw40 (by decide) (by decide) rfl (ev_wk (b := b) w1 w2 (lw_10 hR hi hl hk))
    | 11, _ => exact ev_tsI (x := nI 11) (off := 535) (t := 575) dw40 (by decide) (by decide) rfl (ev_wk (b := b) w1 w2 (lw_11 hR hi hl hk))
    | 12, _ => exact ev_tsI (x := nI 12) (off := 560) (t := 600) dw40 (by decide) (by decide) rfl (ev_wk (b := b) w1 w2 (lw_12 hR hi hl hk))
    | 13, _ => exact ev_tsI (x := nI 13) (off := 585) (t := 625) dw40 (by decide) (by decide) rfl (ev_wk (b := b) w1 w2 (lw_13 hR hi hl hk))
    | 14, _ => exact ev_tsI (x := nI 14) (off := 610) (t := 650) dw40 (by decide) (by decide) rfl (ev_wk (b := b) w1 w2 (lw_14 hR hi hl hk))
    | 15, _ => exact ev_tsI (x := nI 15) (off := 635) (t := 675) dw40 (by decide) (by decide) rfl (ev_wk (b := b) w1 w2 (lw_15 hR hi hl hk))
    | 16, _ => exact ev_tsI (x := nI 16) (off := 660) (t := 700) dw40 (by decide) (by decide) rfl (ev_wk (b := b) w1 w2 (lw_16 hR hi hl hk))
    | 17, _ => exact ev_tsI (x := nI 17) (off := 697) (t := 737) dw40 (by decide) (by decide) rfl (ev_wk (b := b) w1 w2 (lw_17 hR hi hl hk))
    | 18, _ => exact ev_tsI (x := nI 18) (off := 722) (t := 762) dw40 (by decide) (by decide) rfl (ev_wk (b := b) w1 w2 (lw_18 hR hi hl hk))
    | 19, _ => exact ev_tsI (x := nI 19) (off := 747) (t := 787) dw40 (by decide) (by decide) rfl (ev_wk (b := b) w1 w2 (lw_19 hR hi hl hk))
    | 20, _ => exact ev_tsI (x := nI 20) (off := 772) (t := 812) dw40 (by decide) (by decide) rfl (ev_wk (b := b) w1 w2 (lw_20 hR hi hl hk))
    | 21, _ => exact ev_tsI (x := nI 21) (off := 797) (t := 837) dw40 (by decide) (by decide) rfl (ev_wk (b := b) w1 w2 (lw_21 hR hi hl hk))
    | 22, _ => exact ev_tsI (x := nI 22) (off := 822) (t := 862) dw40 (by decide) (by decide) rfl (ev_wk (b := b) w1 w2 (lw_22 hR hi hl hk))
    | 23, _ => exact ev_tsI (x := nI 23) (off := 859) (t := 899) dw40 (by decide) (by decide) rfl (ev_wk (b := b) w1 w2 (lw_23 hR hi hl hk))
    | 24, _ => exact ev_tsI (x := nI 24) (off := 896) (t := 936) dw40 (by decide) (by decide) rfl (ev_wk (b := b) w1 w2 (lw_24 hR hi hl hk))
    | 25, _ => exact ev_tsI (x := nI 25) (off := 921) (t := 961) dw40 (by decide) (by decide) rfl (ev_wk (b := b) w1 w2 (lw_25 hR hi hl hk))
    | 26, _ => exact ev_tsI (x := nI 26) (off := 946) (t := 986) dw40 (by decide) (by decide) rfl (ev_wk (b := b) w1 w2 (lw_26 hR hi hl hk))
    | 27, _ => exact ev_tsI (x := nI 27) (off := 971) (t := 1011) dw40 (by decide) (by decide) rfl (ev_wk (b := b) w1 w2 (lw_27 hR hi hl hk))
    | 28, _ => exact ev_tsI (x := nI 28) (off := 1008) (t := 1048) dw40 (by decide) (by decide) rfl (ev_wk (b := b) w1 w2 (lw_28 hR hi hl hk))
    | 29, _ => exact ev_tsI (x := nI 29) (off := 1045) (t := 1085) dw40 (by decide) (by decide) rfl (ev_wk (b := b) w1 w2 (lw_29 hR hi hl hk))
    | 30, _ => exact ev_tsI (x := nI 30) (off := 1058) (t := 1098) dw40 (by decide) (by decide) rfl (ev_wk (b := b) w1 w2 (lw_30 hR hi hl hk))
    | 31, _ => exact ev_tsI (x := nI 31) (off := 1071) (t := 1111) dw40 (by decide) (by decide) rfl (ev_wk (b := b) w1 w2 (lw_31 hR hi hl hk))
    | 32, _ => exact ev_tsI (x := nI 32) (off := 1084) (t := 1124) dw40 (by decide) (by decide) rfl (ev_wk (b := b) w1 w2 (lw_32 hR hi hl hk))
    | 33, _ => exact ev_tsI (x := nI 33) (off := 1097) (t := 1137) dw40 (by decide) (by decide) rfl (ev_wk (b := b) w1 w2 (lw_33 hR hi hl hk))
    | 34, _ => exact ev_tsI (x := nI 34) (off := 1122) (t := 1162) dw40 (by decide) (by decide) rfl (ev_wk (b := b) w1 w2 (lw_34 hR hi hl hk))
    | 35, _ => exact ev_tsI (x := nI 35) (off := 1135) (t := 1175) dw40 (by decide) (by decide) rfl (ev_wk (b := b) w1 w2 (lw_35 hR hi hl hk))
    | 36, _ => exact ev_tsI (x := nI 36) (off := 1160) (t := 1200) dw40 (by decide) (by decide) rfl (ev_wk (b := b) w1 w2 (lw_36 hR hi hl hk))
    | 37, _ => exact ev_tsI (x := nI 37) (off := 1173) (t := 1213) dw40 (by decide) (by decide) rfl (ev_wk (b := b) w1 w2 (lw_37 hR hi hl hk))
    | 38, _ => exact ev_tsI (x := nI 38) (off := 1186) (t := 1226) dw40 (by decide) (by decide) rfl (ev_wk (b := b) w1 w2 (lw_38 hR hi hl hk))
    | 39, _ => exact ev_tsI (x := nI 39) (off := 1199) (t := 1239) dw40 (by decide) (by decide) rfl (ev_wk (b := b) w1 w2 (lw_39 hR hi hl hk))
    | 40, _ => exact ev_tsI (x := nI 40) (off := 1212) (t := 1252) dw40 (by decide) (by decide) rfl (ev_wk (b := b) w1 w2 (lw_40 hR hi hl hk))
    | 41, _ => exact ev_tsI (x := nI 41) (off := 1225) (t := 1265) dw40 (by decide) (by decide) rfl (ev_wk (b := b) w1 w2 (lw_41 hR hi hl hk))
    | 42, _ => exact ev_tsI (x := nI 42) (off := 1334) (t := 1374) dw40 (by decide) (by decide) rfl (ev_wk (b := b) w1 w2 (lw_42 hR hi hl hk))
    | 43, _ => exact ev_tsI (x := nI 43) (off := 1359) (t := 1399) dw40 (by decide) (by decide) rfl (ev_wk (b := b) w1 w2 (lw_43 hR hi hl hk))
    | 44, _ => exact ev_tsI (x := nI 44) (off := 1384) (t := 1424) dw40 (by decide) (by decide) rfl (ev_wk (b := b) w1 w2 (lw_44 hR hi hl hk))
    | 45, _ => exact ev_tsI (x := nI 45) (off := 1450) (t := 1490) dw40 (by decide) (by decide) rfl (ev_wk (b := b) w1 w2 (lw_45 hR hi hl hk))
    | 46, _ => exact ev_tsI (x := nI 46) (off := 1504) (t := 1544) dw40 (by decide) (by decide) rfl (ev_wk (b := b) w1 w2 (lw_46 hR hi hl hk))
    | 47, _ => exact ev_tsI (x := nI 47) (off := 1541) (t := 1581) dw40 (by decide) (by decide) rfl (ev_wk (b := b) w1 w2 (lw_47 hR hi hl hk))
    | 48, _ => exact ev_tsI (x := nI 48) (off := 1554) (t := 1594) dw40 (by decide) (by decide) rfl (ev_wk (b := b) w1 w2 (lw_48 hR hi hl hk))
    | 49, _ => exact ev_tsI (x := nI 49) (off := 1579) (t := 1619) dw40 (by decide) (by decide) rfl (ev_wk (b := b) w1 w2 (lw_49 hR hi hl hk))
    | 50, _ => exact ev_tsI (x := nI 50) (off := 1616) (t := 1656) dw40 (by decide) (by decide) rfl (ev_wk (b := b) w1 w2 (lw_50 hR hi hl hk))
    | 51, _ => exact ev_tsI (x := nI 51) (off := 1641) (t := 1681) dw40 (by decide) (by decide) rfl (ev_wk (b := b) w1 w2 (lw_51 hR hi hl hk))
    | 52, _ => exact ev_tsI (x := nI 52) (off := 1678) (t := 1718) dw40 (by decide) (by decide) rfl (ev_wk (b := b) w1 w2 (lw_52 hR hi hl hk))
    | 53, _ => exact ev_tsI (x := nI 53) (off := 1691) (t := 1731) dw40 (by decide) (by decide) rfl (ev_wk (b := b) w1 w2 (lw_53 hR hi hl hk))
    | 54, _ => exact ev_tsI (x := nI 54) (off := 1704) (t := 1744) dw40 (by decide) (by decide) rfl (ev_wk (b := b) w1 w2 (lw_54 hR hi hl hk))
    | 55, _ => exact ev_tsI (x := nI 55) (off := 1729) (t := 1769) dw40 (by decide) (by decide) rfl (lw_55 hR hi hl hk)
    | 56, _ => exact ev_tsI (x := nI 56) (off := 1785) (t := 1825) dw40 (by decide) (by decide) rfl (ev_wk (b := b) w1 w2 (lw_56 hR hi hl hk))
    | 57, _ => exact ev_tsI (x := nI 57) (off := 1810) (t := 1850) dw40 (by decide) (by decide) rfl (ev_wk (b := b) w1 w2 (lw_57 hR hi hl hk))
    | m + 58, hz => exact absurd hz (by omega)
  · refine ev_tsO (t := 1863) dw40 (Or.inr ?_) rfl (ev_wk (b := b) w1 w2 (w_nxt (hk _ _ _ hR)))
    have : ∀ m, m < 64 → ¬ m < 58 → (57 : Int) < (nI m).toInt := by decide
    exact this m hm hz
set_option maxRecDepth 100000 in
set_option maxHeartbeats 400000 in
theorem lw_loop (hq : ∀ h, Q (some (.int (nI 1))) h) (hl : ys.length ≤ 3072) : ∀ n i (S : Mem) (J : MeJ) (T : Nat → Nat), Rl S T → i ≤ ys.length → ys.length ≤ i + 6 * n + 5 → Ev 50 (some ys) mL_law (n, 6 * n) 23 (lX i) [] (hp S J T) Q := by
  intro n
  induction n with
  | zero =>
    intro i S J T hR h1 h2
    exact lw_out (by omega) h1 hl (hq _)
  | succ n ih =>
    intro i S J T hR h1 h2
    by_cases z : i + 5 < ys.length
    · exact lw_step (b := (n, 6 * n)) hR z hl (fun S' J' T' hR' => ih (i + 6) S' J' T' hR' (by omega) (by omega))
    · exact lw_out (by omega) h1 hl (hq _)
end LWL
