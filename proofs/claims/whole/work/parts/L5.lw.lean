-- THE LAW: cases
section LWC
variable {S : Mem} {J : MeJ} {T : Nat → Nat} {ys : List Int32} {b : Nat × Nat} {i : Nat} {Q : Option Value → aH → Prop}
set_option maxRecDepth 100000 in
set_option maxHeartbeats 400000 in
theorem kqL_1253 : okC mL_law 1253 (.invokevirtual 182) 147 156 0 0 = true := by decide +kernel
set_option maxRecDepth 100000 in
set_option maxHeartbeats 400000 in
theorem kqL_1257 : okC mL_law 1257 (.invokevirtual 185) 279 296 0 0 = true := by decide +kernel
set_option maxRecDepth 100000 in
set_option maxHeartbeats 400000 in
theorem lw_40 (hR : Rl S T) (hi : i + 5 < ys.length) (hl : ys.length ≤ 3072) (hk : ∀ S' J' T', Rl S' T' → Ev 50 (some ys) mL_law b 23 (lX (i + 6)) [] (hp S' J' T') Q) : Ev 50 (some ys) mL_law b 1252 (lX i) [] (hp S J T) Q := by
  obtain ⟨v, S1, S2, J1, J2, T1, e1, e2, e3⟩ := q_judge (J := J) hR 
  obtain ⟨f1, g1⟩ := isO_ok (lt_isO (S := S) (J := J) (T := T))
  obtain ⟨f2, g2⟩ := isO_ok (mo_isO (S := S1) (J := J1) (T := T1))
  refine w_al (pc := 1252) (a := 1) (by decide +kernel) rfl ?_
  refine ev_V (as := []) (rest := []) kqL_1253 jX10_judge (zX10_judge e1) g1 rfl rfl (by decide) rfl rfl (Nat.le_of_ble_eq_true rfl) (fun r h' q => ?_)
  obtain ⟨rfl, rfl⟩ := q
  refine w_al (pc := 1256) (a := 2) (by decide +kernel) rfl ?_
  refine ev_V (as := []) (rest := [.int v]) kqL_1257 jX11_judge (zX11_judge e2) g2 rfl rfl (by decide) rfl rfl (Nat.le_of_ble_eq_true rfl) (fun r h' q => ?_)
  obtain ⟨rfl, rfl⟩ := q
  exact w_end (pc := 1260) (off := 603) (by decide +kernel) rfl (hk _ _ _ e3)
set_option maxRecDepth 100000 in
set_option maxHeartbeats 400000 in
theorem kqL_1314 : okC mL_law 1314 (.invokevirtual 186) 148 158 0 4 = true := by decide +kernel
set_option maxRecDepth 100000 in
set_option maxHeartbeats 400000 in
theorem kqL_1366 : okC mL_law 1366 (.invokevirtual 190) 280 297 0 4 = true := by decide +kernel
set_option maxRecDepth 100000 in
set_option maxHeartbeats 400000 in
theorem lw_41 (hR : Rl S T) (hi : i + 5 < ys.length) (hl : ys.length ≤ 3072) (hk : ∀ S' J' T', Rl S' T' → Ev 50 (some ys) mL_law b 23 (lX (i + 6)) [] (hp S' J' T') Q) : Ev 50 (some ys) mL_law b 1265 (lX i) [] (hp S J T) Q := by
  obtain ⟨v, S1, S2, J1, J2, T1, e1, e2, e3⟩ := q_takes (J := J) hR (ys.getD (i + 1) 0) (bI (decide (ys.getD (i + 2) 0 ≠ 0))) (bI (decide (ys.getD (i + 3) 0 ≠ 0))) (bI (decide (ys.getD (i + 4) 0 ≠ 0)))
  obtain ⟨f1, g1⟩ := isO_ok (lt_isO (S := S) (J := J) (T := T))
  obtain ⟨f2, g2⟩ := isO_ok (mo_isO (S := S1) (J := J1) (T := T1))
  refine w_al (pc := 1265) (a := 1) (by decide +kernel) rfl ?_
  refine w_arg (i := i) (pc := 1266) (j := 1) rfl rfl (by omega) (by decide +kernel) hi hl ?_
  refine w_arg (i := i) (pc := 1272) (j := 2) rfl rfl (by omega) (by decide +kernel) hi hl ?_
  refine w_bool (pc := 1278) (by decide +kernel) ?_
  refine w_arg (i := i) (pc := 1286) (j := 3) rfl rfl (by omega) (by decide +kernel) hi hl ?_
  refine w_bool (pc := 1292) (by decide +kernel) ?_
  refine w_arg (i := i) (pc := 1300) (j := 4) rfl rfl (by omega) (by decide +kernel) hi hl ?_
  refine w_bool (pc := 1306) (by decide +kernel) ?_
  refine ev_V (as := [.int (ys.getD (i + 1) 0), .int (bI (decide (ys.getD (i + 2) 0 ≠ 0))), .int (bI (decide (ys.getD (i + 3) 0 ≠ 0))), .int (bI (decide (ys.getD (i + 4) 0 ≠ 0)))]) (rest := []) kqL_1314 jX10_takes (zX10_takes e1) g1 rfl rfl (by decide) rfl rfl (Nat.le_of_ble_eq_true rfl) (fun r h' q => ?_)
  obtain ⟨rfl, rfl⟩ := q
  refine w_al (pc := 1317) (a := 2) (by decide +kernel) rfl ?_
  refine w_arg (i := i) (pc := 1318) (j := 1) rfl rfl (by omega) (by decide +kernel) hi hl ?_
  refine w_arg (i := i) (pc := 1324) (j := 2) rfl rfl (by omega) (by decide +kernel) hi hl ?_
  refine w_bool (pc := 1330) (by decide +kernel) ?_
  refine w_arg (i := i) (pc := 1338) (j := 3) rfl rfl (by omega) (by decide +kernel) hi hl ?_
  refine w_bool (pc := 1344) (by decide +kernel) ?_
  refine w_arg (i := i) (pc := 1352) (j := 4) rfl rfl (by omega) (by decide +kernel) hi hl ?_
  refine w_bool (pc := 1358) (by decide +kernel) ?_
  refine ev_V (as := [.int (ys.getD (i + 1) 0), .int (bI (decide (ys.getD (i + 2) 0 ≠ 0))), .int (bI (decide (ys.getD (i + 3) 0 ≠ 0))), .int (bI (decide (ys.getD (i + 4) 0 ≠ 0)))]) (rest := [.int v]) kqL_1366 jX11_takes (zX11_takes e2) g2 rfl rfl (by decide) rfl rfl (Nat.le_of_ble_eq_true rfl) (fun r h' q => ?_)
  obtain ⟨rfl, rfl⟩ := q
  exact w_end (pc := 1369) (off := 494) (by decide +kernel) rfl (hk _ _ _ e3)
set_option maxRecDepth 100000 in
set_option maxHeartbeats 400000 in
theorem kqL_1381 : okC mL_law 1381 (.invokevirtual 191) 150 160 0 1 = true := by decide +kernel
set_option maxRecDepth 100000 in
set_option maxHeartbeats 400000 in
theorem kqL_1391 : okC mL_law 1391 (.invokevirtual 194) 282 299 0 1 = true := by decide +kernel
set_option maxRecDepth 100000 in
set_option maxHeartbeats 400000 in
theorem lw_42 (hR : Rl S T) (hi : i + 5 < ys.length) (hl : ys.length ≤ 3072) (hk : ∀ S' J' T', Rl S' T' → Ev 50 (some ys) mL_law b 23 (lX (i + 6)) [] (hp S' J' T') Q) : Ev 50 (some ys) mL_law b 1374 (lX i) [] (hp S J T) Q := by
  obtain ⟨v, S1, S2, J1, J2, T1, e1, e2, e3⟩ := q_rests (J := J) hR (ys.getD (i + 1) 0)
  obtain ⟨f1, g1⟩ := isO_ok (lt_isO (S := S) (J := J) (T := T))
  obtain ⟨f2, g2⟩ := isO_ok (mo_isO (S := S1) (J := J1) (T := T1))
  refine w_al (pc := 1374) (a := 1) (by decide +kernel) rfl ?_
  refine w_arg (i := i) (pc := 1375) (j := 1) rfl rfl (by omega) (by decide +kernel) hi hl ?_
  refine ev_V (as := [.int (ys.getD (i + 1) 0)]) (rest := []) kqL_1381 jX10_rests (zX10_rests e1) g1 rfl rfl (by decide) rfl rfl (Nat.le_of_ble_eq_true rfl) (fun r h' q => ?_)
  obtain ⟨rfl, rfl⟩ := q
  refine w_al (pc := 1384) (a := 2) (by decide +kernel) rfl ?_
  refine w_arg (i := i) (pc := 1385) (j := 1) rfl rfl (by omega) (by decide +kernel) hi hl ?_
  refine ev_V (as := [.int (ys.getD (i + 1) 0)]) (rest := [.int v]) kqL_1391 jX11_rests (zX11_rests e2) g2 rfl rfl (by decide) rfl rfl (Nat.le_of_ble_eq_true rfl) (fun r h' q => ?_)
  obtain ⟨rfl, rfl⟩ := q
  exact w_end (pc := 1394) (off := 469) (by decide +kernel) rfl (hk _ _ _ e3)
set_option maxRecDepth 100000 in
set_option maxHeartbeats 400000 in
theorem kqL_1406 : okC mL_law 1406 (.invokevirtual 195) 152 162 0 1 = true := by decide +kernel
set_option maxRecDepth 100000 in
set_option maxHeartbeats 400000 in
theorem kqL_1416 : okC mL_law 1416 (.invokevirtual 198) 284 301 0 1 = true := by decide +kernel
set_option maxRecDepth 100000 in
set_option maxHeartbeats 400000 in
theorem lw_43 (hR : Rl S T) (hi : i + 5 < ys.length) (hl : ys.length ≤ 3072) (hk : ∀ S' J' T', Rl S' T' → Ev 50 (some ys) mL_law b 23 (lX (i + 6)) [] (hp S' J' T') Q) : Ev 50 (some ys) mL_law b 1399 (lX i) [] (hp S J T) Q := by
  obtain ⟨v, S1, S2, J1, J2, T1, e1, e2, e3⟩ := q_rest (J := J) hR (ys.getD (i + 1) 0)
  obtain ⟨f1, g1⟩ := isO_ok (lt_isO (S := S) (J := J) (T := T))
  obtain ⟨f2, g2⟩ := isO_ok (mo_isO (S := S1) (J := J1) (T := T1))
  refine w_al (pc := 1399) (a := 1) (by decide +kernel) rfl ?_
  refine w_arg (i := i) (pc := 1400) (j := 1) rfl rfl (by omega) (by decide +kernel) hi hl ?_
  refine ev_V (as := [.int (ys.getD (i + 1) 0)]) (rest := []) kqL_1406 jX10_rest (zX10_rest e1) g1 rfl rfl (by decide) rfl rfl (Nat.le_of_ble_eq_true rfl) (fun r h' q => ?_)
  obtain ⟨rfl, rfl⟩ := q
  refine w_al (pc := 1409) (a := 2) (by decide +kernel) rfl ?_
  refine w_arg (i := i) (pc := 1410) (j := 1) rfl rfl (by omega) (by decide +kernel) hi hl ?_
  refine ev_V (as := [.int (ys.getD (i + 1) 0)]) (rest := [.int v]) kqL_1416 jX11_rest (zX11_rest e2) g2 rfl rfl (by decide) rfl rfl (Nat.le_of_ble_eq_true rfl) (fun r h' q => ?_)
  obtain ⟨rfl, rfl⟩ := q
  exact w_end (pc := 1419) (off := 444) (by decide +kernel) rfl (hk _ _ _ e3)
set_option maxRecDepth 100000 in
set_option maxHeartbeats 400000 in
theorem kqL_1451 : okC mL_law 1451 (.invokevirtual 199) 153 163 0 3 = true := by decide +kernel
set_option maxRecDepth 100000 in
set_option maxHeartbeats 400000 in
theorem kqL_1481 : okC mL_law 1481 (.invokevirtual 203) 285 302 0 3 = true := by decide +kernel
set_option maxRecDepth 100000 in
set_option maxHeartbeats 400000 in
theorem lw_44 (hR : Rl S T) (hi : i + 5 < ys.length) (hl : ys.length ≤ 3072) (hk : ∀ S' J' T', Rl S' T' → Ev 50 (some ys) mL_law b 23 (lX (i + 6)) [] (hp S' J' T') Q) : Ev 50 (some ys) mL_law b 1424 (lX i) [] (hp S J T) Q := by
  obtain ⟨v, S1, S2, J1, J2, T1, e1, e2, e3⟩ := q_odds (J := J) hR (ys.getD (i + 1) 0) (ys.getD (i + 2) 0) (decide (ys.getD (i + 3) 0 ≠ 0))
  obtain ⟨f1, g1⟩ := isO_ok (lt_isO (S := S) (J := J) (T := T))
  obtain ⟨f2, g2⟩ := isO_ok (mo_isO (S := S1) (J := J1) (T := T1))
  refine w_al (pc := 1424) (a := 1) (by decide +kernel) rfl ?_
  refine w_arg (i := i) (pc := 1425) (j := 1) rfl rfl (by omega) (by decide +kernel) hi hl ?_
  refine w_arg (i := i) (pc := 1431) (j := 2) rfl rfl (by omega) (by decide +kernel) hi hl ?_
  refine w_arg (i := i) (pc := 1437) (j := 3) rfl rfl (by omega) (by decide +kernel) hi hl ?_
  refine w_bool (pc := 1443) (by decide +kernel) ?_
  refine ev_V (as := [.int (ys.getD (i + 1) 0), .int (ys.getD (i + 2) 0), .int (bI (decide (ys.getD (i + 3) 0 ≠ 0)))]) (rest := []) kqL_1451 jX10_odds (zX10_odds e1) g1 rfl rfl (by decide) rfl rfl (Nat.le_of_ble_eq_true rfl) (fun r h' q => ?_)
  obtain ⟨rfl, rfl⟩ := q
  refine w_al (pc := 1454) (a := 2) (by decide +kernel) rfl ?_
  refine w_arg (i := i) (pc := 1455) (j := 1) rfl rfl (by omega) (by decide +kernel) hi hl ?_
  refine w_arg (i := i) (pc := 1461) (j := 2) rfl rfl (by omega) (by decide +kernel) hi hl ?_
  refine w_arg (i := i) (pc := 1467) (j := 3) rfl rfl (by omega) (by decide +kernel) hi hl ?_
  refine w_bool (pc := 1473) (by decide +kernel) ?_
  refine ev_V (as := [.int (ys.getD (i + 1) 0), .int (ys.getD (i + 2) 0), .int (bI (decide (ys.getD (i + 3) 0 ≠ 0)))]) (rest := [.long v]) kqL_1481 jX11_odds (zX11_odds e2) g2 rfl rfl (by decide) rfl rfl (Nat.le_of_ble_eq_true rfl) (fun r h' q => ?_)
  obtain ⟨rfl, rfl⟩ := q
  exact w_endJ (pc := 1484) (off := 378) (by decide +kernel) (by decide +kernel) rfl (hk _ _ _ e3)
set_option maxRecDepth 100000 in
set_option maxHeartbeats 400000 in
theorem kqL_1511 : okC mL_law 1511 (.invokevirtual 204) 158 170 0 2 = true := by decide +kernel
set_option maxRecDepth 100000 in
set_option maxHeartbeats 400000 in
theorem kqL_1535 : okC mL_law 1535 (.invokevirtual 208) 288 305 0 2 = true := by decide +kernel
set_option maxRecDepth 100000 in
set_option maxHeartbeats 400000 in
theorem lw_45 (hR : Rl S T) (hi : i + 5 < ys.length) (hl : ys.length ≤ 3072) (hk : ∀ S' J' T', Rl S' T' → Ev 50 (some ys) mL_law b 23 (lX (i + 6)) [] (hp S' J' T') Q) : Ev 50 (some ys) mL_law b 1490 (lX i) [] (hp S J T) Q := by
  obtain ⟨v, S1, S2, J1, J2, T1, e1, e2, e3⟩ := q_mean (J := J) hR (ys.getD (i + 1) 0) (decide (ys.getD (i + 2) 0 ≠ 0))
  obtain ⟨f1, g1⟩ := isO_ok (lt_isO (S := S) (J := J) (T := T))
  obtain ⟨f2, g2⟩ := isO_ok (mo_isO (S := S1) (J := J1) (T := T1))
  refine w_al (pc := 1490) (a := 1) (by decide +kernel) rfl ?_
  refine w_arg (i := i) (pc := 1491) (j := 1) rfl rfl (by omega) (by decide +kernel) hi hl ?_
  refine w_arg (i := i) (pc := 1497) (j := 2) rfl rfl (by omega) (by decide +kernel) hi hl ?_
  refine w_bool (pc := 1503) (by decide +kernel) ?_
  refine ev_V (as := [.int (ys.getD (i + 1) 0), .int (bI (decide (ys.getD (i + 2) 0 ≠ 0)))]) (rest := []) kqL_1511 jX10_mean (zX10_mean e1) g1 rfl rfl (by decide) rfl rfl (Nat.le_of_ble_eq_true rfl) (fun r h' q => ?_)
  obtain ⟨rfl, rfl⟩ := q
  refine w_al (pc := 1514) (a := 2) (by decide +kernel) rfl ?_
  refine w_arg (i := i) (pc := 1515) (j := 1) rfl rfl (by omega) (by decide +kernel) hi hl ?_
  refine w_arg (i := i) (pc := 1521) (j := 2) rfl rfl (by omega) (by decide +kernel) hi hl ?_
  refine w_bool (pc := 1527) (by decide +kernel) ?_
  refine ev_V (as := [.int (ys.getD (i + 1) 0), .int (bI (decide (ys.getD (i + 2) 0 ≠ 0)))]) (rest := [.long v]) kqL_1535 jX11_mean (zX11_mean e2) g2 rfl rfl (by decide) rfl rfl (Nat.le_of_ble_eq_true rfl) (fun r h' q => ?_)
  obtain ⟨rfl, rfl⟩ := q
  exact w_endJ (pc := 1538) (off := 324) (by decide +kernel) (by decide +kernel) rfl (hk _ _ _ e3)
set_option maxRecDepth 100000 in
set_option maxHeartbeats 400000 in
theorem kqL_1557 : okC mL_law 1557 (.invokevirtual 209) 160 172 0 2 = true := by decide +kernel
set_option maxRecDepth 100000 in
set_option maxHeartbeats 400000 in
theorem kqL_1573 : okC mL_law 1573 (.invokevirtual 212) 289 306 0 2 = true := by decide +kernel
set_option maxRecDepth 100000 in
set_option maxHeartbeats 400000 in
theorem lw_46 (hR : Rl S T) (hi : i + 5 < ys.length) (hl : ys.length ≤ 3072) (hk : ∀ S' J' T', Rl S' T' → Ev 50 (some ys) mL_law b 23 (lX (i + 6)) [] (hp S' J' T') Q) : Ev 50 (some ys) mL_law b 1544 (lX i) [] (hp S J T) Q := by
  obtain ⟨v, S1, S2, J1, J2, T1, e1, e2, e3⟩ := q_drawn (J := J) hR (ys.getD (i + 1) 0) (ys.getD (i + 2) 0)
  obtain ⟨f1, g1⟩ := isO_ok (lt_isO (S := S) (J := J) (T := T))
  obtain ⟨f2, g2⟩ := isO_ok (mo_isO (S := S1) (J := J1) (T := T1))
  refine w_al (pc := 1544) (a := 1) (by decide +kernel) rfl ?_
  refine w_arg (i := i) (pc := 1545) (j := 1) rfl rfl (by omega) (by decide +kernel) hi hl ?_
  refine w_arg (i := i) (pc := 1551) (j := 2) rfl rfl (by omega) (by decide +kernel) hi hl ?_
  refine ev_V (as := [.int (ys.getD (i + 1) 0), .int (ys.getD (i + 2) 0)]) (rest := []) kqL_1557 jX10_drawn (zX10_drawn e1) g1 rfl rfl (by decide) rfl rfl (Nat.le_of_ble_eq_true rfl) (fun r h' q => ?_)
  obtain ⟨rfl, rfl⟩ := q
  refine w_al (pc := 1560) (a := 2) (by decide +kernel) rfl ?_
  refine w_arg (i := i) (pc := 1561) (j := 1) rfl rfl (by omega) (by decide +kernel) hi hl ?_
  refine w_arg (i := i) (pc := 1567) (j := 2) rfl rfl (by omega) (by decide +kernel) hi hl ?_
  refine ev_V (as := [.int (ys.getD (i + 1) 0), .int (ys.getD (i + 2) 0)]) (rest := [.int v]) kqL_1573 jX11_drawn (zX11_drawn e2) g2 rfl rfl (by decide) rfl rfl (Nat.le_of_ble_eq_true rfl) (fun r h' q => ?_)
  obtain ⟨rfl, rfl⟩ := q
  exact w_end (pc := 1576) (off := 287) (by decide +kernel) rfl (hk _ _ _ e3)
set_option maxRecDepth 100000 in
set_option maxHeartbeats 400000 in
theorem kqL_1582 : okC mL_law 1582 (.invokevirtual 213) 162 174 0 0 = true := by decide +kernel
set_option maxRecDepth 100000 in
set_option maxHeartbeats 400000 in
theorem kqL_1586 : okC mL_law 1586 (.invokevirtual 216) 290 307 0 0 = true := by decide +kernel
set_option maxRecDepth 100000 in
set_option maxHeartbeats 400000 in
theorem lw_47 (hR : Rl S T) (hi : i + 5 < ys.length) (hl : ys.length ≤ 3072) (hk : ∀ S' J' T', Rl S' T' → Ev 50 (some ys) mL_law b 23 (lX (i + 6)) [] (hp S' J' T') Q) : Ev 50 (some ys) mL_law b 1581 (lX i) [] (hp S J T) Q := by
  obtain ⟨v, S1, S2, J1, J2, T1, e1, e2, e3⟩ := q_day (J := J) hR 
  obtain ⟨f1, g1⟩ := isO_ok (lt_isO (S := S) (J := J) (T := T))
  obtain ⟨f2, g2⟩ := isO_ok (mo_isO (S := S1) (J := J1) (T := T1))
  refine w_al (pc := 1581) (a := 1) (by decide +kernel) rfl ?_
  refine ev_V (as := []) (rest := []) kqL_1582 jX10_day (zX10_day e1) g1 rfl rfl (by decide) rfl rfl (Nat.le_of_ble_eq_true rfl) (fun r h' q => ?_)
  obtain ⟨rfl, rfl⟩ := q
  refine w_al (pc := 1585) (a := 2) (by decide +kernel) rfl ?_
  refine ev_V (as := []) (rest := [.int v]) kqL_1586 jX11_day (zX11_day e2) g2 rfl rfl (by decide) rfl rfl (Nat.le_of_ble_eq_true rfl) (fun r h' q => ?_)
  obtain ⟨rfl, rfl⟩ := q
  exact w_end (pc := 1589) (off := 274) (by decide +kernel) rfl (hk _ _ _ e3)
set_option maxRecDepth 100000 in
set_option maxHeartbeats 400000 in
theorem kqL_1601 : okC mL_law 1601 (.invokevirtual 217) 164 178 0 1 = true := by decide +kernel
set_option maxRecDepth 100000 in
set_option maxHeartbeats 400000 in
theorem kqL_1611 : okC mL_law 1611 (.invokevirtual 220) 292 309 0 1 = true := by decide +kernel
set_option maxRecDepth 100000 in
set_option maxHeartbeats 400000 in
theorem lw_48 (hR : Rl S T) (hi : i + 5 < ys.length) (hl : ys.length ≤ 3072) (hk : ∀ S' J' T', Rl S' T' → Ev 50 (some ys) mL_law b 23 (lX (i + 6)) [] (hp S' J' T') Q) : Ev 50 (some ys) mL_law b 1594 (lX i) [] (hp S J T) Q := by
  obtain ⟨v, S1, S2, J1, J2, T1, e1, e2, e3⟩ := q_bid (J := J) hR (ys.getD (i + 1) 0)
  obtain ⟨f1, g1⟩ := isO_ok (lt_isO (S := S) (J := J) (T := T))
  obtain ⟨f2, g2⟩ := isO_ok (mo_isO (S := S1) (J := J1) (T := T1))
  refine w_al (pc := 1594) (a := 1) (by decide +kernel) rfl ?_
  refine w_arg (i := i) (pc := 1595) (j := 1) rfl rfl (by omega) (by decide +kernel) hi hl ?_
  refine ev_V (as := [.int (ys.getD (i + 1) 0)]) (rest := []) kqL_1601 jX10_bid (zX10_bid e1) g1 rfl rfl (by decide) rfl rfl (Nat.le_of_ble_eq_true rfl) (fun r h' q => ?_)
  obtain ⟨rfl, rfl⟩ := q
  refine w_al (pc := 1604) (a := 2) (by decide +kernel) rfl ?_
  refine w_arg (i := i) (pc := 1605) (j := 1) rfl rfl (by omega) (by decide +kernel) hi hl ?_
  refine ev_V (as := [.int (ys.getD (i + 1) 0)]) (rest := [.int v]) kqL_1611 jX11_bid (zX11_bid e2) g2 rfl rfl (by decide) rfl rfl (Nat.le_of_ble_eq_true rfl) (fun r h' q => ?_)
  obtain ⟨rfl, rfl⟩ := q
  exact w_end (pc := 1614) (off := 249) (by decide +kernel) rfl (hk _ _ _ e3)
set_option maxRecDepth 100000 in
set_option maxHeartbeats 400000 in
theorem kqL_1632 : okC mL_law 1632 (.invokevirtual 221) 165 179 0 2 = true := by decide +kernel
set_option maxRecDepth 100000 in
set_option maxHeartbeats 400000 in
theorem kqL_1648 : okC mL_law 1648 (.invokevirtual 224) 293 310 0 2 = true := by decide +kernel
set_option maxRecDepth 100000 in
set_option maxHeartbeats 400000 in
theorem lw_49 (hR : Rl S T) (hi : i + 5 < ys.length) (hl : ys.length ≤ 3072) (hk : ∀ S' J' T', Rl S' T' → Ev 50 (some ys) mL_law b 23 (lX (i + 6)) [] (hp S' J' T') Q) : Ev 50 (some ys) mL_law b 1619 (lX i) [] (hp S J T) Q := by
  obtain ⟨v, S1, S2, J1, J2, T1, e1, e2, e3⟩ := q_give (J := J) hR (ys.getD (i + 1) 0) (ys.getD (i + 2) 0)
  obtain ⟨f1, g1⟩ := isO_ok (lt_isO (S := S) (J := J) (T := T))
  obtain ⟨f2, g2⟩ := isO_ok (mo_isO (S := S1) (J := J1) (T := T1))
  refine w_al (pc := 1619) (a := 1) (by decide +kernel) rfl ?_
  refine w_arg (i := i) (pc := 1620) (j := 1) rfl rfl (by omega) (by decide +kernel) hi hl ?_
  refine w_arg (i := i) (pc := 1626) (j := 2) rfl rfl (by omega) (by decide +kernel) hi hl ?_
  refine ev_V (as := [.int (ys.getD (i + 1) 0), .int (ys.getD (i + 2) 0)]) (rest := []) kqL_1632 jX10_give (zX10_give e1) g1 rfl rfl (by decide) rfl rfl (Nat.le_of_ble_eq_true rfl) (fun r h' q => ?_)
  obtain ⟨rfl, rfl⟩ := q
  refine w_al (pc := 1635) (a := 2) (by decide +kernel) rfl ?_
  refine w_arg (i := i) (pc := 1636) (j := 1) rfl rfl (by omega) (by decide +kernel) hi hl ?_
  refine w_arg (i := i) (pc := 1642) (j := 2) rfl rfl (by omega) (by decide +kernel) hi hl ?_
  refine ev_V (as := [.int (ys.getD (i + 1) 0), .int (ys.getD (i + 2) 0)]) (rest := [.int v]) kqL_1648 jX11_give (zX11_give e2) g2 rfl rfl (by decide) rfl rfl (Nat.le_of_ble_eq_true rfl) (fun r h' q => ?_)
  obtain ⟨rfl, rfl⟩ := q
  exact w_end (pc := 1651) (off := 212) (by decide +kernel) rfl (hk _ _ _ e3)
set_option maxRecDepth 100000 in
set_option maxHeartbeats 400000 in
theorem kqL_1663 : okC mL_law 1663 (.invokevirtual 225) 166 180 0 1 = true := by decide +kernel
set_option maxRecDepth 100000 in
set_option maxHeartbeats 400000 in
theorem kqL_1673 : okC mL_law 1673 (.invokevirtual 228) 294 311 0 1 = true := by decide +kernel
set_option maxRecDepth 100000 in
set_option maxHeartbeats 400000 in
theorem lw_50 (hR : Rl S T) (hi : i + 5 < ys.length) (hl : ys.length ≤ 3072) (hk : ∀ S' J' T', Rl S' T' → Ev 50 (some ys) mL_law b 23 (lX (i + 6)) [] (hp S' J' T') Q) : Ev 50 (some ys) mL_law b 1656 (lX i) [] (hp S J T) Q := by
  obtain ⟨v, S1, S2, J1, J2, T1, e1, e2, e3⟩ := q_pour (J := J) hR (ys.getD (i + 1) 0)
  obtain ⟨f1, g1⟩ := isO_ok (lt_isO (S := S) (J := J) (T := T))
  obtain ⟨f2, g2⟩ := isO_ok (mo_isO (S := S1) (J := J1) (T := T1))
  refine w_al (pc := 1656) (a := 1) (by decide +kernel) rfl ?_
  refine w_arg (i := i) (pc := 1657) (j := 1) rfl rfl (by omega) (by decide +kernel) hi hl ?_
  refine ev_V (as := [.int (ys.getD (i + 1) 0)]) (rest := []) kqL_1663 jX10_pour (zX10_pour e1) g1 rfl rfl (by decide) rfl rfl (Nat.le_of_ble_eq_true rfl) (fun r h' q => ?_)
  obtain ⟨rfl, rfl⟩ := q
  refine w_al (pc := 1666) (a := 2) (by decide +kernel) rfl ?_
  refine w_arg (i := i) (pc := 1667) (j := 1) rfl rfl (by omega) (by decide +kernel) hi hl ?_
  refine ev_V (as := [.int (ys.getD (i + 1) 0)]) (rest := [.int v]) kqL_1673 jX11_pour (zX11_pour e2) g2 rfl rfl (by decide) rfl rfl (Nat.le_of_ble_eq_true rfl) (fun r h' q => ?_)
  obtain ⟨rfl, rfl⟩ := q
  exact w_end (pc := 1676) (off := 187) (by decide +kernel) rfl (hk _ _ _ e3)
set_option maxRecDepth 100000 in
set_option maxHeartbeats 400000 in
theorem kqL_1694 : okC mL_law 1694 (.invokevirtual 229) 167 181 0 2 = true := by decide +kernel
set_option maxRecDepth 100000 in
set_option maxHeartbeats 400000 in
theorem kqL_1710 : okC mL_law 1710 (.invokevirtual 232) 295 312 0 2 = true := by decide +kernel
set_option maxRecDepth 100000 in
set_option maxHeartbeats 400000 in
theorem lw_51 (hR : Rl S T) (hi : i + 5 < ys.length) (hl : ys.length ≤ 3072) (hk : ∀ S' J' T', Rl S' T' → Ev 50 (some ys) mL_law b 23 (lX (i + 6)) [] (hp S' J' T') Q) : Ev 50 (some ys) mL_law b 1681 (lX i) [] (hp S J T) Q := by
  obtain ⟨v, S1, S2, J1, J2, T1, e1, e2, e3⟩ := q_value (J := J) hR (ys.getD (i + 1) 0) (ys.getD (i + 2) 0)
  obtain ⟨f1, g1⟩ := isO_ok (lt_isO (S := S) (J := J) (T := T))
  obtain ⟨f2, g2⟩ := isO_ok (mo_isO (S := S1) (J := J1) (T := T1))
  refine w_al (pc := 1681) (a := 1) (by decide +kernel) rfl ?_
  refine w_arg (i := i) (pc := 1682) (j := 1) rfl rfl (by omega) (by decide +kernel) hi hl ?_
  refine w_arg (i := i) (pc := 1688) (j := 2) rfl rfl (by omega) (by decide +kernel) hi hl ?_
  refine ev_V (as := [.int (ys.getD (i + 1) 0), .int (ys.getD (i + 2) 0)]) (rest := []) kqL_1694 jX10_value (zX10_value e1) g1 rfl rfl (by decide) rfl rfl (Nat.le_of_ble_eq_true rfl) (fun r h' q => ?_)
  obtain ⟨rfl, rfl⟩ := q
  refine w_al (pc := 1697) (a := 2) (by decide +kernel) rfl ?_
  refine w_arg (i := i) (pc := 1698) (j := 1) rfl rfl (by omega) (by decide +kernel) hi hl ?_
  refine w_arg (i := i) (pc := 1704) (j := 2) rfl rfl (by omega) (by decide +kernel) hi hl ?_
  refine ev_V (as := [.int (ys.getD (i + 1) 0), .int (ys.getD (i + 2) 0)]) (rest := [.int v]) kqL_1710 jX11_value (zX11_value e2) g2 rfl rfl (by decide) rfl rfl (Nat.le_of_ble_eq_true rfl) (fun r h' q => ?_)
  obtain ⟨rfl, rfl⟩ := q
  exact w_end (pc := 1713) (off := 150) (by decide +kernel) rfl (hk _ _ _ e3)
set_option maxRecDepth 100000 in
set_option maxHeartbeats 400000 in
theorem kqL_1719 : okC mL_law 1719 (.invokevirtual 233) 168 182 0 0 = true := by decide +kernel
set_option maxRecDepth 100000 in
set_option maxHeartbeats 400000 in
theorem kqL_1723 : okC mL_law 1723 (.invokevirtual 237) 296 313 0 0 = true := by decide +kernel
set_option maxRecDepth 100000 in
set_option maxHeartbeats 400000 in
theorem lw_52 (hR : Rl S T) (hi : i + 5 < ys.length) (hl : ys.length ≤ 3072) (hk : ∀ S' J' T', Rl S' T' → Ev 50 (some ys) mL_law b 23 (lX (i + 6)) [] (hp S' J' T') Q) : Ev 50 (some ys) mL_law b 1718 (lX i) [] (hp S J T) Q := by
  obtain ⟨v, S1, S2, J1, J2, T1, e1, e2, e3⟩ := q_undo (J := J) hR 
  obtain ⟨f1, g1⟩ := isO_ok (lt_isO (S := S) (J := J) (T := T))
  obtain ⟨f2, g2⟩ := isO_ok (mo_isO (S := S1) (J := J1) (T := T1))
  refine w_al (pc := 1718) (a := 1) (by decide +kernel) rfl ?_
  refine ev_V (as := []) (rest := []) kqL_1719 jX10_undo (zX10_undo e1) g1 rfl rfl (by decide) rfl rfl (Nat.le_of_ble_eq_true rfl) (fun r h' q => ?_)
  obtain ⟨-, rfl, rfl⟩ := q
  refine w_al (pc := 1722) (a := 2) (by decide +kernel) rfl ?_
  refine ev_V (as := []) (rest := [.int v]) kqL_1723 jX11_undo (zX11_undo e2) g2 rfl rfl (by decide) rfl rfl (Nat.le_of_ble_eq_true rfl) (fun r h' q => ?_)
  obtain ⟨-, rfl, rfl⟩ := q
  exact w_end (pc := 1726) (off := 137) (by decide +kernel) rfl (hk _ _ _ e3)
set_option maxRecDepth 100000 in
set_option maxHeartbeats 400000 in
theorem kqL_1732 : okC mL_law 1732 (.invokevirtual 238) 170 184 0 0 = true := by decide +kernel
set_option maxRecDepth 100000 in
set_option maxHeartbeats 400000 in
theorem kqL_1736 : okC mL_law 1736 (.invokevirtual 241) 298 315 0 0 = true := by decide +kernel
set_option maxRecDepth 100000 in
set_option maxHeartbeats 400000 in
theorem lw_53 (hR : Rl S T) (hi : i + 5 < ys.length) (hl : ys.length ≤ 3072) (hk : ∀ S' J' T', Rl S' T' → Ev 50 (some ys) mL_law b 23 (lX (i + 6)) [] (hp S' J' T') Q) : Ev 50 (some ys) mL_law b 1731 (lX i) [] (hp S J T) Q := by
  obtain ⟨v, S1, S2, J1, J2, T1, e1, e2, e3⟩ := q_image (J := J) hR 
  obtain ⟨f1, g1⟩ := isO_ok (lt_isO (S := S) (J := J) (T := T))
  obtain ⟨f2, g2⟩ := isO_ok (mo_isO (S := S1) (J := J1) (T := T1))
  refine w_al (pc := 1731) (a := 1) (by decide +kernel) rfl ?_
  refine ev_V (as := []) (rest := []) kqL_1732 jX10_image (zX10_image e1) g1 rfl rfl (by decide) rfl rfl (Nat.le_of_ble_eq_true rfl) (fun r h' q => ?_)
  obtain ⟨rfl, rfl⟩ := q
  refine w_al (pc := 1735) (a := 2) (by decide +kernel) rfl ?_
  refine ev_V (as := []) (rest := [.int v]) kqL_1736 jX11_image (zX11_image e2) g2 rfl rfl (by decide) rfl rfl (Nat.le_of_ble_eq_true rfl) (fun r h' q => ?_)
  obtain ⟨rfl, rfl⟩ := q
  exact w_end (pc := 1739) (off := 124) (by decide +kernel) rfl (hk _ _ _ e3)
set_option maxRecDepth 100000 in
set_option maxHeartbeats 400000 in
theorem kqL_1751 : okC mL_law 1751 (.invokevirtual 242) 172 187 0 1 = true := by decide +kernel
set_option maxRecDepth 100000 in
set_option maxHeartbeats 400000 in
theorem kqL_1761 : okC mL_law 1761 (.invokevirtual 246) 299 316 0 1 = true := by decide +kernel
set_option maxRecDepth 100000 in
set_option maxHeartbeats 400000 in
theorem lw_54 (hR : Rl S T) (hi : i + 5 < ys.length) (hl : ys.length ≤ 3072) (hk : ∀ S' J' T', Rl S' T' → Ev 50 (some ys) mL_law b 23 (lX (i + 6)) [] (hp S' J' T') Q) : Ev 50 (some ys) mL_law b 1744 (lX i) [] (hp S J T) Q := by
  obtain ⟨v, S1, S2, J1, J2, T1, e1, e2, e3⟩ := q_back (J := J) hR (ys.getD (i + 1) 0)
  obtain ⟨f1, g1⟩ := isO_ok (lt_isO (S := S) (J := J) (T := T))
  obtain ⟨f2, g2⟩ := isO_ok (mo_isO (S := S1) (J := J1) (T := T1))
  refine w_al (pc := 1744) (a := 1) (by decide +kernel) rfl ?_
  refine w_arg (i := i) (pc := 1745) (j := 1) rfl rfl (by omega) (by decide +kernel) hi hl ?_
  refine ev_V (as := [.int (ys.getD (i + 1) 0)]) (rest := []) kqL_1751 jX10_back (zX10_back e1) g1 rfl rfl (by decide) rfl rfl (Nat.le_of_ble_eq_true rfl) (fun r h' q => ?_)
  obtain ⟨-, rfl, rfl⟩ := q
  refine w_al (pc := 1754) (a := 2) (by decide +kernel) rfl ?_
  refine w_arg (i := i) (pc := 1755) (j := 1) rfl rfl (by omega) (by decide +kernel) hi hl ?_
  refine ev_V (as := [.int (ys.getD (i + 1) 0)]) (rest := [.int v]) kqL_1761 jX11_back (zX11_back e2) g2 rfl rfl (by decide) rfl rfl (Nat.le_of_ble_eq_true rfl) (fun r h' q => ?_)
  obtain ⟨-, rfl, rfl⟩ := q
  exact w_end (pc := 1764) (off := 99) (by decide +kernel) rfl (hk _ _ _ e3)
set_option maxRecDepth 100000 in
set_option maxHeartbeats 400000 in
theorem kqL_1832 : okC mL_law 1832 (.invokevirtual 256) 174 189 0 1 = true := by decide +kernel
set_option maxRecDepth 100000 in
set_option maxHeartbeats 400000 in
theorem kqL_1842 : okC mL_law 1842 (.invokevirtual 259) 301 318 0 1 = true := by decide +kernel
set_option maxRecDepth 100000 in
set_option maxHeartbeats 400000 in
theorem lw_56 (hR : Rl S T) (hi : i + 5 < ys.length) (hl : ys.length ≤ 3072) (hk : ∀ S' J' T', Rl S' T' → Ev 50 (some ys) mL_law b 23 (lX (i + 6)) [] (hp S' J' T') Q) : Ev 50 (some ys) mL_law b 1825 (lX i) [] (hp S J T) Q := by
  obtain ⟨v, S1, S2, J1, J2, T1, e1, e2, e3⟩ := q_size (J := J) hR (ys.getD (i + 1) 0)
  obtain ⟨f1, g1⟩ := isO_ok (lt_isO (S := S) (J := J) (T := T))
  obtain ⟨f2, g2⟩ := isO_ok (mo_isO (S := S1) (J := J1) (T := T1))
  refine w_al (pc := 1825) (a := 1) (by decide +kernel) rfl ?_
  refine w_arg (i := i) (pc := 1826) (j := 1) rfl rfl (by omega) (by decide +kernel) hi hl ?_
  refine ev_V (as := [.int (ys.getD (i + 1) 0)]) (rest := []) kqL_1832 jX10_size (zX10_size e1) g1 rfl rfl (by decide) rfl rfl (Nat.le_of_ble_eq_true rfl) (fun r h' q => ?_)
  obtain ⟨rfl, rfl⟩ := q
  refine w_al (pc := 1835) (a := 2) (by decide +kernel) rfl ?_
  refine w_arg (i := i) (pc := 1836) (j := 1) rfl rfl (by omega) (by decide +kernel) hi hl ?_
  refine ev_V (as := [.int (ys.getD (i + 1) 0)]) (rest := [.int v]) kqL_1842 jX11_size (zX11_size e2) g2 rfl rfl (by decide) rfl rfl (Nat.le_of_ble_eq_true rfl) (fun r h' q => ?_)
  obtain ⟨rfl, rfl⟩ := q
  exact w_end (pc := 1845) (off := 18) (by decide +kernel) rfl (hk _ _ _ e3)
set_option maxRecDepth 100000 in
set_option maxHeartbeats 400000 in
theorem kqL_1851 : okC mL_law 1851 (.invokevirtual 260) 175 190 0 0 = true := by decide +kernel
set_option maxRecDepth 100000 in
set_option maxHeartbeats 400000 in
theorem kqL_1855 : okC mL_law 1855 (.invokevirtual 263) 302 319 0 0 = true := by decide +kernel
set_option maxRecDepth 100000 in
set_option maxHeartbeats 400000 in
theorem lw_57 (hR : Rl S T) (hi : i + 5 < ys.length) (hl : ys.length ≤ 3072) (hk : ∀ S' J' T', Rl S' T' → Ev 50 (some ys) mL_law b 23 (lX (i + 6)) [] (hp S' J' T') Q) : Ev 50 (some ys) mL_law b 1850 (lX i) [] (hp S J T) Q := by
  obtain ⟨v, S1, S2, J1, J2, T1, e1, e2, e3⟩ := q_trouble (J := J) hR 
  obtain ⟨f1, g1⟩ := isO_ok (lt_isO (S := S) (J := J) (T := T))
  obtain ⟨f2, g2⟩ := isO_ok (mo_isO (S := S1) (J := J1) (T := T1))
  refine w_al (pc := 1850) (a := 1) (by decide +kernel) rfl ?_
  refine ev_V (as := []) (rest := []) kqL_1851 jX10_trouble (zX10_trouble e1) g1 rfl rfl (by decide) rfl rfl (Nat.le_of_ble_eq_true rfl) (fun r h' q => ?_)
  obtain ⟨rfl, rfl⟩ := q
  refine w_al (pc := 1854) (a := 2) (by decide +kernel) rfl ?_
  refine ev_V (as := []) (rest := [.int v]) kqL_1855 jX11_trouble (zX11_trouble e2) g2 rfl rfl (by decide) rfl rfl (Nat.le_of_ble_eq_true rfl) (fun r h' q => ?_)
  obtain ⟨rfl, rfl⟩ := q
  exact w_end (pc := 1858) (off := 5) (by decide +kernel) rfl (hk _ _ _ e3)
end LWC
