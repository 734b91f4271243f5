-- THE LAW: cases
section LWC
variable {S : Mem} {J : MeJ} {T : Nat → Nat} {ys : List Int32} {b : Nat × Nat} {i : Nat} {Q : Option Value → aH → Prop}
set_option maxRecDepth 100000 in
set_option maxHeartbeats 400000 in
theorem kqL_319 : okC mL_law 319 (.invokevirtual 19) 11 4 0 5 = true := by decide +kernel
set_option maxRecDepth 100000 in
set_option maxHeartbeats 400000 in
theorem kqL_353 : okC mL_law 353 (.invokevirtual 23) 179 194 0 5 = true := by decide +kernel
set_option maxRecDepth 100000 in
set_option maxHeartbeats 400000 in
theorem lw_0 (hR : Rl S T) (hi : i + 5 < ys.length) (hl : ys.length ≤ 3072) (hk : ∀ S' J' T', Rl S' T' → Ev 50 (some ys) mL_law b 23 (lX (i + 6)) [] (hp S' J' T') Q) : Ev 50 (some ys) mL_law b 288 (lX i) [] (hp S J T) Q := by
  obtain ⟨v, S1, S2, J1, J2, T1, e1, e2, e3⟩ := q_feed (J := J) (va := ys.getD (i + 1) 0) (vb := ys.getD (i + 2) 0) (vc := ys.getD (i + 3) 0) (vd := ys.getD (i + 4) 0) (ve := ys.getD (i + 5) 0) hR
  obtain ⟨f1, g1⟩ := isO_ok (lt_isO (S := S) (J := J) (T := T))
  obtain ⟨f2, g2⟩ := isO_ok (mo_isO (S := S1) (J := J1) (T := T1))
  refine w_al (pc := 288) (a := 1) (by decide +kernel) rfl ?_
  refine w_arg (i := i) (pc := 289) (j := 1) rfl rfl (by omega) (by decide +kernel) hi hl ?_
  refine w_arg (i := i) (pc := 295) (j := 2) rfl rfl (by omega) (by decide +kernel) hi hl ?_
  refine w_arg (i := i) (pc := 301) (j := 3) rfl rfl (by omega) (by decide +kernel) hi hl ?_
  refine w_arg (i := i) (pc := 307) (j := 4) rfl rfl (by omega) (by decide +kernel) hi hl ?_
  refine w_arg (i := i) (pc := 313) (j := 5) rfl rfl (by omega) (by decide +kernel) hi hl ?_
  refine ev_V (as := [.int (ys.getD (i + 1) 0), .int (ys.getD (i + 2) 0), .int (ys.getD (i + 3) 0), .int (ys.getD (i + 4) 0), .int (ys.getD (i + 5) 0)]) (rest := []) kqL_319 jX10_feed (zX10_feed e1) g1 rfl rfl (by decide) rfl rfl (Nat.le_of_ble_eq_true rfl) (fun r h' q => ?_)
  obtain ⟨rfl, rfl⟩ := q
  refine w_al (pc := 322) (a := 2) (by decide +kernel) rfl ?_
  refine w_arg (i := i) (pc := 323) (j := 1) rfl rfl (by omega) (by decide +kernel) hi hl ?_
  refine w_arg (i := i) (pc := 329) (j := 2) rfl rfl (by omega) (by decide +kernel) hi hl ?_
  refine w_arg (i := i) (pc := 335) (j := 3) rfl rfl (by omega) (by decide +kernel) hi hl ?_
  refine w_arg (i := i) (pc := 341) (j := 4) rfl rfl (by omega) (by decide +kernel) hi hl ?_
  refine w_arg (i := i) (pc := 347) (j := 5) rfl rfl (by omega) (by decide +kernel) hi hl ?_
  refine ev_V (as := [.int (ys.getD (i + 1) 0), .int (ys.getD (i + 2) 0), .int (ys.getD (i + 3) 0), .int (ys.getD (i + 4) 0), .int (ys.getD (i + 5) 0)]) (rest := [.int v]) kqL_353 jX11_feed (zX11_feed e2) g2 rfl rfl (by decide) rfl rfl (Nat.le_of_ble_eq_true rfl) (fun r h' q => ?_)
  obtain ⟨rfl, rfl⟩ := q
  exact w_end (pc := 356) (off := 1507) (by decide +kernel) rfl (hk _ _ _ e3)
set_option maxRecDepth 100000 in
set_option maxHeartbeats 400000 in
theorem kqL_368 : okC mL_law 368 (.invokevirtual 24) 14 7 0 1 = true := by decide +kernel
set_option maxRecDepth 100000 in
set_option maxHeartbeats 400000 in
theorem kqL_378 : okC mL_law 378 (.invokevirtual 27) 180 195 0 1 = true := by decide +kernel
set_option maxRecDepth 100000 in
set_option maxHeartbeats 400000 in
theorem lw_1 (hR : Rl S T) (hi : i + 5 < ys.length) (hl : ys.length ≤ 3072) (hk : ∀ S' J' T', Rl S' T' → Ev 50 (some ys) mL_law b 23 (lX (i + 6)) [] (hp S' J' T') Q) : Ev 50 (some ys) mL_law b 361 (lX i) [] (hp S J T) Q := by
  obtain ⟨v, S1, S2, J1, J2, T1, e1, e2, e3⟩ := q_table (J := J) hR (ys.getD (i + 1) 0)
  obtain ⟨f1, g1⟩ := isO_ok (lt_isO (S := S) (J := J) (T := T))
  obtain ⟨f2, g2⟩ := isO_ok (mo_isO (S := S1) (J := J1) (T := T1))
  refine w_al (pc := 361) (a := 1) (by decide +kernel) rfl ?_
  refine w_arg (i := i) (pc := 362) (j := 1) rfl rfl (by omega) (by decide +kernel) hi hl ?_
  refine ev_V (as := [.int (ys.getD (i + 1) 0)]) (rest := []) kqL_368 jX10_table (zX10_table e1) g1 rfl rfl (by decide) rfl rfl (Nat.le_of_ble_eq_true rfl) (fun r h' q => ?_)
  obtain ⟨rfl, rfl⟩ := q
  refine w_al (pc := 371) (a := 2) (by decide +kernel) rfl ?_
  refine w_arg (i := i) (pc := 372) (j := 1) rfl rfl (by omega) (by decide +kernel) hi hl ?_
  refine ev_V (as := [.int (ys.getD (i + 1) 0)]) (rest := [.int v]) kqL_378 jX11_table (zX11_table e2) g2 rfl rfl (by decide) rfl rfl (Nat.le_of_ble_eq_true rfl) (fun r h' q => ?_)
  obtain ⟨rfl, rfl⟩ := q
  exact w_end (pc := 381) (off := 1482) (by decide +kernel) rfl (hk _ _ _ e3)
set_option maxRecDepth 100000 in
set_option maxHeartbeats 400000 in
theorem kqL_387 : okC mL_law 387 (.invokevirtual 28) 61 45 0 0 = true := by decide +kernel
set_option maxRecDepth 100000 in
set_option maxHeartbeats 400000 in
theorem kqL_391 : okC mL_law 391 (.invokevirtual 32) 211 228 0 0 = true := by decide +kernel
set_option maxRecDepth 100000 in
set_option maxHeartbeats 400000 in
theorem lw_2 (hR : Rl S T) (hi : i + 5 < ys.length) (hl : ys.length ≤ 3072) (hk : ∀ S' J' T', Rl S' T' → Ev 50 (some ys) mL_law b 23 (lX (i + 6)) [] (hp S' J' T') Q) : Ev 50 (some ys) mL_law b 386 (lX i) [] (hp S J T) Q := by
  obtain ⟨v, S1, S2, J1, J2, T1, e1, e2, e3⟩ := q_fault (J := J) hR 
  obtain ⟨f1, g1⟩ := isO_ok (lt_isO (S := S) (J := J) (T := T))
  obtain ⟨f2, g2⟩ := isO_ok (mo_isO (S := S1) (J := J1) (T := T1))
  refine w_al (pc := 386) (a := 1) (by decide +kernel) rfl ?_
  refine ev_V (as := []) (rest := []) kqL_387 jX10_fault (zX10_fault e1) g1 rfl rfl (by decide) rfl rfl (Nat.le_of_ble_eq_true rfl) (fun r h' q => ?_)
  obtain ⟨rfl, rfl⟩ := q
  refine w_al (pc := 390) (a := 2) (by decide +kernel) rfl ?_
  refine ev_V (as := []) (rest := [.int v]) kqL_391 jX11_fault (zX11_fault e2) g2 rfl rfl (by decide) rfl rfl (Nat.le_of_ble_eq_true rfl) (fun r h' q => ?_)
  obtain ⟨rfl, rfl⟩ := q
  exact w_end (pc := 394) (off := 1469) (by decide +kernel) rfl (hk _ _ _ e3)
set_option maxRecDepth 100000 in
set_option maxHeartbeats 400000 in
theorem kqL_400 : okC mL_law 400 (.invokevirtual 33) 62 46 0 0 = true := by decide +kernel
set_option maxRecDepth 100000 in
set_option maxHeartbeats 400000 in
theorem kqL_404 : okC mL_law 404 (.invokevirtual 36) 212 229 0 0 = true := by decide +kernel
set_option maxRecDepth 100000 in
set_option maxHeartbeats 400000 in
theorem lw_3 (hR : Rl S T) (hi : i + 5 < ys.length) (hl : ys.length ≤ 3072) (hk : ∀ S' J' T', Rl S' T' → Ev 50 (some ys) mL_law b 23 (lX (i + 6)) [] (hp S' J' T') Q) : Ev 50 (some ys) mL_law b 399 (lX i) [] (hp S J T) Q := by
  obtain ⟨v, S1, S2, J1, J2, T1, e1, e2, e3⟩ := q_where (J := J) hR 
  obtain ⟨f1, g1⟩ := isO_ok (lt_isO (S := S) (J := J) (T := T))
  obtain ⟨f2, g2⟩ := isO_ok (mo_isO (S := S1) (J := J1) (T := T1))
  refine w_al (pc := 399) (a := 1) (by decide +kernel) rfl ?_
  refine ev_V (as := []) (rest := []) kqL_400 jX10_where (zX10_where e1) g1 rfl rfl (by decide) rfl rfl (Nat.le_of_ble_eq_true rfl) (fun r h' q => ?_)
  obtain ⟨rfl, rfl⟩ := q
  refine w_al (pc := 403) (a := 2) (by decide +kernel) rfl ?_
  refine ev_V (as := []) (rest := [.int v]) kqL_404 jX11_where (zX11_where e2) g2 rfl rfl (by decide) rfl rfl (Nat.le_of_ble_eq_true rfl) (fun r h' q => ?_)
  obtain ⟨rfl, rfl⟩ := q
  exact w_end (pc := 407) (off := 1456) (by decide +kernel) rfl (hk _ _ _ e3)
set_option maxRecDepth 100000 in
set_option maxHeartbeats 400000 in
theorem kqL_425 : okC mL_law 425 (.invokevirtual 37) 63 47 0 2 = true := by decide +kernel
set_option maxRecDepth 100000 in
set_option maxHeartbeats 400000 in
theorem kqL_441 : okC mL_law 441 (.invokevirtual 41) 213 230 0 2 = true := by decide +kernel
set_option maxRecDepth 100000 in
set_option maxHeartbeats 400000 in
theorem lw_4 (hR : Rl S T) (hi : i + 5 < ys.length) (hl : ys.length ≤ 3072) (hk : ∀ S' J' T', Rl S' T' → Ev 50 (some ys) mL_law b 23 (lX (i + 6)) [] (hp S' J' T') Q) : Ev 50 (some ys) mL_law b 412 (lX i) [] (hp S J T) Q := by
  obtain ⟨v, S1, S2, J1, J2, T1, e1, e2, e3⟩ := q_person (J := J) hR (ys.getD (i + 1) 0) (ys.getD (i + 2) 0)
  obtain ⟨f1, g1⟩ := isO_ok (lt_isO (S := S) (J := J) (T := T))
  obtain ⟨f2, g2⟩ := isO_ok (mo_isO (S := S1) (J := J1) (T := T1))
  refine w_al (pc := 412) (a := 1) (by decide +kernel) rfl ?_
  refine w_arg (i := i) (pc := 413) (j := 1) rfl rfl (by omega) (by decide +kernel) hi hl ?_
  refine w_arg (i := i) (pc := 419) (j := 2) rfl rfl (by omega) (by decide +kernel) hi hl ?_
  refine ev_V (as := [.int (ys.getD (i + 1) 0), .int (ys.getD (i + 2) 0)]) (rest := []) kqL_425 jX10_person (zX10_person e1) g1 rfl rfl (by decide) rfl rfl (Nat.le_of_ble_eq_true rfl) (fun r h' q => ?_)
  obtain ⟨rfl, rfl⟩ := q
  refine w_al (pc := 428) (a := 2) (by decide +kernel) rfl ?_
  refine w_arg (i := i) (pc := 429) (j := 1) rfl rfl (by omega) (by decide +kernel) hi hl ?_
  refine w_arg (i := i) (pc := 435) (j := 2) rfl rfl (by omega) (by decide +kernel) hi hl ?_
  refine ev_V (as := [.int (ys.getD (i + 1) 0), .int (ys.getD (i + 2) 0)]) (rest := [.int v]) kqL_441 jX11_person (zX11_person e2) g2 rfl rfl (by decide) rfl rfl (Nat.le_of_ble_eq_true rfl) (fun r h' q => ?_)
  obtain ⟨rfl, rfl⟩ := q
  exact w_end (pc := 444) (off := 1419) (by decide +kernel) rfl (hk _ _ _ e3)
set_option maxRecDepth 100000 in
set_option maxHeartbeats 400000 in
theorem kqL_462 : okC mL_law 462 (.invokevirtual 42) 65 49 0 2 = true := by decide +kernel
set_option maxRecDepth 100000 in
set_option maxHeartbeats 400000 in
theorem kqL_478 : okC mL_law 478 (.invokevirtual 45) 215 232 0 2 = true := by decide +kernel
set_option maxRecDepth 100000 in
set_option maxHeartbeats 400000 in
theorem lw_5 (hR : Rl S T) (hi : i + 5 < ys.length) (hl : ys.length ≤ 3072) (hk : ∀ S' J' T', Rl S' T' → Ev 50 (some ys) mL_law b 23 (lX (i + 6)) [] (hp S' J' T') Q) : Ev 50 (some ys) mL_law b 449 (lX i) [] (hp S J T) Q := by
  obtain ⟨v, S1, S2, J1, J2, T1, e1, e2, e3⟩ := q_name (J := J) hR (ys.getD (i + 1) 0) (ys.getD (i + 2) 0)
  obtain ⟨f1, g1⟩ := isO_ok (lt_isO (S := S) (J := J) (T := T))
  obtain ⟨f2, g2⟩ := isO_ok (mo_isO (S := S1) (J := J1) (T := T1))
  refine w_al (pc := 449) (a := 1) (by decide +kernel) rfl ?_
  refine w_arg (i := i) (pc := 450) (j := 1) rfl rfl (by omega) (by decide +kernel) hi hl ?_
  refine w_arg (i := i) (pc := 456) (j := 2) rfl rfl (by omega) (by decide +kernel) hi hl ?_
  refine ev_V (as := [.int (ys.getD (i + 1) 0), .int (ys.getD (i + 2) 0)]) (rest := []) kqL_462 jX10_name (zX10_name e1) g1 rfl rfl (by decide) rfl rfl (Nat.le_of_ble_eq_true rfl) (fun r h' q => ?_)
  obtain ⟨rfl, rfl⟩ := q
  refine w_al (pc := 465) (a := 2) (by decide +kernel) rfl ?_
  refine w_arg (i := i) (pc := 466) (j := 1) rfl rfl (by omega) (by decide +kernel) hi hl ?_
  refine w_arg (i := i) (pc := 472) (j := 2) rfl rfl (by omega) (by decide +kernel) hi hl ?_
  refine ev_V (as := [.int (ys.getD (i + 1) 0), .int (ys.getD (i + 2) 0)]) (rest := [.int v]) kqL_478 jX11_name (zX11_name e2) g2 rfl rfl (by decide) rfl rfl (Nat.le_of_ble_eq_true rfl) (fun r h' q => ?_)
  obtain ⟨rfl, rfl⟩ := q
  exact w_end (pc := 481) (off := 1382) (by decide +kernel) rfl (hk _ _ _ e3)
set_option maxRecDepth 100000 in
set_option maxHeartbeats 400000 in
theorem kqL_487 : okC mL_law 487 (.invokevirtual 46) 67 51 0 0 = true := by decide +kernel
set_option maxRecDepth 100000 in
set_option maxHeartbeats 400000 in
theorem kqL_491 : okC mL_law 491 (.invokevirtual 49) 217 234 0 0 = true := by decide +kernel
set_option maxRecDepth 100000 in
set_option maxHeartbeats 400000 in
theorem lw_6 (hR : Rl S T) (hi : i + 5 < ys.length) (hl : ys.length ≤ 3072) (hk : ∀ S' J' T', Rl S' T' → Ev 50 (some ys) mL_law b 23 (lX (i + 6)) [] (hp S' J' T') Q) : Ev 50 (some ys) mL_law b 486 (lX i) [] (hp S J T) Q := by
  obtain ⟨v, S1, S2, J1, J2, T1, e1, e2, e3⟩ := q_left (J := J) hR 
  obtain ⟨f1, g1⟩ := isO_ok (lt_isO (S := S) (J := J) (T := T))
  obtain ⟨f2, g2⟩ := isO_ok (mo_isO (S := S1) (J := J1) (T := T1))
  refine w_al (pc := 486) (a := 1) (by decide +kernel) rfl ?_
  refine ev_V (as := []) (rest := []) kqL_487 jX10_left (zX10_left e1) g1 rfl rfl (by decide) rfl rfl (Nat.le_of_ble_eq_true rfl) (fun r h' q => ?_)
  obtain ⟨rfl, rfl⟩ := q
  refine w_al (pc := 490) (a := 2) (by decide +kernel) rfl ?_
  refine ev_V (as := []) (rest := [.int v]) kqL_491 jX11_left (zX11_left e2) g2 rfl rfl (by decide) rfl rfl (Nat.le_of_ble_eq_true rfl) (fun r h' q => ?_)
  obtain ⟨rfl, rfl⟩ := q
  exact w_end (pc := 494) (off := 1369) (by decide +kernel) rfl (hk _ _ _ e3)
set_option maxRecDepth 100000 in
set_option maxHeartbeats 400000 in
theorem kqL_506 : okC mL_law 506 (.invokevirtual 50) 69 53 0 1 = true := by decide +kernel
set_option maxRecDepth 100000 in
set_option maxHeartbeats 400000 in
theorem kqL_516 : okC mL_law 516 (.invokevirtual 53) 218 235 0 1 = true := by decide +kernel
set_option maxRecDepth 100000 in
set_option maxHeartbeats 400000 in
theorem lw_7 (hR : Rl S T) (hi : i + 5 < ys.length) (hl : ys.length ≤ 3072) (hk : ∀ S' J' T', Rl S' T' → Ev 50 (some ys) mL_law b 23 (lX (i + 6)) [] (hp S' J' T') Q) : Ev 50 (some ys) mL_law b 499 (lX i) [] (hp S J T) Q := by
  obtain ⟨v, S1, S2, J1, J2, T1, e1, e2, e3⟩ := q_seen (J := J) hR (ys.getD (i + 1) 0)
  obtain ⟨f1, g1⟩ := isO_ok (lt_isO (S := S) (J := J) (T := T))
  obtain ⟨f2, g2⟩ := isO_ok (mo_isO (S := S1) (J := J1) (T := T1))
  refine w_al (pc := 499) (a := 1) (by decide +kernel) rfl ?_
  refine w_arg (i := i) (pc := 500) (j := 1) rfl rfl (by omega) (by decide +kernel) hi hl ?_
  refine ev_V (as := [.int (ys.getD (i + 1) 0)]) (rest := []) kqL_506 jX10_seen (zX10_seen e1) g1 rfl rfl (by decide) rfl rfl (Nat.le_of_ble_eq_true rfl) (fun r h' q => ?_)
  obtain ⟨rfl, rfl⟩ := q
  refine w_al (pc := 509) (a := 2) (by decide +kernel) rfl ?_
  refine w_arg (i := i) (pc := 510) (j := 1) rfl rfl (by omega) (by decide +kernel) hi hl ?_
  refine ev_V (as := [.int (ys.getD (i + 1) 0)]) (rest := [.int v]) kqL_516 jX11_seen (zX11_seen e2) g2 rfl rfl (by decide) rfl rfl (Nat.le_of_ble_eq_true rfl) (fun r h' q => ?_)
  obtain ⟨rfl, rfl⟩ := q
  exact w_end (pc := 519) (off := 1344) (by decide +kernel) rfl (hk _ _ _ e3)
set_option maxRecDepth 100000 in
set_option maxHeartbeats 400000 in
theorem kqL_531 : okC mL_law 531 (.invokevirtual 54) 72 56 0 1 = true := by decide +kernel
set_option maxRecDepth 100000 in
set_option maxHeartbeats 400000 in
theorem kqL_541 : okC mL_law 541 (.invokevirtual 57) 224 241 0 1 = true := by decide +kernel
set_option maxRecDepth 100000 in
set_option maxHeartbeats 400000 in
theorem lw_8 (hR : Rl S T) (hi : i + 5 < ys.length) (hl : ys.length ≤ 3072) (hk : ∀ S' J' T', Rl S' T' → Ev 50 (some ys) mL_law b 23 (lX (i + 6)) [] (hp S' J' T') Q) : Ev 50 (some ys) mL_law b 524 (lX i) [] (hp S J T) Q := by
  obtain ⟨v, S1, S2, J1, J2, T1, e1, e2, e3⟩ := q_calls (J := J) hR (ys.getD (i + 1) 0)
  obtain ⟨f1, g1⟩ := isO_ok (lt_isO (S := S) (J := J) (T := T))
  obtain ⟨f2, g2⟩ := isO_ok (mo_isO (S := S1) (J := J1) (T := T1))
  refine w_al (pc := 524) (a := 1) (by decide +kernel) rfl ?_
  refine w_arg (i := i) (pc := 525) (j := 1) rfl rfl (by omega) (by decide +kernel) hi hl ?_
  refine ev_V (as := [.int (ys.getD (i + 1) 0)]) (rest := []) kqL_531 jX10_calls (zX10_calls e1) g1 rfl rfl (by decide) rfl rfl (Nat.le_of_ble_eq_true rfl) (fun r h' q => ?_)
  obtain ⟨rfl, rfl⟩ := q
  refine w_al (pc := 534) (a := 2) (by decide +kernel) rfl ?_
  refine w_arg (i := i) (pc := 535) (j := 1) rfl rfl (by omega) (by decide +kernel) hi hl ?_
  refine ev_V (as := [.int (ys.getD (i + 1) 0)]) (rest := [.int v]) kqL_541 jX11_calls (zX11_calls e2) g2 rfl rfl (by decide) rfl rfl (Nat.le_of_ble_eq_true rfl) (fun r h' q => ?_)
  obtain ⟨rfl, rfl⟩ := q
  exact w_end (pc := 544) (off := 1319) (by decide +kernel) rfl (hk _ _ _ e3)
set_option maxRecDepth 100000 in
set_option maxHeartbeats 400000 in
theorem kqL_550 : okC mL_law 550 (.invokevirtual 58) 74 58 0 0 = true := by decide +kernel
set_option maxRecDepth 100000 in
set_option maxHeartbeats 400000 in
theorem kqL_554 : okC mL_law 554 (.invokevirtual 61) 226 243 0 0 = true := by decide +kernel
set_option maxRecDepth 100000 in
set_option maxHeartbeats 400000 in
theorem lw_9 (hR : Rl S T) (hi : i + 5 < ys.length) (hl : ys.length ≤ 3072) (hk : ∀ S' J' T', Rl S' T' → Ev 50 (some ys) mL_law b 23 (lX (i + 6)) [] (hp S' J' T') Q) : Ev 50 (some ys) mL_law b 549 (lX i) [] (hp S J T) Q := by
  obtain ⟨v, S1, S2, J1, J2, T1, e1, e2, e3⟩ := q_namer (J := J) hR 
  obtain ⟨f1, g1⟩ := isO_ok (lt_isO (S := S) (J := J) (T := T))
  obtain ⟨f2, g2⟩ := isO_ok (mo_isO (S := S1) (J := J1) (T := T1))
  refine w_al (pc := 549) (a := 1) (by decide +kernel) rfl ?_
  refine ev_V (as := []) (rest := []) kqL_550 jX10_namer (zX10_namer e1) g1 rfl rfl (by decide) rfl rfl (Nat.le_of_ble_eq_true rfl) (fun r h' q => ?_)
  obtain ⟨rfl, rfl⟩ := q
  refine w_al (pc := 553) (a := 2) (by decide +kernel) rfl ?_
  refine ev_V (as := []) (rest := [.int v]) kqL_554 jX11_namer (zX11_namer e2) g2 rfl rfl (by decide) rfl rfl (Nat.le_of_ble_eq_true rfl) (fun r h' q => ?_)
  obtain ⟨rfl, rfl⟩ := q
  exact w_end (pc := 557) (off := 1306) (by decide +kernel) rfl (hk _ _ _ e3)
set_option maxRecDepth 100000 in
set_option maxHeartbeats 400000 in
theorem kqL_563 : okC mL_law 563 (.invokevirtual 62) 76 62 0 0 = true := by decide +kernel
set_option maxRecDepth 100000 in
set_option maxHeartbeats 400000 in
theorem kqL_567 : okC mL_law 567 (.invokevirtual 65) 232 249 0 0 = true := by decide +kernel
set_option maxRecDepth 100000 in
set_option maxHeartbeats 400000 in
theorem lw_10 (hR : Rl S T) (hi : i + 5 < ys.length) (hl : ys.length ≤ 3072) (hk : ∀ S' J' T', Rl S' T' → Ev 50 (some ys) mL_law b 23 (lX (i + 6)) [] (hp S' J' T') Q) : Ev 50 (some ys) mL_law b 562 (lX i) [] (hp S J T) Q := by
  obtain ⟨v, S1, S2, J1, J2, T1, e1, e2, e3⟩ := q_dish (J := J) hR 
  obtain ⟨f1, g1⟩ := isO_ok (lt_isO (S := S) (J := J) (T := T))
  obtain ⟨f2, g2⟩ := isO_ok (mo_isO (S := S1) (J := J1) (T := T1))
  refine w_al (pc := 562) (a := 1) (by decide +kernel) rfl ?_
  refine ev_V (as := []) (rest := []) kqL_563 jX10_dish (zX10_dish e1) g1 rfl rfl (by decide) rfl rfl (Nat.le_of_ble_eq_true rfl) (fun r h' q => ?_)
  obtain ⟨rfl, rfl⟩ := q
  refine w_al (pc := 566) (a := 2) (by decide +kernel) rfl ?_
  refine ev_V (as := []) (rest := [.int v]) kqL_567 jX11_dish (zX11_dish e2) g2 rfl rfl (by decide) rfl rfl (Nat.le_of_ble_eq_true rfl) (fun r h' q => ?_)
  obtain ⟨rfl, rfl⟩ := q
  exact w_end (pc := 570) (off := 1293) (by decide +kernel) rfl (hk _ _ _ e3)
set_option maxRecDepth 100000 in
set_option maxHeartbeats 400000 in
theorem kqL_582 : okC mL_law 582 (.invokevirtual 66) 78 66 0 1 = true := by decide +kernel
set_option maxRecDepth 100000 in
set_option maxHeartbeats 400000 in
theorem kqL_592 : okC mL_law 592 (.invokevirtual 69) 233 250 0 1 = true := by decide +kernel
set_option maxRecDepth 100000 in
set_option maxHeartbeats 400000 in
theorem lw_11 (hR : Rl S T) (hi : i + 5 < ys.length) (hl : ys.length ≤ 3072) (hk : ∀ S' J' T', Rl S' T' → Ev 50 (some ys) mL_law b 23 (lX (i + 6)) [] (hp S' J' T') Q) : Ev 50 (some ys) mL_law b 575 (lX i) [] (hp S J T) Q := by
  obtain ⟨v, S1, S2, J1, J2, T1, e1, e2, e3⟩ := q_share (J := J) hR (ys.getD (i + 1) 0)
  obtain ⟨f1, g1⟩ := isO_ok (lt_isO (S := S) (J := J) (T := T))
  obtain ⟨f2, g2⟩ := isO_ok (mo_isO (S := S1) (J := J1) (T := T1))
  refine w_al (pc := 575) (a := 1) (by decide +kernel) rfl ?_
  refine w_arg (i := i) (pc := 576) (j := 1) rfl rfl (by omega) (by decide +kernel) hi hl ?_
  refine ev_V (as := [.int (ys.getD (i + 1) 0)]) (rest := []) kqL_582 jX10_share (zX10_share e1) g1 rfl rfl (by decide) rfl rfl (Nat.le_of_ble_eq_true rfl) (fun r h' q => ?_)
  obtain ⟨rfl, rfl⟩ := q
  refine w_al (pc := 585) (a := 2) (by decide +kernel) rfl ?_
  refine w_arg (i := i) (pc := 586) (j := 1) rfl rfl (by omega) (by decide +kernel) hi hl ?_
  refine ev_V (as := [.int (ys.getD (i + 1) 0)]) (rest := [.int v]) kqL_592 jX11_share (zX11_share e2) g2 rfl rfl (by decide) rfl rfl (Nat.le_of_ble_eq_true rfl) (fun r h' q => ?_)
  obtain ⟨rfl, rfl⟩ := q
  exact w_end (pc := 595) (off := 1268) (by decide +kernel) rfl (hk _ _ _ e3)
set_option maxRecDepth 100000 in
set_option maxHeartbeats 400000 in
theorem kqL_607 : okC mL_law 607 (.invokevirtual 70) 91 86 0 1 = true := by decide +kernel
set_option maxRecDepth 100000 in
set_option maxHeartbeats 400000 in
theorem kqL_617 : okC mL_law 617 (.invokevirtual 73) 234 251 0 1 = true := by decide +kernel
set_option maxRecDepth 100000 in
set_option maxHeartbeats 400000 in
theorem lw_12 (hR : Rl S T) (hi : i + 5 < ys.length) (hl : ys.length ≤ 3072) (hk : ∀ S' J' T', Rl S' T' → Ev 50 (some ys) mL_law b 23 (lX (i + 6)) [] (hp S' J' T') Q) : Ev 50 (some ys) mL_law b 600 (lX i) [] (hp S J T) Q := by
  obtain ⟨v, S1, S2, J1, J2, T1, e1, e2, e3⟩ := q_nameWith (J := J) hR (ys.getD (i + 1) 0)
  obtain ⟨f1, g1⟩ := isO_ok (lt_isO (S := S) (J := J) (T := T))
  obtain ⟨f2, g2⟩ := isO_ok (mo_isO (S := S1) (J := J1) (T := T1))
  refine w_al (pc := 600) (a := 1) (by decide +kernel) rfl ?_
  refine w_arg (i := i) (pc := 601) (j := 1) rfl rfl (by omega) (by decide +kernel) hi hl ?_
  refine ev_V (as := [.int (ys.getD (i + 1) 0)]) (rest := []) kqL_607 jX10_nameWith (zX10_nameWith e1) g1 rfl rfl (by decide) rfl rfl (Nat.le_of_ble_eq_true rfl) (fun r h' q => ?_)
  obtain ⟨rfl, rfl⟩ := q
  refine w_al (pc := 610) (a := 2) (by decide +kernel) rfl ?_
  refine w_arg (i := i) (pc := 611) (j := 1) rfl rfl (by omega) (by decide +kernel) hi hl ?_
  refine ev_V (as := [.int (ys.getD (i + 1) 0)]) (rest := [.int v]) kqL_617 jX11_nameWith (zX11_nameWith e2) g2 rfl rfl (by decide) rfl rfl (Nat.le_of_ble_eq_true rfl) (fun r h' q => ?_)
  obtain ⟨rfl, rfl⟩ := q
  exact w_end (pc := 620) (off := 1243) (by decide +kernel) rfl (hk _ _ _ e3)
set_option maxRecDepth 100000 in
set_option maxHeartbeats 400000 in
theorem kqL_632 : okC mL_law 632 (.invokevirtual 74) 96 91 0 1 = true := by decide +kernel
set_option maxRecDepth 100000 in
set_option maxHeartbeats 400000 in
theorem kqL_642 : okC mL_law 642 (.invokevirtual 77) 237 254 0 1 = true := by decide +kernel
set_option maxRecDepth 100000 in
set_option maxHeartbeats 400000 in
theorem lw_13 (hR : Rl S T) (hi : i + 5 < ys.length) (hl : ys.length ≤ 3072) (hk : ∀ S' J' T', Rl S' T' → Ev 50 (some ys) mL_law b 23 (lX (i + 6)) [] (hp S' J' T') Q) : Ev 50 (some ys) mL_law b 625 (lX i) [] (hp S J T) Q := by
  obtain ⟨v, S1, S2, J1, J2, T1, e1, e2, e3⟩ := q_guestFor (J := J) hR (ys.getD (i + 1) 0)
  obtain ⟨f1, g1⟩ := isO_ok (lt_isO (S := S) (J := J) (T := T))
  obtain ⟨f2, g2⟩ := isO_ok (mo_isO (S := S1) (J := J1) (T := T1))
  refine w_al (pc := 625) (a := 1) (by decide +kernel) rfl ?_
  refine w_arg (i := i) (pc := 626) (j := 1) rfl rfl (by omega) (by decide +kernel) hi hl ?_
  refine ev_V (as := [.int (ys.getD (i + 1) 0)]) (rest := []) kqL_632 jX10_guestFor (zX10_guestFor e1) g1 rfl rfl (by decide) rfl rfl (Nat.le_of_ble_eq_true rfl) (fun r h' q => ?_)
  obtain ⟨rfl, rfl⟩ := q
  refine w_al (pc := 635) (a := 2) (by decide +kernel) rfl ?_
  refine w_arg (i := i) (pc := 636) (j := 1) rfl rfl (by omega) (by decide +kernel) hi hl ?_
  refine ev_V (as := [.int (ys.getD (i + 1) 0)]) (rest := [.int v]) kqL_642 jX11_guestFor (zX11_guestFor e2) g2 rfl rfl (by decide) rfl rfl (Nat.le_of_ble_eq_true rfl) (fun r h' q => ?_)
  obtain ⟨rfl, rfl⟩ := q
  exact w_end (pc := 645) (off := 1218) (by decide +kernel) rfl (hk _ _ _ e3)
set_option maxRecDepth 100000 in
set_option maxHeartbeats 400000 in
theorem kqL_657 : okC mL_law 657 (.invokevirtual 78) 97 92 0 1 = true := by decide +kernel
set_option maxRecDepth 100000 in
set_option maxHeartbeats 400000 in
theorem kqL_667 : okC mL_law 667 (.invokevirtual 81) 238 255 0 1 = true := by decide +kernel
set_option maxRecDepth 100000 in
set_option maxHeartbeats 400000 in
theorem lw_14 (hR : Rl S T) (hi : i + 5 < ys.length) (hl : ys.length ≤ 3072) (hk : ∀ S' J' T', Rl S' T' → Ev 50 (some ys) mL_law b 23 (lX (i + 6)) [] (hp S' J' T') Q) : Ev 50 (some ys) mL_law b 650 (lX i) [] (hp S J T) Q := by
  obtain ⟨v, S1, S2, J1, J2, T1, e1, e2, e3⟩ := q_namerIn (J := J) hR (ys.getD (i + 1) 0)
  obtain ⟨f1, g1⟩ := isO_ok (lt_isO (S := S) (J := J) (T := T))
  obtain ⟨f2, g2⟩ := isO_ok (mo_isO (S := S1) (J := J1) (T := T1))
  refine w_al (pc := 650) (a := 1) (by decide +kernel) rfl ?_
  refine w_arg (i := i) (pc := 651) (j := 1) rfl rfl (by omega) (by decide +kernel) hi hl ?_
  refine ev_V (as := [.int (ys.getD (i + 1) 0)]) (rest := []) kqL_657 jX10_namerIn (zX10_namerIn e1) g1 rfl rfl (by decide) rfl rfl (Nat.le_of_ble_eq_true rfl) (fun r h' q => ?_)
  obtain ⟨rfl, rfl⟩ := q
  refine w_al (pc := 660) (a := 2) (by decide +kernel) rfl ?_
  refine w_arg (i := i) (pc := 661) (j := 1) rfl rfl (by omega) (by decide +kernel) hi hl ?_
  refine ev_V (as := [.int (ys.getD (i + 1) 0)]) (rest := [.int v]) kqL_667 jX11_namerIn (zX11_namerIn e2) g2 rfl rfl (by decide) rfl rfl (Nat.le_of_ble_eq_true rfl) (fun r h' q => ?_)
  obtain ⟨rfl, rfl⟩ := q
  exact w_end (pc := 670) (off := 1193) (by decide +kernel) rfl (hk _ _ _ e3)
set_option maxRecDepth 100000 in
set_option maxHeartbeats 400000 in
theorem kqL_682 : okC mL_law 682 (.invokevirtual 82) 98 93 0 1 = true := by decide +kernel
set_option maxRecDepth 100000 in
set_option maxHeartbeats 400000 in
theorem kqL_692 : okC mL_law 692 (.invokevirtual 85) 240 257 0 1 = true := by decide +kernel
set_option maxRecDepth 100000 in
set_option maxHeartbeats 400000 in
theorem lw_15 (hR : Rl S T) (hi : i + 5 < ys.length) (hl : ys.length ≤ 3072) (hk : ∀ S' J' T', Rl S' T' → Ev 50 (some ys) mL_law b 23 (lX (i + 6)) [] (hp S' J' T') Q) : Ev 50 (some ys) mL_law b 675 (lX i) [] (hp S J T) Q := by
  obtain ⟨v, S1, S2, J1, J2, T1, e1, e2, e3⟩ := q_dishIn (J := J) hR (ys.getD (i + 1) 0)
  obtain ⟨f1, g1⟩ := isO_ok (lt_isO (S := S) (J := J) (T := T))
  obtain ⟨f2, g2⟩ := isO_ok (mo_isO (S := S1) (J := J1) (T := T1))
  refine w_al (pc := 675) (a := 1) (by decide +kernel) rfl ?_
  refine w_arg (i := i) (pc := 676) (j := 1) rfl rfl (by omega) (by decide +kernel) hi hl ?_
  refine ev_V (as := [.int (ys.getD (i + 1) 0)]) (rest := []) kqL_682 jX10_dishIn (zX10_dishIn e1) g1 rfl rfl (by decide) rfl rfl (Nat.le_of_ble_eq_true rfl) (fun r h' q => ?_)
  obtain ⟨rfl, rfl⟩ := q
  refine w_al (pc := 685) (a := 2) (by decide +kernel) rfl ?_
  refine w_arg (i := i) (pc := 686) (j := 1) rfl rfl (by omega) (by decide +kernel) hi hl ?_
  refine ev_V (as := [.int (ys.getD (i + 1) 0)]) (rest := [.int v]) kqL_692 jX11_dishIn (zX11_dishIn e2) g2 rfl rfl (by decide) rfl rfl (Nat.le_of_ble_eq_true rfl) (fun r h' q => ?_)
  obtain ⟨rfl, rfl⟩ := q
  exact w_end (pc := 695) (off := 1168) (by decide +kernel) rfl (hk _ _ _ e3)
set_option maxRecDepth 100000 in
set_option maxHeartbeats 400000 in
theorem kqL_713 : okC mL_law 713 (.invokevirtual 86) 99 94 0 2 = true := by decide +kernel
set_option maxRecDepth 100000 in
set_option maxHeartbeats 400000 in
theorem kqL_729 : okC mL_law 729 (.invokevirtual 89) 241 258 0 2 = true := by decide +kernel
set_option maxRecDepth 100000 in
set_option maxHeartbeats 400000 in
theorem lw_16 (hR : Rl S T) (hi : i + 5 < ys.length) (hl : ys.length ≤ 3072) (hk : ∀ S' J' T', Rl S' T' → Ev 50 (some ys) mL_law b 23 (lX (i + 6)) [] (hp S' J' T') Q) : Ev 50 (some ys) mL_law b 700 (lX i) [] (hp S J T) Q := by
  obtain ⟨v, S1, S2, J1, J2, T1, e1, e2, e3⟩ := q_hungerIn (J := J) hR (ys.getD (i + 1) 0) (ys.getD (i + 2) 0)
  obtain ⟨f1, g1⟩ := isO_ok (lt_isO (S := S) (J := J) (T := T))
  obtain ⟨f2, g2⟩ := isO_ok (mo_isO (S := S1) (J := J1) (T := T1))
  refine w_al (pc := 700) (a := 1) (by decide +kernel) rfl ?_
  refine w_arg (i := i) (pc := 701) (j := 1) rfl rfl (by omega) (by decide +kernel) hi hl ?_
  refine w_arg (i := i) (pc := 707) (j := 2) rfl rfl (by omega) (by decide +kernel) hi hl ?_
  refine ev_V (as := [.int (ys.getD (i + 1) 0), .int (ys.getD (i + 2) 0)]) (rest := []) kqL_713 jX10_hungerIn (zX10_hungerIn e1) g1 rfl rfl (by decide) rfl rfl (Nat.le_of_ble_eq_true rfl) (fun r h' q => ?_)
  obtain ⟨rfl, rfl⟩ := q
  refine w_al (pc := 716) (a := 2) (by decide +kernel) rfl ?_
  refine w_arg (i := i) (pc := 717) (j := 1) rfl rfl (by omega) (by decide +kernel) hi hl ?_
  refine w_arg (i := i) (pc := 723) (j := 2) rfl rfl (by omega) (by decide +kernel) hi hl ?_
  refine ev_V (as := [.int (ys.getD (i + 1) 0), .int (ys.getD (i + 2) 0)]) (rest := [.int v]) kqL_729 jX11_hungerIn (zX11_hungerIn e2) g2 rfl rfl (by decide) rfl rfl (Nat.le_of_ble_eq_true rfl) (fun r h' q => ?_)
  obtain ⟨rfl, rfl⟩ := q
  exact w_end (pc := 732) (off := 1131) (by decide +kernel) rfl (hk _ _ _ e3)
set_option maxRecDepth 100000 in
set_option maxHeartbeats 400000 in
theorem kqL_744 : okC mL_law 744 (.invokevirtual 90) 100 95 0 1 = true := by decide +kernel
set_option maxRecDepth 100000 in
set_option maxHeartbeats 400000 in
theorem kqL_754 : okC mL_law 754 (.invokevirtual 93) 242 259 0 1 = true := by decide +kernel
set_option maxRecDepth 100000 in
set_option maxHeartbeats 400000 in
theorem lw_17 (hR : Rl S T) (hi : i + 5 < ys.length) (hl : ys.length ≤ 3072) (hk : ∀ S' J' T', Rl S' T' → Ev 50 (some ys) mL_law b 23 (lX (i + 6)) [] (hp S' J' T') Q) : Ev 50 (some ys) mL_law b 737 (lX i) [] (hp S J T) Q := by
  obtain ⟨v, S1, S2, J1, J2, T1, e1, e2, e3⟩ := q_leftIn (J := J) hR (ys.getD (i + 1) 0)
  obtain ⟨f1, g1⟩ := isO_ok (lt_isO (S := S) (J := J) (T := T))
  obtain ⟨f2, g2⟩ := isO_ok (mo_isO (S := S1) (J := J1) (T := T1))
  refine w_al (pc := 737) (a := 1) (by decide +kernel) rfl ?_
  refine w_arg (i := i) (pc := 738) (j := 1) rfl rfl (by omega) (by decide +kernel) hi hl ?_
  refine ev_V (as := [.int (ys.getD (i + 1) 0)]) (rest := []) kqL_744 jX10_leftIn (zX10_leftIn e1) g1 rfl rfl (by decide) rfl rfl (Nat.le_of_ble_eq_true rfl) (fun r h' q => ?_)
  obtain ⟨rfl, rfl⟩ := q
  refine w_al (pc := 747) (a := 2) (by decide +kernel) rfl ?_
  refine w_arg (i := i) (pc := 748) (j := 1) rfl rfl (by omega) (by decide +kernel) hi hl ?_
  refine ev_V (as := [.int (ys.getD (i + 1) 0)]) (rest := [.int v]) kqL_754 jX11_leftIn (zX11_leftIn e2) g2 rfl rfl (by decide) rfl rfl (Nat.le_of_ble_eq_true rfl) (fun r h' q => ?_)
  obtain ⟨rfl, rfl⟩ := q
  exact w_end (pc := 757) (off := 1106) (by decide +kernel) rfl (hk _ _ _ e3)
set_option maxRecDepth 100000 in
set_option maxHeartbeats 400000 in
theorem kqL_769 : okC mL_law 769 (.invokevirtual 94) 101 96 0 1 = true := by decide +kernel
set_option maxRecDepth 100000 in
set_option maxHeartbeats 400000 in
theorem kqL_779 : okC mL_law 779 (.invokevirtual 97) 243 260 0 1 = true := by decide +kernel
set_option maxRecDepth 100000 in
set_option maxHeartbeats 400000 in
theorem lw_18 (hR : Rl S T) (hi : i + 5 < ys.length) (hl : ys.length ≤ 3072) (hk : ∀ S' J' T', Rl S' T' → Ev 50 (some ys) mL_law b 23 (lX (i + 6)) [] (hp S' J' T') Q) : Ev 50 (some ys) mL_law b 762 (lX i) [] (hp S J T) Q := by
  obtain ⟨v, S1, S2, J1, J2, T1, e1, e2, e3⟩ := q_livingIn (J := J) hR (ys.getD (i + 1) 0)
  obtain ⟨f1, g1⟩ := isO_ok (lt_isO (S := S) (J := J) (T := T))
  obtain ⟨f2, g2⟩ := isO_ok (mo_isO (S := S1) (J := J1) (T := T1))
  refine w_al (pc := 762) (a := 1) (by decide +kernel) rfl ?_
  refine w_arg (i := i) (pc := 763) (j := 1) rfl rfl (by omega) (by decide +kernel) hi hl ?_
  refine ev_V (as := [.int (ys.getD (i + 1) 0)]) (rest := []) kqL_769 jX10_livingIn (zX10_livingIn e1) g1 rfl rfl (by decide) rfl rfl (Nat.le_of_ble_eq_true rfl) (fun r h' q => ?_)
  obtain ⟨rfl, rfl⟩ := q
  refine w_al (pc := 772) (a := 2) (by decide +kernel) rfl ?_
  refine w_arg (i := i) (pc := 773) (j := 1) rfl rfl (by omega) (by decide +kernel) hi hl ?_
  refine ev_V (as := [.int (ys.getD (i + 1) 0)]) (rest := [.int v]) kqL_779 jX11_livingIn (zX11_livingIn e2) g2 rfl rfl (by decide) rfl rfl (Nat.le_of_ble_eq_true rfl) (fun r h' q => ?_)
  obtain ⟨rfl, rfl⟩ := q
  exact w_end (pc := 782) (off := 1081) (by decide +kernel) rfl (hk _ _ _ e3)
set_option maxRecDepth 100000 in
set_option maxHeartbeats 400000 in
theorem kqL_794 : okC mL_law 794 (.invokevirtual 98) 102 98 0 1 = true := by decide +kernel
set_option maxRecDepth 100000 in
set_option maxHeartbeats 400000 in
theorem kqL_804 : okC mL_law 804 (.invokevirtual 101) 245 262 0 1 = true := by decide +kernel
set_option maxRecDepth 100000 in
set_option maxHeartbeats 400000 in
theorem lw_19 (hR : Rl S T) (hi : i + 5 < ys.length) (hl : ys.length ≤ 3072) (hk : ∀ S' J' T', Rl S' T' → Ev 50 (some ys) mL_law b 23 (lX (i + 6)) [] (hp S' J' T') Q) : Ev 50 (some ys) mL_law b 787 (lX i) [] (hp S J T) Q := by
  obtain ⟨v, S1, S2, J1, J2, T1, e1, e2, e3⟩ := q_hungriestIn (J := J) hR (ys.getD (i + 1) 0)
  obtain ⟨f1, g1⟩ := isO_ok (lt_isO (S := S) (J := J) (T := T))
  obtain ⟨f2, g2⟩ := isO_ok (mo_isO (S := S1) (J := J1) (T := T1))
  refine w_al (pc := 787) (a := 1) (by decide +kernel) rfl ?_
  refine w_arg (i := i) (pc := 788) (j := 1) rfl rfl (by omega) (by decide +kernel) hi hl ?_
  refine ev_V (as := [.int (ys.getD (i + 1) 0)]) (rest := []) kqL_794 jX10_hungriestIn (zX10_hungriestIn e1) g1 rfl rfl (by decide) rfl rfl (Nat.le_of_ble_eq_true rfl) (fun r h' q => ?_)
  obtain ⟨rfl, rfl⟩ := q
  refine w_al (pc := 797) (a := 2) (by decide +kernel) rfl ?_
  refine w_arg (i := i) (pc := 798) (j := 1) rfl rfl (by omega) (by decide +kernel) hi hl ?_
  refine ev_V (as := [.int (ys.getD (i + 1) 0)]) (rest := [.int v]) kqL_804 jX11_hungriestIn (zX11_hungriestIn e2) g2 rfl rfl (by decide) rfl rfl (Nat.le_of_ble_eq_true rfl) (fun r h' q => ?_)
  obtain ⟨rfl, rfl⟩ := q
  exact w_end (pc := 807) (off := 1056) (by decide +kernel) rfl (hk _ _ _ e3)
end LWC
