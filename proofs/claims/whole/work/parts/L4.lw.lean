-- THE LAW: cases
section LWC
variable {S : Mem} {J : MeJ} {T : Nat → Nat} {ys : List Int32} {b : Nat × Nat} {i : Nat} {Q : Option Value → aH → Prop}
set_option maxRecDepth 100000 in
set_option maxHeartbeats 400000 in
theorem kqL_819 : okC mL_law 819 (.invokevirtual 102) 104 100 0 1 = true := by decide +kernel
set_option maxRecDepth 100000 in
set_option maxHeartbeats 400000 in
theorem kqL_829 : okC mL_law 829 (.invokevirtual 105) 247 264 0 1 = true := by decide +kernel
set_option maxRecDepth 100000 in
set_option maxHeartbeats 400000 in
theorem lw_20 (hR : Rl S T) (hi : i + 5 < ys.length) (hl : ys.length ≤ 3072) (hk : ∀ S' J' T', Rl S' T' → Ev 50 (some ys) mL_law b 23 (lX (i + 6)) [] (hp S' J' T') Q) : Ev 50 (some ys) mL_law b 812 (lX i) [] (hp S J T) Q := by
  obtain ⟨v, S1, S2, J1, J2, T1, e1, e2, e3⟩ := q_unevenIn (J := J) hR (ys.getD (i + 1) 0)
  obtain ⟨f1, g1⟩ := isO_ok (lt_isO (S := S) (J := J) (T := T))
  obtain ⟨f2, g2⟩ := isO_ok (mo_isO (S := S1) (J := J1) (T := T1))
  refine w_al (pc := 812) (a := 1) (by decide +kernel) rfl ?_
  refine w_arg (i := i) (pc := 813) (j := 1) rfl rfl (by omega) (by decide +kernel) hi hl ?_
  refine ev_V (as := [.int (ys.getD (i + 1) 0)]) (rest := []) kqL_819 jX10_unevenIn (zX10_unevenIn e1) g1 rfl rfl (by decide) rfl rfl (Nat.le_of_ble_eq_true rfl) (fun r h' q => ?_)
  obtain ⟨rfl, rfl⟩ := q
  refine w_al (pc := 822) (a := 2) (by decide +kernel) rfl ?_
  refine w_arg (i := i) (pc := 823) (j := 1) rfl rfl (by omega) (by decide +kernel) hi hl ?_
  refine ev_V (as := [.int (ys.getD (i + 1) 0)]) (rest := [.int v]) kqL_829 jX11_unevenIn (zX11_unevenIn e2) g2 rfl rfl (by decide) rfl rfl (Nat.le_of_ble_eq_true rfl) (fun r h' q => ?_)
  obtain ⟨rfl, rfl⟩ := q
  exact w_end (pc := 832) (off := 1031) (by decide +kernel) rfl (hk _ _ _ e3)
set_option maxRecDepth 100000 in
set_option maxHeartbeats 400000 in
theorem kqL_844 : okC mL_law 844 (.invokevirtual 106) 106 103 0 1 = true := by decide +kernel
set_option maxRecDepth 100000 in
set_option maxHeartbeats 400000 in
theorem kqL_854 : okC mL_law 854 (.invokevirtual 109) 248 265 0 1 = true := by decide +kernel
set_option maxRecDepth 100000 in
set_option maxHeartbeats 400000 in
theorem lw_21 (hR : Rl S T) (hi : i + 5 < ys.length) (hl : ys.length ≤ 3072) (hk : ∀ S' J' T', Rl S' T' → Ev 50 (some ys) mL_law b 23 (lX (i + 6)) [] (hp S' J' T') Q) : Ev 50 (some ys) mL_law b 837 (lX i) [] (hp S J T) Q := by
  obtain ⟨v, S1, S2, J1, J2, T1, e1, e2, e3⟩ := q_deadIn (J := J) hR (ys.getD (i + 1) 0)
  obtain ⟨f1, g1⟩ := isO_ok (lt_isO (S := S) (J := J) (T := T))
  obtain ⟨f2, g2⟩ := isO_ok (mo_isO (S := S1) (J := J1) (T := T1))
  refine w_al (pc := 837) (a := 1) (by decide +kernel) rfl ?_
  refine w_arg (i := i) (pc := 838) (j := 1) rfl rfl (by omega) (by decide +kernel) hi hl ?_
  refine ev_V (as := [.int (ys.getD (i + 1) 0)]) (rest := []) kqL_844 jX10_deadIn (zX10_deadIn e1) g1 rfl rfl (by decide) rfl rfl (Nat.le_of_ble_eq_true rfl) (fun r h' q => ?_)
  obtain ⟨rfl, rfl⟩ := q
  refine w_al (pc := 847) (a := 2) (by decide +kernel) rfl ?_
  refine w_arg (i := i) (pc := 848) (j := 1) rfl rfl (by omega) (by decide +kernel) hi hl ?_
  refine ev_V (as := [.int (ys.getD (i + 1) 0)]) (rest := [.int v]) kqL_854 jX11_deadIn (zX11_deadIn e2) g2 rfl rfl (by decide) rfl rfl (Nat.le_of_ble_eq_true rfl) (fun r h' q => ?_)
  obtain ⟨rfl, rfl⟩ := q
  exact w_end (pc := 857) (off := 1006) (by decide +kernel) rfl (hk _ _ _ e3)
set_option maxRecDepth 100000 in
set_option maxHeartbeats 400000 in
theorem kqL_875 : okC mL_law 875 (.invokevirtual 110) 107 106 0 2 = true := by decide +kernel
set_option maxRecDepth 100000 in
set_option maxHeartbeats 400000 in
theorem kqL_891 : okC mL_law 891 (.invokevirtual 113) 249 266 0 2 = true := by decide +kernel
set_option maxRecDepth 100000 in
set_option maxHeartbeats 400000 in
theorem lw_22 (hR : Rl S T) (hi : i + 5 < ys.length) (hl : ys.length ≤ 3072) (hk : ∀ S' J' T', Rl S' T' → Ev 50 (some ys) mL_law b 23 (lX (i + 6)) [] (hp S' J' T') Q) : Ev 50 (some ys) mL_law b 862 (lX i) [] (hp S J T) Q := by
  obtain ⟨v, S1, S2, J1, J2, T1, e1, e2, e3⟩ := q_eats (J := J) hR (ys.getD (i + 1) 0) (ys.getD (i + 2) 0)
  obtain ⟨f1, g1⟩ := isO_ok (lt_isO (S := S) (J := J) (T := T))
  obtain ⟨f2, g2⟩ := isO_ok (mo_isO (S := S1) (J := J1) (T := T1))
  refine w_al (pc := 862) (a := 1) (by decide +kernel) rfl ?_
  refine w_arg (i := i) (pc := 863) (j := 1) rfl rfl (by omega) (by decide +kernel) hi hl ?_
  refine w_arg (i := i) (pc := 869) (j := 2) rfl rfl (by omega) (by decide +kernel) hi hl ?_
  refine ev_V (as := [.int (ys.getD (i + 1) 0), .int (ys.getD (i + 2) 0)]) (rest := []) kqL_875 jX10_eats (zX10_eats e1) g1 rfl rfl (by decide) rfl rfl (Nat.le_of_ble_eq_true rfl) (fun r h' q => ?_)
  obtain ⟨rfl, rfl⟩ := q
  refine w_al (pc := 878) (a := 2) (by decide +kernel) rfl ?_
  refine w_arg (i := i) (pc := 879) (j := 1) rfl rfl (by omega) (by decide +kernel) hi hl ?_
  refine w_arg (i := i) (pc := 885) (j := 2) rfl rfl (by omega) (by decide +kernel) hi hl ?_
  refine ev_V (as := [.int (ys.getD (i + 1) 0), .int (ys.getD (i + 2) 0)]) (rest := [.int v]) kqL_891 jX11_eats (zX11_eats e2) g2 rfl rfl (by decide) rfl rfl (Nat.le_of_ble_eq_true rfl) (fun r h' q => ?_)
  obtain ⟨rfl, rfl⟩ := q
  exact w_end (pc := 894) (off := 969) (by decide +kernel) rfl (hk _ _ _ e3)
set_option maxRecDepth 100000 in
set_option maxHeartbeats 400000 in
theorem kqL_912 : okC mL_law 912 (.invokevirtual 114) 108 107 0 2 = true := by decide +kernel
set_option maxRecDepth 100000 in
set_option maxHeartbeats 400000 in
theorem kqL_928 : okC mL_law 928 (.invokevirtual 117) 251 268 0 2 = true := by decide +kernel
set_option maxRecDepth 100000 in
set_option maxHeartbeats 400000 in
theorem lw_23 (hR : Rl S T) (hi : i + 5 < ys.length) (hl : ys.length ≤ 3072) (hk : ∀ S' J' T', Rl S' T' → Ev 50 (some ys) mL_law b 23 (lX (i + 6)) [] (hp S' J' T') Q) : Ev 50 (some ys) mL_law b 899 (lX i) [] (hp S J T) Q := by
  obtain ⟨v, S1, S2, J1, J2, T1, e1, e2, e3⟩ := q_says (J := J) hR (ys.getD (i + 1) 0) (ys.getD (i + 2) 0)
  obtain ⟨f1, g1⟩ := isO_ok (lt_isO (S := S) (J := J) (T := T))
  obtain ⟨f2, g2⟩ := isO_ok (mo_isO (S := S1) (J := J1) (T := T1))
  refine w_al (pc := 899) (a := 1) (by decide +kernel) rfl ?_
  refine w_arg (i := i) (pc := 900) (j := 1) rfl rfl (by omega) (by decide +kernel) hi hl ?_
  refine w_arg (i := i) (pc := 906) (j := 2) rfl rfl (by omega) (by decide +kernel) hi hl ?_
  refine ev_V (as := [.int (ys.getD (i + 1) 0), .int (ys.getD (i + 2) 0)]) (rest := []) kqL_912 jX10_says (zX10_says e1) g1 rfl rfl (by decide) rfl rfl (Nat.le_of_ble_eq_true rfl) (fun r h' q => ?_)
  obtain ⟨rfl, rfl⟩ := q
  refine w_al (pc := 915) (a := 2) (by decide +kernel) rfl ?_
  refine w_arg (i := i) (pc := 916) (j := 1) rfl rfl (by omega) (by decide +kernel) hi hl ?_
  refine w_arg (i := i) (pc := 922) (j := 2) rfl rfl (by omega) (by decide +kernel) hi hl ?_
  refine ev_V (as := [.int (ys.getD (i + 1) 0), .int (ys.getD (i + 2) 0)]) (rest := [.int v]) kqL_928 jX11_says (zX11_says e2) g2 rfl rfl (by decide) rfl rfl (Nat.le_of_ble_eq_true rfl) (fun r h' q => ?_)
  obtain ⟨rfl, rfl⟩ := q
  exact w_end (pc := 931) (off := 932) (by decide +kernel) rfl (hk _ _ _ e3)
set_option maxRecDepth 100000 in
set_option maxHeartbeats 400000 in
theorem kqL_943 : okC mL_law 943 (.invokevirtual 118) 109 108 0 1 = true := by decide +kernel
set_option maxRecDepth 100000 in
set_option maxHeartbeats 400000 in
theorem kqL_953 : okC mL_law 953 (.invokevirtual 121) 252 269 0 1 = true := by decide +kernel
set_option maxRecDepth 100000 in
set_option maxHeartbeats 400000 in
theorem lw_24 (hR : Rl S T) (hi : i + 5 < ys.length) (hl : ys.length ≤ 3072) (hk : ∀ S' J' T', Rl S' T' → Ev 50 (some ys) mL_law b 23 (lX (i + 6)) [] (hp S' J' T') Q) : Ev 50 (some ys) mL_law b 936 (lX i) [] (hp S J T) Q := by
  obtain ⟨v, S1, S2, J1, J2, T1, e1, e2, e3⟩ := q_firstDish (J := J) hR (ys.getD (i + 1) 0)
  obtain ⟨f1, g1⟩ := isO_ok (lt_isO (S := S) (J := J) (T := T))
  obtain ⟨f2, g2⟩ := isO_ok (mo_isO (S := S1) (J := J1) (T := T1))
  refine w_al (pc := 936) (a := 1) (by decide +kernel) rfl ?_
  refine w_arg (i := i) (pc := 937) (j := 1) rfl rfl (by omega) (by decide +kernel) hi hl ?_
  refine ev_V (as := [.int (ys.getD (i + 1) 0)]) (rest := []) kqL_943 jX10_firstDish (zX10_firstDish e1) g1 rfl rfl (by decide) rfl rfl (Nat.le_of_ble_eq_true rfl) (fun r h' q => ?_)
  obtain ⟨rfl, rfl⟩ := q
  refine w_al (pc := 946) (a := 2) (by decide +kernel) rfl ?_
  refine w_arg (i := i) (pc := 947) (j := 1) rfl rfl (by omega) (by decide +kernel) hi hl ?_
  refine ev_V (as := [.int (ys.getD (i + 1) 0)]) (rest := [.int v]) kqL_953 jX11_firstDish (zX11_firstDish e2) g2 rfl rfl (by decide) rfl rfl (Nat.le_of_ble_eq_true rfl) (fun r h' q => ?_)
  obtain ⟨rfl, rfl⟩ := q
  exact w_end (pc := 956) (off := 907) (by decide +kernel) rfl (hk _ _ _ e3)
set_option maxRecDepth 100000 in
set_option maxHeartbeats 400000 in
theorem kqL_968 : okC mL_law 968 (.invokevirtual 122) 110 109 0 1 = true := by decide +kernel
set_option maxRecDepth 100000 in
set_option maxHeartbeats 400000 in
theorem kqL_978 : okC mL_law 978 (.invokevirtual 125) 253 270 0 1 = true := by decide +kernel
set_option maxRecDepth 100000 in
set_option maxHeartbeats 400000 in
theorem lw_25 (hR : Rl S T) (hi : i + 5 < ys.length) (hl : ys.length ≤ 3072) (hk : ∀ S' J' T', Rl S' T' → Ev 50 (some ys) mL_law b 23 (lX (i + 6)) [] (hp S' J' T') Q) : Ev 50 (some ys) mL_law b 961 (lX i) [] (hp S J T) Q := by
  obtain ⟨v, S1, S2, J1, J2, T1, e1, e2, e3⟩ := q_named (J := J) hR (ys.getD (i + 1) 0)
  obtain ⟨f1, g1⟩ := isO_ok (lt_isO (S := S) (J := J) (T := T))
  obtain ⟨f2, g2⟩ := isO_ok (mo_isO (S := S1) (J := J1) (T := T1))
  refine w_al (pc := 961) (a := 1) (by decide +kernel) rfl ?_
  refine w_arg (i := i) (pc := 962) (j := 1) rfl rfl (by omega) (by decide +kernel) hi hl ?_
  refine ev_V (as := [.int (ys.getD (i + 1) 0)]) (rest := []) kqL_968 jX10_named (zX10_named e1) g1 rfl rfl (by decide) rfl rfl (Nat.le_of_ble_eq_true rfl) (fun r h' q => ?_)
  obtain ⟨rfl, rfl⟩ := q
  refine w_al (pc := 971) (a := 2) (by decide +kernel) rfl ?_
  refine w_arg (i := i) (pc := 972) (j := 1) rfl rfl (by omega) (by decide +kernel) hi hl ?_
  refine ev_V (as := [.int (ys.getD (i + 1) 0)]) (rest := [.int v]) kqL_978 jX11_named (zX11_named e2) g2 rfl rfl (by decide) rfl rfl (Nat.le_of_ble_eq_true rfl) (fun r h' q => ?_)
  obtain ⟨rfl, rfl⟩ := q
  exact w_end (pc := 981) (off := 882) (by decide +kernel) rfl (hk _ _ _ e3)
set_option maxRecDepth 100000 in
set_option maxHeartbeats 400000 in
theorem kqL_993 : okC mL_law 993 (.invokevirtual 126) 111 110 0 1 = true := by decide +kernel
set_option maxRecDepth 100000 in
set_option maxHeartbeats 400000 in
theorem kqL_1003 : okC mL_law 1003 (.invokevirtual 129) 254 271 0 1 = true := by decide +kernel
set_option maxRecDepth 100000 in
set_option maxHeartbeats 400000 in
theorem lw_26 (hR : Rl S T) (hi : i + 5 < ys.length) (hl : ys.length ≤ 3072) (hk : ∀ S' J' T', Rl S' T' → Ev 50 (some ys) mL_law b 23 (lX (i + 6)) [] (hp S' J' T') Q) : Ev 50 (some ys) mL_law b 986 (lX i) [] (hp S J T) Q := by
  obtain ⟨v, S1, S2, J1, J2, T1, e1, e2, e3⟩ := q_worthIn (J := J) hR (ys.getD (i + 1) 0)
  obtain ⟨f1, g1⟩ := isO_ok (lt_isO (S := S) (J := J) (T := T))
  obtain ⟨f2, g2⟩ := isO_ok (mo_isO (S := S1) (J := J1) (T := T1))
  refine w_al (pc := 986) (a := 1) (by decide +kernel) rfl ?_
  refine w_arg (i := i) (pc := 987) (j := 1) rfl rfl (by omega) (by decide +kernel) hi hl ?_
  refine ev_V (as := [.int (ys.getD (i + 1) 0)]) (rest := []) kqL_993 jX10_worthIn (zX10_worthIn e1) g1 rfl rfl (by decide) rfl rfl (Nat.le_of_ble_eq_true rfl) (fun r h' q => ?_)
  obtain ⟨rfl, rfl⟩ := q
  refine w_al (pc := 996) (a := 2) (by decide +kernel) rfl ?_
  refine w_arg (i := i) (pc := 997) (j := 1) rfl rfl (by omega) (by decide +kernel) hi hl ?_
  refine ev_V (as := [.int (ys.getD (i + 1) 0)]) (rest := [.int v]) kqL_1003 jX11_worthIn (zX11_worthIn e2) g2 rfl rfl (by decide) rfl rfl (Nat.le_of_ble_eq_true rfl) (fun r h' q => ?_)
  obtain ⟨rfl, rfl⟩ := q
  exact w_end (pc := 1006) (off := 857) (by decide +kernel) rfl (hk _ _ _ e3)
set_option maxRecDepth 100000 in
set_option maxHeartbeats 400000 in
theorem kqL_1024 : okC mL_law 1024 (.invokevirtual 130) 112 111 0 2 = true := by decide +kernel
set_option maxRecDepth 100000 in
set_option maxHeartbeats 400000 in
theorem kqL_1040 : okC mL_law 1040 (.invokevirtual 133) 255 272 0 2 = true := by decide +kernel
set_option maxRecDepth 100000 in
set_option maxHeartbeats 400000 in
theorem lw_27 (hR : Rl S T) (hi : i + 5 < ys.length) (hl : ys.length ≤ 3072) (hk : ∀ S' J' T', Rl S' T' → Ev 50 (some ys) mL_law b 23 (lX (i + 6)) [] (hp S' J' T') Q) : Ev 50 (some ys) mL_law b 1011 (lX i) [] (hp S J T) Q := by
  obtain ⟨v, S1, S2, J1, J2, T1, e1, e2, e3⟩ := q_fastsFor (J := J) hR (ys.getD (i + 1) 0) (ys.getD (i + 2) 0)
  obtain ⟨f1, g1⟩ := isO_ok (lt_isO (S := S) (J := J) (T := T))
  obtain ⟨f2, g2⟩ := isO_ok (mo_isO (S := S1) (J := J1) (T := T1))
  refine w_al (pc := 1011) (a := 1) (by decide +kernel) rfl ?_
  refine w_arg (i := i) (pc := 1012) (j := 1) rfl rfl (by omega) (by decide +kernel) hi hl ?_
  refine w_arg (i := i) (pc := 1018) (j := 2) rfl rfl (by omega) (by decide +kernel) hi hl ?_
  refine ev_V (as := [.int (ys.getD (i + 1) 0), .int (ys.getD (i + 2) 0)]) (rest := []) kqL_1024 jX10_fastsFor (zX10_fastsFor e1) g1 rfl rfl (by decide) rfl rfl (Nat.le_of_ble_eq_true rfl) (fun r h' q => ?_)
  obtain ⟨rfl, rfl⟩ := q
  refine w_al (pc := 1027) (a := 2) (by decide +kernel) rfl ?_
  refine w_arg (i := i) (pc := 1028) (j := 1) rfl rfl (by omega) (by decide +kernel) hi hl ?_
  refine w_arg (i := i) (pc := 1034) (j := 2) rfl rfl (by omega) (by decide +kernel) hi hl ?_
  refine ev_V (as := [.int (ys.getD (i + 1) 0), .int (ys.getD (i + 2) 0)]) (rest := [.int v]) kqL_1040 jX11_fastsFor (zX11_fastsFor e2) g2 rfl rfl (by decide) rfl rfl (Nat.le_of_ble_eq_true rfl) (fun r h' q => ?_)
  obtain ⟨rfl, rfl⟩ := q
  exact w_end (pc := 1043) (off := 820) (by decide +kernel) rfl (hk _ _ _ e3)
set_option maxRecDepth 100000 in
set_option maxHeartbeats 400000 in
theorem kqL_1061 : okC mL_law 1061 (.invokevirtual 134) 121 125 0 2 = true := by decide +kernel
set_option maxRecDepth 100000 in
set_option maxHeartbeats 400000 in
theorem kqL_1077 : okC mL_law 1077 (.invokevirtual 137) 260 277 0 2 = true := by decide +kernel
set_option maxRecDepth 100000 in
set_option maxHeartbeats 400000 in
theorem lw_28 (hR : Rl S T) (hi : i + 5 < ys.length) (hl : ys.length ≤ 3072) (hk : ∀ S' J' T', Rl S' T' → Ev 50 (some ys) mL_law b 23 (lX (i + 6)) [] (hp S' J' T') Q) : Ev 50 (some ys) mL_law b 1048 (lX i) [] (hp S J T) Q := by
  obtain ⟨v, S1, S2, J1, J2, T1, e1, e2, e3⟩ := q_fastsAt (J := J) hR (ys.getD (i + 1) 0) (ys.getD (i + 2) 0)
  obtain ⟨f1, g1⟩ := isO_ok (lt_isO (S := S) (J := J) (T := T))
  obtain ⟨f2, g2⟩ := isO_ok (mo_isO (S := S1) (J := J1) (T := T1))
  refine w_al (pc := 1048) (a := 1) (by decide +kernel) rfl ?_
  refine w_arg (i := i) (pc := 1049) (j := 1) rfl rfl (by omega) (by decide +kernel) hi hl ?_
  refine w_arg (i := i) (pc := 1055) (j := 2) rfl rfl (by omega) (by decide +kernel) hi hl ?_
  refine ev_V (as := [.int (ys.getD (i + 1) 0), .int (ys.getD (i + 2) 0)]) (rest := []) kqL_1061 jX10_fastsAt (zX10_fastsAt e1) g1 rfl rfl (by decide) rfl rfl (Nat.le_of_ble_eq_true rfl) (fun r h' q => ?_)
  obtain ⟨rfl, rfl⟩ := q
  refine w_al (pc := 1064) (a := 2) (by decide +kernel) rfl ?_
  refine w_arg (i := i) (pc := 1065) (j := 1) rfl rfl (by omega) (by decide +kernel) hi hl ?_
  refine w_arg (i := i) (pc := 1071) (j := 2) rfl rfl (by omega) (by decide +kernel) hi hl ?_
  refine ev_V (as := [.int (ys.getD (i + 1) 0), .int (ys.getD (i + 2) 0)]) (rest := [.int v]) kqL_1077 jX11_fastsAt (zX11_fastsAt e2) g2 rfl rfl (by decide) rfl rfl (Nat.le_of_ble_eq_true rfl) (fun r h' q => ?_)
  obtain ⟨rfl, rfl⟩ := q
  exact w_end (pc := 1080) (off := 783) (by decide +kernel) rfl (hk _ _ _ e3)
set_option maxRecDepth 100000 in
set_option maxHeartbeats 400000 in
theorem kqL_1086 : okC mL_law 1086 (.invokevirtual 138) 122 126 0 0 = true := by decide +kernel
set_option maxRecDepth 100000 in
set_option maxHeartbeats 400000 in
theorem kqL_1090 : okC mL_law 1090 (.invokevirtual 141) 261 278 0 0 = true := by decide +kernel
set_option maxRecDepth 100000 in
set_option maxHeartbeats 400000 in
theorem lw_29 (hR : Rl S T) (hi : i + 5 < ys.length) (hl : ys.length ≤ 3072) (hk : ∀ S' J' T', Rl S' T' → Ev 50 (some ys) mL_law b 23 (lX (i + 6)) [] (hp S' J' T') Q) : Ev 50 (some ys) mL_law b 1085 (lX i) [] (hp S J T) Q := by
  obtain ⟨v, S1, S2, J1, J2, T1, e1, e2, e3⟩ := q_bestFast (J := J) hR 
  obtain ⟨f1, g1⟩ := isO_ok (lt_isO (S := S) (J := J) (T := T))
  obtain ⟨f2, g2⟩ := isO_ok (mo_isO (S := S1) (J := J1) (T := T1))
  refine w_al (pc := 1085) (a := 1) (by decide +kernel) rfl ?_
  refine ev_V (as := []) (rest := []) kqL_1086 jX10_bestFast (zX10_bestFast e1) g1 rfl rfl (by decide) rfl rfl (Nat.le_of_ble_eq_true rfl) (fun r h' q => ?_)
  obtain ⟨rfl, rfl⟩ := q
  refine w_al (pc := 1089) (a := 2) (by decide +kernel) rfl ?_
  refine ev_V (as := []) (rest := [.int v]) kqL_1090 jX11_bestFast (zX11_bestFast e2) g2 rfl rfl (by decide) rfl rfl (Nat.le_of_ble_eq_true rfl) (fun r h' q => ?_)
  obtain ⟨rfl, rfl⟩ := q
  exact w_end (pc := 1093) (off := 770) (by decide +kernel) rfl (hk _ _ _ e3)
set_option maxRecDepth 100000 in
set_option maxHeartbeats 400000 in
theorem kqL_1099 : okC mL_law 1099 (.invokevirtual 142) 125 130 0 0 = true := by decide +kernel
set_option maxRecDepth 100000 in
set_option maxHeartbeats 400000 in
theorem kqL_1103 : okC mL_law 1103 (.invokevirtual 145) 263 280 0 0 = true := by decide +kernel
set_option maxRecDepth 100000 in
set_option maxHeartbeats 400000 in
theorem lw_30 (hR : Rl S T) (hi : i + 5 < ys.length) (hl : ys.length ≤ 3072) (hk : ∀ S' J' T', Rl S' T' → Ev 50 (some ys) mL_law b 23 (lX (i + 6)) [] (hp S' J' T') Q) : Ev 50 (some ys) mL_law b 1098 (lX i) [] (hp S J T) Q := by
  obtain ⟨v, S1, S2, J1, J2, T1, e1, e2, e3⟩ := q_bestWorth (J := J) hR 
  obtain ⟨f1, g1⟩ := isO_ok (lt_isO (S := S) (J := J) (T := T))
  obtain ⟨f2, g2⟩ := isO_ok (mo_isO (S := S1) (J := J1) (T := T1))
  refine w_al (pc := 1098) (a := 1) (by decide +kernel) rfl ?_
  refine ev_V (as := []) (rest := []) kqL_1099 jX10_bestWorth (zX10_bestWorth e1) g1 rfl rfl (by decide) rfl rfl (Nat.le_of_ble_eq_true rfl) (fun r h' q => ?_)
  obtain ⟨rfl, rfl⟩ := q
  refine w_al (pc := 1102) (a := 2) (by decide +kernel) rfl ?_
  refine ev_V (as := []) (rest := [.int v]) kqL_1103 jX11_bestWorth (zX11_bestWorth e2) g2 rfl rfl (by decide) rfl rfl (Nat.le_of_ble_eq_true rfl) (fun r h' q => ?_)
  obtain ⟨rfl, rfl⟩ := q
  exact w_end (pc := 1106) (off := 757) (by decide +kernel) rfl (hk _ _ _ e3)
set_option maxRecDepth 100000 in
set_option maxHeartbeats 400000 in
theorem kqL_1112 : okC mL_law 1112 (.invokevirtual 146) 126 131 0 0 = true := by decide +kernel
set_option maxRecDepth 100000 in
set_option maxHeartbeats 400000 in
theorem kqL_1116 : okC mL_law 1116 (.invokevirtual 149) 264 281 0 0 = true := by decide +kernel
set_option maxRecDepth 100000 in
set_option maxHeartbeats 400000 in
theorem lw_31 (hR : Rl S T) (hi : i + 5 < ys.length) (hl : ys.length ≤ 3072) (hk : ∀ S' J' T', Rl S' T' → Ev 50 (some ys) mL_law b 23 (lX (i + 6)) [] (hp S' J' T') Q) : Ev 50 (some ys) mL_law b 1111 (lX i) [] (hp S J T) Q := by
  obtain ⟨v, S1, S2, J1, J2, T1, e1, e2, e3⟩ := q_tables (J := J) hR 
  obtain ⟨f1, g1⟩ := isO_ok (lt_isO (S := S) (J := J) (T := T))
  obtain ⟨f2, g2⟩ := isO_ok (mo_isO (S := S1) (J := J1) (T := T1))
  refine w_al (pc := 1111) (a := 1) (by decide +kernel) rfl ?_
  refine ev_V (as := []) (rest := []) kqL_1112 jX10_tables (zX10_tables e1) g1 rfl rfl (by decide) rfl rfl (Nat.le_of_ble_eq_true rfl) (fun r h' q => ?_)
  obtain ⟨rfl, rfl⟩ := q
  refine w_al (pc := 1115) (a := 2) (by decide +kernel) rfl ?_
  refine ev_V (as := []) (rest := [.int v]) kqL_1116 jX11_tables (zX11_tables e2) g2 rfl rfl (by decide) rfl rfl (Nat.le_of_ble_eq_true rfl) (fun r h' q => ?_)
  obtain ⟨rfl, rfl⟩ := q
  exact w_end (pc := 1119) (off := 744) (by decide +kernel) rfl (hk _ _ _ e3)
set_option maxRecDepth 100000 in
set_option maxHeartbeats 400000 in
theorem kqL_1125 : okC mL_law 1125 (.invokevirtual 150) 131 137 0 0 = true := by decide +kernel
set_option maxRecDepth 100000 in
set_option maxHeartbeats 400000 in
theorem kqL_1129 : okC mL_law 1129 (.invokevirtual 153) 267 284 0 0 = true := by decide +kernel
set_option maxRecDepth 100000 in
set_option maxHeartbeats 400000 in
theorem lw_32 (hR : Rl S T) (hi : i + 5 < ys.length) (hl : ys.length ≤ 3072) (hk : ∀ S' J' T', Rl S' T' → Ev 50 (some ys) mL_law b 23 (lX (i + 6)) [] (hp S' J' T') Q) : Ev 50 (some ys) mL_law b 1124 (lX i) [] (hp S J T) Q := by
  obtain ⟨v, S1, S2, J1, J2, T1, e1, e2, e3⟩ := q_tablesWorth (J := J) hR 
  obtain ⟨f1, g1⟩ := isO_ok (lt_isO (S := S) (J := J) (T := T))
  obtain ⟨f2, g2⟩ := isO_ok (mo_isO (S := S1) (J := J1) (T := T1))
  refine w_al (pc := 1124) (a := 1) (by decide +kernel) rfl ?_
  refine ev_V (as := []) (rest := []) kqL_1125 jX10_tablesWorth (zX10_tablesWorth e1) g1 rfl rfl (by decide) rfl rfl (Nat.le_of_ble_eq_true rfl) (fun r h' q => ?_)
  obtain ⟨rfl, rfl⟩ := q
  refine w_al (pc := 1128) (a := 2) (by decide +kernel) rfl ?_
  refine ev_V (as := []) (rest := [.int v]) kqL_1129 jX11_tablesWorth (zX11_tablesWorth e2) g2 rfl rfl (by decide) rfl rfl (Nat.le_of_ble_eq_true rfl) (fun r h' q => ?_)
  obtain ⟨rfl, rfl⟩ := q
  exact w_end (pc := 1132) (off := 731) (by decide +kernel) rfl (hk _ _ _ e3)
set_option maxRecDepth 100000 in
set_option maxHeartbeats 400000 in
theorem kqL_1144 : okC mL_law 1144 (.invokevirtual 154) 132 138 0 1 = true := by decide +kernel
set_option maxRecDepth 100000 in
set_option maxHeartbeats 400000 in
theorem kqL_1154 : okC mL_law 1154 (.invokevirtual 157) 268 285 0 1 = true := by decide +kernel
set_option maxRecDepth 100000 in
set_option maxHeartbeats 400000 in
theorem lw_33 (hR : Rl S T) (hi : i + 5 < ys.length) (hl : ys.length ≤ 3072) (hk : ∀ S' J' T', Rl S' T' → Ev 50 (some ys) mL_law b 23 (lX (i + 6)) [] (hp S' J' T') Q) : Ev 50 (some ys) mL_law b 1137 (lX i) [] (hp S J T) Q := by
  obtain ⟨v, S1, S2, J1, J2, T1, e1, e2, e3⟩ := q_bowlFor (J := J) hR (ys.getD (i + 1) 0)
  obtain ⟨f1, g1⟩ := isO_ok (lt_isO (S := S) (J := J) (T := T))
  obtain ⟨f2, g2⟩ := isO_ok (mo_isO (S := S1) (J := J1) (T := T1))
  refine w_al (pc := 1137) (a := 1) (by decide +kernel) rfl ?_
  refine w_arg (i := i) (pc := 1138) (j := 1) rfl rfl (by omega) (by decide +kernel) hi hl ?_
  refine ev_V (as := [.int (ys.getD (i + 1) 0)]) (rest := []) kqL_1144 jX10_bowlFor (zX10_bowlFor e1) g1 rfl rfl (by decide) rfl rfl (Nat.le_of_ble_eq_true rfl) (fun r h' q => ?_)
  obtain ⟨rfl, rfl⟩ := q
  refine w_al (pc := 1147) (a := 2) (by decide +kernel) rfl ?_
  refine w_arg (i := i) (pc := 1148) (j := 1) rfl rfl (by omega) (by decide +kernel) hi hl ?_
  refine ev_V (as := [.int (ys.getD (i + 1) 0)]) (rest := [.int v]) kqL_1154 jX11_bowlFor (zX11_bowlFor e2) g2 rfl rfl (by decide) rfl rfl (Nat.le_of_ble_eq_true rfl) (fun r h' q => ?_)
  obtain ⟨rfl, rfl⟩ := q
  exact w_end (pc := 1157) (off := 706) (by decide +kernel) rfl (hk _ _ _ e3)
set_option maxRecDepth 100000 in
set_option maxHeartbeats 400000 in
theorem kqL_1163 : okC mL_law 1163 (.invokevirtual 158) 134 140 0 0 = true := by decide +kernel
set_option maxRecDepth 100000 in
set_option maxHeartbeats 400000 in
theorem kqL_1167 : okC mL_law 1167 (.invokevirtual 161) 269 286 0 0 = true := by decide +kernel
set_option maxRecDepth 100000 in
set_option maxHeartbeats 400000 in
theorem lw_34 (hR : Rl S T) (hi : i + 5 < ys.length) (hl : ys.length ≤ 3072) (hk : ∀ S' J' T', Rl S' T' → Ev 50 (some ys) mL_law b 23 (lX (i + 6)) [] (hp S' J' T') Q) : Ev 50 (some ys) mL_law b 1162 (lX i) [] (hp S J T) Q := by
  obtain ⟨v, S1, S2, J1, J2, T1, e1, e2, e3⟩ := q_fits (J := J) hR 
  obtain ⟨f1, g1⟩ := isO_ok (lt_isO (S := S) (J := J) (T := T))
  obtain ⟨f2, g2⟩ := isO_ok (mo_isO (S := S1) (J := J1) (T := T1))
  refine w_al (pc := 1162) (a := 1) (by decide +kernel) rfl ?_
  refine ev_V (as := []) (rest := []) kqL_1163 jX10_fits (zX10_fits e1) g1 rfl rfl (by decide) rfl rfl (Nat.le_of_ble_eq_true rfl) (fun r h' q => ?_)
  obtain ⟨rfl, rfl⟩ := q
  refine w_al (pc := 1166) (a := 2) (by decide +kernel) rfl ?_
  refine ev_V (as := []) (rest := [.int v]) kqL_1167 jX11_fits (zX11_fits e2) g2 rfl rfl (by decide) rfl rfl (Nat.le_of_ble_eq_true rfl) (fun r h' q => ?_)
  obtain ⟨rfl, rfl⟩ := q
  exact w_end (pc := 1170) (off := 693) (by decide +kernel) rfl (hk _ _ _ e3)
set_option maxRecDepth 100000 in
set_option maxHeartbeats 400000 in
theorem kqL_1182 : okC mL_law 1182 (.invokevirtual 162) 138 146 0 1 = true := by decide +kernel
set_option maxRecDepth 100000 in
set_option maxHeartbeats 400000 in
theorem kqL_1192 : okC mL_law 1192 (.invokevirtual 165) 272 289 0 1 = true := by decide +kernel
set_option maxRecDepth 100000 in
set_option maxHeartbeats 400000 in
theorem lw_35 (hR : Rl S T) (hi : i + 5 < ys.length) (hl : ys.length ≤ 3072) (hk : ∀ S' J' T', Rl S' T' → Ev 50 (some ys) mL_law b 23 (lX (i + 6)) [] (hp S' J' T') Q) : Ev 50 (some ys) mL_law b 1175 (lX i) [] (hp S J T) Q := by
  obtain ⟨v, S1, S2, J1, J2, T1, e1, e2, e3⟩ := q_fitAt (J := J) hR (ys.getD (i + 1) 0)
  obtain ⟨f1, g1⟩ := isO_ok (lt_isO (S := S) (J := J) (T := T))
  obtain ⟨f2, g2⟩ := isO_ok (mo_isO (S := S1) (J := J1) (T := T1))
  refine w_al (pc := 1175) (a := 1) (by decide +kernel) rfl ?_
  refine w_arg (i := i) (pc := 1176) (j := 1) rfl rfl (by omega) (by decide +kernel) hi hl ?_
  refine ev_V (as := [.int (ys.getD (i + 1) 0)]) (rest := []) kqL_1182 jX10_fitAt (zX10_fitAt e1) g1 rfl rfl (by decide) rfl rfl (Nat.le_of_ble_eq_true rfl) (fun r h' q => ?_)
  obtain ⟨rfl, rfl⟩ := q
  refine w_al (pc := 1185) (a := 2) (by decide +kernel) rfl ?_
  refine w_arg (i := i) (pc := 1186) (j := 1) rfl rfl (by omega) (by decide +kernel) hi hl ?_
  refine ev_V (as := [.int (ys.getD (i + 1) 0)]) (rest := [.int v]) kqL_1192 jX11_fitAt (zX11_fitAt e2) g2 rfl rfl (by decide) rfl rfl (Nat.le_of_ble_eq_true rfl) (fun r h' q => ?_)
  obtain ⟨rfl, rfl⟩ := q
  exact w_end (pc := 1195) (off := 668) (by decide +kernel) rfl (hk _ _ _ e3)
set_option maxRecDepth 100000 in
set_option maxHeartbeats 400000 in
theorem kqL_1201 : okC mL_law 1201 (.invokevirtual 166) 141 149 0 0 = true := by decide +kernel
set_option maxRecDepth 100000 in
set_option maxHeartbeats 400000 in
theorem kqL_1205 : okC mL_law 1205 (.invokevirtual 169) 273 290 0 0 = true := by decide +kernel
set_option maxRecDepth 100000 in
set_option maxHeartbeats 400000 in
theorem lw_36 (hR : Rl S T) (hi : i + 5 < ys.length) (hl : ys.length ≤ 3072) (hk : ∀ S' J' T', Rl S' T' → Ev 50 (some ys) mL_law b 23 (lX (i + 6)) [] (hp S' J' T') Q) : Ev 50 (some ys) mL_law b 1200 (lX i) [] (hp S J T) Q := by
  obtain ⟨v, S1, S2, J1, J2, T1, e1, e2, e3⟩ := q_could (J := J) hR 
  obtain ⟨f1, g1⟩ := isO_ok (lt_isO (S := S) (J := J) (T := T))
  obtain ⟨f2, g2⟩ := isO_ok (mo_isO (S := S1) (J := J1) (T := T1))
  refine w_al (pc := 1200) (a := 1) (by decide +kernel) rfl ?_
  refine ev_V (as := []) (rest := []) kqL_1201 jX10_could (zX10_could e1) g1 rfl rfl (by decide) rfl rfl (Nat.le_of_ble_eq_true rfl) (fun r h' q => ?_)
  obtain ⟨rfl, rfl⟩ := q
  refine w_al (pc := 1204) (a := 2) (by decide +kernel) rfl ?_
  refine ev_V (as := []) (rest := [.int v]) kqL_1205 jX11_could (zX11_could e2) g2 rfl rfl (by decide) rfl rfl (Nat.le_of_ble_eq_true rfl) (fun r h' q => ?_)
  obtain ⟨rfl, rfl⟩ := q
  exact w_end (pc := 1208) (off := 655) (by decide +kernel) rfl (hk _ _ _ e3)
set_option maxRecDepth 100000 in
set_option maxHeartbeats 400000 in
theorem kqL_1214 : okC mL_law 1214 (.invokevirtual 170) 142 150 0 0 = true := by decide +kernel
set_option maxRecDepth 100000 in
set_option maxHeartbeats 400000 in
theorem kqL_1218 : okC mL_law 1218 (.invokevirtual 173) 274 291 0 0 = true := by decide +kernel
set_option maxRecDepth 100000 in
set_option maxHeartbeats 400000 in
theorem lw_37 (hR : Rl S T) (hi : i + 5 < ys.length) (hl : ys.length ≤ 3072) (hk : ∀ S' J' T', Rl S' T' → Ev 50 (some ys) mL_law b 23 (lX (i + 6)) [] (hp S' J' T') Q) : Ev 50 (some ys) mL_law b 1213 (lX i) [] (hp S J T) Q := by
  obtain ⟨v, S1, S2, J1, J2, T1, e1, e2, e3⟩ := q_surely (J := J) hR 
  obtain ⟨f1, g1⟩ := isO_ok (lt_isO (S := S) (J := J) (T := T))
  obtain ⟨f2, g2⟩ := isO_ok (mo_isO (S := S1) (J := J1) (T := T1))
  refine w_al (pc := 1213) (a := 1) (by decide +kernel) rfl ?_
  refine ev_V (as := []) (rest := []) kqL_1214 jX10_surely (zX10_surely e1) g1 rfl rfl (by decide) rfl rfl (Nat.le_of_ble_eq_true rfl) (fun r h' q => ?_)
  obtain ⟨rfl, rfl⟩ := q
  refine w_al (pc := 1217) (a := 2) (by decide +kernel) rfl ?_
  refine ev_V (as := []) (rest := [.int v]) kqL_1218 jX11_surely (zX11_surely e2) g2 rfl rfl (by decide) rfl rfl (Nat.le_of_ble_eq_true rfl) (fun r h' q => ?_)
  obtain ⟨rfl, rfl⟩ := q
  exact w_end (pc := 1221) (off := 642) (by decide +kernel) rfl (hk _ _ _ e3)
set_option maxRecDepth 100000 in
set_option maxHeartbeats 400000 in
theorem kqL_1227 : okC mL_law 1227 (.invokevirtual 174) 143 151 0 0 = true := by decide +kernel
set_option maxRecDepth 100000 in
set_option maxHeartbeats 400000 in
theorem kqL_1231 : okC mL_law 1231 (.invokevirtual 177) 275 292 0 0 = true := by decide +kernel
set_option maxRecDepth 100000 in
set_option maxHeartbeats 400000 in
theorem lw_38 (hR : Rl S T) (hi : i + 5 < ys.length) (hl : ys.length ≤ 3072) (hk : ∀ S' J' T', Rl S' T' → Ev 50 (some ys) mL_law b 23 (lX (i + 6)) [] (hp S' J' T') Q) : Ev 50 (some ys) mL_law b 1226 (lX i) [] (hp S J T) Q := by
  obtain ⟨v, S1, S2, J1, J2, T1, e1, e2, e3⟩ := q_ask (J := J) hR 
  obtain ⟨f1, g1⟩ := isO_ok (lt_isO (S := S) (J := J) (T := T))
  obtain ⟨f2, g2⟩ := isO_ok (mo_isO (S := S1) (J := J1) (T := T1))
  refine w_al (pc := 1226) (a := 1) (by decide +kernel) rfl ?_
  refine ev_V (as := []) (rest := []) kqL_1227 jX10_ask (zX10_ask e1) g1 rfl rfl (by decide) rfl rfl (Nat.le_of_ble_eq_true rfl) (fun r h' q => ?_)
  obtain ⟨rfl, rfl⟩ := q
  refine w_al (pc := 1230) (a := 2) (by decide +kernel) rfl ?_
  refine ev_V (as := []) (rest := [.int v]) kqL_1231 jX11_ask (zX11_ask e2) g2 rfl rfl (by decide) rfl rfl (Nat.le_of_ble_eq_true rfl) (fun r h' q => ?_)
  obtain ⟨rfl, rfl⟩ := q
  exact w_end (pc := 1234) (off := 629) (by decide +kernel) rfl (hk _ _ _ e3)
set_option maxRecDepth 100000 in
set_option maxHeartbeats 400000 in
theorem kqL_1240 : okC mL_law 1240 (.invokevirtual 178) 146 154 0 0 = true := by decide +kernel
set_option maxRecDepth 100000 in
set_option maxHeartbeats 400000 in
theorem kqL_1244 : okC mL_law 1244 (.invokevirtual 181) 278 295 0 0 = true := by decide +kernel
set_option maxRecDepth 100000 in
set_option maxHeartbeats 400000 in
theorem lw_39 (hR : Rl S T) (hi : i + 5 < ys.length) (hl : ys.length ≤ 3072) (hk : ∀ S' J' T', Rl S' T' → Ev 50 (some ys) mL_law b 23 (lX (i + 6)) [] (hp S' J' T') Q) : Ev 50 (some ys) mL_law b 1239 (lX i) [] (hp S J T) Q := by
  obtain ⟨v, S1, S2, J1, J2, T1, e1, e2, e3⟩ := q_askLeaves (J := J) hR 
  obtain ⟨f1, g1⟩ := isO_ok (lt_isO (S := S) (J := J) (T := T))
  obtain ⟨f2, g2⟩ := isO_ok (mo_isO (S := S1) (J := J1) (T := T1))
  refine w_al (pc := 1239) (a := 1) (by decide +kernel) rfl ?_
  refine ev_V (as := []) (rest := []) kqL_1240 jX10_askLeaves (zX10_askLeaves e1) g1 rfl rfl (by decide) rfl rfl (Nat.le_of_ble_eq_true rfl) (fun r h' q => ?_)
  obtain ⟨rfl, rfl⟩ := q
  refine w_al (pc := 1243) (a := 2) (by decide +kernel) rfl ?_
  refine ev_V (as := []) (rest := [.int v]) kqL_1244 jX11_askLeaves (zX11_askLeaves e2) g2 rfl rfl (by decide) rfl rfl (Nat.le_of_ble_eq_true rfl) (fun r h' q => ?_)
  obtain ⟨rfl, rfl⟩ := q
  exact w_end (pc := 1247) (off := 616) (by decide +kernel) rfl (hk _ _ _ e3)
end LWC
