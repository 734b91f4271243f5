-- THE WHOLE: from the law's first place to its loop
set_option maxRecDepth 100000 in
set_option maxRecDepth 100000 in
set_option maxHeartbeats 400000 in
theorem lenA : hA.length = 167 := by decide +kernel
set_option maxRecDepth 100000 in
set_option maxRecDepth 100000 in
set_option maxHeartbeats 400000 in
theorem lenB : hB.length = 181 := by decide +kernel
def xA (u v w : Value) : List Value := [.ref XB, u, v, w, .null, .null, .null]
set_option maxRecDepth 100000 in
set_option maxRecDepth 100000 in
set_option maxHeartbeats 400000 in
theorem wf0 : wfS (xA .null .null .null) [] [] = true := by decide +kernel
set_option maxRecDepth 100000 in
set_option maxRecDepth 100000 in
set_option maxHeartbeats 400000 in
theorem wf1 : wfS (xA .null .null .null) [.ref 0] h1A = true := by decide +kernel
set_option maxRecDepth 100000 in
set_option maxRecDepth 100000 in
set_option maxHeartbeats 400000 in
theorem wf2 : wfS (xA (.ref 0) .null .null) [] hA = true := by decide +kernel
set_option maxRecDepth 100000 in
set_option maxRecDepth 100000 in
set_option maxHeartbeats 400000 in
theorem wf3 : wfS (xA (.ref 0) .null .null) [.ref 167] h1B = true := by decide +kernel
set_option maxRecDepth 100000 in
set_option maxRecDepth 100000 in
set_option maxHeartbeats 400000 in
theorem wf4 : wfS (xA (.ref 0) (.ref 167) .null) [] hB = true := by decide +kernel
set_option maxRecDepth 100000 in
set_option maxHeartbeats 400000 in
theorem g0 : ckG mL_law 0 (.new 8) 8 0 10 13 = true := by decide +kernel
set_option maxRecDepth 100000 in
set_option maxHeartbeats 400000 in
theorem g8 : ckG mL_law 8 (.new 16) 16 21 11 44 = true := by decide +kernel
set_option maxRecDepth 100000 in
set_option maxHeartbeats 400000 in
theorem q4 : okC mL_law 4 (.invokespecial 15) 0 0 2 0 = true := by decide +kernel
set_option maxRecDepth 100000 in
set_option maxHeartbeats 400000 in
theorem q12 : okC mL_law 12 (.invokespecial 18) 177 192 2 0 = true := by decide +kernel
set_option maxRecDepth 100000 in
set_option maxHeartbeats 400000 in
theorem dz3 : decode code 3 = .ok (.dup, 1) := by decide +kernel
set_option maxRecDepth 100000 in
set_option maxHeartbeats 400000 in
theorem dz7 : decode code 7 = .ok (.astore_n 1, 1) := by decide +kernel
set_option maxRecDepth 100000 in
set_option maxHeartbeats 400000 in
theorem dz11 : decode code 11 = .ok (.dup, 1) := by decide +kernel
set_option maxRecDepth 100000 in
set_option maxHeartbeats 400000 in
theorem dz15 : decode code 15 = .ok (.astore_n 2, 1) := by decide +kernel
set_option maxRecDepth 100000 in
set_option maxHeartbeats 400000 in
theorem dz16 : decode code 16 = .ok (.iconst 1, 1) := by decide +kernel
set_option maxRecDepth 100000 in
set_option maxHeartbeats 400000 in
theorem dz17 : decode code 17 = .ok (.newarray .long, 2) := by decide +kernel
set_option maxRecDepth 100000 in
set_option maxHeartbeats 400000 in
theorem dz19 : decode code 19 = .ok (.astore_n 3, 1) := by decide +kernel
set_option maxRecDepth 100000 in
set_option maxHeartbeats 400000 in
theorem dz20 : decode code 20 = .ok (.iconst 0, 1) := by decide +kernel
set_option maxRecDepth 100000 in
set_option maxHeartbeats 400000 in
theorem dz21 : decode code 21 = .ok (.istore 4, 2) := by decide +kernel
set_option maxRecDepth 100000 in
set_option maxHeartbeats 400000 in
theorem ctA : CT 49 mX10_init (166, 1815) [.ref 0] h1A (QE hA) := ct_ev (by decide) (by decide) (fun r h' w => by obtain ⟨rfl, rfl⟩ := w; rfl) (ex_ok (d := 43) 700 5 10 0 _ [] h1A (hA, 166, 1815) (0, mX10_init, cdX10_init) rfl exA)
set_option maxRecDepth 100000 in
set_option maxHeartbeats 400000 in
theorem ctB : CT 49 mX11_init (13, 1604) [.ref 167] h1B (QE hB) := ct_ev (by decide) (by decide) (fun r h' w => by obtain ⟨rfl, rfl⟩ := w; rfl) (ex_ok (d := 43) 700 5 11 0 _ [] h1B (hB, 13, 1604) (177, mX11_init, cdX11_init) rfl exB)
set_option maxRecDepth 100000 in
set_option maxHeartbeats 400000 in
theorem ev_whole (ys : List Int32) (hl : ys.length ≤ 3072) : Ev 50 (some ys) mL_law (601024, 7293033) 0 [.ref XB, .null, .null, .null, .null, .null, .null] [] [] (fun r _ => r = some (.int 1)) := by
  refine ev_wk (b := (694, 6549)) (by decide) (by decide) ?_
  refine ev_new (b1 := 693) (b2 := 6536) (xs := xA .null .null .null) (fs := dfl 10 13) g0 rfl rfl wf0 ?_
  show Ev 50 (some ys) mL_law (693, 6536) 3 (xA .null .null .null) [.ref 0] h1A _
  refine s_k (i := .dup) (pc := 3) (0, 0, 0) (fun z => by cases z) dz3 rfl (fun k j rt q => ⟨rfl, q⟩) ?_
  refine ev_I (d := 49) (as := []) (rest := [.ref 0]) (b := (527, 4721)) (bc := (166, 1815)) q4 jX10_init ctA rfl rfl (by decide) rfl rfl (Nat.le_of_ble_eq_true rfl) wf1 (fun r h' w => ?_)
  obtain ⟨rfl, rfl⟩ := w
  show Ev 50 (some ys) mL_law (527, 4721) 7 (xA .null .null .null) [.ref 0] hA _
  refine s_k (i := .astore_n 1) (pc := 7) (xs' := xA (.ref 0) .null .null) (0, 0, 0) (fun z => by cases z) dz7 rfl (fun k j rt q => ⟨by decide, q⟩) ?_
  refine ev_new (pc := 8) (b1 := 526) (b2 := 4677) (fs := dfl 11 44) g8 rfl rfl wf2 ?_
  rw [lenA]
  show Ev 50 (some ys) mL_law (526, 4677) 11 (xA (.ref 0) .null .null) [.ref 167] h1B _
  refine s_k (i := .dup) (pc := 11) (0, 0, 0) (fun z => by cases z) dz11 rfl (fun k j rt q => ⟨rfl, q⟩) ?_
  refine ev_I (d := 49) (as := []) (rest := [.ref 167]) (b := (513, 3073)) (bc := (13, 1604)) q12 jX11_init ctB rfl rfl (by decide) rfl rfl (Nat.le_of_ble_eq_true rfl) wf3 (fun r h' w => ?_)
  obtain ⟨rfl, rfl⟩ := w
  show Ev 50 (some ys) mL_law (513, 3073) 15 (xA (.ref 0) .null .null) [.ref 167] hB _
  refine s_k (i := .astore_n 2) (pc := 15) (xs' := xA (.ref 0) (.ref 167) .null) (0, 0, 0) (fun z => by cases z) dz15 rfl (fun k j rt q => ⟨by decide, q⟩) ?_
  refine s_k (i := .iconst 1) (pc := 16) (0, 0, 0) (fun z => by cases z) dz16 rfl (fun k j rt q => q) ?_
  rw [kI_1]
  refine ev_newJ (N := 1) (pc := 17) (b1 := 512) (b2 := 3072) dz17 (by omega) wf4 ?_
  rw [lenB, exC]
  refine s_k (i := .astore_n 3) (pc := 19) (xs' := xA (.ref 0) (.ref 167) (.ref 181)) (0, 0, 0) (fun z => by cases z) dz19 rfl (fun k j rt q => ⟨by decide, q⟩) ?_
  refine s_k (i := .iconst 0) (pc := 20) (0, 0, 0) (fun z => by cases z) dz20 rfl (fun k j rt q => q) ?_
  rw [kI_0]
  refine s_k (i := .istore 4) (pc := 21) (xs' := lX 0) (0, 0, 0) (fun z => by cases z) dz21 rfl (fun k j rt q => ⟨by decide, q⟩) ?_
  exact lw_loop (fun h => rfl) hl 512 0 S0 J0 T0 Rl_s (Nat.zero_le _) (by omega)
set_option maxRecDepth 100000 in
set_option maxHeartbeats 400000 in
theorem whole_start {p : Program} {e : Env} {s : State} {m : MethodId} {below : List Frame} {meth : Method} {c : Code} (l : Launch) (hflags : l.flags = flags0) {b L : Nat} {xs : Nat → Int32} (hL : L ≤ 3072) (C0 : lw_At p s m meth c b L xs) : W p l e room_1 s m #[Value.ref b] below meth c s.heap [] 0 0 (lw_Z below #[Value.ref b] s) (entryFrame m ([Value.ref b] : List Value).toArray 7) :=
  start_ev ev_whole l hflags hL C0
