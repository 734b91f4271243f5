-- STRING CONSTANTS: the i-th of sT lies at SB + i, its bytes at VB + i
def stN (i : Nat) : Nat := (sT.getD i (0, 0, 0, 0)).2.2.1
def stL (i : Nat) : Nat := sLen.getD (stN i) 0
def stC (i k : Nat) : Int32 := (sByt.getD (stN i) []).getD k 0
set_option maxRecDepth 100000 in
set_option maxHeartbeats 4000000 in
theorem w_st_val : Cond.fieldLink "java/lang/String" 9 "java/lang/String" "value" "[B" ∈ gtbl := gt_of (i := 2037) (by decide +kernel) rfl
set_option maxRecDepth 100000 in
set_option maxHeartbeats 4000000 in
theorem w_st_cod : Cond.fieldLink "java/lang/String" 15 "java/lang/String" "code\x72" "B" ∈ gtbl := gt_of (i := 2038) (by decide +kernel) rfl
set_option maxRecDepth 100000 in
set_option maxHeartbeats 4000000 in
theorem w_st_cmp : Cond.fieldLink "java/lang/String" 38 "java/lang/String" "COMPACT_STRINGS" "Z" ∈ gtbl := gt_of (i := 646) (by decide +kernel) rfl
set_option maxRecDepth 100000 in
set_option maxHeartbeats 4000000 in
theorem w_st_sio : Cond.fieldLink "java/lang/String" 1053 "jdk/internal/util/Preconditions" "SIOOBE_FORMATTER" "Ljava/util/function/BiFunction;" ∈ gtbl := gt_of (i := 662) (by decide +kernel) rfl
set_option maxRecDepth 100000 in
set_option maxHeartbeats 4000000 in
theorem w_st_l1 : Cond.methodLink "java/lang/String" 335 yJ0_coder_7d493 ∈ gtbl := gt_of (i := 642) (by decide +kernel) rfl
set_option maxRecDepth 100000 in
set_option maxHeartbeats 4000000 in
theorem w_st_l2 : Cond.methodLink "java/lang/String" 492 yJ0_isLatin1_aae02 ∈ gtbl := gt_of (i := 652) (by decide +kernel) rfl
set_option maxRecDepth 100000 in
set_option maxHeartbeats 4000000 in
theorem w_st_l3 : Cond.methodLink "java/lang/String" 495 yJ1_charAt_3b067 ∈ gtbl := gt_of (i := 656) (by decide +kernel) rfl
set_option maxRecDepth 100000 in
set_option maxHeartbeats 4000000 in
theorem w_st_l4 : Cond.methodLink "java/lang/StringLatin1" 9 yJ0_checkIndex_df160 ∈ gtbl := gt_of (i := 659) (by decide +kernel) rfl
set_option maxRecDepth 100000 in
set_option maxHeartbeats 4000000 in
theorem w_st_l5 : Cond.methodLink "java/lang/String" 1059 yJ3_checkIndex_8e157 ∈ gtbl := gt_of (i := 664) (by decide +kernel) rfl
set_option maxRecDepth 100000 in
set_option maxHeartbeats 4000000 in
theorem sT_get {i : Nat} (hi : i < 34) : sT[i]? = some (sT.getD i (0, 0, 0, 0)) := by
  have hl : sT.length = 34 := rfl
  rw [List.getD_eq_getElem?_getD, List.getElem?_eq_getElem (by omega)]
  rfl
set_option maxRecDepth 100000 in
set_option maxHeartbeats 4000000 in
theorem st_ok : ∀ i, i < 34 → (stL i < 10 ∧ (sByt.getD (stN i) []).length = stL i ∧ ∀ b ∈ sByt.getD (stN i) [], b &&& 255 = b) := by decide +kernel
set_option maxRecDepth 100000 in
set_option maxHeartbeats 4000000 in
theorem getD_mem {l : List Int32} {k : Nat} (hk : k < l.length) : l.getD k 0 ∈ l := by
  rw [List.getD_eq_getElem?_getD, List.getElem?_eq_getElem hk]
  exact List.getElem_mem hk
section STR
variable {d : Nat} {X : Option (List Int32)} {M : Mt} {b : Nat × Nat} {pc : Nat} {xs rest : List Value} {h : aH} {Q : Option Value → aH → Prop} {i : Nat}
set_option maxRecDepth 100000 in
set_option maxHeartbeats 4000000 in
theorem sb_ad {ad0 ad : Nat → Nat} {n0 mc n k : Nat} (s3 : Ag ad0 n0 mc ad n) (hk : SB ≤ k) : ad k = ad0 k := s3.1 k (Or.inr hk)
set_option maxRecDepth 100000 in
set_option maxHeartbeats 4000000 in
theorem ev_sF (hi : i < 34) (hM : M.2.1.cls = "java/lang/String") (hd : decode M.2.2.1 pc = .ok (.getfield 9, 3)) (k : Ev d X M b (pc + 3) xs (.ref (VB + i) :: rest) h Q) : Ev d X M b pc xs (.ref (SB + i) :: rest) h Q := by
  intro p l e R s m args below meth c D dA A mc ms ad0 n0 Z F C ad H locs cells slots ls S
  obtain ⟨hx, hb, hml, hown, hts, hA, hK, hXF, -⟩ := id F
  obtain ⟨-, -, s3, -, -, hS, -⟩ := id S
  obtain ⟨-, -, -, hv, -⟩ := hXF.2.1 i _ (sT_get hi)
  have e1 : ad (SB + i) = ad0 (SB + i) := sb_ad s3 (Nat.le_add_right _ _)
  have e2 : ad (VB + i) = ad0 (VB + i) := sb_ad s3 (by unfold SB VB; omega)
  rw [hM] at hown
  exact vk_getf (q := ad (SB + i)) (v := .ref (ad (VB + i))) (rest := rest.map (rv ad)) hx hb (by rw [e1, e2]; exact hv) hS hown (hts _ w_st_val) (fun x hx => hx) hd (k p l e R s m args below meth c D dA A mc ms ad0 n0 Z F C ad H locs cells slots ls S)
set_option maxRecDepth 100000 in
set_option maxHeartbeats 4000000 in
theorem ev_sC (hi : i < 34) (hM : M.2.1.cls = "java/lang/String") (hd : decode M.2.2.1 pc = .ok (.getfield 15, 3)) (k : Ev d X M b (pc + 3) xs (.int 0 :: rest) h Q) : Ev d X M b pc xs (.ref (SB + i) :: rest) h Q := by
  intro p l e R s m args below meth c D dA A mc ms ad0 n0 Z F C ad H locs cells slots ls S
  obtain ⟨hx, hb, hml, hown, hts, hA, hK, hXF, -⟩ := id F
  obtain ⟨-, -, s3, -, -, hS, -⟩ := id S
  obtain ⟨-, -, hv, -⟩ := hXF.2.1 i _ (sT_get hi)
  have e1 : ad (SB + i) = ad0 (SB + i) := sb_ad s3 (Nat.le_add_right _ _)
  rw [hM] at hown
  exact vk_getf (q := ad (SB + i)) (v := .int 0) (rest := rest.map (rv ad)) hx hb (by rw [e1]; exact hv) hS hown (hts _ w_st_cod) (fun x hx => hx) hd (k p l e R s m args below meth c D dA A mc ms ad0 n0 Z F C ad H locs cells slots ls S)
set_option maxRecDepth 100000 in
set_option maxHeartbeats 4000000 in
theorem ev_sZ (hM : M.2.1.cls = "java/lang/String") (hd : decode M.2.2.1 pc = .ok (.getstatic 38, 3)) (k : Ev d X M b (pc + 3) xs (.int 1 :: rest) h Q) : Ev d X M b pc xs rest h Q := by
  intro p l e R s m args below meth c D dA A mc ms ad0 n0 Z F C ad H locs cells slots ls S
  obtain ⟨hx, hb, hml, hown, hts, hA, hK, hXF, -⟩ := id F
  obtain ⟨-, -, s3, -, -, hS, -⟩ := id S
  rw [hM] at hown
  exact va_gets (v := .int 1) (rest := rest.map (rv ad)) hx hb hXF.2.2.1 hS hown (hts _ w_st_cmp) (fun x hx => hx) hd (k p l e R s m args below meth c D dA A mc ms ad0 n0 Z F C ad H locs cells slots ls S)
set_option maxRecDepth 100000 in
set_option maxHeartbeats 4000000 in
theorem ev_sQ (hM : M.2.1.cls = "java/lang/String") (hd : decode M.2.2.1 pc = .ok (.getstatic 1053, 3)) (k0 : Ev d X M b (pc + 3) xs (.null :: rest) h Q) (k1 : Ev d X M b (pc + 3) xs (.ref QB :: rest) h Q) : Ev d X M b pc xs rest h Q := by
  intro p l e R s m args below meth c D dA A mc ms ad0 n0 Z F C ad H locs cells slots ls S
  obtain ⟨hx, hb, hml, hown, hts, hA, hK, hXF, -⟩ := id F
  obtain ⟨-, -, s3, -, -, hS, -⟩ := id S
  rw [hM] at hown
  rcases hXF.2.2.2.1 with hz | hz
  · exact va_gets (v := .null) (rest := rest.map (rv ad)) hx hb hz hS hown (hts _ w_st_sio) (fun x hx => hx) hd (k0 p l e R s m args below meth c D dA A mc ms ad0 n0 Z F C ad H locs cells slots ls S)
  · rw [← sb_ad (k := QB) s3 (by unfold SB QB; omega)] at hz
    exact va_gets (v := .ref (ad QB)) (rest := rest.map (rv ad)) hx hb hz hS hown (hts _ w_st_sio) (fun x hx => hx) hd (k1 p l e R s m args below meth c D dA A mc ms ad0 n0 Z F C ad H locs cells slots ls S)
set_option maxRecDepth 100000 in
set_option maxHeartbeats 4000000 in
theorem ev_sL (hi : i < 34) (hd : decode M.2.2.1 pc = .ok (.arraylength, 1)) (k : Ev d X M b (pc + 1) xs (.int (nI (stL i)) :: rest) h Q) : Ev d X M b pc xs (.ref (VB + i) :: rest) h Q := by
  intro p l e R s m args below meth c D dA A mc ms ad0 n0 Z F C ad H locs cells slots ls S
  obtain ⟨hx, hb, hml, hown, hts, hA, hK, hXF, -⟩ := id F
  obtain ⟨-, -, s3, -, -, hS, -⟩ := id S
  obtain ⟨-, -, -, -, hv⟩ := hXF.2.1 i _ (sT_get hi)
  have e2 : ad (VB + i) = ad0 (VB + i) := sb_ad s3 (by unfold SB VB; omega)
  rw [← e2] at hv
  exact va_tlen (rest := rest.map (rv ad)) hx hb hv hS (v := nI (stL i)) rfl hd (k p l e R s m args below meth c D dA A mc ms ad0 n0 Z F C ad H locs cells slots ls S)
set_option maxRecDepth 100000 in
set_option maxHeartbeats 4000000 in
theorem ev_sB {n : Nat} (hi : i < 34) (hn : n < stL i) (hd : decode M.2.2.1 pc = .ok (.baload, 1)) (k : Ev d X M b (pc + 1) xs (.int (stC i n) :: rest) h Q) : Ev d X M b pc xs (.int (nI n) :: .ref (VB + i) :: rest) h Q := by
  intro p l e R s m args below meth c D dA A mc ms ad0 n0 Z F C ad H locs cells slots ls S
  obtain ⟨hx, hb, hml, hown, hts, hA, hK, hXF, -⟩ := id F
  obtain ⟨-, -, s3, -, -, hS, -⟩ := id S
  obtain ⟨-, -, -, -, hv⟩ := hXF.2.1 i _ (sT_get hi)
  have e2 : ad (VB + i) = ad0 (VB + i) := sb_ad s3 (by unfold SB VB; omega)
  have h10 := (st_ok i hi).1
  rw [← e2] at hv
  refine va_tb (rest := rest.map (rv ad)) hx hb hv hS (i := nI n) (show vp_in (nI n) (stL i) from in_lt hn (by omega)) (v := .int (stC i n)) ?_ hd (k p l e R s m args below meth c D dA A mc ms ad0 n0 Z F C ad H locs cells slots ls S)
  rw [cl_lt (by omega)]
  rfl
set_option maxRecDepth 100000 in
set_option maxHeartbeats 4000000 in
theorem ev_i2c {x v : Int32} (hd : decode M.2.2.1 pc = .ok (.i2c, 1)) (hv : (x.toUInt32 % 65536).toInt32 = v) (k : Ev d X M b (pc + 1) xs (.int v :: rest) h Q) : Ev d X M b pc xs (.int x :: rest) h Q := by
  intro p l e R s m args below meth c D dA A mc ms ad0 n0 Z F C ad H locs cells slots ls S
  obtain ⟨hx, hb, -⟩ := id F
  exact lv_i2c (rest := rest.map (rv ad)) hx hb hd hv (k p l e R s m args below meth c D dA A mc ms ad0 n0 Z F C ad H locs cells slots ls S)
-- a call of a member of String on a constant
set_option maxRecDepth 100000 in
set_option maxHeartbeats 4000000 in
theorem ev_VT {M' : Mt} {st : List Value} {Q' : Option Value → aH → Prop} {ix j n : Nat} {as : List Value}
    (hi : i < 34) (hcls : M'.2.1.cls = "java/lang/String") (hd : decode M.2.2.1 pc = .ok (.invokevirtual ix, 3)) (hj : MT[j]? = some M') (hl : Cond.methodLink M.2.1.cls ix M'.2.1 ∈ gtbl) (hm : ckM j 0 n = true) (hmx : M'.2.2.2.1 ≤ 20) (hct : CT d M' (0, 0) (.ref (SB + i) :: as) h Q') (hn : as.length = n) (hst : st = as.reverse ++ .ref (SB + i) :: rest) (hcat : (rest.map fun v => v.category).sum ≤ 8)
    (hk : ∀ r h', Q' r h' → Ev (d + 1) X M b (pc + 3) xs (r.toList ++ rest) h' Q) : Ev (d + 1) X M b pc xs st h Q := by
  intro p l e R s m args below meth c D dA A mc ms ad0 n0 Z F C ad H locs cells slots ls S
  obtain ⟨hx, hb, hml, hown, hts, hA, hK, hXF, hfr, hlo, hmc, hms, hnm, hXX⟩ := id F
  obtain ⟨s1, s2, s3, hP, hD, hS, hlx⟩ := id S
  have hF := va_sub (D := D) hD hS hA
  obtain ⟨-, hO, -⟩ := hXF.2.1 i _ (sT_get hi)
  rw [← sb_ad (k := SB + i) s3 (Nat.le_add_right _ _)] at hO
  obtain ⟨cell, g1, g2, g3, -⟩ := hO.kept hS.2.1
  obtain ⟨-, -, -, -, hv, -, -⟩ := ckM_of hm hj
  obtain ⟨hv1, hv2⟩ := hv rfl
  subst hst
  refine w_run (bc := (0, 0)) (rest0 := rest.map (rv ad)) (va_runV (As := as.map (rv ad)) (C := M'.2.1.cls) (b := ad (SB + i)) (n := n) ⟨hx, hb, hml, hown, hts⟩ (hct l D dA ad H.size) ⟨cb_w hts hj hl hm hmx hfr hlo, hts _ hv1, hts _ hv2⟩ ⟨PCc_blind _ _ _ _ _ _, ⟨cell, g1, g2, by rw [hcls]; exact g3⟩, pc_at (as := .ref (SB + i) :: as) hK hXF (fun k hk => s3.1 k (Or.inr hk)) hP hD hS hA⟩ rfl (by simpa using hn) hlx.1 (by simp [rv]) (lv_room (by rw [rv_cats]; exact hcat)) hd ⟨by show cells + 0 ≤ R.cells; omega, by show slots + 0 ≤ R.slots; omega⟩) hS hF ?_
  intro r h' ad' H1 locs1 hq' hag hP1 hD1 hS1
  have e : ad' = ad := hag.2.1 rfl
  subst e
  have := hk r h' hq' p l e R s m args below meth c D dA A mc ms ad0 n0 Z F C ad' H1 locs1 cells slots ls ⟨s1, s2, ⟨s3.1, s3.2.1, Nat.le_trans s3.2.2 hag.2.2⟩, hP1, hD1, hS1, hlx⟩
  rw [List.map_append] at this
  rw [show ((r.map (rv ad')).toList : List Value) = r.toList.map (rv ad') by cases r <;> rfl]
  exact this
set_option maxRecDepth 100000 in
set_option maxHeartbeats 4000000 in
theorem ev_ST {M' : Mt} {st : List Value} {Q' : Option Value → aH → Prop} {ix j n : Nat} {as : List Value}
    (hd : decode M.2.2.1 pc = .ok (.invokestatic ix, 3)) (hj : MT[j]? = some M') (hl : Cond.methodLink M.2.1.cls ix M'.2.1 ∈ gtbl) (hm : ckM j 1 n = true) (hmx : M'.2.2.2.1 ≤ 20) (hct : CT d M' (0, 0) as h Q') (hn : as.length = n) (hst : st = as.reverse ++ rest) (hcat : (rest.map fun v => v.category).sum ≤ 8)
    (hk : ∀ r h', Q' r h' → Ev (d + 1) X M b (pc + 3) xs (r.toList ++ rest) h' Q) : Ev (d + 1) X M b pc xs st h Q := by
  intro p l e R s m args below meth c D dA A mc ms ad0 n0 Z F C ad H locs cells slots ls S
  obtain ⟨hx, hb, hml, hown, hts, hA, hK, hXF, hfr, hlo, hmc, hms, hnm, hXX⟩ := id F
  obtain ⟨s1, s2, s3, hP, hD, hS, hlx⟩ := id S
  have hF := va_sub (D := D) hD hS hA
  obtain ⟨-, -, -, -, -, hv, -⟩ := ckM_of hm hj
  subst hst
  refine w_run (bc := (0, 0)) (rest0 := rest.map (rv ad)) (va_runS (As := as.map (rv ad)) (n := n) ⟨hx, hb, hml, hown, hts⟩ (hct l D dA ad H.size) ⟨cb_w hts hj hl hm hmx hfr hlo, hts _ (hv rfl)⟩ ⟨PCc_blind _ _ _ _ _ _, pc_at (as := as) hK hXF (fun k hk => s3.1 k (Or.inr hk)) hP hD hS hA⟩ rfl (by simpa using hn) hlx.1 (by simp) (lv_room (by rw [rv_cats]; exact hcat)) hd ⟨by show cells + 0 ≤ R.cells; omega, by show slots + 0 ≤ R.slots; omega⟩) hS hF ?_
  intro r h' ad' H1 locs1 hq' hag hP1 hD1 hS1
  have e : ad' = ad := hag.2.1 rfl
  subst e
  have := hk r h' hq' p l e R s m args below meth c D dA A mc ms ad0 n0 Z F C ad' H1 locs1 cells slots ls ⟨s1, s2, ⟨s3.1, s3.2.1, Nat.le_trans s3.2.2 hag.2.2⟩, hP1, hD1, hS1, hlx⟩
  rw [List.map_append] at this
  rw [show ((r.map (rv ad')).toList : List Value) = r.toList.map (rv ad') by cases r <;> rfl]
  exact this
-- plain blocks by hand
noncomputable def kE (X1 : List Value) (H1 : aH) (S1 : List Value) : KO Unit := fun xs h st => @ite (Option Unit) (xs = X1 ∧ h = H1 ∧ st = S1) (Classical.propDecidable _) (some ()) none
set_option maxRecDepth 100000 in
set_option maxHeartbeats 4000000 in
theorem kE_of {X1 xs : List Value} {H1 h : aH} {S1 st : List Value} (q : kE X1 H1 S1 xs h st = some ()) : xs = X1 ∧ h = H1 ∧ st = S1 := by
  unfold kE at q
  by_cases z : xs = X1 ∧ h = H1 ∧ st = S1
  · exact z
  · rw [if_neg z] at q; cases q
set_option maxRecDepth 100000 in
set_option maxHeartbeats 4000000 in
theorem kE_to {X1 : List Value} {H1 : aH} {S1 : List Value} : kE X1 H1 S1 X1 H1 S1 = some () := if_pos ⟨rfl, rfl, rfl⟩
set_option maxRecDepth 100000 in
set_option maxHeartbeats 4000000 in
theorem ev_go (np tt : Nat) (X1 S1 : List Value) {st : List Value} (blk : List En) (hf : blk.all (fun e => !isF e.1) = true) (hb : okB M pc np blk = true) (hc : blk.all (ckT M.2.2.2.1 tt) = true) (hq : go X blk (kE X1 h S1) (fun _ _ _ => none) (fun _ _ => none) xs h st = some ()) (k : Ev d X M b np X1 S1 h Q) : Ev d X M b pc xs st h Q :=
  go_ok (z := ()) (tt := tt) (fun xs h st q => by obtain ⟨rfl, rfl, rfl⟩ := kE_of q; exact k) (fun _ _ _ q => nos q) (fun _ _ q => nos q) (Or.inl hf) hb hc hq
set_option maxRecDepth 100000 in
set_option maxHeartbeats 4000000 in
theorem ev_gt (np tt : Nat) (X1 S1 : List Value) {st : List Value} (blk : List En) (hf : blk.all (fun e => !isF e.1) = true) (hb : okB M pc np blk = true) (hc : blk.all (ckT M.2.2.2.1 tt) = true) (hq : go X blk (fun _ _ _ => none) (kE X1 h S1) (fun _ _ => none) xs h st = some ()) (k : Ev d X M b tt X1 S1 h Q) : Ev d X M b pc xs st h Q :=
  go_ok (z := ()) (fun _ _ _ q => nos q) (fun xs h st q => by obtain ⟨rfl, rfl, rfl⟩ := kE_of q; exact k) (fun _ _ q => nos q) (Or.inl hf) hb hc hq
set_option maxRecDepth 100000 in
set_option maxHeartbeats 4000000 in
theorem ev_gi (np : Nat) {z : Int32} {st : List Value} (blk : List En) (hf : blk.all (fun e => !isF e.1) = true) (hb : okB M pc np blk = true) (hc : blk.all (ckT M.2.2.2.1 0) = true) (hq : go X blk (fun _ _ _ => none) (fun _ _ _ => none) kRI xs h st = some (z, h)) : Ev d X M b pc xs st h (QI (z, h)) :=
  go_ok (z := (z, h)) (tt := 0) (fun _ _ _ q => nos q) (fun _ _ _ q => nos q) kRI_ok (Or.inl hf) hb hc hq
end STR
set_option maxRecDepth 100000 in
set_option maxHeartbeats 4000000 in
theorem zJ0_coder {d : Nat} {h : aH} {i : Nat} (hi : i < 34) : CT d mJ0_coder_7d493 (0, 0) [.ref (SB + i)] h (QI (0, h)) := by
  refine ct_ev (by decide +kernel) (Nat.le_of_ble_eq_true rfl) (fun r h' q => by rw [q.1]; exact ⟨.byte, rfl, rfl⟩) ?_
  refine ev_sZ rfl (by decide +kernel) ?_
  refine ev_go 7 13 [.ref (SB + i)] [.ref (SB + i)] [(.ifCond .eq 10, 13, 0, 0), (.aload_n 0, 0, 0, 0)] (by decide) (by decide +kernel) (by decide) kE_to ?_
  refine ev_sC hi rfl (by decide +kernel) ?_
  refine ev_gt 13 14 [.ref (SB + i)] [.int 0] [(.goto 4, 14, 0, 0)] (by decide) (by decide +kernel) (by decide) kE_to ?_
  exact ev_gi 15 [(.ireturn, 0, 0, 0)] (by decide) (by decide +kernel) (by decide) rfl
set_option maxRecDepth 100000 in
set_option maxHeartbeats 4000000 in
theorem zJ0_isLatin1 {d : Nat} {h : aH} {i : Nat} (hi : i < 34) : CT d mJ0_isLatin1_aae02 (0, 0) [.ref (SB + i)] h (QI (1, h)) := by
  refine ct_ev (by decide +kernel) (Nat.le_of_ble_eq_true rfl) (fun r h' q => by rw [q.1]; show rOK (some .boolean) (some (.int 1)); exact ⟨.boolean, rfl, rfl⟩) ?_
  refine ev_sZ rfl (by decide +kernel) ?_
  refine ev_go 7 17 [.ref (SB + i)] [.ref (SB + i)] [(.ifCond .eq 14, 17, 0, 0), (.aload_n 0, 0, 0, 0)] (by decide) (by decide +kernel) (by decide) kE_to ?_
  refine ev_sC hi rfl (by decide +kernel) ?_
  refine ev_go 14 17 [.ref (SB + i)] [.int 1] [(.ifCond .ne 7, 17, 0, 0), (.iconst 1, 0, 0, 0)] (by decide) (by decide +kernel) (by decide) kE_to ?_
  refine ev_gt 17 18 [.ref (SB + i)] [.int 1] [(.goto 4, 18, 0, 0)] (by decide) (by decide +kernel) (by decide) kE_to ?_
  exact ev_gi 19 [(.ireturn, 0, 0, 0)] (by decide) (by decide +kernel) (by decide) rfl
set_option maxRecDepth 100000 in
set_option maxHeartbeats 4000000 in
theorem zJ0_length {d : Nat} {h : aH} {i : Nat} (hi : i < 34) : CT (d + 1) mJ0_length_8abf5 (0, 0) [.ref (SB + i)] h (QI (nI (stL i), h)) := by
  have h10 := (st_ok i hi).1
  refine ct_ev (by decide +kernel) (Nat.le_of_ble_eq_true rfl) (fun r h' q => by rw [q.1]; exact rI) ?_
  refine ev_go 1 0 [.ref (SB + i)] [.ref (SB + i)] [(.aload_n 0, 0, 0, 0)] (by decide) (by decide +kernel) (by decide) kE_to ?_
  refine ev_sF hi rfl (by decide +kernel) ?_
  refine ev_sL hi (by decide +kernel) ?_
  refine ev_go 6 0 [.ref (SB + i)] [.ref (SB + i), .int (nI (stL i))] [(.aload_n 0, 0, 0, 0)] (by decide) (by decide +kernel) (by decide) kE_to ?_
  refine ev_VT (as := []) (n := 0) (rest := [.int (nI (stL i))]) hi rfl (by decide +kernel) jJ0_coder_7d493 w_st_l1 (by decide +kernel) (by decide) (zJ0_coder hi) rfl rfl (Nat.le_of_ble_eq_true rfl) (fun r h' q => ?_)
  obtain ⟨rfl, rfl⟩ := q
  refine ev_gi 11 [(.ishr, 0, 0, 0), (.ireturn, 0, 0, 0)] (by decide) (by decide +kernel) (by decide) ?_
  show some (nI (stL i) >>> ((0 : Int32) &&& 31), _) = _
  rw [sc_shr0 (by omega)]
set_option maxRecDepth 100000 in
set_option maxHeartbeats 4000000 in
theorem zJ3_checkIndex {d : Nat} {h : aH} {k n : Nat} {v : Value} (hv : v = .null ∨ v = .ref QB) (hk : k < n) (hn : n < 5000) : CT d mJ3_checkIndex_8e157 (0, 0) [.int (nI k), .int (nI n), v] h (QI (nI k, h)) := by
  refine ct_ev (by decide +kernel) (by rcases hv with rfl | rfl <;> exact Nat.le_of_ble_eq_true rfl) (fun r h' q => by rw [q.1]; exact rI) ?_
  have e : eN [.int (nI k), .int (nI n), v] mJ3_checkIndex_8e157.2.2.2.1 = [.int (nI k), .int (nI n), v] := by rcases hv with rfl | rfl <;> rfl
  rw [e]
  refine ev_go 4 9 [.int (nI k), .int (nI n), v] [] [(.iload_n 0, 0, 0, 0), (.ifCond .lt 8, 9, 0, 0)] (by decide) (by decide +kernel) (by decide) ?_ ?_
  · show (if nI k < 0 then none else kE [.int (nI k), .int (nI n), v] h [] [.int (nI k), .int (nI n), v] h []) = some ()
    rw [if_neg (not0 (by omega))]
    exact kE_to
  refine ev_gt 9 16 [.int (nI k), .int (nI n), v] [] [(.iload_n 0, 0, 0, 0), (.iload_n 1, 0, 0, 0), (.if_icmp .lt 10, 16, 0, 0)] (by decide) (by decide +kernel) (by decide) ?_ ?_
  · show (if nI k < nI n then kE [.int (nI k), .int (nI n), v] h [] [.int (nI k), .int (nI n), v] h [] else none) = some ()
    rw [if_pos ((lt_iff (by omega) hn).mpr hk)]
    exact kE_to
  exact ev_gi 18 [(.iload_n 0, 0, 0, 0), (.ireturn, 0, 0, 0)] (by decide) (by decide +kernel) (by decide) rfl
set_option maxRecDepth 100000 in
set_option maxHeartbeats 4000000 in
theorem zJ0_checkIndex {d : Nat} {h : aH} {k n : Nat} (hk : k < n) (hn : n < 5000) : CT (d + 1) mJ0_checkIndex_df160 (0, 0) [.int (nI k), .int (nI n)] h (QV h) := by
  refine ct_ev (by decide +kernel) (Nat.le_of_ble_eq_true rfl) QV_r ?_
  refine ev_go 2 0 [.int (nI k), .int (nI n)] [.int (nI n), .int (nI k)] [(.iload_n 0, 0, 0, 0), (.iload_n 1, 0, 0, 0)] (by decide) (by decide +kernel) (by decide) kE_to ?_
  have go1 : ∀ v : Value, v = .null ∨ v = .ref QB → Ev (d + 1) none mJ0_checkIndex_df160 (0, 0) 5 [.int (nI k), .int (nI n)] [v, .int (nI n), .int (nI k)] h (QV h) := by
    intro v hv
    refine ev_ST (as := [.int (nI k), .int (nI n), v]) (n := 3) (rest := []) (by decide +kernel) jJ3_checkIndex_8e157 w_st_l5 (by decide +kernel) (by decide) (zJ3_checkIndex hv hk hn) rfl rfl (Nat.le_of_ble_eq_true rfl) (fun r h' q => ?_)
    obtain ⟨rfl, rfl⟩ := q
    exact go_ok (X := none) (blk := [(.pop, 0, 0, 0), (.return_, 0, 0, 0)]) (np := 10) (tt := 0) (kN := fun _ _ _ => none) (kT := fun _ _ _ => none) (kR := kRV) (fun _ _ _ q => nos q) (fun _ _ _ q => nos q) kRV_ok (Or.inl (by decide)) (by decide +kernel) (by decide) rfl
  exact ev_sQ rfl (by decide +kernel) (go1 _ (Or.inl rfl)) (go1 _ (Or.inr rfl))
set_option maxRecDepth 100000 in
set_option maxHeartbeats 4000000 in
theorem zJ1_charAt {d : Nat} {h : aH} {i k : Nat} (hi : i < 34) (hk : k < stL i) : CT (d + 2) mJ1_charAt_3b067 (0, 0) [.ref (VB + i), .int (nI k)] h (QI (stC i k, h)) := by
  obtain ⟨h10, hl, hb⟩ := st_ok i hi
  have hc : stC i k &&& 255 = stC i k := by
    refine hb _ ?_
    exact getD_mem (by omega)
  have hn : narrow .char (.int (stC i k)) = .int (stC i k) := by rw [← hc]; exact sc_nar _
  refine ct_ev (by decide +kernel) (Nat.le_of_ble_eq_true rfl) (fun r h' q => by rw [q.1]; exact ⟨.char, rfl, hn⟩) ?_
  refine ev_go 2 0 [.ref (VB + i), .int (nI k)] [.ref (VB + i), .int (nI k)] [(.iload_n 1, 0, 0, 0), (.aload_n 0, 0, 0, 0)] (by decide) (by decide +kernel) (by decide) kE_to ?_
  refine ev_sL hi (by decide +kernel) ?_
  refine ev_ST (as := [.int (nI k), .int (nI (stL i))]) (n := 2) (rest := []) (by decide +kernel) jJ0_checkIndex_df160 w_st_l4 (by decide +kernel) (by decide) (zJ0_checkIndex hk (by omega)) rfl rfl (Nat.le_of_ble_eq_true rfl) (fun r h' q => ?_)
  obtain ⟨rfl, rfl⟩ := q
  refine ev_go 8 0 [.ref (VB + i), .int (nI k)] [.int (nI k), .ref (VB + i)] [(.aload_n 0, 0, 0, 0), (.iload_n 1, 0, 0, 0)] (by decide) (by decide +kernel) (by decide) kE_to ?_
  refine ev_sB hi hk (by decide +kernel) ?_
  refine ev_go 13 0 [.ref (VB + i), .int (nI k)] [.int (stC i k &&& kS 255)] [(.sipush 255, 0, 0, 0), (.iand, 0, 0, 0)] (by decide) (by decide +kernel) (by decide) kE_to ?_
  refine ev_i2c (v := stC i k) (by decide +kernel) ?_ ?_
  · rw [show kS 255 = 255 by decide, sc_c2, hc]
  exact ev_gi 15 [(.ireturn, 0, 0, 0)] (by decide) (by decide +kernel) (by decide) rfl
set_option maxRecDepth 100000 in
set_option maxHeartbeats 4000000 in
theorem zJ0_charAt {d : Nat} {h : aH} {i k : Nat} (hi : i < 34) (hk : k < stL i) : CT (d + 3) mJ0_charAt_5068e (0, 0) [.ref (SB + i), .int (nI k)] h (QI (stC i k, h)) := by
  obtain ⟨h10, hl, hb⟩ := st_ok i hi
  have hc : stC i k &&& 255 = stC i k := by
    refine hb _ ?_
    exact getD_mem (by omega)
  have hn : narrow .char (.int (stC i k)) = .int (stC i k) := by rw [← hc]; exact sc_nar _
  refine ct_ev (by decide +kernel) (Nat.le_of_ble_eq_true rfl) (fun r h' q => by rw [q.1]; exact ⟨.char, rfl, hn⟩) ?_
  refine ev_go 1 0 [.ref (SB + i), .int (nI k)] [.ref (SB + i)] [(.aload_n 0, 0, 0, 0)] (by decide) (by decide +kernel) (by decide) kE_to ?_
  refine ev_VT (as := []) (n := 0) (rest := []) hi rfl (by decide +kernel) jJ0_isLatin1_aae02 w_st_l2 (by decide +kernel) (by decide) (zJ0_isLatin1 hi) rfl rfl (Nat.le_of_ble_eq_true rfl) (fun r h' q => ?_)
  obtain ⟨rfl, rfl⟩ := q
  refine ev_go 8 16 [.ref (SB + i), .int (nI k)] [.ref (SB + i)] [(.ifCond .eq 12, 16, 0, 0), (.aload_n 0, 0, 0, 0)] (by decide) (by decide +kernel) (by decide) kE_to ?_
  refine ev_sF hi rfl (by decide +kernel) ?_
  refine ev_go 12 0 [.ref (SB + i), .int (nI k)] [.int (nI k), .ref (VB + i)] [(.iload_n 1, 0, 0, 0)] (by decide) (by decide +kernel) (by decide) kE_to ?_
  refine ev_ST (as := [.ref (VB + i), .int (nI k)]) (n := 2) (rest := []) (by decide +kernel) jJ1_charAt_3b067 w_st_l3 (by decide +kernel) (by decide) (zJ1_charAt hi hk) rfl rfl (Nat.le_of_ble_eq_true rfl) (fun r h' q => ?_)
  obtain ⟨rfl, rfl⟩ := q
  exact ev_gi 16 [(.ireturn, 0, 0, 0)] (by decide) (by decide +kernel) (by decide) rfl
-- as functions
def gJ0_length_8abf5 (v0 : Nat) (h : aH) : Option (Int32 × aH) := if SB ≤ v0 ∧ v0 - SB < 34 then some (nI (stL (v0 - SB)), h) else none
def gJ0_charAt_5068e (v0 : Nat) (v1 : Int32) (h : aH) : Option (Int32 × aH) := if SB ≤ v0 ∧ v0 - SB < 34 ∧ v1.toNatClampNeg < stL (v0 - SB) ∧ v1 = nI v1.toNatClampNeg then some (stC (v0 - SB) v1.toNatClampNeg, h) else none
set_option maxRecDepth 100000 in
set_option maxHeartbeats 4000000 in
theorem zJ0_length_8abf5 {d : Nat} {z : Int32 × aH} {v0 : Nat} {h : aH} (q : gJ0_length_8abf5 v0 h = some z) : (∃ i, i < 34 ∧ v0 = SB + i) ∧ CT (d + 1) mJ0_length_8abf5 (0, 0) [.ref v0] h (QI z) := by
  unfold gJ0_length_8abf5 at q
  split at q
  · rename_i hc
    rw [← Option.some.inj q]
    have e : v0 = SB + (v0 - SB) := by omega
    refine ⟨⟨v0 - SB, hc.2, e⟩, ?_⟩
    have := zJ0_length (d := d) (h := h) hc.2
    rw [← e] at this
    exact this
  · exact nos q
set_option maxRecDepth 100000 in
set_option maxHeartbeats 4000000 in
theorem zJ0_charAt_5068e {d : Nat} {z : Int32 × aH} {v0 : Nat} {v1 : Int32} {h : aH} (q : gJ0_charAt_5068e v0 v1 h = some z) : (∃ i, i < 34 ∧ v0 = SB + i) ∧ CT (d + 3) mJ0_charAt_5068e (0, 0) [.ref v0, .int v1] h (QI z) := by
  unfold gJ0_charAt_5068e at q
  split at q
  · rename_i hc
    rw [← Option.some.inj q]
    have e : v0 = SB + (v0 - SB) := by omega
    refine ⟨⟨v0 - SB, hc.2.1, e⟩, ?_⟩
    have := zJ0_charAt (d := d) (h := h) hc.2.1 hc.2.2.1
    rw [← e, ← hc.2.2.2] at this
    exact this
  · exact nos q
set_option maxRecDepth 100000 in
set_option maxHeartbeats 4000000 in
theorem ev_VTc {d : Nat} {X : Option (List Int32)} {M : Mt} {b : Nat × Nat} {pc : Nat} {xs rest : List Value} {h : aH} {Q : Option Value → aH → Prop} {v : Nat} {M' : Mt} {st : List Value} {Q' : Option Value → aH → Prop} {ix j lj n : Nat} {as : List Value}
    (hc : okC M pc (.invokevirtual ix) j lj 0 n = true) (hj : MT[j]? = some M') (hct : (∃ i, i < 34 ∧ v = SB + i) ∧ CT d M' (0, 0) (.ref v :: as) h Q') (hcn : cN M.1 = M.2.1.cls) (hcls : M'.2.1.cls = "java/lang/String") (hmx : M'.2.2.2.1 ≤ 20) (hn : as.length = n) (hst : st = as.reverse ++ .ref v :: rest) (hcat : (rest.map fun v => v.category).sum ≤ 8)
    (hk : ∀ r h', Q' r h' → Ev (d + 1) X M b (pc + 3) xs (r.toList ++ rest) h' Q) : Ev (d + 1) X M b pc xs st h Q := by
  obtain ⟨⟨i, hi, rfl⟩, hct⟩ := hct
  unfold okC at hc
  simp only [Bool.and_eq_true, decide_eq_true_eq] at hc
  exact ev_VT hi hcls hc.1 hj (by rw [← hcn]; exact ckL_of hc.2.2 hj) hc.2.1 hmx hct hn hst hcat hk
-- the constants of Integer.bitCount
def ckI (M : Mt) (pc ix pl : Nat) (v : Int32) : Bool := (decide (decode M.2.2.1 pc = .ok (.ldc_w ix, 3))) && decide (lw_tbl[pl]? = some (.constant M.2.1.cls ix v))
set_option maxRecDepth 100000 in
set_option maxHeartbeats 4000000 in
theorem ev_ldcI {d : Nat} {X : Option (List Int32)} {M : Mt} {b : Nat × Nat} {pc : Nat} {xs rest : List Value} {h : aH} {Q : Option Value → aH → Prop} {ix pl : Nat} {v : Int32} (hc : ckI M pc ix pl v = true) (k : Ev d X M b (pc + 3) xs (.int v :: rest) h Q) : Ev d X M b pc xs rest h Q := by
  unfold ckI at hc
  simp only [Bool.and_eq_true, decide_eq_true_eq] at hc
  obtain ⟨hd, hc⟩ := hc
  intro p l e R s m args below meth c D dA A mc ms ad0 n0 Z F C ad H locs cells slots ls S
  obtain ⟨hx, hb, hml, hown, hts, -⟩ := id F
  exact lv_ldcw hx hb hown (hts _ (gt_of hc rfl)) hd (k p l e R s m args below meth c D dA A mc ms ad0 n0 Z F C ad H locs cells slots ls S)
