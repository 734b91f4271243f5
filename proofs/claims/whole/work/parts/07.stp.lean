def isF (i : Instr) : Bool := match i with
  | .getfield _ => true
  | .putfield _ => true
  | _ => false
section STP
variable {d : Nat} {X : Option (List Int32)} {M : Mt} {b : Nat × Nat} {pc : Nat} {xs st : List Value} {h : aH} {Q : Option Value → aH → Prop} {i : Instr} {r : Nat × Nat × Nat} {k : List Value → List Value → aH → Prop} {j : Nat → List Value → List Value → aH → Prop} {rt : Option Value → aH → Prop}
theorem fT_at {n o ix ci k pl : Nat} (h : fT[n]? = some (o, ix, ci, k, pl)) : ∃ (C : String) (T : u_T) (N : Nat), vwCl[ci]? = some (C, T, N) ∧ k < N ∧ Cond.fieldLink (cN o) ix (T k).1 (T k).2.1 (T k).2.2.1 ∈ gtbl ∧ (T k).1 = cN ci := by
  have h1 := List.all_eq_true.mp fT_ok _ (List.mem_of_getElem? h)
  unfold okf at h1
  dsimp only at h1
  split at h1
  · rename_i C T N hv
    simp only [Bool.and_eq_true, decide_eq_true_eq] at h1
    exact ⟨C, T, N, hv, h1.1.1, gt_of h1.1.2 rfl, h1.2⟩
  · cases h1
theorem ty_at (dA : Nat → ClassId) : (tyL dA)[0]? = some (dA 0, .int) ∧ (tyL dA)[1]? = some (dA 1, .byte) ∧ (tyL dA)[2]? = some (dA 2, .boolean) ∧ (tyL dA)[3]? = some (dA 3, .long) ∧ (tyL dA)[4]? = some (dA 4, .object RX7) := ⟨rfl, rfl, rfl, rfl, rfl⟩
set_option maxHeartbeats 4000000 in
theorem stp_ok (hcn : isF i = true → cN M.1 = M.2.1.cls) (hd : decode M.2.2.1 pc = .ok (i, lenI i)) (hok : okI M pc i r = true) (hs : stp M X i r xs st h k j rt) (hk : ∀ xs' st' h', k xs' st' h' → Ev d X M b (pc + lenI i) xs' st' h' Q) (hj : ∀ t xs' st' h', j t xs' st' h' → Ev d X M b t xs' st' h' Q) (hr : ∀ r h', rt r h' → Q r h') : Ev d X M b pc xs st h Q := by
  intro p l e R s m args below meth c D dA A mc ms ad0 n0 Z F C ad H locs cells slots ls S
  have nx : ∀ xs' st' h', k xs' st' h' → ∀ (H : Heap) (locs : List Loc) (ls : Array Slot), Sx s D dA A mc ms ad0 n0 M.2.2.2.1 ad H locs cells slots ls b xs' h' → W p l e R s m args below meth c H locs cells slots Z (F0 m (pc + lenI i) ls (st'.map (rv ad))) := fun xs' st' h' q H locs ls S => hk xs' st' h' q p l e R s m args below meth c D dA A mc ms ad0 n0 Z F C ad H locs cells slots ls S
  have jx : ∀ t xs' st' h', j t xs' st' h' → ∀ (H : Heap) (locs : List Loc) (ls : Array Slot), Sx s D dA A mc ms ad0 n0 M.2.2.2.1 ad H locs cells slots ls b xs' h' → W p l e R s m args below meth c H locs cells slots Z (F0 m t ls (st'.map (rv ad))) := fun t xs' st' h' q H locs ls S => hj t xs' st' h' q p l e R s m args below meth c D dA A mc ms ad0 n0 Z F C ad H locs cells slots ls S
  obtain ⟨hx, hb, hml, hown, hts, hA, hK, hXF, hfr, hlo, hmc, hms, hnm, hXX⟩ := id F
  obtain ⟨s1, s2, s3, hP, hD, hS, hl⟩ := id S
  have new : ∀ (h' : aH) (H' : Heap) (locs' : List Loc), h'.length = h.length → va_P D vwCl (wld dA ad h') H' → va_D A (wld dA ad h') → va_S A s.heap H' locs' → Sx s D dA A mc ms ad0 n0 M.2.2.2.1 ad H' locs' cells slots ls b xs h' := fun h' H' locs' e q1 q2 q3 => ⟨s1, s2, by rw [e]; exact s3, q1, q2, q3, hl⟩
  have stx : ∀ (ls' : Array Slot) (xs' : List Value), lvx ls' M.2.2.2.1 (xs'.map (rv ad)) → Sx s D dA A mc ms ad0 n0 M.2.2.2.1 ad H locs cells slots ls' b xs' h := fun ls' xs' q => ⟨s1, s2, s3, hP, hD, hS, q⟩
  cases i with
  | iadd =>
    obtain ⟨y, q, rfl, hs1⟩ := pI_of hs
    obtain ⟨x, q, rfl, hs2⟩ := pI_of hs1
    exact lv_iadd hx hb hd (nx _ _ _ hs2 H locs ls S)
  | isub =>
    obtain ⟨y, q, rfl, hs1⟩ := pI_of hs
    obtain ⟨x, q, rfl, hs2⟩ := pI_of hs1
    exact lv_isub hx hb hd (nx _ _ _ hs2 H locs ls S)
  | imul =>
    obtain ⟨y, q, rfl, hs1⟩ := pI_of hs
    obtain ⟨x, q, rfl, hs2⟩ := pI_of hs1
    exact lv_imul hx hb hd (nx _ _ _ hs2 H locs ls S)
  | iand =>
    obtain ⟨y, q, rfl, hs1⟩ := pI_of hs
    obtain ⟨x, q, rfl, hs2⟩ := pI_of hs1
    exact lv_iand hx hb hd (nx _ _ _ hs2 H locs ls S)
  | ior =>
    obtain ⟨y, q, rfl, hs1⟩ := pI_of hs
    obtain ⟨x, q, rfl, hs2⟩ := pI_of hs1
    exact lv_ior hx hb hd (nx _ _ _ hs2 H locs ls S)
  | ixor =>
    obtain ⟨y, q, rfl, hs1⟩ := pI_of hs
    obtain ⟨x, q, rfl, hs2⟩ := pI_of hs1
    exact lv_ixor hx hb hd (nx _ _ _ hs2 H locs ls S)
  | ishl =>
    obtain ⟨y, q, rfl, hs1⟩ := pI_of hs
    obtain ⟨x, q, rfl, hs2⟩ := pI_of hs1
    exact lv_ishl hx hb hd (nx _ _ _ hs2 H locs ls S)
  | ishr =>
    obtain ⟨y, q, rfl, hs1⟩ := pI_of hs
    obtain ⟨x, q, rfl, hs2⟩ := pI_of hs1
    exact lv_ishr hx hb hd (nx _ _ _ hs2 H locs ls S)
  | ladd =>
    obtain ⟨y, q, rfl, hs1⟩ := pL_of hs
    obtain ⟨x, q, rfl, hs2⟩ := pL_of hs1
    exact lv_ladd hx hb hd (nx _ _ _ hs2 H locs ls S)
  | lmul =>
    obtain ⟨y, q, rfl, hs1⟩ := pL_of hs
    obtain ⟨x, q, rfl, hs2⟩ := pL_of hs1
    exact lv_lmul hx hb hd (nx _ _ _ hs2 H locs ls S)
  | idiv =>
    obtain ⟨y, q, rfl, hs1⟩ := pI_of hs
    obtain ⟨x, q, rfl, hne, hs2⟩ := pI_of hs1
    exact lv_idiv hx hb hd hne (nx _ _ _ hs2 H locs ls S)
  | irem =>
    obtain ⟨y, q, rfl, hs1⟩ := pI_of hs
    obtain ⟨x, q, rfl, hne, hs2⟩ := pI_of hs1
    exact lv_irem hx hb hd hne (nx _ _ _ hs2 H locs ls S)
  | ldiv =>
    obtain ⟨y, q, rfl, hs1⟩ := pL_of hs
    obtain ⟨x, q, rfl, hne, hs2⟩ := pL_of hs1
    exact lv_ldiv hx hb hd hne (nx _ _ _ hs2 H locs ls S)
  | lrem =>
    obtain ⟨y, q, rfl, hs1⟩ := pL_of hs
    obtain ⟨x, q, rfl, hne, hs2⟩ := pL_of hs1
    exact lv_lrem hx hb hd hne (nx _ _ _ hs2 H locs ls S)
  | iushr =>
    obtain ⟨y, q, rfl, hs1⟩ := pI_of hs
    obtain ⟨x, q, rfl, hs2⟩ := pI_of hs1
    exact lv_iushr hx hb hd rfl (nx _ _ _ hs2 H locs ls S)
  | lcmp =>
    obtain ⟨y, q, rfl, hs1⟩ := pL_of hs
    obtain ⟨x, q, rfl, hs2⟩ := pL_of hs1
    exact W.lcmp hx hb hd (nx _ _ _ hs2 H locs ls S)
  | ineg =>
    obtain ⟨x, q, rfl, hs1⟩ := pI_of hs
    exact lv_ineg hx hb hd (nx _ _ _ hs1 H locs ls S)
  | i2l =>
    obtain ⟨x, q, rfl, hs1⟩ := pI_of hs
    exact lv_i2l hx hb hd rfl (nx _ _ _ hs1 H locs ls S)
  | i2b =>
    obtain ⟨x, q, rfl, hs1⟩ := pI_of hs
    exact lv_i2b hx hb hd rfl (nx _ _ _ hs1 H locs ls S)
  | iconst n => exact lv_iconst hx hb hd rfl (nx _ _ _ hs H locs ls S)
  | bipush n => exact lv_bipush hx hb hd rfl (nx _ _ _ hs H locs ls S)
  | sipush n => exact lv_sipush hx hb hd rfl (nx _ _ _ hs H locs ls S)
  | lconst n => exact lv_lconst hx hb hd rfl (nx _ _ _ hs H locs ls S)
  | iload_n a =>
    obtain ⟨x, hv, hs1⟩ := gI_of hs
    exact lv_iload_n hx hb hd rfl (lvx_get hl hv (fun z => by cases z)) (nx _ _ _ hs1 H locs ls S)
  | iload a =>
    obtain ⟨x, hv, hs1⟩ := gI_of hs
    exact lv_iload hx hb hd (lvx_get hl hv (fun z => by cases z)) (nx _ _ _ hs1 H locs ls S)
  | lload_n a =>
    obtain ⟨x, hv, hs1⟩ := gL_of hs
    exact lv_lload_n hx hb hd rfl (lvx_get hl hv (fun z => by cases z)) (nx _ _ _ hs1 H locs ls S)
  | lload a =>
    obtain ⟨x, hv, hs1⟩ := gL_of hs
    exact lv_lload hx hb hd (lvx_get hl hv (fun z => by cases z)) (nx _ _ _ hs1 H locs ls S)
  | aload_n a =>
    obtain ⟨x, hv, hs1⟩ := gR_of hs
    exact lv_aload_n hx hb hd rfl (lvx_get hl hv (fun z => by cases z)) (nx _ _ _ hs1 H locs ls S)
  | aload a =>
    obtain ⟨x, hv, hs1⟩ := gR_of hs
    exact lv_aload hx hb hd (lvx_get hl hv (fun z => by cases z)) (nx _ _ _ hs1 H locs ls S)
  | istore_n a =>
    obtain ⟨x, q, rfl, hn, hs1⟩ := pI_of hs
    exact lv_istore_n hx hb hd rfl hl hn rfl (fun ls' hl' => nx _ _ _ hs1 H locs ls' (stx ls' _ (by rw [← sto1_map]; exact lvx_sto1 hl')))
  | istore a =>
    obtain ⟨x, q, rfl, hn, hs1⟩ := pI_of hs
    exact lv_istore hx hb hd hl hn rfl (fun ls' hl' => nx _ _ _ hs1 H locs ls' (stx ls' _ (by rw [← sto1_map]; exact lvx_sto1 hl')))
  | astore_n a =>
    obtain ⟨x, q, rfl, hn, hs1⟩ := pR_of hs
    exact lv_astore_n hx hb hd rfl hl hn rfl (fun ls' hl' => nx _ _ _ hs1 H locs ls' (stx ls' _ (by rw [← sto1_map]; exact lvx_sto1 hl')))
  | astore a =>
    obtain ⟨x, q, rfl, hn, hs1⟩ := pR_of hs
    exact lv_astore hx hb hd hl hn rfl (fun ls' hl' => nx _ _ _ hs1 H locs ls' (stx ls' _ (by rw [← sto1_map]; exact lvx_sto1 hl')))
  | lstore_n a =>
    obtain ⟨x, q, rfl, hn, hs1⟩ := pL_of hs
    exact lv_lstore_n hx hb hd rfl hl hn rfl (fun ls' hl' => nx _ _ _ hs1 H locs ls' (stx ls' _ (by rw [← sto2_map]; exact lvx_sto2 hl')))
  | lstore a =>
    obtain ⟨x, q, rfl, hn, hs1⟩ := pL_of hs
    exact lv_lstore hx hb hd hl hn rfl (fun ls' hl' => nx _ _ _ hs1 H locs ls' (stx ls' _ (by rw [← sto2_map]; exact lvx_sto2 hl')))
  | iinc a n =>
    obtain ⟨x, hv, hn, hs1⟩ := gI_of hs
    have hm : (a, Value.int x) ∈ asl (xs.map (rv ad)) := asl_mem.mpr ⟨by rw [List.getElem?_map, hv]; rfl, fun z => by cases z⟩
    obtain ⟨k0, hk0⟩ := List.getElem?_of_mem hm
    exact lv_iinc hx hb hd hl hk0 rfl hn rfl (fun ls' hl' => nx _ _ _ hs1 H locs ls' (stx ls' _ (by rw [← sto1_map]; exact lvx_sto1 hl')))
  | dup =>
    obtain ⟨v, q, rfl, hc, hs1⟩ := pV_of hs
    exact lv_dup hx hb hd (by rw [rv_cat]; exact hc) (nx _ _ _ hs1 H locs ls S)
  | dup2 =>
    obtain ⟨v, q, rfl, hs1⟩ := pV_of hs
    obtain ⟨w, q, rfl, hc, hc2, hs2⟩ := pV_of hs1
    exact lv_dup2_11 hx hb hd (by rw [rv_cat]; exact hc) (by rw [rv_cat]; exact hc2) (nx _ _ _ hs2 H locs ls S)
  | pop =>
    obtain ⟨v, q, rfl, hc, hs1⟩ := pV_of hs
    exact lv_pop hx hb hd (by rw [rv_cat]; exact hc) (nx _ _ _ hs1 H locs ls S)
  | goto off => exact lv_goto hx hb hd (of_decide_eq_true hok) (jx _ _ _ _ hs H locs ls S)
  | ifCond cd off =>
    cases cd with
    | eq =>
      obtain ⟨x, q, rfl, hs1⟩ := pI_of hs
      exact lv_if_eq hx hb hd (of_decide_eq_true hok) (fun z => jx _ _ _ _ (hs1.1 z) H locs ls S) (fun z => nx _ _ _ (hs1.2 z) H locs ls S)
    | ne =>
      obtain ⟨x, q, rfl, hs1⟩ := pI_of hs
      exact lv_if_ne hx hb hd (of_decide_eq_true hok) (fun z => jx _ _ _ _ (hs1.2 z) H locs ls S) (fun z => nx _ _ _ (hs1.1 z) H locs ls S)
    | lt =>
      obtain ⟨x, q, rfl, hs1⟩ := pI_of hs
      exact lv_if_lt hx hb hd (of_decide_eq_true hok) (fun z => jx _ _ _ _ (hs1.1 z) H locs ls S) (fun z => nx _ _ _ (hs1.2 z) H locs ls S)
    | ge =>
      obtain ⟨x, q, rfl, hs1⟩ := pI_of hs
      exact lv_if_ge hx hb hd (of_decide_eq_true hok) (fun z => jx _ _ _ _ (hs1.2 (Int32.not_lt.mpr z)) H locs ls S) (fun z => nx _ _ _ (hs1.1 (Int32.not_le.mp z)) H locs ls S)
    | gt =>
      obtain ⟨x, q, rfl, hs1⟩ := pI_of hs
      exact lv_if_gt hx hb hd (of_decide_eq_true hok) (fun z => jx _ _ _ _ (hs1.1 z) H locs ls S) (fun z => nx _ _ _ (hs1.2 z) H locs ls S)
    | le =>
      obtain ⟨x, q, rfl, hs1⟩ := pI_of hs
      exact lv_if_le hx hb hd (of_decide_eq_true hok) (fun z => jx _ _ _ _ (hs1.2 (Int32.not_lt.mpr z)) H locs ls S) (fun z => nx _ _ _ (hs1.1 (Int32.not_le.mp z)) H locs ls S)
  | if_icmp cd off =>
    cases cd with
    | eq =>
      obtain ⟨y, q, rfl, hs1⟩ := pI_of hs
      obtain ⟨x, q, rfl, hs2⟩ := pI_of hs1
      exact lv_icmp_eq hx hb hd (of_decide_eq_true hok) (fun z => jx _ _ _ _ (hs2.1 z) H locs ls S) (fun z => nx _ _ _ (hs2.2 z) H locs ls S)
    | ne =>
      obtain ⟨y, q, rfl, hs1⟩ := pI_of hs
      obtain ⟨x, q, rfl, hs2⟩ := pI_of hs1
      exact lv_icmp_ne hx hb hd (of_decide_eq_true hok) (fun z => jx _ _ _ _ (hs2.2 z) H locs ls S) (fun z => nx _ _ _ (hs2.1 z) H locs ls S)
    | lt =>
      obtain ⟨y, q, rfl, hs1⟩ := pI_of hs
      obtain ⟨x, q, rfl, hs2⟩ := pI_of hs1
      exact lv_icmp_lt hx hb hd (of_decide_eq_true hok) (fun z => jx _ _ _ _ (hs2.1 z) H locs ls S) (fun z => nx _ _ _ (hs2.2 z) H locs ls S)
    | ge =>
      obtain ⟨y, q, rfl, hs1⟩ := pI_of hs
      obtain ⟨x, q, rfl, hs2⟩ := pI_of hs1
      exact lv_icmp_ge hx hb hd (of_decide_eq_true hok) (fun z => jx _ _ _ _ (hs2.2 (Int32.not_lt.mpr z)) H locs ls S) (fun z => nx _ _ _ (hs2.1 (Int32.not_le.mp z)) H locs ls S)
    | gt =>
      obtain ⟨y, q, rfl, hs1⟩ := pI_of hs
      obtain ⟨x, q, rfl, hs2⟩ := pI_of hs1
      exact lv_icmp_gt hx hb hd (of_decide_eq_true hok) (fun z => jx _ _ _ _ (hs2.1 z) H locs ls S) (fun z => nx _ _ _ (hs2.2 z) H locs ls S)
    | le =>
      obtain ⟨y, q, rfl, hs1⟩ := pI_of hs
      obtain ⟨x, q, rfl, hs2⟩ := pI_of hs1
      exact lv_icmp_le hx hb hd (of_decide_eq_true hok) (fun z => jx _ _ _ _ (hs2.2 (Int32.not_lt.mpr z)) H locs ls S) (fun z => nx _ _ _ (hs2.1 (Int32.not_le.mp z)) H locs ls S)
  | getfield ix =>
    obtain ⟨a, q, rfl, hs1⟩ := pR_of hs
    obtain ⟨fs, ha, hs2⟩ := aO_of hs1

    split at hs2
    · rename_i v hv
      unfold okI at hok
      dsimp only at hok
      split at hok
      · rename_i o i' ci kk pl hf
        simp only [Bool.and_eq_true, beq_iff_eq] at hok
        obtain ⟨rfl, rfl, e1, e2⟩ := hok
        subst e1; subst e2
        obtain ⟨C0, T, N, g1, g2, g3, g4⟩ := fT_at hf
        refine va_get (D := D) (ws := wld dA ad h) (own := M.2.1.cls) hx hb hts (cls_ok _ _ g1).1 hown hK hP a (wld_some ha) g1 _ g2 (hts _ (by rw [← hcn rfl]; exact g3)) (fun _ z => z) (v := rv ad v) ?_ hd (nx _ _ _ hs2 H locs ls S)
        rw [List.getElem?_map, hv]; rfl
      · cases hok
    · exact hs2.elim
  | putfield ix =>
    obtain ⟨v, q, rfl, hs1⟩ := pV_of hs
    obtain ⟨a, q, rfl, hs2⟩ := pR_of hs1
    · obtain ⟨fs, ha, hlen, hpf, hs3⟩ := aO_of hs2
      unfold okI at hok
      dsimp only at hok
      split at hok
      · rename_i o i' ci kk pl hf
        simp only [Bool.and_eq_true, beq_iff_eq] at hok
        obtain ⟨rfl, rfl, e1, e2, hfin⟩ := hok
        subst e1; subst e2
        obtain ⟨C0, T, N, g1, g2, g3, g4⟩ := fT_at hf
        rw [g1] at hfin
        dsimp only at hfin
        obtain ⟨c1, c2, c3, c4⟩ := cls_ok _ _ g1
        have hpo := pf_ok ad hpf
        have fin : ∀ (H1 : Heap) (locs1 : List Loc), va_P D vwCl ((wld dA ad h).set a (ad a, .inr (r.2.1, (fs.map (rv ad)).set r.2.2 (rv ad v)))) H1 → va_D A ((wld dA ad h).set a (ad a, .inr (r.2.1, (fs.map (rv ad)).set r.2.2 (rv ad v)))) → va_S A s.heap H1 locs1 → W p l e R s m args below meth c H1 locs1 cells slots Z (F0 m (pc + 3) ls (q.map (rv ad))) := by
          intro H1 locs1 q1 q2 q3
          have e : ((ad a, Sum.inr (r.2.1, (fs.map (rv ad)).set r.2.2 (rv ad v))) : Nat × va_E) = (ad a, cE dA ad (.inr (r.2.1, fs.set r.2.2 v))) := by
            simp only [cE, List.map_set]
          rw [e, wld_set] at q1 q2
          exact nx _ _ _ hs3 H1 locs1 ls (new _ _ _ (by simp) q1 q2 q3)
        rcases Bool.or_eq_true_iff.mp hfin with hf0 | hf1
        · exact va_put (D := D) (ws := wld dA ad h) (own := M.2.1.cls) hx hb hts c1 (tyC r.2.1) c2 c3 hown hK hP hD hS a (wld_some ha) g1 _ g2 (hts _ (by rw [← hcn rfl]; exact g3)) (fun _ z => z) (by simpa using hf0) (c2 _ g2) hpo.1 hpo.2 (by simpa using hlen) hd fin
        · simp only [Bool.and_eq_true, beq_iff_eq] at hf1
          by_cases hf2 : (T r.2.2).2.2.2 = true
          · exact va_putF (D := D) (ws := wld dA ad h) (own := M.2.1.cls) hx hb hts c1 (tyC r.2.1) c2 c3 hown hK hP hD hS a (wld_some ha) g1 _ g2 (hts _ (by rw [← hcn rfl]; exact g3)) (fun _ z => z) hf2 (hnm hf1.1) (by rw [g4, hf1.2, hcn rfl]) (c2 _ g2) hpo.1 hpo.2 (by simpa using hlen) hd fin
          · exact va_put (D := D) (ws := wld dA ad h) (own := M.2.1.cls) hx hb hts c1 (tyC r.2.1) c2 c3 hown hK hP hD hS a (wld_some ha) g1 _ g2 (hts _ (by rw [← hcn rfl]; exact g3)) (fun _ z => z) (by simpa using hf2) (c2 _ g2) hpo.1 hpo.2 (by simpa using hlen) hd fin
      · cases hok
  | iaload =>
    obtain ⟨n, q, rfl, hs1⟩ := pI_of hs
    obtain ⟨a, q, rfl, hs2⟩ := pR_of hs1
    have nrm : aI h a (fun t ys => t = 0 ∧ vp_in n ys.length ∧ k xs (.int (ys.getD n.toNatClampNeg 0) :: q) h) → W p l e R s m args below meth c H locs cells slots Z (F0 m pc ls ((Value.int n :: .ref a :: q).map (rv ad))) := by
      intro hs2
      obtain ⟨t, ys, ha, rfl, hin, hs3⟩ := aI_of hs2
      exact va_iald (D := D) (ws := wld dA ad h) hx hb hK hP a 0 (wld_some ha) rfl hin hd (nx _ _ _ hs3 H locs ls S)
    unfold xI at hs2
    split at hs2
    · exact nrm hs2
    · rename_i zs
      split at hs2
      · rename_i e
        subst e
        obtain ⟨g1, g2, g3⟩ := hXX zs rfl
        have e : ad XB = ad0 XB := s3.1 XB (Or.inr (by decide))
        rw [← e] at g1 g2 g3
        exact va_sld hx hb g1 g2 g3 hS hs2.2.1 hd (nx _ _ _ hs2.2.2 H locs ls S)
      · exact nrm hs2
  | baload =>
    obtain ⟨n, q, rfl, hs1⟩ := pI_of hs
    obtain ⟨a, q, rfl, hs2⟩ := pR_of hs1
    obtain ⟨t, ys, ha, ht, hin, hs3⟩ := aI_of hs2
    rcases ht with rfl | rfl
    · exact va_bald (D := D) (ws := wld dA ad h) hx hb hK hP a 1 (wld_some ha) rfl hin hd (nx _ _ _ hs3 H locs ls S)
    · exact va_zald (D := D) (ws := wld dA ad h) hx hb hK hP a 2 (wld_some ha) rfl hin hd (nx _ _ _ hs3 H locs ls S)
  | laload =>
    obtain ⟨n, q, rfl, hs1⟩ := pI_of hs
    obtain ⟨a, q, rfl, hs2⟩ := pR_of hs1
    obtain ⟨t, ys, ha, rfl, hin, hs3⟩ := aL_of hs2
    exact va_lald (D := D) (ws := wld dA ad h) hx hb hK hP a 3 (wld_some ha) rfl hin hd (nx _ _ _ hs3 H locs ls S)
  | aaload =>
    obtain ⟨n, q, rfl, hs1⟩ := pI_of hs
    obtain ⟨a, q, rfl, hs2⟩ := pR_of hs1
    obtain ⟨t, ys, ha, rfl, hin, hs3⟩ := aR_of hs2
    split at hs3
    · rename_i y hy
      refine va_aldq (D := D) (ws := wld dA ad h) hx hb hK hP a 4 (wld_some ha) rfl hin hd ?_
      rw [hy]
      exact nx _ _ _ hs3 H locs ls S
    · exact hs3.elim
  | arraylength =>
    obtain ⟨a, q, rfl, hs1⟩ := pR_of hs
    unfold xN at hs1
    split at hs1
    · split at hs1
      · rename_i t ys ha
        obtain ⟨ht, hs2⟩ := hs1
        rcases (show t = 0 ∨ t = 1 ∨ t = 2 by omega) with rfl | rfl | rfl
        · exact va_alen (D := D) (ws := wld dA ad h) hx hb hK hP a 0 (wld_some ha) (ty := .int) rfl rfl hd (nx _ _ _ hs2 H locs ls S)
        · exact va_alen (D := D) (ws := wld dA ad h) hx hb hK hP a 1 (wld_some ha) (ty := .byte) rfl rfl hd (nx _ _ _ hs2 H locs ls S)
        · exact va_alen (D := D) (ws := wld dA ad h) hx hb hK hP a 2 (wld_some ha) (ty := .boolean) rfl rfl hd (nx _ _ _ hs2 H locs ls S)
      · rename_i t ys ha
        obtain ⟨rfl, hsN⟩ := hs1
        exact va_alen (D := D) (ws := wld dA ad h) hx hb hK hP a 3 (wld_some ha) (ty := .long) rfl rfl hd (nx _ _ _ hsN H locs ls S)
      · rename_i t ys ha
        obtain ⟨rfl, hsN⟩ := hs1
        exact va_alen (D := D) (ws := wld dA ad h) hx hb hK hP a 4 (wld_some ha) (ty := .object RX7) rfl rfl hd (nx _ _ _ hsN H locs ls S)
      · exact hs1.elim
    · rename_i zs
      split at hs1
      · rename_i e
        subst e
        obtain ⟨g1, g2, g3⟩ := hXX zs rfl
        have e : ad XB = ad0 XB := s3.1 XB (Or.inr (by decide))
        rw [← e] at g1 g2 g3
        exact va_slen hx hb g1 g2 g3 hS hd (nx _ _ _ hs1 H locs ls S)
      · exact hs1.elim
  | iastore =>
    obtain ⟨x, q, rfl, hs1⟩ := pI_of hs
    obtain ⟨n, q, rfl, hs2⟩ := pI_of hs1
    obtain ⟨a, q, rfl, hs3⟩ := pR_of hs2
    obtain ⟨t, ys, ha, rfl, hin, hs4⟩ := aI_of hs3
    refine va_iast (D := D) (ws := wld dA ad h) hx hb hK hP hD hS a 0 (wld_some ha) rfl hin hd (fun H1 locs1 q1 q2 q3 => ?_)
    rw [upd_getD _ _ _ (vp_in_lt hin)] at q1 q2
    have e : ((ad a, Sum.inl (dA 0, ys.length, .inl (fun j => (ys.set n.toNatClampNeg x).getD j 0))) : Nat × va_E) = (ad a, cE dA ad (.inl (0, .inl (ys.set n.toNatClampNeg x)))) := by simp only [cE, List.length_set]
    rw [e, wld_set] at q1 q2
    exact nx _ _ _ hs4 H1 locs1 ls (new _ _ _ (by simp) q1 q2 q3)
  | bastore =>
    obtain ⟨x, q, rfl, hs1⟩ := pI_of hs
    obtain ⟨n, q, rfl, hs2⟩ := pI_of hs1
    obtain ⟨a, q, rfl, hs3⟩ := pR_of hs2
    obtain ⟨t, ys, ha, ht, hin, hs4⟩ := aI_of hs3
    rcases ht with rfl | rfl
    · refine va_bast (D := D) (ws := wld dA ad h) hx hb hK hP hD hS a 1 (wld_some ha) rfl hin hd (fun H1 locs1 q1 q2 q3 => ?_)
      rw [upd_getD _ _ _ (vp_in_lt hin)] at q1 q2
      have e : ((ad a, Sum.inl (dA 1, ys.length, .inl (fun j => (ys.set n.toNatClampNeg (vp_nar .byte x)).getD j 0))) : Nat × va_E) = (ad a, cE dA ad (.inl (1, .inl (ys.set n.toNatClampNeg (vp_nar .byte x))))) := by simp only [cE, List.length_set]
      rw [e, wld_set] at q1 q2
      exact nx _ _ _ hs4 H1 locs1 ls (new _ _ _ (by simp) q1 q2 q3)
    · refine va_zast (D := D) (ws := wld dA ad h) hx hb hK hP hD hS a 2 (wld_some ha) rfl hin hd (fun H1 locs1 q1 q2 q3 => ?_)
      rw [upd_getD _ _ _ (vp_in_lt hin)] at q1 q2
      have e : ((ad a, Sum.inl (dA 2, ys.length, .inl (fun j => (ys.set n.toNatClampNeg (vp_nar .boolean x)).getD j 0))) : Nat × va_E) = (ad a, cE dA ad (.inl (2, .inl (ys.set n.toNatClampNeg (vp_nar .boolean x))))) := by simp only [cE, List.length_set]
      rw [e, wld_set] at q1 q2
      exact nx _ _ _ hs4 H1 locs1 ls (new _ _ _ (by simp) q1 q2 q3)
  | lastore =>
    obtain ⟨x, q, rfl, hs1⟩ := pL_of hs
    obtain ⟨n, q, rfl, hs2⟩ := pI_of hs1
    obtain ⟨a, q, rfl, hs3⟩ := pR_of hs2
    obtain ⟨t, ys, ha, rfl, hin, hs4⟩ := aL_of hs3
    refine va_last (D := D) (ws := wld dA ad h) hx hb hK hP hD hS a 3 (wld_some ha) rfl hin hd (fun H1 locs1 q1 q2 q3 => ?_)
    rw [updL_getD _ _ _ (vp_in_lt hin)] at q1 q2
    have e : ((ad a, Sum.inl (dA 3, ys.length, .inr (.inl (fun j => (ys.set n.toNatClampNeg x).getD j 0)))) : Nat × va_E) = (ad a, cE dA ad (.inl (3, .inr (.inl (ys.set n.toNatClampNeg x))))) := by simp only [cE, List.length_set]
    rw [e, wld_set] at q1 q2
    exact nx _ _ _ hs4 H1 locs1 ls (new _ _ _ (by simp) q1 q2 q3)
  | ireturn =>
    obtain ⟨x, q, rfl, rfl, hs1⟩ := pI_of hs
    exact C.1 _ _ _ _ _ _ _ _ _ _ (hr _ _ hs1) ⟨b, S⟩ (Or.inl ⟨_, rfl⟩) hd
  | lreturn =>
    obtain ⟨x, q, rfl, rfl, hs1⟩ := pL_of hs
    exact C.1 _ _ _ _ _ _ _ _ _ _ (hr _ _ hs1) ⟨b, S⟩ (Or.inr (Or.inl ⟨_, rfl⟩)) hd
  | return_ =>
    obtain ⟨rfl, hs1⟩ := hs
    exact C.1 _ _ _ _ _ _ _ _ _ _ (hr _ _ hs1) ⟨b, S⟩ (Or.inr (Or.inr rfl)) hd
  | _ => exact hs.elim
end STP
