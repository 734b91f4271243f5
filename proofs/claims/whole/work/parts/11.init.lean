/-! CONSTRUCTORS CALLED -/
section INIT
variable {d : Nat} {X : Option (List Int32)} {M M' : Mt} {b bc : Nat × Nat} {pc : Nat} {xs st : List Value} {h : aH} {Q Q' : Option Value → aH → Prop} {ix j lj n a : Nat} {as rest : List Value}
theorem init_next {p : Program} {l : LN} {e : Env} {R : Room} {s : State} {m : MethodId} {args : Array Value} {below : List Frame} {meth : Method} {c : Code} {D : va_G} {dA : Nat → ClassId} {A : Nat → Prop} {mc ms : Nat} {ad0 : Nat → Nat} {n0 : Nat} {Z : State → Prop} {ad : Nat → Nat} {H : Heap} {locs : List Loc} {cells slots : Nat} {ls : Array Slot} {st0 : List Value} {aa : Array Value}
    (F : FC (d + 1) X M p R s m args meth c D dA A mc ms ad0) (C : RC M Q p l e R s m args below meth c D dA A mc ms ad0 n0 Z) (S : Sx s D dA A mc ms ad0 n0 M.2.2.2.1 ad H locs cells slots ls (bc.1 + b.1, bc.2 + b.2) xs h) (hw : wfS xs rest h = true)
    (hr : va_Run p l e R s m args below meth c H locs cells slots bc.1 bc.2 (F0 m pc ls st0) (rest.map (rv ad)) (QC Q' bc D dA ad h H.size aa) (va_A (wld dA ad h) H.size))
    (hk : ∀ r h', Q' r h' → Ev (d + 1) X M b (pc + 3) xs (r.toList ++ rest) h' Q) : W p l e R s m args below meth c H locs cells slots Z (F0 m pc ls st0) := by
  obtain ⟨hx, hb, hml, hown, hts, hA, hK, hXF, hfr, hlo, hmc, hms, hnm, hXX⟩ := id F
  obtain ⟨s1, s2, s3, hP, hD, hS, hlx⟩ := id S
  obtain ⟨w1, w2, w3, w4⟩ := wfS_of hw
  dsimp only at s1 s2
  refine w_run hr hS (va_sub (D := D) hD hS hA) ?_
  intro r h' ad' H1 locs1 hq' hag hP1 hD1 hS1
  have hag1 : Ag ad0 n0 mc ad' h'.length := by
    refine ⟨fun k hk => ?_, fun z => ?_, Nat.le_trans s3.2.2 hag.2.2⟩
    · rw [hag.1 k (by have := s3.2.2; omega)]
      exact s3.1 k hk
    · rw [hag.2.1 (by omega)]
      exact s3.2.1 z
  have := hk r h' hq' p l e R s m args below meth c D dA A mc ms ad0 n0 Z F C ad' H1 locs1 (cells + bc.1) (slots + bc.2) ls ⟨by omega, by omega, hag1, hP1, hD1, hS1, by rw [map_wf hag.1 w2]; exact hlx⟩
  rw [List.map_append, map_wf hag.1 w3] at this
  rw [show ((r.map (rv ad')).toList : List Value) = r.toList.map (rv ad') by cases r <;> rfl]
  exact this
theorem ev_I (hc : okC M pc (.invokespecial ix) j lj 2 n = true) (hj : MT[j]? = some M') (hct : CT d M' bc (.ref a :: as) h Q') (hcn : cN M.1 = M.2.1.cls) (hret : M'.2.2.2.2 = none) (hmx : M'.2.2.2.1 ≤ 20) (hn : as.length = n) (hst : st = as.reverse ++ .ref a :: rest) (hcat : (rest.map fun v => v.category).sum ≤ 8) (hw : wfS xs rest h = true)
    (hk : ∀ r h', Q' r h' → Ev (d + 1) X M b (pc + 3) xs (r.toList ++ rest) h' Q) : Ev (d + 1) X M (bc.1 + b.1, bc.2 + b.2) pc xs st h Q := by
  unfold okC at hc
  simp only [Bool.and_eq_true, decide_eq_true_eq] at hc
  obtain ⟨hd, hm, hl⟩ := hc
  intro p l e R s m args below meth c D dA A mc ms ad0 n0 Z F C ad H locs cells slots ls S
  obtain ⟨hx, hb, hml, hown, hts, hA, hK, hXF, hfr, hlo, hmc, hms, hnm, hXX⟩ := id F
  obtain ⟨s1, s2, s3, hP, hD, hS, hlx⟩ := id S
  dsimp only at s1 s2
  obtain ⟨-, -, -, -, -, -, hv⟩ := ckM_of hm hj
  obtain ⟨hv1, hv2⟩ := hv rfl
  subst hst
  have hcb := cb_of (R := R) (s := s) (args := args) (bc := bc) hcn hts hj hl hm hmx hfr hlo
  rw [hret] at hcb
  exact init_next F C S hw (va_runI (As := as.map (rv ad)) (b := ad a) (n := n) ⟨hx, hb, hml, hown, hts⟩ (hct l D dA ad H.size) ⟨hcb, hv2, hts _ hv1⟩ ⟨PCc_blind _ _ _ _ _ _, pc_at (as := .ref a :: as) hK hXF (fun k hk => s3.1 k (Or.inr hk)) hP hD hS hA⟩ rfl (by simpa using hn) hlx.1 (by simp [rv]) (lv_room (by rw [rv_cats]; exact hcat)) hd ⟨by omega, by omega⟩) hk
def okN (M : Mt) (pc : Nat) (i : Instr) (j lj n : Nat) : Bool := decide (decode M.2.2.1 pc = .ok (i, 3)) && (ckM j 2 n && (match i with
  | .invokespecial ix => (match nT[lj]? with
    | some (o, i', j', _) => o == M.1 && (i' == ix && j' == j)
    | none => false)
  | _ => false))
theorem ev_N (hc : okN M pc (.invokespecial ix) j lj n = true) (hj : MT[j]? = some M') (hct : CT d M' bc (.ref a :: as) h Q') (hcn : cN M.1 = M.2.1.cls) (hret : M'.2.2.2.2 = none) (hmx : M'.2.2.2.1 ≤ 20) (hn : as.length = n) (hst : st = as.reverse ++ .ref a :: rest) (hcat : (rest.map fun v => v.category).sum ≤ 8) (hw : wfS xs rest h = true)
    (hk : ∀ r h', Q' r h' → Ev (d + 1) X M b (pc + 3) xs (r.toList ++ rest) h' Q) : Ev (d + 1) X M (bc.1 + b.1, bc.2 + b.2) pc xs st h Q := by
  unfold okN at hc
  simp only [Bool.and_eq_true, decide_eq_true_eq] at hc
  obtain ⟨hd, hm, hl⟩ := hc
  split at hl
  · rename_i o i' j' pl hnt
    simp only [Bool.and_eq_true, beq_iff_eq] at hl
    obtain ⟨rfl, rfl, rfl⟩ := hl
    intro p l e R s m args below meth c D dA A mc ms ad0 n0 Z F C ad H locs cells slots ls S
    obtain ⟨hx, hb, hml, hown, hts, hA, hK, hXF, hfr, hlo, hmc, hms, hnm, hXX⟩ := id F
    obtain ⟨s1, s2, s3, hP, hD, hS, hlx⟩ := id S
    dsimp only at s1 s2
    obtain ⟨-, g2, g3, g4, -, -, hv⟩ := ckM_of hm hj
    obtain ⟨hv1, hv2⟩ := hv rfl
    have hcw := cw_ok M' (List.mem_of_getElem? hj)
    have hnw := hXF.1 _ (List.mem_of_getElem? hnt) M' hj
    dsimp only at hnw
    rw [hcn] at hnw
    subst hst
    refine init_next F C S hw (va_runIN (host := "LeanTable") (maxL := M'.2.2.2.1) (bytes := M'.2.2.1) (index := i') (own := M.2.1.cls) (As := as.map (rv ad)) (b := ad a) (n := n) ⟨hx, hb, hml, hown, hts⟩ (hct l D dA ad H.size) ⟨⟨⟨rfl, rfl, hfr, by show 8 + (M'.2.2.2.1 + 11) + 40 * d ≤ R.locals; omega, ?_, ?_⟩, ?_, hts _ g4, g2, ?_, va_Nw.use rfl hnw⟩, hv2, hts _ hv1⟩ ⟨PCc_blind _ _ _ _ _ _, pc_at (as := .ref a :: as) hK hXF (fun k hk => s3.1 k (Or.inr hk)) hP hD hS hA⟩ rfl (by simpa using hn) hlx.1 (by simp [rv]) (lv_room (by rw [rv_cats]; exact hcat)) hd ⟨by omega, by omega⟩) hk
    · refine pay_in hts (fun w hw => ?_)
      rcases List.mem_cons.mp hw with rfl | hw
      · exact ⟨hcw, good_of_word (gt_good hcw)⟩
      · exact ⟨hw, good_of_word (gt_good hw)⟩
    · rw [← hret]; exact List.mem_cons_self
    · rw [← hret]; exact hts _ hcw
    · intro sig hs
      rw [hs] at g3
      exact (Option.some.inj g3).symm
  · cases hl
end INIT
