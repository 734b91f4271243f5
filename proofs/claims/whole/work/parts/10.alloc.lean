/-! WHAT MAKES CELLS -/
def wfv (n : Nat) (v : Value) : Bool := match v with
  | .ref a => decide (a < n) || decide (SB ≤ a)
  | _ => true
def wfr (n : Nat) (r : Option Nat) : Bool := match r with
  | some a => decide (a < n) || decide (SB ≤ a)
  | none => true
def wfc (n : Nat) (c : aC) : Bool := match c with
  | .inl (_, .inr (.inr rs)) => rs.all (wfr n)
  | .inl _ => true
  | .inr (_, vs) => vs.all (wfv n)
def wfS (xs st : List Value) (h : aH) : Bool := decide (h.length < SB) && (xs.all (wfv h.length) && (st.all (wfv h.length) && h.all (wfc h.length)))
section WF
variable {ad ad' : Nat → Nat} {n : Nat} {dA : Nat → ClassId}
theorem rv_wf (ha : ∀ k, k < n ∨ SB ≤ k → ad' k = ad k) {v : Value} (h : wfv n v = true) : rv ad' v = rv ad v := by
  cases v with
  | ref a =>
    unfold wfv at h
    simp only [Bool.or_eq_true, decide_eq_true_eq] at h
    show Value.ref (ad' a) = .ref (ad a)
    rw [ha a h]
  | _ => rfl
theorem map_wf (ha : ∀ k, k < n ∨ SB ≤ k → ad' k = ad k) {xs : List Value} (h : xs.all (wfv n) = true) : xs.map (rv ad') = xs.map (rv ad) :=
  List.map_congr_left (fun v hv => rv_wf ha (List.all_eq_true.mp h v hv))
theorem cE_wf (ha : ∀ k, k < n ∨ SB ≤ k → ad' k = ad k) {c : aC} (h : wfc n c = true) : cE dA ad' c = cE dA ad c := by
  rcases c with ⟨t, ys | ys | rs⟩ | ⟨ci, vs⟩
  · rfl
  · rfl
  · have e : (fun j => (rs.getD j none).map ad') = fun j => (rs.getD j none).map ad := by
      funext j
      cases hr : rs.getD j none with
      | none => rfl
      | some a =>
        have hm : some a ∈ rs := by
          rw [List.getD_eq_getElem?_getD] at hr
          cases hq : rs[j]? with
          | none => rw [hq] at hr; cases hr
          | some z => rw [hq] at hr; cases hr; exact List.mem_of_getElem? hq
        have hw := List.all_eq_true.mp h _ hm
        unfold wfr at hw
        simp only [Bool.or_eq_true, decide_eq_true_eq] at hw
        show some (ad' a) = some (ad a)
        rw [ha a hw]
    simp only [cE, e]
  · simp only [cE, map_wf ha h]
theorem wld_wf (ha : ∀ k, k < n ∨ SB ≤ k → ad' k = ad k) {h : aH} (hn : h.length ≤ n) (hw : h.all (wfc n) = true) : wld dA ad' h = wld dA ad h := by
  apply List.ext_getElem?
  intro j
  rw [wld_get, wld_get]
  cases hj : h[j]? with
  | none => rfl
  | some c =>
    have hl : j < h.length := (List.getElem?_eq_some_iff.mp hj).1
    simp only [Option.map_some]
    rw [ha j (Or.inl (by omega)), cE_wf ha (List.all_eq_true.mp hw c (List.mem_of_getElem? hj))]
end WF
theorem Ag_up {ad0 : Nat → Nat} {n0 mc : Nat} {ad : Nat → Nat} {n q : Nat} (h : Ag ad0 n0 mc ad n) (hmc : mc ≠ 0) (hn : n < SB) : Ag ad0 n0 mc (va_up ad n q) (n + 1) := by
  refine ⟨fun k hk => ?_, fun z => absurd z hmc, Nat.le_succ_of_le h.2.2⟩
  have hne : k ≠ n := by
    rcases hk with hk | hk
    · have := h.2.2; omega
    · omega
  unfold va_up
  rw [if_neg hne]
  exact h.1 k hk
theorem up_agree {ad : Nat → Nat} {n q : Nat} (hn : n < SB) : ∀ k, k < n ∨ SB ≤ k → va_up ad n q k = ad k := by
  intro k hk
  unfold va_up
  rw [if_neg (by omega)]
def dfl (ci N : Nat) : List Value := (List.range N).map (fun j => defaultValue (tyC ci j))
theorem dfl_rv (ad : Nat → Nat) (ci N : Nat) : (dfl ci N).map (rv ad) = dfl ci N := by
  unfold dfl
  rw [List.map_map]
  refine List.map_congr_left (fun j _ => ?_)
  show rv ad (defaultValue (tyC ci j)) = _
  cases tyC ci j <;> rfl
def ckG (M : Mt) (pc : Nat) (i : Instr) (ix gj ci N : Nat) : Bool := decide (decode M.2.2.1 pc = .ok (i, 3)) && ((match gT[gj]? with
  | some (o, i', c', _) => o == M.1 && (i' == ix && c' == ci)
  | none => false) && (match vwCl[ci]? with
  | some (_, _, N') => N' == N
  | none => false))
theorem ckG_of {M : Mt} {pc : Nat} {i : Instr} {ix gj ci N : Nat} (h : ckG M pc i ix gj ci N = true) : decode M.2.2.1 pc = .ok (i, 3) ∧ ∃ (C : String) (T : u_T), vwCl[ci]? = some (C, T, N) ∧ Cond.classLink (cN M.1) ix C ∈ gtbl ∧ Cond.instantiable C N ∈ gtbl ∧ Cond.initialized C ∈ gtbl := by
  unfold ckG at h
  simp only [Bool.and_eq_true, decide_eq_true_eq] at h
  obtain ⟨h1, h2, h3⟩ := h
  refine ⟨h1, ?_⟩
  split at h2
  · rename_i o i' c' p1 hg
    obtain ⟨p1, p2, p3⟩ := p1
    simp only [Bool.and_eq_true, beq_iff_eq] at h2
    obtain ⟨rfl, rfl, rfl⟩ := h2
    split at h3
    · rename_i C T N' hv
      have e : N' = N := by simpa using h3
      subst e
      have h4 := List.all_eq_true.mp gT_ok _ (List.mem_of_getElem? hg)
      unfold okg at h4
      dsimp only at h4
      rw [hv] at h4
      simp only [Bool.and_eq_true, decide_eq_true_eq] at h4
      exact ⟨C, T, hv, gt_of h4.1.1 rfl, gt_of h4.1.2 rfl, gt_of h4.2 rfl⟩
    · cases h3
  · cases h2
section ALLOC
variable {d : Nat} {X : Option (List Int32)} {M : Mt} {b1 b2 : Nat} {pc : Nat} {xs rest : List Value} {h : aH} {Q : Option Value → aH → Prop} {ix : Nat}
theorem wfS_of (hw : wfS xs rest h = true) : h.length < SB ∧ xs.all (wfv h.length) = true ∧ rest.all (wfv h.length) = true ∧ h.all (wfc h.length) = true := by
  unfold wfS at hw
  simp only [Bool.and_eq_true, decide_eq_true_eq] at hw
  exact ⟨hw.1, hw.2.1, hw.2.2.1, hw.2.2.2⟩
/-- a cell comes: the world behind it -/
theorem al_next {s : State} {D : va_G} {dA : Nat → ClassId} {A : Nat → Prop} {mc ms : Nat} {ad0 : Nat → Nat} {n0 nL : Nat} {ad : Nat → Nat} {H : Heap} {locs : List Loc} {cells slots : Nat} {ls : Array Slot} {c : aC} {q N : Nat} {H1 : Heap}
    (S : Sx s D dA A mc ms ad0 n0 nL ad H locs cells slots ls (b1 + 1, b2 + N) xs h) (hw : wfS xs rest h = true) (hP : va_P D vwCl (wld dA ad h ++ [(q, cE dA (va_up ad h.length q) c)]) H1) (hD : va_D A (wld dA ad h ++ [(q, cE dA (va_up ad h.length q) c)])) (hS : va_S A s.heap H1 locs) :
    Sx s D dA A mc ms ad0 n0 nL (va_up ad h.length q) H1 locs (cells + 1) (slots + N) ls (b1, b2) xs (h ++ [c]) ∧ (Value.ref h.length :: rest).map (rv (va_up ad h.length q)) = Value.ref q :: rest.map (rv ad) := by
  obtain ⟨s1, s2, s3, -, -, -, hlx⟩ := S
  obtain ⟨w1, w2, w3, w4⟩ := wfS_of hw
  have ha := up_agree (ad := ad) (q := q) w1
  have e : wld dA (va_up ad h.length q) (h ++ [c]) = wld dA ad h ++ [(q, cE dA (va_up ad h.length q) c)] := by
    rw [wld_app, wld_wf ha (Nat.le_refl _) w4]
    simp [va_up]
  refine ⟨⟨by dsimp only at s1 ⊢; omega, by dsimp only at s2 ⊢; omega, ?_, by rw [e]; exact hP, by rw [e]; exact hD, hS, by rw [map_wf ha w2]; exact hlx⟩, ?_⟩
  · rw [List.length_append]
    exact Ag_up s3 (by dsimp only at s1; omega) w1
  · rw [List.map_cons, map_wf ha w3]
    simp [rv, va_up]
theorem ev_new {gj ci N : Nat} {fs : List Value} (hc : ckG M pc (.new ix) ix gj ci N = true) (hfs : dfl ci N = fs) (hcn : cN M.1 = M.2.1.cls) (hw : wfS xs rest h = true) (k : Ev d X M (b1, b2) (pc + 3) xs (.ref h.length :: rest) (h ++ [.inr (ci, fs)]) Q) : Ev d X M (b1 + 1, b2 + N) pc xs rest h Q := by
  subst hfs
  obtain ⟨hd, C0, T, hv, g1, g2, g3⟩ := ckG_of hc
  intro p l e R s m args below meth c D dA A mc ms ad0 n0 Z F C ad H locs cells slots ls S
  obtain ⟨hx, hb, hml, hown, hts, hA, hK, hXF, hfr, hlo, hmc, hms, hnm, hXX⟩ := id F
  obtain ⟨s1, s2, s3, hP, hD, hS, hlx⟩ := id S
  obtain ⟨c1, c2, c3, c4⟩ := cls_ok _ _ hv
  dsimp only at s1 s2
  refine va_new (N := N) (T := T) (C := C0) (fs := dfl ci N) (D := D) (ws := wld dA ad h) hx hb hts c1 (tyC ci) c2 hown (hts _ (by rw [← hcn]; exact g1)) (hts _ g2) (hts _ g3) hK hP hD hS hA hv (fun j hj => ?_) (by omega) (by omega) hd (fun q H1 q1 q2 q3 => ?_)
  · simp [vp_V, dfl, hj]
  · have e1 : ((.inr (ci, dfl ci N)) : va_E) = cE dA (va_up ad h.length q) (.inr (ci, dfl ci N)) := by simp only [cE, dfl_rv]
    rw [e1] at q1 q2
    obtain ⟨S', e2⟩ := al_next S hw q1 q2 q3
    have := k p l e R s m args below meth c D dA A mc ms ad0 n0 Z F C _ H1 locs _ _ ls S'
    rw [e2] at this
    exact this
theorem ar_cls {D : va_G} {dA : Nat → ClassId} {s : State} {t : Nat} {ty : FieldType} {cA : ClassId} (hK : va_K D vwCl (tyL dA) s) (ht : (tyL dA)[t]? = some (dA t, ty)) (hK2 : va_K D vwCl (tyL dA ++ [(cA, ty)]) s) (hty : t < 4 ∧ (ty = .int ∨ ty = .byte ∨ ty = .boolean ∨ ty = .long) ∨ ty = .object RX7) : cA = dA t := by
  have h1 := (hK.2 t _ ht).2
  have h2 := (hK2.2 5 (cA, ty) (by simp [tyL])).2
  rcases hty with ⟨-, rfl | rfl | rfl | rfl⟩ | rfl
  · exact Option.some.inj (h2.symm.trans h1)
  · exact Option.some.inj (h2.symm.trans h1)
  · exact Option.some.inj (h2.symm.trans h1)
  · exact Option.some.inj (h2.symm.trans h1)
  · obtain ⟨_, _, _, _, _, z1⟩ := h1
    obtain ⟨_, _, _, _, _, z2⟩ := h2
    exact Option.some.inj (z2.symm.trans z1)
theorem rep_fun (n : Nat) : (fun j => (List.replicate n (0 : Int32)).getD j 0) = fun _ => 0 := by
  funext j
  rw [List.getD_eq_getElem?_getD, List.getElem?_replicate]
  split <;> rfl
theorem repL_fun (n : Nat) : (fun j => (List.replicate n (0 : Int64)).getD j 0) = fun _ => 0 := by
  funext j
  rw [List.getD_eq_getElem?_getD, List.getElem?_replicate]
  split <;> rfl
theorem repR_fun (n : Nat) (ad : Nat → Nat) : (fun j => ((List.replicate n (none : Option Nat)).getD j none).map ad) = fun _ => none := by
  funext j
  rw [List.getD_eq_getElem?_getD, List.getElem?_replicate]
  split <;> rfl
theorem ev_newI {N : Nat} (hd : decode M.2.2.1 pc = .ok (.newarray .int, 2)) (hN : N < 10000) (hw : wfS xs rest h = true) (k : Ev d X M (b1, b2) (pc + 2) xs (.ref h.length :: rest) (h ++ [.inl (0, .inl (List.replicate N 0))]) Q) : Ev d X M (b1 + 1, b2 + N) pc xs (.int (nI N) :: rest) h Q := by
  intro p l e R s m args below meth c D dA A mc ms ad0 n0 Z F C ad H locs cells slots ls S
  obtain ⟨hx, hb, hml, hown, hts, hA, hK, hXF, hfr, hlo, hmc, hms, hnm, hXX⟩ := id F
  obtain ⟨s1, s2, s3, hP, hD, hS, hlx⟩ := id S
  dsimp only at s1 s2
  refine va_newa (atype := .int) (ty := .int) (a0 := (N, .inl (fun _ => 0))) (n := nI N) (N' := N) (rest := rest.map (rv ad)) (D := D) (ws := wld dA ad h) hx hb (hts _ w_ar_I) rfl hK hP hD hS hA (fun _ => rfl) (nI_pos (by omega)) (nI_clamp (by omega)) (by show N * 4 ≤ _; omega) (by omega) (by omega) hd (fun q cA H1 hK2 q1 q2 q3 => ?_)
  have ec : cA = dA 0 := ar_cls hK (by rfl) hK2 (Or.inl ⟨by omega, Or.inl rfl⟩)
  subst ec
  have e1 : ((.inl (dA 0, N, .inl (fun _ => 0))) : va_E) = cE dA (va_up ad h.length q) (.inl (0, .inl (List.replicate N 0))) := by simp only [cE, rep_fun, List.length_replicate]
  rw [e1] at q1 q2
  obtain ⟨S', e2⟩ := al_next S hw q1 q2 q3
  have := k p l e R s m args below meth c D dA A mc ms ad0 n0 Z F C _ H1 locs _ _ ls S'
  rw [e2] at this
  exact this
theorem ev_newB {N : Nat} (hd : decode M.2.2.1 pc = .ok (.newarray .byte, 2)) (hN : N < 10000) (hw : wfS xs rest h = true) (k : Ev d X M (b1, b2) (pc + 2) xs (.ref h.length :: rest) (h ++ [.inl (1, .inl (List.replicate N 0))]) Q) : Ev d X M (b1 + 1, b2 + N) pc xs (.int (nI N) :: rest) h Q := by
  intro p l e R s m args below meth c D dA A mc ms ad0 n0 Z F C ad H locs cells slots ls S
  obtain ⟨hx, hb, hml, hown, hts, hA, hK, hXF, hfr, hlo, hmc, hms, hnm, hXX⟩ := id F
  obtain ⟨s1, s2, s3, hP, hD, hS, hlx⟩ := id S
  dsimp only at s1 s2
  refine va_newa (atype := .byte) (ty := .byte) (a0 := (N, .inl (fun _ => 0))) (n := nI N) (N' := N) (rest := rest.map (rv ad)) (D := D) (ws := wld dA ad h) hx hb (hts _ w_ar_B) rfl hK hP hD hS hA (fun _ => rfl) (nI_pos (by omega)) (nI_clamp (by omega)) (by show N * 1 ≤ _; omega) (by omega) (by omega) hd (fun q cA H1 hK2 q1 q2 q3 => ?_)
  have ec : cA = dA 1 := ar_cls hK (by rfl) hK2 (Or.inl ⟨by omega, Or.inr (Or.inl rfl)⟩)
  subst ec
  have e1 : ((.inl (dA 1, N, .inl (fun _ => 0))) : va_E) = cE dA (va_up ad h.length q) (.inl (1, .inl (List.replicate N 0))) := by simp only [cE, rep_fun, List.length_replicate]
  rw [e1] at q1 q2
  obtain ⟨S', e2⟩ := al_next S hw q1 q2 q3
  have := k p l e R s m args below meth c D dA A mc ms ad0 n0 Z F C _ H1 locs _ _ ls S'
  rw [e2] at this
  exact this
theorem ev_newZ {N : Nat} (hd : decode M.2.2.1 pc = .ok (.newarray .boolean, 2)) (hN : N < 10000) (hw : wfS xs rest h = true) (k : Ev d X M (b1, b2) (pc + 2) xs (.ref h.length :: rest) (h ++ [.inl (2, .inl (List.replicate N 0))]) Q) : Ev d X M (b1 + 1, b2 + N) pc xs (.int (nI N) :: rest) h Q := by
  intro p l e R s m args below meth c D dA A mc ms ad0 n0 Z F C ad H locs cells slots ls S
  obtain ⟨hx, hb, hml, hown, hts, hA, hK, hXF, hfr, hlo, hmc, hms, hnm, hXX⟩ := id F
  obtain ⟨s1, s2, s3, hP, hD, hS, hlx⟩ := id S
  dsimp only at s1 s2
  refine va_newa (atype := .boolean) (ty := .boolean) (a0 := (N, .inl (fun _ => 0))) (n := nI N) (N' := N) (rest := rest.map (rv ad)) (D := D) (ws := wld dA ad h) hx hb (hts _ w_ar_Z) rfl hK hP hD hS hA (fun _ => rfl) (nI_pos (by omega)) (nI_clamp (by omega)) (by show N * 1 ≤ _; omega) (by omega) (by omega) hd (fun q cA H1 hK2 q1 q2 q3 => ?_)
  have ec : cA = dA 2 := ar_cls hK (by rfl) hK2 (Or.inl ⟨by omega, Or.inr (Or.inr (Or.inl rfl))⟩)
  subst ec
  have e1 : ((.inl (dA 2, N, .inl (fun _ => 0))) : va_E) = cE dA (va_up ad h.length q) (.inl (2, .inl (List.replicate N 0))) := by simp only [cE, rep_fun, List.length_replicate]
  rw [e1] at q1 q2
  obtain ⟨S', e2⟩ := al_next S hw q1 q2 q3
  have := k p l e R s m args below meth c D dA A mc ms ad0 n0 Z F C _ H1 locs _ _ ls S'
  rw [e2] at this
  exact this
theorem ev_newJ {N : Nat} (hd : decode M.2.2.1 pc = .ok (.newarray .long, 2)) (hN : N < 10000) (hw : wfS xs rest h = true) (k : Ev d X M (b1, b2) (pc + 2) xs (.ref h.length :: rest) (h ++ [.inl (3, .inr (.inl (List.replicate N 0)))]) Q) : Ev d X M (b1 + 1, b2 + N) pc xs (.int (nI N) :: rest) h Q := by
  intro p l e R s m args below meth c D dA A mc ms ad0 n0 Z F C ad H locs cells slots ls S
  obtain ⟨hx, hb, hml, hown, hts, hA, hK, hXF, hfr, hlo, hmc, hms, hnm, hXX⟩ := id F
  obtain ⟨s1, s2, s3, hP, hD, hS, hlx⟩ := id S
  dsimp only at s1 s2
  refine va_newa (atype := .long) (ty := .long) (a0 := (N, .inr (.inl (fun _ => 0)))) (n := nI N) (N' := N) (rest := rest.map (rv ad)) (D := D) (ws := wld dA ad h) hx hb (hts _ w_ar_J) rfl hK hP hD hS hA (fun _ => rfl) (nI_pos (by omega)) (nI_clamp (by omega)) (by show N * 8 ≤ _; omega) (by omega) (by omega) hd (fun q cA H1 hK2 q1 q2 q3 => ?_)
  have ec : cA = dA 3 := ar_cls hK (by rfl) hK2 (Or.inl ⟨by omega, Or.inr (Or.inr (Or.inr rfl))⟩)
  subst ec
  have e1 : ((.inl (dA 3, N, .inr (.inl (fun _ => 0)))) : va_E) = cE dA (va_up ad h.length q) (.inl (3, .inr (.inl (List.replicate N 0)))) := by simp only [cE, repL_fun, List.length_replicate]
  rw [e1] at q1 q2
  obtain ⟨S', e2⟩ := al_next S hw q1 q2 q3
  have := k p l e R s m args below meth c D dA A mc ms ad0 n0 Z F C _ H1 locs _ _ ls S'
  rw [e2] at this
  exact this
/-- a row of Plights -/
theorem ev_newR {gj N : Nat} (hc : ckG M pc (.anewarray ix) ix gj 7 7 = true) (hN : N < 10000) (hcn : cN M.1 = M.2.1.cls) (hw : wfS xs rest h = true) (k : Ev d X M (b1, b2) (pc + 3) xs (.ref h.length :: rest) (h ++ [.inl (4, .inr (.inr (List.replicate N none)))]) Q) : Ev d X M (b1 + 1, b2 + N) pc xs (.int (nI N) :: rest) h Q := by
  obtain ⟨hd, C0, T, hv, g1, g2, g3⟩ := ckG_of hc
  intro p l e R s m args below meth c D dA A mc ms ad0 n0 Z F C ad H locs cells slots ls S
  obtain ⟨hx, hb, hml, hown, hts, hA, hK, hXF, hfr, hlo, hmc, hms, hnm, hXX⟩ := id F
  obtain ⟨s1, s2, s3, hP, hD, hS, hlx⟩ := id S
  dsimp only at s1 s2
  have eC : C0 = RX7 := by cases hv; rfl
  subst eC
  refine va_newq (C := RX7) (n := nI N) (N' := N) (rest := rest.map (rv ad)) (D := D) (ws := wld dA ad h) hx hb hown (hts _ (by rw [← hcn]; exact g1)) hXF.2.2.2.2.1 hK hP hD hS hA (nI_pos (by omega)) (nI_clamp (by omega)) (by omega) (by omega) (by omega) hd (fun q cA H1 hK2 q1 q2 q3 => ?_)
  have ec : cA = dA 4 := ar_cls hK (by rfl) hK2 (Or.inr rfl)
  subst ec
  have e1 : ((.inl (dA 4, N, .inr (.inr (.inr (.inr (fun _ => none)))))) : va_E) = cE dA (va_up ad h.length q) (.inl (4, .inr (.inr (List.replicate N none)))) := by simp only [cE, repR_fun, List.length_replicate]
  rw [e1] at q1 q2
  obtain ⟨S', e2⟩ := al_next S hw q1 q2 q3
  have := k p l e R s m args below meth c D dA A mc ms ad0 n0 Z F C _ H1 locs _ _ ls S'
  rw [e2] at this
  exact this
end ALLOC
theorem ev_aast {d : Nat} {X : Option (List Int32)} {M : Mt} {b : Nat × Nat} {pc : Nat} {xs rest : List Value} {h : aH} {Q : Option Value → aH → Prop} {n : Int32} {a v : Nat} {rs : List (Option Nat)} {fs : List Value} (hd : decode M.2.2.1 pc = .ok (.aastore, 1)) (ha : h[a]? = some (.inl (4, .inr (.inr rs)))) (hv : h[v]? = some (.inr (7, fs))) (hin : vp_in n rs.length) (k : Ev d X M b (pc + 1) xs rest (h.set a (.inl (4, .inr (.inr (rs.set n.toNatClampNeg (some v)))))) Q) : Ev d X M b pc xs (.ref v :: .int n :: .ref a :: rest) h Q := by
  intro p l e R s m args below meth c D dA A mc ms ad0 n0 Z F C ad H locs cells slots ls S
  obtain ⟨hx, hb, hml, hown, hts, hA, hK, hXF, hfr, hlo, hmc, hms, hnm, hXX⟩ := id F
  obtain ⟨s1, s2, s3, hP, hD, hS, hlx⟩ := id S
  refine va_astq (r := (RX7, TX7, 7)) (rest := rest.map (rv ad)) (D := D) (ws := wld dA ad h) hx hb hK hP hD hS a 4 v 7 (wld_some ha) rfl (wld_some hv) rfl hin hd (fun H1 locs1 q1 q2 q3 => ?_)
  rw [upR_getD _ _ _ _ (vp_in_lt hin)] at q1 q2
  have e1 : ((ad a, Sum.inl (dA 4, rs.length, .inr (.inr (.inr (.inr (fun j => ((rs.set n.toNatClampNeg (some v)).getD j none).map ad)))))) : Nat × va_E) = (ad a, cE dA ad (.inl (4, .inr (.inr (rs.set n.toNatClampNeg (some v)))))) := by simp only [cE, List.length_set]
  rw [e1, wld_set] at q1 q2
  exact k p l e R s m args below meth c D dA A mc ms ad0 n0 Z F C ad H1 locs1 cells slots ls ⟨s1, s2, by simpa using s3, q1, q2, q3, hlx⟩
