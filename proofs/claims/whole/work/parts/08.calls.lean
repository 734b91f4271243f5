/-! BLOCKS, CONTRACTS, CALLS -/
abbrev En : Type := Instr × (Nat × Nat × Nat)
def okB (M : Mt) : Nat → Nat → List En → Bool
  | pc, np, [] => pc == np
  | pc, np, e :: tl => decide (decode M.2.2.1 pc = .ok (e.1, lenI e.1)) && (okI M pc e.1 e.2 && okB M (pc + lenI e.1) np tl)
def evE (d : Nat) (X : Option (List Int32)) (M : Mt) (b : Nat × Nat) (Q : Option Value → aH → Prop) (pc : Nat) (xs : List Value) (h : aH) (st : List Value) : Prop := Ev d X M b pc xs st h Q
def evL (M : Mt) (X : Option (List Int32)) (Q : Option Value → aH → Prop) (K : Nat → KT) : List En → Nat → KT
  | [], np, xs, h, st => K np xs h st
  | e :: tl, np, xs, h, st => stq M X e.1 e.2 xs h st (evL M X Q K tl np) K Q
def evK (sp : List Nat) (E V : Nat → KT) (t : Nat) (xs : List Value) (h : aH) (st : List Value) : Prop := if t ∈ sp then E t xs h st else V t xs h st
/-- block after block, through the blocks of L, n times at most, no further than a place of 'sp' -/
def evP (d : Nat) (X : Option (List Int32)) (M : Mt) (b : Nat × Nat) (Q : Option Value → aH → Prop) (L : List (Nat × Nat × List En)) (sp : List Nat) : Nat → Nat → KT
  | 0, pc, xs, h, st => evE d X M b Q pc xs h st
  | n + 1, pc, xs, h, st => (match L.lookup pc with
    | some e => evL M X Q (evK sp (evE d X M b Q) (evP d X M b Q L sp n)) e.2 e.1 xs h st
    | none => evE d X M b Q pc xs h st)
theorem evP_0 {d : Nat} {X : Option (List Int32)} {M : Mt} {b : Nat × Nat} {Q : Option Value → aH → Prop} {L : List (Nat × Nat × List En)} {sp : List Nat} {pc : Nat} {xs : List Value} {h : aH} {st : List Value} : evP d X M b Q L sp 0 pc xs h st = evE d X M b Q pc xs h st := rfl
theorem evK_in {sp : List Nat} {E V : Nat → KT} {t : Nat} {xs : List Value} {h : aH} {st : List Value} (ht : t ∈ sp) : evK sp E V t xs h st = E t xs h st := if_pos ht
theorem evK_out {sp : List Nat} {E V : Nat → KT} {t : Nat} {xs : List Value} {h : aH} {st : List Value} (ht : ¬ t ∈ sp) : evK sp E V t xs h st = V t xs h st := if_neg ht
theorem evL_nil {M : Mt} {X : Option (List Int32)} {Q : Option Value → aH → Prop} {K : Nat → KT} {np : Nat} {xs : List Value} {h : aH} {st : List Value} : evL M X Q K [] np xs h st = K np xs h st := rfl
def okP (M : Mt) (L : List (Nat × Nat × List En)) : Bool := L.all (fun e => okB M e.1 e.2.1 e.2.2)
section EVP
variable {d : Nat} {X : Option (List Int32)} {M : Mt} {b : Nat × Nat} {Q : Option Value → aH → Prop}
theorem evL_ok (hcn : cN M.1 = M.2.1.cls) {K : Nat → KT} (hK : ∀ t xs st h, K t xs h st → Ev d X M b t xs st h Q) : ∀ {blk : List En} {pc np : Nat} {xs st : List Value} {h : aH}, okB M pc np blk = true → evL M X Q K blk np xs h st → Ev d X M b pc xs st h Q := by
  intro blk
  induction blk with
  | nil =>
    intro pc np xs st h h1 h2
    have e : pc = np := by simpa [okB] using h1
    rw [e]
    exact hK _ _ _ _ h2
  | cons e tl ih =>
    intro pc np xs st h h1 h2
    unfold okB at h1
    simp only [Bool.and_eq_true, decide_eq_true_eq] at h1
    exact stp_ok (fun _ => hcn) h1.1 h1.2.1 (stq_stp h2) (fun xs' st' h' q => ih h1.2.2 q) (fun t xs' st' h' q => hK t xs' st' h' q) (fun r h' q => q)
theorem lookup_mem {α : Type} : ∀ {L : List (Nat × α)} {k : Nat} {e : α}, L.lookup k = some e → (k, e) ∈ L := by
  intro L
  induction L with
  | nil => intro k e h; cases h
  | cons x tl ih =>
    intro k e h
    obtain ⟨a, v⟩ := x
    rw [List.lookup_cons] at h
    by_cases hk : k == a
    · rw [hk] at h
      cases h
      have : k = a := by simpa using hk
      rw [this]
      exact List.mem_cons_self
    · rw [show (k == a) = false by simpa using hk] at h
      exact List.mem_cons_of_mem _ (ih h)
theorem ev_p (n : Nat) {L : List (Nat × Nat × List En)} (sp : List Nat) (hcn : cN M.1 = M.2.1.cls) (hL : okP M L = true) : ∀ {pc : Nat} {xs st : List Value} {h : aH}, evP d X M b Q L sp n pc xs h st → Ev d X M b pc xs st h Q := by
  induction n with
  | zero => intro pc xs st h q; exact q
  | succ n ih =>
    intro pc xs st h q
    unfold evP at q
    split at q
    · rename_i e he
      have h1 := List.all_eq_true.mp hL _ (lookup_mem he)
      refine evL_ok hcn (fun t xs st h z => ?_) h1 q
      unfold evK at z
      split at z
      · exact z
      · exact ih z
    · exact q
end EVP
/-- less known locals -/
theorem ev_les {d : Nat} {X : Option (List Int32)} {M : Mt} {b : Nat × Nat} {Q : Option Value → aH → Prop} {pc : Nat} {xs ys st : List Value} {h : aH} (hl : ∀ (i : Nat) (v : Value), xs[i]? = some v → v = .null ∨ ys[i]? = some v) (k : Ev d X M b pc xs st h Q) : Ev d X M b pc ys st h Q := by
  intro p l e R s m args below meth c D dA A mc ms ad0 n0 Z F C ad H locs cells slots ls S
  obtain ⟨s1, s2, s3, hP, hD, hS, hlx⟩ := S
  refine k p l e R s m args below meth c D dA A mc ms ad0 n0 Z F C ad H locs cells slots ls ⟨s1, s2, s3, hP, hD, hS, lvx_les hlx ?_⟩
  intro i v hv
  rw [List.getElem?_map] at hv
  cases hx : xs[i]? with
  | none => rw [hx] at hv; cases hv
  | some w =>
    rw [hx] at hv
    cases hv
    rcases hl i w hx with rfl | h2
    · exact Or.inl rfl
    · exact Or.inr (by rw [List.getElem?_map, h2]; rfl)
theorem ev_post {d : Nat} {X : Option (List Int32)} {M : Mt} {b : Nat × Nat} {Q Q' : Option Value → aH → Prop} {pc : Nat} {xs st : List Value} {h : aH} (k : Ev d X M b pc xs st h Q) (hq : ∀ r h', Q r h' → Q' r h') : Ev d X M b pc xs st h Q' := by
  intro p l e R s m args below meth c D dA A mc ms ad0 n0 Z F C
  exact k p l e R s m args below meth c D dA A mc ms ad0 n0 Z F ⟨fun r h ad H locs cells slots ls xs pc q => C.1 r h ad H locs cells slots ls xs pc (hq _ _ q), fun h ad H locs cells slots ls xs pc q => C.2 h ad H locs cells slots ls xs pc (hq _ _ q)⟩
def rmD (d : Nat) (b : Nat × Nat) : Room := { frames := d, cells := b.1, slots := b.2, locals := 40 * d }
def QC (Q : Option Value → aH → Prop) (b : Nat × Nat) (D : va_G) (dA : Nat → ClassId) (ad : Nat → Nat) (h : aH) (sz : Nat) : Array Value → State → Outcome → State → Prop := fun _ st oc t =>
  (∃ (r : Option Value) (h' : aH) (ad' : Nat → Nat), oc = .returned (r.map (rv ad')) ∧ Q r h' ∧ Ag ad h.length b.1 ad' h'.length ∧ va_P D vwCl (wld dA ad' h') t.heap ∧ va_D (va_A (wld dA ad h) sz) (wld dA ad' h')) ∧ va_F (va_A (wld dA ad h) sz) st t
def PCc (as : List Value) (D : va_G) (dA : Nat → ClassId) (ad : Nat → Nat) (h : aH) (sz : Nat) : Array Value → State → Prop :=
  va_Pc (as.map (rv ad)) (fun U => U.heap.size = sz ∧ va_P D vwCl (wld dA ad h) U.heap ∧ va_K D vwCl (tyL dA) U ∧ XF ad (va_A (wld dA ad h) sz) U ∧ va_D (fun _ => True) (wld dA ad h))
/-- a method's contract: at depth d, with room for b cells and slots, from these arguments and this heap: it returns, and Q holds -/
def CT (d : Nat) (M : Mt) (b : Nat × Nat) (as : List Value) (h : aH) (Q : Option Value → aH → Prop) : Prop :=
  ∀ (l : LN) (D : va_G) (dA : Nat → ClassId) (ad : Nat → Nat) (sz : Nat), Met l M.2.1 (cw M :: gtbl) (rmD d b) (PCc as D dA ad h sz) (QC Q b D dA ad h sz) b.1 b.2 (va_A (wld dA ad h) sz)
def rOK (ret : Option FieldType) (r : Option Value) : Prop := match r with
  | none => ret = none
  | some (.int x) => ∃ ty, ret = some ty ∧ narrow ty (.int x) = .int x
  | some (.long _) => ret = some .long
  | _ => False
theorem sl_len : ∀ (vs : List Value), (lg_sl vs).length = (eL vs).length := by
  intro vs
  induction vs with
  | nil => rfl
  | cons a r ih => cases a <;> simp_all [lg_sl, eL, Value.category]
theorem PCc_blind (as : List Value) (D : va_G) (dA : Nat → ClassId) (ad : Nat → Nat) (h : aH) (sz : Nat) : FrameBlind (PCc as D dA ad h sz) := by
  intro a U g mk q
  obtain ⟨q0, q1, q2, q3, q4, q5⟩ := q
  exact ⟨q0, q1, q2, va_K.moved (u := U) (U := U.calling g mk a) (Vm.Alike.refl U.vm) q3, XF.same (u := U) (U := U.calling g mk a) rfl rfl q4, q5⟩
theorem ct_ev {d : Nat} {M : Mt} {b : Nat × Nat} {as : List Value} {h : aH} {Q : Option Value → aH → Prop} (hpl : plainName M.2.1.cls = true) (hlen : (eL as).length ≤ M.2.2.2.1) (hQ : ∀ r h', Q r h' → rOK M.2.2.2.2 r) (k : Ev d none M b 0 (eN as M.2.2.2.1) [] h Q) : CT d M b as h Q := by
  intro l D dA ad sz
  refine Met.ofW (cc := M.2.2.1) (maxL := M.2.2.2.1) (ret := M.2.2.2.2) hpl rfl ?_
  intro p e s m args below meth c s₁ B hml hv
  obtain ⟨rfl, hsz, hP, hK, hX, hD0⟩ := hv
  have hx := B.exec
  have hb := B.bytes
  have hr := B.returns
  have hts0 := atoms_spec (ws := cw M :: gtbl) B.pre
  have hown : s.vm.findClass M.2.1.cls = some m.cls := findClass_of_methodNamed B.named
  have hnm : meth.name = M.2.1.name := (name_of_methodNamed B.named B.method).1
  have hlocks := B.notSynchronized
  subst hsz
  have hD := hD0.self (sz := s.heap.size)
  have hl0 := lv_entry (as.map (rv ad)) (n := M.2.2.2.1) (by rw [sl_len, eL_map, List.length_map]; exact hlen)
  rw [lg_entry_eq]
  generalize (lg_sl (as.map (rv ad)) ++ List.replicate (M.2.2.2.1 - (lg_sl (as.map (rv ad))).length) Slot.unset).toArray = ls at hl0 ⊢
  have hl := lvx_entry hl0
  rw [eN_map] at hl
  refine k p l e _ s m _ below meth c D dA (va_A (wld dA ad h) s.heap.size) b.1 b.2 ad h.length _ ⟨hx, hb, hml, hown, fun w hw => hts0 w (List.mem_cons_of_mem _ hw), fun q hq => Or.inr hq, hK, hX, Nat.le_refl _, Nat.le_refl _, Nat.le_refl _, Nat.le_refl _, fun z => hnm.trans z, fun ys z => by cases z⟩ ⟨?_, fun h9 ad9 H9 locs9 cells9 slots9 ls9 xs9 pc9 q9 => False.elim (hQ _ _ q9)⟩ ad s.heap [] 0 0 ls ⟨by omega, by omega, ⟨fun _ _ => rfl, fun _ => rfl, Nat.le_refl _⟩, hP, hD, va_S.rf, hl⟩
  intro r h' ad' H locs cells slots ls xs pc hq hSx hrr hdec
  obtain ⟨b', s1, s2, s3, hP', hD', hS', -⟩ := hSx
  refine W.widen (k := b.1) (n := b.2) (by omega) (by omega) ?_
  have hro := hQ r h' hq
  rcases hrr with ⟨x, rfl⟩ | ⟨x, rfl⟩ | rfl
  · obtain ⟨ty, e1, e2⟩ := hro
    exact W.zret (v := x) (ty := ty) hx hb (hr.trans e1) e2 (fun t ht hW => ⟨⟨some (.int x), h', ad', rfl, hq, s3, by rw [ht]; exact hP', hD'⟩, hS'.F ht⟩) hS'.2.2 hdec
  · exact W.lret (v := x) hx hb (hr.trans hro) (fun t ht hW => ⟨⟨some (.long x), h', ad', rfl, hq, s3, by rw [ht]; exact hP', hD'⟩, hS'.F ht⟩) hS'.2.2 hdec
  · exact W.vret hx hb (hr.trans hro) (fun t ht hW => ⟨⟨none, h', ad', rfl, hq, s3, by rw [ht]; exact hP', hD'⟩, hS'.F ht⟩) hS'.2.2 hdec
theorem ct_post {d : Nat} {M : Mt} {b : Nat × Nat} {as : List Value} {h : aH} {Q : Option Value → aH → Prop} (k : CT d M b as h Q) : CT d M b as h Q := k
section RUN
variable {p : Program} {l : Launch} {e : Env} {R : Room} {s : State} {m : MethodId} {args : Array Value} {below : List Frame} {meth : Method} {c : Code} {H : Heap} {locs : List Loc} {cells slots : Nat} {Z : State → Prop}
theorem w_run {D : va_G} {dA : Nat → ClassId} {ad : Nat → Nat} {h : aH} {Q' : Option Value → aH → Prop} {bc : Nat × Nat} {A : Nat → Prop} {pc : Nat} {ls : Array Slot} {st0 rest0 : List Value} {aa : Array Value}
    (hr : va_Run p l e R s m args below meth c H locs cells slots bc.1 bc.2 (F0 m pc ls st0) rest0 (QC Q' bc D dA ad h H.size aa) (va_A (wld dA ad h) H.size)) (hS : va_S A s.heap H locs) (hF : ∀ q, va_A (wld dA ad h) H.size q → A q)
    (kk : ∀ (r : Option Value) (h' : aH) (ad' : Nat → Nat) (H1 : Heap) (locs1 : List Loc), Q' r h' → Ag ad h.length bc.1 ad' h'.length → va_P D vwCl (wld dA ad' h') H1 → va_D A (wld dA ad' h') → va_S A s.heap H1 locs1 → W p l e R s m args below meth c H1 locs1 (cells + bc.1) (slots + bc.2) Z (F0 m (pc + 3) ls ((r.map (rv ad')).toList ++ rest0))) : W p l e R s m args below meth c H locs cells slots Z (F0 m pc ls st0) := by
  intro T hT X
  obtain ⟨v, st₀, t, T', L, h0, X', hL, e1, e2, ⟨⟨r, h', ad', hv, hq, hag, hP', hD'⟩, hz, hk⟩, st⟩ := hr T hT X
  cases hv
  rw [h0] at hz hk
  obtain ⟨t2, a1, b1⟩ := kk r h' ad' T'.heap (locs ++ L) hq hag (by rw [e1]; exact hP') (hD'.weaken (fun _ _ _ z => hF _ z))
    ⟨Nat.le_trans hS.1 (by rw [e1]; exact hz), fun q h1 h2 => by rw [e1, hk q (Nat.lt_of_lt_of_le h1 hS.1) (fun z => h2 (hF q z))]; exact hS.2.1 q h1 h2, fun q hq => by
      rcases List.mem_append.mp hq with h | h
      · exact hS.2.2 q h
      · exact hF _ (hL q h)⟩ T' rfl X'
  exact ⟨t2, st t2 a1, b1⟩
end RUN
def ckL (o ix j lj : Nat) : Bool := match lT[lj]? with
  | some (o', i', j', _) => o' == o && (i' == ix && j' == j)
  | none => false
def ckM (j kd n : Nat) : Bool := match MI[j]? with
  | some e => e.1 == kd && e.2.1 == n
  | none => false
theorem ckL_of {o ix j lj : Nat} {M' : Mt} (h : ckL o ix j lj = true) (hj : MT[j]? = some M') : Cond.methodLink (cN o) ix M'.2.1 ∈ gtbl := by
  unfold ckL at h
  split at h
  · rename_i o' i' j' pl hl
    simp only [Bool.and_eq_true, beq_iff_eq] at h
    obtain ⟨rfl, rfl, rfl⟩ := h
    have h1 := List.all_eq_true.mp lT_ok _ (List.mem_of_getElem? hl)
    unfold okl at h1
    dsimp only at h1
    rw [hj] at h1
    exact gt_of (of_decide_eq_true h1) rfl
  · cases h
theorem ckM_of {j kd n : Nat} {M' : Mt} (h : ckM j kd n = true) (hj : MT[j]? = some M') : plainName M'.2.1.cls = true ∧ (M'.2.1.cls ≠ "java/lang/invoke/MethodHandle" ∧ M'.2.1.cls ≠ "java/lang/invoke/VarHandle") ∧ (parseMethodDescriptor M'.2.1.desc).map (fun d => d.parameters.length) = some n ∧ Cond.initialized M'.2.1.cls ∈ gtbl ∧
    (kd = 0 → Cond.instanceMethod M'.2.1 ∈ gtbl ∧ Cond.selects M'.2.1.cls M'.2.1 M'.2.1 ∈ gtbl) ∧ (kd = 1 → Cond.static M'.2.1 ∈ gtbl) ∧ (kd = 2 → Cond.instanceMethod M'.2.1 ∈ gtbl ∧ M'.2.1.name = "<init>") := by
  unfold ckM at h
  split at h
  · rename_i e he
    obtain ⟨kd', n', dj, cj, p1, p2, p3⟩ := e
    simp only [Bool.and_eq_true, beq_iff_eq] at h
    obtain ⟨rfl, rfl⟩ := h
    have h1 := mi_at hj he
    unfold okm at h1
    simp only [Bool.and_eq_true, decide_eq_true_eq] at h1
    obtain ⟨⟨⟨h2, h3⟩, h4⟩, h5⟩ := h1
    obtain ⟨g1, g2⟩ := pnT_ok _ (List.mem_of_getElem? h3)
    refine ⟨g1, g2, dT_ok _ (List.mem_of_getElem? h2), gt_of h4 rfl, fun z => ?_, fun z => ?_, fun z => ?_⟩
    · subst z
      simp only [Bool.and_eq_true, decide_eq_true_eq] at h5
      exact ⟨gt_of h5.1 rfl, gt_of h5.2 rfl⟩
    · subst z
      exact gt_of (of_decide_eq_true h5) rfl
    · subst z
      simp only [Bool.and_eq_true, decide_eq_true_eq] at h5
      exact ⟨gt_of h5.1 rfl, h5.2⟩
  · cases h
/-- the words of a call -/
theorem cb_w {R : Room} {s : State} {args : Array Value} {d n : Nat} {M M' : Mt} {ix j kd : Nat} {bc : Nat × Nat} (hts : ∀ w ∈ gtbl, w.before args s = true) (hj : MT[j]? = some M') (hl : Cond.methodLink M.2.1.cls ix M'.2.1 ∈ gtbl) (hm : ckM j kd n = true) (hmx : M'.2.2.2.1 ≤ 20) (hfr : d + 1 ≤ R.frames) (hlo : 40 * (d + 1) ≤ R.locals) :
    CallB R s args M.2.1.cls ix M'.2.1 M'.2.2.1 M'.2.2.2.1 M'.2.2.2.2 (cw M' :: gtbl) (rmD d bc) bc.1 bc.2 n := by
  obtain ⟨h1, h2, h3, h4, -, -, -⟩ := ckM_of hm hj
  have hcw := cw_ok M' (List.mem_of_getElem? hj)
  refine ⟨rfl, rfl, hfr, by show 8 + (M'.2.2.2.1 + 11) + 40 * d ≤ R.locals; omega, ?_, List.mem_cons_self, hts _ hcw, hts _ h4, h2, fun sig hs => ?_, ?_⟩
  · refine pay_in hts (fun w hw => ?_)
    rcases List.mem_cons.mp hw with rfl | hw
    · exact ⟨hcw, good_of_word (gt_good hcw)⟩
    · exact ⟨hw, good_of_word (gt_good hw)⟩
  · rw [hs] at h3; exact (Option.some.inj h3).symm
  · exact hts _ hl
/-- the words of a call -/
theorem cb_of {R : Room} {s : State} {args : Array Value} {d n : Nat} {M M' : Mt} {ix j lj kd : Nat} {bc : Nat × Nat} (hcn : cN M.1 = M.2.1.cls) (hts : ∀ w ∈ gtbl, w.before args s = true) (hj : MT[j]? = some M') (hl : ckL M.1 ix j lj = true) (hm : ckM j kd n = true) (hmx : M'.2.2.2.1 ≤ 20) (hfr : d + 1 ≤ R.frames) (hlo : 40 * (d + 1) ≤ R.locals) :
    CallB R s args M.2.1.cls ix M'.2.1 M'.2.2.1 M'.2.2.2.1 M'.2.2.2.2 (cw M' :: gtbl) (rmD d bc) bc.1 bc.2 n :=
  cb_w hts hj (by rw [← hcn]; exact ckL_of hl hj) hm hmx hfr hlo
theorem va_sub {D : va_G} {dA : Nat → ClassId} {ad : Nat → Nat} {h : aH} {A : Nat → Prop} {s : State} {H : Heap} {locs : List Loc} (hD : va_D A (wld dA ad h)) (hS : va_S A s.heap H locs) (hA : ∀ q : Nat, s.heap.size ≤ q → A q) : ∀ q, va_A (wld dA ad h) H.size q → A q := by
  intro q z
  rcases z with ⟨k, e, z⟩ | z
  · exact hD.2 k _ z
  · exact hA q (Nat.le_trans hS.1 z)
theorem pc_at {D : va_G} {dA : Nat → ClassId} {ad ad0 : Nat → Nat} {h : aH} {A : Nat → Prop} {s : State} {H : Heap} {locs : List Loc} {as : List Value} (hK : va_K D vwCl (tyL dA) s) (hX : XF ad0 A s) (had : ∀ k, SB ≤ k → ad k = ad0 k) (hP : va_P D vwCl (wld dA ad h) H) (hD : va_D A (wld dA ad h)) (hS : va_S A s.heap H locs) (hA : ∀ q : Nat, s.heap.size ≤ q → A q) : ∀ U : State, U.heap = H → s.WarmedH U.vm → PCc as D dA ad h H.size (as.map (rv ad)).toArray U := by
  intro U hU hW
  refine ⟨rfl, by rw [hU], by rw [hU]; exact hP, va_K.moved hW.alike hK, XF.call (locs := locs) hX hW (by rw [hU]; exact hS) (va_sub (D := D) hD hS hA) had, hD.weaken (fun _ _ _ _ => trivial)⟩
/-- a call of an instance method that makes nothing -/
theorem ev_callV {d : Nat} {X : Option (List Int32)} {M M' : Mt} {b : Nat × Nat} {pc : Nat} {xs st : List Value} {h : aH} {Q Q' : Option Value → aH → Prop} {ix j lj n a : Nat} {as rest fs : List Value}
    (hcn : cN M.1 = M.2.1.cls) (hcn' : cN M'.1 = M'.2.1.cls) (hd : decode M.2.2.1 pc = .ok (.invokevirtual ix, 3)) (hj : MT[j]? = some M') (hl : ckL M.1 ix j lj = true) (hm : ckM j 0 n = true) (hmx : M'.2.2.2.1 ≤ 20) (hct : CT d M' (0, 0) (.ref a :: as) h Q') (ha : h[a]? = some (.inr (M'.1, fs))) (hn : as.length = n) (hst : st = as.reverse ++ .ref a :: rest) (hcat : (rest.map fun v => v.category).sum ≤ 8)
    (hk : ∀ r h', Q' r h' → Ev (d + 1) X M b (pc + 3) xs (r.toList ++ rest) h' Q) : Ev (d + 1) X M b pc xs st h Q := by
  intro p l e R s m args below meth c D dA A mc ms ad0 n0 Z F C ad H locs cells slots ls S
  obtain ⟨hx, hb, hml, hown, hts, hA, hK, hXF, hfr, hlo, hmc, hms, hnm, hXX⟩ := id F
  obtain ⟨s1, s2, s3, hP, hD, hS, hlx⟩ := id S
  have hF := va_sub (D := D) hD hS hA
  obtain ⟨q, hq, cell, g1, g2, g3, -⟩ := hP a _ (wld_some ha)
  have hcl : q.1 = M'.2.1.cls := by rw [(cls_ok _ _ hq).2.2.2]; exact hcn'
  obtain ⟨-, -, -, -, hv, -, -⟩ := ckM_of hm hj
  obtain ⟨hv1, hv2⟩ := hv rfl
  subst hst
  refine w_run (bc := (0, 0)) (rest0 := rest.map (rv ad)) (va_runV (As := as.map (rv ad)) (C := M'.2.1.cls) (b := ad a) (n := n) ⟨hx, hb, hml, hown, hts⟩ (hct l D dA ad H.size) ⟨cb_of hcn hts hj hl hm hmx hfr hlo, hts _ hv1, hts _ hv2⟩ ⟨PCc_blind _ _ _ _ _ _, ⟨cell, g1, by rw [g3]; rfl, by rw [g2, ← hcl]; exact (hK.1 _ q hq).2.1⟩, pc_at (as := .ref a :: as) hK hXF (fun k hk => s3.1 k (Or.inr hk)) hP hD hS hA⟩ rfl (by simpa using hn) hlx.1 (by simp [rv]) (lv_room (by rw [rv_cats]; exact hcat)) hd ⟨by show cells + 0 ≤ R.cells; omega, by show slots + 0 ≤ R.slots; omega⟩) hS hF ?_
  intro r h' ad' H1 locs1 hq' hag hP1 hD1 hS1
  have e : ad' = ad := hag.2.1 rfl
  subst e
  have := hk r h' hq' p l e R s m args below meth c D dA A mc ms ad0 n0 Z F C ad' H1 locs1 cells slots ls ⟨s1, s2, ⟨s3.1, s3.2.1, Nat.le_trans s3.2.2 hag.2.2⟩, hP1, hD1, hS1, hlx⟩
  rw [List.map_append] at this
  rw [show ((r.map (rv ad')).toList : List Value) = r.toList.map (rv ad') by cases r <;> rfl]
  exact this
/-- a call of a static method that makes nothing -/
theorem ev_callS {d : Nat} {X : Option (List Int32)} {M M' : Mt} {b : Nat × Nat} {pc : Nat} {xs st : List Value} {h : aH} {Q Q' : Option Value → aH → Prop} {ix j lj n : Nat} {as rest : List Value}
    (hcn : cN M.1 = M.2.1.cls) (hd : decode M.2.2.1 pc = .ok (.invokestatic ix, 3)) (hj : MT[j]? = some M') (hl : ckL M.1 ix j lj = true) (hm : ckM j 1 n = true) (hmx : M'.2.2.2.1 ≤ 20) (hct : CT d M' (0, 0) as h Q') (hn : as.length = n) (hst : st = as.reverse ++ rest) (hcat : (rest.map fun v => v.category).sum ≤ 8)
    (hk : ∀ r h', Q' r h' → Ev (d + 1) X M b (pc + 3) xs (r.toList ++ rest) h' Q) : Ev (d + 1) X M b pc xs st h Q := by
  intro p l e R s m args below meth c D dA A mc ms ad0 n0 Z F C ad H locs cells slots ls S
  obtain ⟨hx, hb, hml, hown, hts, hA, hK, hXF, hfr, hlo, hmc, hms, hnm, hXX⟩ := id F
  obtain ⟨s1, s2, s3, hP, hD, hS, hlx⟩ := id S
  have hF := va_sub (D := D) hD hS hA
  obtain ⟨-, -, -, -, -, hv, -⟩ := ckM_of hm hj
  subst hst
  refine w_run (bc := (0, 0)) (rest0 := rest.map (rv ad)) (va_runS (As := as.map (rv ad)) (n := n) ⟨hx, hb, hml, hown, hts⟩ (hct l D dA ad H.size) ⟨cb_of hcn hts hj hl hm hmx hfr hlo, hts _ (hv rfl)⟩ ⟨PCc_blind _ _ _ _ _ _, pc_at (as := as) hK hXF (fun k hk => s3.1 k (Or.inr hk)) hP hD hS hA⟩ rfl (by simpa using hn) hlx.1 (by simp) (lv_room (by rw [rv_cats]; exact hcat)) hd ⟨by show cells + 0 ≤ R.cells; omega, by show slots + 0 ≤ R.slots; omega⟩) hS hF ?_
  intro r h' ad' H1 locs1 hq' hag hP1 hD1 hS1
  have e : ad' = ad := hag.2.1 rfl
  subst e
  have := hk r h' hq' p l e R s m args below meth c D dA A mc ms ad0 n0 Z F C ad' H1 locs1 cells slots ls ⟨s1, s2, ⟨s3.1, s3.2.1, Nat.le_trans s3.2.2 hag.2.2⟩, hP1, hD1, hS1, hlx⟩
  rw [List.map_append] at this
  rw [show ((r.map (rv ad')).toList : List Value) = r.toList.map (rv ad') by cases r <;> rfl]
  exact this
def okC (M : Mt) (pc : Nat) (i : Instr) (j lj kd n : Nat) : Bool := decide (decode M.2.2.1 pc = .ok (i, 3)) && (ckM j kd n && (match i with
  | .invokevirtual ix => ckL M.1 ix j lj
  | .invokestatic ix => ckL M.1 ix j lj
  | .invokespecial ix => ckL M.1 ix j lj
  | _ => false))
theorem ev_V {d : Nat} {X : Option (List Int32)} {M M' : Mt} {b : Nat × Nat} {pc : Nat} {xs st : List Value} {h : aH} {Q Q' : Option Value → aH → Prop} {ix j lj n a : Nat} {as rest fs : List Value}
    (hc : okC M pc (.invokevirtual ix) j lj 0 n = true) (hj : MT[j]? = some M') (hct : CT d M' (0, 0) (.ref a :: as) h Q') (ha : h[a]? = some (.inr (M'.1, fs))) (hcn : cN M.1 = M.2.1.cls) (hcn' : cN M'.1 = M'.2.1.cls) (hmx : M'.2.2.2.1 ≤ 20) (hn : as.length = n) (hst : st = as.reverse ++ .ref a :: rest) (hcat : (rest.map fun v => v.category).sum ≤ 8)
    (hk : ∀ r h', Q' r h' → Ev (d + 1) X M b (pc + 3) xs (r.toList ++ rest) h' Q) : Ev (d + 1) X M b pc xs st h Q := by
  unfold okC at hc
  simp only [Bool.and_eq_true, decide_eq_true_eq] at hc
  exact ev_callV hcn hcn' hc.1 hj hc.2.2 hc.2.1 hmx hct ha hn hst hcat hk
theorem ev_S {d : Nat} {X : Option (List Int32)} {M M' : Mt} {b : Nat × Nat} {pc : Nat} {xs st : List Value} {h : aH} {Q Q' : Option Value → aH → Prop} {ix j lj n : Nat} {as rest : List Value}
    (hc : okC M pc (.invokestatic ix) j lj 1 n = true) (hj : MT[j]? = some M') (hct : CT d M' (0, 0) as h Q') (hcn : cN M.1 = M.2.1.cls) (hmx : M'.2.2.2.1 ≤ 20) (hn : as.length = n) (hst : st = as.reverse ++ rest) (hcat : (rest.map fun v => v.category).sum ≤ 8)
    (hk : ∀ r h', Q' r h' → Ev (d + 1) X M b (pc + 3) xs (r.toList ++ rest) h' Q) : Ev (d + 1) X M b pc xs st h Q := by
  unfold okC at hc
  simp only [Bool.and_eq_true, decide_eq_true_eq] at hc
  exact ev_callS hcn hc.1 hj hc.2.2 hc.2.1 hmx hct hn hst hcat hk
