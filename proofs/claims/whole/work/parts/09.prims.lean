def pN (k : Nat) : MethodName := match k with
  | 1 => Lib.Math.max.name
  | 2 => Lib.Math.min.name
  | 3 => arraycopyName
  | _ => Lib.objectInit
def pT : List (Nat × Nat × Nat × Nat) := [(10, 1, 4, 128), (8, 3, 4, 136), (1, 3, 4, 194), (7, 3, 4, 200), (6, 3, 4, 239), (2, 3, 4, 290), (3, 3, 4, 326), (0, 3, 4, 361), (4, 3, 4, 387), (5, 3, 4, 406), (9, 3, 4, 426), (8, 38, 2, 604), (7, 24, 3, 781), (6, 59, 2, 916), (6, 88, 1, 926), (7, 100, 1, 995), (9, 70, 1, 1134), (3, 55, 2, 1135), (3, 92, 1, 1170), (4, 29, 2, 1248), (10, 342, 1, 1258), (11, 1, 4, 1374)]
theorem pT_ok : pT.all (fun e => decide (lw_tbl[e.2.2.2]? = some (.methodLink (cN e.1) e.2.1 (pN e.2.2.1)))) = true := by decide +kernel
theorem w_mx_s : Cond.static Lib.Math.max.name ∈ gtbl := gt_of (i := 927) (by decide +kernel) rfl
theorem w_mx_c : Cond.code Lib.Math.max.name Lib.Math.max.code 2 (some .int) ∈ gtbl := gt_of (i := 928) (by decide +kernel) rfl
theorem w_mn_s : Cond.static Lib.Math.min.name ∈ gtbl := gt_of (i := 605) (by decide +kernel) rfl
theorem w_mn_c : Cond.code Lib.Math.min.name Lib.Math.min.code 2 (some .int) ∈ gtbl := gt_of (i := 606) (by decide +kernel) rfl
theorem w_math : Cond.initialized "java/lang/Math" ∈ gtbl := gt_of (i := 111) (by decide +kernel) rfl
theorem w_sys : Cond.initialized "java/lang/System" ∈ gtbl := gt_of (i := 116) (by decide +kernel) rfl
theorem w_ac_n : Cond.native arraycopyName ∈ gtbl := gt_of (i := 783) (by decide +kernel) rfl
theorem w_ac_s : Cond.static arraycopyName ∈ gtbl := gt_of (i := 782) (by decide +kernel) rfl
theorem w_oi_i : Cond.instanceMethod Lib.objectInit ∈ gtbl := gt_of (i := 129) (by decide +kernel) rfl
theorem w_oi_c : Cond.code Lib.objectInit ⟨#[0xb1]⟩ 1 none ∈ gtbl := gt_of (i := 130) (by decide +kernel) rfl
theorem w_ar_I : Cond.arrayClass .int ∈ gtbl := gt_of (i := 187) (by decide +kernel) rfl
theorem w_ar_B : Cond.arrayClass .byte ∈ gtbl := gt_of (i := 186) (by decide +kernel) rfl
theorem w_ar_Z : Cond.arrayClass .boolean ∈ gtbl := gt_of (i := 188) (by decide +kernel) rfl
theorem w_ar_J : Cond.arrayClass .long ∈ gtbl := gt_of (i := 381) (by decide +kernel) rfl
def ckP (M : Mt) (pc ix k pj : Nat) : Bool := decide (decode M.2.2.1 pc = .ok (.invokestatic ix, 3)) && (match pT[pj]? with
  | some (o, i', k', _) => o == M.1 && (i' == ix && k' == k)
  | none => false)
theorem pT_at {o ix k pl pj : Nat} (h : pT[pj]? = some (o, ix, k, pl)) : Cond.methodLink (cN o) ix (pN k) ∈ gtbl := by
  have h1 := List.all_eq_true.mp pT_ok _ (List.mem_of_getElem? h)
  exact gt_of (of_decide_eq_true h1) rfl
theorem ckP_of {M : Mt} {pc ix k pj : Nat} (h : ckP M pc ix k pj = true) : decode M.2.2.1 pc = .ok (.invokestatic ix, 3) ∧ Cond.methodLink (cN M.1) ix (pN k) ∈ gtbl := by
  unfold ckP at h
  simp only [Bool.and_eq_true, decide_eq_true_eq] at h
  refine ⟨h.1, ?_⟩
  have h2 := h.2
  split at h2
  · rename_i o i' k' pl hp
    simp only [Bool.and_eq_true, beq_iff_eq] at h2
    obtain ⟨rfl, rfl, rfl⟩ := h2
    exact pT_at hp
  · cases h2
section PRIM
variable {d : Nat} {X : Option (List Int32)} {M : Mt} {b : Nat × Nat} {pc : Nat} {xs rest : List Value} {h : aH} {Q : Option Value → aH → Prop} {ix : Nat}
theorem ev_mx {pj : Nat} {x y : Int32} (hc : ckP M pc ix 1 pj = true) (hcn : cN M.1 = M.2.1.cls) (hcat : (rest.map fun v => v.category).sum ≤ 8) (k : Ev (d + 1) X M b (pc + 3) xs (.int (if x < y then y else x) :: rest) h Q) : Ev (d + 1) X M b pc xs (.int y :: .int x :: rest) h Q := by
  obtain ⟨hd, hl⟩ := ckP_of hc
  intro p l e R s m args below meth c D dA A mc ms ad0 n0 Z F C ad H locs cells slots ls S
  obtain ⟨hx, hb, hml, hown, hts, hA, hK, hXF, hfr, hlo, hmc, hms, hnm, hXX⟩ := id F
  obtain ⟨s1, s2, s3, hP, hD, hS, hlx⟩ := id S
  exact va_mmax (rest := rest.map (rv ad)) hx hb (hml.trans hlx.1.symm) hown (hts _ (by rw [← hcn]; exact hl)) (hts _ w_mx_s) (hts _ w_math) (hts _ w_mx_c) (by omega) (by rw [rv_cats]; omega) (by omega) (by omega) hd (k p l e R s m args below meth c D dA A mc ms ad0 n0 Z F C ad H locs cells slots ls S)
theorem ev_mn {pj : Nat} {x y : Int32} (hc : ckP M pc ix 2 pj = true) (hcn : cN M.1 = M.2.1.cls) (hcat : (rest.map fun v => v.category).sum ≤ 8) (k : Ev (d + 1) X M b (pc + 3) xs (.int (if y < x then y else x) :: rest) h Q) : Ev (d + 1) X M b pc xs (.int y :: .int x :: rest) h Q := by
  obtain ⟨hd, hl⟩ := ckP_of hc
  intro p l e R s m args below meth c D dA A mc ms ad0 n0 Z F C ad H locs cells slots ls S
  obtain ⟨hx, hb, hml, hown, hts, hA, hK, hXF, hfr, hlo, hmc, hms, hnm, hXX⟩ := id F
  obtain ⟨s1, s2, s3, hP, hD, hS, hlx⟩ := id S
  exact va_mmin (rest := rest.map (rv ad)) hx hb (hml.trans hlx.1.symm) hown (hts _ (by rw [← hcn]; exact hl)) (hts _ w_mn_s) (hts _ w_math) (hts _ w_mn_c) (by omega) (by rw [rv_cats]; omega) (by omega) (by omega) hd (k p l e R s m args below meth c D dA A mc ms ad0 n0 Z F C ad H locs cells slots ls S)
/-- arraycopy of a whole row of ints into another as long -/
theorem ev_cp {pj a0 a1 n : Nat} {ys zs : List Int32} (hc : ckP M pc ix 3 pj = true) (h0 : h[a0]? = some (.inl (0, .inl ys))) (h1 : h[a1]? = some (.inl (0, .inl zs))) (hy : ys.length = n) (hz : zs.length = n) (hn : n < 1000) (hcn : cN M.1 = M.2.1.cls) (hcat : (rest.map fun v => v.category).sum ≤ 8) (k : Ev (d + 1) X M b (pc + 3) xs rest (h.set a1 (.inl (0, .inl ys))) Q) : Ev (d + 1) X M b pc xs (.int (nI n) :: .int 0 :: .ref a1 :: .int 0 :: .ref a0 :: rest) h Q := by
  obtain ⟨hd, hl⟩ := ckP_of hc
  intro p l e R s m args below meth c D dA A mc ms ad0 n0 Z F C ad H locs cells slots ls S
  obtain ⟨hx, hb, hml, hown, hts, hA, hK, hXF, hfr, hlo, hmc, hms, hnm, hXX⟩ := id F
  obtain ⟨s1, s2, s3, hP, hD, hS, hlx⟩ := id S
  have ec : (nI n).toNatClampNeg = n := nI_clamp (by omega)
  have hnw : nativeFrameWords "java/lang/System" "arraycopy" 5 + 11 ≤ 32 := by decide +kernel
  refine va_copyi (sp := 0) (dp := 0) (n := nI n) (rest := rest.map (rv ad)) (D := D) (ws := wld dA ad h) hx hb (hml.trans hlx.1.symm) hown (hts _ (by rw [← hcn]; exact hl)) (hts _ w_ac_n) (hts _ w_ac_s) (hts _ w_sys) hK hP hD hS a0 a1 0 0 (wld_some h0) (wld_some h1) (ty := .int) rfl rfl rfl (by decide) (by decide) (nI_pos (by omega)) (by rw [ec]; show 0 + n ≤ ys.length; omega) (by rw [ec]; show 0 + n ≤ zs.length; omega) (fun i _ => rfl) (by omega) (by rw [rv_cats]; omega) hd (fun H1 locs1 q1 q2 q3 => ?_)
  have e1 : va_cpy (fun j => ys.getD j 0) (fun j => zs.getD j 0) (0 : Int32).toNatClampNeg (0 : Int32).toNatClampNeg (nI n).toNatClampNeg = fun j => ys.getD j 0 := by
    funext j
    rw [ec]
    show va_cpy _ _ 0 0 n j = _
    unfold va_cpy
    split
    · rename_i hj
      rw [show 0 + (j - 0) = j by omega]
    · rename_i hj
      have : n ≤ j := by omega
      show zs.getD j 0 = ys.getD j 0
      rw [List.getD_eq_getElem?_getD, List.getD_eq_getElem?_getD, List.getElem?_eq_none (by omega), List.getElem?_eq_none (by omega)]
  rw [e1] at q1 q2
  have e2 : ((ad a1, Sum.inl (dA 0, zs.length, .inl (fun j => ys.getD j 0))) : Nat × va_E) = (ad a1, cE dA ad (.inl (0, .inl ys))) := by simp only [cE, hy, hz]
  rw [e2, wld_set] at q1 q2
  exact k p l e R s m args below meth c D dA A mc ms ad0 n0 Z F C ad H1 locs1 cells slots ls ⟨s1, s2, by simpa using s3, q1, q2, q3, hlx⟩
/-- constants -/
def ckK (M : Mt) (pc ix kj : Nat) (v : Int32) : Bool := (decide (decode M.2.2.1 pc = .ok (.ldc ix, 2))) && (match kT[kj]? with
  | some (o, i', v', _) => o == M.1 && (i' == ix && v' == v)
  | none => false)
def ckW (M : Mt) (pc ix kj : Nat) (v : Int32) : Bool := (decide (decode M.2.2.1 pc = .ok (.ldc_w ix, 3))) && (match kT[kj]? with
  | some (o, i', v', _) => o == M.1 && (i' == ix && v' == v)
  | none => false)
def ckJ (M : Mt) (pc ix kj : Nat) (v : Int64) : Bool := (decide (decode M.2.2.1 pc = .ok (.ldc2_w ix, 3))) && (match kL[kj]? with
  | some (o, i', v', _) => o == M.1 && (i' == ix && v' == v)
  | none => false)
def ckS (M : Mt) (pc ix sj : Nat) : Bool := (decide (decode M.2.2.1 pc = .ok (.ldc ix, 2))) && (match sT[sj]? with
  | some (o, i', _) => o == M.1 && i' == ix
  | none => false)
theorem ev_ldc {kj : Nat} {v : Int32} (hc : ckK M pc ix kj v = true) (hcn : cN M.1 = M.2.1.cls) (k : Ev d X M b (pc + 2) xs (.int v :: rest) h Q) : Ev d X M b pc xs rest h Q := by
  unfold ckK at hc
  simp only [Bool.and_eq_true, decide_eq_true_eq] at hc
  obtain ⟨hd, hc⟩ := hc
  split at hc
  · rename_i o i' v' pl hp
    simp only [Bool.and_eq_true, beq_iff_eq] at hc
    obtain ⟨rfl, rfl, rfl⟩ := hc
    have hw := gt_of (of_decide_eq_true (List.all_eq_true.mp kT_ok _ (List.mem_of_getElem? hp))) rfl
    intro p l e R s m args below meth c D dA A mc ms ad0 n0 Z F C ad H locs cells slots ls S
    obtain ⟨hx, hb, hml, hown, hts, -⟩ := id F
    exact lv_ldc hx hb hown (hts _ (by rw [← hcn]; exact hw)) hd (k p l e R s m args below meth c D dA A mc ms ad0 n0 Z F C ad H locs cells slots ls S)
  · cases hc
theorem ev_ldcw {kj : Nat} {v : Int32} (hc : ckW M pc ix kj v = true) (hcn : cN M.1 = M.2.1.cls) (k : Ev d X M b (pc + 3) xs (.int v :: rest) h Q) : Ev d X M b pc xs rest h Q := by
  unfold ckW at hc
  simp only [Bool.and_eq_true, decide_eq_true_eq] at hc
  obtain ⟨hd, hc⟩ := hc
  split at hc
  · rename_i o i' v' pl hp
    simp only [Bool.and_eq_true, beq_iff_eq] at hc
    obtain ⟨rfl, rfl, rfl⟩ := hc
    have hw := gt_of (of_decide_eq_true (List.all_eq_true.mp kT_ok _ (List.mem_of_getElem? hp))) rfl
    intro p l e R s m args below meth c D dA A mc ms ad0 n0 Z F C ad H locs cells slots ls S
    obtain ⟨hx, hb, hml, hown, hts, -⟩ := id F
    exact lv_ldcw hx hb hown (hts _ (by rw [← hcn]; exact hw)) hd (k p l e R s m args below meth c D dA A mc ms ad0 n0 Z F C ad H locs cells slots ls S)
  · cases hc
theorem ev_ldcJ {kj : Nat} {v : Int64} (hc : ckJ M pc ix kj v = true) (hcn : cN M.1 = M.2.1.cls) (k : Ev d X M b (pc + 3) xs (.long v :: rest) h Q) : Ev d X M b pc xs rest h Q := by
  unfold ckJ at hc
  simp only [Bool.and_eq_true, decide_eq_true_eq] at hc
  obtain ⟨hd, hc⟩ := hc
  split at hc
  · rename_i o i' v' pl hp
    simp only [Bool.and_eq_true, beq_iff_eq] at hc
    obtain ⟨rfl, rfl, rfl⟩ := hc
    have hw := gt_of (of_decide_eq_true (List.all_eq_true.mp kL_ok _ (List.mem_of_getElem? hp))) rfl
    intro p l e R s m args below meth c D dA A mc ms ad0 n0 Z F C ad H locs cells slots ls S
    obtain ⟨hx, hb, hml, hown, hts, -⟩ := id F
    exact lv_ldc2 hx hb hown (hts _ (by rw [← hcn]; exact hw)) hd (k p l e R s m args below meth c D dA A mc ms ad0 n0 Z F C ad H locs cells slots ls S)
  · cases hc
theorem ev_ldcS {sj : Nat} (hc : ckS M pc ix sj = true) (hcn : cN M.1 = M.2.1.cls) (k : Ev d X M b (pc + 2) xs (.ref (SB + sj) :: rest) h Q) : Ev d X M b pc xs rest h Q := by
  unfold ckS at hc
  simp only [Bool.and_eq_true, decide_eq_true_eq] at hc
  obtain ⟨hd, hc⟩ := hc
  split at hc
  · rename_i o i' z hp
    simp only [Bool.and_eq_true, beq_iff_eq] at hc
    obtain ⟨rfl, rfl⟩ := hc
    intro p l e R s m args below meth c D dA A mc ms ad0 n0 Z F C ad H locs cells slots ls S
    obtain ⟨hx, hb, hml, hown, hts, hA, hK, hXF, -⟩ := id F
    obtain ⟨-, -, s3, -⟩ := id S
    have hV := hXF.2.1
    have hR := (hV sj _ hp).1
    dsimp only at hR
    rw [hcn, ← s3.1 _ (Or.inr (Nat.le_add_right _ _))] at hR
    exact va_ldcS hx hb hown hR hd (k p l e R s m args below meth c D dA A mc ms ad0 n0 Z F C ad H locs cells slots ls S)
  · cases hc
/-- switches: the target as a number -/
theorem ev_tsI {dflt lo hi : Int} {offs : Array Int} {len : Nat} {x : Int32} {t : Nat} {off : Int} (hd : decode M.2.2.1 pc = .ok (.tableswitch dflt lo hi offs, len)) (h1 : lo ≤ x.toInt ∧ x.toInt ≤ hi) (ho : offs[(x.toInt - lo).toNat]? = some off) (ht : (pc : Int) + off = (t : Int)) (k : Ev d X M b t xs rest h Q) : Ev d X M b pc xs (.int x :: rest) h Q := by
  intro p l e R s m args below meth c D dA A mc ms ad0 n0 Z F C ad H locs cells slots ls S
  obtain ⟨hx, hb, -⟩ := id F
  exact lv_tableIn hx hb hd (by omega) (by omega) ho ht (k p l e R s m args below meth c D dA A mc ms ad0 n0 Z F C ad H locs cells slots ls S)
theorem ev_tsO {dflt lo hi : Int} {offs : Array Int} {len : Nat} {x : Int32} {t : Nat} (hd : decode M.2.2.1 pc = .ok (.tableswitch dflt lo hi offs, len)) (h1 : x.toInt < lo ∨ hi < x.toInt) (ht : (pc : Int) + dflt = (t : Int)) (k : Ev d X M b t xs rest h Q) : Ev d X M b pc xs (.int x :: rest) h Q := by
  intro p l e R s m args below meth c D dA A mc ms ad0 n0 Z F C ad H locs cells slots ls S
  obtain ⟨hx, hb, -⟩ := id F
  exact lv_tableOut hx hb hd h1 ht (k p l e R s m args below meth c D dA A mc ms ad0 n0 Z F C ad H locs cells slots ls S)
theorem ev_ls {dflt : Int} {ps : Array (Int × Int)} {len : Nat} {x : Int32} {t : Nat} {off : Int} (hd : decode M.2.2.1 pc = .ok (.lookupswitch dflt ps, len)) (hp : (ps.toList.zip (ps.toList.drop 1)).all (fun (a, next) => a.1 < next.1) = true) (ho : Op.lookupswitch.offset ps.toList dflt x.toInt = off) (ht : (pc : Int) + off = (t : Int)) (k : Ev d X M b t xs rest h Q) : Ev d X M b pc xs (.int x :: rest) h Q := by
  intro p l e R s m args below meth c D dA A mc ms ad0 n0 Z F C ad H locs cells slots ls S
  obtain ⟨hx, hb, -⟩ := id F
  exact lv_lookup hx hb hd hp ho ht (k p l e R s m args below meth c D dA A mc ms ad0 n0 Z F C ad H locs cells slots ls S)
/-- Object's constructor -/
def ckO (M : Mt) (pc ix pj : Nat) : Bool := decide (decode M.2.2.1 pc = .ok (.invokespecial ix, 3)) && (match pT[pj]? with
  | some (o, i', k', _) => o == M.1 && (i' == ix && k' == 4)
  | none => false)
theorem ev_obj {pj a : Nat} (hc : ckO M pc ix pj = true) (hcn : cN M.1 = M.2.1.cls) (hcat : (rest.map fun v => v.category).sum ≤ 8) (k : Ev (d + 1) X M b (pc + 3) xs rest h Q) : Ev (d + 1) X M b pc xs (.ref a :: rest) h Q := by
  unfold ckO at hc
  simp only [Bool.and_eq_true, decide_eq_true_eq] at hc
  obtain ⟨hd, hc⟩ := hc
  split at hc
  · rename_i o i' k' pl hp
    simp only [Bool.and_eq_true, beq_iff_eq] at hc
    obtain ⟨rfl, rfl, rfl⟩ := hc
    have hw := pT_at hp
    intro p l e R s m args below meth c D dA A mc ms ad0 n0 Z F C ad H locs cells slots ls S
    obtain ⟨hx, hb, hml, hown, hts, hA, hK, hXF, hfr, hlo, hmc, hms, hnm, hXX⟩ := id F
    obtain ⟨s1, s2, s3, hP, hD, hS, hlx⟩ := id S
    refine W.objInit (rest := rest.map (rv ad)) hx hb hown (hts _ (by rw [← hcn]; exact hw)) (hts _ w_oi_i) (hts _ w_oi_c) rfl (by rw [hml]; exact hlx.1) rfl hd (by omega) ?_ (k p l e R s m args below meth c D dA A mc ms ad0 n0 Z F C ad H locs cells slots ls S)
    have := lv_room (m := m) (pc := pc) (ls := ls) (rest := Value.ref (ad a) :: rest.map (rv ad)) (st := rest.map (rv ad)) (by rw [rv_cats]; exact hcat)
    exact Nat.le_trans (Nat.add_le_add_right this 12) (by omega)
  · cases hc
end PRIM
