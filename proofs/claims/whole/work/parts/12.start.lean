/-! THE CLAIM OUT OF ONE WALK OF THE LAW'S BODY. Your part is whole_start (and what it stands on); all else here is the same for every law, but numbers. -/
def R_law : String := "LeanTableLaw"
def lw_P (b : Addr) (xs : List Int32) (args : Array Value) (s : State) : Prop := args = #[.ref b] ∧ s.IntsAt b xs ∧ xs.length ≤ 3072 ∧ (Jvm.Cond.and given_1 narrow_1).before args s = true
def lw_Q (_ : Array Value) (s : State) (o : Outcome) (t : State) : Prop := o = .returned (some (.int 1)) ∧ Framed s o t [] 601024 7293033
def lw_Z (below : List Frame) (a : Array Value) (s : State) : State → Prop := fun t => ∃ o, t.status = .running ∧ Ended t below o ∧ lw_Q a s o t
/-- the law's own end, with 1 on the stack, nothing written that was there before, its room as the claim has it -/
theorem lw_ret {p : Program} {l : Launch} {e : Env} {s : State} {m : MethodId} {below : List Frame} {meth : Method} {c : Code} {b : Nat} (hx : p.tables.exec = Jvm.exec) (hb : c.code = code) (hr : meth.sig.returnType = ret) (hlocks : meth.locks = false) {pc : Nat} {H : Heap} {ls : Array Slot} (hdg : decode code pc = .ok (.ireturn, 1)) : W p l e room_1 s m #[Value.ref b] below meth c H [] 601024 7293033 (lw_Z below #[Value.ref b] s) (F0 m pc ls [.int 1]) := by
  intro T hT X
  obtain ⟨fs, hret, hrun, hended, hW, hframe⟩ := X.leave (v := some (.int 1)) (hlocks := hlocks) (fun h => by rw [hr] at h; cases h)
  have hmeth' : T.vm.method? m = some meth := X.method'
  refine ⟨T.setFrames fs, ?_, .returned (some (.int 1)), hrun, hended, rfl, ⟨_, rfl⟩, hW, hframe⟩
  jvm_step X.here [X.here.top, hx, hb, hdg, hmeth', hr, ret, narrow_b1]
  (try refine ⟨rfl, ?_⟩); (try refine ⟨rfl, ?_⟩)
  first | (intro acts; rw [hret _ acts rfl rfl rfl]) | rw [hret _ _ rfl rfl rfl]
  exact Steps.refl _
/-- what holds at the law's entry: the machine, the code, the tables' words (any of lw_tbl by 'hts w (by decide +kernel)'), the script of L ints xs at the cell b, what the Statement gives of the start (any of its parts by flat_of_before) -/
def lw_At (p : Program) (s : State) (m : MethodId) (meth : Method) (c : Code) (b L : Nat) (xs : Nat → Int32) : Prop :=
  p.tables.exec = Jvm.exec ∧ c.code = code ∧ meth.sig.returnType = ret ∧ c.maxLocals = 7 ∧ s.vm.findClass R_law = some m.cls ∧ (∀ w ∈ lw_tbl, w.before #[Value.ref b] s = true) ∧ va_X b L xs s s.heap ∧ b < s.heap.size ∧ meth.locks = false ∧ (Jvm.Cond.and given_1 narrow_1).before #[Value.ref b] s = true
def flN : List Cond := flatC (Jvm.Cond.and given_1 narrow_1)
def sTm (e : Nat × Nat × Nat × Nat) : Term := Term.string (cN e.1) e.2.1
def sVl (e : Nat × Nat × Nat × Nat) : Term := .field (sTm e) "java/lang/String" "value" "[B"
def strC (e : Nat × Nat × Nat × Nat) : List Cond := [.exactly (sTm e) "java/lang/String", .eq (.field (sTm e) "java/lang/String" "code\x72" "B") (.int 0), .arrayOf (sVl e) .byte, .eq (.length (sVl e)) (.int (Int32.ofNat (sLen.getD e.2.2.1 0)))] ++ (List.range (sLen.getD e.2.2.1 0)).map (fun j => .eq (.elem (sVl e) (.int (Int32.ofNat j))) (.int ((sByt.getD e.2.2.1 []).getD j 0)))
set_option maxRecDepth 100000 in
theorem strC_ok : sT.flatMap strC = ([23, 24, 25, 26, 27, 28, 29, 30, 31, 32, 33, 34, 35, 36, 37, 38, 39, 40, 41, 42, 43, 44, 45, 46, 47, 48, 49, 50, 51, 52, 53, 54, 55, 56, 57, 58, 59, 60, 61, 62, 63, 64, 65, 66, 67, 68, 69, 70, 71, 72, 73, 74, 75, 76, 77, 78, 79, 80, 81, 82, 83, 84, 85, 86, 87, 88, 89, 90, 91, 92, 93, 94, 95, 96, 97, 98, 99, 100, 101, 102, 103, 104, 105, 106, 107, 108, 109, 110, 111, 112, 113, 114, 115, 116, 117, 118, 119, 120, 121, 122, 123, 124, 125, 126, 127, 128, 129, 130, 131, 132, 133, 134, 135, 136, 137, 138, 139, 140, 141, 142, 143, 144, 145, 146, 147, 148, 149, 150, 151, 152, 153, 154, 155, 156, 157, 158, 159, 160, 161, 162, 163, 164, 165, 166, 167, 168, 169, 170, 171, 172, 173, 174, 175, 176, 177, 178, 179, 180, 181, 183, 184, 185, 186, 187, 188, 189, 190, 192, 193, 194, 195, 196, 197, 198, 199, 200, 201, 203, 204, 205, 206, 207, 208, 209, 210, 211, 212, 214, 215, 216, 217, 218, 219, 220, 221, 222, 223, 225, 226, 227, 228, 229, 230, 231, 232, 234, 235, 236, 237, 238, 239, 240, 241, 243, 244, 245, 246, 247, 248, 249, 250, 251, 252, 254, 255, 256, 257, 258, 259, 260, 261, 262, 264, 265, 266, 267, 268, 269, 270, 271, 272, 274, 275, 276, 277, 278, 279, 280, 281, 283, 284, 285, 286, 287, 288, 289, 290, 291, 293, 294, 295, 296, 297, 298, 299, 300, 301, 302, 304, 305, 306, 307, 308, 309, 310, 311, 313, 314, 315, 316, 317, 318, 319, 320, 322, 323, 324, 325, 326, 327, 328, 329, 330, 332, 333, 334, 335, 336, 337, 338] : List Nat).filterMap (fun i => flN[i]?) := by decide +kernel
theorem cmp_ok : flN[4]? = some (.eq (.static "java/lang/String" "COMPACT_STRINGS" "Z") (.int 1)) := by decide +kernel
theorem sio_ok : flN[5]? = some (.isRef (.static "jdk/internal/util/Preconditions" "SIOOBE_FORMATTER" "Ljava/util/function/BiFunction;")) := by decide +kernel
theorem cmp_l : lw_tbl[647]? = some (.laysStatic "java/lang/String" "COMPACT_STRINGS" "Z") := by decide +kernel
theorem sio_l : lw_tbl[663]? = some (.laysStatic "jdk/internal/util/Preconditions" "SIOOBE_FORMATTER" "Ljava/util/function/BiFunction;") := by decide +kernel
theorem cmp_i : lw_tbl[112]? = some (.initialized "java/lang/String") := by decide +kernel
theorem sio_i : lw_tbl[114]? = some (.initialized "jdk/internal/util/Preconditions") := by decide +kernel
theorem ovr_l : lw_tbl[292]? = some (.arrayOver (.object RX7)) := by decide +kernel
theorem sLen_ok : ∀ e ∈ sT, sLen.getD e.2.2.1 0 < 2 ^ 31 := by decide +kernel
def insT : List Nat := [357, 190, 286, 322, 383, 402, 235, 196, 132, 422, 124, 1370]
theorem ins_ok : ∀ ci, ci < 12 → (match vwCl[ci]? with
  | some (C, _, N) => decide (lw_tbl[insT.getD ci 0]? = some (.instantiable C N))
  | none => false) = true := by decide +kernel
theorem una_ok : flN[9]? = some (.isRef (.static Bundle.tN "UNASSIGNED_STACK" Bundle.steD)) := by decide +kernel
theorem sen_ok : flN[10]? = some (.isRef (.static Bundle.tN "SUPPRESSED_SENTINEL" Bundle.listD)) := by decide +kernel
theorem una_l : lw_tbl[1335]? = some (.laysStatic Bundle.tN "UNASSIGNED_STACK" Bundle.steD) := by decide +kernel
theorem sen_l : lw_tbl[1337]? = some (.laysStatic Bundle.tN "SUPPRESSED_SENTINEL" Bundle.listD) := by decide +kernel
theorem thr_i : lw_tbl[119]? = some (.initialized Bundle.tN) := by decide +kernel
theorem cas_l : lw_tbl[1310]? = some (.castable nSE nSE) := by decide +kernel
theorem dec_ok : xD.all (fun x => decide (Cond.declares x ∈ lw_tbl)) = true := by decide +kernel
theorem sS_of {args : Array Value} {s : State} {tm : Term} {len : Nat} {byt : List Int32} {A : Nat → Prop} (hN : len < 2 ^ 31) (hex : (Cond.exactly tm "java/lang/String").before args s = true) (hco : (Cond.eq (.field tm "java/lang/String" "code\x72" "B") (.int 0)).before args s = true) (har : (Cond.arrayOf (.field tm "java/lang/String" "value" "[B") .byte).before args s = true)
    (hle : (Cond.eq (.length (.field tm "java/lang/String" "value" "[B")) (.int (Int32.ofNat len))).before args s = true) (hel : ∀ j : Nat, j < len → (Cond.eq (.elem (.field tm "java/lang/String" "value" "[B") (.int (Int32.ofNat j))) (.int (byt.getD j 0))).before args s = true) (hA : ∀ a : Nat, a < s.heap.size → ¬ A a) :
    ∃ a v : Nat, sS len byt a v A s s.heap ∧ tm.eval args s none [] s = some (.ref a) := by
  obtain ⟨a, c, cA, kA, q1, q2, q3, q4, q5, q6, -⟩ := Cond.exactly_spec (args := args) (first := s) (o := none) (s := s) (idx := []) (t := tm) (cls := "java/lang/String") hex
  obtain ⟨t, ht, hT⟩ := va_Tof (f := fun j => .int (byt.getD j 0)) (A := A) hN har (va_eqt hle) (fun j hj => va_eqt (hel j hj)) hA
  exact ⟨a, t, ⟨⟨cA, q3, q5, by rw [q6]; exact q2, hA a (Array.getElem?_eq_some_iff.mp q3).1⟩, vk_OFof q1 (va_eqt hco) hA, vk_OFof q1 ht hA, hT⟩, q1⟩
theorem strs_of {args : Array Value} {s : State} {A : Nat → Prop} (hg : (Jvm.Cond.and given_1 narrow_1).before args s = true) (hts : ∀ w ∈ lw_tbl, w.before args s = true) (hA : ∀ a : Nat, a < s.heap.size → ¬ A a) :
    ∃ f : Nat → Nat × Nat, ∀ (i : Nat) (e : Nat × Nat × Nat × Nat), sT[i]? = some e → vk_R (cN e.1) e.2.1 (sTx.getD e.2.2.1 "") (f i).1 s ∧ sS (sLen.getD e.2.2.1 0) (sByt.getD e.2.2.1 []) (f i).1 (f i).2 A s s.heap := by
  have hfl := flat_of_before _ hg
  have hin : ∀ c ∈ sT.flatMap strC, c.before args s = true := by
    intro c hc
    rw [strC_ok] at hc
    obtain ⟨i, -, hi⟩ := List.mem_filterMap.mp hc
    exact hfl c (List.mem_of_getElem? hi)
  have h0 : ∀ i : Nat, ∃ q : Nat × Nat, ∀ e, sT[i]? = some e → vk_R (cN e.1) e.2.1 (sTx.getD e.2.2.1 "") q.1 s ∧ sS (sLen.getD e.2.2.1 0) (sByt.getD e.2.2.1 []) q.1 q.2 A s s.heap := by
    intro i
    cases hi : sT[i]? with
    | none => exact ⟨(0, 0), fun e h => by cases h⟩
    | some e =>
      have hm := List.mem_of_getElem? hi
      have hc : ∀ c ∈ strC e, c.before args s = true := fun c hc => hin c (List.mem_flatMap.mpr ⟨e, hm, hc⟩)
      obtain ⟨a, v, h1, h2⟩ := sS_of (A := A) (tm := sTm e) (len := sLen.getD e.2.2.1 0) (byt := sByt.getD e.2.2.1 []) (sLen_ok e hm) (hc _ (by simp [strC])) (hc _ (by simp [strC])) (hc _ (by simp [strC, sVl])) (hc _ (by simp [strC, sVl])) (fun j hj => hc _ (List.mem_append_right _ (List.mem_map.mpr ⟨j, List.mem_range.mpr hj, rfl⟩))) hA
      refine ⟨(a, v), fun e' he => ?_⟩
      cases he
      have hw := List.all_eq_true.mp sT_ok _ hm
      exact ⟨vk_R.of (hts _ (List.mem_of_getElem? (of_decide_eq_true hw))) h2, h1⟩
  obtain ⟨f, hf⟩ := Classical.axiomOfChoice h0
  exact ⟨f, hf⟩
theorem kn_of {args : Array Value} {s : State} (hts : ∀ w ∈ gtbl, w.before args s = true) : ∃ (dC : Nat → ClassId) (dI : Nat → Nat → Nat), ∀ (k : Nat) (q : vw_C), vwCl[k]? = some q → u_Kn s q.1 q.2.1 q.2.2 (dC k) (dI k) := by
  have h0 : ∀ k : Nat, ∃ z : ClassId × (Nat → Nat), ∀ q, vwCl[k]? = some q → u_Kn s q.1 q.2.1 q.2.2 z.1 z.2 := by
    intro k
    cases hk : vwCl[k]? with
    | none => exact ⟨(0, fun _ => 0), fun q h => by cases h⟩
    | some q =>
      have hlt : k < 12 := (List.getElem?_eq_some_iff.mp hk).1
      have hi := ins_ok k hlt
      rw [hk] at hi
      obtain ⟨cC, iS, hKn⟩ := u_known (C := q.1) (T := q.2.1) (N := q.2.2) (n := q.2.2) hts (cls_ok k q hk).1 (hts _ (gt_of (of_decide_eq_true hi) rfl))
      exact ⟨(cC, iS), fun q' h => by cases h; exact hKn⟩
  obtain ⟨f, hf⟩ := Classical.axiomOfChoice h0
  exact ⟨fun k => (f k).1, fun k => (f k).2, hf⟩
theorem ar_of {args : Array Value} {s : State} {ty : FieldType} (h : (Cond.arrayClass ty).before args s = true) : ∃ cA : ClassId, ArrOfT s cA ty ∧ s.vm.findClass ("[" ++ ty.toString) = some cA := by
  obtain ⟨c, k, comp, h1, h2, h3⟩ := Cond.arrayClass_spec h
  exact ⟨c, fun n z => ⟨fun k h => (by cases h), k, h2, comp, h3⟩, h1⟩
theorem K_of {args : Array Value} {s : State} (hts : ∀ w ∈ lw_tbl, w.before args s = true) : ∃ (D : va_G) (dA : Nat → ClassId), va_K D vwCl (tyL dA) s := by
  have hg : ∀ w ∈ gtbl, w.before args s = true := fun w h => hts w (gt_in h)
  obtain ⟨dC, dI, hK⟩ := kn_of hg
  obtain ⟨c0, a0, f0⟩ := ar_of (hg _ w_ar_I)
  obtain ⟨c1, a1, f1⟩ := ar_of (hg _ w_ar_B)
  obtain ⟨c2, a2, f2⟩ := ar_of (hg _ w_ar_Z)
  obtain ⟨c3, a3, f3⟩ := ar_of (hg _ w_ar_J)
  obtain ⟨comp, c4, k4, g1, g2, g3, g4, g5⟩ := Cond.arrayOver_spec (hts _ (List.mem_of_getElem? ovr_l))
  refine ⟨(dC, dI), fun k => match k with | 0 => c0 | 1 => c1 | 2 => c2 | 3 => c3 | _ => c4, hK, fun k q hq => ?_⟩
  match k, hq with
  | 0, hq => cases hq; exact ⟨a0, f0⟩
  | 1, hq => cases hq; exact ⟨a1, f1⟩
  | 2, hq => cases hq; exact ⟨a2, f2⟩
  | 3, hq => cases hq; exact ⟨a3, f3⟩
  | 4, hq => cases hq; exact ⟨fun n z => ⟨fun k h => (by cases h), k4, g3, comp, g4⟩, k4, comp, g3, g4, g1, g5⟩
  | k + 5, hq => simp [tyL] at hq
def mL_law : Mt := (12, yL_law, code, 7, some .boolean)
/-- THE LAW OUT OF THE ABSTRACT MACHINE -/
theorem start_ev (hev : ∀ ys : List Int32, ys.length ≤ 3072 → Ev 50 (some ys) mL_law (601024, 7293033) 0 [.ref XB, .null, .null, .null, .null, .null, .null] [] [] (fun r _ => r = some (.int 1)))
    {p : Program} {e : Env} {s : State} {m : MethodId} {below : List Frame} {meth : Method} {c : Code} (l : Launch) (hflags : l.flags = flags0) {b L : Nat} {xs : Nat → Int32} (hL : L ≤ 3072) (C0 : lw_At p s m meth c b L xs) : W p l e room_1 s m #[Value.ref b] below meth c s.heap [] 0 0 (lw_Z below #[Value.ref b] s) (entryFrame m ([Value.ref b] : List Value).toArray 7) := by
  obtain ⟨hx, hb, hr, hml, hown, hts, hX, hbl, hlocks, hgv⟩ := C0
  have hst : l.stackTraces = false := by
    unfold Launch.stackTraces
    rw [hflags]
    decide
  have hA : ∀ a : Nat, a < s.heap.size → ¬ (fun q : Nat => s.heap.size ≤ q) a := fun a h => Nat.not_le.mpr h
  obtain ⟨f, hf⟩ := strs_of (A := fun q : Nat => s.heap.size ≤ q) hgv hts hA
  obtain ⟨D, dA, hK⟩ := K_of hts
  have hfl := flat_of_before _ hgv
  obtain ⟨qb, hqb⟩ : ∃ qb : Nat, va_Z "jdk/internal/util/Preconditions" "SIOOBE_FORMATTER" "Ljava/util/function/BiFunction;" .null (fun q : Nat => s.heap.size ≤ q) s s.heap ∨ va_Z "jdk/internal/util/Preconditions" "SIOOBE_FORMATTER" "Ljava/util/function/BiFunction;" (.ref qb) (fun q : Nat => s.heap.size ≤ q) s s.heap := by
    rcases va_Zqof (A := fun q : Nat => s.heap.size ≤ q) (hts _ (List.mem_of_getElem? sio_l)) (hts _ (List.mem_of_getElem? sio_i)) (hfl _ (List.mem_of_getElem? sio_ok)) hA with h | ⟨t, h⟩
    · exact ⟨0, Or.inl h⟩
    · exact ⟨t, Or.inr h⟩
  let ad0 : Nat → Nat := fun k => if k = XB then b else if k = QB then qb else if VB ≤ k then (f (k - VB)).2 else (f (k - SB)).1
  have had : ∀ i, i < 34 → ad0 (SB + i) = (f i).1 := by
    intro i hi
    show (if SB + i = XB then b else if SB + i = QB then qb else if VB ≤ SB + i then (f (SB + i - VB)).2 else (f (SB + i - SB)).1) = _
    rw [if_neg (by unfold SB XB; omega), if_neg (by unfold SB QB; omega), if_neg (by unfold SB VB; omega), Nat.add_sub_cancel_left]
  have hvb : ∀ i, i < 34 → ad0 (VB + i) = (f i).2 := by
    intro i hi
    show (if VB + i = XB then b else if VB + i = QB then qb else if VB ≤ VB + i then (f (VB + i - VB)).2 else (f (VB + i - SB)).1) = _
    rw [if_neg (by unfold VB XB; omega), if_neg (by unfold VB QB; omega), if_pos (Nat.le_add_right _ _), Nat.add_sub_cancel_left]
  have hq0 : ad0 QB = qb := by
    show (if QB = XB then b else if QB = QB then qb else _) = _
    rw [if_neg (by unfold QB XB; omega), if_pos rfl]
  have hXF : XF ad0 (fun q : Nat => s.heap.size ≤ q) s := by
    refine ⟨fun x hx M hM => ?_, fun i x hi => ?_, ?_, ?_, ?_⟩
    · have h1 := List.all_eq_true.mp nT_ok _ hx
      unfold okn at h1
      rw [hM] at h1
      exact va_Nw.of rfl (hts _ (List.mem_of_getElem? (of_decide_eq_true h1)))
    · have hlt : i < 34 := (List.getElem?_eq_some_iff.mp hi).1
      rw [had i hlt, hvb i hlt]
      exact hf i x hi
    · exact va_Zof (hts _ (List.mem_of_getElem? cmp_l)) (hts _ (List.mem_of_getElem? cmp_i)) (va_eqt (hfl _ (List.mem_of_getElem? cmp_ok))) hA
    · rw [hq0]; exact hqb
    · refine ⟨va_AO.of (hts _ (List.mem_of_getElem? ovr_l)), vx_Zqof (hts _ (List.mem_of_getElem? una_l)) (hts _ (List.mem_of_getElem? thr_i)) (hfl _ (List.mem_of_getElem? una_ok)) hA, vx_Zqof (hts _ (List.mem_of_getElem? sen_l)) (hts _ (List.mem_of_getElem? thr_i)) (hfl _ (List.mem_of_getElem? sen_ok)) hA, va_Nw.of rfl (hts _ (List.mem_of_getElem? cas_l)), fun x hx => va_Nw.of rfl (hts _ ?_)⟩
      have hd := List.all_eq_true.mp dec_ok x hx
      exact of_decide_eq_true hd
  have hl0 := lv_entry ([Value.ref b]) (n := 7) (Nat.le_of_ble_eq_true rfl)
  rw [lg_entry_eq]
  generalize (lg_sl ([Value.ref b]) ++ List.replicate (7 - (lg_sl ([Value.ref b])).length) Slot.unset).toArray = ls at hl0 ⊢
  have hl : lvx ls 7 ([Value.ref XB, .null, .null, .null, .null, .null, .null].map (rv ad0)) := by
    have h1 := lvx_entry hl0
    have e1 : ([Value.ref XB, .null, .null, .null, .null, .null, .null].map (rv ad0)) = eN [Value.ref b] 7 := by
      show [Value.ref (ad0 XB), .null, .null, .null, .null, .null, .null] = _
      rw [show ad0 XB = b from if_pos rfl]
      rfl
    rw [e1]
    exact h1
  have hXX : ∀ ys : List Int32, some ((List.range L).map xs) = some ys → va_X (ad0 XB) ys.length (fun j => ys.getD j 0) s s.heap ∧ ad0 XB < s.heap.size ∧ ¬ (fun q : Nat => s.heap.size ≤ q) (ad0 XB) := by
    intro ys hy
    cases hy
    rw [show ad0 XB = b from if_pos rfl]
    obtain ⟨scr, h1, h2, h3, h4, h5⟩ := hX
    refine ⟨⟨scr, h1, h2, h3, by simpa using h4, fun j hj => ?_⟩, hbl, hA b hbl⟩
    have hj' : j < L := by simpa using hj
    rw [h5 j hj']
    simp [hj']
  refine hev ((List.range L).map xs) (by simpa using hL) p ⟨l, hst⟩ e room_1 s m #[Value.ref b] below meth c D dA (fun q : Nat => s.heap.size ≤ q) 601024 7293033 ad0 0 _ ⟨hx, hb, hml, hown, fun w h => hts w (gt_in h), fun _ h => h, hK, hXF, by decide, by decide, by decide, by decide, ?_, hXX⟩ ⟨?_, fun h9 ad9 H9 locs9 cells9 slots9 ls9 xs9 pc9 q9 => by cases q9⟩ ad0 s.heap [] 0 0 ls ⟨by decide, by decide, ⟨fun _ _ => rfl, fun _ => rfl, Nat.le_refl _⟩, fun k q h => by simp [wld] at h, ⟨fun i j p q h => by simp [wld] at h, fun k q h => by simp [wld] at h⟩, va_S.rf, hl⟩
  · exact fun z => absurd z (by decide)
  · intro r h ad H locs cells slots ls xs pc hq hSx hrr hdec
    subst hq
    obtain ⟨b', s1, s2, s3, hP', hD', hS', -⟩ := hSx
    refine va_forget (fun q hq => hS'.2.2 q hq) ?_
    refine W.widen (k := 601024) (n := 7293033) (by omega) (by omega) ?_
    exact lw_ret hx hb hr hlocks hdec
