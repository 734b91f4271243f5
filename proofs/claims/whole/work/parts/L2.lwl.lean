-- LED: what the machine makes of it
def ldX (r : Option Nat) (h : aH) (D : va_G) (dA : Nat → ClassId) (ad : Nat → Nat) (sz : Nat) : String → State → State → Prop := vx_X (S := Unit) (fun _ => r = none) (fun E _ t => E = nSE ∧ va_P D vwCl (wld dA ad h) t.heap) (va_A (wld dA ad h) sz)
def QLr (r : Option Nat) (h : aH) (v : Option Value) (h' : aH) : Prop := ∃ p, r = some p ∧ v = some (.int (nI p)) ∧ h' = h
set_option maxRecDepth 100000 in
set_option maxHeartbeats 400000 in
theorem dt45 : decode mX10_led.2.2.1 45 = .ok (.new 359, 3) := by decide +kernel
set_option maxRecDepth 100000 in
set_option maxHeartbeats 400000 in
theorem dt48 : decode mX10_led.2.2.1 (45 + 3) = .ok (.dup, 1) := by decide +kernel
set_option maxRecDepth 100000 in
set_option maxHeartbeats 400000 in
theorem dt49 : decode mX10_led.2.2.1 (45 + 4) = .ok (.invokespecial 361, 3) := by decide +kernel
set_option maxRecDepth 100000 in
set_option maxHeartbeats 400000 in
theorem dt52 : decode mX10_led.2.2.1 (45 + 7) = .ok (.athrow, 1) := by decide +kernel
set_option maxRecDepth 100000 in
set_option maxHeartbeats 400000 in
theorem fitE : Bundle.fit nSE = true := by decide +kernel
set_option maxRecDepth 100000 in
set_option maxHeartbeats 400000 in
theorem fitN : ∀ n ∈ nmE, Bundle.fit n = true := by decide +kernel
set_option maxRecDepth 100000 in
set_option maxHeartbeats 400000 in
theorem ct_led {d : Nat} {i : Int32} {h : aH} {r : Option Nat} (hd6 : 6 ≤ d) (k : Ev d none mX10_led (0, 0) 0 (eN [.ref 0, .int i] mX10_led.2.2.2.1) [] h (QL r h)) (l : LN) (D : va_G) (dA : Nat → ClassId) (ad : Nat → Nat) (sz : Nat) : vx_Met l.1 mX10_led.2.1 (cw mX10_led :: gtbl) (rmD d (1, 6)) (PCc [.ref 0, .int i] D dA ad h sz) (QC (QLr r h) (0, 0) D dA ad h sz) (ldX r h D dA ad sz) 1 6 (va_A (wld dA ad h) sz) := by
  refine vx_ofW (cc := mX10_led.2.2.1) (maxL := mX10_led.2.2.2.1) (ret := mX10_led.2.2.2.2) (by decide) rfl ?_
  intro p e s m args below meth c s₁ B hml hnt hv
  obtain ⟨rfl, hsz, hP, hK, hX, hD0⟩ := hv
  have hx := B.exec
  have hb := B.bytes
  have hr := B.returns
  have hts0 := atoms_spec (ws := cw mX10_led :: gtbl) B.pre
  have hown : s.vm.findClass mX10_led.2.1.cls = some m.cls := findClass_of_methodNamed B.named
  have hnm : meth.name = mX10_led.2.1.name := (name_of_methodNamed B.named B.method).1
  have hlocks := B.notSynchronized
  subst hsz
  have hD := hD0.self (sz := s.heap.size)
  have hl0 := lv_entry ([Value.ref 0, .int i].map (rv ad)) (n := mX10_led.2.2.2.1) (Nat.le_of_ble_eq_true rfl)
  rw [lg_entry_eq]
  generalize (lg_sl ([Value.ref 0, .int i].map (rv ad)) ++ List.replicate (mX10_led.2.2.2.1 - (lg_sl ([Value.ref 0, .int i].map (rv ad))).length) Slot.unset).toArray = ls at hl0 ⊢
  have hl := lvx_entry hl0
  rw [eN_map] at hl
  have hXE := hX.2.2.2.2.2
  have hall : ∀ w ∈ atE, w.before ([Value.ref 0, .int i].map (rv ad)).toArray s = true := vx_hat (B := Cond.castable nSE nSE :: xD.map Cond.declares) (fun w hw => hts0 w (List.mem_cons_of_mem _ (List.mem_filter.mpr ⟨atE_in w (List.mem_filter.mp hw).1, (List.mem_filter.mp hw).2⟩))) atE_no (fun w hw => by
    rcases List.mem_cons.mp hw with rfl | hw
    · exact va_Nw.use rfl hXE.2.2.1
    · obtain ⟨x, hx', rfl⟩ := List.mem_map.mp hw
      exact va_Nw.use rfl (hXE.2.2.2 x hx'))
  refine k p l e _ s m _ below meth c D dA (va_A (wld dA ad h) s.heap.size) 0 0 ad h.length _ ⟨hx, hb, hml, hown, fun w hw => hts0 w (List.mem_cons_of_mem _ hw), fun q hq => Or.inr hq, hK, hX, Nat.le_refl _, Nat.le_refl _, Nat.zero_le _, Nat.zero_le _, fun z => hnm.trans z, fun ys z => by cases z⟩ ⟨?_, ?_⟩ ad s.heap [] 0 0 ls ⟨by omega, by omega, ⟨fun _ _ => rfl, fun _ => rfl, Nat.le_refl _⟩, hP, hD, va_S.rf, hl⟩
  · intro r0 h' ad' H locs cells slots ls xs pc hq hSx hrr hdec
    obtain ⟨b', s1, s2, s3, hP', hD', hS', -⟩ := hSx
    obtain ⟨rfl, hq2⟩ := hq
    cases r with
    | none =>
      have hq3 : r0 = some (.ref 45) := hq2
      rw [hq3] at hrr
      rcases hrr with ⟨x, z⟩ | ⟨x, z⟩ | z <;> cases z
    | some q =>
      have hq3 : r0 = some (.int (nI q)) := hq2
      subst hq3
      refine vx_ret (W.widen (k := 1) (n := 6) (by omega) (by omega) ?_)
      exact W.zret (v := nI q) (ty := .int) hx hb (hr.trans rfl) rfl (fun t ht hW => ⟨⟨some (.int (nI q)), _, ad', rfl, ⟨q, rfl, rfl, rfl⟩, s3, by rw [ht]; exact hP', hD'⟩, hS'.F ht⟩) hS'.2.2 hdec
  · intro h' ad' H locs cells slots ls' xs pc hq hSx
    obtain ⟨b', s1, s2, s3, hP', hD', hS', hlx⟩ := hSx
    obtain ⟨rfl, hq2⟩ := hq
    cases r with
    | some q =>
      have hq3 : some (Value.ref pc) = some (.int (nI q)) := hq2
      cases hq3
    | none =>
      have hq3 : some (Value.ref pc) = some (.ref 45) := hq2
      cases hq3
      have ead : ad' = ad := s3.2.1 rfl
      subst ead
      refine vx_throw0 (cc := mX10_led.2.2.1) (A := va_A (wld dA ad' h') s.heap.size) (own := "LeanTable") (cls := nSE) (names := nmE) (ik := 359) (ic := 361) hx hb l.2 hown fitE fitN (hall _ List.mem_cons_self) (hall _ (List.mem_cons_of_mem _ List.mem_cons_self)) (fun w hw => hall w (List.mem_cons_of_mem _ (List.mem_cons_of_mem _ hw))) atE_ok hXE.1 hXE.2.1 hS' (hlx.1.trans hml.symm) dt45 dt48 dt49 dt52 (fun x hx => (hnt x hx).elim) ?_ ?_ ?_ ?_ hlocks (fun t al hz hq => ⟨(), rfl, ⟨rfl, va_P.kept hP' (fun k q hk => hq q.1 (vx_lt hP' hk))⟩, ⟨Nat.le_trans hS'.1 hz, fun q h1 h2 => (hq q (Nat.lt_of_lt_of_le h1 hS'.1)).trans (hS'.2.1 q h1 h2)⟩⟩) hS'.2.2 (by omega) (by omega)
      · show 2 + 3 < d
        omega
      · show 0 + (13 * (2 + 1) + 42) ≤ 40 * d
        omega
      · show cells + 1 ≤ 1
        omega
      · show slots + 6 ≤ 6
        omega
-- calls with a budget that leave the addresses as they are; and such as may throw
section RUNB
variable {p : Program} {l : Launch} {e : Env} {R : Room} {s : State} {m : MethodId} {args : Array Value} {below : List Frame} {meth : Method} {c : Code} {H : Heap} {locs : List Loc} {cells slots : Nat} {Z : State → Prop}
set_option maxRecDepth 100000 in
set_option maxHeartbeats 400000 in
theorem w_runB {D : va_G} {dA : Nat → ClassId} {ad : Nat → Nat} {h : aH} {Q' : Option Value → aH → Prop} {mb sb : Nat} {A : Nat → Prop} {pc : Nat} {ls : Array Slot} {st0 rest0 : List Value} {aa : Array Value}
    (hr : va_Run p l e R s m args below meth c H locs cells slots mb sb (F0 m pc ls st0) rest0 (QC Q' (0, 0) D dA ad h H.size aa) (va_A (wld dA ad h) H.size)) (hS : va_S A s.heap H locs) (hF : ∀ q, va_A (wld dA ad h) H.size q → A q)
    (kk : ∀ (r : Option Value) (h' : aH) (H1 : Heap) (locs1 : List Loc), Q' r h' → h.length ≤ h'.length → va_P D vwCl (wld dA ad h') H1 → va_D A (wld dA ad h') → va_S A s.heap H1 locs1 → W p l e R s m args below meth c H1 locs1 (cells + mb) (slots + sb) Z (F0 m (pc + 3) ls ((r.map (rv ad)).toList ++ rest0))) : W p l e R s m args below meth c H locs cells slots Z (F0 m pc ls st0) := by
  intro T hT X
  obtain ⟨v, st₀, t, T', L, h0, X', hL, e1, e2, ⟨⟨r, h', ad', hv, hq, hag, hP', hD'⟩, hz, hk⟩, st⟩ := hr T hT X
  have ead : ad' = ad := hag.2.1 rfl
  subst ead
  cases hv
  rw [h0] at hz hk
  obtain ⟨t2, a1, b1⟩ := kk r h' T'.heap (locs ++ L) hq hag.2.2 (by rw [e1]; exact hP') (hD'.weaken (fun _ _ _ z => hF _ z))
    ⟨Nat.le_trans hS.1 (by rw [e1]; exact hz), fun q h1 h2 => by rw [e1, hk q (Nat.lt_of_lt_of_le h1 hS.1) (fun z => h2 (hF q z))]; exact hS.2.1 q h1 h2, fun q hq => by
      rcases List.mem_append.mp hq with h | h
      · exact hS.2.2 q h
      · exact hF _ (hL q h)⟩ T' rfl X'
  exact ⟨t2, st t2 a1, b1⟩
set_option maxRecDepth 100000 in
set_option maxHeartbeats 400000 in
theorem w_runX {D : va_G} {dA : Nat → ClassId} {ad : Nat → Nat} {h : aH} {Q' : Option Value → aH → Prop} {r0 : Option Nat} {mb sb : Nat} {A : Nat → Prop} {pc : Nat} {ls : Array Slot} {st0 rest0 : List Value} {aa : Array Value}
    (hr : vx_Run p l e R s m args below meth c H locs cells slots mb sb (F0 m pc ls st0) rest0 (QC Q' (0, 0) D dA ad h H.size aa) (ldX r0 h D dA ad H.size) (va_A (wld dA ad h) H.size)) (hS : va_S A s.heap H locs) (hF : ∀ q, va_A (wld dA ad h) H.size q → A q)
    (kk : ∀ (r : Option Value) (h' : aH) (H1 : Heap) (locs1 : List Loc), Q' r h' → h.length ≤ h'.length → va_P D vwCl (wld dA ad h') H1 → va_D A (wld dA ad h') → va_S A s.heap H1 locs1 → W p l e R s m args below meth c H1 locs1 (cells + mb) (slots + sb) Z (F0 m (pc + 3) ls ((r.map (rv ad)).toList ++ rest0)))
    (kx : ∀ (ce : Cell) (q9 : Addr) (H1 : Heap) (locs1 : List Loc), r0 = none → va_P D vwCl (wld dA ad h) H1 → va_S A s.heap H1 locs1 → H1[q9]? = some ce → ce.vm = .none → s.vm.findClass nSE = some ce.cls → vx_W p l e R s m args below meth c H1 locs1 (cells + mb) (slots + sb) Z (F0 m pc ls rest0) q9) : W p l e R s m args below meth c H locs cells slots Z (F0 m pc ls st0) := by
  intro T hT X
  rcases hr T hT X with ⟨v, st₀, t, T', L, h0, X', hL, e1, e2, ⟨⟨r, h', ad', hv, hq, hag, hP', hD'⟩, hz, hk⟩, st⟩ | ⟨q, st₀, t, T', L, E, ce, h0, X', hL, e1, e2, ⟨u, hpx, ⟨hE, hPx⟩, hz, hk⟩, hce, hcv, hcl, st⟩
  · have ead : ad' = ad := hag.2.1 rfl
    subst ead
    cases hv
    rw [h0] at hz hk
    obtain ⟨t2, a1, b1⟩ := kk r h' T'.heap (locs ++ L) hq hag.2.2 (by rw [e1]; exact hP') (hD'.weaken (fun _ _ _ z => hF _ z))
      ⟨Nat.le_trans hS.1 (by rw [e1]; exact hz), fun q h1 h2 => by rw [e1, hk q (Nat.lt_of_lt_of_le h1 hS.1) (fun z => h2 (hF q z))]; exact hS.2.1 q h1 h2, fun q hq => by
        rcases List.mem_append.mp hq with h | h
        · exact hS.2.2 q h
        · exact hF _ (hL q h)⟩ T' rfl X'
    exact ⟨t2, st t2 a1, b1⟩
  · rw [h0] at hz hk
    subst hE
    obtain ⟨t2, a1, b1⟩ := kx ce q T'.heap (locs ++ L) hpx (by rw [e1]; exact hPx)
      ⟨Nat.le_trans hS.1 (by rw [e1]; exact hz), fun q h1 h2 => by rw [e1, hk q (Nat.lt_of_lt_of_le h1 hS.1) (fun z => h2 (hF q z))]; exact hS.2.1 q h1 h2, fun q hq => by
        rcases List.mem_append.mp hq with h | h
        · exact hS.2.2 q h
        · exact hF _ (hL q h)⟩ (by rw [e1]; exact hce) hcv hcl T' rfl X'
    exact ⟨t2, st.trans a1, b1⟩
end RUNB
-- the law's own led
set_option maxRecDepth 100000 in
set_option maxHeartbeats 400000 in
theorem aWJ_of {h h' : aH} {a : Nat} {i : Int32} {x : Int64} (q : aWJ h a i x = some h') : ∃ ys : List Int64, h[a]? = some (.inl (3, .inr (.inl ys))) ∧ vp_in i ys.length ∧ h' = h.set a (.inl (3, .inr (.inl (ys.set i.toNatClampNeg x)))) := by
  unfold aWJ at q
  split at q
  · rename_i t ys e
    split at q
    · rename_i hc
      obtain ⟨rfl, hc2⟩ := hc
      cases q
      exact ⟨ys, e, vpB_ok hc2, rfl⟩
    · cases q
  · cases q
set_option maxRecDepth 100000 in
set_option maxHeartbeats 400000 in
theorem aRJ_s {h : aH} {a : Nat} {i : Int32} {x : Int64} (q : aRJ (h[a]?) i = some x) {K : Int64 → Prop} (hk : K x) : aL h a (fun t ys => t = 3 ∧ vp_in i ys.length ∧ K (ys.getD i.toNatClampNeg 0)) := by
  unfold aRJ at q
  split at q
  · rename_i t ys e
    unfold aL
    rw [e]
    dsimp only
    split at q
    · rename_i hc
      have hv : vp_in i ys.length := vpB_ok hc.2
      cases q
      exact ⟨hc.1, hv, hk⟩
    · cases q
  · cases q
def mL_led : Mt := (12, yL_led, method_3_code, 4, some .int)
def cwL : Cond := Cond.codeWith yL_led method_3_code 4 (some .int) [(0, 9, 12, 13)]
set_option maxRecDepth 100000 in
set_option maxHeartbeats 400000 in
theorem cwL_ok : cwL ∈ gtbl := gt_of (i := 1302) (by decide +kernel) rfl
set_option maxRecDepth 100000 in
set_option maxHeartbeats 400000 in
theorem lkL : Cond.methodLink RL 247 yL_led ∈ gtbl := gt_of (i := 1300) (by decide +kernel) rfl
set_option maxRecDepth 100000 in
set_option maxHeartbeats 400000 in
theorem stL_ok : Cond.static yL_led ∈ gtbl := gt_of (i := 1301) (by decide +kernel) rfl
set_option maxRecDepth 100000 in
set_option maxHeartbeats 400000 in
theorem inL_ok : Cond.initialized RL ∈ gtbl := gt_of (i := 98) (by decide +kernel) rfl
set_option maxRecDepth 100000 in
set_option maxHeartbeats 400000 in
theorem clL_ok : Cond.classLink RL 13 nSE ∈ gtbl := gt_of (i := 1303) (by decide +kernel) rfl
set_option maxRecDepth 100000 in
set_option maxHeartbeats 400000 in
theorem de0 : decode mL_led.2.2.1 0 = .ok (.aload_n 2, 1) := by decide +kernel
set_option maxRecDepth 100000 in
set_option maxHeartbeats 400000 in
theorem de1 : decode mL_led.2.2.1 1 = .ok (.iconst 0, 1) := by decide +kernel
set_option maxRecDepth 100000 in
set_option maxHeartbeats 400000 in
theorem de2 : decode mL_led.2.2.1 2 = .ok (.aload_n 0, 1) := by decide +kernel
set_option maxRecDepth 100000 in
set_option maxHeartbeats 400000 in
theorem de3 : decode mL_led.2.2.1 3 = .ok (.iload_n 1, 1) := by decide +kernel
set_option maxRecDepth 100000 in
set_option maxHeartbeats 400000 in
theorem de4 : okC mL_led 4 (.invokevirtual 7) 176 191 0 1 = true := by decide +kernel
set_option maxRecDepth 100000 in
set_option maxHeartbeats 400000 in
theorem de4' : decode mL_led.2.2.1 4 = .ok (.invokevirtual 7, 3) := by decide +kernel
set_option maxRecDepth 100000 in
set_option maxHeartbeats 400000 in
theorem de7 : decode mL_led.2.2.1 7 = .ok (.i2l, 1) := by decide +kernel
set_option maxRecDepth 100000 in
set_option maxHeartbeats 400000 in
theorem de8 : decode mL_led.2.2.1 8 = .ok (.lastore, 1) := by decide +kernel
set_option maxRecDepth 100000 in
set_option maxHeartbeats 400000 in
theorem de9 : decode mL_led.2.2.1 9 = .ok (.goto 6, 3) := by decide +kernel
set_option maxRecDepth 100000 in
set_option maxHeartbeats 400000 in
theorem de12 : decode mL_led.2.2.1 12 = .ok (.astore_n 3, 1) := by decide +kernel
set_option maxRecDepth 100000 in
set_option maxHeartbeats 400000 in
theorem de13 : decode mL_led.2.2.1 13 = .ok (.iconst 1, 1) := by decide +kernel
set_option maxRecDepth 100000 in
set_option maxHeartbeats 400000 in
theorem de14 : decode mL_led.2.2.1 14 = .ok (.ireturn, 1) := by decide +kernel
set_option maxRecDepth 100000 in
set_option maxHeartbeats 400000 in
theorem de15 : decode mL_led.2.2.1 15 = .ok (.iconst 0, 1) := by decide +kernel
set_option maxRecDepth 100000 in
set_option maxHeartbeats 400000 in
theorem de16 : decode mL_led.2.2.1 16 = .ok (.ireturn, 1) := by decide +kernel
section LLED
variable {S : Mem} {J : MeJ} {T : Nat → Nat}
def QM (S : Mem) (J : MeJ) (T : Nat → Nat) (r : Option Nat) (v : Option Value) (h' : aH) : Prop := match r with
  | some p => v = some (.int (nI 0)) ∧ h' = hp S (stJ J 181 0 (nI p).toInt64) T
  | none => v = some (.int (nI 1)) ∧ h' = hp S J T
set_option maxRecDepth 100000 in
set_option maxHeartbeats 400000 in
theorem ct_Lled {d : Nat} {i : Int32} {r : Option Nat} (hct : ∀ (l : LN) (D : va_G) (dA : Nat → ClassId) (ad : Nat → Nat) (sz : Nat), vx_Met l.1 mX10_led.2.1 (cw mX10_led :: gtbl) (rmD d (1, 6)) (PCc [.ref 0, .int i] D dA ad (hp S J T) sz) (QC (QLr r (hp S J T)) (0, 0) D dA ad (hp S J T) sz) (ldX r (hp S J T) D dA ad sz) 1 6 (va_A (wld dA ad (hp S J T)) sz)) (l : LN) (D : va_G) (dA : Nat → ClassId) (ad : Nat → Nat) (sz : Nat) : Met l.1 mL_led.2.1 (cwL :: gtbl) (rmD (d + 1) (1, 6)) (PCc [.ref 0, .int i, .ref 181] D dA ad (hp S J T) sz) (QC (QM S J T r) (0, 0) D dA ad (hp S J T) sz) 1 6 (va_A (wld dA ad (hp S J T)) sz) := by
  refine va_MetW (hh := [(0, 9, 12, 13)]) (cc := mL_led.2.2.1) (maxL := mL_led.2.2.2.1) (ret := mL_led.2.2.2.2) (by decide) rfl ?_
  intro p e s m args below meth c s₁ B hml hv
  obtain ⟨rfl, hsz, hP, hK, hX, hD0⟩ := hv
  have hx := B.exec
  have hb := B.bytes
  have hr := B.returns
  have hts0 := atoms_spec (ws := cwL :: gtbl) B.pre
  have hts : ∀ w ∈ gtbl, w.before ([Value.ref 0, .int i, .ref 181].map (rv ad)).toArray s = true := fun w hw => hts0 w (List.mem_cons_of_mem _ hw)
  have hown : s.vm.findClass mL_led.2.1.cls = some m.cls := findClass_of_methodNamed B.named
  have hnm : meth.name = mL_led.2.1.name := (name_of_methodNamed B.named B.method).1
  have htab := vx_table (x := mL_led.2.1) B (hts0 cwL List.mem_cons_self)
  subst hsz
  have hD := hD0.self (sz := s.heap.size)
  have hl0 := lv_entry ([Value.ref 0, .int i, .ref 181].map (rv ad)) (n := mL_led.2.2.2.1) (Nat.le_of_ble_eq_true rfl)
  rw [lg_entry_eq]
  generalize (lg_sl ([Value.ref 0, .int i, .ref 181].map (rv ad)) ++ List.replicate (mL_led.2.2.2.1 - (lg_sl ([Value.ref 0, .int i, .ref 181].map (rv ad))).length) Slot.unset).toArray = ls at hl0 ⊢
  have hl' := lvx_entry hl0
  rw [eN_map] at hl'
  have hl : lvx ls mL_led.2.2.2.1 ([Value.ref 0, .int i, .ref 181, .null].map (rv ad)) := hl'
  have hXE := hX.2.2.2.2.2
  obtain ⟨q, hq, cell, g1, g2, g3, -⟩ := hP 0 _ (wld_some (isO_ok (lt_isO (S := S) (J := J) (T := T))).choose_spec)
  have hcl : q.1 = mX10_led.2.1.cls := by rw [(cls_ok _ _ hq).2.2.2]; rfl
  have hc4 := de4
  unfold okC at hc4
  simp only [Bool.and_eq_true, decide_eq_true_eq] at hc4
  obtain ⟨hd4, hm4, hk4⟩ := hc4
  obtain ⟨-, -, -, -, hv, -, -⟩ := ckM_of hm4 jX10_led
  obtain ⟨hv1, hv2⟩ := hv rfl
  refine lv_aload_n hx hb de0 rfl (lvx_get hl (i := 2) (v := .ref 181) rfl (fun z => by cases z)) ?_
  refine lv_iconst hx hb de1 rfl ?_
  refine lv_aload_n hx hb de2 rfl (lvx_get hl (i := 0) (v := .ref 0) rfl (fun z => by cases z)) ?_
  refine lv_iload_n hx hb de3 rfl (lvx_get hl (i := 1) (v := .int i) rfl (fun z => by cases z)) ?_
  refine w_runX (r0 := r) (mb := 1) (sb := 6) (rest0 := [.int (kI 0), .ref (ad 181)]) (vx_runV (As := [.int i]) (C := mX10_led.2.1.cls) (b := ad 0) (n := 1) ⟨hx, hb, hml, hown, hts⟩ (hct l D dA ad s.heap.size) ⟨cb_of (M := mL_led) (M' := mX10_led) (bc := (1, 6)) rfl hts jX10_led hk4 hm4 (by decide) (Nat.le_refl _) (Nat.le_refl _), hts _ hv1, hts _ hv2⟩ ⟨PCc_blind _ _ _ _ _ _, ⟨cell, g1, by rw [g3]; rfl, by rw [g2, ← hcl]; exact (hK.1 _ q hq).2.1⟩, pc_at (as := [.ref 0, .int i]) hK hX (fun k hk => rfl) hP hD va_S.rf (fun q hq => Or.inr hq)⟩ rfl rfl hl.1 rfl (lv_room (Nat.le_of_ble_eq_true rfl)) hd4 ⟨Nat.le_refl _, Nat.le_refl _⟩) va_S.rf (fun q hq => hq) ?_ ?_
  · intro r0 h' H1 locs1 hq1 hlen hP1 hD1 hS1
    obtain ⟨q1, rfl, rfl, rfl⟩ := hq1
    obtain ⟨ys, ha, hin, hset⟩ := aWJ_of (ou_w (S := S) (J := J) (T := T) (i := 0) (y := (nI q1).toInt64) (by omega))
    have key : W p l.1 e (headSpec (cwL :: gtbl) (rmD (d + 1) (1, 6))).room s m ([Value.ref 0, .int i, .ref 181].map (rv ad)).toArray below meth c H1 locs1 1 6 (MQ below (QC (QM S J T (some q1)) (0, 0) D dA ad (hp S J T) s.heap.size) ([Value.ref 0, .int i, .ref 181].map (rv ad)).toArray s 1 6 (va_A (wld dA ad (hp S J T)) s.heap.size)) (F0 m 7 ls [.int (nI q1), .int (nI 0), .ref (ad 181)]) := by
      refine lv_i2l hx hb de7 rfl ?_
      refine va_last (D := D) (ws := wld dA ad (hp S J T)) hx hb hK hP1 hD1 hS1 181 3 (wld_some ha) rfl hin de8 (fun H2 locs2 u1 u2 u3 => ?_)
      rw [updL_getD _ _ _ (vp_in_lt hin)] at u1 u2
      have e : ((ad 181, Sum.inl (dA 3, ys.length, .inr (.inl (fun j => (ys.set (nI 0).toNatClampNeg (nI q1).toInt64).getD j 0)))) : Nat × va_E) = (ad 181, cE dA ad (.inl (3, .inr (.inl (ys.set (nI 0).toNatClampNeg (nI q1).toInt64))))) := by simp only [cE, List.length_set]
      rw [e, wld_set, ← hset] at u1 u2
      refine lv_goto (tgt := 15) hx hb de9 rfl ?_
      refine lv_iconst hx hb de15 rfl ?_
      exact W.zret (v := kI 0) (ty := .int) hx hb (hr.trans rfl) rfl (fun t ht hW => ⟨⟨some (.int (kI 0)), hp S (stJ J 181 0 (nI q1).toInt64) T, ad, rfl, ⟨by rw [kI_0], rfl⟩, ⟨fun _ _ => rfl, fun _ => rfl, by rw [hset, List.length_set]; exact Nat.le_refl _⟩, by rw [ht]; exact u1, u2⟩, u3.F ht⟩) u3.2.2 de16
    exact key
  · intro ce q9 H1 locs1 hr0 hP1 hS1 hce hcv hcls
    subst hr0
    refine vx_catch (own := RL) (name := nSE) (E := nSE) hown [] ⟨0, 9, 12, 13⟩ [] htab (fun z hz => by cases hz) rfl (by decide) (hts _ clL_ok) (va_Nw.use rfl hXE.2.2.1) hce hcv hcls ?_
    refine lv_astore_n hx hb de12 rfl hl (by decide) rfl (fun ls' hls => ?_)
    refine lv_iconst hx hb de13 rfl ?_
    exact W.zret (v := kI 1) (ty := .int) hx hb (hr.trans rfl) rfl (fun t ht hW => ⟨⟨some (.int (kI 1)), hp S J T, ad, rfl, ⟨by rw [kI_1], rfl⟩, ⟨fun _ _ => rfl, fun _ => rfl, Nat.le_refl _⟩, by rw [ht]; exact hP1, hD⟩, hS1.F ht⟩) hS1.2.2 de14
-- the law calls it
variable {ys : List Int32} {b : Nat × Nat} {xs rest : List Value} {Q Q' : Option Value → aH → Prop} {h : aH} {as : List Value}
set_option maxRecDepth 100000 in
set_option maxHeartbeats 400000 in
theorem d1777 : decode mL_law.2.2.1 1777 = .ok (.invokestatic 247, 3) := by decide +kernel
set_option maxRecDepth 100000 in
set_option maxHeartbeats 400000 in
theorem prL : (parseMethodDescriptor yL_led.desc).map (fun d => d.parameters.length) = some 3 := by decide +kernel
set_option maxRecDepth 100000 in
set_option maxHeartbeats 400000 in
theorem ev_SW (hct : ∀ (l : LN) (D : va_G) (dA : Nat → ClassId) (ad : Nat → Nat) (sz : Nat), Met l.1 mL_led.2.1 (cwL :: gtbl) (rmD 49 (1, 6)) (PCc as D dA ad h sz) (QC Q' (0, 0) D dA ad h sz) 1 6 (va_A (wld dA ad h) sz)) (hn : as.length = 3) (hcat : (rest.map fun v => v.category).sum ≤ 8)
    (hk : ∀ r h', Q' r h' → Ev 50 (some ys) mL_law b 1780 xs (r.toList ++ rest) h' Q) : Ev 50 (some ys) mL_law (b.1 + 1, b.2 + 6) 1777 xs (as.reverse ++ rest) h Q := by
  intro p l e R s m args below meth c D dA A mc ms ad0 n0 Z F C ad H locs cells slots ls S
  obtain ⟨hx, hb, hml, hown, hts, hA, hK, hXF, hfr, hlo, hmc, hms, hnm, hXX⟩ := id F
  obtain ⟨s1, s2, s3, hP, hD, hS, hlx⟩ := id S
  dsimp only at s1 s2
  have hF := va_sub (D := D) hD hS hA
  have hpay : ∀ w ∈ cwL :: gtbl, ∀ (a' : Array Value) (U : State), s.WarmedH U.vm → w.before a' U = true := pay_in hts (fun w hw => by
    rcases List.mem_cons.mp hw with rfl | hw
    · exact ⟨cwL_ok, good_of_word (gt_good cwL_ok)⟩
    · exact ⟨hw, good_of_word (gt_good hw)⟩)
  have hcsw : vx_CSW R s args mL_law.2.1.cls 247 mL_led.2.1 method_3_code 4 (some .int) [(0, 9, 12, 13)] (cwL :: gtbl) (rmD 49 (1, 6)) 1 6 3 := ⟨⟨rfl, rfl, hfr, by show 8 + (4 + 11) + 40 * 49 ≤ R.locals; omega, hpay, List.mem_cons_self⟩, hts _ cwL_ok, hts _ inL_ok, by decide, fun sig hs => by
    have := prL
    have e : parseMethodDescriptor yL_led.desc = some sig := hs
    rw [e] at this
    exact (Option.some.inj this).symm, hts _ lkL, hts _ stL_ok⟩
  refine w_runB (mb := 1) (sb := 6) (rest0 := rest.map (rv ad)) (vx_runSW (As := as.map (rv ad)) ⟨hx, hb, hml, hown, hts⟩ (hct l D dA ad H.size) hcsw ⟨PCc_blind _ _ _ _ _ _, pc_at (as := as) hK hXF (fun k hk => s3.1 k (Or.inr hk)) hP hD hS hA⟩ rfl (by simpa using hn) hlx.1 (by simp) (lv_room (by rw [rv_cats]; exact hcat)) d1777 ⟨by omega, by omega⟩) hS hF ?_
  intro r h' H1 locs1 hq' hlen hP1 hD1 hS1
  have := hk r h' hq' p l e R s m args below meth c D dA A mc ms ad0 n0 Z F C ad H1 locs1 (cells + 1) (slots + 6) ls ⟨by omega, by omega, ⟨s3.1, s3.2.1, Nat.le_trans s3.2.2 hlen⟩, hP1, hD1, hS1, hlx⟩
  rw [List.map_append] at this
  rw [show ((r.map (rv ad)).toList : List Value) = r.toList.map (rv ad) by cases r <;> rfl]
  exact this
end LLED
