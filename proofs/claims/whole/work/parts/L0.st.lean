-- THE LAW: one step of the machine
section STEP
variable {d : Nat} {X : Option (List Int32)} {M : Mt} {b : Nat × Nat} {pc : Nat} {xs st : List Value} {h : aH} {Q : Option Value → aH → Prop}
set_option maxRecDepth 100000 in
set_option maxHeartbeats 400000 in
theorem s_k {i : Instr} (r : Nat × Nat × Nat) {xs' st' : List Value} {h' : aH} (hF : isF i = true → cN M.1 = M.2.1.cls) (hd : decode M.2.2.1 pc = .ok (i, lenI i)) (hok : okI M pc i r = true) (hs : ∀ (k : List Value → List Value → aH → Prop) (j : Nat → List Value → List Value → aH → Prop) (rt : Option Value → aH → Prop), k xs' st' h' → stp M X i r xs st h k j rt) (hk : Ev d X M b (pc + lenI i) xs' st' h' Q) : Ev d X M b pc xs st h Q :=
  stp_ok (k := fun x y z => x = xs' ∧ y = st' ∧ z = h') (j := fun _ _ _ _ => False) (rt := fun _ _ => False) hF hd hok (hs _ _ _ ⟨rfl, rfl, rfl⟩) (fun x y z q => by obtain ⟨rfl, rfl, rfl⟩ := q; exact hk) (fun _ _ _ _ q => q.elim) (fun _ _ q => q.elim)
set_option maxRecDepth 100000 in
set_option maxHeartbeats 400000 in
theorem s_j {i : Instr} (r : Nat × Nat × Nat) (t : Nat) {xs' st' : List Value} {h' : aH} (hF : isF i = true → cN M.1 = M.2.1.cls) (hd : decode M.2.2.1 pc = .ok (i, lenI i)) (hok : okI M pc i r = true) (hs : ∀ (k : List Value → List Value → aH → Prop) (j : Nat → List Value → List Value → aH → Prop) (rt : Option Value → aH → Prop), j t xs' st' h' → stp M X i r xs st h k j rt) (hk : Ev d X M b t xs' st' h' Q) : Ev d X M b pc xs st h Q :=
  stp_ok (k := fun _ _ _ => False) (j := fun u x y z => u = t ∧ x = xs' ∧ y = st' ∧ z = h') (rt := fun _ _ => False) hF hd hok (hs _ _ _ ⟨rfl, rfl, rfl, rfl⟩) (fun _ _ _ q => q.elim) (fun u x y z q => by obtain ⟨rfl, rfl, rfl, rfl⟩ := q; exact hk) (fun _ _ q => q.elim)
set_option maxRecDepth 100000 in
set_option maxHeartbeats 400000 in
theorem s_r {i : Instr} (r : Nat × Nat × Nat) {v : Option Value} {h' : aH} (hF : isF i = true → cN M.1 = M.2.1.cls) (hd : decode M.2.2.1 pc = .ok (i, lenI i)) (hok : okI M pc i r = true) (hs : ∀ (k : List Value → List Value → aH → Prop) (j : Nat → List Value → List Value → aH → Prop) (rt : Option Value → aH → Prop), rt v h' → stp M X i r xs st h k j rt) (hq : Q v h') : Ev d X M b pc xs st h Q :=
  stp_ok (k := fun _ _ _ => False) (j := fun _ _ _ _ => False) (rt := fun x y => x = v ∧ y = h') hF hd hok (hs _ _ _ ⟨rfl, rfl⟩) (fun _ _ _ q => q.elim) (fun _ _ _ _ q => q.elim) (fun x y q => by obtain ⟨rfl, rfl⟩ := q; exact hq)
set_option maxRecDepth 100000 in
set_option maxHeartbeats 400000 in
theorem ev_wk {b' : Nat × Nat} (h1 : b.1 ≤ b'.1) (h2 : b.2 ≤ b'.2) (k : Ev d X M b pc xs st h Q) : Ev d X M b' pc xs st h Q := by
  intro p l e R s m args below meth c D dA A mc ms ad0 n0 Z F C ad H locs cells slots ls S
  exact k p l e R s m args below meth c D dA A mc ms ad0 n0 Z F C ad H locs cells slots ls ⟨by have := S.1; omega, by have := S.2.1; omega, S.2.2⟩
set_option maxRecDepth 100000 in
set_option maxHeartbeats 400000 in
theorem ev_thr (hq : Q (some (.ref pc)) h) : Ev d X M b pc xs [] h Q := by
  intro p l e R s m args below meth c D dA A mc ms ad0 n0 Z F C ad H locs cells slots ls S
  exact C.2 h ad H locs cells slots ls xs pc hq ⟨b, S⟩
set_option maxRecDepth 100000 in
set_option maxHeartbeats 400000 in
theorem gV_aO {ci a fk : Nat} {v : Value} (q : gV h ci a fk = some v) {K : Value → Prop} (hk : K v) : aO h a ci (fun fs => match fs[fk]? with
    | some v => K v
    | none => False) := by
  unfold gV at q
  split at q
  · rename_i c fs e
    unfold aO
    rw [e]
    split at q
    · rename_i hc
      refine ⟨hc, ?_⟩
      dsimp only
      rw [q]
      exact hk
    · cases q
  · cases q
set_option maxRecDepth 100000 in
set_option maxHeartbeats 400000 in
theorem s_gf {ix n ci fk a : Nat} {v : Value} {rest : List Value} (hcn : cN M.1 = M.2.1.cls) (hd : decode M.2.2.1 pc = .ok (.getfield ix, 3)) (hok : okI M pc (.getfield ix) (n, ci, fk) = true) (hg : gV h ci a fk = some v) (hk : Ev d X M b (pc + 3) xs (v :: rest) h Q) : Ev d X M b pc xs (.ref a :: rest) h Q :=
  s_k (i := .getfield ix) (n, ci, fk) (fun _ => hcn) hd hok (fun k j rt q => gV_aO (K := fun v => k xs (v :: rest) h) hg q) hk
end STEP
-- THE LAW: its own pieces
def lY (i : Nat) (u w : Value) : List Value := [.ref XB, .ref 0, .ref 167, .ref 181, .int (nI i), u, w]
def lX (i : Nat) : List Value := lY i .null .null
def ckA (pc j : Nat) : Bool := decide (decode code pc = .ok (.aload_n 0, 1)) && (decide (decode code (pc + 1) = .ok (.iload 4, 2)) && (decide (decode code (pc + 3) = .ok (.iconst (Int.ofNat j), 1)) && (decide (decode code (pc + 4) = .ok (.iadd, 1)) && decide (decode code (pc + 5) = .ok (.iaload, 1)))))
def ckZ (pc : Nat) : Bool := decide (decode code pc = .ok (.ifCond .eq 7, 3)) && (decide (decode code (pc + 3) = .ok (.iconst 1, 1)) && (decide (decode code (pc + 4) = .ok (.goto 4, 3)) && decide (decode code (pc + 7) = .ok (.iconst 0, 1))))
section LAW
variable {ys : List Int32} {b : Nat × Nat} {pc i : Nat} {xs st : List Value} {h : aH} {Q : Option Value → aH → Prop}
set_option maxRecDepth 100000 in
set_option maxHeartbeats 400000 in
theorem kI_j : ∀ j, j ≤ 5 → kI (Int.ofNat j) = nI j := by decide
set_option maxRecDepth 100000 in
set_option maxHeartbeats 400000 in
theorem w_al {a : Fin 4} {v : Nat} (hd : decode code pc = .ok (.aload_n a, 1)) (hx : xs[fv a]? = some (.ref v)) (hk : Ev 50 (some ys) mL_law b (pc + 1) xs (.ref v :: st) h Q) : Ev 50 (some ys) mL_law b pc xs st h Q :=
  s_k (i := .aload_n a) (0, 0, 0) (fun z => by cases z) hd rfl (fun k j rt q => by show gR xs (fv a) _; unfold gR; rw [hx]; exact q) hk
set_option maxRecDepth 100000 in
set_option maxHeartbeats 400000 in
theorem w_il {a : Nat} {v : Int32} (hd : decode code pc = .ok (.iload a, 2)) (hx : xs[a]? = some (.int v)) (hk : Ev 50 (some ys) mL_law b (pc + 2) xs (.int v :: st) h Q) : Ev 50 (some ys) mL_law b pc xs st h Q :=
  s_k (i := .iload a) (0, 0, 0) (fun z => by cases z) hd rfl (fun k j rt q => by show gI xs a _; unfold gI; rw [hx]; exact q) hk
set_option maxRecDepth 100000 in
set_option maxHeartbeats 400000 in
theorem w_ia {a : Nat} (h0 : xs[0]? = some (.ref XB)) (hd : decode code pc = .ok (.iaload, 1)) (ha : a < ys.length) (hl : ys.length ≤ 3072) (hk : Ev 50 (some ys) mL_law b (pc + 1) xs (.int (ys.getD a 0) :: st) h Q) : Ev 50 (some ys) mL_law b pc xs (.int (nI a) :: .ref XB :: st) h Q :=
  s_k (i := .iaload) (0, 0, 0) (fun z => by cases z) hd rfl (fun k j rt q => by
    unfold stp
    dsimp only [pI, pR, xI]
    rw [if_pos rfl]
    refine ⟨rfl, in_lt ha (by omega), ?_⟩
    rw [cl_lt (by omega)]
    exact q) hk
set_option maxRecDepth 100000 in
set_option maxHeartbeats 400000 in
theorem w_arg {j : Nat} (h0 : xs[0]? = some (.ref XB)) (h4 : xs[4]? = some (.int (nI i))) (hj : j ≤ 5) (hc : ckA pc j = true) (hi : i + 5 < ys.length) (hl : ys.length ≤ 3072) (hk : Ev 50 (some ys) mL_law b (pc + 6) xs (.int (ys.getD (i + j) 0) :: st) h Q) : Ev 50 (some ys) mL_law b pc xs st h Q := by
  unfold ckA at hc
  simp only [Bool.and_eq_true, decide_eq_true_eq] at hc
  obtain ⟨c1, c2, c3, c4, c5⟩ := hc
  refine w_al c1 h0 ?_
  refine w_il (pc := pc + 1) c2 h4 ?_
  refine s_k (i := .iconst (Int.ofNat j)) (pc := pc + 3) (0, 0, 0) (fun z => by cases z) c3 rfl (fun k j rt q => q) ?_
  refine s_k (i := .iadd) (pc := pc + 4) (0, 0, 0) (fun z => by cases z) c4 rfl (fun k j rt q => q) ?_
  rw [kI_j j hj, nI_add]
  exact w_ia (pc := pc + 5) h0 c5 (by omega) hl hk
set_option maxRecDepth 100000 in
set_option maxHeartbeats 400000 in
theorem w_bool {x : Int32} (hc : ckZ pc = true) (hk : Ev 50 (some ys) mL_law b (pc + 8) xs (.int (bI (decide (x ≠ 0))) :: st) h Q) : Ev 50 (some ys) mL_law b pc xs (.int x :: st) h Q := by
  unfold ckZ at hc
  simp only [Bool.and_eq_true, decide_eq_true_eq] at hc
  obtain ⟨c1, c2, c3, c4⟩ := hc
  by_cases z : x = 0
  · refine s_j (i := .ifCond .eq 7) (pc + 7, 0, 0) (pc + 7) (fun z => by cases z) c1 (decide_eq_true (by omega)) (fun k j rt q => ⟨fun _ => q, fun w => absurd z w⟩) ?_
    refine s_k (i := .iconst 0) (pc := pc + 7) (0, 0, 0) (fun z => by cases z) c4 rfl (fun k j rt q => q) ?_
    rw [decide_eq_false (fun w => w z)] at hk
    exact hk
  · refine s_k (i := .ifCond .eq 7) (pc + 7, 0, 0) (fun z => by cases z) c1 (decide_eq_true (by omega)) (fun k j rt q => ⟨fun w => absurd w z, fun _ => q⟩) ?_
    refine s_k (i := .iconst 1) (pc := pc + 3) (0, 0, 0) (fun z => by cases z) c2 rfl (fun k j rt q => q) ?_
    refine s_j (i := .goto 4) (pc := pc + 4) (pc + 8, 0, 0) (pc + 8) (fun z => by cases z) c3 (decide_eq_true (by omega)) (fun k j rt q => q) ?_
    rw [decide_eq_true z] at hk
    exact hk
set_option maxRecDepth 100000 in
set_option maxHeartbeats 400000 in
theorem k_inc : decode code 1863 = .ok (.iinc 4 6, 3) := by decide +kernel
set_option maxRecDepth 100000 in
set_option maxHeartbeats 400000 in
theorem k_bck : decode code 1866 = .ok (.goto (-1843), 3) := by decide +kernel
set_option maxRecDepth 100000 in
set_option maxHeartbeats 400000 in
theorem w_nxt {u w : Value} (hk : Ev 50 (some ys) mL_law b 23 (lX (i + 6)) [] h Q) : Ev 50 (some ys) mL_law b 1863 (lY i u w) [] h Q := by
  refine s_k (i := .iinc 4 6) (pc := 1863) (xs' := lY (i + 6) u w) (st' := []) (h' := h) (0, 0, 0) (fun z => by cases z) k_inc rfl (fun k j rt q => ?_) ?_
  · show _ ∧ k (sto1 (lY i u w) 4 (.int (nI i + kI 6))) [] h
    rw [kI_6, nI_add]
    exact ⟨by decide, q⟩
  · refine s_j (i := .goto (-1843)) (pc := 1866) (23, 0, 0) 23 (fun z => by cases z) k_bck rfl (fun k j rt q => q) ?_
    refine ev_les (fun j v hv => ?_) hk
    match j, hv with
    | 0, hv => exact Or.inr hv
    | 1, hv => exact Or.inr hv
    | 2, hv => exact Or.inr hv
    | 3, hv => exact Or.inr hv
    | 4, hv => exact Or.inr hv
    | 5, hv => cases hv; exact Or.inl rfl
    | 6, hv => cases hv; exact Or.inl rfl
    | j + 7, hv => cases hv
set_option maxRecDepth 100000 in
set_option maxHeartbeats 400000 in
theorem w_end {off : Int} {v : Int32} (hd : decode code pc = .ok (.if_icmp .eq off, 3)) (ht : (pc : Int) + off = 1863) (hk : Ev 50 (some ys) mL_law b 23 (lX (i + 6)) [] h Q) : Ev 50 (some ys) mL_law b pc (lX i) [.int v, .int v] h Q :=
  s_j (i := .if_icmp .eq off) (1863, 0, 0) 1863 (fun z => by cases z) hd (decide_eq_true ht) (fun k j rt q => ⟨fun _ => q, fun w => absurd rfl w⟩) (w_nxt hk)
set_option maxRecDepth 100000 in
set_option maxHeartbeats 400000 in
theorem lc_eq (x : Int64) : lg_cmp x x = 0 := by
  unfold lg_cmp
  rw [if_neg (fun z => Int.lt_irrefl _ (Int64.lt_iff_toInt_lt.mp z)), if_pos rfl]
set_option maxRecDepth 100000 in
set_option maxHeartbeats 400000 in
theorem w_endJ {off : Int} {v : Int64} (hd0 : decode code pc = .ok (.lcmp, 1)) (hd : decode code (pc + 1) = .ok (.ifCond .eq off, 3)) (ht : ((pc + 1 : Nat) : Int) + off = 1863) (hk : Ev 50 (some ys) mL_law b 23 (lX (i + 6)) [] h Q) : Ev 50 (some ys) mL_law b pc (lX i) [.long v, .long v] h Q := by
  refine s_k (i := .lcmp) (0, 0, 0) (fun z => by cases z) hd0 rfl (fun k j rt q => q) ?_
  rw [lc_eq]
  exact s_j (i := .ifCond .eq off) (pc := pc + 1) (1863, 0, 0) 1863 (fun z => by cases z) hd (decide_eq_true ht) (fun k j rt q => ⟨fun _ => q, fun w => absurd rfl w⟩) (w_nxt hk)
end LAW
