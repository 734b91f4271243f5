-- BOTH OBJECTS: what stands in one stands in the other
def rw22 (S : Mem) (c i : Nat) : Row := fun j => S c (22 * i + j)
def agU (r q : Row) (U E : Nat) : Prop := (∀ k, k < U → r (51 + 2 * k) = q (51 + 2 * k) ∧ r (52 + 2 * k) = q (52 + 2 * k)) ∧ (∀ k, k < E → r (59 + 2 * k) = q (59 + 2 * k) ∧ r (60 + 2 * k) = q (60 + 2 * k))
-- a table's numbers
def TbX (r : Row) (P N F U E : Nat) : Prop := TbS r P N ∧ 0 < P ∧ r 5 = nI F ∧ F ≤ 8 ∧ r 6 = nI U ∧ U ≤ 4 ∧ r 7 = nI E ∧ E ≤ 6 ∧ sm (r 2) 100 ∧ (∀ k, k < N → sm (r (19 + 2 * k)) 200) ∧ (∀ j k, j < k → k < N → r (19 + 2 * j) ≠ r (19 + 2 * k)) ∧
  (∀ k, k < F → ∃ p, p < P ∧ r (35 + 2 * k) = nI p) ∧ (∀ k, k < U → ∃ p, p < P ∧ r (51 + 2 * k) = nI p) ∧ (∀ k, k < U → sm (r (52 + 2 * k)) 99) ∧ (∀ k, k < E → ∃ d, 1 ≤ d ∧ d ≤ 60 ∧ r (60 + 2 * k) = nI d)
-- as told: hungers, worths
def Tld (S : Mem) (t P N : Nat) : Prop := (∀ p, p < P → S t (100 + p) = S 172 p ∧ sm (S 172 p) 99) ∧ (∀ k, k < N → S t (114 + k) = S 172 (14 + k) ∧ sm (S 172 (14 + k)) 20) ∧ (∀ j, 5 ≤ j → j < 14 → S 172 j = nI 0)
def Hst (S : Mem) (P N : Nat) : Prop := ∃ u x, u ≤ 16 ∧ x < 16 ∧ S 56 0 = nI u ∧ S 56 1 = nI x ∧ S 167 23 = nI u ∧ ∀ i, i < u → agR (S (58 + 4 * ((x + 16 - u + i) % 16))) (rw22 S 176 i) P N ∧ Inv (rw22 S 176 i) P N 999
def Img (S : Mem) (P N : Nat) : Prop := ∃ v, v ≤ 3 ∧ S 122 0 = nI v ∧ S 167 24 = nI v ∧ ∀ i, i < v → agR (S (124 + 4 * i)) (rw22 S 177 i) P N ∧ Inv (rw22 S 177 i) P N 999
def Tpe (S : Mem) : Prop := ∃ b, b ≤ 700 ∧ S 1 0 = nI b ∧ S 167 2 = nI b ∧ ∀ k, k < b → ∃ y, y < 256 ∧ S 168 k = nI y ∧ S 2 k = (nI y).toInt8.toInt32
def Trb (S : Mem) : Prop := S 0 11 = S 167 11 ∧ S 0 12 = S 167 9 ∧ (S 167 11 = nI 4 → S 1 2 = S 167 10)
def Yes (S : Mem) (t P N F U E : Nat) : Prop := TbX (S 170) P N F U E ∧ agT (S t) (S 170) P N F ∧ agU (S t) (S 170) U E ∧ Tld S t P N ∧ agR (S 139) (S 174) P N ∧ Inv (S 174) P N 999 ∧ Hst S P N ∧ Img S P N
def Nay (S : Mem) (t : Nat) : Prop := (∀ j, j < 8 → S t j = nI 0) ∧ S 139 13 = nI 0 ∧ S 56 0 = nI 0 ∧ S 56 1 = nI 0 ∧ S 122 0 = nI 0 ∧ S 167 23 = nI 0 ∧ S 167 24 = nI 0
def tT (T : Nat → Nat) : Prop := (T 0 = 143 ∧ T 1 = 155) ∨ (T 0 = 155 ∧ T 1 = 143)
-- who fasted, fasted no more days than there were
def Fdd (R : Row) (P : Nat) : Prop := ∀ p, p < P → ∃ a d, a ≤ d ∧ d ≤ 999 ∧ R (5 + p) = nI a ∧ R 13 = nI d
def FdA (S : Mem) (P : Nat) : Prop := Fdd (S 174) P ∧ (∀ u, u ≤ 16 → S 167 23 = nI u → ∀ i, i < u → Fdd (rw22 S 176 i) P) ∧ (∀ v, v ≤ 3 → S 167 24 = nI v → ∀ i, i < v → Fdd (rw22 S 177 i) P)
def Rl (S : Mem) (T : Nat → Nat) : Prop := tT T ∧ Tpe S ∧ Trb S ∧ ((S 167 14 = nI 1 ∧ ∃ P N F U E, Yes S (T 0) P N F U E ∧ FdA S P) ∨ (S 167 14 = nI 0 ∧ Nay S (T 0)))
def CL : List Nat := [0, 7, 8, 12, 15, 16, 17, 19, 22, 26, 30, 34, 38, 39, 40, 44, 47, 48, 49, 53, 136]
def ML : List Nat := [167, 175, 178, 179, 180]
def pM : List Nat := [2, 9, 10, 14, 23, 24]
set_option maxRecDepth 100000 in
set_option maxHeartbeats 400000 in
theorem tT_pl {T : Nat → Nat} (h : tT T) : tlA (T 0) ∧ 56 ≤ T 0 ∧ (T 0 = 143 ∨ T 0 = 155) := by
  rcases h with h | h
  · rw [h.1]; exact ⟨tlA_143, by omega, Or.inl rfl⟩
  · rw [h.1]; exact ⟨tlA_155, by omega, Or.inr rfl⟩
-- what a question may change
set_option maxRecDepth 100000 in
set_option maxHeartbeats 400000 in
theorem Rl_q {S S' : Mem} {T : Nat → Nat} (h : Rl S T) (hf : fr S S' (CL ++ ML)) (h12 : S' 0 12 = S 0 12) (h11 : S' 0 11 = S' 167 11) (h4 : S' 167 11 ≠ nI 4) (hp : ∀ j, j ∈ pM → S' 167 j = S 167 j) : Rl S' T := by
  obtain ⟨h0, h1, h2, h3⟩ := h
  have ho : ∀ c, c ∉ CL ++ ML → S' c = S c := hf
  have e1 : S' 1 = S 1 := ho 1 (by decide)
  have e2 : S' 2 = S 2 := ho 2 (by decide)
  have e168 : S' 168 = S 168 := ho 168 (by decide)
  have e170 : S' 170 = S 170 := ho 170 (by decide)
  have e172 : S' 172 = S 172 := ho 172 (by decide)
  have e174 : S' 174 = S 174 := ho 174 (by decide)
  have e176 : S' 176 = S 176 := ho 176 (by decide)
  have e177 : S' 177 = S 177 := ho 177 (by decide)
  have e139 : S' 139 = S 139 := ho 139 (by decide)
  have e56 : S' 56 = S 56 := ho 56 (by decide)
  have e122 : S' 122 = S 122 := ho 122 (by decide)
  have et : S' (T 0) = S (T 0) := by
    rcases h0 with z | z
    · rw [z.1]; exact ho 143 (by decide)
    · rw [z.1]; exact ho 155 (by decide)
  have eh : ∀ k, k < 16 → S' (58 + 4 * k) = S (58 + 4 * k) := fun k hk => ho _ (by
    have : ∀ k, k < 16 → (58 + 4 * k) ∉ CL ++ ML := by decide
    exact this k hk)
  have ei : ∀ k, k < 3 → S' (124 + 4 * k) = S (124 + 4 * k) := fun k hk => ho _ (by
    have : ∀ k, k < 3 → (124 + 4 * k) ∉ CL ++ ML := by decide
    exact this k hk)
  have p2 := hp 2 (by decide)
  have p9 := hp 9 (by decide)
  have p10 := hp 10 (by decide)
  have p14 := hp 14 (by decide)
  have p23 := hp 23 (by decide)
  have p24 := hp 24 (by decide)
  refine ⟨h0, ?_, ⟨h11, ?_, fun z => absurd z h4⟩, ?_⟩
  · unfold Tpe at h1 ⊢
    rw [e1, e2, e168, p2]
    exact h1
  · rw [h12, p9]; exact h2.2.1
  · rw [p14]
    rcases h3 with ⟨z1, P, N, F, U, E, z2, z3⟩ | ⟨z1, z2⟩
    · have z3' : FdA S' P := by
        unfold FdA rw22 at z3 ⊢
        rw [e174, e176, e177, p23, p24]
        exact z3
      refine Or.inl ⟨z1, P, N, F, U, E, ?_, z3'⟩
      obtain ⟨y1, y2, y3, y4, y5, y6, ⟨u, x, w1, w2, w3, w4, w5, w6⟩, ⟨v, v1, v2, v3, v4⟩⟩ := z2
      refine ⟨by rw [e170]; exact y1, by rw [e170, et]; exact y2, by rw [e170, et]; exact y3, ?_, by rw [e139, e174]; exact y5, by rw [e174]; exact y6, ⟨u, x, w1, w2, by rw [e56]; exact w3, by rw [e56]; exact w4, by rw [p23]; exact w5, fun i hi => ?_⟩, ⟨v, v1, by rw [e122]; exact v2, by rw [p24]; exact v3, fun i hi => ?_⟩⟩
      · unfold Tld at y4 ⊢
        rw [et, e172]
        exact y4
      · have := w6 i hi
        unfold rw22 at this ⊢
        rw [eh _ (Nat.mod_lt _ (by omega)), e176]
        exact this
      · have := v4 i hi
        unfold rw22 at this ⊢
        rw [ei i (by omega), e177]
        exact this
    · refine Or.inr ⟨z1, ?_⟩
      unfold Nay at z2 ⊢
      rw [et, e139, e56, e122, p23, p24]
      exact z2
-- a question, as each side answers it
def cq (g : aH → Option (Int32 × aH)) (S : Mem) (J : MeJ) (T : Nat → Nat) (v tr : Int32) : Prop := ∃ S1, g (hp S J T) = some (v, hp S1 J T) ∧ fr S S1 CL ∧ S1 0 11 = tr ∧ S1 0 12 = S 0 12
def mq (g : aH → Option (Int32 × aH)) (S : Mem) (J : MeJ) (T : Nat → Nat) (v tr : Int32) : Prop := ∃ S1, g (hp S J T) = some (v, hp S1 J T) ∧ fr S S1 ML ∧ S1 167 11 = tr ∧ ∀ j, j ∈ pM → S1 167 j = S 167 j
-- both, one behind the other
def bth (gc gm : aH → Option (Int32 × aH)) (S : Mem) (J : MeJ) (T : Nat → Nat) : Prop := ∃ (v : Int32) (S1 S2 : Mem) (J1 J2 : MeJ) (T1 : Nat → Nat), gc (hp S J T) = some (v, hp S1 J1 T1) ∧ gm (hp S1 J1 T1) = some (v, hp S2 J2 T1) ∧ Rl S2 T1
set_option maxRecDepth 100000 in
set_option maxHeartbeats 400000 in
theorem bth_q {gc gm : aH → Option (Int32 × aH)} {S : Mem} {J : MeJ} {T : Nat → Nat} (h : Rl S T) {v tr : Int32} (hc : cq gc S J T v tr) (hm : ∀ S1, fr S S1 CL → mq gm S1 J T v tr) (h4 : tr ≠ nI 4) : bth gc gm S J T := by
  obtain ⟨S1, a1, a2, a3, a4⟩ := hc
  obtain ⟨S2, b1, b2, b3, b4⟩ := hm S1 a2
  refine ⟨v, S1, S2, J, J, T, a1, b1, Rl_q h ?_ ?_ ?_ (by rw [b3]; exact h4) (fun j hj => ?_)⟩
  · exact fr_tr (fr_mo a2 (fun c hc => List.mem_append_left _ hc)) (fr_mo b2 (fun c hc => List.mem_append_right _ hc))
  · rw [b2 0 (by decide)]; exact a4
  · rw [b2 0 (by decide), a3, b3]
  · rw [b4 j hj, a2 167 (by decide)]
