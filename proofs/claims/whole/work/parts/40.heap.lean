abbrev Mem : Type := Nat → Nat → Int32
abbrev MeJ : Type := Nat → Nat → Int64
abbrev Sh : Type := (Nat × Nat × Nat × Nat × Nat) ⊕ (Nat × List (Nat × Nat × Nat))
def clF (S : Mem) (J : MeJ) (T : Nat → Nat) (f : Nat × Nat × Nat) : Value := match f with
  | (0, b, i) => .int (S b i)
  | (1, r, _) => .ref r
  | (2, b, i) => .long (J b i)
  | (_, _, i) => .ref (T i)
def cl (S : Mem) (J : MeJ) (T : Nat → Nat) (s : Sh) : aC := match s with
  | .inl (3, b, o, m, n) => .inl (3, .inr (.inl ((List.range n).map fun i => J b (o + m * i))))
  | .inl (4, b, _, m, n) => .inl (4, .inr (.inr ((List.range n).map fun i => some (b + m * i))))
  | .inl (t, b, o, m, n) => .inl (t, .inl ((List.range n).map fun i => S b (o + m * i)))
  | .inr (ci, fs) => .inr (ci, fs.map (clF S J T))
def SH_0 : List Sh := [.inr (10, [(1, 1, 0), (1, 7, 0), (1, 17, 0), (1, 38, 0), (1, 47, 0), (1, 56, 0), (1, 122, 0), (1, 136, 0), (1, 139, 0), (3, 0, 0), (3, 0, 1), (0, 0, 11), (0, 0, 12)]), .inr (8, [(0, 1, 0), (0, 1, 1), (0, 1, 2), (1, 2, 0), (1, 3, 0), (1, 4, 0), (1, 5, 0), (1, 6, 0), (0, 1, 8), (0, 1, 9), (0, 1, 10), (0, 1, 11), (0, 1, 12), (0, 1, 13), (0, 1, 14)]), .inl (1, 2, 0, 1, 700), .inl (0, 3, 0, 1, 13), .inl (0, 4, 0, 1, 13), .inl (2, 5, 0, 1, 13), .inl (0, 6, 0, 1, 13), .inr (1, [(1, 8, 0), (1, 12, 0), (1, 15, 0), (1, 16, 0), (0, 7, 4), (0, 7, 5)]), .inr (7, [(1, 9, 0), (1, 10, 0), (1, 11, 0), (0, 8, 10), (0, 8, 11), (0, 8, 12), (0, 8, 13)]), .inl (0, 8, 0, 1, 5), .inl (0, 8, 5, 1, 5), .inl (0, 8, 14, 1, 8), .inr (6, [(0, 12, 0), (0, 12, 1), (1, 13, 0), (1, 14, 0)]), .inl (0, 12, 2, 1, 5), .inl (0, 12, 7, 1, 5), .inl (0, 15, 0, 1, 5), .inl (0, 16, 0, 1, 5), .inr (2, [(0, 17, 0), (0, 17, 1), (0, 17, 2), (1, 18, 0), (1, 19, 0), (0, 17, 5), (0, 17, 6)]), .inl (4, 22, 0, 4, 4), .inr (6, [(0, 19, 0), (0, 19, 1), (1, 20, 0), (1, 21, 0)]), .inl (0, 19, 2, 1, 5), .inl (0, 19, 7, 1, 5), .inr (7, [(1, 23, 0), (1, 24, 0), (1, 25, 0), (0, 22, 10), (0, 22, 11), (0, 22, 12), (0, 22, 13)]), .inl (0, 22, 0, 1, 5), .inl (0, 22, 5, 1, 5), .inl (0, 22, 14, 1, 8)]
def SH_1 : List Sh := [.inr (7, [(1, 27, 0), (1, 28, 0), (1, 29, 0), (0, 26, 10), (0, 26, 11), (0, 26, 12), (0, 26, 13)]), .inl (0, 26, 0, 1, 5), .inl (0, 26, 5, 1, 5), .inl (0, 26, 14, 1, 8), .inr (7, [(1, 31, 0), (1, 32, 0), (1, 33, 0), (0, 30, 10), (0, 30, 11), (0, 30, 12), (0, 30, 13)]), .inl (0, 30, 0, 1, 5), .inl (0, 30, 5, 1, 5), .inl (0, 30, 14, 1, 8), .inr (7, [(1, 35, 0), (1, 36, 0), (1, 37, 0), (0, 34, 10), (0, 34, 11), (0, 34, 12), (0, 34, 13)]), .inl (0, 34, 0, 1, 5), .inl (0, 34, 5, 1, 5), .inl (0, 34, 14, 1, 8), .inr (3, [(0, 38, 0), (0, 38, 1), (0, 38, 2), (0, 38, 3), (1, 39, 0), (1, 40, 0), (1, 44, 0)]), .inl (0, 39, 0, 1, 61), .inr (7, [(1, 41, 0), (1, 42, 0), (1, 43, 0), (0, 40, 10), (0, 40, 11), (0, 40, 12), (0, 40, 13)]), .inl (0, 40, 0, 1, 5), .inl (0, 40, 5, 1, 5), .inl (0, 40, 14, 1, 8), .inr (6, [(0, 44, 0), (0, 44, 1), (1, 45, 0), (1, 46, 0)]), .inl (0, 44, 2, 1, 5), .inl (0, 44, 7, 1, 5), .inr (0, [(2, 47, 0), (1, 48, 0), (1, 49, 0), (1, 53, 0)]), .inl (3, 48, 0, 1, 8), .inr (7, [(1, 50, 0), (1, 51, 0), (1, 52, 0), (0, 49, 10), (0, 49, 11), (0, 49, 12), (0, 49, 13)]), .inl (0, 49, 0, 1, 5), .inl (0, 49, 5, 1, 5)]
def SH_2 : List Sh := [.inl (0, 49, 14, 1, 8), .inr (6, [(0, 53, 0), (0, 53, 1), (1, 54, 0), (1, 55, 0)]), .inl (0, 53, 2, 1, 5), .inl (0, 53, 7, 1, 5), .inr (4, [(0, 56, 0), (0, 56, 1), (1, 57, 0)]), .inl (4, 58, 0, 4, 16), .inr (7, [(1, 59, 0), (1, 60, 0), (1, 61, 0), (0, 58, 10), (0, 58, 11), (0, 58, 12), (0, 58, 13)]), .inl (0, 58, 0, 1, 5), .inl (0, 58, 5, 1, 5), .inl (0, 58, 14, 1, 8), .inr (7, [(1, 63, 0), (1, 64, 0), (1, 65, 0), (0, 62, 10), (0, 62, 11), (0, 62, 12), (0, 62, 13)]), .inl (0, 62, 0, 1, 5), .inl (0, 62, 5, 1, 5), .inl (0, 62, 14, 1, 8), .inr (7, [(1, 67, 0), (1, 68, 0), (1, 69, 0), (0, 66, 10), (0, 66, 11), (0, 66, 12), (0, 66, 13)]), .inl (0, 66, 0, 1, 5), .inl (0, 66, 5, 1, 5), .inl (0, 66, 14, 1, 8), .inr (7, [(1, 71, 0), (1, 72, 0), (1, 73, 0), (0, 70, 10), (0, 70, 11), (0, 70, 12), (0, 70, 13)]), .inl (0, 70, 0, 1, 5), .inl (0, 70, 5, 1, 5), .inl (0, 70, 14, 1, 8), .inr (7, [(1, 75, 0), (1, 76, 0), (1, 77, 0), (0, 74, 10), (0, 74, 11), (0, 74, 12), (0, 74, 13)]), .inl (0, 74, 0, 1, 5), .inl (0, 74, 5, 1, 5), .inl (0, 74, 14, 1, 8)]
def SH_3 : List Sh := [.inr (7, [(1, 79, 0), (1, 80, 0), (1, 81, 0), (0, 78, 10), (0, 78, 11), (0, 78, 12), (0, 78, 13)]), .inl (0, 78, 0, 1, 5), .inl (0, 78, 5, 1, 5), .inl (0, 78, 14, 1, 8), .inr (7, [(1, 83, 0), (1, 84, 0), (1, 85, 0), (0, 82, 10), (0, 82, 11), (0, 82, 12), (0, 82, 13)]), .inl (0, 82, 0, 1, 5), .inl (0, 82, 5, 1, 5), .inl (0, 82, 14, 1, 8), .inr (7, [(1, 87, 0), (1, 88, 0), (1, 89, 0), (0, 86, 10), (0, 86, 11), (0, 86, 12), (0, 86, 13)]), .inl (0, 86, 0, 1, 5), .inl (0, 86, 5, 1, 5), .inl (0, 86, 14, 1, 8), .inr (7, [(1, 91, 0), (1, 92, 0), (1, 93, 0), (0, 90, 10), (0, 90, 11), (0, 90, 12), (0, 90, 13)]), .inl (0, 90, 0, 1, 5), .inl (0, 90, 5, 1, 5), .inl (0, 90, 14, 1, 8), .inr (7, [(1, 95, 0), (1, 96, 0), (1, 97, 0), (0, 94, 10), (0, 94, 11), (0, 94, 12), (0, 94, 13)]), .inl (0, 94, 0, 1, 5), .inl (0, 94, 5, 1, 5), .inl (0, 94, 14, 1, 8), .inr (7, [(1, 99, 0), (1, 100, 0), (1, 101, 0), (0, 98, 10), (0, 98, 11), (0, 98, 12), (0, 98, 13)]), .inl (0, 98, 0, 1, 5), .inl (0, 98, 5, 1, 5), .inl (0, 98, 14, 1, 8), .inr (7, [(1, 103, 0), (1, 104, 0), (1, 105, 0), (0, 102, 10), (0, 102, 11), (0, 102, 12), (0, 102, 13)]), .inl (0, 102, 0, 1, 5)]
def SH_4 : List Sh := [.inl (0, 102, 5, 1, 5), .inl (0, 102, 14, 1, 8), .inr (7, [(1, 107, 0), (1, 108, 0), (1, 109, 0), (0, 106, 10), (0, 106, 11), (0, 106, 12), (0, 106, 13)]), .inl (0, 106, 0, 1, 5), .inl (0, 106, 5, 1, 5), .inl (0, 106, 14, 1, 8), .inr (7, [(1, 111, 0), (1, 112, 0), (1, 113, 0), (0, 110, 10), (0, 110, 11), (0, 110, 12), (0, 110, 13)]), .inl (0, 110, 0, 1, 5), .inl (0, 110, 5, 1, 5), .inl (0, 110, 14, 1, 8), .inr (7, [(1, 115, 0), (1, 116, 0), (1, 117, 0), (0, 114, 10), (0, 114, 11), (0, 114, 12), (0, 114, 13)]), .inl (0, 114, 0, 1, 5), .inl (0, 114, 5, 1, 5), .inl (0, 114, 14, 1, 8), .inr (7, [(1, 119, 0), (1, 120, 0), (1, 121, 0), (0, 118, 10), (0, 118, 11), (0, 118, 12), (0, 118, 13)]), .inl (0, 118, 0, 1, 5), .inl (0, 118, 5, 1, 5), .inl (0, 118, 14, 1, 8), .inr (5, [(0, 122, 0), (1, 123, 0)]), .inl (4, 124, 0, 4, 3), .inr (7, [(1, 125, 0), (1, 126, 0), (1, 127, 0), (0, 124, 10), (0, 124, 11), (0, 124, 12), (0, 124, 13)]), .inl (0, 124, 0, 1, 5), .inl (0, 124, 5, 1, 5), .inl (0, 124, 14, 1, 8), .inr (7, [(1, 129, 0), (1, 130, 0), (1, 131, 0), (0, 128, 10), (0, 128, 11), (0, 128, 12), (0, 128, 13)]), .inl (0, 128, 0, 1, 5)]
def SH_5 : List Sh := [.inl (0, 128, 5, 1, 5), .inl (0, 128, 14, 1, 8), .inr (7, [(1, 133, 0), (1, 134, 0), (1, 135, 0), (0, 132, 10), (0, 132, 11), (0, 132, 12), (0, 132, 13)]), .inl (0, 132, 0, 1, 5), .inl (0, 132, 5, 1, 5), .inl (0, 132, 14, 1, 8), .inr (6, [(0, 136, 0), (0, 136, 1), (1, 137, 0), (1, 138, 0)]), .inl (0, 136, 2, 1, 5), .inl (0, 136, 7, 1, 5), .inr (7, [(1, 140, 0), (1, 141, 0), (1, 142, 0), (0, 139, 10), (0, 139, 11), (0, 139, 12), (0, 139, 13)]), .inl (0, 139, 0, 1, 5), .inl (0, 139, 5, 1, 5), .inl (0, 139, 14, 1, 8), .inr (9, [(0, 143, 0), (0, 143, 1), (0, 143, 2), (0, 143, 3), (0, 143, 4), (0, 143, 5), (0, 143, 6), (0, 143, 7), (1, 144, 0), (1, 145, 0), (1, 146, 0), (1, 147, 0), (1, 148, 0), (1, 149, 0), (1, 150, 0), (1, 151, 0), (1, 152, 0), (1, 153, 0), (1, 154, 0)]), .inl (0, 143, 100, 1, 5), .inl (0, 143, 10, 2, 5), .inl (0, 143, 9, 2, 5), .inl (0, 143, 19, 2, 8), .inl (0, 143, 114, 1, 8), .inl (0, 143, 35, 2, 8), .inl (0, 143, 36, 2, 8), .inl (0, 143, 51, 2, 4), .inl (0, 143, 52, 2, 4), .inl (0, 143, 59, 2, 6), .inl (0, 143, 60, 2, 6), .inr (9, [(0, 155, 0), (0, 155, 1), (0, 155, 2), (0, 155, 3), (0, 155, 4), (0, 155, 5), (0, 155, 6), (0, 155, 7), (1, 156, 0), (1, 157, 0), (1, 158, 0), (1, 159, 0), (1, 160, 0), (1, 161, 0), (1, 162, 0), (1, 163, 0), (1, 164, 0), (1, 165, 0), (1, 166, 0)])]
def SH_6 : List Sh := [.inl (0, 155, 100, 1, 5), .inl (0, 155, 10, 2, 5), .inl (0, 155, 9, 2, 5), .inl (0, 155, 19, 2, 8), .inl (0, 155, 114, 1, 8), .inl (0, 155, 35, 2, 8), .inl (0, 155, 36, 2, 8), .inl (0, 155, 51, 2, 4), .inl (0, 155, 52, 2, 4), .inl (0, 155, 59, 2, 6), .inl (0, 155, 60, 2, 6), .inr (11, [(0, 167, 0), (1, 168, 0), (0, 167, 2), (0, 167, 3), (0, 167, 4), (0, 167, 5), (0, 167, 6), (0, 167, 7), (0, 167, 8), (0, 167, 9), (0, 167, 10), (0, 167, 11), (1, 169, 0), (0, 167, 13), (0, 167, 14), (1, 170, 0), (1, 171, 0), (1, 172, 0), (1, 173, 0), (1, 174, 0), (1, 175, 0), (1, 176, 0), (1, 177, 0), (0, 167, 23), (0, 167, 24), (0, 167, 25), (0, 167, 26), (1, 178, 0), (1, 179, 0), (0, 167, 29), (0, 167, 30), (0, 167, 31), (0, 167, 32), (0, 167, 33), (0, 167, 34), (0, 167, 35), (1, 180, 0), (0, 167, 37), (0, 167, 38), (0, 167, 39), (0, 167, 40), (2, 167, 41), (2, 167, 42), (2, 167, 43)]), .inl (0, 168, 0, 1, 700), .inl (0, 169, 0, 1, 8), .inl (0, 170, 0, 1, 188), .inl (0, 171, 0, 1, 188), .inl (0, 172, 0, 1, 22), .inl (0, 173, 0, 1, 22), .inl (0, 174, 0, 1, 22), .inl (0, 175, 0, 1, 22), .inl (0, 176, 0, 1, 352), .inl (0, 177, 0, 1, 66), .inl (0, 178, 0, 1, 5), .inl (0, 179, 0, 1, 5), .inl (0, 180, 0, 1, 4), .inl (3, 181, 0, 1, 1)]
def SH : List Sh := SH_0 ++ (SH_1 ++ (SH_2 ++ (SH_3 ++ (SH_4 ++ (SH_5 ++ SH_6)))))
def hp (S : Mem) (J : MeJ) (T : Nat → Nat) : aH := SH.map (cl S J T)
def slo (s : Sh) : List (Nat × Nat) := match s with
  | .inl (3, _, _, _, _) => []
  | .inl (4, _, _, _, _) => []
  | .inl (_, b, o, m, n) => (List.range n).map fun i => (b, o + m * i)
  | .inr (_, fs) => (fs.filter fun f => f.1 == 0).map fun f => (f.2.1, f.2.2)
def sloJ (s : Sh) : List (Nat × Nat) := match s with
  | .inl (3, b, o, m, n) => (List.range n).map fun i => (b, o + m * i)
  | .inl (_, _, _, _, _) => []
  | .inr (_, fs) => (fs.filter fun f => f.1 == 2).map fun f => (f.2.1, f.2.2)
def sloT (s : Sh) : List Nat := match s with
  | .inl _ => []
  | .inr (_, fs) => (fs.filter fun f => decide (2 < f.1)).map fun f => f.2.2
def plB (b : Nat) : Bool := [8, 22, 26, 30, 34, 40, 49, 58, 62, 66, 70, 74, 78, 82, 86, 90, 94, 98, 102, 106, 110, 114, 118, 124, 128, 132, 139].contains b
def mlB (b : Nat) : Bool := [12, 19, 44, 53, 136].contains b
def tlB (b : Nat) : Bool := [143, 155].contains b
def onr (b i : Nat) : Nat :=
  if plB b then (if i < 5 then b + 1 else if i < 10 then b + 2 else if i < 14 then b else b + 3)
  else if mlB b then (if i < 2 then b else if i < 7 then b + 1 else b + 2)
  else if tlB b then (if i < 8 then b else if 100 ≤ i then (if i < 105 then b + 1 else b + 5) else if i < 19 then (if i % 2 = 0 then b + 2 else b + 3) else if i < 35 then b + 4 else if i < 51 then (if i % 2 = 1 then b + 6 else b + 7) else if i < 59 then (if i % 2 = 1 then b + 8 else b + 9) else (if i % 2 = 1 then b + 10 else b + 11))
  else b
def ckO1 : Nat → List Sh → Bool
  | _, [] => true
  | k, s :: r => (slo s).all (fun p => onr p.1 p.2 == k) && ((sloJ s).all (fun p => p.1 == k) && ((sloT s).all (fun _ => k == 0) && ckO1 (k + 1) r))
theorem ckO1_ok : ckO1 0 SH = true := by decide +kernel
theorem ckO1_at : ∀ {l : List Sh} {k : Nat}, ckO1 k l = true → ∀ {j : Nat} {s : Sh}, l[j]? = some s → (∀ p ∈ slo s, onr p.1 p.2 = k + j) ∧ (∀ p ∈ sloJ s, p.1 = k + j) ∧ (∀ p ∈ sloT s, k + j = 0) := by
  intro l
  induction l with
  | nil => intro k _ j s h; simp at h
  | cons a r ih =>
    intro k hk j s h
    unfold ckO1 at hk
    rw [Bool.and_eq_true, Bool.and_eq_true, Bool.and_eq_true] at hk
    obtain ⟨h1, h2, h3, h4⟩ := hk
    cases j with
    | zero =>
      have e : a = s := by simpa using h
      subst e
      refine ⟨fun p hp => ?_, fun p hp => ?_, fun p hp => ?_⟩
      · exact eq_of_beq (List.all_eq_true.mp h1 p hp)
      · exact eq_of_beq (List.all_eq_true.mp h2 p hp)
      · exact eq_of_beq (List.all_eq_true.mp h3 p hp)
    | succ j =>
      have := ih h4 (j := j) (s := s) (by simpa using h)
      rw [show k + 1 + j = k + (j + 1) by omega] at this
      exact this
theorem own_S {j : Nat} {s : Sh} (h : SH[j]? = some s) {b i : Nat} (hs : (b, i) ∈ slo s) : onr b i = j := by
  have := (ckO1_at ckO1_ok h).1 _ hs
  rw [Nat.zero_add] at this
  exact this
theorem own_J {j : Nat} {s : Sh} (h : SH[j]? = some s) {b i : Nat} (hs : (b, i) ∈ sloJ s) : b = j := by
  have := (ckO1_at ckO1_ok h).2.1 _ hs
  rw [Nat.zero_add] at this
  exact this
theorem own_T {j : Nat} {s : Sh} (h : SH[j]? = some s) {i : Nat} (hs : i ∈ sloT s) : j = 0 := by
  have := (ckO1_at ckO1_ok h).2.2 _ hs
  rw [Nat.zero_add] at this
  exact this
def stS (S : Mem) (b i : Nat) (x : Int32) : Mem := fun c j => if c = b ∧ j = i then x else S c j
def stJ (S : MeJ) (b i : Nat) (x : Int64) : MeJ := fun c j => if c = b ∧ j = i then x else S c j
def stT (T : Nat → Nat) (i x : Nat) : Nat → Nat := fun j => if j = i then x else T j
/-- n numbers from (b, o) on come to (c, p) -/
def cpS (S : Mem) (b o c p n : Nat) : Mem := fun d j => if d = c ∧ p ≤ j ∧ j < p + n then S b (o + (j - p)) else S d j
section HEAP
variable {S S' : Mem} {J J' : MeJ} {T T' : Nat → Nat}
theorem stS_eq {b i : Nat} {x : Int32} : stS S b i x b i = x := if_pos ⟨rfl, rfl⟩
theorem stS_ne {b i c j : Nat} {x : Int32} (h : c ≠ b ∨ j ≠ i) : stS S b i x c j = S c j := if_neg (fun z => h.elim (fun q => q z.1) (fun q => q z.2))
theorem stS_nc {b i c : Nat} {x : Int32} (h : c ≠ b) : stS S b i x c = S c := funext fun _ => stS_ne (Or.inl h)
theorem stJ_eq {b i : Nat} {x : Int64} : stJ J b i x b i = x := if_pos ⟨rfl, rfl⟩
theorem stJ_ne {b i c j : Nat} {x : Int64} (h : c ≠ b ∨ j ≠ i) : stJ J b i x c j = J c j := if_neg (fun z => h.elim (fun q => q z.1) (fun q => q z.2))
theorem stT_eq {i x : Nat} : stT T i x i = x := if_pos rfl
theorem stT_ne {i x j : Nat} (h : j ≠ i) : stT T i x j = T j := if_neg h
theorem hp_get {k : Nat} {s : Sh} (h : SH[k]? = some s) : (hp S J T)[k]? = some (cl S J T s) := by
  unfold hp
  rw [List.getElem?_map, h]
  rfl
theorem clF_same {f : Nat × Nat × Nat} (h0 : f.1 = 0 → S' f.2.1 f.2.2 = S f.2.1 f.2.2) (h2 : f.1 = 2 → J' f.2.1 f.2.2 = J f.2.1 f.2.2) (h3 : 2 < f.1 → T' f.2.2 = T f.2.2) : clF S' J' T' f = clF S J T f := by
  obtain ⟨k, b, i⟩ := f
  match k with
  | 0 => exact congrArg Value.int (h0 rfl)
  | 1 => rfl
  | 2 => exact congrArg Value.long (h2 rfl)
  | k + 3 => exact congrArg Value.ref (h3 (by omega))
theorem cl_same {s : Sh} (hS : ∀ b i, (b, i) ∈ slo s → S' b i = S b i) (hJ : ∀ b i, (b, i) ∈ sloJ s → J' b i = J b i) (hT : ∀ i, i ∈ sloT s → T' i = T i) : cl S' J' T' s = cl S J T s := by
  match s with
  | .inl (3, b, o, m, n) =>
    refine congrArg (fun z => (.inl (3, .inr (.inl z)) : aC)) (List.map_congr_left fun i hi => ?_)
    exact hJ _ _ (List.mem_map.mpr ⟨i, hi, rfl⟩)
  | .inl (4, b, o, m, n) => rfl
  | .inl (0, b, o, m, n) =>
    refine congrArg (fun z => (.inl (0, .inl z) : aC)) (List.map_congr_left fun i hi => ?_)
    exact hS _ _ (List.mem_map.mpr ⟨i, hi, rfl⟩)
  | .inl (1, b, o, m, n) =>
    refine congrArg (fun z => (.inl (1, .inl z) : aC)) (List.map_congr_left fun i hi => ?_)
    exact hS _ _ (List.mem_map.mpr ⟨i, hi, rfl⟩)
  | .inl (2, b, o, m, n) =>
    refine congrArg (fun z => (.inl (2, .inl z) : aC)) (List.map_congr_left fun i hi => ?_)
    exact hS _ _ (List.mem_map.mpr ⟨i, hi, rfl⟩)
  | .inl (t + 5, b, o, m, n) =>
    refine congrArg (fun z => (.inl (t + 5, .inl z) : aC)) (List.map_congr_left fun i hi => ?_)
    exact hS _ _ (List.mem_map.mpr ⟨i, hi, rfl⟩)
  | .inr (ci, fs) =>
    refine congrArg (fun z => (.inr (ci, z) : aC)) (List.map_congr_left fun f hf => ?_)
    refine clF_same (fun e => hS _ _ ?_) (fun e => hJ _ _ ?_) (fun e => hT _ ?_)
    · exact List.mem_map.mpr ⟨f, List.mem_filter.mpr ⟨hf, beq_iff_eq.mpr e⟩, rfl⟩
    · exact List.mem_map.mpr ⟨f, List.mem_filter.mpr ⟨hf, beq_iff_eq.mpr e⟩, rfl⟩
    · exact List.mem_map.mpr ⟨f, List.mem_filter.mpr ⟨hf, decide_eq_true e⟩, rfl⟩
theorem hp_set {k : Nat} {s : Sh} {c : aC} (h : SH[k]? = some s) (hc : cl S' J' T' s = c) (ho : ∀ j s', j ≠ k → SH[j]? = some s' → cl S' J' T' s' = cl S J T s') : (hp S J T).set k c = hp S' J' T' := by
  unfold hp
  apply List.ext_getElem?
  intro j
  by_cases hj : k = j
  · subst hj
    rw [List.getElem?_set_self', List.getElem?_map, List.getElem?_map, h]
    exact congrArg some hc.symm
  · rw [List.getElem?_set_ne hj, List.getElem?_map, List.getElem?_map]
    cases e : SH[j]? with
    | none => rfl
    | some s' => exact congrArg some (ho j s' (Ne.symm hj) e).symm
theorem rng_set {α : Type} (f g : Nat → α) (n i : Nat) (x : α) (hi : g i = x) (hg : ∀ j, j ≠ i → j < n → g j = f j) : ((List.range n).map f).set i x = (List.range n).map g := by
  apply List.ext_getElem?
  intro j
  by_cases hj : i = j
  · subst hj
    rw [List.getElem?_set_self']
    simp only [List.getElem?_map]
    cases e : (List.range n)[i]? with
    | none => rfl
    | some y =>
      have : y = i := by
        rw [List.getElem?_range] at e
        · exact (Option.some.inj e).symm
        · exact (List.getElem?_eq_some_iff.mp e).1 |> fun z => by simpa using z
      subst this
      exact congrArg some hi.symm
  · rw [List.getElem?_set_ne hj]
    simp only [List.getElem?_map]
    cases e : (List.range n)[j]? with
    | none => rfl
    | some y =>
      have hl : j < n := by
        have := (List.getElem?_eq_some_iff.mp e).1
        simpa using this
      rw [List.getElem?_range hl] at e
      cases e
      exact congrArg some (hg j (Ne.symm hj) hl).symm
theorem rng_getD {α : Type} (f : Nat → α) (n i : Nat) (d : α) (hi : i < n) : ((List.range n).map f).getD i d = f i := by
  rw [List.getD_eq_getElem?_getD, List.getElem?_map, List.getElem?_range hi]
  rfl
theorem rng_len {α : Type} (f : Nat → α) (n : Nat) : ((List.range n).map f).length = n := by simp
theorem vpB_nI {i n : Nat} (hi : i < n) (hn : n < 5000) : vpB (nI i) n = true := vpB_in (in_lt hi hn)
-- rows: reading
theorem hp_aRI {k b o m n i j : Nat} (h : SH[k]? = some (.inl (0, b, o, m, n))) (hi : i < n) (hn : n < 5000) (e : o + m * i = j) : aRI ((hp S J T)[k]?) (nI i) = some (S b j) := by
  rw [hp_get h]
  show (if 0 = 0 ∧ vpB (nI i) ((List.range n).map fun i => S b (o + m * i)).length = true then some (((List.range n).map fun i => S b (o + m * i)).getD (nI i).toNatClampNeg 0) else none) = _
  rw [rng_len, if_pos ⟨rfl, vpB_nI hi hn⟩, cl_lt (by omega), rng_getD _ _ _ _ hi, e]
theorem hp_aRB {k t b o m n i j : Nat} (h : SH[k]? = some (.inl (t, b, o, m, n))) (ht : t = 1 ∨ t = 2) (hi : i < n) (hn : n < 5000) (e : o + m * i = j) : aRB ((hp S J T)[k]?) (nI i) = some (S b j) := by
  rw [hp_get h]
  rcases ht with rfl | rfl
  · show (if (1 = 1 ∨ 1 = 2) ∧ vpB (nI i) ((List.range n).map fun i => S b (o + m * i)).length = true then some (((List.range n).map fun i => S b (o + m * i)).getD (nI i).toNatClampNeg 0) else none) = _
    rw [rng_len, if_pos ⟨Or.inl rfl, vpB_nI hi hn⟩, cl_lt (by omega), rng_getD _ _ _ _ hi, e]
  · show (if (2 = 1 ∨ 2 = 2) ∧ vpB (nI i) ((List.range n).map fun i => S b (o + m * i)).length = true then some (((List.range n).map fun i => S b (o + m * i)).getD (nI i).toNatClampNeg 0) else none) = _
    rw [rng_len, if_pos ⟨Or.inr rfl, vpB_nI hi hn⟩, cl_lt (by omega), rng_getD _ _ _ _ hi, e]
theorem hp_aRJ {k b o m n i j : Nat} (h : SH[k]? = some (.inl (3, b, o, m, n))) (hi : i < n) (hn : n < 5000) (e : o + m * i = j) : aRJ ((hp S J T)[k]?) (nI i) = some (J b j) := by
  rw [hp_get h]
  show (if 3 = 3 ∧ vpB (nI i) ((List.range n).map fun i => J b (o + m * i)).length = true then some (((List.range n).map fun i => J b (o + m * i)).getD (nI i).toNatClampNeg 0) else none) = _
  rw [rng_len, if_pos ⟨rfl, vpB_nI hi hn⟩, cl_lt (by omega), rng_getD _ _ _ _ hi, e]
theorem hp_aRR {k b o m n i : Nat} (h : SH[k]? = some (.inl (4, b, o, m, n))) (hi : i < n) (hn : n < 5000) : aRR ((hp S J T)[k]?) (nI i) = some (b + m * i) := by
  rw [hp_get h]
  show (if 4 = 4 ∧ vpB (nI i) ((List.range n).map fun i => some (b + m * i)).length = true then ((List.range n).map fun i => some (b + m * i)).getD (nI i).toNatClampNeg none else none) = _
  rw [rng_len, if_pos ⟨rfl, vpB_nI hi hn⟩, cl_lt (by omega), rng_getD _ _ _ _ hi]
theorem hp_aLn {k t b o m n : Nat} (h : SH[k]? = some (.inl (t, b, o, m, n))) (ht : t < 5) : aLn ((hp S J T)[k]?) = some (nI n) := by
  rw [hp_get h]
  match t, ht with
  | 0, _ => show (if 0 < 3 then some (nI ((List.range n).map fun i => S b (o + m * i)).length) else none) = _; rw [rng_len]; rfl
  | 1, _ => show (if 1 < 3 then some (nI ((List.range n).map fun i => S b (o + m * i)).length) else none) = _; rw [rng_len]; rfl
  | 2, _ => show (if 2 < 3 then some (nI ((List.range n).map fun i => S b (o + m * i)).length) else none) = _; rw [rng_len]; rfl
  | 3, _ => show (if 3 = 3 then some (nI ((List.range n).map fun i => J b (o + m * i)).length) else none) = _; rw [rng_len]; rfl
  | 4, _ => show (if 4 = 4 then some (nI ((List.range n).map fun i => some (b + m * i)).length) else none) = _; rw [rng_len]; rfl
-- writing
theorem set_S {k : Nat} {s : Sh} {c : aC} {b i : Nat} {x : Int32} (h : SH[k]? = some s) (hs : (b, i) ∈ slo s) (hc : cl (stS S b i x) J T s = c) : (hp S J T).set k c = hp (stS S b i x) J T := by
  have h1 := own_S h hs
  refine hp_set h hc (fun j s' hj hs' => cl_same (fun b' i' hm => ?_) (fun _ _ _ => rfl) (fun _ _ => rfl))
  refine stS_ne (Classical.byContradiction fun z => hj ?_)
  have z1 : b' = b := Classical.byContradiction fun q => z (Or.inl q)
  have z2 : i' = i := Classical.byContradiction fun q => z (Or.inr q)
  rw [z1, z2] at hm
  rw [← own_S hs' hm, h1]
theorem set_J {k : Nat} {s : Sh} {c : aC} {b i : Nat} {x : Int64} (h : SH[k]? = some s) (hs : (b, i) ∈ sloJ s) (hc : cl S (stJ J b i x) T s = c) : (hp S J T).set k c = hp S (stJ J b i x) T := by
  have h1 := own_J h hs
  refine hp_set h hc (fun j s' hj hs' => cl_same (fun _ _ _ => rfl) (fun b' i' hm => ?_) (fun _ _ => rfl))
  refine stJ_ne (Or.inl fun z => hj ?_)
  rw [← own_J hs' hm, z, h1]
theorem add_inj {o m i j : Nat} (hm : 0 < m) (h : o + m * i = o + m * j) : i = j := Nat.eq_of_mul_eq_mul_left hm (by omega)
theorem hp_aWI {k b o m n i j : Nat} {x : Int32} (h : SH[k]? = some (.inl (0, b, o, m, n))) (hm : 0 < m) (hi : i < n) (hn : n < 5000) (e : o + m * i = j) : aWI (hp S J T) k (nI i) x = some (hp (stS S b j x) J T) := by
  unfold aWI
  rw [hp_get h]
  show (if 0 = 0 ∧ vpB (nI i) ((List.range n).map fun i => S b (o + m * i)).length = true then some ((hp S J T).set k (.inl (0, .inl (((List.range n).map fun i => S b (o + m * i)).set (nI i).toNatClampNeg x)))) else none) = _
  rw [rng_len, if_pos ⟨rfl, vpB_nI hi hn⟩, cl_lt (by omega)]
  refine congrArg some (set_S h (List.mem_map.mpr ⟨i, List.mem_range.mpr hi, by rw [e]⟩) ?_)
  show (.inl (0, .inl ((List.range n).map fun q => stS S b j x b (o + m * q))) : aC) = _
  rw [rng_set _ (fun q => stS S b j x b (o + m * q)) n i x (by rw [e]; exact stS_eq) (fun q hq _ => stS_ne (Or.inr fun z => hq (add_inj hm (z.trans e.symm))))]
theorem hp_aWB {k t b o m n i j : Nat} {x : Int32} (h : SH[k]? = some (.inl (t, b, o, m, n))) (ht : t = 1 ∨ t = 2) (hm : 0 < m) (hi : i < n) (hn : n < 5000) (e : o + m * i = j) : aWB (hp S J T) k (nI i) x = some (hp (stS S b j (if t = 1 then vp_nar .byte x else vp_nar .boolean x)) J T) := by
  unfold aWB
  rw [hp_get h]
  rcases ht with rfl | rfl
  · show (if (1 = 1 ∨ 1 = 2) ∧ vpB (nI i) ((List.range n).map fun i => S b (o + m * i)).length = true then some ((hp S J T).set k (.inl (1, .inl (((List.range n).map fun i => S b (o + m * i)).set (nI i).toNatClampNeg (if 1 = 1 then vp_nar .byte x else vp_nar .boolean x))))) else none) = _
    rw [rng_len, if_pos ⟨Or.inl rfl, vpB_nI hi hn⟩, cl_lt (by omega)]
    refine congrArg some (set_S h (List.mem_map.mpr ⟨i, List.mem_range.mpr hi, by rw [e]⟩) ?_)
    show (.inl (1, .inl ((List.range n).map fun q => stS S b j _ b (o + m * q))) : aC) = _
    rw [rng_set _ (fun q => stS S b j _ b (o + m * q)) n i _ (by rw [e]; exact stS_eq) (fun q hq _ => stS_ne (Or.inr fun z => hq (add_inj hm (z.trans e.symm))))]
  · show (if (2 = 1 ∨ 2 = 2) ∧ vpB (nI i) ((List.range n).map fun i => S b (o + m * i)).length = true then some ((hp S J T).set k (.inl (2, .inl (((List.range n).map fun i => S b (o + m * i)).set (nI i).toNatClampNeg (if 2 = 1 then vp_nar .byte x else vp_nar .boolean x))))) else none) = _
    rw [rng_len, if_pos ⟨Or.inr rfl, vpB_nI hi hn⟩, cl_lt (by omega)]
    refine congrArg some (set_S h (List.mem_map.mpr ⟨i, List.mem_range.mpr hi, by rw [e]⟩) ?_)
    show (.inl (2, .inl ((List.range n).map fun q => stS S b j _ b (o + m * q))) : aC) = _
    rw [rng_set _ (fun q => stS S b j _ b (o + m * q)) n i _ (by rw [e]; exact stS_eq) (fun q hq _ => stS_ne (Or.inr fun z => hq (add_inj hm (z.trans e.symm))))]
theorem hp_aWJ {k b o m n i j : Nat} {x : Int64} (h : SH[k]? = some (.inl (3, b, o, m, n))) (hm : 0 < m) (hi : i < n) (hn : n < 5000) (e : o + m * i = j) : aWJ (hp S J T) k (nI i) x = some (hp S (stJ J b j x) T) := by
  unfold aWJ
  rw [hp_get h]
  show (if 3 = 3 ∧ vpB (nI i) ((List.range n).map fun i => J b (o + m * i)).length = true then some ((hp S J T).set k (.inl (3, .inr (.inl (((List.range n).map fun i => J b (o + m * i)).set (nI i).toNatClampNeg x))))) else none) = _
  rw [rng_len, if_pos ⟨rfl, vpB_nI hi hn⟩, cl_lt (by omega)]
  refine congrArg some (set_J h (List.mem_map.mpr ⟨i, List.mem_range.mpr hi, by rw [e]⟩) ?_)
  show (.inl (3, .inr (.inl ((List.range n).map fun q => stJ J b j x b (o + m * q)))) : aC) = _
  rw [rng_set _ (fun q => stJ J b j x b (o + m * q)) n i x (by rw [e]; exact stJ_eq) (fun q hq _ => stJ_ne (Or.inr fun z => hq (add_inj hm (z.trans e.symm))))]
-- whole rows
theorem hp_aCp {k k' b o c p n : Nat} (h : SH[k]? = some (.inl (0, b, o, 1, n))) (h' : SH[k']? = some (.inl (0, c, p, 1, n))) (hn : n < 1000) : aCp (hp S J T) k (nI 0) k' (nI 0) (nI n) = some (hp (cpS S b o c p n) J T) := by
  unfold aCp
  rw [hp_get h, hp_get h']
  show (if 0 = 0 ∧ 0 = 0 ∧ (nI 0) = 0 ∧ (nI 0) = 0 ∧ nI n = nI ((List.range n).map fun i => S b (o + 1 * i)).length ∧ ((List.range n).map fun i => S c (p + 1 * i)).length = ((List.range n).map fun i => S b (o + 1 * i)).length ∧ ((List.range n).map fun i => S b (o + 1 * i)).length < 1000 then some ((hp S J T).set k' (.inl (0, .inl ((List.range n).map fun i => S b (o + 1 * i))))) else none) = _
  rw [rng_len, rng_len, if_pos ⟨rfl, rfl, nI_0, nI_0, rfl, rfl, hn⟩]
  refine congrArg some (hp_set h' ?_ (fun j s' hj hs' => cl_same (fun b' i' hm => ?_) (fun _ _ _ => rfl) (fun _ _ => rfl)))
  · refine congrArg (fun z => (.inl (0, .inl z) : aC)) (List.map_congr_left fun i hi => ?_)
    have := List.mem_range.mp hi
    show (if c = c ∧ p ≤ p + 1 * i ∧ p + 1 * i < p + n then S b (o + (p + 1 * i - p)) else _) = _
    rw [if_pos ⟨rfl, by omega, by omega⟩, show o + (p + 1 * i - p) = o + 1 * i by omega]
  · refine if_neg (fun z => hj ?_)
    obtain ⟨z1, z2, z3⟩ := z
    have hq : (b', i') ∈ slo (.inl (0, c, p, 1, n)) := List.mem_map.mpr ⟨i' - p, List.mem_range.mpr (by omega), by rw [z1, show p + 1 * (i' - p) = i' by omega]⟩
    rw [← own_S hs' hm, own_S h' hq]
-- fields
theorem hp_isO {k ci : Nat} {fs : List (Nat × Nat × Nat)} (h : SH[k]? = some (.inr (ci, fs))) : isO (hp S J T) ci k = some () := by
  unfold isO
  rw [hp_get h]
  exact if_pos rfl
theorem hp_gV {k ci fk : Nat} {fs : List (Nat × Nat × Nat)} {f : Nat × Nat × Nat} (h : SH[k]? = some (.inr (ci, fs))) (hf : fs[fk]? = some f) : gV (hp S J T) ci k fk = some (clF S J T f) := by
  unfold gV
  rw [hp_get h]
  show (if ci = ci then (fs.map (clF S J T))[fk]? else none) = _
  rw [if_pos rfl, List.getElem?_map, hf]
  rfl
theorem hp_gFI {k ci fk b i : Nat} {fs : List (Nat × Nat × Nat)} (h : SH[k]? = some (.inr (ci, fs))) (hf : fs[fk]? = some (0, b, i)) : gFI (hp S J T) ci k fk = some (S b i) := by
  unfold gFI
  rw [hp_gV h hf]
  rfl
theorem hp_gFJ {k ci fk b i : Nat} {fs : List (Nat × Nat × Nat)} (h : SH[k]? = some (.inr (ci, fs))) (hf : fs[fk]? = some (2, b, i)) : gFJ (hp S J T) ci k fk = some (J b i) := by
  unfold gFJ
  rw [hp_gV h hf]
  rfl
theorem hp_gFR {k ci fk b i : Nat} {fs : List (Nat × Nat × Nat)} (h : SH[k]? = some (.inr (ci, fs))) (hf : fs[fk]? = some (1, b, i)) : gFR (hp S J T) ci k fk = some b := by
  unfold gFR
  rw [hp_gV h hf]
  rfl
theorem hp_gFT {k ci fk b i : Nat} {fs : List (Nat × Nat × Nat)} (h : SH[k]? = some (.inr (ci, fs))) (hf : fs[fk]? = some (3, b, i)) : gFR (hp S J T) ci k fk = some (T i) := by
  unfold gFR
  rw [hp_gV h hf]
  rfl
def nof (fs : List (Nat × Nat × Nat)) (fk : Nat) (f : Nat × Nat × Nat) : Bool := (List.range fs.length).all fun j => j == fk || (match fs[j]? with
  | some g => !(g.1 == f.1 && g.2.2 == f.2.2)
  | none => true)
theorem fs_set {fs : List (Nat × Nat × Nat)} {fk : Nat} {v : Value} {f : Nat × Nat × Nat} (hf : fs[fk]? = some f) (hv : clF S' J' T' f = v) (ho : ∀ j g, j ≠ fk → fs[j]? = some g → clF S' J' T' g = clF S J T g) : (fs.map (clF S J T)).set fk v = fs.map (clF S' J' T') := by
  apply List.ext_getElem?
  intro j
  by_cases hj : fk = j
  · subst hj
    rw [List.getElem?_set_self', List.getElem?_map, List.getElem?_map, hf]
    exact congrArg some hv.symm
  · rw [List.getElem?_set_ne hj, List.getElem?_map, List.getElem?_map]
    cases e : fs[j]? with
    | none => rfl
    | some g => exact congrArg some (ho j g (Ne.symm hj) e).symm
theorem hp_pW {k ci fk : Nat} {fs : List (Nat × Nat × Nat)} {f : Nat × Nat × Nat} {v : Value} (h : SH[k]? = some (.inr (ci, fs))) (hf : fs[fk]? = some f) (hv : pfB (tyC ci fk) v = true) : pWV (hp S J T) ci k fk v = some ((hp S J T).set k (.inr (ci, (fs.map (clF S J T)).set fk v))) := by
  unfold pWV
  rw [hp_get h]
  show (if ci = ci ∧ fk < (fs.map (clF S J T)).length ∧ pfB (tyC ci fk) v = true then _ else none) = _
  rw [if_pos ⟨rfl, by rw [List.length_map]; exact (List.getElem?_eq_some_iff.mp hf).1, hv⟩]
theorem nof_at {fs : List (Nat × Nat × Nat)} {fk j : Nat} {f g : Nat × Nat × Nat} (hn : nof fs fk f = true) (hj : j ≠ fk) (hg : fs[j]? = some g) : ¬ (g.1 = f.1 ∧ g.2.2 = f.2.2) := by
  have h1 := List.all_eq_true.mp hn j (List.mem_range.mpr (List.getElem?_eq_some_iff.mp hg).1)
  rw [hg] at h1
  intro z
  simp [hj, z.1, z.2] at h1
theorem hp_pWI {k ci fk b i : Nat} {fs : List (Nat × Nat × Nat)} {x : Int32} (h : SH[k]? = some (.inr (ci, fs))) (hf : fs[fk]? = some (0, b, i)) (hn : nof fs fk (0, b, i) = true) (hv : pfB (tyC ci fk) (.int x) = true) : pWV (hp S J T) ci k fk (.int x) = some (hp (stS S b i x) J T) := by
  rw [hp_pW h hf hv]
  refine congrArg some (set_S h (List.mem_map.mpr ⟨_, List.mem_filter.mpr ⟨List.mem_of_getElem? hf, rfl⟩, rfl⟩) ?_)
  refine congrArg (fun z => (.inr (ci, z) : aC)) (fs_set hf ?_ (fun j g hj hg => clF_same (fun e => ?_) (fun _ => rfl) (fun _ => rfl))).symm
  · exact congrArg Value.int stS_eq
  · exact stS_ne (Or.inr fun z => nof_at hn hj hg ⟨e, z⟩)
theorem hp_pWJ {k ci fk b i : Nat} {fs : List (Nat × Nat × Nat)} {x : Int64} (h : SH[k]? = some (.inr (ci, fs))) (hf : fs[fk]? = some (2, b, i)) (hn : nof fs fk (2, b, i) = true) (hv : pfB (tyC ci fk) (.long x) = true) : pWV (hp S J T) ci k fk (.long x) = some (hp S (stJ J b i x) T) := by
  rw [hp_pW h hf hv]
  refine congrArg some (set_J h (List.mem_map.mpr ⟨_, List.mem_filter.mpr ⟨List.mem_of_getElem? hf, rfl⟩, rfl⟩) ?_)
  refine congrArg (fun z => (.inr (ci, z) : aC)) (fs_set hf ?_ (fun j g hj hg => clF_same (fun _ => rfl) (fun e => ?_) (fun _ => rfl))).symm
  · exact congrArg Value.long stJ_eq
  · exact stJ_ne (Or.inr fun z => nof_at hn hj hg ⟨e, z⟩)
theorem hp_pWT {ci fk b i : Nat} {fs : List (Nat × Nat × Nat)} {x : Nat} (h : SH[0]? = some (.inr (ci, fs))) (hf : fs[fk]? = some (3, b, i)) (hn : nof fs fk (3, b, i) = true) (h3 : fs.all (fun f => decide (f.1 < 4)) = true) (hv : pfB (tyC ci fk) (.ref x) = true) : pWV (hp S J T) ci 0 fk (.ref x) = some (hp S J (stT T i x)) := by
  rw [hp_pW h hf hv]
  refine congrArg some (hp_set h ?_ (fun j s' hj hs' => cl_same (fun _ _ _ => rfl) (fun _ _ _ => rfl) (fun i' hm => absurd (own_T hs' hm) hj)))
  refine congrArg (fun z => (.inr (ci, z) : aC)) (fs_set hf ?_ (fun j g hj hg => clF_same (fun _ => rfl) (fun _ => rfl) (fun e => ?_))).symm
  · exact congrArg Value.ref stT_eq
  · have := of_decide_eq_true (List.all_eq_true.mp h3 g (List.mem_of_getElem? hg))
    exact stT_ne (fun z => nof_at hn hj hg ⟨by omega, z⟩)
end HEAP
def plA (a : Nat) : Prop := SH[a]? = some (.inr (7, [(1, a + 1, 0), (1, a + 2, 0), (1, a + 3, 0), (0, a, 10), (0, a, 11), (0, a, 12), (0, a, 13)])) ∧ SH[a + 1]? = some (.inl (0, a, 0, 1, 5)) ∧ SH[a + 2]? = some (.inl (0, a, 5, 1, 5)) ∧ SH[a + 3]? = some (.inl (0, a, 14, 1, 8))
def mlA (m : Nat) : Prop := SH[m]? = some (.inr (6, [(0, m, 0), (0, m, 1), (1, m + 1, 0), (1, m + 2, 0)])) ∧ SH[m + 1]? = some (.inl (0, m, 2, 1, 5)) ∧ SH[m + 2]? = some (.inl (0, m, 7, 1, 5))
def tlA (t : Nat) : Prop := SH[t]? = some (.inr (9, [(0, t, 0), (0, t, 1), (0, t, 2), (0, t, 3), (0, t, 4), (0, t, 5), (0, t, 6), (0, t, 7), (1, t + 1, 0), (1, t + 2, 0), (1, t + 3, 0), (1, t + 4, 0), (1, t + 5, 0), (1, t + 6, 0), (1, t + 7, 0), (1, t + 8, 0), (1, t + 9, 0), (1, t + 10, 0), (1, t + 11, 0)])) ∧ SH[t + 1]? = some (.inl (0, t, 100, 1, 5)) ∧ SH[t + 2]? = some (.inl (0, t, 10, 2, 5)) ∧ SH[t + 3]? = some (.inl (0, t, 9, 2, 5)) ∧ SH[t + 4]? = some (.inl (0, t, 19, 2, 8)) ∧ SH[t + 5]? = some (.inl (0, t, 114, 1, 8)) ∧ SH[t + 6]? = some (.inl (0, t, 35, 2, 8)) ∧ SH[t + 7]? = some (.inl (0, t, 36, 2, 8)) ∧ SH[t + 8]? = some (.inl (0, t, 51, 2, 4)) ∧ SH[t + 9]? = some (.inl (0, t, 52, 2, 4)) ∧ SH[t + 10]? = some (.inl (0, t, 59, 2, 6)) ∧ SH[t + 11]? = some (.inl (0, t, 60, 2, 6))
theorem plA_8 : plA 8 := ⟨rfl, rfl, rfl, rfl⟩
theorem plA_22 : plA 22 := ⟨rfl, rfl, rfl, rfl⟩
theorem plA_26 : plA 26 := ⟨rfl, rfl, rfl, rfl⟩
theorem plA_30 : plA 30 := ⟨rfl, rfl, rfl, rfl⟩
theorem plA_34 : plA 34 := ⟨rfl, rfl, rfl, rfl⟩
theorem plA_40 : plA 40 := ⟨rfl, rfl, rfl, rfl⟩
theorem plA_49 : plA 49 := ⟨rfl, rfl, rfl, rfl⟩
theorem plA_58 : plA 58 := ⟨rfl, rfl, rfl, rfl⟩
theorem plA_62 : plA 62 := ⟨rfl, rfl, rfl, rfl⟩
theorem plA_66 : plA 66 := ⟨rfl, rfl, rfl, rfl⟩
theorem plA_70 : plA 70 := ⟨rfl, rfl, rfl, rfl⟩
theorem plA_74 : plA 74 := ⟨rfl, rfl, rfl, rfl⟩
theorem plA_78 : plA 78 := ⟨rfl, rfl, rfl, rfl⟩
theorem plA_82 : plA 82 := ⟨rfl, rfl, rfl, rfl⟩
theorem plA_86 : plA 86 := ⟨rfl, rfl, rfl, rfl⟩
theorem plA_90 : plA 90 := ⟨rfl, rfl, rfl, rfl⟩
theorem plA_94 : plA 94 := ⟨rfl, rfl, rfl, rfl⟩
theorem plA_98 : plA 98 := ⟨rfl, rfl, rfl, rfl⟩
theorem plA_102 : plA 102 := ⟨rfl, rfl, rfl, rfl⟩
theorem plA_106 : plA 106 := ⟨rfl, rfl, rfl, rfl⟩
theorem plA_110 : plA 110 := ⟨rfl, rfl, rfl, rfl⟩
theorem plA_114 : plA 114 := ⟨rfl, rfl, rfl, rfl⟩
theorem plA_118 : plA 118 := ⟨rfl, rfl, rfl, rfl⟩
theorem plA_124 : plA 124 := ⟨rfl, rfl, rfl, rfl⟩
theorem plA_128 : plA 128 := ⟨rfl, rfl, rfl, rfl⟩
theorem plA_132 : plA 132 := ⟨rfl, rfl, rfl, rfl⟩
theorem plA_139 : plA 139 := ⟨rfl, rfl, rfl, rfl⟩
theorem mlA_12 : mlA 12 := ⟨rfl, rfl, rfl⟩
theorem mlA_19 : mlA 19 := ⟨rfl, rfl, rfl⟩
theorem mlA_44 : mlA 44 := ⟨rfl, rfl, rfl⟩
theorem mlA_53 : mlA 53 := ⟨rfl, rfl, rfl⟩
theorem mlA_136 : mlA 136 := ⟨rfl, rfl, rfl⟩
theorem tlA_143 : tlA 143 := ⟨rfl, rfl, rfl, rfl, rfl, rfl, rfl, rfl, rfl, rfl, rfl, rfl⟩
theorem tlA_155 : tlA 155 := ⟨rfl, rfl, rfl, rfl, rfl, rfl, rfl, rfl, rfl, rfl, rfl, rfl⟩
section ROWS
variable {S : Mem} {J : MeJ} {T : Nat → Nat} {a m t i : Nat} {x : Int32} {y : Int64}
theorem pl_isO (h : plA a) : isO (hp S J T) 7 a = some () := hp_isO h.1
theorem pl_f0 (h : plA a) : gFR (hp S J T) 7 a 0 = some (a + 1) := hp_gFR h.1 rfl
theorem pl_r0 (h : plA a) (hi : i < 5) : aRI ((hp S J T)[a + 1]?) (nI i) = some (S a (i)) := hp_aRI h.2.1 hi (by omega) (by omega)
theorem pl_w0 (h : plA a) (hi : i < 5) : aWI (hp S J T) (a + 1) (nI i) x = some (hp (stS S a (i) x) J T) := hp_aWI h.2.1 (by omega) hi (by omega) (by omega)
theorem pl_l0 (h : plA a) : aLn ((hp S J T)[a + 1]?) = some (nI 5) := hp_aLn h.2.1 (by omega)
theorem pl_f1 (h : plA a) : gFR (hp S J T) 7 a 1 = some (a + 2) := hp_gFR h.1 rfl
theorem pl_r1 (h : plA a) (hi : i < 5) : aRI ((hp S J T)[a + 2]?) (nI i) = some (S a (5 + i)) := hp_aRI h.2.2.1 hi (by omega) (by omega)
theorem pl_w1 (h : plA a) (hi : i < 5) : aWI (hp S J T) (a + 2) (nI i) x = some (hp (stS S a (5 + i) x) J T) := hp_aWI h.2.2.1 (by omega) hi (by omega) (by omega)
theorem pl_l1 (h : plA a) : aLn ((hp S J T)[a + 2]?) = some (nI 5) := hp_aLn h.2.2.1 (by omega)
theorem pl_f2 (h : plA a) : gFR (hp S J T) 7 a 2 = some (a + 3) := hp_gFR h.1 rfl
theorem pl_r2 (h : plA a) (hi : i < 8) : aRI ((hp S J T)[a + 3]?) (nI i) = some (S a (14 + i)) := hp_aRI h.2.2.2 hi (by omega) (by omega)
theorem pl_w2 (h : plA a) (hi : i < 8) : aWI (hp S J T) (a + 3) (nI i) x = some (hp (stS S a (14 + i) x) J T) := hp_aWI h.2.2.2 (by omega) hi (by omega) (by omega)
theorem pl_l2 (h : plA a) : aLn ((hp S J T)[a + 3]?) = some (nI 8) := hp_aLn h.2.2.2 (by omega)
theorem pl_g3 (h : plA a) : gFI (hp S J T) 7 a 3 = some (S a 10) := hp_gFI h.1 rfl
theorem pl_p3 (h : plA a) : pWV (hp S J T) 7 a 3 (.int x) = some (hp (stS S a 10 x) J T) := hp_pWI h.1 rfl rfl rfl
theorem pl_g4 (h : plA a) : gFI (hp S J T) 7 a 4 = some (S a 11) := hp_gFI h.1 rfl
theorem pl_p4 (h : plA a) : pWV (hp S J T) 7 a 4 (.int x) = some (hp (stS S a 11 x) J T) := hp_pWI h.1 rfl rfl rfl
theorem pl_g5 (h : plA a) : gFI (hp S J T) 7 a 5 = some (S a 12) := hp_gFI h.1 rfl
theorem pl_p5 (h : plA a) : pWV (hp S J T) 7 a 5 (.int x) = some (hp (stS S a 12 x) J T) := hp_pWI h.1 rfl rfl rfl
theorem pl_g6 (h : plA a) : gFI (hp S J T) 7 a 6 = some (S a 13) := hp_gFI h.1 rfl
theorem pl_p6 (h : plA a) : pWV (hp S J T) 7 a 6 (.int x) = some (hp (stS S a 13 x) J T) := hp_pWI h.1 rfl rfl rfl
theorem ml_isO (h : mlA m) : isO (hp S J T) 6 m = some () := hp_isO h.1
theorem ml_g0 (h : mlA m) : gFI (hp S J T) 6 m 0 = some (S m 0) := hp_gFI h.1 rfl
theorem ml_p0 (h : mlA m) : pWV (hp S J T) 6 m 0 (.int x) = some (hp (stS S m 0 x) J T) := hp_pWI h.1 rfl rfl rfl
theorem ml_g1 (h : mlA m) : gFI (hp S J T) 6 m 1 = some (S m 1) := hp_gFI h.1 rfl
theorem ml_p1 (h : mlA m) : pWV (hp S J T) 6 m 1 (.int x) = some (hp (stS S m 1 x) J T) := hp_pWI h.1 rfl rfl rfl
theorem ml_f2 (h : mlA m) : gFR (hp S J T) 6 m 2 = some (m + 1) := hp_gFR h.1 rfl
theorem ml_r2 (h : mlA m) (hi : i < 5) : aRI ((hp S J T)[m + 1]?) (nI i) = some (S m (2 + i)) := hp_aRI h.2.1 hi (by omega) (by omega)
theorem ml_w2 (h : mlA m) (hi : i < 5) : aWI (hp S J T) (m + 1) (nI i) x = some (hp (stS S m (2 + i) x) J T) := hp_aWI h.2.1 (by omega) hi (by omega) (by omega)
theorem ml_l2 (h : mlA m) : aLn ((hp S J T)[m + 1]?) = some (nI 5) := hp_aLn h.2.1 (by omega)
theorem ml_f3 (h : mlA m) : gFR (hp S J T) 6 m 3 = some (m + 2) := hp_gFR h.1 rfl
theorem ml_r3 (h : mlA m) (hi : i < 5) : aRI ((hp S J T)[m + 2]?) (nI i) = some (S m (7 + i)) := hp_aRI h.2.2 hi (by omega) (by omega)
theorem ml_w3 (h : mlA m) (hi : i < 5) : aWI (hp S J T) (m + 2) (nI i) x = some (hp (stS S m (7 + i) x) J T) := hp_aWI h.2.2 (by omega) hi (by omega) (by omega)
theorem ml_l3 (h : mlA m) : aLn ((hp S J T)[m + 2]?) = some (nI 5) := hp_aLn h.2.2 (by omega)
theorem tl_isO (h : tlA t) : isO (hp S J T) 9 t = some () := hp_isO h.1
theorem tl_g0 (h : tlA t) : gFI (hp S J T) 9 t 0 = some (S t 0) := hp_gFI h.1 rfl
theorem tl_p0 (h : tlA t) : pWV (hp S J T) 9 t 0 (.int x) = some (hp (stS S t 0 x) J T) := hp_pWI h.1 rfl rfl rfl
theorem tl_g1 (h : tlA t) : gFI (hp S J T) 9 t 1 = some (S t 1) := hp_gFI h.1 rfl
theorem tl_p1 (h : tlA t) : pWV (hp S J T) 9 t 1 (.int x) = some (hp (stS S t 1 x) J T) := hp_pWI h.1 rfl rfl rfl
theorem tl_g2 (h : tlA t) : gFI (hp S J T) 9 t 2 = some (S t 2) := hp_gFI h.1 rfl
theorem tl_p2 (h : tlA t) : pWV (hp S J T) 9 t 2 (.int x) = some (hp (stS S t 2 x) J T) := hp_pWI h.1 rfl rfl rfl
theorem tl_g3 (h : tlA t) : gFI (hp S J T) 9 t 3 = some (S t 3) := hp_gFI h.1 rfl
theorem tl_p3 (h : tlA t) : pWV (hp S J T) 9 t 3 (.int x) = some (hp (stS S t 3 x) J T) := hp_pWI h.1 rfl rfl rfl
theorem tl_g4 (h : tlA t) : gFI (hp S J T) 9 t 4 = some (S t 4) := hp_gFI h.1 rfl
theorem tl_p4 (h : tlA t) : pWV (hp S J T) 9 t 4 (.int x) = some (hp (stS S t 4 x) J T) := hp_pWI h.1 rfl rfl rfl
theorem tl_g5 (h : tlA t) : gFI (hp S J T) 9 t 5 = some (S t 5) := hp_gFI h.1 rfl
theorem tl_p5 (h : tlA t) : pWV (hp S J T) 9 t 5 (.int x) = some (hp (stS S t 5 x) J T) := hp_pWI h.1 rfl rfl rfl
theorem tl_g6 (h : tlA t) : gFI (hp S J T) 9 t 6 = some (S t 6) := hp_gFI h.1 rfl
theorem tl_p6 (h : tlA t) : pWV (hp S J T) 9 t 6 (.int x) = some (hp (stS S t 6 x) J T) := hp_pWI h.1 rfl rfl rfl
theorem tl_g7 (h : tlA t) : gFI (hp S J T) 9 t 7 = some (S t 7) := hp_gFI h.1 rfl
theorem tl_p7 (h : tlA t) : pWV (hp S J T) 9 t 7 (.int x) = some (hp (stS S t 7 x) J T) := hp_pWI h.1 rfl rfl rfl
theorem tl_f8 (h : tlA t) : gFR (hp S J T) 9 t 8 = some (t + 1) := hp_gFR h.1 rfl
theorem tl_r8 (h : tlA t) (hi : i < 5) : aRI ((hp S J T)[t + 1]?) (nI i) = some (S t (100 + i)) := hp_aRI h.2.1 hi (by omega) (by omega)
theorem tl_w8 (h : tlA t) (hi : i < 5) : aWI (hp S J T) (t + 1) (nI i) x = some (hp (stS S t (100 + i) x) J T) := hp_aWI h.2.1 (by omega) hi (by omega) (by omega)
theorem tl_l8 (h : tlA t) : aLn ((hp S J T)[t + 1]?) = some (nI 5) := hp_aLn h.2.1 (by omega)
theorem tl_f9 (h : tlA t) : gFR (hp S J T) 9 t 9 = some (t + 2) := hp_gFR h.1 rfl
theorem tl_r9 (h : tlA t) (hi : i < 5) : aRI ((hp S J T)[t + 2]?) (nI i) = some (S t (10 + 2 * i)) := hp_aRI h.2.2.1 hi (by omega) (by omega)
theorem tl_w9 (h : tlA t) (hi : i < 5) : aWI (hp S J T) (t + 2) (nI i) x = some (hp (stS S t (10 + 2 * i) x) J T) := hp_aWI h.2.2.1 (by omega) hi (by omega) (by omega)
theorem tl_l9 (h : tlA t) : aLn ((hp S J T)[t + 2]?) = some (nI 5) := hp_aLn h.2.2.1 (by omega)
theorem tl_f10 (h : tlA t) : gFR (hp S J T) 9 t 10 = some (t + 3) := hp_gFR h.1 rfl
theorem tl_r10 (h : tlA t) (hi : i < 5) : aRI ((hp S J T)[t + 3]?) (nI i) = some (S t (9 + 2 * i)) := hp_aRI h.2.2.2.1 hi (by omega) (by omega)
theorem tl_w10 (h : tlA t) (hi : i < 5) : aWI (hp S J T) (t + 3) (nI i) x = some (hp (stS S t (9 + 2 * i) x) J T) := hp_aWI h.2.2.2.1 (by omega) hi (by omega) (by omega)
theorem tl_l10 (h : tlA t) : aLn ((hp S J T)[t + 3]?) = some (nI 5) := hp_aLn h.2.2.2.1 (by omega)
theorem tl_f11 (h : tlA t) : gFR (hp S J T) 9 t 11 = some (t + 4) := hp_gFR h.1 rfl
theorem tl_r11 (h : tlA t) (hi : i < 8) : aRI ((hp S J T)[t + 4]?) (nI i) = some (S t (19 + 2 * i)) := hp_aRI h.2.2.2.2.1 hi (by omega) (by omega)
theorem tl_w11 (h : tlA t) (hi : i < 8) : aWI (hp S J T) (t + 4) (nI i) x = some (hp (stS S t (19 + 2 * i) x) J T) := hp_aWI h.2.2.2.2.1 (by omega) hi (by omega) (by omega)
theorem tl_l11 (h : tlA t) : aLn ((hp S J T)[t + 4]?) = some (nI 8) := hp_aLn h.2.2.2.2.1 (by omega)
theorem tl_f12 (h : tlA t) : gFR (hp S J T) 9 t 12 = some (t + 5) := hp_gFR h.1 rfl
theorem tl_r12 (h : tlA t) (hi : i < 8) : aRI ((hp S J T)[t + 5]?) (nI i) = some (S t (114 + i)) := hp_aRI h.2.2.2.2.2.1 hi (by omega) (by omega)
theorem tl_w12 (h : tlA t) (hi : i < 8) : aWI (hp S J T) (t + 5) (nI i) x = some (hp (stS S t (114 + i) x) J T) := hp_aWI h.2.2.2.2.2.1 (by omega) hi (by omega) (by omega)
theorem tl_l12 (h : tlA t) : aLn ((hp S J T)[t + 5]?) = some (nI 8) := hp_aLn h.2.2.2.2.2.1 (by omega)
theorem tl_f13 (h : tlA t) : gFR (hp S J T) 9 t 13 = some (t + 6) := hp_gFR h.1 rfl
theorem tl_r13 (h : tlA t) (hi : i < 8) : aRI ((hp S J T)[t + 6]?) (nI i) = some (S t (35 + 2 * i)) := hp_aRI h.2.2.2.2.2.2.1 hi (by omega) (by omega)
theorem tl_w13 (h : tlA t) (hi : i < 8) : aWI (hp S J T) (t + 6) (nI i) x = some (hp (stS S t (35 + 2 * i) x) J T) := hp_aWI h.2.2.2.2.2.2.1 (by omega) hi (by omega) (by omega)
theorem tl_l13 (h : tlA t) : aLn ((hp S J T)[t + 6]?) = some (nI 8) := hp_aLn h.2.2.2.2.2.2.1 (by omega)
theorem tl_f14 (h : tlA t) : gFR (hp S J T) 9 t 14 = some (t + 7) := hp_gFR h.1 rfl
theorem tl_r14 (h : tlA t) (hi : i < 8) : aRI ((hp S J T)[t + 7]?) (nI i) = some (S t (36 + 2 * i)) := hp_aRI h.2.2.2.2.2.2.2.1 hi (by omega) (by omega)
theorem tl_w14 (h : tlA t) (hi : i < 8) : aWI (hp S J T) (t + 7) (nI i) x = some (hp (stS S t (36 + 2 * i) x) J T) := hp_aWI h.2.2.2.2.2.2.2.1 (by omega) hi (by omega) (by omega)
theorem tl_l14 (h : tlA t) : aLn ((hp S J T)[t + 7]?) = some (nI 8) := hp_aLn h.2.2.2.2.2.2.2.1 (by omega)
theorem tl_f15 (h : tlA t) : gFR (hp S J T) 9 t 15 = some (t + 8) := hp_gFR h.1 rfl
theorem tl_r15 (h : tlA t) (hi : i < 4) : aRI ((hp S J T)[t + 8]?) (nI i) = some (S t (51 + 2 * i)) := hp_aRI h.2.2.2.2.2.2.2.2.1 hi (by omega) (by omega)
theorem tl_w15 (h : tlA t) (hi : i < 4) : aWI (hp S J T) (t + 8) (nI i) x = some (hp (stS S t (51 + 2 * i) x) J T) := hp_aWI h.2.2.2.2.2.2.2.2.1 (by omega) hi (by omega) (by omega)
theorem tl_l15 (h : tlA t) : aLn ((hp S J T)[t + 8]?) = some (nI 4) := hp_aLn h.2.2.2.2.2.2.2.2.1 (by omega)
theorem tl_f16 (h : tlA t) : gFR (hp S J T) 9 t 16 = some (t + 9) := hp_gFR h.1 rfl
theorem tl_r16 (h : tlA t) (hi : i < 4) : aRI ((hp S J T)[t + 9]?) (nI i) = some (S t (52 + 2 * i)) := hp_aRI h.2.2.2.2.2.2.2.2.2.1 hi (by omega) (by omega)
theorem tl_w16 (h : tlA t) (hi : i < 4) : aWI (hp S J T) (t + 9) (nI i) x = some (hp (stS S t (52 + 2 * i) x) J T) := hp_aWI h.2.2.2.2.2.2.2.2.2.1 (by omega) hi (by omega) (by omega)
theorem tl_l16 (h : tlA t) : aLn ((hp S J T)[t + 9]?) = some (nI 4) := hp_aLn h.2.2.2.2.2.2.2.2.2.1 (by omega)
theorem tl_f17 (h : tlA t) : gFR (hp S J T) 9 t 17 = some (t + 10) := hp_gFR h.1 rfl
theorem tl_r17 (h : tlA t) (hi : i < 6) : aRI ((hp S J T)[t + 10]?) (nI i) = some (S t (59 + 2 * i)) := hp_aRI h.2.2.2.2.2.2.2.2.2.2.1 hi (by omega) (by omega)
theorem tl_w17 (h : tlA t) (hi : i < 6) : aWI (hp S J T) (t + 10) (nI i) x = some (hp (stS S t (59 + 2 * i) x) J T) := hp_aWI h.2.2.2.2.2.2.2.2.2.2.1 (by omega) hi (by omega) (by omega)
theorem tl_l17 (h : tlA t) : aLn ((hp S J T)[t + 10]?) = some (nI 6) := hp_aLn h.2.2.2.2.2.2.2.2.2.2.1 (by omega)
theorem tl_f18 (h : tlA t) : gFR (hp S J T) 9 t 18 = some (t + 11) := hp_gFR h.1 rfl
theorem tl_r18 (h : tlA t) (hi : i < 6) : aRI ((hp S J T)[t + 11]?) (nI i) = some (S t (60 + 2 * i)) := hp_aRI h.2.2.2.2.2.2.2.2.2.2.2 hi (by omega) (by omega)
theorem tl_w18 (h : tlA t) (hi : i < 6) : aWI (hp S J T) (t + 11) (nI i) x = some (hp (stS S t (60 + 2 * i) x) J T) := hp_aWI h.2.2.2.2.2.2.2.2.2.2.2 (by omega) hi (by omega) (by omega)
theorem tl_l18 (h : tlA t) : aLn ((hp S J T)[t + 11]?) = some (nI 6) := hp_aLn h.2.2.2.2.2.2.2.2.2.2.2 (by omega)
theorem lt_isO : isO (hp S J T) 10 0 = some () := hp_isO (fs := [(1, 1, 0), (1, 7, 0), (1, 17, 0), (1, 38, 0), (1, 47, 0), (1, 56, 0), (1, 122, 0), (1, 136, 0), (1, 139, 0), (3, 0, 0), (3, 0, 1), (0, 0, 11), (0, 0, 12)]) rfl
theorem lt_f0 : gFR (hp S J T) 10 0 0 = some 1 := hp_gFR (fs := [(1, 1, 0), (1, 7, 0), (1, 17, 0), (1, 38, 0), (1, 47, 0), (1, 56, 0), (1, 122, 0), (1, 136, 0), (1, 139, 0), (3, 0, 0), (3, 0, 1), (0, 0, 11), (0, 0, 12)]) rfl rfl
theorem lt_f1 : gFR (hp S J T) 10 0 1 = some 7 := hp_gFR (fs := [(1, 1, 0), (1, 7, 0), (1, 17, 0), (1, 38, 0), (1, 47, 0), (1, 56, 0), (1, 122, 0), (1, 136, 0), (1, 139, 0), (3, 0, 0), (3, 0, 1), (0, 0, 11), (0, 0, 12)]) rfl rfl
theorem lt_f2 : gFR (hp S J T) 10 0 2 = some 17 := hp_gFR (fs := [(1, 1, 0), (1, 7, 0), (1, 17, 0), (1, 38, 0), (1, 47, 0), (1, 56, 0), (1, 122, 0), (1, 136, 0), (1, 139, 0), (3, 0, 0), (3, 0, 1), (0, 0, 11), (0, 0, 12)]) rfl rfl
theorem lt_f3 : gFR (hp S J T) 10 0 3 = some 38 := hp_gFR (fs := [(1, 1, 0), (1, 7, 0), (1, 17, 0), (1, 38, 0), (1, 47, 0), (1, 56, 0), (1, 122, 0), (1, 136, 0), (1, 139, 0), (3, 0, 0), (3, 0, 1), (0, 0, 11), (0, 0, 12)]) rfl rfl
theorem lt_f4 : gFR (hp S J T) 10 0 4 = some 47 := hp_gFR (fs := [(1, 1, 0), (1, 7, 0), (1, 17, 0), (1, 38, 0), (1, 47, 0), (1, 56, 0), (1, 122, 0), (1, 136, 0), (1, 139, 0), (3, 0, 0), (3, 0, 1), (0, 0, 11), (0, 0, 12)]) rfl rfl
theorem lt_f5 : gFR (hp S J T) 10 0 5 = some 56 := hp_gFR (fs := [(1, 1, 0), (1, 7, 0), (1, 17, 0), (1, 38, 0), (1, 47, 0), (1, 56, 0), (1, 122, 0), (1, 136, 0), (1, 139, 0), (3, 0, 0), (3, 0, 1), (0, 0, 11), (0, 0, 12)]) rfl rfl
theorem lt_f6 : gFR (hp S J T) 10 0 6 = some 122 := hp_gFR (fs := [(1, 1, 0), (1, 7, 0), (1, 17, 0), (1, 38, 0), (1, 47, 0), (1, 56, 0), (1, 122, 0), (1, 136, 0), (1, 139, 0), (3, 0, 0), (3, 0, 1), (0, 0, 11), (0, 0, 12)]) rfl rfl
theorem lt_f7 : gFR (hp S J T) 10 0 7 = some 136 := hp_gFR (fs := [(1, 1, 0), (1, 7, 0), (1, 17, 0), (1, 38, 0), (1, 47, 0), (1, 56, 0), (1, 122, 0), (1, 136, 0), (1, 139, 0), (3, 0, 0), (3, 0, 1), (0, 0, 11), (0, 0, 12)]) rfl rfl
theorem lt_f8 : gFR (hp S J T) 10 0 8 = some 139 := hp_gFR (fs := [(1, 1, 0), (1, 7, 0), (1, 17, 0), (1, 38, 0), (1, 47, 0), (1, 56, 0), (1, 122, 0), (1, 136, 0), (1, 139, 0), (3, 0, 0), (3, 0, 1), (0, 0, 11), (0, 0, 12)]) rfl rfl
theorem lt_f9 : gFR (hp S J T) 10 0 9 = some (T 0) := hp_gFT (fs := [(1, 1, 0), (1, 7, 0), (1, 17, 0), (1, 38, 0), (1, 47, 0), (1, 56, 0), (1, 122, 0), (1, 136, 0), (1, 139, 0), (3, 0, 0), (3, 0, 1), (0, 0, 11), (0, 0, 12)]) rfl rfl
theorem lt_p9 : pWV (hp S J T) 10 0 9 (.ref i) = some (hp S J (stT T 0 i)) := hp_pWT (fs := [(1, 1, 0), (1, 7, 0), (1, 17, 0), (1, 38, 0), (1, 47, 0), (1, 56, 0), (1, 122, 0), (1, 136, 0), (1, 139, 0), (3, 0, 0), (3, 0, 1), (0, 0, 11), (0, 0, 12)]) rfl rfl rfl rfl rfl
theorem lt_f10 : gFR (hp S J T) 10 0 10 = some (T 1) := hp_gFT (fs := [(1, 1, 0), (1, 7, 0), (1, 17, 0), (1, 38, 0), (1, 47, 0), (1, 56, 0), (1, 122, 0), (1, 136, 0), (1, 139, 0), (3, 0, 0), (3, 0, 1), (0, 0, 11), (0, 0, 12)]) rfl rfl
theorem lt_p10 : pWV (hp S J T) 10 0 10 (.ref i) = some (hp S J (stT T 1 i)) := hp_pWT (fs := [(1, 1, 0), (1, 7, 0), (1, 17, 0), (1, 38, 0), (1, 47, 0), (1, 56, 0), (1, 122, 0), (1, 136, 0), (1, 139, 0), (3, 0, 0), (3, 0, 1), (0, 0, 11), (0, 0, 12)]) rfl rfl rfl rfl rfl
theorem lt_g11 : gFI (hp S J T) 10 0 11 = some (S 0 11) := hp_gFI (fs := [(1, 1, 0), (1, 7, 0), (1, 17, 0), (1, 38, 0), (1, 47, 0), (1, 56, 0), (1, 122, 0), (1, 136, 0), (1, 139, 0), (3, 0, 0), (3, 0, 1), (0, 0, 11), (0, 0, 12)]) rfl rfl
theorem lt_p11 : pWV (hp S J T) 10 0 11 (.int x) = some (hp (stS S 0 11 x) J T) := hp_pWI (fs := [(1, 1, 0), (1, 7, 0), (1, 17, 0), (1, 38, 0), (1, 47, 0), (1, 56, 0), (1, 122, 0), (1, 136, 0), (1, 139, 0), (3, 0, 0), (3, 0, 1), (0, 0, 11), (0, 0, 12)]) rfl rfl rfl rfl
theorem lt_g12 : gFI (hp S J T) 10 0 12 = some (S 0 12) := hp_gFI (fs := [(1, 1, 0), (1, 7, 0), (1, 17, 0), (1, 38, 0), (1, 47, 0), (1, 56, 0), (1, 122, 0), (1, 136, 0), (1, 139, 0), (3, 0, 0), (3, 0, 1), (0, 0, 11), (0, 0, 12)]) rfl rfl
theorem lt_p12 : pWV (hp S J T) 10 0 12 (.int x) = some (hp (stS S 0 12 x) J T) := hp_pWI (fs := [(1, 1, 0), (1, 7, 0), (1, 17, 0), (1, 38, 0), (1, 47, 0), (1, 56, 0), (1, 122, 0), (1, 136, 0), (1, 139, 0), (3, 0, 0), (3, 0, 1), (0, 0, 11), (0, 0, 12)]) rfl rfl rfl rfl
theorem rd_isO : isO (hp S J T) 8 1 = some () := hp_isO (fs := [(0, 1, 0), (0, 1, 1), (0, 1, 2), (1, 2, 0), (1, 3, 0), (1, 4, 0), (1, 5, 0), (1, 6, 0), (0, 1, 8), (0, 1, 9), (0, 1, 10), (0, 1, 11), (0, 1, 12), (0, 1, 13), (0, 1, 14)]) rfl
theorem rd_g0 : gFI (hp S J T) 8 1 0 = some (S 1 0) := hp_gFI (fs := [(0, 1, 0), (0, 1, 1), (0, 1, 2), (1, 2, 0), (1, 3, 0), (1, 4, 0), (1, 5, 0), (1, 6, 0), (0, 1, 8), (0, 1, 9), (0, 1, 10), (0, 1, 11), (0, 1, 12), (0, 1, 13), (0, 1, 14)]) rfl rfl
theorem rd_p0 : pWV (hp S J T) 8 1 0 (.int x) = some (hp (stS S 1 0 x) J T) := hp_pWI (fs := [(0, 1, 0), (0, 1, 1), (0, 1, 2), (1, 2, 0), (1, 3, 0), (1, 4, 0), (1, 5, 0), (1, 6, 0), (0, 1, 8), (0, 1, 9), (0, 1, 10), (0, 1, 11), (0, 1, 12), (0, 1, 13), (0, 1, 14)]) rfl rfl rfl rfl
theorem rd_g1 : gFI (hp S J T) 8 1 1 = some (S 1 1) := hp_gFI (fs := [(0, 1, 0), (0, 1, 1), (0, 1, 2), (1, 2, 0), (1, 3, 0), (1, 4, 0), (1, 5, 0), (1, 6, 0), (0, 1, 8), (0, 1, 9), (0, 1, 10), (0, 1, 11), (0, 1, 12), (0, 1, 13), (0, 1, 14)]) rfl rfl
theorem rd_p1 : pWV (hp S J T) 8 1 1 (.int x) = some (hp (stS S 1 1 x) J T) := hp_pWI (fs := [(0, 1, 0), (0, 1, 1), (0, 1, 2), (1, 2, 0), (1, 3, 0), (1, 4, 0), (1, 5, 0), (1, 6, 0), (0, 1, 8), (0, 1, 9), (0, 1, 10), (0, 1, 11), (0, 1, 12), (0, 1, 13), (0, 1, 14)]) rfl rfl rfl rfl
theorem rd_g2 : gFI (hp S J T) 8 1 2 = some (S 1 2) := hp_gFI (fs := [(0, 1, 0), (0, 1, 1), (0, 1, 2), (1, 2, 0), (1, 3, 0), (1, 4, 0), (1, 5, 0), (1, 6, 0), (0, 1, 8), (0, 1, 9), (0, 1, 10), (0, 1, 11), (0, 1, 12), (0, 1, 13), (0, 1, 14)]) rfl rfl
theorem rd_p2 : pWV (hp S J T) 8 1 2 (.int x) = some (hp (stS S 1 2 x) J T) := hp_pWI (fs := [(0, 1, 0), (0, 1, 1), (0, 1, 2), (1, 2, 0), (1, 3, 0), (1, 4, 0), (1, 5, 0), (1, 6, 0), (0, 1, 8), (0, 1, 9), (0, 1, 10), (0, 1, 11), (0, 1, 12), (0, 1, 13), (0, 1, 14)]) rfl rfl rfl rfl
theorem rd_f3 : gFR (hp S J T) 8 1 3 = some 2 := hp_gFR (fs := [(0, 1, 0), (0, 1, 1), (0, 1, 2), (1, 2, 0), (1, 3, 0), (1, 4, 0), (1, 5, 0), (1, 6, 0), (0, 1, 8), (0, 1, 9), (0, 1, 10), (0, 1, 11), (0, 1, 12), (0, 1, 13), (0, 1, 14)]) rfl rfl
theorem rd_r3 (hi : i < 700) : aRB ((hp S J T)[2]?) (nI i) = some (S 2 i) := hp_aRB (t := 1) (b := 2) (o := 0) (m := 1) (n := 700) rfl (by omega) hi (by omega) (by omega)
theorem rd_w3 (hi : i < 700) : aWB (hp S J T) 2 (nI i) x = some (hp (stS S 2 i (vp_nar .byte x)) J T) := hp_aWB (t := 1) (b := 2) (o := 0) (m := 1) (n := 700) rfl (by omega) (by omega) hi (by omega) (by omega)
theorem rd_l3 : aLn ((hp S J T)[2]?) = some (nI 700) := hp_aLn (t := 1) (b := 2) (o := 0) (m := 1) (n := 700) rfl (by omega)
theorem rd_f4 : gFR (hp S J T) 8 1 4 = some 3 := hp_gFR (fs := [(0, 1, 0), (0, 1, 1), (0, 1, 2), (1, 2, 0), (1, 3, 0), (1, 4, 0), (1, 5, 0), (1, 6, 0), (0, 1, 8), (0, 1, 9), (0, 1, 10), (0, 1, 11), (0, 1, 12), (0, 1, 13), (0, 1, 14)]) rfl rfl
theorem rd_r4 (hi : i < 13) : aRI ((hp S J T)[3]?) (nI i) = some (S 3 i) := hp_aRI (b := 3) (o := 0) (m := 1) (n := 13) rfl hi (by omega) (by omega)
theorem rd_w4 (hi : i < 13) : aWI (hp S J T) 3 (nI i) x = some (hp (stS S 3 i x) J T) := hp_aWI (b := 3) (o := 0) (m := 1) (n := 13) rfl (by omega) hi (by omega) (by omega)
theorem rd_l4 : aLn ((hp S J T)[3]?) = some (nI 13) := hp_aLn (t := 0) (b := 3) (o := 0) (m := 1) (n := 13) rfl (by omega)
theorem rd_f5 : gFR (hp S J T) 8 1 5 = some 4 := hp_gFR (fs := [(0, 1, 0), (0, 1, 1), (0, 1, 2), (1, 2, 0), (1, 3, 0), (1, 4, 0), (1, 5, 0), (1, 6, 0), (0, 1, 8), (0, 1, 9), (0, 1, 10), (0, 1, 11), (0, 1, 12), (0, 1, 13), (0, 1, 14)]) rfl rfl
theorem rd_r5 (hi : i < 13) : aRI ((hp S J T)[4]?) (nI i) = some (S 4 i) := hp_aRI (b := 4) (o := 0) (m := 1) (n := 13) rfl hi (by omega) (by omega)
theorem rd_w5 (hi : i < 13) : aWI (hp S J T) 4 (nI i) x = some (hp (stS S 4 i x) J T) := hp_aWI (b := 4) (o := 0) (m := 1) (n := 13) rfl (by omega) hi (by omega) (by omega)
theorem rd_l5 : aLn ((hp S J T)[4]?) = some (nI 13) := hp_aLn (t := 0) (b := 4) (o := 0) (m := 1) (n := 13) rfl (by omega)
theorem rd_f6 : gFR (hp S J T) 8 1 6 = some 5 := hp_gFR (fs := [(0, 1, 0), (0, 1, 1), (0, 1, 2), (1, 2, 0), (1, 3, 0), (1, 4, 0), (1, 5, 0), (1, 6, 0), (0, 1, 8), (0, 1, 9), (0, 1, 10), (0, 1, 11), (0, 1, 12), (0, 1, 13), (0, 1, 14)]) rfl rfl
theorem rd_r6 (hi : i < 13) : aRB ((hp S J T)[5]?) (nI i) = some (S 5 i) := hp_aRB (t := 2) (b := 5) (o := 0) (m := 1) (n := 13) rfl (by omega) hi (by omega) (by omega)
theorem rd_w6 (hi : i < 13) : aWB (hp S J T) 5 (nI i) x = some (hp (stS S 5 i (vp_nar .boolean x)) J T) := hp_aWB (t := 2) (b := 5) (o := 0) (m := 1) (n := 13) rfl (by omega) (by omega) hi (by omega) (by omega)
theorem rd_l6 : aLn ((hp S J T)[5]?) = some (nI 13) := hp_aLn (t := 2) (b := 5) (o := 0) (m := 1) (n := 13) rfl (by omega)
theorem rd_f7 : gFR (hp S J T) 8 1 7 = some 6 := hp_gFR (fs := [(0, 1, 0), (0, 1, 1), (0, 1, 2), (1, 2, 0), (1, 3, 0), (1, 4, 0), (1, 5, 0), (1, 6, 0), (0, 1, 8), (0, 1, 9), (0, 1, 10), (0, 1, 11), (0, 1, 12), (0, 1, 13), (0, 1, 14)]) rfl rfl
theorem rd_r7 (hi : i < 13) : aRI ((hp S J T)[6]?) (nI i) = some (S 6 i) := hp_aRI (b := 6) (o := 0) (m := 1) (n := 13) rfl hi (by omega) (by omega)
theorem rd_w7 (hi : i < 13) : aWI (hp S J T) 6 (nI i) x = some (hp (stS S 6 i x) J T) := hp_aWI (b := 6) (o := 0) (m := 1) (n := 13) rfl (by omega) hi (by omega) (by omega)
theorem rd_l7 : aLn ((hp S J T)[6]?) = some (nI 13) := hp_aLn (t := 0) (b := 6) (o := 0) (m := 1) (n := 13) rfl (by omega)
theorem rd_g8 : gFI (hp S J T) 8 1 8 = some (S 1 8) := hp_gFI (fs := [(0, 1, 0), (0, 1, 1), (0, 1, 2), (1, 2, 0), (1, 3, 0), (1, 4, 0), (1, 5, 0), (1, 6, 0), (0, 1, 8), (0, 1, 9), (0, 1, 10), (0, 1, 11), (0, 1, 12), (0, 1, 13), (0, 1, 14)]) rfl rfl
theorem rd_p8 : pWV (hp S J T) 8 1 8 (.int x) = some (hp (stS S 1 8 x) J T) := hp_pWI (fs := [(0, 1, 0), (0, 1, 1), (0, 1, 2), (1, 2, 0), (1, 3, 0), (1, 4, 0), (1, 5, 0), (1, 6, 0), (0, 1, 8), (0, 1, 9), (0, 1, 10), (0, 1, 11), (0, 1, 12), (0, 1, 13), (0, 1, 14)]) rfl rfl rfl rfl
theorem rd_g9 : gFI (hp S J T) 8 1 9 = some (S 1 9) := hp_gFI (fs := [(0, 1, 0), (0, 1, 1), (0, 1, 2), (1, 2, 0), (1, 3, 0), (1, 4, 0), (1, 5, 0), (1, 6, 0), (0, 1, 8), (0, 1, 9), (0, 1, 10), (0, 1, 11), (0, 1, 12), (0, 1, 13), (0, 1, 14)]) rfl rfl
theorem rd_p9 : pWV (hp S J T) 8 1 9 (.int x) = some (hp (stS S 1 9 x) J T) := hp_pWI (fs := [(0, 1, 0), (0, 1, 1), (0, 1, 2), (1, 2, 0), (1, 3, 0), (1, 4, 0), (1, 5, 0), (1, 6, 0), (0, 1, 8), (0, 1, 9), (0, 1, 10), (0, 1, 11), (0, 1, 12), (0, 1, 13), (0, 1, 14)]) rfl rfl rfl rfl
theorem rd_g10 : gFI (hp S J T) 8 1 10 = some (S 1 10) := hp_gFI (fs := [(0, 1, 0), (0, 1, 1), (0, 1, 2), (1, 2, 0), (1, 3, 0), (1, 4, 0), (1, 5, 0), (1, 6, 0), (0, 1, 8), (0, 1, 9), (0, 1, 10), (0, 1, 11), (0, 1, 12), (0, 1, 13), (0, 1, 14)]) rfl rfl
theorem rd_p10 : pWV (hp S J T) 8 1 10 (.int x) = some (hp (stS S 1 10 x) J T) := hp_pWI (fs := [(0, 1, 0), (0, 1, 1), (0, 1, 2), (1, 2, 0), (1, 3, 0), (1, 4, 0), (1, 5, 0), (1, 6, 0), (0, 1, 8), (0, 1, 9), (0, 1, 10), (0, 1, 11), (0, 1, 12), (0, 1, 13), (0, 1, 14)]) rfl rfl rfl rfl
theorem rd_g11 : gFI (hp S J T) 8 1 11 = some (S 1 11) := hp_gFI (fs := [(0, 1, 0), (0, 1, 1), (0, 1, 2), (1, 2, 0), (1, 3, 0), (1, 4, 0), (1, 5, 0), (1, 6, 0), (0, 1, 8), (0, 1, 9), (0, 1, 10), (0, 1, 11), (0, 1, 12), (0, 1, 13), (0, 1, 14)]) rfl rfl
theorem rd_p11 : pWV (hp S J T) 8 1 11 (.int x) = some (hp (stS S 1 11 x) J T) := hp_pWI (fs := [(0, 1, 0), (0, 1, 1), (0, 1, 2), (1, 2, 0), (1, 3, 0), (1, 4, 0), (1, 5, 0), (1, 6, 0), (0, 1, 8), (0, 1, 9), (0, 1, 10), (0, 1, 11), (0, 1, 12), (0, 1, 13), (0, 1, 14)]) rfl rfl rfl rfl
theorem rd_g12 : gFI (hp S J T) 8 1 12 = some (S 1 12) := hp_gFI (fs := [(0, 1, 0), (0, 1, 1), (0, 1, 2), (1, 2, 0), (1, 3, 0), (1, 4, 0), (1, 5, 0), (1, 6, 0), (0, 1, 8), (0, 1, 9), (0, 1, 10), (0, 1, 11), (0, 1, 12), (0, 1, 13), (0, 1, 14)]) rfl rfl
theorem rd_p12 : pWV (hp S J T) 8 1 12 (.int x) = some (hp (stS S 1 12 x) J T) := hp_pWI (fs := [(0, 1, 0), (0, 1, 1), (0, 1, 2), (1, 2, 0), (1, 3, 0), (1, 4, 0), (1, 5, 0), (1, 6, 0), (0, 1, 8), (0, 1, 9), (0, 1, 10), (0, 1, 11), (0, 1, 12), (0, 1, 13), (0, 1, 14)]) rfl rfl rfl rfl
theorem rd_g13 : gFI (hp S J T) 8 1 13 = some (S 1 13) := hp_gFI (fs := [(0, 1, 0), (0, 1, 1), (0, 1, 2), (1, 2, 0), (1, 3, 0), (1, 4, 0), (1, 5, 0), (1, 6, 0), (0, 1, 8), (0, 1, 9), (0, 1, 10), (0, 1, 11), (0, 1, 12), (0, 1, 13), (0, 1, 14)]) rfl rfl
theorem rd_p13 : pWV (hp S J T) 8 1 13 (.int x) = some (hp (stS S 1 13 x) J T) := hp_pWI (fs := [(0, 1, 0), (0, 1, 1), (0, 1, 2), (1, 2, 0), (1, 3, 0), (1, 4, 0), (1, 5, 0), (1, 6, 0), (0, 1, 8), (0, 1, 9), (0, 1, 10), (0, 1, 11), (0, 1, 12), (0, 1, 13), (0, 1, 14)]) rfl rfl rfl rfl
theorem rd_g14 : gFI (hp S J T) 8 1 14 = some (S 1 14) := hp_gFI (fs := [(0, 1, 0), (0, 1, 1), (0, 1, 2), (1, 2, 0), (1, 3, 0), (1, 4, 0), (1, 5, 0), (1, 6, 0), (0, 1, 8), (0, 1, 9), (0, 1, 10), (0, 1, 11), (0, 1, 12), (0, 1, 13), (0, 1, 14)]) rfl rfl
theorem rd_p14 (hx : x = 0 ∨ x = 1) : pWV (hp S J T) 8 1 14 (.int x) = some (hp (stS S 1 14 x) J T) := hp_pWI (fs := [(0, 1, 0), (0, 1, 1), (0, 1, 2), (1, 2, 0), (1, 3, 0), (1, 4, 0), (1, 5, 0), (1, 6, 0), (0, 1, 8), (0, 1, 9), (0, 1, 10), (0, 1, 11), (0, 1, 12), (0, 1, 13), (0, 1, 14)]) rfl rfl rfl (decide_eq_true hx)
theorem co_isO : isO (hp S J T) 1 7 = some () := hp_isO (fs := [(1, 8, 0), (1, 12, 0), (1, 15, 0), (1, 16, 0), (0, 7, 4), (0, 7, 5)]) rfl
theorem co_f0 : gFR (hp S J T) 1 7 0 = some 8 := hp_gFR (fs := [(1, 8, 0), (1, 12, 0), (1, 15, 0), (1, 16, 0), (0, 7, 4), (0, 7, 5)]) rfl rfl
theorem co_f1 : gFR (hp S J T) 1 7 1 = some 12 := hp_gFR (fs := [(1, 8, 0), (1, 12, 0), (1, 15, 0), (1, 16, 0), (0, 7, 4), (0, 7, 5)]) rfl rfl
theorem co_f2 : gFR (hp S J T) 1 7 2 = some 15 := hp_gFR (fs := [(1, 8, 0), (1, 12, 0), (1, 15, 0), (1, 16, 0), (0, 7, 4), (0, 7, 5)]) rfl rfl
theorem co_r2 (hi : i < 5) : aRI ((hp S J T)[15]?) (nI i) = some (S 15 i) := hp_aRI (b := 15) (o := 0) (m := 1) (n := 5) rfl hi (by omega) (by omega)
theorem co_w2 (hi : i < 5) : aWI (hp S J T) 15 (nI i) x = some (hp (stS S 15 i x) J T) := hp_aWI (b := 15) (o := 0) (m := 1) (n := 5) rfl (by omega) hi (by omega) (by omega)
theorem co_l2 : aLn ((hp S J T)[15]?) = some (nI 5) := hp_aLn (t := 0) (b := 15) (o := 0) (m := 1) (n := 5) rfl (by omega)
theorem co_f3 : gFR (hp S J T) 1 7 3 = some 16 := hp_gFR (fs := [(1, 8, 0), (1, 12, 0), (1, 15, 0), (1, 16, 0), (0, 7, 4), (0, 7, 5)]) rfl rfl
theorem co_r3 (hi : i < 5) : aRI ((hp S J T)[16]?) (nI i) = some (S 16 i) := hp_aRI (b := 16) (o := 0) (m := 1) (n := 5) rfl hi (by omega) (by omega)
theorem co_w3 (hi : i < 5) : aWI (hp S J T) 16 (nI i) x = some (hp (stS S 16 i x) J T) := hp_aWI (b := 16) (o := 0) (m := 1) (n := 5) rfl (by omega) hi (by omega) (by omega)
theorem co_l3 : aLn ((hp S J T)[16]?) = some (nI 5) := hp_aLn (t := 0) (b := 16) (o := 0) (m := 1) (n := 5) rfl (by omega)
theorem co_g4 : gFI (hp S J T) 1 7 4 = some (S 7 4) := hp_gFI (fs := [(1, 8, 0), (1, 12, 0), (1, 15, 0), (1, 16, 0), (0, 7, 4), (0, 7, 5)]) rfl rfl
theorem co_p4 : pWV (hp S J T) 1 7 4 (.int x) = some (hp (stS S 7 4 x) J T) := hp_pWI (fs := [(1, 8, 0), (1, 12, 0), (1, 15, 0), (1, 16, 0), (0, 7, 4), (0, 7, 5)]) rfl rfl rfl rfl
theorem co_g5 : gFI (hp S J T) 1 7 5 = some (S 7 5) := hp_gFI (fs := [(1, 8, 0), (1, 12, 0), (1, 15, 0), (1, 16, 0), (0, 7, 4), (0, 7, 5)]) rfl rfl
theorem co_p5 : pWV (hp S J T) 1 7 5 (.int x) = some (hp (stS S 7 5 x) J T) := hp_pWI (fs := [(1, 8, 0), (1, 12, 0), (1, 15, 0), (1, 16, 0), (0, 7, 4), (0, 7, 5)]) rfl rfl rfl rfl
theorem se_isO : isO (hp S J T) 2 17 = some () := hp_isO (fs := [(0, 17, 0), (0, 17, 1), (0, 17, 2), (1, 18, 0), (1, 19, 0), (0, 17, 5), (0, 17, 6)]) rfl
theorem se_g0 : gFI (hp S J T) 2 17 0 = some (S 17 0) := hp_gFI (fs := [(0, 17, 0), (0, 17, 1), (0, 17, 2), (1, 18, 0), (1, 19, 0), (0, 17, 5), (0, 17, 6)]) rfl rfl
theorem se_p0 : pWV (hp S J T) 2 17 0 (.int x) = some (hp (stS S 17 0 x) J T) := hp_pWI (fs := [(0, 17, 0), (0, 17, 1), (0, 17, 2), (1, 18, 0), (1, 19, 0), (0, 17, 5), (0, 17, 6)]) rfl rfl rfl rfl
theorem se_g1 : gFI (hp S J T) 2 17 1 = some (S 17 1) := hp_gFI (fs := [(0, 17, 0), (0, 17, 1), (0, 17, 2), (1, 18, 0), (1, 19, 0), (0, 17, 5), (0, 17, 6)]) rfl rfl
theorem se_p1 : pWV (hp S J T) 2 17 1 (.int x) = some (hp (stS S 17 1 x) J T) := hp_pWI (fs := [(0, 17, 0), (0, 17, 1), (0, 17, 2), (1, 18, 0), (1, 19, 0), (0, 17, 5), (0, 17, 6)]) rfl rfl rfl rfl
theorem se_g2 : gFI (hp S J T) 2 17 2 = some (S 17 2) := hp_gFI (fs := [(0, 17, 0), (0, 17, 1), (0, 17, 2), (1, 18, 0), (1, 19, 0), (0, 17, 5), (0, 17, 6)]) rfl rfl
theorem se_p2 : pWV (hp S J T) 2 17 2 (.int x) = some (hp (stS S 17 2 x) J T) := hp_pWI (fs := [(0, 17, 0), (0, 17, 1), (0, 17, 2), (1, 18, 0), (1, 19, 0), (0, 17, 5), (0, 17, 6)]) rfl rfl rfl rfl
theorem se_f3 : gFR (hp S J T) 2 17 3 = some 18 := hp_gFR (fs := [(0, 17, 0), (0, 17, 1), (0, 17, 2), (1, 18, 0), (1, 19, 0), (0, 17, 5), (0, 17, 6)]) rfl rfl
theorem se_r3 (hi : i < 4) : aRR ((hp S J T)[18]?) (nI i) = some (22 + 4 * i) := hp_aRR (b := 22) (o := 0) (m := 4) (n := 4) rfl hi (by omega)
theorem se_l3 : aLn ((hp S J T)[18]?) = some (nI 4) := hp_aLn (t := 4) (b := 22) (o := 0) (m := 4) (n := 4) rfl (by omega)
theorem se_f4 : gFR (hp S J T) 2 17 4 = some 19 := hp_gFR (fs := [(0, 17, 0), (0, 17, 1), (0, 17, 2), (1, 18, 0), (1, 19, 0), (0, 17, 5), (0, 17, 6)]) rfl rfl
theorem se_g5 : gFI (hp S J T) 2 17 5 = some (S 17 5) := hp_gFI (fs := [(0, 17, 0), (0, 17, 1), (0, 17, 2), (1, 18, 0), (1, 19, 0), (0, 17, 5), (0, 17, 6)]) rfl rfl
theorem se_p5 : pWV (hp S J T) 2 17 5 (.int x) = some (hp (stS S 17 5 x) J T) := hp_pWI (fs := [(0, 17, 0), (0, 17, 1), (0, 17, 2), (1, 18, 0), (1, 19, 0), (0, 17, 5), (0, 17, 6)]) rfl rfl rfl rfl
theorem se_g6 : gFI (hp S J T) 2 17 6 = some (S 17 6) := hp_gFI (fs := [(0, 17, 0), (0, 17, 1), (0, 17, 2), (1, 18, 0), (1, 19, 0), (0, 17, 5), (0, 17, 6)]) rfl rfl
theorem se_p6 : pWV (hp S J T) 2 17 6 (.int x) = some (hp (stS S 17 6 x) J T) := hp_pWI (fs := [(0, 17, 0), (0, 17, 1), (0, 17, 2), (1, 18, 0), (1, 19, 0), (0, 17, 5), (0, 17, 6)]) rfl rfl rfl rfl
theorem he_isO : isO (hp S J T) 3 38 = some () := hp_isO (fs := [(0, 38, 0), (0, 38, 1), (0, 38, 2), (0, 38, 3), (1, 39, 0), (1, 40, 0), (1, 44, 0)]) rfl
theorem he_g0 : gFI (hp S J T) 3 38 0 = some (S 38 0) := hp_gFI (fs := [(0, 38, 0), (0, 38, 1), (0, 38, 2), (0, 38, 3), (1, 39, 0), (1, 40, 0), (1, 44, 0)]) rfl rfl
theorem he_p0 : pWV (hp S J T) 3 38 0 (.int x) = some (hp (stS S 38 0 x) J T) := hp_pWI (fs := [(0, 38, 0), (0, 38, 1), (0, 38, 2), (0, 38, 3), (1, 39, 0), (1, 40, 0), (1, 44, 0)]) rfl rfl rfl rfl
theorem he_g1 : gFI (hp S J T) 3 38 1 = some (S 38 1) := hp_gFI (fs := [(0, 38, 0), (0, 38, 1), (0, 38, 2), (0, 38, 3), (1, 39, 0), (1, 40, 0), (1, 44, 0)]) rfl rfl
theorem he_p1 : pWV (hp S J T) 3 38 1 (.int x) = some (hp (stS S 38 1 x) J T) := hp_pWI (fs := [(0, 38, 0), (0, 38, 1), (0, 38, 2), (0, 38, 3), (1, 39, 0), (1, 40, 0), (1, 44, 0)]) rfl rfl rfl rfl
theorem he_g2 : gFI (hp S J T) 3 38 2 = some (S 38 2) := hp_gFI (fs := [(0, 38, 0), (0, 38, 1), (0, 38, 2), (0, 38, 3), (1, 39, 0), (1, 40, 0), (1, 44, 0)]) rfl rfl
theorem he_p2 : pWV (hp S J T) 3 38 2 (.int x) = some (hp (stS S 38 2 x) J T) := hp_pWI (fs := [(0, 38, 0), (0, 38, 1), (0, 38, 2), (0, 38, 3), (1, 39, 0), (1, 40, 0), (1, 44, 0)]) rfl rfl rfl rfl
theorem he_g3 : gFI (hp S J T) 3 38 3 = some (S 38 3) := hp_gFI (fs := [(0, 38, 0), (0, 38, 1), (0, 38, 2), (0, 38, 3), (1, 39, 0), (1, 40, 0), (1, 44, 0)]) rfl rfl
theorem he_p3 : pWV (hp S J T) 3 38 3 (.int x) = some (hp (stS S 38 3 x) J T) := hp_pWI (fs := [(0, 38, 0), (0, 38, 1), (0, 38, 2), (0, 38, 3), (1, 39, 0), (1, 40, 0), (1, 44, 0)]) rfl rfl rfl rfl
theorem he_f4 : gFR (hp S J T) 3 38 4 = some 39 := hp_gFR (fs := [(0, 38, 0), (0, 38, 1), (0, 38, 2), (0, 38, 3), (1, 39, 0), (1, 40, 0), (1, 44, 0)]) rfl rfl
theorem he_r4 (hi : i < 61) : aRI ((hp S J T)[39]?) (nI i) = some (S 39 i) := hp_aRI (b := 39) (o := 0) (m := 1) (n := 61) rfl hi (by omega) (by omega)
theorem he_w4 (hi : i < 61) : aWI (hp S J T) 39 (nI i) x = some (hp (stS S 39 i x) J T) := hp_aWI (b := 39) (o := 0) (m := 1) (n := 61) rfl (by omega) hi (by omega) (by omega)
theorem he_l4 : aLn ((hp S J T)[39]?) = some (nI 61) := hp_aLn (t := 0) (b := 39) (o := 0) (m := 1) (n := 61) rfl (by omega)
theorem he_f5 : gFR (hp S J T) 3 38 5 = some 40 := hp_gFR (fs := [(0, 38, 0), (0, 38, 1), (0, 38, 2), (0, 38, 3), (1, 39, 0), (1, 40, 0), (1, 44, 0)]) rfl rfl
theorem he_f6 : gFR (hp S J T) 3 38 6 = some 44 := hp_gFR (fs := [(0, 38, 0), (0, 38, 1), (0, 38, 2), (0, 38, 3), (1, 39, 0), (1, 40, 0), (1, 44, 0)]) rfl rfl
theorem ch_isO : isO (hp S J T) 0 47 = some () := hp_isO (fs := [(2, 47, 0), (1, 48, 0), (1, 49, 0), (1, 53, 0)]) rfl
theorem ch_g0 : gFJ (hp S J T) 0 47 0 = some (J 47 0) := hp_gFJ (fs := [(2, 47, 0), (1, 48, 0), (1, 49, 0), (1, 53, 0)]) rfl rfl
theorem ch_p0 : pWV (hp S J T) 0 47 0 (.long y) = some (hp S (stJ J 47 0 y) T) := hp_pWJ (fs := [(2, 47, 0), (1, 48, 0), (1, 49, 0), (1, 53, 0)]) rfl rfl rfl rfl
theorem ch_f1 : gFR (hp S J T) 0 47 1 = some 48 := hp_gFR (fs := [(2, 47, 0), (1, 48, 0), (1, 49, 0), (1, 53, 0)]) rfl rfl
theorem ch_r1 (hi : i < 8) : aRJ ((hp S J T)[48]?) (nI i) = some (J 48 i) := hp_aRJ (b := 48) (o := 0) (m := 1) (n := 8) rfl hi (by omega) (by omega)
theorem ch_w1 (hi : i < 8) : aWJ (hp S J T) 48 (nI i) y = some (hp S (stJ J 48 i y) T) := hp_aWJ (b := 48) (o := 0) (m := 1) (n := 8) rfl (by omega) hi (by omega) (by omega)
theorem ch_l1 : aLn ((hp S J T)[48]?) = some (nI 8) := hp_aLn (t := 3) (b := 48) (o := 0) (m := 1) (n := 8) rfl (by omega)
theorem ch_f2 : gFR (hp S J T) 0 47 2 = some 49 := hp_gFR (fs := [(2, 47, 0), (1, 48, 0), (1, 49, 0), (1, 53, 0)]) rfl rfl
theorem ch_f3 : gFR (hp S J T) 0 47 3 = some 53 := hp_gFR (fs := [(2, 47, 0), (1, 48, 0), (1, 49, 0), (1, 53, 0)]) rfl rfl
theorem hi_isO : isO (hp S J T) 4 56 = some () := hp_isO (fs := [(0, 56, 0), (0, 56, 1), (1, 57, 0)]) rfl
theorem hi_g0 : gFI (hp S J T) 4 56 0 = some (S 56 0) := hp_gFI (fs := [(0, 56, 0), (0, 56, 1), (1, 57, 0)]) rfl rfl
theorem hi_p0 : pWV (hp S J T) 4 56 0 (.int x) = some (hp (stS S 56 0 x) J T) := hp_pWI (fs := [(0, 56, 0), (0, 56, 1), (1, 57, 0)]) rfl rfl rfl rfl
theorem hi_g1 : gFI (hp S J T) 4 56 1 = some (S 56 1) := hp_gFI (fs := [(0, 56, 0), (0, 56, 1), (1, 57, 0)]) rfl rfl
theorem hi_p1 : pWV (hp S J T) 4 56 1 (.int x) = some (hp (stS S 56 1 x) J T) := hp_pWI (fs := [(0, 56, 0), (0, 56, 1), (1, 57, 0)]) rfl rfl rfl rfl
theorem hi_f2 : gFR (hp S J T) 4 56 2 = some 57 := hp_gFR (fs := [(0, 56, 0), (0, 56, 1), (1, 57, 0)]) rfl rfl
theorem hi_r2 (hi : i < 16) : aRR ((hp S J T)[57]?) (nI i) = some (58 + 4 * i) := hp_aRR (b := 58) (o := 0) (m := 4) (n := 16) rfl hi (by omega)
theorem hi_l2 : aLn ((hp S J T)[57]?) = some (nI 16) := hp_aLn (t := 4) (b := 58) (o := 0) (m := 4) (n := 16) rfl (by omega)
theorem im_isO : isO (hp S J T) 5 122 = some () := hp_isO (fs := [(0, 122, 0), (1, 123, 0)]) rfl
theorem im_g0 : gFI (hp S J T) 5 122 0 = some (S 122 0) := hp_gFI (fs := [(0, 122, 0), (1, 123, 0)]) rfl rfl
theorem im_p0 : pWV (hp S J T) 5 122 0 (.int x) = some (hp (stS S 122 0 x) J T) := hp_pWI (fs := [(0, 122, 0), (1, 123, 0)]) rfl rfl rfl rfl
theorem im_f1 : gFR (hp S J T) 5 122 1 = some 123 := hp_gFR (fs := [(0, 122, 0), (1, 123, 0)]) rfl rfl
theorem im_r1 (hi : i < 3) : aRR ((hp S J T)[123]?) (nI i) = some (124 + 4 * i) := hp_aRR (b := 124) (o := 0) (m := 4) (n := 3) rfl hi (by omega)
theorem im_l1 : aLn ((hp S J T)[123]?) = some (nI 3) := hp_aLn (t := 4) (b := 124) (o := 0) (m := 4) (n := 3) rfl (by omega)
theorem mo_isO : isO (hp S J T) 11 167 = some () := hp_isO (fs := [(0, 167, 0), (1, 168, 0), (0, 167, 2), (0, 167, 3), (0, 167, 4), (0, 167, 5), (0, 167, 6), (0, 167, 7), (0, 167, 8), (0, 167, 9), (0, 167, 10), (0, 167, 11), (1, 169, 0), (0, 167, 13), (0, 167, 14), (1, 170, 0), (1, 171, 0), (1, 172, 0), (1, 173, 0), (1, 174, 0), (1, 175, 0), (1, 176, 0), (1, 177, 0), (0, 167, 23), (0, 167, 24), (0, 167, 25), (0, 167, 26), (1, 178, 0), (1, 179, 0), (0, 167, 29), (0, 167, 30), (0, 167, 31), (0, 167, 32), (0, 167, 33), (0, 167, 34), (0, 167, 35), (1, 180, 0), (0, 167, 37), (0, 167, 38), (0, 167, 39), (0, 167, 40), (2, 167, 41), (2, 167, 42), (2, 167, 43)]) rfl
theorem mo_g0 : gFI (hp S J T) 11 167 0 = some (S 167 0) := hp_gFI (fs := [(0, 167, 0), (1, 168, 0), (0, 167, 2), (0, 167, 3), (0, 167, 4), (0, 167, 5), (0, 167, 6), (0, 167, 7), (0, 167, 8), (0, 167, 9), (0, 167, 10), (0, 167, 11), (1, 169, 0), (0, 167, 13), (0, 167, 14), (1, 170, 0), (1, 171, 0), (1, 172, 0), (1, 173, 0), (1, 174, 0), (1, 175, 0), (1, 176, 0), (1, 177, 0), (0, 167, 23), (0, 167, 24), (0, 167, 25), (0, 167, 26), (1, 178, 0), (1, 179, 0), (0, 167, 29), (0, 167, 30), (0, 167, 31), (0, 167, 32), (0, 167, 33), (0, 167, 34), (0, 167, 35), (1, 180, 0), (0, 167, 37), (0, 167, 38), (0, 167, 39), (0, 167, 40), (2, 167, 41), (2, 167, 42), (2, 167, 43)]) rfl rfl
theorem mo_p0 : pWV (hp S J T) 11 167 0 (.int x) = some (hp (stS S 167 0 x) J T) := hp_pWI (fs := [(0, 167, 0), (1, 168, 0), (0, 167, 2), (0, 167, 3), (0, 167, 4), (0, 167, 5), (0, 167, 6), (0, 167, 7), (0, 167, 8), (0, 167, 9), (0, 167, 10), (0, 167, 11), (1, 169, 0), (0, 167, 13), (0, 167, 14), (1, 170, 0), (1, 171, 0), (1, 172, 0), (1, 173, 0), (1, 174, 0), (1, 175, 0), (1, 176, 0), (1, 177, 0), (0, 167, 23), (0, 167, 24), (0, 167, 25), (0, 167, 26), (1, 178, 0), (1, 179, 0), (0, 167, 29), (0, 167, 30), (0, 167, 31), (0, 167, 32), (0, 167, 33), (0, 167, 34), (0, 167, 35), (1, 180, 0), (0, 167, 37), (0, 167, 38), (0, 167, 39), (0, 167, 40), (2, 167, 41), (2, 167, 42), (2, 167, 43)]) rfl rfl rfl rfl
theorem mo_f1 : gFR (hp S J T) 11 167 1 = some 168 := hp_gFR (fs := [(0, 167, 0), (1, 168, 0), (0, 167, 2), (0, 167, 3), (0, 167, 4), (0, 167, 5), (0, 167, 6), (0, 167, 7), (0, 167, 8), (0, 167, 9), (0, 167, 10), (0, 167, 11), (1, 169, 0), (0, 167, 13), (0, 167, 14), (1, 170, 0), (1, 171, 0), (1, 172, 0), (1, 173, 0), (1, 174, 0), (1, 175, 0), (1, 176, 0), (1, 177, 0), (0, 167, 23), (0, 167, 24), (0, 167, 25), (0, 167, 26), (1, 178, 0), (1, 179, 0), (0, 167, 29), (0, 167, 30), (0, 167, 31), (0, 167, 32), (0, 167, 33), (0, 167, 34), (0, 167, 35), (1, 180, 0), (0, 167, 37), (0, 167, 38), (0, 167, 39), (0, 167, 40), (2, 167, 41), (2, 167, 42), (2, 167, 43)]) rfl rfl
theorem mo_r1 (hi : i < 700) : aRI ((hp S J T)[168]?) (nI i) = some (S 168 i) := hp_aRI (b := 168) (o := 0) (m := 1) (n := 700) rfl hi (by omega) (by omega)
theorem mo_w1 (hi : i < 700) : aWI (hp S J T) 168 (nI i) x = some (hp (stS S 168 i x) J T) := hp_aWI (b := 168) (o := 0) (m := 1) (n := 700) rfl (by omega) hi (by omega) (by omega)
theorem mo_l1 : aLn ((hp S J T)[168]?) = some (nI 700) := hp_aLn (t := 0) (b := 168) (o := 0) (m := 1) (n := 700) rfl (by omega)
theorem mo_g2 : gFI (hp S J T) 11 167 2 = some (S 167 2) := hp_gFI (fs := [(0, 167, 0), (1, 168, 0), (0, 167, 2), (0, 167, 3), (0, 167, 4), (0, 167, 5), (0, 167, 6), (0, 167, 7), (0, 167, 8), (0, 167, 9), (0, 167, 10), (0, 167, 11), (1, 169, 0), (0, 167, 13), (0, 167, 14), (1, 170, 0), (1, 171, 0), (1, 172, 0), (1, 173, 0), (1, 174, 0), (1, 175, 0), (1, 176, 0), (1, 177, 0), (0, 167, 23), (0, 167, 24), (0, 167, 25), (0, 167, 26), (1, 178, 0), (1, 179, 0), (0, 167, 29), (0, 167, 30), (0, 167, 31), (0, 167, 32), (0, 167, 33), (0, 167, 34), (0, 167, 35), (1, 180, 0), (0, 167, 37), (0, 167, 38), (0, 167, 39), (0, 167, 40), (2, 167, 41), (2, 167, 42), (2, 167, 43)]) rfl rfl
theorem mo_p2 : pWV (hp S J T) 11 167 2 (.int x) = some (hp (stS S 167 2 x) J T) := hp_pWI (fs := [(0, 167, 0), (1, 168, 0), (0, 167, 2), (0, 167, 3), (0, 167, 4), (0, 167, 5), (0, 167, 6), (0, 167, 7), (0, 167, 8), (0, 167, 9), (0, 167, 10), (0, 167, 11), (1, 169, 0), (0, 167, 13), (0, 167, 14), (1, 170, 0), (1, 171, 0), (1, 172, 0), (1, 173, 0), (1, 174, 0), (1, 175, 0), (1, 176, 0), (1, 177, 0), (0, 167, 23), (0, 167, 24), (0, 167, 25), (0, 167, 26), (1, 178, 0), (1, 179, 0), (0, 167, 29), (0, 167, 30), (0, 167, 31), (0, 167, 32), (0, 167, 33), (0, 167, 34), (0, 167, 35), (1, 180, 0), (0, 167, 37), (0, 167, 38), (0, 167, 39), (0, 167, 40), (2, 167, 41), (2, 167, 42), (2, 167, 43)]) rfl rfl rfl rfl
theorem mo_g3 : gFI (hp S J T) 11 167 3 = some (S 167 3) := hp_gFI (fs := [(0, 167, 0), (1, 168, 0), (0, 167, 2), (0, 167, 3), (0, 167, 4), (0, 167, 5), (0, 167, 6), (0, 167, 7), (0, 167, 8), (0, 167, 9), (0, 167, 10), (0, 167, 11), (1, 169, 0), (0, 167, 13), (0, 167, 14), (1, 170, 0), (1, 171, 0), (1, 172, 0), (1, 173, 0), (1, 174, 0), (1, 175, 0), (1, 176, 0), (1, 177, 0), (0, 167, 23), (0, 167, 24), (0, 167, 25), (0, 167, 26), (1, 178, 0), (1, 179, 0), (0, 167, 29), (0, 167, 30), (0, 167, 31), (0, 167, 32), (0, 167, 33), (0, 167, 34), (0, 167, 35), (1, 180, 0), (0, 167, 37), (0, 167, 38), (0, 167, 39), (0, 167, 40), (2, 167, 41), (2, 167, 42), (2, 167, 43)]) rfl rfl
theorem mo_p3 : pWV (hp S J T) 11 167 3 (.int x) = some (hp (stS S 167 3 x) J T) := hp_pWI (fs := [(0, 167, 0), (1, 168, 0), (0, 167, 2), (0, 167, 3), (0, 167, 4), (0, 167, 5), (0, 167, 6), (0, 167, 7), (0, 167, 8), (0, 167, 9), (0, 167, 10), (0, 167, 11), (1, 169, 0), (0, 167, 13), (0, 167, 14), (1, 170, 0), (1, 171, 0), (1, 172, 0), (1, 173, 0), (1, 174, 0), (1, 175, 0), (1, 176, 0), (1, 177, 0), (0, 167, 23), (0, 167, 24), (0, 167, 25), (0, 167, 26), (1, 178, 0), (1, 179, 0), (0, 167, 29), (0, 167, 30), (0, 167, 31), (0, 167, 32), (0, 167, 33), (0, 167, 34), (0, 167, 35), (1, 180, 0), (0, 167, 37), (0, 167, 38), (0, 167, 39), (0, 167, 40), (2, 167, 41), (2, 167, 42), (2, 167, 43)]) rfl rfl rfl rfl
theorem mo_g4 : gFI (hp S J T) 11 167 4 = some (S 167 4) := hp_gFI (fs := [(0, 167, 0), (1, 168, 0), (0, 167, 2), (0, 167, 3), (0, 167, 4), (0, 167, 5), (0, 167, 6), (0, 167, 7), (0, 167, 8), (0, 167, 9), (0, 167, 10), (0, 167, 11), (1, 169, 0), (0, 167, 13), (0, 167, 14), (1, 170, 0), (1, 171, 0), (1, 172, 0), (1, 173, 0), (1, 174, 0), (1, 175, 0), (1, 176, 0), (1, 177, 0), (0, 167, 23), (0, 167, 24), (0, 167, 25), (0, 167, 26), (1, 178, 0), (1, 179, 0), (0, 167, 29), (0, 167, 30), (0, 167, 31), (0, 167, 32), (0, 167, 33), (0, 167, 34), (0, 167, 35), (1, 180, 0), (0, 167, 37), (0, 167, 38), (0, 167, 39), (0, 167, 40), (2, 167, 41), (2, 167, 42), (2, 167, 43)]) rfl rfl
theorem mo_p4 : pWV (hp S J T) 11 167 4 (.int x) = some (hp (stS S 167 4 x) J T) := hp_pWI (fs := [(0, 167, 0), (1, 168, 0), (0, 167, 2), (0, 167, 3), (0, 167, 4), (0, 167, 5), (0, 167, 6), (0, 167, 7), (0, 167, 8), (0, 167, 9), (0, 167, 10), (0, 167, 11), (1, 169, 0), (0, 167, 13), (0, 167, 14), (1, 170, 0), (1, 171, 0), (1, 172, 0), (1, 173, 0), (1, 174, 0), (1, 175, 0), (1, 176, 0), (1, 177, 0), (0, 167, 23), (0, 167, 24), (0, 167, 25), (0, 167, 26), (1, 178, 0), (1, 179, 0), (0, 167, 29), (0, 167, 30), (0, 167, 31), (0, 167, 32), (0, 167, 33), (0, 167, 34), (0, 167, 35), (1, 180, 0), (0, 167, 37), (0, 167, 38), (0, 167, 39), (0, 167, 40), (2, 167, 41), (2, 167, 42), (2, 167, 43)]) rfl rfl rfl rfl
theorem mo_g5 : gFI (hp S J T) 11 167 5 = some (S 167 5) := hp_gFI (fs := [(0, 167, 0), (1, 168, 0), (0, 167, 2), (0, 167, 3), (0, 167, 4), (0, 167, 5), (0, 167, 6), (0, 167, 7), (0, 167, 8), (0, 167, 9), (0, 167, 10), (0, 167, 11), (1, 169, 0), (0, 167, 13), (0, 167, 14), (1, 170, 0), (1, 171, 0), (1, 172, 0), (1, 173, 0), (1, 174, 0), (1, 175, 0), (1, 176, 0), (1, 177, 0), (0, 167, 23), (0, 167, 24), (0, 167, 25), (0, 167, 26), (1, 178, 0), (1, 179, 0), (0, 167, 29), (0, 167, 30), (0, 167, 31), (0, 167, 32), (0, 167, 33), (0, 167, 34), (0, 167, 35), (1, 180, 0), (0, 167, 37), (0, 167, 38), (0, 167, 39), (0, 167, 40), (2, 167, 41), (2, 167, 42), (2, 167, 43)]) rfl rfl
theorem mo_p5 : pWV (hp S J T) 11 167 5 (.int x) = some (hp (stS S 167 5 x) J T) := hp_pWI (fs := [(0, 167, 0), (1, 168, 0), (0, 167, 2), (0, 167, 3), (0, 167, 4), (0, 167, 5), (0, 167, 6), (0, 167, 7), (0, 167, 8), (0, 167, 9), (0, 167, 10), (0, 167, 11), (1, 169, 0), (0, 167, 13), (0, 167, 14), (1, 170, 0), (1, 171, 0), (1, 172, 0), (1, 173, 0), (1, 174, 0), (1, 175, 0), (1, 176, 0), (1, 177, 0), (0, 167, 23), (0, 167, 24), (0, 167, 25), (0, 167, 26), (1, 178, 0), (1, 179, 0), (0, 167, 29), (0, 167, 30), (0, 167, 31), (0, 167, 32), (0, 167, 33), (0, 167, 34), (0, 167, 35), (1, 180, 0), (0, 167, 37), (0, 167, 38), (0, 167, 39), (0, 167, 40), (2, 167, 41), (2, 167, 42), (2, 167, 43)]) rfl rfl rfl rfl
theorem mo_g6 : gFI (hp S J T) 11 167 6 = some (S 167 6) := hp_gFI (fs := [(0, 167, 0), (1, 168, 0), (0, 167, 2), (0, 167, 3), (0, 167, 4), (0, 167, 5), (0, 167, 6), (0, 167, 7), (0, 167, 8), (0, 167, 9), (0, 167, 10), (0, 167, 11), (1, 169, 0), (0, 167, 13), (0, 167, 14), (1, 170, 0), (1, 171, 0), (1, 172, 0), (1, 173, 0), (1, 174, 0), (1, 175, 0), (1, 176, 0), (1, 177, 0), (0, 167, 23), (0, 167, 24), (0, 167, 25), (0, 167, 26), (1, 178, 0), (1, 179, 0), (0, 167, 29), (0, 167, 30), (0, 167, 31), (0, 167, 32), (0, 167, 33), (0, 167, 34), (0, 167, 35), (1, 180, 0), (0, 167, 37), (0, 167, 38), (0, 167, 39), (0, 167, 40), (2, 167, 41), (2, 167, 42), (2, 167, 43)]) rfl rfl
theorem mo_p6 : pWV (hp S J T) 11 167 6 (.int x) = some (hp (stS S 167 6 x) J T) := hp_pWI (fs := [(0, 167, 0), (1, 168, 0), (0, 167, 2), (0, 167, 3), (0, 167, 4), (0, 167, 5), (0, 167, 6), (0, 167, 7), (0, 167, 8), (0, 167, 9), (0, 167, 10), (0, 167, 11), (1, 169, 0), (0, 167, 13), (0, 167, 14), (1, 170, 0), (1, 171, 0), (1, 172, 0), (1, 173, 0), (1, 174, 0), (1, 175, 0), (1, 176, 0), (1, 177, 0), (0, 167, 23), (0, 167, 24), (0, 167, 25), (0, 167, 26), (1, 178, 0), (1, 179, 0), (0, 167, 29), (0, 167, 30), (0, 167, 31), (0, 167, 32), (0, 167, 33), (0, 167, 34), (0, 167, 35), (1, 180, 0), (0, 167, 37), (0, 167, 38), (0, 167, 39), (0, 167, 40), (2, 167, 41), (2, 167, 42), (2, 167, 43)]) rfl rfl rfl rfl
theorem mo_g7 : gFI (hp S J T) 11 167 7 = some (S 167 7) := hp_gFI (fs := [(0, 167, 0), (1, 168, 0), (0, 167, 2), (0, 167, 3), (0, 167, 4), (0, 167, 5), (0, 167, 6), (0, 167, 7), (0, 167, 8), (0, 167, 9), (0, 167, 10), (0, 167, 11), (1, 169, 0), (0, 167, 13), (0, 167, 14), (1, 170, 0), (1, 171, 0), (1, 172, 0), (1, 173, 0), (1, 174, 0), (1, 175, 0), (1, 176, 0), (1, 177, 0), (0, 167, 23), (0, 167, 24), (0, 167, 25), (0, 167, 26), (1, 178, 0), (1, 179, 0), (0, 167, 29), (0, 167, 30), (0, 167, 31), (0, 167, 32), (0, 167, 33), (0, 167, 34), (0, 167, 35), (1, 180, 0), (0, 167, 37), (0, 167, 38), (0, 167, 39), (0, 167, 40), (2, 167, 41), (2, 167, 42), (2, 167, 43)]) rfl rfl
theorem mo_p7 : pWV (hp S J T) 11 167 7 (.int x) = some (hp (stS S 167 7 x) J T) := hp_pWI (fs := [(0, 167, 0), (1, 168, 0), (0, 167, 2), (0, 167, 3), (0, 167, 4), (0, 167, 5), (0, 167, 6), (0, 167, 7), (0, 167, 8), (0, 167, 9), (0, 167, 10), (0, 167, 11), (1, 169, 0), (0, 167, 13), (0, 167, 14), (1, 170, 0), (1, 171, 0), (1, 172, 0), (1, 173, 0), (1, 174, 0), (1, 175, 0), (1, 176, 0), (1, 177, 0), (0, 167, 23), (0, 167, 24), (0, 167, 25), (0, 167, 26), (1, 178, 0), (1, 179, 0), (0, 167, 29), (0, 167, 30), (0, 167, 31), (0, 167, 32), (0, 167, 33), (0, 167, 34), (0, 167, 35), (1, 180, 0), (0, 167, 37), (0, 167, 38), (0, 167, 39), (0, 167, 40), (2, 167, 41), (2, 167, 42), (2, 167, 43)]) rfl rfl rfl rfl
theorem mo_g8 : gFI (hp S J T) 11 167 8 = some (S 167 8) := hp_gFI (fs := [(0, 167, 0), (1, 168, 0), (0, 167, 2), (0, 167, 3), (0, 167, 4), (0, 167, 5), (0, 167, 6), (0, 167, 7), (0, 167, 8), (0, 167, 9), (0, 167, 10), (0, 167, 11), (1, 169, 0), (0, 167, 13), (0, 167, 14), (1, 170, 0), (1, 171, 0), (1, 172, 0), (1, 173, 0), (1, 174, 0), (1, 175, 0), (1, 176, 0), (1, 177, 0), (0, 167, 23), (0, 167, 24), (0, 167, 25), (0, 167, 26), (1, 178, 0), (1, 179, 0), (0, 167, 29), (0, 167, 30), (0, 167, 31), (0, 167, 32), (0, 167, 33), (0, 167, 34), (0, 167, 35), (1, 180, 0), (0, 167, 37), (0, 167, 38), (0, 167, 39), (0, 167, 40), (2, 167, 41), (2, 167, 42), (2, 167, 43)]) rfl rfl
theorem mo_p8 : pWV (hp S J T) 11 167 8 (.int x) = some (hp (stS S 167 8 x) J T) := hp_pWI (fs := [(0, 167, 0), (1, 168, 0), (0, 167, 2), (0, 167, 3), (0, 167, 4), (0, 167, 5), (0, 167, 6), (0, 167, 7), (0, 167, 8), (0, 167, 9), (0, 167, 10), (0, 167, 11), (1, 169, 0), (0, 167, 13), (0, 167, 14), (1, 170, 0), (1, 171, 0), (1, 172, 0), (1, 173, 0), (1, 174, 0), (1, 175, 0), (1, 176, 0), (1, 177, 0), (0, 167, 23), (0, 167, 24), (0, 167, 25), (0, 167, 26), (1, 178, 0), (1, 179, 0), (0, 167, 29), (0, 167, 30), (0, 167, 31), (0, 167, 32), (0, 167, 33), (0, 167, 34), (0, 167, 35), (1, 180, 0), (0, 167, 37), (0, 167, 38), (0, 167, 39), (0, 167, 40), (2, 167, 41), (2, 167, 42), (2, 167, 43)]) rfl rfl rfl rfl
theorem mo_g9 : gFI (hp S J T) 11 167 9 = some (S 167 9) := hp_gFI (fs := [(0, 167, 0), (1, 168, 0), (0, 167, 2), (0, 167, 3), (0, 167, 4), (0, 167, 5), (0, 167, 6), (0, 167, 7), (0, 167, 8), (0, 167, 9), (0, 167, 10), (0, 167, 11), (1, 169, 0), (0, 167, 13), (0, 167, 14), (1, 170, 0), (1, 171, 0), (1, 172, 0), (1, 173, 0), (1, 174, 0), (1, 175, 0), (1, 176, 0), (1, 177, 0), (0, 167, 23), (0, 167, 24), (0, 167, 25), (0, 167, 26), (1, 178, 0), (1, 179, 0), (0, 167, 29), (0, 167, 30), (0, 167, 31), (0, 167, 32), (0, 167, 33), (0, 167, 34), (0, 167, 35), (1, 180, 0), (0, 167, 37), (0, 167, 38), (0, 167, 39), (0, 167, 40), (2, 167, 41), (2, 167, 42), (2, 167, 43)]) rfl rfl
theorem mo_p9 : pWV (hp S J T) 11 167 9 (.int x) = some (hp (stS S 167 9 x) J T) := hp_pWI (fs := [(0, 167, 0), (1, 168, 0), (0, 167, 2), (0, 167, 3), (0, 167, 4), (0, 167, 5), (0, 167, 6), (0, 167, 7), (0, 167, 8), (0, 167, 9), (0, 167, 10), (0, 167, 11), (1, 169, 0), (0, 167, 13), (0, 167, 14), (1, 170, 0), (1, 171, 0), (1, 172, 0), (1, 173, 0), (1, 174, 0), (1, 175, 0), (1, 176, 0), (1, 177, 0), (0, 167, 23), (0, 167, 24), (0, 167, 25), (0, 167, 26), (1, 178, 0), (1, 179, 0), (0, 167, 29), (0, 167, 30), (0, 167, 31), (0, 167, 32), (0, 167, 33), (0, 167, 34), (0, 167, 35), (1, 180, 0), (0, 167, 37), (0, 167, 38), (0, 167, 39), (0, 167, 40), (2, 167, 41), (2, 167, 42), (2, 167, 43)]) rfl rfl rfl rfl
theorem mo_g10 : gFI (hp S J T) 11 167 10 = some (S 167 10) := hp_gFI (fs := [(0, 167, 0), (1, 168, 0), (0, 167, 2), (0, 167, 3), (0, 167, 4), (0, 167, 5), (0, 167, 6), (0, 167, 7), (0, 167, 8), (0, 167, 9), (0, 167, 10), (0, 167, 11), (1, 169, 0), (0, 167, 13), (0, 167, 14), (1, 170, 0), (1, 171, 0), (1, 172, 0), (1, 173, 0), (1, 174, 0), (1, 175, 0), (1, 176, 0), (1, 177, 0), (0, 167, 23), (0, 167, 24), (0, 167, 25), (0, 167, 26), (1, 178, 0), (1, 179, 0), (0, 167, 29), (0, 167, 30), (0, 167, 31), (0, 167, 32), (0, 167, 33), (0, 167, 34), (0, 167, 35), (1, 180, 0), (0, 167, 37), (0, 167, 38), (0, 167, 39), (0, 167, 40), (2, 167, 41), (2, 167, 42), (2, 167, 43)]) rfl rfl
theorem mo_p10 : pWV (hp S J T) 11 167 10 (.int x) = some (hp (stS S 167 10 x) J T) := hp_pWI (fs := [(0, 167, 0), (1, 168, 0), (0, 167, 2), (0, 167, 3), (0, 167, 4), (0, 167, 5), (0, 167, 6), (0, 167, 7), (0, 167, 8), (0, 167, 9), (0, 167, 10), (0, 167, 11), (1, 169, 0), (0, 167, 13), (0, 167, 14), (1, 170, 0), (1, 171, 0), (1, 172, 0), (1, 173, 0), (1, 174, 0), (1, 175, 0), (1, 176, 0), (1, 177, 0), (0, 167, 23), (0, 167, 24), (0, 167, 25), (0, 167, 26), (1, 178, 0), (1, 179, 0), (0, 167, 29), (0, 167, 30), (0, 167, 31), (0, 167, 32), (0, 167, 33), (0, 167, 34), (0, 167, 35), (1, 180, 0), (0, 167, 37), (0, 167, 38), (0, 167, 39), (0, 167, 40), (2, 167, 41), (2, 167, 42), (2, 167, 43)]) rfl rfl rfl rfl
theorem mo_g11 : gFI (hp S J T) 11 167 11 = some (S 167 11) := hp_gFI (fs := [(0, 167, 0), (1, 168, 0), (0, 167, 2), (0, 167, 3), (0, 167, 4), (0, 167, 5), (0, 167, 6), (0, 167, 7), (0, 167, 8), (0, 167, 9), (0, 167, 10), (0, 167, 11), (1, 169, 0), (0, 167, 13), (0, 167, 14), (1, 170, 0), (1, 171, 0), (1, 172, 0), (1, 173, 0), (1, 174, 0), (1, 175, 0), (1, 176, 0), (1, 177, 0), (0, 167, 23), (0, 167, 24), (0, 167, 25), (0, 167, 26), (1, 178, 0), (1, 179, 0), (0, 167, 29), (0, 167, 30), (0, 167, 31), (0, 167, 32), (0, 167, 33), (0, 167, 34), (0, 167, 35), (1, 180, 0), (0, 167, 37), (0, 167, 38), (0, 167, 39), (0, 167, 40), (2, 167, 41), (2, 167, 42), (2, 167, 43)]) rfl rfl
theorem mo_p11 : pWV (hp S J T) 11 167 11 (.int x) = some (hp (stS S 167 11 x) J T) := hp_pWI (fs := [(0, 167, 0), (1, 168, 0), (0, 167, 2), (0, 167, 3), (0, 167, 4), (0, 167, 5), (0, 167, 6), (0, 167, 7), (0, 167, 8), (0, 167, 9), (0, 167, 10), (0, 167, 11), (1, 169, 0), (0, 167, 13), (0, 167, 14), (1, 170, 0), (1, 171, 0), (1, 172, 0), (1, 173, 0), (1, 174, 0), (1, 175, 0), (1, 176, 0), (1, 177, 0), (0, 167, 23), (0, 167, 24), (0, 167, 25), (0, 167, 26), (1, 178, 0), (1, 179, 0), (0, 167, 29), (0, 167, 30), (0, 167, 31), (0, 167, 32), (0, 167, 33), (0, 167, 34), (0, 167, 35), (1, 180, 0), (0, 167, 37), (0, 167, 38), (0, 167, 39), (0, 167, 40), (2, 167, 41), (2, 167, 42), (2, 167, 43)]) rfl rfl rfl rfl
theorem mo_f12 : gFR (hp S J T) 11 167 12 = some 169 := hp_gFR (fs := [(0, 167, 0), (1, 168, 0), (0, 167, 2), (0, 167, 3), (0, 167, 4), (0, 167, 5), (0, 167, 6), (0, 167, 7), (0, 167, 8), (0, 167, 9), (0, 167, 10), (0, 167, 11), (1, 169, 0), (0, 167, 13), (0, 167, 14), (1, 170, 0), (1, 171, 0), (1, 172, 0), (1, 173, 0), (1, 174, 0), (1, 175, 0), (1, 176, 0), (1, 177, 0), (0, 167, 23), (0, 167, 24), (0, 167, 25), (0, 167, 26), (1, 178, 0), (1, 179, 0), (0, 167, 29), (0, 167, 30), (0, 167, 31), (0, 167, 32), (0, 167, 33), (0, 167, 34), (0, 167, 35), (1, 180, 0), (0, 167, 37), (0, 167, 38), (0, 167, 39), (0, 167, 40), (2, 167, 41), (2, 167, 42), (2, 167, 43)]) rfl rfl
theorem mo_r12 (hi : i < 8) : aRI ((hp S J T)[169]?) (nI i) = some (S 169 i) := hp_aRI (b := 169) (o := 0) (m := 1) (n := 8) rfl hi (by omega) (by omega)
theorem mo_w12 (hi : i < 8) : aWI (hp S J T) 169 (nI i) x = some (hp (stS S 169 i x) J T) := hp_aWI (b := 169) (o := 0) (m := 1) (n := 8) rfl (by omega) hi (by omega) (by omega)
theorem mo_l12 : aLn ((hp S J T)[169]?) = some (nI 8) := hp_aLn (t := 0) (b := 169) (o := 0) (m := 1) (n := 8) rfl (by omega)
theorem mo_g13 : gFI (hp S J T) 11 167 13 = some (S 167 13) := hp_gFI (fs := [(0, 167, 0), (1, 168, 0), (0, 167, 2), (0, 167, 3), (0, 167, 4), (0, 167, 5), (0, 167, 6), (0, 167, 7), (0, 167, 8), (0, 167, 9), (0, 167, 10), (0, 167, 11), (1, 169, 0), (0, 167, 13), (0, 167, 14), (1, 170, 0), (1, 171, 0), (1, 172, 0), (1, 173, 0), (1, 174, 0), (1, 175, 0), (1, 176, 0), (1, 177, 0), (0, 167, 23), (0, 167, 24), (0, 167, 25), (0, 167, 26), (1, 178, 0), (1, 179, 0), (0, 167, 29), (0, 167, 30), (0, 167, 31), (0, 167, 32), (0, 167, 33), (0, 167, 34), (0, 167, 35), (1, 180, 0), (0, 167, 37), (0, 167, 38), (0, 167, 39), (0, 167, 40), (2, 167, 41), (2, 167, 42), (2, 167, 43)]) rfl rfl
theorem mo_p13 (hx : x = 0 ∨ x = 1) : pWV (hp S J T) 11 167 13 (.int x) = some (hp (stS S 167 13 x) J T) := hp_pWI (fs := [(0, 167, 0), (1, 168, 0), (0, 167, 2), (0, 167, 3), (0, 167, 4), (0, 167, 5), (0, 167, 6), (0, 167, 7), (0, 167, 8), (0, 167, 9), (0, 167, 10), (0, 167, 11), (1, 169, 0), (0, 167, 13), (0, 167, 14), (1, 170, 0), (1, 171, 0), (1, 172, 0), (1, 173, 0), (1, 174, 0), (1, 175, 0), (1, 176, 0), (1, 177, 0), (0, 167, 23), (0, 167, 24), (0, 167, 25), (0, 167, 26), (1, 178, 0), (1, 179, 0), (0, 167, 29), (0, 167, 30), (0, 167, 31), (0, 167, 32), (0, 167, 33), (0, 167, 34), (0, 167, 35), (1, 180, 0), (0, 167, 37), (0, 167, 38), (0, 167, 39), (0, 167, 40), (2, 167, 41), (2, 167, 42), (2, 167, 43)]) rfl rfl rfl (decide_eq_true hx)
theorem mo_g14 : gFI (hp S J T) 11 167 14 = some (S 167 14) := hp_gFI (fs := [(0, 167, 0), (1, 168, 0), (0, 167, 2), (0, 167, 3), (0, 167, 4), (0, 167, 5), (0, 167, 6), (0, 167, 7), (0, 167, 8), (0, 167, 9), (0, 167, 10), (0, 167, 11), (1, 169, 0), (0, 167, 13), (0, 167, 14), (1, 170, 0), (1, 171, 0), (1, 172, 0), (1, 173, 0), (1, 174, 0), (1, 175, 0), (1, 176, 0), (1, 177, 0), (0, 167, 23), (0, 167, 24), (0, 167, 25), (0, 167, 26), (1, 178, 0), (1, 179, 0), (0, 167, 29), (0, 167, 30), (0, 167, 31), (0, 167, 32), (0, 167, 33), (0, 167, 34), (0, 167, 35), (1, 180, 0), (0, 167, 37), (0, 167, 38), (0, 167, 39), (0, 167, 40), (2, 167, 41), (2, 167, 42), (2, 167, 43)]) rfl rfl
theorem mo_p14 (hx : x = 0 ∨ x = 1) : pWV (hp S J T) 11 167 14 (.int x) = some (hp (stS S 167 14 x) J T) := hp_pWI (fs := [(0, 167, 0), (1, 168, 0), (0, 167, 2), (0, 167, 3), (0, 167, 4), (0, 167, 5), (0, 167, 6), (0, 167, 7), (0, 167, 8), (0, 167, 9), (0, 167, 10), (0, 167, 11), (1, 169, 0), (0, 167, 13), (0, 167, 14), (1, 170, 0), (1, 171, 0), (1, 172, 0), (1, 173, 0), (1, 174, 0), (1, 175, 0), (1, 176, 0), (1, 177, 0), (0, 167, 23), (0, 167, 24), (0, 167, 25), (0, 167, 26), (1, 178, 0), (1, 179, 0), (0, 167, 29), (0, 167, 30), (0, 167, 31), (0, 167, 32), (0, 167, 33), (0, 167, 34), (0, 167, 35), (1, 180, 0), (0, 167, 37), (0, 167, 38), (0, 167, 39), (0, 167, 40), (2, 167, 41), (2, 167, 42), (2, 167, 43)]) rfl rfl rfl (decide_eq_true hx)
theorem mo_f15 : gFR (hp S J T) 11 167 15 = some 170 := hp_gFR (fs := [(0, 167, 0), (1, 168, 0), (0, 167, 2), (0, 167, 3), (0, 167, 4), (0, 167, 5), (0, 167, 6), (0, 167, 7), (0, 167, 8), (0, 167, 9), (0, 167, 10), (0, 167, 11), (1, 169, 0), (0, 167, 13), (0, 167, 14), (1, 170, 0), (1, 171, 0), (1, 172, 0), (1, 173, 0), (1, 174, 0), (1, 175, 0), (1, 176, 0), (1, 177, 0), (0, 167, 23), (0, 167, 24), (0, 167, 25), (0, 167, 26), (1, 178, 0), (1, 179, 0), (0, 167, 29), (0, 167, 30), (0, 167, 31), (0, 167, 32), (0, 167, 33), (0, 167, 34), (0, 167, 35), (1, 180, 0), (0, 167, 37), (0, 167, 38), (0, 167, 39), (0, 167, 40), (2, 167, 41), (2, 167, 42), (2, 167, 43)]) rfl rfl
theorem mo_r15 (hi : i < 188) : aRI ((hp S J T)[170]?) (nI i) = some (S 170 i) := hp_aRI (b := 170) (o := 0) (m := 1) (n := 188) rfl hi (by omega) (by omega)
theorem mo_w15 (hi : i < 188) : aWI (hp S J T) 170 (nI i) x = some (hp (stS S 170 i x) J T) := hp_aWI (b := 170) (o := 0) (m := 1) (n := 188) rfl (by omega) hi (by omega) (by omega)
theorem mo_l15 : aLn ((hp S J T)[170]?) = some (nI 188) := hp_aLn (t := 0) (b := 170) (o := 0) (m := 1) (n := 188) rfl (by omega)
theorem mo_f16 : gFR (hp S J T) 11 167 16 = some 171 := hp_gFR (fs := [(0, 167, 0), (1, 168, 0), (0, 167, 2), (0, 167, 3), (0, 167, 4), (0, 167, 5), (0, 167, 6), (0, 167, 7), (0, 167, 8), (0, 167, 9), (0, 167, 10), (0, 167, 11), (1, 169, 0), (0, 167, 13), (0, 167, 14), (1, 170, 0), (1, 171, 0), (1, 172, 0), (1, 173, 0), (1, 174, 0), (1, 175, 0), (1, 176, 0), (1, 177, 0), (0, 167, 23), (0, 167, 24), (0, 167, 25), (0, 167, 26), (1, 178, 0), (1, 179, 0), (0, 167, 29), (0, 167, 30), (0, 167, 31), (0, 167, 32), (0, 167, 33), (0, 167, 34), (0, 167, 35), (1, 180, 0), (0, 167, 37), (0, 167, 38), (0, 167, 39), (0, 167, 40), (2, 167, 41), (2, 167, 42), (2, 167, 43)]) rfl rfl
theorem mo_r16 (hi : i < 188) : aRI ((hp S J T)[171]?) (nI i) = some (S 171 i) := hp_aRI (b := 171) (o := 0) (m := 1) (n := 188) rfl hi (by omega) (by omega)
theorem mo_w16 (hi : i < 188) : aWI (hp S J T) 171 (nI i) x = some (hp (stS S 171 i x) J T) := hp_aWI (b := 171) (o := 0) (m := 1) (n := 188) rfl (by omega) hi (by omega) (by omega)
theorem mo_l16 : aLn ((hp S J T)[171]?) = some (nI 188) := hp_aLn (t := 0) (b := 171) (o := 0) (m := 1) (n := 188) rfl (by omega)
theorem mo_f17 : gFR (hp S J T) 11 167 17 = some 172 := hp_gFR (fs := [(0, 167, 0), (1, 168, 0), (0, 167, 2), (0, 167, 3), (0, 167, 4), (0, 167, 5), (0, 167, 6), (0, 167, 7), (0, 167, 8), (0, 167, 9), (0, 167, 10), (0, 167, 11), (1, 169, 0), (0, 167, 13), (0, 167, 14), (1, 170, 0), (1, 171, 0), (1, 172, 0), (1, 173, 0), (1, 174, 0), (1, 175, 0), (1, 176, 0), (1, 177, 0), (0, 167, 23), (0, 167, 24), (0, 167, 25), (0, 167, 26), (1, 178, 0), (1, 179, 0), (0, 167, 29), (0, 167, 30), (0, 167, 31), (0, 167, 32), (0, 167, 33), (0, 167, 34), (0, 167, 35), (1, 180, 0), (0, 167, 37), (0, 167, 38), (0, 167, 39), (0, 167, 40), (2, 167, 41), (2, 167, 42), (2, 167, 43)]) rfl rfl
theorem mo_r17 (hi : i < 22) : aRI ((hp S J T)[172]?) (nI i) = some (S 172 i) := hp_aRI (b := 172) (o := 0) (m := 1) (n := 22) rfl hi (by omega) (by omega)
theorem mo_w17 (hi : i < 22) : aWI (hp S J T) 172 (nI i) x = some (hp (stS S 172 i x) J T) := hp_aWI (b := 172) (o := 0) (m := 1) (n := 22) rfl (by omega) hi (by omega) (by omega)
theorem mo_l17 : aLn ((hp S J T)[172]?) = some (nI 22) := hp_aLn (t := 0) (b := 172) (o := 0) (m := 1) (n := 22) rfl (by omega)
theorem mo_f18 : gFR (hp S J T) 11 167 18 = some 173 := hp_gFR (fs := [(0, 167, 0), (1, 168, 0), (0, 167, 2), (0, 167, 3), (0, 167, 4), (0, 167, 5), (0, 167, 6), (0, 167, 7), (0, 167, 8), (0, 167, 9), (0, 167, 10), (0, 167, 11), (1, 169, 0), (0, 167, 13), (0, 167, 14), (1, 170, 0), (1, 171, 0), (1, 172, 0), (1, 173, 0), (1, 174, 0), (1, 175, 0), (1, 176, 0), (1, 177, 0), (0, 167, 23), (0, 167, 24), (0, 167, 25), (0, 167, 26), (1, 178, 0), (1, 179, 0), (0, 167, 29), (0, 167, 30), (0, 167, 31), (0, 167, 32), (0, 167, 33), (0, 167, 34), (0, 167, 35), (1, 180, 0), (0, 167, 37), (0, 167, 38), (0, 167, 39), (0, 167, 40), (2, 167, 41), (2, 167, 42), (2, 167, 43)]) rfl rfl
theorem mo_r18 (hi : i < 22) : aRI ((hp S J T)[173]?) (nI i) = some (S 173 i) := hp_aRI (b := 173) (o := 0) (m := 1) (n := 22) rfl hi (by omega) (by omega)
theorem mo_w18 (hi : i < 22) : aWI (hp S J T) 173 (nI i) x = some (hp (stS S 173 i x) J T) := hp_aWI (b := 173) (o := 0) (m := 1) (n := 22) rfl (by omega) hi (by omega) (by omega)
theorem mo_l18 : aLn ((hp S J T)[173]?) = some (nI 22) := hp_aLn (t := 0) (b := 173) (o := 0) (m := 1) (n := 22) rfl (by omega)
theorem mo_f19 : gFR (hp S J T) 11 167 19 = some 174 := hp_gFR (fs := [(0, 167, 0), (1, 168, 0), (0, 167, 2), (0, 167, 3), (0, 167, 4), (0, 167, 5), (0, 167, 6), (0, 167, 7), (0, 167, 8), (0, 167, 9), (0, 167, 10), (0, 167, 11), (1, 169, 0), (0, 167, 13), (0, 167, 14), (1, 170, 0), (1, 171, 0), (1, 172, 0), (1, 173, 0), (1, 174, 0), (1, 175, 0), (1, 176, 0), (1, 177, 0), (0, 167, 23), (0, 167, 24), (0, 167, 25), (0, 167, 26), (1, 178, 0), (1, 179, 0), (0, 167, 29), (0, 167, 30), (0, 167, 31), (0, 167, 32), (0, 167, 33), (0, 167, 34), (0, 167, 35), (1, 180, 0), (0, 167, 37), (0, 167, 38), (0, 167, 39), (0, 167, 40), (2, 167, 41), (2, 167, 42), (2, 167, 43)]) rfl rfl
theorem mo_r19 (hi : i < 22) : aRI ((hp S J T)[174]?) (nI i) = some (S 174 i) := hp_aRI (b := 174) (o := 0) (m := 1) (n := 22) rfl hi (by omega) (by omega)
theorem mo_w19 (hi : i < 22) : aWI (hp S J T) 174 (nI i) x = some (hp (stS S 174 i x) J T) := hp_aWI (b := 174) (o := 0) (m := 1) (n := 22) rfl (by omega) hi (by omega) (by omega)
theorem mo_l19 : aLn ((hp S J T)[174]?) = some (nI 22) := hp_aLn (t := 0) (b := 174) (o := 0) (m := 1) (n := 22) rfl (by omega)
theorem mo_f20 : gFR (hp S J T) 11 167 20 = some 175 := hp_gFR (fs := [(0, 167, 0), (1, 168, 0), (0, 167, 2), (0, 167, 3), (0, 167, 4), (0, 167, 5), (0, 167, 6), (0, 167, 7), (0, 167, 8), (0, 167, 9), (0, 167, 10), (0, 167, 11), (1, 169, 0), (0, 167, 13), (0, 167, 14), (1, 170, 0), (1, 171, 0), (1, 172, 0), (1, 173, 0), (1, 174, 0), (1, 175, 0), (1, 176, 0), (1, 177, 0), (0, 167, 23), (0, 167, 24), (0, 167, 25), (0, 167, 26), (1, 178, 0), (1, 179, 0), (0, 167, 29), (0, 167, 30), (0, 167, 31), (0, 167, 32), (0, 167, 33), (0, 167, 34), (0, 167, 35), (1, 180, 0), (0, 167, 37), (0, 167, 38), (0, 167, 39), (0, 167, 40), (2, 167, 41), (2, 167, 42), (2, 167, 43)]) rfl rfl
theorem mo_r20 (hi : i < 22) : aRI ((hp S J T)[175]?) (nI i) = some (S 175 i) := hp_aRI (b := 175) (o := 0) (m := 1) (n := 22) rfl hi (by omega) (by omega)
theorem mo_w20 (hi : i < 22) : aWI (hp S J T) 175 (nI i) x = some (hp (stS S 175 i x) J T) := hp_aWI (b := 175) (o := 0) (m := 1) (n := 22) rfl (by omega) hi (by omega) (by omega)
theorem mo_l20 : aLn ((hp S J T)[175]?) = some (nI 22) := hp_aLn (t := 0) (b := 175) (o := 0) (m := 1) (n := 22) rfl (by omega)
theorem mo_f21 : gFR (hp S J T) 11 167 21 = some 176 := hp_gFR (fs := [(0, 167, 0), (1, 168, 0), (0, 167, 2), (0, 167, 3), (0, 167, 4), (0, 167, 5), (0, 167, 6), (0, 167, 7), (0, 167, 8), (0, 167, 9), (0, 167, 10), (0, 167, 11), (1, 169, 0), (0, 167, 13), (0, 167, 14), (1, 170, 0), (1, 171, 0), (1, 172, 0), (1, 173, 0), (1, 174, 0), (1, 175, 0), (1, 176, 0), (1, 177, 0), (0, 167, 23), (0, 167, 24), (0, 167, 25), (0, 167, 26), (1, 178, 0), (1, 179, 0), (0, 167, 29), (0, 167, 30), (0, 167, 31), (0, 167, 32), (0, 167, 33), (0, 167, 34), (0, 167, 35), (1, 180, 0), (0, 167, 37), (0, 167, 38), (0, 167, 39), (0, 167, 40), (2, 167, 41), (2, 167, 42), (2, 167, 43)]) rfl rfl
theorem mo_r21 (hi : i < 352) : aRI ((hp S J T)[176]?) (nI i) = some (S 176 i) := hp_aRI (b := 176) (o := 0) (m := 1) (n := 352) rfl hi (by omega) (by omega)
theorem mo_w21 (hi : i < 352) : aWI (hp S J T) 176 (nI i) x = some (hp (stS S 176 i x) J T) := hp_aWI (b := 176) (o := 0) (m := 1) (n := 352) rfl (by omega) hi (by omega) (by omega)
theorem mo_l21 : aLn ((hp S J T)[176]?) = some (nI 352) := hp_aLn (t := 0) (b := 176) (o := 0) (m := 1) (n := 352) rfl (by omega)
theorem mo_f22 : gFR (hp S J T) 11 167 22 = some 177 := hp_gFR (fs := [(0, 167, 0), (1, 168, 0), (0, 167, 2), (0, 167, 3), (0, 167, 4), (0, 167, 5), (0, 167, 6), (0, 167, 7), (0, 167, 8), (0, 167, 9), (0, 167, 10), (0, 167, 11), (1, 169, 0), (0, 167, 13), (0, 167, 14), (1, 170, 0), (1, 171, 0), (1, 172, 0), (1, 173, 0), (1, 174, 0), (1, 175, 0), (1, 176, 0), (1, 177, 0), (0, 167, 23), (0, 167, 24), (0, 167, 25), (0, 167, 26), (1, 178, 0), (1, 179, 0), (0, 167, 29), (0, 167, 30), (0, 167, 31), (0, 167, 32), (0, 167, 33), (0, 167, 34), (0, 167, 35), (1, 180, 0), (0, 167, 37), (0, 167, 38), (0, 167, 39), (0, 167, 40), (2, 167, 41), (2, 167, 42), (2, 167, 43)]) rfl rfl
theorem mo_r22 (hi : i < 66) : aRI ((hp S J T)[177]?) (nI i) = some (S 177 i) := hp_aRI (b := 177) (o := 0) (m := 1) (n := 66) rfl hi (by omega) (by omega)
theorem mo_w22 (hi : i < 66) : aWI (hp S J T) 177 (nI i) x = some (hp (stS S 177 i x) J T) := hp_aWI (b := 177) (o := 0) (m := 1) (n := 66) rfl (by omega) hi (by omega) (by omega)
theorem mo_l22 : aLn ((hp S J T)[177]?) = some (nI 66) := hp_aLn (t := 0) (b := 177) (o := 0) (m := 1) (n := 66) rfl (by omega)
theorem mo_g23 : gFI (hp S J T) 11 167 23 = some (S 167 23) := hp_gFI (fs := [(0, 167, 0), (1, 168, 0), (0, 167, 2), (0, 167, 3), (0, 167, 4), (0, 167, 5), (0, 167, 6), (0, 167, 7), (0, 167, 8), (0, 167, 9), (0, 167, 10), (0, 167, 11), (1, 169, 0), (0, 167, 13), (0, 167, 14), (1, 170, 0), (1, 171, 0), (1, 172, 0), (1, 173, 0), (1, 174, 0), (1, 175, 0), (1, 176, 0), (1, 177, 0), (0, 167, 23), (0, 167, 24), (0, 167, 25), (0, 167, 26), (1, 178, 0), (1, 179, 0), (0, 167, 29), (0, 167, 30), (0, 167, 31), (0, 167, 32), (0, 167, 33), (0, 167, 34), (0, 167, 35), (1, 180, 0), (0, 167, 37), (0, 167, 38), (0, 167, 39), (0, 167, 40), (2, 167, 41), (2, 167, 42), (2, 167, 43)]) rfl rfl
theorem mo_p23 : pWV (hp S J T) 11 167 23 (.int x) = some (hp (stS S 167 23 x) J T) := hp_pWI (fs := [(0, 167, 0), (1, 168, 0), (0, 167, 2), (0, 167, 3), (0, 167, 4), (0, 167, 5), (0, 167, 6), (0, 167, 7), (0, 167, 8), (0, 167, 9), (0, 167, 10), (0, 167, 11), (1, 169, 0), (0, 167, 13), (0, 167, 14), (1, 170, 0), (1, 171, 0), (1, 172, 0), (1, 173, 0), (1, 174, 0), (1, 175, 0), (1, 176, 0), (1, 177, 0), (0, 167, 23), (0, 167, 24), (0, 167, 25), (0, 167, 26), (1, 178, 0), (1, 179, 0), (0, 167, 29), (0, 167, 30), (0, 167, 31), (0, 167, 32), (0, 167, 33), (0, 167, 34), (0, 167, 35), (1, 180, 0), (0, 167, 37), (0, 167, 38), (0, 167, 39), (0, 167, 40), (2, 167, 41), (2, 167, 42), (2, 167, 43)]) rfl rfl rfl rfl
theorem mo_g24 : gFI (hp S J T) 11 167 24 = some (S 167 24) := hp_gFI (fs := [(0, 167, 0), (1, 168, 0), (0, 167, 2), (0, 167, 3), (0, 167, 4), (0, 167, 5), (0, 167, 6), (0, 167, 7), (0, 167, 8), (0, 167, 9), (0, 167, 10), (0, 167, 11), (1, 169, 0), (0, 167, 13), (0, 167, 14), (1, 170, 0), (1, 171, 0), (1, 172, 0), (1, 173, 0), (1, 174, 0), (1, 175, 0), (1, 176, 0), (1, 177, 0), (0, 167, 23), (0, 167, 24), (0, 167, 25), (0, 167, 26), (1, 178, 0), (1, 179, 0), (0, 167, 29), (0, 167, 30), (0, 167, 31), (0, 167, 32), (0, 167, 33), (0, 167, 34), (0, 167, 35), (1, 180, 0), (0, 167, 37), (0, 167, 38), (0, 167, 39), (0, 167, 40), (2, 167, 41), (2, 167, 42), (2, 167, 43)]) rfl rfl
theorem mo_p24 : pWV (hp S J T) 11 167 24 (.int x) = some (hp (stS S 167 24 x) J T) := hp_pWI (fs := [(0, 167, 0), (1, 168, 0), (0, 167, 2), (0, 167, 3), (0, 167, 4), (0, 167, 5), (0, 167, 6), (0, 167, 7), (0, 167, 8), (0, 167, 9), (0, 167, 10), (0, 167, 11), (1, 169, 0), (0, 167, 13), (0, 167, 14), (1, 170, 0), (1, 171, 0), (1, 172, 0), (1, 173, 0), (1, 174, 0), (1, 175, 0), (1, 176, 0), (1, 177, 0), (0, 167, 23), (0, 167, 24), (0, 167, 25), (0, 167, 26), (1, 178, 0), (1, 179, 0), (0, 167, 29), (0, 167, 30), (0, 167, 31), (0, 167, 32), (0, 167, 33), (0, 167, 34), (0, 167, 35), (1, 180, 0), (0, 167, 37), (0, 167, 38), (0, 167, 39), (0, 167, 40), (2, 167, 41), (2, 167, 42), (2, 167, 43)]) rfl rfl rfl rfl
theorem mo_g25 : gFI (hp S J T) 11 167 25 = some (S 167 25) := hp_gFI (fs := [(0, 167, 0), (1, 168, 0), (0, 167, 2), (0, 167, 3), (0, 167, 4), (0, 167, 5), (0, 167, 6), (0, 167, 7), (0, 167, 8), (0, 167, 9), (0, 167, 10), (0, 167, 11), (1, 169, 0), (0, 167, 13), (0, 167, 14), (1, 170, 0), (1, 171, 0), (1, 172, 0), (1, 173, 0), (1, 174, 0), (1, 175, 0), (1, 176, 0), (1, 177, 0), (0, 167, 23), (0, 167, 24), (0, 167, 25), (0, 167, 26), (1, 178, 0), (1, 179, 0), (0, 167, 29), (0, 167, 30), (0, 167, 31), (0, 167, 32), (0, 167, 33), (0, 167, 34), (0, 167, 35), (1, 180, 0), (0, 167, 37), (0, 167, 38), (0, 167, 39), (0, 167, 40), (2, 167, 41), (2, 167, 42), (2, 167, 43)]) rfl rfl
theorem mo_p25 : pWV (hp S J T) 11 167 25 (.int x) = some (hp (stS S 167 25 x) J T) := hp_pWI (fs := [(0, 167, 0), (1, 168, 0), (0, 167, 2), (0, 167, 3), (0, 167, 4), (0, 167, 5), (0, 167, 6), (0, 167, 7), (0, 167, 8), (0, 167, 9), (0, 167, 10), (0, 167, 11), (1, 169, 0), (0, 167, 13), (0, 167, 14), (1, 170, 0), (1, 171, 0), (1, 172, 0), (1, 173, 0), (1, 174, 0), (1, 175, 0), (1, 176, 0), (1, 177, 0), (0, 167, 23), (0, 167, 24), (0, 167, 25), (0, 167, 26), (1, 178, 0), (1, 179, 0), (0, 167, 29), (0, 167, 30), (0, 167, 31), (0, 167, 32), (0, 167, 33), (0, 167, 34), (0, 167, 35), (1, 180, 0), (0, 167, 37), (0, 167, 38), (0, 167, 39), (0, 167, 40), (2, 167, 41), (2, 167, 42), (2, 167, 43)]) rfl rfl rfl rfl
theorem mo_g26 : gFI (hp S J T) 11 167 26 = some (S 167 26) := hp_gFI (fs := [(0, 167, 0), (1, 168, 0), (0, 167, 2), (0, 167, 3), (0, 167, 4), (0, 167, 5), (0, 167, 6), (0, 167, 7), (0, 167, 8), (0, 167, 9), (0, 167, 10), (0, 167, 11), (1, 169, 0), (0, 167, 13), (0, 167, 14), (1, 170, 0), (1, 171, 0), (1, 172, 0), (1, 173, 0), (1, 174, 0), (1, 175, 0), (1, 176, 0), (1, 177, 0), (0, 167, 23), (0, 167, 24), (0, 167, 25), (0, 167, 26), (1, 178, 0), (1, 179, 0), (0, 167, 29), (0, 167, 30), (0, 167, 31), (0, 167, 32), (0, 167, 33), (0, 167, 34), (0, 167, 35), (1, 180, 0), (0, 167, 37), (0, 167, 38), (0, 167, 39), (0, 167, 40), (2, 167, 41), (2, 167, 42), (2, 167, 43)]) rfl rfl
theorem mo_p26 : pWV (hp S J T) 11 167 26 (.int x) = some (hp (stS S 167 26 x) J T) := hp_pWI (fs := [(0, 167, 0), (1, 168, 0), (0, 167, 2), (0, 167, 3), (0, 167, 4), (0, 167, 5), (0, 167, 6), (0, 167, 7), (0, 167, 8), (0, 167, 9), (0, 167, 10), (0, 167, 11), (1, 169, 0), (0, 167, 13), (0, 167, 14), (1, 170, 0), (1, 171, 0), (1, 172, 0), (1, 173, 0), (1, 174, 0), (1, 175, 0), (1, 176, 0), (1, 177, 0), (0, 167, 23), (0, 167, 24), (0, 167, 25), (0, 167, 26), (1, 178, 0), (1, 179, 0), (0, 167, 29), (0, 167, 30), (0, 167, 31), (0, 167, 32), (0, 167, 33), (0, 167, 34), (0, 167, 35), (1, 180, 0), (0, 167, 37), (0, 167, 38), (0, 167, 39), (0, 167, 40), (2, 167, 41), (2, 167, 42), (2, 167, 43)]) rfl rfl rfl rfl
theorem mo_f27 : gFR (hp S J T) 11 167 27 = some 178 := hp_gFR (fs := [(0, 167, 0), (1, 168, 0), (0, 167, 2), (0, 167, 3), (0, 167, 4), (0, 167, 5), (0, 167, 6), (0, 167, 7), (0, 167, 8), (0, 167, 9), (0, 167, 10), (0, 167, 11), (1, 169, 0), (0, 167, 13), (0, 167, 14), (1, 170, 0), (1, 171, 0), (1, 172, 0), (1, 173, 0), (1, 174, 0), (1, 175, 0), (1, 176, 0), (1, 177, 0), (0, 167, 23), (0, 167, 24), (0, 167, 25), (0, 167, 26), (1, 178, 0), (1, 179, 0), (0, 167, 29), (0, 167, 30), (0, 167, 31), (0, 167, 32), (0, 167, 33), (0, 167, 34), (0, 167, 35), (1, 180, 0), (0, 167, 37), (0, 167, 38), (0, 167, 39), (0, 167, 40), (2, 167, 41), (2, 167, 42), (2, 167, 43)]) rfl rfl
theorem mo_r27 (hi : i < 5) : aRI ((hp S J T)[178]?) (nI i) = some (S 178 i) := hp_aRI (b := 178) (o := 0) (m := 1) (n := 5) rfl hi (by omega) (by omega)
theorem mo_w27 (hi : i < 5) : aWI (hp S J T) 178 (nI i) x = some (hp (stS S 178 i x) J T) := hp_aWI (b := 178) (o := 0) (m := 1) (n := 5) rfl (by omega) hi (by omega) (by omega)
theorem mo_l27 : aLn ((hp S J T)[178]?) = some (nI 5) := hp_aLn (t := 0) (b := 178) (o := 0) (m := 1) (n := 5) rfl (by omega)
theorem mo_f28 : gFR (hp S J T) 11 167 28 = some 179 := hp_gFR (fs := [(0, 167, 0), (1, 168, 0), (0, 167, 2), (0, 167, 3), (0, 167, 4), (0, 167, 5), (0, 167, 6), (0, 167, 7), (0, 167, 8), (0, 167, 9), (0, 167, 10), (0, 167, 11), (1, 169, 0), (0, 167, 13), (0, 167, 14), (1, 170, 0), (1, 171, 0), (1, 172, 0), (1, 173, 0), (1, 174, 0), (1, 175, 0), (1, 176, 0), (1, 177, 0), (0, 167, 23), (0, 167, 24), (0, 167, 25), (0, 167, 26), (1, 178, 0), (1, 179, 0), (0, 167, 29), (0, 167, 30), (0, 167, 31), (0, 167, 32), (0, 167, 33), (0, 167, 34), (0, 167, 35), (1, 180, 0), (0, 167, 37), (0, 167, 38), (0, 167, 39), (0, 167, 40), (2, 167, 41), (2, 167, 42), (2, 167, 43)]) rfl rfl
theorem mo_r28 (hi : i < 5) : aRI ((hp S J T)[179]?) (nI i) = some (S 179 i) := hp_aRI (b := 179) (o := 0) (m := 1) (n := 5) rfl hi (by omega) (by omega)
theorem mo_w28 (hi : i < 5) : aWI (hp S J T) 179 (nI i) x = some (hp (stS S 179 i x) J T) := hp_aWI (b := 179) (o := 0) (m := 1) (n := 5) rfl (by omega) hi (by omega) (by omega)
theorem mo_l28 : aLn ((hp S J T)[179]?) = some (nI 5) := hp_aLn (t := 0) (b := 179) (o := 0) (m := 1) (n := 5) rfl (by omega)
theorem mo_g29 : gFI (hp S J T) 11 167 29 = some (S 167 29) := hp_gFI (fs := [(0, 167, 0), (1, 168, 0), (0, 167, 2), (0, 167, 3), (0, 167, 4), (0, 167, 5), (0, 167, 6), (0, 167, 7), (0, 167, 8), (0, 167, 9), (0, 167, 10), (0, 167, 11), (1, 169, 0), (0, 167, 13), (0, 167, 14), (1, 170, 0), (1, 171, 0), (1, 172, 0), (1, 173, 0), (1, 174, 0), (1, 175, 0), (1, 176, 0), (1, 177, 0), (0, 167, 23), (0, 167, 24), (0, 167, 25), (0, 167, 26), (1, 178, 0), (1, 179, 0), (0, 167, 29), (0, 167, 30), (0, 167, 31), (0, 167, 32), (0, 167, 33), (0, 167, 34), (0, 167, 35), (1, 180, 0), (0, 167, 37), (0, 167, 38), (0, 167, 39), (0, 167, 40), (2, 167, 41), (2, 167, 42), (2, 167, 43)]) rfl rfl
theorem mo_p29 : pWV (hp S J T) 11 167 29 (.int x) = some (hp (stS S 167 29 x) J T) := hp_pWI (fs := [(0, 167, 0), (1, 168, 0), (0, 167, 2), (0, 167, 3), (0, 167, 4), (0, 167, 5), (0, 167, 6), (0, 167, 7), (0, 167, 8), (0, 167, 9), (0, 167, 10), (0, 167, 11), (1, 169, 0), (0, 167, 13), (0, 167, 14), (1, 170, 0), (1, 171, 0), (1, 172, 0), (1, 173, 0), (1, 174, 0), (1, 175, 0), (1, 176, 0), (1, 177, 0), (0, 167, 23), (0, 167, 24), (0, 167, 25), (0, 167, 26), (1, 178, 0), (1, 179, 0), (0, 167, 29), (0, 167, 30), (0, 167, 31), (0, 167, 32), (0, 167, 33), (0, 167, 34), (0, 167, 35), (1, 180, 0), (0, 167, 37), (0, 167, 38), (0, 167, 39), (0, 167, 40), (2, 167, 41), (2, 167, 42), (2, 167, 43)]) rfl rfl rfl rfl
theorem mo_g30 : gFI (hp S J T) 11 167 30 = some (S 167 30) := hp_gFI (fs := [(0, 167, 0), (1, 168, 0), (0, 167, 2), (0, 167, 3), (0, 167, 4), (0, 167, 5), (0, 167, 6), (0, 167, 7), (0, 167, 8), (0, 167, 9), (0, 167, 10), (0, 167, 11), (1, 169, 0), (0, 167, 13), (0, 167, 14), (1, 170, 0), (1, 171, 0), (1, 172, 0), (1, 173, 0), (1, 174, 0), (1, 175, 0), (1, 176, 0), (1, 177, 0), (0, 167, 23), (0, 167, 24), (0, 167, 25), (0, 167, 26), (1, 178, 0), (1, 179, 0), (0, 167, 29), (0, 167, 30), (0, 167, 31), (0, 167, 32), (0, 167, 33), (0, 167, 34), (0, 167, 35), (1, 180, 0), (0, 167, 37), (0, 167, 38), (0, 167, 39), (0, 167, 40), (2, 167, 41), (2, 167, 42), (2, 167, 43)]) rfl rfl
theorem mo_p30 : pWV (hp S J T) 11 167 30 (.int x) = some (hp (stS S 167 30 x) J T) := hp_pWI (fs := [(0, 167, 0), (1, 168, 0), (0, 167, 2), (0, 167, 3), (0, 167, 4), (0, 167, 5), (0, 167, 6), (0, 167, 7), (0, 167, 8), (0, 167, 9), (0, 167, 10), (0, 167, 11), (1, 169, 0), (0, 167, 13), (0, 167, 14), (1, 170, 0), (1, 171, 0), (1, 172, 0), (1, 173, 0), (1, 174, 0), (1, 175, 0), (1, 176, 0), (1, 177, 0), (0, 167, 23), (0, 167, 24), (0, 167, 25), (0, 167, 26), (1, 178, 0), (1, 179, 0), (0, 167, 29), (0, 167, 30), (0, 167, 31), (0, 167, 32), (0, 167, 33), (0, 167, 34), (0, 167, 35), (1, 180, 0), (0, 167, 37), (0, 167, 38), (0, 167, 39), (0, 167, 40), (2, 167, 41), (2, 167, 42), (2, 167, 43)]) rfl rfl rfl rfl
theorem mo_g31 : gFI (hp S J T) 11 167 31 = some (S 167 31) := hp_gFI (fs := [(0, 167, 0), (1, 168, 0), (0, 167, 2), (0, 167, 3), (0, 167, 4), (0, 167, 5), (0, 167, 6), (0, 167, 7), (0, 167, 8), (0, 167, 9), (0, 167, 10), (0, 167, 11), (1, 169, 0), (0, 167, 13), (0, 167, 14), (1, 170, 0), (1, 171, 0), (1, 172, 0), (1, 173, 0), (1, 174, 0), (1, 175, 0), (1, 176, 0), (1, 177, 0), (0, 167, 23), (0, 167, 24), (0, 167, 25), (0, 167, 26), (1, 178, 0), (1, 179, 0), (0, 167, 29), (0, 167, 30), (0, 167, 31), (0, 167, 32), (0, 167, 33), (0, 167, 34), (0, 167, 35), (1, 180, 0), (0, 167, 37), (0, 167, 38), (0, 167, 39), (0, 167, 40), (2, 167, 41), (2, 167, 42), (2, 167, 43)]) rfl rfl
theorem mo_p31 : pWV (hp S J T) 11 167 31 (.int x) = some (hp (stS S 167 31 x) J T) := hp_pWI (fs := [(0, 167, 0), (1, 168, 0), (0, 167, 2), (0, 167, 3), (0, 167, 4), (0, 167, 5), (0, 167, 6), (0, 167, 7), (0, 167, 8), (0, 167, 9), (0, 167, 10), (0, 167, 11), (1, 169, 0), (0, 167, 13), (0, 167, 14), (1, 170, 0), (1, 171, 0), (1, 172, 0), (1, 173, 0), (1, 174, 0), (1, 175, 0), (1, 176, 0), (1, 177, 0), (0, 167, 23), (0, 167, 24), (0, 167, 25), (0, 167, 26), (1, 178, 0), (1, 179, 0), (0, 167, 29), (0, 167, 30), (0, 167, 31), (0, 167, 32), (0, 167, 33), (0, 167, 34), (0, 167, 35), (1, 180, 0), (0, 167, 37), (0, 167, 38), (0, 167, 39), (0, 167, 40), (2, 167, 41), (2, 167, 42), (2, 167, 43)]) rfl rfl rfl rfl
theorem mo_g32 : gFI (hp S J T) 11 167 32 = some (S 167 32) := hp_gFI (fs := [(0, 167, 0), (1, 168, 0), (0, 167, 2), (0, 167, 3), (0, 167, 4), (0, 167, 5), (0, 167, 6), (0, 167, 7), (0, 167, 8), (0, 167, 9), (0, 167, 10), (0, 167, 11), (1, 169, 0), (0, 167, 13), (0, 167, 14), (1, 170, 0), (1, 171, 0), (1, 172, 0), (1, 173, 0), (1, 174, 0), (1, 175, 0), (1, 176, 0), (1, 177, 0), (0, 167, 23), (0, 167, 24), (0, 167, 25), (0, 167, 26), (1, 178, 0), (1, 179, 0), (0, 167, 29), (0, 167, 30), (0, 167, 31), (0, 167, 32), (0, 167, 33), (0, 167, 34), (0, 167, 35), (1, 180, 0), (0, 167, 37), (0, 167, 38), (0, 167, 39), (0, 167, 40), (2, 167, 41), (2, 167, 42), (2, 167, 43)]) rfl rfl
theorem mo_p32 : pWV (hp S J T) 11 167 32 (.int x) = some (hp (stS S 167 32 x) J T) := hp_pWI (fs := [(0, 167, 0), (1, 168, 0), (0, 167, 2), (0, 167, 3), (0, 167, 4), (0, 167, 5), (0, 167, 6), (0, 167, 7), (0, 167, 8), (0, 167, 9), (0, 167, 10), (0, 167, 11), (1, 169, 0), (0, 167, 13), (0, 167, 14), (1, 170, 0), (1, 171, 0), (1, 172, 0), (1, 173, 0), (1, 174, 0), (1, 175, 0), (1, 176, 0), (1, 177, 0), (0, 167, 23), (0, 167, 24), (0, 167, 25), (0, 167, 26), (1, 178, 0), (1, 179, 0), (0, 167, 29), (0, 167, 30), (0, 167, 31), (0, 167, 32), (0, 167, 33), (0, 167, 34), (0, 167, 35), (1, 180, 0), (0, 167, 37), (0, 167, 38), (0, 167, 39), (0, 167, 40), (2, 167, 41), (2, 167, 42), (2, 167, 43)]) rfl rfl rfl rfl
theorem mo_g33 : gFI (hp S J T) 11 167 33 = some (S 167 33) := hp_gFI (fs := [(0, 167, 0), (1, 168, 0), (0, 167, 2), (0, 167, 3), (0, 167, 4), (0, 167, 5), (0, 167, 6), (0, 167, 7), (0, 167, 8), (0, 167, 9), (0, 167, 10), (0, 167, 11), (1, 169, 0), (0, 167, 13), (0, 167, 14), (1, 170, 0), (1, 171, 0), (1, 172, 0), (1, 173, 0), (1, 174, 0), (1, 175, 0), (1, 176, 0), (1, 177, 0), (0, 167, 23), (0, 167, 24), (0, 167, 25), (0, 167, 26), (1, 178, 0), (1, 179, 0), (0, 167, 29), (0, 167, 30), (0, 167, 31), (0, 167, 32), (0, 167, 33), (0, 167, 34), (0, 167, 35), (1, 180, 0), (0, 167, 37), (0, 167, 38), (0, 167, 39), (0, 167, 40), (2, 167, 41), (2, 167, 42), (2, 167, 43)]) rfl rfl
theorem mo_p33 : pWV (hp S J T) 11 167 33 (.int x) = some (hp (stS S 167 33 x) J T) := hp_pWI (fs := [(0, 167, 0), (1, 168, 0), (0, 167, 2), (0, 167, 3), (0, 167, 4), (0, 167, 5), (0, 167, 6), (0, 167, 7), (0, 167, 8), (0, 167, 9), (0, 167, 10), (0, 167, 11), (1, 169, 0), (0, 167, 13), (0, 167, 14), (1, 170, 0), (1, 171, 0), (1, 172, 0), (1, 173, 0), (1, 174, 0), (1, 175, 0), (1, 176, 0), (1, 177, 0), (0, 167, 23), (0, 167, 24), (0, 167, 25), (0, 167, 26), (1, 178, 0), (1, 179, 0), (0, 167, 29), (0, 167, 30), (0, 167, 31), (0, 167, 32), (0, 167, 33), (0, 167, 34), (0, 167, 35), (1, 180, 0), (0, 167, 37), (0, 167, 38), (0, 167, 39), (0, 167, 40), (2, 167, 41), (2, 167, 42), (2, 167, 43)]) rfl rfl rfl rfl
theorem mo_g34 : gFI (hp S J T) 11 167 34 = some (S 167 34) := hp_gFI (fs := [(0, 167, 0), (1, 168, 0), (0, 167, 2), (0, 167, 3), (0, 167, 4), (0, 167, 5), (0, 167, 6), (0, 167, 7), (0, 167, 8), (0, 167, 9), (0, 167, 10), (0, 167, 11), (1, 169, 0), (0, 167, 13), (0, 167, 14), (1, 170, 0), (1, 171, 0), (1, 172, 0), (1, 173, 0), (1, 174, 0), (1, 175, 0), (1, 176, 0), (1, 177, 0), (0, 167, 23), (0, 167, 24), (0, 167, 25), (0, 167, 26), (1, 178, 0), (1, 179, 0), (0, 167, 29), (0, 167, 30), (0, 167, 31), (0, 167, 32), (0, 167, 33), (0, 167, 34), (0, 167, 35), (1, 180, 0), (0, 167, 37), (0, 167, 38), (0, 167, 39), (0, 167, 40), (2, 167, 41), (2, 167, 42), (2, 167, 43)]) rfl rfl
theorem mo_p34 : pWV (hp S J T) 11 167 34 (.int x) = some (hp (stS S 167 34 x) J T) := hp_pWI (fs := [(0, 167, 0), (1, 168, 0), (0, 167, 2), (0, 167, 3), (0, 167, 4), (0, 167, 5), (0, 167, 6), (0, 167, 7), (0, 167, 8), (0, 167, 9), (0, 167, 10), (0, 167, 11), (1, 169, 0), (0, 167, 13), (0, 167, 14), (1, 170, 0), (1, 171, 0), (1, 172, 0), (1, 173, 0), (1, 174, 0), (1, 175, 0), (1, 176, 0), (1, 177, 0), (0, 167, 23), (0, 167, 24), (0, 167, 25), (0, 167, 26), (1, 178, 0), (1, 179, 0), (0, 167, 29), (0, 167, 30), (0, 167, 31), (0, 167, 32), (0, 167, 33), (0, 167, 34), (0, 167, 35), (1, 180, 0), (0, 167, 37), (0, 167, 38), (0, 167, 39), (0, 167, 40), (2, 167, 41), (2, 167, 42), (2, 167, 43)]) rfl rfl rfl rfl
theorem mo_g35 : gFI (hp S J T) 11 167 35 = some (S 167 35) := hp_gFI (fs := [(0, 167, 0), (1, 168, 0), (0, 167, 2), (0, 167, 3), (0, 167, 4), (0, 167, 5), (0, 167, 6), (0, 167, 7), (0, 167, 8), (0, 167, 9), (0, 167, 10), (0, 167, 11), (1, 169, 0), (0, 167, 13), (0, 167, 14), (1, 170, 0), (1, 171, 0), (1, 172, 0), (1, 173, 0), (1, 174, 0), (1, 175, 0), (1, 176, 0), (1, 177, 0), (0, 167, 23), (0, 167, 24), (0, 167, 25), (0, 167, 26), (1, 178, 0), (1, 179, 0), (0, 167, 29), (0, 167, 30), (0, 167, 31), (0, 167, 32), (0, 167, 33), (0, 167, 34), (0, 167, 35), (1, 180, 0), (0, 167, 37), (0, 167, 38), (0, 167, 39), (0, 167, 40), (2, 167, 41), (2, 167, 42), (2, 167, 43)]) rfl rfl
theorem mo_p35 : pWV (hp S J T) 11 167 35 (.int x) = some (hp (stS S 167 35 x) J T) := hp_pWI (fs := [(0, 167, 0), (1, 168, 0), (0, 167, 2), (0, 167, 3), (0, 167, 4), (0, 167, 5), (0, 167, 6), (0, 167, 7), (0, 167, 8), (0, 167, 9), (0, 167, 10), (0, 167, 11), (1, 169, 0), (0, 167, 13), (0, 167, 14), (1, 170, 0), (1, 171, 0), (1, 172, 0), (1, 173, 0), (1, 174, 0), (1, 175, 0), (1, 176, 0), (1, 177, 0), (0, 167, 23), (0, 167, 24), (0, 167, 25), (0, 167, 26), (1, 178, 0), (1, 179, 0), (0, 167, 29), (0, 167, 30), (0, 167, 31), (0, 167, 32), (0, 167, 33), (0, 167, 34), (0, 167, 35), (1, 180, 0), (0, 167, 37), (0, 167, 38), (0, 167, 39), (0, 167, 40), (2, 167, 41), (2, 167, 42), (2, 167, 43)]) rfl rfl rfl rfl
theorem mo_f36 : gFR (hp S J T) 11 167 36 = some 180 := hp_gFR (fs := [(0, 167, 0), (1, 168, 0), (0, 167, 2), (0, 167, 3), (0, 167, 4), (0, 167, 5), (0, 167, 6), (0, 167, 7), (0, 167, 8), (0, 167, 9), (0, 167, 10), (0, 167, 11), (1, 169, 0), (0, 167, 13), (0, 167, 14), (1, 170, 0), (1, 171, 0), (1, 172, 0), (1, 173, 0), (1, 174, 0), (1, 175, 0), (1, 176, 0), (1, 177, 0), (0, 167, 23), (0, 167, 24), (0, 167, 25), (0, 167, 26), (1, 178, 0), (1, 179, 0), (0, 167, 29), (0, 167, 30), (0, 167, 31), (0, 167, 32), (0, 167, 33), (0, 167, 34), (0, 167, 35), (1, 180, 0), (0, 167, 37), (0, 167, 38), (0, 167, 39), (0, 167, 40), (2, 167, 41), (2, 167, 42), (2, 167, 43)]) rfl rfl
theorem mo_r36 (hi : i < 4) : aRI ((hp S J T)[180]?) (nI i) = some (S 180 i) := hp_aRI (b := 180) (o := 0) (m := 1) (n := 4) rfl hi (by omega) (by omega)
theorem mo_w36 (hi : i < 4) : aWI (hp S J T) 180 (nI i) x = some (hp (stS S 180 i x) J T) := hp_aWI (b := 180) (o := 0) (m := 1) (n := 4) rfl (by omega) hi (by omega) (by omega)
theorem mo_l36 : aLn ((hp S J T)[180]?) = some (nI 4) := hp_aLn (t := 0) (b := 180) (o := 0) (m := 1) (n := 4) rfl (by omega)
theorem mo_g37 : gFI (hp S J T) 11 167 37 = some (S 167 37) := hp_gFI (fs := [(0, 167, 0), (1, 168, 0), (0, 167, 2), (0, 167, 3), (0, 167, 4), (0, 167, 5), (0, 167, 6), (0, 167, 7), (0, 167, 8), (0, 167, 9), (0, 167, 10), (0, 167, 11), (1, 169, 0), (0, 167, 13), (0, 167, 14), (1, 170, 0), (1, 171, 0), (1, 172, 0), (1, 173, 0), (1, 174, 0), (1, 175, 0), (1, 176, 0), (1, 177, 0), (0, 167, 23), (0, 167, 24), (0, 167, 25), (0, 167, 26), (1, 178, 0), (1, 179, 0), (0, 167, 29), (0, 167, 30), (0, 167, 31), (0, 167, 32), (0, 167, 33), (0, 167, 34), (0, 167, 35), (1, 180, 0), (0, 167, 37), (0, 167, 38), (0, 167, 39), (0, 167, 40), (2, 167, 41), (2, 167, 42), (2, 167, 43)]) rfl rfl
theorem mo_p37 : pWV (hp S J T) 11 167 37 (.int x) = some (hp (stS S 167 37 x) J T) := hp_pWI (fs := [(0, 167, 0), (1, 168, 0), (0, 167, 2), (0, 167, 3), (0, 167, 4), (0, 167, 5), (0, 167, 6), (0, 167, 7), (0, 167, 8), (0, 167, 9), (0, 167, 10), (0, 167, 11), (1, 169, 0), (0, 167, 13), (0, 167, 14), (1, 170, 0), (1, 171, 0), (1, 172, 0), (1, 173, 0), (1, 174, 0), (1, 175, 0), (1, 176, 0), (1, 177, 0), (0, 167, 23), (0, 167, 24), (0, 167, 25), (0, 167, 26), (1, 178, 0), (1, 179, 0), (0, 167, 29), (0, 167, 30), (0, 167, 31), (0, 167, 32), (0, 167, 33), (0, 167, 34), (0, 167, 35), (1, 180, 0), (0, 167, 37), (0, 167, 38), (0, 167, 39), (0, 167, 40), (2, 167, 41), (2, 167, 42), (2, 167, 43)]) rfl rfl rfl rfl
theorem mo_g38 : gFI (hp S J T) 11 167 38 = some (S 167 38) := hp_gFI (fs := [(0, 167, 0), (1, 168, 0), (0, 167, 2), (0, 167, 3), (0, 167, 4), (0, 167, 5), (0, 167, 6), (0, 167, 7), (0, 167, 8), (0, 167, 9), (0, 167, 10), (0, 167, 11), (1, 169, 0), (0, 167, 13), (0, 167, 14), (1, 170, 0), (1, 171, 0), (1, 172, 0), (1, 173, 0), (1, 174, 0), (1, 175, 0), (1, 176, 0), (1, 177, 0), (0, 167, 23), (0, 167, 24), (0, 167, 25), (0, 167, 26), (1, 178, 0), (1, 179, 0), (0, 167, 29), (0, 167, 30), (0, 167, 31), (0, 167, 32), (0, 167, 33), (0, 167, 34), (0, 167, 35), (1, 180, 0), (0, 167, 37), (0, 167, 38), (0, 167, 39), (0, 167, 40), (2, 167, 41), (2, 167, 42), (2, 167, 43)]) rfl rfl
theorem mo_p38 : pWV (hp S J T) 11 167 38 (.int x) = some (hp (stS S 167 38 x) J T) := hp_pWI (fs := [(0, 167, 0), (1, 168, 0), (0, 167, 2), (0, 167, 3), (0, 167, 4), (0, 167, 5), (0, 167, 6), (0, 167, 7), (0, 167, 8), (0, 167, 9), (0, 167, 10), (0, 167, 11), (1, 169, 0), (0, 167, 13), (0, 167, 14), (1, 170, 0), (1, 171, 0), (1, 172, 0), (1, 173, 0), (1, 174, 0), (1, 175, 0), (1, 176, 0), (1, 177, 0), (0, 167, 23), (0, 167, 24), (0, 167, 25), (0, 167, 26), (1, 178, 0), (1, 179, 0), (0, 167, 29), (0, 167, 30), (0, 167, 31), (0, 167, 32), (0, 167, 33), (0, 167, 34), (0, 167, 35), (1, 180, 0), (0, 167, 37), (0, 167, 38), (0, 167, 39), (0, 167, 40), (2, 167, 41), (2, 167, 42), (2, 167, 43)]) rfl rfl rfl rfl
theorem mo_g39 : gFI (hp S J T) 11 167 39 = some (S 167 39) := hp_gFI (fs := [(0, 167, 0), (1, 168, 0), (0, 167, 2), (0, 167, 3), (0, 167, 4), (0, 167, 5), (0, 167, 6), (0, 167, 7), (0, 167, 8), (0, 167, 9), (0, 167, 10), (0, 167, 11), (1, 169, 0), (0, 167, 13), (0, 167, 14), (1, 170, 0), (1, 171, 0), (1, 172, 0), (1, 173, 0), (1, 174, 0), (1, 175, 0), (1, 176, 0), (1, 177, 0), (0, 167, 23), (0, 167, 24), (0, 167, 25), (0, 167, 26), (1, 178, 0), (1, 179, 0), (0, 167, 29), (0, 167, 30), (0, 167, 31), (0, 167, 32), (0, 167, 33), (0, 167, 34), (0, 167, 35), (1, 180, 0), (0, 167, 37), (0, 167, 38), (0, 167, 39), (0, 167, 40), (2, 167, 41), (2, 167, 42), (2, 167, 43)]) rfl rfl
theorem mo_p39 : pWV (hp S J T) 11 167 39 (.int x) = some (hp (stS S 167 39 x) J T) := hp_pWI (fs := [(0, 167, 0), (1, 168, 0), (0, 167, 2), (0, 167, 3), (0, 167, 4), (0, 167, 5), (0, 167, 6), (0, 167, 7), (0, 167, 8), (0, 167, 9), (0, 167, 10), (0, 167, 11), (1, 169, 0), (0, 167, 13), (0, 167, 14), (1, 170, 0), (1, 171, 0), (1, 172, 0), (1, 173, 0), (1, 174, 0), (1, 175, 0), (1, 176, 0), (1, 177, 0), (0, 167, 23), (0, 167, 24), (0, 167, 25), (0, 167, 26), (1, 178, 0), (1, 179, 0), (0, 167, 29), (0, 167, 30), (0, 167, 31), (0, 167, 32), (0, 167, 33), (0, 167, 34), (0, 167, 35), (1, 180, 0), (0, 167, 37), (0, 167, 38), (0, 167, 39), (0, 167, 40), (2, 167, 41), (2, 167, 42), (2, 167, 43)]) rfl rfl rfl rfl
theorem mo_g40 : gFI (hp S J T) 11 167 40 = some (S 167 40) := hp_gFI (fs := [(0, 167, 0), (1, 168, 0), (0, 167, 2), (0, 167, 3), (0, 167, 4), (0, 167, 5), (0, 167, 6), (0, 167, 7), (0, 167, 8), (0, 167, 9), (0, 167, 10), (0, 167, 11), (1, 169, 0), (0, 167, 13), (0, 167, 14), (1, 170, 0), (1, 171, 0), (1, 172, 0), (1, 173, 0), (1, 174, 0), (1, 175, 0), (1, 176, 0), (1, 177, 0), (0, 167, 23), (0, 167, 24), (0, 167, 25), (0, 167, 26), (1, 178, 0), (1, 179, 0), (0, 167, 29), (0, 167, 30), (0, 167, 31), (0, 167, 32), (0, 167, 33), (0, 167, 34), (0, 167, 35), (1, 180, 0), (0, 167, 37), (0, 167, 38), (0, 167, 39), (0, 167, 40), (2, 167, 41), (2, 167, 42), (2, 167, 43)]) rfl rfl
theorem mo_p40 : pWV (hp S J T) 11 167 40 (.int x) = some (hp (stS S 167 40 x) J T) := hp_pWI (fs := [(0, 167, 0), (1, 168, 0), (0, 167, 2), (0, 167, 3), (0, 167, 4), (0, 167, 5), (0, 167, 6), (0, 167, 7), (0, 167, 8), (0, 167, 9), (0, 167, 10), (0, 167, 11), (1, 169, 0), (0, 167, 13), (0, 167, 14), (1, 170, 0), (1, 171, 0), (1, 172, 0), (1, 173, 0), (1, 174, 0), (1, 175, 0), (1, 176, 0), (1, 177, 0), (0, 167, 23), (0, 167, 24), (0, 167, 25), (0, 167, 26), (1, 178, 0), (1, 179, 0), (0, 167, 29), (0, 167, 30), (0, 167, 31), (0, 167, 32), (0, 167, 33), (0, 167, 34), (0, 167, 35), (1, 180, 0), (0, 167, 37), (0, 167, 38), (0, 167, 39), (0, 167, 40), (2, 167, 41), (2, 167, 42), (2, 167, 43)]) rfl rfl rfl rfl
theorem mo_g41 : gFJ (hp S J T) 11 167 41 = some (J 167 41) := hp_gFJ (fs := [(0, 167, 0), (1, 168, 0), (0, 167, 2), (0, 167, 3), (0, 167, 4), (0, 167, 5), (0, 167, 6), (0, 167, 7), (0, 167, 8), (0, 167, 9), (0, 167, 10), (0, 167, 11), (1, 169, 0), (0, 167, 13), (0, 167, 14), (1, 170, 0), (1, 171, 0), (1, 172, 0), (1, 173, 0), (1, 174, 0), (1, 175, 0), (1, 176, 0), (1, 177, 0), (0, 167, 23), (0, 167, 24), (0, 167, 25), (0, 167, 26), (1, 178, 0), (1, 179, 0), (0, 167, 29), (0, 167, 30), (0, 167, 31), (0, 167, 32), (0, 167, 33), (0, 167, 34), (0, 167, 35), (1, 180, 0), (0, 167, 37), (0, 167, 38), (0, 167, 39), (0, 167, 40), (2, 167, 41), (2, 167, 42), (2, 167, 43)]) rfl rfl
theorem mo_p41 : pWV (hp S J T) 11 167 41 (.long y) = some (hp S (stJ J 167 41 y) T) := hp_pWJ (fs := [(0, 167, 0), (1, 168, 0), (0, 167, 2), (0, 167, 3), (0, 167, 4), (0, 167, 5), (0, 167, 6), (0, 167, 7), (0, 167, 8), (0, 167, 9), (0, 167, 10), (0, 167, 11), (1, 169, 0), (0, 167, 13), (0, 167, 14), (1, 170, 0), (1, 171, 0), (1, 172, 0), (1, 173, 0), (1, 174, 0), (1, 175, 0), (1, 176, 0), (1, 177, 0), (0, 167, 23), (0, 167, 24), (0, 167, 25), (0, 167, 26), (1, 178, 0), (1, 179, 0), (0, 167, 29), (0, 167, 30), (0, 167, 31), (0, 167, 32), (0, 167, 33), (0, 167, 34), (0, 167, 35), (1, 180, 0), (0, 167, 37), (0, 167, 38), (0, 167, 39), (0, 167, 40), (2, 167, 41), (2, 167, 42), (2, 167, 43)]) rfl rfl rfl rfl
theorem mo_g42 : gFJ (hp S J T) 11 167 42 = some (J 167 42) := hp_gFJ (fs := [(0, 167, 0), (1, 168, 0), (0, 167, 2), (0, 167, 3), (0, 167, 4), (0, 167, 5), (0, 167, 6), (0, 167, 7), (0, 167, 8), (0, 167, 9), (0, 167, 10), (0, 167, 11), (1, 169, 0), (0, 167, 13), (0, 167, 14), (1, 170, 0), (1, 171, 0), (1, 172, 0), (1, 173, 0), (1, 174, 0), (1, 175, 0), (1, 176, 0), (1, 177, 0), (0, 167, 23), (0, 167, 24), (0, 167, 25), (0, 167, 26), (1, 178, 0), (1, 179, 0), (0, 167, 29), (0, 167, 30), (0, 167, 31), (0, 167, 32), (0, 167, 33), (0, 167, 34), (0, 167, 35), (1, 180, 0), (0, 167, 37), (0, 167, 38), (0, 167, 39), (0, 167, 40), (2, 167, 41), (2, 167, 42), (2, 167, 43)]) rfl rfl
theorem mo_p42 : pWV (hp S J T) 11 167 42 (.long y) = some (hp S (stJ J 167 42 y) T) := hp_pWJ (fs := [(0, 167, 0), (1, 168, 0), (0, 167, 2), (0, 167, 3), (0, 167, 4), (0, 167, 5), (0, 167, 6), (0, 167, 7), (0, 167, 8), (0, 167, 9), (0, 167, 10), (0, 167, 11), (1, 169, 0), (0, 167, 13), (0, 167, 14), (1, 170, 0), (1, 171, 0), (1, 172, 0), (1, 173, 0), (1, 174, 0), (1, 175, 0), (1, 176, 0), (1, 177, 0), (0, 167, 23), (0, 167, 24), (0, 167, 25), (0, 167, 26), (1, 178, 0), (1, 179, 0), (0, 167, 29), (0, 167, 30), (0, 167, 31), (0, 167, 32), (0, 167, 33), (0, 167, 34), (0, 167, 35), (1, 180, 0), (0, 167, 37), (0, 167, 38), (0, 167, 39), (0, 167, 40), (2, 167, 41), (2, 167, 42), (2, 167, 43)]) rfl rfl rfl rfl
theorem mo_g43 : gFJ (hp S J T) 11 167 43 = some (J 167 43) := hp_gFJ (fs := [(0, 167, 0), (1, 168, 0), (0, 167, 2), (0, 167, 3), (0, 167, 4), (0, 167, 5), (0, 167, 6), (0, 167, 7), (0, 167, 8), (0, 167, 9), (0, 167, 10), (0, 167, 11), (1, 169, 0), (0, 167, 13), (0, 167, 14), (1, 170, 0), (1, 171, 0), (1, 172, 0), (1, 173, 0), (1, 174, 0), (1, 175, 0), (1, 176, 0), (1, 177, 0), (0, 167, 23), (0, 167, 24), (0, 167, 25), (0, 167, 26), (1, 178, 0), (1, 179, 0), (0, 167, 29), (0, 167, 30), (0, 167, 31), (0, 167, 32), (0, 167, 33), (0, 167, 34), (0, 167, 35), (1, 180, 0), (0, 167, 37), (0, 167, 38), (0, 167, 39), (0, 167, 40), (2, 167, 41), (2, 167, 42), (2, 167, 43)]) rfl rfl
theorem mo_p43 : pWV (hp S J T) 11 167 43 (.long y) = some (hp S (stJ J 167 43 y) T) := hp_pWJ (fs := [(0, 167, 0), (1, 168, 0), (0, 167, 2), (0, 167, 3), (0, 167, 4), (0, 167, 5), (0, 167, 6), (0, 167, 7), (0, 167, 8), (0, 167, 9), (0, 167, 10), (0, 167, 11), (1, 169, 0), (0, 167, 13), (0, 167, 14), (1, 170, 0), (1, 171, 0), (1, 172, 0), (1, 173, 0), (1, 174, 0), (1, 175, 0), (1, 176, 0), (1, 177, 0), (0, 167, 23), (0, 167, 24), (0, 167, 25), (0, 167, 26), (1, 178, 0), (1, 179, 0), (0, 167, 29), (0, 167, 30), (0, 167, 31), (0, 167, 32), (0, 167, 33), (0, 167, 34), (0, 167, 35), (1, 180, 0), (0, 167, 37), (0, 167, 38), (0, 167, 39), (0, 167, 40), (2, 167, 41), (2, 167, 42), (2, 167, 43)]) rfl rfl rfl rfl
theorem pl_c0 {b : Nat} (h : plA b) (h2 : plA a) : aCp (hp S J T) (b + 1) (nI 0) (a + 1) (nI 0) (nI 5) = some (hp (cpS S b 0 a 0 5) J T) := hp_aCp h.2.1 h2.2.1 (by omega)
theorem pl_c1 {b : Nat} (h : plA b) (h2 : plA a) : aCp (hp S J T) (b + 2) (nI 0) (a + 2) (nI 0) (nI 5) = some (hp (cpS S b 5 a 5 5) J T) := hp_aCp h.2.2.1 h2.2.2.1 (by omega)
theorem pl_c2 {b : Nat} (h : plA b) (h2 : plA a) : aCp (hp S J T) (b + 3) (nI 0) (a + 3) (nI 0) (nI 8) = some (hp (cpS S b 14 a 14 8) J T) := hp_aCp h.2.2.2 h2.2.2.2 (by omega)
theorem tl_c8 (h : tlA t) (h2 : plA a) : aCp (hp S J T) (t + 1) (nI 0) (a + 1) (nI 0) (nI 5) = some (hp (cpS S t 100 a 0 5) J T) := hp_aCp h.2.1 h2.2.1 (by omega)
theorem tl_c12 (h : tlA t) (h2 : plA a) : aCp (hp S J T) (t + 5) (nI 0) (a + 3) (nI 0) (nI 8) = some (hp (cpS S t 114 a 14 8) J T) := hp_aCp h.2.2.2.2.2.1 h2.2.2.2 (by omega)
theorem ou_r (hi : i < 1) : aRJ ((hp S J T)[181]?) (nI i) = some (J 181 i) := hp_aRJ (b := 181) (o := 0) (m := 1) (n := 1) rfl hi (by omega) (by omega)
theorem ou_w (hi : i < 1) : aWJ (hp S J T) 181 (nI i) y = some (hp S (stJ J 181 i y) T) := hp_aWJ (b := 181) (o := 0) (m := 1) (n := 1) rfl (by omega) hi (by omega) (by omega)
end ROWS
