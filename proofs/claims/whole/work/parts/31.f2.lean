noncomputable section
def wX8_isWord_24 : List En := [(.iconst 0, 0, 0, 0), (.ireturn, 0, 0, 0)]
def fX8_isWord_24 (h : aH) : Option (Int32 × aH) :=
  if (kI 0) = 0 ∨ (kI 0) = 1 then some ((kI 0), h) else none
theorem tX8_isWord_24 {d : Nat} {z : Int32 × aH} (h : aH) (hf : fX8_isWord_24 h = some z) : Ev (d + 4) none mX8_isWord (0, 0) 24 [.null, .null, .null] [] h (QZ z) := 
  go_ok (X := none) (blk := wX8_isWord_24) (np := 26) (tt := 0) (kN := fun _ _ _ => none) (kT := fun _ _ _ => none) (kR := kRZ)
    (fun _ _ _ q => nos q)
    (fun _ _ _ q => nos q)
    kRZ_ok (Or.inr rfl) (by decide +kernel) (by decide +kernel) hf
def wX8_isWord_63 : List En := [(.iconst 1, 0, 0, 0), (.ireturn, 0, 0, 0)]
def fX8_isWord_63 (h : aH) : Option (Int32 × aH) :=
  if (kI 1) = 0 ∨ (kI 1) = 1 then some ((kI 1), h) else none
theorem tX8_isWord_63 {d : Nat} {z : Int32 × aH} (h : aH) (hf : fX8_isWord_63 h = some z) : Ev (d + 4) none mX8_isWord (0, 0) 63 [.null, .null, .null] [] h (QZ z) := 
  go_ok (X := none) (blk := wX8_isWord_63) (np := 65) (tt := 0) (kN := fun _ _ _ => none) (kT := fun _ _ _ => none) (kR := kRZ)
    (fun _ _ _ q => nos q)
    (fun _ _ _ q => nos q)
    kRZ_ok (Or.inr rfl) (by decide +kernel) (by decide +kernel) hf
def wX8_isWord_57 : List En := [(.iinc 2 1, 0, 0, 0), (.goto (-32), 28, 0, 0)]
def fX8_isWord_57 (k28 : Nat → Nat → Int32 → aH → Option (Int32 × aH)) (v0 : Nat) (v1 : Nat) (v2 : Int32) (h : aH) : Option (Int32 × aH) :=
  k28 v0 v1 (v2 + kI 1) h
theorem tX8_isWord_57 {d : Nat} {z : Int32 × aH} {k28 : Nat → Nat → Int32 → aH → Option (Int32 × aH)} (hk28 : ∀ (v0 : Nat) (v1 : Nat) (v2 : Int32) (h : aH), k28 v0 v1 v2 h = some z → Ev (d + 4) none mX8_isWord (0, 0) 28 [.ref v0, .ref v1, .int v2] [] h (QZ z)) (v0 : Nat) (v1 : Nat) (v2 : Int32) (h : aH) (hf : fX8_isWord_57 k28 v0 v1 v2 h = some z) : Ev (d + 4) none mX8_isWord (0, 0) 57 [.ref v0, .ref v1, .int v2] [] h (QZ z) := 
  go_ok (X := none) (blk := wX8_isWord_57) (np := 63) (tt := 28) (kN := fun _ _ _ => none) (kT := fun xs h st => app [2, 2, 1] (fun v0 v1 v2 => apS [] (k28 v0 v1 v2 h) st) xs) (kR := kRZ)
    (fun _ _ _ q => nos q)
    (fun xs h st q => jm [2, 2, 1] _ (fun v0 v1 v2 q => apS_ok [] _ (fun st => Ev (d + 4) none mX8_isWord (0, 0) 28 [.ref v0, .ref v1, .int v2] st h (QZ z)) st (fun q => hk28 v0 v1 v2 h q) q) q)
    kRZ_ok (Or.inr rfl) (by decide +kernel) (by decide +kernel) hf
def wX8_isWord_55 : List En := [(.iconst 0, 0, 0, 0), (.ireturn, 0, 0, 0)]
def fX8_isWord_55 (h : aH) : Option (Int32 × aH) :=
  if (kI 0) = 0 ∨ (kI 0) = 1 then some ((kI 0), h) else none
theorem tX8_isWord_55 {d : Nat} {z : Int32 × aH} (h : aH) (hf : fX8_isWord_55 h = some z) : Ev (d + 4) none mX8_isWord (0, 0) 55 [.null, .null, .null] [] h (QZ z) := 
  go_ok (X := none) (blk := wX8_isWord_55) (np := 57) (tt := 0) (kN := fun _ _ _ => none) (kT := fun _ _ _ => none) (kR := kRZ)
    (fun _ _ _ q => nos q)
    (fun _ _ _ q => nos q)
    kRZ_ok (Or.inr rfl) (by decide +kernel) (by decide +kernel) hf
def wX8_isWord_52 : List En := [(.if_icmp .eq 5, 57, 0, 0)]
def fX8_isWord_52 (k28 : Nat → Nat → Int32 → aH → Option (Int32 × aH)) (v0 : Nat) (v1 : Nat) (v2 : Int32) (s0 : Int32) (s1 : Int32) (h : aH) : Option (Int32 × aH) :=
  if s1 = s0 then fX8_isWord_57 k28 v0 v1 v2 h else fX8_isWord_55 h
theorem tX8_isWord_52 {d : Nat} {z : Int32 × aH} {k28 : Nat → Nat → Int32 → aH → Option (Int32 × aH)} (hk28 : ∀ (v0 : Nat) (v1 : Nat) (v2 : Int32) (h : aH), k28 v0 v1 v2 h = some z → Ev (d + 4) none mX8_isWord (0, 0) 28 [.ref v0, .ref v1, .int v2] [] h (QZ z)) (v0 : Nat) (v1 : Nat) (v2 : Int32) (s0 : Int32) (s1 : Int32) (h : aH) (hf : fX8_isWord_52 k28 v0 v1 v2 s0 s1 h = some z) : Ev (d + 4) none mX8_isWord (0, 0) 52 [.ref v0, .ref v1, .int v2] [.int s0, .int s1] h (QZ z) := 
  go_ok (X := none) (blk := wX8_isWord_52) (np := 55) (tt := 57) (kN := fun xs h st => app [0, 0, 0] (apS [] (fX8_isWord_55 h) st) xs) (kT := fun xs h st => app [2, 2, 1] (fun v0 v1 v2 => apS [] (fX8_isWord_57 k28 v0 v1 v2 h) st) xs) (kR := kRZ)
    (fun xs h st q => jm [0, 0, 0] _ (fun q => apS_ok [] _ (fun st => Ev (d + 4) none mX8_isWord (0, 0) 55 [.null, .null, .null] st h (QZ z)) st (fun q => tX8_isWord_55 h q) q) q)
    (fun xs h st q => jm [2, 2, 1] _ (fun v0 v1 v2 q => apS_ok [] _ (fun st => Ev (d + 4) none mX8_isWord (0, 0) 57 [.ref v0, .ref v1, .int v2] st h (QZ z)) st (fun q => tX8_isWord_57 hk28 v0 v1 v2 h q) q) q)
    kRZ_ok (Or.inr rfl) (by decide +kernel) (by decide +kernel) hf
theorem kqX8_isWord_49 : okC mX8_isWord 49 (.invokevirtual 238) 28 20 0 1 = true := by decide +kernel
def fX8_isWord_49 (k28 : Nat → Nat → Int32 → aH → Option (Int32 × aH)) (v0 : Nat) (v1 : Nat) (v2 : Int32) (s0 : Int32) (s1 : Nat) (s2 : Int32) (h : aH) : Option (Int32 × aH) :=
  (gJ0_charAt_5068e s1 s0 h).bind fun r =>
  fX8_isWord_52 k28 v0 v1 v2 r.1 s2 r.2
theorem tX8_isWord_49 {d : Nat} {z : Int32 × aH} {k28 : Nat → Nat → Int32 → aH → Option (Int32 × aH)} (hk28 : ∀ (v0 : Nat) (v1 : Nat) (v2 : Int32) (h : aH), k28 v0 v1 v2 h = some z → Ev (d + 4) none mX8_isWord (0, 0) 28 [.ref v0, .ref v1, .int v2] [] h (QZ z)) (v0 : Nat) (v1 : Nat) (v2 : Int32) (s0 : Int32) (s1 : Nat) (s2 : Int32) (h : aH) (hf : fX8_isWord_49 k28 v0 v1 v2 s0 s1 s2 h = some z) : Ev (d + 4) none mX8_isWord (0, 0) 49 [.ref v0, .ref v1, .int v2] [.int s0, .ref s1, .int s2] h (QZ z) := by
  obtain ⟨r, h2, hf⟩ := bnd hf
  refine ev_VTc kqX8_isWord_49 jJ0_charAt_5068e (zJ0_charAt_5068e (d := d + 0) h2) rfl rfl (Nat.le_of_ble_eq_true rfl) (as := [.int s0]) (rest := [.int s2]) rfl rfl (Nat.le_of_ble_eq_true rfl) (fun _ _ hq => ?_)
  obtain ⟨rfl, rfl⟩ := hq
  exact jm [2, 2, 1] (fun v0 v1 v2 => fX8_isWord_52 k28 v0 v1 v2 r.1 s2 r.2) (fun v0 v1 v2 q => tX8_isWord_52 hk28 v0 v1 v2 r.1 s2 r.2 q) hf
def wX8_isWord_36 : List En := [(.aload_n 0, 0, 0, 0), (.getfield 9, 6, 8, 3), (.aload_n 0, 0, 0, 0), (.getfield 211, 13, 8, 10), (.iload_n 2, 0, 0, 0), (.iadd, 0, 0, 0), (.baload, 0, 0, 0), (.aload_n 1, 0, 0, 0), (.iload_n 2, 0, 0, 0)]
def fX8_isWord_36 (k28 : Nat → Nat → Int32 → aH → Option (Int32 × aH)) (v0 : Nat) (v1 : Nat) (v2 : Int32) (h : aH) : Option (Int32 × aH) :=
  (gFR h 8 v0 3).bind fun t1 =>
  (gFI h 8 v0 10).bind fun t2 =>
  (aRB (h[t1]?) (t2 + v2)).bind fun t3 =>
  fX8_isWord_49 k28 v0 v1 v2 v2 v1 t3 h
theorem tX8_isWord_36 {d : Nat} {z : Int32 × aH} {k28 : Nat → Nat → Int32 → aH → Option (Int32 × aH)} (hk28 : ∀ (v0 : Nat) (v1 : Nat) (v2 : Int32) (h : aH), k28 v0 v1 v2 h = some z → Ev (d + 4) none mX8_isWord (0, 0) 28 [.ref v0, .ref v1, .int v2] [] h (QZ z)) (v0 : Nat) (v1 : Nat) (v2 : Int32) (h : aH) (hf : fX8_isWord_36 k28 v0 v1 v2 h = some z) : Ev (d + 4) none mX8_isWord (0, 0) 36 [.ref v0, .ref v1, .int v2] [] h (QZ z) := 
  go_ok (X := none) (blk := wX8_isWord_36) (np := 49) (tt := 0) (kN := fun xs h st => app [2, 2, 1] (fun v0 v1 v2 => apS [1, 2, 1] (fun s0 s1 s2 => fX8_isWord_49 k28 v0 v1 v2 s0 s1 s2 h) st) xs) (kT := fun _ _ _ => none) (kR := kRZ)
    (fun xs h st q => jm [2, 2, 1] _ (fun v0 v1 v2 q => apS_ok [1, 2, 1] _ (fun st => Ev (d + 4) none mX8_isWord (0, 0) 49 [.ref v0, .ref v1, .int v2] st h (QZ z)) st (fun s0 s1 s2 q => tX8_isWord_49 hk28 v0 v1 v2 s0 s1 s2 h q) q) q)
    (fun _ _ _ q => nos q)
    kRZ_ok (Or.inr rfl) (by decide +kernel) (by decide +kernel) hf
def wX8_isWord_33 : List En := [(.if_icmp .ge 30, 63, 0, 0)]
def fX8_isWord_33 (k28 : Nat → Nat → Int32 → aH → Option (Int32 × aH)) (v0 : Nat) (v1 : Nat) (v2 : Int32) (s0 : Int32) (s1 : Int32) (h : aH) : Option (Int32 × aH) :=
  if s1 < s0 then fX8_isWord_36 k28 v0 v1 v2 h else fX8_isWord_63 h
theorem tX8_isWord_33 {d : Nat} {z : Int32 × aH} {k28 : Nat → Nat → Int32 → aH → Option (Int32 × aH)} (hk28 : ∀ (v0 : Nat) (v1 : Nat) (v2 : Int32) (h : aH), k28 v0 v1 v2 h = some z → Ev (d + 4) none mX8_isWord (0, 0) 28 [.ref v0, .ref v1, .int v2] [] h (QZ z)) (v0 : Nat) (v1 : Nat) (v2 : Int32) (s0 : Int32) (s1 : Int32) (h : aH) (hf : fX8_isWord_33 k28 v0 v1 v2 s0 s1 h = some z) : Ev (d + 4) none mX8_isWord (0, 0) 33 [.ref v0, .ref v1, .int v2] [.int s0, .int s1] h (QZ z) := 
  go_ok (X := none) (blk := wX8_isWord_33) (np := 36) (tt := 63) (kN := fun xs h st => app [2, 2, 1] (fun v0 v1 v2 => apS [] (fX8_isWord_36 k28 v0 v1 v2 h) st) xs) (kT := fun xs h st => app [0, 0, 0] (apS [] (fX8_isWord_63 h) st) xs) (kR := kRZ)
    (fun xs h st q => jm [2, 2, 1] _ (fun v0 v1 v2 q => apS_ok [] _ (fun st => Ev (d + 4) none mX8_isWord (0, 0) 36 [.ref v0, .ref v1, .int v2] st h (QZ z)) st (fun q => tX8_isWord_36 hk28 v0 v1 v2 h q) q) q)
    (fun xs h st q => jm [0, 0, 0] _ (fun q => apS_ok [] _ (fun st => Ev (d + 4) none mX8_isWord (0, 0) 63 [.null, .null, .null] st h (QZ z)) st (fun q => tX8_isWord_63 h q) q) q)
    kRZ_ok (Or.inr rfl) (by decide +kernel) (by decide +kernel) hf
theorem kqX8_isWord_30 : okC mX8_isWord 30 (.invokevirtual 233) 26 19 0 0 = true := by decide +kernel
def fX8_isWord_30 (k28 : Nat → Nat → Int32 → aH → Option (Int32 × aH)) (v0 : Nat) (v1 : Nat) (v2 : Int32) (s0 : Nat) (s1 : Int32) (h : aH) : Option (Int32 × aH) :=
  (gJ0_length_8abf5 s0 h).bind fun r =>
  fX8_isWord_33 k28 v0 v1 v2 r.1 s1 r.2
theorem tX8_isWord_30 {d : Nat} {z : Int32 × aH} {k28 : Nat → Nat → Int32 → aH → Option (Int32 × aH)} (hk28 : ∀ (v0 : Nat) (v1 : Nat) (v2 : Int32) (h : aH), k28 v0 v1 v2 h = some z → Ev (d + 4) none mX8_isWord (0, 0) 28 [.ref v0, .ref v1, .int v2] [] h (QZ z)) (v0 : Nat) (v1 : Nat) (v2 : Int32) (s0 : Nat) (s1 : Int32) (h : aH) (hf : fX8_isWord_30 k28 v0 v1 v2 s0 s1 h = some z) : Ev (d + 4) none mX8_isWord (0, 0) 30 [.ref v0, .ref v1, .int v2] [.ref s0, .int s1] h (QZ z) := by
  obtain ⟨r, h2, hf⟩ := bnd hf
  refine ev_VTc kqX8_isWord_30 jJ0_length_8abf5 (zJ0_length_8abf5 (d := d + 2) h2) rfl rfl (Nat.le_of_ble_eq_true rfl) (as := []) (rest := [.int s1]) rfl rfl (Nat.le_of_ble_eq_true rfl) (fun _ _ hq => ?_)
  obtain ⟨rfl, rfl⟩ := hq
  exact jm [2, 2, 1] (fun v0 v1 v2 => fX8_isWord_33 k28 v0 v1 v2 r.1 s1 r.2) (fun v0 v1 v2 q => tX8_isWord_33 hk28 v0 v1 v2 r.1 s1 r.2 q) hf
def wX8_isWord_28 : List En := [(.iload_n 2, 0, 0, 0), (.aload_n 1, 0, 0, 0)]
def fX8_isWord_28 (k28 : Nat → Nat → Int32 → aH → Option (Int32 × aH)) (v0 : Nat) (v1 : Nat) (v2 : Int32) (h : aH) : Option (Int32 × aH) :=
  fX8_isWord_30 k28 v0 v1 v2 v1 v2 h
theorem tX8_isWord_28 {d : Nat} {z : Int32 × aH} {k28 : Nat → Nat → Int32 → aH → Option (Int32 × aH)} (hk28 : ∀ (v0 : Nat) (v1 : Nat) (v2 : Int32) (h : aH), k28 v0 v1 v2 h = some z → Ev (d + 4) none mX8_isWord (0, 0) 28 [.ref v0, .ref v1, .int v2] [] h (QZ z)) (v0 : Nat) (v1 : Nat) (v2 : Int32) (h : aH) (hf : fX8_isWord_28 k28 v0 v1 v2 h = some z) : Ev (d + 4) none mX8_isWord (0, 0) 28 [.ref v0, .ref v1, .int v2] [] h (QZ z) := 
  go_ok (X := none) (blk := wX8_isWord_28) (np := 30) (tt := 0) (kN := fun xs h st => app [2, 2, 1] (fun v0 v1 v2 => apS [2, 1] (fun s0 s1 => fX8_isWord_30 k28 v0 v1 v2 s0 s1 h) st) xs) (kT := fun _ _ _ => none) (kR := kRZ)
    (fun xs h st q => jm [2, 2, 1] _ (fun v0 v1 v2 q => apS_ok [2, 1] _ (fun st => Ev (d + 4) none mX8_isWord (0, 0) 30 [.ref v0, .ref v1, .int v2] st h (QZ z)) st (fun s0 s1 q => tX8_isWord_30 hk28 v0 v1 v2 s0 s1 h q) q) q)
    (fun _ _ _ q => nos q)
    kRZ_ok (Or.inr rfl) (by decide +kernel) (by decide +kernel) hf
def lX8_isWord_28 : Nat → Nat → Nat → Int32 → aH → Option (Int32 × aH)
  | 0, _, _, _, _ => none
  | n + 1, v0, v1, v2, h => fX8_isWord_28 (lX8_isWord_28 n) v0 v1 v2 h
theorem uX8_isWord_28 {d : Nat} {z : Int32 × aH} : ∀ (n : Nat) (v0 : Nat) (v1 : Nat) (v2 : Int32) (h : aH), lX8_isWord_28 n v0 v1 v2 h = some z → Ev (d + 4) none mX8_isWord (0, 0) 28 [.ref v0, .ref v1, .int v2] [] h (QZ z) := by
  intro n
  induction n with
  | zero => intro _ _ _ _ q; exact nos (show (none : Option (Int32 × aH)) = some z from q)
  | succ n ih => intro v0 v1 v2 h q; exact tX8_isWord_28 ih v0 v1 v2 h q
def wX8_isWord_26 : List En := [(.iconst 0, 0, 0, 0), (.istore_n 2, 0, 0, 0)]
def fX8_isWord_26 (v0 : Nat) (v1 : Nat) (h : aH) : Option (Int32 × aH) :=
  lX8_isWord_28 FU v0 v1 (kI 0) h
theorem tX8_isWord_26 {d : Nat} {z : Int32 × aH} (v0 : Nat) (v1 : Nat) (h : aH) (hf : fX8_isWord_26 v0 v1 h = some z) : Ev (d + 4) none mX8_isWord (0, 0) 26 [.ref v0, .ref v1, .null] [] h (QZ z) := 
  go_ok (X := none) (blk := wX8_isWord_26) (np := 28) (tt := 0) (kN := fun xs h st => app [2, 2, 1] (fun v0 v1 v2 => apS [] (lX8_isWord_28 FU v0 v1 v2 h) st) xs) (kT := fun _ _ _ => none) (kR := kRZ)
    (fun xs h st q => jm [2, 2, 1] _ (fun v0 v1 v2 q => apS_ok [] _ (fun st => Ev (d + 4) none mX8_isWord (0, 0) 28 [.ref v0, .ref v1, .int v2] st h (QZ z)) st (fun q => uX8_isWord_28 FU v0 v1 v2 h q) q) q)
    (fun _ _ _ q => nos q)
    kRZ_ok (Or.inr rfl) (by decide +kernel) (by decide +kernel) hf
def wX8_isWord_21 : List En := [(.if_icmp .eq 5, 26, 0, 0)]
def fX8_isWord_21 (v0 : Nat) (v1 : Nat) (s0 : Int32) (s1 : Int32) (h : aH) : Option (Int32 × aH) :=
  if s1 = s0 then fX8_isWord_26 v0 v1 h else fX8_isWord_24 h
theorem tX8_isWord_21 {d : Nat} {z : Int32 × aH} (v0 : Nat) (v1 : Nat) (s0 : Int32) (s1 : Int32) (h : aH) (hf : fX8_isWord_21 v0 v1 s0 s1 h = some z) : Ev (d + 4) none mX8_isWord (0, 0) 21 [.ref v0, .ref v1, .null] [.int s0, .int s1] h (QZ z) := 
  go_ok (X := none) (blk := wX8_isWord_21) (np := 24) (tt := 26) (kN := fun xs h st => app [0, 0, 0] (apS [] (fX8_isWord_24 h) st) xs) (kT := fun xs h st => app [2, 2, 0] (fun v0 v1 => apS [] (fX8_isWord_26 v0 v1 h) st) xs) (kR := kRZ)
    (fun xs h st q => jm [0, 0, 0] _ (fun q => apS_ok [] _ (fun st => Ev (d + 4) none mX8_isWord (0, 0) 24 [.null, .null, .null] st h (QZ z)) st (fun q => tX8_isWord_24 h q) q) q)
    (fun xs h st q => jm [2, 2, 0] _ (fun v0 v1 q => apS_ok [] _ (fun st => Ev (d + 4) none mX8_isWord (0, 0) 26 [.ref v0, .ref v1, .null] st h (QZ z)) st (fun q => tX8_isWord_26 v0 v1 h q) q) q)
    kRZ_ok (Or.inr rfl) (by decide +kernel) (by decide +kernel) hf
theorem kqX8_isWord_18 : okC mX8_isWord 18 (.invokevirtual 233) 26 19 0 0 = true := by decide +kernel
def fX8_isWord_18 (v0 : Nat) (v1 : Nat) (s0 : Nat) (s1 : Int32) (h : aH) : Option (Int32 × aH) :=
  (gJ0_length_8abf5 s0 h).bind fun r =>
  fX8_isWord_21 v0 v1 r.1 s1 r.2
theorem tX8_isWord_18 {d : Nat} {z : Int32 × aH} (v0 : Nat) (v1 : Nat) (s0 : Nat) (s1 : Int32) (h : aH) (hf : fX8_isWord_18 v0 v1 s0 s1 h = some z) : Ev (d + 4) none mX8_isWord (0, 0) 18 [.ref v0, .ref v1, .null] [.ref s0, .int s1] h (QZ z) := by
  obtain ⟨r, h2, hf⟩ := bnd hf
  refine ev_VTc kqX8_isWord_18 jJ0_length_8abf5 (zJ0_length_8abf5 (d := d + 2) h2) rfl rfl (Nat.le_of_ble_eq_true rfl) (as := []) (rest := [.int s1]) rfl rfl (Nat.le_of_ble_eq_true rfl) (fun _ _ hq => ?_)
  obtain ⟨rfl, rfl⟩ := hq
  exact jm [2, 2, 0] (fun v0 v1 => fX8_isWord_21 v0 v1 r.1 s1 r.2) (fun v0 v1 q => tX8_isWord_21 v0 v1 r.1 s1 r.2 q) hf
def wX8_isWord_8 : List En := [(.aload_n 0, 0, 0, 0), (.getfield 47, 14, 8, 11), (.aload_n 0, 0, 0, 0), (.getfield 211, 13, 8, 10), (.isub, 0, 0, 0), (.aload_n 1, 0, 0, 0)]
def fX8_isWord_8 (v0 : Nat) (v1 : Nat) (h : aH) : Option (Int32 × aH) :=
  (gFI h 8 v0 11).bind fun t1 =>
  (gFI h 8 v0 10).bind fun t2 =>
  fX8_isWord_18 v0 v1 v1 (t1 - t2) h
theorem tX8_isWord_8 {d : Nat} {z : Int32 × aH} (v0 : Nat) (v1 : Nat) (h : aH) (hf : fX8_isWord_8 v0 v1 h = some z) : Ev (d + 4) none mX8_isWord (0, 0) 8 [.ref v0, .ref v1, .null] [] h (QZ z) := 
  go_ok (X := none) (blk := wX8_isWord_8) (np := 18) (tt := 0) (kN := fun xs h st => app [2, 2, 0] (fun v0 v1 => apS [2, 1] (fun s0 s1 => fX8_isWord_18 v0 v1 s0 s1 h) st) xs) (kT := fun _ _ _ => none) (kR := kRZ)
    (fun xs h st q => jm [2, 2, 0] _ (fun v0 v1 q => apS_ok [2, 1] _ (fun st => Ev (d + 4) none mX8_isWord (0, 0) 18 [.ref v0, .ref v1, .null] st h (QZ z)) st (fun s0 s1 q => tX8_isWord_18 v0 v1 s0 s1 h q) q) q)
    (fun _ _ _ q => nos q)
    kRZ_ok (Or.inr rfl) (by decide +kernel) (by decide +kernel) hf
def wX8_isWord_0 : List En := [(.aload_n 0, 0, 0, 0), (.getfield 70, 15, 8, 12), (.iconst 2, 0, 0, 0), (.if_icmp .ne 19, 24, 0, 0)]
def fX8_isWord_0 (v0 : Nat) (v1 : Nat) (h : aH) : Option (Int32 × aH) :=
  (gFI h 8 v0 12).bind fun t1 =>
  if t1 = (kI 2) then fX8_isWord_8 v0 v1 h else fX8_isWord_24 h
theorem tX8_isWord_0 {d : Nat} {z : Int32 × aH} (v0 : Nat) (v1 : Nat) (h : aH) (hf : fX8_isWord_0 v0 v1 h = some z) : Ev (d + 4) none mX8_isWord (0, 0) 0 [.ref v0, .ref v1, .null] [] h (QZ z) := 
  go_ok (X := none) (blk := wX8_isWord_0) (np := 8) (tt := 24) (kN := fun xs h st => app [2, 2, 0] (fun v0 v1 => apS [] (fX8_isWord_8 v0 v1 h) st) xs) (kT := fun xs h st => app [0, 0, 0] (apS [] (fX8_isWord_24 h) st) xs) (kR := kRZ)
    (fun xs h st q => jm [2, 2, 0] _ (fun v0 v1 q => apS_ok [] _ (fun st => Ev (d + 4) none mX8_isWord (0, 0) 8 [.ref v0, .ref v1, .null] st h (QZ z)) st (fun q => tX8_isWord_8 v0 v1 h q) q) q)
    (fun xs h st q => jm [0, 0, 0] _ (fun q => apS_ok [] _ (fun st => Ev (d + 4) none mX8_isWord (0, 0) 24 [.null, .null, .null] st h (QZ z)) st (fun q => tX8_isWord_24 h q) q) q)
    kRZ_ok (Or.inr rfl) (by decide +kernel) (by decide +kernel) hf
def gX8_isWord (v0 : Nat) (v1 : Nat) (h : aH) : Option (Int32 × aH) := fX8_isWord_0 v0 v1 h
theorem zX8_isWord {d : Nat} {z : Int32 × aH} {v0 : Nat} {v1 : Nat} {h : aH} (q : gX8_isWord v0 v1 h = some z) : CT (d + 4) mX8_isWord (0, 0) [.ref v0, .ref v1] h (QZ z) :=
  ct_ev (by decide +kernel) (Nat.le_of_ble_eq_true rfl) QZ_r (jm [2, 2, 0] (fun v0 v1 => fX8_isWord_0 v0 v1 h) (fun v0 v1 q => tX8_isWord_0 v0 v1 h q) q)
def wX8_lineSort_69 : List En := [(.ireturn, 0, 0, 0)]
def fX8_lineSort_69 (s0 : Int32) (h : aH) : Option (Int32 × aH) :=
  some (s0, h)
theorem tX8_lineSort_69 {d : Nat} {z : Int32 × aH} (s0 : Int32) (h : aH) (hf : fX8_lineSort_69 s0 h = some z) : Ev (d + 5) none mX8_lineSort (0, 0) 69 [.null] [.int s0] h (QI z) := 
  go_ok (X := none) (blk := wX8_lineSort_69) (np := 70) (tt := 0) (kN := fun _ _ _ => none) (kT := fun _ _ _ => none) (kR := kRI)
    (fun _ _ _ q => nos q)
    (fun _ _ _ q => nos q)
    kRI_ok (Or.inr rfl) (by decide +kernel) (by decide +kernel) hf
def wX8_lineSort_68 : List En := [(.iconst (-1), 0, 0, 0)]
def fX8_lineSort_68 (h : aH) : Option (Int32 × aH) :=
  fX8_lineSort_69 (kI (-1)) h
theorem tX8_lineSort_68 {d : Nat} {z : Int32 × aH} (h : aH) (hf : fX8_lineSort_68 h = some z) : Ev (d + 5) none mX8_lineSort (0, 0) 68 [.null] [] h (QI z) := 
  go_ok (X := none) (blk := wX8_lineSort_68) (np := 69) (tt := 0) (kN := fun xs h st => app [0] (apS [1] (fun s0 => fX8_lineSort_69 s0 h) st) xs) (kT := fun _ _ _ => none) (kR := kRI)
    (fun xs h st q => jm [0] _ (fun q => apS_ok [1] _ (fun st => Ev (d + 5) none mX8_lineSort (0, 0) 69 [.null] st h (QI z)) st (fun s0 q => tX8_lineSort_69 s0 h q) q) q)
    (fun _ _ _ q => nos q)
    kRI_ok (Or.inr rfl) (by decide +kernel) (by decide +kernel) hf
def wX8_lineSort_64 : List En := [(.iconst 5, 0, 0, 0), (.goto 4, 69, 0, 0)]
def fX8_lineSort_64 (h : aH) : Option (Int32 × aH) :=
  fX8_lineSort_69 (kI 5) h
theorem tX8_lineSort_64 {d : Nat} {z : Int32 × aH} (h : aH) (hf : fX8_lineSort_64 h = some z) : Ev (d + 5) none mX8_lineSort (0, 0) 64 [.null] [] h (QI z) := 
  go_ok (X := none) (blk := wX8_lineSort_64) (np := 68) (tt := 69) (kN := fun _ _ _ => none) (kT := fun xs h st => app [0] (apS [1] (fun s0 => fX8_lineSort_69 s0 h) st) xs) (kR := kRI)
    (fun _ _ _ q => nos q)
    (fun xs h st q => jm [0] _ (fun q => apS_ok [1] _ (fun st => Ev (d + 5) none mX8_lineSort (0, 0) 69 [.null] st h (QI z)) st (fun s0 q => tX8_lineSort_69 s0 h q) q) q)
    kRI_ok (Or.inr rfl) (by decide +kernel) (by decide +kernel) hf
def wX8_lineSort_61 : List En := [(.ifCond .eq 7, 68, 0, 0)]
def fX8_lineSort_61 (s0 : Int32) (h : aH) : Option (Int32 × aH) :=
  if s0 = 0 then fX8_lineSort_68 h else fX8_lineSort_64 h
theorem tX8_lineSort_61 {d : Nat} {z : Int32 × aH} (s0 : Int32) (h : aH) (hf : fX8_lineSort_61 s0 h = some z) : Ev (d + 5) none mX8_lineSort (0, 0) 61 [.null] [.int s0] h (QI z) := 
  go_ok (X := none) (blk := wX8_lineSort_61) (np := 64) (tt := 68) (kN := fun xs h st => app [0] (apS [] (fX8_lineSort_64 h) st) xs) (kT := fun xs h st => app [0] (apS [] (fX8_lineSort_68 h) st) xs) (kR := kRI)
    (fun xs h st q => jm [0] _ (fun q => apS_ok [] _ (fun st => Ev (d + 5) none mX8_lineSort (0, 0) 64 [.null] st h (QI z)) st (fun q => tX8_lineSort_64 h q) q) q)
    (fun xs h st q => jm [0] _ (fun q => apS_ok [] _ (fun st => Ev (d + 5) none mX8_lineSort (0, 0) 68 [.null] st h (QI z)) st (fun q => tX8_lineSort_68 h q) q) q)
    kRI_ok (Or.inr rfl) (by decide +kernel) (by decide +kernel) hf
theorem kqX8_lineSort_58 : okC mX8_lineSort 58 (.invokevirtual 204) 25 18 0 1 = true := by decide +kernel
def fX8_lineSort_58 (s0 : Nat) (s1 : Nat) (h : aH) : Option (Int32 × aH) :=
  (isO h 8 s1).bind fun _ =>
  (gX8_isWord s1 s0 h).bind fun r =>
  fX8_lineSort_61 r.1 r.2
theorem tX8_lineSort_58 {d : Nat} {z : Int32 × aH} (s0 : Nat) (s1 : Nat) (h : aH) (hf : fX8_lineSort_58 s0 s1 h = some z) : Ev (d + 5) none mX8_lineSort (0, 0) 58 [.null] [.ref s0, .ref s1] h (QI z) := by
  obtain ⟨_, h1, hf⟩ := bnd hf
  obtain ⟨fs, ho⟩ := isO_ok h1
  obtain ⟨r, h2, hf⟩ := bnd hf
  refine ev_V kqX8_lineSort_58 jX8_isWord (zX8_isWord (d := d + 0) h2) ho rfl rfl (Nat.le_of_ble_eq_true rfl) rfl (as := [.ref s0]) (rest := []) rfl (Nat.le_of_ble_eq_true rfl) (fun _ _ hq => ?_)
  obtain ⟨-, rfl, rfl⟩ := hq
  exact jm [0] (fX8_lineSort_61 r.1 r.2) (fun q => tX8_lineSort_61 r.1 r.2 q) hf
theorem kqX8_lineSort_56 : ckS mX8_lineSort 56 232 5 = true := by decide +kernel -- heard
def fX8_lineSort_56 (s0 : Nat) (h : aH) : Option (Int32 × aH) :=
  fX8_lineSort_58 (SB + 5) s0 h
theorem tX8_lineSort_56 {d : Nat} {z : Int32 × aH} (s0 : Nat) (h : aH) (hf : fX8_lineSort_56 s0 h = some z) : Ev (d + 5) none mX8_lineSort (0, 0) 56 [.null] [.ref s0] h (QI z) := 
  ev_ldcS kqX8_lineSort_56 rfl (jm [0] (fX8_lineSort_58 (SB + 5) s0 h) (fun q => tX8_lineSort_58 (SB + 5) s0 h q) hf)
def wX8_lineSort_55 : List En := [(.aload_n 0, 0, 0, 0)]
def fX8_lineSort_55 (v0 : Nat) (h : aH) : Option (Int32 × aH) :=
  fX8_lineSort_56 v0 h
theorem tX8_lineSort_55 {d : Nat} {z : Int32 × aH} (v0 : Nat) (h : aH) (hf : fX8_lineSort_55 v0 h = some z) : Ev (d + 5) none mX8_lineSort (0, 0) 55 [.ref v0] [] h (QI z) := 
  go_ok (X := none) (blk := wX8_lineSort_55) (np := 56) (tt := 0) (kN := fun xs h st => app [0] (apS [2] (fun s0 => fX8_lineSort_56 s0 h) st) xs) (kT := fun _ _ _ => none) (kR := kRI)
    (fun xs h st q => jm [0] _ (fun q => apS_ok [2] _ (fun st => Ev (d + 5) none mX8_lineSort (0, 0) 56 [.null] st h (QI z)) st (fun s0 q => tX8_lineSort_56 s0 h q) q) q)
    (fun _ _ _ q => nos q)
    kRI_ok (Or.inr rfl) (by decide +kernel) (by decide +kernel) hf
def wX8_lineSort_53 : List En := [(.iconst 4, 0, 0, 0), (.ireturn, 0, 0, 0)]
def fX8_lineSort_53 (h : aH) : Option (Int32 × aH) :=
  some ((kI 4), h)
theorem tX8_lineSort_53 {d : Nat} {z : Int32 × aH} (h : aH) (hf : fX8_lineSort_53 h = some z) : Ev (d + 5) none mX8_lineSort (0, 0) 53 [.null] [] h (QI z) := 
  go_ok (X := none) (blk := wX8_lineSort_53) (np := 55) (tt := 0) (kN := fun _ _ _ => none) (kT := fun _ _ _ => none) (kR := kRI)
    (fun _ _ _ q => nos q)
    (fun _ _ _ q => nos q)
    kRI_ok (Or.inr rfl) (by decide +kernel) (by decide +kernel) hf
def wX8_lineSort_50 : List En := [(.ifCond .eq 5, 55, 0, 0)]
def fX8_lineSort_50 (v0 : Nat) (s0 : Int32) (h : aH) : Option (Int32 × aH) :=
  if s0 = 0 then fX8_lineSort_55 v0 h else fX8_lineSort_53 h
theorem tX8_lineSort_50 {d : Nat} {z : Int32 × aH} (v0 : Nat) (s0 : Int32) (h : aH) (hf : fX8_lineSort_50 v0 s0 h = some z) : Ev (d + 5) none mX8_lineSort (0, 0) 50 [.ref v0] [.int s0] h (QI z) := 
  go_ok (X := none) (blk := wX8_lineSort_50) (np := 53) (tt := 55) (kN := fun xs h st => app [0] (apS [] (fX8_lineSort_53 h) st) xs) (kT := fun xs h st => app [2] (fun v0 => apS [] (fX8_lineSort_55 v0 h) st) xs) (kR := kRI)
    (fun xs h st q => jm [0] _ (fun q => apS_ok [] _ (fun st => Ev (d + 5) none mX8_lineSort (0, 0) 53 [.null] st h (QI z)) st (fun q => tX8_lineSort_53 h q) q) q)
    (fun xs h st q => jm [2] _ (fun v0 q => apS_ok [] _ (fun st => Ev (d + 5) none mX8_lineSort (0, 0) 55 [.ref v0] st h (QI z)) st (fun q => tX8_lineSort_55 v0 h q) q) q)
    kRI_ok (Or.inr rfl) (by decide +kernel) (by decide +kernel) hf
theorem kqX8_lineSort_47 : okC mX8_lineSort 47 (.invokevirtual 204) 25 18 0 1 = true := by decide +kernel
def fX8_lineSort_47 (v0 : Nat) (s0 : Nat) (s1 : Nat) (h : aH) : Option (Int32 × aH) :=
  (isO h 8 s1).bind fun _ =>
  (gX8_isWord s1 s0 h).bind fun r =>
  fX8_lineSort_50 v0 r.1 r.2
theorem tX8_lineSort_47 {d : Nat} {z : Int32 × aH} (v0 : Nat) (s0 : Nat) (s1 : Nat) (h : aH) (hf : fX8_lineSort_47 v0 s0 s1 h = some z) : Ev (d + 5) none mX8_lineSort (0, 0) 47 [.ref v0] [.ref s0, .ref s1] h (QI z) := by
  obtain ⟨_, h1, hf⟩ := bnd hf
  obtain ⟨fs, ho⟩ := isO_ok h1
  obtain ⟨r, h2, hf⟩ := bnd hf
  refine ev_V kqX8_lineSort_47 jX8_isWord (zX8_isWord (d := d + 0) h2) ho rfl rfl (Nat.le_of_ble_eq_true rfl) rfl (as := [.ref s0]) (rest := []) rfl (Nat.le_of_ble_eq_true rfl) (fun _ _ hq => ?_)
  obtain ⟨-, rfl, rfl⟩ := hq
  exact jm [2] (fun v0 => fX8_lineSort_50 v0 r.1 r.2) (fun v0 q => tX8_lineSort_50 v0 r.1 r.2 q) hf
theorem kqX8_lineSort_45 : ckS mX8_lineSort 45 231 4 = true := by decide +kernel -- unsure
def fX8_lineSort_45 (v0 : Nat) (s0 : Nat) (h : aH) : Option (Int32 × aH) :=
  fX8_lineSort_47 v0 (SB + 4) s0 h
theorem tX8_lineSort_45 {d : Nat} {z : Int32 × aH} (v0 : Nat) (s0 : Nat) (h : aH) (hf : fX8_lineSort_45 v0 s0 h = some z) : Ev (d + 5) none mX8_lineSort (0, 0) 45 [.ref v0] [.ref s0] h (QI z) := 
  ev_ldcS kqX8_lineSort_45 rfl (jm [2] (fun v0 => fX8_lineSort_47 v0 (SB + 4) s0 h) (fun v0 q => tX8_lineSort_47 v0 (SB + 4) s0 h q) hf)
def wX8_lineSort_44 : List En := [(.aload_n 0, 0, 0, 0)]
def fX8_lineSort_44 (v0 : Nat) (h : aH) : Option (Int32 × aH) :=
  fX8_lineSort_45 v0 v0 h
theorem tX8_lineSort_44 {d : Nat} {z : Int32 × aH} (v0 : Nat) (h : aH) (hf : fX8_lineSort_44 v0 h = some z) : Ev (d + 5) none mX8_lineSort (0, 0) 44 [.ref v0] [] h (QI z) := 
  go_ok (X := none) (blk := wX8_lineSort_44) (np := 45) (tt := 0) (kN := fun xs h st => app [2] (fun v0 => apS [2] (fun s0 => fX8_lineSort_45 v0 s0 h) st) xs) (kT := fun _ _ _ => none) (kR := kRI)
    (fun xs h st q => jm [2] _ (fun v0 q => apS_ok [2] _ (fun st => Ev (d + 5) none mX8_lineSort (0, 0) 45 [.ref v0] st h (QI z)) st (fun s0 q => tX8_lineSort_45 v0 s0 h q) q) q)
    (fun _ _ _ q => nos q)
    kRI_ok (Or.inr rfl) (by decide +kernel) (by decide +kernel) hf
def wX8_lineSort_42 : List En := [(.iconst 3, 0, 0, 0), (.ireturn, 0, 0, 0)]
def fX8_lineSort_42 (h : aH) : Option (Int32 × aH) :=
  some ((kI 3), h)
theorem tX8_lineSort_42 {d : Nat} {z : Int32 × aH} (h : aH) (hf : fX8_lineSort_42 h = some z) : Ev (d + 5) none mX8_lineSort (0, 0) 42 [.null] [] h (QI z) := 
  go_ok (X := none) (blk := wX8_lineSort_42) (np := 44) (tt := 0) (kN := fun _ _ _ => none) (kT := fun _ _ _ => none) (kR := kRI)
    (fun _ _ _ q => nos q)
    (fun _ _ _ q => nos q)
    kRI_ok (Or.inr rfl) (by decide +kernel) (by decide +kernel) hf
def wX8_lineSort_39 : List En := [(.ifCond .eq 5, 44, 0, 0)]
def fX8_lineSort_39 (v0 : Nat) (s0 : Int32) (h : aH) : Option (Int32 × aH) :=
  if s0 = 0 then fX8_lineSort_44 v0 h else fX8_lineSort_42 h
theorem tX8_lineSort_39 {d : Nat} {z : Int32 × aH} (v0 : Nat) (s0 : Int32) (h : aH) (hf : fX8_lineSort_39 v0 s0 h = some z) : Ev (d + 5) none mX8_lineSort (0, 0) 39 [.ref v0] [.int s0] h (QI z) := 
  go_ok (X := none) (blk := wX8_lineSort_39) (np := 42) (tt := 44) (kN := fun xs h st => app [0] (apS [] (fX8_lineSort_42 h) st) xs) (kT := fun xs h st => app [2] (fun v0 => apS [] (fX8_lineSort_44 v0 h) st) xs) (kR := kRI)
    (fun xs h st q => jm [0] _ (fun q => apS_ok [] _ (fun st => Ev (d + 5) none mX8_lineSort (0, 0) 42 [.null] st h (QI z)) st (fun q => tX8_lineSort_42 h q) q) q)
    (fun xs h st q => jm [2] _ (fun v0 q => apS_ok [] _ (fun st => Ev (d + 5) none mX8_lineSort (0, 0) 44 [.ref v0] st h (QI z)) st (fun q => tX8_lineSort_44 v0 h q) q) q)
    kRI_ok (Or.inr rfl) (by decide +kernel) (by decide +kernel) hf
theorem kqX8_lineSort_36 : okC mX8_lineSort 36 (.invokevirtual 204) 25 18 0 1 = true := by decide +kernel
def fX8_lineSort_36 (v0 : Nat) (s0 : Nat) (s1 : Nat) (h : aH) : Option (Int32 × aH) :=
  (isO h 8 s1).bind fun _ =>
  (gX8_isWord s1 s0 h).bind fun r =>
  fX8_lineSort_39 v0 r.1 r.2
theorem tX8_lineSort_36 {d : Nat} {z : Int32 × aH} (v0 : Nat) (s0 : Nat) (s1 : Nat) (h : aH) (hf : fX8_lineSort_36 v0 s0 s1 h = some z) : Ev (d + 5) none mX8_lineSort (0, 0) 36 [.ref v0] [.ref s0, .ref s1] h (QI z) := by
  obtain ⟨_, h1, hf⟩ := bnd hf
  obtain ⟨fs, ho⟩ := isO_ok h1
  obtain ⟨r, h2, hf⟩ := bnd hf
  refine ev_V kqX8_lineSort_36 jX8_isWord (zX8_isWord (d := d + 0) h2) ho rfl rfl (Nat.le_of_ble_eq_true rfl) rfl (as := [.ref s0]) (rest := []) rfl (Nat.le_of_ble_eq_true rfl) (fun _ _ hq => ?_)
  obtain ⟨-, rfl, rfl⟩ := hq
  exact jm [2] (fun v0 => fX8_lineSort_39 v0 r.1 r.2) (fun v0 q => tX8_lineSort_39 v0 r.1 r.2 q) hf
theorem kqX8_lineSort_34 : ckS mX8_lineSort 34 229 3 = true := by decide +kernel -- fast
def fX8_lineSort_34 (v0 : Nat) (s0 : Nat) (h : aH) : Option (Int32 × aH) :=
  fX8_lineSort_36 v0 (SB + 3) s0 h
theorem tX8_lineSort_34 {d : Nat} {z : Int32 × aH} (v0 : Nat) (s0 : Nat) (h : aH) (hf : fX8_lineSort_34 v0 s0 h = some z) : Ev (d + 5) none mX8_lineSort (0, 0) 34 [.ref v0] [.ref s0] h (QI z) := 
  ev_ldcS kqX8_lineSort_34 rfl (jm [2] (fun v0 => fX8_lineSort_36 v0 (SB + 3) s0 h) (fun v0 q => tX8_lineSort_36 v0 (SB + 3) s0 h q) hf)
def wX8_lineSort_33 : List En := [(.aload_n 0, 0, 0, 0)]
def fX8_lineSort_33 (v0 : Nat) (h : aH) : Option (Int32 × aH) :=
  fX8_lineSort_34 v0 v0 h
theorem tX8_lineSort_33 {d : Nat} {z : Int32 × aH} (v0 : Nat) (h : aH) (hf : fX8_lineSort_33 v0 h = some z) : Ev (d + 5) none mX8_lineSort (0, 0) 33 [.ref v0] [] h (QI z) := 
  go_ok (X := none) (blk := wX8_lineSort_33) (np := 34) (tt := 0) (kN := fun xs h st => app [2] (fun v0 => apS [2] (fun s0 => fX8_lineSort_34 v0 s0 h) st) xs) (kT := fun _ _ _ => none) (kR := kRI)
    (fun xs h st q => jm [2] _ (fun v0 q => apS_ok [2] _ (fun st => Ev (d + 5) none mX8_lineSort (0, 0) 34 [.ref v0] st h (QI z)) st (fun s0 q => tX8_lineSort_34 v0 s0 h q) q) q)
    (fun _ _ _ q => nos q)
    kRI_ok (Or.inr rfl) (by decide +kernel) (by decide +kernel) hf
def wX8_lineSort_31 : List En := [(.iconst 2, 0, 0, 0), (.ireturn, 0, 0, 0)]
def fX8_lineSort_31 (h : aH) : Option (Int32 × aH) :=
  some ((kI 2), h)
theorem tX8_lineSort_31 {d : Nat} {z : Int32 × aH} (h : aH) (hf : fX8_lineSort_31 h = some z) : Ev (d + 5) none mX8_lineSort (0, 0) 31 [.null] [] h (QI z) := 
  go_ok (X := none) (blk := wX8_lineSort_31) (np := 33) (tt := 0) (kN := fun _ _ _ => none) (kT := fun _ _ _ => none) (kR := kRI)
    (fun _ _ _ q => nos q)
    (fun _ _ _ q => nos q)
    kRI_ok (Or.inr rfl) (by decide +kernel) (by decide +kernel) hf
def wX8_lineSort_28 : List En := [(.ifCond .eq 5, 33, 0, 0)]
def fX8_lineSort_28 (v0 : Nat) (s0 : Int32) (h : aH) : Option (Int32 × aH) :=
  if s0 = 0 then fX8_lineSort_33 v0 h else fX8_lineSort_31 h
theorem tX8_lineSort_28 {d : Nat} {z : Int32 × aH} (v0 : Nat) (s0 : Int32) (h : aH) (hf : fX8_lineSort_28 v0 s0 h = some z) : Ev (d + 5) none mX8_lineSort (0, 0) 28 [.ref v0] [.int s0] h (QI z) := 
  go_ok (X := none) (blk := wX8_lineSort_28) (np := 31) (tt := 33) (kN := fun xs h st => app [0] (apS [] (fX8_lineSort_31 h) st) xs) (kT := fun xs h st => app [2] (fun v0 => apS [] (fX8_lineSort_33 v0 h) st) xs) (kR := kRI)
    (fun xs h st q => jm [0] _ (fun q => apS_ok [] _ (fun st => Ev (d + 5) none mX8_lineSort (0, 0) 31 [.null] st h (QI z)) st (fun q => tX8_lineSort_31 h q) q) q)
    (fun xs h st q => jm [2] _ (fun v0 q => apS_ok [] _ (fun st => Ev (d + 5) none mX8_lineSort (0, 0) 33 [.ref v0] st h (QI z)) st (fun q => tX8_lineSort_33 v0 h q) q) q)
    kRI_ok (Or.inr rfl) (by decide +kernel) (by decide +kernel) hf
theorem kqX8_lineSort_25 : okC mX8_lineSort 25 (.invokevirtual 204) 25 18 0 1 = true := by decide +kernel
def fX8_lineSort_25 (v0 : Nat) (s0 : Nat) (s1 : Nat) (h : aH) : Option (Int32 × aH) :=
  (isO h 8 s1).bind fun _ =>
  (gX8_isWord s1 s0 h).bind fun r =>
  fX8_lineSort_28 v0 r.1 r.2
theorem tX8_lineSort_25 {d : Nat} {z : Int32 × aH} (v0 : Nat) (s0 : Nat) (s1 : Nat) (h : aH) (hf : fX8_lineSort_25 v0 s0 s1 h = some z) : Ev (d + 5) none mX8_lineSort (0, 0) 25 [.ref v0] [.ref s0, .ref s1] h (QI z) := by
  obtain ⟨_, h1, hf⟩ := bnd hf
  obtain ⟨fs, ho⟩ := isO_ok h1
  obtain ⟨r, h2, hf⟩ := bnd hf
  refine ev_V kqX8_lineSort_25 jX8_isWord (zX8_isWord (d := d + 0) h2) ho rfl rfl (Nat.le_of_ble_eq_true rfl) rfl (as := [.ref s0]) (rest := []) rfl (Nat.le_of_ble_eq_true rfl) (fun _ _ hq => ?_)
  obtain ⟨-, rfl, rfl⟩ := hq
  exact jm [2] (fun v0 => fX8_lineSort_28 v0 r.1 r.2) (fun v0 q => tX8_lineSort_28 v0 r.1 r.2 q) hf
theorem kqX8_lineSort_23 : ckS mX8_lineSort 23 227 2 = true := by decide +kernel -- name
def fX8_lineSort_23 (v0 : Nat) (s0 : Nat) (h : aH) : Option (Int32 × aH) :=
  fX8_lineSort_25 v0 (SB + 2) s0 h
theorem tX8_lineSort_23 {d : Nat} {z : Int32 × aH} (v0 : Nat) (s0 : Nat) (h : aH) (hf : fX8_lineSort_23 v0 s0 h = some z) : Ev (d + 5) none mX8_lineSort (0, 0) 23 [.ref v0] [.ref s0] h (QI z) := 
  ev_ldcS kqX8_lineSort_23 rfl (jm [2] (fun v0 => fX8_lineSort_25 v0 (SB + 2) s0 h) (fun v0 q => tX8_lineSort_25 v0 (SB + 2) s0 h q) hf)
def wX8_lineSort_22 : List En := [(.aload_n 0, 0, 0, 0)]
def fX8_lineSort_22 (v0 : Nat) (h : aH) : Option (Int32 × aH) :=
  fX8_lineSort_23 v0 v0 h
theorem tX8_lineSort_22 {d : Nat} {z : Int32 × aH} (v0 : Nat) (h : aH) (hf : fX8_lineSort_22 v0 h = some z) : Ev (d + 5) none mX8_lineSort (0, 0) 22 [.ref v0] [] h (QI z) := 
  go_ok (X := none) (blk := wX8_lineSort_22) (np := 23) (tt := 0) (kN := fun xs h st => app [2] (fun v0 => apS [2] (fun s0 => fX8_lineSort_23 v0 s0 h) st) xs) (kT := fun _ _ _ => none) (kR := kRI)
    (fun xs h st q => jm [2] _ (fun v0 q => apS_ok [2] _ (fun st => Ev (d + 5) none mX8_lineSort (0, 0) 23 [.ref v0] st h (QI z)) st (fun s0 q => tX8_lineSort_23 v0 s0 h q) q) q)
    (fun _ _ _ q => nos q)
    kRI_ok (Or.inr rfl) (by decide +kernel) (by decide +kernel) hf
def wX8_lineSort_20 : List En := [(.iconst 1, 0, 0, 0), (.ireturn, 0, 0, 0)]
def fX8_lineSort_20 (h : aH) : Option (Int32 × aH) :=
  some ((kI 1), h)
theorem tX8_lineSort_20 {d : Nat} {z : Int32 × aH} (h : aH) (hf : fX8_lineSort_20 h = some z) : Ev (d + 5) none mX8_lineSort (0, 0) 20 [.null] [] h (QI z) := 
  go_ok (X := none) (blk := wX8_lineSort_20) (np := 22) (tt := 0) (kN := fun _ _ _ => none) (kT := fun _ _ _ => none) (kR := kRI)
    (fun _ _ _ q => nos q)
    (fun _ _ _ q => nos q)
    kRI_ok (Or.inr rfl) (by decide +kernel) (by decide +kernel) hf
def wX8_lineSort_17 : List En := [(.ifCond .eq 5, 22, 0, 0)]
def fX8_lineSort_17 (v0 : Nat) (s0 : Int32) (h : aH) : Option (Int32 × aH) :=
  if s0 = 0 then fX8_lineSort_22 v0 h else fX8_lineSort_20 h
theorem tX8_lineSort_17 {d : Nat} {z : Int32 × aH} (v0 : Nat) (s0 : Int32) (h : aH) (hf : fX8_lineSort_17 v0 s0 h = some z) : Ev (d + 5) none mX8_lineSort (0, 0) 17 [.ref v0] [.int s0] h (QI z) := 
  go_ok (X := none) (blk := wX8_lineSort_17) (np := 20) (tt := 22) (kN := fun xs h st => app [0] (apS [] (fX8_lineSort_20 h) st) xs) (kT := fun xs h st => app [2] (fun v0 => apS [] (fX8_lineSort_22 v0 h) st) xs) (kR := kRI)
    (fun xs h st q => jm [0] _ (fun q => apS_ok [] _ (fun st => Ev (d + 5) none mX8_lineSort (0, 0) 20 [.null] st h (QI z)) st (fun q => tX8_lineSort_20 h q) q) q)
    (fun xs h st q => jm [2] _ (fun v0 q => apS_ok [] _ (fun st => Ev (d + 5) none mX8_lineSort (0, 0) 22 [.ref v0] st h (QI z)) st (fun q => tX8_lineSort_22 v0 h q) q) q)
    kRI_ok (Or.inr rfl) (by decide +kernel) (by decide +kernel) hf
theorem kqX8_lineSort_14 : okC mX8_lineSort 14 (.invokevirtual 204) 25 18 0 1 = true := by decide +kernel
def fX8_lineSort_14 (v0 : Nat) (s0 : Nat) (s1 : Nat) (h : aH) : Option (Int32 × aH) :=
  (isO h 8 s1).bind fun _ =>
  (gX8_isWord s1 s0 h).bind fun r =>
  fX8_lineSort_17 v0 r.1 r.2
theorem tX8_lineSort_14 {d : Nat} {z : Int32 × aH} (v0 : Nat) (s0 : Nat) (s1 : Nat) (h : aH) (hf : fX8_lineSort_14 v0 s0 s1 h = some z) : Ev (d + 5) none mX8_lineSort (0, 0) 14 [.ref v0] [.ref s0, .ref s1] h (QI z) := by
  obtain ⟨_, h1, hf⟩ := bnd hf
  obtain ⟨fs, ho⟩ := isO_ok h1
  obtain ⟨r, h2, hf⟩ := bnd hf
  refine ev_V kqX8_lineSort_14 jX8_isWord (zX8_isWord (d := d + 0) h2) ho rfl rfl (Nat.le_of_ble_eq_true rfl) rfl (as := [.ref s0]) (rest := []) rfl (Nat.le_of_ble_eq_true rfl) (fun _ _ hq => ?_)
  obtain ⟨-, rfl, rfl⟩ := hq
  exact jm [2] (fun v0 => fX8_lineSort_17 v0 r.1 r.2) (fun v0 q => tX8_lineSort_17 v0 r.1 r.2 q) hf
theorem kqX8_lineSort_12 : ckS mX8_lineSort 12 225 1 = true := by decide +kernel -- person
def fX8_lineSort_12 (v0 : Nat) (s0 : Nat) (h : aH) : Option (Int32 × aH) :=
  fX8_lineSort_14 v0 (SB + 1) s0 h
theorem tX8_lineSort_12 {d : Nat} {z : Int32 × aH} (v0 : Nat) (s0 : Nat) (h : aH) (hf : fX8_lineSort_12 v0 s0 h = some z) : Ev (d + 5) none mX8_lineSort (0, 0) 12 [.ref v0] [.ref s0] h (QI z) := 
  ev_ldcS kqX8_lineSort_12 rfl (jm [2] (fun v0 => fX8_lineSort_14 v0 (SB + 1) s0 h) (fun v0 q => tX8_lineSort_14 v0 (SB + 1) s0 h q) hf)
def wX8_lineSort_11 : List En := [(.aload_n 0, 0, 0, 0)]
def fX8_lineSort_11 (v0 : Nat) (h : aH) : Option (Int32 × aH) :=
  fX8_lineSort_12 v0 v0 h
theorem tX8_lineSort_11 {d : Nat} {z : Int32 × aH} (v0 : Nat) (h : aH) (hf : fX8_lineSort_11 v0 h = some z) : Ev (d + 5) none mX8_lineSort (0, 0) 11 [.ref v0] [] h (QI z) := 
  go_ok (X := none) (blk := wX8_lineSort_11) (np := 12) (tt := 0) (kN := fun xs h st => app [2] (fun v0 => apS [2] (fun s0 => fX8_lineSort_12 v0 s0 h) st) xs) (kT := fun _ _ _ => none) (kR := kRI)
    (fun xs h st q => jm [2] _ (fun v0 q => apS_ok [2] _ (fun st => Ev (d + 5) none mX8_lineSort (0, 0) 12 [.ref v0] st h (QI z)) st (fun s0 q => tX8_lineSort_12 v0 s0 h q) q) q)
    (fun _ _ _ q => nos q)
    kRI_ok (Or.inr rfl) (by decide +kernel) (by decide +kernel) hf
def wX8_lineSort_9 : List En := [(.iconst 0, 0, 0, 0), (.ireturn, 0, 0, 0)]
def fX8_lineSort_9 (h : aH) : Option (Int32 × aH) :=
  some ((kI 0), h)
theorem tX8_lineSort_9 {d : Nat} {z : Int32 × aH} (h : aH) (hf : fX8_lineSort_9 h = some z) : Ev (d + 5) none mX8_lineSort (0, 0) 9 [.null] [] h (QI z) := 
  go_ok (X := none) (blk := wX8_lineSort_9) (np := 11) (tt := 0) (kN := fun _ _ _ => none) (kT := fun _ _ _ => none) (kR := kRI)
    (fun _ _ _ q => nos q)
    (fun _ _ _ q => nos q)
    kRI_ok (Or.inr rfl) (by decide +kernel) (by decide +kernel) hf
def wX8_lineSort_6 : List En := [(.ifCond .eq 5, 11, 0, 0)]
def fX8_lineSort_6 (v0 : Nat) (s0 : Int32) (h : aH) : Option (Int32 × aH) :=
  if s0 = 0 then fX8_lineSort_11 v0 h else fX8_lineSort_9 h
theorem tX8_lineSort_6 {d : Nat} {z : Int32 × aH} (v0 : Nat) (s0 : Int32) (h : aH) (hf : fX8_lineSort_6 v0 s0 h = some z) : Ev (d + 5) none mX8_lineSort (0, 0) 6 [.ref v0] [.int s0] h (QI z) := 
  go_ok (X := none) (blk := wX8_lineSort_6) (np := 9) (tt := 11) (kN := fun xs h st => app [0] (apS [] (fX8_lineSort_9 h) st) xs) (kT := fun xs h st => app [2] (fun v0 => apS [] (fX8_lineSort_11 v0 h) st) xs) (kR := kRI)
    (fun xs h st q => jm [0] _ (fun q => apS_ok [] _ (fun st => Ev (d + 5) none mX8_lineSort (0, 0) 9 [.null] st h (QI z)) st (fun q => tX8_lineSort_9 h q) q) q)
    (fun xs h st q => jm [2] _ (fun v0 q => apS_ok [] _ (fun st => Ev (d + 5) none mX8_lineSort (0, 0) 11 [.ref v0] st h (QI z)) st (fun q => tX8_lineSort_11 v0 h q) q) q)
    kRI_ok (Or.inr rfl) (by decide +kernel) (by decide +kernel) hf
theorem kqX8_lineSort_3 : okC mX8_lineSort 3 (.invokevirtual 204) 25 18 0 1 = true := by decide +kernel
def fX8_lineSort_3 (v0 : Nat) (s0 : Nat) (s1 : Nat) (h : aH) : Option (Int32 × aH) :=
  (isO h 8 s1).bind fun _ =>
  (gX8_isWord s1 s0 h).bind fun r =>
  fX8_lineSort_6 v0 r.1 r.2
theorem tX8_lineSort_3 {d : Nat} {z : Int32 × aH} (v0 : Nat) (s0 : Nat) (s1 : Nat) (h : aH) (hf : fX8_lineSort_3 v0 s0 s1 h = some z) : Ev (d + 5) none mX8_lineSort (0, 0) 3 [.ref v0] [.ref s0, .ref s1] h (QI z) := by
  obtain ⟨_, h1, hf⟩ := bnd hf
  obtain ⟨fs, ho⟩ := isO_ok h1
  obtain ⟨r, h2, hf⟩ := bnd hf
  refine ev_V kqX8_lineSort_3 jX8_isWord (zX8_isWord (d := d + 0) h2) ho rfl rfl (Nat.le_of_ble_eq_true rfl) rfl (as := [.ref s0]) (rest := []) rfl (Nat.le_of_ble_eq_true rfl) (fun _ _ hq => ?_)
  obtain ⟨-, rfl, rfl⟩ := hq
  exact jm [2] (fun v0 => fX8_lineSort_6 v0 r.1 r.2) (fun v0 q => tX8_lineSort_6 v0 r.1 r.2 q) hf
theorem kqX8_lineSort_1 : ckS mX8_lineSort 1 223 0 = true := by decide +kernel -- table
def fX8_lineSort_1 (v0 : Nat) (s0 : Nat) (h : aH) : Option (Int32 × aH) :=
  fX8_lineSort_3 v0 (SB + 0) s0 h
theorem tX8_lineSort_1 {d : Nat} {z : Int32 × aH} (v0 : Nat) (s0 : Nat) (h : aH) (hf : fX8_lineSort_1 v0 s0 h = some z) : Ev (d + 5) none mX8_lineSort (0, 0) 1 [.ref v0] [.ref s0] h (QI z) := 
  ev_ldcS kqX8_lineSort_1 rfl (jm [2] (fun v0 => fX8_lineSort_3 v0 (SB + 0) s0 h) (fun v0 q => tX8_lineSort_3 v0 (SB + 0) s0 h q) hf)
def wX8_lineSort_0 : List En := [(.aload_n 0, 0, 0, 0)]
def fX8_lineSort_0 (v0 : Nat) (h : aH) : Option (Int32 × aH) :=
  fX8_lineSort_1 v0 v0 h
theorem tX8_lineSort_0 {d : Nat} {z : Int32 × aH} (v0 : Nat) (h : aH) (hf : fX8_lineSort_0 v0 h = some z) : Ev (d + 5) none mX8_lineSort (0, 0) 0 [.ref v0] [] h (QI z) := 
  go_ok (X := none) (blk := wX8_lineSort_0) (np := 1) (tt := 0) (kN := fun xs h st => app [2] (fun v0 => apS [2] (fun s0 => fX8_lineSort_1 v0 s0 h) st) xs) (kT := fun _ _ _ => none) (kR := kRI)
    (fun xs h st q => jm [2] _ (fun v0 q => apS_ok [2] _ (fun st => Ev (d + 5) none mX8_lineSort (0, 0) 1 [.ref v0] st h (QI z)) st (fun s0 q => tX8_lineSort_1 v0 s0 h q) q) q)
    (fun _ _ _ q => nos q)
    kRI_ok (Or.inr rfl) (by decide +kernel) (by decide +kernel) hf
def gX8_lineSort (v0 : Nat) (h : aH) : Option (Int32 × aH) := fX8_lineSort_0 v0 h
theorem zX8_lineSort {d : Nat} {z : Int32 × aH} {v0 : Nat} {h : aH} (q : gX8_lineSort v0 h = some z) : CT (d + 5) mX8_lineSort (0, 0) [.ref v0] h (QI z) :=
  ct_ev (by decide +kernel) (Nat.le_of_ble_eq_true rfl) QI_r (jm [2] (fun v0 => fX8_lineSort_0 v0 h) (fun v0 q => tX8_lineSort_0 v0 h q) q)
def wX8_findsWhole_24 : List En := [(.ireturn, 0, 0, 0)]
def fX8_findsWhole_24 (s0 : Int32) (h : aH) : Option (Int32 × aH) :=
  if s0 = 0 ∨ s0 = 1 then some (s0, h) else none
theorem tX8_findsWhole_24 {d : Nat} {z : Int32 × aH} (s0 : Int32) (h : aH) (hf : fX8_findsWhole_24 s0 h = some z) : Ev (d + 5) none mX8_findsWhole (0, 0) 24 [.null, .null, .null, .null] [.int s0] h (QZ z) := 
  go_ok (X := none) (blk := wX8_findsWhole_24) (np := 25) (tt := 0) (kN := fun _ _ _ => none) (kT := fun _ _ _ => none) (kR := kRZ)
    (fun _ _ _ q => nos q)
    (fun _ _ _ q => nos q)
    kRZ_ok (Or.inr rfl) (by decide +kernel) (by decide +kernel) hf
theorem kqX8_findsWhole_21 : okC mX8_findsWhole 21 (.invokevirtual 185) 41 25 0 2 = true := by decide +kernel
def fX8_findsWhole_21 (s0 : Int32) (s1 : Int32) (s2 : Nat) (h : aH) : Option (Int32 × aH) :=
  (isO h 8 s2).bind fun _ =>
  (gX8_isWholeWithin s2 s1 s0 h).bind fun r =>
  fX8_findsWhole_24 r.1 r.2
theorem tX8_findsWhole_21 {d : Nat} {z : Int32 × aH} (s0 : Int32) (s1 : Int32) (s2 : Nat) (h : aH) (hf : fX8_findsWhole_21 s0 s1 s2 h = some z) : Ev (d + 5) none mX8_findsWhole (0, 0) 21 [.null, .null, .null, .null] [.int s0, .int s1, .ref s2] h (QZ z) := by
  obtain ⟨_, h1, hf⟩ := bnd hf
  obtain ⟨fs, ho⟩ := isO_ok h1
  obtain ⟨r, h2, hf⟩ := bnd hf
  refine ev_V kqX8_findsWhole_21 jX8_isWholeWithin (zX8_isWholeWithin (d := d + 3) h2) ho rfl rfl (Nat.le_of_ble_eq_true rfl) rfl (as := [.int s1, .int s0]) (rest := []) rfl (Nat.le_of_ble_eq_true rfl) (fun _ _ hq => ?_)
  obtain ⟨-, rfl, rfl⟩ := hq
  exact jm [0, 0, 0, 0] (fX8_findsWhole_24 r.1 r.2) (fun q => tX8_findsWhole_24 r.1 r.2 q) hf
def wX8_findsWhole_18 : List En := [(.aload_n 0, 0, 0, 0), (.iload_n 2, 0, 0, 0), (.iload_n 3, 0, 0, 0)]
def fX8_findsWhole_18 (v0 : Nat) (v2 : Int32) (v3 : Int32) (h : aH) : Option (Int32 × aH) :=
  fX8_findsWhole_21 v3 v2 v0 h
theorem tX8_findsWhole_18 {d : Nat} {z : Int32 × aH} (v0 : Nat) (v2 : Int32) (v3 : Int32) (h : aH) (hf : fX8_findsWhole_18 v0 v2 v3 h = some z) : Ev (d + 5) none mX8_findsWhole (0, 0) 18 [.ref v0, .null, .int v2, .int v3] [] h (QZ z) := 
  go_ok (X := none) (blk := wX8_findsWhole_18) (np := 21) (tt := 0) (kN := fun xs h st => app [0, 0, 0, 0] (apS [1, 1, 2] (fun s0 s1 s2 => fX8_findsWhole_21 s0 s1 s2 h) st) xs) (kT := fun _ _ _ => none) (kR := kRZ)
    (fun xs h st q => jm [0, 0, 0, 0] _ (fun q => apS_ok [1, 1, 2] _ (fun st => Ev (d + 5) none mX8_findsWhole (0, 0) 21 [.null, .null, .null, .null] st h (QZ z)) st (fun s0 s1 s2 q => tX8_findsWhole_21 s0 s1 s2 h q) q) q)
    (fun _ _ _ q => nos q)
    kRZ_ok (Or.inr rfl) (by decide +kernel) (by decide +kernel) hf
theorem kqX8_findsWhole_15 : okC mX8_findsWhole 15 (.invokevirtual 63) 18 11 0 0 = true := by decide +kernel
def fX8_findsWhole_15 (v0 : Nat) (v2 : Int32) (v3 : Int32) (s0 : Nat) (h : aH) : Option (Int32 × aH) :=
  (isO h 8 s0).bind fun _ =>
  (gX8_step s0 h).bind fun r =>
  fX8_findsWhole_18 v0 v2 v3 r
theorem tX8_findsWhole_15 {d : Nat} {z : Int32 × aH} (v0 : Nat) (v2 : Int32) (v3 : Int32) (s0 : Nat) (h : aH) (hf : fX8_findsWhole_15 v0 v2 v3 s0 h = some z) : Ev (d + 5) none mX8_findsWhole (0, 0) 15 [.ref v0, .null, .int v2, .int v3] [.ref s0] h (QZ z) := by
  obtain ⟨_, h1, hf⟩ := bnd hf
  obtain ⟨fs, ho⟩ := isO_ok h1
  obtain ⟨r, h2, hf⟩ := bnd hf
  refine ev_V kqX8_findsWhole_15 jX8_step (zX8_step (d := d + 2) h2) ho rfl rfl (Nat.le_of_ble_eq_true rfl) rfl (as := []) (rest := []) rfl (Nat.le_of_ble_eq_true rfl) (fun _ _ hq => ?_)
  obtain ⟨rfl, hh⟩ := hq
  rw [hh]
  exact jm [2, 0, 1, 1] (fun v0 v2 v3 => fX8_findsWhole_18 v0 v2 v3 r) (fun v0 v2 v3 q => tX8_findsWhole_18 v0 v2 v3 r q) hf
def wX8_findsWhole_14 : List En := [(.aload_n 0, 0, 0, 0)]
def fX8_findsWhole_14 (v0 : Nat) (v2 : Int32) (v3 : Int32) (h : aH) : Option (Int32 × aH) :=
  fX8_findsWhole_15 v0 v2 v3 v0 h
theorem tX8_findsWhole_14 {d : Nat} {z : Int32 × aH} (v0 : Nat) (v2 : Int32) (v3 : Int32) (h : aH) (hf : fX8_findsWhole_14 v0 v2 v3 h = some z) : Ev (d + 5) none mX8_findsWhole (0, 0) 14 [.ref v0, .null, .int v2, .int v3] [] h (QZ z) := 
  go_ok (X := none) (blk := wX8_findsWhole_14) (np := 15) (tt := 0) (kN := fun xs h st => app [2, 0, 1, 1] (fun v0 v2 v3 => apS [2] (fun s0 => fX8_findsWhole_15 v0 v2 v3 s0 h) st) xs) (kT := fun _ _ _ => none) (kR := kRZ)
    (fun xs h st q => jm [2, 0, 1, 1] _ (fun v0 v2 v3 q => apS_ok [2] _ (fun st => Ev (d + 5) none mX8_findsWhole (0, 0) 15 [.ref v0, .null, .int v2, .int v3] st h (QZ z)) st (fun s0 q => tX8_findsWhole_15 v0 v2 v3 s0 h q) q) q)
    (fun _ _ _ q => nos q)
    kRZ_ok (Or.inr rfl) (by decide +kernel) (by decide +kernel) hf
def wX8_findsWhole_13 : List En := [(.ireturn, 0, 0, 0)]
def fX8_findsWhole_13 (s0 : Int32) (h : aH) : Option (Int32 × aH) :=
  if s0 = 0 ∨ s0 = 1 then some (s0, h) else none
theorem tX8_findsWhole_13 {d : Nat} {z : Int32 × aH} (s0 : Int32) (h : aH) (hf : fX8_findsWhole_13 s0 h = some z) : Ev (d + 5) none mX8_findsWhole (0, 0) 13 [.null, .null, .null, .null] [.int s0] h (QZ z) := 
  go_ok (X := none) (blk := wX8_findsWhole_13) (np := 14) (tt := 0) (kN := fun _ _ _ => none) (kT := fun _ _ _ => none) (kR := kRZ)
    (fun _ _ _ q => nos q)
    (fun _ _ _ q => nos q)
    kRZ_ok (Or.inr rfl) (by decide +kernel) (by decide +kernel) hf
theorem kqX8_findsWhole_10 : okC mX8_findsWhole 10 (.invokevirtual 73) 37 21 0 1 = true := by decide +kernel
def fX8_findsWhole_10 (s0 : Int32) (s1 : Nat) (h : aH) : Option (Int32 × aH) :=
  (isO h 8 s1).bind fun _ =>
  (gX8_fail s1 s0 h).bind fun r =>
  fX8_findsWhole_13 r.1 r.2
theorem tX8_findsWhole_10 {d : Nat} {z : Int32 × aH} (s0 : Int32) (s1 : Nat) (h : aH) (hf : fX8_findsWhole_10 s0 s1 h = some z) : Ev (d + 5) none mX8_findsWhole (0, 0) 10 [.null, .null, .null, .null] [.int s0, .ref s1] h (QZ z) := by
  obtain ⟨_, h1, hf⟩ := bnd hf
  obtain ⟨fs, ho⟩ := isO_ok h1
  obtain ⟨r, h2, hf⟩ := bnd hf
  refine ev_V kqX8_findsWhole_10 jX8_fail (zX8_fail (d := d + 4) h2) ho rfl rfl (Nat.le_of_ble_eq_true rfl) rfl (as := [.int s0]) (rest := []) rfl (Nat.le_of_ble_eq_true rfl) (fun _ _ hq => ?_)
  obtain ⟨-, rfl, rfl⟩ := hq
  exact jm [0, 0, 0, 0] (fX8_findsWhole_13 r.1 r.2) (fun q => tX8_findsWhole_13 r.1 r.2 q) hf
def wX8_findsWhole_8 : List En := [(.aload_n 0, 0, 0, 0), (.iconst 1, 0, 0, 0)]
def fX8_findsWhole_8 (v0 : Nat) (h : aH) : Option (Int32 × aH) :=
  fX8_findsWhole_10 (kI 1) v0 h
theorem tX8_findsWhole_8 {d : Nat} {z : Int32 × aH} (v0 : Nat) (h : aH) (hf : fX8_findsWhole_8 v0 h = some z) : Ev (d + 5) none mX8_findsWhole (0, 0) 8 [.ref v0, .null, .null, .null] [] h (QZ z) := 
  go_ok (X := none) (blk := wX8_findsWhole_8) (np := 10) (tt := 0) (kN := fun xs h st => app [0, 0, 0, 0] (apS [1, 2] (fun s0 s1 => fX8_findsWhole_10 s0 s1 h) st) xs) (kT := fun _ _ _ => none) (kR := kRZ)
    (fun xs h st q => jm [0, 0, 0, 0] _ (fun q => apS_ok [1, 2] _ (fun st => Ev (d + 5) none mX8_findsWhole (0, 0) 10 [.null, .null, .null, .null] st h (QZ z)) st (fun s0 s1 q => tX8_findsWhole_10 s0 s1 h q) q) q)
    (fun _ _ _ q => nos q)
    kRZ_ok (Or.inr rfl) (by decide +kernel) (by decide +kernel) hf
def wX8_findsWhole_5 : List En := [(.ifCond .ne 9, 14, 0, 0)]
def fX8_findsWhole_5 (v0 : Nat) (v2 : Int32) (v3 : Int32) (s0 : Int32) (h : aH) : Option (Int32 × aH) :=
  if s0 = 0 then fX8_findsWhole_8 v0 h else fX8_findsWhole_14 v0 v2 v3 h
theorem tX8_findsWhole_5 {d : Nat} {z : Int32 × aH} (v0 : Nat) (v2 : Int32) (v3 : Int32) (s0 : Int32) (h : aH) (hf : fX8_findsWhole_5 v0 v2 v3 s0 h = some z) : Ev (d + 5) none mX8_findsWhole (0, 0) 5 [.ref v0, .null, .int v2, .int v3] [.int s0] h (QZ z) := 
  go_ok (X := none) (blk := wX8_findsWhole_5) (np := 8) (tt := 14) (kN := fun xs h st => app [2, 0, 0, 0] (fun v0 => apS [] (fX8_findsWhole_8 v0 h) st) xs) (kT := fun xs h st => app [2, 0, 1, 1] (fun v0 v2 v3 => apS [] (fX8_findsWhole_14 v0 v2 v3 h) st) xs) (kR := kRZ)
    (fun xs h st q => jm [2, 0, 0, 0] _ (fun v0 q => apS_ok [] _ (fun st => Ev (d + 5) none mX8_findsWhole (0, 0) 8 [.ref v0, .null, .null, .null] st h (QZ z)) st (fun q => tX8_findsWhole_8 v0 h q) q) q)
    (fun xs h st q => jm [2, 0, 1, 1] _ (fun v0 v2 v3 q => apS_ok [] _ (fun st => Ev (d + 5) none mX8_findsWhole (0, 0) 14 [.ref v0, .null, .int v2, .int v3] st h (QZ z)) st (fun q => tX8_findsWhole_14 v0 v2 v3 h q) q) q)
    kRZ_ok (Or.inr rfl) (by decide +kernel) (by decide +kernel) hf
theorem kqX8_findsWhole_2 : okC mX8_findsWhole 2 (.invokevirtual 204) 25 18 0 1 = true := by decide +kernel
def fX8_findsWhole_2 (v0 : Nat) (v2 : Int32) (v3 : Int32) (s0 : Nat) (s1 : Nat) (h : aH) : Option (Int32 × aH) :=
  (isO h 8 s1).bind fun _ =>
  (gX8_isWord s1 s0 h).bind fun r =>
  fX8_findsWhole_5 v0 v2 v3 r.1 r.2
theorem tX8_findsWhole_2 {d : Nat} {z : Int32 × aH} (v0 : Nat) (v2 : Int32) (v3 : Int32) (s0 : Nat) (s1 : Nat) (h : aH) (hf : fX8_findsWhole_2 v0 v2 v3 s0 s1 h = some z) : Ev (d + 5) none mX8_findsWhole (0, 0) 2 [.ref v0, .null, .int v2, .int v3] [.ref s0, .ref s1] h (QZ z) := by
  obtain ⟨_, h1, hf⟩ := bnd hf
  obtain ⟨fs, ho⟩ := isO_ok h1
  obtain ⟨r, h2, hf⟩ := bnd hf
  refine ev_V kqX8_findsWhole_2 jX8_isWord (zX8_isWord (d := d + 0) h2) ho rfl rfl (Nat.le_of_ble_eq_true rfl) rfl (as := [.ref s0]) (rest := []) rfl (Nat.le_of_ble_eq_true rfl) (fun _ _ hq => ?_)
  obtain ⟨-, rfl, rfl⟩ := hq
  exact jm [2, 0, 1, 1] (fun v0 v2 v3 => fX8_findsWhole_5 v0 v2 v3 r.1 r.2) (fun v0 v2 v3 q => tX8_findsWhole_5 v0 v2 v3 r.1 r.2 q) hf
def wX8_findsWhole_0 : List En := [(.aload_n 0, 0, 0, 0), (.aload_n 1, 0, 0, 0)]
def fX8_findsWhole_0 (v0 : Nat) (v1 : Nat) (v2 : Int32) (v3 : Int32) (h : aH) : Option (Int32 × aH) :=
  fX8_findsWhole_2 v0 v2 v3 v1 v0 h
theorem tX8_findsWhole_0 {d : Nat} {z : Int32 × aH} (v0 : Nat) (v1 : Nat) (v2 : Int32) (v3 : Int32) (h : aH) (hf : fX8_findsWhole_0 v0 v1 v2 v3 h = some z) : Ev (d + 5) none mX8_findsWhole (0, 0) 0 [.ref v0, .ref v1, .int v2, .int v3] [] h (QZ z) := 
  go_ok (X := none) (blk := wX8_findsWhole_0) (np := 2) (tt := 0) (kN := fun xs h st => app [2, 0, 1, 1] (fun v0 v2 v3 => apS [2, 2] (fun s0 s1 => fX8_findsWhole_2 v0 v2 v3 s0 s1 h) st) xs) (kT := fun _ _ _ => none) (kR := kRZ)
    (fun xs h st q => jm [2, 0, 1, 1] _ (fun v0 v2 v3 q => apS_ok [2, 2] _ (fun st => Ev (d + 5) none mX8_findsWhole (0, 0) 2 [.ref v0, .null, .int v2, .int v3] st h (QZ z)) st (fun s0 s1 q => tX8_findsWhole_2 v0 v2 v3 s0 s1 h q) q) q)
    (fun _ _ _ q => nos q)
    kRZ_ok (Or.inr rfl) (by decide +kernel) (by decide +kernel) hf
def gX8_findsWhole (v0 : Nat) (v1 : Nat) (v2 : Int32) (v3 : Int32) (h : aH) : Option (Int32 × aH) := fX8_findsWhole_0 v0 v1 v2 v3 h
theorem zX8_findsWhole {d : Nat} {z : Int32 × aH} {v0 : Nat} {v1 : Nat} {v2 : Int32} {v3 : Int32} {h : aH} (q : gX8_findsWhole v0 v1 v2 v3 h = some z) : CT (d + 5) mX8_findsWhole (0, 0) [.ref v0, .ref v1, .int v2, .int v3] h (QZ z) :=
  ct_ev (by decide +kernel) (Nat.le_of_ble_eq_true rfl) QZ_r (jm [2, 2, 1, 1] (fun v0 v1 v2 v3 => fX8_findsWhole_0 v0 v1 v2 v3 h) (fun v0 v1 v2 v3 q => tX8_findsWhole_0 v0 v1 v2 v3 h q) q)
def wX8_toldNameHere_20 : List En := [(.pop, 0, 0, 0), (.iconst (-1), 0, 0, 0), (.ireturn, 0, 0, 0)]
def fX8_toldNameHere_20 (s0 : Int32) (h : aH) : Option (Int32 × aH) :=
  some ((kI (-1)), h)
theorem tX8_toldNameHere_20 {d : Nat} {z : Int32 × aH} (s0 : Int32) (h : aH) (hf : fX8_toldNameHere_20 s0 h = some z) : Ev (d + 6) none mX8_toldNameHere (0, 0) 20 [.null, .null, .null] [.int s0] h (QI z) := 
  go_ok (X := none) (blk := wX8_toldNameHere_20) (np := 23) (tt := 0) (kN := fun _ _ _ => none) (kT := fun _ _ _ => none) (kR := kRI)
    (fun _ _ _ q => nos q)
    (fun _ _ _ q => nos q)
    kRI_ok (Or.inr rfl) (by decide +kernel) (by decide +kernel) hf
theorem kqX8_toldNameHere_17 : okC mX8_toldNameHere 17 (.invokevirtual 73) 37 21 0 1 = true := by decide +kernel
def fX8_toldNameHere_17 (s0 : Int32) (s1 : Nat) (h : aH) : Option (Int32 × aH) :=
  (isO h 8 s1).bind fun _ =>
  (gX8_fail s1 s0 h).bind fun r =>
  fX8_toldNameHere_20 r.1 r.2
theorem tX8_toldNameHere_17 {d : Nat} {z : Int32 × aH} (s0 : Int32) (s1 : Nat) (h : aH) (hf : fX8_toldNameHere_17 s0 s1 h = some z) : Ev (d + 6) none mX8_toldNameHere (0, 0) 17 [.null, .null, .null] [.int s0, .ref s1] h (QI z) := by
  obtain ⟨_, h1, hf⟩ := bnd hf
  obtain ⟨fs, ho⟩ := isO_ok h1
  obtain ⟨r, h2, hf⟩ := bnd hf
  refine ev_V kqX8_toldNameHere_17 jX8_fail (zX8_fail (d := d + 5) h2) ho rfl rfl (Nat.le_of_ble_eq_true rfl) rfl (as := [.int s0]) (rest := []) rfl (Nat.le_of_ble_eq_true rfl) (fun _ _ hq => ?_)
  obtain ⟨-, rfl, rfl⟩ := hq
  exact jm [0, 0, 0] (fX8_toldNameHere_20 r.1 r.2) (fun q => tX8_toldNameHere_20 r.1 r.2 q) hf
def wX8_toldNameHere_15 : List En := [(.aload_n 0, 0, 0, 0), (.iconst 1, 0, 0, 0)]
def fX8_toldNameHere_15 (v0 : Nat) (h : aH) : Option (Int32 × aH) :=
  fX8_toldNameHere_17 (kI 1) v0 h
theorem tX8_toldNameHere_15 {d : Nat} {z : Int32 × aH} (v0 : Nat) (h : aH) (hf : fX8_toldNameHere_15 v0 h = some z) : Ev (d + 6) none mX8_toldNameHere (0, 0) 15 [.ref v0, .null, .null] [] h (QI z) := 
  go_ok (X := none) (blk := wX8_toldNameHere_15) (np := 17) (tt := 0) (kN := fun xs h st => app [0, 0, 0] (apS [1, 2] (fun s0 s1 => fX8_toldNameHere_17 s0 s1 h) st) xs) (kT := fun _ _ _ => none) (kR := kRI)
    (fun xs h st q => jm [0, 0, 0] _ (fun q => apS_ok [1, 2] _ (fun st => Ev (d + 6) none mX8_toldNameHere (0, 0) 17 [.null, .null, .null] st h (QI z)) st (fun s0 s1 q => tX8_toldNameHere_17 s0 s1 h q) q) q)
    (fun _ _ _ q => nos q)
    kRI_ok (Or.inr rfl) (by decide +kernel) (by decide +kernel) hf
def wX8_toldNameHere_47 : List En := [(.pop, 0, 0, 0), (.iconst (-1), 0, 0, 0), (.ireturn, 0, 0, 0)]
def fX8_toldNameHere_47 (s0 : Int32) (h : aH) : Option (Int32 × aH) :=
  some ((kI (-1)), h)
theorem tX8_toldNameHere_47 {d : Nat} {z : Int32 × aH} (s0 : Int32) (h : aH) (hf : fX8_toldNameHere_47 s0 h = some z) : Ev (d + 6) none mX8_toldNameHere (0, 0) 47 [.null, .null, .null] [.int s0] h (QI z) := 
  go_ok (X := none) (blk := wX8_toldNameHere_47) (np := 50) (tt := 0) (kN := fun _ _ _ => none) (kT := fun _ _ _ => none) (kR := kRI)
    (fun _ _ _ q => nos q)
    (fun _ _ _ q => nos q)
    kRI_ok (Or.inr rfl) (by decide +kernel) (by decide +kernel) hf
theorem kqX8_toldNameHere_44 : okC mX8_toldNameHere 44 (.invokevirtual 73) 37 21 0 1 = true := by decide +kernel
def fX8_toldNameHere_44 (s0 : Int32) (s1 : Nat) (h : aH) : Option (Int32 × aH) :=
  (isO h 8 s1).bind fun _ =>
  (gX8_fail s1 s0 h).bind fun r =>
  fX8_toldNameHere_47 r.1 r.2
theorem tX8_toldNameHere_44 {d : Nat} {z : Int32 × aH} (s0 : Int32) (s1 : Nat) (h : aH) (hf : fX8_toldNameHere_44 s0 s1 h = some z) : Ev (d + 6) none mX8_toldNameHere (0, 0) 44 [.null, .null, .null] [.int s0, .ref s1] h (QI z) := by
  obtain ⟨_, h1, hf⟩ := bnd hf
  obtain ⟨fs, ho⟩ := isO_ok h1
  obtain ⟨r, h2, hf⟩ := bnd hf
  refine ev_V kqX8_toldNameHere_44 jX8_fail (zX8_fail (d := d + 5) h2) ho rfl rfl (Nat.le_of_ble_eq_true rfl) rfl (as := [.int s0]) (rest := []) rfl (Nat.le_of_ble_eq_true rfl) (fun _ _ hq => ?_)
  obtain ⟨-, rfl, rfl⟩ := hq
  exact jm [0, 0, 0] (fX8_toldNameHere_47 r.1 r.2) (fun q => tX8_toldNameHere_47 r.1 r.2 q) hf
def wX8_toldNameHere_42 : List En := [(.aload_n 0, 0, 0, 0), (.iconst 2, 0, 0, 0)]
def fX8_toldNameHere_42 (v0 : Nat) (h : aH) : Option (Int32 × aH) :=
  fX8_toldNameHere_44 (kI 2) v0 h
theorem tX8_toldNameHere_42 {d : Nat} {z : Int32 × aH} (v0 : Nat) (h : aH) (hf : fX8_toldNameHere_42 v0 h = some z) : Ev (d + 6) none mX8_toldNameHere (0, 0) 42 [.ref v0, .null, .null] [] h (QI z) := 
  go_ok (X := none) (blk := wX8_toldNameHere_42) (np := 44) (tt := 0) (kN := fun xs h st => app [0, 0, 0] (apS [1, 2] (fun s0 s1 => fX8_toldNameHere_44 s0 s1 h) st) xs) (kT := fun _ _ _ => none) (kR := kRI)
    (fun xs h st q => jm [0, 0, 0] _ (fun q => apS_ok [1, 2] _ (fun st => Ev (d + 6) none mX8_toldNameHere (0, 0) 44 [.null, .null, .null] st h (QI z)) st (fun s0 s1 q => tX8_toldNameHere_44 s0 s1 h q) q) q)
    (fun _ _ _ q => nos q)
    kRI_ok (Or.inr rfl) (by decide +kernel) (by decide +kernel) hf
def wX8_toldNameHere_50 : List En := [(.iload_n 2, 0, 0, 0), (.ireturn, 0, 0, 0)]
def fX8_toldNameHere_50 (v2 : Int32) (h : aH) : Option (Int32 × aH) :=
  some (v2, h)
theorem tX8_toldNameHere_50 {d : Nat} {z : Int32 × aH} (v2 : Int32) (h : aH) (hf : fX8_toldNameHere_50 v2 h = some z) : Ev (d + 6) none mX8_toldNameHere (0, 0) 50 [.null, .null, .int v2] [] h (QI z) := 
  go_ok (X := none) (blk := wX8_toldNameHere_50) (np := 52) (tt := 0) (kN := fun _ _ _ => none) (kT := fun _ _ _ => none) (kR := kRI)
    (fun _ _ _ q => nos q)
    (fun _ _ _ q => nos q)
    kRI_ok (Or.inr rfl) (by decide +kernel) (by decide +kernel) hf
def wX8_toldNameHere_32 : List En := [(.aload_n 0, 0, 0, 0), (.getfield 22, 9, 8, 6), (.iload_n 2, 0, 0, 0), (.baload, 0, 0, 0), (.iload_n 1, 0, 0, 0), (.if_icmp .eq 11, 50, 0, 0)]
def fX8_toldNameHere_32 (v0 : Nat) (v1 : Int32) (v2 : Int32) (h : aH) : Option (Int32 × aH) :=
  (gFR h 8 v0 6).bind fun t1 =>
  (aRB (h[t1]?) v2).bind fun t2 =>
  if t2 = v1 then fX8_toldNameHere_50 v2 h else fX8_toldNameHere_42 v0 h
theorem tX8_toldNameHere_32 {d : Nat} {z : Int32 × aH} (v0 : Nat) (v1 : Int32) (v2 : Int32) (h : aH) (hf : fX8_toldNameHere_32 v0 v1 v2 h = some z) : Ev (d + 6) none mX8_toldNameHere (0, 0) 32 [.ref v0, .int v1, .int v2] [] h (QI z) := 
  go_ok (X := none) (blk := wX8_toldNameHere_32) (np := 42) (tt := 50) (kN := fun xs h st => app [2, 0, 0] (fun v0 => apS [] (fX8_toldNameHere_42 v0 h) st) xs) (kT := fun xs h st => app [0, 0, 1] (fun v2 => apS [] (fX8_toldNameHere_50 v2 h) st) xs) (kR := kRI)
    (fun xs h st q => jm [2, 0, 0] _ (fun v0 q => apS_ok [] _ (fun st => Ev (d + 6) none mX8_toldNameHere (0, 0) 42 [.ref v0, .null, .null] st h (QI z)) st (fun q => tX8_toldNameHere_42 v0 h q) q) q)
    (fun xs h st q => jm [0, 0, 1] _ (fun v2 q => apS_ok [] _ (fun st => Ev (d + 6) none mX8_toldNameHere (0, 0) 50 [.null, .null, .int v2] st h (QI z)) st (fun q => tX8_toldNameHere_50 v2 h q) q) q)
    kRI_ok (Or.inr rfl) (by decide +kernel) (by decide +kernel) hf
def wX8_toldNameHere_27 : List En := [(.istore_n 2, 0, 0, 0), (.iload_n 2, 0, 0, 0), (.ifCond .lt 13, 42, 0, 0)]
def fX8_toldNameHere_27 (v0 : Nat) (v1 : Int32) (s0 : Int32) (h : aH) : Option (Int32 × aH) :=
  if s0 < 0 then fX8_toldNameHere_42 v0 h else fX8_toldNameHere_32 v0 v1 s0 h
theorem tX8_toldNameHere_27 {d : Nat} {z : Int32 × aH} (v0 : Nat) (v1 : Int32) (s0 : Int32) (h : aH) (hf : fX8_toldNameHere_27 v0 v1 s0 h = some z) : Ev (d + 6) none mX8_toldNameHere (0, 0) 27 [.ref v0, .int v1, .null] [.int s0] h (QI z) := 
  go_ok (X := none) (blk := wX8_toldNameHere_27) (np := 32) (tt := 42) (kN := fun xs h st => app [2, 1, 1] (fun v0 v1 v2 => apS [] (fX8_toldNameHere_32 v0 v1 v2 h) st) xs) (kT := fun xs h st => app [2, 0, 0] (fun v0 => apS [] (fX8_toldNameHere_42 v0 h) st) xs) (kR := kRI)
    (fun xs h st q => jm [2, 1, 1] _ (fun v0 v1 v2 q => apS_ok [] _ (fun st => Ev (d + 6) none mX8_toldNameHere (0, 0) 32 [.ref v0, .int v1, .int v2] st h (QI z)) st (fun q => tX8_toldNameHere_32 v0 v1 v2 h q) q) q)
    (fun xs h st q => jm [2, 0, 0] _ (fun v0 q => apS_ok [] _ (fun st => Ev (d + 6) none mX8_toldNameHere (0, 0) 42 [.ref v0, .null, .null] st h (QI z)) st (fun q => tX8_toldNameHere_42 v0 h q) q) q)
    kRI_ok (Or.inr rfl) (by decide +kernel) (by decide +kernel) hf
theorem kqX8_toldNameHere_24 : okC mX8_toldNameHere 24 (.invokevirtual 208) 44 28 0 0 = true := by decide +kernel
def fX8_toldNameHere_24 (v0 : Nat) (v1 : Int32) (s0 : Nat) (h : aH) : Option (Int32 × aH) :=
  (isO h 8 s0).bind fun _ =>
  (gX8_wordHere s0 h).bind fun r =>
  fX8_toldNameHere_27 v0 v1 r.1 r.2
theorem tX8_toldNameHere_24 {d : Nat} {z : Int32 × aH} (v0 : Nat) (v1 : Int32) (s0 : Nat) (h : aH) (hf : fX8_toldNameHere_24 v0 v1 s0 h = some z) : Ev (d + 6) none mX8_toldNameHere (0, 0) 24 [.ref v0, .int v1, .null] [.ref s0] h (QI z) := by
  obtain ⟨_, h1, hf⟩ := bnd hf
  obtain ⟨fs, ho⟩ := isO_ok h1
  obtain ⟨r, h2, hf⟩ := bnd hf
  refine ev_V kqX8_toldNameHere_24 jX8_wordHere (zX8_wordHere (d := d + 4) h2) ho rfl rfl (Nat.le_of_ble_eq_true rfl) rfl (as := []) (rest := []) rfl (Nat.le_of_ble_eq_true rfl) (fun _ _ hq => ?_)
  obtain ⟨rfl, rfl⟩ := hq
  exact jm [2, 1, 0] (fun v0 v1 => fX8_toldNameHere_27 v0 v1 r.1 r.2) (fun v0 v1 q => tX8_toldNameHere_27 v0 v1 r.1 r.2 q) hf
def wX8_toldNameHere_23 : List En := [(.aload_n 0, 0, 0, 0)]
def fX8_toldNameHere_23 (v0 : Nat) (v1 : Int32) (h : aH) : Option (Int32 × aH) :=
  fX8_toldNameHere_24 v0 v1 v0 h
theorem tX8_toldNameHere_23 {d : Nat} {z : Int32 × aH} (v0 : Nat) (v1 : Int32) (h : aH) (hf : fX8_toldNameHere_23 v0 v1 h = some z) : Ev (d + 6) none mX8_toldNameHere (0, 0) 23 [.ref v0, .int v1, .null] [] h (QI z) := 
  go_ok (X := none) (blk := wX8_toldNameHere_23) (np := 24) (tt := 0) (kN := fun xs h st => app [2, 1, 0] (fun v0 v1 => apS [2] (fun s0 => fX8_toldNameHere_24 v0 v1 s0 h) st) xs) (kT := fun _ _ _ => none) (kR := kRI)
    (fun xs h st q => jm [2, 1, 0] _ (fun v0 v1 q => apS_ok [2] _ (fun st => Ev (d + 6) none mX8_toldNameHere (0, 0) 24 [.ref v0, .int v1, .null] st h (QI z)) st (fun s0 q => tX8_toldNameHere_24 v0 v1 s0 h q) q) q)
    (fun _ _ _ q => nos q)
    kRI_ok (Or.inr rfl) (by decide +kernel) (by decide +kernel) hf
def wX8_toldNameHere_12 : List En := [(.ifCond .lt 11, 23, 0, 0)]
def fX8_toldNameHere_12 (v0 : Nat) (v1 : Int32) (s0 : Int32) (h : aH) : Option (Int32 × aH) :=
  if s0 < 0 then fX8_toldNameHere_23 v0 v1 h else fX8_toldNameHere_15 v0 h
theorem tX8_toldNameHere_12 {d : Nat} {z : Int32 × aH} (v0 : Nat) (v1 : Int32) (s0 : Int32) (h : aH) (hf : fX8_toldNameHere_12 v0 v1 s0 h = some z) : Ev (d + 6) none mX8_toldNameHere (0, 0) 12 [.ref v0, .int v1, .null] [.int s0] h (QI z) := 
  go_ok (X := none) (blk := wX8_toldNameHere_12) (np := 15) (tt := 23) (kN := fun xs h st => app [2, 0, 0] (fun v0 => apS [] (fX8_toldNameHere_15 v0 h) st) xs) (kT := fun xs h st => app [2, 1, 0] (fun v0 v1 => apS [] (fX8_toldNameHere_23 v0 v1 h) st) xs) (kR := kRI)
    (fun xs h st q => jm [2, 0, 0] _ (fun v0 q => apS_ok [] _ (fun st => Ev (d + 6) none mX8_toldNameHere (0, 0) 15 [.ref v0, .null, .null] st h (QI z)) st (fun q => tX8_toldNameHere_15 v0 h q) q) q)
    (fun xs h st q => jm [2, 1, 0] _ (fun v0 v1 q => apS_ok [] _ (fun st => Ev (d + 6) none mX8_toldNameHere (0, 0) 23 [.ref v0, .int v1, .null] st h (QI z)) st (fun q => tX8_toldNameHere_23 v0 v1 h q) q) q)
    kRI_ok (Or.inr rfl) (by decide +kernel) (by decide +kernel) hf
theorem kqX8_toldNameHere_9 : okC mX8_toldNameHere 9 (.invokevirtual 83) 24 17 0 0 = true := by decide +kernel
def fX8_toldNameHere_9 (v0 : Nat) (v1 : Int32) (s0 : Nat) (h : aH) : Option (Int32 × aH) :=
  (isO h 8 s0).bind fun _ =>
  (gX8_lineSort s0 h).bind fun r =>
  fX8_toldNameHere_12 v0 v1 r.1 r.2
theorem tX8_toldNameHere_9 {d : Nat} {z : Int32 × aH} (v0 : Nat) (v1 : Int32) (s0 : Nat) (h : aH) (hf : fX8_toldNameHere_9 v0 v1 s0 h = some z) : Ev (d + 6) none mX8_toldNameHere (0, 0) 9 [.ref v0, .int v1, .null] [.ref s0] h (QI z) := by
  obtain ⟨_, h1, hf⟩ := bnd hf
  obtain ⟨fs, ho⟩ := isO_ok h1
  obtain ⟨r, h2, hf⟩ := bnd hf
  refine ev_V kqX8_toldNameHere_9 jX8_lineSort (zX8_lineSort (d := d + 0) h2) ho rfl rfl (Nat.le_of_ble_eq_true rfl) rfl (as := []) (rest := []) rfl (Nat.le_of_ble_eq_true rfl) (fun _ _ hq => ?_)
  obtain ⟨rfl, rfl⟩ := hq
  exact jm [2, 1, 0] (fun v0 v1 => fX8_toldNameHere_12 v0 v1 r.1 r.2) (fun v0 v1 q => tX8_toldNameHere_12 v0 v1 r.1 r.2 q) hf
def wX8_toldNameHere_8 : List En := [(.aload_n 0, 0, 0, 0)]
def fX8_toldNameHere_8 (v0 : Nat) (v1 : Int32) (h : aH) : Option (Int32 × aH) :=
  fX8_toldNameHere_9 v0 v1 v0 h
theorem tX8_toldNameHere_8 {d : Nat} {z : Int32 × aH} (v0 : Nat) (v1 : Int32) (h : aH) (hf : fX8_toldNameHere_8 v0 v1 h = some z) : Ev (d + 6) none mX8_toldNameHere (0, 0) 8 [.ref v0, .int v1, .null] [] h (QI z) := 
  go_ok (X := none) (blk := wX8_toldNameHere_8) (np := 9) (tt := 0) (kN := fun xs h st => app [2, 1, 0] (fun v0 v1 => apS [2] (fun s0 => fX8_toldNameHere_9 v0 v1 s0 h) st) xs) (kT := fun _ _ _ => none) (kR := kRI)
    (fun xs h st q => jm [2, 1, 0] _ (fun v0 v1 q => apS_ok [2] _ (fun st => Ev (d + 6) none mX8_toldNameHere (0, 0) 9 [.ref v0, .int v1, .null] st h (QI z)) st (fun s0 q => tX8_toldNameHere_9 v0 v1 s0 h q) q) q)
    (fun _ _ _ q => nos q)
    kRI_ok (Or.inr rfl) (by decide +kernel) (by decide +kernel) hf
def wX8_toldNameHere_0 : List En := [(.aload_n 0, 0, 0, 0), (.getfield 70, 15, 8, 12), (.iconst 2, 0, 0, 0), (.if_icmp .ne 10, 15, 0, 0)]
def fX8_toldNameHere_0 (v0 : Nat) (v1 : Int32) (h : aH) : Option (Int32 × aH) :=
  (gFI h 8 v0 12).bind fun t1 =>
  if t1 = (kI 2) then fX8_toldNameHere_8 v0 v1 h else fX8_toldNameHere_15 v0 h
theorem tX8_toldNameHere_0 {d : Nat} {z : Int32 × aH} (v0 : Nat) (v1 : Int32) (h : aH) (hf : fX8_toldNameHere_0 v0 v1 h = some z) : Ev (d + 6) none mX8_toldNameHere (0, 0) 0 [.ref v0, .int v1, .null] [] h (QI z) := 
  go_ok (X := none) (blk := wX8_toldNameHere_0) (np := 8) (tt := 15) (kN := fun xs h st => app [2, 1, 0] (fun v0 v1 => apS [] (fX8_toldNameHere_8 v0 v1 h) st) xs) (kT := fun xs h st => app [2, 0, 0] (fun v0 => apS [] (fX8_toldNameHere_15 v0 h) st) xs) (kR := kRI)
    (fun xs h st q => jm [2, 1, 0] _ (fun v0 v1 q => apS_ok [] _ (fun st => Ev (d + 6) none mX8_toldNameHere (0, 0) 8 [.ref v0, .int v1, .null] st h (QI z)) st (fun q => tX8_toldNameHere_8 v0 v1 h q) q) q)
    (fun xs h st q => jm [2, 0, 0] _ (fun v0 q => apS_ok [] _ (fun st => Ev (d + 6) none mX8_toldNameHere (0, 0) 15 [.ref v0, .null, .null] st h (QI z)) st (fun q => tX8_toldNameHere_15 v0 h q) q) q)
    kRI_ok (Or.inr rfl) (by decide +kernel) (by decide +kernel) hf
def gX8_toldNameHere (v0 : Nat) (v1 : Int32) (h : aH) : Option (Int32 × aH) := fX8_toldNameHere_0 v0 v1 h
theorem zX8_toldNameHere {d : Nat} {z : Int32 × aH} {v0 : Nat} {v1 : Int32} {h : aH} (q : gX8_toldNameHere v0 v1 h = some z) : CT (d + 6) mX8_toldNameHere (0, 0) [.ref v0, .int v1] h (QI z) :=
  ct_ev (by decide +kernel) (Nat.le_of_ble_eq_true rfl) QI_r (jm [2, 1, 0] (fun v0 v1 => fX8_toldNameHere_0 v0 v1 h) (fun v0 v1 q => tX8_toldNameHere_0 v0 v1 h q) q)
def wX8_readFast_96 : List En := [(.iconst 1, 0, 0, 0), (.ireturn, 0, 0, 0)]
def fX8_readFast_96 (h : aH) : Option (Int32 × aH) :=
  if (kI 1) = 0 ∨ (kI 1) = 1 then some ((kI 1), h) else none
theorem tX8_readFast_96 {d : Nat} {z : Int32 × aH} (h : aH) (hf : fX8_readFast_96 h = some z) : Ev (d + 7) none mX8_readFast (0, 0) 96 [.null, .null, .null, .null] [] h (QZ z) := 
  go_ok (X := none) (blk := wX8_readFast_96) (np := 98) (tt := 0) (kN := fun _ _ _ => none) (kT := fun _ _ _ => none) (kR := kRZ)
    (fun _ _ _ q => nos q)
    (fun _ _ _ q => nos q)
    kRZ_ok (Or.inr rfl) (by decide +kernel) (by decide +kernel) hf
theorem kqX8_readFast_93 : okC mX8_readFast 93 (.invokevirtual 63) 18 11 0 0 = true := by decide +kernel
def fX8_readFast_93 (s0 : Nat) (h : aH) : Option (Int32 × aH) :=
  (isO h 8 s0).bind fun _ =>
  (gX8_step s0 h).bind fun r =>
  fX8_readFast_96 r
theorem tX8_readFast_93 {d : Nat} {z : Int32 × aH} (s0 : Nat) (h : aH) (hf : fX8_readFast_93 s0 h = some z) : Ev (d + 7) none mX8_readFast (0, 0) 93 [.null, .null, .null, .null] [.ref s0] h (QZ z) := by
  obtain ⟨_, h1, hf⟩ := bnd hf
  obtain ⟨fs, ho⟩ := isO_ok h1
  obtain ⟨r, h2, hf⟩ := bnd hf
  refine ev_V kqX8_readFast_93 jX8_step (zX8_step (d := d + 4) h2) ho rfl rfl (Nat.le_of_ble_eq_true rfl) rfl (as := []) (rest := []) rfl (Nat.le_of_ble_eq_true rfl) (fun _ _ hq => ?_)
  obtain ⟨rfl, hh⟩ := hq
  rw [hh]
  exact jm [0, 0, 0, 0] (fX8_readFast_96 r) (fun q => tX8_readFast_96 r q) hf
def wX8_readFast_59 : List En := [(.aload_n 1, 0, 0, 0), (.getfield 176, 147, 9, 13), (.aload_n 1, 0, 0, 0), (.getfield 112, 118, 9, 5), (.iload_n 3, 0, 0, 0), (.iastore, 0, 0, 0), (.aload_n 1, 0, 0, 0), (.getfield 179, 149, 9, 14), (.aload_n 1, 0, 0, 0), (.getfield 112, 118, 9, 5), (.aload_n 0, 0, 0, 0), (.getfield 127, 16, 8, 13), (.iastore, 0, 0, 0), (.aload_n 1, 0, 0, 0), (.dup, 0, 0, 0), (.getfield 112, 118, 9, 5), (.iconst 1, 0, 0, 0), (.iadd, 0, 0, 0), (.putfield 112, 118, 9, 5), (.aload_n 0, 0, 0, 0)]
def fX8_readFast_59 (v0 : Nat) (v1 : Nat) (v3 : Int32) (h : aH) : Option (Int32 × aH) :=
  (gFR h 9 v1 13).bind fun t1 =>
  (gFI h 9 v1 5).bind fun t2 =>
  (aWI h t1 t2 v3).bind fun h3 =>
  (gFR h3 9 v1 14).bind fun t4 =>
  (gFI h3 9 v1 5).bind fun t5 =>
  (gFI h3 8 v0 13).bind fun t6 =>
  (aWI h3 t4 t5 t6).bind fun h7 =>
  (gFI h7 9 v1 5).bind fun t8 =>
  (pWV h7 9 v1 5 (.int (t8 + (kI 1)))).bind fun h9 =>
  fX8_readFast_93 v0 h9
theorem tX8_readFast_59 {d : Nat} {z : Int32 × aH} (v0 : Nat) (v1 : Nat) (v3 : Int32) (h : aH) (hf : fX8_readFast_59 v0 v1 v3 h = some z) : Ev (d + 7) none mX8_readFast (0, 0) 59 [.ref v0, .ref v1, .null, .int v3] [] h (QZ z) := 
  go_ok (X := none) (blk := wX8_readFast_59) (np := 93) (tt := 0) (kN := fun xs h st => app [0, 0, 0, 0] (apS [2] (fun s0 => fX8_readFast_93 s0 h) st) xs) (kT := fun _ _ _ => none) (kR := kRZ)
    (fun xs h st q => jm [0, 0, 0, 0] _ (fun q => apS_ok [2] _ (fun st => Ev (d + 7) none mX8_readFast (0, 0) 93 [.null, .null, .null, .null] st h (QZ z)) st (fun s0 q => tX8_readFast_93 s0 h q) q) q)
    (fun _ _ _ q => nos q)
    kRZ_ok (Or.inr rfl) (by decide +kernel) (by decide +kernel) hf
def wX8_readFast_58 : List En := [(.ireturn, 0, 0, 0)]
def fX8_readFast_58 (s0 : Int32) (h : aH) : Option (Int32 × aH) :=
  if s0 = 0 ∨ s0 = 1 then some (s0, h) else none
theorem tX8_readFast_58 {d : Nat} {z : Int32 × aH} (s0 : Int32) (h : aH) (hf : fX8_readFast_58 s0 h = some z) : Ev (d + 7) none mX8_readFast (0, 0) 58 [.null, .null, .null, .null] [.int s0] h (QZ z) := 
  go_ok (X := none) (blk := wX8_readFast_58) (np := 59) (tt := 0) (kN := fun _ _ _ => none) (kT := fun _ _ _ => none) (kR := kRZ)
    (fun _ _ _ q => nos q)
    (fun _ _ _ q => nos q)
    kRZ_ok (Or.inr rfl) (by decide +kernel) (by decide +kernel) hf
theorem kqX8_readFast_55 : okC mX8_readFast 55 (.invokevirtual 73) 37 21 0 1 = true := by decide +kernel
def fX8_readFast_55 (s0 : Int32) (s1 : Nat) (h : aH) : Option (Int32 × aH) :=
  (isO h 8 s1).bind fun _ =>
  (gX8_fail s1 s0 h).bind fun r =>
  fX8_readFast_58 r.1 r.2
theorem tX8_readFast_55 {d : Nat} {z : Int32 × aH} (s0 : Int32) (s1 : Nat) (h : aH) (hf : fX8_readFast_55 s0 s1 h = some z) : Ev (d + 7) none mX8_readFast (0, 0) 55 [.null, .null, .null, .null] [.int s0, .ref s1] h (QZ z) := by
  obtain ⟨_, h1, hf⟩ := bnd hf
  obtain ⟨fs, ho⟩ := isO_ok h1
  obtain ⟨r, h2, hf⟩ := bnd hf
  refine ev_V kqX8_readFast_55 jX8_fail (zX8_fail (d := d + 6) h2) ho rfl rfl (Nat.le_of_ble_eq_true rfl) rfl (as := [.int s0]) (rest := []) rfl (Nat.le_of_ble_eq_true rfl) (fun _ _ hq => ?_)
  obtain ⟨-, rfl, rfl⟩ := hq
  exact jm [0, 0, 0, 0] (fX8_readFast_58 r.1 r.2) (fun q => tX8_readFast_58 r.1 r.2 q) hf
def wX8_readFast_53 : List En := [(.aload_n 0, 0, 0, 0), (.iconst 3, 0, 0, 0)]
def fX8_readFast_53 (v0 : Nat) (h : aH) : Option (Int32 × aH) :=
  fX8_readFast_55 (kI 3) v0 h
theorem tX8_readFast_53 {d : Nat} {z : Int32 × aH} (v0 : Nat) (h : aH) (hf : fX8_readFast_53 v0 h = some z) : Ev (d + 7) none mX8_readFast (0, 0) 53 [.ref v0, .null, .null, .null] [] h (QZ z) := 
  go_ok (X := none) (blk := wX8_readFast_53) (np := 55) (tt := 0) (kN := fun xs h st => app [0, 0, 0, 0] (apS [1, 2] (fun s0 s1 => fX8_readFast_55 s0 s1 h) st) xs) (kT := fun _ _ _ => none) (kR := kRZ)
    (fun xs h st q => jm [0, 0, 0, 0] _ (fun q => apS_ok [1, 2] _ (fun st => Ev (d + 7) none mX8_readFast (0, 0) 55 [.null, .null, .null, .null] st h (QZ z)) st (fun s0 s1 q => tX8_readFast_55 s0 s1 h q) q) q)
    (fun _ _ _ q => nos q)
    kRZ_ok (Or.inr rfl) (by decide +kernel) (by decide +kernel) hf
def wX8_readFast_45 : List En := [(.iload_n 3, 0, 0, 0), (.ishr, 0, 0, 0), (.iconst 1, 0, 0, 0), (.iand, 0, 0, 0), (.iconst 1, 0, 0, 0), (.if_icmp .ne 9, 59, 0, 0)]
def fX8_readFast_45 (v0 : Nat) (v1 : Nat) (v3 : Int32) (s0 : Int32) (h : aH) : Option (Int32 × aH) :=
  if ((s0 >>> (v3 &&& 31)) &&& (kI 1)) = (kI 1) then fX8_readFast_53 v0 h else fX8_readFast_59 v0 v1 v3 h
theorem tX8_readFast_45 {d : Nat} {z : Int32 × aH} (v0 : Nat) (v1 : Nat) (v3 : Int32) (s0 : Int32) (h : aH) (hf : fX8_readFast_45 v0 v1 v3 s0 h = some z) : Ev (d + 7) none mX8_readFast (0, 0) 45 [.ref v0, .ref v1, .null, .int v3] [.int s0] h (QZ z) := 
  go_ok (X := none) (blk := wX8_readFast_45) (np := 53) (tt := 59) (kN := fun xs h st => app [2, 0, 0, 0] (fun v0 => apS [] (fX8_readFast_53 v0 h) st) xs) (kT := fun xs h st => app [2, 2, 0, 1] (fun v0 v1 v3 => apS [] (fX8_readFast_59 v0 v1 v3 h) st) xs) (kR := kRZ)
    (fun xs h st q => jm [2, 0, 0, 0] _ (fun v0 q => apS_ok [] _ (fun st => Ev (d + 7) none mX8_readFast (0, 0) 53 [.ref v0, .null, .null, .null] st h (QZ z)) st (fun q => tX8_readFast_53 v0 h q) q) q)
    (fun xs h st q => jm [2, 2, 0, 1] _ (fun v0 v1 v3 q => apS_ok [] _ (fun st => Ev (d + 7) none mX8_readFast (0, 0) 59 [.ref v0, .ref v1, .null, .int v3] st h (QZ z)) st (fun q => tX8_readFast_59 v0 v1 v3 h q) q) q)
    kRZ_ok (Or.inr rfl) (by decide +kernel) (by decide +kernel) hf
theorem kqX8_readFast_42 : okC mX8_readFast 42 (.invokevirtual 172) 51 35 0 1 = true := by decide +kernel
def fX8_readFast_42 (v0 : Nat) (v1 : Nat) (v3 : Int32) (s0 : Int32) (s1 : Nat) (h : aH) : Option (Int32 × aH) :=
  (isO h 9 s1).bind fun _ =>
  (gX9_fastingOn s1 s0 h).bind fun r =>
  fX8_readFast_45 v0 v1 v3 r.1 r.2
theorem tX8_readFast_42 {d : Nat} {z : Int32 × aH} (v0 : Nat) (v1 : Nat) (v3 : Int32) (s0 : Int32) (s1 : Nat) (h : aH) (hf : fX8_readFast_42 v0 v1 v3 s0 s1 h = some z) : Ev (d + 7) none mX8_readFast (0, 0) 42 [.ref v0, .ref v1, .null, .int v3] [.int s0, .ref s1] h (QZ z) := by
  obtain ⟨_, h1, hf⟩ := bnd hf
  obtain ⟨fs, ho⟩ := isO_ok h1
  obtain ⟨r, h2, hf⟩ := bnd hf
  refine ev_V kqX8_readFast_42 jX9_fastingOn (zX9_fastingOn (d := d + 6) h2) ho rfl rfl (Nat.le_of_ble_eq_true rfl) rfl (as := [.int s0]) (rest := []) rfl (Nat.le_of_ble_eq_true rfl) (fun _ _ hq => ?_)
  obtain ⟨rfl, rfl⟩ := hq
  exact jm [2, 2, 0, 1] (fun v0 v1 v3 => fX8_readFast_45 v0 v1 v3 r.1 r.2) (fun v0 v1 v3 q => tX8_readFast_45 v0 v1 v3 r.1 r.2 q) hf
def wX8_readFast_37 : List En := [(.aload_n 1, 0, 0, 0), (.aload_n 0, 0, 0, 0), (.getfield 127, 16, 8, 13)]
def fX8_readFast_37 (v0 : Nat) (v1 : Nat) (v3 : Int32) (h : aH) : Option (Int32 × aH) :=
  (gFI h 8 v0 13).bind fun t1 =>
  fX8_readFast_42 v0 v1 v3 t1 v1 h
theorem tX8_readFast_37 {d : Nat} {z : Int32 × aH} (v0 : Nat) (v1 : Nat) (v3 : Int32) (h : aH) (hf : fX8_readFast_37 v0 v1 v3 h = some z) : Ev (d + 7) none mX8_readFast (0, 0) 37 [.ref v0, .ref v1, .null, .int v3] [] h (QZ z) := 
  go_ok (X := none) (blk := wX8_readFast_37) (np := 42) (tt := 0) (kN := fun xs h st => app [2, 2, 0, 1] (fun v0 v1 v3 => apS [1, 2] (fun s0 s1 => fX8_readFast_42 v0 v1 v3 s0 s1 h) st) xs) (kT := fun _ _ _ => none) (kR := kRZ)
    (fun xs h st q => jm [2, 2, 0, 1] _ (fun v0 v1 v3 q => apS_ok [1, 2] _ (fun st => Ev (d + 7) none mX8_readFast (0, 0) 42 [.ref v0, .ref v1, .null, .int v3] st h (QZ z)) st (fun s0 s1 q => tX8_readFast_42 v0 v1 v3 s0 s1 h q) q) q)
    (fun _ _ _ q => nos q)
    kRZ_ok (Or.inr rfl) (by decide +kernel) (by decide +kernel) hf
def wX8_readFast_35 : List En := [(.iconst 0, 0, 0, 0), (.ireturn, 0, 0, 0)]
def fX8_readFast_35 (h : aH) : Option (Int32 × aH) :=
  if (kI 0) = 0 ∨ (kI 0) = 1 then some ((kI 0), h) else none
theorem tX8_readFast_35 {d : Nat} {z : Int32 × aH} (h : aH) (hf : fX8_readFast_35 h = some z) : Ev (d + 7) none mX8_readFast (0, 0) 35 [.null, .null, .null, .null] [] h (QZ z) := 
  go_ok (X := none) (blk := wX8_readFast_35) (np := 37) (tt := 0) (kN := fun _ _ _ => none) (kT := fun _ _ _ => none) (kR := kRZ)
    (fun _ _ _ q => nos q)
    (fun _ _ _ q => nos q)
    kRZ_ok (Or.inr rfl) (by decide +kernel) (by decide +kernel) hf
def wX8_readFast_32 : List En := [(.ifCond .ne 5, 37, 0, 0)]
def fX8_readFast_32 (v0 : Nat) (v1 : Nat) (v3 : Int32) (s0 : Int32) (h : aH) : Option (Int32 × aH) :=
  if s0 = 0 then fX8_readFast_35 h else fX8_readFast_37 v0 v1 v3 h
theorem tX8_readFast_32 {d : Nat} {z : Int32 × aH} (v0 : Nat) (v1 : Nat) (v3 : Int32) (s0 : Int32) (h : aH) (hf : fX8_readFast_32 v0 v1 v3 s0 h = some z) : Ev (d + 7) none mX8_readFast (0, 0) 32 [.ref v0, .ref v1, .null, .int v3] [.int s0] h (QZ z) := 
  go_ok (X := none) (blk := wX8_readFast_32) (np := 35) (tt := 37) (kN := fun xs h st => app [0, 0, 0, 0] (apS [] (fX8_readFast_35 h) st) xs) (kT := fun xs h st => app [2, 2, 0, 1] (fun v0 v1 v3 => apS [] (fX8_readFast_37 v0 v1 v3 h) st) xs) (kR := kRZ)
    (fun xs h st q => jm [0, 0, 0, 0] _ (fun q => apS_ok [] _ (fun st => Ev (d + 7) none mX8_readFast (0, 0) 35 [.null, .null, .null, .null] st h (QZ z)) st (fun q => tX8_readFast_35 h q) q) q)
    (fun xs h st q => jm [2, 2, 0, 1] _ (fun v0 v1 v3 q => apS_ok [] _ (fun st => Ev (d + 7) none mX8_readFast (0, 0) 37 [.ref v0, .ref v1, .null, .int v3] st h (QZ z)) st (fun q => tX8_readFast_37 v0 v1 v3 h q) q) q)
    kRZ_ok (Or.inr rfl) (by decide +kernel) (by decide +kernel) hf
theorem kqX8_readFast_29 : okC mX8_readFast 29 (.invokevirtual 123) 40 24 0 3 = true := by decide +kernel
def fX8_readFast_29 (v0 : Nat) (v1 : Nat) (v3 : Int32) (s0 : Int32) (s1 : Int32) (s2 : Nat) (s3 : Nat) (h : aH) : Option (Int32 × aH) :=
  (isO h 8 s3).bind fun _ =>
  (gX8_findsWhole s3 s2 s1 s0 h).bind fun r =>
  fX8_readFast_32 v0 v1 v3 r.1 r.2
theorem tX8_readFast_29 {d : Nat} {z : Int32 × aH} (v0 : Nat) (v1 : Nat) (v3 : Int32) (s0 : Int32) (s1 : Int32) (s2 : Nat) (s3 : Nat) (h : aH) (hf : fX8_readFast_29 v0 v1 v3 s0 s1 s2 s3 h = some z) : Ev (d + 7) none mX8_readFast (0, 0) 29 [.ref v0, .ref v1, .null, .int v3] [.int s0, .int s1, .ref s2, .ref s3] h (QZ z) := by
  obtain ⟨_, h1, hf⟩ := bnd hf
  obtain ⟨fs, ho⟩ := isO_ok h1
  obtain ⟨r, h2, hf⟩ := bnd hf
  refine ev_V kqX8_readFast_29 jX8_findsWhole (zX8_findsWhole (d := d + 1) h2) ho rfl rfl (Nat.le_of_ble_eq_true rfl) rfl (as := [.ref s2, .int s1, .int s0]) (rest := []) rfl (Nat.le_of_ble_eq_true rfl) (fun _ _ hq => ?_)
  obtain ⟨-, rfl, rfl⟩ := hq
  exact jm [2, 2, 0, 1] (fun v0 v1 v3 => fX8_readFast_32 v0 v1 v3 r.1 r.2) (fun v0 v1 v3 q => tX8_readFast_32 v0 v1 v3 r.1 r.2 q) hf
def wX8_readFast_26 : List En := [(.iconst 1, 0, 0, 0), (.bipush 60, 0, 0, 0)]
def fX8_readFast_26 (v0 : Nat) (v1 : Nat) (v3 : Int32) (s0 : Nat) (s1 : Nat) (h : aH) : Option (Int32 × aH) :=
  fX8_readFast_29 v0 v1 v3 (kB 60) (kI 1) s0 s1 h
theorem tX8_readFast_26 {d : Nat} {z : Int32 × aH} (v0 : Nat) (v1 : Nat) (v3 : Int32) (s0 : Nat) (s1 : Nat) (h : aH) (hf : fX8_readFast_26 v0 v1 v3 s0 s1 h = some z) : Ev (d + 7) none mX8_readFast (0, 0) 26 [.ref v0, .ref v1, .null, .int v3] [.ref s0, .ref s1] h (QZ z) := 
  go_ok (X := none) (blk := wX8_readFast_26) (np := 29) (tt := 0) (kN := fun xs h st => app [2, 2, 0, 1] (fun v0 v1 v3 => apS [1, 1, 2, 2] (fun s0 s1 s2 s3 => fX8_readFast_29 v0 v1 v3 s0 s1 s2 s3 h) st) xs) (kT := fun _ _ _ => none) (kR := kRZ)
    (fun xs h st q => jm [2, 2, 0, 1] _ (fun v0 v1 v3 q => apS_ok [1, 1, 2, 2] _ (fun st => Ev (d + 7) none mX8_readFast (0, 0) 29 [.ref v0, .ref v1, .null, .int v3] st h (QZ z)) st (fun s0 s1 s2 s3 q => tX8_readFast_29 v0 v1 v3 s0 s1 s2 s3 h q) q) q)
    (fun _ _ _ q => nos q)
    kRZ_ok (Or.inr rfl) (by decide +kernel) (by decide +kernel) hf
theorem kqX8_readFast_24 : ckS mX8_readFast 24 170 16 = true := by decide +kernel -- day
def fX8_readFast_24 (v0 : Nat) (v1 : Nat) (v3 : Int32) (s0 : Nat) (h : aH) : Option (Int32 × aH) :=
  fX8_readFast_26 v0 v1 v3 (SB + 16) s0 h
theorem tX8_readFast_24 {d : Nat} {z : Int32 × aH} (v0 : Nat) (v1 : Nat) (v3 : Int32) (s0 : Nat) (h : aH) (hf : fX8_readFast_24 v0 v1 v3 s0 h = some z) : Ev (d + 7) none mX8_readFast (0, 0) 24 [.ref v0, .ref v1, .null, .int v3] [.ref s0] h (QZ z) := 
  ev_ldcS kqX8_readFast_24 rfl (jm [2, 2, 0, 1] (fun v0 v1 v3 => fX8_readFast_26 v0 v1 v3 (SB + 16) s0 h) (fun v0 v1 v3 q => tX8_readFast_26 v0 v1 v3 (SB + 16) s0 h q) hf)
def wX8_readFast_23 : List En := [(.aload_n 0, 0, 0, 0)]
def fX8_readFast_23 (v0 : Nat) (v1 : Nat) (v3 : Int32) (h : aH) : Option (Int32 × aH) :=
  fX8_readFast_24 v0 v1 v3 v0 h
theorem tX8_readFast_23 {d : Nat} {z : Int32 × aH} (v0 : Nat) (v1 : Nat) (v3 : Int32) (h : aH) (hf : fX8_readFast_23 v0 v1 v3 h = some z) : Ev (d + 7) none mX8_readFast (0, 0) 23 [.ref v0, .ref v1, .null, .int v3] [] h (QZ z) := 
  go_ok (X := none) (blk := wX8_readFast_23) (np := 24) (tt := 0) (kN := fun xs h st => app [2, 2, 0, 1] (fun v0 v1 v3 => apS [2] (fun s0 => fX8_readFast_24 v0 v1 v3 s0 h) st) xs) (kT := fun _ _ _ => none) (kR := kRZ)
    (fun xs h st q => jm [2, 2, 0, 1] _ (fun v0 v1 v3 q => apS_ok [2] _ (fun st => Ev (d + 7) none mX8_readFast (0, 0) 24 [.ref v0, .ref v1, .null, .int v3] st h (QZ z)) st (fun s0 q => tX8_readFast_24 v0 v1 v3 s0 h q) q) q)
    (fun _ _ _ q => nos q)
    kRZ_ok (Or.inr rfl) (by decide +kernel) (by decide +kernel) hf
theorem kqX8_readFast_20 : okC mX8_readFast 20 (.invokevirtual 63) 18 11 0 0 = true := by decide +kernel
def fX8_readFast_20 (v0 : Nat) (v1 : Nat) (v3 : Int32) (s0 : Nat) (h : aH) : Option (Int32 × aH) :=
  (isO h 8 s0).bind fun _ =>
  (gX8_step s0 h).bind fun r =>
  fX8_readFast_23 v0 v1 v3 r
theorem tX8_readFast_20 {d : Nat} {z : Int32 × aH} (v0 : Nat) (v1 : Nat) (v3 : Int32) (s0 : Nat) (h : aH) (hf : fX8_readFast_20 v0 v1 v3 s0 h = some z) : Ev (d + 7) none mX8_readFast (0, 0) 20 [.ref v0, .ref v1, .null, .int v3] [.ref s0] h (QZ z) := by
  obtain ⟨_, h1, hf⟩ := bnd hf
  obtain ⟨fs, ho⟩ := isO_ok h1
  obtain ⟨r, h2, hf⟩ := bnd hf
  refine ev_V kqX8_readFast_20 jX8_step (zX8_step (d := d + 4) h2) ho rfl rfl (Nat.le_of_ble_eq_true rfl) rfl (as := []) (rest := []) rfl (Nat.le_of_ble_eq_true rfl) (fun _ _ hq => ?_)
  obtain ⟨rfl, hh⟩ := hq
  rw [hh]
  exact jm [2, 2, 0, 1] (fun v0 v1 v3 => fX8_readFast_23 v0 v1 v3 r) (fun v0 v1 v3 q => tX8_readFast_23 v0 v1 v3 r q) hf
def wX8_readFast_12 : List En := [(.aload_n 0, 0, 0, 0), (.getfield 26, 10, 8, 7), (.iload_n 2, 0, 0, 0), (.iaload, 0, 0, 0), (.istore_n 3, 0, 0, 0), (.aload_n 0, 0, 0, 0)]
def fX8_readFast_12 (v0 : Nat) (v1 : Nat) (v2 : Int32) (h : aH) : Option (Int32 × aH) :=
  (gFR h 8 v0 7).bind fun t1 =>
  (aRI (h[t1]?) v2).bind fun t2 =>
  fX8_readFast_20 v0 v1 t2 v0 h
theorem tX8_readFast_12 {d : Nat} {z : Int32 × aH} (v0 : Nat) (v1 : Nat) (v2 : Int32) (h : aH) (hf : fX8_readFast_12 v0 v1 v2 h = some z) : Ev (d + 7) none mX8_readFast (0, 0) 12 [.ref v0, .ref v1, .int v2, .null] [] h (QZ z) := 
  go_ok (X := none) (blk := wX8_readFast_12) (np := 20) (tt := 0) (kN := fun xs h st => app [2, 2, 0, 1] (fun v0 v1 v3 => apS [2] (fun s0 => fX8_readFast_20 v0 v1 v3 s0 h) st) xs) (kT := fun _ _ _ => none) (kR := kRZ)
    (fun xs h st q => jm [2, 2, 0, 1] _ (fun v0 v1 v3 q => apS_ok [2] _ (fun st => Ev (d + 7) none mX8_readFast (0, 0) 20 [.ref v0, .ref v1, .null, .int v3] st h (QZ z)) st (fun s0 q => tX8_readFast_20 v0 v1 v3 s0 h q) q) q)
    (fun _ _ _ q => nos q)
    kRZ_ok (Or.inr rfl) (by decide +kernel) (by decide +kernel) hf
def wX8_readFast_10 : List En := [(.iconst 0, 0, 0, 0), (.ireturn, 0, 0, 0)]
def fX8_readFast_10 (h : aH) : Option (Int32 × aH) :=
  if (kI 0) = 0 ∨ (kI 0) = 1 then some ((kI 0), h) else none
theorem tX8_readFast_10 {d : Nat} {z : Int32 × aH} (h : aH) (hf : fX8_readFast_10 h = some z) : Ev (d + 7) none mX8_readFast (0, 0) 10 [.null, .null, .null, .null] [] h (QZ z) := 
  go_ok (X := none) (blk := wX8_readFast_10) (np := 12) (tt := 0) (kN := fun _ _ _ => none) (kT := fun _ _ _ => none) (kR := kRZ)
    (fun _ _ _ q => nos q)
    (fun _ _ _ q => nos q)
    kRZ_ok (Or.inr rfl) (by decide +kernel) (by decide +kernel) hf
def wX8_readFast_5 : List En := [(.istore_n 2, 0, 0, 0), (.iload_n 2, 0, 0, 0), (.ifCond .ge 5, 12, 0, 0)]
def fX8_readFast_5 (v0 : Nat) (v1 : Nat) (s0 : Int32) (h : aH) : Option (Int32 × aH) :=
  if s0 < 0 then fX8_readFast_10 h else fX8_readFast_12 v0 v1 s0 h
theorem tX8_readFast_5 {d : Nat} {z : Int32 × aH} (v0 : Nat) (v1 : Nat) (s0 : Int32) (h : aH) (hf : fX8_readFast_5 v0 v1 s0 h = some z) : Ev (d + 7) none mX8_readFast (0, 0) 5 [.ref v0, .ref v1, .null, .null] [.int s0] h (QZ z) := 
  go_ok (X := none) (blk := wX8_readFast_5) (np := 10) (tt := 12) (kN := fun xs h st => app [0, 0, 0, 0] (apS [] (fX8_readFast_10 h) st) xs) (kT := fun xs h st => app [2, 2, 1, 0] (fun v0 v1 v2 => apS [] (fX8_readFast_12 v0 v1 v2 h) st) xs) (kR := kRZ)
    (fun xs h st q => jm [0, 0, 0, 0] _ (fun q => apS_ok [] _ (fun st => Ev (d + 7) none mX8_readFast (0, 0) 10 [.null, .null, .null, .null] st h (QZ z)) st (fun q => tX8_readFast_10 h q) q) q)
    (fun xs h st q => jm [2, 2, 1, 0] _ (fun v0 v1 v2 q => apS_ok [] _ (fun st => Ev (d + 7) none mX8_readFast (0, 0) 12 [.ref v0, .ref v1, .int v2, .null] st h (QZ z)) st (fun q => tX8_readFast_12 v0 v1 v2 h q) q) q)
    kRZ_ok (Or.inr rfl) (by decide +kernel) (by decide +kernel) hf
theorem kqX8_readFast_2 : okC mX8_readFast 2 (.invokevirtual 166) 50 34 0 1 = true := by decide +kernel
def fX8_readFast_2 (v0 : Nat) (v1 : Nat) (s0 : Int32) (s1 : Nat) (h : aH) : Option (Int32 × aH) :=
  (isO h 8 s1).bind fun _ =>
  (gX8_toldNameHere s1 s0 h).bind fun r =>
  fX8_readFast_5 v0 v1 r.1 r.2
theorem tX8_readFast_2 {d : Nat} {z : Int32 × aH} (v0 : Nat) (v1 : Nat) (s0 : Int32) (s1 : Nat) (h : aH) (hf : fX8_readFast_2 v0 v1 s0 s1 h = some z) : Ev (d + 7) none mX8_readFast (0, 0) 2 [.ref v0, .ref v1, .null, .null] [.int s0, .ref s1] h (QZ z) := by
  obtain ⟨_, h1, hf⟩ := bnd hf
  obtain ⟨fs, ho⟩ := isO_ok h1
  obtain ⟨r, h2, hf⟩ := bnd hf
  refine ev_V kqX8_readFast_2 jX8_toldNameHere (zX8_toldNameHere (d := d + 0) h2) ho rfl rfl (Nat.le_of_ble_eq_true rfl) rfl (as := [.int s0]) (rest := []) rfl (Nat.le_of_ble_eq_true rfl) (fun _ _ hq => ?_)
  obtain ⟨rfl, rfl⟩ := hq
  exact jm [2, 2, 0, 0] (fun v0 v1 => fX8_readFast_5 v0 v1 r.1 r.2) (fun v0 v1 q => tX8_readFast_5 v0 v1 r.1 r.2 q) hf
def wX8_readFast_0 : List En := [(.aload_n 0, 0, 0, 0), (.iconst 1, 0, 0, 0)]
def fX8_readFast_0 (v0 : Nat) (v1 : Nat) (h : aH) : Option (Int32 × aH) :=
  fX8_readFast_2 v0 v1 (kI 1) v0 h
theorem tX8_readFast_0 {d : Nat} {z : Int32 × aH} (v0 : Nat) (v1 : Nat) (h : aH) (hf : fX8_readFast_0 v0 v1 h = some z) : Ev (d + 7) none mX8_readFast (0, 0) 0 [.ref v0, .ref v1, .null, .null] [] h (QZ z) := 
  go_ok (X := none) (blk := wX8_readFast_0) (np := 2) (tt := 0) (kN := fun xs h st => app [2, 2, 0, 0] (fun v0 v1 => apS [1, 2] (fun s0 s1 => fX8_readFast_2 v0 v1 s0 s1 h) st) xs) (kT := fun _ _ _ => none) (kR := kRZ)
    (fun xs h st q => jm [2, 2, 0, 0] _ (fun v0 v1 q => apS_ok [1, 2] _ (fun st => Ev (d + 7) none mX8_readFast (0, 0) 2 [.ref v0, .ref v1, .null, .null] st h (QZ z)) st (fun s0 s1 q => tX8_readFast_2 v0 v1 s0 s1 h q) q) q)
    (fun _ _ _ q => nos q)
    kRZ_ok (Or.inr rfl) (by decide +kernel) (by decide +kernel) hf
def gX8_readFast (v0 : Nat) (v1 : Nat) (h : aH) : Option (Int32 × aH) := fX8_readFast_0 v0 v1 h
theorem zX8_readFast {d : Nat} {z : Int32 × aH} {v0 : Nat} {v1 : Nat} {h : aH} (q : gX8_readFast v0 v1 h = some z) : CT (d + 7) mX8_readFast (0, 0) [.ref v0, .ref v1] h (QZ z) :=
  ct_ev (by decide +kernel) (Nat.le_of_ble_eq_true rfl) QZ_r (jm [2, 2, 0, 0] (fun v0 v1 => fX8_readFast_0 v0 v1 h) (fun v0 v1 q => tX8_readFast_0 v0 v1 h q) q)
def wX8_readHeard_91 : List En := [(.iconst 1, 0, 0, 0), (.ireturn, 0, 0, 0)]
def fX8_readHeard_91 (h : aH) : Option (Int32 × aH) :=
  if (kI 1) = 0 ∨ (kI 1) = 1 then some ((kI 1), h) else none
theorem tX8_readHeard_91 {d : Nat} {z : Int32 × aH} (h : aH) (hf : fX8_readHeard_91 h = some z) : Ev (d + 7) none mX8_readHeard (0, 0) 91 [.null, .null, .null, .null] [] h (QZ z) := 
  go_ok (X := none) (blk := wX8_readHeard_91) (np := 93) (tt := 0) (kN := fun _ _ _ => none) (kT := fun _ _ _ => none) (kR := kRZ)
    (fun _ _ _ q => nos q)
    (fun _ _ _ q => nos q)
    kRZ_ok (Or.inr rfl) (by decide +kernel) (by decide +kernel) hf
theorem kqX8_readHeard_88 : okC mX8_readHeard 88 (.invokevirtual 63) 18 11 0 0 = true := by decide +kernel
def fX8_readHeard_88 (s0 : Nat) (h : aH) : Option (Int32 × aH) :=
  (isO h 8 s0).bind fun _ =>
  (gX8_step s0 h).bind fun r =>
  fX8_readHeard_91 r
theorem tX8_readHeard_88 {d : Nat} {z : Int32 × aH} (s0 : Nat) (h : aH) (hf : fX8_readHeard_88 s0 h = some z) : Ev (d + 7) none mX8_readHeard (0, 0) 88 [.null, .null, .null, .null] [.ref s0] h (QZ z) := by
  obtain ⟨_, h1, hf⟩ := bnd hf
  obtain ⟨fs, ho⟩ := isO_ok h1
  obtain ⟨r, h2, hf⟩ := bnd hf
  refine ev_V kqX8_readHeard_88 jX8_step (zX8_step (d := d + 4) h2) ho rfl rfl (Nat.le_of_ble_eq_true rfl) rfl (as := []) (rest := []) rfl (Nat.le_of_ble_eq_true rfl) (fun _ _ hq => ?_)
  obtain ⟨rfl, hh⟩ := hq
  rw [hh]
  exact jm [0, 0, 0, 0] (fX8_readHeard_91 r) (fun q => tX8_readHeard_91 r q) hf
def wX8_readHeard_54 : List En := [(.aload_n 1, 0, 0, 0), (.getfield 198, 158, 9, 17), (.aload_n 1, 0, 0, 0), (.getfield 118, 127, 9, 7), (.iload_n 3, 0, 0, 0), (.iastore, 0, 0, 0), (.aload_n 1, 0, 0, 0), (.getfield 201, 161, 9, 18), (.aload_n 1, 0, 0, 0), (.getfield 118, 127, 9, 7), (.aload_n 0, 0, 0, 0), (.getfield 127, 16, 8, 13), (.iastore, 0, 0, 0), (.aload_n 1, 0, 0, 0), (.dup, 0, 0, 0), (.getfield 118, 127, 9, 7), (.iconst 1, 0, 0, 0), (.iadd, 0, 0, 0), (.putfield 118, 127, 9, 7), (.aload_n 0, 0, 0, 0)]
def fX8_readHeard_54 (v0 : Nat) (v1 : Nat) (v3 : Int32) (h : aH) : Option (Int32 × aH) :=
  (gFR h 9 v1 17).bind fun t1 =>
  (gFI h 9 v1 7).bind fun t2 =>
  (aWI h t1 t2 v3).bind fun h3 =>
  (gFR h3 9 v1 18).bind fun t4 =>
  (gFI h3 9 v1 7).bind fun t5 =>
  (gFI h3 8 v0 13).bind fun t6 =>
  (aWI h3 t4 t5 t6).bind fun h7 =>
  (gFI h7 9 v1 7).bind fun t8 =>
  (pWV h7 9 v1 7 (.int (t8 + (kI 1)))).bind fun h9 =>
  fX8_readHeard_88 v0 h9
theorem tX8_readHeard_54 {d : Nat} {z : Int32 × aH} (v0 : Nat) (v1 : Nat) (v3 : Int32) (h : aH) (hf : fX8_readHeard_54 v0 v1 v3 h = some z) : Ev (d + 7) none mX8_readHeard (0, 0) 54 [.ref v0, .ref v1, .null, .int v3] [] h (QZ z) := 
  go_ok (X := none) (blk := wX8_readHeard_54) (np := 88) (tt := 0) (kN := fun xs h st => app [0, 0, 0, 0] (apS [2] (fun s0 => fX8_readHeard_88 s0 h) st) xs) (kT := fun _ _ _ => none) (kR := kRZ)
    (fun xs h st q => jm [0, 0, 0, 0] _ (fun q => apS_ok [2] _ (fun st => Ev (d + 7) none mX8_readHeard (0, 0) 88 [.null, .null, .null, .null] st h (QZ z)) st (fun s0 q => tX8_readHeard_88 s0 h q) q) q)
    (fun _ _ _ q => nos q)
    kRZ_ok (Or.inr rfl) (by decide +kernel) (by decide +kernel) hf
def wX8_readHeard_53 : List En := [(.ireturn, 0, 0, 0)]
def fX8_readHeard_53 (s0 : Int32) (h : aH) : Option (Int32 × aH) :=
  if s0 = 0 ∨ s0 = 1 then some (s0, h) else none
theorem tX8_readHeard_53 {d : Nat} {z : Int32 × aH} (s0 : Int32) (h : aH) (hf : fX8_readHeard_53 s0 h = some z) : Ev (d + 7) none mX8_readHeard (0, 0) 53 [.null, .null, .null, .null] [.int s0] h (QZ z) := 
  go_ok (X := none) (blk := wX8_readHeard_53) (np := 54) (tt := 0) (kN := fun _ _ _ => none) (kT := fun _ _ _ => none) (kR := kRZ)
    (fun _ _ _ q => nos q)
    (fun _ _ _ q => nos q)
    kRZ_ok (Or.inr rfl) (by decide +kernel) (by decide +kernel) hf
theorem kqX8_readHeard_50 : okC mX8_readHeard 50 (.invokevirtual 73) 37 21 0 1 = true := by decide +kernel
def fX8_readHeard_50 (s0 : Int32) (s1 : Nat) (h : aH) : Option (Int32 × aH) :=
  (isO h 8 s1).bind fun _ =>
  (gX8_fail s1 s0 h).bind fun r =>
  fX8_readHeard_53 r.1 r.2
theorem tX8_readHeard_50 {d : Nat} {z : Int32 × aH} (s0 : Int32) (s1 : Nat) (h : aH) (hf : fX8_readHeard_50 s0 s1 h = some z) : Ev (d + 7) none mX8_readHeard (0, 0) 50 [.null, .null, .null, .null] [.int s0, .ref s1] h (QZ z) := by
  obtain ⟨_, h1, hf⟩ := bnd hf
  obtain ⟨fs, ho⟩ := isO_ok h1
  obtain ⟨r, h2, hf⟩ := bnd hf
  refine ev_V kqX8_readHeard_50 jX8_fail (zX8_fail (d := d + 6) h2) ho rfl rfl (Nat.le_of_ble_eq_true rfl) rfl (as := [.int s0]) (rest := []) rfl (Nat.le_of_ble_eq_true rfl) (fun _ _ hq => ?_)
  obtain ⟨-, rfl, rfl⟩ := hq
  exact jm [0, 0, 0, 0] (fX8_readHeard_53 r.1 r.2) (fun q => tX8_readHeard_53 r.1 r.2 q) hf
def wX8_readHeard_48 : List En := [(.aload_n 0, 0, 0, 0), (.iconst 3, 0, 0, 0)]
def fX8_readHeard_48 (v0 : Nat) (h : aH) : Option (Int32 × aH) :=
  fX8_readHeard_50 (kI 3) v0 h
theorem tX8_readHeard_48 {d : Nat} {z : Int32 × aH} (v0 : Nat) (h : aH) (hf : fX8_readHeard_48 v0 h = some z) : Ev (d + 7) none mX8_readHeard (0, 0) 48 [.ref v0, .null, .null, .null] [] h (QZ z) := 
  go_ok (X := none) (blk := wX8_readHeard_48) (np := 50) (tt := 0) (kN := fun xs h st => app [0, 0, 0, 0] (apS [1, 2] (fun s0 s1 => fX8_readHeard_50 s0 s1 h) st) xs) (kT := fun _ _ _ => none) (kR := kRZ)
    (fun xs h st q => jm [0, 0, 0, 0] _ (fun q => apS_ok [1, 2] _ (fun st => Ev (d + 7) none mX8_readHeard (0, 0) 50 [.null, .null, .null, .null] st h (QZ z)) st (fun s0 s1 q => tX8_readHeard_50 s0 s1 h q) q) q)
    (fun _ _ _ q => nos q)
    kRZ_ok (Or.inr rfl) (by decide +kernel) (by decide +kernel) hf
def wX8_readHeard_45 : List En := [(.ifCond .eq 9, 54, 0, 0)]
def fX8_readHeard_45 (v0 : Nat) (v1 : Nat) (v3 : Int32) (s0 : Int32) (h : aH) : Option (Int32 × aH) :=
  if s0 = 0 then fX8_readHeard_54 v0 v1 v3 h else fX8_readHeard_48 v0 h
theorem tX8_readHeard_45 {d : Nat} {z : Int32 × aH} (v0 : Nat) (v1 : Nat) (v3 : Int32) (s0 : Int32) (h : aH) (hf : fX8_readHeard_45 v0 v1 v3 s0 h = some z) : Ev (d + 7) none mX8_readHeard (0, 0) 45 [.ref v0, .ref v1, .null, .int v3] [.int s0] h (QZ z) := 
  go_ok (X := none) (blk := wX8_readHeard_45) (np := 48) (tt := 54) (kN := fun xs h st => app [2, 0, 0, 0] (fun v0 => apS [] (fX8_readHeard_48 v0 h) st) xs) (kT := fun xs h st => app [2, 2, 0, 1] (fun v0 v1 v3 => apS [] (fX8_readHeard_54 v0 v1 v3 h) st) xs) (kR := kRZ)
    (fun xs h st q => jm [2, 0, 0, 0] _ (fun v0 q => apS_ok [] _ (fun st => Ev (d + 7) none mX8_readHeard (0, 0) 48 [.ref v0, .null, .null, .null] st h (QZ z)) st (fun q => tX8_readHeard_48 v0 h q) q) q)
    (fun xs h st q => jm [2, 2, 0, 1] _ (fun v0 v1 v3 q => apS_ok [] _ (fun st => Ev (d + 7) none mX8_readHeard (0, 0) 54 [.ref v0, .ref v1, .null, .int v3] st h (QZ z)) st (fun q => tX8_readHeard_54 v0 v1 v3 h q) q) q)
    kRZ_ok (Or.inr rfl) (by decide +kernel) (by decide +kernel) hf
theorem kqX8_readHeard_42 : okC mX8_readHeard 42 (.invokevirtual 195) 55 39 0 1 = true := by decide +kernel
def fX8_readHeard_42 (v0 : Nat) (v1 : Nat) (v3 : Int32) (s0 : Int32) (s1 : Nat) (h : aH) : Option (Int32 × aH) :=
  (isO h 9 s1).bind fun _ =>
  (gX9_isHeardOn s1 s0 h).bind fun r =>
  fX8_readHeard_45 v0 v1 v3 r.1 r.2
theorem tX8_readHeard_42 {d : Nat} {z : Int32 × aH} (v0 : Nat) (v1 : Nat) (v3 : Int32) (s0 : Int32) (s1 : Nat) (h : aH) (hf : fX8_readHeard_42 v0 v1 v3 s0 s1 h = some z) : Ev (d + 7) none mX8_readHeard (0, 0) 42 [.ref v0, .ref v1, .null, .int v3] [.int s0, .ref s1] h (QZ z) := by
  obtain ⟨_, h1, hf⟩ := bnd hf
  obtain ⟨fs, ho⟩ := isO_ok h1
  obtain ⟨r, h2, hf⟩ := bnd hf
  refine ev_V kqX8_readHeard_42 jX9_isHeardOn (zX9_isHeardOn (d := d + 6) h2) ho rfl rfl (Nat.le_of_ble_eq_true rfl) rfl (as := [.int s0]) (rest := []) rfl (Nat.le_of_ble_eq_true rfl) (fun _ _ hq => ?_)
  obtain ⟨-, rfl, rfl⟩ := hq
  exact jm [2, 2, 0, 1] (fun v0 v1 v3 => fX8_readHeard_45 v0 v1 v3 r.1 r.2) (fun v0 v1 v3 q => tX8_readHeard_45 v0 v1 v3 r.1 r.2 q) hf
def wX8_readHeard_37 : List En := [(.aload_n 1, 0, 0, 0), (.aload_n 0, 0, 0, 0), (.getfield 127, 16, 8, 13)]
def fX8_readHeard_37 (v0 : Nat) (v1 : Nat) (v3 : Int32) (h : aH) : Option (Int32 × aH) :=
  (gFI h 8 v0 13).bind fun t1 =>
  fX8_readHeard_42 v0 v1 v3 t1 v1 h
theorem tX8_readHeard_37 {d : Nat} {z : Int32 × aH} (v0 : Nat) (v1 : Nat) (v3 : Int32) (h : aH) (hf : fX8_readHeard_37 v0 v1 v3 h = some z) : Ev (d + 7) none mX8_readHeard (0, 0) 37 [.ref v0, .ref v1, .null, .int v3] [] h (QZ z) := 
  go_ok (X := none) (blk := wX8_readHeard_37) (np := 42) (tt := 0) (kN := fun xs h st => app [2, 2, 0, 1] (fun v0 v1 v3 => apS [1, 2] (fun s0 s1 => fX8_readHeard_42 v0 v1 v3 s0 s1 h) st) xs) (kT := fun _ _ _ => none) (kR := kRZ)
    (fun xs h st q => jm [2, 2, 0, 1] _ (fun v0 v1 v3 q => apS_ok [1, 2] _ (fun st => Ev (d + 7) none mX8_readHeard (0, 0) 42 [.ref v0, .ref v1, .null, .int v3] st h (QZ z)) st (fun s0 s1 q => tX8_readHeard_42 v0 v1 v3 s0 s1 h q) q) q)
    (fun _ _ _ q => nos q)
    kRZ_ok (Or.inr rfl) (by decide +kernel) (by decide +kernel) hf
def wX8_readHeard_35 : List En := [(.iconst 0, 0, 0, 0), (.ireturn, 0, 0, 0)]
def fX8_readHeard_35 (h : aH) : Option (Int32 × aH) :=
  if (kI 0) = 0 ∨ (kI 0) = 1 then some ((kI 0), h) else none
theorem tX8_readHeard_35 {d : Nat} {z : Int32 × aH} (h : aH) (hf : fX8_readHeard_35 h = some z) : Ev (d + 7) none mX8_readHeard (0, 0) 35 [.null, .null, .null, .null] [] h (QZ z) := 
  go_ok (X := none) (blk := wX8_readHeard_35) (np := 37) (tt := 0) (kN := fun _ _ _ => none) (kT := fun _ _ _ => none) (kR := kRZ)
    (fun _ _ _ q => nos q)
    (fun _ _ _ q => nos q)
    kRZ_ok (Or.inr rfl) (by decide +kernel) (by decide +kernel) hf
def wX8_readHeard_32 : List En := [(.ifCond .ne 5, 37, 0, 0)]
def fX8_readHeard_32 (v0 : Nat) (v1 : Nat) (v3 : Int32) (s0 : Int32) (h : aH) : Option (Int32 × aH) :=
  if s0 = 0 then fX8_readHeard_35 h else fX8_readHeard_37 v0 v1 v3 h
theorem tX8_readHeard_32 {d : Nat} {z : Int32 × aH} (v0 : Nat) (v1 : Nat) (v3 : Int32) (s0 : Int32) (h : aH) (hf : fX8_readHeard_32 v0 v1 v3 s0 h = some z) : Ev (d + 7) none mX8_readHeard (0, 0) 32 [.ref v0, .ref v1, .null, .int v3] [.int s0] h (QZ z) := 
  go_ok (X := none) (blk := wX8_readHeard_32) (np := 35) (tt := 37) (kN := fun xs h st => app [0, 0, 0, 0] (apS [] (fX8_readHeard_35 h) st) xs) (kT := fun xs h st => app [2, 2, 0, 1] (fun v0 v1 v3 => apS [] (fX8_readHeard_37 v0 v1 v3 h) st) xs) (kR := kRZ)
    (fun xs h st q => jm [0, 0, 0, 0] _ (fun q => apS_ok [] _ (fun st => Ev (d + 7) none mX8_readHeard (0, 0) 35 [.null, .null, .null, .null] st h (QZ z)) st (fun q => tX8_readHeard_35 h q) q) q)
    (fun xs h st q => jm [2, 2, 0, 1] _ (fun v0 v1 v3 q => apS_ok [] _ (fun st => Ev (d + 7) none mX8_readHeard (0, 0) 37 [.ref v0, .ref v1, .null, .int v3] st h (QZ z)) st (fun q => tX8_readHeard_37 v0 v1 v3 h q) q) q)
    kRZ_ok (Or.inr rfl) (by decide +kernel) (by decide +kernel) hf
theorem kqX8_readHeard_29 : okC mX8_readHeard 29 (.invokevirtual 123) 40 24 0 3 = true := by decide +kernel
def fX8_readHeard_29 (v0 : Nat) (v1 : Nat) (v3 : Int32) (s0 : Int32) (s1 : Int32) (s2 : Nat) (s3 : Nat) (h : aH) : Option (Int32 × aH) :=
  (isO h 8 s3).bind fun _ =>
  (gX8_findsWhole s3 s2 s1 s0 h).bind fun r =>
  fX8_readHeard_32 v0 v1 v3 r.1 r.2
theorem tX8_readHeard_29 {d : Nat} {z : Int32 × aH} (v0 : Nat) (v1 : Nat) (v3 : Int32) (s0 : Int32) (s1 : Int32) (s2 : Nat) (s3 : Nat) (h : aH) (hf : fX8_readHeard_29 v0 v1 v3 s0 s1 s2 s3 h = some z) : Ev (d + 7) none mX8_readHeard (0, 0) 29 [.ref v0, .ref v1, .null, .int v3] [.int s0, .int s1, .ref s2, .ref s3] h (QZ z) := by
  obtain ⟨_, h1, hf⟩ := bnd hf
  obtain ⟨fs, ho⟩ := isO_ok h1
  obtain ⟨r, h2, hf⟩ := bnd hf
  refine ev_V kqX8_readHeard_29 jX8_findsWhole (zX8_findsWhole (d := d + 1) h2) ho rfl rfl (Nat.le_of_ble_eq_true rfl) rfl (as := [.ref s2, .int s1, .int s0]) (rest := []) rfl (Nat.le_of_ble_eq_true rfl) (fun _ _ hq => ?_)
  obtain ⟨-, rfl, rfl⟩ := hq
  exact jm [2, 2, 0, 1] (fun v0 v1 v3 => fX8_readHeard_32 v0 v1 v3 r.1 r.2) (fun v0 v1 v3 q => tX8_readHeard_32 v0 v1 v3 r.1 r.2 q) hf
def wX8_readHeard_26 : List En := [(.iconst 1, 0, 0, 0), (.bipush 60, 0, 0, 0)]
def fX8_readHeard_26 (v0 : Nat) (v1 : Nat) (v3 : Int32) (s0 : Nat) (s1 : Nat) (h : aH) : Option (Int32 × aH) :=
  fX8_readHeard_29 v0 v1 v3 (kB 60) (kI 1) s0 s1 h
theorem tX8_readHeard_26 {d : Nat} {z : Int32 × aH} (v0 : Nat) (v1 : Nat) (v3 : Int32) (s0 : Nat) (s1 : Nat) (h : aH) (hf : fX8_readHeard_26 v0 v1 v3 s0 s1 h = some z) : Ev (d + 7) none mX8_readHeard (0, 0) 26 [.ref v0, .ref v1, .null, .int v3] [.ref s0, .ref s1] h (QZ z) := 
  go_ok (X := none) (blk := wX8_readHeard_26) (np := 29) (tt := 0) (kN := fun xs h st => app [2, 2, 0, 1] (fun v0 v1 v3 => apS [1, 1, 2, 2] (fun s0 s1 s2 s3 => fX8_readHeard_29 v0 v1 v3 s0 s1 s2 s3 h) st) xs) (kT := fun _ _ _ => none) (kR := kRZ)
    (fun xs h st q => jm [2, 2, 0, 1] _ (fun v0 v1 v3 q => apS_ok [1, 1, 2, 2] _ (fun st => Ev (d + 7) none mX8_readHeard (0, 0) 29 [.ref v0, .ref v1, .null, .int v3] st h (QZ z)) st (fun s0 s1 s2 s3 q => tX8_readHeard_29 v0 v1 v3 s0 s1 s2 s3 h q) q) q)
    (fun _ _ _ q => nos q)
    kRZ_ok (Or.inr rfl) (by decide +kernel) (by decide +kernel) hf
theorem kqX8_readHeard_24 : ckS mX8_readHeard 24 170 16 = true := by decide +kernel -- day
def fX8_readHeard_24 (v0 : Nat) (v1 : Nat) (v3 : Int32) (s0 : Nat) (h : aH) : Option (Int32 × aH) :=
  fX8_readHeard_26 v0 v1 v3 (SB + 16) s0 h
theorem tX8_readHeard_24 {d : Nat} {z : Int32 × aH} (v0 : Nat) (v1 : Nat) (v3 : Int32) (s0 : Nat) (h : aH) (hf : fX8_readHeard_24 v0 v1 v3 s0 h = some z) : Ev (d + 7) none mX8_readHeard (0, 0) 24 [.ref v0, .ref v1, .null, .int v3] [.ref s0] h (QZ z) := 
  ev_ldcS kqX8_readHeard_24 rfl (jm [2, 2, 0, 1] (fun v0 v1 v3 => fX8_readHeard_26 v0 v1 v3 (SB + 16) s0 h) (fun v0 v1 v3 q => tX8_readHeard_26 v0 v1 v3 (SB + 16) s0 h q) hf)
def wX8_readHeard_23 : List En := [(.aload_n 0, 0, 0, 0)]
def fX8_readHeard_23 (v0 : Nat) (v1 : Nat) (v3 : Int32) (h : aH) : Option (Int32 × aH) :=
  fX8_readHeard_24 v0 v1 v3 v0 h
theorem tX8_readHeard_23 {d : Nat} {z : Int32 × aH} (v0 : Nat) (v1 : Nat) (v3 : Int32) (h : aH) (hf : fX8_readHeard_23 v0 v1 v3 h = some z) : Ev (d + 7) none mX8_readHeard (0, 0) 23 [.ref v0, .ref v1, .null, .int v3] [] h (QZ z) := 
  go_ok (X := none) (blk := wX8_readHeard_23) (np := 24) (tt := 0) (kN := fun xs h st => app [2, 2, 0, 1] (fun v0 v1 v3 => apS [2] (fun s0 => fX8_readHeard_24 v0 v1 v3 s0 h) st) xs) (kT := fun _ _ _ => none) (kR := kRZ)
    (fun xs h st q => jm [2, 2, 0, 1] _ (fun v0 v1 v3 q => apS_ok [2] _ (fun st => Ev (d + 7) none mX8_readHeard (0, 0) 24 [.ref v0, .ref v1, .null, .int v3] st h (QZ z)) st (fun s0 q => tX8_readHeard_24 v0 v1 v3 s0 h q) q) q)
    (fun _ _ _ q => nos q)
    kRZ_ok (Or.inr rfl) (by decide +kernel) (by decide +kernel) hf
theorem kqX8_readHeard_20 : okC mX8_readHeard 20 (.invokevirtual 63) 18 11 0 0 = true := by decide +kernel
def fX8_readHeard_20 (v0 : Nat) (v1 : Nat) (v3 : Int32) (s0 : Nat) (h : aH) : Option (Int32 × aH) :=
  (isO h 8 s0).bind fun _ =>
  (gX8_step s0 h).bind fun r =>
  fX8_readHeard_23 v0 v1 v3 r
theorem tX8_readHeard_20 {d : Nat} {z : Int32 × aH} (v0 : Nat) (v1 : Nat) (v3 : Int32) (s0 : Nat) (h : aH) (hf : fX8_readHeard_20 v0 v1 v3 s0 h = some z) : Ev (d + 7) none mX8_readHeard (0, 0) 20 [.ref v0, .ref v1, .null, .int v3] [.ref s0] h (QZ z) := by
  obtain ⟨_, h1, hf⟩ := bnd hf
  obtain ⟨fs, ho⟩ := isO_ok h1
  obtain ⟨r, h2, hf⟩ := bnd hf
  refine ev_V kqX8_readHeard_20 jX8_step (zX8_step (d := d + 4) h2) ho rfl rfl (Nat.le_of_ble_eq_true rfl) rfl (as := []) (rest := []) rfl (Nat.le_of_ble_eq_true rfl) (fun _ _ hq => ?_)
  obtain ⟨rfl, hh⟩ := hq
  rw [hh]
  exact jm [2, 2, 0, 1] (fun v0 v1 v3 => fX8_readHeard_23 v0 v1 v3 r) (fun v0 v1 v3 q => tX8_readHeard_23 v0 v1 v3 r q) hf
def wX8_readHeard_12 : List En := [(.aload_n 0, 0, 0, 0), (.getfield 26, 10, 8, 7), (.iload_n 2, 0, 0, 0), (.iaload, 0, 0, 0), (.istore_n 3, 0, 0, 0), (.aload_n 0, 0, 0, 0)]
def fX8_readHeard_12 (v0 : Nat) (v1 : Nat) (v2 : Int32) (h : aH) : Option (Int32 × aH) :=
  (gFR h 8 v0 7).bind fun t1 =>
  (aRI (h[t1]?) v2).bind fun t2 =>
  fX8_readHeard_20 v0 v1 t2 v0 h
theorem tX8_readHeard_12 {d : Nat} {z : Int32 × aH} (v0 : Nat) (v1 : Nat) (v2 : Int32) (h : aH) (hf : fX8_readHeard_12 v0 v1 v2 h = some z) : Ev (d + 7) none mX8_readHeard (0, 0) 12 [.ref v0, .ref v1, .int v2, .null] [] h (QZ z) := 
  go_ok (X := none) (blk := wX8_readHeard_12) (np := 20) (tt := 0) (kN := fun xs h st => app [2, 2, 0, 1] (fun v0 v1 v3 => apS [2] (fun s0 => fX8_readHeard_20 v0 v1 v3 s0 h) st) xs) (kT := fun _ _ _ => none) (kR := kRZ)
    (fun xs h st q => jm [2, 2, 0, 1] _ (fun v0 v1 v3 q => apS_ok [2] _ (fun st => Ev (d + 7) none mX8_readHeard (0, 0) 20 [.ref v0, .ref v1, .null, .int v3] st h (QZ z)) st (fun s0 q => tX8_readHeard_20 v0 v1 v3 s0 h q) q) q)
    (fun _ _ _ q => nos q)
    kRZ_ok (Or.inr rfl) (by decide +kernel) (by decide +kernel) hf
def wX8_readHeard_10 : List En := [(.iconst 0, 0, 0, 0), (.ireturn, 0, 0, 0)]
def fX8_readHeard_10 (h : aH) : Option (Int32 × aH) :=
  if (kI 0) = 0 ∨ (kI 0) = 1 then some ((kI 0), h) else none
theorem tX8_readHeard_10 {d : Nat} {z : Int32 × aH} (h : aH) (hf : fX8_readHeard_10 h = some z) : Ev (d + 7) none mX8_readHeard (0, 0) 10 [.null, .null, .null, .null] [] h (QZ z) := 
  go_ok (X := none) (blk := wX8_readHeard_10) (np := 12) (tt := 0) (kN := fun _ _ _ => none) (kT := fun _ _ _ => none) (kR := kRZ)
    (fun _ _ _ q => nos q)
    (fun _ _ _ q => nos q)
    kRZ_ok (Or.inr rfl) (by decide +kernel) (by decide +kernel) hf
def wX8_readHeard_5 : List En := [(.istore_n 2, 0, 0, 0), (.iload_n 2, 0, 0, 0), (.ifCond .ge 5, 12, 0, 0)]
def fX8_readHeard_5 (v0 : Nat) (v1 : Nat) (s0 : Int32) (h : aH) : Option (Int32 × aH) :=
  if s0 < 0 then fX8_readHeard_10 h else fX8_readHeard_12 v0 v1 s0 h
theorem tX8_readHeard_5 {d : Nat} {z : Int32 × aH} (v0 : Nat) (v1 : Nat) (s0 : Int32) (h : aH) (hf : fX8_readHeard_5 v0 v1 s0 h = some z) : Ev (d + 7) none mX8_readHeard (0, 0) 5 [.ref v0, .ref v1, .null, .null] [.int s0] h (QZ z) := 
  go_ok (X := none) (blk := wX8_readHeard_5) (np := 10) (tt := 12) (kN := fun xs h st => app [0, 0, 0, 0] (apS [] (fX8_readHeard_10 h) st) xs) (kT := fun xs h st => app [2, 2, 1, 0] (fun v0 v1 v2 => apS [] (fX8_readHeard_12 v0 v1 v2 h) st) xs) (kR := kRZ)
    (fun xs h st q => jm [0, 0, 0, 0] _ (fun q => apS_ok [] _ (fun st => Ev (d + 7) none mX8_readHeard (0, 0) 10 [.null, .null, .null, .null] st h (QZ z)) st (fun q => tX8_readHeard_10 h q) q) q)
    (fun xs h st q => jm [2, 2, 1, 0] _ (fun v0 v1 v2 q => apS_ok [] _ (fun st => Ev (d + 7) none mX8_readHeard (0, 0) 12 [.ref v0, .ref v1, .int v2, .null] st h (QZ z)) st (fun q => tX8_readHeard_12 v0 v1 v2 h q) q) q)
    kRZ_ok (Or.inr rfl) (by decide +kernel) (by decide +kernel) hf
theorem kqX8_readHeard_2 : okC mX8_readHeard 2 (.invokevirtual 166) 50 34 0 1 = true := by decide +kernel
def fX8_readHeard_2 (v0 : Nat) (v1 : Nat) (s0 : Int32) (s1 : Nat) (h : aH) : Option (Int32 × aH) :=
  (isO h 8 s1).bind fun _ =>
  (gX8_toldNameHere s1 s0 h).bind fun r =>
  fX8_readHeard_5 v0 v1 r.1 r.2
theorem tX8_readHeard_2 {d : Nat} {z : Int32 × aH} (v0 : Nat) (v1 : Nat) (s0 : Int32) (s1 : Nat) (h : aH) (hf : fX8_readHeard_2 v0 v1 s0 s1 h = some z) : Ev (d + 7) none mX8_readHeard (0, 0) 2 [.ref v0, .ref v1, .null, .null] [.int s0, .ref s1] h (QZ z) := by
  obtain ⟨_, h1, hf⟩ := bnd hf
  obtain ⟨fs, ho⟩ := isO_ok h1
  obtain ⟨r, h2, hf⟩ := bnd hf
  refine ev_V kqX8_readHeard_2 jX8_toldNameHere (zX8_toldNameHere (d := d + 0) h2) ho rfl rfl (Nat.le_of_ble_eq_true rfl) rfl (as := [.int s0]) (rest := []) rfl (Nat.le_of_ble_eq_true rfl) (fun _ _ hq => ?_)
  obtain ⟨rfl, rfl⟩ := hq
  exact jm [2, 2, 0, 0] (fun v0 v1 => fX8_readHeard_5 v0 v1 r.1 r.2) (fun v0 v1 q => tX8_readHeard_5 v0 v1 r.1 r.2 q) hf
def wX8_readHeard_0 : List En := [(.aload_n 0, 0, 0, 0), (.iconst 0, 0, 0, 0)]
def fX8_readHeard_0 (v0 : Nat) (v1 : Nat) (h : aH) : Option (Int32 × aH) :=
  fX8_readHeard_2 v0 v1 (kI 0) v0 h
theorem tX8_readHeard_0 {d : Nat} {z : Int32 × aH} (v0 : Nat) (v1 : Nat) (h : aH) (hf : fX8_readHeard_0 v0 v1 h = some z) : Ev (d + 7) none mX8_readHeard (0, 0) 0 [.ref v0, .ref v1, .null, .null] [] h (QZ z) := 
  go_ok (X := none) (blk := wX8_readHeard_0) (np := 2) (tt := 0) (kN := fun xs h st => app [2, 2, 0, 0] (fun v0 v1 => apS [1, 2] (fun s0 s1 => fX8_readHeard_2 v0 v1 s0 s1 h) st) xs) (kT := fun _ _ _ => none) (kR := kRZ)
    (fun xs h st q => jm [2, 2, 0, 0] _ (fun v0 v1 q => apS_ok [1, 2] _ (fun st => Ev (d + 7) none mX8_readHeard (0, 0) 2 [.ref v0, .ref v1, .null, .null] st h (QZ z)) st (fun s0 s1 q => tX8_readHeard_2 v0 v1 s0 s1 h q) q) q)
    (fun _ _ _ q => nos q)
    kRZ_ok (Or.inr rfl) (by decide +kernel) (by decide +kernel) hf
def gX8_readHeard (v0 : Nat) (v1 : Nat) (h : aH) : Option (Int32 × aH) := fX8_readHeard_0 v0 v1 h
theorem zX8_readHeard {d : Nat} {z : Int32 × aH} {v0 : Nat} {v1 : Nat} {h : aH} (q : gX8_readHeard v0 v1 h = some z) : CT (d + 7) mX8_readHeard (0, 0) [.ref v0, .ref v1] h (QZ z) :=
  ct_ev (by decide +kernel) (Nat.le_of_ble_eq_true rfl) QZ_r (jm [2, 2, 0, 0] (fun v0 v1 => fX8_readHeard_0 v0 v1 h) (fun v0 v1 q => tX8_readHeard_0 v0 v1 h q) q)
def wX8_findsNewName_32 : List En := [(.ireturn, 0, 0, 0)]
def fX8_findsNewName_32 (s0 : Int32) (h : aH) : Option (Int32 × aH) :=
  if s0 = 0 ∨ s0 = 1 then some (s0, h) else none
theorem tX8_findsNewName_32 {d : Nat} {z : Int32 × aH} (s0 : Int32) (h : aH) (hf : fX8_findsNewName_32 s0 h = some z) : Ev (d + 6) none mX8_findsNewName (0, 0) 32 [.null, .null, .null] [.int s0] h (QZ z) := 
  go_ok (X := none) (blk := wX8_findsNewName_32) (np := 33) (tt := 0) (kN := fun _ _ _ => none) (kT := fun _ _ _ => none) (kR := kRZ)
    (fun _ _ _ q => nos q)
    (fun _ _ _ q => nos q)
    kRZ_ok (Or.inr rfl) (by decide +kernel) (by decide +kernel) hf
theorem kqX8_findsNewName_29 : okC mX8_findsNewName 29 (.invokevirtual 73) 37 21 0 1 = true := by decide +kernel
def fX8_findsNewName_29 (s0 : Int32) (s1 : Nat) (h : aH) : Option (Int32 × aH) :=
  (isO h 8 s1).bind fun _ =>
  (gX8_fail s1 s0 h).bind fun r =>
  fX8_findsNewName_32 r.1 r.2
theorem tX8_findsNewName_29 {d : Nat} {z : Int32 × aH} (s0 : Int32) (s1 : Nat) (h : aH) (hf : fX8_findsNewName_29 s0 s1 h = some z) : Ev (d + 6) none mX8_findsNewName (0, 0) 29 [.null, .null, .null] [.int s0, .ref s1] h (QZ z) := by
  obtain ⟨_, h1, hf⟩ := bnd hf
  obtain ⟨fs, ho⟩ := isO_ok h1
  obtain ⟨r, h2, hf⟩ := bnd hf
  refine ev_V kqX8_findsNewName_29 jX8_fail (zX8_fail (d := d + 5) h2) ho rfl rfl (Nat.le_of_ble_eq_true rfl) rfl (as := [.int s0]) (rest := []) rfl (Nat.le_of_ble_eq_true rfl) (fun _ _ hq => ?_)
  obtain ⟨-, rfl, rfl⟩ := hq
  exact jm [0, 0, 0] (fX8_findsNewName_32 r.1 r.2) (fun q => tX8_findsNewName_32 r.1 r.2 q) hf
def wX8_findsNewName_27 : List En := [(.aload_n 0, 0, 0, 0), (.iconst 1, 0, 0, 0)]
def fX8_findsNewName_27 (v0 : Nat) (h : aH) : Option (Int32 × aH) :=
  fX8_findsNewName_29 (kI 1) v0 h
theorem tX8_findsNewName_27 {d : Nat} {z : Int32 × aH} (v0 : Nat) (h : aH) (hf : fX8_findsNewName_27 v0 h = some z) : Ev (d + 6) none mX8_findsNewName (0, 0) 27 [.ref v0, .null, .null] [] h (QZ z) := 
  go_ok (X := none) (blk := wX8_findsNewName_27) (np := 29) (tt := 0) (kN := fun xs h st => app [0, 0, 0] (apS [1, 2] (fun s0 s1 => fX8_findsNewName_29 s0 s1 h) st) xs) (kT := fun _ _ _ => none) (kR := kRZ)
    (fun xs h st q => jm [0, 0, 0] _ (fun q => apS_ok [1, 2] _ (fun st => Ev (d + 6) none mX8_findsNewName (0, 0) 29 [.null, .null, .null] st h (QZ z)) st (fun s0 s1 q => tX8_findsNewName_29 s0 s1 h q) q) q)
    (fun _ _ _ q => nos q)
    kRZ_ok (Or.inr rfl) (by decide +kernel) (by decide +kernel) hf
def wX8_findsNewName_106 : List En := [(.iconst 1, 0, 0, 0), (.ireturn, 0, 0, 0)]
def fX8_findsNewName_106 (h : aH) : Option (Int32 × aH) :=
  if (kI 1) = 0 ∨ (kI 1) = 1 then some ((kI 1), h) else none
theorem tX8_findsNewName_106 {d : Nat} {z : Int32 × aH} (h : aH) (hf : fX8_findsNewName_106 h = some z) : Ev (d + 6) none mX8_findsNewName (0, 0) 106 [.null, .null, .null] [] h (QZ z) := 
  go_ok (X := none) (blk := wX8_findsNewName_106) (np := 108) (tt := 0) (kN := fun _ _ _ => none) (kT := fun _ _ _ => none) (kR := kRZ)
    (fun _ _ _ q => nos q)
    (fun _ _ _ q => nos q)
    kRZ_ok (Or.inr rfl) (by decide +kernel) (by decide +kernel) hf
theorem kqX8_findsNewName_103 : okC mX8_findsNewName 103 (.invokevirtual 63) 18 11 0 0 = true := by decide +kernel
def fX8_findsNewName_103 (s0 : Nat) (h : aH) : Option (Int32 × aH) :=
  (isO h 8 s0).bind fun _ =>
  (gX8_step s0 h).bind fun r =>
  fX8_findsNewName_106 r
theorem tX8_findsNewName_103 {d : Nat} {z : Int32 × aH} (s0 : Nat) (h : aH) (hf : fX8_findsNewName_103 s0 h = some z) : Ev (d + 6) none mX8_findsNewName (0, 0) 103 [.null, .null, .null] [.ref s0] h (QZ z) := by
  obtain ⟨_, h1, hf⟩ := bnd hf
  obtain ⟨fs, ho⟩ := isO_ok h1
  obtain ⟨r, h2, hf⟩ := bnd hf
  refine ev_V kqX8_findsNewName_103 jX8_step (zX8_step (d := d + 3) h2) ho rfl rfl (Nat.le_of_ble_eq_true rfl) rfl (as := []) (rest := []) rfl (Nat.le_of_ble_eq_true rfl) (fun _ _ hq => ?_)
  obtain ⟨rfl, hh⟩ := hq
  rw [hh]
  exact jm [0, 0, 0] (fX8_findsNewName_106 r) (fun q => tX8_findsNewName_106 r q) hf
def wX8_findsNewName_46 : List En := [(.aload_n 0, 0, 0, 0), (.getfield 15, 7, 8, 4), (.aload_n 0, 0, 0, 0), (.getfield 50, 11, 8, 8), (.aload_n 0, 0, 0, 0), (.getfield 211, 13, 8, 10), (.iastore, 0, 0, 0), (.aload_n 0, 0, 0, 0), (.getfield 19, 8, 8, 5), (.aload_n 0, 0, 0, 0), (.getfield 50, 11, 8, 8), (.aload_n 0, 0, 0, 0), (.getfield 47, 14, 8, 11), (.iastore, 0, 0, 0), (.aload_n 0, 0, 0, 0), (.getfield 22, 9, 8, 6), (.aload_n 0, 0, 0, 0), (.getfield 50, 11, 8, 8), (.iload_n 1, 0, 0, 0), (.bastore, 0, 0, 0), (.aload_n 0, 0, 0, 0), (.getfield 26, 10, 8, 7), (.aload_n 0, 0, 0, 0), (.getfield 50, 11, 8, 8), (.iload_n 2, 0, 0, 0), (.iastore, 0, 0, 0), (.aload_n 0, 0, 0, 0), (.dup, 0, 0, 0), (.getfield 50, 11, 8, 8), (.iconst 1, 0, 0, 0), (.iadd, 0, 0, 0), (.putfield 50, 11, 8, 8), (.aload_n 0, 0, 0, 0)]
def fX8_findsNewName_46 (v0 : Nat) (v1 : Int32) (v2 : Int32) (h : aH) : Option (Int32 × aH) :=
  (gFR h 8 v0 4).bind fun t1 =>
  (gFI h 8 v0 8).bind fun t2 =>
  (gFI h 8 v0 10).bind fun t3 =>
  (aWI h t1 t2 t3).bind fun h4 =>
  (gFR h4 8 v0 5).bind fun t5 =>
  (gFI h4 8 v0 8).bind fun t6 =>
  (gFI h4 8 v0 11).bind fun t7 =>
  (aWI h4 t5 t6 t7).bind fun h8 =>
  (gFR h8 8 v0 6).bind fun t9 =>
  (gFI h8 8 v0 8).bind fun t10 =>
  (aWB h8 t9 t10 v1).bind fun h11 =>
  (gFR h11 8 v0 7).bind fun t12 =>
  (gFI h11 8 v0 8).bind fun t13 =>
  (aWI h11 t12 t13 v2).bind fun h14 =>
  (gFI h14 8 v0 8).bind fun t15 =>
  (pWV h14 8 v0 8 (.int (t15 + (kI 1)))).bind fun h16 =>
  fX8_findsNewName_103 v0 h16
theorem tX8_findsNewName_46 {d : Nat} {z : Int32 × aH} (v0 : Nat) (v1 : Int32) (v2 : Int32) (h : aH) (hf : fX8_findsNewName_46 v0 v1 v2 h = some z) : Ev (d + 6) none mX8_findsNewName (0, 0) 46 [.ref v0, .int v1, .int v2] [] h (QZ z) := 
  go_ok (X := none) (blk := wX8_findsNewName_46) (np := 103) (tt := 0) (kN := fun xs h st => app [0, 0, 0] (apS [2] (fun s0 => fX8_findsNewName_103 s0 h) st) xs) (kT := fun _ _ _ => none) (kR := kRZ)
    (fun xs h st q => jm [0, 0, 0] _ (fun q => apS_ok [2] _ (fun st => Ev (d + 6) none mX8_findsNewName (0, 0) 103 [.null, .null, .null] st h (QZ z)) st (fun s0 q => tX8_findsNewName_103 s0 h q) q) q)
    (fun _ _ _ q => nos q)
    kRZ_ok (Or.inr rfl) (by decide +kernel) (by decide +kernel) hf
def wX8_findsNewName_45 : List En := [(.ireturn, 0, 0, 0)]
def fX8_findsNewName_45 (s0 : Int32) (h : aH) : Option (Int32 × aH) :=
  if s0 = 0 ∨ s0 = 1 then some (s0, h) else none
theorem tX8_findsNewName_45 {d : Nat} {z : Int32 × aH} (s0 : Int32) (h : aH) (hf : fX8_findsNewName_45 s0 h = some z) : Ev (d + 6) none mX8_findsNewName (0, 0) 45 [.null, .null, .null] [.int s0] h (QZ z) := 
  go_ok (X := none) (blk := wX8_findsNewName_45) (np := 46) (tt := 0) (kN := fun _ _ _ => none) (kT := fun _ _ _ => none) (kR := kRZ)
    (fun _ _ _ q => nos q)
    (fun _ _ _ q => nos q)
    kRZ_ok (Or.inr rfl) (by decide +kernel) (by decide +kernel) hf
theorem kqX8_findsNewName_42 : okC mX8_findsNewName 42 (.invokevirtual 73) 37 21 0 1 = true := by decide +kernel
def fX8_findsNewName_42 (s0 : Int32) (s1 : Nat) (h : aH) : Option (Int32 × aH) :=
  (isO h 8 s1).bind fun _ =>
  (gX8_fail s1 s0 h).bind fun r =>
  fX8_findsNewName_45 r.1 r.2
theorem tX8_findsNewName_42 {d : Nat} {z : Int32 × aH} (s0 : Int32) (s1 : Nat) (h : aH) (hf : fX8_findsNewName_42 s0 s1 h = some z) : Ev (d + 6) none mX8_findsNewName (0, 0) 42 [.null, .null, .null] [.int s0, .ref s1] h (QZ z) := by
  obtain ⟨_, h1, hf⟩ := bnd hf
  obtain ⟨fs, ho⟩ := isO_ok h1
  obtain ⟨r, h2, hf⟩ := bnd hf
  refine ev_V kqX8_findsNewName_42 jX8_fail (zX8_fail (d := d + 5) h2) ho rfl rfl (Nat.le_of_ble_eq_true rfl) rfl (as := [.int s0]) (rest := []) rfl (Nat.le_of_ble_eq_true rfl) (fun _ _ hq => ?_)
  obtain ⟨-, rfl, rfl⟩ := hq
  exact jm [0, 0, 0] (fX8_findsNewName_45 r.1 r.2) (fun q => tX8_findsNewName_45 r.1 r.2 q) hf
def wX8_findsNewName_40 : List En := [(.aload_n 0, 0, 0, 0), (.iconst 3, 0, 0, 0)]
def fX8_findsNewName_40 (v0 : Nat) (h : aH) : Option (Int32 × aH) :=
  fX8_findsNewName_42 (kI 3) v0 h
theorem tX8_findsNewName_40 {d : Nat} {z : Int32 × aH} (v0 : Nat) (h : aH) (hf : fX8_findsNewName_40 v0 h = some z) : Ev (d + 6) none mX8_findsNewName (0, 0) 40 [.ref v0, .null, .null] [] h (QZ z) := 
  go_ok (X := none) (blk := wX8_findsNewName_40) (np := 42) (tt := 0) (kN := fun xs h st => app [0, 0, 0] (apS [1, 2] (fun s0 s1 => fX8_findsNewName_42 s0 s1 h) st) xs) (kT := fun _ _ _ => none) (kR := kRZ)
    (fun xs h st q => jm [0, 0, 0] _ (fun q => apS_ok [1, 2] _ (fun st => Ev (d + 6) none mX8_findsNewName (0, 0) 42 [.null, .null, .null] st h (QZ z)) st (fun s0 s1 q => tX8_findsNewName_42 s0 s1 h q) q) q)
    (fun _ _ _ q => nos q)
    kRZ_ok (Or.inr rfl) (by decide +kernel) (by decide +kernel) hf
def wX8_findsNewName_37 : List En := [(.ifCond .lt 9, 46, 0, 0)]
def fX8_findsNewName_37 (v0 : Nat) (v1 : Int32) (v2 : Int32) (s0 : Int32) (h : aH) : Option (Int32 × aH) :=
  if s0 < 0 then fX8_findsNewName_46 v0 v1 v2 h else fX8_findsNewName_40 v0 h
theorem tX8_findsNewName_37 {d : Nat} {z : Int32 × aH} (v0 : Nat) (v1 : Int32) (v2 : Int32) (s0 : Int32) (h : aH) (hf : fX8_findsNewName_37 v0 v1 v2 s0 h = some z) : Ev (d + 6) none mX8_findsNewName (0, 0) 37 [.ref v0, .int v1, .int v2] [.int s0] h (QZ z) := 
  go_ok (X := none) (blk := wX8_findsNewName_37) (np := 40) (tt := 46) (kN := fun xs h st => app [2, 0, 0] (fun v0 => apS [] (fX8_findsNewName_40 v0 h) st) xs) (kT := fun xs h st => app [2, 1, 1] (fun v0 v1 v2 => apS [] (fX8_findsNewName_46 v0 v1 v2 h) st) xs) (kR := kRZ)
    (fun xs h st q => jm [2, 0, 0] _ (fun v0 q => apS_ok [] _ (fun st => Ev (d + 6) none mX8_findsNewName (0, 0) 40 [.ref v0, .null, .null] st h (QZ z)) st (fun q => tX8_findsNewName_40 v0 h q) q) q)
    (fun xs h st q => jm [2, 1, 1] _ (fun v0 v1 v2 q => apS_ok [] _ (fun st => Ev (d + 6) none mX8_findsNewName (0, 0) 46 [.ref v0, .int v1, .int v2] st h (QZ z)) st (fun q => tX8_findsNewName_46 v0 v1 v2 h q) q) q)
    kRZ_ok (Or.inr rfl) (by decide +kernel) (by decide +kernel) hf
theorem kqX8_findsNewName_34 : okC mX8_findsNewName 34 (.invokevirtual 208) 44 28 0 0 = true := by decide +kernel
def fX8_findsNewName_34 (v0 : Nat) (v1 : Int32) (v2 : Int32) (s0 : Nat) (h : aH) : Option (Int32 × aH) :=
  (isO h 8 s0).bind fun _ =>
  (gX8_wordHere s0 h).bind fun r =>
  fX8_findsNewName_37 v0 v1 v2 r.1 r.2
theorem tX8_findsNewName_34 {d : Nat} {z : Int32 × aH} (v0 : Nat) (v1 : Int32) (v2 : Int32) (s0 : Nat) (h : aH) (hf : fX8_findsNewName_34 v0 v1 v2 s0 h = some z) : Ev (d + 6) none mX8_findsNewName (0, 0) 34 [.ref v0, .int v1, .int v2] [.ref s0] h (QZ z) := by
  obtain ⟨_, h1, hf⟩ := bnd hf
  obtain ⟨fs, ho⟩ := isO_ok h1
  obtain ⟨r, h2, hf⟩ := bnd hf
  refine ev_V kqX8_findsNewName_34 jX8_wordHere (zX8_wordHere (d := d + 4) h2) ho rfl rfl (Nat.le_of_ble_eq_true rfl) rfl (as := []) (rest := []) rfl (Nat.le_of_ble_eq_true rfl) (fun _ _ hq => ?_)
  obtain ⟨rfl, rfl⟩ := hq
  exact jm [2, 1, 1] (fun v0 v1 v2 => fX8_findsNewName_37 v0 v1 v2 r.1 r.2) (fun v0 v1 v2 q => tX8_findsNewName_37 v0 v1 v2 r.1 r.2 q) hf
def wX8_findsNewName_33 : List En := [(.aload_n 0, 0, 0, 0)]
def fX8_findsNewName_33 (v0 : Nat) (v1 : Int32) (v2 : Int32) (h : aH) : Option (Int32 × aH) :=
  fX8_findsNewName_34 v0 v1 v2 v0 h
theorem tX8_findsNewName_33 {d : Nat} {z : Int32 × aH} (v0 : Nat) (v1 : Int32) (v2 : Int32) (h : aH) (hf : fX8_findsNewName_33 v0 v1 v2 h = some z) : Ev (d + 6) none mX8_findsNewName (0, 0) 33 [.ref v0, .int v1, .int v2] [] h (QZ z) := 
  go_ok (X := none) (blk := wX8_findsNewName_33) (np := 34) (tt := 0) (kN := fun xs h st => app [2, 1, 1] (fun v0 v1 v2 => apS [2] (fun s0 => fX8_findsNewName_34 v0 v1 v2 s0 h) st) xs) (kT := fun _ _ _ => none) (kR := kRZ)
    (fun xs h st q => jm [2, 1, 1] _ (fun v0 v1 v2 q => apS_ok [2] _ (fun st => Ev (d + 6) none mX8_findsNewName (0, 0) 34 [.ref v0, .int v1, .int v2] st h (QZ z)) st (fun s0 q => tX8_findsNewName_34 v0 v1 v2 s0 h q) q) q)
    (fun _ _ _ q => nos q)
    kRZ_ok (Or.inr rfl) (by decide +kernel) (by decide +kernel) hf
def wX8_findsNewName_15 : List En := [(.aload_n 0, 0, 0, 0), (.getfield 50, 11, 8, 8), (.aload_n 0, 0, 0, 0), (.getfield 15, 7, 8, 4), (.arraylength, 0, 0, 0), (.if_icmp .lt 9, 33, 0, 0)]
def fX8_findsNewName_15 (v0 : Nat) (v1 : Int32) (v2 : Int32) (h : aH) : Option (Int32 × aH) :=
  (gFI h 8 v0 8).bind fun t1 =>
  (gFR h 8 v0 4).bind fun t2 =>
  (aLn (h[t2]?)).bind fun t3 =>
  if t1 < t3 then fX8_findsNewName_33 v0 v1 v2 h else fX8_findsNewName_27 v0 h
theorem tX8_findsNewName_15 {d : Nat} {z : Int32 × aH} (v0 : Nat) (v1 : Int32) (v2 : Int32) (h : aH) (hf : fX8_findsNewName_15 v0 v1 v2 h = some z) : Ev (d + 6) none mX8_findsNewName (0, 0) 15 [.ref v0, .int v1, .int v2] [] h (QZ z) := 
  go_ok (X := none) (blk := wX8_findsNewName_15) (np := 27) (tt := 33) (kN := fun xs h st => app [2, 0, 0] (fun v0 => apS [] (fX8_findsNewName_27 v0 h) st) xs) (kT := fun xs h st => app [2, 1, 1] (fun v0 v1 v2 => apS [] (fX8_findsNewName_33 v0 v1 v2 h) st) xs) (kR := kRZ)
    (fun xs h st q => jm [2, 0, 0] _ (fun v0 q => apS_ok [] _ (fun st => Ev (d + 6) none mX8_findsNewName (0, 0) 27 [.ref v0, .null, .null] st h (QZ z)) st (fun q => tX8_findsNewName_27 v0 h q) q) q)
    (fun xs h st q => jm [2, 1, 1] _ (fun v0 v1 v2 q => apS_ok [] _ (fun st => Ev (d + 6) none mX8_findsNewName (0, 0) 33 [.ref v0, .int v1, .int v2] st h (QZ z)) st (fun q => tX8_findsNewName_33 v0 v1 v2 h q) q) q)
    kRZ_ok (Or.inr rfl) (by decide +kernel) (by decide +kernel) hf
def wX8_findsNewName_12 : List En := [(.ifCond .ge 15, 27, 0, 0)]
def fX8_findsNewName_12 (v0 : Nat) (v1 : Int32) (v2 : Int32) (s0 : Int32) (h : aH) : Option (Int32 × aH) :=
  if s0 < 0 then fX8_findsNewName_15 v0 v1 v2 h else fX8_findsNewName_27 v0 h
theorem tX8_findsNewName_12 {d : Nat} {z : Int32 × aH} (v0 : Nat) (v1 : Int32) (v2 : Int32) (s0 : Int32) (h : aH) (hf : fX8_findsNewName_12 v0 v1 v2 s0 h = some z) : Ev (d + 6) none mX8_findsNewName (0, 0) 12 [.ref v0, .int v1, .int v2] [.int s0] h (QZ z) := 
  go_ok (X := none) (blk := wX8_findsNewName_12) (np := 15) (tt := 27) (kN := fun xs h st => app [2, 1, 1] (fun v0 v1 v2 => apS [] (fX8_findsNewName_15 v0 v1 v2 h) st) xs) (kT := fun xs h st => app [2, 0, 0] (fun v0 => apS [] (fX8_findsNewName_27 v0 h) st) xs) (kR := kRZ)
    (fun xs h st q => jm [2, 1, 1] _ (fun v0 v1 v2 q => apS_ok [] _ (fun st => Ev (d + 6) none mX8_findsNewName (0, 0) 15 [.ref v0, .int v1, .int v2] st h (QZ z)) st (fun q => tX8_findsNewName_15 v0 v1 v2 h q) q) q)
    (fun xs h st q => jm [2, 0, 0] _ (fun v0 q => apS_ok [] _ (fun st => Ev (d + 6) none mX8_findsNewName (0, 0) 27 [.ref v0, .null, .null] st h (QZ z)) st (fun q => tX8_findsNewName_27 v0 h q) q) q)
    kRZ_ok (Or.inr rfl) (by decide +kernel) (by decide +kernel) hf
theorem kqX8_findsNewName_9 : okC mX8_findsNewName 9 (.invokevirtual 83) 24 17 0 0 = true := by decide +kernel
def fX8_findsNewName_9 (v0 : Nat) (v1 : Int32) (v2 : Int32) (s0 : Nat) (h : aH) : Option (Int32 × aH) :=
  (isO h 8 s0).bind fun _ =>
  (gX8_lineSort s0 h).bind fun r =>
  fX8_findsNewName_12 v0 v1 v2 r.1 r.2
theorem tX8_findsNewName_9 {d : Nat} {z : Int32 × aH} (v0 : Nat) (v1 : Int32) (v2 : Int32) (s0 : Nat) (h : aH) (hf : fX8_findsNewName_9 v0 v1 v2 s0 h = some z) : Ev (d + 6) none mX8_findsNewName (0, 0) 9 [.ref v0, .int v1, .int v2] [.ref s0] h (QZ z) := by
  obtain ⟨_, h1, hf⟩ := bnd hf
  obtain ⟨fs, ho⟩ := isO_ok h1
  obtain ⟨r, h2, hf⟩ := bnd hf
  refine ev_V kqX8_findsNewName_9 jX8_lineSort (zX8_lineSort (d := d + 0) h2) ho rfl rfl (Nat.le_of_ble_eq_true rfl) rfl (as := []) (rest := []) rfl (Nat.le_of_ble_eq_true rfl) (fun _ _ hq => ?_)
  obtain ⟨rfl, rfl⟩ := hq
  exact jm [2, 1, 1] (fun v0 v1 v2 => fX8_findsNewName_12 v0 v1 v2 r.1 r.2) (fun v0 v1 v2 q => tX8_findsNewName_12 v0 v1 v2 r.1 r.2 q) hf
def wX8_findsNewName_8 : List En := [(.aload_n 0, 0, 0, 0)]
def fX8_findsNewName_8 (v0 : Nat) (v1 : Int32) (v2 : Int32) (h : aH) : Option (Int32 × aH) :=
  fX8_findsNewName_9 v0 v1 v2 v0 h
theorem tX8_findsNewName_8 {d : Nat} {z : Int32 × aH} (v0 : Nat) (v1 : Int32) (v2 : Int32) (h : aH) (hf : fX8_findsNewName_8 v0 v1 v2 h = some z) : Ev (d + 6) none mX8_findsNewName (0, 0) 8 [.ref v0, .int v1, .int v2] [] h (QZ z) := 
  go_ok (X := none) (blk := wX8_findsNewName_8) (np := 9) (tt := 0) (kN := fun xs h st => app [2, 1, 1] (fun v0 v1 v2 => apS [2] (fun s0 => fX8_findsNewName_9 v0 v1 v2 s0 h) st) xs) (kT := fun _ _ _ => none) (kR := kRZ)
    (fun xs h st q => jm [2, 1, 1] _ (fun v0 v1 v2 q => apS_ok [2] _ (fun st => Ev (d + 6) none mX8_findsNewName (0, 0) 9 [.ref v0, .int v1, .int v2] st h (QZ z)) st (fun s0 q => tX8_findsNewName_9 v0 v1 v2 s0 h q) q) q)
    (fun _ _ _ q => nos q)
    kRZ_ok (Or.inr rfl) (by decide +kernel) (by decide +kernel) hf
def wX8_findsNewName_0 : List En := [(.aload_n 0, 0, 0, 0), (.getfield 70, 15, 8, 12), (.iconst 2, 0, 0, 0), (.if_icmp .ne 22, 27, 0, 0)]
def fX8_findsNewName_0 (v0 : Nat) (v1 : Int32) (v2 : Int32) (h : aH) : Option (Int32 × aH) :=
  (gFI h 8 v0 12).bind fun t1 =>
  if t1 = (kI 2) then fX8_findsNewName_8 v0 v1 v2 h else fX8_findsNewName_27 v0 h
theorem tX8_findsNewName_0 {d : Nat} {z : Int32 × aH} (v0 : Nat) (v1 : Int32) (v2 : Int32) (h : aH) (hf : fX8_findsNewName_0 v0 v1 v2 h = some z) : Ev (d + 6) none mX8_findsNewName (0, 0) 0 [.ref v0, .int v1, .int v2] [] h (QZ z) := 
  go_ok (X := none) (blk := wX8_findsNewName_0) (np := 8) (tt := 27) (kN := fun xs h st => app [2, 1, 1] (fun v0 v1 v2 => apS [] (fX8_findsNewName_8 v0 v1 v2 h) st) xs) (kT := fun xs h st => app [2, 0, 0] (fun v0 => apS [] (fX8_findsNewName_27 v0 h) st) xs) (kR := kRZ)
    (fun xs h st q => jm [2, 1, 1] _ (fun v0 v1 v2 q => apS_ok [] _ (fun st => Ev (d + 6) none mX8_findsNewName (0, 0) 8 [.ref v0, .int v1, .int v2] st h (QZ z)) st (fun q => tX8_findsNewName_8 v0 v1 v2 h q) q) q)
    (fun xs h st q => jm [2, 0, 0] _ (fun v0 q => apS_ok [] _ (fun st => Ev (d + 6) none mX8_findsNewName (0, 0) 27 [.ref v0, .null, .null] st h (QZ z)) st (fun q => tX8_findsNewName_27 v0 h q) q) q)
    kRZ_ok (Or.inr rfl) (by decide +kernel) (by decide +kernel) hf
def gX8_findsNewName (v0 : Nat) (v1 : Int32) (v2 : Int32) (h : aH) : Option (Int32 × aH) := fX8_findsNewName_0 v0 v1 v2 h
theorem zX8_findsNewName {d : Nat} {z : Int32 × aH} {v0 : Nat} {v1 : Int32} {v2 : Int32} {h : aH} (q : gX8_findsNewName v0 v1 v2 h = some z) : CT (d + 6) mX8_findsNewName (0, 0) [.ref v0, .int v1, .int v2] h (QZ z) :=
  ct_ev (by decide +kernel) (Nat.le_of_ble_eq_true rfl) QZ_r (jm [2, 1, 1] (fun v0 v1 v2 => fX8_findsNewName_0 v0 v1 v2 h) (fun v0 v1 v2 q => tX8_findsNewName_0 v0 v1 v2 h q) q)
def wX8_readName_27 : List En := [(.iconst 0, 0, 0, 0), (.ireturn, 0, 0, 0)]
def fX8_readName_27 (h : aH) : Option (Int32 × aH) :=
  if (kI 0) = 0 ∨ (kI 0) = 1 then some ((kI 0), h) else none
theorem tX8_readName_27 {d : Nat} {z : Int32 × aH} (h : aH) (hf : fX8_readName_27 h = some z) : Ev (d + 7) none mX8_readName (0, 0) 27 [.null, .null, .null] [] h (QZ z) := 
  go_ok (X := none) (blk := wX8_readName_27) (np := 29) (tt := 0) (kN := fun _ _ _ => none) (kT := fun _ _ _ => none) (kR := kRZ)
    (fun _ _ _ q => nos q)
    (fun _ _ _ q => nos q)
    kRZ_ok (Or.inr rfl) (by decide +kernel) (by decide +kernel) hf
def wX8_readName_98 : List En := [(.iconst 1, 0, 0, 0), (.ireturn, 0, 0, 0)]
def fX8_readName_98 (h : aH) : Option (Int32 × aH) :=
  if (kI 1) = 0 ∨ (kI 1) = 1 then some ((kI 1), h) else none
theorem tX8_readName_98 {d : Nat} {z : Int32 × aH} (h : aH) (hf : fX8_readName_98 h = some z) : Ev (d + 7) none mX8_readName (0, 0) 98 [.null, .null, .null] [] h (QZ z) := 
  go_ok (X := none) (blk := wX8_readName_98) (np := 100) (tt := 0) (kN := fun _ _ _ => none) (kT := fun _ _ _ => none) (kR := kRZ)
    (fun _ _ _ q => nos q)
    (fun _ _ _ q => nos q)
    kRZ_ok (Or.inr rfl) (by decide +kernel) (by decide +kernel) hf
theorem kqX8_readName_95 : okC mX8_readName 95 (.invokevirtual 63) 18 11 0 0 = true := by decide +kernel
def fX8_readName_95 (s0 : Nat) (h : aH) : Option (Int32 × aH) :=
  (isO h 8 s0).bind fun _ =>
  (gX8_step s0 h).bind fun r =>
  fX8_readName_98 r
theorem tX8_readName_95 {d : Nat} {z : Int32 × aH} (s0 : Nat) (h : aH) (hf : fX8_readName_95 s0 h = some z) : Ev (d + 7) none mX8_readName (0, 0) 95 [.null, .null, .null] [.ref s0] h (QZ z) := by
  obtain ⟨_, h1, hf⟩ := bnd hf
  obtain ⟨fs, ho⟩ := isO_ok h1
  obtain ⟨r, h2, hf⟩ := bnd hf
  refine ev_V kqX8_readName_95 jX8_step (zX8_step (d := d + 4) h2) ho rfl rfl (Nat.le_of_ble_eq_true rfl) rfl (as := []) (rest := []) rfl (Nat.le_of_ble_eq_true rfl) (fun _ _ hq => ?_)
  obtain ⟨rfl, hh⟩ := hq
  rw [hh]
  exact jm [0, 0, 0] (fX8_readName_98 r) (fun q => tX8_readName_98 r q) hf
def wX8_readName_74 : List En := [(.aload_n 1, 0, 0, 0), (.getfield 164, 145, 9, 12), (.iload_n 2, 0, 0, 0), (.aload_n 0, 0, 0, 0), (.getfield 127, 16, 8, 13), (.iastore, 0, 0, 0), (.aload_n 1, 0, 0, 0), (.dup, 0, 0, 0), (.getfield 109, 115, 9, 4), (.iconst 1, 0, 0, 0), (.iadd, 0, 0, 0), (.putfield 109, 115, 9, 4), (.aload_n 0, 0, 0, 0)]
def fX8_readName_74 (v0 : Nat) (v1 : Nat) (v2 : Int32) (h : aH) : Option (Int32 × aH) :=
  (gFR h 9 v1 12).bind fun t1 =>
  (gFI h 8 v0 13).bind fun t2 =>
  (aWI h t1 v2 t2).bind fun h3 =>
  (gFI h3 9 v1 4).bind fun t4 =>
  (pWV h3 9 v1 4 (.int (t4 + (kI 1)))).bind fun h5 =>
  fX8_readName_95 v0 h5
theorem tX8_readName_74 {d : Nat} {z : Int32 × aH} (v0 : Nat) (v1 : Nat) (v2 : Int32) (h : aH) (hf : fX8_readName_74 v0 v1 v2 h = some z) : Ev (d + 7) none mX8_readName (0, 0) 74 [.ref v0, .ref v1, .int v2] [] h (QZ z) := 
  go_ok (X := none) (blk := wX8_readName_74) (np := 95) (tt := 0) (kN := fun xs h st => app [0, 0, 0] (apS [2] (fun s0 => fX8_readName_95 s0 h) st) xs) (kT := fun _ _ _ => none) (kR := kRZ)
    (fun xs h st q => jm [0, 0, 0] _ (fun q => apS_ok [2] _ (fun st => Ev (d + 7) none mX8_readName (0, 0) 95 [.null, .null, .null] st h (QZ z)) st (fun s0 q => tX8_readName_95 s0 h q) q) q)
    (fun _ _ _ q => nos q)
    kRZ_ok (Or.inr rfl) (by decide +kernel) (by decide +kernel) hf
def wX8_readName_72 : List En := [(.iconst 0, 0, 0, 0), (.ireturn, 0, 0, 0)]
def fX8_readName_72 (h : aH) : Option (Int32 × aH) :=
  if (kI 0) = 0 ∨ (kI 0) = 1 then some ((kI 0), h) else none
theorem tX8_readName_72 {d : Nat} {z : Int32 × aH} (h : aH) (hf : fX8_readName_72 h = some z) : Ev (d + 7) none mX8_readName (0, 0) 72 [.null, .null, .null] [] h (QZ z) := 
  go_ok (X := none) (blk := wX8_readName_72) (np := 74) (tt := 0) (kN := fun _ _ _ => none) (kT := fun _ _ _ => none) (kR := kRZ)
    (fun _ _ _ q => nos q)
    (fun _ _ _ q => nos q)
    kRZ_ok (Or.inr rfl) (by decide +kernel) (by decide +kernel) hf
def wX8_readName_69 : List En := [(.ifCond .ne 5, 74, 0, 0)]
def fX8_readName_69 (v0 : Nat) (v1 : Nat) (v2 : Int32) (s0 : Int32) (h : aH) : Option (Int32 × aH) :=
  if s0 = 0 then fX8_readName_72 h else fX8_readName_74 v0 v1 v2 h
theorem tX8_readName_69 {d : Nat} {z : Int32 × aH} (v0 : Nat) (v1 : Nat) (v2 : Int32) (s0 : Int32) (h : aH) (hf : fX8_readName_69 v0 v1 v2 s0 h = some z) : Ev (d + 7) none mX8_readName (0, 0) 69 [.ref v0, .ref v1, .int v2] [.int s0] h (QZ z) := 
  go_ok (X := none) (blk := wX8_readName_69) (np := 72) (tt := 74) (kN := fun xs h st => app [0, 0, 0] (apS [] (fX8_readName_72 h) st) xs) (kT := fun xs h st => app [2, 2, 1] (fun v0 v1 v2 => apS [] (fX8_readName_74 v0 v1 v2 h) st) xs) (kR := kRZ)
    (fun xs h st q => jm [0, 0, 0] _ (fun q => apS_ok [] _ (fun st => Ev (d + 7) none mX8_readName (0, 0) 72 [.null, .null, .null] st h (QZ z)) st (fun q => tX8_readName_72 h q) q) q)
    (fun xs h st q => jm [2, 2, 1] _ (fun v0 v1 v2 q => apS_ok [] _ (fun st => Ev (d + 7) none mX8_readName (0, 0) 74 [.ref v0, .ref v1, .int v2] st h (QZ z)) st (fun q => tX8_readName_74 v0 v1 v2 h q) q) q)
    kRZ_ok (Or.inr rfl) (by decide +kernel) (by decide +kernel) hf
theorem kqX8_readName_66 : okC mX8_readName 66 (.invokevirtual 123) 40 24 0 3 = true := by decide +kernel
def fX8_readName_66 (v0 : Nat) (v1 : Nat) (v2 : Int32) (s0 : Int32) (s1 : Int32) (s2 : Nat) (s3 : Nat) (h : aH) : Option (Int32 × aH) :=
  (isO h 8 s3).bind fun _ =>
  (gX8_findsWhole s3 s2 s1 s0 h).bind fun r =>
  fX8_readName_69 v0 v1 v2 r.1 r.2
theorem tX8_readName_66 {d : Nat} {z : Int32 × aH} (v0 : Nat) (v1 : Nat) (v2 : Int32) (s0 : Int32) (s1 : Int32) (s2 : Nat) (s3 : Nat) (h : aH) (hf : fX8_readName_66 v0 v1 v2 s0 s1 s2 s3 h = some z) : Ev (d + 7) none mX8_readName (0, 0) 66 [.ref v0, .ref v1, .int v2] [.int s0, .int s1, .ref s2, .ref s3] h (QZ z) := by
  obtain ⟨_, h1, hf⟩ := bnd hf
  obtain ⟨fs, ho⟩ := isO_ok h1
  obtain ⟨r, h2, hf⟩ := bnd hf
  refine ev_V kqX8_readName_66 jX8_findsWhole (zX8_findsWhole (d := d + 1) h2) ho rfl rfl (Nat.le_of_ble_eq_true rfl) rfl (as := [.ref s2, .int s1, .int s0]) (rest := []) rfl (Nat.le_of_ble_eq_true rfl) (fun _ _ hq => ?_)
  obtain ⟨-, rfl, rfl⟩ := hq
  exact jm [2, 2, 1] (fun v0 v1 v2 => fX8_readName_69 v0 v1 v2 r.1 r.2) (fun v0 v1 v2 q => tX8_readName_69 v0 v1 v2 r.1 r.2 q) hf
def wX8_readName_63 : List En := [(.iconst 0, 0, 0, 0), (.bipush 20, 0, 0, 0)]
def fX8_readName_63 (v0 : Nat) (v1 : Nat) (v2 : Int32) (s0 : Nat) (s1 : Nat) (h : aH) : Option (Int32 × aH) :=
  fX8_readName_66 v0 v1 v2 (kB 20) (kI 0) s0 s1 h
theorem tX8_readName_63 {d : Nat} {z : Int32 × aH} (v0 : Nat) (v1 : Nat) (v2 : Int32) (s0 : Nat) (s1 : Nat) (h : aH) (hf : fX8_readName_63 v0 v1 v2 s0 s1 h = some z) : Ev (d + 7) none mX8_readName (0, 0) 63 [.ref v0, .ref v1, .int v2] [.ref s0, .ref s1] h (QZ z) := 
  go_ok (X := none) (blk := wX8_readName_63) (np := 66) (tt := 0) (kN := fun xs h st => app [2, 2, 1] (fun v0 v1 v2 => apS [1, 1, 2, 2] (fun s0 s1 s2 s3 => fX8_readName_66 v0 v1 v2 s0 s1 s2 s3 h) st) xs) (kT := fun _ _ _ => none) (kR := kRZ)
    (fun xs h st q => jm [2, 2, 1] _ (fun v0 v1 v2 q => apS_ok [1, 1, 2, 2] _ (fun st => Ev (d + 7) none mX8_readName (0, 0) 66 [.ref v0, .ref v1, .int v2] st h (QZ z)) st (fun s0 s1 s2 s3 q => tX8_readName_66 v0 v1 v2 s0 s1 s2 s3 h q) q) q)
    (fun _ _ _ q => nos q)
    kRZ_ok (Or.inr rfl) (by decide +kernel) (by decide +kernel) hf
theorem kqX8_readName_61 : ckS mX8_readName 61 162 15 = true := by decide +kernel -- worth
def fX8_readName_61 (v0 : Nat) (v1 : Nat) (v2 : Int32) (s0 : Nat) (h : aH) : Option (Int32 × aH) :=
  fX8_readName_63 v0 v1 v2 (SB + 15) s0 h
theorem tX8_readName_61 {d : Nat} {z : Int32 × aH} (v0 : Nat) (v1 : Nat) (v2 : Int32) (s0 : Nat) (h : aH) (hf : fX8_readName_61 v0 v1 v2 s0 h = some z) : Ev (d + 7) none mX8_readName (0, 0) 61 [.ref v0, .ref v1, .int v2] [.ref s0] h (QZ z) := 
  ev_ldcS kqX8_readName_61 rfl (jm [2, 2, 1] (fun v0 v1 v2 => fX8_readName_63 v0 v1 v2 (SB + 15) s0 h) (fun v0 v1 v2 q => tX8_readName_63 v0 v1 v2 (SB + 15) s0 h q) hf)
def wX8_readName_60 : List En := [(.aload_n 0, 0, 0, 0)]
def fX8_readName_60 (v0 : Nat) (v1 : Nat) (v2 : Int32) (h : aH) : Option (Int32 × aH) :=
  fX8_readName_61 v0 v1 v2 v0 h
theorem tX8_readName_60 {d : Nat} {z : Int32 × aH} (v0 : Nat) (v1 : Nat) (v2 : Int32) (h : aH) (hf : fX8_readName_60 v0 v1 v2 h = some z) : Ev (d + 7) none mX8_readName (0, 0) 60 [.ref v0, .ref v1, .int v2] [] h (QZ z) := 
  go_ok (X := none) (blk := wX8_readName_60) (np := 61) (tt := 0) (kN := fun xs h st => app [2, 2, 1] (fun v0 v1 v2 => apS [2] (fun s0 => fX8_readName_61 v0 v1 v2 s0 h) st) xs) (kT := fun _ _ _ => none) (kR := kRZ)
    (fun xs h st q => jm [2, 2, 1] _ (fun v0 v1 v2 q => apS_ok [2] _ (fun st => Ev (d + 7) none mX8_readName (0, 0) 61 [.ref v0, .ref v1, .int v2] st h (QZ z)) st (fun s0 q => tX8_readName_61 v0 v1 v2 s0 h q) q) q)
    (fun _ _ _ q => nos q)
    kRZ_ok (Or.inr rfl) (by decide +kernel) (by decide +kernel) hf
theorem kqX8_readName_57 : okC mX8_readName 57 (.invokevirtual 63) 18 11 0 0 = true := by decide +kernel
def fX8_readName_57 (v0 : Nat) (v1 : Nat) (v2 : Int32) (s0 : Nat) (h : aH) : Option (Int32 × aH) :=
  (isO h 8 s0).bind fun _ =>
  (gX8_step s0 h).bind fun r =>
  fX8_readName_60 v0 v1 v2 r
theorem tX8_readName_57 {d : Nat} {z : Int32 × aH} (v0 : Nat) (v1 : Nat) (v2 : Int32) (s0 : Nat) (h : aH) (hf : fX8_readName_57 v0 v1 v2 s0 h = some z) : Ev (d + 7) none mX8_readName (0, 0) 57 [.ref v0, .ref v1, .int v2] [.ref s0] h (QZ z) := by
  obtain ⟨_, h1, hf⟩ := bnd hf
  obtain ⟨fs, ho⟩ := isO_ok h1
  obtain ⟨r, h2, hf⟩ := bnd hf
  refine ev_V kqX8_readName_57 jX8_step (zX8_step (d := d + 4) h2) ho rfl rfl (Nat.le_of_ble_eq_true rfl) rfl (as := []) (rest := []) rfl (Nat.le_of_ble_eq_true rfl) (fun _ _ hq => ?_)
  obtain ⟨rfl, hh⟩ := hq
  rw [hh]
  exact jm [2, 2, 1] (fun v0 v1 v2 => fX8_readName_60 v0 v1 v2 r) (fun v0 v1 v2 q => tX8_readName_60 v0 v1 v2 r q) hf
def wX8_readName_46 : List En := [(.aload_n 1, 0, 0, 0), (.getfield 160, 142, 9, 11), (.iload_n 2, 0, 0, 0), (.aload_n 0, 0, 0, 0), (.getfield 127, 16, 8, 13), (.iastore, 0, 0, 0), (.aload_n 0, 0, 0, 0)]
def fX8_readName_46 (v0 : Nat) (v1 : Nat) (v2 : Int32) (h : aH) : Option (Int32 × aH) :=
  (gFR h 9 v1 11).bind fun t1 =>
  (gFI h 8 v0 13).bind fun t2 =>
  (aWI h t1 v2 t2).bind fun h3 =>
  fX8_readName_57 v0 v1 v2 v0 h3
theorem tX8_readName_46 {d : Nat} {z : Int32 × aH} (v0 : Nat) (v1 : Nat) (v2 : Int32) (h : aH) (hf : fX8_readName_46 v0 v1 v2 h = some z) : Ev (d + 7) none mX8_readName (0, 0) 46 [.ref v0, .ref v1, .int v2] [] h (QZ z) := 
  go_ok (X := none) (blk := wX8_readName_46) (np := 57) (tt := 0) (kN := fun xs h st => app [2, 2, 1] (fun v0 v1 v2 => apS [2] (fun s0 => fX8_readName_57 v0 v1 v2 s0 h) st) xs) (kT := fun _ _ _ => none) (kR := kRZ)
    (fun xs h st q => jm [2, 2, 1] _ (fun v0 v1 v2 q => apS_ok [2] _ (fun st => Ev (d + 7) none mX8_readName (0, 0) 57 [.ref v0, .ref v1, .int v2] st h (QZ z)) st (fun s0 q => tX8_readName_57 v0 v1 v2 s0 h q) q) q)
    (fun _ _ _ q => nos q)
    kRZ_ok (Or.inr rfl) (by decide +kernel) (by decide +kernel) hf
def wX8_readName_45 : List En := [(.ireturn, 0, 0, 0)]
def fX8_readName_45 (s0 : Int32) (h : aH) : Option (Int32 × aH) :=
  if s0 = 0 ∨ s0 = 1 then some (s0, h) else none
theorem tX8_readName_45 {d : Nat} {z : Int32 × aH} (s0 : Int32) (h : aH) (hf : fX8_readName_45 s0 h = some z) : Ev (d + 7) none mX8_readName (0, 0) 45 [.null, .null, .null] [.int s0] h (QZ z) := 
  go_ok (X := none) (blk := wX8_readName_45) (np := 46) (tt := 0) (kN := fun _ _ _ => none) (kT := fun _ _ _ => none) (kR := kRZ)
    (fun _ _ _ q => nos q)
    (fun _ _ _ q => nos q)
    kRZ_ok (Or.inr rfl) (by decide +kernel) (by decide +kernel) hf
theorem kqX8_readName_42 : okC mX8_readName 42 (.invokevirtual 73) 37 21 0 1 = true := by decide +kernel
def fX8_readName_42 (s0 : Int32) (s1 : Nat) (h : aH) : Option (Int32 × aH) :=
  (isO h 8 s1).bind fun _ =>
  (gX8_fail s1 s0 h).bind fun r =>
  fX8_readName_45 r.1 r.2
theorem tX8_readName_42 {d : Nat} {z : Int32 × aH} (s0 : Int32) (s1 : Nat) (h : aH) (hf : fX8_readName_42 s0 s1 h = some z) : Ev (d + 7) none mX8_readName (0, 0) 42 [.null, .null, .null] [.int s0, .ref s1] h (QZ z) := by
  obtain ⟨_, h1, hf⟩ := bnd hf
  obtain ⟨fs, ho⟩ := isO_ok h1
  obtain ⟨r, h2, hf⟩ := bnd hf
  refine ev_V kqX8_readName_42 jX8_fail (zX8_fail (d := d + 6) h2) ho rfl rfl (Nat.le_of_ble_eq_true rfl) rfl (as := [.int s0]) (rest := []) rfl (Nat.le_of_ble_eq_true rfl) (fun _ _ hq => ?_)
  obtain ⟨-, rfl, rfl⟩ := hq
  exact jm [0, 0, 0] (fX8_readName_45 r.1 r.2) (fun q => tX8_readName_45 r.1 r.2 q) hf
def wX8_readName_40 : List En := [(.aload_n 0, 0, 0, 0), (.iconst 3, 0, 0, 0)]
def fX8_readName_40 (v0 : Nat) (h : aH) : Option (Int32 × aH) :=
  fX8_readName_42 (kI 3) v0 h
theorem tX8_readName_40 {d : Nat} {z : Int32 × aH} (v0 : Nat) (h : aH) (hf : fX8_readName_40 v0 h = some z) : Ev (d + 7) none mX8_readName (0, 0) 40 [.ref v0, .null, .null] [] h (QZ z) := 
  go_ok (X := none) (blk := wX8_readName_40) (np := 42) (tt := 0) (kN := fun xs h st => app [0, 0, 0] (apS [1, 2] (fun s0 s1 => fX8_readName_42 s0 s1 h) st) xs) (kT := fun _ _ _ => none) (kR := kRZ)
    (fun xs h st q => jm [0, 0, 0] _ (fun q => apS_ok [1, 2] _ (fun st => Ev (d + 7) none mX8_readName (0, 0) 42 [.null, .null, .null] st h (QZ z)) st (fun s0 s1 q => tX8_readName_42 s0 s1 h q) q) q)
    (fun _ _ _ q => nos q)
    kRZ_ok (Or.inr rfl) (by decide +kernel) (by decide +kernel) hf
def wX8_readName_37 : List En := [(.ifCond .eq 9, 46, 0, 0)]
def fX8_readName_37 (v0 : Nat) (v1 : Nat) (v2 : Int32) (s0 : Int32) (h : aH) : Option (Int32 × aH) :=
  if s0 = 0 then fX8_readName_46 v0 v1 v2 h else fX8_readName_40 v0 h
theorem tX8_readName_37 {d : Nat} {z : Int32 × aH} (v0 : Nat) (v1 : Nat) (v2 : Int32) (s0 : Int32) (h : aH) (hf : fX8_readName_37 v0 v1 v2 s0 h = some z) : Ev (d + 7) none mX8_readName (0, 0) 37 [.ref v0, .ref v1, .int v2] [.int s0] h (QZ z) := 
  go_ok (X := none) (blk := wX8_readName_37) (np := 40) (tt := 46) (kN := fun xs h st => app [2, 0, 0] (fun v0 => apS [] (fX8_readName_40 v0 h) st) xs) (kT := fun xs h st => app [2, 2, 1] (fun v0 v1 v2 => apS [] (fX8_readName_46 v0 v1 v2 h) st) xs) (kR := kRZ)
    (fun xs h st q => jm [2, 0, 0] _ (fun v0 q => apS_ok [] _ (fun st => Ev (d + 7) none mX8_readName (0, 0) 40 [.ref v0, .null, .null] st h (QZ z)) st (fun q => tX8_readName_40 v0 h q) q) q)
    (fun xs h st q => jm [2, 2, 1] _ (fun v0 v1 v2 q => apS_ok [] _ (fun st => Ev (d + 7) none mX8_readName (0, 0) 46 [.ref v0, .ref v1, .int v2] st h (QZ z)) st (fun q => tX8_readName_46 v0 v1 v2 h q) q) q)
    kRZ_ok (Or.inr rfl) (by decide +kernel) (by decide +kernel) hf
theorem kqX8_readName_34 : okC mX8_readName 34 (.invokevirtual 80) 48 32 0 1 = true := by decide +kernel
def fX8_readName_34 (v0 : Nat) (v1 : Nat) (v2 : Int32) (s0 : Int32) (s1 : Nat) (h : aH) : Option (Int32 × aH) :=
  (isO h 9 s1).bind fun _ =>
  (gX9_hasFrom s1 s0 h).bind fun r =>
  fX8_readName_37 v0 v1 v2 r.1 r.2
theorem tX8_readName_34 {d : Nat} {z : Int32 × aH} (v0 : Nat) (v1 : Nat) (v2 : Int32) (s0 : Int32) (s1 : Nat) (h : aH) (hf : fX8_readName_34 v0 v1 v2 s0 s1 h = some z) : Ev (d + 7) none mX8_readName (0, 0) 34 [.ref v0, .ref v1, .int v2] [.int s0, .ref s1] h (QZ z) := by
  obtain ⟨_, h1, hf⟩ := bnd hf
  obtain ⟨fs, ho⟩ := isO_ok h1
  obtain ⟨r, h2, hf⟩ := bnd hf
  refine ev_V kqX8_readName_34 jX9_hasFrom (zX9_hasFrom (d := d + 6) h2) ho rfl rfl (Nat.le_of_ble_eq_true rfl) rfl (as := [.int s0]) (rest := []) rfl (Nat.le_of_ble_eq_true rfl) (fun _ _ hq => ?_)
  obtain ⟨-, rfl, rfl⟩ := hq
  exact jm [2, 2, 1] (fun v0 v1 v2 => fX8_readName_37 v0 v1 v2 r.1 r.2) (fun v0 v1 v2 q => tX8_readName_37 v0 v1 v2 r.1 r.2 q) hf
def wX8_readName_29 : List En := [(.aload_n 1, 0, 0, 0), (.aload_n 0, 0, 0, 0), (.getfield 127, 16, 8, 13)]
def fX8_readName_29 (v0 : Nat) (v1 : Nat) (v2 : Int32) (h : aH) : Option (Int32 × aH) :=
  (gFI h 8 v0 13).bind fun t1 =>
  fX8_readName_34 v0 v1 v2 t1 v1 h
theorem tX8_readName_29 {d : Nat} {z : Int32 × aH} (v0 : Nat) (v1 : Nat) (v2 : Int32) (h : aH) (hf : fX8_readName_29 v0 v1 v2 h = some z) : Ev (d + 7) none mX8_readName (0, 0) 29 [.ref v0, .ref v1, .int v2] [] h (QZ z) := 
  go_ok (X := none) (blk := wX8_readName_29) (np := 34) (tt := 0) (kN := fun xs h st => app [2, 2, 1] (fun v0 v1 v2 => apS [1, 2] (fun s0 s1 => fX8_readName_34 v0 v1 v2 s0 s1 h) st) xs) (kT := fun _ _ _ => none) (kR := kRZ)
    (fun xs h st q => jm [2, 2, 1] _ (fun v0 v1 v2 q => apS_ok [1, 2] _ (fun st => Ev (d + 7) none mX8_readName (0, 0) 34 [.ref v0, .ref v1, .int v2] st h (QZ z)) st (fun s0 s1 q => tX8_readName_34 v0 v1 v2 s0 s1 h q) q) q)
    (fun _ _ _ q => nos q)
    kRZ_ok (Or.inr rfl) (by decide +kernel) (by decide +kernel) hf
def wX8_readName_24 : List En := [(.ifCond .ne 5, 29, 0, 0)]
def fX8_readName_24 (v0 : Nat) (v1 : Nat) (v2 : Int32) (s0 : Int32) (h : aH) : Option (Int32 × aH) :=
  if s0 = 0 then fX8_readName_27 h else fX8_readName_29 v0 v1 v2 h
theorem tX8_readName_24 {d : Nat} {z : Int32 × aH} (v0 : Nat) (v1 : Nat) (v2 : Int32) (s0 : Int32) (h : aH) (hf : fX8_readName_24 v0 v1 v2 s0 h = some z) : Ev (d + 7) none mX8_readName (0, 0) 24 [.ref v0, .ref v1, .int v2] [.int s0] h (QZ z) := 
  go_ok (X := none) (blk := wX8_readName_24) (np := 27) (tt := 29) (kN := fun xs h st => app [0, 0, 0] (apS [] (fX8_readName_27 h) st) xs) (kT := fun xs h st => app [2, 2, 1] (fun v0 v1 v2 => apS [] (fX8_readName_29 v0 v1 v2 h) st) xs) (kR := kRZ)
    (fun xs h st q => jm [0, 0, 0] _ (fun q => apS_ok [] _ (fun st => Ev (d + 7) none mX8_readName (0, 0) 27 [.null, .null, .null] st h (QZ z)) st (fun q => tX8_readName_27 h q) q) q)
    (fun xs h st q => jm [2, 2, 1] _ (fun v0 v1 v2 q => apS_ok [] _ (fun st => Ev (d + 7) none mX8_readName (0, 0) 29 [.ref v0, .ref v1, .int v2] st h (QZ z)) st (fun q => tX8_readName_29 v0 v1 v2 h q) q) q)
    kRZ_ok (Or.inr rfl) (by decide +kernel) (by decide +kernel) hf
theorem kqX8_readName_21 : okC mX8_readName 21 (.invokevirtual 123) 40 24 0 3 = true := by decide +kernel
def fX8_readName_21 (v0 : Nat) (v1 : Nat) (v2 : Int32) (s0 : Int32) (s1 : Int32) (s2 : Nat) (s3 : Nat) (h : aH) : Option (Int32 × aH) :=
  (isO h 8 s3).bind fun _ =>
  (gX8_findsWhole s3 s2 s1 s0 h).bind fun r =>
  fX8_readName_24 v0 v1 v2 r.1 r.2
theorem tX8_readName_21 {d : Nat} {z : Int32 × aH} (v0 : Nat) (v1 : Nat) (v2 : Int32) (s0 : Int32) (s1 : Int32) (s2 : Nat) (s3 : Nat) (h : aH) (hf : fX8_readName_21 v0 v1 v2 s0 s1 s2 s3 h = some z) : Ev (d + 7) none mX8_readName (0, 0) 21 [.ref v0, .ref v1, .int v2] [.int s0, .int s1, .ref s2, .ref s3] h (QZ z) := by
  obtain ⟨_, h1, hf⟩ := bnd hf
  obtain ⟨fs, ho⟩ := isO_ok h1
  obtain ⟨r, h2, hf⟩ := bnd hf
  refine ev_V kqX8_readName_21 jX8_findsWhole (zX8_findsWhole (d := d + 1) h2) ho rfl rfl (Nat.le_of_ble_eq_true rfl) rfl (as := [.ref s2, .int s1, .int s0]) (rest := []) rfl (Nat.le_of_ble_eq_true rfl) (fun _ _ hq => ?_)
  obtain ⟨-, rfl, rfl⟩ := hq
  exact jm [2, 2, 1] (fun v0 v1 v2 => fX8_readName_24 v0 v1 v2 r.1 r.2) (fun v0 v1 v2 q => tX8_readName_24 v0 v1 v2 r.1 r.2 q) hf
def wX8_readName_17 : List En := [(.iconst 0, 0, 0, 0), (.sipush 200, 0, 0, 0)]
def fX8_readName_17 (v0 : Nat) (v1 : Nat) (v2 : Int32) (s0 : Nat) (s1 : Nat) (h : aH) : Option (Int32 × aH) :=
  fX8_readName_21 v0 v1 v2 (kS 200) (kI 0) s0 s1 h
theorem tX8_readName_17 {d : Nat} {z : Int32 × aH} (v0 : Nat) (v1 : Nat) (v2 : Int32) (s0 : Nat) (s1 : Nat) (h : aH) (hf : fX8_readName_17 v0 v1 v2 s0 s1 h = some z) : Ev (d + 7) none mX8_readName (0, 0) 17 [.ref v0, .ref v1, .int v2] [.ref s0, .ref s1] h (QZ z) := 
  go_ok (X := none) (blk := wX8_readName_17) (np := 21) (tt := 0) (kN := fun xs h st => app [2, 2, 1] (fun v0 v1 v2 => apS [1, 1, 2, 2] (fun s0 s1 s2 s3 => fX8_readName_21 v0 v1 v2 s0 s1 s2 s3 h) st) xs) (kT := fun _ _ _ => none) (kR := kRZ)
    (fun xs h st q => jm [2, 2, 1] _ (fun v0 v1 v2 q => apS_ok [1, 1, 2, 2] _ (fun st => Ev (d + 7) none mX8_readName (0, 0) 21 [.ref v0, .ref v1, .int v2] st h (QZ z)) st (fun s0 s1 s2 s3 q => tX8_readName_21 v0 v1 v2 s0 s1 s2 s3 h q) q) q)
    (fun _ _ _ q => nos q)
    kRZ_ok (Or.inr rfl) (by decide +kernel) (by decide +kernel) hf
theorem kqX8_readName_15 : ckS mX8_readName 15 158 14 = true := by decide +kernel -- from
def fX8_readName_15 (v0 : Nat) (v1 : Nat) (v2 : Int32) (s0 : Nat) (h : aH) : Option (Int32 × aH) :=
  fX8_readName_17 v0 v1 v2 (SB + 14) s0 h
theorem tX8_readName_15 {d : Nat} {z : Int32 × aH} (v0 : Nat) (v1 : Nat) (v2 : Int32) (s0 : Nat) (h : aH) (hf : fX8_readName_15 v0 v1 v2 s0 h = some z) : Ev (d + 7) none mX8_readName (0, 0) 15 [.ref v0, .ref v1, .int v2] [.ref s0] h (QZ z) := 
  ev_ldcS kqX8_readName_15 rfl (jm [2, 2, 1] (fun v0 v1 v2 => fX8_readName_17 v0 v1 v2 (SB + 14) s0 h) (fun v0 v1 v2 q => tX8_readName_17 v0 v1 v2 (SB + 14) s0 h q) hf)
def wX8_readName_14 : List En := [(.aload_n 0, 0, 0, 0)]
def fX8_readName_14 (v0 : Nat) (v1 : Nat) (v2 : Int32) (h : aH) : Option (Int32 × aH) :=
  fX8_readName_15 v0 v1 v2 v0 h
theorem tX8_readName_14 {d : Nat} {z : Int32 × aH} (v0 : Nat) (v1 : Nat) (v2 : Int32) (h : aH) (hf : fX8_readName_14 v0 v1 v2 h = some z) : Ev (d + 7) none mX8_readName (0, 0) 14 [.ref v0, .ref v1, .int v2] [] h (QZ z) := 
  go_ok (X := none) (blk := wX8_readName_14) (np := 15) (tt := 0) (kN := fun xs h st => app [2, 2, 1] (fun v0 v1 v2 => apS [2] (fun s0 => fX8_readName_15 v0 v1 v2 s0 h) st) xs) (kT := fun _ _ _ => none) (kR := kRZ)
    (fun xs h st q => jm [2, 2, 1] _ (fun v0 v1 v2 q => apS_ok [2] _ (fun st => Ev (d + 7) none mX8_readName (0, 0) 15 [.ref v0, .ref v1, .int v2] st h (QZ z)) st (fun s0 q => tX8_readName_15 v0 v1 v2 s0 h q) q) q)
    (fun _ _ _ q => nos q)
    kRZ_ok (Or.inr rfl) (by decide +kernel) (by decide +kernel) hf
def wX8_readName_11 : List En := [(.ifCond .eq 16, 27, 0, 0)]
def fX8_readName_11 (v0 : Nat) (v1 : Nat) (v2 : Int32) (s0 : Int32) (h : aH) : Option (Int32 × aH) :=
  if s0 = 0 then fX8_readName_27 h else fX8_readName_14 v0 v1 v2 h
theorem tX8_readName_11 {d : Nat} {z : Int32 × aH} (v0 : Nat) (v1 : Nat) (v2 : Int32) (s0 : Int32) (h : aH) (hf : fX8_readName_11 v0 v1 v2 s0 h = some z) : Ev (d + 7) none mX8_readName (0, 0) 11 [.ref v0, .ref v1, .int v2] [.int s0] h (QZ z) := 
  go_ok (X := none) (blk := wX8_readName_11) (np := 14) (tt := 27) (kN := fun xs h st => app [2, 2, 1] (fun v0 v1 v2 => apS [] (fX8_readName_14 v0 v1 v2 h) st) xs) (kT := fun xs h st => app [0, 0, 0] (apS [] (fX8_readName_27 h) st) xs) (kR := kRZ)
    (fun xs h st q => jm [2, 2, 1] _ (fun v0 v1 v2 q => apS_ok [] _ (fun st => Ev (d + 7) none mX8_readName (0, 0) 14 [.ref v0, .ref v1, .int v2] st h (QZ z)) st (fun q => tX8_readName_14 v0 v1 v2 h q) q) q)
    (fun xs h st q => jm [0, 0, 0] _ (fun q => apS_ok [] _ (fun st => Ev (d + 7) none mX8_readName (0, 0) 27 [.null, .null, .null] st h (QZ z)) st (fun q => tX8_readName_27 h q) q) q)
    kRZ_ok (Or.inr rfl) (by decide +kernel) (by decide +kernel) hf
theorem kqX8_readName_8 : okC mX8_readName 8 (.invokevirtual 140) 43 27 0 2 = true := by decide +kernel
def fX8_readName_8 (v0 : Nat) (v1 : Nat) (v2 : Int32) (s0 : Int32) (s1 : Int32) (s2 : Nat) (h : aH) : Option (Int32 × aH) :=
  (isO h 8 s2).bind fun _ =>
  (gX8_findsNewName s2 s1 s0 h).bind fun r =>
  fX8_readName_11 v0 v1 v2 r.1 r.2
theorem tX8_readName_8 {d : Nat} {z : Int32 × aH} (v0 : Nat) (v1 : Nat) (v2 : Int32) (s0 : Int32) (s1 : Int32) (s2 : Nat) (h : aH) (hf : fX8_readName_8 v0 v1 v2 s0 s1 s2 h = some z) : Ev (d + 7) none mX8_readName (0, 0) 8 [.ref v0, .ref v1, .int v2] [.int s0, .int s1, .ref s2] h (QZ z) := by
  obtain ⟨_, h1, hf⟩ := bnd hf
  obtain ⟨fs, ho⟩ := isO_ok h1
  obtain ⟨r, h2, hf⟩ := bnd hf
  refine ev_V kqX8_readName_8 jX8_findsNewName (zX8_findsNewName (d := d + 0) h2) ho rfl rfl (Nat.le_of_ble_eq_true rfl) rfl (as := [.int s1, .int s0]) (rest := []) rfl (Nat.le_of_ble_eq_true rfl) (fun _ _ hq => ?_)
  obtain ⟨-, rfl, rfl⟩ := hq
  exact jm [2, 2, 1] (fun v0 v1 v2 => fX8_readName_11 v0 v1 v2 r.1 r.2) (fun v0 v1 v2 q => tX8_readName_11 v0 v1 v2 r.1 r.2 q) hf
def wX8_readName_0 : List En := [(.aload_n 1, 0, 0, 0), (.getfield 109, 115, 9, 4), (.istore_n 2, 0, 0, 0), (.aload_n 0, 0, 0, 0), (.iconst 0, 0, 0, 0), (.iload_n 2, 0, 0, 0)]
def fX8_readName_0 (v0 : Nat) (v1 : Nat) (h : aH) : Option (Int32 × aH) :=
  (gFI h 9 v1 4).bind fun t1 =>
  fX8_readName_8 v0 v1 t1 t1 (kI 0) v0 h
theorem tX8_readName_0 {d : Nat} {z : Int32 × aH} (v0 : Nat) (v1 : Nat) (h : aH) (hf : fX8_readName_0 v0 v1 h = some z) : Ev (d + 7) none mX8_readName (0, 0) 0 [.ref v0, .ref v1, .null] [] h (QZ z) := 
  go_ok (X := none) (blk := wX8_readName_0) (np := 8) (tt := 0) (kN := fun xs h st => app [2, 2, 1] (fun v0 v1 v2 => apS [1, 1, 2] (fun s0 s1 s2 => fX8_readName_8 v0 v1 v2 s0 s1 s2 h) st) xs) (kT := fun _ _ _ => none) (kR := kRZ)
    (fun xs h st q => jm [2, 2, 1] _ (fun v0 v1 v2 q => apS_ok [1, 1, 2] _ (fun st => Ev (d + 7) none mX8_readName (0, 0) 8 [.ref v0, .ref v1, .int v2] st h (QZ z)) st (fun s0 s1 s2 q => tX8_readName_8 v0 v1 v2 s0 s1 s2 h q) q) q)
    (fun _ _ _ q => nos q)
    kRZ_ok (Or.inr rfl) (by decide +kernel) (by decide +kernel) hf
def gX8_readName (v0 : Nat) (v1 : Nat) (h : aH) : Option (Int32 × aH) := fX8_readName_0 v0 v1 h
theorem zX8_readName {d : Nat} {z : Int32 × aH} {v0 : Nat} {v1 : Nat} {h : aH} (q : gX8_readName v0 v1 h = some z) : CT (d + 7) mX8_readName (0, 0) [.ref v0, .ref v1] h (QZ z) :=
  ct_ev (by decide +kernel) (Nat.le_of_ble_eq_true rfl) QZ_r (jm [2, 2, 0] (fun v0 v1 => fX8_readName_0 v0 v1 h) (fun v0 v1 q => tX8_readName_0 v0 v1 h q) q)
def wX8_kindHere_36 : List En := [(.ireturn, 0, 0, 0)]
def fX8_kindHere_36 (s0 : Int32) (h : aH) : Option (Int32 × aH) :=
  some (s0, h)
theorem tX8_kindHere_36 {d : Nat} {z : Int32 × aH} (s0 : Int32) (h : aH) (hf : fX8_kindHere_36 s0 h = some z) : Ev (d + 5) none mX8_kindHere (0, 0) 36 [.null] [.int s0] h (QI z) := 
  go_ok (X := none) (blk := wX8_kindHere_36) (np := 37) (tt := 0) (kN := fun _ _ _ => none) (kT := fun _ _ _ => none) (kR := kRI)
    (fun _ _ _ q => nos q)
    (fun _ _ _ q => nos q)
    kRI_ok (Or.inr rfl) (by decide +kernel) (by decide +kernel) hf
def wX8_kindHere_35 : List En := [(.iconst (-1), 0, 0, 0)]
def fX8_kindHere_35 (h : aH) : Option (Int32 × aH) :=
  fX8_kindHere_36 (kI (-1)) h
theorem tX8_kindHere_35 {d : Nat} {z : Int32 × aH} (h : aH) (hf : fX8_kindHere_35 h = some z) : Ev (d + 5) none mX8_kindHere (0, 0) 35 [.null] [] h (QI z) := 
  go_ok (X := none) (blk := wX8_kindHere_35) (np := 36) (tt := 0) (kN := fun xs h st => app [0] (apS [1] (fun s0 => fX8_kindHere_36 s0 h) st) xs) (kT := fun _ _ _ => none) (kR := kRI)
    (fun xs h st q => jm [0] _ (fun q => apS_ok [1] _ (fun st => Ev (d + 5) none mX8_kindHere (0, 0) 36 [.null] st h (QI z)) st (fun s0 q => tX8_kindHere_36 s0 h q) q) q)
    (fun _ _ _ q => nos q)
    kRI_ok (Or.inr rfl) (by decide +kernel) (by decide +kernel) hf
def wX8_kindHere_31 : List En := [(.iconst 2, 0, 0, 0), (.goto 4, 36, 0, 0)]
def fX8_kindHere_31 (h : aH) : Option (Int32 × aH) :=
  fX8_kindHere_36 (kI 2) h
theorem tX8_kindHere_31 {d : Nat} {z : Int32 × aH} (h : aH) (hf : fX8_kindHere_31 h = some z) : Ev (d + 5) none mX8_kindHere (0, 0) 31 [.null] [] h (QI z) := 
  go_ok (X := none) (blk := wX8_kindHere_31) (np := 35) (tt := 36) (kN := fun _ _ _ => none) (kT := fun xs h st => app [0] (apS [1] (fun s0 => fX8_kindHere_36 s0 h) st) xs) (kR := kRI)
    (fun _ _ _ q => nos q)
    (fun xs h st q => jm [0] _ (fun q => apS_ok [1] _ (fun st => Ev (d + 5) none mX8_kindHere (0, 0) 36 [.null] st h (QI z)) st (fun s0 q => tX8_kindHere_36 s0 h q) q) q)
    kRI_ok (Or.inr rfl) (by decide +kernel) (by decide +kernel) hf
def wX8_kindHere_28 : List En := [(.ifCond .eq 7, 35, 0, 0)]
def fX8_kindHere_28 (s0 : Int32) (h : aH) : Option (Int32 × aH) :=
  if s0 = 0 then fX8_kindHere_35 h else fX8_kindHere_31 h
theorem tX8_kindHere_28 {d : Nat} {z : Int32 × aH} (s0 : Int32) (h : aH) (hf : fX8_kindHere_28 s0 h = some z) : Ev (d + 5) none mX8_kindHere (0, 0) 28 [.null] [.int s0] h (QI z) := 
  go_ok (X := none) (blk := wX8_kindHere_28) (np := 31) (tt := 35) (kN := fun xs h st => app [0] (apS [] (fX8_kindHere_31 h) st) xs) (kT := fun xs h st => app [0] (apS [] (fX8_kindHere_35 h) st) xs) (kR := kRI)
    (fun xs h st q => jm [0] _ (fun q => apS_ok [] _ (fun st => Ev (d + 5) none mX8_kindHere (0, 0) 31 [.null] st h (QI z)) st (fun q => tX8_kindHere_31 h q) q) q)
    (fun xs h st q => jm [0] _ (fun q => apS_ok [] _ (fun st => Ev (d + 5) none mX8_kindHere (0, 0) 35 [.null] st h (QI z)) st (fun q => tX8_kindHere_35 h q) q) q)
    kRI_ok (Or.inr rfl) (by decide +kernel) (by decide +kernel) hf
theorem kqX8_kindHere_25 : okC mX8_kindHere 25 (.invokevirtual 204) 25 18 0 1 = true := by decide +kernel
def fX8_kindHere_25 (s0 : Nat) (s1 : Nat) (h : aH) : Option (Int32 × aH) :=
  (isO h 8 s1).bind fun _ =>
  (gX8_isWord s1 s0 h).bind fun r =>
  fX8_kindHere_28 r.1 r.2
theorem tX8_kindHere_25 {d : Nat} {z : Int32 × aH} (s0 : Nat) (s1 : Nat) (h : aH) (hf : fX8_kindHere_25 s0 s1 h = some z) : Ev (d + 5) none mX8_kindHere (0, 0) 25 [.null] [.ref s0, .ref s1] h (QI z) := by
  obtain ⟨_, h1, hf⟩ := bnd hf
  obtain ⟨fs, ho⟩ := isO_ok h1
  obtain ⟨r, h2, hf⟩ := bnd hf
  refine ev_V kqX8_kindHere_25 jX8_isWord (zX8_isWord (d := d + 0) h2) ho rfl rfl (Nat.le_of_ble_eq_true rfl) rfl (as := [.ref s0]) (rest := []) rfl (Nat.le_of_ble_eq_true rfl) (fun _ _ hq => ?_)
  obtain ⟨-, rfl, rfl⟩ := hq
  exact jm [0] (fX8_kindHere_28 r.1 r.2) (fun q => tX8_kindHere_28 r.1 r.2 q) hf
theorem kqX8_kindHere_23 : ckS mX8_kindHere 23 221 11 = true := by decide +kernel -- child
def fX8_kindHere_23 (s0 : Nat) (h : aH) : Option (Int32 × aH) :=
  fX8_kindHere_25 (SB + 11) s0 h
theorem tX8_kindHere_23 {d : Nat} {z : Int32 × aH} (s0 : Nat) (h : aH) (hf : fX8_kindHere_23 s0 h = some z) : Ev (d + 5) none mX8_kindHere (0, 0) 23 [.null] [.ref s0] h (QI z) := 
  ev_ldcS kqX8_kindHere_23 rfl (jm [0] (fX8_kindHere_25 (SB + 11) s0 h) (fun q => tX8_kindHere_25 (SB + 11) s0 h q) hf)
def wX8_kindHere_22 : List En := [(.aload_n 0, 0, 0, 0)]
def fX8_kindHere_22 (v0 : Nat) (h : aH) : Option (Int32 × aH) :=
  fX8_kindHere_23 v0 h
theorem tX8_kindHere_22 {d : Nat} {z : Int32 × aH} (v0 : Nat) (h : aH) (hf : fX8_kindHere_22 v0 h = some z) : Ev (d + 5) none mX8_kindHere (0, 0) 22 [.ref v0] [] h (QI z) := 
  go_ok (X := none) (blk := wX8_kindHere_22) (np := 23) (tt := 0) (kN := fun xs h st => app [0] (apS [2] (fun s0 => fX8_kindHere_23 s0 h) st) xs) (kT := fun _ _ _ => none) (kR := kRI)
    (fun xs h st q => jm [0] _ (fun q => apS_ok [2] _ (fun st => Ev (d + 5) none mX8_kindHere (0, 0) 23 [.null] st h (QI z)) st (fun s0 q => tX8_kindHere_23 s0 h q) q) q)
    (fun _ _ _ q => nos q)
    kRI_ok (Or.inr rfl) (by decide +kernel) (by decide +kernel) hf
def wX8_kindHere_20 : List En := [(.iconst 1, 0, 0, 0), (.ireturn, 0, 0, 0)]
def fX8_kindHere_20 (h : aH) : Option (Int32 × aH) :=
  some ((kI 1), h)
theorem tX8_kindHere_20 {d : Nat} {z : Int32 × aH} (h : aH) (hf : fX8_kindHere_20 h = some z) : Ev (d + 5) none mX8_kindHere (0, 0) 20 [.null] [] h (QI z) := 
  go_ok (X := none) (blk := wX8_kindHere_20) (np := 22) (tt := 0) (kN := fun _ _ _ => none) (kT := fun _ _ _ => none) (kR := kRI)
    (fun _ _ _ q => nos q)
    (fun _ _ _ q => nos q)
    kRI_ok (Or.inr rfl) (by decide +kernel) (by decide +kernel) hf
def wX8_kindHere_17 : List En := [(.ifCond .eq 5, 22, 0, 0)]
def fX8_kindHere_17 (v0 : Nat) (s0 : Int32) (h : aH) : Option (Int32 × aH) :=
  if s0 = 0 then fX8_kindHere_22 v0 h else fX8_kindHere_20 h
theorem tX8_kindHere_17 {d : Nat} {z : Int32 × aH} (v0 : Nat) (s0 : Int32) (h : aH) (hf : fX8_kindHere_17 v0 s0 h = some z) : Ev (d + 5) none mX8_kindHere (0, 0) 17 [.ref v0] [.int s0] h (QI z) := 
  go_ok (X := none) (blk := wX8_kindHere_17) (np := 20) (tt := 22) (kN := fun xs h st => app [0] (apS [] (fX8_kindHere_20 h) st) xs) (kT := fun xs h st => app [2] (fun v0 => apS [] (fX8_kindHere_22 v0 h) st) xs) (kR := kRI)
    (fun xs h st q => jm [0] _ (fun q => apS_ok [] _ (fun st => Ev (d + 5) none mX8_kindHere (0, 0) 20 [.null] st h (QI z)) st (fun q => tX8_kindHere_20 h q) q) q)
    (fun xs h st q => jm [2] _ (fun v0 q => apS_ok [] _ (fun st => Ev (d + 5) none mX8_kindHere (0, 0) 22 [.ref v0] st h (QI z)) st (fun q => tX8_kindHere_22 v0 h q) q) q)
    kRI_ok (Or.inr rfl) (by decide +kernel) (by decide +kernel) hf
theorem kqX8_kindHere_14 : okC mX8_kindHere 14 (.invokevirtual 204) 25 18 0 1 = true := by decide +kernel
def fX8_kindHere_14 (v0 : Nat) (s0 : Nat) (s1 : Nat) (h : aH) : Option (Int32 × aH) :=
  (isO h 8 s1).bind fun _ =>
  (gX8_isWord s1 s0 h).bind fun r =>
  fX8_kindHere_17 v0 r.1 r.2
theorem tX8_kindHere_14 {d : Nat} {z : Int32 × aH} (v0 : Nat) (s0 : Nat) (s1 : Nat) (h : aH) (hf : fX8_kindHere_14 v0 s0 s1 h = some z) : Ev (d + 5) none mX8_kindHere (0, 0) 14 [.ref v0] [.ref s0, .ref s1] h (QI z) := by
  obtain ⟨_, h1, hf⟩ := bnd hf
  obtain ⟨fs, ho⟩ := isO_ok h1
  obtain ⟨r, h2, hf⟩ := bnd hf
  refine ev_V kqX8_kindHere_14 jX8_isWord (zX8_isWord (d := d + 0) h2) ho rfl rfl (Nat.le_of_ble_eq_true rfl) rfl (as := [.ref s0]) (rest := []) rfl (Nat.le_of_ble_eq_true rfl) (fun _ _ hq => ?_)
  obtain ⟨-, rfl, rfl⟩ := hq
  exact jm [2] (fun v0 => fX8_kindHere_17 v0 r.1 r.2) (fun v0 q => tX8_kindHere_17 v0 r.1 r.2 q) hf
theorem kqX8_kindHere_12 : ckS mX8_kindHere 12 219 10 = true := by decide +kernel -- poet
def fX8_kindHere_12 (v0 : Nat) (s0 : Nat) (h : aH) : Option (Int32 × aH) :=
  fX8_kindHere_14 v0 (SB + 10) s0 h
theorem tX8_kindHere_12 {d : Nat} {z : Int32 × aH} (v0 : Nat) (s0 : Nat) (h : aH) (hf : fX8_kindHere_12 v0 s0 h = some z) : Ev (d + 5) none mX8_kindHere (0, 0) 12 [.ref v0] [.ref s0] h (QI z) := 
  ev_ldcS kqX8_kindHere_12 rfl (jm [2] (fun v0 => fX8_kindHere_14 v0 (SB + 10) s0 h) (fun v0 q => tX8_kindHere_14 v0 (SB + 10) s0 h q) hf)
def wX8_kindHere_11 : List En := [(.aload_n 0, 0, 0, 0)]
def fX8_kindHere_11 (v0 : Nat) (h : aH) : Option (Int32 × aH) :=
  fX8_kindHere_12 v0 v0 h
theorem tX8_kindHere_11 {d : Nat} {z : Int32 × aH} (v0 : Nat) (h : aH) (hf : fX8_kindHere_11 v0 h = some z) : Ev (d + 5) none mX8_kindHere (0, 0) 11 [.ref v0] [] h (QI z) := 
  go_ok (X := none) (blk := wX8_kindHere_11) (np := 12) (tt := 0) (kN := fun xs h st => app [2] (fun v0 => apS [2] (fun s0 => fX8_kindHere_12 v0 s0 h) st) xs) (kT := fun _ _ _ => none) (kR := kRI)
    (fun xs h st q => jm [2] _ (fun v0 q => apS_ok [2] _ (fun st => Ev (d + 5) none mX8_kindHere (0, 0) 12 [.ref v0] st h (QI z)) st (fun s0 q => tX8_kindHere_12 v0 s0 h q) q) q)
    (fun _ _ _ q => nos q)
    kRI_ok (Or.inr rfl) (by decide +kernel) (by decide +kernel) hf
def wX8_kindHere_9 : List En := [(.iconst 0, 0, 0, 0), (.ireturn, 0, 0, 0)]
def fX8_kindHere_9 (h : aH) : Option (Int32 × aH) :=
  some ((kI 0), h)
theorem tX8_kindHere_9 {d : Nat} {z : Int32 × aH} (h : aH) (hf : fX8_kindHere_9 h = some z) : Ev (d + 5) none mX8_kindHere (0, 0) 9 [.null] [] h (QI z) := 
  go_ok (X := none) (blk := wX8_kindHere_9) (np := 11) (tt := 0) (kN := fun _ _ _ => none) (kT := fun _ _ _ => none) (kR := kRI)
    (fun _ _ _ q => nos q)
    (fun _ _ _ q => nos q)
    kRI_ok (Or.inr rfl) (by decide +kernel) (by decide +kernel) hf
def wX8_kindHere_6 : List En := [(.ifCond .eq 5, 11, 0, 0)]
def fX8_kindHere_6 (v0 : Nat) (s0 : Int32) (h : aH) : Option (Int32 × aH) :=
  if s0 = 0 then fX8_kindHere_11 v0 h else fX8_kindHere_9 h
theorem tX8_kindHere_6 {d : Nat} {z : Int32 × aH} (v0 : Nat) (s0 : Int32) (h : aH) (hf : fX8_kindHere_6 v0 s0 h = some z) : Ev (d + 5) none mX8_kindHere (0, 0) 6 [.ref v0] [.int s0] h (QI z) := 
  go_ok (X := none) (blk := wX8_kindHere_6) (np := 9) (tt := 11) (kN := fun xs h st => app [0] (apS [] (fX8_kindHere_9 h) st) xs) (kT := fun xs h st => app [2] (fun v0 => apS [] (fX8_kindHere_11 v0 h) st) xs) (kR := kRI)
    (fun xs h st q => jm [0] _ (fun q => apS_ok [] _ (fun st => Ev (d + 5) none mX8_kindHere (0, 0) 9 [.null] st h (QI z)) st (fun q => tX8_kindHere_9 h q) q) q)
    (fun xs h st q => jm [2] _ (fun v0 q => apS_ok [] _ (fun st => Ev (d + 5) none mX8_kindHere (0, 0) 11 [.ref v0] st h (QI z)) st (fun q => tX8_kindHere_11 v0 h q) q) q)
    kRI_ok (Or.inr rfl) (by decide +kernel) (by decide +kernel) hf
theorem kqX8_kindHere_3 : okC mX8_kindHere 3 (.invokevirtual 204) 25 18 0 1 = true := by decide +kernel
def fX8_kindHere_3 (v0 : Nat) (s0 : Nat) (s1 : Nat) (h : aH) : Option (Int32 × aH) :=
  (isO h 8 s1).bind fun _ =>
  (gX8_isWord s1 s0 h).bind fun r =>
  fX8_kindHere_6 v0 r.1 r.2
theorem tX8_kindHere_3 {d : Nat} {z : Int32 × aH} (v0 : Nat) (s0 : Nat) (s1 : Nat) (h : aH) (hf : fX8_kindHere_3 v0 s0 s1 h = some z) : Ev (d + 5) none mX8_kindHere (0, 0) 3 [.ref v0] [.ref s0, .ref s1] h (QI z) := by
  obtain ⟨_, h1, hf⟩ := bnd hf
  obtain ⟨fs, ho⟩ := isO_ok h1
  obtain ⟨r, h2, hf⟩ := bnd hf
  refine ev_V kqX8_kindHere_3 jX8_isWord (zX8_isWord (d := d + 0) h2) ho rfl rfl (Nat.le_of_ble_eq_true rfl) rfl (as := [.ref s0]) (rest := []) rfl (Nat.le_of_ble_eq_true rfl) (fun _ _ hq => ?_)
  obtain ⟨-, rfl, rfl⟩ := hq
  exact jm [2] (fun v0 => fX8_kindHere_6 v0 r.1 r.2) (fun v0 q => tX8_kindHere_6 v0 r.1 r.2 q) hf
theorem kqX8_kindHere_1 : ckS mX8_kindHere 1 217 9 = true := by decide +kernel -- plain
def fX8_kindHere_1 (v0 : Nat) (s0 : Nat) (h : aH) : Option (Int32 × aH) :=
  fX8_kindHere_3 v0 (SB + 9) s0 h
theorem tX8_kindHere_1 {d : Nat} {z : Int32 × aH} (v0 : Nat) (s0 : Nat) (h : aH) (hf : fX8_kindHere_1 v0 s0 h = some z) : Ev (d + 5) none mX8_kindHere (0, 0) 1 [.ref v0] [.ref s0] h (QI z) := 
  ev_ldcS kqX8_kindHere_1 rfl (jm [2] (fun v0 => fX8_kindHere_3 v0 (SB + 9) s0 h) (fun v0 q => tX8_kindHere_3 v0 (SB + 9) s0 h q) hf)
def wX8_kindHere_0 : List En := [(.aload_n 0, 0, 0, 0)]
def fX8_kindHere_0 (v0 : Nat) (h : aH) : Option (Int32 × aH) :=
  fX8_kindHere_1 v0 v0 h
theorem tX8_kindHere_0 {d : Nat} {z : Int32 × aH} (v0 : Nat) (h : aH) (hf : fX8_kindHere_0 v0 h = some z) : Ev (d + 5) none mX8_kindHere (0, 0) 0 [.ref v0] [] h (QI z) := 
  go_ok (X := none) (blk := wX8_kindHere_0) (np := 1) (tt := 0) (kN := fun xs h st => app [2] (fun v0 => apS [2] (fun s0 => fX8_kindHere_1 v0 s0 h) st) xs) (kT := fun _ _ _ => none) (kR := kRI)
    (fun xs h st q => jm [2] _ (fun v0 q => apS_ok [2] _ (fun st => Ev (d + 5) none mX8_kindHere (0, 0) 1 [.ref v0] st h (QI z)) st (fun s0 q => tX8_kindHere_1 v0 s0 h q) q) q)
    (fun _ _ _ q => nos q)
    kRI_ok (Or.inr rfl) (by decide +kernel) (by decide +kernel) hf
def gX8_kindHere (v0 : Nat) (h : aH) : Option (Int32 × aH) := fX8_kindHere_0 v0 h
theorem zX8_kindHere {d : Nat} {z : Int32 × aH} {v0 : Nat} {h : aH} (q : gX8_kindHere v0 h = some z) : CT (d + 5) mX8_kindHere (0, 0) [.ref v0] h (QI z) :=
  ct_ev (by decide +kernel) (Nat.le_of_ble_eq_true rfl) QI_r (jm [2] (fun v0 => fX8_kindHere_0 v0 h) (fun v0 q => tX8_kindHere_0 v0 h q) q)
def wX8_readPerson_108 : List En := [(.iconst 1, 0, 0, 0), (.ireturn, 0, 0, 0)]
def fX8_readPerson_108 (h : aH) : Option (Int32 × aH) :=
  if (kI 1) = 0 ∨ (kI 1) = 1 then some ((kI 1), h) else none
theorem tX8_readPerson_108 {d : Nat} {z : Int32 × aH} (h : aH) (hf : fX8_readPerson_108 h = some z) : Ev (d + 7) none mX8_readPerson (0, 0) 108 [.null, .null, .null, .null] [] h (QZ z) := 
  go_ok (X := none) (blk := wX8_readPerson_108) (np := 110) (tt := 0) (kN := fun _ _ _ => none) (kT := fun _ _ _ => none) (kR := kRZ)
    (fun _ _ _ q => nos q)
    (fun _ _ _ q => nos q)
    kRZ_ok (Or.inr rfl) (by decide +kernel) (by decide +kernel) hf
theorem kqX8_readPerson_105 : okC mX8_readPerson 105 (.invokevirtual 63) 18 11 0 0 = true := by decide +kernel
def fX8_readPerson_105 (s0 : Nat) (h : aH) : Option (Int32 × aH) :=
  (isO h 8 s0).bind fun _ =>
  (gX8_step s0 h).bind fun r =>
  fX8_readPerson_108 r
theorem tX8_readPerson_105 {d : Nat} {z : Int32 × aH} (s0 : Nat) (h : aH) (hf : fX8_readPerson_105 s0 h = some z) : Ev (d + 7) none mX8_readPerson (0, 0) 105 [.null, .null, .null, .null] [.ref s0] h (QZ z) := by
  obtain ⟨_, h1, hf⟩ := bnd hf
  obtain ⟨fs, ho⟩ := isO_ok h1
  obtain ⟨r, h2, hf⟩ := bnd hf
  refine ev_V kqX8_readPerson_105 jX8_step (zX8_step (d := d + 4) h2) ho rfl rfl (Nat.le_of_ble_eq_true rfl) rfl (as := []) (rest := []) rfl (Nat.le_of_ble_eq_true rfl) (fun _ _ hq => ?_)
  obtain ⟨rfl, hh⟩ := hq
  rw [hh]
  exact jm [0, 0, 0, 0] (fX8_readPerson_108 r) (fun q => tX8_readPerson_108 r q) hf
def wX8_readPerson_84 : List En := [(.aload_n 1, 0, 0, 0), (.getfield 156, 135, 9, 9), (.iload_n 2, 0, 0, 0), (.aload_n 0, 0, 0, 0), (.getfield 127, 16, 8, 13), (.iastore, 0, 0, 0), (.aload_n 1, 0, 0, 0), (.dup, 0, 0, 0), (.getfield 77, 111, 9, 3), (.iconst 1, 0, 0, 0), (.iadd, 0, 0, 0), (.putfield 77, 111, 9, 3), (.aload_n 0, 0, 0, 0)]
def fX8_readPerson_84 (v0 : Nat) (v1 : Nat) (v2 : Int32) (h : aH) : Option (Int32 × aH) :=
  (gFR h 9 v1 9).bind fun t1 =>
  (gFI h 8 v0 13).bind fun t2 =>
  (aWI h t1 v2 t2).bind fun h3 =>
  (gFI h3 9 v1 3).bind fun t4 =>
  (pWV h3 9 v1 3 (.int (t4 + (kI 1)))).bind fun h5 =>
  fX8_readPerson_105 v0 h5
theorem tX8_readPerson_84 {d : Nat} {z : Int32 × aH} (v0 : Nat) (v1 : Nat) (v2 : Int32) (h : aH) (hf : fX8_readPerson_84 v0 v1 v2 h = some z) : Ev (d + 7) none mX8_readPerson (0, 0) 84 [.ref v0, .ref v1, .int v2, .null] [] h (QZ z) := 
  go_ok (X := none) (blk := wX8_readPerson_84) (np := 105) (tt := 0) (kN := fun xs h st => app [0, 0, 0, 0] (apS [2] (fun s0 => fX8_readPerson_105 s0 h) st) xs) (kT := fun _ _ _ => none) (kR := kRZ)
    (fun xs h st q => jm [0, 0, 0, 0] _ (fun q => apS_ok [2] _ (fun st => Ev (d + 7) none mX8_readPerson (0, 0) 105 [.null, .null, .null, .null] st h (QZ z)) st (fun s0 q => tX8_readPerson_105 s0 h q) q) q)
    (fun _ _ _ q => nos q)
    kRZ_ok (Or.inr rfl) (by decide +kernel) (by decide +kernel) hf
def wX8_readPerson_82 : List En := [(.iconst 0, 0, 0, 0), (.ireturn, 0, 0, 0)]
def fX8_readPerson_82 (h : aH) : Option (Int32 × aH) :=
  if (kI 0) = 0 ∨ (kI 0) = 1 then some ((kI 0), h) else none
theorem tX8_readPerson_82 {d : Nat} {z : Int32 × aH} (h : aH) (hf : fX8_readPerson_82 h = some z) : Ev (d + 7) none mX8_readPerson (0, 0) 82 [.null, .null, .null, .null] [] h (QZ z) := 
  go_ok (X := none) (blk := wX8_readPerson_82) (np := 84) (tt := 0) (kN := fun _ _ _ => none) (kT := fun _ _ _ => none) (kR := kRZ)
    (fun _ _ _ q => nos q)
    (fun _ _ _ q => nos q)
    kRZ_ok (Or.inr rfl) (by decide +kernel) (by decide +kernel) hf
def wX8_readPerson_79 : List En := [(.ifCond .ne 5, 84, 0, 0)]
def fX8_readPerson_79 (v0 : Nat) (v1 : Nat) (v2 : Int32) (s0 : Int32) (h : aH) : Option (Int32 × aH) :=
  if s0 = 0 then fX8_readPerson_82 h else fX8_readPerson_84 v0 v1 v2 h
theorem tX8_readPerson_79 {d : Nat} {z : Int32 × aH} (v0 : Nat) (v1 : Nat) (v2 : Int32) (s0 : Int32) (h : aH) (hf : fX8_readPerson_79 v0 v1 v2 s0 h = some z) : Ev (d + 7) none mX8_readPerson (0, 0) 79 [.ref v0, .ref v1, .int v2, .null] [.int s0] h (QZ z) := 
  go_ok (X := none) (blk := wX8_readPerson_79) (np := 82) (tt := 84) (kN := fun xs h st => app [0, 0, 0, 0] (apS [] (fX8_readPerson_82 h) st) xs) (kT := fun xs h st => app [2, 2, 1, 0] (fun v0 v1 v2 => apS [] (fX8_readPerson_84 v0 v1 v2 h) st) xs) (kR := kRZ)
    (fun xs h st q => jm [0, 0, 0, 0] _ (fun q => apS_ok [] _ (fun st => Ev (d + 7) none mX8_readPerson (0, 0) 82 [.null, .null, .null, .null] st h (QZ z)) st (fun q => tX8_readPerson_82 h q) q) q)
    (fun xs h st q => jm [2, 2, 1, 0] _ (fun v0 v1 v2 q => apS_ok [] _ (fun st => Ev (d + 7) none mX8_readPerson (0, 0) 84 [.ref v0, .ref v1, .int v2, .null] st h (QZ z)) st (fun q => tX8_readPerson_84 v0 v1 v2 h q) q) q)
    kRZ_ok (Or.inr rfl) (by decide +kernel) (by decide +kernel) hf
theorem kqX8_readPerson_76 : okC mX8_readPerson 76 (.invokevirtual 123) 40 24 0 3 = true := by decide +kernel
def fX8_readPerson_76 (v0 : Nat) (v1 : Nat) (v2 : Int32) (s0 : Int32) (s1 : Int32) (s2 : Nat) (s3 : Nat) (h : aH) : Option (Int32 × aH) :=
  (isO h 8 s3).bind fun _ =>
  (gX8_findsWhole s3 s2 s1 s0 h).bind fun r =>
  fX8_readPerson_79 v0 v1 v2 r.1 r.2
theorem tX8_readPerson_76 {d : Nat} {z : Int32 × aH} (v0 : Nat) (v1 : Nat) (v2 : Int32) (s0 : Int32) (s1 : Int32) (s2 : Nat) (s3 : Nat) (h : aH) (hf : fX8_readPerson_76 v0 v1 v2 s0 s1 s2 s3 h = some z) : Ev (d + 7) none mX8_readPerson (0, 0) 76 [.ref v0, .ref v1, .int v2, .null] [.int s0, .int s1, .ref s2, .ref s3] h (QZ z) := by
  obtain ⟨_, h1, hf⟩ := bnd hf
  obtain ⟨fs, ho⟩ := isO_ok h1
  obtain ⟨r, h2, hf⟩ := bnd hf
  refine ev_V kqX8_readPerson_76 jX8_findsWhole (zX8_findsWhole (d := d + 1) h2) ho rfl rfl (Nat.le_of_ble_eq_true rfl) rfl (as := [.ref s2, .int s1, .int s0]) (rest := []) rfl (Nat.le_of_ble_eq_true rfl) (fun _ _ hq => ?_)
  obtain ⟨-, rfl, rfl⟩ := hq
  exact jm [2, 2, 1, 0] (fun v0 v1 v2 => fX8_readPerson_79 v0 v1 v2 r.1 r.2) (fun v0 v1 v2 q => tX8_readPerson_79 v0 v1 v2 r.1 r.2 q) hf
def wX8_readPerson_73 : List En := [(.iconst 1, 0, 0, 0), (.bipush 9, 0, 0, 0)]
def fX8_readPerson_73 (v0 : Nat) (v1 : Nat) (v2 : Int32) (s0 : Nat) (s1 : Nat) (h : aH) : Option (Int32 × aH) :=
  fX8_readPerson_76 v0 v1 v2 (kB 9) (kI 1) s0 s1 h
theorem tX8_readPerson_73 {d : Nat} {z : Int32 × aH} (v0 : Nat) (v1 : Nat) (v2 : Int32) (s0 : Nat) (s1 : Nat) (h : aH) (hf : fX8_readPerson_73 v0 v1 v2 s0 s1 h = some z) : Ev (d + 7) none mX8_readPerson (0, 0) 73 [.ref v0, .ref v1, .int v2, .null] [.ref s0, .ref s1] h (QZ z) := 
  go_ok (X := none) (blk := wX8_readPerson_73) (np := 76) (tt := 0) (kN := fun xs h st => app [2, 2, 1, 0] (fun v0 v1 v2 => apS [1, 1, 2, 2] (fun s0 s1 s2 s3 => fX8_readPerson_76 v0 v1 v2 s0 s1 s2 s3 h) st) xs) (kT := fun _ _ _ => none) (kR := kRZ)
    (fun xs h st q => jm [2, 2, 1, 0] _ (fun v0 v1 v2 q => apS_ok [1, 1, 2, 2] _ (fun st => Ev (d + 7) none mX8_readPerson (0, 0) 76 [.ref v0, .ref v1, .int v2, .null] st h (QZ z)) st (fun s0 s1 s2 s3 q => tX8_readPerson_76 v0 v1 v2 s0 s1 s2 s3 h q) q) q)
    (fun _ _ _ q => nos q)
    kRZ_ok (Or.inr rfl) (by decide +kernel) (by decide +kernel) hf
theorem kqX8_readPerson_71 : ckS mX8_readPerson 71 154 13 = true := by decide +kernel -- need
def fX8_readPerson_71 (v0 : Nat) (v1 : Nat) (v2 : Int32) (s0 : Nat) (h : aH) : Option (Int32 × aH) :=
  fX8_readPerson_73 v0 v1 v2 (SB + 13) s0 h
theorem tX8_readPerson_71 {d : Nat} {z : Int32 × aH} (v0 : Nat) (v1 : Nat) (v2 : Int32) (s0 : Nat) (h : aH) (hf : fX8_readPerson_71 v0 v1 v2 s0 h = some z) : Ev (d + 7) none mX8_readPerson (0, 0) 71 [.ref v0, .ref v1, .int v2, .null] [.ref s0] h (QZ z) := 
  ev_ldcS kqX8_readPerson_71 rfl (jm [2, 2, 1, 0] (fun v0 v1 v2 => fX8_readPerson_73 v0 v1 v2 (SB + 13) s0 h) (fun v0 v1 v2 q => tX8_readPerson_73 v0 v1 v2 (SB + 13) s0 h q) hf)
def wX8_readPerson_70 : List En := [(.aload_n 0, 0, 0, 0)]
def fX8_readPerson_70 (v0 : Nat) (v1 : Nat) (v2 : Int32) (h : aH) : Option (Int32 × aH) :=
  fX8_readPerson_71 v0 v1 v2 v0 h
theorem tX8_readPerson_70 {d : Nat} {z : Int32 × aH} (v0 : Nat) (v1 : Nat) (v2 : Int32) (h : aH) (hf : fX8_readPerson_70 v0 v1 v2 h = some z) : Ev (d + 7) none mX8_readPerson (0, 0) 70 [.ref v0, .ref v1, .int v2, .null] [] h (QZ z) := 
  go_ok (X := none) (blk := wX8_readPerson_70) (np := 71) (tt := 0) (kN := fun xs h st => app [2, 2, 1, 0] (fun v0 v1 v2 => apS [2] (fun s0 => fX8_readPerson_71 v0 v1 v2 s0 h) st) xs) (kT := fun _ _ _ => none) (kR := kRZ)
    (fun xs h st q => jm [2, 2, 1, 0] _ (fun v0 v1 v2 q => apS_ok [2] _ (fun st => Ev (d + 7) none mX8_readPerson (0, 0) 71 [.ref v0, .ref v1, .int v2, .null] st h (QZ z)) st (fun s0 q => tX8_readPerson_71 v0 v1 v2 s0 h q) q) q)
    (fun _ _ _ q => nos q)
    kRZ_ok (Or.inr rfl) (by decide +kernel) (by decide +kernel) hf
theorem kqX8_readPerson_67 : okC mX8_readPerson 67 (.invokevirtual 63) 18 11 0 0 = true := by decide +kernel
def fX8_readPerson_67 (v0 : Nat) (v1 : Nat) (v2 : Int32) (s0 : Nat) (h : aH) : Option (Int32 × aH) :=
  (isO h 8 s0).bind fun _ =>
  (gX8_step s0 h).bind fun r =>
  fX8_readPerson_70 v0 v1 v2 r
theorem tX8_readPerson_67 {d : Nat} {z : Int32 × aH} (v0 : Nat) (v1 : Nat) (v2 : Int32) (s0 : Nat) (h : aH) (hf : fX8_readPerson_67 v0 v1 v2 s0 h = some z) : Ev (d + 7) none mX8_readPerson (0, 0) 67 [.ref v0, .ref v1, .int v2, .null] [.ref s0] h (QZ z) := by
  obtain ⟨_, h1, hf⟩ := bnd hf
  obtain ⟨fs, ho⟩ := isO_ok h1
  obtain ⟨r, h2, hf⟩ := bnd hf
  refine ev_V kqX8_readPerson_67 jX8_step (zX8_step (d := d + 4) h2) ho rfl rfl (Nat.le_of_ble_eq_true rfl) rfl (as := []) (rest := []) rfl (Nat.le_of_ble_eq_true rfl) (fun _ _ hq => ?_)
  obtain ⟨rfl, hh⟩ := hq
  rw [hh]
  exact jm [2, 2, 1, 0] (fun v0 v1 v2 => fX8_readPerson_70 v0 v1 v2 r) (fun v0 v1 v2 q => tX8_readPerson_70 v0 v1 v2 r q) hf
def wX8_readPerson_56 : List En := [(.aload_n 1, 0, 0, 0), (.getfield 152, 131, 9, 8), (.iload_n 2, 0, 0, 0), (.aload_n 0, 0, 0, 0), (.getfield 127, 16, 8, 13), (.iastore, 0, 0, 0), (.aload_n 0, 0, 0, 0)]
def fX8_readPerson_56 (v0 : Nat) (v1 : Nat) (v2 : Int32) (h : aH) : Option (Int32 × aH) :=
  (gFR h 9 v1 8).bind fun t1 =>
  (gFI h 8 v0 13).bind fun t2 =>
  (aWI h t1 v2 t2).bind fun h3 =>
  fX8_readPerson_67 v0 v1 v2 v0 h3
theorem tX8_readPerson_56 {d : Nat} {z : Int32 × aH} (v0 : Nat) (v1 : Nat) (v2 : Int32) (h : aH) (hf : fX8_readPerson_56 v0 v1 v2 h = some z) : Ev (d + 7) none mX8_readPerson (0, 0) 56 [.ref v0, .ref v1, .int v2, .null] [] h (QZ z) := 
  go_ok (X := none) (blk := wX8_readPerson_56) (np := 67) (tt := 0) (kN := fun xs h st => app [2, 2, 1, 0] (fun v0 v1 v2 => apS [2] (fun s0 => fX8_readPerson_67 v0 v1 v2 s0 h) st) xs) (kT := fun _ _ _ => none) (kR := kRZ)
    (fun xs h st q => jm [2, 2, 1, 0] _ (fun v0 v1 v2 q => apS_ok [2] _ (fun st => Ev (d + 7) none mX8_readPerson (0, 0) 67 [.ref v0, .ref v1, .int v2, .null] st h (QZ z)) st (fun s0 q => tX8_readPerson_67 v0 v1 v2 s0 h q) q) q)
    (fun _ _ _ q => nos q)
    kRZ_ok (Or.inr rfl) (by decide +kernel) (by decide +kernel) hf
def wX8_readPerson_54 : List En := [(.iconst 0, 0, 0, 0), (.ireturn, 0, 0, 0)]
def fX8_readPerson_54 (h : aH) : Option (Int32 × aH) :=
  if (kI 0) = 0 ∨ (kI 0) = 1 then some ((kI 0), h) else none
theorem tX8_readPerson_54 {d : Nat} {z : Int32 × aH} (h : aH) (hf : fX8_readPerson_54 h = some z) : Ev (d + 7) none mX8_readPerson (0, 0) 54 [.null, .null, .null, .null] [] h (QZ z) := 
  go_ok (X := none) (blk := wX8_readPerson_54) (np := 56) (tt := 0) (kN := fun _ _ _ => none) (kT := fun _ _ _ => none) (kR := kRZ)
    (fun _ _ _ q => nos q)
    (fun _ _ _ q => nos q)
    kRZ_ok (Or.inr rfl) (by decide +kernel) (by decide +kernel) hf
def wX8_readPerson_51 : List En := [(.ifCond .ne 5, 56, 0, 0)]
def fX8_readPerson_51 (v0 : Nat) (v1 : Nat) (v2 : Int32) (s0 : Int32) (h : aH) : Option (Int32 × aH) :=
  if s0 = 0 then fX8_readPerson_54 h else fX8_readPerson_56 v0 v1 v2 h
theorem tX8_readPerson_51 {d : Nat} {z : Int32 × aH} (v0 : Nat) (v1 : Nat) (v2 : Int32) (s0 : Int32) (h : aH) (hf : fX8_readPerson_51 v0 v1 v2 s0 h = some z) : Ev (d + 7) none mX8_readPerson (0, 0) 51 [.ref v0, .ref v1, .int v2, .null] [.int s0] h (QZ z) := 
  go_ok (X := none) (blk := wX8_readPerson_51) (np := 54) (tt := 56) (kN := fun xs h st => app [0, 0, 0, 0] (apS [] (fX8_readPerson_54 h) st) xs) (kT := fun xs h st => app [2, 2, 1, 0] (fun v0 v1 v2 => apS [] (fX8_readPerson_56 v0 v1 v2 h) st) xs) (kR := kRZ)
    (fun xs h st q => jm [0, 0, 0, 0] _ (fun q => apS_ok [] _ (fun st => Ev (d + 7) none mX8_readPerson (0, 0) 54 [.null, .null, .null, .null] st h (QZ z)) st (fun q => tX8_readPerson_54 h q) q) q)
    (fun xs h st q => jm [2, 2, 1, 0] _ (fun v0 v1 v2 q => apS_ok [] _ (fun st => Ev (d + 7) none mX8_readPerson (0, 0) 56 [.ref v0, .ref v1, .int v2, .null] st h (QZ z)) st (fun q => tX8_readPerson_56 v0 v1 v2 h q) q) q)
    kRZ_ok (Or.inr rfl) (by decide +kernel) (by decide +kernel) hf
theorem kqX8_readPerson_48 : okC mX8_readPerson 48 (.invokevirtual 123) 40 24 0 3 = true := by decide +kernel
def fX8_readPerson_48 (v0 : Nat) (v1 : Nat) (v2 : Int32) (s0 : Int32) (s1 : Int32) (s2 : Nat) (s3 : Nat) (h : aH) : Option (Int32 × aH) :=
  (isO h 8 s3).bind fun _ =>
  (gX8_findsWhole s3 s2 s1 s0 h).bind fun r =>
  fX8_readPerson_51 v0 v1 v2 r.1 r.2
theorem tX8_readPerson_48 {d : Nat} {z : Int32 × aH} (v0 : Nat) (v1 : Nat) (v2 : Int32) (s0 : Int32) (s1 : Int32) (s2 : Nat) (s3 : Nat) (h : aH) (hf : fX8_readPerson_48 v0 v1 v2 s0 s1 s2 s3 h = some z) : Ev (d + 7) none mX8_readPerson (0, 0) 48 [.ref v0, .ref v1, .int v2, .null] [.int s0, .int s1, .ref s2, .ref s3] h (QZ z) := by
  obtain ⟨_, h1, hf⟩ := bnd hf
  obtain ⟨fs, ho⟩ := isO_ok h1
  obtain ⟨r, h2, hf⟩ := bnd hf
  refine ev_V kqX8_readPerson_48 jX8_findsWhole (zX8_findsWhole (d := d + 1) h2) ho rfl rfl (Nat.le_of_ble_eq_true rfl) rfl (as := [.ref s2, .int s1, .int s0]) (rest := []) rfl (Nat.le_of_ble_eq_true rfl) (fun _ _ hq => ?_)
  obtain ⟨-, rfl, rfl⟩ := hq
  exact jm [2, 2, 1, 0] (fun v0 v1 v2 => fX8_readPerson_51 v0 v1 v2 r.1 r.2) (fun v0 v1 v2 q => tX8_readPerson_51 v0 v1 v2 r.1 r.2 q) hf
def wX8_readPerson_45 : List En := [(.iconst 0, 0, 0, 0), (.bipush 99, 0, 0, 0)]
def fX8_readPerson_45 (v0 : Nat) (v1 : Nat) (v2 : Int32) (s0 : Nat) (s1 : Nat) (h : aH) : Option (Int32 × aH) :=
  fX8_readPerson_48 v0 v1 v2 (kB 99) (kI 0) s0 s1 h
theorem tX8_readPerson_45 {d : Nat} {z : Int32 × aH} (v0 : Nat) (v1 : Nat) (v2 : Int32) (s0 : Nat) (s1 : Nat) (h : aH) (hf : fX8_readPerson_45 v0 v1 v2 s0 s1 h = some z) : Ev (d + 7) none mX8_readPerson (0, 0) 45 [.ref v0, .ref v1, .int v2, .null] [.ref s0, .ref s1] h (QZ z) := 
  go_ok (X := none) (blk := wX8_readPerson_45) (np := 48) (tt := 0) (kN := fun xs h st => app [2, 2, 1, 0] (fun v0 v1 v2 => apS [1, 1, 2, 2] (fun s0 s1 s2 s3 => fX8_readPerson_48 v0 v1 v2 s0 s1 s2 s3 h) st) xs) (kT := fun _ _ _ => none) (kR := kRZ)
    (fun xs h st q => jm [2, 2, 1, 0] _ (fun v0 v1 v2 q => apS_ok [1, 1, 2, 2] _ (fun st => Ev (d + 7) none mX8_readPerson (0, 0) 48 [.ref v0, .ref v1, .int v2, .null] st h (QZ z)) st (fun s0 s1 s2 s3 q => tX8_readPerson_48 v0 v1 v2 s0 s1 s2 s3 h q) q) q)
    (fun _ _ _ q => nos q)
    kRZ_ok (Or.inr rfl) (by decide +kernel) (by decide +kernel) hf
theorem kqX8_readPerson_43 : ckS mX8_readPerson 43 150 12 = true := by decide +kernel -- hunger
def fX8_readPerson_43 (v0 : Nat) (v1 : Nat) (v2 : Int32) (s0 : Nat) (h : aH) : Option (Int32 × aH) :=
  fX8_readPerson_45 v0 v1 v2 (SB + 12) s0 h
theorem tX8_readPerson_43 {d : Nat} {z : Int32 × aH} (v0 : Nat) (v1 : Nat) (v2 : Int32) (s0 : Nat) (h : aH) (hf : fX8_readPerson_43 v0 v1 v2 s0 h = some z) : Ev (d + 7) none mX8_readPerson (0, 0) 43 [.ref v0, .ref v1, .int v2, .null] [.ref s0] h (QZ z) := 
  ev_ldcS kqX8_readPerson_43 rfl (jm [2, 2, 1, 0] (fun v0 v1 v2 => fX8_readPerson_45 v0 v1 v2 (SB + 12) s0 h) (fun v0 v1 v2 q => tX8_readPerson_45 v0 v1 v2 (SB + 12) s0 h q) hf)
def wX8_readPerson_42 : List En := [(.aload_n 0, 0, 0, 0)]
def fX8_readPerson_42 (v0 : Nat) (v1 : Nat) (v2 : Int32) (h : aH) : Option (Int32 × aH) :=
  fX8_readPerson_43 v0 v1 v2 v0 h
theorem tX8_readPerson_42 {d : Nat} {z : Int32 × aH} (v0 : Nat) (v1 : Nat) (v2 : Int32) (h : aH) (hf : fX8_readPerson_42 v0 v1 v2 h = some z) : Ev (d + 7) none mX8_readPerson (0, 0) 42 [.ref v0, .ref v1, .int v2, .null] [] h (QZ z) := 
  go_ok (X := none) (blk := wX8_readPerson_42) (np := 43) (tt := 0) (kN := fun xs h st => app [2, 2, 1, 0] (fun v0 v1 v2 => apS [2] (fun s0 => fX8_readPerson_43 v0 v1 v2 s0 h) st) xs) (kT := fun _ _ _ => none) (kR := kRZ)
    (fun xs h st q => jm [2, 2, 1, 0] _ (fun v0 v1 v2 q => apS_ok [2] _ (fun st => Ev (d + 7) none mX8_readPerson (0, 0) 43 [.ref v0, .ref v1, .int v2, .null] st h (QZ z)) st (fun s0 q => tX8_readPerson_43 v0 v1 v2 s0 h q) q) q)
    (fun _ _ _ q => nos q)
    kRZ_ok (Or.inr rfl) (by decide +kernel) (by decide +kernel) hf
theorem kqX8_readPerson_39 : okC mX8_readPerson 39 (.invokevirtual 63) 18 11 0 0 = true := by decide +kernel
def fX8_readPerson_39 (v0 : Nat) (v1 : Nat) (v2 : Int32) (s0 : Nat) (h : aH) : Option (Int32 × aH) :=
  (isO h 8 s0).bind fun _ =>
  (gX8_step s0 h).bind fun r =>
  fX8_readPerson_42 v0 v1 v2 r
theorem tX8_readPerson_39 {d : Nat} {z : Int32 × aH} (v0 : Nat) (v1 : Nat) (v2 : Int32) (s0 : Nat) (h : aH) (hf : fX8_readPerson_39 v0 v1 v2 s0 h = some z) : Ev (d + 7) none mX8_readPerson (0, 0) 39 [.ref v0, .ref v1, .int v2, .null] [.ref s0] h (QZ z) := by
  obtain ⟨_, h1, hf⟩ := bnd hf
  obtain ⟨fs, ho⟩ := isO_ok h1
  obtain ⟨r, h2, hf⟩ := bnd hf
  refine ev_V kqX8_readPerson_39 jX8_step (zX8_step (d := d + 4) h2) ho rfl rfl (Nat.le_of_ble_eq_true rfl) rfl (as := []) (rest := []) rfl (Nat.le_of_ble_eq_true rfl) (fun _ _ hq => ?_)
  obtain ⟨rfl, hh⟩ := hq
  rw [hh]
  exact jm [2, 2, 1, 0] (fun v0 v1 v2 => fX8_readPerson_42 v0 v1 v2 r) (fun v0 v1 v2 q => tX8_readPerson_42 v0 v1 v2 r q) hf
def wX8_readPerson_31 : List En := [(.aload_n 1, 0, 0, 0), (.getfield 147, 138, 9, 10), (.iload_n 2, 0, 0, 0), (.iload_n 3, 0, 0, 0), (.iastore, 0, 0, 0), (.aload_n 0, 0, 0, 0)]
def fX8_readPerson_31 (v0 : Nat) (v1 : Nat) (v2 : Int32) (v3 : Int32) (h : aH) : Option (Int32 × aH) :=
  (gFR h 9 v1 10).bind fun t1 =>
  (aWI h t1 v2 v3).bind fun h2 =>
  fX8_readPerson_39 v0 v1 v2 v0 h2
theorem tX8_readPerson_31 {d : Nat} {z : Int32 × aH} (v0 : Nat) (v1 : Nat) (v2 : Int32) (v3 : Int32) (h : aH) (hf : fX8_readPerson_31 v0 v1 v2 v3 h = some z) : Ev (d + 7) none mX8_readPerson (0, 0) 31 [.ref v0, .ref v1, .int v2, .int v3] [] h (QZ z) := 
  go_ok (X := none) (blk := wX8_readPerson_31) (np := 39) (tt := 0) (kN := fun xs h st => app [2, 2, 1, 0] (fun v0 v1 v2 => apS [2] (fun s0 => fX8_readPerson_39 v0 v1 v2 s0 h) st) xs) (kT := fun _ _ _ => none) (kR := kRZ)
    (fun xs h st q => jm [2, 2, 1, 0] _ (fun v0 v1 v2 q => apS_ok [2] _ (fun st => Ev (d + 7) none mX8_readPerson (0, 0) 39 [.ref v0, .ref v1, .int v2, .null] st h (QZ z)) st (fun s0 q => tX8_readPerson_39 v0 v1 v2 s0 h q) q) q)
    (fun _ _ _ q => nos q)
    kRZ_ok (Or.inr rfl) (by decide +kernel) (by decide +kernel) hf
def wX8_readPerson_30 : List En := [(.ireturn, 0, 0, 0)]
def fX8_readPerson_30 (s0 : Int32) (h : aH) : Option (Int32 × aH) :=
  if s0 = 0 ∨ s0 = 1 then some (s0, h) else none
theorem tX8_readPerson_30 {d : Nat} {z : Int32 × aH} (s0 : Int32) (h : aH) (hf : fX8_readPerson_30 s0 h = some z) : Ev (d + 7) none mX8_readPerson (0, 0) 30 [.null, .null, .null, .null] [.int s0] h (QZ z) := 
  go_ok (X := none) (blk := wX8_readPerson_30) (np := 31) (tt := 0) (kN := fun _ _ _ => none) (kT := fun _ _ _ => none) (kR := kRZ)
    (fun _ _ _ q => nos q)
    (fun _ _ _ q => nos q)
    kRZ_ok (Or.inr rfl) (by decide +kernel) (by decide +kernel) hf
theorem kqX8_readPerson_27 : okC mX8_readPerson 27 (.invokevirtual 73) 37 21 0 1 = true := by decide +kernel
def fX8_readPerson_27 (s0 : Int32) (s1 : Nat) (h : aH) : Option (Int32 × aH) :=
  (isO h 8 s1).bind fun _ =>
  (gX8_fail s1 s0 h).bind fun r =>
  fX8_readPerson_30 r.1 r.2
theorem tX8_readPerson_27 {d : Nat} {z : Int32 × aH} (s0 : Int32) (s1 : Nat) (h : aH) (hf : fX8_readPerson_27 s0 s1 h = some z) : Ev (d + 7) none mX8_readPerson (0, 0) 27 [.null, .null, .null, .null] [.int s0, .ref s1] h (QZ z) := by
  obtain ⟨_, h1, hf⟩ := bnd hf
  obtain ⟨fs, ho⟩ := isO_ok h1
  obtain ⟨r, h2, hf⟩ := bnd hf
  refine ev_V kqX8_readPerson_27 jX8_fail (zX8_fail (d := d + 6) h2) ho rfl rfl (Nat.le_of_ble_eq_true rfl) rfl (as := [.int s0]) (rest := []) rfl (Nat.le_of_ble_eq_true rfl) (fun _ _ hq => ?_)
  obtain ⟨-, rfl, rfl⟩ := hq
  exact jm [0, 0, 0, 0] (fX8_readPerson_30 r.1 r.2) (fun q => tX8_readPerson_30 r.1 r.2 q) hf
def wX8_readPerson_25 : List En := [(.aload_n 0, 0, 0, 0), (.iconst 1, 0, 0, 0)]
def fX8_readPerson_25 (v0 : Nat) (h : aH) : Option (Int32 × aH) :=
  fX8_readPerson_27 (kI 1) v0 h
theorem tX8_readPerson_25 {d : Nat} {z : Int32 × aH} (v0 : Nat) (h : aH) (hf : fX8_readPerson_25 v0 h = some z) : Ev (d + 7) none mX8_readPerson (0, 0) 25 [.ref v0, .null, .null, .null] [] h (QZ z) := 
  go_ok (X := none) (blk := wX8_readPerson_25) (np := 27) (tt := 0) (kN := fun xs h st => app [0, 0, 0, 0] (apS [1, 2] (fun s0 s1 => fX8_readPerson_27 s0 s1 h) st) xs) (kT := fun _ _ _ => none) (kR := kRZ)
    (fun xs h st q => jm [0, 0, 0, 0] _ (fun q => apS_ok [1, 2] _ (fun st => Ev (d + 7) none mX8_readPerson (0, 0) 27 [.null, .null, .null, .null] st h (QZ z)) st (fun s0 s1 q => tX8_readPerson_27 s0 s1 h q) q) q)
    (fun _ _ _ q => nos q)
    kRZ_ok (Or.inr rfl) (by decide +kernel) (by decide +kernel) hf
def wX8_readPerson_20 : List En := [(.istore_n 3, 0, 0, 0), (.iload_n 3, 0, 0, 0), (.ifCond .ge 9, 31, 0, 0)]
def fX8_readPerson_20 (v0 : Nat) (v1 : Nat) (v2 : Int32) (s0 : Int32) (h : aH) : Option (Int32 × aH) :=
  if s0 < 0 then fX8_readPerson_25 v0 h else fX8_readPerson_31 v0 v1 v2 s0 h
theorem tX8_readPerson_20 {d : Nat} {z : Int32 × aH} (v0 : Nat) (v1 : Nat) (v2 : Int32) (s0 : Int32) (h : aH) (hf : fX8_readPerson_20 v0 v1 v2 s0 h = some z) : Ev (d + 7) none mX8_readPerson (0, 0) 20 [.ref v0, .ref v1, .int v2, .null] [.int s0] h (QZ z) := 
  go_ok (X := none) (blk := wX8_readPerson_20) (np := 25) (tt := 31) (kN := fun xs h st => app [2, 0, 0, 0] (fun v0 => apS [] (fX8_readPerson_25 v0 h) st) xs) (kT := fun xs h st => app [2, 2, 1, 1] (fun v0 v1 v2 v3 => apS [] (fX8_readPerson_31 v0 v1 v2 v3 h) st) xs) (kR := kRZ)
    (fun xs h st q => jm [2, 0, 0, 0] _ (fun v0 q => apS_ok [] _ (fun st => Ev (d + 7) none mX8_readPerson (0, 0) 25 [.ref v0, .null, .null, .null] st h (QZ z)) st (fun q => tX8_readPerson_25 v0 h q) q) q)
    (fun xs h st q => jm [2, 2, 1, 1] _ (fun v0 v1 v2 v3 q => apS_ok [] _ (fun st => Ev (d + 7) none mX8_readPerson (0, 0) 31 [.ref v0, .ref v1, .int v2, .int v3] st h (QZ z)) st (fun q => tX8_readPerson_31 v0 v1 v2 v3 h q) q) q)
    kRZ_ok (Or.inr rfl) (by decide +kernel) (by decide +kernel) hf
theorem kqX8_readPerson_17 : okC mX8_readPerson 17 (.invokevirtual 144) 46 30 0 0 = true := by decide +kernel
def fX8_readPerson_17 (v0 : Nat) (v1 : Nat) (v2 : Int32) (s0 : Nat) (h : aH) : Option (Int32 × aH) :=
  (isO h 8 s0).bind fun _ =>
  (gX8_kindHere s0 h).bind fun r =>
  fX8_readPerson_20 v0 v1 v2 r.1 r.2
theorem tX8_readPerson_17 {d : Nat} {z : Int32 × aH} (v0 : Nat) (v1 : Nat) (v2 : Int32) (s0 : Nat) (h : aH) (hf : fX8_readPerson_17 v0 v1 v2 s0 h = some z) : Ev (d + 7) none mX8_readPerson (0, 0) 17 [.ref v0, .ref v1, .int v2, .null] [.ref s0] h (QZ z) := by
  obtain ⟨_, h1, hf⟩ := bnd hf
  obtain ⟨fs, ho⟩ := isO_ok h1
  obtain ⟨r, h2, hf⟩ := bnd hf
  refine ev_V kqX8_readPerson_17 jX8_kindHere (zX8_kindHere (d := d + 1) h2) ho rfl rfl (Nat.le_of_ble_eq_true rfl) rfl (as := []) (rest := []) rfl (Nat.le_of_ble_eq_true rfl) (fun _ _ hq => ?_)
  obtain ⟨rfl, rfl⟩ := hq
  exact jm [2, 2, 1, 0] (fun v0 v1 v2 => fX8_readPerson_20 v0 v1 v2 r.1 r.2) (fun v0 v1 v2 q => tX8_readPerson_20 v0 v1 v2 r.1 r.2 q) hf
def wX8_readPerson_16 : List En := [(.aload_n 0, 0, 0, 0)]
def fX8_readPerson_16 (v0 : Nat) (v1 : Nat) (v2 : Int32) (h : aH) : Option (Int32 × aH) :=
  fX8_readPerson_17 v0 v1 v2 v0 h
theorem tX8_readPerson_16 {d : Nat} {z : Int32 × aH} (v0 : Nat) (v1 : Nat) (v2 : Int32) (h : aH) (hf : fX8_readPerson_16 v0 v1 v2 h = some z) : Ev (d + 7) none mX8_readPerson (0, 0) 16 [.ref v0, .ref v1, .int v2, .null] [] h (QZ z) := 
  go_ok (X := none) (blk := wX8_readPerson_16) (np := 17) (tt := 0) (kN := fun xs h st => app [2, 2, 1, 0] (fun v0 v1 v2 => apS [2] (fun s0 => fX8_readPerson_17 v0 v1 v2 s0 h) st) xs) (kT := fun _ _ _ => none) (kR := kRZ)
    (fun xs h st q => jm [2, 2, 1, 0] _ (fun v0 v1 v2 q => apS_ok [2] _ (fun st => Ev (d + 7) none mX8_readPerson (0, 0) 17 [.ref v0, .ref v1, .int v2, .null] st h (QZ z)) st (fun s0 q => tX8_readPerson_17 v0 v1 v2 s0 h q) q) q)
    (fun _ _ _ q => nos q)
    kRZ_ok (Or.inr rfl) (by decide +kernel) (by decide +kernel) hf
def wX8_readPerson_14 : List En := [(.iconst 0, 0, 0, 0), (.ireturn, 0, 0, 0)]
def fX8_readPerson_14 (h : aH) : Option (Int32 × aH) :=
  if (kI 0) = 0 ∨ (kI 0) = 1 then some ((kI 0), h) else none
theorem tX8_readPerson_14 {d : Nat} {z : Int32 × aH} (h : aH) (hf : fX8_readPerson_14 h = some z) : Ev (d + 7) none mX8_readPerson (0, 0) 14 [.null, .null, .null, .null] [] h (QZ z) := 
  go_ok (X := none) (blk := wX8_readPerson_14) (np := 16) (tt := 0) (kN := fun _ _ _ => none) (kT := fun _ _ _ => none) (kR := kRZ)
    (fun _ _ _ q => nos q)
    (fun _ _ _ q => nos q)
    kRZ_ok (Or.inr rfl) (by decide +kernel) (by decide +kernel) hf
def wX8_readPerson_11 : List En := [(.ifCond .ne 5, 16, 0, 0)]
def fX8_readPerson_11 (v0 : Nat) (v1 : Nat) (v2 : Int32) (s0 : Int32) (h : aH) : Option (Int32 × aH) :=
  if s0 = 0 then fX8_readPerson_14 h else fX8_readPerson_16 v0 v1 v2 h
theorem tX8_readPerson_11 {d : Nat} {z : Int32 × aH} (v0 : Nat) (v1 : Nat) (v2 : Int32) (s0 : Int32) (h : aH) (hf : fX8_readPerson_11 v0 v1 v2 s0 h = some z) : Ev (d + 7) none mX8_readPerson (0, 0) 11 [.ref v0, .ref v1, .int v2, .null] [.int s0] h (QZ z) := 
  go_ok (X := none) (blk := wX8_readPerson_11) (np := 14) (tt := 16) (kN := fun xs h st => app [0, 0, 0, 0] (apS [] (fX8_readPerson_14 h) st) xs) (kT := fun xs h st => app [2, 2, 1, 0] (fun v0 v1 v2 => apS [] (fX8_readPerson_16 v0 v1 v2 h) st) xs) (kR := kRZ)
    (fun xs h st q => jm [0, 0, 0, 0] _ (fun q => apS_ok [] _ (fun st => Ev (d + 7) none mX8_readPerson (0, 0) 14 [.null, .null, .null, .null] st h (QZ z)) st (fun q => tX8_readPerson_14 h q) q) q)
    (fun xs h st q => jm [2, 2, 1, 0] _ (fun v0 v1 v2 q => apS_ok [] _ (fun st => Ev (d + 7) none mX8_readPerson (0, 0) 16 [.ref v0, .ref v1, .int v2, .null] st h (QZ z)) st (fun q => tX8_readPerson_16 v0 v1 v2 h q) q) q)
    kRZ_ok (Or.inr rfl) (by decide +kernel) (by decide +kernel) hf
theorem kqX8_readPerson_8 : okC mX8_readPerson 8 (.invokevirtual 140) 43 27 0 2 = true := by decide +kernel
def fX8_readPerson_8 (v0 : Nat) (v1 : Nat) (v2 : Int32) (s0 : Int32) (s1 : Int32) (s2 : Nat) (h : aH) : Option (Int32 × aH) :=
  (isO h 8 s2).bind fun _ =>
  (gX8_findsNewName s2 s1 s0 h).bind fun r =>
  fX8_readPerson_11 v0 v1 v2 r.1 r.2
theorem tX8_readPerson_8 {d : Nat} {z : Int32 × aH} (v0 : Nat) (v1 : Nat) (v2 : Int32) (s0 : Int32) (s1 : Int32) (s2 : Nat) (h : aH) (hf : fX8_readPerson_8 v0 v1 v2 s0 s1 s2 h = some z) : Ev (d + 7) none mX8_readPerson (0, 0) 8 [.ref v0, .ref v1, .int v2, .null] [.int s0, .int s1, .ref s2] h (QZ z) := by
  obtain ⟨_, h1, hf⟩ := bnd hf
  obtain ⟨fs, ho⟩ := isO_ok h1
  obtain ⟨r, h2, hf⟩ := bnd hf
  refine ev_V kqX8_readPerson_8 jX8_findsNewName (zX8_findsNewName (d := d + 0) h2) ho rfl rfl (Nat.le_of_ble_eq_true rfl) rfl (as := [.int s1, .int s0]) (rest := []) rfl (Nat.le_of_ble_eq_true rfl) (fun _ _ hq => ?_)
  obtain ⟨-, rfl, rfl⟩ := hq
  exact jm [2, 2, 1, 0] (fun v0 v1 v2 => fX8_readPerson_11 v0 v1 v2 r.1 r.2) (fun v0 v1 v2 q => tX8_readPerson_11 v0 v1 v2 r.1 r.2 q) hf
def wX8_readPerson_0 : List En := [(.aload_n 1, 0, 0, 0), (.getfield 77, 111, 9, 3), (.istore_n 2, 0, 0, 0), (.aload_n 0, 0, 0, 0), (.iconst 1, 0, 0, 0), (.iload_n 2, 0, 0, 0)]
def fX8_readPerson_0 (v0 : Nat) (v1 : Nat) (h : aH) : Option (Int32 × aH) :=
  (gFI h 9 v1 3).bind fun t1 =>
  fX8_readPerson_8 v0 v1 t1 t1 (kI 1) v0 h
theorem tX8_readPerson_0 {d : Nat} {z : Int32 × aH} (v0 : Nat) (v1 : Nat) (h : aH) (hf : fX8_readPerson_0 v0 v1 h = some z) : Ev (d + 7) none mX8_readPerson (0, 0) 0 [.ref v0, .ref v1, .null, .null] [] h (QZ z) := 
  go_ok (X := none) (blk := wX8_readPerson_0) (np := 8) (tt := 0) (kN := fun xs h st => app [2, 2, 1, 0] (fun v0 v1 v2 => apS [1, 1, 2] (fun s0 s1 s2 => fX8_readPerson_8 v0 v1 v2 s0 s1 s2 h) st) xs) (kT := fun _ _ _ => none) (kR := kRZ)
    (fun xs h st q => jm [2, 2, 1, 0] _ (fun v0 v1 v2 q => apS_ok [1, 1, 2] _ (fun st => Ev (d + 7) none mX8_readPerson (0, 0) 8 [.ref v0, .ref v1, .int v2, .null] st h (QZ z)) st (fun s0 s1 s2 q => tX8_readPerson_8 v0 v1 v2 s0 s1 s2 h q) q) q)
    (fun _ _ _ q => nos q)
    kRZ_ok (Or.inr rfl) (by decide +kernel) (by decide +kernel) hf
def gX8_readPerson (v0 : Nat) (v1 : Nat) (h : aH) : Option (Int32 × aH) := fX8_readPerson_0 v0 v1 h
theorem zX8_readPerson {d : Nat} {z : Int32 × aH} {v0 : Nat} {v1 : Nat} {h : aH} (q : gX8_readPerson v0 v1 h = some z) : CT (d + 7) mX8_readPerson (0, 0) [.ref v0, .ref v1] h (QZ z) :=
  ct_ev (by decide +kernel) (Nat.le_of_ble_eq_true rfl) QZ_r (jm [2, 2, 0, 0] (fun v0 v1 => fX8_readPerson_0 v0 v1 h) (fun v0 v1 q => tX8_readPerson_0 v0 v1 h q) q)
def wX8_readTable_79 : List En := [(.aload_n 0, 0, 0, 0), (.iconst 1, 0, 0, 0), (.putfield 53, 17, 8, 14), (.iconst 1, 0, 0, 0), (.ireturn, 0, 0, 0)]
def fX8_readTable_79 (v0 : Nat) (h : aH) : Option (Int32 × aH) :=
  (pWV h 8 v0 14 (.int (kI 1))).bind fun h1 =>
  if (kI 1) = 0 ∨ (kI 1) = 1 then some ((kI 1), h1) else none
theorem tX8_readTable_79 {d : Nat} {z : Int32 × aH} (v0 : Nat) (h : aH) (hf : fX8_readTable_79 v0 h = some z) : Ev (d + 6) none mX8_readTable (0, 0) 79 [.ref v0, .null] [] h (QZ z) := 
  go_ok (X := none) (blk := wX8_readTable_79) (np := 86) (tt := 0) (kN := fun _ _ _ => none) (kT := fun _ _ _ => none) (kR := kRZ)
    (fun _ _ _ q => nos q)
    (fun _ _ _ q => nos q)
    kRZ_ok (Or.inr rfl) (by decide +kernel) (by decide +kernel) hf
theorem kqX8_readTable_76 : okC mX8_readTable 76 (.invokevirtual 63) 18 11 0 0 = true := by decide +kernel
def fX8_readTable_76 (v0 : Nat) (s0 : Nat) (h : aH) : Option (Int32 × aH) :=
  (isO h 8 s0).bind fun _ =>
  (gX8_step s0 h).bind fun r =>
  fX8_readTable_79 v0 r
theorem tX8_readTable_76 {d : Nat} {z : Int32 × aH} (v0 : Nat) (s0 : Nat) (h : aH) (hf : fX8_readTable_76 v0 s0 h = some z) : Ev (d + 6) none mX8_readTable (0, 0) 76 [.ref v0, .null] [.ref s0] h (QZ z) := by
  obtain ⟨_, h1, hf⟩ := bnd hf
  obtain ⟨fs, ho⟩ := isO_ok h1
  obtain ⟨r, h2, hf⟩ := bnd hf
  refine ev_V kqX8_readTable_76 jX8_step (zX8_step (d := d + 3) h2) ho rfl rfl (Nat.le_of_ble_eq_true rfl) rfl (as := []) (rest := []) rfl (Nat.le_of_ble_eq_true rfl) (fun _ _ hq => ?_)
  obtain ⟨rfl, hh⟩ := hq
  rw [hh]
  exact jm [2, 0] (fun v0 => fX8_readTable_79 v0 r) (fun v0 q => tX8_readTable_79 v0 r q) hf
def wX8_readTable_67 : List En := [(.aload_n 1, 0, 0, 0), (.aload_n 0, 0, 0, 0), (.getfield 127, 16, 8, 13), (.putfield 138, 105, 9, 2), (.aload_n 0, 0, 0, 0)]
def fX8_readTable_67 (v0 : Nat) (v1 : Nat) (h : aH) : Option (Int32 × aH) :=
  (gFI h 8 v0 13).bind fun t1 =>
  (pWV h 9 v1 2 (.int t1)).bind fun h2 =>
  fX8_readTable_76 v0 v0 h2
theorem tX8_readTable_67 {d : Nat} {z : Int32 × aH} (v0 : Nat) (v1 : Nat) (h : aH) (hf : fX8_readTable_67 v0 v1 h = some z) : Ev (d + 6) none mX8_readTable (0, 0) 67 [.ref v0, .ref v1] [] h (QZ z) := 
  go_ok (X := none) (blk := wX8_readTable_67) (np := 76) (tt := 0) (kN := fun xs h st => app [2, 0] (fun v0 => apS [2] (fun s0 => fX8_readTable_76 v0 s0 h) st) xs) (kT := fun _ _ _ => none) (kR := kRZ)
    (fun xs h st q => jm [2, 0] _ (fun v0 q => apS_ok [2] _ (fun st => Ev (d + 6) none mX8_readTable (0, 0) 76 [.ref v0, .null] st h (QZ z)) st (fun s0 q => tX8_readTable_76 v0 s0 h q) q) q)
    (fun _ _ _ q => nos q)
    kRZ_ok (Or.inr rfl) (by decide +kernel) (by decide +kernel) hf
def wX8_readTable_65 : List En := [(.iconst 0, 0, 0, 0), (.ireturn, 0, 0, 0)]
def fX8_readTable_65 (h : aH) : Option (Int32 × aH) :=
  if (kI 0) = 0 ∨ (kI 0) = 1 then some ((kI 0), h) else none
theorem tX8_readTable_65 {d : Nat} {z : Int32 × aH} (h : aH) (hf : fX8_readTable_65 h = some z) : Ev (d + 6) none mX8_readTable (0, 0) 65 [.null, .null] [] h (QZ z) := 
  go_ok (X := none) (blk := wX8_readTable_65) (np := 67) (tt := 0) (kN := fun _ _ _ => none) (kT := fun _ _ _ => none) (kR := kRZ)
    (fun _ _ _ q => nos q)
    (fun _ _ _ q => nos q)
    kRZ_ok (Or.inr rfl) (by decide +kernel) (by decide +kernel) hf
def wX8_readTable_62 : List En := [(.ifCond .ne 5, 67, 0, 0)]
def fX8_readTable_62 (v0 : Nat) (v1 : Nat) (s0 : Int32) (h : aH) : Option (Int32 × aH) :=
  if s0 = 0 then fX8_readTable_65 h else fX8_readTable_67 v0 v1 h
theorem tX8_readTable_62 {d : Nat} {z : Int32 × aH} (v0 : Nat) (v1 : Nat) (s0 : Int32) (h : aH) (hf : fX8_readTable_62 v0 v1 s0 h = some z) : Ev (d + 6) none mX8_readTable (0, 0) 62 [.ref v0, .ref v1] [.int s0] h (QZ z) := 
  go_ok (X := none) (blk := wX8_readTable_62) (np := 65) (tt := 67) (kN := fun xs h st => app [0, 0] (apS [] (fX8_readTable_65 h) st) xs) (kT := fun xs h st => app [2, 2] (fun v0 v1 => apS [] (fX8_readTable_67 v0 v1 h) st) xs) (kR := kRZ)
    (fun xs h st q => jm [0, 0] _ (fun q => apS_ok [] _ (fun st => Ev (d + 6) none mX8_readTable (0, 0) 65 [.null, .null] st h (QZ z)) st (fun q => tX8_readTable_65 h q) q) q)
    (fun xs h st q => jm [2, 2] _ (fun v0 v1 q => apS_ok [] _ (fun st => Ev (d + 6) none mX8_readTable (0, 0) 67 [.ref v0, .ref v1] st h (QZ z)) st (fun q => tX8_readTable_67 v0 v1 h q) q) q)
    kRZ_ok (Or.inr rfl) (by decide +kernel) (by decide +kernel) hf
theorem kqX8_readTable_59 : okC mX8_readTable 59 (.invokevirtual 123) 40 24 0 3 = true := by decide +kernel
def fX8_readTable_59 (v0 : Nat) (v1 : Nat) (s0 : Int32) (s1 : Int32) (s2 : Nat) (s3 : Nat) (h : aH) : Option (Int32 × aH) :=
  (isO h 8 s3).bind fun _ =>
  (gX8_findsWhole s3 s2 s1 s0 h).bind fun r =>
  fX8_readTable_62 v0 v1 r.1 r.2
theorem tX8_readTable_59 {d : Nat} {z : Int32 × aH} (v0 : Nat) (v1 : Nat) (s0 : Int32) (s1 : Int32) (s2 : Nat) (s3 : Nat) (h : aH) (hf : fX8_readTable_59 v0 v1 s0 s1 s2 s3 h = some z) : Ev (d + 6) none mX8_readTable (0, 0) 59 [.ref v0, .ref v1] [.int s0, .int s1, .ref s2, .ref s3] h (QZ z) := by
  obtain ⟨_, h1, hf⟩ := bnd hf
  obtain ⟨fs, ho⟩ := isO_ok h1
  obtain ⟨r, h2, hf⟩ := bnd hf
  refine ev_V kqX8_readTable_59 jX8_findsWhole (zX8_findsWhole (d := d + 0) h2) ho rfl rfl (Nat.le_of_ble_eq_true rfl) rfl (as := [.ref s2, .int s1, .int s0]) (rest := []) rfl (Nat.le_of_ble_eq_true rfl) (fun _ _ hq => ?_)
  obtain ⟨-, rfl, rfl⟩ := hq
  exact jm [2, 2] (fun v0 v1 => fX8_readTable_62 v0 v1 r.1 r.2) (fun v0 v1 q => tX8_readTable_62 v0 v1 r.1 r.2 q) hf
def wX8_readTable_56 : List En := [(.iconst 0, 0, 0, 0), (.bipush 100, 0, 0, 0)]
def fX8_readTable_56 (v0 : Nat) (v1 : Nat) (s0 : Nat) (s1 : Nat) (h : aH) : Option (Int32 × aH) :=
  fX8_readTable_59 v0 v1 (kB 100) (kI 0) s0 s1 h
theorem tX8_readTable_56 {d : Nat} {z : Int32 × aH} (v0 : Nat) (v1 : Nat) (s0 : Nat) (s1 : Nat) (h : aH) (hf : fX8_readTable_56 v0 v1 s0 s1 h = some z) : Ev (d + 6) none mX8_readTable (0, 0) 56 [.ref v0, .ref v1] [.ref s0, .ref s1] h (QZ z) := 
  go_ok (X := none) (blk := wX8_readTable_56) (np := 59) (tt := 0) (kN := fun xs h st => app [2, 2] (fun v0 v1 => apS [1, 1, 2, 2] (fun s0 s1 s2 s3 => fX8_readTable_59 v0 v1 s0 s1 s2 s3 h) st) xs) (kT := fun _ _ _ => none) (kR := kRZ)
    (fun xs h st q => jm [2, 2] _ (fun v0 v1 q => apS_ok [1, 1, 2, 2] _ (fun st => Ev (d + 6) none mX8_readTable (0, 0) 59 [.ref v0, .ref v1] st h (QZ z)) st (fun s0 s1 s2 s3 q => tX8_readTable_59 v0 v1 s0 s1 s2 s3 h q) q) q)
    (fun _ _ _ q => nos q)
    kRZ_ok (Or.inr rfl) (by decide +kernel) (by decide +kernel) hf
theorem kqX8_readTable_54 : ckS mX8_readTable 54 136 8 = true := by decide +kernel -- flinch
def fX8_readTable_54 (v0 : Nat) (v1 : Nat) (s0 : Nat) (h : aH) : Option (Int32 × aH) :=
  fX8_readTable_56 v0 v1 (SB + 8) s0 h
theorem tX8_readTable_54 {d : Nat} {z : Int32 × aH} (v0 : Nat) (v1 : Nat) (s0 : Nat) (h : aH) (hf : fX8_readTable_54 v0 v1 s0 h = some z) : Ev (d + 6) none mX8_readTable (0, 0) 54 [.ref v0, .ref v1] [.ref s0] h (QZ z) := 
  ev_ldcS kqX8_readTable_54 rfl (jm [2, 2] (fun v0 v1 => fX8_readTable_56 v0 v1 (SB + 8) s0 h) (fun v0 v1 q => tX8_readTable_56 v0 v1 (SB + 8) s0 h q) hf)
def wX8_readTable_53 : List En := [(.aload_n 0, 0, 0, 0)]
def fX8_readTable_53 (v0 : Nat) (v1 : Nat) (h : aH) : Option (Int32 × aH) :=
  fX8_readTable_54 v0 v1 v0 h
theorem tX8_readTable_53 {d : Nat} {z : Int32 × aH} (v0 : Nat) (v1 : Nat) (h : aH) (hf : fX8_readTable_53 v0 v1 h = some z) : Ev (d + 6) none mX8_readTable (0, 0) 53 [.ref v0, .ref v1] [] h (QZ z) := 
  go_ok (X := none) (blk := wX8_readTable_53) (np := 54) (tt := 0) (kN := fun xs h st => app [2, 2] (fun v0 v1 => apS [2] (fun s0 => fX8_readTable_54 v0 v1 s0 h) st) xs) (kT := fun _ _ _ => none) (kR := kRZ)
    (fun xs h st q => jm [2, 2] _ (fun v0 v1 q => apS_ok [2] _ (fun st => Ev (d + 6) none mX8_readTable (0, 0) 54 [.ref v0, .ref v1] st h (QZ z)) st (fun s0 q => tX8_readTable_54 v0 v1 s0 h q) q) q)
    (fun _ _ _ q => nos q)
    kRZ_ok (Or.inr rfl) (by decide +kernel) (by decide +kernel) hf
theorem kqX8_readTable_50 : okC mX8_readTable 50 (.invokevirtual 63) 18 11 0 0 = true := by decide +kernel
def fX8_readTable_50 (v0 : Nat) (v1 : Nat) (s0 : Nat) (h : aH) : Option (Int32 × aH) :=
  (isO h 8 s0).bind fun _ =>
  (gX8_step s0 h).bind fun r =>
  fX8_readTable_53 v0 v1 r
theorem tX8_readTable_50 {d : Nat} {z : Int32 × aH} (v0 : Nat) (v1 : Nat) (s0 : Nat) (h : aH) (hf : fX8_readTable_50 v0 v1 s0 h = some z) : Ev (d + 6) none mX8_readTable (0, 0) 50 [.ref v0, .ref v1] [.ref s0] h (QZ z) := by
  obtain ⟨_, h1, hf⟩ := bnd hf
  obtain ⟨fs, ho⟩ := isO_ok h1
  obtain ⟨r, h2, hf⟩ := bnd hf
  refine ev_V kqX8_readTable_50 jX8_step (zX8_step (d := d + 3) h2) ho rfl rfl (Nat.le_of_ble_eq_true rfl) rfl (as := []) (rest := []) rfl (Nat.le_of_ble_eq_true rfl) (fun _ _ hq => ?_)
  obtain ⟨rfl, hh⟩ := hq
  rw [hh]
  exact jm [2, 2] (fun v0 v1 => fX8_readTable_53 v0 v1 r) (fun v0 v1 q => tX8_readTable_53 v0 v1 r q) hf
def wX8_readTable_41 : List En := [(.aload_n 1, 0, 0, 0), (.aload_n 0, 0, 0, 0), (.getfield 127, 16, 8, 13), (.putfield 134, 100, 9, 1), (.aload_n 0, 0, 0, 0)]
def fX8_readTable_41 (v0 : Nat) (v1 : Nat) (h : aH) : Option (Int32 × aH) :=
  (gFI h 8 v0 13).bind fun t1 =>
  (pWV h 9 v1 1 (.int t1)).bind fun h2 =>
  fX8_readTable_50 v0 v1 v0 h2
theorem tX8_readTable_41 {d : Nat} {z : Int32 × aH} (v0 : Nat) (v1 : Nat) (h : aH) (hf : fX8_readTable_41 v0 v1 h = some z) : Ev (d + 6) none mX8_readTable (0, 0) 41 [.ref v0, .ref v1] [] h (QZ z) := 
  go_ok (X := none) (blk := wX8_readTable_41) (np := 50) (tt := 0) (kN := fun xs h st => app [2, 2] (fun v0 v1 => apS [2] (fun s0 => fX8_readTable_50 v0 v1 s0 h) st) xs) (kT := fun _ _ _ => none) (kR := kRZ)
    (fun xs h st q => jm [2, 2] _ (fun v0 v1 q => apS_ok [2] _ (fun st => Ev (d + 6) none mX8_readTable (0, 0) 50 [.ref v0, .ref v1] st h (QZ z)) st (fun s0 q => tX8_readTable_50 v0 v1 s0 h q) q) q)
    (fun _ _ _ q => nos q)
    kRZ_ok (Or.inr rfl) (by decide +kernel) (by decide +kernel) hf
def wX8_readTable_39 : List En := [(.iconst 0, 0, 0, 0), (.ireturn, 0, 0, 0)]
def fX8_readTable_39 (h : aH) : Option (Int32 × aH) :=
  if (kI 0) = 0 ∨ (kI 0) = 1 then some ((kI 0), h) else none
theorem tX8_readTable_39 {d : Nat} {z : Int32 × aH} (h : aH) (hf : fX8_readTable_39 h = some z) : Ev (d + 6) none mX8_readTable (0, 0) 39 [.null, .null] [] h (QZ z) := 
  go_ok (X := none) (blk := wX8_readTable_39) (np := 41) (tt := 0) (kN := fun _ _ _ => none) (kT := fun _ _ _ => none) (kR := kRZ)
    (fun _ _ _ q => nos q)
    (fun _ _ _ q => nos q)
    kRZ_ok (Or.inr rfl) (by decide +kernel) (by decide +kernel) hf
def wX8_readTable_36 : List En := [(.ifCond .ne 5, 41, 0, 0)]
def fX8_readTable_36 (v0 : Nat) (v1 : Nat) (s0 : Int32) (h : aH) : Option (Int32 × aH) :=
  if s0 = 0 then fX8_readTable_39 h else fX8_readTable_41 v0 v1 h
theorem tX8_readTable_36 {d : Nat} {z : Int32 × aH} (v0 : Nat) (v1 : Nat) (s0 : Int32) (h : aH) (hf : fX8_readTable_36 v0 v1 s0 h = some z) : Ev (d + 6) none mX8_readTable (0, 0) 36 [.ref v0, .ref v1] [.int s0] h (QZ z) := 
  go_ok (X := none) (blk := wX8_readTable_36) (np := 39) (tt := 41) (kN := fun xs h st => app [0, 0] (apS [] (fX8_readTable_39 h) st) xs) (kT := fun xs h st => app [2, 2] (fun v0 v1 => apS [] (fX8_readTable_41 v0 v1 h) st) xs) (kR := kRZ)
    (fun xs h st q => jm [0, 0] _ (fun q => apS_ok [] _ (fun st => Ev (d + 6) none mX8_readTable (0, 0) 39 [.null, .null] st h (QZ z)) st (fun q => tX8_readTable_39 h q) q) q)
    (fun xs h st q => jm [2, 2] _ (fun v0 v1 q => apS_ok [] _ (fun st => Ev (d + 6) none mX8_readTable (0, 0) 41 [.ref v0, .ref v1] st h (QZ z)) st (fun q => tX8_readTable_41 v0 v1 h q) q) q)
    kRZ_ok (Or.inr rfl) (by decide +kernel) (by decide +kernel) hf
theorem kqX8_readTable_33 : okC mX8_readTable 33 (.invokevirtual 123) 40 24 0 3 = true := by decide +kernel
def fX8_readTable_33 (v0 : Nat) (v1 : Nat) (s0 : Int32) (s1 : Int32) (s2 : Nat) (s3 : Nat) (h : aH) : Option (Int32 × aH) :=
  (isO h 8 s3).bind fun _ =>
  (gX8_findsWhole s3 s2 s1 s0 h).bind fun r =>
  fX8_readTable_36 v0 v1 r.1 r.2
theorem tX8_readTable_33 {d : Nat} {z : Int32 × aH} (v0 : Nat) (v1 : Nat) (s0 : Int32) (s1 : Int32) (s2 : Nat) (s3 : Nat) (h : aH) (hf : fX8_readTable_33 v0 v1 s0 s1 s2 s3 h = some z) : Ev (d + 6) none mX8_readTable (0, 0) 33 [.ref v0, .ref v1] [.int s0, .int s1, .ref s2, .ref s3] h (QZ z) := by
  obtain ⟨_, h1, hf⟩ := bnd hf
  obtain ⟨fs, ho⟩ := isO_ok h1
  obtain ⟨r, h2, hf⟩ := bnd hf
  refine ev_V kqX8_readTable_33 jX8_findsWhole (zX8_findsWhole (d := d + 0) h2) ho rfl rfl (Nat.le_of_ble_eq_true rfl) rfl (as := [.ref s2, .int s1, .int s0]) (rest := []) rfl (Nat.le_of_ble_eq_true rfl) (fun _ _ hq => ?_)
  obtain ⟨-, rfl, rfl⟩ := hq
  exact jm [2, 2] (fun v0 v1 => fX8_readTable_36 v0 v1 r.1 r.2) (fun v0 v1 q => tX8_readTable_36 v0 v1 r.1 r.2 q) hf
def wX8_readTable_29 : List En := [(.iconst 5, 0, 0, 0), (.sipush 200, 0, 0, 0)]
def fX8_readTable_29 (v0 : Nat) (v1 : Nat) (s0 : Nat) (s1 : Nat) (h : aH) : Option (Int32 × aH) :=
  fX8_readTable_33 v0 v1 (kS 200) (kI 5) s0 s1 h
theorem tX8_readTable_29 {d : Nat} {z : Int32 × aH} (v0 : Nat) (v1 : Nat) (s0 : Nat) (s1 : Nat) (h : aH) (hf : fX8_readTable_29 v0 v1 s0 s1 h = some z) : Ev (d + 6) none mX8_readTable (0, 0) 29 [.ref v0, .ref v1] [.ref s0, .ref s1] h (QZ z) := 
  go_ok (X := none) (blk := wX8_readTable_29) (np := 33) (tt := 0) (kN := fun xs h st => app [2, 2] (fun v0 v1 => apS [1, 1, 2, 2] (fun s0 s1 s2 s3 => fX8_readTable_33 v0 v1 s0 s1 s2 s3 h) st) xs) (kT := fun _ _ _ => none) (kR := kRZ)
    (fun xs h st q => jm [2, 2] _ (fun v0 v1 q => apS_ok [1, 1, 2, 2] _ (fun st => Ev (d + 6) none mX8_readTable (0, 0) 33 [.ref v0, .ref v1] st h (QZ z)) st (fun s0 s1 s2 s3 q => tX8_readTable_33 v0 v1 s0 s1 s2 s3 h q) q) q)
    (fun _ _ _ q => nos q)
    kRZ_ok (Or.inr rfl) (by decide +kernel) (by decide +kernel) hf
theorem kqX8_readTable_27 : ckS mX8_readTable 27 132 7 = true := by decide +kernel -- starve
def fX8_readTable_27 (v0 : Nat) (v1 : Nat) (s0 : Nat) (h : aH) : Option (Int32 × aH) :=
  fX8_readTable_29 v0 v1 (SB + 7) s0 h
theorem tX8_readTable_27 {d : Nat} {z : Int32 × aH} (v0 : Nat) (v1 : Nat) (s0 : Nat) (h : aH) (hf : fX8_readTable_27 v0 v1 s0 h = some z) : Ev (d + 6) none mX8_readTable (0, 0) 27 [.ref v0, .ref v1] [.ref s0] h (QZ z) := 
  ev_ldcS kqX8_readTable_27 rfl (jm [2, 2] (fun v0 v1 => fX8_readTable_29 v0 v1 (SB + 7) s0 h) (fun v0 v1 q => tX8_readTable_29 v0 v1 (SB + 7) s0 h q) hf)
def wX8_readTable_26 : List En := [(.aload_n 0, 0, 0, 0)]
def fX8_readTable_26 (v0 : Nat) (v1 : Nat) (h : aH) : Option (Int32 × aH) :=
  fX8_readTable_27 v0 v1 v0 h
theorem tX8_readTable_26 {d : Nat} {z : Int32 × aH} (v0 : Nat) (v1 : Nat) (h : aH) (hf : fX8_readTable_26 v0 v1 h = some z) : Ev (d + 6) none mX8_readTable (0, 0) 26 [.ref v0, .ref v1] [] h (QZ z) := 
  go_ok (X := none) (blk := wX8_readTable_26) (np := 27) (tt := 0) (kN := fun xs h st => app [2, 2] (fun v0 v1 => apS [2] (fun s0 => fX8_readTable_27 v0 v1 s0 h) st) xs) (kT := fun _ _ _ => none) (kR := kRZ)
    (fun xs h st q => jm [2, 2] _ (fun v0 v1 q => apS_ok [2] _ (fun st => Ev (d + 6) none mX8_readTable (0, 0) 27 [.ref v0, .ref v1] st h (QZ z)) st (fun s0 q => tX8_readTable_27 v0 v1 s0 h q) q) q)
    (fun _ _ _ q => nos q)
    kRZ_ok (Or.inr rfl) (by decide +kernel) (by decide +kernel) hf
theorem kqX8_readTable_23 : okC mX8_readTable 23 (.invokevirtual 63) 18 11 0 0 = true := by decide +kernel
def fX8_readTable_23 (v0 : Nat) (v1 : Nat) (s0 : Nat) (h : aH) : Option (Int32 × aH) :=
  (isO h 8 s0).bind fun _ =>
  (gX8_step s0 h).bind fun r =>
  fX8_readTable_26 v0 v1 r
theorem tX8_readTable_23 {d : Nat} {z : Int32 × aH} (v0 : Nat) (v1 : Nat) (s0 : Nat) (h : aH) (hf : fX8_readTable_23 v0 v1 s0 h = some z) : Ev (d + 6) none mX8_readTable (0, 0) 23 [.ref v0, .ref v1] [.ref s0] h (QZ z) := by
  obtain ⟨_, h1, hf⟩ := bnd hf
  obtain ⟨fs, ho⟩ := isO_ok h1
  obtain ⟨r, h2, hf⟩ := bnd hf
  refine ev_V kqX8_readTable_23 jX8_step (zX8_step (d := d + 3) h2) ho rfl rfl (Nat.le_of_ble_eq_true rfl) rfl (as := []) (rest := []) rfl (Nat.le_of_ble_eq_true rfl) (fun _ _ hq => ?_)
  obtain ⟨rfl, hh⟩ := hq
  rw [hh]
  exact jm [2, 2] (fun v0 v1 => fX8_readTable_26 v0 v1 r) (fun v0 v1 q => tX8_readTable_26 v0 v1 r q) hf
def wX8_readTable_14 : List En := [(.aload_n 1, 0, 0, 0), (.aload_n 0, 0, 0, 0), (.getfield 127, 16, 8, 13), (.putfield 130, 97, 9, 0), (.aload_n 0, 0, 0, 0)]
def fX8_readTable_14 (v0 : Nat) (v1 : Nat) (h : aH) : Option (Int32 × aH) :=
  (gFI h 8 v0 13).bind fun t1 =>
  (pWV h 9 v1 0 (.int t1)).bind fun h2 =>
  fX8_readTable_23 v0 v1 v0 h2
theorem tX8_readTable_14 {d : Nat} {z : Int32 × aH} (v0 : Nat) (v1 : Nat) (h : aH) (hf : fX8_readTable_14 v0 v1 h = some z) : Ev (d + 6) none mX8_readTable (0, 0) 14 [.ref v0, .ref v1] [] h (QZ z) := 
  go_ok (X := none) (blk := wX8_readTable_14) (np := 23) (tt := 0) (kN := fun xs h st => app [2, 2] (fun v0 v1 => apS [2] (fun s0 => fX8_readTable_23 v0 v1 s0 h) st) xs) (kT := fun _ _ _ => none) (kR := kRZ)
    (fun xs h st q => jm [2, 2] _ (fun v0 v1 q => apS_ok [2] _ (fun st => Ev (d + 6) none mX8_readTable (0, 0) 23 [.ref v0, .ref v1] st h (QZ z)) st (fun s0 q => tX8_readTable_23 v0 v1 s0 h q) q) q)
    (fun _ _ _ q => nos q)
    kRZ_ok (Or.inr rfl) (by decide +kernel) (by decide +kernel) hf
def wX8_readTable_12 : List En := [(.iconst 0, 0, 0, 0), (.ireturn, 0, 0, 0)]
def fX8_readTable_12 (h : aH) : Option (Int32 × aH) :=
  if (kI 0) = 0 ∨ (kI 0) = 1 then some ((kI 0), h) else none
theorem tX8_readTable_12 {d : Nat} {z : Int32 × aH} (h : aH) (hf : fX8_readTable_12 h = some z) : Ev (d + 6) none mX8_readTable (0, 0) 12 [.null, .null] [] h (QZ z) := 
  go_ok (X := none) (blk := wX8_readTable_12) (np := 14) (tt := 0) (kN := fun _ _ _ => none) (kT := fun _ _ _ => none) (kR := kRZ)
    (fun _ _ _ q => nos q)
    (fun _ _ _ q => nos q)
    kRZ_ok (Or.inr rfl) (by decide +kernel) (by decide +kernel) hf
def wX8_readTable_9 : List En := [(.ifCond .ne 5, 14, 0, 0)]
def fX8_readTable_9 (v0 : Nat) (v1 : Nat) (s0 : Int32) (h : aH) : Option (Int32 × aH) :=
  if s0 = 0 then fX8_readTable_12 h else fX8_readTable_14 v0 v1 h
theorem tX8_readTable_9 {d : Nat} {z : Int32 × aH} (v0 : Nat) (v1 : Nat) (s0 : Int32) (h : aH) (hf : fX8_readTable_9 v0 v1 s0 h = some z) : Ev (d + 6) none mX8_readTable (0, 0) 9 [.ref v0, .ref v1] [.int s0] h (QZ z) := 
  go_ok (X := none) (blk := wX8_readTable_9) (np := 12) (tt := 14) (kN := fun xs h st => app [0, 0] (apS [] (fX8_readTable_12 h) st) xs) (kT := fun xs h st => app [2, 2] (fun v0 v1 => apS [] (fX8_readTable_14 v0 v1 h) st) xs) (kR := kRZ)
    (fun xs h st q => jm [0, 0] _ (fun q => apS_ok [] _ (fun st => Ev (d + 6) none mX8_readTable (0, 0) 12 [.null, .null] st h (QZ z)) st (fun q => tX8_readTable_12 h q) q) q)
    (fun xs h st q => jm [2, 2] _ (fun v0 v1 q => apS_ok [] _ (fun st => Ev (d + 6) none mX8_readTable (0, 0) 14 [.ref v0, .ref v1] st h (QZ z)) st (fun q => tX8_readTable_14 v0 v1 h q) q) q)
    kRZ_ok (Or.inr rfl) (by decide +kernel) (by decide +kernel) hf
theorem kqX8_readTable_6 : okC mX8_readTable 6 (.invokevirtual 123) 40 24 0 3 = true := by decide +kernel
def fX8_readTable_6 (v0 : Nat) (v1 : Nat) (s0 : Int32) (s1 : Int32) (s2 : Nat) (s3 : Nat) (h : aH) : Option (Int32 × aH) :=
  (isO h 8 s3).bind fun _ =>
  (gX8_findsWhole s3 s2 s1 s0 h).bind fun r =>
  fX8_readTable_9 v0 v1 r.1 r.2
theorem tX8_readTable_6 {d : Nat} {z : Int32 × aH} (v0 : Nat) (v1 : Nat) (s0 : Int32) (s1 : Int32) (s2 : Nat) (s3 : Nat) (h : aH) (hf : fX8_readTable_6 v0 v1 s0 s1 s2 s3 h = some z) : Ev (d + 6) none mX8_readTable (0, 0) 6 [.ref v0, .ref v1] [.int s0, .int s1, .ref s2, .ref s3] h (QZ z) := by
  obtain ⟨_, h1, hf⟩ := bnd hf
  obtain ⟨fs, ho⟩ := isO_ok h1
  obtain ⟨r, h2, hf⟩ := bnd hf
  refine ev_V kqX8_readTable_6 jX8_findsWhole (zX8_findsWhole (d := d + 0) h2) ho rfl rfl (Nat.le_of_ble_eq_true rfl) rfl (as := [.ref s2, .int s1, .int s0]) (rest := []) rfl (Nat.le_of_ble_eq_true rfl) (fun _ _ hq => ?_)
  obtain ⟨-, rfl, rfl⟩ := hq
  exact jm [2, 2] (fun v0 v1 => fX8_readTable_9 v0 v1 r.1 r.2) (fun v0 v1 q => tX8_readTable_9 v0 v1 r.1 r.2 q) hf
def wX8_readTable_3 : List En := [(.iconst 1, 0, 0, 0), (.bipush 20, 0, 0, 0)]
def fX8_readTable_3 (v0 : Nat) (v1 : Nat) (s0 : Nat) (s1 : Nat) (h : aH) : Option (Int32 × aH) :=
  fX8_readTable_6 v0 v1 (kB 20) (kI 1) s0 s1 h
theorem tX8_readTable_3 {d : Nat} {z : Int32 × aH} (v0 : Nat) (v1 : Nat) (s0 : Nat) (s1 : Nat) (h : aH) (hf : fX8_readTable_3 v0 v1 s0 s1 h = some z) : Ev (d + 6) none mX8_readTable (0, 0) 3 [.ref v0, .ref v1] [.ref s0, .ref s1] h (QZ z) := 
  go_ok (X := none) (blk := wX8_readTable_3) (np := 6) (tt := 0) (kN := fun xs h st => app [2, 2] (fun v0 v1 => apS [1, 1, 2, 2] (fun s0 s1 s2 s3 => fX8_readTable_6 v0 v1 s0 s1 s2 s3 h) st) xs) (kT := fun _ _ _ => none) (kR := kRZ)
    (fun xs h st q => jm [2, 2] _ (fun v0 v1 q => apS_ok [1, 1, 2, 2] _ (fun st => Ev (d + 6) none mX8_readTable (0, 0) 6 [.ref v0, .ref v1] st h (QZ z)) st (fun s0 s1 s2 s3 q => tX8_readTable_6 v0 v1 s0 s1 s2 s3 h q) q) q)
    (fun _ _ _ q => nos q)
    kRZ_ok (Or.inr rfl) (by decide +kernel) (by decide +kernel) hf
theorem kqX8_readTable_1 : ckS mX8_readTable 1 121 6 = true := by decide +kernel -- bowl
def fX8_readTable_1 (v0 : Nat) (v1 : Nat) (s0 : Nat) (h : aH) : Option (Int32 × aH) :=
  fX8_readTable_3 v0 v1 (SB + 6) s0 h
theorem tX8_readTable_1 {d : Nat} {z : Int32 × aH} (v0 : Nat) (v1 : Nat) (s0 : Nat) (h : aH) (hf : fX8_readTable_1 v0 v1 s0 h = some z) : Ev (d + 6) none mX8_readTable (0, 0) 1 [.ref v0, .ref v1] [.ref s0] h (QZ z) := 
  ev_ldcS kqX8_readTable_1 rfl (jm [2, 2] (fun v0 v1 => fX8_readTable_3 v0 v1 (SB + 6) s0 h) (fun v0 v1 q => tX8_readTable_3 v0 v1 (SB + 6) s0 h q) hf)
def wX8_readTable_0 : List En := [(.aload_n 0, 0, 0, 0)]
def fX8_readTable_0 (v0 : Nat) (v1 : Nat) (h : aH) : Option (Int32 × aH) :=
  fX8_readTable_1 v0 v1 v0 h
theorem tX8_readTable_0 {d : Nat} {z : Int32 × aH} (v0 : Nat) (v1 : Nat) (h : aH) (hf : fX8_readTable_0 v0 v1 h = some z) : Ev (d + 6) none mX8_readTable (0, 0) 0 [.ref v0, .ref v1] [] h (QZ z) := 
  go_ok (X := none) (blk := wX8_readTable_0) (np := 1) (tt := 0) (kN := fun xs h st => app [2, 2] (fun v0 v1 => apS [2] (fun s0 => fX8_readTable_1 v0 v1 s0 h) st) xs) (kT := fun _ _ _ => none) (kR := kRZ)
    (fun xs h st q => jm [2, 2] _ (fun v0 v1 q => apS_ok [2] _ (fun st => Ev (d + 6) none mX8_readTable (0, 0) 1 [.ref v0, .ref v1] st h (QZ z)) st (fun s0 q => tX8_readTable_1 v0 v1 s0 h q) q) q)
    (fun _ _ _ q => nos q)
    kRZ_ok (Or.inr rfl) (by decide +kernel) (by decide +kernel) hf
def gX8_readTable (v0 : Nat) (v1 : Nat) (h : aH) : Option (Int32 × aH) := fX8_readTable_0 v0 v1 h
theorem zX8_readTable {d : Nat} {z : Int32 × aH} {v0 : Nat} {v1 : Nat} {h : aH} (q : gX8_readTable v0 v1 h = some z) : CT (d + 6) mX8_readTable (0, 0) [.ref v0, .ref v1] h (QZ z) :=
  ct_ev (by decide +kernel) (Nat.le_of_ble_eq_true rfl) QZ_r (jm [2, 2] (fun v0 v1 => fX8_readTable_0 v0 v1 h) (fun v0 v1 q => tX8_readTable_0 v0 v1 h q) q)
def wX8_readUnsure_86 : List En := [(.iconst 1, 0, 0, 0), (.ireturn, 0, 0, 0)]
def fX8_readUnsure_86 (h : aH) : Option (Int32 × aH) :=
  if (kI 1) = 0 ∨ (kI 1) = 1 then some ((kI 1), h) else none
theorem tX8_readUnsure_86 {d : Nat} {z : Int32 × aH} (h : aH) (hf : fX8_readUnsure_86 h = some z) : Ev (d + 7) none mX8_readUnsure (0, 0) 86 [.null, .null, .null, .null] [] h (QZ z) := 
  go_ok (X := none) (blk := wX8_readUnsure_86) (np := 88) (tt := 0) (kN := fun _ _ _ => none) (kT := fun _ _ _ => none) (kR := kRZ)
    (fun _ _ _ q => nos q)
    (fun _ _ _ q => nos q)
    kRZ_ok (Or.inr rfl) (by decide +kernel) (by decide +kernel) hf
theorem kqX8_readUnsure_83 : okC mX8_readUnsure 83 (.invokevirtual 63) 18 11 0 0 = true := by decide +kernel
def fX8_readUnsure_83 (s0 : Nat) (h : aH) : Option (Int32 × aH) :=
  (isO h 8 s0).bind fun _ =>
  (gX8_step s0 h).bind fun r =>
  fX8_readUnsure_86 r
theorem tX8_readUnsure_83 {d : Nat} {z : Int32 × aH} (s0 : Nat) (h : aH) (hf : fX8_readUnsure_83 s0 h = some z) : Ev (d + 7) none mX8_readUnsure (0, 0) 83 [.null, .null, .null, .null] [.ref s0] h (QZ z) := by
  obtain ⟨_, h1, hf⟩ := bnd hf
  obtain ⟨fs, ho⟩ := isO_ok h1
  obtain ⟨r, h2, hf⟩ := bnd hf
  refine ev_V kqX8_readUnsure_83 jX8_step (zX8_step (d := d + 4) h2) ho rfl rfl (Nat.le_of_ble_eq_true rfl) rfl (as := []) (rest := []) rfl (Nat.le_of_ble_eq_true rfl) (fun _ _ hq => ?_)
  obtain ⟨rfl, hh⟩ := hq
  rw [hh]
  exact jm [0, 0, 0, 0] (fX8_readUnsure_86 r) (fun q => tX8_readUnsure_86 r q) hf
def wX8_readUnsure_49 : List En := [(.aload_n 1, 0, 0, 0), (.getfield 189, 152, 9, 15), (.aload_n 1, 0, 0, 0), (.getfield 115, 123, 9, 6), (.iload_n 3, 0, 0, 0), (.iastore, 0, 0, 0), (.aload_n 1, 0, 0, 0), (.getfield 192, 155, 9, 16), (.aload_n 1, 0, 0, 0), (.getfield 115, 123, 9, 6), (.aload_n 0, 0, 0, 0), (.getfield 127, 16, 8, 13), (.iastore, 0, 0, 0), (.aload_n 1, 0, 0, 0), (.dup, 0, 0, 0), (.getfield 115, 123, 9, 6), (.iconst 1, 0, 0, 0), (.iadd, 0, 0, 0), (.putfield 115, 123, 9, 6), (.aload_n 0, 0, 0, 0)]
def fX8_readUnsure_49 (v0 : Nat) (v1 : Nat) (v3 : Int32) (h : aH) : Option (Int32 × aH) :=
  (gFR h 9 v1 15).bind fun t1 =>
  (gFI h 9 v1 6).bind fun t2 =>
  (aWI h t1 t2 v3).bind fun h3 =>
  (gFR h3 9 v1 16).bind fun t4 =>
  (gFI h3 9 v1 6).bind fun t5 =>
  (gFI h3 8 v0 13).bind fun t6 =>
  (aWI h3 t4 t5 t6).bind fun h7 =>
  (gFI h7 9 v1 6).bind fun t8 =>
  (pWV h7 9 v1 6 (.int (t8 + (kI 1)))).bind fun h9 =>
  fX8_readUnsure_83 v0 h9
theorem tX8_readUnsure_49 {d : Nat} {z : Int32 × aH} (v0 : Nat) (v1 : Nat) (v3 : Int32) (h : aH) (hf : fX8_readUnsure_49 v0 v1 v3 h = some z) : Ev (d + 7) none mX8_readUnsure (0, 0) 49 [.ref v0, .ref v1, .null, .int v3] [] h (QZ z) := 
  go_ok (X := none) (blk := wX8_readUnsure_49) (np := 83) (tt := 0) (kN := fun xs h st => app [0, 0, 0, 0] (apS [2] (fun s0 => fX8_readUnsure_83 s0 h) st) xs) (kT := fun _ _ _ => none) (kR := kRZ)
    (fun xs h st q => jm [0, 0, 0, 0] _ (fun q => apS_ok [2] _ (fun st => Ev (d + 7) none mX8_readUnsure (0, 0) 83 [.null, .null, .null, .null] st h (QZ z)) st (fun s0 q => tX8_readUnsure_83 s0 h q) q) q)
    (fun _ _ _ q => nos q)
    kRZ_ok (Or.inr rfl) (by decide +kernel) (by decide +kernel) hf
def wX8_readUnsure_47 : List En := [(.iconst 0, 0, 0, 0), (.ireturn, 0, 0, 0)]
def fX8_readUnsure_47 (h : aH) : Option (Int32 × aH) :=
  if (kI 0) = 0 ∨ (kI 0) = 1 then some ((kI 0), h) else none
theorem tX8_readUnsure_47 {d : Nat} {z : Int32 × aH} (h : aH) (hf : fX8_readUnsure_47 h = some z) : Ev (d + 7) none mX8_readUnsure (0, 0) 47 [.null, .null, .null, .null] [] h (QZ z) := 
  go_ok (X := none) (blk := wX8_readUnsure_47) (np := 49) (tt := 0) (kN := fun _ _ _ => none) (kT := fun _ _ _ => none) (kR := kRZ)
    (fun _ _ _ q => nos q)
    (fun _ _ _ q => nos q)
    kRZ_ok (Or.inr rfl) (by decide +kernel) (by decide +kernel) hf
def wX8_readUnsure_44 : List En := [(.ifCond .ne 5, 49, 0, 0)]
def fX8_readUnsure_44 (v0 : Nat) (v1 : Nat) (v3 : Int32) (s0 : Int32) (h : aH) : Option (Int32 × aH) :=
  if s0 = 0 then fX8_readUnsure_47 h else fX8_readUnsure_49 v0 v1 v3 h
theorem tX8_readUnsure_44 {d : Nat} {z : Int32 × aH} (v0 : Nat) (v1 : Nat) (v3 : Int32) (s0 : Int32) (h : aH) (hf : fX8_readUnsure_44 v0 v1 v3 s0 h = some z) : Ev (d + 7) none mX8_readUnsure (0, 0) 44 [.ref v0, .ref v1, .null, .int v3] [.int s0] h (QZ z) := 
  go_ok (X := none) (blk := wX8_readUnsure_44) (np := 47) (tt := 49) (kN := fun xs h st => app [0, 0, 0, 0] (apS [] (fX8_readUnsure_47 h) st) xs) (kT := fun xs h st => app [2, 2, 0, 1] (fun v0 v1 v3 => apS [] (fX8_readUnsure_49 v0 v1 v3 h) st) xs) (kR := kRZ)
    (fun xs h st q => jm [0, 0, 0, 0] _ (fun q => apS_ok [] _ (fun st => Ev (d + 7) none mX8_readUnsure (0, 0) 47 [.null, .null, .null, .null] st h (QZ z)) st (fun q => tX8_readUnsure_47 h q) q) q)
    (fun xs h st q => jm [2, 2, 0, 1] _ (fun v0 v1 v3 q => apS_ok [] _ (fun st => Ev (d + 7) none mX8_readUnsure (0, 0) 49 [.ref v0, .ref v1, .null, .int v3] st h (QZ z)) st (fun q => tX8_readUnsure_49 v0 v1 v3 h q) q) q)
    kRZ_ok (Or.inr rfl) (by decide +kernel) (by decide +kernel) hf
theorem kqX8_readUnsure_41 : okC mX8_readUnsure 41 (.invokevirtual 185) 41 25 0 2 = true := by decide +kernel
def fX8_readUnsure_41 (v0 : Nat) (v1 : Nat) (v3 : Int32) (s0 : Int32) (s1 : Int32) (s2 : Nat) (h : aH) : Option (Int32 × aH) :=
  (isO h 8 s2).bind fun _ =>
  (gX8_isWholeWithin s2 s1 s0 h).bind fun r =>
  fX8_readUnsure_44 v0 v1 v3 r.1 r.2
theorem tX8_readUnsure_41 {d : Nat} {z : Int32 × aH} (v0 : Nat) (v1 : Nat) (v3 : Int32) (s0 : Int32) (s1 : Int32) (s2 : Nat) (h : aH) (hf : fX8_readUnsure_41 v0 v1 v3 s0 s1 s2 h = some z) : Ev (d + 7) none mX8_readUnsure (0, 0) 41 [.ref v0, .ref v1, .null, .int v3] [.int s0, .int s1, .ref s2] h (QZ z) := by
  obtain ⟨_, h1, hf⟩ := bnd hf
  obtain ⟨fs, ho⟩ := isO_ok h1
  obtain ⟨r, h2, hf⟩ := bnd hf
  refine ev_V kqX8_readUnsure_41 jX8_isWholeWithin (zX8_isWholeWithin (d := d + 5) h2) ho rfl rfl (Nat.le_of_ble_eq_true rfl) rfl (as := [.int s1, .int s0]) (rest := []) rfl (Nat.le_of_ble_eq_true rfl) (fun _ _ hq => ?_)
  obtain ⟨-, rfl, rfl⟩ := hq
  exact jm [2, 2, 0, 1] (fun v0 v1 v3 => fX8_readUnsure_44 v0 v1 v3 r.1 r.2) (fun v0 v1 v3 q => tX8_readUnsure_44 v0 v1 v3 r.1 r.2 q) hf
def wX8_readUnsure_37 : List En := [(.aload_n 0, 0, 0, 0), (.iconst 0, 0, 0, 0), (.bipush 99, 0, 0, 0)]
def fX8_readUnsure_37 (v0 : Nat) (v1 : Nat) (v3 : Int32) (h : aH) : Option (Int32 × aH) :=
  fX8_readUnsure_41 v0 v1 v3 (kB 99) (kI 0) v0 h
theorem tX8_readUnsure_37 {d : Nat} {z : Int32 × aH} (v0 : Nat) (v1 : Nat) (v3 : Int32) (h : aH) (hf : fX8_readUnsure_37 v0 v1 v3 h = some z) : Ev (d + 7) none mX8_readUnsure (0, 0) 37 [.ref v0, .ref v1, .null, .int v3] [] h (QZ z) := 
  go_ok (X := none) (blk := wX8_readUnsure_37) (np := 41) (tt := 0) (kN := fun xs h st => app [2, 2, 0, 1] (fun v0 v1 v3 => apS [1, 1, 2] (fun s0 s1 s2 => fX8_readUnsure_41 v0 v1 v3 s0 s1 s2 h) st) xs) (kT := fun _ _ _ => none) (kR := kRZ)
    (fun xs h st q => jm [2, 2, 0, 1] _ (fun v0 v1 v3 q => apS_ok [1, 1, 2] _ (fun st => Ev (d + 7) none mX8_readUnsure (0, 0) 41 [.ref v0, .ref v1, .null, .int v3] st h (QZ z)) st (fun s0 s1 s2 q => tX8_readUnsure_41 v0 v1 v3 s0 s1 s2 h q) q) q)
    (fun _ _ _ q => nos q)
    kRZ_ok (Or.inr rfl) (by decide +kernel) (by decide +kernel) hf
theorem kqX8_readUnsure_34 : okC mX8_readUnsure 34 (.invokevirtual 63) 18 11 0 0 = true := by decide +kernel
def fX8_readUnsure_34 (v0 : Nat) (v1 : Nat) (v3 : Int32) (s0 : Nat) (h : aH) : Option (Int32 × aH) :=
  (isO h 8 s0).bind fun _ =>
  (gX8_step s0 h).bind fun r =>
  fX8_readUnsure_37 v0 v1 v3 r
theorem tX8_readUnsure_34 {d : Nat} {z : Int32 × aH} (v0 : Nat) (v1 : Nat) (v3 : Int32) (s0 : Nat) (h : aH) (hf : fX8_readUnsure_34 v0 v1 v3 s0 h = some z) : Ev (d + 7) none mX8_readUnsure (0, 0) 34 [.ref v0, .ref v1, .null, .int v3] [.ref s0] h (QZ z) := by
  obtain ⟨_, h1, hf⟩ := bnd hf
  obtain ⟨fs, ho⟩ := isO_ok h1
  obtain ⟨r, h2, hf⟩ := bnd hf
  refine ev_V kqX8_readUnsure_34 jX8_step (zX8_step (d := d + 4) h2) ho rfl rfl (Nat.le_of_ble_eq_true rfl) rfl (as := []) (rest := []) rfl (Nat.le_of_ble_eq_true rfl) (fun _ _ hq => ?_)
  obtain ⟨rfl, hh⟩ := hq
  rw [hh]
  exact jm [2, 2, 0, 1] (fun v0 v1 v3 => fX8_readUnsure_37 v0 v1 v3 r) (fun v0 v1 v3 q => tX8_readUnsure_37 v0 v1 v3 r q) hf
def wX8_readUnsure_33 : List En := [(.aload_n 0, 0, 0, 0)]
def fX8_readUnsure_33 (v0 : Nat) (v1 : Nat) (v3 : Int32) (h : aH) : Option (Int32 × aH) :=
  fX8_readUnsure_34 v0 v1 v3 v0 h
theorem tX8_readUnsure_33 {d : Nat} {z : Int32 × aH} (v0 : Nat) (v1 : Nat) (v3 : Int32) (h : aH) (hf : fX8_readUnsure_33 v0 v1 v3 h = some z) : Ev (d + 7) none mX8_readUnsure (0, 0) 33 [.ref v0, .ref v1, .null, .int v3] [] h (QZ z) := 
  go_ok (X := none) (blk := wX8_readUnsure_33) (np := 34) (tt := 0) (kN := fun xs h st => app [2, 2, 0, 1] (fun v0 v1 v3 => apS [2] (fun s0 => fX8_readUnsure_34 v0 v1 v3 s0 h) st) xs) (kT := fun _ _ _ => none) (kR := kRZ)
    (fun xs h st q => jm [2, 2, 0, 1] _ (fun v0 v1 v3 q => apS_ok [2] _ (fun st => Ev (d + 7) none mX8_readUnsure (0, 0) 34 [.ref v0, .ref v1, .null, .int v3] st h (QZ z)) st (fun s0 q => tX8_readUnsure_34 v0 v1 v3 s0 h q) q) q)
    (fun _ _ _ q => nos q)
    kRZ_ok (Or.inr rfl) (by decide +kernel) (by decide +kernel) hf
def wX8_readUnsure_32 : List En := [(.ireturn, 0, 0, 0)]
def fX8_readUnsure_32 (s0 : Int32) (h : aH) : Option (Int32 × aH) :=
  if s0 = 0 ∨ s0 = 1 then some (s0, h) else none
theorem tX8_readUnsure_32 {d : Nat} {z : Int32 × aH} (s0 : Int32) (h : aH) (hf : fX8_readUnsure_32 s0 h = some z) : Ev (d + 7) none mX8_readUnsure (0, 0) 32 [.null, .null, .null, .null] [.int s0] h (QZ z) := 
  go_ok (X := none) (blk := wX8_readUnsure_32) (np := 33) (tt := 0) (kN := fun _ _ _ => none) (kT := fun _ _ _ => none) (kR := kRZ)
    (fun _ _ _ q => nos q)
    (fun _ _ _ q => nos q)
    kRZ_ok (Or.inr rfl) (by decide +kernel) (by decide +kernel) hf
theorem kqX8_readUnsure_29 : okC mX8_readUnsure 29 (.invokevirtual 73) 37 21 0 1 = true := by decide +kernel
def fX8_readUnsure_29 (s0 : Int32) (s1 : Nat) (h : aH) : Option (Int32 × aH) :=
  (isO h 8 s1).bind fun _ =>
  (gX8_fail s1 s0 h).bind fun r =>
  fX8_readUnsure_32 r.1 r.2
theorem tX8_readUnsure_29 {d : Nat} {z : Int32 × aH} (s0 : Int32) (s1 : Nat) (h : aH) (hf : fX8_readUnsure_29 s0 s1 h = some z) : Ev (d + 7) none mX8_readUnsure (0, 0) 29 [.null, .null, .null, .null] [.int s0, .ref s1] h (QZ z) := by
  obtain ⟨_, h1, hf⟩ := bnd hf
  obtain ⟨fs, ho⟩ := isO_ok h1
  obtain ⟨r, h2, hf⟩ := bnd hf
  refine ev_V kqX8_readUnsure_29 jX8_fail (zX8_fail (d := d + 6) h2) ho rfl rfl (Nat.le_of_ble_eq_true rfl) rfl (as := [.int s0]) (rest := []) rfl (Nat.le_of_ble_eq_true rfl) (fun _ _ hq => ?_)
  obtain ⟨-, rfl, rfl⟩ := hq
  exact jm [0, 0, 0, 0] (fX8_readUnsure_32 r.1 r.2) (fun q => tX8_readUnsure_32 r.1 r.2 q) hf
def wX8_readUnsure_27 : List En := [(.aload_n 0, 0, 0, 0), (.iconst 3, 0, 0, 0)]
def fX8_readUnsure_27 (v0 : Nat) (h : aH) : Option (Int32 × aH) :=
  fX8_readUnsure_29 (kI 3) v0 h
theorem tX8_readUnsure_27 {d : Nat} {z : Int32 × aH} (v0 : Nat) (h : aH) (hf : fX8_readUnsure_27 v0 h = some z) : Ev (d + 7) none mX8_readUnsure (0, 0) 27 [.ref v0, .null, .null, .null] [] h (QZ z) := 
  go_ok (X := none) (blk := wX8_readUnsure_27) (np := 29) (tt := 0) (kN := fun xs h st => app [0, 0, 0, 0] (apS [1, 2] (fun s0 s1 => fX8_readUnsure_29 s0 s1 h) st) xs) (kT := fun _ _ _ => none) (kR := kRZ)
    (fun xs h st q => jm [0, 0, 0, 0] _ (fun q => apS_ok [1, 2] _ (fun st => Ev (d + 7) none mX8_readUnsure (0, 0) 29 [.null, .null, .null, .null] st h (QZ z)) st (fun s0 s1 q => tX8_readUnsure_29 s0 s1 h q) q) q)
    (fun _ _ _ q => nos q)
    kRZ_ok (Or.inr rfl) (by decide +kernel) (by decide +kernel) hf
def wX8_readUnsure_24 : List En := [(.ifCond .eq 9, 33, 0, 0)]
def fX8_readUnsure_24 (v0 : Nat) (v1 : Nat) (v3 : Int32) (s0 : Int32) (h : aH) : Option (Int32 × aH) :=
  if s0 = 0 then fX8_readUnsure_33 v0 v1 v3 h else fX8_readUnsure_27 v0 h
theorem tX8_readUnsure_24 {d : Nat} {z : Int32 × aH} (v0 : Nat) (v1 : Nat) (v3 : Int32) (s0 : Int32) (h : aH) (hf : fX8_readUnsure_24 v0 v1 v3 s0 h = some z) : Ev (d + 7) none mX8_readUnsure (0, 0) 24 [.ref v0, .ref v1, .null, .int v3] [.int s0] h (QZ z) := 
  go_ok (X := none) (blk := wX8_readUnsure_24) (np := 27) (tt := 33) (kN := fun xs h st => app [2, 0, 0, 0] (fun v0 => apS [] (fX8_readUnsure_27 v0 h) st) xs) (kT := fun xs h st => app [2, 2, 0, 1] (fun v0 v1 v3 => apS [] (fX8_readUnsure_33 v0 v1 v3 h) st) xs) (kR := kRZ)
    (fun xs h st q => jm [2, 0, 0, 0] _ (fun v0 q => apS_ok [] _ (fun st => Ev (d + 7) none mX8_readUnsure (0, 0) 27 [.ref v0, .null, .null, .null] st h (QZ z)) st (fun q => tX8_readUnsure_27 v0 h q) q) q)
    (fun xs h st q => jm [2, 2, 0, 1] _ (fun v0 v1 v3 q => apS_ok [] _ (fun st => Ev (d + 7) none mX8_readUnsure (0, 0) 33 [.ref v0, .ref v1, .null, .int v3] st h (QZ z)) st (fun q => tX8_readUnsure_33 v0 v1 v3 h q) q) q)
    kRZ_ok (Or.inr rfl) (by decide +kernel) (by decide +kernel) hf
theorem kqX8_readUnsure_21 : okC mX8_readUnsure 21 (.invokevirtual 182) 53 37 0 1 = true := by decide +kernel
def fX8_readUnsure_21 (v0 : Nat) (v1 : Nat) (v3 : Int32) (s0 : Int32) (s1 : Nat) (h : aH) : Option (Int32 × aH) :=
  (isO h 9 s1).bind fun _ =>
  (gX9_isUnsure s1 s0 h).bind fun r =>
  fX8_readUnsure_24 v0 v1 v3 r.1 r.2
theorem tX8_readUnsure_21 {d : Nat} {z : Int32 × aH} (v0 : Nat) (v1 : Nat) (v3 : Int32) (s0 : Int32) (s1 : Nat) (h : aH) (hf : fX8_readUnsure_21 v0 v1 v3 s0 s1 h = some z) : Ev (d + 7) none mX8_readUnsure (0, 0) 21 [.ref v0, .ref v1, .null, .int v3] [.int s0, .ref s1] h (QZ z) := by
  obtain ⟨_, h1, hf⟩ := bnd hf
  obtain ⟨fs, ho⟩ := isO_ok h1
  obtain ⟨r, h2, hf⟩ := bnd hf
  refine ev_V kqX8_readUnsure_21 jX9_isUnsure (zX9_isUnsure (d := d + 6) h2) ho rfl rfl (Nat.le_of_ble_eq_true rfl) rfl (as := [.int s0]) (rest := []) rfl (Nat.le_of_ble_eq_true rfl) (fun _ _ hq => ?_)
  obtain ⟨-, rfl, rfl⟩ := hq
  exact jm [2, 2, 0, 1] (fun v0 v1 v3 => fX8_readUnsure_24 v0 v1 v3 r.1 r.2) (fun v0 v1 v3 q => tX8_readUnsure_24 v0 v1 v3 r.1 r.2 q) hf
def wX8_readUnsure_12 : List En := [(.aload_n 0, 0, 0, 0), (.getfield 26, 10, 8, 7), (.iload_n 2, 0, 0, 0), (.iaload, 0, 0, 0), (.istore_n 3, 0, 0, 0), (.aload_n 1, 0, 0, 0), (.iload_n 3, 0, 0, 0)]
def fX8_readUnsure_12 (v0 : Nat) (v1 : Nat) (v2 : Int32) (h : aH) : Option (Int32 × aH) :=
  (gFR h 8 v0 7).bind fun t1 =>
  (aRI (h[t1]?) v2).bind fun t2 =>
  fX8_readUnsure_21 v0 v1 t2 t2 v1 h
theorem tX8_readUnsure_12 {d : Nat} {z : Int32 × aH} (v0 : Nat) (v1 : Nat) (v2 : Int32) (h : aH) (hf : fX8_readUnsure_12 v0 v1 v2 h = some z) : Ev (d + 7) none mX8_readUnsure (0, 0) 12 [.ref v0, .ref v1, .int v2, .null] [] h (QZ z) := 
  go_ok (X := none) (blk := wX8_readUnsure_12) (np := 21) (tt := 0) (kN := fun xs h st => app [2, 2, 0, 1] (fun v0 v1 v3 => apS [1, 2] (fun s0 s1 => fX8_readUnsure_21 v0 v1 v3 s0 s1 h) st) xs) (kT := fun _ _ _ => none) (kR := kRZ)
    (fun xs h st q => jm [2, 2, 0, 1] _ (fun v0 v1 v3 q => apS_ok [1, 2] _ (fun st => Ev (d + 7) none mX8_readUnsure (0, 0) 21 [.ref v0, .ref v1, .null, .int v3] st h (QZ z)) st (fun s0 s1 q => tX8_readUnsure_21 v0 v1 v3 s0 s1 h q) q) q)
    (fun _ _ _ q => nos q)
    kRZ_ok (Or.inr rfl) (by decide +kernel) (by decide +kernel) hf
def wX8_readUnsure_10 : List En := [(.iconst 0, 0, 0, 0), (.ireturn, 0, 0, 0)]
def fX8_readUnsure_10 (h : aH) : Option (Int32 × aH) :=
  if (kI 0) = 0 ∨ (kI 0) = 1 then some ((kI 0), h) else none
theorem tX8_readUnsure_10 {d : Nat} {z : Int32 × aH} (h : aH) (hf : fX8_readUnsure_10 h = some z) : Ev (d + 7) none mX8_readUnsure (0, 0) 10 [.null, .null, .null, .null] [] h (QZ z) := 
  go_ok (X := none) (blk := wX8_readUnsure_10) (np := 12) (tt := 0) (kN := fun _ _ _ => none) (kT := fun _ _ _ => none) (kR := kRZ)
    (fun _ _ _ q => nos q)
    (fun _ _ _ q => nos q)
    kRZ_ok (Or.inr rfl) (by decide +kernel) (by decide +kernel) hf
def wX8_readUnsure_5 : List En := [(.istore_n 2, 0, 0, 0), (.iload_n 2, 0, 0, 0), (.ifCond .ge 5, 12, 0, 0)]
def fX8_readUnsure_5 (v0 : Nat) (v1 : Nat) (s0 : Int32) (h : aH) : Option (Int32 × aH) :=
  if s0 < 0 then fX8_readUnsure_10 h else fX8_readUnsure_12 v0 v1 s0 h
theorem tX8_readUnsure_5 {d : Nat} {z : Int32 × aH} (v0 : Nat) (v1 : Nat) (s0 : Int32) (h : aH) (hf : fX8_readUnsure_5 v0 v1 s0 h = some z) : Ev (d + 7) none mX8_readUnsure (0, 0) 5 [.ref v0, .ref v1, .null, .null] [.int s0] h (QZ z) := 
  go_ok (X := none) (blk := wX8_readUnsure_5) (np := 10) (tt := 12) (kN := fun xs h st => app [0, 0, 0, 0] (apS [] (fX8_readUnsure_10 h) st) xs) (kT := fun xs h st => app [2, 2, 1, 0] (fun v0 v1 v2 => apS [] (fX8_readUnsure_12 v0 v1 v2 h) st) xs) (kR := kRZ)
    (fun xs h st q => jm [0, 0, 0, 0] _ (fun q => apS_ok [] _ (fun st => Ev (d + 7) none mX8_readUnsure (0, 0) 10 [.null, .null, .null, .null] st h (QZ z)) st (fun q => tX8_readUnsure_10 h q) q) q)
    (fun xs h st q => jm [2, 2, 1, 0] _ (fun v0 v1 v2 q => apS_ok [] _ (fun st => Ev (d + 7) none mX8_readUnsure (0, 0) 12 [.ref v0, .ref v1, .int v2, .null] st h (QZ z)) st (fun q => tX8_readUnsure_12 v0 v1 v2 h q) q) q)
    kRZ_ok (Or.inr rfl) (by decide +kernel) (by decide +kernel) hf
theorem kqX8_readUnsure_2 : okC mX8_readUnsure 2 (.invokevirtual 166) 50 34 0 1 = true := by decide +kernel
def fX8_readUnsure_2 (v0 : Nat) (v1 : Nat) (s0 : Int32) (s1 : Nat) (h : aH) : Option (Int32 × aH) :=
  (isO h 8 s1).bind fun _ =>
  (gX8_toldNameHere s1 s0 h).bind fun r =>
  fX8_readUnsure_5 v0 v1 r.1 r.2
theorem tX8_readUnsure_2 {d : Nat} {z : Int32 × aH} (v0 : Nat) (v1 : Nat) (s0 : Int32) (s1 : Nat) (h : aH) (hf : fX8_readUnsure_2 v0 v1 s0 s1 h = some z) : Ev (d + 7) none mX8_readUnsure (0, 0) 2 [.ref v0, .ref v1, .null, .null] [.int s0, .ref s1] h (QZ z) := by
  obtain ⟨_, h1, hf⟩ := bnd hf
  obtain ⟨fs, ho⟩ := isO_ok h1
  obtain ⟨r, h2, hf⟩ := bnd hf
  refine ev_V kqX8_readUnsure_2 jX8_toldNameHere (zX8_toldNameHere (d := d + 0) h2) ho rfl rfl (Nat.le_of_ble_eq_true rfl) rfl (as := [.int s0]) (rest := []) rfl (Nat.le_of_ble_eq_true rfl) (fun _ _ hq => ?_)
  obtain ⟨rfl, rfl⟩ := hq
  exact jm [2, 2, 0, 0] (fun v0 v1 => fX8_readUnsure_5 v0 v1 r.1 r.2) (fun v0 v1 q => tX8_readUnsure_5 v0 v1 r.1 r.2 q) hf
def wX8_readUnsure_0 : List En := [(.aload_n 0, 0, 0, 0), (.iconst 1, 0, 0, 0)]
def fX8_readUnsure_0 (v0 : Nat) (v1 : Nat) (h : aH) : Option (Int32 × aH) :=
  fX8_readUnsure_2 v0 v1 (kI 1) v0 h
theorem tX8_readUnsure_0 {d : Nat} {z : Int32 × aH} (v0 : Nat) (v1 : Nat) (h : aH) (hf : fX8_readUnsure_0 v0 v1 h = some z) : Ev (d + 7) none mX8_readUnsure (0, 0) 0 [.ref v0, .ref v1, .null, .null] [] h (QZ z) := 
  go_ok (X := none) (blk := wX8_readUnsure_0) (np := 2) (tt := 0) (kN := fun xs h st => app [2, 2, 0, 0] (fun v0 v1 => apS [1, 2] (fun s0 s1 => fX8_readUnsure_2 v0 v1 s0 s1 h) st) xs) (kT := fun _ _ _ => none) (kR := kRZ)
    (fun xs h st q => jm [2, 2, 0, 0] _ (fun v0 v1 q => apS_ok [1, 2] _ (fun st => Ev (d + 7) none mX8_readUnsure (0, 0) 2 [.ref v0, .ref v1, .null, .null] st h (QZ z)) st (fun s0 s1 q => tX8_readUnsure_2 v0 v1 s0 s1 h q) q) q)
    (fun _ _ _ q => nos q)
    kRZ_ok (Or.inr rfl) (by decide +kernel) (by decide +kernel) hf
def gX8_readUnsure (v0 : Nat) (v1 : Nat) (h : aH) : Option (Int32 × aH) := fX8_readUnsure_0 v0 v1 h
theorem zX8_readUnsure {d : Nat} {z : Int32 × aH} {v0 : Nat} {v1 : Nat} {h : aH} (q : gX8_readUnsure v0 v1 h = some z) : CT (d + 7) mX8_readUnsure (0, 0) [.ref v0, .ref v1] h (QZ z) :=
  ct_ev (by decide +kernel) (Nat.le_of_ble_eq_true rfl) QZ_r (jm [2, 2, 0, 0] (fun v0 v1 => fX8_readUnsure_0 v0 v1 h) (fun v0 v1 q => tX8_readUnsure_0 v0 v1 h q) q)
def wX8_readLine_139 : List En := [(.ireturn, 0, 0, 0)]
def fX8_readLine_139 (s0 : Int32) (h : aH) : Option (Int32 × aH) :=
  if s0 = 0 ∨ s0 = 1 then some (s0, h) else none
theorem tX8_readLine_139 {d : Nat} {z : Int32 × aH} (s0 : Int32) (h : aH) (hf : fX8_readLine_139 s0 h = some z) : Ev (d + 8) none mX8_readLine (0, 0) 139 [.null, .null, .null] [.int s0] h (QZ z) := 
  go_ok (X := none) (blk := wX8_readLine_139) (np := 140) (tt := 0) (kN := fun _ _ _ => none) (kT := fun _ _ _ => none) (kR := kRZ)
    (fun _ _ _ q => nos q)
    (fun _ _ _ q => nos q)
    kRZ_ok (Or.inr rfl) (by decide +kernel) (by decide +kernel) hf
theorem kqX8_readLine_136 : okC mX8_readLine 136 (.invokevirtual 106) 54 38 0 1 = true := by decide +kernel
def fX8_readLine_136 (s0 : Nat) (s1 : Nat) (h : aH) : Option (Int32 × aH) :=
  (isO h 8 s1).bind fun _ =>
  (gX8_readHeard s1 s0 h).bind fun r =>
  fX8_readLine_139 r.1 r.2
theorem tX8_readLine_136 {d : Nat} {z : Int32 × aH} (s0 : Nat) (s1 : Nat) (h : aH) (hf : fX8_readLine_136 s0 s1 h = some z) : Ev (d + 8) none mX8_readLine (0, 0) 136 [.null, .null, .null] [.ref s0, .ref s1] h (QZ z) := by
  obtain ⟨_, h1, hf⟩ := bnd hf
  obtain ⟨fs, ho⟩ := isO_ok h1
  obtain ⟨r, h2, hf⟩ := bnd hf
  refine ev_V kqX8_readLine_136 jX8_readHeard (zX8_readHeard (d := d + 0) h2) ho rfl rfl (Nat.le_of_ble_eq_true rfl) rfl (as := [.ref s0]) (rest := []) rfl (Nat.le_of_ble_eq_true rfl) (fun _ _ hq => ?_)
  obtain ⟨-, rfl, rfl⟩ := hq
  exact jm [0, 0, 0] (fX8_readLine_139 r.1 r.2) (fun q => tX8_readLine_139 r.1 r.2 q) hf
def wX8_readLine_134 : List En := [(.aload_n 0, 0, 0, 0), (.aload_n 1, 0, 0, 0)]
def fX8_readLine_134 (v0 : Nat) (v1 : Nat) (h : aH) : Option (Int32 × aH) :=
  fX8_readLine_136 v1 v0 h
theorem tX8_readLine_134 {d : Nat} {z : Int32 × aH} (v0 : Nat) (v1 : Nat) (h : aH) (hf : fX8_readLine_134 v0 v1 h = some z) : Ev (d + 8) none mX8_readLine (0, 0) 134 [.ref v0, .ref v1, .null] [] h (QZ z) := 
  go_ok (X := none) (blk := wX8_readLine_134) (np := 136) (tt := 0) (kN := fun xs h st => app [0, 0, 0] (apS [2, 2] (fun s0 s1 => fX8_readLine_136 s0 s1 h) st) xs) (kT := fun _ _ _ => none) (kR := kRZ)
    (fun xs h st q => jm [0, 0, 0] _ (fun q => apS_ok [2, 2] _ (fun st => Ev (d + 8) none mX8_readLine (0, 0) 136 [.null, .null, .null] st h (QZ z)) st (fun s0 s1 q => tX8_readLine_136 s0 s1 h q) q) q)
    (fun _ _ _ q => nos q)
    kRZ_ok (Or.inr rfl) (by decide +kernel) (by decide +kernel) hf
def wX8_readLine_109 : List En := [(.ireturn, 0, 0, 0)]
def fX8_readLine_109 (s0 : Int32) (h : aH) : Option (Int32 × aH) :=
  if s0 = 0 ∨ s0 = 1 then some (s0, h) else none
theorem tX8_readLine_109 {d : Nat} {z : Int32 × aH} (s0 : Int32) (h : aH) (hf : fX8_readLine_109 s0 h = some z) : Ev (d + 8) none mX8_readLine (0, 0) 109 [.null, .null, .null] [.int s0] h (QZ z) := 
  go_ok (X := none) (blk := wX8_readLine_109) (np := 110) (tt := 0) (kN := fun _ _ _ => none) (kT := fun _ _ _ => none) (kR := kRZ)
    (fun _ _ _ q => nos q)
    (fun _ _ _ q => nos q)
    kRZ_ok (Or.inr rfl) (by decide +kernel) (by decide +kernel) hf
theorem kqX8_readLine_106 : okC mX8_readLine 106 (.invokevirtual 91) 39 23 0 1 = true := by decide +kernel
def fX8_readLine_106 (s0 : Nat) (s1 : Nat) (h : aH) : Option (Int32 × aH) :=
  (isO h 8 s1).bind fun _ =>
  (gX8_readTable s1 s0 h).bind fun r =>
  fX8_readLine_109 r.1 r.2
theorem tX8_readLine_106 {d : Nat} {z : Int32 × aH} (s0 : Nat) (s1 : Nat) (h : aH) (hf : fX8_readLine_106 s0 s1 h = some z) : Ev (d + 8) none mX8_readLine (0, 0) 106 [.null, .null, .null] [.ref s0, .ref s1] h (QZ z) := by
  obtain ⟨_, h1, hf⟩ := bnd hf
  obtain ⟨fs, ho⟩ := isO_ok h1
  obtain ⟨r, h2, hf⟩ := bnd hf
  refine ev_V kqX8_readLine_106 jX8_readTable (zX8_readTable (d := d + 1) h2) ho rfl rfl (Nat.le_of_ble_eq_true rfl) rfl (as := [.ref s0]) (rest := []) rfl (Nat.le_of_ble_eq_true rfl) (fun _ _ hq => ?_)
  obtain ⟨-, rfl, rfl⟩ := hq
  exact jm [0, 0, 0] (fX8_readLine_109 r.1 r.2) (fun q => tX8_readLine_109 r.1 r.2 q) hf
def wX8_readLine_104 : List En := [(.aload_n 0, 0, 0, 0), (.aload_n 1, 0, 0, 0)]
def fX8_readLine_104 (v0 : Nat) (v1 : Nat) (h : aH) : Option (Int32 × aH) :=
  fX8_readLine_106 v1 v0 h
theorem tX8_readLine_104 {d : Nat} {z : Int32 × aH} (v0 : Nat) (v1 : Nat) (h : aH) (hf : fX8_readLine_104 v0 v1 h = some z) : Ev (d + 8) none mX8_readLine (0, 0) 104 [.ref v0, .ref v1, .null] [] h (QZ z) := 
  go_ok (X := none) (blk := wX8_readLine_104) (np := 106) (tt := 0) (kN := fun xs h st => app [0, 0, 0] (apS [2, 2] (fun s0 s1 => fX8_readLine_106 s0 s1 h) st) xs) (kT := fun _ _ _ => none) (kR := kRZ)
    (fun xs h st q => jm [0, 0, 0] _ (fun q => apS_ok [2, 2] _ (fun st => Ev (d + 8) none mX8_readLine (0, 0) 106 [.null, .null, .null] st h (QZ z)) st (fun s0 s1 q => tX8_readLine_106 s0 s1 h q) q) q)
    (fun _ _ _ q => nos q)
    kRZ_ok (Or.inr rfl) (by decide +kernel) (by decide +kernel) hf
def wX8_readLine_115 : List En := [(.ireturn, 0, 0, 0)]
def fX8_readLine_115 (s0 : Int32) (h : aH) : Option (Int32 × aH) :=
  if s0 = 0 ∨ s0 = 1 then some (s0, h) else none
theorem tX8_readLine_115 {d : Nat} {z : Int32 × aH} (s0 : Int32) (h : aH) (hf : fX8_readLine_115 s0 h = some z) : Ev (d + 8) none mX8_readLine (0, 0) 115 [.null, .null, .null] [.int s0] h (QZ z) := 
  go_ok (X := none) (blk := wX8_readLine_115) (np := 116) (tt := 0) (kN := fun _ _ _ => none) (kT := fun _ _ _ => none) (kR := kRZ)
    (fun _ _ _ q => nos q)
    (fun _ _ _ q => nos q)
    kRZ_ok (Or.inr rfl) (by decide +kernel) (by decide +kernel) hf
theorem kqX8_readLine_112 : okC mX8_readLine 112 (.invokevirtual 94) 42 26 0 1 = true := by decide +kernel
def fX8_readLine_112 (s0 : Nat) (s1 : Nat) (h : aH) : Option (Int32 × aH) :=
  (isO h 8 s1).bind fun _ =>
  (gX8_readPerson s1 s0 h).bind fun r =>
  fX8_readLine_115 r.1 r.2
theorem tX8_readLine_112 {d : Nat} {z : Int32 × aH} (s0 : Nat) (s1 : Nat) (h : aH) (hf : fX8_readLine_112 s0 s1 h = some z) : Ev (d + 8) none mX8_readLine (0, 0) 112 [.null, .null, .null] [.ref s0, .ref s1] h (QZ z) := by
  obtain ⟨_, h1, hf⟩ := bnd hf
  obtain ⟨fs, ho⟩ := isO_ok h1
  obtain ⟨r, h2, hf⟩ := bnd hf
  refine ev_V kqX8_readLine_112 jX8_readPerson (zX8_readPerson (d := d + 0) h2) ho rfl rfl (Nat.le_of_ble_eq_true rfl) rfl (as := [.ref s0]) (rest := []) rfl (Nat.le_of_ble_eq_true rfl) (fun _ _ hq => ?_)
  obtain ⟨-, rfl, rfl⟩ := hq
  exact jm [0, 0, 0] (fX8_readLine_115 r.1 r.2) (fun q => tX8_readLine_115 r.1 r.2 q) hf
def wX8_readLine_110 : List En := [(.aload_n 0, 0, 0, 0), (.aload_n 1, 0, 0, 0)]
def fX8_readLine_110 (v0 : Nat) (v1 : Nat) (h : aH) : Option (Int32 × aH) :=
  fX8_readLine_112 v1 v0 h
theorem tX8_readLine_110 {d : Nat} {z : Int32 × aH} (v0 : Nat) (v1 : Nat) (h : aH) (hf : fX8_readLine_110 v0 v1 h = some z) : Ev (d + 8) none mX8_readLine (0, 0) 110 [.ref v0, .ref v1, .null] [] h (QZ z) := 
  go_ok (X := none) (blk := wX8_readLine_110) (np := 112) (tt := 0) (kN := fun xs h st => app [0, 0, 0] (apS [2, 2] (fun s0 s1 => fX8_readLine_112 s0 s1 h) st) xs) (kT := fun _ _ _ => none) (kR := kRZ)
    (fun xs h st q => jm [0, 0, 0] _ (fun q => apS_ok [2, 2] _ (fun st => Ev (d + 8) none mX8_readLine (0, 0) 112 [.null, .null, .null] st h (QZ z)) st (fun s0 s1 q => tX8_readLine_112 s0 s1 h q) q) q)
    (fun _ _ _ q => nos q)
    kRZ_ok (Or.inr rfl) (by decide +kernel) (by decide +kernel) hf
def wX8_readLine_121 : List En := [(.ireturn, 0, 0, 0)]
def fX8_readLine_121 (s0 : Int32) (h : aH) : Option (Int32 × aH) :=
  if s0 = 0 ∨ s0 = 1 then some (s0, h) else none
theorem tX8_readLine_121 {d : Nat} {z : Int32 × aH} (s0 : Int32) (h : aH) (hf : fX8_readLine_121 s0 h = some z) : Ev (d + 8) none mX8_readLine (0, 0) 121 [.null, .null, .null] [.int s0] h (QZ z) := 
  go_ok (X := none) (blk := wX8_readLine_121) (np := 122) (tt := 0) (kN := fun _ _ _ => none) (kT := fun _ _ _ => none) (kR := kRZ)
    (fun _ _ _ q => nos q)
    (fun _ _ _ q => nos q)
    kRZ_ok (Or.inr rfl) (by decide +kernel) (by decide +kernel) hf
theorem kqX8_readLine_118 : okC mX8_readLine 118 (.invokevirtual 97) 47 31 0 1 = true := by decide +kernel
def fX8_readLine_118 (s0 : Nat) (s1 : Nat) (h : aH) : Option (Int32 × aH) :=
  (isO h 8 s1).bind fun _ =>
  (gX8_readName s1 s0 h).bind fun r =>
  fX8_readLine_121 r.1 r.2
theorem tX8_readLine_118 {d : Nat} {z : Int32 × aH} (s0 : Nat) (s1 : Nat) (h : aH) (hf : fX8_readLine_118 s0 s1 h = some z) : Ev (d + 8) none mX8_readLine (0, 0) 118 [.null, .null, .null] [.ref s0, .ref s1] h (QZ z) := by
  obtain ⟨_, h1, hf⟩ := bnd hf
  obtain ⟨fs, ho⟩ := isO_ok h1
  obtain ⟨r, h2, hf⟩ := bnd hf
  refine ev_V kqX8_readLine_118 jX8_readName (zX8_readName (d := d + 0) h2) ho rfl rfl (Nat.le_of_ble_eq_true rfl) rfl (as := [.ref s0]) (rest := []) rfl (Nat.le_of_ble_eq_true rfl) (fun _ _ hq => ?_)
  obtain ⟨-, rfl, rfl⟩ := hq
  exact jm [0, 0, 0] (fX8_readLine_121 r.1 r.2) (fun q => tX8_readLine_121 r.1 r.2 q) hf
def wX8_readLine_116 : List En := [(.aload_n 0, 0, 0, 0), (.aload_n 1, 0, 0, 0)]
def fX8_readLine_116 (v0 : Nat) (v1 : Nat) (h : aH) : Option (Int32 × aH) :=
  fX8_readLine_118 v1 v0 h
theorem tX8_readLine_116 {d : Nat} {z : Int32 × aH} (v0 : Nat) (v1 : Nat) (h : aH) (hf : fX8_readLine_116 v0 v1 h = some z) : Ev (d + 8) none mX8_readLine (0, 0) 116 [.ref v0, .ref v1, .null] [] h (QZ z) := 
  go_ok (X := none) (blk := wX8_readLine_116) (np := 118) (tt := 0) (kN := fun xs h st => app [0, 0, 0] (apS [2, 2] (fun s0 s1 => fX8_readLine_118 s0 s1 h) st) xs) (kT := fun _ _ _ => none) (kR := kRZ)
    (fun xs h st q => jm [0, 0, 0] _ (fun q => apS_ok [2, 2] _ (fun st => Ev (d + 8) none mX8_readLine (0, 0) 118 [.null, .null, .null] st h (QZ z)) st (fun s0 s1 q => tX8_readLine_118 s0 s1 h q) q) q)
    (fun _ _ _ q => nos q)
    kRZ_ok (Or.inr rfl) (by decide +kernel) (by decide +kernel) hf
def wX8_readLine_127 : List En := [(.ireturn, 0, 0, 0)]
def fX8_readLine_127 (s0 : Int32) (h : aH) : Option (Int32 × aH) :=
  if s0 = 0 ∨ s0 = 1 then some (s0, h) else none
theorem tX8_readLine_127 {d : Nat} {z : Int32 × aH} (s0 : Int32) (h : aH) (hf : fX8_readLine_127 s0 h = some z) : Ev (d + 8) none mX8_readLine (0, 0) 127 [.null, .null, .null] [.int s0] h (QZ z) := 
  go_ok (X := none) (blk := wX8_readLine_127) (np := 128) (tt := 0) (kN := fun _ _ _ => none) (kT := fun _ _ _ => none) (kR := kRZ)
    (fun _ _ _ q => nos q)
    (fun _ _ _ q => nos q)
    kRZ_ok (Or.inr rfl) (by decide +kernel) (by decide +kernel) hf
theorem kqX8_readLine_124 : okC mX8_readLine 124 (.invokevirtual 100) 49 33 0 1 = true := by decide +kernel
def fX8_readLine_124 (s0 : Nat) (s1 : Nat) (h : aH) : Option (Int32 × aH) :=
  (isO h 8 s1).bind fun _ =>
  (gX8_readFast s1 s0 h).bind fun r =>
  fX8_readLine_127 r.1 r.2
theorem tX8_readLine_124 {d : Nat} {z : Int32 × aH} (s0 : Nat) (s1 : Nat) (h : aH) (hf : fX8_readLine_124 s0 s1 h = some z) : Ev (d + 8) none mX8_readLine (0, 0) 124 [.null, .null, .null] [.ref s0, .ref s1] h (QZ z) := by
  obtain ⟨_, h1, hf⟩ := bnd hf
  obtain ⟨fs, ho⟩ := isO_ok h1
  obtain ⟨r, h2, hf⟩ := bnd hf
  refine ev_V kqX8_readLine_124 jX8_readFast (zX8_readFast (d := d + 0) h2) ho rfl rfl (Nat.le_of_ble_eq_true rfl) rfl (as := [.ref s0]) (rest := []) rfl (Nat.le_of_ble_eq_true rfl) (fun _ _ hq => ?_)
  obtain ⟨-, rfl, rfl⟩ := hq
  exact jm [0, 0, 0] (fX8_readLine_127 r.1 r.2) (fun q => tX8_readLine_127 r.1 r.2 q) hf
def wX8_readLine_122 : List En := [(.aload_n 0, 0, 0, 0), (.aload_n 1, 0, 0, 0)]
def fX8_readLine_122 (v0 : Nat) (v1 : Nat) (h : aH) : Option (Int32 × aH) :=
  fX8_readLine_124 v1 v0 h
theorem tX8_readLine_122 {d : Nat} {z : Int32 × aH} (v0 : Nat) (v1 : Nat) (h : aH) (hf : fX8_readLine_122 v0 v1 h = some z) : Ev (d + 8) none mX8_readLine (0, 0) 122 [.ref v0, .ref v1, .null] [] h (QZ z) := 
  go_ok (X := none) (blk := wX8_readLine_122) (np := 124) (tt := 0) (kN := fun xs h st => app [0, 0, 0] (apS [2, 2] (fun s0 s1 => fX8_readLine_124 s0 s1 h) st) xs) (kT := fun _ _ _ => none) (kR := kRZ)
    (fun xs h st q => jm [0, 0, 0] _ (fun q => apS_ok [2, 2] _ (fun st => Ev (d + 8) none mX8_readLine (0, 0) 124 [.null, .null, .null] st h (QZ z)) st (fun s0 s1 q => tX8_readLine_124 s0 s1 h q) q) q)
    (fun _ _ _ q => nos q)
    kRZ_ok (Or.inr rfl) (by decide +kernel) (by decide +kernel) hf
def wX8_readLine_133 : List En := [(.ireturn, 0, 0, 0)]
def fX8_readLine_133 (s0 : Int32) (h : aH) : Option (Int32 × aH) :=
  if s0 = 0 ∨ s0 = 1 then some (s0, h) else none
theorem tX8_readLine_133 {d : Nat} {z : Int32 × aH} (s0 : Int32) (h : aH) (hf : fX8_readLine_133 s0 h = some z) : Ev (d + 8) none mX8_readLine (0, 0) 133 [.null, .null, .null] [.int s0] h (QZ z) := 
  go_ok (X := none) (blk := wX8_readLine_133) (np := 134) (tt := 0) (kN := fun _ _ _ => none) (kT := fun _ _ _ => none) (kR := kRZ)
    (fun _ _ _ q => nos q)
    (fun _ _ _ q => nos q)
    kRZ_ok (Or.inr rfl) (by decide +kernel) (by decide +kernel) hf
theorem kqX8_readLine_130 : okC mX8_readLine 130 (.invokevirtual 103) 52 36 0 1 = true := by decide +kernel
def fX8_readLine_130 (s0 : Nat) (s1 : Nat) (h : aH) : Option (Int32 × aH) :=
  (isO h 8 s1).bind fun _ =>
  (gX8_readUnsure s1 s0 h).bind fun r =>
  fX8_readLine_133 r.1 r.2
theorem tX8_readLine_130 {d : Nat} {z : Int32 × aH} (s0 : Nat) (s1 : Nat) (h : aH) (hf : fX8_readLine_130 s0 s1 h = some z) : Ev (d + 8) none mX8_readLine (0, 0) 130 [.null, .null, .null] [.ref s0, .ref s1] h (QZ z) := by
  obtain ⟨_, h1, hf⟩ := bnd hf
  obtain ⟨fs, ho⟩ := isO_ok h1
  obtain ⟨r, h2, hf⟩ := bnd hf
  refine ev_V kqX8_readLine_130 jX8_readUnsure (zX8_readUnsure (d := d + 0) h2) ho rfl rfl (Nat.le_of_ble_eq_true rfl) rfl (as := [.ref s0]) (rest := []) rfl (Nat.le_of_ble_eq_true rfl) (fun _ _ hq => ?_)
  obtain ⟨-, rfl, rfl⟩ := hq
  exact jm [0, 0, 0] (fX8_readLine_133 r.1 r.2) (fun q => tX8_readLine_133 r.1 r.2 q) hf
def wX8_readLine_128 : List En := [(.aload_n 0, 0, 0, 0), (.aload_n 1, 0, 0, 0)]
def fX8_readLine_128 (v0 : Nat) (v1 : Nat) (h : aH) : Option (Int32 × aH) :=
  fX8_readLine_130 v1 v0 h
theorem tX8_readLine_128 {d : Nat} {z : Int32 × aH} (v0 : Nat) (v1 : Nat) (h : aH) (hf : fX8_readLine_128 v0 v1 h = some z) : Ev (d + 8) none mX8_readLine (0, 0) 128 [.ref v0, .ref v1, .null] [] h (QZ z) := 
  go_ok (X := none) (blk := wX8_readLine_128) (np := 130) (tt := 0) (kN := fun xs h st => app [0, 0, 0] (apS [2, 2] (fun s0 s1 => fX8_readLine_130 s0 s1 h) st) xs) (kT := fun _ _ _ => none) (kR := kRZ)
    (fun xs h st q => jm [0, 0, 0] _ (fun q => apS_ok [2, 2] _ (fun st => Ev (d + 8) none mX8_readLine (0, 0) 130 [.null, .null, .null] st h (QZ z)) st (fun s0 s1 q => tX8_readLine_130 s0 s1 h q) q) q)
    (fun _ _ _ q => nos q)
    kRZ_ok (Or.inr rfl) (by decide +kernel) (by decide +kernel) hf
theorem kdX8_readLine_69 : decode mX8_readLine.2.2.1 69 = .ok (.tableswitch 65 0 4 #[35, 41, 47, 53, 59], 35) := by decide +kernel
def fX8_readLine_69 (v0 : Nat) (v1 : Nat) (s0 : Int32) (h : aH) : Option (Int32 × aH) :=
  if s0 = kI 0 then fX8_readLine_104 v0 v1 h else
  if s0 = kI 1 then fX8_readLine_110 v0 v1 h else
  if s0 = kI 2 then fX8_readLine_116 v0 v1 h else
  if s0 = kI 3 then fX8_readLine_122 v0 v1 h else
  if s0 = kI 4 then fX8_readLine_128 v0 v1 h else
  fX8_readLine_134 v0 v1 h
theorem tX8_readLine_69 {d : Nat} {z : Int32 × aH} (v0 : Nat) (v1 : Nat) (s0 : Int32) (h : aH) (hf : fX8_readLine_69 v0 v1 s0 h = some z) : Ev (d + 8) none mX8_readLine (0, 0) 69 [.ref v0, .ref v1, .null] [.int s0] h (QZ z) := by
  unfold fX8_readLine_69 at hf
  by_cases c0 : s0 = kI 0
  · rw [if_pos c0] at hf
    subst c0
    exact ev_tsI kdX8_readLine_69 (by decide) rfl rfl (jm [2, 2, 0] (fun v0 v1 => fX8_readLine_104 v0 v1 h) (fun v0 v1 q => tX8_readLine_104 v0 v1 h q) hf)
  rw [if_neg c0] at hf
  by_cases c1 : s0 = kI 1
  · rw [if_pos c1] at hf
    subst c1
    exact ev_tsI kdX8_readLine_69 (by decide) rfl rfl (jm [2, 2, 0] (fun v0 v1 => fX8_readLine_110 v0 v1 h) (fun v0 v1 q => tX8_readLine_110 v0 v1 h q) hf)
  rw [if_neg c1] at hf
  by_cases c2 : s0 = kI 2
  · rw [if_pos c2] at hf
    subst c2
    exact ev_tsI kdX8_readLine_69 (by decide) rfl rfl (jm [2, 2, 0] (fun v0 v1 => fX8_readLine_116 v0 v1 h) (fun v0 v1 q => tX8_readLine_116 v0 v1 h q) hf)
  rw [if_neg c2] at hf
  by_cases c3 : s0 = kI 3
  · rw [if_pos c3] at hf
    subst c3
    exact ev_tsI kdX8_readLine_69 (by decide) rfl rfl (jm [2, 2, 0] (fun v0 v1 => fX8_readLine_122 v0 v1 h) (fun v0 v1 q => tX8_readLine_122 v0 v1 h q) hf)
  rw [if_neg c3] at hf
  by_cases c4 : s0 = kI 4
  · rw [if_pos c4] at hf
    subst c4
    exact ev_tsI kdX8_readLine_69 (by decide) rfl rfl (jm [2, 2, 0] (fun v0 v1 => fX8_readLine_128 v0 v1 h) (fun v0 v1 q => tX8_readLine_128 v0 v1 h q) hf)
  rw [if_neg c4] at hf
  exact ev_tsO kdX8_readLine_69 (ts_out (fun n h1 h2 => by
    have hn : n = 0 ∨ n = 1 ∨ n = 2 ∨ n = 3 ∨ n = 4 := by omega
    rcases hn with rfl | rfl | rfl | rfl | rfl <;> assumption)) rfl (jm [2, 2, 0] (fun v0 v1 => fX8_readLine_134 v0 v1 h) (fun v0 v1 q => tX8_readLine_134 v0 v1 h q) hf)
def wX8_readLine_68 : List En := [(.iload_n 2, 0, 0, 0)]
def fX8_readLine_68 (v0 : Nat) (v1 : Nat) (v2 : Int32) (h : aH) : Option (Int32 × aH) :=
  fX8_readLine_69 v0 v1 v2 h
theorem tX8_readLine_68 {d : Nat} {z : Int32 × aH} (v0 : Nat) (v1 : Nat) (v2 : Int32) (h : aH) (hf : fX8_readLine_68 v0 v1 v2 h = some z) : Ev (d + 8) none mX8_readLine (0, 0) 68 [.ref v0, .ref v1, .int v2] [] h (QZ z) := 
  go_ok (X := none) (blk := wX8_readLine_68) (np := 69) (tt := 0) (kN := fun xs h st => app [2, 2, 0] (fun v0 v1 => apS [1] (fun s0 => fX8_readLine_69 v0 v1 s0 h) st) xs) (kT := fun _ _ _ => none) (kR := kRZ)
    (fun xs h st q => jm [2, 2, 0] _ (fun v0 v1 q => apS_ok [1] _ (fun st => Ev (d + 8) none mX8_readLine (0, 0) 69 [.ref v0, .ref v1, .null] st h (QZ z)) st (fun s0 q => tX8_readLine_69 v0 v1 s0 h q) q) q)
    (fun _ _ _ q => nos q)
    kRZ_ok (Or.inr rfl) (by decide +kernel) (by decide +kernel) hf
theorem kqX8_readLine_65 : okC mX8_readLine 65 (.invokevirtual 63) 18 11 0 0 = true := by decide +kernel
def fX8_readLine_65 (v0 : Nat) (v1 : Nat) (v2 : Int32) (s0 : Nat) (h : aH) : Option (Int32 × aH) :=
  (isO h 8 s0).bind fun _ =>
  (gX8_step s0 h).bind fun r =>
  fX8_readLine_68 v0 v1 v2 r
theorem tX8_readLine_65 {d : Nat} {z : Int32 × aH} (v0 : Nat) (v1 : Nat) (v2 : Int32) (s0 : Nat) (h : aH) (hf : fX8_readLine_65 v0 v1 v2 s0 h = some z) : Ev (d + 8) none mX8_readLine (0, 0) 65 [.ref v0, .ref v1, .int v2] [.ref s0] h (QZ z) := by
  obtain ⟨_, h1, hf⟩ := bnd hf
  obtain ⟨fs, ho⟩ := isO_ok h1
  obtain ⟨r, h2, hf⟩ := bnd hf
  refine ev_V kqX8_readLine_65 jX8_step (zX8_step (d := d + 5) h2) ho rfl rfl (Nat.le_of_ble_eq_true rfl) rfl (as := []) (rest := []) rfl (Nat.le_of_ble_eq_true rfl) (fun _ _ hq => ?_)
  obtain ⟨rfl, hh⟩ := hq
  rw [hh]
  exact jm [2, 2, 1] (fun v0 v1 v2 => fX8_readLine_68 v0 v1 v2 r) (fun v0 v1 v2 q => tX8_readLine_68 v0 v1 v2 r q) hf
def wX8_readLine_64 : List En := [(.aload_n 0, 0, 0, 0)]
def fX8_readLine_64 (v0 : Nat) (v1 : Nat) (v2 : Int32) (h : aH) : Option (Int32 × aH) :=
  fX8_readLine_65 v0 v1 v2 v0 h
theorem tX8_readLine_64 {d : Nat} {z : Int32 × aH} (v0 : Nat) (v1 : Nat) (v2 : Int32) (h : aH) (hf : fX8_readLine_64 v0 v1 v2 h = some z) : Ev (d + 8) none mX8_readLine (0, 0) 64 [.ref v0, .ref v1, .int v2] [] h (QZ z) := 
  go_ok (X := none) (blk := wX8_readLine_64) (np := 65) (tt := 0) (kN := fun xs h st => app [2, 2, 1] (fun v0 v1 v2 => apS [2] (fun s0 => fX8_readLine_65 v0 v1 v2 s0 h) st) xs) (kT := fun _ _ _ => none) (kR := kRZ)
    (fun xs h st q => jm [2, 2, 1] _ (fun v0 v1 v2 q => apS_ok [2] _ (fun st => Ev (d + 8) none mX8_readLine (0, 0) 65 [.ref v0, .ref v1, .int v2] st h (QZ z)) st (fun s0 q => tX8_readLine_65 v0 v1 v2 s0 h q) q) q)
    (fun _ _ _ q => nos q)
    kRZ_ok (Or.inr rfl) (by decide +kernel) (by decide +kernel) hf
def wX8_readLine_63 : List En := [(.ireturn, 0, 0, 0)]
def fX8_readLine_63 (s0 : Int32) (h : aH) : Option (Int32 × aH) :=
  if s0 = 0 ∨ s0 = 1 then some (s0, h) else none
theorem tX8_readLine_63 {d : Nat} {z : Int32 × aH} (s0 : Int32) (h : aH) (hf : fX8_readLine_63 s0 h = some z) : Ev (d + 8) none mX8_readLine (0, 0) 63 [.null, .null, .null] [.int s0] h (QZ z) := 
  go_ok (X := none) (blk := wX8_readLine_63) (np := 64) (tt := 0) (kN := fun _ _ _ => none) (kT := fun _ _ _ => none) (kR := kRZ)
    (fun _ _ _ q => nos q)
    (fun _ _ _ q => nos q)
    kRZ_ok (Or.inr rfl) (by decide +kernel) (by decide +kernel) hf
theorem kqX8_readLine_60 : okC mX8_readLine 60 (.invokevirtual 73) 37 21 0 1 = true := by decide +kernel
def fX8_readLine_60 (s0 : Int32) (s1 : Nat) (h : aH) : Option (Int32 × aH) :=
  (isO h 8 s1).bind fun _ =>
  (gX8_fail s1 s0 h).bind fun r =>
  fX8_readLine_63 r.1 r.2
theorem tX8_readLine_60 {d : Nat} {z : Int32 × aH} (s0 : Int32) (s1 : Nat) (h : aH) (hf : fX8_readLine_60 s0 s1 h = some z) : Ev (d + 8) none mX8_readLine (0, 0) 60 [.null, .null, .null] [.int s0, .ref s1] h (QZ z) := by
  obtain ⟨_, h1, hf⟩ := bnd hf
  obtain ⟨fs, ho⟩ := isO_ok h1
  obtain ⟨r, h2, hf⟩ := bnd hf
  refine ev_V kqX8_readLine_60 jX8_fail (zX8_fail (d := d + 7) h2) ho rfl rfl (Nat.le_of_ble_eq_true rfl) rfl (as := [.int s0]) (rest := []) rfl (Nat.le_of_ble_eq_true rfl) (fun _ _ hq => ?_)
  obtain ⟨-, rfl, rfl⟩ := hq
  exact jm [0, 0, 0] (fX8_readLine_63 r.1 r.2) (fun q => tX8_readLine_63 r.1 r.2 q) hf
def wX8_readLine_57 : List En := [(.aload_n 0, 0, 0, 0), (.bipush 6, 0, 0, 0)]
def fX8_readLine_57 (v0 : Nat) (h : aH) : Option (Int32 × aH) :=
  fX8_readLine_60 (kB 6) v0 h
theorem tX8_readLine_57 {d : Nat} {z : Int32 × aH} (v0 : Nat) (h : aH) (hf : fX8_readLine_57 v0 h = some z) : Ev (d + 8) none mX8_readLine (0, 0) 57 [.ref v0, .null, .null] [] h (QZ z) := 
  go_ok (X := none) (blk := wX8_readLine_57) (np := 60) (tt := 0) (kN := fun xs h st => app [0, 0, 0] (apS [1, 2] (fun s0 s1 => fX8_readLine_60 s0 s1 h) st) xs) (kT := fun _ _ _ => none) (kR := kRZ)
    (fun xs h st q => jm [0, 0, 0] _ (fun q => apS_ok [1, 2] _ (fun st => Ev (d + 8) none mX8_readLine (0, 0) 60 [.null, .null, .null] st h (QZ z)) st (fun s0 s1 q => tX8_readLine_60 s0 s1 h q) q) q)
    (fun _ _ _ q => nos q)
    kRZ_ok (Or.inr rfl) (by decide +kernel) (by decide +kernel) hf
def wX8_readLine_50 : List En := [(.aload_n 0, 0, 0, 0), (.getfield 53, 17, 8, 14), (.ifCond .ne 10, 64, 0, 0)]
def fX8_readLine_50 (v0 : Nat) (v1 : Nat) (v2 : Int32) (h : aH) : Option (Int32 × aH) :=
  (gFI h 8 v0 14).bind fun t1 =>
  if t1 = 0 then fX8_readLine_57 v0 h else fX8_readLine_64 v0 v1 v2 h
theorem tX8_readLine_50 {d : Nat} {z : Int32 × aH} (v0 : Nat) (v1 : Nat) (v2 : Int32) (h : aH) (hf : fX8_readLine_50 v0 v1 v2 h = some z) : Ev (d + 8) none mX8_readLine (0, 0) 50 [.ref v0, .ref v1, .int v2] [] h (QZ z) := 
  go_ok (X := none) (blk := wX8_readLine_50) (np := 57) (tt := 64) (kN := fun xs h st => app [2, 0, 0] (fun v0 => apS [] (fX8_readLine_57 v0 h) st) xs) (kT := fun xs h st => app [2, 2, 1] (fun v0 v1 v2 => apS [] (fX8_readLine_64 v0 v1 v2 h) st) xs) (kR := kRZ)
    (fun xs h st q => jm [2, 0, 0] _ (fun v0 q => apS_ok [] _ (fun st => Ev (d + 8) none mX8_readLine (0, 0) 57 [.ref v0, .null, .null] st h (QZ z)) st (fun q => tX8_readLine_57 v0 h q) q) q)
    (fun xs h st q => jm [2, 2, 1] _ (fun v0 v1 v2 q => apS_ok [] _ (fun st => Ev (d + 8) none mX8_readLine (0, 0) 64 [.ref v0, .ref v1, .int v2] st h (QZ z)) st (fun q => tX8_readLine_64 v0 v1 v2 h q) q) q)
    kRZ_ok (Or.inr rfl) (by decide +kernel) (by decide +kernel) hf
def wX8_readLine_46 : List En := [(.iload_n 2, 0, 0, 0), (.ifCond .eq 17, 64, 0, 0)]
def fX8_readLine_46 (v0 : Nat) (v1 : Nat) (v2 : Int32) (h : aH) : Option (Int32 × aH) :=
  if v2 = 0 then fX8_readLine_64 v0 v1 v2 h else fX8_readLine_50 v0 v1 v2 h
theorem tX8_readLine_46 {d : Nat} {z : Int32 × aH} (v0 : Nat) (v1 : Nat) (v2 : Int32) (h : aH) (hf : fX8_readLine_46 v0 v1 v2 h = some z) : Ev (d + 8) none mX8_readLine (0, 0) 46 [.ref v0, .ref v1, .int v2] [] h (QZ z) := 
  go_ok (X := none) (blk := wX8_readLine_46) (np := 50) (tt := 64) (kN := fun xs h st => app [2, 2, 1] (fun v0 v1 v2 => apS [] (fX8_readLine_50 v0 v1 v2 h) st) xs) (kT := fun xs h st => app [2, 2, 1] (fun v0 v1 v2 => apS [] (fX8_readLine_64 v0 v1 v2 h) st) xs) (kR := kRZ)
    (fun xs h st q => jm [2, 2, 1] _ (fun v0 v1 v2 q => apS_ok [] _ (fun st => Ev (d + 8) none mX8_readLine (0, 0) 50 [.ref v0, .ref v1, .int v2] st h (QZ z)) st (fun q => tX8_readLine_50 v0 v1 v2 h q) q) q)
    (fun xs h st q => jm [2, 2, 1] _ (fun v0 v1 v2 q => apS_ok [] _ (fun st => Ev (d + 8) none mX8_readLine (0, 0) 64 [.ref v0, .ref v1, .int v2] st h (QZ z)) st (fun q => tX8_readLine_64 v0 v1 v2 h q) q) q)
    kRZ_ok (Or.inr rfl) (by decide +kernel) (by decide +kernel) hf
def wX8_readLine_45 : List En := [(.ireturn, 0, 0, 0)]
def fX8_readLine_45 (s0 : Int32) (h : aH) : Option (Int32 × aH) :=
  if s0 = 0 ∨ s0 = 1 then some (s0, h) else none
theorem tX8_readLine_45 {d : Nat} {z : Int32 × aH} (s0 : Int32) (h : aH) (hf : fX8_readLine_45 s0 h = some z) : Ev (d + 8) none mX8_readLine (0, 0) 45 [.null, .null, .null] [.int s0] h (QZ z) := 
  go_ok (X := none) (blk := wX8_readLine_45) (np := 46) (tt := 0) (kN := fun _ _ _ => none) (kT := fun _ _ _ => none) (kR := kRZ)
    (fun _ _ _ q => nos q)
    (fun _ _ _ q => nos q)
    kRZ_ok (Or.inr rfl) (by decide +kernel) (by decide +kernel) hf
theorem kqX8_readLine_42 : okC mX8_readLine 42 (.invokevirtual 73) 37 21 0 1 = true := by decide +kernel
def fX8_readLine_42 (s0 : Int32) (s1 : Nat) (h : aH) : Option (Int32 × aH) :=
  (isO h 8 s1).bind fun _ =>
  (gX8_fail s1 s0 h).bind fun r =>
  fX8_readLine_45 r.1 r.2
theorem tX8_readLine_42 {d : Nat} {z : Int32 × aH} (s0 : Int32) (s1 : Nat) (h : aH) (hf : fX8_readLine_42 s0 s1 h = some z) : Ev (d + 8) none mX8_readLine (0, 0) 42 [.null, .null, .null] [.int s0, .ref s1] h (QZ z) := by
  obtain ⟨_, h1, hf⟩ := bnd hf
  obtain ⟨fs, ho⟩ := isO_ok h1
  obtain ⟨r, h2, hf⟩ := bnd hf
  refine ev_V kqX8_readLine_42 jX8_fail (zX8_fail (d := d + 7) h2) ho rfl rfl (Nat.le_of_ble_eq_true rfl) rfl (as := [.int s0]) (rest := []) rfl (Nat.le_of_ble_eq_true rfl) (fun _ _ hq => ?_)
  obtain ⟨-, rfl, rfl⟩ := hq
  exact jm [0, 0, 0] (fX8_readLine_45 r.1 r.2) (fun q => tX8_readLine_45 r.1 r.2 q) hf
def wX8_readLine_40 : List En := [(.aload_n 0, 0, 0, 0), (.iconst 5, 0, 0, 0)]
def fX8_readLine_40 (v0 : Nat) (h : aH) : Option (Int32 × aH) :=
  fX8_readLine_42 (kI 5) v0 h
theorem tX8_readLine_40 {d : Nat} {z : Int32 × aH} (v0 : Nat) (h : aH) (hf : fX8_readLine_40 v0 h = some z) : Ev (d + 8) none mX8_readLine (0, 0) 40 [.ref v0, .null, .null] [] h (QZ z) := 
  go_ok (X := none) (blk := wX8_readLine_40) (np := 42) (tt := 0) (kN := fun xs h st => app [0, 0, 0] (apS [1, 2] (fun s0 s1 => fX8_readLine_42 s0 s1 h) st) xs) (kT := fun _ _ _ => none) (kR := kRZ)
    (fun xs h st q => jm [0, 0, 0] _ (fun q => apS_ok [1, 2] _ (fun st => Ev (d + 8) none mX8_readLine (0, 0) 42 [.null, .null, .null] st h (QZ z)) st (fun s0 s1 q => tX8_readLine_42 s0 s1 h q) q) q)
    (fun _ _ _ q => nos q)
    kRZ_ok (Or.inr rfl) (by decide +kernel) (by decide +kernel) hf
def wX8_readLine_37 : List En := [(.ifCond .eq 9, 46, 0, 0)]
def fX8_readLine_37 (v0 : Nat) (v1 : Nat) (v2 : Int32) (s0 : Int32) (h : aH) : Option (Int32 × aH) :=
  if s0 = 0 then fX8_readLine_46 v0 v1 v2 h else fX8_readLine_40 v0 h
theorem tX8_readLine_37 {d : Nat} {z : Int32 × aH} (v0 : Nat) (v1 : Nat) (v2 : Int32) (s0 : Int32) (h : aH) (hf : fX8_readLine_37 v0 v1 v2 s0 h = some z) : Ev (d + 8) none mX8_readLine (0, 0) 37 [.ref v0, .ref v1, .int v2] [.int s0] h (QZ z) := 
  go_ok (X := none) (blk := wX8_readLine_37) (np := 40) (tt := 46) (kN := fun xs h st => app [2, 0, 0] (fun v0 => apS [] (fX8_readLine_40 v0 h) st) xs) (kT := fun xs h st => app [2, 2, 1] (fun v0 v1 v2 => apS [] (fX8_readLine_46 v0 v1 v2 h) st) xs) (kR := kRZ)
    (fun xs h st q => jm [2, 0, 0] _ (fun v0 q => apS_ok [] _ (fun st => Ev (d + 8) none mX8_readLine (0, 0) 40 [.ref v0, .null, .null] st h (QZ z)) st (fun q => tX8_readLine_40 v0 h q) q) q)
    (fun xs h st q => jm [2, 2, 1] _ (fun v0 v1 v2 q => apS_ok [] _ (fun st => Ev (d + 8) none mX8_readLine (0, 0) 46 [.ref v0, .ref v1, .int v2] st h (QZ z)) st (fun q => tX8_readLine_46 v0 v1 v2 h q) q) q)
    kRZ_ok (Or.inr rfl) (by decide +kernel) (by decide +kernel) hf
theorem kqX8_readLine_34 : okC mX8_readLine 34 (.invokestatic 87) 38 22 1 2 = true := by decide +kernel
def fX8_readLine_34 (v0 : Nat) (v1 : Nat) (v2 : Int32) (s0 : Int32) (s1 : Nat) (h : aH) : Option (Int32 × aH) :=
  (gX8_isFull s1 s0 h).bind fun r =>
  fX8_readLine_37 v0 v1 v2 r.1 r.2
theorem tX8_readLine_34 {d : Nat} {z : Int32 × aH} (v0 : Nat) (v1 : Nat) (v2 : Int32) (s0 : Int32) (s1 : Nat) (h : aH) (hf : fX8_readLine_34 v0 v1 v2 s0 s1 h = some z) : Ev (d + 8) none mX8_readLine (0, 0) 34 [.ref v0, .ref v1, .int v2] [.int s0, .ref s1] h (QZ z) := by
  obtain ⟨r, h2, hf⟩ := bnd hf
  refine ev_S kqX8_readLine_34 jX8_isFull (zX8_isFull (d := d + 7) h2) rfl (Nat.le_of_ble_eq_true rfl) rfl (as := [.ref s1, .int s0]) (rest := []) rfl (Nat.le_of_ble_eq_true rfl) (fun _ _ hq => ?_)
  obtain ⟨-, rfl, rfl⟩ := hq
  exact jm [2, 2, 1] (fun v0 v1 v2 => fX8_readLine_37 v0 v1 v2 r.1 r.2) (fun v0 v1 v2 q => tX8_readLine_37 v0 v1 v2 r.1 r.2 q) hf
def wX8_readLine_32 : List En := [(.aload_n 1, 0, 0, 0), (.iload_n 2, 0, 0, 0)]
def fX8_readLine_32 (v0 : Nat) (v1 : Nat) (v2 : Int32) (h : aH) : Option (Int32 × aH) :=
  fX8_readLine_34 v0 v1 v2 v2 v1 h
theorem tX8_readLine_32 {d : Nat} {z : Int32 × aH} (v0 : Nat) (v1 : Nat) (v2 : Int32) (h : aH) (hf : fX8_readLine_32 v0 v1 v2 h = some z) : Ev (d + 8) none mX8_readLine (0, 0) 32 [.ref v0, .ref v1, .int v2] [] h (QZ z) := 
  go_ok (X := none) (blk := wX8_readLine_32) (np := 34) (tt := 0) (kN := fun xs h st => app [2, 2, 1] (fun v0 v1 v2 => apS [1, 2] (fun s0 s1 => fX8_readLine_34 v0 v1 v2 s0 s1 h) st) xs) (kT := fun _ _ _ => none) (kR := kRZ)
    (fun xs h st q => jm [2, 2, 1] _ (fun v0 v1 v2 q => apS_ok [1, 2] _ (fun st => Ev (d + 8) none mX8_readLine (0, 0) 34 [.ref v0, .ref v1, .int v2] st h (QZ z)) st (fun s0 s1 q => tX8_readLine_34 v0 v1 v2 s0 s1 h q) q) q)
    (fun _ _ _ q => nos q)
    kRZ_ok (Or.inr rfl) (by decide +kernel) (by decide +kernel) hf
def wX8_readLine_31 : List En := [(.ireturn, 0, 0, 0)]
def fX8_readLine_31 (s0 : Int32) (h : aH) : Option (Int32 × aH) :=
  if s0 = 0 ∨ s0 = 1 then some (s0, h) else none
theorem tX8_readLine_31 {d : Nat} {z : Int32 × aH} (s0 : Int32) (h : aH) (hf : fX8_readLine_31 s0 h = some z) : Ev (d + 8) none mX8_readLine (0, 0) 31 [.null, .null, .null] [.int s0] h (QZ z) := 
  go_ok (X := none) (blk := wX8_readLine_31) (np := 32) (tt := 0) (kN := fun _ _ _ => none) (kT := fun _ _ _ => none) (kR := kRZ)
    (fun _ _ _ q => nos q)
    (fun _ _ _ q => nos q)
    kRZ_ok (Or.inr rfl) (by decide +kernel) (by decide +kernel) hf
theorem kqX8_readLine_28 : okC mX8_readLine 28 (.invokevirtual 73) 37 21 0 1 = true := by decide +kernel
def fX8_readLine_28 (s0 : Int32) (s1 : Nat) (h : aH) : Option (Int32 × aH) :=
  (isO h 8 s1).bind fun _ =>
  (gX8_fail s1 s0 h).bind fun r =>
  fX8_readLine_31 r.1 r.2
theorem tX8_readLine_28 {d : Nat} {z : Int32 × aH} (s0 : Int32) (s1 : Nat) (h : aH) (hf : fX8_readLine_28 s0 s1 h = some z) : Ev (d + 8) none mX8_readLine (0, 0) 28 [.null, .null, .null] [.int s0, .ref s1] h (QZ z) := by
  obtain ⟨_, h1, hf⟩ := bnd hf
  obtain ⟨fs, ho⟩ := isO_ok h1
  obtain ⟨r, h2, hf⟩ := bnd hf
  refine ev_V kqX8_readLine_28 jX8_fail (zX8_fail (d := d + 7) h2) ho rfl rfl (Nat.le_of_ble_eq_true rfl) rfl (as := [.int s0]) (rest := []) rfl (Nat.le_of_ble_eq_true rfl) (fun _ _ hq => ?_)
  obtain ⟨-, rfl, rfl⟩ := hq
  exact jm [0, 0, 0] (fX8_readLine_31 r.1 r.2) (fun q => tX8_readLine_31 r.1 r.2 q) hf
def wX8_readLine_26 : List En := [(.aload_n 0, 0, 0, 0), (.iconst 3, 0, 0, 0)]
def fX8_readLine_26 (v0 : Nat) (h : aH) : Option (Int32 × aH) :=
  fX8_readLine_28 (kI 3) v0 h
theorem tX8_readLine_26 {d : Nat} {z : Int32 × aH} (v0 : Nat) (h : aH) (hf : fX8_readLine_26 v0 h = some z) : Ev (d + 8) none mX8_readLine (0, 0) 26 [.ref v0, .null, .null] [] h (QZ z) := 
  go_ok (X := none) (blk := wX8_readLine_26) (np := 28) (tt := 0) (kN := fun xs h st => app [0, 0, 0] (apS [1, 2] (fun s0 s1 => fX8_readLine_28 s0 s1 h) st) xs) (kT := fun _ _ _ => none) (kR := kRZ)
    (fun xs h st q => jm [0, 0, 0] _ (fun q => apS_ok [1, 2] _ (fun st => Ev (d + 8) none mX8_readLine (0, 0) 28 [.null, .null, .null] st h (QZ z)) st (fun s0 s1 q => tX8_readLine_28 s0 s1 h q) q) q)
    (fun _ _ _ q => nos q)
    kRZ_ok (Or.inr rfl) (by decide +kernel) (by decide +kernel) hf
def wX8_readLine_19 : List En := [(.aload_n 0, 0, 0, 0), (.getfield 53, 17, 8, 14), (.ifCond .eq 9, 32, 0, 0)]
def fX8_readLine_19 (v0 : Nat) (v1 : Nat) (v2 : Int32) (h : aH) : Option (Int32 × aH) :=
  (gFI h 8 v0 14).bind fun t1 =>
  if t1 = 0 then fX8_readLine_32 v0 v1 v2 h else fX8_readLine_26 v0 h
theorem tX8_readLine_19 {d : Nat} {z : Int32 × aH} (v0 : Nat) (v1 : Nat) (v2 : Int32) (h : aH) (hf : fX8_readLine_19 v0 v1 v2 h = some z) : Ev (d + 8) none mX8_readLine (0, 0) 19 [.ref v0, .ref v1, .int v2] [] h (QZ z) := 
  go_ok (X := none) (blk := wX8_readLine_19) (np := 26) (tt := 32) (kN := fun xs h st => app [2, 0, 0] (fun v0 => apS [] (fX8_readLine_26 v0 h) st) xs) (kT := fun xs h st => app [2, 2, 1] (fun v0 v1 v2 => apS [] (fX8_readLine_32 v0 v1 v2 h) st) xs) (kR := kRZ)
    (fun xs h st q => jm [2, 0, 0] _ (fun v0 q => apS_ok [] _ (fun st => Ev (d + 8) none mX8_readLine (0, 0) 26 [.ref v0, .null, .null] st h (QZ z)) st (fun q => tX8_readLine_26 v0 h q) q) q)
    (fun xs h st q => jm [2, 2, 1] _ (fun v0 v1 v2 q => apS_ok [] _ (fun st => Ev (d + 8) none mX8_readLine (0, 0) 32 [.ref v0, .ref v1, .int v2] st h (QZ z)) st (fun q => tX8_readLine_32 v0 v1 v2 h q) q) q)
    kRZ_ok (Or.inr rfl) (by decide +kernel) (by decide +kernel) hf
def wX8_readLine_15 : List En := [(.iload_n 2, 0, 0, 0), (.ifCond .ne 16, 32, 0, 0)]
def fX8_readLine_15 (v0 : Nat) (v1 : Nat) (v2 : Int32) (h : aH) : Option (Int32 × aH) :=
  if v2 = 0 then fX8_readLine_19 v0 v1 v2 h else fX8_readLine_32 v0 v1 v2 h
theorem tX8_readLine_15 {d : Nat} {z : Int32 × aH} (v0 : Nat) (v1 : Nat) (v2 : Int32) (h : aH) (hf : fX8_readLine_15 v0 v1 v2 h = some z) : Ev (d + 8) none mX8_readLine (0, 0) 15 [.ref v0, .ref v1, .int v2] [] h (QZ z) := 
  go_ok (X := none) (blk := wX8_readLine_15) (np := 19) (tt := 32) (kN := fun xs h st => app [2, 2, 1] (fun v0 v1 v2 => apS [] (fX8_readLine_19 v0 v1 v2 h) st) xs) (kT := fun xs h st => app [2, 2, 1] (fun v0 v1 v2 => apS [] (fX8_readLine_32 v0 v1 v2 h) st) xs) (kR := kRZ)
    (fun xs h st q => jm [2, 2, 1] _ (fun v0 v1 v2 q => apS_ok [] _ (fun st => Ev (d + 8) none mX8_readLine (0, 0) 19 [.ref v0, .ref v1, .int v2] st h (QZ z)) st (fun q => tX8_readLine_19 v0 v1 v2 h q) q) q)
    (fun xs h st q => jm [2, 2, 1] _ (fun v0 v1 v2 q => apS_ok [] _ (fun st => Ev (d + 8) none mX8_readLine (0, 0) 32 [.ref v0, .ref v1, .int v2] st h (QZ z)) st (fun q => tX8_readLine_32 v0 v1 v2 h q) q) q)
    kRZ_ok (Or.inr rfl) (by decide +kernel) (by decide +kernel) hf
def wX8_readLine_14 : List En := [(.ireturn, 0, 0, 0)]
def fX8_readLine_14 (s0 : Int32) (h : aH) : Option (Int32 × aH) :=
  if s0 = 0 ∨ s0 = 1 then some (s0, h) else none
theorem tX8_readLine_14 {d : Nat} {z : Int32 × aH} (s0 : Int32) (h : aH) (hf : fX8_readLine_14 s0 h = some z) : Ev (d + 8) none mX8_readLine (0, 0) 14 [.null, .null, .null] [.int s0] h (QZ z) := 
  go_ok (X := none) (blk := wX8_readLine_14) (np := 15) (tt := 0) (kN := fun _ _ _ => none) (kT := fun _ _ _ => none) (kR := kRZ)
    (fun _ _ _ q => nos q)
    (fun _ _ _ q => nos q)
    kRZ_ok (Or.inr rfl) (by decide +kernel) (by decide +kernel) hf
theorem kqX8_readLine_11 : okC mX8_readLine 11 (.invokevirtual 73) 37 21 0 1 = true := by decide +kernel
def fX8_readLine_11 (s0 : Int32) (s1 : Nat) (h : aH) : Option (Int32 × aH) :=
  (isO h 8 s1).bind fun _ =>
  (gX8_fail s1 s0 h).bind fun r =>
  fX8_readLine_14 r.1 r.2
theorem tX8_readLine_11 {d : Nat} {z : Int32 × aH} (s0 : Int32) (s1 : Nat) (h : aH) (hf : fX8_readLine_11 s0 s1 h = some z) : Ev (d + 8) none mX8_readLine (0, 0) 11 [.null, .null, .null] [.int s0, .ref s1] h (QZ z) := by
  obtain ⟨_, h1, hf⟩ := bnd hf
  obtain ⟨fs, ho⟩ := isO_ok h1
  obtain ⟨r, h2, hf⟩ := bnd hf
  refine ev_V kqX8_readLine_11 jX8_fail (zX8_fail (d := d + 7) h2) ho rfl rfl (Nat.le_of_ble_eq_true rfl) rfl (as := [.int s0]) (rest := []) rfl (Nat.le_of_ble_eq_true rfl) (fun _ _ hq => ?_)
  obtain ⟨-, rfl, rfl⟩ := hq
  exact jm [0, 0, 0] (fX8_readLine_14 r.1 r.2) (fun q => tX8_readLine_14 r.1 r.2 q) hf
def wX8_readLine_9 : List En := [(.aload_n 0, 0, 0, 0), (.iconst 1, 0, 0, 0)]
def fX8_readLine_9 (v0 : Nat) (h : aH) : Option (Int32 × aH) :=
  fX8_readLine_11 (kI 1) v0 h
theorem tX8_readLine_9 {d : Nat} {z : Int32 × aH} (v0 : Nat) (h : aH) (hf : fX8_readLine_9 v0 h = some z) : Ev (d + 8) none mX8_readLine (0, 0) 9 [.ref v0, .null, .null] [] h (QZ z) := 
  go_ok (X := none) (blk := wX8_readLine_9) (np := 11) (tt := 0) (kN := fun xs h st => app [0, 0, 0] (apS [1, 2] (fun s0 s1 => fX8_readLine_11 s0 s1 h) st) xs) (kT := fun _ _ _ => none) (kR := kRZ)
    (fun xs h st q => jm [0, 0, 0] _ (fun q => apS_ok [1, 2] _ (fun st => Ev (d + 8) none mX8_readLine (0, 0) 11 [.null, .null, .null] st h (QZ z)) st (fun s0 s1 q => tX8_readLine_11 s0 s1 h q) q) q)
    (fun _ _ _ q => nos q)
    kRZ_ok (Or.inr rfl) (by decide +kernel) (by decide +kernel) hf
def wX8_readLine_4 : List En := [(.istore_n 2, 0, 0, 0), (.iload_n 2, 0, 0, 0), (.ifCond .ge 9, 15, 0, 0)]
def fX8_readLine_4 (v0 : Nat) (v1 : Nat) (s0 : Int32) (h : aH) : Option (Int32 × aH) :=
  if s0 < 0 then fX8_readLine_9 v0 h else fX8_readLine_15 v0 v1 s0 h
theorem tX8_readLine_4 {d : Nat} {z : Int32 × aH} (v0 : Nat) (v1 : Nat) (s0 : Int32) (h : aH) (hf : fX8_readLine_4 v0 v1 s0 h = some z) : Ev (d + 8) none mX8_readLine (0, 0) 4 [.ref v0, .ref v1, .null] [.int s0] h (QZ z) := 
  go_ok (X := none) (blk := wX8_readLine_4) (np := 9) (tt := 15) (kN := fun xs h st => app [2, 0, 0] (fun v0 => apS [] (fX8_readLine_9 v0 h) st) xs) (kT := fun xs h st => app [2, 2, 1] (fun v0 v1 v2 => apS [] (fX8_readLine_15 v0 v1 v2 h) st) xs) (kR := kRZ)
    (fun xs h st q => jm [2, 0, 0] _ (fun v0 q => apS_ok [] _ (fun st => Ev (d + 8) none mX8_readLine (0, 0) 9 [.ref v0, .null, .null] st h (QZ z)) st (fun q => tX8_readLine_9 v0 h q) q) q)
    (fun xs h st q => jm [2, 2, 1] _ (fun v0 v1 v2 q => apS_ok [] _ (fun st => Ev (d + 8) none mX8_readLine (0, 0) 15 [.ref v0, .ref v1, .int v2] st h (QZ z)) st (fun q => tX8_readLine_15 v0 v1 v2 h q) q) q)
    kRZ_ok (Or.inr rfl) (by decide +kernel) (by decide +kernel) hf
theorem kqX8_readLine_1 : okC mX8_readLine 1 (.invokevirtual 83) 24 17 0 0 = true := by decide +kernel
def fX8_readLine_1 (v0 : Nat) (v1 : Nat) (s0 : Nat) (h : aH) : Option (Int32 × aH) :=
  (isO h 8 s0).bind fun _ =>
  (gX8_lineSort s0 h).bind fun r =>
  fX8_readLine_4 v0 v1 r.1 r.2
theorem tX8_readLine_1 {d : Nat} {z : Int32 × aH} (v0 : Nat) (v1 : Nat) (s0 : Nat) (h : aH) (hf : fX8_readLine_1 v0 v1 s0 h = some z) : Ev (d + 8) none mX8_readLine (0, 0) 1 [.ref v0, .ref v1, .null] [.ref s0] h (QZ z) := by
  obtain ⟨_, h1, hf⟩ := bnd hf
  obtain ⟨fs, ho⟩ := isO_ok h1
  obtain ⟨r, h2, hf⟩ := bnd hf
  refine ev_V kqX8_readLine_1 jX8_lineSort (zX8_lineSort (d := d + 2) h2) ho rfl rfl (Nat.le_of_ble_eq_true rfl) rfl (as := []) (rest := []) rfl (Nat.le_of_ble_eq_true rfl) (fun _ _ hq => ?_)
  obtain ⟨rfl, rfl⟩ := hq
  exact jm [2, 2, 0] (fun v0 v1 => fX8_readLine_4 v0 v1 r.1 r.2) (fun v0 v1 q => tX8_readLine_4 v0 v1 r.1 r.2 q) hf
def wX8_readLine_0 : List En := [(.aload_n 0, 0, 0, 0)]
def fX8_readLine_0 (v0 : Nat) (v1 : Nat) (h : aH) : Option (Int32 × aH) :=
  fX8_readLine_1 v0 v1 v0 h
theorem tX8_readLine_0 {d : Nat} {z : Int32 × aH} (v0 : Nat) (v1 : Nat) (h : aH) (hf : fX8_readLine_0 v0 v1 h = some z) : Ev (d + 8) none mX8_readLine (0, 0) 0 [.ref v0, .ref v1, .null] [] h (QZ z) := 
  go_ok (X := none) (blk := wX8_readLine_0) (np := 1) (tt := 0) (kN := fun xs h st => app [2, 2, 0] (fun v0 v1 => apS [2] (fun s0 => fX8_readLine_1 v0 v1 s0 h) st) xs) (kT := fun _ _ _ => none) (kR := kRZ)
    (fun xs h st q => jm [2, 2, 0] _ (fun v0 v1 q => apS_ok [2] _ (fun st => Ev (d + 8) none mX8_readLine (0, 0) 1 [.ref v0, .ref v1, .null] st h (QZ z)) st (fun s0 q => tX8_readLine_1 v0 v1 s0 h q) q) q)
    (fun _ _ _ q => nos q)
    kRZ_ok (Or.inr rfl) (by decide +kernel) (by decide +kernel) hf
def gX8_readLine (v0 : Nat) (v1 : Nat) (h : aH) : Option (Int32 × aH) := fX8_readLine_0 v0 v1 h
theorem zX8_readLine {d : Nat} {z : Int32 × aH} {v0 : Nat} {v1 : Nat} {h : aH} (q : gX8_readLine v0 v1 h = some z) : CT (d + 8) mX8_readLine (0, 0) [.ref v0, .ref v1] h (QZ z) :=
  ct_ev (by decide +kernel) (Nat.le_of_ble_eq_true rfl) QZ_r (jm [2, 2, 0] (fun v0 v1 => fX8_readLine_0 v0 v1 h) (fun v0 v1 q => tX8_readLine_0 v0 v1 h q) q)
def wX8_read_128 : List En := [(.iload_n 3, 0, 0, 0), (.ireturn, 0, 0, 0)]
def fX8_read_128 (v3 : Int32) (h : aH) : Option (Int32 × aH) :=
  if v3 = 0 ∨ v3 = 1 then some (v3, h) else none
theorem tX8_read_128 {d : Nat} {z : Int32 × aH} (v3 : Int32) (h : aH) (hf : fX8_read_128 v3 h = some z) : Ev (d + 9) none mX8_read (0, 0) 128 [.null, .null, .null, .int v3, .null] [] h (QZ z) := 
  go_ok (X := none) (blk := wX8_read_128) (np := 130) (tt := 0) (kN := fun _ _ _ => none) (kT := fun _ _ _ => none) (kR := kRZ)
    (fun _ _ _ q => nos q)
    (fun _ _ _ q => nos q)
    kRZ_ok (Or.inr rfl) (by decide +kernel) (by decide +kernel) hf
def wX8_read_127 : List En := [(.istore_n 3, 0, 0, 0)]
def fX8_read_127 (s0 : Int32) (h : aH) : Option (Int32 × aH) :=
  fX8_read_128 s0 h
theorem tX8_read_127 {d : Nat} {z : Int32 × aH} (s0 : Int32) (h : aH) (hf : fX8_read_127 s0 h = some z) : Ev (d + 9) none mX8_read (0, 0) 127 [.null, .null, .null, .null, .null] [.int s0] h (QZ z) := 
  go_ok (X := none) (blk := wX8_read_127) (np := 128) (tt := 0) (kN := fun xs h st => app [0, 0, 0, 1, 0] (fun v3 => apS [] (fX8_read_128 v3 h) st) xs) (kT := fun _ _ _ => none) (kR := kRZ)
    (fun xs h st q => jm [0, 0, 0, 1, 0] _ (fun v3 q => apS_ok [] _ (fun st => Ev (d + 9) none mX8_read (0, 0) 128 [.null, .null, .null, .int v3, .null] st h (QZ z)) st (fun q => tX8_read_128 v3 h q) q) q)
    (fun _ _ _ q => nos q)
    kRZ_ok (Or.inr rfl) (by decide +kernel) (by decide +kernel) hf
theorem kqX8_read_124 : okC mX8_read 124 (.invokevirtual 73) 37 21 0 1 = true := by decide +kernel
def fX8_read_124 (s0 : Int32) (s1 : Nat) (h : aH) : Option (Int32 × aH) :=
  (isO h 8 s1).bind fun _ =>
  (gX8_fail s1 s0 h).bind fun r =>
  fX8_read_127 r.1 r.2
theorem tX8_read_124 {d : Nat} {z : Int32 × aH} (s0 : Int32) (s1 : Nat) (h : aH) (hf : fX8_read_124 s0 s1 h = some z) : Ev (d + 9) none mX8_read (0, 0) 124 [.null, .null, .null, .null, .null] [.int s0, .ref s1] h (QZ z) := by
  obtain ⟨_, h1, hf⟩ := bnd hf
  obtain ⟨fs, ho⟩ := isO_ok h1
  obtain ⟨r, h2, hf⟩ := bnd hf
  refine ev_V kqX8_read_124 jX8_fail (zX8_fail (d := d + 8) h2) ho rfl rfl (Nat.le_of_ble_eq_true rfl) rfl (as := [.int s0]) (rest := []) rfl (Nat.le_of_ble_eq_true rfl) (fun _ _ hq => ?_)
  obtain ⟨-, rfl, rfl⟩ := hq
  exact jm [0, 0, 0, 0, 0] (fX8_read_127 r.1 r.2) (fun q => tX8_read_127 r.1 r.2 q) hf
def wX8_read_121 : List En := [(.aload_n 0, 0, 0, 0), (.bipush 6, 0, 0, 0)]
def fX8_read_121 (v0 : Nat) (h : aH) : Option (Int32 × aH) :=
  fX8_read_124 (kB 6) v0 h
theorem tX8_read_121 {d : Nat} {z : Int32 × aH} (v0 : Nat) (h : aH) (hf : fX8_read_121 v0 h = some z) : Ev (d + 9) none mX8_read (0, 0) 121 [.ref v0, .null, .null, .null, .null] [] h (QZ z) := 
  go_ok (X := none) (blk := wX8_read_121) (np := 124) (tt := 0) (kN := fun xs h st => app [0, 0, 0, 0, 0] (apS [1, 2] (fun s0 s1 => fX8_read_124 s0 s1 h) st) xs) (kT := fun _ _ _ => none) (kR := kRZ)
    (fun xs h st q => jm [0, 0, 0, 0, 0] _ (fun q => apS_ok [1, 2] _ (fun st => Ev (d + 9) none mX8_read (0, 0) 124 [.null, .null, .null, .null, .null] st h (QZ z)) st (fun s0 s1 q => tX8_read_124 s0 s1 h q) q) q)
    (fun _ _ _ q => nos q)
    kRZ_ok (Or.inr rfl) (by decide +kernel) (by decide +kernel) hf
def wX8_read_118 : List En := [(.ifCond .ne 10, 128, 0, 0)]
def fX8_read_118 (v0 : Nat) (v3 : Int32) (s0 : Int32) (h : aH) : Option (Int32 × aH) :=
  if s0 = 0 then fX8_read_121 v0 h else fX8_read_128 v3 h
theorem tX8_read_118 {d : Nat} {z : Int32 × aH} (v0 : Nat) (v3 : Int32) (s0 : Int32) (h : aH) (hf : fX8_read_118 v0 v3 s0 h = some z) : Ev (d + 9) none mX8_read (0, 0) 118 [.ref v0, .null, .null, .int v3, .null] [.int s0] h (QZ z) := 
  go_ok (X := none) (blk := wX8_read_118) (np := 121) (tt := 128) (kN := fun xs h st => app [2, 0, 0, 0, 0] (fun v0 => apS [] (fX8_read_121 v0 h) st) xs) (kT := fun xs h st => app [0, 0, 0, 1, 0] (fun v3 => apS [] (fX8_read_128 v3 h) st) xs) (kR := kRZ)
    (fun xs h st q => jm [2, 0, 0, 0, 0] _ (fun v0 q => apS_ok [] _ (fun st => Ev (d + 9) none mX8_read (0, 0) 121 [.ref v0, .null, .null, .null, .null] st h (QZ z)) st (fun q => tX8_read_121 v0 h q) q) q)
    (fun xs h st q => jm [0, 0, 0, 1, 0] _ (fun v3 q => apS_ok [] _ (fun st => Ev (d + 9) none mX8_read (0, 0) 128 [.null, .null, .null, .int v3, .null] st h (QZ z)) st (fun q => tX8_read_128 v3 h q) q) q)
    kRZ_ok (Or.inr rfl) (by decide +kernel) (by decide +kernel) hf
theorem kqX8_read_115 : okC mX8_read 115 (.invokevirtual 80) 48 32 0 1 = true := by decide +kernel
def fX8_read_115 (v0 : Nat) (v3 : Int32) (s0 : Int32) (s1 : Nat) (h : aH) : Option (Int32 × aH) :=
  (isO h 9 s1).bind fun _ =>
  (gX9_hasFrom s1 s0 h).bind fun r =>
  fX8_read_118 v0 v3 r.1 r.2
theorem tX8_read_115 {d : Nat} {z : Int32 × aH} (v0 : Nat) (v3 : Int32) (s0 : Int32) (s1 : Nat) (h : aH) (hf : fX8_read_115 v0 v3 s0 s1 h = some z) : Ev (d + 9) none mX8_read (0, 0) 115 [.ref v0, .null, .null, .int v3, .null] [.int s0, .ref s1] h (QZ z) := by
  obtain ⟨_, h1, hf⟩ := bnd hf
  obtain ⟨fs, ho⟩ := isO_ok h1
  obtain ⟨r, h2, hf⟩ := bnd hf
  refine ev_V kqX8_read_115 jX9_hasFrom (zX9_hasFrom (d := d + 8) h2) ho rfl rfl (Nat.le_of_ble_eq_true rfl) rfl (as := [.int s0]) (rest := []) rfl (Nat.le_of_ble_eq_true rfl) (fun _ _ hq => ?_)
  obtain ⟨-, rfl, rfl⟩ := hq
  exact jm [2, 0, 0, 1, 0] (fun v0 v3 => fX8_read_118 v0 v3 r.1 r.2) (fun v0 v3 q => tX8_read_118 v0 v3 r.1 r.2 q) hf
def wX8_read_113 : List En := [(.aload_n 2, 0, 0, 0), (.iconst 0, 0, 0, 0)]
def fX8_read_113 (v0 : Nat) (v2 : Nat) (v3 : Int32) (h : aH) : Option (Int32 × aH) :=
  fX8_read_115 v0 v3 (kI 0) v2 h
theorem tX8_read_113 {d : Nat} {z : Int32 × aH} (v0 : Nat) (v2 : Nat) (v3 : Int32) (h : aH) (hf : fX8_read_113 v0 v2 v3 h = some z) : Ev (d + 9) none mX8_read (0, 0) 113 [.ref v0, .null, .ref v2, .int v3, .null] [] h (QZ z) := 
  go_ok (X := none) (blk := wX8_read_113) (np := 115) (tt := 0) (kN := fun xs h st => app [2, 0, 0, 1, 0] (fun v0 v3 => apS [1, 2] (fun s0 s1 => fX8_read_115 v0 v3 s0 s1 h) st) xs) (kT := fun _ _ _ => none) (kR := kRZ)
    (fun xs h st q => jm [2, 0, 0, 1, 0] _ (fun v0 v3 q => apS_ok [1, 2] _ (fun st => Ev (d + 9) none mX8_read (0, 0) 115 [.ref v0, .null, .null, .int v3, .null] st h (QZ z)) st (fun s0 s1 q => tX8_read_115 v0 v3 s0 s1 h q) q) q)
    (fun _ _ _ q => nos q)
    kRZ_ok (Or.inr rfl) (by decide +kernel) (by decide +kernel) hf
def wX8_read_106 : List En := [(.aload_n 2, 0, 0, 0), (.getfield 77, 111, 9, 3), (.ifCond .eq 11, 121, 0, 0)]
def fX8_read_106 (v0 : Nat) (v2 : Nat) (v3 : Int32) (h : aH) : Option (Int32 × aH) :=
  (gFI h 9 v2 3).bind fun t1 =>
  if t1 = 0 then fX8_read_121 v0 h else fX8_read_113 v0 v2 v3 h
theorem tX8_read_106 {d : Nat} {z : Int32 × aH} (v0 : Nat) (v2 : Nat) (v3 : Int32) (h : aH) (hf : fX8_read_106 v0 v2 v3 h = some z) : Ev (d + 9) none mX8_read (0, 0) 106 [.ref v0, .null, .ref v2, .int v3, .null] [] h (QZ z) := 
  go_ok (X := none) (blk := wX8_read_106) (np := 113) (tt := 121) (kN := fun xs h st => app [2, 0, 2, 1, 0] (fun v0 v2 v3 => apS [] (fX8_read_113 v0 v2 v3 h) st) xs) (kT := fun xs h st => app [2, 0, 0, 0, 0] (fun v0 => apS [] (fX8_read_121 v0 h) st) xs) (kR := kRZ)
    (fun xs h st q => jm [2, 0, 2, 1, 0] _ (fun v0 v2 v3 q => apS_ok [] _ (fun st => Ev (d + 9) none mX8_read (0, 0) 113 [.ref v0, .null, .ref v2, .int v3, .null] st h (QZ z)) st (fun q => tX8_read_113 v0 v2 v3 h q) q) q)
    (fun xs h st q => jm [2, 0, 0, 0, 0] _ (fun v0 q => apS_ok [] _ (fun st => Ev (d + 9) none mX8_read (0, 0) 121 [.ref v0, .null, .null, .null, .null] st h (QZ z)) st (fun q => tX8_read_121 v0 h q) q) q)
    kRZ_ok (Or.inr rfl) (by decide +kernel) (by decide +kernel) hf
def wX8_read_102 : List En := [(.iload_n 3, 0, 0, 0), (.ifCond .eq 25, 128, 0, 0)]
def fX8_read_102 (v0 : Nat) (v2 : Nat) (v3 : Int32) (h : aH) : Option (Int32 × aH) :=
  if v3 = 0 then fX8_read_128 v3 h else fX8_read_106 v0 v2 v3 h
theorem tX8_read_102 {d : Nat} {z : Int32 × aH} (v0 : Nat) (v2 : Nat) (v3 : Int32) (h : aH) (hf : fX8_read_102 v0 v2 v3 h = some z) : Ev (d + 9) none mX8_read (0, 0) 102 [.ref v0, .null, .ref v2, .int v3, .null] [] h (QZ z) := 
  go_ok (X := none) (blk := wX8_read_102) (np := 106) (tt := 128) (kN := fun xs h st => app [2, 0, 2, 1, 0] (fun v0 v2 v3 => apS [] (fX8_read_106 v0 v2 v3 h) st) xs) (kT := fun xs h st => app [0, 0, 0, 1, 0] (fun v3 => apS [] (fX8_read_128 v3 h) st) xs) (kR := kRZ)
    (fun xs h st q => jm [2, 0, 2, 1, 0] _ (fun v0 v2 v3 q => apS_ok [] _ (fun st => Ev (d + 9) none mX8_read (0, 0) 106 [.ref v0, .null, .ref v2, .int v3, .null] st h (QZ z)) st (fun q => tX8_read_106 v0 v2 v3 h q) q) q)
    (fun xs h st q => jm [0, 0, 0, 1, 0] _ (fun v3 q => apS_ok [] _ (fun st => Ev (d + 9) none mX8_read (0, 0) 128 [.null, .null, .null, .int v3, .null] st h (QZ z)) st (fun q => tX8_read_128 v3 h q) q) q)
    kRZ_ok (Or.inr rfl) (by decide +kernel) (by decide +kernel) hf
def wX8_read_95 : List En := [(.istore_n 3, 0, 0, 0), (.iinc 4 1, 0, 0, 0), (.goto (-46), 53, 0, 0)]
def fX8_read_95 (k53 : Nat → Nat → Int32 → Int32 → aH → Option (Int32 × aH)) (v0 : Nat) (v2 : Nat) (v4 : Int32) (s0 : Int32) (h : aH) : Option (Int32 × aH) :=
  k53 v0 v2 s0 (v4 + kI 1) h
theorem tX8_read_95 {d : Nat} {z : Int32 × aH} {k53 : Nat → Nat → Int32 → Int32 → aH → Option (Int32 × aH)} (hk53 : ∀ (v0 : Nat) (v2 : Nat) (v3 : Int32) (v4 : Int32) (h : aH), k53 v0 v2 v3 v4 h = some z → Ev (d + 9) none mX8_read (0, 0) 53 [.ref v0, .null, .ref v2, .int v3, .int v4] [] h (QZ z)) (v0 : Nat) (v2 : Nat) (v4 : Int32) (s0 : Int32) (h : aH) (hf : fX8_read_95 k53 v0 v2 v4 s0 h = some z) : Ev (d + 9) none mX8_read (0, 0) 95 [.ref v0, .null, .ref v2, .null, .int v4] [.int s0] h (QZ z) := 
  go_ok (X := none) (blk := wX8_read_95) (np := 102) (tt := 53) (kN := fun _ _ _ => none) (kT := fun xs h st => app [2, 0, 2, 1, 1] (fun v0 v2 v3 v4 => apS [] (k53 v0 v2 v3 v4 h) st) xs) (kR := kRZ)
    (fun _ _ _ q => nos q)
    (fun xs h st q => jm [2, 0, 2, 1, 1] _ (fun v0 v2 v3 v4 q => apS_ok [] _ (fun st => Ev (d + 9) none mX8_read (0, 0) 53 [.ref v0, .null, .ref v2, .int v3, .int v4] st h (QZ z)) st (fun q => hk53 v0 v2 v3 v4 h q) q) q)
    kRZ_ok (Or.inr rfl) (by decide +kernel) (by decide +kernel) hf
theorem kqX8_read_92 : okC mX8_read 92 (.invokevirtual 66) 23 16 0 1 = true := by decide +kernel
def fX8_read_92 (k53 : Nat → Nat → Int32 → Int32 → aH → Option (Int32 × aH)) (v0 : Nat) (v2 : Nat) (v4 : Int32) (s0 : Nat) (s1 : Nat) (h : aH) : Option (Int32 × aH) :=
  (isO h 8 s1).bind fun _ =>
  (gX8_readLine s1 s0 h).bind fun r =>
  fX8_read_95 k53 v0 v2 v4 r.1 r.2
theorem tX8_read_92 {d : Nat} {z : Int32 × aH} {k53 : Nat → Nat → Int32 → Int32 → aH → Option (Int32 × aH)} (hk53 : ∀ (v0 : Nat) (v2 : Nat) (v3 : Int32) (v4 : Int32) (h : aH), k53 v0 v2 v3 v4 h = some z → Ev (d + 9) none mX8_read (0, 0) 53 [.ref v0, .null, .ref v2, .int v3, .int v4] [] h (QZ z)) (v0 : Nat) (v2 : Nat) (v4 : Int32) (s0 : Nat) (s1 : Nat) (h : aH) (hf : fX8_read_92 k53 v0 v2 v4 s0 s1 h = some z) : Ev (d + 9) none mX8_read (0, 0) 92 [.ref v0, .null, .ref v2, .null, .int v4] [.ref s0, .ref s1] h (QZ z) := by
  obtain ⟨_, h1, hf⟩ := bnd hf
  obtain ⟨fs, ho⟩ := isO_ok h1
  obtain ⟨r, h2, hf⟩ := bnd hf
  refine ev_V kqX8_read_92 jX8_readLine (zX8_readLine (d := d + 0) h2) ho rfl rfl (Nat.le_of_ble_eq_true rfl) rfl (as := [.ref s0]) (rest := []) rfl (Nat.le_of_ble_eq_true rfl) (fun _ _ hq => ?_)
  obtain ⟨-, rfl, rfl⟩ := hq
  exact jm [2, 0, 2, 0, 1] (fun v0 v2 v4 => fX8_read_95 k53 v0 v2 v4 r.1 r.2) (fun v0 v2 v4 q => tX8_read_95 hk53 v0 v2 v4 r.1 r.2 q) hf
def wX8_read_90 : List En := [(.aload_n 0, 0, 0, 0), (.aload_n 2, 0, 0, 0)]
def fX8_read_90 (k53 : Nat → Nat → Int32 → Int32 → aH → Option (Int32 × aH)) (v0 : Nat) (v2 : Nat) (v4 : Int32) (h : aH) : Option (Int32 × aH) :=
  fX8_read_92 k53 v0 v2 v4 v2 v0 h
theorem tX8_read_90 {d : Nat} {z : Int32 × aH} {k53 : Nat → Nat → Int32 → Int32 → aH → Option (Int32 × aH)} (hk53 : ∀ (v0 : Nat) (v2 : Nat) (v3 : Int32) (v4 : Int32) (h : aH), k53 v0 v2 v3 v4 h = some z → Ev (d + 9) none mX8_read (0, 0) 53 [.ref v0, .null, .ref v2, .int v3, .int v4] [] h (QZ z)) (v0 : Nat) (v2 : Nat) (v4 : Int32) (h : aH) (hf : fX8_read_90 k53 v0 v2 v4 h = some z) : Ev (d + 9) none mX8_read (0, 0) 90 [.ref v0, .null, .ref v2, .null, .int v4] [] h (QZ z) := 
  go_ok (X := none) (blk := wX8_read_90) (np := 92) (tt := 0) (kN := fun xs h st => app [2, 0, 2, 0, 1] (fun v0 v2 v4 => apS [2, 2] (fun s0 s1 => fX8_read_92 k53 v0 v2 v4 s0 s1 h) st) xs) (kT := fun _ _ _ => none) (kR := kRZ)
    (fun xs h st q => jm [2, 0, 2, 0, 1] _ (fun v0 v2 v4 q => apS_ok [2, 2] _ (fun st => Ev (d + 9) none mX8_read (0, 0) 92 [.ref v0, .null, .ref v2, .null, .int v4] st h (QZ z)) st (fun s0 s1 q => tX8_read_92 hk53 v0 v2 v4 s0 s1 h q) q) q)
    (fun _ _ _ q => nos q)
    kRZ_ok (Or.inr rfl) (by decide +kernel) (by decide +kernel) hf
theorem kqX8_read_87 : okC mX8_read 87 (.invokevirtual 63) 18 11 0 0 = true := by decide +kernel
def fX8_read_87 (k53 : Nat → Nat → Int32 → Int32 → aH → Option (Int32 × aH)) (v0 : Nat) (v2 : Nat) (v4 : Int32) (s0 : Nat) (h : aH) : Option (Int32 × aH) :=
  (isO h 8 s0).bind fun _ =>
  (gX8_step s0 h).bind fun r =>
  fX8_read_90 k53 v0 v2 v4 r
theorem tX8_read_87 {d : Nat} {z : Int32 × aH} {k53 : Nat → Nat → Int32 → Int32 → aH → Option (Int32 × aH)} (hk53 : ∀ (v0 : Nat) (v2 : Nat) (v3 : Int32) (v4 : Int32) (h : aH), k53 v0 v2 v3 v4 h = some z → Ev (d + 9) none mX8_read (0, 0) 53 [.ref v0, .null, .ref v2, .int v3, .int v4] [] h (QZ z)) (v0 : Nat) (v2 : Nat) (v4 : Int32) (s0 : Nat) (h : aH) (hf : fX8_read_87 k53 v0 v2 v4 s0 h = some z) : Ev (d + 9) none mX8_read (0, 0) 87 [.ref v0, .null, .ref v2, .null, .int v4] [.ref s0] h (QZ z) := by
  obtain ⟨_, h1, hf⟩ := bnd hf
  obtain ⟨fs, ho⟩ := isO_ok h1
  obtain ⟨r, h2, hf⟩ := bnd hf
  refine ev_V kqX8_read_87 jX8_step (zX8_step (d := d + 6) h2) ho rfl rfl (Nat.le_of_ble_eq_true rfl) rfl (as := []) (rest := []) rfl (Nat.le_of_ble_eq_true rfl) (fun _ _ hq => ?_)
  obtain ⟨rfl, hh⟩ := hq
  rw [hh]
  exact jm [2, 0, 2, 0, 1] (fun v0 v2 v4 => fX8_read_90 k53 v0 v2 v4 r) (fun v0 v2 v4 q => tX8_read_90 hk53 v0 v2 v4 r q) hf
def wX8_read_86 : List En := [(.aload_n 0, 0, 0, 0)]
def fX8_read_86 (k53 : Nat → Nat → Int32 → Int32 → aH → Option (Int32 × aH)) (v0 : Nat) (v2 : Nat) (v4 : Int32) (h : aH) : Option (Int32 × aH) :=
  fX8_read_87 k53 v0 v2 v4 v0 h
theorem tX8_read_86 {d : Nat} {z : Int32 × aH} {k53 : Nat → Nat → Int32 → Int32 → aH → Option (Int32 × aH)} (hk53 : ∀ (v0 : Nat) (v2 : Nat) (v3 : Int32) (v4 : Int32) (h : aH), k53 v0 v2 v3 v4 h = some z → Ev (d + 9) none mX8_read (0, 0) 53 [.ref v0, .null, .ref v2, .int v3, .int v4] [] h (QZ z)) (v0 : Nat) (v2 : Nat) (v4 : Int32) (h : aH) (hf : fX8_read_86 k53 v0 v2 v4 h = some z) : Ev (d + 9) none mX8_read (0, 0) 86 [.ref v0, .null, .ref v2, .null, .int v4] [] h (QZ z) := 
  go_ok (X := none) (blk := wX8_read_86) (np := 87) (tt := 0) (kN := fun xs h st => app [2, 0, 2, 0, 1] (fun v0 v2 v4 => apS [2] (fun s0 => fX8_read_87 k53 v0 v2 v4 s0 h) st) xs) (kT := fun _ _ _ => none) (kR := kRZ)
    (fun xs h st q => jm [2, 0, 2, 0, 1] _ (fun v0 v2 v4 q => apS_ok [2] _ (fun st => Ev (d + 9) none mX8_read (0, 0) 87 [.ref v0, .null, .ref v2, .null, .int v4] st h (QZ z)) st (fun s0 q => tX8_read_87 hk53 v0 v2 v4 s0 h q) q) q)
    (fun _ _ _ q => nos q)
    kRZ_ok (Or.inr rfl) (by decide +kernel) (by decide +kernel) hf
def wX8_read_85 : List En := [(.ireturn, 0, 0, 0)]
def fX8_read_85 (s0 : Int32) (h : aH) : Option (Int32 × aH) :=
  if s0 = 0 ∨ s0 = 1 then some (s0, h) else none
theorem tX8_read_85 {d : Nat} {z : Int32 × aH} (s0 : Int32) (h : aH) (hf : fX8_read_85 s0 h = some z) : Ev (d + 9) none mX8_read (0, 0) 85 [.null, .null, .null, .null, .null] [.int s0] h (QZ z) := 
  go_ok (X := none) (blk := wX8_read_85) (np := 86) (tt := 0) (kN := fun _ _ _ => none) (kT := fun _ _ _ => none) (kR := kRZ)
    (fun _ _ _ q => nos q)
    (fun _ _ _ q => nos q)
    kRZ_ok (Or.inr rfl) (by decide +kernel) (by decide +kernel) hf
theorem kqX8_read_82 : okC mX8_read 82 (.invokevirtual 73) 37 21 0 1 = true := by decide +kernel
def fX8_read_82 (s0 : Int32) (s1 : Nat) (h : aH) : Option (Int32 × aH) :=
  (isO h 8 s1).bind fun _ =>
  (gX8_fail s1 s0 h).bind fun r =>
  fX8_read_85 r.1 r.2
theorem tX8_read_82 {d : Nat} {z : Int32 × aH} (s0 : Int32) (s1 : Nat) (h : aH) (hf : fX8_read_82 s0 s1 h = some z) : Ev (d + 9) none mX8_read (0, 0) 82 [.null, .null, .null, .null, .null] [.int s0, .ref s1] h (QZ z) := by
  obtain ⟨_, h1, hf⟩ := bnd hf
  obtain ⟨fs, ho⟩ := isO_ok h1
  obtain ⟨r, h2, hf⟩ := bnd hf
  refine ev_V kqX8_read_82 jX8_fail (zX8_fail (d := d + 8) h2) ho rfl rfl (Nat.le_of_ble_eq_true rfl) rfl (as := [.int s0]) (rest := []) rfl (Nat.le_of_ble_eq_true rfl) (fun _ _ hq => ?_)
  obtain ⟨-, rfl, rfl⟩ := hq
  exact jm [0, 0, 0, 0, 0] (fX8_read_85 r.1 r.2) (fun q => tX8_read_85 r.1 r.2 q) hf
def wX8_read_80 : List En := [(.aload_n 0, 0, 0, 0), (.iconst 1, 0, 0, 0)]
def fX8_read_80 (v0 : Nat) (h : aH) : Option (Int32 × aH) :=
  fX8_read_82 (kI 1) v0 h
theorem tX8_read_80 {d : Nat} {z : Int32 × aH} (v0 : Nat) (h : aH) (hf : fX8_read_80 v0 h = some z) : Ev (d + 9) none mX8_read (0, 0) 80 [.ref v0, .null, .null, .null, .null] [] h (QZ z) := 
  go_ok (X := none) (blk := wX8_read_80) (np := 82) (tt := 0) (kN := fun xs h st => app [0, 0, 0, 0, 0] (apS [1, 2] (fun s0 s1 => fX8_read_82 s0 s1 h) st) xs) (kT := fun _ _ _ => none) (kR := kRZ)
    (fun xs h st q => jm [0, 0, 0, 0, 0] _ (fun q => apS_ok [1, 2] _ (fun st => Ev (d + 9) none mX8_read (0, 0) 82 [.null, .null, .null, .null, .null] st h (QZ z)) st (fun s0 s1 q => tX8_read_82 s0 s1 h q) q) q)
    (fun _ _ _ q => nos q)
    kRZ_ok (Or.inr rfl) (by decide +kernel) (by decide +kernel) hf
def wX8_read_72 : List En := [(.aload_n 0, 0, 0, 0), (.getfield 70, 15, 8, 12), (.iconst 4, 0, 0, 0), (.if_icmp .eq 9, 86, 0, 0)]
def fX8_read_72 (k53 : Nat → Nat → Int32 → Int32 → aH → Option (Int32 × aH)) (v0 : Nat) (v2 : Nat) (v4 : Int32) (h : aH) : Option (Int32 × aH) :=
  (gFI h 8 v0 12).bind fun t1 =>
  if t1 = (kI 4) then fX8_read_86 k53 v0 v2 v4 h else fX8_read_80 v0 h
theorem tX8_read_72 {d : Nat} {z : Int32 × aH} {k53 : Nat → Nat → Int32 → Int32 → aH → Option (Int32 × aH)} (hk53 : ∀ (v0 : Nat) (v2 : Nat) (v3 : Int32) (v4 : Int32) (h : aH), k53 v0 v2 v3 v4 h = some z → Ev (d + 9) none mX8_read (0, 0) 53 [.ref v0, .null, .ref v2, .int v3, .int v4] [] h (QZ z)) (v0 : Nat) (v2 : Nat) (v4 : Int32) (h : aH) (hf : fX8_read_72 k53 v0 v2 v4 h = some z) : Ev (d + 9) none mX8_read (0, 0) 72 [.ref v0, .null, .ref v2, .null, .int v4] [] h (QZ z) := 
  go_ok (X := none) (blk := wX8_read_72) (np := 80) (tt := 86) (kN := fun xs h st => app [2, 0, 0, 0, 0] (fun v0 => apS [] (fX8_read_80 v0 h) st) xs) (kT := fun xs h st => app [2, 0, 2, 0, 1] (fun v0 v2 v4 => apS [] (fX8_read_86 k53 v0 v2 v4 h) st) xs) (kR := kRZ)
    (fun xs h st q => jm [2, 0, 0, 0, 0] _ (fun v0 q => apS_ok [] _ (fun st => Ev (d + 9) none mX8_read (0, 0) 80 [.ref v0, .null, .null, .null, .null] st h (QZ z)) st (fun q => tX8_read_80 v0 h q) q) q)
    (fun xs h st q => jm [2, 0, 2, 0, 1] _ (fun v0 v2 v4 q => apS_ok [] _ (fun st => Ev (d + 9) none mX8_read (0, 0) 86 [.ref v0, .null, .ref v2, .null, .int v4] st h (QZ z)) st (fun q => tX8_read_86 hk53 v0 v2 v4 h q) q) q)
    kRZ_ok (Or.inr rfl) (by decide +kernel) (by decide +kernel) hf
def wX8_read_65 : List En := [(.aload_n 0, 0, 0, 0), (.getfield 70, 15, 8, 12), (.ifCond .eq 33, 102, 0, 0)]
def fX8_read_65 (k53 : Nat → Nat → Int32 → Int32 → aH → Option (Int32 × aH)) (v0 : Nat) (v2 : Nat) (v3 : Int32) (v4 : Int32) (h : aH) : Option (Int32 × aH) :=
  (gFI h 8 v0 12).bind fun t1 =>
  if t1 = 0 then fX8_read_102 v0 v2 v3 h else fX8_read_72 k53 v0 v2 v4 h
theorem tX8_read_65 {d : Nat} {z : Int32 × aH} {k53 : Nat → Nat → Int32 → Int32 → aH → Option (Int32 × aH)} (hk53 : ∀ (v0 : Nat) (v2 : Nat) (v3 : Int32) (v4 : Int32) (h : aH), k53 v0 v2 v3 v4 h = some z → Ev (d + 9) none mX8_read (0, 0) 53 [.ref v0, .null, .ref v2, .int v3, .int v4] [] h (QZ z)) (v0 : Nat) (v2 : Nat) (v3 : Int32) (v4 : Int32) (h : aH) (hf : fX8_read_65 k53 v0 v2 v3 v4 h = some z) : Ev (d + 9) none mX8_read (0, 0) 65 [.ref v0, .null, .ref v2, .int v3, .int v4] [] h (QZ z) := 
  go_ok (X := none) (blk := wX8_read_65) (np := 72) (tt := 102) (kN := fun xs h st => app [2, 0, 2, 0, 1] (fun v0 v2 v4 => apS [] (fX8_read_72 k53 v0 v2 v4 h) st) xs) (kT := fun xs h st => app [2, 0, 2, 1, 0] (fun v0 v2 v3 => apS [] (fX8_read_102 v0 v2 v3 h) st) xs) (kR := kRZ)
    (fun xs h st q => jm [2, 0, 2, 0, 1] _ (fun v0 v2 v4 q => apS_ok [] _ (fun st => Ev (d + 9) none mX8_read (0, 0) 72 [.ref v0, .null, .ref v2, .null, .int v4] st h (QZ z)) st (fun q => tX8_read_72 hk53 v0 v2 v4 h q) q) q)
    (fun xs h st q => jm [2, 0, 2, 1, 0] _ (fun v0 v2 v3 q => apS_ok [] _ (fun st => Ev (d + 9) none mX8_read (0, 0) 102 [.ref v0, .null, .ref v2, .int v3, .null] st h (QZ z)) st (fun q => tX8_read_102 v0 v2 v3 h q) q) q)
    kRZ_ok (Or.inr rfl) (by decide +kernel) (by decide +kernel) hf
def wX8_read_61 : List En := [(.iload_n 3, 0, 0, 0), (.ifCond .eq 40, 102, 0, 0)]
def fX8_read_61 (k53 : Nat → Nat → Int32 → Int32 → aH → Option (Int32 × aH)) (v0 : Nat) (v2 : Nat) (v3 : Int32) (v4 : Int32) (h : aH) : Option (Int32 × aH) :=
  if v3 = 0 then fX8_read_102 v0 v2 v3 h else fX8_read_65 k53 v0 v2 v3 v4 h
theorem tX8_read_61 {d : Nat} {z : Int32 × aH} {k53 : Nat → Nat → Int32 → Int32 → aH → Option (Int32 × aH)} (hk53 : ∀ (v0 : Nat) (v2 : Nat) (v3 : Int32) (v4 : Int32) (h : aH), k53 v0 v2 v3 v4 h = some z → Ev (d + 9) none mX8_read (0, 0) 53 [.ref v0, .null, .ref v2, .int v3, .int v4] [] h (QZ z)) (v0 : Nat) (v2 : Nat) (v3 : Int32) (v4 : Int32) (h : aH) (hf : fX8_read_61 k53 v0 v2 v3 v4 h = some z) : Ev (d + 9) none mX8_read (0, 0) 61 [.ref v0, .null, .ref v2, .int v3, .int v4] [] h (QZ z) := 
  go_ok (X := none) (blk := wX8_read_61) (np := 65) (tt := 102) (kN := fun xs h st => app [2, 0, 2, 1, 1] (fun v0 v2 v3 v4 => apS [] (fX8_read_65 k53 v0 v2 v3 v4 h) st) xs) (kT := fun xs h st => app [2, 0, 2, 1, 0] (fun v0 v2 v3 => apS [] (fX8_read_102 v0 v2 v3 h) st) xs) (kR := kRZ)
    (fun xs h st q => jm [2, 0, 2, 1, 1] _ (fun v0 v2 v3 v4 q => apS_ok [] _ (fun st => Ev (d + 9) none mX8_read (0, 0) 65 [.ref v0, .null, .ref v2, .int v3, .int v4] st h (QZ z)) st (fun q => tX8_read_65 hk53 v0 v2 v3 v4 h q) q) q)
    (fun xs h st q => jm [2, 0, 2, 1, 0] _ (fun v0 v2 v3 q => apS_ok [] _ (fun st => Ev (d + 9) none mX8_read (0, 0) 102 [.ref v0, .null, .ref v2, .int v3, .null] st h (QZ z)) st (fun q => tX8_read_102 v0 v2 v3 h q) q) q)
    kRZ_ok (Or.inr rfl) (by decide +kernel) (by decide +kernel) hf
def wX8_read_53 : List En := [(.iload 4, 0, 0, 0), (.sipush 700, 0, 0, 0), (.if_icmp .ge 44, 102, 0, 0)]
def fX8_read_53 (k53 : Nat → Nat → Int32 → Int32 → aH → Option (Int32 × aH)) (v0 : Nat) (v2 : Nat) (v3 : Int32) (v4 : Int32) (h : aH) : Option (Int32 × aH) :=
  if v4 < (kS 700) then fX8_read_61 k53 v0 v2 v3 v4 h else fX8_read_102 v0 v2 v3 h
theorem tX8_read_53 {d : Nat} {z : Int32 × aH} {k53 : Nat → Nat → Int32 → Int32 → aH → Option (Int32 × aH)} (hk53 : ∀ (v0 : Nat) (v2 : Nat) (v3 : Int32) (v4 : Int32) (h : aH), k53 v0 v2 v3 v4 h = some z → Ev (d + 9) none mX8_read (0, 0) 53 [.ref v0, .null, .ref v2, .int v3, .int v4] [] h (QZ z)) (v0 : Nat) (v2 : Nat) (v3 : Int32) (v4 : Int32) (h : aH) (hf : fX8_read_53 k53 v0 v2 v3 v4 h = some z) : Ev (d + 9) none mX8_read (0, 0) 53 [.ref v0, .null, .ref v2, .int v3, .int v4] [] h (QZ z) := 
  go_ok (X := none) (blk := wX8_read_53) (np := 61) (tt := 102) (kN := fun xs h st => app [2, 0, 2, 1, 1] (fun v0 v2 v3 v4 => apS [] (fX8_read_61 k53 v0 v2 v3 v4 h) st) xs) (kT := fun xs h st => app [2, 0, 2, 1, 0] (fun v0 v2 v3 => apS [] (fX8_read_102 v0 v2 v3 h) st) xs) (kR := kRZ)
    (fun xs h st q => jm [2, 0, 2, 1, 1] _ (fun v0 v2 v3 v4 q => apS_ok [] _ (fun st => Ev (d + 9) none mX8_read (0, 0) 61 [.ref v0, .null, .ref v2, .int v3, .int v4] st h (QZ z)) st (fun q => tX8_read_61 hk53 v0 v2 v3 v4 h q) q) q)
    (fun xs h st q => jm [2, 0, 2, 1, 0] _ (fun v0 v2 v3 q => apS_ok [] _ (fun st => Ev (d + 9) none mX8_read (0, 0) 102 [.ref v0, .null, .ref v2, .int v3, .null] st h (QZ z)) st (fun q => tX8_read_102 v0 v2 v3 h q) q) q)
    kRZ_ok (Or.inr rfl) (by decide +kernel) (by decide +kernel) hf
def lX8_read_53 : Nat → Nat → Nat → Int32 → Int32 → aH → Option (Int32 × aH)
  | 0, _, _, _, _, _ => none
  | n + 1, v0, v2, v3, v4, h => fX8_read_53 (lX8_read_53 n) v0 v2 v3 v4 h
theorem uX8_read_53 {d : Nat} {z : Int32 × aH} : ∀ (n : Nat) (v0 : Nat) (v2 : Nat) (v3 : Int32) (v4 : Int32) (h : aH), lX8_read_53 n v0 v2 v3 v4 h = some z → Ev (d + 9) none mX8_read (0, 0) 53 [.ref v0, .null, .ref v2, .int v3, .int v4] [] h (QZ z) := by
  intro n
  induction n with
  | zero => intro _ _ _ _ _ q; exact nos (show (none : Option (Int32 × aH)) = some z from q)
  | succ n ih => intro v0 v2 v3 v4 h q; exact tX8_read_53 ih v0 v2 v3 v4 h q
def wX8_read_49 : List En := [(.istore_n 3, 0, 0, 0), (.iconst 0, 0, 0, 0), (.istore 4, 0, 0, 0)]
def fX8_read_49 (v0 : Nat) (v2 : Nat) (s0 : Int32) (h : aH) : Option (Int32 × aH) :=
  lX8_read_53 FU v0 v2 s0 (kI 0) h
theorem tX8_read_49 {d : Nat} {z : Int32 × aH} (v0 : Nat) (v2 : Nat) (s0 : Int32) (h : aH) (hf : fX8_read_49 v0 v2 s0 h = some z) : Ev (d + 9) none mX8_read (0, 0) 49 [.ref v0, .null, .ref v2, .null, .null] [.int s0] h (QZ z) := 
  go_ok (X := none) (blk := wX8_read_49) (np := 53) (tt := 0) (kN := fun xs h st => app [2, 0, 2, 1, 1] (fun v0 v2 v3 v4 => apS [] (lX8_read_53 FU v0 v2 v3 v4 h) st) xs) (kT := fun _ _ _ => none) (kR := kRZ)
    (fun xs h st q => jm [2, 0, 2, 1, 1] _ (fun v0 v2 v3 v4 q => apS_ok [] _ (fun st => Ev (d + 9) none mX8_read (0, 0) 53 [.ref v0, .null, .ref v2, .int v3, .int v4] st h (QZ z)) st (fun q => uX8_read_53 FU v0 v2 v3 v4 h q) q) q)
    (fun _ _ _ q => nos q)
    kRZ_ok (Or.inr rfl) (by decide +kernel) (by decide +kernel) hf
theorem kqX8_read_46 : okC mX8_read 46 (.invokevirtual 66) 23 16 0 1 = true := by decide +kernel
def fX8_read_46 (v0 : Nat) (v2 : Nat) (s0 : Nat) (s1 : Nat) (h : aH) : Option (Int32 × aH) :=
  (isO h 8 s1).bind fun _ =>
  (gX8_readLine s1 s0 h).bind fun r =>
  fX8_read_49 v0 v2 r.1 r.2
theorem tX8_read_46 {d : Nat} {z : Int32 × aH} (v0 : Nat) (v2 : Nat) (s0 : Nat) (s1 : Nat) (h : aH) (hf : fX8_read_46 v0 v2 s0 s1 h = some z) : Ev (d + 9) none mX8_read (0, 0) 46 [.ref v0, .null, .ref v2, .null, .null] [.ref s0, .ref s1] h (QZ z) := by
  obtain ⟨_, h1, hf⟩ := bnd hf
  obtain ⟨fs, ho⟩ := isO_ok h1
  obtain ⟨r, h2, hf⟩ := bnd hf
  refine ev_V kqX8_read_46 jX8_readLine (zX8_readLine (d := d + 0) h2) ho rfl rfl (Nat.le_of_ble_eq_true rfl) rfl (as := [.ref s0]) (rest := []) rfl (Nat.le_of_ble_eq_true rfl) (fun _ _ hq => ?_)
  obtain ⟨-, rfl, rfl⟩ := hq
  exact jm [2, 0, 2, 0, 0] (fun v0 v2 => fX8_read_49 v0 v2 r.1 r.2) (fun v0 v2 q => tX8_read_49 v0 v2 r.1 r.2 q) hf
def wX8_read_44 : List En := [(.aload_n 0, 0, 0, 0), (.aload_n 2, 0, 0, 0)]
def fX8_read_44 (v0 : Nat) (v2 : Nat) (h : aH) : Option (Int32 × aH) :=
  fX8_read_46 v0 v2 v2 v0 h
theorem tX8_read_44 {d : Nat} {z : Int32 × aH} (v0 : Nat) (v2 : Nat) (h : aH) (hf : fX8_read_44 v0 v2 h = some z) : Ev (d + 9) none mX8_read (0, 0) 44 [.ref v0, .null, .ref v2, .null, .null] [] h (QZ z) := 
  go_ok (X := none) (blk := wX8_read_44) (np := 46) (tt := 0) (kN := fun xs h st => app [2, 0, 2, 0, 0] (fun v0 v2 => apS [2, 2] (fun s0 s1 => fX8_read_46 v0 v2 s0 s1 h) st) xs) (kT := fun _ _ _ => none) (kR := kRZ)
    (fun xs h st q => jm [2, 0, 2, 0, 0] _ (fun v0 v2 q => apS_ok [2, 2] _ (fun st => Ev (d + 9) none mX8_read (0, 0) 46 [.ref v0, .null, .ref v2, .null, .null] st h (QZ z)) st (fun s0 s1 q => tX8_read_46 v0 v2 s0 s1 h q) q) q)
    (fun _ _ _ q => nos q)
    kRZ_ok (Or.inr rfl) (by decide +kernel) (by decide +kernel) hf
theorem kqX8_read_41 : okC mX8_read 41 (.invokevirtual 63) 18 11 0 0 = true := by decide +kernel
def fX8_read_41 (v0 : Nat) (v2 : Nat) (s0 : Nat) (h : aH) : Option (Int32 × aH) :=
  (isO h 8 s0).bind fun _ =>
  (gX8_step s0 h).bind fun r =>
  fX8_read_44 v0 v2 r
theorem tX8_read_41 {d : Nat} {z : Int32 × aH} (v0 : Nat) (v2 : Nat) (s0 : Nat) (h : aH) (hf : fX8_read_41 v0 v2 s0 h = some z) : Ev (d + 9) none mX8_read (0, 0) 41 [.ref v0, .null, .ref v2, .null, .null] [.ref s0] h (QZ z) := by
  obtain ⟨_, h1, hf⟩ := bnd hf
  obtain ⟨fs, ho⟩ := isO_ok h1
  obtain ⟨r, h2, hf⟩ := bnd hf
  refine ev_V kqX8_read_41 jX8_step (zX8_step (d := d + 6) h2) ho rfl rfl (Nat.le_of_ble_eq_true rfl) rfl (as := []) (rest := []) rfl (Nat.le_of_ble_eq_true rfl) (fun _ _ hq => ?_)
  obtain ⟨rfl, hh⟩ := hq
  rw [hh]
  exact jm [2, 0, 2, 0, 0] (fun v0 v2 => fX8_read_44 v0 v2 r) (fun v0 v2 q => tX8_read_44 v0 v2 r q) hf
def wX8_read_12 : List En := [(.putfield 44, 12, 8, 9), (.aload_n 0, 0, 0, 0), (.iconst 0, 0, 0, 0), (.putfield 47, 14, 8, 11), (.aload_n 0, 0, 0, 0), (.iconst 0, 0, 0, 0), (.putfield 50, 11, 8, 8), (.aload_n 0, 0, 0, 0), (.iconst 0, 0, 0, 0), (.putfield 53, 17, 8, 14), (.aload_n 0, 0, 0, 0), (.iconst 0, 0, 0, 0), (.putfield 57, 3, 8, 1), (.aload_n 0, 0, 0, 0), (.iconst (-1), 0, 0, 0), (.putfield 60, 4, 8, 2), (.aload_n 0, 0, 0, 0)]
def fX8_read_12 (v0 : Nat) (v2 : Nat) (s0 : Int32) (s1 : Nat) (h : aH) : Option (Int32 × aH) :=
  (pWV h 8 s1 9 (.int s0)).bind fun h1 =>
  (pWV h1 8 v0 11 (.int (kI 0))).bind fun h2 =>
  (pWV h2 8 v0 8 (.int (kI 0))).bind fun h3 =>
  (pWV h3 8 v0 14 (.int (kI 0))).bind fun h4 =>
  (pWV h4 8 v0 1 (.int (kI 0))).bind fun h5 =>
  (pWV h5 8 v0 2 (.int (kI (-1)))).bind fun h6 =>
  fX8_read_41 v0 v2 v0 h6
theorem tX8_read_12 {d : Nat} {z : Int32 × aH} (v0 : Nat) (v2 : Nat) (s0 : Int32) (s1 : Nat) (h : aH) (hf : fX8_read_12 v0 v2 s0 s1 h = some z) : Ev (d + 9) none mX8_read (0, 0) 12 [.ref v0, .null, .ref v2, .null, .null] [.int s0, .ref s1] h (QZ z) := 
  go_ok (X := none) (blk := wX8_read_12) (np := 41) (tt := 0) (kN := fun xs h st => app [2, 0, 2, 0, 0] (fun v0 v2 => apS [2] (fun s0 => fX8_read_41 v0 v2 s0 h) st) xs) (kT := fun _ _ _ => none) (kR := kRZ)
    (fun xs h st q => jm [2, 0, 2, 0, 0] _ (fun v0 v2 q => apS_ok [2] _ (fun st => Ev (d + 9) none mX8_read (0, 0) 41 [.ref v0, .null, .ref v2, .null, .null] st h (QZ z)) st (fun s0 q => tX8_read_41 v0 v2 s0 h q) q) q)
    (fun _ _ _ q => nos q)
    kRZ_ok (Or.inr rfl) (by decide +kernel) (by decide +kernel) hf
theorem kqX8_read_9 : ckP mX8_read 9 38 2 11 = true := by decide +kernel
def fX8_read_9 (v0 : Nat) (v2 : Nat) (s0 : Int32) (s1 : Int32) (s2 : Nat) (h : aH) : Option (Int32 × aH) :=
  fX8_read_12 v0 v2 (if s0 < s1 then s0 else s1) s2 h
theorem tX8_read_9 {d : Nat} {z : Int32 × aH} (v0 : Nat) (v2 : Nat) (s0 : Int32) (s1 : Int32) (s2 : Nat) (h : aH) (hf : fX8_read_9 v0 v2 s0 s1 s2 h = some z) : Ev (d + 9) none mX8_read (0, 0) 9 [.ref v0, .null, .ref v2, .null, .null] [.int s0, .int s1, .ref s2] h (QZ z) := 
  ev_mn kqX8_read_9 rfl (Nat.le_of_ble_eq_true rfl) (jm [2, 0, 2, 0, 0] (fun v0 v2 => fX8_read_12 v0 v2 (if s0 < s1 then s0 else s1) s2 h) (fun v0 v2 q => tX8_read_12 v0 v2 (if s0 < s1 then s0 else s1) s2 h q) hf)
def wX8_read_4 : List En := [(.aload_n 0, 0, 0, 0), (.iload_n 1, 0, 0, 0), (.sipush 700, 0, 0, 0)]
def fX8_read_4 (v0 : Nat) (v1 : Int32) (v2 : Nat) (h : aH) : Option (Int32 × aH) :=
  fX8_read_9 v0 v2 (kS 700) v1 v0 h
theorem tX8_read_4 {d : Nat} {z : Int32 × aH} (v0 : Nat) (v1 : Int32) (v2 : Nat) (h : aH) (hf : fX8_read_4 v0 v1 v2 h = some z) : Ev (d + 9) none mX8_read (0, 0) 4 [.ref v0, .int v1, .ref v2, .null, .null] [] h (QZ z) := 
  go_ok (X := none) (blk := wX8_read_4) (np := 9) (tt := 0) (kN := fun xs h st => app [2, 0, 2, 0, 0] (fun v0 v2 => apS [1, 1, 2] (fun s0 s1 s2 => fX8_read_9 v0 v2 s0 s1 s2 h) st) xs) (kT := fun _ _ _ => none) (kR := kRZ)
    (fun xs h st q => jm [2, 0, 2, 0, 0] _ (fun v0 v2 q => apS_ok [1, 1, 2] _ (fun st => Ev (d + 9) none mX8_read (0, 0) 9 [.ref v0, .null, .ref v2, .null, .null] st h (QZ z)) st (fun s0 s1 s2 q => tX8_read_9 v0 v2 s0 s1 s2 h q) q) q)
    (fun _ _ _ q => nos q)
    kRZ_ok (Or.inr rfl) (by decide +kernel) (by decide +kernel) hf
theorem kqX8_read_1 : okC mX8_read 1 (.invokevirtual 33) 17 10 0 0 = true := by decide +kernel
def fX8_read_1 (v0 : Nat) (v1 : Int32) (v2 : Nat) (s0 : Nat) (h : aH) : Option (Int32 × aH) :=
  (isO h 9 s0).bind fun _ =>
  (gX9_clear s0 h).bind fun r =>
  fX8_read_4 v0 v1 v2 r
theorem tX8_read_1 {d : Nat} {z : Int32 × aH} (v0 : Nat) (v1 : Int32) (v2 : Nat) (s0 : Nat) (h : aH) (hf : fX8_read_1 v0 v1 v2 s0 h = some z) : Ev (d + 9) none mX8_read (0, 0) 1 [.ref v0, .int v1, .ref v2, .null, .null] [.ref s0] h (QZ z) := by
  obtain ⟨_, h1, hf⟩ := bnd hf
  obtain ⟨fs, ho⟩ := isO_ok h1
  obtain ⟨r, h2, hf⟩ := bnd hf
  refine ev_V kqX8_read_1 jX9_clear (zX9_clear (d := d + 8) h2) ho rfl rfl (Nat.le_of_ble_eq_true rfl) rfl (as := []) (rest := []) rfl (Nat.le_of_ble_eq_true rfl) (fun _ _ hq => ?_)
  obtain ⟨rfl, hh⟩ := hq
  rw [hh]
  exact jm [2, 1, 2, 0, 0] (fun v0 v1 v2 => fX8_read_4 v0 v1 v2 r) (fun v0 v1 v2 q => tX8_read_4 v0 v1 v2 r q) hf
def wX8_read_0 : List En := [(.aload_n 2, 0, 0, 0)]
def fX8_read_0 (v0 : Nat) (v1 : Int32) (v2 : Nat) (h : aH) : Option (Int32 × aH) :=
  fX8_read_1 v0 v1 v2 v2 h
theorem tX8_read_0 {d : Nat} {z : Int32 × aH} (v0 : Nat) (v1 : Int32) (v2 : Nat) (h : aH) (hf : fX8_read_0 v0 v1 v2 h = some z) : Ev (d + 9) none mX8_read (0, 0) 0 [.ref v0, .int v1, .ref v2, .null, .null] [] h (QZ z) := 
  go_ok (X := none) (blk := wX8_read_0) (np := 1) (tt := 0) (kN := fun xs h st => app [2, 1, 2, 0, 0] (fun v0 v1 v2 => apS [2] (fun s0 => fX8_read_1 v0 v1 v2 s0 h) st) xs) (kT := fun _ _ _ => none) (kR := kRZ)
    (fun xs h st q => jm [2, 1, 2, 0, 0] _ (fun v0 v1 v2 q => apS_ok [2] _ (fun st => Ev (d + 9) none mX8_read (0, 0) 1 [.ref v0, .int v1, .ref v2, .null, .null] st h (QZ z)) st (fun s0 q => tX8_read_1 v0 v1 v2 s0 h q) q) q)
    (fun _ _ _ q => nos q)
    kRZ_ok (Or.inr rfl) (by decide +kernel) (by decide +kernel) hf
def gX8_read (v0 : Nat) (v1 : Int32) (v2 : Nat) (h : aH) : Option (Int32 × aH) := fX8_read_0 v0 v1 v2 h
theorem zX8_read {d : Nat} {z : Int32 × aH} {v0 : Nat} {v1 : Int32} {v2 : Nat} {h : aH} (q : gX8_read v0 v1 v2 h = some z) : CT (d + 9) mX8_read (0, 0) [.ref v0, .int v1, .ref v2] h (QZ z) :=
  ct_ev (by decide +kernel) (Nat.le_of_ble_eq_true rfl) QZ_r (jm [2, 1, 2, 0, 0] (fun v0 v1 v2 => fX8_read_0 v0 v1 v2 h) (fun v0 v1 v2 q => tX8_read_0 v0 v1 v2 h q) q)
def wX10_table_20 : List En := [(.ireturn, 0, 0, 0)]
def fX10_table_20 (s0 : Int32) (h : aH) : Option (Int32 × aH) :=
  some (s0, h)
theorem tX10_table_20 {d : Nat} {z : Int32 × aH} (s0 : Int32) (h : aH) (hf : fX10_table_20 s0 h = some z) : Ev (d + 10) none mX10_table (0, 0) 20 [.null, .null, .null, .null] [.int s0] h (QI z) := 
  go_ok (X := none) (blk := wX10_table_20) (np := 21) (tt := 0) (kN := fun _ _ _ => none) (kT := fun _ _ _ => none) (kR := kRI)
    (fun _ _ _ q => nos q)
    (fun _ _ _ q => nos q)
    kRI_ok (Or.inr rfl) (by decide +kernel) (by decide +kernel) hf
theorem kqX10_table_17 : okC mX10_table 17 (.invokevirtual 94) 15 8 0 1 = true := by decide +kernel
def fX10_table_17 (s0 : Int32) (s1 : Nat) (h : aH) : Option (Int32 × aH) :=
  (isO h 10 s1).bind fun _ =>
  (gX10_refuse s1 s0 h).bind fun r =>
  fX10_table_20 r.1 r.2
theorem tX10_table_17 {d : Nat} {z : Int32 × aH} (s0 : Int32) (s1 : Nat) (h : aH) (hf : fX10_table_17 s0 s1 h = some z) : Ev (d + 10) none mX10_table (0, 0) 17 [.null, .null, .null, .null] [.int s0, .ref s1] h (QI z) := by
  obtain ⟨_, h1, hf⟩ := bnd hf
  obtain ⟨fs, ho⟩ := isO_ok h1
  obtain ⟨r, h2, hf⟩ := bnd hf
  refine ev_V kqX10_table_17 jX10_refuse (zX10_refuse (d := d + 9) h2) ho rfl rfl (Nat.le_of_ble_eq_true rfl) rfl (as := [.int s0]) (rest := []) rfl (Nat.le_of_ble_eq_true rfl) (fun _ _ hq => ?_)
  obtain ⟨rfl, rfl⟩ := hq
  exact jm [0, 0, 0, 0] (fX10_table_20 r.1 r.2) (fun q => tX10_table_20 r.1 r.2 q) hf
def wX10_table_15 : List En := [(.aload_n 0, 0, 0, 0), (.iconst 2, 0, 0, 0)]
def fX10_table_15 (v0 : Nat) (h : aH) : Option (Int32 × aH) :=
  fX10_table_17 (kI 2) v0 h
theorem tX10_table_15 {d : Nat} {z : Int32 × aH} (v0 : Nat) (h : aH) (hf : fX10_table_15 v0 h = some z) : Ev (d + 10) none mX10_table (0, 0) 15 [.ref v0, .null, .null, .null] [] h (QI z) := 
  go_ok (X := none) (blk := wX10_table_15) (np := 17) (tt := 0) (kN := fun xs h st => app [0, 0, 0, 0] (apS [1, 2] (fun s0 s1 => fX10_table_17 s0 s1 h) st) xs) (kT := fun _ _ _ => none) (kR := kRI)
    (fun xs h st q => jm [0, 0, 0, 0] _ (fun q => apS_ok [1, 2] _ (fun st => Ev (d + 10) none mX10_table (0, 0) 17 [.null, .null, .null, .null] st h (QI z)) st (fun s0 s1 q => tX10_table_17 s0 s1 h q) q) q)
    (fun _ _ _ q => nos q)
    kRI_ok (Or.inr rfl) (by decide +kernel) (by decide +kernel) hf
def wX10_table_118 : List En := [(.ireturn, 0, 0, 0)]
def fX10_table_118 (s0 : Int32) (h : aH) : Option (Int32 × aH) :=
  some (s0, h)
theorem tX10_table_118 {d : Nat} {z : Int32 × aH} (s0 : Int32) (h : aH) (hf : fX10_table_118 s0 h = some z) : Ev (d + 10) none mX10_table (0, 0) 118 [.null, .null, .null, .null] [.int s0] h (QI z) := 
  go_ok (X := none) (blk := wX10_table_118) (np := 119) (tt := 0) (kN := fun _ _ _ => none) (kT := fun _ _ _ => none) (kR := kRI)
    (fun _ _ _ q => nos q)
    (fun _ _ _ q => nos q)
    kRI_ok (Or.inr rfl) (by decide +kernel) (by decide +kernel) hf
theorem kqX10_table_115 : okC mX10_table 115 (.invokevirtual 119) 60 44 0 1 = true := by decide +kernel
def fX10_table_115 (s0 : Int32) (s1 : Nat) (h : aH) : Option (Int32 × aH) :=
  (isO h 10 s1).bind fun _ =>
  (gX10_answer s1 s0 h).bind fun r =>
  fX10_table_118 r.1 r.2
theorem tX10_table_115 {d : Nat} {z : Int32 × aH} (s0 : Int32) (s1 : Nat) (h : aH) (hf : fX10_table_115 s0 s1 h = some z) : Ev (d + 10) none mX10_table (0, 0) 115 [.null, .null, .null, .null] [.int s0, .ref s1] h (QI z) := by
  obtain ⟨_, h1, hf⟩ := bnd hf
  obtain ⟨fs, ho⟩ := isO_ok h1
  obtain ⟨r, h2, hf⟩ := bnd hf
  refine ev_V kqX10_table_115 jX10_answer (zX10_answer (d := d + 9) h2) ho rfl rfl (Nat.le_of_ble_eq_true rfl) rfl (as := [.int s0]) (rest := []) rfl (Nat.le_of_ble_eq_true rfl) (fun _ _ hq => ?_)
  obtain ⟨rfl, rfl⟩ := hq
  exact jm [0, 0, 0, 0] (fX10_table_118 r.1 r.2) (fun q => tX10_table_118 r.1 r.2 q) hf
def wX10_table_107 : List En := [(.aload_n 0, 0, 0, 0), (.aload_n 0, 0, 0, 0), (.getfield 75, 171, 10, 9), (.getfield 116, 110, 9, 3)]
def fX10_table_107 (v0 : Nat) (h : aH) : Option (Int32 × aH) :=
  (gFR h 10 v0 9).bind fun t1 =>
  (gFI h 9 t1 3).bind fun t2 =>
  fX10_table_115 t2 v0 h
theorem tX10_table_107 {d : Nat} {z : Int32 × aH} (v0 : Nat) (h : aH) (hf : fX10_table_107 v0 h = some z) : Ev (d + 10) none mX10_table (0, 0) 107 [.ref v0, .null, .null, .null] [] h (QI z) := 
  go_ok (X := none) (blk := wX10_table_107) (np := 115) (tt := 0) (kN := fun xs h st => app [0, 0, 0, 0] (apS [1, 2] (fun s0 s1 => fX10_table_115 s0 s1 h) st) xs) (kT := fun _ _ _ => none) (kR := kRI)
    (fun xs h st q => jm [0, 0, 0, 0] _ (fun q => apS_ok [1, 2] _ (fun st => Ev (d + 10) none mX10_table (0, 0) 115 [.null, .null, .null, .null] st h (QI z)) st (fun s0 s1 q => tX10_table_115 s0 s1 h q) q) q)
    (fun _ _ _ q => nos q)
    kRI_ok (Or.inr rfl) (by decide +kernel) (by decide +kernel) hf
theorem kqX10_table_104 : okC mX10_table 104 (.invokevirtual 115) 59 43 0 0 = true := by decide +kernel
def fX10_table_104 (v0 : Nat) (s0 : Nat) (h : aH) : Option (Int32 × aH) :=
  (isO h 5 s0).bind fun _ =>
  (gX5_forget s0 h).bind fun r =>
  fX10_table_107 v0 r
theorem tX10_table_104 {d : Nat} {z : Int32 × aH} (v0 : Nat) (s0 : Nat) (h : aH) (hf : fX10_table_104 v0 s0 h = some z) : Ev (d + 10) none mX10_table (0, 0) 104 [.ref v0, .null, .null, .null] [.ref s0] h (QI z) := by
  obtain ⟨_, h1, hf⟩ := bnd hf
  obtain ⟨fs, ho⟩ := isO_ok h1
  obtain ⟨r, h2, hf⟩ := bnd hf
  refine ev_V kqX10_table_104 jX5_forget (zX5_forget (d := d + 9) h2) ho rfl rfl (Nat.le_of_ble_eq_true rfl) rfl (as := []) (rest := []) rfl (Nat.le_of_ble_eq_true rfl) (fun _ _ hq => ?_)
  obtain ⟨rfl, hh⟩ := hq
  rw [hh]
  exact jm [2, 0, 0, 0] (fun v0 => fX10_table_107 v0 r) (fun v0 q => tX10_table_107 v0 r q) hf
def wX10_table_100 : List En := [(.aload_n 0, 0, 0, 0), (.getfield 54, 168, 10, 6)]
def fX10_table_100 (v0 : Nat) (h : aH) : Option (Int32 × aH) :=
  (gFR h 10 v0 6).bind fun t1 =>
  fX10_table_104 v0 t1 h
theorem tX10_table_100 {d : Nat} {z : Int32 × aH} (v0 : Nat) (h : aH) (hf : fX10_table_100 v0 h = some z) : Ev (d + 10) none mX10_table (0, 0) 100 [.ref v0, .null, .null, .null] [] h (QI z) := 
  go_ok (X := none) (blk := wX10_table_100) (np := 104) (tt := 0) (kN := fun xs h st => app [2, 0, 0, 0] (fun v0 => apS [2] (fun s0 => fX10_table_104 v0 s0 h) st) xs) (kT := fun _ _ _ => none) (kR := kRI)
    (fun xs h st q => jm [2, 0, 0, 0] _ (fun v0 q => apS_ok [2] _ (fun st => Ev (d + 10) none mX10_table (0, 0) 104 [.ref v0, .null, .null, .null] st h (QI z)) st (fun s0 q => tX10_table_104 v0 s0 h q) q) q)
    (fun _ _ _ q => nos q)
    kRI_ok (Or.inr rfl) (by decide +kernel) (by decide +kernel) hf
theorem kqX10_table_97 : okC mX10_table 97 (.invokevirtual 112) 58 42 0 0 = true := by decide +kernel
def fX10_table_97 (v0 : Nat) (s0 : Nat) (h : aH) : Option (Int32 × aH) :=
  (isO h 4 s0).bind fun _ =>
  (gX4_forget s0 h).bind fun r =>
  fX10_table_100 v0 r
theorem tX10_table_97 {d : Nat} {z : Int32 × aH} (v0 : Nat) (s0 : Nat) (h : aH) (hf : fX10_table_97 v0 s0 h = some z) : Ev (d + 10) none mX10_table (0, 0) 97 [.ref v0, .null, .null, .null] [.ref s0] h (QI z) := by
  obtain ⟨_, h1, hf⟩ := bnd hf
  obtain ⟨fs, ho⟩ := isO_ok h1
  obtain ⟨r, h2, hf⟩ := bnd hf
  refine ev_V kqX10_table_97 jX4_forget (zX4_forget (d := d + 9) h2) ho rfl rfl (Nat.le_of_ble_eq_true rfl) rfl (as := []) (rest := []) rfl (Nat.le_of_ble_eq_true rfl) (fun _ _ hq => ?_)
  obtain ⟨rfl, hh⟩ := hq
  rw [hh]
  exact jm [2, 0, 0, 0] (fun v0 => fX10_table_100 v0 r) (fun v0 q => tX10_table_100 v0 r q) hf
def wX10_table_93 : List En := [(.aload_n 0, 0, 0, 0), (.getfield 47, 167, 10, 5)]
def fX10_table_93 (v0 : Nat) (h : aH) : Option (Int32 × aH) :=
  (gFR h 10 v0 5).bind fun t1 =>
  fX10_table_97 v0 t1 h
theorem tX10_table_93 {d : Nat} {z : Int32 × aH} (v0 : Nat) (h : aH) (hf : fX10_table_93 v0 h = some z) : Ev (d + 10) none mX10_table (0, 0) 93 [.ref v0, .null, .null, .null] [] h (QI z) := 
  go_ok (X := none) (blk := wX10_table_93) (np := 97) (tt := 0) (kN := fun xs h st => app [2, 0, 0, 0] (fun v0 => apS [2] (fun s0 => fX10_table_97 v0 s0 h) st) xs) (kT := fun _ _ _ => none) (kR := kRI)
    (fun xs h st q => jm [2, 0, 0, 0] _ (fun v0 q => apS_ok [2] _ (fun st => Ev (d + 10) none mX10_table (0, 0) 97 [.ref v0, .null, .null, .null] st h (QI z)) st (fun s0 q => tX10_table_97 v0 s0 h q) q) q)
    (fun _ _ _ q => nos q)
    kRI_ok (Or.inr rfl) (by decide +kernel) (by decide +kernel) hf
theorem kqX10_table_90 : okC mX10_table 90 (.invokevirtual 108) 56 40 0 2 = true := by decide +kernel
def fX10_table_90 (v0 : Nat) (s0 : Int32) (s1 : Nat) (s2 : Nat) (h : aH) : Option (Int32 × aH) :=
  (isO h 7 s2).bind fun _ =>
  (gX7_begin s2 s1 s0 h).bind fun r =>
  fX10_table_93 v0 r
theorem tX10_table_90 {d : Nat} {z : Int32 × aH} (v0 : Nat) (s0 : Int32) (s1 : Nat) (s2 : Nat) (h : aH) (hf : fX10_table_90 v0 s0 s1 s2 h = some z) : Ev (d + 10) none mX10_table (0, 0) 90 [.ref v0, .null, .null, .null] [.int s0, .ref s1, .ref s2] h (QI z) := by
  obtain ⟨_, h1, hf⟩ := bnd hf
  obtain ⟨fs, ho⟩ := isO_ok h1
  obtain ⟨r, h2, hf⟩ := bnd hf
  refine ev_V kqX10_table_90 jX7_begin (zX7_begin (d := d + 8) h2) ho rfl rfl (Nat.le_of_ble_eq_true rfl) rfl (as := [.ref s1, .int s0]) (rest := []) rfl (Nat.le_of_ble_eq_true rfl) (fun _ _ hq => ?_)
  obtain ⟨rfl, hh⟩ := hq
  rw [hh]
  exact jm [2, 0, 0, 0] (fun v0 => fX10_table_93 v0 r) (fun v0 q => tX10_table_93 v0 r q) hf
def wX10_table_63 : List En := [(.aload_n 0, 0, 0, 0), (.getfield 75, 171, 10, 9), (.astore_n 3, 0, 0, 0), (.aload_n 0, 0, 0, 0), (.aload_n 0, 0, 0, 0), (.getfield 79, 172, 10, 10), (.putfield 75, 171, 10, 9), (.aload_n 0, 0, 0, 0), (.aload_n 3, 0, 0, 0), (.putfield 79, 172, 10, 10), (.aload_n 0, 0, 0, 0), (.getfield 68, 170, 10, 8), (.aload_n 0, 0, 0, 0), (.getfield 75, 171, 10, 9), (.iconst 0, 0, 0, 0)]
def fX10_table_63 (v0 : Nat) (h : aH) : Option (Int32 × aH) :=
  (gFR h 10 v0 9).bind fun t1 =>
  (gFR h 10 v0 10).bind fun t2 =>
  (pWV h 10 v0 9 (.ref t2)).bind fun h3 =>
  (pWV h3 10 v0 10 (.ref t1)).bind fun h4 =>
  (gFR h4 10 v0 8).bind fun t5 =>
  (gFR h4 10 v0 9).bind fun t6 =>
  fX10_table_90 v0 (kI 0) t6 t5 h4
theorem tX10_table_63 {d : Nat} {z : Int32 × aH} (v0 : Nat) (h : aH) (hf : fX10_table_63 v0 h = some z) : Ev (d + 10) none mX10_table (0, 0) 63 [.ref v0, .null, .null, .null] [] h (QI z) := 
  go_ok (X := none) (blk := wX10_table_63) (np := 90) (tt := 0) (kN := fun xs h st => app [2, 0, 0, 0] (fun v0 => apS [1, 2, 2] (fun s0 s1 s2 => fX10_table_90 v0 s0 s1 s2 h) st) xs) (kT := fun _ _ _ => none) (kR := kRI)
    (fun xs h st q => jm [2, 0, 0, 0] _ (fun v0 q => apS_ok [1, 2, 2] _ (fun st => Ev (d + 10) none mX10_table (0, 0) 90 [.ref v0, .null, .null, .null] st h (QI z)) st (fun s0 s1 s2 q => tX10_table_90 v0 s0 s1 s2 h q) q) q)
    (fun _ _ _ q => nos q)
    kRI_ok (Or.inr rfl) (by decide +kernel) (by decide +kernel) hf
def wX10_table_62 : List En := [(.ireturn, 0, 0, 0)]
def fX10_table_62 (s0 : Int32) (h : aH) : Option (Int32 × aH) :=
  some (s0, h)
theorem tX10_table_62 {d : Nat} {z : Int32 × aH} (s0 : Int32) (h : aH) (hf : fX10_table_62 s0 h = some z) : Ev (d + 10) none mX10_table (0, 0) 62 [.null, .null, .null, .null] [.int s0] h (QI z) := 
  go_ok (X := none) (blk := wX10_table_62) (np := 63) (tt := 0) (kN := fun _ _ _ => none) (kT := fun _ _ _ => none) (kR := kRI)
    (fun _ _ _ q => nos q)
    (fun _ _ _ q => nos q)
    kRI_ok (Or.inr rfl) (by decide +kernel) (by decide +kernel) hf
theorem kqX10_table_59 : okC mX10_table 59 (.invokevirtual 94) 15 8 0 1 = true := by decide +kernel
def fX10_table_59 (s0 : Int32) (s1 : Nat) (h : aH) : Option (Int32 × aH) :=
  (isO h 10 s1).bind fun _ =>
  (gX10_refuse s1 s0 h).bind fun r =>
  fX10_table_62 r.1 r.2
theorem tX10_table_59 {d : Nat} {z : Int32 × aH} (s0 : Int32) (s1 : Nat) (h : aH) (hf : fX10_table_59 s0 s1 h = some z) : Ev (d + 10) none mX10_table (0, 0) 59 [.null, .null, .null, .null] [.int s0, .ref s1] h (QI z) := by
  obtain ⟨_, h1, hf⟩ := bnd hf
  obtain ⟨fs, ho⟩ := isO_ok h1
  obtain ⟨r, h2, hf⟩ := bnd hf
  refine ev_V kqX10_table_59 jX10_refuse (zX10_refuse (d := d + 9) h2) ho rfl rfl (Nat.le_of_ble_eq_true rfl) rfl (as := [.int s0]) (rest := []) rfl (Nat.le_of_ble_eq_true rfl) (fun _ _ hq => ?_)
  obtain ⟨rfl, rfl⟩ := hq
  exact jm [0, 0, 0, 0] (fX10_table_62 r.1 r.2) (fun q => tX10_table_62 r.1 r.2 q) hf
def wX10_table_57 : List En := [(.aload_n 0, 0, 0, 0), (.iconst 4, 0, 0, 0)]
def fX10_table_57 (v0 : Nat) (h : aH) : Option (Int32 × aH) :=
  fX10_table_59 (kI 4) v0 h
theorem tX10_table_57 {d : Nat} {z : Int32 × aH} (v0 : Nat) (h : aH) (hf : fX10_table_57 v0 h = some z) : Ev (d + 10) none mX10_table (0, 0) 57 [.ref v0, .null, .null, .null] [] h (QI z) := 
  go_ok (X := none) (blk := wX10_table_57) (np := 59) (tt := 0) (kN := fun xs h st => app [0, 0, 0, 0] (apS [1, 2] (fun s0 s1 => fX10_table_59 s0 s1 h) st) xs) (kT := fun _ _ _ => none) (kR := kRI)
    (fun xs h st q => jm [0, 0, 0, 0] _ (fun q => apS_ok [1, 2] _ (fun st => Ev (d + 10) none mX10_table (0, 0) 59 [.null, .null, .null, .null] st h (QI z)) st (fun s0 s1 q => tX10_table_59 s0 s1 h q) q) q)
    (fun _ _ _ q => nos q)
    kRI_ok (Or.inr rfl) (by decide +kernel) (by decide +kernel) hf
def wX10_table_33 : List En := [(.istore_n 2, 0, 0, 0), (.aload_n 0, 0, 0, 0), (.getfield 10, 162, 10, 0), (.iconst 0, 0, 0, 0), (.putfield 90, 1, 8, 0), (.aload_n 0, 0, 0, 0), (.aload_n 0, 0, 0, 0), (.getfield 10, 162, 10, 0), (.getfield 102, 2, 8, 1), (.putfield 105, 174, 10, 12), (.iload_n 2, 0, 0, 0), (.ifCond .ne 9, 63, 0, 0)]
def fX10_table_33 (v0 : Nat) (s0 : Int32) (h : aH) : Option (Int32 × aH) :=
  (gFR h 10 v0 0).bind fun t1 =>
  (pWV h 8 t1 0 (.int (kI 0))).bind fun h2 =>
  (gFR h2 10 v0 0).bind fun t3 =>
  (gFI h2 8 t3 1).bind fun t4 =>
  (pWV h2 10 v0 12 (.int t4)).bind fun h5 =>
  if s0 = 0 then fX10_table_57 v0 h5 else fX10_table_63 v0 h5
theorem tX10_table_33 {d : Nat} {z : Int32 × aH} (v0 : Nat) (s0 : Int32) (h : aH) (hf : fX10_table_33 v0 s0 h = some z) : Ev (d + 10) none mX10_table (0, 0) 33 [.ref v0, .null, .null, .null] [.int s0] h (QI z) := 
  go_ok (X := none) (blk := wX10_table_33) (np := 57) (tt := 63) (kN := fun xs h st => app [2, 0, 0, 0] (fun v0 => apS [] (fX10_table_57 v0 h) st) xs) (kT := fun xs h st => app [2, 0, 0, 0] (fun v0 => apS [] (fX10_table_63 v0 h) st) xs) (kR := kRI)
    (fun xs h st q => jm [2, 0, 0, 0] _ (fun v0 q => apS_ok [] _ (fun st => Ev (d + 10) none mX10_table (0, 0) 57 [.ref v0, .null, .null, .null] st h (QI z)) st (fun q => tX10_table_57 v0 h q) q) q)
    (fun xs h st q => jm [2, 0, 0, 0] _ (fun v0 q => apS_ok [] _ (fun st => Ev (d + 10) none mX10_table (0, 0) 63 [.ref v0, .null, .null, .null] st h (QI z)) st (fun q => tX10_table_63 v0 h q) q) q)
    kRI_ok (Or.inr rfl) (by decide +kernel) (by decide +kernel) hf
theorem kqX10_table_30 : okC mX10_table 30 (.invokevirtual 98) 16 9 0 2 = true := by decide +kernel
def fX10_table_30 (v0 : Nat) (s0 : Nat) (s1 : Int32) (s2 : Nat) (h : aH) : Option (Int32 × aH) :=
  (isO h 8 s2).bind fun _ =>
  (gX8_read s2 s1 s0 h).bind fun r =>
  fX10_table_33 v0 r.1 r.2
theorem tX10_table_30 {d : Nat} {z : Int32 × aH} (v0 : Nat) (s0 : Nat) (s1 : Int32) (s2 : Nat) (h : aH) (hf : fX10_table_30 v0 s0 s1 s2 h = some z) : Ev (d + 10) none mX10_table (0, 0) 30 [.ref v0, .null, .null, .null] [.ref s0, .int s1, .ref s2] h (QI z) := by
  obtain ⟨_, h1, hf⟩ := bnd hf
  obtain ⟨fs, ho⟩ := isO_ok h1
  obtain ⟨r, h2, hf⟩ := bnd hf
  refine ev_V kqX10_table_30 jX8_read (zX8_read (d := d + 0) h2) ho rfl rfl (Nat.le_of_ble_eq_true rfl) rfl (as := [.int s1, .ref s0]) (rest := []) rfl (Nat.le_of_ble_eq_true rfl) (fun _ _ hq => ?_)
  obtain ⟨-, rfl, rfl⟩ := hq
  exact jm [2, 0, 0, 0] (fun v0 => fX10_table_33 v0 r.1 r.2) (fun v0 q => tX10_table_33 v0 r.1 r.2 q) hf
def wX10_table_21 : List En := [(.aload_n 0, 0, 0, 0), (.getfield 10, 162, 10, 0), (.iload_n 1, 0, 0, 0), (.aload_n 0, 0, 0, 0), (.getfield 79, 172, 10, 10)]
def fX10_table_21 (v0 : Nat) (v1 : Int32) (h : aH) : Option (Int32 × aH) :=
  (gFR h 10 v0 0).bind fun t1 =>
  (gFR h 10 v0 10).bind fun t2 =>
  fX10_table_30 v0 t2 v1 t1 h
theorem tX10_table_21 {d : Nat} {z : Int32 × aH} (v0 : Nat) (v1 : Int32) (h : aH) (hf : fX10_table_21 v0 v1 h = some z) : Ev (d + 10) none mX10_table (0, 0) 21 [.ref v0, .int v1, .null, .null] [] h (QI z) := 
  go_ok (X := none) (blk := wX10_table_21) (np := 30) (tt := 0) (kN := fun xs h st => app [2, 0, 0, 0] (fun v0 => apS [2, 1, 2] (fun s0 s1 s2 => fX10_table_30 v0 s0 s1 s2 h) st) xs) (kT := fun _ _ _ => none) (kR := kRI)
    (fun xs h st q => jm [2, 0, 0, 0] _ (fun v0 q => apS_ok [2, 1, 2] _ (fun st => Ev (d + 10) none mX10_table (0, 0) 30 [.ref v0, .null, .null, .null] st h (QI z)) st (fun s0 s1 s2 q => tX10_table_30 v0 s0 s1 s2 h q) q) q)
    (fun _ _ _ q => nos q)
    kRI_ok (Or.inr rfl) (by decide +kernel) (by decide +kernel) hf
def wX10_table_4 : List En := [(.iload_n 1, 0, 0, 0), (.aload_n 0, 0, 0, 0), (.getfield 10, 162, 10, 0), (.getfield 90, 1, 8, 0), (.if_icmp .le 9, 21, 0, 0)]
def fX10_table_4 (v0 : Nat) (v1 : Int32) (h : aH) : Option (Int32 × aH) :=
  (gFR h 10 v0 0).bind fun t1 =>
  (gFI h 8 t1 0).bind fun t2 =>
  if t2 < v1 then fX10_table_15 v0 h else fX10_table_21 v0 v1 h
theorem tX10_table_4 {d : Nat} {z : Int32 × aH} (v0 : Nat) (v1 : Int32) (h : aH) (hf : fX10_table_4 v0 v1 h = some z) : Ev (d + 10) none mX10_table (0, 0) 4 [.ref v0, .int v1, .null, .null] [] h (QI z) := 
  go_ok (X := none) (blk := wX10_table_4) (np := 15) (tt := 21) (kN := fun xs h st => app [2, 0, 0, 0] (fun v0 => apS [] (fX10_table_15 v0 h) st) xs) (kT := fun xs h st => app [2, 1, 0, 0] (fun v0 v1 => apS [] (fX10_table_21 v0 v1 h) st) xs) (kR := kRI)
    (fun xs h st q => jm [2, 0, 0, 0] _ (fun v0 q => apS_ok [] _ (fun st => Ev (d + 10) none mX10_table (0, 0) 15 [.ref v0, .null, .null, .null] st h (QI z)) st (fun q => tX10_table_15 v0 h q) q) q)
    (fun xs h st q => jm [2, 1, 0, 0] _ (fun v0 v1 q => apS_ok [] _ (fun st => Ev (d + 10) none mX10_table (0, 0) 21 [.ref v0, .int v1, .null, .null] st h (QI z)) st (fun q => tX10_table_21 v0 v1 h q) q) q)
    kRI_ok (Or.inr rfl) (by decide +kernel) (by decide +kernel) hf
def wX10_table_0 : List En := [(.iload_n 1, 0, 0, 0), (.ifCond .lt 14, 15, 0, 0)]
def fX10_table_0 (v0 : Nat) (v1 : Int32) (h : aH) : Option (Int32 × aH) :=
  if v1 < 0 then fX10_table_15 v0 h else fX10_table_4 v0 v1 h
theorem tX10_table_0 {d : Nat} {z : Int32 × aH} (v0 : Nat) (v1 : Int32) (h : aH) (hf : fX10_table_0 v0 v1 h = some z) : Ev (d + 10) none mX10_table (0, 0) 0 [.ref v0, .int v1, .null, .null] [] h (QI z) := 
  go_ok (X := none) (blk := wX10_table_0) (np := 4) (tt := 15) (kN := fun xs h st => app [2, 1, 0, 0] (fun v0 v1 => apS [] (fX10_table_4 v0 v1 h) st) xs) (kT := fun xs h st => app [2, 0, 0, 0] (fun v0 => apS [] (fX10_table_15 v0 h) st) xs) (kR := kRI)
    (fun xs h st q => jm [2, 1, 0, 0] _ (fun v0 v1 q => apS_ok [] _ (fun st => Ev (d + 10) none mX10_table (0, 0) 4 [.ref v0, .int v1, .null, .null] st h (QI z)) st (fun q => tX10_table_4 v0 v1 h q) q) q)
    (fun xs h st q => jm [2, 0, 0, 0] _ (fun v0 q => apS_ok [] _ (fun st => Ev (d + 10) none mX10_table (0, 0) 15 [.ref v0, .null, .null, .null] st h (QI z)) st (fun q => tX10_table_15 v0 h q) q) q)
    kRI_ok (Or.inr rfl) (by decide +kernel) (by decide +kernel) hf
def gX10_table (v0 : Nat) (v1 : Int32) (h : aH) : Option (Int32 × aH) := fX10_table_0 v0 v1 h
theorem zX10_table {d : Nat} {z : Int32 × aH} {v0 : Nat} {v1 : Int32} {h : aH} (q : gX10_table v0 v1 h = some z) : CT (d + 10) mX10_table (0, 0) [.ref v0, .int v1] h (QI z) :=
  ct_ev (by decide +kernel) (Nat.le_of_ble_eq_true rfl) QI_r (jm [2, 1, 0, 0] (fun v0 v1 => fX10_table_0 v0 v1 h) (fun v0 v1 q => tX10_table_0 v0 v1 h q) q)
def wX2_seekOn_17 : List En := [(.return_, 0, 0, 0)]
def fX2_seekOn_17 (kS : Nat → Nat → Int32 → Int32 → aH → Option (aH)) (h : aH) : Option (aH) :=
  some h
theorem tX2_seekOn_17 {d : Nat} {z : aH} {kS : Nat → Nat → Int32 → Int32 → aH → Option (aH)} (hS : ∀ (w0 : Nat) (w1 : Nat) (w2 : Int32) (w3 : Int32) (h : aH) (r : aH), kS w0 w1 w2 w3 h = some r → CT (d + 3) mX2_seekOn (0, 0) [.ref w0, .ref w1, .int w2, .int w3] h (QV r)) (h : aH) (hf : fX2_seekOn_17 kS h = some z) : Ev (d + 4) none mX2_seekOn (0, 0) 17 [.null, .null, .null, .null, .null, .null, .null, .null, .null] [] h (QV z) := 
  go_ok (X := none) (blk := wX2_seekOn_17) (np := 18) (tt := 0) (kN := fun _ _ _ => none) (kT := fun _ _ _ => none) (kR := kRV)
    (fun _ _ _ q => nos q)
    (fun _ _ _ q => nos q)
    kRV_ok (Or.inr rfl) (by decide +kernel) (by decide +kernel) hf
def wX2_seekOn_184 : List En := [(.return_, 0, 0, 0)]
def fX2_seekOn_184 (kS : Nat → Nat → Int32 → Int32 → aH → Option (aH)) (h : aH) : Option (aH) :=
  some h
theorem tX2_seekOn_184 {d : Nat} {z : aH} {kS : Nat → Nat → Int32 → Int32 → aH → Option (aH)} (hS : ∀ (w0 : Nat) (w1 : Nat) (w2 : Int32) (w3 : Int32) (h : aH) (r : aH), kS w0 w1 w2 w3 h = some r → CT (d + 3) mX2_seekOn (0, 0) [.ref w0, .ref w1, .int w2, .int w3] h (QV r)) (h : aH) (hf : fX2_seekOn_184 kS h = some z) : Ev (d + 4) none mX2_seekOn (0, 0) 184 [.null, .null, .null, .null, .null, .null, .null, .null, .null] [] h (QV z) := 
  go_ok (X := none) (blk := wX2_seekOn_184) (np := 185) (tt := 0) (kN := fun _ _ _ => none) (kT := fun _ _ _ => none) (kR := kRV)
    (fun _ _ _ q => nos q)
    (fun _ _ _ q => nos q)
    kRV_ok (Or.inr rfl) (by decide +kernel) (by decide +kernel) hf
def wX2_seekOn_178 : List En := [(.iinc 7 1, 0, 0, 0), (.goto (-86), 95, 0, 0)]
def fX2_seekOn_178 (kS : Nat → Nat → Int32 → Int32 → aH → Option (aH)) (k95 : Nat → Nat → Int32 → Int32 → Int32 → Int32 → Int32 → aH → Option (aH)) (v0 : Nat) (v1 : Nat) (v2 : Int32) (v3 : Int32) (v5 : Int32) (v6 : Int32) (v7 : Int32) (h : aH) : Option (aH) :=
  k95 v0 v1 v2 v3 v5 v6 (v7 + kI 1) h
theorem tX2_seekOn_178 {d : Nat} {z : aH} {kS : Nat → Nat → Int32 → Int32 → aH → Option (aH)} {k95 : Nat → Nat → Int32 → Int32 → Int32 → Int32 → Int32 → aH → Option (aH)} (hS : ∀ (w0 : Nat) (w1 : Nat) (w2 : Int32) (w3 : Int32) (h : aH) (r : aH), kS w0 w1 w2 w3 h = some r → CT (d + 3) mX2_seekOn (0, 0) [.ref w0, .ref w1, .int w2, .int w3] h (QV r)) (hk95 : ∀ (v0 : Nat) (v1 : Nat) (v2 : Int32) (v3 : Int32) (v5 : Int32) (v6 : Int32) (v7 : Int32) (h : aH), k95 v0 v1 v2 v3 v5 v6 v7 h = some z → Ev (d + 4) none mX2_seekOn (0, 0) 95 [.ref v0, .ref v1, .int v2, .int v3, .null, .int v5, .int v6, .int v7, .null] [] h (QV z)) (v0 : Nat) (v1 : Nat) (v2 : Int32) (v3 : Int32) (v5 : Int32) (v6 : Int32) (v7 : Int32) (h : aH) (hf : fX2_seekOn_178 kS k95 v0 v1 v2 v3 v5 v6 v7 h = some z) : Ev (d + 4) none mX2_seekOn (0, 0) 178 [.ref v0, .ref v1, .int v2, .int v3, .null, .int v5, .int v6, .int v7, .null] [] h (QV z) := 
  go_ok (X := none) (blk := wX2_seekOn_178) (np := 184) (tt := 95) (kN := fun _ _ _ => none) (kT := fun xs h st => app [2, 2, 1, 1, 0, 1, 1, 1, 0] (fun v0 v1 v2 v3 v5 v6 v7 => apS [] (k95 v0 v1 v2 v3 v5 v6 v7 h) st) xs) (kR := kRV)
    (fun _ _ _ q => nos q)
    (fun xs h st q => jm [2, 2, 1, 1, 0, 1, 1, 1, 0] _ (fun v0 v1 v2 v3 v5 v6 v7 q => apS_ok [] _ (fun st => Ev (d + 4) none mX2_seekOn (0, 0) 95 [.ref v0, .ref v1, .int v2, .int v3, .null, .int v5, .int v6, .int v7, .null] st h (QV z)) st (fun q => hk95 v0 v1 v2 v3 v5 v6 v7 h q) q) q)
    kRV_ok (Or.inr rfl) (by decide +kernel) (by decide +kernel) hf
theorem kqX2_seekOn_175 : okC mX2_seekOn 175 (.invokestatic 42) 114 114 1 4 = true := by decide +kernel
def fX2_seekOn_175 (kS : Nat → Nat → Int32 → Int32 → aH → Option (aH)) (k95 : Nat → Nat → Int32 → Int32 → Int32 → Int32 → Int32 → aH → Option (aH)) (v0 : Nat) (v1 : Nat) (v2 : Int32) (v3 : Int32) (v5 : Int32) (v6 : Int32) (v7 : Int32) (s0 : Int32) (s1 : Int32) (s2 : Nat) (s3 : Nat) (h : aH) : Option (aH) :=
  (kS s3 s2 s1 s0 h).bind fun r =>
  fX2_seekOn_178 kS k95 v0 v1 v2 v3 v5 v6 v7 r
theorem tX2_seekOn_175 {d : Nat} {z : aH} {kS : Nat → Nat → Int32 → Int32 → aH → Option (aH)} {k95 : Nat → Nat → Int32 → Int32 → Int32 → Int32 → Int32 → aH → Option (aH)} (hS : ∀ (w0 : Nat) (w1 : Nat) (w2 : Int32) (w3 : Int32) (h : aH) (r : aH), kS w0 w1 w2 w3 h = some r → CT (d + 3) mX2_seekOn (0, 0) [.ref w0, .ref w1, .int w2, .int w3] h (QV r)) (hk95 : ∀ (v0 : Nat) (v1 : Nat) (v2 : Int32) (v3 : Int32) (v5 : Int32) (v6 : Int32) (v7 : Int32) (h : aH), k95 v0 v1 v2 v3 v5 v6 v7 h = some z → Ev (d + 4) none mX2_seekOn (0, 0) 95 [.ref v0, .ref v1, .int v2, .int v3, .null, .int v5, .int v6, .int v7, .null] [] h (QV z)) (v0 : Nat) (v1 : Nat) (v2 : Int32) (v3 : Int32) (v5 : Int32) (v6 : Int32) (v7 : Int32) (s0 : Int32) (s1 : Int32) (s2 : Nat) (s3 : Nat) (h : aH) (hf : fX2_seekOn_175 kS k95 v0 v1 v2 v3 v5 v6 v7 s0 s1 s2 s3 h = some z) : Ev (d + 4) none mX2_seekOn (0, 0) 175 [.ref v0, .ref v1, .int v2, .int v3, .null, .int v5, .int v6, .int v7, .null] [.int s0, .int s1, .ref s2, .ref s3] h (QV z) := by
  obtain ⟨r, h2, hf⟩ := bnd hf
  refine ev_S kqX2_seekOn_175 jX2_seekOn (hS _ _ _ _ _ _ h2) rfl (Nat.le_of_ble_eq_true rfl) rfl (as := [.ref s3, .ref s2, .int s1, .int s0]) (rest := []) rfl (Nat.le_of_ble_eq_true rfl) (fun _ _ hq => ?_)
  obtain ⟨rfl, hh⟩ := hq
  rw [hh]
  exact jm [2, 2, 1, 1, 0, 1, 1, 1, 0] (fun v0 v1 v2 v3 v5 v6 v7 => fX2_seekOn_178 kS k95 v0 v1 v2 v3 v5 v6 v7 r) (fun v0 v1 v2 v3 v5 v6 v7 q => tX2_seekOn_178 hS hk95 v0 v1 v2 v3 v5 v6 v7 r q) hf
def wX2_seekOn_168 : List En := [(.aload_n 0, 0, 0, 0), (.aload_n 1, 0, 0, 0), (.iload_n 2, 0, 0, 0), (.iconst 1, 0, 0, 0), (.iadd, 0, 0, 0), (.iload 8, 0, 0, 0)]
def fX2_seekOn_168 (kS : Nat → Nat → Int32 → Int32 → aH → Option (aH)) (k95 : Nat → Nat → Int32 → Int32 → Int32 → Int32 → Int32 → aH → Option (aH)) (v0 : Nat) (v1 : Nat) (v2 : Int32) (v3 : Int32) (v5 : Int32) (v6 : Int32) (v7 : Int32) (v8 : Int32) (h : aH) : Option (aH) :=
  fX2_seekOn_175 kS k95 v0 v1 v2 v3 v5 v6 v7 v8 (v2 + (kI 1)) v1 v0 h
theorem tX2_seekOn_168 {d : Nat} {z : aH} {kS : Nat → Nat → Int32 → Int32 → aH → Option (aH)} {k95 : Nat → Nat → Int32 → Int32 → Int32 → Int32 → Int32 → aH → Option (aH)} (hS : ∀ (w0 : Nat) (w1 : Nat) (w2 : Int32) (w3 : Int32) (h : aH) (r : aH), kS w0 w1 w2 w3 h = some r → CT (d + 3) mX2_seekOn (0, 0) [.ref w0, .ref w1, .int w2, .int w3] h (QV r)) (hk95 : ∀ (v0 : Nat) (v1 : Nat) (v2 : Int32) (v3 : Int32) (v5 : Int32) (v6 : Int32) (v7 : Int32) (h : aH), k95 v0 v1 v2 v3 v5 v6 v7 h = some z → Ev (d + 4) none mX2_seekOn (0, 0) 95 [.ref v0, .ref v1, .int v2, .int v3, .null, .int v5, .int v6, .int v7, .null] [] h (QV z)) (v0 : Nat) (v1 : Nat) (v2 : Int32) (v3 : Int32) (v5 : Int32) (v6 : Int32) (v7 : Int32) (v8 : Int32) (h : aH) (hf : fX2_seekOn_168 kS k95 v0 v1 v2 v3 v5 v6 v7 v8 h = some z) : Ev (d + 4) none mX2_seekOn (0, 0) 168 [.ref v0, .ref v1, .int v2, .int v3, .null, .int v5, .int v6, .int v7, .int v8] [] h (QV z) := 
  go_ok (X := none) (blk := wX2_seekOn_168) (np := 175) (tt := 0) (kN := fun xs h st => app [2, 2, 1, 1, 0, 1, 1, 1, 0] (fun v0 v1 v2 v3 v5 v6 v7 => apS [1, 1, 2, 2] (fun s0 s1 s2 s3 => fX2_seekOn_175 kS k95 v0 v1 v2 v3 v5 v6 v7 s0 s1 s2 s3 h) st) xs) (kT := fun _ _ _ => none) (kR := kRV)
    (fun xs h st q => jm [2, 2, 1, 1, 0, 1, 1, 1, 0] _ (fun v0 v1 v2 v3 v5 v6 v7 q => apS_ok [1, 1, 2, 2] _ (fun st => Ev (d + 4) none mX2_seekOn (0, 0) 175 [.ref v0, .ref v1, .int v2, .int v3, .null, .int v5, .int v6, .int v7, .null] st h (QV z)) st (fun s0 s1 s2 s3 q => tX2_seekOn_175 hS hk95 v0 v1 v2 v3 v5 v6 v7 s0 s1 s2 s3 h q) q) q)
    (fun _ _ _ q => nos q)
    kRV_ok (Or.inr rfl) (by decide +kernel) (by decide +kernel) hf
def wX2_seekOn_156 : List En := [(.putfield 25, 59, 2, 0), (.aload_n 0, 0, 0, 0), (.iload 8, 0, 0, 0), (.putfield 35, 61, 2, 1), (.goto 13, 178, 0, 0)]
def fX2_seekOn_156 (kS : Nat → Nat → Int32 → Int32 → aH → Option (aH)) (k95 : Nat → Nat → Int32 → Int32 → Int32 → Int32 → Int32 → aH → Option (aH)) (v0 : Nat) (v1 : Nat) (v2 : Int32) (v3 : Int32) (v5 : Int32) (v6 : Int32) (v7 : Int32) (v8 : Int32) (s0 : Int32) (s1 : Nat) (h : aH) : Option (aH) :=
  (pWV h 2 s1 0 (.int s0)).bind fun h1 =>
  (pWV h1 2 v0 1 (.int v8)).bind fun h2 =>
  fX2_seekOn_178 kS k95 v0 v1 v2 v3 v5 v6 v7 h2
theorem tX2_seekOn_156 {d : Nat} {z : aH} {kS : Nat → Nat → Int32 → Int32 → aH → Option (aH)} {k95 : Nat → Nat → Int32 → Int32 → Int32 → Int32 → Int32 → aH → Option (aH)} (hS : ∀ (w0 : Nat) (w1 : Nat) (w2 : Int32) (w3 : Int32) (h : aH) (r : aH), kS w0 w1 w2 w3 h = some r → CT (d + 3) mX2_seekOn (0, 0) [.ref w0, .ref w1, .int w2, .int w3] h (QV r)) (hk95 : ∀ (v0 : Nat) (v1 : Nat) (v2 : Int32) (v3 : Int32) (v5 : Int32) (v6 : Int32) (v7 : Int32) (h : aH), k95 v0 v1 v2 v3 v5 v6 v7 h = some z → Ev (d + 4) none mX2_seekOn (0, 0) 95 [.ref v0, .ref v1, .int v2, .int v3, .null, .int v5, .int v6, .int v7, .null] [] h (QV z)) (v0 : Nat) (v1 : Nat) (v2 : Int32) (v3 : Int32) (v5 : Int32) (v6 : Int32) (v7 : Int32) (v8 : Int32) (s0 : Int32) (s1 : Nat) (h : aH) (hf : fX2_seekOn_156 kS k95 v0 v1 v2 v3 v5 v6 v7 v8 s0 s1 h = some z) : Ev (d + 4) none mX2_seekOn (0, 0) 156 [.ref v0, .ref v1, .int v2, .int v3, .null, .int v5, .int v6, .int v7, .int v8] [.int s0, .ref s1] h (QV z) := 
  go_ok (X := none) (blk := wX2_seekOn_156) (np := 168) (tt := 178) (kN := fun _ _ _ => none) (kT := fun xs h st => app [2, 2, 1, 1, 0, 1, 1, 1, 0] (fun v0 v1 v2 v3 v5 v6 v7 => apS [] (fX2_seekOn_178 kS k95 v0 v1 v2 v3 v5 v6 v7 h) st) xs) (kR := kRV)
    (fun _ _ _ q => nos q)
    (fun xs h st q => jm [2, 2, 1, 1, 0, 1, 1, 1, 0] _ (fun v0 v1 v2 v3 v5 v6 v7 q => apS_ok [] _ (fun st => Ev (d + 4) none mX2_seekOn (0, 0) 178 [.ref v0, .ref v1, .int v2, .int v3, .null, .int v5, .int v6, .int v7, .null] st h (QV z)) st (fun q => tX2_seekOn_178 hS hk95 v0 v1 v2 v3 v5 v6 v7 h q) q) q)
    kRV_ok (Or.inr rfl) (by decide +kernel) (by decide +kernel) hf
theorem kqX2_seekOn_153 : okC mX2_seekOn 153 (.invokestatic 65) 119 123 1 1 = true := by decide +kernel
def fX2_seekOn_153 (kS : Nat → Nat → Int32 → Int32 → aH → Option (aH)) (k95 : Nat → Nat → Int32 → Int32 → Int32 → Int32 → Int32 → aH → Option (aH)) (v0 : Nat) (v1 : Nat) (v2 : Int32) (v3 : Int32) (v5 : Int32) (v6 : Int32) (v7 : Int32) (v8 : Int32) (s0 : Int32) (s1 : Nat) (h : aH) : Option (aH) :=
  (gJ6_bitCount_0f7a4 s0 h).bind fun r =>
  fX2_seekOn_156 kS k95 v0 v1 v2 v3 v5 v6 v7 v8 r.1 s1 r.2
theorem tX2_seekOn_153 {d : Nat} {z : aH} {kS : Nat → Nat → Int32 → Int32 → aH → Option (aH)} {k95 : Nat → Nat → Int32 → Int32 → Int32 → Int32 → Int32 → aH → Option (aH)} (hS : ∀ (w0 : Nat) (w1 : Nat) (w2 : Int32) (w3 : Int32) (h : aH) (r : aH), kS w0 w1 w2 w3 h = some r → CT (d + 3) mX2_seekOn (0, 0) [.ref w0, .ref w1, .int w2, .int w3] h (QV r)) (hk95 : ∀ (v0 : Nat) (v1 : Nat) (v2 : Int32) (v3 : Int32) (v5 : Int32) (v6 : Int32) (v7 : Int32) (h : aH), k95 v0 v1 v2 v3 v5 v6 v7 h = some z → Ev (d + 4) none mX2_seekOn (0, 0) 95 [.ref v0, .ref v1, .int v2, .int v3, .null, .int v5, .int v6, .int v7, .null] [] h (QV z)) (v0 : Nat) (v1 : Nat) (v2 : Int32) (v3 : Int32) (v5 : Int32) (v6 : Int32) (v7 : Int32) (v8 : Int32) (s0 : Int32) (s1 : Nat) (h : aH) (hf : fX2_seekOn_153 kS k95 v0 v1 v2 v3 v5 v6 v7 v8 s0 s1 h = some z) : Ev (d + 4) none mX2_seekOn (0, 0) 153 [.ref v0, .ref v1, .int v2, .int v3, .null, .int v5, .int v6, .int v7, .int v8] [.int s0, .ref s1] h (QV z) := by
  obtain ⟨r, h2, hf⟩ := bnd hf
  refine ev_S kqX2_seekOn_153 jJ6_bitCount_0f7a4 (zJ6_bitCount_0f7a4 (d := d + 3) h2) rfl (Nat.le_of_ble_eq_true rfl) rfl (as := [.int s0]) (rest := [.ref s1]) rfl (Nat.le_of_ble_eq_true rfl) (fun _ _ hq => ?_)
  obtain ⟨rfl, rfl⟩ := hq
  exact jm [2, 2, 1, 1, 0, 1, 1, 1, 1] (fun v0 v1 v2 v3 v5 v6 v7 v8 => fX2_seekOn_156 kS k95 v0 v1 v2 v3 v5 v6 v7 v8 r.1 s1 r.2) (fun v0 v1 v2 v3 v5 v6 v7 v8 q => tX2_seekOn_156 hS hk95 v0 v1 v2 v3 v5 v6 v7 v8 r.1 s1 r.2 q) hf
def wX2_seekOn_150 : List En := [(.aload_n 0, 0, 0, 0), (.iload 8, 0, 0, 0)]
def fX2_seekOn_150 (kS : Nat → Nat → Int32 → Int32 → aH → Option (aH)) (k95 : Nat → Nat → Int32 → Int32 → Int32 → Int32 → Int32 → aH → Option (aH)) (v0 : Nat) (v1 : Nat) (v2 : Int32) (v3 : Int32) (v5 : Int32) (v6 : Int32) (v7 : Int32) (v8 : Int32) (h : aH) : Option (aH) :=
  fX2_seekOn_153 kS k95 v0 v1 v2 v3 v5 v6 v7 v8 v8 v0 h
theorem tX2_seekOn_150 {d : Nat} {z : aH} {kS : Nat → Nat → Int32 → Int32 → aH → Option (aH)} {k95 : Nat → Nat → Int32 → Int32 → Int32 → Int32 → Int32 → aH → Option (aH)} (hS : ∀ (w0 : Nat) (w1 : Nat) (w2 : Int32) (w3 : Int32) (h : aH) (r : aH), kS w0 w1 w2 w3 h = some r → CT (d + 3) mX2_seekOn (0, 0) [.ref w0, .ref w1, .int w2, .int w3] h (QV r)) (hk95 : ∀ (v0 : Nat) (v1 : Nat) (v2 : Int32) (v3 : Int32) (v5 : Int32) (v6 : Int32) (v7 : Int32) (h : aH), k95 v0 v1 v2 v3 v5 v6 v7 h = some z → Ev (d + 4) none mX2_seekOn (0, 0) 95 [.ref v0, .ref v1, .int v2, .int v3, .null, .int v5, .int v6, .int v7, .null] [] h (QV z)) (v0 : Nat) (v1 : Nat) (v2 : Int32) (v3 : Int32) (v5 : Int32) (v6 : Int32) (v7 : Int32) (v8 : Int32) (h : aH) (hf : fX2_seekOn_150 kS k95 v0 v1 v2 v3 v5 v6 v7 v8 h = some z) : Ev (d + 4) none mX2_seekOn (0, 0) 150 [.ref v0, .ref v1, .int v2, .int v3, .null, .int v5, .int v6, .int v7, .int v8] [] h (QV z) := 
  go_ok (X := none) (blk := wX2_seekOn_150) (np := 153) (tt := 0) (kN := fun xs h st => app [2, 2, 1, 1, 0, 1, 1, 1, 1] (fun v0 v1 v2 v3 v5 v6 v7 v8 => apS [1, 2] (fun s0 s1 => fX2_seekOn_153 kS k95 v0 v1 v2 v3 v5 v6 v7 v8 s0 s1 h) st) xs) (kT := fun _ _ _ => none) (kR := kRV)
    (fun xs h st q => jm [2, 2, 1, 1, 0, 1, 1, 1, 1] _ (fun v0 v1 v2 v3 v5 v6 v7 v8 q => apS_ok [1, 2] _ (fun st => Ev (d + 4) none mX2_seekOn (0, 0) 153 [.ref v0, .ref v1, .int v2, .int v3, .null, .int v5, .int v6, .int v7, .int v8] st h (QV z)) st (fun s0 s1 q => tX2_seekOn_153 hS hk95 v0 v1 v2 v3 v5 v6 v7 v8 s0 s1 h q) q) q)
    (fun _ _ _ q => nos q)
    kRV_ok (Or.inr rfl) (by decide +kernel) (by decide +kernel) hf
def wX2_seekOn_145 : List En := [(.iload 5, 0, 0, 0), (.ifCond .eq 21, 168, 0, 0)]
def fX2_seekOn_145 (kS : Nat → Nat → Int32 → Int32 → aH → Option (aH)) (k95 : Nat → Nat → Int32 → Int32 → Int32 → Int32 → Int32 → aH → Option (aH)) (v0 : Nat) (v1 : Nat) (v2 : Int32) (v3 : Int32) (v5 : Int32) (v6 : Int32) (v7 : Int32) (v8 : Int32) (h : aH) : Option (aH) :=
  if v5 = 0 then fX2_seekOn_168 kS k95 v0 v1 v2 v3 v5 v6 v7 v8 h else fX2_seekOn_150 kS k95 v0 v1 v2 v3 v5 v6 v7 v8 h
theorem tX2_seekOn_145 {d : Nat} {z : aH} {kS : Nat → Nat → Int32 → Int32 → aH → Option (aH)} {k95 : Nat → Nat → Int32 → Int32 → Int32 → Int32 → Int32 → aH → Option (aH)} (hS : ∀ (w0 : Nat) (w1 : Nat) (w2 : Int32) (w3 : Int32) (h : aH) (r : aH), kS w0 w1 w2 w3 h = some r → CT (d + 3) mX2_seekOn (0, 0) [.ref w0, .ref w1, .int w2, .int w3] h (QV r)) (hk95 : ∀ (v0 : Nat) (v1 : Nat) (v2 : Int32) (v3 : Int32) (v5 : Int32) (v6 : Int32) (v7 : Int32) (h : aH), k95 v0 v1 v2 v3 v5 v6 v7 h = some z → Ev (d + 4) none mX2_seekOn (0, 0) 95 [.ref v0, .ref v1, .int v2, .int v3, .null, .int v5, .int v6, .int v7, .null] [] h (QV z)) (v0 : Nat) (v1 : Nat) (v2 : Int32) (v3 : Int32) (v5 : Int32) (v6 : Int32) (v7 : Int32) (v8 : Int32) (h : aH) (hf : fX2_seekOn_145 kS k95 v0 v1 v2 v3 v5 v6 v7 v8 h = some z) : Ev (d + 4) none mX2_seekOn (0, 0) 145 [.ref v0, .ref v1, .int v2, .int v3, .null, .int v5, .int v6, .int v7, .int v8] [] h (QV z) := 
  go_ok (X := none) (blk := wX2_seekOn_145) (np := 150) (tt := 168) (kN := fun xs h st => app [2, 2, 1, 1, 0, 1, 1, 1, 1] (fun v0 v1 v2 v3 v5 v6 v7 v8 => apS [] (fX2_seekOn_150 kS k95 v0 v1 v2 v3 v5 v6 v7 v8 h) st) xs) (kT := fun xs h st => app [2, 2, 1, 1, 0, 1, 1, 1, 1] (fun v0 v1 v2 v3 v5 v6 v7 v8 => apS [] (fX2_seekOn_168 kS k95 v0 v1 v2 v3 v5 v6 v7 v8 h) st) xs) (kR := kRV)
    (fun xs h st q => jm [2, 2, 1, 1, 0, 1, 1, 1, 1] _ (fun v0 v1 v2 v3 v5 v6 v7 v8 q => apS_ok [] _ (fun st => Ev (d + 4) none mX2_seekOn (0, 0) 150 [.ref v0, .ref v1, .int v2, .int v3, .null, .int v5, .int v6, .int v7, .int v8] st h (QV z)) st (fun q => tX2_seekOn_150 hS hk95 v0 v1 v2 v3 v5 v6 v7 v8 h q) q) q)
    (fun xs h st q => jm [2, 2, 1, 1, 0, 1, 1, 1, 1] _ (fun v0 v1 v2 v3 v5 v6 v7 v8 q => apS_ok [] _ (fun st => Ev (d + 4) none mX2_seekOn (0, 0) 168 [.ref v0, .ref v1, .int v2, .int v3, .null, .int v5, .int v6, .int v7, .int v8] st h (QV z)) st (fun q => tX2_seekOn_168 hS hk95 v0 v1 v2 v3 v5 v6 v7 v8 h q) q) q)
    kRV_ok (Or.inr rfl) (by decide +kernel) (by decide +kernel) hf
def wX2_seekOn_142 : List En := [(.goto 36, 178, 0, 0)]
def fX2_seekOn_142 (kS : Nat → Nat → Int32 → Int32 → aH → Option (aH)) (k95 : Nat → Nat → Int32 → Int32 → Int32 → Int32 → Int32 → aH → Option (aH)) (v0 : Nat) (v1 : Nat) (v2 : Int32) (v3 : Int32) (v5 : Int32) (v6 : Int32) (v7 : Int32) (h : aH) : Option (aH) :=
  fX2_seekOn_178 kS k95 v0 v1 v2 v3 v5 v6 v7 h
theorem tX2_seekOn_142 {d : Nat} {z : aH} {kS : Nat → Nat → Int32 → Int32 → aH → Option (aH)} {k95 : Nat → Nat → Int32 → Int32 → Int32 → Int32 → Int32 → aH → Option (aH)} (hS : ∀ (w0 : Nat) (w1 : Nat) (w2 : Int32) (w3 : Int32) (h : aH) (r : aH), kS w0 w1 w2 w3 h = some r → CT (d + 3) mX2_seekOn (0, 0) [.ref w0, .ref w1, .int w2, .int w3] h (QV r)) (hk95 : ∀ (v0 : Nat) (v1 : Nat) (v2 : Int32) (v3 : Int32) (v5 : Int32) (v6 : Int32) (v7 : Int32) (h : aH), k95 v0 v1 v2 v3 v5 v6 v7 h = some z → Ev (d + 4) none mX2_seekOn (0, 0) 95 [.ref v0, .ref v1, .int v2, .int v3, .null, .int v5, .int v6, .int v7, .null] [] h (QV z)) (v0 : Nat) (v1 : Nat) (v2 : Int32) (v3 : Int32) (v5 : Int32) (v6 : Int32) (v7 : Int32) (h : aH) (hf : fX2_seekOn_142 kS k95 v0 v1 v2 v3 v5 v6 v7 h = some z) : Ev (d + 4) none mX2_seekOn (0, 0) 142 [.ref v0, .ref v1, .int v2, .int v3, .null, .int v5, .int v6, .int v7, .null] [] h (QV z) := 
  go_ok (X := none) (blk := wX2_seekOn_142) (np := 145) (tt := 178) (kN := fun _ _ _ => none) (kT := fun xs h st => app [2, 2, 1, 1, 0, 1, 1, 1, 0] (fun v0 v1 v2 v3 v5 v6 v7 => apS [] (fX2_seekOn_178 kS k95 v0 v1 v2 v3 v5 v6 v7 h) st) xs) (kR := kRV)
    (fun _ _ _ q => nos q)
    (fun xs h st q => jm [2, 2, 1, 1, 0, 1, 1, 1, 0] _ (fun v0 v1 v2 v3 v5 v6 v7 q => apS_ok [] _ (fun st => Ev (d + 4) none mX2_seekOn (0, 0) 178 [.ref v0, .ref v1, .int v2, .int v3, .null, .int v5, .int v6, .int v7, .null] st h (QV z)) st (fun q => tX2_seekOn_178 hS hk95 v0 v1 v2 v3 v5 v6 v7 h q) q) q)
    kRV_ok (Or.inr rfl) (by decide +kernel) (by decide +kernel) hf
def wX2_seekOn_139 : List En := [(.ifCond .ne 6, 145, 0, 0)]
def fX2_seekOn_139 (kS : Nat → Nat → Int32 → Int32 → aH → Option (aH)) (k95 : Nat → Nat → Int32 → Int32 → Int32 → Int32 → Int32 → aH → Option (aH)) (v0 : Nat) (v1 : Nat) (v2 : Int32) (v3 : Int32) (v5 : Int32) (v6 : Int32) (v7 : Int32) (v8 : Int32) (s0 : Int32) (h : aH) : Option (aH) :=
  if s0 = 0 then fX2_seekOn_142 kS k95 v0 v1 v2 v3 v5 v6 v7 h else fX2_seekOn_145 kS k95 v0 v1 v2 v3 v5 v6 v7 v8 h
theorem tX2_seekOn_139 {d : Nat} {z : aH} {kS : Nat → Nat → Int32 → Int32 → aH → Option (aH)} {k95 : Nat → Nat → Int32 → Int32 → Int32 → Int32 → Int32 → aH → Option (aH)} (hS : ∀ (w0 : Nat) (w1 : Nat) (w2 : Int32) (w3 : Int32) (h : aH) (r : aH), kS w0 w1 w2 w3 h = some r → CT (d + 3) mX2_seekOn (0, 0) [.ref w0, .ref w1, .int w2, .int w3] h (QV r)) (hk95 : ∀ (v0 : Nat) (v1 : Nat) (v2 : Int32) (v3 : Int32) (v5 : Int32) (v6 : Int32) (v7 : Int32) (h : aH), k95 v0 v1 v2 v3 v5 v6 v7 h = some z → Ev (d + 4) none mX2_seekOn (0, 0) 95 [.ref v0, .ref v1, .int v2, .int v3, .null, .int v5, .int v6, .int v7, .null] [] h (QV z)) (v0 : Nat) (v1 : Nat) (v2 : Int32) (v3 : Int32) (v5 : Int32) (v6 : Int32) (v7 : Int32) (v8 : Int32) (s0 : Int32) (h : aH) (hf : fX2_seekOn_139 kS k95 v0 v1 v2 v3 v5 v6 v7 v8 s0 h = some z) : Ev (d + 4) none mX2_seekOn (0, 0) 139 [.ref v0, .ref v1, .int v2, .int v3, .null, .int v5, .int v6, .int v7, .int v8] [.int s0] h (QV z) := 
  go_ok (X := none) (blk := wX2_seekOn_139) (np := 142) (tt := 145) (kN := fun xs h st => app [2, 2, 1, 1, 0, 1, 1, 1, 0] (fun v0 v1 v2 v3 v5 v6 v7 => apS [] (fX2_seekOn_142 kS k95 v0 v1 v2 v3 v5 v6 v7 h) st) xs) (kT := fun xs h st => app [2, 2, 1, 1, 0, 1, 1, 1, 1] (fun v0 v1 v2 v3 v5 v6 v7 v8 => apS [] (fX2_seekOn_145 kS k95 v0 v1 v2 v3 v5 v6 v7 v8 h) st) xs) (kR := kRV)
    (fun xs h st q => jm [2, 2, 1, 1, 0, 1, 1, 1, 0] _ (fun v0 v1 v2 v3 v5 v6 v7 q => apS_ok [] _ (fun st => Ev (d + 4) none mX2_seekOn (0, 0) 142 [.ref v0, .ref v1, .int v2, .int v3, .null, .int v5, .int v6, .int v7, .null] st h (QV z)) st (fun q => tX2_seekOn_142 hS hk95 v0 v1 v2 v3 v5 v6 v7 h q) q) q)
    (fun xs h st q => jm [2, 2, 1, 1, 0, 1, 1, 1, 1] _ (fun v0 v1 v2 v3 v5 v6 v7 v8 q => apS_ok [] _ (fun st => Ev (d + 4) none mX2_seekOn (0, 0) 145 [.ref v0, .ref v1, .int v2, .int v3, .null, .int v5, .int v6, .int v7, .int v8] st h (QV z)) st (fun q => tX2_seekOn_145 hS hk95 v0 v1 v2 v3 v5 v6 v7 v8 h q) q) q)
    kRV_ok (Or.inr rfl) (by decide +kernel) (by decide +kernel) hf
theorem kqX2_seekOn_136 : okC mX2_seekOn 136 (.invokevirtual 57) 117 120 0 3 = true := by decide +kernel
def fX2_seekOn_136 (kS : Nat → Nat → Int32 → Int32 → aH → Option (aH)) (k95 : Nat → Nat → Int32 → Int32 → Int32 → Int32 → Int32 → aH → Option (aH)) (v0 : Nat) (v1 : Nat) (v2 : Int32) (v3 : Int32) (v5 : Int32) (v6 : Int32) (v7 : Int32) (v8 : Int32) (s0 : Int32) (s1 : Int32) (s2 : Nat) (s3 : Nat) (h : aH) : Option (aH) :=
  (isO h 2 s3).bind fun _ =>
  (gX2_keepsAll s3 s2 s1 s0 h).bind fun r =>
  fX2_seekOn_139 kS k95 v0 v1 v2 v3 v5 v6 v7 v8 r.1 r.2
theorem tX2_seekOn_136 {d : Nat} {z : aH} {kS : Nat → Nat → Int32 → Int32 → aH → Option (aH)} {k95 : Nat → Nat → Int32 → Int32 → Int32 → Int32 → Int32 → aH → Option (aH)} (hS : ∀ (w0 : Nat) (w1 : Nat) (w2 : Int32) (w3 : Int32) (h : aH) (r : aH), kS w0 w1 w2 w3 h = some r → CT (d + 3) mX2_seekOn (0, 0) [.ref w0, .ref w1, .int w2, .int w3] h (QV r)) (hk95 : ∀ (v0 : Nat) (v1 : Nat) (v2 : Int32) (v3 : Int32) (v5 : Int32) (v6 : Int32) (v7 : Int32) (h : aH), k95 v0 v1 v2 v3 v5 v6 v7 h = some z → Ev (d + 4) none mX2_seekOn (0, 0) 95 [.ref v0, .ref v1, .int v2, .int v3, .null, .int v5, .int v6, .int v7, .null] [] h (QV z)) (v0 : Nat) (v1 : Nat) (v2 : Int32) (v3 : Int32) (v5 : Int32) (v6 : Int32) (v7 : Int32) (v8 : Int32) (s0 : Int32) (s1 : Int32) (s2 : Nat) (s3 : Nat) (h : aH) (hf : fX2_seekOn_136 kS k95 v0 v1 v2 v3 v5 v6 v7 v8 s0 s1 s2 s3 h = some z) : Ev (d + 4) none mX2_seekOn (0, 0) 136 [.ref v0, .ref v1, .int v2, .int v3, .null, .int v5, .int v6, .int v7, .int v8] [.int s0, .int s1, .ref s2, .ref s3] h (QV z) := by
  obtain ⟨_, h1, hf⟩ := bnd hf
  obtain ⟨fs, ho⟩ := isO_ok h1
  obtain ⟨r, h2, hf⟩ := bnd hf
  refine ev_V kqX2_seekOn_136 jX2_keepsAll (zX2_keepsAll (d := d + 0) h2) ho rfl rfl (Nat.le_of_ble_eq_true rfl) rfl (as := [.ref s2, .int s1, .int s0]) (rest := []) rfl (Nat.le_of_ble_eq_true rfl) (fun _ _ hq => ?_)
  obtain ⟨-, rfl, rfl⟩ := hq
  exact jm [2, 2, 1, 1, 0, 1, 1, 1, 1] (fun v0 v1 v2 v3 v5 v6 v7 v8 => fX2_seekOn_139 kS k95 v0 v1 v2 v3 v5 v6 v7 v8 r.1 r.2) (fun v0 v1 v2 v3 v5 v6 v7 v8 q => tX2_seekOn_139 hS hk95 v0 v1 v2 v3 v5 v6 v7 v8 r.1 r.2 q) hf
def wX2_seekOn_131 : List En := [(.aload_n 0, 0, 0, 0), (.aload_n 1, 0, 0, 0), (.iload_n 2, 0, 0, 0), (.iload 7, 0, 0, 0)]
def fX2_seekOn_131 (kS : Nat → Nat → Int32 → Int32 → aH → Option (aH)) (k95 : Nat → Nat → Int32 → Int32 → Int32 → Int32 → Int32 → aH → Option (aH)) (v0 : Nat) (v1 : Nat) (v2 : Int32) (v3 : Int32) (v5 : Int32) (v6 : Int32) (v7 : Int32) (v8 : Int32) (h : aH) : Option (aH) :=
  fX2_seekOn_136 kS k95 v0 v1 v2 v3 v5 v6 v7 v8 v7 v2 v1 v0 h
theorem tX2_seekOn_131 {d : Nat} {z : aH} {kS : Nat → Nat → Int32 → Int32 → aH → Option (aH)} {k95 : Nat → Nat → Int32 → Int32 → Int32 → Int32 → Int32 → aH → Option (aH)} (hS : ∀ (w0 : Nat) (w1 : Nat) (w2 : Int32) (w3 : Int32) (h : aH) (r : aH), kS w0 w1 w2 w3 h = some r → CT (d + 3) mX2_seekOn (0, 0) [.ref w0, .ref w1, .int w2, .int w3] h (QV r)) (hk95 : ∀ (v0 : Nat) (v1 : Nat) (v2 : Int32) (v3 : Int32) (v5 : Int32) (v6 : Int32) (v7 : Int32) (h : aH), k95 v0 v1 v2 v3 v5 v6 v7 h = some z → Ev (d + 4) none mX2_seekOn (0, 0) 95 [.ref v0, .ref v1, .int v2, .int v3, .null, .int v5, .int v6, .int v7, .null] [] h (QV z)) (v0 : Nat) (v1 : Nat) (v2 : Int32) (v3 : Int32) (v5 : Int32) (v6 : Int32) (v7 : Int32) (v8 : Int32) (h : aH) (hf : fX2_seekOn_131 kS k95 v0 v1 v2 v3 v5 v6 v7 v8 h = some z) : Ev (d + 4) none mX2_seekOn (0, 0) 131 [.ref v0, .ref v1, .int v2, .int v3, .null, .int v5, .int v6, .int v7, .int v8] [] h (QV z) := 
  go_ok (X := none) (blk := wX2_seekOn_131) (np := 136) (tt := 0) (kN := fun xs h st => app [2, 2, 1, 1, 0, 1, 1, 1, 1] (fun v0 v1 v2 v3 v5 v6 v7 v8 => apS [1, 1, 2, 2] (fun s0 s1 s2 s3 => fX2_seekOn_136 kS k95 v0 v1 v2 v3 v5 v6 v7 v8 s0 s1 s2 s3 h) st) xs) (kT := fun _ _ _ => none) (kR := kRV)
    (fun xs h st q => jm [2, 2, 1, 1, 0, 1, 1, 1, 1] _ (fun v0 v1 v2 v3 v5 v6 v7 v8 q => apS_ok [1, 1, 2, 2] _ (fun st => Ev (d + 4) none mX2_seekOn (0, 0) 136 [.ref v0, .ref v1, .int v2, .int v3, .null, .int v5, .int v6, .int v7, .int v8] st h (QV z)) st (fun s0 s1 s2 s3 q => tX2_seekOn_136 hS hk95 v0 v1 v2 v3 v5 v6 v7 v8 s0 s1 s2 s3 h q) q) q)
    (fun _ _ _ q => nos q)
    kRV_ok (Or.inr rfl) (by decide +kernel) (by decide +kernel) hf
def wX2_seekOn_128 : List En := [(.ifCond .eq 50, 178, 0, 0)]
def fX2_seekOn_128 (kS : Nat → Nat → Int32 → Int32 → aH → Option (aH)) (k95 : Nat → Nat → Int32 → Int32 → Int32 → Int32 → Int32 → aH → Option (aH)) (v0 : Nat) (v1 : Nat) (v2 : Int32) (v3 : Int32) (v5 : Int32) (v6 : Int32) (v7 : Int32) (v8 : Int32) (s0 : Int32) (h : aH) : Option (aH) :=
  if s0 = 0 then fX2_seekOn_178 kS k95 v0 v1 v2 v3 v5 v6 v7 h else fX2_seekOn_131 kS k95 v0 v1 v2 v3 v5 v6 v7 v8 h
theorem tX2_seekOn_128 {d : Nat} {z : aH} {kS : Nat → Nat → Int32 → Int32 → aH → Option (aH)} {k95 : Nat → Nat → Int32 → Int32 → Int32 → Int32 → Int32 → aH → Option (aH)} (hS : ∀ (w0 : Nat) (w1 : Nat) (w2 : Int32) (w3 : Int32) (h : aH) (r : aH), kS w0 w1 w2 w3 h = some r → CT (d + 3) mX2_seekOn (0, 0) [.ref w0, .ref w1, .int w2, .int w3] h (QV r)) (hk95 : ∀ (v0 : Nat) (v1 : Nat) (v2 : Int32) (v3 : Int32) (v5 : Int32) (v6 : Int32) (v7 : Int32) (h : aH), k95 v0 v1 v2 v3 v5 v6 v7 h = some z → Ev (d + 4) none mX2_seekOn (0, 0) 95 [.ref v0, .ref v1, .int v2, .int v3, .null, .int v5, .int v6, .int v7, .null] [] h (QV z)) (v0 : Nat) (v1 : Nat) (v2 : Int32) (v3 : Int32) (v5 : Int32) (v6 : Int32) (v7 : Int32) (v8 : Int32) (s0 : Int32) (h : aH) (hf : fX2_seekOn_128 kS k95 v0 v1 v2 v3 v5 v6 v7 v8 s0 h = some z) : Ev (d + 4) none mX2_seekOn (0, 0) 128 [.ref v0, .ref v1, .int v2, .int v3, .null, .int v5, .int v6, .int v7, .int v8] [.int s0] h (QV z) := 
  go_ok (X := none) (blk := wX2_seekOn_128) (np := 131) (tt := 178) (kN := fun xs h st => app [2, 2, 1, 1, 0, 1, 1, 1, 1] (fun v0 v1 v2 v3 v5 v6 v7 v8 => apS [] (fX2_seekOn_131 kS k95 v0 v1 v2 v3 v5 v6 v7 v8 h) st) xs) (kT := fun xs h st => app [2, 2, 1, 1, 0, 1, 1, 1, 0] (fun v0 v1 v2 v3 v5 v6 v7 => apS [] (fX2_seekOn_178 kS k95 v0 v1 v2 v3 v5 v6 v7 h) st) xs) (kR := kRV)
    (fun xs h st q => jm [2, 2, 1, 1, 0, 1, 1, 1, 1] _ (fun v0 v1 v2 v3 v5 v6 v7 v8 q => apS_ok [] _ (fun st => Ev (d + 4) none mX2_seekOn (0, 0) 131 [.ref v0, .ref v1, .int v2, .int v3, .null, .int v5, .int v6, .int v7, .int v8] st h (QV z)) st (fun q => tX2_seekOn_131 hS hk95 v0 v1 v2 v3 v5 v6 v7 v8 h q) q) q)
    (fun xs h st q => jm [2, 2, 1, 1, 0, 1, 1, 1, 0] _ (fun v0 v1 v2 v3 v5 v6 v7 q => apS_ok [] _ (fun st => Ev (d + 4) none mX2_seekOn (0, 0) 178 [.ref v0, .ref v1, .int v2, .int v3, .null, .int v5, .int v6, .int v7, .null] st h (QV z)) st (fun q => tX2_seekOn_178 hS hk95 v0 v1 v2 v3 v5 v6 v7 h q) q) q)
    kRV_ok (Or.inr rfl) (by decide +kernel) (by decide +kernel) hf
theorem kqX2_seekOn_125 : okC mX2_seekOn 125 (.invokevirtual 61) 118 122 0 1 = true := by decide +kernel
def fX2_seekOn_125 (kS : Nat → Nat → Int32 → Int32 → aH → Option (aH)) (k95 : Nat → Nat → Int32 → Int32 → Int32 → Int32 → Int32 → aH → Option (aH)) (v0 : Nat) (v1 : Nat) (v2 : Int32) (v3 : Int32) (v5 : Int32) (v6 : Int32) (v7 : Int32) (v8 : Int32) (s0 : Int32) (s1 : Nat) (h : aH) : Option (aH) :=
  (isO h 2 s1).bind fun _ =>
  (gX2_isBetter s1 s0 h).bind fun r =>
  fX2_seekOn_128 kS k95 v0 v1 v2 v3 v5 v6 v7 v8 r.1 r.2
theorem tX2_seekOn_125 {d : Nat} {z : aH} {kS : Nat → Nat → Int32 → Int32 → aH → Option (aH)} {k95 : Nat → Nat → Int32 → Int32 → Int32 → Int32 → Int32 → aH → Option (aH)} (hS : ∀ (w0 : Nat) (w1 : Nat) (w2 : Int32) (w3 : Int32) (h : aH) (r : aH), kS w0 w1 w2 w3 h = some r → CT (d + 3) mX2_seekOn (0, 0) [.ref w0, .ref w1, .int w2, .int w3] h (QV r)) (hk95 : ∀ (v0 : Nat) (v1 : Nat) (v2 : Int32) (v3 : Int32) (v5 : Int32) (v6 : Int32) (v7 : Int32) (h : aH), k95 v0 v1 v2 v3 v5 v6 v7 h = some z → Ev (d + 4) none mX2_seekOn (0, 0) 95 [.ref v0, .ref v1, .int v2, .int v3, .null, .int v5, .int v6, .int v7, .null] [] h (QV z)) (v0 : Nat) (v1 : Nat) (v2 : Int32) (v3 : Int32) (v5 : Int32) (v6 : Int32) (v7 : Int32) (v8 : Int32) (s0 : Int32) (s1 : Nat) (h : aH) (hf : fX2_seekOn_125 kS k95 v0 v1 v2 v3 v5 v6 v7 v8 s0 s1 h = some z) : Ev (d + 4) none mX2_seekOn (0, 0) 125 [.ref v0, .ref v1, .int v2, .int v3, .null, .int v5, .int v6, .int v7, .int v8] [.int s0, .ref s1] h (QV z) := by
  obtain ⟨_, h1, hf⟩ := bnd hf
  obtain ⟨fs, ho⟩ := isO_ok h1
  obtain ⟨r, h2, hf⟩ := bnd hf
  refine ev_V kqX2_seekOn_125 jX2_isBetter (zX2_isBetter (d := d + 2) h2) ho rfl rfl (Nat.le_of_ble_eq_true rfl) rfl (as := [.int s0]) (rest := []) rfl (Nat.le_of_ble_eq_true rfl) (fun _ _ hq => ?_)
  obtain ⟨-, rfl, rfl⟩ := hq
  exact jm [2, 2, 1, 1, 0, 1, 1, 1, 1] (fun v0 v1 v2 v3 v5 v6 v7 v8 => fX2_seekOn_128 kS k95 v0 v1 v2 v3 v5 v6 v7 v8 r.1 r.2) (fun v0 v1 v2 v3 v5 v6 v7 v8 q => tX2_seekOn_128 hS hk95 v0 v1 v2 v3 v5 v6 v7 v8 r.1 r.2 q) hf
def wX2_seekOn_122 : List En := [(.aload_n 0, 0, 0, 0), (.iload 8, 0, 0, 0)]
def fX2_seekOn_122 (kS : Nat → Nat → Int32 → Int32 → aH → Option (aH)) (k95 : Nat → Nat → Int32 → Int32 → Int32 → Int32 → Int32 → aH → Option (aH)) (v0 : Nat) (v1 : Nat) (v2 : Int32) (v3 : Int32) (v5 : Int32) (v6 : Int32) (v7 : Int32) (v8 : Int32) (h : aH) : Option (aH) :=
  fX2_seekOn_125 kS k95 v0 v1 v2 v3 v5 v6 v7 v8 v8 v0 h
theorem tX2_seekOn_122 {d : Nat} {z : aH} {kS : Nat → Nat → Int32 → Int32 → aH → Option (aH)} {k95 : Nat → Nat → Int32 → Int32 → Int32 → Int32 → Int32 → aH → Option (aH)} (hS : ∀ (w0 : Nat) (w1 : Nat) (w2 : Int32) (w3 : Int32) (h : aH) (r : aH), kS w0 w1 w2 w3 h = some r → CT (d + 3) mX2_seekOn (0, 0) [.ref w0, .ref w1, .int w2, .int w3] h (QV r)) (hk95 : ∀ (v0 : Nat) (v1 : Nat) (v2 : Int32) (v3 : Int32) (v5 : Int32) (v6 : Int32) (v7 : Int32) (h : aH), k95 v0 v1 v2 v3 v5 v6 v7 h = some z → Ev (d + 4) none mX2_seekOn (0, 0) 95 [.ref v0, .ref v1, .int v2, .int v3, .null, .int v5, .int v6, .int v7, .null] [] h (QV z)) (v0 : Nat) (v1 : Nat) (v2 : Int32) (v3 : Int32) (v5 : Int32) (v6 : Int32) (v7 : Int32) (v8 : Int32) (h : aH) (hf : fX2_seekOn_122 kS k95 v0 v1 v2 v3 v5 v6 v7 v8 h = some z) : Ev (d + 4) none mX2_seekOn (0, 0) 122 [.ref v0, .ref v1, .int v2, .int v3, .null, .int v5, .int v6, .int v7, .int v8] [] h (QV z) := 
  go_ok (X := none) (blk := wX2_seekOn_122) (np := 125) (tt := 0) (kN := fun xs h st => app [2, 2, 1, 1, 0, 1, 1, 1, 1] (fun v0 v1 v2 v3 v5 v6 v7 v8 => apS [1, 2] (fun s0 s1 => fX2_seekOn_125 kS k95 v0 v1 v2 v3 v5 v6 v7 v8 s0 s1 h) st) xs) (kT := fun _ _ _ => none) (kR := kRV)
    (fun xs h st q => jm [2, 2, 1, 1, 0, 1, 1, 1, 1] _ (fun v0 v1 v2 v3 v5 v6 v7 v8 q => apS_ok [1, 2] _ (fun st => Ev (d + 4) none mX2_seekOn (0, 0) 125 [.ref v0, .ref v1, .int v2, .int v3, .null, .int v5, .int v6, .int v7, .int v8] st h (QV z)) st (fun s0 s1 q => tX2_seekOn_125 hS hk95 v0 v1 v2 v3 v5 v6 v7 v8 s0 s1 h q) q) q)
    (fun _ _ _ q => nos q)
    kRV_ok (Or.inr rfl) (by decide +kernel) (by decide +kernel) hf
def wX2_seekOn_102 : List En := [(.iload_n 3, 0, 0, 0), (.iload 7, 0, 0, 0), (.iconst 5, 0, 0, 0), (.iload_n 2, 0, 0, 0), (.imul, 0, 0, 0), (.ishl, 0, 0, 0), (.ior, 0, 0, 0), (.istore 8, 0, 0, 0), (.iload 7, 0, 0, 0), (.iload 6, 0, 0, 0), (.iconst (-1), 0, 0, 0), (.ixor, 0, 0, 0), (.iand, 0, 0, 0), (.ifCond .ne 59, 178, 0, 0)]
def fX2_seekOn_102 (kS : Nat → Nat → Int32 → Int32 → aH → Option (aH)) (k95 : Nat → Nat → Int32 → Int32 → Int32 → Int32 → Int32 → aH → Option (aH)) (v0 : Nat) (v1 : Nat) (v2 : Int32) (v3 : Int32) (v5 : Int32) (v6 : Int32) (v7 : Int32) (h : aH) : Option (aH) :=
  if (v7 &&& (v6 ^^^ (kI (-1)))) = 0 then fX2_seekOn_122 kS k95 v0 v1 v2 v3 v5 v6 v7 (v3 ||| (v7 <<< (((kI 5) * v2) &&& 31))) h else fX2_seekOn_178 kS k95 v0 v1 v2 v3 v5 v6 v7 h
theorem tX2_seekOn_102 {d : Nat} {z : aH} {kS : Nat → Nat → Int32 → Int32 → aH → Option (aH)} {k95 : Nat → Nat → Int32 → Int32 → Int32 → Int32 → Int32 → aH → Option (aH)} (hS : ∀ (w0 : Nat) (w1 : Nat) (w2 : Int32) (w3 : Int32) (h : aH) (r : aH), kS w0 w1 w2 w3 h = some r → CT (d + 3) mX2_seekOn (0, 0) [.ref w0, .ref w1, .int w2, .int w3] h (QV r)) (hk95 : ∀ (v0 : Nat) (v1 : Nat) (v2 : Int32) (v3 : Int32) (v5 : Int32) (v6 : Int32) (v7 : Int32) (h : aH), k95 v0 v1 v2 v3 v5 v6 v7 h = some z → Ev (d + 4) none mX2_seekOn (0, 0) 95 [.ref v0, .ref v1, .int v2, .int v3, .null, .int v5, .int v6, .int v7, .null] [] h (QV z)) (v0 : Nat) (v1 : Nat) (v2 : Int32) (v3 : Int32) (v5 : Int32) (v6 : Int32) (v7 : Int32) (h : aH) (hf : fX2_seekOn_102 kS k95 v0 v1 v2 v3 v5 v6 v7 h = some z) : Ev (d + 4) none mX2_seekOn (0, 0) 102 [.ref v0, .ref v1, .int v2, .int v3, .null, .int v5, .int v6, .int v7, .null] [] h (QV z) := 
  go_ok (X := none) (blk := wX2_seekOn_102) (np := 122) (tt := 178) (kN := fun xs h st => app [2, 2, 1, 1, 0, 1, 1, 1, 1] (fun v0 v1 v2 v3 v5 v6 v7 v8 => apS [] (fX2_seekOn_122 kS k95 v0 v1 v2 v3 v5 v6 v7 v8 h) st) xs) (kT := fun xs h st => app [2, 2, 1, 1, 0, 1, 1, 1, 0] (fun v0 v1 v2 v3 v5 v6 v7 => apS [] (fX2_seekOn_178 kS k95 v0 v1 v2 v3 v5 v6 v7 h) st) xs) (kR := kRV)
    (fun xs h st q => jm [2, 2, 1, 1, 0, 1, 1, 1, 1] _ (fun v0 v1 v2 v3 v5 v6 v7 v8 q => apS_ok [] _ (fun st => Ev (d + 4) none mX2_seekOn (0, 0) 122 [.ref v0, .ref v1, .int v2, .int v3, .null, .int v5, .int v6, .int v7, .int v8] st h (QV z)) st (fun q => tX2_seekOn_122 hS hk95 v0 v1 v2 v3 v5 v6 v7 v8 h q) q) q)
    (fun xs h st q => jm [2, 2, 1, 1, 0, 1, 1, 1, 0] _ (fun v0 v1 v2 v3 v5 v6 v7 q => apS_ok [] _ (fun st => Ev (d + 4) none mX2_seekOn (0, 0) 178 [.ref v0, .ref v1, .int v2, .int v3, .null, .int v5, .int v6, .int v7, .null] st h (QV z)) st (fun q => tX2_seekOn_178 hS hk95 v0 v1 v2 v3 v5 v6 v7 h q) q) q)
    kRV_ok (Or.inr rfl) (by decide +kernel) (by decide +kernel) hf
def wX2_seekOn_95 : List En := [(.iload 7, 0, 0, 0), (.iload 6, 0, 0, 0), (.if_icmp .gt 85, 184, 0, 0)]
def fX2_seekOn_95 (kS : Nat → Nat → Int32 → Int32 → aH → Option (aH)) (k95 : Nat → Nat → Int32 → Int32 → Int32 → Int32 → Int32 → aH → Option (aH)) (v0 : Nat) (v1 : Nat) (v2 : Int32) (v3 : Int32) (v5 : Int32) (v6 : Int32) (v7 : Int32) (h : aH) : Option (aH) :=
  if v6 < v7 then fX2_seekOn_184 kS h else fX2_seekOn_102 kS k95 v0 v1 v2 v3 v5 v6 v7 h
theorem tX2_seekOn_95 {d : Nat} {z : aH} {kS : Nat → Nat → Int32 → Int32 → aH → Option (aH)} {k95 : Nat → Nat → Int32 → Int32 → Int32 → Int32 → Int32 → aH → Option (aH)} (hS : ∀ (w0 : Nat) (w1 : Nat) (w2 : Int32) (w3 : Int32) (h : aH) (r : aH), kS w0 w1 w2 w3 h = some r → CT (d + 3) mX2_seekOn (0, 0) [.ref w0, .ref w1, .int w2, .int w3] h (QV r)) (hk95 : ∀ (v0 : Nat) (v1 : Nat) (v2 : Int32) (v3 : Int32) (v5 : Int32) (v6 : Int32) (v7 : Int32) (h : aH), k95 v0 v1 v2 v3 v5 v6 v7 h = some z → Ev (d + 4) none mX2_seekOn (0, 0) 95 [.ref v0, .ref v1, .int v2, .int v3, .null, .int v5, .int v6, .int v7, .null] [] h (QV z)) (v0 : Nat) (v1 : Nat) (v2 : Int32) (v3 : Int32) (v5 : Int32) (v6 : Int32) (v7 : Int32) (h : aH) (hf : fX2_seekOn_95 kS k95 v0 v1 v2 v3 v5 v6 v7 h = some z) : Ev (d + 4) none mX2_seekOn (0, 0) 95 [.ref v0, .ref v1, .int v2, .int v3, .null, .int v5, .int v6, .int v7, .null] [] h (QV z) := 
  go_ok (X := none) (blk := wX2_seekOn_95) (np := 102) (tt := 184) (kN := fun xs h st => app [2, 2, 1, 1, 0, 1, 1, 1, 0] (fun v0 v1 v2 v3 v5 v6 v7 => apS [] (fX2_seekOn_102 kS k95 v0 v1 v2 v3 v5 v6 v7 h) st) xs) (kT := fun xs h st => app [0, 0, 0, 0, 0, 0, 0, 0, 0] (apS [] (fX2_seekOn_184 kS h) st) xs) (kR := kRV)
    (fun xs h st q => jm [2, 2, 1, 1, 0, 1, 1, 1, 0] _ (fun v0 v1 v2 v3 v5 v6 v7 q => apS_ok [] _ (fun st => Ev (d + 4) none mX2_seekOn (0, 0) 102 [.ref v0, .ref v1, .int v2, .int v3, .null, .int v5, .int v6, .int v7, .null] st h (QV z)) st (fun q => tX2_seekOn_102 hS hk95 v0 v1 v2 v3 v5 v6 v7 h q) q) q)
    (fun xs h st q => jm [0, 0, 0, 0, 0, 0, 0, 0, 0] _ (fun q => apS_ok [] _ (fun st => Ev (d + 4) none mX2_seekOn (0, 0) 184 [.null, .null, .null, .null, .null, .null, .null, .null, .null] st h (QV z)) st (fun q => tX2_seekOn_184 hS h q) q) q)
    kRV_ok (Or.inr rfl) (by decide +kernel) (by decide +kernel) hf
def lX2_seekOn_95 (kS : Nat → Nat → Int32 → Int32 → aH → Option (aH)) : Nat → Nat → Nat → Int32 → Int32 → Int32 → Int32 → Int32 → aH → Option (aH)
  | 0, _, _, _, _, _, _, _, _ => none
  | n + 1, v0, v1, v2, v3, v5, v6, v7, h => fX2_seekOn_95 kS (lX2_seekOn_95 kS n) v0 v1 v2 v3 v5 v6 v7 h
theorem uX2_seekOn_95 {d : Nat} {z : aH} {kS : Nat → Nat → Int32 → Int32 → aH → Option (aH)} (hS : ∀ (w0 : Nat) (w1 : Nat) (w2 : Int32) (w3 : Int32) (h : aH) (r : aH), kS w0 w1 w2 w3 h = some r → CT (d + 3) mX2_seekOn (0, 0) [.ref w0, .ref w1, .int w2, .int w3] h (QV r)) : ∀ (n : Nat) (v0 : Nat) (v1 : Nat) (v2 : Int32) (v3 : Int32) (v5 : Int32) (v6 : Int32) (v7 : Int32) (h : aH), lX2_seekOn_95 kS n v0 v1 v2 v3 v5 v6 v7 h = some z → Ev (d + 4) none mX2_seekOn (0, 0) 95 [.ref v0, .ref v1, .int v2, .int v3, .null, .int v5, .int v6, .int v7, .null] [] h (QV z) := by
  intro n
  induction n with
  | zero => intro _ _ _ _ _ _ _ _ q; exact nos (show (none : Option (aH)) = some z from q)
  | succ n ih => intro v0 v1 v2 v3 v5 v6 v7 h q; exact tX2_seekOn_95 hS ih v0 v1 v2 v3 v5 v6 v7 h q
def wX2_seekOn_92 : List En := [(.iconst 0, 0, 0, 0), (.istore 7, 0, 0, 0)]
def fX2_seekOn_92 (kS : Nat → Nat → Int32 → Int32 → aH → Option (aH)) (v0 : Nat) (v1 : Nat) (v2 : Int32) (v3 : Int32) (v5 : Int32) (v6 : Int32) (h : aH) : Option (aH) :=
  lX2_seekOn_95 kS FU v0 v1 v2 v3 v5 v6 (kI 0) h
theorem tX2_seekOn_92 {d : Nat} {z : aH} {kS : Nat → Nat → Int32 → Int32 → aH → Option (aH)} (hS : ∀ (w0 : Nat) (w1 : Nat) (w2 : Int32) (w3 : Int32) (h : aH) (r : aH), kS w0 w1 w2 w3 h = some r → CT (d + 3) mX2_seekOn (0, 0) [.ref w0, .ref w1, .int w2, .int w3] h (QV r)) (v0 : Nat) (v1 : Nat) (v2 : Int32) (v3 : Int32) (v5 : Int32) (v6 : Int32) (h : aH) (hf : fX2_seekOn_92 kS v0 v1 v2 v3 v5 v6 h = some z) : Ev (d + 4) none mX2_seekOn (0, 0) 92 [.ref v0, .ref v1, .int v2, .int v3, .null, .int v5, .int v6, .null, .null] [] h (QV z) := 
  go_ok (X := none) (blk := wX2_seekOn_92) (np := 95) (tt := 0) (kN := fun xs h st => app [2, 2, 1, 1, 0, 1, 1, 1, 0] (fun v0 v1 v2 v3 v5 v6 v7 => apS [] (lX2_seekOn_95 kS FU v0 v1 v2 v3 v5 v6 v7 h) st) xs) (kT := fun _ _ _ => none) (kR := kRV)
    (fun xs h st q => jm [2, 2, 1, 1, 0, 1, 1, 1, 0] _ (fun v0 v1 v2 v3 v5 v6 v7 q => apS_ok [] _ (fun st => Ev (d + 4) none mX2_seekOn (0, 0) 95 [.ref v0, .ref v1, .int v2, .int v3, .null, .int v5, .int v6, .int v7, .null] st h (QV z)) st (fun q => uX2_seekOn_95 hS FU v0 v1 v2 v3 v5 v6 v7 h q) q) q)
    (fun _ _ _ q => nos q)
    kRV_ok (Or.inr rfl) (by decide +kernel) (by decide +kernel) hf
def wX2_seekOn_91 : List En := [(.return_, 0, 0, 0)]
def fX2_seekOn_91 (kS : Nat → Nat → Int32 → Int32 → aH → Option (aH)) (h : aH) : Option (aH) :=
  some h
theorem tX2_seekOn_91 {d : Nat} {z : aH} {kS : Nat → Nat → Int32 → Int32 → aH → Option (aH)} (hS : ∀ (w0 : Nat) (w1 : Nat) (w2 : Int32) (w3 : Int32) (h : aH) (r : aH), kS w0 w1 w2 w3 h = some r → CT (d + 3) mX2_seekOn (0, 0) [.ref w0, .ref w1, .int w2, .int w3] h (QV r)) (h : aH) (hf : fX2_seekOn_91 kS h = some z) : Ev (d + 4) none mX2_seekOn (0, 0) 91 [.null, .null, .null, .null, .null, .null, .null, .null, .null] [] h (QV z) := 
  go_ok (X := none) (blk := wX2_seekOn_91) (np := 92) (tt := 0) (kN := fun _ _ _ => none) (kT := fun _ _ _ => none) (kR := kRV)
    (fun _ _ _ q => nos q)
    (fun _ _ _ q => nos q)
    kRV_ok (Or.inr rfl) (by decide +kernel) (by decide +kernel) hf
def wX2_seekOn_88 : List En := [(.ifCond .ne 4, 92, 0, 0)]
def fX2_seekOn_88 (kS : Nat → Nat → Int32 → Int32 → aH → Option (aH)) (v0 : Nat) (v1 : Nat) (v2 : Int32) (v3 : Int32) (v5 : Int32) (v6 : Int32) (s0 : Int32) (h : aH) : Option (aH) :=
  if s0 = 0 then fX2_seekOn_91 kS h else fX2_seekOn_92 kS v0 v1 v2 v3 v5 v6 h
theorem tX2_seekOn_88 {d : Nat} {z : aH} {kS : Nat → Nat → Int32 → Int32 → aH → Option (aH)} (hS : ∀ (w0 : Nat) (w1 : Nat) (w2 : Int32) (w3 : Int32) (h : aH) (r : aH), kS w0 w1 w2 w3 h = some r → CT (d + 3) mX2_seekOn (0, 0) [.ref w0, .ref w1, .int w2, .int w3] h (QV r)) (v0 : Nat) (v1 : Nat) (v2 : Int32) (v3 : Int32) (v5 : Int32) (v6 : Int32) (s0 : Int32) (h : aH) (hf : fX2_seekOn_88 kS v0 v1 v2 v3 v5 v6 s0 h = some z) : Ev (d + 4) none mX2_seekOn (0, 0) 88 [.ref v0, .ref v1, .int v2, .int v3, .null, .int v5, .int v6, .null, .null] [.int s0] h (QV z) := 
  go_ok (X := none) (blk := wX2_seekOn_88) (np := 91) (tt := 92) (kN := fun xs h st => app [0, 0, 0, 0, 0, 0, 0, 0, 0] (apS [] (fX2_seekOn_91 kS h) st) xs) (kT := fun xs h st => app [2, 2, 1, 1, 0, 1, 1, 0, 0] (fun v0 v1 v2 v3 v5 v6 => apS [] (fX2_seekOn_92 kS v0 v1 v2 v3 v5 v6 h) st) xs) (kR := kRV)
    (fun xs h st q => jm [0, 0, 0, 0, 0, 0, 0, 0, 0] _ (fun q => apS_ok [] _ (fun st => Ev (d + 4) none mX2_seekOn (0, 0) 91 [.null, .null, .null, .null, .null, .null, .null, .null, .null] st h (QV z)) st (fun q => tX2_seekOn_91 hS h q) q) q)
    (fun xs h st q => jm [2, 2, 1, 1, 0, 1, 1, 0, 0] _ (fun v0 v1 v2 v3 v5 v6 q => apS_ok [] _ (fun st => Ev (d + 4) none mX2_seekOn (0, 0) 92 [.ref v0, .ref v1, .int v2, .int v3, .null, .int v5, .int v6, .null, .null] st h (QV z)) st (fun q => tX2_seekOn_92 hS v0 v1 v2 v3 v5 v6 h q) q) q)
    kRV_ok (Or.inr rfl) (by decide +kernel) (by decide +kernel) hf
theorem kqX2_seekOn_85 : okC mX2_seekOn 85 (.invokevirtual 57) 117 120 0 3 = true := by decide +kernel
def fX2_seekOn_85 (kS : Nat → Nat → Int32 → Int32 → aH → Option (aH)) (v0 : Nat) (v1 : Nat) (v2 : Int32) (v3 : Int32) (v5 : Int32) (v6 : Int32) (s0 : Int32) (s1 : Int32) (s2 : Nat) (s3 : Nat) (h : aH) : Option (aH) :=
  (isO h 2 s3).bind fun _ =>
  (gX2_keepsAll s3 s2 s1 s0 h).bind fun r =>
  fX2_seekOn_88 kS v0 v1 v2 v3 v5 v6 r.1 r.2
theorem tX2_seekOn_85 {d : Nat} {z : aH} {kS : Nat → Nat → Int32 → Int32 → aH → Option (aH)} (hS : ∀ (w0 : Nat) (w1 : Nat) (w2 : Int32) (w3 : Int32) (h : aH) (r : aH), kS w0 w1 w2 w3 h = some r → CT (d + 3) mX2_seekOn (0, 0) [.ref w0, .ref w1, .int w2, .int w3] h (QV r)) (v0 : Nat) (v1 : Nat) (v2 : Int32) (v3 : Int32) (v5 : Int32) (v6 : Int32) (s0 : Int32) (s1 : Int32) (s2 : Nat) (s3 : Nat) (h : aH) (hf : fX2_seekOn_85 kS v0 v1 v2 v3 v5 v6 s0 s1 s2 s3 h = some z) : Ev (d + 4) none mX2_seekOn (0, 0) 85 [.ref v0, .ref v1, .int v2, .int v3, .null, .int v5, .int v6, .null, .null] [.int s0, .int s1, .ref s2, .ref s3] h (QV z) := by
  obtain ⟨_, h1, hf⟩ := bnd hf
  obtain ⟨fs, ho⟩ := isO_ok h1
  obtain ⟨r, h2, hf⟩ := bnd hf
  refine ev_V kqX2_seekOn_85 jX2_keepsAll (zX2_keepsAll (d := d + 0) h2) ho rfl rfl (Nat.le_of_ble_eq_true rfl) rfl (as := [.ref s2, .int s1, .int s0]) (rest := []) rfl (Nat.le_of_ble_eq_true rfl) (fun _ _ hq => ?_)
  obtain ⟨-, rfl, rfl⟩ := hq
  exact jm [2, 2, 1, 1, 0, 1, 1, 0, 0] (fun v0 v1 v2 v3 v5 v6 => fX2_seekOn_88 kS v0 v1 v2 v3 v5 v6 r.1 r.2) (fun v0 v1 v2 v3 v5 v6 q => tX2_seekOn_88 hS v0 v1 v2 v3 v5 v6 r.1 r.2 q) hf
def wX2_seekOn_75 : List En := [(.iconst (-1), 0, 0, 0), (.ixor, 0, 0, 0), (.iand, 0, 0, 0), (.istore 6, 0, 0, 0), (.aload_n 0, 0, 0, 0), (.aload_n 1, 0, 0, 0), (.iload_n 2, 0, 0, 0), (.iload 6, 0, 0, 0)]
def fX2_seekOn_75 (kS : Nat → Nat → Int32 → Int32 → aH → Option (aH)) (v0 : Nat) (v1 : Nat) (v2 : Int32) (v3 : Int32) (v5 : Int32) (s0 : Int32) (s1 : Int32) (h : aH) : Option (aH) :=
  fX2_seekOn_85 kS v0 v1 v2 v3 v5 (s1 &&& (s0 ^^^ (kI (-1)))) (s1 &&& (s0 ^^^ (kI (-1)))) v2 v1 v0 h
theorem tX2_seekOn_75 {d : Nat} {z : aH} {kS : Nat → Nat → Int32 → Int32 → aH → Option (aH)} (hS : ∀ (w0 : Nat) (w1 : Nat) (w2 : Int32) (w3 : Int32) (h : aH) (r : aH), kS w0 w1 w2 w3 h = some r → CT (d + 3) mX2_seekOn (0, 0) [.ref w0, .ref w1, .int w2, .int w3] h (QV r)) (v0 : Nat) (v1 : Nat) (v2 : Int32) (v3 : Int32) (v5 : Int32) (s0 : Int32) (s1 : Int32) (h : aH) (hf : fX2_seekOn_75 kS v0 v1 v2 v3 v5 s0 s1 h = some z) : Ev (d + 4) none mX2_seekOn (0, 0) 75 [.ref v0, .ref v1, .int v2, .int v3, .null, .int v5, .null, .null, .null] [.int s0, .int s1] h (QV z) := 
  go_ok (X := none) (blk := wX2_seekOn_75) (np := 85) (tt := 0) (kN := fun xs h st => app [2, 2, 1, 1, 0, 1, 1, 0, 0] (fun v0 v1 v2 v3 v5 v6 => apS [1, 1, 2, 2] (fun s0 s1 s2 s3 => fX2_seekOn_85 kS v0 v1 v2 v3 v5 v6 s0 s1 s2 s3 h) st) xs) (kT := fun _ _ _ => none) (kR := kRV)
    (fun xs h st q => jm [2, 2, 1, 1, 0, 1, 1, 0, 0] _ (fun v0 v1 v2 v3 v5 v6 q => apS_ok [1, 1, 2, 2] _ (fun st => Ev (d + 4) none mX2_seekOn (0, 0) 85 [.ref v0, .ref v1, .int v2, .int v3, .null, .int v5, .int v6, .null, .null] st h (QV z)) st (fun s0 s1 s2 s3 q => tX2_seekOn_85 hS v0 v1 v2 v3 v5 v6 s0 s1 s2 s3 h q) q) q)
    (fun _ _ _ q => nos q)
    kRV_ok (Or.inr rfl) (by decide +kernel) (by decide +kernel) hf
theorem kqX2_seekOn_72 : okC mX2_seekOn 72 (.invokevirtual 54) 116 119 0 1 = true := by decide +kernel
def fX2_seekOn_72 (kS : Nat → Nat → Int32 → Int32 → aH → Option (aH)) (v0 : Nat) (v1 : Nat) (v2 : Int32) (v3 : Int32) (v5 : Int32) (s0 : Nat) (s1 : Nat) (s2 : Int32) (h : aH) : Option (aH) :=
  (isO h 7 s1).bind fun _ =>
  (gX7_endangered s1 s0 h).bind fun r =>
  fX2_seekOn_75 kS v0 v1 v2 v3 v5 r.1 s2 r.2
theorem tX2_seekOn_72 {d : Nat} {z : aH} {kS : Nat → Nat → Int32 → Int32 → aH → Option (aH)} (hS : ∀ (w0 : Nat) (w1 : Nat) (w2 : Int32) (w3 : Int32) (h : aH) (r : aH), kS w0 w1 w2 w3 h = some r → CT (d + 3) mX2_seekOn (0, 0) [.ref w0, .ref w1, .int w2, .int w3] h (QV r)) (v0 : Nat) (v1 : Nat) (v2 : Int32) (v3 : Int32) (v5 : Int32) (s0 : Nat) (s1 : Nat) (s2 : Int32) (h : aH) (hf : fX2_seekOn_72 kS v0 v1 v2 v3 v5 s0 s1 s2 h = some z) : Ev (d + 4) none mX2_seekOn (0, 0) 72 [.ref v0, .ref v1, .int v2, .int v3, .null, .int v5, .null, .null, .null] [.ref s0, .ref s1, .int s2] h (QV z) := by
  obtain ⟨_, h1, hf⟩ := bnd hf
  obtain ⟨fs, ho⟩ := isO_ok h1
  obtain ⟨r, h2, hf⟩ := bnd hf
  refine ev_V kqX2_seekOn_72 jX7_endangered (zX7_endangered (d := d + 2) h2) ho rfl rfl (Nat.le_of_ble_eq_true rfl) rfl (as := [.ref s0]) (rest := [.int s2]) rfl (Nat.le_of_ble_eq_true rfl) (fun _ _ hq => ?_)
  obtain ⟨rfl, rfl⟩ := hq
  exact jm [2, 2, 1, 1, 0, 1, 0, 0, 0] (fun v0 v1 v2 v3 v5 => fX2_seekOn_75 kS v0 v1 v2 v3 v5 r.1 s2 r.2) (fun v0 v1 v2 v3 v5 q => tX2_seekOn_75 hS v0 v1 v2 v3 v5 r.1 s2 r.2 q) hf
def wX2_seekOn_69 : List En := [(.aload 4, 0, 0, 0), (.aload_n 1, 0, 0, 0)]
def fX2_seekOn_69 (kS : Nat → Nat → Int32 → Int32 → aH → Option (aH)) (v0 : Nat) (v1 : Nat) (v2 : Int32) (v3 : Int32) (v4 : Nat) (v5 : Int32) (s0 : Int32) (h : aH) : Option (aH) :=
  fX2_seekOn_72 kS v0 v1 v2 v3 v5 v1 v4 s0 h
theorem tX2_seekOn_69 {d : Nat} {z : aH} {kS : Nat → Nat → Int32 → Int32 → aH → Option (aH)} (hS : ∀ (w0 : Nat) (w1 : Nat) (w2 : Int32) (w3 : Int32) (h : aH) (r : aH), kS w0 w1 w2 w3 h = some r → CT (d + 3) mX2_seekOn (0, 0) [.ref w0, .ref w1, .int w2, .int w3] h (QV r)) (v0 : Nat) (v1 : Nat) (v2 : Int32) (v3 : Int32) (v4 : Nat) (v5 : Int32) (s0 : Int32) (h : aH) (hf : fX2_seekOn_69 kS v0 v1 v2 v3 v4 v5 s0 h = some z) : Ev (d + 4) none mX2_seekOn (0, 0) 69 [.ref v0, .ref v1, .int v2, .int v3, .ref v4, .int v5, .null, .null, .null] [.int s0] h (QV z) := 
  go_ok (X := none) (blk := wX2_seekOn_69) (np := 72) (tt := 0) (kN := fun xs h st => app [2, 2, 1, 1, 0, 1, 0, 0, 0] (fun v0 v1 v2 v3 v5 => apS [2, 2, 1] (fun s0 s1 s2 => fX2_seekOn_72 kS v0 v1 v2 v3 v5 s0 s1 s2 h) st) xs) (kT := fun _ _ _ => none) (kR := kRV)
    (fun xs h st q => jm [2, 2, 1, 1, 0, 1, 0, 0, 0] _ (fun v0 v1 v2 v3 v5 q => apS_ok [2, 2, 1] _ (fun st => Ev (d + 4) none mX2_seekOn (0, 0) 72 [.ref v0, .ref v1, .int v2, .int v3, .null, .int v5, .null, .null, .null] st h (QV z)) st (fun s0 s1 s2 q => tX2_seekOn_72 hS v0 v1 v2 v3 v5 s0 s1 s2 h q) q) q)
    (fun _ _ _ q => nos q)
    kRV_ok (Or.inr rfl) (by decide +kernel) (by decide +kernel) hf
theorem kqX2_seekOn_66 : okC mX2_seekOn 66 (.invokevirtual 50) 115 116 0 1 = true := by decide +kernel
def fX2_seekOn_66 (kS : Nat → Nat → Int32 → Int32 → aH → Option (aH)) (v0 : Nat) (v1 : Nat) (v2 : Int32) (v3 : Int32) (v4 : Nat) (v5 : Int32) (s0 : Nat) (s1 : Nat) (h : aH) : Option (aH) :=
  (isO h 7 s1).bind fun _ =>
  (gX7_freeToFast s1 s0 h).bind fun r =>
  fX2_seekOn_69 kS v0 v1 v2 v3 v4 v5 r.1 r.2
theorem tX2_seekOn_66 {d : Nat} {z : aH} {kS : Nat → Nat → Int32 → Int32 → aH → Option (aH)} (hS : ∀ (w0 : Nat) (w1 : Nat) (w2 : Int32) (w3 : Int32) (h : aH) (r : aH), kS w0 w1 w2 w3 h = some r → CT (d + 3) mX2_seekOn (0, 0) [.ref w0, .ref w1, .int w2, .int w3] h (QV r)) (v0 : Nat) (v1 : Nat) (v2 : Int32) (v3 : Int32) (v4 : Nat) (v5 : Int32) (s0 : Nat) (s1 : Nat) (h : aH) (hf : fX2_seekOn_66 kS v0 v1 v2 v3 v4 v5 s0 s1 h = some z) : Ev (d + 4) none mX2_seekOn (0, 0) 66 [.ref v0, .ref v1, .int v2, .int v3, .ref v4, .int v5, .null, .null, .null] [.ref s0, .ref s1] h (QV z) := by
  obtain ⟨_, h1, hf⟩ := bnd hf
  obtain ⟨fs, ho⟩ := isO_ok h1
  obtain ⟨r, h2, hf⟩ := bnd hf
  refine ev_V kqX2_seekOn_66 jX7_freeToFast (zX7_freeToFast (d := d + 1) h2) ho rfl rfl (Nat.le_of_ble_eq_true rfl) rfl (as := [.ref s0]) (rest := []) rfl (Nat.le_of_ble_eq_true rfl) (fun _ _ hq => ?_)
  obtain ⟨rfl, rfl⟩ := hq
  exact jm [2, 2, 1, 1, 2, 1, 0, 0, 0] (fun v0 v1 v2 v3 v4 v5 => fX2_seekOn_69 kS v0 v1 v2 v3 v4 v5 r.1 r.2) (fun v0 v1 v2 v3 v4 v5 q => tX2_seekOn_69 hS v0 v1 v2 v3 v4 v5 r.1 r.2 q) hf
def wX2_seekOn_63 : List En := [(.aload 4, 0, 0, 0), (.aload_n 1, 0, 0, 0)]
def fX2_seekOn_63 (kS : Nat → Nat → Int32 → Int32 → aH → Option (aH)) (v0 : Nat) (v1 : Nat) (v2 : Int32) (v3 : Int32) (v4 : Nat) (v5 : Int32) (h : aH) : Option (aH) :=
  fX2_seekOn_66 kS v0 v1 v2 v3 v4 v5 v1 v4 h
theorem tX2_seekOn_63 {d : Nat} {z : aH} {kS : Nat → Nat → Int32 → Int32 → aH → Option (aH)} (hS : ∀ (w0 : Nat) (w1 : Nat) (w2 : Int32) (w3 : Int32) (h : aH) (r : aH), kS w0 w1 w2 w3 h = some r → CT (d + 3) mX2_seekOn (0, 0) [.ref w0, .ref w1, .int w2, .int w3] h (QV r)) (v0 : Nat) (v1 : Nat) (v2 : Int32) (v3 : Int32) (v4 : Nat) (v5 : Int32) (h : aH) (hf : fX2_seekOn_63 kS v0 v1 v2 v3 v4 v5 h = some z) : Ev (d + 4) none mX2_seekOn (0, 0) 63 [.ref v0, .ref v1, .int v2, .int v3, .ref v4, .int v5, .null, .null, .null] [] h (QV z) := 
  go_ok (X := none) (blk := wX2_seekOn_63) (np := 66) (tt := 0) (kN := fun xs h st => app [2, 2, 1, 1, 2, 1, 0, 0, 0] (fun v0 v1 v2 v3 v4 v5 => apS [2, 2] (fun s0 s1 => fX2_seekOn_66 kS v0 v1 v2 v3 v4 v5 s0 s1 h) st) xs) (kT := fun _ _ _ => none) (kR := kRV)
    (fun xs h st q => jm [2, 2, 1, 1, 2, 1, 0, 0, 0] _ (fun v0 v1 v2 v3 v4 v5 q => apS_ok [2, 2] _ (fun st => Ev (d + 4) none mX2_seekOn (0, 0) 66 [.ref v0, .ref v1, .int v2, .int v3, .ref v4, .int v5, .null, .null, .null] st h (QV z)) st (fun s0 s1 q => tX2_seekOn_66 hS v0 v1 v2 v3 v4 v5 s0 s1 h q) q) q)
    (fun _ _ _ q => nos q)
    kRV_ok (Or.inr rfl) (by decide +kernel) (by decide +kernel) hf
def wX2_seekOn_62 : List En := [(.return_, 0, 0, 0)]
def fX2_seekOn_62 (kS : Nat → Nat → Int32 → Int32 → aH → Option (aH)) (h : aH) : Option (aH) :=
  some h
theorem tX2_seekOn_62 {d : Nat} {z : aH} {kS : Nat → Nat → Int32 → Int32 → aH → Option (aH)} (hS : ∀ (w0 : Nat) (w1 : Nat) (w2 : Int32) (w3 : Int32) (h : aH) (r : aH), kS w0 w1 w2 w3 h = some r → CT (d + 3) mX2_seekOn (0, 0) [.ref w0, .ref w1, .int w2, .int w3] h (QV r)) (h : aH) (hf : fX2_seekOn_62 kS h = some z) : Ev (d + 4) none mX2_seekOn (0, 0) 62 [.null, .null, .null, .null, .null, .null, .null, .null, .null] [] h (QV z) := 
  go_ok (X := none) (blk := wX2_seekOn_62) (np := 63) (tt := 0) (kN := fun _ _ _ => none) (kT := fun _ _ _ => none) (kR := kRV)
    (fun _ _ _ q => nos q)
    (fun _ _ _ q => nos q)
    kRV_ok (Or.inr rfl) (by decide +kernel) (by decide +kernel) hf
def wX2_seekOn_55 : List En := [(.aload_n 0, 0, 0, 0), (.getfield 29, 67, 2, 5), (.if_icmp .eq 4, 63, 0, 0)]
def fX2_seekOn_55 (kS : Nat → Nat → Int32 → Int32 → aH → Option (aH)) (v0 : Nat) (v1 : Nat) (v2 : Int32) (v3 : Int32) (v4 : Nat) (v5 : Int32) (s0 : Int32) (h : aH) : Option (aH) :=
  (gFI h 2 v0 5).bind fun t1 =>
  if s0 = t1 then fX2_seekOn_63 kS v0 v1 v2 v3 v4 v5 h else fX2_seekOn_62 kS h
theorem tX2_seekOn_55 {d : Nat} {z : aH} {kS : Nat → Nat → Int32 → Int32 → aH → Option (aH)} (hS : ∀ (w0 : Nat) (w1 : Nat) (w2 : Int32) (w3 : Int32) (h : aH) (r : aH), kS w0 w1 w2 w3 h = some r → CT (d + 3) mX2_seekOn (0, 0) [.ref w0, .ref w1, .int w2, .int w3] h (QV r)) (v0 : Nat) (v1 : Nat) (v2 : Int32) (v3 : Int32) (v4 : Nat) (v5 : Int32) (s0 : Int32) (h : aH) (hf : fX2_seekOn_55 kS v0 v1 v2 v3 v4 v5 s0 h = some z) : Ev (d + 4) none mX2_seekOn (0, 0) 55 [.ref v0, .ref v1, .int v2, .int v3, .ref v4, .int v5, .null, .null, .null] [.int s0] h (QV z) := 
  go_ok (X := none) (blk := wX2_seekOn_55) (np := 62) (tt := 63) (kN := fun xs h st => app [0, 0, 0, 0, 0, 0, 0, 0, 0] (apS [] (fX2_seekOn_62 kS h) st) xs) (kT := fun xs h st => app [2, 2, 1, 1, 2, 1, 0, 0, 0] (fun v0 v1 v2 v3 v4 v5 => apS [] (fX2_seekOn_63 kS v0 v1 v2 v3 v4 v5 h) st) xs) (kR := kRV)
    (fun xs h st q => jm [0, 0, 0, 0, 0, 0, 0, 0, 0] _ (fun q => apS_ok [] _ (fun st => Ev (d + 4) none mX2_seekOn (0, 0) 62 [.null, .null, .null, .null, .null, .null, .null, .null, .null] st h (QV z)) st (fun q => tX2_seekOn_62 hS h q) q) q)
    (fun xs h st q => jm [2, 2, 1, 1, 2, 1, 0, 0, 0] _ (fun v0 v1 v2 v3 v4 v5 q => apS_ok [] _ (fun st => Ev (d + 4) none mX2_seekOn (0, 0) 63 [.ref v0, .ref v1, .int v2, .int v3, .ref v4, .int v5, .null, .null, .null] st h (QV z)) st (fun q => tX2_seekOn_63 hS v0 v1 v2 v3 v4 v5 h q) q) q)
    kRV_ok (Or.inr rfl) (by decide +kernel) (by decide +kernel) hf
theorem kqX2_seekOn_52 : okC mX2_seekOn 52 (.invokevirtual 46) 77 115 0 2 = true := by decide +kernel
def fX2_seekOn_52 (kS : Nat → Nat → Int32 → Int32 → aH → Option (aH)) (v0 : Nat) (v1 : Nat) (v2 : Int32) (v3 : Int32) (v4 : Nat) (v5 : Int32) (s0 : Int32) (s1 : Nat) (s2 : Nat) (h : aH) : Option (aH) :=
  (isO h 7 s2).bind fun _ =>
  (gX7_nextDish s2 s1 s0 h).bind fun r =>
  fX2_seekOn_55 kS v0 v1 v2 v3 v4 v5 r.1 r.2
theorem tX2_seekOn_52 {d : Nat} {z : aH} {kS : Nat → Nat → Int32 → Int32 → aH → Option (aH)} (hS : ∀ (w0 : Nat) (w1 : Nat) (w2 : Int32) (w3 : Int32) (h : aH) (r : aH), kS w0 w1 w2 w3 h = some r → CT (d + 3) mX2_seekOn (0, 0) [.ref w0, .ref w1, .int w2, .int w3] h (QV r)) (v0 : Nat) (v1 : Nat) (v2 : Int32) (v3 : Int32) (v4 : Nat) (v5 : Int32) (s0 : Int32) (s1 : Nat) (s2 : Nat) (h : aH) (hf : fX2_seekOn_52 kS v0 v1 v2 v3 v4 v5 s0 s1 s2 h = some z) : Ev (d + 4) none mX2_seekOn (0, 0) 52 [.ref v0, .ref v1, .int v2, .int v3, .ref v4, .int v5, .null, .null, .null] [.int s0, .ref s1, .ref s2] h (QV z) := by
  obtain ⟨_, h1, hf⟩ := bnd hf
  obtain ⟨fs, ho⟩ := isO_ok h1
  obtain ⟨r, h2, hf⟩ := bnd hf
  refine ev_V kqX2_seekOn_52 jX7_nextDish (zX7_nextDish (d := d + 1) h2) ho rfl rfl (Nat.le_of_ble_eq_true rfl) rfl (as := [.ref s1, .int s0]) (rest := []) rfl (Nat.le_of_ble_eq_true rfl) (fun _ _ hq => ?_)
  obtain ⟨rfl, rfl⟩ := hq
  exact jm [2, 2, 1, 1, 2, 1, 0, 0, 0] (fun v0 v1 v2 v3 v4 v5 => fX2_seekOn_55 kS v0 v1 v2 v3 v4 v5 r.1 r.2) (fun v0 v1 v2 v3 v4 v5 q => tX2_seekOn_55 hS v0 v1 v2 v3 v4 v5 r.1 r.2 q) hf
def wX2_seekOn_48 : List En := [(.aload 4, 0, 0, 0), (.aload_n 1, 0, 0, 0), (.iconst 0, 0, 0, 0)]
def fX2_seekOn_48 (kS : Nat → Nat → Int32 → Int32 → aH → Option (aH)) (v0 : Nat) (v1 : Nat) (v2 : Int32) (v3 : Int32) (v4 : Nat) (v5 : Int32) (h : aH) : Option (aH) :=
  fX2_seekOn_52 kS v0 v1 v2 v3 v4 v5 (kI 0) v1 v4 h
theorem tX2_seekOn_48 {d : Nat} {z : aH} {kS : Nat → Nat → Int32 → Int32 → aH → Option (aH)} (hS : ∀ (w0 : Nat) (w1 : Nat) (w2 : Int32) (w3 : Int32) (h : aH) (r : aH), kS w0 w1 w2 w3 h = some r → CT (d + 3) mX2_seekOn (0, 0) [.ref w0, .ref w1, .int w2, .int w3] h (QV r)) (v0 : Nat) (v1 : Nat) (v2 : Int32) (v3 : Int32) (v4 : Nat) (v5 : Int32) (h : aH) (hf : fX2_seekOn_48 kS v0 v1 v2 v3 v4 v5 h = some z) : Ev (d + 4) none mX2_seekOn (0, 0) 48 [.ref v0, .ref v1, .int v2, .int v3, .ref v4, .int v5, .null, .null, .null] [] h (QV z) := 
  go_ok (X := none) (blk := wX2_seekOn_48) (np := 52) (tt := 0) (kN := fun xs h st => app [2, 2, 1, 1, 2, 1, 0, 0, 0] (fun v0 v1 v2 v3 v4 v5 => apS [1, 2, 2] (fun s0 s1 s2 => fX2_seekOn_52 kS v0 v1 v2 v3 v4 v5 s0 s1 s2 h) st) xs) (kT := fun _ _ _ => none) (kR := kRV)
    (fun xs h st q => jm [2, 2, 1, 1, 2, 1, 0, 0, 0] _ (fun v0 v1 v2 v3 v4 v5 q => apS_ok [1, 2, 2] _ (fun st => Ev (d + 4) none mX2_seekOn (0, 0) 52 [.ref v0, .ref v1, .int v2, .int v3, .ref v4, .int v5, .null, .null, .null] st h (QV z)) st (fun s0 s1 s2 q => tX2_seekOn_52 hS v0 v1 v2 v3 v4 v5 s0 s1 s2 h q) q) q)
    (fun _ _ _ q => nos q)
    kRV_ok (Or.inr rfl) (by decide +kernel) (by decide +kernel) hf
def wX2_seekOn_41 : List En := [(.istore 5, 0, 0, 0), (.iload 5, 0, 0, 0), (.ifCond .eq 18, 63, 0, 0)]
def fX2_seekOn_41 (kS : Nat → Nat → Int32 → Int32 → aH → Option (aH)) (v0 : Nat) (v1 : Nat) (v2 : Int32) (v3 : Int32) (v4 : Nat) (s0 : Int32) (h : aH) : Option (aH) :=
  if s0 = 0 then fX2_seekOn_63 kS v0 v1 v2 v3 v4 s0 h else fX2_seekOn_48 kS v0 v1 v2 v3 v4 s0 h
theorem tX2_seekOn_41 {d : Nat} {z : aH} {kS : Nat → Nat → Int32 → Int32 → aH → Option (aH)} (hS : ∀ (w0 : Nat) (w1 : Nat) (w2 : Int32) (w3 : Int32) (h : aH) (r : aH), kS w0 w1 w2 w3 h = some r → CT (d + 3) mX2_seekOn (0, 0) [.ref w0, .ref w1, .int w2, .int w3] h (QV r)) (v0 : Nat) (v1 : Nat) (v2 : Int32) (v3 : Int32) (v4 : Nat) (s0 : Int32) (h : aH) (hf : fX2_seekOn_41 kS v0 v1 v2 v3 v4 s0 h = some z) : Ev (d + 4) none mX2_seekOn (0, 0) 41 [.ref v0, .ref v1, .int v2, .int v3, .ref v4, .null, .null, .null, .null] [.int s0] h (QV z) := 
  go_ok (X := none) (blk := wX2_seekOn_41) (np := 48) (tt := 63) (kN := fun xs h st => app [2, 2, 1, 1, 2, 1, 0, 0, 0] (fun v0 v1 v2 v3 v4 v5 => apS [] (fX2_seekOn_48 kS v0 v1 v2 v3 v4 v5 h) st) xs) (kT := fun xs h st => app [2, 2, 1, 1, 2, 1, 0, 0, 0] (fun v0 v1 v2 v3 v4 v5 => apS [] (fX2_seekOn_63 kS v0 v1 v2 v3 v4 v5 h) st) xs) (kR := kRV)
    (fun xs h st q => jm [2, 2, 1, 1, 2, 1, 0, 0, 0] _ (fun v0 v1 v2 v3 v4 v5 q => apS_ok [] _ (fun st => Ev (d + 4) none mX2_seekOn (0, 0) 48 [.ref v0, .ref v1, .int v2, .int v3, .ref v4, .int v5, .null, .null, .null] st h (QV z)) st (fun q => tX2_seekOn_48 hS v0 v1 v2 v3 v4 v5 h q) q) q)
    (fun xs h st q => jm [2, 2, 1, 1, 2, 1, 0, 0, 0] _ (fun v0 v1 v2 v3 v4 v5 q => apS_ok [] _ (fun st => Ev (d + 4) none mX2_seekOn (0, 0) 63 [.ref v0, .ref v1, .int v2, .int v3, .ref v4, .int v5, .null, .null, .null] st h (QV z)) st (fun q => tX2_seekOn_63 hS v0 v1 v2 v3 v4 v5 h q) q) q)
    kRV_ok (Or.inr rfl) (by decide +kernel) (by decide +kernel) hf
def wX2_seekOn_40 : List En := [(.iconst 0, 0, 0, 0)]
def fX2_seekOn_40 (kS : Nat → Nat → Int32 → Int32 → aH → Option (aH)) (v0 : Nat) (v1 : Nat) (v2 : Int32) (v3 : Int32) (v4 : Nat) (h : aH) : Option (aH) :=
  fX2_seekOn_41 kS v0 v1 v2 v3 v4 (kI 0) h
theorem tX2_seekOn_40 {d : Nat} {z : aH} {kS : Nat → Nat → Int32 → Int32 → aH → Option (aH)} (hS : ∀ (w0 : Nat) (w1 : Nat) (w2 : Int32) (w3 : Int32) (h : aH) (r : aH), kS w0 w1 w2 w3 h = some r → CT (d + 3) mX2_seekOn (0, 0) [.ref w0, .ref w1, .int w2, .int w3] h (QV r)) (v0 : Nat) (v1 : Nat) (v2 : Int32) (v3 : Int32) (v4 : Nat) (h : aH) (hf : fX2_seekOn_40 kS v0 v1 v2 v3 v4 h = some z) : Ev (d + 4) none mX2_seekOn (0, 0) 40 [.ref v0, .ref v1, .int v2, .int v3, .ref v4, .null, .null, .null, .null] [] h (QV z) := 
  go_ok (X := none) (blk := wX2_seekOn_40) (np := 41) (tt := 0) (kN := fun xs h st => app [2, 2, 1, 1, 2, 0, 0, 0, 0] (fun v0 v1 v2 v3 v4 => apS [1] (fun s0 => fX2_seekOn_41 kS v0 v1 v2 v3 v4 s0 h) st) xs) (kT := fun _ _ _ => none) (kR := kRV)
    (fun xs h st q => jm [2, 2, 1, 1, 2, 0, 0, 0, 0] _ (fun v0 v1 v2 v3 v4 q => apS_ok [1] _ (fun st => Ev (d + 4) none mX2_seekOn (0, 0) 41 [.ref v0, .ref v1, .int v2, .int v3, .ref v4, .null, .null, .null, .null] st h (QV z)) st (fun s0 q => tX2_seekOn_41 hS v0 v1 v2 v3 v4 s0 h q) q) q)
    (fun _ _ _ q => nos q)
    kRV_ok (Or.inr rfl) (by decide +kernel) (by decide +kernel) hf
def wX2_seekOn_36 : List En := [(.iconst 1, 0, 0, 0), (.goto 4, 41, 0, 0)]
def fX2_seekOn_36 (kS : Nat → Nat → Int32 → Int32 → aH → Option (aH)) (v0 : Nat) (v1 : Nat) (v2 : Int32) (v3 : Int32) (v4 : Nat) (h : aH) : Option (aH) :=
  fX2_seekOn_41 kS v0 v1 v2 v3 v4 (kI 1) h
theorem tX2_seekOn_36 {d : Nat} {z : aH} {kS : Nat → Nat → Int32 → Int32 → aH → Option (aH)} (hS : ∀ (w0 : Nat) (w1 : Nat) (w2 : Int32) (w3 : Int32) (h : aH) (r : aH), kS w0 w1 w2 w3 h = some r → CT (d + 3) mX2_seekOn (0, 0) [.ref w0, .ref w1, .int w2, .int w3] h (QV r)) (v0 : Nat) (v1 : Nat) (v2 : Int32) (v3 : Int32) (v4 : Nat) (h : aH) (hf : fX2_seekOn_36 kS v0 v1 v2 v3 v4 h = some z) : Ev (d + 4) none mX2_seekOn (0, 0) 36 [.ref v0, .ref v1, .int v2, .int v3, .ref v4, .null, .null, .null, .null] [] h (QV z) := 
  go_ok (X := none) (blk := wX2_seekOn_36) (np := 40) (tt := 41) (kN := fun _ _ _ => none) (kT := fun xs h st => app [2, 2, 1, 1, 2, 0, 0, 0, 0] (fun v0 v1 v2 v3 v4 => apS [1] (fun s0 => fX2_seekOn_41 kS v0 v1 v2 v3 v4 s0 h) st) xs) (kR := kRV)
    (fun _ _ _ q => nos q)
    (fun xs h st q => jm [2, 2, 1, 1, 2, 0, 0, 0, 0] _ (fun v0 v1 v2 v3 v4 q => apS_ok [1] _ (fun st => Ev (d + 4) none mX2_seekOn (0, 0) 41 [.ref v0, .ref v1, .int v2, .int v3, .ref v4, .null, .null, .null, .null] st h (QV z)) st (fun s0 q => tX2_seekOn_41 hS v0 v1 v2 v3 v4 s0 h q) q) q)
    kRV_ok (Or.inr rfl) (by decide +kernel) (by decide +kernel) hf
def wX2_seekOn_18 : List En := [(.aload_n 0, 0, 0, 0), (.getfield 11, 65, 2, 3), (.iload_n 2, 0, 0, 0), (.aaload, 0, 0, 0), (.astore 4, 0, 0, 0), (.iload_n 2, 0, 0, 0), (.aload_n 0, 0, 0, 0), (.getfield 32, 68, 2, 6), (.iconst 1, 0, 0, 0), (.isub, 0, 0, 0), (.if_icmp .ne 7, 40, 0, 0)]
def fX2_seekOn_18 (kS : Nat → Nat → Int32 → Int32 → aH → Option (aH)) (v0 : Nat) (v1 : Nat) (v2 : Int32) (v3 : Int32) (h : aH) : Option (aH) :=
  (gFR h 2 v0 3).bind fun t1 =>
  (aRR (h[t1]?) v2).bind fun t2 =>
  (gFI h 2 v0 6).bind fun t3 =>
  if v2 = (t3 - (kI 1)) then fX2_seekOn_36 kS v0 v1 v2 v3 t2 h else fX2_seekOn_40 kS v0 v1 v2 v3 t2 h
theorem tX2_seekOn_18 {d : Nat} {z : aH} {kS : Nat → Nat → Int32 → Int32 → aH → Option (aH)} (hS : ∀ (w0 : Nat) (w1 : Nat) (w2 : Int32) (w3 : Int32) (h : aH) (r : aH), kS w0 w1 w2 w3 h = some r → CT (d + 3) mX2_seekOn (0, 0) [.ref w0, .ref w1, .int w2, .int w3] h (QV r)) (v0 : Nat) (v1 : Nat) (v2 : Int32) (v3 : Int32) (h : aH) (hf : fX2_seekOn_18 kS v0 v1 v2 v3 h = some z) : Ev (d + 4) none mX2_seekOn (0, 0) 18 [.ref v0, .ref v1, .int v2, .int v3, .null, .null, .null, .null, .null] [] h (QV z) := 
  go_ok (X := none) (blk := wX2_seekOn_18) (np := 36) (tt := 40) (kN := fun xs h st => app [2, 2, 1, 1, 2, 0, 0, 0, 0] (fun v0 v1 v2 v3 v4 => apS [] (fX2_seekOn_36 kS v0 v1 v2 v3 v4 h) st) xs) (kT := fun xs h st => app [2, 2, 1, 1, 2, 0, 0, 0, 0] (fun v0 v1 v2 v3 v4 => apS [] (fX2_seekOn_40 kS v0 v1 v2 v3 v4 h) st) xs) (kR := kRV)
    (fun xs h st q => jm [2, 2, 1, 1, 2, 0, 0, 0, 0] _ (fun v0 v1 v2 v3 v4 q => apS_ok [] _ (fun st => Ev (d + 4) none mX2_seekOn (0, 0) 36 [.ref v0, .ref v1, .int v2, .int v3, .ref v4, .null, .null, .null, .null] st h (QV z)) st (fun q => tX2_seekOn_36 hS v0 v1 v2 v3 v4 h q) q) q)
    (fun xs h st q => jm [2, 2, 1, 1, 2, 0, 0, 0, 0] _ (fun v0 v1 v2 v3 v4 q => apS_ok [] _ (fun st => Ev (d + 4) none mX2_seekOn (0, 0) 40 [.ref v0, .ref v1, .int v2, .int v3, .ref v4, .null, .null, .null, .null] st h (QV z)) st (fun q => tX2_seekOn_40 hS v0 v1 v2 v3 v4 h q) q) q)
    kRV_ok (Or.inr rfl) (by decide +kernel) (by decide +kernel) hf
def wX2_seekOn_12 : List En := [(.iload_n 2, 0, 0, 0), (.iconst 3, 0, 0, 0), (.if_icmp .lt 4, 18, 0, 0)]
def fX2_seekOn_12 (kS : Nat → Nat → Int32 → Int32 → aH → Option (aH)) (v0 : Nat) (v1 : Nat) (v2 : Int32) (v3 : Int32) (h : aH) : Option (aH) :=
  if v2 < (kI 3) then fX2_seekOn_18 kS v0 v1 v2 v3 h else fX2_seekOn_17 kS h
theorem tX2_seekOn_12 {d : Nat} {z : aH} {kS : Nat → Nat → Int32 → Int32 → aH → Option (aH)} (hS : ∀ (w0 : Nat) (w1 : Nat) (w2 : Int32) (w3 : Int32) (h : aH) (r : aH), kS w0 w1 w2 w3 h = some r → CT (d + 3) mX2_seekOn (0, 0) [.ref w0, .ref w1, .int w2, .int w3] h (QV r)) (v0 : Nat) (v1 : Nat) (v2 : Int32) (v3 : Int32) (h : aH) (hf : fX2_seekOn_12 kS v0 v1 v2 v3 h = some z) : Ev (d + 4) none mX2_seekOn (0, 0) 12 [.ref v0, .ref v1, .int v2, .int v3, .null, .null, .null, .null, .null] [] h (QV z) := 
  go_ok (X := none) (blk := wX2_seekOn_12) (np := 17) (tt := 18) (kN := fun xs h st => app [0, 0, 0, 0, 0, 0, 0, 0, 0] (apS [] (fX2_seekOn_17 kS h) st) xs) (kT := fun xs h st => app [2, 2, 1, 1, 0, 0, 0, 0, 0] (fun v0 v1 v2 v3 => apS [] (fX2_seekOn_18 kS v0 v1 v2 v3 h) st) xs) (kR := kRV)
    (fun xs h st q => jm [0, 0, 0, 0, 0, 0, 0, 0, 0] _ (fun q => apS_ok [] _ (fun st => Ev (d + 4) none mX2_seekOn (0, 0) 17 [.null, .null, .null, .null, .null, .null, .null, .null, .null] st h (QV z)) st (fun q => tX2_seekOn_17 hS h q) q) q)
    (fun xs h st q => jm [2, 2, 1, 1, 0, 0, 0, 0, 0] _ (fun v0 v1 v2 v3 q => apS_ok [] _ (fun st => Ev (d + 4) none mX2_seekOn (0, 0) 18 [.ref v0, .ref v1, .int v2, .int v3, .null, .null, .null, .null, .null] st h (QV z)) st (fun q => tX2_seekOn_18 hS v0 v1 v2 v3 h q) q) q)
    kRV_ok (Or.inr rfl) (by decide +kernel) (by decide +kernel) hf
def wX2_seekOn_4 : List En := [(.iload_n 2, 0, 0, 0), (.aload_n 0, 0, 0, 0), (.getfield 32, 68, 2, 6), (.if_icmp .ge 8, 17, 0, 0)]
def fX2_seekOn_4 (kS : Nat → Nat → Int32 → Int32 → aH → Option (aH)) (v0 : Nat) (v1 : Nat) (v2 : Int32) (v3 : Int32) (h : aH) : Option (aH) :=
  (gFI h 2 v0 6).bind fun t1 =>
  if v2 < t1 then fX2_seekOn_12 kS v0 v1 v2 v3 h else fX2_seekOn_17 kS h
theorem tX2_seekOn_4 {d : Nat} {z : aH} {kS : Nat → Nat → Int32 → Int32 → aH → Option (aH)} (hS : ∀ (w0 : Nat) (w1 : Nat) (w2 : Int32) (w3 : Int32) (h : aH) (r : aH), kS w0 w1 w2 w3 h = some r → CT (d + 3) mX2_seekOn (0, 0) [.ref w0, .ref w1, .int w2, .int w3] h (QV r)) (v0 : Nat) (v1 : Nat) (v2 : Int32) (v3 : Int32) (h : aH) (hf : fX2_seekOn_4 kS v0 v1 v2 v3 h = some z) : Ev (d + 4) none mX2_seekOn (0, 0) 4 [.ref v0, .ref v1, .int v2, .int v3, .null, .null, .null, .null, .null] [] h (QV z) := 
  go_ok (X := none) (blk := wX2_seekOn_4) (np := 12) (tt := 17) (kN := fun xs h st => app [2, 2, 1, 1, 0, 0, 0, 0, 0] (fun v0 v1 v2 v3 => apS [] (fX2_seekOn_12 kS v0 v1 v2 v3 h) st) xs) (kT := fun xs h st => app [0, 0, 0, 0, 0, 0, 0, 0, 0] (apS [] (fX2_seekOn_17 kS h) st) xs) (kR := kRV)
    (fun xs h st q => jm [2, 2, 1, 1, 0, 0, 0, 0, 0] _ (fun v0 v1 v2 v3 q => apS_ok [] _ (fun st => Ev (d + 4) none mX2_seekOn (0, 0) 12 [.ref v0, .ref v1, .int v2, .int v3, .null, .null, .null, .null, .null] st h (QV z)) st (fun q => tX2_seekOn_12 hS v0 v1 v2 v3 h q) q) q)
    (fun xs h st q => jm [0, 0, 0, 0, 0, 0, 0, 0, 0] _ (fun q => apS_ok [] _ (fun st => Ev (d + 4) none mX2_seekOn (0, 0) 17 [.null, .null, .null, .null, .null, .null, .null, .null, .null] st h (QV z)) st (fun q => tX2_seekOn_17 hS h q) q) q)
    kRV_ok (Or.inr rfl) (by decide +kernel) (by decide +kernel) hf
def wX2_seekOn_0 : List En := [(.iload_n 2, 0, 0, 0), (.ifCond .lt 16, 17, 0, 0)]
def fX2_seekOn_0 (kS : Nat → Nat → Int32 → Int32 → aH → Option (aH)) (v0 : Nat) (v1 : Nat) (v2 : Int32) (v3 : Int32) (h : aH) : Option (aH) :=
  if v2 < 0 then fX2_seekOn_17 kS h else fX2_seekOn_4 kS v0 v1 v2 v3 h
theorem tX2_seekOn_0 {d : Nat} {z : aH} {kS : Nat → Nat → Int32 → Int32 → aH → Option (aH)} (hS : ∀ (w0 : Nat) (w1 : Nat) (w2 : Int32) (w3 : Int32) (h : aH) (r : aH), kS w0 w1 w2 w3 h = some r → CT (d + 3) mX2_seekOn (0, 0) [.ref w0, .ref w1, .int w2, .int w3] h (QV r)) (v0 : Nat) (v1 : Nat) (v2 : Int32) (v3 : Int32) (h : aH) (hf : fX2_seekOn_0 kS v0 v1 v2 v3 h = some z) : Ev (d + 4) none mX2_seekOn (0, 0) 0 [.ref v0, .ref v1, .int v2, .int v3, .null, .null, .null, .null, .null] [] h (QV z) := 
  go_ok (X := none) (blk := wX2_seekOn_0) (np := 4) (tt := 17) (kN := fun xs h st => app [2, 2, 1, 1, 0, 0, 0, 0, 0] (fun v0 v1 v2 v3 => apS [] (fX2_seekOn_4 kS v0 v1 v2 v3 h) st) xs) (kT := fun xs h st => app [0, 0, 0, 0, 0, 0, 0, 0, 0] (apS [] (fX2_seekOn_17 kS h) st) xs) (kR := kRV)
    (fun xs h st q => jm [2, 2, 1, 1, 0, 0, 0, 0, 0] _ (fun v0 v1 v2 v3 q => apS_ok [] _ (fun st => Ev (d + 4) none mX2_seekOn (0, 0) 4 [.ref v0, .ref v1, .int v2, .int v3, .null, .null, .null, .null, .null] st h (QV z)) st (fun q => tX2_seekOn_4 hS v0 v1 v2 v3 h q) q) q)
    (fun xs h st q => jm [0, 0, 0, 0, 0, 0, 0, 0, 0] _ (fun q => apS_ok [] _ (fun st => Ev (d + 4) none mX2_seekOn (0, 0) 17 [.null, .null, .null, .null, .null, .null, .null, .null, .null] st h (QV z)) st (fun q => tX2_seekOn_17 hS h q) q) q)
    kRV_ok (Or.inr rfl) (by decide +kernel) (by decide +kernel) hf
def gX2_seekOn : Nat → Nat → Nat → Int32 → Int32 → aH → Option (aH)
  | 0, _, _, _, _, _ => none
  | n + 1, v0, v1, v2, v3, h => fX2_seekOn_0 (gX2_seekOn n) v0 v1 v2 v3 h
theorem zX2_seekOn : ∀ (n : Nat) {d : Nat} {z : aH} {v0 : Nat} {v1 : Nat} {v2 : Int32} {v3 : Int32} {h : aH}, gX2_seekOn n v0 v1 v2 v3 h = some z → CT (d + (n + 3)) mX2_seekOn (0, 0) [.ref v0, .ref v1, .int v2, .int v3] h (QV z) := by
  intro n
  induction n with
  | zero => intro d z v0 v1 v2 v3 h q; exact nos (show (none : Option (aH)) = some z from q)
  | succ n ih =>
    intro d z v0 v1 v2 v3 h q
    rw [show d + (n + 1 + 3) = (d + n) + 4 by omega]
    have hS : ∀ (v0 : Nat) (v1 : Nat) (v2 : Int32) (v3 : Int32) (h : aH) (r : aH), gX2_seekOn n v0 v1 v2 v3 h = some r → CT ((d + n) + 3) mX2_seekOn (0, 0) [.ref v0, .ref v1, .int v2, .int v3] h (QV r) := by
      intro v0 v1 v2 v3 h r q
      rw [show (d + n) + 3 = d + (n + 3) by omega]
      exact ih q
    have q0 : fX2_seekOn_0 (gX2_seekOn n) v0 v1 v2 v3 h = some z := q
    exact ct_ev (by decide +kernel) (Nat.le_of_ble_eq_true rfl) QV_r (jm [2, 2, 1, 1, 0, 0, 0, 0, 0] (fun v0 v1 v2 v3 => fX2_seekOn_0 (gX2_seekOn n) v0 v1 v2 v3 h) (fun v0 v1 v2 v3 q => tX2_seekOn_0 (d := d + n) hS v0 v1 v2 v3 h q) q0)
def wX2_seekName_40 : List En := [(.return_, 0, 0, 0)]
def fX2_seekName_40 (h : aH) : Option (aH) :=
  some h
theorem tX2_seekName_40 {d : Nat} {z : aH} (h : aH) (hf : fX2_seekName_40 h = some z) : Ev (d + 8) none mX2_seekName (0, 0) 40 [.null, .null, .null, .null, .null] [] h (QV z) := 
  go_ok (X := none) (blk := wX2_seekName_40) (np := 41) (tt := 0) (kN := fun _ _ _ => none) (kT := fun _ _ _ => none) (kR := kRV)
    (fun _ _ _ q => nos q)
    (fun _ _ _ q => nos q)
    kRV_ok (Or.inr rfl) (by decide +kernel) (by decide +kernel) hf
theorem kqX2_seekName_37 : okC mX2_seekName 37 (.invokestatic 42) 114 114 1 4 = true := by decide +kernel
def fX2_seekName_37 (s0 : Int32) (s1 : Int32) (s2 : Nat) (s3 : Nat) (h : aH) : Option (aH) :=
  (gX2_seekOn 4 s3 s2 s1 s0 h).bind fun r =>
  fX2_seekName_40 r
theorem tX2_seekName_37 {d : Nat} {z : aH} (s0 : Int32) (s1 : Int32) (s2 : Nat) (s3 : Nat) (h : aH) (hf : fX2_seekName_37 s0 s1 s2 s3 h = some z) : Ev (d + 8) none mX2_seekName (0, 0) 37 [.null, .null, .null, .null, .null] [.int s0, .int s1, .ref s2, .ref s3] h (QV z) := by
  obtain ⟨r, h2, hf⟩ := bnd hf
  refine ev_S kqX2_seekName_37 jX2_seekOn (zX2_seekOn 4 (d := d + 0) h2) rfl (Nat.le_of_ble_eq_true rfl) rfl (as := [.ref s3, .ref s2, .int s1, .int s0]) (rest := []) rfl (Nat.le_of_ble_eq_true rfl) (fun _ _ hq => ?_)
  obtain ⟨rfl, hh⟩ := hq
  rw [hh]
  exact jm [0, 0, 0, 0, 0] (fX2_seekName_40 r) (fun q => tX2_seekName_40 r q) hf
def wX2_seekName_33 : List En := [(.aload_n 0, 0, 0, 0), (.aload_n 1, 0, 0, 0), (.iconst 0, 0, 0, 0), (.iconst 0, 0, 0, 0)]
def fX2_seekName_33 (v0 : Nat) (v1 : Nat) (h : aH) : Option (aH) :=
  fX2_seekName_37 (kI 0) (kI 0) v1 v0 h
theorem tX2_seekName_33 {d : Nat} {z : aH} (v0 : Nat) (v1 : Nat) (h : aH) (hf : fX2_seekName_33 v0 v1 h = some z) : Ev (d + 8) none mX2_seekName (0, 0) 33 [.ref v0, .ref v1, .null, .null, .null] [] h (QV z) := 
  go_ok (X := none) (blk := wX2_seekName_33) (np := 37) (tt := 0) (kN := fun xs h st => app [0, 0, 0, 0, 0] (apS [1, 1, 2, 2] (fun s0 s1 s2 s3 => fX2_seekName_37 s0 s1 s2 s3 h) st) xs) (kT := fun _ _ _ => none) (kR := kRV)
    (fun xs h st q => jm [0, 0, 0, 0, 0] _ (fun q => apS_ok [1, 1, 2, 2] _ (fun st => Ev (d + 8) none mX2_seekName (0, 0) 37 [.null, .null, .null, .null, .null] st h (QV z)) st (fun s0 s1 s2 s3 q => tX2_seekName_37 s0 s1 s2 s3 h q) q) q)
    (fun _ _ _ q => nos q)
    kRV_ok (Or.inr rfl) (by decide +kernel) (by decide +kernel) hf
theorem kqX2_seekName_30 : okC mX2_seekName 30 (.invokevirtual 38) 81 113 0 1 = true := by decide +kernel
def fX2_seekName_30 (v0 : Nat) (v1 : Nat) (s0 : Nat) (s1 : Nat) (h : aH) : Option (aH) :=
  (isO h 7 s1).bind fun _ =>
  (gX7_copy s1 s0 h).bind fun r =>
  fX2_seekName_33 v0 v1 r
theorem tX2_seekName_30 {d : Nat} {z : aH} (v0 : Nat) (v1 : Nat) (s0 : Nat) (s1 : Nat) (h : aH) (hf : fX2_seekName_30 v0 v1 s0 s1 h = some z) : Ev (d + 8) none mX2_seekName (0, 0) 30 [.ref v0, .ref v1, .null, .null, .null] [.ref s0, .ref s1] h (QV z) := by
  obtain ⟨_, h1, hf⟩ := bnd hf
  obtain ⟨fs, ho⟩ := isO_ok h1
  obtain ⟨r, h2, hf⟩ := bnd hf
  refine ev_V kqX2_seekName_30 jX7_copy (zX7_copy (d := d + 6) h2) ho rfl rfl (Nat.le_of_ble_eq_true rfl) rfl (as := [.ref s0]) (rest := []) rfl (Nat.le_of_ble_eq_true rfl) (fun _ _ hq => ?_)
  obtain ⟨rfl, hh⟩ := hq
  rw [hh]
  exact jm [2, 2, 0, 0, 0] (fun v0 v1 => fX2_seekName_33 v0 v1 r) (fun v0 v1 q => tX2_seekName_33 v0 v1 r q) hf
def wX2_seekName_0 : List En := [(.aload_n 0, 0, 0, 0), (.iload_n 3, 0, 0, 0), (.putfield 29, 67, 2, 5), (.aload_n 0, 0, 0, 0), (.iload 4, 0, 0, 0), (.putfield 32, 68, 2, 6), (.aload_n 0, 0, 0, 0), (.sipush 1000, 0, 0, 0), (.putfield 25, 59, 2, 0), (.aload_n 0, 0, 0, 0), (.iconst 0, 0, 0, 0), (.putfield 35, 61, 2, 1), (.aload_n 0, 0, 0, 0), (.getfield 11, 65, 2, 3), (.iconst 0, 0, 0, 0), (.aaload, 0, 0, 0), (.aload_n 2, 0, 0, 0)]
def fX2_seekName_0 (v0 : Nat) (v1 : Nat) (v2 : Nat) (v3 : Int32) (v4 : Int32) (h : aH) : Option (aH) :=
  (pWV h 2 v0 5 (.int v3)).bind fun h1 =>
  (pWV h1 2 v0 6 (.int v4)).bind fun h2 =>
  (pWV h2 2 v0 0 (.int (kS 1000))).bind fun h3 =>
  (pWV h3 2 v0 1 (.int (kI 0))).bind fun h4 =>
  (gFR h4 2 v0 3).bind fun t5 =>
  (aRR (h4[t5]?) (kI 0)).bind fun t6 =>
  fX2_seekName_30 v0 v1 v2 t6 h4
theorem tX2_seekName_0 {d : Nat} {z : aH} (v0 : Nat) (v1 : Nat) (v2 : Nat) (v3 : Int32) (v4 : Int32) (h : aH) (hf : fX2_seekName_0 v0 v1 v2 v3 v4 h = some z) : Ev (d + 8) none mX2_seekName (0, 0) 0 [.ref v0, .ref v1, .ref v2, .int v3, .int v4] [] h (QV z) := 
  go_ok (X := none) (blk := wX2_seekName_0) (np := 30) (tt := 0) (kN := fun xs h st => app [2, 2, 0, 0, 0] (fun v0 v1 => apS [2, 2] (fun s0 s1 => fX2_seekName_30 v0 v1 s0 s1 h) st) xs) (kT := fun _ _ _ => none) (kR := kRV)
    (fun xs h st q => jm [2, 2, 0, 0, 0] _ (fun v0 v1 q => apS_ok [2, 2] _ (fun st => Ev (d + 8) none mX2_seekName (0, 0) 30 [.ref v0, .ref v1, .null, .null, .null] st h (QV z)) st (fun s0 s1 q => tX2_seekName_30 v0 v1 s0 s1 h q) q) q)
    (fun _ _ _ q => nos q)
    kRV_ok (Or.inr rfl) (by decide +kernel) (by decide +kernel) hf
def gX2_seekName (v0 : Nat) (v1 : Nat) (v2 : Nat) (v3 : Int32) (v4 : Int32) (h : aH) : Option (aH) := fX2_seekName_0 v0 v1 v2 v3 v4 h
theorem zX2_seekName {d : Nat} {z : aH} {v0 : Nat} {v1 : Nat} {v2 : Nat} {v3 : Int32} {v4 : Int32} {h : aH} (q : gX2_seekName v0 v1 v2 v3 v4 h = some z) : CT (d + 8) mX2_seekName (0, 0) [.ref v0, .ref v1, .ref v2, .int v3, .int v4] h (QV z) :=
  ct_ev (by decide +kernel) (Nat.le_of_ble_eq_true rfl) QV_r (jm [2, 2, 2, 1, 1] (fun v0 v1 v2 v3 v4 => fX2_seekName_0 v0 v1 v2 v3 v4 h) (fun v0 v1 v2 v3 v4 q => tX2_seekName_0 v0 v1 v2 v3 v4 h q) q)
def wX10_fastsFor_56 : List En := [(.ireturn, 0, 0, 0)]
def fX10_fastsFor_56 (s0 : Int32) (h : aH) : Option (Int32 × aH) :=
  some (s0, h)
theorem tX10_fastsFor_56 {d : Nat} {z : Int32 × aH} (s0 : Int32) (h : aH) (hf : fX10_fastsFor_56 s0 h = some z) : Ev (d + 9) none mX10_fastsFor (0, 0) 56 [.null, .null, .null] [.int s0] h (QI z) := 
  go_ok (X := none) (blk := wX10_fastsFor_56) (np := 57) (tt := 0) (kN := fun _ _ _ => none) (kT := fun _ _ _ => none) (kR := kRI)
    (fun _ _ _ q => nos q)
    (fun _ _ _ q => nos q)
    kRI_ok (Or.inr rfl) (by decide +kernel) (by decide +kernel) hf
def wX10_fastsFor_54 : List En := [(.bipush (-2), 0, 0, 0)]
def fX10_fastsFor_54 (h : aH) : Option (Int32 × aH) :=
  fX10_fastsFor_56 (kB (-2)) h
theorem tX10_fastsFor_54 {d : Nat} {z : Int32 × aH} (h : aH) (hf : fX10_fastsFor_54 h = some z) : Ev (d + 9) none mX10_fastsFor (0, 0) 54 [.null, .null, .null] [] h (QI z) := 
  go_ok (X := none) (blk := wX10_fastsFor_54) (np := 56) (tt := 0) (kN := fun xs h st => app [0, 0, 0] (apS [1] (fun s0 => fX10_fastsFor_56 s0 h) st) xs) (kT := fun _ _ _ => none) (kR := kRI)
    (fun xs h st q => jm [0, 0, 0] _ (fun q => apS_ok [1] _ (fun st => Ev (d + 9) none mX10_fastsFor (0, 0) 56 [.null, .null, .null] st h (QI z)) st (fun s0 q => tX10_fastsFor_56 s0 h q) q) q)
    (fun _ _ _ q => nos q)
    kRI_ok (Or.inr rfl) (by decide +kernel) (by decide +kernel) hf
def wX10_fastsFor_44 : List En := [(.aload_n 0, 0, 0, 0), (.getfield 26, 164, 10, 2), (.getfield 247, 60, 2, 0), (.goto 5, 56, 0, 0)]
def fX10_fastsFor_44 (v0 : Nat) (h : aH) : Option (Int32 × aH) :=
  (gFR h 10 v0 2).bind fun t1 =>
  (gFI h 2 t1 0).bind fun t2 =>
  fX10_fastsFor_56 t2 h
theorem tX10_fastsFor_44 {d : Nat} {z : Int32 × aH} (v0 : Nat) (h : aH) (hf : fX10_fastsFor_44 v0 h = some z) : Ev (d + 9) none mX10_fastsFor (0, 0) 44 [.ref v0, .null, .null] [] h (QI z) := 
  go_ok (X := none) (blk := wX10_fastsFor_44) (np := 54) (tt := 56) (kN := fun _ _ _ => none) (kT := fun xs h st => app [0, 0, 0] (apS [1] (fun s0 => fX10_fastsFor_56 s0 h) st) xs) (kR := kRI)
    (fun _ _ _ q => nos q)
    (fun xs h st q => jm [0, 0, 0] _ (fun q => apS_ok [1] _ (fun st => Ev (d + 9) none mX10_fastsFor (0, 0) 56 [.null, .null, .null] st h (QI z)) st (fun s0 q => tX10_fastsFor_56 s0 h q) q) q)
    kRI_ok (Or.inr rfl) (by decide +kernel) (by decide +kernel) hf
def wX10_fastsFor_41 : List En := [(.ifCond .eq 13, 54, 0, 0)]
def fX10_fastsFor_41 (v0 : Nat) (s0 : Int32) (h : aH) : Option (Int32 × aH) :=
  if s0 = 0 then fX10_fastsFor_54 h else fX10_fastsFor_44 v0 h
theorem tX10_fastsFor_41 {d : Nat} {z : Int32 × aH} (v0 : Nat) (s0 : Int32) (h : aH) (hf : fX10_fastsFor_41 v0 s0 h = some z) : Ev (d + 9) none mX10_fastsFor (0, 0) 41 [.ref v0, .null, .null] [.int s0] h (QI z) := 
  go_ok (X := none) (blk := wX10_fastsFor_41) (np := 44) (tt := 54) (kN := fun xs h st => app [2, 0, 0] (fun v0 => apS [] (fX10_fastsFor_44 v0 h) st) xs) (kT := fun xs h st => app [0, 0, 0] (apS [] (fX10_fastsFor_54 h) st) xs) (kR := kRI)
    (fun xs h st q => jm [2, 0, 0] _ (fun v0 q => apS_ok [] _ (fun st => Ev (d + 9) none mX10_fastsFor (0, 0) 44 [.ref v0, .null, .null] st h (QI z)) st (fun q => tX10_fastsFor_44 v0 h q) q) q)
    (fun xs h st q => jm [0, 0, 0] _ (fun q => apS_ok [] _ (fun st => Ev (d + 9) none mX10_fastsFor (0, 0) 54 [.null, .null, .null] st h (QI z)) st (fun q => tX10_fastsFor_54 h q) q) q)
    kRI_ok (Or.inr rfl) (by decide +kernel) (by decide +kernel) hf
theorem kqX10_fastsFor_38 : okC mX10_fastsFor 38 (.invokevirtual 244) 120 124 0 0 = true := by decide +kernel
def fX10_fastsFor_38 (v0 : Nat) (s0 : Nat) (h : aH) : Option (Int32 × aH) :=
  (isO h 2 s0).bind fun _ =>
  (gX2_isFound s0 h).bind fun r =>
  fX10_fastsFor_41 v0 r.1 r.2
theorem tX10_fastsFor_38 {d : Nat} {z : Int32 × aH} (v0 : Nat) (s0 : Nat) (h : aH) (hf : fX10_fastsFor_38 v0 s0 h = some z) : Ev (d + 9) none mX10_fastsFor (0, 0) 38 [.ref v0, .null, .null] [.ref s0] h (QI z) := by
  obtain ⟨_, h1, hf⟩ := bnd hf
  obtain ⟨fs, ho⟩ := isO_ok h1
  obtain ⟨r, h2, hf⟩ := bnd hf
  refine ev_V kqX10_fastsFor_38 jX2_isFound (zX2_isFound (d := d + 8) h2) ho rfl rfl (Nat.le_of_ble_eq_true rfl) rfl (as := []) (rest := []) rfl (Nat.le_of_ble_eq_true rfl) (fun _ _ hq => ?_)
  obtain ⟨-, rfl, rfl⟩ := hq
  exact jm [2, 0, 0] (fun v0 => fX10_fastsFor_41 v0 r.1 r.2) (fun v0 q => tX10_fastsFor_41 v0 r.1 r.2 q) hf
def wX10_fastsFor_34 : List En := [(.aload_n 0, 0, 0, 0), (.getfield 26, 164, 10, 2)]
def fX10_fastsFor_34 (v0 : Nat) (h : aH) : Option (Int32 × aH) :=
  (gFR h 10 v0 2).bind fun t1 =>
  fX10_fastsFor_38 v0 t1 h
theorem tX10_fastsFor_34 {d : Nat} {z : Int32 × aH} (v0 : Nat) (h : aH) (hf : fX10_fastsFor_34 v0 h = some z) : Ev (d + 9) none mX10_fastsFor (0, 0) 34 [.ref v0, .null, .null] [] h (QI z) := 
  go_ok (X := none) (blk := wX10_fastsFor_34) (np := 38) (tt := 0) (kN := fun xs h st => app [2, 0, 0] (fun v0 => apS [2] (fun s0 => fX10_fastsFor_38 v0 s0 h) st) xs) (kT := fun _ _ _ => none) (kR := kRI)
    (fun xs h st q => jm [2, 0, 0] _ (fun v0 q => apS_ok [2] _ (fun st => Ev (d + 9) none mX10_fastsFor (0, 0) 38 [.ref v0, .null, .null] st h (QI z)) st (fun s0 q => tX10_fastsFor_38 v0 s0 h q) q) q)
    (fun _ _ _ q => nos q)
    kRI_ok (Or.inr rfl) (by decide +kernel) (by decide +kernel) hf
theorem kqX10_fastsFor_31 : okC mX10_fastsFor 31 (.invokevirtual 240) 113 112 0 4 = true := by decide +kernel
def fX10_fastsFor_31 (v0 : Nat) (s0 : Int32) (s1 : Int32) (s2 : Nat) (s3 : Nat) (s4 : Nat) (h : aH) : Option (Int32 × aH) :=
  (isO h 2 s4).bind fun _ =>
  (gX2_seekName s4 s3 s2 s1 s0 h).bind fun r =>
  fX10_fastsFor_34 v0 r
theorem tX10_fastsFor_31 {d : Nat} {z : Int32 × aH} (v0 : Nat) (s0 : Int32) (s1 : Int32) (s2 : Nat) (s3 : Nat) (s4 : Nat) (h : aH) (hf : fX10_fastsFor_31 v0 s0 s1 s2 s3 s4 h = some z) : Ev (d + 9) none mX10_fastsFor (0, 0) 31 [.ref v0, .null, .null] [.int s0, .int s1, .ref s2, .ref s3, .ref s4] h (QI z) := by
  obtain ⟨_, h1, hf⟩ := bnd hf
  obtain ⟨fs, ho⟩ := isO_ok h1
  obtain ⟨r, h2, hf⟩ := bnd hf
  refine ev_V kqX10_fastsFor_31 jX2_seekName (zX2_seekName (d := d + 0) h2) ho rfl rfl (Nat.le_of_ble_eq_true rfl) rfl (as := [.ref s3, .ref s2, .int s1, .int s0]) (rest := []) rfl (Nat.le_of_ble_eq_true rfl) (fun _ _ hq => ?_)
  obtain ⟨rfl, hh⟩ := hq
  rw [hh]
  exact jm [2, 0, 0] (fun v0 => fX10_fastsFor_34 v0 r) (fun v0 q => tX10_fastsFor_34 v0 r q) hf
def wX10_fastsFor_17 : List En := [(.aload_n 0, 0, 0, 0), (.getfield 26, 164, 10, 2), (.aload_n 0, 0, 0, 0), (.getfield 75, 171, 10, 9), (.aload_n 0, 0, 0, 0), (.getfield 68, 170, 10, 8), (.iload_n 1, 0, 0, 0), (.iload_n 2, 0, 0, 0)]
def fX10_fastsFor_17 (v0 : Nat) (v1 : Int32) (v2 : Int32) (h : aH) : Option (Int32 × aH) :=
  (gFR h 10 v0 2).bind fun t1 =>
  (gFR h 10 v0 9).bind fun t2 =>
  (gFR h 10 v0 8).bind fun t3 =>
  fX10_fastsFor_31 v0 v2 v1 t3 t2 t1 h
theorem tX10_fastsFor_17 {d : Nat} {z : Int32 × aH} (v0 : Nat) (v1 : Int32) (v2 : Int32) (h : aH) (hf : fX10_fastsFor_17 v0 v1 v2 h = some z) : Ev (d + 9) none mX10_fastsFor (0, 0) 17 [.ref v0, .int v1, .int v2] [] h (QI z) := 
  go_ok (X := none) (blk := wX10_fastsFor_17) (np := 31) (tt := 0) (kN := fun xs h st => app [2, 0, 0] (fun v0 => apS [1, 1, 2, 2, 2] (fun s0 s1 s2 s3 s4 => fX10_fastsFor_31 v0 s0 s1 s2 s3 s4 h) st) xs) (kT := fun _ _ _ => none) (kR := kRI)
    (fun xs h st q => jm [2, 0, 0] _ (fun v0 q => apS_ok [1, 1, 2, 2, 2] _ (fun st => Ev (d + 9) none mX10_fastsFor (0, 0) 31 [.ref v0, .null, .null] st h (QI z)) st (fun s0 s1 s2 s3 s4 q => tX10_fastsFor_31 v0 s0 s1 s2 s3 s4 h q) q) q)
    (fun _ _ _ q => nos q)
    kRI_ok (Or.inr rfl) (by decide +kernel) (by decide +kernel) hf
def wX10_fastsFor_15 : List En := [(.iconst (-1), 0, 0, 0), (.ireturn, 0, 0, 0)]
def fX10_fastsFor_15 (h : aH) : Option (Int32 × aH) :=
  some ((kI (-1)), h)
theorem tX10_fastsFor_15 {d : Nat} {z : Int32 × aH} (h : aH) (hf : fX10_fastsFor_15 h = some z) : Ev (d + 9) none mX10_fastsFor (0, 0) 15 [.null, .null, .null] [] h (QI z) := 
  go_ok (X := none) (blk := wX10_fastsFor_15) (np := 17) (tt := 0) (kN := fun _ _ _ => none) (kT := fun _ _ _ => none) (kR := kRI)
    (fun _ _ _ q => nos q)
    (fun _ _ _ q => nos q)
    kRI_ok (Or.inr rfl) (by decide +kernel) (by decide +kernel) hf
def wX10_fastsFor_12 : List En := [(.ifCond .eq 5, 17, 0, 0)]
def fX10_fastsFor_12 (v0 : Nat) (v1 : Int32) (v2 : Int32) (s0 : Int32) (h : aH) : Option (Int32 × aH) :=
  if s0 = 0 then fX10_fastsFor_17 v0 v1 v2 h else fX10_fastsFor_15 h
theorem tX10_fastsFor_12 {d : Nat} {z : Int32 × aH} (v0 : Nat) (v1 : Int32) (v2 : Int32) (s0 : Int32) (h : aH) (hf : fX10_fastsFor_12 v0 v1 v2 s0 h = some z) : Ev (d + 9) none mX10_fastsFor (0, 0) 12 [.ref v0, .int v1, .int v2] [.int s0] h (QI z) := 
  go_ok (X := none) (blk := wX10_fastsFor_12) (np := 15) (tt := 17) (kN := fun xs h st => app [0, 0, 0] (apS [] (fX10_fastsFor_15 h) st) xs) (kT := fun xs h st => app [2, 1, 1] (fun v0 v1 v2 => apS [] (fX10_fastsFor_17 v0 v1 v2 h) st) xs) (kR := kRI)
    (fun xs h st q => jm [0, 0, 0] _ (fun q => apS_ok [] _ (fun st => Ev (d + 9) none mX10_fastsFor (0, 0) 15 [.null, .null, .null] st h (QI z)) st (fun q => tX10_fastsFor_15 h q) q) q)
    (fun xs h st q => jm [2, 1, 1] _ (fun v0 v1 v2 q => apS_ok [] _ (fun st => Ev (d + 9) none mX10_fastsFor (0, 0) 17 [.ref v0, .int v1, .int v2] st h (QI z)) st (fun q => tX10_fastsFor_17 v0 v1 v2 h q) q) q)
    kRI_ok (Or.inr rfl) (by decide +kernel) (by decide +kernel) hf
theorem kqX10_fastsFor_9 : okC mX10_fastsFor 9 (.invokevirtual 190) 92 87 0 4 = true := by decide +kernel
def fX10_fastsFor_9 (v0 : Nat) (v1 : Int32) (v2 : Int32) (s0 : Int32) (s1 : Int32) (s2 : Int32) (s3 : Int32) (s4 : Nat) (h : aH) : Option (Int32 × aH) :=
  (isO h 10 s4).bind fun _ =>
  (gX10_isRefused s4 s3 s2 s1 s0 h).bind fun r =>
  fX10_fastsFor_12 v0 v1 v2 r.1 r.2
theorem tX10_fastsFor_9 {d : Nat} {z : Int32 × aH} (v0 : Nat) (v1 : Int32) (v2 : Int32) (s0 : Int32) (s1 : Int32) (s2 : Int32) (s3 : Int32) (s4 : Nat) (h : aH) (hf : fX10_fastsFor_9 v0 v1 v2 s0 s1 s2 s3 s4 h = some z) : Ev (d + 9) none mX10_fastsFor (0, 0) 9 [.ref v0, .int v1, .int v2] [.int s0, .int s1, .int s2, .int s3, .ref s4] h (QI z) := by
  obtain ⟨_, h1, hf⟩ := bnd hf
  obtain ⟨fs, ho⟩ := isO_ok h1
  obtain ⟨r, h2, hf⟩ := bnd hf
  refine ev_V kqX10_fastsFor_9 jX10_isRefused (zX10_isRefused (d := d + 7) h2) ho rfl rfl (Nat.le_of_ble_eq_true rfl) rfl (as := [.int s3, .int s2, .int s1, .int s0]) (rest := []) rfl (Nat.le_of_ble_eq_true rfl) (fun _ _ hq => ?_)
  obtain ⟨-, rfl, rfl⟩ := hq
  exact jm [2, 1, 1] (fun v0 v1 v2 => fX10_fastsFor_12 v0 v1 v2 r.1 r.2) (fun v0 v1 v2 q => tX10_fastsFor_12 v0 v1 v2 r.1 r.2 q) hf
def wX10_fastsFor_6 : List En := [(.iload_n 2, 0, 0, 0), (.iconst 1, 0, 0, 0), (.iconst 3, 0, 0, 0)]
def fX10_fastsFor_6 (v0 : Nat) (v1 : Int32) (v2 : Int32) (s0 : Int32) (s1 : Nat) (h : aH) : Option (Int32 × aH) :=
  fX10_fastsFor_9 v0 v1 v2 (kI 3) (kI 1) v2 s0 s1 h
theorem tX10_fastsFor_6 {d : Nat} {z : Int32 × aH} (v0 : Nat) (v1 : Int32) (v2 : Int32) (s0 : Int32) (s1 : Nat) (h : aH) (hf : fX10_fastsFor_6 v0 v1 v2 s0 s1 h = some z) : Ev (d + 9) none mX10_fastsFor (0, 0) 6 [.ref v0, .int v1, .int v2] [.int s0, .ref s1] h (QI z) := 
  go_ok (X := none) (blk := wX10_fastsFor_6) (np := 9) (tt := 0) (kN := fun xs h st => app [2, 1, 1] (fun v0 v1 v2 => apS [1, 1, 1, 1, 2] (fun s0 s1 s2 s3 s4 => fX10_fastsFor_9 v0 v1 v2 s0 s1 s2 s3 s4 h) st) xs) (kT := fun _ _ _ => none) (kR := kRI)
    (fun xs h st q => jm [2, 1, 1] _ (fun v0 v1 v2 q => apS_ok [1, 1, 1, 1, 2] _ (fun st => Ev (d + 9) none mX10_fastsFor (0, 0) 9 [.ref v0, .int v1, .int v2] st h (QI z)) st (fun s0 s1 s2 s3 s4 q => tX10_fastsFor_9 v0 v1 v2 s0 s1 s2 s3 s4 h q) q) q)
    (fun _ _ _ q => nos q)
    kRI_ok (Or.inr rfl) (by decide +kernel) (by decide +kernel) hf
theorem kqX10_fastsFor_3 : okC mX10_fastsFor 3 (.invokevirtual 150) 66 50 0 1 = true := by decide +kernel
def fX10_fastsFor_3 (v0 : Nat) (v1 : Int32) (v2 : Int32) (s0 : Int32) (s1 : Nat) (s2 : Nat) (h : aH) : Option (Int32 × aH) :=
  (isO h 10 s1).bind fun _ =>
  (gX10_lacksName s1 s0 h).bind fun r =>
  fX10_fastsFor_6 v0 v1 v2 r.1 s2 r.2
theorem tX10_fastsFor_3 {d : Nat} {z : Int32 × aH} (v0 : Nat) (v1 : Int32) (v2 : Int32) (s0 : Int32) (s1 : Nat) (s2 : Nat) (h : aH) (hf : fX10_fastsFor_3 v0 v1 v2 s0 s1 s2 h = some z) : Ev (d + 9) none mX10_fastsFor (0, 0) 3 [.ref v0, .int v1, .int v2] [.int s0, .ref s1, .ref s2] h (QI z) := by
  obtain ⟨_, h1, hf⟩ := bnd hf
  obtain ⟨fs, ho⟩ := isO_ok h1
  obtain ⟨r, h2, hf⟩ := bnd hf
  refine ev_V kqX10_fastsFor_3 jX10_lacksName (zX10_lacksName (d := d + 8) h2) ho rfl rfl (Nat.le_of_ble_eq_true rfl) rfl (as := [.int s0]) (rest := [.ref s2]) rfl (Nat.le_of_ble_eq_true rfl) (fun _ _ hq => ?_)
  obtain ⟨-, rfl, rfl⟩ := hq
  exact jm [2, 1, 1] (fun v0 v1 v2 => fX10_fastsFor_6 v0 v1 v2 r.1 s2 r.2) (fun v0 v1 v2 q => tX10_fastsFor_6 v0 v1 v2 r.1 s2 r.2 q) hf
def wX10_fastsFor_0 : List En := [(.aload_n 0, 0, 0, 0), (.aload_n 0, 0, 0, 0), (.iload_n 1, 0, 0, 0)]
def fX10_fastsFor_0 (v0 : Nat) (v1 : Int32) (v2 : Int32) (h : aH) : Option (Int32 × aH) :=
  fX10_fastsFor_3 v0 v1 v2 v1 v0 v0 h
theorem tX10_fastsFor_0 {d : Nat} {z : Int32 × aH} (v0 : Nat) (v1 : Int32) (v2 : Int32) (h : aH) (hf : fX10_fastsFor_0 v0 v1 v2 h = some z) : Ev (d + 9) none mX10_fastsFor (0, 0) 0 [.ref v0, .int v1, .int v2] [] h (QI z) := 
  go_ok (X := none) (blk := wX10_fastsFor_0) (np := 3) (tt := 0) (kN := fun xs h st => app [2, 1, 1] (fun v0 v1 v2 => apS [1, 2, 2] (fun s0 s1 s2 => fX10_fastsFor_3 v0 v1 v2 s0 s1 s2 h) st) xs) (kT := fun _ _ _ => none) (kR := kRI)
    (fun xs h st q => jm [2, 1, 1] _ (fun v0 v1 v2 q => apS_ok [1, 2, 2] _ (fun st => Ev (d + 9) none mX10_fastsFor (0, 0) 3 [.ref v0, .int v1, .int v2] st h (QI z)) st (fun s0 s1 s2 q => tX10_fastsFor_3 v0 v1 v2 s0 s1 s2 h q) q) q)
    (fun _ _ _ q => nos q)
    kRI_ok (Or.inr rfl) (by decide +kernel) (by decide +kernel) hf
def gX10_fastsFor (v0 : Nat) (v1 : Int32) (v2 : Int32) (h : aH) : Option (Int32 × aH) := fX10_fastsFor_0 v0 v1 v2 h
theorem zX10_fastsFor {d : Nat} {z : Int32 × aH} {v0 : Nat} {v1 : Int32} {v2 : Int32} {h : aH} (q : gX10_fastsFor v0 v1 v2 h = some z) : CT (d + 9) mX10_fastsFor (0, 0) [.ref v0, .int v1, .int v2] h (QI z) :=
  ct_ev (by decide +kernel) (Nat.le_of_ble_eq_true rfl) QI_r (jm [2, 1, 1] (fun v0 v1 v2 => fX10_fastsFor_0 v0 v1 v2 h) (fun v0 v1 v2 q => tX10_fastsFor_0 v0 v1 v2 h q) q)
def wX10_fastsAt_56 : List En := [(.ireturn, 0, 0, 0)]
def fX10_fastsAt_56 (s0 : Int32) (h : aH) : Option (Int32 × aH) :=
  some (s0, h)
theorem tX10_fastsAt_56 {d : Nat} {z : Int32 × aH} (s0 : Int32) (h : aH) (hf : fX10_fastsAt_56 s0 h = some z) : Ev (d + 9) none mX10_fastsAt (0, 0) 56 [.null, .null, .null] [.int s0] h (QI z) := 
  go_ok (X := none) (blk := wX10_fastsAt_56) (np := 57) (tt := 0) (kN := fun _ _ _ => none) (kT := fun _ _ _ => none) (kR := kRI)
    (fun _ _ _ q => nos q)
    (fun _ _ _ q => nos q)
    kRI_ok (Or.inr rfl) (by decide +kernel) (by decide +kernel) hf
def wX10_fastsAt_54 : List En := [(.bipush (-2), 0, 0, 0)]
def fX10_fastsAt_54 (h : aH) : Option (Int32 × aH) :=
  fX10_fastsAt_56 (kB (-2)) h
theorem tX10_fastsAt_54 {d : Nat} {z : Int32 × aH} (h : aH) (hf : fX10_fastsAt_54 h = some z) : Ev (d + 9) none mX10_fastsAt (0, 0) 54 [.null, .null, .null] [] h (QI z) := 
  go_ok (X := none) (blk := wX10_fastsAt_54) (np := 56) (tt := 0) (kN := fun xs h st => app [0, 0, 0] (apS [1] (fun s0 => fX10_fastsAt_56 s0 h) st) xs) (kT := fun _ _ _ => none) (kR := kRI)
    (fun xs h st q => jm [0, 0, 0] _ (fun q => apS_ok [1] _ (fun st => Ev (d + 9) none mX10_fastsAt (0, 0) 56 [.null, .null, .null] st h (QI z)) st (fun s0 q => tX10_fastsAt_56 s0 h q) q) q)
    (fun _ _ _ q => nos q)
    kRI_ok (Or.inr rfl) (by decide +kernel) (by decide +kernel) hf
def wX10_fastsAt_44 : List En := [(.aload_n 0, 0, 0, 0), (.getfield 26, 164, 10, 2), (.getfield 250, 62, 2, 1), (.goto 5, 56, 0, 0)]
def fX10_fastsAt_44 (v0 : Nat) (h : aH) : Option (Int32 × aH) :=
  (gFR h 10 v0 2).bind fun t1 =>
  (gFI h 2 t1 1).bind fun t2 =>
  fX10_fastsAt_56 t2 h
theorem tX10_fastsAt_44 {d : Nat} {z : Int32 × aH} (v0 : Nat) (h : aH) (hf : fX10_fastsAt_44 v0 h = some z) : Ev (d + 9) none mX10_fastsAt (0, 0) 44 [.ref v0, .null, .null] [] h (QI z) := 
  go_ok (X := none) (blk := wX10_fastsAt_44) (np := 54) (tt := 56) (kN := fun _ _ _ => none) (kT := fun xs h st => app [0, 0, 0] (apS [1] (fun s0 => fX10_fastsAt_56 s0 h) st) xs) (kR := kRI)
    (fun _ _ _ q => nos q)
    (fun xs h st q => jm [0, 0, 0] _ (fun q => apS_ok [1] _ (fun st => Ev (d + 9) none mX10_fastsAt (0, 0) 56 [.null, .null, .null] st h (QI z)) st (fun s0 q => tX10_fastsAt_56 s0 h q) q) q)
    kRI_ok (Or.inr rfl) (by decide +kernel) (by decide +kernel) hf
def wX10_fastsAt_41 : List En := [(.ifCond .eq 13, 54, 0, 0)]
def fX10_fastsAt_41 (v0 : Nat) (s0 : Int32) (h : aH) : Option (Int32 × aH) :=
  if s0 = 0 then fX10_fastsAt_54 h else fX10_fastsAt_44 v0 h
theorem tX10_fastsAt_41 {d : Nat} {z : Int32 × aH} (v0 : Nat) (s0 : Int32) (h : aH) (hf : fX10_fastsAt_41 v0 s0 h = some z) : Ev (d + 9) none mX10_fastsAt (0, 0) 41 [.ref v0, .null, .null] [.int s0] h (QI z) := 
  go_ok (X := none) (blk := wX10_fastsAt_41) (np := 44) (tt := 54) (kN := fun xs h st => app [2, 0, 0] (fun v0 => apS [] (fX10_fastsAt_44 v0 h) st) xs) (kT := fun xs h st => app [0, 0, 0] (apS [] (fX10_fastsAt_54 h) st) xs) (kR := kRI)
    (fun xs h st q => jm [2, 0, 0] _ (fun v0 q => apS_ok [] _ (fun st => Ev (d + 9) none mX10_fastsAt (0, 0) 44 [.ref v0, .null, .null] st h (QI z)) st (fun q => tX10_fastsAt_44 v0 h q) q) q)
    (fun xs h st q => jm [0, 0, 0] _ (fun q => apS_ok [] _ (fun st => Ev (d + 9) none mX10_fastsAt (0, 0) 54 [.null, .null, .null] st h (QI z)) st (fun q => tX10_fastsAt_54 h q) q) q)
    kRI_ok (Or.inr rfl) (by decide +kernel) (by decide +kernel) hf
theorem kqX10_fastsAt_38 : okC mX10_fastsAt 38 (.invokevirtual 244) 120 124 0 0 = true := by decide +kernel
def fX10_fastsAt_38 (v0 : Nat) (s0 : Nat) (h : aH) : Option (Int32 × aH) :=
  (isO h 2 s0).bind fun _ =>
  (gX2_isFound s0 h).bind fun r =>
  fX10_fastsAt_41 v0 r.1 r.2
theorem tX10_fastsAt_38 {d : Nat} {z : Int32 × aH} (v0 : Nat) (s0 : Nat) (h : aH) (hf : fX10_fastsAt_38 v0 s0 h = some z) : Ev (d + 9) none mX10_fastsAt (0, 0) 38 [.ref v0, .null, .null] [.ref s0] h (QI z) := by
  obtain ⟨_, h1, hf⟩ := bnd hf
  obtain ⟨fs, ho⟩ := isO_ok h1
  obtain ⟨r, h2, hf⟩ := bnd hf
  refine ev_V kqX10_fastsAt_38 jX2_isFound (zX2_isFound (d := d + 8) h2) ho rfl rfl (Nat.le_of_ble_eq_true rfl) rfl (as := []) (rest := []) rfl (Nat.le_of_ble_eq_true rfl) (fun _ _ hq => ?_)
  obtain ⟨-, rfl, rfl⟩ := hq
  exact jm [2, 0, 0] (fun v0 => fX10_fastsAt_41 v0 r.1 r.2) (fun v0 q => tX10_fastsAt_41 v0 r.1 r.2 q) hf
def wX10_fastsAt_34 : List En := [(.aload_n 0, 0, 0, 0), (.getfield 26, 164, 10, 2)]
def fX10_fastsAt_34 (v0 : Nat) (h : aH) : Option (Int32 × aH) :=
  (gFR h 10 v0 2).bind fun t1 =>
  fX10_fastsAt_38 v0 t1 h
theorem tX10_fastsAt_34 {d : Nat} {z : Int32 × aH} (v0 : Nat) (h : aH) (hf : fX10_fastsAt_34 v0 h = some z) : Ev (d + 9) none mX10_fastsAt (0, 0) 34 [.ref v0, .null, .null] [] h (QI z) := 
  go_ok (X := none) (blk := wX10_fastsAt_34) (np := 38) (tt := 0) (kN := fun xs h st => app [2, 0, 0] (fun v0 => apS [2] (fun s0 => fX10_fastsAt_38 v0 s0 h) st) xs) (kT := fun _ _ _ => none) (kR := kRI)
    (fun xs h st q => jm [2, 0, 0] _ (fun v0 q => apS_ok [2] _ (fun st => Ev (d + 9) none mX10_fastsAt (0, 0) 38 [.ref v0, .null, .null] st h (QI z)) st (fun s0 q => tX10_fastsAt_38 v0 s0 h q) q) q)
    (fun _ _ _ q => nos q)
    kRI_ok (Or.inr rfl) (by decide +kernel) (by decide +kernel) hf
theorem kqX10_fastsAt_31 : okC mX10_fastsAt 31 (.invokevirtual 240) 113 112 0 4 = true := by decide +kernel
def fX10_fastsAt_31 (v0 : Nat) (s0 : Int32) (s1 : Int32) (s2 : Nat) (s3 : Nat) (s4 : Nat) (h : aH) : Option (Int32 × aH) :=
  (isO h 2 s4).bind fun _ =>
  (gX2_seekName s4 s3 s2 s1 s0 h).bind fun r =>
  fX10_fastsAt_34 v0 r
theorem tX10_fastsAt_31 {d : Nat} {z : Int32 × aH} (v0 : Nat) (s0 : Int32) (s1 : Int32) (s2 : Nat) (s3 : Nat) (s4 : Nat) (h : aH) (hf : fX10_fastsAt_31 v0 s0 s1 s2 s3 s4 h = some z) : Ev (d + 9) none mX10_fastsAt (0, 0) 31 [.ref v0, .null, .null] [.int s0, .int s1, .ref s2, .ref s3, .ref s4] h (QI z) := by
  obtain ⟨_, h1, hf⟩ := bnd hf
  obtain ⟨fs, ho⟩ := isO_ok h1
  obtain ⟨r, h2, hf⟩ := bnd hf
  refine ev_V kqX10_fastsAt_31 jX2_seekName (zX2_seekName (d := d + 0) h2) ho rfl rfl (Nat.le_of_ble_eq_true rfl) rfl (as := [.ref s3, .ref s2, .int s1, .int s0]) (rest := []) rfl (Nat.le_of_ble_eq_true rfl) (fun _ _ hq => ?_)
  obtain ⟨rfl, hh⟩ := hq
  rw [hh]
  exact jm [2, 0, 0] (fun v0 => fX10_fastsAt_34 v0 r) (fun v0 q => tX10_fastsAt_34 v0 r q) hf
def wX10_fastsAt_17 : List En := [(.aload_n 0, 0, 0, 0), (.getfield 26, 164, 10, 2), (.aload_n 0, 0, 0, 0), (.getfield 75, 171, 10, 9), (.aload_n 0, 0, 0, 0), (.getfield 68, 170, 10, 8), (.iload_n 1, 0, 0, 0), (.iload_n 2, 0, 0, 0)]
def fX10_fastsAt_17 (v0 : Nat) (v1 : Int32) (v2 : Int32) (h : aH) : Option (Int32 × aH) :=
  (gFR h 10 v0 2).bind fun t1 =>
  (gFR h 10 v0 9).bind fun t2 =>
  (gFR h 10 v0 8).bind fun t3 =>
  fX10_fastsAt_31 v0 v2 v1 t3 t2 t1 h
theorem tX10_fastsAt_17 {d : Nat} {z : Int32 × aH} (v0 : Nat) (v1 : Int32) (v2 : Int32) (h : aH) (hf : fX10_fastsAt_17 v0 v1 v2 h = some z) : Ev (d + 9) none mX10_fastsAt (0, 0) 17 [.ref v0, .int v1, .int v2] [] h (QI z) := 
  go_ok (X := none) (blk := wX10_fastsAt_17) (np := 31) (tt := 0) (kN := fun xs h st => app [2, 0, 0] (fun v0 => apS [1, 1, 2, 2, 2] (fun s0 s1 s2 s3 s4 => fX10_fastsAt_31 v0 s0 s1 s2 s3 s4 h) st) xs) (kT := fun _ _ _ => none) (kR := kRI)
    (fun xs h st q => jm [2, 0, 0] _ (fun v0 q => apS_ok [1, 1, 2, 2, 2] _ (fun st => Ev (d + 9) none mX10_fastsAt (0, 0) 31 [.ref v0, .null, .null] st h (QI z)) st (fun s0 s1 s2 s3 s4 q => tX10_fastsAt_31 v0 s0 s1 s2 s3 s4 h q) q) q)
    (fun _ _ _ q => nos q)
    kRI_ok (Or.inr rfl) (by decide +kernel) (by decide +kernel) hf
def wX10_fastsAt_15 : List En := [(.iconst (-1), 0, 0, 0), (.ireturn, 0, 0, 0)]
def fX10_fastsAt_15 (h : aH) : Option (Int32 × aH) :=
  some ((kI (-1)), h)
theorem tX10_fastsAt_15 {d : Nat} {z : Int32 × aH} (h : aH) (hf : fX10_fastsAt_15 h = some z) : Ev (d + 9) none mX10_fastsAt (0, 0) 15 [.null, .null, .null] [] h (QI z) := 
  go_ok (X := none) (blk := wX10_fastsAt_15) (np := 17) (tt := 0) (kN := fun _ _ _ => none) (kT := fun _ _ _ => none) (kR := kRI)
    (fun _ _ _ q => nos q)
    (fun _ _ _ q => nos q)
    kRI_ok (Or.inr rfl) (by decide +kernel) (by decide +kernel) hf
def wX10_fastsAt_12 : List En := [(.ifCond .eq 5, 17, 0, 0)]
def fX10_fastsAt_12 (v0 : Nat) (v1 : Int32) (v2 : Int32) (s0 : Int32) (h : aH) : Option (Int32 × aH) :=
  if s0 = 0 then fX10_fastsAt_17 v0 v1 v2 h else fX10_fastsAt_15 h
theorem tX10_fastsAt_12 {d : Nat} {z : Int32 × aH} (v0 : Nat) (v1 : Int32) (v2 : Int32) (s0 : Int32) (h : aH) (hf : fX10_fastsAt_12 v0 v1 v2 s0 h = some z) : Ev (d + 9) none mX10_fastsAt (0, 0) 12 [.ref v0, .int v1, .int v2] [.int s0] h (QI z) := 
  go_ok (X := none) (blk := wX10_fastsAt_12) (np := 15) (tt := 17) (kN := fun xs h st => app [0, 0, 0] (apS [] (fX10_fastsAt_15 h) st) xs) (kT := fun xs h st => app [2, 1, 1] (fun v0 v1 v2 => apS [] (fX10_fastsAt_17 v0 v1 v2 h) st) xs) (kR := kRI)
    (fun xs h st q => jm [0, 0, 0] _ (fun q => apS_ok [] _ (fun st => Ev (d + 9) none mX10_fastsAt (0, 0) 15 [.null, .null, .null] st h (QI z)) st (fun q => tX10_fastsAt_15 h q) q) q)
    (fun xs h st q => jm [2, 1, 1] _ (fun v0 v1 v2 q => apS_ok [] _ (fun st => Ev (d + 9) none mX10_fastsAt (0, 0) 17 [.ref v0, .int v1, .int v2] st h (QI z)) st (fun q => tX10_fastsAt_17 v0 v1 v2 h q) q) q)
    kRI_ok (Or.inr rfl) (by decide +kernel) (by decide +kernel) hf
theorem kqX10_fastsAt_9 : okC mX10_fastsAt 9 (.invokevirtual 190) 92 87 0 4 = true := by decide +kernel
def fX10_fastsAt_9 (v0 : Nat) (v1 : Int32) (v2 : Int32) (s0 : Int32) (s1 : Int32) (s2 : Int32) (s3 : Int32) (s4 : Nat) (h : aH) : Option (Int32 × aH) :=
  (isO h 10 s4).bind fun _ =>
  (gX10_isRefused s4 s3 s2 s1 s0 h).bind fun r =>
  fX10_fastsAt_12 v0 v1 v2 r.1 r.2
theorem tX10_fastsAt_9 {d : Nat} {z : Int32 × aH} (v0 : Nat) (v1 : Int32) (v2 : Int32) (s0 : Int32) (s1 : Int32) (s2 : Int32) (s3 : Int32) (s4 : Nat) (h : aH) (hf : fX10_fastsAt_9 v0 v1 v2 s0 s1 s2 s3 s4 h = some z) : Ev (d + 9) none mX10_fastsAt (0, 0) 9 [.ref v0, .int v1, .int v2] [.int s0, .int s1, .int s2, .int s3, .ref s4] h (QI z) := by
  obtain ⟨_, h1, hf⟩ := bnd hf
  obtain ⟨fs, ho⟩ := isO_ok h1
  obtain ⟨r, h2, hf⟩ := bnd hf
  refine ev_V kqX10_fastsAt_9 jX10_isRefused (zX10_isRefused (d := d + 7) h2) ho rfl rfl (Nat.le_of_ble_eq_true rfl) rfl (as := [.int s3, .int s2, .int s1, .int s0]) (rest := []) rfl (Nat.le_of_ble_eq_true rfl) (fun _ _ hq => ?_)
  obtain ⟨-, rfl, rfl⟩ := hq
  exact jm [2, 1, 1] (fun v0 v1 v2 => fX10_fastsAt_12 v0 v1 v2 r.1 r.2) (fun v0 v1 v2 q => tX10_fastsAt_12 v0 v1 v2 r.1 r.2 q) hf
def wX10_fastsAt_6 : List En := [(.iload_n 2, 0, 0, 0), (.iconst 1, 0, 0, 0), (.iconst 3, 0, 0, 0)]
def fX10_fastsAt_6 (v0 : Nat) (v1 : Int32) (v2 : Int32) (s0 : Int32) (s1 : Nat) (h : aH) : Option (Int32 × aH) :=
  fX10_fastsAt_9 v0 v1 v2 (kI 3) (kI 1) v2 s0 s1 h
theorem tX10_fastsAt_6 {d : Nat} {z : Int32 × aH} (v0 : Nat) (v1 : Int32) (v2 : Int32) (s0 : Int32) (s1 : Nat) (h : aH) (hf : fX10_fastsAt_6 v0 v1 v2 s0 s1 h = some z) : Ev (d + 9) none mX10_fastsAt (0, 0) 6 [.ref v0, .int v1, .int v2] [.int s0, .ref s1] h (QI z) := 
  go_ok (X := none) (blk := wX10_fastsAt_6) (np := 9) (tt := 0) (kN := fun xs h st => app [2, 1, 1] (fun v0 v1 v2 => apS [1, 1, 1, 1, 2] (fun s0 s1 s2 s3 s4 => fX10_fastsAt_9 v0 v1 v2 s0 s1 s2 s3 s4 h) st) xs) (kT := fun _ _ _ => none) (kR := kRI)
    (fun xs h st q => jm [2, 1, 1] _ (fun v0 v1 v2 q => apS_ok [1, 1, 1, 1, 2] _ (fun st => Ev (d + 9) none mX10_fastsAt (0, 0) 9 [.ref v0, .int v1, .int v2] st h (QI z)) st (fun s0 s1 s2 s3 s4 q => tX10_fastsAt_9 v0 v1 v2 s0 s1 s2 s3 s4 h q) q) q)
    (fun _ _ _ q => nos q)
    kRI_ok (Or.inr rfl) (by decide +kernel) (by decide +kernel) hf
theorem kqX10_fastsAt_3 : okC mX10_fastsAt 3 (.invokevirtual 150) 66 50 0 1 = true := by decide +kernel
def fX10_fastsAt_3 (v0 : Nat) (v1 : Int32) (v2 : Int32) (s0 : Int32) (s1 : Nat) (s2 : Nat) (h : aH) : Option (Int32 × aH) :=
  (isO h 10 s1).bind fun _ =>
  (gX10_lacksName s1 s0 h).bind fun r =>
  fX10_fastsAt_6 v0 v1 v2 r.1 s2 r.2
theorem tX10_fastsAt_3 {d : Nat} {z : Int32 × aH} (v0 : Nat) (v1 : Int32) (v2 : Int32) (s0 : Int32) (s1 : Nat) (s2 : Nat) (h : aH) (hf : fX10_fastsAt_3 v0 v1 v2 s0 s1 s2 h = some z) : Ev (d + 9) none mX10_fastsAt (0, 0) 3 [.ref v0, .int v1, .int v2] [.int s0, .ref s1, .ref s2] h (QI z) := by
  obtain ⟨_, h1, hf⟩ := bnd hf
  obtain ⟨fs, ho⟩ := isO_ok h1
  obtain ⟨r, h2, hf⟩ := bnd hf
  refine ev_V kqX10_fastsAt_3 jX10_lacksName (zX10_lacksName (d := d + 8) h2) ho rfl rfl (Nat.le_of_ble_eq_true rfl) rfl (as := [.int s0]) (rest := [.ref s2]) rfl (Nat.le_of_ble_eq_true rfl) (fun _ _ hq => ?_)
  obtain ⟨-, rfl, rfl⟩ := hq
  exact jm [2, 1, 1] (fun v0 v1 v2 => fX10_fastsAt_6 v0 v1 v2 r.1 s2 r.2) (fun v0 v1 v2 q => tX10_fastsAt_6 v0 v1 v2 r.1 s2 r.2 q) hf
def wX10_fastsAt_0 : List En := [(.aload_n 0, 0, 0, 0), (.aload_n 0, 0, 0, 0), (.iload_n 1, 0, 0, 0)]
def fX10_fastsAt_0 (v0 : Nat) (v1 : Int32) (v2 : Int32) (h : aH) : Option (Int32 × aH) :=
  fX10_fastsAt_3 v0 v1 v2 v1 v0 v0 h
theorem tX10_fastsAt_0 {d : Nat} {z : Int32 × aH} (v0 : Nat) (v1 : Int32) (v2 : Int32) (h : aH) (hf : fX10_fastsAt_0 v0 v1 v2 h = some z) : Ev (d + 9) none mX10_fastsAt (0, 0) 0 [.ref v0, .int v1, .int v2] [] h (QI z) := 
  go_ok (X := none) (blk := wX10_fastsAt_0) (np := 3) (tt := 0) (kN := fun xs h st => app [2, 1, 1] (fun v0 v1 v2 => apS [1, 2, 2] (fun s0 s1 s2 => fX10_fastsAt_3 v0 v1 v2 s0 s1 s2 h) st) xs) (kT := fun _ _ _ => none) (kR := kRI)
    (fun xs h st q => jm [2, 1, 1] _ (fun v0 v1 v2 q => apS_ok [1, 2, 2] _ (fun st => Ev (d + 9) none mX10_fastsAt (0, 0) 3 [.ref v0, .int v1, .int v2] st h (QI z)) st (fun s0 s1 s2 q => tX10_fastsAt_3 v0 v1 v2 s0 s1 s2 h q) q) q)
    (fun _ _ _ q => nos q)
    kRI_ok (Or.inr rfl) (by decide +kernel) (by decide +kernel) hf
def gX10_fastsAt (v0 : Nat) (v1 : Int32) (v2 : Int32) (h : aH) : Option (Int32 × aH) := fX10_fastsAt_0 v0 v1 v2 h
theorem zX10_fastsAt {d : Nat} {z : Int32 × aH} {v0 : Nat} {v1 : Int32} {v2 : Int32} {h : aH} (q : gX10_fastsAt v0 v1 v2 h = some z) : CT (d + 9) mX10_fastsAt (0, 0) [.ref v0, .int v1, .int v2] h (QI z) :=
  ct_ev (by decide +kernel) (Nat.le_of_ble_eq_true rfl) QI_r (jm [2, 1, 1] (fun v0 v1 v2 => fX10_fastsAt_0 v0 v1 v2 h) (fun v0 v1 v2 q => tX10_fastsAt_0 v0 v1 v2 h q) q)
end
