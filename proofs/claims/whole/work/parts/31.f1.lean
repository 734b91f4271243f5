noncomputable section
def wX11_isWord_26 : List En := [(.iconst 0, 0, 0, 0), (.ireturn, 0, 0, 0)]
def fX11_isWord_26 (h : aH) : Option (Int32 × aH) :=
  if (kI 0) = 0 ∨ (kI 0) = 1 then some ((kI 0), h) else none
theorem tX11_isWord_26 {d : Nat} {z : Int32 × aH} (h : aH) (hf : fX11_isWord_26 h = some z) : Ev (d + 4) none mX11_isWord (0, 0) 26 [.null, .null, .null, .null] [] h (QZ z) := 
  go_ok (X := none) (blk := wX11_isWord_26) (np := 28) (tt := 0) (kN := fun _ _ _ => none) (kT := fun _ _ _ => none) (kR := kRZ)
    (fun _ _ _ q => nos q)
    (fun _ _ _ q => nos q)
    kRZ_ok (Or.inr rfl) (by decide +kernel) (by decide +kernel) hf
def wX11_isWord_70 : List En := [(.iload_n 2, 0, 0, 0), (.ireturn, 0, 0, 0)]
def fX11_isWord_70 (v2 : Int32) (h : aH) : Option (Int32 × aH) :=
  if v2 = 0 ∨ v2 = 1 then some (v2, h) else none
theorem tX11_isWord_70 {d : Nat} {z : Int32 × aH} (v2 : Int32) (h : aH) (hf : fX11_isWord_70 v2 h = some z) : Ev (d + 4) none mX11_isWord (0, 0) 70 [.null, .null, .int v2, .null] [] h (QZ z) := 
  go_ok (X := none) (blk := wX11_isWord_70) (np := 72) (tt := 0) (kN := fun _ _ _ => none) (kT := fun _ _ _ => none) (kR := kRZ)
    (fun _ _ _ q => nos q)
    (fun _ _ _ q => nos q)
    kRZ_ok (Or.inr rfl) (by decide +kernel) (by decide +kernel) hf
def wX11_isWord_63 : List En := [(.istore_n 2, 0, 0, 0), (.iinc 3 1, 0, 0, 0), (.goto (-35), 32, 0, 0)]
def fX11_isWord_63 (k32 : Nat → Nat → Int32 → Int32 → aH → Option (Int32 × aH)) (v0 : Nat) (v1 : Nat) (v3 : Int32) (s0 : Int32) (h : aH) : Option (Int32 × aH) :=
  k32 v0 v1 s0 (v3 + kI 1) h
theorem tX11_isWord_63 {d : Nat} {z : Int32 × aH} {k32 : Nat → Nat → Int32 → Int32 → aH → Option (Int32 × aH)} (hk32 : ∀ (v0 : Nat) (v1 : Nat) (v2 : Int32) (v3 : Int32) (h : aH), k32 v0 v1 v2 v3 h = some z → Ev (d + 4) none mX11_isWord (0, 0) 32 [.ref v0, .ref v1, .int v2, .int v3] [] h (QZ z)) (v0 : Nat) (v1 : Nat) (v3 : Int32) (s0 : Int32) (h : aH) (hf : fX11_isWord_63 k32 v0 v1 v3 s0 h = some z) : Ev (d + 4) none mX11_isWord (0, 0) 63 [.ref v0, .ref v1, .null, .int v3] [.int s0] h (QZ z) := 
  go_ok (X := none) (blk := wX11_isWord_63) (np := 70) (tt := 32) (kN := fun _ _ _ => none) (kT := fun xs h st => app [2, 2, 1, 1] (fun v0 v1 v2 v3 => apS [] (k32 v0 v1 v2 v3 h) st) xs) (kR := kRZ)
    (fun _ _ _ q => nos q)
    (fun xs h st q => jm [2, 2, 1, 1] _ (fun v0 v1 v2 v3 q => apS_ok [] _ (fun st => Ev (d + 4) none mX11_isWord (0, 0) 32 [.ref v0, .ref v1, .int v2, .int v3] st h (QZ z)) st (fun q => hk32 v0 v1 v2 v3 h q) q) q)
    kRZ_ok (Or.inr rfl) (by decide +kernel) (by decide +kernel) hf
def wX11_isWord_62 : List En := [(.iconst 0, 0, 0, 0)]
def fX11_isWord_62 (k32 : Nat → Nat → Int32 → Int32 → aH → Option (Int32 × aH)) (v0 : Nat) (v1 : Nat) (v3 : Int32) (h : aH) : Option (Int32 × aH) :=
  fX11_isWord_63 k32 v0 v1 v3 (kI 0) h
theorem tX11_isWord_62 {d : Nat} {z : Int32 × aH} {k32 : Nat → Nat → Int32 → Int32 → aH → Option (Int32 × aH)} (hk32 : ∀ (v0 : Nat) (v1 : Nat) (v2 : Int32) (v3 : Int32) (h : aH), k32 v0 v1 v2 v3 h = some z → Ev (d + 4) none mX11_isWord (0, 0) 32 [.ref v0, .ref v1, .int v2, .int v3] [] h (QZ z)) (v0 : Nat) (v1 : Nat) (v3 : Int32) (h : aH) (hf : fX11_isWord_62 k32 v0 v1 v3 h = some z) : Ev (d + 4) none mX11_isWord (0, 0) 62 [.ref v0, .ref v1, .null, .int v3] [] h (QZ z) := 
  go_ok (X := none) (blk := wX11_isWord_62) (np := 63) (tt := 0) (kN := fun xs h st => app [2, 2, 0, 1] (fun v0 v1 v3 => apS [1] (fun s0 => fX11_isWord_63 k32 v0 v1 v3 s0 h) st) xs) (kT := fun _ _ _ => none) (kR := kRZ)
    (fun xs h st q => jm [2, 2, 0, 1] _ (fun v0 v1 v3 q => apS_ok [1] _ (fun st => Ev (d + 4) none mX11_isWord (0, 0) 63 [.ref v0, .ref v1, .null, .int v3] st h (QZ z)) st (fun s0 q => tX11_isWord_63 hk32 v0 v1 v3 s0 h q) q) q)
    (fun _ _ _ q => nos q)
    kRZ_ok (Or.inr rfl) (by decide +kernel) (by decide +kernel) hf
def wX11_isWord_58 : List En := [(.iconst 1, 0, 0, 0), (.goto 4, 63, 0, 0)]
def fX11_isWord_58 (k32 : Nat → Nat → Int32 → Int32 → aH → Option (Int32 × aH)) (v0 : Nat) (v1 : Nat) (v3 : Int32) (h : aH) : Option (Int32 × aH) :=
  fX11_isWord_63 k32 v0 v1 v3 (kI 1) h
theorem tX11_isWord_58 {d : Nat} {z : Int32 × aH} {k32 : Nat → Nat → Int32 → Int32 → aH → Option (Int32 × aH)} (hk32 : ∀ (v0 : Nat) (v1 : Nat) (v2 : Int32) (v3 : Int32) (h : aH), k32 v0 v1 v2 v3 h = some z → Ev (d + 4) none mX11_isWord (0, 0) 32 [.ref v0, .ref v1, .int v2, .int v3] [] h (QZ z)) (v0 : Nat) (v1 : Nat) (v3 : Int32) (h : aH) (hf : fX11_isWord_58 k32 v0 v1 v3 h = some z) : Ev (d + 4) none mX11_isWord (0, 0) 58 [.ref v0, .ref v1, .null, .int v3] [] h (QZ z) := 
  go_ok (X := none) (blk := wX11_isWord_58) (np := 62) (tt := 63) (kN := fun _ _ _ => none) (kT := fun xs h st => app [2, 2, 0, 1] (fun v0 v1 v3 => apS [1] (fun s0 => fX11_isWord_63 k32 v0 v1 v3 s0 h) st) xs) (kR := kRZ)
    (fun _ _ _ q => nos q)
    (fun xs h st q => jm [2, 2, 0, 1] _ (fun v0 v1 v3 q => apS_ok [1] _ (fun st => Ev (d + 4) none mX11_isWord (0, 0) 63 [.ref v0, .ref v1, .null, .int v3] st h (QZ z)) st (fun s0 q => tX11_isWord_63 hk32 v0 v1 v3 s0 h q) q) q)
    kRZ_ok (Or.inr rfl) (by decide +kernel) (by decide +kernel) hf
def wX11_isWord_55 : List En := [(.if_icmp .ne 7, 62, 0, 0)]
def fX11_isWord_55 (k32 : Nat → Nat → Int32 → Int32 → aH → Option (Int32 × aH)) (v0 : Nat) (v1 : Nat) (v3 : Int32) (s0 : Int32) (s1 : Int32) (h : aH) : Option (Int32 × aH) :=
  if s1 = s0 then fX11_isWord_58 k32 v0 v1 v3 h else fX11_isWord_62 k32 v0 v1 v3 h
theorem tX11_isWord_55 {d : Nat} {z : Int32 × aH} {k32 : Nat → Nat → Int32 → Int32 → aH → Option (Int32 × aH)} (hk32 : ∀ (v0 : Nat) (v1 : Nat) (v2 : Int32) (v3 : Int32) (h : aH), k32 v0 v1 v2 v3 h = some z → Ev (d + 4) none mX11_isWord (0, 0) 32 [.ref v0, .ref v1, .int v2, .int v3] [] h (QZ z)) (v0 : Nat) (v1 : Nat) (v3 : Int32) (s0 : Int32) (s1 : Int32) (h : aH) (hf : fX11_isWord_55 k32 v0 v1 v3 s0 s1 h = some z) : Ev (d + 4) none mX11_isWord (0, 0) 55 [.ref v0, .ref v1, .null, .int v3] [.int s0, .int s1] h (QZ z) := 
  go_ok (X := none) (blk := wX11_isWord_55) (np := 58) (tt := 62) (kN := fun xs h st => app [2, 2, 0, 1] (fun v0 v1 v3 => apS [] (fX11_isWord_58 k32 v0 v1 v3 h) st) xs) (kT := fun xs h st => app [2, 2, 0, 1] (fun v0 v1 v3 => apS [] (fX11_isWord_62 k32 v0 v1 v3 h) st) xs) (kR := kRZ)
    (fun xs h st q => jm [2, 2, 0, 1] _ (fun v0 v1 v3 q => apS_ok [] _ (fun st => Ev (d + 4) none mX11_isWord (0, 0) 58 [.ref v0, .ref v1, .null, .int v3] st h (QZ z)) st (fun q => tX11_isWord_58 hk32 v0 v1 v3 h q) q) q)
    (fun xs h st q => jm [2, 2, 0, 1] _ (fun v0 v1 v3 q => apS_ok [] _ (fun st => Ev (d + 4) none mX11_isWord (0, 0) 62 [.ref v0, .ref v1, .null, .int v3] st h (QZ z)) st (fun q => tX11_isWord_62 hk32 v0 v1 v3 h q) q) q)
    kRZ_ok (Or.inr rfl) (by decide +kernel) (by decide +kernel) hf
theorem kqX11_isWord_52 : okC mX11_isWord 52 (.invokevirtual 104) 28 206 0 1 = true := by decide +kernel
def fX11_isWord_52 (k32 : Nat → Nat → Int32 → Int32 → aH → Option (Int32 × aH)) (v0 : Nat) (v1 : Nat) (v3 : Int32) (s0 : Int32) (s1 : Nat) (s2 : Int32) (h : aH) : Option (Int32 × aH) :=
  (gJ0_charAt_5068e s1 s0 h).bind fun r =>
  fX11_isWord_55 k32 v0 v1 v3 r.1 s2 r.2
theorem tX11_isWord_52 {d : Nat} {z : Int32 × aH} {k32 : Nat → Nat → Int32 → Int32 → aH → Option (Int32 × aH)} (hk32 : ∀ (v0 : Nat) (v1 : Nat) (v2 : Int32) (v3 : Int32) (h : aH), k32 v0 v1 v2 v3 h = some z → Ev (d + 4) none mX11_isWord (0, 0) 32 [.ref v0, .ref v1, .int v2, .int v3] [] h (QZ z)) (v0 : Nat) (v1 : Nat) (v3 : Int32) (s0 : Int32) (s1 : Nat) (s2 : Int32) (h : aH) (hf : fX11_isWord_52 k32 v0 v1 v3 s0 s1 s2 h = some z) : Ev (d + 4) none mX11_isWord (0, 0) 52 [.ref v0, .ref v1, .null, .int v3] [.int s0, .ref s1, .int s2] h (QZ z) := by
  obtain ⟨r, h2, hf⟩ := bnd hf
  refine ev_VTc kqX11_isWord_52 jJ0_charAt_5068e (zJ0_charAt_5068e (d := d + 0) h2) rfl rfl (Nat.le_of_ble_eq_true rfl) (as := [.int s0]) (rest := [.int s2]) rfl rfl (Nat.le_of_ble_eq_true rfl) (fun _ _ hq => ?_)
  obtain ⟨rfl, rfl⟩ := hq
  exact jm [2, 2, 0, 1] (fun v0 v1 v3 => fX11_isWord_55 k32 v0 v1 v3 r.1 s2 r.2) (fun v0 v1 v3 q => tX11_isWord_55 hk32 v0 v1 v3 r.1 s2 r.2 q) hf
def wX11_isWord_44 : List En := [(.aload_n 0, 0, 0, 0), (.getfield 17, 187, 11, 12), (.iload_n 3, 0, 0, 0), (.iaload, 0, 0, 0), (.aload_n 1, 0, 0, 0), (.iload_n 3, 0, 0, 0)]
def fX11_isWord_44 (k32 : Nat → Nat → Int32 → Int32 → aH → Option (Int32 × aH)) (v0 : Nat) (v1 : Nat) (v3 : Int32) (h : aH) : Option (Int32 × aH) :=
  (gFR h 11 v0 12).bind fun t1 =>
  (aRI (h[t1]?) v3).bind fun t2 =>
  fX11_isWord_52 k32 v0 v1 v3 v3 v1 t2 h
theorem tX11_isWord_44 {d : Nat} {z : Int32 × aH} {k32 : Nat → Nat → Int32 → Int32 → aH → Option (Int32 × aH)} (hk32 : ∀ (v0 : Nat) (v1 : Nat) (v2 : Int32) (v3 : Int32) (h : aH), k32 v0 v1 v2 v3 h = some z → Ev (d + 4) none mX11_isWord (0, 0) 32 [.ref v0, .ref v1, .int v2, .int v3] [] h (QZ z)) (v0 : Nat) (v1 : Nat) (v3 : Int32) (h : aH) (hf : fX11_isWord_44 k32 v0 v1 v3 h = some z) : Ev (d + 4) none mX11_isWord (0, 0) 44 [.ref v0, .ref v1, .null, .int v3] [] h (QZ z) := 
  go_ok (X := none) (blk := wX11_isWord_44) (np := 52) (tt := 0) (kN := fun xs h st => app [2, 2, 0, 1] (fun v0 v1 v3 => apS [1, 2, 1] (fun s0 s1 s2 => fX11_isWord_52 k32 v0 v1 v3 s0 s1 s2 h) st) xs) (kT := fun _ _ _ => none) (kR := kRZ)
    (fun xs h st q => jm [2, 2, 0, 1] _ (fun v0 v1 v3 q => apS_ok [1, 2, 1] _ (fun st => Ev (d + 4) none mX11_isWord (0, 0) 52 [.ref v0, .ref v1, .null, .int v3] st h (QZ z)) st (fun s0 s1 s2 q => tX11_isWord_52 hk32 v0 v1 v3 s0 s1 s2 h q) q) q)
    (fun _ _ _ q => nos q)
    kRZ_ok (Or.inr rfl) (by decide +kernel) (by decide +kernel) hf
def wX11_isWord_40 : List En := [(.iload_n 2, 0, 0, 0), (.ifCond .eq 21, 62, 0, 0)]
def fX11_isWord_40 (k32 : Nat → Nat → Int32 → Int32 → aH → Option (Int32 × aH)) (v0 : Nat) (v1 : Nat) (v2 : Int32) (v3 : Int32) (h : aH) : Option (Int32 × aH) :=
  if v2 = 0 then fX11_isWord_62 k32 v0 v1 v3 h else fX11_isWord_44 k32 v0 v1 v3 h
theorem tX11_isWord_40 {d : Nat} {z : Int32 × aH} {k32 : Nat → Nat → Int32 → Int32 → aH → Option (Int32 × aH)} (hk32 : ∀ (v0 : Nat) (v1 : Nat) (v2 : Int32) (v3 : Int32) (h : aH), k32 v0 v1 v2 v3 h = some z → Ev (d + 4) none mX11_isWord (0, 0) 32 [.ref v0, .ref v1, .int v2, .int v3] [] h (QZ z)) (v0 : Nat) (v1 : Nat) (v2 : Int32) (v3 : Int32) (h : aH) (hf : fX11_isWord_40 k32 v0 v1 v2 v3 h = some z) : Ev (d + 4) none mX11_isWord (0, 0) 40 [.ref v0, .ref v1, .int v2, .int v3] [] h (QZ z) := 
  go_ok (X := none) (blk := wX11_isWord_40) (np := 44) (tt := 62) (kN := fun xs h st => app [2, 2, 0, 1] (fun v0 v1 v3 => apS [] (fX11_isWord_44 k32 v0 v1 v3 h) st) xs) (kT := fun xs h st => app [2, 2, 0, 1] (fun v0 v1 v3 => apS [] (fX11_isWord_62 k32 v0 v1 v3 h) st) xs) (kR := kRZ)
    (fun xs h st q => jm [2, 2, 0, 1] _ (fun v0 v1 v3 q => apS_ok [] _ (fun st => Ev (d + 4) none mX11_isWord (0, 0) 44 [.ref v0, .ref v1, .null, .int v3] st h (QZ z)) st (fun q => tX11_isWord_44 hk32 v0 v1 v3 h q) q) q)
    (fun xs h st q => jm [2, 2, 0, 1] _ (fun v0 v1 v3 q => apS_ok [] _ (fun st => Ev (d + 4) none mX11_isWord (0, 0) 62 [.ref v0, .ref v1, .null, .int v3] st h (QZ z)) st (fun q => tX11_isWord_62 hk32 v0 v1 v3 h q) q) q)
    kRZ_ok (Or.inr rfl) (by decide +kernel) (by decide +kernel) hf
def wX11_isWord_32 : List En := [(.iload_n 3, 0, 0, 0), (.aload_n 0, 0, 0, 0), (.getfield 75, 183, 11, 8), (.if_icmp .ge 33, 70, 0, 0)]
def fX11_isWord_32 (k32 : Nat → Nat → Int32 → Int32 → aH → Option (Int32 × aH)) (v0 : Nat) (v1 : Nat) (v2 : Int32) (v3 : Int32) (h : aH) : Option (Int32 × aH) :=
  (gFI h 11 v0 8).bind fun t1 =>
  if v3 < t1 then fX11_isWord_40 k32 v0 v1 v2 v3 h else fX11_isWord_70 v2 h
theorem tX11_isWord_32 {d : Nat} {z : Int32 × aH} {k32 : Nat → Nat → Int32 → Int32 → aH → Option (Int32 × aH)} (hk32 : ∀ (v0 : Nat) (v1 : Nat) (v2 : Int32) (v3 : Int32) (h : aH), k32 v0 v1 v2 v3 h = some z → Ev (d + 4) none mX11_isWord (0, 0) 32 [.ref v0, .ref v1, .int v2, .int v3] [] h (QZ z)) (v0 : Nat) (v1 : Nat) (v2 : Int32) (v3 : Int32) (h : aH) (hf : fX11_isWord_32 k32 v0 v1 v2 v3 h = some z) : Ev (d + 4) none mX11_isWord (0, 0) 32 [.ref v0, .ref v1, .int v2, .int v3] [] h (QZ z) := 
  go_ok (X := none) (blk := wX11_isWord_32) (np := 40) (tt := 70) (kN := fun xs h st => app [2, 2, 1, 1] (fun v0 v1 v2 v3 => apS [] (fX11_isWord_40 k32 v0 v1 v2 v3 h) st) xs) (kT := fun xs h st => app [0, 0, 1, 0] (fun v2 => apS [] (fX11_isWord_70 v2 h) st) xs) (kR := kRZ)
    (fun xs h st q => jm [2, 2, 1, 1] _ (fun v0 v1 v2 v3 q => apS_ok [] _ (fun st => Ev (d + 4) none mX11_isWord (0, 0) 40 [.ref v0, .ref v1, .int v2, .int v3] st h (QZ z)) st (fun q => tX11_isWord_40 hk32 v0 v1 v2 v3 h q) q) q)
    (fun xs h st q => jm [0, 0, 1, 0] _ (fun v2 q => apS_ok [] _ (fun st => Ev (d + 4) none mX11_isWord (0, 0) 70 [.null, .null, .int v2, .null] st h (QZ z)) st (fun q => tX11_isWord_70 v2 h q) q) q)
    kRZ_ok (Or.inr rfl) (by decide +kernel) (by decide +kernel) hf
def lX11_isWord_32 : Nat → Nat → Nat → Int32 → Int32 → aH → Option (Int32 × aH)
  | 0, _, _, _, _, _ => none
  | n + 1, v0, v1, v2, v3, h => fX11_isWord_32 (lX11_isWord_32 n) v0 v1 v2 v3 h
theorem uX11_isWord_32 {d : Nat} {z : Int32 × aH} : ∀ (n : Nat) (v0 : Nat) (v1 : Nat) (v2 : Int32) (v3 : Int32) (h : aH), lX11_isWord_32 n v0 v1 v2 v3 h = some z → Ev (d + 4) none mX11_isWord (0, 0) 32 [.ref v0, .ref v1, .int v2, .int v3] [] h (QZ z) := by
  intro n
  induction n with
  | zero => intro _ _ _ _ _ q; exact nos (show (none : Option (Int32 × aH)) = some z from q)
  | succ n ih => intro v0 v1 v2 v3 h q; exact tX11_isWord_32 ih v0 v1 v2 v3 h q
def wX11_isWord_28 : List En := [(.iconst 1, 0, 0, 0), (.istore_n 2, 0, 0, 0), (.iconst 0, 0, 0, 0), (.istore_n 3, 0, 0, 0)]
def fX11_isWord_28 (v0 : Nat) (v1 : Nat) (h : aH) : Option (Int32 × aH) :=
  lX11_isWord_32 FU v0 v1 (kI 1) (kI 0) h
theorem tX11_isWord_28 {d : Nat} {z : Int32 × aH} (v0 : Nat) (v1 : Nat) (h : aH) (hf : fX11_isWord_28 v0 v1 h = some z) : Ev (d + 4) none mX11_isWord (0, 0) 28 [.ref v0, .ref v1, .null, .null] [] h (QZ z) := 
  go_ok (X := none) (blk := wX11_isWord_28) (np := 32) (tt := 0) (kN := fun xs h st => app [2, 2, 1, 1] (fun v0 v1 v2 v3 => apS [] (lX11_isWord_32 FU v0 v1 v2 v3 h) st) xs) (kT := fun _ _ _ => none) (kR := kRZ)
    (fun xs h st q => jm [2, 2, 1, 1] _ (fun v0 v1 v2 v3 q => apS_ok [] _ (fun st => Ev (d + 4) none mX11_isWord (0, 0) 32 [.ref v0, .ref v1, .int v2, .int v3] st h (QZ z)) st (fun q => uX11_isWord_32 FU v0 v1 v2 v3 h q) q) q)
    (fun _ _ _ q => nos q)
    kRZ_ok (Or.inr rfl) (by decide +kernel) (by decide +kernel) hf
def wX11_isWord_23 : List En := [(.if_icmp .eq 5, 28, 0, 0)]
def fX11_isWord_23 (v0 : Nat) (v1 : Nat) (s0 : Int32) (s1 : Int32) (h : aH) : Option (Int32 × aH) :=
  if s1 = s0 then fX11_isWord_28 v0 v1 h else fX11_isWord_26 h
theorem tX11_isWord_23 {d : Nat} {z : Int32 × aH} (v0 : Nat) (v1 : Nat) (s0 : Int32) (s1 : Int32) (h : aH) (hf : fX11_isWord_23 v0 v1 s0 s1 h = some z) : Ev (d + 4) none mX11_isWord (0, 0) 23 [.ref v0, .ref v1, .null, .null] [.int s0, .int s1] h (QZ z) := 
  go_ok (X := none) (blk := wX11_isWord_23) (np := 26) (tt := 28) (kN := fun xs h st => app [0, 0, 0, 0] (apS [] (fX11_isWord_26 h) st) xs) (kT := fun xs h st => app [2, 2, 0, 0] (fun v0 v1 => apS [] (fX11_isWord_28 v0 v1 h) st) xs) (kR := kRZ)
    (fun xs h st q => jm [0, 0, 0, 0] _ (fun q => apS_ok [] _ (fun st => Ev (d + 4) none mX11_isWord (0, 0) 26 [.null, .null, .null, .null] st h (QZ z)) st (fun q => tX11_isWord_26 h q) q) q)
    (fun xs h st q => jm [2, 2, 0, 0] _ (fun v0 v1 q => apS_ok [] _ (fun st => Ev (d + 4) none mX11_isWord (0, 0) 28 [.ref v0, .ref v1, .null, .null] st h (QZ z)) st (fun q => tX11_isWord_28 v0 v1 h q) q) q)
    kRZ_ok (Or.inr rfl) (by decide +kernel) (by decide +kernel) hf
theorem kqX11_isWord_20 : okC mX11_isWord 20 (.invokevirtual 98) 26 205 0 0 = true := by decide +kernel
def fX11_isWord_20 (v0 : Nat) (v1 : Nat) (s0 : Nat) (s1 : Int32) (h : aH) : Option (Int32 × aH) :=
  (gJ0_length_8abf5 s0 h).bind fun r =>
  fX11_isWord_23 v0 v1 r.1 s1 r.2
theorem tX11_isWord_20 {d : Nat} {z : Int32 × aH} (v0 : Nat) (v1 : Nat) (s0 : Nat) (s1 : Int32) (h : aH) (hf : fX11_isWord_20 v0 v1 s0 s1 h = some z) : Ev (d + 4) none mX11_isWord (0, 0) 20 [.ref v0, .ref v1, .null, .null] [.ref s0, .int s1] h (QZ z) := by
  obtain ⟨r, h2, hf⟩ := bnd hf
  refine ev_VTc kqX11_isWord_20 jJ0_length_8abf5 (zJ0_length_8abf5 (d := d + 2) h2) rfl rfl (Nat.le_of_ble_eq_true rfl) (as := []) (rest := [.int s1]) rfl rfl (Nat.le_of_ble_eq_true rfl) (fun _ _ hq => ?_)
  obtain ⟨rfl, rfl⟩ := hq
  exact jm [2, 2, 0, 0] (fun v0 v1 => fX11_isWord_23 v0 v1 r.1 s1 r.2) (fun v0 v1 q => tX11_isWord_23 v0 v1 r.1 s1 r.2 q) hf
def wX11_isWord_15 : List En := [(.aload_n 0, 0, 0, 0), (.getfield 75, 183, 11, 8), (.aload_n 1, 0, 0, 0)]
def fX11_isWord_15 (v0 : Nat) (v1 : Nat) (h : aH) : Option (Int32 × aH) :=
  (gFI h 11 v0 8).bind fun t1 =>
  fX11_isWord_20 v0 v1 v1 t1 h
theorem tX11_isWord_15 {d : Nat} {z : Int32 × aH} (v0 : Nat) (v1 : Nat) (h : aH) (hf : fX11_isWord_15 v0 v1 h = some z) : Ev (d + 4) none mX11_isWord (0, 0) 15 [.ref v0, .ref v1, .null, .null] [] h (QZ z) := 
  go_ok (X := none) (blk := wX11_isWord_15) (np := 20) (tt := 0) (kN := fun xs h st => app [2, 2, 0, 0] (fun v0 v1 => apS [2, 1] (fun s0 s1 => fX11_isWord_20 v0 v1 s0 s1 h) st) xs) (kT := fun _ _ _ => none) (kR := kRZ)
    (fun xs h st q => jm [2, 2, 0, 0] _ (fun v0 v1 q => apS_ok [2, 1] _ (fun st => Ev (d + 4) none mX11_isWord (0, 0) 20 [.ref v0, .ref v1, .null, .null] st h (QZ z)) st (fun s0 s1 q => tX11_isWord_20 v0 v1 s0 s1 h q) q) q)
    (fun _ _ _ q => nos q)
    kRZ_ok (Or.inr rfl) (by decide +kernel) (by decide +kernel) hf
def wX11_isWord_7 : List En := [(.aload_n 0, 0, 0, 0), (.getfield 81, 181, 11, 6), (.iconst 2, 0, 0, 0), (.if_icmp .ne 14, 26, 0, 0)]
def fX11_isWord_7 (v0 : Nat) (v1 : Nat) (h : aH) : Option (Int32 × aH) :=
  (gFI h 11 v0 6).bind fun t1 =>
  if t1 = (kI 2) then fX11_isWord_15 v0 v1 h else fX11_isWord_26 h
theorem tX11_isWord_7 {d : Nat} {z : Int32 × aH} (v0 : Nat) (v1 : Nat) (h : aH) (hf : fX11_isWord_7 v0 v1 h = some z) : Ev (d + 4) none mX11_isWord (0, 0) 7 [.ref v0, .ref v1, .null, .null] [] h (QZ z) := 
  go_ok (X := none) (blk := wX11_isWord_7) (np := 15) (tt := 26) (kN := fun xs h st => app [2, 2, 0, 0] (fun v0 v1 => apS [] (fX11_isWord_15 v0 v1 h) st) xs) (kT := fun xs h st => app [0, 0, 0, 0] (apS [] (fX11_isWord_26 h) st) xs) (kR := kRZ)
    (fun xs h st q => jm [2, 2, 0, 0] _ (fun v0 v1 q => apS_ok [] _ (fun st => Ev (d + 4) none mX11_isWord (0, 0) 15 [.ref v0, .ref v1, .null, .null] st h (QZ z)) st (fun q => tX11_isWord_15 v0 v1 h q) q) q)
    (fun xs h st q => jm [0, 0, 0, 0] _ (fun q => apS_ok [] _ (fun st => Ev (d + 4) none mX11_isWord (0, 0) 26 [.null, .null, .null, .null] st h (QZ z)) st (fun q => tX11_isWord_26 h q) q) q)
    kRZ_ok (Or.inr rfl) (by decide +kernel) (by decide +kernel) hf
def wX11_isWord_0 : List En := [(.aload_n 0, 0, 0, 0), (.getfield 91, 188, 11, 13), (.ifCond .ne 22, 26, 0, 0)]
def fX11_isWord_0 (v0 : Nat) (v1 : Nat) (h : aH) : Option (Int32 × aH) :=
  (gFI h 11 v0 13).bind fun t1 =>
  if t1 = 0 then fX11_isWord_7 v0 v1 h else fX11_isWord_26 h
theorem tX11_isWord_0 {d : Nat} {z : Int32 × aH} (v0 : Nat) (v1 : Nat) (h : aH) (hf : fX11_isWord_0 v0 v1 h = some z) : Ev (d + 4) none mX11_isWord (0, 0) 0 [.ref v0, .ref v1, .null, .null] [] h (QZ z) := 
  go_ok (X := none) (blk := wX11_isWord_0) (np := 7) (tt := 26) (kN := fun xs h st => app [2, 2, 0, 0] (fun v0 v1 => apS [] (fX11_isWord_7 v0 v1 h) st) xs) (kT := fun xs h st => app [0, 0, 0, 0] (apS [] (fX11_isWord_26 h) st) xs) (kR := kRZ)
    (fun xs h st q => jm [2, 2, 0, 0] _ (fun v0 v1 q => apS_ok [] _ (fun st => Ev (d + 4) none mX11_isWord (0, 0) 7 [.ref v0, .ref v1, .null, .null] st h (QZ z)) st (fun q => tX11_isWord_7 v0 v1 h q) q) q)
    (fun xs h st q => jm [0, 0, 0, 0] _ (fun q => apS_ok [] _ (fun st => Ev (d + 4) none mX11_isWord (0, 0) 26 [.null, .null, .null, .null] st h (QZ z)) st (fun q => tX11_isWord_26 h q) q) q)
    kRZ_ok (Or.inr rfl) (by decide +kernel) (by decide +kernel) hf
def gX11_isWord (v0 : Nat) (v1 : Nat) (h : aH) : Option (Int32 × aH) := fX11_isWord_0 v0 v1 h
theorem zX11_isWord {d : Nat} {z : Int32 × aH} {v0 : Nat} {v1 : Nat} {h : aH} (q : gX11_isWord v0 v1 h = some z) : CT (d + 4) mX11_isWord (0, 0) [.ref v0, .ref v1] h (QZ z) :=
  ct_ev (by decide +kernel) (Nat.le_of_ble_eq_true rfl) QZ_r (jm [2, 2, 0, 0] (fun v0 v1 => fX11_isWord_0 v0 v1 h) (fun v0 v1 q => tX11_isWord_0 v0 v1 h q) q)
def wX11_begins_47 : List En := [(.iconst 1, 0, 0, 0), (.ireturn, 0, 0, 0)]
def fX11_begins_47 (h : aH) : Option (Int32 × aH) :=
  if (kI 1) = 0 ∨ (kI 1) = 1 then some ((kI 1), h) else none
theorem tX11_begins_47 {d : Nat} {z : Int32 × aH} (h : aH) (hf : fX11_begins_47 h = some z) : Ev (d + 5) none mX11_begins (0, 0) 47 [.null, .null, .null] [] h (QZ z) := 
  go_ok (X := none) (blk := wX11_begins_47) (np := 49) (tt := 0) (kN := fun _ _ _ => none) (kT := fun _ _ _ => none) (kR := kRZ)
    (fun _ _ _ q => nos q)
    (fun _ _ _ q => nos q)
    kRZ_ok (Or.inr rfl) (by decide +kernel) (by decide +kernel) hf
theorem kqX11_begins_44 : okC mX11_begins 44 (.invokevirtual 151) 197 214 0 0 = true := by decide +kernel
def fX11_begins_44 (s0 : Nat) (h : aH) : Option (Int32 × aH) :=
  (isO h 11 s0).bind fun _ =>
  (gX11_pass s0 h).bind fun r =>
  fX11_begins_47 r
theorem tX11_begins_44 {d : Nat} {z : Int32 × aH} (s0 : Nat) (h : aH) (hf : fX11_begins_44 s0 h = some z) : Ev (d + 5) none mX11_begins (0, 0) 44 [.null, .null, .null] [.ref s0] h (QZ z) := by
  obtain ⟨_, h1, hf⟩ := bnd hf
  obtain ⟨fs, ho⟩ := isO_ok h1
  obtain ⟨r, h2, hf⟩ := bnd hf
  refine ev_V kqX11_begins_44 jX11_pass (zX11_pass (d := d + 2) h2) ho rfl rfl (Nat.le_of_ble_eq_true rfl) rfl (as := []) (rest := []) rfl (Nat.le_of_ble_eq_true rfl) (fun _ _ hq => ?_)
  obtain ⟨rfl, hh⟩ := hq
  rw [hh]
  exact jm [0, 0, 0] (fX11_begins_47 r) (fun q => tX11_begins_47 r q) hf
def wX11_begins_43 : List En := [(.aload_n 0, 0, 0, 0)]
def fX11_begins_43 (v0 : Nat) (h : aH) : Option (Int32 × aH) :=
  fX11_begins_44 v0 h
theorem tX11_begins_43 {d : Nat} {z : Int32 × aH} (v0 : Nat) (h : aH) (hf : fX11_begins_43 v0 h = some z) : Ev (d + 5) none mX11_begins (0, 0) 43 [.ref v0, .null, .null] [] h (QZ z) := 
  go_ok (X := none) (blk := wX11_begins_43) (np := 44) (tt := 0) (kN := fun xs h st => app [0, 0, 0] (apS [2] (fun s0 => fX11_begins_44 s0 h) st) xs) (kT := fun _ _ _ => none) (kR := kRZ)
    (fun xs h st q => jm [0, 0, 0] _ (fun q => apS_ok [2] _ (fun st => Ev (d + 5) none mX11_begins (0, 0) 44 [.null, .null, .null] st h (QZ z)) st (fun s0 q => tX11_begins_44 s0 h q) q) q)
    (fun _ _ _ q => nos q)
    kRZ_ok (Or.inr rfl) (by decide +kernel) (by decide +kernel) hf
theorem kqX11_begins_40 : okC mX11_begins 40 (.invokevirtual 118) 191 208 0 2 = true := by decide +kernel
def fX11_begins_40 (v0 : Nat) (s0 : Int32) (s1 : Int32) (s2 : Nat) (h : aH) : Option (Int32 × aH) :=
  (isO h 11 s2).bind fun _ =>
  (gX11_wrong s2 s1 s0 h).bind fun r =>
  fX11_begins_43 v0 r
theorem tX11_begins_40 {d : Nat} {z : Int32 × aH} (v0 : Nat) (s0 : Int32) (s1 : Int32) (s2 : Nat) (h : aH) (hf : fX11_begins_40 v0 s0 s1 s2 h = some z) : Ev (d + 5) none mX11_begins (0, 0) 40 [.ref v0, .null, .null] [.int s0, .int s1, .ref s2] h (QZ z) := by
  obtain ⟨_, h1, hf⟩ := bnd hf
  obtain ⟨fs, ho⟩ := isO_ok h1
  obtain ⟨r, h2, hf⟩ := bnd hf
  refine ev_V kqX11_begins_40 jX11_wrong (zX11_wrong (d := d + 4) h2) ho rfl rfl (Nat.le_of_ble_eq_true rfl) rfl (as := [.int s1, .int s0]) (rest := []) rfl (Nat.le_of_ble_eq_true rfl) (fun _ _ hq => ?_)
  obtain ⟨rfl, hh⟩ := hq
  rw [hh]
  exact jm [2, 0, 0] (fun v0 => fX11_begins_43 v0 r) (fun v0 q => tX11_begins_43 v0 r q) hf
def wX11_begins_33 : List En := [(.aload_n 0, 0, 0, 0), (.bipush 6, 0, 0, 0), (.aload_n 0, 0, 0, 0), (.getfield 72, 179, 11, 4)]
def fX11_begins_33 (v0 : Nat) (h : aH) : Option (Int32 × aH) :=
  (gFI h 11 v0 4).bind fun t1 =>
  fX11_begins_40 v0 t1 (kB 6) v0 h
theorem tX11_begins_33 {d : Nat} {z : Int32 × aH} (v0 : Nat) (h : aH) (hf : fX11_begins_33 v0 h = some z) : Ev (d + 5) none mX11_begins (0, 0) 33 [.ref v0, .null, .null] [] h (QZ z) := 
  go_ok (X := none) (blk := wX11_begins_33) (np := 40) (tt := 0) (kN := fun xs h st => app [2, 0, 0] (fun v0 => apS [1, 1, 2] (fun s0 s1 s2 => fX11_begins_40 v0 s0 s1 s2 h) st) xs) (kT := fun _ _ _ => none) (kR := kRZ)
    (fun xs h st q => jm [2, 0, 0] _ (fun v0 q => apS_ok [1, 1, 2] _ (fun st => Ev (d + 5) none mX11_begins (0, 0) 40 [.ref v0, .null, .null] st h (QZ z)) st (fun s0 s1 s2 q => tX11_begins_40 v0 s0 s1 s2 h q) q) q)
    (fun _ _ _ q => nos q)
    kRZ_ok (Or.inr rfl) (by decide +kernel) (by decide +kernel) hf
def wX11_begins_23 : List En := [(.aload_n 0, 0, 0, 0), (.getfield 23, 191, 11, 16), (.bipush 8, 0, 0, 0), (.iaload, 0, 0, 0), (.ifCond .ne 13, 43, 0, 0)]
def fX11_begins_23 (v0 : Nat) (h : aH) : Option (Int32 × aH) :=
  (gFR h 11 v0 16).bind fun t1 =>
  (aRI (h[t1]?) (kB 8)).bind fun t2 =>
  if t2 = 0 then fX11_begins_33 v0 h else fX11_begins_43 v0 h
theorem tX11_begins_23 {d : Nat} {z : Int32 × aH} (v0 : Nat) (h : aH) (hf : fX11_begins_23 v0 h = some z) : Ev (d + 5) none mX11_begins (0, 0) 23 [.ref v0, .null, .null] [] h (QZ z) := 
  go_ok (X := none) (blk := wX11_begins_23) (np := 33) (tt := 43) (kN := fun xs h st => app [2, 0, 0] (fun v0 => apS [] (fX11_begins_33 v0 h) st) xs) (kT := fun xs h st => app [2, 0, 0] (fun v0 => apS [] (fX11_begins_43 v0 h) st) xs) (kR := kRZ)
    (fun xs h st q => jm [2, 0, 0] _ (fun v0 q => apS_ok [] _ (fun st => Ev (d + 5) none mX11_begins (0, 0) 33 [.ref v0, .null, .null] st h (QZ z)) st (fun q => tX11_begins_33 v0 h q) q) q)
    (fun xs h st q => jm [2, 0, 0] _ (fun v0 q => apS_ok [] _ (fun st => Ev (d + 5) none mX11_begins (0, 0) 43 [.ref v0, .null, .null] st h (QZ z)) st (fun q => tX11_begins_43 v0 h q) q) q)
    kRZ_ok (Or.inr rfl) (by decide +kernel) (by decide +kernel) hf
theorem kqX11_begins_20 : okC mX11_begins 20 (.invokevirtual 118) 191 208 0 2 = true := by decide +kernel
def fX11_begins_20 (v0 : Nat) (s0 : Int32) (s1 : Int32) (s2 : Nat) (h : aH) : Option (Int32 × aH) :=
  (isO h 11 s2).bind fun _ =>
  (gX11_wrong s2 s1 s0 h).bind fun r =>
  fX11_begins_23 v0 r
theorem tX11_begins_20 {d : Nat} {z : Int32 × aH} (v0 : Nat) (s0 : Int32) (s1 : Int32) (s2 : Nat) (h : aH) (hf : fX11_begins_20 v0 s0 s1 s2 h = some z) : Ev (d + 5) none mX11_begins (0, 0) 20 [.ref v0, .null, .null] [.int s0, .int s1, .ref s2] h (QZ z) := by
  obtain ⟨_, h1, hf⟩ := bnd hf
  obtain ⟨fs, ho⟩ := isO_ok h1
  obtain ⟨r, h2, hf⟩ := bnd hf
  refine ev_V kqX11_begins_20 jX11_wrong (zX11_wrong (d := d + 4) h2) ho rfl rfl (Nat.le_of_ble_eq_true rfl) rfl (as := [.int s1, .int s0]) (rest := []) rfl (Nat.le_of_ble_eq_true rfl) (fun _ _ hq => ?_)
  obtain ⟨rfl, hh⟩ := hq
  rw [hh]
  exact jm [2, 0, 0] (fun v0 => fX11_begins_23 v0 r) (fun v0 q => tX11_begins_23 v0 r q) hf
def wX11_begins_14 : List En := [(.aload_n 0, 0, 0, 0), (.iconst 5, 0, 0, 0), (.aload_n 0, 0, 0, 0), (.getfield 72, 179, 11, 4)]
def fX11_begins_14 (v0 : Nat) (h : aH) : Option (Int32 × aH) :=
  (gFI h 11 v0 4).bind fun t1 =>
  fX11_begins_20 v0 t1 (kI 5) v0 h
theorem tX11_begins_14 {d : Nat} {z : Int32 × aH} (v0 : Nat) (h : aH) (hf : fX11_begins_14 v0 h = some z) : Ev (d + 5) none mX11_begins (0, 0) 14 [.ref v0, .null, .null] [] h (QZ z) := 
  go_ok (X := none) (blk := wX11_begins_14) (np := 20) (tt := 0) (kN := fun xs h st => app [2, 0, 0] (fun v0 => apS [1, 1, 2] (fun s0 s1 s2 => fX11_begins_20 v0 s0 s1 s2 h) st) xs) (kT := fun _ _ _ => none) (kR := kRZ)
    (fun xs h st q => jm [2, 0, 0] _ (fun v0 q => apS_ok [1, 1, 2] _ (fun st => Ev (d + 5) none mX11_begins (0, 0) 20 [.ref v0, .null, .null] st h (QZ z)) st (fun s0 s1 s2 q => tX11_begins_20 v0 s0 s1 s2 h q) q) q)
    (fun _ _ _ q => nos q)
    kRZ_ok (Or.inr rfl) (by decide +kernel) (by decide +kernel) hf
def wX11_begins_10 : List En := [(.iload_n 2, 0, 0, 0), (.ifCond .ne 12, 23, 0, 0)]
def fX11_begins_10 (v0 : Nat) (v2 : Int32) (h : aH) : Option (Int32 × aH) :=
  if v2 = 0 then fX11_begins_14 v0 h else fX11_begins_23 v0 h
theorem tX11_begins_10 {d : Nat} {z : Int32 × aH} (v0 : Nat) (v2 : Int32) (h : aH) (hf : fX11_begins_10 v0 v2 h = some z) : Ev (d + 5) none mX11_begins (0, 0) 10 [.ref v0, .null, .int v2] [] h (QZ z) := 
  go_ok (X := none) (blk := wX11_begins_10) (np := 14) (tt := 23) (kN := fun xs h st => app [2, 0, 0] (fun v0 => apS [] (fX11_begins_14 v0 h) st) xs) (kT := fun xs h st => app [2, 0, 0] (fun v0 => apS [] (fX11_begins_23 v0 h) st) xs) (kR := kRZ)
    (fun xs h st q => jm [2, 0, 0] _ (fun v0 q => apS_ok [] _ (fun st => Ev (d + 5) none mX11_begins (0, 0) 14 [.ref v0, .null, .null] st h (QZ z)) st (fun q => tX11_begins_14 v0 h q) q) q)
    (fun xs h st q => jm [2, 0, 0] _ (fun v0 q => apS_ok [] _ (fun st => Ev (d + 5) none mX11_begins (0, 0) 23 [.ref v0, .null, .null] st h (QZ z)) st (fun q => tX11_begins_23 v0 h q) q) q)
    kRZ_ok (Or.inr rfl) (by decide +kernel) (by decide +kernel) hf
def wX11_begins_8 : List En := [(.iconst 0, 0, 0, 0), (.ireturn, 0, 0, 0)]
def fX11_begins_8 (h : aH) : Option (Int32 × aH) :=
  if (kI 0) = 0 ∨ (kI 0) = 1 then some ((kI 0), h) else none
theorem tX11_begins_8 {d : Nat} {z : Int32 × aH} (h : aH) (hf : fX11_begins_8 h = some z) : Ev (d + 5) none mX11_begins (0, 0) 8 [.null, .null, .null] [] h (QZ z) := 
  go_ok (X := none) (blk := wX11_begins_8) (np := 10) (tt := 0) (kN := fun _ _ _ => none) (kT := fun _ _ _ => none) (kR := kRZ)
    (fun _ _ _ q => nos q)
    (fun _ _ _ q => nos q)
    kRZ_ok (Or.inr rfl) (by decide +kernel) (by decide +kernel) hf
def wX11_begins_5 : List En := [(.ifCond .ne 5, 10, 0, 0)]
def fX11_begins_5 (v0 : Nat) (v2 : Int32) (s0 : Int32) (h : aH) : Option (Int32 × aH) :=
  if s0 = 0 then fX11_begins_8 h else fX11_begins_10 v0 v2 h
theorem tX11_begins_5 {d : Nat} {z : Int32 × aH} (v0 : Nat) (v2 : Int32) (s0 : Int32) (h : aH) (hf : fX11_begins_5 v0 v2 s0 h = some z) : Ev (d + 5) none mX11_begins (0, 0) 5 [.ref v0, .null, .int v2] [.int s0] h (QZ z) := 
  go_ok (X := none) (blk := wX11_begins_5) (np := 8) (tt := 10) (kN := fun xs h st => app [0, 0, 0] (apS [] (fX11_begins_8 h) st) xs) (kT := fun xs h st => app [2, 0, 1] (fun v0 v2 => apS [] (fX11_begins_10 v0 v2 h) st) xs) (kR := kRZ)
    (fun xs h st q => jm [0, 0, 0] _ (fun q => apS_ok [] _ (fun st => Ev (d + 5) none mX11_begins (0, 0) 8 [.null, .null, .null] st h (QZ z)) st (fun q => tX11_begins_8 h q) q) q)
    (fun xs h st q => jm [2, 0, 1] _ (fun v0 v2 q => apS_ok [] _ (fun st => Ev (d + 5) none mX11_begins (0, 0) 10 [.ref v0, .null, .int v2] st h (QZ z)) st (fun q => tX11_begins_10 v0 v2 h q) q) q)
    kRZ_ok (Or.inr rfl) (by decide +kernel) (by decide +kernel) hf
theorem kqX11_begins_2 : okC mX11_begins 2 (.invokevirtual 108) 189 204 0 1 = true := by decide +kernel
def fX11_begins_2 (v0 : Nat) (v2 : Int32) (s0 : Nat) (s1 : Nat) (h : aH) : Option (Int32 × aH) :=
  (isO h 11 s1).bind fun _ =>
  (gX11_isWord s1 s0 h).bind fun r =>
  fX11_begins_5 v0 v2 r.1 r.2
theorem tX11_begins_2 {d : Nat} {z : Int32 × aH} (v0 : Nat) (v2 : Int32) (s0 : Nat) (s1 : Nat) (h : aH) (hf : fX11_begins_2 v0 v2 s0 s1 h = some z) : Ev (d + 5) none mX11_begins (0, 0) 2 [.ref v0, .null, .int v2] [.ref s0, .ref s1] h (QZ z) := by
  obtain ⟨_, h1, hf⟩ := bnd hf
  obtain ⟨fs, ho⟩ := isO_ok h1
  obtain ⟨r, h2, hf⟩ := bnd hf
  refine ev_V kqX11_begins_2 jX11_isWord (zX11_isWord (d := d + 0) h2) ho rfl rfl (Nat.le_of_ble_eq_true rfl) rfl (as := [.ref s0]) (rest := []) rfl (Nat.le_of_ble_eq_true rfl) (fun _ _ hq => ?_)
  obtain ⟨-, rfl, rfl⟩ := hq
  exact jm [2, 0, 1] (fun v0 v2 => fX11_begins_5 v0 v2 r.1 r.2) (fun v0 v2 q => tX11_begins_5 v0 v2 r.1 r.2 q) hf
def wX11_begins_0 : List En := [(.aload_n 0, 0, 0, 0), (.aload_n 1, 0, 0, 0)]
def fX11_begins_0 (v0 : Nat) (v1 : Nat) (v2 : Int32) (h : aH) : Option (Int32 × aH) :=
  fX11_begins_2 v0 v2 v1 v0 h
theorem tX11_begins_0 {d : Nat} {z : Int32 × aH} (v0 : Nat) (v1 : Nat) (v2 : Int32) (h : aH) (hf : fX11_begins_0 v0 v1 v2 h = some z) : Ev (d + 5) none mX11_begins (0, 0) 0 [.ref v0, .ref v1, .int v2] [] h (QZ z) := 
  go_ok (X := none) (blk := wX11_begins_0) (np := 2) (tt := 0) (kN := fun xs h st => app [2, 0, 1] (fun v0 v2 => apS [2, 2] (fun s0 s1 => fX11_begins_2 v0 v2 s0 s1 h) st) xs) (kT := fun _ _ _ => none) (kR := kRZ)
    (fun xs h st q => jm [2, 0, 1] _ (fun v0 v2 q => apS_ok [2, 2] _ (fun st => Ev (d + 5) none mX11_begins (0, 0) 2 [.ref v0, .null, .int v2] st h (QZ z)) st (fun s0 s1 q => tX11_begins_2 v0 v2 s0 s1 h q) q) q)
    (fun _ _ _ q => nos q)
    kRZ_ok (Or.inr rfl) (by decide +kernel) (by decide +kernel) hf
def gX11_begins (v0 : Nat) (v1 : Nat) (v2 : Int32) (h : aH) : Option (Int32 × aH) := fX11_begins_0 v0 v1 v2 h
theorem zX11_begins {d : Nat} {z : Int32 × aH} {v0 : Nat} {v1 : Nat} {v2 : Int32} {h : aH} (q : gX11_begins v0 v1 v2 h = some z) : CT (d + 5) mX11_begins (0, 0) [.ref v0, .ref v1, .int v2] h (QZ z) :=
  ct_ev (by decide +kernel) (Nat.le_of_ble_eq_true rfl) QZ_r (jm [2, 2, 1] (fun v0 v1 v2 => fX11_begins_0 v0 v1 v2 h) (fun v0 v1 v2 q => tX11_begins_0 v0 v1 v2 h q) q)
def wX11_takesWord_14 : List En := [(.iconst 1, 0, 0, 0), (.ireturn, 0, 0, 0)]
def fX11_takesWord_14 (h : aH) : Option (Int32 × aH) :=
  if (kI 1) = 0 ∨ (kI 1) = 1 then some ((kI 1), h) else none
theorem tX11_takesWord_14 {d : Nat} {z : Int32 × aH} (h : aH) (hf : fX11_takesWord_14 h = some z) : Ev (d + 5) none mX11_takesWord (0, 0) 14 [.null, .null] [] h (QZ z) := 
  go_ok (X := none) (blk := wX11_takesWord_14) (np := 16) (tt := 0) (kN := fun _ _ _ => none) (kT := fun _ _ _ => none) (kR := kRZ)
    (fun _ _ _ q => nos q)
    (fun _ _ _ q => nos q)
    kRZ_ok (Or.inr rfl) (by decide +kernel) (by decide +kernel) hf
theorem kqX11_takesWord_11 : okC mX11_takesWord 11 (.invokevirtual 112) 184 199 0 0 = true := by decide +kernel
def fX11_takesWord_11 (s0 : Nat) (h : aH) : Option (Int32 × aH) :=
  (isO h 11 s0).bind fun _ =>
  (gX11_next s0 h).bind fun r =>
  fX11_takesWord_14 r
theorem tX11_takesWord_11 {d : Nat} {z : Int32 × aH} (s0 : Nat) (h : aH) (hf : fX11_takesWord_11 s0 h = some z) : Ev (d + 5) none mX11_takesWord (0, 0) 11 [.null, .null] [.ref s0] h (QZ z) := by
  obtain ⟨_, h1, hf⟩ := bnd hf
  obtain ⟨fs, ho⟩ := isO_ok h1
  obtain ⟨r, h2, hf⟩ := bnd hf
  refine ev_V kqX11_takesWord_11 jX11_next (zX11_next (d := d + 3) h2) ho rfl rfl (Nat.le_of_ble_eq_true rfl) rfl (as := []) (rest := []) rfl (Nat.le_of_ble_eq_true rfl) (fun _ _ hq => ?_)
  obtain ⟨rfl, hh⟩ := hq
  rw [hh]
  exact jm [0, 0] (fX11_takesWord_14 r) (fun q => tX11_takesWord_14 r q) hf
def wX11_takesWord_10 : List En := [(.aload_n 0, 0, 0, 0)]
def fX11_takesWord_10 (v0 : Nat) (h : aH) : Option (Int32 × aH) :=
  fX11_takesWord_11 v0 h
theorem tX11_takesWord_10 {d : Nat} {z : Int32 × aH} (v0 : Nat) (h : aH) (hf : fX11_takesWord_10 v0 h = some z) : Ev (d + 5) none mX11_takesWord (0, 0) 10 [.ref v0, .null] [] h (QZ z) := 
  go_ok (X := none) (blk := wX11_takesWord_10) (np := 11) (tt := 0) (kN := fun xs h st => app [0, 0] (apS [2] (fun s0 => fX11_takesWord_11 s0 h) st) xs) (kT := fun _ _ _ => none) (kR := kRZ)
    (fun xs h st q => jm [0, 0] _ (fun q => apS_ok [2] _ (fun st => Ev (d + 5) none mX11_takesWord (0, 0) 11 [.null, .null] st h (QZ z)) st (fun s0 q => tX11_takesWord_11 s0 h q) q) q)
    (fun _ _ _ q => nos q)
    kRZ_ok (Or.inr rfl) (by decide +kernel) (by decide +kernel) hf
def wX11_takesWord_8 : List En := [(.iconst 0, 0, 0, 0), (.ireturn, 0, 0, 0)]
def fX11_takesWord_8 (h : aH) : Option (Int32 × aH) :=
  if (kI 0) = 0 ∨ (kI 0) = 1 then some ((kI 0), h) else none
theorem tX11_takesWord_8 {d : Nat} {z : Int32 × aH} (h : aH) (hf : fX11_takesWord_8 h = some z) : Ev (d + 5) none mX11_takesWord (0, 0) 8 [.null, .null] [] h (QZ z) := 
  go_ok (X := none) (blk := wX11_takesWord_8) (np := 10) (tt := 0) (kN := fun _ _ _ => none) (kT := fun _ _ _ => none) (kR := kRZ)
    (fun _ _ _ q => nos q)
    (fun _ _ _ q => nos q)
    kRZ_ok (Or.inr rfl) (by decide +kernel) (by decide +kernel) hf
def wX11_takesWord_5 : List En := [(.ifCond .ne 5, 10, 0, 0)]
def fX11_takesWord_5 (v0 : Nat) (s0 : Int32) (h : aH) : Option (Int32 × aH) :=
  if s0 = 0 then fX11_takesWord_8 h else fX11_takesWord_10 v0 h
theorem tX11_takesWord_5 {d : Nat} {z : Int32 × aH} (v0 : Nat) (s0 : Int32) (h : aH) (hf : fX11_takesWord_5 v0 s0 h = some z) : Ev (d + 5) none mX11_takesWord (0, 0) 5 [.ref v0, .null] [.int s0] h (QZ z) := 
  go_ok (X := none) (blk := wX11_takesWord_5) (np := 8) (tt := 10) (kN := fun xs h st => app [0, 0] (apS [] (fX11_takesWord_8 h) st) xs) (kT := fun xs h st => app [2, 0] (fun v0 => apS [] (fX11_takesWord_10 v0 h) st) xs) (kR := kRZ)
    (fun xs h st q => jm [0, 0] _ (fun q => apS_ok [] _ (fun st => Ev (d + 5) none mX11_takesWord (0, 0) 8 [.null, .null] st h (QZ z)) st (fun q => tX11_takesWord_8 h q) q) q)
    (fun xs h st q => jm [2, 0] _ (fun v0 q => apS_ok [] _ (fun st => Ev (d + 5) none mX11_takesWord (0, 0) 10 [.ref v0, .null] st h (QZ z)) st (fun q => tX11_takesWord_10 v0 h q) q) q)
    kRZ_ok (Or.inr rfl) (by decide +kernel) (by decide +kernel) hf
theorem kqX11_takesWord_2 : okC mX11_takesWord 2 (.invokevirtual 108) 189 204 0 1 = true := by decide +kernel
def fX11_takesWord_2 (v0 : Nat) (s0 : Nat) (s1 : Nat) (h : aH) : Option (Int32 × aH) :=
  (isO h 11 s1).bind fun _ =>
  (gX11_isWord s1 s0 h).bind fun r =>
  fX11_takesWord_5 v0 r.1 r.2
theorem tX11_takesWord_2 {d : Nat} {z : Int32 × aH} (v0 : Nat) (s0 : Nat) (s1 : Nat) (h : aH) (hf : fX11_takesWord_2 v0 s0 s1 h = some z) : Ev (d + 5) none mX11_takesWord (0, 0) 2 [.ref v0, .null] [.ref s0, .ref s1] h (QZ z) := by
  obtain ⟨_, h1, hf⟩ := bnd hf
  obtain ⟨fs, ho⟩ := isO_ok h1
  obtain ⟨r, h2, hf⟩ := bnd hf
  refine ev_V kqX11_takesWord_2 jX11_isWord (zX11_isWord (d := d + 0) h2) ho rfl rfl (Nat.le_of_ble_eq_true rfl) rfl (as := [.ref s0]) (rest := []) rfl (Nat.le_of_ble_eq_true rfl) (fun _ _ hq => ?_)
  obtain ⟨-, rfl, rfl⟩ := hq
  exact jm [2, 0] (fun v0 => fX11_takesWord_5 v0 r.1 r.2) (fun v0 q => tX11_takesWord_5 v0 r.1 r.2 q) hf
def wX11_takesWord_0 : List En := [(.aload_n 0, 0, 0, 0), (.aload_n 1, 0, 0, 0)]
def fX11_takesWord_0 (v0 : Nat) (v1 : Nat) (h : aH) : Option (Int32 × aH) :=
  fX11_takesWord_2 v0 v1 v0 h
theorem tX11_takesWord_0 {d : Nat} {z : Int32 × aH} (v0 : Nat) (v1 : Nat) (h : aH) (hf : fX11_takesWord_0 v0 v1 h = some z) : Ev (d + 5) none mX11_takesWord (0, 0) 0 [.ref v0, .ref v1] [] h (QZ z) := 
  go_ok (X := none) (blk := wX11_takesWord_0) (np := 2) (tt := 0) (kN := fun xs h st => app [2, 0] (fun v0 => apS [2, 2] (fun s0 s1 => fX11_takesWord_2 v0 s0 s1 h) st) xs) (kT := fun _ _ _ => none) (kR := kRZ)
    (fun xs h st q => jm [2, 0] _ (fun v0 q => apS_ok [2, 2] _ (fun st => Ev (d + 5) none mX11_takesWord (0, 0) 2 [.ref v0, .null] st h (QZ z)) st (fun s0 s1 q => tX11_takesWord_2 v0 s0 s1 h q) q) q)
    (fun _ _ _ q => nos q)
    kRZ_ok (Or.inr rfl) (by decide +kernel) (by decide +kernel) hf
def gX11_takesWord (v0 : Nat) (v1 : Nat) (h : aH) : Option (Int32 × aH) := fX11_takesWord_0 v0 v1 h
theorem zX11_takesWord {d : Nat} {z : Int32 × aH} {v0 : Nat} {v1 : Nat} {h : aH} (q : gX11_takesWord v0 v1 h = some z) : CT (d + 5) mX11_takesWord (0, 0) [.ref v0, .ref v1] h (QZ z) :=
  ct_ev (by decide +kernel) (Nat.le_of_ble_eq_true rfl) QZ_r (jm [2, 2] (fun v0 v1 => fX11_takesWord_0 v0 v1 h) (fun v0 v1 q => tX11_takesWord_0 v0 v1 h q) q)
def wX11_must_24 : List En := [(.return_, 0, 0, 0)]
def fX11_must_24 (h : aH) : Option (aH) :=
  some h
theorem tX11_must_24 {d : Nat} {z : aH} (h : aH) (hf : fX11_must_24 h = some z) : Ev (d + 6) none mX11_must (0, 0) 24 [.null, .null] [] h (QV z) := 
  go_ok (X := none) (blk := wX11_must_24) (np := 25) (tt := 0) (kN := fun _ _ _ => none) (kT := fun _ _ _ => none) (kR := kRV)
    (fun _ _ _ q => nos q)
    (fun _ _ _ q => nos q)
    kRV_ok (Or.inr rfl) (by decide +kernel) (by decide +kernel) hf
theorem kqX11_must_21 : okC mX11_must 21 (.invokevirtual 118) 191 208 0 2 = true := by decide +kernel
def fX11_must_21 (s0 : Int32) (s1 : Int32) (s2 : Nat) (h : aH) : Option (aH) :=
  (isO h 11 s2).bind fun _ =>
  (gX11_wrong s2 s1 s0 h).bind fun r =>
  fX11_must_24 r
theorem tX11_must_21 {d : Nat} {z : aH} (s0 : Int32) (s1 : Int32) (s2 : Nat) (h : aH) (hf : fX11_must_21 s0 s1 s2 h = some z) : Ev (d + 6) none mX11_must (0, 0) 21 [.null, .null] [.int s0, .int s1, .ref s2] h (QV z) := by
  obtain ⟨_, h1, hf⟩ := bnd hf
  obtain ⟨fs, ho⟩ := isO_ok h1
  obtain ⟨r, h2, hf⟩ := bnd hf
  refine ev_V kqX11_must_21 jX11_wrong (zX11_wrong (d := d + 5) h2) ho rfl rfl (Nat.le_of_ble_eq_true rfl) rfl (as := [.int s1, .int s0]) (rest := []) rfl (Nat.le_of_ble_eq_true rfl) (fun _ _ hq => ?_)
  obtain ⟨rfl, hh⟩ := hq
  rw [hh]
  exact jm [0, 0] (fX11_must_24 r) (fun q => tX11_must_24 r q) hf
def wX11_must_15 : List En := [(.aload_n 0, 0, 0, 0), (.iconst 1, 0, 0, 0), (.aload_n 0, 0, 0, 0), (.getfield 72, 179, 11, 4)]
def fX11_must_15 (v0 : Nat) (h : aH) : Option (aH) :=
  (gFI h 11 v0 4).bind fun t1 =>
  fX11_must_21 t1 (kI 1) v0 h
theorem tX11_must_15 {d : Nat} {z : aH} (v0 : Nat) (h : aH) (hf : fX11_must_15 v0 h = some z) : Ev (d + 6) none mX11_must (0, 0) 15 [.ref v0, .null] [] h (QV z) := 
  go_ok (X := none) (blk := wX11_must_15) (np := 21) (tt := 0) (kN := fun xs h st => app [0, 0] (apS [1, 1, 2] (fun s0 s1 s2 => fX11_must_21 s0 s1 s2 h) st) xs) (kT := fun _ _ _ => none) (kR := kRV)
    (fun xs h st q => jm [0, 0] _ (fun q => apS_ok [1, 1, 2] _ (fun st => Ev (d + 6) none mX11_must (0, 0) 21 [.null, .null] st h (QV z)) st (fun s0 s1 s2 q => tX11_must_21 s0 s1 s2 h q) q) q)
    (fun _ _ _ q => nos q)
    kRV_ok (Or.inr rfl) (by decide +kernel) (by decide +kernel) hf
def wX11_must_12 : List En := [(.ifCond .ne 12, 24, 0, 0)]
def fX11_must_12 (v0 : Nat) (s0 : Int32) (h : aH) : Option (aH) :=
  if s0 = 0 then fX11_must_15 v0 h else fX11_must_24 h
theorem tX11_must_12 {d : Nat} {z : aH} (v0 : Nat) (s0 : Int32) (h : aH) (hf : fX11_must_12 v0 s0 h = some z) : Ev (d + 6) none mX11_must (0, 0) 12 [.ref v0, .null] [.int s0] h (QV z) := 
  go_ok (X := none) (blk := wX11_must_12) (np := 15) (tt := 24) (kN := fun xs h st => app [2, 0] (fun v0 => apS [] (fX11_must_15 v0 h) st) xs) (kT := fun xs h st => app [0, 0] (apS [] (fX11_must_24 h) st) xs) (kR := kRV)
    (fun xs h st q => jm [2, 0] _ (fun v0 q => apS_ok [] _ (fun st => Ev (d + 6) none mX11_must (0, 0) 15 [.ref v0, .null] st h (QV z)) st (fun q => tX11_must_15 v0 h q) q) q)
    (fun xs h st q => jm [0, 0] _ (fun q => apS_ok [] _ (fun st => Ev (d + 6) none mX11_must (0, 0) 24 [.null, .null] st h (QV z)) st (fun q => tX11_must_24 h q) q) q)
    kRV_ok (Or.inr rfl) (by decide +kernel) (by decide +kernel) hf
theorem kqX11_must_9 : okC mX11_must 9 (.invokevirtual 115) 194 211 0 1 = true := by decide +kernel
def fX11_must_9 (v0 : Nat) (s0 : Nat) (s1 : Nat) (h : aH) : Option (aH) :=
  (isO h 11 s1).bind fun _ =>
  (gX11_takesWord s1 s0 h).bind fun r =>
  fX11_must_12 v0 r.1 r.2
theorem tX11_must_9 {d : Nat} {z : aH} (v0 : Nat) (s0 : Nat) (s1 : Nat) (h : aH) (hf : fX11_must_9 v0 s0 s1 h = some z) : Ev (d + 6) none mX11_must (0, 0) 9 [.ref v0, .null] [.ref s0, .ref s1] h (QV z) := by
  obtain ⟨_, h1, hf⟩ := bnd hf
  obtain ⟨fs, ho⟩ := isO_ok h1
  obtain ⟨r, h2, hf⟩ := bnd hf
  refine ev_V kqX11_must_9 jX11_takesWord (zX11_takesWord (d := d + 0) h2) ho rfl rfl (Nat.le_of_ble_eq_true rfl) rfl (as := [.ref s0]) (rest := []) rfl (Nat.le_of_ble_eq_true rfl) (fun _ _ hq => ?_)
  obtain ⟨-, rfl, rfl⟩ := hq
  exact jm [2, 0] (fun v0 => fX11_must_12 v0 r.1 r.2) (fun v0 q => tX11_must_12 v0 r.1 r.2 q) hf
def wX11_must_7 : List En := [(.aload_n 0, 0, 0, 0), (.aload_n 1, 0, 0, 0)]
def fX11_must_7 (v0 : Nat) (v1 : Nat) (h : aH) : Option (aH) :=
  fX11_must_9 v0 v1 v0 h
theorem tX11_must_7 {d : Nat} {z : aH} (v0 : Nat) (v1 : Nat) (h : aH) (hf : fX11_must_7 v0 v1 h = some z) : Ev (d + 6) none mX11_must (0, 0) 7 [.ref v0, .ref v1] [] h (QV z) := 
  go_ok (X := none) (blk := wX11_must_7) (np := 9) (tt := 0) (kN := fun xs h st => app [2, 0] (fun v0 => apS [2, 2] (fun s0 s1 => fX11_must_9 v0 s0 s1 h) st) xs) (kT := fun _ _ _ => none) (kR := kRV)
    (fun xs h st q => jm [2, 0] _ (fun v0 q => apS_ok [2, 2] _ (fun st => Ev (d + 6) none mX11_must (0, 0) 9 [.ref v0, .null] st h (QV z)) st (fun s0 s1 q => tX11_must_9 v0 s0 s1 h q) q) q)
    (fun _ _ _ q => nos q)
    kRV_ok (Or.inr rfl) (by decide +kernel) (by decide +kernel) hf
def wX11_must_0 : List En := [(.aload_n 0, 0, 0, 0), (.getfield 91, 188, 11, 13), (.ifCond .ne 20, 24, 0, 0)]
def fX11_must_0 (v0 : Nat) (v1 : Nat) (h : aH) : Option (aH) :=
  (gFI h 11 v0 13).bind fun t1 =>
  if t1 = 0 then fX11_must_7 v0 v1 h else fX11_must_24 h
theorem tX11_must_0 {d : Nat} {z : aH} (v0 : Nat) (v1 : Nat) (h : aH) (hf : fX11_must_0 v0 v1 h = some z) : Ev (d + 6) none mX11_must (0, 0) 0 [.ref v0, .ref v1] [] h (QV z) := 
  go_ok (X := none) (blk := wX11_must_0) (np := 7) (tt := 24) (kN := fun xs h st => app [2, 2] (fun v0 v1 => apS [] (fX11_must_7 v0 v1 h) st) xs) (kT := fun xs h st => app [0, 0] (apS [] (fX11_must_24 h) st) xs) (kR := kRV)
    (fun xs h st q => jm [2, 2] _ (fun v0 v1 q => apS_ok [] _ (fun st => Ev (d + 6) none mX11_must (0, 0) 7 [.ref v0, .ref v1] st h (QV z)) st (fun q => tX11_must_7 v0 v1 h q) q) q)
    (fun xs h st q => jm [0, 0] _ (fun q => apS_ok [] _ (fun st => Ev (d + 6) none mX11_must (0, 0) 24 [.null, .null] st h (QV z)) st (fun q => tX11_must_24 h q) q) q)
    kRV_ok (Or.inr rfl) (by decide +kernel) (by decide +kernel) hf
def gX11_must (v0 : Nat) (v1 : Nat) (h : aH) : Option (aH) := fX11_must_0 v0 v1 h
theorem zX11_must {d : Nat} {z : aH} {v0 : Nat} {v1 : Nat} {h : aH} (q : gX11_must v0 v1 h = some z) : CT (d + 6) mX11_must (0, 0) [.ref v0, .ref v1] h (QV z) :=
  ct_ev (by decide +kernel) (Nat.le_of_ble_eq_true rfl) QV_r (jm [2, 2] (fun v0 v1 => fX11_must_0 v0 v1 h) (fun v0 v1 q => tX11_must_0 v0 v1 h q) q)
def wX11_mustName_71 : List En := [(.return_, 0, 0, 0)]
def fX11_mustName_71 (h : aH) : Option (aH) :=
  some h
theorem tX11_mustName_71 {d : Nat} {z : aH} (h : aH) (hf : fX11_mustName_71 h = some z) : Ev (d + 5) none mX11_mustName (0, 0) 71 [.null] [] h (QV z) := 
  go_ok (X := none) (blk := wX11_mustName_71) (np := 72) (tt := 0) (kN := fun _ _ _ => none) (kT := fun _ _ _ => none) (kR := kRV)
    (fun _ _ _ q => nos q)
    (fun _ _ _ q => nos q)
    kRV_ok (Or.inr rfl) (by decide +kernel) (by decide +kernel) hf
theorem kqX11_mustName_68 : okC mX11_mustName 68 (.invokevirtual 118) 191 208 0 2 = true := by decide +kernel
def fX11_mustName_68 (s0 : Int32) (s1 : Int32) (s2 : Nat) (h : aH) : Option (aH) :=
  (isO h 11 s2).bind fun _ =>
  (gX11_wrong s2 s1 s0 h).bind fun r =>
  fX11_mustName_71 r
theorem tX11_mustName_68 {d : Nat} {z : aH} (s0 : Int32) (s1 : Int32) (s2 : Nat) (h : aH) (hf : fX11_mustName_68 s0 s1 s2 h = some z) : Ev (d + 5) none mX11_mustName (0, 0) 68 [.null] [.int s0, .int s1, .ref s2] h (QV z) := by
  obtain ⟨_, h1, hf⟩ := bnd hf
  obtain ⟨fs, ho⟩ := isO_ok h1
  obtain ⟨r, h2, hf⟩ := bnd hf
  refine ev_V kqX11_mustName_68 jX11_wrong (zX11_wrong (d := d + 4) h2) ho rfl rfl (Nat.le_of_ble_eq_true rfl) rfl (as := [.int s1, .int s0]) (rest := []) rfl (Nat.le_of_ble_eq_true rfl) (fun _ _ hq => ?_)
  obtain ⟨rfl, hh⟩ := hq
  rw [hh]
  exact jm [0] (fX11_mustName_71 r) (fun q => tX11_mustName_71 r q) hf
def wX11_mustName_62 : List En := [(.aload_n 0, 0, 0, 0), (.iconst 1, 0, 0, 0), (.aload_n 0, 0, 0, 0), (.getfield 72, 179, 11, 4)]
def fX11_mustName_62 (v0 : Nat) (h : aH) : Option (aH) :=
  (gFI h 11 v0 4).bind fun t1 =>
  fX11_mustName_68 t1 (kI 1) v0 h
theorem tX11_mustName_62 {d : Nat} {z : aH} (v0 : Nat) (h : aH) (hf : fX11_mustName_62 v0 h = some z) : Ev (d + 5) none mX11_mustName (0, 0) 62 [.ref v0] [] h (QV z) := 
  go_ok (X := none) (blk := wX11_mustName_62) (np := 68) (tt := 0) (kN := fun xs h st => app [0] (apS [1, 1, 2] (fun s0 s1 s2 => fX11_mustName_68 s0 s1 s2 h) st) xs) (kT := fun _ _ _ => none) (kR := kRV)
    (fun xs h st q => jm [0] _ (fun q => apS_ok [1, 1, 2] _ (fun st => Ev (d + 5) none mX11_mustName (0, 0) 68 [.null] st h (QV z)) st (fun s0 s1 s2 q => tX11_mustName_68 s0 s1 s2 h q) q) q)
    (fun _ _ _ q => nos q)
    kRV_ok (Or.inr rfl) (by decide +kernel) (by decide +kernel) hf
def wX11_mustName_59 : List En := [(.ifCond .eq 12, 71, 0, 0)]
def fX11_mustName_59 (v0 : Nat) (s0 : Int32) (h : aH) : Option (aH) :=
  if s0 = 0 then fX11_mustName_71 h else fX11_mustName_62 v0 h
theorem tX11_mustName_59 {d : Nat} {z : aH} (v0 : Nat) (s0 : Int32) (h : aH) (hf : fX11_mustName_59 v0 s0 h = some z) : Ev (d + 5) none mX11_mustName (0, 0) 59 [.ref v0] [.int s0] h (QV z) := 
  go_ok (X := none) (blk := wX11_mustName_59) (np := 62) (tt := 71) (kN := fun xs h st => app [2] (fun v0 => apS [] (fX11_mustName_62 v0 h) st) xs) (kT := fun xs h st => app [0] (apS [] (fX11_mustName_71 h) st) xs) (kR := kRV)
    (fun xs h st q => jm [2] _ (fun v0 q => apS_ok [] _ (fun st => Ev (d + 5) none mX11_mustName (0, 0) 62 [.ref v0] st h (QV z)) st (fun q => tX11_mustName_62 v0 h q) q) q)
    (fun xs h st q => jm [0] _ (fun q => apS_ok [] _ (fun st => Ev (d + 5) none mX11_mustName (0, 0) 71 [.null] st h (QV z)) st (fun q => tX11_mustName_71 h q) q) q)
    kRV_ok (Or.inr rfl) (by decide +kernel) (by decide +kernel) hf
theorem kqX11_mustName_56 : okC mX11_mustName 56 (.invokevirtual 108) 189 204 0 1 = true := by decide +kernel
def fX11_mustName_56 (v0 : Nat) (s0 : Nat) (s1 : Nat) (h : aH) : Option (aH) :=
  (isO h 11 s1).bind fun _ =>
  (gX11_isWord s1 s0 h).bind fun r =>
  fX11_mustName_59 v0 r.1 r.2
theorem tX11_mustName_56 {d : Nat} {z : aH} (v0 : Nat) (s0 : Nat) (s1 : Nat) (h : aH) (hf : fX11_mustName_56 v0 s0 s1 h = some z) : Ev (d + 5) none mX11_mustName (0, 0) 56 [.ref v0] [.ref s0, .ref s1] h (QV z) := by
  obtain ⟨_, h1, hf⟩ := bnd hf
  obtain ⟨fs, ho⟩ := isO_ok h1
  obtain ⟨r, h2, hf⟩ := bnd hf
  refine ev_V kqX11_mustName_56 jX11_isWord (zX11_isWord (d := d + 0) h2) ho rfl rfl (Nat.le_of_ble_eq_true rfl) rfl (as := [.ref s0]) (rest := []) rfl (Nat.le_of_ble_eq_true rfl) (fun _ _ hq => ?_)
  obtain ⟨-, rfl, rfl⟩ := hq
  exact jm [2] (fun v0 => fX11_mustName_59 v0 r.1 r.2) (fun v0 q => tX11_mustName_59 v0 r.1 r.2 q) hf
theorem kqX11_mustName_54 : ckS mX11_mustName 54 132 25 = true := by decide +kernel -- heard
def fX11_mustName_54 (v0 : Nat) (s0 : Nat) (h : aH) : Option (aH) :=
  fX11_mustName_56 v0 (SB + 25) s0 h
theorem tX11_mustName_54 {d : Nat} {z : aH} (v0 : Nat) (s0 : Nat) (h : aH) (hf : fX11_mustName_54 v0 s0 h = some z) : Ev (d + 5) none mX11_mustName (0, 0) 54 [.ref v0] [.ref s0] h (QV z) := 
  ev_ldcS kqX11_mustName_54 rfl (jm [2] (fun v0 => fX11_mustName_56 v0 (SB + 25) s0 h) (fun v0 q => tX11_mustName_56 v0 (SB + 25) s0 h q) hf)
def wX11_mustName_53 : List En := [(.aload_n 0, 0, 0, 0)]
def fX11_mustName_53 (v0 : Nat) (h : aH) : Option (aH) :=
  fX11_mustName_54 v0 v0 h
theorem tX11_mustName_53 {d : Nat} {z : aH} (v0 : Nat) (h : aH) (hf : fX11_mustName_53 v0 h = some z) : Ev (d + 5) none mX11_mustName (0, 0) 53 [.ref v0] [] h (QV z) := 
  go_ok (X := none) (blk := wX11_mustName_53) (np := 54) (tt := 0) (kN := fun xs h st => app [2] (fun v0 => apS [2] (fun s0 => fX11_mustName_54 v0 s0 h) st) xs) (kT := fun _ _ _ => none) (kR := kRV)
    (fun xs h st q => jm [2] _ (fun v0 q => apS_ok [2] _ (fun st => Ev (d + 5) none mX11_mustName (0, 0) 54 [.ref v0] st h (QV z)) st (fun s0 q => tX11_mustName_54 v0 s0 h q) q) q)
    (fun _ _ _ q => nos q)
    kRV_ok (Or.inr rfl) (by decide +kernel) (by decide +kernel) hf
def wX11_mustName_50 : List En := [(.ifCond .ne 12, 62, 0, 0)]
def fX11_mustName_50 (v0 : Nat) (s0 : Int32) (h : aH) : Option (aH) :=
  if s0 = 0 then fX11_mustName_53 v0 h else fX11_mustName_62 v0 h
theorem tX11_mustName_50 {d : Nat} {z : aH} (v0 : Nat) (s0 : Int32) (h : aH) (hf : fX11_mustName_50 v0 s0 h = some z) : Ev (d + 5) none mX11_mustName (0, 0) 50 [.ref v0] [.int s0] h (QV z) := 
  go_ok (X := none) (blk := wX11_mustName_50) (np := 53) (tt := 62) (kN := fun xs h st => app [2] (fun v0 => apS [] (fX11_mustName_53 v0 h) st) xs) (kT := fun xs h st => app [2] (fun v0 => apS [] (fX11_mustName_62 v0 h) st) xs) (kR := kRV)
    (fun xs h st q => jm [2] _ (fun v0 q => apS_ok [] _ (fun st => Ev (d + 5) none mX11_mustName (0, 0) 53 [.ref v0] st h (QV z)) st (fun q => tX11_mustName_53 v0 h q) q) q)
    (fun xs h st q => jm [2] _ (fun v0 q => apS_ok [] _ (fun st => Ev (d + 5) none mX11_mustName (0, 0) 62 [.ref v0] st h (QV z)) st (fun q => tX11_mustName_62 v0 h q) q) q)
    kRV_ok (Or.inr rfl) (by decide +kernel) (by decide +kernel) hf
theorem kqX11_mustName_47 : okC mX11_mustName 47 (.invokevirtual 108) 189 204 0 1 = true := by decide +kernel
def fX11_mustName_47 (v0 : Nat) (s0 : Nat) (s1 : Nat) (h : aH) : Option (aH) :=
  (isO h 11 s1).bind fun _ =>
  (gX11_isWord s1 s0 h).bind fun r =>
  fX11_mustName_50 v0 r.1 r.2
theorem tX11_mustName_47 {d : Nat} {z : aH} (v0 : Nat) (s0 : Nat) (s1 : Nat) (h : aH) (hf : fX11_mustName_47 v0 s0 s1 h = some z) : Ev (d + 5) none mX11_mustName (0, 0) 47 [.ref v0] [.ref s0, .ref s1] h (QV z) := by
  obtain ⟨_, h1, hf⟩ := bnd hf
  obtain ⟨fs, ho⟩ := isO_ok h1
  obtain ⟨r, h2, hf⟩ := bnd hf
  refine ev_V kqX11_mustName_47 jX11_isWord (zX11_isWord (d := d + 0) h2) ho rfl rfl (Nat.le_of_ble_eq_true rfl) rfl (as := [.ref s0]) (rest := []) rfl (Nat.le_of_ble_eq_true rfl) (fun _ _ hq => ?_)
  obtain ⟨-, rfl, rfl⟩ := hq
  exact jm [2] (fun v0 => fX11_mustName_50 v0 r.1 r.2) (fun v0 q => tX11_mustName_50 v0 r.1 r.2 q) hf
theorem kqX11_mustName_45 : ckS mX11_mustName 45 130 24 = true := by decide +kernel -- unsure
def fX11_mustName_45 (v0 : Nat) (s0 : Nat) (h : aH) : Option (aH) :=
  fX11_mustName_47 v0 (SB + 24) s0 h
theorem tX11_mustName_45 {d : Nat} {z : aH} (v0 : Nat) (s0 : Nat) (h : aH) (hf : fX11_mustName_45 v0 s0 h = some z) : Ev (d + 5) none mX11_mustName (0, 0) 45 [.ref v0] [.ref s0] h (QV z) := 
  ev_ldcS kqX11_mustName_45 rfl (jm [2] (fun v0 => fX11_mustName_47 v0 (SB + 24) s0 h) (fun v0 q => tX11_mustName_47 v0 (SB + 24) s0 h q) hf)
def wX11_mustName_44 : List En := [(.aload_n 0, 0, 0, 0)]
def fX11_mustName_44 (v0 : Nat) (h : aH) : Option (aH) :=
  fX11_mustName_45 v0 v0 h
theorem tX11_mustName_44 {d : Nat} {z : aH} (v0 : Nat) (h : aH) (hf : fX11_mustName_44 v0 h = some z) : Ev (d + 5) none mX11_mustName (0, 0) 44 [.ref v0] [] h (QV z) := 
  go_ok (X := none) (blk := wX11_mustName_44) (np := 45) (tt := 0) (kN := fun xs h st => app [2] (fun v0 => apS [2] (fun s0 => fX11_mustName_45 v0 s0 h) st) xs) (kT := fun _ _ _ => none) (kR := kRV)
    (fun xs h st q => jm [2] _ (fun v0 q => apS_ok [2] _ (fun st => Ev (d + 5) none mX11_mustName (0, 0) 45 [.ref v0] st h (QV z)) st (fun s0 q => tX11_mustName_45 v0 s0 h q) q) q)
    (fun _ _ _ q => nos q)
    kRV_ok (Or.inr rfl) (by decide +kernel) (by decide +kernel) hf
def wX11_mustName_41 : List En := [(.ifCond .ne 21, 62, 0, 0)]
def fX11_mustName_41 (v0 : Nat) (s0 : Int32) (h : aH) : Option (aH) :=
  if s0 = 0 then fX11_mustName_44 v0 h else fX11_mustName_62 v0 h
theorem tX11_mustName_41 {d : Nat} {z : aH} (v0 : Nat) (s0 : Int32) (h : aH) (hf : fX11_mustName_41 v0 s0 h = some z) : Ev (d + 5) none mX11_mustName (0, 0) 41 [.ref v0] [.int s0] h (QV z) := 
  go_ok (X := none) (blk := wX11_mustName_41) (np := 44) (tt := 62) (kN := fun xs h st => app [2] (fun v0 => apS [] (fX11_mustName_44 v0 h) st) xs) (kT := fun xs h st => app [2] (fun v0 => apS [] (fX11_mustName_62 v0 h) st) xs) (kR := kRV)
    (fun xs h st q => jm [2] _ (fun v0 q => apS_ok [] _ (fun st => Ev (d + 5) none mX11_mustName (0, 0) 44 [.ref v0] st h (QV z)) st (fun q => tX11_mustName_44 v0 h q) q) q)
    (fun xs h st q => jm [2] _ (fun v0 q => apS_ok [] _ (fun st => Ev (d + 5) none mX11_mustName (0, 0) 62 [.ref v0] st h (QV z)) st (fun q => tX11_mustName_62 v0 h q) q) q)
    kRV_ok (Or.inr rfl) (by decide +kernel) (by decide +kernel) hf
theorem kqX11_mustName_38 : okC mX11_mustName 38 (.invokevirtual 108) 189 204 0 1 = true := by decide +kernel
def fX11_mustName_38 (v0 : Nat) (s0 : Nat) (s1 : Nat) (h : aH) : Option (aH) :=
  (isO h 11 s1).bind fun _ =>
  (gX11_isWord s1 s0 h).bind fun r =>
  fX11_mustName_41 v0 r.1 r.2
theorem tX11_mustName_38 {d : Nat} {z : aH} (v0 : Nat) (s0 : Nat) (s1 : Nat) (h : aH) (hf : fX11_mustName_38 v0 s0 s1 h = some z) : Ev (d + 5) none mX11_mustName (0, 0) 38 [.ref v0] [.ref s0, .ref s1] h (QV z) := by
  obtain ⟨_, h1, hf⟩ := bnd hf
  obtain ⟨fs, ho⟩ := isO_ok h1
  obtain ⟨r, h2, hf⟩ := bnd hf
  refine ev_V kqX11_mustName_38 jX11_isWord (zX11_isWord (d := d + 0) h2) ho rfl rfl (Nat.le_of_ble_eq_true rfl) rfl (as := [.ref s0]) (rest := []) rfl (Nat.le_of_ble_eq_true rfl) (fun _ _ hq => ?_)
  obtain ⟨-, rfl, rfl⟩ := hq
  exact jm [2] (fun v0 => fX11_mustName_41 v0 r.1 r.2) (fun v0 q => tX11_mustName_41 v0 r.1 r.2 q) hf
theorem kqX11_mustName_36 : ckS mX11_mustName 36 128 23 = true := by decide +kernel -- fast
def fX11_mustName_36 (v0 : Nat) (s0 : Nat) (h : aH) : Option (aH) :=
  fX11_mustName_38 v0 (SB + 23) s0 h
theorem tX11_mustName_36 {d : Nat} {z : aH} (v0 : Nat) (s0 : Nat) (h : aH) (hf : fX11_mustName_36 v0 s0 h = some z) : Ev (d + 5) none mX11_mustName (0, 0) 36 [.ref v0] [.ref s0] h (QV z) := 
  ev_ldcS kqX11_mustName_36 rfl (jm [2] (fun v0 => fX11_mustName_38 v0 (SB + 23) s0 h) (fun v0 q => tX11_mustName_38 v0 (SB + 23) s0 h q) hf)
def wX11_mustName_35 : List En := [(.aload_n 0, 0, 0, 0)]
def fX11_mustName_35 (v0 : Nat) (h : aH) : Option (aH) :=
  fX11_mustName_36 v0 v0 h
theorem tX11_mustName_35 {d : Nat} {z : aH} (v0 : Nat) (h : aH) (hf : fX11_mustName_35 v0 h = some z) : Ev (d + 5) none mX11_mustName (0, 0) 35 [.ref v0] [] h (QV z) := 
  go_ok (X := none) (blk := wX11_mustName_35) (np := 36) (tt := 0) (kN := fun xs h st => app [2] (fun v0 => apS [2] (fun s0 => fX11_mustName_36 v0 s0 h) st) xs) (kT := fun _ _ _ => none) (kR := kRV)
    (fun xs h st q => jm [2] _ (fun v0 q => apS_ok [2] _ (fun st => Ev (d + 5) none mX11_mustName (0, 0) 36 [.ref v0] st h (QV z)) st (fun s0 q => tX11_mustName_36 v0 s0 h q) q) q)
    (fun _ _ _ q => nos q)
    kRV_ok (Or.inr rfl) (by decide +kernel) (by decide +kernel) hf
def wX11_mustName_32 : List En := [(.ifCond .ne 30, 62, 0, 0)]
def fX11_mustName_32 (v0 : Nat) (s0 : Int32) (h : aH) : Option (aH) :=
  if s0 = 0 then fX11_mustName_35 v0 h else fX11_mustName_62 v0 h
theorem tX11_mustName_32 {d : Nat} {z : aH} (v0 : Nat) (s0 : Int32) (h : aH) (hf : fX11_mustName_32 v0 s0 h = some z) : Ev (d + 5) none mX11_mustName (0, 0) 32 [.ref v0] [.int s0] h (QV z) := 
  go_ok (X := none) (blk := wX11_mustName_32) (np := 35) (tt := 62) (kN := fun xs h st => app [2] (fun v0 => apS [] (fX11_mustName_35 v0 h) st) xs) (kT := fun xs h st => app [2] (fun v0 => apS [] (fX11_mustName_62 v0 h) st) xs) (kR := kRV)
    (fun xs h st q => jm [2] _ (fun v0 q => apS_ok [] _ (fun st => Ev (d + 5) none mX11_mustName (0, 0) 35 [.ref v0] st h (QV z)) st (fun q => tX11_mustName_35 v0 h q) q) q)
    (fun xs h st q => jm [2] _ (fun v0 q => apS_ok [] _ (fun st => Ev (d + 5) none mX11_mustName (0, 0) 62 [.ref v0] st h (QV z)) st (fun q => tX11_mustName_62 v0 h q) q) q)
    kRV_ok (Or.inr rfl) (by decide +kernel) (by decide +kernel) hf
theorem kqX11_mustName_29 : okC mX11_mustName 29 (.invokevirtual 108) 189 204 0 1 = true := by decide +kernel
def fX11_mustName_29 (v0 : Nat) (s0 : Nat) (s1 : Nat) (h : aH) : Option (aH) :=
  (isO h 11 s1).bind fun _ =>
  (gX11_isWord s1 s0 h).bind fun r =>
  fX11_mustName_32 v0 r.1 r.2
theorem tX11_mustName_29 {d : Nat} {z : aH} (v0 : Nat) (s0 : Nat) (s1 : Nat) (h : aH) (hf : fX11_mustName_29 v0 s0 s1 h = some z) : Ev (d + 5) none mX11_mustName (0, 0) 29 [.ref v0] [.ref s0, .ref s1] h (QV z) := by
  obtain ⟨_, h1, hf⟩ := bnd hf
  obtain ⟨fs, ho⟩ := isO_ok h1
  obtain ⟨r, h2, hf⟩ := bnd hf
  refine ev_V kqX11_mustName_29 jX11_isWord (zX11_isWord (d := d + 0) h2) ho rfl rfl (Nat.le_of_ble_eq_true rfl) rfl (as := [.ref s0]) (rest := []) rfl (Nat.le_of_ble_eq_true rfl) (fun _ _ hq => ?_)
  obtain ⟨-, rfl, rfl⟩ := hq
  exact jm [2] (fun v0 => fX11_mustName_32 v0 r.1 r.2) (fun v0 q => tX11_mustName_32 v0 r.1 r.2 q) hf
theorem kqX11_mustName_27 : ckS mX11_mustName 27 126 22 = true := by decide +kernel -- name
def fX11_mustName_27 (v0 : Nat) (s0 : Nat) (h : aH) : Option (aH) :=
  fX11_mustName_29 v0 (SB + 22) s0 h
theorem tX11_mustName_27 {d : Nat} {z : aH} (v0 : Nat) (s0 : Nat) (h : aH) (hf : fX11_mustName_27 v0 s0 h = some z) : Ev (d + 5) none mX11_mustName (0, 0) 27 [.ref v0] [.ref s0] h (QV z) := 
  ev_ldcS kqX11_mustName_27 rfl (jm [2] (fun v0 => fX11_mustName_29 v0 (SB + 22) s0 h) (fun v0 q => tX11_mustName_29 v0 (SB + 22) s0 h q) hf)
def wX11_mustName_26 : List En := [(.aload_n 0, 0, 0, 0)]
def fX11_mustName_26 (v0 : Nat) (h : aH) : Option (aH) :=
  fX11_mustName_27 v0 v0 h
theorem tX11_mustName_26 {d : Nat} {z : aH} (v0 : Nat) (h : aH) (hf : fX11_mustName_26 v0 h = some z) : Ev (d + 5) none mX11_mustName (0, 0) 26 [.ref v0] [] h (QV z) := 
  go_ok (X := none) (blk := wX11_mustName_26) (np := 27) (tt := 0) (kN := fun xs h st => app [2] (fun v0 => apS [2] (fun s0 => fX11_mustName_27 v0 s0 h) st) xs) (kT := fun _ _ _ => none) (kR := kRV)
    (fun xs h st q => jm [2] _ (fun v0 q => apS_ok [2] _ (fun st => Ev (d + 5) none mX11_mustName (0, 0) 27 [.ref v0] st h (QV z)) st (fun s0 q => tX11_mustName_27 v0 s0 h q) q) q)
    (fun _ _ _ q => nos q)
    kRV_ok (Or.inr rfl) (by decide +kernel) (by decide +kernel) hf
def wX11_mustName_23 : List En := [(.ifCond .ne 39, 62, 0, 0)]
def fX11_mustName_23 (v0 : Nat) (s0 : Int32) (h : aH) : Option (aH) :=
  if s0 = 0 then fX11_mustName_26 v0 h else fX11_mustName_62 v0 h
theorem tX11_mustName_23 {d : Nat} {z : aH} (v0 : Nat) (s0 : Int32) (h : aH) (hf : fX11_mustName_23 v0 s0 h = some z) : Ev (d + 5) none mX11_mustName (0, 0) 23 [.ref v0] [.int s0] h (QV z) := 
  go_ok (X := none) (blk := wX11_mustName_23) (np := 26) (tt := 62) (kN := fun xs h st => app [2] (fun v0 => apS [] (fX11_mustName_26 v0 h) st) xs) (kT := fun xs h st => app [2] (fun v0 => apS [] (fX11_mustName_62 v0 h) st) xs) (kR := kRV)
    (fun xs h st q => jm [2] _ (fun v0 q => apS_ok [] _ (fun st => Ev (d + 5) none mX11_mustName (0, 0) 26 [.ref v0] st h (QV z)) st (fun q => tX11_mustName_26 v0 h q) q) q)
    (fun xs h st q => jm [2] _ (fun v0 q => apS_ok [] _ (fun st => Ev (d + 5) none mX11_mustName (0, 0) 62 [.ref v0] st h (QV z)) st (fun q => tX11_mustName_62 v0 h q) q) q)
    kRV_ok (Or.inr rfl) (by decide +kernel) (by decide +kernel) hf
theorem kqX11_mustName_20 : okC mX11_mustName 20 (.invokevirtual 108) 189 204 0 1 = true := by decide +kernel
def fX11_mustName_20 (v0 : Nat) (s0 : Nat) (s1 : Nat) (h : aH) : Option (aH) :=
  (isO h 11 s1).bind fun _ =>
  (gX11_isWord s1 s0 h).bind fun r =>
  fX11_mustName_23 v0 r.1 r.2
theorem tX11_mustName_20 {d : Nat} {z : aH} (v0 : Nat) (s0 : Nat) (s1 : Nat) (h : aH) (hf : fX11_mustName_20 v0 s0 s1 h = some z) : Ev (d + 5) none mX11_mustName (0, 0) 20 [.ref v0] [.ref s0, .ref s1] h (QV z) := by
  obtain ⟨_, h1, hf⟩ := bnd hf
  obtain ⟨fs, ho⟩ := isO_ok h1
  obtain ⟨r, h2, hf⟩ := bnd hf
  refine ev_V kqX11_mustName_20 jX11_isWord (zX11_isWord (d := d + 0) h2) ho rfl rfl (Nat.le_of_ble_eq_true rfl) rfl (as := [.ref s0]) (rest := []) rfl (Nat.le_of_ble_eq_true rfl) (fun _ _ hq => ?_)
  obtain ⟨-, rfl, rfl⟩ := hq
  exact jm [2] (fun v0 => fX11_mustName_23 v0 r.1 r.2) (fun v0 q => tX11_mustName_23 v0 r.1 r.2 q) hf
theorem kqX11_mustName_18 : ckS mX11_mustName 18 124 21 = true := by decide +kernel -- person
def fX11_mustName_18 (v0 : Nat) (s0 : Nat) (h : aH) : Option (aH) :=
  fX11_mustName_20 v0 (SB + 21) s0 h
theorem tX11_mustName_18 {d : Nat} {z : aH} (v0 : Nat) (s0 : Nat) (h : aH) (hf : fX11_mustName_18 v0 s0 h = some z) : Ev (d + 5) none mX11_mustName (0, 0) 18 [.ref v0] [.ref s0] h (QV z) := 
  ev_ldcS kqX11_mustName_18 rfl (jm [2] (fun v0 => fX11_mustName_20 v0 (SB + 21) s0 h) (fun v0 q => tX11_mustName_20 v0 (SB + 21) s0 h q) hf)
def wX11_mustName_17 : List En := [(.aload_n 0, 0, 0, 0)]
def fX11_mustName_17 (v0 : Nat) (h : aH) : Option (aH) :=
  fX11_mustName_18 v0 v0 h
theorem tX11_mustName_17 {d : Nat} {z : aH} (v0 : Nat) (h : aH) (hf : fX11_mustName_17 v0 h = some z) : Ev (d + 5) none mX11_mustName (0, 0) 17 [.ref v0] [] h (QV z) := 
  go_ok (X := none) (blk := wX11_mustName_17) (np := 18) (tt := 0) (kN := fun xs h st => app [2] (fun v0 => apS [2] (fun s0 => fX11_mustName_18 v0 s0 h) st) xs) (kT := fun _ _ _ => none) (kR := kRV)
    (fun xs h st q => jm [2] _ (fun v0 q => apS_ok [2] _ (fun st => Ev (d + 5) none mX11_mustName (0, 0) 18 [.ref v0] st h (QV z)) st (fun s0 q => tX11_mustName_18 v0 s0 h q) q) q)
    (fun _ _ _ q => nos q)
    kRV_ok (Or.inr rfl) (by decide +kernel) (by decide +kernel) hf
def wX11_mustName_14 : List En := [(.ifCond .ne 48, 62, 0, 0)]
def fX11_mustName_14 (v0 : Nat) (s0 : Int32) (h : aH) : Option (aH) :=
  if s0 = 0 then fX11_mustName_17 v0 h else fX11_mustName_62 v0 h
theorem tX11_mustName_14 {d : Nat} {z : aH} (v0 : Nat) (s0 : Int32) (h : aH) (hf : fX11_mustName_14 v0 s0 h = some z) : Ev (d + 5) none mX11_mustName (0, 0) 14 [.ref v0] [.int s0] h (QV z) := 
  go_ok (X := none) (blk := wX11_mustName_14) (np := 17) (tt := 62) (kN := fun xs h st => app [2] (fun v0 => apS [] (fX11_mustName_17 v0 h) st) xs) (kT := fun xs h st => app [2] (fun v0 => apS [] (fX11_mustName_62 v0 h) st) xs) (kR := kRV)
    (fun xs h st q => jm [2] _ (fun v0 q => apS_ok [] _ (fun st => Ev (d + 5) none mX11_mustName (0, 0) 17 [.ref v0] st h (QV z)) st (fun q => tX11_mustName_17 v0 h q) q) q)
    (fun xs h st q => jm [2] _ (fun v0 q => apS_ok [] _ (fun st => Ev (d + 5) none mX11_mustName (0, 0) 62 [.ref v0] st h (QV z)) st (fun q => tX11_mustName_62 v0 h q) q) q)
    kRV_ok (Or.inr rfl) (by decide +kernel) (by decide +kernel) hf
theorem kqX11_mustName_11 : okC mX11_mustName 11 (.invokevirtual 108) 189 204 0 1 = true := by decide +kernel
def fX11_mustName_11 (v0 : Nat) (s0 : Nat) (s1 : Nat) (h : aH) : Option (aH) :=
  (isO h 11 s1).bind fun _ =>
  (gX11_isWord s1 s0 h).bind fun r =>
  fX11_mustName_14 v0 r.1 r.2
theorem tX11_mustName_11 {d : Nat} {z : aH} (v0 : Nat) (s0 : Nat) (s1 : Nat) (h : aH) (hf : fX11_mustName_11 v0 s0 s1 h = some z) : Ev (d + 5) none mX11_mustName (0, 0) 11 [.ref v0] [.ref s0, .ref s1] h (QV z) := by
  obtain ⟨_, h1, hf⟩ := bnd hf
  obtain ⟨fs, ho⟩ := isO_ok h1
  obtain ⟨r, h2, hf⟩ := bnd hf
  refine ev_V kqX11_mustName_11 jX11_isWord (zX11_isWord (d := d + 0) h2) ho rfl rfl (Nat.le_of_ble_eq_true rfl) rfl (as := [.ref s0]) (rest := []) rfl (Nat.le_of_ble_eq_true rfl) (fun _ _ hq => ?_)
  obtain ⟨-, rfl, rfl⟩ := hq
  exact jm [2] (fun v0 => fX11_mustName_14 v0 r.1 r.2) (fun v0 q => tX11_mustName_14 v0 r.1 r.2 q) hf
theorem kqX11_mustName_9 : ckS mX11_mustName 9 122 17 = true := by decide +kernel -- table
def fX11_mustName_9 (v0 : Nat) (s0 : Nat) (h : aH) : Option (aH) :=
  fX11_mustName_11 v0 (SB + 17) s0 h
theorem tX11_mustName_9 {d : Nat} {z : aH} (v0 : Nat) (s0 : Nat) (h : aH) (hf : fX11_mustName_9 v0 s0 h = some z) : Ev (d + 5) none mX11_mustName (0, 0) 9 [.ref v0] [.ref s0] h (QV z) := 
  ev_ldcS kqX11_mustName_9 rfl (jm [2] (fun v0 => fX11_mustName_11 v0 (SB + 17) s0 h) (fun v0 q => tX11_mustName_11 v0 (SB + 17) s0 h q) hf)
def wX11_mustName_8 : List En := [(.aload_n 0, 0, 0, 0)]
def fX11_mustName_8 (v0 : Nat) (h : aH) : Option (aH) :=
  fX11_mustName_9 v0 v0 h
theorem tX11_mustName_8 {d : Nat} {z : aH} (v0 : Nat) (h : aH) (hf : fX11_mustName_8 v0 h = some z) : Ev (d + 5) none mX11_mustName (0, 0) 8 [.ref v0] [] h (QV z) := 
  go_ok (X := none) (blk := wX11_mustName_8) (np := 9) (tt := 0) (kN := fun xs h st => app [2] (fun v0 => apS [2] (fun s0 => fX11_mustName_9 v0 s0 h) st) xs) (kT := fun _ _ _ => none) (kR := kRV)
    (fun xs h st q => jm [2] _ (fun v0 q => apS_ok [2] _ (fun st => Ev (d + 5) none mX11_mustName (0, 0) 9 [.ref v0] st h (QV z)) st (fun s0 q => tX11_mustName_9 v0 s0 h q) q) q)
    (fun _ _ _ q => nos q)
    kRV_ok (Or.inr rfl) (by decide +kernel) (by decide +kernel) hf
def wX11_mustName_0 : List En := [(.aload_n 0, 0, 0, 0), (.getfield 81, 181, 11, 6), (.iconst 2, 0, 0, 0), (.if_icmp .ne 57, 62, 0, 0)]
def fX11_mustName_0 (v0 : Nat) (h : aH) : Option (aH) :=
  (gFI h 11 v0 6).bind fun t1 =>
  if t1 = (kI 2) then fX11_mustName_8 v0 h else fX11_mustName_62 v0 h
theorem tX11_mustName_0 {d : Nat} {z : aH} (v0 : Nat) (h : aH) (hf : fX11_mustName_0 v0 h = some z) : Ev (d + 5) none mX11_mustName (0, 0) 0 [.ref v0] [] h (QV z) := 
  go_ok (X := none) (blk := wX11_mustName_0) (np := 8) (tt := 62) (kN := fun xs h st => app [2] (fun v0 => apS [] (fX11_mustName_8 v0 h) st) xs) (kT := fun xs h st => app [2] (fun v0 => apS [] (fX11_mustName_62 v0 h) st) xs) (kR := kRV)
    (fun xs h st q => jm [2] _ (fun v0 q => apS_ok [] _ (fun st => Ev (d + 5) none mX11_mustName (0, 0) 8 [.ref v0] st h (QV z)) st (fun q => tX11_mustName_8 v0 h q) q) q)
    (fun xs h st q => jm [2] _ (fun v0 q => apS_ok [] _ (fun st => Ev (d + 5) none mX11_mustName (0, 0) 62 [.ref v0] st h (QV z)) st (fun q => tX11_mustName_62 v0 h q) q) q)
    kRV_ok (Or.inr rfl) (by decide +kernel) (by decide +kernel) hf
def gX11_mustName (v0 : Nat) (h : aH) : Option (aH) := fX11_mustName_0 v0 h
theorem zX11_mustName {d : Nat} {z : aH} {v0 : Nat} {h : aH} (q : gX11_mustName v0 h = some z) : CT (d + 5) mX11_mustName (0, 0) [.ref v0] h (QV z) :=
  ct_ev (by decide +kernel) (Nat.le_of_ble_eq_true rfl) QV_r (jm [2] (fun v0 => fX11_mustName_0 v0 h) (fun v0 q => tX11_mustName_0 v0 h q) q)
def wX11_namedHere_59 : List En := [(.ireturn, 0, 0, 0)]
def fX11_namedHere_59 (s0 : Int32) (h : aH) : Option (Int32 × aH) :=
  some (s0, h)
theorem tX11_namedHere_59 {d : Nat} {z : Int32 × aH} (s0 : Int32) (h : aH) (hf : fX11_namedHere_59 s0 h = some z) : Ev (d + 6) none mX11_namedHere (0, 0) 59 [.null, .null, .null, .null] [.int s0] h (QI z) := 
  go_ok (X := none) (blk := wX11_namedHere_59) (np := 60) (tt := 0) (kN := fun _ _ _ => none) (kT := fun _ _ _ => none) (kR := kRI)
    (fun _ _ _ q => nos q)
    (fun _ _ _ q => nos q)
    kRI_ok (Or.inr rfl) (by decide +kernel) (by decide +kernel) hf
def wX11_namedHere_56 : List En := [(.iload_n 3, 0, 0, 0), (.iload_n 1, 0, 0, 0), (.isub, 0, 0, 0)]
def fX11_namedHere_56 (v1 : Int32) (v3 : Int32) (h : aH) : Option (Int32 × aH) :=
  fX11_namedHere_59 (v3 - v1) h
theorem tX11_namedHere_56 {d : Nat} {z : Int32 × aH} (v1 : Int32) (v3 : Int32) (h : aH) (hf : fX11_namedHere_56 v1 v3 h = some z) : Ev (d + 6) none mX11_namedHere (0, 0) 56 [.null, .int v1, .null, .int v3] [] h (QI z) := 
  go_ok (X := none) (blk := wX11_namedHere_56) (np := 59) (tt := 0) (kN := fun xs h st => app [0, 0, 0, 0] (apS [1] (fun s0 => fX11_namedHere_59 s0 h) st) xs) (kT := fun _ _ _ => none) (kR := kRI)
    (fun xs h st q => jm [0, 0, 0, 0] _ (fun q => apS_ok [1] _ (fun st => Ev (d + 6) none mX11_namedHere (0, 0) 59 [.null, .null, .null, .null] st h (QI z)) st (fun s0 q => tX11_namedHere_59 s0 h q) q) q)
    (fun _ _ _ q => nos q)
    kRI_ok (Or.inr rfl) (by decide +kernel) (by decide +kernel) hf
def wX11_namedHere_52 : List En := [(.iconst 0, 0, 0, 0), (.goto 6, 59, 0, 0)]
def fX11_namedHere_52 (h : aH) : Option (Int32 × aH) :=
  fX11_namedHere_59 (kI 0) h
theorem tX11_namedHere_52 {d : Nat} {z : Int32 × aH} (h : aH) (hf : fX11_namedHere_52 h = some z) : Ev (d + 6) none mX11_namedHere (0, 0) 52 [.null, .null, .null, .null] [] h (QI z) := 
  go_ok (X := none) (blk := wX11_namedHere_52) (np := 56) (tt := 59) (kN := fun _ _ _ => none) (kT := fun xs h st => app [0, 0, 0, 0] (apS [1] (fun s0 => fX11_namedHere_59 s0 h) st) xs) (kR := kRI)
    (fun _ _ _ q => nos q)
    (fun xs h st q => jm [0, 0, 0, 0] _ (fun q => apS_ok [1] _ (fun st => Ev (d + 6) none mX11_namedHere (0, 0) 59 [.null, .null, .null, .null] st h (QI z)) st (fun s0 q => tX11_namedHere_59 s0 h q) q) q)
    kRI_ok (Or.inr rfl) (by decide +kernel) (by decide +kernel) hf
def wX11_namedHere_45 : List En := [(.aload_n 0, 0, 0, 0), (.getfield 91, 188, 11, 13), (.ifCond .eq 7, 56, 0, 0)]
def fX11_namedHere_45 (v0 : Nat) (v1 : Int32) (v3 : Int32) (h : aH) : Option (Int32 × aH) :=
  (gFI h 11 v0 13).bind fun t1 =>
  if t1 = 0 then fX11_namedHere_56 v1 v3 h else fX11_namedHere_52 h
theorem tX11_namedHere_45 {d : Nat} {z : Int32 × aH} (v0 : Nat) (v1 : Int32) (v3 : Int32) (h : aH) (hf : fX11_namedHere_45 v0 v1 v3 h = some z) : Ev (d + 6) none mX11_namedHere (0, 0) 45 [.ref v0, .int v1, .null, .int v3] [] h (QI z) := 
  go_ok (X := none) (blk := wX11_namedHere_45) (np := 52) (tt := 56) (kN := fun xs h st => app [0, 0, 0, 0] (apS [] (fX11_namedHere_52 h) st) xs) (kT := fun xs h st => app [0, 1, 0, 1] (fun v1 v3 => apS [] (fX11_namedHere_56 v1 v3 h) st) xs) (kR := kRI)
    (fun xs h st q => jm [0, 0, 0, 0] _ (fun q => apS_ok [] _ (fun st => Ev (d + 6) none mX11_namedHere (0, 0) 52 [.null, .null, .null, .null] st h (QI z)) st (fun q => tX11_namedHere_52 h q) q) q)
    (fun xs h st q => jm [0, 1, 0, 1] _ (fun v1 v3 q => apS_ok [] _ (fun st => Ev (d + 6) none mX11_namedHere (0, 0) 56 [.null, .int v1, .null, .int v3] st h (QI z)) st (fun q => tX11_namedHere_56 v1 v3 h q) q) q)
    kRI_ok (Or.inr rfl) (by decide +kernel) (by decide +kernel) hf
theorem kqX11_namedHere_42 : okC mX11_namedHere 42 (.invokevirtual 118) 191 208 0 2 = true := by decide +kernel
def fX11_namedHere_42 (v0 : Nat) (v1 : Int32) (v3 : Int32) (s0 : Int32) (s1 : Int32) (s2 : Nat) (h : aH) : Option (Int32 × aH) :=
  (isO h 11 s2).bind fun _ =>
  (gX11_wrong s2 s1 s0 h).bind fun r =>
  fX11_namedHere_45 v0 v1 v3 r
theorem tX11_namedHere_42 {d : Nat} {z : Int32 × aH} (v0 : Nat) (v1 : Int32) (v3 : Int32) (s0 : Int32) (s1 : Int32) (s2 : Nat) (h : aH) (hf : fX11_namedHere_42 v0 v1 v3 s0 s1 s2 h = some z) : Ev (d + 6) none mX11_namedHere (0, 0) 42 [.ref v0, .int v1, .null, .int v3] [.int s0, .int s1, .ref s2] h (QI z) := by
  obtain ⟨_, h1, hf⟩ := bnd hf
  obtain ⟨fs, ho⟩ := isO_ok h1
  obtain ⟨r, h2, hf⟩ := bnd hf
  refine ev_V kqX11_namedHere_42 jX11_wrong (zX11_wrong (d := d + 5) h2) ho rfl rfl (Nat.le_of_ble_eq_true rfl) rfl (as := [.int s1, .int s0]) (rest := []) rfl (Nat.le_of_ble_eq_true rfl) (fun _ _ hq => ?_)
  obtain ⟨rfl, hh⟩ := hq
  rw [hh]
  exact jm [2, 1, 0, 1] (fun v0 v1 v3 => fX11_namedHere_45 v0 v1 v3 r) (fun v0 v1 v3 q => tX11_namedHere_45 v0 v1 v3 r q) hf
def wX11_namedHere_36 : List En := [(.aload_n 0, 0, 0, 0), (.iconst 2, 0, 0, 0), (.aload_n 0, 0, 0, 0), (.getfield 72, 179, 11, 4)]
def fX11_namedHere_36 (v0 : Nat) (v1 : Int32) (v3 : Int32) (h : aH) : Option (Int32 × aH) :=
  (gFI h 11 v0 4).bind fun t1 =>
  fX11_namedHere_42 v0 v1 v3 t1 (kI 2) v0 h
theorem tX11_namedHere_36 {d : Nat} {z : Int32 × aH} (v0 : Nat) (v1 : Int32) (v3 : Int32) (h : aH) (hf : fX11_namedHere_36 v0 v1 v3 h = some z) : Ev (d + 6) none mX11_namedHere (0, 0) 36 [.ref v0, .int v1, .null, .int v3] [] h (QI z) := 
  go_ok (X := none) (blk := wX11_namedHere_36) (np := 42) (tt := 0) (kN := fun xs h st => app [2, 1, 0, 1] (fun v0 v1 v3 => apS [1, 1, 2] (fun s0 s1 s2 => fX11_namedHere_42 v0 v1 v3 s0 s1 s2 h) st) xs) (kT := fun _ _ _ => none) (kR := kRI)
    (fun xs h st q => jm [2, 1, 0, 1] _ (fun v0 v1 v3 q => apS_ok [1, 1, 2] _ (fun st => Ev (d + 6) none mX11_namedHere (0, 0) 42 [.ref v0, .int v1, .null, .int v3] st h (QI z)) st (fun s0 s1 s2 q => tX11_namedHere_42 v0 v1 v3 s0 s1 s2 h q) q) q)
    (fun _ _ _ q => nos q)
    kRI_ok (Or.inr rfl) (by decide +kernel) (by decide +kernel) hf
def wX11_namedHere_33 : List En := [(.ifCond .ne 12, 45, 0, 0)]
def fX11_namedHere_33 (v0 : Nat) (v1 : Int32) (v3 : Int32) (s0 : Int32) (h : aH) : Option (Int32 × aH) :=
  if s0 = 0 then fX11_namedHere_36 v0 v1 v3 h else fX11_namedHere_45 v0 v1 v3 h
theorem tX11_namedHere_33 {d : Nat} {z : Int32 × aH} (v0 : Nat) (v1 : Int32) (v3 : Int32) (s0 : Int32) (h : aH) (hf : fX11_namedHere_33 v0 v1 v3 s0 h = some z) : Ev (d + 6) none mX11_namedHere (0, 0) 33 [.ref v0, .int v1, .null, .int v3] [.int s0] h (QI z) := 
  go_ok (X := none) (blk := wX11_namedHere_33) (np := 36) (tt := 45) (kN := fun xs h st => app [2, 1, 0, 1] (fun v0 v1 v3 => apS [] (fX11_namedHere_36 v0 v1 v3 h) st) xs) (kT := fun xs h st => app [2, 1, 0, 1] (fun v0 v1 v3 => apS [] (fX11_namedHere_45 v0 v1 v3 h) st) xs) (kR := kRI)
    (fun xs h st q => jm [2, 1, 0, 1] _ (fun v0 v1 v3 q => apS_ok [] _ (fun st => Ev (d + 6) none mX11_namedHere (0, 0) 36 [.ref v0, .int v1, .null, .int v3] st h (QI z)) st (fun q => tX11_namedHere_36 v0 v1 v3 h q) q) q)
    (fun xs h st q => jm [2, 1, 0, 1] _ (fun v0 v1 v3 q => apS_ok [] _ (fun st => Ev (d + 6) none mX11_namedHere (0, 0) 45 [.ref v0, .int v1, .null, .int v3] st h (QI z)) st (fun q => tX11_namedHere_45 v0 v1 v3 h q) q) q)
    kRI_ok (Or.inr rfl) (by decide +kernel) (by decide +kernel) hf
theorem kqX11_namedHere_30 : okC mX11_namedHere 30 (.invokestatic 140) 182 197 1 3 = true := by decide +kernel
def fX11_namedHere_30 (v0 : Nat) (v1 : Int32) (v3 : Int32) (s0 : Int32) (s1 : Int32) (s2 : Int32) (h : aH) : Option (Int32 × aH) :=
  (gX11_in s2 s1 s0 h).bind fun r =>
  fX11_namedHere_33 v0 v1 v3 r.1 r.2
theorem tX11_namedHere_30 {d : Nat} {z : Int32 × aH} (v0 : Nat) (v1 : Int32) (v3 : Int32) (s0 : Int32) (s1 : Int32) (s2 : Int32) (h : aH) (hf : fX11_namedHere_30 v0 v1 v3 s0 s1 s2 h = some z) : Ev (d + 6) none mX11_namedHere (0, 0) 30 [.ref v0, .int v1, .null, .int v3] [.int s0, .int s1, .int s2] h (QI z) := by
  obtain ⟨r, h2, hf⟩ := bnd hf
  refine ev_S kqX11_namedHere_30 jX11_in (zX11_in (d := d + 5) h2) rfl (Nat.le_of_ble_eq_true rfl) rfl (as := [.int s2, .int s1, .int s0]) (rest := []) rfl (Nat.le_of_ble_eq_true rfl) (fun _ _ hq => ?_)
  obtain ⟨-, rfl, rfl⟩ := hq
  exact jm [2, 1, 0, 1] (fun v0 v1 v3 => fX11_namedHere_33 v0 v1 v3 r.1 r.2) (fun v0 v1 v3 q => tX11_namedHere_33 v0 v1 v3 r.1 r.2 q) hf
def wX11_namedHere_26 : List En := [(.istore_n 3, 0, 0, 0), (.iload_n 3, 0, 0, 0), (.iload_n 1, 0, 0, 0), (.iload_n 2, 0, 0, 0)]
def fX11_namedHere_26 (v0 : Nat) (v1 : Int32) (v2 : Int32) (s0 : Int32) (h : aH) : Option (Int32 × aH) :=
  fX11_namedHere_30 v0 v1 s0 v2 v1 s0 h
theorem tX11_namedHere_26 {d : Nat} {z : Int32 × aH} (v0 : Nat) (v1 : Int32) (v2 : Int32) (s0 : Int32) (h : aH) (hf : fX11_namedHere_26 v0 v1 v2 s0 h = some z) : Ev (d + 6) none mX11_namedHere (0, 0) 26 [.ref v0, .int v1, .int v2, .null] [.int s0] h (QI z) := 
  go_ok (X := none) (blk := wX11_namedHere_26) (np := 30) (tt := 0) (kN := fun xs h st => app [2, 1, 0, 1] (fun v0 v1 v3 => apS [1, 1, 1] (fun s0 s1 s2 => fX11_namedHere_30 v0 v1 v3 s0 s1 s2 h) st) xs) (kT := fun _ _ _ => none) (kR := kRI)
    (fun xs h st q => jm [2, 1, 0, 1] _ (fun v0 v1 v3 q => apS_ok [1, 1, 1] _ (fun st => Ev (d + 6) none mX11_namedHere (0, 0) 30 [.ref v0, .int v1, .null, .int v3] st h (QI z)) st (fun s0 s1 s2 q => tX11_namedHere_30 v0 v1 v3 s0 s1 s2 h q) q) q)
    (fun _ _ _ q => nos q)
    kRI_ok (Or.inr rfl) (by decide +kernel) (by decide +kernel) hf
theorem kqX11_namedHere_23 : okC mX11_namedHere 23 (.invokevirtual 137) 202 219 0 0 = true := by decide +kernel
def fX11_namedHere_23 (v0 : Nat) (v1 : Int32) (v2 : Int32) (s0 : Nat) (h : aH) : Option (Int32 × aH) :=
  (isO h 11 s0).bind fun _ =>
  (gX11_find s0 h).bind fun r =>
  fX11_namedHere_26 v0 v1 v2 r.1 r.2
theorem tX11_namedHere_23 {d : Nat} {z : Int32 × aH} (v0 : Nat) (v1 : Int32) (v2 : Int32) (s0 : Nat) (h : aH) (hf : fX11_namedHere_23 v0 v1 v2 s0 h = some z) : Ev (d + 6) none mX11_namedHere (0, 0) 23 [.ref v0, .int v1, .int v2, .null] [.ref s0] h (QI z) := by
  obtain ⟨_, h1, hf⟩ := bnd hf
  obtain ⟨fs, ho⟩ := isO_ok h1
  obtain ⟨r, h2, hf⟩ := bnd hf
  refine ev_V kqX11_namedHere_23 jX11_find (zX11_find (d := d + 5) h2) ho rfl rfl (Nat.le_of_ble_eq_true rfl) rfl (as := []) (rest := []) rfl (Nat.le_of_ble_eq_true rfl) (fun _ _ hq => ?_)
  obtain ⟨rfl, rfl⟩ := hq
  exact jm [2, 1, 1, 0] (fun v0 v1 v2 => fX11_namedHere_26 v0 v1 v2 r.1 r.2) (fun v0 v1 v2 q => tX11_namedHere_26 v0 v1 v2 r.1 r.2 q) hf
def wX11_namedHere_22 : List En := [(.aload_n 0, 0, 0, 0)]
def fX11_namedHere_22 (v0 : Nat) (v1 : Int32) (v2 : Int32) (h : aH) : Option (Int32 × aH) :=
  fX11_namedHere_23 v0 v1 v2 v0 h
theorem tX11_namedHere_22 {d : Nat} {z : Int32 × aH} (v0 : Nat) (v1 : Int32) (v2 : Int32) (h : aH) (hf : fX11_namedHere_22 v0 v1 v2 h = some z) : Ev (d + 6) none mX11_namedHere (0, 0) 22 [.ref v0, .int v1, .int v2, .null] [] h (QI z) := 
  go_ok (X := none) (blk := wX11_namedHere_22) (np := 23) (tt := 0) (kN := fun xs h st => app [2, 1, 1, 0] (fun v0 v1 v2 => apS [2] (fun s0 => fX11_namedHere_23 v0 v1 v2 s0 h) st) xs) (kT := fun _ _ _ => none) (kR := kRI)
    (fun xs h st q => jm [2, 1, 1, 0] _ (fun v0 v1 v2 q => apS_ok [2] _ (fun st => Ev (d + 6) none mX11_namedHere (0, 0) 23 [.ref v0, .int v1, .int v2, .null] st h (QI z)) st (fun s0 q => tX11_namedHere_23 v0 v1 v2 s0 h q) q) q)
    (fun _ _ _ q => nos q)
    kRI_ok (Or.inr rfl) (by decide +kernel) (by decide +kernel) hf
def wX11_namedHere_20 : List En := [(.iconst 0, 0, 0, 0), (.ireturn, 0, 0, 0)]
def fX11_namedHere_20 (h : aH) : Option (Int32 × aH) :=
  some ((kI 0), h)
theorem tX11_namedHere_20 {d : Nat} {z : Int32 × aH} (h : aH) (hf : fX11_namedHere_20 h = some z) : Ev (d + 6) none mX11_namedHere (0, 0) 20 [.null, .null, .null, .null] [] h (QI z) := 
  go_ok (X := none) (blk := wX11_namedHere_20) (np := 22) (tt := 0) (kN := fun _ _ _ => none) (kT := fun _ _ _ => none) (kR := kRI)
    (fun _ _ _ q => nos q)
    (fun _ _ _ q => nos q)
    kRI_ok (Or.inr rfl) (by decide +kernel) (by decide +kernel) hf
def wX11_namedHere_13 : List En := [(.aload_n 0, 0, 0, 0), (.getfield 91, 188, 11, 13), (.ifCond .eq 5, 22, 0, 0)]
def fX11_namedHere_13 (v0 : Nat) (v1 : Int32) (v2 : Int32) (h : aH) : Option (Int32 × aH) :=
  (gFI h 11 v0 13).bind fun t1 =>
  if t1 = 0 then fX11_namedHere_22 v0 v1 v2 h else fX11_namedHere_20 h
theorem tX11_namedHere_13 {d : Nat} {z : Int32 × aH} (v0 : Nat) (v1 : Int32) (v2 : Int32) (h : aH) (hf : fX11_namedHere_13 v0 v1 v2 h = some z) : Ev (d + 6) none mX11_namedHere (0, 0) 13 [.ref v0, .int v1, .int v2, .null] [] h (QI z) := 
  go_ok (X := none) (blk := wX11_namedHere_13) (np := 20) (tt := 22) (kN := fun xs h st => app [0, 0, 0, 0] (apS [] (fX11_namedHere_20 h) st) xs) (kT := fun xs h st => app [2, 1, 1, 0] (fun v0 v1 v2 => apS [] (fX11_namedHere_22 v0 v1 v2 h) st) xs) (kR := kRI)
    (fun xs h st q => jm [0, 0, 0, 0] _ (fun q => apS_ok [] _ (fun st => Ev (d + 6) none mX11_namedHere (0, 0) 20 [.null, .null, .null, .null] st h (QI z)) st (fun q => tX11_namedHere_20 h q) q) q)
    (fun xs h st q => jm [2, 1, 1, 0] _ (fun v0 v1 v2 q => apS_ok [] _ (fun st => Ev (d + 6) none mX11_namedHere (0, 0) 22 [.ref v0, .int v1, .int v2, .null] st h (QI z)) st (fun q => tX11_namedHere_22 v0 v1 v2 h q) q) q)
    kRI_ok (Or.inr rfl) (by decide +kernel) (by decide +kernel) hf
theorem kqX11_namedHere_10 : okC mX11_namedHere 10 (.invokevirtual 134) 201 218 0 0 = true := by decide +kernel
def fX11_namedHere_10 (v0 : Nat) (v1 : Int32) (v2 : Int32) (s0 : Nat) (h : aH) : Option (Int32 × aH) :=
  (isO h 11 s0).bind fun _ =>
  (gX11_mustName s0 h).bind fun r =>
  fX11_namedHere_13 v0 v1 v2 r
theorem tX11_namedHere_10 {d : Nat} {z : Int32 × aH} (v0 : Nat) (v1 : Int32) (v2 : Int32) (s0 : Nat) (h : aH) (hf : fX11_namedHere_10 v0 v1 v2 s0 h = some z) : Ev (d + 6) none mX11_namedHere (0, 0) 10 [.ref v0, .int v1, .int v2, .null] [.ref s0] h (QI z) := by
  obtain ⟨_, h1, hf⟩ := bnd hf
  obtain ⟨fs, ho⟩ := isO_ok h1
  obtain ⟨r, h2, hf⟩ := bnd hf
  refine ev_V kqX11_namedHere_10 jX11_mustName (zX11_mustName (d := d + 0) h2) ho rfl rfl (Nat.le_of_ble_eq_true rfl) rfl (as := []) (rest := []) rfl (Nat.le_of_ble_eq_true rfl) (fun _ _ hq => ?_)
  obtain ⟨rfl, hh⟩ := hq
  rw [hh]
  exact jm [2, 1, 1, 0] (fun v0 v1 v2 => fX11_namedHere_13 v0 v1 v2 r) (fun v0 v1 v2 q => tX11_namedHere_13 v0 v1 v2 r q) hf
def wX11_namedHere_9 : List En := [(.aload_n 0, 0, 0, 0)]
def fX11_namedHere_9 (v0 : Nat) (v1 : Int32) (v2 : Int32) (h : aH) : Option (Int32 × aH) :=
  fX11_namedHere_10 v0 v1 v2 v0 h
theorem tX11_namedHere_9 {d : Nat} {z : Int32 × aH} (v0 : Nat) (v1 : Int32) (v2 : Int32) (h : aH) (hf : fX11_namedHere_9 v0 v1 v2 h = some z) : Ev (d + 6) none mX11_namedHere (0, 0) 9 [.ref v0, .int v1, .int v2, .null] [] h (QI z) := 
  go_ok (X := none) (blk := wX11_namedHere_9) (np := 10) (tt := 0) (kN := fun xs h st => app [2, 1, 1, 0] (fun v0 v1 v2 => apS [2] (fun s0 => fX11_namedHere_10 v0 v1 v2 s0 h) st) xs) (kT := fun _ _ _ => none) (kR := kRI)
    (fun xs h st q => jm [2, 1, 1, 0] _ (fun v0 v1 v2 q => apS_ok [2] _ (fun st => Ev (d + 6) none mX11_namedHere (0, 0) 10 [.ref v0, .int v1, .int v2, .null] st h (QI z)) st (fun s0 q => tX11_namedHere_10 v0 v1 v2 s0 h q) q) q)
    (fun _ _ _ q => nos q)
    kRI_ok (Or.inr rfl) (by decide +kernel) (by decide +kernel) hf
def wX11_namedHere_7 : List En := [(.iconst 0, 0, 0, 0), (.ireturn, 0, 0, 0)]
def fX11_namedHere_7 (h : aH) : Option (Int32 × aH) :=
  some ((kI 0), h)
theorem tX11_namedHere_7 {d : Nat} {z : Int32 × aH} (h : aH) (hf : fX11_namedHere_7 h = some z) : Ev (d + 6) none mX11_namedHere (0, 0) 7 [.null, .null, .null, .null] [] h (QI z) := 
  go_ok (X := none) (blk := wX11_namedHere_7) (np := 9) (tt := 0) (kN := fun _ _ _ => none) (kT := fun _ _ _ => none) (kR := kRI)
    (fun _ _ _ q => nos q)
    (fun _ _ _ q => nos q)
    kRI_ok (Or.inr rfl) (by decide +kernel) (by decide +kernel) hf
def wX11_namedHere_0 : List En := [(.aload_n 0, 0, 0, 0), (.getfield 91, 188, 11, 13), (.ifCond .eq 5, 9, 0, 0)]
def fX11_namedHere_0 (v0 : Nat) (v1 : Int32) (v2 : Int32) (h : aH) : Option (Int32 × aH) :=
  (gFI h 11 v0 13).bind fun t1 =>
  if t1 = 0 then fX11_namedHere_9 v0 v1 v2 h else fX11_namedHere_7 h
theorem tX11_namedHere_0 {d : Nat} {z : Int32 × aH} (v0 : Nat) (v1 : Int32) (v2 : Int32) (h : aH) (hf : fX11_namedHere_0 v0 v1 v2 h = some z) : Ev (d + 6) none mX11_namedHere (0, 0) 0 [.ref v0, .int v1, .int v2, .null] [] h (QI z) := 
  go_ok (X := none) (blk := wX11_namedHere_0) (np := 7) (tt := 9) (kN := fun xs h st => app [0, 0, 0, 0] (apS [] (fX11_namedHere_7 h) st) xs) (kT := fun xs h st => app [2, 1, 1, 0] (fun v0 v1 v2 => apS [] (fX11_namedHere_9 v0 v1 v2 h) st) xs) (kR := kRI)
    (fun xs h st q => jm [0, 0, 0, 0] _ (fun q => apS_ok [] _ (fun st => Ev (d + 6) none mX11_namedHere (0, 0) 7 [.null, .null, .null, .null] st h (QI z)) st (fun q => tX11_namedHere_7 h q) q) q)
    (fun xs h st q => jm [2, 1, 1, 0] _ (fun v0 v1 v2 q => apS_ok [] _ (fun st => Ev (d + 6) none mX11_namedHere (0, 0) 9 [.ref v0, .int v1, .int v2, .null] st h (QI z)) st (fun q => tX11_namedHere_9 v0 v1 v2 h q) q) q)
    kRI_ok (Or.inr rfl) (by decide +kernel) (by decide +kernel) hf
def gX11_namedHere (v0 : Nat) (v1 : Int32) (v2 : Int32) (h : aH) : Option (Int32 × aH) := fX11_namedHere_0 v0 v1 v2 h
theorem zX11_namedHere {d : Nat} {z : Int32 × aH} {v0 : Nat} {v1 : Int32} {v2 : Int32} {h : aH} (q : gX11_namedHere v0 v1 v2 h = some z) : CT (d + 6) mX11_namedHere (0, 0) [.ref v0, .int v1, .int v2] h (QI z) :=
  ct_ev (by decide +kernel) (Nat.le_of_ble_eq_true rfl) QI_r (jm [2, 1, 1, 0] (fun v0 v1 v2 => fX11_namedHere_0 v0 v1 v2 h) (fun v0 v1 v2 q => tX11_namedHere_0 v0 v1 v2 h q) q)
def wX11_personHere_6 : List En := [(.ireturn, 0, 0, 0)]
def fX11_personHere_6 (s0 : Int32) (h : aH) : Option (Int32 × aH) :=
  some (s0, h)
theorem tX11_personHere_6 {d : Nat} {z : Int32 × aH} (s0 : Int32) (h : aH) (hf : fX11_personHere_6 s0 h = some z) : Ev (d + 7) none mX11_personHere (0, 0) 6 [.null] [.int s0] h (QI z) := 
  go_ok (X := none) (blk := wX11_personHere_6) (np := 7) (tt := 0) (kN := fun _ _ _ => none) (kT := fun _ _ _ => none) (kR := kRI)
    (fun _ _ _ q => nos q)
    (fun _ _ _ q => nos q)
    kRI_ok (Or.inr rfl) (by decide +kernel) (by decide +kernel) hf
theorem kqX11_personHere_3 : okC mX11_personHere 3 (.invokevirtual 144) 206 223 0 2 = true := by decide +kernel
def fX11_personHere_3 (s0 : Int32) (s1 : Int32) (s2 : Nat) (h : aH) : Option (Int32 × aH) :=
  (isO h 11 s2).bind fun _ =>
  (gX11_namedHere s2 s1 s0 h).bind fun r =>
  fX11_personHere_6 r.1 r.2
theorem tX11_personHere_3 {d : Nat} {z : Int32 × aH} (s0 : Int32) (s1 : Int32) (s2 : Nat) (h : aH) (hf : fX11_personHere_3 s0 s1 s2 h = some z) : Ev (d + 7) none mX11_personHere (0, 0) 3 [.null] [.int s0, .int s1, .ref s2] h (QI z) := by
  obtain ⟨_, h1, hf⟩ := bnd hf
  obtain ⟨fs, ho⟩ := isO_ok h1
  obtain ⟨r, h2, hf⟩ := bnd hf
  refine ev_V kqX11_personHere_3 jX11_namedHere (zX11_namedHere (d := d + 0) h2) ho rfl rfl (Nat.le_of_ble_eq_true rfl) rfl (as := [.int s1, .int s0]) (rest := []) rfl (Nat.le_of_ble_eq_true rfl) (fun _ _ hq => ?_)
  obtain ⟨rfl, rfl⟩ := hq
  exact jm [0] (fX11_personHere_6 r.1 r.2) (fun q => tX11_personHere_6 r.1 r.2 q) hf
def wX11_personHere_0 : List En := [(.aload_n 0, 0, 0, 0), (.iconst 0, 0, 0, 0), (.iconst 4, 0, 0, 0)]
def fX11_personHere_0 (v0 : Nat) (h : aH) : Option (Int32 × aH) :=
  fX11_personHere_3 (kI 4) (kI 0) v0 h
theorem tX11_personHere_0 {d : Nat} {z : Int32 × aH} (v0 : Nat) (h : aH) (hf : fX11_personHere_0 v0 h = some z) : Ev (d + 7) none mX11_personHere (0, 0) 0 [.ref v0] [] h (QI z) := 
  go_ok (X := none) (blk := wX11_personHere_0) (np := 3) (tt := 0) (kN := fun xs h st => app [0] (apS [1, 1, 2] (fun s0 s1 s2 => fX11_personHere_3 s0 s1 s2 h) st) xs) (kT := fun _ _ _ => none) (kR := kRI)
    (fun xs h st q => jm [0] _ (fun q => apS_ok [1, 1, 2] _ (fun st => Ev (d + 7) none mX11_personHere (0, 0) 3 [.null] st h (QI z)) st (fun s0 s1 s2 q => tX11_personHere_3 s0 s1 s2 h q) q) q)
    (fun _ _ _ q => nos q)
    kRI_ok (Or.inr rfl) (by decide +kernel) (by decide +kernel) hf
def gX11_personHere (v0 : Nat) (h : aH) : Option (Int32 × aH) := fX11_personHere_0 v0 h
theorem zX11_personHere {d : Nat} {z : Int32 × aH} {v0 : Nat} {h : aH} (q : gX11_personHere v0 h = some z) : CT (d + 7) mX11_personHere (0, 0) [.ref v0] h (QI z) :=
  ct_ev (by decide +kernel) (Nat.le_of_ble_eq_true rfl) QI_r (jm [2] (fun v0 => fX11_personHere_0 v0 h) (fun v0 q => tX11_personHere_0 v0 h q) q)
def wX11_fastLine_125 : List En := [(.aload_n 0, 0, 0, 0), (.getfield 23, 191, 11, 16), (.iload_n 1, 0, 0, 0), (.iload_n 2, 0, 0, 0), (.iastore, 0, 0, 0), (.aload_n 0, 0, 0, 0), (.getfield 23, 191, 11, 16), (.iload_n 1, 0, 0, 0), (.iconst 1, 0, 0, 0), (.iadd, 0, 0, 0), (.iload_n 3, 0, 0, 0), (.iastore, 0, 0, 0), (.aload_n 0, 0, 0, 0), (.getfield 23, 191, 11, 16), (.iconst 5, 0, 0, 0), (.dup2, 0, 0, 0), (.iaload, 0, 0, 0), (.iconst 1, 0, 0, 0), (.iadd, 0, 0, 0), (.iastore, 0, 0, 0), (.return_, 0, 0, 0)]
def fX11_fastLine_125 (v0 : Nat) (v1 : Int32) (v2 : Int32) (v3 : Int32) (h : aH) : Option (aH) :=
  (gFR h 11 v0 16).bind fun t1 =>
  (aWI h t1 v1 v2).bind fun h2 =>
  (gFR h2 11 v0 16).bind fun t3 =>
  (aWI h2 t3 (v1 + (kI 1)) v3).bind fun h4 =>
  (gFR h4 11 v0 16).bind fun t5 =>
  (aRI (h4[t5]?) (kI 5)).bind fun t6 =>
  (aWI h4 t5 (kI 5) (t6 + (kI 1))).bind fun h7 =>
  some h7
theorem tX11_fastLine_125 {d : Nat} {z : aH} (v0 : Nat) (v1 : Int32) (v2 : Int32) (v3 : Int32) (h : aH) (hf : fX11_fastLine_125 v0 v1 v2 v3 h = some z) : Ev (d + 8) none mX11_fastLine (0, 0) 125 [.ref v0, .int v1, .int v2, .int v3, .null] [] h (QV z) := 
  go_ok (X := none) (blk := wX11_fastLine_125) (np := 152) (tt := 0) (kN := fun _ _ _ => none) (kT := fun _ _ _ => none) (kR := kRV)
    (fun _ _ _ q => nos q)
    (fun _ _ _ q => nos q)
    kRV_ok (Or.inr rfl) (by decide +kernel) (by decide +kernel) hf
def wX11_fastLine_124 : List En := [(.return_, 0, 0, 0)]
def fX11_fastLine_124 (h : aH) : Option (aH) :=
  some h
theorem tX11_fastLine_124 {d : Nat} {z : aH} (h : aH) (hf : fX11_fastLine_124 h = some z) : Ev (d + 8) none mX11_fastLine (0, 0) 124 [.null, .null, .null, .null, .null] [] h (QV z) := 
  go_ok (X := none) (blk := wX11_fastLine_124) (np := 125) (tt := 0) (kN := fun _ _ _ => none) (kT := fun _ _ _ => none) (kR := kRV)
    (fun _ _ _ q => nos q)
    (fun _ _ _ q => nos q)
    kRV_ok (Or.inr rfl) (by decide +kernel) (by decide +kernel) hf
def wX11_fastLine_117 : List En := [(.aload_n 0, 0, 0, 0), (.getfield 91, 188, 11, 13), (.ifCond .eq 4, 125, 0, 0)]
def fX11_fastLine_117 (v0 : Nat) (v1 : Int32) (v2 : Int32) (v3 : Int32) (h : aH) : Option (aH) :=
  (gFI h 11 v0 13).bind fun t1 =>
  if t1 = 0 then fX11_fastLine_125 v0 v1 v2 v3 h else fX11_fastLine_124 h
theorem tX11_fastLine_117 {d : Nat} {z : aH} (v0 : Nat) (v1 : Int32) (v2 : Int32) (v3 : Int32) (h : aH) (hf : fX11_fastLine_117 v0 v1 v2 v3 h = some z) : Ev (d + 8) none mX11_fastLine (0, 0) 117 [.ref v0, .int v1, .int v2, .int v3, .null] [] h (QV z) := 
  go_ok (X := none) (blk := wX11_fastLine_117) (np := 124) (tt := 125) (kN := fun xs h st => app [0, 0, 0, 0, 0] (apS [] (fX11_fastLine_124 h) st) xs) (kT := fun xs h st => app [2, 1, 1, 1, 0] (fun v0 v1 v2 v3 => apS [] (fX11_fastLine_125 v0 v1 v2 v3 h) st) xs) (kR := kRV)
    (fun xs h st q => jm [0, 0, 0, 0, 0] _ (fun q => apS_ok [] _ (fun st => Ev (d + 8) none mX11_fastLine (0, 0) 124 [.null, .null, .null, .null, .null] st h (QV z)) st (fun q => tX11_fastLine_124 h q) q) q)
    (fun xs h st q => jm [2, 1, 1, 1, 0] _ (fun v0 v1 v2 v3 q => apS_ok [] _ (fun st => Ev (d + 8) none mX11_fastLine (0, 0) 125 [.ref v0, .int v1, .int v2, .int v3, .null] st h (QV z)) st (fun q => tX11_fastLine_125 v0 v1 v2 v3 h q) q) q)
    kRV_ok (Or.inr rfl) (by decide +kernel) (by decide +kernel) hf
theorem kqX11_fastLine_114 : okC mX11_fastLine 114 (.invokevirtual 151) 197 214 0 0 = true := by decide +kernel
def fX11_fastLine_114 (v0 : Nat) (v1 : Int32) (v2 : Int32) (v3 : Int32) (s0 : Nat) (h : aH) : Option (aH) :=
  (isO h 11 s0).bind fun _ =>
  (gX11_pass s0 h).bind fun r =>
  fX11_fastLine_117 v0 v1 v2 v3 r
theorem tX11_fastLine_114 {d : Nat} {z : aH} (v0 : Nat) (v1 : Int32) (v2 : Int32) (v3 : Int32) (s0 : Nat) (h : aH) (hf : fX11_fastLine_114 v0 v1 v2 v3 s0 h = some z) : Ev (d + 8) none mX11_fastLine (0, 0) 114 [.ref v0, .int v1, .int v2, .int v3, .null] [.ref s0] h (QV z) := by
  obtain ⟨_, h1, hf⟩ := bnd hf
  obtain ⟨fs, ho⟩ := isO_ok h1
  obtain ⟨r, h2, hf⟩ := bnd hf
  refine ev_V kqX11_fastLine_114 jX11_pass (zX11_pass (d := d + 5) h2) ho rfl rfl (Nat.le_of_ble_eq_true rfl) rfl (as := []) (rest := []) rfl (Nat.le_of_ble_eq_true rfl) (fun _ _ hq => ?_)
  obtain ⟨rfl, hh⟩ := hq
  rw [hh]
  exact jm [2, 1, 1, 1, 0] (fun v0 v1 v2 v3 => fX11_fastLine_117 v0 v1 v2 v3 r) (fun v0 v1 v2 v3 q => tX11_fastLine_117 v0 v1 v2 v3 r q) hf
def wX11_fastLine_113 : List En := [(.aload_n 0, 0, 0, 0)]
def fX11_fastLine_113 (v0 : Nat) (v1 : Int32) (v2 : Int32) (v3 : Int32) (h : aH) : Option (aH) :=
  fX11_fastLine_114 v0 v1 v2 v3 v0 h
theorem tX11_fastLine_113 {d : Nat} {z : aH} (v0 : Nat) (v1 : Int32) (v2 : Int32) (v3 : Int32) (h : aH) (hf : fX11_fastLine_113 v0 v1 v2 v3 h = some z) : Ev (d + 8) none mX11_fastLine (0, 0) 113 [.ref v0, .int v1, .int v2, .int v3, .null] [] h (QV z) := 
  go_ok (X := none) (blk := wX11_fastLine_113) (np := 114) (tt := 0) (kN := fun xs h st => app [2, 1, 1, 1, 0] (fun v0 v1 v2 v3 => apS [2] (fun s0 => fX11_fastLine_114 v0 v1 v2 v3 s0 h) st) xs) (kT := fun _ _ _ => none) (kR := kRV)
    (fun xs h st q => jm [2, 1, 1, 1, 0] _ (fun v0 v1 v2 v3 q => apS_ok [2] _ (fun st => Ev (d + 8) none mX11_fastLine (0, 0) 114 [.ref v0, .int v1, .int v2, .int v3, .null] st h (QV z)) st (fun s0 q => tX11_fastLine_114 v0 v1 v2 v3 s0 h q) q) q)
    (fun _ _ _ q => nos q)
    kRV_ok (Or.inr rfl) (by decide +kernel) (by decide +kernel) hf
def wX11_fastLine_107 : List En := [(.iinc 4 1, 0, 0, 0), (.goto (-64), 46, 0, 0)]
def fX11_fastLine_107 (k46 : Nat → Int32 → Int32 → Int32 → Int32 → aH → Option (aH)) (v0 : Nat) (v1 : Int32) (v2 : Int32) (v3 : Int32) (v4 : Int32) (h : aH) : Option (aH) :=
  k46 v0 v1 v2 v3 (v4 + kI 1) h
theorem tX11_fastLine_107 {d : Nat} {z : aH} {k46 : Nat → Int32 → Int32 → Int32 → Int32 → aH → Option (aH)} (hk46 : ∀ (v0 : Nat) (v1 : Int32) (v2 : Int32) (v3 : Int32) (v4 : Int32) (h : aH), k46 v0 v1 v2 v3 v4 h = some z → Ev (d + 8) none mX11_fastLine (0, 0) 46 [.ref v0, .int v1, .int v2, .int v3, .int v4] [] h (QV z)) (v0 : Nat) (v1 : Int32) (v2 : Int32) (v3 : Int32) (v4 : Int32) (h : aH) (hf : fX11_fastLine_107 k46 v0 v1 v2 v3 v4 h = some z) : Ev (d + 8) none mX11_fastLine (0, 0) 107 [.ref v0, .int v1, .int v2, .int v3, .int v4] [] h (QV z) := 
  go_ok (X := none) (blk := wX11_fastLine_107) (np := 113) (tt := 46) (kN := fun _ _ _ => none) (kT := fun xs h st => app [2, 1, 1, 1, 1] (fun v0 v1 v2 v3 v4 => apS [] (k46 v0 v1 v2 v3 v4 h) st) xs) (kR := kRV)
    (fun _ _ _ q => nos q)
    (fun xs h st q => jm [2, 1, 1, 1, 1] _ (fun v0 v1 v2 v3 v4 q => apS_ok [] _ (fun st => Ev (d + 8) none mX11_fastLine (0, 0) 46 [.ref v0, .int v1, .int v2, .int v3, .int v4] st h (QV z)) st (fun q => hk46 v0 v1 v2 v3 v4 h q) q) q)
    kRV_ok (Or.inr rfl) (by decide +kernel) (by decide +kernel) hf
theorem kqX11_fastLine_104 : okC mX11_fastLine 104 (.invokevirtual 118) 191 208 0 2 = true := by decide +kernel
def fX11_fastLine_104 (k46 : Nat → Int32 → Int32 → Int32 → Int32 → aH → Option (aH)) (v0 : Nat) (v1 : Int32) (v2 : Int32) (v3 : Int32) (v4 : Int32) (s0 : Int32) (s1 : Int32) (s2 : Nat) (h : aH) : Option (aH) :=
  (isO h 11 s2).bind fun _ =>
  (gX11_wrong s2 s1 s0 h).bind fun r =>
  fX11_fastLine_107 k46 v0 v1 v2 v3 v4 r
theorem tX11_fastLine_104 {d : Nat} {z : aH} {k46 : Nat → Int32 → Int32 → Int32 → Int32 → aH → Option (aH)} (hk46 : ∀ (v0 : Nat) (v1 : Int32) (v2 : Int32) (v3 : Int32) (v4 : Int32) (h : aH), k46 v0 v1 v2 v3 v4 h = some z → Ev (d + 8) none mX11_fastLine (0, 0) 46 [.ref v0, .int v1, .int v2, .int v3, .int v4] [] h (QV z)) (v0 : Nat) (v1 : Int32) (v2 : Int32) (v3 : Int32) (v4 : Int32) (s0 : Int32) (s1 : Int32) (s2 : Nat) (h : aH) (hf : fX11_fastLine_104 k46 v0 v1 v2 v3 v4 s0 s1 s2 h = some z) : Ev (d + 8) none mX11_fastLine (0, 0) 104 [.ref v0, .int v1, .int v2, .int v3, .int v4] [.int s0, .int s1, .ref s2] h (QV z) := by
  obtain ⟨_, h1, hf⟩ := bnd hf
  obtain ⟨fs, ho⟩ := isO_ok h1
  obtain ⟨r, h2, hf⟩ := bnd hf
  refine ev_V kqX11_fastLine_104 jX11_wrong (zX11_wrong (d := d + 7) h2) ho rfl rfl (Nat.le_of_ble_eq_true rfl) rfl (as := [.int s1, .int s0]) (rest := []) rfl (Nat.le_of_ble_eq_true rfl) (fun _ _ hq => ?_)
  obtain ⟨rfl, hh⟩ := hq
  rw [hh]
  exact jm [2, 1, 1, 1, 1] (fun v0 v1 v2 v3 v4 => fX11_fastLine_107 k46 v0 v1 v2 v3 v4 r) (fun v0 v1 v2 v3 v4 q => tX11_fastLine_107 hk46 v0 v1 v2 v3 v4 r q) hf
def wX11_fastLine_98 : List En := [(.aload_n 0, 0, 0, 0), (.iconst 3, 0, 0, 0), (.aload_n 0, 0, 0, 0), (.getfield 72, 179, 11, 4)]
def fX11_fastLine_98 (k46 : Nat → Int32 → Int32 → Int32 → Int32 → aH → Option (aH)) (v0 : Nat) (v1 : Int32) (v2 : Int32) (v3 : Int32) (v4 : Int32) (h : aH) : Option (aH) :=
  (gFI h 11 v0 4).bind fun t1 =>
  fX11_fastLine_104 k46 v0 v1 v2 v3 v4 t1 (kI 3) v0 h
theorem tX11_fastLine_98 {d : Nat} {z : aH} {k46 : Nat → Int32 → Int32 → Int32 → Int32 → aH → Option (aH)} (hk46 : ∀ (v0 : Nat) (v1 : Int32) (v2 : Int32) (v3 : Int32) (v4 : Int32) (h : aH), k46 v0 v1 v2 v3 v4 h = some z → Ev (d + 8) none mX11_fastLine (0, 0) 46 [.ref v0, .int v1, .int v2, .int v3, .int v4] [] h (QV z)) (v0 : Nat) (v1 : Int32) (v2 : Int32) (v3 : Int32) (v4 : Int32) (h : aH) (hf : fX11_fastLine_98 k46 v0 v1 v2 v3 v4 h = some z) : Ev (d + 8) none mX11_fastLine (0, 0) 98 [.ref v0, .int v1, .int v2, .int v3, .int v4] [] h (QV z) := 
  go_ok (X := none) (blk := wX11_fastLine_98) (np := 104) (tt := 0) (kN := fun xs h st => app [2, 1, 1, 1, 1] (fun v0 v1 v2 v3 v4 => apS [1, 1, 2] (fun s0 s1 s2 => fX11_fastLine_104 k46 v0 v1 v2 v3 v4 s0 s1 s2 h) st) xs) (kT := fun _ _ _ => none) (kR := kRV)
    (fun xs h st q => jm [2, 1, 1, 1, 1] _ (fun v0 v1 v2 v3 v4 q => apS_ok [1, 1, 2] _ (fun st => Ev (d + 8) none mX11_fastLine (0, 0) 104 [.ref v0, .int v1, .int v2, .int v3, .int v4] st h (QV z)) st (fun s0 s1 s2 q => tX11_fastLine_104 hk46 v0 v1 v2 v3 v4 s0 s1 s2 h q) q) q)
    (fun _ _ _ q => nos q)
    kRV_ok (Or.inr rfl) (by decide +kernel) (by decide +kernel) hf
def wX11_fastLine_80 : List En := [(.aload_n 0, 0, 0, 0), (.getfield 23, 191, 11, 16), (.bipush 35, 0, 0, 0), (.iconst 2, 0, 0, 0), (.iload 4, 0, 0, 0), (.imul, 0, 0, 0), (.iadd, 0, 0, 0), (.iconst 1, 0, 0, 0), (.iadd, 0, 0, 0), (.iaload, 0, 0, 0), (.iload_n 3, 0, 0, 0), (.if_icmp .ne 12, 107, 0, 0)]
def fX11_fastLine_80 (k46 : Nat → Int32 → Int32 → Int32 → Int32 → aH → Option (aH)) (v0 : Nat) (v1 : Int32) (v2 : Int32) (v3 : Int32) (v4 : Int32) (h : aH) : Option (aH) :=
  (gFR h 11 v0 16).bind fun t1 =>
  (aRI (h[t1]?) (((kB 35) + ((kI 2) * v4)) + (kI 1))).bind fun t2 =>
  if t2 = v3 then fX11_fastLine_98 k46 v0 v1 v2 v3 v4 h else fX11_fastLine_107 k46 v0 v1 v2 v3 v4 h
theorem tX11_fastLine_80 {d : Nat} {z : aH} {k46 : Nat → Int32 → Int32 → Int32 → Int32 → aH → Option (aH)} (hk46 : ∀ (v0 : Nat) (v1 : Int32) (v2 : Int32) (v3 : Int32) (v4 : Int32) (h : aH), k46 v0 v1 v2 v3 v4 h = some z → Ev (d + 8) none mX11_fastLine (0, 0) 46 [.ref v0, .int v1, .int v2, .int v3, .int v4] [] h (QV z)) (v0 : Nat) (v1 : Int32) (v2 : Int32) (v3 : Int32) (v4 : Int32) (h : aH) (hf : fX11_fastLine_80 k46 v0 v1 v2 v3 v4 h = some z) : Ev (d + 8) none mX11_fastLine (0, 0) 80 [.ref v0, .int v1, .int v2, .int v3, .int v4] [] h (QV z) := 
  go_ok (X := none) (blk := wX11_fastLine_80) (np := 98) (tt := 107) (kN := fun xs h st => app [2, 1, 1, 1, 1] (fun v0 v1 v2 v3 v4 => apS [] (fX11_fastLine_98 k46 v0 v1 v2 v3 v4 h) st) xs) (kT := fun xs h st => app [2, 1, 1, 1, 1] (fun v0 v1 v2 v3 v4 => apS [] (fX11_fastLine_107 k46 v0 v1 v2 v3 v4 h) st) xs) (kR := kRV)
    (fun xs h st q => jm [2, 1, 1, 1, 1] _ (fun v0 v1 v2 v3 v4 q => apS_ok [] _ (fun st => Ev (d + 8) none mX11_fastLine (0, 0) 98 [.ref v0, .int v1, .int v2, .int v3, .int v4] st h (QV z)) st (fun q => tX11_fastLine_98 hk46 v0 v1 v2 v3 v4 h q) q) q)
    (fun xs h st q => jm [2, 1, 1, 1, 1] _ (fun v0 v1 v2 v3 v4 q => apS_ok [] _ (fun st => Ev (d + 8) none mX11_fastLine (0, 0) 107 [.ref v0, .int v1, .int v2, .int v3, .int v4] st h (QV z)) st (fun q => tX11_fastLine_107 hk46 v0 v1 v2 v3 v4 h q) q) q)
    kRV_ok (Or.inr rfl) (by decide +kernel) (by decide +kernel) hf
def wX11_fastLine_64 : List En := [(.aload_n 0, 0, 0, 0), (.getfield 23, 191, 11, 16), (.bipush 35, 0, 0, 0), (.iconst 2, 0, 0, 0), (.iload 4, 0, 0, 0), (.imul, 0, 0, 0), (.iadd, 0, 0, 0), (.iaload, 0, 0, 0), (.iload_n 2, 0, 0, 0), (.if_icmp .ne 30, 107, 0, 0)]
def fX11_fastLine_64 (k46 : Nat → Int32 → Int32 → Int32 → Int32 → aH → Option (aH)) (v0 : Nat) (v1 : Int32) (v2 : Int32) (v3 : Int32) (v4 : Int32) (h : aH) : Option (aH) :=
  (gFR h 11 v0 16).bind fun t1 =>
  (aRI (h[t1]?) ((kB 35) + ((kI 2) * v4))).bind fun t2 =>
  if t2 = v2 then fX11_fastLine_80 k46 v0 v1 v2 v3 v4 h else fX11_fastLine_107 k46 v0 v1 v2 v3 v4 h
theorem tX11_fastLine_64 {d : Nat} {z : aH} {k46 : Nat → Int32 → Int32 → Int32 → Int32 → aH → Option (aH)} (hk46 : ∀ (v0 : Nat) (v1 : Int32) (v2 : Int32) (v3 : Int32) (v4 : Int32) (h : aH), k46 v0 v1 v2 v3 v4 h = some z → Ev (d + 8) none mX11_fastLine (0, 0) 46 [.ref v0, .int v1, .int v2, .int v3, .int v4] [] h (QV z)) (v0 : Nat) (v1 : Int32) (v2 : Int32) (v3 : Int32) (v4 : Int32) (h : aH) (hf : fX11_fastLine_64 k46 v0 v1 v2 v3 v4 h = some z) : Ev (d + 8) none mX11_fastLine (0, 0) 64 [.ref v0, .int v1, .int v2, .int v3, .int v4] [] h (QV z) := 
  go_ok (X := none) (blk := wX11_fastLine_64) (np := 80) (tt := 107) (kN := fun xs h st => app [2, 1, 1, 1, 1] (fun v0 v1 v2 v3 v4 => apS [] (fX11_fastLine_80 k46 v0 v1 v2 v3 v4 h) st) xs) (kT := fun xs h st => app [2, 1, 1, 1, 1] (fun v0 v1 v2 v3 v4 => apS [] (fX11_fastLine_107 k46 v0 v1 v2 v3 v4 h) st) xs) (kR := kRV)
    (fun xs h st q => jm [2, 1, 1, 1, 1] _ (fun v0 v1 v2 v3 v4 q => apS_ok [] _ (fun st => Ev (d + 8) none mX11_fastLine (0, 0) 80 [.ref v0, .int v1, .int v2, .int v3, .int v4] st h (QV z)) st (fun q => tX11_fastLine_80 hk46 v0 v1 v2 v3 v4 h q) q) q)
    (fun xs h st q => jm [2, 1, 1, 1, 1] _ (fun v0 v1 v2 v3 v4 q => apS_ok [] _ (fun st => Ev (d + 8) none mX11_fastLine (0, 0) 107 [.ref v0, .int v1, .int v2, .int v3, .int v4] st h (QV z)) st (fun q => tX11_fastLine_107 hk46 v0 v1 v2 v3 v4 h q) q) q)
    kRV_ok (Or.inr rfl) (by decide +kernel) (by decide +kernel) hf
def wX11_fastLine_57 : List En := [(.aload_n 0, 0, 0, 0), (.getfield 91, 188, 11, 13), (.ifCond .ne 46, 107, 0, 0)]
def fX11_fastLine_57 (k46 : Nat → Int32 → Int32 → Int32 → Int32 → aH → Option (aH)) (v0 : Nat) (v1 : Int32) (v2 : Int32) (v3 : Int32) (v4 : Int32) (h : aH) : Option (aH) :=
  (gFI h 11 v0 13).bind fun t1 =>
  if t1 = 0 then fX11_fastLine_64 k46 v0 v1 v2 v3 v4 h else fX11_fastLine_107 k46 v0 v1 v2 v3 v4 h
theorem tX11_fastLine_57 {d : Nat} {z : aH} {k46 : Nat → Int32 → Int32 → Int32 → Int32 → aH → Option (aH)} (hk46 : ∀ (v0 : Nat) (v1 : Int32) (v2 : Int32) (v3 : Int32) (v4 : Int32) (h : aH), k46 v0 v1 v2 v3 v4 h = some z → Ev (d + 8) none mX11_fastLine (0, 0) 46 [.ref v0, .int v1, .int v2, .int v3, .int v4] [] h (QV z)) (v0 : Nat) (v1 : Int32) (v2 : Int32) (v3 : Int32) (v4 : Int32) (h : aH) (hf : fX11_fastLine_57 k46 v0 v1 v2 v3 v4 h = some z) : Ev (d + 8) none mX11_fastLine (0, 0) 57 [.ref v0, .int v1, .int v2, .int v3, .int v4] [] h (QV z) := 
  go_ok (X := none) (blk := wX11_fastLine_57) (np := 64) (tt := 107) (kN := fun xs h st => app [2, 1, 1, 1, 1] (fun v0 v1 v2 v3 v4 => apS [] (fX11_fastLine_64 k46 v0 v1 v2 v3 v4 h) st) xs) (kT := fun xs h st => app [2, 1, 1, 1, 1] (fun v0 v1 v2 v3 v4 => apS [] (fX11_fastLine_107 k46 v0 v1 v2 v3 v4 h) st) xs) (kR := kRV)
    (fun xs h st q => jm [2, 1, 1, 1, 1] _ (fun v0 v1 v2 v3 v4 q => apS_ok [] _ (fun st => Ev (d + 8) none mX11_fastLine (0, 0) 64 [.ref v0, .int v1, .int v2, .int v3, .int v4] st h (QV z)) st (fun q => tX11_fastLine_64 hk46 v0 v1 v2 v3 v4 h q) q) q)
    (fun xs h st q => jm [2, 1, 1, 1, 1] _ (fun v0 v1 v2 v3 v4 q => apS_ok [] _ (fun st => Ev (d + 8) none mX11_fastLine (0, 0) 107 [.ref v0, .int v1, .int v2, .int v3, .int v4] st h (QV z)) st (fun q => tX11_fastLine_107 hk46 v0 v1 v2 v3 v4 h q) q) q)
    kRV_ok (Or.inr rfl) (by decide +kernel) (by decide +kernel) hf
def wX11_fastLine_46 : List En := [(.iload 4, 0, 0, 0), (.aload_n 0, 0, 0, 0), (.getfield 23, 191, 11, 16), (.iconst 5, 0, 0, 0), (.iaload, 0, 0, 0), (.if_icmp .ge 59, 113, 0, 0)]
def fX11_fastLine_46 (k46 : Nat → Int32 → Int32 → Int32 → Int32 → aH → Option (aH)) (v0 : Nat) (v1 : Int32) (v2 : Int32) (v3 : Int32) (v4 : Int32) (h : aH) : Option (aH) :=
  (gFR h 11 v0 16).bind fun t1 =>
  (aRI (h[t1]?) (kI 5)).bind fun t2 =>
  if v4 < t2 then fX11_fastLine_57 k46 v0 v1 v2 v3 v4 h else fX11_fastLine_113 v0 v1 v2 v3 h
theorem tX11_fastLine_46 {d : Nat} {z : aH} {k46 : Nat → Int32 → Int32 → Int32 → Int32 → aH → Option (aH)} (hk46 : ∀ (v0 : Nat) (v1 : Int32) (v2 : Int32) (v3 : Int32) (v4 : Int32) (h : aH), k46 v0 v1 v2 v3 v4 h = some z → Ev (d + 8) none mX11_fastLine (0, 0) 46 [.ref v0, .int v1, .int v2, .int v3, .int v4] [] h (QV z)) (v0 : Nat) (v1 : Int32) (v2 : Int32) (v3 : Int32) (v4 : Int32) (h : aH) (hf : fX11_fastLine_46 k46 v0 v1 v2 v3 v4 h = some z) : Ev (d + 8) none mX11_fastLine (0, 0) 46 [.ref v0, .int v1, .int v2, .int v3, .int v4] [] h (QV z) := 
  go_ok (X := none) (blk := wX11_fastLine_46) (np := 57) (tt := 113) (kN := fun xs h st => app [2, 1, 1, 1, 1] (fun v0 v1 v2 v3 v4 => apS [] (fX11_fastLine_57 k46 v0 v1 v2 v3 v4 h) st) xs) (kT := fun xs h st => app [2, 1, 1, 1, 0] (fun v0 v1 v2 v3 => apS [] (fX11_fastLine_113 v0 v1 v2 v3 h) st) xs) (kR := kRV)
    (fun xs h st q => jm [2, 1, 1, 1, 1] _ (fun v0 v1 v2 v3 v4 q => apS_ok [] _ (fun st => Ev (d + 8) none mX11_fastLine (0, 0) 57 [.ref v0, .int v1, .int v2, .int v3, .int v4] st h (QV z)) st (fun q => tX11_fastLine_57 hk46 v0 v1 v2 v3 v4 h q) q) q)
    (fun xs h st q => jm [2, 1, 1, 1, 0] _ (fun v0 v1 v2 v3 q => apS_ok [] _ (fun st => Ev (d + 8) none mX11_fastLine (0, 0) 113 [.ref v0, .int v1, .int v2, .int v3, .null] st h (QV z)) st (fun q => tX11_fastLine_113 v0 v1 v2 v3 h q) q) q)
    kRV_ok (Or.inr rfl) (by decide +kernel) (by decide +kernel) hf
def lX11_fastLine_46 : Nat → Nat → Int32 → Int32 → Int32 → Int32 → aH → Option (aH)
  | 0, _, _, _, _, _, _ => none
  | n + 1, v0, v1, v2, v3, v4, h => fX11_fastLine_46 (lX11_fastLine_46 n) v0 v1 v2 v3 v4 h
theorem uX11_fastLine_46 {d : Nat} {z : aH} : ∀ (n : Nat) (v0 : Nat) (v1 : Int32) (v2 : Int32) (v3 : Int32) (v4 : Int32) (h : aH), lX11_fastLine_46 n v0 v1 v2 v3 v4 h = some z → Ev (d + 8) none mX11_fastLine (0, 0) 46 [.ref v0, .int v1, .int v2, .int v3, .int v4] [] h (QV z) := by
  intro n
  induction n with
  | zero => intro _ _ _ _ _ _ q; exact nos (show (none : Option (aH)) = some z from q)
  | succ n ih => intro v0 v1 v2 v3 v4 h q; exact tX11_fastLine_46 ih v0 v1 v2 v3 v4 h q
def wX11_fastLine_42 : List En := [(.istore_n 3, 0, 0, 0), (.iconst 0, 0, 0, 0), (.istore 4, 0, 0, 0)]
def fX11_fastLine_42 (v0 : Nat) (v1 : Int32) (v2 : Int32) (s0 : Int32) (h : aH) : Option (aH) :=
  lX11_fastLine_46 FU v0 v1 v2 s0 (kI 0) h
theorem tX11_fastLine_42 {d : Nat} {z : aH} (v0 : Nat) (v1 : Int32) (v2 : Int32) (s0 : Int32) (h : aH) (hf : fX11_fastLine_42 v0 v1 v2 s0 h = some z) : Ev (d + 8) none mX11_fastLine (0, 0) 42 [.ref v0, .int v1, .int v2, .null, .null] [.int s0] h (QV z) := 
  go_ok (X := none) (blk := wX11_fastLine_42) (np := 46) (tt := 0) (kN := fun xs h st => app [2, 1, 1, 1, 1] (fun v0 v1 v2 v3 v4 => apS [] (lX11_fastLine_46 FU v0 v1 v2 v3 v4 h) st) xs) (kT := fun _ _ _ => none) (kR := kRV)
    (fun xs h st q => jm [2, 1, 1, 1, 1] _ (fun v0 v1 v2 v3 v4 q => apS_ok [] _ (fun st => Ev (d + 8) none mX11_fastLine (0, 0) 46 [.ref v0, .int v1, .int v2, .int v3, .int v4] st h (QV z)) st (fun q => uX11_fastLine_46 FU v0 v1 v2 v3 v4 h q) q) q)
    (fun _ _ _ q => nos q)
    kRV_ok (Or.inr rfl) (by decide +kernel) (by decide +kernel) hf
theorem kqX11_fastLine_39 : okC mX11_fastLine 39 (.invokevirtual 148) 196 213 0 2 = true := by decide +kernel
def fX11_fastLine_39 (v0 : Nat) (v1 : Int32) (v2 : Int32) (s0 : Int32) (s1 : Int32) (s2 : Nat) (h : aH) : Option (aH) :=
  (isO h 11 s2).bind fun _ =>
  (gX11_numberHere s2 s1 s0 h).bind fun r =>
  fX11_fastLine_42 v0 v1 v2 r.1 r.2
theorem tX11_fastLine_39 {d : Nat} {z : aH} (v0 : Nat) (v1 : Int32) (v2 : Int32) (s0 : Int32) (s1 : Int32) (s2 : Nat) (h : aH) (hf : fX11_fastLine_39 v0 v1 v2 s0 s1 s2 h = some z) : Ev (d + 8) none mX11_fastLine (0, 0) 39 [.ref v0, .int v1, .int v2, .null, .null] [.int s0, .int s1, .ref s2] h (QV z) := by
  obtain ⟨_, h1, hf⟩ := bnd hf
  obtain ⟨fs, ho⟩ := isO_ok h1
  obtain ⟨r, h2, hf⟩ := bnd hf
  refine ev_V kqX11_fastLine_39 jX11_numberHere (zX11_numberHere (d := d + 6) h2) ho rfl rfl (Nat.le_of_ble_eq_true rfl) rfl (as := [.int s1, .int s0]) (rest := []) rfl (Nat.le_of_ble_eq_true rfl) (fun _ _ hq => ?_)
  obtain ⟨rfl, rfl⟩ := hq
  exact jm [2, 1, 1, 0, 0] (fun v0 v1 v2 => fX11_fastLine_42 v0 v1 v2 r.1 r.2) (fun v0 v1 v2 q => tX11_fastLine_42 v0 v1 v2 r.1 r.2 q) hf
def wX11_fastLine_35 : List En := [(.aload_n 0, 0, 0, 0), (.iconst 1, 0, 0, 0), (.bipush 60, 0, 0, 0)]
def fX11_fastLine_35 (v0 : Nat) (v1 : Int32) (v2 : Int32) (h : aH) : Option (aH) :=
  fX11_fastLine_39 v0 v1 v2 (kB 60) (kI 1) v0 h
theorem tX11_fastLine_35 {d : Nat} {z : aH} (v0 : Nat) (v1 : Int32) (v2 : Int32) (h : aH) (hf : fX11_fastLine_35 v0 v1 v2 h = some z) : Ev (d + 8) none mX11_fastLine (0, 0) 35 [.ref v0, .int v1, .int v2, .null, .null] [] h (QV z) := 
  go_ok (X := none) (blk := wX11_fastLine_35) (np := 39) (tt := 0) (kN := fun xs h st => app [2, 1, 1, 0, 0] (fun v0 v1 v2 => apS [1, 1, 2] (fun s0 s1 s2 => fX11_fastLine_39 v0 v1 v2 s0 s1 s2 h) st) xs) (kT := fun _ _ _ => none) (kR := kRV)
    (fun xs h st q => jm [2, 1, 1, 0, 0] _ (fun v0 v1 v2 q => apS_ok [1, 1, 2] _ (fun st => Ev (d + 8) none mX11_fastLine (0, 0) 39 [.ref v0, .int v1, .int v2, .null, .null] st h (QV z)) st (fun s0 s1 s2 q => tX11_fastLine_39 v0 v1 v2 s0 s1 s2 h q) q) q)
    (fun _ _ _ q => nos q)
    kRV_ok (Or.inr rfl) (by decide +kernel) (by decide +kernel) hf
theorem kqX11_fastLine_32 : okC mX11_fastLine 32 (.invokevirtual 154) 193 210 0 1 = true := by decide +kernel
def fX11_fastLine_32 (v0 : Nat) (v1 : Int32) (v2 : Int32) (s0 : Nat) (s1 : Nat) (h : aH) : Option (aH) :=
  (isO h 11 s1).bind fun _ =>
  (gX11_must s1 s0 h).bind fun r =>
  fX11_fastLine_35 v0 v1 v2 r
theorem tX11_fastLine_32 {d : Nat} {z : aH} (v0 : Nat) (v1 : Int32) (v2 : Int32) (s0 : Nat) (s1 : Nat) (h : aH) (hf : fX11_fastLine_32 v0 v1 v2 s0 s1 h = some z) : Ev (d + 8) none mX11_fastLine (0, 0) 32 [.ref v0, .int v1, .int v2, .null, .null] [.ref s0, .ref s1] h (QV z) := by
  obtain ⟨_, h1, hf⟩ := bnd hf
  obtain ⟨fs, ho⟩ := isO_ok h1
  obtain ⟨r, h2, hf⟩ := bnd hf
  refine ev_V kqX11_fastLine_32 jX11_must (zX11_must (d := d + 1) h2) ho rfl rfl (Nat.le_of_ble_eq_true rfl) rfl (as := [.ref s0]) (rest := []) rfl (Nat.le_of_ble_eq_true rfl) (fun _ _ hq => ?_)
  obtain ⟨rfl, hh⟩ := hq
  rw [hh]
  exact jm [2, 1, 1, 0, 0] (fun v0 v1 v2 => fX11_fastLine_35 v0 v1 v2 r) (fun v0 v1 v2 q => tX11_fastLine_35 v0 v1 v2 r q) hf
theorem kqX11_fastLine_30 : ckS mX11_fastLine 30 236 33 = true := by decide +kernel -- day
def fX11_fastLine_30 (v0 : Nat) (v1 : Int32) (v2 : Int32) (s0 : Nat) (h : aH) : Option (aH) :=
  fX11_fastLine_32 v0 v1 v2 (SB + 33) s0 h
theorem tX11_fastLine_30 {d : Nat} {z : aH} (v0 : Nat) (v1 : Int32) (v2 : Int32) (s0 : Nat) (h : aH) (hf : fX11_fastLine_30 v0 v1 v2 s0 h = some z) : Ev (d + 8) none mX11_fastLine (0, 0) 30 [.ref v0, .int v1, .int v2, .null, .null] [.ref s0] h (QV z) := 
  ev_ldcS kqX11_fastLine_30 rfl (jm [2, 1, 1, 0, 0] (fun v0 v1 v2 => fX11_fastLine_32 v0 v1 v2 (SB + 33) s0 h) (fun v0 v1 v2 q => tX11_fastLine_32 v0 v1 v2 (SB + 33) s0 h q) hf)
def wX11_fastLine_29 : List En := [(.aload_n 0, 0, 0, 0)]
def fX11_fastLine_29 (v0 : Nat) (v1 : Int32) (v2 : Int32) (h : aH) : Option (aH) :=
  fX11_fastLine_30 v0 v1 v2 v0 h
theorem tX11_fastLine_29 {d : Nat} {z : aH} (v0 : Nat) (v1 : Int32) (v2 : Int32) (h : aH) (hf : fX11_fastLine_29 v0 v1 v2 h = some z) : Ev (d + 8) none mX11_fastLine (0, 0) 29 [.ref v0, .int v1, .int v2, .null, .null] [] h (QV z) := 
  go_ok (X := none) (blk := wX11_fastLine_29) (np := 30) (tt := 0) (kN := fun xs h st => app [2, 1, 1, 0, 0] (fun v0 v1 v2 => apS [2] (fun s0 => fX11_fastLine_30 v0 v1 v2 s0 h) st) xs) (kT := fun _ _ _ => none) (kR := kRV)
    (fun xs h st q => jm [2, 1, 1, 0, 0] _ (fun v0 v1 v2 q => apS_ok [2] _ (fun st => Ev (d + 8) none mX11_fastLine (0, 0) 30 [.ref v0, .int v1, .int v2, .null, .null] st h (QV z)) st (fun s0 q => tX11_fastLine_30 v0 v1 v2 s0 h q) q) q)
    (fun _ _ _ q => nos q)
    kRV_ok (Or.inr rfl) (by decide +kernel) (by decide +kernel) hf
theorem kqX11_fastLine_26 : okC mX11_fastLine 26 (.invokevirtual 151) 197 214 0 0 = true := by decide +kernel
def fX11_fastLine_26 (v0 : Nat) (v1 : Int32) (v2 : Int32) (s0 : Nat) (h : aH) : Option (aH) :=
  (isO h 11 s0).bind fun _ =>
  (gX11_pass s0 h).bind fun r =>
  fX11_fastLine_29 v0 v1 v2 r
theorem tX11_fastLine_26 {d : Nat} {z : aH} (v0 : Nat) (v1 : Int32) (v2 : Int32) (s0 : Nat) (h : aH) (hf : fX11_fastLine_26 v0 v1 v2 s0 h = some z) : Ev (d + 8) none mX11_fastLine (0, 0) 26 [.ref v0, .int v1, .int v2, .null, .null] [.ref s0] h (QV z) := by
  obtain ⟨_, h1, hf⟩ := bnd hf
  obtain ⟨fs, ho⟩ := isO_ok h1
  obtain ⟨r, h2, hf⟩ := bnd hf
  refine ev_V kqX11_fastLine_26 jX11_pass (zX11_pass (d := d + 5) h2) ho rfl rfl (Nat.le_of_ble_eq_true rfl) rfl (as := []) (rest := []) rfl (Nat.le_of_ble_eq_true rfl) (fun _ _ hq => ?_)
  obtain ⟨rfl, hh⟩ := hq
  rw [hh]
  exact jm [2, 1, 1, 0, 0] (fun v0 v1 v2 => fX11_fastLine_29 v0 v1 v2 r) (fun v0 v1 v2 q => tX11_fastLine_29 v0 v1 v2 r q) hf
def wX11_fastLine_24 : List En := [(.istore_n 2, 0, 0, 0), (.aload_n 0, 0, 0, 0)]
def fX11_fastLine_24 (v0 : Nat) (v1 : Int32) (s0 : Int32) (h : aH) : Option (aH) :=
  fX11_fastLine_26 v0 v1 s0 v0 h
theorem tX11_fastLine_24 {d : Nat} {z : aH} (v0 : Nat) (v1 : Int32) (s0 : Int32) (h : aH) (hf : fX11_fastLine_24 v0 v1 s0 h = some z) : Ev (d + 8) none mX11_fastLine (0, 0) 24 [.ref v0, .int v1, .null, .null, .null] [.int s0] h (QV z) := 
  go_ok (X := none) (blk := wX11_fastLine_24) (np := 26) (tt := 0) (kN := fun xs h st => app [2, 1, 1, 0, 0] (fun v0 v1 v2 => apS [2] (fun s0 => fX11_fastLine_26 v0 v1 v2 s0 h) st) xs) (kT := fun _ _ _ => none) (kR := kRV)
    (fun xs h st q => jm [2, 1, 1, 0, 0] _ (fun v0 v1 v2 q => apS_ok [2] _ (fun st => Ev (d + 8) none mX11_fastLine (0, 0) 26 [.ref v0, .int v1, .int v2, .null, .null] st h (QV z)) st (fun s0 q => tX11_fastLine_26 v0 v1 v2 s0 h q) q) q)
    (fun _ _ _ q => nos q)
    kRV_ok (Or.inr rfl) (by decide +kernel) (by decide +kernel) hf
theorem kqX11_fastLine_21 : okC mX11_fastLine 21 (.invokevirtual 233) 205 222 0 0 = true := by decide +kernel
def fX11_fastLine_21 (v0 : Nat) (v1 : Int32) (s0 : Nat) (h : aH) : Option (aH) :=
  (isO h 11 s0).bind fun _ =>
  (gX11_personHere s0 h).bind fun r =>
  fX11_fastLine_24 v0 v1 r.1 r.2
theorem tX11_fastLine_21 {d : Nat} {z : aH} (v0 : Nat) (v1 : Int32) (s0 : Nat) (h : aH) (hf : fX11_fastLine_21 v0 v1 s0 h = some z) : Ev (d + 8) none mX11_fastLine (0, 0) 21 [.ref v0, .int v1, .null, .null, .null] [.ref s0] h (QV z) := by
  obtain ⟨_, h1, hf⟩ := bnd hf
  obtain ⟨fs, ho⟩ := isO_ok h1
  obtain ⟨r, h2, hf⟩ := bnd hf
  refine ev_V kqX11_fastLine_21 jX11_personHere (zX11_personHere (d := d + 0) h2) ho rfl rfl (Nat.le_of_ble_eq_true rfl) rfl (as := []) (rest := []) rfl (Nat.le_of_ble_eq_true rfl) (fun _ _ hq => ?_)
  obtain ⟨rfl, rfl⟩ := hq
  exact jm [2, 1, 0, 0, 0] (fun v0 v1 => fX11_fastLine_24 v0 v1 r.1 r.2) (fun v0 v1 q => tX11_fastLine_24 v0 v1 r.1 r.2 q) hf
def wX11_fastLine_8 : List En := [(.bipush 35, 0, 0, 0), (.iconst 2, 0, 0, 0), (.aload_n 0, 0, 0, 0), (.getfield 23, 191, 11, 16), (.iconst 5, 0, 0, 0), (.iaload, 0, 0, 0), (.imul, 0, 0, 0), (.iadd, 0, 0, 0), (.istore_n 1, 0, 0, 0), (.aload_n 0, 0, 0, 0)]
def fX11_fastLine_8 (v0 : Nat) (h : aH) : Option (aH) :=
  (gFR h 11 v0 16).bind fun t1 =>
  (aRI (h[t1]?) (kI 5)).bind fun t2 =>
  fX11_fastLine_21 v0 ((kB 35) + ((kI 2) * t2)) v0 h
theorem tX11_fastLine_8 {d : Nat} {z : aH} (v0 : Nat) (h : aH) (hf : fX11_fastLine_8 v0 h = some z) : Ev (d + 8) none mX11_fastLine (0, 0) 8 [.ref v0, .null, .null, .null, .null] [] h (QV z) := 
  go_ok (X := none) (blk := wX11_fastLine_8) (np := 21) (tt := 0) (kN := fun xs h st => app [2, 1, 0, 0, 0] (fun v0 v1 => apS [2] (fun s0 => fX11_fastLine_21 v0 v1 s0 h) st) xs) (kT := fun _ _ _ => none) (kR := kRV)
    (fun xs h st q => jm [2, 1, 0, 0, 0] _ (fun v0 v1 q => apS_ok [2] _ (fun st => Ev (d + 8) none mX11_fastLine (0, 0) 21 [.ref v0, .int v1, .null, .null, .null] st h (QV z)) st (fun s0 q => tX11_fastLine_21 v0 v1 s0 h q) q) q)
    (fun _ _ _ q => nos q)
    kRV_ok (Or.inr rfl) (by decide +kernel) (by decide +kernel) hf
def wX11_fastLine_7 : List En := [(.return_, 0, 0, 0)]
def fX11_fastLine_7 (h : aH) : Option (aH) :=
  some h
theorem tX11_fastLine_7 {d : Nat} {z : aH} (h : aH) (hf : fX11_fastLine_7 h = some z) : Ev (d + 8) none mX11_fastLine (0, 0) 7 [.null, .null, .null, .null, .null] [] h (QV z) := 
  go_ok (X := none) (blk := wX11_fastLine_7) (np := 8) (tt := 0) (kN := fun _ _ _ => none) (kT := fun _ _ _ => none) (kR := kRV)
    (fun _ _ _ q => nos q)
    (fun _ _ _ q => nos q)
    kRV_ok (Or.inr rfl) (by decide +kernel) (by decide +kernel) hf
def wX11_fastLine_0 : List En := [(.aload_n 0, 0, 0, 0), (.getfield 91, 188, 11, 13), (.ifCond .eq 4, 8, 0, 0)]
def fX11_fastLine_0 (v0 : Nat) (h : aH) : Option (aH) :=
  (gFI h 11 v0 13).bind fun t1 =>
  if t1 = 0 then fX11_fastLine_8 v0 h else fX11_fastLine_7 h
theorem tX11_fastLine_0 {d : Nat} {z : aH} (v0 : Nat) (h : aH) (hf : fX11_fastLine_0 v0 h = some z) : Ev (d + 8) none mX11_fastLine (0, 0) 0 [.ref v0, .null, .null, .null, .null] [] h (QV z) := 
  go_ok (X := none) (blk := wX11_fastLine_0) (np := 7) (tt := 8) (kN := fun xs h st => app [0, 0, 0, 0, 0] (apS [] (fX11_fastLine_7 h) st) xs) (kT := fun xs h st => app [2, 0, 0, 0, 0] (fun v0 => apS [] (fX11_fastLine_8 v0 h) st) xs) (kR := kRV)
    (fun xs h st q => jm [0, 0, 0, 0, 0] _ (fun q => apS_ok [] _ (fun st => Ev (d + 8) none mX11_fastLine (0, 0) 7 [.null, .null, .null, .null, .null] st h (QV z)) st (fun q => tX11_fastLine_7 h q) q) q)
    (fun xs h st q => jm [2, 0, 0, 0, 0] _ (fun v0 q => apS_ok [] _ (fun st => Ev (d + 8) none mX11_fastLine (0, 0) 8 [.ref v0, .null, .null, .null, .null] st h (QV z)) st (fun q => tX11_fastLine_8 v0 h q) q) q)
    kRV_ok (Or.inr rfl) (by decide +kernel) (by decide +kernel) hf
def gX11_fastLine (v0 : Nat) (h : aH) : Option (aH) := fX11_fastLine_0 v0 h
theorem zX11_fastLine {d : Nat} {z : aH} {v0 : Nat} {h : aH} (q : gX11_fastLine v0 h = some z) : CT (d + 8) mX11_fastLine (0, 0) [.ref v0] h (QV z) :=
  ct_ev (by decide +kernel) (Nat.le_of_ble_eq_true rfl) QV_r (jm [2, 0, 0, 0, 0] (fun v0 => fX11_fastLine_0 v0 h) (fun v0 q => tX11_fastLine_0 v0 h q) q)
def wX11_dishHere_7 : List En := [(.ireturn, 0, 0, 0)]
def fX11_dishHere_7 (s0 : Int32) (h : aH) : Option (Int32 × aH) :=
  some (s0, h)
theorem tX11_dishHere_7 {d : Nat} {z : Int32 × aH} (s0 : Int32) (h : aH) (hf : fX11_dishHere_7 s0 h = some z) : Ev (d + 7) none mX11_dishHere (0, 0) 7 [.null] [.int s0] h (QI z) := 
  go_ok (X := none) (blk := wX11_dishHere_7) (np := 8) (tt := 0) (kN := fun _ _ _ => none) (kT := fun _ _ _ => none) (kR := kRI)
    (fun _ _ _ q => nos q)
    (fun _ _ _ q => nos q)
    kRI_ok (Or.inr rfl) (by decide +kernel) (by decide +kernel) hf
theorem kqX11_dishHere_4 : okC mX11_dishHere 4 (.invokevirtual 144) 206 223 0 2 = true := by decide +kernel
def fX11_dishHere_4 (s0 : Int32) (s1 : Int32) (s2 : Nat) (h : aH) : Option (Int32 × aH) :=
  (isO h 11 s2).bind fun _ =>
  (gX11_namedHere s2 s1 s0 h).bind fun r =>
  fX11_dishHere_7 r.1 r.2
theorem tX11_dishHere_4 {d : Nat} {z : Int32 × aH} (s0 : Int32) (s1 : Int32) (s2 : Nat) (h : aH) (hf : fX11_dishHere_4 s0 s1 s2 h = some z) : Ev (d + 7) none mX11_dishHere (0, 0) 4 [.null] [.int s0, .int s1, .ref s2] h (QI z) := by
  obtain ⟨_, h1, hf⟩ := bnd hf
  obtain ⟨fs, ho⟩ := isO_ok h1
  obtain ⟨r, h2, hf⟩ := bnd hf
  refine ev_V kqX11_dishHere_4 jX11_namedHere (zX11_namedHere (d := d + 0) h2) ho rfl rfl (Nat.le_of_ble_eq_true rfl) rfl (as := [.int s1, .int s0]) (rest := []) rfl (Nat.le_of_ble_eq_true rfl) (fun _ _ hq => ?_)
  obtain ⟨rfl, rfl⟩ := hq
  exact jm [0] (fX11_dishHere_7 r.1 r.2) (fun q => tX11_dishHere_7 r.1 r.2 q) hf
def wX11_dishHere_0 : List En := [(.aload_n 0, 0, 0, 0), (.iconst 5, 0, 0, 0), (.bipush 12, 0, 0, 0)]
def fX11_dishHere_0 (v0 : Nat) (h : aH) : Option (Int32 × aH) :=
  fX11_dishHere_4 (kB 12) (kI 5) v0 h
theorem tX11_dishHere_0 {d : Nat} {z : Int32 × aH} (v0 : Nat) (h : aH) (hf : fX11_dishHere_0 v0 h = some z) : Ev (d + 7) none mX11_dishHere (0, 0) 0 [.ref v0] [] h (QI z) := 
  go_ok (X := none) (blk := wX11_dishHere_0) (np := 4) (tt := 0) (kN := fun xs h st => app [0] (apS [1, 1, 2] (fun s0 s1 s2 => fX11_dishHere_4 s0 s1 s2 h) st) xs) (kT := fun _ _ _ => none) (kR := kRI)
    (fun xs h st q => jm [0] _ (fun q => apS_ok [1, 1, 2] _ (fun st => Ev (d + 7) none mX11_dishHere (0, 0) 4 [.null] st h (QI z)) st (fun s0 s1 s2 q => tX11_dishHere_4 s0 s1 s2 h q) q) q)
    (fun _ _ _ q => nos q)
    kRI_ok (Or.inr rfl) (by decide +kernel) (by decide +kernel) hf
def gX11_dishHere (v0 : Nat) (h : aH) : Option (Int32 × aH) := fX11_dishHere_0 v0 h
theorem zX11_dishHere {d : Nat} {z : Int32 × aH} {v0 : Nat} {h : aH} (q : gX11_dishHere v0 h = some z) : CT (d + 7) mX11_dishHere (0, 0) [.ref v0] h (QI z) :=
  ct_ev (by decide +kernel) (Nat.le_of_ble_eq_true rfl) QI_r (jm [2] (fun v0 => fX11_dishHere_0 v0 h) (fun v0 q => tX11_dishHere_0 v0 h q) q)
def wX11_heardLine_111 : List En := [(.aload_n 0, 0, 0, 0), (.getfield 23, 191, 11, 16), (.iload_n 1, 0, 0, 0), (.iload_n 2, 0, 0, 0), (.iastore, 0, 0, 0), (.aload_n 0, 0, 0, 0), (.getfield 23, 191, 11, 16), (.iload_n 1, 0, 0, 0), (.iconst 1, 0, 0, 0), (.iadd, 0, 0, 0), (.iload_n 3, 0, 0, 0), (.iastore, 0, 0, 0), (.aload_n 0, 0, 0, 0), (.getfield 23, 191, 11, 16), (.bipush 7, 0, 0, 0), (.dup2, 0, 0, 0), (.iaload, 0, 0, 0), (.iconst 1, 0, 0, 0), (.iadd, 0, 0, 0), (.iastore, 0, 0, 0), (.return_, 0, 0, 0)]
def fX11_heardLine_111 (v0 : Nat) (v1 : Int32) (v2 : Int32) (v3 : Int32) (h : aH) : Option (aH) :=
  (gFR h 11 v0 16).bind fun t1 =>
  (aWI h t1 v1 v2).bind fun h2 =>
  (gFR h2 11 v0 16).bind fun t3 =>
  (aWI h2 t3 (v1 + (kI 1)) v3).bind fun h4 =>
  (gFR h4 11 v0 16).bind fun t5 =>
  (aRI (h4[t5]?) (kB 7)).bind fun t6 =>
  (aWI h4 t5 (kB 7) (t6 + (kI 1))).bind fun h7 =>
  some h7
theorem tX11_heardLine_111 {d : Nat} {z : aH} (v0 : Nat) (v1 : Int32) (v2 : Int32) (v3 : Int32) (h : aH) (hf : fX11_heardLine_111 v0 v1 v2 v3 h = some z) : Ev (d + 8) none mX11_heardLine (0, 0) 111 [.ref v0, .int v1, .int v2, .int v3, .null] [] h (QV z) := 
  go_ok (X := none) (blk := wX11_heardLine_111) (np := 139) (tt := 0) (kN := fun _ _ _ => none) (kT := fun _ _ _ => none) (kR := kRV)
    (fun _ _ _ q => nos q)
    (fun _ _ _ q => nos q)
    kRV_ok (Or.inr rfl) (by decide +kernel) (by decide +kernel) hf
def wX11_heardLine_110 : List En := [(.return_, 0, 0, 0)]
def fX11_heardLine_110 (h : aH) : Option (aH) :=
  some h
theorem tX11_heardLine_110 {d : Nat} {z : aH} (h : aH) (hf : fX11_heardLine_110 h = some z) : Ev (d + 8) none mX11_heardLine (0, 0) 110 [.null, .null, .null, .null, .null] [] h (QV z) := 
  go_ok (X := none) (blk := wX11_heardLine_110) (np := 111) (tt := 0) (kN := fun _ _ _ => none) (kT := fun _ _ _ => none) (kR := kRV)
    (fun _ _ _ q => nos q)
    (fun _ _ _ q => nos q)
    kRV_ok (Or.inr rfl) (by decide +kernel) (by decide +kernel) hf
def wX11_heardLine_103 : List En := [(.aload_n 0, 0, 0, 0), (.getfield 91, 188, 11, 13), (.ifCond .eq 4, 111, 0, 0)]
def fX11_heardLine_103 (v0 : Nat) (v1 : Int32) (v2 : Int32) (v3 : Int32) (h : aH) : Option (aH) :=
  (gFI h 11 v0 13).bind fun t1 =>
  if t1 = 0 then fX11_heardLine_111 v0 v1 v2 v3 h else fX11_heardLine_110 h
theorem tX11_heardLine_103 {d : Nat} {z : aH} (v0 : Nat) (v1 : Int32) (v2 : Int32) (v3 : Int32) (h : aH) (hf : fX11_heardLine_103 v0 v1 v2 v3 h = some z) : Ev (d + 8) none mX11_heardLine (0, 0) 103 [.ref v0, .int v1, .int v2, .int v3, .null] [] h (QV z) := 
  go_ok (X := none) (blk := wX11_heardLine_103) (np := 110) (tt := 111) (kN := fun xs h st => app [0, 0, 0, 0, 0] (apS [] (fX11_heardLine_110 h) st) xs) (kT := fun xs h st => app [2, 1, 1, 1, 0] (fun v0 v1 v2 v3 => apS [] (fX11_heardLine_111 v0 v1 v2 v3 h) st) xs) (kR := kRV)
    (fun xs h st q => jm [0, 0, 0, 0, 0] _ (fun q => apS_ok [] _ (fun st => Ev (d + 8) none mX11_heardLine (0, 0) 110 [.null, .null, .null, .null, .null] st h (QV z)) st (fun q => tX11_heardLine_110 h q) q) q)
    (fun xs h st q => jm [2, 1, 1, 1, 0] _ (fun v0 v1 v2 v3 q => apS_ok [] _ (fun st => Ev (d + 8) none mX11_heardLine (0, 0) 111 [.ref v0, .int v1, .int v2, .int v3, .null] st h (QV z)) st (fun q => tX11_heardLine_111 v0 v1 v2 v3 h q) q) q)
    kRV_ok (Or.inr rfl) (by decide +kernel) (by decide +kernel) hf
theorem kqX11_heardLine_100 : okC mX11_heardLine 100 (.invokevirtual 151) 197 214 0 0 = true := by decide +kernel
def fX11_heardLine_100 (v0 : Nat) (v1 : Int32) (v2 : Int32) (v3 : Int32) (s0 : Nat) (h : aH) : Option (aH) :=
  (isO h 11 s0).bind fun _ =>
  (gX11_pass s0 h).bind fun r =>
  fX11_heardLine_103 v0 v1 v2 v3 r
theorem tX11_heardLine_100 {d : Nat} {z : aH} (v0 : Nat) (v1 : Int32) (v2 : Int32) (v3 : Int32) (s0 : Nat) (h : aH) (hf : fX11_heardLine_100 v0 v1 v2 v3 s0 h = some z) : Ev (d + 8) none mX11_heardLine (0, 0) 100 [.ref v0, .int v1, .int v2, .int v3, .null] [.ref s0] h (QV z) := by
  obtain ⟨_, h1, hf⟩ := bnd hf
  obtain ⟨fs, ho⟩ := isO_ok h1
  obtain ⟨r, h2, hf⟩ := bnd hf
  refine ev_V kqX11_heardLine_100 jX11_pass (zX11_pass (d := d + 5) h2) ho rfl rfl (Nat.le_of_ble_eq_true rfl) rfl (as := []) (rest := []) rfl (Nat.le_of_ble_eq_true rfl) (fun _ _ hq => ?_)
  obtain ⟨rfl, hh⟩ := hq
  rw [hh]
  exact jm [2, 1, 1, 1, 0] (fun v0 v1 v2 v3 => fX11_heardLine_103 v0 v1 v2 v3 r) (fun v0 v1 v2 v3 q => tX11_heardLine_103 v0 v1 v2 v3 r q) hf
def wX11_heardLine_99 : List En := [(.aload_n 0, 0, 0, 0)]
def fX11_heardLine_99 (v0 : Nat) (v1 : Int32) (v2 : Int32) (v3 : Int32) (h : aH) : Option (aH) :=
  fX11_heardLine_100 v0 v1 v2 v3 v0 h
theorem tX11_heardLine_99 {d : Nat} {z : aH} (v0 : Nat) (v1 : Int32) (v2 : Int32) (v3 : Int32) (h : aH) (hf : fX11_heardLine_99 v0 v1 v2 v3 h = some z) : Ev (d + 8) none mX11_heardLine (0, 0) 99 [.ref v0, .int v1, .int v2, .int v3, .null] [] h (QV z) := 
  go_ok (X := none) (blk := wX11_heardLine_99) (np := 100) (tt := 0) (kN := fun xs h st => app [2, 1, 1, 1, 0] (fun v0 v1 v2 v3 => apS [2] (fun s0 => fX11_heardLine_100 v0 v1 v2 v3 s0 h) st) xs) (kT := fun _ _ _ => none) (kR := kRV)
    (fun xs h st q => jm [2, 1, 1, 1, 0] _ (fun v0 v1 v2 v3 q => apS_ok [2] _ (fun st => Ev (d + 8) none mX11_heardLine (0, 0) 100 [.ref v0, .int v1, .int v2, .int v3, .null] st h (QV z)) st (fun s0 q => tX11_heardLine_100 v0 v1 v2 v3 s0 h q) q) q)
    (fun _ _ _ q => nos q)
    kRV_ok (Or.inr rfl) (by decide +kernel) (by decide +kernel) hf
def wX11_heardLine_93 : List En := [(.iinc 4 1, 0, 0, 0), (.goto (-49), 47, 0, 0)]
def fX11_heardLine_93 (k47 : Nat → Int32 → Int32 → Int32 → Int32 → aH → Option (aH)) (v0 : Nat) (v1 : Int32) (v2 : Int32) (v3 : Int32) (v4 : Int32) (h : aH) : Option (aH) :=
  k47 v0 v1 v2 v3 (v4 + kI 1) h
theorem tX11_heardLine_93 {d : Nat} {z : aH} {k47 : Nat → Int32 → Int32 → Int32 → Int32 → aH → Option (aH)} (hk47 : ∀ (v0 : Nat) (v1 : Int32) (v2 : Int32) (v3 : Int32) (v4 : Int32) (h : aH), k47 v0 v1 v2 v3 v4 h = some z → Ev (d + 8) none mX11_heardLine (0, 0) 47 [.ref v0, .int v1, .int v2, .int v3, .int v4] [] h (QV z)) (v0 : Nat) (v1 : Int32) (v2 : Int32) (v3 : Int32) (v4 : Int32) (h : aH) (hf : fX11_heardLine_93 k47 v0 v1 v2 v3 v4 h = some z) : Ev (d + 8) none mX11_heardLine (0, 0) 93 [.ref v0, .int v1, .int v2, .int v3, .int v4] [] h (QV z) := 
  go_ok (X := none) (blk := wX11_heardLine_93) (np := 99) (tt := 47) (kN := fun _ _ _ => none) (kT := fun xs h st => app [2, 1, 1, 1, 1] (fun v0 v1 v2 v3 v4 => apS [] (k47 v0 v1 v2 v3 v4 h) st) xs) (kR := kRV)
    (fun _ _ _ q => nos q)
    (fun xs h st q => jm [2, 1, 1, 1, 1] _ (fun v0 v1 v2 v3 v4 q => apS_ok [] _ (fun st => Ev (d + 8) none mX11_heardLine (0, 0) 47 [.ref v0, .int v1, .int v2, .int v3, .int v4] st h (QV z)) st (fun q => hk47 v0 v1 v2 v3 v4 h q) q) q)
    kRV_ok (Or.inr rfl) (by decide +kernel) (by decide +kernel) hf
theorem kqX11_heardLine_90 : okC mX11_heardLine 90 (.invokevirtual 118) 191 208 0 2 = true := by decide +kernel
def fX11_heardLine_90 (k47 : Nat → Int32 → Int32 → Int32 → Int32 → aH → Option (aH)) (v0 : Nat) (v1 : Int32) (v2 : Int32) (v3 : Int32) (v4 : Int32) (s0 : Int32) (s1 : Int32) (s2 : Nat) (h : aH) : Option (aH) :=
  (isO h 11 s2).bind fun _ =>
  (gX11_wrong s2 s1 s0 h).bind fun r =>
  fX11_heardLine_93 k47 v0 v1 v2 v3 v4 r
theorem tX11_heardLine_90 {d : Nat} {z : aH} {k47 : Nat → Int32 → Int32 → Int32 → Int32 → aH → Option (aH)} (hk47 : ∀ (v0 : Nat) (v1 : Int32) (v2 : Int32) (v3 : Int32) (v4 : Int32) (h : aH), k47 v0 v1 v2 v3 v4 h = some z → Ev (d + 8) none mX11_heardLine (0, 0) 47 [.ref v0, .int v1, .int v2, .int v3, .int v4] [] h (QV z)) (v0 : Nat) (v1 : Int32) (v2 : Int32) (v3 : Int32) (v4 : Int32) (s0 : Int32) (s1 : Int32) (s2 : Nat) (h : aH) (hf : fX11_heardLine_90 k47 v0 v1 v2 v3 v4 s0 s1 s2 h = some z) : Ev (d + 8) none mX11_heardLine (0, 0) 90 [.ref v0, .int v1, .int v2, .int v3, .int v4] [.int s0, .int s1, .ref s2] h (QV z) := by
  obtain ⟨_, h1, hf⟩ := bnd hf
  obtain ⟨fs, ho⟩ := isO_ok h1
  obtain ⟨r, h2, hf⟩ := bnd hf
  refine ev_V kqX11_heardLine_90 jX11_wrong (zX11_wrong (d := d + 7) h2) ho rfl rfl (Nat.le_of_ble_eq_true rfl) rfl (as := [.int s1, .int s0]) (rest := []) rfl (Nat.le_of_ble_eq_true rfl) (fun _ _ hq => ?_)
  obtain ⟨rfl, hh⟩ := hq
  rw [hh]
  exact jm [2, 1, 1, 1, 1] (fun v0 v1 v2 v3 v4 => fX11_heardLine_93 k47 v0 v1 v2 v3 v4 r) (fun v0 v1 v2 v3 v4 q => tX11_heardLine_93 hk47 v0 v1 v2 v3 v4 r q) hf
def wX11_heardLine_84 : List En := [(.aload_n 0, 0, 0, 0), (.iconst 3, 0, 0, 0), (.aload_n 0, 0, 0, 0), (.getfield 72, 179, 11, 4)]
def fX11_heardLine_84 (k47 : Nat → Int32 → Int32 → Int32 → Int32 → aH → Option (aH)) (v0 : Nat) (v1 : Int32) (v2 : Int32) (v3 : Int32) (v4 : Int32) (h : aH) : Option (aH) :=
  (gFI h 11 v0 4).bind fun t1 =>
  fX11_heardLine_90 k47 v0 v1 v2 v3 v4 t1 (kI 3) v0 h
theorem tX11_heardLine_84 {d : Nat} {z : aH} {k47 : Nat → Int32 → Int32 → Int32 → Int32 → aH → Option (aH)} (hk47 : ∀ (v0 : Nat) (v1 : Int32) (v2 : Int32) (v3 : Int32) (v4 : Int32) (h : aH), k47 v0 v1 v2 v3 v4 h = some z → Ev (d + 8) none mX11_heardLine (0, 0) 47 [.ref v0, .int v1, .int v2, .int v3, .int v4] [] h (QV z)) (v0 : Nat) (v1 : Int32) (v2 : Int32) (v3 : Int32) (v4 : Int32) (h : aH) (hf : fX11_heardLine_84 k47 v0 v1 v2 v3 v4 h = some z) : Ev (d + 8) none mX11_heardLine (0, 0) 84 [.ref v0, .int v1, .int v2, .int v3, .int v4] [] h (QV z) := 
  go_ok (X := none) (blk := wX11_heardLine_84) (np := 90) (tt := 0) (kN := fun xs h st => app [2, 1, 1, 1, 1] (fun v0 v1 v2 v3 v4 => apS [1, 1, 2] (fun s0 s1 s2 => fX11_heardLine_90 k47 v0 v1 v2 v3 v4 s0 s1 s2 h) st) xs) (kT := fun _ _ _ => none) (kR := kRV)
    (fun xs h st q => jm [2, 1, 1, 1, 1] _ (fun v0 v1 v2 v3 v4 q => apS_ok [1, 1, 2] _ (fun st => Ev (d + 8) none mX11_heardLine (0, 0) 90 [.ref v0, .int v1, .int v2, .int v3, .int v4] st h (QV z)) st (fun s0 s1 s2 q => tX11_heardLine_90 hk47 v0 v1 v2 v3 v4 s0 s1 s2 h q) q) q)
    (fun _ _ _ q => nos q)
    kRV_ok (Or.inr rfl) (by decide +kernel) (by decide +kernel) hf
def wX11_heardLine_66 : List En := [(.aload_n 0, 0, 0, 0), (.getfield 23, 191, 11, 16), (.bipush 59, 0, 0, 0), (.iconst 2, 0, 0, 0), (.iload 4, 0, 0, 0), (.imul, 0, 0, 0), (.iadd, 0, 0, 0), (.iconst 1, 0, 0, 0), (.iadd, 0, 0, 0), (.iaload, 0, 0, 0), (.iload_n 3, 0, 0, 0), (.if_icmp .ne 12, 93, 0, 0)]
def fX11_heardLine_66 (k47 : Nat → Int32 → Int32 → Int32 → Int32 → aH → Option (aH)) (v0 : Nat) (v1 : Int32) (v2 : Int32) (v3 : Int32) (v4 : Int32) (h : aH) : Option (aH) :=
  (gFR h 11 v0 16).bind fun t1 =>
  (aRI (h[t1]?) (((kB 59) + ((kI 2) * v4)) + (kI 1))).bind fun t2 =>
  if t2 = v3 then fX11_heardLine_84 k47 v0 v1 v2 v3 v4 h else fX11_heardLine_93 k47 v0 v1 v2 v3 v4 h
theorem tX11_heardLine_66 {d : Nat} {z : aH} {k47 : Nat → Int32 → Int32 → Int32 → Int32 → aH → Option (aH)} (hk47 : ∀ (v0 : Nat) (v1 : Int32) (v2 : Int32) (v3 : Int32) (v4 : Int32) (h : aH), k47 v0 v1 v2 v3 v4 h = some z → Ev (d + 8) none mX11_heardLine (0, 0) 47 [.ref v0, .int v1, .int v2, .int v3, .int v4] [] h (QV z)) (v0 : Nat) (v1 : Int32) (v2 : Int32) (v3 : Int32) (v4 : Int32) (h : aH) (hf : fX11_heardLine_66 k47 v0 v1 v2 v3 v4 h = some z) : Ev (d + 8) none mX11_heardLine (0, 0) 66 [.ref v0, .int v1, .int v2, .int v3, .int v4] [] h (QV z) := 
  go_ok (X := none) (blk := wX11_heardLine_66) (np := 84) (tt := 93) (kN := fun xs h st => app [2, 1, 1, 1, 1] (fun v0 v1 v2 v3 v4 => apS [] (fX11_heardLine_84 k47 v0 v1 v2 v3 v4 h) st) xs) (kT := fun xs h st => app [2, 1, 1, 1, 1] (fun v0 v1 v2 v3 v4 => apS [] (fX11_heardLine_93 k47 v0 v1 v2 v3 v4 h) st) xs) (kR := kRV)
    (fun xs h st q => jm [2, 1, 1, 1, 1] _ (fun v0 v1 v2 v3 v4 q => apS_ok [] _ (fun st => Ev (d + 8) none mX11_heardLine (0, 0) 84 [.ref v0, .int v1, .int v2, .int v3, .int v4] st h (QV z)) st (fun q => tX11_heardLine_84 hk47 v0 v1 v2 v3 v4 h q) q) q)
    (fun xs h st q => jm [2, 1, 1, 1, 1] _ (fun v0 v1 v2 v3 v4 q => apS_ok [] _ (fun st => Ev (d + 8) none mX11_heardLine (0, 0) 93 [.ref v0, .int v1, .int v2, .int v3, .int v4] st h (QV z)) st (fun q => tX11_heardLine_93 hk47 v0 v1 v2 v3 v4 h q) q) q)
    kRV_ok (Or.inr rfl) (by decide +kernel) (by decide +kernel) hf
def wX11_heardLine_59 : List En := [(.aload_n 0, 0, 0, 0), (.getfield 91, 188, 11, 13), (.ifCond .ne 30, 93, 0, 0)]
def fX11_heardLine_59 (k47 : Nat → Int32 → Int32 → Int32 → Int32 → aH → Option (aH)) (v0 : Nat) (v1 : Int32) (v2 : Int32) (v3 : Int32) (v4 : Int32) (h : aH) : Option (aH) :=
  (gFI h 11 v0 13).bind fun t1 =>
  if t1 = 0 then fX11_heardLine_66 k47 v0 v1 v2 v3 v4 h else fX11_heardLine_93 k47 v0 v1 v2 v3 v4 h
theorem tX11_heardLine_59 {d : Nat} {z : aH} {k47 : Nat → Int32 → Int32 → Int32 → Int32 → aH → Option (aH)} (hk47 : ∀ (v0 : Nat) (v1 : Int32) (v2 : Int32) (v3 : Int32) (v4 : Int32) (h : aH), k47 v0 v1 v2 v3 v4 h = some z → Ev (d + 8) none mX11_heardLine (0, 0) 47 [.ref v0, .int v1, .int v2, .int v3, .int v4] [] h (QV z)) (v0 : Nat) (v1 : Int32) (v2 : Int32) (v3 : Int32) (v4 : Int32) (h : aH) (hf : fX11_heardLine_59 k47 v0 v1 v2 v3 v4 h = some z) : Ev (d + 8) none mX11_heardLine (0, 0) 59 [.ref v0, .int v1, .int v2, .int v3, .int v4] [] h (QV z) := 
  go_ok (X := none) (blk := wX11_heardLine_59) (np := 66) (tt := 93) (kN := fun xs h st => app [2, 1, 1, 1, 1] (fun v0 v1 v2 v3 v4 => apS [] (fX11_heardLine_66 k47 v0 v1 v2 v3 v4 h) st) xs) (kT := fun xs h st => app [2, 1, 1, 1, 1] (fun v0 v1 v2 v3 v4 => apS [] (fX11_heardLine_93 k47 v0 v1 v2 v3 v4 h) st) xs) (kR := kRV)
    (fun xs h st q => jm [2, 1, 1, 1, 1] _ (fun v0 v1 v2 v3 v4 q => apS_ok [] _ (fun st => Ev (d + 8) none mX11_heardLine (0, 0) 66 [.ref v0, .int v1, .int v2, .int v3, .int v4] st h (QV z)) st (fun q => tX11_heardLine_66 hk47 v0 v1 v2 v3 v4 h q) q) q)
    (fun xs h st q => jm [2, 1, 1, 1, 1] _ (fun v0 v1 v2 v3 v4 q => apS_ok [] _ (fun st => Ev (d + 8) none mX11_heardLine (0, 0) 93 [.ref v0, .int v1, .int v2, .int v3, .int v4] st h (QV z)) st (fun q => tX11_heardLine_93 hk47 v0 v1 v2 v3 v4 h q) q) q)
    kRV_ok (Or.inr rfl) (by decide +kernel) (by decide +kernel) hf
def wX11_heardLine_47 : List En := [(.iload 4, 0, 0, 0), (.aload_n 0, 0, 0, 0), (.getfield 23, 191, 11, 16), (.bipush 7, 0, 0, 0), (.iaload, 0, 0, 0), (.if_icmp .ge 43, 99, 0, 0)]
def fX11_heardLine_47 (k47 : Nat → Int32 → Int32 → Int32 → Int32 → aH → Option (aH)) (v0 : Nat) (v1 : Int32) (v2 : Int32) (v3 : Int32) (v4 : Int32) (h : aH) : Option (aH) :=
  (gFR h 11 v0 16).bind fun t1 =>
  (aRI (h[t1]?) (kB 7)).bind fun t2 =>
  if v4 < t2 then fX11_heardLine_59 k47 v0 v1 v2 v3 v4 h else fX11_heardLine_99 v0 v1 v2 v3 h
theorem tX11_heardLine_47 {d : Nat} {z : aH} {k47 : Nat → Int32 → Int32 → Int32 → Int32 → aH → Option (aH)} (hk47 : ∀ (v0 : Nat) (v1 : Int32) (v2 : Int32) (v3 : Int32) (v4 : Int32) (h : aH), k47 v0 v1 v2 v3 v4 h = some z → Ev (d + 8) none mX11_heardLine (0, 0) 47 [.ref v0, .int v1, .int v2, .int v3, .int v4] [] h (QV z)) (v0 : Nat) (v1 : Int32) (v2 : Int32) (v3 : Int32) (v4 : Int32) (h : aH) (hf : fX11_heardLine_47 k47 v0 v1 v2 v3 v4 h = some z) : Ev (d + 8) none mX11_heardLine (0, 0) 47 [.ref v0, .int v1, .int v2, .int v3, .int v4] [] h (QV z) := 
  go_ok (X := none) (blk := wX11_heardLine_47) (np := 59) (tt := 99) (kN := fun xs h st => app [2, 1, 1, 1, 1] (fun v0 v1 v2 v3 v4 => apS [] (fX11_heardLine_59 k47 v0 v1 v2 v3 v4 h) st) xs) (kT := fun xs h st => app [2, 1, 1, 1, 0] (fun v0 v1 v2 v3 => apS [] (fX11_heardLine_99 v0 v1 v2 v3 h) st) xs) (kR := kRV)
    (fun xs h st q => jm [2, 1, 1, 1, 1] _ (fun v0 v1 v2 v3 v4 q => apS_ok [] _ (fun st => Ev (d + 8) none mX11_heardLine (0, 0) 59 [.ref v0, .int v1, .int v2, .int v3, .int v4] st h (QV z)) st (fun q => tX11_heardLine_59 hk47 v0 v1 v2 v3 v4 h q) q) q)
    (fun xs h st q => jm [2, 1, 1, 1, 0] _ (fun v0 v1 v2 v3 q => apS_ok [] _ (fun st => Ev (d + 8) none mX11_heardLine (0, 0) 99 [.ref v0, .int v1, .int v2, .int v3, .null] st h (QV z)) st (fun q => tX11_heardLine_99 v0 v1 v2 v3 h q) q) q)
    kRV_ok (Or.inr rfl) (by decide +kernel) (by decide +kernel) hf
def lX11_heardLine_47 : Nat → Nat → Int32 → Int32 → Int32 → Int32 → aH → Option (aH)
  | 0, _, _, _, _, _, _ => none
  | n + 1, v0, v1, v2, v3, v4, h => fX11_heardLine_47 (lX11_heardLine_47 n) v0 v1 v2 v3 v4 h
theorem uX11_heardLine_47 {d : Nat} {z : aH} : ∀ (n : Nat) (v0 : Nat) (v1 : Int32) (v2 : Int32) (v3 : Int32) (v4 : Int32) (h : aH), lX11_heardLine_47 n v0 v1 v2 v3 v4 h = some z → Ev (d + 8) none mX11_heardLine (0, 0) 47 [.ref v0, .int v1, .int v2, .int v3, .int v4] [] h (QV z) := by
  intro n
  induction n with
  | zero => intro _ _ _ _ _ _ q; exact nos (show (none : Option (aH)) = some z from q)
  | succ n ih => intro v0 v1 v2 v3 v4 h q; exact tX11_heardLine_47 ih v0 v1 v2 v3 v4 h q
def wX11_heardLine_43 : List En := [(.istore_n 3, 0, 0, 0), (.iconst 0, 0, 0, 0), (.istore 4, 0, 0, 0)]
def fX11_heardLine_43 (v0 : Nat) (v1 : Int32) (v2 : Int32) (s0 : Int32) (h : aH) : Option (aH) :=
  lX11_heardLine_47 FU v0 v1 v2 s0 (kI 0) h
theorem tX11_heardLine_43 {d : Nat} {z : aH} (v0 : Nat) (v1 : Int32) (v2 : Int32) (s0 : Int32) (h : aH) (hf : fX11_heardLine_43 v0 v1 v2 s0 h = some z) : Ev (d + 8) none mX11_heardLine (0, 0) 43 [.ref v0, .int v1, .int v2, .null, .null] [.int s0] h (QV z) := 
  go_ok (X := none) (blk := wX11_heardLine_43) (np := 47) (tt := 0) (kN := fun xs h st => app [2, 1, 1, 1, 1] (fun v0 v1 v2 v3 v4 => apS [] (lX11_heardLine_47 FU v0 v1 v2 v3 v4 h) st) xs) (kT := fun _ _ _ => none) (kR := kRV)
    (fun xs h st q => jm [2, 1, 1, 1, 1] _ (fun v0 v1 v2 v3 v4 q => apS_ok [] _ (fun st => Ev (d + 8) none mX11_heardLine (0, 0) 47 [.ref v0, .int v1, .int v2, .int v3, .int v4] st h (QV z)) st (fun q => uX11_heardLine_47 FU v0 v1 v2 v3 v4 h q) q) q)
    (fun _ _ _ q => nos q)
    kRV_ok (Or.inr rfl) (by decide +kernel) (by decide +kernel) hf
theorem kqX11_heardLine_40 : okC mX11_heardLine 40 (.invokevirtual 148) 196 213 0 2 = true := by decide +kernel
def fX11_heardLine_40 (v0 : Nat) (v1 : Int32) (v2 : Int32) (s0 : Int32) (s1 : Int32) (s2 : Nat) (h : aH) : Option (aH) :=
  (isO h 11 s2).bind fun _ =>
  (gX11_numberHere s2 s1 s0 h).bind fun r =>
  fX11_heardLine_43 v0 v1 v2 r.1 r.2
theorem tX11_heardLine_40 {d : Nat} {z : aH} (v0 : Nat) (v1 : Int32) (v2 : Int32) (s0 : Int32) (s1 : Int32) (s2 : Nat) (h : aH) (hf : fX11_heardLine_40 v0 v1 v2 s0 s1 s2 h = some z) : Ev (d + 8) none mX11_heardLine (0, 0) 40 [.ref v0, .int v1, .int v2, .null, .null] [.int s0, .int s1, .ref s2] h (QV z) := by
  obtain ⟨_, h1, hf⟩ := bnd hf
  obtain ⟨fs, ho⟩ := isO_ok h1
  obtain ⟨r, h2, hf⟩ := bnd hf
  refine ev_V kqX11_heardLine_40 jX11_numberHere (zX11_numberHere (d := d + 6) h2) ho rfl rfl (Nat.le_of_ble_eq_true rfl) rfl (as := [.int s1, .int s0]) (rest := []) rfl (Nat.le_of_ble_eq_true rfl) (fun _ _ hq => ?_)
  obtain ⟨rfl, rfl⟩ := hq
  exact jm [2, 1, 1, 0, 0] (fun v0 v1 v2 => fX11_heardLine_43 v0 v1 v2 r.1 r.2) (fun v0 v1 v2 q => tX11_heardLine_43 v0 v1 v2 r.1 r.2 q) hf
def wX11_heardLine_36 : List En := [(.aload_n 0, 0, 0, 0), (.iconst 1, 0, 0, 0), (.bipush 60, 0, 0, 0)]
def fX11_heardLine_36 (v0 : Nat) (v1 : Int32) (v2 : Int32) (h : aH) : Option (aH) :=
  fX11_heardLine_40 v0 v1 v2 (kB 60) (kI 1) v0 h
theorem tX11_heardLine_36 {d : Nat} {z : aH} (v0 : Nat) (v1 : Int32) (v2 : Int32) (h : aH) (hf : fX11_heardLine_36 v0 v1 v2 h = some z) : Ev (d + 8) none mX11_heardLine (0, 0) 36 [.ref v0, .int v1, .int v2, .null, .null] [] h (QV z) := 
  go_ok (X := none) (blk := wX11_heardLine_36) (np := 40) (tt := 0) (kN := fun xs h st => app [2, 1, 1, 0, 0] (fun v0 v1 v2 => apS [1, 1, 2] (fun s0 s1 s2 => fX11_heardLine_40 v0 v1 v2 s0 s1 s2 h) st) xs) (kT := fun _ _ _ => none) (kR := kRV)
    (fun xs h st q => jm [2, 1, 1, 0, 0] _ (fun v0 v1 v2 q => apS_ok [1, 1, 2] _ (fun st => Ev (d + 8) none mX11_heardLine (0, 0) 40 [.ref v0, .int v1, .int v2, .null, .null] st h (QV z)) st (fun s0 s1 s2 q => tX11_heardLine_40 v0 v1 v2 s0 s1 s2 h q) q) q)
    (fun _ _ _ q => nos q)
    kRV_ok (Or.inr rfl) (by decide +kernel) (by decide +kernel) hf
theorem kqX11_heardLine_33 : okC mX11_heardLine 33 (.invokevirtual 154) 193 210 0 1 = true := by decide +kernel
def fX11_heardLine_33 (v0 : Nat) (v1 : Int32) (v2 : Int32) (s0 : Nat) (s1 : Nat) (h : aH) : Option (aH) :=
  (isO h 11 s1).bind fun _ =>
  (gX11_must s1 s0 h).bind fun r =>
  fX11_heardLine_36 v0 v1 v2 r
theorem tX11_heardLine_33 {d : Nat} {z : aH} (v0 : Nat) (v1 : Int32) (v2 : Int32) (s0 : Nat) (s1 : Nat) (h : aH) (hf : fX11_heardLine_33 v0 v1 v2 s0 s1 h = some z) : Ev (d + 8) none mX11_heardLine (0, 0) 33 [.ref v0, .int v1, .int v2, .null, .null] [.ref s0, .ref s1] h (QV z) := by
  obtain ⟨_, h1, hf⟩ := bnd hf
  obtain ⟨fs, ho⟩ := isO_ok h1
  obtain ⟨r, h2, hf⟩ := bnd hf
  refine ev_V kqX11_heardLine_33 jX11_must (zX11_must (d := d + 1) h2) ho rfl rfl (Nat.le_of_ble_eq_true rfl) rfl (as := [.ref s0]) (rest := []) rfl (Nat.le_of_ble_eq_true rfl) (fun _ _ hq => ?_)
  obtain ⟨rfl, hh⟩ := hq
  rw [hh]
  exact jm [2, 1, 1, 0, 0] (fun v0 v1 v2 => fX11_heardLine_36 v0 v1 v2 r) (fun v0 v1 v2 q => tX11_heardLine_36 v0 v1 v2 r q) hf
theorem kqX11_heardLine_31 : ckS mX11_heardLine 31 236 33 = true := by decide +kernel -- day
def fX11_heardLine_31 (v0 : Nat) (v1 : Int32) (v2 : Int32) (s0 : Nat) (h : aH) : Option (aH) :=
  fX11_heardLine_33 v0 v1 v2 (SB + 33) s0 h
theorem tX11_heardLine_31 {d : Nat} {z : aH} (v0 : Nat) (v1 : Int32) (v2 : Int32) (s0 : Nat) (h : aH) (hf : fX11_heardLine_31 v0 v1 v2 s0 h = some z) : Ev (d + 8) none mX11_heardLine (0, 0) 31 [.ref v0, .int v1, .int v2, .null, .null] [.ref s0] h (QV z) := 
  ev_ldcS kqX11_heardLine_31 rfl (jm [2, 1, 1, 0, 0] (fun v0 v1 v2 => fX11_heardLine_33 v0 v1 v2 (SB + 33) s0 h) (fun v0 v1 v2 q => tX11_heardLine_33 v0 v1 v2 (SB + 33) s0 h q) hf)
def wX11_heardLine_30 : List En := [(.aload_n 0, 0, 0, 0)]
def fX11_heardLine_30 (v0 : Nat) (v1 : Int32) (v2 : Int32) (h : aH) : Option (aH) :=
  fX11_heardLine_31 v0 v1 v2 v0 h
theorem tX11_heardLine_30 {d : Nat} {z : aH} (v0 : Nat) (v1 : Int32) (v2 : Int32) (h : aH) (hf : fX11_heardLine_30 v0 v1 v2 h = some z) : Ev (d + 8) none mX11_heardLine (0, 0) 30 [.ref v0, .int v1, .int v2, .null, .null] [] h (QV z) := 
  go_ok (X := none) (blk := wX11_heardLine_30) (np := 31) (tt := 0) (kN := fun xs h st => app [2, 1, 1, 0, 0] (fun v0 v1 v2 => apS [2] (fun s0 => fX11_heardLine_31 v0 v1 v2 s0 h) st) xs) (kT := fun _ _ _ => none) (kR := kRV)
    (fun xs h st q => jm [2, 1, 1, 0, 0] _ (fun v0 v1 v2 q => apS_ok [2] _ (fun st => Ev (d + 8) none mX11_heardLine (0, 0) 31 [.ref v0, .int v1, .int v2, .null, .null] st h (QV z)) st (fun s0 q => tX11_heardLine_31 v0 v1 v2 s0 h q) q) q)
    (fun _ _ _ q => nos q)
    kRV_ok (Or.inr rfl) (by decide +kernel) (by decide +kernel) hf
theorem kqX11_heardLine_27 : okC mX11_heardLine 27 (.invokevirtual 151) 197 214 0 0 = true := by decide +kernel
def fX11_heardLine_27 (v0 : Nat) (v1 : Int32) (v2 : Int32) (s0 : Nat) (h : aH) : Option (aH) :=
  (isO h 11 s0).bind fun _ =>
  (gX11_pass s0 h).bind fun r =>
  fX11_heardLine_30 v0 v1 v2 r
theorem tX11_heardLine_27 {d : Nat} {z : aH} (v0 : Nat) (v1 : Int32) (v2 : Int32) (s0 : Nat) (h : aH) (hf : fX11_heardLine_27 v0 v1 v2 s0 h = some z) : Ev (d + 8) none mX11_heardLine (0, 0) 27 [.ref v0, .int v1, .int v2, .null, .null] [.ref s0] h (QV z) := by
  obtain ⟨_, h1, hf⟩ := bnd hf
  obtain ⟨fs, ho⟩ := isO_ok h1
  obtain ⟨r, h2, hf⟩ := bnd hf
  refine ev_V kqX11_heardLine_27 jX11_pass (zX11_pass (d := d + 5) h2) ho rfl rfl (Nat.le_of_ble_eq_true rfl) rfl (as := []) (rest := []) rfl (Nat.le_of_ble_eq_true rfl) (fun _ _ hq => ?_)
  obtain ⟨rfl, hh⟩ := hq
  rw [hh]
  exact jm [2, 1, 1, 0, 0] (fun v0 v1 v2 => fX11_heardLine_30 v0 v1 v2 r) (fun v0 v1 v2 q => tX11_heardLine_30 v0 v1 v2 r q) hf
def wX11_heardLine_25 : List En := [(.istore_n 2, 0, 0, 0), (.aload_n 0, 0, 0, 0)]
def fX11_heardLine_25 (v0 : Nat) (v1 : Int32) (s0 : Int32) (h : aH) : Option (aH) :=
  fX11_heardLine_27 v0 v1 s0 v0 h
theorem tX11_heardLine_25 {d : Nat} {z : aH} (v0 : Nat) (v1 : Int32) (s0 : Int32) (h : aH) (hf : fX11_heardLine_25 v0 v1 s0 h = some z) : Ev (d + 8) none mX11_heardLine (0, 0) 25 [.ref v0, .int v1, .null, .null, .null] [.int s0] h (QV z) := 
  go_ok (X := none) (blk := wX11_heardLine_25) (np := 27) (tt := 0) (kN := fun xs h st => app [2, 1, 1, 0, 0] (fun v0 v1 v2 => apS [2] (fun s0 => fX11_heardLine_27 v0 v1 v2 s0 h) st) xs) (kT := fun _ _ _ => none) (kR := kRV)
    (fun xs h st q => jm [2, 1, 1, 0, 0] _ (fun v0 v1 v2 q => apS_ok [2] _ (fun st => Ev (d + 8) none mX11_heardLine (0, 0) 27 [.ref v0, .int v1, .int v2, .null, .null] st h (QV z)) st (fun s0 q => tX11_heardLine_27 v0 v1 v2 s0 h q) q) q)
    (fun _ _ _ q => nos q)
    kRV_ok (Or.inr rfl) (by decide +kernel) (by decide +kernel) hf
theorem kqX11_heardLine_22 : okC mX11_heardLine 22 (.invokevirtual 238) 209 226 0 0 = true := by decide +kernel
def fX11_heardLine_22 (v0 : Nat) (v1 : Int32) (s0 : Nat) (h : aH) : Option (aH) :=
  (isO h 11 s0).bind fun _ =>
  (gX11_dishHere s0 h).bind fun r =>
  fX11_heardLine_25 v0 v1 r.1 r.2
theorem tX11_heardLine_22 {d : Nat} {z : aH} (v0 : Nat) (v1 : Int32) (s0 : Nat) (h : aH) (hf : fX11_heardLine_22 v0 v1 s0 h = some z) : Ev (d + 8) none mX11_heardLine (0, 0) 22 [.ref v0, .int v1, .null, .null, .null] [.ref s0] h (QV z) := by
  obtain ⟨_, h1, hf⟩ := bnd hf
  obtain ⟨fs, ho⟩ := isO_ok h1
  obtain ⟨r, h2, hf⟩ := bnd hf
  refine ev_V kqX11_heardLine_22 jX11_dishHere (zX11_dishHere (d := d + 0) h2) ho rfl rfl (Nat.le_of_ble_eq_true rfl) rfl (as := []) (rest := []) rfl (Nat.le_of_ble_eq_true rfl) (fun _ _ hq => ?_)
  obtain ⟨rfl, rfl⟩ := hq
  exact jm [2, 1, 0, 0, 0] (fun v0 v1 => fX11_heardLine_25 v0 v1 r.1 r.2) (fun v0 v1 q => tX11_heardLine_25 v0 v1 r.1 r.2 q) hf
def wX11_heardLine_8 : List En := [(.bipush 59, 0, 0, 0), (.iconst 2, 0, 0, 0), (.aload_n 0, 0, 0, 0), (.getfield 23, 191, 11, 16), (.bipush 7, 0, 0, 0), (.iaload, 0, 0, 0), (.imul, 0, 0, 0), (.iadd, 0, 0, 0), (.istore_n 1, 0, 0, 0), (.aload_n 0, 0, 0, 0)]
def fX11_heardLine_8 (v0 : Nat) (h : aH) : Option (aH) :=
  (gFR h 11 v0 16).bind fun t1 =>
  (aRI (h[t1]?) (kB 7)).bind fun t2 =>
  fX11_heardLine_22 v0 ((kB 59) + ((kI 2) * t2)) v0 h
theorem tX11_heardLine_8 {d : Nat} {z : aH} (v0 : Nat) (h : aH) (hf : fX11_heardLine_8 v0 h = some z) : Ev (d + 8) none mX11_heardLine (0, 0) 8 [.ref v0, .null, .null, .null, .null] [] h (QV z) := 
  go_ok (X := none) (blk := wX11_heardLine_8) (np := 22) (tt := 0) (kN := fun xs h st => app [2, 1, 0, 0, 0] (fun v0 v1 => apS [2] (fun s0 => fX11_heardLine_22 v0 v1 s0 h) st) xs) (kT := fun _ _ _ => none) (kR := kRV)
    (fun xs h st q => jm [2, 1, 0, 0, 0] _ (fun v0 v1 q => apS_ok [2] _ (fun st => Ev (d + 8) none mX11_heardLine (0, 0) 22 [.ref v0, .int v1, .null, .null, .null] st h (QV z)) st (fun s0 q => tX11_heardLine_22 v0 v1 s0 h q) q) q)
    (fun _ _ _ q => nos q)
    kRV_ok (Or.inr rfl) (by decide +kernel) (by decide +kernel) hf
def wX11_heardLine_7 : List En := [(.return_, 0, 0, 0)]
def fX11_heardLine_7 (h : aH) : Option (aH) :=
  some h
theorem tX11_heardLine_7 {d : Nat} {z : aH} (h : aH) (hf : fX11_heardLine_7 h = some z) : Ev (d + 8) none mX11_heardLine (0, 0) 7 [.null, .null, .null, .null, .null] [] h (QV z) := 
  go_ok (X := none) (blk := wX11_heardLine_7) (np := 8) (tt := 0) (kN := fun _ _ _ => none) (kT := fun _ _ _ => none) (kR := kRV)
    (fun _ _ _ q => nos q)
    (fun _ _ _ q => nos q)
    kRV_ok (Or.inr rfl) (by decide +kernel) (by decide +kernel) hf
def wX11_heardLine_0 : List En := [(.aload_n 0, 0, 0, 0), (.getfield 91, 188, 11, 13), (.ifCond .eq 4, 8, 0, 0)]
def fX11_heardLine_0 (v0 : Nat) (h : aH) : Option (aH) :=
  (gFI h 11 v0 13).bind fun t1 =>
  if t1 = 0 then fX11_heardLine_8 v0 h else fX11_heardLine_7 h
theorem tX11_heardLine_0 {d : Nat} {z : aH} (v0 : Nat) (h : aH) (hf : fX11_heardLine_0 v0 h = some z) : Ev (d + 8) none mX11_heardLine (0, 0) 0 [.ref v0, .null, .null, .null, .null] [] h (QV z) := 
  go_ok (X := none) (blk := wX11_heardLine_0) (np := 7) (tt := 8) (kN := fun xs h st => app [0, 0, 0, 0, 0] (apS [] (fX11_heardLine_7 h) st) xs) (kT := fun xs h st => app [2, 0, 0, 0, 0] (fun v0 => apS [] (fX11_heardLine_8 v0 h) st) xs) (kR := kRV)
    (fun xs h st q => jm [0, 0, 0, 0, 0] _ (fun q => apS_ok [] _ (fun st => Ev (d + 8) none mX11_heardLine (0, 0) 7 [.null, .null, .null, .null, .null] st h (QV z)) st (fun q => tX11_heardLine_7 h q) q) q)
    (fun xs h st q => jm [2, 0, 0, 0, 0] _ (fun v0 q => apS_ok [] _ (fun st => Ev (d + 8) none mX11_heardLine (0, 0) 8 [.ref v0, .null, .null, .null, .null] st h (QV z)) st (fun q => tX11_heardLine_8 v0 h q) q) q)
    kRV_ok (Or.inr rfl) (by decide +kernel) (by decide +kernel) hf
def gX11_heardLine (v0 : Nat) (h : aH) : Option (aH) := fX11_heardLine_0 v0 h
theorem zX11_heardLine {d : Nat} {z : aH} {v0 : Nat} {h : aH} (q : gX11_heardLine v0 h = some z) : CT (d + 8) mX11_heardLine (0, 0) [.ref v0] h (QV z) :=
  ct_ev (by decide +kernel) (Nat.le_of_ble_eq_true rfl) QV_r (jm [2, 0, 0, 0, 0] (fun v0 => fX11_heardLine_0 v0 h) (fun v0 q => tX11_heardLine_0 v0 h q) q)
def wX11_after_11 : List En := [(.ireturn, 0, 0, 0)]
def fX11_after_11 (s0 : Int32) (h : aH) : Option (Int32 × aH) :=
  some (s0, h)
theorem tX11_after_11 {d : Nat} {z : Int32 × aH} (s0 : Int32) (h : aH) (hf : fX11_after_11 s0 h = some z) : Ev (d + 7) none mX11_after (0, 0) 11 [.null, .null, .null, .null] [.int s0] h (QI z) := 
  go_ok (X := none) (blk := wX11_after_11) (np := 12) (tt := 0) (kN := fun _ _ _ => none) (kT := fun _ _ _ => none) (kR := kRI)
    (fun _ _ _ q => nos q)
    (fun _ _ _ q => nos q)
    kRI_ok (Or.inr rfl) (by decide +kernel) (by decide +kernel) hf
theorem kqX11_after_8 : okC mX11_after 8 (.invokevirtual 158) 195 212 0 2 = true := by decide +kernel
def fX11_after_8 (s0 : Int32) (s1 : Int32) (s2 : Nat) (h : aH) : Option (Int32 × aH) :=
  (isO h 11 s2).bind fun _ =>
  (gX11_number s2 s1 s0 h).bind fun r =>
  fX11_after_11 r.1 r.2
theorem tX11_after_8 {d : Nat} {z : Int32 × aH} (s0 : Int32) (s1 : Int32) (s2 : Nat) (h : aH) (hf : fX11_after_8 s0 s1 s2 h = some z) : Ev (d + 7) none mX11_after (0, 0) 8 [.null, .null, .null, .null] [.int s0, .int s1, .ref s2] h (QI z) := by
  obtain ⟨_, h1, hf⟩ := bnd hf
  obtain ⟨fs, ho⟩ := isO_ok h1
  obtain ⟨r, h2, hf⟩ := bnd hf
  refine ev_V kqX11_after_8 jX11_number (zX11_number (d := d + 3) h2) ho rfl rfl (Nat.le_of_ble_eq_true rfl) rfl (as := [.int s1, .int s0]) (rest := []) rfl (Nat.le_of_ble_eq_true rfl) (fun _ _ hq => ?_)
  obtain ⟨rfl, rfl⟩ := hq
  exact jm [0, 0, 0, 0] (fX11_after_11 r.1 r.2) (fun q => tX11_after_11 r.1 r.2 q) hf
def wX11_after_5 : List En := [(.aload_n 0, 0, 0, 0), (.iload_n 2, 0, 0, 0), (.iload_n 3, 0, 0, 0)]
def fX11_after_5 (v0 : Nat) (v2 : Int32) (v3 : Int32) (h : aH) : Option (Int32 × aH) :=
  fX11_after_8 v3 v2 v0 h
theorem tX11_after_5 {d : Nat} {z : Int32 × aH} (v0 : Nat) (v2 : Int32) (v3 : Int32) (h : aH) (hf : fX11_after_5 v0 v2 v3 h = some z) : Ev (d + 7) none mX11_after (0, 0) 5 [.ref v0, .null, .int v2, .int v3] [] h (QI z) := 
  go_ok (X := none) (blk := wX11_after_5) (np := 8) (tt := 0) (kN := fun xs h st => app [0, 0, 0, 0] (apS [1, 1, 2] (fun s0 s1 s2 => fX11_after_8 s0 s1 s2 h) st) xs) (kT := fun _ _ _ => none) (kR := kRI)
    (fun xs h st q => jm [0, 0, 0, 0] _ (fun q => apS_ok [1, 1, 2] _ (fun st => Ev (d + 7) none mX11_after (0, 0) 8 [.null, .null, .null, .null] st h (QI z)) st (fun s0 s1 s2 q => tX11_after_8 s0 s1 s2 h q) q) q)
    (fun _ _ _ q => nos q)
    kRI_ok (Or.inr rfl) (by decide +kernel) (by decide +kernel) hf
theorem kqX11_after_2 : okC mX11_after 2 (.invokevirtual 154) 193 210 0 1 = true := by decide +kernel
def fX11_after_2 (v0 : Nat) (v2 : Int32) (v3 : Int32) (s0 : Nat) (s1 : Nat) (h : aH) : Option (Int32 × aH) :=
  (isO h 11 s1).bind fun _ =>
  (gX11_must s1 s0 h).bind fun r =>
  fX11_after_5 v0 v2 v3 r
theorem tX11_after_2 {d : Nat} {z : Int32 × aH} (v0 : Nat) (v2 : Int32) (v3 : Int32) (s0 : Nat) (s1 : Nat) (h : aH) (hf : fX11_after_2 v0 v2 v3 s0 s1 h = some z) : Ev (d + 7) none mX11_after (0, 0) 2 [.ref v0, .null, .int v2, .int v3] [.ref s0, .ref s1] h (QI z) := by
  obtain ⟨_, h1, hf⟩ := bnd hf
  obtain ⟨fs, ho⟩ := isO_ok h1
  obtain ⟨r, h2, hf⟩ := bnd hf
  refine ev_V kqX11_after_2 jX11_must (zX11_must (d := d + 0) h2) ho rfl rfl (Nat.le_of_ble_eq_true rfl) rfl (as := [.ref s0]) (rest := []) rfl (Nat.le_of_ble_eq_true rfl) (fun _ _ hq => ?_)
  obtain ⟨rfl, hh⟩ := hq
  rw [hh]
  exact jm [2, 0, 1, 1] (fun v0 v2 v3 => fX11_after_5 v0 v2 v3 r) (fun v0 v2 v3 q => tX11_after_5 v0 v2 v3 r q) hf
def wX11_after_0 : List En := [(.aload_n 0, 0, 0, 0), (.aload_n 1, 0, 0, 0)]
def fX11_after_0 (v0 : Nat) (v1 : Nat) (v2 : Int32) (v3 : Int32) (h : aH) : Option (Int32 × aH) :=
  fX11_after_2 v0 v2 v3 v1 v0 h
theorem tX11_after_0 {d : Nat} {z : Int32 × aH} (v0 : Nat) (v1 : Nat) (v2 : Int32) (v3 : Int32) (h : aH) (hf : fX11_after_0 v0 v1 v2 v3 h = some z) : Ev (d + 7) none mX11_after (0, 0) 0 [.ref v0, .ref v1, .int v2, .int v3] [] h (QI z) := 
  go_ok (X := none) (blk := wX11_after_0) (np := 2) (tt := 0) (kN := fun xs h st => app [2, 0, 1, 1] (fun v0 v2 v3 => apS [2, 2] (fun s0 s1 => fX11_after_2 v0 v2 v3 s0 s1 h) st) xs) (kT := fun _ _ _ => none) (kR := kRI)
    (fun xs h st q => jm [2, 0, 1, 1] _ (fun v0 v2 v3 q => apS_ok [2, 2] _ (fun st => Ev (d + 7) none mX11_after (0, 0) 2 [.ref v0, .null, .int v2, .int v3] st h (QI z)) st (fun s0 s1 q => tX11_after_2 v0 v2 v3 s0 s1 h q) q) q)
    (fun _ _ _ q => nos q)
    kRI_ok (Or.inr rfl) (by decide +kernel) (by decide +kernel) hf
def gX11_after (v0 : Nat) (v1 : Nat) (v2 : Int32) (v3 : Int32) (h : aH) : Option (Int32 × aH) := fX11_after_0 v0 v1 v2 v3 h
theorem zX11_after {d : Nat} {z : Int32 × aH} {v0 : Nat} {v1 : Nat} {v2 : Int32} {v3 : Int32} {h : aH} (q : gX11_after v0 v1 v2 v3 h = some z) : CT (d + 7) mX11_after (0, 0) [.ref v0, .ref v1, .int v2, .int v3] h (QI z) :=
  ct_ev (by decide +kernel) (Nat.le_of_ble_eq_true rfl) QI_r (jm [2, 2, 1, 1] (fun v0 v1 v2 v3 => fX11_after_0 v0 v1 v2 v3 h) (fun v0 v1 v2 v3 q => tX11_after_0 v0 v1 v2 v3 h q) q)
def wX11_newName_96 : List En := [(.return_, 0, 0, 0)]
def fX11_newName_96 (h : aH) : Option (aH) :=
  some h
theorem tX11_newName_96 {d : Nat} {z : aH} (h : aH) (hf : fX11_newName_96 h = some z) : Ev (d + 6) none mX11_newName (0, 0) 96 [.null, .null, .null] [] h (QV z) := 
  go_ok (X := none) (blk := wX11_newName_96) (np := 97) (tt := 0) (kN := fun _ _ _ => none) (kT := fun _ _ _ => none) (kR := kRV)
    (fun _ _ _ q => nos q)
    (fun _ _ _ q => nos q)
    kRV_ok (Or.inr rfl) (by decide +kernel) (by decide +kernel) hf
theorem kqX11_newName_93 : okC mX11_newName 93 (.invokevirtual 112) 184 199 0 0 = true := by decide +kernel
def fX11_newName_93 (s0 : Nat) (h : aH) : Option (aH) :=
  (isO h 11 s0).bind fun _ =>
  (gX11_next s0 h).bind fun r =>
  fX11_newName_96 r
theorem tX11_newName_93 {d : Nat} {z : aH} (s0 : Nat) (h : aH) (hf : fX11_newName_93 s0 h = some z) : Ev (d + 6) none mX11_newName (0, 0) 93 [.null, .null, .null] [.ref s0] h (QV z) := by
  obtain ⟨_, h1, hf⟩ := bnd hf
  obtain ⟨fs, ho⟩ := isO_ok h1
  obtain ⟨r, h2, hf⟩ := bnd hf
  refine ev_V kqX11_newName_93 jX11_next (zX11_next (d := d + 4) h2) ho rfl rfl (Nat.le_of_ble_eq_true rfl) rfl (as := []) (rest := []) rfl (Nat.le_of_ble_eq_true rfl) (fun _ _ hq => ?_)
  obtain ⟨rfl, hh⟩ := hq
  rw [hh]
  exact jm [0, 0, 0] (fX11_newName_96 r) (fun q => tX11_newName_96 r q) hf
def wX11_newName_79 : List En := [(.aload_n 0, 0, 0, 0), (.getfield 23, 191, 11, 16), (.bipush 71, 0, 0, 0), (.iload_n 1, 0, 0, 0), (.iadd, 0, 0, 0), (.aload_n 0, 0, 0, 0), (.getfield 75, 183, 11, 8), (.iastore, 0, 0, 0), (.aload_n 0, 0, 0, 0)]
def fX11_newName_79 (v0 : Nat) (v1 : Int32) (h : aH) : Option (aH) :=
  (gFR h 11 v0 16).bind fun t1 =>
  (gFI h 11 v0 8).bind fun t2 =>
  (aWI h t1 ((kB 71) + v1) t2).bind fun h3 =>
  fX11_newName_93 v0 h3
theorem tX11_newName_79 {d : Nat} {z : aH} (v0 : Nat) (v1 : Int32) (h : aH) (hf : fX11_newName_79 v0 v1 h = some z) : Ev (d + 6) none mX11_newName (0, 0) 79 [.ref v0, .int v1, .null] [] h (QV z) := 
  go_ok (X := none) (blk := wX11_newName_79) (np := 93) (tt := 0) (kN := fun xs h st => app [0, 0, 0] (apS [2] (fun s0 => fX11_newName_93 s0 h) st) xs) (kT := fun _ _ _ => none) (kR := kRV)
    (fun xs h st q => jm [0, 0, 0] _ (fun q => apS_ok [2] _ (fun st => Ev (d + 6) none mX11_newName (0, 0) 93 [.null, .null, .null] st h (QV z)) st (fun s0 q => tX11_newName_93 s0 h q) q) q)
    (fun _ _ _ q => nos q)
    kRV_ok (Or.inr rfl) (by decide +kernel) (by decide +kernel) hf
def wX11_newName_53 : List En := [(.aload_n 0, 0, 0, 0), (.getfield 23, 191, 11, 16), (.bipush 84, 0, 0, 0), (.bipush 8, 0, 0, 0), (.iload_n 1, 0, 0, 0), (.imul, 0, 0, 0), (.iadd, 0, 0, 0), (.iload_n 2, 0, 0, 0), (.iadd, 0, 0, 0), (.aload_n 0, 0, 0, 0), (.getfield 17, 187, 11, 12), (.iload_n 2, 0, 0, 0), (.iaload, 0, 0, 0), (.iastore, 0, 0, 0), (.iinc 2 1, 0, 0, 0), (.goto (-31), 45, 0, 0)]
def fX11_newName_53 (k45 : Nat → Int32 → Int32 → aH → Option (aH)) (v0 : Nat) (v1 : Int32) (v2 : Int32) (h : aH) : Option (aH) :=
  (gFR h 11 v0 16).bind fun t1 =>
  (gFR h 11 v0 12).bind fun t2 =>
  (aRI (h[t2]?) v2).bind fun t3 =>
  (aWI h t1 (((kB 84) + ((kB 8) * v1)) + v2) t3).bind fun h4 =>
  k45 v0 v1 (v2 + kI 1) h4
theorem tX11_newName_53 {d : Nat} {z : aH} {k45 : Nat → Int32 → Int32 → aH → Option (aH)} (hk45 : ∀ (v0 : Nat) (v1 : Int32) (v2 : Int32) (h : aH), k45 v0 v1 v2 h = some z → Ev (d + 6) none mX11_newName (0, 0) 45 [.ref v0, .int v1, .int v2] [] h (QV z)) (v0 : Nat) (v1 : Int32) (v2 : Int32) (h : aH) (hf : fX11_newName_53 k45 v0 v1 v2 h = some z) : Ev (d + 6) none mX11_newName (0, 0) 53 [.ref v0, .int v1, .int v2] [] h (QV z) := 
  go_ok (X := none) (blk := wX11_newName_53) (np := 79) (tt := 45) (kN := fun _ _ _ => none) (kT := fun xs h st => app [2, 1, 1] (fun v0 v1 v2 => apS [] (k45 v0 v1 v2 h) st) xs) (kR := kRV)
    (fun _ _ _ q => nos q)
    (fun xs h st q => jm [2, 1, 1] _ (fun v0 v1 v2 q => apS_ok [] _ (fun st => Ev (d + 6) none mX11_newName (0, 0) 45 [.ref v0, .int v1, .int v2] st h (QV z)) st (fun q => hk45 v0 v1 v2 h q) q) q)
    kRV_ok (Or.inr rfl) (by decide +kernel) (by decide +kernel) hf
def wX11_newName_45 : List En := [(.iload_n 2, 0, 0, 0), (.aload_n 0, 0, 0, 0), (.getfield 75, 183, 11, 8), (.if_icmp .ge 29, 79, 0, 0)]
def fX11_newName_45 (k45 : Nat → Int32 → Int32 → aH → Option (aH)) (v0 : Nat) (v1 : Int32) (v2 : Int32) (h : aH) : Option (aH) :=
  (gFI h 11 v0 8).bind fun t1 =>
  if v2 < t1 then fX11_newName_53 k45 v0 v1 v2 h else fX11_newName_79 v0 v1 h
theorem tX11_newName_45 {d : Nat} {z : aH} {k45 : Nat → Int32 → Int32 → aH → Option (aH)} (hk45 : ∀ (v0 : Nat) (v1 : Int32) (v2 : Int32) (h : aH), k45 v0 v1 v2 h = some z → Ev (d + 6) none mX11_newName (0, 0) 45 [.ref v0, .int v1, .int v2] [] h (QV z)) (v0 : Nat) (v1 : Int32) (v2 : Int32) (h : aH) (hf : fX11_newName_45 k45 v0 v1 v2 h = some z) : Ev (d + 6) none mX11_newName (0, 0) 45 [.ref v0, .int v1, .int v2] [] h (QV z) := 
  go_ok (X := none) (blk := wX11_newName_45) (np := 53) (tt := 79) (kN := fun xs h st => app [2, 1, 1] (fun v0 v1 v2 => apS [] (fX11_newName_53 k45 v0 v1 v2 h) st) xs) (kT := fun xs h st => app [2, 1, 0] (fun v0 v1 => apS [] (fX11_newName_79 v0 v1 h) st) xs) (kR := kRV)
    (fun xs h st q => jm [2, 1, 1] _ (fun v0 v1 v2 q => apS_ok [] _ (fun st => Ev (d + 6) none mX11_newName (0, 0) 53 [.ref v0, .int v1, .int v2] st h (QV z)) st (fun q => tX11_newName_53 hk45 v0 v1 v2 h q) q) q)
    (fun xs h st q => jm [2, 1, 0] _ (fun v0 v1 q => apS_ok [] _ (fun st => Ev (d + 6) none mX11_newName (0, 0) 79 [.ref v0, .int v1, .null] st h (QV z)) st (fun q => tX11_newName_79 v0 v1 h q) q) q)
    kRV_ok (Or.inr rfl) (by decide +kernel) (by decide +kernel) hf
def lX11_newName_45 : Nat → Nat → Int32 → Int32 → aH → Option (aH)
  | 0, _, _, _, _ => none
  | n + 1, v0, v1, v2, h => fX11_newName_45 (lX11_newName_45 n) v0 v1 v2 h
theorem uX11_newName_45 {d : Nat} {z : aH} : ∀ (n : Nat) (v0 : Nat) (v1 : Int32) (v2 : Int32) (h : aH), lX11_newName_45 n v0 v1 v2 h = some z → Ev (d + 6) none mX11_newName (0, 0) 45 [.ref v0, .int v1, .int v2] [] h (QV z) := by
  intro n
  induction n with
  | zero => intro _ _ _ _ q; exact nos (show (none : Option (aH)) = some z from q)
  | succ n ih => intro v0 v1 v2 h q; exact tX11_newName_45 ih v0 v1 v2 h q
def wX11_newName_43 : List En := [(.iconst 0, 0, 0, 0), (.istore_n 2, 0, 0, 0)]
def fX11_newName_43 (v0 : Nat) (v1 : Int32) (h : aH) : Option (aH) :=
  lX11_newName_45 FU v0 v1 (kI 0) h
theorem tX11_newName_43 {d : Nat} {z : aH} (v0 : Nat) (v1 : Int32) (h : aH) (hf : fX11_newName_43 v0 v1 h = some z) : Ev (d + 6) none mX11_newName (0, 0) 43 [.ref v0, .int v1, .null] [] h (QV z) := 
  go_ok (X := none) (blk := wX11_newName_43) (np := 45) (tt := 0) (kN := fun xs h st => app [2, 1, 1] (fun v0 v1 v2 => apS [] (lX11_newName_45 FU v0 v1 v2 h) st) xs) (kT := fun _ _ _ => none) (kR := kRV)
    (fun xs h st q => jm [2, 1, 1] _ (fun v0 v1 v2 q => apS_ok [] _ (fun st => Ev (d + 6) none mX11_newName (0, 0) 45 [.ref v0, .int v1, .int v2] st h (QV z)) st (fun q => uX11_newName_45 FU v0 v1 v2 h q) q) q)
    (fun _ _ _ q => nos q)
    kRV_ok (Or.inr rfl) (by decide +kernel) (by decide +kernel) hf
def wX11_newName_42 : List En := [(.return_, 0, 0, 0)]
def fX11_newName_42 (h : aH) : Option (aH) :=
  some h
theorem tX11_newName_42 {d : Nat} {z : aH} (h : aH) (hf : fX11_newName_42 h = some z) : Ev (d + 6) none mX11_newName (0, 0) 42 [.null, .null, .null] [] h (QV z) := 
  go_ok (X := none) (blk := wX11_newName_42) (np := 43) (tt := 0) (kN := fun _ _ _ => none) (kT := fun _ _ _ => none) (kR := kRV)
    (fun _ _ _ q => nos q)
    (fun _ _ _ q => nos q)
    kRV_ok (Or.inr rfl) (by decide +kernel) (by decide +kernel) hf
def wX11_newName_35 : List En := [(.aload_n 0, 0, 0, 0), (.getfield 91, 188, 11, 13), (.ifCond .eq 4, 43, 0, 0)]
def fX11_newName_35 (v0 : Nat) (v1 : Int32) (h : aH) : Option (aH) :=
  (gFI h 11 v0 13).bind fun t1 =>
  if t1 = 0 then fX11_newName_43 v0 v1 h else fX11_newName_42 h
theorem tX11_newName_35 {d : Nat} {z : aH} (v0 : Nat) (v1 : Int32) (h : aH) (hf : fX11_newName_35 v0 v1 h = some z) : Ev (d + 6) none mX11_newName (0, 0) 35 [.ref v0, .int v1, .null] [] h (QV z) := 
  go_ok (X := none) (blk := wX11_newName_35) (np := 42) (tt := 43) (kN := fun xs h st => app [0, 0, 0] (apS [] (fX11_newName_42 h) st) xs) (kT := fun xs h st => app [2, 1, 0] (fun v0 v1 => apS [] (fX11_newName_43 v0 v1 h) st) xs) (kR := kRV)
    (fun xs h st q => jm [0, 0, 0] _ (fun q => apS_ok [] _ (fun st => Ev (d + 6) none mX11_newName (0, 0) 42 [.null, .null, .null] st h (QV z)) st (fun q => tX11_newName_42 h q) q) q)
    (fun xs h st q => jm [2, 1, 0] _ (fun v0 v1 q => apS_ok [] _ (fun st => Ev (d + 6) none mX11_newName (0, 0) 43 [.ref v0, .int v1, .null] st h (QV z)) st (fun q => tX11_newName_43 v0 v1 h q) q) q)
    kRV_ok (Or.inr rfl) (by decide +kernel) (by decide +kernel) hf
theorem kqX11_newName_32 : okC mX11_newName 32 (.invokevirtual 118) 191 208 0 2 = true := by decide +kernel
def fX11_newName_32 (v0 : Nat) (v1 : Int32) (s0 : Int32) (s1 : Int32) (s2 : Nat) (h : aH) : Option (aH) :=
  (isO h 11 s2).bind fun _ =>
  (gX11_wrong s2 s1 s0 h).bind fun r =>
  fX11_newName_35 v0 v1 r
theorem tX11_newName_32 {d : Nat} {z : aH} (v0 : Nat) (v1 : Int32) (s0 : Int32) (s1 : Int32) (s2 : Nat) (h : aH) (hf : fX11_newName_32 v0 v1 s0 s1 s2 h = some z) : Ev (d + 6) none mX11_newName (0, 0) 32 [.ref v0, .int v1, .null] [.int s0, .int s1, .ref s2] h (QV z) := by
  obtain ⟨_, h1, hf⟩ := bnd hf
  obtain ⟨fs, ho⟩ := isO_ok h1
  obtain ⟨r, h2, hf⟩ := bnd hf
  refine ev_V kqX11_newName_32 jX11_wrong (zX11_wrong (d := d + 5) h2) ho rfl rfl (Nat.le_of_ble_eq_true rfl) rfl (as := [.int s1, .int s0]) (rest := []) rfl (Nat.le_of_ble_eq_true rfl) (fun _ _ hq => ?_)
  obtain ⟨rfl, hh⟩ := hq
  rw [hh]
  exact jm [2, 1, 0] (fun v0 v1 => fX11_newName_35 v0 v1 r) (fun v0 v1 q => tX11_newName_35 v0 v1 r q) hf
def wX11_newName_26 : List En := [(.aload_n 0, 0, 0, 0), (.iconst 3, 0, 0, 0), (.aload_n 0, 0, 0, 0), (.getfield 72, 179, 11, 4)]
def fX11_newName_26 (v0 : Nat) (v1 : Int32) (h : aH) : Option (aH) :=
  (gFI h 11 v0 4).bind fun t1 =>
  fX11_newName_32 v0 v1 t1 (kI 3) v0 h
theorem tX11_newName_26 {d : Nat} {z : aH} (v0 : Nat) (v1 : Int32) (h : aH) (hf : fX11_newName_26 v0 v1 h = some z) : Ev (d + 6) none mX11_newName (0, 0) 26 [.ref v0, .int v1, .null] [] h (QV z) := 
  go_ok (X := none) (blk := wX11_newName_26) (np := 32) (tt := 0) (kN := fun xs h st => app [2, 1, 0] (fun v0 v1 => apS [1, 1, 2] (fun s0 s1 s2 => fX11_newName_32 v0 v1 s0 s1 s2 h) st) xs) (kT := fun _ _ _ => none) (kR := kRV)
    (fun xs h st q => jm [2, 1, 0] _ (fun v0 v1 q => apS_ok [1, 1, 2] _ (fun st => Ev (d + 6) none mX11_newName (0, 0) 32 [.ref v0, .int v1, .null] st h (QV z)) st (fun s0 s1 s2 q => tX11_newName_32 v0 v1 s0 s1 s2 h q) q) q)
    (fun _ _ _ q => nos q)
    kRV_ok (Or.inr rfl) (by decide +kernel) (by decide +kernel) hf
def wX11_newName_23 : List En := [(.ifCond .lt 12, 35, 0, 0)]
def fX11_newName_23 (v0 : Nat) (v1 : Int32) (s0 : Int32) (h : aH) : Option (aH) :=
  if s0 < 0 then fX11_newName_35 v0 v1 h else fX11_newName_26 v0 v1 h
theorem tX11_newName_23 {d : Nat} {z : aH} (v0 : Nat) (v1 : Int32) (s0 : Int32) (h : aH) (hf : fX11_newName_23 v0 v1 s0 h = some z) : Ev (d + 6) none mX11_newName (0, 0) 23 [.ref v0, .int v1, .null] [.int s0] h (QV z) := 
  go_ok (X := none) (blk := wX11_newName_23) (np := 26) (tt := 35) (kN := fun xs h st => app [2, 1, 0] (fun v0 v1 => apS [] (fX11_newName_26 v0 v1 h) st) xs) (kT := fun xs h st => app [2, 1, 0] (fun v0 v1 => apS [] (fX11_newName_35 v0 v1 h) st) xs) (kR := kRV)
    (fun xs h st q => jm [2, 1, 0] _ (fun v0 v1 q => apS_ok [] _ (fun st => Ev (d + 6) none mX11_newName (0, 0) 26 [.ref v0, .int v1, .null] st h (QV z)) st (fun q => tX11_newName_26 v0 v1 h q) q) q)
    (fun xs h st q => jm [2, 1, 0] _ (fun v0 v1 q => apS_ok [] _ (fun st => Ev (d + 6) none mX11_newName (0, 0) 35 [.ref v0, .int v1, .null] st h (QV z)) st (fun q => tX11_newName_35 v0 v1 h q) q) q)
    kRV_ok (Or.inr rfl) (by decide +kernel) (by decide +kernel) hf
theorem kqX11_newName_20 : okC mX11_newName 20 (.invokevirtual 137) 202 219 0 0 = true := by decide +kernel
def fX11_newName_20 (v0 : Nat) (v1 : Int32) (s0 : Nat) (h : aH) : Option (aH) :=
  (isO h 11 s0).bind fun _ =>
  (gX11_find s0 h).bind fun r =>
  fX11_newName_23 v0 v1 r.1 r.2
theorem tX11_newName_20 {d : Nat} {z : aH} (v0 : Nat) (v1 : Int32) (s0 : Nat) (h : aH) (hf : fX11_newName_20 v0 v1 s0 h = some z) : Ev (d + 6) none mX11_newName (0, 0) 20 [.ref v0, .int v1, .null] [.ref s0] h (QV z) := by
  obtain ⟨_, h1, hf⟩ := bnd hf
  obtain ⟨fs, ho⟩ := isO_ok h1
  obtain ⟨r, h2, hf⟩ := bnd hf
  refine ev_V kqX11_newName_20 jX11_find (zX11_find (d := d + 5) h2) ho rfl rfl (Nat.le_of_ble_eq_true rfl) rfl (as := []) (rest := []) rfl (Nat.le_of_ble_eq_true rfl) (fun _ _ hq => ?_)
  obtain ⟨rfl, rfl⟩ := hq
  exact jm [2, 1, 0] (fun v0 v1 => fX11_newName_23 v0 v1 r.1 r.2) (fun v0 v1 q => tX11_newName_23 v0 v1 r.1 r.2 q) hf
def wX11_newName_19 : List En := [(.aload_n 0, 0, 0, 0)]
def fX11_newName_19 (v0 : Nat) (v1 : Int32) (h : aH) : Option (aH) :=
  fX11_newName_20 v0 v1 v0 h
theorem tX11_newName_19 {d : Nat} {z : aH} (v0 : Nat) (v1 : Int32) (h : aH) (hf : fX11_newName_19 v0 v1 h = some z) : Ev (d + 6) none mX11_newName (0, 0) 19 [.ref v0, .int v1, .null] [] h (QV z) := 
  go_ok (X := none) (blk := wX11_newName_19) (np := 20) (tt := 0) (kN := fun xs h st => app [2, 1, 0] (fun v0 v1 => apS [2] (fun s0 => fX11_newName_20 v0 v1 s0 h) st) xs) (kT := fun _ _ _ => none) (kR := kRV)
    (fun xs h st q => jm [2, 1, 0] _ (fun v0 v1 q => apS_ok [2] _ (fun st => Ev (d + 6) none mX11_newName (0, 0) 20 [.ref v0, .int v1, .null] st h (QV z)) st (fun s0 q => tX11_newName_20 v0 v1 s0 h q) q) q)
    (fun _ _ _ q => nos q)
    kRV_ok (Or.inr rfl) (by decide +kernel) (by decide +kernel) hf
def wX11_newName_12 : List En := [(.aload_n 0, 0, 0, 0), (.getfield 91, 188, 11, 13), (.ifCond .ne 19, 35, 0, 0)]
def fX11_newName_12 (v0 : Nat) (v1 : Int32) (h : aH) : Option (aH) :=
  (gFI h 11 v0 13).bind fun t1 =>
  if t1 = 0 then fX11_newName_19 v0 v1 h else fX11_newName_35 v0 v1 h
theorem tX11_newName_12 {d : Nat} {z : aH} (v0 : Nat) (v1 : Int32) (h : aH) (hf : fX11_newName_12 v0 v1 h = some z) : Ev (d + 6) none mX11_newName (0, 0) 12 [.ref v0, .int v1, .null] [] h (QV z) := 
  go_ok (X := none) (blk := wX11_newName_12) (np := 19) (tt := 35) (kN := fun xs h st => app [2, 1, 0] (fun v0 v1 => apS [] (fX11_newName_19 v0 v1 h) st) xs) (kT := fun xs h st => app [2, 1, 0] (fun v0 v1 => apS [] (fX11_newName_35 v0 v1 h) st) xs) (kR := kRV)
    (fun xs h st q => jm [2, 1, 0] _ (fun v0 v1 q => apS_ok [] _ (fun st => Ev (d + 6) none mX11_newName (0, 0) 19 [.ref v0, .int v1, .null] st h (QV z)) st (fun q => tX11_newName_19 v0 v1 h q) q) q)
    (fun xs h st q => jm [2, 1, 0] _ (fun v0 v1 q => apS_ok [] _ (fun st => Ev (d + 6) none mX11_newName (0, 0) 35 [.ref v0, .int v1, .null] st h (QV z)) st (fun q => tX11_newName_35 v0 v1 h q) q) q)
    kRV_ok (Or.inr rfl) (by decide +kernel) (by decide +kernel) hf
theorem kqX11_newName_9 : okC mX11_newName 9 (.invokevirtual 134) 201 218 0 0 = true := by decide +kernel
def fX11_newName_9 (v0 : Nat) (v1 : Int32) (s0 : Nat) (h : aH) : Option (aH) :=
  (isO h 11 s0).bind fun _ =>
  (gX11_mustName s0 h).bind fun r =>
  fX11_newName_12 v0 v1 r
theorem tX11_newName_9 {d : Nat} {z : aH} (v0 : Nat) (v1 : Int32) (s0 : Nat) (h : aH) (hf : fX11_newName_9 v0 v1 s0 h = some z) : Ev (d + 6) none mX11_newName (0, 0) 9 [.ref v0, .int v1, .null] [.ref s0] h (QV z) := by
  obtain ⟨_, h1, hf⟩ := bnd hf
  obtain ⟨fs, ho⟩ := isO_ok h1
  obtain ⟨r, h2, hf⟩ := bnd hf
  refine ev_V kqX11_newName_9 jX11_mustName (zX11_mustName (d := d + 0) h2) ho rfl rfl (Nat.le_of_ble_eq_true rfl) rfl (as := []) (rest := []) rfl (Nat.le_of_ble_eq_true rfl) (fun _ _ hq => ?_)
  obtain ⟨rfl, hh⟩ := hq
  rw [hh]
  exact jm [2, 1, 0] (fun v0 v1 => fX11_newName_12 v0 v1 r) (fun v0 v1 q => tX11_newName_12 v0 v1 r q) hf
def wX11_newName_8 : List En := [(.aload_n 0, 0, 0, 0)]
def fX11_newName_8 (v0 : Nat) (v1 : Int32) (h : aH) : Option (aH) :=
  fX11_newName_9 v0 v1 v0 h
theorem tX11_newName_8 {d : Nat} {z : aH} (v0 : Nat) (v1 : Int32) (h : aH) (hf : fX11_newName_8 v0 v1 h = some z) : Ev (d + 6) none mX11_newName (0, 0) 8 [.ref v0, .int v1, .null] [] h (QV z) := 
  go_ok (X := none) (blk := wX11_newName_8) (np := 9) (tt := 0) (kN := fun xs h st => app [2, 1, 0] (fun v0 v1 => apS [2] (fun s0 => fX11_newName_9 v0 v1 s0 h) st) xs) (kT := fun _ _ _ => none) (kR := kRV)
    (fun xs h st q => jm [2, 1, 0] _ (fun v0 v1 q => apS_ok [2] _ (fun st => Ev (d + 6) none mX11_newName (0, 0) 9 [.ref v0, .int v1, .null] st h (QV z)) st (fun s0 q => tX11_newName_9 v0 v1 s0 h q) q) q)
    (fun _ _ _ q => nos q)
    kRV_ok (Or.inr rfl) (by decide +kernel) (by decide +kernel) hf
def wX11_newName_7 : List En := [(.return_, 0, 0, 0)]
def fX11_newName_7 (h : aH) : Option (aH) :=
  some h
theorem tX11_newName_7 {d : Nat} {z : aH} (h : aH) (hf : fX11_newName_7 h = some z) : Ev (d + 6) none mX11_newName (0, 0) 7 [.null, .null, .null] [] h (QV z) := 
  go_ok (X := none) (blk := wX11_newName_7) (np := 8) (tt := 0) (kN := fun _ _ _ => none) (kT := fun _ _ _ => none) (kR := kRV)
    (fun _ _ _ q => nos q)
    (fun _ _ _ q => nos q)
    kRV_ok (Or.inr rfl) (by decide +kernel) (by decide +kernel) hf
def wX11_newName_0 : List En := [(.aload_n 0, 0, 0, 0), (.getfield 91, 188, 11, 13), (.ifCond .eq 4, 8, 0, 0)]
def fX11_newName_0 (v0 : Nat) (v1 : Int32) (h : aH) : Option (aH) :=
  (gFI h 11 v0 13).bind fun t1 =>
  if t1 = 0 then fX11_newName_8 v0 v1 h else fX11_newName_7 h
theorem tX11_newName_0 {d : Nat} {z : aH} (v0 : Nat) (v1 : Int32) (h : aH) (hf : fX11_newName_0 v0 v1 h = some z) : Ev (d + 6) none mX11_newName (0, 0) 0 [.ref v0, .int v1, .null] [] h (QV z) := 
  go_ok (X := none) (blk := wX11_newName_0) (np := 7) (tt := 8) (kN := fun xs h st => app [0, 0, 0] (apS [] (fX11_newName_7 h) st) xs) (kT := fun xs h st => app [2, 1, 0] (fun v0 v1 => apS [] (fX11_newName_8 v0 v1 h) st) xs) (kR := kRV)
    (fun xs h st q => jm [0, 0, 0] _ (fun q => apS_ok [] _ (fun st => Ev (d + 6) none mX11_newName (0, 0) 7 [.null, .null, .null] st h (QV z)) st (fun q => tX11_newName_7 h q) q) q)
    (fun xs h st q => jm [2, 1, 0] _ (fun v0 v1 q => apS_ok [] _ (fun st => Ev (d + 6) none mX11_newName (0, 0) 8 [.ref v0, .int v1, .null] st h (QV z)) st (fun q => tX11_newName_8 v0 v1 h q) q) q)
    kRV_ok (Or.inr rfl) (by decide +kernel) (by decide +kernel) hf
def gX11_newName (v0 : Nat) (v1 : Int32) (h : aH) : Option (aH) := fX11_newName_0 v0 v1 h
theorem zX11_newName {d : Nat} {z : aH} {v0 : Nat} {v1 : Int32} {h : aH} (q : gX11_newName v0 v1 h = some z) : CT (d + 6) mX11_newName (0, 0) [.ref v0, .int v1] h (QV z) :=
  ct_ev (by decide +kernel) (Nat.le_of_ble_eq_true rfl) QV_r (jm [2, 1, 0] (fun v0 v1 => fX11_newName_0 v0 v1 h) (fun v0 v1 q => tX11_newName_0 v0 v1 h q) q)
def wX11_nameLine_118 : List En := [(.aload_n 0, 0, 0, 0), (.getfield 23, 191, 11, 16), (.iload_n 1, 0, 0, 0), (.iload_n 2, 0, 0, 0), (.iastore, 0, 0, 0), (.aload_n 0, 0, 0, 0), (.getfield 23, 191, 11, 16), (.iload_n 1, 0, 0, 0), (.iconst 1, 0, 0, 0), (.iadd, 0, 0, 0), (.iload_n 3, 0, 0, 0), (.iastore, 0, 0, 0), (.aload_n 0, 0, 0, 0), (.getfield 23, 191, 11, 16), (.iconst 4, 0, 0, 0), (.dup2, 0, 0, 0), (.iaload, 0, 0, 0), (.iconst 1, 0, 0, 0), (.iadd, 0, 0, 0), (.iastore, 0, 0, 0), (.return_, 0, 0, 0)]
def fX11_nameLine_118 (v0 : Nat) (v1 : Int32) (v2 : Int32) (v3 : Int32) (h : aH) : Option (aH) :=
  (gFR h 11 v0 16).bind fun t1 =>
  (aWI h t1 v1 v2).bind fun h2 =>
  (gFR h2 11 v0 16).bind fun t3 =>
  (aWI h2 t3 (v1 + (kI 1)) v3).bind fun h4 =>
  (gFR h4 11 v0 16).bind fun t5 =>
  (aRI (h4[t5]?) (kI 4)).bind fun t6 =>
  (aWI h4 t5 (kI 4) (t6 + (kI 1))).bind fun h7 =>
  some h7
theorem tX11_nameLine_118 {d : Nat} {z : aH} (v0 : Nat) (v1 : Int32) (v2 : Int32) (v3 : Int32) (h : aH) (hf : fX11_nameLine_118 v0 v1 v2 v3 h = some z) : Ev (d + 8) none mX11_nameLine (0, 0) 118 [.ref v0, .int v1, .int v2, .int v3] [] h (QV z) := 
  go_ok (X := none) (blk := wX11_nameLine_118) (np := 145) (tt := 0) (kN := fun _ _ _ => none) (kT := fun _ _ _ => none) (kR := kRV)
    (fun _ _ _ q => nos q)
    (fun _ _ _ q => nos q)
    kRV_ok (Or.inr rfl) (by decide +kernel) (by decide +kernel) hf
def wX11_nameLine_117 : List En := [(.return_, 0, 0, 0)]
def fX11_nameLine_117 (h : aH) : Option (aH) :=
  some h
theorem tX11_nameLine_117 {d : Nat} {z : aH} (h : aH) (hf : fX11_nameLine_117 h = some z) : Ev (d + 8) none mX11_nameLine (0, 0) 117 [.null, .null, .null, .null] [] h (QV z) := 
  go_ok (X := none) (blk := wX11_nameLine_117) (np := 118) (tt := 0) (kN := fun _ _ _ => none) (kT := fun _ _ _ => none) (kR := kRV)
    (fun _ _ _ q => nos q)
    (fun _ _ _ q => nos q)
    kRV_ok (Or.inr rfl) (by decide +kernel) (by decide +kernel) hf
def wX11_nameLine_109 : List En := [(.istore_n 3, 0, 0, 0), (.aload_n 0, 0, 0, 0), (.getfield 91, 188, 11, 13), (.ifCond .eq 4, 118, 0, 0)]
def fX11_nameLine_109 (v0 : Nat) (v1 : Int32) (v2 : Int32) (s0 : Int32) (h : aH) : Option (aH) :=
  (gFI h 11 v0 13).bind fun t1 =>
  if t1 = 0 then fX11_nameLine_118 v0 v1 v2 s0 h else fX11_nameLine_117 h
theorem tX11_nameLine_109 {d : Nat} {z : aH} (v0 : Nat) (v1 : Int32) (v2 : Int32) (s0 : Int32) (h : aH) (hf : fX11_nameLine_109 v0 v1 v2 s0 h = some z) : Ev (d + 8) none mX11_nameLine (0, 0) 109 [.ref v0, .int v1, .int v2, .null] [.int s0] h (QV z) := 
  go_ok (X := none) (blk := wX11_nameLine_109) (np := 117) (tt := 118) (kN := fun xs h st => app [0, 0, 0, 0] (apS [] (fX11_nameLine_117 h) st) xs) (kT := fun xs h st => app [2, 1, 1, 1] (fun v0 v1 v2 v3 => apS [] (fX11_nameLine_118 v0 v1 v2 v3 h) st) xs) (kR := kRV)
    (fun xs h st q => jm [0, 0, 0, 0] _ (fun q => apS_ok [] _ (fun st => Ev (d + 8) none mX11_nameLine (0, 0) 117 [.null, .null, .null, .null] st h (QV z)) st (fun q => tX11_nameLine_117 h q) q) q)
    (fun xs h st q => jm [2, 1, 1, 1] _ (fun v0 v1 v2 v3 q => apS_ok [] _ (fun st => Ev (d + 8) none mX11_nameLine (0, 0) 118 [.ref v0, .int v1, .int v2, .int v3] st h (QV z)) st (fun q => tX11_nameLine_118 v0 v1 v2 v3 h q) q) q)
    kRV_ok (Or.inr rfl) (by decide +kernel) (by decide +kernel) hf
theorem kqX11_nameLine_106 : okC mX11_nameLine 106 (.invokevirtual 207) 192 209 0 3 = true := by decide +kernel
def fX11_nameLine_106 (v0 : Nat) (v1 : Int32) (v2 : Int32) (s0 : Int32) (s1 : Int32) (s2 : Nat) (s3 : Nat) (h : aH) : Option (aH) :=
  (isO h 11 s3).bind fun _ =>
  (gX11_after s3 s2 s1 s0 h).bind fun r =>
  fX11_nameLine_109 v0 v1 v2 r.1 r.2
theorem tX11_nameLine_106 {d : Nat} {z : aH} (v0 : Nat) (v1 : Int32) (v2 : Int32) (s0 : Int32) (s1 : Int32) (s2 : Nat) (s3 : Nat) (h : aH) (hf : fX11_nameLine_106 v0 v1 v2 s0 s1 s2 s3 h = some z) : Ev (d + 8) none mX11_nameLine (0, 0) 106 [.ref v0, .int v1, .int v2, .null] [.int s0, .int s1, .ref s2, .ref s3] h (QV z) := by
  obtain ⟨_, h1, hf⟩ := bnd hf
  obtain ⟨fs, ho⟩ := isO_ok h1
  obtain ⟨r, h2, hf⟩ := bnd hf
  refine ev_V kqX11_nameLine_106 jX11_after (zX11_after (d := d + 0) h2) ho rfl rfl (Nat.le_of_ble_eq_true rfl) rfl (as := [.ref s2, .int s1, .int s0]) (rest := []) rfl (Nat.le_of_ble_eq_true rfl) (fun _ _ hq => ?_)
  obtain ⟨rfl, rfl⟩ := hq
  exact jm [2, 1, 1, 0] (fun v0 v1 v2 => fX11_nameLine_109 v0 v1 v2 r.1 r.2) (fun v0 v1 v2 q => tX11_nameLine_109 v0 v1 v2 r.1 r.2 q) hf
def wX11_nameLine_103 : List En := [(.iconst 0, 0, 0, 0), (.bipush 20, 0, 0, 0)]
def fX11_nameLine_103 (v0 : Nat) (v1 : Int32) (v2 : Int32) (s0 : Nat) (s1 : Nat) (h : aH) : Option (aH) :=
  fX11_nameLine_106 v0 v1 v2 (kB 20) (kI 0) s0 s1 h
theorem tX11_nameLine_103 {d : Nat} {z : aH} (v0 : Nat) (v1 : Int32) (v2 : Int32) (s0 : Nat) (s1 : Nat) (h : aH) (hf : fX11_nameLine_103 v0 v1 v2 s0 s1 h = some z) : Ev (d + 8) none mX11_nameLine (0, 0) 103 [.ref v0, .int v1, .int v2, .null] [.ref s0, .ref s1] h (QV z) := 
  go_ok (X := none) (blk := wX11_nameLine_103) (np := 106) (tt := 0) (kN := fun xs h st => app [2, 1, 1, 0] (fun v0 v1 v2 => apS [1, 1, 2, 2] (fun s0 s1 s2 s3 => fX11_nameLine_106 v0 v1 v2 s0 s1 s2 s3 h) st) xs) (kT := fun _ _ _ => none) (kR := kRV)
    (fun xs h st q => jm [2, 1, 1, 0] _ (fun v0 v1 v2 q => apS_ok [1, 1, 2, 2] _ (fun st => Ev (d + 8) none mX11_nameLine (0, 0) 106 [.ref v0, .int v1, .int v2, .null] st h (QV z)) st (fun s0 s1 s2 s3 q => tX11_nameLine_106 v0 v1 v2 s0 s1 s2 s3 h q) q) q)
    (fun _ _ _ q => nos q)
    kRV_ok (Or.inr rfl) (by decide +kernel) (by decide +kernel) hf
theorem kqX11_nameLine_101 : ckS mX11_nameLine 101 231 32 = true := by decide +kernel -- worth
def fX11_nameLine_101 (v0 : Nat) (v1 : Int32) (v2 : Int32) (s0 : Nat) (h : aH) : Option (aH) :=
  fX11_nameLine_103 v0 v1 v2 (SB + 32) s0 h
theorem tX11_nameLine_101 {d : Nat} {z : aH} (v0 : Nat) (v1 : Int32) (v2 : Int32) (s0 : Nat) (h : aH) (hf : fX11_nameLine_101 v0 v1 v2 s0 h = some z) : Ev (d + 8) none mX11_nameLine (0, 0) 101 [.ref v0, .int v1, .int v2, .null] [.ref s0] h (QV z) := 
  ev_ldcS kqX11_nameLine_101 rfl (jm [2, 1, 1, 0] (fun v0 v1 v2 => fX11_nameLine_103 v0 v1 v2 (SB + 32) s0 h) (fun v0 v1 v2 q => tX11_nameLine_103 v0 v1 v2 (SB + 32) s0 h q) hf)
def wX11_nameLine_100 : List En := [(.aload_n 0, 0, 0, 0)]
def fX11_nameLine_100 (v0 : Nat) (v1 : Int32) (v2 : Int32) (h : aH) : Option (aH) :=
  fX11_nameLine_101 v0 v1 v2 v0 h
theorem tX11_nameLine_100 {d : Nat} {z : aH} (v0 : Nat) (v1 : Int32) (v2 : Int32) (h : aH) (hf : fX11_nameLine_100 v0 v1 v2 h = some z) : Ev (d + 8) none mX11_nameLine (0, 0) 100 [.ref v0, .int v1, .int v2, .null] [] h (QV z) := 
  go_ok (X := none) (blk := wX11_nameLine_100) (np := 101) (tt := 0) (kN := fun xs h st => app [2, 1, 1, 0] (fun v0 v1 v2 => apS [2] (fun s0 => fX11_nameLine_101 v0 v1 v2 s0 h) st) xs) (kT := fun _ _ _ => none) (kR := kRV)
    (fun xs h st q => jm [2, 1, 1, 0] _ (fun v0 v1 v2 q => apS_ok [2] _ (fun st => Ev (d + 8) none mX11_nameLine (0, 0) 101 [.ref v0, .int v1, .int v2, .null] st h (QV z)) st (fun s0 q => tX11_nameLine_101 v0 v1 v2 s0 h q) q) q)
    (fun _ _ _ q => nos q)
    kRV_ok (Or.inr rfl) (by decide +kernel) (by decide +kernel) hf
theorem kqX11_nameLine_97 : okC mX11_nameLine 97 (.invokevirtual 151) 197 214 0 0 = true := by decide +kernel
def fX11_nameLine_97 (v0 : Nat) (v1 : Int32) (v2 : Int32) (s0 : Nat) (h : aH) : Option (aH) :=
  (isO h 11 s0).bind fun _ =>
  (gX11_pass s0 h).bind fun r =>
  fX11_nameLine_100 v0 v1 v2 r
theorem tX11_nameLine_97 {d : Nat} {z : aH} (v0 : Nat) (v1 : Int32) (v2 : Int32) (s0 : Nat) (h : aH) (hf : fX11_nameLine_97 v0 v1 v2 s0 h = some z) : Ev (d + 8) none mX11_nameLine (0, 0) 97 [.ref v0, .int v1, .int v2, .null] [.ref s0] h (QV z) := by
  obtain ⟨_, h1, hf⟩ := bnd hf
  obtain ⟨fs, ho⟩ := isO_ok h1
  obtain ⟨r, h2, hf⟩ := bnd hf
  refine ev_V kqX11_nameLine_97 jX11_pass (zX11_pass (d := d + 5) h2) ho rfl rfl (Nat.le_of_ble_eq_true rfl) rfl (as := []) (rest := []) rfl (Nat.le_of_ble_eq_true rfl) (fun _ _ hq => ?_)
  obtain ⟨rfl, hh⟩ := hq
  rw [hh]
  exact jm [2, 1, 1, 0] (fun v0 v1 v2 => fX11_nameLine_100 v0 v1 v2 r) (fun v0 v1 v2 q => tX11_nameLine_100 v0 v1 v2 r q) hf
def wX11_nameLine_96 : List En := [(.aload_n 0, 0, 0, 0)]
def fX11_nameLine_96 (v0 : Nat) (v1 : Int32) (v2 : Int32) (h : aH) : Option (aH) :=
  fX11_nameLine_97 v0 v1 v2 v0 h
theorem tX11_nameLine_96 {d : Nat} {z : aH} (v0 : Nat) (v1 : Int32) (v2 : Int32) (h : aH) (hf : fX11_nameLine_96 v0 v1 v2 h = some z) : Ev (d + 8) none mX11_nameLine (0, 0) 96 [.ref v0, .int v1, .int v2, .null] [] h (QV z) := 
  go_ok (X := none) (blk := wX11_nameLine_96) (np := 97) (tt := 0) (kN := fun xs h st => app [2, 1, 1, 0] (fun v0 v1 v2 => apS [2] (fun s0 => fX11_nameLine_97 v0 v1 v2 s0 h) st) xs) (kT := fun _ _ _ => none) (kR := kRV)
    (fun xs h st q => jm [2, 1, 1, 0] _ (fun v0 v1 v2 q => apS_ok [2] _ (fun st => Ev (d + 8) none mX11_nameLine (0, 0) 97 [.ref v0, .int v1, .int v2, .null] st h (QV z)) st (fun s0 q => tX11_nameLine_97 v0 v1 v2 s0 h q) q) q)
    (fun _ _ _ q => nos q)
    kRV_ok (Or.inr rfl) (by decide +kernel) (by decide +kernel) hf
def wX11_nameLine_90 : List En := [(.iinc 3 1, 0, 0, 0), (.goto (-44), 49, 0, 0)]
def fX11_nameLine_90 (k49 : Nat → Int32 → Int32 → Int32 → aH → Option (aH)) (v0 : Nat) (v1 : Int32) (v2 : Int32) (v3 : Int32) (h : aH) : Option (aH) :=
  k49 v0 v1 v2 (v3 + kI 1) h
theorem tX11_nameLine_90 {d : Nat} {z : aH} {k49 : Nat → Int32 → Int32 → Int32 → aH → Option (aH)} (hk49 : ∀ (v0 : Nat) (v1 : Int32) (v2 : Int32) (v3 : Int32) (h : aH), k49 v0 v1 v2 v3 h = some z → Ev (d + 8) none mX11_nameLine (0, 0) 49 [.ref v0, .int v1, .int v2, .int v3] [] h (QV z)) (v0 : Nat) (v1 : Int32) (v2 : Int32) (v3 : Int32) (h : aH) (hf : fX11_nameLine_90 k49 v0 v1 v2 v3 h = some z) : Ev (d + 8) none mX11_nameLine (0, 0) 90 [.ref v0, .int v1, .int v2, .int v3] [] h (QV z) := 
  go_ok (X := none) (blk := wX11_nameLine_90) (np := 96) (tt := 49) (kN := fun _ _ _ => none) (kT := fun xs h st => app [2, 1, 1, 1] (fun v0 v1 v2 v3 => apS [] (k49 v0 v1 v2 v3 h) st) xs) (kR := kRV)
    (fun _ _ _ q => nos q)
    (fun xs h st q => jm [2, 1, 1, 1] _ (fun v0 v1 v2 v3 q => apS_ok [] _ (fun st => Ev (d + 8) none mX11_nameLine (0, 0) 49 [.ref v0, .int v1, .int v2, .int v3] st h (QV z)) st (fun q => hk49 v0 v1 v2 v3 h q) q) q)
    kRV_ok (Or.inr rfl) (by decide +kernel) (by decide +kernel) hf
theorem kqX11_nameLine_87 : okC mX11_nameLine 87 (.invokevirtual 118) 191 208 0 2 = true := by decide +kernel
def fX11_nameLine_87 (k49 : Nat → Int32 → Int32 → Int32 → aH → Option (aH)) (v0 : Nat) (v1 : Int32) (v2 : Int32) (v3 : Int32) (s0 : Int32) (s1 : Int32) (s2 : Nat) (h : aH) : Option (aH) :=
  (isO h 11 s2).bind fun _ =>
  (gX11_wrong s2 s1 s0 h).bind fun r =>
  fX11_nameLine_90 k49 v0 v1 v2 v3 r
theorem tX11_nameLine_87 {d : Nat} {z : aH} {k49 : Nat → Int32 → Int32 → Int32 → aH → Option (aH)} (hk49 : ∀ (v0 : Nat) (v1 : Int32) (v2 : Int32) (v3 : Int32) (h : aH), k49 v0 v1 v2 v3 h = some z → Ev (d + 8) none mX11_nameLine (0, 0) 49 [.ref v0, .int v1, .int v2, .int v3] [] h (QV z)) (v0 : Nat) (v1 : Int32) (v2 : Int32) (v3 : Int32) (s0 : Int32) (s1 : Int32) (s2 : Nat) (h : aH) (hf : fX11_nameLine_87 k49 v0 v1 v2 v3 s0 s1 s2 h = some z) : Ev (d + 8) none mX11_nameLine (0, 0) 87 [.ref v0, .int v1, .int v2, .int v3] [.int s0, .int s1, .ref s2] h (QV z) := by
  obtain ⟨_, h1, hf⟩ := bnd hf
  obtain ⟨fs, ho⟩ := isO_ok h1
  obtain ⟨r, h2, hf⟩ := bnd hf
  refine ev_V kqX11_nameLine_87 jX11_wrong (zX11_wrong (d := d + 7) h2) ho rfl rfl (Nat.le_of_ble_eq_true rfl) rfl (as := [.int s1, .int s0]) (rest := []) rfl (Nat.le_of_ble_eq_true rfl) (fun _ _ hq => ?_)
  obtain ⟨rfl, hh⟩ := hq
  rw [hh]
  exact jm [2, 1, 1, 1] (fun v0 v1 v2 v3 => fX11_nameLine_90 k49 v0 v1 v2 v3 r) (fun v0 v1 v2 v3 q => tX11_nameLine_90 hk49 v0 v1 v2 v3 r q) hf
def wX11_nameLine_81 : List En := [(.aload_n 0, 0, 0, 0), (.iconst 3, 0, 0, 0), (.aload_n 0, 0, 0, 0), (.getfield 72, 179, 11, 4)]
def fX11_nameLine_81 (k49 : Nat → Int32 → Int32 → Int32 → aH → Option (aH)) (v0 : Nat) (v1 : Int32) (v2 : Int32) (v3 : Int32) (h : aH) : Option (aH) :=
  (gFI h 11 v0 4).bind fun t1 =>
  fX11_nameLine_87 k49 v0 v1 v2 v3 t1 (kI 3) v0 h
theorem tX11_nameLine_81 {d : Nat} {z : aH} {k49 : Nat → Int32 → Int32 → Int32 → aH → Option (aH)} (hk49 : ∀ (v0 : Nat) (v1 : Int32) (v2 : Int32) (v3 : Int32) (h : aH), k49 v0 v1 v2 v3 h = some z → Ev (d + 8) none mX11_nameLine (0, 0) 49 [.ref v0, .int v1, .int v2, .int v3] [] h (QV z)) (v0 : Nat) (v1 : Int32) (v2 : Int32) (v3 : Int32) (h : aH) (hf : fX11_nameLine_81 k49 v0 v1 v2 v3 h = some z) : Ev (d + 8) none mX11_nameLine (0, 0) 81 [.ref v0, .int v1, .int v2, .int v3] [] h (QV z) := 
  go_ok (X := none) (blk := wX11_nameLine_81) (np := 87) (tt := 0) (kN := fun xs h st => app [2, 1, 1, 1] (fun v0 v1 v2 v3 => apS [1, 1, 2] (fun s0 s1 s2 => fX11_nameLine_87 k49 v0 v1 v2 v3 s0 s1 s2 h) st) xs) (kT := fun _ _ _ => none) (kR := kRV)
    (fun xs h st q => jm [2, 1, 1, 1] _ (fun v0 v1 v2 v3 q => apS_ok [1, 1, 2] _ (fun st => Ev (d + 8) none mX11_nameLine (0, 0) 87 [.ref v0, .int v1, .int v2, .int v3] st h (QV z)) st (fun s0 s1 s2 q => tX11_nameLine_87 hk49 v0 v1 v2 v3 s0 s1 s2 h q) q) q)
    (fun _ _ _ q => nos q)
    kRV_ok (Or.inr rfl) (by decide +kernel) (by decide +kernel) hf
def wX11_nameLine_66 : List En := [(.aload_n 0, 0, 0, 0), (.getfield 23, 191, 11, 16), (.bipush 19, 0, 0, 0), (.iconst 2, 0, 0, 0), (.iload_n 3, 0, 0, 0), (.imul, 0, 0, 0), (.iadd, 0, 0, 0), (.iaload, 0, 0, 0), (.iload_n 2, 0, 0, 0), (.if_icmp .ne 12, 90, 0, 0)]
def fX11_nameLine_66 (k49 : Nat → Int32 → Int32 → Int32 → aH → Option (aH)) (v0 : Nat) (v1 : Int32) (v2 : Int32) (v3 : Int32) (h : aH) : Option (aH) :=
  (gFR h 11 v0 16).bind fun t1 =>
  (aRI (h[t1]?) ((kB 19) + ((kI 2) * v3))).bind fun t2 =>
  if t2 = v2 then fX11_nameLine_81 k49 v0 v1 v2 v3 h else fX11_nameLine_90 k49 v0 v1 v2 v3 h
theorem tX11_nameLine_66 {d : Nat} {z : aH} {k49 : Nat → Int32 → Int32 → Int32 → aH → Option (aH)} (hk49 : ∀ (v0 : Nat) (v1 : Int32) (v2 : Int32) (v3 : Int32) (h : aH), k49 v0 v1 v2 v3 h = some z → Ev (d + 8) none mX11_nameLine (0, 0) 49 [.ref v0, .int v1, .int v2, .int v3] [] h (QV z)) (v0 : Nat) (v1 : Int32) (v2 : Int32) (v3 : Int32) (h : aH) (hf : fX11_nameLine_66 k49 v0 v1 v2 v3 h = some z) : Ev (d + 8) none mX11_nameLine (0, 0) 66 [.ref v0, .int v1, .int v2, .int v3] [] h (QV z) := 
  go_ok (X := none) (blk := wX11_nameLine_66) (np := 81) (tt := 90) (kN := fun xs h st => app [2, 1, 1, 1] (fun v0 v1 v2 v3 => apS [] (fX11_nameLine_81 k49 v0 v1 v2 v3 h) st) xs) (kT := fun xs h st => app [2, 1, 1, 1] (fun v0 v1 v2 v3 => apS [] (fX11_nameLine_90 k49 v0 v1 v2 v3 h) st) xs) (kR := kRV)
    (fun xs h st q => jm [2, 1, 1, 1] _ (fun v0 v1 v2 v3 q => apS_ok [] _ (fun st => Ev (d + 8) none mX11_nameLine (0, 0) 81 [.ref v0, .int v1, .int v2, .int v3] st h (QV z)) st (fun q => tX11_nameLine_81 hk49 v0 v1 v2 v3 h q) q) q)
    (fun xs h st q => jm [2, 1, 1, 1] _ (fun v0 v1 v2 v3 q => apS_ok [] _ (fun st => Ev (d + 8) none mX11_nameLine (0, 0) 90 [.ref v0, .int v1, .int v2, .int v3] st h (QV z)) st (fun q => tX11_nameLine_90 hk49 v0 v1 v2 v3 h q) q) q)
    kRV_ok (Or.inr rfl) (by decide +kernel) (by decide +kernel) hf
def wX11_nameLine_59 : List En := [(.aload_n 0, 0, 0, 0), (.getfield 91, 188, 11, 13), (.ifCond .ne 27, 90, 0, 0)]
def fX11_nameLine_59 (k49 : Nat → Int32 → Int32 → Int32 → aH → Option (aH)) (v0 : Nat) (v1 : Int32) (v2 : Int32) (v3 : Int32) (h : aH) : Option (aH) :=
  (gFI h 11 v0 13).bind fun t1 =>
  if t1 = 0 then fX11_nameLine_66 k49 v0 v1 v2 v3 h else fX11_nameLine_90 k49 v0 v1 v2 v3 h
theorem tX11_nameLine_59 {d : Nat} {z : aH} {k49 : Nat → Int32 → Int32 → Int32 → aH → Option (aH)} (hk49 : ∀ (v0 : Nat) (v1 : Int32) (v2 : Int32) (v3 : Int32) (h : aH), k49 v0 v1 v2 v3 h = some z → Ev (d + 8) none mX11_nameLine (0, 0) 49 [.ref v0, .int v1, .int v2, .int v3] [] h (QV z)) (v0 : Nat) (v1 : Int32) (v2 : Int32) (v3 : Int32) (h : aH) (hf : fX11_nameLine_59 k49 v0 v1 v2 v3 h = some z) : Ev (d + 8) none mX11_nameLine (0, 0) 59 [.ref v0, .int v1, .int v2, .int v3] [] h (QV z) := 
  go_ok (X := none) (blk := wX11_nameLine_59) (np := 66) (tt := 90) (kN := fun xs h st => app [2, 1, 1, 1] (fun v0 v1 v2 v3 => apS [] (fX11_nameLine_66 k49 v0 v1 v2 v3 h) st) xs) (kT := fun xs h st => app [2, 1, 1, 1] (fun v0 v1 v2 v3 => apS [] (fX11_nameLine_90 k49 v0 v1 v2 v3 h) st) xs) (kR := kRV)
    (fun xs h st q => jm [2, 1, 1, 1] _ (fun v0 v1 v2 v3 q => apS_ok [] _ (fun st => Ev (d + 8) none mX11_nameLine (0, 0) 66 [.ref v0, .int v1, .int v2, .int v3] st h (QV z)) st (fun q => tX11_nameLine_66 hk49 v0 v1 v2 v3 h q) q) q)
    (fun xs h st q => jm [2, 1, 1, 1] _ (fun v0 v1 v2 v3 q => apS_ok [] _ (fun st => Ev (d + 8) none mX11_nameLine (0, 0) 90 [.ref v0, .int v1, .int v2, .int v3] st h (QV z)) st (fun q => tX11_nameLine_90 hk49 v0 v1 v2 v3 h q) q) q)
    kRV_ok (Or.inr rfl) (by decide +kernel) (by decide +kernel) hf
def wX11_nameLine_49 : List En := [(.iload_n 3, 0, 0, 0), (.aload_n 0, 0, 0, 0), (.getfield 23, 191, 11, 16), (.iconst 4, 0, 0, 0), (.iaload, 0, 0, 0), (.if_icmp .ge 40, 96, 0, 0)]
def fX11_nameLine_49 (k49 : Nat → Int32 → Int32 → Int32 → aH → Option (aH)) (v0 : Nat) (v1 : Int32) (v2 : Int32) (v3 : Int32) (h : aH) : Option (aH) :=
  (gFR h 11 v0 16).bind fun t1 =>
  (aRI (h[t1]?) (kI 4)).bind fun t2 =>
  if v3 < t2 then fX11_nameLine_59 k49 v0 v1 v2 v3 h else fX11_nameLine_96 v0 v1 v2 h
theorem tX11_nameLine_49 {d : Nat} {z : aH} {k49 : Nat → Int32 → Int32 → Int32 → aH → Option (aH)} (hk49 : ∀ (v0 : Nat) (v1 : Int32) (v2 : Int32) (v3 : Int32) (h : aH), k49 v0 v1 v2 v3 h = some z → Ev (d + 8) none mX11_nameLine (0, 0) 49 [.ref v0, .int v1, .int v2, .int v3] [] h (QV z)) (v0 : Nat) (v1 : Int32) (v2 : Int32) (v3 : Int32) (h : aH) (hf : fX11_nameLine_49 k49 v0 v1 v2 v3 h = some z) : Ev (d + 8) none mX11_nameLine (0, 0) 49 [.ref v0, .int v1, .int v2, .int v3] [] h (QV z) := 
  go_ok (X := none) (blk := wX11_nameLine_49) (np := 59) (tt := 96) (kN := fun xs h st => app [2, 1, 1, 1] (fun v0 v1 v2 v3 => apS [] (fX11_nameLine_59 k49 v0 v1 v2 v3 h) st) xs) (kT := fun xs h st => app [2, 1, 1, 0] (fun v0 v1 v2 => apS [] (fX11_nameLine_96 v0 v1 v2 h) st) xs) (kR := kRV)
    (fun xs h st q => jm [2, 1, 1, 1] _ (fun v0 v1 v2 v3 q => apS_ok [] _ (fun st => Ev (d + 8) none mX11_nameLine (0, 0) 59 [.ref v0, .int v1, .int v2, .int v3] st h (QV z)) st (fun q => tX11_nameLine_59 hk49 v0 v1 v2 v3 h q) q) q)
    (fun xs h st q => jm [2, 1, 1, 0] _ (fun v0 v1 v2 q => apS_ok [] _ (fun st => Ev (d + 8) none mX11_nameLine (0, 0) 96 [.ref v0, .int v1, .int v2, .null] st h (QV z)) st (fun q => tX11_nameLine_96 v0 v1 v2 h q) q) q)
    kRV_ok (Or.inr rfl) (by decide +kernel) (by decide +kernel) hf
def lX11_nameLine_49 : Nat → Nat → Int32 → Int32 → Int32 → aH → Option (aH)
  | 0, _, _, _, _, _ => none
  | n + 1, v0, v1, v2, v3, h => fX11_nameLine_49 (lX11_nameLine_49 n) v0 v1 v2 v3 h
theorem uX11_nameLine_49 {d : Nat} {z : aH} : ∀ (n : Nat) (v0 : Nat) (v1 : Int32) (v2 : Int32) (v3 : Int32) (h : aH), lX11_nameLine_49 n v0 v1 v2 v3 h = some z → Ev (d + 8) none mX11_nameLine (0, 0) 49 [.ref v0, .int v1, .int v2, .int v3] [] h (QV z) := by
  intro n
  induction n with
  | zero => intro _ _ _ _ _ q; exact nos (show (none : Option (aH)) = some z from q)
  | succ n ih => intro v0 v1 v2 v3 h q; exact tX11_nameLine_49 ih v0 v1 v2 v3 h q
def wX11_nameLine_46 : List En := [(.istore_n 2, 0, 0, 0), (.iconst 0, 0, 0, 0), (.istore_n 3, 0, 0, 0)]
def fX11_nameLine_46 (v0 : Nat) (v1 : Int32) (s0 : Int32) (h : aH) : Option (aH) :=
  lX11_nameLine_49 FU v0 v1 s0 (kI 0) h
theorem tX11_nameLine_46 {d : Nat} {z : aH} (v0 : Nat) (v1 : Int32) (s0 : Int32) (h : aH) (hf : fX11_nameLine_46 v0 v1 s0 h = some z) : Ev (d + 8) none mX11_nameLine (0, 0) 46 [.ref v0, .int v1, .null, .null] [.int s0] h (QV z) := 
  go_ok (X := none) (blk := wX11_nameLine_46) (np := 49) (tt := 0) (kN := fun xs h st => app [2, 1, 1, 1] (fun v0 v1 v2 v3 => apS [] (lX11_nameLine_49 FU v0 v1 v2 v3 h) st) xs) (kT := fun _ _ _ => none) (kR := kRV)
    (fun xs h st q => jm [2, 1, 1, 1] _ (fun v0 v1 v2 v3 q => apS_ok [] _ (fun st => Ev (d + 8) none mX11_nameLine (0, 0) 49 [.ref v0, .int v1, .int v2, .int v3] st h (QV z)) st (fun q => uX11_nameLine_49 FU v0 v1 v2 v3 h q) q) q)
    (fun _ _ _ q => nos q)
    kRV_ok (Or.inr rfl) (by decide +kernel) (by decide +kernel) hf
theorem kqX11_nameLine_43 : okC mX11_nameLine 43 (.invokevirtual 148) 196 213 0 2 = true := by decide +kernel
def fX11_nameLine_43 (v0 : Nat) (v1 : Int32) (s0 : Int32) (s1 : Int32) (s2 : Nat) (h : aH) : Option (aH) :=
  (isO h 11 s2).bind fun _ =>
  (gX11_numberHere s2 s1 s0 h).bind fun r =>
  fX11_nameLine_46 v0 v1 r.1 r.2
theorem tX11_nameLine_43 {d : Nat} {z : aH} (v0 : Nat) (v1 : Int32) (s0 : Int32) (s1 : Int32) (s2 : Nat) (h : aH) (hf : fX11_nameLine_43 v0 v1 s0 s1 s2 h = some z) : Ev (d + 8) none mX11_nameLine (0, 0) 43 [.ref v0, .int v1, .null, .null] [.int s0, .int s1, .ref s2] h (QV z) := by
  obtain ⟨_, h1, hf⟩ := bnd hf
  obtain ⟨fs, ho⟩ := isO_ok h1
  obtain ⟨r, h2, hf⟩ := bnd hf
  refine ev_V kqX11_nameLine_43 jX11_numberHere (zX11_numberHere (d := d + 6) h2) ho rfl rfl (Nat.le_of_ble_eq_true rfl) rfl (as := [.int s1, .int s0]) (rest := []) rfl (Nat.le_of_ble_eq_true rfl) (fun _ _ hq => ?_)
  obtain ⟨rfl, rfl⟩ := hq
  exact jm [2, 1, 0, 0] (fun v0 v1 => fX11_nameLine_46 v0 v1 r.1 r.2) (fun v0 v1 q => tX11_nameLine_46 v0 v1 r.1 r.2 q) hf
def wX11_nameLine_38 : List En := [(.aload_n 0, 0, 0, 0), (.iconst 0, 0, 0, 0), (.sipush 200, 0, 0, 0)]
def fX11_nameLine_38 (v0 : Nat) (v1 : Int32) (h : aH) : Option (aH) :=
  fX11_nameLine_43 v0 v1 (kS 200) (kI 0) v0 h
theorem tX11_nameLine_38 {d : Nat} {z : aH} (v0 : Nat) (v1 : Int32) (h : aH) (hf : fX11_nameLine_38 v0 v1 h = some z) : Ev (d + 8) none mX11_nameLine (0, 0) 38 [.ref v0, .int v1, .null, .null] [] h (QV z) := 
  go_ok (X := none) (blk := wX11_nameLine_38) (np := 43) (tt := 0) (kN := fun xs h st => app [2, 1, 0, 0] (fun v0 v1 => apS [1, 1, 2] (fun s0 s1 s2 => fX11_nameLine_43 v0 v1 s0 s1 s2 h) st) xs) (kT := fun _ _ _ => none) (kR := kRV)
    (fun xs h st q => jm [2, 1, 0, 0] _ (fun v0 v1 q => apS_ok [1, 1, 2] _ (fun st => Ev (d + 8) none mX11_nameLine (0, 0) 43 [.ref v0, .int v1, .null, .null] st h (QV z)) st (fun s0 s1 s2 q => tX11_nameLine_43 v0 v1 s0 s1 s2 h q) q) q)
    (fun _ _ _ q => nos q)
    kRV_ok (Or.inr rfl) (by decide +kernel) (by decide +kernel) hf
theorem kqX11_nameLine_35 : okC mX11_nameLine 35 (.invokevirtual 154) 193 210 0 1 = true := by decide +kernel
def fX11_nameLine_35 (v0 : Nat) (v1 : Int32) (s0 : Nat) (s1 : Nat) (h : aH) : Option (aH) :=
  (isO h 11 s1).bind fun _ =>
  (gX11_must s1 s0 h).bind fun r =>
  fX11_nameLine_38 v0 v1 r
theorem tX11_nameLine_35 {d : Nat} {z : aH} (v0 : Nat) (v1 : Int32) (s0 : Nat) (s1 : Nat) (h : aH) (hf : fX11_nameLine_35 v0 v1 s0 s1 h = some z) : Ev (d + 8) none mX11_nameLine (0, 0) 35 [.ref v0, .int v1, .null, .null] [.ref s0, .ref s1] h (QV z) := by
  obtain ⟨_, h1, hf⟩ := bnd hf
  obtain ⟨fs, ho⟩ := isO_ok h1
  obtain ⟨r, h2, hf⟩ := bnd hf
  refine ev_V kqX11_nameLine_35 jX11_must (zX11_must (d := d + 1) h2) ho rfl rfl (Nat.le_of_ble_eq_true rfl) rfl (as := [.ref s0]) (rest := []) rfl (Nat.le_of_ble_eq_true rfl) (fun _ _ hq => ?_)
  obtain ⟨rfl, hh⟩ := hq
  rw [hh]
  exact jm [2, 1, 0, 0] (fun v0 v1 => fX11_nameLine_38 v0 v1 r) (fun v0 v1 q => tX11_nameLine_38 v0 v1 r q) hf
theorem kqX11_nameLine_33 : ckS mX11_nameLine 33 229 31 = true := by decide +kernel -- from
def fX11_nameLine_33 (v0 : Nat) (v1 : Int32) (s0 : Nat) (h : aH) : Option (aH) :=
  fX11_nameLine_35 v0 v1 (SB + 31) s0 h
theorem tX11_nameLine_33 {d : Nat} {z : aH} (v0 : Nat) (v1 : Int32) (s0 : Nat) (h : aH) (hf : fX11_nameLine_33 v0 v1 s0 h = some z) : Ev (d + 8) none mX11_nameLine (0, 0) 33 [.ref v0, .int v1, .null, .null] [.ref s0] h (QV z) := 
  ev_ldcS kqX11_nameLine_33 rfl (jm [2, 1, 0, 0] (fun v0 v1 => fX11_nameLine_35 v0 v1 (SB + 31) s0 h) (fun v0 v1 q => tX11_nameLine_35 v0 v1 (SB + 31) s0 h q) hf)
def wX11_nameLine_32 : List En := [(.aload_n 0, 0, 0, 0)]
def fX11_nameLine_32 (v0 : Nat) (v1 : Int32) (h : aH) : Option (aH) :=
  fX11_nameLine_33 v0 v1 v0 h
theorem tX11_nameLine_32 {d : Nat} {z : aH} (v0 : Nat) (v1 : Int32) (h : aH) (hf : fX11_nameLine_32 v0 v1 h = some z) : Ev (d + 8) none mX11_nameLine (0, 0) 32 [.ref v0, .int v1, .null, .null] [] h (QV z) := 
  go_ok (X := none) (blk := wX11_nameLine_32) (np := 33) (tt := 0) (kN := fun xs h st => app [2, 1, 0, 0] (fun v0 v1 => apS [2] (fun s0 => fX11_nameLine_33 v0 v1 s0 h) st) xs) (kT := fun _ _ _ => none) (kR := kRV)
    (fun xs h st q => jm [2, 1, 0, 0] _ (fun v0 v1 q => apS_ok [2] _ (fun st => Ev (d + 8) none mX11_nameLine (0, 0) 33 [.ref v0, .int v1, .null, .null] st h (QV z)) st (fun s0 q => tX11_nameLine_33 v0 v1 s0 h q) q) q)
    (fun _ _ _ q => nos q)
    kRV_ok (Or.inr rfl) (by decide +kernel) (by decide +kernel) hf
theorem kqX11_nameLine_29 : okC mX11_nameLine 29 (.invokevirtual 215) 200 217 0 1 = true := by decide +kernel
def fX11_nameLine_29 (v0 : Nat) (v1 : Int32) (s0 : Int32) (s1 : Nat) (h : aH) : Option (aH) :=
  (isO h 11 s1).bind fun _ =>
  (gX11_newName s1 s0 h).bind fun r =>
  fX11_nameLine_32 v0 v1 r
theorem tX11_nameLine_29 {d : Nat} {z : aH} (v0 : Nat) (v1 : Int32) (s0 : Int32) (s1 : Nat) (h : aH) (hf : fX11_nameLine_29 v0 v1 s0 s1 h = some z) : Ev (d + 8) none mX11_nameLine (0, 0) 29 [.ref v0, .int v1, .null, .null] [.int s0, .ref s1] h (QV z) := by
  obtain ⟨_, h1, hf⟩ := bnd hf
  obtain ⟨fs, ho⟩ := isO_ok h1
  obtain ⟨r, h2, hf⟩ := bnd hf
  refine ev_V kqX11_nameLine_29 jX11_newName (zX11_newName (d := d + 1) h2) ho rfl rfl (Nat.le_of_ble_eq_true rfl) rfl (as := [.int s0]) (rest := []) rfl (Nat.le_of_ble_eq_true rfl) (fun _ _ hq => ?_)
  obtain ⟨rfl, hh⟩ := hq
  rw [hh]
  exact jm [2, 1, 0, 0] (fun v0 v1 => fX11_nameLine_32 v0 v1 r) (fun v0 v1 q => tX11_nameLine_32 v0 v1 r q) hf
def wX11_nameLine_8 : List En := [(.bipush 19, 0, 0, 0), (.iconst 2, 0, 0, 0), (.aload_n 0, 0, 0, 0), (.getfield 23, 191, 11, 16), (.iconst 4, 0, 0, 0), (.iaload, 0, 0, 0), (.imul, 0, 0, 0), (.iadd, 0, 0, 0), (.istore_n 1, 0, 0, 0), (.aload_n 0, 0, 0, 0), (.iconst 5, 0, 0, 0), (.aload_n 0, 0, 0, 0), (.getfield 23, 191, 11, 16), (.iconst 4, 0, 0, 0), (.iaload, 0, 0, 0), (.iadd, 0, 0, 0)]
def fX11_nameLine_8 (v0 : Nat) (h : aH) : Option (aH) :=
  (gFR h 11 v0 16).bind fun t1 =>
  (aRI (h[t1]?) (kI 4)).bind fun t2 =>
  (gFR h 11 v0 16).bind fun t3 =>
  (aRI (h[t3]?) (kI 4)).bind fun t4 =>
  fX11_nameLine_29 v0 ((kB 19) + ((kI 2) * t2)) ((kI 5) + t4) v0 h
theorem tX11_nameLine_8 {d : Nat} {z : aH} (v0 : Nat) (h : aH) (hf : fX11_nameLine_8 v0 h = some z) : Ev (d + 8) none mX11_nameLine (0, 0) 8 [.ref v0, .null, .null, .null] [] h (QV z) := 
  go_ok (X := none) (blk := wX11_nameLine_8) (np := 29) (tt := 0) (kN := fun xs h st => app [2, 1, 0, 0] (fun v0 v1 => apS [1, 2] (fun s0 s1 => fX11_nameLine_29 v0 v1 s0 s1 h) st) xs) (kT := fun _ _ _ => none) (kR := kRV)
    (fun xs h st q => jm [2, 1, 0, 0] _ (fun v0 v1 q => apS_ok [1, 2] _ (fun st => Ev (d + 8) none mX11_nameLine (0, 0) 29 [.ref v0, .int v1, .null, .null] st h (QV z)) st (fun s0 s1 q => tX11_nameLine_29 v0 v1 s0 s1 h q) q) q)
    (fun _ _ _ q => nos q)
    kRV_ok (Or.inr rfl) (by decide +kernel) (by decide +kernel) hf
def wX11_nameLine_7 : List En := [(.return_, 0, 0, 0)]
def fX11_nameLine_7 (h : aH) : Option (aH) :=
  some h
theorem tX11_nameLine_7 {d : Nat} {z : aH} (h : aH) (hf : fX11_nameLine_7 h = some z) : Ev (d + 8) none mX11_nameLine (0, 0) 7 [.null, .null, .null, .null] [] h (QV z) := 
  go_ok (X := none) (blk := wX11_nameLine_7) (np := 8) (tt := 0) (kN := fun _ _ _ => none) (kT := fun _ _ _ => none) (kR := kRV)
    (fun _ _ _ q => nos q)
    (fun _ _ _ q => nos q)
    kRV_ok (Or.inr rfl) (by decide +kernel) (by decide +kernel) hf
def wX11_nameLine_0 : List En := [(.aload_n 0, 0, 0, 0), (.getfield 91, 188, 11, 13), (.ifCond .eq 4, 8, 0, 0)]
def fX11_nameLine_0 (v0 : Nat) (h : aH) : Option (aH) :=
  (gFI h 11 v0 13).bind fun t1 =>
  if t1 = 0 then fX11_nameLine_8 v0 h else fX11_nameLine_7 h
theorem tX11_nameLine_0 {d : Nat} {z : aH} (v0 : Nat) (h : aH) (hf : fX11_nameLine_0 v0 h = some z) : Ev (d + 8) none mX11_nameLine (0, 0) 0 [.ref v0, .null, .null, .null] [] h (QV z) := 
  go_ok (X := none) (blk := wX11_nameLine_0) (np := 7) (tt := 8) (kN := fun xs h st => app [0, 0, 0, 0] (apS [] (fX11_nameLine_7 h) st) xs) (kT := fun xs h st => app [2, 0, 0, 0] (fun v0 => apS [] (fX11_nameLine_8 v0 h) st) xs) (kR := kRV)
    (fun xs h st q => jm [0, 0, 0, 0] _ (fun q => apS_ok [] _ (fun st => Ev (d + 8) none mX11_nameLine (0, 0) 7 [.null, .null, .null, .null] st h (QV z)) st (fun q => tX11_nameLine_7 h q) q) q)
    (fun xs h st q => jm [2, 0, 0, 0] _ (fun v0 q => apS_ok [] _ (fun st => Ev (d + 8) none mX11_nameLine (0, 0) 8 [.ref v0, .null, .null, .null] st h (QV z)) st (fun q => tX11_nameLine_8 v0 h q) q) q)
    kRV_ok (Or.inr rfl) (by decide +kernel) (by decide +kernel) hf
def gX11_nameLine (v0 : Nat) (h : aH) : Option (aH) := fX11_nameLine_0 v0 h
theorem zX11_nameLine {d : Nat} {z : aH} {v0 : Nat} {h : aH} (q : gX11_nameLine v0 h = some z) : CT (d + 8) mX11_nameLine (0, 0) [.ref v0] h (QV z) :=
  ct_ev (by decide +kernel) (Nat.le_of_ble_eq_true rfl) QV_r (jm [2, 0, 0, 0] (fun v0 => fX11_nameLine_0 v0 h) (fun v0 q => tX11_nameLine_0 v0 h q) q)
def wX11_personLine_107 : List En := [(.aload_n 0, 0, 0, 0), (.getfield 23, 191, 11, 16), (.bipush 9, 0, 0, 0), (.iconst 2, 0, 0, 0), (.iload_n 1, 0, 0, 0), (.imul, 0, 0, 0), (.iadd, 0, 0, 0), (.iload_n 2, 0, 0, 0), (.iastore, 0, 0, 0), (.aload_n 0, 0, 0, 0), (.getfield 23, 191, 11, 16), (.bipush 9, 0, 0, 0), (.iconst 2, 0, 0, 0), (.iload_n 1, 0, 0, 0), (.imul, 0, 0, 0), (.iadd, 0, 0, 0), (.iconst 1, 0, 0, 0), (.iadd, 0, 0, 0), (.iload 4, 0, 0, 0), (.iastore, 0, 0, 0), (.aload_n 0, 0, 0, 0), (.getfield 29, 193, 11, 18), (.iload_n 1, 0, 0, 0), (.iload_n 3, 0, 0, 0), (.iastore, 0, 0, 0), (.aload_n 0, 0, 0, 0), (.getfield 23, 191, 11, 16), (.iconst 3, 0, 0, 0), (.dup2, 0, 0, 0), (.iaload, 0, 0, 0), (.iconst 1, 0, 0, 0), (.iadd, 0, 0, 0), (.iastore, 0, 0, 0), (.return_, 0, 0, 0)]
def fX11_personLine_107 (v0 : Nat) (v1 : Int32) (v2 : Int32) (v3 : Int32) (v4 : Int32) (h : aH) : Option (aH) :=
  (gFR h 11 v0 16).bind fun t1 =>
  (aWI h t1 ((kB 9) + ((kI 2) * v1)) v2).bind fun h2 =>
  (gFR h2 11 v0 16).bind fun t3 =>
  (aWI h2 t3 (((kB 9) + ((kI 2) * v1)) + (kI 1)) v4).bind fun h4 =>
  (gFR h4 11 v0 18).bind fun t5 =>
  (aWI h4 t5 v1 v3).bind fun h6 =>
  (gFR h6 11 v0 16).bind fun t7 =>
  (aRI (h6[t7]?) (kI 3)).bind fun t8 =>
  (aWI h6 t7 (kI 3) (t8 + (kI 1))).bind fun h9 =>
  some h9
theorem tX11_personLine_107 {d : Nat} {z : aH} (v0 : Nat) (v1 : Int32) (v2 : Int32) (v3 : Int32) (v4 : Int32) (h : aH) (hf : fX11_personLine_107 v0 v1 v2 v3 v4 h = some z) : Ev (d + 8) none mX11_personLine (0, 0) 107 [.ref v0, .int v1, .int v2, .int v3, .int v4] [] h (QV z) := 
  go_ok (X := none) (blk := wX11_personLine_107) (np := 152) (tt := 0) (kN := fun _ _ _ => none) (kT := fun _ _ _ => none) (kR := kRV)
    (fun _ _ _ q => nos q)
    (fun _ _ _ q => nos q)
    kRV_ok (Or.inr rfl) (by decide +kernel) (by decide +kernel) hf
def wX11_personLine_106 : List En := [(.return_, 0, 0, 0)]
def fX11_personLine_106 (h : aH) : Option (aH) :=
  some h
theorem tX11_personLine_106 {d : Nat} {z : aH} (h : aH) (hf : fX11_personLine_106 h = some z) : Ev (d + 8) none mX11_personLine (0, 0) 106 [.null, .null, .null, .null, .null] [] h (QV z) := 
  go_ok (X := none) (blk := wX11_personLine_106) (np := 107) (tt := 0) (kN := fun _ _ _ => none) (kT := fun _ _ _ => none) (kR := kRV)
    (fun _ _ _ q => nos q)
    (fun _ _ _ q => nos q)
    kRV_ok (Or.inr rfl) (by decide +kernel) (by decide +kernel) hf
def wX11_personLine_97 : List En := [(.istore 4, 0, 0, 0), (.aload_n 0, 0, 0, 0), (.getfield 91, 188, 11, 13), (.ifCond .eq 4, 107, 0, 0)]
def fX11_personLine_97 (v0 : Nat) (v1 : Int32) (v2 : Int32) (v3 : Int32) (s0 : Int32) (h : aH) : Option (aH) :=
  (gFI h 11 v0 13).bind fun t1 =>
  if t1 = 0 then fX11_personLine_107 v0 v1 v2 v3 s0 h else fX11_personLine_106 h
theorem tX11_personLine_97 {d : Nat} {z : aH} (v0 : Nat) (v1 : Int32) (v2 : Int32) (v3 : Int32) (s0 : Int32) (h : aH) (hf : fX11_personLine_97 v0 v1 v2 v3 s0 h = some z) : Ev (d + 8) none mX11_personLine (0, 0) 97 [.ref v0, .int v1, .int v2, .int v3, .null] [.int s0] h (QV z) := 
  go_ok (X := none) (blk := wX11_personLine_97) (np := 106) (tt := 107) (kN := fun xs h st => app [0, 0, 0, 0, 0] (apS [] (fX11_personLine_106 h) st) xs) (kT := fun xs h st => app [2, 1, 1, 1, 1] (fun v0 v1 v2 v3 v4 => apS [] (fX11_personLine_107 v0 v1 v2 v3 v4 h) st) xs) (kR := kRV)
    (fun xs h st q => jm [0, 0, 0, 0, 0] _ (fun q => apS_ok [] _ (fun st => Ev (d + 8) none mX11_personLine (0, 0) 106 [.null, .null, .null, .null, .null] st h (QV z)) st (fun q => tX11_personLine_106 h q) q) q)
    (fun xs h st q => jm [2, 1, 1, 1, 1] _ (fun v0 v1 v2 v3 v4 q => apS_ok [] _ (fun st => Ev (d + 8) none mX11_personLine (0, 0) 107 [.ref v0, .int v1, .int v2, .int v3, .int v4] st h (QV z)) st (fun q => tX11_personLine_107 v0 v1 v2 v3 v4 h q) q) q)
    kRV_ok (Or.inr rfl) (by decide +kernel) (by decide +kernel) hf
theorem kqX11_personLine_94 : okC mX11_personLine 94 (.invokevirtual 207) 192 209 0 3 = true := by decide +kernel
def fX11_personLine_94 (v0 : Nat) (v1 : Int32) (v2 : Int32) (v3 : Int32) (s0 : Int32) (s1 : Int32) (s2 : Nat) (s3 : Nat) (h : aH) : Option (aH) :=
  (isO h 11 s3).bind fun _ =>
  (gX11_after s3 s2 s1 s0 h).bind fun r =>
  fX11_personLine_97 v0 v1 v2 v3 r.1 r.2
theorem tX11_personLine_94 {d : Nat} {z : aH} (v0 : Nat) (v1 : Int32) (v2 : Int32) (v3 : Int32) (s0 : Int32) (s1 : Int32) (s2 : Nat) (s3 : Nat) (h : aH) (hf : fX11_personLine_94 v0 v1 v2 v3 s0 s1 s2 s3 h = some z) : Ev (d + 8) none mX11_personLine (0, 0) 94 [.ref v0, .int v1, .int v2, .int v3, .null] [.int s0, .int s1, .ref s2, .ref s3] h (QV z) := by
  obtain ⟨_, h1, hf⟩ := bnd hf
  obtain ⟨fs, ho⟩ := isO_ok h1
  obtain ⟨r, h2, hf⟩ := bnd hf
  refine ev_V kqX11_personLine_94 jX11_after (zX11_after (d := d + 0) h2) ho rfl rfl (Nat.le_of_ble_eq_true rfl) rfl (as := [.ref s2, .int s1, .int s0]) (rest := []) rfl (Nat.le_of_ble_eq_true rfl) (fun _ _ hq => ?_)
  obtain ⟨rfl, rfl⟩ := hq
  exact jm [2, 1, 1, 1, 0] (fun v0 v1 v2 v3 => fX11_personLine_97 v0 v1 v2 v3 r.1 r.2) (fun v0 v1 v2 v3 q => tX11_personLine_97 v0 v1 v2 v3 r.1 r.2 q) hf
def wX11_personLine_91 : List En := [(.iconst 1, 0, 0, 0), (.bipush 9, 0, 0, 0)]
def fX11_personLine_91 (v0 : Nat) (v1 : Int32) (v2 : Int32) (v3 : Int32) (s0 : Nat) (s1 : Nat) (h : aH) : Option (aH) :=
  fX11_personLine_94 v0 v1 v2 v3 (kB 9) (kI 1) s0 s1 h
theorem tX11_personLine_91 {d : Nat} {z : aH} (v0 : Nat) (v1 : Int32) (v2 : Int32) (v3 : Int32) (s0 : Nat) (s1 : Nat) (h : aH) (hf : fX11_personLine_91 v0 v1 v2 v3 s0 s1 h = some z) : Ev (d + 8) none mX11_personLine (0, 0) 91 [.ref v0, .int v1, .int v2, .int v3, .null] [.ref s0, .ref s1] h (QV z) := 
  go_ok (X := none) (blk := wX11_personLine_91) (np := 94) (tt := 0) (kN := fun xs h st => app [2, 1, 1, 1, 0] (fun v0 v1 v2 v3 => apS [1, 1, 2, 2] (fun s0 s1 s2 s3 => fX11_personLine_94 v0 v1 v2 v3 s0 s1 s2 s3 h) st) xs) (kT := fun _ _ _ => none) (kR := kRV)
    (fun xs h st q => jm [2, 1, 1, 1, 0] _ (fun v0 v1 v2 v3 q => apS_ok [1, 1, 2, 2] _ (fun st => Ev (d + 8) none mX11_personLine (0, 0) 94 [.ref v0, .int v1, .int v2, .int v3, .null] st h (QV z)) st (fun s0 s1 s2 s3 q => tX11_personLine_94 v0 v1 v2 v3 s0 s1 s2 s3 h q) q) q)
    (fun _ _ _ q => nos q)
    kRV_ok (Or.inr rfl) (by decide +kernel) (by decide +kernel) hf
theorem kqX11_personLine_89 : ckS mX11_personLine 89 227 30 = true := by decide +kernel -- need
def fX11_personLine_89 (v0 : Nat) (v1 : Int32) (v2 : Int32) (v3 : Int32) (s0 : Nat) (h : aH) : Option (aH) :=
  fX11_personLine_91 v0 v1 v2 v3 (SB + 30) s0 h
theorem tX11_personLine_89 {d : Nat} {z : aH} (v0 : Nat) (v1 : Int32) (v2 : Int32) (v3 : Int32) (s0 : Nat) (h : aH) (hf : fX11_personLine_89 v0 v1 v2 v3 s0 h = some z) : Ev (d + 8) none mX11_personLine (0, 0) 89 [.ref v0, .int v1, .int v2, .int v3, .null] [.ref s0] h (QV z) := 
  ev_ldcS kqX11_personLine_89 rfl (jm [2, 1, 1, 1, 0] (fun v0 v1 v2 v3 => fX11_personLine_91 v0 v1 v2 v3 (SB + 30) s0 h) (fun v0 v1 v2 v3 q => tX11_personLine_91 v0 v1 v2 v3 (SB + 30) s0 h q) hf)
def wX11_personLine_87 : List En := [(.istore_n 3, 0, 0, 0), (.aload_n 0, 0, 0, 0)]
def fX11_personLine_87 (v0 : Nat) (v1 : Int32) (v2 : Int32) (s0 : Int32) (h : aH) : Option (aH) :=
  fX11_personLine_89 v0 v1 v2 s0 v0 h
theorem tX11_personLine_87 {d : Nat} {z : aH} (v0 : Nat) (v1 : Int32) (v2 : Int32) (s0 : Int32) (h : aH) (hf : fX11_personLine_87 v0 v1 v2 s0 h = some z) : Ev (d + 8) none mX11_personLine (0, 0) 87 [.ref v0, .int v1, .int v2, .null, .null] [.int s0] h (QV z) := 
  go_ok (X := none) (blk := wX11_personLine_87) (np := 89) (tt := 0) (kN := fun xs h st => app [2, 1, 1, 1, 0] (fun v0 v1 v2 v3 => apS [2] (fun s0 => fX11_personLine_89 v0 v1 v2 v3 s0 h) st) xs) (kT := fun _ _ _ => none) (kR := kRV)
    (fun xs h st q => jm [2, 1, 1, 1, 0] _ (fun v0 v1 v2 v3 q => apS_ok [2] _ (fun st => Ev (d + 8) none mX11_personLine (0, 0) 89 [.ref v0, .int v1, .int v2, .int v3, .null] st h (QV z)) st (fun s0 q => tX11_personLine_89 v0 v1 v2 v3 s0 h q) q) q)
    (fun _ _ _ q => nos q)
    kRV_ok (Or.inr rfl) (by decide +kernel) (by decide +kernel) hf
theorem kqX11_personLine_84 : okC mX11_personLine 84 (.invokevirtual 207) 192 209 0 3 = true := by decide +kernel
def fX11_personLine_84 (v0 : Nat) (v1 : Int32) (v2 : Int32) (s0 : Int32) (s1 : Int32) (s2 : Nat) (s3 : Nat) (h : aH) : Option (aH) :=
  (isO h 11 s3).bind fun _ =>
  (gX11_after s3 s2 s1 s0 h).bind fun r =>
  fX11_personLine_87 v0 v1 v2 r.1 r.2
theorem tX11_personLine_84 {d : Nat} {z : aH} (v0 : Nat) (v1 : Int32) (v2 : Int32) (s0 : Int32) (s1 : Int32) (s2 : Nat) (s3 : Nat) (h : aH) (hf : fX11_personLine_84 v0 v1 v2 s0 s1 s2 s3 h = some z) : Ev (d + 8) none mX11_personLine (0, 0) 84 [.ref v0, .int v1, .int v2, .null, .null] [.int s0, .int s1, .ref s2, .ref s3] h (QV z) := by
  obtain ⟨_, h1, hf⟩ := bnd hf
  obtain ⟨fs, ho⟩ := isO_ok h1
  obtain ⟨r, h2, hf⟩ := bnd hf
  refine ev_V kqX11_personLine_84 jX11_after (zX11_after (d := d + 0) h2) ho rfl rfl (Nat.le_of_ble_eq_true rfl) rfl (as := [.ref s2, .int s1, .int s0]) (rest := []) rfl (Nat.le_of_ble_eq_true rfl) (fun _ _ hq => ?_)
  obtain ⟨rfl, rfl⟩ := hq
  exact jm [2, 1, 1, 0, 0] (fun v0 v1 v2 => fX11_personLine_87 v0 v1 v2 r.1 r.2) (fun v0 v1 v2 q => tX11_personLine_87 v0 v1 v2 r.1 r.2 q) hf
def wX11_personLine_81 : List En := [(.iconst 0, 0, 0, 0), (.bipush 99, 0, 0, 0)]
def fX11_personLine_81 (v0 : Nat) (v1 : Int32) (v2 : Int32) (s0 : Nat) (s1 : Nat) (h : aH) : Option (aH) :=
  fX11_personLine_84 v0 v1 v2 (kB 99) (kI 0) s0 s1 h
theorem tX11_personLine_81 {d : Nat} {z : aH} (v0 : Nat) (v1 : Int32) (v2 : Int32) (s0 : Nat) (s1 : Nat) (h : aH) (hf : fX11_personLine_81 v0 v1 v2 s0 s1 h = some z) : Ev (d + 8) none mX11_personLine (0, 0) 81 [.ref v0, .int v1, .int v2, .null, .null] [.ref s0, .ref s1] h (QV z) := 
  go_ok (X := none) (blk := wX11_personLine_81) (np := 84) (tt := 0) (kN := fun xs h st => app [2, 1, 1, 0, 0] (fun v0 v1 v2 => apS [1, 1, 2, 2] (fun s0 s1 s2 s3 => fX11_personLine_84 v0 v1 v2 s0 s1 s2 s3 h) st) xs) (kT := fun _ _ _ => none) (kR := kRV)
    (fun xs h st q => jm [2, 1, 1, 0, 0] _ (fun v0 v1 v2 q => apS_ok [1, 1, 2, 2] _ (fun st => Ev (d + 8) none mX11_personLine (0, 0) 84 [.ref v0, .int v1, .int v2, .null, .null] st h (QV z)) st (fun s0 s1 s2 s3 q => tX11_personLine_84 v0 v1 v2 s0 s1 s2 s3 h q) q) q)
    (fun _ _ _ q => nos q)
    kRV_ok (Or.inr rfl) (by decide +kernel) (by decide +kernel) hf
theorem kqX11_personLine_79 : ckS mX11_personLine 79 225 29 = true := by decide +kernel -- hunger
def fX11_personLine_79 (v0 : Nat) (v1 : Int32) (v2 : Int32) (s0 : Nat) (h : aH) : Option (aH) :=
  fX11_personLine_81 v0 v1 v2 (SB + 29) s0 h
theorem tX11_personLine_79 {d : Nat} {z : aH} (v0 : Nat) (v1 : Int32) (v2 : Int32) (s0 : Nat) (h : aH) (hf : fX11_personLine_79 v0 v1 v2 s0 h = some z) : Ev (d + 8) none mX11_personLine (0, 0) 79 [.ref v0, .int v1, .int v2, .null, .null] [.ref s0] h (QV z) := 
  ev_ldcS kqX11_personLine_79 rfl (jm [2, 1, 1, 0, 0] (fun v0 v1 v2 => fX11_personLine_81 v0 v1 v2 (SB + 29) s0 h) (fun v0 v1 v2 q => tX11_personLine_81 v0 v1 v2 (SB + 29) s0 h q) hf)
def wX11_personLine_78 : List En := [(.aload_n 0, 0, 0, 0)]
def fX11_personLine_78 (v0 : Nat) (v1 : Int32) (v2 : Int32) (h : aH) : Option (aH) :=
  fX11_personLine_79 v0 v1 v2 v0 h
theorem tX11_personLine_78 {d : Nat} {z : aH} (v0 : Nat) (v1 : Int32) (v2 : Int32) (h : aH) (hf : fX11_personLine_78 v0 v1 v2 h = some z) : Ev (d + 8) none mX11_personLine (0, 0) 78 [.ref v0, .int v1, .int v2, .null, .null] [] h (QV z) := 
  go_ok (X := none) (blk := wX11_personLine_78) (np := 79) (tt := 0) (kN := fun xs h st => app [2, 1, 1, 0, 0] (fun v0 v1 v2 => apS [2] (fun s0 => fX11_personLine_79 v0 v1 v2 s0 h) st) xs) (kT := fun _ _ _ => none) (kR := kRV)
    (fun xs h st q => jm [2, 1, 1, 0, 0] _ (fun v0 v1 v2 q => apS_ok [2] _ (fun st => Ev (d + 8) none mX11_personLine (0, 0) 79 [.ref v0, .int v1, .int v2, .null, .null] st h (QV z)) st (fun s0 q => tX11_personLine_79 v0 v1 v2 s0 h q) q) q)
    (fun _ _ _ q => nos q)
    kRV_ok (Or.inr rfl) (by decide +kernel) (by decide +kernel) hf
theorem kqX11_personLine_75 : okC mX11_personLine 75 (.invokevirtual 151) 197 214 0 0 = true := by decide +kernel
def fX11_personLine_75 (v0 : Nat) (v1 : Int32) (v2 : Int32) (s0 : Nat) (h : aH) : Option (aH) :=
  (isO h 11 s0).bind fun _ =>
  (gX11_pass s0 h).bind fun r =>
  fX11_personLine_78 v0 v1 v2 r
theorem tX11_personLine_75 {d : Nat} {z : aH} (v0 : Nat) (v1 : Int32) (v2 : Int32) (s0 : Nat) (h : aH) (hf : fX11_personLine_75 v0 v1 v2 s0 h = some z) : Ev (d + 8) none mX11_personLine (0, 0) 75 [.ref v0, .int v1, .int v2, .null, .null] [.ref s0] h (QV z) := by
  obtain ⟨_, h1, hf⟩ := bnd hf
  obtain ⟨fs, ho⟩ := isO_ok h1
  obtain ⟨r, h2, hf⟩ := bnd hf
  refine ev_V kqX11_personLine_75 jX11_pass (zX11_pass (d := d + 5) h2) ho rfl rfl (Nat.le_of_ble_eq_true rfl) rfl (as := []) (rest := []) rfl (Nat.le_of_ble_eq_true rfl) (fun _ _ hq => ?_)
  obtain ⟨rfl, hh⟩ := hq
  rw [hh]
  exact jm [2, 1, 1, 0, 0] (fun v0 v1 v2 => fX11_personLine_78 v0 v1 v2 r) (fun v0 v1 v2 q => tX11_personLine_78 v0 v1 v2 r q) hf
def wX11_personLine_74 : List En := [(.aload_n 0, 0, 0, 0)]
def fX11_personLine_74 (v0 : Nat) (v1 : Int32) (v2 : Int32) (h : aH) : Option (aH) :=
  fX11_personLine_75 v0 v1 v2 v0 h
theorem tX11_personLine_74 {d : Nat} {z : aH} (v0 : Nat) (v1 : Int32) (v2 : Int32) (h : aH) (hf : fX11_personLine_74 v0 v1 v2 h = some z) : Ev (d + 8) none mX11_personLine (0, 0) 74 [.ref v0, .int v1, .int v2, .null, .null] [] h (QV z) := 
  go_ok (X := none) (blk := wX11_personLine_74) (np := 75) (tt := 0) (kN := fun xs h st => app [2, 1, 1, 0, 0] (fun v0 v1 v2 => apS [2] (fun s0 => fX11_personLine_75 v0 v1 v2 s0 h) st) xs) (kT := fun _ _ _ => none) (kR := kRV)
    (fun xs h st q => jm [2, 1, 1, 0, 0] _ (fun v0 v1 v2 q => apS_ok [2] _ (fun st => Ev (d + 8) none mX11_personLine (0, 0) 75 [.ref v0, .int v1, .int v2, .null, .null] st h (QV z)) st (fun s0 q => tX11_personLine_75 v0 v1 v2 s0 h q) q) q)
    (fun _ _ _ q => nos q)
    kRV_ok (Or.inr rfl) (by decide +kernel) (by decide +kernel) hf
theorem kqX11_personLine_71 : okC mX11_personLine 71 (.invokevirtual 118) 191 208 0 2 = true := by decide +kernel
def fX11_personLine_71 (v0 : Nat) (v1 : Int32) (v2 : Int32) (s0 : Int32) (s1 : Int32) (s2 : Nat) (h : aH) : Option (aH) :=
  (isO h 11 s2).bind fun _ =>
  (gX11_wrong s2 s1 s0 h).bind fun r =>
  fX11_personLine_74 v0 v1 v2 r
theorem tX11_personLine_71 {d : Nat} {z : aH} (v0 : Nat) (v1 : Int32) (v2 : Int32) (s0 : Int32) (s1 : Int32) (s2 : Nat) (h : aH) (hf : fX11_personLine_71 v0 v1 v2 s0 s1 s2 h = some z) : Ev (d + 8) none mX11_personLine (0, 0) 71 [.ref v0, .int v1, .int v2, .null, .null] [.int s0, .int s1, .ref s2] h (QV z) := by
  obtain ⟨_, h1, hf⟩ := bnd hf
  obtain ⟨fs, ho⟩ := isO_ok h1
  obtain ⟨r, h2, hf⟩ := bnd hf
  refine ev_V kqX11_personLine_71 jX11_wrong (zX11_wrong (d := d + 7) h2) ho rfl rfl (Nat.le_of_ble_eq_true rfl) rfl (as := [.int s1, .int s0]) (rest := []) rfl (Nat.le_of_ble_eq_true rfl) (fun _ _ hq => ?_)
  obtain ⟨rfl, hh⟩ := hq
  rw [hh]
  exact jm [2, 1, 1, 0, 0] (fun v0 v1 v2 => fX11_personLine_74 v0 v1 v2 r) (fun v0 v1 v2 q => tX11_personLine_74 v0 v1 v2 r q) hf
def wX11_personLine_65 : List En := [(.aload_n 0, 0, 0, 0), (.iconst 1, 0, 0, 0), (.aload_n 0, 0, 0, 0), (.getfield 72, 179, 11, 4)]
def fX11_personLine_65 (v0 : Nat) (v1 : Int32) (v2 : Int32) (h : aH) : Option (aH) :=
  (gFI h 11 v0 4).bind fun t1 =>
  fX11_personLine_71 v0 v1 v2 t1 (kI 1) v0 h
theorem tX11_personLine_65 {d : Nat} {z : aH} (v0 : Nat) (v1 : Int32) (v2 : Int32) (h : aH) (hf : fX11_personLine_65 v0 v1 v2 h = some z) : Ev (d + 8) none mX11_personLine (0, 0) 65 [.ref v0, .int v1, .int v2, .null, .null] [] h (QV z) := 
  go_ok (X := none) (blk := wX11_personLine_65) (np := 71) (tt := 0) (kN := fun xs h st => app [2, 1, 1, 0, 0] (fun v0 v1 v2 => apS [1, 1, 2] (fun s0 s1 s2 => fX11_personLine_71 v0 v1 v2 s0 s1 s2 h) st) xs) (kT := fun _ _ _ => none) (kR := kRV)
    (fun xs h st q => jm [2, 1, 1, 0, 0] _ (fun v0 v1 v2 q => apS_ok [1, 1, 2] _ (fun st => Ev (d + 8) none mX11_personLine (0, 0) 71 [.ref v0, .int v1, .int v2, .null, .null] st h (QV z)) st (fun s0 s1 s2 q => tX11_personLine_71 v0 v1 v2 s0 s1 s2 h q) q) q)
    (fun _ _ _ q => nos q)
    kRV_ok (Or.inr rfl) (by decide +kernel) (by decide +kernel) hf
def wX11_personLine_60 : List En := [(.istore_n 2, 0, 0, 0), (.iload_n 2, 0, 0, 0), (.ifCond .ge 12, 74, 0, 0)]
def fX11_personLine_60 (v0 : Nat) (v1 : Int32) (s0 : Int32) (h : aH) : Option (aH) :=
  if s0 < 0 then fX11_personLine_65 v0 v1 s0 h else fX11_personLine_74 v0 v1 s0 h
theorem tX11_personLine_60 {d : Nat} {z : aH} (v0 : Nat) (v1 : Int32) (s0 : Int32) (h : aH) (hf : fX11_personLine_60 v0 v1 s0 h = some z) : Ev (d + 8) none mX11_personLine (0, 0) 60 [.ref v0, .int v1, .null, .null, .null] [.int s0] h (QV z) := 
  go_ok (X := none) (blk := wX11_personLine_60) (np := 65) (tt := 74) (kN := fun xs h st => app [2, 1, 1, 0, 0] (fun v0 v1 v2 => apS [] (fX11_personLine_65 v0 v1 v2 h) st) xs) (kT := fun xs h st => app [2, 1, 1, 0, 0] (fun v0 v1 v2 => apS [] (fX11_personLine_74 v0 v1 v2 h) st) xs) (kR := kRV)
    (fun xs h st q => jm [2, 1, 1, 0, 0] _ (fun v0 v1 v2 q => apS_ok [] _ (fun st => Ev (d + 8) none mX11_personLine (0, 0) 65 [.ref v0, .int v1, .int v2, .null, .null] st h (QV z)) st (fun q => tX11_personLine_65 v0 v1 v2 h q) q) q)
    (fun xs h st q => jm [2, 1, 1, 0, 0] _ (fun v0 v1 v2 q => apS_ok [] _ (fun st => Ev (d + 8) none mX11_personLine (0, 0) 74 [.ref v0, .int v1, .int v2, .null, .null] st h (QV z)) st (fun q => tX11_personLine_74 v0 v1 v2 h q) q) q)
    kRV_ok (Or.inr rfl) (by decide +kernel) (by decide +kernel) hf
def wX11_personLine_59 : List En := [(.iconst (-1), 0, 0, 0)]
def fX11_personLine_59 (v0 : Nat) (v1 : Int32) (h : aH) : Option (aH) :=
  fX11_personLine_60 v0 v1 (kI (-1)) h
theorem tX11_personLine_59 {d : Nat} {z : aH} (v0 : Nat) (v1 : Int32) (h : aH) (hf : fX11_personLine_59 v0 v1 h = some z) : Ev (d + 8) none mX11_personLine (0, 0) 59 [.ref v0, .int v1, .null, .null, .null] [] h (QV z) := 
  go_ok (X := none) (blk := wX11_personLine_59) (np := 60) (tt := 0) (kN := fun xs h st => app [2, 1, 0, 0, 0] (fun v0 v1 => apS [1] (fun s0 => fX11_personLine_60 v0 v1 s0 h) st) xs) (kT := fun _ _ _ => none) (kR := kRV)
    (fun xs h st q => jm [2, 1, 0, 0, 0] _ (fun v0 v1 q => apS_ok [1] _ (fun st => Ev (d + 8) none mX11_personLine (0, 0) 60 [.ref v0, .int v1, .null, .null, .null] st h (QV z)) st (fun s0 q => tX11_personLine_60 v0 v1 s0 h q) q) q)
    (fun _ _ _ q => nos q)
    kRV_ok (Or.inr rfl) (by decide +kernel) (by decide +kernel) hf
def wX11_personLine_55 : List En := [(.iconst 2, 0, 0, 0), (.goto 4, 60, 0, 0)]
def fX11_personLine_55 (v0 : Nat) (v1 : Int32) (h : aH) : Option (aH) :=
  fX11_personLine_60 v0 v1 (kI 2) h
theorem tX11_personLine_55 {d : Nat} {z : aH} (v0 : Nat) (v1 : Int32) (h : aH) (hf : fX11_personLine_55 v0 v1 h = some z) : Ev (d + 8) none mX11_personLine (0, 0) 55 [.ref v0, .int v1, .null, .null, .null] [] h (QV z) := 
  go_ok (X := none) (blk := wX11_personLine_55) (np := 59) (tt := 60) (kN := fun _ _ _ => none) (kT := fun xs h st => app [2, 1, 0, 0, 0] (fun v0 v1 => apS [1] (fun s0 => fX11_personLine_60 v0 v1 s0 h) st) xs) (kR := kRV)
    (fun _ _ _ q => nos q)
    (fun xs h st q => jm [2, 1, 0, 0, 0] _ (fun v0 v1 q => apS_ok [1] _ (fun st => Ev (d + 8) none mX11_personLine (0, 0) 60 [.ref v0, .int v1, .null, .null, .null] st h (QV z)) st (fun s0 q => tX11_personLine_60 v0 v1 s0 h q) q) q)
    kRV_ok (Or.inr rfl) (by decide +kernel) (by decide +kernel) hf
def wX11_personLine_52 : List En := [(.ifCond .eq 7, 59, 0, 0)]
def fX11_personLine_52 (v0 : Nat) (v1 : Int32) (s0 : Int32) (h : aH) : Option (aH) :=
  if s0 = 0 then fX11_personLine_59 v0 v1 h else fX11_personLine_55 v0 v1 h
theorem tX11_personLine_52 {d : Nat} {z : aH} (v0 : Nat) (v1 : Int32) (s0 : Int32) (h : aH) (hf : fX11_personLine_52 v0 v1 s0 h = some z) : Ev (d + 8) none mX11_personLine (0, 0) 52 [.ref v0, .int v1, .null, .null, .null] [.int s0] h (QV z) := 
  go_ok (X := none) (blk := wX11_personLine_52) (np := 55) (tt := 59) (kN := fun xs h st => app [2, 1, 0, 0, 0] (fun v0 v1 => apS [] (fX11_personLine_55 v0 v1 h) st) xs) (kT := fun xs h st => app [2, 1, 0, 0, 0] (fun v0 v1 => apS [] (fX11_personLine_59 v0 v1 h) st) xs) (kR := kRV)
    (fun xs h st q => jm [2, 1, 0, 0, 0] _ (fun v0 v1 q => apS_ok [] _ (fun st => Ev (d + 8) none mX11_personLine (0, 0) 55 [.ref v0, .int v1, .null, .null, .null] st h (QV z)) st (fun q => tX11_personLine_55 v0 v1 h q) q) q)
    (fun xs h st q => jm [2, 1, 0, 0, 0] _ (fun v0 v1 q => apS_ok [] _ (fun st => Ev (d + 8) none mX11_personLine (0, 0) 59 [.ref v0, .int v1, .null, .null, .null] st h (QV z)) st (fun q => tX11_personLine_59 v0 v1 h q) q) q)
    kRV_ok (Or.inr rfl) (by decide +kernel) (by decide +kernel) hf
theorem kqX11_personLine_49 : okC mX11_personLine 49 (.invokevirtual 108) 189 204 0 1 = true := by decide +kernel
def fX11_personLine_49 (v0 : Nat) (v1 : Int32) (s0 : Nat) (s1 : Nat) (h : aH) : Option (aH) :=
  (isO h 11 s1).bind fun _ =>
  (gX11_isWord s1 s0 h).bind fun r =>
  fX11_personLine_52 v0 v1 r.1 r.2
theorem tX11_personLine_49 {d : Nat} {z : aH} (v0 : Nat) (v1 : Int32) (s0 : Nat) (s1 : Nat) (h : aH) (hf : fX11_personLine_49 v0 v1 s0 s1 h = some z) : Ev (d + 8) none mX11_personLine (0, 0) 49 [.ref v0, .int v1, .null, .null, .null] [.ref s0, .ref s1] h (QV z) := by
  obtain ⟨_, h1, hf⟩ := bnd hf
  obtain ⟨fs, ho⟩ := isO_ok h1
  obtain ⟨r, h2, hf⟩ := bnd hf
  refine ev_V kqX11_personLine_49 jX11_isWord (zX11_isWord (d := d + 3) h2) ho rfl rfl (Nat.le_of_ble_eq_true rfl) rfl (as := [.ref s0]) (rest := []) rfl (Nat.le_of_ble_eq_true rfl) (fun _ _ hq => ?_)
  obtain ⟨-, rfl, rfl⟩ := hq
  exact jm [2, 1, 0, 0, 0] (fun v0 v1 => fX11_personLine_52 v0 v1 r.1 r.2) (fun v0 v1 q => tX11_personLine_52 v0 v1 r.1 r.2 q) hf
theorem kqX11_personLine_47 : ckS mX11_personLine 47 223 28 = true := by decide +kernel -- child
def fX11_personLine_47 (v0 : Nat) (v1 : Int32) (s0 : Nat) (h : aH) : Option (aH) :=
  fX11_personLine_49 v0 v1 (SB + 28) s0 h
theorem tX11_personLine_47 {d : Nat} {z : aH} (v0 : Nat) (v1 : Int32) (s0 : Nat) (h : aH) (hf : fX11_personLine_47 v0 v1 s0 h = some z) : Ev (d + 8) none mX11_personLine (0, 0) 47 [.ref v0, .int v1, .null, .null, .null] [.ref s0] h (QV z) := 
  ev_ldcS kqX11_personLine_47 rfl (jm [2, 1, 0, 0, 0] (fun v0 v1 => fX11_personLine_49 v0 v1 (SB + 28) s0 h) (fun v0 v1 q => tX11_personLine_49 v0 v1 (SB + 28) s0 h q) hf)
def wX11_personLine_46 : List En := [(.aload_n 0, 0, 0, 0)]
def fX11_personLine_46 (v0 : Nat) (v1 : Int32) (h : aH) : Option (aH) :=
  fX11_personLine_47 v0 v1 v0 h
theorem tX11_personLine_46 {d : Nat} {z : aH} (v0 : Nat) (v1 : Int32) (h : aH) (hf : fX11_personLine_46 v0 v1 h = some z) : Ev (d + 8) none mX11_personLine (0, 0) 46 [.ref v0, .int v1, .null, .null, .null] [] h (QV z) := 
  go_ok (X := none) (blk := wX11_personLine_46) (np := 47) (tt := 0) (kN := fun xs h st => app [2, 1, 0, 0, 0] (fun v0 v1 => apS [2] (fun s0 => fX11_personLine_47 v0 v1 s0 h) st) xs) (kT := fun _ _ _ => none) (kR := kRV)
    (fun xs h st q => jm [2, 1, 0, 0, 0] _ (fun v0 v1 q => apS_ok [2] _ (fun st => Ev (d + 8) none mX11_personLine (0, 0) 47 [.ref v0, .int v1, .null, .null, .null] st h (QV z)) st (fun s0 q => tX11_personLine_47 v0 v1 s0 h q) q) q)
    (fun _ _ _ q => nos q)
    kRV_ok (Or.inr rfl) (by decide +kernel) (by decide +kernel) hf
def wX11_personLine_42 : List En := [(.iconst 1, 0, 0, 0), (.goto 17, 60, 0, 0)]
def fX11_personLine_42 (v0 : Nat) (v1 : Int32) (h : aH) : Option (aH) :=
  fX11_personLine_60 v0 v1 (kI 1) h
theorem tX11_personLine_42 {d : Nat} {z : aH} (v0 : Nat) (v1 : Int32) (h : aH) (hf : fX11_personLine_42 v0 v1 h = some z) : Ev (d + 8) none mX11_personLine (0, 0) 42 [.ref v0, .int v1, .null, .null, .null] [] h (QV z) := 
  go_ok (X := none) (blk := wX11_personLine_42) (np := 46) (tt := 60) (kN := fun _ _ _ => none) (kT := fun xs h st => app [2, 1, 0, 0, 0] (fun v0 v1 => apS [1] (fun s0 => fX11_personLine_60 v0 v1 s0 h) st) xs) (kR := kRV)
    (fun _ _ _ q => nos q)
    (fun xs h st q => jm [2, 1, 0, 0, 0] _ (fun v0 v1 q => apS_ok [1] _ (fun st => Ev (d + 8) none mX11_personLine (0, 0) 60 [.ref v0, .int v1, .null, .null, .null] st h (QV z)) st (fun s0 q => tX11_personLine_60 v0 v1 s0 h q) q) q)
    kRV_ok (Or.inr rfl) (by decide +kernel) (by decide +kernel) hf
def wX11_personLine_39 : List En := [(.ifCond .eq 7, 46, 0, 0)]
def fX11_personLine_39 (v0 : Nat) (v1 : Int32) (s0 : Int32) (h : aH) : Option (aH) :=
  if s0 = 0 then fX11_personLine_46 v0 v1 h else fX11_personLine_42 v0 v1 h
theorem tX11_personLine_39 {d : Nat} {z : aH} (v0 : Nat) (v1 : Int32) (s0 : Int32) (h : aH) (hf : fX11_personLine_39 v0 v1 s0 h = some z) : Ev (d + 8) none mX11_personLine (0, 0) 39 [.ref v0, .int v1, .null, .null, .null] [.int s0] h (QV z) := 
  go_ok (X := none) (blk := wX11_personLine_39) (np := 42) (tt := 46) (kN := fun xs h st => app [2, 1, 0, 0, 0] (fun v0 v1 => apS [] (fX11_personLine_42 v0 v1 h) st) xs) (kT := fun xs h st => app [2, 1, 0, 0, 0] (fun v0 v1 => apS [] (fX11_personLine_46 v0 v1 h) st) xs) (kR := kRV)
    (fun xs h st q => jm [2, 1, 0, 0, 0] _ (fun v0 v1 q => apS_ok [] _ (fun st => Ev (d + 8) none mX11_personLine (0, 0) 42 [.ref v0, .int v1, .null, .null, .null] st h (QV z)) st (fun q => tX11_personLine_42 v0 v1 h q) q) q)
    (fun xs h st q => jm [2, 1, 0, 0, 0] _ (fun v0 v1 q => apS_ok [] _ (fun st => Ev (d + 8) none mX11_personLine (0, 0) 46 [.ref v0, .int v1, .null, .null, .null] st h (QV z)) st (fun q => tX11_personLine_46 v0 v1 h q) q) q)
    kRV_ok (Or.inr rfl) (by decide +kernel) (by decide +kernel) hf
theorem kqX11_personLine_36 : okC mX11_personLine 36 (.invokevirtual 108) 189 204 0 1 = true := by decide +kernel
def fX11_personLine_36 (v0 : Nat) (v1 : Int32) (s0 : Nat) (s1 : Nat) (h : aH) : Option (aH) :=
  (isO h 11 s1).bind fun _ =>
  (gX11_isWord s1 s0 h).bind fun r =>
  fX11_personLine_39 v0 v1 r.1 r.2
theorem tX11_personLine_36 {d : Nat} {z : aH} (v0 : Nat) (v1 : Int32) (s0 : Nat) (s1 : Nat) (h : aH) (hf : fX11_personLine_36 v0 v1 s0 s1 h = some z) : Ev (d + 8) none mX11_personLine (0, 0) 36 [.ref v0, .int v1, .null, .null, .null] [.ref s0, .ref s1] h (QV z) := by
  obtain ⟨_, h1, hf⟩ := bnd hf
  obtain ⟨fs, ho⟩ := isO_ok h1
  obtain ⟨r, h2, hf⟩ := bnd hf
  refine ev_V kqX11_personLine_36 jX11_isWord (zX11_isWord (d := d + 3) h2) ho rfl rfl (Nat.le_of_ble_eq_true rfl) rfl (as := [.ref s0]) (rest := []) rfl (Nat.le_of_ble_eq_true rfl) (fun _ _ hq => ?_)
  obtain ⟨-, rfl, rfl⟩ := hq
  exact jm [2, 1, 0, 0, 0] (fun v0 v1 => fX11_personLine_39 v0 v1 r.1 r.2) (fun v0 v1 q => tX11_personLine_39 v0 v1 r.1 r.2 q) hf
theorem kqX11_personLine_34 : ckS mX11_personLine 34 221 27 = true := by decide +kernel -- poet
def fX11_personLine_34 (v0 : Nat) (v1 : Int32) (s0 : Nat) (h : aH) : Option (aH) :=
  fX11_personLine_36 v0 v1 (SB + 27) s0 h
theorem tX11_personLine_34 {d : Nat} {z : aH} (v0 : Nat) (v1 : Int32) (s0 : Nat) (h : aH) (hf : fX11_personLine_34 v0 v1 s0 h = some z) : Ev (d + 8) none mX11_personLine (0, 0) 34 [.ref v0, .int v1, .null, .null, .null] [.ref s0] h (QV z) := 
  ev_ldcS kqX11_personLine_34 rfl (jm [2, 1, 0, 0, 0] (fun v0 v1 => fX11_personLine_36 v0 v1 (SB + 27) s0 h) (fun v0 v1 q => tX11_personLine_36 v0 v1 (SB + 27) s0 h q) hf)
def wX11_personLine_33 : List En := [(.aload_n 0, 0, 0, 0)]
def fX11_personLine_33 (v0 : Nat) (v1 : Int32) (h : aH) : Option (aH) :=
  fX11_personLine_34 v0 v1 v0 h
theorem tX11_personLine_33 {d : Nat} {z : aH} (v0 : Nat) (v1 : Int32) (h : aH) (hf : fX11_personLine_33 v0 v1 h = some z) : Ev (d + 8) none mX11_personLine (0, 0) 33 [.ref v0, .int v1, .null, .null, .null] [] h (QV z) := 
  go_ok (X := none) (blk := wX11_personLine_33) (np := 34) (tt := 0) (kN := fun xs h st => app [2, 1, 0, 0, 0] (fun v0 v1 => apS [2] (fun s0 => fX11_personLine_34 v0 v1 s0 h) st) xs) (kT := fun _ _ _ => none) (kR := kRV)
    (fun xs h st q => jm [2, 1, 0, 0, 0] _ (fun v0 v1 q => apS_ok [2] _ (fun st => Ev (d + 8) none mX11_personLine (0, 0) 34 [.ref v0, .int v1, .null, .null, .null] st h (QV z)) st (fun s0 q => tX11_personLine_34 v0 v1 s0 h q) q) q)
    (fun _ _ _ q => nos q)
    kRV_ok (Or.inr rfl) (by decide +kernel) (by decide +kernel) hf
def wX11_personLine_29 : List En := [(.iconst 0, 0, 0, 0), (.goto 30, 60, 0, 0)]
def fX11_personLine_29 (v0 : Nat) (v1 : Int32) (h : aH) : Option (aH) :=
  fX11_personLine_60 v0 v1 (kI 0) h
theorem tX11_personLine_29 {d : Nat} {z : aH} (v0 : Nat) (v1 : Int32) (h : aH) (hf : fX11_personLine_29 v0 v1 h = some z) : Ev (d + 8) none mX11_personLine (0, 0) 29 [.ref v0, .int v1, .null, .null, .null] [] h (QV z) := 
  go_ok (X := none) (blk := wX11_personLine_29) (np := 33) (tt := 60) (kN := fun _ _ _ => none) (kT := fun xs h st => app [2, 1, 0, 0, 0] (fun v0 v1 => apS [1] (fun s0 => fX11_personLine_60 v0 v1 s0 h) st) xs) (kR := kRV)
    (fun _ _ _ q => nos q)
    (fun xs h st q => jm [2, 1, 0, 0, 0] _ (fun v0 v1 q => apS_ok [1] _ (fun st => Ev (d + 8) none mX11_personLine (0, 0) 60 [.ref v0, .int v1, .null, .null, .null] st h (QV z)) st (fun s0 q => tX11_personLine_60 v0 v1 s0 h q) q) q)
    kRV_ok (Or.inr rfl) (by decide +kernel) (by decide +kernel) hf
def wX11_personLine_26 : List En := [(.ifCond .eq 7, 33, 0, 0)]
def fX11_personLine_26 (v0 : Nat) (v1 : Int32) (s0 : Int32) (h : aH) : Option (aH) :=
  if s0 = 0 then fX11_personLine_33 v0 v1 h else fX11_personLine_29 v0 v1 h
theorem tX11_personLine_26 {d : Nat} {z : aH} (v0 : Nat) (v1 : Int32) (s0 : Int32) (h : aH) (hf : fX11_personLine_26 v0 v1 s0 h = some z) : Ev (d + 8) none mX11_personLine (0, 0) 26 [.ref v0, .int v1, .null, .null, .null] [.int s0] h (QV z) := 
  go_ok (X := none) (blk := wX11_personLine_26) (np := 29) (tt := 33) (kN := fun xs h st => app [2, 1, 0, 0, 0] (fun v0 v1 => apS [] (fX11_personLine_29 v0 v1 h) st) xs) (kT := fun xs h st => app [2, 1, 0, 0, 0] (fun v0 v1 => apS [] (fX11_personLine_33 v0 v1 h) st) xs) (kR := kRV)
    (fun xs h st q => jm [2, 1, 0, 0, 0] _ (fun v0 v1 q => apS_ok [] _ (fun st => Ev (d + 8) none mX11_personLine (0, 0) 29 [.ref v0, .int v1, .null, .null, .null] st h (QV z)) st (fun q => tX11_personLine_29 v0 v1 h q) q) q)
    (fun xs h st q => jm [2, 1, 0, 0, 0] _ (fun v0 v1 q => apS_ok [] _ (fun st => Ev (d + 8) none mX11_personLine (0, 0) 33 [.ref v0, .int v1, .null, .null, .null] st h (QV z)) st (fun q => tX11_personLine_33 v0 v1 h q) q) q)
    kRV_ok (Or.inr rfl) (by decide +kernel) (by decide +kernel) hf
theorem kqX11_personLine_23 : okC mX11_personLine 23 (.invokevirtual 108) 189 204 0 1 = true := by decide +kernel
def fX11_personLine_23 (v0 : Nat) (v1 : Int32) (s0 : Nat) (s1 : Nat) (h : aH) : Option (aH) :=
  (isO h 11 s1).bind fun _ =>
  (gX11_isWord s1 s0 h).bind fun r =>
  fX11_personLine_26 v0 v1 r.1 r.2
theorem tX11_personLine_23 {d : Nat} {z : aH} (v0 : Nat) (v1 : Int32) (s0 : Nat) (s1 : Nat) (h : aH) (hf : fX11_personLine_23 v0 v1 s0 s1 h = some z) : Ev (d + 8) none mX11_personLine (0, 0) 23 [.ref v0, .int v1, .null, .null, .null] [.ref s0, .ref s1] h (QV z) := by
  obtain ⟨_, h1, hf⟩ := bnd hf
  obtain ⟨fs, ho⟩ := isO_ok h1
  obtain ⟨r, h2, hf⟩ := bnd hf
  refine ev_V kqX11_personLine_23 jX11_isWord (zX11_isWord (d := d + 3) h2) ho rfl rfl (Nat.le_of_ble_eq_true rfl) rfl (as := [.ref s0]) (rest := []) rfl (Nat.le_of_ble_eq_true rfl) (fun _ _ hq => ?_)
  obtain ⟨-, rfl, rfl⟩ := hq
  exact jm [2, 1, 0, 0, 0] (fun v0 v1 => fX11_personLine_26 v0 v1 r.1 r.2) (fun v0 v1 q => tX11_personLine_26 v0 v1 r.1 r.2 q) hf
theorem kqX11_personLine_21 : ckS mX11_personLine 21 219 26 = true := by decide +kernel -- plain
def fX11_personLine_21 (v0 : Nat) (v1 : Int32) (s0 : Nat) (h : aH) : Option (aH) :=
  fX11_personLine_23 v0 v1 (SB + 26) s0 h
theorem tX11_personLine_21 {d : Nat} {z : aH} (v0 : Nat) (v1 : Int32) (s0 : Nat) (h : aH) (hf : fX11_personLine_21 v0 v1 s0 h = some z) : Ev (d + 8) none mX11_personLine (0, 0) 21 [.ref v0, .int v1, .null, .null, .null] [.ref s0] h (QV z) := 
  ev_ldcS kqX11_personLine_21 rfl (jm [2, 1, 0, 0, 0] (fun v0 v1 => fX11_personLine_23 v0 v1 (SB + 26) s0 h) (fun v0 v1 q => tX11_personLine_23 v0 v1 (SB + 26) s0 h q) hf)
def wX11_personLine_20 : List En := [(.aload_n 0, 0, 0, 0)]
def fX11_personLine_20 (v0 : Nat) (v1 : Int32) (h : aH) : Option (aH) :=
  fX11_personLine_21 v0 v1 v0 h
theorem tX11_personLine_20 {d : Nat} {z : aH} (v0 : Nat) (v1 : Int32) (h : aH) (hf : fX11_personLine_20 v0 v1 h = some z) : Ev (d + 8) none mX11_personLine (0, 0) 20 [.ref v0, .int v1, .null, .null, .null] [] h (QV z) := 
  go_ok (X := none) (blk := wX11_personLine_20) (np := 21) (tt := 0) (kN := fun xs h st => app [2, 1, 0, 0, 0] (fun v0 v1 => apS [2] (fun s0 => fX11_personLine_21 v0 v1 s0 h) st) xs) (kT := fun _ _ _ => none) (kR := kRV)
    (fun xs h st q => jm [2, 1, 0, 0, 0] _ (fun v0 v1 q => apS_ok [2] _ (fun st => Ev (d + 8) none mX11_personLine (0, 0) 21 [.ref v0, .int v1, .null, .null, .null] st h (QV z)) st (fun s0 q => tX11_personLine_21 v0 v1 s0 h q) q) q)
    (fun _ _ _ q => nos q)
    kRV_ok (Or.inr rfl) (by decide +kernel) (by decide +kernel) hf
theorem kqX11_personLine_17 : okC mX11_personLine 17 (.invokevirtual 215) 200 217 0 1 = true := by decide +kernel
def fX11_personLine_17 (v0 : Nat) (v1 : Int32) (s0 : Int32) (s1 : Nat) (h : aH) : Option (aH) :=
  (isO h 11 s1).bind fun _ =>
  (gX11_newName s1 s0 h).bind fun r =>
  fX11_personLine_20 v0 v1 r
theorem tX11_personLine_17 {d : Nat} {z : aH} (v0 : Nat) (v1 : Int32) (s0 : Int32) (s1 : Nat) (h : aH) (hf : fX11_personLine_17 v0 v1 s0 s1 h = some z) : Ev (d + 8) none mX11_personLine (0, 0) 17 [.ref v0, .int v1, .null, .null, .null] [.int s0, .ref s1] h (QV z) := by
  obtain ⟨_, h1, hf⟩ := bnd hf
  obtain ⟨fs, ho⟩ := isO_ok h1
  obtain ⟨r, h2, hf⟩ := bnd hf
  refine ev_V kqX11_personLine_17 jX11_newName (zX11_newName (d := d + 1) h2) ho rfl rfl (Nat.le_of_ble_eq_true rfl) rfl (as := [.int s0]) (rest := []) rfl (Nat.le_of_ble_eq_true rfl) (fun _ _ hq => ?_)
  obtain ⟨rfl, hh⟩ := hq
  rw [hh]
  exact jm [2, 1, 0, 0, 0] (fun v0 v1 => fX11_personLine_20 v0 v1 r) (fun v0 v1 q => tX11_personLine_20 v0 v1 r q) hf
def wX11_personLine_8 : List En := [(.aload_n 0, 0, 0, 0), (.getfield 23, 191, 11, 16), (.iconst 3, 0, 0, 0), (.iaload, 0, 0, 0), (.istore_n 1, 0, 0, 0), (.aload_n 0, 0, 0, 0), (.iload_n 1, 0, 0, 0)]
def fX11_personLine_8 (v0 : Nat) (h : aH) : Option (aH) :=
  (gFR h 11 v0 16).bind fun t1 =>
  (aRI (h[t1]?) (kI 3)).bind fun t2 =>
  fX11_personLine_17 v0 t2 t2 v0 h
theorem tX11_personLine_8 {d : Nat} {z : aH} (v0 : Nat) (h : aH) (hf : fX11_personLine_8 v0 h = some z) : Ev (d + 8) none mX11_personLine (0, 0) 8 [.ref v0, .null, .null, .null, .null] [] h (QV z) := 
  go_ok (X := none) (blk := wX11_personLine_8) (np := 17) (tt := 0) (kN := fun xs h st => app [2, 1, 0, 0, 0] (fun v0 v1 => apS [1, 2] (fun s0 s1 => fX11_personLine_17 v0 v1 s0 s1 h) st) xs) (kT := fun _ _ _ => none) (kR := kRV)
    (fun xs h st q => jm [2, 1, 0, 0, 0] _ (fun v0 v1 q => apS_ok [1, 2] _ (fun st => Ev (d + 8) none mX11_personLine (0, 0) 17 [.ref v0, .int v1, .null, .null, .null] st h (QV z)) st (fun s0 s1 q => tX11_personLine_17 v0 v1 s0 s1 h q) q) q)
    (fun _ _ _ q => nos q)
    kRV_ok (Or.inr rfl) (by decide +kernel) (by decide +kernel) hf
def wX11_personLine_7 : List En := [(.return_, 0, 0, 0)]
def fX11_personLine_7 (h : aH) : Option (aH) :=
  some h
theorem tX11_personLine_7 {d : Nat} {z : aH} (h : aH) (hf : fX11_personLine_7 h = some z) : Ev (d + 8) none mX11_personLine (0, 0) 7 [.null, .null, .null, .null, .null] [] h (QV z) := 
  go_ok (X := none) (blk := wX11_personLine_7) (np := 8) (tt := 0) (kN := fun _ _ _ => none) (kT := fun _ _ _ => none) (kR := kRV)
    (fun _ _ _ q => nos q)
    (fun _ _ _ q => nos q)
    kRV_ok (Or.inr rfl) (by decide +kernel) (by decide +kernel) hf
def wX11_personLine_0 : List En := [(.aload_n 0, 0, 0, 0), (.getfield 91, 188, 11, 13), (.ifCond .eq 4, 8, 0, 0)]
def fX11_personLine_0 (v0 : Nat) (h : aH) : Option (aH) :=
  (gFI h 11 v0 13).bind fun t1 =>
  if t1 = 0 then fX11_personLine_8 v0 h else fX11_personLine_7 h
theorem tX11_personLine_0 {d : Nat} {z : aH} (v0 : Nat) (h : aH) (hf : fX11_personLine_0 v0 h = some z) : Ev (d + 8) none mX11_personLine (0, 0) 0 [.ref v0, .null, .null, .null, .null] [] h (QV z) := 
  go_ok (X := none) (blk := wX11_personLine_0) (np := 7) (tt := 8) (kN := fun xs h st => app [0, 0, 0, 0, 0] (apS [] (fX11_personLine_7 h) st) xs) (kT := fun xs h st => app [2, 0, 0, 0, 0] (fun v0 => apS [] (fX11_personLine_8 v0 h) st) xs) (kR := kRV)
    (fun xs h st q => jm [0, 0, 0, 0, 0] _ (fun q => apS_ok [] _ (fun st => Ev (d + 8) none mX11_personLine (0, 0) 7 [.null, .null, .null, .null, .null] st h (QV z)) st (fun q => tX11_personLine_7 h q) q) q)
    (fun xs h st q => jm [2, 0, 0, 0, 0] _ (fun v0 q => apS_ok [] _ (fun st => Ev (d + 8) none mX11_personLine (0, 0) 8 [.ref v0, .null, .null, .null, .null] st h (QV z)) st (fun q => tX11_personLine_8 v0 h q) q) q)
    kRV_ok (Or.inr rfl) (by decide +kernel) (by decide +kernel) hf
def gX11_personLine (v0 : Nat) (h : aH) : Option (aH) := fX11_personLine_0 v0 h
theorem zX11_personLine {d : Nat} {z : aH} {v0 : Nat} {h : aH} (q : gX11_personLine v0 h = some z) : CT (d + 8) mX11_personLine (0, 0) [.ref v0] h (QV z) :=
  ct_ev (by decide +kernel) (Nat.le_of_ble_eq_true rfl) QV_r (jm [2, 0, 0, 0, 0] (fun v0 => fX11_personLine_0 v0 h) (fun v0 q => tX11_personLine_0 v0 h q) q)
def wX11_tableLine_92 : List En := [(.return_, 0, 0, 0)]
def fX11_tableLine_92 (h : aH) : Option (aH) :=
  some h
theorem tX11_tableLine_92 {d : Nat} {z : aH} (h : aH) (hf : fX11_tableLine_92 h = some z) : Ev (d + 8) none mX11_tableLine (0, 0) 92 [.null] [] h (QV z) := 
  go_ok (X := none) (blk := wX11_tableLine_92) (np := 93) (tt := 0) (kN := fun _ _ _ => none) (kT := fun _ _ _ => none) (kR := kRV)
    (fun _ _ _ q => nos q)
    (fun _ _ _ q => nos q)
    kRV_ok (Or.inr rfl) (by decide +kernel) (by decide +kernel) hf
def wX11_tableLine_84 : List En := [(.aload_n 0, 0, 0, 0), (.getfield 23, 191, 11, 16), (.bipush 8, 0, 0, 0), (.iconst 1, 0, 0, 0), (.iastore, 0, 0, 0)]
def fX11_tableLine_84 (v0 : Nat) (h : aH) : Option (aH) :=
  (gFR h 11 v0 16).bind fun t1 =>
  (aWI h t1 (kB 8) (kI 1)).bind fun h2 =>
  fX11_tableLine_92 h2
theorem tX11_tableLine_84 {d : Nat} {z : aH} (v0 : Nat) (h : aH) (hf : fX11_tableLine_84 v0 h = some z) : Ev (d + 8) none mX11_tableLine (0, 0) 84 [.ref v0] [] h (QV z) := 
  go_ok (X := none) (blk := wX11_tableLine_84) (np := 92) (tt := 0) (kN := fun xs h st => app [0] (apS [] (fX11_tableLine_92 h) st) xs) (kT := fun _ _ _ => none) (kR := kRV)
    (fun xs h st q => jm [0] _ (fun q => apS_ok [] _ (fun st => Ev (d + 8) none mX11_tableLine (0, 0) 92 [.null] st h (QV z)) st (fun q => tX11_tableLine_92 h q) q) q)
    (fun _ _ _ q => nos q)
    kRV_ok (Or.inr rfl) (by decide +kernel) (by decide +kernel) hf
def wX11_tableLine_76 : List En := [(.iastore, 0, 0, 0), (.aload_n 0, 0, 0, 0), (.getfield 91, 188, 11, 13), (.ifCond .ne 11, 92, 0, 0)]
def fX11_tableLine_76 (v0 : Nat) (s0 : Int32) (s1 : Int32) (s2 : Nat) (h : aH) : Option (aH) :=
  (aWI h s2 s1 s0).bind fun h1 =>
  (gFI h1 11 v0 13).bind fun t2 =>
  if t2 = 0 then fX11_tableLine_84 v0 h1 else fX11_tableLine_92 h1
theorem tX11_tableLine_76 {d : Nat} {z : aH} (v0 : Nat) (s0 : Int32) (s1 : Int32) (s2 : Nat) (h : aH) (hf : fX11_tableLine_76 v0 s0 s1 s2 h = some z) : Ev (d + 8) none mX11_tableLine (0, 0) 76 [.ref v0] [.int s0, .int s1, .ref s2] h (QV z) := 
  go_ok (X := none) (blk := wX11_tableLine_76) (np := 84) (tt := 92) (kN := fun xs h st => app [2] (fun v0 => apS [] (fX11_tableLine_84 v0 h) st) xs) (kT := fun xs h st => app [0] (apS [] (fX11_tableLine_92 h) st) xs) (kR := kRV)
    (fun xs h st q => jm [2] _ (fun v0 q => apS_ok [] _ (fun st => Ev (d + 8) none mX11_tableLine (0, 0) 84 [.ref v0] st h (QV z)) st (fun q => tX11_tableLine_84 v0 h q) q) q)
    (fun xs h st q => jm [0] _ (fun q => apS_ok [] _ (fun st => Ev (d + 8) none mX11_tableLine (0, 0) 92 [.null] st h (QV z)) st (fun q => tX11_tableLine_92 h q) q) q)
    kRV_ok (Or.inr rfl) (by decide +kernel) (by decide +kernel) hf
theorem kqX11_tableLine_73 : okC mX11_tableLine 73 (.invokevirtual 207) 192 209 0 3 = true := by decide +kernel
def fX11_tableLine_73 (v0 : Nat) (s0 : Int32) (s1 : Int32) (s2 : Nat) (s3 : Nat) (s4 : Int32) (s5 : Nat) (h : aH) : Option (aH) :=
  (isO h 11 s3).bind fun _ =>
  (gX11_after s3 s2 s1 s0 h).bind fun r =>
  fX11_tableLine_76 v0 r.1 s4 s5 r.2
theorem tX11_tableLine_73 {d : Nat} {z : aH} (v0 : Nat) (s0 : Int32) (s1 : Int32) (s2 : Nat) (s3 : Nat) (s4 : Int32) (s5 : Nat) (h : aH) (hf : fX11_tableLine_73 v0 s0 s1 s2 s3 s4 s5 h = some z) : Ev (d + 8) none mX11_tableLine (0, 0) 73 [.ref v0] [.int s0, .int s1, .ref s2, .ref s3, .int s4, .ref s5] h (QV z) := by
  obtain ⟨_, h1, hf⟩ := bnd hf
  obtain ⟨fs, ho⟩ := isO_ok h1
  obtain ⟨r, h2, hf⟩ := bnd hf
  refine ev_V kqX11_tableLine_73 jX11_after (zX11_after (d := d + 0) h2) ho rfl rfl (Nat.le_of_ble_eq_true rfl) rfl (as := [.ref s2, .int s1, .int s0]) (rest := [.int s4, .ref s5]) rfl (Nat.le_of_ble_eq_true rfl) (fun _ _ hq => ?_)
  obtain ⟨rfl, rfl⟩ := hq
  exact jm [2] (fun v0 => fX11_tableLine_76 v0 r.1 s4 s5 r.2) (fun v0 q => tX11_tableLine_76 v0 r.1 s4 s5 r.2 q) hf
def wX11_tableLine_70 : List En := [(.iconst 0, 0, 0, 0), (.bipush 100, 0, 0, 0)]
def fX11_tableLine_70 (v0 : Nat) (s0 : Nat) (s1 : Nat) (s2 : Int32) (s3 : Nat) (h : aH) : Option (aH) :=
  fX11_tableLine_73 v0 (kB 100) (kI 0) s0 s1 s2 s3 h
theorem tX11_tableLine_70 {d : Nat} {z : aH} (v0 : Nat) (s0 : Nat) (s1 : Nat) (s2 : Int32) (s3 : Nat) (h : aH) (hf : fX11_tableLine_70 v0 s0 s1 s2 s3 h = some z) : Ev (d + 8) none mX11_tableLine (0, 0) 70 [.ref v0] [.ref s0, .ref s1, .int s2, .ref s3] h (QV z) := 
  go_ok (X := none) (blk := wX11_tableLine_70) (np := 73) (tt := 0) (kN := fun xs h st => app [2] (fun v0 => apS [1, 1, 2, 2, 1, 2] (fun s0 s1 s2 s3 s4 s5 => fX11_tableLine_73 v0 s0 s1 s2 s3 s4 s5 h) st) xs) (kT := fun _ _ _ => none) (kR := kRV)
    (fun xs h st q => jm [2] _ (fun v0 q => apS_ok [1, 1, 2, 2, 1, 2] _ (fun st => Ev (d + 8) none mX11_tableLine (0, 0) 73 [.ref v0] st h (QV z)) st (fun s0 s1 s2 s3 s4 s5 q => tX11_tableLine_73 v0 s0 s1 s2 s3 s4 s5 h q) q) q)
    (fun _ _ _ q => nos q)
    kRV_ok (Or.inr rfl) (by decide +kernel) (by decide +kernel) hf
theorem kqX11_tableLine_68 : ckS mX11_tableLine 68 213 20 = true := by decide +kernel -- flinch
def fX11_tableLine_68 (v0 : Nat) (s0 : Nat) (s1 : Int32) (s2 : Nat) (h : aH) : Option (aH) :=
  fX11_tableLine_70 v0 (SB + 20) s0 s1 s2 h
theorem tX11_tableLine_68 {d : Nat} {z : aH} (v0 : Nat) (s0 : Nat) (s1 : Int32) (s2 : Nat) (h : aH) (hf : fX11_tableLine_68 v0 s0 s1 s2 h = some z) : Ev (d + 8) none mX11_tableLine (0, 0) 68 [.ref v0] [.ref s0, .int s1, .ref s2] h (QV z) := 
  ev_ldcS kqX11_tableLine_68 rfl (jm [2] (fun v0 => fX11_tableLine_70 v0 (SB + 20) s0 s1 s2 h) (fun v0 q => tX11_tableLine_70 v0 (SB + 20) s0 s1 s2 h q) hf)
def wX11_tableLine_61 : List En := [(.iastore, 0, 0, 0), (.aload_n 0, 0, 0, 0), (.getfield 23, 191, 11, 16), (.iconst 2, 0, 0, 0), (.aload_n 0, 0, 0, 0)]
def fX11_tableLine_61 (v0 : Nat) (s0 : Int32) (s1 : Int32) (s2 : Nat) (h : aH) : Option (aH) :=
  (aWI h s2 s1 s0).bind fun h1 =>
  (gFR h1 11 v0 16).bind fun t2 =>
  fX11_tableLine_68 v0 v0 (kI 2) t2 h1
theorem tX11_tableLine_61 {d : Nat} {z : aH} (v0 : Nat) (s0 : Int32) (s1 : Int32) (s2 : Nat) (h : aH) (hf : fX11_tableLine_61 v0 s0 s1 s2 h = some z) : Ev (d + 8) none mX11_tableLine (0, 0) 61 [.ref v0] [.int s0, .int s1, .ref s2] h (QV z) := 
  go_ok (X := none) (blk := wX11_tableLine_61) (np := 68) (tt := 0) (kN := fun xs h st => app [2] (fun v0 => apS [2, 1, 2] (fun s0 s1 s2 => fX11_tableLine_68 v0 s0 s1 s2 h) st) xs) (kT := fun _ _ _ => none) (kR := kRV)
    (fun xs h st q => jm [2] _ (fun v0 q => apS_ok [2, 1, 2] _ (fun st => Ev (d + 8) none mX11_tableLine (0, 0) 68 [.ref v0] st h (QV z)) st (fun s0 s1 s2 q => tX11_tableLine_68 v0 s0 s1 s2 h q) q) q)
    (fun _ _ _ q => nos q)
    kRV_ok (Or.inr rfl) (by decide +kernel) (by decide +kernel) hf
theorem kqX11_tableLine_58 : okC mX11_tableLine 58 (.invokevirtual 207) 192 209 0 3 = true := by decide +kernel
def fX11_tableLine_58 (v0 : Nat) (s0 : Int32) (s1 : Int32) (s2 : Nat) (s3 : Nat) (s4 : Int32) (s5 : Nat) (h : aH) : Option (aH) :=
  (isO h 11 s3).bind fun _ =>
  (gX11_after s3 s2 s1 s0 h).bind fun r =>
  fX11_tableLine_61 v0 r.1 s4 s5 r.2
theorem tX11_tableLine_58 {d : Nat} {z : aH} (v0 : Nat) (s0 : Int32) (s1 : Int32) (s2 : Nat) (s3 : Nat) (s4 : Int32) (s5 : Nat) (h : aH) (hf : fX11_tableLine_58 v0 s0 s1 s2 s3 s4 s5 h = some z) : Ev (d + 8) none mX11_tableLine (0, 0) 58 [.ref v0] [.int s0, .int s1, .ref s2, .ref s3, .int s4, .ref s5] h (QV z) := by
  obtain ⟨_, h1, hf⟩ := bnd hf
  obtain ⟨fs, ho⟩ := isO_ok h1
  obtain ⟨r, h2, hf⟩ := bnd hf
  refine ev_V kqX11_tableLine_58 jX11_after (zX11_after (d := d + 0) h2) ho rfl rfl (Nat.le_of_ble_eq_true rfl) rfl (as := [.ref s2, .int s1, .int s0]) (rest := [.int s4, .ref s5]) rfl (Nat.le_of_ble_eq_true rfl) (fun _ _ hq => ?_)
  obtain ⟨rfl, rfl⟩ := hq
  exact jm [2] (fun v0 => fX11_tableLine_61 v0 r.1 s4 s5 r.2) (fun v0 q => tX11_tableLine_61 v0 r.1 s4 s5 r.2 q) hf
def wX11_tableLine_54 : List En := [(.iconst 5, 0, 0, 0), (.sipush 200, 0, 0, 0)]
def fX11_tableLine_54 (v0 : Nat) (s0 : Nat) (s1 : Nat) (s2 : Int32) (s3 : Nat) (h : aH) : Option (aH) :=
  fX11_tableLine_58 v0 (kS 200) (kI 5) s0 s1 s2 s3 h
theorem tX11_tableLine_54 {d : Nat} {z : aH} (v0 : Nat) (s0 : Nat) (s1 : Nat) (s2 : Int32) (s3 : Nat) (h : aH) (hf : fX11_tableLine_54 v0 s0 s1 s2 s3 h = some z) : Ev (d + 8) none mX11_tableLine (0, 0) 54 [.ref v0] [.ref s0, .ref s1, .int s2, .ref s3] h (QV z) := 
  go_ok (X := none) (blk := wX11_tableLine_54) (np := 58) (tt := 0) (kN := fun xs h st => app [2] (fun v0 => apS [1, 1, 2, 2, 1, 2] (fun s0 s1 s2 s3 s4 s5 => fX11_tableLine_58 v0 s0 s1 s2 s3 s4 s5 h) st) xs) (kT := fun _ _ _ => none) (kR := kRV)
    (fun xs h st q => jm [2] _ (fun v0 q => apS_ok [1, 1, 2, 2, 1, 2] _ (fun st => Ev (d + 8) none mX11_tableLine (0, 0) 58 [.ref v0] st h (QV z)) st (fun s0 s1 s2 s3 s4 s5 q => tX11_tableLine_58 v0 s0 s1 s2 s3 s4 s5 h q) q) q)
    (fun _ _ _ q => nos q)
    kRV_ok (Or.inr rfl) (by decide +kernel) (by decide +kernel) hf
theorem kqX11_tableLine_52 : ckS mX11_tableLine 52 211 19 = true := by decide +kernel -- starve
def fX11_tableLine_52 (v0 : Nat) (s0 : Nat) (s1 : Int32) (s2 : Nat) (h : aH) : Option (aH) :=
  fX11_tableLine_54 v0 (SB + 19) s0 s1 s2 h
theorem tX11_tableLine_52 {d : Nat} {z : aH} (v0 : Nat) (s0 : Nat) (s1 : Int32) (s2 : Nat) (h : aH) (hf : fX11_tableLine_52 v0 s0 s1 s2 h = some z) : Ev (d + 8) none mX11_tableLine (0, 0) 52 [.ref v0] [.ref s0, .int s1, .ref s2] h (QV z) := 
  ev_ldcS kqX11_tableLine_52 rfl (jm [2] (fun v0 => fX11_tableLine_54 v0 (SB + 19) s0 s1 s2 h) (fun v0 q => tX11_tableLine_54 v0 (SB + 19) s0 s1 s2 h q) hf)
def wX11_tableLine_45 : List En := [(.iastore, 0, 0, 0), (.aload_n 0, 0, 0, 0), (.getfield 23, 191, 11, 16), (.iconst 1, 0, 0, 0), (.aload_n 0, 0, 0, 0)]
def fX11_tableLine_45 (v0 : Nat) (s0 : Int32) (s1 : Int32) (s2 : Nat) (h : aH) : Option (aH) :=
  (aWI h s2 s1 s0).bind fun h1 =>
  (gFR h1 11 v0 16).bind fun t2 =>
  fX11_tableLine_52 v0 v0 (kI 1) t2 h1
theorem tX11_tableLine_45 {d : Nat} {z : aH} (v0 : Nat) (s0 : Int32) (s1 : Int32) (s2 : Nat) (h : aH) (hf : fX11_tableLine_45 v0 s0 s1 s2 h = some z) : Ev (d + 8) none mX11_tableLine (0, 0) 45 [.ref v0] [.int s0, .int s1, .ref s2] h (QV z) := 
  go_ok (X := none) (blk := wX11_tableLine_45) (np := 52) (tt := 0) (kN := fun xs h st => app [2] (fun v0 => apS [2, 1, 2] (fun s0 s1 s2 => fX11_tableLine_52 v0 s0 s1 s2 h) st) xs) (kT := fun _ _ _ => none) (kR := kRV)
    (fun xs h st q => jm [2] _ (fun v0 q => apS_ok [2, 1, 2] _ (fun st => Ev (d + 8) none mX11_tableLine (0, 0) 52 [.ref v0] st h (QV z)) st (fun s0 s1 s2 q => tX11_tableLine_52 v0 s0 s1 s2 h q) q) q)
    (fun _ _ _ q => nos q)
    kRV_ok (Or.inr rfl) (by decide +kernel) (by decide +kernel) hf
theorem kqX11_tableLine_42 : okC mX11_tableLine 42 (.invokevirtual 207) 192 209 0 3 = true := by decide +kernel
def fX11_tableLine_42 (v0 : Nat) (s0 : Int32) (s1 : Int32) (s2 : Nat) (s3 : Nat) (s4 : Int32) (s5 : Nat) (h : aH) : Option (aH) :=
  (isO h 11 s3).bind fun _ =>
  (gX11_after s3 s2 s1 s0 h).bind fun r =>
  fX11_tableLine_45 v0 r.1 s4 s5 r.2
theorem tX11_tableLine_42 {d : Nat} {z : aH} (v0 : Nat) (s0 : Int32) (s1 : Int32) (s2 : Nat) (s3 : Nat) (s4 : Int32) (s5 : Nat) (h : aH) (hf : fX11_tableLine_42 v0 s0 s1 s2 s3 s4 s5 h = some z) : Ev (d + 8) none mX11_tableLine (0, 0) 42 [.ref v0] [.int s0, .int s1, .ref s2, .ref s3, .int s4, .ref s5] h (QV z) := by
  obtain ⟨_, h1, hf⟩ := bnd hf
  obtain ⟨fs, ho⟩ := isO_ok h1
  obtain ⟨r, h2, hf⟩ := bnd hf
  refine ev_V kqX11_tableLine_42 jX11_after (zX11_after (d := d + 0) h2) ho rfl rfl (Nat.le_of_ble_eq_true rfl) rfl (as := [.ref s2, .int s1, .int s0]) (rest := [.int s4, .ref s5]) rfl (Nat.le_of_ble_eq_true rfl) (fun _ _ hq => ?_)
  obtain ⟨rfl, rfl⟩ := hq
  exact jm [2] (fun v0 => fX11_tableLine_45 v0 r.1 s4 s5 r.2) (fun v0 q => tX11_tableLine_45 v0 r.1 s4 s5 r.2 q) hf
def wX11_tableLine_39 : List En := [(.iconst 1, 0, 0, 0), (.bipush 20, 0, 0, 0)]
def fX11_tableLine_39 (v0 : Nat) (s0 : Nat) (s1 : Nat) (s2 : Int32) (s3 : Nat) (h : aH) : Option (aH) :=
  fX11_tableLine_42 v0 (kB 20) (kI 1) s0 s1 s2 s3 h
theorem tX11_tableLine_39 {d : Nat} {z : aH} (v0 : Nat) (s0 : Nat) (s1 : Nat) (s2 : Int32) (s3 : Nat) (h : aH) (hf : fX11_tableLine_39 v0 s0 s1 s2 s3 h = some z) : Ev (d + 8) none mX11_tableLine (0, 0) 39 [.ref v0] [.ref s0, .ref s1, .int s2, .ref s3] h (QV z) := 
  go_ok (X := none) (blk := wX11_tableLine_39) (np := 42) (tt := 0) (kN := fun xs h st => app [2] (fun v0 => apS [1, 1, 2, 2, 1, 2] (fun s0 s1 s2 s3 s4 s5 => fX11_tableLine_42 v0 s0 s1 s2 s3 s4 s5 h) st) xs) (kT := fun _ _ _ => none) (kR := kRV)
    (fun xs h st q => jm [2] _ (fun v0 q => apS_ok [1, 1, 2, 2, 1, 2] _ (fun st => Ev (d + 8) none mX11_tableLine (0, 0) 42 [.ref v0] st h (QV z)) st (fun s0 s1 s2 s3 s4 s5 q => tX11_tableLine_42 v0 s0 s1 s2 s3 s4 s5 h q) q) q)
    (fun _ _ _ q => nos q)
    kRV_ok (Or.inr rfl) (by decide +kernel) (by decide +kernel) hf
theorem kqX11_tableLine_37 : ckS mX11_tableLine 37 205 18 = true := by decide +kernel -- bowl
def fX11_tableLine_37 (v0 : Nat) (s0 : Nat) (s1 : Int32) (s2 : Nat) (h : aH) : Option (aH) :=
  fX11_tableLine_39 v0 (SB + 18) s0 s1 s2 h
theorem tX11_tableLine_37 {d : Nat} {z : aH} (v0 : Nat) (s0 : Nat) (s1 : Int32) (s2 : Nat) (h : aH) (hf : fX11_tableLine_37 v0 s0 s1 s2 h = some z) : Ev (d + 8) none mX11_tableLine (0, 0) 37 [.ref v0] [.ref s0, .int s1, .ref s2] h (QV z) := 
  ev_ldcS kqX11_tableLine_37 rfl (jm [2] (fun v0 => fX11_tableLine_39 v0 (SB + 18) s0 s1 s2 h) (fun v0 q => tX11_tableLine_39 v0 (SB + 18) s0 s1 s2 h q) hf)
def wX11_tableLine_31 : List En := [(.aload_n 0, 0, 0, 0), (.getfield 23, 191, 11, 16), (.iconst 0, 0, 0, 0), (.aload_n 0, 0, 0, 0)]
def fX11_tableLine_31 (v0 : Nat) (h : aH) : Option (aH) :=
  (gFR h 11 v0 16).bind fun t1 =>
  fX11_tableLine_37 v0 v0 (kI 0) t1 h
theorem tX11_tableLine_31 {d : Nat} {z : aH} (v0 : Nat) (h : aH) (hf : fX11_tableLine_31 v0 h = some z) : Ev (d + 8) none mX11_tableLine (0, 0) 31 [.ref v0] [] h (QV z) := 
  go_ok (X := none) (blk := wX11_tableLine_31) (np := 37) (tt := 0) (kN := fun xs h st => app [2] (fun v0 => apS [2, 1, 2] (fun s0 s1 s2 => fX11_tableLine_37 v0 s0 s1 s2 h) st) xs) (kT := fun _ _ _ => none) (kR := kRV)
    (fun xs h st q => jm [2] _ (fun v0 q => apS_ok [2, 1, 2] _ (fun st => Ev (d + 8) none mX11_tableLine (0, 0) 37 [.ref v0] st h (QV z)) st (fun s0 s1 s2 q => tX11_tableLine_37 v0 s0 s1 s2 h q) q) q)
    (fun _ _ _ q => nos q)
    kRV_ok (Or.inr rfl) (by decide +kernel) (by decide +kernel) hf
theorem kqX11_tableLine_28 : okC mX11_tableLine 28 (.invokevirtual 112) 184 199 0 0 = true := by decide +kernel
def fX11_tableLine_28 (v0 : Nat) (s0 : Nat) (h : aH) : Option (aH) :=
  (isO h 11 s0).bind fun _ =>
  (gX11_next s0 h).bind fun r =>
  fX11_tableLine_31 v0 r
theorem tX11_tableLine_28 {d : Nat} {z : aH} (v0 : Nat) (s0 : Nat) (h : aH) (hf : fX11_tableLine_28 v0 s0 h = some z) : Ev (d + 8) none mX11_tableLine (0, 0) 28 [.ref v0] [.ref s0] h (QV z) := by
  obtain ⟨_, h1, hf⟩ := bnd hf
  obtain ⟨fs, ho⟩ := isO_ok h1
  obtain ⟨r, h2, hf⟩ := bnd hf
  refine ev_V kqX11_tableLine_28 jX11_next (zX11_next (d := d + 6) h2) ho rfl rfl (Nat.le_of_ble_eq_true rfl) rfl (as := []) (rest := []) rfl (Nat.le_of_ble_eq_true rfl) (fun _ _ hq => ?_)
  obtain ⟨rfl, hh⟩ := hq
  rw [hh]
  exact jm [2] (fun v0 => fX11_tableLine_31 v0 r) (fun v0 q => tX11_tableLine_31 v0 r q) hf
def wX11_tableLine_27 : List En := [(.aload_n 0, 0, 0, 0)]
def fX11_tableLine_27 (v0 : Nat) (h : aH) : Option (aH) :=
  fX11_tableLine_28 v0 v0 h
theorem tX11_tableLine_27 {d : Nat} {z : aH} (v0 : Nat) (h : aH) (hf : fX11_tableLine_27 v0 h = some z) : Ev (d + 8) none mX11_tableLine (0, 0) 27 [.ref v0] [] h (QV z) := 
  go_ok (X := none) (blk := wX11_tableLine_27) (np := 28) (tt := 0) (kN := fun xs h st => app [2] (fun v0 => apS [2] (fun s0 => fX11_tableLine_28 v0 s0 h) st) xs) (kT := fun _ _ _ => none) (kR := kRV)
    (fun xs h st q => jm [2] _ (fun v0 q => apS_ok [2] _ (fun st => Ev (d + 8) none mX11_tableLine (0, 0) 28 [.ref v0] st h (QV z)) st (fun s0 q => tX11_tableLine_28 v0 s0 h q) q) q)
    (fun _ _ _ q => nos q)
    kRV_ok (Or.inr rfl) (by decide +kernel) (by decide +kernel) hf
def wX11_tableLine_26 : List En := [(.return_, 0, 0, 0)]
def fX11_tableLine_26 (h : aH) : Option (aH) :=
  some h
theorem tX11_tableLine_26 {d : Nat} {z : aH} (h : aH) (hf : fX11_tableLine_26 h = some z) : Ev (d + 8) none mX11_tableLine (0, 0) 26 [.null] [] h (QV z) := 
  go_ok (X := none) (blk := wX11_tableLine_26) (np := 27) (tt := 0) (kN := fun _ _ _ => none) (kT := fun _ _ _ => none) (kR := kRV)
    (fun _ _ _ q => nos q)
    (fun _ _ _ q => nos q)
    kRV_ok (Or.inr rfl) (by decide +kernel) (by decide +kernel) hf
def wX11_tableLine_19 : List En := [(.aload_n 0, 0, 0, 0), (.getfield 91, 188, 11, 13), (.ifCond .eq 4, 27, 0, 0)]
def fX11_tableLine_19 (v0 : Nat) (h : aH) : Option (aH) :=
  (gFI h 11 v0 13).bind fun t1 =>
  if t1 = 0 then fX11_tableLine_27 v0 h else fX11_tableLine_26 h
theorem tX11_tableLine_19 {d : Nat} {z : aH} (v0 : Nat) (h : aH) (hf : fX11_tableLine_19 v0 h = some z) : Ev (d + 8) none mX11_tableLine (0, 0) 19 [.ref v0] [] h (QV z) := 
  go_ok (X := none) (blk := wX11_tableLine_19) (np := 26) (tt := 27) (kN := fun xs h st => app [0] (apS [] (fX11_tableLine_26 h) st) xs) (kT := fun xs h st => app [2] (fun v0 => apS [] (fX11_tableLine_27 v0 h) st) xs) (kR := kRV)
    (fun xs h st q => jm [0] _ (fun q => apS_ok [] _ (fun st => Ev (d + 8) none mX11_tableLine (0, 0) 26 [.null] st h (QV z)) st (fun q => tX11_tableLine_26 h q) q) q)
    (fun xs h st q => jm [2] _ (fun v0 q => apS_ok [] _ (fun st => Ev (d + 8) none mX11_tableLine (0, 0) 27 [.ref v0] st h (QV z)) st (fun q => tX11_tableLine_27 v0 h q) q) q)
    kRV_ok (Or.inr rfl) (by decide +kernel) (by decide +kernel) hf
theorem kqX11_tableLine_16 : okC mX11_tableLine 16 (.invokevirtual 118) 191 208 0 2 = true := by decide +kernel
def fX11_tableLine_16 (v0 : Nat) (s0 : Int32) (s1 : Int32) (s2 : Nat) (h : aH) : Option (aH) :=
  (isO h 11 s2).bind fun _ =>
  (gX11_wrong s2 s1 s0 h).bind fun r =>
  fX11_tableLine_19 v0 r
theorem tX11_tableLine_16 {d : Nat} {z : aH} (v0 : Nat) (s0 : Int32) (s1 : Int32) (s2 : Nat) (h : aH) (hf : fX11_tableLine_16 v0 s0 s1 s2 h = some z) : Ev (d + 8) none mX11_tableLine (0, 0) 16 [.ref v0] [.int s0, .int s1, .ref s2] h (QV z) := by
  obtain ⟨_, h1, hf⟩ := bnd hf
  obtain ⟨fs, ho⟩ := isO_ok h1
  obtain ⟨r, h2, hf⟩ := bnd hf
  refine ev_V kqX11_tableLine_16 jX11_wrong (zX11_wrong (d := d + 7) h2) ho rfl rfl (Nat.le_of_ble_eq_true rfl) rfl (as := [.int s1, .int s0]) (rest := []) rfl (Nat.le_of_ble_eq_true rfl) (fun _ _ hq => ?_)
  obtain ⟨rfl, hh⟩ := hq
  rw [hh]
  exact jm [2] (fun v0 => fX11_tableLine_19 v0 r) (fun v0 q => tX11_tableLine_19 v0 r q) hf
def wX11_tableLine_10 : List En := [(.aload_n 0, 0, 0, 0), (.iconst 3, 0, 0, 0), (.aload_n 0, 0, 0, 0), (.getfield 72, 179, 11, 4)]
def fX11_tableLine_10 (v0 : Nat) (h : aH) : Option (aH) :=
  (gFI h 11 v0 4).bind fun t1 =>
  fX11_tableLine_16 v0 t1 (kI 3) v0 h
theorem tX11_tableLine_10 {d : Nat} {z : aH} (v0 : Nat) (h : aH) (hf : fX11_tableLine_10 v0 h = some z) : Ev (d + 8) none mX11_tableLine (0, 0) 10 [.ref v0] [] h (QV z) := 
  go_ok (X := none) (blk := wX11_tableLine_10) (np := 16) (tt := 0) (kN := fun xs h st => app [2] (fun v0 => apS [1, 1, 2] (fun s0 s1 s2 => fX11_tableLine_16 v0 s0 s1 s2 h) st) xs) (kT := fun _ _ _ => none) (kR := kRV)
    (fun xs h st q => jm [2] _ (fun v0 q => apS_ok [1, 1, 2] _ (fun st => Ev (d + 8) none mX11_tableLine (0, 0) 16 [.ref v0] st h (QV z)) st (fun s0 s1 s2 q => tX11_tableLine_16 v0 s0 s1 s2 h q) q) q)
    (fun _ _ _ q => nos q)
    kRV_ok (Or.inr rfl) (by decide +kernel) (by decide +kernel) hf
def wX11_tableLine_0 : List En := [(.aload_n 0, 0, 0, 0), (.getfield 23, 191, 11, 16), (.bipush 8, 0, 0, 0), (.iaload, 0, 0, 0), (.ifCond .le 12, 19, 0, 0)]
def fX11_tableLine_0 (v0 : Nat) (h : aH) : Option (aH) :=
  (gFR h 11 v0 16).bind fun t1 =>
  (aRI (h[t1]?) (kB 8)).bind fun t2 =>
  if 0 < t2 then fX11_tableLine_10 v0 h else fX11_tableLine_19 v0 h
theorem tX11_tableLine_0 {d : Nat} {z : aH} (v0 : Nat) (h : aH) (hf : fX11_tableLine_0 v0 h = some z) : Ev (d + 8) none mX11_tableLine (0, 0) 0 [.ref v0] [] h (QV z) := 
  go_ok (X := none) (blk := wX11_tableLine_0) (np := 10) (tt := 19) (kN := fun xs h st => app [2] (fun v0 => apS [] (fX11_tableLine_10 v0 h) st) xs) (kT := fun xs h st => app [2] (fun v0 => apS [] (fX11_tableLine_19 v0 h) st) xs) (kR := kRV)
    (fun xs h st q => jm [2] _ (fun v0 q => apS_ok [] _ (fun st => Ev (d + 8) none mX11_tableLine (0, 0) 10 [.ref v0] st h (QV z)) st (fun q => tX11_tableLine_10 v0 h q) q) q)
    (fun xs h st q => jm [2] _ (fun v0 q => apS_ok [] _ (fun st => Ev (d + 8) none mX11_tableLine (0, 0) 19 [.ref v0] st h (QV z)) st (fun q => tX11_tableLine_19 v0 h q) q) q)
    kRV_ok (Or.inr rfl) (by decide +kernel) (by decide +kernel) hf
def gX11_tableLine (v0 : Nat) (h : aH) : Option (aH) := fX11_tableLine_0 v0 h
theorem zX11_tableLine {d : Nat} {z : aH} {v0 : Nat} {h : aH} (q : gX11_tableLine v0 h = some z) : CT (d + 8) mX11_tableLine (0, 0) [.ref v0] h (QV z) :=
  ct_ev (by decide +kernel) (Nat.le_of_ble_eq_true rfl) QV_r (jm [2] (fun v0 => fX11_tableLine_0 v0 h) (fun v0 q => tX11_tableLine_0 v0 h q) q)
def wX11_unsureLine_96 : List En := [(.aload_n 0, 0, 0, 0), (.getfield 23, 191, 11, 16), (.iload_n 1, 0, 0, 0), (.iload_n 2, 0, 0, 0), (.iastore, 0, 0, 0), (.aload_n 0, 0, 0, 0), (.getfield 23, 191, 11, 16), (.iload_n 1, 0, 0, 0), (.iconst 1, 0, 0, 0), (.iadd, 0, 0, 0), (.iload_n 3, 0, 0, 0), (.iastore, 0, 0, 0), (.aload_n 0, 0, 0, 0), (.getfield 23, 191, 11, 16), (.bipush 6, 0, 0, 0), (.dup2, 0, 0, 0), (.iaload, 0, 0, 0), (.iconst 1, 0, 0, 0), (.iadd, 0, 0, 0), (.iastore, 0, 0, 0), (.return_, 0, 0, 0)]
def fX11_unsureLine_96 (v0 : Nat) (v1 : Int32) (v2 : Int32) (v3 : Int32) (h : aH) : Option (aH) :=
  (gFR h 11 v0 16).bind fun t1 =>
  (aWI h t1 v1 v2).bind fun h2 =>
  (gFR h2 11 v0 16).bind fun t3 =>
  (aWI h2 t3 (v1 + (kI 1)) v3).bind fun h4 =>
  (gFR h4 11 v0 16).bind fun t5 =>
  (aRI (h4[t5]?) (kB 6)).bind fun t6 =>
  (aWI h4 t5 (kB 6) (t6 + (kI 1))).bind fun h7 =>
  some h7
theorem tX11_unsureLine_96 {d : Nat} {z : aH} (v0 : Nat) (v1 : Int32) (v2 : Int32) (v3 : Int32) (h : aH) (hf : fX11_unsureLine_96 v0 v1 v2 v3 h = some z) : Ev (d + 8) none mX11_unsureLine (0, 0) 96 [.ref v0, .int v1, .int v2, .int v3] [] h (QV z) := 
  go_ok (X := none) (blk := wX11_unsureLine_96) (np := 124) (tt := 0) (kN := fun _ _ _ => none) (kT := fun _ _ _ => none) (kR := kRV)
    (fun _ _ _ q => nos q)
    (fun _ _ _ q => nos q)
    kRV_ok (Or.inr rfl) (by decide +kernel) (by decide +kernel) hf
def wX11_unsureLine_95 : List En := [(.return_, 0, 0, 0)]
def fX11_unsureLine_95 (h : aH) : Option (aH) :=
  some h
theorem tX11_unsureLine_95 {d : Nat} {z : aH} (h : aH) (hf : fX11_unsureLine_95 h = some z) : Ev (d + 8) none mX11_unsureLine (0, 0) 95 [.null, .null, .null, .null] [] h (QV z) := 
  go_ok (X := none) (blk := wX11_unsureLine_95) (np := 96) (tt := 0) (kN := fun _ _ _ => none) (kT := fun _ _ _ => none) (kR := kRV)
    (fun _ _ _ q => nos q)
    (fun _ _ _ q => nos q)
    kRV_ok (Or.inr rfl) (by decide +kernel) (by decide +kernel) hf
def wX11_unsureLine_87 : List En := [(.istore_n 3, 0, 0, 0), (.aload_n 0, 0, 0, 0), (.getfield 91, 188, 11, 13), (.ifCond .eq 4, 96, 0, 0)]
def fX11_unsureLine_87 (v0 : Nat) (v1 : Int32) (v2 : Int32) (s0 : Int32) (h : aH) : Option (aH) :=
  (gFI h 11 v0 13).bind fun t1 =>
  if t1 = 0 then fX11_unsureLine_96 v0 v1 v2 s0 h else fX11_unsureLine_95 h
theorem tX11_unsureLine_87 {d : Nat} {z : aH} (v0 : Nat) (v1 : Int32) (v2 : Int32) (s0 : Int32) (h : aH) (hf : fX11_unsureLine_87 v0 v1 v2 s0 h = some z) : Ev (d + 8) none mX11_unsureLine (0, 0) 87 [.ref v0, .int v1, .int v2, .null] [.int s0] h (QV z) := 
  go_ok (X := none) (blk := wX11_unsureLine_87) (np := 95) (tt := 96) (kN := fun xs h st => app [0, 0, 0, 0] (apS [] (fX11_unsureLine_95 h) st) xs) (kT := fun xs h st => app [2, 1, 1, 1] (fun v0 v1 v2 v3 => apS [] (fX11_unsureLine_96 v0 v1 v2 v3 h) st) xs) (kR := kRV)
    (fun xs h st q => jm [0, 0, 0, 0] _ (fun q => apS_ok [] _ (fun st => Ev (d + 8) none mX11_unsureLine (0, 0) 95 [.null, .null, .null, .null] st h (QV z)) st (fun q => tX11_unsureLine_95 h q) q) q)
    (fun xs h st q => jm [2, 1, 1, 1] _ (fun v0 v1 v2 v3 q => apS_ok [] _ (fun st => Ev (d + 8) none mX11_unsureLine (0, 0) 96 [.ref v0, .int v1, .int v2, .int v3] st h (QV z)) st (fun q => tX11_unsureLine_96 v0 v1 v2 v3 h q) q) q)
    kRV_ok (Or.inr rfl) (by decide +kernel) (by decide +kernel) hf
theorem kqX11_unsureLine_84 : okC mX11_unsureLine 84 (.invokevirtual 158) 195 212 0 2 = true := by decide +kernel
def fX11_unsureLine_84 (v0 : Nat) (v1 : Int32) (v2 : Int32) (s0 : Int32) (s1 : Int32) (s2 : Nat) (h : aH) : Option (aH) :=
  (isO h 11 s2).bind fun _ =>
  (gX11_number s2 s1 s0 h).bind fun r =>
  fX11_unsureLine_87 v0 v1 v2 r.1 r.2
theorem tX11_unsureLine_84 {d : Nat} {z : aH} (v0 : Nat) (v1 : Int32) (v2 : Int32) (s0 : Int32) (s1 : Int32) (s2 : Nat) (h : aH) (hf : fX11_unsureLine_84 v0 v1 v2 s0 s1 s2 h = some z) : Ev (d + 8) none mX11_unsureLine (0, 0) 84 [.ref v0, .int v1, .int v2, .null] [.int s0, .int s1, .ref s2] h (QV z) := by
  obtain ⟨_, h1, hf⟩ := bnd hf
  obtain ⟨fs, ho⟩ := isO_ok h1
  obtain ⟨r, h2, hf⟩ := bnd hf
  refine ev_V kqX11_unsureLine_84 jX11_number (zX11_number (d := d + 4) h2) ho rfl rfl (Nat.le_of_ble_eq_true rfl) rfl (as := [.int s1, .int s0]) (rest := []) rfl (Nat.le_of_ble_eq_true rfl) (fun _ _ hq => ?_)
  obtain ⟨rfl, rfl⟩ := hq
  exact jm [2, 1, 1, 0] (fun v0 v1 v2 => fX11_unsureLine_87 v0 v1 v2 r.1 r.2) (fun v0 v1 v2 q => tX11_unsureLine_87 v0 v1 v2 r.1 r.2 q) hf
def wX11_unsureLine_80 : List En := [(.aload_n 0, 0, 0, 0), (.iconst 0, 0, 0, 0), (.bipush 99, 0, 0, 0)]
def fX11_unsureLine_80 (v0 : Nat) (v1 : Int32) (v2 : Int32) (h : aH) : Option (aH) :=
  fX11_unsureLine_84 v0 v1 v2 (kB 99) (kI 0) v0 h
theorem tX11_unsureLine_80 {d : Nat} {z : aH} (v0 : Nat) (v1 : Int32) (v2 : Int32) (h : aH) (hf : fX11_unsureLine_80 v0 v1 v2 h = some z) : Ev (d + 8) none mX11_unsureLine (0, 0) 80 [.ref v0, .int v1, .int v2, .null] [] h (QV z) := 
  go_ok (X := none) (blk := wX11_unsureLine_80) (np := 84) (tt := 0) (kN := fun xs h st => app [2, 1, 1, 0] (fun v0 v1 v2 => apS [1, 1, 2] (fun s0 s1 s2 => fX11_unsureLine_84 v0 v1 v2 s0 s1 s2 h) st) xs) (kT := fun _ _ _ => none) (kR := kRV)
    (fun xs h st q => jm [2, 1, 1, 0] _ (fun v0 v1 v2 q => apS_ok [1, 1, 2] _ (fun st => Ev (d + 8) none mX11_unsureLine (0, 0) 84 [.ref v0, .int v1, .int v2, .null] st h (QV z)) st (fun s0 s1 s2 q => tX11_unsureLine_84 v0 v1 v2 s0 s1 s2 h q) q) q)
    (fun _ _ _ q => nos q)
    kRV_ok (Or.inr rfl) (by decide +kernel) (by decide +kernel) hf
theorem kqX11_unsureLine_77 : okC mX11_unsureLine 77 (.invokevirtual 151) 197 214 0 0 = true := by decide +kernel
def fX11_unsureLine_77 (v0 : Nat) (v1 : Int32) (v2 : Int32) (s0 : Nat) (h : aH) : Option (aH) :=
  (isO h 11 s0).bind fun _ =>
  (gX11_pass s0 h).bind fun r =>
  fX11_unsureLine_80 v0 v1 v2 r
theorem tX11_unsureLine_77 {d : Nat} {z : aH} (v0 : Nat) (v1 : Int32) (v2 : Int32) (s0 : Nat) (h : aH) (hf : fX11_unsureLine_77 v0 v1 v2 s0 h = some z) : Ev (d + 8) none mX11_unsureLine (0, 0) 77 [.ref v0, .int v1, .int v2, .null] [.ref s0] h (QV z) := by
  obtain ⟨_, h1, hf⟩ := bnd hf
  obtain ⟨fs, ho⟩ := isO_ok h1
  obtain ⟨r, h2, hf⟩ := bnd hf
  refine ev_V kqX11_unsureLine_77 jX11_pass (zX11_pass (d := d + 5) h2) ho rfl rfl (Nat.le_of_ble_eq_true rfl) rfl (as := []) (rest := []) rfl (Nat.le_of_ble_eq_true rfl) (fun _ _ hq => ?_)
  obtain ⟨rfl, hh⟩ := hq
  rw [hh]
  exact jm [2, 1, 1, 0] (fun v0 v1 v2 => fX11_unsureLine_80 v0 v1 v2 r) (fun v0 v1 v2 q => tX11_unsureLine_80 v0 v1 v2 r q) hf
def wX11_unsureLine_76 : List En := [(.aload_n 0, 0, 0, 0)]
def fX11_unsureLine_76 (v0 : Nat) (v1 : Int32) (v2 : Int32) (h : aH) : Option (aH) :=
  fX11_unsureLine_77 v0 v1 v2 v0 h
theorem tX11_unsureLine_76 {d : Nat} {z : aH} (v0 : Nat) (v1 : Int32) (v2 : Int32) (h : aH) (hf : fX11_unsureLine_76 v0 v1 v2 h = some z) : Ev (d + 8) none mX11_unsureLine (0, 0) 76 [.ref v0, .int v1, .int v2, .null] [] h (QV z) := 
  go_ok (X := none) (blk := wX11_unsureLine_76) (np := 77) (tt := 0) (kN := fun xs h st => app [2, 1, 1, 0] (fun v0 v1 v2 => apS [2] (fun s0 => fX11_unsureLine_77 v0 v1 v2 s0 h) st) xs) (kT := fun _ _ _ => none) (kR := kRV)
    (fun xs h st q => jm [2, 1, 1, 0] _ (fun v0 v1 v2 q => apS_ok [2] _ (fun st => Ev (d + 8) none mX11_unsureLine (0, 0) 77 [.ref v0, .int v1, .int v2, .null] st h (QV z)) st (fun s0 q => tX11_unsureLine_77 v0 v1 v2 s0 h q) q) q)
    (fun _ _ _ q => nos q)
    kRV_ok (Or.inr rfl) (by decide +kernel) (by decide +kernel) hf
def wX11_unsureLine_70 : List En := [(.iinc 3 1, 0, 0, 0), (.goto (-45), 28, 0, 0)]
def fX11_unsureLine_70 (k28 : Nat → Int32 → Int32 → Int32 → aH → Option (aH)) (v0 : Nat) (v1 : Int32) (v2 : Int32) (v3 : Int32) (h : aH) : Option (aH) :=
  k28 v0 v1 v2 (v3 + kI 1) h
theorem tX11_unsureLine_70 {d : Nat} {z : aH} {k28 : Nat → Int32 → Int32 → Int32 → aH → Option (aH)} (hk28 : ∀ (v0 : Nat) (v1 : Int32) (v2 : Int32) (v3 : Int32) (h : aH), k28 v0 v1 v2 v3 h = some z → Ev (d + 8) none mX11_unsureLine (0, 0) 28 [.ref v0, .int v1, .int v2, .int v3] [] h (QV z)) (v0 : Nat) (v1 : Int32) (v2 : Int32) (v3 : Int32) (h : aH) (hf : fX11_unsureLine_70 k28 v0 v1 v2 v3 h = some z) : Ev (d + 8) none mX11_unsureLine (0, 0) 70 [.ref v0, .int v1, .int v2, .int v3] [] h (QV z) := 
  go_ok (X := none) (blk := wX11_unsureLine_70) (np := 76) (tt := 28) (kN := fun _ _ _ => none) (kT := fun xs h st => app [2, 1, 1, 1] (fun v0 v1 v2 v3 => apS [] (k28 v0 v1 v2 v3 h) st) xs) (kR := kRV)
    (fun _ _ _ q => nos q)
    (fun xs h st q => jm [2, 1, 1, 1] _ (fun v0 v1 v2 v3 q => apS_ok [] _ (fun st => Ev (d + 8) none mX11_unsureLine (0, 0) 28 [.ref v0, .int v1, .int v2, .int v3] st h (QV z)) st (fun q => hk28 v0 v1 v2 v3 h q) q) q)
    kRV_ok (Or.inr rfl) (by decide +kernel) (by decide +kernel) hf
theorem kqX11_unsureLine_67 : okC mX11_unsureLine 67 (.invokevirtual 118) 191 208 0 2 = true := by decide +kernel
def fX11_unsureLine_67 (k28 : Nat → Int32 → Int32 → Int32 → aH → Option (aH)) (v0 : Nat) (v1 : Int32) (v2 : Int32) (v3 : Int32) (s0 : Int32) (s1 : Int32) (s2 : Nat) (h : aH) : Option (aH) :=
  (isO h 11 s2).bind fun _ =>
  (gX11_wrong s2 s1 s0 h).bind fun r =>
  fX11_unsureLine_70 k28 v0 v1 v2 v3 r
theorem tX11_unsureLine_67 {d : Nat} {z : aH} {k28 : Nat → Int32 → Int32 → Int32 → aH → Option (aH)} (hk28 : ∀ (v0 : Nat) (v1 : Int32) (v2 : Int32) (v3 : Int32) (h : aH), k28 v0 v1 v2 v3 h = some z → Ev (d + 8) none mX11_unsureLine (0, 0) 28 [.ref v0, .int v1, .int v2, .int v3] [] h (QV z)) (v0 : Nat) (v1 : Int32) (v2 : Int32) (v3 : Int32) (s0 : Int32) (s1 : Int32) (s2 : Nat) (h : aH) (hf : fX11_unsureLine_67 k28 v0 v1 v2 v3 s0 s1 s2 h = some z) : Ev (d + 8) none mX11_unsureLine (0, 0) 67 [.ref v0, .int v1, .int v2, .int v3] [.int s0, .int s1, .ref s2] h (QV z) := by
  obtain ⟨_, h1, hf⟩ := bnd hf
  obtain ⟨fs, ho⟩ := isO_ok h1
  obtain ⟨r, h2, hf⟩ := bnd hf
  refine ev_V kqX11_unsureLine_67 jX11_wrong (zX11_wrong (d := d + 7) h2) ho rfl rfl (Nat.le_of_ble_eq_true rfl) rfl (as := [.int s1, .int s0]) (rest := []) rfl (Nat.le_of_ble_eq_true rfl) (fun _ _ hq => ?_)
  obtain ⟨rfl, hh⟩ := hq
  rw [hh]
  exact jm [2, 1, 1, 1] (fun v0 v1 v2 v3 => fX11_unsureLine_70 k28 v0 v1 v2 v3 r) (fun v0 v1 v2 v3 q => tX11_unsureLine_70 hk28 v0 v1 v2 v3 r q) hf
def wX11_unsureLine_61 : List En := [(.aload_n 0, 0, 0, 0), (.iconst 3, 0, 0, 0), (.aload_n 0, 0, 0, 0), (.getfield 72, 179, 11, 4)]
def fX11_unsureLine_61 (k28 : Nat → Int32 → Int32 → Int32 → aH → Option (aH)) (v0 : Nat) (v1 : Int32) (v2 : Int32) (v3 : Int32) (h : aH) : Option (aH) :=
  (gFI h 11 v0 4).bind fun t1 =>
  fX11_unsureLine_67 k28 v0 v1 v2 v3 t1 (kI 3) v0 h
theorem tX11_unsureLine_61 {d : Nat} {z : aH} {k28 : Nat → Int32 → Int32 → Int32 → aH → Option (aH)} (hk28 : ∀ (v0 : Nat) (v1 : Int32) (v2 : Int32) (v3 : Int32) (h : aH), k28 v0 v1 v2 v3 h = some z → Ev (d + 8) none mX11_unsureLine (0, 0) 28 [.ref v0, .int v1, .int v2, .int v3] [] h (QV z)) (v0 : Nat) (v1 : Int32) (v2 : Int32) (v3 : Int32) (h : aH) (hf : fX11_unsureLine_61 k28 v0 v1 v2 v3 h = some z) : Ev (d + 8) none mX11_unsureLine (0, 0) 61 [.ref v0, .int v1, .int v2, .int v3] [] h (QV z) := 
  go_ok (X := none) (blk := wX11_unsureLine_61) (np := 67) (tt := 0) (kN := fun xs h st => app [2, 1, 1, 1] (fun v0 v1 v2 v3 => apS [1, 1, 2] (fun s0 s1 s2 => fX11_unsureLine_67 k28 v0 v1 v2 v3 s0 s1 s2 h) st) xs) (kT := fun _ _ _ => none) (kR := kRV)
    (fun xs h st q => jm [2, 1, 1, 1] _ (fun v0 v1 v2 v3 q => apS_ok [1, 1, 2] _ (fun st => Ev (d + 8) none mX11_unsureLine (0, 0) 67 [.ref v0, .int v1, .int v2, .int v3] st h (QV z)) st (fun s0 s1 s2 q => tX11_unsureLine_67 hk28 v0 v1 v2 v3 s0 s1 s2 h q) q) q)
    (fun _ _ _ q => nos q)
    kRV_ok (Or.inr rfl) (by decide +kernel) (by decide +kernel) hf
def wX11_unsureLine_46 : List En := [(.aload_n 0, 0, 0, 0), (.getfield 23, 191, 11, 16), (.bipush 51, 0, 0, 0), (.iconst 2, 0, 0, 0), (.iload_n 3, 0, 0, 0), (.imul, 0, 0, 0), (.iadd, 0, 0, 0), (.iaload, 0, 0, 0), (.iload_n 2, 0, 0, 0), (.if_icmp .ne 12, 70, 0, 0)]
def fX11_unsureLine_46 (k28 : Nat → Int32 → Int32 → Int32 → aH → Option (aH)) (v0 : Nat) (v1 : Int32) (v2 : Int32) (v3 : Int32) (h : aH) : Option (aH) :=
  (gFR h 11 v0 16).bind fun t1 =>
  (aRI (h[t1]?) ((kB 51) + ((kI 2) * v3))).bind fun t2 =>
  if t2 = v2 then fX11_unsureLine_61 k28 v0 v1 v2 v3 h else fX11_unsureLine_70 k28 v0 v1 v2 v3 h
theorem tX11_unsureLine_46 {d : Nat} {z : aH} {k28 : Nat → Int32 → Int32 → Int32 → aH → Option (aH)} (hk28 : ∀ (v0 : Nat) (v1 : Int32) (v2 : Int32) (v3 : Int32) (h : aH), k28 v0 v1 v2 v3 h = some z → Ev (d + 8) none mX11_unsureLine (0, 0) 28 [.ref v0, .int v1, .int v2, .int v3] [] h (QV z)) (v0 : Nat) (v1 : Int32) (v2 : Int32) (v3 : Int32) (h : aH) (hf : fX11_unsureLine_46 k28 v0 v1 v2 v3 h = some z) : Ev (d + 8) none mX11_unsureLine (0, 0) 46 [.ref v0, .int v1, .int v2, .int v3] [] h (QV z) := 
  go_ok (X := none) (blk := wX11_unsureLine_46) (np := 61) (tt := 70) (kN := fun xs h st => app [2, 1, 1, 1] (fun v0 v1 v2 v3 => apS [] (fX11_unsureLine_61 k28 v0 v1 v2 v3 h) st) xs) (kT := fun xs h st => app [2, 1, 1, 1] (fun v0 v1 v2 v3 => apS [] (fX11_unsureLine_70 k28 v0 v1 v2 v3 h) st) xs) (kR := kRV)
    (fun xs h st q => jm [2, 1, 1, 1] _ (fun v0 v1 v2 v3 q => apS_ok [] _ (fun st => Ev (d + 8) none mX11_unsureLine (0, 0) 61 [.ref v0, .int v1, .int v2, .int v3] st h (QV z)) st (fun q => tX11_unsureLine_61 hk28 v0 v1 v2 v3 h q) q) q)
    (fun xs h st q => jm [2, 1, 1, 1] _ (fun v0 v1 v2 v3 q => apS_ok [] _ (fun st => Ev (d + 8) none mX11_unsureLine (0, 0) 70 [.ref v0, .int v1, .int v2, .int v3] st h (QV z)) st (fun q => tX11_unsureLine_70 hk28 v0 v1 v2 v3 h q) q) q)
    kRV_ok (Or.inr rfl) (by decide +kernel) (by decide +kernel) hf
def wX11_unsureLine_39 : List En := [(.aload_n 0, 0, 0, 0), (.getfield 91, 188, 11, 13), (.ifCond .ne 27, 70, 0, 0)]
def fX11_unsureLine_39 (k28 : Nat → Int32 → Int32 → Int32 → aH → Option (aH)) (v0 : Nat) (v1 : Int32) (v2 : Int32) (v3 : Int32) (h : aH) : Option (aH) :=
  (gFI h 11 v0 13).bind fun t1 =>
  if t1 = 0 then fX11_unsureLine_46 k28 v0 v1 v2 v3 h else fX11_unsureLine_70 k28 v0 v1 v2 v3 h
theorem tX11_unsureLine_39 {d : Nat} {z : aH} {k28 : Nat → Int32 → Int32 → Int32 → aH → Option (aH)} (hk28 : ∀ (v0 : Nat) (v1 : Int32) (v2 : Int32) (v3 : Int32) (h : aH), k28 v0 v1 v2 v3 h = some z → Ev (d + 8) none mX11_unsureLine (0, 0) 28 [.ref v0, .int v1, .int v2, .int v3] [] h (QV z)) (v0 : Nat) (v1 : Int32) (v2 : Int32) (v3 : Int32) (h : aH) (hf : fX11_unsureLine_39 k28 v0 v1 v2 v3 h = some z) : Ev (d + 8) none mX11_unsureLine (0, 0) 39 [.ref v0, .int v1, .int v2, .int v3] [] h (QV z) := 
  go_ok (X := none) (blk := wX11_unsureLine_39) (np := 46) (tt := 70) (kN := fun xs h st => app [2, 1, 1, 1] (fun v0 v1 v2 v3 => apS [] (fX11_unsureLine_46 k28 v0 v1 v2 v3 h) st) xs) (kT := fun xs h st => app [2, 1, 1, 1] (fun v0 v1 v2 v3 => apS [] (fX11_unsureLine_70 k28 v0 v1 v2 v3 h) st) xs) (kR := kRV)
    (fun xs h st q => jm [2, 1, 1, 1] _ (fun v0 v1 v2 v3 q => apS_ok [] _ (fun st => Ev (d + 8) none mX11_unsureLine (0, 0) 46 [.ref v0, .int v1, .int v2, .int v3] st h (QV z)) st (fun q => tX11_unsureLine_46 hk28 v0 v1 v2 v3 h q) q) q)
    (fun xs h st q => jm [2, 1, 1, 1] _ (fun v0 v1 v2 v3 q => apS_ok [] _ (fun st => Ev (d + 8) none mX11_unsureLine (0, 0) 70 [.ref v0, .int v1, .int v2, .int v3] st h (QV z)) st (fun q => tX11_unsureLine_70 hk28 v0 v1 v2 v3 h q) q) q)
    kRV_ok (Or.inr rfl) (by decide +kernel) (by decide +kernel) hf
def wX11_unsureLine_28 : List En := [(.iload_n 3, 0, 0, 0), (.aload_n 0, 0, 0, 0), (.getfield 23, 191, 11, 16), (.bipush 6, 0, 0, 0), (.iaload, 0, 0, 0), (.if_icmp .ge 40, 76, 0, 0)]
def fX11_unsureLine_28 (k28 : Nat → Int32 → Int32 → Int32 → aH → Option (aH)) (v0 : Nat) (v1 : Int32) (v2 : Int32) (v3 : Int32) (h : aH) : Option (aH) :=
  (gFR h 11 v0 16).bind fun t1 =>
  (aRI (h[t1]?) (kB 6)).bind fun t2 =>
  if v3 < t2 then fX11_unsureLine_39 k28 v0 v1 v2 v3 h else fX11_unsureLine_76 v0 v1 v2 h
theorem tX11_unsureLine_28 {d : Nat} {z : aH} {k28 : Nat → Int32 → Int32 → Int32 → aH → Option (aH)} (hk28 : ∀ (v0 : Nat) (v1 : Int32) (v2 : Int32) (v3 : Int32) (h : aH), k28 v0 v1 v2 v3 h = some z → Ev (d + 8) none mX11_unsureLine (0, 0) 28 [.ref v0, .int v1, .int v2, .int v3] [] h (QV z)) (v0 : Nat) (v1 : Int32) (v2 : Int32) (v3 : Int32) (h : aH) (hf : fX11_unsureLine_28 k28 v0 v1 v2 v3 h = some z) : Ev (d + 8) none mX11_unsureLine (0, 0) 28 [.ref v0, .int v1, .int v2, .int v3] [] h (QV z) := 
  go_ok (X := none) (blk := wX11_unsureLine_28) (np := 39) (tt := 76) (kN := fun xs h st => app [2, 1, 1, 1] (fun v0 v1 v2 v3 => apS [] (fX11_unsureLine_39 k28 v0 v1 v2 v3 h) st) xs) (kT := fun xs h st => app [2, 1, 1, 0] (fun v0 v1 v2 => apS [] (fX11_unsureLine_76 v0 v1 v2 h) st) xs) (kR := kRV)
    (fun xs h st q => jm [2, 1, 1, 1] _ (fun v0 v1 v2 v3 q => apS_ok [] _ (fun st => Ev (d + 8) none mX11_unsureLine (0, 0) 39 [.ref v0, .int v1, .int v2, .int v3] st h (QV z)) st (fun q => tX11_unsureLine_39 hk28 v0 v1 v2 v3 h q) q) q)
    (fun xs h st q => jm [2, 1, 1, 0] _ (fun v0 v1 v2 q => apS_ok [] _ (fun st => Ev (d + 8) none mX11_unsureLine (0, 0) 76 [.ref v0, .int v1, .int v2, .null] st h (QV z)) st (fun q => tX11_unsureLine_76 v0 v1 v2 h q) q) q)
    kRV_ok (Or.inr rfl) (by decide +kernel) (by decide +kernel) hf
def lX11_unsureLine_28 : Nat → Nat → Int32 → Int32 → Int32 → aH → Option (aH)
  | 0, _, _, _, _, _ => none
  | n + 1, v0, v1, v2, v3, h => fX11_unsureLine_28 (lX11_unsureLine_28 n) v0 v1 v2 v3 h
theorem uX11_unsureLine_28 {d : Nat} {z : aH} : ∀ (n : Nat) (v0 : Nat) (v1 : Int32) (v2 : Int32) (v3 : Int32) (h : aH), lX11_unsureLine_28 n v0 v1 v2 v3 h = some z → Ev (d + 8) none mX11_unsureLine (0, 0) 28 [.ref v0, .int v1, .int v2, .int v3] [] h (QV z) := by
  intro n
  induction n with
  | zero => intro _ _ _ _ _ q; exact nos (show (none : Option (aH)) = some z from q)
  | succ n ih => intro v0 v1 v2 v3 h q; exact tX11_unsureLine_28 ih v0 v1 v2 v3 h q
def wX11_unsureLine_25 : List En := [(.istore_n 2, 0, 0, 0), (.iconst 0, 0, 0, 0), (.istore_n 3, 0, 0, 0)]
def fX11_unsureLine_25 (v0 : Nat) (v1 : Int32) (s0 : Int32) (h : aH) : Option (aH) :=
  lX11_unsureLine_28 FU v0 v1 s0 (kI 0) h
theorem tX11_unsureLine_25 {d : Nat} {z : aH} (v0 : Nat) (v1 : Int32) (s0 : Int32) (h : aH) (hf : fX11_unsureLine_25 v0 v1 s0 h = some z) : Ev (d + 8) none mX11_unsureLine (0, 0) 25 [.ref v0, .int v1, .null, .null] [.int s0] h (QV z) := 
  go_ok (X := none) (blk := wX11_unsureLine_25) (np := 28) (tt := 0) (kN := fun xs h st => app [2, 1, 1, 1] (fun v0 v1 v2 v3 => apS [] (lX11_unsureLine_28 FU v0 v1 v2 v3 h) st) xs) (kT := fun _ _ _ => none) (kR := kRV)
    (fun xs h st q => jm [2, 1, 1, 1] _ (fun v0 v1 v2 v3 q => apS_ok [] _ (fun st => Ev (d + 8) none mX11_unsureLine (0, 0) 28 [.ref v0, .int v1, .int v2, .int v3] st h (QV z)) st (fun q => uX11_unsureLine_28 FU v0 v1 v2 v3 h q) q) q)
    (fun _ _ _ q => nos q)
    kRV_ok (Or.inr rfl) (by decide +kernel) (by decide +kernel) hf
theorem kqX11_unsureLine_22 : okC mX11_unsureLine 22 (.invokevirtual 233) 205 222 0 0 = true := by decide +kernel
def fX11_unsureLine_22 (v0 : Nat) (v1 : Int32) (s0 : Nat) (h : aH) : Option (aH) :=
  (isO h 11 s0).bind fun _ =>
  (gX11_personHere s0 h).bind fun r =>
  fX11_unsureLine_25 v0 v1 r.1 r.2
theorem tX11_unsureLine_22 {d : Nat} {z : aH} (v0 : Nat) (v1 : Int32) (s0 : Nat) (h : aH) (hf : fX11_unsureLine_22 v0 v1 s0 h = some z) : Ev (d + 8) none mX11_unsureLine (0, 0) 22 [.ref v0, .int v1, .null, .null] [.ref s0] h (QV z) := by
  obtain ⟨_, h1, hf⟩ := bnd hf
  obtain ⟨fs, ho⟩ := isO_ok h1
  obtain ⟨r, h2, hf⟩ := bnd hf
  refine ev_V kqX11_unsureLine_22 jX11_personHere (zX11_personHere (d := d + 0) h2) ho rfl rfl (Nat.le_of_ble_eq_true rfl) rfl (as := []) (rest := []) rfl (Nat.le_of_ble_eq_true rfl) (fun _ _ hq => ?_)
  obtain ⟨rfl, rfl⟩ := hq
  exact jm [2, 1, 0, 0] (fun v0 v1 => fX11_unsureLine_25 v0 v1 r.1 r.2) (fun v0 v1 q => tX11_unsureLine_25 v0 v1 r.1 r.2 q) hf
def wX11_unsureLine_8 : List En := [(.bipush 51, 0, 0, 0), (.iconst 2, 0, 0, 0), (.aload_n 0, 0, 0, 0), (.getfield 23, 191, 11, 16), (.bipush 6, 0, 0, 0), (.iaload, 0, 0, 0), (.imul, 0, 0, 0), (.iadd, 0, 0, 0), (.istore_n 1, 0, 0, 0), (.aload_n 0, 0, 0, 0)]
def fX11_unsureLine_8 (v0 : Nat) (h : aH) : Option (aH) :=
  (gFR h 11 v0 16).bind fun t1 =>
  (aRI (h[t1]?) (kB 6)).bind fun t2 =>
  fX11_unsureLine_22 v0 ((kB 51) + ((kI 2) * t2)) v0 h
theorem tX11_unsureLine_8 {d : Nat} {z : aH} (v0 : Nat) (h : aH) (hf : fX11_unsureLine_8 v0 h = some z) : Ev (d + 8) none mX11_unsureLine (0, 0) 8 [.ref v0, .null, .null, .null] [] h (QV z) := 
  go_ok (X := none) (blk := wX11_unsureLine_8) (np := 22) (tt := 0) (kN := fun xs h st => app [2, 1, 0, 0] (fun v0 v1 => apS [2] (fun s0 => fX11_unsureLine_22 v0 v1 s0 h) st) xs) (kT := fun _ _ _ => none) (kR := kRV)
    (fun xs h st q => jm [2, 1, 0, 0] _ (fun v0 v1 q => apS_ok [2] _ (fun st => Ev (d + 8) none mX11_unsureLine (0, 0) 22 [.ref v0, .int v1, .null, .null] st h (QV z)) st (fun s0 q => tX11_unsureLine_22 v0 v1 s0 h q) q) q)
    (fun _ _ _ q => nos q)
    kRV_ok (Or.inr rfl) (by decide +kernel) (by decide +kernel) hf
def wX11_unsureLine_7 : List En := [(.return_, 0, 0, 0)]
def fX11_unsureLine_7 (h : aH) : Option (aH) :=
  some h
theorem tX11_unsureLine_7 {d : Nat} {z : aH} (h : aH) (hf : fX11_unsureLine_7 h = some z) : Ev (d + 8) none mX11_unsureLine (0, 0) 7 [.null, .null, .null, .null] [] h (QV z) := 
  go_ok (X := none) (blk := wX11_unsureLine_7) (np := 8) (tt := 0) (kN := fun _ _ _ => none) (kT := fun _ _ _ => none) (kR := kRV)
    (fun _ _ _ q => nos q)
    (fun _ _ _ q => nos q)
    kRV_ok (Or.inr rfl) (by decide +kernel) (by decide +kernel) hf
def wX11_unsureLine_0 : List En := [(.aload_n 0, 0, 0, 0), (.getfield 91, 188, 11, 13), (.ifCond .eq 4, 8, 0, 0)]
def fX11_unsureLine_0 (v0 : Nat) (h : aH) : Option (aH) :=
  (gFI h 11 v0 13).bind fun t1 =>
  if t1 = 0 then fX11_unsureLine_8 v0 h else fX11_unsureLine_7 h
theorem tX11_unsureLine_0 {d : Nat} {z : aH} (v0 : Nat) (h : aH) (hf : fX11_unsureLine_0 v0 h = some z) : Ev (d + 8) none mX11_unsureLine (0, 0) 0 [.ref v0, .null, .null, .null] [] h (QV z) := 
  go_ok (X := none) (blk := wX11_unsureLine_0) (np := 7) (tt := 8) (kN := fun xs h st => app [0, 0, 0, 0] (apS [] (fX11_unsureLine_7 h) st) xs) (kT := fun xs h st => app [2, 0, 0, 0] (fun v0 => apS [] (fX11_unsureLine_8 v0 h) st) xs) (kR := kRV)
    (fun xs h st q => jm [0, 0, 0, 0] _ (fun q => apS_ok [] _ (fun st => Ev (d + 8) none mX11_unsureLine (0, 0) 7 [.null, .null, .null, .null] st h (QV z)) st (fun q => tX11_unsureLine_7 h q) q) q)
    (fun xs h st q => jm [2, 0, 0, 0] _ (fun v0 q => apS_ok [] _ (fun st => Ev (d + 8) none mX11_unsureLine (0, 0) 8 [.ref v0, .null, .null, .null] st h (QV z)) st (fun q => tX11_unsureLine_8 v0 h q) q) q)
    kRV_ok (Or.inr rfl) (by decide +kernel) (by decide +kernel) hf
def gX11_unsureLine (v0 : Nat) (h : aH) : Option (aH) := fX11_unsureLine_0 v0 h
theorem zX11_unsureLine {d : Nat} {z : aH} {v0 : Nat} {h : aH} (q : gX11_unsureLine v0 h = some z) : CT (d + 8) mX11_unsureLine (0, 0) [.ref v0] h (QV z) :=
  ct_ev (by decide +kernel) (Nat.le_of_ble_eq_true rfl) QV_r (jm [2, 0, 0, 0] (fun v0 => fX11_unsureLine_0 v0 h) (fun v0 q => tX11_unsureLine_0 v0 h q) q)
def wX11_readLine_185 : List En := [(.return_, 0, 0, 0)]
def fX11_readLine_185 (h : aH) : Option (aH) :=
  some h
theorem tX11_readLine_185 {d : Nat} {z : aH} (h : aH) (hf : fX11_readLine_185 h = some z) : Ev (d + 9) none mX11_readLine (0, 0) 185 [.null] [] h (QV z) := 
  go_ok (X := none) (blk := wX11_readLine_185) (np := 186) (tt := 0) (kN := fun _ _ _ => none) (kT := fun _ _ _ => none) (kR := kRV)
    (fun _ _ _ q => nos q)
    (fun _ _ _ q => nos q)
    kRV_ok (Or.inr rfl) (by decide +kernel) (by decide +kernel) hf
theorem kqX11_readLine_182 : okC mX11_readLine 182 (.invokevirtual 118) 191 208 0 2 = true := by decide +kernel
def fX11_readLine_182 (s0 : Int32) (s1 : Int32) (s2 : Nat) (h : aH) : Option (aH) :=
  (isO h 11 s2).bind fun _ =>
  (gX11_wrong s2 s1 s0 h).bind fun r =>
  fX11_readLine_185 r
theorem tX11_readLine_182 {d : Nat} {z : aH} (s0 : Int32) (s1 : Int32) (s2 : Nat) (h : aH) (hf : fX11_readLine_182 s0 s1 s2 h = some z) : Ev (d + 9) none mX11_readLine (0, 0) 182 [.null] [.int s0, .int s1, .ref s2] h (QV z) := by
  obtain ⟨_, h1, hf⟩ := bnd hf
  obtain ⟨fs, ho⟩ := isO_ok h1
  obtain ⟨r, h2, hf⟩ := bnd hf
  refine ev_V kqX11_readLine_182 jX11_wrong (zX11_wrong (d := d + 8) h2) ho rfl rfl (Nat.le_of_ble_eq_true rfl) rfl (as := [.int s1, .int s0]) (rest := []) rfl (Nat.le_of_ble_eq_true rfl) (fun _ _ hq => ?_)
  obtain ⟨rfl, hh⟩ := hq
  rw [hh]
  exact jm [0] (fX11_readLine_185 r) (fun q => tX11_readLine_185 r q) hf
def wX11_readLine_176 : List En := [(.aload_n 0, 0, 0, 0), (.iconst 1, 0, 0, 0), (.aload_n 0, 0, 0, 0), (.getfield 72, 179, 11, 4)]
def fX11_readLine_176 (v0 : Nat) (h : aH) : Option (aH) :=
  (gFI h 11 v0 4).bind fun t1 =>
  fX11_readLine_182 t1 (kI 1) v0 h
theorem tX11_readLine_176 {d : Nat} {z : aH} (v0 : Nat) (h : aH) (hf : fX11_readLine_176 v0 h = some z) : Ev (d + 9) none mX11_readLine (0, 0) 176 [.ref v0] [] h (QV z) := 
  go_ok (X := none) (blk := wX11_readLine_176) (np := 182) (tt := 0) (kN := fun xs h st => app [0] (apS [1, 1, 2] (fun s0 s1 s2 => fX11_readLine_182 s0 s1 s2 h) st) xs) (kT := fun _ _ _ => none) (kR := kRV)
    (fun xs h st q => jm [0] _ (fun q => apS_ok [1, 1, 2] _ (fun st => Ev (d + 9) none mX11_readLine (0, 0) 182 [.null] st h (QV z)) st (fun s0 s1 s2 q => tX11_readLine_182 s0 s1 s2 h q) q) q)
    (fun _ _ _ q => nos q)
    kRV_ok (Or.inr rfl) (by decide +kernel) (by decide +kernel) hf
def wX11_readLine_173 : List En := [(.goto 12, 185, 0, 0)]
def fX11_readLine_173 (h : aH) : Option (aH) :=
  fX11_readLine_185 h
theorem tX11_readLine_173 {d : Nat} {z : aH} (h : aH) (hf : fX11_readLine_173 h = some z) : Ev (d + 9) none mX11_readLine (0, 0) 173 [.null] [] h (QV z) := 
  go_ok (X := none) (blk := wX11_readLine_173) (np := 176) (tt := 185) (kN := fun _ _ _ => none) (kT := fun xs h st => app [0] (apS [] (fX11_readLine_185 h) st) xs) (kR := kRV)
    (fun _ _ _ q => nos q)
    (fun xs h st q => jm [0] _ (fun q => apS_ok [] _ (fun st => Ev (d + 9) none mX11_readLine (0, 0) 185 [.null] st h (QV z)) st (fun q => tX11_readLine_185 h q) q) q)
    kRV_ok (Or.inr rfl) (by decide +kernel) (by decide +kernel) hf
theorem kqX11_readLine_170 : okC mX11_readLine 170 (.invokevirtual 202) 208 225 0 0 = true := by decide +kernel
def fX11_readLine_170 (s0 : Nat) (h : aH) : Option (aH) :=
  (isO h 11 s0).bind fun _ =>
  (gX11_heardLine s0 h).bind fun r =>
  fX11_readLine_173 r
theorem tX11_readLine_170 {d : Nat} {z : aH} (s0 : Nat) (h : aH) (hf : fX11_readLine_170 s0 h = some z) : Ev (d + 9) none mX11_readLine (0, 0) 170 [.null] [.ref s0] h (QV z) := by
  obtain ⟨_, h1, hf⟩ := bnd hf
  obtain ⟨fs, ho⟩ := isO_ok h1
  obtain ⟨r, h2, hf⟩ := bnd hf
  refine ev_V kqX11_readLine_170 jX11_heardLine (zX11_heardLine (d := d + 0) h2) ho rfl rfl (Nat.le_of_ble_eq_true rfl) rfl (as := []) (rest := []) rfl (Nat.le_of_ble_eq_true rfl) (fun _ _ hq => ?_)
  obtain ⟨rfl, hh⟩ := hq
  rw [hh]
  exact jm [0] (fX11_readLine_173 r) (fun q => tX11_readLine_173 r q) hf
def wX11_readLine_169 : List En := [(.aload_n 0, 0, 0, 0)]
def fX11_readLine_169 (v0 : Nat) (h : aH) : Option (aH) :=
  fX11_readLine_170 v0 h
theorem tX11_readLine_169 {d : Nat} {z : aH} (v0 : Nat) (h : aH) (hf : fX11_readLine_169 v0 h = some z) : Ev (d + 9) none mX11_readLine (0, 0) 169 [.ref v0] [] h (QV z) := 
  go_ok (X := none) (blk := wX11_readLine_169) (np := 170) (tt := 0) (kN := fun xs h st => app [0] (apS [2] (fun s0 => fX11_readLine_170 s0 h) st) xs) (kT := fun _ _ _ => none) (kR := kRV)
    (fun xs h st q => jm [0] _ (fun q => apS_ok [2] _ (fun st => Ev (d + 9) none mX11_readLine (0, 0) 170 [.null] st h (QV z)) st (fun s0 q => tX11_readLine_170 s0 h q) q) q)
    (fun _ _ _ q => nos q)
    kRV_ok (Or.inr rfl) (by decide +kernel) (by decide +kernel) hf
def wX11_readLine_166 : List En := [(.ifCond .eq 10, 176, 0, 0)]
def fX11_readLine_166 (v0 : Nat) (s0 : Int32) (h : aH) : Option (aH) :=
  if s0 = 0 then fX11_readLine_176 v0 h else fX11_readLine_169 v0 h
theorem tX11_readLine_166 {d : Nat} {z : aH} (v0 : Nat) (s0 : Int32) (h : aH) (hf : fX11_readLine_166 v0 s0 h = some z) : Ev (d + 9) none mX11_readLine (0, 0) 166 [.ref v0] [.int s0] h (QV z) := 
  go_ok (X := none) (blk := wX11_readLine_166) (np := 169) (tt := 176) (kN := fun xs h st => app [2] (fun v0 => apS [] (fX11_readLine_169 v0 h) st) xs) (kT := fun xs h st => app [2] (fun v0 => apS [] (fX11_readLine_176 v0 h) st) xs) (kR := kRV)
    (fun xs h st q => jm [2] _ (fun v0 q => apS_ok [] _ (fun st => Ev (d + 9) none mX11_readLine (0, 0) 169 [.ref v0] st h (QV z)) st (fun q => tX11_readLine_169 v0 h q) q) q)
    (fun xs h st q => jm [2] _ (fun v0 q => apS_ok [] _ (fun st => Ev (d + 9) none mX11_readLine (0, 0) 176 [.ref v0] st h (QV z)) st (fun q => tX11_readLine_176 v0 h q) q) q)
    kRV_ok (Or.inr rfl) (by decide +kernel) (by decide +kernel) hf
theorem kqX11_readLine_163 : okC mX11_readLine 163 (.invokevirtual 186) 198 215 0 2 = true := by decide +kernel
def fX11_readLine_163 (v0 : Nat) (s0 : Int32) (s1 : Nat) (s2 : Nat) (h : aH) : Option (aH) :=
  (isO h 11 s2).bind fun _ =>
  (gX11_begins s2 s1 s0 h).bind fun r =>
  fX11_readLine_166 v0 r.1 r.2
theorem tX11_readLine_163 {d : Nat} {z : aH} (v0 : Nat) (s0 : Int32) (s1 : Nat) (s2 : Nat) (h : aH) (hf : fX11_readLine_163 v0 s0 s1 s2 h = some z) : Ev (d + 9) none mX11_readLine (0, 0) 163 [.ref v0] [.int s0, .ref s1, .ref s2] h (QV z) := by
  obtain ⟨_, h1, hf⟩ := bnd hf
  obtain ⟨fs, ho⟩ := isO_ok h1
  obtain ⟨r, h2, hf⟩ := bnd hf
  refine ev_V kqX11_readLine_163 jX11_begins (zX11_begins (d := d + 3) h2) ho rfl rfl (Nat.le_of_ble_eq_true rfl) rfl (as := [.ref s1, .int s0]) (rest := []) rfl (Nat.le_of_ble_eq_true rfl) (fun _ _ hq => ?_)
  obtain ⟨-, rfl, rfl⟩ := hq
  exact jm [2] (fun v0 => fX11_readLine_166 v0 r.1 r.2) (fun v0 q => tX11_readLine_166 v0 r.1 r.2 q) hf
def wX11_readLine_162 : List En := [(.iconst 0, 0, 0, 0)]
def fX11_readLine_162 (v0 : Nat) (s0 : Nat) (s1 : Nat) (h : aH) : Option (aH) :=
  fX11_readLine_163 v0 (kI 0) s0 s1 h
theorem tX11_readLine_162 {d : Nat} {z : aH} (v0 : Nat) (s0 : Nat) (s1 : Nat) (h : aH) (hf : fX11_readLine_162 v0 s0 s1 h = some z) : Ev (d + 9) none mX11_readLine (0, 0) 162 [.ref v0] [.ref s0, .ref s1] h (QV z) := 
  go_ok (X := none) (blk := wX11_readLine_162) (np := 163) (tt := 0) (kN := fun xs h st => app [2] (fun v0 => apS [1, 2, 2] (fun s0 s1 s2 => fX11_readLine_163 v0 s0 s1 s2 h) st) xs) (kT := fun _ _ _ => none) (kR := kRV)
    (fun xs h st q => jm [2] _ (fun v0 q => apS_ok [1, 2, 2] _ (fun st => Ev (d + 9) none mX11_readLine (0, 0) 163 [.ref v0] st h (QV z)) st (fun s0 s1 s2 q => tX11_readLine_163 v0 s0 s1 s2 h q) q) q)
    (fun _ _ _ q => nos q)
    kRV_ok (Or.inr rfl) (by decide +kernel) (by decide +kernel) hf
def wX11_readLine_158 : List En := [(.iconst 1, 0, 0, 0), (.goto 4, 163, 0, 0)]
def fX11_readLine_158 (v0 : Nat) (s0 : Nat) (s1 : Nat) (h : aH) : Option (aH) :=
  fX11_readLine_163 v0 (kI 1) s0 s1 h
theorem tX11_readLine_158 {d : Nat} {z : aH} (v0 : Nat) (s0 : Nat) (s1 : Nat) (h : aH) (hf : fX11_readLine_158 v0 s0 s1 h = some z) : Ev (d + 9) none mX11_readLine (0, 0) 158 [.ref v0] [.ref s0, .ref s1] h (QV z) := 
  go_ok (X := none) (blk := wX11_readLine_158) (np := 162) (tt := 163) (kN := fun _ _ _ => none) (kT := fun xs h st => app [2] (fun v0 => apS [1, 2, 2] (fun s0 s1 s2 => fX11_readLine_163 v0 s0 s1 s2 h) st) xs) (kR := kRV)
    (fun _ _ _ q => nos q)
    (fun xs h st q => jm [2] _ (fun v0 q => apS_ok [1, 2, 2] _ (fun st => Ev (d + 9) none mX11_readLine (0, 0) 163 [.ref v0] st h (QV z)) st (fun s0 s1 s2 q => tX11_readLine_163 v0 s0 s1 s2 h q) q) q)
    kRV_ok (Or.inr rfl) (by decide +kernel) (by decide +kernel) hf
def wX11_readLine_146 : List En := [(.aload_n 0, 0, 0, 0), (.getfield 23, 191, 11, 16), (.bipush 7, 0, 0, 0), (.iaload, 0, 0, 0), (.bipush 6, 0, 0, 0), (.if_icmp .ge 7, 162, 0, 0)]
def fX11_readLine_146 (v0 : Nat) (s0 : Nat) (s1 : Nat) (h : aH) : Option (aH) :=
  (gFR h 11 v0 16).bind fun t1 =>
  (aRI (h[t1]?) (kB 7)).bind fun t2 =>
  if t2 < (kB 6) then fX11_readLine_158 v0 s0 s1 h else fX11_readLine_162 v0 s0 s1 h
theorem tX11_readLine_146 {d : Nat} {z : aH} (v0 : Nat) (s0 : Nat) (s1 : Nat) (h : aH) (hf : fX11_readLine_146 v0 s0 s1 h = some z) : Ev (d + 9) none mX11_readLine (0, 0) 146 [.ref v0] [.ref s0, .ref s1] h (QV z) := 
  go_ok (X := none) (blk := wX11_readLine_146) (np := 158) (tt := 162) (kN := fun xs h st => app [2] (fun v0 => apS [2, 2] (fun s0 s1 => fX11_readLine_158 v0 s0 s1 h) st) xs) (kT := fun xs h st => app [2] (fun v0 => apS [2, 2] (fun s0 s1 => fX11_readLine_162 v0 s0 s1 h) st) xs) (kR := kRV)
    (fun xs h st q => jm [2] _ (fun v0 q => apS_ok [2, 2] _ (fun st => Ev (d + 9) none mX11_readLine (0, 0) 158 [.ref v0] st h (QV z)) st (fun s0 s1 q => tX11_readLine_158 v0 s0 s1 h q) q) q)
    (fun xs h st q => jm [2] _ (fun v0 q => apS_ok [2, 2] _ (fun st => Ev (d + 9) none mX11_readLine (0, 0) 162 [.ref v0] st h (QV z)) st (fun s0 s1 q => tX11_readLine_162 v0 s0 s1 h q) q) q)
    kRV_ok (Or.inr rfl) (by decide +kernel) (by decide +kernel) hf
theorem kqX11_readLine_144 : ckS mX11_readLine 144 132 25 = true := by decide +kernel -- heard
def fX11_readLine_144 (v0 : Nat) (s0 : Nat) (h : aH) : Option (aH) :=
  fX11_readLine_146 v0 (SB + 25) s0 h
theorem tX11_readLine_144 {d : Nat} {z : aH} (v0 : Nat) (s0 : Nat) (h : aH) (hf : fX11_readLine_144 v0 s0 h = some z) : Ev (d + 9) none mX11_readLine (0, 0) 144 [.ref v0] [.ref s0] h (QV z) := 
  ev_ldcS kqX11_readLine_144 rfl (jm [2] (fun v0 => fX11_readLine_146 v0 (SB + 25) s0 h) (fun v0 q => tX11_readLine_146 v0 (SB + 25) s0 h q) hf)
def wX11_readLine_143 : List En := [(.aload_n 0, 0, 0, 0)]
def fX11_readLine_143 (v0 : Nat) (h : aH) : Option (aH) :=
  fX11_readLine_144 v0 v0 h
theorem tX11_readLine_143 {d : Nat} {z : aH} (v0 : Nat) (h : aH) (hf : fX11_readLine_143 v0 h = some z) : Ev (d + 9) none mX11_readLine (0, 0) 143 [.ref v0] [] h (QV z) := 
  go_ok (X := none) (blk := wX11_readLine_143) (np := 144) (tt := 0) (kN := fun xs h st => app [2] (fun v0 => apS [2] (fun s0 => fX11_readLine_144 v0 s0 h) st) xs) (kT := fun _ _ _ => none) (kR := kRV)
    (fun xs h st q => jm [2] _ (fun v0 q => apS_ok [2] _ (fun st => Ev (d + 9) none mX11_readLine (0, 0) 144 [.ref v0] st h (QV z)) st (fun s0 q => tX11_readLine_144 v0 s0 h q) q) q)
    (fun _ _ _ q => nos q)
    kRV_ok (Or.inr rfl) (by decide +kernel) (by decide +kernel) hf
def wX11_readLine_140 : List En := [(.goto 45, 185, 0, 0)]
def fX11_readLine_140 (h : aH) : Option (aH) :=
  fX11_readLine_185 h
theorem tX11_readLine_140 {d : Nat} {z : aH} (h : aH) (hf : fX11_readLine_140 h = some z) : Ev (d + 9) none mX11_readLine (0, 0) 140 [.null] [] h (QV z) := 
  go_ok (X := none) (blk := wX11_readLine_140) (np := 143) (tt := 185) (kN := fun _ _ _ => none) (kT := fun xs h st => app [0] (apS [] (fX11_readLine_185 h) st) xs) (kR := kRV)
    (fun _ _ _ q => nos q)
    (fun xs h st q => jm [0] _ (fun q => apS_ok [] _ (fun st => Ev (d + 9) none mX11_readLine (0, 0) 185 [.null] st h (QV z)) st (fun q => tX11_readLine_185 h q) q) q)
    kRV_ok (Or.inr rfl) (by decide +kernel) (by decide +kernel) hf
theorem kqX11_readLine_137 : okC mX11_readLine 137 (.invokevirtual 199) 207 224 0 0 = true := by decide +kernel
def fX11_readLine_137 (s0 : Nat) (h : aH) : Option (aH) :=
  (isO h 11 s0).bind fun _ =>
  (gX11_unsureLine s0 h).bind fun r =>
  fX11_readLine_140 r
theorem tX11_readLine_137 {d : Nat} {z : aH} (s0 : Nat) (h : aH) (hf : fX11_readLine_137 s0 h = some z) : Ev (d + 9) none mX11_readLine (0, 0) 137 [.null] [.ref s0] h (QV z) := by
  obtain ⟨_, h1, hf⟩ := bnd hf
  obtain ⟨fs, ho⟩ := isO_ok h1
  obtain ⟨r, h2, hf⟩ := bnd hf
  refine ev_V kqX11_readLine_137 jX11_unsureLine (zX11_unsureLine (d := d + 0) h2) ho rfl rfl (Nat.le_of_ble_eq_true rfl) rfl (as := []) (rest := []) rfl (Nat.le_of_ble_eq_true rfl) (fun _ _ hq => ?_)
  obtain ⟨rfl, hh⟩ := hq
  rw [hh]
  exact jm [0] (fX11_readLine_140 r) (fun q => tX11_readLine_140 r q) hf
def wX11_readLine_136 : List En := [(.aload_n 0, 0, 0, 0)]
def fX11_readLine_136 (v0 : Nat) (h : aH) : Option (aH) :=
  fX11_readLine_137 v0 h
theorem tX11_readLine_136 {d : Nat} {z : aH} (v0 : Nat) (h : aH) (hf : fX11_readLine_136 v0 h = some z) : Ev (d + 9) none mX11_readLine (0, 0) 136 [.ref v0] [] h (QV z) := 
  go_ok (X := none) (blk := wX11_readLine_136) (np := 137) (tt := 0) (kN := fun xs h st => app [0] (apS [2] (fun s0 => fX11_readLine_137 s0 h) st) xs) (kT := fun _ _ _ => none) (kR := kRV)
    (fun xs h st q => jm [0] _ (fun q => apS_ok [2] _ (fun st => Ev (d + 9) none mX11_readLine (0, 0) 137 [.null] st h (QV z)) st (fun s0 q => tX11_readLine_137 s0 h q) q) q)
    (fun _ _ _ q => nos q)
    kRV_ok (Or.inr rfl) (by decide +kernel) (by decide +kernel) hf
def wX11_readLine_133 : List En := [(.ifCond .eq 10, 143, 0, 0)]
def fX11_readLine_133 (v0 : Nat) (s0 : Int32) (h : aH) : Option (aH) :=
  if s0 = 0 then fX11_readLine_143 v0 h else fX11_readLine_136 v0 h
theorem tX11_readLine_133 {d : Nat} {z : aH} (v0 : Nat) (s0 : Int32) (h : aH) (hf : fX11_readLine_133 v0 s0 h = some z) : Ev (d + 9) none mX11_readLine (0, 0) 133 [.ref v0] [.int s0] h (QV z) := 
  go_ok (X := none) (blk := wX11_readLine_133) (np := 136) (tt := 143) (kN := fun xs h st => app [2] (fun v0 => apS [] (fX11_readLine_136 v0 h) st) xs) (kT := fun xs h st => app [2] (fun v0 => apS [] (fX11_readLine_143 v0 h) st) xs) (kR := kRV)
    (fun xs h st q => jm [2] _ (fun v0 q => apS_ok [] _ (fun st => Ev (d + 9) none mX11_readLine (0, 0) 136 [.ref v0] st h (QV z)) st (fun q => tX11_readLine_136 v0 h q) q) q)
    (fun xs h st q => jm [2] _ (fun v0 q => apS_ok [] _ (fun st => Ev (d + 9) none mX11_readLine (0, 0) 143 [.ref v0] st h (QV z)) st (fun q => tX11_readLine_143 v0 h q) q) q)
    kRV_ok (Or.inr rfl) (by decide +kernel) (by decide +kernel) hf
theorem kqX11_readLine_130 : okC mX11_readLine 130 (.invokevirtual 186) 198 215 0 2 = true := by decide +kernel
def fX11_readLine_130 (v0 : Nat) (s0 : Int32) (s1 : Nat) (s2 : Nat) (h : aH) : Option (aH) :=
  (isO h 11 s2).bind fun _ =>
  (gX11_begins s2 s1 s0 h).bind fun r =>
  fX11_readLine_133 v0 r.1 r.2
theorem tX11_readLine_130 {d : Nat} {z : aH} (v0 : Nat) (s0 : Int32) (s1 : Nat) (s2 : Nat) (h : aH) (hf : fX11_readLine_130 v0 s0 s1 s2 h = some z) : Ev (d + 9) none mX11_readLine (0, 0) 130 [.ref v0] [.int s0, .ref s1, .ref s2] h (QV z) := by
  obtain ⟨_, h1, hf⟩ := bnd hf
  obtain ⟨fs, ho⟩ := isO_ok h1
  obtain ⟨r, h2, hf⟩ := bnd hf
  refine ev_V kqX11_readLine_130 jX11_begins (zX11_begins (d := d + 3) h2) ho rfl rfl (Nat.le_of_ble_eq_true rfl) rfl (as := [.ref s1, .int s0]) (rest := []) rfl (Nat.le_of_ble_eq_true rfl) (fun _ _ hq => ?_)
  obtain ⟨-, rfl, rfl⟩ := hq
  exact jm [2] (fun v0 => fX11_readLine_133 v0 r.1 r.2) (fun v0 q => tX11_readLine_133 v0 r.1 r.2 q) hf
def wX11_readLine_129 : List En := [(.iconst 0, 0, 0, 0)]
def fX11_readLine_129 (v0 : Nat) (s0 : Nat) (s1 : Nat) (h : aH) : Option (aH) :=
  fX11_readLine_130 v0 (kI 0) s0 s1 h
theorem tX11_readLine_129 {d : Nat} {z : aH} (v0 : Nat) (s0 : Nat) (s1 : Nat) (h : aH) (hf : fX11_readLine_129 v0 s0 s1 h = some z) : Ev (d + 9) none mX11_readLine (0, 0) 129 [.ref v0] [.ref s0, .ref s1] h (QV z) := 
  go_ok (X := none) (blk := wX11_readLine_129) (np := 130) (tt := 0) (kN := fun xs h st => app [2] (fun v0 => apS [1, 2, 2] (fun s0 s1 s2 => fX11_readLine_130 v0 s0 s1 s2 h) st) xs) (kT := fun _ _ _ => none) (kR := kRV)
    (fun xs h st q => jm [2] _ (fun v0 q => apS_ok [1, 2, 2] _ (fun st => Ev (d + 9) none mX11_readLine (0, 0) 130 [.ref v0] st h (QV z)) st (fun s0 s1 s2 q => tX11_readLine_130 v0 s0 s1 s2 h q) q) q)
    (fun _ _ _ q => nos q)
    kRV_ok (Or.inr rfl) (by decide +kernel) (by decide +kernel) hf
def wX11_readLine_125 : List En := [(.iconst 1, 0, 0, 0), (.goto 4, 130, 0, 0)]
def fX11_readLine_125 (v0 : Nat) (s0 : Nat) (s1 : Nat) (h : aH) : Option (aH) :=
  fX11_readLine_130 v0 (kI 1) s0 s1 h
theorem tX11_readLine_125 {d : Nat} {z : aH} (v0 : Nat) (s0 : Nat) (s1 : Nat) (h : aH) (hf : fX11_readLine_125 v0 s0 s1 h = some z) : Ev (d + 9) none mX11_readLine (0, 0) 125 [.ref v0] [.ref s0, .ref s1] h (QV z) := 
  go_ok (X := none) (blk := wX11_readLine_125) (np := 129) (tt := 130) (kN := fun _ _ _ => none) (kT := fun xs h st => app [2] (fun v0 => apS [1, 2, 2] (fun s0 s1 s2 => fX11_readLine_130 v0 s0 s1 s2 h) st) xs) (kR := kRV)
    (fun _ _ _ q => nos q)
    (fun xs h st q => jm [2] _ (fun v0 q => apS_ok [1, 2, 2] _ (fun st => Ev (d + 9) none mX11_readLine (0, 0) 130 [.ref v0] st h (QV z)) st (fun s0 s1 s2 q => tX11_readLine_130 v0 s0 s1 s2 h q) q) q)
    kRV_ok (Or.inr rfl) (by decide +kernel) (by decide +kernel) hf
def wX11_readLine_114 : List En := [(.aload_n 0, 0, 0, 0), (.getfield 23, 191, 11, 16), (.bipush 6, 0, 0, 0), (.iaload, 0, 0, 0), (.iconst 4, 0, 0, 0), (.if_icmp .ge 7, 129, 0, 0)]
def fX11_readLine_114 (v0 : Nat) (s0 : Nat) (s1 : Nat) (h : aH) : Option (aH) :=
  (gFR h 11 v0 16).bind fun t1 =>
  (aRI (h[t1]?) (kB 6)).bind fun t2 =>
  if t2 < (kI 4) then fX11_readLine_125 v0 s0 s1 h else fX11_readLine_129 v0 s0 s1 h
theorem tX11_readLine_114 {d : Nat} {z : aH} (v0 : Nat) (s0 : Nat) (s1 : Nat) (h : aH) (hf : fX11_readLine_114 v0 s0 s1 h = some z) : Ev (d + 9) none mX11_readLine (0, 0) 114 [.ref v0] [.ref s0, .ref s1] h (QV z) := 
  go_ok (X := none) (blk := wX11_readLine_114) (np := 125) (tt := 129) (kN := fun xs h st => app [2] (fun v0 => apS [2, 2] (fun s0 s1 => fX11_readLine_125 v0 s0 s1 h) st) xs) (kT := fun xs h st => app [2] (fun v0 => apS [2, 2] (fun s0 s1 => fX11_readLine_129 v0 s0 s1 h) st) xs) (kR := kRV)
    (fun xs h st q => jm [2] _ (fun v0 q => apS_ok [2, 2] _ (fun st => Ev (d + 9) none mX11_readLine (0, 0) 125 [.ref v0] st h (QV z)) st (fun s0 s1 q => tX11_readLine_125 v0 s0 s1 h q) q) q)
    (fun xs h st q => jm [2] _ (fun v0 q => apS_ok [2, 2] _ (fun st => Ev (d + 9) none mX11_readLine (0, 0) 129 [.ref v0] st h (QV z)) st (fun s0 s1 q => tX11_readLine_129 v0 s0 s1 h q) q) q)
    kRV_ok (Or.inr rfl) (by decide +kernel) (by decide +kernel) hf
theorem kqX11_readLine_112 : ckS mX11_readLine 112 130 24 = true := by decide +kernel -- unsure
def fX11_readLine_112 (v0 : Nat) (s0 : Nat) (h : aH) : Option (aH) :=
  fX11_readLine_114 v0 (SB + 24) s0 h
theorem tX11_readLine_112 {d : Nat} {z : aH} (v0 : Nat) (s0 : Nat) (h : aH) (hf : fX11_readLine_112 v0 s0 h = some z) : Ev (d + 9) none mX11_readLine (0, 0) 112 [.ref v0] [.ref s0] h (QV z) := 
  ev_ldcS kqX11_readLine_112 rfl (jm [2] (fun v0 => fX11_readLine_114 v0 (SB + 24) s0 h) (fun v0 q => tX11_readLine_114 v0 (SB + 24) s0 h q) hf)
def wX11_readLine_111 : List En := [(.aload_n 0, 0, 0, 0)]
def fX11_readLine_111 (v0 : Nat) (h : aH) : Option (aH) :=
  fX11_readLine_112 v0 v0 h
theorem tX11_readLine_111 {d : Nat} {z : aH} (v0 : Nat) (h : aH) (hf : fX11_readLine_111 v0 h = some z) : Ev (d + 9) none mX11_readLine (0, 0) 111 [.ref v0] [] h (QV z) := 
  go_ok (X := none) (blk := wX11_readLine_111) (np := 112) (tt := 0) (kN := fun xs h st => app [2] (fun v0 => apS [2] (fun s0 => fX11_readLine_112 v0 s0 h) st) xs) (kT := fun _ _ _ => none) (kR := kRV)
    (fun xs h st q => jm [2] _ (fun v0 q => apS_ok [2] _ (fun st => Ev (d + 9) none mX11_readLine (0, 0) 112 [.ref v0] st h (QV z)) st (fun s0 q => tX11_readLine_112 v0 s0 h q) q) q)
    (fun _ _ _ q => nos q)
    kRV_ok (Or.inr rfl) (by decide +kernel) (by decide +kernel) hf
def wX11_readLine_108 : List En := [(.goto 77, 185, 0, 0)]
def fX11_readLine_108 (h : aH) : Option (aH) :=
  fX11_readLine_185 h
theorem tX11_readLine_108 {d : Nat} {z : aH} (h : aH) (hf : fX11_readLine_108 h = some z) : Ev (d + 9) none mX11_readLine (0, 0) 108 [.null] [] h (QV z) := 
  go_ok (X := none) (blk := wX11_readLine_108) (np := 111) (tt := 185) (kN := fun _ _ _ => none) (kT := fun xs h st => app [0] (apS [] (fX11_readLine_185 h) st) xs) (kR := kRV)
    (fun _ _ _ q => nos q)
    (fun xs h st q => jm [0] _ (fun q => apS_ok [] _ (fun st => Ev (d + 9) none mX11_readLine (0, 0) 185 [.null] st h (QV z)) st (fun q => tX11_readLine_185 h q) q) q)
    kRV_ok (Or.inr rfl) (by decide +kernel) (by decide +kernel) hf
theorem kqX11_readLine_105 : okC mX11_readLine 105 (.invokevirtual 196) 204 221 0 0 = true := by decide +kernel
def fX11_readLine_105 (s0 : Nat) (h : aH) : Option (aH) :=
  (isO h 11 s0).bind fun _ =>
  (gX11_fastLine s0 h).bind fun r =>
  fX11_readLine_108 r
theorem tX11_readLine_105 {d : Nat} {z : aH} (s0 : Nat) (h : aH) (hf : fX11_readLine_105 s0 h = some z) : Ev (d + 9) none mX11_readLine (0, 0) 105 [.null] [.ref s0] h (QV z) := by
  obtain ⟨_, h1, hf⟩ := bnd hf
  obtain ⟨fs, ho⟩ := isO_ok h1
  obtain ⟨r, h2, hf⟩ := bnd hf
  refine ev_V kqX11_readLine_105 jX11_fastLine (zX11_fastLine (d := d + 0) h2) ho rfl rfl (Nat.le_of_ble_eq_true rfl) rfl (as := []) (rest := []) rfl (Nat.le_of_ble_eq_true rfl) (fun _ _ hq => ?_)
  obtain ⟨rfl, hh⟩ := hq
  rw [hh]
  exact jm [0] (fX11_readLine_108 r) (fun q => tX11_readLine_108 r q) hf
def wX11_readLine_104 : List En := [(.aload_n 0, 0, 0, 0)]
def fX11_readLine_104 (v0 : Nat) (h : aH) : Option (aH) :=
  fX11_readLine_105 v0 h
theorem tX11_readLine_104 {d : Nat} {z : aH} (v0 : Nat) (h : aH) (hf : fX11_readLine_104 v0 h = some z) : Ev (d + 9) none mX11_readLine (0, 0) 104 [.ref v0] [] h (QV z) := 
  go_ok (X := none) (blk := wX11_readLine_104) (np := 105) (tt := 0) (kN := fun xs h st => app [0] (apS [2] (fun s0 => fX11_readLine_105 s0 h) st) xs) (kT := fun _ _ _ => none) (kR := kRV)
    (fun xs h st q => jm [0] _ (fun q => apS_ok [2] _ (fun st => Ev (d + 9) none mX11_readLine (0, 0) 105 [.null] st h (QV z)) st (fun s0 q => tX11_readLine_105 s0 h q) q) q)
    (fun _ _ _ q => nos q)
    kRV_ok (Or.inr rfl) (by decide +kernel) (by decide +kernel) hf
def wX11_readLine_101 : List En := [(.ifCond .eq 10, 111, 0, 0)]
def fX11_readLine_101 (v0 : Nat) (s0 : Int32) (h : aH) : Option (aH) :=
  if s0 = 0 then fX11_readLine_111 v0 h else fX11_readLine_104 v0 h
theorem tX11_readLine_101 {d : Nat} {z : aH} (v0 : Nat) (s0 : Int32) (h : aH) (hf : fX11_readLine_101 v0 s0 h = some z) : Ev (d + 9) none mX11_readLine (0, 0) 101 [.ref v0] [.int s0] h (QV z) := 
  go_ok (X := none) (blk := wX11_readLine_101) (np := 104) (tt := 111) (kN := fun xs h st => app [2] (fun v0 => apS [] (fX11_readLine_104 v0 h) st) xs) (kT := fun xs h st => app [2] (fun v0 => apS [] (fX11_readLine_111 v0 h) st) xs) (kR := kRV)
    (fun xs h st q => jm [2] _ (fun v0 q => apS_ok [] _ (fun st => Ev (d + 9) none mX11_readLine (0, 0) 104 [.ref v0] st h (QV z)) st (fun q => tX11_readLine_104 v0 h q) q) q)
    (fun xs h st q => jm [2] _ (fun v0 q => apS_ok [] _ (fun st => Ev (d + 9) none mX11_readLine (0, 0) 111 [.ref v0] st h (QV z)) st (fun q => tX11_readLine_111 v0 h q) q) q)
    kRV_ok (Or.inr rfl) (by decide +kernel) (by decide +kernel) hf
theorem kqX11_readLine_98 : okC mX11_readLine 98 (.invokevirtual 186) 198 215 0 2 = true := by decide +kernel
def fX11_readLine_98 (v0 : Nat) (s0 : Int32) (s1 : Nat) (s2 : Nat) (h : aH) : Option (aH) :=
  (isO h 11 s2).bind fun _ =>
  (gX11_begins s2 s1 s0 h).bind fun r =>
  fX11_readLine_101 v0 r.1 r.2
theorem tX11_readLine_98 {d : Nat} {z : aH} (v0 : Nat) (s0 : Int32) (s1 : Nat) (s2 : Nat) (h : aH) (hf : fX11_readLine_98 v0 s0 s1 s2 h = some z) : Ev (d + 9) none mX11_readLine (0, 0) 98 [.ref v0] [.int s0, .ref s1, .ref s2] h (QV z) := by
  obtain ⟨_, h1, hf⟩ := bnd hf
  obtain ⟨fs, ho⟩ := isO_ok h1
  obtain ⟨r, h2, hf⟩ := bnd hf
  refine ev_V kqX11_readLine_98 jX11_begins (zX11_begins (d := d + 3) h2) ho rfl rfl (Nat.le_of_ble_eq_true rfl) rfl (as := [.ref s1, .int s0]) (rest := []) rfl (Nat.le_of_ble_eq_true rfl) (fun _ _ hq => ?_)
  obtain ⟨-, rfl, rfl⟩ := hq
  exact jm [2] (fun v0 => fX11_readLine_101 v0 r.1 r.2) (fun v0 q => tX11_readLine_101 v0 r.1 r.2 q) hf
def wX11_readLine_97 : List En := [(.iconst 0, 0, 0, 0)]
def fX11_readLine_97 (v0 : Nat) (s0 : Nat) (s1 : Nat) (h : aH) : Option (aH) :=
  fX11_readLine_98 v0 (kI 0) s0 s1 h
theorem tX11_readLine_97 {d : Nat} {z : aH} (v0 : Nat) (s0 : Nat) (s1 : Nat) (h : aH) (hf : fX11_readLine_97 v0 s0 s1 h = some z) : Ev (d + 9) none mX11_readLine (0, 0) 97 [.ref v0] [.ref s0, .ref s1] h (QV z) := 
  go_ok (X := none) (blk := wX11_readLine_97) (np := 98) (tt := 0) (kN := fun xs h st => app [2] (fun v0 => apS [1, 2, 2] (fun s0 s1 s2 => fX11_readLine_98 v0 s0 s1 s2 h) st) xs) (kT := fun _ _ _ => none) (kR := kRV)
    (fun xs h st q => jm [2] _ (fun v0 q => apS_ok [1, 2, 2] _ (fun st => Ev (d + 9) none mX11_readLine (0, 0) 98 [.ref v0] st h (QV z)) st (fun s0 s1 s2 q => tX11_readLine_98 v0 s0 s1 s2 h q) q) q)
    (fun _ _ _ q => nos q)
    kRV_ok (Or.inr rfl) (by decide +kernel) (by decide +kernel) hf
def wX11_readLine_93 : List En := [(.iconst 1, 0, 0, 0), (.goto 4, 98, 0, 0)]
def fX11_readLine_93 (v0 : Nat) (s0 : Nat) (s1 : Nat) (h : aH) : Option (aH) :=
  fX11_readLine_98 v0 (kI 1) s0 s1 h
theorem tX11_readLine_93 {d : Nat} {z : aH} (v0 : Nat) (s0 : Nat) (s1 : Nat) (h : aH) (hf : fX11_readLine_93 v0 s0 s1 h = some z) : Ev (d + 9) none mX11_readLine (0, 0) 93 [.ref v0] [.ref s0, .ref s1] h (QV z) := 
  go_ok (X := none) (blk := wX11_readLine_93) (np := 97) (tt := 98) (kN := fun _ _ _ => none) (kT := fun xs h st => app [2] (fun v0 => apS [1, 2, 2] (fun s0 s1 s2 => fX11_readLine_98 v0 s0 s1 s2 h) st) xs) (kR := kRV)
    (fun _ _ _ q => nos q)
    (fun xs h st q => jm [2] _ (fun v0 q => apS_ok [1, 2, 2] _ (fun st => Ev (d + 9) none mX11_readLine (0, 0) 98 [.ref v0] st h (QV z)) st (fun s0 s1 s2 q => tX11_readLine_98 v0 s0 s1 s2 h q) q) q)
    kRV_ok (Or.inr rfl) (by decide +kernel) (by decide +kernel) hf
def wX11_readLine_82 : List En := [(.aload_n 0, 0, 0, 0), (.getfield 23, 191, 11, 16), (.iconst 5, 0, 0, 0), (.iaload, 0, 0, 0), (.bipush 8, 0, 0, 0), (.if_icmp .ge 7, 97, 0, 0)]
def fX11_readLine_82 (v0 : Nat) (s0 : Nat) (s1 : Nat) (h : aH) : Option (aH) :=
  (gFR h 11 v0 16).bind fun t1 =>
  (aRI (h[t1]?) (kI 5)).bind fun t2 =>
  if t2 < (kB 8) then fX11_readLine_93 v0 s0 s1 h else fX11_readLine_97 v0 s0 s1 h
theorem tX11_readLine_82 {d : Nat} {z : aH} (v0 : Nat) (s0 : Nat) (s1 : Nat) (h : aH) (hf : fX11_readLine_82 v0 s0 s1 h = some z) : Ev (d + 9) none mX11_readLine (0, 0) 82 [.ref v0] [.ref s0, .ref s1] h (QV z) := 
  go_ok (X := none) (blk := wX11_readLine_82) (np := 93) (tt := 97) (kN := fun xs h st => app [2] (fun v0 => apS [2, 2] (fun s0 s1 => fX11_readLine_93 v0 s0 s1 h) st) xs) (kT := fun xs h st => app [2] (fun v0 => apS [2, 2] (fun s0 s1 => fX11_readLine_97 v0 s0 s1 h) st) xs) (kR := kRV)
    (fun xs h st q => jm [2] _ (fun v0 q => apS_ok [2, 2] _ (fun st => Ev (d + 9) none mX11_readLine (0, 0) 93 [.ref v0] st h (QV z)) st (fun s0 s1 q => tX11_readLine_93 v0 s0 s1 h q) q) q)
    (fun xs h st q => jm [2] _ (fun v0 q => apS_ok [2, 2] _ (fun st => Ev (d + 9) none mX11_readLine (0, 0) 97 [.ref v0] st h (QV z)) st (fun s0 s1 q => tX11_readLine_97 v0 s0 s1 h q) q) q)
    kRV_ok (Or.inr rfl) (by decide +kernel) (by decide +kernel) hf
theorem kqX11_readLine_80 : ckS mX11_readLine 80 128 23 = true := by decide +kernel -- fast
def fX11_readLine_80 (v0 : Nat) (s0 : Nat) (h : aH) : Option (aH) :=
  fX11_readLine_82 v0 (SB + 23) s0 h
theorem tX11_readLine_80 {d : Nat} {z : aH} (v0 : Nat) (s0 : Nat) (h : aH) (hf : fX11_readLine_80 v0 s0 h = some z) : Ev (d + 9) none mX11_readLine (0, 0) 80 [.ref v0] [.ref s0] h (QV z) := 
  ev_ldcS kqX11_readLine_80 rfl (jm [2] (fun v0 => fX11_readLine_82 v0 (SB + 23) s0 h) (fun v0 q => tX11_readLine_82 v0 (SB + 23) s0 h q) hf)
def wX11_readLine_79 : List En := [(.aload_n 0, 0, 0, 0)]
def fX11_readLine_79 (v0 : Nat) (h : aH) : Option (aH) :=
  fX11_readLine_80 v0 v0 h
theorem tX11_readLine_79 {d : Nat} {z : aH} (v0 : Nat) (h : aH) (hf : fX11_readLine_79 v0 h = some z) : Ev (d + 9) none mX11_readLine (0, 0) 79 [.ref v0] [] h (QV z) := 
  go_ok (X := none) (blk := wX11_readLine_79) (np := 80) (tt := 0) (kN := fun xs h st => app [2] (fun v0 => apS [2] (fun s0 => fX11_readLine_80 v0 s0 h) st) xs) (kT := fun _ _ _ => none) (kR := kRV)
    (fun xs h st q => jm [2] _ (fun v0 q => apS_ok [2] _ (fun st => Ev (d + 9) none mX11_readLine (0, 0) 80 [.ref v0] st h (QV z)) st (fun s0 q => tX11_readLine_80 v0 s0 h q) q) q)
    (fun _ _ _ q => nos q)
    kRV_ok (Or.inr rfl) (by decide +kernel) (by decide +kernel) hf
def wX11_readLine_76 : List En := [(.goto 109, 185, 0, 0)]
def fX11_readLine_76 (h : aH) : Option (aH) :=
  fX11_readLine_185 h
theorem tX11_readLine_76 {d : Nat} {z : aH} (h : aH) (hf : fX11_readLine_76 h = some z) : Ev (d + 9) none mX11_readLine (0, 0) 76 [.null] [] h (QV z) := 
  go_ok (X := none) (blk := wX11_readLine_76) (np := 79) (tt := 185) (kN := fun _ _ _ => none) (kT := fun xs h st => app [0] (apS [] (fX11_readLine_185 h) st) xs) (kR := kRV)
    (fun _ _ _ q => nos q)
    (fun xs h st q => jm [0] _ (fun q => apS_ok [] _ (fun st => Ev (d + 9) none mX11_readLine (0, 0) 185 [.null] st h (QV z)) st (fun q => tX11_readLine_185 h q) q) q)
    kRV_ok (Or.inr rfl) (by decide +kernel) (by decide +kernel) hf
theorem kqX11_readLine_73 : okC mX11_readLine 73 (.invokevirtual 193) 203 220 0 0 = true := by decide +kernel
def fX11_readLine_73 (s0 : Nat) (h : aH) : Option (aH) :=
  (isO h 11 s0).bind fun _ =>
  (gX11_nameLine s0 h).bind fun r =>
  fX11_readLine_76 r
theorem tX11_readLine_73 {d : Nat} {z : aH} (s0 : Nat) (h : aH) (hf : fX11_readLine_73 s0 h = some z) : Ev (d + 9) none mX11_readLine (0, 0) 73 [.null] [.ref s0] h (QV z) := by
  obtain ⟨_, h1, hf⟩ := bnd hf
  obtain ⟨fs, ho⟩ := isO_ok h1
  obtain ⟨r, h2, hf⟩ := bnd hf
  refine ev_V kqX11_readLine_73 jX11_nameLine (zX11_nameLine (d := d + 0) h2) ho rfl rfl (Nat.le_of_ble_eq_true rfl) rfl (as := []) (rest := []) rfl (Nat.le_of_ble_eq_true rfl) (fun _ _ hq => ?_)
  obtain ⟨rfl, hh⟩ := hq
  rw [hh]
  exact jm [0] (fX11_readLine_76 r) (fun q => tX11_readLine_76 r q) hf
def wX11_readLine_72 : List En := [(.aload_n 0, 0, 0, 0)]
def fX11_readLine_72 (v0 : Nat) (h : aH) : Option (aH) :=
  fX11_readLine_73 v0 h
theorem tX11_readLine_72 {d : Nat} {z : aH} (v0 : Nat) (h : aH) (hf : fX11_readLine_72 v0 h = some z) : Ev (d + 9) none mX11_readLine (0, 0) 72 [.ref v0] [] h (QV z) := 
  go_ok (X := none) (blk := wX11_readLine_72) (np := 73) (tt := 0) (kN := fun xs h st => app [0] (apS [2] (fun s0 => fX11_readLine_73 s0 h) st) xs) (kT := fun _ _ _ => none) (kR := kRV)
    (fun xs h st q => jm [0] _ (fun q => apS_ok [2] _ (fun st => Ev (d + 9) none mX11_readLine (0, 0) 73 [.null] st h (QV z)) st (fun s0 q => tX11_readLine_73 s0 h q) q) q)
    (fun _ _ _ q => nos q)
    kRV_ok (Or.inr rfl) (by decide +kernel) (by decide +kernel) hf
def wX11_readLine_69 : List En := [(.ifCond .eq 10, 79, 0, 0)]
def fX11_readLine_69 (v0 : Nat) (s0 : Int32) (h : aH) : Option (aH) :=
  if s0 = 0 then fX11_readLine_79 v0 h else fX11_readLine_72 v0 h
theorem tX11_readLine_69 {d : Nat} {z : aH} (v0 : Nat) (s0 : Int32) (h : aH) (hf : fX11_readLine_69 v0 s0 h = some z) : Ev (d + 9) none mX11_readLine (0, 0) 69 [.ref v0] [.int s0] h (QV z) := 
  go_ok (X := none) (blk := wX11_readLine_69) (np := 72) (tt := 79) (kN := fun xs h st => app [2] (fun v0 => apS [] (fX11_readLine_72 v0 h) st) xs) (kT := fun xs h st => app [2] (fun v0 => apS [] (fX11_readLine_79 v0 h) st) xs) (kR := kRV)
    (fun xs h st q => jm [2] _ (fun v0 q => apS_ok [] _ (fun st => Ev (d + 9) none mX11_readLine (0, 0) 72 [.ref v0] st h (QV z)) st (fun q => tX11_readLine_72 v0 h q) q) q)
    (fun xs h st q => jm [2] _ (fun v0 q => apS_ok [] _ (fun st => Ev (d + 9) none mX11_readLine (0, 0) 79 [.ref v0] st h (QV z)) st (fun q => tX11_readLine_79 v0 h q) q) q)
    kRV_ok (Or.inr rfl) (by decide +kernel) (by decide +kernel) hf
theorem kqX11_readLine_66 : okC mX11_readLine 66 (.invokevirtual 186) 198 215 0 2 = true := by decide +kernel
def fX11_readLine_66 (v0 : Nat) (s0 : Int32) (s1 : Nat) (s2 : Nat) (h : aH) : Option (aH) :=
  (isO h 11 s2).bind fun _ =>
  (gX11_begins s2 s1 s0 h).bind fun r =>
  fX11_readLine_69 v0 r.1 r.2
theorem tX11_readLine_66 {d : Nat} {z : aH} (v0 : Nat) (s0 : Int32) (s1 : Nat) (s2 : Nat) (h : aH) (hf : fX11_readLine_66 v0 s0 s1 s2 h = some z) : Ev (d + 9) none mX11_readLine (0, 0) 66 [.ref v0] [.int s0, .ref s1, .ref s2] h (QV z) := by
  obtain ⟨_, h1, hf⟩ := bnd hf
  obtain ⟨fs, ho⟩ := isO_ok h1
  obtain ⟨r, h2, hf⟩ := bnd hf
  refine ev_V kqX11_readLine_66 jX11_begins (zX11_begins (d := d + 3) h2) ho rfl rfl (Nat.le_of_ble_eq_true rfl) rfl (as := [.ref s1, .int s0]) (rest := []) rfl (Nat.le_of_ble_eq_true rfl) (fun _ _ hq => ?_)
  obtain ⟨-, rfl, rfl⟩ := hq
  exact jm [2] (fun v0 => fX11_readLine_69 v0 r.1 r.2) (fun v0 q => tX11_readLine_69 v0 r.1 r.2 q) hf
def wX11_readLine_65 : List En := [(.iconst 0, 0, 0, 0)]
def fX11_readLine_65 (v0 : Nat) (s0 : Nat) (s1 : Nat) (h : aH) : Option (aH) :=
  fX11_readLine_66 v0 (kI 0) s0 s1 h
theorem tX11_readLine_65 {d : Nat} {z : aH} (v0 : Nat) (s0 : Nat) (s1 : Nat) (h : aH) (hf : fX11_readLine_65 v0 s0 s1 h = some z) : Ev (d + 9) none mX11_readLine (0, 0) 65 [.ref v0] [.ref s0, .ref s1] h (QV z) := 
  go_ok (X := none) (blk := wX11_readLine_65) (np := 66) (tt := 0) (kN := fun xs h st => app [2] (fun v0 => apS [1, 2, 2] (fun s0 s1 s2 => fX11_readLine_66 v0 s0 s1 s2 h) st) xs) (kT := fun _ _ _ => none) (kR := kRV)
    (fun xs h st q => jm [2] _ (fun v0 q => apS_ok [1, 2, 2] _ (fun st => Ev (d + 9) none mX11_readLine (0, 0) 66 [.ref v0] st h (QV z)) st (fun s0 s1 s2 q => tX11_readLine_66 v0 s0 s1 s2 h q) q) q)
    (fun _ _ _ q => nos q)
    kRV_ok (Or.inr rfl) (by decide +kernel) (by decide +kernel) hf
def wX11_readLine_61 : List En := [(.iconst 1, 0, 0, 0), (.goto 4, 66, 0, 0)]
def fX11_readLine_61 (v0 : Nat) (s0 : Nat) (s1 : Nat) (h : aH) : Option (aH) :=
  fX11_readLine_66 v0 (kI 1) s0 s1 h
theorem tX11_readLine_61 {d : Nat} {z : aH} (v0 : Nat) (s0 : Nat) (s1 : Nat) (h : aH) (hf : fX11_readLine_61 v0 s0 s1 h = some z) : Ev (d + 9) none mX11_readLine (0, 0) 61 [.ref v0] [.ref s0, .ref s1] h (QV z) := 
  go_ok (X := none) (blk := wX11_readLine_61) (np := 65) (tt := 66) (kN := fun _ _ _ => none) (kT := fun xs h st => app [2] (fun v0 => apS [1, 2, 2] (fun s0 s1 s2 => fX11_readLine_66 v0 s0 s1 s2 h) st) xs) (kR := kRV)
    (fun _ _ _ q => nos q)
    (fun xs h st q => jm [2] _ (fun v0 q => apS_ok [1, 2, 2] _ (fun st => Ev (d + 9) none mX11_readLine (0, 0) 66 [.ref v0] st h (QV z)) st (fun s0 s1 s2 q => tX11_readLine_66 v0 s0 s1 s2 h q) q) q)
    kRV_ok (Or.inr rfl) (by decide +kernel) (by decide +kernel) hf
def wX11_readLine_50 : List En := [(.aload_n 0, 0, 0, 0), (.getfield 23, 191, 11, 16), (.iconst 4, 0, 0, 0), (.iaload, 0, 0, 0), (.bipush 8, 0, 0, 0), (.if_icmp .ge 7, 65, 0, 0)]
def fX11_readLine_50 (v0 : Nat) (s0 : Nat) (s1 : Nat) (h : aH) : Option (aH) :=
  (gFR h 11 v0 16).bind fun t1 =>
  (aRI (h[t1]?) (kI 4)).bind fun t2 =>
  if t2 < (kB 8) then fX11_readLine_61 v0 s0 s1 h else fX11_readLine_65 v0 s0 s1 h
theorem tX11_readLine_50 {d : Nat} {z : aH} (v0 : Nat) (s0 : Nat) (s1 : Nat) (h : aH) (hf : fX11_readLine_50 v0 s0 s1 h = some z) : Ev (d + 9) none mX11_readLine (0, 0) 50 [.ref v0] [.ref s0, .ref s1] h (QV z) := 
  go_ok (X := none) (blk := wX11_readLine_50) (np := 61) (tt := 65) (kN := fun xs h st => app [2] (fun v0 => apS [2, 2] (fun s0 s1 => fX11_readLine_61 v0 s0 s1 h) st) xs) (kT := fun xs h st => app [2] (fun v0 => apS [2, 2] (fun s0 s1 => fX11_readLine_65 v0 s0 s1 h) st) xs) (kR := kRV)
    (fun xs h st q => jm [2] _ (fun v0 q => apS_ok [2, 2] _ (fun st => Ev (d + 9) none mX11_readLine (0, 0) 61 [.ref v0] st h (QV z)) st (fun s0 s1 q => tX11_readLine_61 v0 s0 s1 h q) q) q)
    (fun xs h st q => jm [2] _ (fun v0 q => apS_ok [2, 2] _ (fun st => Ev (d + 9) none mX11_readLine (0, 0) 65 [.ref v0] st h (QV z)) st (fun s0 s1 q => tX11_readLine_65 v0 s0 s1 h q) q) q)
    kRV_ok (Or.inr rfl) (by decide +kernel) (by decide +kernel) hf
theorem kqX11_readLine_48 : ckS mX11_readLine 48 126 22 = true := by decide +kernel -- name
def fX11_readLine_48 (v0 : Nat) (s0 : Nat) (h : aH) : Option (aH) :=
  fX11_readLine_50 v0 (SB + 22) s0 h
theorem tX11_readLine_48 {d : Nat} {z : aH} (v0 : Nat) (s0 : Nat) (h : aH) (hf : fX11_readLine_48 v0 s0 h = some z) : Ev (d + 9) none mX11_readLine (0, 0) 48 [.ref v0] [.ref s0] h (QV z) := 
  ev_ldcS kqX11_readLine_48 rfl (jm [2] (fun v0 => fX11_readLine_50 v0 (SB + 22) s0 h) (fun v0 q => tX11_readLine_50 v0 (SB + 22) s0 h q) hf)
def wX11_readLine_47 : List En := [(.aload_n 0, 0, 0, 0)]
def fX11_readLine_47 (v0 : Nat) (h : aH) : Option (aH) :=
  fX11_readLine_48 v0 v0 h
theorem tX11_readLine_47 {d : Nat} {z : aH} (v0 : Nat) (h : aH) (hf : fX11_readLine_47 v0 h = some z) : Ev (d + 9) none mX11_readLine (0, 0) 47 [.ref v0] [] h (QV z) := 
  go_ok (X := none) (blk := wX11_readLine_47) (np := 48) (tt := 0) (kN := fun xs h st => app [2] (fun v0 => apS [2] (fun s0 => fX11_readLine_48 v0 s0 h) st) xs) (kT := fun _ _ _ => none) (kR := kRV)
    (fun xs h st q => jm [2] _ (fun v0 q => apS_ok [2] _ (fun st => Ev (d + 9) none mX11_readLine (0, 0) 48 [.ref v0] st h (QV z)) st (fun s0 q => tX11_readLine_48 v0 s0 h q) q) q)
    (fun _ _ _ q => nos q)
    kRV_ok (Or.inr rfl) (by decide +kernel) (by decide +kernel) hf
def wX11_readLine_44 : List En := [(.goto 141, 185, 0, 0)]
def fX11_readLine_44 (h : aH) : Option (aH) :=
  fX11_readLine_185 h
theorem tX11_readLine_44 {d : Nat} {z : aH} (h : aH) (hf : fX11_readLine_44 h = some z) : Ev (d + 9) none mX11_readLine (0, 0) 44 [.null] [] h (QV z) := 
  go_ok (X := none) (blk := wX11_readLine_44) (np := 47) (tt := 185) (kN := fun _ _ _ => none) (kT := fun xs h st => app [0] (apS [] (fX11_readLine_185 h) st) xs) (kR := kRV)
    (fun _ _ _ q => nos q)
    (fun xs h st q => jm [0] _ (fun q => apS_ok [] _ (fun st => Ev (d + 9) none mX11_readLine (0, 0) 185 [.null] st h (QV z)) st (fun q => tX11_readLine_185 h q) q) q)
    kRV_ok (Or.inr rfl) (by decide +kernel) (by decide +kernel) hf
theorem kqX11_readLine_41 : okC mX11_readLine 41 (.invokevirtual 190) 199 216 0 0 = true := by decide +kernel
def fX11_readLine_41 (s0 : Nat) (h : aH) : Option (aH) :=
  (isO h 11 s0).bind fun _ =>
  (gX11_personLine s0 h).bind fun r =>
  fX11_readLine_44 r
theorem tX11_readLine_41 {d : Nat} {z : aH} (s0 : Nat) (h : aH) (hf : fX11_readLine_41 s0 h = some z) : Ev (d + 9) none mX11_readLine (0, 0) 41 [.null] [.ref s0] h (QV z) := by
  obtain ⟨_, h1, hf⟩ := bnd hf
  obtain ⟨fs, ho⟩ := isO_ok h1
  obtain ⟨r, h2, hf⟩ := bnd hf
  refine ev_V kqX11_readLine_41 jX11_personLine (zX11_personLine (d := d + 0) h2) ho rfl rfl (Nat.le_of_ble_eq_true rfl) rfl (as := []) (rest := []) rfl (Nat.le_of_ble_eq_true rfl) (fun _ _ hq => ?_)
  obtain ⟨rfl, hh⟩ := hq
  rw [hh]
  exact jm [0] (fX11_readLine_44 r) (fun q => tX11_readLine_44 r q) hf
def wX11_readLine_40 : List En := [(.aload_n 0, 0, 0, 0)]
def fX11_readLine_40 (v0 : Nat) (h : aH) : Option (aH) :=
  fX11_readLine_41 v0 h
theorem tX11_readLine_40 {d : Nat} {z : aH} (v0 : Nat) (h : aH) (hf : fX11_readLine_40 v0 h = some z) : Ev (d + 9) none mX11_readLine (0, 0) 40 [.ref v0] [] h (QV z) := 
  go_ok (X := none) (blk := wX11_readLine_40) (np := 41) (tt := 0) (kN := fun xs h st => app [0] (apS [2] (fun s0 => fX11_readLine_41 s0 h) st) xs) (kT := fun _ _ _ => none) (kR := kRV)
    (fun xs h st q => jm [0] _ (fun q => apS_ok [2] _ (fun st => Ev (d + 9) none mX11_readLine (0, 0) 41 [.null] st h (QV z)) st (fun s0 q => tX11_readLine_41 s0 h q) q) q)
    (fun _ _ _ q => nos q)
    kRV_ok (Or.inr rfl) (by decide +kernel) (by decide +kernel) hf
def wX11_readLine_37 : List En := [(.ifCond .eq 10, 47, 0, 0)]
def fX11_readLine_37 (v0 : Nat) (s0 : Int32) (h : aH) : Option (aH) :=
  if s0 = 0 then fX11_readLine_47 v0 h else fX11_readLine_40 v0 h
theorem tX11_readLine_37 {d : Nat} {z : aH} (v0 : Nat) (s0 : Int32) (h : aH) (hf : fX11_readLine_37 v0 s0 h = some z) : Ev (d + 9) none mX11_readLine (0, 0) 37 [.ref v0] [.int s0] h (QV z) := 
  go_ok (X := none) (blk := wX11_readLine_37) (np := 40) (tt := 47) (kN := fun xs h st => app [2] (fun v0 => apS [] (fX11_readLine_40 v0 h) st) xs) (kT := fun xs h st => app [2] (fun v0 => apS [] (fX11_readLine_47 v0 h) st) xs) (kR := kRV)
    (fun xs h st q => jm [2] _ (fun v0 q => apS_ok [] _ (fun st => Ev (d + 9) none mX11_readLine (0, 0) 40 [.ref v0] st h (QV z)) st (fun q => tX11_readLine_40 v0 h q) q) q)
    (fun xs h st q => jm [2] _ (fun v0 q => apS_ok [] _ (fun st => Ev (d + 9) none mX11_readLine (0, 0) 47 [.ref v0] st h (QV z)) st (fun q => tX11_readLine_47 v0 h q) q) q)
    kRV_ok (Or.inr rfl) (by decide +kernel) (by decide +kernel) hf
theorem kqX11_readLine_34 : okC mX11_readLine 34 (.invokevirtual 186) 198 215 0 2 = true := by decide +kernel
def fX11_readLine_34 (v0 : Nat) (s0 : Int32) (s1 : Nat) (s2 : Nat) (h : aH) : Option (aH) :=
  (isO h 11 s2).bind fun _ =>
  (gX11_begins s2 s1 s0 h).bind fun r =>
  fX11_readLine_37 v0 r.1 r.2
theorem tX11_readLine_34 {d : Nat} {z : aH} (v0 : Nat) (s0 : Int32) (s1 : Nat) (s2 : Nat) (h : aH) (hf : fX11_readLine_34 v0 s0 s1 s2 h = some z) : Ev (d + 9) none mX11_readLine (0, 0) 34 [.ref v0] [.int s0, .ref s1, .ref s2] h (QV z) := by
  obtain ⟨_, h1, hf⟩ := bnd hf
  obtain ⟨fs, ho⟩ := isO_ok h1
  obtain ⟨r, h2, hf⟩ := bnd hf
  refine ev_V kqX11_readLine_34 jX11_begins (zX11_begins (d := d + 3) h2) ho rfl rfl (Nat.le_of_ble_eq_true rfl) rfl (as := [.ref s1, .int s0]) (rest := []) rfl (Nat.le_of_ble_eq_true rfl) (fun _ _ hq => ?_)
  obtain ⟨-, rfl, rfl⟩ := hq
  exact jm [2] (fun v0 => fX11_readLine_37 v0 r.1 r.2) (fun v0 q => tX11_readLine_37 v0 r.1 r.2 q) hf
def wX11_readLine_33 : List En := [(.iconst 0, 0, 0, 0)]
def fX11_readLine_33 (v0 : Nat) (s0 : Nat) (s1 : Nat) (h : aH) : Option (aH) :=
  fX11_readLine_34 v0 (kI 0) s0 s1 h
theorem tX11_readLine_33 {d : Nat} {z : aH} (v0 : Nat) (s0 : Nat) (s1 : Nat) (h : aH) (hf : fX11_readLine_33 v0 s0 s1 h = some z) : Ev (d + 9) none mX11_readLine (0, 0) 33 [.ref v0] [.ref s0, .ref s1] h (QV z) := 
  go_ok (X := none) (blk := wX11_readLine_33) (np := 34) (tt := 0) (kN := fun xs h st => app [2] (fun v0 => apS [1, 2, 2] (fun s0 s1 s2 => fX11_readLine_34 v0 s0 s1 s2 h) st) xs) (kT := fun _ _ _ => none) (kR := kRV)
    (fun xs h st q => jm [2] _ (fun v0 q => apS_ok [1, 2, 2] _ (fun st => Ev (d + 9) none mX11_readLine (0, 0) 34 [.ref v0] st h (QV z)) st (fun s0 s1 s2 q => tX11_readLine_34 v0 s0 s1 s2 h q) q) q)
    (fun _ _ _ q => nos q)
    kRV_ok (Or.inr rfl) (by decide +kernel) (by decide +kernel) hf
def wX11_readLine_29 : List En := [(.iconst 1, 0, 0, 0), (.goto 4, 34, 0, 0)]
def fX11_readLine_29 (v0 : Nat) (s0 : Nat) (s1 : Nat) (h : aH) : Option (aH) :=
  fX11_readLine_34 v0 (kI 1) s0 s1 h
theorem tX11_readLine_29 {d : Nat} {z : aH} (v0 : Nat) (s0 : Nat) (s1 : Nat) (h : aH) (hf : fX11_readLine_29 v0 s0 s1 h = some z) : Ev (d + 9) none mX11_readLine (0, 0) 29 [.ref v0] [.ref s0, .ref s1] h (QV z) := 
  go_ok (X := none) (blk := wX11_readLine_29) (np := 33) (tt := 34) (kN := fun _ _ _ => none) (kT := fun xs h st => app [2] (fun v0 => apS [1, 2, 2] (fun s0 s1 s2 => fX11_readLine_34 v0 s0 s1 s2 h) st) xs) (kR := kRV)
    (fun _ _ _ q => nos q)
    (fun xs h st q => jm [2] _ (fun v0 q => apS_ok [1, 2, 2] _ (fun st => Ev (d + 9) none mX11_readLine (0, 0) 34 [.ref v0] st h (QV z)) st (fun s0 s1 s2 q => tX11_readLine_34 v0 s0 s1 s2 h q) q) q)
    kRV_ok (Or.inr rfl) (by decide +kernel) (by decide +kernel) hf
def wX11_readLine_19 : List En := [(.aload_n 0, 0, 0, 0), (.getfield 23, 191, 11, 16), (.iconst 3, 0, 0, 0), (.iaload, 0, 0, 0), (.iconst 5, 0, 0, 0), (.if_icmp .ge 7, 33, 0, 0)]
def fX11_readLine_19 (v0 : Nat) (s0 : Nat) (s1 : Nat) (h : aH) : Option (aH) :=
  (gFR h 11 v0 16).bind fun t1 =>
  (aRI (h[t1]?) (kI 3)).bind fun t2 =>
  if t2 < (kI 5) then fX11_readLine_29 v0 s0 s1 h else fX11_readLine_33 v0 s0 s1 h
theorem tX11_readLine_19 {d : Nat} {z : aH} (v0 : Nat) (s0 : Nat) (s1 : Nat) (h : aH) (hf : fX11_readLine_19 v0 s0 s1 h = some z) : Ev (d + 9) none mX11_readLine (0, 0) 19 [.ref v0] [.ref s0, .ref s1] h (QV z) := 
  go_ok (X := none) (blk := wX11_readLine_19) (np := 29) (tt := 33) (kN := fun xs h st => app [2] (fun v0 => apS [2, 2] (fun s0 s1 => fX11_readLine_29 v0 s0 s1 h) st) xs) (kT := fun xs h st => app [2] (fun v0 => apS [2, 2] (fun s0 s1 => fX11_readLine_33 v0 s0 s1 h) st) xs) (kR := kRV)
    (fun xs h st q => jm [2] _ (fun v0 q => apS_ok [2, 2] _ (fun st => Ev (d + 9) none mX11_readLine (0, 0) 29 [.ref v0] st h (QV z)) st (fun s0 s1 q => tX11_readLine_29 v0 s0 s1 h q) q) q)
    (fun xs h st q => jm [2] _ (fun v0 q => apS_ok [2, 2] _ (fun st => Ev (d + 9) none mX11_readLine (0, 0) 33 [.ref v0] st h (QV z)) st (fun s0 s1 q => tX11_readLine_33 v0 s0 s1 h q) q) q)
    kRV_ok (Or.inr rfl) (by decide +kernel) (by decide +kernel) hf
theorem kqX11_readLine_17 : ckS mX11_readLine 17 124 21 = true := by decide +kernel -- person
def fX11_readLine_17 (v0 : Nat) (s0 : Nat) (h : aH) : Option (aH) :=
  fX11_readLine_19 v0 (SB + 21) s0 h
theorem tX11_readLine_17 {d : Nat} {z : aH} (v0 : Nat) (s0 : Nat) (h : aH) (hf : fX11_readLine_17 v0 s0 h = some z) : Ev (d + 9) none mX11_readLine (0, 0) 17 [.ref v0] [.ref s0] h (QV z) := 
  ev_ldcS kqX11_readLine_17 rfl (jm [2] (fun v0 => fX11_readLine_19 v0 (SB + 21) s0 h) (fun v0 q => tX11_readLine_19 v0 (SB + 21) s0 h q) hf)
def wX11_readLine_16 : List En := [(.aload_n 0, 0, 0, 0)]
def fX11_readLine_16 (v0 : Nat) (h : aH) : Option (aH) :=
  fX11_readLine_17 v0 v0 h
theorem tX11_readLine_16 {d : Nat} {z : aH} (v0 : Nat) (h : aH) (hf : fX11_readLine_16 v0 h = some z) : Ev (d + 9) none mX11_readLine (0, 0) 16 [.ref v0] [] h (QV z) := 
  go_ok (X := none) (blk := wX11_readLine_16) (np := 17) (tt := 0) (kN := fun xs h st => app [2] (fun v0 => apS [2] (fun s0 => fX11_readLine_17 v0 s0 h) st) xs) (kT := fun _ _ _ => none) (kR := kRV)
    (fun xs h st q => jm [2] _ (fun v0 q => apS_ok [2] _ (fun st => Ev (d + 9) none mX11_readLine (0, 0) 17 [.ref v0] st h (QV z)) st (fun s0 q => tX11_readLine_17 v0 s0 h q) q) q)
    (fun _ _ _ q => nos q)
    kRV_ok (Or.inr rfl) (by decide +kernel) (by decide +kernel) hf
def wX11_readLine_13 : List En := [(.goto 172, 185, 0, 0)]
def fX11_readLine_13 (h : aH) : Option (aH) :=
  fX11_readLine_185 h
theorem tX11_readLine_13 {d : Nat} {z : aH} (h : aH) (hf : fX11_readLine_13 h = some z) : Ev (d + 9) none mX11_readLine (0, 0) 13 [.null] [] h (QV z) := 
  go_ok (X := none) (blk := wX11_readLine_13) (np := 16) (tt := 185) (kN := fun _ _ _ => none) (kT := fun xs h st => app [0] (apS [] (fX11_readLine_185 h) st) xs) (kR := kRV)
    (fun _ _ _ q => nos q)
    (fun xs h st q => jm [0] _ (fun q => apS_ok [] _ (fun st => Ev (d + 9) none mX11_readLine (0, 0) 185 [.null] st h (QV z)) st (fun q => tX11_readLine_185 h q) q) q)
    kRV_ok (Or.inr rfl) (by decide +kernel) (by decide +kernel) hf
theorem kqX11_readLine_10 : okC mX11_readLine 10 (.invokevirtual 183) 190 207 0 0 = true := by decide +kernel
def fX11_readLine_10 (s0 : Nat) (h : aH) : Option (aH) :=
  (isO h 11 s0).bind fun _ =>
  (gX11_tableLine s0 h).bind fun r =>
  fX11_readLine_13 r
theorem tX11_readLine_10 {d : Nat} {z : aH} (s0 : Nat) (h : aH) (hf : fX11_readLine_10 s0 h = some z) : Ev (d + 9) none mX11_readLine (0, 0) 10 [.null] [.ref s0] h (QV z) := by
  obtain ⟨_, h1, hf⟩ := bnd hf
  obtain ⟨fs, ho⟩ := isO_ok h1
  obtain ⟨r, h2, hf⟩ := bnd hf
  refine ev_V kqX11_readLine_10 jX11_tableLine (zX11_tableLine (d := d + 0) h2) ho rfl rfl (Nat.le_of_ble_eq_true rfl) rfl (as := []) (rest := []) rfl (Nat.le_of_ble_eq_true rfl) (fun _ _ hq => ?_)
  obtain ⟨rfl, hh⟩ := hq
  rw [hh]
  exact jm [0] (fX11_readLine_13 r) (fun q => tX11_readLine_13 r q) hf
def wX11_readLine_9 : List En := [(.aload_n 0, 0, 0, 0)]
def fX11_readLine_9 (v0 : Nat) (h : aH) : Option (aH) :=
  fX11_readLine_10 v0 h
theorem tX11_readLine_9 {d : Nat} {z : aH} (v0 : Nat) (h : aH) (hf : fX11_readLine_9 v0 h = some z) : Ev (d + 9) none mX11_readLine (0, 0) 9 [.ref v0] [] h (QV z) := 
  go_ok (X := none) (blk := wX11_readLine_9) (np := 10) (tt := 0) (kN := fun xs h st => app [0] (apS [2] (fun s0 => fX11_readLine_10 s0 h) st) xs) (kT := fun _ _ _ => none) (kR := kRV)
    (fun xs h st q => jm [0] _ (fun q => apS_ok [2] _ (fun st => Ev (d + 9) none mX11_readLine (0, 0) 10 [.null] st h (QV z)) st (fun s0 q => tX11_readLine_10 s0 h q) q) q)
    (fun _ _ _ q => nos q)
    kRV_ok (Or.inr rfl) (by decide +kernel) (by decide +kernel) hf
def wX11_readLine_6 : List En := [(.ifCond .eq 10, 16, 0, 0)]
def fX11_readLine_6 (v0 : Nat) (s0 : Int32) (h : aH) : Option (aH) :=
  if s0 = 0 then fX11_readLine_16 v0 h else fX11_readLine_9 v0 h
theorem tX11_readLine_6 {d : Nat} {z : aH} (v0 : Nat) (s0 : Int32) (h : aH) (hf : fX11_readLine_6 v0 s0 h = some z) : Ev (d + 9) none mX11_readLine (0, 0) 6 [.ref v0] [.int s0] h (QV z) := 
  go_ok (X := none) (blk := wX11_readLine_6) (np := 9) (tt := 16) (kN := fun xs h st => app [2] (fun v0 => apS [] (fX11_readLine_9 v0 h) st) xs) (kT := fun xs h st => app [2] (fun v0 => apS [] (fX11_readLine_16 v0 h) st) xs) (kR := kRV)
    (fun xs h st q => jm [2] _ (fun v0 q => apS_ok [] _ (fun st => Ev (d + 9) none mX11_readLine (0, 0) 9 [.ref v0] st h (QV z)) st (fun q => tX11_readLine_9 v0 h q) q) q)
    (fun xs h st q => jm [2] _ (fun v0 q => apS_ok [] _ (fun st => Ev (d + 9) none mX11_readLine (0, 0) 16 [.ref v0] st h (QV z)) st (fun q => tX11_readLine_16 v0 h q) q) q)
    kRV_ok (Or.inr rfl) (by decide +kernel) (by decide +kernel) hf
theorem kqX11_readLine_3 : okC mX11_readLine 3 (.invokevirtual 108) 189 204 0 1 = true := by decide +kernel
def fX11_readLine_3 (v0 : Nat) (s0 : Nat) (s1 : Nat) (h : aH) : Option (aH) :=
  (isO h 11 s1).bind fun _ =>
  (gX11_isWord s1 s0 h).bind fun r =>
  fX11_readLine_6 v0 r.1 r.2
theorem tX11_readLine_3 {d : Nat} {z : aH} (v0 : Nat) (s0 : Nat) (s1 : Nat) (h : aH) (hf : fX11_readLine_3 v0 s0 s1 h = some z) : Ev (d + 9) none mX11_readLine (0, 0) 3 [.ref v0] [.ref s0, .ref s1] h (QV z) := by
  obtain ⟨_, h1, hf⟩ := bnd hf
  obtain ⟨fs, ho⟩ := isO_ok h1
  obtain ⟨r, h2, hf⟩ := bnd hf
  refine ev_V kqX11_readLine_3 jX11_isWord (zX11_isWord (d := d + 4) h2) ho rfl rfl (Nat.le_of_ble_eq_true rfl) rfl (as := [.ref s0]) (rest := []) rfl (Nat.le_of_ble_eq_true rfl) (fun _ _ hq => ?_)
  obtain ⟨-, rfl, rfl⟩ := hq
  exact jm [2] (fun v0 => fX11_readLine_6 v0 r.1 r.2) (fun v0 q => tX11_readLine_6 v0 r.1 r.2 q) hf
theorem kqX11_readLine_1 : ckS mX11_readLine 1 122 17 = true := by decide +kernel -- table
def fX11_readLine_1 (v0 : Nat) (s0 : Nat) (h : aH) : Option (aH) :=
  fX11_readLine_3 v0 (SB + 17) s0 h
theorem tX11_readLine_1 {d : Nat} {z : aH} (v0 : Nat) (s0 : Nat) (h : aH) (hf : fX11_readLine_1 v0 s0 h = some z) : Ev (d + 9) none mX11_readLine (0, 0) 1 [.ref v0] [.ref s0] h (QV z) := 
  ev_ldcS kqX11_readLine_1 rfl (jm [2] (fun v0 => fX11_readLine_3 v0 (SB + 17) s0 h) (fun v0 q => tX11_readLine_3 v0 (SB + 17) s0 h q) hf)
def wX11_readLine_0 : List En := [(.aload_n 0, 0, 0, 0)]
def fX11_readLine_0 (v0 : Nat) (h : aH) : Option (aH) :=
  fX11_readLine_1 v0 v0 h
theorem tX11_readLine_0 {d : Nat} {z : aH} (v0 : Nat) (h : aH) (hf : fX11_readLine_0 v0 h = some z) : Ev (d + 9) none mX11_readLine (0, 0) 0 [.ref v0] [] h (QV z) := 
  go_ok (X := none) (blk := wX11_readLine_0) (np := 1) (tt := 0) (kN := fun xs h st => app [2] (fun v0 => apS [2] (fun s0 => fX11_readLine_1 v0 s0 h) st) xs) (kT := fun _ _ _ => none) (kR := kRV)
    (fun xs h st q => jm [2] _ (fun v0 q => apS_ok [2] _ (fun st => Ev (d + 9) none mX11_readLine (0, 0) 1 [.ref v0] st h (QV z)) st (fun s0 q => tX11_readLine_1 v0 s0 h q) q) q)
    (fun _ _ _ q => nos q)
    kRV_ok (Or.inr rfl) (by decide +kernel) (by decide +kernel) hf
def gX11_readLine (v0 : Nat) (h : aH) : Option (aH) := fX11_readLine_0 v0 h
theorem zX11_readLine {d : Nat} {z : aH} {v0 : Nat} {h : aH} (q : gX11_readLine v0 h = some z) : CT (d + 9) mX11_readLine (0, 0) [.ref v0] h (QV z) :=
  ct_ev (by decide +kernel) (Nat.le_of_ble_eq_true rfl) QV_r (jm [2] (fun v0 => fX11_readLine_0 v0 h) (fun v0 q => tX11_readLine_0 v0 h q) q)
def wX11_table_331 : List En := [(.aload_n 0, 0, 0, 0), (.iconst 1, 0, 0, 0), (.putfield 174, 189, 11, 14), (.aload_n 0, 0, 0, 0), (.iconst 0, 0, 0, 0), (.putfield 177, 198, 11, 23), (.aload_n 0, 0, 0, 0), (.iconst 0, 0, 0, 0), (.putfield 180, 199, 11, 24), (.aload_n 0, 0, 0, 0), (.getfield 20, 190, 11, 15), (.iconst 3, 0, 0, 0), (.iaload, 0, 0, 0), (.ireturn, 0, 0, 0)]
def fX11_table_331 (v0 : Nat) (h : aH) : Option (Int32 × aH) :=
  (pWV h 11 v0 14 (.int (kI 1))).bind fun h1 =>
  (pWV h1 11 v0 23 (.int (kI 0))).bind fun h2 =>
  (pWV h2 11 v0 24 (.int (kI 0))).bind fun h3 =>
  (gFR h3 11 v0 15).bind fun t4 =>
  (aRI (h3[t4]?) (kI 3)).bind fun t5 =>
  some (t5, h3)
theorem tX11_table_331 {d : Nat} {z : Int32 × aH} (v0 : Nat) (h : aH) (hf : fX11_table_331 v0 h = some z) : Ev (d + 10) none mX11_table (0, 0) 331 [.ref v0, .null, .null, .null] [] h (QI z) := 
  go_ok (X := none) (blk := wX11_table_331) (np := 353) (tt := 0) (kN := fun _ _ _ => none) (kT := fun _ _ _ => none) (kR := kRI)
    (fun _ _ _ q => nos q)
    (fun _ _ _ q => nos q)
    kRI_ok (Or.inr rfl) (by decide +kernel) (by decide +kernel) hf
theorem kqX11_table_328 : okC mX11_table 328 (.invokestatic 170) 210 227 1 5 = true := by decide +kernel
def fX11_table_328 (v0 : Nat) (s0 : Int32) (s1 : Int32) (s2 : Nat) (s3 : Int32) (s4 : Nat) (h : aH) : Option (Int32 × aH) :=
  (gX11_copy s4 s3 s2 s1 s0 h).bind fun r =>
  fX11_table_331 v0 r
theorem tX11_table_328 {d : Nat} {z : Int32 × aH} (v0 : Nat) (s0 : Int32) (s1 : Int32) (s2 : Nat) (s3 : Int32) (s4 : Nat) (h : aH) (hf : fX11_table_328 v0 s0 s1 s2 s3 s4 h = some z) : Ev (d + 10) none mX11_table (0, 0) 328 [.ref v0, .null, .null, .null] [.int s0, .int s1, .ref s2, .int s3, .ref s4] h (QI z) := by
  obtain ⟨r, h2, hf⟩ := bnd hf
  refine ev_S kqX11_table_328 jX11_copy (zX11_copy (d := d + 9) h2) rfl (Nat.le_of_ble_eq_true rfl) rfl (as := [.ref s4, .int s3, .ref s2, .int s1, .int s0]) (rest := []) rfl (Nat.le_of_ble_eq_true rfl) (fun _ _ hq => ?_)
  obtain ⟨rfl, hh⟩ := hq
  rw [hh]
  exact jm [2, 0, 0, 0] (fun v0 => fX11_table_331 v0 r) (fun v0 q => tX11_table_331 v0 r q) hf
def wX11_table_316 : List En := [(.aload_n 0, 0, 0, 0), (.getfield 29, 193, 11, 18), (.iconst 0, 0, 0, 0), (.aload_n 0, 0, 0, 0), (.getfield 32, 194, 11, 19), (.iconst 0, 0, 0, 0), (.bipush 22, 0, 0, 0)]
def fX11_table_316 (v0 : Nat) (h : aH) : Option (Int32 × aH) :=
  (gFR h 11 v0 18).bind fun t1 =>
  (gFR h 11 v0 19).bind fun t2 =>
  fX11_table_328 v0 (kB 22) (kI 0) t2 (kI 0) t1 h
theorem tX11_table_316 {d : Nat} {z : Int32 × aH} (v0 : Nat) (h : aH) (hf : fX11_table_316 v0 h = some z) : Ev (d + 10) none mX11_table (0, 0) 316 [.ref v0, .null, .null, .null] [] h (QI z) := 
  go_ok (X := none) (blk := wX11_table_316) (np := 328) (tt := 0) (kN := fun xs h st => app [2, 0, 0, 0] (fun v0 => apS [1, 1, 2, 1, 2] (fun s0 s1 s2 s3 s4 => fX11_table_328 v0 s0 s1 s2 s3 s4 h) st) xs) (kT := fun _ _ _ => none) (kR := kRI)
    (fun xs h st q => jm [2, 0, 0, 0] _ (fun v0 q => apS_ok [1, 1, 2, 1, 2] _ (fun st => Ev (d + 10) none mX11_table (0, 0) 328 [.ref v0, .null, .null, .null] st h (QI z)) st (fun s0 s1 s2 s3 s4 q => tX11_table_328 v0 s0 s1 s2 s3 s4 h q) q) q)
    (fun _ _ _ q => nos q)
    kRI_ok (Or.inr rfl) (by decide +kernel) (by decide +kernel) hf
theorem kqX11_table_313 : okC mX11_table 313 (.invokestatic 170) 210 227 1 5 = true := by decide +kernel
def fX11_table_313 (v0 : Nat) (s0 : Int32) (s1 : Int32) (s2 : Nat) (s3 : Int32) (s4 : Nat) (h : aH) : Option (Int32 × aH) :=
  (gX11_copy s4 s3 s2 s1 s0 h).bind fun r =>
  fX11_table_316 v0 r
theorem tX11_table_313 {d : Nat} {z : Int32 × aH} (v0 : Nat) (s0 : Int32) (s1 : Int32) (s2 : Nat) (s3 : Int32) (s4 : Nat) (h : aH) (hf : fX11_table_313 v0 s0 s1 s2 s3 s4 h = some z) : Ev (d + 10) none mX11_table (0, 0) 313 [.ref v0, .null, .null, .null] [.int s0, .int s1, .ref s2, .int s3, .ref s4] h (QI z) := by
  obtain ⟨r, h2, hf⟩ := bnd hf
  refine ev_S kqX11_table_313 jX11_copy (zX11_copy (d := d + 9) h2) rfl (Nat.le_of_ble_eq_true rfl) rfl (as := [.ref s4, .int s3, .ref s2, .int s1, .int s0]) (rest := []) rfl (Nat.le_of_ble_eq_true rfl) (fun _ _ hq => ?_)
  obtain ⟨rfl, hh⟩ := hq
  rw [hh]
  exact jm [2, 0, 0, 0] (fun v0 => fX11_table_316 v0 r) (fun v0 q => tX11_table_316 v0 r q) hf
def wX11_table_301 : List En := [(.aload_n 0, 0, 0, 0), (.getfield 29, 193, 11, 18), (.iconst 0, 0, 0, 0), (.aload_n 0, 0, 0, 0), (.getfield 26, 192, 11, 17), (.iconst 0, 0, 0, 0), (.bipush 22, 0, 0, 0)]
def fX11_table_301 (v0 : Nat) (h : aH) : Option (Int32 × aH) :=
  (gFR h 11 v0 18).bind fun t1 =>
  (gFR h 11 v0 17).bind fun t2 =>
  fX11_table_313 v0 (kB 22) (kI 0) t2 (kI 0) t1 h
theorem tX11_table_301 {d : Nat} {z : Int32 × aH} (v0 : Nat) (h : aH) (hf : fX11_table_301 v0 h = some z) : Ev (d + 10) none mX11_table (0, 0) 301 [.ref v0, .null, .null, .null] [] h (QI z) := 
  go_ok (X := none) (blk := wX11_table_301) (np := 313) (tt := 0) (kN := fun xs h st => app [2, 0, 0, 0] (fun v0 => apS [1, 1, 2, 1, 2] (fun s0 s1 s2 s3 s4 => fX11_table_313 v0 s0 s1 s2 s3 s4 h) st) xs) (kT := fun _ _ _ => none) (kR := kRI)
    (fun xs h st q => jm [2, 0, 0, 0] _ (fun v0 q => apS_ok [1, 1, 2, 1, 2] _ (fun st => Ev (d + 10) none mX11_table (0, 0) 313 [.ref v0, .null, .null, .null] st h (QI z)) st (fun s0 s1 s2 s3 s4 q => tX11_table_313 v0 s0 s1 s2 s3 s4 h q) q) q)
    (fun _ _ _ q => nos q)
    kRI_ok (Or.inr rfl) (by decide +kernel) (by decide +kernel) hf
theorem kqX11_table_298 : okC mX11_table 298 (.invokestatic 170) 210 227 1 5 = true := by decide +kernel
def fX11_table_298 (v0 : Nat) (s0 : Int32) (s1 : Int32) (s2 : Nat) (s3 : Int32) (s4 : Nat) (h : aH) : Option (Int32 × aH) :=
  (gX11_copy s4 s3 s2 s1 s0 h).bind fun r =>
  fX11_table_301 v0 r
theorem tX11_table_298 {d : Nat} {z : Int32 × aH} (v0 : Nat) (s0 : Int32) (s1 : Int32) (s2 : Nat) (s3 : Int32) (s4 : Nat) (h : aH) (hf : fX11_table_298 v0 s0 s1 s2 s3 s4 h = some z) : Ev (d + 10) none mX11_table (0, 0) 298 [.ref v0, .null, .null, .null] [.int s0, .int s1, .ref s2, .int s3, .ref s4] h (QI z) := by
  obtain ⟨r, h2, hf⟩ := bnd hf
  refine ev_S kqX11_table_298 jX11_copy (zX11_copy (d := d + 9) h2) rfl (Nat.le_of_ble_eq_true rfl) rfl (as := [.ref s4, .int s3, .ref s2, .int s1, .int s0]) (rest := []) rfl (Nat.le_of_ble_eq_true rfl) (fun _ _ hq => ?_)
  obtain ⟨rfl, hh⟩ := hq
  rw [hh]
  exact jm [2, 0, 0, 0] (fun v0 => fX11_table_301 v0 r) (fun v0 q => tX11_table_301 v0 r q) hf
def wX11_table_285 : List En := [(.aload_n 0, 0, 0, 0), (.getfield 23, 191, 11, 16), (.iconst 0, 0, 0, 0), (.aload_n 0, 0, 0, 0), (.getfield 20, 190, 11, 15), (.iconst 0, 0, 0, 0), (.sipush 188, 0, 0, 0)]
def fX11_table_285 (v0 : Nat) (h : aH) : Option (Int32 × aH) :=
  (gFR h 11 v0 16).bind fun t1 =>
  (gFR h 11 v0 15).bind fun t2 =>
  fX11_table_298 v0 (kS 188) (kI 0) t2 (kI 0) t1 h
theorem tX11_table_285 {d : Nat} {z : Int32 × aH} (v0 : Nat) (h : aH) (hf : fX11_table_285 v0 h = some z) : Ev (d + 10) none mX11_table (0, 0) 285 [.ref v0, .null, .null, .null] [] h (QI z) := 
  go_ok (X := none) (blk := wX11_table_285) (np := 298) (tt := 0) (kN := fun xs h st => app [2, 0, 0, 0] (fun v0 => apS [1, 1, 2, 1, 2] (fun s0 s1 s2 s3 s4 => fX11_table_298 v0 s0 s1 s2 s3 s4 h) st) xs) (kT := fun _ _ _ => none) (kR := kRI)
    (fun xs h st q => jm [2, 0, 0, 0] _ (fun v0 q => apS_ok [1, 1, 2, 1, 2] _ (fun st => Ev (d + 10) none mX11_table (0, 0) 298 [.ref v0, .null, .null, .null] st h (QI z)) st (fun s0 s1 s2 s3 s4 q => tX11_table_298 v0 s0 s1 s2 s3 s4 h q) q) q)
    (fun _ _ _ q => nos q)
    kRI_ok (Or.inr rfl) (by decide +kernel) (by decide +kernel) hf
def wX11_table_257 : List En := [(.aload_n 0, 0, 0, 0), (.getfield 29, 193, 11, 18), (.bipush 14, 0, 0, 0), (.iload_n 3, 0, 0, 0), (.iadd, 0, 0, 0), (.aload_n 0, 0, 0, 0), (.getfield 23, 191, 11, 16), (.bipush 19, 0, 0, 0), (.iconst 2, 0, 0, 0), (.iload_n 3, 0, 0, 0), (.imul, 0, 0, 0), (.iadd, 0, 0, 0), (.iconst 1, 0, 0, 0), (.iadd, 0, 0, 0), (.iaload, 0, 0, 0), (.iastore, 0, 0, 0), (.iinc 3 1, 0, 0, 0), (.goto (-35), 247, 0, 0)]
def fX11_table_257 (k247 : Nat → Int32 → aH → Option (Int32 × aH)) (v0 : Nat) (v3 : Int32) (h : aH) : Option (Int32 × aH) :=
  (gFR h 11 v0 18).bind fun t1 =>
  (gFR h 11 v0 16).bind fun t2 =>
  (aRI (h[t2]?) (((kB 19) + ((kI 2) * v3)) + (kI 1))).bind fun t3 =>
  (aWI h t1 ((kB 14) + v3) t3).bind fun h4 =>
  k247 v0 (v3 + kI 1) h4
theorem tX11_table_257 {d : Nat} {z : Int32 × aH} {k247 : Nat → Int32 → aH → Option (Int32 × aH)} (hk247 : ∀ (v0 : Nat) (v3 : Int32) (h : aH), k247 v0 v3 h = some z → Ev (d + 10) none mX11_table (0, 0) 247 [.ref v0, .null, .null, .int v3] [] h (QI z)) (v0 : Nat) (v3 : Int32) (h : aH) (hf : fX11_table_257 k247 v0 v3 h = some z) : Ev (d + 10) none mX11_table (0, 0) 257 [.ref v0, .null, .null, .int v3] [] h (QI z) := 
  go_ok (X := none) (blk := wX11_table_257) (np := 285) (tt := 247) (kN := fun _ _ _ => none) (kT := fun xs h st => app [2, 0, 0, 1] (fun v0 v3 => apS [] (k247 v0 v3 h) st) xs) (kR := kRI)
    (fun _ _ _ q => nos q)
    (fun xs h st q => jm [2, 0, 0, 1] _ (fun v0 v3 q => apS_ok [] _ (fun st => Ev (d + 10) none mX11_table (0, 0) 247 [.ref v0, .null, .null, .int v3] st h (QI z)) st (fun q => hk247 v0 v3 h q) q) q)
    kRI_ok (Or.inr rfl) (by decide +kernel) (by decide +kernel) hf
def wX11_table_247 : List En := [(.iload_n 3, 0, 0, 0), (.aload_n 0, 0, 0, 0), (.getfield 23, 191, 11, 16), (.iconst 4, 0, 0, 0), (.iaload, 0, 0, 0), (.if_icmp .ge 31, 285, 0, 0)]
def fX11_table_247 (k247 : Nat → Int32 → aH → Option (Int32 × aH)) (v0 : Nat) (v3 : Int32) (h : aH) : Option (Int32 × aH) :=
  (gFR h 11 v0 16).bind fun t1 =>
  (aRI (h[t1]?) (kI 4)).bind fun t2 =>
  if v3 < t2 then fX11_table_257 k247 v0 v3 h else fX11_table_285 v0 h
theorem tX11_table_247 {d : Nat} {z : Int32 × aH} {k247 : Nat → Int32 → aH → Option (Int32 × aH)} (hk247 : ∀ (v0 : Nat) (v3 : Int32) (h : aH), k247 v0 v3 h = some z → Ev (d + 10) none mX11_table (0, 0) 247 [.ref v0, .null, .null, .int v3] [] h (QI z)) (v0 : Nat) (v3 : Int32) (h : aH) (hf : fX11_table_247 k247 v0 v3 h = some z) : Ev (d + 10) none mX11_table (0, 0) 247 [.ref v0, .null, .null, .int v3] [] h (QI z) := 
  go_ok (X := none) (blk := wX11_table_247) (np := 257) (tt := 285) (kN := fun xs h st => app [2, 0, 0, 1] (fun v0 v3 => apS [] (fX11_table_257 k247 v0 v3 h) st) xs) (kT := fun xs h st => app [2, 0, 0, 0] (fun v0 => apS [] (fX11_table_285 v0 h) st) xs) (kR := kRI)
    (fun xs h st q => jm [2, 0, 0, 1] _ (fun v0 v3 q => apS_ok [] _ (fun st => Ev (d + 10) none mX11_table (0, 0) 257 [.ref v0, .null, .null, .int v3] st h (QI z)) st (fun q => tX11_table_257 hk247 v0 v3 h q) q) q)
    (fun xs h st q => jm [2, 0, 0, 0] _ (fun v0 q => apS_ok [] _ (fun st => Ev (d + 10) none mX11_table (0, 0) 285 [.ref v0, .null, .null, .null] st h (QI z)) st (fun q => tX11_table_285 v0 h q) q) q)
    kRI_ok (Or.inr rfl) (by decide +kernel) (by decide +kernel) hf
def lX11_table_247 : Nat → Nat → Int32 → aH → Option (Int32 × aH)
  | 0, _, _, _ => none
  | n + 1, v0, v3, h => fX11_table_247 (lX11_table_247 n) v0 v3 h
theorem uX11_table_247 {d : Nat} {z : Int32 × aH} : ∀ (n : Nat) (v0 : Nat) (v3 : Int32) (h : aH), lX11_table_247 n v0 v3 h = some z → Ev (d + 10) none mX11_table (0, 0) 247 [.ref v0, .null, .null, .int v3] [] h (QI z) := by
  intro n
  induction n with
  | zero => intro _ _ _ q; exact nos (show (none : Option (Int32 × aH)) = some z from q)
  | succ n ih => intro v0 v3 h q; exact tX11_table_247 ih v0 v3 h q
def wX11_table_245 : List En := [(.iconst 0, 0, 0, 0), (.istore_n 3, 0, 0, 0)]
def fX11_table_245 (v0 : Nat) (h : aH) : Option (Int32 × aH) :=
  lX11_table_247 FU v0 (kI 0) h
theorem tX11_table_245 {d : Nat} {z : Int32 × aH} (v0 : Nat) (h : aH) (hf : fX11_table_245 v0 h = some z) : Ev (d + 10) none mX11_table (0, 0) 245 [.ref v0, .null, .null, .null] [] h (QI z) := 
  go_ok (X := none) (blk := wX11_table_245) (np := 247) (tt := 0) (kN := fun xs h st => app [2, 0, 0, 1] (fun v0 v3 => apS [] (lX11_table_247 FU v0 v3 h) st) xs) (kT := fun _ _ _ => none) (kR := kRI)
    (fun xs h st q => jm [2, 0, 0, 1] _ (fun v0 v3 q => apS_ok [] _ (fun st => Ev (d + 10) none mX11_table (0, 0) 247 [.ref v0, .null, .null, .int v3] st h (QI z)) st (fun q => uX11_table_247 FU v0 v3 h q) q) q)
    (fun _ _ _ q => nos q)
    kRI_ok (Or.inr rfl) (by decide +kernel) (by decide +kernel) hf
def wX11_table_244 : List En := [(.ireturn, 0, 0, 0)]
def fX11_table_244 (s0 : Int32) (h : aH) : Option (Int32 × aH) :=
  some (s0, h)
theorem tX11_table_244 {d : Nat} {z : Int32 × aH} (s0 : Int32) (h : aH) (hf : fX11_table_244 s0 h = some z) : Ev (d + 10) none mX11_table (0, 0) 244 [.null, .null, .null, .null] [.int s0] h (QI z) := 
  go_ok (X := none) (blk := wX11_table_244) (np := 245) (tt := 0) (kN := fun _ _ _ => none) (kT := fun _ _ _ => none) (kR := kRI)
    (fun _ _ _ q => nos q)
    (fun _ _ _ q => nos q)
    kRI_ok (Or.inr rfl) (by decide +kernel) (by decide +kernel) hf
theorem kqX11_table_241 : okC mX11_table 241 (.invokevirtual 164) 183 198 0 1 = true := by decide +kernel
def fX11_table_241 (s0 : Int32) (s1 : Nat) (h : aH) : Option (Int32 × aH) :=
  (isO h 11 s1).bind fun _ =>
  (gX11_no s1 s0 h).bind fun r =>
  fX11_table_244 r.1 r.2
theorem tX11_table_241 {d : Nat} {z : Int32 × aH} (s0 : Int32) (s1 : Nat) (h : aH) (hf : fX11_table_241 s0 s1 h = some z) : Ev (d + 10) none mX11_table (0, 0) 241 [.null, .null, .null, .null] [.int s0, .ref s1] h (QI z) := by
  obtain ⟨_, h1, hf⟩ := bnd hf
  obtain ⟨fs, ho⟩ := isO_ok h1
  obtain ⟨r, h2, hf⟩ := bnd hf
  refine ev_V kqX11_table_241 jX11_no (zX11_no (d := d + 9) h2) ho rfl rfl (Nat.le_of_ble_eq_true rfl) rfl (as := [.int s0]) (rest := []) rfl (Nat.le_of_ble_eq_true rfl) (fun _ _ hq => ?_)
  obtain ⟨rfl, rfl⟩ := hq
  exact jm [0, 0, 0, 0] (fX11_table_244 r.1 r.2) (fun q => tX11_table_244 r.1 r.2 q) hf
def wX11_table_239 : List En := [(.aload_n 0, 0, 0, 0), (.iconst 4, 0, 0, 0)]
def fX11_table_239 (v0 : Nat) (h : aH) : Option (Int32 × aH) :=
  fX11_table_241 (kI 4) v0 h
theorem tX11_table_239 {d : Nat} {z : Int32 × aH} (v0 : Nat) (h : aH) (hf : fX11_table_239 v0 h = some z) : Ev (d + 10) none mX11_table (0, 0) 239 [.ref v0, .null, .null, .null] [] h (QI z) := 
  go_ok (X := none) (blk := wX11_table_239) (np := 241) (tt := 0) (kN := fun xs h st => app [0, 0, 0, 0] (apS [1, 2] (fun s0 s1 => fX11_table_241 s0 s1 h) st) xs) (kT := fun _ _ _ => none) (kR := kRI)
    (fun xs h st q => jm [0, 0, 0, 0] _ (fun q => apS_ok [1, 2] _ (fun st => Ev (d + 10) none mX11_table (0, 0) 241 [.null, .null, .null, .null] st h (QI z)) st (fun s0 s1 q => tX11_table_241 s0 s1 h q) q) q)
    (fun _ _ _ q => nos q)
    kRI_ok (Or.inr rfl) (by decide +kernel) (by decide +kernel) hf
def wX11_table_232 : List En := [(.aload_n 0, 0, 0, 0), (.getfield 91, 188, 11, 13), (.ifCond .eq 9, 245, 0, 0)]
def fX11_table_232 (v0 : Nat) (h : aH) : Option (Int32 × aH) :=
  (gFI h 11 v0 13).bind fun t1 =>
  if t1 = 0 then fX11_table_245 v0 h else fX11_table_239 v0 h
theorem tX11_table_232 {d : Nat} {z : Int32 × aH} (v0 : Nat) (h : aH) (hf : fX11_table_232 v0 h = some z) : Ev (d + 10) none mX11_table (0, 0) 232 [.ref v0, .null, .null, .null] [] h (QI z) := 
  go_ok (X := none) (blk := wX11_table_232) (np := 239) (tt := 245) (kN := fun xs h st => app [2, 0, 0, 0] (fun v0 => apS [] (fX11_table_239 v0 h) st) xs) (kT := fun xs h st => app [2, 0, 0, 0] (fun v0 => apS [] (fX11_table_245 v0 h) st) xs) (kR := kRI)
    (fun xs h st q => jm [2, 0, 0, 0] _ (fun v0 q => apS_ok [] _ (fun st => Ev (d + 10) none mX11_table (0, 0) 239 [.ref v0, .null, .null, .null] st h (QI z)) st (fun q => tX11_table_239 v0 h q) q) q)
    (fun xs h st q => jm [2, 0, 0, 0] _ (fun v0 q => apS_ok [] _ (fun st => Ev (d + 10) none mX11_table (0, 0) 245 [.ref v0, .null, .null, .null] st h (QI z)) st (fun q => tX11_table_245 v0 h q) q) q)
    kRI_ok (Or.inr rfl) (by decide +kernel) (by decide +kernel) hf
theorem kqX11_table_229 : okC mX11_table 229 (.invokevirtual 118) 191 208 0 2 = true := by decide +kernel
def fX11_table_229 (v0 : Nat) (s0 : Int32) (s1 : Int32) (s2 : Nat) (h : aH) : Option (Int32 × aH) :=
  (isO h 11 s2).bind fun _ =>
  (gX11_wrong s2 s1 s0 h).bind fun r =>
  fX11_table_232 v0 r
theorem tX11_table_229 {d : Nat} {z : Int32 × aH} (v0 : Nat) (s0 : Int32) (s1 : Int32) (s2 : Nat) (h : aH) (hf : fX11_table_229 v0 s0 s1 s2 h = some z) : Ev (d + 10) none mX11_table (0, 0) 229 [.ref v0, .null, .null, .null] [.int s0, .int s1, .ref s2] h (QI z) := by
  obtain ⟨_, h1, hf⟩ := bnd hf
  obtain ⟨fs, ho⟩ := isO_ok h1
  obtain ⟨r, h2, hf⟩ := bnd hf
  refine ev_V kqX11_table_229 jX11_wrong (zX11_wrong (d := d + 9) h2) ho rfl rfl (Nat.le_of_ble_eq_true rfl) rfl (as := [.int s1, .int s0]) (rest := []) rfl (Nat.le_of_ble_eq_true rfl) (fun _ _ hq => ?_)
  obtain ⟨rfl, hh⟩ := hq
  rw [hh]
  exact jm [2, 0, 0, 0] (fun v0 => fX11_table_232 v0 r) (fun v0 q => tX11_table_232 v0 r q) hf
def wX11_table_222 : List En := [(.aload_n 0, 0, 0, 0), (.bipush 6, 0, 0, 0), (.aload_n 0, 0, 0, 0), (.getfield 72, 179, 11, 4)]
def fX11_table_222 (v0 : Nat) (h : aH) : Option (Int32 × aH) :=
  (gFI h 11 v0 4).bind fun t1 =>
  fX11_table_229 v0 t1 (kB 6) v0 h
theorem tX11_table_222 {d : Nat} {z : Int32 × aH} (v0 : Nat) (h : aH) (hf : fX11_table_222 v0 h = some z) : Ev (d + 10) none mX11_table (0, 0) 222 [.ref v0, .null, .null, .null] [] h (QI z) := 
  go_ok (X := none) (blk := wX11_table_222) (np := 229) (tt := 0) (kN := fun xs h st => app [2, 0, 0, 0] (fun v0 => apS [1, 1, 2] (fun s0 s1 s2 => fX11_table_229 v0 s0 s1 s2 h) st) xs) (kT := fun _ _ _ => none) (kR := kRI)
    (fun xs h st q => jm [2, 0, 0, 0] _ (fun v0 q => apS_ok [1, 1, 2] _ (fun st => Ev (d + 10) none mX11_table (0, 0) 229 [.ref v0, .null, .null, .null] st h (QI z)) st (fun s0 s1 s2 q => tX11_table_229 v0 s0 s1 s2 h q) q) q)
    (fun _ _ _ q => nos q)
    kRI_ok (Or.inr rfl) (by decide +kernel) (by decide +kernel) hf
def wX11_table_218 : List En := [(.iload_n 2, 0, 0, 0), (.ifCond .ne 13, 232, 0, 0)]
def fX11_table_218 (v0 : Nat) (v2 : Int32) (h : aH) : Option (Int32 × aH) :=
  if v2 = 0 then fX11_table_222 v0 h else fX11_table_232 v0 h
theorem tX11_table_218 {d : Nat} {z : Int32 × aH} (v0 : Nat) (v2 : Int32) (h : aH) (hf : fX11_table_218 v0 v2 h = some z) : Ev (d + 10) none mX11_table (0, 0) 218 [.ref v0, .null, .int v2, .null] [] h (QI z) := 
  go_ok (X := none) (blk := wX11_table_218) (np := 222) (tt := 232) (kN := fun xs h st => app [2, 0, 0, 0] (fun v0 => apS [] (fX11_table_222 v0 h) st) xs) (kT := fun xs h st => app [2, 0, 0, 0] (fun v0 => apS [] (fX11_table_232 v0 h) st) xs) (kR := kRI)
    (fun xs h st q => jm [2, 0, 0, 0] _ (fun v0 q => apS_ok [] _ (fun st => Ev (d + 10) none mX11_table (0, 0) 222 [.ref v0, .null, .null, .null] st h (QI z)) st (fun q => tX11_table_222 v0 h q) q) q)
    (fun xs h st q => jm [2, 0, 0, 0] _ (fun v0 q => apS_ok [] _ (fun st => Ev (d + 10) none mX11_table (0, 0) 232 [.ref v0, .null, .null, .null] st h (QI z)) st (fun q => tX11_table_232 v0 h q) q) q)
    kRI_ok (Or.inr rfl) (by decide +kernel) (by decide +kernel) hf
def wX11_table_209 : List En := [(.aload_n 0, 0, 0, 0), (.getfield 23, 191, 11, 16), (.iconst 3, 0, 0, 0), (.iaload, 0, 0, 0), (.ifCond .eq 7, 222, 0, 0)]
def fX11_table_209 (v0 : Nat) (v2 : Int32) (h : aH) : Option (Int32 × aH) :=
  (gFR h 11 v0 16).bind fun t1 =>
  (aRI (h[t1]?) (kI 3)).bind fun t2 =>
  if t2 = 0 then fX11_table_222 v0 h else fX11_table_218 v0 v2 h
theorem tX11_table_209 {d : Nat} {z : Int32 × aH} (v0 : Nat) (v2 : Int32) (h : aH) (hf : fX11_table_209 v0 v2 h = some z) : Ev (d + 10) none mX11_table (0, 0) 209 [.ref v0, .null, .int v2, .null] [] h (QI z) := 
  go_ok (X := none) (blk := wX11_table_209) (np := 218) (tt := 222) (kN := fun xs h st => app [2, 0, 1, 0] (fun v0 v2 => apS [] (fX11_table_218 v0 v2 h) st) xs) (kT := fun xs h st => app [2, 0, 0, 0] (fun v0 => apS [] (fX11_table_222 v0 h) st) xs) (kR := kRI)
    (fun xs h st q => jm [2, 0, 1, 0] _ (fun v0 v2 q => apS_ok [] _ (fun st => Ev (d + 10) none mX11_table (0, 0) 218 [.ref v0, .null, .int v2, .null] st h (QI z)) st (fun q => tX11_table_218 v0 v2 h q) q) q)
    (fun xs h st q => jm [2, 0, 0, 0] _ (fun v0 q => apS_ok [] _ (fun st => Ev (d + 10) none mX11_table (0, 0) 222 [.ref v0, .null, .null, .null] st h (QI z)) st (fun q => tX11_table_222 v0 h q) q) q)
    kRI_ok (Or.inr rfl) (by decide +kernel) (by decide +kernel) hf
def wX11_table_199 : List En := [(.aload_n 0, 0, 0, 0), (.getfield 23, 191, 11, 16), (.bipush 8, 0, 0, 0), (.iaload, 0, 0, 0), (.ifCond .eq 16, 222, 0, 0)]
def fX11_table_199 (v0 : Nat) (v2 : Int32) (h : aH) : Option (Int32 × aH) :=
  (gFR h 11 v0 16).bind fun t1 =>
  (aRI (h[t1]?) (kB 8)).bind fun t2 =>
  if t2 = 0 then fX11_table_222 v0 h else fX11_table_209 v0 v2 h
theorem tX11_table_199 {d : Nat} {z : Int32 × aH} (v0 : Nat) (v2 : Int32) (h : aH) (hf : fX11_table_199 v0 v2 h = some z) : Ev (d + 10) none mX11_table (0, 0) 199 [.ref v0, .null, .int v2, .null] [] h (QI z) := 
  go_ok (X := none) (blk := wX11_table_199) (np := 209) (tt := 222) (kN := fun xs h st => app [2, 0, 1, 0] (fun v0 v2 => apS [] (fX11_table_209 v0 v2 h) st) xs) (kT := fun xs h st => app [2, 0, 0, 0] (fun v0 => apS [] (fX11_table_222 v0 h) st) xs) (kR := kRI)
    (fun xs h st q => jm [2, 0, 1, 0] _ (fun v0 v2 q => apS_ok [] _ (fun st => Ev (d + 10) none mX11_table (0, 0) 209 [.ref v0, .null, .int v2, .null] st h (QI z)) st (fun q => tX11_table_209 v0 v2 h q) q) q)
    (fun xs h st q => jm [2, 0, 0, 0] _ (fun v0 q => apS_ok [] _ (fun st => Ev (d + 10) none mX11_table (0, 0) 222 [.ref v0, .null, .null, .null] st h (QI z)) st (fun q => tX11_table_222 v0 h q) q) q)
    kRI_ok (Or.inr rfl) (by decide +kernel) (by decide +kernel) hf
def wX11_table_192 : List En := [(.aload_n 0, 0, 0, 0), (.getfield 91, 188, 11, 13), (.ifCond .ne 36, 232, 0, 0)]
def fX11_table_192 (v0 : Nat) (v2 : Int32) (h : aH) : Option (Int32 × aH) :=
  (gFI h 11 v0 13).bind fun t1 =>
  if t1 = 0 then fX11_table_199 v0 v2 h else fX11_table_232 v0 h
theorem tX11_table_192 {d : Nat} {z : Int32 × aH} (v0 : Nat) (v2 : Int32) (h : aH) (hf : fX11_table_192 v0 v2 h = some z) : Ev (d + 10) none mX11_table (0, 0) 192 [.ref v0, .null, .int v2, .null] [] h (QI z) := 
  go_ok (X := none) (blk := wX11_table_192) (np := 199) (tt := 232) (kN := fun xs h st => app [2, 0, 1, 0] (fun v0 v2 => apS [] (fX11_table_199 v0 v2 h) st) xs) (kT := fun xs h st => app [2, 0, 0, 0] (fun v0 => apS [] (fX11_table_232 v0 h) st) xs) (kR := kRI)
    (fun xs h st q => jm [2, 0, 1, 0] _ (fun v0 v2 q => apS_ok [] _ (fun st => Ev (d + 10) none mX11_table (0, 0) 199 [.ref v0, .null, .int v2, .null] st h (QI z)) st (fun q => tX11_table_199 v0 v2 h q) q) q)
    (fun xs h st q => jm [2, 0, 0, 0] _ (fun v0 q => apS_ok [] _ (fun st => Ev (d + 10) none mX11_table (0, 0) 232 [.ref v0, .null, .null, .null] st h (QI z)) st (fun q => tX11_table_232 v0 h q) q) q)
    kRI_ok (Or.inr rfl) (by decide +kernel) (by decide +kernel) hf
def wX11_table_185 : List En := [(.istore_n 2, 0, 0, 0), (.iinc 3 1, 0, 0, 0), (.goto (-37), 152, 0, 0)]
def fX11_table_185 (k152 : Nat → Int32 → Int32 → aH → Option (Int32 × aH)) (v0 : Nat) (v3 : Int32) (s0 : Int32) (h : aH) : Option (Int32 × aH) :=
  k152 v0 s0 (v3 + kI 1) h
theorem tX11_table_185 {d : Nat} {z : Int32 × aH} {k152 : Nat → Int32 → Int32 → aH → Option (Int32 × aH)} (hk152 : ∀ (v0 : Nat) (v2 : Int32) (v3 : Int32) (h : aH), k152 v0 v2 v3 h = some z → Ev (d + 10) none mX11_table (0, 0) 152 [.ref v0, .null, .int v2, .int v3] [] h (QI z)) (v0 : Nat) (v3 : Int32) (s0 : Int32) (h : aH) (hf : fX11_table_185 k152 v0 v3 s0 h = some z) : Ev (d + 10) none mX11_table (0, 0) 185 [.ref v0, .null, .null, .int v3] [.int s0] h (QI z) := 
  go_ok (X := none) (blk := wX11_table_185) (np := 192) (tt := 152) (kN := fun _ _ _ => none) (kT := fun xs h st => app [2, 0, 1, 1] (fun v0 v2 v3 => apS [] (k152 v0 v2 v3 h) st) xs) (kR := kRI)
    (fun _ _ _ q => nos q)
    (fun xs h st q => jm [2, 0, 1, 1] _ (fun v0 v2 v3 q => apS_ok [] _ (fun st => Ev (d + 10) none mX11_table (0, 0) 152 [.ref v0, .null, .int v2, .int v3] st h (QI z)) st (fun q => hk152 v0 v2 v3 h q) q) q)
    kRI_ok (Or.inr rfl) (by decide +kernel) (by decide +kernel) hf
def wX11_table_180 : List En := [(.iconst 1, 0, 0, 0), (.goto 4, 185, 0, 0)]
def fX11_table_180 (k152 : Nat → Int32 → Int32 → aH → Option (Int32 × aH)) (v0 : Nat) (v3 : Int32) (h : aH) : Option (Int32 × aH) :=
  fX11_table_185 k152 v0 v3 (kI 1) h
theorem tX11_table_180 {d : Nat} {z : Int32 × aH} {k152 : Nat → Int32 → Int32 → aH → Option (Int32 × aH)} (hk152 : ∀ (v0 : Nat) (v2 : Int32) (v3 : Int32) (h : aH), k152 v0 v2 v3 h = some z → Ev (d + 10) none mX11_table (0, 0) 152 [.ref v0, .null, .int v2, .int v3] [] h (QI z)) (v0 : Nat) (v3 : Int32) (h : aH) (hf : fX11_table_180 k152 v0 v3 h = some z) : Ev (d + 10) none mX11_table (0, 0) 180 [.ref v0, .null, .null, .int v3] [] h (QI z) := 
  go_ok (X := none) (blk := wX11_table_180) (np := 184) (tt := 185) (kN := fun _ _ _ => none) (kT := fun xs h st => app [2, 0, 0, 1] (fun v0 v3 => apS [1] (fun s0 => fX11_table_185 k152 v0 v3 s0 h) st) xs) (kR := kRI)
    (fun _ _ _ q => nos q)
    (fun xs h st q => jm [2, 0, 0, 1] _ (fun v0 v3 q => apS_ok [1] _ (fun st => Ev (d + 10) none mX11_table (0, 0) 185 [.ref v0, .null, .null, .int v3] st h (QI z)) st (fun s0 q => tX11_table_185 hk152 v0 v3 s0 h q) q) q)
    kRI_ok (Or.inr rfl) (by decide +kernel) (by decide +kernel) hf
def wX11_table_184 : List En := [(.iconst 0, 0, 0, 0)]
def fX11_table_184 (k152 : Nat → Int32 → Int32 → aH → Option (Int32 × aH)) (v0 : Nat) (v3 : Int32) (h : aH) : Option (Int32 × aH) :=
  fX11_table_185 k152 v0 v3 (kI 0) h
theorem tX11_table_184 {d : Nat} {z : Int32 × aH} {k152 : Nat → Int32 → Int32 → aH → Option (Int32 × aH)} (hk152 : ∀ (v0 : Nat) (v2 : Int32) (v3 : Int32) (h : aH), k152 v0 v2 v3 h = some z → Ev (d + 10) none mX11_table (0, 0) 152 [.ref v0, .null, .int v2, .int v3] [] h (QI z)) (v0 : Nat) (v3 : Int32) (h : aH) (hf : fX11_table_184 k152 v0 v3 h = some z) : Ev (d + 10) none mX11_table (0, 0) 184 [.ref v0, .null, .null, .int v3] [] h (QI z) := 
  go_ok (X := none) (blk := wX11_table_184) (np := 185) (tt := 0) (kN := fun xs h st => app [2, 0, 0, 1] (fun v0 v3 => apS [1] (fun s0 => fX11_table_185 k152 v0 v3 s0 h) st) xs) (kT := fun _ _ _ => none) (kR := kRI)
    (fun xs h st q => jm [2, 0, 0, 1] _ (fun v0 v3 q => apS_ok [1] _ (fun st => Ev (d + 10) none mX11_table (0, 0) 185 [.ref v0, .null, .null, .int v3] st h (QI z)) st (fun s0 q => tX11_table_185 hk152 v0 v3 s0 h q) q) q)
    (fun _ _ _ q => nos q)
    kRI_ok (Or.inr rfl) (by decide +kernel) (by decide +kernel) hf
def wX11_table_166 : List En := [(.aload_n 0, 0, 0, 0), (.getfield 23, 191, 11, 16), (.bipush 19, 0, 0, 0), (.iconst 2, 0, 0, 0), (.iload_n 3, 0, 0, 0), (.imul, 0, 0, 0), (.iadd, 0, 0, 0), (.iaload, 0, 0, 0), (.ifCond .ne 7, 184, 0, 0)]
def fX11_table_166 (k152 : Nat → Int32 → Int32 → aH → Option (Int32 × aH)) (v0 : Nat) (v3 : Int32) (h : aH) : Option (Int32 × aH) :=
  (gFR h 11 v0 16).bind fun t1 =>
  (aRI (h[t1]?) ((kB 19) + ((kI 2) * v3))).bind fun t2 =>
  if t2 = 0 then fX11_table_180 k152 v0 v3 h else fX11_table_184 k152 v0 v3 h
theorem tX11_table_166 {d : Nat} {z : Int32 × aH} {k152 : Nat → Int32 → Int32 → aH → Option (Int32 × aH)} (hk152 : ∀ (v0 : Nat) (v2 : Int32) (v3 : Int32) (h : aH), k152 v0 v2 v3 h = some z → Ev (d + 10) none mX11_table (0, 0) 152 [.ref v0, .null, .int v2, .int v3] [] h (QI z)) (v0 : Nat) (v3 : Int32) (h : aH) (hf : fX11_table_166 k152 v0 v3 h = some z) : Ev (d + 10) none mX11_table (0, 0) 166 [.ref v0, .null, .null, .int v3] [] h (QI z) := 
  go_ok (X := none) (blk := wX11_table_166) (np := 180) (tt := 184) (kN := fun xs h st => app [2, 0, 0, 1] (fun v0 v3 => apS [] (fX11_table_180 k152 v0 v3 h) st) xs) (kT := fun xs h st => app [2, 0, 0, 1] (fun v0 v3 => apS [] (fX11_table_184 k152 v0 v3 h) st) xs) (kR := kRI)
    (fun xs h st q => jm [2, 0, 0, 1] _ (fun v0 v3 q => apS_ok [] _ (fun st => Ev (d + 10) none mX11_table (0, 0) 180 [.ref v0, .null, .null, .int v3] st h (QI z)) st (fun q => tX11_table_180 hk152 v0 v3 h q) q) q)
    (fun xs h st q => jm [2, 0, 0, 1] _ (fun v0 v3 q => apS_ok [] _ (fun st => Ev (d + 10) none mX11_table (0, 0) 184 [.ref v0, .null, .null, .int v3] st h (QI z)) st (fun q => tX11_table_184 hk152 v0 v3 h q) q) q)
    kRI_ok (Or.inr rfl) (by decide +kernel) (by decide +kernel) hf
def wX11_table_162 : List En := [(.iload_n 2, 0, 0, 0), (.ifCond .ne 17, 180, 0, 0)]
def fX11_table_162 (k152 : Nat → Int32 → Int32 → aH → Option (Int32 × aH)) (v0 : Nat) (v2 : Int32) (v3 : Int32) (h : aH) : Option (Int32 × aH) :=
  if v2 = 0 then fX11_table_166 k152 v0 v3 h else fX11_table_180 k152 v0 v3 h
theorem tX11_table_162 {d : Nat} {z : Int32 × aH} {k152 : Nat → Int32 → Int32 → aH → Option (Int32 × aH)} (hk152 : ∀ (v0 : Nat) (v2 : Int32) (v3 : Int32) (h : aH), k152 v0 v2 v3 h = some z → Ev (d + 10) none mX11_table (0, 0) 152 [.ref v0, .null, .int v2, .int v3] [] h (QI z)) (v0 : Nat) (v2 : Int32) (v3 : Int32) (h : aH) (hf : fX11_table_162 k152 v0 v2 v3 h = some z) : Ev (d + 10) none mX11_table (0, 0) 162 [.ref v0, .null, .int v2, .int v3] [] h (QI z) := 
  go_ok (X := none) (blk := wX11_table_162) (np := 166) (tt := 180) (kN := fun xs h st => app [2, 0, 0, 1] (fun v0 v3 => apS [] (fX11_table_166 k152 v0 v3 h) st) xs) (kT := fun xs h st => app [2, 0, 0, 1] (fun v0 v3 => apS [] (fX11_table_180 k152 v0 v3 h) st) xs) (kR := kRI)
    (fun xs h st q => jm [2, 0, 0, 1] _ (fun v0 v3 q => apS_ok [] _ (fun st => Ev (d + 10) none mX11_table (0, 0) 166 [.ref v0, .null, .null, .int v3] st h (QI z)) st (fun q => tX11_table_166 hk152 v0 v3 h q) q) q)
    (fun xs h st q => jm [2, 0, 0, 1] _ (fun v0 v3 q => apS_ok [] _ (fun st => Ev (d + 10) none mX11_table (0, 0) 180 [.ref v0, .null, .null, .int v3] st h (QI z)) st (fun q => tX11_table_180 hk152 v0 v3 h q) q) q)
    kRI_ok (Or.inr rfl) (by decide +kernel) (by decide +kernel) hf
def wX11_table_152 : List En := [(.iload_n 3, 0, 0, 0), (.aload_n 0, 0, 0, 0), (.getfield 23, 191, 11, 16), (.iconst 4, 0, 0, 0), (.iaload, 0, 0, 0), (.if_icmp .ge 33, 192, 0, 0)]
def fX11_table_152 (k152 : Nat → Int32 → Int32 → aH → Option (Int32 × aH)) (v0 : Nat) (v2 : Int32) (v3 : Int32) (h : aH) : Option (Int32 × aH) :=
  (gFR h 11 v0 16).bind fun t1 =>
  (aRI (h[t1]?) (kI 4)).bind fun t2 =>
  if v3 < t2 then fX11_table_162 k152 v0 v2 v3 h else fX11_table_192 v0 v2 h
theorem tX11_table_152 {d : Nat} {z : Int32 × aH} {k152 : Nat → Int32 → Int32 → aH → Option (Int32 × aH)} (hk152 : ∀ (v0 : Nat) (v2 : Int32) (v3 : Int32) (h : aH), k152 v0 v2 v3 h = some z → Ev (d + 10) none mX11_table (0, 0) 152 [.ref v0, .null, .int v2, .int v3] [] h (QI z)) (v0 : Nat) (v2 : Int32) (v3 : Int32) (h : aH) (hf : fX11_table_152 k152 v0 v2 v3 h = some z) : Ev (d + 10) none mX11_table (0, 0) 152 [.ref v0, .null, .int v2, .int v3] [] h (QI z) := 
  go_ok (X := none) (blk := wX11_table_152) (np := 162) (tt := 192) (kN := fun xs h st => app [2, 0, 1, 1] (fun v0 v2 v3 => apS [] (fX11_table_162 k152 v0 v2 v3 h) st) xs) (kT := fun xs h st => app [2, 0, 1, 0] (fun v0 v2 => apS [] (fX11_table_192 v0 v2 h) st) xs) (kR := kRI)
    (fun xs h st q => jm [2, 0, 1, 1] _ (fun v0 v2 v3 q => apS_ok [] _ (fun st => Ev (d + 10) none mX11_table (0, 0) 162 [.ref v0, .null, .int v2, .int v3] st h (QI z)) st (fun q => tX11_table_162 hk152 v0 v2 v3 h q) q) q)
    (fun xs h st q => jm [2, 0, 1, 0] _ (fun v0 v2 q => apS_ok [] _ (fun st => Ev (d + 10) none mX11_table (0, 0) 192 [.ref v0, .null, .int v2, .null] st h (QI z)) st (fun q => tX11_table_192 v0 v2 h q) q) q)
    kRI_ok (Or.inr rfl) (by decide +kernel) (by decide +kernel) hf
def lX11_table_152 : Nat → Nat → Int32 → Int32 → aH → Option (Int32 × aH)
  | 0, _, _, _, _ => none
  | n + 1, v0, v2, v3, h => fX11_table_152 (lX11_table_152 n) v0 v2 v3 h
theorem uX11_table_152 {d : Nat} {z : Int32 × aH} : ∀ (n : Nat) (v0 : Nat) (v2 : Int32) (v3 : Int32) (h : aH), lX11_table_152 n v0 v2 v3 h = some z → Ev (d + 10) none mX11_table (0, 0) 152 [.ref v0, .null, .int v2, .int v3] [] h (QI z) := by
  intro n
  induction n with
  | zero => intro _ _ _ _ q; exact nos (show (none : Option (Int32 × aH)) = some z from q)
  | succ n ih => intro v0 v2 v3 h q; exact tX11_table_152 ih v0 v2 v3 h q
def wX11_table_148 : List En := [(.iconst 0, 0, 0, 0), (.istore_n 2, 0, 0, 0), (.iconst 0, 0, 0, 0), (.istore_n 3, 0, 0, 0)]
def fX11_table_148 (v0 : Nat) (h : aH) : Option (Int32 × aH) :=
  lX11_table_152 FU v0 (kI 0) (kI 0) h
theorem tX11_table_148 {d : Nat} {z : Int32 × aH} (v0 : Nat) (h : aH) (hf : fX11_table_148 v0 h = some z) : Ev (d + 10) none mX11_table (0, 0) 148 [.ref v0, .null, .null, .null] [] h (QI z) := 
  go_ok (X := none) (blk := wX11_table_148) (np := 152) (tt := 0) (kN := fun xs h st => app [2, 0, 1, 1] (fun v0 v2 v3 => apS [] (lX11_table_152 FU v0 v2 v3 h) st) xs) (kT := fun _ _ _ => none) (kR := kRI)
    (fun xs h st q => jm [2, 0, 1, 1] _ (fun v0 v2 v3 q => apS_ok [] _ (fun st => Ev (d + 10) none mX11_table (0, 0) 152 [.ref v0, .null, .int v2, .int v3] st h (QI z)) st (fun q => uX11_table_152 FU v0 v2 v3 h q) q) q)
    (fun _ _ _ q => nos q)
    kRI_ok (Or.inr rfl) (by decide +kernel) (by decide +kernel) hf
theorem kqX11_table_145 : okC mX11_table 145 (.invokevirtual 118) 191 208 0 2 = true := by decide +kernel
def fX11_table_145 (v0 : Nat) (s0 : Int32) (s1 : Int32) (s2 : Nat) (h : aH) : Option (Int32 × aH) :=
  (isO h 11 s2).bind fun _ =>
  (gX11_wrong s2 s1 s0 h).bind fun r =>
  fX11_table_148 v0 r
theorem tX11_table_145 {d : Nat} {z : Int32 × aH} (v0 : Nat) (s0 : Int32) (s1 : Int32) (s2 : Nat) (h : aH) (hf : fX11_table_145 v0 s0 s1 s2 h = some z) : Ev (d + 10) none mX11_table (0, 0) 145 [.ref v0, .null, .null, .null] [.int s0, .int s1, .ref s2] h (QI z) := by
  obtain ⟨_, h1, hf⟩ := bnd hf
  obtain ⟨fs, ho⟩ := isO_ok h1
  obtain ⟨r, h2, hf⟩ := bnd hf
  refine ev_V kqX11_table_145 jX11_wrong (zX11_wrong (d := d + 9) h2) ho rfl rfl (Nat.le_of_ble_eq_true rfl) rfl (as := [.int s1, .int s0]) (rest := []) rfl (Nat.le_of_ble_eq_true rfl) (fun _ _ hq => ?_)
  obtain ⟨rfl, hh⟩ := hq
  rw [hh]
  exact jm [2, 0, 0, 0] (fun v0 => fX11_table_148 v0 r) (fun v0 q => tX11_table_148 v0 r q) hf
def wX11_table_139 : List En := [(.aload_n 0, 0, 0, 0), (.iconst 1, 0, 0, 0), (.aload_n 0, 0, 0, 0), (.getfield 72, 179, 11, 4)]
def fX11_table_139 (v0 : Nat) (h : aH) : Option (Int32 × aH) :=
  (gFI h 11 v0 4).bind fun t1 =>
  fX11_table_145 v0 t1 (kI 1) v0 h
theorem tX11_table_139 {d : Nat} {z : Int32 × aH} (v0 : Nat) (h : aH) (hf : fX11_table_139 v0 h = some z) : Ev (d + 10) none mX11_table (0, 0) 139 [.ref v0, .null, .null, .null] [] h (QI z) := 
  go_ok (X := none) (blk := wX11_table_139) (np := 145) (tt := 0) (kN := fun xs h st => app [2, 0, 0, 0] (fun v0 => apS [1, 1, 2] (fun s0 s1 s2 => fX11_table_145 v0 s0 s1 s2 h) st) xs) (kT := fun _ _ _ => none) (kR := kRI)
    (fun xs h st q => jm [2, 0, 0, 0] _ (fun v0 q => apS_ok [1, 1, 2] _ (fun st => Ev (d + 10) none mX11_table (0, 0) 145 [.ref v0, .null, .null, .null] st h (QI z)) st (fun s0 s1 s2 q => tX11_table_145 v0 s0 s1 s2 h q) q) q)
    (fun _ _ _ q => nos q)
    kRI_ok (Or.inr rfl) (by decide +kernel) (by decide +kernel) hf
def wX11_table_132 : List En := [(.aload_n 0, 0, 0, 0), (.getfield 81, 181, 11, 6), (.ifCond .eq 12, 148, 0, 0)]
def fX11_table_132 (v0 : Nat) (h : aH) : Option (Int32 × aH) :=
  (gFI h 11 v0 6).bind fun t1 =>
  if t1 = 0 then fX11_table_148 v0 h else fX11_table_139 v0 h
theorem tX11_table_132 {d : Nat} {z : Int32 × aH} (v0 : Nat) (h : aH) (hf : fX11_table_132 v0 h = some z) : Ev (d + 10) none mX11_table (0, 0) 132 [.ref v0, .null, .null, .null] [] h (QI z) := 
  go_ok (X := none) (blk := wX11_table_132) (np := 139) (tt := 148) (kN := fun xs h st => app [2, 0, 0, 0] (fun v0 => apS [] (fX11_table_139 v0 h) st) xs) (kT := fun xs h st => app [2, 0, 0, 0] (fun v0 => apS [] (fX11_table_148 v0 h) st) xs) (kR := kRI)
    (fun xs h st q => jm [2, 0, 0, 0] _ (fun v0 q => apS_ok [] _ (fun st => Ev (d + 10) none mX11_table (0, 0) 139 [.ref v0, .null, .null, .null] st h (QI z)) st (fun q => tX11_table_139 v0 h q) q) q)
    (fun xs h st q => jm [2, 0, 0, 0] _ (fun v0 q => apS_ok [] _ (fun st => Ev (d + 10) none mX11_table (0, 0) 148 [.ref v0, .null, .null, .null] st h (QI z)) st (fun q => tX11_table_148 v0 h q) q) q)
    kRI_ok (Or.inr rfl) (by decide +kernel) (by decide +kernel) hf
def wX11_table_125 : List En := [(.aload_n 0, 0, 0, 0), (.getfield 91, 188, 11, 13), (.ifCond .ne 19, 148, 0, 0)]
def fX11_table_125 (v0 : Nat) (h : aH) : Option (Int32 × aH) :=
  (gFI h 11 v0 13).bind fun t1 =>
  if t1 = 0 then fX11_table_132 v0 h else fX11_table_148 v0 h
theorem tX11_table_125 {d : Nat} {z : Int32 × aH} (v0 : Nat) (h : aH) (hf : fX11_table_125 v0 h = some z) : Ev (d + 10) none mX11_table (0, 0) 125 [.ref v0, .null, .null, .null] [] h (QI z) := 
  go_ok (X := none) (blk := wX11_table_125) (np := 132) (tt := 148) (kN := fun xs h st => app [2, 0, 0, 0] (fun v0 => apS [] (fX11_table_132 v0 h) st) xs) (kT := fun xs h st => app [2, 0, 0, 0] (fun v0 => apS [] (fX11_table_148 v0 h) st) xs) (kR := kRI)
    (fun xs h st q => jm [2, 0, 0, 0] _ (fun v0 q => apS_ok [] _ (fun st => Ev (d + 10) none mX11_table (0, 0) 132 [.ref v0, .null, .null, .null] st h (QI z)) st (fun q => tX11_table_132 v0 h q) q) q)
    (fun xs h st q => jm [2, 0, 0, 0] _ (fun v0 q => apS_ok [] _ (fun st => Ev (d + 10) none mX11_table (0, 0) 148 [.ref v0, .null, .null, .null] st h (QI z)) st (fun q => tX11_table_148 v0 h q) q) q)
    kRI_ok (Or.inr rfl) (by decide +kernel) (by decide +kernel) hf
def wX11_table_122 : List En := [(.goto (-24), 98, 0, 0)]
def fX11_table_122 (k98 : Nat → aH → Option (Int32 × aH)) (v0 : Nat) (h : aH) : Option (Int32 × aH) :=
  k98 v0 h
theorem tX11_table_122 {d : Nat} {z : Int32 × aH} {k98 : Nat → aH → Option (Int32 × aH)} (hk98 : ∀ (v0 : Nat) (h : aH), k98 v0 h = some z → Ev (d + 10) none mX11_table (0, 0) 98 [.ref v0, .null, .null, .null] [] h (QI z)) (v0 : Nat) (h : aH) (hf : fX11_table_122 k98 v0 h = some z) : Ev (d + 10) none mX11_table (0, 0) 122 [.ref v0, .null, .null, .null] [] h (QI z) := 
  go_ok (X := none) (blk := wX11_table_122) (np := 125) (tt := 98) (kN := fun _ _ _ => none) (kT := fun xs h st => app [2, 0, 0, 0] (fun v0 => apS [] (k98 v0 h) st) xs) (kR := kRI)
    (fun _ _ _ q => nos q)
    (fun xs h st q => jm [2, 0, 0, 0] _ (fun v0 q => apS_ok [] _ (fun st => Ev (d + 10) none mX11_table (0, 0) 98 [.ref v0, .null, .null, .null] st h (QI z)) st (fun q => hk98 v0 h q) q) q)
    kRI_ok (Or.inr rfl) (by decide +kernel) (by decide +kernel) hf
theorem kqX11_table_119 : okC mX11_table 119 (.invokevirtual 167) 188 203 0 0 = true := by decide +kernel
def fX11_table_119 (k98 : Nat → aH → Option (Int32 × aH)) (v0 : Nat) (s0 : Nat) (h : aH) : Option (Int32 × aH) :=
  (isO h 11 s0).bind fun _ =>
  (gX11_readLine s0 h).bind fun r =>
  fX11_table_122 k98 v0 r
theorem tX11_table_119 {d : Nat} {z : Int32 × aH} {k98 : Nat → aH → Option (Int32 × aH)} (hk98 : ∀ (v0 : Nat) (h : aH), k98 v0 h = some z → Ev (d + 10) none mX11_table (0, 0) 98 [.ref v0, .null, .null, .null] [] h (QI z)) (v0 : Nat) (s0 : Nat) (h : aH) (hf : fX11_table_119 k98 v0 s0 h = some z) : Ev (d + 10) none mX11_table (0, 0) 119 [.ref v0, .null, .null, .null] [.ref s0] h (QI z) := by
  obtain ⟨_, h1, hf⟩ := bnd hf
  obtain ⟨fs, ho⟩ := isO_ok h1
  obtain ⟨r, h2, hf⟩ := bnd hf
  refine ev_V kqX11_table_119 jX11_readLine (zX11_readLine (d := d + 0) h2) ho rfl rfl (Nat.le_of_ble_eq_true rfl) rfl (as := []) (rest := []) rfl (Nat.le_of_ble_eq_true rfl) (fun _ _ hq => ?_)
  obtain ⟨rfl, hh⟩ := hq
  rw [hh]
  exact jm [2, 0, 0, 0] (fun v0 => fX11_table_122 k98 v0 r) (fun v0 q => tX11_table_122 hk98 v0 r q) hf
def wX11_table_118 : List En := [(.aload_n 0, 0, 0, 0)]
def fX11_table_118 (k98 : Nat → aH → Option (Int32 × aH)) (v0 : Nat) (h : aH) : Option (Int32 × aH) :=
  fX11_table_119 k98 v0 v0 h
theorem tX11_table_118 {d : Nat} {z : Int32 × aH} {k98 : Nat → aH → Option (Int32 × aH)} (hk98 : ∀ (v0 : Nat) (h : aH), k98 v0 h = some z → Ev (d + 10) none mX11_table (0, 0) 98 [.ref v0, .null, .null, .null] [] h (QI z)) (v0 : Nat) (h : aH) (hf : fX11_table_118 k98 v0 h = some z) : Ev (d + 10) none mX11_table (0, 0) 118 [.ref v0, .null, .null, .null] [] h (QI z) := 
  go_ok (X := none) (blk := wX11_table_118) (np := 119) (tt := 0) (kN := fun xs h st => app [2, 0, 0, 0] (fun v0 => apS [2] (fun s0 => fX11_table_119 k98 v0 s0 h) st) xs) (kT := fun _ _ _ => none) (kR := kRI)
    (fun xs h st q => jm [2, 0, 0, 0] _ (fun v0 q => apS_ok [2] _ (fun st => Ev (d + 10) none mX11_table (0, 0) 119 [.ref v0, .null, .null, .null] st h (QI z)) st (fun s0 q => tX11_table_119 hk98 v0 s0 h q) q) q)
    (fun _ _ _ q => nos q)
    kRI_ok (Or.inr rfl) (by decide +kernel) (by decide +kernel) hf
theorem kqX11_table_115 : okC mX11_table 115 (.invokevirtual 112) 184 199 0 0 = true := by decide +kernel
def fX11_table_115 (k98 : Nat → aH → Option (Int32 × aH)) (v0 : Nat) (s0 : Nat) (h : aH) : Option (Int32 × aH) :=
  (isO h 11 s0).bind fun _ =>
  (gX11_next s0 h).bind fun r =>
  fX11_table_118 k98 v0 r
theorem tX11_table_115 {d : Nat} {z : Int32 × aH} {k98 : Nat → aH → Option (Int32 × aH)} (hk98 : ∀ (v0 : Nat) (h : aH), k98 v0 h = some z → Ev (d + 10) none mX11_table (0, 0) 98 [.ref v0, .null, .null, .null] [] h (QI z)) (v0 : Nat) (s0 : Nat) (h : aH) (hf : fX11_table_115 k98 v0 s0 h = some z) : Ev (d + 10) none mX11_table (0, 0) 115 [.ref v0, .null, .null, .null] [.ref s0] h (QI z) := by
  obtain ⟨_, h1, hf⟩ := bnd hf
  obtain ⟨fs, ho⟩ := isO_ok h1
  obtain ⟨r, h2, hf⟩ := bnd hf
  refine ev_V kqX11_table_115 jX11_next (zX11_next (d := d + 8) h2) ho rfl rfl (Nat.le_of_ble_eq_true rfl) rfl (as := []) (rest := []) rfl (Nat.le_of_ble_eq_true rfl) (fun _ _ hq => ?_)
  obtain ⟨rfl, hh⟩ := hq
  rw [hh]
  exact jm [2, 0, 0, 0] (fun v0 => fX11_table_118 k98 v0 r) (fun v0 q => tX11_table_118 hk98 v0 r q) hf
def wX11_table_114 : List En := [(.aload_n 0, 0, 0, 0)]
def fX11_table_114 (k98 : Nat → aH → Option (Int32 × aH)) (v0 : Nat) (h : aH) : Option (Int32 × aH) :=
  fX11_table_115 k98 v0 v0 h
theorem tX11_table_114 {d : Nat} {z : Int32 × aH} {k98 : Nat → aH → Option (Int32 × aH)} (hk98 : ∀ (v0 : Nat) (h : aH), k98 v0 h = some z → Ev (d + 10) none mX11_table (0, 0) 98 [.ref v0, .null, .null, .null] [] h (QI z)) (v0 : Nat) (h : aH) (hf : fX11_table_114 k98 v0 h = some z) : Ev (d + 10) none mX11_table (0, 0) 114 [.ref v0, .null, .null, .null] [] h (QI z) := 
  go_ok (X := none) (blk := wX11_table_114) (np := 115) (tt := 0) (kN := fun xs h st => app [2, 0, 0, 0] (fun v0 => apS [2] (fun s0 => fX11_table_115 k98 v0 s0 h) st) xs) (kT := fun _ _ _ => none) (kR := kRI)
    (fun xs h st q => jm [2, 0, 0, 0] _ (fun v0 q => apS_ok [2] _ (fun st => Ev (d + 10) none mX11_table (0, 0) 115 [.ref v0, .null, .null, .null] st h (QI z)) st (fun s0 q => tX11_table_115 hk98 v0 s0 h q) q) q)
    (fun _ _ _ q => nos q)
    kRI_ok (Or.inr rfl) (by decide +kernel) (by decide +kernel) hf
def wX11_table_105 : List En := [(.aload_n 0, 0, 0, 0), (.getfield 81, 181, 11, 6), (.bipush 59, 0, 0, 0), (.if_icmp .ne 14, 125, 0, 0)]
def fX11_table_105 (k98 : Nat → aH → Option (Int32 × aH)) (v0 : Nat) (h : aH) : Option (Int32 × aH) :=
  (gFI h 11 v0 6).bind fun t1 =>
  if t1 = (kB 59) then fX11_table_114 k98 v0 h else fX11_table_125 v0 h
theorem tX11_table_105 {d : Nat} {z : Int32 × aH} {k98 : Nat → aH → Option (Int32 × aH)} (hk98 : ∀ (v0 : Nat) (h : aH), k98 v0 h = some z → Ev (d + 10) none mX11_table (0, 0) 98 [.ref v0, .null, .null, .null] [] h (QI z)) (v0 : Nat) (h : aH) (hf : fX11_table_105 k98 v0 h = some z) : Ev (d + 10) none mX11_table (0, 0) 105 [.ref v0, .null, .null, .null] [] h (QI z) := 
  go_ok (X := none) (blk := wX11_table_105) (np := 114) (tt := 125) (kN := fun xs h st => app [2, 0, 0, 0] (fun v0 => apS [] (fX11_table_114 k98 v0 h) st) xs) (kT := fun xs h st => app [2, 0, 0, 0] (fun v0 => apS [] (fX11_table_125 v0 h) st) xs) (kR := kRI)
    (fun xs h st q => jm [2, 0, 0, 0] _ (fun v0 q => apS_ok [] _ (fun st => Ev (d + 10) none mX11_table (0, 0) 114 [.ref v0, .null, .null, .null] st h (QI z)) st (fun q => tX11_table_114 hk98 v0 h q) q) q)
    (fun xs h st q => jm [2, 0, 0, 0] _ (fun v0 q => apS_ok [] _ (fun st => Ev (d + 10) none mX11_table (0, 0) 125 [.ref v0, .null, .null, .null] st h (QI z)) st (fun q => tX11_table_125 v0 h q) q) q)
    kRI_ok (Or.inr rfl) (by decide +kernel) (by decide +kernel) hf
def wX11_table_98 : List En := [(.aload_n 0, 0, 0, 0), (.getfield 91, 188, 11, 13), (.ifCond .ne 23, 125, 0, 0)]
def fX11_table_98 (k98 : Nat → aH → Option (Int32 × aH)) (v0 : Nat) (h : aH) : Option (Int32 × aH) :=
  (gFI h 11 v0 13).bind fun t1 =>
  if t1 = 0 then fX11_table_105 k98 v0 h else fX11_table_125 v0 h
theorem tX11_table_98 {d : Nat} {z : Int32 × aH} {k98 : Nat → aH → Option (Int32 × aH)} (hk98 : ∀ (v0 : Nat) (h : aH), k98 v0 h = some z → Ev (d + 10) none mX11_table (0, 0) 98 [.ref v0, .null, .null, .null] [] h (QI z)) (v0 : Nat) (h : aH) (hf : fX11_table_98 k98 v0 h = some z) : Ev (d + 10) none mX11_table (0, 0) 98 [.ref v0, .null, .null, .null] [] h (QI z) := 
  go_ok (X := none) (blk := wX11_table_98) (np := 105) (tt := 125) (kN := fun xs h st => app [2, 0, 0, 0] (fun v0 => apS [] (fX11_table_105 k98 v0 h) st) xs) (kT := fun xs h st => app [2, 0, 0, 0] (fun v0 => apS [] (fX11_table_125 v0 h) st) xs) (kR := kRI)
    (fun xs h st q => jm [2, 0, 0, 0] _ (fun v0 q => apS_ok [] _ (fun st => Ev (d + 10) none mX11_table (0, 0) 105 [.ref v0, .null, .null, .null] st h (QI z)) st (fun q => tX11_table_105 hk98 v0 h q) q) q)
    (fun xs h st q => jm [2, 0, 0, 0] _ (fun v0 q => apS_ok [] _ (fun st => Ev (d + 10) none mX11_table (0, 0) 125 [.ref v0, .null, .null, .null] st h (QI z)) st (fun q => tX11_table_125 v0 h q) q) q)
    kRI_ok (Or.inr rfl) (by decide +kernel) (by decide +kernel) hf
def lX11_table_98 : Nat → Nat → aH → Option (Int32 × aH)
  | 0, _, _ => none
  | n + 1, v0, h => fX11_table_98 (lX11_table_98 n) v0 h
theorem uX11_table_98 {d : Nat} {z : Int32 × aH} : ∀ (n : Nat) (v0 : Nat) (h : aH), lX11_table_98 n v0 h = some z → Ev (d + 10) none mX11_table (0, 0) 98 [.ref v0, .null, .null, .null] [] h (QI z) := by
  intro n
  induction n with
  | zero => intro _ _ q; exact nos (show (none : Option (Int32 × aH)) = some z from q)
  | succ n ih => intro v0 h q; exact tX11_table_98 ih v0 h q
theorem kqX11_table_95 : okC mX11_table 95 (.invokevirtual 167) 188 203 0 0 = true := by decide +kernel
def fX11_table_95 (v0 : Nat) (s0 : Nat) (h : aH) : Option (Int32 × aH) :=
  (isO h 11 s0).bind fun _ =>
  (gX11_readLine s0 h).bind fun r =>
  lX11_table_98 FU v0 r
theorem tX11_table_95 {d : Nat} {z : Int32 × aH} (v0 : Nat) (s0 : Nat) (h : aH) (hf : fX11_table_95 v0 s0 h = some z) : Ev (d + 10) none mX11_table (0, 0) 95 [.ref v0, .null, .null, .null] [.ref s0] h (QI z) := by
  obtain ⟨_, h1, hf⟩ := bnd hf
  obtain ⟨fs, ho⟩ := isO_ok h1
  obtain ⟨r, h2, hf⟩ := bnd hf
  refine ev_V kqX11_table_95 jX11_readLine (zX11_readLine (d := d + 0) h2) ho rfl rfl (Nat.le_of_ble_eq_true rfl) rfl (as := []) (rest := []) rfl (Nat.le_of_ble_eq_true rfl) (fun _ _ hq => ?_)
  obtain ⟨rfl, hh⟩ := hq
  rw [hh]
  exact jm [2, 0, 0, 0] (fun v0 => lX11_table_98 FU v0 r) (fun v0 q => uX11_table_98 FU v0 r q) hf
def wX11_table_94 : List En := [(.aload_n 0, 0, 0, 0)]
def fX11_table_94 (v0 : Nat) (h : aH) : Option (Int32 × aH) :=
  fX11_table_95 v0 v0 h
theorem tX11_table_94 {d : Nat} {z : Int32 × aH} (v0 : Nat) (h : aH) (hf : fX11_table_94 v0 h = some z) : Ev (d + 10) none mX11_table (0, 0) 94 [.ref v0, .null, .null, .null] [] h (QI z) := 
  go_ok (X := none) (blk := wX11_table_94) (np := 95) (tt := 0) (kN := fun xs h st => app [2, 0, 0, 0] (fun v0 => apS [2] (fun s0 => fX11_table_95 v0 s0 h) st) xs) (kT := fun _ _ _ => none) (kR := kRI)
    (fun xs h st q => jm [2, 0, 0, 0] _ (fun v0 q => apS_ok [2] _ (fun st => Ev (d + 10) none mX11_table (0, 0) 95 [.ref v0, .null, .null, .null] st h (QI z)) st (fun s0 q => tX11_table_95 v0 s0 h q) q) q)
    (fun _ _ _ q => nos q)
    kRI_ok (Or.inr rfl) (by decide +kernel) (by decide +kernel) hf
theorem kqX11_table_91 : okC mX11_table 91 (.invokevirtual 112) 184 199 0 0 = true := by decide +kernel
def fX11_table_91 (v0 : Nat) (s0 : Nat) (h : aH) : Option (Int32 × aH) :=
  (isO h 11 s0).bind fun _ =>
  (gX11_next s0 h).bind fun r =>
  fX11_table_94 v0 r
theorem tX11_table_91 {d : Nat} {z : Int32 × aH} (v0 : Nat) (s0 : Nat) (h : aH) (hf : fX11_table_91 v0 s0 h = some z) : Ev (d + 10) none mX11_table (0, 0) 91 [.ref v0, .null, .null, .null] [.ref s0] h (QI z) := by
  obtain ⟨_, h1, hf⟩ := bnd hf
  obtain ⟨fs, ho⟩ := isO_ok h1
  obtain ⟨r, h2, hf⟩ := bnd hf
  refine ev_V kqX11_table_91 jX11_next (zX11_next (d := d + 8) h2) ho rfl rfl (Nat.le_of_ble_eq_true rfl) rfl (as := []) (rest := []) rfl (Nat.le_of_ble_eq_true rfl) (fun _ _ hq => ?_)
  obtain ⟨rfl, hh⟩ := hq
  rw [hh]
  exact jm [2, 0, 0, 0] (fun v0 => fX11_table_94 v0 r) (fun v0 q => tX11_table_94 v0 r q) hf
def wX11_table_80 : List En := [(.aload_n 0, 0, 0, 0), (.iload_n 1, 0, 0, 0), (.putfield 62, 178, 11, 3), (.aload_n 0, 0, 0, 0), (.iconst 0, 0, 0, 0), (.putfield 65, 180, 11, 5), (.aload_n 0, 0, 0, 0)]
def fX11_table_80 (v0 : Nat) (v1 : Int32) (h : aH) : Option (Int32 × aH) :=
  (pWV h 11 v0 3 (.int v1)).bind fun h1 =>
  (pWV h1 11 v0 5 (.int (kI 0))).bind fun h2 =>
  fX11_table_91 v0 v0 h2
theorem tX11_table_80 {d : Nat} {z : Int32 × aH} (v0 : Nat) (v1 : Int32) (h : aH) (hf : fX11_table_80 v0 v1 h = some z) : Ev (d + 10) none mX11_table (0, 0) 80 [.ref v0, .int v1, .null, .null] [] h (QI z) := 
  go_ok (X := none) (blk := wX11_table_80) (np := 91) (tt := 0) (kN := fun xs h st => app [2, 0, 0, 0] (fun v0 => apS [2] (fun s0 => fX11_table_91 v0 s0 h) st) xs) (kT := fun _ _ _ => none) (kR := kRI)
    (fun xs h st q => jm [2, 0, 0, 0] _ (fun v0 q => apS_ok [2] _ (fun st => Ev (d + 10) none mX11_table (0, 0) 91 [.ref v0, .null, .null, .null] st h (QI z)) st (fun s0 q => tX11_table_91 v0 s0 h q) q) q)
    (fun _ _ _ q => nos q)
    kRI_ok (Or.inr rfl) (by decide +kernel) (by decide +kernel) hf
def wX11_table_67 : List En := [(.aload_n 0, 0, 0, 0), (.getfield 29, 193, 11, 18), (.iload_n 2, 0, 0, 0), (.iconst 0, 0, 0, 0), (.iastore, 0, 0, 0), (.iinc 2 1, 0, 0, 0), (.goto (-16), 61, 0, 0)]
def fX11_table_67 (k61 : Nat → Int32 → Int32 → aH → Option (Int32 × aH)) (v0 : Nat) (v1 : Int32) (v2 : Int32) (h : aH) : Option (Int32 × aH) :=
  (gFR h 11 v0 18).bind fun t1 =>
  (aWI h t1 v2 (kI 0)).bind fun h2 =>
  k61 v0 v1 (v2 + kI 1) h2
theorem tX11_table_67 {d : Nat} {z : Int32 × aH} {k61 : Nat → Int32 → Int32 → aH → Option (Int32 × aH)} (hk61 : ∀ (v0 : Nat) (v1 : Int32) (v2 : Int32) (h : aH), k61 v0 v1 v2 h = some z → Ev (d + 10) none mX11_table (0, 0) 61 [.ref v0, .int v1, .int v2, .null] [] h (QI z)) (v0 : Nat) (v1 : Int32) (v2 : Int32) (h : aH) (hf : fX11_table_67 k61 v0 v1 v2 h = some z) : Ev (d + 10) none mX11_table (0, 0) 67 [.ref v0, .int v1, .int v2, .null] [] h (QI z) := 
  go_ok (X := none) (blk := wX11_table_67) (np := 80) (tt := 61) (kN := fun _ _ _ => none) (kT := fun xs h st => app [2, 1, 1, 0] (fun v0 v1 v2 => apS [] (k61 v0 v1 v2 h) st) xs) (kR := kRI)
    (fun _ _ _ q => nos q)
    (fun xs h st q => jm [2, 1, 1, 0] _ (fun v0 v1 v2 q => apS_ok [] _ (fun st => Ev (d + 10) none mX11_table (0, 0) 61 [.ref v0, .int v1, .int v2, .null] st h (QI z)) st (fun q => hk61 v0 v1 v2 h q) q) q)
    kRI_ok (Or.inr rfl) (by decide +kernel) (by decide +kernel) hf
def wX11_table_61 : List En := [(.iload_n 2, 0, 0, 0), (.bipush 22, 0, 0, 0), (.if_icmp .ge 16, 80, 0, 0)]
def fX11_table_61 (k61 : Nat → Int32 → Int32 → aH → Option (Int32 × aH)) (v0 : Nat) (v1 : Int32) (v2 : Int32) (h : aH) : Option (Int32 × aH) :=
  if v2 < (kB 22) then fX11_table_67 k61 v0 v1 v2 h else fX11_table_80 v0 v1 h
theorem tX11_table_61 {d : Nat} {z : Int32 × aH} {k61 : Nat → Int32 → Int32 → aH → Option (Int32 × aH)} (hk61 : ∀ (v0 : Nat) (v1 : Int32) (v2 : Int32) (h : aH), k61 v0 v1 v2 h = some z → Ev (d + 10) none mX11_table (0, 0) 61 [.ref v0, .int v1, .int v2, .null] [] h (QI z)) (v0 : Nat) (v1 : Int32) (v2 : Int32) (h : aH) (hf : fX11_table_61 k61 v0 v1 v2 h = some z) : Ev (d + 10) none mX11_table (0, 0) 61 [.ref v0, .int v1, .int v2, .null] [] h (QI z) := 
  go_ok (X := none) (blk := wX11_table_61) (np := 67) (tt := 80) (kN := fun xs h st => app [2, 1, 1, 0] (fun v0 v1 v2 => apS [] (fX11_table_67 k61 v0 v1 v2 h) st) xs) (kT := fun xs h st => app [2, 1, 0, 0] (fun v0 v1 => apS [] (fX11_table_80 v0 v1 h) st) xs) (kR := kRI)
    (fun xs h st q => jm [2, 1, 1, 0] _ (fun v0 v1 v2 q => apS_ok [] _ (fun st => Ev (d + 10) none mX11_table (0, 0) 67 [.ref v0, .int v1, .int v2, .null] st h (QI z)) st (fun q => tX11_table_67 hk61 v0 v1 v2 h q) q) q)
    (fun xs h st q => jm [2, 1, 0, 0] _ (fun v0 v1 q => apS_ok [] _ (fun st => Ev (d + 10) none mX11_table (0, 0) 80 [.ref v0, .int v1, .null, .null] st h (QI z)) st (fun q => tX11_table_80 v0 v1 h q) q) q)
    kRI_ok (Or.inr rfl) (by decide +kernel) (by decide +kernel) hf
def lX11_table_61 : Nat → Nat → Int32 → Int32 → aH → Option (Int32 × aH)
  | 0, _, _, _, _ => none
  | n + 1, v0, v1, v2, h => fX11_table_61 (lX11_table_61 n) v0 v1 v2 h
theorem uX11_table_61 {d : Nat} {z : Int32 × aH} : ∀ (n : Nat) (v0 : Nat) (v1 : Int32) (v2 : Int32) (h : aH), lX11_table_61 n v0 v1 v2 h = some z → Ev (d + 10) none mX11_table (0, 0) 61 [.ref v0, .int v1, .int v2, .null] [] h (QI z) := by
  intro n
  induction n with
  | zero => intro _ _ _ _ q; exact nos (show (none : Option (Int32 × aH)) = some z from q)
  | succ n ih => intro v0 v1 v2 h q; exact tX11_table_61 ih v0 v1 v2 h q
def wX11_table_59 : List En := [(.iconst 0, 0, 0, 0), (.istore_n 2, 0, 0, 0)]
def fX11_table_59 (v0 : Nat) (v1 : Int32) (h : aH) : Option (Int32 × aH) :=
  lX11_table_61 FU v0 v1 (kI 0) h
theorem tX11_table_59 {d : Nat} {z : Int32 × aH} (v0 : Nat) (v1 : Int32) (h : aH) (hf : fX11_table_59 v0 v1 h = some z) : Ev (d + 10) none mX11_table (0, 0) 59 [.ref v0, .int v1, .null, .null] [] h (QI z) := 
  go_ok (X := none) (blk := wX11_table_59) (np := 61) (tt := 0) (kN := fun xs h st => app [2, 1, 1, 0] (fun v0 v1 v2 => apS [] (lX11_table_61 FU v0 v1 v2 h) st) xs) (kT := fun _ _ _ => none) (kR := kRI)
    (fun xs h st q => jm [2, 1, 1, 0] _ (fun v0 v1 v2 q => apS_ok [] _ (fun st => Ev (d + 10) none mX11_table (0, 0) 61 [.ref v0, .int v1, .int v2, .null] st h (QI z)) st (fun q => uX11_table_61 FU v0 v1 v2 h q) q) q)
    (fun _ _ _ q => nos q)
    kRI_ok (Or.inr rfl) (by decide +kernel) (by decide +kernel) hf
def wX11_table_46 : List En := [(.aload_n 0, 0, 0, 0), (.getfield 23, 191, 11, 16), (.iload_n 2, 0, 0, 0), (.iconst 0, 0, 0, 0), (.iastore, 0, 0, 0), (.iinc 2 1, 0, 0, 0), (.goto (-17), 39, 0, 0)]
def fX11_table_46 (k39 : Nat → Int32 → Int32 → aH → Option (Int32 × aH)) (v0 : Nat) (v1 : Int32) (v2 : Int32) (h : aH) : Option (Int32 × aH) :=
  (gFR h 11 v0 16).bind fun t1 =>
  (aWI h t1 v2 (kI 0)).bind fun h2 =>
  k39 v0 v1 (v2 + kI 1) h2
theorem tX11_table_46 {d : Nat} {z : Int32 × aH} {k39 : Nat → Int32 → Int32 → aH → Option (Int32 × aH)} (hk39 : ∀ (v0 : Nat) (v1 : Int32) (v2 : Int32) (h : aH), k39 v0 v1 v2 h = some z → Ev (d + 10) none mX11_table (0, 0) 39 [.ref v0, .int v1, .int v2, .null] [] h (QI z)) (v0 : Nat) (v1 : Int32) (v2 : Int32) (h : aH) (hf : fX11_table_46 k39 v0 v1 v2 h = some z) : Ev (d + 10) none mX11_table (0, 0) 46 [.ref v0, .int v1, .int v2, .null] [] h (QI z) := 
  go_ok (X := none) (blk := wX11_table_46) (np := 59) (tt := 39) (kN := fun _ _ _ => none) (kT := fun xs h st => app [2, 1, 1, 0] (fun v0 v1 v2 => apS [] (k39 v0 v1 v2 h) st) xs) (kR := kRI)
    (fun _ _ _ q => nos q)
    (fun xs h st q => jm [2, 1, 1, 0] _ (fun v0 v1 v2 q => apS_ok [] _ (fun st => Ev (d + 10) none mX11_table (0, 0) 39 [.ref v0, .int v1, .int v2, .null] st h (QI z)) st (fun q => hk39 v0 v1 v2 h q) q) q)
    kRI_ok (Or.inr rfl) (by decide +kernel) (by decide +kernel) hf
def wX11_table_39 : List En := [(.iload_n 2, 0, 0, 0), (.sipush 188, 0, 0, 0), (.if_icmp .ge 16, 59, 0, 0)]
def fX11_table_39 (k39 : Nat → Int32 → Int32 → aH → Option (Int32 × aH)) (v0 : Nat) (v1 : Int32) (v2 : Int32) (h : aH) : Option (Int32 × aH) :=
  if v2 < (kS 188) then fX11_table_46 k39 v0 v1 v2 h else fX11_table_59 v0 v1 h
theorem tX11_table_39 {d : Nat} {z : Int32 × aH} {k39 : Nat → Int32 → Int32 → aH → Option (Int32 × aH)} (hk39 : ∀ (v0 : Nat) (v1 : Int32) (v2 : Int32) (h : aH), k39 v0 v1 v2 h = some z → Ev (d + 10) none mX11_table (0, 0) 39 [.ref v0, .int v1, .int v2, .null] [] h (QI z)) (v0 : Nat) (v1 : Int32) (v2 : Int32) (h : aH) (hf : fX11_table_39 k39 v0 v1 v2 h = some z) : Ev (d + 10) none mX11_table (0, 0) 39 [.ref v0, .int v1, .int v2, .null] [] h (QI z) := 
  go_ok (X := none) (blk := wX11_table_39) (np := 46) (tt := 59) (kN := fun xs h st => app [2, 1, 1, 0] (fun v0 v1 v2 => apS [] (fX11_table_46 k39 v0 v1 v2 h) st) xs) (kT := fun xs h st => app [2, 1, 0, 0] (fun v0 v1 => apS [] (fX11_table_59 v0 v1 h) st) xs) (kR := kRI)
    (fun xs h st q => jm [2, 1, 1, 0] _ (fun v0 v1 v2 q => apS_ok [] _ (fun st => Ev (d + 10) none mX11_table (0, 0) 46 [.ref v0, .int v1, .int v2, .null] st h (QI z)) st (fun q => tX11_table_46 hk39 v0 v1 v2 h q) q) q)
    (fun xs h st q => jm [2, 1, 0, 0] _ (fun v0 v1 q => apS_ok [] _ (fun st => Ev (d + 10) none mX11_table (0, 0) 59 [.ref v0, .int v1, .null, .null] st h (QI z)) st (fun q => tX11_table_59 v0 v1 h q) q) q)
    kRI_ok (Or.inr rfl) (by decide +kernel) (by decide +kernel) hf
def lX11_table_39 : Nat → Nat → Int32 → Int32 → aH → Option (Int32 × aH)
  | 0, _, _, _, _ => none
  | n + 1, v0, v1, v2, h => fX11_table_39 (lX11_table_39 n) v0 v1 v2 h
theorem uX11_table_39 {d : Nat} {z : Int32 × aH} : ∀ (n : Nat) (v0 : Nat) (v1 : Int32) (v2 : Int32) (h : aH), lX11_table_39 n v0 v1 v2 h = some z → Ev (d + 10) none mX11_table (0, 0) 39 [.ref v0, .int v1, .int v2, .null] [] h (QI z) := by
  intro n
  induction n with
  | zero => intro _ _ _ _ q; exact nos (show (none : Option (Int32 × aH)) = some z from q)
  | succ n ih => intro v0 v1 v2 h q; exact tX11_table_39 ih v0 v1 v2 h q
def wX11_table_22 : List En := [(.aload_n 0, 0, 0, 0), (.iconst 0, 0, 0, 0), (.putfield 59, 177, 11, 2), (.aload_n 0, 0, 0, 0), (.iconst 0, 0, 0, 0), (.putfield 95, 184, 11, 9), (.aload_n 0, 0, 0, 0), (.iconst 0, 0, 0, 0), (.putfield 91, 188, 11, 13), (.iconst 0, 0, 0, 0), (.istore_n 2, 0, 0, 0)]
def fX11_table_22 (v0 : Nat) (v1 : Int32) (h : aH) : Option (Int32 × aH) :=
  (pWV h 11 v0 2 (.int (kI 0))).bind fun h1 =>
  (pWV h1 11 v0 9 (.int (kI 0))).bind fun h2 =>
  (pWV h2 11 v0 13 (.int (kI 0))).bind fun h3 =>
  lX11_table_39 FU v0 v1 (kI 0) h3
theorem tX11_table_22 {d : Nat} {z : Int32 × aH} (v0 : Nat) (v1 : Int32) (h : aH) (hf : fX11_table_22 v0 v1 h = some z) : Ev (d + 10) none mX11_table (0, 0) 22 [.ref v0, .int v1, .null, .null] [] h (QI z) := 
  go_ok (X := none) (blk := wX11_table_22) (np := 39) (tt := 0) (kN := fun xs h st => app [2, 1, 1, 0] (fun v0 v1 v2 => apS [] (lX11_table_39 FU v0 v1 v2 h) st) xs) (kT := fun _ _ _ => none) (kR := kRI)
    (fun xs h st q => jm [2, 1, 1, 0] _ (fun v0 v1 v2 q => apS_ok [] _ (fun st => Ev (d + 10) none mX11_table (0, 0) 39 [.ref v0, .int v1, .int v2, .null] st h (QI z)) st (fun q => uX11_table_39 FU v0 v1 v2 h q) q) q)
    (fun _ _ _ q => nos q)
    kRI_ok (Or.inr rfl) (by decide +kernel) (by decide +kernel) hf
def wX11_table_21 : List En := [(.ireturn, 0, 0, 0)]
def fX11_table_21 (s0 : Int32) (h : aH) : Option (Int32 × aH) :=
  some (s0, h)
theorem tX11_table_21 {d : Nat} {z : Int32 × aH} (s0 : Int32) (h : aH) (hf : fX11_table_21 s0 h = some z) : Ev (d + 10) none mX11_table (0, 0) 21 [.null, .null, .null, .null] [.int s0] h (QI z) := 
  go_ok (X := none) (blk := wX11_table_21) (np := 22) (tt := 0) (kN := fun _ _ _ => none) (kT := fun _ _ _ => none) (kR := kRI)
    (fun _ _ _ q => nos q)
    (fun _ _ _ q => nos q)
    kRI_ok (Or.inr rfl) (by decide +kernel) (by decide +kernel) hf
theorem kqX11_table_18 : okC mX11_table 18 (.invokevirtual 164) 183 198 0 1 = true := by decide +kernel
def fX11_table_18 (s0 : Int32) (s1 : Nat) (h : aH) : Option (Int32 × aH) :=
  (isO h 11 s1).bind fun _ =>
  (gX11_no s1 s0 h).bind fun r =>
  fX11_table_21 r.1 r.2
theorem tX11_table_18 {d : Nat} {z : Int32 × aH} (s0 : Int32) (s1 : Nat) (h : aH) (hf : fX11_table_18 s0 s1 h = some z) : Ev (d + 10) none mX11_table (0, 0) 18 [.null, .null, .null, .null] [.int s0, .ref s1] h (QI z) := by
  obtain ⟨_, h1, hf⟩ := bnd hf
  obtain ⟨fs, ho⟩ := isO_ok h1
  obtain ⟨r, h2, hf⟩ := bnd hf
  refine ev_V kqX11_table_18 jX11_no (zX11_no (d := d + 9) h2) ho rfl rfl (Nat.le_of_ble_eq_true rfl) rfl (as := [.int s0]) (rest := []) rfl (Nat.le_of_ble_eq_true rfl) (fun _ _ hq => ?_)
  obtain ⟨rfl, rfl⟩ := hq
  exact jm [0, 0, 0, 0] (fX11_table_21 r.1 r.2) (fun q => tX11_table_21 r.1 r.2 q) hf
def wX11_table_16 : List En := [(.aload_n 0, 0, 0, 0), (.iconst 2, 0, 0, 0)]
def fX11_table_16 (v0 : Nat) (h : aH) : Option (Int32 × aH) :=
  fX11_table_18 (kI 2) v0 h
theorem tX11_table_16 {d : Nat} {z : Int32 × aH} (v0 : Nat) (h : aH) (hf : fX11_table_16 v0 h = some z) : Ev (d + 10) none mX11_table (0, 0) 16 [.ref v0, .null, .null, .null] [] h (QI z) := 
  go_ok (X := none) (blk := wX11_table_16) (np := 18) (tt := 0) (kN := fun xs h st => app [0, 0, 0, 0] (apS [1, 2] (fun s0 s1 => fX11_table_18 s0 s1 h) st) xs) (kT := fun _ _ _ => none) (kR := kRI)
    (fun xs h st q => jm [0, 0, 0, 0] _ (fun q => apS_ok [1, 2] _ (fun st => Ev (d + 10) none mX11_table (0, 0) 18 [.null, .null, .null, .null] st h (QI z)) st (fun s0 s1 q => tX11_table_18 s0 s1 h q) q) q)
    (fun _ _ _ q => nos q)
    kRI_ok (Or.inr rfl) (by decide +kernel) (by decide +kernel) hf
def wX11_table_13 : List En := [(.ifCond .ne 9, 22, 0, 0)]
def fX11_table_13 (v0 : Nat) (v1 : Int32) (s0 : Int32) (h : aH) : Option (Int32 × aH) :=
  if s0 = 0 then fX11_table_16 v0 h else fX11_table_22 v0 v1 h
theorem tX11_table_13 {d : Nat} {z : Int32 × aH} (v0 : Nat) (v1 : Int32) (s0 : Int32) (h : aH) (hf : fX11_table_13 v0 v1 s0 h = some z) : Ev (d + 10) none mX11_table (0, 0) 13 [.ref v0, .int v1, .null, .null] [.int s0] h (QI z) := 
  go_ok (X := none) (blk := wX11_table_13) (np := 16) (tt := 22) (kN := fun xs h st => app [2, 0, 0, 0] (fun v0 => apS [] (fX11_table_16 v0 h) st) xs) (kT := fun xs h st => app [2, 1, 0, 0] (fun v0 v1 => apS [] (fX11_table_22 v0 v1 h) st) xs) (kR := kRI)
    (fun xs h st q => jm [2, 0, 0, 0] _ (fun v0 q => apS_ok [] _ (fun st => Ev (d + 10) none mX11_table (0, 0) 16 [.ref v0, .null, .null, .null] st h (QI z)) st (fun q => tX11_table_16 v0 h q) q) q)
    (fun xs h st q => jm [2, 1, 0, 0] _ (fun v0 v1 q => apS_ok [] _ (fun st => Ev (d + 10) none mX11_table (0, 0) 22 [.ref v0, .int v1, .null, .null] st h (QI z)) st (fun q => tX11_table_22 v0 v1 h q) q) q)
    kRI_ok (Or.inr rfl) (by decide +kernel) (by decide +kernel) hf
theorem kqX11_table_10 : okC mX11_table 10 (.invokestatic 140) 182 197 1 3 = true := by decide +kernel
def fX11_table_10 (v0 : Nat) (v1 : Int32) (s0 : Int32) (s1 : Int32) (s2 : Int32) (h : aH) : Option (Int32 × aH) :=
  (gX11_in s2 s1 s0 h).bind fun r =>
  fX11_table_13 v0 v1 r.1 r.2
theorem tX11_table_10 {d : Nat} {z : Int32 × aH} (v0 : Nat) (v1 : Int32) (s0 : Int32) (s1 : Int32) (s2 : Int32) (h : aH) (hf : fX11_table_10 v0 v1 s0 s1 s2 h = some z) : Ev (d + 10) none mX11_table (0, 0) 10 [.ref v0, .int v1, .null, .null] [.int s0, .int s1, .int s2] h (QI z) := by
  obtain ⟨r, h2, hf⟩ := bnd hf
  refine ev_S kqX11_table_10 jX11_in (zX11_in (d := d + 9) h2) rfl (Nat.le_of_ble_eq_true rfl) rfl (as := [.int s2, .int s1, .int s0]) (rest := []) rfl (Nat.le_of_ble_eq_true rfl) (fun _ _ hq => ?_)
  obtain ⟨-, rfl, rfl⟩ := hq
  exact jm [2, 1, 0, 0] (fun v0 v1 => fX11_table_13 v0 v1 r.1 r.2) (fun v0 v1 q => tX11_table_13 v0 v1 r.1 r.2 q) hf
def wX11_table_4 : List En := [(.iload_n 1, 0, 0, 0), (.iconst 0, 0, 0, 0), (.aload_n 0, 0, 0, 0), (.getfield 59, 177, 11, 2)]
def fX11_table_4 (v0 : Nat) (v1 : Int32) (h : aH) : Option (Int32 × aH) :=
  (gFI h 11 v0 2).bind fun t1 =>
  fX11_table_10 v0 v1 t1 (kI 0) v1 h
theorem tX11_table_4 {d : Nat} {z : Int32 × aH} (v0 : Nat) (v1 : Int32) (h : aH) (hf : fX11_table_4 v0 v1 h = some z) : Ev (d + 10) none mX11_table (0, 0) 4 [.ref v0, .int v1, .null, .null] [] h (QI z) := 
  go_ok (X := none) (blk := wX11_table_4) (np := 10) (tt := 0) (kN := fun xs h st => app [2, 1, 0, 0] (fun v0 v1 => apS [1, 1, 1] (fun s0 s1 s2 => fX11_table_10 v0 v1 s0 s1 s2 h) st) xs) (kT := fun _ _ _ => none) (kR := kRI)
    (fun xs h st q => jm [2, 1, 0, 0] _ (fun v0 v1 q => apS_ok [1, 1, 1] _ (fun st => Ev (d + 10) none mX11_table (0, 0) 10 [.ref v0, .int v1, .null, .null] st h (QI z)) st (fun s0 s1 s2 q => tX11_table_10 v0 v1 s0 s1 s2 h q) q) q)
    (fun _ _ _ q => nos q)
    kRI_ok (Or.inr rfl) (by decide +kernel) (by decide +kernel) hf
theorem kqX11_table_1 : okC mX11_table 1 (.invokevirtual 161) 181 196 0 0 = true := by decide +kernel
def fX11_table_1 (v0 : Nat) (v1 : Int32) (s0 : Nat) (h : aH) : Option (Int32 × aH) :=
  (isO h 11 s0).bind fun _ =>
  (gX11_anew s0 h).bind fun r =>
  fX11_table_4 v0 v1 r
theorem tX11_table_1 {d : Nat} {z : Int32 × aH} (v0 : Nat) (v1 : Int32) (s0 : Nat) (h : aH) (hf : fX11_table_1 v0 v1 s0 h = some z) : Ev (d + 10) none mX11_table (0, 0) 1 [.ref v0, .int v1, .null, .null] [.ref s0] h (QI z) := by
  obtain ⟨_, h1, hf⟩ := bnd hf
  obtain ⟨fs, ho⟩ := isO_ok h1
  obtain ⟨r, h2, hf⟩ := bnd hf
  refine ev_V kqX11_table_1 jX11_anew (zX11_anew (d := d + 9) h2) ho rfl rfl (Nat.le_of_ble_eq_true rfl) rfl (as := []) (rest := []) rfl (Nat.le_of_ble_eq_true rfl) (fun _ _ hq => ?_)
  obtain ⟨rfl, hh⟩ := hq
  rw [hh]
  exact jm [2, 1, 0, 0] (fun v0 v1 => fX11_table_4 v0 v1 r) (fun v0 v1 q => tX11_table_4 v0 v1 r q) hf
def wX11_table_0 : List En := [(.aload_n 0, 0, 0, 0)]
def fX11_table_0 (v0 : Nat) (v1 : Int32) (h : aH) : Option (Int32 × aH) :=
  fX11_table_1 v0 v1 v0 h
theorem tX11_table_0 {d : Nat} {z : Int32 × aH} (v0 : Nat) (v1 : Int32) (h : aH) (hf : fX11_table_0 v0 v1 h = some z) : Ev (d + 10) none mX11_table (0, 0) 0 [.ref v0, .int v1, .null, .null] [] h (QI z) := 
  go_ok (X := none) (blk := wX11_table_0) (np := 1) (tt := 0) (kN := fun xs h st => app [2, 1, 0, 0] (fun v0 v1 => apS [2] (fun s0 => fX11_table_1 v0 v1 s0 h) st) xs) (kT := fun _ _ _ => none) (kR := kRI)
    (fun xs h st q => jm [2, 1, 0, 0] _ (fun v0 v1 q => apS_ok [2] _ (fun st => Ev (d + 10) none mX11_table (0, 0) 1 [.ref v0, .int v1, .null, .null] st h (QI z)) st (fun s0 q => tX11_table_1 v0 v1 s0 h q) q) q)
    (fun _ _ _ q => nos q)
    kRI_ok (Or.inr rfl) (by decide +kernel) (by decide +kernel) hf
def gX11_table (v0 : Nat) (v1 : Int32) (h : aH) : Option (Int32 × aH) := fX11_table_0 v0 v1 h
theorem zX11_table {d : Nat} {z : Int32 × aH} {v0 : Nat} {v1 : Int32} {h : aH} (q : gX11_table v0 v1 h = some z) : CT (d + 10) mX11_table (0, 0) [.ref v0, .int v1] h (QI z) :=
  ct_ev (by decide +kernel) (Nat.le_of_ble_eq_true rfl) QI_r (jm [2, 1, 0, 0] (fun v0 v1 => fX11_table_0 v0 v1 h) (fun v0 v1 q => tX11_table_0 v0 v1 h q) q)
end
