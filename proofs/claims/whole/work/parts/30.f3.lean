noncomputable section
def wJ6_bitCount_0f7a4_32 : List En := [(.iand, 0, 0, 0), (.istore_n 0, 0, 0, 0), (.iload_n 0, 0, 0, 0), (.iload_n 0, 0, 0, 0), (.bipush 8, 0, 0, 0), (.iushr, 0, 0, 0), (.iadd, 0, 0, 0), (.istore_n 0, 0, 0, 0), (.iload_n 0, 0, 0, 0), (.iload_n 0, 0, 0, 0), (.bipush 16, 0, 0, 0), (.iushr, 0, 0, 0), (.iadd, 0, 0, 0), (.istore_n 0, 0, 0, 0), (.iload_n 0, 0, 0, 0), (.bipush 63, 0, 0, 0), (.iand, 0, 0, 0), (.ireturn, 0, 0, 0)]
def fJ6_bitCount_0f7a4_32 (s0 : Int32) (s1 : Int32) (h : aH) : Option (Int32 × aH) :=
  some (((((s1 &&& s0) + ((s1 &&& s0).toUInt32 >>> ((kB 8).toUInt32 &&& Int32.toUInt32 31)).toInt32) + (((s1 &&& s0) + ((s1 &&& s0).toUInt32 >>> ((kB 8).toUInt32 &&& Int32.toUInt32 31)).toInt32).toUInt32 >>> ((kB 16).toUInt32 &&& Int32.toUInt32 31)).toInt32) &&& (kB 63)), h)
theorem tJ6_bitCount_0f7a4_32 {d : Nat} {z : Int32 × aH} (s0 : Int32) (s1 : Int32) (h : aH) (hf : fJ6_bitCount_0f7a4_32 s0 s1 h = some z) : Ev (d + 0) none mJ6_bitCount_0f7a4 (0, 0) 32 [.null] [.int s0, .int s1] h (QI z) := 
  go_ok (X := none) (blk := wJ6_bitCount_0f7a4_32) (np := 53) (tt := 0) (kN := fun _ _ _ => none) (kT := fun _ _ _ => none) (kR := kRI)
    (fun _ _ _ q => nos q)
    (fun _ _ _ q => nos q)
    kRI_ok (Or.inl (by decide +kernel)) (by decide +kernel) (by decide +kernel) hf
theorem kqJ6_bitCount_0f7a4_29 : ckI mJ6_bitCount_0f7a4 29 267 1059 252645135 = true := by decide +kernel
def fJ6_bitCount_0f7a4_29 (s0 : Int32) (h : aH) : Option (Int32 × aH) :=
  fJ6_bitCount_0f7a4_32 (252645135 : Int32) s0 h
theorem tJ6_bitCount_0f7a4_29 {d : Nat} {z : Int32 × aH} (s0 : Int32) (h : aH) (hf : fJ6_bitCount_0f7a4_29 s0 h = some z) : Ev (d + 0) none mJ6_bitCount_0f7a4 (0, 0) 29 [.null] [.int s0] h (QI z) := 
  ev_ldcI kqJ6_bitCount_0f7a4_29 (jm [0] (fJ6_bitCount_0f7a4_32 (252645135 : Int32) s0 h) (fun q => tJ6_bitCount_0f7a4_32 (252645135 : Int32) s0 h q) hf)
def wJ6_bitCount_0f7a4_21 : List En := [(.iand, 0, 0, 0), (.iadd, 0, 0, 0), (.istore_n 0, 0, 0, 0), (.iload_n 0, 0, 0, 0), (.iload_n 0, 0, 0, 0), (.iconst 4, 0, 0, 0), (.iushr, 0, 0, 0), (.iadd, 0, 0, 0)]
def fJ6_bitCount_0f7a4_21 (s0 : Int32) (s1 : Int32) (s2 : Int32) (h : aH) : Option (Int32 × aH) :=
  fJ6_bitCount_0f7a4_29 ((s2 + (s1 &&& s0)) + ((s2 + (s1 &&& s0)).toUInt32 >>> ((kI 4).toUInt32 &&& Int32.toUInt32 31)).toInt32) h
theorem tJ6_bitCount_0f7a4_21 {d : Nat} {z : Int32 × aH} (s0 : Int32) (s1 : Int32) (s2 : Int32) (h : aH) (hf : fJ6_bitCount_0f7a4_21 s0 s1 s2 h = some z) : Ev (d + 0) none mJ6_bitCount_0f7a4 (0, 0) 21 [.null] [.int s0, .int s1, .int s2] h (QI z) := 
  go_ok (X := none) (blk := wJ6_bitCount_0f7a4_21) (np := 29) (tt := 0) (kN := fun xs h st => app [0] (apS [1] (fun s0 => fJ6_bitCount_0f7a4_29 s0 h) st) xs) (kT := fun _ _ _ => none) (kR := kRI)
    (fun xs h st q => jm [0] _ (fun q => apS_ok [1] _ (fun st => Ev (d + 0) none mJ6_bitCount_0f7a4 (0, 0) 29 [.null] st h (QI z)) st (fun s0 q => tJ6_bitCount_0f7a4_29 s0 h q) q) q)
    (fun _ _ _ q => nos q)
    kRI_ok (Or.inl (by decide +kernel)) (by decide +kernel) (by decide +kernel) hf
theorem kqJ6_bitCount_0f7a4_18 : ckI mJ6_bitCount_0f7a4 18 266 1058 858993459 = true := by decide +kernel
def fJ6_bitCount_0f7a4_18 (s0 : Int32) (s1 : Int32) (h : aH) : Option (Int32 × aH) :=
  fJ6_bitCount_0f7a4_21 (858993459 : Int32) s0 s1 h
theorem tJ6_bitCount_0f7a4_18 {d : Nat} {z : Int32 × aH} (s0 : Int32) (s1 : Int32) (h : aH) (hf : fJ6_bitCount_0f7a4_18 s0 s1 h = some z) : Ev (d + 0) none mJ6_bitCount_0f7a4 (0, 0) 18 [.null] [.int s0, .int s1] h (QI z) := 
  ev_ldcI kqJ6_bitCount_0f7a4_18 (jm [0] (fJ6_bitCount_0f7a4_21 (858993459 : Int32) s0 s1 h) (fun q => tJ6_bitCount_0f7a4_21 (858993459 : Int32) s0 s1 h q) hf)
def wJ6_bitCount_0f7a4_14 : List En := [(.iand, 0, 0, 0), (.iload_n 0, 0, 0, 0), (.iconst 2, 0, 0, 0), (.iushr, 0, 0, 0)]
def fJ6_bitCount_0f7a4_14 (v0 : Int32) (s0 : Int32) (s1 : Int32) (h : aH) : Option (Int32 × aH) :=
  fJ6_bitCount_0f7a4_18 (v0.toUInt32 >>> ((kI 2).toUInt32 &&& Int32.toUInt32 31)).toInt32 (s1 &&& s0) h
theorem tJ6_bitCount_0f7a4_14 {d : Nat} {z : Int32 × aH} (v0 : Int32) (s0 : Int32) (s1 : Int32) (h : aH) (hf : fJ6_bitCount_0f7a4_14 v0 s0 s1 h = some z) : Ev (d + 0) none mJ6_bitCount_0f7a4 (0, 0) 14 [.int v0] [.int s0, .int s1] h (QI z) := 
  go_ok (X := none) (blk := wJ6_bitCount_0f7a4_14) (np := 18) (tt := 0) (kN := fun xs h st => app [0] (apS [1, 1] (fun s0 s1 => fJ6_bitCount_0f7a4_18 s0 s1 h) st) xs) (kT := fun _ _ _ => none) (kR := kRI)
    (fun xs h st q => jm [0] _ (fun q => apS_ok [1, 1] _ (fun st => Ev (d + 0) none mJ6_bitCount_0f7a4 (0, 0) 18 [.null] st h (QI z)) st (fun s0 s1 q => tJ6_bitCount_0f7a4_18 s0 s1 h q) q) q)
    (fun _ _ _ q => nos q)
    kRI_ok (Or.inl (by decide +kernel)) (by decide +kernel) (by decide +kernel) hf
theorem kqJ6_bitCount_0f7a4_11 : ckI mJ6_bitCount_0f7a4 11 266 1058 858993459 = true := by decide +kernel
def fJ6_bitCount_0f7a4_11 (v0 : Int32) (s0 : Int32) (h : aH) : Option (Int32 × aH) :=
  fJ6_bitCount_0f7a4_14 v0 (858993459 : Int32) s0 h
theorem tJ6_bitCount_0f7a4_11 {d : Nat} {z : Int32 × aH} (v0 : Int32) (s0 : Int32) (h : aH) (hf : fJ6_bitCount_0f7a4_11 v0 s0 h = some z) : Ev (d + 0) none mJ6_bitCount_0f7a4 (0, 0) 11 [.int v0] [.int s0] h (QI z) := 
  ev_ldcI kqJ6_bitCount_0f7a4_11 (jm [1] (fun v0 => fJ6_bitCount_0f7a4_14 v0 (858993459 : Int32) s0 h) (fun v0 q => tJ6_bitCount_0f7a4_14 v0 (858993459 : Int32) s0 h q) hf)
def wJ6_bitCount_0f7a4_7 : List En := [(.iand, 0, 0, 0), (.isub, 0, 0, 0), (.istore_n 0, 0, 0, 0), (.iload_n 0, 0, 0, 0)]
def fJ6_bitCount_0f7a4_7 (s0 : Int32) (s1 : Int32) (s2 : Int32) (h : aH) : Option (Int32 × aH) :=
  fJ6_bitCount_0f7a4_11 (s2 - (s1 &&& s0)) (s2 - (s1 &&& s0)) h
theorem tJ6_bitCount_0f7a4_7 {d : Nat} {z : Int32 × aH} (s0 : Int32) (s1 : Int32) (s2 : Int32) (h : aH) (hf : fJ6_bitCount_0f7a4_7 s0 s1 s2 h = some z) : Ev (d + 0) none mJ6_bitCount_0f7a4 (0, 0) 7 [.null] [.int s0, .int s1, .int s2] h (QI z) := 
  go_ok (X := none) (blk := wJ6_bitCount_0f7a4_7) (np := 11) (tt := 0) (kN := fun xs h st => app [1] (fun v0 => apS [1] (fun s0 => fJ6_bitCount_0f7a4_11 v0 s0 h) st) xs) (kT := fun _ _ _ => none) (kR := kRI)
    (fun xs h st q => jm [1] _ (fun v0 q => apS_ok [1] _ (fun st => Ev (d + 0) none mJ6_bitCount_0f7a4 (0, 0) 11 [.int v0] st h (QI z)) st (fun s0 q => tJ6_bitCount_0f7a4_11 v0 s0 h q) q) q)
    (fun _ _ _ q => nos q)
    kRI_ok (Or.inl (by decide +kernel)) (by decide +kernel) (by decide +kernel) hf
theorem kqJ6_bitCount_0f7a4_4 : ckI mJ6_bitCount_0f7a4 4 265 1057 1431655765 = true := by decide +kernel
def fJ6_bitCount_0f7a4_4 (s0 : Int32) (s1 : Int32) (h : aH) : Option (Int32 × aH) :=
  fJ6_bitCount_0f7a4_7 (1431655765 : Int32) s0 s1 h
theorem tJ6_bitCount_0f7a4_4 {d : Nat} {z : Int32 × aH} (s0 : Int32) (s1 : Int32) (h : aH) (hf : fJ6_bitCount_0f7a4_4 s0 s1 h = some z) : Ev (d + 0) none mJ6_bitCount_0f7a4 (0, 0) 4 [.null] [.int s0, .int s1] h (QI z) := 
  ev_ldcI kqJ6_bitCount_0f7a4_4 (jm [0] (fJ6_bitCount_0f7a4_7 (1431655765 : Int32) s0 s1 h) (fun q => tJ6_bitCount_0f7a4_7 (1431655765 : Int32) s0 s1 h q) hf)
def wJ6_bitCount_0f7a4_0 : List En := [(.iload_n 0, 0, 0, 0), (.iload_n 0, 0, 0, 0), (.iconst 1, 0, 0, 0), (.iushr, 0, 0, 0)]
def fJ6_bitCount_0f7a4_0 (v0 : Int32) (h : aH) : Option (Int32 × aH) :=
  fJ6_bitCount_0f7a4_4 (v0.toUInt32 >>> ((kI 1).toUInt32 &&& Int32.toUInt32 31)).toInt32 v0 h
theorem tJ6_bitCount_0f7a4_0 {d : Nat} {z : Int32 × aH} (v0 : Int32) (h : aH) (hf : fJ6_bitCount_0f7a4_0 v0 h = some z) : Ev (d + 0) none mJ6_bitCount_0f7a4 (0, 0) 0 [.int v0] [] h (QI z) := 
  go_ok (X := none) (blk := wJ6_bitCount_0f7a4_0) (np := 4) (tt := 0) (kN := fun xs h st => app [0] (apS [1, 1] (fun s0 s1 => fJ6_bitCount_0f7a4_4 s0 s1 h) st) xs) (kT := fun _ _ _ => none) (kR := kRI)
    (fun xs h st q => jm [0] _ (fun q => apS_ok [1, 1] _ (fun st => Ev (d + 0) none mJ6_bitCount_0f7a4 (0, 0) 4 [.null] st h (QI z)) st (fun s0 s1 q => tJ6_bitCount_0f7a4_4 s0 s1 h q) q) q)
    (fun _ _ _ q => nos q)
    kRI_ok (Or.inl (by decide +kernel)) (by decide +kernel) (by decide +kernel) hf
def gJ6_bitCount_0f7a4 (v0 : Int32) (h : aH) : Option (Int32 × aH) := fJ6_bitCount_0f7a4_0 v0 h
theorem zJ6_bitCount_0f7a4 {d : Nat} {z : Int32 × aH} {v0 : Int32} {h : aH} (q : gJ6_bitCount_0f7a4 v0 h = some z) : CT (d + 0) mJ6_bitCount_0f7a4 (0, 0) [.int v0] h (QI z) :=
  ct_ev (by decide +kernel) (Nat.le_of_ble_eq_true rfl) QI_r (jm [1] (fun v0 => fJ6_bitCount_0f7a4_0 v0 h) (fun v0 q => tJ6_bitCount_0f7a4_0 v0 h q) q)
def wX2_isFound_15 : List En := [(.ireturn, 0, 0, 0)]
def fX2_isFound_15 (s0 : Int32) (h : aH) : Option (Int32 × aH) :=
  if s0 = 0 ∨ s0 = 1 then some (s0, h) else none
theorem tX2_isFound_15 {d : Nat} {z : Int32 × aH} (s0 : Int32) (h : aH) (hf : fX2_isFound_15 s0 h = some z) : Ev (d + 0) none mX2_isFound (0, 0) 15 [.null] [.int s0] h (QZ z) := 
  go_ok (X := none) (blk := wX2_isFound_15) (np := 16) (tt := 0) (kN := fun _ _ _ => none) (kT := fun _ _ _ => none) (kR := kRZ)
    (fun _ _ _ q => nos q)
    (fun _ _ _ q => nos q)
    kRZ_ok (Or.inr rfl) (by decide +kernel) (by decide +kernel) hf
def wX2_isFound_14 : List En := [(.iconst 0, 0, 0, 0)]
def fX2_isFound_14 (h : aH) : Option (Int32 × aH) :=
  fX2_isFound_15 (kI 0) h
theorem tX2_isFound_14 {d : Nat} {z : Int32 × aH} (h : aH) (hf : fX2_isFound_14 h = some z) : Ev (d + 0) none mX2_isFound (0, 0) 14 [.null] [] h (QZ z) := 
  go_ok (X := none) (blk := wX2_isFound_14) (np := 15) (tt := 0) (kN := fun xs h st => app [0] (apS [1] (fun s0 => fX2_isFound_15 s0 h) st) xs) (kT := fun _ _ _ => none) (kR := kRZ)
    (fun xs h st q => jm [0] _ (fun q => apS_ok [1] _ (fun st => Ev (d + 0) none mX2_isFound (0, 0) 15 [.null] st h (QZ z)) st (fun s0 q => tX2_isFound_15 s0 h q) q) q)
    (fun _ _ _ q => nos q)
    kRZ_ok (Or.inr rfl) (by decide +kernel) (by decide +kernel) hf
def wX2_isFound_10 : List En := [(.iconst 1, 0, 0, 0), (.goto 4, 15, 0, 0)]
def fX2_isFound_10 (h : aH) : Option (Int32 × aH) :=
  fX2_isFound_15 (kI 1) h
theorem tX2_isFound_10 {d : Nat} {z : Int32 × aH} (h : aH) (hf : fX2_isFound_10 h = some z) : Ev (d + 0) none mX2_isFound (0, 0) 10 [.null] [] h (QZ z) := 
  go_ok (X := none) (blk := wX2_isFound_10) (np := 14) (tt := 15) (kN := fun _ _ _ => none) (kT := fun xs h st => app [0] (apS [1] (fun s0 => fX2_isFound_15 s0 h) st) xs) (kR := kRZ)
    (fun _ _ _ q => nos q)
    (fun xs h st q => jm [0] _ (fun q => apS_ok [1] _ (fun st => Ev (d + 0) none mX2_isFound (0, 0) 15 [.null] st h (QZ z)) st (fun s0 q => tX2_isFound_15 s0 h q) q) q)
    kRZ_ok (Or.inr rfl) (by decide +kernel) (by decide +kernel) hf
def wX2_isFound_0 : List En := [(.aload_n 0, 0, 0, 0), (.getfield 25, 59, 2, 0), (.sipush 1000, 0, 0, 0), (.if_icmp .ge 7, 14, 0, 0)]
def fX2_isFound_0 (v0 : Nat) (h : aH) : Option (Int32 × aH) :=
  (gFI h 2 v0 0).bind fun t1 =>
  if t1 < (kS 1000) then fX2_isFound_10 h else fX2_isFound_14 h
theorem tX2_isFound_0 {d : Nat} {z : Int32 × aH} (v0 : Nat) (h : aH) (hf : fX2_isFound_0 v0 h = some z) : Ev (d + 0) none mX2_isFound (0, 0) 0 [.ref v0] [] h (QZ z) := 
  go_ok (X := none) (blk := wX2_isFound_0) (np := 10) (tt := 14) (kN := fun xs h st => app [0] (apS [] (fX2_isFound_10 h) st) xs) (kT := fun xs h st => app [0] (apS [] (fX2_isFound_14 h) st) xs) (kR := kRZ)
    (fun xs h st q => jm [0] _ (fun q => apS_ok [] _ (fun st => Ev (d + 0) none mX2_isFound (0, 0) 10 [.null] st h (QZ z)) st (fun q => tX2_isFound_10 h q) q) q)
    (fun xs h st q => jm [0] _ (fun q => apS_ok [] _ (fun st => Ev (d + 0) none mX2_isFound (0, 0) 14 [.null] st h (QZ z)) st (fun q => tX2_isFound_14 h q) q) q)
    kRZ_ok (Or.inr rfl) (by decide +kernel) (by decide +kernel) hf
def gX2_isFound (v0 : Nat) (h : aH) : Option (Int32 × aH) := fX2_isFound_0 v0 h
theorem zX2_isFound {d : Nat} {z : Int32 × aH} {v0 : Nat} {h : aH} (q : gX2_isFound v0 h = some z) : CT (d + 0) mX2_isFound (0, 0) [.ref v0] h (QZ z) :=
  ct_ev (by decide +kernel) (Nat.le_of_ble_eq_true rfl) QZ_r (jm [2] (fun v0 => fX2_isFound_0 v0 h) (fun v0 q => tX2_isFound_0 v0 h q) q)
def wX2_isBetter_34 : List En := [(.ireturn, 0, 0, 0)]
def fX2_isBetter_34 (s0 : Int32) (h : aH) : Option (Int32 × aH) :=
  if s0 = 0 ∨ s0 = 1 then some (s0, h) else none
theorem tX2_isBetter_34 {d : Nat} {z : Int32 × aH} (s0 : Int32) (h : aH) (hf : fX2_isBetter_34 s0 h = some z) : Ev (d + 1) none mX2_isBetter (0, 0) 34 [.null, .null, .null] [.int s0] h (QZ z) := 
  go_ok (X := none) (blk := wX2_isBetter_34) (np := 35) (tt := 0) (kN := fun _ _ _ => none) (kT := fun _ _ _ => none) (kR := kRZ)
    (fun _ _ _ q => nos q)
    (fun _ _ _ q => nos q)
    kRZ_ok (Or.inr rfl) (by decide +kernel) (by decide +kernel) hf
def wX2_isBetter_29 : List En := [(.iconst 1, 0, 0, 0), (.goto 4, 34, 0, 0)]
def fX2_isBetter_29 (h : aH) : Option (Int32 × aH) :=
  fX2_isBetter_34 (kI 1) h
theorem tX2_isBetter_29 {d : Nat} {z : Int32 × aH} (h : aH) (hf : fX2_isBetter_29 h = some z) : Ev (d + 1) none mX2_isBetter (0, 0) 29 [.null, .null, .null] [] h (QZ z) := 
  go_ok (X := none) (blk := wX2_isBetter_29) (np := 33) (tt := 34) (kN := fun _ _ _ => none) (kT := fun xs h st => app [0, 0, 0] (apS [1] (fun s0 => fX2_isBetter_34 s0 h) st) xs) (kR := kRZ)
    (fun _ _ _ q => nos q)
    (fun xs h st q => jm [0, 0, 0] _ (fun q => apS_ok [1] _ (fun st => Ev (d + 1) none mX2_isBetter (0, 0) 34 [.null, .null, .null] st h (QZ z)) st (fun s0 q => tX2_isBetter_34 s0 h q) q) q)
    kRZ_ok (Or.inr rfl) (by decide +kernel) (by decide +kernel) hf
def wX2_isBetter_33 : List En := [(.iconst 0, 0, 0, 0)]
def fX2_isBetter_33 (h : aH) : Option (Int32 × aH) :=
  fX2_isBetter_34 (kI 0) h
theorem tX2_isBetter_33 {d : Nat} {z : Int32 × aH} (h : aH) (hf : fX2_isBetter_33 h = some z) : Ev (d + 1) none mX2_isBetter (0, 0) 33 [.null, .null, .null] [] h (QZ z) := 
  go_ok (X := none) (blk := wX2_isBetter_33) (np := 34) (tt := 0) (kN := fun xs h st => app [0, 0, 0] (apS [1] (fun s0 => fX2_isBetter_34 s0 h) st) xs) (kT := fun _ _ _ => none) (kR := kRZ)
    (fun xs h st q => jm [0, 0, 0] _ (fun q => apS_ok [1] _ (fun st => Ev (d + 1) none mX2_isBetter (0, 0) 34 [.null, .null, .null] st h (QZ z)) st (fun s0 q => tX2_isBetter_34 s0 h q) q) q)
    (fun _ _ _ q => nos q)
    kRZ_ok (Or.inr rfl) (by decide +kernel) (by decide +kernel) hf
def wX2_isBetter_21 : List En := [(.iload_n 1, 0, 0, 0), (.aload_n 0, 0, 0, 0), (.getfield 35, 61, 2, 1), (.if_icmp .ge 7, 33, 0, 0)]
def fX2_isBetter_21 (v0 : Nat) (v1 : Int32) (h : aH) : Option (Int32 × aH) :=
  (gFI h 2 v0 1).bind fun t1 =>
  if v1 < t1 then fX2_isBetter_29 h else fX2_isBetter_33 h
theorem tX2_isBetter_21 {d : Nat} {z : Int32 × aH} (v0 : Nat) (v1 : Int32) (h : aH) (hf : fX2_isBetter_21 v0 v1 h = some z) : Ev (d + 1) none mX2_isBetter (0, 0) 21 [.ref v0, .int v1, .null] [] h (QZ z) := 
  go_ok (X := none) (blk := wX2_isBetter_21) (np := 29) (tt := 33) (kN := fun xs h st => app [0, 0, 0] (apS [] (fX2_isBetter_29 h) st) xs) (kT := fun xs h st => app [0, 0, 0] (apS [] (fX2_isBetter_33 h) st) xs) (kR := kRZ)
    (fun xs h st q => jm [0, 0, 0] _ (fun q => apS_ok [] _ (fun st => Ev (d + 1) none mX2_isBetter (0, 0) 29 [.null, .null, .null] st h (QZ z)) st (fun q => tX2_isBetter_29 h q) q) q)
    (fun xs h st q => jm [0, 0, 0] _ (fun q => apS_ok [] _ (fun st => Ev (d + 1) none mX2_isBetter (0, 0) 33 [.null, .null, .null] st h (QZ z)) st (fun q => tX2_isBetter_33 h q) q) q)
    kRZ_ok (Or.inr rfl) (by decide +kernel) (by decide +kernel) hf
def wX2_isBetter_13 : List En := [(.iload_n 2, 0, 0, 0), (.aload_n 0, 0, 0, 0), (.getfield 25, 59, 2, 0), (.if_icmp .ne 15, 33, 0, 0)]
def fX2_isBetter_13 (v0 : Nat) (v1 : Int32) (v2 : Int32) (h : aH) : Option (Int32 × aH) :=
  (gFI h 2 v0 0).bind fun t1 =>
  if v2 = t1 then fX2_isBetter_21 v0 v1 h else fX2_isBetter_33 h
theorem tX2_isBetter_13 {d : Nat} {z : Int32 × aH} (v0 : Nat) (v1 : Int32) (v2 : Int32) (h : aH) (hf : fX2_isBetter_13 v0 v1 v2 h = some z) : Ev (d + 1) none mX2_isBetter (0, 0) 13 [.ref v0, .int v1, .int v2] [] h (QZ z) := 
  go_ok (X := none) (blk := wX2_isBetter_13) (np := 21) (tt := 33) (kN := fun xs h st => app [2, 1, 0] (fun v0 v1 => apS [] (fX2_isBetter_21 v0 v1 h) st) xs) (kT := fun xs h st => app [0, 0, 0] (apS [] (fX2_isBetter_33 h) st) xs) (kR := kRZ)
    (fun xs h st q => jm [2, 1, 0] _ (fun v0 v1 q => apS_ok [] _ (fun st => Ev (d + 1) none mX2_isBetter (0, 0) 21 [.ref v0, .int v1, .null] st h (QZ z)) st (fun q => tX2_isBetter_21 v0 v1 h q) q) q)
    (fun xs h st q => jm [0, 0, 0] _ (fun q => apS_ok [] _ (fun st => Ev (d + 1) none mX2_isBetter (0, 0) 33 [.null, .null, .null] st h (QZ z)) st (fun q => tX2_isBetter_33 h q) q) q)
    kRZ_ok (Or.inr rfl) (by decide +kernel) (by decide +kernel) hf
def wX2_isBetter_4 : List En := [(.istore_n 2, 0, 0, 0), (.iload_n 2, 0, 0, 0), (.aload_n 0, 0, 0, 0), (.getfield 25, 59, 2, 0), (.if_icmp .lt 19, 29, 0, 0)]
def fX2_isBetter_4 (v0 : Nat) (v1 : Int32) (s0 : Int32) (h : aH) : Option (Int32 × aH) :=
  (gFI h 2 v0 0).bind fun t1 =>
  if s0 < t1 then fX2_isBetter_29 h else fX2_isBetter_13 v0 v1 s0 h
theorem tX2_isBetter_4 {d : Nat} {z : Int32 × aH} (v0 : Nat) (v1 : Int32) (s0 : Int32) (h : aH) (hf : fX2_isBetter_4 v0 v1 s0 h = some z) : Ev (d + 1) none mX2_isBetter (0, 0) 4 [.ref v0, .int v1, .null] [.int s0] h (QZ z) := 
  go_ok (X := none) (blk := wX2_isBetter_4) (np := 13) (tt := 29) (kN := fun xs h st => app [2, 1, 1] (fun v0 v1 v2 => apS [] (fX2_isBetter_13 v0 v1 v2 h) st) xs) (kT := fun xs h st => app [0, 0, 0] (apS [] (fX2_isBetter_29 h) st) xs) (kR := kRZ)
    (fun xs h st q => jm [2, 1, 1] _ (fun v0 v1 v2 q => apS_ok [] _ (fun st => Ev (d + 1) none mX2_isBetter (0, 0) 13 [.ref v0, .int v1, .int v2] st h (QZ z)) st (fun q => tX2_isBetter_13 v0 v1 v2 h q) q) q)
    (fun xs h st q => jm [0, 0, 0] _ (fun q => apS_ok [] _ (fun st => Ev (d + 1) none mX2_isBetter (0, 0) 29 [.null, .null, .null] st h (QZ z)) st (fun q => tX2_isBetter_29 h q) q) q)
    kRZ_ok (Or.inr rfl) (by decide +kernel) (by decide +kernel) hf
theorem kqX2_isBetter_1 : okC mX2_isBetter 1 (.invokestatic 65) 119 123 1 1 = true := by decide +kernel
def fX2_isBetter_1 (v0 : Nat) (v1 : Int32) (s0 : Int32) (h : aH) : Option (Int32 × aH) :=
  (gJ6_bitCount_0f7a4 s0 h).bind fun r =>
  fX2_isBetter_4 v0 v1 r.1 r.2
theorem tX2_isBetter_1 {d : Nat} {z : Int32 × aH} (v0 : Nat) (v1 : Int32) (s0 : Int32) (h : aH) (hf : fX2_isBetter_1 v0 v1 s0 h = some z) : Ev (d + 1) none mX2_isBetter (0, 0) 1 [.ref v0, .int v1, .null] [.int s0] h (QZ z) := by
  obtain ⟨r, h2, hf⟩ := bnd hf
  refine ev_S kqX2_isBetter_1 jJ6_bitCount_0f7a4 (zJ6_bitCount_0f7a4 (d := d + 0) h2) rfl (Nat.le_of_ble_eq_true rfl) rfl (as := [.int s0]) (rest := []) rfl (Nat.le_of_ble_eq_true rfl) (fun _ _ hq => ?_)
  obtain ⟨rfl, rfl⟩ := hq
  exact jm [2, 1, 0] (fun v0 v1 => fX2_isBetter_4 v0 v1 r.1 r.2) (fun v0 v1 q => tX2_isBetter_4 v0 v1 r.1 r.2 q) hf
def wX2_isBetter_0 : List En := [(.iload_n 1, 0, 0, 0)]
def fX2_isBetter_0 (v0 : Nat) (v1 : Int32) (h : aH) : Option (Int32 × aH) :=
  fX2_isBetter_1 v0 v1 v1 h
theorem tX2_isBetter_0 {d : Nat} {z : Int32 × aH} (v0 : Nat) (v1 : Int32) (h : aH) (hf : fX2_isBetter_0 v0 v1 h = some z) : Ev (d + 1) none mX2_isBetter (0, 0) 0 [.ref v0, .int v1, .null] [] h (QZ z) := 
  go_ok (X := none) (blk := wX2_isBetter_0) (np := 1) (tt := 0) (kN := fun xs h st => app [2, 1, 0] (fun v0 v1 => apS [1] (fun s0 => fX2_isBetter_1 v0 v1 s0 h) st) xs) (kT := fun _ _ _ => none) (kR := kRZ)
    (fun xs h st q => jm [2, 1, 0] _ (fun v0 v1 q => apS_ok [1] _ (fun st => Ev (d + 1) none mX2_isBetter (0, 0) 1 [.ref v0, .int v1, .null] st h (QZ z)) st (fun s0 q => tX2_isBetter_1 v0 v1 s0 h q) q) q)
    (fun _ _ _ q => nos q)
    kRZ_ok (Or.inr rfl) (by decide +kernel) (by decide +kernel) hf
def gX2_isBetter (v0 : Nat) (v1 : Int32) (h : aH) : Option (Int32 × aH) := fX2_isBetter_0 v0 v1 h
theorem zX2_isBetter {d : Nat} {z : Int32 × aH} {v0 : Nat} {v1 : Int32} {h : aH} (q : gX2_isBetter v0 v1 h = some z) : CT (d + 1) mX2_isBetter (0, 0) [.ref v0, .int v1] h (QZ z) :=
  ct_ev (by decide +kernel) (Nat.le_of_ble_eq_true rfl) QZ_r (jm [2, 1, 0] (fun v0 v1 => fX2_isBetter_0 v0 v1 h) (fun v0 v1 q => tX2_isBetter_0 v0 v1 h q) q)
def wX2_keepsAll_67 : List En := [(.ireturn, 0, 0, 0)]
def fX2_keepsAll_67 (s0 : Int32) (h : aH) : Option (Int32 × aH) :=
  if s0 = 0 ∨ s0 = 1 then some (s0, h) else none
theorem tX2_keepsAll_67 {d : Nat} {z : Int32 × aH} (s0 : Int32) (h : aH) (hf : fX2_keepsAll_67 s0 h = some z) : Ev (d + 3) none mX2_keepsAll (0, 0) 67 [.null, .null, .null, .null] [.int s0] h (QZ z) := 
  go_ok (X := none) (blk := wX2_keepsAll_67) (np := 68) (tt := 0) (kN := fun _ _ _ => none) (kT := fun _ _ _ => none) (kR := kRZ)
    (fun _ _ _ q => nos q)
    (fun _ _ _ q => nos q)
    kRZ_ok (Or.inr rfl) (by decide +kernel) (by decide +kernel) hf
def wX2_keepsAll_66 : List En := [(.iconst 0, 0, 0, 0)]
def fX2_keepsAll_66 (h : aH) : Option (Int32 × aH) :=
  fX2_keepsAll_67 (kI 0) h
theorem tX2_keepsAll_66 {d : Nat} {z : Int32 × aH} (h : aH) (hf : fX2_keepsAll_66 h = some z) : Ev (d + 3) none mX2_keepsAll (0, 0) 66 [.null, .null, .null, .null] [] h (QZ z) := 
  go_ok (X := none) (blk := wX2_keepsAll_66) (np := 67) (tt := 0) (kN := fun xs h st => app [0, 0, 0, 0] (apS [1] (fun s0 => fX2_keepsAll_67 s0 h) st) xs) (kT := fun _ _ _ => none) (kR := kRZ)
    (fun xs h st q => jm [0, 0, 0, 0] _ (fun q => apS_ok [1] _ (fun st => Ev (d + 3) none mX2_keepsAll (0, 0) 67 [.null, .null, .null, .null] st h (QZ z)) st (fun s0 q => tX2_keepsAll_67 s0 h q) q) q)
    (fun _ _ _ q => nos q)
    kRZ_ok (Or.inr rfl) (by decide +kernel) (by decide +kernel) hf
def wX2_keepsAll_62 : List En := [(.iconst 1, 0, 0, 0), (.goto 4, 67, 0, 0)]
def fX2_keepsAll_62 (h : aH) : Option (Int32 × aH) :=
  fX2_keepsAll_67 (kI 1) h
theorem tX2_keepsAll_62 {d : Nat} {z : Int32 × aH} (h : aH) (hf : fX2_keepsAll_62 h = some z) : Ev (d + 3) none mX2_keepsAll (0, 0) 62 [.null, .null, .null, .null] [] h (QZ z) := 
  go_ok (X := none) (blk := wX2_keepsAll_62) (np := 66) (tt := 67) (kN := fun _ _ _ => none) (kT := fun xs h st => app [0, 0, 0, 0] (apS [1] (fun s0 => fX2_keepsAll_67 s0 h) st) xs) (kR := kRZ)
    (fun _ _ _ q => nos q)
    (fun xs h st q => jm [0, 0, 0, 0] _ (fun q => apS_ok [1] _ (fun st => Ev (d + 3) none mX2_keepsAll (0, 0) 67 [.null, .null, .null, .null] st h (QZ z)) st (fun s0 q => tX2_keepsAll_67 s0 h q) q) q)
    kRZ_ok (Or.inr rfl) (by decide +kernel) (by decide +kernel) hf
def wX2_keepsAll_39 : List En := [(.aload_n 0, 0, 0, 0), (.getfield 11, 65, 2, 3), (.iload_n 2, 0, 0, 0), (.iconst 1, 0, 0, 0), (.iadd, 0, 0, 0), (.aaload, 0, 0, 0), (.getfield 80, 27, 7, 3), (.aload_n 0, 0, 0, 0), (.getfield 11, 65, 2, 3), (.iload_n 2, 0, 0, 0), (.aaload, 0, 0, 0), (.getfield 80, 27, 7, 3), (.if_icmp .ne 7, 66, 0, 0)]
def fX2_keepsAll_39 (v0 : Nat) (v2 : Int32) (h : aH) : Option (Int32 × aH) :=
  (gFR h 2 v0 3).bind fun t1 =>
  (aRR (h[t1]?) (v2 + (kI 1))).bind fun t2 =>
  (gFI h 7 t2 3).bind fun t3 =>
  (gFR h 2 v0 3).bind fun t4 =>
  (aRR (h[t4]?) v2).bind fun t5 =>
  (gFI h 7 t5 3).bind fun t6 =>
  if t3 = t6 then fX2_keepsAll_62 h else fX2_keepsAll_66 h
theorem tX2_keepsAll_39 {d : Nat} {z : Int32 × aH} (v0 : Nat) (v2 : Int32) (h : aH) (hf : fX2_keepsAll_39 v0 v2 h = some z) : Ev (d + 3) none mX2_keepsAll (0, 0) 39 [.ref v0, .null, .int v2, .null] [] h (QZ z) := 
  go_ok (X := none) (blk := wX2_keepsAll_39) (np := 62) (tt := 66) (kN := fun xs h st => app [0, 0, 0, 0] (apS [] (fX2_keepsAll_62 h) st) xs) (kT := fun xs h st => app [0, 0, 0, 0] (apS [] (fX2_keepsAll_66 h) st) xs) (kR := kRZ)
    (fun xs h st q => jm [0, 0, 0, 0] _ (fun q => apS_ok [] _ (fun st => Ev (d + 3) none mX2_keepsAll (0, 0) 62 [.null, .null, .null, .null] st h (QZ z)) st (fun q => tX2_keepsAll_62 h q) q) q)
    (fun xs h st q => jm [0, 0, 0, 0] _ (fun q => apS_ok [] _ (fun st => Ev (d + 3) none mX2_keepsAll (0, 0) 66 [.null, .null, .null, .null] st h (QZ z)) st (fun q => tX2_keepsAll_66 h q) q) q)
    kRZ_ok (Or.inr rfl) (by decide +kernel) (by decide +kernel) hf
theorem kqX2_keepsAll_36 : okC mX2_keepsAll 36 (.invokevirtual 76) 83 121 0 5 = true := by decide +kernel
def fX2_keepsAll_36 (v0 : Nat) (v2 : Int32) (s0 : Int32) (s1 : Int32) (s2 : Int32) (s3 : Nat) (s4 : Nat) (s5 : Nat) (h : aH) : Option (Int32 × aH) :=
  (isO h 6 s5).bind fun _ =>
  (gX6_hold s5 s4 s3 s2 s1 s0 h).bind fun r =>
  fX2_keepsAll_39 v0 v2 r
theorem tX2_keepsAll_36 {d : Nat} {z : Int32 × aH} (v0 : Nat) (v2 : Int32) (s0 : Int32) (s1 : Int32) (s2 : Int32) (s3 : Nat) (s4 : Nat) (s5 : Nat) (h : aH) (hf : fX2_keepsAll_36 v0 v2 s0 s1 s2 s3 s4 s5 h = some z) : Ev (d + 3) none mX2_keepsAll (0, 0) 36 [.ref v0, .null, .int v2, .null] [.int s0, .int s1, .int s2, .ref s3, .ref s4, .ref s5] h (QZ z) := by
  obtain ⟨_, h1, hf⟩ := bnd hf
  obtain ⟨fs, ho⟩ := isO_ok h1
  obtain ⟨r, h2, hf⟩ := bnd hf
  refine ev_V kqX2_keepsAll_36 jX6_hold (zX6_hold (d := d + 0) h2) ho rfl rfl (Nat.le_of_ble_eq_true rfl) rfl (as := [.ref s4, .ref s3, .int s2, .int s1, .int s0]) (rest := []) rfl (Nat.le_of_ble_eq_true rfl) (fun _ _ hq => ?_)
  obtain ⟨rfl, hh⟩ := hq
  rw [hh]
  exact jm [2, 0, 1, 0] (fun v0 v2 => fX2_keepsAll_39 v0 v2 r) (fun v0 v2 q => tX2_keepsAll_39 v0 v2 r q) hf
def wX2_keepsAll_17 : List En := [(.aload_n 0, 0, 0, 0), (.getfield 20, 66, 2, 4), (.aload_n 1, 0, 0, 0), (.aload_n 0, 0, 0, 0), (.getfield 11, 65, 2, 3), (.iload_n 2, 0, 0, 0), (.iconst 1, 0, 0, 0), (.iadd, 0, 0, 0), (.aaload, 0, 0, 0), (.iload_n 3, 0, 0, 0), (.iconst 0, 0, 0, 0), (.aload_n 1, 0, 0, 0), (.getfield 71, 96, 9, 0)]
def fX2_keepsAll_17 (v0 : Nat) (v1 : Nat) (v2 : Int32) (v3 : Int32) (h : aH) : Option (Int32 × aH) :=
  (gFR h 2 v0 4).bind fun t1 =>
  (gFR h 2 v0 3).bind fun t2 =>
  (aRR (h[t2]?) (v2 + (kI 1))).bind fun t3 =>
  (gFI h 9 v1 0).bind fun t4 =>
  fX2_keepsAll_36 v0 v2 t4 (kI 0) v3 t3 v1 t1 h
theorem tX2_keepsAll_17 {d : Nat} {z : Int32 × aH} (v0 : Nat) (v1 : Nat) (v2 : Int32) (v3 : Int32) (h : aH) (hf : fX2_keepsAll_17 v0 v1 v2 v3 h = some z) : Ev (d + 3) none mX2_keepsAll (0, 0) 17 [.ref v0, .ref v1, .int v2, .int v3] [] h (QZ z) := 
  go_ok (X := none) (blk := wX2_keepsAll_17) (np := 36) (tt := 0) (kN := fun xs h st => app [2, 0, 1, 0] (fun v0 v2 => apS [1, 1, 1, 2, 2, 2] (fun s0 s1 s2 s3 s4 s5 => fX2_keepsAll_36 v0 v2 s0 s1 s2 s3 s4 s5 h) st) xs) (kT := fun _ _ _ => none) (kR := kRZ)
    (fun xs h st q => jm [2, 0, 1, 0] _ (fun v0 v2 q => apS_ok [1, 1, 1, 2, 2, 2] _ (fun st => Ev (d + 3) none mX2_keepsAll (0, 0) 36 [.ref v0, .null, .int v2, .null] st h (QZ z)) st (fun s0 s1 s2 s3 s4 s5 q => tX2_keepsAll_36 v0 v2 s0 s1 s2 s3 s4 s5 h q) q) q)
    (fun _ _ _ q => nos q)
    kRZ_ok (Or.inr rfl) (by decide +kernel) (by decide +kernel) hf
theorem kqX2_keepsAll_14 : okC mX2_keepsAll 14 (.invokevirtual 38) 81 113 0 1 = true := by decide +kernel
def fX2_keepsAll_14 (v0 : Nat) (v1 : Nat) (v2 : Int32) (v3 : Int32) (s0 : Nat) (s1 : Nat) (h : aH) : Option (Int32 × aH) :=
  (isO h 7 s1).bind fun _ =>
  (gX7_copy s1 s0 h).bind fun r =>
  fX2_keepsAll_17 v0 v1 v2 v3 r
theorem tX2_keepsAll_14 {d : Nat} {z : Int32 × aH} (v0 : Nat) (v1 : Nat) (v2 : Int32) (v3 : Int32) (s0 : Nat) (s1 : Nat) (h : aH) (hf : fX2_keepsAll_14 v0 v1 v2 v3 s0 s1 h = some z) : Ev (d + 3) none mX2_keepsAll (0, 0) 14 [.ref v0, .ref v1, .int v2, .int v3] [.ref s0, .ref s1] h (QZ z) := by
  obtain ⟨_, h1, hf⟩ := bnd hf
  obtain ⟨fs, ho⟩ := isO_ok h1
  obtain ⟨r, h2, hf⟩ := bnd hf
  refine ev_V kqX2_keepsAll_14 jX7_copy (zX7_copy (d := d + 1) h2) ho rfl rfl (Nat.le_of_ble_eq_true rfl) rfl (as := [.ref s0]) (rest := []) rfl (Nat.le_of_ble_eq_true rfl) (fun _ _ hq => ?_)
  obtain ⟨rfl, hh⟩ := hq
  rw [hh]
  exact jm [2, 2, 1, 1] (fun v0 v1 v2 v3 => fX2_keepsAll_17 v0 v1 v2 v3 r) (fun v0 v1 v2 v3 q => tX2_keepsAll_17 v0 v1 v2 v3 r q) hf
def wX2_keepsAll_0 : List En := [(.aload_n 0, 0, 0, 0), (.getfield 11, 65, 2, 3), (.iload_n 2, 0, 0, 0), (.iconst 1, 0, 0, 0), (.iadd, 0, 0, 0), (.aaload, 0, 0, 0), (.aload_n 0, 0, 0, 0), (.getfield 11, 65, 2, 3), (.iload_n 2, 0, 0, 0), (.aaload, 0, 0, 0)]
def fX2_keepsAll_0 (v0 : Nat) (v1 : Nat) (v2 : Int32) (v3 : Int32) (h : aH) : Option (Int32 × aH) :=
  (gFR h 2 v0 3).bind fun t1 =>
  (aRR (h[t1]?) (v2 + (kI 1))).bind fun t2 =>
  (gFR h 2 v0 3).bind fun t3 =>
  (aRR (h[t3]?) v2).bind fun t4 =>
  fX2_keepsAll_14 v0 v1 v2 v3 t4 t2 h
theorem tX2_keepsAll_0 {d : Nat} {z : Int32 × aH} (v0 : Nat) (v1 : Nat) (v2 : Int32) (v3 : Int32) (h : aH) (hf : fX2_keepsAll_0 v0 v1 v2 v3 h = some z) : Ev (d + 3) none mX2_keepsAll (0, 0) 0 [.ref v0, .ref v1, .int v2, .int v3] [] h (QZ z) := 
  go_ok (X := none) (blk := wX2_keepsAll_0) (np := 14) (tt := 0) (kN := fun xs h st => app [2, 2, 1, 1] (fun v0 v1 v2 v3 => apS [2, 2] (fun s0 s1 => fX2_keepsAll_14 v0 v1 v2 v3 s0 s1 h) st) xs) (kT := fun _ _ _ => none) (kR := kRZ)
    (fun xs h st q => jm [2, 2, 1, 1] _ (fun v0 v1 v2 v3 q => apS_ok [2, 2] _ (fun st => Ev (d + 3) none mX2_keepsAll (0, 0) 14 [.ref v0, .ref v1, .int v2, .int v3] st h (QZ z)) st (fun s0 s1 q => tX2_keepsAll_14 v0 v1 v2 v3 s0 s1 h q) q) q)
    (fun _ _ _ q => nos q)
    kRZ_ok (Or.inr rfl) (by decide +kernel) (by decide +kernel) hf
def gX2_keepsAll (v0 : Nat) (v1 : Nat) (v2 : Int32) (v3 : Int32) (h : aH) : Option (Int32 × aH) := fX2_keepsAll_0 v0 v1 v2 v3 h
theorem zX2_keepsAll {d : Nat} {z : Int32 × aH} {v0 : Nat} {v1 : Nat} {v2 : Int32} {v3 : Int32} {h : aH} (q : gX2_keepsAll v0 v1 v2 v3 h = some z) : CT (d + 3) mX2_keepsAll (0, 0) [.ref v0, .ref v1, .int v2, .int v3] h (QZ z) :=
  ct_ev (by decide +kernel) (Nat.le_of_ble_eq_true rfl) QZ_r (jm [2, 2, 1, 1] (fun v0 v1 v2 v3 => fX2_keepsAll_0 v0 v1 v2 v3 h) (fun v0 v1 v2 v3 q => tX2_keepsAll_0 v0 v1 v2 v3 h q) q)
def wX7_endangered_56 : List En := [(.iload_n 2, 0, 0, 0), (.ireturn, 0, 0, 0)]
def fX7_endangered_56 (v2 : Int32) (h : aH) : Option (Int32 × aH) :=
  some (v2, h)
theorem tX7_endangered_56 {d : Nat} {z : Int32 × aH} (v2 : Int32) (h : aH) (hf : fX7_endangered_56 v2 h = some z) : Ev (d + 1) none mX7_endangered (0, 0) 56 [.null, .null, .int v2, .null] [] h (QI z) := 
  go_ok (X := none) (blk := wX7_endangered_56) (np := 58) (tt := 0) (kN := fun _ _ _ => none) (kT := fun _ _ _ => none) (kR := kRI)
    (fun _ _ _ q => nos q)
    (fun _ _ _ q => nos q)
    kRI_ok (Or.inr rfl) (by decide +kernel) (by decide +kernel) hf
def wX7_endangered_48 : List En := [(.ior, 0, 0, 0), (.istore_n 2, 0, 0, 0), (.iinc 3 1, 0, 0, 0), (.goto (-49), 4, 0, 0)]
def fX7_endangered_48 (k4 : Nat → Nat → Int32 → Int32 → aH → Option (Int32 × aH)) (v0 : Nat) (v1 : Nat) (v3 : Int32) (s0 : Int32) (s1 : Int32) (h : aH) : Option (Int32 × aH) :=
  k4 v0 v1 (s1 ||| s0) (v3 + kI 1) h
theorem tX7_endangered_48 {d : Nat} {z : Int32 × aH} {k4 : Nat → Nat → Int32 → Int32 → aH → Option (Int32 × aH)} (hk4 : ∀ (v0 : Nat) (v1 : Nat) (v2 : Int32) (v3 : Int32) (h : aH), k4 v0 v1 v2 v3 h = some z → Ev (d + 1) none mX7_endangered (0, 0) 4 [.ref v0, .ref v1, .int v2, .int v3] [] h (QI z)) (v0 : Nat) (v1 : Nat) (v3 : Int32) (s0 : Int32) (s1 : Int32) (h : aH) (hf : fX7_endangered_48 k4 v0 v1 v3 s0 s1 h = some z) : Ev (d + 1) none mX7_endangered (0, 0) 48 [.ref v0, .ref v1, .null, .int v3] [.int s0, .int s1] h (QI z) := 
  go_ok (X := none) (blk := wX7_endangered_48) (np := 56) (tt := 4) (kN := fun _ _ _ => none) (kT := fun xs h st => app [2, 2, 1, 1] (fun v0 v1 v2 v3 => apS [] (k4 v0 v1 v2 v3 h) st) xs) (kR := kRI)
    (fun _ _ _ q => nos q)
    (fun xs h st q => jm [2, 2, 1, 1] _ (fun v0 v1 v2 v3 q => apS_ok [] _ (fun st => Ev (d + 1) none mX7_endangered (0, 0) 4 [.ref v0, .ref v1, .int v2, .int v3] st h (QI z)) st (fun q => hk4 v0 v1 v2 v3 h q) q) q)
    kRI_ok (Or.inr rfl) (by decide +kernel) (by decide +kernel) hf
def wX7_endangered_47 : List En := [(.iconst 0, 0, 0, 0)]
def fX7_endangered_47 (k4 : Nat → Nat → Int32 → Int32 → aH → Option (Int32 × aH)) (v0 : Nat) (v1 : Nat) (v3 : Int32) (s0 : Int32) (h : aH) : Option (Int32 × aH) :=
  fX7_endangered_48 k4 v0 v1 v3 (kI 0) s0 h
theorem tX7_endangered_47 {d : Nat} {z : Int32 × aH} {k4 : Nat → Nat → Int32 → Int32 → aH → Option (Int32 × aH)} (hk4 : ∀ (v0 : Nat) (v1 : Nat) (v2 : Int32) (v3 : Int32) (h : aH), k4 v0 v1 v2 v3 h = some z → Ev (d + 1) none mX7_endangered (0, 0) 4 [.ref v0, .ref v1, .int v2, .int v3] [] h (QI z)) (v0 : Nat) (v1 : Nat) (v3 : Int32) (s0 : Int32) (h : aH) (hf : fX7_endangered_47 k4 v0 v1 v3 s0 h = some z) : Ev (d + 1) none mX7_endangered (0, 0) 47 [.ref v0, .ref v1, .null, .int v3] [.int s0] h (QI z) := 
  go_ok (X := none) (blk := wX7_endangered_47) (np := 48) (tt := 0) (kN := fun xs h st => app [2, 2, 0, 1] (fun v0 v1 v3 => apS [1, 1] (fun s0 s1 => fX7_endangered_48 k4 v0 v1 v3 s0 s1 h) st) xs) (kT := fun _ _ _ => none) (kR := kRI)
    (fun xs h st q => jm [2, 2, 0, 1] _ (fun v0 v1 v3 q => apS_ok [1, 1] _ (fun st => Ev (d + 1) none mX7_endangered (0, 0) 48 [.ref v0, .ref v1, .null, .int v3] st h (QI z)) st (fun s0 s1 q => tX7_endangered_48 hk4 v0 v1 v3 s0 s1 h q) q) q)
    (fun _ _ _ q => nos q)
    kRI_ok (Or.inr rfl) (by decide +kernel) (by decide +kernel) hf
def wX7_endangered_41 : List En := [(.iconst 1, 0, 0, 0), (.iload_n 3, 0, 0, 0), (.ishl, 0, 0, 0), (.goto 4, 48, 0, 0)]
def fX7_endangered_41 (k4 : Nat → Nat → Int32 → Int32 → aH → Option (Int32 × aH)) (v0 : Nat) (v1 : Nat) (v3 : Int32) (s0 : Int32) (h : aH) : Option (Int32 × aH) :=
  fX7_endangered_48 k4 v0 v1 v3 ((kI 1) <<< (v3 &&& 31)) s0 h
theorem tX7_endangered_41 {d : Nat} {z : Int32 × aH} {k4 : Nat → Nat → Int32 → Int32 → aH → Option (Int32 × aH)} (hk4 : ∀ (v0 : Nat) (v1 : Nat) (v2 : Int32) (v3 : Int32) (h : aH), k4 v0 v1 v2 v3 h = some z → Ev (d + 1) none mX7_endangered (0, 0) 4 [.ref v0, .ref v1, .int v2, .int v3] [] h (QI z)) (v0 : Nat) (v1 : Nat) (v3 : Int32) (s0 : Int32) (h : aH) (hf : fX7_endangered_41 k4 v0 v1 v3 s0 h = some z) : Ev (d + 1) none mX7_endangered (0, 0) 41 [.ref v0, .ref v1, .null, .int v3] [.int s0] h (QI z) := 
  go_ok (X := none) (blk := wX7_endangered_41) (np := 47) (tt := 48) (kN := fun _ _ _ => none) (kT := fun xs h st => app [2, 2, 0, 1] (fun v0 v1 v3 => apS [1, 1] (fun s0 s1 => fX7_endangered_48 k4 v0 v1 v3 s0 s1 h) st) xs) (kR := kRI)
    (fun _ _ _ q => nos q)
    (fun xs h st q => jm [2, 2, 0, 1] _ (fun v0 v1 v3 q => apS_ok [1, 1] _ (fun st => Ev (d + 1) none mX7_endangered (0, 0) 48 [.ref v0, .ref v1, .null, .int v3] st h (QI z)) st (fun s0 s1 q => tX7_endangered_48 hk4 v0 v1 v3 s0 s1 h q) q) q)
    kRI_ok (Or.inr rfl) (by decide +kernel) (by decide +kernel) hf
def wX7_endangered_21 : List En := [(.aload_n 0, 0, 0, 0), (.getfield 9, 18, 7, 0), (.iload_n 3, 0, 0, 0), (.iaload, 0, 0, 0), (.aload_n 1, 0, 0, 0), (.getfield 77, 134, 9, 9), (.iload_n 3, 0, 0, 0), (.iaload, 0, 0, 0), (.iadd, 0, 0, 0), (.aload_n 1, 0, 0, 0), (.getfield 80, 101, 9, 1), (.if_icmp .le 9, 47, 0, 0)]
def fX7_endangered_21 (k4 : Nat → Nat → Int32 → Int32 → aH → Option (Int32 × aH)) (v0 : Nat) (v1 : Nat) (v3 : Int32) (s0 : Int32) (h : aH) : Option (Int32 × aH) :=
  (gFR h 7 v0 0).bind fun t1 =>
  (aRI (h[t1]?) v3).bind fun t2 =>
  (gFR h 9 v1 9).bind fun t3 =>
  (aRI (h[t3]?) v3).bind fun t4 =>
  (gFI h 9 v1 1).bind fun t5 =>
  if t5 < (t2 + t4) then fX7_endangered_41 k4 v0 v1 v3 s0 h else fX7_endangered_47 k4 v0 v1 v3 s0 h
theorem tX7_endangered_21 {d : Nat} {z : Int32 × aH} {k4 : Nat → Nat → Int32 → Int32 → aH → Option (Int32 × aH)} (hk4 : ∀ (v0 : Nat) (v1 : Nat) (v2 : Int32) (v3 : Int32) (h : aH), k4 v0 v1 v2 v3 h = some z → Ev (d + 1) none mX7_endangered (0, 0) 4 [.ref v0, .ref v1, .int v2, .int v3] [] h (QI z)) (v0 : Nat) (v1 : Nat) (v3 : Int32) (s0 : Int32) (h : aH) (hf : fX7_endangered_21 k4 v0 v1 v3 s0 h = some z) : Ev (d + 1) none mX7_endangered (0, 0) 21 [.ref v0, .ref v1, .null, .int v3] [.int s0] h (QI z) := 
  go_ok (X := none) (blk := wX7_endangered_21) (np := 41) (tt := 47) (kN := fun xs h st => app [2, 2, 0, 1] (fun v0 v1 v3 => apS [1] (fun s0 => fX7_endangered_41 k4 v0 v1 v3 s0 h) st) xs) (kT := fun xs h st => app [2, 2, 0, 1] (fun v0 v1 v3 => apS [1] (fun s0 => fX7_endangered_47 k4 v0 v1 v3 s0 h) st) xs) (kR := kRI)
    (fun xs h st q => jm [2, 2, 0, 1] _ (fun v0 v1 v3 q => apS_ok [1] _ (fun st => Ev (d + 1) none mX7_endangered (0, 0) 41 [.ref v0, .ref v1, .null, .int v3] st h (QI z)) st (fun s0 q => tX7_endangered_41 hk4 v0 v1 v3 s0 h q) q) q)
    (fun xs h st q => jm [2, 2, 0, 1] _ (fun v0 v1 v3 q => apS_ok [1] _ (fun st => Ev (d + 1) none mX7_endangered (0, 0) 47 [.ref v0, .ref v1, .null, .int v3] st h (QI z)) st (fun s0 q => tX7_endangered_47 hk4 v0 v1 v3 s0 h q) q) q)
    kRI_ok (Or.inr rfl) (by decide +kernel) (by decide +kernel) hf
def wX7_endangered_18 : List En := [(.ifCond .ne 29, 47, 0, 0)]
def fX7_endangered_18 (k4 : Nat → Nat → Int32 → Int32 → aH → Option (Int32 × aH)) (v0 : Nat) (v1 : Nat) (v3 : Int32) (s0 : Int32) (s1 : Int32) (h : aH) : Option (Int32 × aH) :=
  if s0 = 0 then fX7_endangered_21 k4 v0 v1 v3 s1 h else fX7_endangered_47 k4 v0 v1 v3 s1 h
theorem tX7_endangered_18 {d : Nat} {z : Int32 × aH} {k4 : Nat → Nat → Int32 → Int32 → aH → Option (Int32 × aH)} (hk4 : ∀ (v0 : Nat) (v1 : Nat) (v2 : Int32) (v3 : Int32) (h : aH), k4 v0 v1 v2 v3 h = some z → Ev (d + 1) none mX7_endangered (0, 0) 4 [.ref v0, .ref v1, .int v2, .int v3] [] h (QI z)) (v0 : Nat) (v1 : Nat) (v3 : Int32) (s0 : Int32) (s1 : Int32) (h : aH) (hf : fX7_endangered_18 k4 v0 v1 v3 s0 s1 h = some z) : Ev (d + 1) none mX7_endangered (0, 0) 18 [.ref v0, .ref v1, .null, .int v3] [.int s0, .int s1] h (QI z) := 
  go_ok (X := none) (blk := wX7_endangered_18) (np := 21) (tt := 47) (kN := fun xs h st => app [2, 2, 0, 1] (fun v0 v1 v3 => apS [1] (fun s0 => fX7_endangered_21 k4 v0 v1 v3 s0 h) st) xs) (kT := fun xs h st => app [2, 2, 0, 1] (fun v0 v1 v3 => apS [1] (fun s0 => fX7_endangered_47 k4 v0 v1 v3 s0 h) st) xs) (kR := kRI)
    (fun xs h st q => jm [2, 2, 0, 1] _ (fun v0 v1 v3 q => apS_ok [1] _ (fun st => Ev (d + 1) none mX7_endangered (0, 0) 21 [.ref v0, .ref v1, .null, .int v3] st h (QI z)) st (fun s0 q => tX7_endangered_21 hk4 v0 v1 v3 s0 h q) q) q)
    (fun xs h st q => jm [2, 2, 0, 1] _ (fun v0 v1 v3 q => apS_ok [1] _ (fun st => Ev (d + 1) none mX7_endangered (0, 0) 47 [.ref v0, .ref v1, .null, .int v3] st h (QI z)) st (fun s0 q => tX7_endangered_47 hk4 v0 v1 v3 s0 h q) q) q)
    kRI_ok (Or.inr rfl) (by decide +kernel) (by decide +kernel) hf
theorem kqX7_endangered_15 : okC mX7_endangered 15 (.invokevirtual 73) 70 60 0 1 = true := by decide +kernel
def fX7_endangered_15 (k4 : Nat → Nat → Int32 → Int32 → aH → Option (Int32 × aH)) (v0 : Nat) (v1 : Nat) (v3 : Int32) (s0 : Int32) (s1 : Nat) (s2 : Int32) (h : aH) : Option (Int32 × aH) :=
  (isO h 7 s1).bind fun _ =>
  (gX7_isDead s1 s0 h).bind fun r =>
  fX7_endangered_18 k4 v0 v1 v3 r.1 s2 r.2
theorem tX7_endangered_15 {d : Nat} {z : Int32 × aH} {k4 : Nat → Nat → Int32 → Int32 → aH → Option (Int32 × aH)} (hk4 : ∀ (v0 : Nat) (v1 : Nat) (v2 : Int32) (v3 : Int32) (h : aH), k4 v0 v1 v2 v3 h = some z → Ev (d + 1) none mX7_endangered (0, 0) 4 [.ref v0, .ref v1, .int v2, .int v3] [] h (QI z)) (v0 : Nat) (v1 : Nat) (v3 : Int32) (s0 : Int32) (s1 : Nat) (s2 : Int32) (h : aH) (hf : fX7_endangered_15 k4 v0 v1 v3 s0 s1 s2 h = some z) : Ev (d + 1) none mX7_endangered (0, 0) 15 [.ref v0, .ref v1, .null, .int v3] [.int s0, .ref s1, .int s2] h (QI z) := by
  obtain ⟨_, h1, hf⟩ := bnd hf
  obtain ⟨fs, ho⟩ := isO_ok h1
  obtain ⟨r, h2, hf⟩ := bnd hf
  refine ev_V kqX7_endangered_15 jX7_isDead (zX7_isDead (d := d + 0) h2) ho rfl rfl (Nat.le_of_ble_eq_true rfl) rfl (as := [.int s0]) (rest := [.int s2]) rfl (Nat.le_of_ble_eq_true rfl) (fun _ _ hq => ?_)
  obtain ⟨-, rfl, rfl⟩ := hq
  exact jm [2, 2, 0, 1] (fun v0 v1 v3 => fX7_endangered_18 k4 v0 v1 v3 r.1 s2 r.2) (fun v0 v1 v3 q => tX7_endangered_18 hk4 v0 v1 v3 r.1 s2 r.2 q) hf
def wX7_endangered_12 : List En := [(.iload_n 2, 0, 0, 0), (.aload_n 0, 0, 0, 0), (.iload_n 3, 0, 0, 0)]
def fX7_endangered_12 (k4 : Nat → Nat → Int32 → Int32 → aH → Option (Int32 × aH)) (v0 : Nat) (v1 : Nat) (v2 : Int32) (v3 : Int32) (h : aH) : Option (Int32 × aH) :=
  fX7_endangered_15 k4 v0 v1 v3 v3 v0 v2 h
theorem tX7_endangered_12 {d : Nat} {z : Int32 × aH} {k4 : Nat → Nat → Int32 → Int32 → aH → Option (Int32 × aH)} (hk4 : ∀ (v0 : Nat) (v1 : Nat) (v2 : Int32) (v3 : Int32) (h : aH), k4 v0 v1 v2 v3 h = some z → Ev (d + 1) none mX7_endangered (0, 0) 4 [.ref v0, .ref v1, .int v2, .int v3] [] h (QI z)) (v0 : Nat) (v1 : Nat) (v2 : Int32) (v3 : Int32) (h : aH) (hf : fX7_endangered_12 k4 v0 v1 v2 v3 h = some z) : Ev (d + 1) none mX7_endangered (0, 0) 12 [.ref v0, .ref v1, .int v2, .int v3] [] h (QI z) := 
  go_ok (X := none) (blk := wX7_endangered_12) (np := 15) (tt := 0) (kN := fun xs h st => app [2, 2, 0, 1] (fun v0 v1 v3 => apS [1, 2, 1] (fun s0 s1 s2 => fX7_endangered_15 k4 v0 v1 v3 s0 s1 s2 h) st) xs) (kT := fun _ _ _ => none) (kR := kRI)
    (fun xs h st q => jm [2, 2, 0, 1] _ (fun v0 v1 v3 q => apS_ok [1, 2, 1] _ (fun st => Ev (d + 1) none mX7_endangered (0, 0) 15 [.ref v0, .ref v1, .null, .int v3] st h (QI z)) st (fun s0 s1 s2 q => tX7_endangered_15 hk4 v0 v1 v3 s0 s1 s2 h q) q) q)
    (fun _ _ _ q => nos q)
    kRI_ok (Or.inr rfl) (by decide +kernel) (by decide +kernel) hf
def wX7_endangered_4 : List En := [(.iload_n 3, 0, 0, 0), (.aload_n 1, 0, 0, 0), (.getfield 59, 112, 9, 3), (.if_icmp .ge 47, 56, 0, 0)]
def fX7_endangered_4 (k4 : Nat → Nat → Int32 → Int32 → aH → Option (Int32 × aH)) (v0 : Nat) (v1 : Nat) (v2 : Int32) (v3 : Int32) (h : aH) : Option (Int32 × aH) :=
  (gFI h 9 v1 3).bind fun t1 =>
  if v3 < t1 then fX7_endangered_12 k4 v0 v1 v2 v3 h else fX7_endangered_56 v2 h
theorem tX7_endangered_4 {d : Nat} {z : Int32 × aH} {k4 : Nat → Nat → Int32 → Int32 → aH → Option (Int32 × aH)} (hk4 : ∀ (v0 : Nat) (v1 : Nat) (v2 : Int32) (v3 : Int32) (h : aH), k4 v0 v1 v2 v3 h = some z → Ev (d + 1) none mX7_endangered (0, 0) 4 [.ref v0, .ref v1, .int v2, .int v3] [] h (QI z)) (v0 : Nat) (v1 : Nat) (v2 : Int32) (v3 : Int32) (h : aH) (hf : fX7_endangered_4 k4 v0 v1 v2 v3 h = some z) : Ev (d + 1) none mX7_endangered (0, 0) 4 [.ref v0, .ref v1, .int v2, .int v3] [] h (QI z) := 
  go_ok (X := none) (blk := wX7_endangered_4) (np := 12) (tt := 56) (kN := fun xs h st => app [2, 2, 1, 1] (fun v0 v1 v2 v3 => apS [] (fX7_endangered_12 k4 v0 v1 v2 v3 h) st) xs) (kT := fun xs h st => app [0, 0, 1, 0] (fun v2 => apS [] (fX7_endangered_56 v2 h) st) xs) (kR := kRI)
    (fun xs h st q => jm [2, 2, 1, 1] _ (fun v0 v1 v2 v3 q => apS_ok [] _ (fun st => Ev (d + 1) none mX7_endangered (0, 0) 12 [.ref v0, .ref v1, .int v2, .int v3] st h (QI z)) st (fun q => tX7_endangered_12 hk4 v0 v1 v2 v3 h q) q) q)
    (fun xs h st q => jm [0, 0, 1, 0] _ (fun v2 q => apS_ok [] _ (fun st => Ev (d + 1) none mX7_endangered (0, 0) 56 [.null, .null, .int v2, .null] st h (QI z)) st (fun q => tX7_endangered_56 v2 h q) q) q)
    kRI_ok (Or.inr rfl) (by decide +kernel) (by decide +kernel) hf
def lX7_endangered_4 : Nat → Nat → Nat → Int32 → Int32 → aH → Option (Int32 × aH)
  | 0, _, _, _, _, _ => none
  | n + 1, v0, v1, v2, v3, h => fX7_endangered_4 (lX7_endangered_4 n) v0 v1 v2 v3 h
theorem uX7_endangered_4 {d : Nat} {z : Int32 × aH} : ∀ (n : Nat) (v0 : Nat) (v1 : Nat) (v2 : Int32) (v3 : Int32) (h : aH), lX7_endangered_4 n v0 v1 v2 v3 h = some z → Ev (d + 1) none mX7_endangered (0, 0) 4 [.ref v0, .ref v1, .int v2, .int v3] [] h (QI z) := by
  intro n
  induction n with
  | zero => intro _ _ _ _ _ q; exact nos (show (none : Option (Int32 × aH)) = some z from q)
  | succ n ih => intro v0 v1 v2 v3 h q; exact tX7_endangered_4 ih v0 v1 v2 v3 h q
def wX7_endangered_0 : List En := [(.iconst 0, 0, 0, 0), (.istore_n 2, 0, 0, 0), (.iconst 0, 0, 0, 0), (.istore_n 3, 0, 0, 0)]
def fX7_endangered_0 (v0 : Nat) (v1 : Nat) (h : aH) : Option (Int32 × aH) :=
  lX7_endangered_4 FU v0 v1 (kI 0) (kI 0) h
theorem tX7_endangered_0 {d : Nat} {z : Int32 × aH} (v0 : Nat) (v1 : Nat) (h : aH) (hf : fX7_endangered_0 v0 v1 h = some z) : Ev (d + 1) none mX7_endangered (0, 0) 0 [.ref v0, .ref v1, .null, .null] [] h (QI z) := 
  go_ok (X := none) (blk := wX7_endangered_0) (np := 4) (tt := 0) (kN := fun xs h st => app [2, 2, 1, 1] (fun v0 v1 v2 v3 => apS [] (lX7_endangered_4 FU v0 v1 v2 v3 h) st) xs) (kT := fun _ _ _ => none) (kR := kRI)
    (fun xs h st q => jm [2, 2, 1, 1] _ (fun v0 v1 v2 v3 q => apS_ok [] _ (fun st => Ev (d + 1) none mX7_endangered (0, 0) 4 [.ref v0, .ref v1, .int v2, .int v3] st h (QI z)) st (fun q => uX7_endangered_4 FU v0 v1 v2 v3 h q) q) q)
    (fun _ _ _ q => nos q)
    kRI_ok (Or.inr rfl) (by decide +kernel) (by decide +kernel) hf
def gX7_endangered (v0 : Nat) (v1 : Nat) (h : aH) : Option (Int32 × aH) := fX7_endangered_0 v0 v1 h
theorem zX7_endangered {d : Nat} {z : Int32 × aH} {v0 : Nat} {v1 : Nat} {h : aH} (q : gX7_endangered v0 v1 h = some z) : CT (d + 1) mX7_endangered (0, 0) [.ref v0, .ref v1] h (QI z) :=
  ct_ev (by decide +kernel) (Nat.le_of_ble_eq_true rfl) QI_r (jm [2, 2, 0, 0] (fun v0 v1 => fX7_endangered_0 v0 v1 h) (fun v0 v1 q => tX7_endangered_0 v0 v1 h q) q)
def wX7_freeToFast_10 : List En := [(.iconst (-1), 0, 0, 0), (.ixor, 0, 0, 0), (.iand, 0, 0, 0), (.ireturn, 0, 0, 0)]
def fX7_freeToFast_10 (s0 : Int32) (s1 : Int32) (h : aH) : Option (Int32 × aH) :=
  some ((s1 &&& (s0 ^^^ (kI (-1)))), h)
theorem tX7_freeToFast_10 {d : Nat} {z : Int32 × aH} (s0 : Int32) (s1 : Int32) (h : aH) (hf : fX7_freeToFast_10 s0 s1 h = some z) : Ev (d + 2) none mX7_freeToFast (0, 0) 10 [.null, .null] [.int s0, .int s1] h (QI z) := 
  go_ok (X := none) (blk := wX7_freeToFast_10) (np := 14) (tt := 0) (kN := fun _ _ _ => none) (kT := fun _ _ _ => none) (kR := kRI)
    (fun _ _ _ q => nos q)
    (fun _ _ _ q => nos q)
    kRI_ok (Or.inr rfl) (by decide +kernel) (by decide +kernel) hf
theorem kqX7_freeToFast_7 : okC mX7_freeToFast 7 (.invokevirtual 70) 84 118 0 1 = true := by decide +kernel
def fX7_freeToFast_7 (s0 : Nat) (s1 : Nat) (s2 : Int32) (h : aH) : Option (Int32 × aH) :=
  (isO h 7 s1).bind fun _ =>
  (gX7_fastingNext s1 s0 h).bind fun r =>
  fX7_freeToFast_10 r.1 s2 r.2
theorem tX7_freeToFast_7 {d : Nat} {z : Int32 × aH} (s0 : Nat) (s1 : Nat) (s2 : Int32) (h : aH) (hf : fX7_freeToFast_7 s0 s1 s2 h = some z) : Ev (d + 2) none mX7_freeToFast (0, 0) 7 [.null, .null] [.ref s0, .ref s1, .int s2] h (QI z) := by
  obtain ⟨_, h1, hf⟩ := bnd hf
  obtain ⟨fs, ho⟩ := isO_ok h1
  obtain ⟨r, h2, hf⟩ := bnd hf
  refine ev_V kqX7_freeToFast_7 jX7_fastingNext (zX7_fastingNext (d := d + 0) h2) ho rfl rfl (Nat.le_of_ble_eq_true rfl) rfl (as := [.ref s0]) (rest := [.int s2]) rfl (Nat.le_of_ble_eq_true rfl) (fun _ _ hq => ?_)
  obtain ⟨rfl, rfl⟩ := hq
  exact jm [0, 0] (fX7_freeToFast_10 r.1 s2 r.2) (fun q => tX7_freeToFast_10 r.1 s2 r.2 q) hf
def wX7_freeToFast_5 : List En := [(.aload_n 0, 0, 0, 0), (.aload_n 1, 0, 0, 0)]
def fX7_freeToFast_5 (v0 : Nat) (v1 : Nat) (s0 : Int32) (h : aH) : Option (Int32 × aH) :=
  fX7_freeToFast_7 v1 v0 s0 h
theorem tX7_freeToFast_5 {d : Nat} {z : Int32 × aH} (v0 : Nat) (v1 : Nat) (s0 : Int32) (h : aH) (hf : fX7_freeToFast_5 v0 v1 s0 h = some z) : Ev (d + 2) none mX7_freeToFast (0, 0) 5 [.ref v0, .ref v1] [.int s0] h (QI z) := 
  go_ok (X := none) (blk := wX7_freeToFast_5) (np := 7) (tt := 0) (kN := fun xs h st => app [0, 0] (apS [2, 2, 1] (fun s0 s1 s2 => fX7_freeToFast_7 s0 s1 s2 h) st) xs) (kT := fun _ _ _ => none) (kR := kRI)
    (fun xs h st q => jm [0, 0] _ (fun q => apS_ok [2, 2, 1] _ (fun st => Ev (d + 2) none mX7_freeToFast (0, 0) 7 [.null, .null] st h (QI z)) st (fun s0 s1 s2 q => tX7_freeToFast_7 s0 s1 s2 h q) q) q)
    (fun _ _ _ q => nos q)
    kRI_ok (Or.inr rfl) (by decide +kernel) (by decide +kernel) hf
theorem kqX7_freeToFast_2 : okC mX7_freeToFast 2 (.invokevirtual 66) 86 117 0 1 = true := by decide +kernel
def fX7_freeToFast_2 (v0 : Nat) (v1 : Nat) (s0 : Nat) (s1 : Nat) (h : aH) : Option (Int32 × aH) :=
  (isO h 7 s1).bind fun _ =>
  (gX7_living s1 s0 h).bind fun r =>
  fX7_freeToFast_5 v0 v1 r.1 r.2
theorem tX7_freeToFast_2 {d : Nat} {z : Int32 × aH} (v0 : Nat) (v1 : Nat) (s0 : Nat) (s1 : Nat) (h : aH) (hf : fX7_freeToFast_2 v0 v1 s0 s1 h = some z) : Ev (d + 2) none mX7_freeToFast (0, 0) 2 [.ref v0, .ref v1] [.ref s0, .ref s1] h (QI z) := by
  obtain ⟨_, h1, hf⟩ := bnd hf
  obtain ⟨fs, ho⟩ := isO_ok h1
  obtain ⟨r, h2, hf⟩ := bnd hf
  refine ev_V kqX7_freeToFast_2 jX7_living (zX7_living (d := d + 1) h2) ho rfl rfl (Nat.le_of_ble_eq_true rfl) rfl (as := [.ref s0]) (rest := []) rfl (Nat.le_of_ble_eq_true rfl) (fun _ _ hq => ?_)
  obtain ⟨rfl, rfl⟩ := hq
  exact jm [2, 2] (fun v0 v1 => fX7_freeToFast_5 v0 v1 r.1 r.2) (fun v0 v1 q => tX7_freeToFast_5 v0 v1 r.1 r.2 q) hf
def wX7_freeToFast_0 : List En := [(.aload_n 0, 0, 0, 0), (.aload_n 1, 0, 0, 0)]
def fX7_freeToFast_0 (v0 : Nat) (v1 : Nat) (h : aH) : Option (Int32 × aH) :=
  fX7_freeToFast_2 v0 v1 v1 v0 h
theorem tX7_freeToFast_0 {d : Nat} {z : Int32 × aH} (v0 : Nat) (v1 : Nat) (h : aH) (hf : fX7_freeToFast_0 v0 v1 h = some z) : Ev (d + 2) none mX7_freeToFast (0, 0) 0 [.ref v0, .ref v1] [] h (QI z) := 
  go_ok (X := none) (blk := wX7_freeToFast_0) (np := 2) (tt := 0) (kN := fun xs h st => app [2, 2] (fun v0 v1 => apS [2, 2] (fun s0 s1 => fX7_freeToFast_2 v0 v1 s0 s1 h) st) xs) (kT := fun _ _ _ => none) (kR := kRI)
    (fun xs h st q => jm [2, 2] _ (fun v0 v1 q => apS_ok [2, 2] _ (fun st => Ev (d + 2) none mX7_freeToFast (0, 0) 2 [.ref v0, .ref v1] st h (QI z)) st (fun s0 s1 q => tX7_freeToFast_2 v0 v1 s0 s1 h q) q) q)
    (fun _ _ _ q => nos q)
    kRI_ok (Or.inr rfl) (by decide +kernel) (by decide +kernel) hf
def gX7_freeToFast (v0 : Nat) (v1 : Nat) (h : aH) : Option (Int32 × aH) := fX7_freeToFast_0 v0 v1 h
theorem zX7_freeToFast {d : Nat} {z : Int32 × aH} {v0 : Nat} {v1 : Nat} {h : aH} (q : gX7_freeToFast v0 v1 h = some z) : CT (d + 2) mX7_freeToFast (0, 0) [.ref v0, .ref v1] h (QI z) :=
  ct_ev (by decide +kernel) (Nat.le_of_ble_eq_true rfl) QI_r (jm [2, 2] (fun v0 v1 => fX7_freeToFast_0 v0 v1 h) (fun v0 v1 q => tX7_freeToFast_0 v0 v1 h q) q)
def wX2_weighFast_42 : List En := [(.return_, 0, 0, 0)]
def fX2_weighFast_42 (h : aH) : Option (aH) :=
  some h
theorem tX2_weighFast_42 {d : Nat} {z : aH} (h : aH) (hf : fX2_weighFast_42 h = some z) : Ev (d + 2) none mX2_weighFast (0, 0) 42 [.null, .null, .null] [] h (QV z) := 
  go_ok (X := none) (blk := wX2_weighFast_42) (np := 43) (tt := 0) (kN := fun _ _ _ => none) (kT := fun _ _ _ => none) (kR := kRV)
    (fun _ _ _ q => nos q)
    (fun _ _ _ q => nos q)
    kRV_ok (Or.inr rfl) (by decide +kernel) (by decide +kernel) hf
def wX2_weighFast_34 : List En := [(.putfield 25, 59, 2, 0), (.aload_n 0, 0, 0, 0), (.iload_n 1, 0, 0, 0), (.putfield 35, 61, 2, 1)]
def fX2_weighFast_34 (v0 : Nat) (v1 : Int32) (s0 : Int32) (s1 : Nat) (h : aH) : Option (aH) :=
  (pWV h 2 s1 0 (.int s0)).bind fun h1 =>
  (pWV h1 2 v0 1 (.int v1)).bind fun h2 =>
  fX2_weighFast_42 h2
theorem tX2_weighFast_34 {d : Nat} {z : aH} (v0 : Nat) (v1 : Int32) (s0 : Int32) (s1 : Nat) (h : aH) (hf : fX2_weighFast_34 v0 v1 s0 s1 h = some z) : Ev (d + 2) none mX2_weighFast (0, 0) 34 [.ref v0, .int v1, .null] [.int s0, .ref s1] h (QV z) := 
  go_ok (X := none) (blk := wX2_weighFast_34) (np := 42) (tt := 0) (kN := fun xs h st => app [0, 0, 0] (apS [] (fX2_weighFast_42 h) st) xs) (kT := fun _ _ _ => none) (kR := kRV)
    (fun xs h st q => jm [0, 0, 0] _ (fun q => apS_ok [] _ (fun st => Ev (d + 2) none mX2_weighFast (0, 0) 42 [.null, .null, .null] st h (QV z)) st (fun q => tX2_weighFast_42 h q) q) q)
    (fun _ _ _ q => nos q)
    kRV_ok (Or.inr rfl) (by decide +kernel) (by decide +kernel) hf
theorem kqX2_weighFast_31 : okC mX2_weighFast 31 (.invokestatic 65) 119 123 1 1 = true := by decide +kernel
def fX2_weighFast_31 (v0 : Nat) (v1 : Int32) (s0 : Int32) (s1 : Nat) (h : aH) : Option (aH) :=
  (gJ6_bitCount_0f7a4 s0 h).bind fun r =>
  fX2_weighFast_34 v0 v1 r.1 s1 r.2
theorem tX2_weighFast_31 {d : Nat} {z : aH} (v0 : Nat) (v1 : Int32) (s0 : Int32) (s1 : Nat) (h : aH) (hf : fX2_weighFast_31 v0 v1 s0 s1 h = some z) : Ev (d + 2) none mX2_weighFast (0, 0) 31 [.ref v0, .int v1, .null] [.int s0, .ref s1] h (QV z) := by
  obtain ⟨r, h2, hf⟩ := bnd hf
  refine ev_S kqX2_weighFast_31 jJ6_bitCount_0f7a4 (zJ6_bitCount_0f7a4 (d := d + 1) h2) rfl (Nat.le_of_ble_eq_true rfl) rfl (as := [.int s0]) (rest := [.ref s1]) rfl (Nat.le_of_ble_eq_true rfl) (fun _ _ hq => ?_)
  obtain ⟨rfl, rfl⟩ := hq
  exact jm [2, 1, 0] (fun v0 v1 => fX2_weighFast_34 v0 v1 r.1 s1 r.2) (fun v0 v1 q => tX2_weighFast_34 v0 v1 r.1 s1 r.2 q) hf
def wX2_weighFast_24 : List En := [(.aload_n 0, 0, 0, 0), (.iload_n 2, 0, 0, 0), (.putfield 83, 63, 2, 2), (.aload_n 0, 0, 0, 0), (.iload_n 1, 0, 0, 0)]
def fX2_weighFast_24 (v0 : Nat) (v1 : Int32) (v2 : Int32) (h : aH) : Option (aH) :=
  (pWV h 2 v0 2 (.int v2)).bind fun h1 =>
  fX2_weighFast_31 v0 v1 v1 v0 h1
theorem tX2_weighFast_24 {d : Nat} {z : aH} (v0 : Nat) (v1 : Int32) (v2 : Int32) (h : aH) (hf : fX2_weighFast_24 v0 v1 v2 h = some z) : Ev (d + 2) none mX2_weighFast (0, 0) 24 [.ref v0, .int v1, .int v2] [] h (QV z) := 
  go_ok (X := none) (blk := wX2_weighFast_24) (np := 31) (tt := 0) (kN := fun xs h st => app [2, 1, 0] (fun v0 v1 => apS [1, 2] (fun s0 s1 => fX2_weighFast_31 v0 v1 s0 s1 h) st) xs) (kT := fun _ _ _ => none) (kR := kRV)
    (fun xs h st q => jm [2, 1, 0] _ (fun v0 v1 q => apS_ok [1, 2] _ (fun st => Ev (d + 2) none mX2_weighFast (0, 0) 31 [.ref v0, .int v1, .null] st h (QV z)) st (fun s0 s1 q => tX2_weighFast_31 v0 v1 s0 s1 h q) q) q)
    (fun _ _ _ q => nos q)
    kRV_ok (Or.inr rfl) (by decide +kernel) (by decide +kernel) hf
def wX2_weighFast_21 : List En := [(.ifCond .eq 21, 42, 0, 0)]
def fX2_weighFast_21 (v0 : Nat) (v1 : Int32) (v2 : Int32) (s0 : Int32) (h : aH) : Option (aH) :=
  if s0 = 0 then fX2_weighFast_42 h else fX2_weighFast_24 v0 v1 v2 h
theorem tX2_weighFast_21 {d : Nat} {z : aH} (v0 : Nat) (v1 : Int32) (v2 : Int32) (s0 : Int32) (h : aH) (hf : fX2_weighFast_21 v0 v1 v2 s0 h = some z) : Ev (d + 2) none mX2_weighFast (0, 0) 21 [.ref v0, .int v1, .int v2] [.int s0] h (QV z) := 
  go_ok (X := none) (blk := wX2_weighFast_21) (np := 24) (tt := 42) (kN := fun xs h st => app [2, 1, 1] (fun v0 v1 v2 => apS [] (fX2_weighFast_24 v0 v1 v2 h) st) xs) (kT := fun xs h st => app [0, 0, 0] (apS [] (fX2_weighFast_42 h) st) xs) (kR := kRV)
    (fun xs h st q => jm [2, 1, 1] _ (fun v0 v1 v2 q => apS_ok [] _ (fun st => Ev (d + 2) none mX2_weighFast (0, 0) 24 [.ref v0, .int v1, .int v2] st h (QV z)) st (fun q => tX2_weighFast_24 v0 v1 v2 h q) q) q)
    (fun xs h st q => jm [0, 0, 0] _ (fun q => apS_ok [] _ (fun st => Ev (d + 2) none mX2_weighFast (0, 0) 42 [.null, .null, .null] st h (QV z)) st (fun q => tX2_weighFast_42 h q) q) q)
    kRV_ok (Or.inr rfl) (by decide +kernel) (by decide +kernel) hf
theorem kqX2_weighFast_18 : okC mX2_weighFast 18 (.invokevirtual 61) 118 122 0 1 = true := by decide +kernel
def fX2_weighFast_18 (v0 : Nat) (v1 : Int32) (v2 : Int32) (s0 : Int32) (s1 : Nat) (h : aH) : Option (aH) :=
  (isO h 2 s1).bind fun _ =>
  (gX2_isBetter s1 s0 h).bind fun r =>
  fX2_weighFast_21 v0 v1 v2 r.1 r.2
theorem tX2_weighFast_18 {d : Nat} {z : aH} (v0 : Nat) (v1 : Int32) (v2 : Int32) (s0 : Int32) (s1 : Nat) (h : aH) (hf : fX2_weighFast_18 v0 v1 v2 s0 s1 h = some z) : Ev (d + 2) none mX2_weighFast (0, 0) 18 [.ref v0, .int v1, .int v2] [.int s0, .ref s1] h (QV z) := by
  obtain ⟨_, h1, hf⟩ := bnd hf
  obtain ⟨fs, ho⟩ := isO_ok h1
  obtain ⟨r, h2, hf⟩ := bnd hf
  refine ev_V kqX2_weighFast_18 jX2_isBetter (zX2_isBetter (d := d + 0) h2) ho rfl rfl (Nat.le_of_ble_eq_true rfl) rfl (as := [.int s0]) (rest := []) rfl (Nat.le_of_ble_eq_true rfl) (fun _ _ hq => ?_)
  obtain ⟨-, rfl, rfl⟩ := hq
  exact jm [2, 1, 1] (fun v0 v1 v2 => fX2_weighFast_21 v0 v1 v2 r.1 r.2) (fun v0 v1 v2 q => tX2_weighFast_21 v0 v1 v2 r.1 r.2 q) hf
def wX2_weighFast_16 : List En := [(.aload_n 0, 0, 0, 0), (.iload_n 1, 0, 0, 0)]
def fX2_weighFast_16 (v0 : Nat) (v1 : Int32) (v2 : Int32) (h : aH) : Option (aH) :=
  fX2_weighFast_18 v0 v1 v2 v1 v0 h
theorem tX2_weighFast_16 {d : Nat} {z : aH} (v0 : Nat) (v1 : Int32) (v2 : Int32) (h : aH) (hf : fX2_weighFast_16 v0 v1 v2 h = some z) : Ev (d + 2) none mX2_weighFast (0, 0) 16 [.ref v0, .int v1, .int v2] [] h (QV z) := 
  go_ok (X := none) (blk := wX2_weighFast_16) (np := 18) (tt := 0) (kN := fun xs h st => app [2, 1, 1] (fun v0 v1 v2 => apS [1, 2] (fun s0 s1 => fX2_weighFast_18 v0 v1 v2 s0 s1 h) st) xs) (kT := fun _ _ _ => none) (kR := kRV)
    (fun xs h st q => jm [2, 1, 1] _ (fun v0 v1 v2 q => apS_ok [1, 2] _ (fun st => Ev (d + 2) none mX2_weighFast (0, 0) 18 [.ref v0, .int v1, .int v2] st h (QV z)) st (fun s0 s1 q => tX2_weighFast_18 v0 v1 v2 s0 s1 h q) q) q)
    (fun _ _ _ q => nos q)
    kRV_ok (Or.inr rfl) (by decide +kernel) (by decide +kernel) hf
def wX2_weighFast_8 : List En := [(.iload_n 2, 0, 0, 0), (.aload_n 0, 0, 0, 0), (.getfield 83, 63, 2, 2), (.if_icmp .ne 29, 42, 0, 0)]
def fX2_weighFast_8 (v0 : Nat) (v1 : Int32) (v2 : Int32) (h : aH) : Option (aH) :=
  (gFI h 2 v0 2).bind fun t1 =>
  if v2 = t1 then fX2_weighFast_16 v0 v1 v2 h else fX2_weighFast_42 h
theorem tX2_weighFast_8 {d : Nat} {z : aH} (v0 : Nat) (v1 : Int32) (v2 : Int32) (h : aH) (hf : fX2_weighFast_8 v0 v1 v2 h = some z) : Ev (d + 2) none mX2_weighFast (0, 0) 8 [.ref v0, .int v1, .int v2] [] h (QV z) := 
  go_ok (X := none) (blk := wX2_weighFast_8) (np := 16) (tt := 42) (kN := fun xs h st => app [2, 1, 1] (fun v0 v1 v2 => apS [] (fX2_weighFast_16 v0 v1 v2 h) st) xs) (kT := fun xs h st => app [0, 0, 0] (apS [] (fX2_weighFast_42 h) st) xs) (kR := kRV)
    (fun xs h st q => jm [2, 1, 1] _ (fun v0 v1 v2 q => apS_ok [] _ (fun st => Ev (d + 2) none mX2_weighFast (0, 0) 16 [.ref v0, .int v1, .int v2] st h (QV z)) st (fun q => tX2_weighFast_16 v0 v1 v2 h q) q) q)
    (fun xs h st q => jm [0, 0, 0] _ (fun q => apS_ok [] _ (fun st => Ev (d + 2) none mX2_weighFast (0, 0) 42 [.null, .null, .null] st h (QV z)) st (fun q => tX2_weighFast_42 h q) q) q)
    kRV_ok (Or.inr rfl) (by decide +kernel) (by decide +kernel) hf
def wX2_weighFast_0 : List En := [(.iload_n 2, 0, 0, 0), (.aload_n 0, 0, 0, 0), (.getfield 83, 63, 2, 2), (.if_icmp .gt 19, 24, 0, 0)]
def fX2_weighFast_0 (v0 : Nat) (v1 : Int32) (v2 : Int32) (h : aH) : Option (aH) :=
  (gFI h 2 v0 2).bind fun t1 =>
  if t1 < v2 then fX2_weighFast_24 v0 v1 v2 h else fX2_weighFast_8 v0 v1 v2 h
theorem tX2_weighFast_0 {d : Nat} {z : aH} (v0 : Nat) (v1 : Int32) (v2 : Int32) (h : aH) (hf : fX2_weighFast_0 v0 v1 v2 h = some z) : Ev (d + 2) none mX2_weighFast (0, 0) 0 [.ref v0, .int v1, .int v2] [] h (QV z) := 
  go_ok (X := none) (blk := wX2_weighFast_0) (np := 8) (tt := 24) (kN := fun xs h st => app [2, 1, 1] (fun v0 v1 v2 => apS [] (fX2_weighFast_8 v0 v1 v2 h) st) xs) (kT := fun xs h st => app [2, 1, 1] (fun v0 v1 v2 => apS [] (fX2_weighFast_24 v0 v1 v2 h) st) xs) (kR := kRV)
    (fun xs h st q => jm [2, 1, 1] _ (fun v0 v1 v2 q => apS_ok [] _ (fun st => Ev (d + 2) none mX2_weighFast (0, 0) 8 [.ref v0, .int v1, .int v2] st h (QV z)) st (fun q => tX2_weighFast_8 v0 v1 v2 h q) q) q)
    (fun xs h st q => jm [2, 1, 1] _ (fun v0 v1 v2 q => apS_ok [] _ (fun st => Ev (d + 2) none mX2_weighFast (0, 0) 24 [.ref v0, .int v1, .int v2] st h (QV z)) st (fun q => tX2_weighFast_24 v0 v1 v2 h q) q) q)
    kRV_ok (Or.inr rfl) (by decide +kernel) (by decide +kernel) hf
def gX2_weighFast (v0 : Nat) (v1 : Int32) (v2 : Int32) (h : aH) : Option (aH) := fX2_weighFast_0 v0 v1 v2 h
theorem zX2_weighFast {d : Nat} {z : aH} {v0 : Nat} {v1 : Int32} {v2 : Int32} {h : aH} (q : gX2_weighFast v0 v1 v2 h = some z) : CT (d + 2) mX2_weighFast (0, 0) [.ref v0, .int v1, .int v2] h (QV z) :=
  ct_ev (by decide +kernel) (Nat.le_of_ble_eq_true rfl) QV_r (jm [2, 1, 1] (fun v0 v1 v2 => fX2_weighFast_0 v0 v1 v2 h) (fun v0 v1 v2 q => tX2_weighFast_0 v0 v1 v2 h q) q)
def wX2_seekWorth_96 : List En := [(.return_, 0, 0, 0)]
def fX2_seekWorth_96 (h : aH) : Option (aH) :=
  some h
theorem tX2_seekWorth_96 {d : Nat} {z : aH} (h : aH) (hf : fX2_seekWorth_96 h = some z) : Ev (d + 3) none mX2_seekWorth (0, 0) 96 [.null, .null, .null, .null, .null, .null] [] h (QV z) := 
  go_ok (X := none) (blk := wX2_seekWorth_96) (np := 97) (tt := 0) (kN := fun _ _ _ => none) (kT := fun _ _ _ => none) (kR := kRV)
    (fun _ _ _ q => nos q)
    (fun _ _ _ q => nos q)
    kRV_ok (Or.inr rfl) (by decide +kernel) (by decide +kernel) hf
def wX2_seekWorth_90 : List En := [(.iinc 5 1, 0, 0, 0), (.goto (-59), 34, 0, 0)]
def fX2_seekWorth_90 (k34 : Nat → Nat → Nat → Int32 → Nat → Int32 → aH → Option (aH)) (v0 : Nat) (v1 : Nat) (v2 : Nat) (v3 : Int32) (v4 : Nat) (v5 : Int32) (h : aH) : Option (aH) :=
  k34 v0 v1 v2 v3 v4 (v5 + kI 1) h
theorem tX2_seekWorth_90 {d : Nat} {z : aH} {k34 : Nat → Nat → Nat → Int32 → Nat → Int32 → aH → Option (aH)} (hk34 : ∀ (v0 : Nat) (v1 : Nat) (v2 : Nat) (v3 : Int32) (v4 : Nat) (v5 : Int32) (h : aH), k34 v0 v1 v2 v3 v4 v5 h = some z → Ev (d + 3) none mX2_seekWorth (0, 0) 34 [.ref v0, .ref v1, .ref v2, .int v3, .ref v4, .int v5] [] h (QV z)) (v0 : Nat) (v1 : Nat) (v2 : Nat) (v3 : Int32) (v4 : Nat) (v5 : Int32) (h : aH) (hf : fX2_seekWorth_90 k34 v0 v1 v2 v3 v4 v5 h = some z) : Ev (d + 3) none mX2_seekWorth (0, 0) 90 [.ref v0, .ref v1, .ref v2, .int v3, .ref v4, .int v5] [] h (QV z) := 
  go_ok (X := none) (blk := wX2_seekWorth_90) (np := 96) (tt := 34) (kN := fun _ _ _ => none) (kT := fun xs h st => app [2, 2, 2, 1, 2, 1] (fun v0 v1 v2 v3 v4 v5 => apS [] (k34 v0 v1 v2 v3 v4 v5 h) st) xs) (kR := kRV)
    (fun _ _ _ q => nos q)
    (fun xs h st q => jm [2, 2, 2, 1, 2, 1] _ (fun v0 v1 v2 v3 v4 v5 q => apS_ok [] _ (fun st => Ev (d + 3) none mX2_seekWorth (0, 0) 34 [.ref v0, .ref v1, .ref v2, .int v3, .ref v4, .int v5] st h (QV z)) st (fun q => hk34 v0 v1 v2 v3 v4 v5 h q) q) q)
    kRV_ok (Or.inr rfl) (by decide +kernel) (by decide +kernel) hf
theorem kqX2_seekWorth_87 : okC mX2_seekWorth 87 (.invokevirtual 89) 124 129 0 2 = true := by decide +kernel
def fX2_seekWorth_87 (k34 : Nat → Nat → Nat → Int32 → Nat → Int32 → aH → Option (aH)) (v0 : Nat) (v1 : Nat) (v2 : Nat) (v3 : Int32) (v4 : Nat) (v5 : Int32) (s0 : Int32) (s1 : Int32) (s2 : Nat) (h : aH) : Option (aH) :=
  (isO h 2 s2).bind fun _ =>
  (gX2_weighFast s2 s1 s0 h).bind fun r =>
  fX2_seekWorth_90 k34 v0 v1 v2 v3 v4 v5 r
theorem tX2_seekWorth_87 {d : Nat} {z : aH} {k34 : Nat → Nat → Nat → Int32 → Nat → Int32 → aH → Option (aH)} (hk34 : ∀ (v0 : Nat) (v1 : Nat) (v2 : Nat) (v3 : Int32) (v4 : Nat) (v5 : Int32) (h : aH), k34 v0 v1 v2 v3 v4 v5 h = some z → Ev (d + 3) none mX2_seekWorth (0, 0) 34 [.ref v0, .ref v1, .ref v2, .int v3, .ref v4, .int v5] [] h (QV z)) (v0 : Nat) (v1 : Nat) (v2 : Nat) (v3 : Int32) (v4 : Nat) (v5 : Int32) (s0 : Int32) (s1 : Int32) (s2 : Nat) (h : aH) (hf : fX2_seekWorth_87 k34 v0 v1 v2 v3 v4 v5 s0 s1 s2 h = some z) : Ev (d + 3) none mX2_seekWorth (0, 0) 87 [.ref v0, .ref v1, .ref v2, .int v3, .ref v4, .int v5] [.int s0, .int s1, .ref s2] h (QV z) := by
  obtain ⟨_, h1, hf⟩ := bnd hf
  obtain ⟨fs, ho⟩ := isO_ok h1
  obtain ⟨r, h2, hf⟩ := bnd hf
  refine ev_V kqX2_seekWorth_87 jX2_weighFast (zX2_weighFast (d := d + 0) h2) ho rfl rfl (Nat.le_of_ble_eq_true rfl) rfl (as := [.int s1, .int s0]) (rest := []) rfl (Nat.le_of_ble_eq_true rfl) (fun _ _ hq => ?_)
  obtain ⟨rfl, hh⟩ := hq
  rw [hh]
  exact jm [2, 2, 2, 1, 2, 1] (fun v0 v1 v2 v3 v4 v5 => fX2_seekWorth_90 k34 v0 v1 v2 v3 v4 v5 r) (fun v0 v1 v2 v3 v4 v5 q => tX2_seekWorth_90 hk34 v0 v1 v2 v3 v4 v5 r q) hf
theorem kqX2_seekWorth_84 : okC mX2_seekWorth 84 (.invokevirtual 86) 89 128 0 1 = true := by decide +kernel
def fX2_seekWorth_84 (k34 : Nat → Nat → Nat → Int32 → Nat → Int32 → aH → Option (aH)) (v0 : Nat) (v1 : Nat) (v2 : Nat) (v3 : Int32) (v4 : Nat) (v5 : Int32) (s0 : Int32) (s1 : Nat) (s2 : Int32) (s3 : Nat) (h : aH) : Option (aH) :=
  (isO h 7 s1).bind fun _ =>
  (gX7_worthOf s1 s0 h).bind fun r =>
  fX2_seekWorth_87 k34 v0 v1 v2 v3 v4 v5 r.1 s2 s3 r.2
theorem tX2_seekWorth_84 {d : Nat} {z : aH} {k34 : Nat → Nat → Nat → Int32 → Nat → Int32 → aH → Option (aH)} (hk34 : ∀ (v0 : Nat) (v1 : Nat) (v2 : Nat) (v3 : Int32) (v4 : Nat) (v5 : Int32) (h : aH), k34 v0 v1 v2 v3 v4 v5 h = some z → Ev (d + 3) none mX2_seekWorth (0, 0) 34 [.ref v0, .ref v1, .ref v2, .int v3, .ref v4, .int v5] [] h (QV z)) (v0 : Nat) (v1 : Nat) (v2 : Nat) (v3 : Int32) (v4 : Nat) (v5 : Int32) (s0 : Int32) (s1 : Nat) (s2 : Int32) (s3 : Nat) (h : aH) (hf : fX2_seekWorth_84 k34 v0 v1 v2 v3 v4 v5 s0 s1 s2 s3 h = some z) : Ev (d + 3) none mX2_seekWorth (0, 0) 84 [.ref v0, .ref v1, .ref v2, .int v3, .ref v4, .int v5] [.int s0, .ref s1, .int s2, .ref s3] h (QV z) := by
  obtain ⟨_, h1, hf⟩ := bnd hf
  obtain ⟨fs, ho⟩ := isO_ok h1
  obtain ⟨r, h2, hf⟩ := bnd hf
  refine ev_V kqX2_seekWorth_84 jX7_worthOf (zX7_worthOf (d := d + 2) h2) ho rfl rfl (Nat.le_of_ble_eq_true rfl) rfl (as := [.int s0]) (rest := [.int s2, .ref s3]) rfl (Nat.le_of_ble_eq_true rfl) (fun _ _ hq => ?_)
  obtain ⟨rfl, rfl⟩ := hq
  exact jm [2, 2, 2, 1, 2, 1] (fun v0 v1 v2 v3 v4 v5 => fX2_seekWorth_87 k34 v0 v1 v2 v3 v4 v5 r.1 s2 s3 r.2) (fun v0 v1 v2 v3 v4 v5 q => tX2_seekWorth_87 hk34 v0 v1 v2 v3 v4 v5 r.1 s2 s3 r.2 q) hf
theorem kqX2_seekWorth_81 : okC mX2_seekWorth 81 (.invokevirtual 46) 77 115 0 2 = true := by decide +kernel
def fX2_seekWorth_81 (k34 : Nat → Nat → Nat → Int32 → Nat → Int32 → aH → Option (aH)) (v0 : Nat) (v1 : Nat) (v2 : Nat) (v3 : Int32) (v4 : Nat) (v5 : Int32) (s0 : Int32) (s1 : Nat) (s2 : Nat) (s3 : Nat) (s4 : Int32) (s5 : Nat) (h : aH) : Option (aH) :=
  (isO h 7 s2).bind fun _ =>
  (gX7_nextDish s2 s1 s0 h).bind fun r =>
  fX2_seekWorth_84 k34 v0 v1 v2 v3 v4 v5 r.1 s3 s4 s5 r.2
theorem tX2_seekWorth_81 {d : Nat} {z : aH} {k34 : Nat → Nat → Nat → Int32 → Nat → Int32 → aH → Option (aH)} (hk34 : ∀ (v0 : Nat) (v1 : Nat) (v2 : Nat) (v3 : Int32) (v4 : Nat) (v5 : Int32) (h : aH), k34 v0 v1 v2 v3 v4 v5 h = some z → Ev (d + 3) none mX2_seekWorth (0, 0) 34 [.ref v0, .ref v1, .ref v2, .int v3, .ref v4, .int v5] [] h (QV z)) (v0 : Nat) (v1 : Nat) (v2 : Nat) (v3 : Int32) (v4 : Nat) (v5 : Int32) (s0 : Int32) (s1 : Nat) (s2 : Nat) (s3 : Nat) (s4 : Int32) (s5 : Nat) (h : aH) (hf : fX2_seekWorth_81 k34 v0 v1 v2 v3 v4 v5 s0 s1 s2 s3 s4 s5 h = some z) : Ev (d + 3) none mX2_seekWorth (0, 0) 81 [.ref v0, .ref v1, .ref v2, .int v3, .ref v4, .int v5] [.int s0, .ref s1, .ref s2, .ref s3, .int s4, .ref s5] h (QV z) := by
  obtain ⟨_, h1, hf⟩ := bnd hf
  obtain ⟨fs, ho⟩ := isO_ok h1
  obtain ⟨r, h2, hf⟩ := bnd hf
  refine ev_V kqX2_seekWorth_81 jX7_nextDish (zX7_nextDish (d := d + 0) h2) ho rfl rfl (Nat.le_of_ble_eq_true rfl) rfl (as := [.ref s1, .int s0]) (rest := [.ref s3, .int s4, .ref s5]) rfl (Nat.le_of_ble_eq_true rfl) (fun _ _ hq => ?_)
  obtain ⟨rfl, rfl⟩ := hq
  exact jm [2, 2, 2, 1, 2, 1] (fun v0 v1 v2 v3 v4 v5 => fX2_seekWorth_84 k34 v0 v1 v2 v3 v4 v5 r.1 s3 s4 s5 r.2) (fun v0 v1 v2 v3 v4 v5 q => tX2_seekWorth_84 hk34 v0 v1 v2 v3 v4 v5 r.1 s3 s4 s5 r.2 q) hf
def wX2_seekWorth_72 : List En := [(.aload_n 0, 0, 0, 0), (.iload 5, 0, 0, 0), (.aload 4, 0, 0, 0), (.aload 4, 0, 0, 0), (.aload_n 1, 0, 0, 0), (.iconst 0, 0, 0, 0)]
def fX2_seekWorth_72 (k34 : Nat → Nat → Nat → Int32 → Nat → Int32 → aH → Option (aH)) (v0 : Nat) (v1 : Nat) (v2 : Nat) (v3 : Int32) (v4 : Nat) (v5 : Int32) (h : aH) : Option (aH) :=
  fX2_seekWorth_81 k34 v0 v1 v2 v3 v4 v5 (kI 0) v1 v4 v4 v5 v0 h
theorem tX2_seekWorth_72 {d : Nat} {z : aH} {k34 : Nat → Nat → Nat → Int32 → Nat → Int32 → aH → Option (aH)} (hk34 : ∀ (v0 : Nat) (v1 : Nat) (v2 : Nat) (v3 : Int32) (v4 : Nat) (v5 : Int32) (h : aH), k34 v0 v1 v2 v3 v4 v5 h = some z → Ev (d + 3) none mX2_seekWorth (0, 0) 34 [.ref v0, .ref v1, .ref v2, .int v3, .ref v4, .int v5] [] h (QV z)) (v0 : Nat) (v1 : Nat) (v2 : Nat) (v3 : Int32) (v4 : Nat) (v5 : Int32) (h : aH) (hf : fX2_seekWorth_72 k34 v0 v1 v2 v3 v4 v5 h = some z) : Ev (d + 3) none mX2_seekWorth (0, 0) 72 [.ref v0, .ref v1, .ref v2, .int v3, .ref v4, .int v5] [] h (QV z) := 
  go_ok (X := none) (blk := wX2_seekWorth_72) (np := 81) (tt := 0) (kN := fun xs h st => app [2, 2, 2, 1, 2, 1] (fun v0 v1 v2 v3 v4 v5 => apS [1, 2, 2, 2, 1, 2] (fun s0 s1 s2 s3 s4 s5 => fX2_seekWorth_81 k34 v0 v1 v2 v3 v4 v5 s0 s1 s2 s3 s4 s5 h) st) xs) (kT := fun _ _ _ => none) (kR := kRV)
    (fun xs h st q => jm [2, 2, 2, 1, 2, 1] _ (fun v0 v1 v2 v3 v4 v5 q => apS_ok [1, 2, 2, 2, 1, 2] _ (fun st => Ev (d + 3) none mX2_seekWorth (0, 0) 81 [.ref v0, .ref v1, .ref v2, .int v3, .ref v4, .int v5] st h (QV z)) st (fun s0 s1 s2 s3 s4 s5 q => tX2_seekWorth_81 hk34 v0 v1 v2 v3 v4 v5 s0 s1 s2 s3 s4 s5 h q) q) q)
    (fun _ _ _ q => nos q)
    kRV_ok (Or.inr rfl) (by decide +kernel) (by decide +kernel) hf
theorem kqX2_seekWorth_69 : okC mX2_seekWorth 69 (.invokevirtual 76) 83 121 0 5 = true := by decide +kernel
def fX2_seekWorth_69 (k34 : Nat → Nat → Nat → Int32 → Nat → Int32 → aH → Option (aH)) (v0 : Nat) (v1 : Nat) (v2 : Nat) (v3 : Int32) (v4 : Nat) (v5 : Int32) (s0 : Int32) (s1 : Int32) (s2 : Int32) (s3 : Nat) (s4 : Nat) (s5 : Nat) (h : aH) : Option (aH) :=
  (isO h 6 s5).bind fun _ =>
  (gX6_hold s5 s4 s3 s2 s1 s0 h).bind fun r =>
  fX2_seekWorth_72 k34 v0 v1 v2 v3 v4 v5 r
theorem tX2_seekWorth_69 {d : Nat} {z : aH} {k34 : Nat → Nat → Nat → Int32 → Nat → Int32 → aH → Option (aH)} (hk34 : ∀ (v0 : Nat) (v1 : Nat) (v2 : Nat) (v3 : Int32) (v4 : Nat) (v5 : Int32) (h : aH), k34 v0 v1 v2 v3 v4 v5 h = some z → Ev (d + 3) none mX2_seekWorth (0, 0) 34 [.ref v0, .ref v1, .ref v2, .int v3, .ref v4, .int v5] [] h (QV z)) (v0 : Nat) (v1 : Nat) (v2 : Nat) (v3 : Int32) (v4 : Nat) (v5 : Int32) (s0 : Int32) (s1 : Int32) (s2 : Int32) (s3 : Nat) (s4 : Nat) (s5 : Nat) (h : aH) (hf : fX2_seekWorth_69 k34 v0 v1 v2 v3 v4 v5 s0 s1 s2 s3 s4 s5 h = some z) : Ev (d + 3) none mX2_seekWorth (0, 0) 69 [.ref v0, .ref v1, .ref v2, .int v3, .ref v4, .int v5] [.int s0, .int s1, .int s2, .ref s3, .ref s4, .ref s5] h (QV z) := by
  obtain ⟨_, h1, hf⟩ := bnd hf
  obtain ⟨fs, ho⟩ := isO_ok h1
  obtain ⟨r, h2, hf⟩ := bnd hf
  refine ev_V kqX2_seekWorth_69 jX6_hold (zX6_hold (d := d + 0) h2) ho rfl rfl (Nat.le_of_ble_eq_true rfl) rfl (as := [.ref s4, .ref s3, .int s2, .int s1, .int s0]) (rest := []) rfl (Nat.le_of_ble_eq_true rfl) (fun _ _ hq => ?_)
  obtain ⟨rfl, hh⟩ := hq
  rw [hh]
  exact jm [2, 2, 2, 1, 2, 1] (fun v0 v1 v2 v3 v4 v5 => fX2_seekWorth_72 k34 v0 v1 v2 v3 v4 v5 r) (fun v0 v1 v2 v3 v4 v5 q => tX2_seekWorth_72 hk34 v0 v1 v2 v3 v4 v5 r q) hf
def wX2_seekWorth_55 : List En := [(.aload_n 0, 0, 0, 0), (.getfield 20, 66, 2, 4), (.aload_n 1, 0, 0, 0), (.aload 4, 0, 0, 0), (.iload 5, 0, 0, 0), (.iconst 0, 0, 0, 0), (.aload_n 1, 0, 0, 0), (.getfield 71, 96, 9, 0)]
def fX2_seekWorth_55 (k34 : Nat → Nat → Nat → Int32 → Nat → Int32 → aH → Option (aH)) (v0 : Nat) (v1 : Nat) (v2 : Nat) (v3 : Int32) (v4 : Nat) (v5 : Int32) (h : aH) : Option (aH) :=
  (gFR h 2 v0 4).bind fun t1 =>
  (gFI h 9 v1 0).bind fun t2 =>
  fX2_seekWorth_69 k34 v0 v1 v2 v3 v4 v5 t2 (kI 0) v5 v4 v1 t1 h
theorem tX2_seekWorth_55 {d : Nat} {z : aH} {k34 : Nat → Nat → Nat → Int32 → Nat → Int32 → aH → Option (aH)} (hk34 : ∀ (v0 : Nat) (v1 : Nat) (v2 : Nat) (v3 : Int32) (v4 : Nat) (v5 : Int32) (h : aH), k34 v0 v1 v2 v3 v4 v5 h = some z → Ev (d + 3) none mX2_seekWorth (0, 0) 34 [.ref v0, .ref v1, .ref v2, .int v3, .ref v4, .int v5] [] h (QV z)) (v0 : Nat) (v1 : Nat) (v2 : Nat) (v3 : Int32) (v4 : Nat) (v5 : Int32) (h : aH) (hf : fX2_seekWorth_55 k34 v0 v1 v2 v3 v4 v5 h = some z) : Ev (d + 3) none mX2_seekWorth (0, 0) 55 [.ref v0, .ref v1, .ref v2, .int v3, .ref v4, .int v5] [] h (QV z) := 
  go_ok (X := none) (blk := wX2_seekWorth_55) (np := 69) (tt := 0) (kN := fun xs h st => app [2, 2, 2, 1, 2, 1] (fun v0 v1 v2 v3 v4 v5 => apS [1, 1, 1, 2, 2, 2] (fun s0 s1 s2 s3 s4 s5 => fX2_seekWorth_69 k34 v0 v1 v2 v3 v4 v5 s0 s1 s2 s3 s4 s5 h) st) xs) (kT := fun _ _ _ => none) (kR := kRV)
    (fun xs h st q => jm [2, 2, 2, 1, 2, 1] _ (fun v0 v1 v2 v3 v4 v5 q => apS_ok [1, 1, 1, 2, 2, 2] _ (fun st => Ev (d + 3) none mX2_seekWorth (0, 0) 69 [.ref v0, .ref v1, .ref v2, .int v3, .ref v4, .int v5] st h (QV z)) st (fun s0 s1 s2 s3 s4 s5 q => tX2_seekWorth_69 hk34 v0 v1 v2 v3 v4 v5 s0 s1 s2 s3 s4 s5 h q) q) q)
    (fun _ _ _ q => nos q)
    kRV_ok (Or.inr rfl) (by decide +kernel) (by decide +kernel) hf
theorem kqX2_seekWorth_52 : okC mX2_seekWorth 52 (.invokevirtual 38) 81 113 0 1 = true := by decide +kernel
def fX2_seekWorth_52 (k34 : Nat → Nat → Nat → Int32 → Nat → Int32 → aH → Option (aH)) (v0 : Nat) (v1 : Nat) (v2 : Nat) (v3 : Int32) (v4 : Nat) (v5 : Int32) (s0 : Nat) (s1 : Nat) (h : aH) : Option (aH) :=
  (isO h 7 s1).bind fun _ =>
  (gX7_copy s1 s0 h).bind fun r =>
  fX2_seekWorth_55 k34 v0 v1 v2 v3 v4 v5 r
theorem tX2_seekWorth_52 {d : Nat} {z : aH} {k34 : Nat → Nat → Nat → Int32 → Nat → Int32 → aH → Option (aH)} (hk34 : ∀ (v0 : Nat) (v1 : Nat) (v2 : Nat) (v3 : Int32) (v4 : Nat) (v5 : Int32) (h : aH), k34 v0 v1 v2 v3 v4 v5 h = some z → Ev (d + 3) none mX2_seekWorth (0, 0) 34 [.ref v0, .ref v1, .ref v2, .int v3, .ref v4, .int v5] [] h (QV z)) (v0 : Nat) (v1 : Nat) (v2 : Nat) (v3 : Int32) (v4 : Nat) (v5 : Int32) (s0 : Nat) (s1 : Nat) (h : aH) (hf : fX2_seekWorth_52 k34 v0 v1 v2 v3 v4 v5 s0 s1 h = some z) : Ev (d + 3) none mX2_seekWorth (0, 0) 52 [.ref v0, .ref v1, .ref v2, .int v3, .ref v4, .int v5] [.ref s0, .ref s1] h (QV z) := by
  obtain ⟨_, h1, hf⟩ := bnd hf
  obtain ⟨fs, ho⟩ := isO_ok h1
  obtain ⟨r, h2, hf⟩ := bnd hf
  refine ev_V kqX2_seekWorth_52 jX7_copy (zX7_copy (d := d + 1) h2) ho rfl rfl (Nat.le_of_ble_eq_true rfl) rfl (as := [.ref s0]) (rest := []) rfl (Nat.le_of_ble_eq_true rfl) (fun _ _ hq => ?_)
  obtain ⟨rfl, hh⟩ := hq
  rw [hh]
  exact jm [2, 2, 2, 1, 2, 1] (fun v0 v1 v2 v3 v4 v5 => fX2_seekWorth_55 k34 v0 v1 v2 v3 v4 v5 r) (fun v0 v1 v2 v3 v4 v5 q => tX2_seekWorth_55 hk34 v0 v1 v2 v3 v4 v5 r q) hf
def wX2_seekWorth_49 : List En := [(.aload 4, 0, 0, 0), (.aload_n 2, 0, 0, 0)]
def fX2_seekWorth_49 (k34 : Nat → Nat → Nat → Int32 → Nat → Int32 → aH → Option (aH)) (v0 : Nat) (v1 : Nat) (v2 : Nat) (v3 : Int32) (v4 : Nat) (v5 : Int32) (h : aH) : Option (aH) :=
  fX2_seekWorth_52 k34 v0 v1 v2 v3 v4 v5 v2 v4 h
theorem tX2_seekWorth_49 {d : Nat} {z : aH} {k34 : Nat → Nat → Nat → Int32 → Nat → Int32 → aH → Option (aH)} (hk34 : ∀ (v0 : Nat) (v1 : Nat) (v2 : Nat) (v3 : Int32) (v4 : Nat) (v5 : Int32) (h : aH), k34 v0 v1 v2 v3 v4 v5 h = some z → Ev (d + 3) none mX2_seekWorth (0, 0) 34 [.ref v0, .ref v1, .ref v2, .int v3, .ref v4, .int v5] [] h (QV z)) (v0 : Nat) (v1 : Nat) (v2 : Nat) (v3 : Int32) (v4 : Nat) (v5 : Int32) (h : aH) (hf : fX2_seekWorth_49 k34 v0 v1 v2 v3 v4 v5 h = some z) : Ev (d + 3) none mX2_seekWorth (0, 0) 49 [.ref v0, .ref v1, .ref v2, .int v3, .ref v4, .int v5] [] h (QV z) := 
  go_ok (X := none) (blk := wX2_seekWorth_49) (np := 52) (tt := 0) (kN := fun xs h st => app [2, 2, 2, 1, 2, 1] (fun v0 v1 v2 v3 v4 v5 => apS [2, 2] (fun s0 s1 => fX2_seekWorth_52 k34 v0 v1 v2 v3 v4 v5 s0 s1 h) st) xs) (kT := fun _ _ _ => none) (kR := kRV)
    (fun xs h st q => jm [2, 2, 2, 1, 2, 1] _ (fun v0 v1 v2 v3 v4 v5 q => apS_ok [2, 2] _ (fun st => Ev (d + 3) none mX2_seekWorth (0, 0) 52 [.ref v0, .ref v1, .ref v2, .int v3, .ref v4, .int v5] st h (QV z)) st (fun s0 s1 q => tX2_seekWorth_52 hk34 v0 v1 v2 v3 v4 v5 s0 s1 h q) q) q)
    (fun _ _ _ q => nos q)
    kRV_ok (Or.inr rfl) (by decide +kernel) (by decide +kernel) hf
def wX2_seekWorth_40 : List En := [(.iload 5, 0, 0, 0), (.iload_n 3, 0, 0, 0), (.iconst (-1), 0, 0, 0), (.ixor, 0, 0, 0), (.iand, 0, 0, 0), (.ifCond .ne 44, 90, 0, 0)]
def fX2_seekWorth_40 (k34 : Nat → Nat → Nat → Int32 → Nat → Int32 → aH → Option (aH)) (v0 : Nat) (v1 : Nat) (v2 : Nat) (v3 : Int32) (v4 : Nat) (v5 : Int32) (h : aH) : Option (aH) :=
  if (v5 &&& (v3 ^^^ (kI (-1)))) = 0 then fX2_seekWorth_49 k34 v0 v1 v2 v3 v4 v5 h else fX2_seekWorth_90 k34 v0 v1 v2 v3 v4 v5 h
theorem tX2_seekWorth_40 {d : Nat} {z : aH} {k34 : Nat → Nat → Nat → Int32 → Nat → Int32 → aH → Option (aH)} (hk34 : ∀ (v0 : Nat) (v1 : Nat) (v2 : Nat) (v3 : Int32) (v4 : Nat) (v5 : Int32) (h : aH), k34 v0 v1 v2 v3 v4 v5 h = some z → Ev (d + 3) none mX2_seekWorth (0, 0) 34 [.ref v0, .ref v1, .ref v2, .int v3, .ref v4, .int v5] [] h (QV z)) (v0 : Nat) (v1 : Nat) (v2 : Nat) (v3 : Int32) (v4 : Nat) (v5 : Int32) (h : aH) (hf : fX2_seekWorth_40 k34 v0 v1 v2 v3 v4 v5 h = some z) : Ev (d + 3) none mX2_seekWorth (0, 0) 40 [.ref v0, .ref v1, .ref v2, .int v3, .ref v4, .int v5] [] h (QV z) := 
  go_ok (X := none) (blk := wX2_seekWorth_40) (np := 49) (tt := 90) (kN := fun xs h st => app [2, 2, 2, 1, 2, 1] (fun v0 v1 v2 v3 v4 v5 => apS [] (fX2_seekWorth_49 k34 v0 v1 v2 v3 v4 v5 h) st) xs) (kT := fun xs h st => app [2, 2, 2, 1, 2, 1] (fun v0 v1 v2 v3 v4 v5 => apS [] (fX2_seekWorth_90 k34 v0 v1 v2 v3 v4 v5 h) st) xs) (kR := kRV)
    (fun xs h st q => jm [2, 2, 2, 1, 2, 1] _ (fun v0 v1 v2 v3 v4 v5 q => apS_ok [] _ (fun st => Ev (d + 3) none mX2_seekWorth (0, 0) 49 [.ref v0, .ref v1, .ref v2, .int v3, .ref v4, .int v5] st h (QV z)) st (fun q => tX2_seekWorth_49 hk34 v0 v1 v2 v3 v4 v5 h q) q) q)
    (fun xs h st q => jm [2, 2, 2, 1, 2, 1] _ (fun v0 v1 v2 v3 v4 v5 q => apS_ok [] _ (fun st => Ev (d + 3) none mX2_seekWorth (0, 0) 90 [.ref v0, .ref v1, .ref v2, .int v3, .ref v4, .int v5] st h (QV z)) st (fun q => tX2_seekWorth_90 hk34 v0 v1 v2 v3 v4 v5 h q) q) q)
    kRV_ok (Or.inr rfl) (by decide +kernel) (by decide +kernel) hf
def wX2_seekWorth_34 : List En := [(.iload 5, 0, 0, 0), (.iload_n 3, 0, 0, 0), (.if_icmp .gt 59, 96, 0, 0)]
def fX2_seekWorth_34 (k34 : Nat → Nat → Nat → Int32 → Nat → Int32 → aH → Option (aH)) (v0 : Nat) (v1 : Nat) (v2 : Nat) (v3 : Int32) (v4 : Nat) (v5 : Int32) (h : aH) : Option (aH) :=
  if v3 < v5 then fX2_seekWorth_96 h else fX2_seekWorth_40 k34 v0 v1 v2 v3 v4 v5 h
theorem tX2_seekWorth_34 {d : Nat} {z : aH} {k34 : Nat → Nat → Nat → Int32 → Nat → Int32 → aH → Option (aH)} (hk34 : ∀ (v0 : Nat) (v1 : Nat) (v2 : Nat) (v3 : Int32) (v4 : Nat) (v5 : Int32) (h : aH), k34 v0 v1 v2 v3 v4 v5 h = some z → Ev (d + 3) none mX2_seekWorth (0, 0) 34 [.ref v0, .ref v1, .ref v2, .int v3, .ref v4, .int v5] [] h (QV z)) (v0 : Nat) (v1 : Nat) (v2 : Nat) (v3 : Int32) (v4 : Nat) (v5 : Int32) (h : aH) (hf : fX2_seekWorth_34 k34 v0 v1 v2 v3 v4 v5 h = some z) : Ev (d + 3) none mX2_seekWorth (0, 0) 34 [.ref v0, .ref v1, .ref v2, .int v3, .ref v4, .int v5] [] h (QV z) := 
  go_ok (X := none) (blk := wX2_seekWorth_34) (np := 40) (tt := 96) (kN := fun xs h st => app [2, 2, 2, 1, 2, 1] (fun v0 v1 v2 v3 v4 v5 => apS [] (fX2_seekWorth_40 k34 v0 v1 v2 v3 v4 v5 h) st) xs) (kT := fun xs h st => app [0, 0, 0, 0, 0, 0] (apS [] (fX2_seekWorth_96 h) st) xs) (kR := kRV)
    (fun xs h st q => jm [2, 2, 2, 1, 2, 1] _ (fun v0 v1 v2 v3 v4 v5 q => apS_ok [] _ (fun st => Ev (d + 3) none mX2_seekWorth (0, 0) 40 [.ref v0, .ref v1, .ref v2, .int v3, .ref v4, .int v5] st h (QV z)) st (fun q => tX2_seekWorth_40 hk34 v0 v1 v2 v3 v4 v5 h q) q) q)
    (fun xs h st q => jm [0, 0, 0, 0, 0, 0] _ (fun q => apS_ok [] _ (fun st => Ev (d + 3) none mX2_seekWorth (0, 0) 96 [.null, .null, .null, .null, .null, .null] st h (QV z)) st (fun q => tX2_seekWorth_96 h q) q) q)
    kRV_ok (Or.inr rfl) (by decide +kernel) (by decide +kernel) hf
def lX2_seekWorth_34 : Nat → Nat → Nat → Nat → Int32 → Nat → Int32 → aH → Option (aH)
  | 0, _, _, _, _, _, _, _ => none
  | n + 1, v0, v1, v2, v3, v4, v5, h => fX2_seekWorth_34 (lX2_seekWorth_34 n) v0 v1 v2 v3 v4 v5 h
theorem uX2_seekWorth_34 {d : Nat} {z : aH} : ∀ (n : Nat) (v0 : Nat) (v1 : Nat) (v2 : Nat) (v3 : Int32) (v4 : Nat) (v5 : Int32) (h : aH), lX2_seekWorth_34 n v0 v1 v2 v3 v4 v5 h = some z → Ev (d + 3) none mX2_seekWorth (0, 0) 34 [.ref v0, .ref v1, .ref v2, .int v3, .ref v4, .int v5] [] h (QV z) := by
  intro n
  induction n with
  | zero => intro _ _ _ _ _ _ _ q; exact nos (show (none : Option (aH)) = some z from q)
  | succ n ih => intro v0 v1 v2 v3 v4 v5 h q; exact tX2_seekWorth_34 ih v0 v1 v2 v3 v4 v5 h q
def wX2_seekWorth_22 : List En := [(.istore_n 3, 0, 0, 0), (.aload_n 0, 0, 0, 0), (.getfield 11, 65, 2, 3), (.iconst 0, 0, 0, 0), (.aaload, 0, 0, 0), (.astore 4, 0, 0, 0), (.iconst 0, 0, 0, 0), (.istore 5, 0, 0, 0)]
def fX2_seekWorth_22 (v0 : Nat) (v1 : Nat) (v2 : Nat) (s0 : Int32) (h : aH) : Option (aH) :=
  (gFR h 2 v0 3).bind fun t1 =>
  (aRR (h[t1]?) (kI 0)).bind fun t2 =>
  lX2_seekWorth_34 FU v0 v1 v2 s0 t2 (kI 0) h
theorem tX2_seekWorth_22 {d : Nat} {z : aH} (v0 : Nat) (v1 : Nat) (v2 : Nat) (s0 : Int32) (h : aH) (hf : fX2_seekWorth_22 v0 v1 v2 s0 h = some z) : Ev (d + 3) none mX2_seekWorth (0, 0) 22 [.ref v0, .ref v1, .ref v2, .null, .null, .null] [.int s0] h (QV z) := 
  go_ok (X := none) (blk := wX2_seekWorth_22) (np := 34) (tt := 0) (kN := fun xs h st => app [2, 2, 2, 1, 2, 1] (fun v0 v1 v2 v3 v4 v5 => apS [] (lX2_seekWorth_34 FU v0 v1 v2 v3 v4 v5 h) st) xs) (kT := fun _ _ _ => none) (kR := kRV)
    (fun xs h st q => jm [2, 2, 2, 1, 2, 1] _ (fun v0 v1 v2 v3 v4 v5 q => apS_ok [] _ (fun st => Ev (d + 3) none mX2_seekWorth (0, 0) 34 [.ref v0, .ref v1, .ref v2, .int v3, .ref v4, .int v5] st h (QV z)) st (fun q => uX2_seekWorth_34 FU v0 v1 v2 v3 v4 v5 h q) q) q)
    (fun _ _ _ q => nos q)
    kRV_ok (Or.inr rfl) (by decide +kernel) (by decide +kernel) hf
theorem kqX2_seekWorth_19 : okC mX2_seekWorth 19 (.invokevirtual 50) 115 116 0 1 = true := by decide +kernel
def fX2_seekWorth_19 (v0 : Nat) (v1 : Nat) (v2 : Nat) (s0 : Nat) (s1 : Nat) (h : aH) : Option (aH) :=
  (isO h 7 s1).bind fun _ =>
  (gX7_freeToFast s1 s0 h).bind fun r =>
  fX2_seekWorth_22 v0 v1 v2 r.1 r.2
theorem tX2_seekWorth_19 {d : Nat} {z : aH} (v0 : Nat) (v1 : Nat) (v2 : Nat) (s0 : Nat) (s1 : Nat) (h : aH) (hf : fX2_seekWorth_19 v0 v1 v2 s0 s1 h = some z) : Ev (d + 3) none mX2_seekWorth (0, 0) 19 [.ref v0, .ref v1, .ref v2, .null, .null, .null] [.ref s0, .ref s1] h (QV z) := by
  obtain ⟨_, h1, hf⟩ := bnd hf
  obtain ⟨fs, ho⟩ := isO_ok h1
  obtain ⟨r, h2, hf⟩ := bnd hf
  refine ev_V kqX2_seekWorth_19 jX7_freeToFast (zX7_freeToFast (d := d + 0) h2) ho rfl rfl (Nat.le_of_ble_eq_true rfl) rfl (as := [.ref s0]) (rest := []) rfl (Nat.le_of_ble_eq_true rfl) (fun _ _ hq => ?_)
  obtain ⟨rfl, rfl⟩ := hq
  exact jm [2, 2, 2, 0, 0, 0] (fun v0 v1 v2 => fX2_seekWorth_22 v0 v1 v2 r.1 r.2) (fun v0 v1 v2 q => tX2_seekWorth_22 v0 v1 v2 r.1 r.2 q) hf
def wX2_seekWorth_0 : List En := [(.aload_n 0, 0, 0, 0), (.sipush 1000, 0, 0, 0), (.putfield 25, 59, 2, 0), (.aload_n 0, 0, 0, 0), (.iconst 0, 0, 0, 0), (.putfield 35, 61, 2, 1), (.aload_n 0, 0, 0, 0), (.iconst (-1), 0, 0, 0), (.putfield 83, 63, 2, 2), (.aload_n 2, 0, 0, 0), (.aload_n 1, 0, 0, 0)]
def fX2_seekWorth_0 (v0 : Nat) (v1 : Nat) (v2 : Nat) (h : aH) : Option (aH) :=
  (pWV h 2 v0 0 (.int (kS 1000))).bind fun h1 =>
  (pWV h1 2 v0 1 (.int (kI 0))).bind fun h2 =>
  (pWV h2 2 v0 2 (.int (kI (-1)))).bind fun h3 =>
  fX2_seekWorth_19 v0 v1 v2 v1 v2 h3
theorem tX2_seekWorth_0 {d : Nat} {z : aH} (v0 : Nat) (v1 : Nat) (v2 : Nat) (h : aH) (hf : fX2_seekWorth_0 v0 v1 v2 h = some z) : Ev (d + 3) none mX2_seekWorth (0, 0) 0 [.ref v0, .ref v1, .ref v2, .null, .null, .null] [] h (QV z) := 
  go_ok (X := none) (blk := wX2_seekWorth_0) (np := 19) (tt := 0) (kN := fun xs h st => app [2, 2, 2, 0, 0, 0] (fun v0 v1 v2 => apS [2, 2] (fun s0 s1 => fX2_seekWorth_19 v0 v1 v2 s0 s1 h) st) xs) (kT := fun _ _ _ => none) (kR := kRV)
    (fun xs h st q => jm [2, 2, 2, 0, 0, 0] _ (fun v0 v1 v2 q => apS_ok [2, 2] _ (fun st => Ev (d + 3) none mX2_seekWorth (0, 0) 19 [.ref v0, .ref v1, .ref v2, .null, .null, .null] st h (QV z)) st (fun s0 s1 q => tX2_seekWorth_19 v0 v1 v2 s0 s1 h q) q) q)
    (fun _ _ _ q => nos q)
    kRV_ok (Or.inr rfl) (by decide +kernel) (by decide +kernel) hf
def gX2_seekWorth (v0 : Nat) (v1 : Nat) (v2 : Nat) (h : aH) : Option (aH) := fX2_seekWorth_0 v0 v1 v2 h
theorem zX2_seekWorth {d : Nat} {z : aH} {v0 : Nat} {v1 : Nat} {v2 : Nat} {h : aH} (q : gX2_seekWorth v0 v1 v2 h = some z) : CT (d + 3) mX2_seekWorth (0, 0) [.ref v0, .ref v1, .ref v2] h (QV z) :=
  ct_ev (by decide +kernel) (Nat.le_of_ble_eq_true rfl) QV_r (jm [2, 2, 2, 0, 0, 0] (fun v0 v1 v2 => fX2_seekWorth_0 v0 v1 v2 h) (fun v0 v1 v2 q => tX2_seekWorth_0 v0 v1 v2 h q) q)
def wX10_bestFast_39 : List En := [(.ireturn, 0, 0, 0)]
def fX10_bestFast_39 (s0 : Int32) (h : aH) : Option (Int32 × aH) :=
  some (s0, h)
theorem tX10_bestFast_39 {d : Nat} {z : Int32 × aH} (s0 : Int32) (h : aH) (hf : fX10_bestFast_39 s0 h = some z) : Ev (d + 4) none mX10_bestFast (0, 0) 39 [.null] [.int s0] h (QI z) := 
  go_ok (X := none) (blk := wX10_bestFast_39) (np := 40) (tt := 0) (kN := fun _ _ _ => none) (kT := fun _ _ _ => none) (kR := kRI)
    (fun _ _ _ q => nos q)
    (fun _ _ _ q => nos q)
    kRI_ok (Or.inr rfl) (by decide +kernel) (by decide +kernel) hf
theorem kqX10_bestFast_36 : okC mX10_bestFast 36 (.invokevirtual 119) 60 44 0 1 = true := by decide +kernel
def fX10_bestFast_36 (s0 : Int32) (s1 : Nat) (h : aH) : Option (Int32 × aH) :=
  (isO h 10 s1).bind fun _ =>
  (gX10_answer s1 s0 h).bind fun r =>
  fX10_bestFast_39 r.1 r.2
theorem tX10_bestFast_36 {d : Nat} {z : Int32 × aH} (s0 : Int32) (s1 : Nat) (h : aH) (hf : fX10_bestFast_36 s0 s1 h = some z) : Ev (d + 4) none mX10_bestFast (0, 0) 36 [.null] [.int s0, .ref s1] h (QI z) := by
  obtain ⟨_, h1, hf⟩ := bnd hf
  obtain ⟨fs, ho⟩ := isO_ok h1
  obtain ⟨r, h2, hf⟩ := bnd hf
  refine ev_V kqX10_bestFast_36 jX10_answer (zX10_answer (d := d + 3) h2) ho rfl rfl (Nat.le_of_ble_eq_true rfl) rfl (as := [.int s0]) (rest := []) rfl (Nat.le_of_ble_eq_true rfl) (fun _ _ hq => ?_)
  obtain ⟨rfl, rfl⟩ := hq
  exact jm [0] (fX10_bestFast_39 r.1 r.2) (fun q => tX10_bestFast_39 r.1 r.2 q) hf
def wX10_bestFast_28 : List En := [(.aload_n 0, 0, 0, 0), (.aload_n 0, 0, 0, 0), (.getfield 26, 164, 10, 2), (.getfield 250, 62, 2, 1)]
def fX10_bestFast_28 (v0 : Nat) (h : aH) : Option (Int32 × aH) :=
  (gFR h 10 v0 2).bind fun t1 =>
  (gFI h 2 t1 1).bind fun t2 =>
  fX10_bestFast_36 t2 v0 h
theorem tX10_bestFast_28 {d : Nat} {z : Int32 × aH} (v0 : Nat) (h : aH) (hf : fX10_bestFast_28 v0 h = some z) : Ev (d + 4) none mX10_bestFast (0, 0) 28 [.ref v0] [] h (QI z) := 
  go_ok (X := none) (blk := wX10_bestFast_28) (np := 36) (tt := 0) (kN := fun xs h st => app [0] (apS [1, 2] (fun s0 s1 => fX10_bestFast_36 s0 s1 h) st) xs) (kT := fun _ _ _ => none) (kR := kRI)
    (fun xs h st q => jm [0] _ (fun q => apS_ok [1, 2] _ (fun st => Ev (d + 4) none mX10_bestFast (0, 0) 36 [.null] st h (QI z)) st (fun s0 s1 q => tX10_bestFast_36 s0 s1 h q) q) q)
    (fun _ _ _ q => nos q)
    kRI_ok (Or.inr rfl) (by decide +kernel) (by decide +kernel) hf
theorem kqX10_bestFast_25 : okC mX10_bestFast 25 (.invokevirtual 253) 123 127 0 2 = true := by decide +kernel
def fX10_bestFast_25 (v0 : Nat) (s0 : Nat) (s1 : Nat) (s2 : Nat) (h : aH) : Option (Int32 × aH) :=
  (isO h 2 s2).bind fun _ =>
  (gX2_seekWorth s2 s1 s0 h).bind fun r =>
  fX10_bestFast_28 v0 r
theorem tX10_bestFast_25 {d : Nat} {z : Int32 × aH} (v0 : Nat) (s0 : Nat) (s1 : Nat) (s2 : Nat) (h : aH) (hf : fX10_bestFast_25 v0 s0 s1 s2 h = some z) : Ev (d + 4) none mX10_bestFast (0, 0) 25 [.ref v0] [.ref s0, .ref s1, .ref s2] h (QI z) := by
  obtain ⟨_, h1, hf⟩ := bnd hf
  obtain ⟨fs, ho⟩ := isO_ok h1
  obtain ⟨r, h2, hf⟩ := bnd hf
  refine ev_V kqX10_bestFast_25 jX2_seekWorth (zX2_seekWorth (d := d + 0) h2) ho rfl rfl (Nat.le_of_ble_eq_true rfl) rfl (as := [.ref s1, .ref s0]) (rest := []) rfl (Nat.le_of_ble_eq_true rfl) (fun _ _ hq => ?_)
  obtain ⟨rfl, hh⟩ := hq
  rw [hh]
  exact jm [2] (fun v0 => fX10_bestFast_28 v0 r) (fun v0 q => tX10_bestFast_28 v0 r q) hf
def wX10_bestFast_13 : List En := [(.aload_n 0, 0, 0, 0), (.getfield 26, 164, 10, 2), (.aload_n 0, 0, 0, 0), (.getfield 75, 171, 10, 9), (.aload_n 0, 0, 0, 0), (.getfield 68, 170, 10, 8)]
def fX10_bestFast_13 (v0 : Nat) (h : aH) : Option (Int32 × aH) :=
  (gFR h 10 v0 2).bind fun t1 =>
  (gFR h 10 v0 9).bind fun t2 =>
  (gFR h 10 v0 8).bind fun t3 =>
  fX10_bestFast_25 v0 t3 t2 t1 h
theorem tX10_bestFast_13 {d : Nat} {z : Int32 × aH} (v0 : Nat) (h : aH) (hf : fX10_bestFast_13 v0 h = some z) : Ev (d + 4) none mX10_bestFast (0, 0) 13 [.ref v0] [] h (QI z) := 
  go_ok (X := none) (blk := wX10_bestFast_13) (np := 25) (tt := 0) (kN := fun xs h st => app [2] (fun v0 => apS [2, 2, 2] (fun s0 s1 s2 => fX10_bestFast_25 v0 s0 s1 s2 h) st) xs) (kT := fun _ _ _ => none) (kR := kRI)
    (fun xs h st q => jm [2] _ (fun v0 q => apS_ok [2, 2, 2] _ (fun st => Ev (d + 4) none mX10_bestFast (0, 0) 25 [.ref v0] st h (QI z)) st (fun s0 s1 s2 q => tX10_bestFast_25 v0 s0 s1 s2 h q) q) q)
    (fun _ _ _ q => nos q)
    kRI_ok (Or.inr rfl) (by decide +kernel) (by decide +kernel) hf
def wX10_bestFast_12 : List En := [(.ireturn, 0, 0, 0)]
def fX10_bestFast_12 (s0 : Int32) (h : aH) : Option (Int32 × aH) :=
  some (s0, h)
theorem tX10_bestFast_12 {d : Nat} {z : Int32 × aH} (s0 : Int32) (h : aH) (hf : fX10_bestFast_12 s0 h = some z) : Ev (d + 4) none mX10_bestFast (0, 0) 12 [.null] [.int s0] h (QI z) := 
  go_ok (X := none) (blk := wX10_bestFast_12) (np := 13) (tt := 0) (kN := fun _ _ _ => none) (kT := fun _ _ _ => none) (kR := kRI)
    (fun _ _ _ q => nos q)
    (fun _ _ _ q => nos q)
    kRI_ok (Or.inr rfl) (by decide +kernel) (by decide +kernel) hf
theorem kqX10_bestFast_9 : okC mX10_bestFast 9 (.invokevirtual 94) 15 8 0 1 = true := by decide +kernel
def fX10_bestFast_9 (s0 : Int32) (s1 : Nat) (h : aH) : Option (Int32 × aH) :=
  (isO h 10 s1).bind fun _ =>
  (gX10_refuse s1 s0 h).bind fun r =>
  fX10_bestFast_12 r.1 r.2
theorem tX10_bestFast_9 {d : Nat} {z : Int32 × aH} (s0 : Int32) (s1 : Nat) (h : aH) (hf : fX10_bestFast_9 s0 s1 h = some z) : Ev (d + 4) none mX10_bestFast (0, 0) 9 [.null] [.int s0, .ref s1] h (QI z) := by
  obtain ⟨_, h1, hf⟩ := bnd hf
  obtain ⟨fs, ho⟩ := isO_ok h1
  obtain ⟨r, h2, hf⟩ := bnd hf
  refine ev_V kqX10_bestFast_9 jX10_refuse (zX10_refuse (d := d + 3) h2) ho rfl rfl (Nat.le_of_ble_eq_true rfl) rfl (as := [.int s0]) (rest := []) rfl (Nat.le_of_ble_eq_true rfl) (fun _ _ hq => ?_)
  obtain ⟨rfl, rfl⟩ := hq
  exact jm [0] (fX10_bestFast_12 r.1 r.2) (fun q => tX10_bestFast_12 r.1 r.2 q) hf
def wX10_bestFast_7 : List En := [(.aload_n 0, 0, 0, 0), (.iconst 1, 0, 0, 0)]
def fX10_bestFast_7 (v0 : Nat) (h : aH) : Option (Int32 × aH) :=
  fX10_bestFast_9 (kI 1) v0 h
theorem tX10_bestFast_7 {d : Nat} {z : Int32 × aH} (v0 : Nat) (h : aH) (hf : fX10_bestFast_7 v0 h = some z) : Ev (d + 4) none mX10_bestFast (0, 0) 7 [.ref v0] [] h (QI z) := 
  go_ok (X := none) (blk := wX10_bestFast_7) (np := 9) (tt := 0) (kN := fun xs h st => app [0] (apS [1, 2] (fun s0 s1 => fX10_bestFast_9 s0 s1 h) st) xs) (kT := fun _ _ _ => none) (kR := kRI)
    (fun xs h st q => jm [0] _ (fun q => apS_ok [1, 2] _ (fun st => Ev (d + 4) none mX10_bestFast (0, 0) 9 [.null] st h (QI z)) st (fun s0 s1 q => tX10_bestFast_9 s0 s1 h q) q) q)
    (fun _ _ _ q => nos q)
    kRI_ok (Or.inr rfl) (by decide +kernel) (by decide +kernel) hf
def wX10_bestFast_4 : List En := [(.ifCond .eq 9, 13, 0, 0)]
def fX10_bestFast_4 (v0 : Nat) (s0 : Int32) (h : aH) : Option (Int32 × aH) :=
  if s0 = 0 then fX10_bestFast_13 v0 h else fX10_bestFast_7 v0 h
theorem tX10_bestFast_4 {d : Nat} {z : Int32 × aH} (v0 : Nat) (s0 : Int32) (h : aH) (hf : fX10_bestFast_4 v0 s0 h = some z) : Ev (d + 4) none mX10_bestFast (0, 0) 4 [.ref v0] [.int s0] h (QI z) := 
  go_ok (X := none) (blk := wX10_bestFast_4) (np := 7) (tt := 13) (kN := fun xs h st => app [2] (fun v0 => apS [] (fX10_bestFast_7 v0 h) st) xs) (kT := fun xs h st => app [2] (fun v0 => apS [] (fX10_bestFast_13 v0 h) st) xs) (kR := kRI)
    (fun xs h st q => jm [2] _ (fun v0 q => apS_ok [] _ (fun st => Ev (d + 4) none mX10_bestFast (0, 0) 7 [.ref v0] st h (QI z)) st (fun q => tX10_bestFast_7 v0 h q) q) q)
    (fun xs h st q => jm [2] _ (fun v0 q => apS_ok [] _ (fun st => Ev (d + 4) none mX10_bestFast (0, 0) 13 [.ref v0] st h (QI z)) st (fun q => tX10_bestFast_13 v0 h q) q) q)
    kRI_ok (Or.inr rfl) (by decide +kernel) (by decide +kernel) hf
theorem kqX10_bestFast_1 : okC mX10_bestFast 1 (.invokevirtual 159) 68 52 0 0 = true := by decide +kernel
def fX10_bestFast_1 (v0 : Nat) (s0 : Nat) (h : aH) : Option (Int32 × aH) :=
  (isO h 10 s0).bind fun _ =>
  (gX10_lacksTable s0 h).bind fun r =>
  fX10_bestFast_4 v0 r.1 r.2
theorem tX10_bestFast_1 {d : Nat} {z : Int32 × aH} (v0 : Nat) (s0 : Nat) (h : aH) (hf : fX10_bestFast_1 v0 s0 h = some z) : Ev (d + 4) none mX10_bestFast (0, 0) 1 [.ref v0] [.ref s0] h (QI z) := by
  obtain ⟨_, h1, hf⟩ := bnd hf
  obtain ⟨fs, ho⟩ := isO_ok h1
  obtain ⟨r, h2, hf⟩ := bnd hf
  refine ev_V kqX10_bestFast_1 jX10_lacksTable (zX10_lacksTable (d := d + 3) h2) ho rfl rfl (Nat.le_of_ble_eq_true rfl) rfl (as := []) (rest := []) rfl (Nat.le_of_ble_eq_true rfl) (fun _ _ hq => ?_)
  obtain ⟨-, rfl, rfl⟩ := hq
  exact jm [2] (fun v0 => fX10_bestFast_4 v0 r.1 r.2) (fun v0 q => tX10_bestFast_4 v0 r.1 r.2 q) hf
def wX10_bestFast_0 : List En := [(.aload_n 0, 0, 0, 0)]
def fX10_bestFast_0 (v0 : Nat) (h : aH) : Option (Int32 × aH) :=
  fX10_bestFast_1 v0 v0 h
theorem tX10_bestFast_0 {d : Nat} {z : Int32 × aH} (v0 : Nat) (h : aH) (hf : fX10_bestFast_0 v0 h = some z) : Ev (d + 4) none mX10_bestFast (0, 0) 0 [.ref v0] [] h (QI z) := 
  go_ok (X := none) (blk := wX10_bestFast_0) (np := 1) (tt := 0) (kN := fun xs h st => app [2] (fun v0 => apS [2] (fun s0 => fX10_bestFast_1 v0 s0 h) st) xs) (kT := fun _ _ _ => none) (kR := kRI)
    (fun xs h st q => jm [2] _ (fun v0 q => apS_ok [2] _ (fun st => Ev (d + 4) none mX10_bestFast (0, 0) 1 [.ref v0] st h (QI z)) st (fun s0 q => tX10_bestFast_1 v0 s0 h q) q) q)
    (fun _ _ _ q => nos q)
    kRI_ok (Or.inr rfl) (by decide +kernel) (by decide +kernel) hf
def gX10_bestFast (v0 : Nat) (h : aH) : Option (Int32 × aH) := fX10_bestFast_0 v0 h
theorem zX10_bestFast {d : Nat} {z : Int32 × aH} {v0 : Nat} {h : aH} (q : gX10_bestFast v0 h = some z) : CT (d + 4) mX10_bestFast (0, 0) [.ref v0] h (QI z) :=
  ct_ev (by decide +kernel) (Nat.le_of_ble_eq_true rfl) QI_r (jm [2] (fun v0 => fX10_bestFast_0 v0 h) (fun v0 q => tX10_bestFast_0 v0 h q) q)
def wX10_bestWorth_39 : List En := [(.ireturn, 0, 0, 0)]
def fX10_bestWorth_39 (s0 : Int32) (h : aH) : Option (Int32 × aH) :=
  some (s0, h)
theorem tX10_bestWorth_39 {d : Nat} {z : Int32 × aH} (s0 : Int32) (h : aH) (hf : fX10_bestWorth_39 s0 h = some z) : Ev (d + 4) none mX10_bestWorth (0, 0) 39 [.null] [.int s0] h (QI z) := 
  go_ok (X := none) (blk := wX10_bestWorth_39) (np := 40) (tt := 0) (kN := fun _ _ _ => none) (kT := fun _ _ _ => none) (kR := kRI)
    (fun _ _ _ q => nos q)
    (fun _ _ _ q => nos q)
    kRI_ok (Or.inr rfl) (by decide +kernel) (by decide +kernel) hf
theorem kqX10_bestWorth_36 : okC mX10_bestWorth 36 (.invokevirtual 119) 60 44 0 1 = true := by decide +kernel
def fX10_bestWorth_36 (s0 : Int32) (s1 : Nat) (h : aH) : Option (Int32 × aH) :=
  (isO h 10 s1).bind fun _ =>
  (gX10_answer s1 s0 h).bind fun r =>
  fX10_bestWorth_39 r.1 r.2
theorem tX10_bestWorth_36 {d : Nat} {z : Int32 × aH} (s0 : Int32) (s1 : Nat) (h : aH) (hf : fX10_bestWorth_36 s0 s1 h = some z) : Ev (d + 4) none mX10_bestWorth (0, 0) 36 [.null] [.int s0, .ref s1] h (QI z) := by
  obtain ⟨_, h1, hf⟩ := bnd hf
  obtain ⟨fs, ho⟩ := isO_ok h1
  obtain ⟨r, h2, hf⟩ := bnd hf
  refine ev_V kqX10_bestWorth_36 jX10_answer (zX10_answer (d := d + 3) h2) ho rfl rfl (Nat.le_of_ble_eq_true rfl) rfl (as := [.int s0]) (rest := []) rfl (Nat.le_of_ble_eq_true rfl) (fun _ _ hq => ?_)
  obtain ⟨rfl, rfl⟩ := hq
  exact jm [0] (fX10_bestWorth_39 r.1 r.2) (fun q => tX10_bestWorth_39 r.1 r.2 q) hf
def wX10_bestWorth_28 : List En := [(.aload_n 0, 0, 0, 0), (.aload_n 0, 0, 0, 0), (.getfield 26, 164, 10, 2), (.getfield 257, 64, 2, 2)]
def fX10_bestWorth_28 (v0 : Nat) (h : aH) : Option (Int32 × aH) :=
  (gFR h 10 v0 2).bind fun t1 =>
  (gFI h 2 t1 2).bind fun t2 =>
  fX10_bestWorth_36 t2 v0 h
theorem tX10_bestWorth_28 {d : Nat} {z : Int32 × aH} (v0 : Nat) (h : aH) (hf : fX10_bestWorth_28 v0 h = some z) : Ev (d + 4) none mX10_bestWorth (0, 0) 28 [.ref v0] [] h (QI z) := 
  go_ok (X := none) (blk := wX10_bestWorth_28) (np := 36) (tt := 0) (kN := fun xs h st => app [0] (apS [1, 2] (fun s0 s1 => fX10_bestWorth_36 s0 s1 h) st) xs) (kT := fun _ _ _ => none) (kR := kRI)
    (fun xs h st q => jm [0] _ (fun q => apS_ok [1, 2] _ (fun st => Ev (d + 4) none mX10_bestWorth (0, 0) 36 [.null] st h (QI z)) st (fun s0 s1 q => tX10_bestWorth_36 s0 s1 h q) q) q)
    (fun _ _ _ q => nos q)
    kRI_ok (Or.inr rfl) (by decide +kernel) (by decide +kernel) hf
theorem kqX10_bestWorth_25 : okC mX10_bestWorth 25 (.invokevirtual 253) 123 127 0 2 = true := by decide +kernel
def fX10_bestWorth_25 (v0 : Nat) (s0 : Nat) (s1 : Nat) (s2 : Nat) (h : aH) : Option (Int32 × aH) :=
  (isO h 2 s2).bind fun _ =>
  (gX2_seekWorth s2 s1 s0 h).bind fun r =>
  fX10_bestWorth_28 v0 r
theorem tX10_bestWorth_25 {d : Nat} {z : Int32 × aH} (v0 : Nat) (s0 : Nat) (s1 : Nat) (s2 : Nat) (h : aH) (hf : fX10_bestWorth_25 v0 s0 s1 s2 h = some z) : Ev (d + 4) none mX10_bestWorth (0, 0) 25 [.ref v0] [.ref s0, .ref s1, .ref s2] h (QI z) := by
  obtain ⟨_, h1, hf⟩ := bnd hf
  obtain ⟨fs, ho⟩ := isO_ok h1
  obtain ⟨r, h2, hf⟩ := bnd hf
  refine ev_V kqX10_bestWorth_25 jX2_seekWorth (zX2_seekWorth (d := d + 0) h2) ho rfl rfl (Nat.le_of_ble_eq_true rfl) rfl (as := [.ref s1, .ref s0]) (rest := []) rfl (Nat.le_of_ble_eq_true rfl) (fun _ _ hq => ?_)
  obtain ⟨rfl, hh⟩ := hq
  rw [hh]
  exact jm [2] (fun v0 => fX10_bestWorth_28 v0 r) (fun v0 q => tX10_bestWorth_28 v0 r q) hf
def wX10_bestWorth_13 : List En := [(.aload_n 0, 0, 0, 0), (.getfield 26, 164, 10, 2), (.aload_n 0, 0, 0, 0), (.getfield 75, 171, 10, 9), (.aload_n 0, 0, 0, 0), (.getfield 68, 170, 10, 8)]
def fX10_bestWorth_13 (v0 : Nat) (h : aH) : Option (Int32 × aH) :=
  (gFR h 10 v0 2).bind fun t1 =>
  (gFR h 10 v0 9).bind fun t2 =>
  (gFR h 10 v0 8).bind fun t3 =>
  fX10_bestWorth_25 v0 t3 t2 t1 h
theorem tX10_bestWorth_13 {d : Nat} {z : Int32 × aH} (v0 : Nat) (h : aH) (hf : fX10_bestWorth_13 v0 h = some z) : Ev (d + 4) none mX10_bestWorth (0, 0) 13 [.ref v0] [] h (QI z) := 
  go_ok (X := none) (blk := wX10_bestWorth_13) (np := 25) (tt := 0) (kN := fun xs h st => app [2] (fun v0 => apS [2, 2, 2] (fun s0 s1 s2 => fX10_bestWorth_25 v0 s0 s1 s2 h) st) xs) (kT := fun _ _ _ => none) (kR := kRI)
    (fun xs h st q => jm [2] _ (fun v0 q => apS_ok [2, 2, 2] _ (fun st => Ev (d + 4) none mX10_bestWorth (0, 0) 25 [.ref v0] st h (QI z)) st (fun s0 s1 s2 q => tX10_bestWorth_25 v0 s0 s1 s2 h q) q) q)
    (fun _ _ _ q => nos q)
    kRI_ok (Or.inr rfl) (by decide +kernel) (by decide +kernel) hf
def wX10_bestWorth_12 : List En := [(.ireturn, 0, 0, 0)]
def fX10_bestWorth_12 (s0 : Int32) (h : aH) : Option (Int32 × aH) :=
  some (s0, h)
theorem tX10_bestWorth_12 {d : Nat} {z : Int32 × aH} (s0 : Int32) (h : aH) (hf : fX10_bestWorth_12 s0 h = some z) : Ev (d + 4) none mX10_bestWorth (0, 0) 12 [.null] [.int s0] h (QI z) := 
  go_ok (X := none) (blk := wX10_bestWorth_12) (np := 13) (tt := 0) (kN := fun _ _ _ => none) (kT := fun _ _ _ => none) (kR := kRI)
    (fun _ _ _ q => nos q)
    (fun _ _ _ q => nos q)
    kRI_ok (Or.inr rfl) (by decide +kernel) (by decide +kernel) hf
theorem kqX10_bestWorth_9 : okC mX10_bestWorth 9 (.invokevirtual 94) 15 8 0 1 = true := by decide +kernel
def fX10_bestWorth_9 (s0 : Int32) (s1 : Nat) (h : aH) : Option (Int32 × aH) :=
  (isO h 10 s1).bind fun _ =>
  (gX10_refuse s1 s0 h).bind fun r =>
  fX10_bestWorth_12 r.1 r.2
theorem tX10_bestWorth_9 {d : Nat} {z : Int32 × aH} (s0 : Int32) (s1 : Nat) (h : aH) (hf : fX10_bestWorth_9 s0 s1 h = some z) : Ev (d + 4) none mX10_bestWorth (0, 0) 9 [.null] [.int s0, .ref s1] h (QI z) := by
  obtain ⟨_, h1, hf⟩ := bnd hf
  obtain ⟨fs, ho⟩ := isO_ok h1
  obtain ⟨r, h2, hf⟩ := bnd hf
  refine ev_V kqX10_bestWorth_9 jX10_refuse (zX10_refuse (d := d + 3) h2) ho rfl rfl (Nat.le_of_ble_eq_true rfl) rfl (as := [.int s0]) (rest := []) rfl (Nat.le_of_ble_eq_true rfl) (fun _ _ hq => ?_)
  obtain ⟨rfl, rfl⟩ := hq
  exact jm [0] (fX10_bestWorth_12 r.1 r.2) (fun q => tX10_bestWorth_12 r.1 r.2 q) hf
def wX10_bestWorth_7 : List En := [(.aload_n 0, 0, 0, 0), (.iconst 1, 0, 0, 0)]
def fX10_bestWorth_7 (v0 : Nat) (h : aH) : Option (Int32 × aH) :=
  fX10_bestWorth_9 (kI 1) v0 h
theorem tX10_bestWorth_7 {d : Nat} {z : Int32 × aH} (v0 : Nat) (h : aH) (hf : fX10_bestWorth_7 v0 h = some z) : Ev (d + 4) none mX10_bestWorth (0, 0) 7 [.ref v0] [] h (QI z) := 
  go_ok (X := none) (blk := wX10_bestWorth_7) (np := 9) (tt := 0) (kN := fun xs h st => app [0] (apS [1, 2] (fun s0 s1 => fX10_bestWorth_9 s0 s1 h) st) xs) (kT := fun _ _ _ => none) (kR := kRI)
    (fun xs h st q => jm [0] _ (fun q => apS_ok [1, 2] _ (fun st => Ev (d + 4) none mX10_bestWorth (0, 0) 9 [.null] st h (QI z)) st (fun s0 s1 q => tX10_bestWorth_9 s0 s1 h q) q) q)
    (fun _ _ _ q => nos q)
    kRI_ok (Or.inr rfl) (by decide +kernel) (by decide +kernel) hf
def wX10_bestWorth_4 : List En := [(.ifCond .eq 9, 13, 0, 0)]
def fX10_bestWorth_4 (v0 : Nat) (s0 : Int32) (h : aH) : Option (Int32 × aH) :=
  if s0 = 0 then fX10_bestWorth_13 v0 h else fX10_bestWorth_7 v0 h
theorem tX10_bestWorth_4 {d : Nat} {z : Int32 × aH} (v0 : Nat) (s0 : Int32) (h : aH) (hf : fX10_bestWorth_4 v0 s0 h = some z) : Ev (d + 4) none mX10_bestWorth (0, 0) 4 [.ref v0] [.int s0] h (QI z) := 
  go_ok (X := none) (blk := wX10_bestWorth_4) (np := 7) (tt := 13) (kN := fun xs h st => app [2] (fun v0 => apS [] (fX10_bestWorth_7 v0 h) st) xs) (kT := fun xs h st => app [2] (fun v0 => apS [] (fX10_bestWorth_13 v0 h) st) xs) (kR := kRI)
    (fun xs h st q => jm [2] _ (fun v0 q => apS_ok [] _ (fun st => Ev (d + 4) none mX10_bestWorth (0, 0) 7 [.ref v0] st h (QI z)) st (fun q => tX10_bestWorth_7 v0 h q) q) q)
    (fun xs h st q => jm [2] _ (fun v0 q => apS_ok [] _ (fun st => Ev (d + 4) none mX10_bestWorth (0, 0) 13 [.ref v0] st h (QI z)) st (fun q => tX10_bestWorth_13 v0 h q) q) q)
    kRI_ok (Or.inr rfl) (by decide +kernel) (by decide +kernel) hf
theorem kqX10_bestWorth_1 : okC mX10_bestWorth 1 (.invokevirtual 159) 68 52 0 0 = true := by decide +kernel
def fX10_bestWorth_1 (v0 : Nat) (s0 : Nat) (h : aH) : Option (Int32 × aH) :=
  (isO h 10 s0).bind fun _ =>
  (gX10_lacksTable s0 h).bind fun r =>
  fX10_bestWorth_4 v0 r.1 r.2
theorem tX10_bestWorth_1 {d : Nat} {z : Int32 × aH} (v0 : Nat) (s0 : Nat) (h : aH) (hf : fX10_bestWorth_1 v0 s0 h = some z) : Ev (d + 4) none mX10_bestWorth (0, 0) 1 [.ref v0] [.ref s0] h (QI z) := by
  obtain ⟨_, h1, hf⟩ := bnd hf
  obtain ⟨fs, ho⟩ := isO_ok h1
  obtain ⟨r, h2, hf⟩ := bnd hf
  refine ev_V kqX10_bestWorth_1 jX10_lacksTable (zX10_lacksTable (d := d + 3) h2) ho rfl rfl (Nat.le_of_ble_eq_true rfl) rfl (as := []) (rest := []) rfl (Nat.le_of_ble_eq_true rfl) (fun _ _ hq => ?_)
  obtain ⟨-, rfl, rfl⟩ := hq
  exact jm [2] (fun v0 => fX10_bestWorth_4 v0 r.1 r.2) (fun v0 q => tX10_bestWorth_4 v0 r.1 r.2 q) hf
def wX10_bestWorth_0 : List En := [(.aload_n 0, 0, 0, 0)]
def fX10_bestWorth_0 (v0 : Nat) (h : aH) : Option (Int32 × aH) :=
  fX10_bestWorth_1 v0 v0 h
theorem tX10_bestWorth_0 {d : Nat} {z : Int32 × aH} (v0 : Nat) (h : aH) (hf : fX10_bestWorth_0 v0 h = some z) : Ev (d + 4) none mX10_bestWorth (0, 0) 0 [.ref v0] [] h (QI z) := 
  go_ok (X := none) (blk := wX10_bestWorth_0) (np := 1) (tt := 0) (kN := fun xs h st => app [2] (fun v0 => apS [2] (fun s0 => fX10_bestWorth_1 v0 s0 h) st) xs) (kT := fun _ _ _ => none) (kR := kRI)
    (fun xs h st q => jm [2] _ (fun v0 q => apS_ok [2] _ (fun st => Ev (d + 4) none mX10_bestWorth (0, 0) 1 [.ref v0] st h (QI z)) st (fun s0 q => tX10_bestWorth_1 v0 s0 h q) q) q)
    (fun _ _ _ q => nos q)
    kRI_ok (Or.inr rfl) (by decide +kernel) (by decide +kernel) hf
def gX10_bestWorth (v0 : Nat) (h : aH) : Option (Int32 × aH) := fX10_bestWorth_0 v0 h
theorem zX10_bestWorth {d : Nat} {z : Int32 × aH} {v0 : Nat} {h : aH} (q : gX10_bestWorth v0 h = some z) : CT (d + 4) mX10_bestWorth (0, 0) [.ref v0] h (QI z) :=
  ct_ev (by decide +kernel) (Nat.le_of_ble_eq_true rfl) QI_r (jm [2] (fun v0 => fX10_bestWorth_0 v0 h) (fun v0 q => tX10_bestWorth_0 v0 h q) q)
def wX7_mostSeen_58 : List En := [(.iload_n 3, 0, 0, 0), (.ireturn, 0, 0, 0)]
def fX7_mostSeen_58 (v3 : Int32) (h : aH) : Option (Int32 × aH) :=
  some (v3, h)
theorem tX7_mostSeen_58 {d : Nat} {z : Int32 × aH} (v3 : Int32) (h : aH) (hf : fX7_mostSeen_58 v3 h = some z) : Ev (d + 1) none mX7_mostSeen (0, 0) 58 [.null, .null, .null, .int v3, .null, .null] [] h (QI z) := 
  go_ok (X := none) (blk := wX7_mostSeen_58) (np := 60) (tt := 0) (kN := fun _ _ _ => none) (kT := fun _ _ _ => none) (kR := kRI)
    (fun _ _ _ q => nos q)
    (fun _ _ _ q => nos q)
    kRI_ok (Or.inr rfl) (by decide +kernel) (by decide +kernel) hf
def wX7_mostSeen_52 : List En := [(.iinc 5 1, 0, 0, 0), (.goto (-46), 9, 0, 0)]
def fX7_mostSeen_52 (k9 : Nat → Nat → Int32 → Int32 → Int32 → Int32 → aH → Option (Int32 × aH)) (v0 : Nat) (v1 : Nat) (v2 : Int32) (v3 : Int32) (v4 : Int32) (v5 : Int32) (h : aH) : Option (Int32 × aH) :=
  k9 v0 v1 v2 v3 v4 (v5 + kI 1) h
theorem tX7_mostSeen_52 {d : Nat} {z : Int32 × aH} {k9 : Nat → Nat → Int32 → Int32 → Int32 → Int32 → aH → Option (Int32 × aH)} (hk9 : ∀ (v0 : Nat) (v1 : Nat) (v2 : Int32) (v3 : Int32) (v4 : Int32) (v5 : Int32) (h : aH), k9 v0 v1 v2 v3 v4 v5 h = some z → Ev (d + 1) none mX7_mostSeen (0, 0) 9 [.ref v0, .ref v1, .int v2, .int v3, .int v4, .int v5] [] h (QI z)) (v0 : Nat) (v1 : Nat) (v2 : Int32) (v3 : Int32) (v4 : Int32) (v5 : Int32) (h : aH) (hf : fX7_mostSeen_52 k9 v0 v1 v2 v3 v4 v5 h = some z) : Ev (d + 1) none mX7_mostSeen (0, 0) 52 [.ref v0, .ref v1, .int v2, .int v3, .int v4, .int v5] [] h (QI z) := 
  go_ok (X := none) (blk := wX7_mostSeen_52) (np := 58) (tt := 9) (kN := fun _ _ _ => none) (kT := fun xs h st => app [2, 2, 1, 1, 1, 1] (fun v0 v1 v2 v3 v4 v5 => apS [] (k9 v0 v1 v2 v3 v4 v5 h) st) xs) (kR := kRI)
    (fun _ _ _ q => nos q)
    (fun xs h st q => jm [2, 2, 1, 1, 1, 1] _ (fun v0 v1 v2 v3 v4 v5 q => apS_ok [] _ (fun st => Ev (d + 1) none mX7_mostSeen (0, 0) 9 [.ref v0, .ref v1, .int v2, .int v3, .int v4, .int v5] st h (QI z)) st (fun q => hk9 v0 v1 v2 v3 v4 v5 h q) q) q)
    kRI_ok (Or.inr rfl) (by decide +kernel) (by decide +kernel) hf
def wX7_mostSeen_50 : List En := [(.istore 4, 0, 0, 0)]
def fX7_mostSeen_50 (k9 : Nat → Nat → Int32 → Int32 → Int32 → Int32 → aH → Option (Int32 × aH)) (v0 : Nat) (v1 : Nat) (v2 : Int32) (v3 : Int32) (v5 : Int32) (s0 : Int32) (h : aH) : Option (Int32 × aH) :=
  fX7_mostSeen_52 k9 v0 v1 v2 v3 s0 v5 h
theorem tX7_mostSeen_50 {d : Nat} {z : Int32 × aH} {k9 : Nat → Nat → Int32 → Int32 → Int32 → Int32 → aH → Option (Int32 × aH)} (hk9 : ∀ (v0 : Nat) (v1 : Nat) (v2 : Int32) (v3 : Int32) (v4 : Int32) (v5 : Int32) (h : aH), k9 v0 v1 v2 v3 v4 v5 h = some z → Ev (d + 1) none mX7_mostSeen (0, 0) 9 [.ref v0, .ref v1, .int v2, .int v3, .int v4, .int v5] [] h (QI z)) (v0 : Nat) (v1 : Nat) (v2 : Int32) (v3 : Int32) (v5 : Int32) (s0 : Int32) (h : aH) (hf : fX7_mostSeen_50 k9 v0 v1 v2 v3 v5 s0 h = some z) : Ev (d + 1) none mX7_mostSeen (0, 0) 50 [.ref v0, .ref v1, .int v2, .int v3, .null, .int v5] [.int s0] h (QI z) := 
  go_ok (X := none) (blk := wX7_mostSeen_50) (np := 52) (tt := 0) (kN := fun xs h st => app [2, 2, 1, 1, 1, 1] (fun v0 v1 v2 v3 v4 v5 => apS [] (fX7_mostSeen_52 k9 v0 v1 v2 v3 v4 v5 h) st) xs) (kT := fun _ _ _ => none) (kR := kRI)
    (fun xs h st q => jm [2, 2, 1, 1, 1, 1] _ (fun v0 v1 v2 v3 v4 v5 q => apS_ok [] _ (fun st => Ev (d + 1) none mX7_mostSeen (0, 0) 52 [.ref v0, .ref v1, .int v2, .int v3, .int v4, .int v5] st h (QI z)) st (fun q => tX7_mostSeen_52 hk9 v0 v1 v2 v3 v4 v5 h q) q) q)
    (fun _ _ _ q => nos q)
    kRI_ok (Or.inr rfl) (by decide +kernel) (by decide +kernel) hf
theorem kqX7_mostSeen_47 : okC mX7_mostSeen 47 (.invokevirtual 86) 71 61 0 2 = true := by decide +kernel
def fX7_mostSeen_47 (k9 : Nat → Nat → Int32 → Int32 → Int32 → Int32 → aH → Option (Int32 × aH)) (v0 : Nat) (v1 : Nat) (v2 : Int32) (v3 : Int32) (v5 : Int32) (s0 : Int32) (s1 : Nat) (s2 : Nat) (h : aH) : Option (Int32 × aH) :=
  (isO h 7 s2).bind fun _ =>
  (gX7_seenHunger s2 s1 s0 h).bind fun r =>
  fX7_mostSeen_50 k9 v0 v1 v2 v3 v5 r.1 r.2
theorem tX7_mostSeen_47 {d : Nat} {z : Int32 × aH} {k9 : Nat → Nat → Int32 → Int32 → Int32 → Int32 → aH → Option (Int32 × aH)} (hk9 : ∀ (v0 : Nat) (v1 : Nat) (v2 : Int32) (v3 : Int32) (v4 : Int32) (v5 : Int32) (h : aH), k9 v0 v1 v2 v3 v4 v5 h = some z → Ev (d + 1) none mX7_mostSeen (0, 0) 9 [.ref v0, .ref v1, .int v2, .int v3, .int v4, .int v5] [] h (QI z)) (v0 : Nat) (v1 : Nat) (v2 : Int32) (v3 : Int32) (v5 : Int32) (s0 : Int32) (s1 : Nat) (s2 : Nat) (h : aH) (hf : fX7_mostSeen_47 k9 v0 v1 v2 v3 v5 s0 s1 s2 h = some z) : Ev (d + 1) none mX7_mostSeen (0, 0) 47 [.ref v0, .ref v1, .int v2, .int v3, .null, .int v5] [.int s0, .ref s1, .ref s2] h (QI z) := by
  obtain ⟨_, h1, hf⟩ := bnd hf
  obtain ⟨fs, ho⟩ := isO_ok h1
  obtain ⟨r, h2, hf⟩ := bnd hf
  refine ev_V kqX7_mostSeen_47 jX7_seenHunger (zX7_seenHunger (d := d + 0) h2) ho rfl rfl (Nat.le_of_ble_eq_true rfl) rfl (as := [.ref s1, .int s0]) (rest := []) rfl (Nat.le_of_ble_eq_true rfl) (fun _ _ hq => ?_)
  obtain ⟨rfl, rfl⟩ := hq
  exact jm [2, 2, 1, 1, 0, 1] (fun v0 v1 v2 v3 v5 => fX7_mostSeen_50 k9 v0 v1 v2 v3 v5 r.1 r.2) (fun v0 v1 v2 v3 v5 q => tX7_mostSeen_50 hk9 v0 v1 v2 v3 v5 r.1 r.2 q) hf
def wX7_mostSeen_40 : List En := [(.iload 5, 0, 0, 0), (.istore_n 3, 0, 0, 0), (.aload_n 0, 0, 0, 0), (.aload_n 1, 0, 0, 0), (.iload 5, 0, 0, 0)]
def fX7_mostSeen_40 (k9 : Nat → Nat → Int32 → Int32 → Int32 → Int32 → aH → Option (Int32 × aH)) (v0 : Nat) (v1 : Nat) (v2 : Int32) (v5 : Int32) (h : aH) : Option (Int32 × aH) :=
  fX7_mostSeen_47 k9 v0 v1 v2 v5 v5 v5 v1 v0 h
theorem tX7_mostSeen_40 {d : Nat} {z : Int32 × aH} {k9 : Nat → Nat → Int32 → Int32 → Int32 → Int32 → aH → Option (Int32 × aH)} (hk9 : ∀ (v0 : Nat) (v1 : Nat) (v2 : Int32) (v3 : Int32) (v4 : Int32) (v5 : Int32) (h : aH), k9 v0 v1 v2 v3 v4 v5 h = some z → Ev (d + 1) none mX7_mostSeen (0, 0) 9 [.ref v0, .ref v1, .int v2, .int v3, .int v4, .int v5] [] h (QI z)) (v0 : Nat) (v1 : Nat) (v2 : Int32) (v5 : Int32) (h : aH) (hf : fX7_mostSeen_40 k9 v0 v1 v2 v5 h = some z) : Ev (d + 1) none mX7_mostSeen (0, 0) 40 [.ref v0, .ref v1, .int v2, .null, .null, .int v5] [] h (QI z) := 
  go_ok (X := none) (blk := wX7_mostSeen_40) (np := 47) (tt := 0) (kN := fun xs h st => app [2, 2, 1, 1, 0, 1] (fun v0 v1 v2 v3 v5 => apS [1, 2, 2] (fun s0 s1 s2 => fX7_mostSeen_47 k9 v0 v1 v2 v3 v5 s0 s1 s2 h) st) xs) (kT := fun _ _ _ => none) (kR := kRI)
    (fun xs h st q => jm [2, 2, 1, 1, 0, 1] _ (fun v0 v1 v2 v3 v5 q => apS_ok [1, 2, 2] _ (fun st => Ev (d + 1) none mX7_mostSeen (0, 0) 47 [.ref v0, .ref v1, .int v2, .int v3, .null, .int v5] st h (QI z)) st (fun s0 s1 s2 q => tX7_mostSeen_47 hk9 v0 v1 v2 v3 v5 s0 s1 s2 h q) q) q)
    (fun _ _ _ q => nos q)
    kRI_ok (Or.inr rfl) (by decide +kernel) (by decide +kernel) hf
def wX7_mostSeen_35 : List En := [(.iload 4, 0, 0, 0), (.if_icmp .le 15, 52, 0, 0)]
def fX7_mostSeen_35 (k9 : Nat → Nat → Int32 → Int32 → Int32 → Int32 → aH → Option (Int32 × aH)) (v0 : Nat) (v1 : Nat) (v2 : Int32) (v3 : Int32) (v4 : Int32) (v5 : Int32) (s0 : Int32) (h : aH) : Option (Int32 × aH) :=
  if v4 < s0 then fX7_mostSeen_40 k9 v0 v1 v2 v5 h else fX7_mostSeen_52 k9 v0 v1 v2 v3 v4 v5 h
theorem tX7_mostSeen_35 {d : Nat} {z : Int32 × aH} {k9 : Nat → Nat → Int32 → Int32 → Int32 → Int32 → aH → Option (Int32 × aH)} (hk9 : ∀ (v0 : Nat) (v1 : Nat) (v2 : Int32) (v3 : Int32) (v4 : Int32) (v5 : Int32) (h : aH), k9 v0 v1 v2 v3 v4 v5 h = some z → Ev (d + 1) none mX7_mostSeen (0, 0) 9 [.ref v0, .ref v1, .int v2, .int v3, .int v4, .int v5] [] h (QI z)) (v0 : Nat) (v1 : Nat) (v2 : Int32) (v3 : Int32) (v4 : Int32) (v5 : Int32) (s0 : Int32) (h : aH) (hf : fX7_mostSeen_35 k9 v0 v1 v2 v3 v4 v5 s0 h = some z) : Ev (d + 1) none mX7_mostSeen (0, 0) 35 [.ref v0, .ref v1, .int v2, .int v3, .int v4, .int v5] [.int s0] h (QI z) := 
  go_ok (X := none) (blk := wX7_mostSeen_35) (np := 40) (tt := 52) (kN := fun xs h st => app [2, 2, 1, 0, 0, 1] (fun v0 v1 v2 v5 => apS [] (fX7_mostSeen_40 k9 v0 v1 v2 v5 h) st) xs) (kT := fun xs h st => app [2, 2, 1, 1, 1, 1] (fun v0 v1 v2 v3 v4 v5 => apS [] (fX7_mostSeen_52 k9 v0 v1 v2 v3 v4 v5 h) st) xs) (kR := kRI)
    (fun xs h st q => jm [2, 2, 1, 0, 0, 1] _ (fun v0 v1 v2 v5 q => apS_ok [] _ (fun st => Ev (d + 1) none mX7_mostSeen (0, 0) 40 [.ref v0, .ref v1, .int v2, .null, .null, .int v5] st h (QI z)) st (fun q => tX7_mostSeen_40 hk9 v0 v1 v2 v5 h q) q) q)
    (fun xs h st q => jm [2, 2, 1, 1, 1, 1] _ (fun v0 v1 v2 v3 v4 v5 q => apS_ok [] _ (fun st => Ev (d + 1) none mX7_mostSeen (0, 0) 52 [.ref v0, .ref v1, .int v2, .int v3, .int v4, .int v5] st h (QI z)) st (fun q => tX7_mostSeen_52 hk9 v0 v1 v2 v3 v4 v5 h q) q) q)
    kRI_ok (Or.inr rfl) (by decide +kernel) (by decide +kernel) hf
theorem kqX7_mostSeen_32 : okC mX7_mostSeen 32 (.invokevirtual 86) 71 61 0 2 = true := by decide +kernel
def fX7_mostSeen_32 (k9 : Nat → Nat → Int32 → Int32 → Int32 → Int32 → aH → Option (Int32 × aH)) (v0 : Nat) (v1 : Nat) (v2 : Int32) (v3 : Int32) (v4 : Int32) (v5 : Int32) (s0 : Int32) (s1 : Nat) (s2 : Nat) (h : aH) : Option (Int32 × aH) :=
  (isO h 7 s2).bind fun _ =>
  (gX7_seenHunger s2 s1 s0 h).bind fun r =>
  fX7_mostSeen_35 k9 v0 v1 v2 v3 v4 v5 r.1 r.2
theorem tX7_mostSeen_32 {d : Nat} {z : Int32 × aH} {k9 : Nat → Nat → Int32 → Int32 → Int32 → Int32 → aH → Option (Int32 × aH)} (hk9 : ∀ (v0 : Nat) (v1 : Nat) (v2 : Int32) (v3 : Int32) (v4 : Int32) (v5 : Int32) (h : aH), k9 v0 v1 v2 v3 v4 v5 h = some z → Ev (d + 1) none mX7_mostSeen (0, 0) 9 [.ref v0, .ref v1, .int v2, .int v3, .int v4, .int v5] [] h (QI z)) (v0 : Nat) (v1 : Nat) (v2 : Int32) (v3 : Int32) (v4 : Int32) (v5 : Int32) (s0 : Int32) (s1 : Nat) (s2 : Nat) (h : aH) (hf : fX7_mostSeen_32 k9 v0 v1 v2 v3 v4 v5 s0 s1 s2 h = some z) : Ev (d + 1) none mX7_mostSeen (0, 0) 32 [.ref v0, .ref v1, .int v2, .int v3, .int v4, .int v5] [.int s0, .ref s1, .ref s2] h (QI z) := by
  obtain ⟨_, h1, hf⟩ := bnd hf
  obtain ⟨fs, ho⟩ := isO_ok h1
  obtain ⟨r, h2, hf⟩ := bnd hf
  refine ev_V kqX7_mostSeen_32 jX7_seenHunger (zX7_seenHunger (d := d + 0) h2) ho rfl rfl (Nat.le_of_ble_eq_true rfl) rfl (as := [.ref s1, .int s0]) (rest := []) rfl (Nat.le_of_ble_eq_true rfl) (fun _ _ hq => ?_)
  obtain ⟨rfl, rfl⟩ := hq
  exact jm [2, 2, 1, 1, 1, 1] (fun v0 v1 v2 v3 v4 v5 => fX7_mostSeen_35 k9 v0 v1 v2 v3 v4 v5 r.1 r.2) (fun v0 v1 v2 v3 v4 v5 q => tX7_mostSeen_35 hk9 v0 v1 v2 v3 v4 v5 r.1 r.2 q) hf
def wX7_mostSeen_28 : List En := [(.aload_n 0, 0, 0, 0), (.aload_n 1, 0, 0, 0), (.iload 5, 0, 0, 0)]
def fX7_mostSeen_28 (k9 : Nat → Nat → Int32 → Int32 → Int32 → Int32 → aH → Option (Int32 × aH)) (v0 : Nat) (v1 : Nat) (v2 : Int32) (v3 : Int32) (v4 : Int32) (v5 : Int32) (h : aH) : Option (Int32 × aH) :=
  fX7_mostSeen_32 k9 v0 v1 v2 v3 v4 v5 v5 v1 v0 h
theorem tX7_mostSeen_28 {d : Nat} {z : Int32 × aH} {k9 : Nat → Nat → Int32 → Int32 → Int32 → Int32 → aH → Option (Int32 × aH)} (hk9 : ∀ (v0 : Nat) (v1 : Nat) (v2 : Int32) (v3 : Int32) (v4 : Int32) (v5 : Int32) (h : aH), k9 v0 v1 v2 v3 v4 v5 h = some z → Ev (d + 1) none mX7_mostSeen (0, 0) 9 [.ref v0, .ref v1, .int v2, .int v3, .int v4, .int v5] [] h (QI z)) (v0 : Nat) (v1 : Nat) (v2 : Int32) (v3 : Int32) (v4 : Int32) (v5 : Int32) (h : aH) (hf : fX7_mostSeen_28 k9 v0 v1 v2 v3 v4 v5 h = some z) : Ev (d + 1) none mX7_mostSeen (0, 0) 28 [.ref v0, .ref v1, .int v2, .int v3, .int v4, .int v5] [] h (QI z) := 
  go_ok (X := none) (blk := wX7_mostSeen_28) (np := 32) (tt := 0) (kN := fun xs h st => app [2, 2, 1, 1, 1, 1] (fun v0 v1 v2 v3 v4 v5 => apS [1, 2, 2] (fun s0 s1 s2 => fX7_mostSeen_32 k9 v0 v1 v2 v3 v4 v5 s0 s1 s2 h) st) xs) (kT := fun _ _ _ => none) (kR := kRI)
    (fun xs h st q => jm [2, 2, 1, 1, 1, 1] _ (fun v0 v1 v2 v3 v4 v5 q => apS_ok [1, 2, 2] _ (fun st => Ev (d + 1) none mX7_mostSeen (0, 0) 32 [.ref v0, .ref v1, .int v2, .int v3, .int v4, .int v5] st h (QI z)) st (fun s0 s1 s2 q => tX7_mostSeen_32 hk9 v0 v1 v2 v3 v4 v5 s0 s1 s2 h q) q) q)
    (fun _ _ _ q => nos q)
    kRI_ok (Or.inr rfl) (by decide +kernel) (by decide +kernel) hf
def wX7_mostSeen_18 : List En := [(.iload_n 2, 0, 0, 0), (.iload 5, 0, 0, 0), (.ishr, 0, 0, 0), (.iconst 1, 0, 0, 0), (.iand, 0, 0, 0), (.iconst 1, 0, 0, 0), (.if_icmp .ne 27, 52, 0, 0)]
def fX7_mostSeen_18 (k9 : Nat → Nat → Int32 → Int32 → Int32 → Int32 → aH → Option (Int32 × aH)) (v0 : Nat) (v1 : Nat) (v2 : Int32) (v3 : Int32) (v4 : Int32) (v5 : Int32) (h : aH) : Option (Int32 × aH) :=
  if ((v2 >>> (v5 &&& 31)) &&& (kI 1)) = (kI 1) then fX7_mostSeen_28 k9 v0 v1 v2 v3 v4 v5 h else fX7_mostSeen_52 k9 v0 v1 v2 v3 v4 v5 h
theorem tX7_mostSeen_18 {d : Nat} {z : Int32 × aH} {k9 : Nat → Nat → Int32 → Int32 → Int32 → Int32 → aH → Option (Int32 × aH)} (hk9 : ∀ (v0 : Nat) (v1 : Nat) (v2 : Int32) (v3 : Int32) (v4 : Int32) (v5 : Int32) (h : aH), k9 v0 v1 v2 v3 v4 v5 h = some z → Ev (d + 1) none mX7_mostSeen (0, 0) 9 [.ref v0, .ref v1, .int v2, .int v3, .int v4, .int v5] [] h (QI z)) (v0 : Nat) (v1 : Nat) (v2 : Int32) (v3 : Int32) (v4 : Int32) (v5 : Int32) (h : aH) (hf : fX7_mostSeen_18 k9 v0 v1 v2 v3 v4 v5 h = some z) : Ev (d + 1) none mX7_mostSeen (0, 0) 18 [.ref v0, .ref v1, .int v2, .int v3, .int v4, .int v5] [] h (QI z) := 
  go_ok (X := none) (blk := wX7_mostSeen_18) (np := 28) (tt := 52) (kN := fun xs h st => app [2, 2, 1, 1, 1, 1] (fun v0 v1 v2 v3 v4 v5 => apS [] (fX7_mostSeen_28 k9 v0 v1 v2 v3 v4 v5 h) st) xs) (kT := fun xs h st => app [2, 2, 1, 1, 1, 1] (fun v0 v1 v2 v3 v4 v5 => apS [] (fX7_mostSeen_52 k9 v0 v1 v2 v3 v4 v5 h) st) xs) (kR := kRI)
    (fun xs h st q => jm [2, 2, 1, 1, 1, 1] _ (fun v0 v1 v2 v3 v4 v5 q => apS_ok [] _ (fun st => Ev (d + 1) none mX7_mostSeen (0, 0) 28 [.ref v0, .ref v1, .int v2, .int v3, .int v4, .int v5] st h (QI z)) st (fun q => tX7_mostSeen_28 hk9 v0 v1 v2 v3 v4 v5 h q) q) q)
    (fun xs h st q => jm [2, 2, 1, 1, 1, 1] _ (fun v0 v1 v2 v3 v4 v5 q => apS_ok [] _ (fun st => Ev (d + 1) none mX7_mostSeen (0, 0) 52 [.ref v0, .ref v1, .int v2, .int v3, .int v4, .int v5] st h (QI z)) st (fun q => tX7_mostSeen_52 hk9 v0 v1 v2 v3 v4 v5 h q) q) q)
    kRI_ok (Or.inr rfl) (by decide +kernel) (by decide +kernel) hf
def wX7_mostSeen_9 : List En := [(.iload 5, 0, 0, 0), (.aload_n 1, 0, 0, 0), (.getfield 59, 112, 9, 3), (.if_icmp .ge 43, 58, 0, 0)]
def fX7_mostSeen_9 (k9 : Nat → Nat → Int32 → Int32 → Int32 → Int32 → aH → Option (Int32 × aH)) (v0 : Nat) (v1 : Nat) (v2 : Int32) (v3 : Int32) (v4 : Int32) (v5 : Int32) (h : aH) : Option (Int32 × aH) :=
  (gFI h 9 v1 3).bind fun t1 =>
  if v5 < t1 then fX7_mostSeen_18 k9 v0 v1 v2 v3 v4 v5 h else fX7_mostSeen_58 v3 h
theorem tX7_mostSeen_9 {d : Nat} {z : Int32 × aH} {k9 : Nat → Nat → Int32 → Int32 → Int32 → Int32 → aH → Option (Int32 × aH)} (hk9 : ∀ (v0 : Nat) (v1 : Nat) (v2 : Int32) (v3 : Int32) (v4 : Int32) (v5 : Int32) (h : aH), k9 v0 v1 v2 v3 v4 v5 h = some z → Ev (d + 1) none mX7_mostSeen (0, 0) 9 [.ref v0, .ref v1, .int v2, .int v3, .int v4, .int v5] [] h (QI z)) (v0 : Nat) (v1 : Nat) (v2 : Int32) (v3 : Int32) (v4 : Int32) (v5 : Int32) (h : aH) (hf : fX7_mostSeen_9 k9 v0 v1 v2 v3 v4 v5 h = some z) : Ev (d + 1) none mX7_mostSeen (0, 0) 9 [.ref v0, .ref v1, .int v2, .int v3, .int v4, .int v5] [] h (QI z) := 
  go_ok (X := none) (blk := wX7_mostSeen_9) (np := 18) (tt := 58) (kN := fun xs h st => app [2, 2, 1, 1, 1, 1] (fun v0 v1 v2 v3 v4 v5 => apS [] (fX7_mostSeen_18 k9 v0 v1 v2 v3 v4 v5 h) st) xs) (kT := fun xs h st => app [0, 0, 0, 1, 0, 0] (fun v3 => apS [] (fX7_mostSeen_58 v3 h) st) xs) (kR := kRI)
    (fun xs h st q => jm [2, 2, 1, 1, 1, 1] _ (fun v0 v1 v2 v3 v4 v5 q => apS_ok [] _ (fun st => Ev (d + 1) none mX7_mostSeen (0, 0) 18 [.ref v0, .ref v1, .int v2, .int v3, .int v4, .int v5] st h (QI z)) st (fun q => tX7_mostSeen_18 hk9 v0 v1 v2 v3 v4 v5 h q) q) q)
    (fun xs h st q => jm [0, 0, 0, 1, 0, 0] _ (fun v3 q => apS_ok [] _ (fun st => Ev (d + 1) none mX7_mostSeen (0, 0) 58 [.null, .null, .null, .int v3, .null, .null] st h (QI z)) st (fun q => tX7_mostSeen_58 v3 h q) q) q)
    kRI_ok (Or.inr rfl) (by decide +kernel) (by decide +kernel) hf
def lX7_mostSeen_9 : Nat → Nat → Nat → Int32 → Int32 → Int32 → Int32 → aH → Option (Int32 × aH)
  | 0, _, _, _, _, _, _, _ => none
  | n + 1, v0, v1, v2, v3, v4, v5, h => fX7_mostSeen_9 (lX7_mostSeen_9 n) v0 v1 v2 v3 v4 v5 h
theorem uX7_mostSeen_9 {d : Nat} {z : Int32 × aH} : ∀ (n : Nat) (v0 : Nat) (v1 : Nat) (v2 : Int32) (v3 : Int32) (v4 : Int32) (v5 : Int32) (h : aH), lX7_mostSeen_9 n v0 v1 v2 v3 v4 v5 h = some z → Ev (d + 1) none mX7_mostSeen (0, 0) 9 [.ref v0, .ref v1, .int v2, .int v3, .int v4, .int v5] [] h (QI z) := by
  intro n
  induction n with
  | zero => intro _ _ _ _ _ _ _ q; exact nos (show (none : Option (Int32 × aH)) = some z from q)
  | succ n ih => intro v0 v1 v2 v3 v4 v5 h q; exact tX7_mostSeen_9 ih v0 v1 v2 v3 v4 v5 h q
def wX7_mostSeen_0 : List En := [(.bipush (-2), 0, 0, 0), (.istore_n 3, 0, 0, 0), (.iconst (-1), 0, 0, 0), (.istore 4, 0, 0, 0), (.iconst 0, 0, 0, 0), (.istore 5, 0, 0, 0)]
def fX7_mostSeen_0 (v0 : Nat) (v1 : Nat) (v2 : Int32) (h : aH) : Option (Int32 × aH) :=
  lX7_mostSeen_9 FU v0 v1 v2 (kB (-2)) (kI (-1)) (kI 0) h
theorem tX7_mostSeen_0 {d : Nat} {z : Int32 × aH} (v0 : Nat) (v1 : Nat) (v2 : Int32) (h : aH) (hf : fX7_mostSeen_0 v0 v1 v2 h = some z) : Ev (d + 1) none mX7_mostSeen (0, 0) 0 [.ref v0, .ref v1, .int v2, .null, .null, .null] [] h (QI z) := 
  go_ok (X := none) (blk := wX7_mostSeen_0) (np := 9) (tt := 0) (kN := fun xs h st => app [2, 2, 1, 1, 1, 1] (fun v0 v1 v2 v3 v4 v5 => apS [] (lX7_mostSeen_9 FU v0 v1 v2 v3 v4 v5 h) st) xs) (kT := fun _ _ _ => none) (kR := kRI)
    (fun xs h st q => jm [2, 2, 1, 1, 1, 1] _ (fun v0 v1 v2 v3 v4 v5 q => apS_ok [] _ (fun st => Ev (d + 1) none mX7_mostSeen (0, 0) 9 [.ref v0, .ref v1, .int v2, .int v3, .int v4, .int v5] st h (QI z)) st (fun q => uX7_mostSeen_9 FU v0 v1 v2 v3 v4 v5 h q) q) q)
    (fun _ _ _ q => nos q)
    kRI_ok (Or.inr rfl) (by decide +kernel) (by decide +kernel) hf
def gX7_mostSeen (v0 : Nat) (v1 : Nat) (v2 : Int32) (h : aH) : Option (Int32 × aH) := fX7_mostSeen_0 v0 v1 v2 h
theorem zX7_mostSeen {d : Nat} {z : Int32 × aH} {v0 : Nat} {v1 : Nat} {v2 : Int32} {h : aH} (q : gX7_mostSeen v0 v1 v2 h = some z) : CT (d + 1) mX7_mostSeen (0, 0) [.ref v0, .ref v1, .int v2] h (QI z) :=
  ct_ev (by decide +kernel) (Nat.le_of_ble_eq_true rfl) QI_r (jm [2, 2, 1, 0, 0, 0] (fun v0 v1 v2 => fX7_mostSeen_0 v0 v1 v2 h) (fun v0 v1 v2 q => tX7_mostSeen_0 v0 v1 v2 h q) q)
def wX10_worthNamedBy_47 : List En := [(.ireturn, 0, 0, 0)]
def fX10_worthNamedBy_47 (s0 : Int32) (h : aH) : Option (Int32 × aH) :=
  some (s0, h)
theorem tX10_worthNamedBy_47 {d : Nat} {z : Int32 × aH} (s0 : Int32) (h : aH) (hf : fX10_worthNamedBy_47 s0 h = some z) : Ev (d + 2) none mX10_worthNamedBy (0, 0) 47 [.null, .null, .null] [.int s0] h (QI z) := 
  go_ok (X := none) (blk := wX10_worthNamedBy_47) (np := 48) (tt := 0) (kN := fun _ _ _ => none) (kT := fun _ _ _ => none) (kR := kRI)
    (fun _ _ _ q => nos q)
    (fun _ _ _ q => nos q)
    kRI_ok (Or.inr rfl) (by decide +kernel) (by decide +kernel) hf
theorem kqX10_worthNamedBy_44 : okC mX10_worthNamedBy 44 (.invokevirtual 388) 89 136 0 1 = true := by decide +kernel
def fX10_worthNamedBy_44 (s0 : Int32) (s1 : Nat) (h : aH) : Option (Int32 × aH) :=
  (isO h 7 s1).bind fun _ =>
  (gX7_worthOf s1 s0 h).bind fun r =>
  fX10_worthNamedBy_47 r.1 r.2
theorem tX10_worthNamedBy_44 {d : Nat} {z : Int32 × aH} (s0 : Int32) (s1 : Nat) (h : aH) (hf : fX10_worthNamedBy_44 s0 s1 h = some z) : Ev (d + 2) none mX10_worthNamedBy (0, 0) 44 [.null, .null, .null] [.int s0, .ref s1] h (QI z) := by
  obtain ⟨_, h1, hf⟩ := bnd hf
  obtain ⟨fs, ho⟩ := isO_ok h1
  obtain ⟨r, h2, hf⟩ := bnd hf
  refine ev_V kqX10_worthNamedBy_44 jX7_worthOf (zX7_worthOf (d := d + 1) h2) ho rfl rfl (Nat.le_of_ble_eq_true rfl) rfl (as := [.int s0]) (rest := []) rfl (Nat.le_of_ble_eq_true rfl) (fun _ _ hq => ?_)
  obtain ⟨rfl, rfl⟩ := hq
  exact jm [0, 0, 0] (fX10_worthNamedBy_47 r.1 r.2) (fun q => tX10_worthNamedBy_47 r.1 r.2 q) hf
theorem kqX10_worthNamedBy_41 : okC mX10_worthNamedBy 41 (.invokevirtual 173) 73 57 0 1 = true := by decide +kernel
def fX10_worthNamedBy_41 (s0 : Int32) (s1 : Nat) (s2 : Nat) (h : aH) : Option (Int32 × aH) :=
  (isO h 9 s1).bind fun _ =>
  (gX9_nameSeen s1 s0 h).bind fun r =>
  fX10_worthNamedBy_44 r.1 s2 r.2
theorem tX10_worthNamedBy_41 {d : Nat} {z : Int32 × aH} (s0 : Int32) (s1 : Nat) (s2 : Nat) (h : aH) (hf : fX10_worthNamedBy_41 s0 s1 s2 h = some z) : Ev (d + 2) none mX10_worthNamedBy (0, 0) 41 [.null, .null, .null] [.int s0, .ref s1, .ref s2] h (QI z) := by
  obtain ⟨_, h1, hf⟩ := bnd hf
  obtain ⟨fs, ho⟩ := isO_ok h1
  obtain ⟨r, h2, hf⟩ := bnd hf
  refine ev_V kqX10_worthNamedBy_41 jX9_nameSeen (zX9_nameSeen (d := d + 1) h2) ho rfl rfl (Nat.le_of_ble_eq_true rfl) rfl (as := [.int s0]) (rest := [.ref s2]) rfl (Nat.le_of_ble_eq_true rfl) (fun _ _ hq => ?_)
  obtain ⟨rfl, rfl⟩ := hq
  exact jm [0, 0, 0] (fX10_worthNamedBy_44 r.1 s2 r.2) (fun q => tX10_worthNamedBy_44 r.1 s2 r.2 q) hf
theorem kqX10_worthNamedBy_38 : okC mX10_worthNamedBy 38 (.invokevirtual 169) 71 55 0 2 = true := by decide +kernel
def fX10_worthNamedBy_38 (s0 : Int32) (s1 : Nat) (s2 : Nat) (s3 : Nat) (s4 : Nat) (h : aH) : Option (Int32 × aH) :=
  (isO h 7 s2).bind fun _ =>
  (gX7_seenHunger s2 s1 s0 h).bind fun r =>
  fX10_worthNamedBy_41 r.1 s3 s4 r.2
theorem tX10_worthNamedBy_38 {d : Nat} {z : Int32 × aH} (s0 : Int32) (s1 : Nat) (s2 : Nat) (s3 : Nat) (s4 : Nat) (h : aH) (hf : fX10_worthNamedBy_38 s0 s1 s2 s3 s4 h = some z) : Ev (d + 2) none mX10_worthNamedBy (0, 0) 38 [.null, .null, .null] [.int s0, .ref s1, .ref s2, .ref s3, .ref s4] h (QI z) := by
  obtain ⟨_, h1, hf⟩ := bnd hf
  obtain ⟨fs, ho⟩ := isO_ok h1
  obtain ⟨r, h2, hf⟩ := bnd hf
  refine ev_V kqX10_worthNamedBy_38 jX7_seenHunger (zX7_seenHunger (d := d + 1) h2) ho rfl rfl (Nat.le_of_ble_eq_true rfl) rfl (as := [.ref s1, .int s0]) (rest := [.ref s3, .ref s4]) rfl (Nat.le_of_ble_eq_true rfl) (fun _ _ hq => ?_)
  obtain ⟨rfl, rfl⟩ := hq
  exact jm [0, 0, 0] (fX10_worthNamedBy_41 r.1 s3 s4 r.2) (fun q => tX10_worthNamedBy_41 r.1 s3 s4 r.2 q) hf
def wX10_worthNamedBy_21 : List En := [(.aload_n 0, 0, 0, 0), (.getfield 68, 170, 10, 8), (.aload_n 0, 0, 0, 0), (.getfield 75, 171, 10, 9), (.aload_n 0, 0, 0, 0), (.getfield 68, 170, 10, 8), (.aload_n 0, 0, 0, 0), (.getfield 75, 171, 10, 9), (.iload_n 2, 0, 0, 0)]
def fX10_worthNamedBy_21 (v0 : Nat) (v2 : Int32) (h : aH) : Option (Int32 × aH) :=
  (gFR h 10 v0 8).bind fun t1 =>
  (gFR h 10 v0 9).bind fun t2 =>
  (gFR h 10 v0 8).bind fun t3 =>
  (gFR h 10 v0 9).bind fun t4 =>
  fX10_worthNamedBy_38 v2 t4 t3 t2 t1 h
theorem tX10_worthNamedBy_21 {d : Nat} {z : Int32 × aH} (v0 : Nat) (v2 : Int32) (h : aH) (hf : fX10_worthNamedBy_21 v0 v2 h = some z) : Ev (d + 2) none mX10_worthNamedBy (0, 0) 21 [.ref v0, .null, .int v2] [] h (QI z) := 
  go_ok (X := none) (blk := wX10_worthNamedBy_21) (np := 38) (tt := 0) (kN := fun xs h st => app [0, 0, 0] (apS [1, 2, 2, 2, 2] (fun s0 s1 s2 s3 s4 => fX10_worthNamedBy_38 s0 s1 s2 s3 s4 h) st) xs) (kT := fun _ _ _ => none) (kR := kRI)
    (fun xs h st q => jm [0, 0, 0] _ (fun q => apS_ok [1, 2, 2, 2, 2] _ (fun st => Ev (d + 2) none mX10_worthNamedBy (0, 0) 38 [.null, .null, .null] st h (QI z)) st (fun s0 s1 s2 s3 s4 q => tX10_worthNamedBy_38 s0 s1 s2 s3 s4 h q) q) q)
    (fun _ _ _ q => nos q)
    kRI_ok (Or.inr rfl) (by decide +kernel) (by decide +kernel) hf
def wX10_worthNamedBy_17 : List En := [(.iconst 0, 0, 0, 0), (.goto 29, 47, 0, 0)]
def fX10_worthNamedBy_17 (h : aH) : Option (Int32 × aH) :=
  fX10_worthNamedBy_47 (kI 0) h
theorem tX10_worthNamedBy_17 {d : Nat} {z : Int32 × aH} (h : aH) (hf : fX10_worthNamedBy_17 h = some z) : Ev (d + 2) none mX10_worthNamedBy (0, 0) 17 [.null, .null, .null] [] h (QI z) := 
  go_ok (X := none) (blk := wX10_worthNamedBy_17) (np := 21) (tt := 47) (kN := fun _ _ _ => none) (kT := fun xs h st => app [0, 0, 0] (apS [1] (fun s0 => fX10_worthNamedBy_47 s0 h) st) xs) (kR := kRI)
    (fun _ _ _ q => nos q)
    (fun xs h st q => jm [0, 0, 0] _ (fun q => apS_ok [1] _ (fun st => Ev (d + 2) none mX10_worthNamedBy (0, 0) 47 [.null, .null, .null] st h (QI z)) st (fun s0 q => tX10_worthNamedBy_47 s0 h q) q) q)
    kRI_ok (Or.inr rfl) (by decide +kernel) (by decide +kernel) hf
def wX10_worthNamedBy_12 : List En := [(.istore_n 2, 0, 0, 0), (.iload_n 2, 0, 0, 0), (.ifCond .ge 7, 21, 0, 0)]
def fX10_worthNamedBy_12 (v0 : Nat) (s0 : Int32) (h : aH) : Option (Int32 × aH) :=
  if s0 < 0 then fX10_worthNamedBy_17 h else fX10_worthNamedBy_21 v0 s0 h
theorem tX10_worthNamedBy_12 {d : Nat} {z : Int32 × aH} (v0 : Nat) (s0 : Int32) (h : aH) (hf : fX10_worthNamedBy_12 v0 s0 h = some z) : Ev (d + 2) none mX10_worthNamedBy (0, 0) 12 [.ref v0, .null, .null] [.int s0] h (QI z) := 
  go_ok (X := none) (blk := wX10_worthNamedBy_12) (np := 17) (tt := 21) (kN := fun xs h st => app [0, 0, 0] (apS [] (fX10_worthNamedBy_17 h) st) xs) (kT := fun xs h st => app [2, 0, 1] (fun v0 v2 => apS [] (fX10_worthNamedBy_21 v0 v2 h) st) xs) (kR := kRI)
    (fun xs h st q => jm [0, 0, 0] _ (fun q => apS_ok [] _ (fun st => Ev (d + 2) none mX10_worthNamedBy (0, 0) 17 [.null, .null, .null] st h (QI z)) st (fun q => tX10_worthNamedBy_17 h q) q) q)
    (fun xs h st q => jm [2, 0, 1] _ (fun v0 v2 q => apS_ok [] _ (fun st => Ev (d + 2) none mX10_worthNamedBy (0, 0) 21 [.ref v0, .null, .int v2] st h (QI z)) st (fun q => tX10_worthNamedBy_21 v0 v2 h q) q) q)
    kRI_ok (Or.inr rfl) (by decide +kernel) (by decide +kernel) hf
theorem kqX10_worthNamedBy_9 : okC mX10_worthNamedBy 9 (.invokevirtual 385) 130 135 0 2 = true := by decide +kernel
def fX10_worthNamedBy_9 (v0 : Nat) (s0 : Int32) (s1 : Nat) (s2 : Nat) (h : aH) : Option (Int32 × aH) :=
  (isO h 7 s2).bind fun _ =>
  (gX7_mostSeen s2 s1 s0 h).bind fun r =>
  fX10_worthNamedBy_12 v0 r.1 r.2
theorem tX10_worthNamedBy_9 {d : Nat} {z : Int32 × aH} (v0 : Nat) (s0 : Int32) (s1 : Nat) (s2 : Nat) (h : aH) (hf : fX10_worthNamedBy_9 v0 s0 s1 s2 h = some z) : Ev (d + 2) none mX10_worthNamedBy (0, 0) 9 [.ref v0, .null, .null] [.int s0, .ref s1, .ref s2] h (QI z) := by
  obtain ⟨_, h1, hf⟩ := bnd hf
  obtain ⟨fs, ho⟩ := isO_ok h1
  obtain ⟨r, h2, hf⟩ := bnd hf
  refine ev_V kqX10_worthNamedBy_9 jX7_mostSeen (zX7_mostSeen (d := d + 0) h2) ho rfl rfl (Nat.le_of_ble_eq_true rfl) rfl (as := [.ref s1, .int s0]) (rest := []) rfl (Nat.le_of_ble_eq_true rfl) (fun _ _ hq => ?_)
  obtain ⟨rfl, rfl⟩ := hq
  exact jm [2, 0, 0] (fun v0 => fX10_worthNamedBy_12 v0 r.1 r.2) (fun v0 q => tX10_worthNamedBy_12 v0 r.1 r.2 q) hf
def wX10_worthNamedBy_0 : List En := [(.aload_n 0, 0, 0, 0), (.getfield 68, 170, 10, 8), (.aload_n 0, 0, 0, 0), (.getfield 75, 171, 10, 9), (.iload_n 1, 0, 0, 0)]
def fX10_worthNamedBy_0 (v0 : Nat) (v1 : Int32) (h : aH) : Option (Int32 × aH) :=
  (gFR h 10 v0 8).bind fun t1 =>
  (gFR h 10 v0 9).bind fun t2 =>
  fX10_worthNamedBy_9 v0 v1 t2 t1 h
theorem tX10_worthNamedBy_0 {d : Nat} {z : Int32 × aH} (v0 : Nat) (v1 : Int32) (h : aH) (hf : fX10_worthNamedBy_0 v0 v1 h = some z) : Ev (d + 2) none mX10_worthNamedBy (0, 0) 0 [.ref v0, .int v1, .null] [] h (QI z) := 
  go_ok (X := none) (blk := wX10_worthNamedBy_0) (np := 9) (tt := 0) (kN := fun xs h st => app [2, 0, 0] (fun v0 => apS [1, 2, 2] (fun s0 s1 s2 => fX10_worthNamedBy_9 v0 s0 s1 s2 h) st) xs) (kT := fun _ _ _ => none) (kR := kRI)
    (fun xs h st q => jm [2, 0, 0] _ (fun v0 q => apS_ok [1, 2, 2] _ (fun st => Ev (d + 2) none mX10_worthNamedBy (0, 0) 9 [.ref v0, .null, .null] st h (QI z)) st (fun s0 s1 s2 q => tX10_worthNamedBy_9 v0 s0 s1 s2 h q) q) q)
    (fun _ _ _ q => nos q)
    kRI_ok (Or.inr rfl) (by decide +kernel) (by decide +kernel) hf
def gX10_worthNamedBy (v0 : Nat) (v1 : Int32) (h : aH) : Option (Int32 × aH) := fX10_worthNamedBy_0 v0 v1 h
theorem zX10_worthNamedBy {d : Nat} {z : Int32 × aH} {v0 : Nat} {v1 : Int32} {h : aH} (q : gX10_worthNamedBy v0 v1 h = some z) : CT (d + 2) mX10_worthNamedBy (0, 0) [.ref v0, .int v1] h (QI z) :=
  ct_ev (by decide +kernel) (Nat.le_of_ble_eq_true rfl) QI_r (jm [2, 1, 0] (fun v0 v1 => fX10_worthNamedBy_0 v0 v1 h) (fun v0 v1 q => tX10_worthNamedBy_0 v0 v1 h q) q)
def wX10_worthOfTables_28 : List En := [(.iadd, 0, 0, 0), (.ireturn, 0, 0, 0)]
def fX10_worthOfTables_28 (s0 : Int32) (s1 : Int32) (h : aH) : Option (Int32 × aH) :=
  some ((s1 + s0), h)
theorem tX10_worthOfTables_28 {d : Nat} {z : Int32 × aH} (s0 : Int32) (s1 : Int32) (h : aH) (hf : fX10_worthOfTables_28 s0 s1 h = some z) : Ev (d + 3) none mX10_worthOfTables (0, 0) 28 [.null, .null, .null] [.int s0, .int s1] h (QI z) := 
  go_ok (X := none) (blk := wX10_worthOfTables_28) (np := 30) (tt := 0) (kN := fun _ _ _ => none) (kT := fun _ _ _ => none) (kR := kRI)
    (fun _ _ _ q => nos q)
    (fun _ _ _ q => nos q)
    kRI_ok (Or.inr rfl) (by decide +kernel) (by decide +kernel) hf
theorem kqX10_worthOfTables_25 : okC mX10_worthOfTables 25 (.invokevirtual 382) 129 134 0 1 = true := by decide +kernel
def fX10_worthOfTables_25 (s0 : Int32) (s1 : Nat) (s2 : Int32) (h : aH) : Option (Int32 × aH) :=
  (isO h 10 s1).bind fun _ =>
  (gX10_worthNamedBy s1 s0 h).bind fun r =>
  fX10_worthOfTables_28 r.1 s2 r.2
theorem tX10_worthOfTables_25 {d : Nat} {z : Int32 × aH} (s0 : Int32) (s1 : Nat) (s2 : Int32) (h : aH) (hf : fX10_worthOfTables_25 s0 s1 s2 h = some z) : Ev (d + 3) none mX10_worthOfTables (0, 0) 25 [.null, .null, .null] [.int s0, .ref s1, .int s2] h (QI z) := by
  obtain ⟨_, h1, hf⟩ := bnd hf
  obtain ⟨fs, ho⟩ := isO_ok h1
  obtain ⟨r, h2, hf⟩ := bnd hf
  refine ev_V kqX10_worthOfTables_25 jX10_worthNamedBy (zX10_worthNamedBy (d := d + 0) h2) ho rfl rfl (Nat.le_of_ble_eq_true rfl) rfl (as := [.int s0]) (rest := [.int s2]) rfl (Nat.le_of_ble_eq_true rfl) (fun _ _ hq => ?_)
  obtain ⟨rfl, rfl⟩ := hq
  exact jm [0, 0, 0] (fX10_worthOfTables_28 r.1 s2 r.2) (fun q => tX10_worthOfTables_28 r.1 s2 r.2 q) hf
def wX10_worthOfTables_19 : List En := [(.aload_n 0, 0, 0, 0), (.iload_n 2, 0, 0, 0), (.iload_n 1, 0, 0, 0), (.iconst (-1), 0, 0, 0), (.ixor, 0, 0, 0), (.iand, 0, 0, 0)]
def fX10_worthOfTables_19 (v0 : Nat) (v1 : Int32) (v2 : Int32) (s0 : Int32) (h : aH) : Option (Int32 × aH) :=
  fX10_worthOfTables_25 (v2 &&& (v1 ^^^ (kI (-1)))) v0 s0 h
theorem tX10_worthOfTables_19 {d : Nat} {z : Int32 × aH} (v0 : Nat) (v1 : Int32) (v2 : Int32) (s0 : Int32) (h : aH) (hf : fX10_worthOfTables_19 v0 v1 v2 s0 h = some z) : Ev (d + 3) none mX10_worthOfTables (0, 0) 19 [.ref v0, .int v1, .int v2] [.int s0] h (QI z) := 
  go_ok (X := none) (blk := wX10_worthOfTables_19) (np := 25) (tt := 0) (kN := fun xs h st => app [0, 0, 0] (apS [1, 2, 1] (fun s0 s1 s2 => fX10_worthOfTables_25 s0 s1 s2 h) st) xs) (kT := fun _ _ _ => none) (kR := kRI)
    (fun xs h st q => jm [0, 0, 0] _ (fun q => apS_ok [1, 2, 1] _ (fun st => Ev (d + 3) none mX10_worthOfTables (0, 0) 25 [.null, .null, .null] st h (QI z)) st (fun s0 s1 s2 q => tX10_worthOfTables_25 s0 s1 s2 h q) q) q)
    (fun _ _ _ q => nos q)
    kRI_ok (Or.inr rfl) (by decide +kernel) (by decide +kernel) hf
theorem kqX10_worthOfTables_16 : okC mX10_worthOfTables 16 (.invokevirtual 382) 129 134 0 1 = true := by decide +kernel
def fX10_worthOfTables_16 (v0 : Nat) (v1 : Int32) (v2 : Int32) (s0 : Int32) (s1 : Nat) (h : aH) : Option (Int32 × aH) :=
  (isO h 10 s1).bind fun _ =>
  (gX10_worthNamedBy s1 s0 h).bind fun r =>
  fX10_worthOfTables_19 v0 v1 v2 r.1 r.2
theorem tX10_worthOfTables_16 {d : Nat} {z : Int32 × aH} (v0 : Nat) (v1 : Int32) (v2 : Int32) (s0 : Int32) (s1 : Nat) (h : aH) (hf : fX10_worthOfTables_16 v0 v1 v2 s0 s1 h = some z) : Ev (d + 3) none mX10_worthOfTables (0, 0) 16 [.ref v0, .int v1, .int v2] [.int s0, .ref s1] h (QI z) := by
  obtain ⟨_, h1, hf⟩ := bnd hf
  obtain ⟨fs, ho⟩ := isO_ok h1
  obtain ⟨r, h2, hf⟩ := bnd hf
  refine ev_V kqX10_worthOfTables_16 jX10_worthNamedBy (zX10_worthNamedBy (d := d + 0) h2) ho rfl rfl (Nat.le_of_ble_eq_true rfl) rfl (as := [.int s0]) (rest := []) rfl (Nat.le_of_ble_eq_true rfl) (fun _ _ hq => ?_)
  obtain ⟨rfl, rfl⟩ := hq
  exact jm [2, 1, 1] (fun v0 v1 v2 => fX10_worthOfTables_19 v0 v1 v2 r.1 r.2) (fun v0 v1 v2 q => tX10_worthOfTables_19 v0 v1 v2 r.1 r.2 q) hf
def wX10_worthOfTables_11 : List En := [(.istore_n 2, 0, 0, 0), (.aload_n 0, 0, 0, 0), (.iload_n 2, 0, 0, 0), (.iload_n 1, 0, 0, 0), (.iand, 0, 0, 0)]
def fX10_worthOfTables_11 (v0 : Nat) (v1 : Int32) (s0 : Int32) (h : aH) : Option (Int32 × aH) :=
  fX10_worthOfTables_16 v0 v1 s0 (s0 &&& v1) v0 h
theorem tX10_worthOfTables_11 {d : Nat} {z : Int32 × aH} (v0 : Nat) (v1 : Int32) (s0 : Int32) (h : aH) (hf : fX10_worthOfTables_11 v0 v1 s0 h = some z) : Ev (d + 3) none mX10_worthOfTables (0, 0) 11 [.ref v0, .int v1, .null] [.int s0] h (QI z) := 
  go_ok (X := none) (blk := wX10_worthOfTables_11) (np := 16) (tt := 0) (kN := fun xs h st => app [2, 1, 1] (fun v0 v1 v2 => apS [1, 2] (fun s0 s1 => fX10_worthOfTables_16 v0 v1 v2 s0 s1 h) st) xs) (kT := fun _ _ _ => none) (kR := kRI)
    (fun xs h st q => jm [2, 1, 1] _ (fun v0 v1 v2 q => apS_ok [1, 2] _ (fun st => Ev (d + 3) none mX10_worthOfTables (0, 0) 16 [.ref v0, .int v1, .int v2] st h (QI z)) st (fun s0 s1 q => tX10_worthOfTables_16 v0 v1 v2 s0 s1 h q) q) q)
    (fun _ _ _ q => nos q)
    kRI_ok (Or.inr rfl) (by decide +kernel) (by decide +kernel) hf
theorem kqX10_worthOfTables_8 : okC mX10_worthOfTables 8 (.invokevirtual 211) 86 97 0 1 = true := by decide +kernel
def fX10_worthOfTables_8 (v0 : Nat) (v1 : Int32) (s0 : Nat) (s1 : Nat) (h : aH) : Option (Int32 × aH) :=
  (isO h 7 s1).bind fun _ =>
  (gX7_living s1 s0 h).bind fun r =>
  fX10_worthOfTables_11 v0 v1 r.1 r.2
theorem tX10_worthOfTables_8 {d : Nat} {z : Int32 × aH} (v0 : Nat) (v1 : Int32) (s0 : Nat) (s1 : Nat) (h : aH) (hf : fX10_worthOfTables_8 v0 v1 s0 s1 h = some z) : Ev (d + 3) none mX10_worthOfTables (0, 0) 8 [.ref v0, .int v1, .null] [.ref s0, .ref s1] h (QI z) := by
  obtain ⟨_, h1, hf⟩ := bnd hf
  obtain ⟨fs, ho⟩ := isO_ok h1
  obtain ⟨r, h2, hf⟩ := bnd hf
  refine ev_V kqX10_worthOfTables_8 jX7_living (zX7_living (d := d + 2) h2) ho rfl rfl (Nat.le_of_ble_eq_true rfl) rfl (as := [.ref s0]) (rest := []) rfl (Nat.le_of_ble_eq_true rfl) (fun _ _ hq => ?_)
  obtain ⟨rfl, rfl⟩ := hq
  exact jm [2, 1, 0] (fun v0 v1 => fX10_worthOfTables_11 v0 v1 r.1 r.2) (fun v0 v1 q => tX10_worthOfTables_11 v0 v1 r.1 r.2 q) hf
def wX10_worthOfTables_0 : List En := [(.aload_n 0, 0, 0, 0), (.getfield 68, 170, 10, 8), (.aload_n 0, 0, 0, 0), (.getfield 75, 171, 10, 9)]
def fX10_worthOfTables_0 (v0 : Nat) (v1 : Int32) (h : aH) : Option (Int32 × aH) :=
  (gFR h 10 v0 8).bind fun t1 =>
  (gFR h 10 v0 9).bind fun t2 =>
  fX10_worthOfTables_8 v0 v1 t2 t1 h
theorem tX10_worthOfTables_0 {d : Nat} {z : Int32 × aH} (v0 : Nat) (v1 : Int32) (h : aH) (hf : fX10_worthOfTables_0 v0 v1 h = some z) : Ev (d + 3) none mX10_worthOfTables (0, 0) 0 [.ref v0, .int v1, .null] [] h (QI z) := 
  go_ok (X := none) (blk := wX10_worthOfTables_0) (np := 8) (tt := 0) (kN := fun xs h st => app [2, 1, 0] (fun v0 v1 => apS [2, 2] (fun s0 s1 => fX10_worthOfTables_8 v0 v1 s0 s1 h) st) xs) (kT := fun _ _ _ => none) (kR := kRI)
    (fun xs h st q => jm [2, 1, 0] _ (fun v0 v1 q => apS_ok [2, 2] _ (fun st => Ev (d + 3) none mX10_worthOfTables (0, 0) 8 [.ref v0, .int v1, .null] st h (QI z)) st (fun s0 s1 q => tX10_worthOfTables_8 v0 v1 s0 s1 h q) q) q)
    (fun _ _ _ q => nos q)
    kRI_ok (Or.inr rfl) (by decide +kernel) (by decide +kernel) hf
def gX10_worthOfTables (v0 : Nat) (v1 : Int32) (h : aH) : Option (Int32 × aH) := fX10_worthOfTables_0 v0 v1 h
theorem zX10_worthOfTables {d : Nat} {z : Int32 × aH} {v0 : Nat} {v1 : Int32} {h : aH} (q : gX10_worthOfTables v0 v1 h = some z) : CT (d + 3) mX10_worthOfTables (0, 0) [.ref v0, .int v1] h (QI z) :=
  ct_ev (by decide +kernel) (Nat.le_of_ble_eq_true rfl) QI_r (jm [2, 1, 0] (fun v0 v1 => fX10_worthOfTables_0 v0 v1 h) (fun v0 v1 q => tX10_worthOfTables_0 v0 v1 h q) q)
def wX10_bestFirstTable_88 : List En := [(.iload_n 3, 0, 0, 0), (.ireturn, 0, 0, 0)]
def fX10_bestFirstTable_88 (v3 : Int32) (h : aH) : Option (Int32 × aH) :=
  some (v3, h)
theorem tX10_bestFirstTable_88 {d : Nat} {z : Int32 × aH} (v3 : Int32) (h : aH) (hf : fX10_bestFirstTable_88 v3 h = some z) : Ev (d + 4) none mX10_bestFirstTable (0, 0) 88 [.null, .null, .null, .int v3, .null, .null, .null] [] h (QI z) := 
  go_ok (X := none) (blk := wX10_bestFirstTable_88) (np := 90) (tt := 0) (kN := fun _ _ _ => none) (kT := fun _ _ _ => none) (kR := kRI)
    (fun _ _ _ q => nos q)
    (fun _ _ _ q => nos q)
    kRI_ok (Or.inr rfl) (by decide +kernel) (by decide +kernel) hf
def wX10_bestFirstTable_82 : List En := [(.iinc 5 1, 0, 0, 0), (.goto (-60), 25, 0, 0)]
def fX10_bestFirstTable_82 (k25 : Nat → Int32 → Int32 → Int32 → Int32 → Int32 → aH → Option (Int32 × aH)) (v0 : Nat) (v1 : Int32) (v2 : Int32) (v3 : Int32) (v4 : Int32) (v5 : Int32) (h : aH) : Option (Int32 × aH) :=
  k25 v0 v1 v2 v3 v4 (v5 + kI 1) h
theorem tX10_bestFirstTable_82 {d : Nat} {z : Int32 × aH} {k25 : Nat → Int32 → Int32 → Int32 → Int32 → Int32 → aH → Option (Int32 × aH)} (hk25 : ∀ (v0 : Nat) (v1 : Int32) (v2 : Int32) (v3 : Int32) (v4 : Int32) (v5 : Int32) (h : aH), k25 v0 v1 v2 v3 v4 v5 h = some z → Ev (d + 4) none mX10_bestFirstTable (0, 0) 25 [.ref v0, .int v1, .int v2, .int v3, .int v4, .int v5, .null] [] h (QI z)) (v0 : Nat) (v1 : Int32) (v2 : Int32) (v3 : Int32) (v4 : Int32) (v5 : Int32) (h : aH) (hf : fX10_bestFirstTable_82 k25 v0 v1 v2 v3 v4 v5 h = some z) : Ev (d + 4) none mX10_bestFirstTable (0, 0) 82 [.ref v0, .int v1, .int v2, .int v3, .int v4, .int v5, .null] [] h (QI z) := 
  go_ok (X := none) (blk := wX10_bestFirstTable_82) (np := 88) (tt := 25) (kN := fun _ _ _ => none) (kT := fun xs h st => app [2, 1, 1, 1, 1, 1, 0] (fun v0 v1 v2 v3 v4 v5 => apS [] (k25 v0 v1 v2 v3 v4 v5 h) st) xs) (kR := kRI)
    (fun _ _ _ q => nos q)
    (fun xs h st q => jm [2, 1, 1, 1, 1, 1, 0] _ (fun v0 v1 v2 v3 v4 v5 q => apS_ok [] _ (fun st => Ev (d + 4) none mX10_bestFirstTable (0, 0) 25 [.ref v0, .int v1, .int v2, .int v3, .int v4, .int v5, .null] st h (QI z)) st (fun q => hk25 v0 v1 v2 v3 v4 v5 h q) q) q)
    kRI_ok (Or.inr rfl) (by decide +kernel) (by decide +kernel) hf
def wX10_bestFirstTable_80 : List En := [(.istore 4, 0, 0, 0)]
def fX10_bestFirstTable_80 (k25 : Nat → Int32 → Int32 → Int32 → Int32 → Int32 → aH → Option (Int32 × aH)) (v0 : Nat) (v1 : Int32) (v2 : Int32) (v3 : Int32) (v5 : Int32) (s0 : Int32) (h : aH) : Option (Int32 × aH) :=
  fX10_bestFirstTable_82 k25 v0 v1 v2 v3 s0 v5 h
theorem tX10_bestFirstTable_80 {d : Nat} {z : Int32 × aH} {k25 : Nat → Int32 → Int32 → Int32 → Int32 → Int32 → aH → Option (Int32 × aH)} (hk25 : ∀ (v0 : Nat) (v1 : Int32) (v2 : Int32) (v3 : Int32) (v4 : Int32) (v5 : Int32) (h : aH), k25 v0 v1 v2 v3 v4 v5 h = some z → Ev (d + 4) none mX10_bestFirstTable (0, 0) 25 [.ref v0, .int v1, .int v2, .int v3, .int v4, .int v5, .null] [] h (QI z)) (v0 : Nat) (v1 : Int32) (v2 : Int32) (v3 : Int32) (v5 : Int32) (s0 : Int32) (h : aH) (hf : fX10_bestFirstTable_80 k25 v0 v1 v2 v3 v5 s0 h = some z) : Ev (d + 4) none mX10_bestFirstTable (0, 0) 80 [.ref v0, .int v1, .int v2, .int v3, .null, .int v5, .null] [.int s0] h (QI z) := 
  go_ok (X := none) (blk := wX10_bestFirstTable_80) (np := 82) (tt := 0) (kN := fun xs h st => app [2, 1, 1, 1, 1, 1, 0] (fun v0 v1 v2 v3 v4 v5 => apS [] (fX10_bestFirstTable_82 k25 v0 v1 v2 v3 v4 v5 h) st) xs) (kT := fun _ _ _ => none) (kR := kRI)
    (fun xs h st q => jm [2, 1, 1, 1, 1, 1, 0] _ (fun v0 v1 v2 v3 v4 v5 q => apS_ok [] _ (fun st => Ev (d + 4) none mX10_bestFirstTable (0, 0) 82 [.ref v0, .int v1, .int v2, .int v3, .int v4, .int v5, .null] st h (QI z)) st (fun q => tX10_bestFirstTable_82 hk25 v0 v1 v2 v3 v4 v5 h q) q) q)
    (fun _ _ _ q => nos q)
    kRI_ok (Or.inr rfl) (by decide +kernel) (by decide +kernel) hf
theorem kqX10_bestFirstTable_77 : okC mX10_bestFirstTable 77 (.invokevirtual 263) 128 133 0 1 = true := by decide +kernel
def fX10_bestFirstTable_77 (k25 : Nat → Int32 → Int32 → Int32 → Int32 → Int32 → aH → Option (Int32 × aH)) (v0 : Nat) (v1 : Int32) (v2 : Int32) (v3 : Int32) (v5 : Int32) (s0 : Int32) (s1 : Nat) (h : aH) : Option (Int32 × aH) :=
  (isO h 10 s1).bind fun _ =>
  (gX10_worthOfTables s1 s0 h).bind fun r =>
  fX10_bestFirstTable_80 k25 v0 v1 v2 v3 v5 r.1 r.2
theorem tX10_bestFirstTable_77 {d : Nat} {z : Int32 × aH} {k25 : Nat → Int32 → Int32 → Int32 → Int32 → Int32 → aH → Option (Int32 × aH)} (hk25 : ∀ (v0 : Nat) (v1 : Int32) (v2 : Int32) (v3 : Int32) (v4 : Int32) (v5 : Int32) (h : aH), k25 v0 v1 v2 v3 v4 v5 h = some z → Ev (d + 4) none mX10_bestFirstTable (0, 0) 25 [.ref v0, .int v1, .int v2, .int v3, .int v4, .int v5, .null] [] h (QI z)) (v0 : Nat) (v1 : Int32) (v2 : Int32) (v3 : Int32) (v5 : Int32) (s0 : Int32) (s1 : Nat) (h : aH) (hf : fX10_bestFirstTable_77 k25 v0 v1 v2 v3 v5 s0 s1 h = some z) : Ev (d + 4) none mX10_bestFirstTable (0, 0) 77 [.ref v0, .int v1, .int v2, .int v3, .null, .int v5, .null] [.int s0, .ref s1] h (QI z) := by
  obtain ⟨_, h1, hf⟩ := bnd hf
  obtain ⟨fs, ho⟩ := isO_ok h1
  obtain ⟨r, h2, hf⟩ := bnd hf
  refine ev_V kqX10_bestFirstTable_77 jX10_worthOfTables (zX10_worthOfTables (d := d + 0) h2) ho rfl rfl (Nat.le_of_ble_eq_true rfl) rfl (as := [.int s0]) (rest := []) rfl (Nat.le_of_ble_eq_true rfl) (fun _ _ hq => ?_)
  obtain ⟨rfl, rfl⟩ := hq
  exact jm [2, 1, 1, 1, 0, 1, 0] (fun v0 v1 v2 v3 v5 => fX10_bestFirstTable_80 k25 v0 v1 v2 v3 v5 r.1 r.2) (fun v0 v1 v2 v3 v5 q => tX10_bestFirstTable_80 hk25 v0 v1 v2 v3 v5 r.1 r.2 q) hf
def wX10_bestFirstTable_71 : List En := [(.iload 5, 0, 0, 0), (.istore_n 3, 0, 0, 0), (.aload_n 0, 0, 0, 0), (.iload 5, 0, 0, 0)]
def fX10_bestFirstTable_71 (k25 : Nat → Int32 → Int32 → Int32 → Int32 → Int32 → aH → Option (Int32 × aH)) (v0 : Nat) (v1 : Int32) (v2 : Int32) (v5 : Int32) (h : aH) : Option (Int32 × aH) :=
  fX10_bestFirstTable_77 k25 v0 v1 v2 v5 v5 v5 v0 h
theorem tX10_bestFirstTable_71 {d : Nat} {z : Int32 × aH} {k25 : Nat → Int32 → Int32 → Int32 → Int32 → Int32 → aH → Option (Int32 × aH)} (hk25 : ∀ (v0 : Nat) (v1 : Int32) (v2 : Int32) (v3 : Int32) (v4 : Int32) (v5 : Int32) (h : aH), k25 v0 v1 v2 v3 v4 v5 h = some z → Ev (d + 4) none mX10_bestFirstTable (0, 0) 25 [.ref v0, .int v1, .int v2, .int v3, .int v4, .int v5, .null] [] h (QI z)) (v0 : Nat) (v1 : Int32) (v2 : Int32) (v5 : Int32) (h : aH) (hf : fX10_bestFirstTable_71 k25 v0 v1 v2 v5 h = some z) : Ev (d + 4) none mX10_bestFirstTable (0, 0) 71 [.ref v0, .int v1, .int v2, .null, .null, .int v5, .null] [] h (QI z) := 
  go_ok (X := none) (blk := wX10_bestFirstTable_71) (np := 77) (tt := 0) (kN := fun xs h st => app [2, 1, 1, 1, 0, 1, 0] (fun v0 v1 v2 v3 v5 => apS [1, 2] (fun s0 s1 => fX10_bestFirstTable_77 k25 v0 v1 v2 v3 v5 s0 s1 h) st) xs) (kT := fun _ _ _ => none) (kR := kRI)
    (fun xs h st q => jm [2, 1, 1, 1, 0, 1, 0] _ (fun v0 v1 v2 v3 v5 q => apS_ok [1, 2] _ (fun st => Ev (d + 4) none mX10_bestFirstTable (0, 0) 77 [.ref v0, .int v1, .int v2, .int v3, .null, .int v5, .null] st h (QI z)) st (fun s0 s1 q => tX10_bestFirstTable_77 hk25 v0 v1 v2 v3 v5 s0 s1 h q) q) q)
    (fun _ _ _ q => nos q)
    kRI_ok (Or.inr rfl) (by decide +kernel) (by decide +kernel) hf
def wX10_bestFirstTable_66 : List En := [(.iload 4, 0, 0, 0), (.if_icmp .le 14, 82, 0, 0)]
def fX10_bestFirstTable_66 (k25 : Nat → Int32 → Int32 → Int32 → Int32 → Int32 → aH → Option (Int32 × aH)) (v0 : Nat) (v1 : Int32) (v2 : Int32) (v3 : Int32) (v4 : Int32) (v5 : Int32) (s0 : Int32) (h : aH) : Option (Int32 × aH) :=
  if v4 < s0 then fX10_bestFirstTable_71 k25 v0 v1 v2 v5 h else fX10_bestFirstTable_82 k25 v0 v1 v2 v3 v4 v5 h
theorem tX10_bestFirstTable_66 {d : Nat} {z : Int32 × aH} {k25 : Nat → Int32 → Int32 → Int32 → Int32 → Int32 → aH → Option (Int32 × aH)} (hk25 : ∀ (v0 : Nat) (v1 : Int32) (v2 : Int32) (v3 : Int32) (v4 : Int32) (v5 : Int32) (h : aH), k25 v0 v1 v2 v3 v4 v5 h = some z → Ev (d + 4) none mX10_bestFirstTable (0, 0) 25 [.ref v0, .int v1, .int v2, .int v3, .int v4, .int v5, .null] [] h (QI z)) (v0 : Nat) (v1 : Int32) (v2 : Int32) (v3 : Int32) (v4 : Int32) (v5 : Int32) (s0 : Int32) (h : aH) (hf : fX10_bestFirstTable_66 k25 v0 v1 v2 v3 v4 v5 s0 h = some z) : Ev (d + 4) none mX10_bestFirstTable (0, 0) 66 [.ref v0, .int v1, .int v2, .int v3, .int v4, .int v5, .null] [.int s0] h (QI z) := 
  go_ok (X := none) (blk := wX10_bestFirstTable_66) (np := 71) (tt := 82) (kN := fun xs h st => app [2, 1, 1, 0, 0, 1, 0] (fun v0 v1 v2 v5 => apS [] (fX10_bestFirstTable_71 k25 v0 v1 v2 v5 h) st) xs) (kT := fun xs h st => app [2, 1, 1, 1, 1, 1, 0] (fun v0 v1 v2 v3 v4 v5 => apS [] (fX10_bestFirstTable_82 k25 v0 v1 v2 v3 v4 v5 h) st) xs) (kR := kRI)
    (fun xs h st q => jm [2, 1, 1, 0, 0, 1, 0] _ (fun v0 v1 v2 v5 q => apS_ok [] _ (fun st => Ev (d + 4) none mX10_bestFirstTable (0, 0) 71 [.ref v0, .int v1, .int v2, .null, .null, .int v5, .null] st h (QI z)) st (fun q => tX10_bestFirstTable_71 hk25 v0 v1 v2 v5 h q) q) q)
    (fun xs h st q => jm [2, 1, 1, 1, 1, 1, 0] _ (fun v0 v1 v2 v3 v4 v5 q => apS_ok [] _ (fun st => Ev (d + 4) none mX10_bestFirstTable (0, 0) 82 [.ref v0, .int v1, .int v2, .int v3, .int v4, .int v5, .null] st h (QI z)) st (fun q => tX10_bestFirstTable_82 hk25 v0 v1 v2 v3 v4 v5 h q) q) q)
    kRI_ok (Or.inr rfl) (by decide +kernel) (by decide +kernel) hf
theorem kqX10_bestFirstTable_63 : okC mX10_bestFirstTable 63 (.invokevirtual 263) 128 133 0 1 = true := by decide +kernel
def fX10_bestFirstTable_63 (k25 : Nat → Int32 → Int32 → Int32 → Int32 → Int32 → aH → Option (Int32 × aH)) (v0 : Nat) (v1 : Int32) (v2 : Int32) (v3 : Int32) (v4 : Int32) (v5 : Int32) (s0 : Int32) (s1 : Nat) (h : aH) : Option (Int32 × aH) :=
  (isO h 10 s1).bind fun _ =>
  (gX10_worthOfTables s1 s0 h).bind fun r =>
  fX10_bestFirstTable_66 k25 v0 v1 v2 v3 v4 v5 r.1 r.2
theorem tX10_bestFirstTable_63 {d : Nat} {z : Int32 × aH} {k25 : Nat → Int32 → Int32 → Int32 → Int32 → Int32 → aH → Option (Int32 × aH)} (hk25 : ∀ (v0 : Nat) (v1 : Int32) (v2 : Int32) (v3 : Int32) (v4 : Int32) (v5 : Int32) (h : aH), k25 v0 v1 v2 v3 v4 v5 h = some z → Ev (d + 4) none mX10_bestFirstTable (0, 0) 25 [.ref v0, .int v1, .int v2, .int v3, .int v4, .int v5, .null] [] h (QI z)) (v0 : Nat) (v1 : Int32) (v2 : Int32) (v3 : Int32) (v4 : Int32) (v5 : Int32) (s0 : Int32) (s1 : Nat) (h : aH) (hf : fX10_bestFirstTable_63 k25 v0 v1 v2 v3 v4 v5 s0 s1 h = some z) : Ev (d + 4) none mX10_bestFirstTable (0, 0) 63 [.ref v0, .int v1, .int v2, .int v3, .int v4, .int v5, .null] [.int s0, .ref s1] h (QI z) := by
  obtain ⟨_, h1, hf⟩ := bnd hf
  obtain ⟨fs, ho⟩ := isO_ok h1
  obtain ⟨r, h2, hf⟩ := bnd hf
  refine ev_V kqX10_bestFirstTable_63 jX10_worthOfTables (zX10_worthOfTables (d := d + 0) h2) ho rfl rfl (Nat.le_of_ble_eq_true rfl) rfl (as := [.int s0]) (rest := []) rfl (Nat.le_of_ble_eq_true rfl) (fun _ _ hq => ?_)
  obtain ⟨rfl, rfl⟩ := hq
  exact jm [2, 1, 1, 1, 1, 1, 0] (fun v0 v1 v2 v3 v4 v5 => fX10_bestFirstTable_66 k25 v0 v1 v2 v3 v4 v5 r.1 r.2) (fun v0 v1 v2 v3 v4 v5 q => tX10_bestFirstTable_66 hk25 v0 v1 v2 v3 v4 v5 r.1 r.2 q) hf
def wX10_bestFirstTable_60 : List En := [(.aload_n 0, 0, 0, 0), (.iload 5, 0, 0, 0)]
def fX10_bestFirstTable_60 (k25 : Nat → Int32 → Int32 → Int32 → Int32 → Int32 → aH → Option (Int32 × aH)) (v0 : Nat) (v1 : Int32) (v2 : Int32) (v3 : Int32) (v4 : Int32) (v5 : Int32) (h : aH) : Option (Int32 × aH) :=
  fX10_bestFirstTable_63 k25 v0 v1 v2 v3 v4 v5 v5 v0 h
theorem tX10_bestFirstTable_60 {d : Nat} {z : Int32 × aH} {k25 : Nat → Int32 → Int32 → Int32 → Int32 → Int32 → aH → Option (Int32 × aH)} (hk25 : ∀ (v0 : Nat) (v1 : Int32) (v2 : Int32) (v3 : Int32) (v4 : Int32) (v5 : Int32) (h : aH), k25 v0 v1 v2 v3 v4 v5 h = some z → Ev (d + 4) none mX10_bestFirstTable (0, 0) 25 [.ref v0, .int v1, .int v2, .int v3, .int v4, .int v5, .null] [] h (QI z)) (v0 : Nat) (v1 : Int32) (v2 : Int32) (v3 : Int32) (v4 : Int32) (v5 : Int32) (h : aH) (hf : fX10_bestFirstTable_60 k25 v0 v1 v2 v3 v4 v5 h = some z) : Ev (d + 4) none mX10_bestFirstTable (0, 0) 60 [.ref v0, .int v1, .int v2, .int v3, .int v4, .int v5, .null] [] h (QI z) := 
  go_ok (X := none) (blk := wX10_bestFirstTable_60) (np := 63) (tt := 0) (kN := fun xs h st => app [2, 1, 1, 1, 1, 1, 0] (fun v0 v1 v2 v3 v4 v5 => apS [1, 2] (fun s0 s1 => fX10_bestFirstTable_63 k25 v0 v1 v2 v3 v4 v5 s0 s1 h) st) xs) (kT := fun _ _ _ => none) (kR := kRI)
    (fun xs h st q => jm [2, 1, 1, 1, 1, 1, 0] _ (fun v0 v1 v2 v3 v4 v5 q => apS_ok [1, 2] _ (fun st => Ev (d + 4) none mX10_bestFirstTable (0, 0) 63 [.ref v0, .int v1, .int v2, .int v3, .int v4, .int v5, .null] st h (QI z)) st (fun s0 s1 q => tX10_bestFirstTable_63 hk25 v0 v1 v2 v3 v4 v5 s0 s1 h q) q) q)
    (fun _ _ _ q => nos q)
    kRI_ok (Or.inr rfl) (by decide +kernel) (by decide +kernel) hf
def wX10_bestFirstTable_53 : List En := [(.istore 6, 0, 0, 0), (.iload 6, 0, 0, 0), (.ifCond .eq 25, 82, 0, 0)]
def fX10_bestFirstTable_53 (k25 : Nat → Int32 → Int32 → Int32 → Int32 → Int32 → aH → Option (Int32 × aH)) (v0 : Nat) (v1 : Int32) (v2 : Int32) (v3 : Int32) (v4 : Int32) (v5 : Int32) (s0 : Int32) (h : aH) : Option (Int32 × aH) :=
  if s0 = 0 then fX10_bestFirstTable_82 k25 v0 v1 v2 v3 v4 v5 h else fX10_bestFirstTable_60 k25 v0 v1 v2 v3 v4 v5 h
theorem tX10_bestFirstTable_53 {d : Nat} {z : Int32 × aH} {k25 : Nat → Int32 → Int32 → Int32 → Int32 → Int32 → aH → Option (Int32 × aH)} (hk25 : ∀ (v0 : Nat) (v1 : Int32) (v2 : Int32) (v3 : Int32) (v4 : Int32) (v5 : Int32) (h : aH), k25 v0 v1 v2 v3 v4 v5 h = some z → Ev (d + 4) none mX10_bestFirstTable (0, 0) 25 [.ref v0, .int v1, .int v2, .int v3, .int v4, .int v5, .null] [] h (QI z)) (v0 : Nat) (v1 : Int32) (v2 : Int32) (v3 : Int32) (v4 : Int32) (v5 : Int32) (s0 : Int32) (h : aH) (hf : fX10_bestFirstTable_53 k25 v0 v1 v2 v3 v4 v5 s0 h = some z) : Ev (d + 4) none mX10_bestFirstTable (0, 0) 53 [.ref v0, .int v1, .int v2, .int v3, .int v4, .int v5, .null] [.int s0] h (QI z) := 
  go_ok (X := none) (blk := wX10_bestFirstTable_53) (np := 60) (tt := 82) (kN := fun xs h st => app [2, 1, 1, 1, 1, 1, 0] (fun v0 v1 v2 v3 v4 v5 => apS [] (fX10_bestFirstTable_60 k25 v0 v1 v2 v3 v4 v5 h) st) xs) (kT := fun xs h st => app [2, 1, 1, 1, 1, 1, 0] (fun v0 v1 v2 v3 v4 v5 => apS [] (fX10_bestFirstTable_82 k25 v0 v1 v2 v3 v4 v5 h) st) xs) (kR := kRI)
    (fun xs h st q => jm [2, 1, 1, 1, 1, 1, 0] _ (fun v0 v1 v2 v3 v4 v5 q => apS_ok [] _ (fun st => Ev (d + 4) none mX10_bestFirstTable (0, 0) 60 [.ref v0, .int v1, .int v2, .int v3, .int v4, .int v5, .null] st h (QI z)) st (fun q => tX10_bestFirstTable_60 hk25 v0 v1 v2 v3 v4 v5 h q) q) q)
    (fun xs h st q => jm [2, 1, 1, 1, 1, 1, 0] _ (fun v0 v1 v2 v3 v4 v5 q => apS_ok [] _ (fun st => Ev (d + 4) none mX10_bestFirstTable (0, 0) 82 [.ref v0, .int v1, .int v2, .int v3, .int v4, .int v5, .null] st h (QI z)) st (fun q => tX10_bestFirstTable_82 hk25 v0 v1 v2 v3 v4 v5 h q) q) q)
    kRI_ok (Or.inr rfl) (by decide +kernel) (by decide +kernel) hf
def wX10_bestFirstTable_52 : List En := [(.iconst 0, 0, 0, 0)]
def fX10_bestFirstTable_52 (k25 : Nat → Int32 → Int32 → Int32 → Int32 → Int32 → aH → Option (Int32 × aH)) (v0 : Nat) (v1 : Int32) (v2 : Int32) (v3 : Int32) (v4 : Int32) (v5 : Int32) (h : aH) : Option (Int32 × aH) :=
  fX10_bestFirstTable_53 k25 v0 v1 v2 v3 v4 v5 (kI 0) h
theorem tX10_bestFirstTable_52 {d : Nat} {z : Int32 × aH} {k25 : Nat → Int32 → Int32 → Int32 → Int32 → Int32 → aH → Option (Int32 × aH)} (hk25 : ∀ (v0 : Nat) (v1 : Int32) (v2 : Int32) (v3 : Int32) (v4 : Int32) (v5 : Int32) (h : aH), k25 v0 v1 v2 v3 v4 v5 h = some z → Ev (d + 4) none mX10_bestFirstTable (0, 0) 25 [.ref v0, .int v1, .int v2, .int v3, .int v4, .int v5, .null] [] h (QI z)) (v0 : Nat) (v1 : Int32) (v2 : Int32) (v3 : Int32) (v4 : Int32) (v5 : Int32) (h : aH) (hf : fX10_bestFirstTable_52 k25 v0 v1 v2 v3 v4 v5 h = some z) : Ev (d + 4) none mX10_bestFirstTable (0, 0) 52 [.ref v0, .int v1, .int v2, .int v3, .int v4, .int v5, .null] [] h (QI z) := 
  go_ok (X := none) (blk := wX10_bestFirstTable_52) (np := 53) (tt := 0) (kN := fun xs h st => app [2, 1, 1, 1, 1, 1, 0] (fun v0 v1 v2 v3 v4 v5 => apS [1] (fun s0 => fX10_bestFirstTable_53 k25 v0 v1 v2 v3 v4 v5 s0 h) st) xs) (kT := fun _ _ _ => none) (kR := kRI)
    (fun xs h st q => jm [2, 1, 1, 1, 1, 1, 0] _ (fun v0 v1 v2 v3 v4 v5 q => apS_ok [1] _ (fun st => Ev (d + 4) none mX10_bestFirstTable (0, 0) 53 [.ref v0, .int v1, .int v2, .int v3, .int v4, .int v5, .null] st h (QI z)) st (fun s0 q => tX10_bestFirstTable_53 hk25 v0 v1 v2 v3 v4 v5 s0 h q) q) q)
    (fun _ _ _ q => nos q)
    kRI_ok (Or.inr rfl) (by decide +kernel) (by decide +kernel) hf
def wX10_bestFirstTable_48 : List En := [(.iconst 1, 0, 0, 0), (.goto 4, 53, 0, 0)]
def fX10_bestFirstTable_48 (k25 : Nat → Int32 → Int32 → Int32 → Int32 → Int32 → aH → Option (Int32 × aH)) (v0 : Nat) (v1 : Int32) (v2 : Int32) (v3 : Int32) (v4 : Int32) (v5 : Int32) (h : aH) : Option (Int32 × aH) :=
  fX10_bestFirstTable_53 k25 v0 v1 v2 v3 v4 v5 (kI 1) h
theorem tX10_bestFirstTable_48 {d : Nat} {z : Int32 × aH} {k25 : Nat → Int32 → Int32 → Int32 → Int32 → Int32 → aH → Option (Int32 × aH)} (hk25 : ∀ (v0 : Nat) (v1 : Int32) (v2 : Int32) (v3 : Int32) (v4 : Int32) (v5 : Int32) (h : aH), k25 v0 v1 v2 v3 v4 v5 h = some z → Ev (d + 4) none mX10_bestFirstTable (0, 0) 25 [.ref v0, .int v1, .int v2, .int v3, .int v4, .int v5, .null] [] h (QI z)) (v0 : Nat) (v1 : Int32) (v2 : Int32) (v3 : Int32) (v4 : Int32) (v5 : Int32) (h : aH) (hf : fX10_bestFirstTable_48 k25 v0 v1 v2 v3 v4 v5 h = some z) : Ev (d + 4) none mX10_bestFirstTable (0, 0) 48 [.ref v0, .int v1, .int v2, .int v3, .int v4, .int v5, .null] [] h (QI z) := 
  go_ok (X := none) (blk := wX10_bestFirstTable_48) (np := 52) (tt := 53) (kN := fun _ _ _ => none) (kT := fun xs h st => app [2, 1, 1, 1, 1, 1, 0] (fun v0 v1 v2 v3 v4 v5 => apS [1] (fun s0 => fX10_bestFirstTable_53 k25 v0 v1 v2 v3 v4 v5 s0 h) st) xs) (kR := kRI)
    (fun _ _ _ q => nos q)
    (fun xs h st q => jm [2, 1, 1, 1, 1, 1, 0] _ (fun v0 v1 v2 v3 v4 v5 q => apS_ok [1] _ (fun st => Ev (d + 4) none mX10_bestFirstTable (0, 0) 53 [.ref v0, .int v1, .int v2, .int v3, .int v4, .int v5, .null] st h (QI z)) st (fun s0 q => tX10_bestFirstTable_53 hk25 v0 v1 v2 v3 v4 v5 s0 h q) q) q)
    kRI_ok (Or.inr rfl) (by decide +kernel) (by decide +kernel) hf
def wX10_bestFirstTable_40 : List En := [(.iload 5, 0, 0, 0), (.iload_n 2, 0, 0, 0), (.iand, 0, 0, 0), (.iload_n 2, 0, 0, 0), (.if_icmp .ne 7, 52, 0, 0)]
def fX10_bestFirstTable_40 (k25 : Nat → Int32 → Int32 → Int32 → Int32 → Int32 → aH → Option (Int32 × aH)) (v0 : Nat) (v1 : Int32) (v2 : Int32) (v3 : Int32) (v4 : Int32) (v5 : Int32) (h : aH) : Option (Int32 × aH) :=
  if (v5 &&& v2) = v2 then fX10_bestFirstTable_48 k25 v0 v1 v2 v3 v4 v5 h else fX10_bestFirstTable_52 k25 v0 v1 v2 v3 v4 v5 h
theorem tX10_bestFirstTable_40 {d : Nat} {z : Int32 × aH} {k25 : Nat → Int32 → Int32 → Int32 → Int32 → Int32 → aH → Option (Int32 × aH)} (hk25 : ∀ (v0 : Nat) (v1 : Int32) (v2 : Int32) (v3 : Int32) (v4 : Int32) (v5 : Int32) (h : aH), k25 v0 v1 v2 v3 v4 v5 h = some z → Ev (d + 4) none mX10_bestFirstTable (0, 0) 25 [.ref v0, .int v1, .int v2, .int v3, .int v4, .int v5, .null] [] h (QI z)) (v0 : Nat) (v1 : Int32) (v2 : Int32) (v3 : Int32) (v4 : Int32) (v5 : Int32) (h : aH) (hf : fX10_bestFirstTable_40 k25 v0 v1 v2 v3 v4 v5 h = some z) : Ev (d + 4) none mX10_bestFirstTable (0, 0) 40 [.ref v0, .int v1, .int v2, .int v3, .int v4, .int v5, .null] [] h (QI z) := 
  go_ok (X := none) (blk := wX10_bestFirstTable_40) (np := 48) (tt := 52) (kN := fun xs h st => app [2, 1, 1, 1, 1, 1, 0] (fun v0 v1 v2 v3 v4 v5 => apS [] (fX10_bestFirstTable_48 k25 v0 v1 v2 v3 v4 v5 h) st) xs) (kT := fun xs h st => app [2, 1, 1, 1, 1, 1, 0] (fun v0 v1 v2 v3 v4 v5 => apS [] (fX10_bestFirstTable_52 k25 v0 v1 v2 v3 v4 v5 h) st) xs) (kR := kRI)
    (fun xs h st q => jm [2, 1, 1, 1, 1, 1, 0] _ (fun v0 v1 v2 v3 v4 v5 q => apS_ok [] _ (fun st => Ev (d + 4) none mX10_bestFirstTable (0, 0) 48 [.ref v0, .int v1, .int v2, .int v3, .int v4, .int v5, .null] st h (QI z)) st (fun q => tX10_bestFirstTable_48 hk25 v0 v1 v2 v3 v4 v5 h q) q) q)
    (fun xs h st q => jm [2, 1, 1, 1, 1, 1, 0] _ (fun v0 v1 v2 v3 v4 v5 q => apS_ok [] _ (fun st => Ev (d + 4) none mX10_bestFirstTable (0, 0) 52 [.ref v0, .int v1, .int v2, .int v3, .int v4, .int v5, .null] st h (QI z)) st (fun q => tX10_bestFirstTable_52 hk25 v0 v1 v2 v3 v4 v5 h q) q) q)
    kRI_ok (Or.inr rfl) (by decide +kernel) (by decide +kernel) hf
def wX10_bestFirstTable_31 : List En := [(.iload 5, 0, 0, 0), (.iload_n 1, 0, 0, 0), (.iconst (-1), 0, 0, 0), (.ixor, 0, 0, 0), (.iand, 0, 0, 0), (.ifCond .ne 15, 52, 0, 0)]
def fX10_bestFirstTable_31 (k25 : Nat → Int32 → Int32 → Int32 → Int32 → Int32 → aH → Option (Int32 × aH)) (v0 : Nat) (v1 : Int32) (v2 : Int32) (v3 : Int32) (v4 : Int32) (v5 : Int32) (h : aH) : Option (Int32 × aH) :=
  if (v5 &&& (v1 ^^^ (kI (-1)))) = 0 then fX10_bestFirstTable_40 k25 v0 v1 v2 v3 v4 v5 h else fX10_bestFirstTable_52 k25 v0 v1 v2 v3 v4 v5 h
theorem tX10_bestFirstTable_31 {d : Nat} {z : Int32 × aH} {k25 : Nat → Int32 → Int32 → Int32 → Int32 → Int32 → aH → Option (Int32 × aH)} (hk25 : ∀ (v0 : Nat) (v1 : Int32) (v2 : Int32) (v3 : Int32) (v4 : Int32) (v5 : Int32) (h : aH), k25 v0 v1 v2 v3 v4 v5 h = some z → Ev (d + 4) none mX10_bestFirstTable (0, 0) 25 [.ref v0, .int v1, .int v2, .int v3, .int v4, .int v5, .null] [] h (QI z)) (v0 : Nat) (v1 : Int32) (v2 : Int32) (v3 : Int32) (v4 : Int32) (v5 : Int32) (h : aH) (hf : fX10_bestFirstTable_31 k25 v0 v1 v2 v3 v4 v5 h = some z) : Ev (d + 4) none mX10_bestFirstTable (0, 0) 31 [.ref v0, .int v1, .int v2, .int v3, .int v4, .int v5, .null] [] h (QI z) := 
  go_ok (X := none) (blk := wX10_bestFirstTable_31) (np := 40) (tt := 52) (kN := fun xs h st => app [2, 1, 1, 1, 1, 1, 0] (fun v0 v1 v2 v3 v4 v5 => apS [] (fX10_bestFirstTable_40 k25 v0 v1 v2 v3 v4 v5 h) st) xs) (kT := fun xs h st => app [2, 1, 1, 1, 1, 1, 0] (fun v0 v1 v2 v3 v4 v5 => apS [] (fX10_bestFirstTable_52 k25 v0 v1 v2 v3 v4 v5 h) st) xs) (kR := kRI)
    (fun xs h st q => jm [2, 1, 1, 1, 1, 1, 0] _ (fun v0 v1 v2 v3 v4 v5 q => apS_ok [] _ (fun st => Ev (d + 4) none mX10_bestFirstTable (0, 0) 40 [.ref v0, .int v1, .int v2, .int v3, .int v4, .int v5, .null] st h (QI z)) st (fun q => tX10_bestFirstTable_40 hk25 v0 v1 v2 v3 v4 v5 h q) q) q)
    (fun xs h st q => jm [2, 1, 1, 1, 1, 1, 0] _ (fun v0 v1 v2 v3 v4 v5 q => apS_ok [] _ (fun st => Ev (d + 4) none mX10_bestFirstTable (0, 0) 52 [.ref v0, .int v1, .int v2, .int v3, .int v4, .int v5, .null] st h (QI z)) st (fun q => tX10_bestFirstTable_52 hk25 v0 v1 v2 v3 v4 v5 h q) q) q)
    kRI_ok (Or.inr rfl) (by decide +kernel) (by decide +kernel) hf
def wX10_bestFirstTable_25 : List En := [(.iload 5, 0, 0, 0), (.iload_n 1, 0, 0, 0), (.if_icmp .gt 60, 88, 0, 0)]
def fX10_bestFirstTable_25 (k25 : Nat → Int32 → Int32 → Int32 → Int32 → Int32 → aH → Option (Int32 × aH)) (v0 : Nat) (v1 : Int32) (v2 : Int32) (v3 : Int32) (v4 : Int32) (v5 : Int32) (h : aH) : Option (Int32 × aH) :=
  if v1 < v5 then fX10_bestFirstTable_88 v3 h else fX10_bestFirstTable_31 k25 v0 v1 v2 v3 v4 v5 h
theorem tX10_bestFirstTable_25 {d : Nat} {z : Int32 × aH} {k25 : Nat → Int32 → Int32 → Int32 → Int32 → Int32 → aH → Option (Int32 × aH)} (hk25 : ∀ (v0 : Nat) (v1 : Int32) (v2 : Int32) (v3 : Int32) (v4 : Int32) (v5 : Int32) (h : aH), k25 v0 v1 v2 v3 v4 v5 h = some z → Ev (d + 4) none mX10_bestFirstTable (0, 0) 25 [.ref v0, .int v1, .int v2, .int v3, .int v4, .int v5, .null] [] h (QI z)) (v0 : Nat) (v1 : Int32) (v2 : Int32) (v3 : Int32) (v4 : Int32) (v5 : Int32) (h : aH) (hf : fX10_bestFirstTable_25 k25 v0 v1 v2 v3 v4 v5 h = some z) : Ev (d + 4) none mX10_bestFirstTable (0, 0) 25 [.ref v0, .int v1, .int v2, .int v3, .int v4, .int v5, .null] [] h (QI z) := 
  go_ok (X := none) (blk := wX10_bestFirstTable_25) (np := 31) (tt := 88) (kN := fun xs h st => app [2, 1, 1, 1, 1, 1, 0] (fun v0 v1 v2 v3 v4 v5 => apS [] (fX10_bestFirstTable_31 k25 v0 v1 v2 v3 v4 v5 h) st) xs) (kT := fun xs h st => app [0, 0, 0, 1, 0, 0, 0] (fun v3 => apS [] (fX10_bestFirstTable_88 v3 h) st) xs) (kR := kRI)
    (fun xs h st q => jm [2, 1, 1, 1, 1, 1, 0] _ (fun v0 v1 v2 v3 v4 v5 q => apS_ok [] _ (fun st => Ev (d + 4) none mX10_bestFirstTable (0, 0) 31 [.ref v0, .int v1, .int v2, .int v3, .int v4, .int v5, .null] st h (QI z)) st (fun q => tX10_bestFirstTable_31 hk25 v0 v1 v2 v3 v4 v5 h q) q) q)
    (fun xs h st q => jm [0, 0, 0, 1, 0, 0, 0] _ (fun v3 q => apS_ok [] _ (fun st => Ev (d + 4) none mX10_bestFirstTable (0, 0) 88 [.null, .null, .null, .int v3, .null, .null, .null] st h (QI z)) st (fun q => tX10_bestFirstTable_88 v3 h q) q) q)
    kRI_ok (Or.inr rfl) (by decide +kernel) (by decide +kernel) hf
def lX10_bestFirstTable_25 : Nat → Nat → Int32 → Int32 → Int32 → Int32 → Int32 → aH → Option (Int32 × aH)
  | 0, _, _, _, _, _, _, _ => none
  | n + 1, v0, v1, v2, v3, v4, v5, h => fX10_bestFirstTable_25 (lX10_bestFirstTable_25 n) v0 v1 v2 v3 v4 v5 h
theorem uX10_bestFirstTable_25 {d : Nat} {z : Int32 × aH} : ∀ (n : Nat) (v0 : Nat) (v1 : Int32) (v2 : Int32) (v3 : Int32) (v4 : Int32) (v5 : Int32) (h : aH), lX10_bestFirstTable_25 n v0 v1 v2 v3 v4 v5 h = some z → Ev (d + 4) none mX10_bestFirstTable (0, 0) 25 [.ref v0, .int v1, .int v2, .int v3, .int v4, .int v5, .null] [] h (QI z) := by
  intro n
  induction n with
  | zero => intro _ _ _ _ _ _ _ q; exact nos (show (none : Option (Int32 × aH)) = some z from q)
  | succ n ih => intro v0 v1 v2 v3 v4 v5 h q; exact tX10_bestFirstTable_25 ih v0 v1 v2 v3 v4 v5 h q
def wX10_bestFirstTable_11 : List En := [(.istore_n 1, 0, 0, 0), (.iload_n 1, 0, 0, 0), (.iload_n 1, 0, 0, 0), (.ineg, 0, 0, 0), (.iand, 0, 0, 0), (.istore_n 2, 0, 0, 0), (.iconst 0, 0, 0, 0), (.istore_n 3, 0, 0, 0), (.iconst (-1), 0, 0, 0), (.istore 4, 0, 0, 0), (.iload_n 2, 0, 0, 0), (.istore 5, 0, 0, 0)]
def fX10_bestFirstTable_11 (v0 : Nat) (s0 : Int32) (h : aH) : Option (Int32 × aH) :=
  lX10_bestFirstTable_25 FU v0 s0 (s0 &&& (-s0)) (kI 0) (kI (-1)) (s0 &&& (-s0)) h
theorem tX10_bestFirstTable_11 {d : Nat} {z : Int32 × aH} (v0 : Nat) (s0 : Int32) (h : aH) (hf : fX10_bestFirstTable_11 v0 s0 h = some z) : Ev (d + 4) none mX10_bestFirstTable (0, 0) 11 [.ref v0, .null, .null, .null, .null, .null, .null] [.int s0] h (QI z) := 
  go_ok (X := none) (blk := wX10_bestFirstTable_11) (np := 25) (tt := 0) (kN := fun xs h st => app [2, 1, 1, 1, 1, 1, 0] (fun v0 v1 v2 v3 v4 v5 => apS [] (lX10_bestFirstTable_25 FU v0 v1 v2 v3 v4 v5 h) st) xs) (kT := fun _ _ _ => none) (kR := kRI)
    (fun xs h st q => jm [2, 1, 1, 1, 1, 1, 0] _ (fun v0 v1 v2 v3 v4 v5 q => apS_ok [] _ (fun st => Ev (d + 4) none mX10_bestFirstTable (0, 0) 25 [.ref v0, .int v1, .int v2, .int v3, .int v4, .int v5, .null] st h (QI z)) st (fun q => uX10_bestFirstTable_25 FU v0 v1 v2 v3 v4 v5 h q) q) q)
    (fun _ _ _ q => nos q)
    kRI_ok (Or.inr rfl) (by decide +kernel) (by decide +kernel) hf
theorem kqX10_bestFirstTable_8 : okC mX10_bestFirstTable 8 (.invokevirtual 211) 86 97 0 1 = true := by decide +kernel
def fX10_bestFirstTable_8 (v0 : Nat) (s0 : Nat) (s1 : Nat) (h : aH) : Option (Int32 × aH) :=
  (isO h 7 s1).bind fun _ =>
  (gX7_living s1 s0 h).bind fun r =>
  fX10_bestFirstTable_11 v0 r.1 r.2
theorem tX10_bestFirstTable_8 {d : Nat} {z : Int32 × aH} (v0 : Nat) (s0 : Nat) (s1 : Nat) (h : aH) (hf : fX10_bestFirstTable_8 v0 s0 s1 h = some z) : Ev (d + 4) none mX10_bestFirstTable (0, 0) 8 [.ref v0, .null, .null, .null, .null, .null, .null] [.ref s0, .ref s1] h (QI z) := by
  obtain ⟨_, h1, hf⟩ := bnd hf
  obtain ⟨fs, ho⟩ := isO_ok h1
  obtain ⟨r, h2, hf⟩ := bnd hf
  refine ev_V kqX10_bestFirstTable_8 jX7_living (zX7_living (d := d + 3) h2) ho rfl rfl (Nat.le_of_ble_eq_true rfl) rfl (as := [.ref s0]) (rest := []) rfl (Nat.le_of_ble_eq_true rfl) (fun _ _ hq => ?_)
  obtain ⟨rfl, rfl⟩ := hq
  exact jm [2, 0, 0, 0, 0, 0, 0] (fun v0 => fX10_bestFirstTable_11 v0 r.1 r.2) (fun v0 q => tX10_bestFirstTable_11 v0 r.1 r.2 q) hf
def wX10_bestFirstTable_0 : List En := [(.aload_n 0, 0, 0, 0), (.getfield 68, 170, 10, 8), (.aload_n 0, 0, 0, 0), (.getfield 75, 171, 10, 9)]
def fX10_bestFirstTable_0 (v0 : Nat) (h : aH) : Option (Int32 × aH) :=
  (gFR h 10 v0 8).bind fun t1 =>
  (gFR h 10 v0 9).bind fun t2 =>
  fX10_bestFirstTable_8 v0 t2 t1 h
theorem tX10_bestFirstTable_0 {d : Nat} {z : Int32 × aH} (v0 : Nat) (h : aH) (hf : fX10_bestFirstTable_0 v0 h = some z) : Ev (d + 4) none mX10_bestFirstTable (0, 0) 0 [.ref v0, .null, .null, .null, .null, .null, .null] [] h (QI z) := 
  go_ok (X := none) (blk := wX10_bestFirstTable_0) (np := 8) (tt := 0) (kN := fun xs h st => app [2, 0, 0, 0, 0, 0, 0] (fun v0 => apS [2, 2] (fun s0 s1 => fX10_bestFirstTable_8 v0 s0 s1 h) st) xs) (kT := fun _ _ _ => none) (kR := kRI)
    (fun xs h st q => jm [2, 0, 0, 0, 0, 0, 0] _ (fun v0 q => apS_ok [2, 2] _ (fun st => Ev (d + 4) none mX10_bestFirstTable (0, 0) 8 [.ref v0, .null, .null, .null, .null, .null, .null] st h (QI z)) st (fun s0 s1 q => tX10_bestFirstTable_8 v0 s0 s1 h q) q) q)
    (fun _ _ _ q => nos q)
    kRI_ok (Or.inr rfl) (by decide +kernel) (by decide +kernel) hf
def gX10_bestFirstTable (v0 : Nat) (h : aH) : Option (Int32 × aH) := fX10_bestFirstTable_0 v0 h
theorem zX10_bestFirstTable {d : Nat} {z : Int32 × aH} {v0 : Nat} {h : aH} (q : gX10_bestFirstTable v0 h = some z) : CT (d + 4) mX10_bestFirstTable (0, 0) [.ref v0] h (QI z) :=
  ct_ev (by decide +kernel) (Nat.le_of_ble_eq_true rfl) QI_r (jm [2, 0, 0, 0, 0, 0, 0] (fun v0 => fX10_bestFirstTable_0 v0 h) (fun v0 q => tX10_bestFirstTable_0 v0 h q) q)
def wX10_tables_21 : List En := [(.ireturn, 0, 0, 0)]
def fX10_tables_21 (s0 : Int32) (h : aH) : Option (Int32 × aH) :=
  some (s0, h)
theorem tX10_tables_21 {d : Nat} {z : Int32 × aH} (s0 : Int32) (h : aH) (hf : fX10_tables_21 s0 h = some z) : Ev (d + 5) none mX10_tables (0, 0) 21 [.null] [.int s0] h (QI z) := 
  go_ok (X := none) (blk := wX10_tables_21) (np := 22) (tt := 0) (kN := fun _ _ _ => none) (kT := fun _ _ _ => none) (kR := kRI)
    (fun _ _ _ q => nos q)
    (fun _ _ _ q => nos q)
    kRI_ok (Or.inr rfl) (by decide +kernel) (by decide +kernel) hf
theorem kqX10_tables_18 : okC mX10_tables 18 (.invokevirtual 119) 60 44 0 1 = true := by decide +kernel
def fX10_tables_18 (s0 : Int32) (s1 : Nat) (h : aH) : Option (Int32 × aH) :=
  (isO h 10 s1).bind fun _ =>
  (gX10_answer s1 s0 h).bind fun r =>
  fX10_tables_21 r.1 r.2
theorem tX10_tables_18 {d : Nat} {z : Int32 × aH} (s0 : Int32) (s1 : Nat) (h : aH) (hf : fX10_tables_18 s0 s1 h = some z) : Ev (d + 5) none mX10_tables (0, 0) 18 [.null] [.int s0, .ref s1] h (QI z) := by
  obtain ⟨_, h1, hf⟩ := bnd hf
  obtain ⟨fs, ho⟩ := isO_ok h1
  obtain ⟨r, h2, hf⟩ := bnd hf
  refine ev_V kqX10_tables_18 jX10_answer (zX10_answer (d := d + 4) h2) ho rfl rfl (Nat.le_of_ble_eq_true rfl) rfl (as := [.int s0]) (rest := []) rfl (Nat.le_of_ble_eq_true rfl) (fun _ _ hq => ?_)
  obtain ⟨rfl, rfl⟩ := hq
  exact jm [0] (fX10_tables_21 r.1 r.2) (fun q => tX10_tables_21 r.1 r.2 q) hf
theorem kqX10_tables_15 : okC mX10_tables 15 (.invokevirtual 260) 127 132 0 0 = true := by decide +kernel
def fX10_tables_15 (s0 : Nat) (s1 : Nat) (h : aH) : Option (Int32 × aH) :=
  (isO h 10 s0).bind fun _ =>
  (gX10_bestFirstTable s0 h).bind fun r =>
  fX10_tables_18 r.1 s1 r.2
theorem tX10_tables_15 {d : Nat} {z : Int32 × aH} (s0 : Nat) (s1 : Nat) (h : aH) (hf : fX10_tables_15 s0 s1 h = some z) : Ev (d + 5) none mX10_tables (0, 0) 15 [.null] [.ref s0, .ref s1] h (QI z) := by
  obtain ⟨_, h1, hf⟩ := bnd hf
  obtain ⟨fs, ho⟩ := isO_ok h1
  obtain ⟨r, h2, hf⟩ := bnd hf
  refine ev_V kqX10_tables_15 jX10_bestFirstTable (zX10_bestFirstTable (d := d + 0) h2) ho rfl rfl (Nat.le_of_ble_eq_true rfl) rfl (as := []) (rest := [.ref s1]) rfl (Nat.le_of_ble_eq_true rfl) (fun _ _ hq => ?_)
  obtain ⟨rfl, rfl⟩ := hq
  exact jm [0] (fX10_tables_18 r.1 s1 r.2) (fun q => tX10_tables_18 r.1 s1 r.2 q) hf
def wX10_tables_13 : List En := [(.aload_n 0, 0, 0, 0), (.aload_n 0, 0, 0, 0)]
def fX10_tables_13 (v0 : Nat) (h : aH) : Option (Int32 × aH) :=
  fX10_tables_15 v0 v0 h
theorem tX10_tables_13 {d : Nat} {z : Int32 × aH} (v0 : Nat) (h : aH) (hf : fX10_tables_13 v0 h = some z) : Ev (d + 5) none mX10_tables (0, 0) 13 [.ref v0] [] h (QI z) := 
  go_ok (X := none) (blk := wX10_tables_13) (np := 15) (tt := 0) (kN := fun xs h st => app [0] (apS [2, 2] (fun s0 s1 => fX10_tables_15 s0 s1 h) st) xs) (kT := fun _ _ _ => none) (kR := kRI)
    (fun xs h st q => jm [0] _ (fun q => apS_ok [2, 2] _ (fun st => Ev (d + 5) none mX10_tables (0, 0) 15 [.null] st h (QI z)) st (fun s0 s1 q => tX10_tables_15 s0 s1 h q) q) q)
    (fun _ _ _ q => nos q)
    kRI_ok (Or.inr rfl) (by decide +kernel) (by decide +kernel) hf
def wX10_tables_12 : List En := [(.ireturn, 0, 0, 0)]
def fX10_tables_12 (s0 : Int32) (h : aH) : Option (Int32 × aH) :=
  some (s0, h)
theorem tX10_tables_12 {d : Nat} {z : Int32 × aH} (s0 : Int32) (h : aH) (hf : fX10_tables_12 s0 h = some z) : Ev (d + 5) none mX10_tables (0, 0) 12 [.null] [.int s0] h (QI z) := 
  go_ok (X := none) (blk := wX10_tables_12) (np := 13) (tt := 0) (kN := fun _ _ _ => none) (kT := fun _ _ _ => none) (kR := kRI)
    (fun _ _ _ q => nos q)
    (fun _ _ _ q => nos q)
    kRI_ok (Or.inr rfl) (by decide +kernel) (by decide +kernel) hf
theorem kqX10_tables_9 : okC mX10_tables 9 (.invokevirtual 94) 15 8 0 1 = true := by decide +kernel
def fX10_tables_9 (s0 : Int32) (s1 : Nat) (h : aH) : Option (Int32 × aH) :=
  (isO h 10 s1).bind fun _ =>
  (gX10_refuse s1 s0 h).bind fun r =>
  fX10_tables_12 r.1 r.2
theorem tX10_tables_9 {d : Nat} {z : Int32 × aH} (s0 : Int32) (s1 : Nat) (h : aH) (hf : fX10_tables_9 s0 s1 h = some z) : Ev (d + 5) none mX10_tables (0, 0) 9 [.null] [.int s0, .ref s1] h (QI z) := by
  obtain ⟨_, h1, hf⟩ := bnd hf
  obtain ⟨fs, ho⟩ := isO_ok h1
  obtain ⟨r, h2, hf⟩ := bnd hf
  refine ev_V kqX10_tables_9 jX10_refuse (zX10_refuse (d := d + 4) h2) ho rfl rfl (Nat.le_of_ble_eq_true rfl) rfl (as := [.int s0]) (rest := []) rfl (Nat.le_of_ble_eq_true rfl) (fun _ _ hq => ?_)
  obtain ⟨rfl, rfl⟩ := hq
  exact jm [0] (fX10_tables_12 r.1 r.2) (fun q => tX10_tables_12 r.1 r.2 q) hf
def wX10_tables_7 : List En := [(.aload_n 0, 0, 0, 0), (.iconst 1, 0, 0, 0)]
def fX10_tables_7 (v0 : Nat) (h : aH) : Option (Int32 × aH) :=
  fX10_tables_9 (kI 1) v0 h
theorem tX10_tables_7 {d : Nat} {z : Int32 × aH} (v0 : Nat) (h : aH) (hf : fX10_tables_7 v0 h = some z) : Ev (d + 5) none mX10_tables (0, 0) 7 [.ref v0] [] h (QI z) := 
  go_ok (X := none) (blk := wX10_tables_7) (np := 9) (tt := 0) (kN := fun xs h st => app [0] (apS [1, 2] (fun s0 s1 => fX10_tables_9 s0 s1 h) st) xs) (kT := fun _ _ _ => none) (kR := kRI)
    (fun xs h st q => jm [0] _ (fun q => apS_ok [1, 2] _ (fun st => Ev (d + 5) none mX10_tables (0, 0) 9 [.null] st h (QI z)) st (fun s0 s1 q => tX10_tables_9 s0 s1 h q) q) q)
    (fun _ _ _ q => nos q)
    kRI_ok (Or.inr rfl) (by decide +kernel) (by decide +kernel) hf
def wX10_tables_4 : List En := [(.ifCond .eq 9, 13, 0, 0)]
def fX10_tables_4 (v0 : Nat) (s0 : Int32) (h : aH) : Option (Int32 × aH) :=
  if s0 = 0 then fX10_tables_13 v0 h else fX10_tables_7 v0 h
theorem tX10_tables_4 {d : Nat} {z : Int32 × aH} (v0 : Nat) (s0 : Int32) (h : aH) (hf : fX10_tables_4 v0 s0 h = some z) : Ev (d + 5) none mX10_tables (0, 0) 4 [.ref v0] [.int s0] h (QI z) := 
  go_ok (X := none) (blk := wX10_tables_4) (np := 7) (tt := 13) (kN := fun xs h st => app [2] (fun v0 => apS [] (fX10_tables_7 v0 h) st) xs) (kT := fun xs h st => app [2] (fun v0 => apS [] (fX10_tables_13 v0 h) st) xs) (kR := kRI)
    (fun xs h st q => jm [2] _ (fun v0 q => apS_ok [] _ (fun st => Ev (d + 5) none mX10_tables (0, 0) 7 [.ref v0] st h (QI z)) st (fun q => tX10_tables_7 v0 h q) q) q)
    (fun xs h st q => jm [2] _ (fun v0 q => apS_ok [] _ (fun st => Ev (d + 5) none mX10_tables (0, 0) 13 [.ref v0] st h (QI z)) st (fun q => tX10_tables_13 v0 h q) q) q)
    kRI_ok (Or.inr rfl) (by decide +kernel) (by decide +kernel) hf
theorem kqX10_tables_1 : okC mX10_tables 1 (.invokevirtual 159) 68 52 0 0 = true := by decide +kernel
def fX10_tables_1 (v0 : Nat) (s0 : Nat) (h : aH) : Option (Int32 × aH) :=
  (isO h 10 s0).bind fun _ =>
  (gX10_lacksTable s0 h).bind fun r =>
  fX10_tables_4 v0 r.1 r.2
theorem tX10_tables_1 {d : Nat} {z : Int32 × aH} (v0 : Nat) (s0 : Nat) (h : aH) (hf : fX10_tables_1 v0 s0 h = some z) : Ev (d + 5) none mX10_tables (0, 0) 1 [.ref v0] [.ref s0] h (QI z) := by
  obtain ⟨_, h1, hf⟩ := bnd hf
  obtain ⟨fs, ho⟩ := isO_ok h1
  obtain ⟨r, h2, hf⟩ := bnd hf
  refine ev_V kqX10_tables_1 jX10_lacksTable (zX10_lacksTable (d := d + 4) h2) ho rfl rfl (Nat.le_of_ble_eq_true rfl) rfl (as := []) (rest := []) rfl (Nat.le_of_ble_eq_true rfl) (fun _ _ hq => ?_)
  obtain ⟨-, rfl, rfl⟩ := hq
  exact jm [2] (fun v0 => fX10_tables_4 v0 r.1 r.2) (fun v0 q => tX10_tables_4 v0 r.1 r.2 q) hf
def wX10_tables_0 : List En := [(.aload_n 0, 0, 0, 0)]
def fX10_tables_0 (v0 : Nat) (h : aH) : Option (Int32 × aH) :=
  fX10_tables_1 v0 v0 h
theorem tX10_tables_0 {d : Nat} {z : Int32 × aH} (v0 : Nat) (h : aH) (hf : fX10_tables_0 v0 h = some z) : Ev (d + 5) none mX10_tables (0, 0) 0 [.ref v0] [] h (QI z) := 
  go_ok (X := none) (blk := wX10_tables_0) (np := 1) (tt := 0) (kN := fun xs h st => app [2] (fun v0 => apS [2] (fun s0 => fX10_tables_1 v0 s0 h) st) xs) (kT := fun _ _ _ => none) (kR := kRI)
    (fun xs h st q => jm [2] _ (fun v0 q => apS_ok [2] _ (fun st => Ev (d + 5) none mX10_tables (0, 0) 1 [.ref v0] st h (QI z)) st (fun s0 q => tX10_tables_1 v0 s0 h q) q) q)
    (fun _ _ _ q => nos q)
    kRI_ok (Or.inr rfl) (by decide +kernel) (by decide +kernel) hf
def gX10_tables (v0 : Nat) (h : aH) : Option (Int32 × aH) := fX10_tables_0 v0 h
theorem zX10_tables {d : Nat} {z : Int32 × aH} {v0 : Nat} {h : aH} (q : gX10_tables v0 h = some z) : CT (d + 5) mX10_tables (0, 0) [.ref v0] h (QI z) :=
  ct_ev (by decide +kernel) (Nat.le_of_ble_eq_true rfl) QI_r (jm [2] (fun v0 => fX10_tables_0 v0 h) (fun v0 q => tX10_tables_0 v0 h q) q)
def wX10_tablesWorth_25 : List En := [(.ireturn, 0, 0, 0)]
def fX10_tablesWorth_25 (s0 : Int32) (h : aH) : Option (Int32 × aH) :=
  some (s0, h)
theorem tX10_tablesWorth_25 {d : Nat} {z : Int32 × aH} (s0 : Int32) (h : aH) (hf : fX10_tablesWorth_25 s0 h = some z) : Ev (d + 5) none mX10_tablesWorth (0, 0) 25 [.null] [.int s0] h (QI z) := 
  go_ok (X := none) (blk := wX10_tablesWorth_25) (np := 26) (tt := 0) (kN := fun _ _ _ => none) (kT := fun _ _ _ => none) (kR := kRI)
    (fun _ _ _ q => nos q)
    (fun _ _ _ q => nos q)
    kRI_ok (Or.inr rfl) (by decide +kernel) (by decide +kernel) hf
theorem kqX10_tablesWorth_22 : okC mX10_tablesWorth 22 (.invokevirtual 119) 60 44 0 1 = true := by decide +kernel
def fX10_tablesWorth_22 (s0 : Int32) (s1 : Nat) (h : aH) : Option (Int32 × aH) :=
  (isO h 10 s1).bind fun _ =>
  (gX10_answer s1 s0 h).bind fun r =>
  fX10_tablesWorth_25 r.1 r.2
theorem tX10_tablesWorth_22 {d : Nat} {z : Int32 × aH} (s0 : Int32) (s1 : Nat) (h : aH) (hf : fX10_tablesWorth_22 s0 s1 h = some z) : Ev (d + 5) none mX10_tablesWorth (0, 0) 22 [.null] [.int s0, .ref s1] h (QI z) := by
  obtain ⟨_, h1, hf⟩ := bnd hf
  obtain ⟨fs, ho⟩ := isO_ok h1
  obtain ⟨r, h2, hf⟩ := bnd hf
  refine ev_V kqX10_tablesWorth_22 jX10_answer (zX10_answer (d := d + 4) h2) ho rfl rfl (Nat.le_of_ble_eq_true rfl) rfl (as := [.int s0]) (rest := []) rfl (Nat.le_of_ble_eq_true rfl) (fun _ _ hq => ?_)
  obtain ⟨rfl, rfl⟩ := hq
  exact jm [0] (fX10_tablesWorth_25 r.1 r.2) (fun q => tX10_tablesWorth_25 r.1 r.2 q) hf
theorem kqX10_tablesWorth_19 : okC mX10_tablesWorth 19 (.invokevirtual 263) 128 133 0 1 = true := by decide +kernel
def fX10_tablesWorth_19 (s0 : Int32) (s1 : Nat) (s2 : Nat) (h : aH) : Option (Int32 × aH) :=
  (isO h 10 s1).bind fun _ =>
  (gX10_worthOfTables s1 s0 h).bind fun r =>
  fX10_tablesWorth_22 r.1 s2 r.2
theorem tX10_tablesWorth_19 {d : Nat} {z : Int32 × aH} (s0 : Int32) (s1 : Nat) (s2 : Nat) (h : aH) (hf : fX10_tablesWorth_19 s0 s1 s2 h = some z) : Ev (d + 5) none mX10_tablesWorth (0, 0) 19 [.null] [.int s0, .ref s1, .ref s2] h (QI z) := by
  obtain ⟨_, h1, hf⟩ := bnd hf
  obtain ⟨fs, ho⟩ := isO_ok h1
  obtain ⟨r, h2, hf⟩ := bnd hf
  refine ev_V kqX10_tablesWorth_19 jX10_worthOfTables (zX10_worthOfTables (d := d + 1) h2) ho rfl rfl (Nat.le_of_ble_eq_true rfl) rfl (as := [.int s0]) (rest := [.ref s2]) rfl (Nat.le_of_ble_eq_true rfl) (fun _ _ hq => ?_)
  obtain ⟨rfl, rfl⟩ := hq
  exact jm [0] (fX10_tablesWorth_22 r.1 s2 r.2) (fun q => tX10_tablesWorth_22 r.1 s2 r.2 q) hf
theorem kqX10_tablesWorth_16 : okC mX10_tablesWorth 16 (.invokevirtual 260) 127 132 0 0 = true := by decide +kernel
def fX10_tablesWorth_16 (s0 : Nat) (s1 : Nat) (s2 : Nat) (h : aH) : Option (Int32 × aH) :=
  (isO h 10 s0).bind fun _ =>
  (gX10_bestFirstTable s0 h).bind fun r =>
  fX10_tablesWorth_19 r.1 s1 s2 r.2
theorem tX10_tablesWorth_16 {d : Nat} {z : Int32 × aH} (s0 : Nat) (s1 : Nat) (s2 : Nat) (h : aH) (hf : fX10_tablesWorth_16 s0 s1 s2 h = some z) : Ev (d + 5) none mX10_tablesWorth (0, 0) 16 [.null] [.ref s0, .ref s1, .ref s2] h (QI z) := by
  obtain ⟨_, h1, hf⟩ := bnd hf
  obtain ⟨fs, ho⟩ := isO_ok h1
  obtain ⟨r, h2, hf⟩ := bnd hf
  refine ev_V kqX10_tablesWorth_16 jX10_bestFirstTable (zX10_bestFirstTable (d := d + 0) h2) ho rfl rfl (Nat.le_of_ble_eq_true rfl) rfl (as := []) (rest := [.ref s1, .ref s2]) rfl (Nat.le_of_ble_eq_true rfl) (fun _ _ hq => ?_)
  obtain ⟨rfl, rfl⟩ := hq
  exact jm [0] (fX10_tablesWorth_19 r.1 s1 s2 r.2) (fun q => tX10_tablesWorth_19 r.1 s1 s2 r.2 q) hf
def wX10_tablesWorth_13 : List En := [(.aload_n 0, 0, 0, 0), (.aload_n 0, 0, 0, 0), (.aload_n 0, 0, 0, 0)]
def fX10_tablesWorth_13 (v0 : Nat) (h : aH) : Option (Int32 × aH) :=
  fX10_tablesWorth_16 v0 v0 v0 h
theorem tX10_tablesWorth_13 {d : Nat} {z : Int32 × aH} (v0 : Nat) (h : aH) (hf : fX10_tablesWorth_13 v0 h = some z) : Ev (d + 5) none mX10_tablesWorth (0, 0) 13 [.ref v0] [] h (QI z) := 
  go_ok (X := none) (blk := wX10_tablesWorth_13) (np := 16) (tt := 0) (kN := fun xs h st => app [0] (apS [2, 2, 2] (fun s0 s1 s2 => fX10_tablesWorth_16 s0 s1 s2 h) st) xs) (kT := fun _ _ _ => none) (kR := kRI)
    (fun xs h st q => jm [0] _ (fun q => apS_ok [2, 2, 2] _ (fun st => Ev (d + 5) none mX10_tablesWorth (0, 0) 16 [.null] st h (QI z)) st (fun s0 s1 s2 q => tX10_tablesWorth_16 s0 s1 s2 h q) q) q)
    (fun _ _ _ q => nos q)
    kRI_ok (Or.inr rfl) (by decide +kernel) (by decide +kernel) hf
def wX10_tablesWorth_12 : List En := [(.ireturn, 0, 0, 0)]
def fX10_tablesWorth_12 (s0 : Int32) (h : aH) : Option (Int32 × aH) :=
  some (s0, h)
theorem tX10_tablesWorth_12 {d : Nat} {z : Int32 × aH} (s0 : Int32) (h : aH) (hf : fX10_tablesWorth_12 s0 h = some z) : Ev (d + 5) none mX10_tablesWorth (0, 0) 12 [.null] [.int s0] h (QI z) := 
  go_ok (X := none) (blk := wX10_tablesWorth_12) (np := 13) (tt := 0) (kN := fun _ _ _ => none) (kT := fun _ _ _ => none) (kR := kRI)
    (fun _ _ _ q => nos q)
    (fun _ _ _ q => nos q)
    kRI_ok (Or.inr rfl) (by decide +kernel) (by decide +kernel) hf
theorem kqX10_tablesWorth_9 : okC mX10_tablesWorth 9 (.invokevirtual 94) 15 8 0 1 = true := by decide +kernel
def fX10_tablesWorth_9 (s0 : Int32) (s1 : Nat) (h : aH) : Option (Int32 × aH) :=
  (isO h 10 s1).bind fun _ =>
  (gX10_refuse s1 s0 h).bind fun r =>
  fX10_tablesWorth_12 r.1 r.2
theorem tX10_tablesWorth_9 {d : Nat} {z : Int32 × aH} (s0 : Int32) (s1 : Nat) (h : aH) (hf : fX10_tablesWorth_9 s0 s1 h = some z) : Ev (d + 5) none mX10_tablesWorth (0, 0) 9 [.null] [.int s0, .ref s1] h (QI z) := by
  obtain ⟨_, h1, hf⟩ := bnd hf
  obtain ⟨fs, ho⟩ := isO_ok h1
  obtain ⟨r, h2, hf⟩ := bnd hf
  refine ev_V kqX10_tablesWorth_9 jX10_refuse (zX10_refuse (d := d + 4) h2) ho rfl rfl (Nat.le_of_ble_eq_true rfl) rfl (as := [.int s0]) (rest := []) rfl (Nat.le_of_ble_eq_true rfl) (fun _ _ hq => ?_)
  obtain ⟨rfl, rfl⟩ := hq
  exact jm [0] (fX10_tablesWorth_12 r.1 r.2) (fun q => tX10_tablesWorth_12 r.1 r.2 q) hf
def wX10_tablesWorth_7 : List En := [(.aload_n 0, 0, 0, 0), (.iconst 1, 0, 0, 0)]
def fX10_tablesWorth_7 (v0 : Nat) (h : aH) : Option (Int32 × aH) :=
  fX10_tablesWorth_9 (kI 1) v0 h
theorem tX10_tablesWorth_7 {d : Nat} {z : Int32 × aH} (v0 : Nat) (h : aH) (hf : fX10_tablesWorth_7 v0 h = some z) : Ev (d + 5) none mX10_tablesWorth (0, 0) 7 [.ref v0] [] h (QI z) := 
  go_ok (X := none) (blk := wX10_tablesWorth_7) (np := 9) (tt := 0) (kN := fun xs h st => app [0] (apS [1, 2] (fun s0 s1 => fX10_tablesWorth_9 s0 s1 h) st) xs) (kT := fun _ _ _ => none) (kR := kRI)
    (fun xs h st q => jm [0] _ (fun q => apS_ok [1, 2] _ (fun st => Ev (d + 5) none mX10_tablesWorth (0, 0) 9 [.null] st h (QI z)) st (fun s0 s1 q => tX10_tablesWorth_9 s0 s1 h q) q) q)
    (fun _ _ _ q => nos q)
    kRI_ok (Or.inr rfl) (by decide +kernel) (by decide +kernel) hf
def wX10_tablesWorth_4 : List En := [(.ifCond .eq 9, 13, 0, 0)]
def fX10_tablesWorth_4 (v0 : Nat) (s0 : Int32) (h : aH) : Option (Int32 × aH) :=
  if s0 = 0 then fX10_tablesWorth_13 v0 h else fX10_tablesWorth_7 v0 h
theorem tX10_tablesWorth_4 {d : Nat} {z : Int32 × aH} (v0 : Nat) (s0 : Int32) (h : aH) (hf : fX10_tablesWorth_4 v0 s0 h = some z) : Ev (d + 5) none mX10_tablesWorth (0, 0) 4 [.ref v0] [.int s0] h (QI z) := 
  go_ok (X := none) (blk := wX10_tablesWorth_4) (np := 7) (tt := 13) (kN := fun xs h st => app [2] (fun v0 => apS [] (fX10_tablesWorth_7 v0 h) st) xs) (kT := fun xs h st => app [2] (fun v0 => apS [] (fX10_tablesWorth_13 v0 h) st) xs) (kR := kRI)
    (fun xs h st q => jm [2] _ (fun v0 q => apS_ok [] _ (fun st => Ev (d + 5) none mX10_tablesWorth (0, 0) 7 [.ref v0] st h (QI z)) st (fun q => tX10_tablesWorth_7 v0 h q) q) q)
    (fun xs h st q => jm [2] _ (fun v0 q => apS_ok [] _ (fun st => Ev (d + 5) none mX10_tablesWorth (0, 0) 13 [.ref v0] st h (QI z)) st (fun q => tX10_tablesWorth_13 v0 h q) q) q)
    kRI_ok (Or.inr rfl) (by decide +kernel) (by decide +kernel) hf
theorem kqX10_tablesWorth_1 : okC mX10_tablesWorth 1 (.invokevirtual 159) 68 52 0 0 = true := by decide +kernel
def fX10_tablesWorth_1 (v0 : Nat) (s0 : Nat) (h : aH) : Option (Int32 × aH) :=
  (isO h 10 s0).bind fun _ =>
  (gX10_lacksTable s0 h).bind fun r =>
  fX10_tablesWorth_4 v0 r.1 r.2
theorem tX10_tablesWorth_1 {d : Nat} {z : Int32 × aH} (v0 : Nat) (s0 : Nat) (h : aH) (hf : fX10_tablesWorth_1 v0 s0 h = some z) : Ev (d + 5) none mX10_tablesWorth (0, 0) 1 [.ref v0] [.ref s0] h (QI z) := by
  obtain ⟨_, h1, hf⟩ := bnd hf
  obtain ⟨fs, ho⟩ := isO_ok h1
  obtain ⟨r, h2, hf⟩ := bnd hf
  refine ev_V kqX10_tablesWorth_1 jX10_lacksTable (zX10_lacksTable (d := d + 4) h2) ho rfl rfl (Nat.le_of_ble_eq_true rfl) rfl (as := []) (rest := []) rfl (Nat.le_of_ble_eq_true rfl) (fun _ _ hq => ?_)
  obtain ⟨-, rfl, rfl⟩ := hq
  exact jm [2] (fun v0 => fX10_tablesWorth_4 v0 r.1 r.2) (fun v0 q => tX10_tablesWorth_4 v0 r.1 r.2 q) hf
def wX10_tablesWorth_0 : List En := [(.aload_n 0, 0, 0, 0)]
def fX10_tablesWorth_0 (v0 : Nat) (h : aH) : Option (Int32 × aH) :=
  fX10_tablesWorth_1 v0 v0 h
theorem tX10_tablesWorth_0 {d : Nat} {z : Int32 × aH} (v0 : Nat) (h : aH) (hf : fX10_tablesWorth_0 v0 h = some z) : Ev (d + 5) none mX10_tablesWorth (0, 0) 0 [.ref v0] [] h (QI z) := 
  go_ok (X := none) (blk := wX10_tablesWorth_0) (np := 1) (tt := 0) (kN := fun xs h st => app [2] (fun v0 => apS [2] (fun s0 => fX10_tablesWorth_1 v0 s0 h) st) xs) (kT := fun _ _ _ => none) (kR := kRI)
    (fun xs h st q => jm [2] _ (fun v0 q => apS_ok [2] _ (fun st => Ev (d + 5) none mX10_tablesWorth (0, 0) 1 [.ref v0] st h (QI z)) st (fun s0 q => tX10_tablesWorth_1 v0 s0 h q) q) q)
    (fun _ _ _ q => nos q)
    kRI_ok (Or.inr rfl) (by decide +kernel) (by decide +kernel) hf
def gX10_tablesWorth (v0 : Nat) (h : aH) : Option (Int32 × aH) := fX10_tablesWorth_0 v0 h
theorem zX10_tablesWorth {d : Nat} {z : Int32 × aH} {v0 : Nat} {h : aH} (q : gX10_tablesWorth v0 h = some z) : CT (d + 5) mX10_tablesWorth (0, 0) [.ref v0] h (QI z) :=
  ct_ev (by decide +kernel) (Nat.le_of_ble_eq_true rfl) QI_r (jm [2] (fun v0 => fX10_tablesWorth_0 v0 h) (fun v0 q => tX10_tablesWorth_0 v0 h q) q)
def wX10_bowlKeepsAll_81 : List En := [(.ireturn, 0, 0, 0)]
def fX10_bowlKeepsAll_81 (s0 : Int32) (h : aH) : Option (Int32 × aH) :=
  if s0 = 0 ∨ s0 = 1 then some (s0, h) else none
theorem tX10_bowlKeepsAll_81 {d : Nat} {z : Int32 × aH} (s0 : Int32) (h : aH) (hf : fX10_bowlKeepsAll_81 s0 h = some z) : Ev (d + 4) none mX10_bowlKeepsAll (0, 0) 81 [.null, .null, .null, .null] [.int s0] h (QZ z) := 
  go_ok (X := none) (blk := wX10_bowlKeepsAll_81) (np := 82) (tt := 0) (kN := fun _ _ _ => none) (kT := fun _ _ _ => none) (kR := kRZ)
    (fun _ _ _ q => nos q)
    (fun _ _ _ q => nos q)
    kRZ_ok (Or.inr rfl) (by decide +kernel) (by decide +kernel) hf
def wX10_bowlKeepsAll_80 : List En := [(.iconst 0, 0, 0, 0)]
def fX10_bowlKeepsAll_80 (h : aH) : Option (Int32 × aH) :=
  fX10_bowlKeepsAll_81 (kI 0) h
theorem tX10_bowlKeepsAll_80 {d : Nat} {z : Int32 × aH} (h : aH) (hf : fX10_bowlKeepsAll_80 h = some z) : Ev (d + 4) none mX10_bowlKeepsAll (0, 0) 80 [.null, .null, .null, .null] [] h (QZ z) := 
  go_ok (X := none) (blk := wX10_bowlKeepsAll_80) (np := 81) (tt := 0) (kN := fun xs h st => app [0, 0, 0, 0] (apS [1] (fun s0 => fX10_bowlKeepsAll_81 s0 h) st) xs) (kT := fun _ _ _ => none) (kR := kRZ)
    (fun xs h st q => jm [0, 0, 0, 0] _ (fun q => apS_ok [1] _ (fun st => Ev (d + 4) none mX10_bowlKeepsAll (0, 0) 81 [.null, .null, .null, .null] st h (QZ z)) st (fun s0 q => tX10_bowlKeepsAll_81 s0 h q) q) q)
    (fun _ _ _ q => nos q)
    kRZ_ok (Or.inr rfl) (by decide +kernel) (by decide +kernel) hf
def wX10_bowlKeepsAll_76 : List En := [(.iconst 1, 0, 0, 0), (.goto 4, 81, 0, 0)]
def fX10_bowlKeepsAll_76 (h : aH) : Option (Int32 × aH) :=
  fX10_bowlKeepsAll_81 (kI 1) h
theorem tX10_bowlKeepsAll_76 {d : Nat} {z : Int32 × aH} (h : aH) (hf : fX10_bowlKeepsAll_76 h = some z) : Ev (d + 4) none mX10_bowlKeepsAll (0, 0) 76 [.null, .null, .null, .null] [] h (QZ z) := 
  go_ok (X := none) (blk := wX10_bowlKeepsAll_76) (np := 80) (tt := 81) (kN := fun _ _ _ => none) (kT := fun xs h st => app [0, 0, 0, 0] (apS [1] (fun s0 => fX10_bowlKeepsAll_81 s0 h) st) xs) (kR := kRZ)
    (fun _ _ _ q => nos q)
    (fun xs h st q => jm [0, 0, 0, 0] _ (fun q => apS_ok [1] _ (fun st => Ev (d + 4) none mX10_bowlKeepsAll (0, 0) 81 [.null, .null, .null, .null] st h (QZ z)) st (fun s0 q => tX10_bowlKeepsAll_81 s0 h q) q) q)
    kRZ_ok (Or.inr rfl) (by decide +kernel) (by decide +kernel) hf
def wX10_bowlKeepsAll_56 : List En := [(.aload_n 0, 0, 0, 0), (.getfield 19, 163, 10, 1), (.getfield 208, 48, 1, 0), (.getfield 144, 28, 7, 3), (.aload_n 0, 0, 0, 0), (.getfield 68, 170, 10, 8), (.getfield 144, 28, 7, 3), (.if_icmp .ne 7, 80, 0, 0)]
def fX10_bowlKeepsAll_56 (v0 : Nat) (h : aH) : Option (Int32 × aH) :=
  (gFR h 10 v0 1).bind fun t1 =>
  (gFR h 1 t1 0).bind fun t2 =>
  (gFI h 7 t2 3).bind fun t3 =>
  (gFR h 10 v0 8).bind fun t4 =>
  (gFI h 7 t4 3).bind fun t5 =>
  if t3 = t5 then fX10_bowlKeepsAll_76 h else fX10_bowlKeepsAll_80 h
theorem tX10_bowlKeepsAll_56 {d : Nat} {z : Int32 × aH} (v0 : Nat) (h : aH) (hf : fX10_bowlKeepsAll_56 v0 h = some z) : Ev (d + 4) none mX10_bowlKeepsAll (0, 0) 56 [.ref v0, .null, .null, .null] [] h (QZ z) := 
  go_ok (X := none) (blk := wX10_bowlKeepsAll_56) (np := 76) (tt := 80) (kN := fun xs h st => app [0, 0, 0, 0] (apS [] (fX10_bowlKeepsAll_76 h) st) xs) (kT := fun xs h st => app [0, 0, 0, 0] (apS [] (fX10_bowlKeepsAll_80 h) st) xs) (kR := kRZ)
    (fun xs h st q => jm [0, 0, 0, 0] _ (fun q => apS_ok [] _ (fun st => Ev (d + 4) none mX10_bowlKeepsAll (0, 0) 76 [.null, .null, .null, .null] st h (QZ z)) st (fun q => tX10_bowlKeepsAll_76 h q) q) q)
    (fun xs h st q => jm [0, 0, 0, 0] _ (fun q => apS_ok [] _ (fun st => Ev (d + 4) none mX10_bowlKeepsAll (0, 0) 80 [.null, .null, .null, .null] st h (QZ z)) st (fun q => tX10_bowlKeepsAll_80 h q) q) q)
    kRZ_ok (Or.inr rfl) (by decide +kernel) (by decide +kernel) hf
def wX10_bowlKeepsAll_50 : List En := [(.iinc 3 1, 0, 0, 0), (.goto (-40), 13, 0, 0)]
def fX10_bowlKeepsAll_50 (k13 : Nat → Int32 → Int32 → Int32 → aH → Option (Int32 × aH)) (v0 : Nat) (v1 : Int32) (v2 : Int32) (v3 : Int32) (h : aH) : Option (Int32 × aH) :=
  k13 v0 v1 v2 (v3 + kI 1) h
theorem tX10_bowlKeepsAll_50 {d : Nat} {z : Int32 × aH} {k13 : Nat → Int32 → Int32 → Int32 → aH → Option (Int32 × aH)} (hk13 : ∀ (v0 : Nat) (v1 : Int32) (v2 : Int32) (v3 : Int32) (h : aH), k13 v0 v1 v2 v3 h = some z → Ev (d + 4) none mX10_bowlKeepsAll (0, 0) 13 [.ref v0, .int v1, .int v2, .int v3] [] h (QZ z)) (v0 : Nat) (v1 : Int32) (v2 : Int32) (v3 : Int32) (h : aH) (hf : fX10_bowlKeepsAll_50 k13 v0 v1 v2 v3 h = some z) : Ev (d + 4) none mX10_bowlKeepsAll (0, 0) 50 [.ref v0, .int v1, .int v2, .int v3] [] h (QZ z) := 
  go_ok (X := none) (blk := wX10_bowlKeepsAll_50) (np := 56) (tt := 13) (kN := fun _ _ _ => none) (kT := fun xs h st => app [2, 1, 1, 1] (fun v0 v1 v2 v3 => apS [] (k13 v0 v1 v2 v3 h) st) xs) (kR := kRZ)
    (fun _ _ _ q => nos q)
    (fun xs h st q => jm [2, 1, 1, 1] _ (fun v0 v1 v2 v3 q => apS_ok [] _ (fun st => Ev (d + 4) none mX10_bowlKeepsAll (0, 0) 13 [.ref v0, .int v1, .int v2, .int v3] st h (QZ z)) st (fun q => hk13 v0 v1 v2 v3 h q) q) q)
    kRZ_ok (Or.inr rfl) (by decide +kernel) (by decide +kernel) hf
theorem kqX10_bowlKeepsAll_47 : okC mX10_bowlKeepsAll 47 (.invokevirtual 228) 82 105 0 2 = true := by decide +kernel
def fX10_bowlKeepsAll_47 (k13 : Nat → Int32 → Int32 → Int32 → aH → Option (Int32 × aH)) (v0 : Nat) (v1 : Int32) (v2 : Int32) (v3 : Int32) (s0 : Int32) (s1 : Nat) (s2 : Nat) (h : aH) : Option (Int32 × aH) :=
  (isO h 1 s2).bind fun _ =>
  (gX1_pass s2 s1 s0 h).bind fun r =>
  fX10_bowlKeepsAll_50 k13 v0 v1 v2 v3 r
theorem tX10_bowlKeepsAll_47 {d : Nat} {z : Int32 × aH} {k13 : Nat → Int32 → Int32 → Int32 → aH → Option (Int32 × aH)} (hk13 : ∀ (v0 : Nat) (v1 : Int32) (v2 : Int32) (v3 : Int32) (h : aH), k13 v0 v1 v2 v3 h = some z → Ev (d + 4) none mX10_bowlKeepsAll (0, 0) 13 [.ref v0, .int v1, .int v2, .int v3] [] h (QZ z)) (v0 : Nat) (v1 : Int32) (v2 : Int32) (v3 : Int32) (s0 : Int32) (s1 : Nat) (s2 : Nat) (h : aH) (hf : fX10_bowlKeepsAll_47 k13 v0 v1 v2 v3 s0 s1 s2 h = some z) : Ev (d + 4) none mX10_bowlKeepsAll (0, 0) 47 [.ref v0, .int v1, .int v2, .int v3] [.int s0, .ref s1, .ref s2] h (QZ z) := by
  obtain ⟨_, h1, hf⟩ := bnd hf
  obtain ⟨fs, ho⟩ := isO_ok h1
  obtain ⟨r, h2, hf⟩ := bnd hf
  refine ev_V kqX10_bowlKeepsAll_47 jX1_pass (zX1_pass (d := d + 0) h2) ho rfl rfl (Nat.le_of_ble_eq_true rfl) rfl (as := [.ref s1, .int s0]) (rest := []) rfl (Nat.le_of_ble_eq_true rfl) (fun _ _ hq => ?_)
  obtain ⟨rfl, hh⟩ := hq
  rw [hh]
  exact jm [2, 1, 1, 1] (fun v0 v1 v2 v3 => fX10_bowlKeepsAll_50 k13 v0 v1 v2 v3 r) (fun v0 v1 v2 v3 q => tX10_bowlKeepsAll_50 hk13 v0 v1 v2 v3 r q) hf
def wX10_bowlKeepsAll_38 : List En := [(.aload_n 0, 0, 0, 0), (.getfield 19, 163, 10, 1), (.aload_n 0, 0, 0, 0), (.getfield 75, 171, 10, 9), (.iload_n 1, 0, 0, 0)]
def fX10_bowlKeepsAll_38 (k13 : Nat → Int32 → Int32 → Int32 → aH → Option (Int32 × aH)) (v0 : Nat) (v1 : Int32) (v2 : Int32) (v3 : Int32) (h : aH) : Option (Int32 × aH) :=
  (gFR h 10 v0 1).bind fun t1 =>
  (gFR h 10 v0 9).bind fun t2 =>
  fX10_bowlKeepsAll_47 k13 v0 v1 v2 v3 v1 t2 t1 h
theorem tX10_bowlKeepsAll_38 {d : Nat} {z : Int32 × aH} {k13 : Nat → Int32 → Int32 → Int32 → aH → Option (Int32 × aH)} (hk13 : ∀ (v0 : Nat) (v1 : Int32) (v2 : Int32) (v3 : Int32) (h : aH), k13 v0 v1 v2 v3 h = some z → Ev (d + 4) none mX10_bowlKeepsAll (0, 0) 13 [.ref v0, .int v1, .int v2, .int v3] [] h (QZ z)) (v0 : Nat) (v1 : Int32) (v2 : Int32) (v3 : Int32) (h : aH) (hf : fX10_bowlKeepsAll_38 k13 v0 v1 v2 v3 h = some z) : Ev (d + 4) none mX10_bowlKeepsAll (0, 0) 38 [.ref v0, .int v1, .int v2, .int v3] [] h (QZ z) := 
  go_ok (X := none) (blk := wX10_bowlKeepsAll_38) (np := 47) (tt := 0) (kN := fun xs h st => app [2, 1, 1, 1] (fun v0 v1 v2 v3 => apS [1, 2, 2] (fun s0 s1 s2 => fX10_bowlKeepsAll_47 k13 v0 v1 v2 v3 s0 s1 s2 h) st) xs) (kT := fun _ _ _ => none) (kR := kRZ)
    (fun xs h st q => jm [2, 1, 1, 1] _ (fun v0 v1 v2 v3 q => apS_ok [1, 2, 2] _ (fun st => Ev (d + 4) none mX10_bowlKeepsAll (0, 0) 47 [.ref v0, .int v1, .int v2, .int v3] st h (QZ z)) st (fun s0 s1 s2 q => tX10_bowlKeepsAll_47 hk13 v0 v1 v2 v3 s0 s1 s2 h q) q) q)
    (fun _ _ _ q => nos q)
    kRZ_ok (Or.inr rfl) (by decide +kernel) (by decide +kernel) hf
def wX10_bowlKeepsAll_18 : List En := [(.aload_n 0, 0, 0, 0), (.getfield 19, 163, 10, 1), (.getfield 208, 48, 1, 0), (.getfield 144, 28, 7, 3), (.aload_n 0, 0, 0, 0), (.getfield 68, 170, 10, 8), (.getfield 144, 28, 7, 3), (.if_icmp .ne 21, 56, 0, 0)]
def fX10_bowlKeepsAll_18 (k13 : Nat → Int32 → Int32 → Int32 → aH → Option (Int32 × aH)) (v0 : Nat) (v1 : Int32) (v2 : Int32) (v3 : Int32) (h : aH) : Option (Int32 × aH) :=
  (gFR h 10 v0 1).bind fun t1 =>
  (gFR h 1 t1 0).bind fun t2 =>
  (gFI h 7 t2 3).bind fun t3 =>
  (gFR h 10 v0 8).bind fun t4 =>
  (gFI h 7 t4 3).bind fun t5 =>
  if t3 = t5 then fX10_bowlKeepsAll_38 k13 v0 v1 v2 v3 h else fX10_bowlKeepsAll_56 v0 h
theorem tX10_bowlKeepsAll_18 {d : Nat} {z : Int32 × aH} {k13 : Nat → Int32 → Int32 → Int32 → aH → Option (Int32 × aH)} (hk13 : ∀ (v0 : Nat) (v1 : Int32) (v2 : Int32) (v3 : Int32) (h : aH), k13 v0 v1 v2 v3 h = some z → Ev (d + 4) none mX10_bowlKeepsAll (0, 0) 13 [.ref v0, .int v1, .int v2, .int v3] [] h (QZ z)) (v0 : Nat) (v1 : Int32) (v2 : Int32) (v3 : Int32) (h : aH) (hf : fX10_bowlKeepsAll_18 k13 v0 v1 v2 v3 h = some z) : Ev (d + 4) none mX10_bowlKeepsAll (0, 0) 18 [.ref v0, .int v1, .int v2, .int v3] [] h (QZ z) := 
  go_ok (X := none) (blk := wX10_bowlKeepsAll_18) (np := 38) (tt := 56) (kN := fun xs h st => app [2, 1, 1, 1] (fun v0 v1 v2 v3 => apS [] (fX10_bowlKeepsAll_38 k13 v0 v1 v2 v3 h) st) xs) (kT := fun xs h st => app [2, 0, 0, 0] (fun v0 => apS [] (fX10_bowlKeepsAll_56 v0 h) st) xs) (kR := kRZ)
    (fun xs h st q => jm [2, 1, 1, 1] _ (fun v0 v1 v2 v3 q => apS_ok [] _ (fun st => Ev (d + 4) none mX10_bowlKeepsAll (0, 0) 38 [.ref v0, .int v1, .int v2, .int v3] st h (QZ z)) st (fun q => tX10_bowlKeepsAll_38 hk13 v0 v1 v2 v3 h q) q) q)
    (fun xs h st q => jm [2, 0, 0, 0] _ (fun v0 q => apS_ok [] _ (fun st => Ev (d + 4) none mX10_bowlKeepsAll (0, 0) 56 [.ref v0, .null, .null, .null] st h (QZ z)) st (fun q => tX10_bowlKeepsAll_56 v0 h q) q) q)
    kRZ_ok (Or.inr rfl) (by decide +kernel) (by decide +kernel) hf
def wX10_bowlKeepsAll_13 : List En := [(.iload_n 3, 0, 0, 0), (.iload_n 2, 0, 0, 0), (.if_icmp .ge 41, 56, 0, 0)]
def fX10_bowlKeepsAll_13 (k13 : Nat → Int32 → Int32 → Int32 → aH → Option (Int32 × aH)) (v0 : Nat) (v1 : Int32) (v2 : Int32) (v3 : Int32) (h : aH) : Option (Int32 × aH) :=
  if v3 < v2 then fX10_bowlKeepsAll_18 k13 v0 v1 v2 v3 h else fX10_bowlKeepsAll_56 v0 h
theorem tX10_bowlKeepsAll_13 {d : Nat} {z : Int32 × aH} {k13 : Nat → Int32 → Int32 → Int32 → aH → Option (Int32 × aH)} (hk13 : ∀ (v0 : Nat) (v1 : Int32) (v2 : Int32) (v3 : Int32) (h : aH), k13 v0 v1 v2 v3 h = some z → Ev (d + 4) none mX10_bowlKeepsAll (0, 0) 13 [.ref v0, .int v1, .int v2, .int v3] [] h (QZ z)) (v0 : Nat) (v1 : Int32) (v2 : Int32) (v3 : Int32) (h : aH) (hf : fX10_bowlKeepsAll_13 k13 v0 v1 v2 v3 h = some z) : Ev (d + 4) none mX10_bowlKeepsAll (0, 0) 13 [.ref v0, .int v1, .int v2, .int v3] [] h (QZ z) := 
  go_ok (X := none) (blk := wX10_bowlKeepsAll_13) (np := 18) (tt := 56) (kN := fun xs h st => app [2, 1, 1, 1] (fun v0 v1 v2 v3 => apS [] (fX10_bowlKeepsAll_18 k13 v0 v1 v2 v3 h) st) xs) (kT := fun xs h st => app [2, 0, 0, 0] (fun v0 => apS [] (fX10_bowlKeepsAll_56 v0 h) st) xs) (kR := kRZ)
    (fun xs h st q => jm [2, 1, 1, 1] _ (fun v0 v1 v2 v3 q => apS_ok [] _ (fun st => Ev (d + 4) none mX10_bowlKeepsAll (0, 0) 18 [.ref v0, .int v1, .int v2, .int v3] st h (QZ z)) st (fun q => tX10_bowlKeepsAll_18 hk13 v0 v1 v2 v3 h q) q) q)
    (fun xs h st q => jm [2, 0, 0, 0] _ (fun v0 q => apS_ok [] _ (fun st => Ev (d + 4) none mX10_bowlKeepsAll (0, 0) 56 [.ref v0, .null, .null, .null] st h (QZ z)) st (fun q => tX10_bowlKeepsAll_56 v0 h q) q) q)
    kRZ_ok (Or.inr rfl) (by decide +kernel) (by decide +kernel) hf
def lX10_bowlKeepsAll_13 : Nat → Nat → Int32 → Int32 → Int32 → aH → Option (Int32 × aH)
  | 0, _, _, _, _, _ => none
  | n + 1, v0, v1, v2, v3, h => fX10_bowlKeepsAll_13 (lX10_bowlKeepsAll_13 n) v0 v1 v2 v3 h
theorem uX10_bowlKeepsAll_13 {d : Nat} {z : Int32 × aH} : ∀ (n : Nat) (v0 : Nat) (v1 : Int32) (v2 : Int32) (v3 : Int32) (h : aH), lX10_bowlKeepsAll_13 n v0 v1 v2 v3 h = some z → Ev (d + 4) none mX10_bowlKeepsAll (0, 0) 13 [.ref v0, .int v1, .int v2, .int v3] [] h (QZ z) := by
  intro n
  induction n with
  | zero => intro _ _ _ _ _ q; exact nos (show (none : Option (Int32 × aH)) = some z from q)
  | succ n ih => intro v0 v1 v2 v3 h q; exact tX10_bowlKeepsAll_13 ih v0 v1 v2 v3 h q
def wX10_bowlKeepsAll_11 : List En := [(.iconst 0, 0, 0, 0), (.istore_n 3, 0, 0, 0)]
def fX10_bowlKeepsAll_11 (v0 : Nat) (v1 : Int32) (v2 : Int32) (h : aH) : Option (Int32 × aH) :=
  lX10_bowlKeepsAll_13 FU v0 v1 v2 (kI 0) h
theorem tX10_bowlKeepsAll_11 {d : Nat} {z : Int32 × aH} (v0 : Nat) (v1 : Int32) (v2 : Int32) (h : aH) (hf : fX10_bowlKeepsAll_11 v0 v1 v2 h = some z) : Ev (d + 4) none mX10_bowlKeepsAll (0, 0) 11 [.ref v0, .int v1, .int v2, .null] [] h (QZ z) := 
  go_ok (X := none) (blk := wX10_bowlKeepsAll_11) (np := 13) (tt := 0) (kN := fun xs h st => app [2, 1, 1, 1] (fun v0 v1 v2 v3 => apS [] (lX10_bowlKeepsAll_13 FU v0 v1 v2 v3 h) st) xs) (kT := fun _ _ _ => none) (kR := kRZ)
    (fun xs h st q => jm [2, 1, 1, 1] _ (fun v0 v1 v2 v3 q => apS_ok [] _ (fun st => Ev (d + 4) none mX10_bowlKeepsAll (0, 0) 13 [.ref v0, .int v1, .int v2, .int v3] st h (QZ z)) st (fun q => uX10_bowlKeepsAll_13 FU v0 v1 v2 v3 h q) q) q)
    (fun _ _ _ q => nos q)
    kRZ_ok (Or.inr rfl) (by decide +kernel) (by decide +kernel) hf
theorem kqX10_bowlKeepsAll_8 : okC mX10_bowlKeepsAll 8 (.invokevirtual 221) 80 104 0 1 = true := by decide +kernel
def fX10_bowlKeepsAll_8 (v0 : Nat) (v1 : Int32) (v2 : Int32) (s0 : Nat) (s1 : Nat) (h : aH) : Option (Int32 × aH) :=
  (isO h 1 s1).bind fun _ =>
  (gX1_start s1 s0 h).bind fun r =>
  fX10_bowlKeepsAll_11 v0 v1 v2 r
theorem tX10_bowlKeepsAll_8 {d : Nat} {z : Int32 × aH} (v0 : Nat) (v1 : Int32) (v2 : Int32) (s0 : Nat) (s1 : Nat) (h : aH) (hf : fX10_bowlKeepsAll_8 v0 v1 v2 s0 s1 h = some z) : Ev (d + 4) none mX10_bowlKeepsAll (0, 0) 8 [.ref v0, .int v1, .int v2, .null] [.ref s0, .ref s1] h (QZ z) := by
  obtain ⟨_, h1, hf⟩ := bnd hf
  obtain ⟨fs, ho⟩ := isO_ok h1
  obtain ⟨r, h2, hf⟩ := bnd hf
  refine ev_V kqX10_bowlKeepsAll_8 jX1_start (zX1_start (d := d + 1) h2) ho rfl rfl (Nat.le_of_ble_eq_true rfl) rfl (as := [.ref s0]) (rest := []) rfl (Nat.le_of_ble_eq_true rfl) (fun _ _ hq => ?_)
  obtain ⟨rfl, hh⟩ := hq
  rw [hh]
  exact jm [2, 1, 1, 0] (fun v0 v1 v2 => fX10_bowlKeepsAll_11 v0 v1 v2 r) (fun v0 v1 v2 q => tX10_bowlKeepsAll_11 v0 v1 v2 r q) hf
def wX10_bowlKeepsAll_0 : List En := [(.aload_n 0, 0, 0, 0), (.getfield 19, 163, 10, 1), (.aload_n 0, 0, 0, 0), (.getfield 68, 170, 10, 8)]
def fX10_bowlKeepsAll_0 (v0 : Nat) (v1 : Int32) (v2 : Int32) (h : aH) : Option (Int32 × aH) :=
  (gFR h 10 v0 1).bind fun t1 =>
  (gFR h 10 v0 8).bind fun t2 =>
  fX10_bowlKeepsAll_8 v0 v1 v2 t2 t1 h
theorem tX10_bowlKeepsAll_0 {d : Nat} {z : Int32 × aH} (v0 : Nat) (v1 : Int32) (v2 : Int32) (h : aH) (hf : fX10_bowlKeepsAll_0 v0 v1 v2 h = some z) : Ev (d + 4) none mX10_bowlKeepsAll (0, 0) 0 [.ref v0, .int v1, .int v2, .null] [] h (QZ z) := 
  go_ok (X := none) (blk := wX10_bowlKeepsAll_0) (np := 8) (tt := 0) (kN := fun xs h st => app [2, 1, 1, 0] (fun v0 v1 v2 => apS [2, 2] (fun s0 s1 => fX10_bowlKeepsAll_8 v0 v1 v2 s0 s1 h) st) xs) (kT := fun _ _ _ => none) (kR := kRZ)
    (fun xs h st q => jm [2, 1, 1, 0] _ (fun v0 v1 v2 q => apS_ok [2, 2] _ (fun st => Ev (d + 4) none mX10_bowlKeepsAll (0, 0) 8 [.ref v0, .int v1, .int v2, .null] st h (QZ z)) st (fun s0 s1 q => tX10_bowlKeepsAll_8 v0 v1 v2 s0 s1 h q) q) q)
    (fun _ _ _ q => nos q)
    kRZ_ok (Or.inr rfl) (by decide +kernel) (by decide +kernel) hf
def gX10_bowlKeepsAll (v0 : Nat) (v1 : Int32) (v2 : Int32) (h : aH) : Option (Int32 × aH) := fX10_bowlKeepsAll_0 v0 v1 v2 h
theorem zX10_bowlKeepsAll {d : Nat} {z : Int32 × aH} {v0 : Nat} {v1 : Int32} {v2 : Int32} {h : aH} (q : gX10_bowlKeepsAll v0 v1 v2 h = some z) : CT (d + 4) mX10_bowlKeepsAll (0, 0) [.ref v0, .int v1, .int v2] h (QZ z) :=
  ct_ev (by decide +kernel) (Nat.le_of_ble_eq_true rfl) QZ_r (jm [2, 1, 1, 0] (fun v0 v1 v2 => fX10_bowlKeepsAll_0 v0 v1 v2 h) (fun v0 v1 v2 q => tX10_bowlKeepsAll_0 v0 v1 v2 h q) q)
def wX10_bowlFor_42 : List En := [(.bipush (-2), 0, 0, 0), (.ireturn, 0, 0, 0)]
def fX10_bowlFor_42 (h : aH) : Option (Int32 × aH) :=
  some ((kB (-2)), h)
theorem tX10_bowlFor_42 {d : Nat} {z : Int32 × aH} (h : aH) (hf : fX10_bowlFor_42 h = some z) : Ev (d + 5) none mX10_bowlFor (0, 0) 42 [.null, .null, .null] [] h (QI z) := 
  go_ok (X := none) (blk := wX10_bowlFor_42) (np := 45) (tt := 0) (kN := fun _ _ _ => none) (kT := fun _ _ _ => none) (kR := kRI)
    (fun _ _ _ q => nos q)
    (fun _ _ _ q => nos q)
    kRI_ok (Or.inr rfl) (by decide +kernel) (by decide +kernel) hf
def wX10_bowlFor_36 : List En := [(.iinc 2 1, 0, 0, 0), (.goto (-20), 19, 0, 0)]
def fX10_bowlFor_36 (k19 : Nat → Int32 → Int32 → aH → Option (Int32 × aH)) (v0 : Nat) (v1 : Int32) (v2 : Int32) (h : aH) : Option (Int32 × aH) :=
  k19 v0 v1 (v2 + kI 1) h
theorem tX10_bowlFor_36 {d : Nat} {z : Int32 × aH} {k19 : Nat → Int32 → Int32 → aH → Option (Int32 × aH)} (hk19 : ∀ (v0 : Nat) (v1 : Int32) (v2 : Int32) (h : aH), k19 v0 v1 v2 h = some z → Ev (d + 5) none mX10_bowlFor (0, 0) 19 [.ref v0, .int v1, .int v2] [] h (QI z)) (v0 : Nat) (v1 : Int32) (v2 : Int32) (h : aH) (hf : fX10_bowlFor_36 k19 v0 v1 v2 h = some z) : Ev (d + 5) none mX10_bowlFor (0, 0) 36 [.ref v0, .int v1, .int v2] [] h (QI z) := 
  go_ok (X := none) (blk := wX10_bowlFor_36) (np := 42) (tt := 19) (kN := fun _ _ _ => none) (kT := fun xs h st => app [2, 1, 1] (fun v0 v1 v2 => apS [] (k19 v0 v1 v2 h) st) xs) (kR := kRI)
    (fun _ _ _ q => nos q)
    (fun xs h st q => jm [2, 1, 1] _ (fun v0 v1 v2 q => apS_ok [] _ (fun st => Ev (d + 5) none mX10_bowlFor (0, 0) 19 [.ref v0, .int v1, .int v2] st h (QI z)) st (fun q => hk19 v0 v1 v2 h q) q) q)
    kRI_ok (Or.inr rfl) (by decide +kernel) (by decide +kernel) hf
def wX10_bowlFor_34 : List En := [(.iload_n 2, 0, 0, 0), (.ireturn, 0, 0, 0)]
def fX10_bowlFor_34 (v2 : Int32) (h : aH) : Option (Int32 × aH) :=
  some (v2, h)
theorem tX10_bowlFor_34 {d : Nat} {z : Int32 × aH} (v2 : Int32) (h : aH) (hf : fX10_bowlFor_34 v2 h = some z) : Ev (d + 5) none mX10_bowlFor (0, 0) 34 [.null, .null, .int v2] [] h (QI z) := 
  go_ok (X := none) (blk := wX10_bowlFor_34) (np := 36) (tt := 0) (kN := fun _ _ _ => none) (kT := fun _ _ _ => none) (kR := kRI)
    (fun _ _ _ q => nos q)
    (fun _ _ _ q => nos q)
    kRI_ok (Or.inr rfl) (by decide +kernel) (by decide +kernel) hf
def wX10_bowlFor_31 : List En := [(.ifCond .eq 5, 36, 0, 0)]
def fX10_bowlFor_31 (k19 : Nat → Int32 → Int32 → aH → Option (Int32 × aH)) (v0 : Nat) (v1 : Int32) (v2 : Int32) (s0 : Int32) (h : aH) : Option (Int32 × aH) :=
  if s0 = 0 then fX10_bowlFor_36 k19 v0 v1 v2 h else fX10_bowlFor_34 v2 h
theorem tX10_bowlFor_31 {d : Nat} {z : Int32 × aH} {k19 : Nat → Int32 → Int32 → aH → Option (Int32 × aH)} (hk19 : ∀ (v0 : Nat) (v1 : Int32) (v2 : Int32) (h : aH), k19 v0 v1 v2 h = some z → Ev (d + 5) none mX10_bowlFor (0, 0) 19 [.ref v0, .int v1, .int v2] [] h (QI z)) (v0 : Nat) (v1 : Int32) (v2 : Int32) (s0 : Int32) (h : aH) (hf : fX10_bowlFor_31 k19 v0 v1 v2 s0 h = some z) : Ev (d + 5) none mX10_bowlFor (0, 0) 31 [.ref v0, .int v1, .int v2] [.int s0] h (QI z) := 
  go_ok (X := none) (blk := wX10_bowlFor_31) (np := 34) (tt := 36) (kN := fun xs h st => app [0, 0, 1] (fun v2 => apS [] (fX10_bowlFor_34 v2 h) st) xs) (kT := fun xs h st => app [2, 1, 1] (fun v0 v1 v2 => apS [] (fX10_bowlFor_36 k19 v0 v1 v2 h) st) xs) (kR := kRI)
    (fun xs h st q => jm [0, 0, 1] _ (fun v2 q => apS_ok [] _ (fun st => Ev (d + 5) none mX10_bowlFor (0, 0) 34 [.null, .null, .int v2] st h (QI z)) st (fun q => tX10_bowlFor_34 v2 h q) q) q)
    (fun xs h st q => jm [2, 1, 1] _ (fun v0 v1 v2 q => apS_ok [] _ (fun st => Ev (d + 5) none mX10_bowlFor (0, 0) 36 [.ref v0, .int v1, .int v2] st h (QI z)) st (fun q => tX10_bowlFor_36 hk19 v0 v1 v2 h q) q) q)
    kRI_ok (Or.inr rfl) (by decide +kernel) (by decide +kernel) hf
theorem kqX10_bowlFor_28 : okC mX10_bowlFor 28 (.invokevirtual 266) 133 139 0 2 = true := by decide +kernel
def fX10_bowlFor_28 (k19 : Nat → Int32 → Int32 → aH → Option (Int32 × aH)) (v0 : Nat) (v1 : Int32) (v2 : Int32) (s0 : Int32) (s1 : Int32) (s2 : Nat) (h : aH) : Option (Int32 × aH) :=
  (isO h 10 s2).bind fun _ =>
  (gX10_bowlKeepsAll s2 s1 s0 h).bind fun r =>
  fX10_bowlFor_31 k19 v0 v1 v2 r.1 r.2
theorem tX10_bowlFor_28 {d : Nat} {z : Int32 × aH} {k19 : Nat → Int32 → Int32 → aH → Option (Int32 × aH)} (hk19 : ∀ (v0 : Nat) (v1 : Int32) (v2 : Int32) (h : aH), k19 v0 v1 v2 h = some z → Ev (d + 5) none mX10_bowlFor (0, 0) 19 [.ref v0, .int v1, .int v2] [] h (QI z)) (v0 : Nat) (v1 : Int32) (v2 : Int32) (s0 : Int32) (s1 : Int32) (s2 : Nat) (h : aH) (hf : fX10_bowlFor_28 k19 v0 v1 v2 s0 s1 s2 h = some z) : Ev (d + 5) none mX10_bowlFor (0, 0) 28 [.ref v0, .int v1, .int v2] [.int s0, .int s1, .ref s2] h (QI z) := by
  obtain ⟨_, h1, hf⟩ := bnd hf
  obtain ⟨fs, ho⟩ := isO_ok h1
  obtain ⟨r, h2, hf⟩ := bnd hf
  refine ev_V kqX10_bowlFor_28 jX10_bowlKeepsAll (zX10_bowlKeepsAll (d := d + 0) h2) ho rfl rfl (Nat.le_of_ble_eq_true rfl) rfl (as := [.int s1, .int s0]) (rest := []) rfl (Nat.le_of_ble_eq_true rfl) (fun _ _ hq => ?_)
  obtain ⟨-, rfl, rfl⟩ := hq
  exact jm [2, 1, 1] (fun v0 v1 v2 => fX10_bowlFor_31 k19 v0 v1 v2 r.1 r.2) (fun v0 v1 v2 q => tX10_bowlFor_31 hk19 v0 v1 v2 r.1 r.2 q) hf
def wX10_bowlFor_25 : List En := [(.aload_n 0, 0, 0, 0), (.iload_n 2, 0, 0, 0), (.iload_n 1, 0, 0, 0)]
def fX10_bowlFor_25 (k19 : Nat → Int32 → Int32 → aH → Option (Int32 × aH)) (v0 : Nat) (v1 : Int32) (v2 : Int32) (h : aH) : Option (Int32 × aH) :=
  fX10_bowlFor_28 k19 v0 v1 v2 v1 v2 v0 h
theorem tX10_bowlFor_25 {d : Nat} {z : Int32 × aH} {k19 : Nat → Int32 → Int32 → aH → Option (Int32 × aH)} (hk19 : ∀ (v0 : Nat) (v1 : Int32) (v2 : Int32) (h : aH), k19 v0 v1 v2 h = some z → Ev (d + 5) none mX10_bowlFor (0, 0) 19 [.ref v0, .int v1, .int v2] [] h (QI z)) (v0 : Nat) (v1 : Int32) (v2 : Int32) (h : aH) (hf : fX10_bowlFor_25 k19 v0 v1 v2 h = some z) : Ev (d + 5) none mX10_bowlFor (0, 0) 25 [.ref v0, .int v1, .int v2] [] h (QI z) := 
  go_ok (X := none) (blk := wX10_bowlFor_25) (np := 28) (tt := 0) (kN := fun xs h st => app [2, 1, 1] (fun v0 v1 v2 => apS [1, 1, 2] (fun s0 s1 s2 => fX10_bowlFor_28 k19 v0 v1 v2 s0 s1 s2 h) st) xs) (kT := fun _ _ _ => none) (kR := kRI)
    (fun xs h st q => jm [2, 1, 1] _ (fun v0 v1 v2 q => apS_ok [1, 1, 2] _ (fun st => Ev (d + 5) none mX10_bowlFor (0, 0) 28 [.ref v0, .int v1, .int v2] st h (QI z)) st (fun s0 s1 s2 q => tX10_bowlFor_28 hk19 v0 v1 v2 s0 s1 s2 h q) q) q)
    (fun _ _ _ q => nos q)
    kRI_ok (Or.inr rfl) (by decide +kernel) (by decide +kernel) hf
def wX10_bowlFor_19 : List En := [(.iload_n 2, 0, 0, 0), (.bipush 20, 0, 0, 0), (.if_icmp .gt 20, 42, 0, 0)]
def fX10_bowlFor_19 (k19 : Nat → Int32 → Int32 → aH → Option (Int32 × aH)) (v0 : Nat) (v1 : Int32) (v2 : Int32) (h : aH) : Option (Int32 × aH) :=
  if (kB 20) < v2 then fX10_bowlFor_42 h else fX10_bowlFor_25 k19 v0 v1 v2 h
theorem tX10_bowlFor_19 {d : Nat} {z : Int32 × aH} {k19 : Nat → Int32 → Int32 → aH → Option (Int32 × aH)} (hk19 : ∀ (v0 : Nat) (v1 : Int32) (v2 : Int32) (h : aH), k19 v0 v1 v2 h = some z → Ev (d + 5) none mX10_bowlFor (0, 0) 19 [.ref v0, .int v1, .int v2] [] h (QI z)) (v0 : Nat) (v1 : Int32) (v2 : Int32) (h : aH) (hf : fX10_bowlFor_19 k19 v0 v1 v2 h = some z) : Ev (d + 5) none mX10_bowlFor (0, 0) 19 [.ref v0, .int v1, .int v2] [] h (QI z) := 
  go_ok (X := none) (blk := wX10_bowlFor_19) (np := 25) (tt := 42) (kN := fun xs h st => app [2, 1, 1] (fun v0 v1 v2 => apS [] (fX10_bowlFor_25 k19 v0 v1 v2 h) st) xs) (kT := fun xs h st => app [0, 0, 0] (apS [] (fX10_bowlFor_42 h) st) xs) (kR := kRI)
    (fun xs h st q => jm [2, 1, 1] _ (fun v0 v1 v2 q => apS_ok [] _ (fun st => Ev (d + 5) none mX10_bowlFor (0, 0) 25 [.ref v0, .int v1, .int v2] st h (QI z)) st (fun q => tX10_bowlFor_25 hk19 v0 v1 v2 h q) q) q)
    (fun xs h st q => jm [0, 0, 0] _ (fun q => apS_ok [] _ (fun st => Ev (d + 5) none mX10_bowlFor (0, 0) 42 [.null, .null, .null] st h (QI z)) st (fun q => tX10_bowlFor_42 h q) q) q)
    kRI_ok (Or.inr rfl) (by decide +kernel) (by decide +kernel) hf
def lX10_bowlFor_19 : Nat → Nat → Int32 → Int32 → aH → Option (Int32 × aH)
  | 0, _, _, _, _ => none
  | n + 1, v0, v1, v2, h => fX10_bowlFor_19 (lX10_bowlFor_19 n) v0 v1 v2 h
theorem uX10_bowlFor_19 {d : Nat} {z : Int32 × aH} : ∀ (n : Nat) (v0 : Nat) (v1 : Int32) (v2 : Int32) (h : aH), lX10_bowlFor_19 n v0 v1 v2 h = some z → Ev (d + 5) none mX10_bowlFor (0, 0) 19 [.ref v0, .int v1, .int v2] [] h (QI z) := by
  intro n
  induction n with
  | zero => intro _ _ _ _ q; exact nos (show (none : Option (Int32 × aH)) = some z from q)
  | succ n ih => intro v0 v1 v2 h q; exact tX10_bowlFor_19 ih v0 v1 v2 h q
def wX10_bowlFor_17 : List En := [(.iconst 1, 0, 0, 0), (.istore_n 2, 0, 0, 0)]
def fX10_bowlFor_17 (v0 : Nat) (v1 : Int32) (h : aH) : Option (Int32 × aH) :=
  lX10_bowlFor_19 FU v0 v1 (kI 1) h
theorem tX10_bowlFor_17 {d : Nat} {z : Int32 × aH} (v0 : Nat) (v1 : Int32) (h : aH) (hf : fX10_bowlFor_17 v0 v1 h = some z) : Ev (d + 5) none mX10_bowlFor (0, 0) 17 [.ref v0, .int v1, .null] [] h (QI z) := 
  go_ok (X := none) (blk := wX10_bowlFor_17) (np := 19) (tt := 0) (kN := fun xs h st => app [2, 1, 1] (fun v0 v1 v2 => apS [] (lX10_bowlFor_19 FU v0 v1 v2 h) st) xs) (kT := fun _ _ _ => none) (kR := kRI)
    (fun xs h st q => jm [2, 1, 1] _ (fun v0 v1 v2 q => apS_ok [] _ (fun st => Ev (d + 5) none mX10_bowlFor (0, 0) 19 [.ref v0, .int v1, .int v2] st h (QI z)) st (fun q => uX10_bowlFor_19 FU v0 v1 v2 h q) q) q)
    (fun _ _ _ q => nos q)
    kRI_ok (Or.inr rfl) (by decide +kernel) (by decide +kernel) hf
def wX10_bowlFor_15 : List En := [(.iconst (-1), 0, 0, 0), (.ireturn, 0, 0, 0)]
def fX10_bowlFor_15 (h : aH) : Option (Int32 × aH) :=
  some ((kI (-1)), h)
theorem tX10_bowlFor_15 {d : Nat} {z : Int32 × aH} (h : aH) (hf : fX10_bowlFor_15 h = some z) : Ev (d + 5) none mX10_bowlFor (0, 0) 15 [.null, .null, .null] [] h (QI z) := 
  go_ok (X := none) (blk := wX10_bowlFor_15) (np := 17) (tt := 0) (kN := fun _ _ _ => none) (kT := fun _ _ _ => none) (kR := kRI)
    (fun _ _ _ q => nos q)
    (fun _ _ _ q => nos q)
    kRI_ok (Or.inr rfl) (by decide +kernel) (by decide +kernel) hf
def wX10_bowlFor_12 : List En := [(.ifCond .eq 5, 17, 0, 0)]
def fX10_bowlFor_12 (v0 : Nat) (v1 : Int32) (s0 : Int32) (h : aH) : Option (Int32 × aH) :=
  if s0 = 0 then fX10_bowlFor_17 v0 v1 h else fX10_bowlFor_15 h
theorem tX10_bowlFor_12 {d : Nat} {z : Int32 × aH} (v0 : Nat) (v1 : Int32) (s0 : Int32) (h : aH) (hf : fX10_bowlFor_12 v0 v1 s0 h = some z) : Ev (d + 5) none mX10_bowlFor (0, 0) 12 [.ref v0, .int v1, .null] [.int s0] h (QI z) := 
  go_ok (X := none) (blk := wX10_bowlFor_12) (np := 15) (tt := 17) (kN := fun xs h st => app [0, 0, 0] (apS [] (fX10_bowlFor_15 h) st) xs) (kT := fun xs h st => app [2, 1, 0] (fun v0 v1 => apS [] (fX10_bowlFor_17 v0 v1 h) st) xs) (kR := kRI)
    (fun xs h st q => jm [0, 0, 0] _ (fun q => apS_ok [] _ (fun st => Ev (d + 5) none mX10_bowlFor (0, 0) 15 [.null, .null, .null] st h (QI z)) st (fun q => tX10_bowlFor_15 h q) q) q)
    (fun xs h st q => jm [2, 1, 0] _ (fun v0 v1 q => apS_ok [] _ (fun st => Ev (d + 5) none mX10_bowlFor (0, 0) 17 [.ref v0, .int v1, .null] st h (QI z)) st (fun q => tX10_bowlFor_17 v0 v1 h q) q) q)
    kRI_ok (Or.inr rfl) (by decide +kernel) (by decide +kernel) hf
theorem kqX10_bowlFor_9 : okC mX10_bowlFor 9 (.invokevirtual 190) 92 87 0 4 = true := by decide +kernel
def fX10_bowlFor_9 (v0 : Nat) (v1 : Int32) (s0 : Int32) (s1 : Int32) (s2 : Int32) (s3 : Int32) (s4 : Nat) (h : aH) : Option (Int32 × aH) :=
  (isO h 10 s4).bind fun _ =>
  (gX10_isRefused s4 s3 s2 s1 s0 h).bind fun r =>
  fX10_bowlFor_12 v0 v1 r.1 r.2
theorem tX10_bowlFor_9 {d : Nat} {z : Int32 × aH} (v0 : Nat) (v1 : Int32) (s0 : Int32) (s1 : Int32) (s2 : Int32) (s3 : Int32) (s4 : Nat) (h : aH) (hf : fX10_bowlFor_9 v0 v1 s0 s1 s2 s3 s4 h = some z) : Ev (d + 5) none mX10_bowlFor (0, 0) 9 [.ref v0, .int v1, .null] [.int s0, .int s1, .int s2, .int s3, .ref s4] h (QI z) := by
  obtain ⟨_, h1, hf⟩ := bnd hf
  obtain ⟨fs, ho⟩ := isO_ok h1
  obtain ⟨r, h2, hf⟩ := bnd hf
  refine ev_V kqX10_bowlFor_9 jX10_isRefused (zX10_isRefused (d := d + 3) h2) ho rfl rfl (Nat.le_of_ble_eq_true rfl) rfl (as := [.int s3, .int s2, .int s1, .int s0]) (rest := []) rfl (Nat.le_of_ble_eq_true rfl) (fun _ _ hq => ?_)
  obtain ⟨-, rfl, rfl⟩ := hq
  exact jm [2, 1, 0] (fun v0 v1 => fX10_bowlFor_12 v0 v1 r.1 r.2) (fun v0 v1 q => tX10_bowlFor_12 v0 v1 r.1 r.2 q) hf
def wX10_bowlFor_5 : List En := [(.iload_n 1, 0, 0, 0), (.iconst 0, 0, 0, 0), (.bipush 60, 0, 0, 0)]
def fX10_bowlFor_5 (v0 : Nat) (v1 : Int32) (s0 : Int32) (s1 : Nat) (h : aH) : Option (Int32 × aH) :=
  fX10_bowlFor_9 v0 v1 (kB 60) (kI 0) v1 s0 s1 h
theorem tX10_bowlFor_5 {d : Nat} {z : Int32 × aH} (v0 : Nat) (v1 : Int32) (s0 : Int32) (s1 : Nat) (h : aH) (hf : fX10_bowlFor_5 v0 v1 s0 s1 h = some z) : Ev (d + 5) none mX10_bowlFor (0, 0) 5 [.ref v0, .int v1, .null] [.int s0, .ref s1] h (QI z) := 
  go_ok (X := none) (blk := wX10_bowlFor_5) (np := 9) (tt := 0) (kN := fun xs h st => app [2, 1, 0] (fun v0 v1 => apS [1, 1, 1, 1, 2] (fun s0 s1 s2 s3 s4 => fX10_bowlFor_9 v0 v1 s0 s1 s2 s3 s4 h) st) xs) (kT := fun _ _ _ => none) (kR := kRI)
    (fun xs h st q => jm [2, 1, 0] _ (fun v0 v1 q => apS_ok [1, 1, 1, 1, 2] _ (fun st => Ev (d + 5) none mX10_bowlFor (0, 0) 9 [.ref v0, .int v1, .null] st h (QI z)) st (fun s0 s1 s2 s3 s4 q => tX10_bowlFor_9 v0 v1 s0 s1 s2 s3 s4 h q) q) q)
    (fun _ _ _ q => nos q)
    kRI_ok (Or.inr rfl) (by decide +kernel) (by decide +kernel) hf
theorem kqX10_bowlFor_2 : okC mX10_bowlFor 2 (.invokevirtual 159) 68 52 0 0 = true := by decide +kernel
def fX10_bowlFor_2 (v0 : Nat) (v1 : Int32) (s0 : Nat) (s1 : Nat) (h : aH) : Option (Int32 × aH) :=
  (isO h 10 s0).bind fun _ =>
  (gX10_lacksTable s0 h).bind fun r =>
  fX10_bowlFor_5 v0 v1 r.1 s1 r.2
theorem tX10_bowlFor_2 {d : Nat} {z : Int32 × aH} (v0 : Nat) (v1 : Int32) (s0 : Nat) (s1 : Nat) (h : aH) (hf : fX10_bowlFor_2 v0 v1 s0 s1 h = some z) : Ev (d + 5) none mX10_bowlFor (0, 0) 2 [.ref v0, .int v1, .null] [.ref s0, .ref s1] h (QI z) := by
  obtain ⟨_, h1, hf⟩ := bnd hf
  obtain ⟨fs, ho⟩ := isO_ok h1
  obtain ⟨r, h2, hf⟩ := bnd hf
  refine ev_V kqX10_bowlFor_2 jX10_lacksTable (zX10_lacksTable (d := d + 4) h2) ho rfl rfl (Nat.le_of_ble_eq_true rfl) rfl (as := []) (rest := [.ref s1]) rfl (Nat.le_of_ble_eq_true rfl) (fun _ _ hq => ?_)
  obtain ⟨-, rfl, rfl⟩ := hq
  exact jm [2, 1, 0] (fun v0 v1 => fX10_bowlFor_5 v0 v1 r.1 s1 r.2) (fun v0 v1 q => tX10_bowlFor_5 v0 v1 r.1 s1 r.2 q) hf
def wX10_bowlFor_0 : List En := [(.aload_n 0, 0, 0, 0), (.aload_n 0, 0, 0, 0)]
def fX10_bowlFor_0 (v0 : Nat) (v1 : Int32) (h : aH) : Option (Int32 × aH) :=
  fX10_bowlFor_2 v0 v1 v0 v0 h
theorem tX10_bowlFor_0 {d : Nat} {z : Int32 × aH} (v0 : Nat) (v1 : Int32) (h : aH) (hf : fX10_bowlFor_0 v0 v1 h = some z) : Ev (d + 5) none mX10_bowlFor (0, 0) 0 [.ref v0, .int v1, .null] [] h (QI z) := 
  go_ok (X := none) (blk := wX10_bowlFor_0) (np := 2) (tt := 0) (kN := fun xs h st => app [2, 1, 0] (fun v0 v1 => apS [2, 2] (fun s0 s1 => fX10_bowlFor_2 v0 v1 s0 s1 h) st) xs) (kT := fun _ _ _ => none) (kR := kRI)
    (fun xs h st q => jm [2, 1, 0] _ (fun v0 v1 q => apS_ok [2, 2] _ (fun st => Ev (d + 5) none mX10_bowlFor (0, 0) 2 [.ref v0, .int v1, .null] st h (QI z)) st (fun s0 s1 q => tX10_bowlFor_2 v0 v1 s0 s1 h q) q) q)
    (fun _ _ _ q => nos q)
    kRI_ok (Or.inr rfl) (by decide +kernel) (by decide +kernel) hf
def gX10_bowlFor (v0 : Nat) (v1 : Int32) (h : aH) : Option (Int32 × aH) := fX10_bowlFor_0 v0 v1 h
theorem zX10_bowlFor {d : Nat} {z : Int32 × aH} {v0 : Nat} {v1 : Int32} {h : aH} (q : gX10_bowlFor v0 v1 h = some z) : CT (d + 5) mX10_bowlFor (0, 0) [.ref v0, .int v1] h (QI z) :=
  ct_ev (by decide +kernel) (Nat.le_of_ble_eq_true rfl) QI_r (jm [2, 1, 0] (fun v0 v1 => fX10_bowlFor_0 v0 v1 h) (fun v0 v1 q => tX10_bowlFor_0 v0 v1 h q) q)
def wX9_lastHeardDay_29 : List En := [(.iload_n 1, 0, 0, 0), (.ireturn, 0, 0, 0)]
def fX9_lastHeardDay_29 (v1 : Int32) (h : aH) : Option (Int32 × aH) :=
  some (v1, h)
theorem tX9_lastHeardDay_29 {d : Nat} {z : Int32 × aH} (v1 : Int32) (h : aH) (hf : fX9_lastHeardDay_29 v1 h = some z) : Ev (d + 1) none mX9_lastHeardDay (0, 0) 29 [.null, .int v1, .null] [] h (QI z) := 
  go_ok (X := none) (blk := wX9_lastHeardDay_29) (np := 31) (tt := 0) (kN := fun _ _ _ => none) (kT := fun _ _ _ => none) (kR := kRI)
    (fun _ _ _ q => nos q)
    (fun _ _ _ q => nos q)
    kRI_ok (Or.inr rfl) (by decide +kernel) (by decide +kernel) hf
def wX9_lastHeardDay_22 : List En := [(.istore_n 1, 0, 0, 0), (.iinc 2 1, 0, 0, 0), (.goto (-22), 4, 0, 0)]
def fX9_lastHeardDay_22 (k4 : Nat → Int32 → Int32 → aH → Option (Int32 × aH)) (v0 : Nat) (v2 : Int32) (s0 : Int32) (h : aH) : Option (Int32 × aH) :=
  k4 v0 s0 (v2 + kI 1) h
theorem tX9_lastHeardDay_22 {d : Nat} {z : Int32 × aH} {k4 : Nat → Int32 → Int32 → aH → Option (Int32 × aH)} (hk4 : ∀ (v0 : Nat) (v1 : Int32) (v2 : Int32) (h : aH), k4 v0 v1 v2 h = some z → Ev (d + 1) none mX9_lastHeardDay (0, 0) 4 [.ref v0, .int v1, .int v2] [] h (QI z)) (v0 : Nat) (v2 : Int32) (s0 : Int32) (h : aH) (hf : fX9_lastHeardDay_22 k4 v0 v2 s0 h = some z) : Ev (d + 1) none mX9_lastHeardDay (0, 0) 22 [.ref v0, .null, .int v2] [.int s0] h (QI z) := 
  go_ok (X := none) (blk := wX9_lastHeardDay_22) (np := 29) (tt := 4) (kN := fun _ _ _ => none) (kT := fun xs h st => app [2, 1, 1] (fun v0 v1 v2 => apS [] (k4 v0 v1 v2 h) st) xs) (kR := kRI)
    (fun _ _ _ q => nos q)
    (fun xs h st q => jm [2, 1, 1] _ (fun v0 v1 v2 q => apS_ok [] _ (fun st => Ev (d + 1) none mX9_lastHeardDay (0, 0) 4 [.ref v0, .int v1, .int v2] st h (QI z)) st (fun q => hk4 v0 v1 v2 h q) q) q)
    kRI_ok (Or.inr rfl) (by decide +kernel) (by decide +kernel) hf
theorem kqX9_lastHeardDay_19 : ckP mX9_lastHeardDay 19 70 1 16 = true := by decide +kernel
def fX9_lastHeardDay_19 (k4 : Nat → Int32 → Int32 → aH → Option (Int32 × aH)) (v0 : Nat) (v2 : Int32) (s0 : Int32) (s1 : Int32) (h : aH) : Option (Int32 × aH) :=
  fX9_lastHeardDay_22 k4 v0 v2 (if s1 < s0 then s0 else s1) h
theorem tX9_lastHeardDay_19 {d : Nat} {z : Int32 × aH} {k4 : Nat → Int32 → Int32 → aH → Option (Int32 × aH)} (hk4 : ∀ (v0 : Nat) (v1 : Int32) (v2 : Int32) (h : aH), k4 v0 v1 v2 h = some z → Ev (d + 1) none mX9_lastHeardDay (0, 0) 4 [.ref v0, .int v1, .int v2] [] h (QI z)) (v0 : Nat) (v2 : Int32) (s0 : Int32) (s1 : Int32) (h : aH) (hf : fX9_lastHeardDay_19 k4 v0 v2 s0 s1 h = some z) : Ev (d + 1) none mX9_lastHeardDay (0, 0) 19 [.ref v0, .null, .int v2] [.int s0, .int s1] h (QI z) := 
  ev_mx kqX9_lastHeardDay_19 rfl (Nat.le_of_ble_eq_true rfl) (jm [2, 0, 1] (fun v0 v2 => fX9_lastHeardDay_22 k4 v0 v2 (if s1 < s0 then s0 else s1) h) (fun v0 v2 q => tX9_lastHeardDay_22 hk4 v0 v2 (if s1 < s0 then s0 else s1) h q) hf)
def wX9_lastHeardDay_12 : List En := [(.iload_n 1, 0, 0, 0), (.aload_n 0, 0, 0, 0), (.getfield 42, 159, 9, 18), (.iload_n 2, 0, 0, 0), (.iaload, 0, 0, 0)]
def fX9_lastHeardDay_12 (k4 : Nat → Int32 → Int32 → aH → Option (Int32 × aH)) (v0 : Nat) (v1 : Int32) (v2 : Int32) (h : aH) : Option (Int32 × aH) :=
  (gFR h 9 v0 18).bind fun t1 =>
  (aRI (h[t1]?) v2).bind fun t2 =>
  fX9_lastHeardDay_19 k4 v0 v2 t2 v1 h
theorem tX9_lastHeardDay_12 {d : Nat} {z : Int32 × aH} {k4 : Nat → Int32 → Int32 → aH → Option (Int32 × aH)} (hk4 : ∀ (v0 : Nat) (v1 : Int32) (v2 : Int32) (h : aH), k4 v0 v1 v2 h = some z → Ev (d + 1) none mX9_lastHeardDay (0, 0) 4 [.ref v0, .int v1, .int v2] [] h (QI z)) (v0 : Nat) (v1 : Int32) (v2 : Int32) (h : aH) (hf : fX9_lastHeardDay_12 k4 v0 v1 v2 h = some z) : Ev (d + 1) none mX9_lastHeardDay (0, 0) 12 [.ref v0, .int v1, .int v2] [] h (QI z) := 
  go_ok (X := none) (blk := wX9_lastHeardDay_12) (np := 19) (tt := 0) (kN := fun xs h st => app [2, 0, 1] (fun v0 v2 => apS [1, 1] (fun s0 s1 => fX9_lastHeardDay_19 k4 v0 v2 s0 s1 h) st) xs) (kT := fun _ _ _ => none) (kR := kRI)
    (fun xs h st q => jm [2, 0, 1] _ (fun v0 v2 q => apS_ok [1, 1] _ (fun st => Ev (d + 1) none mX9_lastHeardDay (0, 0) 19 [.ref v0, .null, .int v2] st h (QI z)) st (fun s0 s1 q => tX9_lastHeardDay_19 hk4 v0 v2 s0 s1 h q) q) q)
    (fun _ _ _ q => nos q)
    kRI_ok (Or.inr rfl) (by decide +kernel) (by decide +kernel) hf
def wX9_lastHeardDay_4 : List En := [(.iload_n 2, 0, 0, 0), (.aload_n 0, 0, 0, 0), (.getfield 67, 125, 9, 7), (.if_icmp .ge 20, 29, 0, 0)]
def fX9_lastHeardDay_4 (k4 : Nat → Int32 → Int32 → aH → Option (Int32 × aH)) (v0 : Nat) (v1 : Int32) (v2 : Int32) (h : aH) : Option (Int32 × aH) :=
  (gFI h 9 v0 7).bind fun t1 =>
  if v2 < t1 then fX9_lastHeardDay_12 k4 v0 v1 v2 h else fX9_lastHeardDay_29 v1 h
theorem tX9_lastHeardDay_4 {d : Nat} {z : Int32 × aH} {k4 : Nat → Int32 → Int32 → aH → Option (Int32 × aH)} (hk4 : ∀ (v0 : Nat) (v1 : Int32) (v2 : Int32) (h : aH), k4 v0 v1 v2 h = some z → Ev (d + 1) none mX9_lastHeardDay (0, 0) 4 [.ref v0, .int v1, .int v2] [] h (QI z)) (v0 : Nat) (v1 : Int32) (v2 : Int32) (h : aH) (hf : fX9_lastHeardDay_4 k4 v0 v1 v2 h = some z) : Ev (d + 1) none mX9_lastHeardDay (0, 0) 4 [.ref v0, .int v1, .int v2] [] h (QI z) := 
  go_ok (X := none) (blk := wX9_lastHeardDay_4) (np := 12) (tt := 29) (kN := fun xs h st => app [2, 1, 1] (fun v0 v1 v2 => apS [] (fX9_lastHeardDay_12 k4 v0 v1 v2 h) st) xs) (kT := fun xs h st => app [0, 1, 0] (fun v1 => apS [] (fX9_lastHeardDay_29 v1 h) st) xs) (kR := kRI)
    (fun xs h st q => jm [2, 1, 1] _ (fun v0 v1 v2 q => apS_ok [] _ (fun st => Ev (d + 1) none mX9_lastHeardDay (0, 0) 12 [.ref v0, .int v1, .int v2] st h (QI z)) st (fun q => tX9_lastHeardDay_12 hk4 v0 v1 v2 h q) q) q)
    (fun xs h st q => jm [0, 1, 0] _ (fun v1 q => apS_ok [] _ (fun st => Ev (d + 1) none mX9_lastHeardDay (0, 0) 29 [.null, .int v1, .null] st h (QI z)) st (fun q => tX9_lastHeardDay_29 v1 h q) q) q)
    kRI_ok (Or.inr rfl) (by decide +kernel) (by decide +kernel) hf
def lX9_lastHeardDay_4 : Nat → Nat → Int32 → Int32 → aH → Option (Int32 × aH)
  | 0, _, _, _, _ => none
  | n + 1, v0, v1, v2, h => fX9_lastHeardDay_4 (lX9_lastHeardDay_4 n) v0 v1 v2 h
theorem uX9_lastHeardDay_4 {d : Nat} {z : Int32 × aH} : ∀ (n : Nat) (v0 : Nat) (v1 : Int32) (v2 : Int32) (h : aH), lX9_lastHeardDay_4 n v0 v1 v2 h = some z → Ev (d + 1) none mX9_lastHeardDay (0, 0) 4 [.ref v0, .int v1, .int v2] [] h (QI z) := by
  intro n
  induction n with
  | zero => intro _ _ _ _ q; exact nos (show (none : Option (Int32 × aH)) = some z from q)
  | succ n ih => intro v0 v1 v2 h q; exact tX9_lastHeardDay_4 ih v0 v1 v2 h q
def wX9_lastHeardDay_0 : List En := [(.iconst 0, 0, 0, 0), (.istore_n 1, 0, 0, 0), (.iconst 0, 0, 0, 0), (.istore_n 2, 0, 0, 0)]
def fX9_lastHeardDay_0 (v0 : Nat) (h : aH) : Option (Int32 × aH) :=
  lX9_lastHeardDay_4 FU v0 (kI 0) (kI 0) h
theorem tX9_lastHeardDay_0 {d : Nat} {z : Int32 × aH} (v0 : Nat) (h : aH) (hf : fX9_lastHeardDay_0 v0 h = some z) : Ev (d + 1) none mX9_lastHeardDay (0, 0) 0 [.ref v0, .null, .null] [] h (QI z) := 
  go_ok (X := none) (blk := wX9_lastHeardDay_0) (np := 4) (tt := 0) (kN := fun xs h st => app [2, 1, 1] (fun v0 v1 v2 => apS [] (lX9_lastHeardDay_4 FU v0 v1 v2 h) st) xs) (kT := fun _ _ _ => none) (kR := kRI)
    (fun xs h st q => jm [2, 1, 1] _ (fun v0 v1 v2 q => apS_ok [] _ (fun st => Ev (d + 1) none mX9_lastHeardDay (0, 0) 4 [.ref v0, .int v1, .int v2] st h (QI z)) st (fun q => uX9_lastHeardDay_4 FU v0 v1 v2 h q) q) q)
    (fun _ _ _ q => nos q)
    kRI_ok (Or.inr rfl) (by decide +kernel) (by decide +kernel) hf
def gX9_lastHeardDay (v0 : Nat) (h : aH) : Option (Int32 × aH) := fX9_lastHeardDay_0 v0 h
theorem zX9_lastHeardDay {d : Nat} {z : Int32 × aH} {v0 : Nat} {h : aH} (q : gX9_lastHeardDay v0 h = some z) : CT (d + 1) mX9_lastHeardDay (0, 0) [.ref v0] h (QI z) :=
  ct_ev (by decide +kernel) (Nat.le_of_ble_eq_true rfl) QI_r (jm [2, 0, 0] (fun v0 => fX9_lastHeardDay_0 v0 h) (fun v0 q => tX9_lastHeardDay_0 v0 h q) q)
def wX3_firstUnlike_109 : List En := [(.bipush (-2), 0, 0, 0), (.ireturn, 0, 0, 0)]
def fX3_firstUnlike_109 (h : aH) : Option (Int32 × aH) :=
  some ((kB (-2)), h)
theorem tX3_firstUnlike_109 {d : Nat} {z : Int32 × aH} (h : aH) (hf : fX3_firstUnlike_109 h = some z) : Ev (d + 3) none mX3_firstUnlike (0, 0) 109 [.null, .null, .null, .null, .null] [] h (QI z) := 
  go_ok (X := none) (blk := wX3_firstUnlike_109) (np := 112) (tt := 0) (kN := fun _ _ _ => none) (kT := fun _ _ _ => none) (kR := kRI)
    (fun _ _ _ q => nos q)
    (fun _ _ _ q => nos q)
    kRI_ok (Or.inr rfl) (by decide +kernel) (by decide +kernel) hf
def wX3_firstUnlike_103 : List En := [(.iinc 4 1, 0, 0, 0), (.goto (-37), 69, 0, 0)]
def fX3_firstUnlike_103 (k69 : Nat → Nat → Int32 → aH → Option (Int32 × aH)) (v0 : Nat) (v1 : Nat) (v4 : Int32) (h : aH) : Option (Int32 × aH) :=
  k69 v0 v1 (v4 + kI 1) h
theorem tX3_firstUnlike_103 {d : Nat} {z : Int32 × aH} {k69 : Nat → Nat → Int32 → aH → Option (Int32 × aH)} (hk69 : ∀ (v0 : Nat) (v1 : Nat) (v4 : Int32) (h : aH), k69 v0 v1 v4 h = some z → Ev (d + 3) none mX3_firstUnlike (0, 0) 69 [.ref v0, .ref v1, .null, .null, .int v4] [] h (QI z)) (v0 : Nat) (v1 : Nat) (v4 : Int32) (h : aH) (hf : fX3_firstUnlike_103 k69 v0 v1 v4 h = some z) : Ev (d + 3) none mX3_firstUnlike (0, 0) 103 [.ref v0, .ref v1, .null, .null, .int v4] [] h (QI z) := 
  go_ok (X := none) (blk := wX3_firstUnlike_103) (np := 109) (tt := 69) (kN := fun _ _ _ => none) (kT := fun xs h st => app [2, 2, 0, 0, 1] (fun v0 v1 v4 => apS [] (k69 v0 v1 v4 h) st) xs) (kR := kRI)
    (fun _ _ _ q => nos q)
    (fun xs h st q => jm [2, 2, 0, 0, 1] _ (fun v0 v1 v4 q => apS_ok [] _ (fun st => Ev (d + 3) none mX3_firstUnlike (0, 0) 69 [.ref v0, .ref v1, .null, .null, .int v4] st h (QI z)) st (fun q => hk69 v0 v1 v4 h q) q) q)
    kRI_ok (Or.inr rfl) (by decide +kernel) (by decide +kernel) hf
def wX3_firstUnlike_100 : List En := [(.iload 4, 0, 0, 0), (.ireturn, 0, 0, 0)]
def fX3_firstUnlike_100 (v4 : Int32) (h : aH) : Option (Int32 × aH) :=
  some (v4, h)
theorem tX3_firstUnlike_100 {d : Nat} {z : Int32 × aH} (v4 : Int32) (h : aH) (hf : fX3_firstUnlike_100 v4 h = some z) : Ev (d + 3) none mX3_firstUnlike (0, 0) 100 [.null, .null, .null, .null, .int v4] [] h (QI z) := 
  go_ok (X := none) (blk := wX3_firstUnlike_100) (np := 103) (tt := 0) (kN := fun _ _ _ => none) (kT := fun _ _ _ => none) (kR := kRI)
    (fun _ _ _ q => nos q)
    (fun _ _ _ q => nos q)
    kRI_ok (Or.inr rfl) (by decide +kernel) (by decide +kernel) hf
def wX3_firstUnlike_78 : List En := [(.aload_n 0, 0, 0, 0), (.getfield 9, 76, 3, 4), (.aload_n 1, 0, 0, 0), (.getfield 78, 160, 9, 18), (.iload 4, 0, 0, 0), (.iaload, 0, 0, 0), (.iaload, 0, 0, 0), (.aload_n 1, 0, 0, 0), (.getfield 81, 157, 9, 17), (.iload 4, 0, 0, 0), (.iaload, 0, 0, 0), (.if_icmp .eq 6, 103, 0, 0)]
def fX3_firstUnlike_78 (k69 : Nat → Nat → Int32 → aH → Option (Int32 × aH)) (v0 : Nat) (v1 : Nat) (v4 : Int32) (h : aH) : Option (Int32 × aH) :=
  (gFR h 3 v0 4).bind fun t1 =>
  (gFR h 9 v1 18).bind fun t2 =>
  (aRI (h[t2]?) v4).bind fun t3 =>
  (aRI (h[t1]?) t3).bind fun t4 =>
  (gFR h 9 v1 17).bind fun t5 =>
  (aRI (h[t5]?) v4).bind fun t6 =>
  if t4 = t6 then fX3_firstUnlike_103 k69 v0 v1 v4 h else fX3_firstUnlike_100 v4 h
theorem tX3_firstUnlike_78 {d : Nat} {z : Int32 × aH} {k69 : Nat → Nat → Int32 → aH → Option (Int32 × aH)} (hk69 : ∀ (v0 : Nat) (v1 : Nat) (v4 : Int32) (h : aH), k69 v0 v1 v4 h = some z → Ev (d + 3) none mX3_firstUnlike (0, 0) 69 [.ref v0, .ref v1, .null, .null, .int v4] [] h (QI z)) (v0 : Nat) (v1 : Nat) (v4 : Int32) (h : aH) (hf : fX3_firstUnlike_78 k69 v0 v1 v4 h = some z) : Ev (d + 3) none mX3_firstUnlike (0, 0) 78 [.ref v0, .ref v1, .null, .null, .int v4] [] h (QI z) := 
  go_ok (X := none) (blk := wX3_firstUnlike_78) (np := 100) (tt := 103) (kN := fun xs h st => app [0, 0, 0, 0, 1] (fun v4 => apS [] (fX3_firstUnlike_100 v4 h) st) xs) (kT := fun xs h st => app [2, 2, 0, 0, 1] (fun v0 v1 v4 => apS [] (fX3_firstUnlike_103 k69 v0 v1 v4 h) st) xs) (kR := kRI)
    (fun xs h st q => jm [0, 0, 0, 0, 1] _ (fun v4 q => apS_ok [] _ (fun st => Ev (d + 3) none mX3_firstUnlike (0, 0) 100 [.null, .null, .null, .null, .int v4] st h (QI z)) st (fun q => tX3_firstUnlike_100 v4 h q) q) q)
    (fun xs h st q => jm [2, 2, 0, 0, 1] _ (fun v0 v1 v4 q => apS_ok [] _ (fun st => Ev (d + 3) none mX3_firstUnlike (0, 0) 103 [.ref v0, .ref v1, .null, .null, .int v4] st h (QI z)) st (fun q => tX3_firstUnlike_103 hk69 v0 v1 v4 h q) q) q)
    kRI_ok (Or.inr rfl) (by decide +kernel) (by decide +kernel) hf
def wX3_firstUnlike_69 : List En := [(.iload 4, 0, 0, 0), (.aload_n 1, 0, 0, 0), (.getfield 75, 126, 9, 7), (.if_icmp .ge 34, 109, 0, 0)]
def fX3_firstUnlike_69 (k69 : Nat → Nat → Int32 → aH → Option (Int32 × aH)) (v0 : Nat) (v1 : Nat) (v4 : Int32) (h : aH) : Option (Int32 × aH) :=
  (gFI h 9 v1 7).bind fun t1 =>
  if v4 < t1 then fX3_firstUnlike_78 k69 v0 v1 v4 h else fX3_firstUnlike_109 h
theorem tX3_firstUnlike_69 {d : Nat} {z : Int32 × aH} {k69 : Nat → Nat → Int32 → aH → Option (Int32 × aH)} (hk69 : ∀ (v0 : Nat) (v1 : Nat) (v4 : Int32) (h : aH), k69 v0 v1 v4 h = some z → Ev (d + 3) none mX3_firstUnlike (0, 0) 69 [.ref v0, .ref v1, .null, .null, .int v4] [] h (QI z)) (v0 : Nat) (v1 : Nat) (v4 : Int32) (h : aH) (hf : fX3_firstUnlike_69 k69 v0 v1 v4 h = some z) : Ev (d + 3) none mX3_firstUnlike (0, 0) 69 [.ref v0, .ref v1, .null, .null, .int v4] [] h (QI z) := 
  go_ok (X := none) (blk := wX3_firstUnlike_69) (np := 78) (tt := 109) (kN := fun xs h st => app [2, 2, 0, 0, 1] (fun v0 v1 v4 => apS [] (fX3_firstUnlike_78 k69 v0 v1 v4 h) st) xs) (kT := fun xs h st => app [0, 0, 0, 0, 0] (apS [] (fX3_firstUnlike_109 h) st) xs) (kR := kRI)
    (fun xs h st q => jm [2, 2, 0, 0, 1] _ (fun v0 v1 v4 q => apS_ok [] _ (fun st => Ev (d + 3) none mX3_firstUnlike (0, 0) 78 [.ref v0, .ref v1, .null, .null, .int v4] st h (QI z)) st (fun q => tX3_firstUnlike_78 hk69 v0 v1 v4 h q) q) q)
    (fun xs h st q => jm [0, 0, 0, 0, 0] _ (fun q => apS_ok [] _ (fun st => Ev (d + 3) none mX3_firstUnlike (0, 0) 109 [.null, .null, .null, .null, .null] st h (QI z)) st (fun q => tX3_firstUnlike_109 h q) q) q)
    kRI_ok (Or.inr rfl) (by decide +kernel) (by decide +kernel) hf
def lX3_firstUnlike_69 : Nat → Nat → Nat → Int32 → aH → Option (Int32 × aH)
  | 0, _, _, _, _ => none
  | n + 1, v0, v1, v4, h => fX3_firstUnlike_69 (lX3_firstUnlike_69 n) v0 v1 v4 h
theorem uX3_firstUnlike_69 {d : Nat} {z : Int32 × aH} : ∀ (n : Nat) (v0 : Nat) (v1 : Nat) (v4 : Int32) (h : aH), lX3_firstUnlike_69 n v0 v1 v4 h = some z → Ev (d + 3) none mX3_firstUnlike (0, 0) 69 [.ref v0, .ref v1, .null, .null, .int v4] [] h (QI z) := by
  intro n
  induction n with
  | zero => intro _ _ _ _ q; exact nos (show (none : Option (Int32 × aH)) = some z from q)
  | succ n ih => intro v0 v1 v4 h q; exact tX3_firstUnlike_69 ih v0 v1 v4 h q
def wX3_firstUnlike_66 : List En := [(.iconst 0, 0, 0, 0), (.istore 4, 0, 0, 0)]
def fX3_firstUnlike_66 (v0 : Nat) (v1 : Nat) (h : aH) : Option (Int32 × aH) :=
  lX3_firstUnlike_69 FU v0 v1 (kI 0) h
theorem tX3_firstUnlike_66 {d : Nat} {z : Int32 × aH} (v0 : Nat) (v1 : Nat) (h : aH) (hf : fX3_firstUnlike_66 v0 v1 h = some z) : Ev (d + 3) none mX3_firstUnlike (0, 0) 66 [.ref v0, .ref v1, .null, .null, .null] [] h (QI z) := 
  go_ok (X := none) (blk := wX3_firstUnlike_66) (np := 69) (tt := 0) (kN := fun xs h st => app [2, 2, 0, 0, 1] (fun v0 v1 v4 => apS [] (lX3_firstUnlike_69 FU v0 v1 v4 h) st) xs) (kT := fun _ _ _ => none) (kR := kRI)
    (fun xs h st q => jm [2, 2, 0, 0, 1] _ (fun v0 v1 v4 q => apS_ok [] _ (fun st => Ev (d + 3) none mX3_firstUnlike (0, 0) 69 [.ref v0, .ref v1, .null, .null, .int v4] st h (QI z)) st (fun q => uX3_firstUnlike_69 FU v0 v1 v4 h q) q) q)
    (fun _ _ _ q => nos q)
    kRI_ok (Or.inr rfl) (by decide +kernel) (by decide +kernel) hf
def wX3_firstUnlike_46 : List En := [(.aload_n 0, 0, 0, 0), (.getfield 9, 76, 3, 4), (.iload 4, 0, 0, 0), (.aload_n 0, 0, 0, 0), (.getfield 25, 78, 3, 6), (.getfield 72, 40, 6, 1), (.iastore, 0, 0, 0), (.iinc 4 1, 0, 0, 0), (.goto (-41), 22, 0, 0)]
def fX3_firstUnlike_46 (k22 : Nat → Nat → Int32 → Int32 → aH → Option (Int32 × aH)) (v0 : Nat) (v1 : Nat) (v3 : Int32) (v4 : Int32) (h : aH) : Option (Int32 × aH) :=
  (gFR h 3 v0 4).bind fun t1 =>
  (gFR h 3 v0 6).bind fun t2 =>
  (gFI h 6 t2 1).bind fun t3 =>
  (aWI h t1 v4 t3).bind fun h4 =>
  k22 v0 v1 v3 (v4 + kI 1) h4
theorem tX3_firstUnlike_46 {d : Nat} {z : Int32 × aH} {k22 : Nat → Nat → Int32 → Int32 → aH → Option (Int32 × aH)} (hk22 : ∀ (v0 : Nat) (v1 : Nat) (v3 : Int32) (v4 : Int32) (h : aH), k22 v0 v1 v3 v4 h = some z → Ev (d + 3) none mX3_firstUnlike (0, 0) 22 [.ref v0, .ref v1, .null, .int v3, .int v4] [] h (QI z)) (v0 : Nat) (v1 : Nat) (v3 : Int32) (v4 : Int32) (h : aH) (hf : fX3_firstUnlike_46 k22 v0 v1 v3 v4 h = some z) : Ev (d + 3) none mX3_firstUnlike (0, 0) 46 [.ref v0, .ref v1, .null, .int v3, .int v4] [] h (QI z) := 
  go_ok (X := none) (blk := wX3_firstUnlike_46) (np := 66) (tt := 22) (kN := fun _ _ _ => none) (kT := fun xs h st => app [2, 2, 0, 1, 1] (fun v0 v1 v3 v4 => apS [] (k22 v0 v1 v3 v4 h) st) xs) (kR := kRI)
    (fun _ _ _ q => nos q)
    (fun xs h st q => jm [2, 2, 0, 1, 1] _ (fun v0 v1 v3 v4 q => apS_ok [] _ (fun st => Ev (d + 3) none mX3_firstUnlike (0, 0) 22 [.ref v0, .ref v1, .null, .int v3, .int v4] st h (QI z)) st (fun q => hk22 v0 v1 v3 v4 h q) q) q)
    kRI_ok (Or.inr rfl) (by decide +kernel) (by decide +kernel) hf
theorem kqX3_firstUnlike_43 : okC mX3_firstUnlike 43 (.invokevirtual 68) 83 145 0 5 = true := by decide +kernel
def fX3_firstUnlike_43 (k22 : Nat → Nat → Int32 → Int32 → aH → Option (Int32 × aH)) (v0 : Nat) (v1 : Nat) (v3 : Int32) (v4 : Int32) (s0 : Int32) (s1 : Int32) (s2 : Int32) (s3 : Nat) (s4 : Nat) (s5 : Nat) (h : aH) : Option (Int32 × aH) :=
  (isO h 6 s5).bind fun _ =>
  (gX6_hold s5 s4 s3 s2 s1 s0 h).bind fun r =>
  fX3_firstUnlike_46 k22 v0 v1 v3 v4 r
theorem tX3_firstUnlike_43 {d : Nat} {z : Int32 × aH} {k22 : Nat → Nat → Int32 → Int32 → aH → Option (Int32 × aH)} (hk22 : ∀ (v0 : Nat) (v1 : Nat) (v3 : Int32) (v4 : Int32) (h : aH), k22 v0 v1 v3 v4 h = some z → Ev (d + 3) none mX3_firstUnlike (0, 0) 22 [.ref v0, .ref v1, .null, .int v3, .int v4] [] h (QI z)) (v0 : Nat) (v1 : Nat) (v3 : Int32) (v4 : Int32) (s0 : Int32) (s1 : Int32) (s2 : Int32) (s3 : Nat) (s4 : Nat) (s5 : Nat) (h : aH) (hf : fX3_firstUnlike_43 k22 v0 v1 v3 v4 s0 s1 s2 s3 s4 s5 h = some z) : Ev (d + 3) none mX3_firstUnlike (0, 0) 43 [.ref v0, .ref v1, .null, .int v3, .int v4] [.int s0, .int s1, .int s2, .ref s3, .ref s4, .ref s5] h (QI z) := by
  obtain ⟨_, h1, hf⟩ := bnd hf
  obtain ⟨fs, ho⟩ := isO_ok h1
  obtain ⟨r, h2, hf⟩ := bnd hf
  refine ev_V kqX3_firstUnlike_43 jX6_hold (zX6_hold (d := d + 0) h2) ho rfl rfl (Nat.le_of_ble_eq_true rfl) rfl (as := [.ref s4, .ref s3, .int s2, .int s1, .int s0]) (rest := []) rfl (Nat.le_of_ble_eq_true rfl) (fun _ _ hq => ?_)
  obtain ⟨rfl, hh⟩ := hq
  rw [hh]
  exact jm [2, 2, 0, 1, 1] (fun v0 v1 v3 v4 => fX3_firstUnlike_46 k22 v0 v1 v3 v4 r) (fun v0 v1 v3 v4 q => tX3_firstUnlike_46 hk22 v0 v1 v3 v4 r q) hf
def wX3_firstUnlike_28 : List En := [(.aload_n 0, 0, 0, 0), (.getfield 25, 78, 3, 6), (.aload_n 1, 0, 0, 0), (.aload_n 0, 0, 0, 0), (.getfield 18, 77, 3, 5), (.iconst 0, 0, 0, 0), (.iconst 0, 0, 0, 0), (.aload_n 1, 0, 0, 0), (.getfield 65, 93, 9, 0)]
def fX3_firstUnlike_28 (k22 : Nat → Nat → Int32 → Int32 → aH → Option (Int32 × aH)) (v0 : Nat) (v1 : Nat) (v3 : Int32) (v4 : Int32) (h : aH) : Option (Int32 × aH) :=
  (gFR h 3 v0 6).bind fun t1 =>
  (gFR h 3 v0 5).bind fun t2 =>
  (gFI h 9 v1 0).bind fun t3 =>
  fX3_firstUnlike_43 k22 v0 v1 v3 v4 t3 (kI 0) (kI 0) t2 v1 t1 h
theorem tX3_firstUnlike_28 {d : Nat} {z : Int32 × aH} {k22 : Nat → Nat → Int32 → Int32 → aH → Option (Int32 × aH)} (hk22 : ∀ (v0 : Nat) (v1 : Nat) (v3 : Int32) (v4 : Int32) (h : aH), k22 v0 v1 v3 v4 h = some z → Ev (d + 3) none mX3_firstUnlike (0, 0) 22 [.ref v0, .ref v1, .null, .int v3, .int v4] [] h (QI z)) (v0 : Nat) (v1 : Nat) (v3 : Int32) (v4 : Int32) (h : aH) (hf : fX3_firstUnlike_28 k22 v0 v1 v3 v4 h = some z) : Ev (d + 3) none mX3_firstUnlike (0, 0) 28 [.ref v0, .ref v1, .null, .int v3, .int v4] [] h (QI z) := 
  go_ok (X := none) (blk := wX3_firstUnlike_28) (np := 43) (tt := 0) (kN := fun xs h st => app [2, 2, 0, 1, 1] (fun v0 v1 v3 v4 => apS [1, 1, 1, 2, 2, 2] (fun s0 s1 s2 s3 s4 s5 => fX3_firstUnlike_43 k22 v0 v1 v3 v4 s0 s1 s2 s3 s4 s5 h) st) xs) (kT := fun _ _ _ => none) (kR := kRI)
    (fun xs h st q => jm [2, 2, 0, 1, 1] _ (fun v0 v1 v3 v4 q => apS_ok [1, 1, 1, 2, 2, 2] _ (fun st => Ev (d + 3) none mX3_firstUnlike (0, 0) 43 [.ref v0, .ref v1, .null, .int v3, .int v4] st h (QI z)) st (fun s0 s1 s2 s3 s4 s5 q => tX3_firstUnlike_43 hk22 v0 v1 v3 v4 s0 s1 s2 s3 s4 s5 h q) q) q)
    (fun _ _ _ q => nos q)
    kRI_ok (Or.inr rfl) (by decide +kernel) (by decide +kernel) hf
def wX3_firstUnlike_22 : List En := [(.iload 4, 0, 0, 0), (.iload_n 3, 0, 0, 0), (.if_icmp .gt 41, 66, 0, 0)]
def fX3_firstUnlike_22 (k22 : Nat → Nat → Int32 → Int32 → aH → Option (Int32 × aH)) (v0 : Nat) (v1 : Nat) (v3 : Int32) (v4 : Int32) (h : aH) : Option (Int32 × aH) :=
  if v3 < v4 then fX3_firstUnlike_66 v0 v1 h else fX3_firstUnlike_28 k22 v0 v1 v3 v4 h
theorem tX3_firstUnlike_22 {d : Nat} {z : Int32 × aH} {k22 : Nat → Nat → Int32 → Int32 → aH → Option (Int32 × aH)} (hk22 : ∀ (v0 : Nat) (v1 : Nat) (v3 : Int32) (v4 : Int32) (h : aH), k22 v0 v1 v3 v4 h = some z → Ev (d + 3) none mX3_firstUnlike (0, 0) 22 [.ref v0, .ref v1, .null, .int v3, .int v4] [] h (QI z)) (v0 : Nat) (v1 : Nat) (v3 : Int32) (v4 : Int32) (h : aH) (hf : fX3_firstUnlike_22 k22 v0 v1 v3 v4 h = some z) : Ev (d + 3) none mX3_firstUnlike (0, 0) 22 [.ref v0, .ref v1, .null, .int v3, .int v4] [] h (QI z) := 
  go_ok (X := none) (blk := wX3_firstUnlike_22) (np := 28) (tt := 66) (kN := fun xs h st => app [2, 2, 0, 1, 1] (fun v0 v1 v3 v4 => apS [] (fX3_firstUnlike_28 k22 v0 v1 v3 v4 h) st) xs) (kT := fun xs h st => app [2, 2, 0, 0, 0] (fun v0 v1 => apS [] (fX3_firstUnlike_66 v0 v1 h) st) xs) (kR := kRI)
    (fun xs h st q => jm [2, 2, 0, 1, 1] _ (fun v0 v1 v3 v4 q => apS_ok [] _ (fun st => Ev (d + 3) none mX3_firstUnlike (0, 0) 28 [.ref v0, .ref v1, .null, .int v3, .int v4] st h (QI z)) st (fun q => tX3_firstUnlike_28 hk22 v0 v1 v3 v4 h q) q) q)
    (fun xs h st q => jm [2, 2, 0, 0, 0] _ (fun v0 v1 q => apS_ok [] _ (fun st => Ev (d + 3) none mX3_firstUnlike (0, 0) 66 [.ref v0, .ref v1, .null, .null, .null] st h (QI z)) st (fun q => tX3_firstUnlike_66 v0 v1 h q) q) q)
    kRI_ok (Or.inr rfl) (by decide +kernel) (by decide +kernel) hf
def lX3_firstUnlike_22 : Nat → Nat → Nat → Int32 → Int32 → aH → Option (Int32 × aH)
  | 0, _, _, _, _, _ => none
  | n + 1, v0, v1, v3, v4, h => fX3_firstUnlike_22 (lX3_firstUnlike_22 n) v0 v1 v3 v4 h
theorem uX3_firstUnlike_22 {d : Nat} {z : Int32 × aH} : ∀ (n : Nat) (v0 : Nat) (v1 : Nat) (v3 : Int32) (v4 : Int32) (h : aH), lX3_firstUnlike_22 n v0 v1 v3 v4 h = some z → Ev (d + 3) none mX3_firstUnlike (0, 0) 22 [.ref v0, .ref v1, .null, .int v3, .int v4] [] h (QI z) := by
  intro n
  induction n with
  | zero => intro _ _ _ _ _ q; exact nos (show (none : Option (Int32 × aH)) = some z from q)
  | succ n ih => intro v0 v1 v3 v4 h q; exact tX3_firstUnlike_22 ih v0 v1 v3 v4 h q
def wX3_firstUnlike_19 : List En := [(.iconst 1, 0, 0, 0), (.istore 4, 0, 0, 0)]
def fX3_firstUnlike_19 (v0 : Nat) (v1 : Nat) (v3 : Int32) (h : aH) : Option (Int32 × aH) :=
  lX3_firstUnlike_22 FU v0 v1 v3 (kI 1) h
theorem tX3_firstUnlike_19 {d : Nat} {z : Int32 × aH} (v0 : Nat) (v1 : Nat) (v3 : Int32) (h : aH) (hf : fX3_firstUnlike_19 v0 v1 v3 h = some z) : Ev (d + 3) none mX3_firstUnlike (0, 0) 19 [.ref v0, .ref v1, .null, .int v3, .null] [] h (QI z) := 
  go_ok (X := none) (blk := wX3_firstUnlike_19) (np := 22) (tt := 0) (kN := fun xs h st => app [2, 2, 0, 1, 1] (fun v0 v1 v3 v4 => apS [] (lX3_firstUnlike_22 FU v0 v1 v3 v4 h) st) xs) (kT := fun _ _ _ => none) (kR := kRI)
    (fun xs h st q => jm [2, 2, 0, 1, 1] _ (fun v0 v1 v3 v4 q => apS_ok [] _ (fun st => Ev (d + 3) none mX3_firstUnlike (0, 0) 22 [.ref v0, .ref v1, .null, .int v3, .int v4] st h (QI z)) st (fun q => uX3_firstUnlike_22 FU v0 v1 v3 v4 h q) q) q)
    (fun _ _ _ q => nos q)
    kRI_ok (Or.inr rfl) (by decide +kernel) (by decide +kernel) hf
theorem kqX3_firstUnlike_16 : okC mX3_firstUnlike 16 (.invokevirtual 61) 56 144 0 2 = true := by decide +kernel
def fX3_firstUnlike_16 (v0 : Nat) (v1 : Nat) (v3 : Int32) (s0 : Int32) (s1 : Nat) (s2 : Nat) (h : aH) : Option (Int32 × aH) :=
  (isO h 7 s2).bind fun _ =>
  (gX7_begin s2 s1 s0 h).bind fun r =>
  fX3_firstUnlike_19 v0 v1 v3 r
theorem tX3_firstUnlike_16 {d : Nat} {z : Int32 × aH} (v0 : Nat) (v1 : Nat) (v3 : Int32) (s0 : Int32) (s1 : Nat) (s2 : Nat) (h : aH) (hf : fX3_firstUnlike_16 v0 v1 v3 s0 s1 s2 h = some z) : Ev (d + 3) none mX3_firstUnlike (0, 0) 16 [.ref v0, .ref v1, .null, .int v3, .null] [.int s0, .ref s1, .ref s2] h (QI z) := by
  obtain ⟨_, h1, hf⟩ := bnd hf
  obtain ⟨fs, ho⟩ := isO_ok h1
  obtain ⟨r, h2, hf⟩ := bnd hf
  refine ev_V kqX3_firstUnlike_16 jX7_begin (zX7_begin (d := d + 1) h2) ho rfl rfl (Nat.le_of_ble_eq_true rfl) rfl (as := [.ref s1, .int s0]) (rest := []) rfl (Nat.le_of_ble_eq_true rfl) (fun _ _ hq => ?_)
  obtain ⟨rfl, hh⟩ := hq
  rw [hh]
  exact jm [2, 2, 0, 1, 0] (fun v0 v1 v3 => fX3_firstUnlike_19 v0 v1 v3 r) (fun v0 v1 v3 q => tX3_firstUnlike_19 v0 v1 v3 r q) hf
def wX3_firstUnlike_9 : List En := [(.istore_n 3, 0, 0, 0), (.aload_n 0, 0, 0, 0), (.getfield 18, 77, 3, 5), (.aload_n 1, 0, 0, 0), (.iload_n 2, 0, 0, 0)]
def fX3_firstUnlike_9 (v0 : Nat) (v1 : Nat) (v2 : Int32) (s0 : Int32) (h : aH) : Option (Int32 × aH) :=
  (gFR h 3 v0 5).bind fun t1 =>
  fX3_firstUnlike_16 v0 v1 s0 v2 v1 t1 h
theorem tX3_firstUnlike_9 {d : Nat} {z : Int32 × aH} (v0 : Nat) (v1 : Nat) (v2 : Int32) (s0 : Int32) (h : aH) (hf : fX3_firstUnlike_9 v0 v1 v2 s0 h = some z) : Ev (d + 3) none mX3_firstUnlike (0, 0) 9 [.ref v0, .ref v1, .int v2, .null, .null] [.int s0] h (QI z) := 
  go_ok (X := none) (blk := wX3_firstUnlike_9) (np := 16) (tt := 0) (kN := fun xs h st => app [2, 2, 0, 1, 0] (fun v0 v1 v3 => apS [1, 2, 2] (fun s0 s1 s2 => fX3_firstUnlike_16 v0 v1 v3 s0 s1 s2 h) st) xs) (kT := fun _ _ _ => none) (kR := kRI)
    (fun xs h st q => jm [2, 2, 0, 1, 0] _ (fun v0 v1 v3 q => apS_ok [1, 2, 2] _ (fun st => Ev (d + 3) none mX3_firstUnlike (0, 0) 16 [.ref v0, .ref v1, .null, .int v3, .null] st h (QI z)) st (fun s0 s1 s2 q => tX3_firstUnlike_16 v0 v1 v3 s0 s1 s2 h q) q) q)
    (fun _ _ _ q => nos q)
    kRI_ok (Or.inr rfl) (by decide +kernel) (by decide +kernel) hf
theorem kqX3_firstUnlike_6 : ckP mX3_firstUnlike 6 55 2 17 = true := by decide +kernel
def fX3_firstUnlike_6 (v0 : Nat) (v1 : Nat) (v2 : Int32) (s0 : Int32) (s1 : Int32) (h : aH) : Option (Int32 × aH) :=
  fX3_firstUnlike_9 v0 v1 v2 (if s0 < s1 then s0 else s1) h
theorem tX3_firstUnlike_6 {d : Nat} {z : Int32 × aH} (v0 : Nat) (v1 : Nat) (v2 : Int32) (s0 : Int32) (s1 : Int32) (h : aH) (hf : fX3_firstUnlike_6 v0 v1 v2 s0 s1 h = some z) : Ev (d + 3) none mX3_firstUnlike (0, 0) 6 [.ref v0, .ref v1, .int v2, .null, .null] [.int s0, .int s1] h (QI z) := 
  ev_mn kqX3_firstUnlike_6 rfl (Nat.le_of_ble_eq_true rfl) (jm [2, 2, 1, 0, 0] (fun v0 v1 v2 => fX3_firstUnlike_9 v0 v1 v2 (if s0 < s1 then s0 else s1) h) (fun v0 v1 v2 q => tX3_firstUnlike_9 v0 v1 v2 (if s0 < s1 then s0 else s1) h q) hf)
def wX3_firstUnlike_4 : List En := [(.bipush 60, 0, 0, 0)]
def fX3_firstUnlike_4 (v0 : Nat) (v1 : Nat) (v2 : Int32) (s0 : Int32) (h : aH) : Option (Int32 × aH) :=
  fX3_firstUnlike_6 v0 v1 v2 (kB 60) s0 h
theorem tX3_firstUnlike_4 {d : Nat} {z : Int32 × aH} (v0 : Nat) (v1 : Nat) (v2 : Int32) (s0 : Int32) (h : aH) (hf : fX3_firstUnlike_4 v0 v1 v2 s0 h = some z) : Ev (d + 3) none mX3_firstUnlike (0, 0) 4 [.ref v0, .ref v1, .int v2, .null, .null] [.int s0] h (QI z) := 
  go_ok (X := none) (blk := wX3_firstUnlike_4) (np := 6) (tt := 0) (kN := fun xs h st => app [2, 2, 1, 0, 0] (fun v0 v1 v2 => apS [1, 1] (fun s0 s1 => fX3_firstUnlike_6 v0 v1 v2 s0 s1 h) st) xs) (kT := fun _ _ _ => none) (kR := kRI)
    (fun xs h st q => jm [2, 2, 1, 0, 0] _ (fun v0 v1 v2 q => apS_ok [1, 1] _ (fun st => Ev (d + 3) none mX3_firstUnlike (0, 0) 6 [.ref v0, .ref v1, .int v2, .null, .null] st h (QI z)) st (fun s0 s1 q => tX3_firstUnlike_6 v0 v1 v2 s0 s1 h q) q) q)
    (fun _ _ _ q => nos q)
    kRI_ok (Or.inr rfl) (by decide +kernel) (by decide +kernel) hf
theorem kqX3_firstUnlike_1 : okC mX3_firstUnlike 1 (.invokevirtual 51) 137 143 0 0 = true := by decide +kernel
def fX3_firstUnlike_1 (v0 : Nat) (v1 : Nat) (v2 : Int32) (s0 : Nat) (h : aH) : Option (Int32 × aH) :=
  (isO h 9 s0).bind fun _ =>
  (gX9_lastHeardDay s0 h).bind fun r =>
  fX3_firstUnlike_4 v0 v1 v2 r.1 r.2
theorem tX3_firstUnlike_1 {d : Nat} {z : Int32 × aH} (v0 : Nat) (v1 : Nat) (v2 : Int32) (s0 : Nat) (h : aH) (hf : fX3_firstUnlike_1 v0 v1 v2 s0 h = some z) : Ev (d + 3) none mX3_firstUnlike (0, 0) 1 [.ref v0, .ref v1, .int v2, .null, .null] [.ref s0] h (QI z) := by
  obtain ⟨_, h1, hf⟩ := bnd hf
  obtain ⟨fs, ho⟩ := isO_ok h1
  obtain ⟨r, h2, hf⟩ := bnd hf
  refine ev_V kqX3_firstUnlike_1 jX9_lastHeardDay (zX9_lastHeardDay (d := d + 1) h2) ho rfl rfl (Nat.le_of_ble_eq_true rfl) rfl (as := []) (rest := []) rfl (Nat.le_of_ble_eq_true rfl) (fun _ _ hq => ?_)
  obtain ⟨rfl, rfl⟩ := hq
  exact jm [2, 2, 1, 0, 0] (fun v0 v1 v2 => fX3_firstUnlike_4 v0 v1 v2 r.1 r.2) (fun v0 v1 v2 q => tX3_firstUnlike_4 v0 v1 v2 r.1 r.2 q) hf
def wX3_firstUnlike_0 : List En := [(.aload_n 1, 0, 0, 0)]
def fX3_firstUnlike_0 (v0 : Nat) (v1 : Nat) (v2 : Int32) (h : aH) : Option (Int32 × aH) :=
  fX3_firstUnlike_1 v0 v1 v2 v1 h
theorem tX3_firstUnlike_0 {d : Nat} {z : Int32 × aH} (v0 : Nat) (v1 : Nat) (v2 : Int32) (h : aH) (hf : fX3_firstUnlike_0 v0 v1 v2 h = some z) : Ev (d + 3) none mX3_firstUnlike (0, 0) 0 [.ref v0, .ref v1, .int v2, .null, .null] [] h (QI z) := 
  go_ok (X := none) (blk := wX3_firstUnlike_0) (np := 1) (tt := 0) (kN := fun xs h st => app [2, 2, 1, 0, 0] (fun v0 v1 v2 => apS [2] (fun s0 => fX3_firstUnlike_1 v0 v1 v2 s0 h) st) xs) (kT := fun _ _ _ => none) (kR := kRI)
    (fun xs h st q => jm [2, 2, 1, 0, 0] _ (fun v0 v1 v2 q => apS_ok [2] _ (fun st => Ev (d + 3) none mX3_firstUnlike (0, 0) 1 [.ref v0, .ref v1, .int v2, .null, .null] st h (QI z)) st (fun s0 q => tX3_firstUnlike_1 v0 v1 v2 s0 h q) q) q)
    (fun _ _ _ q => nos q)
    kRI_ok (Or.inr rfl) (by decide +kernel) (by decide +kernel) hf
def gX3_firstUnlike (v0 : Nat) (v1 : Nat) (v2 : Int32) (h : aH) : Option (Int32 × aH) := fX3_firstUnlike_0 v0 v1 v2 h
theorem zX3_firstUnlike {d : Nat} {z : Int32 × aH} {v0 : Nat} {v1 : Nat} {v2 : Int32} {h : aH} (q : gX3_firstUnlike v0 v1 v2 h = some z) : CT (d + 3) mX3_firstUnlike (0, 0) [.ref v0, .ref v1, .int v2] h (QI z) :=
  ct_ev (by decide +kernel) (Nat.le_of_ble_eq_true rfl) QI_r (jm [2, 2, 1, 0, 0] (fun v0 v1 v2 => fX3_firstUnlike_0 v0 v1 v2 h) (fun v0 v1 v2 q => tX3_firstUnlike_0 v0 v1 v2 h q) q)
def wX3_weigh_107 : List En := [(.return_, 0, 0, 0)]
def fX3_weigh_107 (h : aH) : Option (aH) :=
  some h
theorem tX3_weigh_107 {d : Nat} {z : aH} (h : aH) (hf : fX3_weigh_107 h = some z) : Ev (d + 4) none mX3_weigh (0, 0) 107 [.null, .null, .null] [] h (QV z) := 
  go_ok (X := none) (blk := wX3_weigh_107) (np := 108) (tt := 0) (kN := fun _ _ _ => none) (kT := fun _ _ _ => none) (kR := kRV)
    (fun _ _ _ q => nos q)
    (fun _ _ _ q => nos q)
    kRV_ok (Or.inr rfl) (by decide +kernel) (by decide +kernel) hf
def wX3_weigh_102 : List En := [(.aload_n 0, 0, 0, 0), (.iconst 0, 0, 0, 0), (.putfield 39, 73, 3, 2)]
def fX3_weigh_102 (v0 : Nat) (h : aH) : Option (aH) :=
  (pWV h 3 v0 2 (.int (kI 0))).bind fun h1 =>
  fX3_weigh_107 h1
theorem tX3_weigh_102 {d : Nat} {z : aH} (v0 : Nat) (h : aH) (hf : fX3_weigh_102 v0 h = some z) : Ev (d + 4) none mX3_weigh (0, 0) 102 [.ref v0, .null, .null] [] h (QV z) := 
  go_ok (X := none) (blk := wX3_weigh_102) (np := 107) (tt := 0) (kN := fun xs h st => app [0, 0, 0] (apS [] (fX3_weigh_107 h) st) xs) (kT := fun _ _ _ => none) (kR := kRV)
    (fun xs h st q => jm [0, 0, 0] _ (fun q => apS_ok [] _ (fun st => Ev (d + 4) none mX3_weigh (0, 0) 107 [.null, .null, .null] st h (QV z)) st (fun q => tX3_weigh_107 h q) q) q)
    (fun _ _ _ q => nos q)
    kRV_ok (Or.inr rfl) (by decide +kernel) (by decide +kernel) hf
def wX3_weigh_95 : List En := [(.aload_n 0, 0, 0, 0), (.getfield 33, 69, 3, 0), (.ifCond .ne 8, 107, 0, 0)]
def fX3_weigh_95 (v0 : Nat) (h : aH) : Option (aH) :=
  (gFI h 3 v0 0).bind fun t1 =>
  if t1 = 0 then fX3_weigh_102 v0 h else fX3_weigh_107 h
theorem tX3_weigh_95 {d : Nat} {z : aH} (v0 : Nat) (h : aH) (hf : fX3_weigh_95 v0 h = some z) : Ev (d + 4) none mX3_weigh (0, 0) 95 [.ref v0, .null, .null] [] h (QV z) := 
  go_ok (X := none) (blk := wX3_weigh_95) (np := 102) (tt := 107) (kN := fun xs h st => app [2, 0, 0] (fun v0 => apS [] (fX3_weigh_102 v0 h) st) xs) (kT := fun xs h st => app [0, 0, 0] (apS [] (fX3_weigh_107 h) st) xs) (kR := kRV)
    (fun xs h st q => jm [2, 0, 0] _ (fun v0 q => apS_ok [] _ (fun st => Ev (d + 4) none mX3_weigh (0, 0) 102 [.ref v0, .null, .null] st h (QV z)) st (fun q => tX3_weigh_102 v0 h q) q) q)
    (fun xs h st q => jm [0, 0, 0] _ (fun q => apS_ok [] _ (fun st => Ev (d + 4) none mX3_weigh (0, 0) 107 [.null, .null, .null] st h (QV z)) st (fun q => tX3_weigh_107 h q) q) q)
    kRV_ok (Or.inr rfl) (by decide +kernel) (by decide +kernel) hf
def wX3_weigh_89 : List En := [(.iinc 2 1, 0, 0, 0), (.goto (-70), 22, 0, 0)]
def fX3_weigh_89 (k22 : Nat → Nat → Int32 → aH → Option (aH)) (v0 : Nat) (v1 : Nat) (v2 : Int32) (h : aH) : Option (aH) :=
  k22 v0 v1 (v2 + kI 1) h
theorem tX3_weigh_89 {d : Nat} {z : aH} {k22 : Nat → Nat → Int32 → aH → Option (aH)} (hk22 : ∀ (v0 : Nat) (v1 : Nat) (v2 : Int32) (h : aH), k22 v0 v1 v2 h = some z → Ev (d + 4) none mX3_weigh (0, 0) 22 [.ref v0, .ref v1, .int v2] [] h (QV z)) (v0 : Nat) (v1 : Nat) (v2 : Int32) (h : aH) (hf : fX3_weigh_89 k22 v0 v1 v2 h = some z) : Ev (d + 4) none mX3_weigh (0, 0) 89 [.ref v0, .ref v1, .int v2] [] h (QV z) := 
  go_ok (X := none) (blk := wX3_weigh_89) (np := 95) (tt := 22) (kN := fun _ _ _ => none) (kT := fun xs h st => app [2, 2, 1] (fun v0 v1 v2 => apS [] (k22 v0 v1 v2 h) st) xs) (kR := kRV)
    (fun _ _ _ q => nos q)
    (fun xs h st q => jm [2, 2, 1] _ (fun v0 v1 v2 q => apS_ok [] _ (fun st => Ev (d + 4) none mX3_weigh (0, 0) 22 [.ref v0, .ref v1, .int v2] st h (QV z)) st (fun q => hk22 v0 v1 v2 h q) q) q)
    kRV_ok (Or.inr rfl) (by decide +kernel) (by decide +kernel) hf
def wX3_weigh_47 : List En := [(.aload_n 0, 0, 0, 0), (.dup, 0, 0, 0), (.getfield 29, 75, 3, 3), (.iconst 1, 0, 0, 0), (.iload_n 2, 0, 0, 0), (.ishl, 0, 0, 0), (.ior, 0, 0, 0), (.putfield 29, 75, 3, 3), (.aload_n 0, 0, 0, 0), (.dup, 0, 0, 0), (.getfield 33, 69, 3, 0), (.iconst 1, 0, 0, 0), (.iadd, 0, 0, 0), (.putfield 33, 69, 3, 0), (.aload_n 0, 0, 0, 0), (.dup, 0, 0, 0), (.getfield 36, 71, 3, 1), (.iload_n 2, 0, 0, 0), (.ior, 0, 0, 0), (.putfield 36, 71, 3, 1), (.aload_n 0, 0, 0, 0), (.dup, 0, 0, 0), (.getfield 39, 73, 3, 2), (.iload_n 2, 0, 0, 0), (.iand, 0, 0, 0), (.putfield 39, 73, 3, 2)]
def fX3_weigh_47 (k22 : Nat → Nat → Int32 → aH → Option (aH)) (v0 : Nat) (v1 : Nat) (v2 : Int32) (h : aH) : Option (aH) :=
  (gFI h 3 v0 3).bind fun t1 =>
  (pWV h 3 v0 3 (.int (t1 ||| ((kI 1) <<< (v2 &&& 31))))).bind fun h2 =>
  (gFI h2 3 v0 0).bind fun t3 =>
  (pWV h2 3 v0 0 (.int (t3 + (kI 1)))).bind fun h4 =>
  (gFI h4 3 v0 1).bind fun t5 =>
  (pWV h4 3 v0 1 (.int (t5 ||| v2))).bind fun h6 =>
  (gFI h6 3 v0 2).bind fun t7 =>
  (pWV h6 3 v0 2 (.int (t7 &&& v2))).bind fun h8 =>
  fX3_weigh_89 k22 v0 v1 v2 h8
theorem tX3_weigh_47 {d : Nat} {z : aH} {k22 : Nat → Nat → Int32 → aH → Option (aH)} (hk22 : ∀ (v0 : Nat) (v1 : Nat) (v2 : Int32) (h : aH), k22 v0 v1 v2 h = some z → Ev (d + 4) none mX3_weigh (0, 0) 22 [.ref v0, .ref v1, .int v2] [] h (QV z)) (v0 : Nat) (v1 : Nat) (v2 : Int32) (h : aH) (hf : fX3_weigh_47 k22 v0 v1 v2 h = some z) : Ev (d + 4) none mX3_weigh (0, 0) 47 [.ref v0, .ref v1, .int v2] [] h (QV z) := 
  go_ok (X := none) (blk := wX3_weigh_47) (np := 89) (tt := 0) (kN := fun xs h st => app [2, 2, 1] (fun v0 v1 v2 => apS [] (fX3_weigh_89 k22 v0 v1 v2 h) st) xs) (kT := fun _ _ _ => none) (kR := kRV)
    (fun xs h st q => jm [2, 2, 1] _ (fun v0 v1 v2 q => apS_ok [] _ (fun st => Ev (d + 4) none mX3_weigh (0, 0) 89 [.ref v0, .ref v1, .int v2] st h (QV z)) st (fun q => tX3_weigh_89 hk22 v0 v1 v2 h q) q) q)
    (fun _ _ _ q => nos q)
    kRV_ok (Or.inr rfl) (by decide +kernel) (by decide +kernel) hf
def wX3_weigh_44 : List En := [(.ifCond .ge 45, 89, 0, 0)]
def fX3_weigh_44 (k22 : Nat → Nat → Int32 → aH → Option (aH)) (v0 : Nat) (v1 : Nat) (v2 : Int32) (s0 : Int32) (h : aH) : Option (aH) :=
  if s0 < 0 then fX3_weigh_47 k22 v0 v1 v2 h else fX3_weigh_89 k22 v0 v1 v2 h
theorem tX3_weigh_44 {d : Nat} {z : aH} {k22 : Nat → Nat → Int32 → aH → Option (aH)} (hk22 : ∀ (v0 : Nat) (v1 : Nat) (v2 : Int32) (h : aH), k22 v0 v1 v2 h = some z → Ev (d + 4) none mX3_weigh (0, 0) 22 [.ref v0, .ref v1, .int v2] [] h (QV z)) (v0 : Nat) (v1 : Nat) (v2 : Int32) (s0 : Int32) (h : aH) (hf : fX3_weigh_44 k22 v0 v1 v2 s0 h = some z) : Ev (d + 4) none mX3_weigh (0, 0) 44 [.ref v0, .ref v1, .int v2] [.int s0] h (QV z) := 
  go_ok (X := none) (blk := wX3_weigh_44) (np := 47) (tt := 89) (kN := fun xs h st => app [2, 2, 1] (fun v0 v1 v2 => apS [] (fX3_weigh_47 k22 v0 v1 v2 h) st) xs) (kT := fun xs h st => app [2, 2, 1] (fun v0 v1 v2 => apS [] (fX3_weigh_89 k22 v0 v1 v2 h) st) xs) (kR := kRV)
    (fun xs h st q => jm [2, 2, 1] _ (fun v0 v1 v2 q => apS_ok [] _ (fun st => Ev (d + 4) none mX3_weigh (0, 0) 47 [.ref v0, .ref v1, .int v2] st h (QV z)) st (fun q => tX3_weigh_47 hk22 v0 v1 v2 h q) q) q)
    (fun xs h st q => jm [2, 2, 1] _ (fun v0 v1 v2 q => apS_ok [] _ (fun st => Ev (d + 4) none mX3_weigh (0, 0) 89 [.ref v0, .ref v1, .int v2] st h (QV z)) st (fun q => tX3_weigh_89 hk22 v0 v1 v2 h q) q) q)
    kRV_ok (Or.inr rfl) (by decide +kernel) (by decide +kernel) hf
theorem kqX3_weigh_41 : okC mX3_weigh 41 (.invokevirtual 47) 136 142 0 2 = true := by decide +kernel
def fX3_weigh_41 (k22 : Nat → Nat → Int32 → aH → Option (aH)) (v0 : Nat) (v1 : Nat) (v2 : Int32) (s0 : Int32) (s1 : Nat) (s2 : Nat) (h : aH) : Option (aH) :=
  (isO h 3 s2).bind fun _ =>
  (gX3_firstUnlike s2 s1 s0 h).bind fun r =>
  fX3_weigh_44 k22 v0 v1 v2 r.1 r.2
theorem tX3_weigh_41 {d : Nat} {z : aH} {k22 : Nat → Nat → Int32 → aH → Option (aH)} (hk22 : ∀ (v0 : Nat) (v1 : Nat) (v2 : Int32) (h : aH), k22 v0 v1 v2 h = some z → Ev (d + 4) none mX3_weigh (0, 0) 22 [.ref v0, .ref v1, .int v2] [] h (QV z)) (v0 : Nat) (v1 : Nat) (v2 : Int32) (s0 : Int32) (s1 : Nat) (s2 : Nat) (h : aH) (hf : fX3_weigh_41 k22 v0 v1 v2 s0 s1 s2 h = some z) : Ev (d + 4) none mX3_weigh (0, 0) 41 [.ref v0, .ref v1, .int v2] [.int s0, .ref s1, .ref s2] h (QV z) := by
  obtain ⟨_, h1, hf⟩ := bnd hf
  obtain ⟨fs, ho⟩ := isO_ok h1
  obtain ⟨r, h2, hf⟩ := bnd hf
  refine ev_V kqX3_weigh_41 jX3_firstUnlike (zX3_firstUnlike (d := d + 0) h2) ho rfl rfl (Nat.le_of_ble_eq_true rfl) rfl (as := [.ref s1, .int s0]) (rest := []) rfl (Nat.le_of_ble_eq_true rfl) (fun _ _ hq => ?_)
  obtain ⟨rfl, rfl⟩ := hq
  exact jm [2, 2, 1] (fun v0 v1 v2 => fX3_weigh_44 k22 v0 v1 v2 r.1 r.2) (fun v0 v1 v2 q => tX3_weigh_44 hk22 v0 v1 v2 r.1 r.2 q) hf
def wX3_weigh_38 : List En := [(.aload_n 0, 0, 0, 0), (.aload_n 1, 0, 0, 0), (.iload_n 2, 0, 0, 0)]
def fX3_weigh_38 (k22 : Nat → Nat → Int32 → aH → Option (aH)) (v0 : Nat) (v1 : Nat) (v2 : Int32) (h : aH) : Option (aH) :=
  fX3_weigh_41 k22 v0 v1 v2 v2 v1 v0 h
theorem tX3_weigh_38 {d : Nat} {z : aH} {k22 : Nat → Nat → Int32 → aH → Option (aH)} (hk22 : ∀ (v0 : Nat) (v1 : Nat) (v2 : Int32) (h : aH), k22 v0 v1 v2 h = some z → Ev (d + 4) none mX3_weigh (0, 0) 22 [.ref v0, .ref v1, .int v2] [] h (QV z)) (v0 : Nat) (v1 : Nat) (v2 : Int32) (h : aH) (hf : fX3_weigh_38 k22 v0 v1 v2 h = some z) : Ev (d + 4) none mX3_weigh (0, 0) 38 [.ref v0, .ref v1, .int v2] [] h (QV z) := 
  go_ok (X := none) (blk := wX3_weigh_38) (np := 41) (tt := 0) (kN := fun xs h st => app [2, 2, 1] (fun v0 v1 v2 => apS [1, 2, 2] (fun s0 s1 s2 => fX3_weigh_41 k22 v0 v1 v2 s0 s1 s2 h) st) xs) (kT := fun _ _ _ => none) (kR := kRV)
    (fun xs h st q => jm [2, 2, 1] _ (fun v0 v1 v2 q => apS_ok [1, 2, 2] _ (fun st => Ev (d + 4) none mX3_weigh (0, 0) 41 [.ref v0, .ref v1, .int v2] st h (QV z)) st (fun s0 s1 s2 q => tX3_weigh_41 hk22 v0 v1 v2 s0 s1 s2 h q) q) q)
    (fun _ _ _ q => nos q)
    kRV_ok (Or.inr rfl) (by decide +kernel) (by decide +kernel) hf
def wX3_weigh_32 : List En := [(.iload_n 2, 0, 0, 0), (.bipush 16, 0, 0, 0), (.if_icmp .ge 60, 95, 0, 0)]
def fX3_weigh_32 (k22 : Nat → Nat → Int32 → aH → Option (aH)) (v0 : Nat) (v1 : Nat) (v2 : Int32) (h : aH) : Option (aH) :=
  if v2 < (kB 16) then fX3_weigh_38 k22 v0 v1 v2 h else fX3_weigh_95 v0 h
theorem tX3_weigh_32 {d : Nat} {z : aH} {k22 : Nat → Nat → Int32 → aH → Option (aH)} (hk22 : ∀ (v0 : Nat) (v1 : Nat) (v2 : Int32) (h : aH), k22 v0 v1 v2 h = some z → Ev (d + 4) none mX3_weigh (0, 0) 22 [.ref v0, .ref v1, .int v2] [] h (QV z)) (v0 : Nat) (v1 : Nat) (v2 : Int32) (h : aH) (hf : fX3_weigh_32 k22 v0 v1 v2 h = some z) : Ev (d + 4) none mX3_weigh (0, 0) 32 [.ref v0, .ref v1, .int v2] [] h (QV z) := 
  go_ok (X := none) (blk := wX3_weigh_32) (np := 38) (tt := 95) (kN := fun xs h st => app [2, 2, 1] (fun v0 v1 v2 => apS [] (fX3_weigh_38 k22 v0 v1 v2 h) st) xs) (kT := fun xs h st => app [2, 0, 0] (fun v0 => apS [] (fX3_weigh_95 v0 h) st) xs) (kR := kRV)
    (fun xs h st q => jm [2, 2, 1] _ (fun v0 v1 v2 q => apS_ok [] _ (fun st => Ev (d + 4) none mX3_weigh (0, 0) 38 [.ref v0, .ref v1, .int v2] st h (QV z)) st (fun q => tX3_weigh_38 hk22 v0 v1 v2 h q) q) q)
    (fun xs h st q => jm [2, 0, 0] _ (fun v0 q => apS_ok [] _ (fun st => Ev (d + 4) none mX3_weigh (0, 0) 95 [.ref v0, .null, .null] st h (QV z)) st (fun q => tX3_weigh_95 v0 h q) q) q)
    kRV_ok (Or.inr rfl) (by decide +kernel) (by decide +kernel) hf
def wX3_weigh_22 : List En := [(.iload_n 2, 0, 0, 0), (.iconst 1, 0, 0, 0), (.aload_n 1, 0, 0, 0), (.getfield 42, 120, 9, 6), (.ishl, 0, 0, 0), (.if_icmp .ge 66, 95, 0, 0)]
def fX3_weigh_22 (k22 : Nat → Nat → Int32 → aH → Option (aH)) (v0 : Nat) (v1 : Nat) (v2 : Int32) (h : aH) : Option (aH) :=
  (gFI h 9 v1 6).bind fun t1 =>
  if v2 < ((kI 1) <<< (t1 &&& 31)) then fX3_weigh_32 k22 v0 v1 v2 h else fX3_weigh_95 v0 h
theorem tX3_weigh_22 {d : Nat} {z : aH} {k22 : Nat → Nat → Int32 → aH → Option (aH)} (hk22 : ∀ (v0 : Nat) (v1 : Nat) (v2 : Int32) (h : aH), k22 v0 v1 v2 h = some z → Ev (d + 4) none mX3_weigh (0, 0) 22 [.ref v0, .ref v1, .int v2] [] h (QV z)) (v0 : Nat) (v1 : Nat) (v2 : Int32) (h : aH) (hf : fX3_weigh_22 k22 v0 v1 v2 h = some z) : Ev (d + 4) none mX3_weigh (0, 0) 22 [.ref v0, .ref v1, .int v2] [] h (QV z) := 
  go_ok (X := none) (blk := wX3_weigh_22) (np := 32) (tt := 95) (kN := fun xs h st => app [2, 2, 1] (fun v0 v1 v2 => apS [] (fX3_weigh_32 k22 v0 v1 v2 h) st) xs) (kT := fun xs h st => app [2, 0, 0] (fun v0 => apS [] (fX3_weigh_95 v0 h) st) xs) (kR := kRV)
    (fun xs h st q => jm [2, 2, 1] _ (fun v0 v1 v2 q => apS_ok [] _ (fun st => Ev (d + 4) none mX3_weigh (0, 0) 32 [.ref v0, .ref v1, .int v2] st h (QV z)) st (fun q => tX3_weigh_32 hk22 v0 v1 v2 h q) q) q)
    (fun xs h st q => jm [2, 0, 0] _ (fun v0 q => apS_ok [] _ (fun st => Ev (d + 4) none mX3_weigh (0, 0) 95 [.ref v0, .null, .null] st h (QV z)) st (fun q => tX3_weigh_95 v0 h q) q) q)
    kRV_ok (Or.inr rfl) (by decide +kernel) (by decide +kernel) hf
def lX3_weigh_22 : Nat → Nat → Nat → Int32 → aH → Option (aH)
  | 0, _, _, _, _ => none
  | n + 1, v0, v1, v2, h => fX3_weigh_22 (lX3_weigh_22 n) v0 v1 v2 h
theorem uX3_weigh_22 {d : Nat} {z : aH} : ∀ (n : Nat) (v0 : Nat) (v1 : Nat) (v2 : Int32) (h : aH), lX3_weigh_22 n v0 v1 v2 h = some z → Ev (d + 4) none mX3_weigh (0, 0) 22 [.ref v0, .ref v1, .int v2] [] h (QV z) := by
  intro n
  induction n with
  | zero => intro _ _ _ _ q; exact nos (show (none : Option (aH)) = some z from q)
  | succ n ih => intro v0 v1 v2 h q; exact tX3_weigh_22 ih v0 v1 v2 h q
def wX3_weigh_0 : List En := [(.aload_n 0, 0, 0, 0), (.iconst 0, 0, 0, 0), (.putfield 29, 75, 3, 3), (.aload_n 0, 0, 0, 0), (.iconst 0, 0, 0, 0), (.putfield 33, 69, 3, 0), (.aload_n 0, 0, 0, 0), (.iconst 0, 0, 0, 0), (.putfield 36, 71, 3, 1), (.aload_n 0, 0, 0, 0), (.iconst (-1), 0, 0, 0), (.putfield 39, 73, 3, 2), (.iconst 0, 0, 0, 0), (.istore_n 2, 0, 0, 0)]
def fX3_weigh_0 (v0 : Nat) (v1 : Nat) (h : aH) : Option (aH) :=
  (pWV h 3 v0 3 (.int (kI 0))).bind fun h1 =>
  (pWV h1 3 v0 0 (.int (kI 0))).bind fun h2 =>
  (pWV h2 3 v0 1 (.int (kI 0))).bind fun h3 =>
  (pWV h3 3 v0 2 (.int (kI (-1)))).bind fun h4 =>
  lX3_weigh_22 FU v0 v1 (kI 0) h4
theorem tX3_weigh_0 {d : Nat} {z : aH} (v0 : Nat) (v1 : Nat) (h : aH) (hf : fX3_weigh_0 v0 v1 h = some z) : Ev (d + 4) none mX3_weigh (0, 0) 0 [.ref v0, .ref v1, .null] [] h (QV z) := 
  go_ok (X := none) (blk := wX3_weigh_0) (np := 22) (tt := 0) (kN := fun xs h st => app [2, 2, 1] (fun v0 v1 v2 => apS [] (lX3_weigh_22 FU v0 v1 v2 h) st) xs) (kT := fun _ _ _ => none) (kR := kRV)
    (fun xs h st q => jm [2, 2, 1] _ (fun v0 v1 v2 q => apS_ok [] _ (fun st => Ev (d + 4) none mX3_weigh (0, 0) 22 [.ref v0, .ref v1, .int v2] st h (QV z)) st (fun q => uX3_weigh_22 FU v0 v1 v2 h q) q) q)
    (fun _ _ _ q => nos q)
    kRV_ok (Or.inr rfl) (by decide +kernel) (by decide +kernel) hf
def gX3_weigh (v0 : Nat) (v1 : Nat) (h : aH) : Option (aH) := fX3_weigh_0 v0 v1 h
theorem zX3_weigh {d : Nat} {z : aH} {v0 : Nat} {v1 : Nat} {h : aH} (q : gX3_weigh v0 v1 h = some z) : CT (d + 4) mX3_weigh (0, 0) [.ref v0, .ref v1] h (QV z) :=
  ct_ev (by decide +kernel) (Nat.le_of_ble_eq_true rfl) QV_r (jm [2, 2, 0] (fun v0 v1 => fX3_weigh_0 v0 v1 h) (fun v0 v1 q => tX3_weigh_0 v0 v1 h q) q)
def wX10_fits_35 : List En := [(.ireturn, 0, 0, 0)]
def fX10_fits_35 (s0 : Int32) (h : aH) : Option (Int32 × aH) :=
  some (s0, h)
theorem tX10_fits_35 {d : Nat} {z : Int32 × aH} (s0 : Int32) (h : aH) (hf : fX10_fits_35 s0 h = some z) : Ev (d + 5) none mX10_fits (0, 0) 35 [.null] [.int s0] h (QI z) := 
  go_ok (X := none) (blk := wX10_fits_35) (np := 36) (tt := 0) (kN := fun _ _ _ => none) (kT := fun _ _ _ => none) (kR := kRI)
    (fun _ _ _ q => nos q)
    (fun _ _ _ q => nos q)
    kRI_ok (Or.inr rfl) (by decide +kernel) (by decide +kernel) hf
theorem kqX10_fits_32 : okC mX10_fits 32 (.invokevirtual 119) 60 44 0 1 = true := by decide +kernel
def fX10_fits_32 (s0 : Int32) (s1 : Nat) (h : aH) : Option (Int32 × aH) :=
  (isO h 10 s1).bind fun _ =>
  (gX10_answer s1 s0 h).bind fun r =>
  fX10_fits_35 r.1 r.2
theorem tX10_fits_32 {d : Nat} {z : Int32 × aH} (s0 : Int32) (s1 : Nat) (h : aH) (hf : fX10_fits_32 s0 s1 h = some z) : Ev (d + 5) none mX10_fits (0, 0) 32 [.null] [.int s0, .ref s1] h (QI z) := by
  obtain ⟨_, h1, hf⟩ := bnd hf
  obtain ⟨fs, ho⟩ := isO_ok h1
  obtain ⟨r, h2, hf⟩ := bnd hf
  refine ev_V kqX10_fits_32 jX10_answer (zX10_answer (d := d + 4) h2) ho rfl rfl (Nat.le_of_ble_eq_true rfl) rfl (as := [.int s0]) (rest := []) rfl (Nat.le_of_ble_eq_true rfl) (fun _ _ hq => ?_)
  obtain ⟨rfl, rfl⟩ := hq
  exact jm [0] (fX10_fits_35 r.1 r.2) (fun q => tX10_fits_35 r.1 r.2 q) hf
def wX10_fits_24 : List En := [(.aload_n 0, 0, 0, 0), (.aload_n 0, 0, 0, 0), (.getfield 33, 165, 10, 3), (.getfield 274, 70, 3, 0)]
def fX10_fits_24 (v0 : Nat) (h : aH) : Option (Int32 × aH) :=
  (gFR h 10 v0 3).bind fun t1 =>
  (gFI h 3 t1 0).bind fun t2 =>
  fX10_fits_32 t2 v0 h
theorem tX10_fits_24 {d : Nat} {z : Int32 × aH} (v0 : Nat) (h : aH) (hf : fX10_fits_24 v0 h = some z) : Ev (d + 5) none mX10_fits (0, 0) 24 [.ref v0] [] h (QI z) := 
  go_ok (X := none) (blk := wX10_fits_24) (np := 32) (tt := 0) (kN := fun xs h st => app [0] (apS [1, 2] (fun s0 s1 => fX10_fits_32 s0 s1 h) st) xs) (kT := fun _ _ _ => none) (kR := kRI)
    (fun xs h st q => jm [0] _ (fun q => apS_ok [1, 2] _ (fun st => Ev (d + 5) none mX10_fits (0, 0) 32 [.null] st h (QI z)) st (fun s0 s1 q => tX10_fits_32 s0 s1 h q) q) q)
    (fun _ _ _ q => nos q)
    kRI_ok (Or.inr rfl) (by decide +kernel) (by decide +kernel) hf
theorem kqX10_fits_21 : okC mX10_fits 21 (.invokevirtual 270) 135 141 0 1 = true := by decide +kernel
def fX10_fits_21 (v0 : Nat) (s0 : Nat) (s1 : Nat) (h : aH) : Option (Int32 × aH) :=
  (isO h 3 s1).bind fun _ =>
  (gX3_weigh s1 s0 h).bind fun r =>
  fX10_fits_24 v0 r
theorem tX10_fits_21 {d : Nat} {z : Int32 × aH} (v0 : Nat) (s0 : Nat) (s1 : Nat) (h : aH) (hf : fX10_fits_21 v0 s0 s1 h = some z) : Ev (d + 5) none mX10_fits (0, 0) 21 [.ref v0] [.ref s0, .ref s1] h (QI z) := by
  obtain ⟨_, h1, hf⟩ := bnd hf
  obtain ⟨fs, ho⟩ := isO_ok h1
  obtain ⟨r, h2, hf⟩ := bnd hf
  refine ev_V kqX10_fits_21 jX3_weigh (zX3_weigh (d := d + 0) h2) ho rfl rfl (Nat.le_of_ble_eq_true rfl) rfl (as := [.ref s0]) (rest := []) rfl (Nat.le_of_ble_eq_true rfl) (fun _ _ hq => ?_)
  obtain ⟨rfl, hh⟩ := hq
  rw [hh]
  exact jm [2] (fun v0 => fX10_fits_24 v0 r) (fun v0 q => tX10_fits_24 v0 r q) hf
def wX10_fits_13 : List En := [(.aload_n 0, 0, 0, 0), (.getfield 33, 165, 10, 3), (.aload_n 0, 0, 0, 0), (.getfield 75, 171, 10, 9)]
def fX10_fits_13 (v0 : Nat) (h : aH) : Option (Int32 × aH) :=
  (gFR h 10 v0 3).bind fun t1 =>
  (gFR h 10 v0 9).bind fun t2 =>
  fX10_fits_21 v0 t2 t1 h
theorem tX10_fits_13 {d : Nat} {z : Int32 × aH} (v0 : Nat) (h : aH) (hf : fX10_fits_13 v0 h = some z) : Ev (d + 5) none mX10_fits (0, 0) 13 [.ref v0] [] h (QI z) := 
  go_ok (X := none) (blk := wX10_fits_13) (np := 21) (tt := 0) (kN := fun xs h st => app [2] (fun v0 => apS [2, 2] (fun s0 s1 => fX10_fits_21 v0 s0 s1 h) st) xs) (kT := fun _ _ _ => none) (kR := kRI)
    (fun xs h st q => jm [2] _ (fun v0 q => apS_ok [2, 2] _ (fun st => Ev (d + 5) none mX10_fits (0, 0) 21 [.ref v0] st h (QI z)) st (fun s0 s1 q => tX10_fits_21 v0 s0 s1 h q) q) q)
    (fun _ _ _ q => nos q)
    kRI_ok (Or.inr rfl) (by decide +kernel) (by decide +kernel) hf
def wX10_fits_12 : List En := [(.ireturn, 0, 0, 0)]
def fX10_fits_12 (s0 : Int32) (h : aH) : Option (Int32 × aH) :=
  some (s0, h)
theorem tX10_fits_12 {d : Nat} {z : Int32 × aH} (s0 : Int32) (h : aH) (hf : fX10_fits_12 s0 h = some z) : Ev (d + 5) none mX10_fits (0, 0) 12 [.null] [.int s0] h (QI z) := 
  go_ok (X := none) (blk := wX10_fits_12) (np := 13) (tt := 0) (kN := fun _ _ _ => none) (kT := fun _ _ _ => none) (kR := kRI)
    (fun _ _ _ q => nos q)
    (fun _ _ _ q => nos q)
    kRI_ok (Or.inr rfl) (by decide +kernel) (by decide +kernel) hf
theorem kqX10_fits_9 : okC mX10_fits 9 (.invokevirtual 94) 15 8 0 1 = true := by decide +kernel
def fX10_fits_9 (s0 : Int32) (s1 : Nat) (h : aH) : Option (Int32 × aH) :=
  (isO h 10 s1).bind fun _ =>
  (gX10_refuse s1 s0 h).bind fun r =>
  fX10_fits_12 r.1 r.2
theorem tX10_fits_9 {d : Nat} {z : Int32 × aH} (s0 : Int32) (s1 : Nat) (h : aH) (hf : fX10_fits_9 s0 s1 h = some z) : Ev (d + 5) none mX10_fits (0, 0) 9 [.null] [.int s0, .ref s1] h (QI z) := by
  obtain ⟨_, h1, hf⟩ := bnd hf
  obtain ⟨fs, ho⟩ := isO_ok h1
  obtain ⟨r, h2, hf⟩ := bnd hf
  refine ev_V kqX10_fits_9 jX10_refuse (zX10_refuse (d := d + 4) h2) ho rfl rfl (Nat.le_of_ble_eq_true rfl) rfl (as := [.int s0]) (rest := []) rfl (Nat.le_of_ble_eq_true rfl) (fun _ _ hq => ?_)
  obtain ⟨rfl, rfl⟩ := hq
  exact jm [0] (fX10_fits_12 r.1 r.2) (fun q => tX10_fits_12 r.1 r.2 q) hf
def wX10_fits_7 : List En := [(.aload_n 0, 0, 0, 0), (.iconst 1, 0, 0, 0)]
def fX10_fits_7 (v0 : Nat) (h : aH) : Option (Int32 × aH) :=
  fX10_fits_9 (kI 1) v0 h
theorem tX10_fits_7 {d : Nat} {z : Int32 × aH} (v0 : Nat) (h : aH) (hf : fX10_fits_7 v0 h = some z) : Ev (d + 5) none mX10_fits (0, 0) 7 [.ref v0] [] h (QI z) := 
  go_ok (X := none) (blk := wX10_fits_7) (np := 9) (tt := 0) (kN := fun xs h st => app [0] (apS [1, 2] (fun s0 s1 => fX10_fits_9 s0 s1 h) st) xs) (kT := fun _ _ _ => none) (kR := kRI)
    (fun xs h st q => jm [0] _ (fun q => apS_ok [1, 2] _ (fun st => Ev (d + 5) none mX10_fits (0, 0) 9 [.null] st h (QI z)) st (fun s0 s1 q => tX10_fits_9 s0 s1 h q) q) q)
    (fun _ _ _ q => nos q)
    kRI_ok (Or.inr rfl) (by decide +kernel) (by decide +kernel) hf
def wX10_fits_4 : List En := [(.ifCond .eq 9, 13, 0, 0)]
def fX10_fits_4 (v0 : Nat) (s0 : Int32) (h : aH) : Option (Int32 × aH) :=
  if s0 = 0 then fX10_fits_13 v0 h else fX10_fits_7 v0 h
theorem tX10_fits_4 {d : Nat} {z : Int32 × aH} (v0 : Nat) (s0 : Int32) (h : aH) (hf : fX10_fits_4 v0 s0 h = some z) : Ev (d + 5) none mX10_fits (0, 0) 4 [.ref v0] [.int s0] h (QI z) := 
  go_ok (X := none) (blk := wX10_fits_4) (np := 7) (tt := 13) (kN := fun xs h st => app [2] (fun v0 => apS [] (fX10_fits_7 v0 h) st) xs) (kT := fun xs h st => app [2] (fun v0 => apS [] (fX10_fits_13 v0 h) st) xs) (kR := kRI)
    (fun xs h st q => jm [2] _ (fun v0 q => apS_ok [] _ (fun st => Ev (d + 5) none mX10_fits (0, 0) 7 [.ref v0] st h (QI z)) st (fun q => tX10_fits_7 v0 h q) q) q)
    (fun xs h st q => jm [2] _ (fun v0 q => apS_ok [] _ (fun st => Ev (d + 5) none mX10_fits (0, 0) 13 [.ref v0] st h (QI z)) st (fun q => tX10_fits_13 v0 h q) q) q)
    kRI_ok (Or.inr rfl) (by decide +kernel) (by decide +kernel) hf
theorem kqX10_fits_1 : okC mX10_fits 1 (.invokevirtual 159) 68 52 0 0 = true := by decide +kernel
def fX10_fits_1 (v0 : Nat) (s0 : Nat) (h : aH) : Option (Int32 × aH) :=
  (isO h 10 s0).bind fun _ =>
  (gX10_lacksTable s0 h).bind fun r =>
  fX10_fits_4 v0 r.1 r.2
theorem tX10_fits_1 {d : Nat} {z : Int32 × aH} (v0 : Nat) (s0 : Nat) (h : aH) (hf : fX10_fits_1 v0 s0 h = some z) : Ev (d + 5) none mX10_fits (0, 0) 1 [.ref v0] [.ref s0] h (QI z) := by
  obtain ⟨_, h1, hf⟩ := bnd hf
  obtain ⟨fs, ho⟩ := isO_ok h1
  obtain ⟨r, h2, hf⟩ := bnd hf
  refine ev_V kqX10_fits_1 jX10_lacksTable (zX10_lacksTable (d := d + 4) h2) ho rfl rfl (Nat.le_of_ble_eq_true rfl) rfl (as := []) (rest := []) rfl (Nat.le_of_ble_eq_true rfl) (fun _ _ hq => ?_)
  obtain ⟨-, rfl, rfl⟩ := hq
  exact jm [2] (fun v0 => fX10_fits_4 v0 r.1 r.2) (fun v0 q => tX10_fits_4 v0 r.1 r.2 q) hf
def wX10_fits_0 : List En := [(.aload_n 0, 0, 0, 0)]
def fX10_fits_0 (v0 : Nat) (h : aH) : Option (Int32 × aH) :=
  fX10_fits_1 v0 v0 h
theorem tX10_fits_0 {d : Nat} {z : Int32 × aH} (v0 : Nat) (h : aH) (hf : fX10_fits_0 v0 h = some z) : Ev (d + 5) none mX10_fits (0, 0) 0 [.ref v0] [] h (QI z) := 
  go_ok (X := none) (blk := wX10_fits_0) (np := 1) (tt := 0) (kN := fun xs h st => app [2] (fun v0 => apS [2] (fun s0 => fX10_fits_1 v0 s0 h) st) xs) (kT := fun _ _ _ => none) (kR := kRI)
    (fun xs h st q => jm [2] _ (fun v0 q => apS_ok [2] _ (fun st => Ev (d + 5) none mX10_fits (0, 0) 1 [.ref v0] st h (QI z)) st (fun s0 q => tX10_fits_1 v0 s0 h q) q) q)
    (fun _ _ _ q => nos q)
    kRI_ok (Or.inr rfl) (by decide +kernel) (by decide +kernel) hf
def gX10_fits (v0 : Nat) (h : aH) : Option (Int32 × aH) := fX10_fits_0 v0 h
theorem zX10_fits {d : Nat} {z : Int32 × aH} {v0 : Nat} {h : aH} (q : gX10_fits v0 h = some z) : CT (d + 5) mX10_fits (0, 0) [.ref v0] h (QI z) :=
  ct_ev (by decide +kernel) (Nat.le_of_ble_eq_true rfl) QI_r (jm [2] (fun v0 => fX10_fits_0 v0 h) (fun v0 q => tX10_fits_0 v0 h q) q)
def wX3_isFitting_17 : List En := [(.ireturn, 0, 0, 0)]
def fX3_isFitting_17 (s0 : Int32) (h : aH) : Option (Int32 × aH) :=
  if s0 = 0 ∨ s0 = 1 then some (s0, h) else none
theorem tX3_isFitting_17 {d : Nat} {z : Int32 × aH} (s0 : Int32) (h : aH) (hf : fX3_isFitting_17 s0 h = some z) : Ev (d + 0) none mX3_isFitting (0, 0) 17 [.null, .null] [.int s0] h (QZ z) := 
  go_ok (X := none) (blk := wX3_isFitting_17) (np := 18) (tt := 0) (kN := fun _ _ _ => none) (kT := fun _ _ _ => none) (kR := kRZ)
    (fun _ _ _ q => nos q)
    (fun _ _ _ q => nos q)
    kRZ_ok (Or.inr rfl) (by decide +kernel) (by decide +kernel) hf
def wX3_isFitting_16 : List En := [(.iconst 0, 0, 0, 0)]
def fX3_isFitting_16 (h : aH) : Option (Int32 × aH) :=
  fX3_isFitting_17 (kI 0) h
theorem tX3_isFitting_16 {d : Nat} {z : Int32 × aH} (h : aH) (hf : fX3_isFitting_16 h = some z) : Ev (d + 0) none mX3_isFitting (0, 0) 16 [.null, .null] [] h (QZ z) := 
  go_ok (X := none) (blk := wX3_isFitting_16) (np := 17) (tt := 0) (kN := fun xs h st => app [0, 0] (apS [1] (fun s0 => fX3_isFitting_17 s0 h) st) xs) (kT := fun _ _ _ => none) (kR := kRZ)
    (fun xs h st q => jm [0, 0] _ (fun q => apS_ok [1] _ (fun st => Ev (d + 0) none mX3_isFitting (0, 0) 17 [.null, .null] st h (QZ z)) st (fun s0 q => tX3_isFitting_17 s0 h q) q) q)
    (fun _ _ _ q => nos q)
    kRZ_ok (Or.inr rfl) (by decide +kernel) (by decide +kernel) hf
def wX3_isFitting_12 : List En := [(.iconst 1, 0, 0, 0), (.goto 4, 17, 0, 0)]
def fX3_isFitting_12 (h : aH) : Option (Int32 × aH) :=
  fX3_isFitting_17 (kI 1) h
theorem tX3_isFitting_12 {d : Nat} {z : Int32 × aH} (h : aH) (hf : fX3_isFitting_12 h = some z) : Ev (d + 0) none mX3_isFitting (0, 0) 12 [.null, .null] [] h (QZ z) := 
  go_ok (X := none) (blk := wX3_isFitting_12) (np := 16) (tt := 17) (kN := fun _ _ _ => none) (kT := fun xs h st => app [0, 0] (apS [1] (fun s0 => fX3_isFitting_17 s0 h) st) xs) (kR := kRZ)
    (fun _ _ _ q => nos q)
    (fun xs h st q => jm [0, 0] _ (fun q => apS_ok [1] _ (fun st => Ev (d + 0) none mX3_isFitting (0, 0) 17 [.null, .null] st h (QZ z)) st (fun s0 q => tX3_isFitting_17 s0 h q) q) q)
    kRZ_ok (Or.inr rfl) (by decide +kernel) (by decide +kernel) hf
def wX3_isFitting_0 : List En := [(.aload_n 0, 0, 0, 0), (.getfield 29, 75, 3, 3), (.iload_n 1, 0, 0, 0), (.ishr, 0, 0, 0), (.iconst 1, 0, 0, 0), (.iand, 0, 0, 0), (.iconst 1, 0, 0, 0), (.if_icmp .ne 7, 16, 0, 0)]
def fX3_isFitting_0 (v0 : Nat) (v1 : Int32) (h : aH) : Option (Int32 × aH) :=
  (gFI h 3 v0 3).bind fun t1 =>
  if ((t1 >>> (v1 &&& 31)) &&& (kI 1)) = (kI 1) then fX3_isFitting_12 h else fX3_isFitting_16 h
theorem tX3_isFitting_0 {d : Nat} {z : Int32 × aH} (v0 : Nat) (v1 : Int32) (h : aH) (hf : fX3_isFitting_0 v0 v1 h = some z) : Ev (d + 0) none mX3_isFitting (0, 0) 0 [.ref v0, .int v1] [] h (QZ z) := 
  go_ok (X := none) (blk := wX3_isFitting_0) (np := 12) (tt := 16) (kN := fun xs h st => app [0, 0] (apS [] (fX3_isFitting_12 h) st) xs) (kT := fun xs h st => app [0, 0] (apS [] (fX3_isFitting_16 h) st) xs) (kR := kRZ)
    (fun xs h st q => jm [0, 0] _ (fun q => apS_ok [] _ (fun st => Ev (d + 0) none mX3_isFitting (0, 0) 12 [.null, .null] st h (QZ z)) st (fun q => tX3_isFitting_12 h q) q) q)
    (fun xs h st q => jm [0, 0] _ (fun q => apS_ok [] _ (fun st => Ev (d + 0) none mX3_isFitting (0, 0) 16 [.null, .null] st h (QZ z)) st (fun q => tX3_isFitting_16 h q) q) q)
    kRZ_ok (Or.inr rfl) (by decide +kernel) (by decide +kernel) hf
def gX3_isFitting (v0 : Nat) (v1 : Int32) (h : aH) : Option (Int32 × aH) := fX3_isFitting_0 v0 v1 h
theorem zX3_isFitting {d : Nat} {z : Int32 × aH} {v0 : Nat} {v1 : Int32} {h : aH} (q : gX3_isFitting v0 v1 h = some z) : CT (d + 0) mX3_isFitting (0, 0) [.ref v0, .int v1] h (QZ z) :=
  ct_ev (by decide +kernel) (Nat.le_of_ble_eq_true rfl) QZ_r (jm [2, 1] (fun v0 v1 => fX3_isFitting_0 v0 v1 h) (fun v0 v1 q => tX3_isFitting_0 v0 v1 h q) q)
def wX3_setAt_33 : List En := [(.iconst (-1), 0, 0, 0), (.ireturn, 0, 0, 0)]
def fX3_setAt_33 (h : aH) : Option (Int32 × aH) :=
  some ((kI (-1)), h)
theorem tX3_setAt_33 {d : Nat} {z : Int32 × aH} (h : aH) (hf : fX3_setAt_33 h = some z) : Ev (d + 1) none mX3_setAt (0, 0) 33 [.null, .null, .null, .null] [] h (QI z) := 
  go_ok (X := none) (blk := wX3_setAt_33) (np := 35) (tt := 0) (kN := fun _ _ _ => none) (kT := fun _ _ _ => none) (kR := kRI)
    (fun _ _ _ q => nos q)
    (fun _ _ _ q => nos q)
    kRI_ok (Or.inr rfl) (by decide +kernel) (by decide +kernel) hf
def wX3_setAt_27 : List En := [(.iinc 3 1, 0, 0, 0), (.goto (-26), 4, 0, 0)]
def fX3_setAt_27 (k4 : Nat → Int32 → Int32 → aH → Option (Int32 × aH)) (v0 : Nat) (v2 : Int32) (v3 : Int32) (h : aH) : Option (Int32 × aH) :=
  k4 v0 v2 (v3 + kI 1) h
theorem tX3_setAt_27 {d : Nat} {z : Int32 × aH} {k4 : Nat → Int32 → Int32 → aH → Option (Int32 × aH)} (hk4 : ∀ (v0 : Nat) (v2 : Int32) (v3 : Int32) (h : aH), k4 v0 v2 v3 h = some z → Ev (d + 1) none mX3_setAt (0, 0) 4 [.ref v0, .null, .int v2, .int v3] [] h (QI z)) (v0 : Nat) (v2 : Int32) (v3 : Int32) (h : aH) (hf : fX3_setAt_27 k4 v0 v2 v3 h = some z) : Ev (d + 1) none mX3_setAt (0, 0) 27 [.ref v0, .null, .int v2, .int v3] [] h (QI z) := 
  go_ok (X := none) (blk := wX3_setAt_27) (np := 33) (tt := 4) (kN := fun _ _ _ => none) (kT := fun xs h st => app [2, 0, 1, 1] (fun v0 v2 v3 => apS [] (k4 v0 v2 v3 h) st) xs) (kR := kRI)
    (fun _ _ _ q => nos q)
    (fun xs h st q => jm [2, 0, 1, 1] _ (fun v0 v2 v3 q => apS_ok [] _ (fun st => Ev (d + 1) none mX3_setAt (0, 0) 4 [.ref v0, .null, .int v2, .int v3] st h (QI z)) st (fun q => hk4 v0 v2 v3 h q) q) q)
    kRI_ok (Or.inr rfl) (by decide +kernel) (by decide +kernel) hf
def wX3_setAt_24 : List En := [(.iinc 2 (-1), 0, 0, 0)]
def fX3_setAt_24 (k4 : Nat → Int32 → Int32 → aH → Option (Int32 × aH)) (v0 : Nat) (v2 : Int32) (v3 : Int32) (h : aH) : Option (Int32 × aH) :=
  fX3_setAt_27 k4 v0 (v2 + kI (-1)) v3 h
theorem tX3_setAt_24 {d : Nat} {z : Int32 × aH} {k4 : Nat → Int32 → Int32 → aH → Option (Int32 × aH)} (hk4 : ∀ (v0 : Nat) (v2 : Int32) (v3 : Int32) (h : aH), k4 v0 v2 v3 h = some z → Ev (d + 1) none mX3_setAt (0, 0) 4 [.ref v0, .null, .int v2, .int v3] [] h (QI z)) (v0 : Nat) (v2 : Int32) (v3 : Int32) (h : aH) (hf : fX3_setAt_24 k4 v0 v2 v3 h = some z) : Ev (d + 1) none mX3_setAt (0, 0) 24 [.ref v0, .null, .int v2, .int v3] [] h (QI z) := 
  go_ok (X := none) (blk := wX3_setAt_24) (np := 27) (tt := 0) (kN := fun xs h st => app [2, 0, 1, 1] (fun v0 v2 v3 => apS [] (fX3_setAt_27 k4 v0 v2 v3 h) st) xs) (kT := fun _ _ _ => none) (kR := kRI)
    (fun xs h st q => jm [2, 0, 1, 1] _ (fun v0 v2 v3 q => apS_ok [] _ (fun st => Ev (d + 1) none mX3_setAt (0, 0) 27 [.ref v0, .null, .int v2, .int v3] st h (QI z)) st (fun q => tX3_setAt_27 hk4 v0 v2 v3 h q) q) q)
    (fun _ _ _ q => nos q)
    kRI_ok (Or.inr rfl) (by decide +kernel) (by decide +kernel) hf
def wX3_setAt_22 : List En := [(.iload_n 3, 0, 0, 0), (.ireturn, 0, 0, 0)]
def fX3_setAt_22 (v3 : Int32) (h : aH) : Option (Int32 × aH) :=
  some (v3, h)
theorem tX3_setAt_22 {d : Nat} {z : Int32 × aH} (v3 : Int32) (h : aH) (hf : fX3_setAt_22 v3 h = some z) : Ev (d + 1) none mX3_setAt (0, 0) 22 [.null, .null, .null, .int v3] [] h (QI z) := 
  go_ok (X := none) (blk := wX3_setAt_22) (np := 24) (tt := 0) (kN := fun _ _ _ => none) (kT := fun _ _ _ => none) (kR := kRI)
    (fun _ _ _ q => nos q)
    (fun _ _ _ q => nos q)
    kRI_ok (Or.inr rfl) (by decide +kernel) (by decide +kernel) hf
def wX3_setAt_18 : List En := [(.iload_n 2, 0, 0, 0), (.ifCond .ne 5, 24, 0, 0)]
def fX3_setAt_18 (k4 : Nat → Int32 → Int32 → aH → Option (Int32 × aH)) (v0 : Nat) (v2 : Int32) (v3 : Int32) (h : aH) : Option (Int32 × aH) :=
  if v2 = 0 then fX3_setAt_22 v3 h else fX3_setAt_24 k4 v0 v2 v3 h
theorem tX3_setAt_18 {d : Nat} {z : Int32 × aH} {k4 : Nat → Int32 → Int32 → aH → Option (Int32 × aH)} (hk4 : ∀ (v0 : Nat) (v2 : Int32) (v3 : Int32) (h : aH), k4 v0 v2 v3 h = some z → Ev (d + 1) none mX3_setAt (0, 0) 4 [.ref v0, .null, .int v2, .int v3] [] h (QI z)) (v0 : Nat) (v2 : Int32) (v3 : Int32) (h : aH) (hf : fX3_setAt_18 k4 v0 v2 v3 h = some z) : Ev (d + 1) none mX3_setAt (0, 0) 18 [.ref v0, .null, .int v2, .int v3] [] h (QI z) := 
  go_ok (X := none) (blk := wX3_setAt_18) (np := 22) (tt := 24) (kN := fun xs h st => app [0, 0, 0, 1] (fun v3 => apS [] (fX3_setAt_22 v3 h) st) xs) (kT := fun xs h st => app [2, 0, 1, 1] (fun v0 v2 v3 => apS [] (fX3_setAt_24 k4 v0 v2 v3 h) st) xs) (kR := kRI)
    (fun xs h st q => jm [0, 0, 0, 1] _ (fun v3 q => apS_ok [] _ (fun st => Ev (d + 1) none mX3_setAt (0, 0) 22 [.null, .null, .null, .int v3] st h (QI z)) st (fun q => tX3_setAt_22 v3 h q) q) q)
    (fun xs h st q => jm [2, 0, 1, 1] _ (fun v0 v2 v3 q => apS_ok [] _ (fun st => Ev (d + 1) none mX3_setAt (0, 0) 24 [.ref v0, .null, .int v2, .int v3] st h (QI z)) st (fun q => tX3_setAt_24 hk4 v0 v2 v3 h q) q) q)
    kRI_ok (Or.inr rfl) (by decide +kernel) (by decide +kernel) hf
def wX3_setAt_15 : List En := [(.ifCond .eq 12, 27, 0, 0)]
def fX3_setAt_15 (k4 : Nat → Int32 → Int32 → aH → Option (Int32 × aH)) (v0 : Nat) (v2 : Int32) (v3 : Int32) (s0 : Int32) (h : aH) : Option (Int32 × aH) :=
  if s0 = 0 then fX3_setAt_27 k4 v0 v2 v3 h else fX3_setAt_18 k4 v0 v2 v3 h
theorem tX3_setAt_15 {d : Nat} {z : Int32 × aH} {k4 : Nat → Int32 → Int32 → aH → Option (Int32 × aH)} (hk4 : ∀ (v0 : Nat) (v2 : Int32) (v3 : Int32) (h : aH), k4 v0 v2 v3 h = some z → Ev (d + 1) none mX3_setAt (0, 0) 4 [.ref v0, .null, .int v2, .int v3] [] h (QI z)) (v0 : Nat) (v2 : Int32) (v3 : Int32) (s0 : Int32) (h : aH) (hf : fX3_setAt_15 k4 v0 v2 v3 s0 h = some z) : Ev (d + 1) none mX3_setAt (0, 0) 15 [.ref v0, .null, .int v2, .int v3] [.int s0] h (QI z) := 
  go_ok (X := none) (blk := wX3_setAt_15) (np := 18) (tt := 27) (kN := fun xs h st => app [2, 0, 1, 1] (fun v0 v2 v3 => apS [] (fX3_setAt_18 k4 v0 v2 v3 h) st) xs) (kT := fun xs h st => app [2, 0, 1, 1] (fun v0 v2 v3 => apS [] (fX3_setAt_27 k4 v0 v2 v3 h) st) xs) (kR := kRI)
    (fun xs h st q => jm [2, 0, 1, 1] _ (fun v0 v2 v3 q => apS_ok [] _ (fun st => Ev (d + 1) none mX3_setAt (0, 0) 18 [.ref v0, .null, .int v2, .int v3] st h (QI z)) st (fun q => tX3_setAt_18 hk4 v0 v2 v3 h q) q) q)
    (fun xs h st q => jm [2, 0, 1, 1] _ (fun v0 v2 v3 q => apS_ok [] _ (fun st => Ev (d + 1) none mX3_setAt (0, 0) 27 [.ref v0, .null, .int v2, .int v3] st h (QI z)) st (fun q => tX3_setAt_27 hk4 v0 v2 v3 h q) q) q)
    kRI_ok (Or.inr rfl) (by decide +kernel) (by decide +kernel) hf
theorem kqX3_setAt_12 : okC mX3_setAt 12 (.invokevirtual 84) 140 148 0 1 = true := by decide +kernel
def fX3_setAt_12 (k4 : Nat → Int32 → Int32 → aH → Option (Int32 × aH)) (v0 : Nat) (v2 : Int32) (v3 : Int32) (s0 : Int32) (s1 : Nat) (h : aH) : Option (Int32 × aH) :=
  (isO h 3 s1).bind fun _ =>
  (gX3_isFitting s1 s0 h).bind fun r =>
  fX3_setAt_15 k4 v0 v2 v3 r.1 r.2
theorem tX3_setAt_12 {d : Nat} {z : Int32 × aH} {k4 : Nat → Int32 → Int32 → aH → Option (Int32 × aH)} (hk4 : ∀ (v0 : Nat) (v2 : Int32) (v3 : Int32) (h : aH), k4 v0 v2 v3 h = some z → Ev (d + 1) none mX3_setAt (0, 0) 4 [.ref v0, .null, .int v2, .int v3] [] h (QI z)) (v0 : Nat) (v2 : Int32) (v3 : Int32) (s0 : Int32) (s1 : Nat) (h : aH) (hf : fX3_setAt_12 k4 v0 v2 v3 s0 s1 h = some z) : Ev (d + 1) none mX3_setAt (0, 0) 12 [.ref v0, .null, .int v2, .int v3] [.int s0, .ref s1] h (QI z) := by
  obtain ⟨_, h1, hf⟩ := bnd hf
  obtain ⟨fs, ho⟩ := isO_ok h1
  obtain ⟨r, h2, hf⟩ := bnd hf
  refine ev_V kqX3_setAt_12 jX3_isFitting (zX3_isFitting (d := d + 0) h2) ho rfl rfl (Nat.le_of_ble_eq_true rfl) rfl (as := [.int s0]) (rest := []) rfl (Nat.le_of_ble_eq_true rfl) (fun _ _ hq => ?_)
  obtain ⟨-, rfl, rfl⟩ := hq
  exact jm [2, 0, 1, 1] (fun v0 v2 v3 => fX3_setAt_15 k4 v0 v2 v3 r.1 r.2) (fun v0 v2 v3 q => tX3_setAt_15 hk4 v0 v2 v3 r.1 r.2 q) hf
def wX3_setAt_10 : List En := [(.aload_n 0, 0, 0, 0), (.iload_n 3, 0, 0, 0)]
def fX3_setAt_10 (k4 : Nat → Int32 → Int32 → aH → Option (Int32 × aH)) (v0 : Nat) (v2 : Int32) (v3 : Int32) (h : aH) : Option (Int32 × aH) :=
  fX3_setAt_12 k4 v0 v2 v3 v3 v0 h
theorem tX3_setAt_10 {d : Nat} {z : Int32 × aH} {k4 : Nat → Int32 → Int32 → aH → Option (Int32 × aH)} (hk4 : ∀ (v0 : Nat) (v2 : Int32) (v3 : Int32) (h : aH), k4 v0 v2 v3 h = some z → Ev (d + 1) none mX3_setAt (0, 0) 4 [.ref v0, .null, .int v2, .int v3] [] h (QI z)) (v0 : Nat) (v2 : Int32) (v3 : Int32) (h : aH) (hf : fX3_setAt_10 k4 v0 v2 v3 h = some z) : Ev (d + 1) none mX3_setAt (0, 0) 10 [.ref v0, .null, .int v2, .int v3] [] h (QI z) := 
  go_ok (X := none) (blk := wX3_setAt_10) (np := 12) (tt := 0) (kN := fun xs h st => app [2, 0, 1, 1] (fun v0 v2 v3 => apS [1, 2] (fun s0 s1 => fX3_setAt_12 k4 v0 v2 v3 s0 s1 h) st) xs) (kT := fun _ _ _ => none) (kR := kRI)
    (fun xs h st q => jm [2, 0, 1, 1] _ (fun v0 v2 v3 q => apS_ok [1, 2] _ (fun st => Ev (d + 1) none mX3_setAt (0, 0) 12 [.ref v0, .null, .int v2, .int v3] st h (QI z)) st (fun s0 s1 q => tX3_setAt_12 hk4 v0 v2 v3 s0 s1 h q) q) q)
    (fun _ _ _ q => nos q)
    kRI_ok (Or.inr rfl) (by decide +kernel) (by decide +kernel) hf
def wX3_setAt_4 : List En := [(.iload_n 3, 0, 0, 0), (.bipush 16, 0, 0, 0), (.if_icmp .ge 26, 33, 0, 0)]
def fX3_setAt_4 (k4 : Nat → Int32 → Int32 → aH → Option (Int32 × aH)) (v0 : Nat) (v2 : Int32) (v3 : Int32) (h : aH) : Option (Int32 × aH) :=
  if v3 < (kB 16) then fX3_setAt_10 k4 v0 v2 v3 h else fX3_setAt_33 h
theorem tX3_setAt_4 {d : Nat} {z : Int32 × aH} {k4 : Nat → Int32 → Int32 → aH → Option (Int32 × aH)} (hk4 : ∀ (v0 : Nat) (v2 : Int32) (v3 : Int32) (h : aH), k4 v0 v2 v3 h = some z → Ev (d + 1) none mX3_setAt (0, 0) 4 [.ref v0, .null, .int v2, .int v3] [] h (QI z)) (v0 : Nat) (v2 : Int32) (v3 : Int32) (h : aH) (hf : fX3_setAt_4 k4 v0 v2 v3 h = some z) : Ev (d + 1) none mX3_setAt (0, 0) 4 [.ref v0, .null, .int v2, .int v3] [] h (QI z) := 
  go_ok (X := none) (blk := wX3_setAt_4) (np := 10) (tt := 33) (kN := fun xs h st => app [2, 0, 1, 1] (fun v0 v2 v3 => apS [] (fX3_setAt_10 k4 v0 v2 v3 h) st) xs) (kT := fun xs h st => app [0, 0, 0, 0] (apS [] (fX3_setAt_33 h) st) xs) (kR := kRI)
    (fun xs h st q => jm [2, 0, 1, 1] _ (fun v0 v2 v3 q => apS_ok [] _ (fun st => Ev (d + 1) none mX3_setAt (0, 0) 10 [.ref v0, .null, .int v2, .int v3] st h (QI z)) st (fun q => tX3_setAt_10 hk4 v0 v2 v3 h q) q) q)
    (fun xs h st q => jm [0, 0, 0, 0] _ (fun q => apS_ok [] _ (fun st => Ev (d + 1) none mX3_setAt (0, 0) 33 [.null, .null, .null, .null] st h (QI z)) st (fun q => tX3_setAt_33 h q) q) q)
    kRI_ok (Or.inr rfl) (by decide +kernel) (by decide +kernel) hf
def lX3_setAt_4 : Nat → Nat → Int32 → Int32 → aH → Option (Int32 × aH)
  | 0, _, _, _, _ => none
  | n + 1, v0, v2, v3, h => fX3_setAt_4 (lX3_setAt_4 n) v0 v2 v3 h
theorem uX3_setAt_4 {d : Nat} {z : Int32 × aH} : ∀ (n : Nat) (v0 : Nat) (v2 : Int32) (v3 : Int32) (h : aH), lX3_setAt_4 n v0 v2 v3 h = some z → Ev (d + 1) none mX3_setAt (0, 0) 4 [.ref v0, .null, .int v2, .int v3] [] h (QI z) := by
  intro n
  induction n with
  | zero => intro _ _ _ _ q; exact nos (show (none : Option (Int32 × aH)) = some z from q)
  | succ n ih => intro v0 v2 v3 h q; exact tX3_setAt_4 ih v0 v2 v3 h q
def wX3_setAt_0 : List En := [(.iload_n 1, 0, 0, 0), (.istore_n 2, 0, 0, 0), (.iconst 0, 0, 0, 0), (.istore_n 3, 0, 0, 0)]
def fX3_setAt_0 (v0 : Nat) (v1 : Int32) (h : aH) : Option (Int32 × aH) :=
  lX3_setAt_4 FU v0 v1 (kI 0) h
theorem tX3_setAt_0 {d : Nat} {z : Int32 × aH} (v0 : Nat) (v1 : Int32) (h : aH) (hf : fX3_setAt_0 v0 v1 h = some z) : Ev (d + 1) none mX3_setAt (0, 0) 0 [.ref v0, .int v1, .null, .null] [] h (QI z) := 
  go_ok (X := none) (blk := wX3_setAt_0) (np := 4) (tt := 0) (kN := fun xs h st => app [2, 0, 1, 1] (fun v0 v2 v3 => apS [] (lX3_setAt_4 FU v0 v2 v3 h) st) xs) (kT := fun _ _ _ => none) (kR := kRI)
    (fun xs h st q => jm [2, 0, 1, 1] _ (fun v0 v2 v3 q => apS_ok [] _ (fun st => Ev (d + 1) none mX3_setAt (0, 0) 4 [.ref v0, .null, .int v2, .int v3] st h (QI z)) st (fun q => uX3_setAt_4 FU v0 v2 v3 h q) q) q)
    (fun _ _ _ q => nos q)
    kRI_ok (Or.inr rfl) (by decide +kernel) (by decide +kernel) hf
def gX3_setAt (v0 : Nat) (v1 : Int32) (h : aH) : Option (Int32 × aH) := fX3_setAt_0 v0 v1 h
theorem zX3_setAt {d : Nat} {z : Int32 × aH} {v0 : Nat} {v1 : Int32} {h : aH} (q : gX3_setAt v0 v1 h = some z) : CT (d + 1) mX3_setAt (0, 0) [.ref v0, .int v1] h (QI z) :=
  ct_ev (by decide +kernel) (Nat.le_of_ble_eq_true rfl) QI_r (jm [2, 1, 0, 0] (fun v0 v1 => fX3_setAt_0 v0 v1 h) (fun v0 v1 q => tX3_setAt_0 v0 v1 h q) q)
def wX10_fitAt_16 : List En := [(.ireturn, 0, 0, 0)]
def fX10_fitAt_16 (s0 : Int32) (h : aH) : Option (Int32 × aH) :=
  some (s0, h)
theorem tX10_fitAt_16 {d : Nat} {z : Int32 × aH} (s0 : Int32) (h : aH) (hf : fX10_fitAt_16 s0 h = some z) : Ev (d + 5) none mX10_fitAt (0, 0) 16 [.null, .null, .null] [.int s0] h (QI z) := 
  go_ok (X := none) (blk := wX10_fitAt_16) (np := 17) (tt := 0) (kN := fun _ _ _ => none) (kT := fun _ _ _ => none) (kR := kRI)
    (fun _ _ _ q => nos q)
    (fun _ _ _ q => nos q)
    kRI_ok (Or.inr rfl) (by decide +kernel) (by decide +kernel) hf
theorem kqX10_fitAt_13 : okC mX10_fitAt 13 (.invokevirtual 94) 15 8 0 1 = true := by decide +kernel
def fX10_fitAt_13 (s0 : Int32) (s1 : Nat) (h : aH) : Option (Int32 × aH) :=
  (isO h 10 s1).bind fun _ =>
  (gX10_refuse s1 s0 h).bind fun r =>
  fX10_fitAt_16 r.1 r.2
theorem tX10_fitAt_13 {d : Nat} {z : Int32 × aH} (s0 : Int32) (s1 : Nat) (h : aH) (hf : fX10_fitAt_13 s0 s1 h = some z) : Ev (d + 5) none mX10_fitAt (0, 0) 13 [.null, .null, .null] [.int s0, .ref s1] h (QI z) := by
  obtain ⟨_, h1, hf⟩ := bnd hf
  obtain ⟨fs, ho⟩ := isO_ok h1
  obtain ⟨r, h2, hf⟩ := bnd hf
  refine ev_V kqX10_fitAt_13 jX10_refuse (zX10_refuse (d := d + 4) h2) ho rfl rfl (Nat.le_of_ble_eq_true rfl) rfl (as := [.int s0]) (rest := []) rfl (Nat.le_of_ble_eq_true rfl) (fun _ _ hq => ?_)
  obtain ⟨rfl, rfl⟩ := hq
  exact jm [0, 0, 0] (fX10_fitAt_16 r.1 r.2) (fun q => tX10_fitAt_16 r.1 r.2 q) hf
def wX10_fitAt_11 : List En := [(.aload_n 0, 0, 0, 0), (.iconst 1, 0, 0, 0)]
def fX10_fitAt_11 (v0 : Nat) (h : aH) : Option (Int32 × aH) :=
  fX10_fitAt_13 (kI 1) v0 h
theorem tX10_fitAt_11 {d : Nat} {z : Int32 × aH} (v0 : Nat) (h : aH) (hf : fX10_fitAt_11 v0 h = some z) : Ev (d + 5) none mX10_fitAt (0, 0) 11 [.ref v0, .null, .null] [] h (QI z) := 
  go_ok (X := none) (blk := wX10_fitAt_11) (np := 13) (tt := 0) (kN := fun xs h st => app [0, 0, 0] (apS [1, 2] (fun s0 s1 => fX10_fitAt_13 s0 s1 h) st) xs) (kT := fun _ _ _ => none) (kR := kRI)
    (fun xs h st q => jm [0, 0, 0] _ (fun q => apS_ok [1, 2] _ (fun st => Ev (d + 5) none mX10_fitAt (0, 0) 13 [.null, .null, .null] st h (QI z)) st (fun s0 s1 q => tX10_fitAt_13 s0 s1 h q) q) q)
    (fun _ _ _ q => nos q)
    kRI_ok (Or.inr rfl) (by decide +kernel) (by decide +kernel) hf
def wX10_fitAt_54 : List En := [(.ireturn, 0, 0, 0)]
def fX10_fitAt_54 (s0 : Int32) (h : aH) : Option (Int32 × aH) :=
  some (s0, h)
theorem tX10_fitAt_54 {d : Nat} {z : Int32 × aH} (s0 : Int32) (h : aH) (hf : fX10_fitAt_54 s0 h = some z) : Ev (d + 5) none mX10_fitAt (0, 0) 54 [.null, .null, .null] [.int s0] h (QI z) := 
  go_ok (X := none) (blk := wX10_fitAt_54) (np := 55) (tt := 0) (kN := fun _ _ _ => none) (kT := fun _ _ _ => none) (kR := kRI)
    (fun _ _ _ q => nos q)
    (fun _ _ _ q => nos q)
    kRI_ok (Or.inr rfl) (by decide +kernel) (by decide +kernel) hf
theorem kqX10_fitAt_51 : okC mX10_fitAt 51 (.invokevirtual 119) 60 44 0 1 = true := by decide +kernel
def fX10_fitAt_51 (s0 : Int32) (s1 : Nat) (h : aH) : Option (Int32 × aH) :=
  (isO h 10 s1).bind fun _ =>
  (gX10_answer s1 s0 h).bind fun r =>
  fX10_fitAt_54 r.1 r.2
theorem tX10_fitAt_51 {d : Nat} {z : Int32 × aH} (s0 : Int32) (s1 : Nat) (h : aH) (hf : fX10_fitAt_51 s0 s1 h = some z) : Ev (d + 5) none mX10_fitAt (0, 0) 51 [.null, .null, .null] [.int s0, .ref s1] h (QI z) := by
  obtain ⟨_, h1, hf⟩ := bnd hf
  obtain ⟨fs, ho⟩ := isO_ok h1
  obtain ⟨r, h2, hf⟩ := bnd hf
  refine ev_V kqX10_fitAt_51 jX10_answer (zX10_answer (d := d + 4) h2) ho rfl rfl (Nat.le_of_ble_eq_true rfl) rfl (as := [.int s0]) (rest := []) rfl (Nat.le_of_ble_eq_true rfl) (fun _ _ hq => ?_)
  obtain ⟨rfl, rfl⟩ := hq
  exact jm [0, 0, 0] (fX10_fitAt_54 r.1 r.2) (fun q => tX10_fitAt_54 r.1 r.2 q) hf
def wX10_fitAt_49 : List En := [(.aload_n 0, 0, 0, 0), (.iload_n 2, 0, 0, 0)]
def fX10_fitAt_49 (v0 : Nat) (v2 : Int32) (h : aH) : Option (Int32 × aH) :=
  fX10_fitAt_51 v2 v0 h
theorem tX10_fitAt_49 {d : Nat} {z : Int32 × aH} (v0 : Nat) (v2 : Int32) (h : aH) (hf : fX10_fitAt_49 v0 v2 h = some z) : Ev (d + 5) none mX10_fitAt (0, 0) 49 [.ref v0, .null, .int v2] [] h (QI z) := 
  go_ok (X := none) (blk := wX10_fitAt_49) (np := 51) (tt := 0) (kN := fun xs h st => app [0, 0, 0] (apS [1, 2] (fun s0 s1 => fX10_fitAt_51 s0 s1 h) st) xs) (kT := fun _ _ _ => none) (kR := kRI)
    (fun xs h st q => jm [0, 0, 0] _ (fun q => apS_ok [1, 2] _ (fun st => Ev (d + 5) none mX10_fitAt (0, 0) 51 [.null, .null, .null] st h (QI z)) st (fun s0 s1 q => tX10_fitAt_51 s0 s1 h q) q) q)
    (fun _ _ _ q => nos q)
    kRI_ok (Or.inr rfl) (by decide +kernel) (by decide +kernel) hf
def wX10_fitAt_46 : List En := [(.goto 8, 54, 0, 0)]
def fX10_fitAt_46 (s0 : Int32) (h : aH) : Option (Int32 × aH) :=
  fX10_fitAt_54 s0 h
theorem tX10_fitAt_46 {d : Nat} {z : Int32 × aH} (s0 : Int32) (h : aH) (hf : fX10_fitAt_46 s0 h = some z) : Ev (d + 5) none mX10_fitAt (0, 0) 46 [.null, .null, .null] [.int s0] h (QI z) := 
  go_ok (X := none) (blk := wX10_fitAt_46) (np := 49) (tt := 54) (kN := fun _ _ _ => none) (kT := fun xs h st => app [0, 0, 0] (apS [1] (fun s0 => fX10_fitAt_54 s0 h) st) xs) (kR := kRI)
    (fun _ _ _ q => nos q)
    (fun xs h st q => jm [0, 0, 0] _ (fun q => apS_ok [1] _ (fun st => Ev (d + 5) none mX10_fitAt (0, 0) 54 [.null, .null, .null] st h (QI z)) st (fun s0 q => tX10_fitAt_54 s0 h q) q) q)
    kRI_ok (Or.inr rfl) (by decide +kernel) (by decide +kernel) hf
theorem kqX10_fitAt_43 : okC mX10_fitAt 43 (.invokevirtual 94) 15 8 0 1 = true := by decide +kernel
def fX10_fitAt_43 (s0 : Int32) (s1 : Nat) (h : aH) : Option (Int32 × aH) :=
  (isO h 10 s1).bind fun _ =>
  (gX10_refuse s1 s0 h).bind fun r =>
  fX10_fitAt_46 r.1 r.2
theorem tX10_fitAt_43 {d : Nat} {z : Int32 × aH} (s0 : Int32) (s1 : Nat) (h : aH) (hf : fX10_fitAt_43 s0 s1 h = some z) : Ev (d + 5) none mX10_fitAt (0, 0) 43 [.null, .null, .null] [.int s0, .ref s1] h (QI z) := by
  obtain ⟨_, h1, hf⟩ := bnd hf
  obtain ⟨fs, ho⟩ := isO_ok h1
  obtain ⟨r, h2, hf⟩ := bnd hf
  refine ev_V kqX10_fitAt_43 jX10_refuse (zX10_refuse (d := d + 4) h2) ho rfl rfl (Nat.le_of_ble_eq_true rfl) rfl (as := [.int s0]) (rest := []) rfl (Nat.le_of_ble_eq_true rfl) (fun _ _ hq => ?_)
  obtain ⟨rfl, rfl⟩ := hq
  exact jm [0, 0, 0] (fX10_fitAt_46 r.1 r.2) (fun q => tX10_fitAt_46 r.1 r.2 q) hf
def wX10_fitAt_41 : List En := [(.aload_n 0, 0, 0, 0), (.iconst 1, 0, 0, 0)]
def fX10_fitAt_41 (v0 : Nat) (h : aH) : Option (Int32 × aH) :=
  fX10_fitAt_43 (kI 1) v0 h
theorem tX10_fitAt_41 {d : Nat} {z : Int32 × aH} (v0 : Nat) (h : aH) (hf : fX10_fitAt_41 v0 h = some z) : Ev (d + 5) none mX10_fitAt (0, 0) 41 [.ref v0, .null, .null] [] h (QI z) := 
  go_ok (X := none) (blk := wX10_fitAt_41) (np := 43) (tt := 0) (kN := fun xs h st => app [0, 0, 0] (apS [1, 2] (fun s0 s1 => fX10_fitAt_43 s0 s1 h) st) xs) (kT := fun _ _ _ => none) (kR := kRI)
    (fun xs h st q => jm [0, 0, 0] _ (fun q => apS_ok [1, 2] _ (fun st => Ev (d + 5) none mX10_fitAt (0, 0) 43 [.null, .null, .null] st h (QI z)) st (fun s0 s1 q => tX10_fitAt_43 s0 s1 h q) q) q)
    (fun _ _ _ q => nos q)
    kRI_ok (Or.inr rfl) (by decide +kernel) (by decide +kernel) hf
def wX10_fitAt_36 : List En := [(.istore_n 2, 0, 0, 0), (.iload_n 2, 0, 0, 0), (.ifCond .ge 11, 49, 0, 0)]
def fX10_fitAt_36 (v0 : Nat) (s0 : Int32) (h : aH) : Option (Int32 × aH) :=
  if s0 < 0 then fX10_fitAt_41 v0 h else fX10_fitAt_49 v0 s0 h
theorem tX10_fitAt_36 {d : Nat} {z : Int32 × aH} (v0 : Nat) (s0 : Int32) (h : aH) (hf : fX10_fitAt_36 v0 s0 h = some z) : Ev (d + 5) none mX10_fitAt (0, 0) 36 [.ref v0, .null, .null] [.int s0] h (QI z) := 
  go_ok (X := none) (blk := wX10_fitAt_36) (np := 41) (tt := 49) (kN := fun xs h st => app [2, 0, 0] (fun v0 => apS [] (fX10_fitAt_41 v0 h) st) xs) (kT := fun xs h st => app [2, 0, 1] (fun v0 v2 => apS [] (fX10_fitAt_49 v0 v2 h) st) xs) (kR := kRI)
    (fun xs h st q => jm [2, 0, 0] _ (fun v0 q => apS_ok [] _ (fun st => Ev (d + 5) none mX10_fitAt (0, 0) 41 [.ref v0, .null, .null] st h (QI z)) st (fun q => tX10_fitAt_41 v0 h q) q) q)
    (fun xs h st q => jm [2, 0, 1] _ (fun v0 v2 q => apS_ok [] _ (fun st => Ev (d + 5) none mX10_fitAt (0, 0) 49 [.ref v0, .null, .int v2] st h (QI z)) st (fun q => tX10_fitAt_49 v0 v2 h q) q) q)
    kRI_ok (Or.inr rfl) (by decide +kernel) (by decide +kernel) hf
theorem kqX10_fitAt_33 : okC mX10_fitAt 33 (.invokevirtual 277) 139 147 0 1 = true := by decide +kernel
def fX10_fitAt_33 (v0 : Nat) (s0 : Int32) (s1 : Nat) (h : aH) : Option (Int32 × aH) :=
  (isO h 3 s1).bind fun _ =>
  (gX3_setAt s1 s0 h).bind fun r =>
  fX10_fitAt_36 v0 r.1 r.2
theorem tX10_fitAt_33 {d : Nat} {z : Int32 × aH} (v0 : Nat) (s0 : Int32) (s1 : Nat) (h : aH) (hf : fX10_fitAt_33 v0 s0 s1 h = some z) : Ev (d + 5) none mX10_fitAt (0, 0) 33 [.ref v0, .null, .null] [.int s0, .ref s1] h (QI z) := by
  obtain ⟨_, h1, hf⟩ := bnd hf
  obtain ⟨fs, ho⟩ := isO_ok h1
  obtain ⟨r, h2, hf⟩ := bnd hf
  refine ev_V kqX10_fitAt_33 jX3_setAt (zX3_setAt (d := d + 3) h2) ho rfl rfl (Nat.le_of_ble_eq_true rfl) rfl (as := [.int s0]) (rest := []) rfl (Nat.le_of_ble_eq_true rfl) (fun _ _ hq => ?_)
  obtain ⟨rfl, rfl⟩ := hq
  exact jm [2, 0, 0] (fun v0 => fX10_fitAt_36 v0 r.1 r.2) (fun v0 q => tX10_fitAt_36 v0 r.1 r.2 q) hf
def wX10_fitAt_28 : List En := [(.aload_n 0, 0, 0, 0), (.getfield 33, 165, 10, 3), (.iload_n 1, 0, 0, 0)]
def fX10_fitAt_28 (v0 : Nat) (v1 : Int32) (h : aH) : Option (Int32 × aH) :=
  (gFR h 10 v0 3).bind fun t1 =>
  fX10_fitAt_33 v0 v1 t1 h
theorem tX10_fitAt_28 {d : Nat} {z : Int32 × aH} (v0 : Nat) (v1 : Int32) (h : aH) (hf : fX10_fitAt_28 v0 v1 h = some z) : Ev (d + 5) none mX10_fitAt (0, 0) 28 [.ref v0, .int v1, .null] [] h (QI z) := 
  go_ok (X := none) (blk := wX10_fitAt_28) (np := 33) (tt := 0) (kN := fun xs h st => app [2, 0, 0] (fun v0 => apS [1, 2] (fun s0 s1 => fX10_fitAt_33 v0 s0 s1 h) st) xs) (kT := fun _ _ _ => none) (kR := kRI)
    (fun xs h st q => jm [2, 0, 0] _ (fun v0 q => apS_ok [1, 2] _ (fun st => Ev (d + 5) none mX10_fitAt (0, 0) 33 [.ref v0, .null, .null] st h (QI z)) st (fun s0 s1 q => tX10_fitAt_33 v0 s0 s1 h q) q) q)
    (fun _ _ _ q => nos q)
    kRI_ok (Or.inr rfl) (by decide +kernel) (by decide +kernel) hf
theorem kqX10_fitAt_25 : okC mX10_fitAt 25 (.invokevirtual 270) 135 141 0 1 = true := by decide +kernel
def fX10_fitAt_25 (v0 : Nat) (v1 : Int32) (s0 : Nat) (s1 : Nat) (h : aH) : Option (Int32 × aH) :=
  (isO h 3 s1).bind fun _ =>
  (gX3_weigh s1 s0 h).bind fun r =>
  fX10_fitAt_28 v0 v1 r
theorem tX10_fitAt_25 {d : Nat} {z : Int32 × aH} (v0 : Nat) (v1 : Int32) (s0 : Nat) (s1 : Nat) (h : aH) (hf : fX10_fitAt_25 v0 v1 s0 s1 h = some z) : Ev (d + 5) none mX10_fitAt (0, 0) 25 [.ref v0, .int v1, .null] [.ref s0, .ref s1] h (QI z) := by
  obtain ⟨_, h1, hf⟩ := bnd hf
  obtain ⟨fs, ho⟩ := isO_ok h1
  obtain ⟨r, h2, hf⟩ := bnd hf
  refine ev_V kqX10_fitAt_25 jX3_weigh (zX3_weigh (d := d + 0) h2) ho rfl rfl (Nat.le_of_ble_eq_true rfl) rfl (as := [.ref s0]) (rest := []) rfl (Nat.le_of_ble_eq_true rfl) (fun _ _ hq => ?_)
  obtain ⟨rfl, hh⟩ := hq
  rw [hh]
  exact jm [2, 1, 0] (fun v0 v1 => fX10_fitAt_28 v0 v1 r) (fun v0 v1 q => tX10_fitAt_28 v0 v1 r q) hf
def wX10_fitAt_17 : List En := [(.aload_n 0, 0, 0, 0), (.getfield 33, 165, 10, 3), (.aload_n 0, 0, 0, 0), (.getfield 75, 171, 10, 9)]
def fX10_fitAt_17 (v0 : Nat) (v1 : Int32) (h : aH) : Option (Int32 × aH) :=
  (gFR h 10 v0 3).bind fun t1 =>
  (gFR h 10 v0 9).bind fun t2 =>
  fX10_fitAt_25 v0 v1 t2 t1 h
theorem tX10_fitAt_17 {d : Nat} {z : Int32 × aH} (v0 : Nat) (v1 : Int32) (h : aH) (hf : fX10_fitAt_17 v0 v1 h = some z) : Ev (d + 5) none mX10_fitAt (0, 0) 17 [.ref v0, .int v1, .null] [] h (QI z) := 
  go_ok (X := none) (blk := wX10_fitAt_17) (np := 25) (tt := 0) (kN := fun xs h st => app [2, 1, 0] (fun v0 v1 => apS [2, 2] (fun s0 s1 => fX10_fitAt_25 v0 v1 s0 s1 h) st) xs) (kT := fun _ _ _ => none) (kR := kRI)
    (fun xs h st q => jm [2, 1, 0] _ (fun v0 v1 q => apS_ok [2, 2] _ (fun st => Ev (d + 5) none mX10_fitAt (0, 0) 25 [.ref v0, .int v1, .null] st h (QI z)) st (fun s0 s1 q => tX10_fitAt_25 v0 v1 s0 s1 h q) q) q)
    (fun _ _ _ q => nos q)
    kRI_ok (Or.inr rfl) (by decide +kernel) (by decide +kernel) hf
def wX10_fitAt_7 : List En := [(.iload_n 1, 0, 0, 0), (.ifCond .ge 9, 17, 0, 0)]
def fX10_fitAt_7 (v0 : Nat) (v1 : Int32) (h : aH) : Option (Int32 × aH) :=
  if v1 < 0 then fX10_fitAt_11 v0 h else fX10_fitAt_17 v0 v1 h
theorem tX10_fitAt_7 {d : Nat} {z : Int32 × aH} (v0 : Nat) (v1 : Int32) (h : aH) (hf : fX10_fitAt_7 v0 v1 h = some z) : Ev (d + 5) none mX10_fitAt (0, 0) 7 [.ref v0, .int v1, .null] [] h (QI z) := 
  go_ok (X := none) (blk := wX10_fitAt_7) (np := 11) (tt := 17) (kN := fun xs h st => app [2, 0, 0] (fun v0 => apS [] (fX10_fitAt_11 v0 h) st) xs) (kT := fun xs h st => app [2, 1, 0] (fun v0 v1 => apS [] (fX10_fitAt_17 v0 v1 h) st) xs) (kR := kRI)
    (fun xs h st q => jm [2, 0, 0] _ (fun v0 q => apS_ok [] _ (fun st => Ev (d + 5) none mX10_fitAt (0, 0) 11 [.ref v0, .null, .null] st h (QI z)) st (fun q => tX10_fitAt_11 v0 h q) q) q)
    (fun xs h st q => jm [2, 1, 0] _ (fun v0 v1 q => apS_ok [] _ (fun st => Ev (d + 5) none mX10_fitAt (0, 0) 17 [.ref v0, .int v1, .null] st h (QI z)) st (fun q => tX10_fitAt_17 v0 v1 h q) q) q)
    kRI_ok (Or.inr rfl) (by decide +kernel) (by decide +kernel) hf
def wX10_fitAt_4 : List En := [(.ifCond .ne 7, 11, 0, 0)]
def fX10_fitAt_4 (v0 : Nat) (v1 : Int32) (s0 : Int32) (h : aH) : Option (Int32 × aH) :=
  if s0 = 0 then fX10_fitAt_7 v0 v1 h else fX10_fitAt_11 v0 h
theorem tX10_fitAt_4 {d : Nat} {z : Int32 × aH} (v0 : Nat) (v1 : Int32) (s0 : Int32) (h : aH) (hf : fX10_fitAt_4 v0 v1 s0 h = some z) : Ev (d + 5) none mX10_fitAt (0, 0) 4 [.ref v0, .int v1, .null] [.int s0] h (QI z) := 
  go_ok (X := none) (blk := wX10_fitAt_4) (np := 7) (tt := 11) (kN := fun xs h st => app [2, 1, 0] (fun v0 v1 => apS [] (fX10_fitAt_7 v0 v1 h) st) xs) (kT := fun xs h st => app [2, 0, 0] (fun v0 => apS [] (fX10_fitAt_11 v0 h) st) xs) (kR := kRI)
    (fun xs h st q => jm [2, 1, 0] _ (fun v0 v1 q => apS_ok [] _ (fun st => Ev (d + 5) none mX10_fitAt (0, 0) 7 [.ref v0, .int v1, .null] st h (QI z)) st (fun q => tX10_fitAt_7 v0 v1 h q) q) q)
    (fun xs h st q => jm [2, 0, 0] _ (fun v0 q => apS_ok [] _ (fun st => Ev (d + 5) none mX10_fitAt (0, 0) 11 [.ref v0, .null, .null] st h (QI z)) st (fun q => tX10_fitAt_11 v0 h q) q) q)
    kRI_ok (Or.inr rfl) (by decide +kernel) (by decide +kernel) hf
theorem kqX10_fitAt_1 : okC mX10_fitAt 1 (.invokevirtual 159) 68 52 0 0 = true := by decide +kernel
def fX10_fitAt_1 (v0 : Nat) (v1 : Int32) (s0 : Nat) (h : aH) : Option (Int32 × aH) :=
  (isO h 10 s0).bind fun _ =>
  (gX10_lacksTable s0 h).bind fun r =>
  fX10_fitAt_4 v0 v1 r.1 r.2
theorem tX10_fitAt_1 {d : Nat} {z : Int32 × aH} (v0 : Nat) (v1 : Int32) (s0 : Nat) (h : aH) (hf : fX10_fitAt_1 v0 v1 s0 h = some z) : Ev (d + 5) none mX10_fitAt (0, 0) 1 [.ref v0, .int v1, .null] [.ref s0] h (QI z) := by
  obtain ⟨_, h1, hf⟩ := bnd hf
  obtain ⟨fs, ho⟩ := isO_ok h1
  obtain ⟨r, h2, hf⟩ := bnd hf
  refine ev_V kqX10_fitAt_1 jX10_lacksTable (zX10_lacksTable (d := d + 4) h2) ho rfl rfl (Nat.le_of_ble_eq_true rfl) rfl (as := []) (rest := []) rfl (Nat.le_of_ble_eq_true rfl) (fun _ _ hq => ?_)
  obtain ⟨-, rfl, rfl⟩ := hq
  exact jm [2, 1, 0] (fun v0 v1 => fX10_fitAt_4 v0 v1 r.1 r.2) (fun v0 v1 q => tX10_fitAt_4 v0 v1 r.1 r.2 q) hf
def wX10_fitAt_0 : List En := [(.aload_n 0, 0, 0, 0)]
def fX10_fitAt_0 (v0 : Nat) (v1 : Int32) (h : aH) : Option (Int32 × aH) :=
  fX10_fitAt_1 v0 v1 v0 h
theorem tX10_fitAt_0 {d : Nat} {z : Int32 × aH} (v0 : Nat) (v1 : Int32) (h : aH) (hf : fX10_fitAt_0 v0 v1 h = some z) : Ev (d + 5) none mX10_fitAt (0, 0) 0 [.ref v0, .int v1, .null] [] h (QI z) := 
  go_ok (X := none) (blk := wX10_fitAt_0) (np := 1) (tt := 0) (kN := fun xs h st => app [2, 1, 0] (fun v0 v1 => apS [2] (fun s0 => fX10_fitAt_1 v0 v1 s0 h) st) xs) (kT := fun _ _ _ => none) (kR := kRI)
    (fun xs h st q => jm [2, 1, 0] _ (fun v0 v1 q => apS_ok [2] _ (fun st => Ev (d + 5) none mX10_fitAt (0, 0) 1 [.ref v0, .int v1, .null] st h (QI z)) st (fun s0 q => tX10_fitAt_1 v0 v1 s0 h q) q) q)
    (fun _ _ _ q => nos q)
    kRI_ok (Or.inr rfl) (by decide +kernel) (by decide +kernel) hf
def gX10_fitAt (v0 : Nat) (v1 : Int32) (h : aH) : Option (Int32 × aH) := fX10_fitAt_0 v0 v1 h
theorem zX10_fitAt {d : Nat} {z : Int32 × aH} {v0 : Nat} {v1 : Int32} {h : aH} (q : gX10_fitAt v0 v1 h = some z) : CT (d + 5) mX10_fitAt (0, 0) [.ref v0, .int v1] h (QI z) :=
  ct_ev (by decide +kernel) (Nat.le_of_ble_eq_true rfl) QI_r (jm [2, 1, 0] (fun v0 v1 => fX10_fitAt_0 v0 v1 h) (fun v0 v1 q => tX10_fitAt_0 v0 v1 h q) q)
def wX10_could_35 : List En := [(.ireturn, 0, 0, 0)]
def fX10_could_35 (s0 : Int32) (h : aH) : Option (Int32 × aH) :=
  some (s0, h)
theorem tX10_could_35 {d : Nat} {z : Int32 × aH} (s0 : Int32) (h : aH) (hf : fX10_could_35 s0 h = some z) : Ev (d + 5) none mX10_could (0, 0) 35 [.null] [.int s0] h (QI z) := 
  go_ok (X := none) (blk := wX10_could_35) (np := 36) (tt := 0) (kN := fun _ _ _ => none) (kT := fun _ _ _ => none) (kR := kRI)
    (fun _ _ _ q => nos q)
    (fun _ _ _ q => nos q)
    kRI_ok (Or.inr rfl) (by decide +kernel) (by decide +kernel) hf
theorem kqX10_could_32 : okC mX10_could 32 (.invokevirtual 119) 60 44 0 1 = true := by decide +kernel
def fX10_could_32 (s0 : Int32) (s1 : Nat) (h : aH) : Option (Int32 × aH) :=
  (isO h 10 s1).bind fun _ =>
  (gX10_answer s1 s0 h).bind fun r =>
  fX10_could_35 r.1 r.2
theorem tX10_could_32 {d : Nat} {z : Int32 × aH} (s0 : Int32) (s1 : Nat) (h : aH) (hf : fX10_could_32 s0 s1 h = some z) : Ev (d + 5) none mX10_could (0, 0) 32 [.null] [.int s0, .ref s1] h (QI z) := by
  obtain ⟨_, h1, hf⟩ := bnd hf
  obtain ⟨fs, ho⟩ := isO_ok h1
  obtain ⟨r, h2, hf⟩ := bnd hf
  refine ev_V kqX10_could_32 jX10_answer (zX10_answer (d := d + 4) h2) ho rfl rfl (Nat.le_of_ble_eq_true rfl) rfl (as := [.int s0]) (rest := []) rfl (Nat.le_of_ble_eq_true rfl) (fun _ _ hq => ?_)
  obtain ⟨rfl, rfl⟩ := hq
  exact jm [0] (fX10_could_35 r.1 r.2) (fun q => tX10_could_35 r.1 r.2 q) hf
def wX10_could_24 : List En := [(.aload_n 0, 0, 0, 0), (.aload_n 0, 0, 0, 0), (.getfield 33, 165, 10, 3), (.getfield 280, 72, 3, 1)]
def fX10_could_24 (v0 : Nat) (h : aH) : Option (Int32 × aH) :=
  (gFR h 10 v0 3).bind fun t1 =>
  (gFI h 3 t1 1).bind fun t2 =>
  fX10_could_32 t2 v0 h
theorem tX10_could_24 {d : Nat} {z : Int32 × aH} (v0 : Nat) (h : aH) (hf : fX10_could_24 v0 h = some z) : Ev (d + 5) none mX10_could (0, 0) 24 [.ref v0] [] h (QI z) := 
  go_ok (X := none) (blk := wX10_could_24) (np := 32) (tt := 0) (kN := fun xs h st => app [0] (apS [1, 2] (fun s0 s1 => fX10_could_32 s0 s1 h) st) xs) (kT := fun _ _ _ => none) (kR := kRI)
    (fun xs h st q => jm [0] _ (fun q => apS_ok [1, 2] _ (fun st => Ev (d + 5) none mX10_could (0, 0) 32 [.null] st h (QI z)) st (fun s0 s1 q => tX10_could_32 s0 s1 h q) q) q)
    (fun _ _ _ q => nos q)
    kRI_ok (Or.inr rfl) (by decide +kernel) (by decide +kernel) hf
theorem kqX10_could_21 : okC mX10_could 21 (.invokevirtual 270) 135 141 0 1 = true := by decide +kernel
def fX10_could_21 (v0 : Nat) (s0 : Nat) (s1 : Nat) (h : aH) : Option (Int32 × aH) :=
  (isO h 3 s1).bind fun _ =>
  (gX3_weigh s1 s0 h).bind fun r =>
  fX10_could_24 v0 r
theorem tX10_could_21 {d : Nat} {z : Int32 × aH} (v0 : Nat) (s0 : Nat) (s1 : Nat) (h : aH) (hf : fX10_could_21 v0 s0 s1 h = some z) : Ev (d + 5) none mX10_could (0, 0) 21 [.ref v0] [.ref s0, .ref s1] h (QI z) := by
  obtain ⟨_, h1, hf⟩ := bnd hf
  obtain ⟨fs, ho⟩ := isO_ok h1
  obtain ⟨r, h2, hf⟩ := bnd hf
  refine ev_V kqX10_could_21 jX3_weigh (zX3_weigh (d := d + 0) h2) ho rfl rfl (Nat.le_of_ble_eq_true rfl) rfl (as := [.ref s0]) (rest := []) rfl (Nat.le_of_ble_eq_true rfl) (fun _ _ hq => ?_)
  obtain ⟨rfl, hh⟩ := hq
  rw [hh]
  exact jm [2] (fun v0 => fX10_could_24 v0 r) (fun v0 q => tX10_could_24 v0 r q) hf
def wX10_could_13 : List En := [(.aload_n 0, 0, 0, 0), (.getfield 33, 165, 10, 3), (.aload_n 0, 0, 0, 0), (.getfield 75, 171, 10, 9)]
def fX10_could_13 (v0 : Nat) (h : aH) : Option (Int32 × aH) :=
  (gFR h 10 v0 3).bind fun t1 =>
  (gFR h 10 v0 9).bind fun t2 =>
  fX10_could_21 v0 t2 t1 h
theorem tX10_could_13 {d : Nat} {z : Int32 × aH} (v0 : Nat) (h : aH) (hf : fX10_could_13 v0 h = some z) : Ev (d + 5) none mX10_could (0, 0) 13 [.ref v0] [] h (QI z) := 
  go_ok (X := none) (blk := wX10_could_13) (np := 21) (tt := 0) (kN := fun xs h st => app [2] (fun v0 => apS [2, 2] (fun s0 s1 => fX10_could_21 v0 s0 s1 h) st) xs) (kT := fun _ _ _ => none) (kR := kRI)
    (fun xs h st q => jm [2] _ (fun v0 q => apS_ok [2, 2] _ (fun st => Ev (d + 5) none mX10_could (0, 0) 21 [.ref v0] st h (QI z)) st (fun s0 s1 q => tX10_could_21 v0 s0 s1 h q) q) q)
    (fun _ _ _ q => nos q)
    kRI_ok (Or.inr rfl) (by decide +kernel) (by decide +kernel) hf
def wX10_could_12 : List En := [(.ireturn, 0, 0, 0)]
def fX10_could_12 (s0 : Int32) (h : aH) : Option (Int32 × aH) :=
  some (s0, h)
theorem tX10_could_12 {d : Nat} {z : Int32 × aH} (s0 : Int32) (h : aH) (hf : fX10_could_12 s0 h = some z) : Ev (d + 5) none mX10_could (0, 0) 12 [.null] [.int s0] h (QI z) := 
  go_ok (X := none) (blk := wX10_could_12) (np := 13) (tt := 0) (kN := fun _ _ _ => none) (kT := fun _ _ _ => none) (kR := kRI)
    (fun _ _ _ q => nos q)
    (fun _ _ _ q => nos q)
    kRI_ok (Or.inr rfl) (by decide +kernel) (by decide +kernel) hf
theorem kqX10_could_9 : okC mX10_could 9 (.invokevirtual 94) 15 8 0 1 = true := by decide +kernel
def fX10_could_9 (s0 : Int32) (s1 : Nat) (h : aH) : Option (Int32 × aH) :=
  (isO h 10 s1).bind fun _ =>
  (gX10_refuse s1 s0 h).bind fun r =>
  fX10_could_12 r.1 r.2
theorem tX10_could_9 {d : Nat} {z : Int32 × aH} (s0 : Int32) (s1 : Nat) (h : aH) (hf : fX10_could_9 s0 s1 h = some z) : Ev (d + 5) none mX10_could (0, 0) 9 [.null] [.int s0, .ref s1] h (QI z) := by
  obtain ⟨_, h1, hf⟩ := bnd hf
  obtain ⟨fs, ho⟩ := isO_ok h1
  obtain ⟨r, h2, hf⟩ := bnd hf
  refine ev_V kqX10_could_9 jX10_refuse (zX10_refuse (d := d + 4) h2) ho rfl rfl (Nat.le_of_ble_eq_true rfl) rfl (as := [.int s0]) (rest := []) rfl (Nat.le_of_ble_eq_true rfl) (fun _ _ hq => ?_)
  obtain ⟨rfl, rfl⟩ := hq
  exact jm [0] (fX10_could_12 r.1 r.2) (fun q => tX10_could_12 r.1 r.2 q) hf
def wX10_could_7 : List En := [(.aload_n 0, 0, 0, 0), (.iconst 1, 0, 0, 0)]
def fX10_could_7 (v0 : Nat) (h : aH) : Option (Int32 × aH) :=
  fX10_could_9 (kI 1) v0 h
theorem tX10_could_7 {d : Nat} {z : Int32 × aH} (v0 : Nat) (h : aH) (hf : fX10_could_7 v0 h = some z) : Ev (d + 5) none mX10_could (0, 0) 7 [.ref v0] [] h (QI z) := 
  go_ok (X := none) (blk := wX10_could_7) (np := 9) (tt := 0) (kN := fun xs h st => app [0] (apS [1, 2] (fun s0 s1 => fX10_could_9 s0 s1 h) st) xs) (kT := fun _ _ _ => none) (kR := kRI)
    (fun xs h st q => jm [0] _ (fun q => apS_ok [1, 2] _ (fun st => Ev (d + 5) none mX10_could (0, 0) 9 [.null] st h (QI z)) st (fun s0 s1 q => tX10_could_9 s0 s1 h q) q) q)
    (fun _ _ _ q => nos q)
    kRI_ok (Or.inr rfl) (by decide +kernel) (by decide +kernel) hf
def wX10_could_4 : List En := [(.ifCond .eq 9, 13, 0, 0)]
def fX10_could_4 (v0 : Nat) (s0 : Int32) (h : aH) : Option (Int32 × aH) :=
  if s0 = 0 then fX10_could_13 v0 h else fX10_could_7 v0 h
theorem tX10_could_4 {d : Nat} {z : Int32 × aH} (v0 : Nat) (s0 : Int32) (h : aH) (hf : fX10_could_4 v0 s0 h = some z) : Ev (d + 5) none mX10_could (0, 0) 4 [.ref v0] [.int s0] h (QI z) := 
  go_ok (X := none) (blk := wX10_could_4) (np := 7) (tt := 13) (kN := fun xs h st => app [2] (fun v0 => apS [] (fX10_could_7 v0 h) st) xs) (kT := fun xs h st => app [2] (fun v0 => apS [] (fX10_could_13 v0 h) st) xs) (kR := kRI)
    (fun xs h st q => jm [2] _ (fun v0 q => apS_ok [] _ (fun st => Ev (d + 5) none mX10_could (0, 0) 7 [.ref v0] st h (QI z)) st (fun q => tX10_could_7 v0 h q) q) q)
    (fun xs h st q => jm [2] _ (fun v0 q => apS_ok [] _ (fun st => Ev (d + 5) none mX10_could (0, 0) 13 [.ref v0] st h (QI z)) st (fun q => tX10_could_13 v0 h q) q) q)
    kRI_ok (Or.inr rfl) (by decide +kernel) (by decide +kernel) hf
theorem kqX10_could_1 : okC mX10_could 1 (.invokevirtual 159) 68 52 0 0 = true := by decide +kernel
def fX10_could_1 (v0 : Nat) (s0 : Nat) (h : aH) : Option (Int32 × aH) :=
  (isO h 10 s0).bind fun _ =>
  (gX10_lacksTable s0 h).bind fun r =>
  fX10_could_4 v0 r.1 r.2
theorem tX10_could_1 {d : Nat} {z : Int32 × aH} (v0 : Nat) (s0 : Nat) (h : aH) (hf : fX10_could_1 v0 s0 h = some z) : Ev (d + 5) none mX10_could (0, 0) 1 [.ref v0] [.ref s0] h (QI z) := by
  obtain ⟨_, h1, hf⟩ := bnd hf
  obtain ⟨fs, ho⟩ := isO_ok h1
  obtain ⟨r, h2, hf⟩ := bnd hf
  refine ev_V kqX10_could_1 jX10_lacksTable (zX10_lacksTable (d := d + 4) h2) ho rfl rfl (Nat.le_of_ble_eq_true rfl) rfl (as := []) (rest := []) rfl (Nat.le_of_ble_eq_true rfl) (fun _ _ hq => ?_)
  obtain ⟨-, rfl, rfl⟩ := hq
  exact jm [2] (fun v0 => fX10_could_4 v0 r.1 r.2) (fun v0 q => tX10_could_4 v0 r.1 r.2 q) hf
def wX10_could_0 : List En := [(.aload_n 0, 0, 0, 0)]
def fX10_could_0 (v0 : Nat) (h : aH) : Option (Int32 × aH) :=
  fX10_could_1 v0 v0 h
theorem tX10_could_0 {d : Nat} {z : Int32 × aH} (v0 : Nat) (h : aH) (hf : fX10_could_0 v0 h = some z) : Ev (d + 5) none mX10_could (0, 0) 0 [.ref v0] [] h (QI z) := 
  go_ok (X := none) (blk := wX10_could_0) (np := 1) (tt := 0) (kN := fun xs h st => app [2] (fun v0 => apS [2] (fun s0 => fX10_could_1 v0 s0 h) st) xs) (kT := fun _ _ _ => none) (kR := kRI)
    (fun xs h st q => jm [2] _ (fun v0 q => apS_ok [2] _ (fun st => Ev (d + 5) none mX10_could (0, 0) 1 [.ref v0] st h (QI z)) st (fun s0 q => tX10_could_1 v0 s0 h q) q) q)
    (fun _ _ _ q => nos q)
    kRI_ok (Or.inr rfl) (by decide +kernel) (by decide +kernel) hf
def gX10_could (v0 : Nat) (h : aH) : Option (Int32 × aH) := fX10_could_0 v0 h
theorem zX10_could {d : Nat} {z : Int32 × aH} {v0 : Nat} {h : aH} (q : gX10_could v0 h = some z) : CT (d + 5) mX10_could (0, 0) [.ref v0] h (QI z) :=
  ct_ev (by decide +kernel) (Nat.le_of_ble_eq_true rfl) QI_r (jm [2] (fun v0 => fX10_could_0 v0 h) (fun v0 q => tX10_could_0 v0 h q) q)
def wX10_surely_35 : List En := [(.ireturn, 0, 0, 0)]
def fX10_surely_35 (s0 : Int32) (h : aH) : Option (Int32 × aH) :=
  some (s0, h)
theorem tX10_surely_35 {d : Nat} {z : Int32 × aH} (s0 : Int32) (h : aH) (hf : fX10_surely_35 s0 h = some z) : Ev (d + 5) none mX10_surely (0, 0) 35 [.null] [.int s0] h (QI z) := 
  go_ok (X := none) (blk := wX10_surely_35) (np := 36) (tt := 0) (kN := fun _ _ _ => none) (kT := fun _ _ _ => none) (kR := kRI)
    (fun _ _ _ q => nos q)
    (fun _ _ _ q => nos q)
    kRI_ok (Or.inr rfl) (by decide +kernel) (by decide +kernel) hf
theorem kqX10_surely_32 : okC mX10_surely 32 (.invokevirtual 119) 60 44 0 1 = true := by decide +kernel
def fX10_surely_32 (s0 : Int32) (s1 : Nat) (h : aH) : Option (Int32 × aH) :=
  (isO h 10 s1).bind fun _ =>
  (gX10_answer s1 s0 h).bind fun r =>
  fX10_surely_35 r.1 r.2
theorem tX10_surely_32 {d : Nat} {z : Int32 × aH} (s0 : Int32) (s1 : Nat) (h : aH) (hf : fX10_surely_32 s0 s1 h = some z) : Ev (d + 5) none mX10_surely (0, 0) 32 [.null] [.int s0, .ref s1] h (QI z) := by
  obtain ⟨_, h1, hf⟩ := bnd hf
  obtain ⟨fs, ho⟩ := isO_ok h1
  obtain ⟨r, h2, hf⟩ := bnd hf
  refine ev_V kqX10_surely_32 jX10_answer (zX10_answer (d := d + 4) h2) ho rfl rfl (Nat.le_of_ble_eq_true rfl) rfl (as := [.int s0]) (rest := []) rfl (Nat.le_of_ble_eq_true rfl) (fun _ _ hq => ?_)
  obtain ⟨rfl, rfl⟩ := hq
  exact jm [0] (fX10_surely_35 r.1 r.2) (fun q => tX10_surely_35 r.1 r.2 q) hf
def wX10_surely_24 : List En := [(.aload_n 0, 0, 0, 0), (.aload_n 0, 0, 0, 0), (.getfield 33, 165, 10, 3), (.getfield 283, 74, 3, 2)]
def fX10_surely_24 (v0 : Nat) (h : aH) : Option (Int32 × aH) :=
  (gFR h 10 v0 3).bind fun t1 =>
  (gFI h 3 t1 2).bind fun t2 =>
  fX10_surely_32 t2 v0 h
theorem tX10_surely_24 {d : Nat} {z : Int32 × aH} (v0 : Nat) (h : aH) (hf : fX10_surely_24 v0 h = some z) : Ev (d + 5) none mX10_surely (0, 0) 24 [.ref v0] [] h (QI z) := 
  go_ok (X := none) (blk := wX10_surely_24) (np := 32) (tt := 0) (kN := fun xs h st => app [0] (apS [1, 2] (fun s0 s1 => fX10_surely_32 s0 s1 h) st) xs) (kT := fun _ _ _ => none) (kR := kRI)
    (fun xs h st q => jm [0] _ (fun q => apS_ok [1, 2] _ (fun st => Ev (d + 5) none mX10_surely (0, 0) 32 [.null] st h (QI z)) st (fun s0 s1 q => tX10_surely_32 s0 s1 h q) q) q)
    (fun _ _ _ q => nos q)
    kRI_ok (Or.inr rfl) (by decide +kernel) (by decide +kernel) hf
theorem kqX10_surely_21 : okC mX10_surely 21 (.invokevirtual 270) 135 141 0 1 = true := by decide +kernel
def fX10_surely_21 (v0 : Nat) (s0 : Nat) (s1 : Nat) (h : aH) : Option (Int32 × aH) :=
  (isO h 3 s1).bind fun _ =>
  (gX3_weigh s1 s0 h).bind fun r =>
  fX10_surely_24 v0 r
theorem tX10_surely_21 {d : Nat} {z : Int32 × aH} (v0 : Nat) (s0 : Nat) (s1 : Nat) (h : aH) (hf : fX10_surely_21 v0 s0 s1 h = some z) : Ev (d + 5) none mX10_surely (0, 0) 21 [.ref v0] [.ref s0, .ref s1] h (QI z) := by
  obtain ⟨_, h1, hf⟩ := bnd hf
  obtain ⟨fs, ho⟩ := isO_ok h1
  obtain ⟨r, h2, hf⟩ := bnd hf
  refine ev_V kqX10_surely_21 jX3_weigh (zX3_weigh (d := d + 0) h2) ho rfl rfl (Nat.le_of_ble_eq_true rfl) rfl (as := [.ref s0]) (rest := []) rfl (Nat.le_of_ble_eq_true rfl) (fun _ _ hq => ?_)
  obtain ⟨rfl, hh⟩ := hq
  rw [hh]
  exact jm [2] (fun v0 => fX10_surely_24 v0 r) (fun v0 q => tX10_surely_24 v0 r q) hf
def wX10_surely_13 : List En := [(.aload_n 0, 0, 0, 0), (.getfield 33, 165, 10, 3), (.aload_n 0, 0, 0, 0), (.getfield 75, 171, 10, 9)]
def fX10_surely_13 (v0 : Nat) (h : aH) : Option (Int32 × aH) :=
  (gFR h 10 v0 3).bind fun t1 =>
  (gFR h 10 v0 9).bind fun t2 =>
  fX10_surely_21 v0 t2 t1 h
theorem tX10_surely_13 {d : Nat} {z : Int32 × aH} (v0 : Nat) (h : aH) (hf : fX10_surely_13 v0 h = some z) : Ev (d + 5) none mX10_surely (0, 0) 13 [.ref v0] [] h (QI z) := 
  go_ok (X := none) (blk := wX10_surely_13) (np := 21) (tt := 0) (kN := fun xs h st => app [2] (fun v0 => apS [2, 2] (fun s0 s1 => fX10_surely_21 v0 s0 s1 h) st) xs) (kT := fun _ _ _ => none) (kR := kRI)
    (fun xs h st q => jm [2] _ (fun v0 q => apS_ok [2, 2] _ (fun st => Ev (d + 5) none mX10_surely (0, 0) 21 [.ref v0] st h (QI z)) st (fun s0 s1 q => tX10_surely_21 v0 s0 s1 h q) q) q)
    (fun _ _ _ q => nos q)
    kRI_ok (Or.inr rfl) (by decide +kernel) (by decide +kernel) hf
def wX10_surely_12 : List En := [(.ireturn, 0, 0, 0)]
def fX10_surely_12 (s0 : Int32) (h : aH) : Option (Int32 × aH) :=
  some (s0, h)
theorem tX10_surely_12 {d : Nat} {z : Int32 × aH} (s0 : Int32) (h : aH) (hf : fX10_surely_12 s0 h = some z) : Ev (d + 5) none mX10_surely (0, 0) 12 [.null] [.int s0] h (QI z) := 
  go_ok (X := none) (blk := wX10_surely_12) (np := 13) (tt := 0) (kN := fun _ _ _ => none) (kT := fun _ _ _ => none) (kR := kRI)
    (fun _ _ _ q => nos q)
    (fun _ _ _ q => nos q)
    kRI_ok (Or.inr rfl) (by decide +kernel) (by decide +kernel) hf
theorem kqX10_surely_9 : okC mX10_surely 9 (.invokevirtual 94) 15 8 0 1 = true := by decide +kernel
def fX10_surely_9 (s0 : Int32) (s1 : Nat) (h : aH) : Option (Int32 × aH) :=
  (isO h 10 s1).bind fun _ =>
  (gX10_refuse s1 s0 h).bind fun r =>
  fX10_surely_12 r.1 r.2
theorem tX10_surely_9 {d : Nat} {z : Int32 × aH} (s0 : Int32) (s1 : Nat) (h : aH) (hf : fX10_surely_9 s0 s1 h = some z) : Ev (d + 5) none mX10_surely (0, 0) 9 [.null] [.int s0, .ref s1] h (QI z) := by
  obtain ⟨_, h1, hf⟩ := bnd hf
  obtain ⟨fs, ho⟩ := isO_ok h1
  obtain ⟨r, h2, hf⟩ := bnd hf
  refine ev_V kqX10_surely_9 jX10_refuse (zX10_refuse (d := d + 4) h2) ho rfl rfl (Nat.le_of_ble_eq_true rfl) rfl (as := [.int s0]) (rest := []) rfl (Nat.le_of_ble_eq_true rfl) (fun _ _ hq => ?_)
  obtain ⟨rfl, rfl⟩ := hq
  exact jm [0] (fX10_surely_12 r.1 r.2) (fun q => tX10_surely_12 r.1 r.2 q) hf
def wX10_surely_7 : List En := [(.aload_n 0, 0, 0, 0), (.iconst 1, 0, 0, 0)]
def fX10_surely_7 (v0 : Nat) (h : aH) : Option (Int32 × aH) :=
  fX10_surely_9 (kI 1) v0 h
theorem tX10_surely_7 {d : Nat} {z : Int32 × aH} (v0 : Nat) (h : aH) (hf : fX10_surely_7 v0 h = some z) : Ev (d + 5) none mX10_surely (0, 0) 7 [.ref v0] [] h (QI z) := 
  go_ok (X := none) (blk := wX10_surely_7) (np := 9) (tt := 0) (kN := fun xs h st => app [0] (apS [1, 2] (fun s0 s1 => fX10_surely_9 s0 s1 h) st) xs) (kT := fun _ _ _ => none) (kR := kRI)
    (fun xs h st q => jm [0] _ (fun q => apS_ok [1, 2] _ (fun st => Ev (d + 5) none mX10_surely (0, 0) 9 [.null] st h (QI z)) st (fun s0 s1 q => tX10_surely_9 s0 s1 h q) q) q)
    (fun _ _ _ q => nos q)
    kRI_ok (Or.inr rfl) (by decide +kernel) (by decide +kernel) hf
def wX10_surely_4 : List En := [(.ifCond .eq 9, 13, 0, 0)]
def fX10_surely_4 (v0 : Nat) (s0 : Int32) (h : aH) : Option (Int32 × aH) :=
  if s0 = 0 then fX10_surely_13 v0 h else fX10_surely_7 v0 h
theorem tX10_surely_4 {d : Nat} {z : Int32 × aH} (v0 : Nat) (s0 : Int32) (h : aH) (hf : fX10_surely_4 v0 s0 h = some z) : Ev (d + 5) none mX10_surely (0, 0) 4 [.ref v0] [.int s0] h (QI z) := 
  go_ok (X := none) (blk := wX10_surely_4) (np := 7) (tt := 13) (kN := fun xs h st => app [2] (fun v0 => apS [] (fX10_surely_7 v0 h) st) xs) (kT := fun xs h st => app [2] (fun v0 => apS [] (fX10_surely_13 v0 h) st) xs) (kR := kRI)
    (fun xs h st q => jm [2] _ (fun v0 q => apS_ok [] _ (fun st => Ev (d + 5) none mX10_surely (0, 0) 7 [.ref v0] st h (QI z)) st (fun q => tX10_surely_7 v0 h q) q) q)
    (fun xs h st q => jm [2] _ (fun v0 q => apS_ok [] _ (fun st => Ev (d + 5) none mX10_surely (0, 0) 13 [.ref v0] st h (QI z)) st (fun q => tX10_surely_13 v0 h q) q) q)
    kRI_ok (Or.inr rfl) (by decide +kernel) (by decide +kernel) hf
theorem kqX10_surely_1 : okC mX10_surely 1 (.invokevirtual 159) 68 52 0 0 = true := by decide +kernel
def fX10_surely_1 (v0 : Nat) (s0 : Nat) (h : aH) : Option (Int32 × aH) :=
  (isO h 10 s0).bind fun _ =>
  (gX10_lacksTable s0 h).bind fun r =>
  fX10_surely_4 v0 r.1 r.2
theorem tX10_surely_1 {d : Nat} {z : Int32 × aH} (v0 : Nat) (s0 : Nat) (h : aH) (hf : fX10_surely_1 v0 s0 h = some z) : Ev (d + 5) none mX10_surely (0, 0) 1 [.ref v0] [.ref s0] h (QI z) := by
  obtain ⟨_, h1, hf⟩ := bnd hf
  obtain ⟨fs, ho⟩ := isO_ok h1
  obtain ⟨r, h2, hf⟩ := bnd hf
  refine ev_V kqX10_surely_1 jX10_lacksTable (zX10_lacksTable (d := d + 4) h2) ho rfl rfl (Nat.le_of_ble_eq_true rfl) rfl (as := []) (rest := []) rfl (Nat.le_of_ble_eq_true rfl) (fun _ _ hq => ?_)
  obtain ⟨-, rfl, rfl⟩ := hq
  exact jm [2] (fun v0 => fX10_surely_4 v0 r.1 r.2) (fun v0 q => tX10_surely_4 v0 r.1 r.2 q) hf
def wX10_surely_0 : List En := [(.aload_n 0, 0, 0, 0)]
def fX10_surely_0 (v0 : Nat) (h : aH) : Option (Int32 × aH) :=
  fX10_surely_1 v0 v0 h
theorem tX10_surely_0 {d : Nat} {z : Int32 × aH} (v0 : Nat) (h : aH) (hf : fX10_surely_0 v0 h = some z) : Ev (d + 5) none mX10_surely (0, 0) 0 [.ref v0] [] h (QI z) := 
  go_ok (X := none) (blk := wX10_surely_0) (np := 1) (tt := 0) (kN := fun xs h st => app [2] (fun v0 => apS [2] (fun s0 => fX10_surely_1 v0 s0 h) st) xs) (kT := fun _ _ _ => none) (kR := kRI)
    (fun xs h st q => jm [2] _ (fun v0 q => apS_ok [2] _ (fun st => Ev (d + 5) none mX10_surely (0, 0) 1 [.ref v0] st h (QI z)) st (fun s0 q => tX10_surely_1 v0 s0 h q) q) q)
    (fun _ _ _ q => nos q)
    kRI_ok (Or.inr rfl) (by decide +kernel) (by decide +kernel) hf
def gX10_surely (v0 : Nat) (h : aH) : Option (Int32 × aH) := fX10_surely_0 v0 h
theorem zX10_surely {d : Nat} {z : Int32 × aH} {v0 : Nat} {h : aH} (q : gX10_surely v0 h = some z) : CT (d + 5) mX10_surely (0, 0) [.ref v0] h (QI z) :=
  ct_ev (by decide +kernel) (Nat.le_of_ble_eq_true rfl) QI_r (jm [2] (fun v0 => fX10_surely_0 v0 h) (fun v0 q => tX10_surely_0 v0 h q) q)
def wX3_leftAtMost_51 : List En := [(.ireturn, 0, 0, 0)]
def fX3_leftAtMost_51 (s0 : Int32) (h : aH) : Option (Int32 × aH) :=
  some (s0, h)
theorem tX3_leftAtMost_51 {d : Nat} {z : Int32 × aH} (s0 : Int32) (h : aH) (hf : fX3_leftAtMost_51 s0 h = some z) : Ev (d + 1) none mX3_leftAtMost (0, 0) 51 [.null, .null, .null, .null] [.int s0] h (QI z) := 
  go_ok (X := none) (blk := wX3_leftAtMost_51) (np := 52) (tt := 0) (kN := fun _ _ _ => none) (kT := fun _ _ _ => none) (kR := kRI)
    (fun _ _ _ q => nos q)
    (fun _ _ _ q => nos q)
    kRI_ok (Or.inr rfl) (by decide +kernel) (by decide +kernel) hf
theorem kqX3_leftAtMost_48 : ckP mX3_leftAtMost 48 92 1 18 = true := by decide +kernel
def fX3_leftAtMost_48 (s0 : Int32) (s1 : Int32) (h : aH) : Option (Int32 × aH) :=
  fX3_leftAtMost_51 (if s1 < s0 then s0 else s1) h
theorem tX3_leftAtMost_48 {d : Nat} {z : Int32 × aH} (s0 : Int32) (s1 : Int32) (h : aH) (hf : fX3_leftAtMost_48 s0 s1 h = some z) : Ev (d + 1) none mX3_leftAtMost (0, 0) 48 [.null, .null, .null, .null] [.int s0, .int s1] h (QI z) := 
  ev_mx kqX3_leftAtMost_48 rfl (Nat.le_of_ble_eq_true rfl) (jm [0, 0, 0, 0] (fX3_leftAtMost_51 (if s1 < s0 then s0 else s1) h) (fun q => tX3_leftAtMost_51 (if s1 < s0 then s0 else s1) h q) hf)
def wX3_leftAtMost_41 : List En := [(.iload_n 2, 0, 0, 0), (.aload_n 0, 0, 0, 0), (.getfield 33, 69, 3, 0), (.iload_n 2, 0, 0, 0), (.isub, 0, 0, 0)]
def fX3_leftAtMost_41 (v0 : Nat) (v2 : Int32) (h : aH) : Option (Int32 × aH) :=
  (gFI h 3 v0 0).bind fun t1 =>
  fX3_leftAtMost_48 (t1 - v2) v2 h
theorem tX3_leftAtMost_41 {d : Nat} {z : Int32 × aH} (v0 : Nat) (v2 : Int32) (h : aH) (hf : fX3_leftAtMost_41 v0 v2 h = some z) : Ev (d + 1) none mX3_leftAtMost (0, 0) 41 [.ref v0, .null, .int v2, .null] [] h (QI z) := 
  go_ok (X := none) (blk := wX3_leftAtMost_41) (np := 48) (tt := 0) (kN := fun xs h st => app [0, 0, 0, 0] (apS [1, 1] (fun s0 s1 => fX3_leftAtMost_48 s0 s1 h) st) xs) (kT := fun _ _ _ => none) (kR := kRI)
    (fun xs h st q => jm [0, 0, 0, 0] _ (fun q => apS_ok [1, 1] _ (fun st => Ev (d + 1) none mX3_leftAtMost (0, 0) 48 [.null, .null, .null, .null] st h (QI z)) st (fun s0 s1 q => tX3_leftAtMost_48 s0 s1 h q) q) q)
    (fun _ _ _ q => nos q)
    kRI_ok (Or.inr rfl) (by decide +kernel) (by decide +kernel) hf
def wX3_leftAtMost_33 : List En := [(.iadd, 0, 0, 0), (.istore_n 2, 0, 0, 0), (.iinc 3 1, 0, 0, 0), (.goto (-34), 4, 0, 0)]
def fX3_leftAtMost_33 (k4 : Nat → Int32 → Int32 → Int32 → aH → Option (Int32 × aH)) (v0 : Nat) (v1 : Int32) (v3 : Int32) (s0 : Int32) (s1 : Int32) (h : aH) : Option (Int32 × aH) :=
  k4 v0 v1 (s1 + s0) (v3 + kI 1) h
theorem tX3_leftAtMost_33 {d : Nat} {z : Int32 × aH} {k4 : Nat → Int32 → Int32 → Int32 → aH → Option (Int32 × aH)} (hk4 : ∀ (v0 : Nat) (v1 : Int32) (v2 : Int32) (v3 : Int32) (h : aH), k4 v0 v1 v2 v3 h = some z → Ev (d + 1) none mX3_leftAtMost (0, 0) 4 [.ref v0, .int v1, .int v2, .int v3] [] h (QI z)) (v0 : Nat) (v1 : Int32) (v3 : Int32) (s0 : Int32) (s1 : Int32) (h : aH) (hf : fX3_leftAtMost_33 k4 v0 v1 v3 s0 s1 h = some z) : Ev (d + 1) none mX3_leftAtMost (0, 0) 33 [.ref v0, .int v1, .null, .int v3] [.int s0, .int s1] h (QI z) := 
  go_ok (X := none) (blk := wX3_leftAtMost_33) (np := 41) (tt := 4) (kN := fun _ _ _ => none) (kT := fun xs h st => app [2, 1, 1, 1] (fun v0 v1 v2 v3 => apS [] (k4 v0 v1 v2 v3 h) st) xs) (kR := kRI)
    (fun _ _ _ q => nos q)
    (fun xs h st q => jm [2, 1, 1, 1] _ (fun v0 v1 v2 v3 q => apS_ok [] _ (fun st => Ev (d + 1) none mX3_leftAtMost (0, 0) 4 [.ref v0, .int v1, .int v2, .int v3] st h (QI z)) st (fun q => hk4 v0 v1 v2 v3 h q) q) q)
    kRI_ok (Or.inr rfl) (by decide +kernel) (by decide +kernel) hf
def wX3_leftAtMost_32 : List En := [(.iconst 0, 0, 0, 0)]
def fX3_leftAtMost_32 (k4 : Nat → Int32 → Int32 → Int32 → aH → Option (Int32 × aH)) (v0 : Nat) (v1 : Int32) (v3 : Int32) (s0 : Int32) (h : aH) : Option (Int32 × aH) :=
  fX3_leftAtMost_33 k4 v0 v1 v3 (kI 0) s0 h
theorem tX3_leftAtMost_32 {d : Nat} {z : Int32 × aH} {k4 : Nat → Int32 → Int32 → Int32 → aH → Option (Int32 × aH)} (hk4 : ∀ (v0 : Nat) (v1 : Int32) (v2 : Int32) (v3 : Int32) (h : aH), k4 v0 v1 v2 v3 h = some z → Ev (d + 1) none mX3_leftAtMost (0, 0) 4 [.ref v0, .int v1, .int v2, .int v3] [] h (QI z)) (v0 : Nat) (v1 : Int32) (v3 : Int32) (s0 : Int32) (h : aH) (hf : fX3_leftAtMost_32 k4 v0 v1 v3 s0 h = some z) : Ev (d + 1) none mX3_leftAtMost (0, 0) 32 [.ref v0, .int v1, .null, .int v3] [.int s0] h (QI z) := 
  go_ok (X := none) (blk := wX3_leftAtMost_32) (np := 33) (tt := 0) (kN := fun xs h st => app [2, 1, 0, 1] (fun v0 v1 v3 => apS [1, 1] (fun s0 s1 => fX3_leftAtMost_33 k4 v0 v1 v3 s0 s1 h) st) xs) (kT := fun _ _ _ => none) (kR := kRI)
    (fun xs h st q => jm [2, 1, 0, 1] _ (fun v0 v1 v3 q => apS_ok [1, 1] _ (fun st => Ev (d + 1) none mX3_leftAtMost (0, 0) 33 [.ref v0, .int v1, .null, .int v3] st h (QI z)) st (fun s0 s1 q => tX3_leftAtMost_33 hk4 v0 v1 v3 s0 s1 h q) q) q)
    (fun _ _ _ q => nos q)
    kRI_ok (Or.inr rfl) (by decide +kernel) (by decide +kernel) hf
def wX3_leftAtMost_28 : List En := [(.iconst 1, 0, 0, 0), (.goto 4, 33, 0, 0)]
def fX3_leftAtMost_28 (k4 : Nat → Int32 → Int32 → Int32 → aH → Option (Int32 × aH)) (v0 : Nat) (v1 : Int32) (v3 : Int32) (s0 : Int32) (h : aH) : Option (Int32 × aH) :=
  fX3_leftAtMost_33 k4 v0 v1 v3 (kI 1) s0 h
theorem tX3_leftAtMost_28 {d : Nat} {z : Int32 × aH} {k4 : Nat → Int32 → Int32 → Int32 → aH → Option (Int32 × aH)} (hk4 : ∀ (v0 : Nat) (v1 : Int32) (v2 : Int32) (v3 : Int32) (h : aH), k4 v0 v1 v2 v3 h = some z → Ev (d + 1) none mX3_leftAtMost (0, 0) 4 [.ref v0, .int v1, .int v2, .int v3] [] h (QI z)) (v0 : Nat) (v1 : Int32) (v3 : Int32) (s0 : Int32) (h : aH) (hf : fX3_leftAtMost_28 k4 v0 v1 v3 s0 h = some z) : Ev (d + 1) none mX3_leftAtMost (0, 0) 28 [.ref v0, .int v1, .null, .int v3] [.int s0] h (QI z) := 
  go_ok (X := none) (blk := wX3_leftAtMost_28) (np := 32) (tt := 33) (kN := fun _ _ _ => none) (kT := fun xs h st => app [2, 1, 0, 1] (fun v0 v1 v3 => apS [1, 1] (fun s0 s1 => fX3_leftAtMost_33 k4 v0 v1 v3 s0 s1 h) st) xs) (kR := kRI)
    (fun _ _ _ q => nos q)
    (fun xs h st q => jm [2, 1, 0, 1] _ (fun v0 v1 v3 q => apS_ok [1, 1] _ (fun st => Ev (d + 1) none mX3_leftAtMost (0, 0) 33 [.ref v0, .int v1, .null, .int v3] st h (QI z)) st (fun s0 s1 q => tX3_leftAtMost_33 hk4 v0 v1 v3 s0 s1 h q) q) q)
    kRI_ok (Or.inr rfl) (by decide +kernel) (by decide +kernel) hf
def wX3_leftAtMost_19 : List En := [(.iload_n 3, 0, 0, 0), (.iload_n 1, 0, 0, 0), (.ishr, 0, 0, 0), (.iconst 1, 0, 0, 0), (.iand, 0, 0, 0), (.iconst 1, 0, 0, 0), (.if_icmp .ne 7, 32, 0, 0)]
def fX3_leftAtMost_19 (k4 : Nat → Int32 → Int32 → Int32 → aH → Option (Int32 × aH)) (v0 : Nat) (v1 : Int32) (v3 : Int32) (s0 : Int32) (h : aH) : Option (Int32 × aH) :=
  if ((v3 >>> (v1 &&& 31)) &&& (kI 1)) = (kI 1) then fX3_leftAtMost_28 k4 v0 v1 v3 s0 h else fX3_leftAtMost_32 k4 v0 v1 v3 s0 h
theorem tX3_leftAtMost_19 {d : Nat} {z : Int32 × aH} {k4 : Nat → Int32 → Int32 → Int32 → aH → Option (Int32 × aH)} (hk4 : ∀ (v0 : Nat) (v1 : Int32) (v2 : Int32) (v3 : Int32) (h : aH), k4 v0 v1 v2 v3 h = some z → Ev (d + 1) none mX3_leftAtMost (0, 0) 4 [.ref v0, .int v1, .int v2, .int v3] [] h (QI z)) (v0 : Nat) (v1 : Int32) (v3 : Int32) (s0 : Int32) (h : aH) (hf : fX3_leftAtMost_19 k4 v0 v1 v3 s0 h = some z) : Ev (d + 1) none mX3_leftAtMost (0, 0) 19 [.ref v0, .int v1, .null, .int v3] [.int s0] h (QI z) := 
  go_ok (X := none) (blk := wX3_leftAtMost_19) (np := 28) (tt := 32) (kN := fun xs h st => app [2, 1, 0, 1] (fun v0 v1 v3 => apS [1] (fun s0 => fX3_leftAtMost_28 k4 v0 v1 v3 s0 h) st) xs) (kT := fun xs h st => app [2, 1, 0, 1] (fun v0 v1 v3 => apS [1] (fun s0 => fX3_leftAtMost_32 k4 v0 v1 v3 s0 h) st) xs) (kR := kRI)
    (fun xs h st q => jm [2, 1, 0, 1] _ (fun v0 v1 v3 q => apS_ok [1] _ (fun st => Ev (d + 1) none mX3_leftAtMost (0, 0) 28 [.ref v0, .int v1, .null, .int v3] st h (QI z)) st (fun s0 q => tX3_leftAtMost_28 hk4 v0 v1 v3 s0 h q) q) q)
    (fun xs h st q => jm [2, 1, 0, 1] _ (fun v0 v1 v3 q => apS_ok [1] _ (fun st => Ev (d + 1) none mX3_leftAtMost (0, 0) 32 [.ref v0, .int v1, .null, .int v3] st h (QI z)) st (fun s0 q => tX3_leftAtMost_32 hk4 v0 v1 v3 s0 h q) q) q)
    kRI_ok (Or.inr rfl) (by decide +kernel) (by decide +kernel) hf
def wX3_leftAtMost_16 : List En := [(.ifCond .eq 16, 32, 0, 0)]
def fX3_leftAtMost_16 (k4 : Nat → Int32 → Int32 → Int32 → aH → Option (Int32 × aH)) (v0 : Nat) (v1 : Int32) (v3 : Int32) (s0 : Int32) (s1 : Int32) (h : aH) : Option (Int32 × aH) :=
  if s0 = 0 then fX3_leftAtMost_32 k4 v0 v1 v3 s1 h else fX3_leftAtMost_19 k4 v0 v1 v3 s1 h
theorem tX3_leftAtMost_16 {d : Nat} {z : Int32 × aH} {k4 : Nat → Int32 → Int32 → Int32 → aH → Option (Int32 × aH)} (hk4 : ∀ (v0 : Nat) (v1 : Int32) (v2 : Int32) (v3 : Int32) (h : aH), k4 v0 v1 v2 v3 h = some z → Ev (d + 1) none mX3_leftAtMost (0, 0) 4 [.ref v0, .int v1, .int v2, .int v3] [] h (QI z)) (v0 : Nat) (v1 : Int32) (v3 : Int32) (s0 : Int32) (s1 : Int32) (h : aH) (hf : fX3_leftAtMost_16 k4 v0 v1 v3 s0 s1 h = some z) : Ev (d + 1) none mX3_leftAtMost (0, 0) 16 [.ref v0, .int v1, .null, .int v3] [.int s0, .int s1] h (QI z) := 
  go_ok (X := none) (blk := wX3_leftAtMost_16) (np := 19) (tt := 32) (kN := fun xs h st => app [2, 1, 0, 1] (fun v0 v1 v3 => apS [1] (fun s0 => fX3_leftAtMost_19 k4 v0 v1 v3 s0 h) st) xs) (kT := fun xs h st => app [2, 1, 0, 1] (fun v0 v1 v3 => apS [1] (fun s0 => fX3_leftAtMost_32 k4 v0 v1 v3 s0 h) st) xs) (kR := kRI)
    (fun xs h st q => jm [2, 1, 0, 1] _ (fun v0 v1 v3 q => apS_ok [1] _ (fun st => Ev (d + 1) none mX3_leftAtMost (0, 0) 19 [.ref v0, .int v1, .null, .int v3] st h (QI z)) st (fun s0 q => tX3_leftAtMost_19 hk4 v0 v1 v3 s0 h q) q) q)
    (fun xs h st q => jm [2, 1, 0, 1] _ (fun v0 v1 v3 q => apS_ok [1] _ (fun st => Ev (d + 1) none mX3_leftAtMost (0, 0) 32 [.ref v0, .int v1, .null, .int v3] st h (QI z)) st (fun s0 q => tX3_leftAtMost_32 hk4 v0 v1 v3 s0 h q) q) q)
    kRI_ok (Or.inr rfl) (by decide +kernel) (by decide +kernel) hf
theorem kqX3_leftAtMost_13 : okC mX3_leftAtMost 13 (.invokevirtual 84) 140 148 0 1 = true := by decide +kernel
def fX3_leftAtMost_13 (k4 : Nat → Int32 → Int32 → Int32 → aH → Option (Int32 × aH)) (v0 : Nat) (v1 : Int32) (v3 : Int32) (s0 : Int32) (s1 : Nat) (s2 : Int32) (h : aH) : Option (Int32 × aH) :=
  (isO h 3 s1).bind fun _ =>
  (gX3_isFitting s1 s0 h).bind fun r =>
  fX3_leftAtMost_16 k4 v0 v1 v3 r.1 s2 r.2
theorem tX3_leftAtMost_13 {d : Nat} {z : Int32 × aH} {k4 : Nat → Int32 → Int32 → Int32 → aH → Option (Int32 × aH)} (hk4 : ∀ (v0 : Nat) (v1 : Int32) (v2 : Int32) (v3 : Int32) (h : aH), k4 v0 v1 v2 v3 h = some z → Ev (d + 1) none mX3_leftAtMost (0, 0) 4 [.ref v0, .int v1, .int v2, .int v3] [] h (QI z)) (v0 : Nat) (v1 : Int32) (v3 : Int32) (s0 : Int32) (s1 : Nat) (s2 : Int32) (h : aH) (hf : fX3_leftAtMost_13 k4 v0 v1 v3 s0 s1 s2 h = some z) : Ev (d + 1) none mX3_leftAtMost (0, 0) 13 [.ref v0, .int v1, .null, .int v3] [.int s0, .ref s1, .int s2] h (QI z) := by
  obtain ⟨_, h1, hf⟩ := bnd hf
  obtain ⟨fs, ho⟩ := isO_ok h1
  obtain ⟨r, h2, hf⟩ := bnd hf
  refine ev_V kqX3_leftAtMost_13 jX3_isFitting (zX3_isFitting (d := d + 0) h2) ho rfl rfl (Nat.le_of_ble_eq_true rfl) rfl (as := [.int s0]) (rest := [.int s2]) rfl (Nat.le_of_ble_eq_true rfl) (fun _ _ hq => ?_)
  obtain ⟨-, rfl, rfl⟩ := hq
  exact jm [2, 1, 0, 1] (fun v0 v1 v3 => fX3_leftAtMost_16 k4 v0 v1 v3 r.1 s2 r.2) (fun v0 v1 v3 q => tX3_leftAtMost_16 hk4 v0 v1 v3 r.1 s2 r.2 q) hf
def wX3_leftAtMost_10 : List En := [(.iload_n 2, 0, 0, 0), (.aload_n 0, 0, 0, 0), (.iload_n 3, 0, 0, 0)]
def fX3_leftAtMost_10 (k4 : Nat → Int32 → Int32 → Int32 → aH → Option (Int32 × aH)) (v0 : Nat) (v1 : Int32) (v2 : Int32) (v3 : Int32) (h : aH) : Option (Int32 × aH) :=
  fX3_leftAtMost_13 k4 v0 v1 v3 v3 v0 v2 h
theorem tX3_leftAtMost_10 {d : Nat} {z : Int32 × aH} {k4 : Nat → Int32 → Int32 → Int32 → aH → Option (Int32 × aH)} (hk4 : ∀ (v0 : Nat) (v1 : Int32) (v2 : Int32) (v3 : Int32) (h : aH), k4 v0 v1 v2 v3 h = some z → Ev (d + 1) none mX3_leftAtMost (0, 0) 4 [.ref v0, .int v1, .int v2, .int v3] [] h (QI z)) (v0 : Nat) (v1 : Int32) (v2 : Int32) (v3 : Int32) (h : aH) (hf : fX3_leftAtMost_10 k4 v0 v1 v2 v3 h = some z) : Ev (d + 1) none mX3_leftAtMost (0, 0) 10 [.ref v0, .int v1, .int v2, .int v3] [] h (QI z) := 
  go_ok (X := none) (blk := wX3_leftAtMost_10) (np := 13) (tt := 0) (kN := fun xs h st => app [2, 1, 0, 1] (fun v0 v1 v3 => apS [1, 2, 1] (fun s0 s1 s2 => fX3_leftAtMost_13 k4 v0 v1 v3 s0 s1 s2 h) st) xs) (kT := fun _ _ _ => none) (kR := kRI)
    (fun xs h st q => jm [2, 1, 0, 1] _ (fun v0 v1 v3 q => apS_ok [1, 2, 1] _ (fun st => Ev (d + 1) none mX3_leftAtMost (0, 0) 13 [.ref v0, .int v1, .null, .int v3] st h (QI z)) st (fun s0 s1 s2 q => tX3_leftAtMost_13 hk4 v0 v1 v3 s0 s1 s2 h q) q) q)
    (fun _ _ _ q => nos q)
    kRI_ok (Or.inr rfl) (by decide +kernel) (by decide +kernel) hf
def wX3_leftAtMost_4 : List En := [(.iload_n 3, 0, 0, 0), (.bipush 16, 0, 0, 0), (.if_icmp .ge 34, 41, 0, 0)]
def fX3_leftAtMost_4 (k4 : Nat → Int32 → Int32 → Int32 → aH → Option (Int32 × aH)) (v0 : Nat) (v1 : Int32) (v2 : Int32) (v3 : Int32) (h : aH) : Option (Int32 × aH) :=
  if v3 < (kB 16) then fX3_leftAtMost_10 k4 v0 v1 v2 v3 h else fX3_leftAtMost_41 v0 v2 h
theorem tX3_leftAtMost_4 {d : Nat} {z : Int32 × aH} {k4 : Nat → Int32 → Int32 → Int32 → aH → Option (Int32 × aH)} (hk4 : ∀ (v0 : Nat) (v1 : Int32) (v2 : Int32) (v3 : Int32) (h : aH), k4 v0 v1 v2 v3 h = some z → Ev (d + 1) none mX3_leftAtMost (0, 0) 4 [.ref v0, .int v1, .int v2, .int v3] [] h (QI z)) (v0 : Nat) (v1 : Int32) (v2 : Int32) (v3 : Int32) (h : aH) (hf : fX3_leftAtMost_4 k4 v0 v1 v2 v3 h = some z) : Ev (d + 1) none mX3_leftAtMost (0, 0) 4 [.ref v0, .int v1, .int v2, .int v3] [] h (QI z) := 
  go_ok (X := none) (blk := wX3_leftAtMost_4) (np := 10) (tt := 41) (kN := fun xs h st => app [2, 1, 1, 1] (fun v0 v1 v2 v3 => apS [] (fX3_leftAtMost_10 k4 v0 v1 v2 v3 h) st) xs) (kT := fun xs h st => app [2, 0, 1, 0] (fun v0 v2 => apS [] (fX3_leftAtMost_41 v0 v2 h) st) xs) (kR := kRI)
    (fun xs h st q => jm [2, 1, 1, 1] _ (fun v0 v1 v2 v3 q => apS_ok [] _ (fun st => Ev (d + 1) none mX3_leftAtMost (0, 0) 10 [.ref v0, .int v1, .int v2, .int v3] st h (QI z)) st (fun q => tX3_leftAtMost_10 hk4 v0 v1 v2 v3 h q) q) q)
    (fun xs h st q => jm [2, 0, 1, 0] _ (fun v0 v2 q => apS_ok [] _ (fun st => Ev (d + 1) none mX3_leftAtMost (0, 0) 41 [.ref v0, .null, .int v2, .null] st h (QI z)) st (fun q => tX3_leftAtMost_41 v0 v2 h q) q) q)
    kRI_ok (Or.inr rfl) (by decide +kernel) (by decide +kernel) hf
def lX3_leftAtMost_4 : Nat → Nat → Int32 → Int32 → Int32 → aH → Option (Int32 × aH)
  | 0, _, _, _, _, _ => none
  | n + 1, v0, v1, v2, v3, h => fX3_leftAtMost_4 (lX3_leftAtMost_4 n) v0 v1 v2 v3 h
theorem uX3_leftAtMost_4 {d : Nat} {z : Int32 × aH} : ∀ (n : Nat) (v0 : Nat) (v1 : Int32) (v2 : Int32) (v3 : Int32) (h : aH), lX3_leftAtMost_4 n v0 v1 v2 v3 h = some z → Ev (d + 1) none mX3_leftAtMost (0, 0) 4 [.ref v0, .int v1, .int v2, .int v3] [] h (QI z) := by
  intro n
  induction n with
  | zero => intro _ _ _ _ _ q; exact nos (show (none : Option (Int32 × aH)) = some z from q)
  | succ n ih => intro v0 v1 v2 v3 h q; exact tX3_leftAtMost_4 ih v0 v1 v2 v3 h q
def wX3_leftAtMost_0 : List En := [(.iconst 0, 0, 0, 0), (.istore_n 2, 0, 0, 0), (.iconst 0, 0, 0, 0), (.istore_n 3, 0, 0, 0)]
def fX3_leftAtMost_0 (v0 : Nat) (v1 : Int32) (h : aH) : Option (Int32 × aH) :=
  lX3_leftAtMost_4 FU v0 v1 (kI 0) (kI 0) h
theorem tX3_leftAtMost_0 {d : Nat} {z : Int32 × aH} (v0 : Nat) (v1 : Int32) (h : aH) (hf : fX3_leftAtMost_0 v0 v1 h = some z) : Ev (d + 1) none mX3_leftAtMost (0, 0) 0 [.ref v0, .int v1, .null, .null] [] h (QI z) := 
  go_ok (X := none) (blk := wX3_leftAtMost_0) (np := 4) (tt := 0) (kN := fun xs h st => app [2, 1, 1, 1] (fun v0 v1 v2 v3 => apS [] (lX3_leftAtMost_4 FU v0 v1 v2 v3 h) st) xs) (kT := fun _ _ _ => none) (kR := kRI)
    (fun xs h st q => jm [2, 1, 1, 1] _ (fun v0 v1 v2 v3 q => apS_ok [] _ (fun st => Ev (d + 1) none mX3_leftAtMost (0, 0) 4 [.ref v0, .int v1, .int v2, .int v3] st h (QI z)) st (fun q => uX3_leftAtMost_4 FU v0 v1 v2 v3 h q) q) q)
    (fun _ _ _ q => nos q)
    kRI_ok (Or.inr rfl) (by decide +kernel) (by decide +kernel) hf
def gX3_leftAtMost (v0 : Nat) (v1 : Int32) (h : aH) : Option (Int32 × aH) := fX3_leftAtMost_0 v0 v1 h
theorem zX3_leftAtMost {d : Nat} {z : Int32 × aH} {v0 : Nat} {v1 : Int32} {h : aH} (q : gX3_leftAtMost v0 v1 h = some z) : CT (d + 1) mX3_leftAtMost (0, 0) [.ref v0, .int v1] h (QI z) :=
  ct_ev (by decide +kernel) (Nat.le_of_ble_eq_true rfl) QI_r (jm [2, 1, 0, 0] (fun v0 v1 => fX3_leftAtMost_0 v0 v1 h) (fun v0 v1 q => tX3_leftAtMost_0 v0 v1 h q) q)
def wX3_whomToAsk_45 : List En := [(.iload_n 2, 0, 0, 0), (.ireturn, 0, 0, 0)]
def fX3_whomToAsk_45 (v2 : Int32) (h : aH) : Option (Int32 × aH) :=
  some (v2, h)
theorem tX3_whomToAsk_45 {d : Nat} {z : Int32 × aH} (v2 : Int32) (h : aH) (hf : fX3_whomToAsk_45 v2 h = some z) : Ev (d + 2) none mX3_whomToAsk (0, 0) 45 [.null, .null, .int v2, .null] [] h (QI z) := 
  go_ok (X := none) (blk := wX3_whomToAsk_45) (np := 47) (tt := 0) (kN := fun _ _ _ => none) (kT := fun _ _ _ => none) (kR := kRI)
    (fun _ _ _ q => nos q)
    (fun _ _ _ q => nos q)
    kRI_ok (Or.inr rfl) (by decide +kernel) (by decide +kernel) hf
def wX3_whomToAsk_39 : List En := [(.iinc 3 1, 0, 0, 0), (.goto (-37), 5, 0, 0)]
def fX3_whomToAsk_39 (k5 : Nat → Nat → Int32 → Int32 → aH → Option (Int32 × aH)) (v0 : Nat) (v1 : Nat) (v2 : Int32) (v3 : Int32) (h : aH) : Option (Int32 × aH) :=
  k5 v0 v1 v2 (v3 + kI 1) h
theorem tX3_whomToAsk_39 {d : Nat} {z : Int32 × aH} {k5 : Nat → Nat → Int32 → Int32 → aH → Option (Int32 × aH)} (hk5 : ∀ (v0 : Nat) (v1 : Nat) (v2 : Int32) (v3 : Int32) (h : aH), k5 v0 v1 v2 v3 h = some z → Ev (d + 2) none mX3_whomToAsk (0, 0) 5 [.ref v0, .ref v1, .int v2, .int v3] [] h (QI z)) (v0 : Nat) (v1 : Nat) (v2 : Int32) (v3 : Int32) (h : aH) (hf : fX3_whomToAsk_39 k5 v0 v1 v2 v3 h = some z) : Ev (d + 2) none mX3_whomToAsk (0, 0) 39 [.ref v0, .ref v1, .int v2, .int v3] [] h (QI z) := 
  go_ok (X := none) (blk := wX3_whomToAsk_39) (np := 45) (tt := 5) (kN := fun _ _ _ => none) (kT := fun xs h st => app [2, 2, 1, 1] (fun v0 v1 v2 v3 => apS [] (k5 v0 v1 v2 v3 h) st) xs) (kR := kRI)
    (fun _ _ _ q => nos q)
    (fun xs h st q => jm [2, 2, 1, 1] _ (fun v0 v1 v2 v3 q => apS_ok [] _ (fun st => Ev (d + 2) none mX3_whomToAsk (0, 0) 5 [.ref v0, .ref v1, .int v2, .int v3] st h (QI z)) st (fun q => hk5 v0 v1 v2 v3 h q) q) q)
    kRI_ok (Or.inr rfl) (by decide +kernel) (by decide +kernel) hf
def wX3_whomToAsk_37 : List En := [(.iload_n 3, 0, 0, 0), (.istore_n 2, 0, 0, 0)]
def fX3_whomToAsk_37 (k5 : Nat → Nat → Int32 → Int32 → aH → Option (Int32 × aH)) (v0 : Nat) (v1 : Nat) (v3 : Int32) (h : aH) : Option (Int32 × aH) :=
  fX3_whomToAsk_39 k5 v0 v1 v3 v3 h
theorem tX3_whomToAsk_37 {d : Nat} {z : Int32 × aH} {k5 : Nat → Nat → Int32 → Int32 → aH → Option (Int32 × aH)} (hk5 : ∀ (v0 : Nat) (v1 : Nat) (v2 : Int32) (v3 : Int32) (h : aH), k5 v0 v1 v2 v3 h = some z → Ev (d + 2) none mX3_whomToAsk (0, 0) 5 [.ref v0, .ref v1, .int v2, .int v3] [] h (QI z)) (v0 : Nat) (v1 : Nat) (v3 : Int32) (h : aH) (hf : fX3_whomToAsk_37 k5 v0 v1 v3 h = some z) : Ev (d + 2) none mX3_whomToAsk (0, 0) 37 [.ref v0, .ref v1, .null, .int v3] [] h (QI z) := 
  go_ok (X := none) (blk := wX3_whomToAsk_37) (np := 39) (tt := 0) (kN := fun xs h st => app [2, 2, 1, 1] (fun v0 v1 v2 v3 => apS [] (fX3_whomToAsk_39 k5 v0 v1 v2 v3 h) st) xs) (kT := fun _ _ _ => none) (kR := kRI)
    (fun xs h st q => jm [2, 2, 1, 1] _ (fun v0 v1 v2 v3 q => apS_ok [] _ (fun st => Ev (d + 2) none mX3_whomToAsk (0, 0) 39 [.ref v0, .ref v1, .int v2, .int v3] st h (QI z)) st (fun q => tX3_whomToAsk_39 hk5 v0 v1 v2 v3 h q) q) q)
    (fun _ _ _ q => nos q)
    kRI_ok (Or.inr rfl) (by decide +kernel) (by decide +kernel) hf
def wX3_whomToAsk_34 : List En := [(.if_icmp .ge 5, 39, 0, 0)]
def fX3_whomToAsk_34 (k5 : Nat → Nat → Int32 → Int32 → aH → Option (Int32 × aH)) (v0 : Nat) (v1 : Nat) (v2 : Int32) (v3 : Int32) (s0 : Int32) (s1 : Int32) (h : aH) : Option (Int32 × aH) :=
  if s1 < s0 then fX3_whomToAsk_37 k5 v0 v1 v3 h else fX3_whomToAsk_39 k5 v0 v1 v2 v3 h
theorem tX3_whomToAsk_34 {d : Nat} {z : Int32 × aH} {k5 : Nat → Nat → Int32 → Int32 → aH → Option (Int32 × aH)} (hk5 : ∀ (v0 : Nat) (v1 : Nat) (v2 : Int32) (v3 : Int32) (h : aH), k5 v0 v1 v2 v3 h = some z → Ev (d + 2) none mX3_whomToAsk (0, 0) 5 [.ref v0, .ref v1, .int v2, .int v3] [] h (QI z)) (v0 : Nat) (v1 : Nat) (v2 : Int32) (v3 : Int32) (s0 : Int32) (s1 : Int32) (h : aH) (hf : fX3_whomToAsk_34 k5 v0 v1 v2 v3 s0 s1 h = some z) : Ev (d + 2) none mX3_whomToAsk (0, 0) 34 [.ref v0, .ref v1, .int v2, .int v3] [.int s0, .int s1] h (QI z) := 
  go_ok (X := none) (blk := wX3_whomToAsk_34) (np := 37) (tt := 39) (kN := fun xs h st => app [2, 2, 0, 1] (fun v0 v1 v3 => apS [] (fX3_whomToAsk_37 k5 v0 v1 v3 h) st) xs) (kT := fun xs h st => app [2, 2, 1, 1] (fun v0 v1 v2 v3 => apS [] (fX3_whomToAsk_39 k5 v0 v1 v2 v3 h) st) xs) (kR := kRI)
    (fun xs h st q => jm [2, 2, 0, 1] _ (fun v0 v1 v3 q => apS_ok [] _ (fun st => Ev (d + 2) none mX3_whomToAsk (0, 0) 37 [.ref v0, .ref v1, .null, .int v3] st h (QI z)) st (fun q => tX3_whomToAsk_37 hk5 v0 v1 v3 h q) q) q)
    (fun xs h st q => jm [2, 2, 1, 1] _ (fun v0 v1 v2 v3 q => apS_ok [] _ (fun st => Ev (d + 2) none mX3_whomToAsk (0, 0) 39 [.ref v0, .ref v1, .int v2, .int v3] st h (QI z)) st (fun q => tX3_whomToAsk_39 hk5 v0 v1 v2 v3 h q) q) q)
    kRI_ok (Or.inr rfl) (by decide +kernel) (by decide +kernel) hf
theorem kqX3_whomToAsk_31 : okC mX3_whomToAsk 31 (.invokevirtual 88) 145 153 0 1 = true := by decide +kernel
def fX3_whomToAsk_31 (k5 : Nat → Nat → Int32 → Int32 → aH → Option (Int32 × aH)) (v0 : Nat) (v1 : Nat) (v2 : Int32) (v3 : Int32) (s0 : Int32) (s1 : Nat) (s2 : Int32) (h : aH) : Option (Int32 × aH) :=
  (isO h 3 s1).bind fun _ =>
  (gX3_leftAtMost s1 s0 h).bind fun r =>
  fX3_whomToAsk_34 k5 v0 v1 v2 v3 r.1 s2 r.2
theorem tX3_whomToAsk_31 {d : Nat} {z : Int32 × aH} {k5 : Nat → Nat → Int32 → Int32 → aH → Option (Int32 × aH)} (hk5 : ∀ (v0 : Nat) (v1 : Nat) (v2 : Int32) (v3 : Int32) (h : aH), k5 v0 v1 v2 v3 h = some z → Ev (d + 2) none mX3_whomToAsk (0, 0) 5 [.ref v0, .ref v1, .int v2, .int v3] [] h (QI z)) (v0 : Nat) (v1 : Nat) (v2 : Int32) (v3 : Int32) (s0 : Int32) (s1 : Nat) (s2 : Int32) (h : aH) (hf : fX3_whomToAsk_31 k5 v0 v1 v2 v3 s0 s1 s2 h = some z) : Ev (d + 2) none mX3_whomToAsk (0, 0) 31 [.ref v0, .ref v1, .int v2, .int v3] [.int s0, .ref s1, .int s2] h (QI z) := by
  obtain ⟨_, h1, hf⟩ := bnd hf
  obtain ⟨fs, ho⟩ := isO_ok h1
  obtain ⟨r, h2, hf⟩ := bnd hf
  refine ev_V kqX3_whomToAsk_31 jX3_leftAtMost (zX3_leftAtMost (d := d + 0) h2) ho rfl rfl (Nat.le_of_ble_eq_true rfl) rfl (as := [.int s0]) (rest := [.int s2]) rfl (Nat.le_of_ble_eq_true rfl) (fun _ _ hq => ?_)
  obtain ⟨rfl, rfl⟩ := hq
  exact jm [2, 2, 1, 1] (fun v0 v1 v2 v3 => fX3_whomToAsk_34 k5 v0 v1 v2 v3 r.1 s2 r.2) (fun v0 v1 v2 v3 q => tX3_whomToAsk_34 hk5 v0 v1 v2 v3 r.1 s2 r.2 q) hf
def wX3_whomToAsk_29 : List En := [(.aload_n 0, 0, 0, 0), (.iload_n 2, 0, 0, 0)]
def fX3_whomToAsk_29 (k5 : Nat → Nat → Int32 → Int32 → aH → Option (Int32 × aH)) (v0 : Nat) (v1 : Nat) (v2 : Int32) (v3 : Int32) (s0 : Int32) (h : aH) : Option (Int32 × aH) :=
  fX3_whomToAsk_31 k5 v0 v1 v2 v3 v2 v0 s0 h
theorem tX3_whomToAsk_29 {d : Nat} {z : Int32 × aH} {k5 : Nat → Nat → Int32 → Int32 → aH → Option (Int32 × aH)} (hk5 : ∀ (v0 : Nat) (v1 : Nat) (v2 : Int32) (v3 : Int32) (h : aH), k5 v0 v1 v2 v3 h = some z → Ev (d + 2) none mX3_whomToAsk (0, 0) 5 [.ref v0, .ref v1, .int v2, .int v3] [] h (QI z)) (v0 : Nat) (v1 : Nat) (v2 : Int32) (v3 : Int32) (s0 : Int32) (h : aH) (hf : fX3_whomToAsk_29 k5 v0 v1 v2 v3 s0 h = some z) : Ev (d + 2) none mX3_whomToAsk (0, 0) 29 [.ref v0, .ref v1, .int v2, .int v3] [.int s0] h (QI z) := 
  go_ok (X := none) (blk := wX3_whomToAsk_29) (np := 31) (tt := 0) (kN := fun xs h st => app [2, 2, 1, 1] (fun v0 v1 v2 v3 => apS [1, 2, 1] (fun s0 s1 s2 => fX3_whomToAsk_31 k5 v0 v1 v2 v3 s0 s1 s2 h) st) xs) (kT := fun _ _ _ => none) (kR := kRI)
    (fun xs h st q => jm [2, 2, 1, 1] _ (fun v0 v1 v2 v3 q => apS_ok [1, 2, 1] _ (fun st => Ev (d + 2) none mX3_whomToAsk (0, 0) 31 [.ref v0, .ref v1, .int v2, .int v3] st h (QI z)) st (fun s0 s1 s2 q => tX3_whomToAsk_31 hk5 v0 v1 v2 v3 s0 s1 s2 h q) q) q)
    (fun _ _ _ q => nos q)
    kRI_ok (Or.inr rfl) (by decide +kernel) (by decide +kernel) hf
theorem kqX3_whomToAsk_26 : okC mX3_whomToAsk 26 (.invokevirtual 88) 145 153 0 1 = true := by decide +kernel
def fX3_whomToAsk_26 (k5 : Nat → Nat → Int32 → Int32 → aH → Option (Int32 × aH)) (v0 : Nat) (v1 : Nat) (v2 : Int32) (v3 : Int32) (s0 : Int32) (s1 : Nat) (h : aH) : Option (Int32 × aH) :=
  (isO h 3 s1).bind fun _ =>
  (gX3_leftAtMost s1 s0 h).bind fun r =>
  fX3_whomToAsk_29 k5 v0 v1 v2 v3 r.1 r.2
theorem tX3_whomToAsk_26 {d : Nat} {z : Int32 × aH} {k5 : Nat → Nat → Int32 → Int32 → aH → Option (Int32 × aH)} (hk5 : ∀ (v0 : Nat) (v1 : Nat) (v2 : Int32) (v3 : Int32) (h : aH), k5 v0 v1 v2 v3 h = some z → Ev (d + 2) none mX3_whomToAsk (0, 0) 5 [.ref v0, .ref v1, .int v2, .int v3] [] h (QI z)) (v0 : Nat) (v1 : Nat) (v2 : Int32) (v3 : Int32) (s0 : Int32) (s1 : Nat) (h : aH) (hf : fX3_whomToAsk_26 k5 v0 v1 v2 v3 s0 s1 h = some z) : Ev (d + 2) none mX3_whomToAsk (0, 0) 26 [.ref v0, .ref v1, .int v2, .int v3] [.int s0, .ref s1] h (QI z) := by
  obtain ⟨_, h1, hf⟩ := bnd hf
  obtain ⟨fs, ho⟩ := isO_ok h1
  obtain ⟨r, h2, hf⟩ := bnd hf
  refine ev_V kqX3_whomToAsk_26 jX3_leftAtMost (zX3_leftAtMost (d := d + 0) h2) ho rfl rfl (Nat.le_of_ble_eq_true rfl) rfl (as := [.int s0]) (rest := []) rfl (Nat.le_of_ble_eq_true rfl) (fun _ _ hq => ?_)
  obtain ⟨rfl, rfl⟩ := hq
  exact jm [2, 2, 1, 1] (fun v0 v1 v2 v3 => fX3_whomToAsk_29 k5 v0 v1 v2 v3 r.1 r.2) (fun v0 v1 v2 v3 q => tX3_whomToAsk_29 hk5 v0 v1 v2 v3 r.1 r.2 q) hf
def wX3_whomToAsk_24 : List En := [(.aload_n 0, 0, 0, 0), (.iload_n 3, 0, 0, 0)]
def fX3_whomToAsk_24 (k5 : Nat → Nat → Int32 → Int32 → aH → Option (Int32 × aH)) (v0 : Nat) (v1 : Nat) (v2 : Int32) (v3 : Int32) (h : aH) : Option (Int32 × aH) :=
  fX3_whomToAsk_26 k5 v0 v1 v2 v3 v3 v0 h
theorem tX3_whomToAsk_24 {d : Nat} {z : Int32 × aH} {k5 : Nat → Nat → Int32 → Int32 → aH → Option (Int32 × aH)} (hk5 : ∀ (v0 : Nat) (v1 : Nat) (v2 : Int32) (v3 : Int32) (h : aH), k5 v0 v1 v2 v3 h = some z → Ev (d + 2) none mX3_whomToAsk (0, 0) 5 [.ref v0, .ref v1, .int v2, .int v3] [] h (QI z)) (v0 : Nat) (v1 : Nat) (v2 : Int32) (v3 : Int32) (h : aH) (hf : fX3_whomToAsk_24 k5 v0 v1 v2 v3 h = some z) : Ev (d + 2) none mX3_whomToAsk (0, 0) 24 [.ref v0, .ref v1, .int v2, .int v3] [] h (QI z) := 
  go_ok (X := none) (blk := wX3_whomToAsk_24) (np := 26) (tt := 0) (kN := fun xs h st => app [2, 2, 1, 1] (fun v0 v1 v2 v3 => apS [1, 2] (fun s0 s1 => fX3_whomToAsk_26 k5 v0 v1 v2 v3 s0 s1 h) st) xs) (kT := fun _ _ _ => none) (kR := kRI)
    (fun xs h st q => jm [2, 2, 1, 1] _ (fun v0 v1 v2 v3 q => apS_ok [1, 2] _ (fun st => Ev (d + 2) none mX3_whomToAsk (0, 0) 26 [.ref v0, .ref v1, .int v2, .int v3] st h (QI z)) st (fun s0 s1 q => tX3_whomToAsk_26 hk5 v0 v1 v2 v3 s0 s1 h q) q) q)
    (fun _ _ _ q => nos q)
    kRI_ok (Or.inr rfl) (by decide +kernel) (by decide +kernel) hf
def wX3_whomToAsk_20 : List En := [(.iload_n 2, 0, 0, 0), (.ifCond .lt 16, 37, 0, 0)]
def fX3_whomToAsk_20 (k5 : Nat → Nat → Int32 → Int32 → aH → Option (Int32 × aH)) (v0 : Nat) (v1 : Nat) (v2 : Int32) (v3 : Int32) (h : aH) : Option (Int32 × aH) :=
  if v2 < 0 then fX3_whomToAsk_37 k5 v0 v1 v3 h else fX3_whomToAsk_24 k5 v0 v1 v2 v3 h
theorem tX3_whomToAsk_20 {d : Nat} {z : Int32 × aH} {k5 : Nat → Nat → Int32 → Int32 → aH → Option (Int32 × aH)} (hk5 : ∀ (v0 : Nat) (v1 : Nat) (v2 : Int32) (v3 : Int32) (h : aH), k5 v0 v1 v2 v3 h = some z → Ev (d + 2) none mX3_whomToAsk (0, 0) 5 [.ref v0, .ref v1, .int v2, .int v3] [] h (QI z)) (v0 : Nat) (v1 : Nat) (v2 : Int32) (v3 : Int32) (h : aH) (hf : fX3_whomToAsk_20 k5 v0 v1 v2 v3 h = some z) : Ev (d + 2) none mX3_whomToAsk (0, 0) 20 [.ref v0, .ref v1, .int v2, .int v3] [] h (QI z) := 
  go_ok (X := none) (blk := wX3_whomToAsk_20) (np := 24) (tt := 37) (kN := fun xs h st => app [2, 2, 1, 1] (fun v0 v1 v2 v3 => apS [] (fX3_whomToAsk_24 k5 v0 v1 v2 v3 h) st) xs) (kT := fun xs h st => app [2, 2, 0, 1] (fun v0 v1 v3 => apS [] (fX3_whomToAsk_37 k5 v0 v1 v3 h) st) xs) (kR := kRI)
    (fun xs h st q => jm [2, 2, 1, 1] _ (fun v0 v1 v2 v3 q => apS_ok [] _ (fun st => Ev (d + 2) none mX3_whomToAsk (0, 0) 24 [.ref v0, .ref v1, .int v2, .int v3] st h (QI z)) st (fun q => tX3_whomToAsk_24 hk5 v0 v1 v2 v3 h q) q) q)
    (fun xs h st q => jm [2, 2, 0, 1] _ (fun v0 v1 v3 q => apS_ok [] _ (fun st => Ev (d + 2) none mX3_whomToAsk (0, 0) 37 [.ref v0, .ref v1, .null, .int v3] st h (QI z)) st (fun q => tX3_whomToAsk_37 hk5 v0 v1 v3 h q) q) q)
    kRI_ok (Or.inr rfl) (by decide +kernel) (by decide +kernel) hf
def wX3_whomToAsk_13 : List En := [(.aload_n 0, 0, 0, 0), (.getfield 33, 69, 3, 0), (.ifCond .le 28, 45, 0, 0)]
def fX3_whomToAsk_13 (k5 : Nat → Nat → Int32 → Int32 → aH → Option (Int32 × aH)) (v0 : Nat) (v1 : Nat) (v2 : Int32) (v3 : Int32) (h : aH) : Option (Int32 × aH) :=
  (gFI h 3 v0 0).bind fun t1 =>
  if 0 < t1 then fX3_whomToAsk_20 k5 v0 v1 v2 v3 h else fX3_whomToAsk_45 v2 h
theorem tX3_whomToAsk_13 {d : Nat} {z : Int32 × aH} {k5 : Nat → Nat → Int32 → Int32 → aH → Option (Int32 × aH)} (hk5 : ∀ (v0 : Nat) (v1 : Nat) (v2 : Int32) (v3 : Int32) (h : aH), k5 v0 v1 v2 v3 h = some z → Ev (d + 2) none mX3_whomToAsk (0, 0) 5 [.ref v0, .ref v1, .int v2, .int v3] [] h (QI z)) (v0 : Nat) (v1 : Nat) (v2 : Int32) (v3 : Int32) (h : aH) (hf : fX3_whomToAsk_13 k5 v0 v1 v2 v3 h = some z) : Ev (d + 2) none mX3_whomToAsk (0, 0) 13 [.ref v0, .ref v1, .int v2, .int v3] [] h (QI z) := 
  go_ok (X := none) (blk := wX3_whomToAsk_13) (np := 20) (tt := 45) (kN := fun xs h st => app [2, 2, 1, 1] (fun v0 v1 v2 v3 => apS [] (fX3_whomToAsk_20 k5 v0 v1 v2 v3 h) st) xs) (kT := fun xs h st => app [0, 0, 1, 0] (fun v2 => apS [] (fX3_whomToAsk_45 v2 h) st) xs) (kR := kRI)
    (fun xs h st q => jm [2, 2, 1, 1] _ (fun v0 v1 v2 v3 q => apS_ok [] _ (fun st => Ev (d + 2) none mX3_whomToAsk (0, 0) 20 [.ref v0, .ref v1, .int v2, .int v3] st h (QI z)) st (fun q => tX3_whomToAsk_20 hk5 v0 v1 v2 v3 h q) q) q)
    (fun xs h st q => jm [0, 0, 1, 0] _ (fun v2 q => apS_ok [] _ (fun st => Ev (d + 2) none mX3_whomToAsk (0, 0) 45 [.null, .null, .int v2, .null] st h (QI z)) st (fun q => tX3_whomToAsk_45 v2 h q) q) q)
    kRI_ok (Or.inr rfl) (by decide +kernel) (by decide +kernel) hf
def wX3_whomToAsk_5 : List En := [(.iload_n 3, 0, 0, 0), (.aload_n 1, 0, 0, 0), (.getfield 42, 120, 9, 6), (.if_icmp .ge 35, 45, 0, 0)]
def fX3_whomToAsk_5 (k5 : Nat → Nat → Int32 → Int32 → aH → Option (Int32 × aH)) (v0 : Nat) (v1 : Nat) (v2 : Int32) (v3 : Int32) (h : aH) : Option (Int32 × aH) :=
  (gFI h 9 v1 6).bind fun t1 =>
  if v3 < t1 then fX3_whomToAsk_13 k5 v0 v1 v2 v3 h else fX3_whomToAsk_45 v2 h
theorem tX3_whomToAsk_5 {d : Nat} {z : Int32 × aH} {k5 : Nat → Nat → Int32 → Int32 → aH → Option (Int32 × aH)} (hk5 : ∀ (v0 : Nat) (v1 : Nat) (v2 : Int32) (v3 : Int32) (h : aH), k5 v0 v1 v2 v3 h = some z → Ev (d + 2) none mX3_whomToAsk (0, 0) 5 [.ref v0, .ref v1, .int v2, .int v3] [] h (QI z)) (v0 : Nat) (v1 : Nat) (v2 : Int32) (v3 : Int32) (h : aH) (hf : fX3_whomToAsk_5 k5 v0 v1 v2 v3 h = some z) : Ev (d + 2) none mX3_whomToAsk (0, 0) 5 [.ref v0, .ref v1, .int v2, .int v3] [] h (QI z) := 
  go_ok (X := none) (blk := wX3_whomToAsk_5) (np := 13) (tt := 45) (kN := fun xs h st => app [2, 2, 1, 1] (fun v0 v1 v2 v3 => apS [] (fX3_whomToAsk_13 k5 v0 v1 v2 v3 h) st) xs) (kT := fun xs h st => app [0, 0, 1, 0] (fun v2 => apS [] (fX3_whomToAsk_45 v2 h) st) xs) (kR := kRI)
    (fun xs h st q => jm [2, 2, 1, 1] _ (fun v0 v1 v2 v3 q => apS_ok [] _ (fun st => Ev (d + 2) none mX3_whomToAsk (0, 0) 13 [.ref v0, .ref v1, .int v2, .int v3] st h (QI z)) st (fun q => tX3_whomToAsk_13 hk5 v0 v1 v2 v3 h q) q) q)
    (fun xs h st q => jm [0, 0, 1, 0] _ (fun v2 q => apS_ok [] _ (fun st => Ev (d + 2) none mX3_whomToAsk (0, 0) 45 [.null, .null, .int v2, .null] st h (QI z)) st (fun q => tX3_whomToAsk_45 v2 h q) q) q)
    kRI_ok (Or.inr rfl) (by decide +kernel) (by decide +kernel) hf
def lX3_whomToAsk_5 : Nat → Nat → Nat → Int32 → Int32 → aH → Option (Int32 × aH)
  | 0, _, _, _, _, _ => none
  | n + 1, v0, v1, v2, v3, h => fX3_whomToAsk_5 (lX3_whomToAsk_5 n) v0 v1 v2 v3 h
theorem uX3_whomToAsk_5 {d : Nat} {z : Int32 × aH} : ∀ (n : Nat) (v0 : Nat) (v1 : Nat) (v2 : Int32) (v3 : Int32) (h : aH), lX3_whomToAsk_5 n v0 v1 v2 v3 h = some z → Ev (d + 2) none mX3_whomToAsk (0, 0) 5 [.ref v0, .ref v1, .int v2, .int v3] [] h (QI z) := by
  intro n
  induction n with
  | zero => intro _ _ _ _ _ q; exact nos (show (none : Option (Int32 × aH)) = some z from q)
  | succ n ih => intro v0 v1 v2 v3 h q; exact tX3_whomToAsk_5 ih v0 v1 v2 v3 h q
def wX3_whomToAsk_0 : List En := [(.bipush (-2), 0, 0, 0), (.istore_n 2, 0, 0, 0), (.iconst 0, 0, 0, 0), (.istore_n 3, 0, 0, 0)]
def fX3_whomToAsk_0 (v0 : Nat) (v1 : Nat) (h : aH) : Option (Int32 × aH) :=
  lX3_whomToAsk_5 FU v0 v1 (kB (-2)) (kI 0) h
theorem tX3_whomToAsk_0 {d : Nat} {z : Int32 × aH} (v0 : Nat) (v1 : Nat) (h : aH) (hf : fX3_whomToAsk_0 v0 v1 h = some z) : Ev (d + 2) none mX3_whomToAsk (0, 0) 0 [.ref v0, .ref v1, .null, .null] [] h (QI z) := 
  go_ok (X := none) (blk := wX3_whomToAsk_0) (np := 5) (tt := 0) (kN := fun xs h st => app [2, 2, 1, 1] (fun v0 v1 v2 v3 => apS [] (lX3_whomToAsk_5 FU v0 v1 v2 v3 h) st) xs) (kT := fun _ _ _ => none) (kR := kRI)
    (fun xs h st q => jm [2, 2, 1, 1] _ (fun v0 v1 v2 v3 q => apS_ok [] _ (fun st => Ev (d + 2) none mX3_whomToAsk (0, 0) 5 [.ref v0, .ref v1, .int v2, .int v3] st h (QI z)) st (fun q => uX3_whomToAsk_5 FU v0 v1 v2 v3 h q) q) q)
    (fun _ _ _ q => nos q)
    kRI_ok (Or.inr rfl) (by decide +kernel) (by decide +kernel) hf
def gX3_whomToAsk (v0 : Nat) (v1 : Nat) (h : aH) : Option (Int32 × aH) := fX3_whomToAsk_0 v0 v1 h
theorem zX3_whomToAsk {d : Nat} {z : Int32 × aH} {v0 : Nat} {v1 : Nat} {h : aH} (q : gX3_whomToAsk v0 v1 h = some z) : CT (d + 2) mX3_whomToAsk (0, 0) [.ref v0, .ref v1] h (QI z) :=
  ct_ev (by decide +kernel) (Nat.le_of_ble_eq_true rfl) QI_r (jm [2, 2, 0, 0] (fun v0 v1 => fX3_whomToAsk_0 v0 v1 h) (fun v0 v1 q => tX3_whomToAsk_0 v0 v1 h q) q)
def wX10_ask_39 : List En := [(.ireturn, 0, 0, 0)]
def fX10_ask_39 (s0 : Int32) (h : aH) : Option (Int32 × aH) :=
  some (s0, h)
theorem tX10_ask_39 {d : Nat} {z : Int32 × aH} (s0 : Int32) (h : aH) (hf : fX10_ask_39 s0 h = some z) : Ev (d + 5) none mX10_ask (0, 0) 39 [.null] [.int s0] h (QI z) := 
  go_ok (X := none) (blk := wX10_ask_39) (np := 40) (tt := 0) (kN := fun _ _ _ => none) (kT := fun _ _ _ => none) (kR := kRI)
    (fun _ _ _ q => nos q)
    (fun _ _ _ q => nos q)
    kRI_ok (Or.inr rfl) (by decide +kernel) (by decide +kernel) hf
theorem kqX10_ask_36 : okC mX10_ask 36 (.invokevirtual 119) 60 44 0 1 = true := by decide +kernel
def fX10_ask_36 (s0 : Int32) (s1 : Nat) (h : aH) : Option (Int32 × aH) :=
  (isO h 10 s1).bind fun _ =>
  (gX10_answer s1 s0 h).bind fun r =>
  fX10_ask_39 r.1 r.2
theorem tX10_ask_36 {d : Nat} {z : Int32 × aH} (s0 : Int32) (s1 : Nat) (h : aH) (hf : fX10_ask_36 s0 s1 h = some z) : Ev (d + 5) none mX10_ask (0, 0) 36 [.null] [.int s0, .ref s1] h (QI z) := by
  obtain ⟨_, h1, hf⟩ := bnd hf
  obtain ⟨fs, ho⟩ := isO_ok h1
  obtain ⟨r, h2, hf⟩ := bnd hf
  refine ev_V kqX10_ask_36 jX10_answer (zX10_answer (d := d + 4) h2) ho rfl rfl (Nat.le_of_ble_eq_true rfl) rfl (as := [.int s0]) (rest := []) rfl (Nat.le_of_ble_eq_true rfl) (fun _ _ hq => ?_)
  obtain ⟨rfl, rfl⟩ := hq
  exact jm [0] (fX10_ask_39 r.1 r.2) (fun q => tX10_ask_39 r.1 r.2 q) hf
theorem kqX10_ask_33 : okC mX10_ask 33 (.invokevirtual 286) 144 152 0 1 = true := by decide +kernel
def fX10_ask_33 (s0 : Nat) (s1 : Nat) (s2 : Nat) (h : aH) : Option (Int32 × aH) :=
  (isO h 3 s1).bind fun _ =>
  (gX3_whomToAsk s1 s0 h).bind fun r =>
  fX10_ask_36 r.1 s2 r.2
theorem tX10_ask_33 {d : Nat} {z : Int32 × aH} (s0 : Nat) (s1 : Nat) (s2 : Nat) (h : aH) (hf : fX10_ask_33 s0 s1 s2 h = some z) : Ev (d + 5) none mX10_ask (0, 0) 33 [.null] [.ref s0, .ref s1, .ref s2] h (QI z) := by
  obtain ⟨_, h1, hf⟩ := bnd hf
  obtain ⟨fs, ho⟩ := isO_ok h1
  obtain ⟨r, h2, hf⟩ := bnd hf
  refine ev_V kqX10_ask_33 jX3_whomToAsk (zX3_whomToAsk (d := d + 2) h2) ho rfl rfl (Nat.le_of_ble_eq_true rfl) rfl (as := [.ref s0]) (rest := [.ref s2]) rfl (Nat.le_of_ble_eq_true rfl) (fun _ _ hq => ?_)
  obtain ⟨rfl, rfl⟩ := hq
  exact jm [0] (fX10_ask_36 r.1 s2 r.2) (fun q => tX10_ask_36 r.1 s2 r.2 q) hf
def wX10_ask_24 : List En := [(.aload_n 0, 0, 0, 0), (.aload_n 0, 0, 0, 0), (.getfield 33, 165, 10, 3), (.aload_n 0, 0, 0, 0), (.getfield 75, 171, 10, 9)]
def fX10_ask_24 (v0 : Nat) (h : aH) : Option (Int32 × aH) :=
  (gFR h 10 v0 3).bind fun t1 =>
  (gFR h 10 v0 9).bind fun t2 =>
  fX10_ask_33 t2 t1 v0 h
theorem tX10_ask_24 {d : Nat} {z : Int32 × aH} (v0 : Nat) (h : aH) (hf : fX10_ask_24 v0 h = some z) : Ev (d + 5) none mX10_ask (0, 0) 24 [.ref v0] [] h (QI z) := 
  go_ok (X := none) (blk := wX10_ask_24) (np := 33) (tt := 0) (kN := fun xs h st => app [0] (apS [2, 2, 2] (fun s0 s1 s2 => fX10_ask_33 s0 s1 s2 h) st) xs) (kT := fun _ _ _ => none) (kR := kRI)
    (fun xs h st q => jm [0] _ (fun q => apS_ok [2, 2, 2] _ (fun st => Ev (d + 5) none mX10_ask (0, 0) 33 [.null] st h (QI z)) st (fun s0 s1 s2 q => tX10_ask_33 s0 s1 s2 h q) q) q)
    (fun _ _ _ q => nos q)
    kRI_ok (Or.inr rfl) (by decide +kernel) (by decide +kernel) hf
theorem kqX10_ask_21 : okC mX10_ask 21 (.invokevirtual 270) 135 141 0 1 = true := by decide +kernel
def fX10_ask_21 (v0 : Nat) (s0 : Nat) (s1 : Nat) (h : aH) : Option (Int32 × aH) :=
  (isO h 3 s1).bind fun _ =>
  (gX3_weigh s1 s0 h).bind fun r =>
  fX10_ask_24 v0 r
theorem tX10_ask_21 {d : Nat} {z : Int32 × aH} (v0 : Nat) (s0 : Nat) (s1 : Nat) (h : aH) (hf : fX10_ask_21 v0 s0 s1 h = some z) : Ev (d + 5) none mX10_ask (0, 0) 21 [.ref v0] [.ref s0, .ref s1] h (QI z) := by
  obtain ⟨_, h1, hf⟩ := bnd hf
  obtain ⟨fs, ho⟩ := isO_ok h1
  obtain ⟨r, h2, hf⟩ := bnd hf
  refine ev_V kqX10_ask_21 jX3_weigh (zX3_weigh (d := d + 0) h2) ho rfl rfl (Nat.le_of_ble_eq_true rfl) rfl (as := [.ref s0]) (rest := []) rfl (Nat.le_of_ble_eq_true rfl) (fun _ _ hq => ?_)
  obtain ⟨rfl, hh⟩ := hq
  rw [hh]
  exact jm [2] (fun v0 => fX10_ask_24 v0 r) (fun v0 q => tX10_ask_24 v0 r q) hf
def wX10_ask_13 : List En := [(.aload_n 0, 0, 0, 0), (.getfield 33, 165, 10, 3), (.aload_n 0, 0, 0, 0), (.getfield 75, 171, 10, 9)]
def fX10_ask_13 (v0 : Nat) (h : aH) : Option (Int32 × aH) :=
  (gFR h 10 v0 3).bind fun t1 =>
  (gFR h 10 v0 9).bind fun t2 =>
  fX10_ask_21 v0 t2 t1 h
theorem tX10_ask_13 {d : Nat} {z : Int32 × aH} (v0 : Nat) (h : aH) (hf : fX10_ask_13 v0 h = some z) : Ev (d + 5) none mX10_ask (0, 0) 13 [.ref v0] [] h (QI z) := 
  go_ok (X := none) (blk := wX10_ask_13) (np := 21) (tt := 0) (kN := fun xs h st => app [2] (fun v0 => apS [2, 2] (fun s0 s1 => fX10_ask_21 v0 s0 s1 h) st) xs) (kT := fun _ _ _ => none) (kR := kRI)
    (fun xs h st q => jm [2] _ (fun v0 q => apS_ok [2, 2] _ (fun st => Ev (d + 5) none mX10_ask (0, 0) 21 [.ref v0] st h (QI z)) st (fun s0 s1 q => tX10_ask_21 v0 s0 s1 h q) q) q)
    (fun _ _ _ q => nos q)
    kRI_ok (Or.inr rfl) (by decide +kernel) (by decide +kernel) hf
def wX10_ask_12 : List En := [(.ireturn, 0, 0, 0)]
def fX10_ask_12 (s0 : Int32) (h : aH) : Option (Int32 × aH) :=
  some (s0, h)
theorem tX10_ask_12 {d : Nat} {z : Int32 × aH} (s0 : Int32) (h : aH) (hf : fX10_ask_12 s0 h = some z) : Ev (d + 5) none mX10_ask (0, 0) 12 [.null] [.int s0] h (QI z) := 
  go_ok (X := none) (blk := wX10_ask_12) (np := 13) (tt := 0) (kN := fun _ _ _ => none) (kT := fun _ _ _ => none) (kR := kRI)
    (fun _ _ _ q => nos q)
    (fun _ _ _ q => nos q)
    kRI_ok (Or.inr rfl) (by decide +kernel) (by decide +kernel) hf
theorem kqX10_ask_9 : okC mX10_ask 9 (.invokevirtual 94) 15 8 0 1 = true := by decide +kernel
def fX10_ask_9 (s0 : Int32) (s1 : Nat) (h : aH) : Option (Int32 × aH) :=
  (isO h 10 s1).bind fun _ =>
  (gX10_refuse s1 s0 h).bind fun r =>
  fX10_ask_12 r.1 r.2
theorem tX10_ask_9 {d : Nat} {z : Int32 × aH} (s0 : Int32) (s1 : Nat) (h : aH) (hf : fX10_ask_9 s0 s1 h = some z) : Ev (d + 5) none mX10_ask (0, 0) 9 [.null] [.int s0, .ref s1] h (QI z) := by
  obtain ⟨_, h1, hf⟩ := bnd hf
  obtain ⟨fs, ho⟩ := isO_ok h1
  obtain ⟨r, h2, hf⟩ := bnd hf
  refine ev_V kqX10_ask_9 jX10_refuse (zX10_refuse (d := d + 4) h2) ho rfl rfl (Nat.le_of_ble_eq_true rfl) rfl (as := [.int s0]) (rest := []) rfl (Nat.le_of_ble_eq_true rfl) (fun _ _ hq => ?_)
  obtain ⟨rfl, rfl⟩ := hq
  exact jm [0] (fX10_ask_12 r.1 r.2) (fun q => tX10_ask_12 r.1 r.2 q) hf
def wX10_ask_7 : List En := [(.aload_n 0, 0, 0, 0), (.iconst 1, 0, 0, 0)]
def fX10_ask_7 (v0 : Nat) (h : aH) : Option (Int32 × aH) :=
  fX10_ask_9 (kI 1) v0 h
theorem tX10_ask_7 {d : Nat} {z : Int32 × aH} (v0 : Nat) (h : aH) (hf : fX10_ask_7 v0 h = some z) : Ev (d + 5) none mX10_ask (0, 0) 7 [.ref v0] [] h (QI z) := 
  go_ok (X := none) (blk := wX10_ask_7) (np := 9) (tt := 0) (kN := fun xs h st => app [0] (apS [1, 2] (fun s0 s1 => fX10_ask_9 s0 s1 h) st) xs) (kT := fun _ _ _ => none) (kR := kRI)
    (fun xs h st q => jm [0] _ (fun q => apS_ok [1, 2] _ (fun st => Ev (d + 5) none mX10_ask (0, 0) 9 [.null] st h (QI z)) st (fun s0 s1 q => tX10_ask_9 s0 s1 h q) q) q)
    (fun _ _ _ q => nos q)
    kRI_ok (Or.inr rfl) (by decide +kernel) (by decide +kernel) hf
def wX10_ask_4 : List En := [(.ifCond .eq 9, 13, 0, 0)]
def fX10_ask_4 (v0 : Nat) (s0 : Int32) (h : aH) : Option (Int32 × aH) :=
  if s0 = 0 then fX10_ask_13 v0 h else fX10_ask_7 v0 h
theorem tX10_ask_4 {d : Nat} {z : Int32 × aH} (v0 : Nat) (s0 : Int32) (h : aH) (hf : fX10_ask_4 v0 s0 h = some z) : Ev (d + 5) none mX10_ask (0, 0) 4 [.ref v0] [.int s0] h (QI z) := 
  go_ok (X := none) (blk := wX10_ask_4) (np := 7) (tt := 13) (kN := fun xs h st => app [2] (fun v0 => apS [] (fX10_ask_7 v0 h) st) xs) (kT := fun xs h st => app [2] (fun v0 => apS [] (fX10_ask_13 v0 h) st) xs) (kR := kRI)
    (fun xs h st q => jm [2] _ (fun v0 q => apS_ok [] _ (fun st => Ev (d + 5) none mX10_ask (0, 0) 7 [.ref v0] st h (QI z)) st (fun q => tX10_ask_7 v0 h q) q) q)
    (fun xs h st q => jm [2] _ (fun v0 q => apS_ok [] _ (fun st => Ev (d + 5) none mX10_ask (0, 0) 13 [.ref v0] st h (QI z)) st (fun q => tX10_ask_13 v0 h q) q) q)
    kRI_ok (Or.inr rfl) (by decide +kernel) (by decide +kernel) hf
theorem kqX10_ask_1 : okC mX10_ask 1 (.invokevirtual 159) 68 52 0 0 = true := by decide +kernel
def fX10_ask_1 (v0 : Nat) (s0 : Nat) (h : aH) : Option (Int32 × aH) :=
  (isO h 10 s0).bind fun _ =>
  (gX10_lacksTable s0 h).bind fun r =>
  fX10_ask_4 v0 r.1 r.2
theorem tX10_ask_1 {d : Nat} {z : Int32 × aH} (v0 : Nat) (s0 : Nat) (h : aH) (hf : fX10_ask_1 v0 s0 h = some z) : Ev (d + 5) none mX10_ask (0, 0) 1 [.ref v0] [.ref s0] h (QI z) := by
  obtain ⟨_, h1, hf⟩ := bnd hf
  obtain ⟨fs, ho⟩ := isO_ok h1
  obtain ⟨r, h2, hf⟩ := bnd hf
  refine ev_V kqX10_ask_1 jX10_lacksTable (zX10_lacksTable (d := d + 4) h2) ho rfl rfl (Nat.le_of_ble_eq_true rfl) rfl (as := []) (rest := []) rfl (Nat.le_of_ble_eq_true rfl) (fun _ _ hq => ?_)
  obtain ⟨-, rfl, rfl⟩ := hq
  exact jm [2] (fun v0 => fX10_ask_4 v0 r.1 r.2) (fun v0 q => tX10_ask_4 v0 r.1 r.2 q) hf
def wX10_ask_0 : List En := [(.aload_n 0, 0, 0, 0)]
def fX10_ask_0 (v0 : Nat) (h : aH) : Option (Int32 × aH) :=
  fX10_ask_1 v0 v0 h
theorem tX10_ask_0 {d : Nat} {z : Int32 × aH} (v0 : Nat) (h : aH) (hf : fX10_ask_0 v0 h = some z) : Ev (d + 5) none mX10_ask (0, 0) 0 [.ref v0] [] h (QI z) := 
  go_ok (X := none) (blk := wX10_ask_0) (np := 1) (tt := 0) (kN := fun xs h st => app [2] (fun v0 => apS [2] (fun s0 => fX10_ask_1 v0 s0 h) st) xs) (kT := fun _ _ _ => none) (kR := kRI)
    (fun xs h st q => jm [2] _ (fun v0 q => apS_ok [2] _ (fun st => Ev (d + 5) none mX10_ask (0, 0) 1 [.ref v0] st h (QI z)) st (fun s0 q => tX10_ask_1 v0 s0 h q) q) q)
    (fun _ _ _ q => nos q)
    kRI_ok (Or.inr rfl) (by decide +kernel) (by decide +kernel) hf
def gX10_ask (v0 : Nat) (h : aH) : Option (Int32 × aH) := fX10_ask_0 v0 h
theorem zX10_ask {d : Nat} {z : Int32 × aH} {v0 : Nat} {h : aH} (q : gX10_ask v0 h = some z) : CT (d + 5) mX10_ask (0, 0) [.ref v0] h (QI z) :=
  ct_ev (by decide +kernel) (Nat.le_of_ble_eq_true rfl) QI_r (jm [2] (fun v0 => fX10_ask_0 v0 h) (fun v0 q => tX10_ask_0 v0 h q) q)
def wX10_askLeaves_57 : List En := [(.ireturn, 0, 0, 0)]
def fX10_askLeaves_57 (s0 : Int32) (h : aH) : Option (Int32 × aH) :=
  some (s0, h)
theorem tX10_askLeaves_57 {d : Nat} {z : Int32 × aH} (s0 : Int32) (h : aH) (hf : fX10_askLeaves_57 s0 h = some z) : Ev (d + 5) none mX10_askLeaves (0, 0) 57 [.null, .null] [.int s0] h (QI z) := 
  go_ok (X := none) (blk := wX10_askLeaves_57) (np := 58) (tt := 0) (kN := fun _ _ _ => none) (kT := fun _ _ _ => none) (kR := kRI)
    (fun _ _ _ q => nos q)
    (fun _ _ _ q => nos q)
    kRI_ok (Or.inr rfl) (by decide +kernel) (by decide +kernel) hf
theorem kqX10_askLeaves_54 : okC mX10_askLeaves 54 (.invokevirtual 119) 60 44 0 1 = true := by decide +kernel
def fX10_askLeaves_54 (s0 : Int32) (s1 : Nat) (h : aH) : Option (Int32 × aH) :=
  (isO h 10 s1).bind fun _ =>
  (gX10_answer s1 s0 h).bind fun r =>
  fX10_askLeaves_57 r.1 r.2
theorem tX10_askLeaves_54 {d : Nat} {z : Int32 × aH} (s0 : Int32) (s1 : Nat) (h : aH) (hf : fX10_askLeaves_54 s0 s1 h = some z) : Ev (d + 5) none mX10_askLeaves (0, 0) 54 [.null, .null] [.int s0, .ref s1] h (QI z) := by
  obtain ⟨_, h1, hf⟩ := bnd hf
  obtain ⟨fs, ho⟩ := isO_ok h1
  obtain ⟨r, h2, hf⟩ := bnd hf
  refine ev_V kqX10_askLeaves_54 jX10_answer (zX10_answer (d := d + 4) h2) ho rfl rfl (Nat.le_of_ble_eq_true rfl) rfl (as := [.int s0]) (rest := []) rfl (Nat.le_of_ble_eq_true rfl) (fun _ _ hq => ?_)
  obtain ⟨rfl, rfl⟩ := hq
  exact jm [0, 0] (fX10_askLeaves_57 r.1 r.2) (fun q => tX10_askLeaves_57 r.1 r.2 q) hf
theorem kqX10_askLeaves_51 : okC mX10_askLeaves 51 (.invokevirtual 289) 145 155 0 1 = true := by decide +kernel
def fX10_askLeaves_51 (s0 : Int32) (s1 : Nat) (s2 : Nat) (h : aH) : Option (Int32 × aH) :=
  (isO h 3 s1).bind fun _ =>
  (gX3_leftAtMost s1 s0 h).bind fun r =>
  fX10_askLeaves_54 r.1 s2 r.2
theorem tX10_askLeaves_51 {d : Nat} {z : Int32 × aH} (s0 : Int32) (s1 : Nat) (s2 : Nat) (h : aH) (hf : fX10_askLeaves_51 s0 s1 s2 h = some z) : Ev (d + 5) none mX10_askLeaves (0, 0) 51 [.null, .null] [.int s0, .ref s1, .ref s2] h (QI z) := by
  obtain ⟨_, h1, hf⟩ := bnd hf
  obtain ⟨fs, ho⟩ := isO_ok h1
  obtain ⟨r, h2, hf⟩ := bnd hf
  refine ev_V kqX10_askLeaves_51 jX3_leftAtMost (zX3_leftAtMost (d := d + 3) h2) ho rfl rfl (Nat.le_of_ble_eq_true rfl) rfl (as := [.int s0]) (rest := [.ref s2]) rfl (Nat.le_of_ble_eq_true rfl) (fun _ _ hq => ?_)
  obtain ⟨rfl, rfl⟩ := hq
  exact jm [0, 0] (fX10_askLeaves_54 r.1 s2 r.2) (fun q => tX10_askLeaves_54 r.1 s2 r.2 q) hf
def wX10_askLeaves_46 : List En := [(.aload_n 0, 0, 0, 0), (.getfield 33, 165, 10, 3), (.iload_n 1, 0, 0, 0)]
def fX10_askLeaves_46 (v0 : Nat) (v1 : Int32) (s0 : Nat) (h : aH) : Option (Int32 × aH) :=
  (gFR h 10 v0 3).bind fun t1 =>
  fX10_askLeaves_51 v1 t1 s0 h
theorem tX10_askLeaves_46 {d : Nat} {z : Int32 × aH} (v0 : Nat) (v1 : Int32) (s0 : Nat) (h : aH) (hf : fX10_askLeaves_46 v0 v1 s0 h = some z) : Ev (d + 5) none mX10_askLeaves (0, 0) 46 [.ref v0, .int v1] [.ref s0] h (QI z) := 
  go_ok (X := none) (blk := wX10_askLeaves_46) (np := 51) (tt := 0) (kN := fun xs h st => app [0, 0] (apS [1, 2, 2] (fun s0 s1 s2 => fX10_askLeaves_51 s0 s1 s2 h) st) xs) (kT := fun _ _ _ => none) (kR := kRI)
    (fun xs h st q => jm [0, 0] _ (fun q => apS_ok [1, 2, 2] _ (fun st => Ev (d + 5) none mX10_askLeaves (0, 0) 51 [.null, .null] st h (QI z)) st (fun s0 s1 s2 q => tX10_askLeaves_51 s0 s1 s2 h q) q) q)
    (fun _ _ _ q => nos q)
    kRI_ok (Or.inr rfl) (by decide +kernel) (by decide +kernel) hf
def wX10_askLeaves_41 : List En := [(.bipush (-2), 0, 0, 0), (.goto 11, 54, 0, 0)]
def fX10_askLeaves_41 (s0 : Nat) (h : aH) : Option (Int32 × aH) :=
  fX10_askLeaves_54 (kB (-2)) s0 h
theorem tX10_askLeaves_41 {d : Nat} {z : Int32 × aH} (s0 : Nat) (h : aH) (hf : fX10_askLeaves_41 s0 h = some z) : Ev (d + 5) none mX10_askLeaves (0, 0) 41 [.null, .null] [.ref s0] h (QI z) := 
  go_ok (X := none) (blk := wX10_askLeaves_41) (np := 46) (tt := 54) (kN := fun _ _ _ => none) (kT := fun xs h st => app [0, 0] (apS [1, 2] (fun s0 s1 => fX10_askLeaves_54 s0 s1 h) st) xs) (kR := kRI)
    (fun _ _ _ q => nos q)
    (fun xs h st q => jm [0, 0] _ (fun q => apS_ok [1, 2] _ (fun st => Ev (d + 5) none mX10_askLeaves (0, 0) 54 [.null, .null] st h (QI z)) st (fun s0 s1 q => tX10_askLeaves_54 s0 s1 h q) q) q)
    kRI_ok (Or.inr rfl) (by decide +kernel) (by decide +kernel) hf
def wX10_askLeaves_35 : List En := [(.istore_n 1, 0, 0, 0), (.aload_n 0, 0, 0, 0), (.iload_n 1, 0, 0, 0), (.ifCond .ge 8, 46, 0, 0)]
def fX10_askLeaves_35 (v0 : Nat) (s0 : Int32) (h : aH) : Option (Int32 × aH) :=
  if s0 < 0 then fX10_askLeaves_41 v0 h else fX10_askLeaves_46 v0 s0 v0 h
theorem tX10_askLeaves_35 {d : Nat} {z : Int32 × aH} (v0 : Nat) (s0 : Int32) (h : aH) (hf : fX10_askLeaves_35 v0 s0 h = some z) : Ev (d + 5) none mX10_askLeaves (0, 0) 35 [.ref v0, .null] [.int s0] h (QI z) := 
  go_ok (X := none) (blk := wX10_askLeaves_35) (np := 41) (tt := 46) (kN := fun xs h st => app [0, 0] (apS [2] (fun s0 => fX10_askLeaves_41 s0 h) st) xs) (kT := fun xs h st => app [2, 1] (fun v0 v1 => apS [2] (fun s0 => fX10_askLeaves_46 v0 v1 s0 h) st) xs) (kR := kRI)
    (fun xs h st q => jm [0, 0] _ (fun q => apS_ok [2] _ (fun st => Ev (d + 5) none mX10_askLeaves (0, 0) 41 [.null, .null] st h (QI z)) st (fun s0 q => tX10_askLeaves_41 s0 h q) q) q)
    (fun xs h st q => jm [2, 1] _ (fun v0 v1 q => apS_ok [2] _ (fun st => Ev (d + 5) none mX10_askLeaves (0, 0) 46 [.ref v0, .int v1] st h (QI z)) st (fun s0 q => tX10_askLeaves_46 v0 v1 s0 h q) q) q)
    kRI_ok (Or.inr rfl) (by decide +kernel) (by decide +kernel) hf
theorem kqX10_askLeaves_32 : okC mX10_askLeaves 32 (.invokevirtual 286) 144 152 0 1 = true := by decide +kernel
def fX10_askLeaves_32 (v0 : Nat) (s0 : Nat) (s1 : Nat) (h : aH) : Option (Int32 × aH) :=
  (isO h 3 s1).bind fun _ =>
  (gX3_whomToAsk s1 s0 h).bind fun r =>
  fX10_askLeaves_35 v0 r.1 r.2
theorem tX10_askLeaves_32 {d : Nat} {z : Int32 × aH} (v0 : Nat) (s0 : Nat) (s1 : Nat) (h : aH) (hf : fX10_askLeaves_32 v0 s0 s1 h = some z) : Ev (d + 5) none mX10_askLeaves (0, 0) 32 [.ref v0, .null] [.ref s0, .ref s1] h (QI z) := by
  obtain ⟨_, h1, hf⟩ := bnd hf
  obtain ⟨fs, ho⟩ := isO_ok h1
  obtain ⟨r, h2, hf⟩ := bnd hf
  refine ev_V kqX10_askLeaves_32 jX3_whomToAsk (zX3_whomToAsk (d := d + 2) h2) ho rfl rfl (Nat.le_of_ble_eq_true rfl) rfl (as := [.ref s0]) (rest := []) rfl (Nat.le_of_ble_eq_true rfl) (fun _ _ hq => ?_)
  obtain ⟨rfl, rfl⟩ := hq
  exact jm [2, 0] (fun v0 => fX10_askLeaves_35 v0 r.1 r.2) (fun v0 q => tX10_askLeaves_35 v0 r.1 r.2 q) hf
def wX10_askLeaves_24 : List En := [(.aload_n 0, 0, 0, 0), (.getfield 33, 165, 10, 3), (.aload_n 0, 0, 0, 0), (.getfield 75, 171, 10, 9)]
def fX10_askLeaves_24 (v0 : Nat) (h : aH) : Option (Int32 × aH) :=
  (gFR h 10 v0 3).bind fun t1 =>
  (gFR h 10 v0 9).bind fun t2 =>
  fX10_askLeaves_32 v0 t2 t1 h
theorem tX10_askLeaves_24 {d : Nat} {z : Int32 × aH} (v0 : Nat) (h : aH) (hf : fX10_askLeaves_24 v0 h = some z) : Ev (d + 5) none mX10_askLeaves (0, 0) 24 [.ref v0, .null] [] h (QI z) := 
  go_ok (X := none) (blk := wX10_askLeaves_24) (np := 32) (tt := 0) (kN := fun xs h st => app [2, 0] (fun v0 => apS [2, 2] (fun s0 s1 => fX10_askLeaves_32 v0 s0 s1 h) st) xs) (kT := fun _ _ _ => none) (kR := kRI)
    (fun xs h st q => jm [2, 0] _ (fun v0 q => apS_ok [2, 2] _ (fun st => Ev (d + 5) none mX10_askLeaves (0, 0) 32 [.ref v0, .null] st h (QI z)) st (fun s0 s1 q => tX10_askLeaves_32 v0 s0 s1 h q) q) q)
    (fun _ _ _ q => nos q)
    kRI_ok (Or.inr rfl) (by decide +kernel) (by decide +kernel) hf
theorem kqX10_askLeaves_21 : okC mX10_askLeaves 21 (.invokevirtual 270) 135 141 0 1 = true := by decide +kernel
def fX10_askLeaves_21 (v0 : Nat) (s0 : Nat) (s1 : Nat) (h : aH) : Option (Int32 × aH) :=
  (isO h 3 s1).bind fun _ =>
  (gX3_weigh s1 s0 h).bind fun r =>
  fX10_askLeaves_24 v0 r
theorem tX10_askLeaves_21 {d : Nat} {z : Int32 × aH} (v0 : Nat) (s0 : Nat) (s1 : Nat) (h : aH) (hf : fX10_askLeaves_21 v0 s0 s1 h = some z) : Ev (d + 5) none mX10_askLeaves (0, 0) 21 [.ref v0, .null] [.ref s0, .ref s1] h (QI z) := by
  obtain ⟨_, h1, hf⟩ := bnd hf
  obtain ⟨fs, ho⟩ := isO_ok h1
  obtain ⟨r, h2, hf⟩ := bnd hf
  refine ev_V kqX10_askLeaves_21 jX3_weigh (zX3_weigh (d := d + 0) h2) ho rfl rfl (Nat.le_of_ble_eq_true rfl) rfl (as := [.ref s0]) (rest := []) rfl (Nat.le_of_ble_eq_true rfl) (fun _ _ hq => ?_)
  obtain ⟨rfl, hh⟩ := hq
  rw [hh]
  exact jm [2, 0] (fun v0 => fX10_askLeaves_24 v0 r) (fun v0 q => tX10_askLeaves_24 v0 r q) hf
def wX10_askLeaves_13 : List En := [(.aload_n 0, 0, 0, 0), (.getfield 33, 165, 10, 3), (.aload_n 0, 0, 0, 0), (.getfield 75, 171, 10, 9)]
def fX10_askLeaves_13 (v0 : Nat) (h : aH) : Option (Int32 × aH) :=
  (gFR h 10 v0 3).bind fun t1 =>
  (gFR h 10 v0 9).bind fun t2 =>
  fX10_askLeaves_21 v0 t2 t1 h
theorem tX10_askLeaves_13 {d : Nat} {z : Int32 × aH} (v0 : Nat) (h : aH) (hf : fX10_askLeaves_13 v0 h = some z) : Ev (d + 5) none mX10_askLeaves (0, 0) 13 [.ref v0, .null] [] h (QI z) := 
  go_ok (X := none) (blk := wX10_askLeaves_13) (np := 21) (tt := 0) (kN := fun xs h st => app [2, 0] (fun v0 => apS [2, 2] (fun s0 s1 => fX10_askLeaves_21 v0 s0 s1 h) st) xs) (kT := fun _ _ _ => none) (kR := kRI)
    (fun xs h st q => jm [2, 0] _ (fun v0 q => apS_ok [2, 2] _ (fun st => Ev (d + 5) none mX10_askLeaves (0, 0) 21 [.ref v0, .null] st h (QI z)) st (fun s0 s1 q => tX10_askLeaves_21 v0 s0 s1 h q) q) q)
    (fun _ _ _ q => nos q)
    kRI_ok (Or.inr rfl) (by decide +kernel) (by decide +kernel) hf
def wX10_askLeaves_12 : List En := [(.ireturn, 0, 0, 0)]
def fX10_askLeaves_12 (s0 : Int32) (h : aH) : Option (Int32 × aH) :=
  some (s0, h)
theorem tX10_askLeaves_12 {d : Nat} {z : Int32 × aH} (s0 : Int32) (h : aH) (hf : fX10_askLeaves_12 s0 h = some z) : Ev (d + 5) none mX10_askLeaves (0, 0) 12 [.null, .null] [.int s0] h (QI z) := 
  go_ok (X := none) (blk := wX10_askLeaves_12) (np := 13) (tt := 0) (kN := fun _ _ _ => none) (kT := fun _ _ _ => none) (kR := kRI)
    (fun _ _ _ q => nos q)
    (fun _ _ _ q => nos q)
    kRI_ok (Or.inr rfl) (by decide +kernel) (by decide +kernel) hf
theorem kqX10_askLeaves_9 : okC mX10_askLeaves 9 (.invokevirtual 94) 15 8 0 1 = true := by decide +kernel
def fX10_askLeaves_9 (s0 : Int32) (s1 : Nat) (h : aH) : Option (Int32 × aH) :=
  (isO h 10 s1).bind fun _ =>
  (gX10_refuse s1 s0 h).bind fun r =>
  fX10_askLeaves_12 r.1 r.2
theorem tX10_askLeaves_9 {d : Nat} {z : Int32 × aH} (s0 : Int32) (s1 : Nat) (h : aH) (hf : fX10_askLeaves_9 s0 s1 h = some z) : Ev (d + 5) none mX10_askLeaves (0, 0) 9 [.null, .null] [.int s0, .ref s1] h (QI z) := by
  obtain ⟨_, h1, hf⟩ := bnd hf
  obtain ⟨fs, ho⟩ := isO_ok h1
  obtain ⟨r, h2, hf⟩ := bnd hf
  refine ev_V kqX10_askLeaves_9 jX10_refuse (zX10_refuse (d := d + 4) h2) ho rfl rfl (Nat.le_of_ble_eq_true rfl) rfl (as := [.int s0]) (rest := []) rfl (Nat.le_of_ble_eq_true rfl) (fun _ _ hq => ?_)
  obtain ⟨rfl, rfl⟩ := hq
  exact jm [0, 0] (fX10_askLeaves_12 r.1 r.2) (fun q => tX10_askLeaves_12 r.1 r.2 q) hf
def wX10_askLeaves_7 : List En := [(.aload_n 0, 0, 0, 0), (.iconst 1, 0, 0, 0)]
def fX10_askLeaves_7 (v0 : Nat) (h : aH) : Option (Int32 × aH) :=
  fX10_askLeaves_9 (kI 1) v0 h
theorem tX10_askLeaves_7 {d : Nat} {z : Int32 × aH} (v0 : Nat) (h : aH) (hf : fX10_askLeaves_7 v0 h = some z) : Ev (d + 5) none mX10_askLeaves (0, 0) 7 [.ref v0, .null] [] h (QI z) := 
  go_ok (X := none) (blk := wX10_askLeaves_7) (np := 9) (tt := 0) (kN := fun xs h st => app [0, 0] (apS [1, 2] (fun s0 s1 => fX10_askLeaves_9 s0 s1 h) st) xs) (kT := fun _ _ _ => none) (kR := kRI)
    (fun xs h st q => jm [0, 0] _ (fun q => apS_ok [1, 2] _ (fun st => Ev (d + 5) none mX10_askLeaves (0, 0) 9 [.null, .null] st h (QI z)) st (fun s0 s1 q => tX10_askLeaves_9 s0 s1 h q) q) q)
    (fun _ _ _ q => nos q)
    kRI_ok (Or.inr rfl) (by decide +kernel) (by decide +kernel) hf
def wX10_askLeaves_4 : List En := [(.ifCond .eq 9, 13, 0, 0)]
def fX10_askLeaves_4 (v0 : Nat) (s0 : Int32) (h : aH) : Option (Int32 × aH) :=
  if s0 = 0 then fX10_askLeaves_13 v0 h else fX10_askLeaves_7 v0 h
theorem tX10_askLeaves_4 {d : Nat} {z : Int32 × aH} (v0 : Nat) (s0 : Int32) (h : aH) (hf : fX10_askLeaves_4 v0 s0 h = some z) : Ev (d + 5) none mX10_askLeaves (0, 0) 4 [.ref v0, .null] [.int s0] h (QI z) := 
  go_ok (X := none) (blk := wX10_askLeaves_4) (np := 7) (tt := 13) (kN := fun xs h st => app [2, 0] (fun v0 => apS [] (fX10_askLeaves_7 v0 h) st) xs) (kT := fun xs h st => app [2, 0] (fun v0 => apS [] (fX10_askLeaves_13 v0 h) st) xs) (kR := kRI)
    (fun xs h st q => jm [2, 0] _ (fun v0 q => apS_ok [] _ (fun st => Ev (d + 5) none mX10_askLeaves (0, 0) 7 [.ref v0, .null] st h (QI z)) st (fun q => tX10_askLeaves_7 v0 h q) q) q)
    (fun xs h st q => jm [2, 0] _ (fun v0 q => apS_ok [] _ (fun st => Ev (d + 5) none mX10_askLeaves (0, 0) 13 [.ref v0, .null] st h (QI z)) st (fun q => tX10_askLeaves_13 v0 h q) q) q)
    kRI_ok (Or.inr rfl) (by decide +kernel) (by decide +kernel) hf
theorem kqX10_askLeaves_1 : okC mX10_askLeaves 1 (.invokevirtual 159) 68 52 0 0 = true := by decide +kernel
def fX10_askLeaves_1 (v0 : Nat) (s0 : Nat) (h : aH) : Option (Int32 × aH) :=
  (isO h 10 s0).bind fun _ =>
  (gX10_lacksTable s0 h).bind fun r =>
  fX10_askLeaves_4 v0 r.1 r.2
theorem tX10_askLeaves_1 {d : Nat} {z : Int32 × aH} (v0 : Nat) (s0 : Nat) (h : aH) (hf : fX10_askLeaves_1 v0 s0 h = some z) : Ev (d + 5) none mX10_askLeaves (0, 0) 1 [.ref v0, .null] [.ref s0] h (QI z) := by
  obtain ⟨_, h1, hf⟩ := bnd hf
  obtain ⟨fs, ho⟩ := isO_ok h1
  obtain ⟨r, h2, hf⟩ := bnd hf
  refine ev_V kqX10_askLeaves_1 jX10_lacksTable (zX10_lacksTable (d := d + 4) h2) ho rfl rfl (Nat.le_of_ble_eq_true rfl) rfl (as := []) (rest := []) rfl (Nat.le_of_ble_eq_true rfl) (fun _ _ hq => ?_)
  obtain ⟨-, rfl, rfl⟩ := hq
  exact jm [2, 0] (fun v0 => fX10_askLeaves_4 v0 r.1 r.2) (fun v0 q => tX10_askLeaves_4 v0 r.1 r.2 q) hf
def wX10_askLeaves_0 : List En := [(.aload_n 0, 0, 0, 0)]
def fX10_askLeaves_0 (v0 : Nat) (h : aH) : Option (Int32 × aH) :=
  fX10_askLeaves_1 v0 v0 h
theorem tX10_askLeaves_0 {d : Nat} {z : Int32 × aH} (v0 : Nat) (h : aH) (hf : fX10_askLeaves_0 v0 h = some z) : Ev (d + 5) none mX10_askLeaves (0, 0) 0 [.ref v0, .null] [] h (QI z) := 
  go_ok (X := none) (blk := wX10_askLeaves_0) (np := 1) (tt := 0) (kN := fun xs h st => app [2, 0] (fun v0 => apS [2] (fun s0 => fX10_askLeaves_1 v0 s0 h) st) xs) (kT := fun _ _ _ => none) (kR := kRI)
    (fun xs h st q => jm [2, 0] _ (fun v0 q => apS_ok [2] _ (fun st => Ev (d + 5) none mX10_askLeaves (0, 0) 1 [.ref v0, .null] st h (QI z)) st (fun s0 q => tX10_askLeaves_1 v0 s0 h q) q) q)
    (fun _ _ _ q => nos q)
    kRI_ok (Or.inr rfl) (by decide +kernel) (by decide +kernel) hf
def gX10_askLeaves (v0 : Nat) (h : aH) : Option (Int32 × aH) := fX10_askLeaves_0 v0 h
theorem zX10_askLeaves {d : Nat} {z : Int32 × aH} {v0 : Nat} {h : aH} (q : gX10_askLeaves v0 h = some z) : CT (d + 5) mX10_askLeaves (0, 0) [.ref v0] h (QI z) :=
  ct_ev (by decide +kernel) (Nat.le_of_ble_eq_true rfl) QI_r (jm [2, 0] (fun v0 => fX10_askLeaves_0 v0 h) (fun v0 q => tX10_askLeaves_0 v0 h q) q)
def wX10_judge_29 : List En := [(.ireturn, 0, 0, 0)]
def fX10_judge_29 (s0 : Int32) (h : aH) : Option (Int32 × aH) :=
  some (s0, h)
theorem tX10_judge_29 {d : Nat} {z : Int32 × aH} (s0 : Int32) (h : aH) (hf : fX10_judge_29 s0 h = some z) : Ev (d + 4) none mX10_judge (0, 0) 29 [.null] [.int s0] h (QI z) := 
  go_ok (X := none) (blk := wX10_judge_29) (np := 30) (tt := 0) (kN := fun _ _ _ => none) (kT := fun _ _ _ => none) (kR := kRI)
    (fun _ _ _ q => nos q)
    (fun _ _ _ q => nos q)
    kRI_ok (Or.inr rfl) (by decide +kernel) (by decide +kernel) hf
theorem kqX10_judge_26 : okC mX10_judge 26 (.invokevirtual 119) 60 44 0 1 = true := by decide +kernel
def fX10_judge_26 (s0 : Int32) (s1 : Nat) (h : aH) : Option (Int32 × aH) :=
  (isO h 10 s1).bind fun _ =>
  (gX10_answer s1 s0 h).bind fun r =>
  fX10_judge_29 r.1 r.2
theorem tX10_judge_26 {d : Nat} {z : Int32 × aH} (s0 : Int32) (s1 : Nat) (h : aH) (hf : fX10_judge_26 s0 s1 h = some z) : Ev (d + 4) none mX10_judge (0, 0) 26 [.null] [.int s0, .ref s1] h (QI z) := by
  obtain ⟨_, h1, hf⟩ := bnd hf
  obtain ⟨fs, ho⟩ := isO_ok h1
  obtain ⟨r, h2, hf⟩ := bnd hf
  refine ev_V kqX10_judge_26 jX10_answer (zX10_answer (d := d + 3) h2) ho rfl rfl (Nat.le_of_ble_eq_true rfl) rfl (as := [.int s0]) (rest := []) rfl (Nat.le_of_ble_eq_true rfl) (fun _ _ hq => ?_)
  obtain ⟨rfl, rfl⟩ := hq
  exact jm [0] (fX10_judge_29 r.1 r.2) (fun q => tX10_judge_29 r.1 r.2 q) hf
theorem kqX10_judge_23 : okC mX10_judge 23 (.invokevirtual 292) 136 157 0 2 = true := by decide +kernel
def fX10_judge_23 (s0 : Int32) (s1 : Nat) (s2 : Nat) (s3 : Nat) (h : aH) : Option (Int32 × aH) :=
  (isO h 3 s2).bind fun _ =>
  (gX3_firstUnlike s2 s1 s0 h).bind fun r =>
  fX10_judge_26 r.1 s3 r.2
theorem tX10_judge_23 {d : Nat} {z : Int32 × aH} (s0 : Int32) (s1 : Nat) (s2 : Nat) (s3 : Nat) (h : aH) (hf : fX10_judge_23 s0 s1 s2 s3 h = some z) : Ev (d + 4) none mX10_judge (0, 0) 23 [.null] [.int s0, .ref s1, .ref s2, .ref s3] h (QI z) := by
  obtain ⟨_, h1, hf⟩ := bnd hf
  obtain ⟨fs, ho⟩ := isO_ok h1
  obtain ⟨r, h2, hf⟩ := bnd hf
  refine ev_V kqX10_judge_23 jX3_firstUnlike (zX3_firstUnlike (d := d + 0) h2) ho rfl rfl (Nat.le_of_ble_eq_true rfl) rfl (as := [.ref s1, .int s0]) (rest := [.ref s3]) rfl (Nat.le_of_ble_eq_true rfl) (fun _ _ hq => ?_)
  obtain ⟨rfl, rfl⟩ := hq
  exact jm [0] (fX10_judge_26 r.1 s3 r.2) (fun q => tX10_judge_26 r.1 s3 r.2 q) hf
def wX10_judge_13 : List En := [(.aload_n 0, 0, 0, 0), (.aload_n 0, 0, 0, 0), (.getfield 33, 165, 10, 3), (.aload_n 0, 0, 0, 0), (.getfield 75, 171, 10, 9), (.iconst 0, 0, 0, 0)]
def fX10_judge_13 (v0 : Nat) (h : aH) : Option (Int32 × aH) :=
  (gFR h 10 v0 3).bind fun t1 =>
  (gFR h 10 v0 9).bind fun t2 =>
  fX10_judge_23 (kI 0) t2 t1 v0 h
theorem tX10_judge_13 {d : Nat} {z : Int32 × aH} (v0 : Nat) (h : aH) (hf : fX10_judge_13 v0 h = some z) : Ev (d + 4) none mX10_judge (0, 0) 13 [.ref v0] [] h (QI z) := 
  go_ok (X := none) (blk := wX10_judge_13) (np := 23) (tt := 0) (kN := fun xs h st => app [0] (apS [1, 2, 2, 2] (fun s0 s1 s2 s3 => fX10_judge_23 s0 s1 s2 s3 h) st) xs) (kT := fun _ _ _ => none) (kR := kRI)
    (fun xs h st q => jm [0] _ (fun q => apS_ok [1, 2, 2, 2] _ (fun st => Ev (d + 4) none mX10_judge (0, 0) 23 [.null] st h (QI z)) st (fun s0 s1 s2 s3 q => tX10_judge_23 s0 s1 s2 s3 h q) q) q)
    (fun _ _ _ q => nos q)
    kRI_ok (Or.inr rfl) (by decide +kernel) (by decide +kernel) hf
def wX10_judge_12 : List En := [(.ireturn, 0, 0, 0)]
def fX10_judge_12 (s0 : Int32) (h : aH) : Option (Int32 × aH) :=
  some (s0, h)
theorem tX10_judge_12 {d : Nat} {z : Int32 × aH} (s0 : Int32) (h : aH) (hf : fX10_judge_12 s0 h = some z) : Ev (d + 4) none mX10_judge (0, 0) 12 [.null] [.int s0] h (QI z) := 
  go_ok (X := none) (blk := wX10_judge_12) (np := 13) (tt := 0) (kN := fun _ _ _ => none) (kT := fun _ _ _ => none) (kR := kRI)
    (fun _ _ _ q => nos q)
    (fun _ _ _ q => nos q)
    kRI_ok (Or.inr rfl) (by decide +kernel) (by decide +kernel) hf
theorem kqX10_judge_9 : okC mX10_judge 9 (.invokevirtual 94) 15 8 0 1 = true := by decide +kernel
def fX10_judge_9 (s0 : Int32) (s1 : Nat) (h : aH) : Option (Int32 × aH) :=
  (isO h 10 s1).bind fun _ =>
  (gX10_refuse s1 s0 h).bind fun r =>
  fX10_judge_12 r.1 r.2
theorem tX10_judge_9 {d : Nat} {z : Int32 × aH} (s0 : Int32) (s1 : Nat) (h : aH) (hf : fX10_judge_9 s0 s1 h = some z) : Ev (d + 4) none mX10_judge (0, 0) 9 [.null] [.int s0, .ref s1] h (QI z) := by
  obtain ⟨_, h1, hf⟩ := bnd hf
  obtain ⟨fs, ho⟩ := isO_ok h1
  obtain ⟨r, h2, hf⟩ := bnd hf
  refine ev_V kqX10_judge_9 jX10_refuse (zX10_refuse (d := d + 3) h2) ho rfl rfl (Nat.le_of_ble_eq_true rfl) rfl (as := [.int s0]) (rest := []) rfl (Nat.le_of_ble_eq_true rfl) (fun _ _ hq => ?_)
  obtain ⟨rfl, rfl⟩ := hq
  exact jm [0] (fX10_judge_12 r.1 r.2) (fun q => tX10_judge_12 r.1 r.2 q) hf
def wX10_judge_7 : List En := [(.aload_n 0, 0, 0, 0), (.iconst 1, 0, 0, 0)]
def fX10_judge_7 (v0 : Nat) (h : aH) : Option (Int32 × aH) :=
  fX10_judge_9 (kI 1) v0 h
theorem tX10_judge_7 {d : Nat} {z : Int32 × aH} (v0 : Nat) (h : aH) (hf : fX10_judge_7 v0 h = some z) : Ev (d + 4) none mX10_judge (0, 0) 7 [.ref v0] [] h (QI z) := 
  go_ok (X := none) (blk := wX10_judge_7) (np := 9) (tt := 0) (kN := fun xs h st => app [0] (apS [1, 2] (fun s0 s1 => fX10_judge_9 s0 s1 h) st) xs) (kT := fun _ _ _ => none) (kR := kRI)
    (fun xs h st q => jm [0] _ (fun q => apS_ok [1, 2] _ (fun st => Ev (d + 4) none mX10_judge (0, 0) 9 [.null] st h (QI z)) st (fun s0 s1 q => tX10_judge_9 s0 s1 h q) q) q)
    (fun _ _ _ q => nos q)
    kRI_ok (Or.inr rfl) (by decide +kernel) (by decide +kernel) hf
def wX10_judge_4 : List En := [(.ifCond .eq 9, 13, 0, 0)]
def fX10_judge_4 (v0 : Nat) (s0 : Int32) (h : aH) : Option (Int32 × aH) :=
  if s0 = 0 then fX10_judge_13 v0 h else fX10_judge_7 v0 h
theorem tX10_judge_4 {d : Nat} {z : Int32 × aH} (v0 : Nat) (s0 : Int32) (h : aH) (hf : fX10_judge_4 v0 s0 h = some z) : Ev (d + 4) none mX10_judge (0, 0) 4 [.ref v0] [.int s0] h (QI z) := 
  go_ok (X := none) (blk := wX10_judge_4) (np := 7) (tt := 13) (kN := fun xs h st => app [2] (fun v0 => apS [] (fX10_judge_7 v0 h) st) xs) (kT := fun xs h st => app [2] (fun v0 => apS [] (fX10_judge_13 v0 h) st) xs) (kR := kRI)
    (fun xs h st q => jm [2] _ (fun v0 q => apS_ok [] _ (fun st => Ev (d + 4) none mX10_judge (0, 0) 7 [.ref v0] st h (QI z)) st (fun q => tX10_judge_7 v0 h q) q) q)
    (fun xs h st q => jm [2] _ (fun v0 q => apS_ok [] _ (fun st => Ev (d + 4) none mX10_judge (0, 0) 13 [.ref v0] st h (QI z)) st (fun q => tX10_judge_13 v0 h q) q) q)
    kRI_ok (Or.inr rfl) (by decide +kernel) (by decide +kernel) hf
theorem kqX10_judge_1 : okC mX10_judge 1 (.invokevirtual 159) 68 52 0 0 = true := by decide +kernel
def fX10_judge_1 (v0 : Nat) (s0 : Nat) (h : aH) : Option (Int32 × aH) :=
  (isO h 10 s0).bind fun _ =>
  (gX10_lacksTable s0 h).bind fun r =>
  fX10_judge_4 v0 r.1 r.2
theorem tX10_judge_1 {d : Nat} {z : Int32 × aH} (v0 : Nat) (s0 : Nat) (h : aH) (hf : fX10_judge_1 v0 s0 h = some z) : Ev (d + 4) none mX10_judge (0, 0) 1 [.ref v0] [.ref s0] h (QI z) := by
  obtain ⟨_, h1, hf⟩ := bnd hf
  obtain ⟨fs, ho⟩ := isO_ok h1
  obtain ⟨r, h2, hf⟩ := bnd hf
  refine ev_V kqX10_judge_1 jX10_lacksTable (zX10_lacksTable (d := d + 3) h2) ho rfl rfl (Nat.le_of_ble_eq_true rfl) rfl (as := []) (rest := []) rfl (Nat.le_of_ble_eq_true rfl) (fun _ _ hq => ?_)
  obtain ⟨-, rfl, rfl⟩ := hq
  exact jm [2] (fun v0 => fX10_judge_4 v0 r.1 r.2) (fun v0 q => tX10_judge_4 v0 r.1 r.2 q) hf
def wX10_judge_0 : List En := [(.aload_n 0, 0, 0, 0)]
def fX10_judge_0 (v0 : Nat) (h : aH) : Option (Int32 × aH) :=
  fX10_judge_1 v0 v0 h
theorem tX10_judge_0 {d : Nat} {z : Int32 × aH} (v0 : Nat) (h : aH) (hf : fX10_judge_0 v0 h = some z) : Ev (d + 4) none mX10_judge (0, 0) 0 [.ref v0] [] h (QI z) := 
  go_ok (X := none) (blk := wX10_judge_0) (np := 1) (tt := 0) (kN := fun xs h st => app [2] (fun v0 => apS [2] (fun s0 => fX10_judge_1 v0 s0 h) st) xs) (kT := fun _ _ _ => none) (kR := kRI)
    (fun xs h st q => jm [2] _ (fun v0 q => apS_ok [2] _ (fun st => Ev (d + 4) none mX10_judge (0, 0) 1 [.ref v0] st h (QI z)) st (fun s0 q => tX10_judge_1 v0 s0 h q) q) q)
    (fun _ _ _ q => nos q)
    kRI_ok (Or.inr rfl) (by decide +kernel) (by decide +kernel) hf
def gX10_judge (v0 : Nat) (h : aH) : Option (Int32 × aH) := fX10_judge_0 v0 h
theorem zX10_judge {d : Nat} {z : Int32 × aH} {v0 : Nat} {h : aH} (q : gX10_judge v0 h = some z) : CT (d + 4) mX10_judge (0, 0) [.ref v0] h (QI z) :=
  ct_ev (by decide +kernel) (Nat.le_of_ble_eq_true rfl) QI_r (jm [2] (fun v0 => fX10_judge_0 v0 h) (fun v0 q => tX10_judge_0 v0 h q) q)
end
