noncomputable section
def wX11_takesOf_26 : List En := [(.ireturn, 0, 0, 0)]
def fX11_takesOf_26 (s0 : Int32) (h : aH) : Option (Int32 × aH) :=
  some (s0, h)
theorem tX11_takesOf_26 {d : Nat} {z : Int32 × aH} (s0 : Int32) (h : aH) (hf : fX11_takesOf_26 s0 h = some z) : Ev (d + 0) none mX11_takesOf (0, 0) 26 [.null, .null, .null] [.int s0] h (QI z) := 
  go_ok (X := none) (blk := wX11_takesOf_26) (np := 27) (tt := 0) (kN := fun _ _ _ => none) (kT := fun _ _ _ => none) (kR := kRI)
    (fun _ _ _ q => nos q)
    (fun _ _ _ q => nos q)
    kRI_ok (Or.inr rfl) (by decide +kernel) (by decide +kernel) hf
def wX11_takesOf_25 : List En := [(.iconst 1, 0, 0, 0)]
def fX11_takesOf_25 (h : aH) : Option (Int32 × aH) :=
  fX11_takesOf_26 (kI 1) h
theorem tX11_takesOf_25 {d : Nat} {z : Int32 × aH} (h : aH) (hf : fX11_takesOf_25 h = some z) : Ev (d + 0) none mX11_takesOf (0, 0) 25 [.null, .null, .null] [] h (QI z) := 
  go_ok (X := none) (blk := wX11_takesOf_25) (np := 26) (tt := 0) (kN := fun xs h st => app [0, 0, 0] (apS [1] (fun s0 => fX11_takesOf_26 s0 h) st) xs) (kT := fun _ _ _ => none) (kR := kRI)
    (fun xs h st q => jm [0, 0, 0] _ (fun q => apS_ok [1] _ (fun st => Ev (d + 0) none mX11_takesOf (0, 0) 26 [.null, .null, .null] st h (QI z)) st (fun s0 q => tX11_takesOf_26 s0 h q) q) q)
    (fun _ _ _ q => nos q)
    kRI_ok (Or.inr rfl) (by decide +kernel) (by decide +kernel) hf
def wX11_takesOf_21 : List En := [(.iconst (-1), 0, 0, 0), (.goto 4, 26, 0, 0)]
def fX11_takesOf_21 (h : aH) : Option (Int32 × aH) :=
  fX11_takesOf_26 (kI (-1)) h
theorem tX11_takesOf_21 {d : Nat} {z : Int32 × aH} (h : aH) (hf : fX11_takesOf_21 h = some z) : Ev (d + 0) none mX11_takesOf (0, 0) 21 [.null, .null, .null] [] h (QI z) := 
  go_ok (X := none) (blk := wX11_takesOf_21) (np := 25) (tt := 26) (kN := fun _ _ _ => none) (kT := fun xs h st => app [0, 0, 0] (apS [1] (fun s0 => fX11_takesOf_26 s0 h) st) xs) (kR := kRI)
    (fun _ _ _ q => nos q)
    (fun xs h st q => jm [0, 0, 0] _ (fun q => apS_ok [1] _ (fun st => Ev (d + 0) none mX11_takesOf (0, 0) 26 [.null, .null, .null] st h (QI z)) st (fun s0 q => tX11_takesOf_26 s0 h q) q) q)
    kRI_ok (Or.inr rfl) (by decide +kernel) (by decide +kernel) hf
def wX11_takesOf_17 : List En := [(.iload_n 2, 0, 0, 0), (.ifCond .eq 7, 25, 0, 0)]
def fX11_takesOf_17 (v2 : Int32) (h : aH) : Option (Int32 × aH) :=
  if v2 = 0 then fX11_takesOf_25 h else fX11_takesOf_21 h
theorem tX11_takesOf_17 {d : Nat} {z : Int32 × aH} (v2 : Int32) (h : aH) (hf : fX11_takesOf_17 v2 h = some z) : Ev (d + 0) none mX11_takesOf (0, 0) 17 [.null, .null, .int v2] [] h (QI z) := 
  go_ok (X := none) (blk := wX11_takesOf_17) (np := 21) (tt := 25) (kN := fun xs h st => app [0, 0, 0] (apS [] (fX11_takesOf_21 h) st) xs) (kT := fun xs h st => app [0, 0, 0] (apS [] (fX11_takesOf_25 h) st) xs) (kR := kRI)
    (fun xs h st q => jm [0, 0, 0] _ (fun q => apS_ok [] _ (fun st => Ev (d + 0) none mX11_takesOf (0, 0) 21 [.null, .null, .null] st h (QI z)) st (fun q => tX11_takesOf_21 h q) q) q)
    (fun xs h st q => jm [0, 0, 0] _ (fun q => apS_ok [] _ (fun st => Ev (d + 0) none mX11_takesOf (0, 0) 25 [.null, .null, .null] st h (QI z)) st (fun q => tX11_takesOf_25 h q) q) q)
    kRI_ok (Or.inr rfl) (by decide +kernel) (by decide +kernel) hf
def wX11_takesOf_13 : List En := [(.iconst 3, 0, 0, 0), (.goto 12, 26, 0, 0)]
def fX11_takesOf_13 (h : aH) : Option (Int32 × aH) :=
  fX11_takesOf_26 (kI 3) h
theorem tX11_takesOf_13 {d : Nat} {z : Int32 × aH} (h : aH) (hf : fX11_takesOf_13 h = some z) : Ev (d + 0) none mX11_takesOf (0, 0) 13 [.null, .null, .null] [] h (QI z) := 
  go_ok (X := none) (blk := wX11_takesOf_13) (np := 17) (tt := 26) (kN := fun _ _ _ => none) (kT := fun xs h st => app [0, 0, 0] (apS [1] (fun s0 => fX11_takesOf_26 s0 h) st) xs) (kR := kRI)
    (fun _ _ _ q => nos q)
    (fun xs h st q => jm [0, 0, 0] _ (fun q => apS_ok [1] _ (fun st => Ev (d + 0) none mX11_takesOf (0, 0) 26 [.null, .null, .null] st h (QI z)) st (fun s0 q => tX11_takesOf_26 s0 h q) q) q)
    kRI_ok (Or.inr rfl) (by decide +kernel) (by decide +kernel) hf
def wX11_takesOf_8 : List En := [(.iload_n 0, 0, 0, 0), (.ineg, 0, 0, 0), (.goto 16, 26, 0, 0)]
def fX11_takesOf_8 (v0 : Int32) (h : aH) : Option (Int32 × aH) :=
  fX11_takesOf_26 (-v0) h
theorem tX11_takesOf_8 {d : Nat} {z : Int32 × aH} (v0 : Int32) (h : aH) (hf : fX11_takesOf_8 v0 h = some z) : Ev (d + 0) none mX11_takesOf (0, 0) 8 [.int v0, .null, .null] [] h (QI z) := 
  go_ok (X := none) (blk := wX11_takesOf_8) (np := 13) (tt := 26) (kN := fun _ _ _ => none) (kT := fun xs h st => app [0, 0, 0] (apS [1] (fun s0 => fX11_takesOf_26 s0 h) st) xs) (kR := kRI)
    (fun _ _ _ q => nos q)
    (fun xs h st q => jm [0, 0, 0] _ (fun q => apS_ok [1] _ (fun st => Ev (d + 0) none mX11_takesOf (0, 0) 26 [.null, .null, .null] st h (QI z)) st (fun s0 q => tX11_takesOf_26 s0 h q) q) q)
    kRI_ok (Or.inr rfl) (by decide +kernel) (by decide +kernel) hf
def wX11_takesOf_4 : List En := [(.iload_n 2, 0, 0, 0), (.ifCond .eq 8, 13, 0, 0)]
def fX11_takesOf_4 (v0 : Int32) (v2 : Int32) (h : aH) : Option (Int32 × aH) :=
  if v2 = 0 then fX11_takesOf_13 h else fX11_takesOf_8 v0 h
theorem tX11_takesOf_4 {d : Nat} {z : Int32 × aH} (v0 : Int32) (v2 : Int32) (h : aH) (hf : fX11_takesOf_4 v0 v2 h = some z) : Ev (d + 0) none mX11_takesOf (0, 0) 4 [.int v0, .null, .int v2] [] h (QI z) := 
  go_ok (X := none) (blk := wX11_takesOf_4) (np := 8) (tt := 13) (kN := fun xs h st => app [1, 0, 0] (fun v0 => apS [] (fX11_takesOf_8 v0 h) st) xs) (kT := fun xs h st => app [0, 0, 0] (apS [] (fX11_takesOf_13 h) st) xs) (kR := kRI)
    (fun xs h st q => jm [1, 0, 0] _ (fun v0 q => apS_ok [] _ (fun st => Ev (d + 0) none mX11_takesOf (0, 0) 8 [.int v0, .null, .null] st h (QI z)) st (fun q => tX11_takesOf_8 v0 h q) q) q)
    (fun xs h st q => jm [0, 0, 0] _ (fun q => apS_ok [] _ (fun st => Ev (d + 0) none mX11_takesOf (0, 0) 13 [.null, .null, .null] st h (QI z)) st (fun q => tX11_takesOf_13 h q) q) q)
    kRI_ok (Or.inr rfl) (by decide +kernel) (by decide +kernel) hf
def wX11_takesOf_0 : List En := [(.iload_n 1, 0, 0, 0), (.ifCond .eq 16, 17, 0, 0)]
def fX11_takesOf_0 (v0 : Int32) (v1 : Int32) (v2 : Int32) (h : aH) : Option (Int32 × aH) :=
  if v1 = 0 then fX11_takesOf_17 v2 h else fX11_takesOf_4 v0 v2 h
theorem tX11_takesOf_0 {d : Nat} {z : Int32 × aH} (v0 : Int32) (v1 : Int32) (v2 : Int32) (h : aH) (hf : fX11_takesOf_0 v0 v1 v2 h = some z) : Ev (d + 0) none mX11_takesOf (0, 0) 0 [.int v0, .int v1, .int v2] [] h (QI z) := 
  go_ok (X := none) (blk := wX11_takesOf_0) (np := 4) (tt := 17) (kN := fun xs h st => app [1, 0, 1] (fun v0 v2 => apS [] (fX11_takesOf_4 v0 v2 h) st) xs) (kT := fun xs h st => app [0, 0, 1] (fun v2 => apS [] (fX11_takesOf_17 v2 h) st) xs) (kR := kRI)
    (fun xs h st q => jm [1, 0, 1] _ (fun v0 v2 q => apS_ok [] _ (fun st => Ev (d + 0) none mX11_takesOf (0, 0) 4 [.int v0, .null, .int v2] st h (QI z)) st (fun q => tX11_takesOf_4 v0 v2 h q) q) q)
    (fun xs h st q => jm [0, 0, 1] _ (fun v2 q => apS_ok [] _ (fun st => Ev (d + 0) none mX11_takesOf (0, 0) 17 [.null, .null, .int v2] st h (QI z)) st (fun q => tX11_takesOf_17 v2 h q) q) q)
    kRI_ok (Or.inr rfl) (by decide +kernel) (by decide +kernel) hf
def gX11_takesOf (v0 : Int32) (v1 : Int32) (v2 : Int32) (h : aH) : Option (Int32 × aH) := fX11_takesOf_0 v0 v1 v2 h
theorem zX11_takesOf {d : Nat} {z : Int32 × aH} {v0 : Int32} {v1 : Int32} {v2 : Int32} {h : aH} (q : gX11_takesOf v0 v1 v2 h = some z) : CT (d + 0) mX11_takesOf (0, 0) [.int v0, .int v1, .int v2] h (QI z) :=
  ct_ev (by decide +kernel) (Nat.le_of_ble_eq_true rfl) QI_r (jm [1, 1, 1] (fun v0 v1 v2 => fX11_takesOf_0 v0 v1 v2 h) (fun v0 v1 v2 q => tX11_takesOf_0 v0 v1 v2 h q) q)
def wX11_takes_47 : List En := [(.aload_n 0, 0, 0, 0), (.iload 5, 0, 0, 0), (.putfield 56, 186, 11, 11), (.bipush (-100), 0, 0, 0), (.ireturn, 0, 0, 0)]
def fX11_takes_47 (v0 : Nat) (v5 : Int32) (h : aH) : Option (Int32 × aH) :=
  (pWV h 11 v0 11 (.int v5)).bind fun h1 =>
  some ((kB (-100)), h1)
theorem tX11_takes_47 {d : Nat} {z : Int32 × aH} (v0 : Nat) (v5 : Int32) (h : aH) (hf : fX11_takes_47 v0 v5 h = some z) : Ev (d + 1) none mX11_takes (0, 0) 47 [.ref v0, .null, .null, .null, .null, .int v5] [] h (QI z) := 
  go_ok (X := none) (blk := wX11_takes_47) (np := 56) (tt := 0) (kN := fun _ _ _ => none) (kT := fun _ _ _ => none) (kR := kRI)
    (fun _ _ _ q => nos q)
    (fun _ _ _ q => nos q)
    kRI_ok (Or.inr rfl) (by decide +kernel) (by decide +kernel) hf
def wX11_takes_46 : List En := [(.ireturn, 0, 0, 0)]
def fX11_takes_46 (s0 : Int32) (h : aH) : Option (Int32 × aH) :=
  some (s0, h)
theorem tX11_takes_46 {d : Nat} {z : Int32 × aH} (s0 : Int32) (h : aH) (hf : fX11_takes_46 s0 h = some z) : Ev (d + 1) none mX11_takes (0, 0) 46 [.null, .null, .null, .null, .null, .null] [.int s0] h (QI z) := 
  go_ok (X := none) (blk := wX11_takes_46) (np := 47) (tt := 0) (kN := fun _ _ _ => none) (kT := fun _ _ _ => none) (kR := kRI)
    (fun _ _ _ q => nos q)
    (fun _ _ _ q => nos q)
    kRI_ok (Or.inr rfl) (by decide +kernel) (by decide +kernel) hf
theorem kqX11_takes_43 : okC mX11_takes 43 (.invokestatic 378) 281 298 1 3 = true := by decide +kernel
def fX11_takes_43 (s0 : Int32) (s1 : Int32) (s2 : Int32) (h : aH) : Option (Int32 × aH) :=
  (gX11_takesOf s2 s1 s0 h).bind fun r =>
  fX11_takes_46 r.1 r.2
theorem tX11_takes_43 {d : Nat} {z : Int32 × aH} (s0 : Int32) (s1 : Int32) (s2 : Int32) (h : aH) (hf : fX11_takes_43 s0 s1 s2 h = some z) : Ev (d + 1) none mX11_takes (0, 0) 43 [.null, .null, .null, .null, .null, .null] [.int s0, .int s1, .int s2] h (QI z) := by
  obtain ⟨r, h2, hf⟩ := bnd hf
  refine ev_S kqX11_takes_43 jX11_takesOf (zX11_takesOf (d := d + 0) h2) rfl (Nat.le_of_ble_eq_true rfl) rfl (as := [.int s2, .int s1, .int s0]) (rest := []) rfl (Nat.le_of_ble_eq_true rfl) (fun _ _ hq => ?_)
  obtain ⟨rfl, rfl⟩ := hq
  exact jm [0, 0, 0, 0, 0, 0] (fX11_takes_46 r.1 r.2) (fun q => tX11_takes_46 r.1 r.2 q) hf
def wX11_takes_40 : List En := [(.iload_n 1, 0, 0, 0), (.iload_n 2, 0, 0, 0), (.iload_n 3, 0, 0, 0)]
def fX11_takes_40 (v1 : Int32) (v2 : Int32) (v3 : Int32) (h : aH) : Option (Int32 × aH) :=
  fX11_takes_43 v3 v2 v1 h
theorem tX11_takes_40 {d : Nat} {z : Int32 × aH} (v1 : Int32) (v2 : Int32) (v3 : Int32) (h : aH) (hf : fX11_takes_40 v1 v2 v3 h = some z) : Ev (d + 1) none mX11_takes (0, 0) 40 [.null, .int v1, .int v2, .int v3, .null, .null] [] h (QI z) := 
  go_ok (X := none) (blk := wX11_takes_40) (np := 43) (tt := 0) (kN := fun xs h st => app [0, 0, 0, 0, 0, 0] (apS [1, 1, 1] (fun s0 s1 s2 => fX11_takes_43 s0 s1 s2 h) st) xs) (kT := fun _ _ _ => none) (kR := kRI)
    (fun xs h st q => jm [0, 0, 0, 0, 0, 0] _ (fun q => apS_ok [1, 1, 1] _ (fun st => Ev (d + 1) none mX11_takes (0, 0) 43 [.null, .null, .null, .null, .null, .null] st h (QI z)) st (fun s0 s1 s2 q => tX11_takes_43 s0 s1 s2 h q) q) q)
    (fun _ _ _ q => nos q)
    kRI_ok (Or.inr rfl) (by decide +kernel) (by decide +kernel) hf
def wX11_takes_37 : List En := [(.goto 9, 46, 0, 0)]
def fX11_takes_37 (s0 : Int32) (h : aH) : Option (Int32 × aH) :=
  fX11_takes_46 s0 h
theorem tX11_takes_37 {d : Nat} {z : Int32 × aH} (s0 : Int32) (h : aH) (hf : fX11_takes_37 s0 h = some z) : Ev (d + 1) none mX11_takes (0, 0) 37 [.null, .null, .null, .null, .null, .null] [.int s0] h (QI z) := 
  go_ok (X := none) (blk := wX11_takes_37) (np := 40) (tt := 46) (kN := fun _ _ _ => none) (kT := fun xs h st => app [0, 0, 0, 0, 0, 0] (apS [1] (fun s0 => fX11_takes_46 s0 h) st) xs) (kR := kRI)
    (fun _ _ _ q => nos q)
    (fun xs h st q => jm [0, 0, 0, 0, 0, 0] _ (fun q => apS_ok [1] _ (fun st => Ev (d + 1) none mX11_takes (0, 0) 46 [.null, .null, .null, .null, .null, .null] st h (QI z)) st (fun s0 q => tX11_takes_46 s0 h q) q) q)
    kRI_ok (Or.inr rfl) (by decide +kernel) (by decide +kernel) hf
theorem kqX11_takes_34 : okC mX11_takes 34 (.invokestatic 378) 281 298 1 3 = true := by decide +kernel
def fX11_takes_34 (s0 : Int32) (s1 : Int32) (s2 : Int32) (h : aH) : Option (Int32 × aH) :=
  (gX11_takesOf s2 s1 s0 h).bind fun r =>
  fX11_takes_37 r.1 r.2
theorem tX11_takes_34 {d : Nat} {z : Int32 × aH} (s0 : Int32) (s1 : Int32) (s2 : Int32) (h : aH) (hf : fX11_takes_34 s0 s1 s2 h = some z) : Ev (d + 1) none mX11_takes (0, 0) 34 [.null, .null, .null, .null, .null, .null] [.int s0, .int s1, .int s2] h (QI z) := by
  obtain ⟨r, h2, hf⟩ := bnd hf
  refine ev_S kqX11_takes_34 jX11_takesOf (zX11_takesOf (d := d + 0) h2) rfl (Nat.le_of_ble_eq_true rfl) rfl (as := [.int s2, .int s1, .int s0]) (rest := []) rfl (Nat.le_of_ble_eq_true rfl) (fun _ _ hq => ?_)
  obtain ⟨rfl, rfl⟩ := hq
  exact jm [0, 0, 0, 0, 0, 0] (fX11_takes_37 r.1 r.2) (fun q => tX11_takes_37 r.1 r.2 q) hf
def wX11_takes_31 : List En := [(.iload_n 1, 0, 0, 0), (.iload_n 3, 0, 0, 0), (.iload_n 2, 0, 0, 0)]
def fX11_takes_31 (v1 : Int32) (v2 : Int32) (v3 : Int32) (h : aH) : Option (Int32 × aH) :=
  fX11_takes_34 v2 v3 v1 h
theorem tX11_takes_31 {d : Nat} {z : Int32 × aH} (v1 : Int32) (v2 : Int32) (v3 : Int32) (h : aH) (hf : fX11_takes_31 v1 v2 v3 h = some z) : Ev (d + 1) none mX11_takes (0, 0) 31 [.null, .int v1, .int v2, .int v3, .null, .null] [] h (QI z) := 
  go_ok (X := none) (blk := wX11_takes_31) (np := 34) (tt := 0) (kN := fun xs h st => app [0, 0, 0, 0, 0, 0] (apS [1, 1, 1] (fun s0 s1 s2 => fX11_takes_34 s0 s1 s2 h) st) xs) (kT := fun _ _ _ => none) (kR := kRI)
    (fun xs h st q => jm [0, 0, 0, 0, 0, 0] _ (fun q => apS_ok [1, 1, 1] _ (fun st => Ev (d + 1) none mX11_takes (0, 0) 34 [.null, .null, .null, .null, .null, .null] st h (QI z)) st (fun s0 s1 s2 q => tX11_takes_34 s0 s1 s2 h q) q) q)
    (fun _ _ _ q => nos q)
    kRI_ok (Or.inr rfl) (by decide +kernel) (by decide +kernel) hf
def wX11_takes_26 : List En := [(.iload 4, 0, 0, 0), (.ifCond .eq 12, 40, 0, 0)]
def fX11_takes_26 (v1 : Int32) (v2 : Int32) (v3 : Int32) (v4 : Int32) (h : aH) : Option (Int32 × aH) :=
  if v4 = 0 then fX11_takes_40 v1 v2 v3 h else fX11_takes_31 v1 v2 v3 h
theorem tX11_takes_26 {d : Nat} {z : Int32 × aH} (v1 : Int32) (v2 : Int32) (v3 : Int32) (v4 : Int32) (h : aH) (hf : fX11_takes_26 v1 v2 v3 v4 h = some z) : Ev (d + 1) none mX11_takes (0, 0) 26 [.null, .int v1, .int v2, .int v3, .int v4, .null] [] h (QI z) := 
  go_ok (X := none) (blk := wX11_takes_26) (np := 31) (tt := 40) (kN := fun xs h st => app [0, 1, 1, 1, 0, 0] (fun v1 v2 v3 => apS [] (fX11_takes_31 v1 v2 v3 h) st) xs) (kT := fun xs h st => app [0, 1, 1, 1, 0, 0] (fun v1 v2 v3 => apS [] (fX11_takes_40 v1 v2 v3 h) st) xs) (kR := kRI)
    (fun xs h st q => jm [0, 1, 1, 1, 0, 0] _ (fun v1 v2 v3 q => apS_ok [] _ (fun st => Ev (d + 1) none mX11_takes (0, 0) 31 [.null, .int v1, .int v2, .int v3, .null, .null] st h (QI z)) st (fun q => tX11_takes_31 v1 v2 v3 h q) q) q)
    (fun xs h st q => jm [0, 1, 1, 1, 0, 0] _ (fun v1 v2 v3 q => apS_ok [] _ (fun st => Ev (d + 1) none mX11_takes (0, 0) 40 [.null, .int v1, .int v2, .int v3, .null, .null] st h (QI z)) st (fun q => tX11_takes_40 v1 v2 v3 h q) q) q)
    kRI_ok (Or.inr rfl) (by decide +kernel) (by decide +kernel) hf
def wX11_takes_19 : List En := [(.istore 5, 0, 0, 0), (.iload 5, 0, 0, 0), (.ifCond .ne 24, 47, 0, 0)]
def fX11_takes_19 (v0 : Nat) (v1 : Int32) (v2 : Int32) (v3 : Int32) (v4 : Int32) (s0 : Int32) (h : aH) : Option (Int32 × aH) :=
  if s0 = 0 then fX11_takes_26 v1 v2 v3 v4 h else fX11_takes_47 v0 s0 h
theorem tX11_takes_19 {d : Nat} {z : Int32 × aH} (v0 : Nat) (v1 : Int32) (v2 : Int32) (v3 : Int32) (v4 : Int32) (s0 : Int32) (h : aH) (hf : fX11_takes_19 v0 v1 v2 v3 v4 s0 h = some z) : Ev (d + 1) none mX11_takes (0, 0) 19 [.ref v0, .int v1, .int v2, .int v3, .int v4, .null] [.int s0] h (QI z) := 
  go_ok (X := none) (blk := wX11_takes_19) (np := 26) (tt := 47) (kN := fun xs h st => app [0, 1, 1, 1, 1, 0] (fun v1 v2 v3 v4 => apS [] (fX11_takes_26 v1 v2 v3 v4 h) st) xs) (kT := fun xs h st => app [2, 0, 0, 0, 0, 1] (fun v0 v5 => apS [] (fX11_takes_47 v0 v5 h) st) xs) (kR := kRI)
    (fun xs h st q => jm [0, 1, 1, 1, 1, 0] _ (fun v1 v2 v3 v4 q => apS_ok [] _ (fun st => Ev (d + 1) none mX11_takes (0, 0) 26 [.null, .int v1, .int v2, .int v3, .int v4, .null] st h (QI z)) st (fun q => tX11_takes_26 v1 v2 v3 v4 h q) q) q)
    (fun xs h st q => jm [2, 0, 0, 0, 0, 1] _ (fun v0 v5 q => apS_ok [] _ (fun st => Ev (d + 1) none mX11_takes (0, 0) 47 [.ref v0, .null, .null, .null, .null, .int v5] st h (QI z)) st (fun q => tX11_takes_47 v0 v5 h q) q) q)
    kRI_ok (Or.inr rfl) (by decide +kernel) (by decide +kernel) hf
theorem kqX11_takes_16 : okC mX11_takes 16 (.invokevirtual 241) 235 252 0 2 = true := by decide +kernel
def fX11_takes_16 (v0 : Nat) (v1 : Int32) (v2 : Int32) (v3 : Int32) (v4 : Int32) (s0 : Int32) (s1 : Int32) (s2 : Nat) (h : aH) : Option (Int32 × aH) :=
  (isO h 11 s2).bind fun _ =>
  (gX11_why s2 s1 s0 h).bind fun r =>
  fX11_takes_19 v0 v1 v2 v3 v4 r.1 r.2
theorem tX11_takes_16 {d : Nat} {z : Int32 × aH} (v0 : Nat) (v1 : Int32) (v2 : Int32) (v3 : Int32) (v4 : Int32) (s0 : Int32) (s1 : Int32) (s2 : Nat) (h : aH) (hf : fX11_takes_16 v0 v1 v2 v3 v4 s0 s1 s2 h = some z) : Ev (d + 1) none mX11_takes (0, 0) 16 [.ref v0, .int v1, .int v2, .int v3, .int v4, .null] [.int s0, .int s1, .ref s2] h (QI z) := by
  obtain ⟨_, h1, hf⟩ := bnd hf
  obtain ⟨fs, ho⟩ := isO_ok h1
  obtain ⟨r, h2, hf⟩ := bnd hf
  refine ev_V kqX11_takes_16 jX11_why (zX11_why (d := d + 0) h2) ho rfl rfl (Nat.le_of_ble_eq_true rfl) rfl (as := [.int s1, .int s0]) (rest := []) rfl (Nat.le_of_ble_eq_true rfl) (fun _ _ hq => ?_)
  obtain ⟨rfl, rfl⟩ := hq
  exact jm [2, 1, 1, 1, 1, 0] (fun v0 v1 v2 v3 v4 => fX11_takes_19 v0 v1 v2 v3 v4 r.1 r.2) (fun v0 v1 v2 v3 v4 q => tX11_takes_19 v0 v1 v2 v3 v4 r.1 r.2 q) hf
theorem kqX11_takes_13 : okC mX11_takes 13 (.invokestatic 140) 182 197 1 3 = true := by decide +kernel
def fX11_takes_13 (v0 : Nat) (v1 : Int32) (v2 : Int32) (v3 : Int32) (v4 : Int32) (s0 : Int32) (s1 : Int32) (s2 : Int32) (s3 : Int32) (s4 : Nat) (h : aH) : Option (Int32 × aH) :=
  (gX11_in s2 s1 s0 h).bind fun r =>
  fX11_takes_16 v0 v1 v2 v3 v4 r.1 s3 s4 r.2
theorem tX11_takes_13 {d : Nat} {z : Int32 × aH} (v0 : Nat) (v1 : Int32) (v2 : Int32) (v3 : Int32) (v4 : Int32) (s0 : Int32) (s1 : Int32) (s2 : Int32) (s3 : Int32) (s4 : Nat) (h : aH) (hf : fX11_takes_13 v0 v1 v2 v3 v4 s0 s1 s2 s3 s4 h = some z) : Ev (d + 1) none mX11_takes (0, 0) 13 [.ref v0, .int v1, .int v2, .int v3, .int v4, .null] [.int s0, .int s1, .int s2, .int s3, .ref s4] h (QI z) := by
  obtain ⟨r, h2, hf⟩ := bnd hf
  refine ev_S kqX11_takes_13 jX11_in (zX11_in (d := d + 0) h2) rfl (Nat.le_of_ble_eq_true rfl) rfl (as := [.int s2, .int s1, .int s0]) (rest := [.int s3, .ref s4]) rfl (Nat.le_of_ble_eq_true rfl) (fun _ _ hq => ?_)
  obtain ⟨-, rfl, rfl⟩ := hq
  exact jm [2, 1, 1, 1, 1, 0] (fun v0 v1 v2 v3 v4 => fX11_takes_16 v0 v1 v2 v3 v4 r.1 s3 s4 r.2) (fun v0 v1 v2 v3 v4 q => tX11_takes_16 v0 v1 v2 v3 v4 r.1 s3 s4 r.2 q) hf
def wX11_takes_4 : List En := [(.aload_n 0, 0, 0, 0), (.aload_n 0, 0, 0, 0), (.getfield 174, 189, 11, 14), (.iload_n 1, 0, 0, 0), (.iconst 0, 0, 0, 0), (.bipush 9, 0, 0, 0)]
def fX11_takes_4 (v0 : Nat) (v1 : Int32) (v2 : Int32) (v3 : Int32) (v4 : Int32) (h : aH) : Option (Int32 × aH) :=
  (gFI h 11 v0 14).bind fun t1 =>
  fX11_takes_13 v0 v1 v2 v3 v4 (kB 9) (kI 0) v1 t1 v0 h
theorem tX11_takes_4 {d : Nat} {z : Int32 × aH} (v0 : Nat) (v1 : Int32) (v2 : Int32) (v3 : Int32) (v4 : Int32) (h : aH) (hf : fX11_takes_4 v0 v1 v2 v3 v4 h = some z) : Ev (d + 1) none mX11_takes (0, 0) 4 [.ref v0, .int v1, .int v2, .int v3, .int v4, .null] [] h (QI z) := 
  go_ok (X := none) (blk := wX11_takes_4) (np := 13) (tt := 0) (kN := fun xs h st => app [2, 1, 1, 1, 1, 0] (fun v0 v1 v2 v3 v4 => apS [1, 1, 1, 1, 2] (fun s0 s1 s2 s3 s4 => fX11_takes_13 v0 v1 v2 v3 v4 s0 s1 s2 s3 s4 h) st) xs) (kT := fun _ _ _ => none) (kR := kRI)
    (fun xs h st q => jm [2, 1, 1, 1, 1, 0] _ (fun v0 v1 v2 v3 v4 q => apS_ok [1, 1, 1, 1, 2] _ (fun st => Ev (d + 1) none mX11_takes (0, 0) 13 [.ref v0, .int v1, .int v2, .int v3, .int v4, .null] st h (QI z)) st (fun s0 s1 s2 s3 s4 q => tX11_takes_13 v0 v1 v2 v3 v4 s0 s1 s2 s3 s4 h q) q) q)
    (fun _ _ _ q => nos q)
    kRI_ok (Or.inr rfl) (by decide +kernel) (by decide +kernel) hf
theorem kqX11_takes_1 : okC mX11_takes 1 (.invokevirtual 161) 181 196 0 0 = true := by decide +kernel
def fX11_takes_1 (v0 : Nat) (v1 : Int32) (v2 : Int32) (v3 : Int32) (v4 : Int32) (s0 : Nat) (h : aH) : Option (Int32 × aH) :=
  (isO h 11 s0).bind fun _ =>
  (gX11_anew s0 h).bind fun r =>
  fX11_takes_4 v0 v1 v2 v3 v4 r
theorem tX11_takes_1 {d : Nat} {z : Int32 × aH} (v0 : Nat) (v1 : Int32) (v2 : Int32) (v3 : Int32) (v4 : Int32) (s0 : Nat) (h : aH) (hf : fX11_takes_1 v0 v1 v2 v3 v4 s0 h = some z) : Ev (d + 1) none mX11_takes (0, 0) 1 [.ref v0, .int v1, .int v2, .int v3, .int v4, .null] [.ref s0] h (QI z) := by
  obtain ⟨_, h1, hf⟩ := bnd hf
  obtain ⟨fs, ho⟩ := isO_ok h1
  obtain ⟨r, h2, hf⟩ := bnd hf
  refine ev_V kqX11_takes_1 jX11_anew (zX11_anew (d := d + 0) h2) ho rfl rfl (Nat.le_of_ble_eq_true rfl) rfl (as := []) (rest := []) rfl (Nat.le_of_ble_eq_true rfl) (fun _ _ hq => ?_)
  obtain ⟨rfl, hh⟩ := hq
  rw [hh]
  exact jm [2, 1, 1, 1, 1, 0] (fun v0 v1 v2 v3 v4 => fX11_takes_4 v0 v1 v2 v3 v4 r) (fun v0 v1 v2 v3 v4 q => tX11_takes_4 v0 v1 v2 v3 v4 r q) hf
def wX11_takes_0 : List En := [(.aload_n 0, 0, 0, 0)]
def fX11_takes_0 (v0 : Nat) (v1 : Int32) (v2 : Int32) (v3 : Int32) (v4 : Int32) (h : aH) : Option (Int32 × aH) :=
  fX11_takes_1 v0 v1 v2 v3 v4 v0 h
theorem tX11_takes_0 {d : Nat} {z : Int32 × aH} (v0 : Nat) (v1 : Int32) (v2 : Int32) (v3 : Int32) (v4 : Int32) (h : aH) (hf : fX11_takes_0 v0 v1 v2 v3 v4 h = some z) : Ev (d + 1) none mX11_takes (0, 0) 0 [.ref v0, .int v1, .int v2, .int v3, .int v4, .null] [] h (QI z) := 
  go_ok (X := none) (blk := wX11_takes_0) (np := 1) (tt := 0) (kN := fun xs h st => app [2, 1, 1, 1, 1, 0] (fun v0 v1 v2 v3 v4 => apS [2] (fun s0 => fX11_takes_1 v0 v1 v2 v3 v4 s0 h) st) xs) (kT := fun _ _ _ => none) (kR := kRI)
    (fun xs h st q => jm [2, 1, 1, 1, 1, 0] _ (fun v0 v1 v2 v3 v4 q => apS_ok [2] _ (fun st => Ev (d + 1) none mX11_takes (0, 0) 1 [.ref v0, .int v1, .int v2, .int v3, .int v4, .null] st h (QI z)) st (fun s0 q => tX11_takes_1 v0 v1 v2 v3 v4 s0 h q) q) q)
    (fun _ _ _ q => nos q)
    kRI_ok (Or.inr rfl) (by decide +kernel) (by decide +kernel) hf
def gX11_takes (v0 : Nat) (v1 : Int32) (v2 : Int32) (v3 : Int32) (v4 : Int32) (h : aH) : Option (Int32 × aH) := fX11_takes_0 v0 v1 v2 v3 v4 h
theorem zX11_takes {d : Nat} {z : Int32 × aH} {v0 : Nat} {v1 : Int32} {v2 : Int32} {v3 : Int32} {v4 : Int32} {h : aH} (q : gX11_takes v0 v1 v2 v3 v4 h = some z) : CT (d + 1) mX11_takes (0, 0) [.ref v0, .int v1, .int v2, .int v3, .int v4] h (QI z) :=
  ct_ev (by decide +kernel) (Nat.le_of_ble_eq_true rfl) QI_r (jm [2, 1, 1, 1, 1, 0] (fun v0 v1 v2 v3 v4 => fX11_takes_0 v0 v1 v2 v3 v4 h) (fun v0 v1 v2 v3 v4 q => tX11_takes_0 v0 v1 v2 v3 v4 h q) q)
def wX11_seekRests_125 : List En := [(.iload_n 2, 0, 0, 0), (.ireturn, 0, 0, 0)]
def fX11_seekRests_125 (v2 : Int32) (h : aH) : Option (Int32 × aH) :=
  some (v2, h)
theorem tX11_seekRests_125 {d : Nat} {z : Int32 × aH} (v2 : Int32) (h : aH) (hf : fX11_seekRests_125 v2 h = some z) : Ev (d + 1) none mX11_seekRests (0, 0) 125 [.null, .null, .int v2, .null, .null, .null] [] h (QI z) := 
  go_ok (X := none) (blk := wX11_seekRests_125) (np := 127) (tt := 0) (kN := fun _ _ _ => none) (kT := fun _ _ _ => none) (kR := kRI)
    (fun _ _ _ q => nos q)
    (fun _ _ _ q => nos q)
    kRI_ok (Or.inr rfl) (by decide +kernel) (by decide +kernel) hf
def wX11_seekRests_119 : List En := [(.iinc 3 1, 0, 0, 0), (.goto (-112), 10, 0, 0)]
def fX11_seekRests_119 (k10 : Nat → Int32 → Int32 → Int32 → aH → Option (Int32 × aH)) (v0 : Nat) (v1 : Int32) (v2 : Int32) (v3 : Int32) (h : aH) : Option (Int32 × aH) :=
  k10 v0 v1 v2 (v3 + kI 1) h
theorem tX11_seekRests_119 {d : Nat} {z : Int32 × aH} {k10 : Nat → Int32 → Int32 → Int32 → aH → Option (Int32 × aH)} (hk10 : ∀ (v0 : Nat) (v1 : Int32) (v2 : Int32) (v3 : Int32) (h : aH), k10 v0 v1 v2 v3 h = some z → Ev (d + 1) none mX11_seekRests (0, 0) 10 [.ref v0, .int v1, .int v2, .int v3, .null, .null] [] h (QI z)) (v0 : Nat) (v1 : Int32) (v2 : Int32) (v3 : Int32) (h : aH) (hf : fX11_seekRests_119 k10 v0 v1 v2 v3 h = some z) : Ev (d + 1) none mX11_seekRests (0, 0) 119 [.ref v0, .int v1, .int v2, .int v3, .null, .null] [] h (QI z) := 
  go_ok (X := none) (blk := wX11_seekRests_119) (np := 125) (tt := 10) (kN := fun _ _ _ => none) (kT := fun xs h st => app [2, 1, 1, 1, 0, 0] (fun v0 v1 v2 v3 => apS [] (k10 v0 v1 v2 v3 h) st) xs) (kR := kRI)
    (fun _ _ _ q => nos q)
    (fun xs h st q => jm [2, 1, 1, 1, 0, 0] _ (fun v0 v1 v2 v3 q => apS_ok [] _ (fun st => Ev (d + 1) none mX11_seekRests (0, 0) 10 [.ref v0, .int v1, .int v2, .int v3, .null, .null] st h (QI z)) st (fun q => hk10 v0 v1 v2 v3 h q) q) q)
    kRI_ok (Or.inr rfl) (by decide +kernel) (by decide +kernel) hf
def wX11_seekRests_116 : List En := [(.iinc 2 1, 0, 0, 0)]
def fX11_seekRests_116 (k10 : Nat → Int32 → Int32 → Int32 → aH → Option (Int32 × aH)) (v0 : Nat) (v1 : Int32) (v2 : Int32) (v3 : Int32) (h : aH) : Option (Int32 × aH) :=
  fX11_seekRests_119 k10 v0 v1 (v2 + kI 1) v3 h
theorem tX11_seekRests_116 {d : Nat} {z : Int32 × aH} {k10 : Nat → Int32 → Int32 → Int32 → aH → Option (Int32 × aH)} (hk10 : ∀ (v0 : Nat) (v1 : Int32) (v2 : Int32) (v3 : Int32) (h : aH), k10 v0 v1 v2 v3 h = some z → Ev (d + 1) none mX11_seekRests (0, 0) 10 [.ref v0, .int v1, .int v2, .int v3, .null, .null] [] h (QI z)) (v0 : Nat) (v1 : Int32) (v2 : Int32) (v3 : Int32) (h : aH) (hf : fX11_seekRests_116 k10 v0 v1 v2 v3 h = some z) : Ev (d + 1) none mX11_seekRests (0, 0) 116 [.ref v0, .int v1, .int v2, .int v3, .null, .null] [] h (QI z) := 
  go_ok (X := none) (blk := wX11_seekRests_116) (np := 119) (tt := 0) (kN := fun xs h st => app [2, 1, 1, 1, 0, 0] (fun v0 v1 v2 v3 => apS [] (fX11_seekRests_119 k10 v0 v1 v2 v3 h) st) xs) (kT := fun _ _ _ => none) (kR := kRI)
    (fun xs h st q => jm [2, 1, 1, 1, 0, 0] _ (fun v0 v1 v2 v3 q => apS_ok [] _ (fun st => Ev (d + 1) none mX11_seekRests (0, 0) 119 [.ref v0, .int v1, .int v2, .int v3, .null, .null] st h (QI z)) st (fun q => tX11_seekRests_119 hk10 v0 v1 v2 v3 h q) q) q)
    (fun _ _ _ q => nos q)
    kRI_ok (Or.inr rfl) (by decide +kernel) (by decide +kernel) hf
def wX11_seekRests_102 : List En := [(.aload_n 0, 0, 0, 0), (.bipush 10, 0, 0, 0), (.iload_n 3, 0, 0, 0), (.iconst 2, 0, 0, 0), (.idiv, 0, 0, 0), (.imul, 0, 0, 0), (.iload_n 3, 0, 0, 0), (.iconst 2, 0, 0, 0), (.irem, 0, 0, 0), (.iadd, 0, 0, 0), (.putfield 382, 215, 11, 40)]
def fX11_seekRests_102 (k10 : Nat → Int32 → Int32 → Int32 → aH → Option (Int32 × aH)) (v0 : Nat) (v1 : Int32) (v2 : Int32) (v3 : Int32) (h : aH) : Option (Int32 × aH) :=
  if (kI 2) = 0 then none else
  if (kI 2) = 0 then none else
  (pWV h 11 v0 40 (.int (((kB 10) * (v3 / (kI 2))) + (v3 - v3 / (kI 2) * (kI 2))))).bind fun h1 =>
  fX11_seekRests_116 k10 v0 v1 v2 v3 h1
theorem tX11_seekRests_102 {d : Nat} {z : Int32 × aH} {k10 : Nat → Int32 → Int32 → Int32 → aH → Option (Int32 × aH)} (hk10 : ∀ (v0 : Nat) (v1 : Int32) (v2 : Int32) (v3 : Int32) (h : aH), k10 v0 v1 v2 v3 h = some z → Ev (d + 1) none mX11_seekRests (0, 0) 10 [.ref v0, .int v1, .int v2, .int v3, .null, .null] [] h (QI z)) (v0 : Nat) (v1 : Int32) (v2 : Int32) (v3 : Int32) (h : aH) (hf : fX11_seekRests_102 k10 v0 v1 v2 v3 h = some z) : Ev (d + 1) none mX11_seekRests (0, 0) 102 [.ref v0, .int v1, .int v2, .int v3, .null, .null] [] h (QI z) := 
  go_ok (X := none) (blk := wX11_seekRests_102) (np := 116) (tt := 0) (kN := fun xs h st => app [2, 1, 1, 1, 0, 0] (fun v0 v1 v2 v3 => apS [] (fX11_seekRests_116 k10 v0 v1 v2 v3 h) st) xs) (kT := fun _ _ _ => none) (kR := kRI)
    (fun xs h st q => jm [2, 1, 1, 1, 0, 0] _ (fun v0 v1 v2 v3 q => apS_ok [] _ (fun st => Ev (d + 1) none mX11_seekRests (0, 0) 116 [.ref v0, .int v1, .int v2, .int v3, .null, .null] st h (QI z)) st (fun q => tX11_seekRests_116 hk10 v0 v1 v2 v3 h q) q) q)
    (fun _ _ _ q => nos q)
    kRI_ok (Or.inr rfl) (by decide +kernel) (by decide +kernel) hf
def wX11_seekRests_98 : List En := [(.iload_n 2, 0, 0, 0), (.ifCond .ne 17, 116, 0, 0)]
def fX11_seekRests_98 (k10 : Nat → Int32 → Int32 → Int32 → aH → Option (Int32 × aH)) (v0 : Nat) (v1 : Int32) (v2 : Int32) (v3 : Int32) (h : aH) : Option (Int32 × aH) :=
  if v2 = 0 then fX11_seekRests_102 k10 v0 v1 v2 v3 h else fX11_seekRests_116 k10 v0 v1 v2 v3 h
theorem tX11_seekRests_98 {d : Nat} {z : Int32 × aH} {k10 : Nat → Int32 → Int32 → Int32 → aH → Option (Int32 × aH)} (hk10 : ∀ (v0 : Nat) (v1 : Int32) (v2 : Int32) (v3 : Int32) (h : aH), k10 v0 v1 v2 v3 h = some z → Ev (d + 1) none mX11_seekRests (0, 0) 10 [.ref v0, .int v1, .int v2, .int v3, .null, .null] [] h (QI z)) (v0 : Nat) (v1 : Int32) (v2 : Int32) (v3 : Int32) (h : aH) (hf : fX11_seekRests_98 k10 v0 v1 v2 v3 h = some z) : Ev (d + 1) none mX11_seekRests (0, 0) 98 [.ref v0, .int v1, .int v2, .int v3, .null, .null] [] h (QI z) := 
  go_ok (X := none) (blk := wX11_seekRests_98) (np := 102) (tt := 116) (kN := fun xs h st => app [2, 1, 1, 1, 0, 0] (fun v0 v1 v2 v3 => apS [] (fX11_seekRests_102 k10 v0 v1 v2 v3 h) st) xs) (kT := fun xs h st => app [2, 1, 1, 1, 0, 0] (fun v0 v1 v2 v3 => apS [] (fX11_seekRests_116 k10 v0 v1 v2 v3 h) st) xs) (kR := kRI)
    (fun xs h st q => jm [2, 1, 1, 1, 0, 0] _ (fun v0 v1 v2 v3 q => apS_ok [] _ (fun st => Ev (d + 1) none mX11_seekRests (0, 0) 102 [.ref v0, .int v1, .int v2, .int v3, .null, .null] st h (QI z)) st (fun q => tX11_seekRests_102 hk10 v0 v1 v2 v3 h q) q) q)
    (fun xs h st q => jm [2, 1, 1, 1, 0, 0] _ (fun v0 v1 v2 v3 q => apS_ok [] _ (fun st => Ev (d + 1) none mX11_seekRests (0, 0) 116 [.ref v0, .int v1, .int v2, .int v3, .null, .null] st h (QI z)) st (fun q => tX11_seekRests_116 hk10 v0 v1 v2 v3 h q) q) q)
    kRI_ok (Or.inr rfl) (by decide +kernel) (by decide +kernel) hf
def wX11_seekRests_95 : List En := [(.goto 24, 119, 0, 0)]
def fX11_seekRests_95 (k10 : Nat → Int32 → Int32 → Int32 → aH → Option (Int32 × aH)) (v0 : Nat) (v1 : Int32) (v2 : Int32) (v3 : Int32) (h : aH) : Option (Int32 × aH) :=
  fX11_seekRests_119 k10 v0 v1 v2 v3 h
theorem tX11_seekRests_95 {d : Nat} {z : Int32 × aH} {k10 : Nat → Int32 → Int32 → Int32 → aH → Option (Int32 × aH)} (hk10 : ∀ (v0 : Nat) (v1 : Int32) (v2 : Int32) (v3 : Int32) (h : aH), k10 v0 v1 v2 v3 h = some z → Ev (d + 1) none mX11_seekRests (0, 0) 10 [.ref v0, .int v1, .int v2, .int v3, .null, .null] [] h (QI z)) (v0 : Nat) (v1 : Int32) (v2 : Int32) (v3 : Int32) (h : aH) (hf : fX11_seekRests_95 k10 v0 v1 v2 v3 h = some z) : Ev (d + 1) none mX11_seekRests (0, 0) 95 [.ref v0, .int v1, .int v2, .int v3, .null, .null] [] h (QI z) := 
  go_ok (X := none) (blk := wX11_seekRests_95) (np := 98) (tt := 119) (kN := fun _ _ _ => none) (kT := fun xs h st => app [2, 1, 1, 1, 0, 0] (fun v0 v1 v2 v3 => apS [] (fX11_seekRests_119 k10 v0 v1 v2 v3 h) st) xs) (kR := kRI)
    (fun _ _ _ q => nos q)
    (fun xs h st q => jm [2, 1, 1, 1, 0, 0] _ (fun v0 v1 v2 v3 q => apS_ok [] _ (fun st => Ev (d + 1) none mX11_seekRests (0, 0) 119 [.ref v0, .int v1, .int v2, .int v3, .null, .null] st h (QI z)) st (fun q => tX11_seekRests_119 hk10 v0 v1 v2 v3 h q) q) q)
    kRI_ok (Or.inr rfl) (by decide +kernel) (by decide +kernel) hf
def wX11_seekRests_92 : List En := [(.if_icmp .le 6, 98, 0, 0)]
def fX11_seekRests_92 (k10 : Nat → Int32 → Int32 → Int32 → aH → Option (Int32 × aH)) (v0 : Nat) (v1 : Int32) (v2 : Int32) (v3 : Int32) (s0 : Int32) (s1 : Int32) (h : aH) : Option (Int32 × aH) :=
  if s0 < s1 then fX11_seekRests_95 k10 v0 v1 v2 v3 h else fX11_seekRests_98 k10 v0 v1 v2 v3 h
theorem tX11_seekRests_92 {d : Nat} {z : Int32 × aH} {k10 : Nat → Int32 → Int32 → Int32 → aH → Option (Int32 × aH)} (hk10 : ∀ (v0 : Nat) (v1 : Int32) (v2 : Int32) (v3 : Int32) (h : aH), k10 v0 v1 v2 v3 h = some z → Ev (d + 1) none mX11_seekRests (0, 0) 10 [.ref v0, .int v1, .int v2, .int v3, .null, .null] [] h (QI z)) (v0 : Nat) (v1 : Int32) (v2 : Int32) (v3 : Int32) (s0 : Int32) (s1 : Int32) (h : aH) (hf : fX11_seekRests_92 k10 v0 v1 v2 v3 s0 s1 h = some z) : Ev (d + 1) none mX11_seekRests (0, 0) 92 [.ref v0, .int v1, .int v2, .int v3, .null, .null] [.int s0, .int s1] h (QI z) := 
  go_ok (X := none) (blk := wX11_seekRests_92) (np := 95) (tt := 98) (kN := fun xs h st => app [2, 1, 1, 1, 0, 0] (fun v0 v1 v2 v3 => apS [] (fX11_seekRests_95 k10 v0 v1 v2 v3 h) st) xs) (kT := fun xs h st => app [2, 1, 1, 1, 0, 0] (fun v0 v1 v2 v3 => apS [] (fX11_seekRests_98 k10 v0 v1 v2 v3 h) st) xs) (kR := kRI)
    (fun xs h st q => jm [2, 1, 1, 1, 0, 0] _ (fun v0 v1 v2 v3 q => apS_ok [] _ (fun st => Ev (d + 1) none mX11_seekRests (0, 0) 95 [.ref v0, .int v1, .int v2, .int v3, .null, .null] st h (QI z)) st (fun q => tX11_seekRests_95 hk10 v0 v1 v2 v3 h q) q) q)
    (fun xs h st q => jm [2, 1, 1, 1, 0, 0] _ (fun v0 v1 v2 v3 q => apS_ok [] _ (fun st => Ev (d + 1) none mX11_seekRests (0, 0) 98 [.ref v0, .int v1, .int v2, .int v3, .null, .null] st h (QI z)) st (fun q => tX11_seekRests_98 hk10 v0 v1 v2 v3 h q) q) q)
    kRI_ok (Or.inr rfl) (by decide +kernel) (by decide +kernel) hf
theorem kqX11_seekRests_89 : okC mX11_seekRests 89 (.invokestatic 378) 281 298 1 3 = true := by decide +kernel
def fX11_seekRests_89 (k10 : Nat → Int32 → Int32 → Int32 → aH → Option (Int32 × aH)) (v0 : Nat) (v1 : Int32) (v2 : Int32) (v3 : Int32) (s0 : Int32) (s1 : Int32) (s2 : Int32) (s3 : Int32) (h : aH) : Option (Int32 × aH) :=
  (gX11_takesOf s2 s1 s0 h).bind fun r =>
  fX11_seekRests_92 k10 v0 v1 v2 v3 r.1 s3 r.2
theorem tX11_seekRests_89 {d : Nat} {z : Int32 × aH} {k10 : Nat → Int32 → Int32 → Int32 → aH → Option (Int32 × aH)} (hk10 : ∀ (v0 : Nat) (v1 : Int32) (v2 : Int32) (v3 : Int32) (h : aH), k10 v0 v1 v2 v3 h = some z → Ev (d + 1) none mX11_seekRests (0, 0) 10 [.ref v0, .int v1, .int v2, .int v3, .null, .null] [] h (QI z)) (v0 : Nat) (v1 : Int32) (v2 : Int32) (v3 : Int32) (s0 : Int32) (s1 : Int32) (s2 : Int32) (s3 : Int32) (h : aH) (hf : fX11_seekRests_89 k10 v0 v1 v2 v3 s0 s1 s2 s3 h = some z) : Ev (d + 1) none mX11_seekRests (0, 0) 89 [.ref v0, .int v1, .int v2, .int v3, .null, .null] [.int s0, .int s1, .int s2, .int s3] h (QI z) := by
  obtain ⟨r, h2, hf⟩ := bnd hf
  refine ev_S kqX11_seekRests_89 jX11_takesOf (zX11_takesOf (d := d + 0) h2) rfl (Nat.le_of_ble_eq_true rfl) rfl (as := [.int s2, .int s1, .int s0]) (rest := [.int s3]) rfl (Nat.le_of_ble_eq_true rfl) (fun _ _ hq => ?_)
  obtain ⟨rfl, rfl⟩ := hq
  exact jm [2, 1, 1, 1, 0, 0] (fun v0 v1 v2 v3 => fX11_seekRests_92 k10 v0 v1 v2 v3 r.1 s3 r.2) (fun v0 v1 v2 v3 q => tX11_seekRests_92 hk10 v0 v1 v2 v3 r.1 s3 r.2 q) hf
def wX11_seekRests_84 : List En := [(.iload_n 1, 0, 0, 0), (.iload 5, 0, 0, 0), (.iload 4, 0, 0, 0)]
def fX11_seekRests_84 (k10 : Nat → Int32 → Int32 → Int32 → aH → Option (Int32 × aH)) (v0 : Nat) (v1 : Int32) (v2 : Int32) (v3 : Int32) (v4 : Int32) (v5 : Int32) (s0 : Int32) (h : aH) : Option (Int32 × aH) :=
  fX11_seekRests_89 k10 v0 v1 v2 v3 v4 v5 v1 s0 h
theorem tX11_seekRests_84 {d : Nat} {z : Int32 × aH} {k10 : Nat → Int32 → Int32 → Int32 → aH → Option (Int32 × aH)} (hk10 : ∀ (v0 : Nat) (v1 : Int32) (v2 : Int32) (v3 : Int32) (h : aH), k10 v0 v1 v2 v3 h = some z → Ev (d + 1) none mX11_seekRests (0, 0) 10 [.ref v0, .int v1, .int v2, .int v3, .null, .null] [] h (QI z)) (v0 : Nat) (v1 : Int32) (v2 : Int32) (v3 : Int32) (v4 : Int32) (v5 : Int32) (s0 : Int32) (h : aH) (hf : fX11_seekRests_84 k10 v0 v1 v2 v3 v4 v5 s0 h = some z) : Ev (d + 1) none mX11_seekRests (0, 0) 84 [.ref v0, .int v1, .int v2, .int v3, .int v4, .int v5] [.int s0] h (QI z) := 
  go_ok (X := none) (blk := wX11_seekRests_84) (np := 89) (tt := 0) (kN := fun xs h st => app [2, 1, 1, 1, 0, 0] (fun v0 v1 v2 v3 => apS [1, 1, 1, 1] (fun s0 s1 s2 s3 => fX11_seekRests_89 k10 v0 v1 v2 v3 s0 s1 s2 s3 h) st) xs) (kT := fun _ _ _ => none) (kR := kRI)
    (fun xs h st q => jm [2, 1, 1, 1, 0, 0] _ (fun v0 v1 v2 v3 q => apS_ok [1, 1, 1, 1] _ (fun st => Ev (d + 1) none mX11_seekRests (0, 0) 89 [.ref v0, .int v1, .int v2, .int v3, .null, .null] st h (QI z)) st (fun s0 s1 s2 s3 q => tX11_seekRests_89 hk10 v0 v1 v2 v3 s0 s1 s2 s3 h q) q) q)
    (fun _ _ _ q => nos q)
    kRI_ok (Or.inr rfl) (by decide +kernel) (by decide +kernel) hf
theorem kqX11_seekRests_81 : okC mX11_seekRests 81 (.invokestatic 378) 281 298 1 3 = true := by decide +kernel
def fX11_seekRests_81 (k10 : Nat → Int32 → Int32 → Int32 → aH → Option (Int32 × aH)) (v0 : Nat) (v1 : Int32) (v2 : Int32) (v3 : Int32) (v4 : Int32) (v5 : Int32) (s0 : Int32) (s1 : Int32) (s2 : Int32) (h : aH) : Option (Int32 × aH) :=
  (gX11_takesOf s2 s1 s0 h).bind fun r =>
  fX11_seekRests_84 k10 v0 v1 v2 v3 v4 v5 r.1 r.2
theorem tX11_seekRests_81 {d : Nat} {z : Int32 × aH} {k10 : Nat → Int32 → Int32 → Int32 → aH → Option (Int32 × aH)} (hk10 : ∀ (v0 : Nat) (v1 : Int32) (v2 : Int32) (v3 : Int32) (h : aH), k10 v0 v1 v2 v3 h = some z → Ev (d + 1) none mX11_seekRests (0, 0) 10 [.ref v0, .int v1, .int v2, .int v3, .null, .null] [] h (QI z)) (v0 : Nat) (v1 : Int32) (v2 : Int32) (v3 : Int32) (v4 : Int32) (v5 : Int32) (s0 : Int32) (s1 : Int32) (s2 : Int32) (h : aH) (hf : fX11_seekRests_81 k10 v0 v1 v2 v3 v4 v5 s0 s1 s2 h = some z) : Ev (d + 1) none mX11_seekRests (0, 0) 81 [.ref v0, .int v1, .int v2, .int v3, .int v4, .int v5] [.int s0, .int s1, .int s2] h (QI z) := by
  obtain ⟨r, h2, hf⟩ := bnd hf
  refine ev_S kqX11_seekRests_81 jX11_takesOf (zX11_takesOf (d := d + 0) h2) rfl (Nat.le_of_ble_eq_true rfl) rfl (as := [.int s2, .int s1, .int s0]) (rest := []) rfl (Nat.le_of_ble_eq_true rfl) (fun _ _ hq => ?_)
  obtain ⟨rfl, rfl⟩ := hq
  exact jm [2, 1, 1, 1, 1, 1] (fun v0 v1 v2 v3 v4 v5 => fX11_seekRests_84 k10 v0 v1 v2 v3 v4 v5 r.1 r.2) (fun v0 v1 v2 v3 v4 v5 q => tX11_seekRests_84 hk10 v0 v1 v2 v3 v4 v5 r.1 r.2 q) hf
def wX11_seekRests_79 : List En := [(.iload 4, 0, 0, 0)]
def fX11_seekRests_79 (k10 : Nat → Int32 → Int32 → Int32 → aH → Option (Int32 × aH)) (v0 : Nat) (v1 : Int32) (v2 : Int32) (v3 : Int32) (v4 : Int32) (v5 : Int32) (s0 : Int32) (s1 : Int32) (h : aH) : Option (Int32 × aH) :=
  fX11_seekRests_81 k10 v0 v1 v2 v3 v4 v5 v4 s0 s1 h
theorem tX11_seekRests_79 {d : Nat} {z : Int32 × aH} {k10 : Nat → Int32 → Int32 → Int32 → aH → Option (Int32 × aH)} (hk10 : ∀ (v0 : Nat) (v1 : Int32) (v2 : Int32) (v3 : Int32) (h : aH), k10 v0 v1 v2 v3 h = some z → Ev (d + 1) none mX11_seekRests (0, 0) 10 [.ref v0, .int v1, .int v2, .int v3, .null, .null] [] h (QI z)) (v0 : Nat) (v1 : Int32) (v2 : Int32) (v3 : Int32) (v4 : Int32) (v5 : Int32) (s0 : Int32) (s1 : Int32) (h : aH) (hf : fX11_seekRests_79 k10 v0 v1 v2 v3 v4 v5 s0 s1 h = some z) : Ev (d + 1) none mX11_seekRests (0, 0) 79 [.ref v0, .int v1, .int v2, .int v3, .int v4, .int v5] [.int s0, .int s1] h (QI z) := 
  go_ok (X := none) (blk := wX11_seekRests_79) (np := 81) (tt := 0) (kN := fun xs h st => app [2, 1, 1, 1, 1, 1] (fun v0 v1 v2 v3 v4 v5 => apS [1, 1, 1] (fun s0 s1 s2 => fX11_seekRests_81 k10 v0 v1 v2 v3 v4 v5 s0 s1 s2 h) st) xs) (kT := fun _ _ _ => none) (kR := kRI)
    (fun xs h st q => jm [2, 1, 1, 1, 1, 1] _ (fun v0 v1 v2 v3 v4 v5 q => apS_ok [1, 1, 1] _ (fun st => Ev (d + 1) none mX11_seekRests (0, 0) 81 [.ref v0, .int v1, .int v2, .int v3, .int v4, .int v5] st h (QI z)) st (fun s0 s1 s2 q => tX11_seekRests_81 hk10 v0 v1 v2 v3 v4 v5 s0 s1 s2 h q) q) q)
    (fun _ _ _ q => nos q)
    kRI_ok (Or.inr rfl) (by decide +kernel) (by decide +kernel) hf
def wX11_seekRests_78 : List En := [(.iconst 0, 0, 0, 0)]
def fX11_seekRests_78 (k10 : Nat → Int32 → Int32 → Int32 → aH → Option (Int32 × aH)) (v0 : Nat) (v1 : Int32) (v2 : Int32) (v3 : Int32) (v4 : Int32) (v5 : Int32) (s0 : Int32) (h : aH) : Option (Int32 × aH) :=
  fX11_seekRests_79 k10 v0 v1 v2 v3 v4 v5 (kI 0) s0 h
theorem tX11_seekRests_78 {d : Nat} {z : Int32 × aH} {k10 : Nat → Int32 → Int32 → Int32 → aH → Option (Int32 × aH)} (hk10 : ∀ (v0 : Nat) (v1 : Int32) (v2 : Int32) (v3 : Int32) (h : aH), k10 v0 v1 v2 v3 h = some z → Ev (d + 1) none mX11_seekRests (0, 0) 10 [.ref v0, .int v1, .int v2, .int v3, .null, .null] [] h (QI z)) (v0 : Nat) (v1 : Int32) (v2 : Int32) (v3 : Int32) (v4 : Int32) (v5 : Int32) (s0 : Int32) (h : aH) (hf : fX11_seekRests_78 k10 v0 v1 v2 v3 v4 v5 s0 h = some z) : Ev (d + 1) none mX11_seekRests (0, 0) 78 [.ref v0, .int v1, .int v2, .int v3, .int v4, .int v5] [.int s0] h (QI z) := 
  go_ok (X := none) (blk := wX11_seekRests_78) (np := 79) (tt := 0) (kN := fun xs h st => app [2, 1, 1, 1, 1, 1] (fun v0 v1 v2 v3 v4 v5 => apS [1, 1] (fun s0 s1 => fX11_seekRests_79 k10 v0 v1 v2 v3 v4 v5 s0 s1 h) st) xs) (kT := fun _ _ _ => none) (kR := kRI)
    (fun xs h st q => jm [2, 1, 1, 1, 1, 1] _ (fun v0 v1 v2 v3 v4 v5 q => apS_ok [1, 1] _ (fun st => Ev (d + 1) none mX11_seekRests (0, 0) 79 [.ref v0, .int v1, .int v2, .int v3, .int v4, .int v5] st h (QI z)) st (fun s0 s1 q => tX11_seekRests_79 hk10 v0 v1 v2 v3 v4 v5 s0 s1 h q) q) q)
    (fun _ _ _ q => nos q)
    kRI_ok (Or.inr rfl) (by decide +kernel) (by decide +kernel) hf
def wX11_seekRests_74 : List En := [(.iconst 1, 0, 0, 0), (.goto 4, 79, 0, 0)]
def fX11_seekRests_74 (k10 : Nat → Int32 → Int32 → Int32 → aH → Option (Int32 × aH)) (v0 : Nat) (v1 : Int32) (v2 : Int32) (v3 : Int32) (v4 : Int32) (v5 : Int32) (s0 : Int32) (h : aH) : Option (Int32 × aH) :=
  fX11_seekRests_79 k10 v0 v1 v2 v3 v4 v5 (kI 1) s0 h
theorem tX11_seekRests_74 {d : Nat} {z : Int32 × aH} {k10 : Nat → Int32 → Int32 → Int32 → aH → Option (Int32 × aH)} (hk10 : ∀ (v0 : Nat) (v1 : Int32) (v2 : Int32) (v3 : Int32) (h : aH), k10 v0 v1 v2 v3 h = some z → Ev (d + 1) none mX11_seekRests (0, 0) 10 [.ref v0, .int v1, .int v2, .int v3, .null, .null] [] h (QI z)) (v0 : Nat) (v1 : Int32) (v2 : Int32) (v3 : Int32) (v4 : Int32) (v5 : Int32) (s0 : Int32) (h : aH) (hf : fX11_seekRests_74 k10 v0 v1 v2 v3 v4 v5 s0 h = some z) : Ev (d + 1) none mX11_seekRests (0, 0) 74 [.ref v0, .int v1, .int v2, .int v3, .int v4, .int v5] [.int s0] h (QI z) := 
  go_ok (X := none) (blk := wX11_seekRests_74) (np := 78) (tt := 79) (kN := fun _ _ _ => none) (kT := fun xs h st => app [2, 1, 1, 1, 1, 1] (fun v0 v1 v2 v3 v4 v5 => apS [1, 1] (fun s0 s1 => fX11_seekRests_79 k10 v0 v1 v2 v3 v4 v5 s0 s1 h) st) xs) (kR := kRI)
    (fun _ _ _ q => nos q)
    (fun xs h st q => jm [2, 1, 1, 1, 1, 1] _ (fun v0 v1 v2 v3 v4 v5 q => apS_ok [1, 1] _ (fun st => Ev (d + 1) none mX11_seekRests (0, 0) 79 [.ref v0, .int v1, .int v2, .int v3, .int v4, .int v5] st h (QI z)) st (fun s0 s1 q => tX11_seekRests_79 hk10 v0 v1 v2 v3 v4 v5 s0 s1 h q) q) q)
    kRI_ok (Or.inr rfl) (by decide +kernel) (by decide +kernel) hf
def wX11_seekRests_68 : List En := [(.iload_n 1, 0, 0, 0), (.iload 5, 0, 0, 0), (.ifCond .ne 7, 78, 0, 0)]
def fX11_seekRests_68 (k10 : Nat → Int32 → Int32 → Int32 → aH → Option (Int32 × aH)) (v0 : Nat) (v1 : Int32) (v2 : Int32) (v3 : Int32) (v4 : Int32) (v5 : Int32) (h : aH) : Option (Int32 × aH) :=
  if v5 = 0 then fX11_seekRests_74 k10 v0 v1 v2 v3 v4 v5 v1 h else fX11_seekRests_78 k10 v0 v1 v2 v3 v4 v5 v1 h
theorem tX11_seekRests_68 {d : Nat} {z : Int32 × aH} {k10 : Nat → Int32 → Int32 → Int32 → aH → Option (Int32 × aH)} (hk10 : ∀ (v0 : Nat) (v1 : Int32) (v2 : Int32) (v3 : Int32) (h : aH), k10 v0 v1 v2 v3 h = some z → Ev (d + 1) none mX11_seekRests (0, 0) 10 [.ref v0, .int v1, .int v2, .int v3, .null, .null] [] h (QI z)) (v0 : Nat) (v1 : Int32) (v2 : Int32) (v3 : Int32) (v4 : Int32) (v5 : Int32) (h : aH) (hf : fX11_seekRests_68 k10 v0 v1 v2 v3 v4 v5 h = some z) : Ev (d + 1) none mX11_seekRests (0, 0) 68 [.ref v0, .int v1, .int v2, .int v3, .int v4, .int v5] [] h (QI z) := 
  go_ok (X := none) (blk := wX11_seekRests_68) (np := 74) (tt := 78) (kN := fun xs h st => app [2, 1, 1, 1, 1, 1] (fun v0 v1 v2 v3 v4 v5 => apS [1] (fun s0 => fX11_seekRests_74 k10 v0 v1 v2 v3 v4 v5 s0 h) st) xs) (kT := fun xs h st => app [2, 1, 1, 1, 1, 1] (fun v0 v1 v2 v3 v4 v5 => apS [1] (fun s0 => fX11_seekRests_78 k10 v0 v1 v2 v3 v4 v5 s0 h) st) xs) (kR := kRI)
    (fun xs h st q => jm [2, 1, 1, 1, 1, 1] _ (fun v0 v1 v2 v3 v4 v5 q => apS_ok [1] _ (fun st => Ev (d + 1) none mX11_seekRests (0, 0) 74 [.ref v0, .int v1, .int v2, .int v3, .int v4, .int v5] st h (QI z)) st (fun s0 q => tX11_seekRests_74 hk10 v0 v1 v2 v3 v4 v5 s0 h q) q) q)
    (fun xs h st q => jm [2, 1, 1, 1, 1, 1] _ (fun v0 v1 v2 v3 v4 v5 q => apS_ok [1] _ (fun st => Ev (d + 1) none mX11_seekRests (0, 0) 78 [.ref v0, .int v1, .int v2, .int v3, .int v4, .int v5] st h (QI z)) st (fun s0 q => tX11_seekRests_78 hk10 v0 v1 v2 v3 v4 v5 s0 h q) q) q)
    kRI_ok (Or.inr rfl) (by decide +kernel) (by decide +kernel) hf
def wX11_seekRests_65 : List En := [(.if_icmp .gt 54, 119, 0, 0)]
def fX11_seekRests_65 (k10 : Nat → Int32 → Int32 → Int32 → aH → Option (Int32 × aH)) (v0 : Nat) (v1 : Int32) (v2 : Int32) (v3 : Int32) (v4 : Int32) (v5 : Int32) (s0 : Int32) (s1 : Int32) (h : aH) : Option (Int32 × aH) :=
  if s0 < s1 then fX11_seekRests_119 k10 v0 v1 v2 v3 h else fX11_seekRests_68 k10 v0 v1 v2 v3 v4 v5 h
theorem tX11_seekRests_65 {d : Nat} {z : Int32 × aH} {k10 : Nat → Int32 → Int32 → Int32 → aH → Option (Int32 × aH)} (hk10 : ∀ (v0 : Nat) (v1 : Int32) (v2 : Int32) (v3 : Int32) (h : aH), k10 v0 v1 v2 v3 h = some z → Ev (d + 1) none mX11_seekRests (0, 0) 10 [.ref v0, .int v1, .int v2, .int v3, .null, .null] [] h (QI z)) (v0 : Nat) (v1 : Int32) (v2 : Int32) (v3 : Int32) (v4 : Int32) (v5 : Int32) (s0 : Int32) (s1 : Int32) (h : aH) (hf : fX11_seekRests_65 k10 v0 v1 v2 v3 v4 v5 s0 s1 h = some z) : Ev (d + 1) none mX11_seekRests (0, 0) 65 [.ref v0, .int v1, .int v2, .int v3, .int v4, .int v5] [.int s0, .int s1] h (QI z) := 
  go_ok (X := none) (blk := wX11_seekRests_65) (np := 68) (tt := 119) (kN := fun xs h st => app [2, 1, 1, 1, 1, 1] (fun v0 v1 v2 v3 v4 v5 => apS [] (fX11_seekRests_68 k10 v0 v1 v2 v3 v4 v5 h) st) xs) (kT := fun xs h st => app [2, 1, 1, 1, 0, 0] (fun v0 v1 v2 v3 => apS [] (fX11_seekRests_119 k10 v0 v1 v2 v3 h) st) xs) (kR := kRI)
    (fun xs h st q => jm [2, 1, 1, 1, 1, 1] _ (fun v0 v1 v2 v3 v4 v5 q => apS_ok [] _ (fun st => Ev (d + 1) none mX11_seekRests (0, 0) 68 [.ref v0, .int v1, .int v2, .int v3, .int v4, .int v5] st h (QI z)) st (fun q => tX11_seekRests_68 hk10 v0 v1 v2 v3 v4 v5 h q) q) q)
    (fun xs h st q => jm [2, 1, 1, 1, 0, 0] _ (fun v0 v1 v2 v3 q => apS_ok [] _ (fun st => Ev (d + 1) none mX11_seekRests (0, 0) 119 [.ref v0, .int v1, .int v2, .int v3, .null, .null] st h (QI z)) st (fun q => tX11_seekRests_119 hk10 v0 v1 v2 v3 h q) q) q)
    kRI_ok (Or.inr rfl) (by decide +kernel) (by decide +kernel) hf
theorem kqX11_seekRests_62 : okC mX11_seekRests 62 (.invokestatic 378) 281 298 1 3 = true := by decide +kernel
def fX11_seekRests_62 (k10 : Nat → Int32 → Int32 → Int32 → aH → Option (Int32 × aH)) (v0 : Nat) (v1 : Int32) (v2 : Int32) (v3 : Int32) (v4 : Int32) (v5 : Int32) (s0 : Int32) (s1 : Int32) (s2 : Int32) (s3 : Int32) (h : aH) : Option (Int32 × aH) :=
  (gX11_takesOf s2 s1 s0 h).bind fun r =>
  fX11_seekRests_65 k10 v0 v1 v2 v3 v4 v5 r.1 s3 r.2
theorem tX11_seekRests_62 {d : Nat} {z : Int32 × aH} {k10 : Nat → Int32 → Int32 → Int32 → aH → Option (Int32 × aH)} (hk10 : ∀ (v0 : Nat) (v1 : Int32) (v2 : Int32) (v3 : Int32) (h : aH), k10 v0 v1 v2 v3 h = some z → Ev (d + 1) none mX11_seekRests (0, 0) 10 [.ref v0, .int v1, .int v2, .int v3, .null, .null] [] h (QI z)) (v0 : Nat) (v1 : Int32) (v2 : Int32) (v3 : Int32) (v4 : Int32) (v5 : Int32) (s0 : Int32) (s1 : Int32) (s2 : Int32) (s3 : Int32) (h : aH) (hf : fX11_seekRests_62 k10 v0 v1 v2 v3 v4 v5 s0 s1 s2 s3 h = some z) : Ev (d + 1) none mX11_seekRests (0, 0) 62 [.ref v0, .int v1, .int v2, .int v3, .int v4, .int v5] [.int s0, .int s1, .int s2, .int s3] h (QI z) := by
  obtain ⟨r, h2, hf⟩ := bnd hf
  refine ev_S kqX11_seekRests_62 jX11_takesOf (zX11_takesOf (d := d + 0) h2) rfl (Nat.le_of_ble_eq_true rfl) rfl (as := [.int s2, .int s1, .int s0]) (rest := [.int s3]) rfl (Nat.le_of_ble_eq_true rfl) (fun _ _ hq => ?_)
  obtain ⟨rfl, rfl⟩ := hq
  exact jm [2, 1, 1, 1, 1, 1] (fun v0 v1 v2 v3 v4 v5 => fX11_seekRests_65 k10 v0 v1 v2 v3 v4 v5 r.1 s3 r.2) (fun v0 v1 v2 v3 v4 v5 q => tX11_seekRests_65 hk10 v0 v1 v2 v3 v4 v5 r.1 s3 r.2 q) hf
def wX11_seekRests_57 : List En := [(.iload_n 1, 0, 0, 0), (.iload 4, 0, 0, 0), (.iload 5, 0, 0, 0)]
def fX11_seekRests_57 (k10 : Nat → Int32 → Int32 → Int32 → aH → Option (Int32 × aH)) (v0 : Nat) (v1 : Int32) (v2 : Int32) (v3 : Int32) (v4 : Int32) (v5 : Int32) (s0 : Int32) (h : aH) : Option (Int32 × aH) :=
  fX11_seekRests_62 k10 v0 v1 v2 v3 v4 v5 v5 v4 v1 s0 h
theorem tX11_seekRests_57 {d : Nat} {z : Int32 × aH} {k10 : Nat → Int32 → Int32 → Int32 → aH → Option (Int32 × aH)} (hk10 : ∀ (v0 : Nat) (v1 : Int32) (v2 : Int32) (v3 : Int32) (h : aH), k10 v0 v1 v2 v3 h = some z → Ev (d + 1) none mX11_seekRests (0, 0) 10 [.ref v0, .int v1, .int v2, .int v3, .null, .null] [] h (QI z)) (v0 : Nat) (v1 : Int32) (v2 : Int32) (v3 : Int32) (v4 : Int32) (v5 : Int32) (s0 : Int32) (h : aH) (hf : fX11_seekRests_57 k10 v0 v1 v2 v3 v4 v5 s0 h = some z) : Ev (d + 1) none mX11_seekRests (0, 0) 57 [.ref v0, .int v1, .int v2, .int v3, .int v4, .int v5] [.int s0] h (QI z) := 
  go_ok (X := none) (blk := wX11_seekRests_57) (np := 62) (tt := 0) (kN := fun xs h st => app [2, 1, 1, 1, 1, 1] (fun v0 v1 v2 v3 v4 v5 => apS [1, 1, 1, 1] (fun s0 s1 s2 s3 => fX11_seekRests_62 k10 v0 v1 v2 v3 v4 v5 s0 s1 s2 s3 h) st) xs) (kT := fun _ _ _ => none) (kR := kRI)
    (fun xs h st q => jm [2, 1, 1, 1, 1, 1] _ (fun v0 v1 v2 v3 v4 v5 q => apS_ok [1, 1, 1, 1] _ (fun st => Ev (d + 1) none mX11_seekRests (0, 0) 62 [.ref v0, .int v1, .int v2, .int v3, .int v4, .int v5] st h (QI z)) st (fun s0 s1 s2 s3 q => tX11_seekRests_62 hk10 v0 v1 v2 v3 v4 v5 s0 s1 s2 s3 h q) q) q)
    (fun _ _ _ q => nos q)
    kRI_ok (Or.inr rfl) (by decide +kernel) (by decide +kernel) hf
theorem kqX11_seekRests_54 : okC mX11_seekRests 54 (.invokestatic 378) 281 298 1 3 = true := by decide +kernel
def fX11_seekRests_54 (k10 : Nat → Int32 → Int32 → Int32 → aH → Option (Int32 × aH)) (v0 : Nat) (v1 : Int32) (v2 : Int32) (v3 : Int32) (v4 : Int32) (v5 : Int32) (s0 : Int32) (s1 : Int32) (s2 : Int32) (h : aH) : Option (Int32 × aH) :=
  (gX11_takesOf s2 s1 s0 h).bind fun r =>
  fX11_seekRests_57 k10 v0 v1 v2 v3 v4 v5 r.1 r.2
theorem tX11_seekRests_54 {d : Nat} {z : Int32 × aH} {k10 : Nat → Int32 → Int32 → Int32 → aH → Option (Int32 × aH)} (hk10 : ∀ (v0 : Nat) (v1 : Int32) (v2 : Int32) (v3 : Int32) (h : aH), k10 v0 v1 v2 v3 h = some z → Ev (d + 1) none mX11_seekRests (0, 0) 10 [.ref v0, .int v1, .int v2, .int v3, .null, .null] [] h (QI z)) (v0 : Nat) (v1 : Int32) (v2 : Int32) (v3 : Int32) (v4 : Int32) (v5 : Int32) (s0 : Int32) (s1 : Int32) (s2 : Int32) (h : aH) (hf : fX11_seekRests_54 k10 v0 v1 v2 v3 v4 v5 s0 s1 s2 h = some z) : Ev (d + 1) none mX11_seekRests (0, 0) 54 [.ref v0, .int v1, .int v2, .int v3, .int v4, .int v5] [.int s0, .int s1, .int s2] h (QI z) := by
  obtain ⟨r, h2, hf⟩ := bnd hf
  refine ev_S kqX11_seekRests_54 jX11_takesOf (zX11_takesOf (d := d + 0) h2) rfl (Nat.le_of_ble_eq_true rfl) rfl (as := [.int s2, .int s1, .int s0]) (rest := []) rfl (Nat.le_of_ble_eq_true rfl) (fun _ _ hq => ?_)
  obtain ⟨rfl, rfl⟩ := hq
  exact jm [2, 1, 1, 1, 1, 1] (fun v0 v1 v2 v3 v4 v5 => fX11_seekRests_57 k10 v0 v1 v2 v3 v4 v5 r.1 r.2) (fun v0 v1 v2 v3 v4 v5 q => tX11_seekRests_57 hk10 v0 v1 v2 v3 v4 v5 r.1 r.2 q) hf
def wX11_seekRests_52 : List En := [(.iload 5, 0, 0, 0)]
def fX11_seekRests_52 (k10 : Nat → Int32 → Int32 → Int32 → aH → Option (Int32 × aH)) (v0 : Nat) (v1 : Int32) (v2 : Int32) (v3 : Int32) (v4 : Int32) (v5 : Int32) (s0 : Int32) (s1 : Int32) (h : aH) : Option (Int32 × aH) :=
  fX11_seekRests_54 k10 v0 v1 v2 v3 v4 v5 v5 s0 s1 h
theorem tX11_seekRests_52 {d : Nat} {z : Int32 × aH} {k10 : Nat → Int32 → Int32 → Int32 → aH → Option (Int32 × aH)} (hk10 : ∀ (v0 : Nat) (v1 : Int32) (v2 : Int32) (v3 : Int32) (h : aH), k10 v0 v1 v2 v3 h = some z → Ev (d + 1) none mX11_seekRests (0, 0) 10 [.ref v0, .int v1, .int v2, .int v3, .null, .null] [] h (QI z)) (v0 : Nat) (v1 : Int32) (v2 : Int32) (v3 : Int32) (v4 : Int32) (v5 : Int32) (s0 : Int32) (s1 : Int32) (h : aH) (hf : fX11_seekRests_52 k10 v0 v1 v2 v3 v4 v5 s0 s1 h = some z) : Ev (d + 1) none mX11_seekRests (0, 0) 52 [.ref v0, .int v1, .int v2, .int v3, .int v4, .int v5] [.int s0, .int s1] h (QI z) := 
  go_ok (X := none) (blk := wX11_seekRests_52) (np := 54) (tt := 0) (kN := fun xs h st => app [2, 1, 1, 1, 1, 1] (fun v0 v1 v2 v3 v4 v5 => apS [1, 1, 1] (fun s0 s1 s2 => fX11_seekRests_54 k10 v0 v1 v2 v3 v4 v5 s0 s1 s2 h) st) xs) (kT := fun _ _ _ => none) (kR := kRI)
    (fun xs h st q => jm [2, 1, 1, 1, 1, 1] _ (fun v0 v1 v2 v3 v4 v5 q => apS_ok [1, 1, 1] _ (fun st => Ev (d + 1) none mX11_seekRests (0, 0) 54 [.ref v0, .int v1, .int v2, .int v3, .int v4, .int v5] st h (QI z)) st (fun s0 s1 s2 q => tX11_seekRests_54 hk10 v0 v1 v2 v3 v4 v5 s0 s1 s2 h q) q) q)
    (fun _ _ _ q => nos q)
    kRI_ok (Or.inr rfl) (by decide +kernel) (by decide +kernel) hf
def wX11_seekRests_51 : List En := [(.iconst 0, 0, 0, 0)]
def fX11_seekRests_51 (k10 : Nat → Int32 → Int32 → Int32 → aH → Option (Int32 × aH)) (v0 : Nat) (v1 : Int32) (v2 : Int32) (v3 : Int32) (v4 : Int32) (v5 : Int32) (s0 : Int32) (h : aH) : Option (Int32 × aH) :=
  fX11_seekRests_52 k10 v0 v1 v2 v3 v4 v5 (kI 0) s0 h
theorem tX11_seekRests_51 {d : Nat} {z : Int32 × aH} {k10 : Nat → Int32 → Int32 → Int32 → aH → Option (Int32 × aH)} (hk10 : ∀ (v0 : Nat) (v1 : Int32) (v2 : Int32) (v3 : Int32) (h : aH), k10 v0 v1 v2 v3 h = some z → Ev (d + 1) none mX11_seekRests (0, 0) 10 [.ref v0, .int v1, .int v2, .int v3, .null, .null] [] h (QI z)) (v0 : Nat) (v1 : Int32) (v2 : Int32) (v3 : Int32) (v4 : Int32) (v5 : Int32) (s0 : Int32) (h : aH) (hf : fX11_seekRests_51 k10 v0 v1 v2 v3 v4 v5 s0 h = some z) : Ev (d + 1) none mX11_seekRests (0, 0) 51 [.ref v0, .int v1, .int v2, .int v3, .int v4, .int v5] [.int s0] h (QI z) := 
  go_ok (X := none) (blk := wX11_seekRests_51) (np := 52) (tt := 0) (kN := fun xs h st => app [2, 1, 1, 1, 1, 1] (fun v0 v1 v2 v3 v4 v5 => apS [1, 1] (fun s0 s1 => fX11_seekRests_52 k10 v0 v1 v2 v3 v4 v5 s0 s1 h) st) xs) (kT := fun _ _ _ => none) (kR := kRI)
    (fun xs h st q => jm [2, 1, 1, 1, 1, 1] _ (fun v0 v1 v2 v3 v4 v5 q => apS_ok [1, 1] _ (fun st => Ev (d + 1) none mX11_seekRests (0, 0) 52 [.ref v0, .int v1, .int v2, .int v3, .int v4, .int v5] st h (QI z)) st (fun s0 s1 q => tX11_seekRests_52 hk10 v0 v1 v2 v3 v4 v5 s0 s1 h q) q) q)
    (fun _ _ _ q => nos q)
    kRI_ok (Or.inr rfl) (by decide +kernel) (by decide +kernel) hf
def wX11_seekRests_47 : List En := [(.iconst 1, 0, 0, 0), (.goto 4, 52, 0, 0)]
def fX11_seekRests_47 (k10 : Nat → Int32 → Int32 → Int32 → aH → Option (Int32 × aH)) (v0 : Nat) (v1 : Int32) (v2 : Int32) (v3 : Int32) (v4 : Int32) (v5 : Int32) (s0 : Int32) (h : aH) : Option (Int32 × aH) :=
  fX11_seekRests_52 k10 v0 v1 v2 v3 v4 v5 (kI 1) s0 h
theorem tX11_seekRests_47 {d : Nat} {z : Int32 × aH} {k10 : Nat → Int32 → Int32 → Int32 → aH → Option (Int32 × aH)} (hk10 : ∀ (v0 : Nat) (v1 : Int32) (v2 : Int32) (v3 : Int32) (h : aH), k10 v0 v1 v2 v3 h = some z → Ev (d + 1) none mX11_seekRests (0, 0) 10 [.ref v0, .int v1, .int v2, .int v3, .null, .null] [] h (QI z)) (v0 : Nat) (v1 : Int32) (v2 : Int32) (v3 : Int32) (v4 : Int32) (v5 : Int32) (s0 : Int32) (h : aH) (hf : fX11_seekRests_47 k10 v0 v1 v2 v3 v4 v5 s0 h = some z) : Ev (d + 1) none mX11_seekRests (0, 0) 47 [.ref v0, .int v1, .int v2, .int v3, .int v4, .int v5] [.int s0] h (QI z) := 
  go_ok (X := none) (blk := wX11_seekRests_47) (np := 51) (tt := 52) (kN := fun _ _ _ => none) (kT := fun xs h st => app [2, 1, 1, 1, 1, 1] (fun v0 v1 v2 v3 v4 v5 => apS [1, 1] (fun s0 s1 => fX11_seekRests_52 k10 v0 v1 v2 v3 v4 v5 s0 s1 h) st) xs) (kR := kRI)
    (fun _ _ _ q => nos q)
    (fun xs h st q => jm [2, 1, 1, 1, 1, 1] _ (fun v0 v1 v2 v3 v4 v5 q => apS_ok [1, 1] _ (fun st => Ev (d + 1) none mX11_seekRests (0, 0) 52 [.ref v0, .int v1, .int v2, .int v3, .int v4, .int v5] st h (QI z)) st (fun s0 s1 q => tX11_seekRests_52 hk10 v0 v1 v2 v3 v4 v5 s0 s1 h q) q) q)
    kRI_ok (Or.inr rfl) (by decide +kernel) (by decide +kernel) hf
def wX11_seekRests_39 : List En := [(.istore 5, 0, 0, 0), (.iload_n 1, 0, 0, 0), (.iload 4, 0, 0, 0), (.ifCond .ne 7, 51, 0, 0)]
def fX11_seekRests_39 (k10 : Nat → Int32 → Int32 → Int32 → aH → Option (Int32 × aH)) (v0 : Nat) (v1 : Int32) (v2 : Int32) (v3 : Int32) (v4 : Int32) (s0 : Int32) (h : aH) : Option (Int32 × aH) :=
  if v4 = 0 then fX11_seekRests_47 k10 v0 v1 v2 v3 v4 s0 v1 h else fX11_seekRests_51 k10 v0 v1 v2 v3 v4 s0 v1 h
theorem tX11_seekRests_39 {d : Nat} {z : Int32 × aH} {k10 : Nat → Int32 → Int32 → Int32 → aH → Option (Int32 × aH)} (hk10 : ∀ (v0 : Nat) (v1 : Int32) (v2 : Int32) (v3 : Int32) (h : aH), k10 v0 v1 v2 v3 h = some z → Ev (d + 1) none mX11_seekRests (0, 0) 10 [.ref v0, .int v1, .int v2, .int v3, .null, .null] [] h (QI z)) (v0 : Nat) (v1 : Int32) (v2 : Int32) (v3 : Int32) (v4 : Int32) (s0 : Int32) (h : aH) (hf : fX11_seekRests_39 k10 v0 v1 v2 v3 v4 s0 h = some z) : Ev (d + 1) none mX11_seekRests (0, 0) 39 [.ref v0, .int v1, .int v2, .int v3, .int v4, .null] [.int s0] h (QI z) := 
  go_ok (X := none) (blk := wX11_seekRests_39) (np := 47) (tt := 51) (kN := fun xs h st => app [2, 1, 1, 1, 1, 1] (fun v0 v1 v2 v3 v4 v5 => apS [1] (fun s0 => fX11_seekRests_47 k10 v0 v1 v2 v3 v4 v5 s0 h) st) xs) (kT := fun xs h st => app [2, 1, 1, 1, 1, 1] (fun v0 v1 v2 v3 v4 v5 => apS [1] (fun s0 => fX11_seekRests_51 k10 v0 v1 v2 v3 v4 v5 s0 h) st) xs) (kR := kRI)
    (fun xs h st q => jm [2, 1, 1, 1, 1, 1] _ (fun v0 v1 v2 v3 v4 v5 q => apS_ok [1] _ (fun st => Ev (d + 1) none mX11_seekRests (0, 0) 47 [.ref v0, .int v1, .int v2, .int v3, .int v4, .int v5] st h (QI z)) st (fun s0 q => tX11_seekRests_47 hk10 v0 v1 v2 v3 v4 v5 s0 h q) q) q)
    (fun xs h st q => jm [2, 1, 1, 1, 1, 1] _ (fun v0 v1 v2 v3 v4 v5 q => apS_ok [1] _ (fun st => Ev (d + 1) none mX11_seekRests (0, 0) 51 [.ref v0, .int v1, .int v2, .int v3, .int v4, .int v5] st h (QI z)) st (fun s0 q => tX11_seekRests_51 hk10 v0 v1 v2 v3 v4 v5 s0 h q) q) q)
    kRI_ok (Or.inr rfl) (by decide +kernel) (by decide +kernel) hf
def wX11_seekRests_38 : List En := [(.iconst 0, 0, 0, 0)]
def fX11_seekRests_38 (k10 : Nat → Int32 → Int32 → Int32 → aH → Option (Int32 × aH)) (v0 : Nat) (v1 : Int32) (v2 : Int32) (v3 : Int32) (v4 : Int32) (h : aH) : Option (Int32 × aH) :=
  fX11_seekRests_39 k10 v0 v1 v2 v3 v4 (kI 0) h
theorem tX11_seekRests_38 {d : Nat} {z : Int32 × aH} {k10 : Nat → Int32 → Int32 → Int32 → aH → Option (Int32 × aH)} (hk10 : ∀ (v0 : Nat) (v1 : Int32) (v2 : Int32) (v3 : Int32) (h : aH), k10 v0 v1 v2 v3 h = some z → Ev (d + 1) none mX11_seekRests (0, 0) 10 [.ref v0, .int v1, .int v2, .int v3, .null, .null] [] h (QI z)) (v0 : Nat) (v1 : Int32) (v2 : Int32) (v3 : Int32) (v4 : Int32) (h : aH) (hf : fX11_seekRests_38 k10 v0 v1 v2 v3 v4 h = some z) : Ev (d + 1) none mX11_seekRests (0, 0) 38 [.ref v0, .int v1, .int v2, .int v3, .int v4, .null] [] h (QI z) := 
  go_ok (X := none) (blk := wX11_seekRests_38) (np := 39) (tt := 0) (kN := fun xs h st => app [2, 1, 1, 1, 1, 0] (fun v0 v1 v2 v3 v4 => apS [1] (fun s0 => fX11_seekRests_39 k10 v0 v1 v2 v3 v4 s0 h) st) xs) (kT := fun _ _ _ => none) (kR := kRI)
    (fun xs h st q => jm [2, 1, 1, 1, 1, 0] _ (fun v0 v1 v2 v3 v4 q => apS_ok [1] _ (fun st => Ev (d + 1) none mX11_seekRests (0, 0) 39 [.ref v0, .int v1, .int v2, .int v3, .int v4, .null] st h (QI z)) st (fun s0 q => tX11_seekRests_39 hk10 v0 v1 v2 v3 v4 s0 h q) q) q)
    (fun _ _ _ q => nos q)
    kRI_ok (Or.inr rfl) (by decide +kernel) (by decide +kernel) hf
def wX11_seekRests_34 : List En := [(.iconst 1, 0, 0, 0), (.goto 4, 39, 0, 0)]
def fX11_seekRests_34 (k10 : Nat → Int32 → Int32 → Int32 → aH → Option (Int32 × aH)) (v0 : Nat) (v1 : Int32) (v2 : Int32) (v3 : Int32) (v4 : Int32) (h : aH) : Option (Int32 × aH) :=
  fX11_seekRests_39 k10 v0 v1 v2 v3 v4 (kI 1) h
theorem tX11_seekRests_34 {d : Nat} {z : Int32 × aH} {k10 : Nat → Int32 → Int32 → Int32 → aH → Option (Int32 × aH)} (hk10 : ∀ (v0 : Nat) (v1 : Int32) (v2 : Int32) (v3 : Int32) (h : aH), k10 v0 v1 v2 v3 h = some z → Ev (d + 1) none mX11_seekRests (0, 0) 10 [.ref v0, .int v1, .int v2, .int v3, .null, .null] [] h (QI z)) (v0 : Nat) (v1 : Int32) (v2 : Int32) (v3 : Int32) (v4 : Int32) (h : aH) (hf : fX11_seekRests_34 k10 v0 v1 v2 v3 v4 h = some z) : Ev (d + 1) none mX11_seekRests (0, 0) 34 [.ref v0, .int v1, .int v2, .int v3, .int v4, .null] [] h (QI z) := 
  go_ok (X := none) (blk := wX11_seekRests_34) (np := 38) (tt := 39) (kN := fun _ _ _ => none) (kT := fun xs h st => app [2, 1, 1, 1, 1, 0] (fun v0 v1 v2 v3 v4 => apS [1] (fun s0 => fX11_seekRests_39 k10 v0 v1 v2 v3 v4 s0 h) st) xs) (kR := kRI)
    (fun _ _ _ q => nos q)
    (fun xs h st q => jm [2, 1, 1, 1, 1, 0] _ (fun v0 v1 v2 v3 v4 q => apS_ok [1] _ (fun st => Ev (d + 1) none mX11_seekRests (0, 0) 39 [.ref v0, .int v1, .int v2, .int v3, .int v4, .null] st h (QI z)) st (fun s0 q => tX11_seekRests_39 hk10 v0 v1 v2 v3 v4 s0 h q) q) q)
    kRI_ok (Or.inr rfl) (by decide +kernel) (by decide +kernel) hf
def wX11_seekRests_25 : List En := [(.istore 4, 0, 0, 0), (.iload_n 3, 0, 0, 0), (.iconst 2, 0, 0, 0), (.irem, 0, 0, 0), (.iconst 1, 0, 0, 0), (.if_icmp .ne 7, 38, 0, 0)]
def fX11_seekRests_25 (k10 : Nat → Int32 → Int32 → Int32 → aH → Option (Int32 × aH)) (v0 : Nat) (v1 : Int32) (v2 : Int32) (v3 : Int32) (s0 : Int32) (h : aH) : Option (Int32 × aH) :=
  if (kI 2) = 0 then none else
  if (v3 - v3 / (kI 2) * (kI 2)) = (kI 1) then fX11_seekRests_34 k10 v0 v1 v2 v3 s0 h else fX11_seekRests_38 k10 v0 v1 v2 v3 s0 h
theorem tX11_seekRests_25 {d : Nat} {z : Int32 × aH} {k10 : Nat → Int32 → Int32 → Int32 → aH → Option (Int32 × aH)} (hk10 : ∀ (v0 : Nat) (v1 : Int32) (v2 : Int32) (v3 : Int32) (h : aH), k10 v0 v1 v2 v3 h = some z → Ev (d + 1) none mX11_seekRests (0, 0) 10 [.ref v0, .int v1, .int v2, .int v3, .null, .null] [] h (QI z)) (v0 : Nat) (v1 : Int32) (v2 : Int32) (v3 : Int32) (s0 : Int32) (h : aH) (hf : fX11_seekRests_25 k10 v0 v1 v2 v3 s0 h = some z) : Ev (d + 1) none mX11_seekRests (0, 0) 25 [.ref v0, .int v1, .int v2, .int v3, .null, .null] [.int s0] h (QI z) := 
  go_ok (X := none) (blk := wX11_seekRests_25) (np := 34) (tt := 38) (kN := fun xs h st => app [2, 1, 1, 1, 1, 0] (fun v0 v1 v2 v3 v4 => apS [] (fX11_seekRests_34 k10 v0 v1 v2 v3 v4 h) st) xs) (kT := fun xs h st => app [2, 1, 1, 1, 1, 0] (fun v0 v1 v2 v3 v4 => apS [] (fX11_seekRests_38 k10 v0 v1 v2 v3 v4 h) st) xs) (kR := kRI)
    (fun xs h st q => jm [2, 1, 1, 1, 1, 0] _ (fun v0 v1 v2 v3 v4 q => apS_ok [] _ (fun st => Ev (d + 1) none mX11_seekRests (0, 0) 34 [.ref v0, .int v1, .int v2, .int v3, .int v4, .null] st h (QI z)) st (fun q => tX11_seekRests_34 hk10 v0 v1 v2 v3 v4 h q) q) q)
    (fun xs h st q => jm [2, 1, 1, 1, 1, 0] _ (fun v0 v1 v2 v3 v4 q => apS_ok [] _ (fun st => Ev (d + 1) none mX11_seekRests (0, 0) 38 [.ref v0, .int v1, .int v2, .int v3, .int v4, .null] st h (QI z)) st (fun q => tX11_seekRests_38 hk10 v0 v1 v2 v3 v4 h q) q) q)
    kRI_ok (Or.inr rfl) (by decide +kernel) (by decide +kernel) hf
def wX11_seekRests_24 : List En := [(.iconst 0, 0, 0, 0)]
def fX11_seekRests_24 (k10 : Nat → Int32 → Int32 → Int32 → aH → Option (Int32 × aH)) (v0 : Nat) (v1 : Int32) (v2 : Int32) (v3 : Int32) (h : aH) : Option (Int32 × aH) :=
  fX11_seekRests_25 k10 v0 v1 v2 v3 (kI 0) h
theorem tX11_seekRests_24 {d : Nat} {z : Int32 × aH} {k10 : Nat → Int32 → Int32 → Int32 → aH → Option (Int32 × aH)} (hk10 : ∀ (v0 : Nat) (v1 : Int32) (v2 : Int32) (v3 : Int32) (h : aH), k10 v0 v1 v2 v3 h = some z → Ev (d + 1) none mX11_seekRests (0, 0) 10 [.ref v0, .int v1, .int v2, .int v3, .null, .null] [] h (QI z)) (v0 : Nat) (v1 : Int32) (v2 : Int32) (v3 : Int32) (h : aH) (hf : fX11_seekRests_24 k10 v0 v1 v2 v3 h = some z) : Ev (d + 1) none mX11_seekRests (0, 0) 24 [.ref v0, .int v1, .int v2, .int v3, .null, .null] [] h (QI z) := 
  go_ok (X := none) (blk := wX11_seekRests_24) (np := 25) (tt := 0) (kN := fun xs h st => app [2, 1, 1, 1, 0, 0] (fun v0 v1 v2 v3 => apS [1] (fun s0 => fX11_seekRests_25 k10 v0 v1 v2 v3 s0 h) st) xs) (kT := fun _ _ _ => none) (kR := kRI)
    (fun xs h st q => jm [2, 1, 1, 1, 0, 0] _ (fun v0 v1 v2 v3 q => apS_ok [1] _ (fun st => Ev (d + 1) none mX11_seekRests (0, 0) 25 [.ref v0, .int v1, .int v2, .int v3, .null, .null] st h (QI z)) st (fun s0 q => tX11_seekRests_25 hk10 v0 v1 v2 v3 s0 h q) q) q)
    (fun _ _ _ q => nos q)
    kRI_ok (Or.inr rfl) (by decide +kernel) (by decide +kernel) hf
def wX11_seekRests_20 : List En := [(.iconst 1, 0, 0, 0), (.goto 4, 25, 0, 0)]
def fX11_seekRests_20 (k10 : Nat → Int32 → Int32 → Int32 → aH → Option (Int32 × aH)) (v0 : Nat) (v1 : Int32) (v2 : Int32) (v3 : Int32) (h : aH) : Option (Int32 × aH) :=
  fX11_seekRests_25 k10 v0 v1 v2 v3 (kI 1) h
theorem tX11_seekRests_20 {d : Nat} {z : Int32 × aH} {k10 : Nat → Int32 → Int32 → Int32 → aH → Option (Int32 × aH)} (hk10 : ∀ (v0 : Nat) (v1 : Int32) (v2 : Int32) (v3 : Int32) (h : aH), k10 v0 v1 v2 v3 h = some z → Ev (d + 1) none mX11_seekRests (0, 0) 10 [.ref v0, .int v1, .int v2, .int v3, .null, .null] [] h (QI z)) (v0 : Nat) (v1 : Int32) (v2 : Int32) (v3 : Int32) (h : aH) (hf : fX11_seekRests_20 k10 v0 v1 v2 v3 h = some z) : Ev (d + 1) none mX11_seekRests (0, 0) 20 [.ref v0, .int v1, .int v2, .int v3, .null, .null] [] h (QI z) := 
  go_ok (X := none) (blk := wX11_seekRests_20) (np := 24) (tt := 25) (kN := fun _ _ _ => none) (kT := fun xs h st => app [2, 1, 1, 1, 0, 0] (fun v0 v1 v2 v3 => apS [1] (fun s0 => fX11_seekRests_25 k10 v0 v1 v2 v3 s0 h) st) xs) (kR := kRI)
    (fun _ _ _ q => nos q)
    (fun xs h st q => jm [2, 1, 1, 1, 0, 0] _ (fun v0 v1 v2 v3 q => apS_ok [1] _ (fun st => Ev (d + 1) none mX11_seekRests (0, 0) 25 [.ref v0, .int v1, .int v2, .int v3, .null, .null] st h (QI z)) st (fun s0 q => tX11_seekRests_25 hk10 v0 v1 v2 v3 s0 h q) q) q)
    kRI_ok (Or.inr rfl) (by decide +kernel) (by decide +kernel) hf
def wX11_seekRests_15 : List En := [(.iload_n 3, 0, 0, 0), (.iconst 1, 0, 0, 0), (.if_icmp .le 7, 24, 0, 0)]
def fX11_seekRests_15 (k10 : Nat → Int32 → Int32 → Int32 → aH → Option (Int32 × aH)) (v0 : Nat) (v1 : Int32) (v2 : Int32) (v3 : Int32) (h : aH) : Option (Int32 × aH) :=
  if (kI 1) < v3 then fX11_seekRests_20 k10 v0 v1 v2 v3 h else fX11_seekRests_24 k10 v0 v1 v2 v3 h
theorem tX11_seekRests_15 {d : Nat} {z : Int32 × aH} {k10 : Nat → Int32 → Int32 → Int32 → aH → Option (Int32 × aH)} (hk10 : ∀ (v0 : Nat) (v1 : Int32) (v2 : Int32) (v3 : Int32) (h : aH), k10 v0 v1 v2 v3 h = some z → Ev (d + 1) none mX11_seekRests (0, 0) 10 [.ref v0, .int v1, .int v2, .int v3, .null, .null] [] h (QI z)) (v0 : Nat) (v1 : Int32) (v2 : Int32) (v3 : Int32) (h : aH) (hf : fX11_seekRests_15 k10 v0 v1 v2 v3 h = some z) : Ev (d + 1) none mX11_seekRests (0, 0) 15 [.ref v0, .int v1, .int v2, .int v3, .null, .null] [] h (QI z) := 
  go_ok (X := none) (blk := wX11_seekRests_15) (np := 20) (tt := 24) (kN := fun xs h st => app [2, 1, 1, 1, 0, 0] (fun v0 v1 v2 v3 => apS [] (fX11_seekRests_20 k10 v0 v1 v2 v3 h) st) xs) (kT := fun xs h st => app [2, 1, 1, 1, 0, 0] (fun v0 v1 v2 v3 => apS [] (fX11_seekRests_24 k10 v0 v1 v2 v3 h) st) xs) (kR := kRI)
    (fun xs h st q => jm [2, 1, 1, 1, 0, 0] _ (fun v0 v1 v2 v3 q => apS_ok [] _ (fun st => Ev (d + 1) none mX11_seekRests (0, 0) 20 [.ref v0, .int v1, .int v2, .int v3, .null, .null] st h (QI z)) st (fun q => tX11_seekRests_20 hk10 v0 v1 v2 v3 h q) q) q)
    (fun xs h st q => jm [2, 1, 1, 1, 0, 0] _ (fun v0 v1 v2 v3 q => apS_ok [] _ (fun st => Ev (d + 1) none mX11_seekRests (0, 0) 24 [.ref v0, .int v1, .int v2, .int v3, .null, .null] st h (QI z)) st (fun q => tX11_seekRests_24 hk10 v0 v1 v2 v3 h q) q) q)
    kRI_ok (Or.inr rfl) (by decide +kernel) (by decide +kernel) hf
def wX11_seekRests_10 : List En := [(.iload_n 3, 0, 0, 0), (.iconst 4, 0, 0, 0), (.if_icmp .ge 113, 125, 0, 0)]
def fX11_seekRests_10 (k10 : Nat → Int32 → Int32 → Int32 → aH → Option (Int32 × aH)) (v0 : Nat) (v1 : Int32) (v2 : Int32) (v3 : Int32) (h : aH) : Option (Int32 × aH) :=
  if v3 < (kI 4) then fX11_seekRests_15 k10 v0 v1 v2 v3 h else fX11_seekRests_125 v2 h
theorem tX11_seekRests_10 {d : Nat} {z : Int32 × aH} {k10 : Nat → Int32 → Int32 → Int32 → aH → Option (Int32 × aH)} (hk10 : ∀ (v0 : Nat) (v1 : Int32) (v2 : Int32) (v3 : Int32) (h : aH), k10 v0 v1 v2 v3 h = some z → Ev (d + 1) none mX11_seekRests (0, 0) 10 [.ref v0, .int v1, .int v2, .int v3, .null, .null] [] h (QI z)) (v0 : Nat) (v1 : Int32) (v2 : Int32) (v3 : Int32) (h : aH) (hf : fX11_seekRests_10 k10 v0 v1 v2 v3 h = some z) : Ev (d + 1) none mX11_seekRests (0, 0) 10 [.ref v0, .int v1, .int v2, .int v3, .null, .null] [] h (QI z) := 
  go_ok (X := none) (blk := wX11_seekRests_10) (np := 15) (tt := 125) (kN := fun xs h st => app [2, 1, 1, 1, 0, 0] (fun v0 v1 v2 v3 => apS [] (fX11_seekRests_15 k10 v0 v1 v2 v3 h) st) xs) (kT := fun xs h st => app [0, 0, 1, 0, 0, 0] (fun v2 => apS [] (fX11_seekRests_125 v2 h) st) xs) (kR := kRI)
    (fun xs h st q => jm [2, 1, 1, 1, 0, 0] _ (fun v0 v1 v2 v3 q => apS_ok [] _ (fun st => Ev (d + 1) none mX11_seekRests (0, 0) 15 [.ref v0, .int v1, .int v2, .int v3, .null, .null] st h (QI z)) st (fun q => tX11_seekRests_15 hk10 v0 v1 v2 v3 h q) q) q)
    (fun xs h st q => jm [0, 0, 1, 0, 0, 0] _ (fun v2 q => apS_ok [] _ (fun st => Ev (d + 1) none mX11_seekRests (0, 0) 125 [.null, .null, .int v2, .null, .null, .null] st h (QI z)) st (fun q => tX11_seekRests_125 v2 h q) q) q)
    kRI_ok (Or.inr rfl) (by decide +kernel) (by decide +kernel) hf
def lX11_seekRests_10 : Nat → Nat → Int32 → Int32 → Int32 → aH → Option (Int32 × aH)
  | 0, _, _, _, _, _ => none
  | n + 1, v0, v1, v2, v3, h => fX11_seekRests_10 (lX11_seekRests_10 n) v0 v1 v2 v3 h
theorem uX11_seekRests_10 {d : Nat} {z : Int32 × aH} : ∀ (n : Nat) (v0 : Nat) (v1 : Int32) (v2 : Int32) (v3 : Int32) (h : aH), lX11_seekRests_10 n v0 v1 v2 v3 h = some z → Ev (d + 1) none mX11_seekRests (0, 0) 10 [.ref v0, .int v1, .int v2, .int v3, .null, .null] [] h (QI z) := by
  intro n
  induction n with
  | zero => intro _ _ _ _ _ q; exact nos (show (none : Option (Int32 × aH)) = some z from q)
  | succ n ih => intro v0 v1 v2 v3 h q; exact tX11_seekRests_10 ih v0 v1 v2 v3 h q
def wX11_seekRests_0 : List En := [(.iconst 0, 0, 0, 0), (.istore_n 2, 0, 0, 0), (.aload_n 0, 0, 0, 0), (.bipush (-2), 0, 0, 0), (.putfield 382, 215, 11, 40), (.iconst 0, 0, 0, 0), (.istore_n 3, 0, 0, 0)]
def fX11_seekRests_0 (v0 : Nat) (v1 : Int32) (h : aH) : Option (Int32 × aH) :=
  (pWV h 11 v0 40 (.int (kB (-2)))).bind fun h1 =>
  lX11_seekRests_10 FU v0 v1 (kI 0) (kI 0) h1
theorem tX11_seekRests_0 {d : Nat} {z : Int32 × aH} (v0 : Nat) (v1 : Int32) (h : aH) (hf : fX11_seekRests_0 v0 v1 h = some z) : Ev (d + 1) none mX11_seekRests (0, 0) 0 [.ref v0, .int v1, .null, .null, .null, .null] [] h (QI z) := 
  go_ok (X := none) (blk := wX11_seekRests_0) (np := 10) (tt := 0) (kN := fun xs h st => app [2, 1, 1, 1, 0, 0] (fun v0 v1 v2 v3 => apS [] (lX11_seekRests_10 FU v0 v1 v2 v3 h) st) xs) (kT := fun _ _ _ => none) (kR := kRI)
    (fun xs h st q => jm [2, 1, 1, 1, 0, 0] _ (fun v0 v1 v2 v3 q => apS_ok [] _ (fun st => Ev (d + 1) none mX11_seekRests (0, 0) 10 [.ref v0, .int v1, .int v2, .int v3, .null, .null] st h (QI z)) st (fun q => uX11_seekRests_10 FU v0 v1 v2 v3 h q) q) q)
    (fun _ _ _ q => nos q)
    kRI_ok (Or.inr rfl) (by decide +kernel) (by decide +kernel) hf
def gX11_seekRests (v0 : Nat) (v1 : Int32) (h : aH) : Option (Int32 × aH) := fX11_seekRests_0 v0 v1 h
theorem zX11_seekRests {d : Nat} {z : Int32 × aH} {v0 : Nat} {v1 : Int32} {h : aH} (q : gX11_seekRests v0 v1 h = some z) : CT (d + 1) mX11_seekRests (0, 0) [.ref v0, .int v1] h (QI z) :=
  ct_ev (by decide +kernel) (Nat.le_of_ble_eq_true rfl) QI_r (jm [2, 1, 0, 0, 0, 0] (fun v0 v1 => fX11_seekRests_0 v0 v1 h) (fun v0 v1 q => tX11_seekRests_0 v0 v1 h q) q)
def wX11_rests_37 : List En := [(.ireturn, 0, 0, 0)]
def fX11_rests_37 (s0 : Int32) (h : aH) : Option (Int32 × aH) :=
  some (s0, h)
theorem tX11_rests_37 {d : Nat} {z : Int32 × aH} (s0 : Int32) (h : aH) (hf : fX11_rests_37 s0 h = some z) : Ev (d + 2) none mX11_rests (0, 0) 37 [.null, .null, .null] [.int s0] h (QI z) := 
  go_ok (X := none) (blk := wX11_rests_37) (np := 38) (tt := 0) (kN := fun _ _ _ => none) (kT := fun _ _ _ => none) (kR := kRI)
    (fun _ _ _ q => nos q)
    (fun _ _ _ q => nos q)
    kRI_ok (Or.inr rfl) (by decide +kernel) (by decide +kernel) hf
theorem kqX11_rests_34 : okC mX11_rests 34 (.invokevirtual 385) 283 300 0 1 = true := by decide +kernel
def fX11_rests_34 (s0 : Int32) (s1 : Nat) (h : aH) : Option (Int32 × aH) :=
  (isO h 11 s1).bind fun _ =>
  (gX11_seekRests s1 s0 h).bind fun r =>
  fX11_rests_37 r.1 r.2
theorem tX11_rests_34 {d : Nat} {z : Int32 × aH} (s0 : Int32) (s1 : Nat) (h : aH) (hf : fX11_rests_34 s0 s1 h = some z) : Ev (d + 2) none mX11_rests (0, 0) 34 [.null, .null, .null] [.int s0, .ref s1] h (QI z) := by
  obtain ⟨_, h1, hf⟩ := bnd hf
  obtain ⟨fs, ho⟩ := isO_ok h1
  obtain ⟨r, h2, hf⟩ := bnd hf
  refine ev_V kqX11_rests_34 jX11_seekRests (zX11_seekRests (d := d + 0) h2) ho rfl rfl (Nat.le_of_ble_eq_true rfl) rfl (as := [.int s0]) (rest := []) rfl (Nat.le_of_ble_eq_true rfl) (fun _ _ hq => ?_)
  obtain ⟨rfl, rfl⟩ := hq
  exact jm [0, 0, 0] (fX11_rests_37 r.1 r.2) (fun q => tX11_rests_37 r.1 r.2 q) hf
def wX11_rests_32 : List En := [(.aload_n 0, 0, 0, 0), (.iload_n 1, 0, 0, 0)]
def fX11_rests_32 (v0 : Nat) (v1 : Int32) (h : aH) : Option (Int32 × aH) :=
  fX11_rests_34 v1 v0 h
theorem tX11_rests_32 {d : Nat} {z : Int32 × aH} (v0 : Nat) (v1 : Int32) (h : aH) (hf : fX11_rests_32 v0 v1 h = some z) : Ev (d + 2) none mX11_rests (0, 0) 32 [.ref v0, .int v1, .null] [] h (QI z) := 
  go_ok (X := none) (blk := wX11_rests_32) (np := 34) (tt := 0) (kN := fun xs h st => app [0, 0, 0] (apS [1, 2] (fun s0 s1 => fX11_rests_34 s0 s1 h) st) xs) (kT := fun _ _ _ => none) (kR := kRI)
    (fun xs h st q => jm [0, 0, 0] _ (fun q => apS_ok [1, 2] _ (fun st => Ev (d + 2) none mX11_rests (0, 0) 34 [.null, .null, .null] st h (QI z)) st (fun s0 s1 q => tX11_rests_34 s0 s1 h q) q) q)
    (fun _ _ _ q => nos q)
    kRI_ok (Or.inr rfl) (by decide +kernel) (by decide +kernel) hf
def wX11_rests_29 : List En := [(.goto 8, 37, 0, 0)]
def fX11_rests_29 (s0 : Int32) (h : aH) : Option (Int32 × aH) :=
  fX11_rests_37 s0 h
theorem tX11_rests_29 {d : Nat} {z : Int32 × aH} (s0 : Int32) (h : aH) (hf : fX11_rests_29 s0 h = some z) : Ev (d + 2) none mX11_rests (0, 0) 29 [.null, .null, .null] [.int s0] h (QI z) := 
  go_ok (X := none) (blk := wX11_rests_29) (np := 32) (tt := 37) (kN := fun _ _ _ => none) (kT := fun xs h st => app [0, 0, 0] (apS [1] (fun s0 => fX11_rests_37 s0 h) st) xs) (kR := kRI)
    (fun _ _ _ q => nos q)
    (fun xs h st q => jm [0, 0, 0] _ (fun q => apS_ok [1] _ (fun st => Ev (d + 2) none mX11_rests (0, 0) 37 [.null, .null, .null] st h (QI z)) st (fun s0 q => tX11_rests_37 s0 h q) q) q)
    kRI_ok (Or.inr rfl) (by decide +kernel) (by decide +kernel) hf
theorem kqX11_rests_26 : okC mX11_rests 26 (.invokevirtual 164) 183 198 0 1 = true := by decide +kernel
def fX11_rests_26 (s0 : Int32) (s1 : Nat) (h : aH) : Option (Int32 × aH) :=
  (isO h 11 s1).bind fun _ =>
  (gX11_no s1 s0 h).bind fun r =>
  fX11_rests_29 r.1 r.2
theorem tX11_rests_26 {d : Nat} {z : Int32 × aH} (s0 : Int32) (s1 : Nat) (h : aH) (hf : fX11_rests_26 s0 s1 h = some z) : Ev (d + 2) none mX11_rests (0, 0) 26 [.null, .null, .null] [.int s0, .ref s1] h (QI z) := by
  obtain ⟨_, h1, hf⟩ := bnd hf
  obtain ⟨fs, ho⟩ := isO_ok h1
  obtain ⟨r, h2, hf⟩ := bnd hf
  refine ev_V kqX11_rests_26 jX11_no (zX11_no (d := d + 1) h2) ho rfl rfl (Nat.le_of_ble_eq_true rfl) rfl (as := [.int s0]) (rest := []) rfl (Nat.le_of_ble_eq_true rfl) (fun _ _ hq => ?_)
  obtain ⟨rfl, rfl⟩ := hq
  exact jm [0, 0, 0] (fX11_rests_29 r.1 r.2) (fun q => tX11_rests_29 r.1 r.2 q) hf
def wX11_rests_24 : List En := [(.aload_n 0, 0, 0, 0), (.iload_n 2, 0, 0, 0)]
def fX11_rests_24 (v0 : Nat) (v2 : Int32) (h : aH) : Option (Int32 × aH) :=
  fX11_rests_26 v2 v0 h
theorem tX11_rests_24 {d : Nat} {z : Int32 × aH} (v0 : Nat) (v2 : Int32) (h : aH) (hf : fX11_rests_24 v0 v2 h = some z) : Ev (d + 2) none mX11_rests (0, 0) 24 [.ref v0, .null, .int v2] [] h (QI z) := 
  go_ok (X := none) (blk := wX11_rests_24) (np := 26) (tt := 0) (kN := fun xs h st => app [0, 0, 0] (apS [1, 2] (fun s0 s1 => fX11_rests_26 s0 s1 h) st) xs) (kT := fun _ _ _ => none) (kR := kRI)
    (fun xs h st q => jm [0, 0, 0] _ (fun q => apS_ok [1, 2] _ (fun st => Ev (d + 2) none mX11_rests (0, 0) 26 [.null, .null, .null] st h (QI z)) st (fun s0 s1 q => tX11_rests_26 s0 s1 h q) q) q)
    (fun _ _ _ q => nos q)
    kRI_ok (Or.inr rfl) (by decide +kernel) (by decide +kernel) hf
def wX11_rests_19 : List En := [(.istore_n 2, 0, 0, 0), (.iload_n 2, 0, 0, 0), (.ifCond .eq 11, 32, 0, 0)]
def fX11_rests_19 (v0 : Nat) (v1 : Int32) (s0 : Int32) (h : aH) : Option (Int32 × aH) :=
  if s0 = 0 then fX11_rests_32 v0 v1 h else fX11_rests_24 v0 s0 h
theorem tX11_rests_19 {d : Nat} {z : Int32 × aH} (v0 : Nat) (v1 : Int32) (s0 : Int32) (h : aH) (hf : fX11_rests_19 v0 v1 s0 h = some z) : Ev (d + 2) none mX11_rests (0, 0) 19 [.ref v0, .int v1, .null] [.int s0] h (QI z) := 
  go_ok (X := none) (blk := wX11_rests_19) (np := 24) (tt := 32) (kN := fun xs h st => app [2, 0, 1] (fun v0 v2 => apS [] (fX11_rests_24 v0 v2 h) st) xs) (kT := fun xs h st => app [2, 1, 0] (fun v0 v1 => apS [] (fX11_rests_32 v0 v1 h) st) xs) (kR := kRI)
    (fun xs h st q => jm [2, 0, 1] _ (fun v0 v2 q => apS_ok [] _ (fun st => Ev (d + 2) none mX11_rests (0, 0) 24 [.ref v0, .null, .int v2] st h (QI z)) st (fun q => tX11_rests_24 v0 v2 h q) q) q)
    (fun xs h st q => jm [2, 1, 0] _ (fun v0 v1 q => apS_ok [] _ (fun st => Ev (d + 2) none mX11_rests (0, 0) 32 [.ref v0, .int v1, .null] st h (QI z)) st (fun q => tX11_rests_32 v0 v1 h q) q) q)
    kRI_ok (Or.inr rfl) (by decide +kernel) (by decide +kernel) hf
theorem kqX11_rests_16 : okC mX11_rests 16 (.invokevirtual 241) 235 252 0 2 = true := by decide +kernel
def fX11_rests_16 (v0 : Nat) (v1 : Int32) (s0 : Int32) (s1 : Int32) (s2 : Nat) (h : aH) : Option (Int32 × aH) :=
  (isO h 11 s2).bind fun _ =>
  (gX11_why s2 s1 s0 h).bind fun r =>
  fX11_rests_19 v0 v1 r.1 r.2
theorem tX11_rests_16 {d : Nat} {z : Int32 × aH} (v0 : Nat) (v1 : Int32) (s0 : Int32) (s1 : Int32) (s2 : Nat) (h : aH) (hf : fX11_rests_16 v0 v1 s0 s1 s2 h = some z) : Ev (d + 2) none mX11_rests (0, 0) 16 [.ref v0, .int v1, .null] [.int s0, .int s1, .ref s2] h (QI z) := by
  obtain ⟨_, h1, hf⟩ := bnd hf
  obtain ⟨fs, ho⟩ := isO_ok h1
  obtain ⟨r, h2, hf⟩ := bnd hf
  refine ev_V kqX11_rests_16 jX11_why (zX11_why (d := d + 1) h2) ho rfl rfl (Nat.le_of_ble_eq_true rfl) rfl (as := [.int s1, .int s0]) (rest := []) rfl (Nat.le_of_ble_eq_true rfl) (fun _ _ hq => ?_)
  obtain ⟨rfl, rfl⟩ := hq
  exact jm [2, 1, 0] (fun v0 v1 => fX11_rests_19 v0 v1 r.1 r.2) (fun v0 v1 q => tX11_rests_19 v0 v1 r.1 r.2 q) hf
theorem kqX11_rests_13 : okC mX11_rests 13 (.invokestatic 140) 182 197 1 3 = true := by decide +kernel
def fX11_rests_13 (v0 : Nat) (v1 : Int32) (s0 : Int32) (s1 : Int32) (s2 : Int32) (s3 : Int32) (s4 : Nat) (h : aH) : Option (Int32 × aH) :=
  (gX11_in s2 s1 s0 h).bind fun r =>
  fX11_rests_16 v0 v1 r.1 s3 s4 r.2
theorem tX11_rests_13 {d : Nat} {z : Int32 × aH} (v0 : Nat) (v1 : Int32) (s0 : Int32) (s1 : Int32) (s2 : Int32) (s3 : Int32) (s4 : Nat) (h : aH) (hf : fX11_rests_13 v0 v1 s0 s1 s2 s3 s4 h = some z) : Ev (d + 2) none mX11_rests (0, 0) 13 [.ref v0, .int v1, .null] [.int s0, .int s1, .int s2, .int s3, .ref s4] h (QI z) := by
  obtain ⟨r, h2, hf⟩ := bnd hf
  refine ev_S kqX11_rests_13 jX11_in (zX11_in (d := d + 1) h2) rfl (Nat.le_of_ble_eq_true rfl) rfl (as := [.int s2, .int s1, .int s0]) (rest := [.int s3, .ref s4]) rfl (Nat.le_of_ble_eq_true rfl) (fun _ _ hq => ?_)
  obtain ⟨-, rfl, rfl⟩ := hq
  exact jm [2, 1, 0] (fun v0 v1 => fX11_rests_16 v0 v1 r.1 s3 s4 r.2) (fun v0 v1 q => tX11_rests_16 v0 v1 r.1 s3 s4 r.2 q) hf
def wX11_rests_4 : List En := [(.aload_n 0, 0, 0, 0), (.aload_n 0, 0, 0, 0), (.getfield 174, 189, 11, 14), (.iload_n 1, 0, 0, 0), (.iconst 0, 0, 0, 0), (.bipush 9, 0, 0, 0)]
def fX11_rests_4 (v0 : Nat) (v1 : Int32) (h : aH) : Option (Int32 × aH) :=
  (gFI h 11 v0 14).bind fun t1 =>
  fX11_rests_13 v0 v1 (kB 9) (kI 0) v1 t1 v0 h
theorem tX11_rests_4 {d : Nat} {z : Int32 × aH} (v0 : Nat) (v1 : Int32) (h : aH) (hf : fX11_rests_4 v0 v1 h = some z) : Ev (d + 2) none mX11_rests (0, 0) 4 [.ref v0, .int v1, .null] [] h (QI z) := 
  go_ok (X := none) (blk := wX11_rests_4) (np := 13) (tt := 0) (kN := fun xs h st => app [2, 1, 0] (fun v0 v1 => apS [1, 1, 1, 1, 2] (fun s0 s1 s2 s3 s4 => fX11_rests_13 v0 v1 s0 s1 s2 s3 s4 h) st) xs) (kT := fun _ _ _ => none) (kR := kRI)
    (fun xs h st q => jm [2, 1, 0] _ (fun v0 v1 q => apS_ok [1, 1, 1, 1, 2] _ (fun st => Ev (d + 2) none mX11_rests (0, 0) 13 [.ref v0, .int v1, .null] st h (QI z)) st (fun s0 s1 s2 s3 s4 q => tX11_rests_13 v0 v1 s0 s1 s2 s3 s4 h q) q) q)
    (fun _ _ _ q => nos q)
    kRI_ok (Or.inr rfl) (by decide +kernel) (by decide +kernel) hf
theorem kqX11_rests_1 : okC mX11_rests 1 (.invokevirtual 161) 181 196 0 0 = true := by decide +kernel
def fX11_rests_1 (v0 : Nat) (v1 : Int32) (s0 : Nat) (h : aH) : Option (Int32 × aH) :=
  (isO h 11 s0).bind fun _ =>
  (gX11_anew s0 h).bind fun r =>
  fX11_rests_4 v0 v1 r
theorem tX11_rests_1 {d : Nat} {z : Int32 × aH} (v0 : Nat) (v1 : Int32) (s0 : Nat) (h : aH) (hf : fX11_rests_1 v0 v1 s0 h = some z) : Ev (d + 2) none mX11_rests (0, 0) 1 [.ref v0, .int v1, .null] [.ref s0] h (QI z) := by
  obtain ⟨_, h1, hf⟩ := bnd hf
  obtain ⟨fs, ho⟩ := isO_ok h1
  obtain ⟨r, h2, hf⟩ := bnd hf
  refine ev_V kqX11_rests_1 jX11_anew (zX11_anew (d := d + 1) h2) ho rfl rfl (Nat.le_of_ble_eq_true rfl) rfl (as := []) (rest := []) rfl (Nat.le_of_ble_eq_true rfl) (fun _ _ hq => ?_)
  obtain ⟨rfl, hh⟩ := hq
  rw [hh]
  exact jm [2, 1, 0] (fun v0 v1 => fX11_rests_4 v0 v1 r) (fun v0 v1 q => tX11_rests_4 v0 v1 r q) hf
def wX11_rests_0 : List En := [(.aload_n 0, 0, 0, 0)]
def fX11_rests_0 (v0 : Nat) (v1 : Int32) (h : aH) : Option (Int32 × aH) :=
  fX11_rests_1 v0 v1 v0 h
theorem tX11_rests_0 {d : Nat} {z : Int32 × aH} (v0 : Nat) (v1 : Int32) (h : aH) (hf : fX11_rests_0 v0 v1 h = some z) : Ev (d + 2) none mX11_rests (0, 0) 0 [.ref v0, .int v1, .null] [] h (QI z) := 
  go_ok (X := none) (blk := wX11_rests_0) (np := 1) (tt := 0) (kN := fun xs h st => app [2, 1, 0] (fun v0 v1 => apS [2] (fun s0 => fX11_rests_1 v0 v1 s0 h) st) xs) (kT := fun _ _ _ => none) (kR := kRI)
    (fun xs h st q => jm [2, 1, 0] _ (fun v0 v1 q => apS_ok [2] _ (fun st => Ev (d + 2) none mX11_rests (0, 0) 1 [.ref v0, .int v1, .null] st h (QI z)) st (fun s0 q => tX11_rests_1 v0 v1 s0 h q) q) q)
    (fun _ _ _ q => nos q)
    kRI_ok (Or.inr rfl) (by decide +kernel) (by decide +kernel) hf
def gX11_rests (v0 : Nat) (v1 : Int32) (h : aH) : Option (Int32 × aH) := fX11_rests_0 v0 v1 h
theorem zX11_rests {d : Nat} {z : Int32 × aH} {v0 : Nat} {v1 : Int32} {h : aH} (q : gX11_rests v0 v1 h = some z) : CT (d + 2) mX11_rests (0, 0) [.ref v0, .int v1] h (QI z) :=
  ct_ev (by decide +kernel) (Nat.le_of_ble_eq_true rfl) QI_r (jm [2, 1, 0] (fun v0 v1 => fX11_rests_0 v0 v1 h) (fun v0 v1 q => tX11_rests_0 v0 v1 h q) q)
def wX11_rest_35 : List En := [(.pop, 0, 0, 0), (.aload_n 0, 0, 0, 0), (.getfield 382, 215, 11, 40), (.ireturn, 0, 0, 0)]
def fX11_rest_35 (v0 : Nat) (s0 : Int32) (h : aH) : Option (Int32 × aH) :=
  (gFI h 11 v0 40).bind fun t1 =>
  some (t1, h)
theorem tX11_rest_35 {d : Nat} {z : Int32 × aH} (v0 : Nat) (s0 : Int32) (h : aH) (hf : fX11_rest_35 v0 s0 h = some z) : Ev (d + 2) none mX11_rest (0, 0) 35 [.ref v0, .null, .null] [.int s0] h (QI z) := 
  go_ok (X := none) (blk := wX11_rest_35) (np := 41) (tt := 0) (kN := fun _ _ _ => none) (kT := fun _ _ _ => none) (kR := kRI)
    (fun _ _ _ q => nos q)
    (fun _ _ _ q => nos q)
    kRI_ok (Or.inr rfl) (by decide +kernel) (by decide +kernel) hf
theorem kqX11_rest_32 : okC mX11_rest 32 (.invokevirtual 385) 283 300 0 1 = true := by decide +kernel
def fX11_rest_32 (v0 : Nat) (s0 : Int32) (s1 : Nat) (h : aH) : Option (Int32 × aH) :=
  (isO h 11 s1).bind fun _ =>
  (gX11_seekRests s1 s0 h).bind fun r =>
  fX11_rest_35 v0 r.1 r.2
theorem tX11_rest_32 {d : Nat} {z : Int32 × aH} (v0 : Nat) (s0 : Int32) (s1 : Nat) (h : aH) (hf : fX11_rest_32 v0 s0 s1 h = some z) : Ev (d + 2) none mX11_rest (0, 0) 32 [.ref v0, .null, .null] [.int s0, .ref s1] h (QI z) := by
  obtain ⟨_, h1, hf⟩ := bnd hf
  obtain ⟨fs, ho⟩ := isO_ok h1
  obtain ⟨r, h2, hf⟩ := bnd hf
  refine ev_V kqX11_rest_32 jX11_seekRests (zX11_seekRests (d := d + 0) h2) ho rfl rfl (Nat.le_of_ble_eq_true rfl) rfl (as := [.int s0]) (rest := []) rfl (Nat.le_of_ble_eq_true rfl) (fun _ _ hq => ?_)
  obtain ⟨rfl, rfl⟩ := hq
  exact jm [2, 0, 0] (fun v0 => fX11_rest_35 v0 r.1 r.2) (fun v0 q => tX11_rest_35 v0 r.1 r.2 q) hf
def wX11_rest_30 : List En := [(.aload_n 0, 0, 0, 0), (.iload_n 1, 0, 0, 0)]
def fX11_rest_30 (v0 : Nat) (v1 : Int32) (h : aH) : Option (Int32 × aH) :=
  fX11_rest_32 v0 v1 v0 h
theorem tX11_rest_30 {d : Nat} {z : Int32 × aH} (v0 : Nat) (v1 : Int32) (h : aH) (hf : fX11_rest_30 v0 v1 h = some z) : Ev (d + 2) none mX11_rest (0, 0) 30 [.ref v0, .int v1, .null] [] h (QI z) := 
  go_ok (X := none) (blk := wX11_rest_30) (np := 32) (tt := 0) (kN := fun xs h st => app [2, 0, 0] (fun v0 => apS [1, 2] (fun s0 s1 => fX11_rest_32 v0 s0 s1 h) st) xs) (kT := fun _ _ _ => none) (kR := kRI)
    (fun xs h st q => jm [2, 0, 0] _ (fun v0 q => apS_ok [1, 2] _ (fun st => Ev (d + 2) none mX11_rest (0, 0) 32 [.ref v0, .null, .null] st h (QI z)) st (fun s0 s1 q => tX11_rest_32 v0 s0 s1 h q) q) q)
    (fun _ _ _ q => nos q)
    kRI_ok (Or.inr rfl) (by decide +kernel) (by decide +kernel) hf
def wX11_rest_29 : List En := [(.ireturn, 0, 0, 0)]
def fX11_rest_29 (s0 : Int32) (h : aH) : Option (Int32 × aH) :=
  some (s0, h)
theorem tX11_rest_29 {d : Nat} {z : Int32 × aH} (s0 : Int32) (h : aH) (hf : fX11_rest_29 s0 h = some z) : Ev (d + 2) none mX11_rest (0, 0) 29 [.null, .null, .null] [.int s0] h (QI z) := 
  go_ok (X := none) (blk := wX11_rest_29) (np := 30) (tt := 0) (kN := fun _ _ _ => none) (kT := fun _ _ _ => none) (kR := kRI)
    (fun _ _ _ q => nos q)
    (fun _ _ _ q => nos q)
    kRI_ok (Or.inr rfl) (by decide +kernel) (by decide +kernel) hf
theorem kqX11_rest_26 : okC mX11_rest 26 (.invokevirtual 164) 183 198 0 1 = true := by decide +kernel
def fX11_rest_26 (s0 : Int32) (s1 : Nat) (h : aH) : Option (Int32 × aH) :=
  (isO h 11 s1).bind fun _ =>
  (gX11_no s1 s0 h).bind fun r =>
  fX11_rest_29 r.1 r.2
theorem tX11_rest_26 {d : Nat} {z : Int32 × aH} (s0 : Int32) (s1 : Nat) (h : aH) (hf : fX11_rest_26 s0 s1 h = some z) : Ev (d + 2) none mX11_rest (0, 0) 26 [.null, .null, .null] [.int s0, .ref s1] h (QI z) := by
  obtain ⟨_, h1, hf⟩ := bnd hf
  obtain ⟨fs, ho⟩ := isO_ok h1
  obtain ⟨r, h2, hf⟩ := bnd hf
  refine ev_V kqX11_rest_26 jX11_no (zX11_no (d := d + 1) h2) ho rfl rfl (Nat.le_of_ble_eq_true rfl) rfl (as := [.int s0]) (rest := []) rfl (Nat.le_of_ble_eq_true rfl) (fun _ _ hq => ?_)
  obtain ⟨rfl, rfl⟩ := hq
  exact jm [0, 0, 0] (fX11_rest_29 r.1 r.2) (fun q => tX11_rest_29 r.1 r.2 q) hf
def wX11_rest_24 : List En := [(.aload_n 0, 0, 0, 0), (.iload_n 2, 0, 0, 0)]
def fX11_rest_24 (v0 : Nat) (v2 : Int32) (h : aH) : Option (Int32 × aH) :=
  fX11_rest_26 v2 v0 h
theorem tX11_rest_24 {d : Nat} {z : Int32 × aH} (v0 : Nat) (v2 : Int32) (h : aH) (hf : fX11_rest_24 v0 v2 h = some z) : Ev (d + 2) none mX11_rest (0, 0) 24 [.ref v0, .null, .int v2] [] h (QI z) := 
  go_ok (X := none) (blk := wX11_rest_24) (np := 26) (tt := 0) (kN := fun xs h st => app [0, 0, 0] (apS [1, 2] (fun s0 s1 => fX11_rest_26 s0 s1 h) st) xs) (kT := fun _ _ _ => none) (kR := kRI)
    (fun xs h st q => jm [0, 0, 0] _ (fun q => apS_ok [1, 2] _ (fun st => Ev (d + 2) none mX11_rest (0, 0) 26 [.null, .null, .null] st h (QI z)) st (fun s0 s1 q => tX11_rest_26 s0 s1 h q) q) q)
    (fun _ _ _ q => nos q)
    kRI_ok (Or.inr rfl) (by decide +kernel) (by decide +kernel) hf
def wX11_rest_19 : List En := [(.istore_n 2, 0, 0, 0), (.iload_n 2, 0, 0, 0), (.ifCond .eq 9, 30, 0, 0)]
def fX11_rest_19 (v0 : Nat) (v1 : Int32) (s0 : Int32) (h : aH) : Option (Int32 × aH) :=
  if s0 = 0 then fX11_rest_30 v0 v1 h else fX11_rest_24 v0 s0 h
theorem tX11_rest_19 {d : Nat} {z : Int32 × aH} (v0 : Nat) (v1 : Int32) (s0 : Int32) (h : aH) (hf : fX11_rest_19 v0 v1 s0 h = some z) : Ev (d + 2) none mX11_rest (0, 0) 19 [.ref v0, .int v1, .null] [.int s0] h (QI z) := 
  go_ok (X := none) (blk := wX11_rest_19) (np := 24) (tt := 30) (kN := fun xs h st => app [2, 0, 1] (fun v0 v2 => apS [] (fX11_rest_24 v0 v2 h) st) xs) (kT := fun xs h st => app [2, 1, 0] (fun v0 v1 => apS [] (fX11_rest_30 v0 v1 h) st) xs) (kR := kRI)
    (fun xs h st q => jm [2, 0, 1] _ (fun v0 v2 q => apS_ok [] _ (fun st => Ev (d + 2) none mX11_rest (0, 0) 24 [.ref v0, .null, .int v2] st h (QI z)) st (fun q => tX11_rest_24 v0 v2 h q) q) q)
    (fun xs h st q => jm [2, 1, 0] _ (fun v0 v1 q => apS_ok [] _ (fun st => Ev (d + 2) none mX11_rest (0, 0) 30 [.ref v0, .int v1, .null] st h (QI z)) st (fun q => tX11_rest_30 v0 v1 h q) q) q)
    kRI_ok (Or.inr rfl) (by decide +kernel) (by decide +kernel) hf
theorem kqX11_rest_16 : okC mX11_rest 16 (.invokevirtual 241) 235 252 0 2 = true := by decide +kernel
def fX11_rest_16 (v0 : Nat) (v1 : Int32) (s0 : Int32) (s1 : Int32) (s2 : Nat) (h : aH) : Option (Int32 × aH) :=
  (isO h 11 s2).bind fun _ =>
  (gX11_why s2 s1 s0 h).bind fun r =>
  fX11_rest_19 v0 v1 r.1 r.2
theorem tX11_rest_16 {d : Nat} {z : Int32 × aH} (v0 : Nat) (v1 : Int32) (s0 : Int32) (s1 : Int32) (s2 : Nat) (h : aH) (hf : fX11_rest_16 v0 v1 s0 s1 s2 h = some z) : Ev (d + 2) none mX11_rest (0, 0) 16 [.ref v0, .int v1, .null] [.int s0, .int s1, .ref s2] h (QI z) := by
  obtain ⟨_, h1, hf⟩ := bnd hf
  obtain ⟨fs, ho⟩ := isO_ok h1
  obtain ⟨r, h2, hf⟩ := bnd hf
  refine ev_V kqX11_rest_16 jX11_why (zX11_why (d := d + 1) h2) ho rfl rfl (Nat.le_of_ble_eq_true rfl) rfl (as := [.int s1, .int s0]) (rest := []) rfl (Nat.le_of_ble_eq_true rfl) (fun _ _ hq => ?_)
  obtain ⟨rfl, rfl⟩ := hq
  exact jm [2, 1, 0] (fun v0 v1 => fX11_rest_19 v0 v1 r.1 r.2) (fun v0 v1 q => tX11_rest_19 v0 v1 r.1 r.2 q) hf
theorem kqX11_rest_13 : okC mX11_rest 13 (.invokestatic 140) 182 197 1 3 = true := by decide +kernel
def fX11_rest_13 (v0 : Nat) (v1 : Int32) (s0 : Int32) (s1 : Int32) (s2 : Int32) (s3 : Int32) (s4 : Nat) (h : aH) : Option (Int32 × aH) :=
  (gX11_in s2 s1 s0 h).bind fun r =>
  fX11_rest_16 v0 v1 r.1 s3 s4 r.2
theorem tX11_rest_13 {d : Nat} {z : Int32 × aH} (v0 : Nat) (v1 : Int32) (s0 : Int32) (s1 : Int32) (s2 : Int32) (s3 : Int32) (s4 : Nat) (h : aH) (hf : fX11_rest_13 v0 v1 s0 s1 s2 s3 s4 h = some z) : Ev (d + 2) none mX11_rest (0, 0) 13 [.ref v0, .int v1, .null] [.int s0, .int s1, .int s2, .int s3, .ref s4] h (QI z) := by
  obtain ⟨r, h2, hf⟩ := bnd hf
  refine ev_S kqX11_rest_13 jX11_in (zX11_in (d := d + 1) h2) rfl (Nat.le_of_ble_eq_true rfl) rfl (as := [.int s2, .int s1, .int s0]) (rest := [.int s3, .ref s4]) rfl (Nat.le_of_ble_eq_true rfl) (fun _ _ hq => ?_)
  obtain ⟨-, rfl, rfl⟩ := hq
  exact jm [2, 1, 0] (fun v0 v1 => fX11_rest_16 v0 v1 r.1 s3 s4 r.2) (fun v0 v1 q => tX11_rest_16 v0 v1 r.1 s3 s4 r.2 q) hf
def wX11_rest_4 : List En := [(.aload_n 0, 0, 0, 0), (.aload_n 0, 0, 0, 0), (.getfield 174, 189, 11, 14), (.iload_n 1, 0, 0, 0), (.iconst 0, 0, 0, 0), (.bipush 9, 0, 0, 0)]
def fX11_rest_4 (v0 : Nat) (v1 : Int32) (h : aH) : Option (Int32 × aH) :=
  (gFI h 11 v0 14).bind fun t1 =>
  fX11_rest_13 v0 v1 (kB 9) (kI 0) v1 t1 v0 h
theorem tX11_rest_4 {d : Nat} {z : Int32 × aH} (v0 : Nat) (v1 : Int32) (h : aH) (hf : fX11_rest_4 v0 v1 h = some z) : Ev (d + 2) none mX11_rest (0, 0) 4 [.ref v0, .int v1, .null] [] h (QI z) := 
  go_ok (X := none) (blk := wX11_rest_4) (np := 13) (tt := 0) (kN := fun xs h st => app [2, 1, 0] (fun v0 v1 => apS [1, 1, 1, 1, 2] (fun s0 s1 s2 s3 s4 => fX11_rest_13 v0 v1 s0 s1 s2 s3 s4 h) st) xs) (kT := fun _ _ _ => none) (kR := kRI)
    (fun xs h st q => jm [2, 1, 0] _ (fun v0 v1 q => apS_ok [1, 1, 1, 1, 2] _ (fun st => Ev (d + 2) none mX11_rest (0, 0) 13 [.ref v0, .int v1, .null] st h (QI z)) st (fun s0 s1 s2 s3 s4 q => tX11_rest_13 v0 v1 s0 s1 s2 s3 s4 h q) q) q)
    (fun _ _ _ q => nos q)
    kRI_ok (Or.inr rfl) (by decide +kernel) (by decide +kernel) hf
theorem kqX11_rest_1 : okC mX11_rest 1 (.invokevirtual 161) 181 196 0 0 = true := by decide +kernel
def fX11_rest_1 (v0 : Nat) (v1 : Int32) (s0 : Nat) (h : aH) : Option (Int32 × aH) :=
  (isO h 11 s0).bind fun _ =>
  (gX11_anew s0 h).bind fun r =>
  fX11_rest_4 v0 v1 r
theorem tX11_rest_1 {d : Nat} {z : Int32 × aH} (v0 : Nat) (v1 : Int32) (s0 : Nat) (h : aH) (hf : fX11_rest_1 v0 v1 s0 h = some z) : Ev (d + 2) none mX11_rest (0, 0) 1 [.ref v0, .int v1, .null] [.ref s0] h (QI z) := by
  obtain ⟨_, h1, hf⟩ := bnd hf
  obtain ⟨fs, ho⟩ := isO_ok h1
  obtain ⟨r, h2, hf⟩ := bnd hf
  refine ev_V kqX11_rest_1 jX11_anew (zX11_anew (d := d + 1) h2) ho rfl rfl (Nat.le_of_ble_eq_true rfl) rfl (as := []) (rest := []) rfl (Nat.le_of_ble_eq_true rfl) (fun _ _ hq => ?_)
  obtain ⟨rfl, hh⟩ := hq
  rw [hh]
  exact jm [2, 1, 0] (fun v0 v1 => fX11_rest_4 v0 v1 r) (fun v0 v1 q => tX11_rest_4 v0 v1 r q) hf
def wX11_rest_0 : List En := [(.aload_n 0, 0, 0, 0)]
def fX11_rest_0 (v0 : Nat) (v1 : Int32) (h : aH) : Option (Int32 × aH) :=
  fX11_rest_1 v0 v1 v0 h
theorem tX11_rest_0 {d : Nat} {z : Int32 × aH} (v0 : Nat) (v1 : Int32) (h : aH) (hf : fX11_rest_0 v0 v1 h = some z) : Ev (d + 2) none mX11_rest (0, 0) 0 [.ref v0, .int v1, .null] [] h (QI z) := 
  go_ok (X := none) (blk := wX11_rest_0) (np := 1) (tt := 0) (kN := fun xs h st => app [2, 1, 0] (fun v0 v1 => apS [2] (fun s0 => fX11_rest_1 v0 v1 s0 h) st) xs) (kT := fun _ _ _ => none) (kR := kRI)
    (fun xs h st q => jm [2, 1, 0] _ (fun v0 v1 q => apS_ok [2] _ (fun st => Ev (d + 2) none mX11_rest (0, 0) 1 [.ref v0, .int v1, .null] st h (QI z)) st (fun s0 q => tX11_rest_1 v0 v1 s0 h q) q) q)
    (fun _ _ _ q => nos q)
    kRI_ok (Or.inr rfl) (by decide +kernel) (by decide +kernel) hf
def gX11_rest (v0 : Nat) (v1 : Int32) (h : aH) : Option (Int32 × aH) := fX11_rest_0 v0 v1 h
theorem zX11_rest {d : Nat} {z : Int32 × aH} {v0 : Nat} {v1 : Int32} {h : aH} (q : gX11_rest v0 v1 h = some z) : CT (d + 2) mX11_rest (0, 0) [.ref v0, .int v1] h (QI z) :=
  ct_ev (by decide +kernel) (Nat.le_of_ble_eq_true rfl) QI_r (jm [2, 1, 0] (fun v0 v1 => fX11_rest_0 v0 v1 h) (fun v0 v1 q => tX11_rest_0 v0 v1 h q) q)
def wX11_lowest_41 : List En := [(.lload 5, 0, 0, 0), (.ldiv, 0, 0, 0), (.lreturn, 0, 0, 0)]
def fX11_lowest_41 (v5 : Int64) (s0 : Int64) (h : aH) : Option (Int64 × aH) :=
  if v5 = 0 then none else
  some ((s0 / v5), h)
theorem tX11_lowest_41 {d : Nat} {z : Int64 × aH} (v5 : Int64) (s0 : Int64) (h : aH) (hf : fX11_lowest_41 v5 s0 h = some z) : Ev (d + 0) none mX11_lowest (0, 0) 41 [.null, .null, .null, .null, .null, .long v5, .null, .null, .null, .null, .null] [.long s0] h (QJ z) := 
  go_ok (X := none) (blk := wX11_lowest_41) (np := 45) (tt := 0) (kN := fun _ _ _ => none) (kT := fun _ _ _ => none) (kR := kRJ)
    (fun _ _ _ q => nos q)
    (fun _ _ _ q => nos q)
    kRJ_ok (Or.inr rfl) (by decide +kernel) (by decide +kernel) hf
def wX11_lowest_40 : List En := [(.lload_n 0, 0, 0, 0)]
def fX11_lowest_40 (v0 : Int64) (v5 : Int64) (h : aH) : Option (Int64 × aH) :=
  fX11_lowest_41 v5 v0 h
theorem tX11_lowest_40 {d : Nat} {z : Int64 × aH} (v0 : Int64) (v5 : Int64) (h : aH) (hf : fX11_lowest_40 v0 v5 h = some z) : Ev (d + 0) none mX11_lowest (0, 0) 40 [.long v0, .null, .null, .null, .null, .long v5, .null, .null, .null, .null, .null] [] h (QJ z) := 
  go_ok (X := none) (blk := wX11_lowest_40) (np := 41) (tt := 0) (kN := fun xs h st => app [0, 0, 0, 0, 0, 3, 0, 0, 0, 0, 0] (fun v5 => apS [3] (fun s0 => fX11_lowest_41 v5 s0 h) st) xs) (kT := fun _ _ _ => none) (kR := kRJ)
    (fun xs h st q => jm [0, 0, 0, 0, 0, 3, 0, 0, 0, 0, 0] _ (fun v5 q => apS_ok [3] _ (fun st => Ev (d + 0) none mX11_lowest (0, 0) 41 [.null, .null, .null, .null, .null, .long v5, .null, .null, .null, .null, .null] st h (QJ z)) st (fun s0 q => tX11_lowest_41 v5 s0 h q) q) q)
    (fun _ _ _ q => nos q)
    kRJ_ok (Or.inr rfl) (by decide +kernel) (by decide +kernel) hf
def wX11_lowest_36 : List En := [(.lload_n 2, 0, 0, 0), (.goto 4, 41, 0, 0)]
def fX11_lowest_36 (v2 : Int64) (v5 : Int64) (h : aH) : Option (Int64 × aH) :=
  fX11_lowest_41 v5 v2 h
theorem tX11_lowest_36 {d : Nat} {z : Int64 × aH} (v2 : Int64) (v5 : Int64) (h : aH) (hf : fX11_lowest_36 v2 v5 h = some z) : Ev (d + 0) none mX11_lowest (0, 0) 36 [.null, .null, .long v2, .null, .null, .long v5, .null, .null, .null, .null, .null] [] h (QJ z) := 
  go_ok (X := none) (blk := wX11_lowest_36) (np := 40) (tt := 41) (kN := fun _ _ _ => none) (kT := fun xs h st => app [0, 0, 0, 0, 0, 3, 0, 0, 0, 0, 0] (fun v5 => apS [3] (fun s0 => fX11_lowest_41 v5 s0 h) st) xs) (kR := kRJ)
    (fun _ _ _ q => nos q)
    (fun xs h st q => jm [0, 0, 0, 0, 0, 3, 0, 0, 0, 0, 0] _ (fun v5 q => apS_ok [3] _ (fun st => Ev (d + 0) none mX11_lowest (0, 0) 41 [.null, .null, .null, .null, .null, .long v5, .null, .null, .null, .null, .null] st h (QJ z)) st (fun s0 q => tX11_lowest_41 v5 s0 h q) q) q)
    kRJ_ok (Or.inr rfl) (by decide +kernel) (by decide +kernel) hf
def wX11_lowest_31 : List En := [(.iload 4, 0, 0, 0), (.ifCond .eq 7, 40, 0, 0)]
def fX11_lowest_31 (v0 : Int64) (v2 : Int64) (v4 : Int32) (v5 : Int64) (h : aH) : Option (Int64 × aH) :=
  if v4 = 0 then fX11_lowest_40 v0 v5 h else fX11_lowest_36 v2 v5 h
theorem tX11_lowest_31 {d : Nat} {z : Int64 × aH} (v0 : Int64) (v2 : Int64) (v4 : Int32) (v5 : Int64) (h : aH) (hf : fX11_lowest_31 v0 v2 v4 v5 h = some z) : Ev (d + 0) none mX11_lowest (0, 0) 31 [.long v0, .null, .long v2, .null, .int v4, .long v5, .null, .null, .null, .null, .null] [] h (QJ z) := 
  go_ok (X := none) (blk := wX11_lowest_31) (np := 36) (tt := 40) (kN := fun xs h st => app [0, 0, 3, 0, 0, 3, 0, 0, 0, 0, 0] (fun v2 v5 => apS [] (fX11_lowest_36 v2 v5 h) st) xs) (kT := fun xs h st => app [3, 0, 0, 0, 0, 3, 0, 0, 0, 0, 0] (fun v0 v5 => apS [] (fX11_lowest_40 v0 v5 h) st) xs) (kR := kRJ)
    (fun xs h st q => jm [0, 0, 3, 0, 0, 3, 0, 0, 0, 0, 0] _ (fun v2 v5 q => apS_ok [] _ (fun st => Ev (d + 0) none mX11_lowest (0, 0) 36 [.null, .null, .long v2, .null, .null, .long v5, .null, .null, .null, .null, .null] st h (QJ z)) st (fun q => tX11_lowest_36 v2 v5 h q) q) q)
    (fun xs h st q => jm [3, 0, 0, 0, 0, 3, 0, 0, 0, 0, 0] _ (fun v0 v5 q => apS_ok [] _ (fun st => Ev (d + 0) none mX11_lowest (0, 0) 40 [.long v0, .null, .null, .null, .null, .long v5, .null, .null, .null, .null, .null] st h (QJ z)) st (fun q => tX11_lowest_40 v0 v5 h q) q) q)
    kRJ_ok (Or.inr rfl) (by decide +kernel) (by decide +kernel) hf
def wX11_lowest_13 : List En := [(.lload 5, 0, 0, 0), (.lload 7, 0, 0, 0), (.lrem, 0, 0, 0), (.lstore 9, 0, 0, 0), (.lload 7, 0, 0, 0), (.lstore 5, 0, 0, 0), (.lload 9, 0, 0, 0), (.lstore 7, 0, 0, 0), (.goto (-22), 6, 0, 0)]
def fX11_lowest_13 (k6 : Int64 → Int64 → Int32 → Int64 → Int64 → aH → Option (Int64 × aH)) (v0 : Int64) (v2 : Int64) (v4 : Int32) (v5 : Int64) (v7 : Int64) (h : aH) : Option (Int64 × aH) :=
  if v7 = 0 then none else
  k6 v0 v2 v4 v7 (v5 - v5 / v7 * v7) h
theorem tX11_lowest_13 {d : Nat} {z : Int64 × aH} {k6 : Int64 → Int64 → Int32 → Int64 → Int64 → aH → Option (Int64 × aH)} (hk6 : ∀ (v0 : Int64) (v2 : Int64) (v4 : Int32) (v5 : Int64) (v7 : Int64) (h : aH), k6 v0 v2 v4 v5 v7 h = some z → Ev (d + 0) none mX11_lowest (0, 0) 6 [.long v0, .null, .long v2, .null, .int v4, .long v5, .null, .long v7, .null, .null, .null] [] h (QJ z)) (v0 : Int64) (v2 : Int64) (v4 : Int32) (v5 : Int64) (v7 : Int64) (h : aH) (hf : fX11_lowest_13 k6 v0 v2 v4 v5 v7 h = some z) : Ev (d + 0) none mX11_lowest (0, 0) 13 [.long v0, .null, .long v2, .null, .int v4, .long v5, .null, .long v7, .null, .null, .null] [] h (QJ z) := 
  go_ok (X := none) (blk := wX11_lowest_13) (np := 31) (tt := 6) (kN := fun _ _ _ => none) (kT := fun xs h st => app [3, 0, 3, 0, 1, 3, 0, 3, 0, 0, 0] (fun v0 v2 v4 v5 v7 => apS [] (k6 v0 v2 v4 v5 v7 h) st) xs) (kR := kRJ)
    (fun _ _ _ q => nos q)
    (fun xs h st q => jm [3, 0, 3, 0, 1, 3, 0, 3, 0, 0, 0] _ (fun v0 v2 v4 v5 v7 q => apS_ok [] _ (fun st => Ev (d + 0) none mX11_lowest (0, 0) 6 [.long v0, .null, .long v2, .null, .int v4, .long v5, .null, .long v7, .null, .null, .null] st h (QJ z)) st (fun q => hk6 v0 v2 v4 v5 v7 h q) q) q)
    kRJ_ok (Or.inr rfl) (by decide +kernel) (by decide +kernel) hf
def wX11_lowest_6 : List En := [(.lload 7, 0, 0, 0), (.lconst 0, 0, 0, 0), (.lcmp, 0, 0, 0), (.ifCond .eq 21, 31, 0, 0)]
def fX11_lowest_6 (k6 : Int64 → Int64 → Int32 → Int64 → Int64 → aH → Option (Int64 × aH)) (v0 : Int64) (v2 : Int64) (v4 : Int32) (v5 : Int64) (v7 : Int64) (h : aH) : Option (Int64 × aH) :=
  if (lg_cmp v7 (kJ 0)) = 0 then fX11_lowest_31 v0 v2 v4 v5 h else fX11_lowest_13 k6 v0 v2 v4 v5 v7 h
theorem tX11_lowest_6 {d : Nat} {z : Int64 × aH} {k6 : Int64 → Int64 → Int32 → Int64 → Int64 → aH → Option (Int64 × aH)} (hk6 : ∀ (v0 : Int64) (v2 : Int64) (v4 : Int32) (v5 : Int64) (v7 : Int64) (h : aH), k6 v0 v2 v4 v5 v7 h = some z → Ev (d + 0) none mX11_lowest (0, 0) 6 [.long v0, .null, .long v2, .null, .int v4, .long v5, .null, .long v7, .null, .null, .null] [] h (QJ z)) (v0 : Int64) (v2 : Int64) (v4 : Int32) (v5 : Int64) (v7 : Int64) (h : aH) (hf : fX11_lowest_6 k6 v0 v2 v4 v5 v7 h = some z) : Ev (d + 0) none mX11_lowest (0, 0) 6 [.long v0, .null, .long v2, .null, .int v4, .long v5, .null, .long v7, .null, .null, .null] [] h (QJ z) := 
  go_ok (X := none) (blk := wX11_lowest_6) (np := 13) (tt := 31) (kN := fun xs h st => app [3, 0, 3, 0, 1, 3, 0, 3, 0, 0, 0] (fun v0 v2 v4 v5 v7 => apS [] (fX11_lowest_13 k6 v0 v2 v4 v5 v7 h) st) xs) (kT := fun xs h st => app [3, 0, 3, 0, 1, 3, 0, 0, 0, 0, 0] (fun v0 v2 v4 v5 => apS [] (fX11_lowest_31 v0 v2 v4 v5 h) st) xs) (kR := kRJ)
    (fun xs h st q => jm [3, 0, 3, 0, 1, 3, 0, 3, 0, 0, 0] _ (fun v0 v2 v4 v5 v7 q => apS_ok [] _ (fun st => Ev (d + 0) none mX11_lowest (0, 0) 13 [.long v0, .null, .long v2, .null, .int v4, .long v5, .null, .long v7, .null, .null, .null] st h (QJ z)) st (fun q => tX11_lowest_13 hk6 v0 v2 v4 v5 v7 h q) q) q)
    (fun xs h st q => jm [3, 0, 3, 0, 1, 3, 0, 0, 0, 0, 0] _ (fun v0 v2 v4 v5 q => apS_ok [] _ (fun st => Ev (d + 0) none mX11_lowest (0, 0) 31 [.long v0, .null, .long v2, .null, .int v4, .long v5, .null, .null, .null, .null, .null] st h (QJ z)) st (fun q => tX11_lowest_31 v0 v2 v4 v5 h q) q) q)
    kRJ_ok (Or.inr rfl) (by decide +kernel) (by decide +kernel) hf
def lX11_lowest_6 : Nat → Int64 → Int64 → Int32 → Int64 → Int64 → aH → Option (Int64 × aH)
  | 0, _, _, _, _, _, _ => none
  | n + 1, v0, v2, v4, v5, v7, h => fX11_lowest_6 (lX11_lowest_6 n) v0 v2 v4 v5 v7 h
theorem uX11_lowest_6 {d : Nat} {z : Int64 × aH} : ∀ (n : Nat) (v0 : Int64) (v2 : Int64) (v4 : Int32) (v5 : Int64) (v7 : Int64) (h : aH), lX11_lowest_6 n v0 v2 v4 v5 v7 h = some z → Ev (d + 0) none mX11_lowest (0, 0) 6 [.long v0, .null, .long v2, .null, .int v4, .long v5, .null, .long v7, .null, .null, .null] [] h (QJ z) := by
  intro n
  induction n with
  | zero => intro _ _ _ _ _ _ q; exact nos (show (none : Option (Int64 × aH)) = some z from q)
  | succ n ih => intro v0 v2 v4 v5 v7 h q; exact tX11_lowest_6 ih v0 v2 v4 v5 v7 h q
def wX11_lowest_0 : List En := [(.lload_n 2, 0, 0, 0), (.lstore 5, 0, 0, 0), (.lload_n 0, 0, 0, 0), (.lstore 7, 0, 0, 0)]
def fX11_lowest_0 (v0 : Int64) (v2 : Int64) (v4 : Int32) (h : aH) : Option (Int64 × aH) :=
  lX11_lowest_6 FU v0 v2 v4 v2 v0 h
theorem tX11_lowest_0 {d : Nat} {z : Int64 × aH} (v0 : Int64) (v2 : Int64) (v4 : Int32) (h : aH) (hf : fX11_lowest_0 v0 v2 v4 h = some z) : Ev (d + 0) none mX11_lowest (0, 0) 0 [.long v0, .null, .long v2, .null, .int v4, .null, .null, .null, .null, .null, .null] [] h (QJ z) := 
  go_ok (X := none) (blk := wX11_lowest_0) (np := 6) (tt := 0) (kN := fun xs h st => app [3, 0, 3, 0, 1, 3, 0, 3, 0, 0, 0] (fun v0 v2 v4 v5 v7 => apS [] (lX11_lowest_6 FU v0 v2 v4 v5 v7 h) st) xs) (kT := fun _ _ _ => none) (kR := kRJ)
    (fun xs h st q => jm [3, 0, 3, 0, 1, 3, 0, 3, 0, 0, 0] _ (fun v0 v2 v4 v5 v7 q => apS_ok [] _ (fun st => Ev (d + 0) none mX11_lowest (0, 0) 6 [.long v0, .null, .long v2, .null, .int v4, .long v5, .null, .long v7, .null, .null, .null] st h (QJ z)) st (fun q => uX11_lowest_6 FU v0 v2 v4 v5 v7 h q) q) q)
    (fun _ _ _ q => nos q)
    kRJ_ok (Or.inr rfl) (by decide +kernel) (by decide +kernel) hf
def gX11_lowest (v0 : Int64) (v2 : Int64) (v4 : Int32) (h : aH) : Option (Int64 × aH) := fX11_lowest_0 v0 v2 v4 h
theorem zX11_lowest {d : Nat} {z : Int64 × aH} {v0 : Int64} {v2 : Int64} {v4 : Int32} {h : aH} (q : gX11_lowest v0 v2 v4 h = some z) : CT (d + 0) mX11_lowest (0, 0) [.long v0, .long v2, .int v4] h (QJ z) :=
  ct_ev (by decide +kernel) (Nat.le_of_ble_eq_true rfl) QJ_r (jm [3, 0, 3, 0, 1, 0, 0, 0, 0, 0, 0] (fun v0 v2 v4 => fX11_lowest_0 v0 v2 v4 h) (fun v0 v2 v4 q => tX11_lowest_0 v0 v2 v4 h q) q)
def wX11_tryFlinch_171 : List En := [(.return_, 0, 0, 0)]
def fX11_tryFlinch_171 (h : aH) : Option (aH) :=
  some h
theorem tX11_tryFlinch_171 {d : Nat} {z : aH} (h : aH) (hf : fX11_tryFlinch_171 h = some z) : Ev (d + 4) none mX11_tryFlinch (0, 0) 171 [.null, .null, .null, .null, .null, .null, .null] [] h (QV z) := 
  go_ok (X := none) (blk := wX11_tryFlinch_171) (np := 172) (tt := 0) (kN := fun _ _ _ => none) (kT := fun _ _ _ => none) (kR := kRV)
    (fun _ _ _ q => nos q)
    (fun _ _ _ q => nos q)
    kRV_ok (Or.inr rfl) (by decide +kernel) (by decide +kernel) hf
def wX11_tryFlinch_161 : List En := [(.ladd, 0, 0, 0), (.putfield 395, 218, 11, 43), (.iinc 3 1, 0, 0, 0), (.goto (-151), 17, 0, 0)]
def fX11_tryFlinch_161 (k17 : Nat → Int32 → Int32 → Int32 → aH → Option (aH)) (v0 : Nat) (v1 : Int32) (v2 : Int32) (v3 : Int32) (s0 : Int64) (s1 : Int64) (s2 : Nat) (h : aH) : Option (aH) :=
  (pWV h 11 s2 43 (.long (s1 + s0))).bind fun h1 =>
  k17 v0 v1 v2 (v3 + kI 1) h1
theorem tX11_tryFlinch_161 {d : Nat} {z : aH} {k17 : Nat → Int32 → Int32 → Int32 → aH → Option (aH)} (hk17 : ∀ (v0 : Nat) (v1 : Int32) (v2 : Int32) (v3 : Int32) (h : aH), k17 v0 v1 v2 v3 h = some z → Ev (d + 4) none mX11_tryFlinch (0, 0) 17 [.ref v0, .int v1, .int v2, .int v3, .null, .null, .null] [] h (QV z)) (v0 : Nat) (v1 : Int32) (v2 : Int32) (v3 : Int32) (s0 : Int64) (s1 : Int64) (s2 : Nat) (h : aH) (hf : fX11_tryFlinch_161 k17 v0 v1 v2 v3 s0 s1 s2 h = some z) : Ev (d + 4) none mX11_tryFlinch (0, 0) 161 [.ref v0, .int v1, .int v2, .int v3, .null, .null, .null] [.long s0, .long s1, .ref s2] h (QV z) := 
  go_ok (X := none) (blk := wX11_tryFlinch_161) (np := 171) (tt := 17) (kN := fun _ _ _ => none) (kT := fun xs h st => app [2, 1, 1, 1, 0, 0, 0] (fun v0 v1 v2 v3 => apS [] (k17 v0 v1 v2 v3 h) st) xs) (kR := kRV)
    (fun _ _ _ q => nos q)
    (fun xs h st q => jm [2, 1, 1, 1, 0, 0, 0] _ (fun v0 v1 v2 v3 q => apS_ok [] _ (fun st => Ev (d + 4) none mX11_tryFlinch (0, 0) 17 [.ref v0, .int v1, .int v2, .int v3, .null, .null, .null] st h (QV z)) st (fun q => hk17 v0 v1 v2 v3 h q) q) q)
    kRV_ok (Or.inr rfl) (by decide +kernel) (by decide +kernel) hf
def wX11_tryFlinch_145 : List En := [(.lload 4, 0, 0, 0), (.aload_n 0, 0, 0, 0), (.getfield 35, 195, 11, 20), (.bipush 14, 0, 0, 0), (.aload_n 0, 0, 0, 0), (.getfield 257, 201, 11, 26), (.iadd, 0, 0, 0), (.iaload, 0, 0, 0), (.i2l, 0, 0, 0), (.lmul, 0, 0, 0)]
def fX11_tryFlinch_145 (k17 : Nat → Int32 → Int32 → Int32 → aH → Option (aH)) (v0 : Nat) (v1 : Int32) (v2 : Int32) (v3 : Int32) (v4 : Int64) (s0 : Int64) (s1 : Nat) (h : aH) : Option (aH) :=
  (gFR h 11 v0 20).bind fun t1 =>
  (gFI h 11 v0 26).bind fun t2 =>
  (aRI (h[t1]?) ((kB 14) + t2)).bind fun t3 =>
  fX11_tryFlinch_161 k17 v0 v1 v2 v3 (v4 * t3.toInt64) s0 s1 h
theorem tX11_tryFlinch_145 {d : Nat} {z : aH} {k17 : Nat → Int32 → Int32 → Int32 → aH → Option (aH)} (hk17 : ∀ (v0 : Nat) (v1 : Int32) (v2 : Int32) (v3 : Int32) (h : aH), k17 v0 v1 v2 v3 h = some z → Ev (d + 4) none mX11_tryFlinch (0, 0) 17 [.ref v0, .int v1, .int v2, .int v3, .null, .null, .null] [] h (QV z)) (v0 : Nat) (v1 : Int32) (v2 : Int32) (v3 : Int32) (v4 : Int64) (s0 : Int64) (s1 : Nat) (h : aH) (hf : fX11_tryFlinch_145 k17 v0 v1 v2 v3 v4 s0 s1 h = some z) : Ev (d + 4) none mX11_tryFlinch (0, 0) 145 [.ref v0, .int v1, .int v2, .int v3, .long v4, .null, .null] [.long s0, .ref s1] h (QV z) := 
  go_ok (X := none) (blk := wX11_tryFlinch_145) (np := 161) (tt := 0) (kN := fun xs h st => app [2, 1, 1, 1, 0, 0, 0] (fun v0 v1 v2 v3 => apS [3, 3, 2] (fun s0 s1 s2 => fX11_tryFlinch_161 k17 v0 v1 v2 v3 s0 s1 s2 h) st) xs) (kT := fun _ _ _ => none) (kR := kRV)
    (fun xs h st q => jm [2, 1, 1, 1, 0, 0, 0] _ (fun v0 v1 v2 v3 q => apS_ok [3, 3, 2] _ (fun st => Ev (d + 4) none mX11_tryFlinch (0, 0) 161 [.ref v0, .int v1, .int v2, .int v3, .null, .null, .null] st h (QV z)) st (fun s0 s1 s2 q => tX11_tryFlinch_161 hk17 v0 v1 v2 v3 s0 s1 s2 h q) q) q)
    (fun _ _ _ q => nos q)
    kRV_ok (Or.inr rfl) (by decide +kernel) (by decide +kernel) hf
def wX11_tryFlinch_141 : List En := [(.lconst 0, 0, 0, 0), (.goto 19, 161, 0, 0)]
def fX11_tryFlinch_141 (k17 : Nat → Int32 → Int32 → Int32 → aH → Option (aH)) (v0 : Nat) (v1 : Int32) (v2 : Int32) (v3 : Int32) (s0 : Int64) (s1 : Nat) (h : aH) : Option (aH) :=
  fX11_tryFlinch_161 k17 v0 v1 v2 v3 (kJ 0) s0 s1 h
theorem tX11_tryFlinch_141 {d : Nat} {z : aH} {k17 : Nat → Int32 → Int32 → Int32 → aH → Option (aH)} (hk17 : ∀ (v0 : Nat) (v1 : Int32) (v2 : Int32) (v3 : Int32) (h : aH), k17 v0 v1 v2 v3 h = some z → Ev (d + 4) none mX11_tryFlinch (0, 0) 17 [.ref v0, .int v1, .int v2, .int v3, .null, .null, .null] [] h (QV z)) (v0 : Nat) (v1 : Int32) (v2 : Int32) (v3 : Int32) (s0 : Int64) (s1 : Nat) (h : aH) (hf : fX11_tryFlinch_141 k17 v0 v1 v2 v3 s0 s1 h = some z) : Ev (d + 4) none mX11_tryFlinch (0, 0) 141 [.ref v0, .int v1, .int v2, .int v3, .null, .null, .null] [.long s0, .ref s1] h (QV z) := 
  go_ok (X := none) (blk := wX11_tryFlinch_141) (np := 145) (tt := 161) (kN := fun _ _ _ => none) (kT := fun xs h st => app [2, 1, 1, 1, 0, 0, 0] (fun v0 v1 v2 v3 => apS [3, 3, 2] (fun s0 s1 s2 => fX11_tryFlinch_161 k17 v0 v1 v2 v3 s0 s1 s2 h) st) xs) (kR := kRV)
    (fun _ _ _ q => nos q)
    (fun xs h st q => jm [2, 1, 1, 1, 0, 0, 0] _ (fun v0 v1 v2 v3 q => apS_ok [3, 3, 2] _ (fun st => Ev (d + 4) none mX11_tryFlinch (0, 0) 161 [.ref v0, .int v1, .int v2, .int v3, .null, .null, .null] st h (QV z)) st (fun s0 s1 s2 q => tX11_tryFlinch_161 hk17 v0 v1 v2 v3 s0 s1 s2 h q) q) q)
    kRV_ok (Or.inr rfl) (by decide +kernel) (by decide +kernel) hf
def wX11_tryFlinch_125 : List En := [(.ladd, 0, 0, 0), (.putfield 392, 217, 11, 42), (.aload_n 0, 0, 0, 0), (.dup, 0, 0, 0), (.getfield 395, 218, 11, 43), (.aload_n 0, 0, 0, 0), (.getfield 257, 201, 11, 26), (.ifCond .ge 7, 145, 0, 0)]
def fX11_tryFlinch_125 (k17 : Nat → Int32 → Int32 → Int32 → aH → Option (aH)) (v0 : Nat) (v1 : Int32) (v2 : Int32) (v3 : Int32) (v4 : Int64) (s0 : Int64) (s1 : Int64) (s2 : Nat) (h : aH) : Option (aH) :=
  (pWV h 11 s2 42 (.long (s1 + s0))).bind fun h1 =>
  (gFJ h1 11 v0 43).bind fun t2 =>
  (gFI h1 11 v0 26).bind fun t3 =>
  if t3 < 0 then fX11_tryFlinch_141 k17 v0 v1 v2 v3 t2 v0 h1 else fX11_tryFlinch_145 k17 v0 v1 v2 v3 v4 t2 v0 h1
theorem tX11_tryFlinch_125 {d : Nat} {z : aH} {k17 : Nat → Int32 → Int32 → Int32 → aH → Option (aH)} (hk17 : ∀ (v0 : Nat) (v1 : Int32) (v2 : Int32) (v3 : Int32) (h : aH), k17 v0 v1 v2 v3 h = some z → Ev (d + 4) none mX11_tryFlinch (0, 0) 17 [.ref v0, .int v1, .int v2, .int v3, .null, .null, .null] [] h (QV z)) (v0 : Nat) (v1 : Int32) (v2 : Int32) (v3 : Int32) (v4 : Int64) (s0 : Int64) (s1 : Int64) (s2 : Nat) (h : aH) (hf : fX11_tryFlinch_125 k17 v0 v1 v2 v3 v4 s0 s1 s2 h = some z) : Ev (d + 4) none mX11_tryFlinch (0, 0) 125 [.ref v0, .int v1, .int v2, .int v3, .long v4, .null, .null] [.long s0, .long s1, .ref s2] h (QV z) := 
  go_ok (X := none) (blk := wX11_tryFlinch_125) (np := 141) (tt := 145) (kN := fun xs h st => app [2, 1, 1, 1, 0, 0, 0] (fun v0 v1 v2 v3 => apS [3, 2] (fun s0 s1 => fX11_tryFlinch_141 k17 v0 v1 v2 v3 s0 s1 h) st) xs) (kT := fun xs h st => app [2, 1, 1, 1, 3, 0, 0] (fun v0 v1 v2 v3 v4 => apS [3, 2] (fun s0 s1 => fX11_tryFlinch_145 k17 v0 v1 v2 v3 v4 s0 s1 h) st) xs) (kR := kRV)
    (fun xs h st q => jm [2, 1, 1, 1, 0, 0, 0] _ (fun v0 v1 v2 v3 q => apS_ok [3, 2] _ (fun st => Ev (d + 4) none mX11_tryFlinch (0, 0) 141 [.ref v0, .int v1, .int v2, .int v3, .null, .null, .null] st h (QV z)) st (fun s0 s1 q => tX11_tryFlinch_141 hk17 v0 v1 v2 v3 s0 s1 h q) q) q)
    (fun xs h st q => jm [2, 1, 1, 1, 3, 0, 0] _ (fun v0 v1 v2 v3 v4 q => apS_ok [3, 2] _ (fun st => Ev (d + 4) none mX11_tryFlinch (0, 0) 145 [.ref v0, .int v1, .int v2, .int v3, .long v4, .null, .null] st h (QV z)) st (fun s0 s1 q => tX11_tryFlinch_145 hk17 v0 v1 v2 v3 v4 s0 s1 h q) q) q)
    kRV_ok (Or.inr rfl) (by decide +kernel) (by decide +kernel) hf
def wX11_tryFlinch_124 : List En := [(.lconst 0, 0, 0, 0)]
def fX11_tryFlinch_124 (k17 : Nat → Int32 → Int32 → Int32 → aH → Option (aH)) (v0 : Nat) (v1 : Int32) (v2 : Int32) (v3 : Int32) (v4 : Int64) (s0 : Int64) (s1 : Nat) (h : aH) : Option (aH) :=
  fX11_tryFlinch_125 k17 v0 v1 v2 v3 v4 (kJ 0) s0 s1 h
theorem tX11_tryFlinch_124 {d : Nat} {z : aH} {k17 : Nat → Int32 → Int32 → Int32 → aH → Option (aH)} (hk17 : ∀ (v0 : Nat) (v1 : Int32) (v2 : Int32) (v3 : Int32) (h : aH), k17 v0 v1 v2 v3 h = some z → Ev (d + 4) none mX11_tryFlinch (0, 0) 17 [.ref v0, .int v1, .int v2, .int v3, .null, .null, .null] [] h (QV z)) (v0 : Nat) (v1 : Int32) (v2 : Int32) (v3 : Int32) (v4 : Int64) (s0 : Int64) (s1 : Nat) (h : aH) (hf : fX11_tryFlinch_124 k17 v0 v1 v2 v3 v4 s0 s1 h = some z) : Ev (d + 4) none mX11_tryFlinch (0, 0) 124 [.ref v0, .int v1, .int v2, .int v3, .long v4, .null, .null] [.long s0, .ref s1] h (QV z) := 
  go_ok (X := none) (blk := wX11_tryFlinch_124) (np := 125) (tt := 0) (kN := fun xs h st => app [2, 1, 1, 1, 3, 0, 0] (fun v0 v1 v2 v3 v4 => apS [3, 3, 2] (fun s0 s1 s2 => fX11_tryFlinch_125 k17 v0 v1 v2 v3 v4 s0 s1 s2 h) st) xs) (kT := fun _ _ _ => none) (kR := kRV)
    (fun xs h st q => jm [2, 1, 1, 1, 3, 0, 0] _ (fun v0 v1 v2 v3 v4 q => apS_ok [3, 3, 2] _ (fun st => Ev (d + 4) none mX11_tryFlinch (0, 0) 125 [.ref v0, .int v1, .int v2, .int v3, .long v4, .null, .null] st h (QV z)) st (fun s0 s1 s2 q => tX11_tryFlinch_125 hk17 v0 v1 v2 v3 v4 s0 s1 s2 h q) q) q)
    (fun _ _ _ q => nos q)
    kRV_ok (Or.inr rfl) (by decide +kernel) (by decide +kernel) hf
def wX11_tryFlinch_119 : List En := [(.lload 4, 0, 0, 0), (.goto 4, 125, 0, 0)]
def fX11_tryFlinch_119 (k17 : Nat → Int32 → Int32 → Int32 → aH → Option (aH)) (v0 : Nat) (v1 : Int32) (v2 : Int32) (v3 : Int32) (v4 : Int64) (s0 : Int64) (s1 : Nat) (h : aH) : Option (aH) :=
  fX11_tryFlinch_125 k17 v0 v1 v2 v3 v4 v4 s0 s1 h
theorem tX11_tryFlinch_119 {d : Nat} {z : aH} {k17 : Nat → Int32 → Int32 → Int32 → aH → Option (aH)} (hk17 : ∀ (v0 : Nat) (v1 : Int32) (v2 : Int32) (v3 : Int32) (h : aH), k17 v0 v1 v2 v3 h = some z → Ev (d + 4) none mX11_tryFlinch (0, 0) 17 [.ref v0, .int v1, .int v2, .int v3, .null, .null, .null] [] h (QV z)) (v0 : Nat) (v1 : Int32) (v2 : Int32) (v3 : Int32) (v4 : Int64) (s0 : Int64) (s1 : Nat) (h : aH) (hf : fX11_tryFlinch_119 k17 v0 v1 v2 v3 v4 s0 s1 h = some z) : Ev (d + 4) none mX11_tryFlinch (0, 0) 119 [.ref v0, .int v1, .int v2, .int v3, .long v4, .null, .null] [.long s0, .ref s1] h (QV z) := 
  go_ok (X := none) (blk := wX11_tryFlinch_119) (np := 124) (tt := 125) (kN := fun _ _ _ => none) (kT := fun xs h st => app [2, 1, 1, 1, 3, 0, 0] (fun v0 v1 v2 v3 v4 => apS [3, 3, 2] (fun s0 s1 s2 => fX11_tryFlinch_125 k17 v0 v1 v2 v3 v4 s0 s1 s2 h) st) xs) (kR := kRV)
    (fun _ _ _ q => nos q)
    (fun xs h st q => jm [2, 1, 1, 1, 3, 0, 0] _ (fun v0 v1 v2 v3 v4 q => apS_ok [3, 3, 2] _ (fun st => Ev (d + 4) none mX11_tryFlinch (0, 0) 125 [.ref v0, .int v1, .int v2, .int v3, .long v4, .null, .null] st h (QV z)) st (fun s0 s1 s2 q => tX11_tryFlinch_125 hk17 v0 v1 v2 v3 v4 s0 s1 s2 h q) q) q)
    kRV_ok (Or.inr rfl) (by decide +kernel) (by decide +kernel) hf
def wX11_tryFlinch_95 : List En := [(.aload_n 0, 0, 0, 0), (.dup, 0, 0, 0), (.getfield 388, 216, 11, 41), (.lload 4, 0, 0, 0), (.ladd, 0, 0, 0), (.putfield 388, 216, 11, 41), (.aload_n 0, 0, 0, 0), (.dup, 0, 0, 0), (.getfield 392, 217, 11, 42), (.aload_n 0, 0, 0, 0), (.getfield 257, 201, 11, 26), (.iload_n 1, 0, 0, 0), (.if_icmp .ne 8, 124, 0, 0)]
def fX11_tryFlinch_95 (k17 : Nat → Int32 → Int32 → Int32 → aH → Option (aH)) (v0 : Nat) (v1 : Int32) (v2 : Int32) (v3 : Int32) (v4 : Int64) (h : aH) : Option (aH) :=
  (gFJ h 11 v0 41).bind fun t1 =>
  (pWV h 11 v0 41 (.long (t1 + v4))).bind fun h2 =>
  (gFJ h2 11 v0 42).bind fun t3 =>
  (gFI h2 11 v0 26).bind fun t4 =>
  if t4 = v1 then fX11_tryFlinch_119 k17 v0 v1 v2 v3 v4 t3 v0 h2 else fX11_tryFlinch_124 k17 v0 v1 v2 v3 v4 t3 v0 h2
theorem tX11_tryFlinch_95 {d : Nat} {z : aH} {k17 : Nat → Int32 → Int32 → Int32 → aH → Option (aH)} (hk17 : ∀ (v0 : Nat) (v1 : Int32) (v2 : Int32) (v3 : Int32) (h : aH), k17 v0 v1 v2 v3 h = some z → Ev (d + 4) none mX11_tryFlinch (0, 0) 17 [.ref v0, .int v1, .int v2, .int v3, .null, .null, .null] [] h (QV z)) (v0 : Nat) (v1 : Int32) (v2 : Int32) (v3 : Int32) (v4 : Int64) (h : aH) (hf : fX11_tryFlinch_95 k17 v0 v1 v2 v3 v4 h = some z) : Ev (d + 4) none mX11_tryFlinch (0, 0) 95 [.ref v0, .int v1, .int v2, .int v3, .long v4, .null, .null] [] h (QV z) := 
  go_ok (X := none) (blk := wX11_tryFlinch_95) (np := 119) (tt := 124) (kN := fun xs h st => app [2, 1, 1, 1, 3, 0, 0] (fun v0 v1 v2 v3 v4 => apS [3, 2] (fun s0 s1 => fX11_tryFlinch_119 k17 v0 v1 v2 v3 v4 s0 s1 h) st) xs) (kT := fun xs h st => app [2, 1, 1, 1, 3, 0, 0] (fun v0 v1 v2 v3 v4 => apS [3, 2] (fun s0 s1 => fX11_tryFlinch_124 k17 v0 v1 v2 v3 v4 s0 s1 h) st) xs) (kR := kRV)
    (fun xs h st q => jm [2, 1, 1, 1, 3, 0, 0] _ (fun v0 v1 v2 v3 v4 q => apS_ok [3, 2] _ (fun st => Ev (d + 4) none mX11_tryFlinch (0, 0) 119 [.ref v0, .int v1, .int v2, .int v3, .long v4, .null, .null] st h (QV z)) st (fun s0 s1 q => tX11_tryFlinch_119 hk17 v0 v1 v2 v3 v4 s0 s1 h q) q) q)
    (fun xs h st q => jm [2, 1, 1, 1, 3, 0, 0] _ (fun v0 v1 v2 v3 v4 q => apS_ok [3, 2] _ (fun st => Ev (d + 4) none mX11_tryFlinch (0, 0) 124 [.ref v0, .int v1, .int v2, .int v3, .long v4, .null, .null] st h (QV z)) st (fun s0 s1 q => tX11_tryFlinch_124 hk17 v0 v1 v2 v3 v4 s0 s1 h q) q) q)
    kRV_ok (Or.inr rfl) (by decide +kernel) (by decide +kernel) hf
def wX11_tryFlinch_89 : List En := [(.iinc 6 1, 0, 0, 0), (.goto (-58), 34, 0, 0)]
def fX11_tryFlinch_89 (k17 : Nat → Int32 → Int32 → Int32 → aH → Option (aH)) (k34 : Nat → Int32 → Int32 → Int32 → Int64 → Int32 → aH → Option (aH)) (v0 : Nat) (v1 : Int32) (v2 : Int32) (v3 : Int32) (v4 : Int64) (v6 : Int32) (h : aH) : Option (aH) :=
  k34 v0 v1 v2 v3 v4 (v6 + kI 1) h
theorem tX11_tryFlinch_89 {d : Nat} {z : aH} {k17 : Nat → Int32 → Int32 → Int32 → aH → Option (aH)} {k34 : Nat → Int32 → Int32 → Int32 → Int64 → Int32 → aH → Option (aH)} (hk17 : ∀ (v0 : Nat) (v1 : Int32) (v2 : Int32) (v3 : Int32) (h : aH), k17 v0 v1 v2 v3 h = some z → Ev (d + 4) none mX11_tryFlinch (0, 0) 17 [.ref v0, .int v1, .int v2, .int v3, .null, .null, .null] [] h (QV z)) (hk34 : ∀ (v0 : Nat) (v1 : Int32) (v2 : Int32) (v3 : Int32) (v4 : Int64) (v6 : Int32) (h : aH), k34 v0 v1 v2 v3 v4 v6 h = some z → Ev (d + 4) none mX11_tryFlinch (0, 0) 34 [.ref v0, .int v1, .int v2, .int v3, .long v4, .null, .int v6] [] h (QV z)) (v0 : Nat) (v1 : Int32) (v2 : Int32) (v3 : Int32) (v4 : Int64) (v6 : Int32) (h : aH) (hf : fX11_tryFlinch_89 k17 k34 v0 v1 v2 v3 v4 v6 h = some z) : Ev (d + 4) none mX11_tryFlinch (0, 0) 89 [.ref v0, .int v1, .int v2, .int v3, .long v4, .null, .int v6] [] h (QV z) := 
  go_ok (X := none) (blk := wX11_tryFlinch_89) (np := 95) (tt := 34) (kN := fun _ _ _ => none) (kT := fun xs h st => app [2, 1, 1, 1, 3, 0, 1] (fun v0 v1 v2 v3 v4 v6 => apS [] (k34 v0 v1 v2 v3 v4 v6 h) st) xs) (kR := kRV)
    (fun _ _ _ q => nos q)
    (fun xs h st q => jm [2, 1, 1, 1, 3, 0, 1] _ (fun v0 v1 v2 v3 v4 v6 q => apS_ok [] _ (fun st => Ev (d + 4) none mX11_tryFlinch (0, 0) 34 [.ref v0, .int v1, .int v2, .int v3, .long v4, .null, .int v6] st h (QV z)) st (fun q => hk34 v0 v1 v2 v3 v4 v6 h q) q) q)
    kRV_ok (Or.inr rfl) (by decide +kernel) (by decide +kernel) hf
theorem kqX11_tryFlinch_86 : okC mX11_tryFlinch 86 (.invokevirtual 281) 228 245 0 3 = true := by decide +kernel
def fX11_tryFlinch_86 (k17 : Nat → Int32 → Int32 → Int32 → aH → Option (aH)) (k34 : Nat → Int32 → Int32 → Int32 → Int64 → Int32 → aH → Option (aH)) (v0 : Nat) (v1 : Int32) (v2 : Int32) (v3 : Int32) (v4 : Int64) (v6 : Int32) (s0 : Int32) (s1 : Int32) (s2 : Nat) (s3 : Nat) (h : aH) : Option (aH) :=
  (isO h 11 s3).bind fun _ =>
  (gX11_dayOn s3 s2 s1 s0 h).bind fun r =>
  fX11_tryFlinch_89 k17 k34 v0 v1 v2 v3 v4 v6 r
theorem tX11_tryFlinch_86 {d : Nat} {z : aH} {k17 : Nat → Int32 → Int32 → Int32 → aH → Option (aH)} {k34 : Nat → Int32 → Int32 → Int32 → Int64 → Int32 → aH → Option (aH)} (hk17 : ∀ (v0 : Nat) (v1 : Int32) (v2 : Int32) (v3 : Int32) (h : aH), k17 v0 v1 v2 v3 h = some z → Ev (d + 4) none mX11_tryFlinch (0, 0) 17 [.ref v0, .int v1, .int v2, .int v3, .null, .null, .null] [] h (QV z)) (hk34 : ∀ (v0 : Nat) (v1 : Int32) (v2 : Int32) (v3 : Int32) (v4 : Int64) (v6 : Int32) (h : aH), k34 v0 v1 v2 v3 v4 v6 h = some z → Ev (d + 4) none mX11_tryFlinch (0, 0) 34 [.ref v0, .int v1, .int v2, .int v3, .long v4, .null, .int v6] [] h (QV z)) (v0 : Nat) (v1 : Int32) (v2 : Int32) (v3 : Int32) (v4 : Int64) (v6 : Int32) (s0 : Int32) (s1 : Int32) (s2 : Nat) (s3 : Nat) (h : aH) (hf : fX11_tryFlinch_86 k17 k34 v0 v1 v2 v3 v4 v6 s0 s1 s2 s3 h = some z) : Ev (d + 4) none mX11_tryFlinch (0, 0) 86 [.ref v0, .int v1, .int v2, .int v3, .long v4, .null, .int v6] [.int s0, .int s1, .ref s2, .ref s3] h (QV z) := by
  obtain ⟨_, h1, hf⟩ := bnd hf
  obtain ⟨fs, ho⟩ := isO_ok h1
  obtain ⟨r, h2, hf⟩ := bnd hf
  refine ev_V kqX11_tryFlinch_86 jX11_dayOn (zX11_dayOn (d := d + 0) h2) ho rfl rfl (Nat.le_of_ble_eq_true rfl) rfl (as := [.ref s2, .int s1, .int s0]) (rest := []) rfl (Nat.le_of_ble_eq_true rfl) (fun _ _ hq => ?_)
  obtain ⟨rfl, hh⟩ := hq
  rw [hh]
  exact jm [2, 1, 1, 1, 3, 0, 1] (fun v0 v1 v2 v3 v4 v6 => fX11_tryFlinch_89 k17 k34 v0 v1 v2 v3 v4 v6 r) (fun v0 v1 v2 v3 v4 v6 q => tX11_tryFlinch_89 hk17 hk34 v0 v1 v2 v3 v4 v6 r q) hf
theorem kqX11_tryFlinch_83 : okC mX11_tryFlinch 83 (.invokestatic 245) 222 239 1 2 = true := by decide +kernel
def fX11_tryFlinch_83 (k17 : Nat → Int32 → Int32 → Int32 → aH → Option (aH)) (k34 : Nat → Int32 → Int32 → Int32 → Int64 → Int32 → aH → Option (aH)) (v0 : Nat) (v1 : Int32) (v2 : Int32) (v3 : Int32) (v4 : Int64) (v6 : Int32) (s0 : Int32) (s1 : Int32) (s2 : Int32) (s3 : Nat) (s4 : Nat) (h : aH) : Option (aH) :=
  (gX11_hasBit s1 s0 h).bind fun r =>
  fX11_tryFlinch_86 k17 k34 v0 v1 v2 v3 v4 v6 r.1 s2 s3 s4 r.2
theorem tX11_tryFlinch_83 {d : Nat} {z : aH} {k17 : Nat → Int32 → Int32 → Int32 → aH → Option (aH)} {k34 : Nat → Int32 → Int32 → Int32 → Int64 → Int32 → aH → Option (aH)} (hk17 : ∀ (v0 : Nat) (v1 : Int32) (v2 : Int32) (v3 : Int32) (h : aH), k17 v0 v1 v2 v3 h = some z → Ev (d + 4) none mX11_tryFlinch (0, 0) 17 [.ref v0, .int v1, .int v2, .int v3, .null, .null, .null] [] h (QV z)) (hk34 : ∀ (v0 : Nat) (v1 : Int32) (v2 : Int32) (v3 : Int32) (v4 : Int64) (v6 : Int32) (h : aH), k34 v0 v1 v2 v3 v4 v6 h = some z → Ev (d + 4) none mX11_tryFlinch (0, 0) 34 [.ref v0, .int v1, .int v2, .int v3, .long v4, .null, .int v6] [] h (QV z)) (v0 : Nat) (v1 : Int32) (v2 : Int32) (v3 : Int32) (v4 : Int64) (v6 : Int32) (s0 : Int32) (s1 : Int32) (s2 : Int32) (s3 : Nat) (s4 : Nat) (h : aH) (hf : fX11_tryFlinch_83 k17 k34 v0 v1 v2 v3 v4 v6 s0 s1 s2 s3 s4 h = some z) : Ev (d + 4) none mX11_tryFlinch (0, 0) 83 [.ref v0, .int v1, .int v2, .int v3, .long v4, .null, .int v6] [.int s0, .int s1, .int s2, .ref s3, .ref s4] h (QV z) := by
  obtain ⟨r, h2, hf⟩ := bnd hf
  refine ev_S kqX11_tryFlinch_83 jX11_hasBit (zX11_hasBit (d := d + 3) h2) rfl (Nat.le_of_ble_eq_true rfl) rfl (as := [.int s1, .int s0]) (rest := [.int s2, .ref s3, .ref s4]) rfl (Nat.le_of_ble_eq_true rfl) (fun _ _ hq => ?_)
  obtain ⟨-, rfl, rfl⟩ := hq
  exact jm [2, 1, 1, 1, 3, 0, 1] (fun v0 v1 v2 v3 v4 v6 => fX11_tryFlinch_86 k17 k34 v0 v1 v2 v3 v4 v6 r.1 s2 s3 s4 r.2) (fun v0 v1 v2 v3 v4 v6 q => tX11_tryFlinch_86 hk17 hk34 v0 v1 v2 v3 v4 v6 r.1 s2 s3 s4 r.2 q) hf
def wX11_tryFlinch_71 : List En := [(.lmul, 0, 0, 0), (.lstore 4, 0, 0, 0), (.aload_n 0, 0, 0, 0), (.aload_n 0, 0, 0, 0), (.getfield 35, 195, 11, 20), (.iconst 0, 0, 0, 0), (.iload_n 3, 0, 0, 0), (.iload 6, 0, 0, 0)]
def fX11_tryFlinch_71 (k17 : Nat → Int32 → Int32 → Int32 → aH → Option (aH)) (k34 : Nat → Int32 → Int32 → Int32 → Int64 → Int32 → aH → Option (aH)) (v0 : Nat) (v1 : Int32) (v2 : Int32) (v3 : Int32) (v6 : Int32) (s0 : Int64) (s1 : Int64) (h : aH) : Option (aH) :=
  (gFR h 11 v0 20).bind fun t1 =>
  fX11_tryFlinch_83 k17 k34 v0 v1 v2 v3 (s1 * s0) v6 v6 v3 (kI 0) t1 v0 h
theorem tX11_tryFlinch_71 {d : Nat} {z : aH} {k17 : Nat → Int32 → Int32 → Int32 → aH → Option (aH)} {k34 : Nat → Int32 → Int32 → Int32 → Int64 → Int32 → aH → Option (aH)} (hk17 : ∀ (v0 : Nat) (v1 : Int32) (v2 : Int32) (v3 : Int32) (h : aH), k17 v0 v1 v2 v3 h = some z → Ev (d + 4) none mX11_tryFlinch (0, 0) 17 [.ref v0, .int v1, .int v2, .int v3, .null, .null, .null] [] h (QV z)) (hk34 : ∀ (v0 : Nat) (v1 : Int32) (v2 : Int32) (v3 : Int32) (v4 : Int64) (v6 : Int32) (h : aH), k34 v0 v1 v2 v3 v4 v6 h = some z → Ev (d + 4) none mX11_tryFlinch (0, 0) 34 [.ref v0, .int v1, .int v2, .int v3, .long v4, .null, .int v6] [] h (QV z)) (v0 : Nat) (v1 : Int32) (v2 : Int32) (v3 : Int32) (v6 : Int32) (s0 : Int64) (s1 : Int64) (h : aH) (hf : fX11_tryFlinch_71 k17 k34 v0 v1 v2 v3 v6 s0 s1 h = some z) : Ev (d + 4) none mX11_tryFlinch (0, 0) 71 [.ref v0, .int v1, .int v2, .int v3, .null, .null, .int v6] [.long s0, .long s1] h (QV z) := 
  go_ok (X := none) (blk := wX11_tryFlinch_71) (np := 83) (tt := 0) (kN := fun xs h st => app [2, 1, 1, 1, 3, 0, 1] (fun v0 v1 v2 v3 v4 v6 => apS [1, 1, 1, 2, 2] (fun s0 s1 s2 s3 s4 => fX11_tryFlinch_83 k17 k34 v0 v1 v2 v3 v4 v6 s0 s1 s2 s3 s4 h) st) xs) (kT := fun _ _ _ => none) (kR := kRV)
    (fun xs h st q => jm [2, 1, 1, 1, 3, 0, 1] _ (fun v0 v1 v2 v3 v4 v6 q => apS_ok [1, 1, 1, 2, 2] _ (fun st => Ev (d + 4) none mX11_tryFlinch (0, 0) 83 [.ref v0, .int v1, .int v2, .int v3, .long v4, .null, .int v6] st h (QV z)) st (fun s0 s1 s2 s3 s4 q => tX11_tryFlinch_83 hk17 hk34 v0 v1 v2 v3 v4 v6 s0 s1 s2 s3 s4 h q) q) q)
    (fun _ _ _ q => nos q)
    kRV_ok (Or.inr rfl) (by decide +kernel) (by decide +kernel) hf
def wX11_tryFlinch_61 : List En := [(.bipush 100, 0, 0, 0), (.aload_n 0, 0, 0, 0), (.getfield 20, 190, 11, 15), (.iconst 2, 0, 0, 0), (.iaload, 0, 0, 0), (.isub, 0, 0, 0), (.i2l, 0, 0, 0)]
def fX11_tryFlinch_61 (k17 : Nat → Int32 → Int32 → Int32 → aH → Option (aH)) (k34 : Nat → Int32 → Int32 → Int32 → Int64 → Int32 → aH → Option (aH)) (v0 : Nat) (v1 : Int32) (v2 : Int32) (v3 : Int32) (v6 : Int32) (s0 : Int64) (h : aH) : Option (aH) :=
  (gFR h 11 v0 15).bind fun t1 =>
  (aRI (h[t1]?) (kI 2)).bind fun t2 =>
  fX11_tryFlinch_71 k17 k34 v0 v1 v2 v3 v6 ((kB 100) - t2).toInt64 s0 h
theorem tX11_tryFlinch_61 {d : Nat} {z : aH} {k17 : Nat → Int32 → Int32 → Int32 → aH → Option (aH)} {k34 : Nat → Int32 → Int32 → Int32 → Int64 → Int32 → aH → Option (aH)} (hk17 : ∀ (v0 : Nat) (v1 : Int32) (v2 : Int32) (v3 : Int32) (h : aH), k17 v0 v1 v2 v3 h = some z → Ev (d + 4) none mX11_tryFlinch (0, 0) 17 [.ref v0, .int v1, .int v2, .int v3, .null, .null, .null] [] h (QV z)) (hk34 : ∀ (v0 : Nat) (v1 : Int32) (v2 : Int32) (v3 : Int32) (v4 : Int64) (v6 : Int32) (h : aH), k34 v0 v1 v2 v3 v4 v6 h = some z → Ev (d + 4) none mX11_tryFlinch (0, 0) 34 [.ref v0, .int v1, .int v2, .int v3, .long v4, .null, .int v6] [] h (QV z)) (v0 : Nat) (v1 : Int32) (v2 : Int32) (v3 : Int32) (v6 : Int32) (s0 : Int64) (h : aH) (hf : fX11_tryFlinch_61 k17 k34 v0 v1 v2 v3 v6 s0 h = some z) : Ev (d + 4) none mX11_tryFlinch (0, 0) 61 [.ref v0, .int v1, .int v2, .int v3, .null, .null, .int v6] [.long s0] h (QV z) := 
  go_ok (X := none) (blk := wX11_tryFlinch_61) (np := 71) (tt := 0) (kN := fun xs h st => app [2, 1, 1, 1, 0, 0, 1] (fun v0 v1 v2 v3 v6 => apS [3, 3] (fun s0 s1 => fX11_tryFlinch_71 k17 k34 v0 v1 v2 v3 v6 s0 s1 h) st) xs) (kT := fun _ _ _ => none) (kR := kRV)
    (fun xs h st q => jm [2, 1, 1, 1, 0, 0, 1] _ (fun v0 v1 v2 v3 v6 q => apS_ok [3, 3] _ (fun st => Ev (d + 4) none mX11_tryFlinch (0, 0) 71 [.ref v0, .int v1, .int v2, .int v3, .null, .null, .int v6] st h (QV z)) st (fun s0 s1 q => tX11_tryFlinch_71 hk17 hk34 v0 v1 v2 v3 v6 s0 s1 h q) q) q)
    (fun _ _ _ q => nos q)
    kRV_ok (Or.inr rfl) (by decide +kernel) (by decide +kernel) hf
def wX11_tryFlinch_51 : List En := [(.aload_n 0, 0, 0, 0), (.getfield 20, 190, 11, 15), (.iconst 2, 0, 0, 0), (.iaload, 0, 0, 0), (.i2l, 0, 0, 0), (.goto 13, 71, 0, 0)]
def fX11_tryFlinch_51 (k17 : Nat → Int32 → Int32 → Int32 → aH → Option (aH)) (k34 : Nat → Int32 → Int32 → Int32 → Int64 → Int32 → aH → Option (aH)) (v0 : Nat) (v1 : Int32) (v2 : Int32) (v3 : Int32) (v6 : Int32) (s0 : Int64) (h : aH) : Option (aH) :=
  (gFR h 11 v0 15).bind fun t1 =>
  (aRI (h[t1]?) (kI 2)).bind fun t2 =>
  fX11_tryFlinch_71 k17 k34 v0 v1 v2 v3 v6 t2.toInt64 s0 h
theorem tX11_tryFlinch_51 {d : Nat} {z : aH} {k17 : Nat → Int32 → Int32 → Int32 → aH → Option (aH)} {k34 : Nat → Int32 → Int32 → Int32 → Int64 → Int32 → aH → Option (aH)} (hk17 : ∀ (v0 : Nat) (v1 : Int32) (v2 : Int32) (v3 : Int32) (h : aH), k17 v0 v1 v2 v3 h = some z → Ev (d + 4) none mX11_tryFlinch (0, 0) 17 [.ref v0, .int v1, .int v2, .int v3, .null, .null, .null] [] h (QV z)) (hk34 : ∀ (v0 : Nat) (v1 : Int32) (v2 : Int32) (v3 : Int32) (v4 : Int64) (v6 : Int32) (h : aH), k34 v0 v1 v2 v3 v4 v6 h = some z → Ev (d + 4) none mX11_tryFlinch (0, 0) 34 [.ref v0, .int v1, .int v2, .int v3, .long v4, .null, .int v6] [] h (QV z)) (v0 : Nat) (v1 : Int32) (v2 : Int32) (v3 : Int32) (v6 : Int32) (s0 : Int64) (h : aH) (hf : fX11_tryFlinch_51 k17 k34 v0 v1 v2 v3 v6 s0 h = some z) : Ev (d + 4) none mX11_tryFlinch (0, 0) 51 [.ref v0, .int v1, .int v2, .int v3, .null, .null, .int v6] [.long s0] h (QV z) := 
  go_ok (X := none) (blk := wX11_tryFlinch_51) (np := 61) (tt := 71) (kN := fun _ _ _ => none) (kT := fun xs h st => app [2, 1, 1, 1, 0, 0, 1] (fun v0 v1 v2 v3 v6 => apS [3, 3] (fun s0 s1 => fX11_tryFlinch_71 k17 k34 v0 v1 v2 v3 v6 s0 s1 h) st) xs) (kR := kRV)
    (fun _ _ _ q => nos q)
    (fun xs h st q => jm [2, 1, 1, 1, 0, 0, 1] _ (fun v0 v1 v2 v3 v6 q => apS_ok [3, 3] _ (fun st => Ev (d + 4) none mX11_tryFlinch (0, 0) 71 [.ref v0, .int v1, .int v2, .int v3, .null, .null, .int v6] st h (QV z)) st (fun s0 s1 q => tX11_tryFlinch_71 hk17 hk34 v0 v1 v2 v3 v6 s0 s1 h q) q) q)
    kRV_ok (Or.inr rfl) (by decide +kernel) (by decide +kernel) hf
def wX11_tryFlinch_48 : List En := [(.ifCond .eq 13, 61, 0, 0)]
def fX11_tryFlinch_48 (k17 : Nat → Int32 → Int32 → Int32 → aH → Option (aH)) (k34 : Nat → Int32 → Int32 → Int32 → Int64 → Int32 → aH → Option (aH)) (v0 : Nat) (v1 : Int32) (v2 : Int32) (v3 : Int32) (v6 : Int32) (s0 : Int32) (s1 : Int64) (h : aH) : Option (aH) :=
  if s0 = 0 then fX11_tryFlinch_61 k17 k34 v0 v1 v2 v3 v6 s1 h else fX11_tryFlinch_51 k17 k34 v0 v1 v2 v3 v6 s1 h
theorem tX11_tryFlinch_48 {d : Nat} {z : aH} {k17 : Nat → Int32 → Int32 → Int32 → aH → Option (aH)} {k34 : Nat → Int32 → Int32 → Int32 → Int64 → Int32 → aH → Option (aH)} (hk17 : ∀ (v0 : Nat) (v1 : Int32) (v2 : Int32) (v3 : Int32) (h : aH), k17 v0 v1 v2 v3 h = some z → Ev (d + 4) none mX11_tryFlinch (0, 0) 17 [.ref v0, .int v1, .int v2, .int v3, .null, .null, .null] [] h (QV z)) (hk34 : ∀ (v0 : Nat) (v1 : Int32) (v2 : Int32) (v3 : Int32) (v4 : Int64) (v6 : Int32) (h : aH), k34 v0 v1 v2 v3 v4 v6 h = some z → Ev (d + 4) none mX11_tryFlinch (0, 0) 34 [.ref v0, .int v1, .int v2, .int v3, .long v4, .null, .int v6] [] h (QV z)) (v0 : Nat) (v1 : Int32) (v2 : Int32) (v3 : Int32) (v6 : Int32) (s0 : Int32) (s1 : Int64) (h : aH) (hf : fX11_tryFlinch_48 k17 k34 v0 v1 v2 v3 v6 s0 s1 h = some z) : Ev (d + 4) none mX11_tryFlinch (0, 0) 48 [.ref v0, .int v1, .int v2, .int v3, .null, .null, .int v6] [.int s0, .long s1] h (QV z) := 
  go_ok (X := none) (blk := wX11_tryFlinch_48) (np := 51) (tt := 61) (kN := fun xs h st => app [2, 1, 1, 1, 0, 0, 1] (fun v0 v1 v2 v3 v6 => apS [3] (fun s0 => fX11_tryFlinch_51 k17 k34 v0 v1 v2 v3 v6 s0 h) st) xs) (kT := fun xs h st => app [2, 1, 1, 1, 0, 0, 1] (fun v0 v1 v2 v3 v6 => apS [3] (fun s0 => fX11_tryFlinch_61 k17 k34 v0 v1 v2 v3 v6 s0 h) st) xs) (kR := kRV)
    (fun xs h st q => jm [2, 1, 1, 1, 0, 0, 1] _ (fun v0 v1 v2 v3 v6 q => apS_ok [3] _ (fun st => Ev (d + 4) none mX11_tryFlinch (0, 0) 51 [.ref v0, .int v1, .int v2, .int v3, .null, .null, .int v6] st h (QV z)) st (fun s0 q => tX11_tryFlinch_51 hk17 hk34 v0 v1 v2 v3 v6 s0 h q) q) q)
    (fun xs h st q => jm [2, 1, 1, 1, 0, 0, 1] _ (fun v0 v1 v2 v3 v6 q => apS_ok [3] _ (fun st => Ev (d + 4) none mX11_tryFlinch (0, 0) 61 [.ref v0, .int v1, .int v2, .int v3, .null, .null, .int v6] st h (QV z)) st (fun s0 q => tX11_tryFlinch_61 hk17 hk34 v0 v1 v2 v3 v6 s0 h q) q) q)
    kRV_ok (Or.inr rfl) (by decide +kernel) (by decide +kernel) hf
theorem kqX11_tryFlinch_45 : okC mX11_tryFlinch 45 (.invokestatic 245) 222 239 1 2 = true := by decide +kernel
def fX11_tryFlinch_45 (k17 : Nat → Int32 → Int32 → Int32 → aH → Option (aH)) (k34 : Nat → Int32 → Int32 → Int32 → Int64 → Int32 → aH → Option (aH)) (v0 : Nat) (v1 : Int32) (v2 : Int32) (v3 : Int32) (v6 : Int32) (s0 : Int32) (s1 : Int32) (s2 : Int64) (h : aH) : Option (aH) :=
  (gX11_hasBit s1 s0 h).bind fun r =>
  fX11_tryFlinch_48 k17 k34 v0 v1 v2 v3 v6 r.1 s2 r.2
theorem tX11_tryFlinch_45 {d : Nat} {z : aH} {k17 : Nat → Int32 → Int32 → Int32 → aH → Option (aH)} {k34 : Nat → Int32 → Int32 → Int32 → Int64 → Int32 → aH → Option (aH)} (hk17 : ∀ (v0 : Nat) (v1 : Int32) (v2 : Int32) (v3 : Int32) (h : aH), k17 v0 v1 v2 v3 h = some z → Ev (d + 4) none mX11_tryFlinch (0, 0) 17 [.ref v0, .int v1, .int v2, .int v3, .null, .null, .null] [] h (QV z)) (hk34 : ∀ (v0 : Nat) (v1 : Int32) (v2 : Int32) (v3 : Int32) (v4 : Int64) (v6 : Int32) (h : aH), k34 v0 v1 v2 v3 v4 v6 h = some z → Ev (d + 4) none mX11_tryFlinch (0, 0) 34 [.ref v0, .int v1, .int v2, .int v3, .long v4, .null, .int v6] [] h (QV z)) (v0 : Nat) (v1 : Int32) (v2 : Int32) (v3 : Int32) (v6 : Int32) (s0 : Int32) (s1 : Int32) (s2 : Int64) (h : aH) (hf : fX11_tryFlinch_45 k17 k34 v0 v1 v2 v3 v6 s0 s1 s2 h = some z) : Ev (d + 4) none mX11_tryFlinch (0, 0) 45 [.ref v0, .int v1, .int v2, .int v3, .null, .null, .int v6] [.int s0, .int s1, .long s2] h (QV z) := by
  obtain ⟨r, h2, hf⟩ := bnd hf
  refine ev_S kqX11_tryFlinch_45 jX11_hasBit (zX11_hasBit (d := d + 3) h2) rfl (Nat.le_of_ble_eq_true rfl) rfl (as := [.int s1, .int s0]) (rest := [.long s2]) rfl (Nat.le_of_ble_eq_true rfl) (fun _ _ hq => ?_)
  obtain ⟨-, rfl, rfl⟩ := hq
  exact jm [2, 1, 1, 1, 0, 0, 1] (fun v0 v1 v2 v3 v6 => fX11_tryFlinch_48 k17 k34 v0 v1 v2 v3 v6 r.1 s2 r.2) (fun v0 v1 v2 v3 v6 q => tX11_tryFlinch_48 hk17 hk34 v0 v1 v2 v3 v6 r.1 s2 r.2 q) hf
def wX11_tryFlinch_40 : List En := [(.lload 4, 0, 0, 0), (.iload_n 3, 0, 0, 0), (.iload 6, 0, 0, 0)]
def fX11_tryFlinch_40 (k17 : Nat → Int32 → Int32 → Int32 → aH → Option (aH)) (k34 : Nat → Int32 → Int32 → Int32 → Int64 → Int32 → aH → Option (aH)) (v0 : Nat) (v1 : Int32) (v2 : Int32) (v3 : Int32) (v4 : Int64) (v6 : Int32) (h : aH) : Option (aH) :=
  fX11_tryFlinch_45 k17 k34 v0 v1 v2 v3 v6 v6 v3 v4 h
theorem tX11_tryFlinch_40 {d : Nat} {z : aH} {k17 : Nat → Int32 → Int32 → Int32 → aH → Option (aH)} {k34 : Nat → Int32 → Int32 → Int32 → Int64 → Int32 → aH → Option (aH)} (hk17 : ∀ (v0 : Nat) (v1 : Int32) (v2 : Int32) (v3 : Int32) (h : aH), k17 v0 v1 v2 v3 h = some z → Ev (d + 4) none mX11_tryFlinch (0, 0) 17 [.ref v0, .int v1, .int v2, .int v3, .null, .null, .null] [] h (QV z)) (hk34 : ∀ (v0 : Nat) (v1 : Int32) (v2 : Int32) (v3 : Int32) (v4 : Int64) (v6 : Int32) (h : aH), k34 v0 v1 v2 v3 v4 v6 h = some z → Ev (d + 4) none mX11_tryFlinch (0, 0) 34 [.ref v0, .int v1, .int v2, .int v3, .long v4, .null, .int v6] [] h (QV z)) (v0 : Nat) (v1 : Int32) (v2 : Int32) (v3 : Int32) (v4 : Int64) (v6 : Int32) (h : aH) (hf : fX11_tryFlinch_40 k17 k34 v0 v1 v2 v3 v4 v6 h = some z) : Ev (d + 4) none mX11_tryFlinch (0, 0) 40 [.ref v0, .int v1, .int v2, .int v3, .long v4, .null, .int v6] [] h (QV z) := 
  go_ok (X := none) (blk := wX11_tryFlinch_40) (np := 45) (tt := 0) (kN := fun xs h st => app [2, 1, 1, 1, 0, 0, 1] (fun v0 v1 v2 v3 v6 => apS [1, 1, 3] (fun s0 s1 s2 => fX11_tryFlinch_45 k17 k34 v0 v1 v2 v3 v6 s0 s1 s2 h) st) xs) (kT := fun _ _ _ => none) (kR := kRV)
    (fun xs h st q => jm [2, 1, 1, 1, 0, 0, 1] _ (fun v0 v1 v2 v3 v6 q => apS_ok [1, 1, 3] _ (fun st => Ev (d + 4) none mX11_tryFlinch (0, 0) 45 [.ref v0, .int v1, .int v2, .int v3, .null, .null, .int v6] st h (QV z)) st (fun s0 s1 s2 q => tX11_tryFlinch_45 hk17 hk34 v0 v1 v2 v3 v6 s0 s1 s2 h q) q) q)
    (fun _ _ _ q => nos q)
    kRV_ok (Or.inr rfl) (by decide +kernel) (by decide +kernel) hf
def wX11_tryFlinch_34 : List En := [(.iload 6, 0, 0, 0), (.iload_n 2, 0, 0, 0), (.if_icmp .ge 58, 95, 0, 0)]
def fX11_tryFlinch_34 (k17 : Nat → Int32 → Int32 → Int32 → aH → Option (aH)) (k34 : Nat → Int32 → Int32 → Int32 → Int64 → Int32 → aH → Option (aH)) (v0 : Nat) (v1 : Int32) (v2 : Int32) (v3 : Int32) (v4 : Int64) (v6 : Int32) (h : aH) : Option (aH) :=
  if v6 < v2 then fX11_tryFlinch_40 k17 k34 v0 v1 v2 v3 v4 v6 h else fX11_tryFlinch_95 k17 v0 v1 v2 v3 v4 h
theorem tX11_tryFlinch_34 {d : Nat} {z : aH} {k17 : Nat → Int32 → Int32 → Int32 → aH → Option (aH)} {k34 : Nat → Int32 → Int32 → Int32 → Int64 → Int32 → aH → Option (aH)} (hk17 : ∀ (v0 : Nat) (v1 : Int32) (v2 : Int32) (v3 : Int32) (h : aH), k17 v0 v1 v2 v3 h = some z → Ev (d + 4) none mX11_tryFlinch (0, 0) 17 [.ref v0, .int v1, .int v2, .int v3, .null, .null, .null] [] h (QV z)) (hk34 : ∀ (v0 : Nat) (v1 : Int32) (v2 : Int32) (v3 : Int32) (v4 : Int64) (v6 : Int32) (h : aH), k34 v0 v1 v2 v3 v4 v6 h = some z → Ev (d + 4) none mX11_tryFlinch (0, 0) 34 [.ref v0, .int v1, .int v2, .int v3, .long v4, .null, .int v6] [] h (QV z)) (v0 : Nat) (v1 : Int32) (v2 : Int32) (v3 : Int32) (v4 : Int64) (v6 : Int32) (h : aH) (hf : fX11_tryFlinch_34 k17 k34 v0 v1 v2 v3 v4 v6 h = some z) : Ev (d + 4) none mX11_tryFlinch (0, 0) 34 [.ref v0, .int v1, .int v2, .int v3, .long v4, .null, .int v6] [] h (QV z) := 
  go_ok (X := none) (blk := wX11_tryFlinch_34) (np := 40) (tt := 95) (kN := fun xs h st => app [2, 1, 1, 1, 3, 0, 1] (fun v0 v1 v2 v3 v4 v6 => apS [] (fX11_tryFlinch_40 k17 k34 v0 v1 v2 v3 v4 v6 h) st) xs) (kT := fun xs h st => app [2, 1, 1, 1, 3, 0, 0] (fun v0 v1 v2 v3 v4 => apS [] (fX11_tryFlinch_95 k17 v0 v1 v2 v3 v4 h) st) xs) (kR := kRV)
    (fun xs h st q => jm [2, 1, 1, 1, 3, 0, 1] _ (fun v0 v1 v2 v3 v4 v6 q => apS_ok [] _ (fun st => Ev (d + 4) none mX11_tryFlinch (0, 0) 40 [.ref v0, .int v1, .int v2, .int v3, .long v4, .null, .int v6] st h (QV z)) st (fun q => tX11_tryFlinch_40 hk17 hk34 v0 v1 v2 v3 v4 v6 h q) q) q)
    (fun xs h st q => jm [2, 1, 1, 1, 3, 0, 0] _ (fun v0 v1 v2 v3 v4 q => apS_ok [] _ (fun st => Ev (d + 4) none mX11_tryFlinch (0, 0) 95 [.ref v0, .int v1, .int v2, .int v3, .long v4, .null, .null] st h (QV z)) st (fun q => tX11_tryFlinch_95 hk17 v0 v1 v2 v3 v4 h q) q) q)
    kRV_ok (Or.inr rfl) (by decide +kernel) (by decide +kernel) hf
def lX11_tryFlinch_34 (k17 : Nat → Int32 → Int32 → Int32 → aH → Option (aH)) : Nat → Nat → Int32 → Int32 → Int32 → Int64 → Int32 → aH → Option (aH)
  | 0, _, _, _, _, _, _, _ => none
  | n + 1, v0, v1, v2, v3, v4, v6, h => fX11_tryFlinch_34 k17 (lX11_tryFlinch_34 k17 n) v0 v1 v2 v3 v4 v6 h
theorem uX11_tryFlinch_34 {d : Nat} {z : aH} {k17 : Nat → Int32 → Int32 → Int32 → aH → Option (aH)} (hk17 : ∀ (v0 : Nat) (v1 : Int32) (v2 : Int32) (v3 : Int32) (h : aH), k17 v0 v1 v2 v3 h = some z → Ev (d + 4) none mX11_tryFlinch (0, 0) 17 [.ref v0, .int v1, .int v2, .int v3, .null, .null, .null] [] h (QV z)) : ∀ (n : Nat) (v0 : Nat) (v1 : Int32) (v2 : Int32) (v3 : Int32) (v4 : Int64) (v6 : Int32) (h : aH), lX11_tryFlinch_34 k17 n v0 v1 v2 v3 v4 v6 h = some z → Ev (d + 4) none mX11_tryFlinch (0, 0) 34 [.ref v0, .int v1, .int v2, .int v3, .long v4, .null, .int v6] [] h (QV z) := by
  intro n
  induction n with
  | zero => intro _ _ _ _ _ _ _ q; exact nos (show (none : Option (aH)) = some z from q)
  | succ n ih => intro v0 v1 v2 v3 v4 v6 h q; exact tX11_tryFlinch_34 hk17 ih v0 v1 v2 v3 v4 v6 h q
def wX11_tryFlinch_31 : List En := [(.iconst 0, 0, 0, 0), (.istore 6, 0, 0, 0)]
def fX11_tryFlinch_31 (k17 : Nat → Int32 → Int32 → Int32 → aH → Option (aH)) (v0 : Nat) (v1 : Int32) (v2 : Int32) (v3 : Int32) (v4 : Int64) (h : aH) : Option (aH) :=
  lX11_tryFlinch_34 k17 FU v0 v1 v2 v3 v4 (kI 0) h
theorem tX11_tryFlinch_31 {d : Nat} {z : aH} {k17 : Nat → Int32 → Int32 → Int32 → aH → Option (aH)} (hk17 : ∀ (v0 : Nat) (v1 : Int32) (v2 : Int32) (v3 : Int32) (h : aH), k17 v0 v1 v2 v3 h = some z → Ev (d + 4) none mX11_tryFlinch (0, 0) 17 [.ref v0, .int v1, .int v2, .int v3, .null, .null, .null] [] h (QV z)) (v0 : Nat) (v1 : Int32) (v2 : Int32) (v3 : Int32) (v4 : Int64) (h : aH) (hf : fX11_tryFlinch_31 k17 v0 v1 v2 v3 v4 h = some z) : Ev (d + 4) none mX11_tryFlinch (0, 0) 31 [.ref v0, .int v1, .int v2, .int v3, .long v4, .null, .null] [] h (QV z) := 
  go_ok (X := none) (blk := wX11_tryFlinch_31) (np := 34) (tt := 0) (kN := fun xs h st => app [2, 1, 1, 1, 3, 0, 1] (fun v0 v1 v2 v3 v4 v6 => apS [] (lX11_tryFlinch_34 k17 FU v0 v1 v2 v3 v4 v6 h) st) xs) (kT := fun _ _ _ => none) (kR := kRV)
    (fun xs h st q => jm [2, 1, 1, 1, 3, 0, 1] _ (fun v0 v1 v2 v3 v4 v6 q => apS_ok [] _ (fun st => Ev (d + 4) none mX11_tryFlinch (0, 0) 34 [.ref v0, .int v1, .int v2, .int v3, .long v4, .null, .int v6] st h (QV z)) st (fun q => uX11_tryFlinch_34 hk17 FU v0 v1 v2 v3 v4 v6 h q) q) q)
    (fun _ _ _ q => nos q)
    kRV_ok (Or.inr rfl) (by decide +kernel) (by decide +kernel) hf
theorem kqX11_tryFlinch_28 : okC mX11_tryFlinch 28 (.invokevirtual 278) 220 237 0 0 = true := by decide +kernel
def fX11_tryFlinch_28 (k17 : Nat → Int32 → Int32 → Int32 → aH → Option (aH)) (v0 : Nat) (v1 : Int32) (v2 : Int32) (v3 : Int32) (v4 : Int64) (s0 : Nat) (h : aH) : Option (aH) :=
  (isO h 11 s0).bind fun _ =>
  (gX11_begin s0 h).bind fun r =>
  fX11_tryFlinch_31 k17 v0 v1 v2 v3 v4 r
theorem tX11_tryFlinch_28 {d : Nat} {z : aH} {k17 : Nat → Int32 → Int32 → Int32 → aH → Option (aH)} (hk17 : ∀ (v0 : Nat) (v1 : Int32) (v2 : Int32) (v3 : Int32) (h : aH), k17 v0 v1 v2 v3 h = some z → Ev (d + 4) none mX11_tryFlinch (0, 0) 17 [.ref v0, .int v1, .int v2, .int v3, .null, .null, .null] [] h (QV z)) (v0 : Nat) (v1 : Int32) (v2 : Int32) (v3 : Int32) (v4 : Int64) (s0 : Nat) (h : aH) (hf : fX11_tryFlinch_28 k17 v0 v1 v2 v3 v4 s0 h = some z) : Ev (d + 4) none mX11_tryFlinch (0, 0) 28 [.ref v0, .int v1, .int v2, .int v3, .long v4, .null, .null] [.ref s0] h (QV z) := by
  obtain ⟨_, h1, hf⟩ := bnd hf
  obtain ⟨fs, ho⟩ := isO_ok h1
  obtain ⟨r, h2, hf⟩ := bnd hf
  refine ev_V kqX11_tryFlinch_28 jX11_begin (zX11_begin (d := d + 2) h2) ho rfl rfl (Nat.le_of_ble_eq_true rfl) rfl (as := []) (rest := []) rfl (Nat.le_of_ble_eq_true rfl) (fun _ _ hq => ?_)
  obtain ⟨rfl, hh⟩ := hq
  rw [hh]
  exact jm [2, 1, 1, 1, 3, 0, 0] (fun v0 v1 v2 v3 v4 => fX11_tryFlinch_31 k17 v0 v1 v2 v3 v4 r) (fun v0 v1 v2 v3 v4 q => tX11_tryFlinch_31 hk17 v0 v1 v2 v3 v4 r q) hf
def wX11_tryFlinch_24 : List En := [(.lconst 1, 0, 0, 0), (.lstore 4, 0, 0, 0), (.aload_n 0, 0, 0, 0)]
def fX11_tryFlinch_24 (k17 : Nat → Int32 → Int32 → Int32 → aH → Option (aH)) (v0 : Nat) (v1 : Int32) (v2 : Int32) (v3 : Int32) (h : aH) : Option (aH) :=
  fX11_tryFlinch_28 k17 v0 v1 v2 v3 (kJ 1) v0 h
theorem tX11_tryFlinch_24 {d : Nat} {z : aH} {k17 : Nat → Int32 → Int32 → Int32 → aH → Option (aH)} (hk17 : ∀ (v0 : Nat) (v1 : Int32) (v2 : Int32) (v3 : Int32) (h : aH), k17 v0 v1 v2 v3 h = some z → Ev (d + 4) none mX11_tryFlinch (0, 0) 17 [.ref v0, .int v1, .int v2, .int v3, .null, .null, .null] [] h (QV z)) (v0 : Nat) (v1 : Int32) (v2 : Int32) (v3 : Int32) (h : aH) (hf : fX11_tryFlinch_24 k17 v0 v1 v2 v3 h = some z) : Ev (d + 4) none mX11_tryFlinch (0, 0) 24 [.ref v0, .int v1, .int v2, .int v3, .null, .null, .null] [] h (QV z) := 
  go_ok (X := none) (blk := wX11_tryFlinch_24) (np := 28) (tt := 0) (kN := fun xs h st => app [2, 1, 1, 1, 3, 0, 0] (fun v0 v1 v2 v3 v4 => apS [2] (fun s0 => fX11_tryFlinch_28 k17 v0 v1 v2 v3 v4 s0 h) st) xs) (kT := fun _ _ _ => none) (kR := kRV)
    (fun xs h st q => jm [2, 1, 1, 1, 3, 0, 0] _ (fun v0 v1 v2 v3 v4 q => apS_ok [2] _ (fun st => Ev (d + 4) none mX11_tryFlinch (0, 0) 28 [.ref v0, .int v1, .int v2, .int v3, .long v4, .null, .null] st h (QV z)) st (fun s0 q => tX11_tryFlinch_28 hk17 v0 v1 v2 v3 v4 s0 h q) q) q)
    (fun _ _ _ q => nos q)
    kRV_ok (Or.inr rfl) (by decide +kernel) (by decide +kernel) hf
def wX11_tryFlinch_17 : List En := [(.iload_n 3, 0, 0, 0), (.iconst 1, 0, 0, 0), (.iload_n 2, 0, 0, 0), (.ishl, 0, 0, 0), (.if_icmp .ge 150, 171, 0, 0)]
def fX11_tryFlinch_17 (k17 : Nat → Int32 → Int32 → Int32 → aH → Option (aH)) (v0 : Nat) (v1 : Int32) (v2 : Int32) (v3 : Int32) (h : aH) : Option (aH) :=
  if v3 < ((kI 1) <<< (v2 &&& 31)) then fX11_tryFlinch_24 k17 v0 v1 v2 v3 h else fX11_tryFlinch_171 h
theorem tX11_tryFlinch_17 {d : Nat} {z : aH} {k17 : Nat → Int32 → Int32 → Int32 → aH → Option (aH)} (hk17 : ∀ (v0 : Nat) (v1 : Int32) (v2 : Int32) (v3 : Int32) (h : aH), k17 v0 v1 v2 v3 h = some z → Ev (d + 4) none mX11_tryFlinch (0, 0) 17 [.ref v0, .int v1, .int v2, .int v3, .null, .null, .null] [] h (QV z)) (v0 : Nat) (v1 : Int32) (v2 : Int32) (v3 : Int32) (h : aH) (hf : fX11_tryFlinch_17 k17 v0 v1 v2 v3 h = some z) : Ev (d + 4) none mX11_tryFlinch (0, 0) 17 [.ref v0, .int v1, .int v2, .int v3, .null, .null, .null] [] h (QV z) := 
  go_ok (X := none) (blk := wX11_tryFlinch_17) (np := 24) (tt := 171) (kN := fun xs h st => app [2, 1, 1, 1, 0, 0, 0] (fun v0 v1 v2 v3 => apS [] (fX11_tryFlinch_24 k17 v0 v1 v2 v3 h) st) xs) (kT := fun xs h st => app [0, 0, 0, 0, 0, 0, 0] (apS [] (fX11_tryFlinch_171 h) st) xs) (kR := kRV)
    (fun xs h st q => jm [2, 1, 1, 1, 0, 0, 0] _ (fun v0 v1 v2 v3 q => apS_ok [] _ (fun st => Ev (d + 4) none mX11_tryFlinch (0, 0) 24 [.ref v0, .int v1, .int v2, .int v3, .null, .null, .null] st h (QV z)) st (fun q => tX11_tryFlinch_24 hk17 v0 v1 v2 v3 h q) q) q)
    (fun xs h st q => jm [0, 0, 0, 0, 0, 0, 0] _ (fun q => apS_ok [] _ (fun st => Ev (d + 4) none mX11_tryFlinch (0, 0) 171 [.null, .null, .null, .null, .null, .null, .null] st h (QV z)) st (fun q => tX11_tryFlinch_171 h q) q) q)
    kRV_ok (Or.inr rfl) (by decide +kernel) (by decide +kernel) hf
def lX11_tryFlinch_17 : Nat → Nat → Int32 → Int32 → Int32 → aH → Option (aH)
  | 0, _, _, _, _, _ => none
  | n + 1, v0, v1, v2, v3, h => fX11_tryFlinch_17 (lX11_tryFlinch_17 n) v0 v1 v2 v3 h
theorem uX11_tryFlinch_17 {d : Nat} {z : aH} : ∀ (n : Nat) (v0 : Nat) (v1 : Int32) (v2 : Int32) (v3 : Int32) (h : aH), lX11_tryFlinch_17 n v0 v1 v2 v3 h = some z → Ev (d + 4) none mX11_tryFlinch (0, 0) 17 [.ref v0, .int v1, .int v2, .int v3, .null, .null, .null] [] h (QV z) := by
  intro n
  induction n with
  | zero => intro _ _ _ _ _ q; exact nos (show (none : Option (aH)) = some z from q)
  | succ n ih => intro v0 v1 v2 v3 h q; exact tX11_tryFlinch_17 ih v0 v1 v2 v3 h q
def wX11_tryFlinch_0 : List En := [(.aload_n 0, 0, 0, 0), (.lconst 0, 0, 0, 0), (.putfield 388, 216, 11, 41), (.aload_n 0, 0, 0, 0), (.lconst 0, 0, 0, 0), (.putfield 392, 217, 11, 42), (.aload_n 0, 0, 0, 0), (.lconst 0, 0, 0, 0), (.putfield 395, 218, 11, 43), (.iconst 0, 0, 0, 0), (.istore_n 3, 0, 0, 0)]
def fX11_tryFlinch_0 (v0 : Nat) (v1 : Int32) (v2 : Int32) (h : aH) : Option (aH) :=
  (pWV h 11 v0 41 (.long (kJ 0))).bind fun h1 =>
  (pWV h1 11 v0 42 (.long (kJ 0))).bind fun h2 =>
  (pWV h2 11 v0 43 (.long (kJ 0))).bind fun h3 =>
  lX11_tryFlinch_17 FU v0 v1 v2 (kI 0) h3
theorem tX11_tryFlinch_0 {d : Nat} {z : aH} (v0 : Nat) (v1 : Int32) (v2 : Int32) (h : aH) (hf : fX11_tryFlinch_0 v0 v1 v2 h = some z) : Ev (d + 4) none mX11_tryFlinch (0, 0) 0 [.ref v0, .int v1, .int v2, .null, .null, .null, .null] [] h (QV z) := 
  go_ok (X := none) (blk := wX11_tryFlinch_0) (np := 17) (tt := 0) (kN := fun xs h st => app [2, 1, 1, 1, 0, 0, 0] (fun v0 v1 v2 v3 => apS [] (lX11_tryFlinch_17 FU v0 v1 v2 v3 h) st) xs) (kT := fun _ _ _ => none) (kR := kRV)
    (fun xs h st q => jm [2, 1, 1, 1, 0, 0, 0] _ (fun v0 v1 v2 v3 q => apS_ok [] _ (fun st => Ev (d + 4) none mX11_tryFlinch (0, 0) 17 [.ref v0, .int v1, .int v2, .int v3, .null, .null, .null] st h (QV z)) st (fun q => uX11_tryFlinch_17 FU v0 v1 v2 v3 h q) q) q)
    (fun _ _ _ q => nos q)
    kRV_ok (Or.inr rfl) (by decide +kernel) (by decide +kernel) hf
def gX11_tryFlinch (v0 : Nat) (v1 : Int32) (v2 : Int32) (h : aH) : Option (aH) := fX11_tryFlinch_0 v0 v1 v2 h
theorem zX11_tryFlinch {d : Nat} {z : aH} {v0 : Nat} {v1 : Int32} {v2 : Int32} {h : aH} (q : gX11_tryFlinch v0 v1 v2 h = some z) : CT (d + 4) mX11_tryFlinch (0, 0) [.ref v0, .int v1, .int v2] h (QV z) :=
  ct_ev (by decide +kernel) (Nat.le_of_ble_eq_true rfl) QV_r (jm [2, 1, 1, 0, 0, 0, 0] (fun v0 v1 v2 => fX11_tryFlinch_0 v0 v1 v2 h) (fun v0 v1 v2 q => tX11_tryFlinch_0 v0 v1 v2 h q) q)
def wX11_odds_53 : List En := [(.lreturn, 0, 0, 0)]
def fX11_odds_53 (s0 : Int64) (h : aH) : Option (Int64 × aH) :=
  some (s0, h)
theorem tX11_odds_53 {d : Nat} {z : Int64 × aH} (s0 : Int64) (h : aH) (hf : fX11_odds_53 s0 h = some z) : Ev (d + 5) none mX11_odds (0, 0) 53 [.null, .null, .null, .null, .null] [.long s0] h (QJ z) := 
  go_ok (X := none) (blk := wX11_odds_53) (np := 54) (tt := 0) (kN := fun _ _ _ => none) (kT := fun _ _ _ => none) (kR := kRJ)
    (fun _ _ _ q => nos q)
    (fun _ _ _ q => nos q)
    kRJ_ok (Or.inr rfl) (by decide +kernel) (by decide +kernel) hf
theorem kqX11_odds_50 : okC mX11_odds 50 (.invokestatic 401) 287 304 1 3 = true := by decide +kernel
def fX11_odds_50 (s0 : Int32) (s1 : Int64) (s2 : Int64) (h : aH) : Option (Int64 × aH) :=
  (gX11_lowest s2 s1 s0 h).bind fun r =>
  fX11_odds_53 r.1 r.2
theorem tX11_odds_50 {d : Nat} {z : Int64 × aH} (s0 : Int32) (s1 : Int64) (s2 : Int64) (h : aH) (hf : fX11_odds_50 s0 s1 s2 h = some z) : Ev (d + 5) none mX11_odds (0, 0) 50 [.null, .null, .null, .null, .null] [.int s0, .long s1, .long s2] h (QJ z) := by
  obtain ⟨r, h2, hf⟩ := bnd hf
  refine ev_S kqX11_odds_50 jX11_lowest (zX11_lowest (d := d + 4) h2) rfl (Nat.le_of_ble_eq_true rfl) rfl (as := [.long s2, .long s1, .int s0]) (rest := []) rfl (Nat.le_of_ble_eq_true rfl) (fun _ _ hq => ?_)
  obtain ⟨rfl, rfl⟩ := hq
  exact jm [0, 0, 0, 0, 0] (fX11_odds_53 r.1 r.2) (fun q => tX11_odds_53 r.1 r.2 q) hf
def wX11_odds_41 : List En := [(.aload_n 0, 0, 0, 0), (.getfield 392, 217, 11, 42), (.aload_n 0, 0, 0, 0), (.getfield 388, 216, 11, 41), (.iload_n 3, 0, 0, 0)]
def fX11_odds_41 (v0 : Nat) (v3 : Int32) (h : aH) : Option (Int64 × aH) :=
  (gFJ h 11 v0 42).bind fun t1 =>
  (gFJ h 11 v0 41).bind fun t2 =>
  fX11_odds_50 v3 t2 t1 h
theorem tX11_odds_41 {d : Nat} {z : Int64 × aH} (v0 : Nat) (v3 : Int32) (h : aH) (hf : fX11_odds_41 v0 v3 h = some z) : Ev (d + 5) none mX11_odds (0, 0) 41 [.ref v0, .null, .null, .int v3, .null] [] h (QJ z) := 
  go_ok (X := none) (blk := wX11_odds_41) (np := 50) (tt := 0) (kN := fun xs h st => app [0, 0, 0, 0, 0] (apS [1, 3, 3] (fun s0 s1 s2 => fX11_odds_50 s0 s1 s2 h) st) xs) (kT := fun _ _ _ => none) (kR := kRJ)
    (fun xs h st q => jm [0, 0, 0, 0, 0] _ (fun q => apS_ok [1, 3, 3] _ (fun st => Ev (d + 5) none mX11_odds (0, 0) 50 [.null, .null, .null, .null, .null] st h (QJ z)) st (fun s0 s1 s2 q => tX11_odds_50 s0 s1 s2 h q) q) q)
    (fun _ _ _ q => nos q)
    kRJ_ok (Or.inr rfl) (by decide +kernel) (by decide +kernel) hf
theorem kqX11_odds_38 : okC mX11_odds 38 (.invokevirtual 398) 286 303 0 2 = true := by decide +kernel
def fX11_odds_38 (v0 : Nat) (v3 : Int32) (s0 : Int32) (s1 : Int32) (s2 : Nat) (h : aH) : Option (Int64 × aH) :=
  (isO h 11 s2).bind fun _ =>
  (gX11_tryFlinch s2 s1 s0 h).bind fun r =>
  fX11_odds_41 v0 v3 r
theorem tX11_odds_38 {d : Nat} {z : Int64 × aH} (v0 : Nat) (v3 : Int32) (s0 : Int32) (s1 : Int32) (s2 : Nat) (h : aH) (hf : fX11_odds_38 v0 v3 s0 s1 s2 h = some z) : Ev (d + 5) none mX11_odds (0, 0) 38 [.ref v0, .null, .null, .int v3, .null] [.int s0, .int s1, .ref s2] h (QJ z) := by
  obtain ⟨_, h1, hf⟩ := bnd hf
  obtain ⟨fs, ho⟩ := isO_ok h1
  obtain ⟨r, h2, hf⟩ := bnd hf
  refine ev_V kqX11_odds_38 jX11_tryFlinch (zX11_tryFlinch (d := d + 0) h2) ho rfl rfl (Nat.le_of_ble_eq_true rfl) rfl (as := [.int s1, .int s0]) (rest := []) rfl (Nat.le_of_ble_eq_true rfl) (fun _ _ hq => ?_)
  obtain ⟨rfl, hh⟩ := hq
  rw [hh]
  exact jm [2, 0, 0, 1, 0] (fun v0 v3 => fX11_odds_41 v0 v3 r) (fun v0 v3 q => tX11_odds_41 v0 v3 r q) hf
def wX11_odds_35 : List En := [(.aload_n 0, 0, 0, 0), (.iload_n 1, 0, 0, 0), (.iload_n 2, 0, 0, 0)]
def fX11_odds_35 (v0 : Nat) (v1 : Int32) (v2 : Int32) (v3 : Int32) (h : aH) : Option (Int64 × aH) :=
  fX11_odds_38 v0 v3 v2 v1 v0 h
theorem tX11_odds_35 {d : Nat} {z : Int64 × aH} (v0 : Nat) (v1 : Int32) (v2 : Int32) (v3 : Int32) (h : aH) (hf : fX11_odds_35 v0 v1 v2 v3 h = some z) : Ev (d + 5) none mX11_odds (0, 0) 35 [.ref v0, .int v1, .int v2, .int v3, .null] [] h (QJ z) := 
  go_ok (X := none) (blk := wX11_odds_35) (np := 38) (tt := 0) (kN := fun xs h st => app [2, 0, 0, 1, 0] (fun v0 v3 => apS [1, 1, 2] (fun s0 s1 s2 => fX11_odds_38 v0 v3 s0 s1 s2 h) st) xs) (kT := fun _ _ _ => none) (kR := kRJ)
    (fun xs h st q => jm [2, 0, 0, 1, 0] _ (fun v0 v3 q => apS_ok [1, 1, 2] _ (fun st => Ev (d + 5) none mX11_odds (0, 0) 38 [.ref v0, .null, .null, .int v3, .null] st h (QJ z)) st (fun s0 s1 s2 q => tX11_odds_38 v0 v3 s0 s1 s2 h q) q) q)
    (fun _ _ _ q => nos q)
    kRJ_ok (Or.inr rfl) (by decide +kernel) (by decide +kernel) hf
def wX11_odds_33 : List En := [(.i2l, 0, 0, 0), (.lreturn, 0, 0, 0)]
def fX11_odds_33 (s0 : Int32) (h : aH) : Option (Int64 × aH) :=
  some (s0.toInt64, h)
theorem tX11_odds_33 {d : Nat} {z : Int64 × aH} (s0 : Int32) (h : aH) (hf : fX11_odds_33 s0 h = some z) : Ev (d + 5) none mX11_odds (0, 0) 33 [.null, .null, .null, .null, .null] [.int s0] h (QJ z) := 
  go_ok (X := none) (blk := wX11_odds_33) (np := 35) (tt := 0) (kN := fun _ _ _ => none) (kT := fun _ _ _ => none) (kR := kRJ)
    (fun _ _ _ q => nos q)
    (fun _ _ _ q => nos q)
    kRJ_ok (Or.inr rfl) (by decide +kernel) (by decide +kernel) hf
theorem kqX11_odds_30 : okC mX11_odds 30 (.invokevirtual 164) 183 198 0 1 = true := by decide +kernel
def fX11_odds_30 (s0 : Int32) (s1 : Nat) (h : aH) : Option (Int64 × aH) :=
  (isO h 11 s1).bind fun _ =>
  (gX11_no s1 s0 h).bind fun r =>
  fX11_odds_33 r.1 r.2
theorem tX11_odds_30 {d : Nat} {z : Int64 × aH} (s0 : Int32) (s1 : Nat) (h : aH) (hf : fX11_odds_30 s0 s1 h = some z) : Ev (d + 5) none mX11_odds (0, 0) 30 [.null, .null, .null, .null, .null] [.int s0, .ref s1] h (QJ z) := by
  obtain ⟨_, h1, hf⟩ := bnd hf
  obtain ⟨fs, ho⟩ := isO_ok h1
  obtain ⟨r, h2, hf⟩ := bnd hf
  refine ev_V kqX11_odds_30 jX11_no (zX11_no (d := d + 4) h2) ho rfl rfl (Nat.le_of_ble_eq_true rfl) rfl (as := [.int s0]) (rest := []) rfl (Nat.le_of_ble_eq_true rfl) (fun _ _ hq => ?_)
  obtain ⟨rfl, rfl⟩ := hq
  exact jm [0, 0, 0, 0, 0] (fX11_odds_33 r.1 r.2) (fun q => tX11_odds_33 r.1 r.2 q) hf
def wX11_odds_27 : List En := [(.aload_n 0, 0, 0, 0), (.iload 4, 0, 0, 0)]
def fX11_odds_27 (v0 : Nat) (v4 : Int32) (h : aH) : Option (Int64 × aH) :=
  fX11_odds_30 v4 v0 h
theorem tX11_odds_27 {d : Nat} {z : Int64 × aH} (v0 : Nat) (v4 : Int32) (h : aH) (hf : fX11_odds_27 v0 v4 h = some z) : Ev (d + 5) none mX11_odds (0, 0) 27 [.ref v0, .null, .null, .null, .int v4] [] h (QJ z) := 
  go_ok (X := none) (blk := wX11_odds_27) (np := 30) (tt := 0) (kN := fun xs h st => app [0, 0, 0, 0, 0] (apS [1, 2] (fun s0 s1 => fX11_odds_30 s0 s1 h) st) xs) (kT := fun _ _ _ => none) (kR := kRJ)
    (fun xs h st q => jm [0, 0, 0, 0, 0] _ (fun q => apS_ok [1, 2] _ (fun st => Ev (d + 5) none mX11_odds (0, 0) 30 [.null, .null, .null, .null, .null] st h (QJ z)) st (fun s0 s1 q => tX11_odds_30 s0 s1 h q) q) q)
    (fun _ _ _ q => nos q)
    kRJ_ok (Or.inr rfl) (by decide +kernel) (by decide +kernel) hf
def wX11_odds_20 : List En := [(.istore 4, 0, 0, 0), (.iload 4, 0, 0, 0), (.ifCond .eq 11, 35, 0, 0)]
def fX11_odds_20 (v0 : Nat) (v1 : Int32) (v2 : Int32) (v3 : Int32) (s0 : Int32) (h : aH) : Option (Int64 × aH) :=
  if s0 = 0 then fX11_odds_35 v0 v1 v2 v3 h else fX11_odds_27 v0 s0 h
theorem tX11_odds_20 {d : Nat} {z : Int64 × aH} (v0 : Nat) (v1 : Int32) (v2 : Int32) (v3 : Int32) (s0 : Int32) (h : aH) (hf : fX11_odds_20 v0 v1 v2 v3 s0 h = some z) : Ev (d + 5) none mX11_odds (0, 0) 20 [.ref v0, .int v1, .int v2, .int v3, .null] [.int s0] h (QJ z) := 
  go_ok (X := none) (blk := wX11_odds_20) (np := 27) (tt := 35) (kN := fun xs h st => app [2, 0, 0, 0, 1] (fun v0 v4 => apS [] (fX11_odds_27 v0 v4 h) st) xs) (kT := fun xs h st => app [2, 1, 1, 1, 0] (fun v0 v1 v2 v3 => apS [] (fX11_odds_35 v0 v1 v2 v3 h) st) xs) (kR := kRJ)
    (fun xs h st q => jm [2, 0, 0, 0, 1] _ (fun v0 v4 q => apS_ok [] _ (fun st => Ev (d + 5) none mX11_odds (0, 0) 27 [.ref v0, .null, .null, .null, .int v4] st h (QJ z)) st (fun q => tX11_odds_27 v0 v4 h q) q) q)
    (fun xs h st q => jm [2, 1, 1, 1, 0] _ (fun v0 v1 v2 v3 q => apS_ok [] _ (fun st => Ev (d + 5) none mX11_odds (0, 0) 35 [.ref v0, .int v1, .int v2, .int v3, .null] st h (QJ z)) st (fun q => tX11_odds_35 v0 v1 v2 v3 h q) q) q)
    kRJ_ok (Or.inr rfl) (by decide +kernel) (by decide +kernel) hf
theorem kqX11_odds_17 : okC mX11_odds 17 (.invokevirtual 241) 235 252 0 2 = true := by decide +kernel
def fX11_odds_17 (v0 : Nat) (v1 : Int32) (v2 : Int32) (v3 : Int32) (s0 : Int32) (s1 : Int32) (s2 : Nat) (h : aH) : Option (Int64 × aH) :=
  (isO h 11 s2).bind fun _ =>
  (gX11_why s2 s1 s0 h).bind fun r =>
  fX11_odds_20 v0 v1 v2 v3 r.1 r.2
theorem tX11_odds_17 {d : Nat} {z : Int64 × aH} (v0 : Nat) (v1 : Int32) (v2 : Int32) (v3 : Int32) (s0 : Int32) (s1 : Int32) (s2 : Nat) (h : aH) (hf : fX11_odds_17 v0 v1 v2 v3 s0 s1 s2 h = some z) : Ev (d + 5) none mX11_odds (0, 0) 17 [.ref v0, .int v1, .int v2, .int v3, .null] [.int s0, .int s1, .ref s2] h (QJ z) := by
  obtain ⟨_, h1, hf⟩ := bnd hf
  obtain ⟨fs, ho⟩ := isO_ok h1
  obtain ⟨r, h2, hf⟩ := bnd hf
  refine ev_V kqX11_odds_17 jX11_why (zX11_why (d := d + 4) h2) ho rfl rfl (Nat.le_of_ble_eq_true rfl) rfl (as := [.int s1, .int s0]) (rest := []) rfl (Nat.le_of_ble_eq_true rfl) (fun _ _ hq => ?_)
  obtain ⟨rfl, rfl⟩ := hq
  exact jm [2, 1, 1, 1, 0] (fun v0 v1 v2 v3 => fX11_odds_20 v0 v1 v2 v3 r.1 r.2) (fun v0 v1 v2 v3 q => tX11_odds_20 v0 v1 v2 v3 r.1 r.2 q) hf
theorem kqX11_odds_14 : okC mX11_odds 14 (.invokestatic 140) 182 197 1 3 = true := by decide +kernel
def fX11_odds_14 (v0 : Nat) (v1 : Int32) (v2 : Int32) (v3 : Int32) (s0 : Int32) (s1 : Int32) (s2 : Int32) (s3 : Int32) (s4 : Nat) (h : aH) : Option (Int64 × aH) :=
  (gX11_in s2 s1 s0 h).bind fun r =>
  fX11_odds_17 v0 v1 v2 v3 r.1 s3 s4 r.2
theorem tX11_odds_14 {d : Nat} {z : Int64 × aH} (v0 : Nat) (v1 : Int32) (v2 : Int32) (v3 : Int32) (s0 : Int32) (s1 : Int32) (s2 : Int32) (s3 : Int32) (s4 : Nat) (h : aH) (hf : fX11_odds_14 v0 v1 v2 v3 s0 s1 s2 s3 s4 h = some z) : Ev (d + 5) none mX11_odds (0, 0) 14 [.ref v0, .int v1, .int v2, .int v3, .null] [.int s0, .int s1, .int s2, .int s3, .ref s4] h (QJ z) := by
  obtain ⟨r, h2, hf⟩ := bnd hf
  refine ev_S kqX11_odds_14 jX11_in (zX11_in (d := d + 4) h2) rfl (Nat.le_of_ble_eq_true rfl) rfl (as := [.int s2, .int s1, .int s0]) (rest := [.int s3, .ref s4]) rfl (Nat.le_of_ble_eq_true rfl) (fun _ _ hq => ?_)
  obtain ⟨-, rfl, rfl⟩ := hq
  exact jm [2, 1, 1, 1, 0] (fun v0 v1 v2 v3 => fX11_odds_17 v0 v1 v2 v3 r.1 s3 s4 r.2) (fun v0 v1 v2 v3 q => tX11_odds_17 v0 v1 v2 v3 r.1 s3 s4 r.2 q) hf
def wX11_odds_10 : List En := [(.iload_n 2, 0, 0, 0), (.iconst 1, 0, 0, 0), (.bipush 6, 0, 0, 0)]
def fX11_odds_10 (v0 : Nat) (v1 : Int32) (v2 : Int32) (v3 : Int32) (s0 : Int32) (s1 : Nat) (h : aH) : Option (Int64 × aH) :=
  fX11_odds_14 v0 v1 v2 v3 (kB 6) (kI 1) v2 s0 s1 h
theorem tX11_odds_10 {d : Nat} {z : Int64 × aH} (v0 : Nat) (v1 : Int32) (v2 : Int32) (v3 : Int32) (s0 : Int32) (s1 : Nat) (h : aH) (hf : fX11_odds_10 v0 v1 v2 v3 s0 s1 h = some z) : Ev (d + 5) none mX11_odds (0, 0) 10 [.ref v0, .int v1, .int v2, .int v3, .null] [.int s0, .ref s1] h (QJ z) := 
  go_ok (X := none) (blk := wX11_odds_10) (np := 14) (tt := 0) (kN := fun xs h st => app [2, 1, 1, 1, 0] (fun v0 v1 v2 v3 => apS [1, 1, 1, 1, 2] (fun s0 s1 s2 s3 s4 => fX11_odds_14 v0 v1 v2 v3 s0 s1 s2 s3 s4 h) st) xs) (kT := fun _ _ _ => none) (kR := kRJ)
    (fun xs h st q => jm [2, 1, 1, 1, 0] _ (fun v0 v1 v2 v3 q => apS_ok [1, 1, 1, 1, 2] _ (fun st => Ev (d + 5) none mX11_odds (0, 0) 14 [.ref v0, .int v1, .int v2, .int v3, .null] st h (QJ z)) st (fun s0 s1 s2 s3 s4 q => tX11_odds_14 v0 v1 v2 v3 s0 s1 s2 s3 s4 h q) q) q)
    (fun _ _ _ q => nos q)
    kRJ_ok (Or.inr rfl) (by decide +kernel) (by decide +kernel) hf
theorem kqX11_odds_7 : okC mX11_odds 7 (.invokevirtual 288) 216 233 0 1 = true := by decide +kernel
def fX11_odds_7 (v0 : Nat) (v1 : Int32) (v2 : Int32) (v3 : Int32) (s0 : Int32) (s1 : Nat) (s2 : Nat) (h : aH) : Option (Int64 × aH) :=
  (isO h 11 s1).bind fun _ =>
  (gX11_isName s1 s0 h).bind fun r =>
  fX11_odds_10 v0 v1 v2 v3 r.1 s2 r.2
theorem tX11_odds_7 {d : Nat} {z : Int64 × aH} (v0 : Nat) (v1 : Int32) (v2 : Int32) (v3 : Int32) (s0 : Int32) (s1 : Nat) (s2 : Nat) (h : aH) (hf : fX11_odds_7 v0 v1 v2 v3 s0 s1 s2 h = some z) : Ev (d + 5) none mX11_odds (0, 0) 7 [.ref v0, .int v1, .int v2, .int v3, .null] [.int s0, .ref s1, .ref s2] h (QJ z) := by
  obtain ⟨_, h1, hf⟩ := bnd hf
  obtain ⟨fs, ho⟩ := isO_ok h1
  obtain ⟨r, h2, hf⟩ := bnd hf
  refine ev_V kqX11_odds_7 jX11_isName (zX11_isName (d := d + 3) h2) ho rfl rfl (Nat.le_of_ble_eq_true rfl) rfl (as := [.int s0]) (rest := [.ref s2]) rfl (Nat.le_of_ble_eq_true rfl) (fun _ _ hq => ?_)
  obtain ⟨-, rfl, rfl⟩ := hq
  exact jm [2, 1, 1, 1, 0] (fun v0 v1 v2 v3 => fX11_odds_10 v0 v1 v2 v3 r.1 s2 r.2) (fun v0 v1 v2 v3 q => tX11_odds_10 v0 v1 v2 v3 r.1 s2 r.2 q) hf
def wX11_odds_4 : List En := [(.aload_n 0, 0, 0, 0), (.aload_n 0, 0, 0, 0), (.iload_n 1, 0, 0, 0)]
def fX11_odds_4 (v0 : Nat) (v1 : Int32) (v2 : Int32) (v3 : Int32) (h : aH) : Option (Int64 × aH) :=
  fX11_odds_7 v0 v1 v2 v3 v1 v0 v0 h
theorem tX11_odds_4 {d : Nat} {z : Int64 × aH} (v0 : Nat) (v1 : Int32) (v2 : Int32) (v3 : Int32) (h : aH) (hf : fX11_odds_4 v0 v1 v2 v3 h = some z) : Ev (d + 5) none mX11_odds (0, 0) 4 [.ref v0, .int v1, .int v2, .int v3, .null] [] h (QJ z) := 
  go_ok (X := none) (blk := wX11_odds_4) (np := 7) (tt := 0) (kN := fun xs h st => app [2, 1, 1, 1, 0] (fun v0 v1 v2 v3 => apS [1, 2, 2] (fun s0 s1 s2 => fX11_odds_7 v0 v1 v2 v3 s0 s1 s2 h) st) xs) (kT := fun _ _ _ => none) (kR := kRJ)
    (fun xs h st q => jm [2, 1, 1, 1, 0] _ (fun v0 v1 v2 v3 q => apS_ok [1, 2, 2] _ (fun st => Ev (d + 5) none mX11_odds (0, 0) 7 [.ref v0, .int v1, .int v2, .int v3, .null] st h (QJ z)) st (fun s0 s1 s2 q => tX11_odds_7 v0 v1 v2 v3 s0 s1 s2 h q) q) q)
    (fun _ _ _ q => nos q)
    kRJ_ok (Or.inr rfl) (by decide +kernel) (by decide +kernel) hf
theorem kqX11_odds_1 : okC mX11_odds 1 (.invokevirtual 161) 181 196 0 0 = true := by decide +kernel
def fX11_odds_1 (v0 : Nat) (v1 : Int32) (v2 : Int32) (v3 : Int32) (s0 : Nat) (h : aH) : Option (Int64 × aH) :=
  (isO h 11 s0).bind fun _ =>
  (gX11_anew s0 h).bind fun r =>
  fX11_odds_4 v0 v1 v2 v3 r
theorem tX11_odds_1 {d : Nat} {z : Int64 × aH} (v0 : Nat) (v1 : Int32) (v2 : Int32) (v3 : Int32) (s0 : Nat) (h : aH) (hf : fX11_odds_1 v0 v1 v2 v3 s0 h = some z) : Ev (d + 5) none mX11_odds (0, 0) 1 [.ref v0, .int v1, .int v2, .int v3, .null] [.ref s0] h (QJ z) := by
  obtain ⟨_, h1, hf⟩ := bnd hf
  obtain ⟨fs, ho⟩ := isO_ok h1
  obtain ⟨r, h2, hf⟩ := bnd hf
  refine ev_V kqX11_odds_1 jX11_anew (zX11_anew (d := d + 4) h2) ho rfl rfl (Nat.le_of_ble_eq_true rfl) rfl (as := []) (rest := []) rfl (Nat.le_of_ble_eq_true rfl) (fun _ _ hq => ?_)
  obtain ⟨rfl, hh⟩ := hq
  rw [hh]
  exact jm [2, 1, 1, 1, 0] (fun v0 v1 v2 v3 => fX11_odds_4 v0 v1 v2 v3 r) (fun v0 v1 v2 v3 q => tX11_odds_4 v0 v1 v2 v3 r q) hf
def wX11_odds_0 : List En := [(.aload_n 0, 0, 0, 0)]
def fX11_odds_0 (v0 : Nat) (v1 : Int32) (v2 : Int32) (v3 : Int32) (h : aH) : Option (Int64 × aH) :=
  fX11_odds_1 v0 v1 v2 v3 v0 h
theorem tX11_odds_0 {d : Nat} {z : Int64 × aH} (v0 : Nat) (v1 : Int32) (v2 : Int32) (v3 : Int32) (h : aH) (hf : fX11_odds_0 v0 v1 v2 v3 h = some z) : Ev (d + 5) none mX11_odds (0, 0) 0 [.ref v0, .int v1, .int v2, .int v3, .null] [] h (QJ z) := 
  go_ok (X := none) (blk := wX11_odds_0) (np := 1) (tt := 0) (kN := fun xs h st => app [2, 1, 1, 1, 0] (fun v0 v1 v2 v3 => apS [2] (fun s0 => fX11_odds_1 v0 v1 v2 v3 s0 h) st) xs) (kT := fun _ _ _ => none) (kR := kRJ)
    (fun xs h st q => jm [2, 1, 1, 1, 0] _ (fun v0 v1 v2 v3 q => apS_ok [2] _ (fun st => Ev (d + 5) none mX11_odds (0, 0) 1 [.ref v0, .int v1, .int v2, .int v3, .null] st h (QJ z)) st (fun s0 q => tX11_odds_1 v0 v1 v2 v3 s0 h q) q) q)
    (fun _ _ _ q => nos q)
    kRJ_ok (Or.inr rfl) (by decide +kernel) (by decide +kernel) hf
def gX11_odds (v0 : Nat) (v1 : Int32) (v2 : Int32) (v3 : Int32) (h : aH) : Option (Int64 × aH) := fX11_odds_0 v0 v1 v2 v3 h
theorem zX11_odds {d : Nat} {z : Int64 × aH} {v0 : Nat} {v1 : Int32} {v2 : Int32} {v3 : Int32} {h : aH} (q : gX11_odds v0 v1 v2 v3 h = some z) : CT (d + 5) mX11_odds (0, 0) [.ref v0, .int v1, .int v2, .int v3] h (QJ z) :=
  ct_ev (by decide +kernel) (Nat.le_of_ble_eq_true rfl) QJ_r (jm [2, 1, 1, 1, 0] (fun v0 v1 v2 v3 => fX11_odds_0 v0 v1 v2 v3 h) (fun v0 v1 v2 v3 q => tX11_odds_0 v0 v1 v2 v3 h q) q)
def wX11_mean_49 : List En := [(.lreturn, 0, 0, 0)]
def fX11_mean_49 (s0 : Int64) (h : aH) : Option (Int64 × aH) :=
  some (s0, h)
theorem tX11_mean_49 {d : Nat} {z : Int64 × aH} (s0 : Int64) (h : aH) (hf : fX11_mean_49 s0 h = some z) : Ev (d + 5) none mX11_mean (0, 0) 49 [.null, .null, .null, .null] [.long s0] h (QJ z) := 
  go_ok (X := none) (blk := wX11_mean_49) (np := 50) (tt := 0) (kN := fun _ _ _ => none) (kT := fun _ _ _ => none) (kR := kRJ)
    (fun _ _ _ q => nos q)
    (fun _ _ _ q => nos q)
    kRJ_ok (Or.inr rfl) (by decide +kernel) (by decide +kernel) hf
theorem kqX11_mean_46 : okC mX11_mean 46 (.invokestatic 401) 287 304 1 3 = true := by decide +kernel
def fX11_mean_46 (s0 : Int32) (s1 : Int64) (s2 : Int64) (h : aH) : Option (Int64 × aH) :=
  (gX11_lowest s2 s1 s0 h).bind fun r =>
  fX11_mean_49 r.1 r.2
theorem tX11_mean_46 {d : Nat} {z : Int64 × aH} (s0 : Int32) (s1 : Int64) (s2 : Int64) (h : aH) (hf : fX11_mean_46 s0 s1 s2 h = some z) : Ev (d + 5) none mX11_mean (0, 0) 46 [.null, .null, .null, .null] [.int s0, .long s1, .long s2] h (QJ z) := by
  obtain ⟨r, h2, hf⟩ := bnd hf
  refine ev_S kqX11_mean_46 jX11_lowest (zX11_lowest (d := d + 4) h2) rfl (Nat.le_of_ble_eq_true rfl) rfl (as := [.long s2, .long s1, .int s0]) (rest := []) rfl (Nat.le_of_ble_eq_true rfl) (fun _ _ hq => ?_)
  obtain ⟨rfl, rfl⟩ := hq
  exact jm [0, 0, 0, 0] (fX11_mean_49 r.1 r.2) (fun q => tX11_mean_49 r.1 r.2 q) hf
def wX11_mean_37 : List En := [(.aload_n 0, 0, 0, 0), (.getfield 395, 218, 11, 43), (.aload_n 0, 0, 0, 0), (.getfield 388, 216, 11, 41), (.iload_n 2, 0, 0, 0)]
def fX11_mean_37 (v0 : Nat) (v2 : Int32) (h : aH) : Option (Int64 × aH) :=
  (gFJ h 11 v0 43).bind fun t1 =>
  (gFJ h 11 v0 41).bind fun t2 =>
  fX11_mean_46 v2 t2 t1 h
theorem tX11_mean_37 {d : Nat} {z : Int64 × aH} (v0 : Nat) (v2 : Int32) (h : aH) (hf : fX11_mean_37 v0 v2 h = some z) : Ev (d + 5) none mX11_mean (0, 0) 37 [.ref v0, .null, .int v2, .null] [] h (QJ z) := 
  go_ok (X := none) (blk := wX11_mean_37) (np := 46) (tt := 0) (kN := fun xs h st => app [0, 0, 0, 0] (apS [1, 3, 3] (fun s0 s1 s2 => fX11_mean_46 s0 s1 s2 h) st) xs) (kT := fun _ _ _ => none) (kR := kRJ)
    (fun xs h st q => jm [0, 0, 0, 0] _ (fun q => apS_ok [1, 3, 3] _ (fun st => Ev (d + 5) none mX11_mean (0, 0) 46 [.null, .null, .null, .null] st h (QJ z)) st (fun s0 s1 s2 q => tX11_mean_46 s0 s1 s2 h q) q) q)
    (fun _ _ _ q => nos q)
    kRJ_ok (Or.inr rfl) (by decide +kernel) (by decide +kernel) hf
theorem kqX11_mean_34 : okC mX11_mean 34 (.invokevirtual 398) 286 303 0 2 = true := by decide +kernel
def fX11_mean_34 (v0 : Nat) (v2 : Int32) (s0 : Int32) (s1 : Int32) (s2 : Nat) (h : aH) : Option (Int64 × aH) :=
  (isO h 11 s2).bind fun _ =>
  (gX11_tryFlinch s2 s1 s0 h).bind fun r =>
  fX11_mean_37 v0 v2 r
theorem tX11_mean_34 {d : Nat} {z : Int64 × aH} (v0 : Nat) (v2 : Int32) (s0 : Int32) (s1 : Int32) (s2 : Nat) (h : aH) (hf : fX11_mean_34 v0 v2 s0 s1 s2 h = some z) : Ev (d + 5) none mX11_mean (0, 0) 34 [.ref v0, .null, .int v2, .null] [.int s0, .int s1, .ref s2] h (QJ z) := by
  obtain ⟨_, h1, hf⟩ := bnd hf
  obtain ⟨fs, ho⟩ := isO_ok h1
  obtain ⟨r, h2, hf⟩ := bnd hf
  refine ev_V kqX11_mean_34 jX11_tryFlinch (zX11_tryFlinch (d := d + 0) h2) ho rfl rfl (Nat.le_of_ble_eq_true rfl) rfl (as := [.int s1, .int s0]) (rest := []) rfl (Nat.le_of_ble_eq_true rfl) (fun _ _ hq => ?_)
  obtain ⟨rfl, hh⟩ := hq
  rw [hh]
  exact jm [2, 0, 1, 0] (fun v0 v2 => fX11_mean_37 v0 v2 r) (fun v0 v2 q => tX11_mean_37 v0 v2 r q) hf
def wX11_mean_31 : List En := [(.aload_n 0, 0, 0, 0), (.iconst (-1), 0, 0, 0), (.iload_n 1, 0, 0, 0)]
def fX11_mean_31 (v0 : Nat) (v1 : Int32) (v2 : Int32) (h : aH) : Option (Int64 × aH) :=
  fX11_mean_34 v0 v2 v1 (kI (-1)) v0 h
theorem tX11_mean_31 {d : Nat} {z : Int64 × aH} (v0 : Nat) (v1 : Int32) (v2 : Int32) (h : aH) (hf : fX11_mean_31 v0 v1 v2 h = some z) : Ev (d + 5) none mX11_mean (0, 0) 31 [.ref v0, .int v1, .int v2, .null] [] h (QJ z) := 
  go_ok (X := none) (blk := wX11_mean_31) (np := 34) (tt := 0) (kN := fun xs h st => app [2, 0, 1, 0] (fun v0 v2 => apS [1, 1, 2] (fun s0 s1 s2 => fX11_mean_34 v0 v2 s0 s1 s2 h) st) xs) (kT := fun _ _ _ => none) (kR := kRJ)
    (fun xs h st q => jm [2, 0, 1, 0] _ (fun v0 v2 q => apS_ok [1, 1, 2] _ (fun st => Ev (d + 5) none mX11_mean (0, 0) 34 [.ref v0, .null, .int v2, .null] st h (QJ z)) st (fun s0 s1 s2 q => tX11_mean_34 v0 v2 s0 s1 s2 h q) q) q)
    (fun _ _ _ q => nos q)
    kRJ_ok (Or.inr rfl) (by decide +kernel) (by decide +kernel) hf
def wX11_mean_29 : List En := [(.i2l, 0, 0, 0), (.lreturn, 0, 0, 0)]
def fX11_mean_29 (s0 : Int32) (h : aH) : Option (Int64 × aH) :=
  some (s0.toInt64, h)
theorem tX11_mean_29 {d : Nat} {z : Int64 × aH} (s0 : Int32) (h : aH) (hf : fX11_mean_29 s0 h = some z) : Ev (d + 5) none mX11_mean (0, 0) 29 [.null, .null, .null, .null] [.int s0] h (QJ z) := 
  go_ok (X := none) (blk := wX11_mean_29) (np := 31) (tt := 0) (kN := fun _ _ _ => none) (kT := fun _ _ _ => none) (kR := kRJ)
    (fun _ _ _ q => nos q)
    (fun _ _ _ q => nos q)
    kRJ_ok (Or.inr rfl) (by decide +kernel) (by decide +kernel) hf
theorem kqX11_mean_26 : okC mX11_mean 26 (.invokevirtual 164) 183 198 0 1 = true := by decide +kernel
def fX11_mean_26 (s0 : Int32) (s1 : Nat) (h : aH) : Option (Int64 × aH) :=
  (isO h 11 s1).bind fun _ =>
  (gX11_no s1 s0 h).bind fun r =>
  fX11_mean_29 r.1 r.2
theorem tX11_mean_26 {d : Nat} {z : Int64 × aH} (s0 : Int32) (s1 : Nat) (h : aH) (hf : fX11_mean_26 s0 s1 h = some z) : Ev (d + 5) none mX11_mean (0, 0) 26 [.null, .null, .null, .null] [.int s0, .ref s1] h (QJ z) := by
  obtain ⟨_, h1, hf⟩ := bnd hf
  obtain ⟨fs, ho⟩ := isO_ok h1
  obtain ⟨r, h2, hf⟩ := bnd hf
  refine ev_V kqX11_mean_26 jX11_no (zX11_no (d := d + 4) h2) ho rfl rfl (Nat.le_of_ble_eq_true rfl) rfl (as := [.int s0]) (rest := []) rfl (Nat.le_of_ble_eq_true rfl) (fun _ _ hq => ?_)
  obtain ⟨rfl, rfl⟩ := hq
  exact jm [0, 0, 0, 0] (fX11_mean_29 r.1 r.2) (fun q => tX11_mean_29 r.1 r.2 q) hf
def wX11_mean_24 : List En := [(.aload_n 0, 0, 0, 0), (.iload_n 3, 0, 0, 0)]
def fX11_mean_24 (v0 : Nat) (v3 : Int32) (h : aH) : Option (Int64 × aH) :=
  fX11_mean_26 v3 v0 h
theorem tX11_mean_24 {d : Nat} {z : Int64 × aH} (v0 : Nat) (v3 : Int32) (h : aH) (hf : fX11_mean_24 v0 v3 h = some z) : Ev (d + 5) none mX11_mean (0, 0) 24 [.ref v0, .null, .null, .int v3] [] h (QJ z) := 
  go_ok (X := none) (blk := wX11_mean_24) (np := 26) (tt := 0) (kN := fun xs h st => app [0, 0, 0, 0] (apS [1, 2] (fun s0 s1 => fX11_mean_26 s0 s1 h) st) xs) (kT := fun _ _ _ => none) (kR := kRJ)
    (fun xs h st q => jm [0, 0, 0, 0] _ (fun q => apS_ok [1, 2] _ (fun st => Ev (d + 5) none mX11_mean (0, 0) 26 [.null, .null, .null, .null] st h (QJ z)) st (fun s0 s1 q => tX11_mean_26 s0 s1 h q) q) q)
    (fun _ _ _ q => nos q)
    kRJ_ok (Or.inr rfl) (by decide +kernel) (by decide +kernel) hf
def wX11_mean_19 : List En := [(.istore_n 3, 0, 0, 0), (.iload_n 3, 0, 0, 0), (.ifCond .eq 10, 31, 0, 0)]
def fX11_mean_19 (v0 : Nat) (v1 : Int32) (v2 : Int32) (s0 : Int32) (h : aH) : Option (Int64 × aH) :=
  if s0 = 0 then fX11_mean_31 v0 v1 v2 h else fX11_mean_24 v0 s0 h
theorem tX11_mean_19 {d : Nat} {z : Int64 × aH} (v0 : Nat) (v1 : Int32) (v2 : Int32) (s0 : Int32) (h : aH) (hf : fX11_mean_19 v0 v1 v2 s0 h = some z) : Ev (d + 5) none mX11_mean (0, 0) 19 [.ref v0, .int v1, .int v2, .null] [.int s0] h (QJ z) := 
  go_ok (X := none) (blk := wX11_mean_19) (np := 24) (tt := 31) (kN := fun xs h st => app [2, 0, 0, 1] (fun v0 v3 => apS [] (fX11_mean_24 v0 v3 h) st) xs) (kT := fun xs h st => app [2, 1, 1, 0] (fun v0 v1 v2 => apS [] (fX11_mean_31 v0 v1 v2 h) st) xs) (kR := kRJ)
    (fun xs h st q => jm [2, 0, 0, 1] _ (fun v0 v3 q => apS_ok [] _ (fun st => Ev (d + 5) none mX11_mean (0, 0) 24 [.ref v0, .null, .null, .int v3] st h (QJ z)) st (fun q => tX11_mean_24 v0 v3 h q) q) q)
    (fun xs h st q => jm [2, 1, 1, 0] _ (fun v0 v1 v2 q => apS_ok [] _ (fun st => Ev (d + 5) none mX11_mean (0, 0) 31 [.ref v0, .int v1, .int v2, .null] st h (QJ z)) st (fun q => tX11_mean_31 v0 v1 v2 h q) q) q)
    kRJ_ok (Or.inr rfl) (by decide +kernel) (by decide +kernel) hf
theorem kqX11_mean_16 : okC mX11_mean 16 (.invokevirtual 241) 235 252 0 2 = true := by decide +kernel
def fX11_mean_16 (v0 : Nat) (v1 : Int32) (v2 : Int32) (s0 : Int32) (s1 : Int32) (s2 : Nat) (h : aH) : Option (Int64 × aH) :=
  (isO h 11 s2).bind fun _ =>
  (gX11_why s2 s1 s0 h).bind fun r =>
  fX11_mean_19 v0 v1 v2 r.1 r.2
theorem tX11_mean_16 {d : Nat} {z : Int64 × aH} (v0 : Nat) (v1 : Int32) (v2 : Int32) (s0 : Int32) (s1 : Int32) (s2 : Nat) (h : aH) (hf : fX11_mean_16 v0 v1 v2 s0 s1 s2 h = some z) : Ev (d + 5) none mX11_mean (0, 0) 16 [.ref v0, .int v1, .int v2, .null] [.int s0, .int s1, .ref s2] h (QJ z) := by
  obtain ⟨_, h1, hf⟩ := bnd hf
  obtain ⟨fs, ho⟩ := isO_ok h1
  obtain ⟨r, h2, hf⟩ := bnd hf
  refine ev_V kqX11_mean_16 jX11_why (zX11_why (d := d + 4) h2) ho rfl rfl (Nat.le_of_ble_eq_true rfl) rfl (as := [.int s1, .int s0]) (rest := []) rfl (Nat.le_of_ble_eq_true rfl) (fun _ _ hq => ?_)
  obtain ⟨rfl, rfl⟩ := hq
  exact jm [2, 1, 1, 0] (fun v0 v1 v2 => fX11_mean_19 v0 v1 v2 r.1 r.2) (fun v0 v1 v2 q => tX11_mean_19 v0 v1 v2 r.1 r.2 q) hf
theorem kqX11_mean_13 : okC mX11_mean 13 (.invokestatic 140) 182 197 1 3 = true := by decide +kernel
def fX11_mean_13 (v0 : Nat) (v1 : Int32) (v2 : Int32) (s0 : Int32) (s1 : Int32) (s2 : Int32) (s3 : Int32) (s4 : Nat) (h : aH) : Option (Int64 × aH) :=
  (gX11_in s2 s1 s0 h).bind fun r =>
  fX11_mean_16 v0 v1 v2 r.1 s3 s4 r.2
theorem tX11_mean_13 {d : Nat} {z : Int64 × aH} (v0 : Nat) (v1 : Int32) (v2 : Int32) (s0 : Int32) (s1 : Int32) (s2 : Int32) (s3 : Int32) (s4 : Nat) (h : aH) (hf : fX11_mean_13 v0 v1 v2 s0 s1 s2 s3 s4 h = some z) : Ev (d + 5) none mX11_mean (0, 0) 13 [.ref v0, .int v1, .int v2, .null] [.int s0, .int s1, .int s2, .int s3, .ref s4] h (QJ z) := by
  obtain ⟨r, h2, hf⟩ := bnd hf
  refine ev_S kqX11_mean_13 jX11_in (zX11_in (d := d + 4) h2) rfl (Nat.le_of_ble_eq_true rfl) rfl (as := [.int s2, .int s1, .int s0]) (rest := [.int s3, .ref s4]) rfl (Nat.le_of_ble_eq_true rfl) (fun _ _ hq => ?_)
  obtain ⟨-, rfl, rfl⟩ := hq
  exact jm [2, 1, 1, 0] (fun v0 v1 v2 => fX11_mean_16 v0 v1 v2 r.1 s3 s4 r.2) (fun v0 v1 v2 q => tX11_mean_16 v0 v1 v2 r.1 s3 s4 r.2 q) hf
def wX11_mean_4 : List En := [(.aload_n 0, 0, 0, 0), (.aload_n 0, 0, 0, 0), (.getfield 174, 189, 11, 14), (.iload_n 1, 0, 0, 0), (.iconst 1, 0, 0, 0), (.bipush 6, 0, 0, 0)]
def fX11_mean_4 (v0 : Nat) (v1 : Int32) (v2 : Int32) (h : aH) : Option (Int64 × aH) :=
  (gFI h 11 v0 14).bind fun t1 =>
  fX11_mean_13 v0 v1 v2 (kB 6) (kI 1) v1 t1 v0 h
theorem tX11_mean_4 {d : Nat} {z : Int64 × aH} (v0 : Nat) (v1 : Int32) (v2 : Int32) (h : aH) (hf : fX11_mean_4 v0 v1 v2 h = some z) : Ev (d + 5) none mX11_mean (0, 0) 4 [.ref v0, .int v1, .int v2, .null] [] h (QJ z) := 
  go_ok (X := none) (blk := wX11_mean_4) (np := 13) (tt := 0) (kN := fun xs h st => app [2, 1, 1, 0] (fun v0 v1 v2 => apS [1, 1, 1, 1, 2] (fun s0 s1 s2 s3 s4 => fX11_mean_13 v0 v1 v2 s0 s1 s2 s3 s4 h) st) xs) (kT := fun _ _ _ => none) (kR := kRJ)
    (fun xs h st q => jm [2, 1, 1, 0] _ (fun v0 v1 v2 q => apS_ok [1, 1, 1, 1, 2] _ (fun st => Ev (d + 5) none mX11_mean (0, 0) 13 [.ref v0, .int v1, .int v2, .null] st h (QJ z)) st (fun s0 s1 s2 s3 s4 q => tX11_mean_13 v0 v1 v2 s0 s1 s2 s3 s4 h q) q) q)
    (fun _ _ _ q => nos q)
    kRJ_ok (Or.inr rfl) (by decide +kernel) (by decide +kernel) hf
theorem kqX11_mean_1 : okC mX11_mean 1 (.invokevirtual 161) 181 196 0 0 = true := by decide +kernel
def fX11_mean_1 (v0 : Nat) (v1 : Int32) (v2 : Int32) (s0 : Nat) (h : aH) : Option (Int64 × aH) :=
  (isO h 11 s0).bind fun _ =>
  (gX11_anew s0 h).bind fun r =>
  fX11_mean_4 v0 v1 v2 r
theorem tX11_mean_1 {d : Nat} {z : Int64 × aH} (v0 : Nat) (v1 : Int32) (v2 : Int32) (s0 : Nat) (h : aH) (hf : fX11_mean_1 v0 v1 v2 s0 h = some z) : Ev (d + 5) none mX11_mean (0, 0) 1 [.ref v0, .int v1, .int v2, .null] [.ref s0] h (QJ z) := by
  obtain ⟨_, h1, hf⟩ := bnd hf
  obtain ⟨fs, ho⟩ := isO_ok h1
  obtain ⟨r, h2, hf⟩ := bnd hf
  refine ev_V kqX11_mean_1 jX11_anew (zX11_anew (d := d + 4) h2) ho rfl rfl (Nat.le_of_ble_eq_true rfl) rfl (as := []) (rest := []) rfl (Nat.le_of_ble_eq_true rfl) (fun _ _ hq => ?_)
  obtain ⟨rfl, hh⟩ := hq
  rw [hh]
  exact jm [2, 1, 1, 0] (fun v0 v1 v2 => fX11_mean_4 v0 v1 v2 r) (fun v0 v1 v2 q => tX11_mean_4 v0 v1 v2 r q) hf
def wX11_mean_0 : List En := [(.aload_n 0, 0, 0, 0)]
def fX11_mean_0 (v0 : Nat) (v1 : Int32) (v2 : Int32) (h : aH) : Option (Int64 × aH) :=
  fX11_mean_1 v0 v1 v2 v0 h
theorem tX11_mean_0 {d : Nat} {z : Int64 × aH} (v0 : Nat) (v1 : Int32) (v2 : Int32) (h : aH) (hf : fX11_mean_0 v0 v1 v2 h = some z) : Ev (d + 5) none mX11_mean (0, 0) 0 [.ref v0, .int v1, .int v2, .null] [] h (QJ z) := 
  go_ok (X := none) (blk := wX11_mean_0) (np := 1) (tt := 0) (kN := fun xs h st => app [2, 1, 1, 0] (fun v0 v1 v2 => apS [2] (fun s0 => fX11_mean_1 v0 v1 v2 s0 h) st) xs) (kT := fun _ _ _ => none) (kR := kRJ)
    (fun xs h st q => jm [2, 1, 1, 0] _ (fun v0 v1 v2 q => apS_ok [2] _ (fun st => Ev (d + 5) none mX11_mean (0, 0) 1 [.ref v0, .int v1, .int v2, .null] st h (QJ z)) st (fun s0 q => tX11_mean_1 v0 v1 v2 s0 h q) q) q)
    (fun _ _ _ q => nos q)
    kRJ_ok (Or.inr rfl) (by decide +kernel) (by decide +kernel) hf
def gX11_mean (v0 : Nat) (v1 : Int32) (v2 : Int32) (h : aH) : Option (Int64 × aH) := fX11_mean_0 v0 v1 v2 h
theorem zX11_mean {d : Nat} {z : Int64 × aH} {v0 : Nat} {v1 : Int32} {v2 : Int32} {h : aH} (q : gX11_mean v0 v1 v2 h = some z) : CT (d + 5) mX11_mean (0, 0) [.ref v0, .int v1, .int v2] h (QJ z) :=
  ct_ev (by decide +kernel) (Nat.le_of_ble_eq_true rfl) QJ_r (jm [2, 1, 1, 0] (fun v0 v1 v2 => fX11_mean_0 v0 v1 v2 h) (fun v0 v1 v2 q => tX11_mean_0 v0 v1 v2 h q) q)
def wX11_drawn_113 : List En := [(.aload_n 0, 0, 0, 0), (.getfield 257, 201, 11, 26), (.ireturn, 0, 0, 0)]
def fX11_drawn_113 (v0 : Nat) (h : aH) : Option (Int32 × aH) :=
  (gFI h 11 v0 26).bind fun t1 =>
  some (t1, h)
theorem tX11_drawn_113 {d : Nat} {z : Int32 × aH} (v0 : Nat) (h : aH) (hf : fX11_drawn_113 v0 h = some z) : Ev (d + 4) none mX11_drawn (0, 0) 113 [.ref v0, .null, .null, .null, .null, .null] [] h (QI z) := 
  go_ok (X := none) (blk := wX11_drawn_113) (np := 118) (tt := 0) (kN := fun _ _ _ => none) (kT := fun _ _ _ => none) (kR := kRI)
    (fun _ _ _ q => nos q)
    (fun _ _ _ q => nos q)
    kRI_ok (Or.inr rfl) (by decide +kernel) (by decide +kernel) hf
def wX11_drawn_107 : List En := [(.iinc 5 1, 0, 0, 0), (.goto (-51), 59, 0, 0)]
def fX11_drawn_107 (k59 : Nat → Int32 → Int32 → Int32 → aH → Option (Int32 × aH)) (v0 : Nat) (v2 : Int32) (v4 : Int32) (v5 : Int32) (h : aH) : Option (Int32 × aH) :=
  k59 v0 v2 v4 (v5 + kI 1) h
theorem tX11_drawn_107 {d : Nat} {z : Int32 × aH} {k59 : Nat → Int32 → Int32 → Int32 → aH → Option (Int32 × aH)} (hk59 : ∀ (v0 : Nat) (v2 : Int32) (v4 : Int32) (v5 : Int32) (h : aH), k59 v0 v2 v4 v5 h = some z → Ev (d + 4) none mX11_drawn (0, 0) 59 [.ref v0, .null, .int v2, .null, .int v4, .int v5] [] h (QI z)) (v0 : Nat) (v2 : Int32) (v4 : Int32) (v5 : Int32) (h : aH) (hf : fX11_drawn_107 k59 v0 v2 v4 v5 h = some z) : Ev (d + 4) none mX11_drawn (0, 0) 107 [.ref v0, .null, .int v2, .null, .int v4, .int v5] [] h (QI z) := 
  go_ok (X := none) (blk := wX11_drawn_107) (np := 113) (tt := 59) (kN := fun _ _ _ => none) (kT := fun xs h st => app [2, 0, 1, 0, 1, 1] (fun v0 v2 v4 v5 => apS [] (k59 v0 v2 v4 v5 h) st) xs) (kR := kRI)
    (fun _ _ _ q => nos q)
    (fun xs h st q => jm [2, 0, 1, 0, 1, 1] _ (fun v0 v2 v4 v5 q => apS_ok [] _ (fun st => Ev (d + 4) none mX11_drawn (0, 0) 59 [.ref v0, .null, .int v2, .null, .int v4, .int v5] st h (QI z)) st (fun q => hk59 v0 v2 v4 v5 h q) q) q)
    kRI_ok (Or.inr rfl) (by decide +kernel) (by decide +kernel) hf
theorem kqX11_drawn_104 : okC mX11_drawn 104 (.invokevirtual 281) 228 245 0 3 = true := by decide +kernel
def fX11_drawn_104 (k59 : Nat → Int32 → Int32 → Int32 → aH → Option (Int32 × aH)) (v0 : Nat) (v2 : Int32) (v4 : Int32) (v5 : Int32) (s0 : Int32) (s1 : Int32) (s2 : Nat) (s3 : Nat) (h : aH) : Option (Int32 × aH) :=
  (isO h 11 s3).bind fun _ =>
  (gX11_dayOn s3 s2 s1 s0 h).bind fun r =>
  fX11_drawn_107 k59 v0 v2 v4 v5 r
theorem tX11_drawn_104 {d : Nat} {z : Int32 × aH} {k59 : Nat → Int32 → Int32 → Int32 → aH → Option (Int32 × aH)} (hk59 : ∀ (v0 : Nat) (v2 : Int32) (v4 : Int32) (v5 : Int32) (h : aH), k59 v0 v2 v4 v5 h = some z → Ev (d + 4) none mX11_drawn (0, 0) 59 [.ref v0, .null, .int v2, .null, .int v4, .int v5] [] h (QI z)) (v0 : Nat) (v2 : Int32) (v4 : Int32) (v5 : Int32) (s0 : Int32) (s1 : Int32) (s2 : Nat) (s3 : Nat) (h : aH) (hf : fX11_drawn_104 k59 v0 v2 v4 v5 s0 s1 s2 s3 h = some z) : Ev (d + 4) none mX11_drawn (0, 0) 104 [.ref v0, .null, .int v2, .null, .int v4, .int v5] [.int s0, .int s1, .ref s2, .ref s3] h (QI z) := by
  obtain ⟨_, h1, hf⟩ := bnd hf
  obtain ⟨fs, ho⟩ := isO_ok h1
  obtain ⟨r, h2, hf⟩ := bnd hf
  refine ev_V kqX11_drawn_104 jX11_dayOn (zX11_dayOn (d := d + 0) h2) ho rfl rfl (Nat.le_of_ble_eq_true rfl) rfl (as := [.ref s2, .int s1, .int s0]) (rest := []) rfl (Nat.le_of_ble_eq_true rfl) (fun _ _ hq => ?_)
  obtain ⟨rfl, hh⟩ := hq
  rw [hh]
  exact jm [2, 0, 1, 0, 1, 1] (fun v0 v2 v4 v5 => fX11_drawn_107 k59 v0 v2 v4 v5 r) (fun v0 v2 v4 v5 q => tX11_drawn_107 hk59 v0 v2 v4 v5 r q) hf
def wX11_drawn_103 : List En := [(.iconst 0, 0, 0, 0)]
def fX11_drawn_103 (k59 : Nat → Int32 → Int32 → Int32 → aH → Option (Int32 × aH)) (v0 : Nat) (v2 : Int32) (v4 : Int32) (v5 : Int32) (s0 : Int32) (s1 : Nat) (s2 : Nat) (h : aH) : Option (Int32 × aH) :=
  fX11_drawn_104 k59 v0 v2 v4 v5 (kI 0) s0 s1 s2 h
theorem tX11_drawn_103 {d : Nat} {z : Int32 × aH} {k59 : Nat → Int32 → Int32 → Int32 → aH → Option (Int32 × aH)} (hk59 : ∀ (v0 : Nat) (v2 : Int32) (v4 : Int32) (v5 : Int32) (h : aH), k59 v0 v2 v4 v5 h = some z → Ev (d + 4) none mX11_drawn (0, 0) 59 [.ref v0, .null, .int v2, .null, .int v4, .int v5] [] h (QI z)) (v0 : Nat) (v2 : Int32) (v4 : Int32) (v5 : Int32) (s0 : Int32) (s1 : Nat) (s2 : Nat) (h : aH) (hf : fX11_drawn_103 k59 v0 v2 v4 v5 s0 s1 s2 h = some z) : Ev (d + 4) none mX11_drawn (0, 0) 103 [.ref v0, .null, .int v2, .null, .int v4, .int v5] [.int s0, .ref s1, .ref s2] h (QI z) := 
  go_ok (X := none) (blk := wX11_drawn_103) (np := 104) (tt := 0) (kN := fun xs h st => app [2, 0, 1, 0, 1, 1] (fun v0 v2 v4 v5 => apS [1, 1, 2, 2] (fun s0 s1 s2 s3 => fX11_drawn_104 k59 v0 v2 v4 v5 s0 s1 s2 s3 h) st) xs) (kT := fun _ _ _ => none) (kR := kRI)
    (fun xs h st q => jm [2, 0, 1, 0, 1, 1] _ (fun v0 v2 v4 v5 q => apS_ok [1, 1, 2, 2] _ (fun st => Ev (d + 4) none mX11_drawn (0, 0) 104 [.ref v0, .null, .int v2, .null, .int v4, .int v5] st h (QI z)) st (fun s0 s1 s2 s3 q => tX11_drawn_104 hk59 v0 v2 v4 v5 s0 s1 s2 s3 h q) q) q)
    (fun _ _ _ q => nos q)
    kRI_ok (Or.inr rfl) (by decide +kernel) (by decide +kernel) hf
def wX11_drawn_99 : List En := [(.iconst 1, 0, 0, 0), (.goto 4, 104, 0, 0)]
def fX11_drawn_99 (k59 : Nat → Int32 → Int32 → Int32 → aH → Option (Int32 × aH)) (v0 : Nat) (v2 : Int32) (v4 : Int32) (v5 : Int32) (s0 : Int32) (s1 : Nat) (s2 : Nat) (h : aH) : Option (Int32 × aH) :=
  fX11_drawn_104 k59 v0 v2 v4 v5 (kI 1) s0 s1 s2 h
theorem tX11_drawn_99 {d : Nat} {z : Int32 × aH} {k59 : Nat → Int32 → Int32 → Int32 → aH → Option (Int32 × aH)} (hk59 : ∀ (v0 : Nat) (v2 : Int32) (v4 : Int32) (v5 : Int32) (h : aH), k59 v0 v2 v4 v5 h = some z → Ev (d + 4) none mX11_drawn (0, 0) 59 [.ref v0, .null, .int v2, .null, .int v4, .int v5] [] h (QI z)) (v0 : Nat) (v2 : Int32) (v4 : Int32) (v5 : Int32) (s0 : Int32) (s1 : Nat) (s2 : Nat) (h : aH) (hf : fX11_drawn_99 k59 v0 v2 v4 v5 s0 s1 s2 h = some z) : Ev (d + 4) none mX11_drawn (0, 0) 99 [.ref v0, .null, .int v2, .null, .int v4, .int v5] [.int s0, .ref s1, .ref s2] h (QI z) := 
  go_ok (X := none) (blk := wX11_drawn_99) (np := 103) (tt := 104) (kN := fun _ _ _ => none) (kT := fun xs h st => app [2, 0, 1, 0, 1, 1] (fun v0 v2 v4 v5 => apS [1, 1, 2, 2] (fun s0 s1 s2 s3 => fX11_drawn_104 k59 v0 v2 v4 v5 s0 s1 s2 s3 h) st) xs) (kR := kRI)
    (fun _ _ _ q => nos q)
    (fun xs h st q => jm [2, 0, 1, 0, 1, 1] _ (fun v0 v2 v4 v5 q => apS_ok [1, 1, 2, 2] _ (fun st => Ev (d + 4) none mX11_drawn (0, 0) 104 [.ref v0, .null, .int v2, .null, .int v4, .int v5] st h (QI z)) st (fun s0 s1 s2 s3 q => tX11_drawn_104 hk59 v0 v2 v4 v5 s0 s1 s2 s3 h q) q) q)
    kRI_ok (Or.inr rfl) (by decide +kernel) (by decide +kernel) hf
def wX11_drawn_76 : List En := [(.irem, 0, 0, 0), (.istore 4, 0, 0, 0), (.aload_n 0, 0, 0, 0), (.aload_n 0, 0, 0, 0), (.getfield 35, 195, 11, 20), (.iconst 0, 0, 0, 0), (.iload 4, 0, 0, 0), (.bipush 100, 0, 0, 0), (.irem, 0, 0, 0), (.aload_n 0, 0, 0, 0), (.getfield 20, 190, 11, 15), (.iconst 2, 0, 0, 0), (.iaload, 0, 0, 0), (.if_icmp .ge 7, 103, 0, 0)]
def fX11_drawn_76 (k59 : Nat → Int32 → Int32 → Int32 → aH → Option (Int32 × aH)) (v0 : Nat) (v2 : Int32) (v5 : Int32) (s0 : Int32) (s1 : Int32) (h : aH) : Option (Int32 × aH) :=
  if s0 = 0 then none else
  (gFR h 11 v0 20).bind fun t1 =>
  if (kB 100) = 0 then none else
  (gFR h 11 v0 15).bind fun t2 =>
  (aRI (h[t2]?) (kI 2)).bind fun t3 =>
  if ((s1 - s1 / s0 * s0) - (s1 - s1 / s0 * s0) / (kB 100) * (kB 100)) < t3 then fX11_drawn_99 k59 v0 v2 (s1 - s1 / s0 * s0) v5 (kI 0) t1 v0 h else fX11_drawn_103 k59 v0 v2 (s1 - s1 / s0 * s0) v5 (kI 0) t1 v0 h
theorem tX11_drawn_76 {d : Nat} {z : Int32 × aH} {k59 : Nat → Int32 → Int32 → Int32 → aH → Option (Int32 × aH)} (hk59 : ∀ (v0 : Nat) (v2 : Int32) (v4 : Int32) (v5 : Int32) (h : aH), k59 v0 v2 v4 v5 h = some z → Ev (d + 4) none mX11_drawn (0, 0) 59 [.ref v0, .null, .int v2, .null, .int v4, .int v5] [] h (QI z)) (v0 : Nat) (v2 : Int32) (v5 : Int32) (s0 : Int32) (s1 : Int32) (h : aH) (hf : fX11_drawn_76 k59 v0 v2 v5 s0 s1 h = some z) : Ev (d + 4) none mX11_drawn (0, 0) 76 [.ref v0, .null, .int v2, .null, .null, .int v5] [.int s0, .int s1] h (QI z) := 
  go_ok (X := none) (blk := wX11_drawn_76) (np := 99) (tt := 103) (kN := fun xs h st => app [2, 0, 1, 0, 1, 1] (fun v0 v2 v4 v5 => apS [1, 2, 2] (fun s0 s1 s2 => fX11_drawn_99 k59 v0 v2 v4 v5 s0 s1 s2 h) st) xs) (kT := fun xs h st => app [2, 0, 1, 0, 1, 1] (fun v0 v2 v4 v5 => apS [1, 2, 2] (fun s0 s1 s2 => fX11_drawn_103 k59 v0 v2 v4 v5 s0 s1 s2 h) st) xs) (kR := kRI)
    (fun xs h st q => jm [2, 0, 1, 0, 1, 1] _ (fun v0 v2 v4 v5 q => apS_ok [1, 2, 2] _ (fun st => Ev (d + 4) none mX11_drawn (0, 0) 99 [.ref v0, .null, .int v2, .null, .int v4, .int v5] st h (QI z)) st (fun s0 s1 s2 q => tX11_drawn_99 hk59 v0 v2 v4 v5 s0 s1 s2 h q) q) q)
    (fun xs h st q => jm [2, 0, 1, 0, 1, 1] _ (fun v0 v2 v4 v5 q => apS_ok [1, 2, 2] _ (fun st => Ev (d + 4) none mX11_drawn (0, 0) 103 [.ref v0, .null, .int v2, .null, .int v4, .int v5] st h (QI z)) st (fun s0 s1 s2 q => tX11_drawn_103 hk59 v0 v2 v4 v5 s0 s1 s2 h q) q) q)
    kRI_ok (Or.inr rfl) (by decide +kernel) (by decide +kernel) hf
theorem kqX11_drawn_73 : ckW mX11_drawn 73 406 3 65537 = true := by decide +kernel
def fX11_drawn_73 (k59 : Nat → Int32 → Int32 → Int32 → aH → Option (Int32 × aH)) (v0 : Nat) (v2 : Int32) (v5 : Int32) (s0 : Int32) (h : aH) : Option (Int32 × aH) :=
  fX11_drawn_76 k59 v0 v2 v5 (65537 : Int32) s0 h
theorem tX11_drawn_73 {d : Nat} {z : Int32 × aH} {k59 : Nat → Int32 → Int32 → Int32 → aH → Option (Int32 × aH)} (hk59 : ∀ (v0 : Nat) (v2 : Int32) (v4 : Int32) (v5 : Int32) (h : aH), k59 v0 v2 v4 v5 h = some z → Ev (d + 4) none mX11_drawn (0, 0) 59 [.ref v0, .null, .int v2, .null, .int v4, .int v5] [] h (QI z)) (v0 : Nat) (v2 : Int32) (v5 : Int32) (s0 : Int32) (h : aH) (hf : fX11_drawn_73 k59 v0 v2 v5 s0 h = some z) : Ev (d + 4) none mX11_drawn (0, 0) 73 [.ref v0, .null, .int v2, .null, .null, .int v5] [.int s0] h (QI z) := 
  ev_ldcw kqX11_drawn_73 rfl (jm [2, 0, 1, 0, 0, 1] (fun v0 v2 v5 => fX11_drawn_76 k59 v0 v2 v5 (65537 : Int32) s0 h) (fun v0 v2 v5 q => tX11_drawn_76 hk59 v0 v2 v5 (65537 : Int32) s0 h q) hf)
def wX11_drawn_65 : List En := [(.bipush 75, 0, 0, 0), (.iload 4, 0, 0, 0), (.imul, 0, 0, 0), (.bipush 74, 0, 0, 0), (.iadd, 0, 0, 0)]
def fX11_drawn_65 (k59 : Nat → Int32 → Int32 → Int32 → aH → Option (Int32 × aH)) (v0 : Nat) (v2 : Int32) (v4 : Int32) (v5 : Int32) (h : aH) : Option (Int32 × aH) :=
  fX11_drawn_73 k59 v0 v2 v5 (((kB 75) * v4) + (kB 74)) h
theorem tX11_drawn_65 {d : Nat} {z : Int32 × aH} {k59 : Nat → Int32 → Int32 → Int32 → aH → Option (Int32 × aH)} (hk59 : ∀ (v0 : Nat) (v2 : Int32) (v4 : Int32) (v5 : Int32) (h : aH), k59 v0 v2 v4 v5 h = some z → Ev (d + 4) none mX11_drawn (0, 0) 59 [.ref v0, .null, .int v2, .null, .int v4, .int v5] [] h (QI z)) (v0 : Nat) (v2 : Int32) (v4 : Int32) (v5 : Int32) (h : aH) (hf : fX11_drawn_65 k59 v0 v2 v4 v5 h = some z) : Ev (d + 4) none mX11_drawn (0, 0) 65 [.ref v0, .null, .int v2, .null, .int v4, .int v5] [] h (QI z) := 
  go_ok (X := none) (blk := wX11_drawn_65) (np := 73) (tt := 0) (kN := fun xs h st => app [2, 0, 1, 0, 0, 1] (fun v0 v2 v5 => apS [1] (fun s0 => fX11_drawn_73 k59 v0 v2 v5 s0 h) st) xs) (kT := fun _ _ _ => none) (kR := kRI)
    (fun xs h st q => jm [2, 0, 1, 0, 0, 1] _ (fun v0 v2 v5 q => apS_ok [1] _ (fun st => Ev (d + 4) none mX11_drawn (0, 0) 73 [.ref v0, .null, .int v2, .null, .null, .int v5] st h (QI z)) st (fun s0 q => tX11_drawn_73 hk59 v0 v2 v5 s0 h q) q) q)
    (fun _ _ _ q => nos q)
    kRI_ok (Or.inr rfl) (by decide +kernel) (by decide +kernel) hf
def wX11_drawn_59 : List En := [(.iload 5, 0, 0, 0), (.iload_n 2, 0, 0, 0), (.if_icmp .ge 51, 113, 0, 0)]
def fX11_drawn_59 (k59 : Nat → Int32 → Int32 → Int32 → aH → Option (Int32 × aH)) (v0 : Nat) (v2 : Int32) (v4 : Int32) (v5 : Int32) (h : aH) : Option (Int32 × aH) :=
  if v5 < v2 then fX11_drawn_65 k59 v0 v2 v4 v5 h else fX11_drawn_113 v0 h
theorem tX11_drawn_59 {d : Nat} {z : Int32 × aH} {k59 : Nat → Int32 → Int32 → Int32 → aH → Option (Int32 × aH)} (hk59 : ∀ (v0 : Nat) (v2 : Int32) (v4 : Int32) (v5 : Int32) (h : aH), k59 v0 v2 v4 v5 h = some z → Ev (d + 4) none mX11_drawn (0, 0) 59 [.ref v0, .null, .int v2, .null, .int v4, .int v5] [] h (QI z)) (v0 : Nat) (v2 : Int32) (v4 : Int32) (v5 : Int32) (h : aH) (hf : fX11_drawn_59 k59 v0 v2 v4 v5 h = some z) : Ev (d + 4) none mX11_drawn (0, 0) 59 [.ref v0, .null, .int v2, .null, .int v4, .int v5] [] h (QI z) := 
  go_ok (X := none) (blk := wX11_drawn_59) (np := 65) (tt := 113) (kN := fun xs h st => app [2, 0, 1, 0, 1, 1] (fun v0 v2 v4 v5 => apS [] (fX11_drawn_65 k59 v0 v2 v4 v5 h) st) xs) (kT := fun xs h st => app [2, 0, 0, 0, 0, 0] (fun v0 => apS [] (fX11_drawn_113 v0 h) st) xs) (kR := kRI)
    (fun xs h st q => jm [2, 0, 1, 0, 1, 1] _ (fun v0 v2 v4 v5 q => apS_ok [] _ (fun st => Ev (d + 4) none mX11_drawn (0, 0) 65 [.ref v0, .null, .int v2, .null, .int v4, .int v5] st h (QI z)) st (fun q => tX11_drawn_65 hk59 v0 v2 v4 v5 h q) q) q)
    (fun xs h st q => jm [2, 0, 0, 0, 0, 0] _ (fun v0 q => apS_ok [] _ (fun st => Ev (d + 4) none mX11_drawn (0, 0) 113 [.ref v0, .null, .null, .null, .null, .null] st h (QI z)) st (fun q => tX11_drawn_113 v0 h q) q) q)
    kRI_ok (Or.inr rfl) (by decide +kernel) (by decide +kernel) hf
def lX11_drawn_59 : Nat → Nat → Int32 → Int32 → Int32 → aH → Option (Int32 × aH)
  | 0, _, _, _, _, _ => none
  | n + 1, v0, v2, v4, v5, h => fX11_drawn_59 (lX11_drawn_59 n) v0 v2 v4 v5 h
theorem uX11_drawn_59 {d : Nat} {z : Int32 × aH} : ∀ (n : Nat) (v0 : Nat) (v2 : Int32) (v4 : Int32) (v5 : Int32) (h : aH), lX11_drawn_59 n v0 v2 v4 v5 h = some z → Ev (d + 4) none mX11_drawn (0, 0) 59 [.ref v0, .null, .int v2, .null, .int v4, .int v5] [] h (QI z) := by
  intro n
  induction n with
  | zero => intro _ _ _ _ _ q; exact nos (show (none : Option (Int32 × aH)) = some z from q)
  | succ n ih => intro v0 v2 v4 v5 h q; exact tX11_drawn_59 ih v0 v2 v4 v5 h q
def wX11_drawn_53 : List En := [(.iload_n 1, 0, 0, 0), (.istore 4, 0, 0, 0), (.iconst 0, 0, 0, 0), (.istore 5, 0, 0, 0)]
def fX11_drawn_53 (v0 : Nat) (v1 : Int32) (v2 : Int32) (h : aH) : Option (Int32 × aH) :=
  lX11_drawn_59 FU v0 v2 v1 (kI 0) h
theorem tX11_drawn_53 {d : Nat} {z : Int32 × aH} (v0 : Nat) (v1 : Int32) (v2 : Int32) (h : aH) (hf : fX11_drawn_53 v0 v1 v2 h = some z) : Ev (d + 4) none mX11_drawn (0, 0) 53 [.ref v0, .int v1, .int v2, .null, .null, .null] [] h (QI z) := 
  go_ok (X := none) (blk := wX11_drawn_53) (np := 59) (tt := 0) (kN := fun xs h st => app [2, 0, 1, 0, 1, 1] (fun v0 v2 v4 v5 => apS [] (lX11_drawn_59 FU v0 v2 v4 v5 h) st) xs) (kT := fun _ _ _ => none) (kR := kRI)
    (fun xs h st q => jm [2, 0, 1, 0, 1, 1] _ (fun v0 v2 v4 v5 q => apS_ok [] _ (fun st => Ev (d + 4) none mX11_drawn (0, 0) 59 [.ref v0, .null, .int v2, .null, .int v4, .int v5] st h (QI z)) st (fun q => uX11_drawn_59 FU v0 v2 v4 v5 h q) q) q)
    (fun _ _ _ q => nos q)
    kRI_ok (Or.inr rfl) (by decide +kernel) (by decide +kernel) hf
theorem kqX11_drawn_50 : okC mX11_drawn 50 (.invokevirtual 278) 220 237 0 0 = true := by decide +kernel
def fX11_drawn_50 (v0 : Nat) (v1 : Int32) (v2 : Int32) (s0 : Nat) (h : aH) : Option (Int32 × aH) :=
  (isO h 11 s0).bind fun _ =>
  (gX11_begin s0 h).bind fun r =>
  fX11_drawn_53 v0 v1 v2 r
theorem tX11_drawn_50 {d : Nat} {z : Int32 × aH} (v0 : Nat) (v1 : Int32) (v2 : Int32) (s0 : Nat) (h : aH) (hf : fX11_drawn_50 v0 v1 v2 s0 h = some z) : Ev (d + 4) none mX11_drawn (0, 0) 50 [.ref v0, .int v1, .int v2, .null, .null, .null] [.ref s0] h (QI z) := by
  obtain ⟨_, h1, hf⟩ := bnd hf
  obtain ⟨fs, ho⟩ := isO_ok h1
  obtain ⟨r, h2, hf⟩ := bnd hf
  refine ev_V kqX11_drawn_50 jX11_begin (zX11_begin (d := d + 2) h2) ho rfl rfl (Nat.le_of_ble_eq_true rfl) rfl (as := []) (rest := []) rfl (Nat.le_of_ble_eq_true rfl) (fun _ _ hq => ?_)
  obtain ⟨rfl, hh⟩ := hq
  rw [hh]
  exact jm [2, 1, 1, 0, 0, 0] (fun v0 v1 v2 => fX11_drawn_53 v0 v1 v2 r) (fun v0 v1 v2 q => tX11_drawn_53 v0 v1 v2 r q) hf
def wX11_drawn_49 : List En := [(.aload_n 0, 0, 0, 0)]
def fX11_drawn_49 (v0 : Nat) (v1 : Int32) (v2 : Int32) (h : aH) : Option (Int32 × aH) :=
  fX11_drawn_50 v0 v1 v2 v0 h
theorem tX11_drawn_49 {d : Nat} {z : Int32 × aH} (v0 : Nat) (v1 : Int32) (v2 : Int32) (h : aH) (hf : fX11_drawn_49 v0 v1 v2 h = some z) : Ev (d + 4) none mX11_drawn (0, 0) 49 [.ref v0, .int v1, .int v2, .null, .null, .null] [] h (QI z) := 
  go_ok (X := none) (blk := wX11_drawn_49) (np := 50) (tt := 0) (kN := fun xs h st => app [2, 1, 1, 0, 0, 0] (fun v0 v1 v2 => apS [2] (fun s0 => fX11_drawn_50 v0 v1 v2 s0 h) st) xs) (kT := fun _ _ _ => none) (kR := kRI)
    (fun xs h st q => jm [2, 1, 1, 0, 0, 0] _ (fun v0 v1 v2 q => apS_ok [2] _ (fun st => Ev (d + 4) none mX11_drawn (0, 0) 50 [.ref v0, .int v1, .int v2, .null, .null, .null] st h (QI z)) st (fun s0 q => tX11_drawn_50 v0 v1 v2 s0 h q) q) q)
    (fun _ _ _ q => nos q)
    kRI_ok (Or.inr rfl) (by decide +kernel) (by decide +kernel) hf
def wX11_drawn_48 : List En := [(.ireturn, 0, 0, 0)]
def fX11_drawn_48 (s0 : Int32) (h : aH) : Option (Int32 × aH) :=
  some (s0, h)
theorem tX11_drawn_48 {d : Nat} {z : Int32 × aH} (s0 : Int32) (h : aH) (hf : fX11_drawn_48 s0 h = some z) : Ev (d + 4) none mX11_drawn (0, 0) 48 [.null, .null, .null, .null, .null, .null] [.int s0] h (QI z) := 
  go_ok (X := none) (blk := wX11_drawn_48) (np := 49) (tt := 0) (kN := fun _ _ _ => none) (kT := fun _ _ _ => none) (kR := kRI)
    (fun _ _ _ q => nos q)
    (fun _ _ _ q => nos q)
    kRI_ok (Or.inr rfl) (by decide +kernel) (by decide +kernel) hf
theorem kqX11_drawn_45 : okC mX11_drawn 45 (.invokevirtual 164) 183 198 0 1 = true := by decide +kernel
def fX11_drawn_45 (s0 : Int32) (s1 : Nat) (h : aH) : Option (Int32 × aH) :=
  (isO h 11 s1).bind fun _ =>
  (gX11_no s1 s0 h).bind fun r =>
  fX11_drawn_48 r.1 r.2
theorem tX11_drawn_45 {d : Nat} {z : Int32 × aH} (s0 : Int32) (s1 : Nat) (h : aH) (hf : fX11_drawn_45 s0 s1 h = some z) : Ev (d + 4) none mX11_drawn (0, 0) 45 [.null, .null, .null, .null, .null, .null] [.int s0, .ref s1] h (QI z) := by
  obtain ⟨_, h1, hf⟩ := bnd hf
  obtain ⟨fs, ho⟩ := isO_ok h1
  obtain ⟨r, h2, hf⟩ := bnd hf
  refine ev_V kqX11_drawn_45 jX11_no (zX11_no (d := d + 3) h2) ho rfl rfl (Nat.le_of_ble_eq_true rfl) rfl (as := [.int s0]) (rest := []) rfl (Nat.le_of_ble_eq_true rfl) (fun _ _ hq => ?_)
  obtain ⟨rfl, rfl⟩ := hq
  exact jm [0, 0, 0, 0, 0, 0] (fX11_drawn_48 r.1 r.2) (fun q => tX11_drawn_48 r.1 r.2 q) hf
def wX11_drawn_43 : List En := [(.aload_n 0, 0, 0, 0), (.iload_n 3, 0, 0, 0)]
def fX11_drawn_43 (v0 : Nat) (v3 : Int32) (h : aH) : Option (Int32 × aH) :=
  fX11_drawn_45 v3 v0 h
theorem tX11_drawn_43 {d : Nat} {z : Int32 × aH} (v0 : Nat) (v3 : Int32) (h : aH) (hf : fX11_drawn_43 v0 v3 h = some z) : Ev (d + 4) none mX11_drawn (0, 0) 43 [.ref v0, .null, .null, .int v3, .null, .null] [] h (QI z) := 
  go_ok (X := none) (blk := wX11_drawn_43) (np := 45) (tt := 0) (kN := fun xs h st => app [0, 0, 0, 0, 0, 0] (apS [1, 2] (fun s0 s1 => fX11_drawn_45 s0 s1 h) st) xs) (kT := fun _ _ _ => none) (kR := kRI)
    (fun xs h st q => jm [0, 0, 0, 0, 0, 0] _ (fun q => apS_ok [1, 2] _ (fun st => Ev (d + 4) none mX11_drawn (0, 0) 45 [.null, .null, .null, .null, .null, .null] st h (QI z)) st (fun s0 s1 q => tX11_drawn_45 s0 s1 h q) q) q)
    (fun _ _ _ q => nos q)
    kRI_ok (Or.inr rfl) (by decide +kernel) (by decide +kernel) hf
def wX11_drawn_38 : List En := [(.istore_n 3, 0, 0, 0), (.iload_n 3, 0, 0, 0), (.ifCond .eq 9, 49, 0, 0)]
def fX11_drawn_38 (v0 : Nat) (v1 : Int32) (v2 : Int32) (s0 : Int32) (h : aH) : Option (Int32 × aH) :=
  if s0 = 0 then fX11_drawn_49 v0 v1 v2 h else fX11_drawn_43 v0 s0 h
theorem tX11_drawn_38 {d : Nat} {z : Int32 × aH} (v0 : Nat) (v1 : Int32) (v2 : Int32) (s0 : Int32) (h : aH) (hf : fX11_drawn_38 v0 v1 v2 s0 h = some z) : Ev (d + 4) none mX11_drawn (0, 0) 38 [.ref v0, .int v1, .int v2, .null, .null, .null] [.int s0] h (QI z) := 
  go_ok (X := none) (blk := wX11_drawn_38) (np := 43) (tt := 49) (kN := fun xs h st => app [2, 0, 0, 1, 0, 0] (fun v0 v3 => apS [] (fX11_drawn_43 v0 v3 h) st) xs) (kT := fun xs h st => app [2, 1, 1, 0, 0, 0] (fun v0 v1 v2 => apS [] (fX11_drawn_49 v0 v1 v2 h) st) xs) (kR := kRI)
    (fun xs h st q => jm [2, 0, 0, 1, 0, 0] _ (fun v0 v3 q => apS_ok [] _ (fun st => Ev (d + 4) none mX11_drawn (0, 0) 43 [.ref v0, .null, .null, .int v3, .null, .null] st h (QI z)) st (fun q => tX11_drawn_43 v0 v3 h q) q) q)
    (fun xs h st q => jm [2, 1, 1, 0, 0, 0] _ (fun v0 v1 v2 q => apS_ok [] _ (fun st => Ev (d + 4) none mX11_drawn (0, 0) 49 [.ref v0, .int v1, .int v2, .null, .null, .null] st h (QI z)) st (fun q => tX11_drawn_49 v0 v1 v2 h q) q) q)
    kRI_ok (Or.inr rfl) (by decide +kernel) (by decide +kernel) hf
theorem kqX11_drawn_35 : okC mX11_drawn 35 (.invokevirtual 241) 235 252 0 2 = true := by decide +kernel
def fX11_drawn_35 (v0 : Nat) (v1 : Int32) (v2 : Int32) (s0 : Int32) (s1 : Int32) (s2 : Nat) (h : aH) : Option (Int32 × aH) :=
  (isO h 11 s2).bind fun _ =>
  (gX11_why s2 s1 s0 h).bind fun r =>
  fX11_drawn_38 v0 v1 v2 r.1 r.2
theorem tX11_drawn_35 {d : Nat} {z : Int32 × aH} (v0 : Nat) (v1 : Int32) (v2 : Int32) (s0 : Int32) (s1 : Int32) (s2 : Nat) (h : aH) (hf : fX11_drawn_35 v0 v1 v2 s0 s1 s2 h = some z) : Ev (d + 4) none mX11_drawn (0, 0) 35 [.ref v0, .int v1, .int v2, .null, .null, .null] [.int s0, .int s1, .ref s2] h (QI z) := by
  obtain ⟨_, h1, hf⟩ := bnd hf
  obtain ⟨fs, ho⟩ := isO_ok h1
  obtain ⟨r, h2, hf⟩ := bnd hf
  refine ev_V kqX11_drawn_35 jX11_why (zX11_why (d := d + 3) h2) ho rfl rfl (Nat.le_of_ble_eq_true rfl) rfl (as := [.int s1, .int s0]) (rest := []) rfl (Nat.le_of_ble_eq_true rfl) (fun _ _ hq => ?_)
  obtain ⟨rfl, rfl⟩ := hq
  exact jm [2, 1, 1, 0, 0, 0] (fun v0 v1 v2 => fX11_drawn_38 v0 v1 v2 r.1 r.2) (fun v0 v1 v2 q => tX11_drawn_38 v0 v1 v2 r.1 r.2 q) hf
def wX11_drawn_34 : List En := [(.iconst 0, 0, 0, 0)]
def fX11_drawn_34 (v0 : Nat) (v1 : Int32) (v2 : Int32) (s0 : Int32) (s1 : Nat) (h : aH) : Option (Int32 × aH) :=
  fX11_drawn_35 v0 v1 v2 (kI 0) s0 s1 h
theorem tX11_drawn_34 {d : Nat} {z : Int32 × aH} (v0 : Nat) (v1 : Int32) (v2 : Int32) (s0 : Int32) (s1 : Nat) (h : aH) (hf : fX11_drawn_34 v0 v1 v2 s0 s1 h = some z) : Ev (d + 4) none mX11_drawn (0, 0) 34 [.ref v0, .int v1, .int v2, .null, .null, .null] [.int s0, .ref s1] h (QI z) := 
  go_ok (X := none) (blk := wX11_drawn_34) (np := 35) (tt := 0) (kN := fun xs h st => app [2, 1, 1, 0, 0, 0] (fun v0 v1 v2 => apS [1, 1, 2] (fun s0 s1 s2 => fX11_drawn_35 v0 v1 v2 s0 s1 s2 h) st) xs) (kT := fun _ _ _ => none) (kR := kRI)
    (fun xs h st q => jm [2, 1, 1, 0, 0, 0] _ (fun v0 v1 v2 q => apS_ok [1, 1, 2] _ (fun st => Ev (d + 4) none mX11_drawn (0, 0) 35 [.ref v0, .int v1, .int v2, .null, .null, .null] st h (QI z)) st (fun s0 s1 s2 q => tX11_drawn_35 v0 v1 v2 s0 s1 s2 h q) q) q)
    (fun _ _ _ q => nos q)
    kRI_ok (Or.inr rfl) (by decide +kernel) (by decide +kernel) hf
def wX11_drawn_30 : List En := [(.iconst 1, 0, 0, 0), (.goto 4, 35, 0, 0)]
def fX11_drawn_30 (v0 : Nat) (v1 : Int32) (v2 : Int32) (s0 : Int32) (s1 : Nat) (h : aH) : Option (Int32 × aH) :=
  fX11_drawn_35 v0 v1 v2 (kI 1) s0 s1 h
theorem tX11_drawn_30 {d : Nat} {z : Int32 × aH} (v0 : Nat) (v1 : Int32) (v2 : Int32) (s0 : Int32) (s1 : Nat) (h : aH) (hf : fX11_drawn_30 v0 v1 v2 s0 s1 h = some z) : Ev (d + 4) none mX11_drawn (0, 0) 30 [.ref v0, .int v1, .int v2, .null, .null, .null] [.int s0, .ref s1] h (QI z) := 
  go_ok (X := none) (blk := wX11_drawn_30) (np := 34) (tt := 35) (kN := fun _ _ _ => none) (kT := fun xs h st => app [2, 1, 1, 0, 0, 0] (fun v0 v1 v2 => apS [1, 1, 2] (fun s0 s1 s2 => fX11_drawn_35 v0 v1 v2 s0 s1 s2 h) st) xs) (kR := kRI)
    (fun _ _ _ q => nos q)
    (fun xs h st q => jm [2, 1, 1, 0, 0, 0] _ (fun v0 v1 v2 q => apS_ok [1, 1, 2] _ (fun st => Ev (d + 4) none mX11_drawn (0, 0) 35 [.ref v0, .int v1, .int v2, .null, .null, .null] st h (QI z)) st (fun s0 s1 s2 q => tX11_drawn_35 v0 v1 v2 s0 s1 s2 h q) q) q)
    kRI_ok (Or.inr rfl) (by decide +kernel) (by decide +kernel) hf
def wX11_drawn_27 : List En := [(.ifCond .eq 7, 34, 0, 0)]
def fX11_drawn_27 (v0 : Nat) (v1 : Int32) (v2 : Int32) (s0 : Int32) (s1 : Int32) (s2 : Nat) (h : aH) : Option (Int32 × aH) :=
  if s0 = 0 then fX11_drawn_34 v0 v1 v2 s1 s2 h else fX11_drawn_30 v0 v1 v2 s1 s2 h
theorem tX11_drawn_27 {d : Nat} {z : Int32 × aH} (v0 : Nat) (v1 : Int32) (v2 : Int32) (s0 : Int32) (s1 : Int32) (s2 : Nat) (h : aH) (hf : fX11_drawn_27 v0 v1 v2 s0 s1 s2 h = some z) : Ev (d + 4) none mX11_drawn (0, 0) 27 [.ref v0, .int v1, .int v2, .null, .null, .null] [.int s0, .int s1, .ref s2] h (QI z) := 
  go_ok (X := none) (blk := wX11_drawn_27) (np := 30) (tt := 34) (kN := fun xs h st => app [2, 1, 1, 0, 0, 0] (fun v0 v1 v2 => apS [1, 2] (fun s0 s1 => fX11_drawn_30 v0 v1 v2 s0 s1 h) st) xs) (kT := fun xs h st => app [2, 1, 1, 0, 0, 0] (fun v0 v1 v2 => apS [1, 2] (fun s0 s1 => fX11_drawn_34 v0 v1 v2 s0 s1 h) st) xs) (kR := kRI)
    (fun xs h st q => jm [2, 1, 1, 0, 0, 0] _ (fun v0 v1 v2 q => apS_ok [1, 2] _ (fun st => Ev (d + 4) none mX11_drawn (0, 0) 30 [.ref v0, .int v1, .int v2, .null, .null, .null] st h (QI z)) st (fun s0 s1 q => tX11_drawn_30 v0 v1 v2 s0 s1 h q) q) q)
    (fun xs h st q => jm [2, 1, 1, 0, 0, 0] _ (fun v0 v1 v2 q => apS_ok [1, 2] _ (fun st => Ev (d + 4) none mX11_drawn (0, 0) 34 [.ref v0, .int v1, .int v2, .null, .null, .null] st h (QI z)) st (fun s0 s1 q => tX11_drawn_34 v0 v1 v2 s0 s1 h q) q) q)
    kRI_ok (Or.inr rfl) (by decide +kernel) (by decide +kernel) hf
theorem kqX11_drawn_24 : okC mX11_drawn 24 (.invokestatic 140) 182 197 1 3 = true := by decide +kernel
def fX11_drawn_24 (v0 : Nat) (v1 : Int32) (v2 : Int32) (s0 : Int32) (s1 : Int32) (s2 : Int32) (s3 : Int32) (s4 : Nat) (h : aH) : Option (Int32 × aH) :=
  (gX11_in s2 s1 s0 h).bind fun r =>
  fX11_drawn_27 v0 v1 v2 r.1 s3 s4 r.2
theorem tX11_drawn_24 {d : Nat} {z : Int32 × aH} (v0 : Nat) (v1 : Int32) (v2 : Int32) (s0 : Int32) (s1 : Int32) (s2 : Int32) (s3 : Int32) (s4 : Nat) (h : aH) (hf : fX11_drawn_24 v0 v1 v2 s0 s1 s2 s3 s4 h = some z) : Ev (d + 4) none mX11_drawn (0, 0) 24 [.ref v0, .int v1, .int v2, .null, .null, .null] [.int s0, .int s1, .int s2, .int s3, .ref s4] h (QI z) := by
  obtain ⟨r, h2, hf⟩ := bnd hf
  refine ev_S kqX11_drawn_24 jX11_in (zX11_in (d := d + 3) h2) rfl (Nat.le_of_ble_eq_true rfl) rfl (as := [.int s2, .int s1, .int s0]) (rest := [.int s3, .ref s4]) rfl (Nat.le_of_ble_eq_true rfl) (fun _ _ hq => ?_)
  obtain ⟨-, rfl, rfl⟩ := hq
  exact jm [2, 1, 1, 0, 0, 0] (fun v0 v1 v2 => fX11_drawn_27 v0 v1 v2 r.1 s3 s4 r.2) (fun v0 v1 v2 q => tX11_drawn_27 v0 v1 v2 r.1 s3 s4 r.2 q) hf
def wX11_drawn_20 : List En := [(.iload_n 2, 0, 0, 0), (.iconst 1, 0, 0, 0), (.bipush 60, 0, 0, 0)]
def fX11_drawn_20 (v0 : Nat) (v1 : Int32) (v2 : Int32) (s0 : Int32) (s1 : Nat) (h : aH) : Option (Int32 × aH) :=
  fX11_drawn_24 v0 v1 v2 (kB 60) (kI 1) v2 s0 s1 h
theorem tX11_drawn_20 {d : Nat} {z : Int32 × aH} (v0 : Nat) (v1 : Int32) (v2 : Int32) (s0 : Int32) (s1 : Nat) (h : aH) (hf : fX11_drawn_20 v0 v1 v2 s0 s1 h = some z) : Ev (d + 4) none mX11_drawn (0, 0) 20 [.ref v0, .int v1, .int v2, .null, .null, .null] [.int s0, .ref s1] h (QI z) := 
  go_ok (X := none) (blk := wX11_drawn_20) (np := 24) (tt := 0) (kN := fun xs h st => app [2, 1, 1, 0, 0, 0] (fun v0 v1 v2 => apS [1, 1, 1, 1, 2] (fun s0 s1 s2 s3 s4 => fX11_drawn_24 v0 v1 v2 s0 s1 s2 s3 s4 h) st) xs) (kT := fun _ _ _ => none) (kR := kRI)
    (fun xs h st q => jm [2, 1, 1, 0, 0, 0] _ (fun v0 v1 v2 q => apS_ok [1, 1, 1, 1, 2] _ (fun st => Ev (d + 4) none mX11_drawn (0, 0) 24 [.ref v0, .int v1, .int v2, .null, .null, .null] st h (QI z)) st (fun s0 s1 s2 s3 s4 q => tX11_drawn_24 v0 v1 v2 s0 s1 s2 s3 s4 h q) q) q)
    (fun _ _ _ q => nos q)
    kRI_ok (Or.inr rfl) (by decide +kernel) (by decide +kernel) hf
def wX11_drawn_17 : List En := [(.ifCond .eq 17, 34, 0, 0)]
def fX11_drawn_17 (v0 : Nat) (v1 : Int32) (v2 : Int32) (s0 : Int32) (s1 : Int32) (s2 : Nat) (h : aH) : Option (Int32 × aH) :=
  if s0 = 0 then fX11_drawn_34 v0 v1 v2 s1 s2 h else fX11_drawn_20 v0 v1 v2 s1 s2 h
theorem tX11_drawn_17 {d : Nat} {z : Int32 × aH} (v0 : Nat) (v1 : Int32) (v2 : Int32) (s0 : Int32) (s1 : Int32) (s2 : Nat) (h : aH) (hf : fX11_drawn_17 v0 v1 v2 s0 s1 s2 h = some z) : Ev (d + 4) none mX11_drawn (0, 0) 17 [.ref v0, .int v1, .int v2, .null, .null, .null] [.int s0, .int s1, .ref s2] h (QI z) := 
  go_ok (X := none) (blk := wX11_drawn_17) (np := 20) (tt := 34) (kN := fun xs h st => app [2, 1, 1, 0, 0, 0] (fun v0 v1 v2 => apS [1, 2] (fun s0 s1 => fX11_drawn_20 v0 v1 v2 s0 s1 h) st) xs) (kT := fun xs h st => app [2, 1, 1, 0, 0, 0] (fun v0 v1 v2 => apS [1, 2] (fun s0 s1 => fX11_drawn_34 v0 v1 v2 s0 s1 h) st) xs) (kR := kRI)
    (fun xs h st q => jm [2, 1, 1, 0, 0, 0] _ (fun v0 v1 v2 q => apS_ok [1, 2] _ (fun st => Ev (d + 4) none mX11_drawn (0, 0) 20 [.ref v0, .int v1, .int v2, .null, .null, .null] st h (QI z)) st (fun s0 s1 q => tX11_drawn_20 v0 v1 v2 s0 s1 h q) q) q)
    (fun xs h st q => jm [2, 1, 1, 0, 0, 0] _ (fun v0 v1 v2 q => apS_ok [1, 2] _ (fun st => Ev (d + 4) none mX11_drawn (0, 0) 34 [.ref v0, .int v1, .int v2, .null, .null, .null] st h (QI z)) st (fun s0 s1 q => tX11_drawn_34 v0 v1 v2 s0 s1 h q) q) q)
    kRI_ok (Or.inr rfl) (by decide +kernel) (by decide +kernel) hf
theorem kqX11_drawn_14 : okC mX11_drawn 14 (.invokestatic 140) 182 197 1 3 = true := by decide +kernel
def fX11_drawn_14 (v0 : Nat) (v1 : Int32) (v2 : Int32) (s0 : Int32) (s1 : Int32) (s2 : Int32) (s3 : Int32) (s4 : Nat) (h : aH) : Option (Int32 × aH) :=
  (gX11_in s2 s1 s0 h).bind fun r =>
  fX11_drawn_17 v0 v1 v2 r.1 s3 s4 r.2
theorem tX11_drawn_14 {d : Nat} {z : Int32 × aH} (v0 : Nat) (v1 : Int32) (v2 : Int32) (s0 : Int32) (s1 : Int32) (s2 : Int32) (s3 : Int32) (s4 : Nat) (h : aH) (hf : fX11_drawn_14 v0 v1 v2 s0 s1 s2 s3 s4 h = some z) : Ev (d + 4) none mX11_drawn (0, 0) 14 [.ref v0, .int v1, .int v2, .null, .null, .null] [.int s0, .int s1, .int s2, .int s3, .ref s4] h (QI z) := by
  obtain ⟨r, h2, hf⟩ := bnd hf
  refine ev_S kqX11_drawn_14 jX11_in (zX11_in (d := d + 3) h2) rfl (Nat.le_of_ble_eq_true rfl) rfl (as := [.int s2, .int s1, .int s0]) (rest := [.int s3, .ref s4]) rfl (Nat.le_of_ble_eq_true rfl) (fun _ _ hq => ?_)
  obtain ⟨-, rfl, rfl⟩ := hq
  exact jm [2, 1, 1, 0, 0, 0] (fun v0 v1 v2 => fX11_drawn_17 v0 v1 v2 r.1 s3 s4 r.2) (fun v0 v1 v2 q => tX11_drawn_17 v0 v1 v2 r.1 s3 s4 r.2 q) hf
theorem kqX11_drawn_11 : ckW mX11_drawn 11 405 2 65536 = true := by decide +kernel
def fX11_drawn_11 (v0 : Nat) (v1 : Int32) (v2 : Int32) (s0 : Int32) (s1 : Int32) (s2 : Int32) (s3 : Nat) (h : aH) : Option (Int32 × aH) :=
  fX11_drawn_14 v0 v1 v2 (65536 : Int32) s0 s1 s2 s3 h
theorem tX11_drawn_11 {d : Nat} {z : Int32 × aH} (v0 : Nat) (v1 : Int32) (v2 : Int32) (s0 : Int32) (s1 : Int32) (s2 : Int32) (s3 : Nat) (h : aH) (hf : fX11_drawn_11 v0 v1 v2 s0 s1 s2 s3 h = some z) : Ev (d + 4) none mX11_drawn (0, 0) 11 [.ref v0, .int v1, .int v2, .null, .null, .null] [.int s0, .int s1, .int s2, .ref s3] h (QI z) := 
  ev_ldcw kqX11_drawn_11 rfl (jm [2, 1, 1, 0, 0, 0] (fun v0 v1 v2 => fX11_drawn_14 v0 v1 v2 (65536 : Int32) s0 s1 s2 s3 h) (fun v0 v1 v2 q => tX11_drawn_14 v0 v1 v2 (65536 : Int32) s0 s1 s2 s3 h q) hf)
def wX11_drawn_4 : List En := [(.aload_n 0, 0, 0, 0), (.aload_n 0, 0, 0, 0), (.getfield 174, 189, 11, 14), (.iload_n 1, 0, 0, 0), (.iconst 0, 0, 0, 0)]
def fX11_drawn_4 (v0 : Nat) (v1 : Int32) (v2 : Int32) (h : aH) : Option (Int32 × aH) :=
  (gFI h 11 v0 14).bind fun t1 =>
  fX11_drawn_11 v0 v1 v2 (kI 0) v1 t1 v0 h
theorem tX11_drawn_4 {d : Nat} {z : Int32 × aH} (v0 : Nat) (v1 : Int32) (v2 : Int32) (h : aH) (hf : fX11_drawn_4 v0 v1 v2 h = some z) : Ev (d + 4) none mX11_drawn (0, 0) 4 [.ref v0, .int v1, .int v2, .null, .null, .null] [] h (QI z) := 
  go_ok (X := none) (blk := wX11_drawn_4) (np := 11) (tt := 0) (kN := fun xs h st => app [2, 1, 1, 0, 0, 0] (fun v0 v1 v2 => apS [1, 1, 1, 2] (fun s0 s1 s2 s3 => fX11_drawn_11 v0 v1 v2 s0 s1 s2 s3 h) st) xs) (kT := fun _ _ _ => none) (kR := kRI)
    (fun xs h st q => jm [2, 1, 1, 0, 0, 0] _ (fun v0 v1 v2 q => apS_ok [1, 1, 1, 2] _ (fun st => Ev (d + 4) none mX11_drawn (0, 0) 11 [.ref v0, .int v1, .int v2, .null, .null, .null] st h (QI z)) st (fun s0 s1 s2 s3 q => tX11_drawn_11 v0 v1 v2 s0 s1 s2 s3 h q) q) q)
    (fun _ _ _ q => nos q)
    kRI_ok (Or.inr rfl) (by decide +kernel) (by decide +kernel) hf
theorem kqX11_drawn_1 : okC mX11_drawn 1 (.invokevirtual 161) 181 196 0 0 = true := by decide +kernel
def fX11_drawn_1 (v0 : Nat) (v1 : Int32) (v2 : Int32) (s0 : Nat) (h : aH) : Option (Int32 × aH) :=
  (isO h 11 s0).bind fun _ =>
  (gX11_anew s0 h).bind fun r =>
  fX11_drawn_4 v0 v1 v2 r
theorem tX11_drawn_1 {d : Nat} {z : Int32 × aH} (v0 : Nat) (v1 : Int32) (v2 : Int32) (s0 : Nat) (h : aH) (hf : fX11_drawn_1 v0 v1 v2 s0 h = some z) : Ev (d + 4) none mX11_drawn (0, 0) 1 [.ref v0, .int v1, .int v2, .null, .null, .null] [.ref s0] h (QI z) := by
  obtain ⟨_, h1, hf⟩ := bnd hf
  obtain ⟨fs, ho⟩ := isO_ok h1
  obtain ⟨r, h2, hf⟩ := bnd hf
  refine ev_V kqX11_drawn_1 jX11_anew (zX11_anew (d := d + 3) h2) ho rfl rfl (Nat.le_of_ble_eq_true rfl) rfl (as := []) (rest := []) rfl (Nat.le_of_ble_eq_true rfl) (fun _ _ hq => ?_)
  obtain ⟨rfl, hh⟩ := hq
  rw [hh]
  exact jm [2, 1, 1, 0, 0, 0] (fun v0 v1 v2 => fX11_drawn_4 v0 v1 v2 r) (fun v0 v1 v2 q => tX11_drawn_4 v0 v1 v2 r q) hf
def wX11_drawn_0 : List En := [(.aload_n 0, 0, 0, 0)]
def fX11_drawn_0 (v0 : Nat) (v1 : Int32) (v2 : Int32) (h : aH) : Option (Int32 × aH) :=
  fX11_drawn_1 v0 v1 v2 v0 h
theorem tX11_drawn_0 {d : Nat} {z : Int32 × aH} (v0 : Nat) (v1 : Int32) (v2 : Int32) (h : aH) (hf : fX11_drawn_0 v0 v1 v2 h = some z) : Ev (d + 4) none mX11_drawn (0, 0) 0 [.ref v0, .int v1, .int v2, .null, .null, .null] [] h (QI z) := 
  go_ok (X := none) (blk := wX11_drawn_0) (np := 1) (tt := 0) (kN := fun xs h st => app [2, 1, 1, 0, 0, 0] (fun v0 v1 v2 => apS [2] (fun s0 => fX11_drawn_1 v0 v1 v2 s0 h) st) xs) (kT := fun _ _ _ => none) (kR := kRI)
    (fun xs h st q => jm [2, 1, 1, 0, 0, 0] _ (fun v0 v1 v2 q => apS_ok [2] _ (fun st => Ev (d + 4) none mX11_drawn (0, 0) 1 [.ref v0, .int v1, .int v2, .null, .null, .null] st h (QI z)) st (fun s0 q => tX11_drawn_1 v0 v1 v2 s0 h q) q) q)
    (fun _ _ _ q => nos q)
    kRI_ok (Or.inr rfl) (by decide +kernel) (by decide +kernel) hf
def gX11_drawn (v0 : Nat) (v1 : Int32) (v2 : Int32) (h : aH) : Option (Int32 × aH) := fX11_drawn_0 v0 v1 v2 h
theorem zX11_drawn {d : Nat} {z : Int32 × aH} {v0 : Nat} {v1 : Int32} {v2 : Int32} {h : aH} (q : gX11_drawn v0 v1 v2 h = some z) : CT (d + 4) mX11_drawn (0, 0) [.ref v0, .int v1, .int v2] h (QI z) :=
  ct_ev (by decide +kernel) (Nat.le_of_ble_eq_true rfl) QI_r (jm [2, 1, 1, 0, 0, 0] (fun v0 v1 v2 => fX11_drawn_0 v0 v1 v2 h) (fun v0 v1 v2 q => tX11_drawn_0 v0 v1 v2 h q) q)
def wX11_note_70 : List En := [(.aload_n 0, 0, 0, 0), (.dup, 0, 0, 0), (.getfield 177, 198, 11, 23), (.iconst 1, 0, 0, 0), (.iadd, 0, 0, 0), (.putfield 177, 198, 11, 23), (.return_, 0, 0, 0)]
def fX11_note_70 (v0 : Nat) (h : aH) : Option (aH) :=
  (gFI h 11 v0 23).bind fun t1 =>
  (pWV h 11 v0 23 (.int (t1 + (kI 1)))).bind fun h2 =>
  some h2
theorem tX11_note_70 {d : Nat} {z : aH} (v0 : Nat) (h : aH) (hf : fX11_note_70 v0 h = some z) : Ev (d + 1) none mX11_note (0, 0) 70 [.ref v0, .null] [] h (QV z) := 
  go_ok (X := none) (blk := wX11_note_70) (np := 81) (tt := 0) (kN := fun _ _ _ => none) (kT := fun _ _ _ => none) (kR := kRV)
    (fun _ _ _ q => nos q)
    (fun _ _ _ q => nos q)
    kRV_ok (Or.inr rfl) (by decide +kernel) (by decide +kernel) hf
theorem kqX11_note_67 : okC mX11_note 67 (.invokestatic 170) 210 227 1 5 = true := by decide +kernel
def fX11_note_67 (v0 : Nat) (s0 : Int32) (s1 : Int32) (s2 : Nat) (s3 : Int32) (s4 : Nat) (h : aH) : Option (aH) :=
  (gX11_copy s4 s3 s2 s1 s0 h).bind fun r =>
  fX11_note_70 v0 r
theorem tX11_note_67 {d : Nat} {z : aH} (v0 : Nat) (s0 : Int32) (s1 : Int32) (s2 : Nat) (s3 : Int32) (s4 : Nat) (h : aH) (hf : fX11_note_67 v0 s0 s1 s2 s3 s4 h = some z) : Ev (d + 1) none mX11_note (0, 0) 67 [.ref v0, .null] [.int s0, .int s1, .ref s2, .int s3, .ref s4] h (QV z) := by
  obtain ⟨r, h2, hf⟩ := bnd hf
  refine ev_S kqX11_note_67 jX11_copy (zX11_copy (d := d + 0) h2) rfl (Nat.le_of_ble_eq_true rfl) rfl (as := [.ref s4, .int s3, .ref s2, .int s1, .int s0]) (rest := []) rfl (Nat.le_of_ble_eq_true rfl) (fun _ _ hq => ?_)
  obtain ⟨rfl, hh⟩ := hq
  rw [hh]
  exact jm [2, 0] (fun v0 => fX11_note_70 v0 r) (fun v0 q => tX11_note_70 v0 r q) hf
def wX11_note_49 : List En := [(.aload_n 0, 0, 0, 0), (.getfield 32, 194, 11, 19), (.iconst 0, 0, 0, 0), (.aload_n 0, 0, 0, 0), (.getfield 38, 196, 11, 21), (.bipush 22, 0, 0, 0), (.aload_n 0, 0, 0, 0), (.getfield 177, 198, 11, 23), (.imul, 0, 0, 0), (.bipush 22, 0, 0, 0)]
def fX11_note_49 (v0 : Nat) (h : aH) : Option (aH) :=
  (gFR h 11 v0 19).bind fun t1 =>
  (gFR h 11 v0 21).bind fun t2 =>
  (gFI h 11 v0 23).bind fun t3 =>
  fX11_note_67 v0 (kB 22) ((kB 22) * t3) t2 (kI 0) t1 h
theorem tX11_note_49 {d : Nat} {z : aH} (v0 : Nat) (h : aH) (hf : fX11_note_49 v0 h = some z) : Ev (d + 1) none mX11_note (0, 0) 49 [.ref v0, .null] [] h (QV z) := 
  go_ok (X := none) (blk := wX11_note_49) (np := 67) (tt := 0) (kN := fun xs h st => app [2, 0] (fun v0 => apS [1, 1, 2, 1, 2] (fun s0 s1 s2 s3 s4 => fX11_note_67 v0 s0 s1 s2 s3 s4 h) st) xs) (kT := fun _ _ _ => none) (kR := kRV)
    (fun xs h st q => jm [2, 0] _ (fun v0 q => apS_ok [1, 1, 2, 1, 2] _ (fun st => Ev (d + 1) none mX11_note (0, 0) 67 [.ref v0, .null] st h (QV z)) st (fun s0 s1 s2 s3 s4 q => tX11_note_67 v0 s0 s1 s2 s3 s4 h q) q) q)
    (fun _ _ _ q => nos q)
    kRV_ok (Or.inr rfl) (by decide +kernel) (by decide +kernel) hf
def wX11_note_39 : List En := [(.aload_n 0, 0, 0, 0), (.dup, 0, 0, 0), (.getfield 177, 198, 11, 23), (.iconst 1, 0, 0, 0), (.isub, 0, 0, 0), (.putfield 177, 198, 11, 23)]
def fX11_note_39 (v0 : Nat) (h : aH) : Option (aH) :=
  (gFI h 11 v0 23).bind fun t1 =>
  (pWV h 11 v0 23 (.int (t1 - (kI 1)))).bind fun h2 =>
  fX11_note_49 v0 h2
theorem tX11_note_39 {d : Nat} {z : aH} (v0 : Nat) (h : aH) (hf : fX11_note_39 v0 h = some z) : Ev (d + 1) none mX11_note (0, 0) 39 [.ref v0, .null] [] h (QV z) := 
  go_ok (X := none) (blk := wX11_note_39) (np := 49) (tt := 0) (kN := fun xs h st => app [2, 0] (fun v0 => apS [] (fX11_note_49 v0 h) st) xs) (kT := fun _ _ _ => none) (kR := kRV)
    (fun xs h st q => jm [2, 0] _ (fun v0 q => apS_ok [] _ (fun st => Ev (d + 1) none mX11_note (0, 0) 49 [.ref v0, .null] st h (QV z)) st (fun q => tX11_note_49 v0 h q) q) q)
    (fun _ _ _ q => nos q)
    kRV_ok (Or.inr rfl) (by decide +kernel) (by decide +kernel) hf
def wX11_note_18 : List En := [(.aload_n 0, 0, 0, 0), (.getfield 38, 196, 11, 21), (.iload_n 1, 0, 0, 0), (.aload_n 0, 0, 0, 0), (.getfield 38, 196, 11, 21), (.iload_n 1, 0, 0, 0), (.bipush 22, 0, 0, 0), (.iadd, 0, 0, 0), (.iaload, 0, 0, 0), (.iastore, 0, 0, 0), (.iinc 1 1, 0, 0, 0), (.goto (-25), 11, 0, 0)]
def fX11_note_18 (k11 : Nat → Int32 → aH → Option (aH)) (v0 : Nat) (v1 : Int32) (h : aH) : Option (aH) :=
  (gFR h 11 v0 21).bind fun t1 =>
  (gFR h 11 v0 21).bind fun t2 =>
  (aRI (h[t2]?) (v1 + (kB 22))).bind fun t3 =>
  (aWI h t1 v1 t3).bind fun h4 =>
  k11 v0 (v1 + kI 1) h4
theorem tX11_note_18 {d : Nat} {z : aH} {k11 : Nat → Int32 → aH → Option (aH)} (hk11 : ∀ (v0 : Nat) (v1 : Int32) (h : aH), k11 v0 v1 h = some z → Ev (d + 1) none mX11_note (0, 0) 11 [.ref v0, .int v1] [] h (QV z)) (v0 : Nat) (v1 : Int32) (h : aH) (hf : fX11_note_18 k11 v0 v1 h = some z) : Ev (d + 1) none mX11_note (0, 0) 18 [.ref v0, .int v1] [] h (QV z) := 
  go_ok (X := none) (blk := wX11_note_18) (np := 39) (tt := 11) (kN := fun _ _ _ => none) (kT := fun xs h st => app [2, 1] (fun v0 v1 => apS [] (k11 v0 v1 h) st) xs) (kR := kRV)
    (fun _ _ _ q => nos q)
    (fun xs h st q => jm [2, 1] _ (fun v0 v1 q => apS_ok [] _ (fun st => Ev (d + 1) none mX11_note (0, 0) 11 [.ref v0, .int v1] st h (QV z)) st (fun q => hk11 v0 v1 h q) q) q)
    kRV_ok (Or.inr rfl) (by decide +kernel) (by decide +kernel) hf
def wX11_note_11 : List En := [(.iload_n 1, 0, 0, 0), (.sipush 330, 0, 0, 0), (.if_icmp .ge 24, 39, 0, 0)]
def fX11_note_11 (k11 : Nat → Int32 → aH → Option (aH)) (v0 : Nat) (v1 : Int32) (h : aH) : Option (aH) :=
  if v1 < (kS 330) then fX11_note_18 k11 v0 v1 h else fX11_note_39 v0 h
theorem tX11_note_11 {d : Nat} {z : aH} {k11 : Nat → Int32 → aH → Option (aH)} (hk11 : ∀ (v0 : Nat) (v1 : Int32) (h : aH), k11 v0 v1 h = some z → Ev (d + 1) none mX11_note (0, 0) 11 [.ref v0, .int v1] [] h (QV z)) (v0 : Nat) (v1 : Int32) (h : aH) (hf : fX11_note_11 k11 v0 v1 h = some z) : Ev (d + 1) none mX11_note (0, 0) 11 [.ref v0, .int v1] [] h (QV z) := 
  go_ok (X := none) (blk := wX11_note_11) (np := 18) (tt := 39) (kN := fun xs h st => app [2, 1] (fun v0 v1 => apS [] (fX11_note_18 k11 v0 v1 h) st) xs) (kT := fun xs h st => app [2, 0] (fun v0 => apS [] (fX11_note_39 v0 h) st) xs) (kR := kRV)
    (fun xs h st q => jm [2, 1] _ (fun v0 v1 q => apS_ok [] _ (fun st => Ev (d + 1) none mX11_note (0, 0) 18 [.ref v0, .int v1] st h (QV z)) st (fun q => tX11_note_18 hk11 v0 v1 h q) q) q)
    (fun xs h st q => jm [2, 0] _ (fun v0 q => apS_ok [] _ (fun st => Ev (d + 1) none mX11_note (0, 0) 39 [.ref v0, .null] st h (QV z)) st (fun q => tX11_note_39 v0 h q) q) q)
    kRV_ok (Or.inr rfl) (by decide +kernel) (by decide +kernel) hf
def lX11_note_11 : Nat → Nat → Int32 → aH → Option (aH)
  | 0, _, _, _ => none
  | n + 1, v0, v1, h => fX11_note_11 (lX11_note_11 n) v0 v1 h
theorem uX11_note_11 {d : Nat} {z : aH} : ∀ (n : Nat) (v0 : Nat) (v1 : Int32) (h : aH), lX11_note_11 n v0 v1 h = some z → Ev (d + 1) none mX11_note (0, 0) 11 [.ref v0, .int v1] [] h (QV z) := by
  intro n
  induction n with
  | zero => intro _ _ _ q; exact nos (show (none : Option (aH)) = some z from q)
  | succ n ih => intro v0 v1 h q; exact tX11_note_11 ih v0 v1 h q
def wX11_note_9 : List En := [(.iconst 0, 0, 0, 0), (.istore_n 1, 0, 0, 0)]
def fX11_note_9 (v0 : Nat) (h : aH) : Option (aH) :=
  lX11_note_11 FU v0 (kI 0) h
theorem tX11_note_9 {d : Nat} {z : aH} (v0 : Nat) (h : aH) (hf : fX11_note_9 v0 h = some z) : Ev (d + 1) none mX11_note (0, 0) 9 [.ref v0, .null] [] h (QV z) := 
  go_ok (X := none) (blk := wX11_note_9) (np := 11) (tt := 0) (kN := fun xs h st => app [2, 1] (fun v0 v1 => apS [] (lX11_note_11 FU v0 v1 h) st) xs) (kT := fun _ _ _ => none) (kR := kRV)
    (fun xs h st q => jm [2, 1] _ (fun v0 v1 q => apS_ok [] _ (fun st => Ev (d + 1) none mX11_note (0, 0) 11 [.ref v0, .int v1] st h (QV z)) st (fun q => uX11_note_11 FU v0 v1 h q) q) q)
    (fun _ _ _ q => nos q)
    kRV_ok (Or.inr rfl) (by decide +kernel) (by decide +kernel) hf
def wX11_note_0 : List En := [(.aload_n 0, 0, 0, 0), (.getfield 177, 198, 11, 23), (.bipush 16, 0, 0, 0), (.if_icmp .ne 43, 49, 0, 0)]
def fX11_note_0 (v0 : Nat) (h : aH) : Option (aH) :=
  (gFI h 11 v0 23).bind fun t1 =>
  if t1 = (kB 16) then fX11_note_9 v0 h else fX11_note_49 v0 h
theorem tX11_note_0 {d : Nat} {z : aH} (v0 : Nat) (h : aH) (hf : fX11_note_0 v0 h = some z) : Ev (d + 1) none mX11_note (0, 0) 0 [.ref v0, .null] [] h (QV z) := 
  go_ok (X := none) (blk := wX11_note_0) (np := 9) (tt := 49) (kN := fun xs h st => app [2, 0] (fun v0 => apS [] (fX11_note_9 v0 h) st) xs) (kT := fun xs h st => app [2, 0] (fun v0 => apS [] (fX11_note_49 v0 h) st) xs) (kR := kRV)
    (fun xs h st q => jm [2, 0] _ (fun v0 q => apS_ok [] _ (fun st => Ev (d + 1) none mX11_note (0, 0) 9 [.ref v0, .null] st h (QV z)) st (fun q => tX11_note_9 v0 h q) q) q)
    (fun xs h st q => jm [2, 0] _ (fun v0 q => apS_ok [] _ (fun st => Ev (d + 1) none mX11_note (0, 0) 49 [.ref v0, .null] st h (QV z)) st (fun q => tX11_note_49 v0 h q) q) q)
    kRV_ok (Or.inr rfl) (by decide +kernel) (by decide +kernel) hf
def gX11_note (v0 : Nat) (h : aH) : Option (aH) := fX11_note_0 v0 h
theorem zX11_note {d : Nat} {z : aH} {v0 : Nat} {h : aH} (q : gX11_note v0 h = some z) : CT (d + 1) mX11_note (0, 0) [.ref v0] h (QV z) :=
  ct_ev (by decide +kernel) (Nat.le_of_ble_eq_true rfl) QV_r (jm [2, 0] (fun v0 => fX11_note_0 v0 h) (fun v0 q => tX11_note_0 v0 h q) q)
def wX11_day_50 : List En := [(.aload_n 0, 0, 0, 0), (.getfield 257, 201, 11, 26), (.ireturn, 0, 0, 0)]
def fX11_day_50 (v0 : Nat) (h : aH) : Option (Int32 × aH) :=
  (gFI h 11 v0 26).bind fun t1 =>
  some (t1, h)
theorem tX11_day_50 {d : Nat} {z : Int32 × aH} (v0 : Nat) (h : aH) (hf : fX11_day_50 v0 h = some z) : Ev (d + 4) none mX11_day (0, 0) 50 [.ref v0] [] h (QI z) := 
  go_ok (X := none) (blk := wX11_day_50) (np := 55) (tt := 0) (kN := fun _ _ _ => none) (kT := fun _ _ _ => none) (kR := kRI)
    (fun _ _ _ q => nos q)
    (fun _ _ _ q => nos q)
    kRI_ok (Or.inr rfl) (by decide +kernel) (by decide +kernel) hf
theorem kqX11_day_47 : okC mX11_day 47 (.invokevirtual 281) 228 245 0 3 = true := by decide +kernel
def fX11_day_47 (v0 : Nat) (s0 : Int32) (s1 : Int32) (s2 : Nat) (s3 : Nat) (h : aH) : Option (Int32 × aH) :=
  (isO h 11 s3).bind fun _ =>
  (gX11_dayOn s3 s2 s1 s0 h).bind fun r =>
  fX11_day_50 v0 r
theorem tX11_day_47 {d : Nat} {z : Int32 × aH} (v0 : Nat) (s0 : Int32) (s1 : Int32) (s2 : Nat) (s3 : Nat) (h : aH) (hf : fX11_day_47 v0 s0 s1 s2 s3 h = some z) : Ev (d + 4) none mX11_day (0, 0) 47 [.ref v0] [.int s0, .int s1, .ref s2, .ref s3] h (QI z) := by
  obtain ⟨_, h1, hf⟩ := bnd hf
  obtain ⟨fs, ho⟩ := isO_ok h1
  obtain ⟨r, h2, hf⟩ := bnd hf
  refine ev_V kqX11_day_47 jX11_dayOn (zX11_dayOn (d := d + 0) h2) ho rfl rfl (Nat.le_of_ble_eq_true rfl) rfl (as := [.ref s2, .int s1, .int s0]) (rest := []) rfl (Nat.le_of_ble_eq_true rfl) (fun _ _ hq => ?_)
  obtain ⟨rfl, hh⟩ := hq
  rw [hh]
  exact jm [2] (fun v0 => fX11_day_50 v0 r) (fun v0 q => tX11_day_50 v0 r q) hf
def wX11_day_40 : List En := [(.aload_n 0, 0, 0, 0), (.aload_n 0, 0, 0, 0), (.getfield 32, 194, 11, 19), (.iconst 0, 0, 0, 0), (.iconst 0, 0, 0, 0)]
def fX11_day_40 (v0 : Nat) (h : aH) : Option (Int32 × aH) :=
  (gFR h 11 v0 19).bind fun t1 =>
  fX11_day_47 v0 (kI 0) (kI 0) t1 v0 h
theorem tX11_day_40 {d : Nat} {z : Int32 × aH} (v0 : Nat) (h : aH) (hf : fX11_day_40 v0 h = some z) : Ev (d + 4) none mX11_day (0, 0) 40 [.ref v0] [] h (QI z) := 
  go_ok (X := none) (blk := wX11_day_40) (np := 47) (tt := 0) (kN := fun xs h st => app [2] (fun v0 => apS [1, 1, 2, 2] (fun s0 s1 s2 s3 => fX11_day_47 v0 s0 s1 s2 s3 h) st) xs) (kT := fun _ _ _ => none) (kR := kRI)
    (fun xs h st q => jm [2] _ (fun v0 q => apS_ok [1, 1, 2, 2] _ (fun st => Ev (d + 4) none mX11_day (0, 0) 47 [.ref v0] st h (QI z)) st (fun s0 s1 s2 s3 q => tX11_day_47 v0 s0 s1 s2 s3 h q) q) q)
    (fun _ _ _ q => nos q)
    kRI_ok (Or.inr rfl) (by decide +kernel) (by decide +kernel) hf
theorem kqX11_day_37 : okC mX11_day 37 (.invokevirtual 407) 291 308 0 0 = true := by decide +kernel
def fX11_day_37 (v0 : Nat) (s0 : Nat) (h : aH) : Option (Int32 × aH) :=
  (isO h 11 s0).bind fun _ =>
  (gX11_note s0 h).bind fun r =>
  fX11_day_40 v0 r
theorem tX11_day_37 {d : Nat} {z : Int32 × aH} (v0 : Nat) (s0 : Nat) (h : aH) (hf : fX11_day_37 v0 s0 h = some z) : Ev (d + 4) none mX11_day (0, 0) 37 [.ref v0] [.ref s0] h (QI z) := by
  obtain ⟨_, h1, hf⟩ := bnd hf
  obtain ⟨fs, ho⟩ := isO_ok h1
  obtain ⟨r, h2, hf⟩ := bnd hf
  refine ev_V kqX11_day_37 jX11_note (zX11_note (d := d + 2) h2) ho rfl rfl (Nat.le_of_ble_eq_true rfl) rfl (as := []) (rest := []) rfl (Nat.le_of_ble_eq_true rfl) (fun _ _ hq => ?_)
  obtain ⟨rfl, hh⟩ := hq
  rw [hh]
  exact jm [2] (fun v0 => fX11_day_40 v0 r) (fun v0 q => tX11_day_40 v0 r q) hf
def wX11_day_36 : List En := [(.aload_n 0, 0, 0, 0)]
def fX11_day_36 (v0 : Nat) (h : aH) : Option (Int32 × aH) :=
  fX11_day_37 v0 v0 h
theorem tX11_day_36 {d : Nat} {z : Int32 × aH} (v0 : Nat) (h : aH) (hf : fX11_day_36 v0 h = some z) : Ev (d + 4) none mX11_day (0, 0) 36 [.ref v0] [] h (QI z) := 
  go_ok (X := none) (blk := wX11_day_36) (np := 37) (tt := 0) (kN := fun xs h st => app [2] (fun v0 => apS [2] (fun s0 => fX11_day_37 v0 s0 h) st) xs) (kT := fun _ _ _ => none) (kR := kRI)
    (fun xs h st q => jm [2] _ (fun v0 q => apS_ok [2] _ (fun st => Ev (d + 4) none mX11_day (0, 0) 37 [.ref v0] st h (QI z)) st (fun s0 q => tX11_day_37 v0 s0 h q) q) q)
    (fun _ _ _ q => nos q)
    kRI_ok (Or.inr rfl) (by decide +kernel) (by decide +kernel) hf
def wX11_day_35 : List En := [(.ireturn, 0, 0, 0)]
def fX11_day_35 (s0 : Int32) (h : aH) : Option (Int32 × aH) :=
  some (s0, h)
theorem tX11_day_35 {d : Nat} {z : Int32 × aH} (s0 : Int32) (h : aH) (hf : fX11_day_35 s0 h = some z) : Ev (d + 4) none mX11_day (0, 0) 35 [.null] [.int s0] h (QI z) := 
  go_ok (X := none) (blk := wX11_day_35) (np := 36) (tt := 0) (kN := fun _ _ _ => none) (kT := fun _ _ _ => none) (kR := kRI)
    (fun _ _ _ q => nos q)
    (fun _ _ _ q => nos q)
    kRI_ok (Or.inr rfl) (by decide +kernel) (by decide +kernel) hf
theorem kqX11_day_32 : okC mX11_day 32 (.invokevirtual 164) 183 198 0 1 = true := by decide +kernel
def fX11_day_32 (s0 : Int32) (s1 : Nat) (h : aH) : Option (Int32 × aH) :=
  (isO h 11 s1).bind fun _ =>
  (gX11_no s1 s0 h).bind fun r =>
  fX11_day_35 r.1 r.2
theorem tX11_day_32 {d : Nat} {z : Int32 × aH} (s0 : Int32) (s1 : Nat) (h : aH) (hf : fX11_day_32 s0 s1 h = some z) : Ev (d + 4) none mX11_day (0, 0) 32 [.null] [.int s0, .ref s1] h (QI z) := by
  obtain ⟨_, h1, hf⟩ := bnd hf
  obtain ⟨fs, ho⟩ := isO_ok h1
  obtain ⟨r, h2, hf⟩ := bnd hf
  refine ev_V kqX11_day_32 jX11_no (zX11_no (d := d + 3) h2) ho rfl rfl (Nat.le_of_ble_eq_true rfl) rfl (as := [.int s0]) (rest := []) rfl (Nat.le_of_ble_eq_true rfl) (fun _ _ hq => ?_)
  obtain ⟨rfl, rfl⟩ := hq
  exact jm [0] (fX11_day_35 r.1 r.2) (fun q => tX11_day_35 r.1 r.2 q) hf
def wX11_day_30 : List En := [(.aload_n 0, 0, 0, 0), (.iconst 3, 0, 0, 0)]
def fX11_day_30 (v0 : Nat) (h : aH) : Option (Int32 × aH) :=
  fX11_day_32 (kI 3) v0 h
theorem tX11_day_30 {d : Nat} {z : Int32 × aH} (v0 : Nat) (h : aH) (hf : fX11_day_30 v0 h = some z) : Ev (d + 4) none mX11_day (0, 0) 30 [.ref v0] [] h (QI z) := 
  go_ok (X := none) (blk := wX11_day_30) (np := 32) (tt := 0) (kN := fun xs h st => app [0] (apS [1, 2] (fun s0 s1 => fX11_day_32 s0 s1 h) st) xs) (kT := fun _ _ _ => none) (kR := kRI)
    (fun xs h st q => jm [0] _ (fun q => apS_ok [1, 2] _ (fun st => Ev (d + 4) none mX11_day (0, 0) 32 [.null] st h (QI z)) st (fun s0 s1 q => tX11_day_32 s0 s1 h q) q) q)
    (fun _ _ _ q => nos q)
    kRI_ok (Or.inr rfl) (by decide +kernel) (by decide +kernel) hf
def wX11_day_17 : List En := [(.aload_n 0, 0, 0, 0), (.getfield 32, 194, 11, 19), (.bipush 13, 0, 0, 0), (.iaload, 0, 0, 0), (.sipush 999, 0, 0, 0), (.if_icmp .ne 9, 36, 0, 0)]
def fX11_day_17 (v0 : Nat) (h : aH) : Option (Int32 × aH) :=
  (gFR h 11 v0 19).bind fun t1 =>
  (aRI (h[t1]?) (kB 13)).bind fun t2 =>
  if t2 = (kS 999) then fX11_day_30 v0 h else fX11_day_36 v0 h
theorem tX11_day_17 {d : Nat} {z : Int32 × aH} (v0 : Nat) (h : aH) (hf : fX11_day_17 v0 h = some z) : Ev (d + 4) none mX11_day (0, 0) 17 [.ref v0] [] h (QI z) := 
  go_ok (X := none) (blk := wX11_day_17) (np := 30) (tt := 36) (kN := fun xs h st => app [2] (fun v0 => apS [] (fX11_day_30 v0 h) st) xs) (kT := fun xs h st => app [2] (fun v0 => apS [] (fX11_day_36 v0 h) st) xs) (kR := kRI)
    (fun xs h st q => jm [2] _ (fun v0 q => apS_ok [] _ (fun st => Ev (d + 4) none mX11_day (0, 0) 30 [.ref v0] st h (QI z)) st (fun q => tX11_day_30 v0 h q) q) q)
    (fun xs h st q => jm [2] _ (fun v0 q => apS_ok [] _ (fun st => Ev (d + 4) none mX11_day (0, 0) 36 [.ref v0] st h (QI z)) st (fun q => tX11_day_36 v0 h q) q) q)
    kRI_ok (Or.inr rfl) (by decide +kernel) (by decide +kernel) hf
def wX11_day_16 : List En := [(.ireturn, 0, 0, 0)]
def fX11_day_16 (s0 : Int32) (h : aH) : Option (Int32 × aH) :=
  some (s0, h)
theorem tX11_day_16 {d : Nat} {z : Int32 × aH} (s0 : Int32) (h : aH) (hf : fX11_day_16 s0 h = some z) : Ev (d + 4) none mX11_day (0, 0) 16 [.null] [.int s0] h (QI z) := 
  go_ok (X := none) (blk := wX11_day_16) (np := 17) (tt := 0) (kN := fun _ _ _ => none) (kT := fun _ _ _ => none) (kR := kRI)
    (fun _ _ _ q => nos q)
    (fun _ _ _ q => nos q)
    kRI_ok (Or.inr rfl) (by decide +kernel) (by decide +kernel) hf
theorem kqX11_day_13 : okC mX11_day 13 (.invokevirtual 164) 183 198 0 1 = true := by decide +kernel
def fX11_day_13 (s0 : Int32) (s1 : Nat) (h : aH) : Option (Int32 × aH) :=
  (isO h 11 s1).bind fun _ =>
  (gX11_no s1 s0 h).bind fun r =>
  fX11_day_16 r.1 r.2
theorem tX11_day_13 {d : Nat} {z : Int32 × aH} (s0 : Int32) (s1 : Nat) (h : aH) (hf : fX11_day_13 s0 s1 h = some z) : Ev (d + 4) none mX11_day (0, 0) 13 [.null] [.int s0, .ref s1] h (QI z) := by
  obtain ⟨_, h1, hf⟩ := bnd hf
  obtain ⟨fs, ho⟩ := isO_ok h1
  obtain ⟨r, h2, hf⟩ := bnd hf
  refine ev_V kqX11_day_13 jX11_no (zX11_no (d := d + 3) h2) ho rfl rfl (Nat.le_of_ble_eq_true rfl) rfl (as := [.int s0]) (rest := []) rfl (Nat.le_of_ble_eq_true rfl) (fun _ _ hq => ?_)
  obtain ⟨rfl, rfl⟩ := hq
  exact jm [0] (fX11_day_16 r.1 r.2) (fun q => tX11_day_16 r.1 r.2 q) hf
def wX11_day_11 : List En := [(.aload_n 0, 0, 0, 0), (.iconst 1, 0, 0, 0)]
def fX11_day_11 (v0 : Nat) (h : aH) : Option (Int32 × aH) :=
  fX11_day_13 (kI 1) v0 h
theorem tX11_day_11 {d : Nat} {z : Int32 × aH} (v0 : Nat) (h : aH) (hf : fX11_day_11 v0 h = some z) : Ev (d + 4) none mX11_day (0, 0) 11 [.ref v0] [] h (QI z) := 
  go_ok (X := none) (blk := wX11_day_11) (np := 13) (tt := 0) (kN := fun xs h st => app [0] (apS [1, 2] (fun s0 s1 => fX11_day_13 s0 s1 h) st) xs) (kT := fun _ _ _ => none) (kR := kRI)
    (fun xs h st q => jm [0] _ (fun q => apS_ok [1, 2] _ (fun st => Ev (d + 4) none mX11_day (0, 0) 13 [.null] st h (QI z)) st (fun s0 s1 q => tX11_day_13 s0 s1 h q) q) q)
    (fun _ _ _ q => nos q)
    kRI_ok (Or.inr rfl) (by decide +kernel) (by decide +kernel) hf
def wX11_day_4 : List En := [(.aload_n 0, 0, 0, 0), (.getfield 174, 189, 11, 14), (.ifCond .ne 9, 17, 0, 0)]
def fX11_day_4 (v0 : Nat) (h : aH) : Option (Int32 × aH) :=
  (gFI h 11 v0 14).bind fun t1 =>
  if t1 = 0 then fX11_day_11 v0 h else fX11_day_17 v0 h
theorem tX11_day_4 {d : Nat} {z : Int32 × aH} (v0 : Nat) (h : aH) (hf : fX11_day_4 v0 h = some z) : Ev (d + 4) none mX11_day (0, 0) 4 [.ref v0] [] h (QI z) := 
  go_ok (X := none) (blk := wX11_day_4) (np := 11) (tt := 17) (kN := fun xs h st => app [2] (fun v0 => apS [] (fX11_day_11 v0 h) st) xs) (kT := fun xs h st => app [2] (fun v0 => apS [] (fX11_day_17 v0 h) st) xs) (kR := kRI)
    (fun xs h st q => jm [2] _ (fun v0 q => apS_ok [] _ (fun st => Ev (d + 4) none mX11_day (0, 0) 11 [.ref v0] st h (QI z)) st (fun q => tX11_day_11 v0 h q) q) q)
    (fun xs h st q => jm [2] _ (fun v0 q => apS_ok [] _ (fun st => Ev (d + 4) none mX11_day (0, 0) 17 [.ref v0] st h (QI z)) st (fun q => tX11_day_17 v0 h q) q) q)
    kRI_ok (Or.inr rfl) (by decide +kernel) (by decide +kernel) hf
theorem kqX11_day_1 : okC mX11_day 1 (.invokevirtual 161) 181 196 0 0 = true := by decide +kernel
def fX11_day_1 (v0 : Nat) (s0 : Nat) (h : aH) : Option (Int32 × aH) :=
  (isO h 11 s0).bind fun _ =>
  (gX11_anew s0 h).bind fun r =>
  fX11_day_4 v0 r
theorem tX11_day_1 {d : Nat} {z : Int32 × aH} (v0 : Nat) (s0 : Nat) (h : aH) (hf : fX11_day_1 v0 s0 h = some z) : Ev (d + 4) none mX11_day (0, 0) 1 [.ref v0] [.ref s0] h (QI z) := by
  obtain ⟨_, h1, hf⟩ := bnd hf
  obtain ⟨fs, ho⟩ := isO_ok h1
  obtain ⟨r, h2, hf⟩ := bnd hf
  refine ev_V kqX11_day_1 jX11_anew (zX11_anew (d := d + 3) h2) ho rfl rfl (Nat.le_of_ble_eq_true rfl) rfl (as := []) (rest := []) rfl (Nat.le_of_ble_eq_true rfl) (fun _ _ hq => ?_)
  obtain ⟨rfl, hh⟩ := hq
  rw [hh]
  exact jm [2] (fun v0 => fX11_day_4 v0 r) (fun v0 q => tX11_day_4 v0 r q) hf
def wX11_day_0 : List En := [(.aload_n 0, 0, 0, 0)]
def fX11_day_0 (v0 : Nat) (h : aH) : Option (Int32 × aH) :=
  fX11_day_1 v0 v0 h
theorem tX11_day_0 {d : Nat} {z : Int32 × aH} (v0 : Nat) (h : aH) (hf : fX11_day_0 v0 h = some z) : Ev (d + 4) none mX11_day (0, 0) 0 [.ref v0] [] h (QI z) := 
  go_ok (X := none) (blk := wX11_day_0) (np := 1) (tt := 0) (kN := fun xs h st => app [2] (fun v0 => apS [2] (fun s0 => fX11_day_1 v0 s0 h) st) xs) (kT := fun _ _ _ => none) (kR := kRI)
    (fun xs h st q => jm [2] _ (fun v0 q => apS_ok [2] _ (fun st => Ev (d + 4) none mX11_day (0, 0) 1 [.ref v0] st h (QI z)) st (fun s0 q => tX11_day_1 v0 s0 h q) q) q)
    (fun _ _ _ q => nos q)
    kRI_ok (Or.inr rfl) (by decide +kernel) (by decide +kernel) hf
def gX11_day (v0 : Nat) (h : aH) : Option (Int32 × aH) := fX11_day_0 v0 h
theorem zX11_day {d : Nat} {z : Int32 × aH} {v0 : Nat} {h : aH} (q : gX11_day v0 h = some z) : CT (d + 4) mX11_day (0, 0) [.ref v0] h (QI z) :=
  ct_ev (by decide +kernel) (Nat.le_of_ble_eq_true rfl) QI_r (jm [2] (fun v0 => fX11_day_0 v0 h) (fun v0 q => tX11_day_0 v0 h q) q)
def wX11_bid_40 : List En := [(.aload_n 0, 0, 0, 0), (.getfield 32, 194, 11, 19), (.bipush 11, 0, 0, 0), (.dup2, 0, 0, 0), (.iaload, 0, 0, 0), (.iconst 1, 0, 0, 0), (.iload_n 1, 0, 0, 0), (.ishl, 0, 0, 0), (.ixor, 0, 0, 0), (.iastore, 0, 0, 0), (.aload_n 0, 0, 0, 0), (.getfield 32, 194, 11, 19), (.bipush 11, 0, 0, 0), (.iaload, 0, 0, 0), (.iload_n 1, 0, 0, 0), (.ishr, 0, 0, 0), (.iconst 1, 0, 0, 0), (.iand, 0, 0, 0), (.ireturn, 0, 0, 0)]
def fX11_bid_40 (v0 : Nat) (v1 : Int32) (h : aH) : Option (Int32 × aH) :=
  (gFR h 11 v0 19).bind fun t1 =>
  (aRI (h[t1]?) (kB 11)).bind fun t2 =>
  (aWI h t1 (kB 11) (t2 ^^^ ((kI 1) <<< (v1 &&& 31)))).bind fun h3 =>
  (gFR h3 11 v0 19).bind fun t4 =>
  (aRI (h3[t4]?) (kB 11)).bind fun t5 =>
  some (((t5 >>> (v1 &&& 31)) &&& (kI 1)), h3)
theorem tX11_bid_40 {d : Nat} {z : Int32 × aH} (v0 : Nat) (v1 : Int32) (h : aH) (hf : fX11_bid_40 v0 v1 h = some z) : Ev (d + 2) none mX11_bid (0, 0) 40 [.ref v0, .int v1] [] h (QI z) := 
  go_ok (X := none) (blk := wX11_bid_40) (np := 65) (tt := 0) (kN := fun _ _ _ => none) (kT := fun _ _ _ => none) (kR := kRI)
    (fun _ _ _ q => nos q)
    (fun _ _ _ q => nos q)
    kRI_ok (Or.inr rfl) (by decide +kernel) (by decide +kernel) hf
theorem kqX11_bid_37 : okC mX11_bid 37 (.invokevirtual 407) 291 308 0 0 = true := by decide +kernel
def fX11_bid_37 (v0 : Nat) (v1 : Int32) (s0 : Nat) (h : aH) : Option (Int32 × aH) :=
  (isO h 11 s0).bind fun _ =>
  (gX11_note s0 h).bind fun r =>
  fX11_bid_40 v0 v1 r
theorem tX11_bid_37 {d : Nat} {z : Int32 × aH} (v0 : Nat) (v1 : Int32) (s0 : Nat) (h : aH) (hf : fX11_bid_37 v0 v1 s0 h = some z) : Ev (d + 2) none mX11_bid (0, 0) 37 [.ref v0, .int v1] [.ref s0] h (QI z) := by
  obtain ⟨_, h1, hf⟩ := bnd hf
  obtain ⟨fs, ho⟩ := isO_ok h1
  obtain ⟨r, h2, hf⟩ := bnd hf
  refine ev_V kqX11_bid_37 jX11_note (zX11_note (d := d + 0) h2) ho rfl rfl (Nat.le_of_ble_eq_true rfl) rfl (as := []) (rest := []) rfl (Nat.le_of_ble_eq_true rfl) (fun _ _ hq => ?_)
  obtain ⟨rfl, hh⟩ := hq
  rw [hh]
  exact jm [2, 1] (fun v0 v1 => fX11_bid_40 v0 v1 r) (fun v0 v1 q => tX11_bid_40 v0 v1 r q) hf
def wX11_bid_36 : List En := [(.aload_n 0, 0, 0, 0)]
def fX11_bid_36 (v0 : Nat) (v1 : Int32) (h : aH) : Option (Int32 × aH) :=
  fX11_bid_37 v0 v1 v0 h
theorem tX11_bid_36 {d : Nat} {z : Int32 × aH} (v0 : Nat) (v1 : Int32) (h : aH) (hf : fX11_bid_36 v0 v1 h = some z) : Ev (d + 2) none mX11_bid (0, 0) 36 [.ref v0, .int v1] [] h (QI z) := 
  go_ok (X := none) (blk := wX11_bid_36) (np := 37) (tt := 0) (kN := fun xs h st => app [2, 1] (fun v0 v1 => apS [2] (fun s0 => fX11_bid_37 v0 v1 s0 h) st) xs) (kT := fun _ _ _ => none) (kR := kRI)
    (fun xs h st q => jm [2, 1] _ (fun v0 v1 q => apS_ok [2] _ (fun st => Ev (d + 2) none mX11_bid (0, 0) 37 [.ref v0, .int v1] st h (QI z)) st (fun s0 q => tX11_bid_37 v0 v1 s0 h q) q) q)
    (fun _ _ _ q => nos q)
    kRI_ok (Or.inr rfl) (by decide +kernel) (by decide +kernel) hf
def wX11_bid_35 : List En := [(.ireturn, 0, 0, 0)]
def fX11_bid_35 (s0 : Int32) (h : aH) : Option (Int32 × aH) :=
  some (s0, h)
theorem tX11_bid_35 {d : Nat} {z : Int32 × aH} (s0 : Int32) (h : aH) (hf : fX11_bid_35 s0 h = some z) : Ev (d + 2) none mX11_bid (0, 0) 35 [.null, .null] [.int s0] h (QI z) := 
  go_ok (X := none) (blk := wX11_bid_35) (np := 36) (tt := 0) (kN := fun _ _ _ => none) (kT := fun _ _ _ => none) (kR := kRI)
    (fun _ _ _ q => nos q)
    (fun _ _ _ q => nos q)
    kRI_ok (Or.inr rfl) (by decide +kernel) (by decide +kernel) hf
theorem kqX11_bid_32 : okC mX11_bid 32 (.invokevirtual 164) 183 198 0 1 = true := by decide +kernel
def fX11_bid_32 (s0 : Int32) (s1 : Nat) (h : aH) : Option (Int32 × aH) :=
  (isO h 11 s1).bind fun _ =>
  (gX11_no s1 s0 h).bind fun r =>
  fX11_bid_35 r.1 r.2
theorem tX11_bid_32 {d : Nat} {z : Int32 × aH} (s0 : Int32) (s1 : Nat) (h : aH) (hf : fX11_bid_32 s0 s1 h = some z) : Ev (d + 2) none mX11_bid (0, 0) 32 [.null, .null] [.int s0, .ref s1] h (QI z) := by
  obtain ⟨_, h1, hf⟩ := bnd hf
  obtain ⟨fs, ho⟩ := isO_ok h1
  obtain ⟨r, h2, hf⟩ := bnd hf
  refine ev_V kqX11_bid_32 jX11_no (zX11_no (d := d + 1) h2) ho rfl rfl (Nat.le_of_ble_eq_true rfl) rfl (as := [.int s0]) (rest := []) rfl (Nat.le_of_ble_eq_true rfl) (fun _ _ hq => ?_)
  obtain ⟨rfl, rfl⟩ := hq
  exact jm [0, 0] (fX11_bid_35 r.1 r.2) (fun q => tX11_bid_35 r.1 r.2 q) hf
def wX11_bid_30 : List En := [(.aload_n 0, 0, 0, 0), (.iconst 5, 0, 0, 0)]
def fX11_bid_30 (v0 : Nat) (h : aH) : Option (Int32 × aH) :=
  fX11_bid_32 (kI 5) v0 h
theorem tX11_bid_30 {d : Nat} {z : Int32 × aH} (v0 : Nat) (h : aH) (hf : fX11_bid_30 v0 h = some z) : Ev (d + 2) none mX11_bid (0, 0) 30 [.ref v0, .null] [] h (QI z) := 
  go_ok (X := none) (blk := wX11_bid_30) (np := 32) (tt := 0) (kN := fun xs h st => app [0, 0] (apS [1, 2] (fun s0 s1 => fX11_bid_32 s0 s1 h) st) xs) (kT := fun _ _ _ => none) (kR := kRI)
    (fun xs h st q => jm [0, 0] _ (fun q => apS_ok [1, 2] _ (fun st => Ev (d + 2) none mX11_bid (0, 0) 32 [.null, .null] st h (QI z)) st (fun s0 s1 q => tX11_bid_32 s0 s1 h q) q) q)
    (fun _ _ _ q => nos q)
    kRI_ok (Or.inr rfl) (by decide +kernel) (by decide +kernel) hf
def wX11_bid_27 : List En := [(.ifCond .ne 9, 36, 0, 0)]
def fX11_bid_27 (v0 : Nat) (v1 : Int32) (s0 : Int32) (h : aH) : Option (Int32 × aH) :=
  if s0 = 0 then fX11_bid_30 v0 h else fX11_bid_36 v0 v1 h
theorem tX11_bid_27 {d : Nat} {z : Int32 × aH} (v0 : Nat) (v1 : Int32) (s0 : Int32) (h : aH) (hf : fX11_bid_27 v0 v1 s0 h = some z) : Ev (d + 2) none mX11_bid (0, 0) 27 [.ref v0, .int v1] [.int s0] h (QI z) := 
  go_ok (X := none) (blk := wX11_bid_27) (np := 30) (tt := 36) (kN := fun xs h st => app [2, 0] (fun v0 => apS [] (fX11_bid_30 v0 h) st) xs) (kT := fun xs h st => app [2, 1] (fun v0 v1 => apS [] (fX11_bid_36 v0 v1 h) st) xs) (kR := kRI)
    (fun xs h st q => jm [2, 0] _ (fun v0 q => apS_ok [] _ (fun st => Ev (d + 2) none mX11_bid (0, 0) 30 [.ref v0, .null] st h (QI z)) st (fun q => tX11_bid_30 v0 h q) q) q)
    (fun xs h st q => jm [2, 1] _ (fun v0 v1 q => apS_ok [] _ (fun st => Ev (d + 2) none mX11_bid (0, 0) 36 [.ref v0, .int v1] st h (QI z)) st (fun q => tX11_bid_36 v0 v1 h q) q) q)
    kRI_ok (Or.inr rfl) (by decide +kernel) (by decide +kernel) hf
theorem kqX11_bid_24 : okC mX11_bid 24 (.invokevirtual 249) 221 238 0 2 = true := by decide +kernel
def fX11_bid_24 (v0 : Nat) (v1 : Int32) (s0 : Int32) (s1 : Nat) (s2 : Nat) (h : aH) : Option (Int32 × aH) :=
  (isO h 11 s2).bind fun _ =>
  (gX11_lives s2 s1 s0 h).bind fun r =>
  fX11_bid_27 v0 v1 r.1 r.2
theorem tX11_bid_24 {d : Nat} {z : Int32 × aH} (v0 : Nat) (v1 : Int32) (s0 : Int32) (s1 : Nat) (s2 : Nat) (h : aH) (hf : fX11_bid_24 v0 v1 s0 s1 s2 h = some z) : Ev (d + 2) none mX11_bid (0, 0) 24 [.ref v0, .int v1] [.int s0, .ref s1, .ref s2] h (QI z) := by
  obtain ⟨_, h1, hf⟩ := bnd hf
  obtain ⟨fs, ho⟩ := isO_ok h1
  obtain ⟨r, h2, hf⟩ := bnd hf
  refine ev_V kqX11_bid_24 jX11_lives (zX11_lives (d := d + 0) h2) ho rfl rfl (Nat.le_of_ble_eq_true rfl) rfl (as := [.ref s1, .int s0]) (rest := []) rfl (Nat.le_of_ble_eq_true rfl) (fun _ _ hq => ?_)
  obtain ⟨-, rfl, rfl⟩ := hq
  exact jm [2, 1] (fun v0 v1 => fX11_bid_27 v0 v1 r.1 r.2) (fun v0 v1 q => tX11_bid_27 v0 v1 r.1 r.2 q) hf
def wX11_bid_18 : List En := [(.aload_n 0, 0, 0, 0), (.aload_n 0, 0, 0, 0), (.getfield 32, 194, 11, 19), (.iload_n 1, 0, 0, 0)]
def fX11_bid_18 (v0 : Nat) (v1 : Int32) (h : aH) : Option (Int32 × aH) :=
  (gFR h 11 v0 19).bind fun t1 =>
  fX11_bid_24 v0 v1 v1 t1 v0 h
theorem tX11_bid_18 {d : Nat} {z : Int32 × aH} (v0 : Nat) (v1 : Int32) (h : aH) (hf : fX11_bid_18 v0 v1 h = some z) : Ev (d + 2) none mX11_bid (0, 0) 18 [.ref v0, .int v1] [] h (QI z) := 
  go_ok (X := none) (blk := wX11_bid_18) (np := 24) (tt := 0) (kN := fun xs h st => app [2, 1] (fun v0 v1 => apS [1, 2, 2] (fun s0 s1 s2 => fX11_bid_24 v0 v1 s0 s1 s2 h) st) xs) (kT := fun _ _ _ => none) (kR := kRI)
    (fun xs h st q => jm [2, 1] _ (fun v0 v1 q => apS_ok [1, 2, 2] _ (fun st => Ev (d + 2) none mX11_bid (0, 0) 24 [.ref v0, .int v1] st h (QI z)) st (fun s0 s1 s2 q => tX11_bid_24 v0 v1 s0 s1 s2 h q) q) q)
    (fun _ _ _ q => nos q)
    kRI_ok (Or.inr rfl) (by decide +kernel) (by decide +kernel) hf
def wX11_bid_17 : List En := [(.ireturn, 0, 0, 0)]
def fX11_bid_17 (s0 : Int32) (h : aH) : Option (Int32 × aH) :=
  some (s0, h)
theorem tX11_bid_17 {d : Nat} {z : Int32 × aH} (s0 : Int32) (h : aH) (hf : fX11_bid_17 s0 h = some z) : Ev (d + 2) none mX11_bid (0, 0) 17 [.null, .null] [.int s0] h (QI z) := 
  go_ok (X := none) (blk := wX11_bid_17) (np := 18) (tt := 0) (kN := fun _ _ _ => none) (kT := fun _ _ _ => none) (kR := kRI)
    (fun _ _ _ q => nos q)
    (fun _ _ _ q => nos q)
    kRI_ok (Or.inr rfl) (by decide +kernel) (by decide +kernel) hf
theorem kqX11_bid_14 : okC mX11_bid 14 (.invokevirtual 164) 183 198 0 1 = true := by decide +kernel
def fX11_bid_14 (s0 : Int32) (s1 : Nat) (h : aH) : Option (Int32 × aH) :=
  (isO h 11 s1).bind fun _ =>
  (gX11_no s1 s0 h).bind fun r =>
  fX11_bid_17 r.1 r.2
theorem tX11_bid_14 {d : Nat} {z : Int32 × aH} (s0 : Int32) (s1 : Nat) (h : aH) (hf : fX11_bid_14 s0 s1 h = some z) : Ev (d + 2) none mX11_bid (0, 0) 14 [.null, .null] [.int s0, .ref s1] h (QI z) := by
  obtain ⟨_, h1, hf⟩ := bnd hf
  obtain ⟨fs, ho⟩ := isO_ok h1
  obtain ⟨r, h2, hf⟩ := bnd hf
  refine ev_V kqX11_bid_14 jX11_no (zX11_no (d := d + 1) h2) ho rfl rfl (Nat.le_of_ble_eq_true rfl) rfl (as := [.int s0]) (rest := []) rfl (Nat.le_of_ble_eq_true rfl) (fun _ _ hq => ?_)
  obtain ⟨rfl, rfl⟩ := hq
  exact jm [0, 0] (fX11_bid_17 r.1 r.2) (fun q => tX11_bid_17 r.1 r.2 q) hf
def wX11_bid_12 : List En := [(.aload_n 0, 0, 0, 0), (.iconst 1, 0, 0, 0)]
def fX11_bid_12 (v0 : Nat) (h : aH) : Option (Int32 × aH) :=
  fX11_bid_14 (kI 1) v0 h
theorem tX11_bid_12 {d : Nat} {z : Int32 × aH} (v0 : Nat) (h : aH) (hf : fX11_bid_12 v0 h = some z) : Ev (d + 2) none mX11_bid (0, 0) 12 [.ref v0, .null] [] h (QI z) := 
  go_ok (X := none) (blk := wX11_bid_12) (np := 14) (tt := 0) (kN := fun xs h st => app [0, 0] (apS [1, 2] (fun s0 s1 => fX11_bid_14 s0 s1 h) st) xs) (kT := fun _ _ _ => none) (kR := kRI)
    (fun xs h st q => jm [0, 0] _ (fun q => apS_ok [1, 2] _ (fun st => Ev (d + 2) none mX11_bid (0, 0) 14 [.null, .null] st h (QI z)) st (fun s0 s1 q => tX11_bid_14 s0 s1 h q) q) q)
    (fun _ _ _ q => nos q)
    kRI_ok (Or.inr rfl) (by decide +kernel) (by decide +kernel) hf
def wX11_bid_9 : List En := [(.ifCond .ne 9, 18, 0, 0)]
def fX11_bid_9 (v0 : Nat) (v1 : Int32) (s0 : Int32) (h : aH) : Option (Int32 × aH) :=
  if s0 = 0 then fX11_bid_12 v0 h else fX11_bid_18 v0 v1 h
theorem tX11_bid_9 {d : Nat} {z : Int32 × aH} (v0 : Nat) (v1 : Int32) (s0 : Int32) (h : aH) (hf : fX11_bid_9 v0 v1 s0 h = some z) : Ev (d + 2) none mX11_bid (0, 0) 9 [.ref v0, .int v1] [.int s0] h (QI z) := 
  go_ok (X := none) (blk := wX11_bid_9) (np := 12) (tt := 18) (kN := fun xs h st => app [2, 0] (fun v0 => apS [] (fX11_bid_12 v0 h) st) xs) (kT := fun xs h st => app [2, 1] (fun v0 v1 => apS [] (fX11_bid_18 v0 v1 h) st) xs) (kR := kRI)
    (fun xs h st q => jm [2, 0] _ (fun v0 q => apS_ok [] _ (fun st => Ev (d + 2) none mX11_bid (0, 0) 12 [.ref v0, .null] st h (QI z)) st (fun q => tX11_bid_12 v0 h q) q) q)
    (fun xs h st q => jm [2, 1] _ (fun v0 v1 q => apS_ok [] _ (fun st => Ev (d + 2) none mX11_bid (0, 0) 18 [.ref v0, .int v1] st h (QI z)) st (fun q => tX11_bid_18 v0 v1 h q) q) q)
    kRI_ok (Or.inr rfl) (by decide +kernel) (by decide +kernel) hf
theorem kqX11_bid_6 : okC mX11_bid 6 (.invokevirtual 285) 214 231 0 1 = true := by decide +kernel
def fX11_bid_6 (v0 : Nat) (v1 : Int32) (s0 : Int32) (s1 : Nat) (h : aH) : Option (Int32 × aH) :=
  (isO h 11 s1).bind fun _ =>
  (gX11_isPerson s1 s0 h).bind fun r =>
  fX11_bid_9 v0 v1 r.1 r.2
theorem tX11_bid_6 {d : Nat} {z : Int32 × aH} (v0 : Nat) (v1 : Int32) (s0 : Int32) (s1 : Nat) (h : aH) (hf : fX11_bid_6 v0 v1 s0 s1 h = some z) : Ev (d + 2) none mX11_bid (0, 0) 6 [.ref v0, .int v1] [.int s0, .ref s1] h (QI z) := by
  obtain ⟨_, h1, hf⟩ := bnd hf
  obtain ⟨fs, ho⟩ := isO_ok h1
  obtain ⟨r, h2, hf⟩ := bnd hf
  refine ev_V kqX11_bid_6 jX11_isPerson (zX11_isPerson (d := d + 0) h2) ho rfl rfl (Nat.le_of_ble_eq_true rfl) rfl (as := [.int s0]) (rest := []) rfl (Nat.le_of_ble_eq_true rfl) (fun _ _ hq => ?_)
  obtain ⟨-, rfl, rfl⟩ := hq
  exact jm [2, 1] (fun v0 v1 => fX11_bid_9 v0 v1 r.1 r.2) (fun v0 v1 q => tX11_bid_9 v0 v1 r.1 r.2 q) hf
def wX11_bid_4 : List En := [(.aload_n 0, 0, 0, 0), (.iload_n 1, 0, 0, 0)]
def fX11_bid_4 (v0 : Nat) (v1 : Int32) (h : aH) : Option (Int32 × aH) :=
  fX11_bid_6 v0 v1 v1 v0 h
theorem tX11_bid_4 {d : Nat} {z : Int32 × aH} (v0 : Nat) (v1 : Int32) (h : aH) (hf : fX11_bid_4 v0 v1 h = some z) : Ev (d + 2) none mX11_bid (0, 0) 4 [.ref v0, .int v1] [] h (QI z) := 
  go_ok (X := none) (blk := wX11_bid_4) (np := 6) (tt := 0) (kN := fun xs h st => app [2, 1] (fun v0 v1 => apS [1, 2] (fun s0 s1 => fX11_bid_6 v0 v1 s0 s1 h) st) xs) (kT := fun _ _ _ => none) (kR := kRI)
    (fun xs h st q => jm [2, 1] _ (fun v0 v1 q => apS_ok [1, 2] _ (fun st => Ev (d + 2) none mX11_bid (0, 0) 6 [.ref v0, .int v1] st h (QI z)) st (fun s0 s1 q => tX11_bid_6 v0 v1 s0 s1 h q) q) q)
    (fun _ _ _ q => nos q)
    kRI_ok (Or.inr rfl) (by decide +kernel) (by decide +kernel) hf
theorem kqX11_bid_1 : okC mX11_bid 1 (.invokevirtual 161) 181 196 0 0 = true := by decide +kernel
def fX11_bid_1 (v0 : Nat) (v1 : Int32) (s0 : Nat) (h : aH) : Option (Int32 × aH) :=
  (isO h 11 s0).bind fun _ =>
  (gX11_anew s0 h).bind fun r =>
  fX11_bid_4 v0 v1 r
theorem tX11_bid_1 {d : Nat} {z : Int32 × aH} (v0 : Nat) (v1 : Int32) (s0 : Nat) (h : aH) (hf : fX11_bid_1 v0 v1 s0 h = some z) : Ev (d + 2) none mX11_bid (0, 0) 1 [.ref v0, .int v1] [.ref s0] h (QI z) := by
  obtain ⟨_, h1, hf⟩ := bnd hf
  obtain ⟨fs, ho⟩ := isO_ok h1
  obtain ⟨r, h2, hf⟩ := bnd hf
  refine ev_V kqX11_bid_1 jX11_anew (zX11_anew (d := d + 1) h2) ho rfl rfl (Nat.le_of_ble_eq_true rfl) rfl (as := []) (rest := []) rfl (Nat.le_of_ble_eq_true rfl) (fun _ _ hq => ?_)
  obtain ⟨rfl, hh⟩ := hq
  rw [hh]
  exact jm [2, 1] (fun v0 v1 => fX11_bid_4 v0 v1 r) (fun v0 v1 q => tX11_bid_4 v0 v1 r q) hf
def wX11_bid_0 : List En := [(.aload_n 0, 0, 0, 0)]
def fX11_bid_0 (v0 : Nat) (v1 : Int32) (h : aH) : Option (Int32 × aH) :=
  fX11_bid_1 v0 v1 v0 h
theorem tX11_bid_0 {d : Nat} {z : Int32 × aH} (v0 : Nat) (v1 : Int32) (h : aH) (hf : fX11_bid_0 v0 v1 h = some z) : Ev (d + 2) none mX11_bid (0, 0) 0 [.ref v0, .int v1] [] h (QI z) := 
  go_ok (X := none) (blk := wX11_bid_0) (np := 1) (tt := 0) (kN := fun xs h st => app [2, 1] (fun v0 v1 => apS [2] (fun s0 => fX11_bid_1 v0 v1 s0 h) st) xs) (kT := fun _ _ _ => none) (kR := kRI)
    (fun xs h st q => jm [2, 1] _ (fun v0 v1 q => apS_ok [2] _ (fun st => Ev (d + 2) none mX11_bid (0, 0) 1 [.ref v0, .int v1] st h (QI z)) st (fun s0 q => tX11_bid_1 v0 v1 s0 h q) q) q)
    (fun _ _ _ q => nos q)
    kRI_ok (Or.inr rfl) (by decide +kernel) (by decide +kernel) hf
def gX11_bid (v0 : Nat) (v1 : Int32) (h : aH) : Option (Int32 × aH) := fX11_bid_0 v0 v1 h
theorem zX11_bid {d : Nat} {z : Int32 × aH} {v0 : Nat} {v1 : Int32} {h : aH} (q : gX11_bid v0 v1 h = some z) : CT (d + 2) mX11_bid (0, 0) [.ref v0, .int v1] h (QI z) :=
  ct_ev (by decide +kernel) (Nat.le_of_ble_eq_true rfl) QI_r (jm [2, 1] (fun v0 v1 => fX11_bid_0 v0 v1 h) (fun v0 v1 q => tX11_bid_0 v0 v1 h q) q)
def wX11_give_89 : List En := [(.iastore, 0, 0, 0), (.aload_n 0, 0, 0, 0), (.getfield 32, 194, 11, 19), (.iload_n 1, 0, 0, 0), (.iaload, 0, 0, 0), (.ireturn, 0, 0, 0)]
def fX11_give_89 (v0 : Nat) (v1 : Int32) (s0 : Int32) (s1 : Int32) (s2 : Nat) (h : aH) : Option (Int32 × aH) :=
  (aWI h s2 s1 s0).bind fun h1 =>
  (gFR h1 11 v0 19).bind fun t2 =>
  (aRI (h1[t2]?) v1).bind fun t3 =>
  some (t3, h1)
theorem tX11_give_89 {d : Nat} {z : Int32 × aH} (v0 : Nat) (v1 : Int32) (s0 : Int32) (s1 : Int32) (s2 : Nat) (h : aH) (hf : fX11_give_89 v0 v1 s0 s1 s2 h = some z) : Ev (d + 2) none mX11_give (0, 0) 89 [.ref v0, .int v1, .null, .null] [.int s0, .int s1, .ref s2] h (QI z) := 
  go_ok (X := none) (blk := wX11_give_89) (np := 97) (tt := 0) (kN := fun _ _ _ => none) (kT := fun _ _ _ => none) (kR := kRI)
    (fun _ _ _ q => nos q)
    (fun _ _ _ q => nos q)
    kRI_ok (Or.inr rfl) (by decide +kernel) (by decide +kernel) hf
def wX11_give_88 : List En := [(.iconst 0, 0, 0, 0)]
def fX11_give_88 (v0 : Nat) (v1 : Int32) (s0 : Int32) (s1 : Nat) (h : aH) : Option (Int32 × aH) :=
  fX11_give_89 v0 v1 (kI 0) s0 s1 h
theorem tX11_give_88 {d : Nat} {z : Int32 × aH} (v0 : Nat) (v1 : Int32) (s0 : Int32) (s1 : Nat) (h : aH) (hf : fX11_give_88 v0 v1 s0 s1 h = some z) : Ev (d + 2) none mX11_give (0, 0) 88 [.ref v0, .int v1, .null, .null] [.int s0, .ref s1] h (QI z) := 
  go_ok (X := none) (blk := wX11_give_88) (np := 89) (tt := 0) (kN := fun xs h st => app [2, 1, 0, 0] (fun v0 v1 => apS [1, 1, 2] (fun s0 s1 s2 => fX11_give_89 v0 v1 s0 s1 s2 h) st) xs) (kT := fun _ _ _ => none) (kR := kRI)
    (fun xs h st q => jm [2, 1, 0, 0] _ (fun v0 v1 q => apS_ok [1, 1, 2] _ (fun st => Ev (d + 2) none mX11_give (0, 0) 89 [.ref v0, .int v1, .null, .null] st h (QI z)) st (fun s0 s1 s2 q => tX11_give_89 v0 v1 s0 s1 s2 h q) q) q)
    (fun _ _ _ q => nos q)
    kRI_ok (Or.inr rfl) (by decide +kernel) (by decide +kernel) hf
def wX11_give_77 : List En := [(.aload_n 0, 0, 0, 0), (.getfield 32, 194, 11, 19), (.iload_n 1, 0, 0, 0), (.iaload, 0, 0, 0), (.iload_n 2, 0, 0, 0), (.isub, 0, 0, 0), (.goto 4, 89, 0, 0)]
def fX11_give_77 (v0 : Nat) (v1 : Int32) (v2 : Int32) (s0 : Int32) (s1 : Nat) (h : aH) : Option (Int32 × aH) :=
  (gFR h 11 v0 19).bind fun t1 =>
  (aRI (h[t1]?) v1).bind fun t2 =>
  fX11_give_89 v0 v1 (t2 - v2) s0 s1 h
theorem tX11_give_77 {d : Nat} {z : Int32 × aH} (v0 : Nat) (v1 : Int32) (v2 : Int32) (s0 : Int32) (s1 : Nat) (h : aH) (hf : fX11_give_77 v0 v1 v2 s0 s1 h = some z) : Ev (d + 2) none mX11_give (0, 0) 77 [.ref v0, .int v1, .int v2, .null] [.int s0, .ref s1] h (QI z) := 
  go_ok (X := none) (blk := wX11_give_77) (np := 88) (tt := 89) (kN := fun _ _ _ => none) (kT := fun xs h st => app [2, 1, 0, 0] (fun v0 v1 => apS [1, 1, 2] (fun s0 s1 s2 => fX11_give_89 v0 v1 s0 s1 s2 h) st) xs) (kR := kRI)
    (fun _ _ _ q => nos q)
    (fun xs h st q => jm [2, 1, 0, 0] _ (fun v0 v1 q => apS_ok [1, 1, 2] _ (fun st => Ev (d + 2) none mX11_give (0, 0) 89 [.ref v0, .int v1, .null, .null] st h (QI z)) st (fun s0 s1 s2 q => tX11_give_89 v0 v1 s0 s1 s2 h q) q) q)
    kRI_ok (Or.inr rfl) (by decide +kernel) (by decide +kernel) hf
def wX11_give_62 : List En := [(.aload_n 0, 0, 0, 0), (.getfield 32, 194, 11, 19), (.iload_n 1, 0, 0, 0), (.aload_n 0, 0, 0, 0), (.getfield 32, 194, 11, 19), (.iload_n 1, 0, 0, 0), (.iaload, 0, 0, 0), (.iload_n 2, 0, 0, 0), (.if_icmp .le 14, 88, 0, 0)]
def fX11_give_62 (v0 : Nat) (v1 : Int32) (v2 : Int32) (h : aH) : Option (Int32 × aH) :=
  (gFR h 11 v0 19).bind fun t1 =>
  (gFR h 11 v0 19).bind fun t2 =>
  (aRI (h[t2]?) v1).bind fun t3 =>
  if v2 < t3 then fX11_give_77 v0 v1 v2 v1 t1 h else fX11_give_88 v0 v1 v1 t1 h
theorem tX11_give_62 {d : Nat} {z : Int32 × aH} (v0 : Nat) (v1 : Int32) (v2 : Int32) (h : aH) (hf : fX11_give_62 v0 v1 v2 h = some z) : Ev (d + 2) none mX11_give (0, 0) 62 [.ref v0, .int v1, .int v2, .null] [] h (QI z) := 
  go_ok (X := none) (blk := wX11_give_62) (np := 77) (tt := 88) (kN := fun xs h st => app [2, 1, 1, 0] (fun v0 v1 v2 => apS [1, 2] (fun s0 s1 => fX11_give_77 v0 v1 v2 s0 s1 h) st) xs) (kT := fun xs h st => app [2, 1, 0, 0] (fun v0 v1 => apS [1, 2] (fun s0 s1 => fX11_give_88 v0 v1 s0 s1 h) st) xs) (kR := kRI)
    (fun xs h st q => jm [2, 1, 1, 0] _ (fun v0 v1 v2 q => apS_ok [1, 2] _ (fun st => Ev (d + 2) none mX11_give (0, 0) 77 [.ref v0, .int v1, .int v2, .null] st h (QI z)) st (fun s0 s1 q => tX11_give_77 v0 v1 v2 s0 s1 h q) q) q)
    (fun xs h st q => jm [2, 1, 0, 0] _ (fun v0 v1 q => apS_ok [1, 2] _ (fun st => Ev (d + 2) none mX11_give (0, 0) 88 [.ref v0, .int v1, .null, .null] st h (QI z)) st (fun s0 s1 q => tX11_give_88 v0 v1 s0 s1 h q) q) q)
    kRI_ok (Or.inr rfl) (by decide +kernel) (by decide +kernel) hf
theorem kqX11_give_59 : okC mX11_give 59 (.invokevirtual 407) 291 308 0 0 = true := by decide +kernel
def fX11_give_59 (v0 : Nat) (v1 : Int32) (v2 : Int32) (s0 : Nat) (h : aH) : Option (Int32 × aH) :=
  (isO h 11 s0).bind fun _ =>
  (gX11_note s0 h).bind fun r =>
  fX11_give_62 v0 v1 v2 r
theorem tX11_give_59 {d : Nat} {z : Int32 × aH} (v0 : Nat) (v1 : Int32) (v2 : Int32) (s0 : Nat) (h : aH) (hf : fX11_give_59 v0 v1 v2 s0 h = some z) : Ev (d + 2) none mX11_give (0, 0) 59 [.ref v0, .int v1, .int v2, .null] [.ref s0] h (QI z) := by
  obtain ⟨_, h1, hf⟩ := bnd hf
  obtain ⟨fs, ho⟩ := isO_ok h1
  obtain ⟨r, h2, hf⟩ := bnd hf
  refine ev_V kqX11_give_59 jX11_note (zX11_note (d := d + 0) h2) ho rfl rfl (Nat.le_of_ble_eq_true rfl) rfl (as := []) (rest := []) rfl (Nat.le_of_ble_eq_true rfl) (fun _ _ hq => ?_)
  obtain ⟨rfl, hh⟩ := hq
  rw [hh]
  exact jm [2, 1, 1, 0] (fun v0 v1 v2 => fX11_give_62 v0 v1 v2 r) (fun v0 v1 v2 q => tX11_give_62 v0 v1 v2 r q) hf
def wX11_give_58 : List En := [(.aload_n 0, 0, 0, 0)]
def fX11_give_58 (v0 : Nat) (v1 : Int32) (v2 : Int32) (h : aH) : Option (Int32 × aH) :=
  fX11_give_59 v0 v1 v2 v0 h
theorem tX11_give_58 {d : Nat} {z : Int32 × aH} (v0 : Nat) (v1 : Int32) (v2 : Int32) (h : aH) (hf : fX11_give_58 v0 v1 v2 h = some z) : Ev (d + 2) none mX11_give (0, 0) 58 [.ref v0, .int v1, .int v2, .null] [] h (QI z) := 
  go_ok (X := none) (blk := wX11_give_58) (np := 59) (tt := 0) (kN := fun xs h st => app [2, 1, 1, 0] (fun v0 v1 v2 => apS [2] (fun s0 => fX11_give_59 v0 v1 v2 s0 h) st) xs) (kT := fun _ _ _ => none) (kR := kRI)
    (fun xs h st q => jm [2, 1, 1, 0] _ (fun v0 v1 v2 q => apS_ok [2] _ (fun st => Ev (d + 2) none mX11_give (0, 0) 59 [.ref v0, .int v1, .int v2, .null] st h (QI z)) st (fun s0 q => tX11_give_59 v0 v1 v2 s0 h q) q) q)
    (fun _ _ _ q => nos q)
    kRI_ok (Or.inr rfl) (by decide +kernel) (by decide +kernel) hf
def wX11_give_57 : List En := [(.ireturn, 0, 0, 0)]
def fX11_give_57 (s0 : Int32) (h : aH) : Option (Int32 × aH) :=
  some (s0, h)
theorem tX11_give_57 {d : Nat} {z : Int32 × aH} (s0 : Int32) (h : aH) (hf : fX11_give_57 s0 h = some z) : Ev (d + 2) none mX11_give (0, 0) 57 [.null, .null, .null, .null] [.int s0] h (QI z) := 
  go_ok (X := none) (blk := wX11_give_57) (np := 58) (tt := 0) (kN := fun _ _ _ => none) (kT := fun _ _ _ => none) (kR := kRI)
    (fun _ _ _ q => nos q)
    (fun _ _ _ q => nos q)
    kRI_ok (Or.inr rfl) (by decide +kernel) (by decide +kernel) hf
theorem kqX11_give_54 : okC mX11_give 54 (.invokevirtual 164) 183 198 0 1 = true := by decide +kernel
def fX11_give_54 (s0 : Int32) (s1 : Nat) (h : aH) : Option (Int32 × aH) :=
  (isO h 11 s1).bind fun _ =>
  (gX11_no s1 s0 h).bind fun r =>
  fX11_give_57 r.1 r.2
theorem tX11_give_54 {d : Nat} {z : Int32 × aH} (s0 : Int32) (s1 : Nat) (h : aH) (hf : fX11_give_54 s0 s1 h = some z) : Ev (d + 2) none mX11_give (0, 0) 54 [.null, .null, .null, .null] [.int s0, .ref s1] h (QI z) := by
  obtain ⟨_, h1, hf⟩ := bnd hf
  obtain ⟨fs, ho⟩ := isO_ok h1
  obtain ⟨r, h2, hf⟩ := bnd hf
  refine ev_V kqX11_give_54 jX11_no (zX11_no (d := d + 1) h2) ho rfl rfl (Nat.le_of_ble_eq_true rfl) rfl (as := [.int s0]) (rest := []) rfl (Nat.le_of_ble_eq_true rfl) (fun _ _ hq => ?_)
  obtain ⟨rfl, rfl⟩ := hq
  exact jm [0, 0, 0, 0] (fX11_give_57 r.1 r.2) (fun q => tX11_give_57 r.1 r.2 q) hf
def wX11_give_52 : List En := [(.aload_n 0, 0, 0, 0), (.iload_n 3, 0, 0, 0)]
def fX11_give_52 (v0 : Nat) (v3 : Int32) (h : aH) : Option (Int32 × aH) :=
  fX11_give_54 v3 v0 h
theorem tX11_give_52 {d : Nat} {z : Int32 × aH} (v0 : Nat) (v3 : Int32) (h : aH) (hf : fX11_give_52 v0 v3 h = some z) : Ev (d + 2) none mX11_give (0, 0) 52 [.ref v0, .null, .null, .int v3] [] h (QI z) := 
  go_ok (X := none) (blk := wX11_give_52) (np := 54) (tt := 0) (kN := fun xs h st => app [0, 0, 0, 0] (apS [1, 2] (fun s0 s1 => fX11_give_54 s0 s1 h) st) xs) (kT := fun _ _ _ => none) (kR := kRI)
    (fun xs h st q => jm [0, 0, 0, 0] _ (fun q => apS_ok [1, 2] _ (fun st => Ev (d + 2) none mX11_give (0, 0) 54 [.null, .null, .null, .null] st h (QI z)) st (fun s0 s1 q => tX11_give_54 s0 s1 h q) q) q)
    (fun _ _ _ q => nos q)
    kRI_ok (Or.inr rfl) (by decide +kernel) (by decide +kernel) hf
def wX11_give_48 : List En := [(.iload_n 3, 0, 0, 0), (.ifCond .eq 9, 58, 0, 0)]
def fX11_give_48 (v0 : Nat) (v1 : Int32) (v2 : Int32) (v3 : Int32) (h : aH) : Option (Int32 × aH) :=
  if v3 = 0 then fX11_give_58 v0 v1 v2 h else fX11_give_52 v0 v3 h
theorem tX11_give_48 {d : Nat} {z : Int32 × aH} (v0 : Nat) (v1 : Int32) (v2 : Int32) (v3 : Int32) (h : aH) (hf : fX11_give_48 v0 v1 v2 v3 h = some z) : Ev (d + 2) none mX11_give (0, 0) 48 [.ref v0, .int v1, .int v2, .int v3] [] h (QI z) := 
  go_ok (X := none) (blk := wX11_give_48) (np := 52) (tt := 58) (kN := fun xs h st => app [2, 0, 0, 1] (fun v0 v3 => apS [] (fX11_give_52 v0 v3 h) st) xs) (kT := fun xs h st => app [2, 1, 1, 0] (fun v0 v1 v2 => apS [] (fX11_give_58 v0 v1 v2 h) st) xs) (kR := kRI)
    (fun xs h st q => jm [2, 0, 0, 1] _ (fun v0 v3 q => apS_ok [] _ (fun st => Ev (d + 2) none mX11_give (0, 0) 52 [.ref v0, .null, .null, .int v3] st h (QI z)) st (fun q => tX11_give_52 v0 v3 h q) q) q)
    (fun xs h st q => jm [2, 1, 1, 0] _ (fun v0 v1 v2 q => apS_ok [] _ (fun st => Ev (d + 2) none mX11_give (0, 0) 58 [.ref v0, .int v1, .int v2, .null] st h (QI z)) st (fun q => tX11_give_58 v0 v1 v2 h q) q) q)
    kRI_ok (Or.inr rfl) (by decide +kernel) (by decide +kernel) hf
def wX11_give_46 : List En := [(.iconst 5, 0, 0, 0), (.istore_n 3, 0, 0, 0)]
def fX11_give_46 (v0 : Nat) (v1 : Int32) (v2 : Int32) (h : aH) : Option (Int32 × aH) :=
  fX11_give_48 v0 v1 v2 (kI 5) h
theorem tX11_give_46 {d : Nat} {z : Int32 × aH} (v0 : Nat) (v1 : Int32) (v2 : Int32) (h : aH) (hf : fX11_give_46 v0 v1 v2 h = some z) : Ev (d + 2) none mX11_give (0, 0) 46 [.ref v0, .int v1, .int v2, .null] [] h (QI z) := 
  go_ok (X := none) (blk := wX11_give_46) (np := 48) (tt := 0) (kN := fun xs h st => app [2, 1, 1, 1] (fun v0 v1 v2 v3 => apS [] (fX11_give_48 v0 v1 v2 v3 h) st) xs) (kT := fun _ _ _ => none) (kR := kRI)
    (fun xs h st q => jm [2, 1, 1, 1] _ (fun v0 v1 v2 v3 q => apS_ok [] _ (fun st => Ev (d + 2) none mX11_give (0, 0) 48 [.ref v0, .int v1, .int v2, .int v3] st h (QI z)) st (fun q => tX11_give_48 v0 v1 v2 v3 h q) q) q)
    (fun _ _ _ q => nos q)
    kRI_ok (Or.inr rfl) (by decide +kernel) (by decide +kernel) hf
def wX11_give_37 : List En := [(.aload_n 0, 0, 0, 0), (.getfield 32, 194, 11, 19), (.iload_n 1, 0, 0, 0), (.iaload, 0, 0, 0), (.ifCond .ne 5, 48, 0, 0)]
def fX11_give_37 (v0 : Nat) (v1 : Int32) (v2 : Int32) (v3 : Int32) (h : aH) : Option (Int32 × aH) :=
  (gFR h 11 v0 19).bind fun t1 =>
  (aRI (h[t1]?) v1).bind fun t2 =>
  if t2 = 0 then fX11_give_46 v0 v1 v2 h else fX11_give_48 v0 v1 v2 v3 h
theorem tX11_give_37 {d : Nat} {z : Int32 × aH} (v0 : Nat) (v1 : Int32) (v2 : Int32) (v3 : Int32) (h : aH) (hf : fX11_give_37 v0 v1 v2 v3 h = some z) : Ev (d + 2) none mX11_give (0, 0) 37 [.ref v0, .int v1, .int v2, .int v3] [] h (QI z) := 
  go_ok (X := none) (blk := wX11_give_37) (np := 46) (tt := 48) (kN := fun xs h st => app [2, 1, 1, 0] (fun v0 v1 v2 => apS [] (fX11_give_46 v0 v1 v2 h) st) xs) (kT := fun xs h st => app [2, 1, 1, 1] (fun v0 v1 v2 v3 => apS [] (fX11_give_48 v0 v1 v2 v3 h) st) xs) (kR := kRI)
    (fun xs h st q => jm [2, 1, 1, 0] _ (fun v0 v1 v2 q => apS_ok [] _ (fun st => Ev (d + 2) none mX11_give (0, 0) 46 [.ref v0, .int v1, .int v2, .null] st h (QI z)) st (fun q => tX11_give_46 v0 v1 v2 h q) q) q)
    (fun xs h st q => jm [2, 1, 1, 1] _ (fun v0 v1 v2 v3 q => apS_ok [] _ (fun st => Ev (d + 2) none mX11_give (0, 0) 48 [.ref v0, .int v1, .int v2, .int v3] st h (QI z)) st (fun q => tX11_give_48 v0 v1 v2 v3 h q) q) q)
    kRI_ok (Or.inr rfl) (by decide +kernel) (by decide +kernel) hf
def wX11_give_34 : List En := [(.ifCond .eq 12, 46, 0, 0)]
def fX11_give_34 (v0 : Nat) (v1 : Int32) (v2 : Int32) (v3 : Int32) (s0 : Int32) (h : aH) : Option (Int32 × aH) :=
  if s0 = 0 then fX11_give_46 v0 v1 v2 h else fX11_give_37 v0 v1 v2 v3 h
theorem tX11_give_34 {d : Nat} {z : Int32 × aH} (v0 : Nat) (v1 : Int32) (v2 : Int32) (v3 : Int32) (s0 : Int32) (h : aH) (hf : fX11_give_34 v0 v1 v2 v3 s0 h = some z) : Ev (d + 2) none mX11_give (0, 0) 34 [.ref v0, .int v1, .int v2, .int v3] [.int s0] h (QI z) := 
  go_ok (X := none) (blk := wX11_give_34) (np := 37) (tt := 46) (kN := fun xs h st => app [2, 1, 1, 1] (fun v0 v1 v2 v3 => apS [] (fX11_give_37 v0 v1 v2 v3 h) st) xs) (kT := fun xs h st => app [2, 1, 1, 0] (fun v0 v1 v2 => apS [] (fX11_give_46 v0 v1 v2 h) st) xs) (kR := kRI)
    (fun xs h st q => jm [2, 1, 1, 1] _ (fun v0 v1 v2 v3 q => apS_ok [] _ (fun st => Ev (d + 2) none mX11_give (0, 0) 37 [.ref v0, .int v1, .int v2, .int v3] st h (QI z)) st (fun q => tX11_give_37 v0 v1 v2 v3 h q) q) q)
    (fun xs h st q => jm [2, 1, 1, 0] _ (fun v0 v1 v2 q => apS_ok [] _ (fun st => Ev (d + 2) none mX11_give (0, 0) 46 [.ref v0, .int v1, .int v2, .null] st h (QI z)) st (fun q => tX11_give_46 v0 v1 v2 h q) q) q)
    kRI_ok (Or.inr rfl) (by decide +kernel) (by decide +kernel) hf
theorem kqX11_give_31 : okC mX11_give 31 (.invokevirtual 249) 221 238 0 2 = true := by decide +kernel
def fX11_give_31 (v0 : Nat) (v1 : Int32) (v2 : Int32) (v3 : Int32) (s0 : Int32) (s1 : Nat) (s2 : Nat) (h : aH) : Option (Int32 × aH) :=
  (isO h 11 s2).bind fun _ =>
  (gX11_lives s2 s1 s0 h).bind fun r =>
  fX11_give_34 v0 v1 v2 v3 r.1 r.2
theorem tX11_give_31 {d : Nat} {z : Int32 × aH} (v0 : Nat) (v1 : Int32) (v2 : Int32) (v3 : Int32) (s0 : Int32) (s1 : Nat) (s2 : Nat) (h : aH) (hf : fX11_give_31 v0 v1 v2 v3 s0 s1 s2 h = some z) : Ev (d + 2) none mX11_give (0, 0) 31 [.ref v0, .int v1, .int v2, .int v3] [.int s0, .ref s1, .ref s2] h (QI z) := by
  obtain ⟨_, h1, hf⟩ := bnd hf
  obtain ⟨fs, ho⟩ := isO_ok h1
  obtain ⟨r, h2, hf⟩ := bnd hf
  refine ev_V kqX11_give_31 jX11_lives (zX11_lives (d := d + 0) h2) ho rfl rfl (Nat.le_of_ble_eq_true rfl) rfl (as := [.ref s1, .int s0]) (rest := []) rfl (Nat.le_of_ble_eq_true rfl) (fun _ _ hq => ?_)
  obtain ⟨-, rfl, rfl⟩ := hq
  exact jm [2, 1, 1, 1] (fun v0 v1 v2 v3 => fX11_give_34 v0 v1 v2 v3 r.1 r.2) (fun v0 v1 v2 v3 q => tX11_give_34 v0 v1 v2 v3 r.1 r.2 q) hf
def wX11_give_25 : List En := [(.aload_n 0, 0, 0, 0), (.aload_n 0, 0, 0, 0), (.getfield 32, 194, 11, 19), (.iload_n 1, 0, 0, 0)]
def fX11_give_25 (v0 : Nat) (v1 : Int32) (v2 : Int32) (v3 : Int32) (h : aH) : Option (Int32 × aH) :=
  (gFR h 11 v0 19).bind fun t1 =>
  fX11_give_31 v0 v1 v2 v3 v1 t1 v0 h
theorem tX11_give_25 {d : Nat} {z : Int32 × aH} (v0 : Nat) (v1 : Int32) (v2 : Int32) (v3 : Int32) (h : aH) (hf : fX11_give_25 v0 v1 v2 v3 h = some z) : Ev (d + 2) none mX11_give (0, 0) 25 [.ref v0, .int v1, .int v2, .int v3] [] h (QI z) := 
  go_ok (X := none) (blk := wX11_give_25) (np := 31) (tt := 0) (kN := fun xs h st => app [2, 1, 1, 1] (fun v0 v1 v2 v3 => apS [1, 2, 2] (fun s0 s1 s2 => fX11_give_31 v0 v1 v2 v3 s0 s1 s2 h) st) xs) (kT := fun _ _ _ => none) (kR := kRI)
    (fun xs h st q => jm [2, 1, 1, 1] _ (fun v0 v1 v2 v3 q => apS_ok [1, 2, 2] _ (fun st => Ev (d + 2) none mX11_give (0, 0) 31 [.ref v0, .int v1, .int v2, .int v3] st h (QI z)) st (fun s0 s1 s2 q => tX11_give_31 v0 v1 v2 v3 s0 s1 s2 h q) q) q)
    (fun _ _ _ q => nos q)
    kRI_ok (Or.inr rfl) (by decide +kernel) (by decide +kernel) hf
def wX11_give_20 : List En := [(.istore_n 3, 0, 0, 0), (.iload_n 3, 0, 0, 0), (.ifCond .ne 26, 48, 0, 0)]
def fX11_give_20 (v0 : Nat) (v1 : Int32) (v2 : Int32) (s0 : Int32) (h : aH) : Option (Int32 × aH) :=
  if s0 = 0 then fX11_give_25 v0 v1 v2 s0 h else fX11_give_48 v0 v1 v2 s0 h
theorem tX11_give_20 {d : Nat} {z : Int32 × aH} (v0 : Nat) (v1 : Int32) (v2 : Int32) (s0 : Int32) (h : aH) (hf : fX11_give_20 v0 v1 v2 s0 h = some z) : Ev (d + 2) none mX11_give (0, 0) 20 [.ref v0, .int v1, .int v2, .null] [.int s0] h (QI z) := 
  go_ok (X := none) (blk := wX11_give_20) (np := 25) (tt := 48) (kN := fun xs h st => app [2, 1, 1, 1] (fun v0 v1 v2 v3 => apS [] (fX11_give_25 v0 v1 v2 v3 h) st) xs) (kT := fun xs h st => app [2, 1, 1, 1] (fun v0 v1 v2 v3 => apS [] (fX11_give_48 v0 v1 v2 v3 h) st) xs) (kR := kRI)
    (fun xs h st q => jm [2, 1, 1, 1] _ (fun v0 v1 v2 v3 q => apS_ok [] _ (fun st => Ev (d + 2) none mX11_give (0, 0) 25 [.ref v0, .int v1, .int v2, .int v3] st h (QI z)) st (fun q => tX11_give_25 v0 v1 v2 v3 h q) q) q)
    (fun xs h st q => jm [2, 1, 1, 1] _ (fun v0 v1 v2 v3 q => apS_ok [] _ (fun st => Ev (d + 2) none mX11_give (0, 0) 48 [.ref v0, .int v1, .int v2, .int v3] st h (QI z)) st (fun q => tX11_give_48 v0 v1 v2 v3 h q) q) q)
    kRI_ok (Or.inr rfl) (by decide +kernel) (by decide +kernel) hf
theorem kqX11_give_17 : okC mX11_give 17 (.invokevirtual 241) 235 252 0 2 = true := by decide +kernel
def fX11_give_17 (v0 : Nat) (v1 : Int32) (v2 : Int32) (s0 : Int32) (s1 : Int32) (s2 : Nat) (h : aH) : Option (Int32 × aH) :=
  (isO h 11 s2).bind fun _ =>
  (gX11_why s2 s1 s0 h).bind fun r =>
  fX11_give_20 v0 v1 v2 r.1 r.2
theorem tX11_give_17 {d : Nat} {z : Int32 × aH} (v0 : Nat) (v1 : Int32) (v2 : Int32) (s0 : Int32) (s1 : Int32) (s2 : Nat) (h : aH) (hf : fX11_give_17 v0 v1 v2 s0 s1 s2 h = some z) : Ev (d + 2) none mX11_give (0, 0) 17 [.ref v0, .int v1, .int v2, .null] [.int s0, .int s1, .ref s2] h (QI z) := by
  obtain ⟨_, h1, hf⟩ := bnd hf
  obtain ⟨fs, ho⟩ := isO_ok h1
  obtain ⟨r, h2, hf⟩ := bnd hf
  refine ev_V kqX11_give_17 jX11_why (zX11_why (d := d + 1) h2) ho rfl rfl (Nat.le_of_ble_eq_true rfl) rfl (as := [.int s1, .int s0]) (rest := []) rfl (Nat.le_of_ble_eq_true rfl) (fun _ _ hq => ?_)
  obtain ⟨rfl, rfl⟩ := hq
  exact jm [2, 1, 1, 0] (fun v0 v1 v2 => fX11_give_20 v0 v1 v2 r.1 r.2) (fun v0 v1 v2 q => tX11_give_20 v0 v1 v2 r.1 r.2 q) hf
theorem kqX11_give_14 : okC mX11_give 14 (.invokestatic 140) 182 197 1 3 = true := by decide +kernel
def fX11_give_14 (v0 : Nat) (v1 : Int32) (v2 : Int32) (s0 : Int32) (s1 : Int32) (s2 : Int32) (s3 : Int32) (s4 : Nat) (h : aH) : Option (Int32 × aH) :=
  (gX11_in s2 s1 s0 h).bind fun r =>
  fX11_give_17 v0 v1 v2 r.1 s3 s4 r.2
theorem tX11_give_14 {d : Nat} {z : Int32 × aH} (v0 : Nat) (v1 : Int32) (v2 : Int32) (s0 : Int32) (s1 : Int32) (s2 : Int32) (s3 : Int32) (s4 : Nat) (h : aH) (hf : fX11_give_14 v0 v1 v2 s0 s1 s2 s3 s4 h = some z) : Ev (d + 2) none mX11_give (0, 0) 14 [.ref v0, .int v1, .int v2, .null] [.int s0, .int s1, .int s2, .int s3, .ref s4] h (QI z) := by
  obtain ⟨r, h2, hf⟩ := bnd hf
  refine ev_S kqX11_give_14 jX11_in (zX11_in (d := d + 1) h2) rfl (Nat.le_of_ble_eq_true rfl) rfl (as := [.int s2, .int s1, .int s0]) (rest := [.int s3, .ref s4]) rfl (Nat.le_of_ble_eq_true rfl) (fun _ _ hq => ?_)
  obtain ⟨-, rfl, rfl⟩ := hq
  exact jm [2, 1, 1, 0] (fun v0 v1 v2 => fX11_give_17 v0 v1 v2 r.1 s3 s4 r.2) (fun v0 v1 v2 q => tX11_give_17 v0 v1 v2 r.1 s3 s4 r.2 q) hf
def wX11_give_10 : List En := [(.iload_n 2, 0, 0, 0), (.iconst 1, 0, 0, 0), (.bipush 99, 0, 0, 0)]
def fX11_give_10 (v0 : Nat) (v1 : Int32) (v2 : Int32) (s0 : Int32) (s1 : Nat) (h : aH) : Option (Int32 × aH) :=
  fX11_give_14 v0 v1 v2 (kB 99) (kI 1) v2 s0 s1 h
theorem tX11_give_10 {d : Nat} {z : Int32 × aH} (v0 : Nat) (v1 : Int32) (v2 : Int32) (s0 : Int32) (s1 : Nat) (h : aH) (hf : fX11_give_10 v0 v1 v2 s0 s1 h = some z) : Ev (d + 2) none mX11_give (0, 0) 10 [.ref v0, .int v1, .int v2, .null] [.int s0, .ref s1] h (QI z) := 
  go_ok (X := none) (blk := wX11_give_10) (np := 14) (tt := 0) (kN := fun xs h st => app [2, 1, 1, 0] (fun v0 v1 v2 => apS [1, 1, 1, 1, 2] (fun s0 s1 s2 s3 s4 => fX11_give_14 v0 v1 v2 s0 s1 s2 s3 s4 h) st) xs) (kT := fun _ _ _ => none) (kR := kRI)
    (fun xs h st q => jm [2, 1, 1, 0] _ (fun v0 v1 v2 q => apS_ok [1, 1, 1, 1, 2] _ (fun st => Ev (d + 2) none mX11_give (0, 0) 14 [.ref v0, .int v1, .int v2, .null] st h (QI z)) st (fun s0 s1 s2 s3 s4 q => tX11_give_14 v0 v1 v2 s0 s1 s2 s3 s4 h q) q) q)
    (fun _ _ _ q => nos q)
    kRI_ok (Or.inr rfl) (by decide +kernel) (by decide +kernel) hf
theorem kqX11_give_7 : okC mX11_give 7 (.invokevirtual 285) 214 231 0 1 = true := by decide +kernel
def fX11_give_7 (v0 : Nat) (v1 : Int32) (v2 : Int32) (s0 : Int32) (s1 : Nat) (s2 : Nat) (h : aH) : Option (Int32 × aH) :=
  (isO h 11 s1).bind fun _ =>
  (gX11_isPerson s1 s0 h).bind fun r =>
  fX11_give_10 v0 v1 v2 r.1 s2 r.2
theorem tX11_give_7 {d : Nat} {z : Int32 × aH} (v0 : Nat) (v1 : Int32) (v2 : Int32) (s0 : Int32) (s1 : Nat) (s2 : Nat) (h : aH) (hf : fX11_give_7 v0 v1 v2 s0 s1 s2 h = some z) : Ev (d + 2) none mX11_give (0, 0) 7 [.ref v0, .int v1, .int v2, .null] [.int s0, .ref s1, .ref s2] h (QI z) := by
  obtain ⟨_, h1, hf⟩ := bnd hf
  obtain ⟨fs, ho⟩ := isO_ok h1
  obtain ⟨r, h2, hf⟩ := bnd hf
  refine ev_V kqX11_give_7 jX11_isPerson (zX11_isPerson (d := d + 0) h2) ho rfl rfl (Nat.le_of_ble_eq_true rfl) rfl (as := [.int s0]) (rest := [.ref s2]) rfl (Nat.le_of_ble_eq_true rfl) (fun _ _ hq => ?_)
  obtain ⟨-, rfl, rfl⟩ := hq
  exact jm [2, 1, 1, 0] (fun v0 v1 v2 => fX11_give_10 v0 v1 v2 r.1 s2 r.2) (fun v0 v1 v2 q => tX11_give_10 v0 v1 v2 r.1 s2 r.2 q) hf
def wX11_give_4 : List En := [(.aload_n 0, 0, 0, 0), (.aload_n 0, 0, 0, 0), (.iload_n 1, 0, 0, 0)]
def fX11_give_4 (v0 : Nat) (v1 : Int32) (v2 : Int32) (h : aH) : Option (Int32 × aH) :=
  fX11_give_7 v0 v1 v2 v1 v0 v0 h
theorem tX11_give_4 {d : Nat} {z : Int32 × aH} (v0 : Nat) (v1 : Int32) (v2 : Int32) (h : aH) (hf : fX11_give_4 v0 v1 v2 h = some z) : Ev (d + 2) none mX11_give (0, 0) 4 [.ref v0, .int v1, .int v2, .null] [] h (QI z) := 
  go_ok (X := none) (blk := wX11_give_4) (np := 7) (tt := 0) (kN := fun xs h st => app [2, 1, 1, 0] (fun v0 v1 v2 => apS [1, 2, 2] (fun s0 s1 s2 => fX11_give_7 v0 v1 v2 s0 s1 s2 h) st) xs) (kT := fun _ _ _ => none) (kR := kRI)
    (fun xs h st q => jm [2, 1, 1, 0] _ (fun v0 v1 v2 q => apS_ok [1, 2, 2] _ (fun st => Ev (d + 2) none mX11_give (0, 0) 7 [.ref v0, .int v1, .int v2, .null] st h (QI z)) st (fun s0 s1 s2 q => tX11_give_7 v0 v1 v2 s0 s1 s2 h q) q) q)
    (fun _ _ _ q => nos q)
    kRI_ok (Or.inr rfl) (by decide +kernel) (by decide +kernel) hf
theorem kqX11_give_1 : okC mX11_give 1 (.invokevirtual 161) 181 196 0 0 = true := by decide +kernel
def fX11_give_1 (v0 : Nat) (v1 : Int32) (v2 : Int32) (s0 : Nat) (h : aH) : Option (Int32 × aH) :=
  (isO h 11 s0).bind fun _ =>
  (gX11_anew s0 h).bind fun r =>
  fX11_give_4 v0 v1 v2 r
theorem tX11_give_1 {d : Nat} {z : Int32 × aH} (v0 : Nat) (v1 : Int32) (v2 : Int32) (s0 : Nat) (h : aH) (hf : fX11_give_1 v0 v1 v2 s0 h = some z) : Ev (d + 2) none mX11_give (0, 0) 1 [.ref v0, .int v1, .int v2, .null] [.ref s0] h (QI z) := by
  obtain ⟨_, h1, hf⟩ := bnd hf
  obtain ⟨fs, ho⟩ := isO_ok h1
  obtain ⟨r, h2, hf⟩ := bnd hf
  refine ev_V kqX11_give_1 jX11_anew (zX11_anew (d := d + 1) h2) ho rfl rfl (Nat.le_of_ble_eq_true rfl) rfl (as := []) (rest := []) rfl (Nat.le_of_ble_eq_true rfl) (fun _ _ hq => ?_)
  obtain ⟨rfl, hh⟩ := hq
  rw [hh]
  exact jm [2, 1, 1, 0] (fun v0 v1 v2 => fX11_give_4 v0 v1 v2 r) (fun v0 v1 v2 q => tX11_give_4 v0 v1 v2 r q) hf
def wX11_give_0 : List En := [(.aload_n 0, 0, 0, 0)]
def fX11_give_0 (v0 : Nat) (v1 : Int32) (v2 : Int32) (h : aH) : Option (Int32 × aH) :=
  fX11_give_1 v0 v1 v2 v0 h
theorem tX11_give_0 {d : Nat} {z : Int32 × aH} (v0 : Nat) (v1 : Int32) (v2 : Int32) (h : aH) (hf : fX11_give_0 v0 v1 v2 h = some z) : Ev (d + 2) none mX11_give (0, 0) 0 [.ref v0, .int v1, .int v2, .null] [] h (QI z) := 
  go_ok (X := none) (blk := wX11_give_0) (np := 1) (tt := 0) (kN := fun xs h st => app [2, 1, 1, 0] (fun v0 v1 v2 => apS [2] (fun s0 => fX11_give_1 v0 v1 v2 s0 h) st) xs) (kT := fun _ _ _ => none) (kR := kRI)
    (fun xs h st q => jm [2, 1, 1, 0] _ (fun v0 v1 v2 q => apS_ok [2] _ (fun st => Ev (d + 2) none mX11_give (0, 0) 1 [.ref v0, .int v1, .int v2, .null] st h (QI z)) st (fun s0 q => tX11_give_1 v0 v1 v2 s0 h q) q) q)
    (fun _ _ _ q => nos q)
    kRI_ok (Or.inr rfl) (by decide +kernel) (by decide +kernel) hf
def gX11_give (v0 : Nat) (v1 : Int32) (v2 : Int32) (h : aH) : Option (Int32 × aH) := fX11_give_0 v0 v1 v2 h
theorem zX11_give {d : Nat} {z : Int32 × aH} {v0 : Nat} {v1 : Int32} {v2 : Int32} {h : aH} (q : gX11_give v0 v1 v2 h = some z) : CT (d + 2) mX11_give (0, 0) [.ref v0, .int v1, .int v2] h (QI z) :=
  ct_ev (by decide +kernel) (Nat.le_of_ble_eq_true rfl) QI_r (jm [2, 1, 1, 0] (fun v0 v1 v2 => fX11_give_0 v0 v1 v2 h) (fun v0 v1 v2 q => tX11_give_0 v0 v1 v2 h q) q)
def wX11_pour_54 : List En := [(.aload_n 0, 0, 0, 0), (.getfield 32, 194, 11, 19), (.bipush 12, 0, 0, 0), (.dup2, 0, 0, 0), (.iaload, 0, 0, 0), (.iload_n 1, 0, 0, 0), (.iadd, 0, 0, 0), (.iastore, 0, 0, 0), (.aload_n 0, 0, 0, 0), (.getfield 32, 194, 11, 19), (.bipush 12, 0, 0, 0), (.iaload, 0, 0, 0), (.ireturn, 0, 0, 0)]
def fX11_pour_54 (v0 : Nat) (v1 : Int32) (h : aH) : Option (Int32 × aH) :=
  (gFR h 11 v0 19).bind fun t1 =>
  (aRI (h[t1]?) (kB 12)).bind fun t2 =>
  (aWI h t1 (kB 12) (t2 + v1)).bind fun h3 =>
  (gFR h3 11 v0 19).bind fun t4 =>
  (aRI (h3[t4]?) (kB 12)).bind fun t5 =>
  some (t5, h3)
theorem tX11_pour_54 {d : Nat} {z : Int32 × aH} (v0 : Nat) (v1 : Int32) (h : aH) (hf : fX11_pour_54 v0 v1 h = some z) : Ev (d + 2) none mX11_pour (0, 0) 54 [.ref v0, .int v1, .null] [] h (QI z) := 
  go_ok (X := none) (blk := wX11_pour_54) (np := 73) (tt := 0) (kN := fun _ _ _ => none) (kT := fun _ _ _ => none) (kR := kRI)
    (fun _ _ _ q => nos q)
    (fun _ _ _ q => nos q)
    kRI_ok (Or.inr rfl) (by decide +kernel) (by decide +kernel) hf
theorem kqX11_pour_51 : okC mX11_pour 51 (.invokevirtual 407) 291 308 0 0 = true := by decide +kernel
def fX11_pour_51 (v0 : Nat) (v1 : Int32) (s0 : Nat) (h : aH) : Option (Int32 × aH) :=
  (isO h 11 s0).bind fun _ =>
  (gX11_note s0 h).bind fun r =>
  fX11_pour_54 v0 v1 r
theorem tX11_pour_51 {d : Nat} {z : Int32 × aH} (v0 : Nat) (v1 : Int32) (s0 : Nat) (h : aH) (hf : fX11_pour_51 v0 v1 s0 h = some z) : Ev (d + 2) none mX11_pour (0, 0) 51 [.ref v0, .int v1, .null] [.ref s0] h (QI z) := by
  obtain ⟨_, h1, hf⟩ := bnd hf
  obtain ⟨fs, ho⟩ := isO_ok h1
  obtain ⟨r, h2, hf⟩ := bnd hf
  refine ev_V kqX11_pour_51 jX11_note (zX11_note (d := d + 0) h2) ho rfl rfl (Nat.le_of_ble_eq_true rfl) rfl (as := []) (rest := []) rfl (Nat.le_of_ble_eq_true rfl) (fun _ _ hq => ?_)
  obtain ⟨rfl, hh⟩ := hq
  rw [hh]
  exact jm [2, 1, 0] (fun v0 v1 => fX11_pour_54 v0 v1 r) (fun v0 v1 q => tX11_pour_54 v0 v1 r q) hf
def wX11_pour_50 : List En := [(.aload_n 0, 0, 0, 0)]
def fX11_pour_50 (v0 : Nat) (v1 : Int32) (h : aH) : Option (Int32 × aH) :=
  fX11_pour_51 v0 v1 v0 h
theorem tX11_pour_50 {d : Nat} {z : Int32 × aH} (v0 : Nat) (v1 : Int32) (h : aH) (hf : fX11_pour_50 v0 v1 h = some z) : Ev (d + 2) none mX11_pour (0, 0) 50 [.ref v0, .int v1, .null] [] h (QI z) := 
  go_ok (X := none) (blk := wX11_pour_50) (np := 51) (tt := 0) (kN := fun xs h st => app [2, 1, 0] (fun v0 v1 => apS [2] (fun s0 => fX11_pour_51 v0 v1 s0 h) st) xs) (kT := fun _ _ _ => none) (kR := kRI)
    (fun xs h st q => jm [2, 1, 0] _ (fun v0 v1 q => apS_ok [2] _ (fun st => Ev (d + 2) none mX11_pour (0, 0) 51 [.ref v0, .int v1, .null] st h (QI z)) st (fun s0 q => tX11_pour_51 v0 v1 s0 h q) q) q)
    (fun _ _ _ q => nos q)
    kRI_ok (Or.inr rfl) (by decide +kernel) (by decide +kernel) hf
def wX11_pour_49 : List En := [(.ireturn, 0, 0, 0)]
def fX11_pour_49 (s0 : Int32) (h : aH) : Option (Int32 × aH) :=
  some (s0, h)
theorem tX11_pour_49 {d : Nat} {z : Int32 × aH} (s0 : Int32) (h : aH) (hf : fX11_pour_49 s0 h = some z) : Ev (d + 2) none mX11_pour (0, 0) 49 [.null, .null, .null] [.int s0] h (QI z) := 
  go_ok (X := none) (blk := wX11_pour_49) (np := 50) (tt := 0) (kN := fun _ _ _ => none) (kT := fun _ _ _ => none) (kR := kRI)
    (fun _ _ _ q => nos q)
    (fun _ _ _ q => nos q)
    kRI_ok (Or.inr rfl) (by decide +kernel) (by decide +kernel) hf
theorem kqX11_pour_46 : okC mX11_pour 46 (.invokevirtual 164) 183 198 0 1 = true := by decide +kernel
def fX11_pour_46 (s0 : Int32) (s1 : Nat) (h : aH) : Option (Int32 × aH) :=
  (isO h 11 s1).bind fun _ =>
  (gX11_no s1 s0 h).bind fun r =>
  fX11_pour_49 r.1 r.2
theorem tX11_pour_46 {d : Nat} {z : Int32 × aH} (s0 : Int32) (s1 : Nat) (h : aH) (hf : fX11_pour_46 s0 s1 h = some z) : Ev (d + 2) none mX11_pour (0, 0) 46 [.null, .null, .null] [.int s0, .ref s1] h (QI z) := by
  obtain ⟨_, h1, hf⟩ := bnd hf
  obtain ⟨fs, ho⟩ := isO_ok h1
  obtain ⟨r, h2, hf⟩ := bnd hf
  refine ev_V kqX11_pour_46 jX11_no (zX11_no (d := d + 1) h2) ho rfl rfl (Nat.le_of_ble_eq_true rfl) rfl (as := [.int s0]) (rest := []) rfl (Nat.le_of_ble_eq_true rfl) (fun _ _ hq => ?_)
  obtain ⟨rfl, rfl⟩ := hq
  exact jm [0, 0, 0] (fX11_pour_49 r.1 r.2) (fun q => tX11_pour_49 r.1 r.2 q) hf
def wX11_pour_44 : List En := [(.aload_n 0, 0, 0, 0), (.iload_n 2, 0, 0, 0)]
def fX11_pour_44 (v0 : Nat) (v2 : Int32) (h : aH) : Option (Int32 × aH) :=
  fX11_pour_46 v2 v0 h
theorem tX11_pour_44 {d : Nat} {z : Int32 × aH} (v0 : Nat) (v2 : Int32) (h : aH) (hf : fX11_pour_44 v0 v2 h = some z) : Ev (d + 2) none mX11_pour (0, 0) 44 [.ref v0, .null, .int v2] [] h (QI z) := 
  go_ok (X := none) (blk := wX11_pour_44) (np := 46) (tt := 0) (kN := fun xs h st => app [0, 0, 0] (apS [1, 2] (fun s0 s1 => fX11_pour_46 s0 s1 h) st) xs) (kT := fun _ _ _ => none) (kR := kRI)
    (fun xs h st q => jm [0, 0, 0] _ (fun q => apS_ok [1, 2] _ (fun st => Ev (d + 2) none mX11_pour (0, 0) 46 [.null, .null, .null] st h (QI z)) st (fun s0 s1 q => tX11_pour_46 s0 s1 h q) q) q)
    (fun _ _ _ q => nos q)
    kRI_ok (Or.inr rfl) (by decide +kernel) (by decide +kernel) hf
def wX11_pour_40 : List En := [(.iload_n 2, 0, 0, 0), (.ifCond .eq 9, 50, 0, 0)]
def fX11_pour_40 (v0 : Nat) (v1 : Int32) (v2 : Int32) (h : aH) : Option (Int32 × aH) :=
  if v2 = 0 then fX11_pour_50 v0 v1 h else fX11_pour_44 v0 v2 h
theorem tX11_pour_40 {d : Nat} {z : Int32 × aH} (v0 : Nat) (v1 : Int32) (v2 : Int32) (h : aH) (hf : fX11_pour_40 v0 v1 v2 h = some z) : Ev (d + 2) none mX11_pour (0, 0) 40 [.ref v0, .int v1, .int v2] [] h (QI z) := 
  go_ok (X := none) (blk := wX11_pour_40) (np := 44) (tt := 50) (kN := fun xs h st => app [2, 0, 1] (fun v0 v2 => apS [] (fX11_pour_44 v0 v2 h) st) xs) (kT := fun xs h st => app [2, 1, 0] (fun v0 v1 => apS [] (fX11_pour_50 v0 v1 h) st) xs) (kR := kRI)
    (fun xs h st q => jm [2, 0, 1] _ (fun v0 v2 q => apS_ok [] _ (fun st => Ev (d + 2) none mX11_pour (0, 0) 44 [.ref v0, .null, .int v2] st h (QI z)) st (fun q => tX11_pour_44 v0 v2 h q) q) q)
    (fun xs h st q => jm [2, 1, 0] _ (fun v0 v1 q => apS_ok [] _ (fun st => Ev (d + 2) none mX11_pour (0, 0) 50 [.ref v0, .int v1, .null] st h (QI z)) st (fun q => tX11_pour_50 v0 v1 h q) q) q)
    kRI_ok (Or.inr rfl) (by decide +kernel) (by decide +kernel) hf
def wX11_pour_38 : List En := [(.iconst 3, 0, 0, 0), (.istore_n 2, 0, 0, 0)]
def fX11_pour_38 (v0 : Nat) (v1 : Int32) (h : aH) : Option (Int32 × aH) :=
  fX11_pour_40 v0 v1 (kI 3) h
theorem tX11_pour_38 {d : Nat} {z : Int32 × aH} (v0 : Nat) (v1 : Int32) (h : aH) (hf : fX11_pour_38 v0 v1 h = some z) : Ev (d + 2) none mX11_pour (0, 0) 38 [.ref v0, .int v1, .null] [] h (QI z) := 
  go_ok (X := none) (blk := wX11_pour_38) (np := 40) (tt := 0) (kN := fun xs h st => app [2, 1, 1] (fun v0 v1 v2 => apS [] (fX11_pour_40 v0 v1 v2 h) st) xs) (kT := fun _ _ _ => none) (kR := kRI)
    (fun xs h st q => jm [2, 1, 1] _ (fun v0 v1 v2 q => apS_ok [] _ (fun st => Ev (d + 2) none mX11_pour (0, 0) 40 [.ref v0, .int v1, .int v2] st h (QI z)) st (fun q => tX11_pour_40 v0 v1 v2 h q) q) q)
    (fun _ _ _ q => nos q)
    kRI_ok (Or.inr rfl) (by decide +kernel) (by decide +kernel) hf
def wX11_pour_24 : List En := [(.aload_n 0, 0, 0, 0), (.getfield 32, 194, 11, 19), (.bipush 12, 0, 0, 0), (.iaload, 0, 0, 0), (.iload_n 1, 0, 0, 0), (.iadd, 0, 0, 0), (.bipush 99, 0, 0, 0), (.if_icmp .le 5, 40, 0, 0)]
def fX11_pour_24 (v0 : Nat) (v1 : Int32) (v2 : Int32) (h : aH) : Option (Int32 × aH) :=
  (gFR h 11 v0 19).bind fun t1 =>
  (aRI (h[t1]?) (kB 12)).bind fun t2 =>
  if (kB 99) < (t2 + v1) then fX11_pour_38 v0 v1 h else fX11_pour_40 v0 v1 v2 h
theorem tX11_pour_24 {d : Nat} {z : Int32 × aH} (v0 : Nat) (v1 : Int32) (v2 : Int32) (h : aH) (hf : fX11_pour_24 v0 v1 v2 h = some z) : Ev (d + 2) none mX11_pour (0, 0) 24 [.ref v0, .int v1, .int v2] [] h (QI z) := 
  go_ok (X := none) (blk := wX11_pour_24) (np := 38) (tt := 40) (kN := fun xs h st => app [2, 1, 0] (fun v0 v1 => apS [] (fX11_pour_38 v0 v1 h) st) xs) (kT := fun xs h st => app [2, 1, 1] (fun v0 v1 v2 => apS [] (fX11_pour_40 v0 v1 v2 h) st) xs) (kR := kRI)
    (fun xs h st q => jm [2, 1, 0] _ (fun v0 v1 q => apS_ok [] _ (fun st => Ev (d + 2) none mX11_pour (0, 0) 38 [.ref v0, .int v1, .null] st h (QI z)) st (fun q => tX11_pour_38 v0 v1 h q) q) q)
    (fun xs h st q => jm [2, 1, 1] _ (fun v0 v1 v2 q => apS_ok [] _ (fun st => Ev (d + 2) none mX11_pour (0, 0) 40 [.ref v0, .int v1, .int v2] st h (QI z)) st (fun q => tX11_pour_40 v0 v1 v2 h q) q) q)
    kRI_ok (Or.inr rfl) (by decide +kernel) (by decide +kernel) hf
def wX11_pour_19 : List En := [(.istore_n 2, 0, 0, 0), (.iload_n 2, 0, 0, 0), (.ifCond .ne 19, 40, 0, 0)]
def fX11_pour_19 (v0 : Nat) (v1 : Int32) (s0 : Int32) (h : aH) : Option (Int32 × aH) :=
  if s0 = 0 then fX11_pour_24 v0 v1 s0 h else fX11_pour_40 v0 v1 s0 h
theorem tX11_pour_19 {d : Nat} {z : Int32 × aH} (v0 : Nat) (v1 : Int32) (s0 : Int32) (h : aH) (hf : fX11_pour_19 v0 v1 s0 h = some z) : Ev (d + 2) none mX11_pour (0, 0) 19 [.ref v0, .int v1, .null] [.int s0] h (QI z) := 
  go_ok (X := none) (blk := wX11_pour_19) (np := 24) (tt := 40) (kN := fun xs h st => app [2, 1, 1] (fun v0 v1 v2 => apS [] (fX11_pour_24 v0 v1 v2 h) st) xs) (kT := fun xs h st => app [2, 1, 1] (fun v0 v1 v2 => apS [] (fX11_pour_40 v0 v1 v2 h) st) xs) (kR := kRI)
    (fun xs h st q => jm [2, 1, 1] _ (fun v0 v1 v2 q => apS_ok [] _ (fun st => Ev (d + 2) none mX11_pour (0, 0) 24 [.ref v0, .int v1, .int v2] st h (QI z)) st (fun q => tX11_pour_24 v0 v1 v2 h q) q) q)
    (fun xs h st q => jm [2, 1, 1] _ (fun v0 v1 v2 q => apS_ok [] _ (fun st => Ev (d + 2) none mX11_pour (0, 0) 40 [.ref v0, .int v1, .int v2] st h (QI z)) st (fun q => tX11_pour_40 v0 v1 v2 h q) q) q)
    kRI_ok (Or.inr rfl) (by decide +kernel) (by decide +kernel) hf
theorem kqX11_pour_16 : okC mX11_pour 16 (.invokevirtual 241) 235 252 0 2 = true := by decide +kernel
def fX11_pour_16 (v0 : Nat) (v1 : Int32) (s0 : Int32) (s1 : Int32) (s2 : Nat) (h : aH) : Option (Int32 × aH) :=
  (isO h 11 s2).bind fun _ =>
  (gX11_why s2 s1 s0 h).bind fun r =>
  fX11_pour_19 v0 v1 r.1 r.2
theorem tX11_pour_16 {d : Nat} {z : Int32 × aH} (v0 : Nat) (v1 : Int32) (s0 : Int32) (s1 : Int32) (s2 : Nat) (h : aH) (hf : fX11_pour_16 v0 v1 s0 s1 s2 h = some z) : Ev (d + 2) none mX11_pour (0, 0) 16 [.ref v0, .int v1, .null] [.int s0, .int s1, .ref s2] h (QI z) := by
  obtain ⟨_, h1, hf⟩ := bnd hf
  obtain ⟨fs, ho⟩ := isO_ok h1
  obtain ⟨r, h2, hf⟩ := bnd hf
  refine ev_V kqX11_pour_16 jX11_why (zX11_why (d := d + 1) h2) ho rfl rfl (Nat.le_of_ble_eq_true rfl) rfl (as := [.int s1, .int s0]) (rest := []) rfl (Nat.le_of_ble_eq_true rfl) (fun _ _ hq => ?_)
  obtain ⟨rfl, rfl⟩ := hq
  exact jm [2, 1, 0] (fun v0 v1 => fX11_pour_19 v0 v1 r.1 r.2) (fun v0 v1 q => tX11_pour_19 v0 v1 r.1 r.2 q) hf
theorem kqX11_pour_13 : okC mX11_pour 13 (.invokestatic 140) 182 197 1 3 = true := by decide +kernel
def fX11_pour_13 (v0 : Nat) (v1 : Int32) (s0 : Int32) (s1 : Int32) (s2 : Int32) (s3 : Int32) (s4 : Nat) (h : aH) : Option (Int32 × aH) :=
  (gX11_in s2 s1 s0 h).bind fun r =>
  fX11_pour_16 v0 v1 r.1 s3 s4 r.2
theorem tX11_pour_13 {d : Nat} {z : Int32 × aH} (v0 : Nat) (v1 : Int32) (s0 : Int32) (s1 : Int32) (s2 : Int32) (s3 : Int32) (s4 : Nat) (h : aH) (hf : fX11_pour_13 v0 v1 s0 s1 s2 s3 s4 h = some z) : Ev (d + 2) none mX11_pour (0, 0) 13 [.ref v0, .int v1, .null] [.int s0, .int s1, .int s2, .int s3, .ref s4] h (QI z) := by
  obtain ⟨r, h2, hf⟩ := bnd hf
  refine ev_S kqX11_pour_13 jX11_in (zX11_in (d := d + 1) h2) rfl (Nat.le_of_ble_eq_true rfl) rfl (as := [.int s2, .int s1, .int s0]) (rest := [.int s3, .ref s4]) rfl (Nat.le_of_ble_eq_true rfl) (fun _ _ hq => ?_)
  obtain ⟨-, rfl, rfl⟩ := hq
  exact jm [2, 1, 0] (fun v0 v1 => fX11_pour_16 v0 v1 r.1 s3 s4 r.2) (fun v0 v1 q => tX11_pour_16 v0 v1 r.1 s3 s4 r.2 q) hf
def wX11_pour_4 : List En := [(.aload_n 0, 0, 0, 0), (.aload_n 0, 0, 0, 0), (.getfield 174, 189, 11, 14), (.iload_n 1, 0, 0, 0), (.iconst 1, 0, 0, 0), (.bipush 99, 0, 0, 0)]
def fX11_pour_4 (v0 : Nat) (v1 : Int32) (h : aH) : Option (Int32 × aH) :=
  (gFI h 11 v0 14).bind fun t1 =>
  fX11_pour_13 v0 v1 (kB 99) (kI 1) v1 t1 v0 h
theorem tX11_pour_4 {d : Nat} {z : Int32 × aH} (v0 : Nat) (v1 : Int32) (h : aH) (hf : fX11_pour_4 v0 v1 h = some z) : Ev (d + 2) none mX11_pour (0, 0) 4 [.ref v0, .int v1, .null] [] h (QI z) := 
  go_ok (X := none) (blk := wX11_pour_4) (np := 13) (tt := 0) (kN := fun xs h st => app [2, 1, 0] (fun v0 v1 => apS [1, 1, 1, 1, 2] (fun s0 s1 s2 s3 s4 => fX11_pour_13 v0 v1 s0 s1 s2 s3 s4 h) st) xs) (kT := fun _ _ _ => none) (kR := kRI)
    (fun xs h st q => jm [2, 1, 0] _ (fun v0 v1 q => apS_ok [1, 1, 1, 1, 2] _ (fun st => Ev (d + 2) none mX11_pour (0, 0) 13 [.ref v0, .int v1, .null] st h (QI z)) st (fun s0 s1 s2 s3 s4 q => tX11_pour_13 v0 v1 s0 s1 s2 s3 s4 h q) q) q)
    (fun _ _ _ q => nos q)
    kRI_ok (Or.inr rfl) (by decide +kernel) (by decide +kernel) hf
theorem kqX11_pour_1 : okC mX11_pour 1 (.invokevirtual 161) 181 196 0 0 = true := by decide +kernel
def fX11_pour_1 (v0 : Nat) (v1 : Int32) (s0 : Nat) (h : aH) : Option (Int32 × aH) :=
  (isO h 11 s0).bind fun _ =>
  (gX11_anew s0 h).bind fun r =>
  fX11_pour_4 v0 v1 r
theorem tX11_pour_1 {d : Nat} {z : Int32 × aH} (v0 : Nat) (v1 : Int32) (s0 : Nat) (h : aH) (hf : fX11_pour_1 v0 v1 s0 h = some z) : Ev (d + 2) none mX11_pour (0, 0) 1 [.ref v0, .int v1, .null] [.ref s0] h (QI z) := by
  obtain ⟨_, h1, hf⟩ := bnd hf
  obtain ⟨fs, ho⟩ := isO_ok h1
  obtain ⟨r, h2, hf⟩ := bnd hf
  refine ev_V kqX11_pour_1 jX11_anew (zX11_anew (d := d + 1) h2) ho rfl rfl (Nat.le_of_ble_eq_true rfl) rfl (as := []) (rest := []) rfl (Nat.le_of_ble_eq_true rfl) (fun _ _ hq => ?_)
  obtain ⟨rfl, hh⟩ := hq
  rw [hh]
  exact jm [2, 1, 0] (fun v0 v1 => fX11_pour_4 v0 v1 r) (fun v0 v1 q => tX11_pour_4 v0 v1 r q) hf
def wX11_pour_0 : List En := [(.aload_n 0, 0, 0, 0)]
def fX11_pour_0 (v0 : Nat) (v1 : Int32) (h : aH) : Option (Int32 × aH) :=
  fX11_pour_1 v0 v1 v0 h
theorem tX11_pour_0 {d : Nat} {z : Int32 × aH} (v0 : Nat) (v1 : Int32) (h : aH) (hf : fX11_pour_0 v0 v1 h = some z) : Ev (d + 2) none mX11_pour (0, 0) 0 [.ref v0, .int v1, .null] [] h (QI z) := 
  go_ok (X := none) (blk := wX11_pour_0) (np := 1) (tt := 0) (kN := fun xs h st => app [2, 1, 0] (fun v0 v1 => apS [2] (fun s0 => fX11_pour_1 v0 v1 s0 h) st) xs) (kT := fun _ _ _ => none) (kR := kRI)
    (fun xs h st q => jm [2, 1, 0] _ (fun v0 v1 q => apS_ok [2] _ (fun st => Ev (d + 2) none mX11_pour (0, 0) 1 [.ref v0, .int v1, .null] st h (QI z)) st (fun s0 q => tX11_pour_1 v0 v1 s0 h q) q) q)
    (fun _ _ _ q => nos q)
    kRI_ok (Or.inr rfl) (by decide +kernel) (by decide +kernel) hf
def gX11_pour (v0 : Nat) (v1 : Int32) (h : aH) : Option (Int32 × aH) := fX11_pour_0 v0 v1 h
theorem zX11_pour {d : Nat} {z : Int32 × aH} {v0 : Nat} {v1 : Int32} {h : aH} (q : gX11_pour v0 v1 h = some z) : CT (d + 2) mX11_pour (0, 0) [.ref v0, .int v1] h (QI z) :=
  ct_ev (by decide +kernel) (Nat.le_of_ble_eq_true rfl) QI_r (jm [2, 1, 0] (fun v0 v1 => fX11_pour_0 v0 v1 h) (fun v0 v1 q => tX11_pour_0 v0 v1 h q) q)
def wX11_value_54 : List En := [(.aload_n 0, 0, 0, 0), (.getfield 32, 194, 11, 19), (.bipush 14, 0, 0, 0), (.iload_n 1, 0, 0, 0), (.iadd, 0, 0, 0), (.iaload, 0, 0, 0), (.istore 4, 0, 0, 0), (.aload_n 0, 0, 0, 0), (.getfield 32, 194, 11, 19), (.bipush 14, 0, 0, 0), (.iload_n 1, 0, 0, 0), (.iadd, 0, 0, 0), (.iload_n 2, 0, 0, 0), (.iastore, 0, 0, 0), (.iload 4, 0, 0, 0), (.ireturn, 0, 0, 0)]
def fX11_value_54 (v0 : Nat) (v1 : Int32) (v2 : Int32) (h : aH) : Option (Int32 × aH) :=
  (gFR h 11 v0 19).bind fun t1 =>
  (aRI (h[t1]?) ((kB 14) + v1)).bind fun t2 =>
  (gFR h 11 v0 19).bind fun t3 =>
  (aWI h t3 ((kB 14) + v1) v2).bind fun h4 =>
  some (t2, h4)
theorem tX11_value_54 {d : Nat} {z : Int32 × aH} (v0 : Nat) (v1 : Int32) (v2 : Int32) (h : aH) (hf : fX11_value_54 v0 v1 v2 h = some z) : Ev (d + 2) none mX11_value (0, 0) 54 [.ref v0, .int v1, .int v2, .null, .null] [] h (QI z) := 
  go_ok (X := none) (blk := wX11_value_54) (np := 78) (tt := 0) (kN := fun _ _ _ => none) (kT := fun _ _ _ => none) (kR := kRI)
    (fun _ _ _ q => nos q)
    (fun _ _ _ q => nos q)
    kRI_ok (Or.inr rfl) (by decide +kernel) (by decide +kernel) hf
theorem kqX11_value_51 : okC mX11_value 51 (.invokevirtual 407) 291 308 0 0 = true := by decide +kernel
def fX11_value_51 (v0 : Nat) (v1 : Int32) (v2 : Int32) (s0 : Nat) (h : aH) : Option (Int32 × aH) :=
  (isO h 11 s0).bind fun _ =>
  (gX11_note s0 h).bind fun r =>
  fX11_value_54 v0 v1 v2 r
theorem tX11_value_51 {d : Nat} {z : Int32 × aH} (v0 : Nat) (v1 : Int32) (v2 : Int32) (s0 : Nat) (h : aH) (hf : fX11_value_51 v0 v1 v2 s0 h = some z) : Ev (d + 2) none mX11_value (0, 0) 51 [.ref v0, .int v1, .int v2, .null, .null] [.ref s0] h (QI z) := by
  obtain ⟨_, h1, hf⟩ := bnd hf
  obtain ⟨fs, ho⟩ := isO_ok h1
  obtain ⟨r, h2, hf⟩ := bnd hf
  refine ev_V kqX11_value_51 jX11_note (zX11_note (d := d + 0) h2) ho rfl rfl (Nat.le_of_ble_eq_true rfl) rfl (as := []) (rest := []) rfl (Nat.le_of_ble_eq_true rfl) (fun _ _ hq => ?_)
  obtain ⟨rfl, hh⟩ := hq
  rw [hh]
  exact jm [2, 1, 1, 0, 0] (fun v0 v1 v2 => fX11_value_54 v0 v1 v2 r) (fun v0 v1 v2 q => tX11_value_54 v0 v1 v2 r q) hf
def wX11_value_50 : List En := [(.aload_n 0, 0, 0, 0)]
def fX11_value_50 (v0 : Nat) (v1 : Int32) (v2 : Int32) (h : aH) : Option (Int32 × aH) :=
  fX11_value_51 v0 v1 v2 v0 h
theorem tX11_value_50 {d : Nat} {z : Int32 × aH} (v0 : Nat) (v1 : Int32) (v2 : Int32) (h : aH) (hf : fX11_value_50 v0 v1 v2 h = some z) : Ev (d + 2) none mX11_value (0, 0) 50 [.ref v0, .int v1, .int v2, .null, .null] [] h (QI z) := 
  go_ok (X := none) (blk := wX11_value_50) (np := 51) (tt := 0) (kN := fun xs h st => app [2, 1, 1, 0, 0] (fun v0 v1 v2 => apS [2] (fun s0 => fX11_value_51 v0 v1 v2 s0 h) st) xs) (kT := fun _ _ _ => none) (kR := kRI)
    (fun xs h st q => jm [2, 1, 1, 0, 0] _ (fun v0 v1 v2 q => apS_ok [2] _ (fun st => Ev (d + 2) none mX11_value (0, 0) 51 [.ref v0, .int v1, .int v2, .null, .null] st h (QI z)) st (fun s0 q => tX11_value_51 v0 v1 v2 s0 h q) q) q)
    (fun _ _ _ q => nos q)
    kRI_ok (Or.inr rfl) (by decide +kernel) (by decide +kernel) hf
def wX11_value_49 : List En := [(.ireturn, 0, 0, 0)]
def fX11_value_49 (s0 : Int32) (h : aH) : Option (Int32 × aH) :=
  some (s0, h)
theorem tX11_value_49 {d : Nat} {z : Int32 × aH} (s0 : Int32) (h : aH) (hf : fX11_value_49 s0 h = some z) : Ev (d + 2) none mX11_value (0, 0) 49 [.null, .null, .null, .null, .null] [.int s0] h (QI z) := 
  go_ok (X := none) (blk := wX11_value_49) (np := 50) (tt := 0) (kN := fun _ _ _ => none) (kT := fun _ _ _ => none) (kR := kRI)
    (fun _ _ _ q => nos q)
    (fun _ _ _ q => nos q)
    kRI_ok (Or.inr rfl) (by decide +kernel) (by decide +kernel) hf
theorem kqX11_value_46 : okC mX11_value 46 (.invokevirtual 164) 183 198 0 1 = true := by decide +kernel
def fX11_value_46 (s0 : Int32) (s1 : Nat) (h : aH) : Option (Int32 × aH) :=
  (isO h 11 s1).bind fun _ =>
  (gX11_no s1 s0 h).bind fun r =>
  fX11_value_49 r.1 r.2
theorem tX11_value_46 {d : Nat} {z : Int32 × aH} (s0 : Int32) (s1 : Nat) (h : aH) (hf : fX11_value_46 s0 s1 h = some z) : Ev (d + 2) none mX11_value (0, 0) 46 [.null, .null, .null, .null, .null] [.int s0, .ref s1] h (QI z) := by
  obtain ⟨_, h1, hf⟩ := bnd hf
  obtain ⟨fs, ho⟩ := isO_ok h1
  obtain ⟨r, h2, hf⟩ := bnd hf
  refine ev_V kqX11_value_46 jX11_no (zX11_no (d := d + 1) h2) ho rfl rfl (Nat.le_of_ble_eq_true rfl) rfl (as := [.int s0]) (rest := []) rfl (Nat.le_of_ble_eq_true rfl) (fun _ _ hq => ?_)
  obtain ⟨rfl, rfl⟩ := hq
  exact jm [0, 0, 0, 0, 0] (fX11_value_49 r.1 r.2) (fun q => tX11_value_49 r.1 r.2 q) hf
def wX11_value_44 : List En := [(.aload_n 0, 0, 0, 0), (.iload_n 3, 0, 0, 0)]
def fX11_value_44 (v0 : Nat) (v3 : Int32) (h : aH) : Option (Int32 × aH) :=
  fX11_value_46 v3 v0 h
theorem tX11_value_44 {d : Nat} {z : Int32 × aH} (v0 : Nat) (v3 : Int32) (h : aH) (hf : fX11_value_44 v0 v3 h = some z) : Ev (d + 2) none mX11_value (0, 0) 44 [.ref v0, .null, .null, .int v3, .null] [] h (QI z) := 
  go_ok (X := none) (blk := wX11_value_44) (np := 46) (tt := 0) (kN := fun xs h st => app [0, 0, 0, 0, 0] (apS [1, 2] (fun s0 s1 => fX11_value_46 s0 s1 h) st) xs) (kT := fun _ _ _ => none) (kR := kRI)
    (fun xs h st q => jm [0, 0, 0, 0, 0] _ (fun q => apS_ok [1, 2] _ (fun st => Ev (d + 2) none mX11_value (0, 0) 46 [.null, .null, .null, .null, .null] st h (QI z)) st (fun s0 s1 q => tX11_value_46 s0 s1 h q) q) q)
    (fun _ _ _ q => nos q)
    kRI_ok (Or.inr rfl) (by decide +kernel) (by decide +kernel) hf
def wX11_value_40 : List En := [(.iload_n 3, 0, 0, 0), (.ifCond .eq 9, 50, 0, 0)]
def fX11_value_40 (v0 : Nat) (v1 : Int32) (v2 : Int32) (v3 : Int32) (h : aH) : Option (Int32 × aH) :=
  if v3 = 0 then fX11_value_50 v0 v1 v2 h else fX11_value_44 v0 v3 h
theorem tX11_value_40 {d : Nat} {z : Int32 × aH} (v0 : Nat) (v1 : Int32) (v2 : Int32) (v3 : Int32) (h : aH) (hf : fX11_value_40 v0 v1 v2 v3 h = some z) : Ev (d + 2) none mX11_value (0, 0) 40 [.ref v0, .int v1, .int v2, .int v3, .null] [] h (QI z) := 
  go_ok (X := none) (blk := wX11_value_40) (np := 44) (tt := 50) (kN := fun xs h st => app [2, 0, 0, 1, 0] (fun v0 v3 => apS [] (fX11_value_44 v0 v3 h) st) xs) (kT := fun xs h st => app [2, 1, 1, 0, 0] (fun v0 v1 v2 => apS [] (fX11_value_50 v0 v1 v2 h) st) xs) (kR := kRI)
    (fun xs h st q => jm [2, 0, 0, 1, 0] _ (fun v0 v3 q => apS_ok [] _ (fun st => Ev (d + 2) none mX11_value (0, 0) 44 [.ref v0, .null, .null, .int v3, .null] st h (QI z)) st (fun q => tX11_value_44 v0 v3 h q) q) q)
    (fun xs h st q => jm [2, 1, 1, 0, 0] _ (fun v0 v1 v2 q => apS_ok [] _ (fun st => Ev (d + 2) none mX11_value (0, 0) 50 [.ref v0, .int v1, .int v2, .null, .null] st h (QI z)) st (fun q => tX11_value_50 v0 v1 v2 h q) q) q)
    kRI_ok (Or.inr rfl) (by decide +kernel) (by decide +kernel) hf
def wX11_value_38 : List En := [(.iconst 5, 0, 0, 0), (.istore_n 3, 0, 0, 0)]
def fX11_value_38 (v0 : Nat) (v1 : Int32) (v2 : Int32) (h : aH) : Option (Int32 × aH) :=
  fX11_value_40 v0 v1 v2 (kI 5) h
theorem tX11_value_38 {d : Nat} {z : Int32 × aH} (v0 : Nat) (v1 : Int32) (v2 : Int32) (h : aH) (hf : fX11_value_38 v0 v1 v2 h = some z) : Ev (d + 2) none mX11_value (0, 0) 38 [.ref v0, .int v1, .int v2, .null, .null] [] h (QI z) := 
  go_ok (X := none) (blk := wX11_value_38) (np := 40) (tt := 0) (kN := fun xs h st => app [2, 1, 1, 1, 0] (fun v0 v1 v2 v3 => apS [] (fX11_value_40 v0 v1 v2 v3 h) st) xs) (kT := fun _ _ _ => none) (kR := kRI)
    (fun xs h st q => jm [2, 1, 1, 1, 0] _ (fun v0 v1 v2 v3 q => apS_ok [] _ (fun st => Ev (d + 2) none mX11_value (0, 0) 40 [.ref v0, .int v1, .int v2, .int v3, .null] st h (QI z)) st (fun q => tX11_value_40 v0 v1 v2 v3 h q) q) q)
    (fun _ _ _ q => nos q)
    kRI_ok (Or.inr rfl) (by decide +kernel) (by decide +kernel) hf
def wX11_value_25 : List En := [(.aload_n 0, 0, 0, 0), (.getfield 32, 194, 11, 19), (.bipush 14, 0, 0, 0), (.iload_n 1, 0, 0, 0), (.iadd, 0, 0, 0), (.iaload, 0, 0, 0), (.iload_n 2, 0, 0, 0), (.if_icmp .ne 5, 40, 0, 0)]
def fX11_value_25 (v0 : Nat) (v1 : Int32) (v2 : Int32) (v3 : Int32) (h : aH) : Option (Int32 × aH) :=
  (gFR h 11 v0 19).bind fun t1 =>
  (aRI (h[t1]?) ((kB 14) + v1)).bind fun t2 =>
  if t2 = v2 then fX11_value_38 v0 v1 v2 h else fX11_value_40 v0 v1 v2 v3 h
theorem tX11_value_25 {d : Nat} {z : Int32 × aH} (v0 : Nat) (v1 : Int32) (v2 : Int32) (v3 : Int32) (h : aH) (hf : fX11_value_25 v0 v1 v2 v3 h = some z) : Ev (d + 2) none mX11_value (0, 0) 25 [.ref v0, .int v1, .int v2, .int v3, .null] [] h (QI z) := 
  go_ok (X := none) (blk := wX11_value_25) (np := 38) (tt := 40) (kN := fun xs h st => app [2, 1, 1, 0, 0] (fun v0 v1 v2 => apS [] (fX11_value_38 v0 v1 v2 h) st) xs) (kT := fun xs h st => app [2, 1, 1, 1, 0] (fun v0 v1 v2 v3 => apS [] (fX11_value_40 v0 v1 v2 v3 h) st) xs) (kR := kRI)
    (fun xs h st q => jm [2, 1, 1, 0, 0] _ (fun v0 v1 v2 q => apS_ok [] _ (fun st => Ev (d + 2) none mX11_value (0, 0) 38 [.ref v0, .int v1, .int v2, .null, .null] st h (QI z)) st (fun q => tX11_value_38 v0 v1 v2 h q) q) q)
    (fun xs h st q => jm [2, 1, 1, 1, 0] _ (fun v0 v1 v2 v3 q => apS_ok [] _ (fun st => Ev (d + 2) none mX11_value (0, 0) 40 [.ref v0, .int v1, .int v2, .int v3, .null] st h (QI z)) st (fun q => tX11_value_40 v0 v1 v2 v3 h q) q) q)
    kRI_ok (Or.inr rfl) (by decide +kernel) (by decide +kernel) hf
def wX11_value_20 : List En := [(.istore_n 3, 0, 0, 0), (.iload_n 3, 0, 0, 0), (.ifCond .ne 18, 40, 0, 0)]
def fX11_value_20 (v0 : Nat) (v1 : Int32) (v2 : Int32) (s0 : Int32) (h : aH) : Option (Int32 × aH) :=
  if s0 = 0 then fX11_value_25 v0 v1 v2 s0 h else fX11_value_40 v0 v1 v2 s0 h
theorem tX11_value_20 {d : Nat} {z : Int32 × aH} (v0 : Nat) (v1 : Int32) (v2 : Int32) (s0 : Int32) (h : aH) (hf : fX11_value_20 v0 v1 v2 s0 h = some z) : Ev (d + 2) none mX11_value (0, 0) 20 [.ref v0, .int v1, .int v2, .null, .null] [.int s0] h (QI z) := 
  go_ok (X := none) (blk := wX11_value_20) (np := 25) (tt := 40) (kN := fun xs h st => app [2, 1, 1, 1, 0] (fun v0 v1 v2 v3 => apS [] (fX11_value_25 v0 v1 v2 v3 h) st) xs) (kT := fun xs h st => app [2, 1, 1, 1, 0] (fun v0 v1 v2 v3 => apS [] (fX11_value_40 v0 v1 v2 v3 h) st) xs) (kR := kRI)
    (fun xs h st q => jm [2, 1, 1, 1, 0] _ (fun v0 v1 v2 v3 q => apS_ok [] _ (fun st => Ev (d + 2) none mX11_value (0, 0) 25 [.ref v0, .int v1, .int v2, .int v3, .null] st h (QI z)) st (fun q => tX11_value_25 v0 v1 v2 v3 h q) q) q)
    (fun xs h st q => jm [2, 1, 1, 1, 0] _ (fun v0 v1 v2 v3 q => apS_ok [] _ (fun st => Ev (d + 2) none mX11_value (0, 0) 40 [.ref v0, .int v1, .int v2, .int v3, .null] st h (QI z)) st (fun q => tX11_value_40 v0 v1 v2 v3 h q) q) q)
    kRI_ok (Or.inr rfl) (by decide +kernel) (by decide +kernel) hf
theorem kqX11_value_17 : okC mX11_value 17 (.invokevirtual 241) 235 252 0 2 = true := by decide +kernel
def fX11_value_17 (v0 : Nat) (v1 : Int32) (v2 : Int32) (s0 : Int32) (s1 : Int32) (s2 : Nat) (h : aH) : Option (Int32 × aH) :=
  (isO h 11 s2).bind fun _ =>
  (gX11_why s2 s1 s0 h).bind fun r =>
  fX11_value_20 v0 v1 v2 r.1 r.2
theorem tX11_value_17 {d : Nat} {z : Int32 × aH} (v0 : Nat) (v1 : Int32) (v2 : Int32) (s0 : Int32) (s1 : Int32) (s2 : Nat) (h : aH) (hf : fX11_value_17 v0 v1 v2 s0 s1 s2 h = some z) : Ev (d + 2) none mX11_value (0, 0) 17 [.ref v0, .int v1, .int v2, .null, .null] [.int s0, .int s1, .ref s2] h (QI z) := by
  obtain ⟨_, h1, hf⟩ := bnd hf
  obtain ⟨fs, ho⟩ := isO_ok h1
  obtain ⟨r, h2, hf⟩ := bnd hf
  refine ev_V kqX11_value_17 jX11_why (zX11_why (d := d + 1) h2) ho rfl rfl (Nat.le_of_ble_eq_true rfl) rfl (as := [.int s1, .int s0]) (rest := []) rfl (Nat.le_of_ble_eq_true rfl) (fun _ _ hq => ?_)
  obtain ⟨rfl, rfl⟩ := hq
  exact jm [2, 1, 1, 0, 0] (fun v0 v1 v2 => fX11_value_20 v0 v1 v2 r.1 r.2) (fun v0 v1 v2 q => tX11_value_20 v0 v1 v2 r.1 r.2 q) hf
theorem kqX11_value_14 : okC mX11_value 14 (.invokestatic 140) 182 197 1 3 = true := by decide +kernel
def fX11_value_14 (v0 : Nat) (v1 : Int32) (v2 : Int32) (s0 : Int32) (s1 : Int32) (s2 : Int32) (s3 : Int32) (s4 : Nat) (h : aH) : Option (Int32 × aH) :=
  (gX11_in s2 s1 s0 h).bind fun r =>
  fX11_value_17 v0 v1 v2 r.1 s3 s4 r.2
theorem tX11_value_14 {d : Nat} {z : Int32 × aH} (v0 : Nat) (v1 : Int32) (v2 : Int32) (s0 : Int32) (s1 : Int32) (s2 : Int32) (s3 : Int32) (s4 : Nat) (h : aH) (hf : fX11_value_14 v0 v1 v2 s0 s1 s2 s3 s4 h = some z) : Ev (d + 2) none mX11_value (0, 0) 14 [.ref v0, .int v1, .int v2, .null, .null] [.int s0, .int s1, .int s2, .int s3, .ref s4] h (QI z) := by
  obtain ⟨r, h2, hf⟩ := bnd hf
  refine ev_S kqX11_value_14 jX11_in (zX11_in (d := d + 1) h2) rfl (Nat.le_of_ble_eq_true rfl) rfl (as := [.int s2, .int s1, .int s0]) (rest := [.int s3, .ref s4]) rfl (Nat.le_of_ble_eq_true rfl) (fun _ _ hq => ?_)
  obtain ⟨-, rfl, rfl⟩ := hq
  exact jm [2, 1, 1, 0, 0] (fun v0 v1 v2 => fX11_value_17 v0 v1 v2 r.1 s3 s4 r.2) (fun v0 v1 v2 q => tX11_value_17 v0 v1 v2 r.1 s3 s4 r.2 q) hf
def wX11_value_10 : List En := [(.iload_n 2, 0, 0, 0), (.iconst 0, 0, 0, 0), (.bipush 20, 0, 0, 0)]
def fX11_value_10 (v0 : Nat) (v1 : Int32) (v2 : Int32) (s0 : Int32) (s1 : Nat) (h : aH) : Option (Int32 × aH) :=
  fX11_value_14 v0 v1 v2 (kB 20) (kI 0) v2 s0 s1 h
theorem tX11_value_10 {d : Nat} {z : Int32 × aH} (v0 : Nat) (v1 : Int32) (v2 : Int32) (s0 : Int32) (s1 : Nat) (h : aH) (hf : fX11_value_10 v0 v1 v2 s0 s1 h = some z) : Ev (d + 2) none mX11_value (0, 0) 10 [.ref v0, .int v1, .int v2, .null, .null] [.int s0, .ref s1] h (QI z) := 
  go_ok (X := none) (blk := wX11_value_10) (np := 14) (tt := 0) (kN := fun xs h st => app [2, 1, 1, 0, 0] (fun v0 v1 v2 => apS [1, 1, 1, 1, 2] (fun s0 s1 s2 s3 s4 => fX11_value_14 v0 v1 v2 s0 s1 s2 s3 s4 h) st) xs) (kT := fun _ _ _ => none) (kR := kRI)
    (fun xs h st q => jm [2, 1, 1, 0, 0] _ (fun v0 v1 v2 q => apS_ok [1, 1, 1, 1, 2] _ (fun st => Ev (d + 2) none mX11_value (0, 0) 14 [.ref v0, .int v1, .int v2, .null, .null] st h (QI z)) st (fun s0 s1 s2 s3 s4 q => tX11_value_14 v0 v1 v2 s0 s1 s2 s3 s4 h q) q) q)
    (fun _ _ _ q => nos q)
    kRI_ok (Or.inr rfl) (by decide +kernel) (by decide +kernel) hf
theorem kqX11_value_7 : okC mX11_value 7 (.invokevirtual 288) 216 233 0 1 = true := by decide +kernel
def fX11_value_7 (v0 : Nat) (v1 : Int32) (v2 : Int32) (s0 : Int32) (s1 : Nat) (s2 : Nat) (h : aH) : Option (Int32 × aH) :=
  (isO h 11 s1).bind fun _ =>
  (gX11_isName s1 s0 h).bind fun r =>
  fX11_value_10 v0 v1 v2 r.1 s2 r.2
theorem tX11_value_7 {d : Nat} {z : Int32 × aH} (v0 : Nat) (v1 : Int32) (v2 : Int32) (s0 : Int32) (s1 : Nat) (s2 : Nat) (h : aH) (hf : fX11_value_7 v0 v1 v2 s0 s1 s2 h = some z) : Ev (d + 2) none mX11_value (0, 0) 7 [.ref v0, .int v1, .int v2, .null, .null] [.int s0, .ref s1, .ref s2] h (QI z) := by
  obtain ⟨_, h1, hf⟩ := bnd hf
  obtain ⟨fs, ho⟩ := isO_ok h1
  obtain ⟨r, h2, hf⟩ := bnd hf
  refine ev_V kqX11_value_7 jX11_isName (zX11_isName (d := d + 0) h2) ho rfl rfl (Nat.le_of_ble_eq_true rfl) rfl (as := [.int s0]) (rest := [.ref s2]) rfl (Nat.le_of_ble_eq_true rfl) (fun _ _ hq => ?_)
  obtain ⟨-, rfl, rfl⟩ := hq
  exact jm [2, 1, 1, 0, 0] (fun v0 v1 v2 => fX11_value_10 v0 v1 v2 r.1 s2 r.2) (fun v0 v1 v2 q => tX11_value_10 v0 v1 v2 r.1 s2 r.2 q) hf
def wX11_value_4 : List En := [(.aload_n 0, 0, 0, 0), (.aload_n 0, 0, 0, 0), (.iload_n 1, 0, 0, 0)]
def fX11_value_4 (v0 : Nat) (v1 : Int32) (v2 : Int32) (h : aH) : Option (Int32 × aH) :=
  fX11_value_7 v0 v1 v2 v1 v0 v0 h
theorem tX11_value_4 {d : Nat} {z : Int32 × aH} (v0 : Nat) (v1 : Int32) (v2 : Int32) (h : aH) (hf : fX11_value_4 v0 v1 v2 h = some z) : Ev (d + 2) none mX11_value (0, 0) 4 [.ref v0, .int v1, .int v2, .null, .null] [] h (QI z) := 
  go_ok (X := none) (blk := wX11_value_4) (np := 7) (tt := 0) (kN := fun xs h st => app [2, 1, 1, 0, 0] (fun v0 v1 v2 => apS [1, 2, 2] (fun s0 s1 s2 => fX11_value_7 v0 v1 v2 s0 s1 s2 h) st) xs) (kT := fun _ _ _ => none) (kR := kRI)
    (fun xs h st q => jm [2, 1, 1, 0, 0] _ (fun v0 v1 v2 q => apS_ok [1, 2, 2] _ (fun st => Ev (d + 2) none mX11_value (0, 0) 7 [.ref v0, .int v1, .int v2, .null, .null] st h (QI z)) st (fun s0 s1 s2 q => tX11_value_7 v0 v1 v2 s0 s1 s2 h q) q) q)
    (fun _ _ _ q => nos q)
    kRI_ok (Or.inr rfl) (by decide +kernel) (by decide +kernel) hf
theorem kqX11_value_1 : okC mX11_value 1 (.invokevirtual 161) 181 196 0 0 = true := by decide +kernel
def fX11_value_1 (v0 : Nat) (v1 : Int32) (v2 : Int32) (s0 : Nat) (h : aH) : Option (Int32 × aH) :=
  (isO h 11 s0).bind fun _ =>
  (gX11_anew s0 h).bind fun r =>
  fX11_value_4 v0 v1 v2 r
theorem tX11_value_1 {d : Nat} {z : Int32 × aH} (v0 : Nat) (v1 : Int32) (v2 : Int32) (s0 : Nat) (h : aH) (hf : fX11_value_1 v0 v1 v2 s0 h = some z) : Ev (d + 2) none mX11_value (0, 0) 1 [.ref v0, .int v1, .int v2, .null, .null] [.ref s0] h (QI z) := by
  obtain ⟨_, h1, hf⟩ := bnd hf
  obtain ⟨fs, ho⟩ := isO_ok h1
  obtain ⟨r, h2, hf⟩ := bnd hf
  refine ev_V kqX11_value_1 jX11_anew (zX11_anew (d := d + 1) h2) ho rfl rfl (Nat.le_of_ble_eq_true rfl) rfl (as := []) (rest := []) rfl (Nat.le_of_ble_eq_true rfl) (fun _ _ hq => ?_)
  obtain ⟨rfl, hh⟩ := hq
  rw [hh]
  exact jm [2, 1, 1, 0, 0] (fun v0 v1 v2 => fX11_value_4 v0 v1 v2 r) (fun v0 v1 v2 q => tX11_value_4 v0 v1 v2 r q) hf
def wX11_value_0 : List En := [(.aload_n 0, 0, 0, 0)]
def fX11_value_0 (v0 : Nat) (v1 : Int32) (v2 : Int32) (h : aH) : Option (Int32 × aH) :=
  fX11_value_1 v0 v1 v2 v0 h
theorem tX11_value_0 {d : Nat} {z : Int32 × aH} (v0 : Nat) (v1 : Int32) (v2 : Int32) (h : aH) (hf : fX11_value_0 v0 v1 v2 h = some z) : Ev (d + 2) none mX11_value (0, 0) 0 [.ref v0, .int v1, .int v2, .null, .null] [] h (QI z) := 
  go_ok (X := none) (blk := wX11_value_0) (np := 1) (tt := 0) (kN := fun xs h st => app [2, 1, 1, 0, 0] (fun v0 v1 v2 => apS [2] (fun s0 => fX11_value_1 v0 v1 v2 s0 h) st) xs) (kT := fun _ _ _ => none) (kR := kRI)
    (fun xs h st q => jm [2, 1, 1, 0, 0] _ (fun v0 v1 v2 q => apS_ok [2] _ (fun st => Ev (d + 2) none mX11_value (0, 0) 1 [.ref v0, .int v1, .int v2, .null, .null] st h (QI z)) st (fun s0 q => tX11_value_1 v0 v1 v2 s0 h q) q) q)
    (fun _ _ _ q => nos q)
    kRI_ok (Or.inr rfl) (by decide +kernel) (by decide +kernel) hf
def gX11_value (v0 : Nat) (v1 : Int32) (v2 : Int32) (h : aH) : Option (Int32 × aH) := fX11_value_0 v0 v1 v2 h
theorem zX11_value {d : Nat} {z : Int32 × aH} {v0 : Nat} {v1 : Int32} {v2 : Int32} {h : aH} (q : gX11_value v0 v1 v2 h = some z) : CT (d + 2) mX11_value (0, 0) [.ref v0, .int v1, .int v2] h (QI z) :=
  ct_ev (by decide +kernel) (Nat.le_of_ble_eq_true rfl) QI_r (jm [2, 1, 1, 0, 0] (fun v0 v1 v2 => fX11_value_0 v0 v1 v2 h) (fun v0 v1 v2 q => tX11_value_0 v0 v1 v2 h q) q)
def wX11_isNot_0 : List En := [(.aload_n 0, 0, 0, 0), (.iload_n 1, 0, 0, 0), (.putfield 56, 186, 11, 11), (.iconst 0, 0, 0, 0), (.ireturn, 0, 0, 0)]
def fX11_isNot_0 (v0 : Nat) (v1 : Int32) (h : aH) : Option (Int32 × aH) :=
  (pWV h 11 v0 11 (.int v1)).bind fun h1 =>
  if (kI 0) = 0 ∨ (kI 0) = 1 then some ((kI 0), h1) else none
theorem tX11_isNot_0 {d : Nat} {z : Int32 × aH} (v0 : Nat) (v1 : Int32) (h : aH) (hf : fX11_isNot_0 v0 v1 h = some z) : Ev (d + 0) none mX11_isNot (0, 0) 0 [.ref v0, .int v1] [] h (QZ z) := 
  go_ok (X := none) (blk := wX11_isNot_0) (np := 7) (tt := 0) (kN := fun _ _ _ => none) (kT := fun _ _ _ => none) (kR := kRZ)
    (fun _ _ _ q => nos q)
    (fun _ _ _ q => nos q)
    kRZ_ok (Or.inr rfl) (by decide +kernel) (by decide +kernel) hf
def gX11_isNot (v0 : Nat) (v1 : Int32) (h : aH) : Option (Int32 × aH) := fX11_isNot_0 v0 v1 h
theorem zX11_isNot {d : Nat} {z : Int32 × aH} {v0 : Nat} {v1 : Int32} {h : aH} (q : gX11_isNot v0 v1 h = some z) : CT (d + 0) mX11_isNot (0, 0) [.ref v0, .int v1] h (QZ z) :=
  ct_ev (by decide +kernel) (Nat.le_of_ble_eq_true rfl) QZ_r (jm [2, 1] (fun v0 v1 => fX11_isNot_0 v0 v1 h) (fun v0 v1 q => tX11_isNot_0 v0 v1 h q) q)
def wX11_undo_49 : List En := [(.iconst 1, 0, 0, 0), (.ireturn, 0, 0, 0)]
def fX11_undo_49 (h : aH) : Option (Int32 × aH) :=
  if (kI 1) = 0 ∨ (kI 1) = 1 then some ((kI 1), h) else none
theorem tX11_undo_49 {d : Nat} {z : Int32 × aH} (h : aH) (hf : fX11_undo_49 h = some z) : Ev (d + 1) none mX11_undo (0, 0) 49 [.null] [] h (QZ z) := 
  go_ok (X := none) (blk := wX11_undo_49) (np := 51) (tt := 0) (kN := fun _ _ _ => none) (kT := fun _ _ _ => none) (kR := kRZ)
    (fun _ _ _ q => nos q)
    (fun _ _ _ q => nos q)
    kRZ_ok (Or.inr rfl) (by decide +kernel) (by decide +kernel) hf
theorem kqX11_undo_46 : okC mX11_undo 46 (.invokestatic 170) 210 227 1 5 = true := by decide +kernel
def fX11_undo_46 (s0 : Int32) (s1 : Int32) (s2 : Nat) (s3 : Int32) (s4 : Nat) (h : aH) : Option (Int32 × aH) :=
  (gX11_copy s4 s3 s2 s1 s0 h).bind fun r =>
  fX11_undo_49 r
theorem tX11_undo_46 {d : Nat} {z : Int32 × aH} (s0 : Int32) (s1 : Int32) (s2 : Nat) (s3 : Int32) (s4 : Nat) (h : aH) (hf : fX11_undo_46 s0 s1 s2 s3 s4 h = some z) : Ev (d + 1) none mX11_undo (0, 0) 46 [.null] [.int s0, .int s1, .ref s2, .int s3, .ref s4] h (QZ z) := by
  obtain ⟨r, h2, hf⟩ := bnd hf
  refine ev_S kqX11_undo_46 jX11_copy (zX11_copy (d := d + 0) h2) rfl (Nat.le_of_ble_eq_true rfl) rfl (as := [.ref s4, .int s3, .ref s2, .int s1, .int s0]) (rest := []) rfl (Nat.le_of_ble_eq_true rfl) (fun _ _ hq => ?_)
  obtain ⟨rfl, hh⟩ := hq
  rw [hh]
  exact jm [0] (fX11_undo_49 r) (fun q => tX11_undo_49 r q) hf
def wX11_undo_18 : List En := [(.aload_n 0, 0, 0, 0), (.dup, 0, 0, 0), (.getfield 177, 198, 11, 23), (.iconst 1, 0, 0, 0), (.isub, 0, 0, 0), (.putfield 177, 198, 11, 23), (.aload_n 0, 0, 0, 0), (.getfield 38, 196, 11, 21), (.bipush 22, 0, 0, 0), (.aload_n 0, 0, 0, 0), (.getfield 177, 198, 11, 23), (.imul, 0, 0, 0), (.aload_n 0, 0, 0, 0), (.getfield 32, 194, 11, 19), (.iconst 0, 0, 0, 0), (.bipush 22, 0, 0, 0)]
def fX11_undo_18 (v0 : Nat) (h : aH) : Option (Int32 × aH) :=
  (gFI h 11 v0 23).bind fun t1 =>
  (pWV h 11 v0 23 (.int (t1 - (kI 1)))).bind fun h2 =>
  (gFR h2 11 v0 21).bind fun t3 =>
  (gFI h2 11 v0 23).bind fun t4 =>
  (gFR h2 11 v0 19).bind fun t5 =>
  fX11_undo_46 (kB 22) (kI 0) t5 ((kB 22) * t4) t3 h2
theorem tX11_undo_18 {d : Nat} {z : Int32 × aH} (v0 : Nat) (h : aH) (hf : fX11_undo_18 v0 h = some z) : Ev (d + 1) none mX11_undo (0, 0) 18 [.ref v0] [] h (QZ z) := 
  go_ok (X := none) (blk := wX11_undo_18) (np := 46) (tt := 0) (kN := fun xs h st => app [0] (apS [1, 1, 2, 1, 2] (fun s0 s1 s2 s3 s4 => fX11_undo_46 s0 s1 s2 s3 s4 h) st) xs) (kT := fun _ _ _ => none) (kR := kRZ)
    (fun xs h st q => jm [0] _ (fun q => apS_ok [1, 1, 2, 1, 2] _ (fun st => Ev (d + 1) none mX11_undo (0, 0) 46 [.null] st h (QZ z)) st (fun s0 s1 s2 s3 s4 q => tX11_undo_46 s0 s1 s2 s3 s4 h q) q) q)
    (fun _ _ _ q => nos q)
    kRZ_ok (Or.inr rfl) (by decide +kernel) (by decide +kernel) hf
def wX11_undo_17 : List En := [(.ireturn, 0, 0, 0)]
def fX11_undo_17 (s0 : Int32) (h : aH) : Option (Int32 × aH) :=
  if s0 = 0 ∨ s0 = 1 then some (s0, h) else none
theorem tX11_undo_17 {d : Nat} {z : Int32 × aH} (s0 : Int32) (h : aH) (hf : fX11_undo_17 s0 h = some z) : Ev (d + 1) none mX11_undo (0, 0) 17 [.null] [.int s0] h (QZ z) := 
  go_ok (X := none) (blk := wX11_undo_17) (np := 18) (tt := 0) (kN := fun _ _ _ => none) (kT := fun _ _ _ => none) (kR := kRZ)
    (fun _ _ _ q => nos q)
    (fun _ _ _ q => nos q)
    kRZ_ok (Or.inr rfl) (by decide +kernel) (by decide +kernel) hf
theorem kqX11_undo_14 : okC mX11_undo 14 (.invokevirtual 410) 297 314 0 1 = true := by decide +kernel
def fX11_undo_14 (s0 : Int32) (s1 : Nat) (h : aH) : Option (Int32 × aH) :=
  (isO h 11 s1).bind fun _ =>
  (gX11_isNot s1 s0 h).bind fun r =>
  fX11_undo_17 r.1 r.2
theorem tX11_undo_14 {d : Nat} {z : Int32 × aH} (s0 : Int32) (s1 : Nat) (h : aH) (hf : fX11_undo_14 s0 s1 h = some z) : Ev (d + 1) none mX11_undo (0, 0) 14 [.null] [.int s0, .ref s1] h (QZ z) := by
  obtain ⟨_, h1, hf⟩ := bnd hf
  obtain ⟨fs, ho⟩ := isO_ok h1
  obtain ⟨r, h2, hf⟩ := bnd hf
  refine ev_V kqX11_undo_14 jX11_isNot (zX11_isNot (d := d + 0) h2) ho rfl rfl (Nat.le_of_ble_eq_true rfl) rfl (as := [.int s0]) (rest := []) rfl (Nat.le_of_ble_eq_true rfl) (fun _ _ hq => ?_)
  obtain ⟨-, rfl, rfl⟩ := hq
  exact jm [0] (fX11_undo_17 r.1 r.2) (fun q => tX11_undo_17 r.1 r.2 q) hf
def wX11_undo_11 : List En := [(.aload_n 0, 0, 0, 0), (.bipush 6, 0, 0, 0)]
def fX11_undo_11 (v0 : Nat) (h : aH) : Option (Int32 × aH) :=
  fX11_undo_14 (kB 6) v0 h
theorem tX11_undo_11 {d : Nat} {z : Int32 × aH} (v0 : Nat) (h : aH) (hf : fX11_undo_11 v0 h = some z) : Ev (d + 1) none mX11_undo (0, 0) 11 [.ref v0] [] h (QZ z) := 
  go_ok (X := none) (blk := wX11_undo_11) (np := 14) (tt := 0) (kN := fun xs h st => app [0] (apS [1, 2] (fun s0 s1 => fX11_undo_14 s0 s1 h) st) xs) (kT := fun _ _ _ => none) (kR := kRZ)
    (fun xs h st q => jm [0] _ (fun q => apS_ok [1, 2] _ (fun st => Ev (d + 1) none mX11_undo (0, 0) 14 [.null] st h (QZ z)) st (fun s0 s1 q => tX11_undo_14 s0 s1 h q) q) q)
    (fun _ _ _ q => nos q)
    kRZ_ok (Or.inr rfl) (by decide +kernel) (by decide +kernel) hf
def wX11_undo_4 : List En := [(.aload_n 0, 0, 0, 0), (.getfield 177, 198, 11, 23), (.ifCond .ne 10, 18, 0, 0)]
def fX11_undo_4 (v0 : Nat) (h : aH) : Option (Int32 × aH) :=
  (gFI h 11 v0 23).bind fun t1 =>
  if t1 = 0 then fX11_undo_11 v0 h else fX11_undo_18 v0 h
theorem tX11_undo_4 {d : Nat} {z : Int32 × aH} (v0 : Nat) (h : aH) (hf : fX11_undo_4 v0 h = some z) : Ev (d + 1) none mX11_undo (0, 0) 4 [.ref v0] [] h (QZ z) := 
  go_ok (X := none) (blk := wX11_undo_4) (np := 11) (tt := 18) (kN := fun xs h st => app [2] (fun v0 => apS [] (fX11_undo_11 v0 h) st) xs) (kT := fun xs h st => app [2] (fun v0 => apS [] (fX11_undo_18 v0 h) st) xs) (kR := kRZ)
    (fun xs h st q => jm [2] _ (fun v0 q => apS_ok [] _ (fun st => Ev (d + 1) none mX11_undo (0, 0) 11 [.ref v0] st h (QZ z)) st (fun q => tX11_undo_11 v0 h q) q) q)
    (fun xs h st q => jm [2] _ (fun v0 q => apS_ok [] _ (fun st => Ev (d + 1) none mX11_undo (0, 0) 18 [.ref v0] st h (QZ z)) st (fun q => tX11_undo_18 v0 h q) q) q)
    kRZ_ok (Or.inr rfl) (by decide +kernel) (by decide +kernel) hf
theorem kqX11_undo_1 : okC mX11_undo 1 (.invokevirtual 161) 181 196 0 0 = true := by decide +kernel
def fX11_undo_1 (v0 : Nat) (s0 : Nat) (h : aH) : Option (Int32 × aH) :=
  (isO h 11 s0).bind fun _ =>
  (gX11_anew s0 h).bind fun r =>
  fX11_undo_4 v0 r
theorem tX11_undo_1 {d : Nat} {z : Int32 × aH} (v0 : Nat) (s0 : Nat) (h : aH) (hf : fX11_undo_1 v0 s0 h = some z) : Ev (d + 1) none mX11_undo (0, 0) 1 [.ref v0] [.ref s0] h (QZ z) := by
  obtain ⟨_, h1, hf⟩ := bnd hf
  obtain ⟨fs, ho⟩ := isO_ok h1
  obtain ⟨r, h2, hf⟩ := bnd hf
  refine ev_V kqX11_undo_1 jX11_anew (zX11_anew (d := d + 0) h2) ho rfl rfl (Nat.le_of_ble_eq_true rfl) rfl (as := []) (rest := []) rfl (Nat.le_of_ble_eq_true rfl) (fun _ _ hq => ?_)
  obtain ⟨rfl, hh⟩ := hq
  rw [hh]
  exact jm [2] (fun v0 => fX11_undo_4 v0 r) (fun v0 q => tX11_undo_4 v0 r q) hf
def wX11_undo_0 : List En := [(.aload_n 0, 0, 0, 0)]
def fX11_undo_0 (v0 : Nat) (h : aH) : Option (Int32 × aH) :=
  fX11_undo_1 v0 v0 h
theorem tX11_undo_0 {d : Nat} {z : Int32 × aH} (v0 : Nat) (h : aH) (hf : fX11_undo_0 v0 h = some z) : Ev (d + 1) none mX11_undo (0, 0) 0 [.ref v0] [] h (QZ z) := 
  go_ok (X := none) (blk := wX11_undo_0) (np := 1) (tt := 0) (kN := fun xs h st => app [2] (fun v0 => apS [2] (fun s0 => fX11_undo_1 v0 s0 h) st) xs) (kT := fun _ _ _ => none) (kR := kRZ)
    (fun xs h st q => jm [2] _ (fun v0 q => apS_ok [2] _ (fun st => Ev (d + 1) none mX11_undo (0, 0) 1 [.ref v0] st h (QZ z)) st (fun s0 q => tX11_undo_1 v0 s0 h q) q) q)
    (fun _ _ _ q => nos q)
    kRZ_ok (Or.inr rfl) (by decide +kernel) (by decide +kernel) hf
def gX11_undo (v0 : Nat) (h : aH) : Option (Int32 × aH) := fX11_undo_0 v0 h
theorem zX11_undo {d : Nat} {z : Int32 × aH} {v0 : Nat} {h : aH} (q : gX11_undo v0 h = some z) : CT (d + 1) mX11_undo (0, 0) [.ref v0] h (QZ z) :=
  ct_ev (by decide +kernel) (Nat.le_of_ble_eq_true rfl) QZ_r (jm [2] (fun v0 => fX11_undo_0 v0 h) (fun v0 q => tX11_undo_0 v0 h q) q)
def wX11_image_52 : List En := [(.aload_n 0, 0, 0, 0), (.dup, 0, 0, 0), (.getfield 180, 199, 11, 24), (.iconst 1, 0, 0, 0), (.iadd, 0, 0, 0), (.putfield 180, 199, 11, 24), (.aload_n 0, 0, 0, 0), (.getfield 180, 199, 11, 24), (.iconst 1, 0, 0, 0), (.isub, 0, 0, 0), (.ireturn, 0, 0, 0)]
def fX11_image_52 (v0 : Nat) (h : aH) : Option (Int32 × aH) :=
  (gFI h 11 v0 24).bind fun t1 =>
  (pWV h 11 v0 24 (.int (t1 + (kI 1)))).bind fun h2 =>
  (gFI h2 11 v0 24).bind fun t3 =>
  some ((t3 - (kI 1)), h2)
theorem tX11_image_52 {d : Nat} {z : Int32 × aH} (v0 : Nat) (h : aH) (hf : fX11_image_52 v0 h = some z) : Ev (d + 1) none mX11_image (0, 0) 52 [.ref v0] [] h (QI z) := 
  go_ok (X := none) (blk := wX11_image_52) (np := 69) (tt := 0) (kN := fun _ _ _ => none) (kT := fun _ _ _ => none) (kR := kRI)
    (fun _ _ _ q => nos q)
    (fun _ _ _ q => nos q)
    kRI_ok (Or.inr rfl) (by decide +kernel) (by decide +kernel) hf
theorem kqX11_image_49 : okC mX11_image 49 (.invokestatic 170) 210 227 1 5 = true := by decide +kernel
def fX11_image_49 (v0 : Nat) (s0 : Int32) (s1 : Int32) (s2 : Nat) (s3 : Int32) (s4 : Nat) (h : aH) : Option (Int32 × aH) :=
  (gX11_copy s4 s3 s2 s1 s0 h).bind fun r =>
  fX11_image_52 v0 r
theorem tX11_image_49 {d : Nat} {z : Int32 × aH} (v0 : Nat) (s0 : Int32) (s1 : Int32) (s2 : Nat) (s3 : Int32) (s4 : Nat) (h : aH) (hf : fX11_image_49 v0 s0 s1 s2 s3 s4 h = some z) : Ev (d + 1) none mX11_image (0, 0) 49 [.ref v0] [.int s0, .int s1, .ref s2, .int s3, .ref s4] h (QI z) := by
  obtain ⟨r, h2, hf⟩ := bnd hf
  refine ev_S kqX11_image_49 jX11_copy (zX11_copy (d := d + 0) h2) rfl (Nat.le_of_ble_eq_true rfl) rfl (as := [.ref s4, .int s3, .ref s2, .int s1, .int s0]) (rest := []) rfl (Nat.le_of_ble_eq_true rfl) (fun _ _ hq => ?_)
  obtain ⟨rfl, hh⟩ := hq
  rw [hh]
  exact jm [2] (fun v0 => fX11_image_52 v0 r) (fun v0 q => tX11_image_52 v0 r q) hf
def wX11_image_31 : List En := [(.aload_n 0, 0, 0, 0), (.getfield 32, 194, 11, 19), (.iconst 0, 0, 0, 0), (.aload_n 0, 0, 0, 0), (.getfield 41, 197, 11, 22), (.bipush 22, 0, 0, 0), (.aload_n 0, 0, 0, 0), (.getfield 180, 199, 11, 24), (.imul, 0, 0, 0), (.bipush 22, 0, 0, 0)]
def fX11_image_31 (v0 : Nat) (h : aH) : Option (Int32 × aH) :=
  (gFR h 11 v0 19).bind fun t1 =>
  (gFR h 11 v0 22).bind fun t2 =>
  (gFI h 11 v0 24).bind fun t3 =>
  fX11_image_49 v0 (kB 22) ((kB 22) * t3) t2 (kI 0) t1 h
theorem tX11_image_31 {d : Nat} {z : Int32 × aH} (v0 : Nat) (h : aH) (hf : fX11_image_31 v0 h = some z) : Ev (d + 1) none mX11_image (0, 0) 31 [.ref v0] [] h (QI z) := 
  go_ok (X := none) (blk := wX11_image_31) (np := 49) (tt := 0) (kN := fun xs h st => app [2] (fun v0 => apS [1, 1, 2, 1, 2] (fun s0 s1 s2 s3 s4 => fX11_image_49 v0 s0 s1 s2 s3 s4 h) st) xs) (kT := fun _ _ _ => none) (kR := kRI)
    (fun xs h st q => jm [2] _ (fun v0 q => apS_ok [1, 1, 2, 1, 2] _ (fun st => Ev (d + 1) none mX11_image (0, 0) 49 [.ref v0] st h (QI z)) st (fun s0 s1 s2 s3 s4 q => tX11_image_49 v0 s0 s1 s2 s3 s4 h q) q) q)
    (fun _ _ _ q => nos q)
    kRI_ok (Or.inr rfl) (by decide +kernel) (by decide +kernel) hf
def wX11_image_30 : List En := [(.ireturn, 0, 0, 0)]
def fX11_image_30 (s0 : Int32) (h : aH) : Option (Int32 × aH) :=
  some (s0, h)
theorem tX11_image_30 {d : Nat} {z : Int32 × aH} (s0 : Int32) (h : aH) (hf : fX11_image_30 s0 h = some z) : Ev (d + 1) none mX11_image (0, 0) 30 [.null] [.int s0] h (QI z) := 
  go_ok (X := none) (blk := wX11_image_30) (np := 31) (tt := 0) (kN := fun _ _ _ => none) (kT := fun _ _ _ => none) (kR := kRI)
    (fun _ _ _ q => nos q)
    (fun _ _ _ q => nos q)
    kRI_ok (Or.inr rfl) (by decide +kernel) (by decide +kernel) hf
theorem kqX11_image_27 : okC mX11_image 27 (.invokevirtual 164) 183 198 0 1 = true := by decide +kernel
def fX11_image_27 (s0 : Int32) (s1 : Nat) (h : aH) : Option (Int32 × aH) :=
  (isO h 11 s1).bind fun _ =>
  (gX11_no s1 s0 h).bind fun r =>
  fX11_image_30 r.1 r.2
theorem tX11_image_27 {d : Nat} {z : Int32 × aH} (s0 : Int32) (s1 : Nat) (h : aH) (hf : fX11_image_27 s0 s1 h = some z) : Ev (d + 1) none mX11_image (0, 0) 27 [.null] [.int s0, .ref s1] h (QI z) := by
  obtain ⟨_, h1, hf⟩ := bnd hf
  obtain ⟨fs, ho⟩ := isO_ok h1
  obtain ⟨r, h2, hf⟩ := bnd hf
  refine ev_V kqX11_image_27 jX11_no (zX11_no (d := d + 0) h2) ho rfl rfl (Nat.le_of_ble_eq_true rfl) rfl (as := [.int s0]) (rest := []) rfl (Nat.le_of_ble_eq_true rfl) (fun _ _ hq => ?_)
  obtain ⟨rfl, rfl⟩ := hq
  exact jm [0] (fX11_image_30 r.1 r.2) (fun q => tX11_image_30 r.1 r.2 q) hf
def wX11_image_25 : List En := [(.aload_n 0, 0, 0, 0), (.iconst 3, 0, 0, 0)]
def fX11_image_25 (v0 : Nat) (h : aH) : Option (Int32 × aH) :=
  fX11_image_27 (kI 3) v0 h
theorem tX11_image_25 {d : Nat} {z : Int32 × aH} (v0 : Nat) (h : aH) (hf : fX11_image_25 v0 h = some z) : Ev (d + 1) none mX11_image (0, 0) 25 [.ref v0] [] h (QI z) := 
  go_ok (X := none) (blk := wX11_image_25) (np := 27) (tt := 0) (kN := fun xs h st => app [0] (apS [1, 2] (fun s0 s1 => fX11_image_27 s0 s1 h) st) xs) (kT := fun _ _ _ => none) (kR := kRI)
    (fun xs h st q => jm [0] _ (fun q => apS_ok [1, 2] _ (fun st => Ev (d + 1) none mX11_image (0, 0) 27 [.null] st h (QI z)) st (fun s0 s1 q => tX11_image_27 s0 s1 h q) q) q)
    (fun _ _ _ q => nos q)
    kRI_ok (Or.inr rfl) (by decide +kernel) (by decide +kernel) hf
def wX11_image_17 : List En := [(.aload_n 0, 0, 0, 0), (.getfield 180, 199, 11, 24), (.iconst 3, 0, 0, 0), (.if_icmp .ne 9, 31, 0, 0)]
def fX11_image_17 (v0 : Nat) (h : aH) : Option (Int32 × aH) :=
  (gFI h 11 v0 24).bind fun t1 =>
  if t1 = (kI 3) then fX11_image_25 v0 h else fX11_image_31 v0 h
theorem tX11_image_17 {d : Nat} {z : Int32 × aH} (v0 : Nat) (h : aH) (hf : fX11_image_17 v0 h = some z) : Ev (d + 1) none mX11_image (0, 0) 17 [.ref v0] [] h (QI z) := 
  go_ok (X := none) (blk := wX11_image_17) (np := 25) (tt := 31) (kN := fun xs h st => app [2] (fun v0 => apS [] (fX11_image_25 v0 h) st) xs) (kT := fun xs h st => app [2] (fun v0 => apS [] (fX11_image_31 v0 h) st) xs) (kR := kRI)
    (fun xs h st q => jm [2] _ (fun v0 q => apS_ok [] _ (fun st => Ev (d + 1) none mX11_image (0, 0) 25 [.ref v0] st h (QI z)) st (fun q => tX11_image_25 v0 h q) q) q)
    (fun xs h st q => jm [2] _ (fun v0 q => apS_ok [] _ (fun st => Ev (d + 1) none mX11_image (0, 0) 31 [.ref v0] st h (QI z)) st (fun q => tX11_image_31 v0 h q) q) q)
    kRI_ok (Or.inr rfl) (by decide +kernel) (by decide +kernel) hf
def wX11_image_16 : List En := [(.ireturn, 0, 0, 0)]
def fX11_image_16 (s0 : Int32) (h : aH) : Option (Int32 × aH) :=
  some (s0, h)
theorem tX11_image_16 {d : Nat} {z : Int32 × aH} (s0 : Int32) (h : aH) (hf : fX11_image_16 s0 h = some z) : Ev (d + 1) none mX11_image (0, 0) 16 [.null] [.int s0] h (QI z) := 
  go_ok (X := none) (blk := wX11_image_16) (np := 17) (tt := 0) (kN := fun _ _ _ => none) (kT := fun _ _ _ => none) (kR := kRI)
    (fun _ _ _ q => nos q)
    (fun _ _ _ q => nos q)
    kRI_ok (Or.inr rfl) (by decide +kernel) (by decide +kernel) hf
theorem kqX11_image_13 : okC mX11_image 13 (.invokevirtual 164) 183 198 0 1 = true := by decide +kernel
def fX11_image_13 (s0 : Int32) (s1 : Nat) (h : aH) : Option (Int32 × aH) :=
  (isO h 11 s1).bind fun _ =>
  (gX11_no s1 s0 h).bind fun r =>
  fX11_image_16 r.1 r.2
theorem tX11_image_13 {d : Nat} {z : Int32 × aH} (s0 : Int32) (s1 : Nat) (h : aH) (hf : fX11_image_13 s0 s1 h = some z) : Ev (d + 1) none mX11_image (0, 0) 13 [.null] [.int s0, .ref s1] h (QI z) := by
  obtain ⟨_, h1, hf⟩ := bnd hf
  obtain ⟨fs, ho⟩ := isO_ok h1
  obtain ⟨r, h2, hf⟩ := bnd hf
  refine ev_V kqX11_image_13 jX11_no (zX11_no (d := d + 0) h2) ho rfl rfl (Nat.le_of_ble_eq_true rfl) rfl (as := [.int s0]) (rest := []) rfl (Nat.le_of_ble_eq_true rfl) (fun _ _ hq => ?_)
  obtain ⟨rfl, rfl⟩ := hq
  exact jm [0] (fX11_image_16 r.1 r.2) (fun q => tX11_image_16 r.1 r.2 q) hf
def wX11_image_11 : List En := [(.aload_n 0, 0, 0, 0), (.iconst 1, 0, 0, 0)]
def fX11_image_11 (v0 : Nat) (h : aH) : Option (Int32 × aH) :=
  fX11_image_13 (kI 1) v0 h
theorem tX11_image_11 {d : Nat} {z : Int32 × aH} (v0 : Nat) (h : aH) (hf : fX11_image_11 v0 h = some z) : Ev (d + 1) none mX11_image (0, 0) 11 [.ref v0] [] h (QI z) := 
  go_ok (X := none) (blk := wX11_image_11) (np := 13) (tt := 0) (kN := fun xs h st => app [0] (apS [1, 2] (fun s0 s1 => fX11_image_13 s0 s1 h) st) xs) (kT := fun _ _ _ => none) (kR := kRI)
    (fun xs h st q => jm [0] _ (fun q => apS_ok [1, 2] _ (fun st => Ev (d + 1) none mX11_image (0, 0) 13 [.null] st h (QI z)) st (fun s0 s1 q => tX11_image_13 s0 s1 h q) q) q)
    (fun _ _ _ q => nos q)
    kRI_ok (Or.inr rfl) (by decide +kernel) (by decide +kernel) hf
def wX11_image_4 : List En := [(.aload_n 0, 0, 0, 0), (.getfield 174, 189, 11, 14), (.ifCond .ne 9, 17, 0, 0)]
def fX11_image_4 (v0 : Nat) (h : aH) : Option (Int32 × aH) :=
  (gFI h 11 v0 14).bind fun t1 =>
  if t1 = 0 then fX11_image_11 v0 h else fX11_image_17 v0 h
theorem tX11_image_4 {d : Nat} {z : Int32 × aH} (v0 : Nat) (h : aH) (hf : fX11_image_4 v0 h = some z) : Ev (d + 1) none mX11_image (0, 0) 4 [.ref v0] [] h (QI z) := 
  go_ok (X := none) (blk := wX11_image_4) (np := 11) (tt := 17) (kN := fun xs h st => app [2] (fun v0 => apS [] (fX11_image_11 v0 h) st) xs) (kT := fun xs h st => app [2] (fun v0 => apS [] (fX11_image_17 v0 h) st) xs) (kR := kRI)
    (fun xs h st q => jm [2] _ (fun v0 q => apS_ok [] _ (fun st => Ev (d + 1) none mX11_image (0, 0) 11 [.ref v0] st h (QI z)) st (fun q => tX11_image_11 v0 h q) q) q)
    (fun xs h st q => jm [2] _ (fun v0 q => apS_ok [] _ (fun st => Ev (d + 1) none mX11_image (0, 0) 17 [.ref v0] st h (QI z)) st (fun q => tX11_image_17 v0 h q) q) q)
    kRI_ok (Or.inr rfl) (by decide +kernel) (by decide +kernel) hf
theorem kqX11_image_1 : okC mX11_image 1 (.invokevirtual 161) 181 196 0 0 = true := by decide +kernel
def fX11_image_1 (v0 : Nat) (s0 : Nat) (h : aH) : Option (Int32 × aH) :=
  (isO h 11 s0).bind fun _ =>
  (gX11_anew s0 h).bind fun r =>
  fX11_image_4 v0 r
theorem tX11_image_1 {d : Nat} {z : Int32 × aH} (v0 : Nat) (s0 : Nat) (h : aH) (hf : fX11_image_1 v0 s0 h = some z) : Ev (d + 1) none mX11_image (0, 0) 1 [.ref v0] [.ref s0] h (QI z) := by
  obtain ⟨_, h1, hf⟩ := bnd hf
  obtain ⟨fs, ho⟩ := isO_ok h1
  obtain ⟨r, h2, hf⟩ := bnd hf
  refine ev_V kqX11_image_1 jX11_anew (zX11_anew (d := d + 0) h2) ho rfl rfl (Nat.le_of_ble_eq_true rfl) rfl (as := []) (rest := []) rfl (Nat.le_of_ble_eq_true rfl) (fun _ _ hq => ?_)
  obtain ⟨rfl, hh⟩ := hq
  rw [hh]
  exact jm [2] (fun v0 => fX11_image_4 v0 r) (fun v0 q => tX11_image_4 v0 r q) hf
def wX11_image_0 : List En := [(.aload_n 0, 0, 0, 0)]
def fX11_image_0 (v0 : Nat) (h : aH) : Option (Int32 × aH) :=
  fX11_image_1 v0 v0 h
theorem tX11_image_0 {d : Nat} {z : Int32 × aH} (v0 : Nat) (h : aH) (hf : fX11_image_0 v0 h = some z) : Ev (d + 1) none mX11_image (0, 0) 0 [.ref v0] [] h (QI z) := 
  go_ok (X := none) (blk := wX11_image_0) (np := 1) (tt := 0) (kN := fun xs h st => app [2] (fun v0 => apS [2] (fun s0 => fX11_image_1 v0 s0 h) st) xs) (kT := fun _ _ _ => none) (kR := kRI)
    (fun xs h st q => jm [2] _ (fun v0 q => apS_ok [2] _ (fun st => Ev (d + 1) none mX11_image (0, 0) 1 [.ref v0] st h (QI z)) st (fun s0 q => tX11_image_1 v0 s0 h q) q) q)
    (fun _ _ _ q => nos q)
    kRI_ok (Or.inr rfl) (by decide +kernel) (by decide +kernel) hf
def gX11_image (v0 : Nat) (h : aH) : Option (Int32 × aH) := fX11_image_0 v0 h
theorem zX11_image {d : Nat} {z : Int32 × aH} {v0 : Nat} {h : aH} (q : gX11_image v0 h = some z) : CT (d + 1) mX11_image (0, 0) [.ref v0] h (QI z) :=
  ct_ev (by decide +kernel) (Nat.le_of_ble_eq_true rfl) QI_r (jm [2] (fun v0 => fX11_image_0 v0 h) (fun v0 q => tX11_image_0 v0 h q) q)
def wX11_back_42 : List En := [(.aload_n 0, 0, 0, 0), (.iconst 0, 0, 0, 0), (.putfield 177, 198, 11, 23), (.iconst 1, 0, 0, 0), (.ireturn, 0, 0, 0)]
def fX11_back_42 (v0 : Nat) (h : aH) : Option (Int32 × aH) :=
  (pWV h 11 v0 23 (.int (kI 0))).bind fun h1 =>
  if (kI 1) = 0 ∨ (kI 1) = 1 then some ((kI 1), h1) else none
theorem tX11_back_42 {d : Nat} {z : Int32 × aH} (v0 : Nat) (h : aH) (hf : fX11_back_42 v0 h = some z) : Ev (d + 1) none mX11_back (0, 0) 42 [.ref v0, .null] [] h (QZ z) := 
  go_ok (X := none) (blk := wX11_back_42) (np := 49) (tt := 0) (kN := fun _ _ _ => none) (kT := fun _ _ _ => none) (kR := kRZ)
    (fun _ _ _ q => nos q)
    (fun _ _ _ q => nos q)
    kRZ_ok (Or.inr rfl) (by decide +kernel) (by decide +kernel) hf
theorem kqX11_back_39 : okC mX11_back 39 (.invokestatic 170) 210 227 1 5 = true := by decide +kernel
def fX11_back_39 (v0 : Nat) (s0 : Int32) (s1 : Int32) (s2 : Nat) (s3 : Int32) (s4 : Nat) (h : aH) : Option (Int32 × aH) :=
  (gX11_copy s4 s3 s2 s1 s0 h).bind fun r =>
  fX11_back_42 v0 r
theorem tX11_back_39 {d : Nat} {z : Int32 × aH} (v0 : Nat) (s0 : Int32) (s1 : Int32) (s2 : Nat) (s3 : Int32) (s4 : Nat) (h : aH) (hf : fX11_back_39 v0 s0 s1 s2 s3 s4 h = some z) : Ev (d + 1) none mX11_back (0, 0) 39 [.ref v0, .null] [.int s0, .int s1, .ref s2, .int s3, .ref s4] h (QZ z) := by
  obtain ⟨r, h2, hf⟩ := bnd hf
  refine ev_S kqX11_back_39 jX11_copy (zX11_copy (d := d + 0) h2) rfl (Nat.le_of_ble_eq_true rfl) rfl (as := [.ref s4, .int s3, .ref s2, .int s1, .int s0]) (rest := []) rfl (Nat.le_of_ble_eq_true rfl) (fun _ _ hq => ?_)
  obtain ⟨rfl, hh⟩ := hq
  rw [hh]
  exact jm [2, 0] (fun v0 => fX11_back_42 v0 r) (fun v0 q => tX11_back_42 v0 r q) hf
def wX11_back_24 : List En := [(.aload_n 0, 0, 0, 0), (.getfield 41, 197, 11, 22), (.bipush 22, 0, 0, 0), (.iload_n 1, 0, 0, 0), (.imul, 0, 0, 0), (.aload_n 0, 0, 0, 0), (.getfield 32, 194, 11, 19), (.iconst 0, 0, 0, 0), (.bipush 22, 0, 0, 0)]
def fX11_back_24 (v0 : Nat) (v1 : Int32) (h : aH) : Option (Int32 × aH) :=
  (gFR h 11 v0 22).bind fun t1 =>
  (gFR h 11 v0 19).bind fun t2 =>
  fX11_back_39 v0 (kB 22) (kI 0) t2 ((kB 22) * v1) t1 h
theorem tX11_back_24 {d : Nat} {z : Int32 × aH} (v0 : Nat) (v1 : Int32) (h : aH) (hf : fX11_back_24 v0 v1 h = some z) : Ev (d + 1) none mX11_back (0, 0) 24 [.ref v0, .int v1] [] h (QZ z) := 
  go_ok (X := none) (blk := wX11_back_24) (np := 39) (tt := 0) (kN := fun xs h st => app [2, 0] (fun v0 => apS [1, 1, 2, 1, 2] (fun s0 s1 s2 s3 s4 => fX11_back_39 v0 s0 s1 s2 s3 s4 h) st) xs) (kT := fun _ _ _ => none) (kR := kRZ)
    (fun xs h st q => jm [2, 0] _ (fun v0 q => apS_ok [1, 1, 2, 1, 2] _ (fun st => Ev (d + 1) none mX11_back (0, 0) 39 [.ref v0, .null] st h (QZ z)) st (fun s0 s1 s2 s3 s4 q => tX11_back_39 v0 s0 s1 s2 s3 s4 h q) q) q)
    (fun _ _ _ q => nos q)
    kRZ_ok (Or.inr rfl) (by decide +kernel) (by decide +kernel) hf
def wX11_back_23 : List En := [(.ireturn, 0, 0, 0)]
def fX11_back_23 (s0 : Int32) (h : aH) : Option (Int32 × aH) :=
  if s0 = 0 ∨ s0 = 1 then some (s0, h) else none
theorem tX11_back_23 {d : Nat} {z : Int32 × aH} (s0 : Int32) (h : aH) (hf : fX11_back_23 s0 h = some z) : Ev (d + 1) none mX11_back (0, 0) 23 [.null, .null] [.int s0] h (QZ z) := 
  go_ok (X := none) (blk := wX11_back_23) (np := 24) (tt := 0) (kN := fun _ _ _ => none) (kT := fun _ _ _ => none) (kR := kRZ)
    (fun _ _ _ q => nos q)
    (fun _ _ _ q => nos q)
    kRZ_ok (Or.inr rfl) (by decide +kernel) (by decide +kernel) hf
theorem kqX11_back_20 : okC mX11_back 20 (.invokevirtual 410) 297 314 0 1 = true := by decide +kernel
def fX11_back_20 (s0 : Int32) (s1 : Nat) (h : aH) : Option (Int32 × aH) :=
  (isO h 11 s1).bind fun _ =>
  (gX11_isNot s1 s0 h).bind fun r =>
  fX11_back_23 r.1 r.2
theorem tX11_back_20 {d : Nat} {z : Int32 × aH} (s0 : Int32) (s1 : Nat) (h : aH) (hf : fX11_back_20 s0 s1 h = some z) : Ev (d + 1) none mX11_back (0, 0) 20 [.null, .null] [.int s0, .ref s1] h (QZ z) := by
  obtain ⟨_, h1, hf⟩ := bnd hf
  obtain ⟨fs, ho⟩ := isO_ok h1
  obtain ⟨r, h2, hf⟩ := bnd hf
  refine ev_V kqX11_back_20 jX11_isNot (zX11_isNot (d := d + 0) h2) ho rfl rfl (Nat.le_of_ble_eq_true rfl) rfl (as := [.int s0]) (rest := []) rfl (Nat.le_of_ble_eq_true rfl) (fun _ _ hq => ?_)
  obtain ⟨-, rfl, rfl⟩ := hq
  exact jm [0, 0] (fX11_back_23 r.1 r.2) (fun q => tX11_back_23 r.1 r.2 q) hf
def wX11_back_18 : List En := [(.aload_n 0, 0, 0, 0), (.iconst 1, 0, 0, 0)]
def fX11_back_18 (v0 : Nat) (h : aH) : Option (Int32 × aH) :=
  fX11_back_20 (kI 1) v0 h
theorem tX11_back_18 {d : Nat} {z : Int32 × aH} (v0 : Nat) (h : aH) (hf : fX11_back_18 v0 h = some z) : Ev (d + 1) none mX11_back (0, 0) 18 [.ref v0, .null] [] h (QZ z) := 
  go_ok (X := none) (blk := wX11_back_18) (np := 20) (tt := 0) (kN := fun xs h st => app [0, 0] (apS [1, 2] (fun s0 s1 => fX11_back_20 s0 s1 h) st) xs) (kT := fun _ _ _ => none) (kR := kRZ)
    (fun xs h st q => jm [0, 0] _ (fun q => apS_ok [1, 2] _ (fun st => Ev (d + 1) none mX11_back (0, 0) 20 [.null, .null] st h (QZ z)) st (fun s0 s1 q => tX11_back_20 s0 s1 h q) q) q)
    (fun _ _ _ q => nos q)
    kRZ_ok (Or.inr rfl) (by decide +kernel) (by decide +kernel) hf
def wX11_back_15 : List En := [(.ifCond .ne 9, 24, 0, 0)]
def fX11_back_15 (v0 : Nat) (v1 : Int32) (s0 : Int32) (h : aH) : Option (Int32 × aH) :=
  if s0 = 0 then fX11_back_18 v0 h else fX11_back_24 v0 v1 h
theorem tX11_back_15 {d : Nat} {z : Int32 × aH} (v0 : Nat) (v1 : Int32) (s0 : Int32) (h : aH) (hf : fX11_back_15 v0 v1 s0 h = some z) : Ev (d + 1) none mX11_back (0, 0) 15 [.ref v0, .int v1] [.int s0] h (QZ z) := 
  go_ok (X := none) (blk := wX11_back_15) (np := 18) (tt := 24) (kN := fun xs h st => app [2, 0] (fun v0 => apS [] (fX11_back_18 v0 h) st) xs) (kT := fun xs h st => app [2, 1] (fun v0 v1 => apS [] (fX11_back_24 v0 v1 h) st) xs) (kR := kRZ)
    (fun xs h st q => jm [2, 0] _ (fun v0 q => apS_ok [] _ (fun st => Ev (d + 1) none mX11_back (0, 0) 18 [.ref v0, .null] st h (QZ z)) st (fun q => tX11_back_18 v0 h q) q) q)
    (fun xs h st q => jm [2, 1] _ (fun v0 v1 q => apS_ok [] _ (fun st => Ev (d + 1) none mX11_back (0, 0) 24 [.ref v0, .int v1] st h (QZ z)) st (fun q => tX11_back_24 v0 v1 h q) q) q)
    kRZ_ok (Or.inr rfl) (by decide +kernel) (by decide +kernel) hf
theorem kqX11_back_12 : okC mX11_back 12 (.invokestatic 140) 182 197 1 3 = true := by decide +kernel
def fX11_back_12 (v0 : Nat) (v1 : Int32) (s0 : Int32) (s1 : Int32) (s2 : Int32) (h : aH) : Option (Int32 × aH) :=
  (gX11_in s2 s1 s0 h).bind fun r =>
  fX11_back_15 v0 v1 r.1 r.2
theorem tX11_back_12 {d : Nat} {z : Int32 × aH} (v0 : Nat) (v1 : Int32) (s0 : Int32) (s1 : Int32) (s2 : Int32) (h : aH) (hf : fX11_back_12 v0 v1 s0 s1 s2 h = some z) : Ev (d + 1) none mX11_back (0, 0) 12 [.ref v0, .int v1] [.int s0, .int s1, .int s2] h (QZ z) := by
  obtain ⟨r, h2, hf⟩ := bnd hf
  refine ev_S kqX11_back_12 jX11_in (zX11_in (d := d + 0) h2) rfl (Nat.le_of_ble_eq_true rfl) rfl (as := [.int s2, .int s1, .int s0]) (rest := []) rfl (Nat.le_of_ble_eq_true rfl) (fun _ _ hq => ?_)
  obtain ⟨-, rfl, rfl⟩ := hq
  exact jm [2, 1] (fun v0 v1 => fX11_back_15 v0 v1 r.1 r.2) (fun v0 v1 q => tX11_back_15 v0 v1 r.1 r.2 q) hf
def wX11_back_4 : List En := [(.iload_n 1, 0, 0, 0), (.iconst 0, 0, 0, 0), (.aload_n 0, 0, 0, 0), (.getfield 180, 199, 11, 24), (.iconst 1, 0, 0, 0), (.isub, 0, 0, 0)]
def fX11_back_4 (v0 : Nat) (v1 : Int32) (h : aH) : Option (Int32 × aH) :=
  (gFI h 11 v0 24).bind fun t1 =>
  fX11_back_12 v0 v1 (t1 - (kI 1)) (kI 0) v1 h
theorem tX11_back_4 {d : Nat} {z : Int32 × aH} (v0 : Nat) (v1 : Int32) (h : aH) (hf : fX11_back_4 v0 v1 h = some z) : Ev (d + 1) none mX11_back (0, 0) 4 [.ref v0, .int v1] [] h (QZ z) := 
  go_ok (X := none) (blk := wX11_back_4) (np := 12) (tt := 0) (kN := fun xs h st => app [2, 1] (fun v0 v1 => apS [1, 1, 1] (fun s0 s1 s2 => fX11_back_12 v0 v1 s0 s1 s2 h) st) xs) (kT := fun _ _ _ => none) (kR := kRZ)
    (fun xs h st q => jm [2, 1] _ (fun v0 v1 q => apS_ok [1, 1, 1] _ (fun st => Ev (d + 1) none mX11_back (0, 0) 12 [.ref v0, .int v1] st h (QZ z)) st (fun s0 s1 s2 q => tX11_back_12 v0 v1 s0 s1 s2 h q) q) q)
    (fun _ _ _ q => nos q)
    kRZ_ok (Or.inr rfl) (by decide +kernel) (by decide +kernel) hf
theorem kqX11_back_1 : okC mX11_back 1 (.invokevirtual 161) 181 196 0 0 = true := by decide +kernel
def fX11_back_1 (v0 : Nat) (v1 : Int32) (s0 : Nat) (h : aH) : Option (Int32 × aH) :=
  (isO h 11 s0).bind fun _ =>
  (gX11_anew s0 h).bind fun r =>
  fX11_back_4 v0 v1 r
theorem tX11_back_1 {d : Nat} {z : Int32 × aH} (v0 : Nat) (v1 : Int32) (s0 : Nat) (h : aH) (hf : fX11_back_1 v0 v1 s0 h = some z) : Ev (d + 1) none mX11_back (0, 0) 1 [.ref v0, .int v1] [.ref s0] h (QZ z) := by
  obtain ⟨_, h1, hf⟩ := bnd hf
  obtain ⟨fs, ho⟩ := isO_ok h1
  obtain ⟨r, h2, hf⟩ := bnd hf
  refine ev_V kqX11_back_1 jX11_anew (zX11_anew (d := d + 0) h2) ho rfl rfl (Nat.le_of_ble_eq_true rfl) rfl (as := []) (rest := []) rfl (Nat.le_of_ble_eq_true rfl) (fun _ _ hq => ?_)
  obtain ⟨rfl, hh⟩ := hq
  rw [hh]
  exact jm [2, 1] (fun v0 v1 => fX11_back_4 v0 v1 r) (fun v0 v1 q => tX11_back_4 v0 v1 r q) hf
def wX11_back_0 : List En := [(.aload_n 0, 0, 0, 0)]
def fX11_back_0 (v0 : Nat) (v1 : Int32) (h : aH) : Option (Int32 × aH) :=
  fX11_back_1 v0 v1 v0 h
theorem tX11_back_0 {d : Nat} {z : Int32 × aH} (v0 : Nat) (v1 : Int32) (h : aH) (hf : fX11_back_0 v0 v1 h = some z) : Ev (d + 1) none mX11_back (0, 0) 0 [.ref v0, .int v1] [] h (QZ z) := 
  go_ok (X := none) (blk := wX11_back_0) (np := 1) (tt := 0) (kN := fun xs h st => app [2, 1] (fun v0 v1 => apS [2] (fun s0 => fX11_back_1 v0 v1 s0 h) st) xs) (kT := fun _ _ _ => none) (kR := kRZ)
    (fun xs h st q => jm [2, 1] _ (fun v0 v1 q => apS_ok [2] _ (fun st => Ev (d + 1) none mX11_back (0, 0) 1 [.ref v0, .int v1] st h (QZ z)) st (fun s0 q => tX11_back_1 v0 v1 s0 h q) q) q)
    (fun _ _ _ q => nos q)
    kRZ_ok (Or.inr rfl) (by decide +kernel) (by decide +kernel) hf
def gX11_back (v0 : Nat) (v1 : Int32) (h : aH) : Option (Int32 × aH) := fX11_back_0 v0 v1 h
theorem zX11_back {d : Nat} {z : Int32 × aH} {v0 : Nat} {v1 : Int32} {h : aH} (q : gX11_back v0 v1 h = some z) : CT (d + 1) mX11_back (0, 0) [.ref v0, .int v1] h (QZ z) :=
  ct_ev (by decide +kernel) (Nat.le_of_ble_eq_true rfl) QZ_r (jm [2, 1] (fun v0 v1 => fX11_back_0 v0 v1 h) (fun v0 v1 q => tX11_back_0 v0 v1 h q) q)
def wX11_led_57 : List En := [(.aload_n 0, 0, 0, 0), (.iconst 1, 0, 0, 0), (.putfield 53, 175, 11, 0), (.iconst 0, 0, 0, 0), (.ireturn, 0, 0, 0)]
def fX11_led_57 (v0 : Nat) (h : aH) : Option (Int32 × aH) :=
  (pWV h 11 v0 0 (.int (kI 1))).bind fun h1 =>
  some ((kI 0), h1)
theorem tX11_led_57 {d : Nat} {z : Int32 × aH} (v0 : Nat) (h : aH) (hf : fX11_led_57 v0 h = some z) : Ev (d + 2) none mX11_led (0, 0) 57 [.ref v0, .null, .null, .null] [] h (QI z) := 
  go_ok (X := none) (blk := wX11_led_57) (np := 64) (tt := 0) (kN := fun _ _ _ => none) (kT := fun _ _ _ => none) (kR := kRI)
    (fun _ _ _ q => nos q)
    (fun _ _ _ q => nos q)
    kRI_ok (Or.inr rfl) (by decide +kernel) (by decide +kernel) hf
def wX11_led_51 : List En := [(.iinc 3 1, 0, 0, 0), (.goto (-50), 4, 0, 0)]
def fX11_led_51 (k4 : Nat → Int32 → Int32 → Int32 → aH → Option (Int32 × aH)) (v0 : Nat) (v1 : Int32) (v2 : Int32) (v3 : Int32) (h : aH) : Option (Int32 × aH) :=
  k4 v0 v1 v2 (v3 + kI 1) h
theorem tX11_led_51 {d : Nat} {z : Int32 × aH} {k4 : Nat → Int32 → Int32 → Int32 → aH → Option (Int32 × aH)} (hk4 : ∀ (v0 : Nat) (v1 : Int32) (v2 : Int32) (v3 : Int32) (h : aH), k4 v0 v1 v2 v3 h = some z → Ev (d + 2) none mX11_led (0, 0) 4 [.ref v0, .int v1, .int v2, .int v3] [] h (QI z)) (v0 : Nat) (v1 : Int32) (v2 : Int32) (v3 : Int32) (h : aH) (hf : fX11_led_51 k4 v0 v1 v2 v3 h = some z) : Ev (d + 2) none mX11_led (0, 0) 51 [.ref v0, .int v1, .int v2, .int v3] [] h (QI z) := 
  go_ok (X := none) (blk := wX11_led_51) (np := 57) (tt := 4) (kN := fun _ _ _ => none) (kT := fun xs h st => app [2, 1, 1, 1] (fun v0 v1 v2 v3 => apS [] (k4 v0 v1 v2 v3 h) st) xs) (kR := kRI)
    (fun _ _ _ q => nos q)
    (fun xs h st q => jm [2, 1, 1, 1] _ (fun v0 v1 v2 v3 q => apS_ok [] _ (fun st => Ev (d + 2) none mX11_led (0, 0) 4 [.ref v0, .int v1, .int v2, .int v3] st h (QI z)) st (fun q => hk4 v0 v1 v2 v3 h q) q) q)
    kRI_ok (Or.inr rfl) (by decide +kernel) (by decide +kernel) hf
def wX11_led_48 : List En := [(.iinc 2 1, 0, 0, 0)]
def fX11_led_48 (k4 : Nat → Int32 → Int32 → Int32 → aH → Option (Int32 × aH)) (v0 : Nat) (v1 : Int32) (v2 : Int32) (v3 : Int32) (h : aH) : Option (Int32 × aH) :=
  fX11_led_51 k4 v0 v1 (v2 + kI 1) v3 h
theorem tX11_led_48 {d : Nat} {z : Int32 × aH} {k4 : Nat → Int32 → Int32 → Int32 → aH → Option (Int32 × aH)} (hk4 : ∀ (v0 : Nat) (v1 : Int32) (v2 : Int32) (v3 : Int32) (h : aH), k4 v0 v1 v2 v3 h = some z → Ev (d + 2) none mX11_led (0, 0) 4 [.ref v0, .int v1, .int v2, .int v3] [] h (QI z)) (v0 : Nat) (v1 : Int32) (v2 : Int32) (v3 : Int32) (h : aH) (hf : fX11_led_48 k4 v0 v1 v2 v3 h = some z) : Ev (d + 2) none mX11_led (0, 0) 48 [.ref v0, .int v1, .int v2, .int v3] [] h (QI z) := 
  go_ok (X := none) (blk := wX11_led_48) (np := 51) (tt := 0) (kN := fun xs h st => app [2, 1, 1, 1] (fun v0 v1 v2 v3 => apS [] (fX11_led_51 k4 v0 v1 v2 v3 h) st) xs) (kT := fun _ _ _ => none) (kR := kRI)
    (fun xs h st q => jm [2, 1, 1, 1] _ (fun v0 v1 v2 v3 q => apS_ok [] _ (fun st => Ev (d + 2) none mX11_led (0, 0) 51 [.ref v0, .int v1, .int v2, .int v3] st h (QI z)) st (fun q => tX11_led_51 hk4 v0 v1 v2 v3 h q) q) q)
    (fun _ _ _ q => nos q)
    kRI_ok (Or.inr rfl) (by decide +kernel) (by decide +kernel) hf
def wX11_led_41 : List En := [(.aload_n 0, 0, 0, 0), (.iconst 0, 0, 0, 0), (.putfield 53, 175, 11, 0), (.iload_n 3, 0, 0, 0), (.ireturn, 0, 0, 0)]
def fX11_led_41 (v0 : Nat) (v3 : Int32) (h : aH) : Option (Int32 × aH) :=
  (pWV h 11 v0 0 (.int (kI 0))).bind fun h1 =>
  some (v3, h1)
theorem tX11_led_41 {d : Nat} {z : Int32 × aH} (v0 : Nat) (v3 : Int32) (h : aH) (hf : fX11_led_41 v0 v3 h = some z) : Ev (d + 2) none mX11_led (0, 0) 41 [.ref v0, .null, .null, .int v3] [] h (QI z) := 
  go_ok (X := none) (blk := wX11_led_41) (np := 48) (tt := 0) (kN := fun _ _ _ => none) (kT := fun _ _ _ => none) (kR := kRI)
    (fun _ _ _ q => nos q)
    (fun _ _ _ q => nos q)
    kRI_ok (Or.inr rfl) (by decide +kernel) (by decide +kernel) hf
def wX11_led_36 : List En := [(.iload_n 2, 0, 0, 0), (.iload_n 1, 0, 0, 0), (.if_icmp .ne 10, 48, 0, 0)]
def fX11_led_36 (k4 : Nat → Int32 → Int32 → Int32 → aH → Option (Int32 × aH)) (v0 : Nat) (v1 : Int32) (v2 : Int32) (v3 : Int32) (h : aH) : Option (Int32 × aH) :=
  if v2 = v1 then fX11_led_41 v0 v3 h else fX11_led_48 k4 v0 v1 v2 v3 h
theorem tX11_led_36 {d : Nat} {z : Int32 × aH} {k4 : Nat → Int32 → Int32 → Int32 → aH → Option (Int32 × aH)} (hk4 : ∀ (v0 : Nat) (v1 : Int32) (v2 : Int32) (v3 : Int32) (h : aH), k4 v0 v1 v2 v3 h = some z → Ev (d + 2) none mX11_led (0, 0) 4 [.ref v0, .int v1, .int v2, .int v3] [] h (QI z)) (v0 : Nat) (v1 : Int32) (v2 : Int32) (v3 : Int32) (h : aH) (hf : fX11_led_36 k4 v0 v1 v2 v3 h = some z) : Ev (d + 2) none mX11_led (0, 0) 36 [.ref v0, .int v1, .int v2, .int v3] [] h (QI z) := 
  go_ok (X := none) (blk := wX11_led_36) (np := 41) (tt := 48) (kN := fun xs h st => app [2, 0, 0, 1] (fun v0 v3 => apS [] (fX11_led_41 v0 v3 h) st) xs) (kT := fun xs h st => app [2, 1, 1, 1] (fun v0 v1 v2 v3 => apS [] (fX11_led_48 k4 v0 v1 v2 v3 h) st) xs) (kR := kRI)
    (fun xs h st q => jm [2, 0, 0, 1] _ (fun v0 v3 q => apS_ok [] _ (fun st => Ev (d + 2) none mX11_led (0, 0) 41 [.ref v0, .null, .null, .int v3] st h (QI z)) st (fun q => tX11_led_41 v0 v3 h q) q) q)
    (fun xs h st q => jm [2, 1, 1, 1] _ (fun v0 v1 v2 v3 q => apS_ok [] _ (fun st => Ev (d + 2) none mX11_led (0, 0) 48 [.ref v0, .int v1, .int v2, .int v3] st h (QI z)) st (fun q => tX11_led_48 hk4 v0 v1 v2 v3 h q) q) q)
    kRI_ok (Or.inr rfl) (by decide +kernel) (by decide +kernel) hf
def wX11_led_33 : List En := [(.goto 18, 51, 0, 0)]
def fX11_led_33 (k4 : Nat → Int32 → Int32 → Int32 → aH → Option (Int32 × aH)) (v0 : Nat) (v1 : Int32) (v2 : Int32) (v3 : Int32) (h : aH) : Option (Int32 × aH) :=
  fX11_led_51 k4 v0 v1 v2 v3 h
theorem tX11_led_33 {d : Nat} {z : Int32 × aH} {k4 : Nat → Int32 → Int32 → Int32 → aH → Option (Int32 × aH)} (hk4 : ∀ (v0 : Nat) (v1 : Int32) (v2 : Int32) (v3 : Int32) (h : aH), k4 v0 v1 v2 v3 h = some z → Ev (d + 2) none mX11_led (0, 0) 4 [.ref v0, .int v1, .int v2, .int v3] [] h (QI z)) (v0 : Nat) (v1 : Int32) (v2 : Int32) (v3 : Int32) (h : aH) (hf : fX11_led_33 k4 v0 v1 v2 v3 h = some z) : Ev (d + 2) none mX11_led (0, 0) 33 [.ref v0, .int v1, .int v2, .int v3] [] h (QI z) := 
  go_ok (X := none) (blk := wX11_led_33) (np := 36) (tt := 51) (kN := fun _ _ _ => none) (kT := fun xs h st => app [2, 1, 1, 1] (fun v0 v1 v2 v3 => apS [] (fX11_led_51 k4 v0 v1 v2 v3 h) st) xs) (kR := kRI)
    (fun _ _ _ q => nos q)
    (fun xs h st q => jm [2, 1, 1, 1] _ (fun v0 v1 v2 v3 q => apS_ok [] _ (fun st => Ev (d + 2) none mX11_led (0, 0) 51 [.ref v0, .int v1, .int v2, .int v3] st h (QI z)) st (fun q => tX11_led_51 hk4 v0 v1 v2 v3 h q) q) q)
    kRI_ok (Or.inr rfl) (by decide +kernel) (by decide +kernel) hf
def wX11_led_30 : List En := [(.ifCond .eq 6, 36, 0, 0)]
def fX11_led_30 (k4 : Nat → Int32 → Int32 → Int32 → aH → Option (Int32 × aH)) (v0 : Nat) (v1 : Int32) (v2 : Int32) (v3 : Int32) (s0 : Int32) (h : aH) : Option (Int32 × aH) :=
  if s0 = 0 then fX11_led_36 k4 v0 v1 v2 v3 h else fX11_led_33 k4 v0 v1 v2 v3 h
theorem tX11_led_30 {d : Nat} {z : Int32 × aH} {k4 : Nat → Int32 → Int32 → Int32 → aH → Option (Int32 × aH)} (hk4 : ∀ (v0 : Nat) (v1 : Int32) (v2 : Int32) (v3 : Int32) (h : aH), k4 v0 v1 v2 v3 h = some z → Ev (d + 2) none mX11_led (0, 0) 4 [.ref v0, .int v1, .int v2, .int v3] [] h (QI z)) (v0 : Nat) (v1 : Int32) (v2 : Int32) (v3 : Int32) (s0 : Int32) (h : aH) (hf : fX11_led_30 k4 v0 v1 v2 v3 s0 h = some z) : Ev (d + 2) none mX11_led (0, 0) 30 [.ref v0, .int v1, .int v2, .int v3] [.int s0] h (QI z) := 
  go_ok (X := none) (blk := wX11_led_30) (np := 33) (tt := 36) (kN := fun xs h st => app [2, 1, 1, 1] (fun v0 v1 v2 v3 => apS [] (fX11_led_33 k4 v0 v1 v2 v3 h) st) xs) (kT := fun xs h st => app [2, 1, 1, 1] (fun v0 v1 v2 v3 => apS [] (fX11_led_36 k4 v0 v1 v2 v3 h) st) xs) (kR := kRI)
    (fun xs h st q => jm [2, 1, 1, 1] _ (fun v0 v1 v2 v3 q => apS_ok [] _ (fun st => Ev (d + 2) none mX11_led (0, 0) 33 [.ref v0, .int v1, .int v2, .int v3] st h (QI z)) st (fun q => tX11_led_33 hk4 v0 v1 v2 v3 h q) q) q)
    (fun xs h st q => jm [2, 1, 1, 1] _ (fun v0 v1 v2 v3 q => apS_ok [] _ (fun st => Ev (d + 2) none mX11_led (0, 0) 36 [.ref v0, .int v1, .int v2, .int v3] st h (QI z)) st (fun q => tX11_led_36 hk4 v0 v1 v2 v3 h q) q) q)
    kRI_ok (Or.inr rfl) (by decide +kernel) (by decide +kernel) hf
theorem kqX11_led_27 : okC mX11_led 27 (.invokevirtual 249) 221 238 0 2 = true := by decide +kernel
def fX11_led_27 (k4 : Nat → Int32 → Int32 → Int32 → aH → Option (Int32 × aH)) (v0 : Nat) (v1 : Int32) (v2 : Int32) (v3 : Int32) (s0 : Int32) (s1 : Nat) (s2 : Nat) (h : aH) : Option (Int32 × aH) :=
  (isO h 11 s2).bind fun _ =>
  (gX11_lives s2 s1 s0 h).bind fun r =>
  fX11_led_30 k4 v0 v1 v2 v3 r.1 r.2
theorem tX11_led_27 {d : Nat} {z : Int32 × aH} {k4 : Nat → Int32 → Int32 → Int32 → aH → Option (Int32 × aH)} (hk4 : ∀ (v0 : Nat) (v1 : Int32) (v2 : Int32) (v3 : Int32) (h : aH), k4 v0 v1 v2 v3 h = some z → Ev (d + 2) none mX11_led (0, 0) 4 [.ref v0, .int v1, .int v2, .int v3] [] h (QI z)) (v0 : Nat) (v1 : Int32) (v2 : Int32) (v3 : Int32) (s0 : Int32) (s1 : Nat) (s2 : Nat) (h : aH) (hf : fX11_led_27 k4 v0 v1 v2 v3 s0 s1 s2 h = some z) : Ev (d + 2) none mX11_led (0, 0) 27 [.ref v0, .int v1, .int v2, .int v3] [.int s0, .ref s1, .ref s2] h (QI z) := by
  obtain ⟨_, h1, hf⟩ := bnd hf
  obtain ⟨fs, ho⟩ := isO_ok h1
  obtain ⟨r, h2, hf⟩ := bnd hf
  refine ev_V kqX11_led_27 jX11_lives (zX11_lives (d := d + 0) h2) ho rfl rfl (Nat.le_of_ble_eq_true rfl) rfl (as := [.ref s1, .int s0]) (rest := []) rfl (Nat.le_of_ble_eq_true rfl) (fun _ _ hq => ?_)
  obtain ⟨-, rfl, rfl⟩ := hq
  exact jm [2, 1, 1, 1] (fun v0 v1 v2 v3 => fX11_led_30 k4 v0 v1 v2 v3 r.1 r.2) (fun v0 v1 v2 v3 q => tX11_led_30 hk4 v0 v1 v2 v3 r.1 r.2 q) hf
def wX11_led_21 : List En := [(.aload_n 0, 0, 0, 0), (.aload_n 0, 0, 0, 0), (.getfield 32, 194, 11, 19), (.iload_n 3, 0, 0, 0)]
def fX11_led_21 (k4 : Nat → Int32 → Int32 → Int32 → aH → Option (Int32 × aH)) (v0 : Nat) (v1 : Int32) (v2 : Int32) (v3 : Int32) (h : aH) : Option (Int32 × aH) :=
  (gFR h 11 v0 19).bind fun t1 =>
  fX11_led_27 k4 v0 v1 v2 v3 v3 t1 v0 h
theorem tX11_led_21 {d : Nat} {z : Int32 × aH} {k4 : Nat → Int32 → Int32 → Int32 → aH → Option (Int32 × aH)} (hk4 : ∀ (v0 : Nat) (v1 : Int32) (v2 : Int32) (v3 : Int32) (h : aH), k4 v0 v1 v2 v3 h = some z → Ev (d + 2) none mX11_led (0, 0) 4 [.ref v0, .int v1, .int v2, .int v3] [] h (QI z)) (v0 : Nat) (v1 : Int32) (v2 : Int32) (v3 : Int32) (h : aH) (hf : fX11_led_21 k4 v0 v1 v2 v3 h = some z) : Ev (d + 2) none mX11_led (0, 0) 21 [.ref v0, .int v1, .int v2, .int v3] [] h (QI z) := 
  go_ok (X := none) (blk := wX11_led_21) (np := 27) (tt := 0) (kN := fun xs h st => app [2, 1, 1, 1] (fun v0 v1 v2 v3 => apS [1, 2, 2] (fun s0 s1 s2 => fX11_led_27 k4 v0 v1 v2 v3 s0 s1 s2 h) st) xs) (kT := fun _ _ _ => none) (kR := kRI)
    (fun xs h st q => jm [2, 1, 1, 1] _ (fun v0 v1 v2 v3 q => apS_ok [1, 2, 2] _ (fun st => Ev (d + 2) none mX11_led (0, 0) 27 [.ref v0, .int v1, .int v2, .int v3] st h (QI z)) st (fun s0 s1 s2 q => tX11_led_27 hk4 v0 v1 v2 v3 s0 s1 s2 h q) q) q)
    (fun _ _ _ q => nos q)
    kRI_ok (Or.inr rfl) (by decide +kernel) (by decide +kernel) hf
def wX11_led_11 : List En := [(.iload_n 3, 0, 0, 0), (.aload_n 0, 0, 0, 0), (.getfield 20, 190, 11, 15), (.iconst 3, 0, 0, 0), (.iaload, 0, 0, 0), (.if_icmp .ge 39, 57, 0, 0)]
def fX11_led_11 (k4 : Nat → Int32 → Int32 → Int32 → aH → Option (Int32 × aH)) (v0 : Nat) (v1 : Int32) (v2 : Int32) (v3 : Int32) (h : aH) : Option (Int32 × aH) :=
  (gFR h 11 v0 15).bind fun t1 =>
  (aRI (h[t1]?) (kI 3)).bind fun t2 =>
  if v3 < t2 then fX11_led_21 k4 v0 v1 v2 v3 h else fX11_led_57 v0 h
theorem tX11_led_11 {d : Nat} {z : Int32 × aH} {k4 : Nat → Int32 → Int32 → Int32 → aH → Option (Int32 × aH)} (hk4 : ∀ (v0 : Nat) (v1 : Int32) (v2 : Int32) (v3 : Int32) (h : aH), k4 v0 v1 v2 v3 h = some z → Ev (d + 2) none mX11_led (0, 0) 4 [.ref v0, .int v1, .int v2, .int v3] [] h (QI z)) (v0 : Nat) (v1 : Int32) (v2 : Int32) (v3 : Int32) (h : aH) (hf : fX11_led_11 k4 v0 v1 v2 v3 h = some z) : Ev (d + 2) none mX11_led (0, 0) 11 [.ref v0, .int v1, .int v2, .int v3] [] h (QI z) := 
  go_ok (X := none) (blk := wX11_led_11) (np := 21) (tt := 57) (kN := fun xs h st => app [2, 1, 1, 1] (fun v0 v1 v2 v3 => apS [] (fX11_led_21 k4 v0 v1 v2 v3 h) st) xs) (kT := fun xs h st => app [2, 0, 0, 0] (fun v0 => apS [] (fX11_led_57 v0 h) st) xs) (kR := kRI)
    (fun xs h st q => jm [2, 1, 1, 1] _ (fun v0 v1 v2 v3 q => apS_ok [] _ (fun st => Ev (d + 2) none mX11_led (0, 0) 21 [.ref v0, .int v1, .int v2, .int v3] st h (QI z)) st (fun q => tX11_led_21 hk4 v0 v1 v2 v3 h q) q) q)
    (fun xs h st q => jm [2, 0, 0, 0] _ (fun v0 q => apS_ok [] _ (fun st => Ev (d + 2) none mX11_led (0, 0) 57 [.ref v0, .null, .null, .null] st h (QI z)) st (fun q => tX11_led_57 v0 h q) q) q)
    kRI_ok (Or.inr rfl) (by decide +kernel) (by decide +kernel) hf
def wX11_led_4 : List En := [(.aload_n 0, 0, 0, 0), (.getfield 174, 189, 11, 14), (.ifCond .eq 49, 57, 0, 0)]
def fX11_led_4 (k4 : Nat → Int32 → Int32 → Int32 → aH → Option (Int32 × aH)) (v0 : Nat) (v1 : Int32) (v2 : Int32) (v3 : Int32) (h : aH) : Option (Int32 × aH) :=
  (gFI h 11 v0 14).bind fun t1 =>
  if t1 = 0 then fX11_led_57 v0 h else fX11_led_11 k4 v0 v1 v2 v3 h
theorem tX11_led_4 {d : Nat} {z : Int32 × aH} {k4 : Nat → Int32 → Int32 → Int32 → aH → Option (Int32 × aH)} (hk4 : ∀ (v0 : Nat) (v1 : Int32) (v2 : Int32) (v3 : Int32) (h : aH), k4 v0 v1 v2 v3 h = some z → Ev (d + 2) none mX11_led (0, 0) 4 [.ref v0, .int v1, .int v2, .int v3] [] h (QI z)) (v0 : Nat) (v1 : Int32) (v2 : Int32) (v3 : Int32) (h : aH) (hf : fX11_led_4 k4 v0 v1 v2 v3 h = some z) : Ev (d + 2) none mX11_led (0, 0) 4 [.ref v0, .int v1, .int v2, .int v3] [] h (QI z) := 
  go_ok (X := none) (blk := wX11_led_4) (np := 11) (tt := 57) (kN := fun xs h st => app [2, 1, 1, 1] (fun v0 v1 v2 v3 => apS [] (fX11_led_11 k4 v0 v1 v2 v3 h) st) xs) (kT := fun xs h st => app [2, 0, 0, 0] (fun v0 => apS [] (fX11_led_57 v0 h) st) xs) (kR := kRI)
    (fun xs h st q => jm [2, 1, 1, 1] _ (fun v0 v1 v2 v3 q => apS_ok [] _ (fun st => Ev (d + 2) none mX11_led (0, 0) 11 [.ref v0, .int v1, .int v2, .int v3] st h (QI z)) st (fun q => tX11_led_11 hk4 v0 v1 v2 v3 h q) q) q)
    (fun xs h st q => jm [2, 0, 0, 0] _ (fun v0 q => apS_ok [] _ (fun st => Ev (d + 2) none mX11_led (0, 0) 57 [.ref v0, .null, .null, .null] st h (QI z)) st (fun q => tX11_led_57 v0 h q) q) q)
    kRI_ok (Or.inr rfl) (by decide +kernel) (by decide +kernel) hf
def lX11_led_4 : Nat → Nat → Int32 → Int32 → Int32 → aH → Option (Int32 × aH)
  | 0, _, _, _, _, _ => none
  | n + 1, v0, v1, v2, v3, h => fX11_led_4 (lX11_led_4 n) v0 v1 v2 v3 h
theorem uX11_led_4 {d : Nat} {z : Int32 × aH} : ∀ (n : Nat) (v0 : Nat) (v1 : Int32) (v2 : Int32) (v3 : Int32) (h : aH), lX11_led_4 n v0 v1 v2 v3 h = some z → Ev (d + 2) none mX11_led (0, 0) 4 [.ref v0, .int v1, .int v2, .int v3] [] h (QI z) := by
  intro n
  induction n with
  | zero => intro _ _ _ _ _ q; exact nos (show (none : Option (Int32 × aH)) = some z from q)
  | succ n ih => intro v0 v1 v2 v3 h q; exact tX11_led_4 ih v0 v1 v2 v3 h q
def wX11_led_0 : List En := [(.iconst 0, 0, 0, 0), (.istore_n 2, 0, 0, 0), (.iconst 0, 0, 0, 0), (.istore_n 3, 0, 0, 0)]
def fX11_led_0 (v0 : Nat) (v1 : Int32) (h : aH) : Option (Int32 × aH) :=
  lX11_led_4 FU v0 v1 (kI 0) (kI 0) h
theorem tX11_led_0 {d : Nat} {z : Int32 × aH} (v0 : Nat) (v1 : Int32) (h : aH) (hf : fX11_led_0 v0 v1 h = some z) : Ev (d + 2) none mX11_led (0, 0) 0 [.ref v0, .int v1, .null, .null] [] h (QI z) := 
  go_ok (X := none) (blk := wX11_led_0) (np := 4) (tt := 0) (kN := fun xs h st => app [2, 1, 1, 1] (fun v0 v1 v2 v3 => apS [] (lX11_led_4 FU v0 v1 v2 v3 h) st) xs) (kT := fun _ _ _ => none) (kR := kRI)
    (fun xs h st q => jm [2, 1, 1, 1] _ (fun v0 v1 v2 v3 q => apS_ok [] _ (fun st => Ev (d + 2) none mX11_led (0, 0) 4 [.ref v0, .int v1, .int v2, .int v3] st h (QI z)) st (fun q => uX11_led_4 FU v0 v1 v2 v3 h q) q) q)
    (fun _ _ _ q => nos q)
    kRI_ok (Or.inr rfl) (by decide +kernel) (by decide +kernel) hf
def gX11_led (v0 : Nat) (v1 : Int32) (h : aH) : Option (Int32 × aH) := fX11_led_0 v0 v1 h
theorem zX11_led {d : Nat} {z : Int32 × aH} {v0 : Nat} {v1 : Int32} {h : aH} (q : gX11_led v0 v1 h = some z) : CT (d + 2) mX11_led (0, 0) [.ref v0, .int v1] h (QI z) :=
  ct_ev (by decide +kernel) (Nat.le_of_ble_eq_true rfl) QI_r (jm [2, 1, 0, 0] (fun v0 v1 => fX11_led_0 v0 v1 h) (fun v0 v1 q => tX11_led_0 v0 v1 h q) q)
def wX11_size_99 : List En := [(.ireturn, 0, 0, 0)]
def fX11_size_99 (s0 : Int32) (h : aH) : Option (Int32 × aH) :=
  some (s0, h)
theorem tX11_size_99 {d : Nat} {z : Int32 × aH} (s0 : Int32) (h : aH) (hf : fX11_size_99 s0 h = some z) : Ev (d + 1) none mX11_size (0, 0) 99 [.null, .null] [.int s0] h (QI z) := 
  go_ok (X := none) (blk := wX11_size_99) (np := 100) (tt := 0) (kN := fun _ _ _ => none) (kT := fun _ _ _ => none) (kR := kRI)
    (fun _ _ _ q => nos q)
    (fun _ _ _ q => nos q)
    kRI_ok (Or.inr rfl) (by decide +kernel) (by decide +kernel) hf
def wX11_size_98 : List En := [(.iconst (-1), 0, 0, 0)]
def fX11_size_98 (h : aH) : Option (Int32 × aH) :=
  fX11_size_99 (kI (-1)) h
theorem tX11_size_98 {d : Nat} {z : Int32 × aH} (h : aH) (hf : fX11_size_98 h = some z) : Ev (d + 1) none mX11_size (0, 0) 98 [.null, .null] [] h (QI z) := 
  go_ok (X := none) (blk := wX11_size_98) (np := 99) (tt := 0) (kN := fun xs h st => app [0, 0] (apS [1] (fun s0 => fX11_size_99 s0 h) st) xs) (kT := fun _ _ _ => none) (kR := kRI)
    (fun xs h st q => jm [0, 0] _ (fun q => apS_ok [1] _ (fun st => Ev (d + 1) none mX11_size (0, 0) 99 [.null, .null] st h (QI z)) st (fun s0 q => tX11_size_99 s0 h q) q) q)
    (fun _ _ _ q => nos q)
    kRI_ok (Or.inr rfl) (by decide +kernel) (by decide +kernel) hf
def wX11_size_91 : List En := [(.aload_n 0, 0, 0, 0), (.getfield 180, 199, 11, 24), (.goto 4, 99, 0, 0)]
def fX11_size_91 (v0 : Nat) (h : aH) : Option (Int32 × aH) :=
  (gFI h 11 v0 24).bind fun t1 =>
  fX11_size_99 t1 h
theorem tX11_size_91 {d : Nat} {z : Int32 × aH} (v0 : Nat) (h : aH) (hf : fX11_size_91 v0 h = some z) : Ev (d + 1) none mX11_size (0, 0) 91 [.ref v0, .null] [] h (QI z) := 
  go_ok (X := none) (blk := wX11_size_91) (np := 98) (tt := 99) (kN := fun _ _ _ => none) (kT := fun xs h st => app [0, 0] (apS [1] (fun s0 => fX11_size_99 s0 h) st) xs) (kR := kRI)
    (fun _ _ _ q => nos q)
    (fun xs h st q => jm [0, 0] _ (fun q => apS_ok [1] _ (fun st => Ev (d + 1) none mX11_size (0, 0) 99 [.null, .null] st h (QI z)) st (fun s0 q => tX11_size_99 s0 h q) q) q)
    kRI_ok (Or.inr rfl) (by decide +kernel) (by decide +kernel) hf
def wX11_size_85 : List En := [(.iload_n 1, 0, 0, 0), (.bipush 10, 0, 0, 0), (.if_icmp .ne 10, 98, 0, 0)]
def fX11_size_85 (v0 : Nat) (v1 : Int32) (h : aH) : Option (Int32 × aH) :=
  if v1 = (kB 10) then fX11_size_91 v0 h else fX11_size_98 h
theorem tX11_size_85 {d : Nat} {z : Int32 × aH} (v0 : Nat) (v1 : Int32) (h : aH) (hf : fX11_size_85 v0 v1 h = some z) : Ev (d + 1) none mX11_size (0, 0) 85 [.ref v0, .int v1] [] h (QI z) := 
  go_ok (X := none) (blk := wX11_size_85) (np := 91) (tt := 98) (kN := fun xs h st => app [2, 0] (fun v0 => apS [] (fX11_size_91 v0 h) st) xs) (kT := fun xs h st => app [0, 0] (apS [] (fX11_size_98 h) st) xs) (kR := kRI)
    (fun xs h st q => jm [2, 0] _ (fun v0 q => apS_ok [] _ (fun st => Ev (d + 1) none mX11_size (0, 0) 91 [.ref v0, .null] st h (QI z)) st (fun q => tX11_size_91 v0 h q) q) q)
    (fun xs h st q => jm [0, 0] _ (fun q => apS_ok [] _ (fun st => Ev (d + 1) none mX11_size (0, 0) 98 [.null, .null] st h (QI z)) st (fun q => tX11_size_98 h q) q) q)
    kRI_ok (Or.inr rfl) (by decide +kernel) (by decide +kernel) hf
def wX11_size_78 : List En := [(.aload_n 0, 0, 0, 0), (.getfield 177, 198, 11, 23), (.goto 17, 99, 0, 0)]
def fX11_size_78 (v0 : Nat) (h : aH) : Option (Int32 × aH) :=
  (gFI h 11 v0 23).bind fun t1 =>
  fX11_size_99 t1 h
theorem tX11_size_78 {d : Nat} {z : Int32 × aH} (v0 : Nat) (h : aH) (hf : fX11_size_78 v0 h = some z) : Ev (d + 1) none mX11_size (0, 0) 78 [.ref v0, .null] [] h (QI z) := 
  go_ok (X := none) (blk := wX11_size_78) (np := 85) (tt := 99) (kN := fun _ _ _ => none) (kT := fun xs h st => app [0, 0] (apS [1] (fun s0 => fX11_size_99 s0 h) st) xs) (kR := kRI)
    (fun _ _ _ q => nos q)
    (fun xs h st q => jm [0, 0] _ (fun q => apS_ok [1] _ (fun st => Ev (d + 1) none mX11_size (0, 0) 99 [.null, .null] st h (QI z)) st (fun s0 q => tX11_size_99 s0 h q) q) q)
    kRI_ok (Or.inr rfl) (by decide +kernel) (by decide +kernel) hf
def wX11_size_72 : List En := [(.iload_n 1, 0, 0, 0), (.bipush 9, 0, 0, 0), (.if_icmp .ne 10, 85, 0, 0)]
def fX11_size_72 (v0 : Nat) (v1 : Int32) (h : aH) : Option (Int32 × aH) :=
  if v1 = (kB 9) then fX11_size_78 v0 h else fX11_size_85 v0 v1 h
theorem tX11_size_72 {d : Nat} {z : Int32 × aH} (v0 : Nat) (v1 : Int32) (h : aH) (hf : fX11_size_72 v0 v1 h = some z) : Ev (d + 1) none mX11_size (0, 0) 72 [.ref v0, .int v1] [] h (QI z) := 
  go_ok (X := none) (blk := wX11_size_72) (np := 78) (tt := 85) (kN := fun xs h st => app [2, 0] (fun v0 => apS [] (fX11_size_78 v0 h) st) xs) (kT := fun xs h st => app [2, 1] (fun v0 v1 => apS [] (fX11_size_85 v0 v1 h) st) xs) (kR := kRI)
    (fun xs h st q => jm [2, 0] _ (fun v0 q => apS_ok [] _ (fun st => Ev (d + 1) none mX11_size (0, 0) 78 [.ref v0, .null] st h (QI z)) st (fun q => tX11_size_78 v0 h q) q) q)
    (fun xs h st q => jm [2, 1] _ (fun v0 v1 q => apS_ok [] _ (fun st => Ev (d + 1) none mX11_size (0, 0) 85 [.ref v0, .int v1] st h (QI z)) st (fun q => tX11_size_85 v0 v1 h q) q) q)
    kRI_ok (Or.inr rfl) (by decide +kernel) (by decide +kernel) hf
def wX11_size_62 : List En := [(.aload_n 0, 0, 0, 0), (.getfield 32, 194, 11, 19), (.bipush 13, 0, 0, 0), (.iaload, 0, 0, 0), (.goto 30, 99, 0, 0)]
def fX11_size_62 (v0 : Nat) (h : aH) : Option (Int32 × aH) :=
  (gFR h 11 v0 19).bind fun t1 =>
  (aRI (h[t1]?) (kB 13)).bind fun t2 =>
  fX11_size_99 t2 h
theorem tX11_size_62 {d : Nat} {z : Int32 × aH} (v0 : Nat) (h : aH) (hf : fX11_size_62 v0 h = some z) : Ev (d + 1) none mX11_size (0, 0) 62 [.ref v0, .null] [] h (QI z) := 
  go_ok (X := none) (blk := wX11_size_62) (np := 72) (tt := 99) (kN := fun _ _ _ => none) (kT := fun xs h st => app [0, 0] (apS [1] (fun s0 => fX11_size_99 s0 h) st) xs) (kR := kRI)
    (fun _ _ _ q => nos q)
    (fun xs h st q => jm [0, 0] _ (fun q => apS_ok [1] _ (fun st => Ev (d + 1) none mX11_size (0, 0) 99 [.null, .null] st h (QI z)) st (fun s0 q => tX11_size_99 s0 h q) q) q)
    kRI_ok (Or.inr rfl) (by decide +kernel) (by decide +kernel) hf
def wX11_size_56 : List En := [(.iload_n 1, 0, 0, 0), (.bipush 8, 0, 0, 0), (.if_icmp .ne 13, 72, 0, 0)]
def fX11_size_56 (v0 : Nat) (v1 : Int32) (h : aH) : Option (Int32 × aH) :=
  if v1 = (kB 8) then fX11_size_62 v0 h else fX11_size_72 v0 v1 h
theorem tX11_size_56 {d : Nat} {z : Int32 × aH} (v0 : Nat) (v1 : Int32) (h : aH) (hf : fX11_size_56 v0 v1 h = some z) : Ev (d + 1) none mX11_size (0, 0) 56 [.ref v0, .int v1] [] h (QI z) := 
  go_ok (X := none) (blk := wX11_size_56) (np := 62) (tt := 72) (kN := fun xs h st => app [2, 0] (fun v0 => apS [] (fX11_size_62 v0 h) st) xs) (kT := fun xs h st => app [2, 1] (fun v0 v1 => apS [] (fX11_size_72 v0 v1 h) st) xs) (kR := kRI)
    (fun xs h st q => jm [2, 0] _ (fun v0 q => apS_ok [] _ (fun st => Ev (d + 1) none mX11_size (0, 0) 62 [.ref v0, .null] st h (QI z)) st (fun q => tX11_size_62 v0 h q) q) q)
    (fun xs h st q => jm [2, 1] _ (fun v0 v1 q => apS_ok [] _ (fun st => Ev (d + 1) none mX11_size (0, 0) 72 [.ref v0, .int v1] st h (QI z)) st (fun q => tX11_size_72 v0 v1 h q) q) q)
    kRI_ok (Or.inr rfl) (by decide +kernel) (by decide +kernel) hf
def wX11_size_49 : List En := [(.aload_n 0, 0, 0, 0), (.getfield 20, 190, 11, 15), (.iload_n 1, 0, 0, 0), (.iaload, 0, 0, 0), (.ireturn, 0, 0, 0)]
def fX11_size_49 (v0 : Nat) (v1 : Int32) (h : aH) : Option (Int32 × aH) :=
  (gFR h 11 v0 15).bind fun t1 =>
  (aRI (h[t1]?) v1).bind fun t2 =>
  some (t2, h)
theorem tX11_size_49 {d : Nat} {z : Int32 × aH} (v0 : Nat) (v1 : Int32) (h : aH) (hf : fX11_size_49 v0 v1 h = some z) : Ev (d + 1) none mX11_size (0, 0) 49 [.ref v0, .int v1] [] h (QI z) := 
  go_ok (X := none) (blk := wX11_size_49) (np := 56) (tt := 0) (kN := fun _ _ _ => none) (kT := fun _ _ _ => none) (kR := kRI)
    (fun _ _ _ q => nos q)
    (fun _ _ _ q => nos q)
    kRI_ok (Or.inr rfl) (by decide +kernel) (by decide +kernel) hf
def wX11_size_46 : List En := [(.ifCond .eq 10, 56, 0, 0)]
def fX11_size_46 (v0 : Nat) (v1 : Int32) (s0 : Int32) (h : aH) : Option (Int32 × aH) :=
  if s0 = 0 then fX11_size_56 v0 v1 h else fX11_size_49 v0 v1 h
theorem tX11_size_46 {d : Nat} {z : Int32 × aH} (v0 : Nat) (v1 : Int32) (s0 : Int32) (h : aH) (hf : fX11_size_46 v0 v1 s0 h = some z) : Ev (d + 1) none mX11_size (0, 0) 46 [.ref v0, .int v1] [.int s0] h (QI z) := 
  go_ok (X := none) (blk := wX11_size_46) (np := 49) (tt := 56) (kN := fun xs h st => app [2, 1] (fun v0 v1 => apS [] (fX11_size_49 v0 v1 h) st) xs) (kT := fun xs h st => app [2, 1] (fun v0 v1 => apS [] (fX11_size_56 v0 v1 h) st) xs) (kR := kRI)
    (fun xs h st q => jm [2, 1] _ (fun v0 v1 q => apS_ok [] _ (fun st => Ev (d + 1) none mX11_size (0, 0) 49 [.ref v0, .int v1] st h (QI z)) st (fun q => tX11_size_49 v0 v1 h q) q) q)
    (fun xs h st q => jm [2, 1] _ (fun v0 v1 q => apS_ok [] _ (fun st => Ev (d + 1) none mX11_size (0, 0) 56 [.ref v0, .int v1] st h (QI z)) st (fun q => tX11_size_56 v0 v1 h q) q) q)
    kRI_ok (Or.inr rfl) (by decide +kernel) (by decide +kernel) hf
theorem kqX11_size_43 : okC mX11_size 43 (.invokestatic 140) 182 197 1 3 = true := by decide +kernel
def fX11_size_43 (v0 : Nat) (v1 : Int32) (s0 : Int32) (s1 : Int32) (s2 : Int32) (h : aH) : Option (Int32 × aH) :=
  (gX11_in s2 s1 s0 h).bind fun r =>
  fX11_size_46 v0 v1 r.1 r.2
theorem tX11_size_43 {d : Nat} {z : Int32 × aH} (v0 : Nat) (v1 : Int32) (s0 : Int32) (s1 : Int32) (s2 : Int32) (h : aH) (hf : fX11_size_43 v0 v1 s0 s1 s2 h = some z) : Ev (d + 1) none mX11_size (0, 0) 43 [.ref v0, .int v1] [.int s0, .int s1, .int s2] h (QI z) := by
  obtain ⟨r, h2, hf⟩ := bnd hf
  refine ev_S kqX11_size_43 jX11_in (zX11_in (d := d + 0) h2) rfl (Nat.le_of_ble_eq_true rfl) rfl (as := [.int s2, .int s1, .int s0]) (rest := []) rfl (Nat.le_of_ble_eq_true rfl) (fun _ _ hq => ?_)
  obtain ⟨-, rfl, rfl⟩ := hq
  exact jm [2, 1] (fun v0 v1 => fX11_size_46 v0 v1 r.1 r.2) (fun v0 v1 q => tX11_size_46 v0 v1 r.1 r.2 q) hf
def wX11_size_39 : List En := [(.iload_n 1, 0, 0, 0), (.iconst 0, 0, 0, 0), (.bipush 7, 0, 0, 0)]
def fX11_size_39 (v0 : Nat) (v1 : Int32) (h : aH) : Option (Int32 × aH) :=
  fX11_size_43 v0 v1 (kB 7) (kI 0) v1 h
theorem tX11_size_39 {d : Nat} {z : Int32 × aH} (v0 : Nat) (v1 : Int32) (h : aH) (hf : fX11_size_39 v0 v1 h = some z) : Ev (d + 1) none mX11_size (0, 0) 39 [.ref v0, .int v1] [] h (QI z) := 
  go_ok (X := none) (blk := wX11_size_39) (np := 43) (tt := 0) (kN := fun xs h st => app [2, 1] (fun v0 v1 => apS [1, 1, 1] (fun s0 s1 s2 => fX11_size_43 v0 v1 s0 s1 s2 h) st) xs) (kT := fun _ _ _ => none) (kR := kRI)
    (fun xs h st q => jm [2, 1] _ (fun v0 v1 q => apS_ok [1, 1, 1] _ (fun st => Ev (d + 1) none mX11_size (0, 0) 43 [.ref v0, .int v1] st h (QI z)) st (fun s0 s1 s2 q => tX11_size_43 v0 v1 s0 s1 s2 h q) q) q)
    (fun _ _ _ q => nos q)
    kRI_ok (Or.inr rfl) (by decide +kernel) (by decide +kernel) hf
def wX11_size_38 : List En := [(.ireturn, 0, 0, 0)]
def fX11_size_38 (s0 : Int32) (h : aH) : Option (Int32 × aH) :=
  some (s0, h)
theorem tX11_size_38 {d : Nat} {z : Int32 × aH} (s0 : Int32) (h : aH) (hf : fX11_size_38 s0 h = some z) : Ev (d + 1) none mX11_size (0, 0) 38 [.null, .null] [.int s0] h (QI z) := 
  go_ok (X := none) (blk := wX11_size_38) (np := 39) (tt := 0) (kN := fun _ _ _ => none) (kT := fun _ _ _ => none) (kR := kRI)
    (fun _ _ _ q => nos q)
    (fun _ _ _ q => nos q)
    kRI_ok (Or.inr rfl) (by decide +kernel) (by decide +kernel) hf
def wX11_size_37 : List En := [(.iconst (-1), 0, 0, 0)]
def fX11_size_37 (h : aH) : Option (Int32 × aH) :=
  fX11_size_38 (kI (-1)) h
theorem tX11_size_37 {d : Nat} {z : Int32 × aH} (h : aH) (hf : fX11_size_37 h = some z) : Ev (d + 1) none mX11_size (0, 0) 37 [.null, .null] [] h (QI z) := 
  go_ok (X := none) (blk := wX11_size_37) (np := 38) (tt := 0) (kN := fun xs h st => app [0, 0] (apS [1] (fun s0 => fX11_size_38 s0 h) st) xs) (kT := fun _ _ _ => none) (kR := kRI)
    (fun xs h st q => jm [0, 0] _ (fun q => apS_ok [1] _ (fun st => Ev (d + 1) none mX11_size (0, 0) 38 [.null, .null] st h (QI z)) st (fun s0 q => tX11_size_38 s0 h q) q) q)
    (fun _ _ _ q => nos q)
    kRI_ok (Or.inr rfl) (by decide +kernel) (by decide +kernel) hf
def wX11_size_33 : List En := [(.iconst 0, 0, 0, 0), (.goto 4, 38, 0, 0)]
def fX11_size_33 (h : aH) : Option (Int32 × aH) :=
  fX11_size_38 (kI 0) h
theorem tX11_size_33 {d : Nat} {z : Int32 × aH} (h : aH) (hf : fX11_size_33 h = some z) : Ev (d + 1) none mX11_size (0, 0) 33 [.null, .null] [] h (QI z) := 
  go_ok (X := none) (blk := wX11_size_33) (np := 37) (tt := 38) (kN := fun _ _ _ => none) (kT := fun xs h st => app [0, 0] (apS [1] (fun s0 => fX11_size_38 s0 h) st) xs) (kR := kRI)
    (fun _ _ _ q => nos q)
    (fun xs h st q => jm [0, 0] _ (fun q => apS_ok [1] _ (fun st => Ev (d + 1) none mX11_size (0, 0) 38 [.null, .null] st h (QI z)) st (fun s0 q => tX11_size_38 s0 h q) q) q)
    kRI_ok (Or.inr rfl) (by decide +kernel) (by decide +kernel) hf
def wX11_size_30 : List En := [(.ifCond .eq 7, 37, 0, 0)]
def fX11_size_30 (s0 : Int32) (h : aH) : Option (Int32 × aH) :=
  if s0 = 0 then fX11_size_37 h else fX11_size_33 h
theorem tX11_size_30 {d : Nat} {z : Int32 × aH} (s0 : Int32) (h : aH) (hf : fX11_size_30 s0 h = some z) : Ev (d + 1) none mX11_size (0, 0) 30 [.null, .null] [.int s0] h (QI z) := 
  go_ok (X := none) (blk := wX11_size_30) (np := 33) (tt := 37) (kN := fun xs h st => app [0, 0] (apS [] (fX11_size_33 h) st) xs) (kT := fun xs h st => app [0, 0] (apS [] (fX11_size_37 h) st) xs) (kR := kRI)
    (fun xs h st q => jm [0, 0] _ (fun q => apS_ok [] _ (fun st => Ev (d + 1) none mX11_size (0, 0) 33 [.null, .null] st h (QI z)) st (fun q => tX11_size_33 h q) q) q)
    (fun xs h st q => jm [0, 0] _ (fun q => apS_ok [] _ (fun st => Ev (d + 1) none mX11_size (0, 0) 37 [.null, .null] st h (QI z)) st (fun q => tX11_size_37 h q) q) q)
    kRI_ok (Or.inr rfl) (by decide +kernel) (by decide +kernel) hf
theorem kqX11_size_27 : okC mX11_size 27 (.invokestatic 140) 182 197 1 3 = true := by decide +kernel
def fX11_size_27 (s0 : Int32) (s1 : Int32) (s2 : Int32) (h : aH) : Option (Int32 × aH) :=
  (gX11_in s2 s1 s0 h).bind fun r =>
  fX11_size_30 r.1 r.2
theorem tX11_size_27 {d : Nat} {z : Int32 × aH} (s0 : Int32) (s1 : Int32) (s2 : Int32) (h : aH) (hf : fX11_size_27 s0 s1 s2 h = some z) : Ev (d + 1) none mX11_size (0, 0) 27 [.null, .null] [.int s0, .int s1, .int s2] h (QI z) := by
  obtain ⟨r, h2, hf⟩ := bnd hf
  refine ev_S kqX11_size_27 jX11_in (zX11_in (d := d + 0) h2) rfl (Nat.le_of_ble_eq_true rfl) rfl (as := [.int s2, .int s1, .int s0]) (rest := []) rfl (Nat.le_of_ble_eq_true rfl) (fun _ _ hq => ?_)
  obtain ⟨-, rfl, rfl⟩ := hq
  exact jm [0, 0] (fX11_size_30 r.1 r.2) (fun q => tX11_size_30 r.1 r.2 q) hf
def wX11_size_23 : List En := [(.iload_n 1, 0, 0, 0), (.iconst 0, 0, 0, 0), (.bipush 10, 0, 0, 0)]
def fX11_size_23 (v1 : Int32) (h : aH) : Option (Int32 × aH) :=
  fX11_size_27 (kB 10) (kI 0) v1 h
theorem tX11_size_23 {d : Nat} {z : Int32 × aH} (v1 : Int32) (h : aH) (hf : fX11_size_23 v1 h = some z) : Ev (d + 1) none mX11_size (0, 0) 23 [.null, .int v1] [] h (QI z) := 
  go_ok (X := none) (blk := wX11_size_23) (np := 27) (tt := 0) (kN := fun xs h st => app [0, 0] (apS [1, 1, 1] (fun s0 s1 s2 => fX11_size_27 s0 s1 s2 h) st) xs) (kT := fun _ _ _ => none) (kR := kRI)
    (fun xs h st q => jm [0, 0] _ (fun q => apS_ok [1, 1, 1] _ (fun st => Ev (d + 1) none mX11_size (0, 0) 27 [.null, .null] st h (QI z)) st (fun s0 s1 s2 q => tX11_size_27 s0 s1 s2 h q) q) q)
    (fun _ _ _ q => nos q)
    kRI_ok (Or.inr rfl) (by decide +kernel) (by decide +kernel) hf
def wX11_size_16 : List En := [(.aload_n 0, 0, 0, 0), (.getfield 174, 189, 11, 14), (.ifCond .ne 19, 39, 0, 0)]
def fX11_size_16 (v0 : Nat) (v1 : Int32) (h : aH) : Option (Int32 × aH) :=
  (gFI h 11 v0 14).bind fun t1 =>
  if t1 = 0 then fX11_size_23 v1 h else fX11_size_39 v0 v1 h
theorem tX11_size_16 {d : Nat} {z : Int32 × aH} (v0 : Nat) (v1 : Int32) (h : aH) (hf : fX11_size_16 v0 v1 h = some z) : Ev (d + 1) none mX11_size (0, 0) 16 [.ref v0, .int v1] [] h (QI z) := 
  go_ok (X := none) (blk := wX11_size_16) (np := 23) (tt := 39) (kN := fun xs h st => app [0, 1] (fun v1 => apS [] (fX11_size_23 v1 h) st) xs) (kT := fun xs h st => app [2, 1] (fun v0 v1 => apS [] (fX11_size_39 v0 v1 h) st) xs) (kR := kRI)
    (fun xs h st q => jm [0, 1] _ (fun v1 q => apS_ok [] _ (fun st => Ev (d + 1) none mX11_size (0, 0) 23 [.null, .int v1] st h (QI z)) st (fun q => tX11_size_23 v1 h q) q) q)
    (fun xs h st q => jm [2, 1] _ (fun v0 v1 q => apS_ok [] _ (fun st => Ev (d + 1) none mX11_size (0, 0) 39 [.ref v0, .int v1] st h (QI z)) st (fun q => tX11_size_39 v0 v1 h q) q) q)
    kRI_ok (Or.inr rfl) (by decide +kernel) (by decide +kernel) hf
def wX11_size_11 : List En := [(.aload_n 0, 0, 0, 0), (.getfield 59, 177, 11, 2), (.ireturn, 0, 0, 0)]
def fX11_size_11 (v0 : Nat) (h : aH) : Option (Int32 × aH) :=
  (gFI h 11 v0 2).bind fun t1 =>
  some (t1, h)
theorem tX11_size_11 {d : Nat} {z : Int32 × aH} (v0 : Nat) (h : aH) (hf : fX11_size_11 v0 h = some z) : Ev (d + 1) none mX11_size (0, 0) 11 [.ref v0, .null] [] h (QI z) := 
  go_ok (X := none) (blk := wX11_size_11) (np := 16) (tt := 0) (kN := fun _ _ _ => none) (kT := fun _ _ _ => none) (kR := kRI)
    (fun _ _ _ q => nos q)
    (fun _ _ _ q => nos q)
    kRI_ok (Or.inr rfl) (by decide +kernel) (by decide +kernel) hf
def wX11_size_0 : List En := [(.aload_n 0, 0, 0, 0), (.iconst 0, 0, 0, 0), (.putfield 53, 175, 11, 0), (.iload_n 1, 0, 0, 0), (.bipush 11, 0, 0, 0), (.if_icmp .ne 8, 16, 0, 0)]
def fX11_size_0 (v0 : Nat) (v1 : Int32) (h : aH) : Option (Int32 × aH) :=
  (pWV h 11 v0 0 (.int (kI 0))).bind fun h1 =>
  if v1 = (kB 11) then fX11_size_11 v0 h1 else fX11_size_16 v0 v1 h1
theorem tX11_size_0 {d : Nat} {z : Int32 × aH} (v0 : Nat) (v1 : Int32) (h : aH) (hf : fX11_size_0 v0 v1 h = some z) : Ev (d + 1) none mX11_size (0, 0) 0 [.ref v0, .int v1] [] h (QI z) := 
  go_ok (X := none) (blk := wX11_size_0) (np := 11) (tt := 16) (kN := fun xs h st => app [2, 0] (fun v0 => apS [] (fX11_size_11 v0 h) st) xs) (kT := fun xs h st => app [2, 1] (fun v0 v1 => apS [] (fX11_size_16 v0 v1 h) st) xs) (kR := kRI)
    (fun xs h st q => jm [2, 0] _ (fun v0 q => apS_ok [] _ (fun st => Ev (d + 1) none mX11_size (0, 0) 11 [.ref v0, .null] st h (QI z)) st (fun q => tX11_size_11 v0 h q) q) q)
    (fun xs h st q => jm [2, 1] _ (fun v0 v1 q => apS_ok [] _ (fun st => Ev (d + 1) none mX11_size (0, 0) 16 [.ref v0, .int v1] st h (QI z)) st (fun q => tX11_size_16 v0 v1 h q) q) q)
    kRI_ok (Or.inr rfl) (by decide +kernel) (by decide +kernel) hf
def gX11_size (v0 : Nat) (v1 : Int32) (h : aH) : Option (Int32 × aH) := fX11_size_0 v0 v1 h
theorem zX11_size {d : Nat} {z : Int32 × aH} {v0 : Nat} {v1 : Int32} {h : aH} (q : gX11_size v0 v1 h = some z) : CT (d + 1) mX11_size (0, 0) [.ref v0, .int v1] h (QI z) :=
  ct_ev (by decide +kernel) (Nat.le_of_ble_eq_true rfl) QI_r (jm [2, 1] (fun v0 v1 => fX11_size_0 v0 v1 h) (fun v0 v1 q => tX11_size_0 v0 v1 h q) q)
def wX11_trouble_0 : List En := [(.aload_n 0, 0, 0, 0), (.iconst 0, 0, 0, 0), (.putfield 53, 175, 11, 0), (.aload_n 0, 0, 0, 0), (.getfield 56, 186, 11, 11), (.ireturn, 0, 0, 0)]
def fX11_trouble_0 (v0 : Nat) (h : aH) : Option (Int32 × aH) :=
  (pWV h 11 v0 0 (.int (kI 0))).bind fun h1 =>
  (gFI h1 11 v0 11).bind fun t2 =>
  some (t2, h1)
theorem tX11_trouble_0 {d : Nat} {z : Int32 × aH} (v0 : Nat) (h : aH) (hf : fX11_trouble_0 v0 h = some z) : Ev (d + 0) none mX11_trouble (0, 0) 0 [.ref v0] [] h (QI z) := 
  go_ok (X := none) (blk := wX11_trouble_0) (np := 10) (tt := 0) (kN := fun _ _ _ => none) (kT := fun _ _ _ => none) (kR := kRI)
    (fun _ _ _ q => nos q)
    (fun _ _ _ q => nos q)
    kRI_ok (Or.inr rfl) (by decide +kernel) (by decide +kernel) hf
def gX11_trouble (v0 : Nat) (h : aH) : Option (Int32 × aH) := fX11_trouble_0 v0 h
theorem zX11_trouble {d : Nat} {z : Int32 × aH} {v0 : Nat} {h : aH} (q : gX11_trouble v0 h = some z) : CT (d + 0) mX11_trouble (0, 0) [.ref v0] h (QI z) :=
  ct_ev (by decide +kernel) (Nat.le_of_ble_eq_true rfl) QI_r (jm [2] (fun v0 => fX11_trouble_0 v0 h) (fun v0 q => tX11_trouble_0 v0 h q) q)
end
