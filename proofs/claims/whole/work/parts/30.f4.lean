noncomputable section
def wX10_gain_24 : List En := [(.ireturn, 0, 0, 0)]
def fX10_gain_24 (s0 : Int32) (h : aH) : Option (Int32 × aH) :=
  some (s0, h)
theorem tX10_gain_24 {d : Nat} {z : Int32 × aH} (s0 : Int32) (h : aH) (hf : fX10_gain_24 s0 h = some z) : Ev (d + 0) none mX10_gain (0, 0) 24 [.null, .null, .null] [.int s0] h (QI z) := 
  go_ok (X := none) (blk := wX10_gain_24) (np := 25) (tt := 0) (kN := fun _ _ _ => none) (kT := fun _ _ _ => none) (kR := kRI)
    (fun _ _ _ q => nos q)
    (fun _ _ _ q => nos q)
    kRI_ok (Or.inr rfl) (by decide +kernel) (by decide +kernel) hf
def wX10_gain_23 : List En := [(.iconst 1, 0, 0, 0)]
def fX10_gain_23 (h : aH) : Option (Int32 × aH) :=
  fX10_gain_24 (kI 1) h
theorem tX10_gain_23 {d : Nat} {z : Int32 × aH} (h : aH) (hf : fX10_gain_23 h = some z) : Ev (d + 0) none mX10_gain (0, 0) 23 [.null, .null, .null] [] h (QI z) := 
  go_ok (X := none) (blk := wX10_gain_23) (np := 24) (tt := 0) (kN := fun xs h st => app [0, 0, 0] (apS [1] (fun s0 => fX10_gain_24 s0 h) st) xs) (kT := fun _ _ _ => none) (kR := kRI)
    (fun xs h st q => jm [0, 0, 0] _ (fun q => apS_ok [1] _ (fun st => Ev (d + 0) none mX10_gain (0, 0) 24 [.null, .null, .null] st h (QI z)) st (fun s0 q => tX10_gain_24 s0 h q) q) q)
    (fun _ _ _ q => nos q)
    kRI_ok (Or.inr rfl) (by decide +kernel) (by decide +kernel) hf
def wX10_gain_19 : List En := [(.iconst (-1), 0, 0, 0), (.goto 4, 24, 0, 0)]
def fX10_gain_19 (h : aH) : Option (Int32 × aH) :=
  fX10_gain_24 (kI (-1)) h
theorem tX10_gain_19 {d : Nat} {z : Int32 × aH} (h : aH) (hf : fX10_gain_19 h = some z) : Ev (d + 0) none mX10_gain (0, 0) 19 [.null, .null, .null] [] h (QI z) := 
  go_ok (X := none) (blk := wX10_gain_19) (np := 23) (tt := 24) (kN := fun _ _ _ => none) (kT := fun xs h st => app [0, 0, 0] (apS [1] (fun s0 => fX10_gain_24 s0 h) st) xs) (kR := kRI)
    (fun _ _ _ q => nos q)
    (fun xs h st q => jm [0, 0, 0] _ (fun q => apS_ok [1] _ (fun st => Ev (d + 0) none mX10_gain (0, 0) 24 [.null, .null, .null] st h (QI z)) st (fun s0 q => tX10_gain_24 s0 h q) q) q)
    kRI_ok (Or.inr rfl) (by decide +kernel) (by decide +kernel) hf
def wX10_gain_15 : List En := [(.iload_n 2, 0, 0, 0), (.ifCond .eq 7, 23, 0, 0)]
def fX10_gain_15 (v2 : Int32) (h : aH) : Option (Int32 × aH) :=
  if v2 = 0 then fX10_gain_23 h else fX10_gain_19 h
theorem tX10_gain_15 {d : Nat} {z : Int32 × aH} (v2 : Int32) (h : aH) (hf : fX10_gain_15 v2 h = some z) : Ev (d + 0) none mX10_gain (0, 0) 15 [.null, .null, .int v2] [] h (QI z) := 
  go_ok (X := none) (blk := wX10_gain_15) (np := 19) (tt := 23) (kN := fun xs h st => app [0, 0, 0] (apS [] (fX10_gain_19 h) st) xs) (kT := fun xs h st => app [0, 0, 0] (apS [] (fX10_gain_23 h) st) xs) (kR := kRI)
    (fun xs h st q => jm [0, 0, 0] _ (fun q => apS_ok [] _ (fun st => Ev (d + 0) none mX10_gain (0, 0) 19 [.null, .null, .null] st h (QI z)) st (fun q => tX10_gain_19 h q) q) q)
    (fun xs h st q => jm [0, 0, 0] _ (fun q => apS_ok [] _ (fun st => Ev (d + 0) none mX10_gain (0, 0) 23 [.null, .null, .null] st h (QI z)) st (fun q => tX10_gain_23 h q) q) q)
    kRI_ok (Or.inr rfl) (by decide +kernel) (by decide +kernel) hf
def wX10_gain_14 : List En := [(.ireturn, 0, 0, 0)]
def fX10_gain_14 (s0 : Int32) (h : aH) : Option (Int32 × aH) :=
  some (s0, h)
theorem tX10_gain_14 {d : Nat} {z : Int32 × aH} (s0 : Int32) (h : aH) (hf : fX10_gain_14 s0 h = some z) : Ev (d + 0) none mX10_gain (0, 0) 14 [.null, .null, .null] [.int s0] h (QI z) := 
  go_ok (X := none) (blk := wX10_gain_14) (np := 15) (tt := 0) (kN := fun _ _ _ => none) (kT := fun _ _ _ => none) (kR := kRI)
    (fun _ _ _ q => nos q)
    (fun _ _ _ q => nos q)
    kRI_ok (Or.inr rfl) (by decide +kernel) (by decide +kernel) hf
def wX10_gain_13 : List En := [(.iconst 3, 0, 0, 0)]
def fX10_gain_13 (h : aH) : Option (Int32 × aH) :=
  fX10_gain_14 (kI 3) h
theorem tX10_gain_13 {d : Nat} {z : Int32 × aH} (h : aH) (hf : fX10_gain_13 h = some z) : Ev (d + 0) none mX10_gain (0, 0) 13 [.null, .null, .null] [] h (QI z) := 
  go_ok (X := none) (blk := wX10_gain_13) (np := 14) (tt := 0) (kN := fun xs h st => app [0, 0, 0] (apS [1] (fun s0 => fX10_gain_14 s0 h) st) xs) (kT := fun _ _ _ => none) (kR := kRI)
    (fun xs h st q => jm [0, 0, 0] _ (fun q => apS_ok [1] _ (fun st => Ev (d + 0) none mX10_gain (0, 0) 14 [.null, .null, .null] st h (QI z)) st (fun s0 q => tX10_gain_14 s0 h q) q) q)
    (fun _ _ _ q => nos q)
    kRI_ok (Or.inr rfl) (by decide +kernel) (by decide +kernel) hf
def wX10_gain_8 : List En := [(.iload_n 0, 0, 0, 0), (.ineg, 0, 0, 0), (.goto 4, 14, 0, 0)]
def fX10_gain_8 (v0 : Int32) (h : aH) : Option (Int32 × aH) :=
  fX10_gain_14 (-v0) h
theorem tX10_gain_8 {d : Nat} {z : Int32 × aH} (v0 : Int32) (h : aH) (hf : fX10_gain_8 v0 h = some z) : Ev (d + 0) none mX10_gain (0, 0) 8 [.int v0, .null, .null] [] h (QI z) := 
  go_ok (X := none) (blk := wX10_gain_8) (np := 13) (tt := 14) (kN := fun _ _ _ => none) (kT := fun xs h st => app [0, 0, 0] (apS [1] (fun s0 => fX10_gain_14 s0 h) st) xs) (kR := kRI)
    (fun _ _ _ q => nos q)
    (fun xs h st q => jm [0, 0, 0] _ (fun q => apS_ok [1] _ (fun st => Ev (d + 0) none mX10_gain (0, 0) 14 [.null, .null, .null] st h (QI z)) st (fun s0 q => tX10_gain_14 s0 h q) q) q)
    kRI_ok (Or.inr rfl) (by decide +kernel) (by decide +kernel) hf
def wX10_gain_4 : List En := [(.iload_n 2, 0, 0, 0), (.ifCond .eq 8, 13, 0, 0)]
def fX10_gain_4 (v0 : Int32) (v2 : Int32) (h : aH) : Option (Int32 × aH) :=
  if v2 = 0 then fX10_gain_13 h else fX10_gain_8 v0 h
theorem tX10_gain_4 {d : Nat} {z : Int32 × aH} (v0 : Int32) (v2 : Int32) (h : aH) (hf : fX10_gain_4 v0 v2 h = some z) : Ev (d + 0) none mX10_gain (0, 0) 4 [.int v0, .null, .int v2] [] h (QI z) := 
  go_ok (X := none) (blk := wX10_gain_4) (np := 8) (tt := 13) (kN := fun xs h st => app [1, 0, 0] (fun v0 => apS [] (fX10_gain_8 v0 h) st) xs) (kT := fun xs h st => app [0, 0, 0] (apS [] (fX10_gain_13 h) st) xs) (kR := kRI)
    (fun xs h st q => jm [1, 0, 0] _ (fun v0 q => apS_ok [] _ (fun st => Ev (d + 0) none mX10_gain (0, 0) 8 [.int v0, .null, .null] st h (QI z)) st (fun q => tX10_gain_8 v0 h q) q) q)
    (fun xs h st q => jm [0, 0, 0] _ (fun q => apS_ok [] _ (fun st => Ev (d + 0) none mX10_gain (0, 0) 13 [.null, .null, .null] st h (QI z)) st (fun q => tX10_gain_13 h q) q) q)
    kRI_ok (Or.inr rfl) (by decide +kernel) (by decide +kernel) hf
def wX10_gain_0 : List En := [(.iload_n 1, 0, 0, 0), (.ifCond .eq 14, 15, 0, 0)]
def fX10_gain_0 (v0 : Int32) (v1 : Int32) (v2 : Int32) (h : aH) : Option (Int32 × aH) :=
  if v1 = 0 then fX10_gain_15 v2 h else fX10_gain_4 v0 v2 h
theorem tX10_gain_0 {d : Nat} {z : Int32 × aH} (v0 : Int32) (v1 : Int32) (v2 : Int32) (h : aH) (hf : fX10_gain_0 v0 v1 v2 h = some z) : Ev (d + 0) none mX10_gain (0, 0) 0 [.int v0, .int v1, .int v2] [] h (QI z) := 
  go_ok (X := none) (blk := wX10_gain_0) (np := 4) (tt := 15) (kN := fun xs h st => app [1, 0, 1] (fun v0 v2 => apS [] (fX10_gain_4 v0 v2 h) st) xs) (kT := fun xs h st => app [0, 0, 1] (fun v2 => apS [] (fX10_gain_15 v2 h) st) xs) (kR := kRI)
    (fun xs h st q => jm [1, 0, 1] _ (fun v0 v2 q => apS_ok [] _ (fun st => Ev (d + 0) none mX10_gain (0, 0) 4 [.int v0, .null, .int v2] st h (QI z)) st (fun q => tX10_gain_4 v0 v2 h q) q) q)
    (fun xs h st q => jm [0, 0, 1] _ (fun v2 q => apS_ok [] _ (fun st => Ev (d + 0) none mX10_gain (0, 0) 15 [.null, .null, .int v2] st h (QI z)) st (fun q => tX10_gain_15 v2 h q) q) q)
    kRI_ok (Or.inr rfl) (by decide +kernel) (by decide +kernel) hf
def gX10_gain (v0 : Int32) (v1 : Int32) (v2 : Int32) (h : aH) : Option (Int32 × aH) := fX10_gain_0 v0 v1 v2 h
theorem zX10_gain {d : Nat} {z : Int32 × aH} {v0 : Int32} {v1 : Int32} {v2 : Int32} {h : aH} (q : gX10_gain v0 v1 v2 h = some z) : CT (d + 0) mX10_gain (0, 0) [.int v0, .int v1, .int v2] h (QI z) :=
  ct_ev (by decide +kernel) (Nat.le_of_ble_eq_true rfl) QI_r (jm [1, 1, 1] (fun v0 v1 v2 => fX10_gain_0 v0 v1 v2 h) (fun v0 v1 v2 q => tX10_gain_0 v0 v1 v2 h q) q)
def wX10_takes_38 : List En := [(.ireturn, 0, 0, 0)]
def fX10_takes_38 (s0 : Int32) (h : aH) : Option (Int32 × aH) :=
  some (s0, h)
theorem tX10_takes_38 {d : Nat} {z : Int32 × aH} (s0 : Int32) (h : aH) (hf : fX10_takes_38 s0 h = some z) : Ev (d + 2) none mX10_takes (0, 0) 38 [.null, .null, .null, .null, .null] [.int s0] h (QI z) := 
  go_ok (X := none) (blk := wX10_takes_38) (np := 39) (tt := 0) (kN := fun _ _ _ => none) (kT := fun _ _ _ => none) (kR := kRI)
    (fun _ _ _ q => nos q)
    (fun _ _ _ q => nos q)
    kRI_ok (Or.inr rfl) (by decide +kernel) (by decide +kernel) hf
theorem kqX10_takes_35 : okC mX10_takes 35 (.invokestatic 295) 149 159 1 3 = true := by decide +kernel
def fX10_takes_35 (s0 : Int32) (s1 : Int32) (s2 : Int32) (h : aH) : Option (Int32 × aH) :=
  (gX10_gain s2 s1 s0 h).bind fun r =>
  fX10_takes_38 r.1 r.2
theorem tX10_takes_35 {d : Nat} {z : Int32 × aH} (s0 : Int32) (s1 : Int32) (s2 : Int32) (h : aH) (hf : fX10_takes_35 s0 s1 s2 h = some z) : Ev (d + 2) none mX10_takes (0, 0) 35 [.null, .null, .null, .null, .null] [.int s0, .int s1, .int s2] h (QI z) := by
  obtain ⟨r, h2, hf⟩ := bnd hf
  refine ev_S kqX10_takes_35 jX10_gain (zX10_gain (d := d + 1) h2) rfl (Nat.le_of_ble_eq_true rfl) rfl (as := [.int s2, .int s1, .int s0]) (rest := []) rfl (Nat.le_of_ble_eq_true rfl) (fun _ _ hq => ?_)
  obtain ⟨rfl, rfl⟩ := hq
  exact jm [0, 0, 0, 0, 0] (fX10_takes_38 r.1 r.2) (fun q => tX10_takes_38 r.1 r.2 q) hf
def wX10_takes_32 : List En := [(.iload_n 1, 0, 0, 0), (.iload_n 2, 0, 0, 0), (.iload_n 3, 0, 0, 0)]
def fX10_takes_32 (v1 : Int32) (v2 : Int32) (v3 : Int32) (h : aH) : Option (Int32 × aH) :=
  fX10_takes_35 v3 v2 v1 h
theorem tX10_takes_32 {d : Nat} {z : Int32 × aH} (v1 : Int32) (v2 : Int32) (v3 : Int32) (h : aH) (hf : fX10_takes_32 v1 v2 v3 h = some z) : Ev (d + 2) none mX10_takes (0, 0) 32 [.null, .int v1, .int v2, .int v3, .null] [] h (QI z) := 
  go_ok (X := none) (blk := wX10_takes_32) (np := 35) (tt := 0) (kN := fun xs h st => app [0, 0, 0, 0, 0] (apS [1, 1, 1] (fun s0 s1 s2 => fX10_takes_35 s0 s1 s2 h) st) xs) (kT := fun _ _ _ => none) (kR := kRI)
    (fun xs h st q => jm [0, 0, 0, 0, 0] _ (fun q => apS_ok [1, 1, 1] _ (fun st => Ev (d + 2) none mX10_takes (0, 0) 35 [.null, .null, .null, .null, .null] st h (QI z)) st (fun s0 s1 s2 q => tX10_takes_35 s0 s1 s2 h q) q) q)
    (fun _ _ _ q => nos q)
    kRI_ok (Or.inr rfl) (by decide +kernel) (by decide +kernel) hf
def wX10_takes_29 : List En := [(.goto 9, 38, 0, 0)]
def fX10_takes_29 (s0 : Int32) (h : aH) : Option (Int32 × aH) :=
  fX10_takes_38 s0 h
theorem tX10_takes_29 {d : Nat} {z : Int32 × aH} (s0 : Int32) (h : aH) (hf : fX10_takes_29 s0 h = some z) : Ev (d + 2) none mX10_takes (0, 0) 29 [.null, .null, .null, .null, .null] [.int s0] h (QI z) := 
  go_ok (X := none) (blk := wX10_takes_29) (np := 32) (tt := 38) (kN := fun _ _ _ => none) (kT := fun xs h st => app [0, 0, 0, 0, 0] (apS [1] (fun s0 => fX10_takes_38 s0 h) st) xs) (kR := kRI)
    (fun _ _ _ q => nos q)
    (fun xs h st q => jm [0, 0, 0, 0, 0] _ (fun q => apS_ok [1] _ (fun st => Ev (d + 2) none mX10_takes (0, 0) 38 [.null, .null, .null, .null, .null] st h (QI z)) st (fun s0 q => tX10_takes_38 s0 h q) q) q)
    kRI_ok (Or.inr rfl) (by decide +kernel) (by decide +kernel) hf
theorem kqX10_takes_26 : okC mX10_takes 26 (.invokestatic 295) 149 159 1 3 = true := by decide +kernel
def fX10_takes_26 (s0 : Int32) (s1 : Int32) (s2 : Int32) (h : aH) : Option (Int32 × aH) :=
  (gX10_gain s2 s1 s0 h).bind fun r =>
  fX10_takes_29 r.1 r.2
theorem tX10_takes_26 {d : Nat} {z : Int32 × aH} (s0 : Int32) (s1 : Int32) (s2 : Int32) (h : aH) (hf : fX10_takes_26 s0 s1 s2 h = some z) : Ev (d + 2) none mX10_takes (0, 0) 26 [.null, .null, .null, .null, .null] [.int s0, .int s1, .int s2] h (QI z) := by
  obtain ⟨r, h2, hf⟩ := bnd hf
  refine ev_S kqX10_takes_26 jX10_gain (zX10_gain (d := d + 1) h2) rfl (Nat.le_of_ble_eq_true rfl) rfl (as := [.int s2, .int s1, .int s0]) (rest := []) rfl (Nat.le_of_ble_eq_true rfl) (fun _ _ hq => ?_)
  obtain ⟨rfl, rfl⟩ := hq
  exact jm [0, 0, 0, 0, 0] (fX10_takes_29 r.1 r.2) (fun q => tX10_takes_29 r.1 r.2 q) hf
def wX10_takes_23 : List En := [(.iload_n 1, 0, 0, 0), (.iload_n 3, 0, 0, 0), (.iload_n 2, 0, 0, 0)]
def fX10_takes_23 (v1 : Int32) (v2 : Int32) (v3 : Int32) (h : aH) : Option (Int32 × aH) :=
  fX10_takes_26 v2 v3 v1 h
theorem tX10_takes_23 {d : Nat} {z : Int32 × aH} (v1 : Int32) (v2 : Int32) (v3 : Int32) (h : aH) (hf : fX10_takes_23 v1 v2 v3 h = some z) : Ev (d + 2) none mX10_takes (0, 0) 23 [.null, .int v1, .int v2, .int v3, .null] [] h (QI z) := 
  go_ok (X := none) (blk := wX10_takes_23) (np := 26) (tt := 0) (kN := fun xs h st => app [0, 0, 0, 0, 0] (apS [1, 1, 1] (fun s0 s1 s2 => fX10_takes_26 s0 s1 s2 h) st) xs) (kT := fun _ _ _ => none) (kR := kRI)
    (fun xs h st q => jm [0, 0, 0, 0, 0] _ (fun q => apS_ok [1, 1, 1] _ (fun st => Ev (d + 2) none mX10_takes (0, 0) 26 [.null, .null, .null, .null, .null] st h (QI z)) st (fun s0 s1 s2 q => tX10_takes_26 s0 s1 s2 h q) q) q)
    (fun _ _ _ q => nos q)
    kRI_ok (Or.inr rfl) (by decide +kernel) (by decide +kernel) hf
def wX10_takes_18 : List En := [(.iload 4, 0, 0, 0), (.ifCond .eq 12, 32, 0, 0)]
def fX10_takes_18 (v1 : Int32) (v2 : Int32) (v3 : Int32) (v4 : Int32) (h : aH) : Option (Int32 × aH) :=
  if v4 = 0 then fX10_takes_32 v1 v2 v3 h else fX10_takes_23 v1 v2 v3 h
theorem tX10_takes_18 {d : Nat} {z : Int32 × aH} (v1 : Int32) (v2 : Int32) (v3 : Int32) (v4 : Int32) (h : aH) (hf : fX10_takes_18 v1 v2 v3 v4 h = some z) : Ev (d + 2) none mX10_takes (0, 0) 18 [.null, .int v1, .int v2, .int v3, .int v4] [] h (QI z) := 
  go_ok (X := none) (blk := wX10_takes_18) (np := 23) (tt := 32) (kN := fun xs h st => app [0, 1, 1, 1, 0] (fun v1 v2 v3 => apS [] (fX10_takes_23 v1 v2 v3 h) st) xs) (kT := fun xs h st => app [0, 1, 1, 1, 0] (fun v1 v2 v3 => apS [] (fX10_takes_32 v1 v2 v3 h) st) xs) (kR := kRI)
    (fun xs h st q => jm [0, 1, 1, 1, 0] _ (fun v1 v2 v3 q => apS_ok [] _ (fun st => Ev (d + 2) none mX10_takes (0, 0) 23 [.null, .int v1, .int v2, .int v3, .null] st h (QI z)) st (fun q => tX10_takes_23 v1 v2 v3 h q) q) q)
    (fun xs h st q => jm [0, 1, 1, 1, 0] _ (fun v1 v2 v3 q => apS_ok [] _ (fun st => Ev (d + 2) none mX10_takes (0, 0) 32 [.null, .int v1, .int v2, .int v3, .null] st h (QI z)) st (fun q => tX10_takes_32 v1 v2 v3 h q) q) q)
    kRI_ok (Or.inr rfl) (by decide +kernel) (by decide +kernel) hf
def wX10_takes_15 : List En := [(.bipush (-100), 0, 0, 0), (.ireturn, 0, 0, 0)]
def fX10_takes_15 (h : aH) : Option (Int32 × aH) :=
  some ((kB (-100)), h)
theorem tX10_takes_15 {d : Nat} {z : Int32 × aH} (h : aH) (hf : fX10_takes_15 h = some z) : Ev (d + 2) none mX10_takes (0, 0) 15 [.null, .null, .null, .null, .null] [] h (QI z) := 
  go_ok (X := none) (blk := wX10_takes_15) (np := 18) (tt := 0) (kN := fun _ _ _ => none) (kT := fun _ _ _ => none) (kR := kRI)
    (fun _ _ _ q => nos q)
    (fun _ _ _ q => nos q)
    kRI_ok (Or.inr rfl) (by decide +kernel) (by decide +kernel) hf
def wX10_takes_12 : List En := [(.ifCond .eq 6, 18, 0, 0)]
def fX10_takes_12 (v1 : Int32) (v2 : Int32) (v3 : Int32) (v4 : Int32) (s0 : Int32) (h : aH) : Option (Int32 × aH) :=
  if s0 = 0 then fX10_takes_18 v1 v2 v3 v4 h else fX10_takes_15 h
theorem tX10_takes_12 {d : Nat} {z : Int32 × aH} (v1 : Int32) (v2 : Int32) (v3 : Int32) (v4 : Int32) (s0 : Int32) (h : aH) (hf : fX10_takes_12 v1 v2 v3 v4 s0 h = some z) : Ev (d + 2) none mX10_takes (0, 0) 12 [.null, .int v1, .int v2, .int v3, .int v4] [.int s0] h (QI z) := 
  go_ok (X := none) (blk := wX10_takes_12) (np := 15) (tt := 18) (kN := fun xs h st => app [0, 0, 0, 0, 0] (apS [] (fX10_takes_15 h) st) xs) (kT := fun xs h st => app [0, 1, 1, 1, 1] (fun v1 v2 v3 v4 => apS [] (fX10_takes_18 v1 v2 v3 v4 h) st) xs) (kR := kRI)
    (fun xs h st q => jm [0, 0, 0, 0, 0] _ (fun q => apS_ok [] _ (fun st => Ev (d + 2) none mX10_takes (0, 0) 15 [.null, .null, .null, .null, .null] st h (QI z)) st (fun q => tX10_takes_15 h q) q) q)
    (fun xs h st q => jm [0, 1, 1, 1, 1] _ (fun v1 v2 v3 v4 q => apS_ok [] _ (fun st => Ev (d + 2) none mX10_takes (0, 0) 18 [.null, .int v1, .int v2, .int v3, .int v4] st h (QI z)) st (fun q => tX10_takes_18 v1 v2 v3 v4 h q) q) q)
    kRI_ok (Or.inr rfl) (by decide +kernel) (by decide +kernel) hf
theorem kqX10_takes_9 : okC mX10_takes 9 (.invokevirtual 190) 92 87 0 4 = true := by decide +kernel
def fX10_takes_9 (v1 : Int32) (v2 : Int32) (v3 : Int32) (v4 : Int32) (s0 : Int32) (s1 : Int32) (s2 : Int32) (s3 : Int32) (s4 : Nat) (h : aH) : Option (Int32 × aH) :=
  (isO h 10 s4).bind fun _ =>
  (gX10_isRefused s4 s3 s2 s1 s0 h).bind fun r =>
  fX10_takes_12 v1 v2 v3 v4 r.1 r.2
theorem tX10_takes_9 {d : Nat} {z : Int32 × aH} (v1 : Int32) (v2 : Int32) (v3 : Int32) (v4 : Int32) (s0 : Int32) (s1 : Int32) (s2 : Int32) (s3 : Int32) (s4 : Nat) (h : aH) (hf : fX10_takes_9 v1 v2 v3 v4 s0 s1 s2 s3 s4 h = some z) : Ev (d + 2) none mX10_takes (0, 0) 9 [.null, .int v1, .int v2, .int v3, .int v4] [.int s0, .int s1, .int s2, .int s3, .ref s4] h (QI z) := by
  obtain ⟨_, h1, hf⟩ := bnd hf
  obtain ⟨fs, ho⟩ := isO_ok h1
  obtain ⟨r, h2, hf⟩ := bnd hf
  refine ev_V kqX10_takes_9 jX10_isRefused (zX10_isRefused (d := d + 0) h2) ho rfl rfl (Nat.le_of_ble_eq_true rfl) rfl (as := [.int s3, .int s2, .int s1, .int s0]) (rest := []) rfl (Nat.le_of_ble_eq_true rfl) (fun _ _ hq => ?_)
  obtain ⟨-, rfl, rfl⟩ := hq
  exact jm [0, 1, 1, 1, 1] (fun v1 v2 v3 v4 => fX10_takes_12 v1 v2 v3 v4 r.1 r.2) (fun v1 v2 v3 v4 q => tX10_takes_12 v1 v2 v3 v4 r.1 r.2 q) hf
def wX10_takes_5 : List En := [(.iload_n 1, 0, 0, 0), (.iconst 0, 0, 0, 0), (.bipush 9, 0, 0, 0)]
def fX10_takes_5 (v1 : Int32) (v2 : Int32) (v3 : Int32) (v4 : Int32) (s0 : Int32) (s1 : Nat) (h : aH) : Option (Int32 × aH) :=
  fX10_takes_9 v1 v2 v3 v4 (kB 9) (kI 0) v1 s0 s1 h
theorem tX10_takes_5 {d : Nat} {z : Int32 × aH} (v1 : Int32) (v2 : Int32) (v3 : Int32) (v4 : Int32) (s0 : Int32) (s1 : Nat) (h : aH) (hf : fX10_takes_5 v1 v2 v3 v4 s0 s1 h = some z) : Ev (d + 2) none mX10_takes (0, 0) 5 [.null, .int v1, .int v2, .int v3, .int v4] [.int s0, .ref s1] h (QI z) := 
  go_ok (X := none) (blk := wX10_takes_5) (np := 9) (tt := 0) (kN := fun xs h st => app [0, 1, 1, 1, 1] (fun v1 v2 v3 v4 => apS [1, 1, 1, 1, 2] (fun s0 s1 s2 s3 s4 => fX10_takes_9 v1 v2 v3 v4 s0 s1 s2 s3 s4 h) st) xs) (kT := fun _ _ _ => none) (kR := kRI)
    (fun xs h st q => jm [0, 1, 1, 1, 1] _ (fun v1 v2 v3 v4 q => apS_ok [1, 1, 1, 1, 2] _ (fun st => Ev (d + 2) none mX10_takes (0, 0) 9 [.null, .int v1, .int v2, .int v3, .int v4] st h (QI z)) st (fun s0 s1 s2 s3 s4 q => tX10_takes_9 v1 v2 v3 v4 s0 s1 s2 s3 s4 h q) q) q)
    (fun _ _ _ q => nos q)
    kRI_ok (Or.inr rfl) (by decide +kernel) (by decide +kernel) hf
theorem kqX10_takes_2 : okC mX10_takes 2 (.invokevirtual 159) 68 52 0 0 = true := by decide +kernel
def fX10_takes_2 (v1 : Int32) (v2 : Int32) (v3 : Int32) (v4 : Int32) (s0 : Nat) (s1 : Nat) (h : aH) : Option (Int32 × aH) :=
  (isO h 10 s0).bind fun _ =>
  (gX10_lacksTable s0 h).bind fun r =>
  fX10_takes_5 v1 v2 v3 v4 r.1 s1 r.2
theorem tX10_takes_2 {d : Nat} {z : Int32 × aH} (v1 : Int32) (v2 : Int32) (v3 : Int32) (v4 : Int32) (s0 : Nat) (s1 : Nat) (h : aH) (hf : fX10_takes_2 v1 v2 v3 v4 s0 s1 h = some z) : Ev (d + 2) none mX10_takes (0, 0) 2 [.null, .int v1, .int v2, .int v3, .int v4] [.ref s0, .ref s1] h (QI z) := by
  obtain ⟨_, h1, hf⟩ := bnd hf
  obtain ⟨fs, ho⟩ := isO_ok h1
  obtain ⟨r, h2, hf⟩ := bnd hf
  refine ev_V kqX10_takes_2 jX10_lacksTable (zX10_lacksTable (d := d + 1) h2) ho rfl rfl (Nat.le_of_ble_eq_true rfl) rfl (as := []) (rest := [.ref s1]) rfl (Nat.le_of_ble_eq_true rfl) (fun _ _ hq => ?_)
  obtain ⟨-, rfl, rfl⟩ := hq
  exact jm [0, 1, 1, 1, 1] (fun v1 v2 v3 v4 => fX10_takes_5 v1 v2 v3 v4 r.1 s1 r.2) (fun v1 v2 v3 v4 q => tX10_takes_5 v1 v2 v3 v4 r.1 s1 r.2 q) hf
def wX10_takes_0 : List En := [(.aload_n 0, 0, 0, 0), (.aload_n 0, 0, 0, 0)]
def fX10_takes_0 (v0 : Nat) (v1 : Int32) (v2 : Int32) (v3 : Int32) (v4 : Int32) (h : aH) : Option (Int32 × aH) :=
  fX10_takes_2 v1 v2 v3 v4 v0 v0 h
theorem tX10_takes_0 {d : Nat} {z : Int32 × aH} (v0 : Nat) (v1 : Int32) (v2 : Int32) (v3 : Int32) (v4 : Int32) (h : aH) (hf : fX10_takes_0 v0 v1 v2 v3 v4 h = some z) : Ev (d + 2) none mX10_takes (0, 0) 0 [.ref v0, .int v1, .int v2, .int v3, .int v4] [] h (QI z) := 
  go_ok (X := none) (blk := wX10_takes_0) (np := 2) (tt := 0) (kN := fun xs h st => app [0, 1, 1, 1, 1] (fun v1 v2 v3 v4 => apS [2, 2] (fun s0 s1 => fX10_takes_2 v1 v2 v3 v4 s0 s1 h) st) xs) (kT := fun _ _ _ => none) (kR := kRI)
    (fun xs h st q => jm [0, 1, 1, 1, 1] _ (fun v1 v2 v3 v4 q => apS_ok [2, 2] _ (fun st => Ev (d + 2) none mX10_takes (0, 0) 2 [.null, .int v1, .int v2, .int v3, .int v4] st h (QI z)) st (fun s0 s1 q => tX10_takes_2 v1 v2 v3 v4 s0 s1 h q) q) q)
    (fun _ _ _ q => nos q)
    kRI_ok (Or.inr rfl) (by decide +kernel) (by decide +kernel) hf
def gX10_takes (v0 : Nat) (v1 : Int32) (v2 : Int32) (v3 : Int32) (v4 : Int32) (h : aH) : Option (Int32 × aH) := fX10_takes_0 v0 v1 v2 v3 v4 h
theorem zX10_takes {d : Nat} {z : Int32 × aH} {v0 : Nat} {v1 : Int32} {v2 : Int32} {v3 : Int32} {v4 : Int32} {h : aH} (q : gX10_takes v0 v1 v2 v3 v4 h = some z) : CT (d + 2) mX10_takes (0, 0) [.ref v0, .int v1, .int v2, .int v3, .int v4] h (QI z) :=
  ct_ev (by decide +kernel) (Nat.le_of_ble_eq_true rfl) QI_r (jm [2, 1, 1, 1, 1] (fun v0 v1 v2 v3 v4 => fX10_takes_0 v0 v1 v2 v3 v4 h) (fun v0 v1 v2 v3 v4 q => tX10_takes_0 v0 v1 v2 v3 v4 h q) q)
def wX10_isRest_51 : List En := [(.ireturn, 0, 0, 0)]
def fX10_isRest_51 (s0 : Int32) (h : aH) : Option (Int32 × aH) :=
  if s0 = 0 ∨ s0 = 1 then some (s0, h) else none
theorem tX10_isRest_51 {d : Nat} {z : Int32 × aH} (s0 : Int32) (h : aH) (hf : fX10_isRest_51 s0 h = some z) : Ev (d + 1) none mX10_isRest (0, 0) 51 [.null, .null, .null] [.int s0] h (QZ z) := 
  go_ok (X := none) (blk := wX10_isRest_51) (np := 52) (tt := 0) (kN := fun _ _ _ => none) (kT := fun _ _ _ => none) (kR := kRZ)
    (fun _ _ _ q => nos q)
    (fun _ _ _ q => nos q)
    kRZ_ok (Or.inr rfl) (by decide +kernel) (by decide +kernel) hf
def wX10_isRest_50 : List En := [(.iconst 0, 0, 0, 0)]
def fX10_isRest_50 (h : aH) : Option (Int32 × aH) :=
  fX10_isRest_51 (kI 0) h
theorem tX10_isRest_50 {d : Nat} {z : Int32 × aH} (h : aH) (hf : fX10_isRest_50 h = some z) : Ev (d + 1) none mX10_isRest (0, 0) 50 [.null, .null, .null] [] h (QZ z) := 
  go_ok (X := none) (blk := wX10_isRest_50) (np := 51) (tt := 0) (kN := fun xs h st => app [0, 0, 0] (apS [1] (fun s0 => fX10_isRest_51 s0 h) st) xs) (kT := fun _ _ _ => none) (kR := kRZ)
    (fun xs h st q => jm [0, 0, 0] _ (fun q => apS_ok [1] _ (fun st => Ev (d + 1) none mX10_isRest (0, 0) 51 [.null, .null, .null] st h (QZ z)) st (fun s0 q => tX10_isRest_51 s0 h q) q) q)
    (fun _ _ _ q => nos q)
    kRZ_ok (Or.inr rfl) (by decide +kernel) (by decide +kernel) hf
def wX10_isRest_46 : List En := [(.iconst 1, 0, 0, 0), (.goto 4, 51, 0, 0)]
def fX10_isRest_46 (h : aH) : Option (Int32 × aH) :=
  fX10_isRest_51 (kI 1) h
theorem tX10_isRest_46 {d : Nat} {z : Int32 × aH} (h : aH) (hf : fX10_isRest_46 h = some z) : Ev (d + 1) none mX10_isRest (0, 0) 46 [.null, .null, .null] [] h (QZ z) := 
  go_ok (X := none) (blk := wX10_isRest_46) (np := 50) (tt := 51) (kN := fun _ _ _ => none) (kT := fun xs h st => app [0, 0, 0] (apS [1] (fun s0 => fX10_isRest_51 s0 h) st) xs) (kR := kRZ)
    (fun _ _ _ q => nos q)
    (fun xs h st q => jm [0, 0, 0] _ (fun q => apS_ok [1] _ (fun st => Ev (d + 1) none mX10_isRest (0, 0) 51 [.null, .null, .null] st h (QZ z)) st (fun s0 q => tX10_isRest_51 s0 h q) q) q)
    kRZ_ok (Or.inr rfl) (by decide +kernel) (by decide +kernel) hf
def wX10_isRest_43 : List En := [(.if_icmp .lt 7, 50, 0, 0)]
def fX10_isRest_43 (s0 : Int32) (s1 : Int32) (h : aH) : Option (Int32 × aH) :=
  if s1 < s0 then fX10_isRest_50 h else fX10_isRest_46 h
theorem tX10_isRest_43 {d : Nat} {z : Int32 × aH} (s0 : Int32) (s1 : Int32) (h : aH) (hf : fX10_isRest_43 s0 s1 h = some z) : Ev (d + 1) none mX10_isRest (0, 0) 43 [.null, .null, .null] [.int s0, .int s1] h (QZ z) := 
  go_ok (X := none) (blk := wX10_isRest_43) (np := 46) (tt := 50) (kN := fun xs h st => app [0, 0, 0] (apS [] (fX10_isRest_46 h) st) xs) (kT := fun xs h st => app [0, 0, 0] (apS [] (fX10_isRest_50 h) st) xs) (kR := kRZ)
    (fun xs h st q => jm [0, 0, 0] _ (fun q => apS_ok [] _ (fun st => Ev (d + 1) none mX10_isRest (0, 0) 46 [.null, .null, .null] st h (QZ z)) st (fun q => tX10_isRest_46 h q) q) q)
    (fun xs h st q => jm [0, 0, 0] _ (fun q => apS_ok [] _ (fun st => Ev (d + 1) none mX10_isRest (0, 0) 50 [.null, .null, .null] st h (QZ z)) st (fun q => tX10_isRest_50 h q) q) q)
    kRZ_ok (Or.inr rfl) (by decide +kernel) (by decide +kernel) hf
theorem kqX10_isRest_40 : okC mX10_isRest 40 (.invokestatic 295) 149 159 1 3 = true := by decide +kernel
def fX10_isRest_40 (s0 : Int32) (s1 : Int32) (s2 : Int32) (s3 : Int32) (h : aH) : Option (Int32 × aH) :=
  (gX10_gain s2 s1 s0 h).bind fun r =>
  fX10_isRest_43 r.1 s3 r.2
theorem tX10_isRest_40 {d : Nat} {z : Int32 × aH} (s0 : Int32) (s1 : Int32) (s2 : Int32) (s3 : Int32) (h : aH) (hf : fX10_isRest_40 s0 s1 s2 s3 h = some z) : Ev (d + 1) none mX10_isRest (0, 0) 40 [.null, .null, .null] [.int s0, .int s1, .int s2, .int s3] h (QZ z) := by
  obtain ⟨r, h2, hf⟩ := bnd hf
  refine ev_S kqX10_isRest_40 jX10_gain (zX10_gain (d := d + 0) h2) rfl (Nat.le_of_ble_eq_true rfl) rfl (as := [.int s2, .int s1, .int s0]) (rest := [.int s3]) rfl (Nat.le_of_ble_eq_true rfl) (fun _ _ hq => ?_)
  obtain ⟨rfl, rfl⟩ := hq
  exact jm [0, 0, 0] (fX10_isRest_43 r.1 s3 r.2) (fun q => tX10_isRest_43 r.1 s3 r.2 q) hf
def wX10_isRest_39 : List En := [(.iload_n 1, 0, 0, 0)]
def fX10_isRest_39 (v1 : Int32) (s0 : Int32) (s1 : Int32) (s2 : Int32) (h : aH) : Option (Int32 × aH) :=
  fX10_isRest_40 v1 s0 s1 s2 h
theorem tX10_isRest_39 {d : Nat} {z : Int32 × aH} (v1 : Int32) (s0 : Int32) (s1 : Int32) (s2 : Int32) (h : aH) (hf : fX10_isRest_39 v1 s0 s1 s2 h = some z) : Ev (d + 1) none mX10_isRest (0, 0) 39 [.null, .int v1, .null] [.int s0, .int s1, .int s2] h (QZ z) := 
  go_ok (X := none) (blk := wX10_isRest_39) (np := 40) (tt := 0) (kN := fun xs h st => app [0, 0, 0] (apS [1, 1, 1, 1] (fun s0 s1 s2 s3 => fX10_isRest_40 s0 s1 s2 s3 h) st) xs) (kT := fun _ _ _ => none) (kR := kRZ)
    (fun xs h st q => jm [0, 0, 0] _ (fun q => apS_ok [1, 1, 1, 1] _ (fun st => Ev (d + 1) none mX10_isRest (0, 0) 40 [.null, .null, .null] st h (QZ z)) st (fun s0 s1 s2 s3 q => tX10_isRest_40 s0 s1 s2 s3 h q) q) q)
    (fun _ _ _ q => nos q)
    kRZ_ok (Or.inr rfl) (by decide +kernel) (by decide +kernel) hf
def wX10_isRest_38 : List En := [(.iconst 0, 0, 0, 0)]
def fX10_isRest_38 (v1 : Int32) (s0 : Int32) (s1 : Int32) (h : aH) : Option (Int32 × aH) :=
  fX10_isRest_39 v1 (kI 0) s0 s1 h
theorem tX10_isRest_38 {d : Nat} {z : Int32 × aH} (v1 : Int32) (s0 : Int32) (s1 : Int32) (h : aH) (hf : fX10_isRest_38 v1 s0 s1 h = some z) : Ev (d + 1) none mX10_isRest (0, 0) 38 [.null, .int v1, .null] [.int s0, .int s1] h (QZ z) := 
  go_ok (X := none) (blk := wX10_isRest_38) (np := 39) (tt := 0) (kN := fun xs h st => app [0, 1, 0] (fun v1 => apS [1, 1, 1] (fun s0 s1 s2 => fX10_isRest_39 v1 s0 s1 s2 h) st) xs) (kT := fun _ _ _ => none) (kR := kRZ)
    (fun xs h st q => jm [0, 1, 0] _ (fun v1 q => apS_ok [1, 1, 1] _ (fun st => Ev (d + 1) none mX10_isRest (0, 0) 39 [.null, .int v1, .null] st h (QZ z)) st (fun s0 s1 s2 q => tX10_isRest_39 v1 s0 s1 s2 h q) q) q)
    (fun _ _ _ q => nos q)
    kRZ_ok (Or.inr rfl) (by decide +kernel) (by decide +kernel) hf
def wX10_isRest_34 : List En := [(.iconst 1, 0, 0, 0), (.goto 4, 39, 0, 0)]
def fX10_isRest_34 (v1 : Int32) (s0 : Int32) (s1 : Int32) (h : aH) : Option (Int32 × aH) :=
  fX10_isRest_39 v1 (kI 1) s0 s1 h
theorem tX10_isRest_34 {d : Nat} {z : Int32 × aH} (v1 : Int32) (s0 : Int32) (s1 : Int32) (h : aH) (hf : fX10_isRest_34 v1 s0 s1 h = some z) : Ev (d + 1) none mX10_isRest (0, 0) 34 [.null, .int v1, .null] [.int s0, .int s1] h (QZ z) := 
  go_ok (X := none) (blk := wX10_isRest_34) (np := 38) (tt := 39) (kN := fun _ _ _ => none) (kT := fun xs h st => app [0, 1, 0] (fun v1 => apS [1, 1, 1] (fun s0 s1 s2 => fX10_isRest_39 v1 s0 s1 s2 h) st) xs) (kR := kRZ)
    (fun _ _ _ q => nos q)
    (fun xs h st q => jm [0, 1, 0] _ (fun v1 q => apS_ok [1, 1, 1] _ (fun st => Ev (d + 1) none mX10_isRest (0, 0) 39 [.null, .int v1, .null] st h (QZ z)) st (fun s0 s1 s2 q => tX10_isRest_39 v1 s0 s1 s2 h q) q) q)
    kRZ_ok (Or.inr rfl) (by decide +kernel) (by decide +kernel) hf
def wX10_isRest_29 : List En := [(.iload_n 0, 0, 0, 0), (.iload_n 2, 0, 0, 0), (.ifCond .ne 7, 38, 0, 0)]
def fX10_isRest_29 (v0 : Int32) (v1 : Int32) (v2 : Int32) (s0 : Int32) (h : aH) : Option (Int32 × aH) :=
  if v2 = 0 then fX10_isRest_34 v1 v0 s0 h else fX10_isRest_38 v1 v0 s0 h
theorem tX10_isRest_29 {d : Nat} {z : Int32 × aH} (v0 : Int32) (v1 : Int32) (v2 : Int32) (s0 : Int32) (h : aH) (hf : fX10_isRest_29 v0 v1 v2 s0 h = some z) : Ev (d + 1) none mX10_isRest (0, 0) 29 [.int v0, .int v1, .int v2] [.int s0] h (QZ z) := 
  go_ok (X := none) (blk := wX10_isRest_29) (np := 34) (tt := 38) (kN := fun xs h st => app [0, 1, 0] (fun v1 => apS [1, 1] (fun s0 s1 => fX10_isRest_34 v1 s0 s1 h) st) xs) (kT := fun xs h st => app [0, 1, 0] (fun v1 => apS [1, 1] (fun s0 s1 => fX10_isRest_38 v1 s0 s1 h) st) xs) (kR := kRZ)
    (fun xs h st q => jm [0, 1, 0] _ (fun v1 q => apS_ok [1, 1] _ (fun st => Ev (d + 1) none mX10_isRest (0, 0) 34 [.null, .int v1, .null] st h (QZ z)) st (fun s0 s1 q => tX10_isRest_34 v1 s0 s1 h q) q) q)
    (fun xs h st q => jm [0, 1, 0] _ (fun v1 q => apS_ok [1, 1] _ (fun st => Ev (d + 1) none mX10_isRest (0, 0) 38 [.null, .int v1, .null] st h (QZ z)) st (fun s0 s1 q => tX10_isRest_38 v1 s0 s1 h q) q) q)
    kRZ_ok (Or.inr rfl) (by decide +kernel) (by decide +kernel) hf
theorem kqX10_isRest_26 : okC mX10_isRest 26 (.invokestatic 295) 149 159 1 3 = true := by decide +kernel
def fX10_isRest_26 (v0 : Int32) (v1 : Int32) (v2 : Int32) (s0 : Int32) (s1 : Int32) (s2 : Int32) (h : aH) : Option (Int32 × aH) :=
  (gX10_gain s2 s1 s0 h).bind fun r =>
  fX10_isRest_29 v0 v1 v2 r.1 r.2
theorem tX10_isRest_26 {d : Nat} {z : Int32 × aH} (v0 : Int32) (v1 : Int32) (v2 : Int32) (s0 : Int32) (s1 : Int32) (s2 : Int32) (h : aH) (hf : fX10_isRest_26 v0 v1 v2 s0 s1 s2 h = some z) : Ev (d + 1) none mX10_isRest (0, 0) 26 [.int v0, .int v1, .int v2] [.int s0, .int s1, .int s2] h (QZ z) := by
  obtain ⟨r, h2, hf⟩ := bnd hf
  refine ev_S kqX10_isRest_26 jX10_gain (zX10_gain (d := d + 0) h2) rfl (Nat.le_of_ble_eq_true rfl) rfl (as := [.int s2, .int s1, .int s0]) (rest := []) rfl (Nat.le_of_ble_eq_true rfl) (fun _ _ hq => ?_)
  obtain ⟨rfl, rfl⟩ := hq
  exact jm [1, 1, 1] (fun v0 v1 v2 => fX10_isRest_29 v0 v1 v2 r.1 r.2) (fun v0 v1 v2 q => tX10_isRest_29 v0 v1 v2 r.1 r.2 q) hf
def wX10_isRest_23 : List En := [(.iload_n 0, 0, 0, 0), (.iload_n 2, 0, 0, 0), (.iload_n 1, 0, 0, 0)]
def fX10_isRest_23 (v0 : Int32) (v1 : Int32) (v2 : Int32) (h : aH) : Option (Int32 × aH) :=
  fX10_isRest_26 v0 v1 v2 v1 v2 v0 h
theorem tX10_isRest_23 {d : Nat} {z : Int32 × aH} (v0 : Int32) (v1 : Int32) (v2 : Int32) (h : aH) (hf : fX10_isRest_23 v0 v1 v2 h = some z) : Ev (d + 1) none mX10_isRest (0, 0) 23 [.int v0, .int v1, .int v2] [] h (QZ z) := 
  go_ok (X := none) (blk := wX10_isRest_23) (np := 26) (tt := 0) (kN := fun xs h st => app [1, 1, 1] (fun v0 v1 v2 => apS [1, 1, 1] (fun s0 s1 s2 => fX10_isRest_26 v0 v1 v2 s0 s1 s2 h) st) xs) (kT := fun _ _ _ => none) (kR := kRZ)
    (fun xs h st q => jm [1, 1, 1] _ (fun v0 v1 v2 q => apS_ok [1, 1, 1] _ (fun st => Ev (d + 1) none mX10_isRest (0, 0) 26 [.int v0, .int v1, .int v2] st h (QZ z)) st (fun s0 s1 s2 q => tX10_isRest_26 v0 v1 v2 s0 s1 s2 h q) q) q)
    (fun _ _ _ q => nos q)
    kRZ_ok (Or.inr rfl) (by decide +kernel) (by decide +kernel) hf
def wX10_isRest_20 : List En := [(.if_icmp .lt 30, 50, 0, 0)]
def fX10_isRest_20 (v0 : Int32) (v1 : Int32) (v2 : Int32) (s0 : Int32) (s1 : Int32) (h : aH) : Option (Int32 × aH) :=
  if s1 < s0 then fX10_isRest_50 h else fX10_isRest_23 v0 v1 v2 h
theorem tX10_isRest_20 {d : Nat} {z : Int32 × aH} (v0 : Int32) (v1 : Int32) (v2 : Int32) (s0 : Int32) (s1 : Int32) (h : aH) (hf : fX10_isRest_20 v0 v1 v2 s0 s1 h = some z) : Ev (d + 1) none mX10_isRest (0, 0) 20 [.int v0, .int v1, .int v2] [.int s0, .int s1] h (QZ z) := 
  go_ok (X := none) (blk := wX10_isRest_20) (np := 23) (tt := 50) (kN := fun xs h st => app [1, 1, 1] (fun v0 v1 v2 => apS [] (fX10_isRest_23 v0 v1 v2 h) st) xs) (kT := fun xs h st => app [0, 0, 0] (apS [] (fX10_isRest_50 h) st) xs) (kR := kRZ)
    (fun xs h st q => jm [1, 1, 1] _ (fun v0 v1 v2 q => apS_ok [] _ (fun st => Ev (d + 1) none mX10_isRest (0, 0) 23 [.int v0, .int v1, .int v2] st h (QZ z)) st (fun q => tX10_isRest_23 v0 v1 v2 h q) q) q)
    (fun xs h st q => jm [0, 0, 0] _ (fun q => apS_ok [] _ (fun st => Ev (d + 1) none mX10_isRest (0, 0) 50 [.null, .null, .null] st h (QZ z)) st (fun q => tX10_isRest_50 h q) q) q)
    kRZ_ok (Or.inr rfl) (by decide +kernel) (by decide +kernel) hf
theorem kqX10_isRest_17 : okC mX10_isRest 17 (.invokestatic 295) 149 159 1 3 = true := by decide +kernel
def fX10_isRest_17 (v0 : Int32) (v1 : Int32) (v2 : Int32) (s0 : Int32) (s1 : Int32) (s2 : Int32) (s3 : Int32) (h : aH) : Option (Int32 × aH) :=
  (gX10_gain s2 s1 s0 h).bind fun r =>
  fX10_isRest_20 v0 v1 v2 r.1 s3 r.2
theorem tX10_isRest_17 {d : Nat} {z : Int32 × aH} (v0 : Int32) (v1 : Int32) (v2 : Int32) (s0 : Int32) (s1 : Int32) (s2 : Int32) (s3 : Int32) (h : aH) (hf : fX10_isRest_17 v0 v1 v2 s0 s1 s2 s3 h = some z) : Ev (d + 1) none mX10_isRest (0, 0) 17 [.int v0, .int v1, .int v2] [.int s0, .int s1, .int s2, .int s3] h (QZ z) := by
  obtain ⟨r, h2, hf⟩ := bnd hf
  refine ev_S kqX10_isRest_17 jX10_gain (zX10_gain (d := d + 0) h2) rfl (Nat.le_of_ble_eq_true rfl) rfl (as := [.int s2, .int s1, .int s0]) (rest := [.int s3]) rfl (Nat.le_of_ble_eq_true rfl) (fun _ _ hq => ?_)
  obtain ⟨rfl, rfl⟩ := hq
  exact jm [1, 1, 1] (fun v0 v1 v2 => fX10_isRest_20 v0 v1 v2 r.1 s3 r.2) (fun v0 v1 v2 q => tX10_isRest_20 v0 v1 v2 r.1 s3 r.2 q) hf
def wX10_isRest_16 : List En := [(.iload_n 2, 0, 0, 0)]
def fX10_isRest_16 (v0 : Int32) (v1 : Int32) (v2 : Int32) (s0 : Int32) (s1 : Int32) (s2 : Int32) (h : aH) : Option (Int32 × aH) :=
  fX10_isRest_17 v0 v1 v2 v2 s0 s1 s2 h
theorem tX10_isRest_16 {d : Nat} {z : Int32 × aH} (v0 : Int32) (v1 : Int32) (v2 : Int32) (s0 : Int32) (s1 : Int32) (s2 : Int32) (h : aH) (hf : fX10_isRest_16 v0 v1 v2 s0 s1 s2 h = some z) : Ev (d + 1) none mX10_isRest (0, 0) 16 [.int v0, .int v1, .int v2] [.int s0, .int s1, .int s2] h (QZ z) := 
  go_ok (X := none) (blk := wX10_isRest_16) (np := 17) (tt := 0) (kN := fun xs h st => app [1, 1, 1] (fun v0 v1 v2 => apS [1, 1, 1, 1] (fun s0 s1 s2 s3 => fX10_isRest_17 v0 v1 v2 s0 s1 s2 s3 h) st) xs) (kT := fun _ _ _ => none) (kR := kRZ)
    (fun xs h st q => jm [1, 1, 1] _ (fun v0 v1 v2 q => apS_ok [1, 1, 1, 1] _ (fun st => Ev (d + 1) none mX10_isRest (0, 0) 17 [.int v0, .int v1, .int v2] st h (QZ z)) st (fun s0 s1 s2 s3 q => tX10_isRest_17 v0 v1 v2 s0 s1 s2 s3 h q) q) q)
    (fun _ _ _ q => nos q)
    kRZ_ok (Or.inr rfl) (by decide +kernel) (by decide +kernel) hf
def wX10_isRest_15 : List En := [(.iconst 0, 0, 0, 0)]
def fX10_isRest_15 (v0 : Int32) (v1 : Int32) (v2 : Int32) (s0 : Int32) (s1 : Int32) (h : aH) : Option (Int32 × aH) :=
  fX10_isRest_16 v0 v1 v2 (kI 0) s0 s1 h
theorem tX10_isRest_15 {d : Nat} {z : Int32 × aH} (v0 : Int32) (v1 : Int32) (v2 : Int32) (s0 : Int32) (s1 : Int32) (h : aH) (hf : fX10_isRest_15 v0 v1 v2 s0 s1 h = some z) : Ev (d + 1) none mX10_isRest (0, 0) 15 [.int v0, .int v1, .int v2] [.int s0, .int s1] h (QZ z) := 
  go_ok (X := none) (blk := wX10_isRest_15) (np := 16) (tt := 0) (kN := fun xs h st => app [1, 1, 1] (fun v0 v1 v2 => apS [1, 1, 1] (fun s0 s1 s2 => fX10_isRest_16 v0 v1 v2 s0 s1 s2 h) st) xs) (kT := fun _ _ _ => none) (kR := kRZ)
    (fun xs h st q => jm [1, 1, 1] _ (fun v0 v1 v2 q => apS_ok [1, 1, 1] _ (fun st => Ev (d + 1) none mX10_isRest (0, 0) 16 [.int v0, .int v1, .int v2] st h (QZ z)) st (fun s0 s1 s2 q => tX10_isRest_16 v0 v1 v2 s0 s1 s2 h q) q) q)
    (fun _ _ _ q => nos q)
    kRZ_ok (Or.inr rfl) (by decide +kernel) (by decide +kernel) hf
def wX10_isRest_11 : List En := [(.iconst 1, 0, 0, 0), (.goto 4, 16, 0, 0)]
def fX10_isRest_11 (v0 : Int32) (v1 : Int32) (v2 : Int32) (s0 : Int32) (s1 : Int32) (h : aH) : Option (Int32 × aH) :=
  fX10_isRest_16 v0 v1 v2 (kI 1) s0 s1 h
theorem tX10_isRest_11 {d : Nat} {z : Int32 × aH} (v0 : Int32) (v1 : Int32) (v2 : Int32) (s0 : Int32) (s1 : Int32) (h : aH) (hf : fX10_isRest_11 v0 v1 v2 s0 s1 h = some z) : Ev (d + 1) none mX10_isRest (0, 0) 11 [.int v0, .int v1, .int v2] [.int s0, .int s1] h (QZ z) := 
  go_ok (X := none) (blk := wX10_isRest_11) (np := 15) (tt := 16) (kN := fun _ _ _ => none) (kT := fun xs h st => app [1, 1, 1] (fun v0 v1 v2 => apS [1, 1, 1] (fun s0 s1 s2 => fX10_isRest_16 v0 v1 v2 s0 s1 s2 h) st) xs) (kR := kRZ)
    (fun _ _ _ q => nos q)
    (fun xs h st q => jm [1, 1, 1] _ (fun v0 v1 v2 q => apS_ok [1, 1, 1] _ (fun st => Ev (d + 1) none mX10_isRest (0, 0) 16 [.int v0, .int v1, .int v2] st h (QZ z)) st (fun s0 s1 s2 q => tX10_isRest_16 v0 v1 v2 s0 s1 s2 h q) q) q)
    kRZ_ok (Or.inr rfl) (by decide +kernel) (by decide +kernel) hf
def wX10_isRest_6 : List En := [(.iload_n 0, 0, 0, 0), (.iload_n 1, 0, 0, 0), (.ifCond .ne 7, 15, 0, 0)]
def fX10_isRest_6 (v0 : Int32) (v1 : Int32) (v2 : Int32) (s0 : Int32) (h : aH) : Option (Int32 × aH) :=
  if v1 = 0 then fX10_isRest_11 v0 v1 v2 v0 s0 h else fX10_isRest_15 v0 v1 v2 v0 s0 h
theorem tX10_isRest_6 {d : Nat} {z : Int32 × aH} (v0 : Int32) (v1 : Int32) (v2 : Int32) (s0 : Int32) (h : aH) (hf : fX10_isRest_6 v0 v1 v2 s0 h = some z) : Ev (d + 1) none mX10_isRest (0, 0) 6 [.int v0, .int v1, .int v2] [.int s0] h (QZ z) := 
  go_ok (X := none) (blk := wX10_isRest_6) (np := 11) (tt := 15) (kN := fun xs h st => app [1, 1, 1] (fun v0 v1 v2 => apS [1, 1] (fun s0 s1 => fX10_isRest_11 v0 v1 v2 s0 s1 h) st) xs) (kT := fun xs h st => app [1, 1, 1] (fun v0 v1 v2 => apS [1, 1] (fun s0 s1 => fX10_isRest_15 v0 v1 v2 s0 s1 h) st) xs) (kR := kRZ)
    (fun xs h st q => jm [1, 1, 1] _ (fun v0 v1 v2 q => apS_ok [1, 1] _ (fun st => Ev (d + 1) none mX10_isRest (0, 0) 11 [.int v0, .int v1, .int v2] st h (QZ z)) st (fun s0 s1 q => tX10_isRest_11 v0 v1 v2 s0 s1 h q) q) q)
    (fun xs h st q => jm [1, 1, 1] _ (fun v0 v1 v2 q => apS_ok [1, 1] _ (fun st => Ev (d + 1) none mX10_isRest (0, 0) 15 [.int v0, .int v1, .int v2] st h (QZ z)) st (fun s0 s1 q => tX10_isRest_15 v0 v1 v2 s0 s1 h q) q) q)
    kRZ_ok (Or.inr rfl) (by decide +kernel) (by decide +kernel) hf
theorem kqX10_isRest_3 : okC mX10_isRest 3 (.invokestatic 295) 149 159 1 3 = true := by decide +kernel
def fX10_isRest_3 (v0 : Int32) (v1 : Int32) (v2 : Int32) (s0 : Int32) (s1 : Int32) (s2 : Int32) (h : aH) : Option (Int32 × aH) :=
  (gX10_gain s2 s1 s0 h).bind fun r =>
  fX10_isRest_6 v0 v1 v2 r.1 r.2
theorem tX10_isRest_3 {d : Nat} {z : Int32 × aH} (v0 : Int32) (v1 : Int32) (v2 : Int32) (s0 : Int32) (s1 : Int32) (s2 : Int32) (h : aH) (hf : fX10_isRest_3 v0 v1 v2 s0 s1 s2 h = some z) : Ev (d + 1) none mX10_isRest (0, 0) 3 [.int v0, .int v1, .int v2] [.int s0, .int s1, .int s2] h (QZ z) := by
  obtain ⟨r, h2, hf⟩ := bnd hf
  refine ev_S kqX10_isRest_3 jX10_gain (zX10_gain (d := d + 0) h2) rfl (Nat.le_of_ble_eq_true rfl) rfl (as := [.int s2, .int s1, .int s0]) (rest := []) rfl (Nat.le_of_ble_eq_true rfl) (fun _ _ hq => ?_)
  obtain ⟨rfl, rfl⟩ := hq
  exact jm [1, 1, 1] (fun v0 v1 v2 => fX10_isRest_6 v0 v1 v2 r.1 r.2) (fun v0 v1 v2 q => tX10_isRest_6 v0 v1 v2 r.1 r.2 q) hf
def wX10_isRest_0 : List En := [(.iload_n 0, 0, 0, 0), (.iload_n 1, 0, 0, 0), (.iload_n 2, 0, 0, 0)]
def fX10_isRest_0 (v0 : Int32) (v1 : Int32) (v2 : Int32) (h : aH) : Option (Int32 × aH) :=
  fX10_isRest_3 v0 v1 v2 v2 v1 v0 h
theorem tX10_isRest_0 {d : Nat} {z : Int32 × aH} (v0 : Int32) (v1 : Int32) (v2 : Int32) (h : aH) (hf : fX10_isRest_0 v0 v1 v2 h = some z) : Ev (d + 1) none mX10_isRest (0, 0) 0 [.int v0, .int v1, .int v2] [] h (QZ z) := 
  go_ok (X := none) (blk := wX10_isRest_0) (np := 3) (tt := 0) (kN := fun xs h st => app [1, 1, 1] (fun v0 v1 v2 => apS [1, 1, 1] (fun s0 s1 s2 => fX10_isRest_3 v0 v1 v2 s0 s1 s2 h) st) xs) (kT := fun _ _ _ => none) (kR := kRZ)
    (fun xs h st q => jm [1, 1, 1] _ (fun v0 v1 v2 q => apS_ok [1, 1, 1] _ (fun st => Ev (d + 1) none mX10_isRest (0, 0) 3 [.int v0, .int v1, .int v2] st h (QZ z)) st (fun s0 s1 s2 q => tX10_isRest_3 v0 v1 v2 s0 s1 s2 h q) q) q)
    (fun _ _ _ q => nos q)
    kRZ_ok (Or.inr rfl) (by decide +kernel) (by decide +kernel) hf
def gX10_isRest (v0 : Int32) (v1 : Int32) (v2 : Int32) (h : aH) : Option (Int32 × aH) := fX10_isRest_0 v0 v1 v2 h
theorem zX10_isRest {d : Nat} {z : Int32 × aH} {v0 : Int32} {v1 : Int32} {v2 : Int32} {h : aH} (q : gX10_isRest v0 v1 v2 h = some z) : CT (d + 1) mX10_isRest (0, 0) [.int v0, .int v1, .int v2] h (QZ z) :=
  ct_ev (by decide +kernel) (Nat.le_of_ble_eq_true rfl) QZ_r (jm [1, 1, 1] (fun v0 v1 v2 => fX10_isRest_0 v0 v1 v2 h) (fun v0 v1 v2 q => tX10_isRest_0 v0 v1 v2 h q) q)
def wX10_rests_69 : List En := [(.iload_n 2, 0, 0, 0), (.ireturn, 0, 0, 0)]
def fX10_rests_69 (v2 : Int32) (h : aH) : Option (Int32 × aH) :=
  some (v2, h)
theorem tX10_rests_69 {d : Nat} {z : Int32 × aH} (v2 : Int32) (h : aH) (hf : fX10_rests_69 v2 h = some z) : Ev (d + 2) none mX10_rests (0, 0) 69 [.null, .null, .int v2, .null] [] h (QI z) := 
  go_ok (X := none) (blk := wX10_rests_69) (np := 71) (tt := 0) (kN := fun _ _ _ => none) (kT := fun _ _ _ => none) (kR := kRI)
    (fun _ _ _ q => nos q)
    (fun _ _ _ q => nos q)
    kRI_ok (Or.inr rfl) (by decide +kernel) (by decide +kernel) hf
def wX10_rests_61 : List En := [(.iadd, 0, 0, 0), (.istore_n 2, 0, 0, 0), (.iinc 3 1, 0, 0, 0), (.goto (-45), 21, 0, 0)]
def fX10_rests_61 (k21 : Int32 → Int32 → Int32 → aH → Option (Int32 × aH)) (v1 : Int32) (v3 : Int32) (s0 : Int32) (s1 : Int32) (h : aH) : Option (Int32 × aH) :=
  k21 v1 (s1 + s0) (v3 + kI 1) h
theorem tX10_rests_61 {d : Nat} {z : Int32 × aH} {k21 : Int32 → Int32 → Int32 → aH → Option (Int32 × aH)} (hk21 : ∀ (v1 : Int32) (v2 : Int32) (v3 : Int32) (h : aH), k21 v1 v2 v3 h = some z → Ev (d + 2) none mX10_rests (0, 0) 21 [.null, .int v1, .int v2, .int v3] [] h (QI z)) (v1 : Int32) (v3 : Int32) (s0 : Int32) (s1 : Int32) (h : aH) (hf : fX10_rests_61 k21 v1 v3 s0 s1 h = some z) : Ev (d + 2) none mX10_rests (0, 0) 61 [.null, .int v1, .null, .int v3] [.int s0, .int s1] h (QI z) := 
  go_ok (X := none) (blk := wX10_rests_61) (np := 69) (tt := 21) (kN := fun _ _ _ => none) (kT := fun xs h st => app [0, 1, 1, 1] (fun v1 v2 v3 => apS [] (k21 v1 v2 v3 h) st) xs) (kR := kRI)
    (fun _ _ _ q => nos q)
    (fun xs h st q => jm [0, 1, 1, 1] _ (fun v1 v2 v3 q => apS_ok [] _ (fun st => Ev (d + 2) none mX10_rests (0, 0) 21 [.null, .int v1, .int v2, .int v3] st h (QI z)) st (fun q => hk21 v1 v2 v3 h q) q) q)
    kRI_ok (Or.inr rfl) (by decide +kernel) (by decide +kernel) hf
def wX10_rests_60 : List En := [(.iconst 0, 0, 0, 0)]
def fX10_rests_60 (k21 : Int32 → Int32 → Int32 → aH → Option (Int32 × aH)) (v1 : Int32) (v3 : Int32) (s0 : Int32) (h : aH) : Option (Int32 × aH) :=
  fX10_rests_61 k21 v1 v3 (kI 0) s0 h
theorem tX10_rests_60 {d : Nat} {z : Int32 × aH} {k21 : Int32 → Int32 → Int32 → aH → Option (Int32 × aH)} (hk21 : ∀ (v1 : Int32) (v2 : Int32) (v3 : Int32) (h : aH), k21 v1 v2 v3 h = some z → Ev (d + 2) none mX10_rests (0, 0) 21 [.null, .int v1, .int v2, .int v3] [] h (QI z)) (v1 : Int32) (v3 : Int32) (s0 : Int32) (h : aH) (hf : fX10_rests_60 k21 v1 v3 s0 h = some z) : Ev (d + 2) none mX10_rests (0, 0) 60 [.null, .int v1, .null, .int v3] [.int s0] h (QI z) := 
  go_ok (X := none) (blk := wX10_rests_60) (np := 61) (tt := 0) (kN := fun xs h st => app [0, 1, 0, 1] (fun v1 v3 => apS [1, 1] (fun s0 s1 => fX10_rests_61 k21 v1 v3 s0 s1 h) st) xs) (kT := fun _ _ _ => none) (kR := kRI)
    (fun xs h st q => jm [0, 1, 0, 1] _ (fun v1 v3 q => apS_ok [1, 1] _ (fun st => Ev (d + 2) none mX10_rests (0, 0) 61 [.null, .int v1, .null, .int v3] st h (QI z)) st (fun s0 s1 q => tX10_rests_61 hk21 v1 v3 s0 s1 h q) q) q)
    (fun _ _ _ q => nos q)
    kRI_ok (Or.inr rfl) (by decide +kernel) (by decide +kernel) hf
def wX10_rests_56 : List En := [(.iconst 1, 0, 0, 0), (.goto 4, 61, 0, 0)]
def fX10_rests_56 (k21 : Int32 → Int32 → Int32 → aH → Option (Int32 × aH)) (v1 : Int32) (v3 : Int32) (s0 : Int32) (h : aH) : Option (Int32 × aH) :=
  fX10_rests_61 k21 v1 v3 (kI 1) s0 h
theorem tX10_rests_56 {d : Nat} {z : Int32 × aH} {k21 : Int32 → Int32 → Int32 → aH → Option (Int32 × aH)} (hk21 : ∀ (v1 : Int32) (v2 : Int32) (v3 : Int32) (h : aH), k21 v1 v2 v3 h = some z → Ev (d + 2) none mX10_rests (0, 0) 21 [.null, .int v1, .int v2, .int v3] [] h (QI z)) (v1 : Int32) (v3 : Int32) (s0 : Int32) (h : aH) (hf : fX10_rests_56 k21 v1 v3 s0 h = some z) : Ev (d + 2) none mX10_rests (0, 0) 56 [.null, .int v1, .null, .int v3] [.int s0] h (QI z) := 
  go_ok (X := none) (blk := wX10_rests_56) (np := 60) (tt := 61) (kN := fun _ _ _ => none) (kT := fun xs h st => app [0, 1, 0, 1] (fun v1 v3 => apS [1, 1] (fun s0 s1 => fX10_rests_61 k21 v1 v3 s0 s1 h) st) xs) (kR := kRI)
    (fun _ _ _ q => nos q)
    (fun xs h st q => jm [0, 1, 0, 1] _ (fun v1 v3 q => apS_ok [1, 1] _ (fun st => Ev (d + 2) none mX10_rests (0, 0) 61 [.null, .int v1, .null, .int v3] st h (QI z)) st (fun s0 s1 q => tX10_rests_61 hk21 v1 v3 s0 s1 h q) q) q)
    kRI_ok (Or.inr rfl) (by decide +kernel) (by decide +kernel) hf
def wX10_rests_53 : List En := [(.ifCond .eq 7, 60, 0, 0)]
def fX10_rests_53 (k21 : Int32 → Int32 → Int32 → aH → Option (Int32 × aH)) (v1 : Int32) (v3 : Int32) (s0 : Int32) (s1 : Int32) (h : aH) : Option (Int32 × aH) :=
  if s0 = 0 then fX10_rests_60 k21 v1 v3 s1 h else fX10_rests_56 k21 v1 v3 s1 h
theorem tX10_rests_53 {d : Nat} {z : Int32 × aH} {k21 : Int32 → Int32 → Int32 → aH → Option (Int32 × aH)} (hk21 : ∀ (v1 : Int32) (v2 : Int32) (v3 : Int32) (h : aH), k21 v1 v2 v3 h = some z → Ev (d + 2) none mX10_rests (0, 0) 21 [.null, .int v1, .int v2, .int v3] [] h (QI z)) (v1 : Int32) (v3 : Int32) (s0 : Int32) (s1 : Int32) (h : aH) (hf : fX10_rests_53 k21 v1 v3 s0 s1 h = some z) : Ev (d + 2) none mX10_rests (0, 0) 53 [.null, .int v1, .null, .int v3] [.int s0, .int s1] h (QI z) := 
  go_ok (X := none) (blk := wX10_rests_53) (np := 56) (tt := 60) (kN := fun xs h st => app [0, 1, 0, 1] (fun v1 v3 => apS [1] (fun s0 => fX10_rests_56 k21 v1 v3 s0 h) st) xs) (kT := fun xs h st => app [0, 1, 0, 1] (fun v1 v3 => apS [1] (fun s0 => fX10_rests_60 k21 v1 v3 s0 h) st) xs) (kR := kRI)
    (fun xs h st q => jm [0, 1, 0, 1] _ (fun v1 v3 q => apS_ok [1] _ (fun st => Ev (d + 2) none mX10_rests (0, 0) 56 [.null, .int v1, .null, .int v3] st h (QI z)) st (fun s0 q => tX10_rests_56 hk21 v1 v3 s0 h q) q) q)
    (fun xs h st q => jm [0, 1, 0, 1] _ (fun v1 v3 q => apS_ok [1] _ (fun st => Ev (d + 2) none mX10_rests (0, 0) 60 [.null, .int v1, .null, .int v3] st h (QI z)) st (fun s0 q => tX10_rests_60 hk21 v1 v3 s0 h q) q) q)
    kRI_ok (Or.inr rfl) (by decide +kernel) (by decide +kernel) hf
theorem kqX10_rests_50 : okC mX10_rests 50 (.invokestatic 299) 151 161 1 3 = true := by decide +kernel
def fX10_rests_50 (k21 : Int32 → Int32 → Int32 → aH → Option (Int32 × aH)) (v1 : Int32) (v3 : Int32) (s0 : Int32) (s1 : Int32) (s2 : Int32) (s3 : Int32) (h : aH) : Option (Int32 × aH) :=
  (gX10_isRest s2 s1 s0 h).bind fun r =>
  fX10_rests_53 k21 v1 v3 r.1 s3 r.2
theorem tX10_rests_50 {d : Nat} {z : Int32 × aH} {k21 : Int32 → Int32 → Int32 → aH → Option (Int32 × aH)} (hk21 : ∀ (v1 : Int32) (v2 : Int32) (v3 : Int32) (h : aH), k21 v1 v2 v3 h = some z → Ev (d + 2) none mX10_rests (0, 0) 21 [.null, .int v1, .int v2, .int v3] [] h (QI z)) (v1 : Int32) (v3 : Int32) (s0 : Int32) (s1 : Int32) (s2 : Int32) (s3 : Int32) (h : aH) (hf : fX10_rests_50 k21 v1 v3 s0 s1 s2 s3 h = some z) : Ev (d + 2) none mX10_rests (0, 0) 50 [.null, .int v1, .null, .int v3] [.int s0, .int s1, .int s2, .int s3] h (QI z) := by
  obtain ⟨r, h2, hf⟩ := bnd hf
  refine ev_S kqX10_rests_50 jX10_isRest (zX10_isRest (d := d + 0) h2) rfl (Nat.le_of_ble_eq_true rfl) rfl (as := [.int s2, .int s1, .int s0]) (rest := [.int s3]) rfl (Nat.le_of_ble_eq_true rfl) (fun _ _ hq => ?_)
  obtain ⟨-, rfl, rfl⟩ := hq
  exact jm [0, 1, 0, 1] (fun v1 v3 => fX10_rests_53 k21 v1 v3 r.1 s3 r.2) (fun v1 v3 q => tX10_rests_53 hk21 v1 v3 r.1 s3 r.2 q) hf
def wX10_rests_49 : List En := [(.iconst 0, 0, 0, 0)]
def fX10_rests_49 (k21 : Int32 → Int32 → Int32 → aH → Option (Int32 × aH)) (v1 : Int32) (v3 : Int32) (s0 : Int32) (s1 : Int32) (s2 : Int32) (h : aH) : Option (Int32 × aH) :=
  fX10_rests_50 k21 v1 v3 (kI 0) s0 s1 s2 h
theorem tX10_rests_49 {d : Nat} {z : Int32 × aH} {k21 : Int32 → Int32 → Int32 → aH → Option (Int32 × aH)} (hk21 : ∀ (v1 : Int32) (v2 : Int32) (v3 : Int32) (h : aH), k21 v1 v2 v3 h = some z → Ev (d + 2) none mX10_rests (0, 0) 21 [.null, .int v1, .int v2, .int v3] [] h (QI z)) (v1 : Int32) (v3 : Int32) (s0 : Int32) (s1 : Int32) (s2 : Int32) (h : aH) (hf : fX10_rests_49 k21 v1 v3 s0 s1 s2 h = some z) : Ev (d + 2) none mX10_rests (0, 0) 49 [.null, .int v1, .null, .int v3] [.int s0, .int s1, .int s2] h (QI z) := 
  go_ok (X := none) (blk := wX10_rests_49) (np := 50) (tt := 0) (kN := fun xs h st => app [0, 1, 0, 1] (fun v1 v3 => apS [1, 1, 1, 1] (fun s0 s1 s2 s3 => fX10_rests_50 k21 v1 v3 s0 s1 s2 s3 h) st) xs) (kT := fun _ _ _ => none) (kR := kRI)
    (fun xs h st q => jm [0, 1, 0, 1] _ (fun v1 v3 q => apS_ok [1, 1, 1, 1] _ (fun st => Ev (d + 2) none mX10_rests (0, 0) 50 [.null, .int v1, .null, .int v3] st h (QI z)) st (fun s0 s1 s2 s3 q => tX10_rests_50 hk21 v1 v3 s0 s1 s2 s3 h q) q) q)
    (fun _ _ _ q => nos q)
    kRI_ok (Or.inr rfl) (by decide +kernel) (by decide +kernel) hf
def wX10_rests_45 : List En := [(.iconst 1, 0, 0, 0), (.goto 4, 50, 0, 0)]
def fX10_rests_45 (k21 : Int32 → Int32 → Int32 → aH → Option (Int32 × aH)) (v1 : Int32) (v3 : Int32) (s0 : Int32) (s1 : Int32) (s2 : Int32) (h : aH) : Option (Int32 × aH) :=
  fX10_rests_50 k21 v1 v3 (kI 1) s0 s1 s2 h
theorem tX10_rests_45 {d : Nat} {z : Int32 × aH} {k21 : Int32 → Int32 → Int32 → aH → Option (Int32 × aH)} (hk21 : ∀ (v1 : Int32) (v2 : Int32) (v3 : Int32) (h : aH), k21 v1 v2 v3 h = some z → Ev (d + 2) none mX10_rests (0, 0) 21 [.null, .int v1, .int v2, .int v3] [] h (QI z)) (v1 : Int32) (v3 : Int32) (s0 : Int32) (s1 : Int32) (s2 : Int32) (h : aH) (hf : fX10_rests_45 k21 v1 v3 s0 s1 s2 h = some z) : Ev (d + 2) none mX10_rests (0, 0) 45 [.null, .int v1, .null, .int v3] [.int s0, .int s1, .int s2] h (QI z) := 
  go_ok (X := none) (blk := wX10_rests_45) (np := 49) (tt := 50) (kN := fun _ _ _ => none) (kT := fun xs h st => app [0, 1, 0, 1] (fun v1 v3 => apS [1, 1, 1, 1] (fun s0 s1 s2 s3 => fX10_rests_50 k21 v1 v3 s0 s1 s2 s3 h) st) xs) (kR := kRI)
    (fun _ _ _ q => nos q)
    (fun xs h st q => jm [0, 1, 0, 1] _ (fun v1 v3 q => apS_ok [1, 1, 1, 1] _ (fun st => Ev (d + 2) none mX10_rests (0, 0) 50 [.null, .int v1, .null, .int v3] st h (QI z)) st (fun s0 s1 s2 s3 q => tX10_rests_50 hk21 v1 v3 s0 s1 s2 s3 h q) q) q)
    kRI_ok (Or.inr rfl) (by decide +kernel) (by decide +kernel) hf
def wX10_rests_38 : List En := [(.iload_n 3, 0, 0, 0), (.iconst 2, 0, 0, 0), (.irem, 0, 0, 0), (.iconst 1, 0, 0, 0), (.if_icmp .ne 7, 49, 0, 0)]
def fX10_rests_38 (k21 : Int32 → Int32 → Int32 → aH → Option (Int32 × aH)) (v1 : Int32) (v3 : Int32) (s0 : Int32) (s1 : Int32) (s2 : Int32) (h : aH) : Option (Int32 × aH) :=
  if (kI 2) = 0 then none else
  if (v3 - v3 / (kI 2) * (kI 2)) = (kI 1) then fX10_rests_45 k21 v1 v3 s0 s1 s2 h else fX10_rests_49 k21 v1 v3 s0 s1 s2 h
theorem tX10_rests_38 {d : Nat} {z : Int32 × aH} {k21 : Int32 → Int32 → Int32 → aH → Option (Int32 × aH)} (hk21 : ∀ (v1 : Int32) (v2 : Int32) (v3 : Int32) (h : aH), k21 v1 v2 v3 h = some z → Ev (d + 2) none mX10_rests (0, 0) 21 [.null, .int v1, .int v2, .int v3] [] h (QI z)) (v1 : Int32) (v3 : Int32) (s0 : Int32) (s1 : Int32) (s2 : Int32) (h : aH) (hf : fX10_rests_38 k21 v1 v3 s0 s1 s2 h = some z) : Ev (d + 2) none mX10_rests (0, 0) 38 [.null, .int v1, .null, .int v3] [.int s0, .int s1, .int s2] h (QI z) := 
  go_ok (X := none) (blk := wX10_rests_38) (np := 45) (tt := 49) (kN := fun xs h st => app [0, 1, 0, 1] (fun v1 v3 => apS [1, 1, 1] (fun s0 s1 s2 => fX10_rests_45 k21 v1 v3 s0 s1 s2 h) st) xs) (kT := fun xs h st => app [0, 1, 0, 1] (fun v1 v3 => apS [1, 1, 1] (fun s0 s1 s2 => fX10_rests_49 k21 v1 v3 s0 s1 s2 h) st) xs) (kR := kRI)
    (fun xs h st q => jm [0, 1, 0, 1] _ (fun v1 v3 q => apS_ok [1, 1, 1] _ (fun st => Ev (d + 2) none mX10_rests (0, 0) 45 [.null, .int v1, .null, .int v3] st h (QI z)) st (fun s0 s1 s2 q => tX10_rests_45 hk21 v1 v3 s0 s1 s2 h q) q) q)
    (fun xs h st q => jm [0, 1, 0, 1] _ (fun v1 v3 q => apS_ok [1, 1, 1] _ (fun st => Ev (d + 2) none mX10_rests (0, 0) 49 [.null, .int v1, .null, .int v3] st h (QI z)) st (fun s0 s1 s2 q => tX10_rests_49 hk21 v1 v3 s0 s1 s2 h q) q) q)
    kRI_ok (Or.inr rfl) (by decide +kernel) (by decide +kernel) hf
def wX10_rests_37 : List En := [(.iconst 0, 0, 0, 0)]
def fX10_rests_37 (k21 : Int32 → Int32 → Int32 → aH → Option (Int32 × aH)) (v1 : Int32) (v3 : Int32) (s0 : Int32) (s1 : Int32) (h : aH) : Option (Int32 × aH) :=
  fX10_rests_38 k21 v1 v3 (kI 0) s0 s1 h
theorem tX10_rests_37 {d : Nat} {z : Int32 × aH} {k21 : Int32 → Int32 → Int32 → aH → Option (Int32 × aH)} (hk21 : ∀ (v1 : Int32) (v2 : Int32) (v3 : Int32) (h : aH), k21 v1 v2 v3 h = some z → Ev (d + 2) none mX10_rests (0, 0) 21 [.null, .int v1, .int v2, .int v3] [] h (QI z)) (v1 : Int32) (v3 : Int32) (s0 : Int32) (s1 : Int32) (h : aH) (hf : fX10_rests_37 k21 v1 v3 s0 s1 h = some z) : Ev (d + 2) none mX10_rests (0, 0) 37 [.null, .int v1, .null, .int v3] [.int s0, .int s1] h (QI z) := 
  go_ok (X := none) (blk := wX10_rests_37) (np := 38) (tt := 0) (kN := fun xs h st => app [0, 1, 0, 1] (fun v1 v3 => apS [1, 1, 1] (fun s0 s1 s2 => fX10_rests_38 k21 v1 v3 s0 s1 s2 h) st) xs) (kT := fun _ _ _ => none) (kR := kRI)
    (fun xs h st q => jm [0, 1, 0, 1] _ (fun v1 v3 q => apS_ok [1, 1, 1] _ (fun st => Ev (d + 2) none mX10_rests (0, 0) 38 [.null, .int v1, .null, .int v3] st h (QI z)) st (fun s0 s1 s2 q => tX10_rests_38 hk21 v1 v3 s0 s1 s2 h q) q) q)
    (fun _ _ _ q => nos q)
    kRI_ok (Or.inr rfl) (by decide +kernel) (by decide +kernel) hf
def wX10_rests_33 : List En := [(.iconst 1, 0, 0, 0), (.goto 4, 38, 0, 0)]
def fX10_rests_33 (k21 : Int32 → Int32 → Int32 → aH → Option (Int32 × aH)) (v1 : Int32) (v3 : Int32) (s0 : Int32) (s1 : Int32) (h : aH) : Option (Int32 × aH) :=
  fX10_rests_38 k21 v1 v3 (kI 1) s0 s1 h
theorem tX10_rests_33 {d : Nat} {z : Int32 × aH} {k21 : Int32 → Int32 → Int32 → aH → Option (Int32 × aH)} (hk21 : ∀ (v1 : Int32) (v2 : Int32) (v3 : Int32) (h : aH), k21 v1 v2 v3 h = some z → Ev (d + 2) none mX10_rests (0, 0) 21 [.null, .int v1, .int v2, .int v3] [] h (QI z)) (v1 : Int32) (v3 : Int32) (s0 : Int32) (s1 : Int32) (h : aH) (hf : fX10_rests_33 k21 v1 v3 s0 s1 h = some z) : Ev (d + 2) none mX10_rests (0, 0) 33 [.null, .int v1, .null, .int v3] [.int s0, .int s1] h (QI z) := 
  go_ok (X := none) (blk := wX10_rests_33) (np := 37) (tt := 38) (kN := fun _ _ _ => none) (kT := fun xs h st => app [0, 1, 0, 1] (fun v1 v3 => apS [1, 1, 1] (fun s0 s1 s2 => fX10_rests_38 k21 v1 v3 s0 s1 s2 h) st) xs) (kR := kRI)
    (fun _ _ _ q => nos q)
    (fun xs h st q => jm [0, 1, 0, 1] _ (fun v1 v3 q => apS_ok [1, 1, 1] _ (fun st => Ev (d + 2) none mX10_rests (0, 0) 38 [.null, .int v1, .null, .int v3] st h (QI z)) st (fun s0 s1 s2 q => tX10_rests_38 hk21 v1 v3 s0 s1 s2 h q) q) q)
    kRI_ok (Or.inr rfl) (by decide +kernel) (by decide +kernel) hf
def wX10_rests_26 : List En := [(.iload_n 2, 0, 0, 0), (.iload_n 1, 0, 0, 0), (.iload_n 3, 0, 0, 0), (.iconst 2, 0, 0, 0), (.if_icmp .lt 7, 37, 0, 0)]
def fX10_rests_26 (k21 : Int32 → Int32 → Int32 → aH → Option (Int32 × aH)) (v1 : Int32) (v2 : Int32) (v3 : Int32) (h : aH) : Option (Int32 × aH) :=
  if v3 < (kI 2) then fX10_rests_37 k21 v1 v3 v1 v2 h else fX10_rests_33 k21 v1 v3 v1 v2 h
theorem tX10_rests_26 {d : Nat} {z : Int32 × aH} {k21 : Int32 → Int32 → Int32 → aH → Option (Int32 × aH)} (hk21 : ∀ (v1 : Int32) (v2 : Int32) (v3 : Int32) (h : aH), k21 v1 v2 v3 h = some z → Ev (d + 2) none mX10_rests (0, 0) 21 [.null, .int v1, .int v2, .int v3] [] h (QI z)) (v1 : Int32) (v2 : Int32) (v3 : Int32) (h : aH) (hf : fX10_rests_26 k21 v1 v2 v3 h = some z) : Ev (d + 2) none mX10_rests (0, 0) 26 [.null, .int v1, .int v2, .int v3] [] h (QI z) := 
  go_ok (X := none) (blk := wX10_rests_26) (np := 33) (tt := 37) (kN := fun xs h st => app [0, 1, 0, 1] (fun v1 v3 => apS [1, 1] (fun s0 s1 => fX10_rests_33 k21 v1 v3 s0 s1 h) st) xs) (kT := fun xs h st => app [0, 1, 0, 1] (fun v1 v3 => apS [1, 1] (fun s0 s1 => fX10_rests_37 k21 v1 v3 s0 s1 h) st) xs) (kR := kRI)
    (fun xs h st q => jm [0, 1, 0, 1] _ (fun v1 v3 q => apS_ok [1, 1] _ (fun st => Ev (d + 2) none mX10_rests (0, 0) 33 [.null, .int v1, .null, .int v3] st h (QI z)) st (fun s0 s1 q => tX10_rests_33 hk21 v1 v3 s0 s1 h q) q) q)
    (fun xs h st q => jm [0, 1, 0, 1] _ (fun v1 v3 q => apS_ok [1, 1] _ (fun st => Ev (d + 2) none mX10_rests (0, 0) 37 [.null, .int v1, .null, .int v3] st h (QI z)) st (fun s0 s1 q => tX10_rests_37 hk21 v1 v3 s0 s1 h q) q) q)
    kRI_ok (Or.inr rfl) (by decide +kernel) (by decide +kernel) hf
def wX10_rests_21 : List En := [(.iload_n 3, 0, 0, 0), (.iconst 4, 0, 0, 0), (.if_icmp .ge 46, 69, 0, 0)]
def fX10_rests_21 (k21 : Int32 → Int32 → Int32 → aH → Option (Int32 × aH)) (v1 : Int32) (v2 : Int32) (v3 : Int32) (h : aH) : Option (Int32 × aH) :=
  if v3 < (kI 4) then fX10_rests_26 k21 v1 v2 v3 h else fX10_rests_69 v2 h
theorem tX10_rests_21 {d : Nat} {z : Int32 × aH} {k21 : Int32 → Int32 → Int32 → aH → Option (Int32 × aH)} (hk21 : ∀ (v1 : Int32) (v2 : Int32) (v3 : Int32) (h : aH), k21 v1 v2 v3 h = some z → Ev (d + 2) none mX10_rests (0, 0) 21 [.null, .int v1, .int v2, .int v3] [] h (QI z)) (v1 : Int32) (v2 : Int32) (v3 : Int32) (h : aH) (hf : fX10_rests_21 k21 v1 v2 v3 h = some z) : Ev (d + 2) none mX10_rests (0, 0) 21 [.null, .int v1, .int v2, .int v3] [] h (QI z) := 
  go_ok (X := none) (blk := wX10_rests_21) (np := 26) (tt := 69) (kN := fun xs h st => app [0, 1, 1, 1] (fun v1 v2 v3 => apS [] (fX10_rests_26 k21 v1 v2 v3 h) st) xs) (kT := fun xs h st => app [0, 0, 1, 0] (fun v2 => apS [] (fX10_rests_69 v2 h) st) xs) (kR := kRI)
    (fun xs h st q => jm [0, 1, 1, 1] _ (fun v1 v2 v3 q => apS_ok [] _ (fun st => Ev (d + 2) none mX10_rests (0, 0) 26 [.null, .int v1, .int v2, .int v3] st h (QI z)) st (fun q => tX10_rests_26 hk21 v1 v2 v3 h q) q) q)
    (fun xs h st q => jm [0, 0, 1, 0] _ (fun v2 q => apS_ok [] _ (fun st => Ev (d + 2) none mX10_rests (0, 0) 69 [.null, .null, .int v2, .null] st h (QI z)) st (fun q => tX10_rests_69 v2 h q) q) q)
    kRI_ok (Or.inr rfl) (by decide +kernel) (by decide +kernel) hf
def lX10_rests_21 : Nat → Int32 → Int32 → Int32 → aH → Option (Int32 × aH)
  | 0, _, _, _, _ => none
  | n + 1, v1, v2, v3, h => fX10_rests_21 (lX10_rests_21 n) v1 v2 v3 h
theorem uX10_rests_21 {d : Nat} {z : Int32 × aH} : ∀ (n : Nat) (v1 : Int32) (v2 : Int32) (v3 : Int32) (h : aH), lX10_rests_21 n v1 v2 v3 h = some z → Ev (d + 2) none mX10_rests (0, 0) 21 [.null, .int v1, .int v2, .int v3] [] h (QI z) := by
  intro n
  induction n with
  | zero => intro _ _ _ _ q; exact nos (show (none : Option (Int32 × aH)) = some z from q)
  | succ n ih => intro v1 v2 v3 h q; exact tX10_rests_21 ih v1 v2 v3 h q
def wX10_rests_17 : List En := [(.iconst 0, 0, 0, 0), (.istore_n 2, 0, 0, 0), (.iconst 0, 0, 0, 0), (.istore_n 3, 0, 0, 0)]
def fX10_rests_17 (v1 : Int32) (h : aH) : Option (Int32 × aH) :=
  lX10_rests_21 FU v1 (kI 0) (kI 0) h
theorem tX10_rests_17 {d : Nat} {z : Int32 × aH} (v1 : Int32) (h : aH) (hf : fX10_rests_17 v1 h = some z) : Ev (d + 2) none mX10_rests (0, 0) 17 [.null, .int v1, .null, .null] [] h (QI z) := 
  go_ok (X := none) (blk := wX10_rests_17) (np := 21) (tt := 0) (kN := fun xs h st => app [0, 1, 1, 1] (fun v1 v2 v3 => apS [] (lX10_rests_21 FU v1 v2 v3 h) st) xs) (kT := fun _ _ _ => none) (kR := kRI)
    (fun xs h st q => jm [0, 1, 1, 1] _ (fun v1 v2 v3 q => apS_ok [] _ (fun st => Ev (d + 2) none mX10_rests (0, 0) 21 [.null, .int v1, .int v2, .int v3] st h (QI z)) st (fun q => uX10_rests_21 FU v1 v2 v3 h q) q) q)
    (fun _ _ _ q => nos q)
    kRI_ok (Or.inr rfl) (by decide +kernel) (by decide +kernel) hf
def wX10_rests_15 : List En := [(.iconst (-1), 0, 0, 0), (.ireturn, 0, 0, 0)]
def fX10_rests_15 (h : aH) : Option (Int32 × aH) :=
  some ((kI (-1)), h)
theorem tX10_rests_15 {d : Nat} {z : Int32 × aH} (h : aH) (hf : fX10_rests_15 h = some z) : Ev (d + 2) none mX10_rests (0, 0) 15 [.null, .null, .null, .null] [] h (QI z) := 
  go_ok (X := none) (blk := wX10_rests_15) (np := 17) (tt := 0) (kN := fun _ _ _ => none) (kT := fun _ _ _ => none) (kR := kRI)
    (fun _ _ _ q => nos q)
    (fun _ _ _ q => nos q)
    kRI_ok (Or.inr rfl) (by decide +kernel) (by decide +kernel) hf
def wX10_rests_12 : List En := [(.ifCond .eq 5, 17, 0, 0)]
def fX10_rests_12 (v1 : Int32) (s0 : Int32) (h : aH) : Option (Int32 × aH) :=
  if s0 = 0 then fX10_rests_17 v1 h else fX10_rests_15 h
theorem tX10_rests_12 {d : Nat} {z : Int32 × aH} (v1 : Int32) (s0 : Int32) (h : aH) (hf : fX10_rests_12 v1 s0 h = some z) : Ev (d + 2) none mX10_rests (0, 0) 12 [.null, .int v1, .null, .null] [.int s0] h (QI z) := 
  go_ok (X := none) (blk := wX10_rests_12) (np := 15) (tt := 17) (kN := fun xs h st => app [0, 0, 0, 0] (apS [] (fX10_rests_15 h) st) xs) (kT := fun xs h st => app [0, 1, 0, 0] (fun v1 => apS [] (fX10_rests_17 v1 h) st) xs) (kR := kRI)
    (fun xs h st q => jm [0, 0, 0, 0] _ (fun q => apS_ok [] _ (fun st => Ev (d + 2) none mX10_rests (0, 0) 15 [.null, .null, .null, .null] st h (QI z)) st (fun q => tX10_rests_15 h q) q) q)
    (fun xs h st q => jm [0, 1, 0, 0] _ (fun v1 q => apS_ok [] _ (fun st => Ev (d + 2) none mX10_rests (0, 0) 17 [.null, .int v1, .null, .null] st h (QI z)) st (fun q => tX10_rests_17 v1 h q) q) q)
    kRI_ok (Or.inr rfl) (by decide +kernel) (by decide +kernel) hf
theorem kqX10_rests_9 : okC mX10_rests 9 (.invokevirtual 190) 92 87 0 4 = true := by decide +kernel
def fX10_rests_9 (v1 : Int32) (s0 : Int32) (s1 : Int32) (s2 : Int32) (s3 : Int32) (s4 : Nat) (h : aH) : Option (Int32 × aH) :=
  (isO h 10 s4).bind fun _ =>
  (gX10_isRefused s4 s3 s2 s1 s0 h).bind fun r =>
  fX10_rests_12 v1 r.1 r.2
theorem tX10_rests_9 {d : Nat} {z : Int32 × aH} (v1 : Int32) (s0 : Int32) (s1 : Int32) (s2 : Int32) (s3 : Int32) (s4 : Nat) (h : aH) (hf : fX10_rests_9 v1 s0 s1 s2 s3 s4 h = some z) : Ev (d + 2) none mX10_rests (0, 0) 9 [.null, .int v1, .null, .null] [.int s0, .int s1, .int s2, .int s3, .ref s4] h (QI z) := by
  obtain ⟨_, h1, hf⟩ := bnd hf
  obtain ⟨fs, ho⟩ := isO_ok h1
  obtain ⟨r, h2, hf⟩ := bnd hf
  refine ev_V kqX10_rests_9 jX10_isRefused (zX10_isRefused (d := d + 0) h2) ho rfl rfl (Nat.le_of_ble_eq_true rfl) rfl (as := [.int s3, .int s2, .int s1, .int s0]) (rest := []) rfl (Nat.le_of_ble_eq_true rfl) (fun _ _ hq => ?_)
  obtain ⟨-, rfl, rfl⟩ := hq
  exact jm [0, 1, 0, 0] (fun v1 => fX10_rests_12 v1 r.1 r.2) (fun v1 q => tX10_rests_12 v1 r.1 r.2 q) hf
def wX10_rests_5 : List En := [(.iload_n 1, 0, 0, 0), (.iconst 0, 0, 0, 0), (.bipush 9, 0, 0, 0)]
def fX10_rests_5 (v1 : Int32) (s0 : Int32) (s1 : Nat) (h : aH) : Option (Int32 × aH) :=
  fX10_rests_9 v1 (kB 9) (kI 0) v1 s0 s1 h
theorem tX10_rests_5 {d : Nat} {z : Int32 × aH} (v1 : Int32) (s0 : Int32) (s1 : Nat) (h : aH) (hf : fX10_rests_5 v1 s0 s1 h = some z) : Ev (d + 2) none mX10_rests (0, 0) 5 [.null, .int v1, .null, .null] [.int s0, .ref s1] h (QI z) := 
  go_ok (X := none) (blk := wX10_rests_5) (np := 9) (tt := 0) (kN := fun xs h st => app [0, 1, 0, 0] (fun v1 => apS [1, 1, 1, 1, 2] (fun s0 s1 s2 s3 s4 => fX10_rests_9 v1 s0 s1 s2 s3 s4 h) st) xs) (kT := fun _ _ _ => none) (kR := kRI)
    (fun xs h st q => jm [0, 1, 0, 0] _ (fun v1 q => apS_ok [1, 1, 1, 1, 2] _ (fun st => Ev (d + 2) none mX10_rests (0, 0) 9 [.null, .int v1, .null, .null] st h (QI z)) st (fun s0 s1 s2 s3 s4 q => tX10_rests_9 v1 s0 s1 s2 s3 s4 h q) q) q)
    (fun _ _ _ q => nos q)
    kRI_ok (Or.inr rfl) (by decide +kernel) (by decide +kernel) hf
theorem kqX10_rests_2 : okC mX10_rests 2 (.invokevirtual 159) 68 52 0 0 = true := by decide +kernel
def fX10_rests_2 (v1 : Int32) (s0 : Nat) (s1 : Nat) (h : aH) : Option (Int32 × aH) :=
  (isO h 10 s0).bind fun _ =>
  (gX10_lacksTable s0 h).bind fun r =>
  fX10_rests_5 v1 r.1 s1 r.2
theorem tX10_rests_2 {d : Nat} {z : Int32 × aH} (v1 : Int32) (s0 : Nat) (s1 : Nat) (h : aH) (hf : fX10_rests_2 v1 s0 s1 h = some z) : Ev (d + 2) none mX10_rests (0, 0) 2 [.null, .int v1, .null, .null] [.ref s0, .ref s1] h (QI z) := by
  obtain ⟨_, h1, hf⟩ := bnd hf
  obtain ⟨fs, ho⟩ := isO_ok h1
  obtain ⟨r, h2, hf⟩ := bnd hf
  refine ev_V kqX10_rests_2 jX10_lacksTable (zX10_lacksTable (d := d + 1) h2) ho rfl rfl (Nat.le_of_ble_eq_true rfl) rfl (as := []) (rest := [.ref s1]) rfl (Nat.le_of_ble_eq_true rfl) (fun _ _ hq => ?_)
  obtain ⟨-, rfl, rfl⟩ := hq
  exact jm [0, 1, 0, 0] (fun v1 => fX10_rests_5 v1 r.1 s1 r.2) (fun v1 q => tX10_rests_5 v1 r.1 s1 r.2 q) hf
def wX10_rests_0 : List En := [(.aload_n 0, 0, 0, 0), (.aload_n 0, 0, 0, 0)]
def fX10_rests_0 (v0 : Nat) (v1 : Int32) (h : aH) : Option (Int32 × aH) :=
  fX10_rests_2 v1 v0 v0 h
theorem tX10_rests_0 {d : Nat} {z : Int32 × aH} (v0 : Nat) (v1 : Int32) (h : aH) (hf : fX10_rests_0 v0 v1 h = some z) : Ev (d + 2) none mX10_rests (0, 0) 0 [.ref v0, .int v1, .null, .null] [] h (QI z) := 
  go_ok (X := none) (blk := wX10_rests_0) (np := 2) (tt := 0) (kN := fun xs h st => app [0, 1, 0, 0] (fun v1 => apS [2, 2] (fun s0 s1 => fX10_rests_2 v1 s0 s1 h) st) xs) (kT := fun _ _ _ => none) (kR := kRI)
    (fun xs h st q => jm [0, 1, 0, 0] _ (fun v1 q => apS_ok [2, 2] _ (fun st => Ev (d + 2) none mX10_rests (0, 0) 2 [.null, .int v1, .null, .null] st h (QI z)) st (fun s0 s1 q => tX10_rests_2 v1 s0 s1 h q) q) q)
    (fun _ _ _ q => nos q)
    kRI_ok (Or.inr rfl) (by decide +kernel) (by decide +kernel) hf
def gX10_rests (v0 : Nat) (v1 : Int32) (h : aH) : Option (Int32 × aH) := fX10_rests_0 v0 v1 h
theorem zX10_rests {d : Nat} {z : Int32 × aH} {v0 : Nat} {v1 : Int32} {h : aH} (q : gX10_rests v0 v1 h = some z) : CT (d + 2) mX10_rests (0, 0) [.ref v0, .int v1] h (QI z) :=
  ct_ev (by decide +kernel) (Nat.le_of_ble_eq_true rfl) QI_r (jm [2, 1, 0, 0] (fun v0 v1 => fX10_rests_0 v0 v1 h) (fun v0 v1 q => tX10_rests_0 v0 v1 h q) q)
def wX10_rest_70 : List En := [(.bipush (-2), 0, 0, 0), (.ireturn, 0, 0, 0)]
def fX10_rest_70 (h : aH) : Option (Int32 × aH) :=
  some ((kB (-2)), h)
theorem tX10_rest_70 {d : Nat} {z : Int32 × aH} (h : aH) (hf : fX10_rest_70 h = some z) : Ev (d + 2) none mX10_rest (0, 0) 70 [.null, .null, .null] [] h (QI z) := 
  go_ok (X := none) (blk := wX10_rest_70) (np := 73) (tt := 0) (kN := fun _ _ _ => none) (kT := fun _ _ _ => none) (kR := kRI)
    (fun _ _ _ q => nos q)
    (fun _ _ _ q => nos q)
    kRI_ok (Or.inr rfl) (by decide +kernel) (by decide +kernel) hf
def wX10_rest_64 : List En := [(.iinc 2 1, 0, 0, 0), (.goto (-48), 19, 0, 0)]
def fX10_rest_64 (k19 : Int32 → Int32 → aH → Option (Int32 × aH)) (v1 : Int32) (v2 : Int32) (h : aH) : Option (Int32 × aH) :=
  k19 v1 (v2 + kI 1) h
theorem tX10_rest_64 {d : Nat} {z : Int32 × aH} {k19 : Int32 → Int32 → aH → Option (Int32 × aH)} (hk19 : ∀ (v1 : Int32) (v2 : Int32) (h : aH), k19 v1 v2 h = some z → Ev (d + 2) none mX10_rest (0, 0) 19 [.null, .int v1, .int v2] [] h (QI z)) (v1 : Int32) (v2 : Int32) (h : aH) (hf : fX10_rest_64 k19 v1 v2 h = some z) : Ev (d + 2) none mX10_rest (0, 0) 64 [.null, .int v1, .int v2] [] h (QI z) := 
  go_ok (X := none) (blk := wX10_rest_64) (np := 70) (tt := 19) (kN := fun _ _ _ => none) (kT := fun xs h st => app [0, 1, 1] (fun v1 v2 => apS [] (k19 v1 v2 h) st) xs) (kR := kRI)
    (fun _ _ _ q => nos q)
    (fun xs h st q => jm [0, 1, 1] _ (fun v1 v2 q => apS_ok [] _ (fun st => Ev (d + 2) none mX10_rest (0, 0) 19 [.null, .int v1, .int v2] st h (QI z)) st (fun q => hk19 v1 v2 h q) q) q)
    kRI_ok (Or.inr rfl) (by decide +kernel) (by decide +kernel) hf
def wX10_rest_53 : List En := [(.iload_n 2, 0, 0, 0), (.iconst 2, 0, 0, 0), (.idiv, 0, 0, 0), (.bipush 10, 0, 0, 0), (.imul, 0, 0, 0), (.iload_n 2, 0, 0, 0), (.iconst 2, 0, 0, 0), (.irem, 0, 0, 0), (.iadd, 0, 0, 0), (.ireturn, 0, 0, 0)]
def fX10_rest_53 (v2 : Int32) (h : aH) : Option (Int32 × aH) :=
  if (kI 2) = 0 then none else
  if (kI 2) = 0 then none else
  some ((((v2 / (kI 2)) * (kB 10)) + (v2 - v2 / (kI 2) * (kI 2))), h)
theorem tX10_rest_53 {d : Nat} {z : Int32 × aH} (v2 : Int32) (h : aH) (hf : fX10_rest_53 v2 h = some z) : Ev (d + 2) none mX10_rest (0, 0) 53 [.null, .null, .int v2] [] h (QI z) := 
  go_ok (X := none) (blk := wX10_rest_53) (np := 64) (tt := 0) (kN := fun _ _ _ => none) (kT := fun _ _ _ => none) (kR := kRI)
    (fun _ _ _ q => nos q)
    (fun _ _ _ q => nos q)
    kRI_ok (Or.inr rfl) (by decide +kernel) (by decide +kernel) hf
def wX10_rest_50 : List En := [(.ifCond .eq 14, 64, 0, 0)]
def fX10_rest_50 (k19 : Int32 → Int32 → aH → Option (Int32 × aH)) (v1 : Int32) (v2 : Int32) (s0 : Int32) (h : aH) : Option (Int32 × aH) :=
  if s0 = 0 then fX10_rest_64 k19 v1 v2 h else fX10_rest_53 v2 h
theorem tX10_rest_50 {d : Nat} {z : Int32 × aH} {k19 : Int32 → Int32 → aH → Option (Int32 × aH)} (hk19 : ∀ (v1 : Int32) (v2 : Int32) (h : aH), k19 v1 v2 h = some z → Ev (d + 2) none mX10_rest (0, 0) 19 [.null, .int v1, .int v2] [] h (QI z)) (v1 : Int32) (v2 : Int32) (s0 : Int32) (h : aH) (hf : fX10_rest_50 k19 v1 v2 s0 h = some z) : Ev (d + 2) none mX10_rest (0, 0) 50 [.null, .int v1, .int v2] [.int s0] h (QI z) := 
  go_ok (X := none) (blk := wX10_rest_50) (np := 53) (tt := 64) (kN := fun xs h st => app [0, 0, 1] (fun v2 => apS [] (fX10_rest_53 v2 h) st) xs) (kT := fun xs h st => app [0, 1, 1] (fun v1 v2 => apS [] (fX10_rest_64 k19 v1 v2 h) st) xs) (kR := kRI)
    (fun xs h st q => jm [0, 0, 1] _ (fun v2 q => apS_ok [] _ (fun st => Ev (d + 2) none mX10_rest (0, 0) 53 [.null, .null, .int v2] st h (QI z)) st (fun q => tX10_rest_53 v2 h q) q) q)
    (fun xs h st q => jm [0, 1, 1] _ (fun v1 v2 q => apS_ok [] _ (fun st => Ev (d + 2) none mX10_rest (0, 0) 64 [.null, .int v1, .int v2] st h (QI z)) st (fun q => tX10_rest_64 hk19 v1 v2 h q) q) q)
    kRI_ok (Or.inr rfl) (by decide +kernel) (by decide +kernel) hf
theorem kqX10_rest_47 : okC mX10_rest 47 (.invokestatic 299) 151 161 1 3 = true := by decide +kernel
def fX10_rest_47 (k19 : Int32 → Int32 → aH → Option (Int32 × aH)) (v1 : Int32) (v2 : Int32) (s0 : Int32) (s1 : Int32) (s2 : Int32) (h : aH) : Option (Int32 × aH) :=
  (gX10_isRest s2 s1 s0 h).bind fun r =>
  fX10_rest_50 k19 v1 v2 r.1 r.2
theorem tX10_rest_47 {d : Nat} {z : Int32 × aH} {k19 : Int32 → Int32 → aH → Option (Int32 × aH)} (hk19 : ∀ (v1 : Int32) (v2 : Int32) (h : aH), k19 v1 v2 h = some z → Ev (d + 2) none mX10_rest (0, 0) 19 [.null, .int v1, .int v2] [] h (QI z)) (v1 : Int32) (v2 : Int32) (s0 : Int32) (s1 : Int32) (s2 : Int32) (h : aH) (hf : fX10_rest_47 k19 v1 v2 s0 s1 s2 h = some z) : Ev (d + 2) none mX10_rest (0, 0) 47 [.null, .int v1, .int v2] [.int s0, .int s1, .int s2] h (QI z) := by
  obtain ⟨r, h2, hf⟩ := bnd hf
  refine ev_S kqX10_rest_47 jX10_isRest (zX10_isRest (d := d + 0) h2) rfl (Nat.le_of_ble_eq_true rfl) rfl (as := [.int s2, .int s1, .int s0]) (rest := []) rfl (Nat.le_of_ble_eq_true rfl) (fun _ _ hq => ?_)
  obtain ⟨-, rfl, rfl⟩ := hq
  exact jm [0, 1, 1] (fun v1 v2 => fX10_rest_50 k19 v1 v2 r.1 r.2) (fun v1 v2 q => tX10_rest_50 hk19 v1 v2 r.1 r.2 q) hf
def wX10_rest_46 : List En := [(.iconst 0, 0, 0, 0)]
def fX10_rest_46 (k19 : Int32 → Int32 → aH → Option (Int32 × aH)) (v1 : Int32) (v2 : Int32) (s0 : Int32) (s1 : Int32) (h : aH) : Option (Int32 × aH) :=
  fX10_rest_47 k19 v1 v2 (kI 0) s0 s1 h
theorem tX10_rest_46 {d : Nat} {z : Int32 × aH} {k19 : Int32 → Int32 → aH → Option (Int32 × aH)} (hk19 : ∀ (v1 : Int32) (v2 : Int32) (h : aH), k19 v1 v2 h = some z → Ev (d + 2) none mX10_rest (0, 0) 19 [.null, .int v1, .int v2] [] h (QI z)) (v1 : Int32) (v2 : Int32) (s0 : Int32) (s1 : Int32) (h : aH) (hf : fX10_rest_46 k19 v1 v2 s0 s1 h = some z) : Ev (d + 2) none mX10_rest (0, 0) 46 [.null, .int v1, .int v2] [.int s0, .int s1] h (QI z) := 
  go_ok (X := none) (blk := wX10_rest_46) (np := 47) (tt := 0) (kN := fun xs h st => app [0, 1, 1] (fun v1 v2 => apS [1, 1, 1] (fun s0 s1 s2 => fX10_rest_47 k19 v1 v2 s0 s1 s2 h) st) xs) (kT := fun _ _ _ => none) (kR := kRI)
    (fun xs h st q => jm [0, 1, 1] _ (fun v1 v2 q => apS_ok [1, 1, 1] _ (fun st => Ev (d + 2) none mX10_rest (0, 0) 47 [.null, .int v1, .int v2] st h (QI z)) st (fun s0 s1 s2 q => tX10_rest_47 hk19 v1 v2 s0 s1 s2 h q) q) q)
    (fun _ _ _ q => nos q)
    kRI_ok (Or.inr rfl) (by decide +kernel) (by decide +kernel) hf
def wX10_rest_42 : List En := [(.iconst 1, 0, 0, 0), (.goto 4, 47, 0, 0)]
def fX10_rest_42 (k19 : Int32 → Int32 → aH → Option (Int32 × aH)) (v1 : Int32) (v2 : Int32) (s0 : Int32) (s1 : Int32) (h : aH) : Option (Int32 × aH) :=
  fX10_rest_47 k19 v1 v2 (kI 1) s0 s1 h
theorem tX10_rest_42 {d : Nat} {z : Int32 × aH} {k19 : Int32 → Int32 → aH → Option (Int32 × aH)} (hk19 : ∀ (v1 : Int32) (v2 : Int32) (h : aH), k19 v1 v2 h = some z → Ev (d + 2) none mX10_rest (0, 0) 19 [.null, .int v1, .int v2] [] h (QI z)) (v1 : Int32) (v2 : Int32) (s0 : Int32) (s1 : Int32) (h : aH) (hf : fX10_rest_42 k19 v1 v2 s0 s1 h = some z) : Ev (d + 2) none mX10_rest (0, 0) 42 [.null, .int v1, .int v2] [.int s0, .int s1] h (QI z) := 
  go_ok (X := none) (blk := wX10_rest_42) (np := 46) (tt := 47) (kN := fun _ _ _ => none) (kT := fun xs h st => app [0, 1, 1] (fun v1 v2 => apS [1, 1, 1] (fun s0 s1 s2 => fX10_rest_47 k19 v1 v2 s0 s1 s2 h) st) xs) (kR := kRI)
    (fun _ _ _ q => nos q)
    (fun xs h st q => jm [0, 1, 1] _ (fun v1 v2 q => apS_ok [1, 1, 1] _ (fun st => Ev (d + 2) none mX10_rest (0, 0) 47 [.null, .int v1, .int v2] st h (QI z)) st (fun s0 s1 s2 q => tX10_rest_47 hk19 v1 v2 s0 s1 s2 h q) q) q)
    kRI_ok (Or.inr rfl) (by decide +kernel) (by decide +kernel) hf
def wX10_rest_35 : List En := [(.iload_n 2, 0, 0, 0), (.iconst 2, 0, 0, 0), (.irem, 0, 0, 0), (.iconst 1, 0, 0, 0), (.if_icmp .ne 7, 46, 0, 0)]
def fX10_rest_35 (k19 : Int32 → Int32 → aH → Option (Int32 × aH)) (v1 : Int32) (v2 : Int32) (s0 : Int32) (s1 : Int32) (h : aH) : Option (Int32 × aH) :=
  if (kI 2) = 0 then none else
  if (v2 - v2 / (kI 2) * (kI 2)) = (kI 1) then fX10_rest_42 k19 v1 v2 s0 s1 h else fX10_rest_46 k19 v1 v2 s0 s1 h
theorem tX10_rest_35 {d : Nat} {z : Int32 × aH} {k19 : Int32 → Int32 → aH → Option (Int32 × aH)} (hk19 : ∀ (v1 : Int32) (v2 : Int32) (h : aH), k19 v1 v2 h = some z → Ev (d + 2) none mX10_rest (0, 0) 19 [.null, .int v1, .int v2] [] h (QI z)) (v1 : Int32) (v2 : Int32) (s0 : Int32) (s1 : Int32) (h : aH) (hf : fX10_rest_35 k19 v1 v2 s0 s1 h = some z) : Ev (d + 2) none mX10_rest (0, 0) 35 [.null, .int v1, .int v2] [.int s0, .int s1] h (QI z) := 
  go_ok (X := none) (blk := wX10_rest_35) (np := 42) (tt := 46) (kN := fun xs h st => app [0, 1, 1] (fun v1 v2 => apS [1, 1] (fun s0 s1 => fX10_rest_42 k19 v1 v2 s0 s1 h) st) xs) (kT := fun xs h st => app [0, 1, 1] (fun v1 v2 => apS [1, 1] (fun s0 s1 => fX10_rest_46 k19 v1 v2 s0 s1 h) st) xs) (kR := kRI)
    (fun xs h st q => jm [0, 1, 1] _ (fun v1 v2 q => apS_ok [1, 1] _ (fun st => Ev (d + 2) none mX10_rest (0, 0) 42 [.null, .int v1, .int v2] st h (QI z)) st (fun s0 s1 q => tX10_rest_42 hk19 v1 v2 s0 s1 h q) q) q)
    (fun xs h st q => jm [0, 1, 1] _ (fun v1 v2 q => apS_ok [1, 1] _ (fun st => Ev (d + 2) none mX10_rest (0, 0) 46 [.null, .int v1, .int v2] st h (QI z)) st (fun s0 s1 q => tX10_rest_46 hk19 v1 v2 s0 s1 h q) q) q)
    kRI_ok (Or.inr rfl) (by decide +kernel) (by decide +kernel) hf
def wX10_rest_34 : List En := [(.iconst 0, 0, 0, 0)]
def fX10_rest_34 (k19 : Int32 → Int32 → aH → Option (Int32 × aH)) (v1 : Int32) (v2 : Int32) (s0 : Int32) (h : aH) : Option (Int32 × aH) :=
  fX10_rest_35 k19 v1 v2 (kI 0) s0 h
theorem tX10_rest_34 {d : Nat} {z : Int32 × aH} {k19 : Int32 → Int32 → aH → Option (Int32 × aH)} (hk19 : ∀ (v1 : Int32) (v2 : Int32) (h : aH), k19 v1 v2 h = some z → Ev (d + 2) none mX10_rest (0, 0) 19 [.null, .int v1, .int v2] [] h (QI z)) (v1 : Int32) (v2 : Int32) (s0 : Int32) (h : aH) (hf : fX10_rest_34 k19 v1 v2 s0 h = some z) : Ev (d + 2) none mX10_rest (0, 0) 34 [.null, .int v1, .int v2] [.int s0] h (QI z) := 
  go_ok (X := none) (blk := wX10_rest_34) (np := 35) (tt := 0) (kN := fun xs h st => app [0, 1, 1] (fun v1 v2 => apS [1, 1] (fun s0 s1 => fX10_rest_35 k19 v1 v2 s0 s1 h) st) xs) (kT := fun _ _ _ => none) (kR := kRI)
    (fun xs h st q => jm [0, 1, 1] _ (fun v1 v2 q => apS_ok [1, 1] _ (fun st => Ev (d + 2) none mX10_rest (0, 0) 35 [.null, .int v1, .int v2] st h (QI z)) st (fun s0 s1 q => tX10_rest_35 hk19 v1 v2 s0 s1 h q) q) q)
    (fun _ _ _ q => nos q)
    kRI_ok (Or.inr rfl) (by decide +kernel) (by decide +kernel) hf
def wX10_rest_30 : List En := [(.iconst 1, 0, 0, 0), (.goto 4, 35, 0, 0)]
def fX10_rest_30 (k19 : Int32 → Int32 → aH → Option (Int32 × aH)) (v1 : Int32) (v2 : Int32) (s0 : Int32) (h : aH) : Option (Int32 × aH) :=
  fX10_rest_35 k19 v1 v2 (kI 1) s0 h
theorem tX10_rest_30 {d : Nat} {z : Int32 × aH} {k19 : Int32 → Int32 → aH → Option (Int32 × aH)} (hk19 : ∀ (v1 : Int32) (v2 : Int32) (h : aH), k19 v1 v2 h = some z → Ev (d + 2) none mX10_rest (0, 0) 19 [.null, .int v1, .int v2] [] h (QI z)) (v1 : Int32) (v2 : Int32) (s0 : Int32) (h : aH) (hf : fX10_rest_30 k19 v1 v2 s0 h = some z) : Ev (d + 2) none mX10_rest (0, 0) 30 [.null, .int v1, .int v2] [.int s0] h (QI z) := 
  go_ok (X := none) (blk := wX10_rest_30) (np := 34) (tt := 35) (kN := fun _ _ _ => none) (kT := fun xs h st => app [0, 1, 1] (fun v1 v2 => apS [1, 1] (fun s0 s1 => fX10_rest_35 k19 v1 v2 s0 s1 h) st) xs) (kR := kRI)
    (fun _ _ _ q => nos q)
    (fun xs h st q => jm [0, 1, 1] _ (fun v1 v2 q => apS_ok [1, 1] _ (fun st => Ev (d + 2) none mX10_rest (0, 0) 35 [.null, .int v1, .int v2] st h (QI z)) st (fun s0 s1 q => tX10_rest_35 hk19 v1 v2 s0 s1 h q) q) q)
    kRI_ok (Or.inr rfl) (by decide +kernel) (by decide +kernel) hf
def wX10_rest_24 : List En := [(.iload_n 1, 0, 0, 0), (.iload_n 2, 0, 0, 0), (.iconst 2, 0, 0, 0), (.if_icmp .lt 7, 34, 0, 0)]
def fX10_rest_24 (k19 : Int32 → Int32 → aH → Option (Int32 × aH)) (v1 : Int32) (v2 : Int32) (h : aH) : Option (Int32 × aH) :=
  if v2 < (kI 2) then fX10_rest_34 k19 v1 v2 v1 h else fX10_rest_30 k19 v1 v2 v1 h
theorem tX10_rest_24 {d : Nat} {z : Int32 × aH} {k19 : Int32 → Int32 → aH → Option (Int32 × aH)} (hk19 : ∀ (v1 : Int32) (v2 : Int32) (h : aH), k19 v1 v2 h = some z → Ev (d + 2) none mX10_rest (0, 0) 19 [.null, .int v1, .int v2] [] h (QI z)) (v1 : Int32) (v2 : Int32) (h : aH) (hf : fX10_rest_24 k19 v1 v2 h = some z) : Ev (d + 2) none mX10_rest (0, 0) 24 [.null, .int v1, .int v2] [] h (QI z) := 
  go_ok (X := none) (blk := wX10_rest_24) (np := 30) (tt := 34) (kN := fun xs h st => app [0, 1, 1] (fun v1 v2 => apS [1] (fun s0 => fX10_rest_30 k19 v1 v2 s0 h) st) xs) (kT := fun xs h st => app [0, 1, 1] (fun v1 v2 => apS [1] (fun s0 => fX10_rest_34 k19 v1 v2 s0 h) st) xs) (kR := kRI)
    (fun xs h st q => jm [0, 1, 1] _ (fun v1 v2 q => apS_ok [1] _ (fun st => Ev (d + 2) none mX10_rest (0, 0) 30 [.null, .int v1, .int v2] st h (QI z)) st (fun s0 q => tX10_rest_30 hk19 v1 v2 s0 h q) q) q)
    (fun xs h st q => jm [0, 1, 1] _ (fun v1 v2 q => apS_ok [1] _ (fun st => Ev (d + 2) none mX10_rest (0, 0) 34 [.null, .int v1, .int v2] st h (QI z)) st (fun s0 q => tX10_rest_34 hk19 v1 v2 s0 h q) q) q)
    kRI_ok (Or.inr rfl) (by decide +kernel) (by decide +kernel) hf
def wX10_rest_19 : List En := [(.iload_n 2, 0, 0, 0), (.iconst 4, 0, 0, 0), (.if_icmp .ge 49, 70, 0, 0)]
def fX10_rest_19 (k19 : Int32 → Int32 → aH → Option (Int32 × aH)) (v1 : Int32) (v2 : Int32) (h : aH) : Option (Int32 × aH) :=
  if v2 < (kI 4) then fX10_rest_24 k19 v1 v2 h else fX10_rest_70 h
theorem tX10_rest_19 {d : Nat} {z : Int32 × aH} {k19 : Int32 → Int32 → aH → Option (Int32 × aH)} (hk19 : ∀ (v1 : Int32) (v2 : Int32) (h : aH), k19 v1 v2 h = some z → Ev (d + 2) none mX10_rest (0, 0) 19 [.null, .int v1, .int v2] [] h (QI z)) (v1 : Int32) (v2 : Int32) (h : aH) (hf : fX10_rest_19 k19 v1 v2 h = some z) : Ev (d + 2) none mX10_rest (0, 0) 19 [.null, .int v1, .int v2] [] h (QI z) := 
  go_ok (X := none) (blk := wX10_rest_19) (np := 24) (tt := 70) (kN := fun xs h st => app [0, 1, 1] (fun v1 v2 => apS [] (fX10_rest_24 k19 v1 v2 h) st) xs) (kT := fun xs h st => app [0, 0, 0] (apS [] (fX10_rest_70 h) st) xs) (kR := kRI)
    (fun xs h st q => jm [0, 1, 1] _ (fun v1 v2 q => apS_ok [] _ (fun st => Ev (d + 2) none mX10_rest (0, 0) 24 [.null, .int v1, .int v2] st h (QI z)) st (fun q => tX10_rest_24 hk19 v1 v2 h q) q) q)
    (fun xs h st q => jm [0, 0, 0] _ (fun q => apS_ok [] _ (fun st => Ev (d + 2) none mX10_rest (0, 0) 70 [.null, .null, .null] st h (QI z)) st (fun q => tX10_rest_70 h q) q) q)
    kRI_ok (Or.inr rfl) (by decide +kernel) (by decide +kernel) hf
def lX10_rest_19 : Nat → Int32 → Int32 → aH → Option (Int32 × aH)
  | 0, _, _, _ => none
  | n + 1, v1, v2, h => fX10_rest_19 (lX10_rest_19 n) v1 v2 h
theorem uX10_rest_19 {d : Nat} {z : Int32 × aH} : ∀ (n : Nat) (v1 : Int32) (v2 : Int32) (h : aH), lX10_rest_19 n v1 v2 h = some z → Ev (d + 2) none mX10_rest (0, 0) 19 [.null, .int v1, .int v2] [] h (QI z) := by
  intro n
  induction n with
  | zero => intro _ _ _ q; exact nos (show (none : Option (Int32 × aH)) = some z from q)
  | succ n ih => intro v1 v2 h q; exact tX10_rest_19 ih v1 v2 h q
def wX10_rest_17 : List En := [(.iconst 0, 0, 0, 0), (.istore_n 2, 0, 0, 0)]
def fX10_rest_17 (v1 : Int32) (h : aH) : Option (Int32 × aH) :=
  lX10_rest_19 FU v1 (kI 0) h
theorem tX10_rest_17 {d : Nat} {z : Int32 × aH} (v1 : Int32) (h : aH) (hf : fX10_rest_17 v1 h = some z) : Ev (d + 2) none mX10_rest (0, 0) 17 [.null, .int v1, .null] [] h (QI z) := 
  go_ok (X := none) (blk := wX10_rest_17) (np := 19) (tt := 0) (kN := fun xs h st => app [0, 1, 1] (fun v1 v2 => apS [] (lX10_rest_19 FU v1 v2 h) st) xs) (kT := fun _ _ _ => none) (kR := kRI)
    (fun xs h st q => jm [0, 1, 1] _ (fun v1 v2 q => apS_ok [] _ (fun st => Ev (d + 2) none mX10_rest (0, 0) 19 [.null, .int v1, .int v2] st h (QI z)) st (fun q => uX10_rest_19 FU v1 v2 h q) q) q)
    (fun _ _ _ q => nos q)
    kRI_ok (Or.inr rfl) (by decide +kernel) (by decide +kernel) hf
def wX10_rest_15 : List En := [(.iconst (-1), 0, 0, 0), (.ireturn, 0, 0, 0)]
def fX10_rest_15 (h : aH) : Option (Int32 × aH) :=
  some ((kI (-1)), h)
theorem tX10_rest_15 {d : Nat} {z : Int32 × aH} (h : aH) (hf : fX10_rest_15 h = some z) : Ev (d + 2) none mX10_rest (0, 0) 15 [.null, .null, .null] [] h (QI z) := 
  go_ok (X := none) (blk := wX10_rest_15) (np := 17) (tt := 0) (kN := fun _ _ _ => none) (kT := fun _ _ _ => none) (kR := kRI)
    (fun _ _ _ q => nos q)
    (fun _ _ _ q => nos q)
    kRI_ok (Or.inr rfl) (by decide +kernel) (by decide +kernel) hf
def wX10_rest_12 : List En := [(.ifCond .eq 5, 17, 0, 0)]
def fX10_rest_12 (v1 : Int32) (s0 : Int32) (h : aH) : Option (Int32 × aH) :=
  if s0 = 0 then fX10_rest_17 v1 h else fX10_rest_15 h
theorem tX10_rest_12 {d : Nat} {z : Int32 × aH} (v1 : Int32) (s0 : Int32) (h : aH) (hf : fX10_rest_12 v1 s0 h = some z) : Ev (d + 2) none mX10_rest (0, 0) 12 [.null, .int v1, .null] [.int s0] h (QI z) := 
  go_ok (X := none) (blk := wX10_rest_12) (np := 15) (tt := 17) (kN := fun xs h st => app [0, 0, 0] (apS [] (fX10_rest_15 h) st) xs) (kT := fun xs h st => app [0, 1, 0] (fun v1 => apS [] (fX10_rest_17 v1 h) st) xs) (kR := kRI)
    (fun xs h st q => jm [0, 0, 0] _ (fun q => apS_ok [] _ (fun st => Ev (d + 2) none mX10_rest (0, 0) 15 [.null, .null, .null] st h (QI z)) st (fun q => tX10_rest_15 h q) q) q)
    (fun xs h st q => jm [0, 1, 0] _ (fun v1 q => apS_ok [] _ (fun st => Ev (d + 2) none mX10_rest (0, 0) 17 [.null, .int v1, .null] st h (QI z)) st (fun q => tX10_rest_17 v1 h q) q) q)
    kRI_ok (Or.inr rfl) (by decide +kernel) (by decide +kernel) hf
theorem kqX10_rest_9 : okC mX10_rest 9 (.invokevirtual 190) 92 87 0 4 = true := by decide +kernel
def fX10_rest_9 (v1 : Int32) (s0 : Int32) (s1 : Int32) (s2 : Int32) (s3 : Int32) (s4 : Nat) (h : aH) : Option (Int32 × aH) :=
  (isO h 10 s4).bind fun _ =>
  (gX10_isRefused s4 s3 s2 s1 s0 h).bind fun r =>
  fX10_rest_12 v1 r.1 r.2
theorem tX10_rest_9 {d : Nat} {z : Int32 × aH} (v1 : Int32) (s0 : Int32) (s1 : Int32) (s2 : Int32) (s3 : Int32) (s4 : Nat) (h : aH) (hf : fX10_rest_9 v1 s0 s1 s2 s3 s4 h = some z) : Ev (d + 2) none mX10_rest (0, 0) 9 [.null, .int v1, .null] [.int s0, .int s1, .int s2, .int s3, .ref s4] h (QI z) := by
  obtain ⟨_, h1, hf⟩ := bnd hf
  obtain ⟨fs, ho⟩ := isO_ok h1
  obtain ⟨r, h2, hf⟩ := bnd hf
  refine ev_V kqX10_rest_9 jX10_isRefused (zX10_isRefused (d := d + 0) h2) ho rfl rfl (Nat.le_of_ble_eq_true rfl) rfl (as := [.int s3, .int s2, .int s1, .int s0]) (rest := []) rfl (Nat.le_of_ble_eq_true rfl) (fun _ _ hq => ?_)
  obtain ⟨-, rfl, rfl⟩ := hq
  exact jm [0, 1, 0] (fun v1 => fX10_rest_12 v1 r.1 r.2) (fun v1 q => tX10_rest_12 v1 r.1 r.2 q) hf
def wX10_rest_5 : List En := [(.iload_n 1, 0, 0, 0), (.iconst 0, 0, 0, 0), (.bipush 9, 0, 0, 0)]
def fX10_rest_5 (v1 : Int32) (s0 : Int32) (s1 : Nat) (h : aH) : Option (Int32 × aH) :=
  fX10_rest_9 v1 (kB 9) (kI 0) v1 s0 s1 h
theorem tX10_rest_5 {d : Nat} {z : Int32 × aH} (v1 : Int32) (s0 : Int32) (s1 : Nat) (h : aH) (hf : fX10_rest_5 v1 s0 s1 h = some z) : Ev (d + 2) none mX10_rest (0, 0) 5 [.null, .int v1, .null] [.int s0, .ref s1] h (QI z) := 
  go_ok (X := none) (blk := wX10_rest_5) (np := 9) (tt := 0) (kN := fun xs h st => app [0, 1, 0] (fun v1 => apS [1, 1, 1, 1, 2] (fun s0 s1 s2 s3 s4 => fX10_rest_9 v1 s0 s1 s2 s3 s4 h) st) xs) (kT := fun _ _ _ => none) (kR := kRI)
    (fun xs h st q => jm [0, 1, 0] _ (fun v1 q => apS_ok [1, 1, 1, 1, 2] _ (fun st => Ev (d + 2) none mX10_rest (0, 0) 9 [.null, .int v1, .null] st h (QI z)) st (fun s0 s1 s2 s3 s4 q => tX10_rest_9 v1 s0 s1 s2 s3 s4 h q) q) q)
    (fun _ _ _ q => nos q)
    kRI_ok (Or.inr rfl) (by decide +kernel) (by decide +kernel) hf
theorem kqX10_rest_2 : okC mX10_rest 2 (.invokevirtual 159) 68 52 0 0 = true := by decide +kernel
def fX10_rest_2 (v1 : Int32) (s0 : Nat) (s1 : Nat) (h : aH) : Option (Int32 × aH) :=
  (isO h 10 s0).bind fun _ =>
  (gX10_lacksTable s0 h).bind fun r =>
  fX10_rest_5 v1 r.1 s1 r.2
theorem tX10_rest_2 {d : Nat} {z : Int32 × aH} (v1 : Int32) (s0 : Nat) (s1 : Nat) (h : aH) (hf : fX10_rest_2 v1 s0 s1 h = some z) : Ev (d + 2) none mX10_rest (0, 0) 2 [.null, .int v1, .null] [.ref s0, .ref s1] h (QI z) := by
  obtain ⟨_, h1, hf⟩ := bnd hf
  obtain ⟨fs, ho⟩ := isO_ok h1
  obtain ⟨r, h2, hf⟩ := bnd hf
  refine ev_V kqX10_rest_2 jX10_lacksTable (zX10_lacksTable (d := d + 1) h2) ho rfl rfl (Nat.le_of_ble_eq_true rfl) rfl (as := []) (rest := [.ref s1]) rfl (Nat.le_of_ble_eq_true rfl) (fun _ _ hq => ?_)
  obtain ⟨-, rfl, rfl⟩ := hq
  exact jm [0, 1, 0] (fun v1 => fX10_rest_5 v1 r.1 s1 r.2) (fun v1 q => tX10_rest_5 v1 r.1 s1 r.2 q) hf
def wX10_rest_0 : List En := [(.aload_n 0, 0, 0, 0), (.aload_n 0, 0, 0, 0)]
def fX10_rest_0 (v0 : Nat) (v1 : Int32) (h : aH) : Option (Int32 × aH) :=
  fX10_rest_2 v1 v0 v0 h
theorem tX10_rest_0 {d : Nat} {z : Int32 × aH} (v0 : Nat) (v1 : Int32) (h : aH) (hf : fX10_rest_0 v0 v1 h = some z) : Ev (d + 2) none mX10_rest (0, 0) 0 [.ref v0, .int v1, .null] [] h (QI z) := 
  go_ok (X := none) (blk := wX10_rest_0) (np := 2) (tt := 0) (kN := fun xs h st => app [0, 1, 0] (fun v1 => apS [2, 2] (fun s0 s1 => fX10_rest_2 v1 s0 s1 h) st) xs) (kT := fun _ _ _ => none) (kR := kRI)
    (fun xs h st q => jm [0, 1, 0] _ (fun v1 q => apS_ok [2, 2] _ (fun st => Ev (d + 2) none mX10_rest (0, 0) 2 [.null, .int v1, .null] st h (QI z)) st (fun s0 s1 q => tX10_rest_2 v1 s0 s1 h q) q) q)
    (fun _ _ _ q => nos q)
    kRI_ok (Or.inr rfl) (by decide +kernel) (by decide +kernel) hf
def gX10_rest (v0 : Nat) (v1 : Int32) (h : aH) : Option (Int32 × aH) := fX10_rest_0 v0 v1 h
theorem zX10_rest {d : Nat} {z : Int32 × aH} {v0 : Nat} {v1 : Int32} {h : aH} (q : gX10_rest v0 v1 h = some z) : CT (d + 2) mX10_rest (0, 0) [.ref v0, .int v1] h (QI z) :=
  ct_ev (by decide +kernel) (Nat.le_of_ble_eq_true rfl) QI_r (jm [2, 1, 0] (fun v0 v1 => fX10_rest_0 v0 v1 h) (fun v0 v1 q => tX10_rest_0 v0 v1 h q) q)
def wX0_lowest_70 : List En := [(.lreturn, 0, 0, 0)]
def fX0_lowest_70 (s0 : Int64) (h : aH) : Option (Int64 × aH) :=
  some (s0, h)
theorem tX0_lowest_70 {d : Nat} {z : Int64 × aH} (s0 : Int64) (h : aH) (hf : fX0_lowest_70 s0 h = some z) : Ev (d + 0) none mX0_lowest (0, 0) 70 [.null, .null, .null, .null, .null, .null, .null, .null, .null, .null, .null, .null] [.long s0] h (QJ z) := 
  go_ok (X := none) (blk := wX0_lowest_70) (np := 71) (tt := 0) (kN := fun _ _ _ => none) (kT := fun _ _ _ => none) (kR := kRJ)
    (fun _ _ _ q => nos q)
    (fun _ _ _ q => nos q)
    kRJ_ok (Or.inr rfl) (by decide +kernel) (by decide +kernel) hf
def wX0_lowest_66 : List En := [(.lload_n 0, 0, 0, 0), (.lload 5, 0, 0, 0), (.ldiv, 0, 0, 0)]
def fX0_lowest_66 (v0 : Int64) (v5 : Int64) (h : aH) : Option (Int64 × aH) :=
  if v5 = 0 then none else
  fX0_lowest_70 (v0 / v5) h
theorem tX0_lowest_66 {d : Nat} {z : Int64 × aH} (v0 : Int64) (v5 : Int64) (h : aH) (hf : fX0_lowest_66 v0 v5 h = some z) : Ev (d + 0) none mX0_lowest (0, 0) 66 [.long v0, .null, .null, .null, .null, .long v5, .null, .null, .null, .null, .null, .null] [] h (QJ z) := 
  go_ok (X := none) (blk := wX0_lowest_66) (np := 70) (tt := 0) (kN := fun xs h st => app [0, 0, 0, 0, 0, 0, 0, 0, 0, 0, 0, 0] (apS [3] (fun s0 => fX0_lowest_70 s0 h) st) xs) (kT := fun _ _ _ => none) (kR := kRJ)
    (fun xs h st q => jm [0, 0, 0, 0, 0, 0, 0, 0, 0, 0, 0, 0] _ (fun q => apS_ok [3] _ (fun st => Ev (d + 0) none mX0_lowest (0, 0) 70 [.null, .null, .null, .null, .null, .null, .null, .null, .null, .null, .null, .null] st h (QJ z)) st (fun s0 q => tX0_lowest_70 s0 h q) q) q)
    (fun _ _ _ q => nos q)
    kRJ_ok (Or.inr rfl) (by decide +kernel) (by decide +kernel) hf
def wX0_lowest_59 : List En := [(.lload_n 2, 0, 0, 0), (.lload 5, 0, 0, 0), (.ldiv, 0, 0, 0), (.goto 7, 70, 0, 0)]
def fX0_lowest_59 (v2 : Int64) (v5 : Int64) (h : aH) : Option (Int64 × aH) :=
  if v5 = 0 then none else
  fX0_lowest_70 (v2 / v5) h
theorem tX0_lowest_59 {d : Nat} {z : Int64 × aH} (v2 : Int64) (v5 : Int64) (h : aH) (hf : fX0_lowest_59 v2 v5 h = some z) : Ev (d + 0) none mX0_lowest (0, 0) 59 [.null, .null, .long v2, .null, .null, .long v5, .null, .null, .null, .null, .null, .null] [] h (QJ z) := 
  go_ok (X := none) (blk := wX0_lowest_59) (np := 66) (tt := 70) (kN := fun _ _ _ => none) (kT := fun xs h st => app [0, 0, 0, 0, 0, 0, 0, 0, 0, 0, 0, 0] (apS [3] (fun s0 => fX0_lowest_70 s0 h) st) xs) (kR := kRJ)
    (fun _ _ _ q => nos q)
    (fun xs h st q => jm [0, 0, 0, 0, 0, 0, 0, 0, 0, 0, 0, 0] _ (fun q => apS_ok [3] _ (fun st => Ev (d + 0) none mX0_lowest (0, 0) 70 [.null, .null, .null, .null, .null, .null, .null, .null, .null, .null, .null, .null] st h (QJ z)) st (fun s0 q => tX0_lowest_70 s0 h q) q) q)
    kRJ_ok (Or.inr rfl) (by decide +kernel) (by decide +kernel) hf
def wX0_lowest_54 : List En := [(.iload 4, 0, 0, 0), (.ifCond .eq 10, 66, 0, 0)]
def fX0_lowest_54 (v0 : Int64) (v2 : Int64) (v4 : Int32) (v5 : Int64) (h : aH) : Option (Int64 × aH) :=
  if v4 = 0 then fX0_lowest_66 v0 v5 h else fX0_lowest_59 v2 v5 h
theorem tX0_lowest_54 {d : Nat} {z : Int64 × aH} (v0 : Int64) (v2 : Int64) (v4 : Int32) (v5 : Int64) (h : aH) (hf : fX0_lowest_54 v0 v2 v4 v5 h = some z) : Ev (d + 0) none mX0_lowest (0, 0) 54 [.long v0, .null, .long v2, .null, .int v4, .long v5, .null, .null, .null, .null, .null, .null] [] h (QJ z) := 
  go_ok (X := none) (blk := wX0_lowest_54) (np := 59) (tt := 66) (kN := fun xs h st => app [0, 0, 3, 0, 0, 3, 0, 0, 0, 0, 0, 0] (fun v2 v5 => apS [] (fX0_lowest_59 v2 v5 h) st) xs) (kT := fun xs h st => app [3, 0, 0, 0, 0, 3, 0, 0, 0, 0, 0, 0] (fun v0 v5 => apS [] (fX0_lowest_66 v0 v5 h) st) xs) (kR := kRJ)
    (fun xs h st q => jm [0, 0, 3, 0, 0, 3, 0, 0, 0, 0, 0, 0] _ (fun v2 v5 q => apS_ok [] _ (fun st => Ev (d + 0) none mX0_lowest (0, 0) 59 [.null, .null, .long v2, .null, .null, .long v5, .null, .null, .null, .null, .null, .null] st h (QJ z)) st (fun q => tX0_lowest_59 v2 v5 h q) q) q)
    (fun xs h st q => jm [3, 0, 0, 0, 0, 3, 0, 0, 0, 0, 0, 0] _ (fun v0 v5 q => apS_ok [] _ (fun st => Ev (d + 0) none mX0_lowest (0, 0) 66 [.long v0, .null, .null, .null, .null, .long v5, .null, .null, .null, .null, .null, .null] st h (QJ z)) st (fun q => tX0_lowest_66 v0 v5 h q) q) q)
    kRJ_ok (Or.inr rfl) (by decide +kernel) (by decide +kernel) hf
def wX0_lowest_52 : List En := [(.lconst 0, 0, 0, 0), (.lreturn, 0, 0, 0)]
def fX0_lowest_52 (h : aH) : Option (Int64 × aH) :=
  some ((kJ 0), h)
theorem tX0_lowest_52 {d : Nat} {z : Int64 × aH} (h : aH) (hf : fX0_lowest_52 h = some z) : Ev (d + 0) none mX0_lowest (0, 0) 52 [.null, .null, .null, .null, .null, .null, .null, .null, .null, .null, .null, .null] [] h (QJ z) := 
  go_ok (X := none) (blk := wX0_lowest_52) (np := 54) (tt := 0) (kN := fun _ _ _ => none) (kT := fun _ _ _ => none) (kR := kRJ)
    (fun _ _ _ q => nos q)
    (fun _ _ _ q => nos q)
    kRJ_ok (Or.inr rfl) (by decide +kernel) (by decide +kernel) hf
def wX0_lowest_45 : List En := [(.lload 5, 0, 0, 0), (.lconst 0, 0, 0, 0), (.lcmp, 0, 0, 0), (.ifCond .gt 5, 54, 0, 0)]
def fX0_lowest_45 (v0 : Int64) (v2 : Int64) (v4 : Int32) (v5 : Int64) (h : aH) : Option (Int64 × aH) :=
  if 0 < (lg_cmp v5 (kJ 0)) then fX0_lowest_54 v0 v2 v4 v5 h else fX0_lowest_52 h
theorem tX0_lowest_45 {d : Nat} {z : Int64 × aH} (v0 : Int64) (v2 : Int64) (v4 : Int32) (v5 : Int64) (h : aH) (hf : fX0_lowest_45 v0 v2 v4 v5 h = some z) : Ev (d + 0) none mX0_lowest (0, 0) 45 [.long v0, .null, .long v2, .null, .int v4, .long v5, .null, .null, .null, .null, .null, .null] [] h (QJ z) := 
  go_ok (X := none) (blk := wX0_lowest_45) (np := 52) (tt := 54) (kN := fun xs h st => app [0, 0, 0, 0, 0, 0, 0, 0, 0, 0, 0, 0] (apS [] (fX0_lowest_52 h) st) xs) (kT := fun xs h st => app [3, 0, 3, 0, 1, 3, 0, 0, 0, 0, 0, 0] (fun v0 v2 v4 v5 => apS [] (fX0_lowest_54 v0 v2 v4 v5 h) st) xs) (kR := kRJ)
    (fun xs h st q => jm [0, 0, 0, 0, 0, 0, 0, 0, 0, 0, 0, 0] _ (fun q => apS_ok [] _ (fun st => Ev (d + 0) none mX0_lowest (0, 0) 52 [.null, .null, .null, .null, .null, .null, .null, .null, .null, .null, .null, .null] st h (QJ z)) st (fun q => tX0_lowest_52 h q) q) q)
    (fun xs h st q => jm [3, 0, 3, 0, 1, 3, 0, 0, 0, 0, 0, 0] _ (fun v0 v2 v4 v5 q => apS_ok [] _ (fun st => Ev (d + 0) none mX0_lowest (0, 0) 54 [.long v0, .null, .long v2, .null, .int v4, .long v5, .null, .null, .null, .null, .null, .null] st h (QJ z)) st (fun q => tX0_lowest_54 v0 v2 v4 v5 h q) q) q)
    kRJ_ok (Or.inr rfl) (by decide +kernel) (by decide +kernel) hf
def wX0_lowest_24 : List En := [(.lload 5, 0, 0, 0), (.lload 7, 0, 0, 0), (.lrem, 0, 0, 0), (.lstore 10, 0, 0, 0), (.lload 7, 0, 0, 0), (.lstore 5, 0, 0, 0), (.lload 10, 0, 0, 0), (.lstore 7, 0, 0, 0), (.iinc 9 1, 0, 0, 0), (.goto (-33), 9, 0, 0)]
def fX0_lowest_24 (k9 : Int64 → Int64 → Int32 → Int64 → Int64 → Int32 → aH → Option (Int64 × aH)) (v0 : Int64) (v2 : Int64) (v4 : Int32) (v5 : Int64) (v7 : Int64) (v9 : Int32) (h : aH) : Option (Int64 × aH) :=
  if v7 = 0 then none else
  k9 v0 v2 v4 v7 (v5 - v5 / v7 * v7) (v9 + kI 1) h
theorem tX0_lowest_24 {d : Nat} {z : Int64 × aH} {k9 : Int64 → Int64 → Int32 → Int64 → Int64 → Int32 → aH → Option (Int64 × aH)} (hk9 : ∀ (v0 : Int64) (v2 : Int64) (v4 : Int32) (v5 : Int64) (v7 : Int64) (v9 : Int32) (h : aH), k9 v0 v2 v4 v5 v7 v9 h = some z → Ev (d + 0) none mX0_lowest (0, 0) 9 [.long v0, .null, .long v2, .null, .int v4, .long v5, .null, .long v7, .null, .int v9, .null, .null] [] h (QJ z)) (v0 : Int64) (v2 : Int64) (v4 : Int32) (v5 : Int64) (v7 : Int64) (v9 : Int32) (h : aH) (hf : fX0_lowest_24 k9 v0 v2 v4 v5 v7 v9 h = some z) : Ev (d + 0) none mX0_lowest (0, 0) 24 [.long v0, .null, .long v2, .null, .int v4, .long v5, .null, .long v7, .null, .int v9, .null, .null] [] h (QJ z) := 
  go_ok (X := none) (blk := wX0_lowest_24) (np := 45) (tt := 9) (kN := fun _ _ _ => none) (kT := fun xs h st => app [3, 0, 3, 0, 1, 3, 0, 3, 0, 1, 0, 0] (fun v0 v2 v4 v5 v7 v9 => apS [] (k9 v0 v2 v4 v5 v7 v9 h) st) xs) (kR := kRJ)
    (fun _ _ _ q => nos q)
    (fun xs h st q => jm [3, 0, 3, 0, 1, 3, 0, 3, 0, 1, 0, 0] _ (fun v0 v2 v4 v5 v7 v9 q => apS_ok [] _ (fun st => Ev (d + 0) none mX0_lowest (0, 0) 9 [.long v0, .null, .long v2, .null, .int v4, .long v5, .null, .long v7, .null, .int v9, .null, .null] st h (QJ z)) st (fun q => hk9 v0 v2 v4 v5 v7 v9 h q) q) q)
    kRJ_ok (Or.inr rfl) (by decide +kernel) (by decide +kernel) hf
def wX0_lowest_17 : List En := [(.lload 7, 0, 0, 0), (.lconst 0, 0, 0, 0), (.lcmp, 0, 0, 0), (.ifCond .le 24, 45, 0, 0)]
def fX0_lowest_17 (k9 : Int64 → Int64 → Int32 → Int64 → Int64 → Int32 → aH → Option (Int64 × aH)) (v0 : Int64) (v2 : Int64) (v4 : Int32) (v5 : Int64) (v7 : Int64) (v9 : Int32) (h : aH) : Option (Int64 × aH) :=
  if 0 < (lg_cmp v7 (kJ 0)) then fX0_lowest_24 k9 v0 v2 v4 v5 v7 v9 h else fX0_lowest_45 v0 v2 v4 v5 h
theorem tX0_lowest_17 {d : Nat} {z : Int64 × aH} {k9 : Int64 → Int64 → Int32 → Int64 → Int64 → Int32 → aH → Option (Int64 × aH)} (hk9 : ∀ (v0 : Int64) (v2 : Int64) (v4 : Int32) (v5 : Int64) (v7 : Int64) (v9 : Int32) (h : aH), k9 v0 v2 v4 v5 v7 v9 h = some z → Ev (d + 0) none mX0_lowest (0, 0) 9 [.long v0, .null, .long v2, .null, .int v4, .long v5, .null, .long v7, .null, .int v9, .null, .null] [] h (QJ z)) (v0 : Int64) (v2 : Int64) (v4 : Int32) (v5 : Int64) (v7 : Int64) (v9 : Int32) (h : aH) (hf : fX0_lowest_17 k9 v0 v2 v4 v5 v7 v9 h = some z) : Ev (d + 0) none mX0_lowest (0, 0) 17 [.long v0, .null, .long v2, .null, .int v4, .long v5, .null, .long v7, .null, .int v9, .null, .null] [] h (QJ z) := 
  go_ok (X := none) (blk := wX0_lowest_17) (np := 24) (tt := 45) (kN := fun xs h st => app [3, 0, 3, 0, 1, 3, 0, 3, 0, 1, 0, 0] (fun v0 v2 v4 v5 v7 v9 => apS [] (fX0_lowest_24 k9 v0 v2 v4 v5 v7 v9 h) st) xs) (kT := fun xs h st => app [3, 0, 3, 0, 1, 3, 0, 0, 0, 0, 0, 0] (fun v0 v2 v4 v5 => apS [] (fX0_lowest_45 v0 v2 v4 v5 h) st) xs) (kR := kRJ)
    (fun xs h st q => jm [3, 0, 3, 0, 1, 3, 0, 3, 0, 1, 0, 0] _ (fun v0 v2 v4 v5 v7 v9 q => apS_ok [] _ (fun st => Ev (d + 0) none mX0_lowest (0, 0) 24 [.long v0, .null, .long v2, .null, .int v4, .long v5, .null, .long v7, .null, .int v9, .null, .null] st h (QJ z)) st (fun q => tX0_lowest_24 hk9 v0 v2 v4 v5 v7 v9 h q) q) q)
    (fun xs h st q => jm [3, 0, 3, 0, 1, 3, 0, 0, 0, 0, 0, 0] _ (fun v0 v2 v4 v5 q => apS_ok [] _ (fun st => Ev (d + 0) none mX0_lowest (0, 0) 45 [.long v0, .null, .long v2, .null, .int v4, .long v5, .null, .null, .null, .null, .null, .null] st h (QJ z)) st (fun q => tX0_lowest_45 v0 v2 v4 v5 h q) q) q)
    kRJ_ok (Or.inr rfl) (by decide +kernel) (by decide +kernel) hf
def wX0_lowest_9 : List En := [(.iload 9, 0, 0, 0), (.sipush 1000, 0, 0, 0), (.if_icmp .ge 31, 45, 0, 0)]
def fX0_lowest_9 (k9 : Int64 → Int64 → Int32 → Int64 → Int64 → Int32 → aH → Option (Int64 × aH)) (v0 : Int64) (v2 : Int64) (v4 : Int32) (v5 : Int64) (v7 : Int64) (v9 : Int32) (h : aH) : Option (Int64 × aH) :=
  if v9 < (kS 1000) then fX0_lowest_17 k9 v0 v2 v4 v5 v7 v9 h else fX0_lowest_45 v0 v2 v4 v5 h
theorem tX0_lowest_9 {d : Nat} {z : Int64 × aH} {k9 : Int64 → Int64 → Int32 → Int64 → Int64 → Int32 → aH → Option (Int64 × aH)} (hk9 : ∀ (v0 : Int64) (v2 : Int64) (v4 : Int32) (v5 : Int64) (v7 : Int64) (v9 : Int32) (h : aH), k9 v0 v2 v4 v5 v7 v9 h = some z → Ev (d + 0) none mX0_lowest (0, 0) 9 [.long v0, .null, .long v2, .null, .int v4, .long v5, .null, .long v7, .null, .int v9, .null, .null] [] h (QJ z)) (v0 : Int64) (v2 : Int64) (v4 : Int32) (v5 : Int64) (v7 : Int64) (v9 : Int32) (h : aH) (hf : fX0_lowest_9 k9 v0 v2 v4 v5 v7 v9 h = some z) : Ev (d + 0) none mX0_lowest (0, 0) 9 [.long v0, .null, .long v2, .null, .int v4, .long v5, .null, .long v7, .null, .int v9, .null, .null] [] h (QJ z) := 
  go_ok (X := none) (blk := wX0_lowest_9) (np := 17) (tt := 45) (kN := fun xs h st => app [3, 0, 3, 0, 1, 3, 0, 3, 0, 1, 0, 0] (fun v0 v2 v4 v5 v7 v9 => apS [] (fX0_lowest_17 k9 v0 v2 v4 v5 v7 v9 h) st) xs) (kT := fun xs h st => app [3, 0, 3, 0, 1, 3, 0, 0, 0, 0, 0, 0] (fun v0 v2 v4 v5 => apS [] (fX0_lowest_45 v0 v2 v4 v5 h) st) xs) (kR := kRJ)
    (fun xs h st q => jm [3, 0, 3, 0, 1, 3, 0, 3, 0, 1, 0, 0] _ (fun v0 v2 v4 v5 v7 v9 q => apS_ok [] _ (fun st => Ev (d + 0) none mX0_lowest (0, 0) 17 [.long v0, .null, .long v2, .null, .int v4, .long v5, .null, .long v7, .null, .int v9, .null, .null] st h (QJ z)) st (fun q => tX0_lowest_17 hk9 v0 v2 v4 v5 v7 v9 h q) q) q)
    (fun xs h st q => jm [3, 0, 3, 0, 1, 3, 0, 0, 0, 0, 0, 0] _ (fun v0 v2 v4 v5 q => apS_ok [] _ (fun st => Ev (d + 0) none mX0_lowest (0, 0) 45 [.long v0, .null, .long v2, .null, .int v4, .long v5, .null, .null, .null, .null, .null, .null] st h (QJ z)) st (fun q => tX0_lowest_45 v0 v2 v4 v5 h q) q) q)
    kRJ_ok (Or.inr rfl) (by decide +kernel) (by decide +kernel) hf
def lX0_lowest_9 : Nat → Int64 → Int64 → Int32 → Int64 → Int64 → Int32 → aH → Option (Int64 × aH)
  | 0, _, _, _, _, _, _, _ => none
  | n + 1, v0, v2, v4, v5, v7, v9, h => fX0_lowest_9 (lX0_lowest_9 n) v0 v2 v4 v5 v7 v9 h
theorem uX0_lowest_9 {d : Nat} {z : Int64 × aH} : ∀ (n : Nat) (v0 : Int64) (v2 : Int64) (v4 : Int32) (v5 : Int64) (v7 : Int64) (v9 : Int32) (h : aH), lX0_lowest_9 n v0 v2 v4 v5 v7 v9 h = some z → Ev (d + 0) none mX0_lowest (0, 0) 9 [.long v0, .null, .long v2, .null, .int v4, .long v5, .null, .long v7, .null, .int v9, .null, .null] [] h (QJ z) := by
  intro n
  induction n with
  | zero => intro _ _ _ _ _ _ _ q; exact nos (show (none : Option (Int64 × aH)) = some z from q)
  | succ n ih => intro v0 v2 v4 v5 v7 v9 h q; exact tX0_lowest_9 ih v0 v2 v4 v5 v7 v9 h q
def wX0_lowest_0 : List En := [(.lload_n 2, 0, 0, 0), (.lstore 5, 0, 0, 0), (.lload_n 0, 0, 0, 0), (.lstore 7, 0, 0, 0), (.iconst 0, 0, 0, 0), (.istore 9, 0, 0, 0)]
def fX0_lowest_0 (v0 : Int64) (v2 : Int64) (v4 : Int32) (h : aH) : Option (Int64 × aH) :=
  lX0_lowest_9 FU v0 v2 v4 v2 v0 (kI 0) h
theorem tX0_lowest_0 {d : Nat} {z : Int64 × aH} (v0 : Int64) (v2 : Int64) (v4 : Int32) (h : aH) (hf : fX0_lowest_0 v0 v2 v4 h = some z) : Ev (d + 0) none mX0_lowest (0, 0) 0 [.long v0, .null, .long v2, .null, .int v4, .null, .null, .null, .null, .null, .null, .null] [] h (QJ z) := 
  go_ok (X := none) (blk := wX0_lowest_0) (np := 9) (tt := 0) (kN := fun xs h st => app [3, 0, 3, 0, 1, 3, 0, 3, 0, 1, 0, 0] (fun v0 v2 v4 v5 v7 v9 => apS [] (lX0_lowest_9 FU v0 v2 v4 v5 v7 v9 h) st) xs) (kT := fun _ _ _ => none) (kR := kRJ)
    (fun xs h st q => jm [3, 0, 3, 0, 1, 3, 0, 3, 0, 1, 0, 0] _ (fun v0 v2 v4 v5 v7 v9 q => apS_ok [] _ (fun st => Ev (d + 0) none mX0_lowest (0, 0) 9 [.long v0, .null, .long v2, .null, .int v4, .long v5, .null, .long v7, .null, .int v9, .null, .null] st h (QJ z)) st (fun q => uX0_lowest_9 FU v0 v2 v4 v5 v7 v9 h q) q) q)
    (fun _ _ _ q => nos q)
    kRJ_ok (Or.inr rfl) (by decide +kernel) (by decide +kernel) hf
def gX0_lowest (v0 : Int64) (v2 : Int64) (v4 : Int32) (h : aH) : Option (Int64 × aH) := fX0_lowest_0 v0 v2 v4 h
theorem zX0_lowest {d : Nat} {z : Int64 × aH} {v0 : Int64} {v2 : Int64} {v4 : Int32} {h : aH} (q : gX0_lowest v0 v2 v4 h = some z) : CT (d + 0) mX0_lowest (0, 0) [.long v0, .long v2, .int v4] h (QJ z) :=
  ct_ev (by decide +kernel) (Nat.le_of_ble_eq_true rfl) QJ_r (jm [3, 0, 3, 0, 1, 0, 0, 0, 0, 0, 0, 0] (fun v0 v2 v4 => fX0_lowest_0 v0 v2 v4 h) (fun v0 v2 v4 q => tX0_lowest_0 v0 v2 v4 h q) q)
def wJ7_fill_d0a16_22 : List En := [(.return_, 0, 0, 0)]
def fJ7_fill_d0a16_22 (h : aH) : Option (aH) :=
  some h
theorem tJ7_fill_d0a16_22 {d : Nat} {z : aH} (h : aH) (hf : fJ7_fill_d0a16_22 h = some z) : Ev (d + 0) none mJ7_fill_d0a16 (0, 0) 22 [.null, .null, .null, .null, .null] [] h (QV z) := 
  go_ok (X := none) (blk := wJ7_fill_d0a16_22) (np := 23) (tt := 0) (kN := fun _ _ _ => none) (kT := fun _ _ _ => none) (kR := kRV)
    (fun _ _ _ q => nos q)
    (fun _ _ _ q => nos q)
    kRV_ok (Or.inl (by decide +kernel)) (by decide +kernel) (by decide +kernel) hf
def wJ7_fill_d0a16_12 : List En := [(.aload_n 0, 0, 0, 0), (.iload_n 3, 0, 0, 0), (.lload_n 1, 0, 0, 0), (.lastore, 0, 0, 0), (.iinc 3 1, 0, 0, 0), (.goto (-13), 6, 0, 0)]
def fJ7_fill_d0a16_12 (k6 : Nat → Int64 → Int32 → Int32 → aH → Option (aH)) (v0 : Nat) (v1 : Int64) (v3 : Int32) (v4 : Int32) (h : aH) : Option (aH) :=
  (aWJ h v0 v3 v1).bind fun h1 =>
  k6 v0 v1 (v3 + kI 1) v4 h1
theorem tJ7_fill_d0a16_12 {d : Nat} {z : aH} {k6 : Nat → Int64 → Int32 → Int32 → aH → Option (aH)} (hk6 : ∀ (v0 : Nat) (v1 : Int64) (v3 : Int32) (v4 : Int32) (h : aH), k6 v0 v1 v3 v4 h = some z → Ev (d + 0) none mJ7_fill_d0a16 (0, 0) 6 [.ref v0, .long v1, .null, .int v3, .int v4] [] h (QV z)) (v0 : Nat) (v1 : Int64) (v3 : Int32) (v4 : Int32) (h : aH) (hf : fJ7_fill_d0a16_12 k6 v0 v1 v3 v4 h = some z) : Ev (d + 0) none mJ7_fill_d0a16 (0, 0) 12 [.ref v0, .long v1, .null, .int v3, .int v4] [] h (QV z) := 
  go_ok (X := none) (blk := wJ7_fill_d0a16_12) (np := 22) (tt := 6) (kN := fun _ _ _ => none) (kT := fun xs h st => app [2, 3, 0, 1, 1] (fun v0 v1 v3 v4 => apS [] (k6 v0 v1 v3 v4 h) st) xs) (kR := kRV)
    (fun _ _ _ q => nos q)
    (fun xs h st q => jm [2, 3, 0, 1, 1] _ (fun v0 v1 v3 v4 q => apS_ok [] _ (fun st => Ev (d + 0) none mJ7_fill_d0a16 (0, 0) 6 [.ref v0, .long v1, .null, .int v3, .int v4] st h (QV z)) st (fun q => hk6 v0 v1 v3 v4 h q) q) q)
    kRV_ok (Or.inl (by decide +kernel)) (by decide +kernel) (by decide +kernel) hf
def wJ7_fill_d0a16_6 : List En := [(.iload_n 3, 0, 0, 0), (.iload 4, 0, 0, 0), (.if_icmp .ge 13, 22, 0, 0)]
def fJ7_fill_d0a16_6 (k6 : Nat → Int64 → Int32 → Int32 → aH → Option (aH)) (v0 : Nat) (v1 : Int64) (v3 : Int32) (v4 : Int32) (h : aH) : Option (aH) :=
  if v3 < v4 then fJ7_fill_d0a16_12 k6 v0 v1 v3 v4 h else fJ7_fill_d0a16_22 h
theorem tJ7_fill_d0a16_6 {d : Nat} {z : aH} {k6 : Nat → Int64 → Int32 → Int32 → aH → Option (aH)} (hk6 : ∀ (v0 : Nat) (v1 : Int64) (v3 : Int32) (v4 : Int32) (h : aH), k6 v0 v1 v3 v4 h = some z → Ev (d + 0) none mJ7_fill_d0a16 (0, 0) 6 [.ref v0, .long v1, .null, .int v3, .int v4] [] h (QV z)) (v0 : Nat) (v1 : Int64) (v3 : Int32) (v4 : Int32) (h : aH) (hf : fJ7_fill_d0a16_6 k6 v0 v1 v3 v4 h = some z) : Ev (d + 0) none mJ7_fill_d0a16 (0, 0) 6 [.ref v0, .long v1, .null, .int v3, .int v4] [] h (QV z) := 
  go_ok (X := none) (blk := wJ7_fill_d0a16_6) (np := 12) (tt := 22) (kN := fun xs h st => app [2, 3, 0, 1, 1] (fun v0 v1 v3 v4 => apS [] (fJ7_fill_d0a16_12 k6 v0 v1 v3 v4 h) st) xs) (kT := fun xs h st => app [0, 0, 0, 0, 0] (apS [] (fJ7_fill_d0a16_22 h) st) xs) (kR := kRV)
    (fun xs h st q => jm [2, 3, 0, 1, 1] _ (fun v0 v1 v3 v4 q => apS_ok [] _ (fun st => Ev (d + 0) none mJ7_fill_d0a16 (0, 0) 12 [.ref v0, .long v1, .null, .int v3, .int v4] st h (QV z)) st (fun q => tJ7_fill_d0a16_12 hk6 v0 v1 v3 v4 h q) q) q)
    (fun xs h st q => jm [0, 0, 0, 0, 0] _ (fun q => apS_ok [] _ (fun st => Ev (d + 0) none mJ7_fill_d0a16 (0, 0) 22 [.null, .null, .null, .null, .null] st h (QV z)) st (fun q => tJ7_fill_d0a16_22 h q) q) q)
    kRV_ok (Or.inl (by decide +kernel)) (by decide +kernel) (by decide +kernel) hf
def lJ7_fill_d0a16_6 : Nat → Nat → Int64 → Int32 → Int32 → aH → Option (aH)
  | 0, _, _, _, _, _ => none
  | n + 1, v0, v1, v3, v4, h => fJ7_fill_d0a16_6 (lJ7_fill_d0a16_6 n) v0 v1 v3 v4 h
theorem uJ7_fill_d0a16_6 {d : Nat} {z : aH} : ∀ (n : Nat) (v0 : Nat) (v1 : Int64) (v3 : Int32) (v4 : Int32) (h : aH), lJ7_fill_d0a16_6 n v0 v1 v3 v4 h = some z → Ev (d + 0) none mJ7_fill_d0a16 (0, 0) 6 [.ref v0, .long v1, .null, .int v3, .int v4] [] h (QV z) := by
  intro n
  induction n with
  | zero => intro _ _ _ _ _ q; exact nos (show (none : Option (aH)) = some z from q)
  | succ n ih => intro v0 v1 v3 v4 h q; exact tJ7_fill_d0a16_6 ih v0 v1 v3 v4 h q
def wJ7_fill_d0a16_0 : List En := [(.iconst 0, 0, 0, 0), (.istore_n 3, 0, 0, 0), (.aload_n 0, 0, 0, 0), (.arraylength, 0, 0, 0), (.istore 4, 0, 0, 0)]
def fJ7_fill_d0a16_0 (v0 : Nat) (v1 : Int64) (h : aH) : Option (aH) :=
  (aLn (h[v0]?)).bind fun t1 =>
  lJ7_fill_d0a16_6 FU v0 v1 (kI 0) t1 h
theorem tJ7_fill_d0a16_0 {d : Nat} {z : aH} (v0 : Nat) (v1 : Int64) (h : aH) (hf : fJ7_fill_d0a16_0 v0 v1 h = some z) : Ev (d + 0) none mJ7_fill_d0a16 (0, 0) 0 [.ref v0, .long v1, .null, .null, .null] [] h (QV z) := 
  go_ok (X := none) (blk := wJ7_fill_d0a16_0) (np := 6) (tt := 0) (kN := fun xs h st => app [2, 3, 0, 1, 1] (fun v0 v1 v3 v4 => apS [] (lJ7_fill_d0a16_6 FU v0 v1 v3 v4 h) st) xs) (kT := fun _ _ _ => none) (kR := kRV)
    (fun xs h st q => jm [2, 3, 0, 1, 1] _ (fun v0 v1 v3 v4 q => apS_ok [] _ (fun st => Ev (d + 0) none mJ7_fill_d0a16 (0, 0) 6 [.ref v0, .long v1, .null, .int v3, .int v4] st h (QV z)) st (fun q => uJ7_fill_d0a16_6 FU v0 v1 v3 v4 h q) q) q)
    (fun _ _ _ q => nos q)
    kRV_ok (Or.inl (by decide +kernel)) (by decide +kernel) (by decide +kernel) hf
def gJ7_fill_d0a16 (v0 : Nat) (v1 : Int64) (h : aH) : Option (aH) := fJ7_fill_d0a16_0 v0 v1 h
theorem zJ7_fill_d0a16 {d : Nat} {z : aH} {v0 : Nat} {v1 : Int64} {h : aH} (q : gJ7_fill_d0a16 v0 v1 h = some z) : CT (d + 0) mJ7_fill_d0a16 (0, 0) [.ref v0, .long v1] h (QV z) :=
  ct_ev (by decide +kernel) (Nat.le_of_ble_eq_true rfl) QV_r (jm [2, 3, 0, 0, 0] (fun v0 v1 => fJ7_fill_d0a16_0 v0 v1 h) (fun v0 v1 q => tJ7_fill_d0a16_0 v0 v1 h q) q)
def wX0_weighWay_123 : List En := [(.return_, 0, 0, 0)]
def fX0_weighWay_123 (h : aH) : Option (aH) :=
  some h
theorem tX0_weighWay_123 {d : Nat} {z : aH} (h : aH) (hf : fX0_weighWay_123 h = some z) : Ev (d + 3) none mX0_weighWay (0, 0) 123 [.null, .null, .null, .null, .null, .null, .null, .null, .null] [] h (QV z) := 
  go_ok (X := none) (blk := wX0_weighWay_123) (np := 124) (tt := 0) (kN := fun _ _ _ => none) (kT := fun _ _ _ => none) (kR := kRV)
    (fun _ _ _ q => nos q)
    (fun _ _ _ q => nos q)
    kRV_ok (Or.inr rfl) (by decide +kernel) (by decide +kernel) hf
def wX0_weighWay_106 : List En := [(.aload_n 0, 0, 0, 0), (.getfield 9, 81, 0, 1), (.aload_n 0, 0, 0, 0), (.getfield 25, 84, 0, 3), (.getfield 62, 42, 6, 1), (.dup2, 0, 0, 0), (.laload, 0, 0, 0), (.lload 5, 0, 0, 0), (.ladd, 0, 0, 0), (.lastore, 0, 0, 0)]
def fX0_weighWay_106 (v0 : Nat) (v5 : Int64) (h : aH) : Option (aH) :=
  (gFR h 0 v0 1).bind fun t1 =>
  (gFR h 0 v0 3).bind fun t2 =>
  (gFI h 6 t2 1).bind fun t3 =>
  (aRJ (h[t1]?) t3).bind fun t4 =>
  (aWJ h t1 t3 (t4 + v5)).bind fun h5 =>
  fX0_weighWay_123 h5
theorem tX0_weighWay_106 {d : Nat} {z : aH} (v0 : Nat) (v5 : Int64) (h : aH) (hf : fX0_weighWay_106 v0 v5 h = some z) : Ev (d + 3) none mX0_weighWay (0, 0) 106 [.ref v0, .null, .null, .null, .null, .long v5, .null, .null, .null] [] h (QV z) := 
  go_ok (X := none) (blk := wX0_weighWay_106) (np := 123) (tt := 0) (kN := fun xs h st => app [0, 0, 0, 0, 0, 0, 0, 0, 0] (apS [] (fX0_weighWay_123 h) st) xs) (kT := fun _ _ _ => none) (kR := kRV)
    (fun xs h st q => jm [0, 0, 0, 0, 0, 0, 0, 0, 0] _ (fun q => apS_ok [] _ (fun st => Ev (d + 3) none mX0_weighWay (0, 0) 123 [.null, .null, .null, .null, .null, .null, .null, .null, .null] st h (QV z)) st (fun q => tX0_weighWay_123 h q) q) q)
    (fun _ _ _ q => nos q)
    kRV_ok (Or.inr rfl) (by decide +kernel) (by decide +kernel) hf
def wX0_weighWay_96 : List En := [(.aload_n 0, 0, 0, 0), (.getfield 25, 84, 0, 3), (.getfield 62, 42, 6, 1), (.ifCond .lt 20, 123, 0, 0)]
def fX0_weighWay_96 (v0 : Nat) (v5 : Int64) (h : aH) : Option (aH) :=
  (gFR h 0 v0 3).bind fun t1 =>
  (gFI h 6 t1 1).bind fun t2 =>
  if t2 < 0 then fX0_weighWay_123 h else fX0_weighWay_106 v0 v5 h
theorem tX0_weighWay_96 {d : Nat} {z : aH} (v0 : Nat) (v5 : Int64) (h : aH) (hf : fX0_weighWay_96 v0 v5 h = some z) : Ev (d + 3) none mX0_weighWay (0, 0) 96 [.ref v0, .null, .null, .null, .null, .long v5, .null, .null, .null] [] h (QV z) := 
  go_ok (X := none) (blk := wX0_weighWay_96) (np := 106) (tt := 123) (kN := fun xs h st => app [2, 0, 0, 0, 0, 3, 0, 0, 0] (fun v0 v5 => apS [] (fX0_weighWay_106 v0 v5 h) st) xs) (kT := fun xs h st => app [0, 0, 0, 0, 0, 0, 0, 0, 0] (apS [] (fX0_weighWay_123 h) st) xs) (kR := kRV)
    (fun xs h st q => jm [2, 0, 0, 0, 0, 3, 0, 0, 0] _ (fun v0 v5 q => apS_ok [] _ (fun st => Ev (d + 3) none mX0_weighWay (0, 0) 106 [.ref v0, .null, .null, .null, .null, .long v5, .null, .null, .null] st h (QV z)) st (fun q => tX0_weighWay_106 v0 v5 h q) q) q)
    (fun xs h st q => jm [0, 0, 0, 0, 0, 0, 0, 0, 0] _ (fun q => apS_ok [] _ (fun st => Ev (d + 3) none mX0_weighWay (0, 0) 123 [.null, .null, .null, .null, .null, .null, .null, .null, .null] st h (QV z)) st (fun q => tX0_weighWay_123 h q) q) q)
    kRV_ok (Or.inr rfl) (by decide +kernel) (by decide +kernel) hf
def wX0_weighWay_90 : List En := [(.iinc 7 1, 0, 0, 0), (.goto (-79), 14, 0, 0)]
def fX0_weighWay_90 (k14 : Nat → Nat → Int32 → Int32 → Int64 → Int32 → aH → Option (aH)) (v0 : Nat) (v1 : Nat) (v3 : Int32) (v4 : Int32) (v5 : Int64) (v7 : Int32) (h : aH) : Option (aH) :=
  k14 v0 v1 v3 v4 v5 (v7 + kI 1) h
theorem tX0_weighWay_90 {d : Nat} {z : aH} {k14 : Nat → Nat → Int32 → Int32 → Int64 → Int32 → aH → Option (aH)} (hk14 : ∀ (v0 : Nat) (v1 : Nat) (v3 : Int32) (v4 : Int32) (v5 : Int64) (v7 : Int32) (h : aH), k14 v0 v1 v3 v4 v5 v7 h = some z → Ev (d + 3) none mX0_weighWay (0, 0) 14 [.ref v0, .ref v1, .null, .int v3, .int v4, .long v5, .null, .int v7, .null] [] h (QV z)) (v0 : Nat) (v1 : Nat) (v3 : Int32) (v4 : Int32) (v5 : Int64) (v7 : Int32) (h : aH) (hf : fX0_weighWay_90 k14 v0 v1 v3 v4 v5 v7 h = some z) : Ev (d + 3) none mX0_weighWay (0, 0) 90 [.ref v0, .ref v1, .null, .int v3, .int v4, .long v5, .null, .int v7, .null] [] h (QV z) := 
  go_ok (X := none) (blk := wX0_weighWay_90) (np := 96) (tt := 14) (kN := fun _ _ _ => none) (kT := fun xs h st => app [2, 2, 0, 1, 1, 3, 0, 1, 0] (fun v0 v1 v3 v4 v5 v7 => apS [] (k14 v0 v1 v3 v4 v5 v7 h) st) xs) (kR := kRV)
    (fun _ _ _ q => nos q)
    (fun xs h st q => jm [2, 2, 0, 1, 1, 3, 0, 1, 0] _ (fun v0 v1 v3 v4 v5 v7 q => apS_ok [] _ (fun st => Ev (d + 3) none mX0_weighWay (0, 0) 14 [.ref v0, .ref v1, .null, .int v3, .int v4, .long v5, .null, .int v7, .null] st h (QV z)) st (fun q => hk14 v0 v1 v3 v4 v5 v7 h q) q) q)
    kRV_ok (Or.inr rfl) (by decide +kernel) (by decide +kernel) hf
theorem kqX0_weighWay_87 : okC mX0_weighWay 87 (.invokevirtual 58) 83 168 0 5 = true := by decide +kernel
def fX0_weighWay_87 (k14 : Nat → Nat → Int32 → Int32 → Int64 → Int32 → aH → Option (aH)) (v0 : Nat) (v1 : Nat) (v3 : Int32) (v4 : Int32) (v5 : Int64) (v7 : Int32) (s0 : Int32) (s1 : Int32) (s2 : Int32) (s3 : Nat) (s4 : Nat) (s5 : Nat) (h : aH) : Option (aH) :=
  (isO h 6 s5).bind fun _ =>
  (gX6_hold s5 s4 s3 s2 s1 s0 h).bind fun r =>
  fX0_weighWay_90 k14 v0 v1 v3 v4 v5 v7 r
theorem tX0_weighWay_87 {d : Nat} {z : aH} {k14 : Nat → Nat → Int32 → Int32 → Int64 → Int32 → aH → Option (aH)} (hk14 : ∀ (v0 : Nat) (v1 : Nat) (v3 : Int32) (v4 : Int32) (v5 : Int64) (v7 : Int32) (h : aH), k14 v0 v1 v3 v4 v5 v7 h = some z → Ev (d + 3) none mX0_weighWay (0, 0) 14 [.ref v0, .ref v1, .null, .int v3, .int v4, .long v5, .null, .int v7, .null] [] h (QV z)) (v0 : Nat) (v1 : Nat) (v3 : Int32) (v4 : Int32) (v5 : Int64) (v7 : Int32) (s0 : Int32) (s1 : Int32) (s2 : Int32) (s3 : Nat) (s4 : Nat) (s5 : Nat) (h : aH) (hf : fX0_weighWay_87 k14 v0 v1 v3 v4 v5 v7 s0 s1 s2 s3 s4 s5 h = some z) : Ev (d + 3) none mX0_weighWay (0, 0) 87 [.ref v0, .ref v1, .null, .int v3, .int v4, .long v5, .null, .int v7, .null] [.int s0, .int s1, .int s2, .ref s3, .ref s4, .ref s5] h (QV z) := by
  obtain ⟨_, h1, hf⟩ := bnd hf
  obtain ⟨fs, ho⟩ := isO_ok h1
  obtain ⟨r, h2, hf⟩ := bnd hf
  refine ev_V kqX0_weighWay_87 jX6_hold (zX6_hold (d := d + 0) h2) ho rfl rfl (Nat.le_of_ble_eq_true rfl) rfl (as := [.ref s4, .ref s3, .int s2, .int s1, .int s0]) (rest := []) rfl (Nat.le_of_ble_eq_true rfl) (fun _ _ hq => ?_)
  obtain ⟨rfl, hh⟩ := hq
  rw [hh]
  exact jm [2, 2, 0, 1, 1, 3, 0, 1, 0] (fun v0 v1 v3 v4 v5 v7 => fX0_weighWay_90 k14 v0 v1 v3 v4 v5 v7 r) (fun v0 v1 v3 v4 v5 v7 q => tX0_weighWay_90 hk14 v0 v1 v3 v4 v5 v7 r q) hf
def wX0_weighWay_68 : List En := [(.lmul, 0, 0, 0), (.lstore 5, 0, 0, 0), (.aload_n 0, 0, 0, 0), (.getfield 25, 84, 0, 3), (.aload_n 1, 0, 0, 0), (.aload_n 0, 0, 0, 0), (.getfield 18, 83, 0, 2), (.iconst 0, 0, 0, 0), (.iload 8, 0, 0, 0), (.aload_n 1, 0, 0, 0), (.getfield 55, 94, 9, 0)]
def fX0_weighWay_68 (k14 : Nat → Nat → Int32 → Int32 → Int64 → Int32 → aH → Option (aH)) (v0 : Nat) (v1 : Nat) (v3 : Int32) (v4 : Int32) (v7 : Int32) (v8 : Int32) (s0 : Int64) (s1 : Int64) (h : aH) : Option (aH) :=
  (gFR h 0 v0 3).bind fun t1 =>
  (gFR h 0 v0 2).bind fun t2 =>
  (gFI h 9 v1 0).bind fun t3 =>
  fX0_weighWay_87 k14 v0 v1 v3 v4 (s1 * s0) v7 t3 v8 (kI 0) t2 v1 t1 h
theorem tX0_weighWay_68 {d : Nat} {z : aH} {k14 : Nat → Nat → Int32 → Int32 → Int64 → Int32 → aH → Option (aH)} (hk14 : ∀ (v0 : Nat) (v1 : Nat) (v3 : Int32) (v4 : Int32) (v5 : Int64) (v7 : Int32) (h : aH), k14 v0 v1 v3 v4 v5 v7 h = some z → Ev (d + 3) none mX0_weighWay (0, 0) 14 [.ref v0, .ref v1, .null, .int v3, .int v4, .long v5, .null, .int v7, .null] [] h (QV z)) (v0 : Nat) (v1 : Nat) (v3 : Int32) (v4 : Int32) (v7 : Int32) (v8 : Int32) (s0 : Int64) (s1 : Int64) (h : aH) (hf : fX0_weighWay_68 k14 v0 v1 v3 v4 v7 v8 s0 s1 h = some z) : Ev (d + 3) none mX0_weighWay (0, 0) 68 [.ref v0, .ref v1, .null, .int v3, .int v4, .null, .null, .int v7, .int v8] [.long s0, .long s1] h (QV z) := 
  go_ok (X := none) (blk := wX0_weighWay_68) (np := 87) (tt := 0) (kN := fun xs h st => app [2, 2, 0, 1, 1, 3, 0, 1, 0] (fun v0 v1 v3 v4 v5 v7 => apS [1, 1, 1, 2, 2, 2] (fun s0 s1 s2 s3 s4 s5 => fX0_weighWay_87 k14 v0 v1 v3 v4 v5 v7 s0 s1 s2 s3 s4 s5 h) st) xs) (kT := fun _ _ _ => none) (kR := kRV)
    (fun xs h st q => jm [2, 2, 0, 1, 1, 3, 0, 1, 0] _ (fun v0 v1 v3 v4 v5 v7 q => apS_ok [1, 1, 1, 2, 2, 2] _ (fun st => Ev (d + 3) none mX0_weighWay (0, 0) 87 [.ref v0, .ref v1, .null, .int v3, .int v4, .long v5, .null, .int v7, .null] st h (QV z)) st (fun s0 s1 s2 s3 s4 s5 q => tX0_weighWay_87 hk14 v0 v1 v3 v4 v5 v7 s0 s1 s2 s3 s4 s5 h q) q) q)
    (fun _ _ _ q => nos q)
    kRV_ok (Or.inr rfl) (by decide +kernel) (by decide +kernel) hf
def wX0_weighWay_60 : List En := [(.bipush 100, 0, 0, 0), (.aload_n 1, 0, 0, 0), (.getfield 49, 104, 9, 2), (.isub, 0, 0, 0), (.i2l, 0, 0, 0)]
def fX0_weighWay_60 (k14 : Nat → Nat → Int32 → Int32 → Int64 → Int32 → aH → Option (aH)) (v0 : Nat) (v1 : Nat) (v3 : Int32) (v4 : Int32) (v7 : Int32) (v8 : Int32) (s0 : Int64) (h : aH) : Option (aH) :=
  (gFI h 9 v1 2).bind fun t1 =>
  fX0_weighWay_68 k14 v0 v1 v3 v4 v7 v8 ((kB 100) - t1).toInt64 s0 h
theorem tX0_weighWay_60 {d : Nat} {z : aH} {k14 : Nat → Nat → Int32 → Int32 → Int64 → Int32 → aH → Option (aH)} (hk14 : ∀ (v0 : Nat) (v1 : Nat) (v3 : Int32) (v4 : Int32) (v5 : Int64) (v7 : Int32) (h : aH), k14 v0 v1 v3 v4 v5 v7 h = some z → Ev (d + 3) none mX0_weighWay (0, 0) 14 [.ref v0, .ref v1, .null, .int v3, .int v4, .long v5, .null, .int v7, .null] [] h (QV z)) (v0 : Nat) (v1 : Nat) (v3 : Int32) (v4 : Int32) (v7 : Int32) (v8 : Int32) (s0 : Int64) (h : aH) (hf : fX0_weighWay_60 k14 v0 v1 v3 v4 v7 v8 s0 h = some z) : Ev (d + 3) none mX0_weighWay (0, 0) 60 [.ref v0, .ref v1, .null, .int v3, .int v4, .null, .null, .int v7, .int v8] [.long s0] h (QV z) := 
  go_ok (X := none) (blk := wX0_weighWay_60) (np := 68) (tt := 0) (kN := fun xs h st => app [2, 2, 0, 1, 1, 0, 0, 1, 1] (fun v0 v1 v3 v4 v7 v8 => apS [3, 3] (fun s0 s1 => fX0_weighWay_68 k14 v0 v1 v3 v4 v7 v8 s0 s1 h) st) xs) (kT := fun _ _ _ => none) (kR := kRV)
    (fun xs h st q => jm [2, 2, 0, 1, 1, 0, 0, 1, 1] _ (fun v0 v1 v3 v4 v7 v8 q => apS_ok [3, 3] _ (fun st => Ev (d + 3) none mX0_weighWay (0, 0) 68 [.ref v0, .ref v1, .null, .int v3, .int v4, .null, .null, .int v7, .int v8] st h (QV z)) st (fun s0 s1 q => tX0_weighWay_68 hk14 v0 v1 v3 v4 v7 v8 s0 s1 h q) q) q)
    (fun _ _ _ q => nos q)
    kRV_ok (Or.inr rfl) (by decide +kernel) (by decide +kernel) hf
def wX0_weighWay_52 : List En := [(.aload_n 1, 0, 0, 0), (.getfield 49, 104, 9, 2), (.i2l, 0, 0, 0), (.goto 11, 68, 0, 0)]
def fX0_weighWay_52 (k14 : Nat → Nat → Int32 → Int32 → Int64 → Int32 → aH → Option (aH)) (v0 : Nat) (v1 : Nat) (v3 : Int32) (v4 : Int32) (v7 : Int32) (v8 : Int32) (s0 : Int64) (h : aH) : Option (aH) :=
  (gFI h 9 v1 2).bind fun t1 =>
  fX0_weighWay_68 k14 v0 v1 v3 v4 v7 v8 t1.toInt64 s0 h
theorem tX0_weighWay_52 {d : Nat} {z : aH} {k14 : Nat → Nat → Int32 → Int32 → Int64 → Int32 → aH → Option (aH)} (hk14 : ∀ (v0 : Nat) (v1 : Nat) (v3 : Int32) (v4 : Int32) (v5 : Int64) (v7 : Int32) (h : aH), k14 v0 v1 v3 v4 v5 v7 h = some z → Ev (d + 3) none mX0_weighWay (0, 0) 14 [.ref v0, .ref v1, .null, .int v3, .int v4, .long v5, .null, .int v7, .null] [] h (QV z)) (v0 : Nat) (v1 : Nat) (v3 : Int32) (v4 : Int32) (v7 : Int32) (v8 : Int32) (s0 : Int64) (h : aH) (hf : fX0_weighWay_52 k14 v0 v1 v3 v4 v7 v8 s0 h = some z) : Ev (d + 3) none mX0_weighWay (0, 0) 52 [.ref v0, .ref v1, .null, .int v3, .int v4, .null, .null, .int v7, .int v8] [.long s0] h (QV z) := 
  go_ok (X := none) (blk := wX0_weighWay_52) (np := 60) (tt := 68) (kN := fun _ _ _ => none) (kT := fun xs h st => app [2, 2, 0, 1, 1, 0, 0, 1, 1] (fun v0 v1 v3 v4 v7 v8 => apS [3, 3] (fun s0 s1 => fX0_weighWay_68 k14 v0 v1 v3 v4 v7 v8 s0 s1 h) st) xs) (kR := kRV)
    (fun _ _ _ q => nos q)
    (fun xs h st q => jm [2, 2, 0, 1, 1, 0, 0, 1, 1] _ (fun v0 v1 v3 v4 v7 v8 q => apS_ok [3, 3] _ (fun st => Ev (d + 3) none mX0_weighWay (0, 0) 68 [.ref v0, .ref v1, .null, .int v3, .int v4, .null, .null, .int v7, .int v8] st h (QV z)) st (fun s0 s1 q => tX0_weighWay_68 hk14 v0 v1 v3 v4 v7 v8 s0 s1 h q) q) q)
    kRV_ok (Or.inr rfl) (by decide +kernel) (by decide +kernel) hf
def wX0_weighWay_43 : List En := [(.istore 8, 0, 0, 0), (.lload 5, 0, 0, 0), (.iload 8, 0, 0, 0), (.ifCond .eq 11, 60, 0, 0)]
def fX0_weighWay_43 (k14 : Nat → Nat → Int32 → Int32 → Int64 → Int32 → aH → Option (aH)) (v0 : Nat) (v1 : Nat) (v3 : Int32) (v4 : Int32) (v5 : Int64) (v7 : Int32) (s0 : Int32) (h : aH) : Option (aH) :=
  if s0 = 0 then fX0_weighWay_60 k14 v0 v1 v3 v4 v7 s0 v5 h else fX0_weighWay_52 k14 v0 v1 v3 v4 v7 s0 v5 h
theorem tX0_weighWay_43 {d : Nat} {z : aH} {k14 : Nat → Nat → Int32 → Int32 → Int64 → Int32 → aH → Option (aH)} (hk14 : ∀ (v0 : Nat) (v1 : Nat) (v3 : Int32) (v4 : Int32) (v5 : Int64) (v7 : Int32) (h : aH), k14 v0 v1 v3 v4 v5 v7 h = some z → Ev (d + 3) none mX0_weighWay (0, 0) 14 [.ref v0, .ref v1, .null, .int v3, .int v4, .long v5, .null, .int v7, .null] [] h (QV z)) (v0 : Nat) (v1 : Nat) (v3 : Int32) (v4 : Int32) (v5 : Int64) (v7 : Int32) (s0 : Int32) (h : aH) (hf : fX0_weighWay_43 k14 v0 v1 v3 v4 v5 v7 s0 h = some z) : Ev (d + 3) none mX0_weighWay (0, 0) 43 [.ref v0, .ref v1, .null, .int v3, .int v4, .long v5, .null, .int v7, .null] [.int s0] h (QV z) := 
  go_ok (X := none) (blk := wX0_weighWay_43) (np := 52) (tt := 60) (kN := fun xs h st => app [2, 2, 0, 1, 1, 0, 0, 1, 1] (fun v0 v1 v3 v4 v7 v8 => apS [3] (fun s0 => fX0_weighWay_52 k14 v0 v1 v3 v4 v7 v8 s0 h) st) xs) (kT := fun xs h st => app [2, 2, 0, 1, 1, 0, 0, 1, 1] (fun v0 v1 v3 v4 v7 v8 => apS [3] (fun s0 => fX0_weighWay_60 k14 v0 v1 v3 v4 v7 v8 s0 h) st) xs) (kR := kRV)
    (fun xs h st q => jm [2, 2, 0, 1, 1, 0, 0, 1, 1] _ (fun v0 v1 v3 v4 v7 v8 q => apS_ok [3] _ (fun st => Ev (d + 3) none mX0_weighWay (0, 0) 52 [.ref v0, .ref v1, .null, .int v3, .int v4, .null, .null, .int v7, .int v8] st h (QV z)) st (fun s0 q => tX0_weighWay_52 hk14 v0 v1 v3 v4 v7 v8 s0 h q) q) q)
    (fun xs h st q => jm [2, 2, 0, 1, 1, 0, 0, 1, 1] _ (fun v0 v1 v3 v4 v7 v8 q => apS_ok [3] _ (fun st => Ev (d + 3) none mX0_weighWay (0, 0) 60 [.ref v0, .ref v1, .null, .int v3, .int v4, .null, .null, .int v7, .int v8] st h (QV z)) st (fun s0 q => tX0_weighWay_60 hk14 v0 v1 v3 v4 v7 v8 s0 h q) q) q)
    kRV_ok (Or.inr rfl) (by decide +kernel) (by decide +kernel) hf
def wX0_weighWay_42 : List En := [(.iconst 0, 0, 0, 0)]
def fX0_weighWay_42 (k14 : Nat → Nat → Int32 → Int32 → Int64 → Int32 → aH → Option (aH)) (v0 : Nat) (v1 : Nat) (v3 : Int32) (v4 : Int32) (v5 : Int64) (v7 : Int32) (h : aH) : Option (aH) :=
  fX0_weighWay_43 k14 v0 v1 v3 v4 v5 v7 (kI 0) h
theorem tX0_weighWay_42 {d : Nat} {z : aH} {k14 : Nat → Nat → Int32 → Int32 → Int64 → Int32 → aH → Option (aH)} (hk14 : ∀ (v0 : Nat) (v1 : Nat) (v3 : Int32) (v4 : Int32) (v5 : Int64) (v7 : Int32) (h : aH), k14 v0 v1 v3 v4 v5 v7 h = some z → Ev (d + 3) none mX0_weighWay (0, 0) 14 [.ref v0, .ref v1, .null, .int v3, .int v4, .long v5, .null, .int v7, .null] [] h (QV z)) (v0 : Nat) (v1 : Nat) (v3 : Int32) (v4 : Int32) (v5 : Int64) (v7 : Int32) (h : aH) (hf : fX0_weighWay_42 k14 v0 v1 v3 v4 v5 v7 h = some z) : Ev (d + 3) none mX0_weighWay (0, 0) 42 [.ref v0, .ref v1, .null, .int v3, .int v4, .long v5, .null, .int v7, .null] [] h (QV z) := 
  go_ok (X := none) (blk := wX0_weighWay_42) (np := 43) (tt := 0) (kN := fun xs h st => app [2, 2, 0, 1, 1, 3, 0, 1, 0] (fun v0 v1 v3 v4 v5 v7 => apS [1] (fun s0 => fX0_weighWay_43 k14 v0 v1 v3 v4 v5 v7 s0 h) st) xs) (kT := fun _ _ _ => none) (kR := kRV)
    (fun xs h st q => jm [2, 2, 0, 1, 1, 3, 0, 1, 0] _ (fun v0 v1 v3 v4 v5 v7 q => apS_ok [1] _ (fun st => Ev (d + 3) none mX0_weighWay (0, 0) 43 [.ref v0, .ref v1, .null, .int v3, .int v4, .long v5, .null, .int v7, .null] st h (QV z)) st (fun s0 q => tX0_weighWay_43 hk14 v0 v1 v3 v4 v5 v7 s0 h q) q) q)
    (fun _ _ _ q => nos q)
    kRV_ok (Or.inr rfl) (by decide +kernel) (by decide +kernel) hf
def wX0_weighWay_38 : List En := [(.iconst 1, 0, 0, 0), (.goto 4, 43, 0, 0)]
def fX0_weighWay_38 (k14 : Nat → Nat → Int32 → Int32 → Int64 → Int32 → aH → Option (aH)) (v0 : Nat) (v1 : Nat) (v3 : Int32) (v4 : Int32) (v5 : Int64) (v7 : Int32) (h : aH) : Option (aH) :=
  fX0_weighWay_43 k14 v0 v1 v3 v4 v5 v7 (kI 1) h
theorem tX0_weighWay_38 {d : Nat} {z : aH} {k14 : Nat → Nat → Int32 → Int32 → Int64 → Int32 → aH → Option (aH)} (hk14 : ∀ (v0 : Nat) (v1 : Nat) (v3 : Int32) (v4 : Int32) (v5 : Int64) (v7 : Int32) (h : aH), k14 v0 v1 v3 v4 v5 v7 h = some z → Ev (d + 3) none mX0_weighWay (0, 0) 14 [.ref v0, .ref v1, .null, .int v3, .int v4, .long v5, .null, .int v7, .null] [] h (QV z)) (v0 : Nat) (v1 : Nat) (v3 : Int32) (v4 : Int32) (v5 : Int64) (v7 : Int32) (h : aH) (hf : fX0_weighWay_38 k14 v0 v1 v3 v4 v5 v7 h = some z) : Ev (d + 3) none mX0_weighWay (0, 0) 38 [.ref v0, .ref v1, .null, .int v3, .int v4, .long v5, .null, .int v7, .null] [] h (QV z) := 
  go_ok (X := none) (blk := wX0_weighWay_38) (np := 42) (tt := 43) (kN := fun _ _ _ => none) (kT := fun xs h st => app [2, 2, 0, 1, 1, 3, 0, 1, 0] (fun v0 v1 v3 v4 v5 v7 => apS [1] (fun s0 => fX0_weighWay_43 k14 v0 v1 v3 v4 v5 v7 s0 h) st) xs) (kR := kRV)
    (fun _ _ _ q => nos q)
    (fun xs h st q => jm [2, 2, 0, 1, 1, 3, 0, 1, 0] _ (fun v0 v1 v3 v4 v5 v7 q => apS_ok [1] _ (fun st => Ev (d + 3) none mX0_weighWay (0, 0) 43 [.ref v0, .ref v1, .null, .int v3, .int v4, .long v5, .null, .int v7, .null] st h (QV z)) st (fun s0 q => tX0_weighWay_43 hk14 v0 v1 v3 v4 v5 v7 s0 h q) q) q)
    kRV_ok (Or.inr rfl) (by decide +kernel) (by decide +kernel) hf
def wX0_weighWay_27 : List En := [(.iload 4, 0, 0, 0), (.iload 7, 0, 0, 0), (.ishr, 0, 0, 0), (.iconst 1, 0, 0, 0), (.iand, 0, 0, 0), (.iconst 1, 0, 0, 0), (.if_icmp .ne 7, 42, 0, 0)]
def fX0_weighWay_27 (k14 : Nat → Nat → Int32 → Int32 → Int64 → Int32 → aH → Option (aH)) (v0 : Nat) (v1 : Nat) (v3 : Int32) (v4 : Int32) (v5 : Int64) (v7 : Int32) (h : aH) : Option (aH) :=
  if ((v4 >>> (v7 &&& 31)) &&& (kI 1)) = (kI 1) then fX0_weighWay_38 k14 v0 v1 v3 v4 v5 v7 h else fX0_weighWay_42 k14 v0 v1 v3 v4 v5 v7 h
theorem tX0_weighWay_27 {d : Nat} {z : aH} {k14 : Nat → Nat → Int32 → Int32 → Int64 → Int32 → aH → Option (aH)} (hk14 : ∀ (v0 : Nat) (v1 : Nat) (v3 : Int32) (v4 : Int32) (v5 : Int64) (v7 : Int32) (h : aH), k14 v0 v1 v3 v4 v5 v7 h = some z → Ev (d + 3) none mX0_weighWay (0, 0) 14 [.ref v0, .ref v1, .null, .int v3, .int v4, .long v5, .null, .int v7, .null] [] h (QV z)) (v0 : Nat) (v1 : Nat) (v3 : Int32) (v4 : Int32) (v5 : Int64) (v7 : Int32) (h : aH) (hf : fX0_weighWay_27 k14 v0 v1 v3 v4 v5 v7 h = some z) : Ev (d + 3) none mX0_weighWay (0, 0) 27 [.ref v0, .ref v1, .null, .int v3, .int v4, .long v5, .null, .int v7, .null] [] h (QV z) := 
  go_ok (X := none) (blk := wX0_weighWay_27) (np := 38) (tt := 42) (kN := fun xs h st => app [2, 2, 0, 1, 1, 3, 0, 1, 0] (fun v0 v1 v3 v4 v5 v7 => apS [] (fX0_weighWay_38 k14 v0 v1 v3 v4 v5 v7 h) st) xs) (kT := fun xs h st => app [2, 2, 0, 1, 1, 3, 0, 1, 0] (fun v0 v1 v3 v4 v5 v7 => apS [] (fX0_weighWay_42 k14 v0 v1 v3 v4 v5 v7 h) st) xs) (kR := kRV)
    (fun xs h st q => jm [2, 2, 0, 1, 1, 3, 0, 1, 0] _ (fun v0 v1 v3 v4 v5 v7 q => apS_ok [] _ (fun st => Ev (d + 3) none mX0_weighWay (0, 0) 38 [.ref v0, .ref v1, .null, .int v3, .int v4, .long v5, .null, .int v7, .null] st h (QV z)) st (fun q => tX0_weighWay_38 hk14 v0 v1 v3 v4 v5 v7 h q) q) q)
    (fun xs h st q => jm [2, 2, 0, 1, 1, 3, 0, 1, 0] _ (fun v0 v1 v3 v4 v5 v7 q => apS_ok [] _ (fun st => Ev (d + 3) none mX0_weighWay (0, 0) 42 [.ref v0, .ref v1, .null, .int v3, .int v4, .long v5, .null, .int v7, .null] st h (QV z)) st (fun q => tX0_weighWay_42 hk14 v0 v1 v3 v4 v5 v7 h q) q) q)
    kRV_ok (Or.inr rfl) (by decide +kernel) (by decide +kernel) hf
def wX0_weighWay_20 : List En := [(.lload 5, 0, 0, 0), (.lconst 0, 0, 0, 0), (.lcmp, 0, 0, 0), (.ifCond .le 72, 96, 0, 0)]
def fX0_weighWay_20 (k14 : Nat → Nat → Int32 → Int32 → Int64 → Int32 → aH → Option (aH)) (v0 : Nat) (v1 : Nat) (v3 : Int32) (v4 : Int32) (v5 : Int64) (v7 : Int32) (h : aH) : Option (aH) :=
  if 0 < (lg_cmp v5 (kJ 0)) then fX0_weighWay_27 k14 v0 v1 v3 v4 v5 v7 h else fX0_weighWay_96 v0 v5 h
theorem tX0_weighWay_20 {d : Nat} {z : aH} {k14 : Nat → Nat → Int32 → Int32 → Int64 → Int32 → aH → Option (aH)} (hk14 : ∀ (v0 : Nat) (v1 : Nat) (v3 : Int32) (v4 : Int32) (v5 : Int64) (v7 : Int32) (h : aH), k14 v0 v1 v3 v4 v5 v7 h = some z → Ev (d + 3) none mX0_weighWay (0, 0) 14 [.ref v0, .ref v1, .null, .int v3, .int v4, .long v5, .null, .int v7, .null] [] h (QV z)) (v0 : Nat) (v1 : Nat) (v3 : Int32) (v4 : Int32) (v5 : Int64) (v7 : Int32) (h : aH) (hf : fX0_weighWay_20 k14 v0 v1 v3 v4 v5 v7 h = some z) : Ev (d + 3) none mX0_weighWay (0, 0) 20 [.ref v0, .ref v1, .null, .int v3, .int v4, .long v5, .null, .int v7, .null] [] h (QV z) := 
  go_ok (X := none) (blk := wX0_weighWay_20) (np := 27) (tt := 96) (kN := fun xs h st => app [2, 2, 0, 1, 1, 3, 0, 1, 0] (fun v0 v1 v3 v4 v5 v7 => apS [] (fX0_weighWay_27 k14 v0 v1 v3 v4 v5 v7 h) st) xs) (kT := fun xs h st => app [2, 0, 0, 0, 0, 3, 0, 0, 0] (fun v0 v5 => apS [] (fX0_weighWay_96 v0 v5 h) st) xs) (kR := kRV)
    (fun xs h st q => jm [2, 2, 0, 1, 1, 3, 0, 1, 0] _ (fun v0 v1 v3 v4 v5 v7 q => apS_ok [] _ (fun st => Ev (d + 3) none mX0_weighWay (0, 0) 27 [.ref v0, .ref v1, .null, .int v3, .int v4, .long v5, .null, .int v7, .null] st h (QV z)) st (fun q => tX0_weighWay_27 hk14 v0 v1 v3 v4 v5 v7 h q) q) q)
    (fun xs h st q => jm [2, 0, 0, 0, 0, 3, 0, 0, 0] _ (fun v0 v5 q => apS_ok [] _ (fun st => Ev (d + 3) none mX0_weighWay (0, 0) 96 [.ref v0, .null, .null, .null, .null, .long v5, .null, .null, .null] st h (QV z)) st (fun q => tX0_weighWay_96 v0 v5 h q) q) q)
    kRV_ok (Or.inr rfl) (by decide +kernel) (by decide +kernel) hf
def wX0_weighWay_14 : List En := [(.iload 7, 0, 0, 0), (.iload_n 3, 0, 0, 0), (.if_icmp .ge 79, 96, 0, 0)]
def fX0_weighWay_14 (k14 : Nat → Nat → Int32 → Int32 → Int64 → Int32 → aH → Option (aH)) (v0 : Nat) (v1 : Nat) (v3 : Int32) (v4 : Int32) (v5 : Int64) (v7 : Int32) (h : aH) : Option (aH) :=
  if v7 < v3 then fX0_weighWay_20 k14 v0 v1 v3 v4 v5 v7 h else fX0_weighWay_96 v0 v5 h
theorem tX0_weighWay_14 {d : Nat} {z : aH} {k14 : Nat → Nat → Int32 → Int32 → Int64 → Int32 → aH → Option (aH)} (hk14 : ∀ (v0 : Nat) (v1 : Nat) (v3 : Int32) (v4 : Int32) (v5 : Int64) (v7 : Int32) (h : aH), k14 v0 v1 v3 v4 v5 v7 h = some z → Ev (d + 3) none mX0_weighWay (0, 0) 14 [.ref v0, .ref v1, .null, .int v3, .int v4, .long v5, .null, .int v7, .null] [] h (QV z)) (v0 : Nat) (v1 : Nat) (v3 : Int32) (v4 : Int32) (v5 : Int64) (v7 : Int32) (h : aH) (hf : fX0_weighWay_14 k14 v0 v1 v3 v4 v5 v7 h = some z) : Ev (d + 3) none mX0_weighWay (0, 0) 14 [.ref v0, .ref v1, .null, .int v3, .int v4, .long v5, .null, .int v7, .null] [] h (QV z) := 
  go_ok (X := none) (blk := wX0_weighWay_14) (np := 20) (tt := 96) (kN := fun xs h st => app [2, 2, 0, 1, 1, 3, 0, 1, 0] (fun v0 v1 v3 v4 v5 v7 => apS [] (fX0_weighWay_20 k14 v0 v1 v3 v4 v5 v7 h) st) xs) (kT := fun xs h st => app [2, 0, 0, 0, 0, 3, 0, 0, 0] (fun v0 v5 => apS [] (fX0_weighWay_96 v0 v5 h) st) xs) (kR := kRV)
    (fun xs h st q => jm [2, 2, 0, 1, 1, 3, 0, 1, 0] _ (fun v0 v1 v3 v4 v5 v7 q => apS_ok [] _ (fun st => Ev (d + 3) none mX0_weighWay (0, 0) 20 [.ref v0, .ref v1, .null, .int v3, .int v4, .long v5, .null, .int v7, .null] st h (QV z)) st (fun q => tX0_weighWay_20 hk14 v0 v1 v3 v4 v5 v7 h q) q) q)
    (fun xs h st q => jm [2, 0, 0, 0, 0, 3, 0, 0, 0] _ (fun v0 v5 q => apS_ok [] _ (fun st => Ev (d + 3) none mX0_weighWay (0, 0) 96 [.ref v0, .null, .null, .null, .null, .long v5, .null, .null, .null] st h (QV z)) st (fun q => tX0_weighWay_96 v0 v5 h q) q) q)
    kRV_ok (Or.inr rfl) (by decide +kernel) (by decide +kernel) hf
def lX0_weighWay_14 : Nat → Nat → Nat → Int32 → Int32 → Int64 → Int32 → aH → Option (aH)
  | 0, _, _, _, _, _, _, _ => none
  | n + 1, v0, v1, v3, v4, v5, v7, h => fX0_weighWay_14 (lX0_weighWay_14 n) v0 v1 v3 v4 v5 v7 h
theorem uX0_weighWay_14 {d : Nat} {z : aH} : ∀ (n : Nat) (v0 : Nat) (v1 : Nat) (v3 : Int32) (v4 : Int32) (v5 : Int64) (v7 : Int32) (h : aH), lX0_weighWay_14 n v0 v1 v3 v4 v5 v7 h = some z → Ev (d + 3) none mX0_weighWay (0, 0) 14 [.ref v0, .ref v1, .null, .int v3, .int v4, .long v5, .null, .int v7, .null] [] h (QV z) := by
  intro n
  induction n with
  | zero => intro _ _ _ _ _ _ _ q; exact nos (show (none : Option (aH)) = some z from q)
  | succ n ih => intro v0 v1 v3 v4 v5 v7 h q; exact tX0_weighWay_14 ih v0 v1 v3 v4 v5 v7 h q
def wX0_weighWay_11 : List En := [(.iconst 0, 0, 0, 0), (.istore 7, 0, 0, 0)]
def fX0_weighWay_11 (v0 : Nat) (v1 : Nat) (v3 : Int32) (v4 : Int32) (v5 : Int64) (h : aH) : Option (aH) :=
  lX0_weighWay_14 FU v0 v1 v3 v4 v5 (kI 0) h
theorem tX0_weighWay_11 {d : Nat} {z : aH} (v0 : Nat) (v1 : Nat) (v3 : Int32) (v4 : Int32) (v5 : Int64) (h : aH) (hf : fX0_weighWay_11 v0 v1 v3 v4 v5 h = some z) : Ev (d + 3) none mX0_weighWay (0, 0) 11 [.ref v0, .ref v1, .null, .int v3, .int v4, .long v5, .null, .null, .null] [] h (QV z) := 
  go_ok (X := none) (blk := wX0_weighWay_11) (np := 14) (tt := 0) (kN := fun xs h st => app [2, 2, 0, 1, 1, 3, 0, 1, 0] (fun v0 v1 v3 v4 v5 v7 => apS [] (lX0_weighWay_14 FU v0 v1 v3 v4 v5 v7 h) st) xs) (kT := fun _ _ _ => none) (kR := kRV)
    (fun xs h st q => jm [2, 2, 0, 1, 1, 3, 0, 1, 0] _ (fun v0 v1 v3 v4 v5 v7 q => apS_ok [] _ (fun st => Ev (d + 3) none mX0_weighWay (0, 0) 14 [.ref v0, .ref v1, .null, .int v3, .int v4, .long v5, .null, .int v7, .null] st h (QV z)) st (fun q => uX0_weighWay_14 FU v0 v1 v3 v4 v5 v7 h q) q) q)
    (fun _ _ _ q => nos q)
    kRV_ok (Or.inr rfl) (by decide +kernel) (by decide +kernel) hf
theorem kqX0_weighWay_8 : okC mX0_weighWay 8 (.invokevirtual 45) 81 167 0 1 = true := by decide +kernel
def fX0_weighWay_8 (v0 : Nat) (v1 : Nat) (v3 : Int32) (v4 : Int32) (v5 : Int64) (s0 : Nat) (s1 : Nat) (h : aH) : Option (aH) :=
  (isO h 7 s1).bind fun _ =>
  (gX7_copy s1 s0 h).bind fun r =>
  fX0_weighWay_11 v0 v1 v3 v4 v5 r
theorem tX0_weighWay_8 {d : Nat} {z : aH} (v0 : Nat) (v1 : Nat) (v3 : Int32) (v4 : Int32) (v5 : Int64) (s0 : Nat) (s1 : Nat) (h : aH) (hf : fX0_weighWay_8 v0 v1 v3 v4 v5 s0 s1 h = some z) : Ev (d + 3) none mX0_weighWay (0, 0) 8 [.ref v0, .ref v1, .null, .int v3, .int v4, .long v5, .null, .null, .null] [.ref s0, .ref s1] h (QV z) := by
  obtain ⟨_, h1, hf⟩ := bnd hf
  obtain ⟨fs, ho⟩ := isO_ok h1
  obtain ⟨r, h2, hf⟩ := bnd hf
  refine ev_V kqX0_weighWay_8 jX7_copy (zX7_copy (d := d + 1) h2) ho rfl rfl (Nat.le_of_ble_eq_true rfl) rfl (as := [.ref s0]) (rest := []) rfl (Nat.le_of_ble_eq_true rfl) (fun _ _ hq => ?_)
  obtain ⟨rfl, hh⟩ := hq
  rw [hh]
  exact jm [2, 2, 0, 1, 1, 3, 0, 0, 0] (fun v0 v1 v3 v4 v5 => fX0_weighWay_11 v0 v1 v3 v4 v5 r) (fun v0 v1 v3 v4 v5 q => tX0_weighWay_11 v0 v1 v3 v4 v5 r q) hf
def wX0_weighWay_0 : List En := [(.lconst 1, 0, 0, 0), (.lstore 5, 0, 0, 0), (.aload_n 0, 0, 0, 0), (.getfield 18, 83, 0, 2), (.aload_n 2, 0, 0, 0)]
def fX0_weighWay_0 (v0 : Nat) (v1 : Nat) (v2 : Nat) (v3 : Int32) (v4 : Int32) (h : aH) : Option (aH) :=
  (gFR h 0 v0 2).bind fun t1 =>
  fX0_weighWay_8 v0 v1 v3 v4 (kJ 1) v2 t1 h
theorem tX0_weighWay_0 {d : Nat} {z : aH} (v0 : Nat) (v1 : Nat) (v2 : Nat) (v3 : Int32) (v4 : Int32) (h : aH) (hf : fX0_weighWay_0 v0 v1 v2 v3 v4 h = some z) : Ev (d + 3) none mX0_weighWay (0, 0) 0 [.ref v0, .ref v1, .ref v2, .int v3, .int v4, .null, .null, .null, .null] [] h (QV z) := 
  go_ok (X := none) (blk := wX0_weighWay_0) (np := 8) (tt := 0) (kN := fun xs h st => app [2, 2, 0, 1, 1, 3, 0, 0, 0] (fun v0 v1 v3 v4 v5 => apS [2, 2] (fun s0 s1 => fX0_weighWay_8 v0 v1 v3 v4 v5 s0 s1 h) st) xs) (kT := fun _ _ _ => none) (kR := kRV)
    (fun xs h st q => jm [2, 2, 0, 1, 1, 3, 0, 0, 0] _ (fun v0 v1 v3 v4 v5 q => apS_ok [2, 2] _ (fun st => Ev (d + 3) none mX0_weighWay (0, 0) 8 [.ref v0, .ref v1, .null, .int v3, .int v4, .long v5, .null, .null, .null] st h (QV z)) st (fun s0 s1 q => tX0_weighWay_8 v0 v1 v3 v4 v5 s0 s1 h q) q) q)
    (fun _ _ _ q => nos q)
    kRV_ok (Or.inr rfl) (by decide +kernel) (by decide +kernel) hf
def gX0_weighWay (v0 : Nat) (v1 : Nat) (v2 : Nat) (v3 : Int32) (v4 : Int32) (h : aH) : Option (aH) := fX0_weighWay_0 v0 v1 v2 v3 v4 h
theorem zX0_weighWay {d : Nat} {z : aH} {v0 : Nat} {v1 : Nat} {v2 : Nat} {v3 : Int32} {v4 : Int32} {h : aH} (q : gX0_weighWay v0 v1 v2 v3 v4 h = some z) : CT (d + 3) mX0_weighWay (0, 0) [.ref v0, .ref v1, .ref v2, .int v3, .int v4] h (QV z) :=
  ct_ev (by decide +kernel) (Nat.le_of_ble_eq_true rfl) QV_r (jm [2, 2, 2, 1, 1, 0, 0, 0, 0] (fun v0 v1 v2 v3 v4 => fX0_weighWay_0 v0 v1 v2 v3 v4 h) (fun v0 v1 v2 v3 v4 q => tX0_weighWay_0 v0 v1 v2 v3 v4 h q) q)
def wX0_weigh_66 : List En := [(.return_, 0, 0, 0)]
def fX0_weigh_66 (h : aH) : Option (aH) :=
  some h
theorem tX0_weigh_66 {d : Nat} {z : aH} (h : aH) (hf : fX0_weigh_66 h = some z) : Ev (d + 4) none mX0_weigh (0, 0) 66 [.null, .null, .null, .null, .null] [] h (QV z) := 
  go_ok (X := none) (blk := wX0_weigh_66) (np := 67) (tt := 0) (kN := fun _ _ _ => none) (kT := fun _ _ _ => none) (kR := kRV)
    (fun _ _ _ q => nos q)
    (fun _ _ _ q => nos q)
    kRV_ok (Or.inr rfl) (by decide +kernel) (by decide +kernel) hf
def wX0_weigh_60 : List En := [(.iinc 4 1, 0, 0, 0), (.goto (-20), 43, 0, 0)]
def fX0_weigh_60 (k43 : Nat → Nat → Nat → Int32 → Int32 → aH → Option (aH)) (v0 : Nat) (v1 : Nat) (v2 : Nat) (v3 : Int32) (v4 : Int32) (h : aH) : Option (aH) :=
  k43 v0 v1 v2 v3 (v4 + kI 1) h
theorem tX0_weigh_60 {d : Nat} {z : aH} {k43 : Nat → Nat → Nat → Int32 → Int32 → aH → Option (aH)} (hk43 : ∀ (v0 : Nat) (v1 : Nat) (v2 : Nat) (v3 : Int32) (v4 : Int32) (h : aH), k43 v0 v1 v2 v3 v4 h = some z → Ev (d + 4) none mX0_weigh (0, 0) 43 [.ref v0, .ref v1, .ref v2, .int v3, .int v4] [] h (QV z)) (v0 : Nat) (v1 : Nat) (v2 : Nat) (v3 : Int32) (v4 : Int32) (h : aH) (hf : fX0_weigh_60 k43 v0 v1 v2 v3 v4 h = some z) : Ev (d + 4) none mX0_weigh (0, 0) 60 [.ref v0, .ref v1, .ref v2, .int v3, .int v4] [] h (QV z) := 
  go_ok (X := none) (blk := wX0_weigh_60) (np := 66) (tt := 43) (kN := fun _ _ _ => none) (kT := fun xs h st => app [2, 2, 2, 1, 1] (fun v0 v1 v2 v3 v4 => apS [] (k43 v0 v1 v2 v3 v4 h) st) xs) (kR := kRV)
    (fun _ _ _ q => nos q)
    (fun xs h st q => jm [2, 2, 2, 1, 1] _ (fun v0 v1 v2 v3 v4 q => apS_ok [] _ (fun st => Ev (d + 4) none mX0_weigh (0, 0) 43 [.ref v0, .ref v1, .ref v2, .int v3, .int v4] st h (QV z)) st (fun q => hk43 v0 v1 v2 v3 v4 h q) q) q)
    kRV_ok (Or.inr rfl) (by decide +kernel) (by decide +kernel) hf
theorem kqX0_weigh_57 : okC mX0_weigh 57 (.invokevirtual 41) 156 166 0 4 = true := by decide +kernel
def fX0_weigh_57 (k43 : Nat → Nat → Nat → Int32 → Int32 → aH → Option (aH)) (v0 : Nat) (v1 : Nat) (v2 : Nat) (v3 : Int32) (v4 : Int32) (s0 : Int32) (s1 : Int32) (s2 : Nat) (s3 : Nat) (s4 : Nat) (h : aH) : Option (aH) :=
  (isO h 0 s4).bind fun _ =>
  (gX0_weighWay s4 s3 s2 s1 s0 h).bind fun r =>
  fX0_weigh_60 k43 v0 v1 v2 v3 v4 r
theorem tX0_weigh_57 {d : Nat} {z : aH} {k43 : Nat → Nat → Nat → Int32 → Int32 → aH → Option (aH)} (hk43 : ∀ (v0 : Nat) (v1 : Nat) (v2 : Nat) (v3 : Int32) (v4 : Int32) (h : aH), k43 v0 v1 v2 v3 v4 h = some z → Ev (d + 4) none mX0_weigh (0, 0) 43 [.ref v0, .ref v1, .ref v2, .int v3, .int v4] [] h (QV z)) (v0 : Nat) (v1 : Nat) (v2 : Nat) (v3 : Int32) (v4 : Int32) (s0 : Int32) (s1 : Int32) (s2 : Nat) (s3 : Nat) (s4 : Nat) (h : aH) (hf : fX0_weigh_57 k43 v0 v1 v2 v3 v4 s0 s1 s2 s3 s4 h = some z) : Ev (d + 4) none mX0_weigh (0, 0) 57 [.ref v0, .ref v1, .ref v2, .int v3, .int v4] [.int s0, .int s1, .ref s2, .ref s3, .ref s4] h (QV z) := by
  obtain ⟨_, h1, hf⟩ := bnd hf
  obtain ⟨fs, ho⟩ := isO_ok h1
  obtain ⟨r, h2, hf⟩ := bnd hf
  refine ev_V kqX0_weigh_57 jX0_weighWay (zX0_weighWay (d := d + 0) h2) ho rfl rfl (Nat.le_of_ble_eq_true rfl) rfl (as := [.ref s3, .ref s2, .int s1, .int s0]) (rest := []) rfl (Nat.le_of_ble_eq_true rfl) (fun _ _ hq => ?_)
  obtain ⟨rfl, hh⟩ := hq
  rw [hh]
  exact jm [2, 2, 2, 1, 1] (fun v0 v1 v2 v3 v4 => fX0_weigh_60 k43 v0 v1 v2 v3 v4 r) (fun v0 v1 v2 v3 v4 q => tX0_weigh_60 hk43 v0 v1 v2 v3 v4 r q) hf
def wX0_weigh_51 : List En := [(.aload_n 0, 0, 0, 0), (.aload_n 1, 0, 0, 0), (.aload_n 2, 0, 0, 0), (.iload_n 3, 0, 0, 0), (.iload 4, 0, 0, 0)]
def fX0_weigh_51 (k43 : Nat → Nat → Nat → Int32 → Int32 → aH → Option (aH)) (v0 : Nat) (v1 : Nat) (v2 : Nat) (v3 : Int32) (v4 : Int32) (h : aH) : Option (aH) :=
  fX0_weigh_57 k43 v0 v1 v2 v3 v4 v4 v3 v2 v1 v0 h
theorem tX0_weigh_51 {d : Nat} {z : aH} {k43 : Nat → Nat → Nat → Int32 → Int32 → aH → Option (aH)} (hk43 : ∀ (v0 : Nat) (v1 : Nat) (v2 : Nat) (v3 : Int32) (v4 : Int32) (h : aH), k43 v0 v1 v2 v3 v4 h = some z → Ev (d + 4) none mX0_weigh (0, 0) 43 [.ref v0, .ref v1, .ref v2, .int v3, .int v4] [] h (QV z)) (v0 : Nat) (v1 : Nat) (v2 : Nat) (v3 : Int32) (v4 : Int32) (h : aH) (hf : fX0_weigh_51 k43 v0 v1 v2 v3 v4 h = some z) : Ev (d + 4) none mX0_weigh (0, 0) 51 [.ref v0, .ref v1, .ref v2, .int v3, .int v4] [] h (QV z) := 
  go_ok (X := none) (blk := wX0_weigh_51) (np := 57) (tt := 0) (kN := fun xs h st => app [2, 2, 2, 1, 1] (fun v0 v1 v2 v3 v4 => apS [1, 1, 2, 2, 2] (fun s0 s1 s2 s3 s4 => fX0_weigh_57 k43 v0 v1 v2 v3 v4 s0 s1 s2 s3 s4 h) st) xs) (kT := fun _ _ _ => none) (kR := kRV)
    (fun xs h st q => jm [2, 2, 2, 1, 1] _ (fun v0 v1 v2 v3 v4 q => apS_ok [1, 1, 2, 2, 2] _ (fun st => Ev (d + 4) none mX0_weigh (0, 0) 57 [.ref v0, .ref v1, .ref v2, .int v3, .int v4] st h (QV z)) st (fun s0 s1 s2 s3 s4 q => tX0_weigh_57 hk43 v0 v1 v2 v3 v4 s0 s1 s2 s3 s4 h q) q) q)
    (fun _ _ _ q => nos q)
    kRV_ok (Or.inr rfl) (by decide +kernel) (by decide +kernel) hf
def wX0_weigh_43 : List En := [(.iload 4, 0, 0, 0), (.iconst 1, 0, 0, 0), (.iload_n 3, 0, 0, 0), (.ishl, 0, 0, 0), (.if_icmp .ge 18, 66, 0, 0)]
def fX0_weigh_43 (k43 : Nat → Nat → Nat → Int32 → Int32 → aH → Option (aH)) (v0 : Nat) (v1 : Nat) (v2 : Nat) (v3 : Int32) (v4 : Int32) (h : aH) : Option (aH) :=
  if v4 < ((kI 1) <<< (v3 &&& 31)) then fX0_weigh_51 k43 v0 v1 v2 v3 v4 h else fX0_weigh_66 h
theorem tX0_weigh_43 {d : Nat} {z : aH} {k43 : Nat → Nat → Nat → Int32 → Int32 → aH → Option (aH)} (hk43 : ∀ (v0 : Nat) (v1 : Nat) (v2 : Nat) (v3 : Int32) (v4 : Int32) (h : aH), k43 v0 v1 v2 v3 v4 h = some z → Ev (d + 4) none mX0_weigh (0, 0) 43 [.ref v0, .ref v1, .ref v2, .int v3, .int v4] [] h (QV z)) (v0 : Nat) (v1 : Nat) (v2 : Nat) (v3 : Int32) (v4 : Int32) (h : aH) (hf : fX0_weigh_43 k43 v0 v1 v2 v3 v4 h = some z) : Ev (d + 4) none mX0_weigh (0, 0) 43 [.ref v0, .ref v1, .ref v2, .int v3, .int v4] [] h (QV z) := 
  go_ok (X := none) (blk := wX0_weigh_43) (np := 51) (tt := 66) (kN := fun xs h st => app [2, 2, 2, 1, 1] (fun v0 v1 v2 v3 v4 => apS [] (fX0_weigh_51 k43 v0 v1 v2 v3 v4 h) st) xs) (kT := fun xs h st => app [0, 0, 0, 0, 0] (apS [] (fX0_weigh_66 h) st) xs) (kR := kRV)
    (fun xs h st q => jm [2, 2, 2, 1, 1] _ (fun v0 v1 v2 v3 v4 q => apS_ok [] _ (fun st => Ev (d + 4) none mX0_weigh (0, 0) 51 [.ref v0, .ref v1, .ref v2, .int v3, .int v4] st h (QV z)) st (fun q => tX0_weigh_51 hk43 v0 v1 v2 v3 v4 h q) q) q)
    (fun xs h st q => jm [0, 0, 0, 0, 0] _ (fun q => apS_ok [] _ (fun st => Ev (d + 4) none mX0_weigh (0, 0) 66 [.null, .null, .null, .null, .null] st h (QV z)) st (fun q => tX0_weigh_66 h q) q) q)
    kRV_ok (Or.inr rfl) (by decide +kernel) (by decide +kernel) hf
def lX0_weigh_43 : Nat → Nat → Nat → Nat → Int32 → Int32 → aH → Option (aH)
  | 0, _, _, _, _, _, _ => none
  | n + 1, v0, v1, v2, v3, v4, h => fX0_weigh_43 (lX0_weigh_43 n) v0 v1 v2 v3 v4 h
theorem uX0_weigh_43 {d : Nat} {z : aH} : ∀ (n : Nat) (v0 : Nat) (v1 : Nat) (v2 : Nat) (v3 : Int32) (v4 : Int32) (h : aH), lX0_weigh_43 n v0 v1 v2 v3 v4 h = some z → Ev (d + 4) none mX0_weigh (0, 0) 43 [.ref v0, .ref v1, .ref v2, .int v3, .int v4] [] h (QV z) := by
  intro n
  induction n with
  | zero => intro _ _ _ _ _ _ q; exact nos (show (none : Option (aH)) = some z from q)
  | succ n ih => intro v0 v1 v2 v3 v4 h q; exact tX0_weigh_43 ih v0 v1 v2 v3 v4 h q
def wX0_weigh_40 : List En := [(.iconst 0, 0, 0, 0), (.istore 4, 0, 0, 0)]
def fX0_weigh_40 (v0 : Nat) (v1 : Nat) (v2 : Nat) (v3 : Int32) (h : aH) : Option (aH) :=
  lX0_weigh_43 FU v0 v1 v2 v3 (kI 0) h
theorem tX0_weigh_40 {d : Nat} {z : aH} (v0 : Nat) (v1 : Nat) (v2 : Nat) (v3 : Int32) (h : aH) (hf : fX0_weigh_40 v0 v1 v2 v3 h = some z) : Ev (d + 4) none mX0_weigh (0, 0) 40 [.ref v0, .ref v1, .ref v2, .int v3, .null] [] h (QV z) := 
  go_ok (X := none) (blk := wX0_weigh_40) (np := 43) (tt := 0) (kN := fun xs h st => app [2, 2, 2, 1, 1] (fun v0 v1 v2 v3 v4 => apS [] (lX0_weigh_43 FU v0 v1 v2 v3 v4 h) st) xs) (kT := fun _ _ _ => none) (kR := kRV)
    (fun xs h st q => jm [2, 2, 2, 1, 1] _ (fun v0 v1 v2 v3 v4 q => apS_ok [] _ (fun st => Ev (d + 4) none mX0_weigh (0, 0) 43 [.ref v0, .ref v1, .ref v2, .int v3, .int v4] st h (QV z)) st (fun q => uX0_weigh_43 FU v0 v1 v2 v3 v4 h q) q) q)
    (fun _ _ _ q => nos q)
    kRV_ok (Or.inr rfl) (by decide +kernel) (by decide +kernel) hf
def wX0_weigh_30 : List En := [(.lmul, 0, 0, 0), (.putfield 35, 79, 0, 0), (.iinc 4 1, 0, 0, 0), (.goto (-21), 16, 0, 0)]
def fX0_weigh_30 (k16 : Nat → Nat → Nat → Int32 → Int32 → aH → Option (aH)) (v0 : Nat) (v1 : Nat) (v2 : Nat) (v3 : Int32) (v4 : Int32) (s0 : Int64) (s1 : Int64) (s2 : Nat) (h : aH) : Option (aH) :=
  (pWV h 0 s2 0 (.long (s1 * s0))).bind fun h1 =>
  k16 v0 v1 v2 v3 (v4 + kI 1) h1
theorem tX0_weigh_30 {d : Nat} {z : aH} {k16 : Nat → Nat → Nat → Int32 → Int32 → aH → Option (aH)} (hk16 : ∀ (v0 : Nat) (v1 : Nat) (v2 : Nat) (v3 : Int32) (v4 : Int32) (h : aH), k16 v0 v1 v2 v3 v4 h = some z → Ev (d + 4) none mX0_weigh (0, 0) 16 [.ref v0, .ref v1, .ref v2, .int v3, .int v4] [] h (QV z)) (v0 : Nat) (v1 : Nat) (v2 : Nat) (v3 : Int32) (v4 : Int32) (s0 : Int64) (s1 : Int64) (s2 : Nat) (h : aH) (hf : fX0_weigh_30 k16 v0 v1 v2 v3 v4 s0 s1 s2 h = some z) : Ev (d + 4) none mX0_weigh (0, 0) 30 [.ref v0, .ref v1, .ref v2, .int v3, .int v4] [.long s0, .long s1, .ref s2] h (QV z) := 
  go_ok (X := none) (blk := wX0_weigh_30) (np := 40) (tt := 16) (kN := fun _ _ _ => none) (kT := fun xs h st => app [2, 2, 2, 1, 1] (fun v0 v1 v2 v3 v4 => apS [] (k16 v0 v1 v2 v3 v4 h) st) xs) (kR := kRV)
    (fun _ _ _ q => nos q)
    (fun xs h st q => jm [2, 2, 2, 1, 1] _ (fun v0 v1 v2 v3 v4 q => apS_ok [] _ (fun st => Ev (d + 4) none mX0_weigh (0, 0) 16 [.ref v0, .ref v1, .ref v2, .int v3, .int v4] st h (QV z)) st (fun q => hk16 v0 v1 v2 v3 v4 h q) q) q)
    kRV_ok (Or.inr rfl) (by decide +kernel) (by decide +kernel) hf
theorem kqX0_weigh_27 : ckJ mX0_weigh 27 39 1 (100) = true := by decide +kernel
def fX0_weigh_27 (k16 : Nat → Nat → Nat → Int32 → Int32 → aH → Option (aH)) (v0 : Nat) (v1 : Nat) (v2 : Nat) (v3 : Int32) (v4 : Int32) (s0 : Int64) (s1 : Nat) (h : aH) : Option (aH) :=
  fX0_weigh_30 k16 v0 v1 v2 v3 v4 (100 : Int64) s0 s1 h
theorem tX0_weigh_27 {d : Nat} {z : aH} {k16 : Nat → Nat → Nat → Int32 → Int32 → aH → Option (aH)} (hk16 : ∀ (v0 : Nat) (v1 : Nat) (v2 : Nat) (v3 : Int32) (v4 : Int32) (h : aH), k16 v0 v1 v2 v3 v4 h = some z → Ev (d + 4) none mX0_weigh (0, 0) 16 [.ref v0, .ref v1, .ref v2, .int v3, .int v4] [] h (QV z)) (v0 : Nat) (v1 : Nat) (v2 : Nat) (v3 : Int32) (v4 : Int32) (s0 : Int64) (s1 : Nat) (h : aH) (hf : fX0_weigh_27 k16 v0 v1 v2 v3 v4 s0 s1 h = some z) : Ev (d + 4) none mX0_weigh (0, 0) 27 [.ref v0, .ref v1, .ref v2, .int v3, .int v4] [.long s0, .ref s1] h (QV z) := 
  ev_ldcJ kqX0_weigh_27 rfl (jm [2, 2, 2, 1, 1] (fun v0 v1 v2 v3 v4 => fX0_weigh_30 k16 v0 v1 v2 v3 v4 (100 : Int64) s0 s1 h) (fun v0 v1 v2 v3 v4 q => tX0_weigh_30 hk16 v0 v1 v2 v3 v4 (100 : Int64) s0 s1 h q) hf)
def wX0_weigh_22 : List En := [(.aload_n 0, 0, 0, 0), (.dup, 0, 0, 0), (.getfield 35, 79, 0, 0)]
def fX0_weigh_22 (k16 : Nat → Nat → Nat → Int32 → Int32 → aH → Option (aH)) (v0 : Nat) (v1 : Nat) (v2 : Nat) (v3 : Int32) (v4 : Int32) (h : aH) : Option (aH) :=
  (gFJ h 0 v0 0).bind fun t1 =>
  fX0_weigh_27 k16 v0 v1 v2 v3 v4 t1 v0 h
theorem tX0_weigh_22 {d : Nat} {z : aH} {k16 : Nat → Nat → Nat → Int32 → Int32 → aH → Option (aH)} (hk16 : ∀ (v0 : Nat) (v1 : Nat) (v2 : Nat) (v3 : Int32) (v4 : Int32) (h : aH), k16 v0 v1 v2 v3 v4 h = some z → Ev (d + 4) none mX0_weigh (0, 0) 16 [.ref v0, .ref v1, .ref v2, .int v3, .int v4] [] h (QV z)) (v0 : Nat) (v1 : Nat) (v2 : Nat) (v3 : Int32) (v4 : Int32) (h : aH) (hf : fX0_weigh_22 k16 v0 v1 v2 v3 v4 h = some z) : Ev (d + 4) none mX0_weigh (0, 0) 22 [.ref v0, .ref v1, .ref v2, .int v3, .int v4] [] h (QV z) := 
  go_ok (X := none) (blk := wX0_weigh_22) (np := 27) (tt := 0) (kN := fun xs h st => app [2, 2, 2, 1, 1] (fun v0 v1 v2 v3 v4 => apS [3, 2] (fun s0 s1 => fX0_weigh_27 k16 v0 v1 v2 v3 v4 s0 s1 h) st) xs) (kT := fun _ _ _ => none) (kR := kRV)
    (fun xs h st q => jm [2, 2, 2, 1, 1] _ (fun v0 v1 v2 v3 v4 q => apS_ok [3, 2] _ (fun st => Ev (d + 4) none mX0_weigh (0, 0) 27 [.ref v0, .ref v1, .ref v2, .int v3, .int v4] st h (QV z)) st (fun s0 s1 q => tX0_weigh_27 hk16 v0 v1 v2 v3 v4 s0 s1 h q) q) q)
    (fun _ _ _ q => nos q)
    kRV_ok (Or.inr rfl) (by decide +kernel) (by decide +kernel) hf
def wX0_weigh_16 : List En := [(.iload 4, 0, 0, 0), (.iload_n 3, 0, 0, 0), (.if_icmp .ge 21, 40, 0, 0)]
def fX0_weigh_16 (k16 : Nat → Nat → Nat → Int32 → Int32 → aH → Option (aH)) (v0 : Nat) (v1 : Nat) (v2 : Nat) (v3 : Int32) (v4 : Int32) (h : aH) : Option (aH) :=
  if v4 < v3 then fX0_weigh_22 k16 v0 v1 v2 v3 v4 h else fX0_weigh_40 v0 v1 v2 v3 h
theorem tX0_weigh_16 {d : Nat} {z : aH} {k16 : Nat → Nat → Nat → Int32 → Int32 → aH → Option (aH)} (hk16 : ∀ (v0 : Nat) (v1 : Nat) (v2 : Nat) (v3 : Int32) (v4 : Int32) (h : aH), k16 v0 v1 v2 v3 v4 h = some z → Ev (d + 4) none mX0_weigh (0, 0) 16 [.ref v0, .ref v1, .ref v2, .int v3, .int v4] [] h (QV z)) (v0 : Nat) (v1 : Nat) (v2 : Nat) (v3 : Int32) (v4 : Int32) (h : aH) (hf : fX0_weigh_16 k16 v0 v1 v2 v3 v4 h = some z) : Ev (d + 4) none mX0_weigh (0, 0) 16 [.ref v0, .ref v1, .ref v2, .int v3, .int v4] [] h (QV z) := 
  go_ok (X := none) (blk := wX0_weigh_16) (np := 22) (tt := 40) (kN := fun xs h st => app [2, 2, 2, 1, 1] (fun v0 v1 v2 v3 v4 => apS [] (fX0_weigh_22 k16 v0 v1 v2 v3 v4 h) st) xs) (kT := fun xs h st => app [2, 2, 2, 1, 0] (fun v0 v1 v2 v3 => apS [] (fX0_weigh_40 v0 v1 v2 v3 h) st) xs) (kR := kRV)
    (fun xs h st q => jm [2, 2, 2, 1, 1] _ (fun v0 v1 v2 v3 v4 q => apS_ok [] _ (fun st => Ev (d + 4) none mX0_weigh (0, 0) 22 [.ref v0, .ref v1, .ref v2, .int v3, .int v4] st h (QV z)) st (fun q => tX0_weigh_22 hk16 v0 v1 v2 v3 v4 h q) q) q)
    (fun xs h st q => jm [2, 2, 2, 1, 0] _ (fun v0 v1 v2 v3 q => apS_ok [] _ (fun st => Ev (d + 4) none mX0_weigh (0, 0) 40 [.ref v0, .ref v1, .ref v2, .int v3, .null] st h (QV z)) st (fun q => tX0_weigh_40 v0 v1 v2 v3 h q) q) q)
    kRV_ok (Or.inr rfl) (by decide +kernel) (by decide +kernel) hf
def lX0_weigh_16 : Nat → Nat → Nat → Nat → Int32 → Int32 → aH → Option (aH)
  | 0, _, _, _, _, _, _ => none
  | n + 1, v0, v1, v2, v3, v4, h => fX0_weigh_16 (lX0_weigh_16 n) v0 v1 v2 v3 v4 h
theorem uX0_weigh_16 {d : Nat} {z : aH} : ∀ (n : Nat) (v0 : Nat) (v1 : Nat) (v2 : Nat) (v3 : Int32) (v4 : Int32) (h : aH), lX0_weigh_16 n v0 v1 v2 v3 v4 h = some z → Ev (d + 4) none mX0_weigh (0, 0) 16 [.ref v0, .ref v1, .ref v2, .int v3, .int v4] [] h (QV z) := by
  intro n
  induction n with
  | zero => intro _ _ _ _ _ _ q; exact nos (show (none : Option (aH)) = some z from q)
  | succ n ih => intro v0 v1 v2 v3 v4 h q; exact tX0_weigh_16 ih v0 v1 v2 v3 v4 h q
def wX0_weigh_8 : List En := [(.aload_n 0, 0, 0, 0), (.lconst 1, 0, 0, 0), (.putfield 35, 79, 0, 0), (.iconst 0, 0, 0, 0), (.istore 4, 0, 0, 0)]
def fX0_weigh_8 (v0 : Nat) (v1 : Nat) (v2 : Nat) (v3 : Int32) (h : aH) : Option (aH) :=
  (pWV h 0 v0 0 (.long (kJ 1))).bind fun h1 =>
  lX0_weigh_16 FU v0 v1 v2 v3 (kI 0) h1
theorem tX0_weigh_8 {d : Nat} {z : aH} (v0 : Nat) (v1 : Nat) (v2 : Nat) (v3 : Int32) (h : aH) (hf : fX0_weigh_8 v0 v1 v2 v3 h = some z) : Ev (d + 4) none mX0_weigh (0, 0) 8 [.ref v0, .ref v1, .ref v2, .int v3, .null] [] h (QV z) := 
  go_ok (X := none) (blk := wX0_weigh_8) (np := 16) (tt := 0) (kN := fun xs h st => app [2, 2, 2, 1, 1] (fun v0 v1 v2 v3 v4 => apS [] (lX0_weigh_16 FU v0 v1 v2 v3 v4 h) st) xs) (kT := fun _ _ _ => none) (kR := kRV)
    (fun xs h st q => jm [2, 2, 2, 1, 1] _ (fun v0 v1 v2 v3 v4 q => apS_ok [] _ (fun st => Ev (d + 4) none mX0_weigh (0, 0) 16 [.ref v0, .ref v1, .ref v2, .int v3, .int v4] st h (QV z)) st (fun q => uX0_weigh_16 FU v0 v1 v2 v3 v4 h q) q) q)
    (fun _ _ _ q => nos q)
    kRV_ok (Or.inr rfl) (by decide +kernel) (by decide +kernel) hf
theorem kqX0_weigh_5 : okC mX0_weigh 5 (.invokestatic 29) 155 165 1 2 = true := by decide +kernel
def fX0_weigh_5 (v0 : Nat) (v1 : Nat) (v2 : Nat) (v3 : Int32) (s0 : Int64) (s1 : Nat) (h : aH) : Option (aH) :=
  (gJ7_fill_d0a16 s1 s0 h).bind fun r =>
  fX0_weigh_8 v0 v1 v2 v3 r
theorem tX0_weigh_5 {d : Nat} {z : aH} (v0 : Nat) (v1 : Nat) (v2 : Nat) (v3 : Int32) (s0 : Int64) (s1 : Nat) (h : aH) (hf : fX0_weigh_5 v0 v1 v2 v3 s0 s1 h = some z) : Ev (d + 4) none mX0_weigh (0, 0) 5 [.ref v0, .ref v1, .ref v2, .int v3, .null] [.long s0, .ref s1] h (QV z) := by
  obtain ⟨r, h2, hf⟩ := bnd hf
  refine ev_S kqX0_weigh_5 jJ7_fill_d0a16 (zJ7_fill_d0a16 (d := d + 3) h2) rfl (Nat.le_of_ble_eq_true rfl) rfl (as := [.ref s1, .long s0]) (rest := []) rfl (Nat.le_of_ble_eq_true rfl) (fun _ _ hq => ?_)
  obtain ⟨rfl, hh⟩ := hq
  rw [hh]
  exact jm [2, 2, 2, 1, 0] (fun v0 v1 v2 v3 => fX0_weigh_8 v0 v1 v2 v3 r) (fun v0 v1 v2 v3 q => tX0_weigh_8 v0 v1 v2 v3 r q) hf
def wX0_weigh_0 : List En := [(.aload_n 0, 0, 0, 0), (.getfield 9, 81, 0, 1), (.lconst 0, 0, 0, 0)]
def fX0_weigh_0 (v0 : Nat) (v1 : Nat) (v2 : Nat) (v3 : Int32) (h : aH) : Option (aH) :=
  (gFR h 0 v0 1).bind fun t1 =>
  fX0_weigh_5 v0 v1 v2 v3 (kJ 0) t1 h
theorem tX0_weigh_0 {d : Nat} {z : aH} (v0 : Nat) (v1 : Nat) (v2 : Nat) (v3 : Int32) (h : aH) (hf : fX0_weigh_0 v0 v1 v2 v3 h = some z) : Ev (d + 4) none mX0_weigh (0, 0) 0 [.ref v0, .ref v1, .ref v2, .int v3, .null] [] h (QV z) := 
  go_ok (X := none) (blk := wX0_weigh_0) (np := 5) (tt := 0) (kN := fun xs h st => app [2, 2, 2, 1, 0] (fun v0 v1 v2 v3 => apS [3, 2] (fun s0 s1 => fX0_weigh_5 v0 v1 v2 v3 s0 s1 h) st) xs) (kT := fun _ _ _ => none) (kR := kRV)
    (fun xs h st q => jm [2, 2, 2, 1, 0] _ (fun v0 v1 v2 v3 q => apS_ok [3, 2] _ (fun st => Ev (d + 4) none mX0_weigh (0, 0) 5 [.ref v0, .ref v1, .ref v2, .int v3, .null] st h (QV z)) st (fun s0 s1 q => tX0_weigh_5 v0 v1 v2 v3 s0 s1 h q) q) q)
    (fun _ _ _ q => nos q)
    kRV_ok (Or.inr rfl) (by decide +kernel) (by decide +kernel) hf
def gX0_weigh (v0 : Nat) (v1 : Nat) (v2 : Nat) (v3 : Int32) (h : aH) : Option (aH) := fX0_weigh_0 v0 v1 v2 v3 h
theorem zX0_weigh {d : Nat} {z : aH} {v0 : Nat} {v1 : Nat} {v2 : Nat} {v3 : Int32} {h : aH} (q : gX0_weigh v0 v1 v2 v3 h = some z) : CT (d + 4) mX0_weigh (0, 0) [.ref v0, .ref v1, .ref v2, .int v3] h (QV z) :=
  ct_ev (by decide +kernel) (Nat.le_of_ble_eq_true rfl) QV_r (jm [2, 2, 2, 1, 0] (fun v0 v1 v2 v3 => fX0_weigh_0 v0 v1 v2 v3 h) (fun v0 v1 v2 v3 q => tX0_weigh_0 v0 v1 v2 v3 h q) q)
def wX10_odds_56 : List En := [(.lreturn, 0, 0, 0)]
def fX10_odds_56 (s0 : Int64) (h : aH) : Option (Int64 × aH) :=
  some (s0, h)
theorem tX10_odds_56 {d : Nat} {z : Int64 × aH} (s0 : Int64) (h : aH) (hf : fX10_odds_56 s0 h = some z) : Ev (d + 5) none mX10_odds (0, 0) 56 [.null, .null, .null, .null] [.long s0] h (QJ z) := 
  go_ok (X := none) (blk := wX10_odds_56) (np := 57) (tt := 0) (kN := fun _ _ _ => none) (kT := fun _ _ _ => none) (kR := kRJ)
    (fun _ _ _ q => nos q)
    (fun _ _ _ q => nos q)
    kRJ_ok (Or.inr rfl) (by decide +kernel) (by decide +kernel) hf
theorem kqX10_odds_53 : okC mX10_odds 53 (.invokestatic 315) 157 169 1 3 = true := by decide +kernel
def fX10_odds_53 (s0 : Int32) (s1 : Int64) (s2 : Int64) (h : aH) : Option (Int64 × aH) :=
  (gX0_lowest s2 s1 s0 h).bind fun r =>
  fX10_odds_56 r.1 r.2
theorem tX10_odds_53 {d : Nat} {z : Int64 × aH} (s0 : Int32) (s1 : Int64) (s2 : Int64) (h : aH) (hf : fX10_odds_53 s0 s1 s2 h = some z) : Ev (d + 5) none mX10_odds (0, 0) 53 [.null, .null, .null, .null] [.int s0, .long s1, .long s2] h (QJ z) := by
  obtain ⟨r, h2, hf⟩ := bnd hf
  refine ev_S kqX10_odds_53 jX0_lowest (zX0_lowest (d := d + 4) h2) rfl (Nat.le_of_ble_eq_true rfl) rfl (as := [.long s2, .long s1, .int s0]) (rest := []) rfl (Nat.le_of_ble_eq_true rfl) (fun _ _ hq => ?_)
  obtain ⟨rfl, rfl⟩ := hq
  exact jm [0, 0, 0, 0] (fX10_odds_56 r.1 r.2) (fun q => tX10_odds_56 r.1 r.2 q) hf
def wX10_odds_36 : List En := [(.aload_n 0, 0, 0, 0), (.getfield 40, 166, 10, 4), (.getfield 307, 82, 0, 1), (.iload_n 1, 0, 0, 0), (.laload, 0, 0, 0), (.aload_n 0, 0, 0, 0), (.getfield 40, 166, 10, 4), (.getfield 311, 80, 0, 0), (.iload_n 3, 0, 0, 0)]
def fX10_odds_36 (v0 : Nat) (v1 : Int32) (v3 : Int32) (h : aH) : Option (Int64 × aH) :=
  (gFR h 10 v0 4).bind fun t1 =>
  (gFR h 0 t1 1).bind fun t2 =>
  (aRJ (h[t2]?) v1).bind fun t3 =>
  (gFR h 10 v0 4).bind fun t4 =>
  (gFJ h 0 t4 0).bind fun t5 =>
  fX10_odds_53 v3 t5 t3 h
theorem tX10_odds_36 {d : Nat} {z : Int64 × aH} (v0 : Nat) (v1 : Int32) (v3 : Int32) (h : aH) (hf : fX10_odds_36 v0 v1 v3 h = some z) : Ev (d + 5) none mX10_odds (0, 0) 36 [.ref v0, .int v1, .null, .int v3] [] h (QJ z) := 
  go_ok (X := none) (blk := wX10_odds_36) (np := 53) (tt := 0) (kN := fun xs h st => app [0, 0, 0, 0] (apS [1, 3, 3] (fun s0 s1 s2 => fX10_odds_53 s0 s1 s2 h) st) xs) (kT := fun _ _ _ => none) (kR := kRJ)
    (fun xs h st q => jm [0, 0, 0, 0] _ (fun q => apS_ok [1, 3, 3] _ (fun st => Ev (d + 5) none mX10_odds (0, 0) 53 [.null, .null, .null, .null] st h (QJ z)) st (fun s0 s1 s2 q => tX10_odds_53 s0 s1 s2 h q) q) q)
    (fun _ _ _ q => nos q)
    kRJ_ok (Or.inr rfl) (by decide +kernel) (by decide +kernel) hf
theorem kqX10_odds_33 : okC mX10_odds 33 (.invokevirtual 305) 154 164 0 3 = true := by decide +kernel
def fX10_odds_33 (v0 : Nat) (v1 : Int32) (v3 : Int32) (s0 : Int32) (s1 : Nat) (s2 : Nat) (s3 : Nat) (h : aH) : Option (Int64 × aH) :=
  (isO h 0 s3).bind fun _ =>
  (gX0_weigh s3 s2 s1 s0 h).bind fun r =>
  fX10_odds_36 v0 v1 v3 r
theorem tX10_odds_33 {d : Nat} {z : Int64 × aH} (v0 : Nat) (v1 : Int32) (v3 : Int32) (s0 : Int32) (s1 : Nat) (s2 : Nat) (s3 : Nat) (h : aH) (hf : fX10_odds_33 v0 v1 v3 s0 s1 s2 s3 h = some z) : Ev (d + 5) none mX10_odds (0, 0) 33 [.ref v0, .int v1, .null, .int v3] [.int s0, .ref s1, .ref s2, .ref s3] h (QJ z) := by
  obtain ⟨_, h1, hf⟩ := bnd hf
  obtain ⟨fs, ho⟩ := isO_ok h1
  obtain ⟨r, h2, hf⟩ := bnd hf
  refine ev_V kqX10_odds_33 jX0_weigh (zX0_weigh (d := d + 0) h2) ho rfl rfl (Nat.le_of_ble_eq_true rfl) rfl (as := [.ref s2, .ref s1, .int s0]) (rest := []) rfl (Nat.le_of_ble_eq_true rfl) (fun _ _ hq => ?_)
  obtain ⟨rfl, hh⟩ := hq
  rw [hh]
  exact jm [2, 1, 0, 1] (fun v0 v1 v3 => fX10_odds_36 v0 v1 v3 r) (fun v0 v1 v3 q => tX10_odds_36 v0 v1 v3 r q) hf
def wX10_odds_20 : List En := [(.aload_n 0, 0, 0, 0), (.getfield 40, 166, 10, 4), (.aload_n 0, 0, 0, 0), (.getfield 75, 171, 10, 9), (.aload_n 0, 0, 0, 0), (.getfield 68, 170, 10, 8), (.iload_n 2, 0, 0, 0)]
def fX10_odds_20 (v0 : Nat) (v1 : Int32) (v2 : Int32) (v3 : Int32) (h : aH) : Option (Int64 × aH) :=
  (gFR h 10 v0 4).bind fun t1 =>
  (gFR h 10 v0 9).bind fun t2 =>
  (gFR h 10 v0 8).bind fun t3 =>
  fX10_odds_33 v0 v1 v3 v2 t3 t2 t1 h
theorem tX10_odds_20 {d : Nat} {z : Int64 × aH} (v0 : Nat) (v1 : Int32) (v2 : Int32) (v3 : Int32) (h : aH) (hf : fX10_odds_20 v0 v1 v2 v3 h = some z) : Ev (d + 5) none mX10_odds (0, 0) 20 [.ref v0, .int v1, .int v2, .int v3] [] h (QJ z) := 
  go_ok (X := none) (blk := wX10_odds_20) (np := 33) (tt := 0) (kN := fun xs h st => app [2, 1, 0, 1] (fun v0 v1 v3 => apS [1, 2, 2, 2] (fun s0 s1 s2 s3 => fX10_odds_33 v0 v1 v3 s0 s1 s2 s3 h) st) xs) (kT := fun _ _ _ => none) (kR := kRJ)
    (fun xs h st q => jm [2, 1, 0, 1] _ (fun v0 v1 v3 q => apS_ok [1, 2, 2, 2] _ (fun st => Ev (d + 5) none mX10_odds (0, 0) 33 [.ref v0, .int v1, .null, .int v3] st h (QJ z)) st (fun s0 s1 s2 s3 q => tX10_odds_33 v0 v1 v3 s0 s1 s2 s3 h q) q) q)
    (fun _ _ _ q => nos q)
    kRJ_ok (Or.inr rfl) (by decide +kernel) (by decide +kernel) hf
def wX10_odds_19 : List En := [(.lreturn, 0, 0, 0)]
def fX10_odds_19 (s0 : Int64) (h : aH) : Option (Int64 × aH) :=
  some (s0, h)
theorem tX10_odds_19 {d : Nat} {z : Int64 × aH} (s0 : Int64) (h : aH) (hf : fX10_odds_19 s0 h = some z) : Ev (d + 5) none mX10_odds (0, 0) 19 [.null, .null, .null, .null] [.long s0] h (QJ z) := 
  go_ok (X := none) (blk := wX10_odds_19) (np := 20) (tt := 0) (kN := fun _ _ _ => none) (kT := fun _ _ _ => none) (kR := kRJ)
    (fun _ _ _ q => nos q)
    (fun _ _ _ q => nos q)
    kRJ_ok (Or.inr rfl) (by decide +kernel) (by decide +kernel) hf
theorem kqX10_odds_16 : ckJ mX10_odds 16 303 0 (-1) = true := by decide +kernel
def fX10_odds_16 (h : aH) : Option (Int64 × aH) :=
  fX10_odds_19 (-1 : Int64) h
theorem tX10_odds_16 {d : Nat} {z : Int64 × aH} (h : aH) (hf : fX10_odds_16 h = some z) : Ev (d + 5) none mX10_odds (0, 0) 16 [.null, .null, .null, .null] [] h (QJ z) := 
  ev_ldcJ kqX10_odds_16 rfl (jm [0, 0, 0, 0] (fX10_odds_19 (-1 : Int64) h) (fun q => tX10_odds_19 (-1 : Int64) h q) hf)
def wX10_odds_13 : List En := [(.ifCond .eq 7, 20, 0, 0)]
def fX10_odds_13 (v0 : Nat) (v1 : Int32) (v2 : Int32) (v3 : Int32) (s0 : Int32) (h : aH) : Option (Int64 × aH) :=
  if s0 = 0 then fX10_odds_20 v0 v1 v2 v3 h else fX10_odds_16 h
theorem tX10_odds_13 {d : Nat} {z : Int64 × aH} (v0 : Nat) (v1 : Int32) (v2 : Int32) (v3 : Int32) (s0 : Int32) (h : aH) (hf : fX10_odds_13 v0 v1 v2 v3 s0 h = some z) : Ev (d + 5) none mX10_odds (0, 0) 13 [.ref v0, .int v1, .int v2, .int v3] [.int s0] h (QJ z) := 
  go_ok (X := none) (blk := wX10_odds_13) (np := 16) (tt := 20) (kN := fun xs h st => app [0, 0, 0, 0] (apS [] (fX10_odds_16 h) st) xs) (kT := fun xs h st => app [2, 1, 1, 1] (fun v0 v1 v2 v3 => apS [] (fX10_odds_20 v0 v1 v2 v3 h) st) xs) (kR := kRJ)
    (fun xs h st q => jm [0, 0, 0, 0] _ (fun q => apS_ok [] _ (fun st => Ev (d + 5) none mX10_odds (0, 0) 16 [.null, .null, .null, .null] st h (QJ z)) st (fun q => tX10_odds_16 h q) q) q)
    (fun xs h st q => jm [2, 1, 1, 1] _ (fun v0 v1 v2 v3 q => apS_ok [] _ (fun st => Ev (d + 5) none mX10_odds (0, 0) 20 [.ref v0, .int v1, .int v2, .int v3] st h (QJ z)) st (fun q => tX10_odds_20 v0 v1 v2 v3 h q) q) q)
    kRJ_ok (Or.inr rfl) (by decide +kernel) (by decide +kernel) hf
theorem kqX10_odds_10 : okC mX10_odds 10 (.invokevirtual 190) 92 87 0 4 = true := by decide +kernel
def fX10_odds_10 (v0 : Nat) (v1 : Int32) (v2 : Int32) (v3 : Int32) (s0 : Int32) (s1 : Int32) (s2 : Int32) (s3 : Int32) (s4 : Nat) (h : aH) : Option (Int64 × aH) :=
  (isO h 10 s4).bind fun _ =>
  (gX10_isRefused s4 s3 s2 s1 s0 h).bind fun r =>
  fX10_odds_13 v0 v1 v2 v3 r.1 r.2
theorem tX10_odds_10 {d : Nat} {z : Int64 × aH} (v0 : Nat) (v1 : Int32) (v2 : Int32) (v3 : Int32) (s0 : Int32) (s1 : Int32) (s2 : Int32) (s3 : Int32) (s4 : Nat) (h : aH) (hf : fX10_odds_10 v0 v1 v2 v3 s0 s1 s2 s3 s4 h = some z) : Ev (d + 5) none mX10_odds (0, 0) 10 [.ref v0, .int v1, .int v2, .int v3] [.int s0, .int s1, .int s2, .int s3, .ref s4] h (QJ z) := by
  obtain ⟨_, h1, hf⟩ := bnd hf
  obtain ⟨fs, ho⟩ := isO_ok h1
  obtain ⟨r, h2, hf⟩ := bnd hf
  refine ev_V kqX10_odds_10 jX10_isRefused (zX10_isRefused (d := d + 3) h2) ho rfl rfl (Nat.le_of_ble_eq_true rfl) rfl (as := [.int s3, .int s2, .int s1, .int s0]) (rest := []) rfl (Nat.le_of_ble_eq_true rfl) (fun _ _ hq => ?_)
  obtain ⟨-, rfl, rfl⟩ := hq
  exact jm [2, 1, 1, 1] (fun v0 v1 v2 v3 => fX10_odds_13 v0 v1 v2 v3 r.1 r.2) (fun v0 v1 v2 v3 q => tX10_odds_13 v0 v1 v2 v3 r.1 r.2 q) hf
def wX10_odds_6 : List En := [(.iload_n 2, 0, 0, 0), (.iconst 1, 0, 0, 0), (.bipush 6, 0, 0, 0)]
def fX10_odds_6 (v0 : Nat) (v1 : Int32) (v2 : Int32) (v3 : Int32) (s0 : Int32) (s1 : Nat) (h : aH) : Option (Int64 × aH) :=
  fX10_odds_10 v0 v1 v2 v3 (kB 6) (kI 1) v2 s0 s1 h
theorem tX10_odds_6 {d : Nat} {z : Int64 × aH} (v0 : Nat) (v1 : Int32) (v2 : Int32) (v3 : Int32) (s0 : Int32) (s1 : Nat) (h : aH) (hf : fX10_odds_6 v0 v1 v2 v3 s0 s1 h = some z) : Ev (d + 5) none mX10_odds (0, 0) 6 [.ref v0, .int v1, .int v2, .int v3] [.int s0, .ref s1] h (QJ z) := 
  go_ok (X := none) (blk := wX10_odds_6) (np := 10) (tt := 0) (kN := fun xs h st => app [2, 1, 1, 1] (fun v0 v1 v2 v3 => apS [1, 1, 1, 1, 2] (fun s0 s1 s2 s3 s4 => fX10_odds_10 v0 v1 v2 v3 s0 s1 s2 s3 s4 h) st) xs) (kT := fun _ _ _ => none) (kR := kRJ)
    (fun xs h st q => jm [2, 1, 1, 1] _ (fun v0 v1 v2 v3 q => apS_ok [1, 1, 1, 1, 2] _ (fun st => Ev (d + 5) none mX10_odds (0, 0) 10 [.ref v0, .int v1, .int v2, .int v3] st h (QJ z)) st (fun s0 s1 s2 s3 s4 q => tX10_odds_10 v0 v1 v2 v3 s0 s1 s2 s3 s4 h q) q) q)
    (fun _ _ _ q => nos q)
    kRJ_ok (Or.inr rfl) (by decide +kernel) (by decide +kernel) hf
theorem kqX10_odds_3 : okC mX10_odds 3 (.invokevirtual 150) 66 50 0 1 = true := by decide +kernel
def fX10_odds_3 (v0 : Nat) (v1 : Int32) (v2 : Int32) (v3 : Int32) (s0 : Int32) (s1 : Nat) (s2 : Nat) (h : aH) : Option (Int64 × aH) :=
  (isO h 10 s1).bind fun _ =>
  (gX10_lacksName s1 s0 h).bind fun r =>
  fX10_odds_6 v0 v1 v2 v3 r.1 s2 r.2
theorem tX10_odds_3 {d : Nat} {z : Int64 × aH} (v0 : Nat) (v1 : Int32) (v2 : Int32) (v3 : Int32) (s0 : Int32) (s1 : Nat) (s2 : Nat) (h : aH) (hf : fX10_odds_3 v0 v1 v2 v3 s0 s1 s2 h = some z) : Ev (d + 5) none mX10_odds (0, 0) 3 [.ref v0, .int v1, .int v2, .int v3] [.int s0, .ref s1, .ref s2] h (QJ z) := by
  obtain ⟨_, h1, hf⟩ := bnd hf
  obtain ⟨fs, ho⟩ := isO_ok h1
  obtain ⟨r, h2, hf⟩ := bnd hf
  refine ev_V kqX10_odds_3 jX10_lacksName (zX10_lacksName (d := d + 4) h2) ho rfl rfl (Nat.le_of_ble_eq_true rfl) rfl (as := [.int s0]) (rest := [.ref s2]) rfl (Nat.le_of_ble_eq_true rfl) (fun _ _ hq => ?_)
  obtain ⟨-, rfl, rfl⟩ := hq
  exact jm [2, 1, 1, 1] (fun v0 v1 v2 v3 => fX10_odds_6 v0 v1 v2 v3 r.1 s2 r.2) (fun v0 v1 v2 v3 q => tX10_odds_6 v0 v1 v2 v3 r.1 s2 r.2 q) hf
def wX10_odds_0 : List En := [(.aload_n 0, 0, 0, 0), (.aload_n 0, 0, 0, 0), (.iload_n 1, 0, 0, 0)]
def fX10_odds_0 (v0 : Nat) (v1 : Int32) (v2 : Int32) (v3 : Int32) (h : aH) : Option (Int64 × aH) :=
  fX10_odds_3 v0 v1 v2 v3 v1 v0 v0 h
theorem tX10_odds_0 {d : Nat} {z : Int64 × aH} (v0 : Nat) (v1 : Int32) (v2 : Int32) (v3 : Int32) (h : aH) (hf : fX10_odds_0 v0 v1 v2 v3 h = some z) : Ev (d + 5) none mX10_odds (0, 0) 0 [.ref v0, .int v1, .int v2, .int v3] [] h (QJ z) := 
  go_ok (X := none) (blk := wX10_odds_0) (np := 3) (tt := 0) (kN := fun xs h st => app [2, 1, 1, 1] (fun v0 v1 v2 v3 => apS [1, 2, 2] (fun s0 s1 s2 => fX10_odds_3 v0 v1 v2 v3 s0 s1 s2 h) st) xs) (kT := fun _ _ _ => none) (kR := kRJ)
    (fun xs h st q => jm [2, 1, 1, 1] _ (fun v0 v1 v2 v3 q => apS_ok [1, 2, 2] _ (fun st => Ev (d + 5) none mX10_odds (0, 0) 3 [.ref v0, .int v1, .int v2, .int v3] st h (QJ z)) st (fun s0 s1 s2 q => tX10_odds_3 v0 v1 v2 v3 s0 s1 s2 h q) q) q)
    (fun _ _ _ q => nos q)
    kRJ_ok (Or.inr rfl) (by decide +kernel) (by decide +kernel) hf
def gX10_odds (v0 : Nat) (v1 : Int32) (v2 : Int32) (v3 : Int32) (h : aH) : Option (Int64 × aH) := fX10_odds_0 v0 v1 v2 v3 h
theorem zX10_odds {d : Nat} {z : Int64 × aH} {v0 : Nat} {v1 : Int32} {v2 : Int32} {v3 : Int32} {h : aH} (q : gX10_odds v0 v1 v2 v3 h = some z) : CT (d + 5) mX10_odds (0, 0) [.ref v0, .int v1, .int v2, .int v3] h (QJ z) :=
  ct_ev (by decide +kernel) (Nat.le_of_ble_eq_true rfl) QJ_r (jm [2, 1, 1, 1] (fun v0 v1 v2 v3 => fX10_odds_0 v0 v1 v2 v3 h) (fun v0 v1 v2 v3 q => tX10_odds_0 v0 v1 v2 v3 h q) q)
def wX0_weightOfWorths_39 : List En := [(.lload_n 3, 0, 0, 0), (.lreturn, 0, 0, 0)]
def fX0_weightOfWorths_39 (v3 : Int64) (h : aH) : Option (Int64 × aH) :=
  some (v3, h)
theorem tX0_weightOfWorths_39 {d : Nat} {z : Int64 × aH} (v3 : Int64) (h : aH) (hf : fX0_weightOfWorths_39 v3 h = some z) : Ev (d + 0) none mX0_weightOfWorths (0, 0) 39 [.null, .null, .null, .long v3, .null, .null] [] h (QJ z) := 
  go_ok (X := none) (blk := wX0_weightOfWorths_39) (np := 41) (tt := 0) (kN := fun _ _ _ => none) (kT := fun _ _ _ => none) (kR := kRJ)
    (fun _ _ _ q => nos q)
    (fun _ _ _ q => nos q)
    kRJ_ok (Or.inr rfl) (by decide +kernel) (by decide +kernel) hf
def wX0_weightOfWorths_14 : List En := [(.lload_n 3, 0, 0, 0), (.aload_n 0, 0, 0, 0), (.getfield 9, 81, 0, 1), (.iload 5, 0, 0, 0), (.laload, 0, 0, 0), (.aload_n 2, 0, 0, 0), (.getfield 68, 24, 7, 2), (.iload 5, 0, 0, 0), (.iaload, 0, 0, 0), (.i2l, 0, 0, 0), (.lmul, 0, 0, 0), (.ladd, 0, 0, 0), (.lstore_n 3, 0, 0, 0), (.iinc 5 1, 0, 0, 0), (.goto (-31), 5, 0, 0)]
def fX0_weightOfWorths_14 (k5 : Nat → Nat → Nat → Int64 → Int32 → aH → Option (Int64 × aH)) (v0 : Nat) (v1 : Nat) (v2 : Nat) (v3 : Int64) (v5 : Int32) (h : aH) : Option (Int64 × aH) :=
  (gFR h 0 v0 1).bind fun t1 =>
  (aRJ (h[t1]?) v5).bind fun t2 =>
  (gFR h 7 v2 2).bind fun t3 =>
  (aRI (h[t3]?) v5).bind fun t4 =>
  k5 v0 v1 v2 (v3 + (t2 * t4.toInt64)) (v5 + kI 1) h
theorem tX0_weightOfWorths_14 {d : Nat} {z : Int64 × aH} {k5 : Nat → Nat → Nat → Int64 → Int32 → aH → Option (Int64 × aH)} (hk5 : ∀ (v0 : Nat) (v1 : Nat) (v2 : Nat) (v3 : Int64) (v5 : Int32) (h : aH), k5 v0 v1 v2 v3 v5 h = some z → Ev (d + 0) none mX0_weightOfWorths (0, 0) 5 [.ref v0, .ref v1, .ref v2, .long v3, .null, .int v5] [] h (QJ z)) (v0 : Nat) (v1 : Nat) (v2 : Nat) (v3 : Int64) (v5 : Int32) (h : aH) (hf : fX0_weightOfWorths_14 k5 v0 v1 v2 v3 v5 h = some z) : Ev (d + 0) none mX0_weightOfWorths (0, 0) 14 [.ref v0, .ref v1, .ref v2, .long v3, .null, .int v5] [] h (QJ z) := 
  go_ok (X := none) (blk := wX0_weightOfWorths_14) (np := 39) (tt := 5) (kN := fun _ _ _ => none) (kT := fun xs h st => app [2, 2, 2, 3, 0, 1] (fun v0 v1 v2 v3 v5 => apS [] (k5 v0 v1 v2 v3 v5 h) st) xs) (kR := kRJ)
    (fun _ _ _ q => nos q)
    (fun xs h st q => jm [2, 2, 2, 3, 0, 1] _ (fun v0 v1 v2 v3 v5 q => apS_ok [] _ (fun st => Ev (d + 0) none mX0_weightOfWorths (0, 0) 5 [.ref v0, .ref v1, .ref v2, .long v3, .null, .int v5] st h (QJ z)) st (fun q => hk5 v0 v1 v2 v3 v5 h q) q) q)
    kRJ_ok (Or.inr rfl) (by decide +kernel) (by decide +kernel) hf
def wX0_weightOfWorths_5 : List En := [(.iload 5, 0, 0, 0), (.aload_n 1, 0, 0, 0), (.getfield 65, 114, 9, 4), (.if_icmp .ge 28, 39, 0, 0)]
def fX0_weightOfWorths_5 (k5 : Nat → Nat → Nat → Int64 → Int32 → aH → Option (Int64 × aH)) (v0 : Nat) (v1 : Nat) (v2 : Nat) (v3 : Int64) (v5 : Int32) (h : aH) : Option (Int64 × aH) :=
  (gFI h 9 v1 4).bind fun t1 =>
  if v5 < t1 then fX0_weightOfWorths_14 k5 v0 v1 v2 v3 v5 h else fX0_weightOfWorths_39 v3 h
theorem tX0_weightOfWorths_5 {d : Nat} {z : Int64 × aH} {k5 : Nat → Nat → Nat → Int64 → Int32 → aH → Option (Int64 × aH)} (hk5 : ∀ (v0 : Nat) (v1 : Nat) (v2 : Nat) (v3 : Int64) (v5 : Int32) (h : aH), k5 v0 v1 v2 v3 v5 h = some z → Ev (d + 0) none mX0_weightOfWorths (0, 0) 5 [.ref v0, .ref v1, .ref v2, .long v3, .null, .int v5] [] h (QJ z)) (v0 : Nat) (v1 : Nat) (v2 : Nat) (v3 : Int64) (v5 : Int32) (h : aH) (hf : fX0_weightOfWorths_5 k5 v0 v1 v2 v3 v5 h = some z) : Ev (d + 0) none mX0_weightOfWorths (0, 0) 5 [.ref v0, .ref v1, .ref v2, .long v3, .null, .int v5] [] h (QJ z) := 
  go_ok (X := none) (blk := wX0_weightOfWorths_5) (np := 14) (tt := 39) (kN := fun xs h st => app [2, 2, 2, 3, 0, 1] (fun v0 v1 v2 v3 v5 => apS [] (fX0_weightOfWorths_14 k5 v0 v1 v2 v3 v5 h) st) xs) (kT := fun xs h st => app [0, 0, 0, 3, 0, 0] (fun v3 => apS [] (fX0_weightOfWorths_39 v3 h) st) xs) (kR := kRJ)
    (fun xs h st q => jm [2, 2, 2, 3, 0, 1] _ (fun v0 v1 v2 v3 v5 q => apS_ok [] _ (fun st => Ev (d + 0) none mX0_weightOfWorths (0, 0) 14 [.ref v0, .ref v1, .ref v2, .long v3, .null, .int v5] st h (QJ z)) st (fun q => tX0_weightOfWorths_14 hk5 v0 v1 v2 v3 v5 h q) q) q)
    (fun xs h st q => jm [0, 0, 0, 3, 0, 0] _ (fun v3 q => apS_ok [] _ (fun st => Ev (d + 0) none mX0_weightOfWorths (0, 0) 39 [.null, .null, .null, .long v3, .null, .null] st h (QJ z)) st (fun q => tX0_weightOfWorths_39 v3 h q) q) q)
    kRJ_ok (Or.inr rfl) (by decide +kernel) (by decide +kernel) hf
def lX0_weightOfWorths_5 : Nat → Nat → Nat → Nat → Int64 → Int32 → aH → Option (Int64 × aH)
  | 0, _, _, _, _, _, _ => none
  | n + 1, v0, v1, v2, v3, v5, h => fX0_weightOfWorths_5 (lX0_weightOfWorths_5 n) v0 v1 v2 v3 v5 h
theorem uX0_weightOfWorths_5 {d : Nat} {z : Int64 × aH} : ∀ (n : Nat) (v0 : Nat) (v1 : Nat) (v2 : Nat) (v3 : Int64) (v5 : Int32) (h : aH), lX0_weightOfWorths_5 n v0 v1 v2 v3 v5 h = some z → Ev (d + 0) none mX0_weightOfWorths (0, 0) 5 [.ref v0, .ref v1, .ref v2, .long v3, .null, .int v5] [] h (QJ z) := by
  intro n
  induction n with
  | zero => intro _ _ _ _ _ _ q; exact nos (show (none : Option (Int64 × aH)) = some z from q)
  | succ n ih => intro v0 v1 v2 v3 v5 h q; exact tX0_weightOfWorths_5 ih v0 v1 v2 v3 v5 h q
def wX0_weightOfWorths_0 : List En := [(.lconst 0, 0, 0, 0), (.lstore_n 3, 0, 0, 0), (.iconst 0, 0, 0, 0), (.istore 5, 0, 0, 0)]
def fX0_weightOfWorths_0 (v0 : Nat) (v1 : Nat) (v2 : Nat) (h : aH) : Option (Int64 × aH) :=
  lX0_weightOfWorths_5 FU v0 v1 v2 (kJ 0) (kI 0) h
theorem tX0_weightOfWorths_0 {d : Nat} {z : Int64 × aH} (v0 : Nat) (v1 : Nat) (v2 : Nat) (h : aH) (hf : fX0_weightOfWorths_0 v0 v1 v2 h = some z) : Ev (d + 0) none mX0_weightOfWorths (0, 0) 0 [.ref v0, .ref v1, .ref v2, .null, .null, .null] [] h (QJ z) := 
  go_ok (X := none) (blk := wX0_weightOfWorths_0) (np := 5) (tt := 0) (kN := fun xs h st => app [2, 2, 2, 3, 0, 1] (fun v0 v1 v2 v3 v5 => apS [] (lX0_weightOfWorths_5 FU v0 v1 v2 v3 v5 h) st) xs) (kT := fun _ _ _ => none) (kR := kRJ)
    (fun xs h st q => jm [2, 2, 2, 3, 0, 1] _ (fun v0 v1 v2 v3 v5 q => apS_ok [] _ (fun st => Ev (d + 0) none mX0_weightOfWorths (0, 0) 5 [.ref v0, .ref v1, .ref v2, .long v3, .null, .int v5] st h (QJ z)) st (fun q => uX0_weightOfWorths_5 FU v0 v1 v2 v3 v5 h q) q) q)
    (fun _ _ _ q => nos q)
    kRJ_ok (Or.inr rfl) (by decide +kernel) (by decide +kernel) hf
def gX0_weightOfWorths (v0 : Nat) (v1 : Nat) (v2 : Nat) (h : aH) : Option (Int64 × aH) := fX0_weightOfWorths_0 v0 v1 v2 h
theorem zX0_weightOfWorths {d : Nat} {z : Int64 × aH} {v0 : Nat} {v1 : Nat} {v2 : Nat} {h : aH} (q : gX0_weightOfWorths v0 v1 v2 h = some z) : CT (d + 0) mX0_weightOfWorths (0, 0) [.ref v0, .ref v1, .ref v2] h (QJ z) :=
  ct_ev (by decide +kernel) (Nat.le_of_ble_eq_true rfl) QJ_r (jm [2, 2, 2, 0, 0, 0] (fun v0 v1 v2 => fX0_weightOfWorths_0 v0 v1 v2 h) (fun v0 v1 v2 q => tX0_weightOfWorths_0 v0 v1 v2 h q) q)
def wX10_mean_61 : List En := [(.lreturn, 0, 0, 0)]
def fX10_mean_61 (s0 : Int64) (h : aH) : Option (Int64 × aH) :=
  some (s0, h)
theorem tX10_mean_61 {d : Nat} {z : Int64 × aH} (s0 : Int64) (h : aH) (hf : fX10_mean_61 s0 h = some z) : Ev (d + 5) none mX10_mean (0, 0) 61 [.null, .null, .null] [.long s0] h (QJ z) := 
  go_ok (X := none) (blk := wX10_mean_61) (np := 62) (tt := 0) (kN := fun _ _ _ => none) (kT := fun _ _ _ => none) (kR := kRJ)
    (fun _ _ _ q => nos q)
    (fun _ _ _ q => nos q)
    kRJ_ok (Or.inr rfl) (by decide +kernel) (by decide +kernel) hf
theorem kqX10_mean_58 : okC mX10_mean 58 (.invokestatic 315) 157 169 1 3 = true := by decide +kernel
def fX10_mean_58 (s0 : Int32) (s1 : Int64) (s2 : Int64) (h : aH) : Option (Int64 × aH) :=
  (gX0_lowest s2 s1 s0 h).bind fun r =>
  fX10_mean_61 r.1 r.2
theorem tX10_mean_58 {d : Nat} {z : Int64 × aH} (s0 : Int32) (s1 : Int64) (s2 : Int64) (h : aH) (hf : fX10_mean_58 s0 s1 s2 h = some z) : Ev (d + 5) none mX10_mean (0, 0) 58 [.null, .null, .null] [.int s0, .long s1, .long s2] h (QJ z) := by
  obtain ⟨r, h2, hf⟩ := bnd hf
  refine ev_S kqX10_mean_58 jX0_lowest (zX0_lowest (d := d + 4) h2) rfl (Nat.le_of_ble_eq_true rfl) rfl (as := [.long s2, .long s1, .int s0]) (rest := []) rfl (Nat.le_of_ble_eq_true rfl) (fun _ _ hq => ?_)
  obtain ⟨rfl, rfl⟩ := hq
  exact jm [0, 0, 0] (fX10_mean_61 r.1 r.2) (fun q => tX10_mean_61 r.1 r.2 q) hf
def wX10_mean_50 : List En := [(.aload_n 0, 0, 0, 0), (.getfield 40, 166, 10, 4), (.getfield 311, 80, 0, 0), (.iload_n 2, 0, 0, 0)]
def fX10_mean_50 (v0 : Nat) (v2 : Int32) (s0 : Int64) (h : aH) : Option (Int64 × aH) :=
  (gFR h 10 v0 4).bind fun t1 =>
  (gFJ h 0 t1 0).bind fun t2 =>
  fX10_mean_58 v2 t2 s0 h
theorem tX10_mean_50 {d : Nat} {z : Int64 × aH} (v0 : Nat) (v2 : Int32) (s0 : Int64) (h : aH) (hf : fX10_mean_50 v0 v2 s0 h = some z) : Ev (d + 5) none mX10_mean (0, 0) 50 [.ref v0, .null, .int v2] [.long s0] h (QJ z) := 
  go_ok (X := none) (blk := wX10_mean_50) (np := 58) (tt := 0) (kN := fun xs h st => app [0, 0, 0] (apS [1, 3, 3] (fun s0 s1 s2 => fX10_mean_58 s0 s1 s2 h) st) xs) (kT := fun _ _ _ => none) (kR := kRJ)
    (fun xs h st q => jm [0, 0, 0] _ (fun q => apS_ok [1, 3, 3] _ (fun st => Ev (d + 5) none mX10_mean (0, 0) 58 [.null, .null, .null] st h (QJ z)) st (fun s0 s1 s2 q => tX10_mean_58 s0 s1 s2 h q) q) q)
    (fun _ _ _ q => nos q)
    kRJ_ok (Or.inr rfl) (by decide +kernel) (by decide +kernel) hf
theorem kqX10_mean_47 : okC mX10_mean 47 (.invokevirtual 319) 159 171 0 2 = true := by decide +kernel
def fX10_mean_47 (v0 : Nat) (v2 : Int32) (s0 : Nat) (s1 : Nat) (s2 : Nat) (h : aH) : Option (Int64 × aH) :=
  (isO h 0 s2).bind fun _ =>
  (gX0_weightOfWorths s2 s1 s0 h).bind fun r =>
  fX10_mean_50 v0 v2 r.1 r.2
theorem tX10_mean_47 {d : Nat} {z : Int64 × aH} (v0 : Nat) (v2 : Int32) (s0 : Nat) (s1 : Nat) (s2 : Nat) (h : aH) (hf : fX10_mean_47 v0 v2 s0 s1 s2 h = some z) : Ev (d + 5) none mX10_mean (0, 0) 47 [.ref v0, .null, .int v2] [.ref s0, .ref s1, .ref s2] h (QJ z) := by
  obtain ⟨_, h1, hf⟩ := bnd hf
  obtain ⟨fs, ho⟩ := isO_ok h1
  obtain ⟨r, h2, hf⟩ := bnd hf
  refine ev_V kqX10_mean_47 jX0_weightOfWorths (zX0_weightOfWorths (d := d + 4) h2) ho rfl rfl (Nat.le_of_ble_eq_true rfl) rfl (as := [.ref s1, .ref s0]) (rest := []) rfl (Nat.le_of_ble_eq_true rfl) (fun _ _ hq => ?_)
  obtain ⟨rfl, rfl⟩ := hq
  exact jm [2, 0, 1] (fun v0 v2 => fX10_mean_50 v0 v2 r.1 r.2) (fun v0 v2 q => tX10_mean_50 v0 v2 r.1 r.2 q) hf
def wX10_mean_35 : List En := [(.aload_n 0, 0, 0, 0), (.getfield 40, 166, 10, 4), (.aload_n 0, 0, 0, 0), (.getfield 75, 171, 10, 9), (.aload_n 0, 0, 0, 0), (.getfield 68, 170, 10, 8)]
def fX10_mean_35 (v0 : Nat) (v2 : Int32) (h : aH) : Option (Int64 × aH) :=
  (gFR h 10 v0 4).bind fun t1 =>
  (gFR h 10 v0 9).bind fun t2 =>
  (gFR h 10 v0 8).bind fun t3 =>
  fX10_mean_47 v0 v2 t3 t2 t1 h
theorem tX10_mean_35 {d : Nat} {z : Int64 × aH} (v0 : Nat) (v2 : Int32) (h : aH) (hf : fX10_mean_35 v0 v2 h = some z) : Ev (d + 5) none mX10_mean (0, 0) 35 [.ref v0, .null, .int v2] [] h (QJ z) := 
  go_ok (X := none) (blk := wX10_mean_35) (np := 47) (tt := 0) (kN := fun xs h st => app [2, 0, 1] (fun v0 v2 => apS [2, 2, 2] (fun s0 s1 s2 => fX10_mean_47 v0 v2 s0 s1 s2 h) st) xs) (kT := fun _ _ _ => none) (kR := kRJ)
    (fun xs h st q => jm [2, 0, 1] _ (fun v0 v2 q => apS_ok [2, 2, 2] _ (fun st => Ev (d + 5) none mX10_mean (0, 0) 47 [.ref v0, .null, .int v2] st h (QJ z)) st (fun s0 s1 s2 q => tX10_mean_47 v0 v2 s0 s1 s2 h q) q) q)
    (fun _ _ _ q => nos q)
    kRJ_ok (Or.inr rfl) (by decide +kernel) (by decide +kernel) hf
theorem kqX10_mean_32 : okC mX10_mean 32 (.invokevirtual 305) 154 164 0 3 = true := by decide +kernel
def fX10_mean_32 (v0 : Nat) (v2 : Int32) (s0 : Int32) (s1 : Nat) (s2 : Nat) (s3 : Nat) (h : aH) : Option (Int64 × aH) :=
  (isO h 0 s3).bind fun _ =>
  (gX0_weigh s3 s2 s1 s0 h).bind fun r =>
  fX10_mean_35 v0 v2 r
theorem tX10_mean_32 {d : Nat} {z : Int64 × aH} (v0 : Nat) (v2 : Int32) (s0 : Int32) (s1 : Nat) (s2 : Nat) (s3 : Nat) (h : aH) (hf : fX10_mean_32 v0 v2 s0 s1 s2 s3 h = some z) : Ev (d + 5) none mX10_mean (0, 0) 32 [.ref v0, .null, .int v2] [.int s0, .ref s1, .ref s2, .ref s3] h (QJ z) := by
  obtain ⟨_, h1, hf⟩ := bnd hf
  obtain ⟨fs, ho⟩ := isO_ok h1
  obtain ⟨r, h2, hf⟩ := bnd hf
  refine ev_V kqX10_mean_32 jX0_weigh (zX0_weigh (d := d + 0) h2) ho rfl rfl (Nat.le_of_ble_eq_true rfl) rfl (as := [.ref s2, .ref s1, .int s0]) (rest := []) rfl (Nat.le_of_ble_eq_true rfl) (fun _ _ hq => ?_)
  obtain ⟨rfl, hh⟩ := hq
  rw [hh]
  exact jm [2, 0, 1] (fun v0 v2 => fX10_mean_35 v0 v2 r) (fun v0 v2 q => tX10_mean_35 v0 v2 r q) hf
def wX10_mean_19 : List En := [(.aload_n 0, 0, 0, 0), (.getfield 40, 166, 10, 4), (.aload_n 0, 0, 0, 0), (.getfield 75, 171, 10, 9), (.aload_n 0, 0, 0, 0), (.getfield 68, 170, 10, 8), (.iload_n 1, 0, 0, 0)]
def fX10_mean_19 (v0 : Nat) (v1 : Int32) (v2 : Int32) (h : aH) : Option (Int64 × aH) :=
  (gFR h 10 v0 4).bind fun t1 =>
  (gFR h 10 v0 9).bind fun t2 =>
  (gFR h 10 v0 8).bind fun t3 =>
  fX10_mean_32 v0 v2 v1 t3 t2 t1 h
theorem tX10_mean_19 {d : Nat} {z : Int64 × aH} (v0 : Nat) (v1 : Int32) (v2 : Int32) (h : aH) (hf : fX10_mean_19 v0 v1 v2 h = some z) : Ev (d + 5) none mX10_mean (0, 0) 19 [.ref v0, .int v1, .int v2] [] h (QJ z) := 
  go_ok (X := none) (blk := wX10_mean_19) (np := 32) (tt := 0) (kN := fun xs h st => app [2, 0, 1] (fun v0 v2 => apS [1, 2, 2, 2] (fun s0 s1 s2 s3 => fX10_mean_32 v0 v2 s0 s1 s2 s3 h) st) xs) (kT := fun _ _ _ => none) (kR := kRJ)
    (fun xs h st q => jm [2, 0, 1] _ (fun v0 v2 q => apS_ok [1, 2, 2, 2] _ (fun st => Ev (d + 5) none mX10_mean (0, 0) 32 [.ref v0, .null, .int v2] st h (QJ z)) st (fun s0 s1 s2 s3 q => tX10_mean_32 v0 v2 s0 s1 s2 s3 h q) q) q)
    (fun _ _ _ q => nos q)
    kRJ_ok (Or.inr rfl) (by decide +kernel) (by decide +kernel) hf
def wX10_mean_18 : List En := [(.lreturn, 0, 0, 0)]
def fX10_mean_18 (s0 : Int64) (h : aH) : Option (Int64 × aH) :=
  some (s0, h)
theorem tX10_mean_18 {d : Nat} {z : Int64 × aH} (s0 : Int64) (h : aH) (hf : fX10_mean_18 s0 h = some z) : Ev (d + 5) none mX10_mean (0, 0) 18 [.null, .null, .null] [.long s0] h (QJ z) := 
  go_ok (X := none) (blk := wX10_mean_18) (np := 19) (tt := 0) (kN := fun _ _ _ => none) (kT := fun _ _ _ => none) (kR := kRJ)
    (fun _ _ _ q => nos q)
    (fun _ _ _ q => nos q)
    kRJ_ok (Or.inr rfl) (by decide +kernel) (by decide +kernel) hf
theorem kqX10_mean_15 : ckJ mX10_mean 15 303 0 (-1) = true := by decide +kernel
def fX10_mean_15 (h : aH) : Option (Int64 × aH) :=
  fX10_mean_18 (-1 : Int64) h
theorem tX10_mean_15 {d : Nat} {z : Int64 × aH} (h : aH) (hf : fX10_mean_15 h = some z) : Ev (d + 5) none mX10_mean (0, 0) 15 [.null, .null, .null] [] h (QJ z) := 
  ev_ldcJ kqX10_mean_15 rfl (jm [0, 0, 0] (fX10_mean_18 (-1 : Int64) h) (fun q => tX10_mean_18 (-1 : Int64) h q) hf)
def wX10_mean_12 : List En := [(.ifCond .eq 7, 19, 0, 0)]
def fX10_mean_12 (v0 : Nat) (v1 : Int32) (v2 : Int32) (s0 : Int32) (h : aH) : Option (Int64 × aH) :=
  if s0 = 0 then fX10_mean_19 v0 v1 v2 h else fX10_mean_15 h
theorem tX10_mean_12 {d : Nat} {z : Int64 × aH} (v0 : Nat) (v1 : Int32) (v2 : Int32) (s0 : Int32) (h : aH) (hf : fX10_mean_12 v0 v1 v2 s0 h = some z) : Ev (d + 5) none mX10_mean (0, 0) 12 [.ref v0, .int v1, .int v2] [.int s0] h (QJ z) := 
  go_ok (X := none) (blk := wX10_mean_12) (np := 15) (tt := 19) (kN := fun xs h st => app [0, 0, 0] (apS [] (fX10_mean_15 h) st) xs) (kT := fun xs h st => app [2, 1, 1] (fun v0 v1 v2 => apS [] (fX10_mean_19 v0 v1 v2 h) st) xs) (kR := kRJ)
    (fun xs h st q => jm [0, 0, 0] _ (fun q => apS_ok [] _ (fun st => Ev (d + 5) none mX10_mean (0, 0) 15 [.null, .null, .null] st h (QJ z)) st (fun q => tX10_mean_15 h q) q) q)
    (fun xs h st q => jm [2, 1, 1] _ (fun v0 v1 v2 q => apS_ok [] _ (fun st => Ev (d + 5) none mX10_mean (0, 0) 19 [.ref v0, .int v1, .int v2] st h (QJ z)) st (fun q => tX10_mean_19 v0 v1 v2 h q) q) q)
    kRJ_ok (Or.inr rfl) (by decide +kernel) (by decide +kernel) hf
theorem kqX10_mean_9 : okC mX10_mean 9 (.invokevirtual 190) 92 87 0 4 = true := by decide +kernel
def fX10_mean_9 (v0 : Nat) (v1 : Int32) (v2 : Int32) (s0 : Int32) (s1 : Int32) (s2 : Int32) (s3 : Int32) (s4 : Nat) (h : aH) : Option (Int64 × aH) :=
  (isO h 10 s4).bind fun _ =>
  (gX10_isRefused s4 s3 s2 s1 s0 h).bind fun r =>
  fX10_mean_12 v0 v1 v2 r.1 r.2
theorem tX10_mean_9 {d : Nat} {z : Int64 × aH} (v0 : Nat) (v1 : Int32) (v2 : Int32) (s0 : Int32) (s1 : Int32) (s2 : Int32) (s3 : Int32) (s4 : Nat) (h : aH) (hf : fX10_mean_9 v0 v1 v2 s0 s1 s2 s3 s4 h = some z) : Ev (d + 5) none mX10_mean (0, 0) 9 [.ref v0, .int v1, .int v2] [.int s0, .int s1, .int s2, .int s3, .ref s4] h (QJ z) := by
  obtain ⟨_, h1, hf⟩ := bnd hf
  obtain ⟨fs, ho⟩ := isO_ok h1
  obtain ⟨r, h2, hf⟩ := bnd hf
  refine ev_V kqX10_mean_9 jX10_isRefused (zX10_isRefused (d := d + 3) h2) ho rfl rfl (Nat.le_of_ble_eq_true rfl) rfl (as := [.int s3, .int s2, .int s1, .int s0]) (rest := []) rfl (Nat.le_of_ble_eq_true rfl) (fun _ _ hq => ?_)
  obtain ⟨-, rfl, rfl⟩ := hq
  exact jm [2, 1, 1] (fun v0 v1 v2 => fX10_mean_12 v0 v1 v2 r.1 r.2) (fun v0 v1 v2 q => tX10_mean_12 v0 v1 v2 r.1 r.2 q) hf
def wX10_mean_5 : List En := [(.iload_n 1, 0, 0, 0), (.iconst 1, 0, 0, 0), (.bipush 6, 0, 0, 0)]
def fX10_mean_5 (v0 : Nat) (v1 : Int32) (v2 : Int32) (s0 : Int32) (s1 : Nat) (h : aH) : Option (Int64 × aH) :=
  fX10_mean_9 v0 v1 v2 (kB 6) (kI 1) v1 s0 s1 h
theorem tX10_mean_5 {d : Nat} {z : Int64 × aH} (v0 : Nat) (v1 : Int32) (v2 : Int32) (s0 : Int32) (s1 : Nat) (h : aH) (hf : fX10_mean_5 v0 v1 v2 s0 s1 h = some z) : Ev (d + 5) none mX10_mean (0, 0) 5 [.ref v0, .int v1, .int v2] [.int s0, .ref s1] h (QJ z) := 
  go_ok (X := none) (blk := wX10_mean_5) (np := 9) (tt := 0) (kN := fun xs h st => app [2, 1, 1] (fun v0 v1 v2 => apS [1, 1, 1, 1, 2] (fun s0 s1 s2 s3 s4 => fX10_mean_9 v0 v1 v2 s0 s1 s2 s3 s4 h) st) xs) (kT := fun _ _ _ => none) (kR := kRJ)
    (fun xs h st q => jm [2, 1, 1] _ (fun v0 v1 v2 q => apS_ok [1, 1, 1, 1, 2] _ (fun st => Ev (d + 5) none mX10_mean (0, 0) 9 [.ref v0, .int v1, .int v2] st h (QJ z)) st (fun s0 s1 s2 s3 s4 q => tX10_mean_9 v0 v1 v2 s0 s1 s2 s3 s4 h q) q) q)
    (fun _ _ _ q => nos q)
    kRJ_ok (Or.inr rfl) (by decide +kernel) (by decide +kernel) hf
theorem kqX10_mean_2 : okC mX10_mean 2 (.invokevirtual 159) 68 52 0 0 = true := by decide +kernel
def fX10_mean_2 (v0 : Nat) (v1 : Int32) (v2 : Int32) (s0 : Nat) (s1 : Nat) (h : aH) : Option (Int64 × aH) :=
  (isO h 10 s0).bind fun _ =>
  (gX10_lacksTable s0 h).bind fun r =>
  fX10_mean_5 v0 v1 v2 r.1 s1 r.2
theorem tX10_mean_2 {d : Nat} {z : Int64 × aH} (v0 : Nat) (v1 : Int32) (v2 : Int32) (s0 : Nat) (s1 : Nat) (h : aH) (hf : fX10_mean_2 v0 v1 v2 s0 s1 h = some z) : Ev (d + 5) none mX10_mean (0, 0) 2 [.ref v0, .int v1, .int v2] [.ref s0, .ref s1] h (QJ z) := by
  obtain ⟨_, h1, hf⟩ := bnd hf
  obtain ⟨fs, ho⟩ := isO_ok h1
  obtain ⟨r, h2, hf⟩ := bnd hf
  refine ev_V kqX10_mean_2 jX10_lacksTable (zX10_lacksTable (d := d + 4) h2) ho rfl rfl (Nat.le_of_ble_eq_true rfl) rfl (as := []) (rest := [.ref s1]) rfl (Nat.le_of_ble_eq_true rfl) (fun _ _ hq => ?_)
  obtain ⟨-, rfl, rfl⟩ := hq
  exact jm [2, 1, 1] (fun v0 v1 v2 => fX10_mean_5 v0 v1 v2 r.1 s1 r.2) (fun v0 v1 v2 q => tX10_mean_5 v0 v1 v2 r.1 s1 r.2 q) hf
def wX10_mean_0 : List En := [(.aload_n 0, 0, 0, 0), (.aload_n 0, 0, 0, 0)]
def fX10_mean_0 (v0 : Nat) (v1 : Int32) (v2 : Int32) (h : aH) : Option (Int64 × aH) :=
  fX10_mean_2 v0 v1 v2 v0 v0 h
theorem tX10_mean_0 {d : Nat} {z : Int64 × aH} (v0 : Nat) (v1 : Int32) (v2 : Int32) (h : aH) (hf : fX10_mean_0 v0 v1 v2 h = some z) : Ev (d + 5) none mX10_mean (0, 0) 0 [.ref v0, .int v1, .int v2] [] h (QJ z) := 
  go_ok (X := none) (blk := wX10_mean_0) (np := 2) (tt := 0) (kN := fun xs h st => app [2, 1, 1] (fun v0 v1 v2 => apS [2, 2] (fun s0 s1 => fX10_mean_2 v0 v1 v2 s0 s1 h) st) xs) (kT := fun _ _ _ => none) (kR := kRJ)
    (fun xs h st q => jm [2, 1, 1] _ (fun v0 v1 v2 q => apS_ok [2, 2] _ (fun st => Ev (d + 5) none mX10_mean (0, 0) 2 [.ref v0, .int v1, .int v2] st h (QJ z)) st (fun s0 s1 q => tX10_mean_2 v0 v1 v2 s0 s1 h q) q) q)
    (fun _ _ _ q => nos q)
    kRJ_ok (Or.inr rfl) (by decide +kernel) (by decide +kernel) hf
def gX10_mean (v0 : Nat) (v1 : Int32) (v2 : Int32) (h : aH) : Option (Int64 × aH) := fX10_mean_0 v0 v1 v2 h
theorem zX10_mean {d : Nat} {z : Int64 × aH} {v0 : Nat} {v1 : Int32} {v2 : Int32} {h : aH} (q : gX10_mean v0 v1 v2 h = some z) : CT (d + 5) mX10_mean (0, 0) [.ref v0, .int v1, .int v2] h (QJ z) :=
  ct_ev (by decide +kernel) (Nat.le_of_ble_eq_true rfl) QJ_r (jm [2, 1, 1] (fun v0 v1 v2 => fX10_mean_0 v0 v1 v2 h) (fun v0 v1 v2 q => tX10_mean_0 v0 v1 v2 h q) q)
def wX0_dishByDraws_74 : List En := [(.aload_n 0, 0, 0, 0), (.getfield 25, 84, 0, 3), (.getfield 62, 42, 6, 1), (.ireturn, 0, 0, 0)]
def fX0_dishByDraws_74 (v0 : Nat) (h : aH) : Option (Int32 × aH) :=
  (gFR h 0 v0 3).bind fun t1 =>
  (gFI h 6 t1 1).bind fun t2 =>
  some (t2, h)
theorem tX0_dishByDraws_74 {d : Nat} {z : Int32 × aH} (v0 : Nat) (h : aH) (hf : fX0_dishByDraws_74 v0 h = some z) : Ev (d + 3) none mX0_dishByDraws (0, 0) 74 [.ref v0, .null, .null, .null, .null, .null, .null] [] h (QI z) := 
  go_ok (X := none) (blk := wX0_dishByDraws_74) (np := 82) (tt := 0) (kN := fun _ _ _ => none) (kT := fun _ _ _ => none) (kR := kRI)
    (fun _ _ _ q => nos q)
    (fun _ _ _ q => nos q)
    kRI_ok (Or.inr rfl) (by decide +kernel) (by decide +kernel) hf
def wX0_dishByDraws_68 : List En := [(.iinc 6 1, 0, 0, 0), (.goto (-57), 14, 0, 0)]
def fX0_dishByDraws_68 (k14 : Nat → Nat → Int32 → Int32 → Int32 → aH → Option (Int32 × aH)) (v0 : Nat) (v1 : Nat) (v4 : Int32) (v5 : Int32) (v6 : Int32) (h : aH) : Option (Int32 × aH) :=
  k14 v0 v1 v4 v5 (v6 + kI 1) h
theorem tX0_dishByDraws_68 {d : Nat} {z : Int32 × aH} {k14 : Nat → Nat → Int32 → Int32 → Int32 → aH → Option (Int32 × aH)} (hk14 : ∀ (v0 : Nat) (v1 : Nat) (v4 : Int32) (v5 : Int32) (v6 : Int32) (h : aH), k14 v0 v1 v4 v5 v6 h = some z → Ev (d + 3) none mX0_dishByDraws (0, 0) 14 [.ref v0, .ref v1, .null, .null, .int v4, .int v5, .int v6] [] h (QI z)) (v0 : Nat) (v1 : Nat) (v4 : Int32) (v5 : Int32) (v6 : Int32) (h : aH) (hf : fX0_dishByDraws_68 k14 v0 v1 v4 v5 v6 h = some z) : Ev (d + 3) none mX0_dishByDraws (0, 0) 68 [.ref v0, .ref v1, .null, .null, .int v4, .int v5, .int v6] [] h (QI z) := 
  go_ok (X := none) (blk := wX0_dishByDraws_68) (np := 74) (tt := 14) (kN := fun _ _ _ => none) (kT := fun xs h st => app [2, 2, 0, 0, 1, 1, 1] (fun v0 v1 v4 v5 v6 => apS [] (k14 v0 v1 v4 v5 v6 h) st) xs) (kR := kRI)
    (fun _ _ _ q => nos q)
    (fun xs h st q => jm [2, 2, 0, 0, 1, 1, 1] _ (fun v0 v1 v4 v5 v6 q => apS_ok [] _ (fun st => Ev (d + 3) none mX0_dishByDraws (0, 0) 14 [.ref v0, .ref v1, .null, .null, .int v4, .int v5, .int v6] st h (QI z)) st (fun q => hk14 v0 v1 v4 v5 v6 h q) q) q)
    kRI_ok (Or.inr rfl) (by decide +kernel) (by decide +kernel) hf
theorem kqX0_dishByDraws_65 : okC mX0_dishByDraws 65 (.invokevirtual 58) 83 168 0 5 = true := by decide +kernel
def fX0_dishByDraws_65 (k14 : Nat → Nat → Int32 → Int32 → Int32 → aH → Option (Int32 × aH)) (v0 : Nat) (v1 : Nat) (v4 : Int32) (v5 : Int32) (v6 : Int32) (s0 : Int32) (s1 : Int32) (s2 : Int32) (s3 : Nat) (s4 : Nat) (s5 : Nat) (h : aH) : Option (Int32 × aH) :=
  (isO h 6 s5).bind fun _ =>
  (gX6_hold s5 s4 s3 s2 s1 s0 h).bind fun r =>
  fX0_dishByDraws_68 k14 v0 v1 v4 v5 v6 r
theorem tX0_dishByDraws_65 {d : Nat} {z : Int32 × aH} {k14 : Nat → Nat → Int32 → Int32 → Int32 → aH → Option (Int32 × aH)} (hk14 : ∀ (v0 : Nat) (v1 : Nat) (v4 : Int32) (v5 : Int32) (v6 : Int32) (h : aH), k14 v0 v1 v4 v5 v6 h = some z → Ev (d + 3) none mX0_dishByDraws (0, 0) 14 [.ref v0, .ref v1, .null, .null, .int v4, .int v5, .int v6] [] h (QI z)) (v0 : Nat) (v1 : Nat) (v4 : Int32) (v5 : Int32) (v6 : Int32) (s0 : Int32) (s1 : Int32) (s2 : Int32) (s3 : Nat) (s4 : Nat) (s5 : Nat) (h : aH) (hf : fX0_dishByDraws_65 k14 v0 v1 v4 v5 v6 s0 s1 s2 s3 s4 s5 h = some z) : Ev (d + 3) none mX0_dishByDraws (0, 0) 65 [.ref v0, .ref v1, .null, .null, .int v4, .int v5, .int v6] [.int s0, .int s1, .int s2, .ref s3, .ref s4, .ref s5] h (QI z) := by
  obtain ⟨_, h1, hf⟩ := bnd hf
  obtain ⟨fs, ho⟩ := isO_ok h1
  obtain ⟨r, h2, hf⟩ := bnd hf
  refine ev_V kqX0_dishByDraws_65 jX6_hold (zX6_hold (d := d + 0) h2) ho rfl rfl (Nat.le_of_ble_eq_true rfl) rfl (as := [.ref s4, .ref s3, .int s2, .int s1, .int s0]) (rest := []) rfl (Nat.le_of_ble_eq_true rfl) (fun _ _ hq => ?_)
  obtain ⟨rfl, hh⟩ := hq
  rw [hh]
  exact jm [2, 2, 0, 0, 1, 1, 1] (fun v0 v1 v4 v5 v6 => fX0_dishByDraws_68 k14 v0 v1 v4 v5 v6 r) (fun v0 v1 v4 v5 v6 q => tX0_dishByDraws_68 hk14 v0 v1 v4 v5 v6 r q) hf
def wX0_dishByDraws_61 : List En := [(.aload_n 1, 0, 0, 0), (.getfield 55, 94, 9, 0)]
def fX0_dishByDraws_61 (k14 : Nat → Nat → Int32 → Int32 → Int32 → aH → Option (Int32 × aH)) (v0 : Nat) (v1 : Nat) (v4 : Int32) (v5 : Int32) (v6 : Int32) (s0 : Int32) (s1 : Int32) (s2 : Nat) (s3 : Nat) (s4 : Nat) (h : aH) : Option (Int32 × aH) :=
  (gFI h 9 v1 0).bind fun t1 =>
  fX0_dishByDraws_65 k14 v0 v1 v4 v5 v6 t1 s0 s1 s2 s3 s4 h
theorem tX0_dishByDraws_61 {d : Nat} {z : Int32 × aH} {k14 : Nat → Nat → Int32 → Int32 → Int32 → aH → Option (Int32 × aH)} (hk14 : ∀ (v0 : Nat) (v1 : Nat) (v4 : Int32) (v5 : Int32) (v6 : Int32) (h : aH), k14 v0 v1 v4 v5 v6 h = some z → Ev (d + 3) none mX0_dishByDraws (0, 0) 14 [.ref v0, .ref v1, .null, .null, .int v4, .int v5, .int v6] [] h (QI z)) (v0 : Nat) (v1 : Nat) (v4 : Int32) (v5 : Int32) (v6 : Int32) (s0 : Int32) (s1 : Int32) (s2 : Nat) (s3 : Nat) (s4 : Nat) (h : aH) (hf : fX0_dishByDraws_61 k14 v0 v1 v4 v5 v6 s0 s1 s2 s3 s4 h = some z) : Ev (d + 3) none mX0_dishByDraws (0, 0) 61 [.ref v0, .ref v1, .null, .null, .int v4, .int v5, .int v6] [.int s0, .int s1, .ref s2, .ref s3, .ref s4] h (QI z) := 
  go_ok (X := none) (blk := wX0_dishByDraws_61) (np := 65) (tt := 0) (kN := fun xs h st => app [2, 2, 0, 0, 1, 1, 1] (fun v0 v1 v4 v5 v6 => apS [1, 1, 1, 2, 2, 2] (fun s0 s1 s2 s3 s4 s5 => fX0_dishByDraws_65 k14 v0 v1 v4 v5 v6 s0 s1 s2 s3 s4 s5 h) st) xs) (kT := fun _ _ _ => none) (kR := kRI)
    (fun xs h st q => jm [2, 2, 0, 0, 1, 1, 1] _ (fun v0 v1 v4 v5 v6 q => apS_ok [1, 1, 1, 2, 2, 2] _ (fun st => Ev (d + 3) none mX0_dishByDraws (0, 0) 65 [.ref v0, .ref v1, .null, .null, .int v4, .int v5, .int v6] st h (QI z)) st (fun s0 s1 s2 s3 s4 s5 q => tX0_dishByDraws_65 hk14 v0 v1 v4 v5 v6 s0 s1 s2 s3 s4 s5 h q) q) q)
    (fun _ _ _ q => nos q)
    kRI_ok (Or.inr rfl) (by decide +kernel) (by decide +kernel) hf
def wX0_dishByDraws_60 : List En := [(.iconst 0, 0, 0, 0)]
def fX0_dishByDraws_60 (k14 : Nat → Nat → Int32 → Int32 → Int32 → aH → Option (Int32 × aH)) (v0 : Nat) (v1 : Nat) (v4 : Int32) (v5 : Int32) (v6 : Int32) (s0 : Int32) (s1 : Nat) (s2 : Nat) (s3 : Nat) (h : aH) : Option (Int32 × aH) :=
  fX0_dishByDraws_61 k14 v0 v1 v4 v5 v6 (kI 0) s0 s1 s2 s3 h
theorem tX0_dishByDraws_60 {d : Nat} {z : Int32 × aH} {k14 : Nat → Nat → Int32 → Int32 → Int32 → aH → Option (Int32 × aH)} (hk14 : ∀ (v0 : Nat) (v1 : Nat) (v4 : Int32) (v5 : Int32) (v6 : Int32) (h : aH), k14 v0 v1 v4 v5 v6 h = some z → Ev (d + 3) none mX0_dishByDraws (0, 0) 14 [.ref v0, .ref v1, .null, .null, .int v4, .int v5, .int v6] [] h (QI z)) (v0 : Nat) (v1 : Nat) (v4 : Int32) (v5 : Int32) (v6 : Int32) (s0 : Int32) (s1 : Nat) (s2 : Nat) (s3 : Nat) (h : aH) (hf : fX0_dishByDraws_60 k14 v0 v1 v4 v5 v6 s0 s1 s2 s3 h = some z) : Ev (d + 3) none mX0_dishByDraws (0, 0) 60 [.ref v0, .ref v1, .null, .null, .int v4, .int v5, .int v6] [.int s0, .ref s1, .ref s2, .ref s3] h (QI z) := 
  go_ok (X := none) (blk := wX0_dishByDraws_60) (np := 61) (tt := 0) (kN := fun xs h st => app [2, 2, 0, 0, 1, 1, 1] (fun v0 v1 v4 v5 v6 => apS [1, 1, 2, 2, 2] (fun s0 s1 s2 s3 s4 => fX0_dishByDraws_61 k14 v0 v1 v4 v5 v6 s0 s1 s2 s3 s4 h) st) xs) (kT := fun _ _ _ => none) (kR := kRI)
    (fun xs h st q => jm [2, 2, 0, 0, 1, 1, 1] _ (fun v0 v1 v4 v5 v6 q => apS_ok [1, 1, 2, 2, 2] _ (fun st => Ev (d + 3) none mX0_dishByDraws (0, 0) 61 [.ref v0, .ref v1, .null, .null, .int v4, .int v5, .int v6] st h (QI z)) st (fun s0 s1 s2 s3 s4 q => tX0_dishByDraws_61 hk14 v0 v1 v4 v5 v6 s0 s1 s2 s3 s4 h q) q) q)
    (fun _ _ _ q => nos q)
    kRI_ok (Or.inr rfl) (by decide +kernel) (by decide +kernel) hf
def wX0_dishByDraws_56 : List En := [(.iconst 1, 0, 0, 0), (.goto 4, 61, 0, 0)]
def fX0_dishByDraws_56 (k14 : Nat → Nat → Int32 → Int32 → Int32 → aH → Option (Int32 × aH)) (v0 : Nat) (v1 : Nat) (v4 : Int32) (v5 : Int32) (v6 : Int32) (s0 : Int32) (s1 : Nat) (s2 : Nat) (s3 : Nat) (h : aH) : Option (Int32 × aH) :=
  fX0_dishByDraws_61 k14 v0 v1 v4 v5 v6 (kI 1) s0 s1 s2 s3 h
theorem tX0_dishByDraws_56 {d : Nat} {z : Int32 × aH} {k14 : Nat → Nat → Int32 → Int32 → Int32 → aH → Option (Int32 × aH)} (hk14 : ∀ (v0 : Nat) (v1 : Nat) (v4 : Int32) (v5 : Int32) (v6 : Int32) (h : aH), k14 v0 v1 v4 v5 v6 h = some z → Ev (d + 3) none mX0_dishByDraws (0, 0) 14 [.ref v0, .ref v1, .null, .null, .int v4, .int v5, .int v6] [] h (QI z)) (v0 : Nat) (v1 : Nat) (v4 : Int32) (v5 : Int32) (v6 : Int32) (s0 : Int32) (s1 : Nat) (s2 : Nat) (s3 : Nat) (h : aH) (hf : fX0_dishByDraws_56 k14 v0 v1 v4 v5 v6 s0 s1 s2 s3 h = some z) : Ev (d + 3) none mX0_dishByDraws (0, 0) 56 [.ref v0, .ref v1, .null, .null, .int v4, .int v5, .int v6] [.int s0, .ref s1, .ref s2, .ref s3] h (QI z) := 
  go_ok (X := none) (blk := wX0_dishByDraws_56) (np := 60) (tt := 61) (kN := fun _ _ _ => none) (kT := fun xs h st => app [2, 2, 0, 0, 1, 1, 1] (fun v0 v1 v4 v5 v6 => apS [1, 1, 2, 2, 2] (fun s0 s1 s2 s3 s4 => fX0_dishByDraws_61 k14 v0 v1 v4 v5 v6 s0 s1 s2 s3 s4 h) st) xs) (kR := kRI)
    (fun _ _ _ q => nos q)
    (fun xs h st q => jm [2, 2, 0, 0, 1, 1, 1] _ (fun v0 v1 v4 v5 v6 q => apS_ok [1, 1, 2, 2, 2] _ (fun st => Ev (d + 3) none mX0_dishByDraws (0, 0) 61 [.ref v0, .ref v1, .null, .null, .int v4, .int v5, .int v6] st h (QI z)) st (fun s0 s1 s2 s3 s4 q => tX0_dishByDraws_61 hk14 v0 v1 v4 v5 v6 s0 s1 s2 s3 s4 h q) q) q)
    kRI_ok (Or.inr rfl) (by decide +kernel) (by decide +kernel) hf
def wX0_dishByDraws_31 : List En := [(.irem, 0, 0, 0), (.istore 5, 0, 0, 0), (.aload_n 0, 0, 0, 0), (.getfield 25, 84, 0, 3), (.aload_n 1, 0, 0, 0), (.aload_n 0, 0, 0, 0), (.getfield 18, 83, 0, 2), (.iconst 0, 0, 0, 0), (.iload 5, 0, 0, 0), (.bipush 100, 0, 0, 0), (.irem, 0, 0, 0), (.aload_n 1, 0, 0, 0), (.getfield 49, 104, 9, 2), (.if_icmp .ge 7, 60, 0, 0)]
def fX0_dishByDraws_31 (k14 : Nat → Nat → Int32 → Int32 → Int32 → aH → Option (Int32 × aH)) (v0 : Nat) (v1 : Nat) (v4 : Int32) (v6 : Int32) (s0 : Int32) (s1 : Int32) (h : aH) : Option (Int32 × aH) :=
  if s0 = 0 then none else
  (gFR h 0 v0 3).bind fun t1 =>
  (gFR h 0 v0 2).bind fun t2 =>
  if (kB 100) = 0 then none else
  (gFI h 9 v1 2).bind fun t3 =>
  if ((s1 - s1 / s0 * s0) - (s1 - s1 / s0 * s0) / (kB 100) * (kB 100)) < t3 then fX0_dishByDraws_56 k14 v0 v1 v4 (s1 - s1 / s0 * s0) v6 (kI 0) t2 v1 t1 h else fX0_dishByDraws_60 k14 v0 v1 v4 (s1 - s1 / s0 * s0) v6 (kI 0) t2 v1 t1 h
theorem tX0_dishByDraws_31 {d : Nat} {z : Int32 × aH} {k14 : Nat → Nat → Int32 → Int32 → Int32 → aH → Option (Int32 × aH)} (hk14 : ∀ (v0 : Nat) (v1 : Nat) (v4 : Int32) (v5 : Int32) (v6 : Int32) (h : aH), k14 v0 v1 v4 v5 v6 h = some z → Ev (d + 3) none mX0_dishByDraws (0, 0) 14 [.ref v0, .ref v1, .null, .null, .int v4, .int v5, .int v6] [] h (QI z)) (v0 : Nat) (v1 : Nat) (v4 : Int32) (v6 : Int32) (s0 : Int32) (s1 : Int32) (h : aH) (hf : fX0_dishByDraws_31 k14 v0 v1 v4 v6 s0 s1 h = some z) : Ev (d + 3) none mX0_dishByDraws (0, 0) 31 [.ref v0, .ref v1, .null, .null, .int v4, .null, .int v6] [.int s0, .int s1] h (QI z) := 
  go_ok (X := none) (blk := wX0_dishByDraws_31) (np := 56) (tt := 60) (kN := fun xs h st => app [2, 2, 0, 0, 1, 1, 1] (fun v0 v1 v4 v5 v6 => apS [1, 2, 2, 2] (fun s0 s1 s2 s3 => fX0_dishByDraws_56 k14 v0 v1 v4 v5 v6 s0 s1 s2 s3 h) st) xs) (kT := fun xs h st => app [2, 2, 0, 0, 1, 1, 1] (fun v0 v1 v4 v5 v6 => apS [1, 2, 2, 2] (fun s0 s1 s2 s3 => fX0_dishByDraws_60 k14 v0 v1 v4 v5 v6 s0 s1 s2 s3 h) st) xs) (kR := kRI)
    (fun xs h st q => jm [2, 2, 0, 0, 1, 1, 1] _ (fun v0 v1 v4 v5 v6 q => apS_ok [1, 2, 2, 2] _ (fun st => Ev (d + 3) none mX0_dishByDraws (0, 0) 56 [.ref v0, .ref v1, .null, .null, .int v4, .int v5, .int v6] st h (QI z)) st (fun s0 s1 s2 s3 q => tX0_dishByDraws_56 hk14 v0 v1 v4 v5 v6 s0 s1 s2 s3 h q) q) q)
    (fun xs h st q => jm [2, 2, 0, 0, 1, 1, 1] _ (fun v0 v1 v4 v5 v6 q => apS_ok [1, 2, 2, 2] _ (fun st => Ev (d + 3) none mX0_dishByDraws (0, 0) 60 [.ref v0, .ref v1, .null, .null, .int v4, .int v5, .int v6] st h (QI z)) st (fun s0 s1 s2 s3 q => tX0_dishByDraws_60 hk14 v0 v1 v4 v5 v6 s0 s1 s2 s3 h q) q) q)
    kRI_ok (Or.inr rfl) (by decide +kernel) (by decide +kernel) hf
theorem kqX0_dishByDraws_29 : ckK mX0_dishByDraws 29 72 1 65537 = true := by decide +kernel
def fX0_dishByDraws_29 (k14 : Nat → Nat → Int32 → Int32 → Int32 → aH → Option (Int32 × aH)) (v0 : Nat) (v1 : Nat) (v4 : Int32) (v6 : Int32) (s0 : Int32) (h : aH) : Option (Int32 × aH) :=
  fX0_dishByDraws_31 k14 v0 v1 v4 v6 (65537 : Int32) s0 h
theorem tX0_dishByDraws_29 {d : Nat} {z : Int32 × aH} {k14 : Nat → Nat → Int32 → Int32 → Int32 → aH → Option (Int32 × aH)} (hk14 : ∀ (v0 : Nat) (v1 : Nat) (v4 : Int32) (v5 : Int32) (v6 : Int32) (h : aH), k14 v0 v1 v4 v5 v6 h = some z → Ev (d + 3) none mX0_dishByDraws (0, 0) 14 [.ref v0, .ref v1, .null, .null, .int v4, .int v5, .int v6] [] h (QI z)) (v0 : Nat) (v1 : Nat) (v4 : Int32) (v6 : Int32) (s0 : Int32) (h : aH) (hf : fX0_dishByDraws_29 k14 v0 v1 v4 v6 s0 h = some z) : Ev (d + 3) none mX0_dishByDraws (0, 0) 29 [.ref v0, .ref v1, .null, .null, .int v4, .null, .int v6] [.int s0] h (QI z) := 
  ev_ldc kqX0_dishByDraws_29 rfl (jm [2, 2, 0, 0, 1, 0, 1] (fun v0 v1 v4 v6 => fX0_dishByDraws_31 k14 v0 v1 v4 v6 (65537 : Int32) s0 h) (fun v0 v1 v4 v6 q => tX0_dishByDraws_31 hk14 v0 v1 v4 v6 (65537 : Int32) s0 h q) hf)
def wX0_dishByDraws_21 : List En := [(.bipush 75, 0, 0, 0), (.iload 5, 0, 0, 0), (.imul, 0, 0, 0), (.bipush 74, 0, 0, 0), (.iadd, 0, 0, 0)]
def fX0_dishByDraws_21 (k14 : Nat → Nat → Int32 → Int32 → Int32 → aH → Option (Int32 × aH)) (v0 : Nat) (v1 : Nat) (v4 : Int32) (v5 : Int32) (v6 : Int32) (h : aH) : Option (Int32 × aH) :=
  fX0_dishByDraws_29 k14 v0 v1 v4 v6 (((kB 75) * v5) + (kB 74)) h
theorem tX0_dishByDraws_21 {d : Nat} {z : Int32 × aH} {k14 : Nat → Nat → Int32 → Int32 → Int32 → aH → Option (Int32 × aH)} (hk14 : ∀ (v0 : Nat) (v1 : Nat) (v4 : Int32) (v5 : Int32) (v6 : Int32) (h : aH), k14 v0 v1 v4 v5 v6 h = some z → Ev (d + 3) none mX0_dishByDraws (0, 0) 14 [.ref v0, .ref v1, .null, .null, .int v4, .int v5, .int v6] [] h (QI z)) (v0 : Nat) (v1 : Nat) (v4 : Int32) (v5 : Int32) (v6 : Int32) (h : aH) (hf : fX0_dishByDraws_21 k14 v0 v1 v4 v5 v6 h = some z) : Ev (d + 3) none mX0_dishByDraws (0, 0) 21 [.ref v0, .ref v1, .null, .null, .int v4, .int v5, .int v6] [] h (QI z) := 
  go_ok (X := none) (blk := wX0_dishByDraws_21) (np := 29) (tt := 0) (kN := fun xs h st => app [2, 2, 0, 0, 1, 0, 1] (fun v0 v1 v4 v6 => apS [1] (fun s0 => fX0_dishByDraws_29 k14 v0 v1 v4 v6 s0 h) st) xs) (kT := fun _ _ _ => none) (kR := kRI)
    (fun xs h st q => jm [2, 2, 0, 0, 1, 0, 1] _ (fun v0 v1 v4 v6 q => apS_ok [1] _ (fun st => Ev (d + 3) none mX0_dishByDraws (0, 0) 29 [.ref v0, .ref v1, .null, .null, .int v4, .null, .int v6] st h (QI z)) st (fun s0 q => tX0_dishByDraws_29 hk14 v0 v1 v4 v6 s0 h q) q) q)
    (fun _ _ _ q => nos q)
    kRI_ok (Or.inr rfl) (by decide +kernel) (by decide +kernel) hf
def wX0_dishByDraws_14 : List En := [(.iload 6, 0, 0, 0), (.iload 4, 0, 0, 0), (.if_icmp .ge 56, 74, 0, 0)]
def fX0_dishByDraws_14 (k14 : Nat → Nat → Int32 → Int32 → Int32 → aH → Option (Int32 × aH)) (v0 : Nat) (v1 : Nat) (v4 : Int32) (v5 : Int32) (v6 : Int32) (h : aH) : Option (Int32 × aH) :=
  if v6 < v4 then fX0_dishByDraws_21 k14 v0 v1 v4 v5 v6 h else fX0_dishByDraws_74 v0 h
theorem tX0_dishByDraws_14 {d : Nat} {z : Int32 × aH} {k14 : Nat → Nat → Int32 → Int32 → Int32 → aH → Option (Int32 × aH)} (hk14 : ∀ (v0 : Nat) (v1 : Nat) (v4 : Int32) (v5 : Int32) (v6 : Int32) (h : aH), k14 v0 v1 v4 v5 v6 h = some z → Ev (d + 3) none mX0_dishByDraws (0, 0) 14 [.ref v0, .ref v1, .null, .null, .int v4, .int v5, .int v6] [] h (QI z)) (v0 : Nat) (v1 : Nat) (v4 : Int32) (v5 : Int32) (v6 : Int32) (h : aH) (hf : fX0_dishByDraws_14 k14 v0 v1 v4 v5 v6 h = some z) : Ev (d + 3) none mX0_dishByDraws (0, 0) 14 [.ref v0, .ref v1, .null, .null, .int v4, .int v5, .int v6] [] h (QI z) := 
  go_ok (X := none) (blk := wX0_dishByDraws_14) (np := 21) (tt := 74) (kN := fun xs h st => app [2, 2, 0, 0, 1, 1, 1] (fun v0 v1 v4 v5 v6 => apS [] (fX0_dishByDraws_21 k14 v0 v1 v4 v5 v6 h) st) xs) (kT := fun xs h st => app [2, 0, 0, 0, 0, 0, 0] (fun v0 => apS [] (fX0_dishByDraws_74 v0 h) st) xs) (kR := kRI)
    (fun xs h st q => jm [2, 2, 0, 0, 1, 1, 1] _ (fun v0 v1 v4 v5 v6 q => apS_ok [] _ (fun st => Ev (d + 3) none mX0_dishByDraws (0, 0) 21 [.ref v0, .ref v1, .null, .null, .int v4, .int v5, .int v6] st h (QI z)) st (fun q => tX0_dishByDraws_21 hk14 v0 v1 v4 v5 v6 h q) q) q)
    (fun xs h st q => jm [2, 0, 0, 0, 0, 0, 0] _ (fun v0 q => apS_ok [] _ (fun st => Ev (d + 3) none mX0_dishByDraws (0, 0) 74 [.ref v0, .null, .null, .null, .null, .null, .null] st h (QI z)) st (fun q => tX0_dishByDraws_74 v0 h q) q) q)
    kRI_ok (Or.inr rfl) (by decide +kernel) (by decide +kernel) hf
def lX0_dishByDraws_14 : Nat → Nat → Nat → Int32 → Int32 → Int32 → aH → Option (Int32 × aH)
  | 0, _, _, _, _, _, _ => none
  | n + 1, v0, v1, v4, v5, v6, h => fX0_dishByDraws_14 (lX0_dishByDraws_14 n) v0 v1 v4 v5 v6 h
theorem uX0_dishByDraws_14 {d : Nat} {z : Int32 × aH} : ∀ (n : Nat) (v0 : Nat) (v1 : Nat) (v4 : Int32) (v5 : Int32) (v6 : Int32) (h : aH), lX0_dishByDraws_14 n v0 v1 v4 v5 v6 h = some z → Ev (d + 3) none mX0_dishByDraws (0, 0) 14 [.ref v0, .ref v1, .null, .null, .int v4, .int v5, .int v6] [] h (QI z) := by
  intro n
  induction n with
  | zero => intro _ _ _ _ _ _ q; exact nos (show (none : Option (Int32 × aH)) = some z from q)
  | succ n ih => intro v0 v1 v4 v5 v6 h q; exact tX0_dishByDraws_14 ih v0 v1 v4 v5 v6 h q
def wX0_dishByDraws_11 : List En := [(.iconst 0, 0, 0, 0), (.istore 6, 0, 0, 0)]
def fX0_dishByDraws_11 (v0 : Nat) (v1 : Nat) (v4 : Int32) (v5 : Int32) (h : aH) : Option (Int32 × aH) :=
  lX0_dishByDraws_14 FU v0 v1 v4 v5 (kI 0) h
theorem tX0_dishByDraws_11 {d : Nat} {z : Int32 × aH} (v0 : Nat) (v1 : Nat) (v4 : Int32) (v5 : Int32) (h : aH) (hf : fX0_dishByDraws_11 v0 v1 v4 v5 h = some z) : Ev (d + 3) none mX0_dishByDraws (0, 0) 11 [.ref v0, .ref v1, .null, .null, .int v4, .int v5, .null] [] h (QI z) := 
  go_ok (X := none) (blk := wX0_dishByDraws_11) (np := 14) (tt := 0) (kN := fun xs h st => app [2, 2, 0, 0, 1, 1, 1] (fun v0 v1 v4 v5 v6 => apS [] (lX0_dishByDraws_14 FU v0 v1 v4 v5 v6 h) st) xs) (kT := fun _ _ _ => none) (kR := kRI)
    (fun xs h st q => jm [2, 2, 0, 0, 1, 1, 1] _ (fun v0 v1 v4 v5 v6 q => apS_ok [] _ (fun st => Ev (d + 3) none mX0_dishByDraws (0, 0) 14 [.ref v0, .ref v1, .null, .null, .int v4, .int v5, .int v6] st h (QI z)) st (fun q => uX0_dishByDraws_14 FU v0 v1 v4 v5 v6 h q) q) q)
    (fun _ _ _ q => nos q)
    kRI_ok (Or.inr rfl) (by decide +kernel) (by decide +kernel) hf
theorem kqX0_dishByDraws_8 : okC mX0_dishByDraws 8 (.invokevirtual 45) 81 167 0 1 = true := by decide +kernel
def fX0_dishByDraws_8 (v0 : Nat) (v1 : Nat) (v4 : Int32) (v5 : Int32) (s0 : Nat) (s1 : Nat) (h : aH) : Option (Int32 × aH) :=
  (isO h 7 s1).bind fun _ =>
  (gX7_copy s1 s0 h).bind fun r =>
  fX0_dishByDraws_11 v0 v1 v4 v5 r
theorem tX0_dishByDraws_8 {d : Nat} {z : Int32 × aH} (v0 : Nat) (v1 : Nat) (v4 : Int32) (v5 : Int32) (s0 : Nat) (s1 : Nat) (h : aH) (hf : fX0_dishByDraws_8 v0 v1 v4 v5 s0 s1 h = some z) : Ev (d + 3) none mX0_dishByDraws (0, 0) 8 [.ref v0, .ref v1, .null, .null, .int v4, .int v5, .null] [.ref s0, .ref s1] h (QI z) := by
  obtain ⟨_, h1, hf⟩ := bnd hf
  obtain ⟨fs, ho⟩ := isO_ok h1
  obtain ⟨r, h2, hf⟩ := bnd hf
  refine ev_V kqX0_dishByDraws_8 jX7_copy (zX7_copy (d := d + 1) h2) ho rfl rfl (Nat.le_of_ble_eq_true rfl) rfl (as := [.ref s0]) (rest := []) rfl (Nat.le_of_ble_eq_true rfl) (fun _ _ hq => ?_)
  obtain ⟨rfl, hh⟩ := hq
  rw [hh]
  exact jm [2, 2, 0, 0, 1, 1, 0] (fun v0 v1 v4 v5 => fX0_dishByDraws_11 v0 v1 v4 v5 r) (fun v0 v1 v4 v5 q => tX0_dishByDraws_11 v0 v1 v4 v5 r q) hf
def wX0_dishByDraws_0 : List En := [(.iload_n 3, 0, 0, 0), (.istore 5, 0, 0, 0), (.aload_n 0, 0, 0, 0), (.getfield 18, 83, 0, 2), (.aload_n 2, 0, 0, 0)]
def fX0_dishByDraws_0 (v0 : Nat) (v1 : Nat) (v2 : Nat) (v3 : Int32) (v4 : Int32) (h : aH) : Option (Int32 × aH) :=
  (gFR h 0 v0 2).bind fun t1 =>
  fX0_dishByDraws_8 v0 v1 v4 v3 v2 t1 h
theorem tX0_dishByDraws_0 {d : Nat} {z : Int32 × aH} (v0 : Nat) (v1 : Nat) (v2 : Nat) (v3 : Int32) (v4 : Int32) (h : aH) (hf : fX0_dishByDraws_0 v0 v1 v2 v3 v4 h = some z) : Ev (d + 3) none mX0_dishByDraws (0, 0) 0 [.ref v0, .ref v1, .ref v2, .int v3, .int v4, .null, .null] [] h (QI z) := 
  go_ok (X := none) (blk := wX0_dishByDraws_0) (np := 8) (tt := 0) (kN := fun xs h st => app [2, 2, 0, 0, 1, 1, 0] (fun v0 v1 v4 v5 => apS [2, 2] (fun s0 s1 => fX0_dishByDraws_8 v0 v1 v4 v5 s0 s1 h) st) xs) (kT := fun _ _ _ => none) (kR := kRI)
    (fun xs h st q => jm [2, 2, 0, 0, 1, 1, 0] _ (fun v0 v1 v4 v5 q => apS_ok [2, 2] _ (fun st => Ev (d + 3) none mX0_dishByDraws (0, 0) 8 [.ref v0, .ref v1, .null, .null, .int v4, .int v5, .null] st h (QI z)) st (fun s0 s1 q => tX0_dishByDraws_8 v0 v1 v4 v5 s0 s1 h q) q) q)
    (fun _ _ _ q => nos q)
    kRI_ok (Or.inr rfl) (by decide +kernel) (by decide +kernel) hf
def gX0_dishByDraws (v0 : Nat) (v1 : Nat) (v2 : Nat) (v3 : Int32) (v4 : Int32) (h : aH) : Option (Int32 × aH) := fX0_dishByDraws_0 v0 v1 v2 v3 v4 h
theorem zX0_dishByDraws {d : Nat} {z : Int32 × aH} {v0 : Nat} {v1 : Nat} {v2 : Nat} {v3 : Int32} {v4 : Int32} {h : aH} (q : gX0_dishByDraws v0 v1 v2 v3 v4 h = some z) : CT (d + 3) mX0_dishByDraws (0, 0) [.ref v0, .ref v1, .ref v2, .int v3, .int v4] h (QI z) :=
  ct_ev (by decide +kernel) (Nat.le_of_ble_eq_true rfl) QI_r (jm [2, 2, 2, 1, 1, 0, 0] (fun v0 v1 v2 v3 v4 => fX0_dishByDraws_0 v0 v1 v2 v3 v4 h) (fun v0 v1 v2 v3 v4 q => tX0_dishByDraws_0 v0 v1 v2 v3 v4 h q) q)
def wX10_drawn_55 : List En := [(.ireturn, 0, 0, 0)]
def fX10_drawn_55 (s0 : Int32) (h : aH) : Option (Int32 × aH) :=
  some (s0, h)
theorem tX10_drawn_55 {d : Nat} {z : Int32 × aH} (s0 : Int32) (h : aH) (hf : fX10_drawn_55 s0 h = some z) : Ev (d + 4) none mX10_drawn (0, 0) 55 [.null, .null, .null] [.int s0] h (QI z) := 
  go_ok (X := none) (blk := wX10_drawn_55) (np := 56) (tt := 0) (kN := fun _ _ _ => none) (kT := fun _ _ _ => none) (kR := kRI)
    (fun _ _ _ q => nos q)
    (fun _ _ _ q => nos q)
    kRI_ok (Or.inr rfl) (by decide +kernel) (by decide +kernel) hf
theorem kqX10_drawn_52 : okC mX10_drawn 52 (.invokevirtual 119) 60 44 0 1 = true := by decide +kernel
def fX10_drawn_52 (s0 : Int32) (s1 : Nat) (h : aH) : Option (Int32 × aH) :=
  (isO h 10 s1).bind fun _ =>
  (gX10_answer s1 s0 h).bind fun r =>
  fX10_drawn_55 r.1 r.2
theorem tX10_drawn_52 {d : Nat} {z : Int32 × aH} (s0 : Int32) (s1 : Nat) (h : aH) (hf : fX10_drawn_52 s0 s1 h = some z) : Ev (d + 4) none mX10_drawn (0, 0) 52 [.null, .null, .null] [.int s0, .ref s1] h (QI z) := by
  obtain ⟨_, h1, hf⟩ := bnd hf
  obtain ⟨fs, ho⟩ := isO_ok h1
  obtain ⟨r, h2, hf⟩ := bnd hf
  refine ev_V kqX10_drawn_52 jX10_answer (zX10_answer (d := d + 3) h2) ho rfl rfl (Nat.le_of_ble_eq_true rfl) rfl (as := [.int s0]) (rest := []) rfl (Nat.le_of_ble_eq_true rfl) (fun _ _ hq => ?_)
  obtain ⟨rfl, rfl⟩ := hq
  exact jm [0, 0, 0] (fX10_drawn_55 r.1 r.2) (fun q => tX10_drawn_55 r.1 r.2 q) hf
theorem kqX10_drawn_49 : okC mX10_drawn 49 (.invokevirtual 328) 161 173 0 4 = true := by decide +kernel
def fX10_drawn_49 (s0 : Int32) (s1 : Int32) (s2 : Nat) (s3 : Nat) (s4 : Nat) (s5 : Nat) (h : aH) : Option (Int32 × aH) :=
  (isO h 0 s4).bind fun _ =>
  (gX0_dishByDraws s4 s3 s2 s1 s0 h).bind fun r =>
  fX10_drawn_52 r.1 s5 r.2
theorem tX10_drawn_49 {d : Nat} {z : Int32 × aH} (s0 : Int32) (s1 : Int32) (s2 : Nat) (s3 : Nat) (s4 : Nat) (s5 : Nat) (h : aH) (hf : fX10_drawn_49 s0 s1 s2 s3 s4 s5 h = some z) : Ev (d + 4) none mX10_drawn (0, 0) 49 [.null, .null, .null] [.int s0, .int s1, .ref s2, .ref s3, .ref s4, .ref s5] h (QI z) := by
  obtain ⟨_, h1, hf⟩ := bnd hf
  obtain ⟨fs, ho⟩ := isO_ok h1
  obtain ⟨r, h2, hf⟩ := bnd hf
  refine ev_V kqX10_drawn_49 jX0_dishByDraws (zX0_dishByDraws (d := d + 0) h2) ho rfl rfl (Nat.le_of_ble_eq_true rfl) rfl (as := [.ref s3, .ref s2, .int s1, .int s0]) (rest := [.ref s5]) rfl (Nat.le_of_ble_eq_true rfl) (fun _ _ hq => ?_)
  obtain ⟨rfl, rfl⟩ := hq
  exact jm [0, 0, 0] (fX10_drawn_52 r.1 s5 r.2) (fun q => tX10_drawn_52 r.1 s5 r.2 q) hf
def wX10_drawn_34 : List En := [(.aload_n 0, 0, 0, 0), (.aload_n 0, 0, 0, 0), (.getfield 40, 166, 10, 4), (.aload_n 0, 0, 0, 0), (.getfield 75, 171, 10, 9), (.aload_n 0, 0, 0, 0), (.getfield 68, 170, 10, 8), (.iload_n 1, 0, 0, 0), (.iload_n 2, 0, 0, 0)]
def fX10_drawn_34 (v0 : Nat) (v1 : Int32) (v2 : Int32) (h : aH) : Option (Int32 × aH) :=
  (gFR h 10 v0 4).bind fun t1 =>
  (gFR h 10 v0 9).bind fun t2 =>
  (gFR h 10 v0 8).bind fun t3 =>
  fX10_drawn_49 v2 v1 t3 t2 t1 v0 h
theorem tX10_drawn_34 {d : Nat} {z : Int32 × aH} (v0 : Nat) (v1 : Int32) (v2 : Int32) (h : aH) (hf : fX10_drawn_34 v0 v1 v2 h = some z) : Ev (d + 4) none mX10_drawn (0, 0) 34 [.ref v0, .int v1, .int v2] [] h (QI z) := 
  go_ok (X := none) (blk := wX10_drawn_34) (np := 49) (tt := 0) (kN := fun xs h st => app [0, 0, 0] (apS [1, 1, 2, 2, 2, 2] (fun s0 s1 s2 s3 s4 s5 => fX10_drawn_49 s0 s1 s2 s3 s4 s5 h) st) xs) (kT := fun _ _ _ => none) (kR := kRI)
    (fun xs h st q => jm [0, 0, 0] _ (fun q => apS_ok [1, 1, 2, 2, 2, 2] _ (fun st => Ev (d + 4) none mX10_drawn (0, 0) 49 [.null, .null, .null] st h (QI z)) st (fun s0 s1 s2 s3 s4 s5 q => tX10_drawn_49 s0 s1 s2 s3 s4 s5 h q) q) q)
    (fun _ _ _ q => nos q)
    kRI_ok (Or.inr rfl) (by decide +kernel) (by decide +kernel) hf
def wX10_drawn_33 : List En := [(.ireturn, 0, 0, 0)]
def fX10_drawn_33 (s0 : Int32) (h : aH) : Option (Int32 × aH) :=
  some (s0, h)
theorem tX10_drawn_33 {d : Nat} {z : Int32 × aH} (s0 : Int32) (h : aH) (hf : fX10_drawn_33 s0 h = some z) : Ev (d + 4) none mX10_drawn (0, 0) 33 [.null, .null, .null] [.int s0] h (QI z) := 
  go_ok (X := none) (blk := wX10_drawn_33) (np := 34) (tt := 0) (kN := fun _ _ _ => none) (kT := fun _ _ _ => none) (kR := kRI)
    (fun _ _ _ q => nos q)
    (fun _ _ _ q => nos q)
    kRI_ok (Or.inr rfl) (by decide +kernel) (by decide +kernel) hf
theorem kqX10_drawn_30 : okC mX10_drawn 30 (.invokevirtual 94) 15 8 0 1 = true := by decide +kernel
def fX10_drawn_30 (s0 : Int32) (s1 : Nat) (h : aH) : Option (Int32 × aH) :=
  (isO h 10 s1).bind fun _ =>
  (gX10_refuse s1 s0 h).bind fun r =>
  fX10_drawn_33 r.1 r.2
theorem tX10_drawn_30 {d : Nat} {z : Int32 × aH} (s0 : Int32) (s1 : Nat) (h : aH) (hf : fX10_drawn_30 s0 s1 h = some z) : Ev (d + 4) none mX10_drawn (0, 0) 30 [.null, .null, .null] [.int s0, .ref s1] h (QI z) := by
  obtain ⟨_, h1, hf⟩ := bnd hf
  obtain ⟨fs, ho⟩ := isO_ok h1
  obtain ⟨r, h2, hf⟩ := bnd hf
  refine ev_V kqX10_drawn_30 jX10_refuse (zX10_refuse (d := d + 3) h2) ho rfl rfl (Nat.le_of_ble_eq_true rfl) rfl (as := [.int s0]) (rest := []) rfl (Nat.le_of_ble_eq_true rfl) (fun _ _ hq => ?_)
  obtain ⟨rfl, rfl⟩ := hq
  exact jm [0, 0, 0] (fX10_drawn_33 r.1 r.2) (fun q => tX10_drawn_33 r.1 r.2 q) hf
def wX10_drawn_28 : List En := [(.aload_n 0, 0, 0, 0), (.iconst 2, 0, 0, 0)]
def fX10_drawn_28 (v0 : Nat) (h : aH) : Option (Int32 × aH) :=
  fX10_drawn_30 (kI 2) v0 h
theorem tX10_drawn_28 {d : Nat} {z : Int32 × aH} (v0 : Nat) (h : aH) (hf : fX10_drawn_28 v0 h = some z) : Ev (d + 4) none mX10_drawn (0, 0) 28 [.ref v0, .null, .null] [] h (QI z) := 
  go_ok (X := none) (blk := wX10_drawn_28) (np := 30) (tt := 0) (kN := fun xs h st => app [0, 0, 0] (apS [1, 2] (fun s0 s1 => fX10_drawn_30 s0 s1 h) st) xs) (kT := fun _ _ _ => none) (kR := kRI)
    (fun xs h st q => jm [0, 0, 0] _ (fun q => apS_ok [1, 2] _ (fun st => Ev (d + 4) none mX10_drawn (0, 0) 30 [.null, .null, .null] st h (QI z)) st (fun s0 s1 q => tX10_drawn_30 s0 s1 h q) q) q)
    (fun _ _ _ q => nos q)
    kRI_ok (Or.inr rfl) (by decide +kernel) (by decide +kernel) hf
def wX10_drawn_25 : List En := [(.ifCond .eq 9, 34, 0, 0)]
def fX10_drawn_25 (v0 : Nat) (v1 : Int32) (v2 : Int32) (s0 : Int32) (h : aH) : Option (Int32 × aH) :=
  if s0 = 0 then fX10_drawn_34 v0 v1 v2 h else fX10_drawn_28 v0 h
theorem tX10_drawn_25 {d : Nat} {z : Int32 × aH} (v0 : Nat) (v1 : Int32) (v2 : Int32) (s0 : Int32) (h : aH) (hf : fX10_drawn_25 v0 v1 v2 s0 h = some z) : Ev (d + 4) none mX10_drawn (0, 0) 25 [.ref v0, .int v1, .int v2] [.int s0] h (QI z) := 
  go_ok (X := none) (blk := wX10_drawn_25) (np := 28) (tt := 34) (kN := fun xs h st => app [2, 0, 0] (fun v0 => apS [] (fX10_drawn_28 v0 h) st) xs) (kT := fun xs h st => app [2, 1, 1] (fun v0 v1 v2 => apS [] (fX10_drawn_34 v0 v1 v2 h) st) xs) (kR := kRI)
    (fun xs h st q => jm [2, 0, 0] _ (fun v0 q => apS_ok [] _ (fun st => Ev (d + 4) none mX10_drawn (0, 0) 28 [.ref v0, .null, .null] st h (QI z)) st (fun q => tX10_drawn_28 v0 h q) q) q)
    (fun xs h st q => jm [2, 1, 1] _ (fun v0 v1 v2 q => apS_ok [] _ (fun st => Ev (d + 4) none mX10_drawn (0, 0) 34 [.ref v0, .int v1, .int v2] st h (QI z)) st (fun q => tX10_drawn_34 v0 v1 v2 h q) q) q)
    kRI_ok (Or.inr rfl) (by decide +kernel) (by decide +kernel) hf
theorem kqX10_drawn_22 : okC mX10_drawn 22 (.invokestatic 324) 93 88 1 3 = true := by decide +kernel
def fX10_drawn_22 (v0 : Nat) (v1 : Int32) (v2 : Int32) (s0 : Int32) (s1 : Int32) (s2 : Int32) (h : aH) : Option (Int32 × aH) :=
  (gX10_isOutside s2 s1 s0 h).bind fun r =>
  fX10_drawn_25 v0 v1 v2 r.1 r.2
theorem tX10_drawn_22 {d : Nat} {z : Int32 × aH} (v0 : Nat) (v1 : Int32) (v2 : Int32) (s0 : Int32) (s1 : Int32) (s2 : Int32) (h : aH) (hf : fX10_drawn_22 v0 v1 v2 s0 s1 s2 h = some z) : Ev (d + 4) none mX10_drawn (0, 0) 22 [.ref v0, .int v1, .int v2] [.int s0, .int s1, .int s2] h (QI z) := by
  obtain ⟨r, h2, hf⟩ := bnd hf
  refine ev_S kqX10_drawn_22 jX10_isOutside (zX10_isOutside (d := d + 3) h2) rfl (Nat.le_of_ble_eq_true rfl) rfl (as := [.int s2, .int s1, .int s0]) (rest := []) rfl (Nat.le_of_ble_eq_true rfl) (fun _ _ hq => ?_)
  obtain ⟨-, rfl, rfl⟩ := hq
  exact jm [2, 1, 1] (fun v0 v1 v2 => fX10_drawn_25 v0 v1 v2 r.1 r.2) (fun v0 v1 v2 q => tX10_drawn_25 v0 v1 v2 r.1 r.2 q) hf
theorem kqX10_drawn_19 : ckW mX10_drawn 19 323 0 65536 = true := by decide +kernel
def fX10_drawn_19 (v0 : Nat) (v1 : Int32) (v2 : Int32) (s0 : Int32) (s1 : Int32) (h : aH) : Option (Int32 × aH) :=
  fX10_drawn_22 v0 v1 v2 (65536 : Int32) s0 s1 h
theorem tX10_drawn_19 {d : Nat} {z : Int32 × aH} (v0 : Nat) (v1 : Int32) (v2 : Int32) (s0 : Int32) (s1 : Int32) (h : aH) (hf : fX10_drawn_19 v0 v1 v2 s0 s1 h = some z) : Ev (d + 4) none mX10_drawn (0, 0) 19 [.ref v0, .int v1, .int v2] [.int s0, .int s1] h (QI z) := 
  ev_ldcw kqX10_drawn_19 rfl (jm [2, 1, 1] (fun v0 v1 v2 => fX10_drawn_22 v0 v1 v2 (65536 : Int32) s0 s1 h) (fun v0 v1 v2 q => tX10_drawn_22 v0 v1 v2 (65536 : Int32) s0 s1 h q) hf)
def wX10_drawn_17 : List En := [(.iload_n 1, 0, 0, 0), (.iconst 0, 0, 0, 0)]
def fX10_drawn_17 (v0 : Nat) (v1 : Int32) (v2 : Int32) (h : aH) : Option (Int32 × aH) :=
  fX10_drawn_19 v0 v1 v2 (kI 0) v1 h
theorem tX10_drawn_17 {d : Nat} {z : Int32 × aH} (v0 : Nat) (v1 : Int32) (v2 : Int32) (h : aH) (hf : fX10_drawn_17 v0 v1 v2 h = some z) : Ev (d + 4) none mX10_drawn (0, 0) 17 [.ref v0, .int v1, .int v2] [] h (QI z) := 
  go_ok (X := none) (blk := wX10_drawn_17) (np := 19) (tt := 0) (kN := fun xs h st => app [2, 1, 1] (fun v0 v1 v2 => apS [1, 1] (fun s0 s1 => fX10_drawn_19 v0 v1 v2 s0 s1 h) st) xs) (kT := fun _ _ _ => none) (kR := kRI)
    (fun xs h st q => jm [2, 1, 1] _ (fun v0 v1 v2 q => apS_ok [1, 1] _ (fun st => Ev (d + 4) none mX10_drawn (0, 0) 19 [.ref v0, .int v1, .int v2] st h (QI z)) st (fun s0 s1 q => tX10_drawn_19 v0 v1 v2 s0 s1 h q) q) q)
    (fun _ _ _ q => nos q)
    kRI_ok (Or.inr rfl) (by decide +kernel) (by decide +kernel) hf
def wX10_drawn_15 : List En := [(.iconst (-1), 0, 0, 0), (.ireturn, 0, 0, 0)]
def fX10_drawn_15 (h : aH) : Option (Int32 × aH) :=
  some ((kI (-1)), h)
theorem tX10_drawn_15 {d : Nat} {z : Int32 × aH} (h : aH) (hf : fX10_drawn_15 h = some z) : Ev (d + 4) none mX10_drawn (0, 0) 15 [.null, .null, .null] [] h (QI z) := 
  go_ok (X := none) (blk := wX10_drawn_15) (np := 17) (tt := 0) (kN := fun _ _ _ => none) (kT := fun _ _ _ => none) (kR := kRI)
    (fun _ _ _ q => nos q)
    (fun _ _ _ q => nos q)
    kRI_ok (Or.inr rfl) (by decide +kernel) (by decide +kernel) hf
def wX10_drawn_12 : List En := [(.ifCond .eq 5, 17, 0, 0)]
def fX10_drawn_12 (v0 : Nat) (v1 : Int32) (v2 : Int32) (s0 : Int32) (h : aH) : Option (Int32 × aH) :=
  if s0 = 0 then fX10_drawn_17 v0 v1 v2 h else fX10_drawn_15 h
theorem tX10_drawn_12 {d : Nat} {z : Int32 × aH} (v0 : Nat) (v1 : Int32) (v2 : Int32) (s0 : Int32) (h : aH) (hf : fX10_drawn_12 v0 v1 v2 s0 h = some z) : Ev (d + 4) none mX10_drawn (0, 0) 12 [.ref v0, .int v1, .int v2] [.int s0] h (QI z) := 
  go_ok (X := none) (blk := wX10_drawn_12) (np := 15) (tt := 17) (kN := fun xs h st => app [0, 0, 0] (apS [] (fX10_drawn_15 h) st) xs) (kT := fun xs h st => app [2, 1, 1] (fun v0 v1 v2 => apS [] (fX10_drawn_17 v0 v1 v2 h) st) xs) (kR := kRI)
    (fun xs h st q => jm [0, 0, 0] _ (fun q => apS_ok [] _ (fun st => Ev (d + 4) none mX10_drawn (0, 0) 15 [.null, .null, .null] st h (QI z)) st (fun q => tX10_drawn_15 h q) q) q)
    (fun xs h st q => jm [2, 1, 1] _ (fun v0 v1 v2 q => apS_ok [] _ (fun st => Ev (d + 4) none mX10_drawn (0, 0) 17 [.ref v0, .int v1, .int v2] st h (QI z)) st (fun q => tX10_drawn_17 v0 v1 v2 h q) q) q)
    kRI_ok (Or.inr rfl) (by decide +kernel) (by decide +kernel) hf
theorem kqX10_drawn_9 : okC mX10_drawn 9 (.invokevirtual 190) 92 87 0 4 = true := by decide +kernel
def fX10_drawn_9 (v0 : Nat) (v1 : Int32) (v2 : Int32) (s0 : Int32) (s1 : Int32) (s2 : Int32) (s3 : Int32) (s4 : Nat) (h : aH) : Option (Int32 × aH) :=
  (isO h 10 s4).bind fun _ =>
  (gX10_isRefused s4 s3 s2 s1 s0 h).bind fun r =>
  fX10_drawn_12 v0 v1 v2 r.1 r.2
theorem tX10_drawn_9 {d : Nat} {z : Int32 × aH} (v0 : Nat) (v1 : Int32) (v2 : Int32) (s0 : Int32) (s1 : Int32) (s2 : Int32) (s3 : Int32) (s4 : Nat) (h : aH) (hf : fX10_drawn_9 v0 v1 v2 s0 s1 s2 s3 s4 h = some z) : Ev (d + 4) none mX10_drawn (0, 0) 9 [.ref v0, .int v1, .int v2] [.int s0, .int s1, .int s2, .int s3, .ref s4] h (QI z) := by
  obtain ⟨_, h1, hf⟩ := bnd hf
  obtain ⟨fs, ho⟩ := isO_ok h1
  obtain ⟨r, h2, hf⟩ := bnd hf
  refine ev_V kqX10_drawn_9 jX10_isRefused (zX10_isRefused (d := d + 2) h2) ho rfl rfl (Nat.le_of_ble_eq_true rfl) rfl (as := [.int s3, .int s2, .int s1, .int s0]) (rest := []) rfl (Nat.le_of_ble_eq_true rfl) (fun _ _ hq => ?_)
  obtain ⟨-, rfl, rfl⟩ := hq
  exact jm [2, 1, 1] (fun v0 v1 v2 => fX10_drawn_12 v0 v1 v2 r.1 r.2) (fun v0 v1 v2 q => tX10_drawn_12 v0 v1 v2 r.1 r.2 q) hf
def wX10_drawn_5 : List En := [(.iload_n 2, 0, 0, 0), (.iconst 1, 0, 0, 0), (.bipush 60, 0, 0, 0)]
def fX10_drawn_5 (v0 : Nat) (v1 : Int32) (v2 : Int32) (s0 : Int32) (s1 : Nat) (h : aH) : Option (Int32 × aH) :=
  fX10_drawn_9 v0 v1 v2 (kB 60) (kI 1) v2 s0 s1 h
theorem tX10_drawn_5 {d : Nat} {z : Int32 × aH} (v0 : Nat) (v1 : Int32) (v2 : Int32) (s0 : Int32) (s1 : Nat) (h : aH) (hf : fX10_drawn_5 v0 v1 v2 s0 s1 h = some z) : Ev (d + 4) none mX10_drawn (0, 0) 5 [.ref v0, .int v1, .int v2] [.int s0, .ref s1] h (QI z) := 
  go_ok (X := none) (blk := wX10_drawn_5) (np := 9) (tt := 0) (kN := fun xs h st => app [2, 1, 1] (fun v0 v1 v2 => apS [1, 1, 1, 1, 2] (fun s0 s1 s2 s3 s4 => fX10_drawn_9 v0 v1 v2 s0 s1 s2 s3 s4 h) st) xs) (kT := fun _ _ _ => none) (kR := kRI)
    (fun xs h st q => jm [2, 1, 1] _ (fun v0 v1 v2 q => apS_ok [1, 1, 1, 1, 2] _ (fun st => Ev (d + 4) none mX10_drawn (0, 0) 9 [.ref v0, .int v1, .int v2] st h (QI z)) st (fun s0 s1 s2 s3 s4 q => tX10_drawn_9 v0 v1 v2 s0 s1 s2 s3 s4 h q) q) q)
    (fun _ _ _ q => nos q)
    kRI_ok (Or.inr rfl) (by decide +kernel) (by decide +kernel) hf
theorem kqX10_drawn_2 : okC mX10_drawn 2 (.invokevirtual 159) 68 52 0 0 = true := by decide +kernel
def fX10_drawn_2 (v0 : Nat) (v1 : Int32) (v2 : Int32) (s0 : Nat) (s1 : Nat) (h : aH) : Option (Int32 × aH) :=
  (isO h 10 s0).bind fun _ =>
  (gX10_lacksTable s0 h).bind fun r =>
  fX10_drawn_5 v0 v1 v2 r.1 s1 r.2
theorem tX10_drawn_2 {d : Nat} {z : Int32 × aH} (v0 : Nat) (v1 : Int32) (v2 : Int32) (s0 : Nat) (s1 : Nat) (h : aH) (hf : fX10_drawn_2 v0 v1 v2 s0 s1 h = some z) : Ev (d + 4) none mX10_drawn (0, 0) 2 [.ref v0, .int v1, .int v2] [.ref s0, .ref s1] h (QI z) := by
  obtain ⟨_, h1, hf⟩ := bnd hf
  obtain ⟨fs, ho⟩ := isO_ok h1
  obtain ⟨r, h2, hf⟩ := bnd hf
  refine ev_V kqX10_drawn_2 jX10_lacksTable (zX10_lacksTable (d := d + 3) h2) ho rfl rfl (Nat.le_of_ble_eq_true rfl) rfl (as := []) (rest := [.ref s1]) rfl (Nat.le_of_ble_eq_true rfl) (fun _ _ hq => ?_)
  obtain ⟨-, rfl, rfl⟩ := hq
  exact jm [2, 1, 1] (fun v0 v1 v2 => fX10_drawn_5 v0 v1 v2 r.1 s1 r.2) (fun v0 v1 v2 q => tX10_drawn_5 v0 v1 v2 r.1 s1 r.2 q) hf
def wX10_drawn_0 : List En := [(.aload_n 0, 0, 0, 0), (.aload_n 0, 0, 0, 0)]
def fX10_drawn_0 (v0 : Nat) (v1 : Int32) (v2 : Int32) (h : aH) : Option (Int32 × aH) :=
  fX10_drawn_2 v0 v1 v2 v0 v0 h
theorem tX10_drawn_0 {d : Nat} {z : Int32 × aH} (v0 : Nat) (v1 : Int32) (v2 : Int32) (h : aH) (hf : fX10_drawn_0 v0 v1 v2 h = some z) : Ev (d + 4) none mX10_drawn (0, 0) 0 [.ref v0, .int v1, .int v2] [] h (QI z) := 
  go_ok (X := none) (blk := wX10_drawn_0) (np := 2) (tt := 0) (kN := fun xs h st => app [2, 1, 1] (fun v0 v1 v2 => apS [2, 2] (fun s0 s1 => fX10_drawn_2 v0 v1 v2 s0 s1 h) st) xs) (kT := fun _ _ _ => none) (kR := kRI)
    (fun xs h st q => jm [2, 1, 1] _ (fun v0 v1 v2 q => apS_ok [2, 2] _ (fun st => Ev (d + 4) none mX10_drawn (0, 0) 2 [.ref v0, .int v1, .int v2] st h (QI z)) st (fun s0 s1 q => tX10_drawn_2 v0 v1 v2 s0 s1 h q) q) q)
    (fun _ _ _ q => nos q)
    kRI_ok (Or.inr rfl) (by decide +kernel) (by decide +kernel) hf
def gX10_drawn (v0 : Nat) (v1 : Int32) (v2 : Int32) (h : aH) : Option (Int32 × aH) := fX10_drawn_0 v0 v1 v2 h
theorem zX10_drawn {d : Nat} {z : Int32 × aH} {v0 : Nat} {v1 : Int32} {v2 : Int32} {h : aH} (q : gX10_drawn v0 v1 v2 h = some z) : CT (d + 4) mX10_drawn (0, 0) [.ref v0, .int v1, .int v2] h (QI z) :=
  ct_ev (by decide +kernel) (Nat.le_of_ble_eq_true rfl) QI_r (jm [2, 1, 1] (fun v0 v1 v2 => fX10_drawn_0 v0 v1 v2 h) (fun v0 v1 v2 q => tX10_drawn_0 v0 v1 v2 h q) q)
def wX4_keep_50 : List En := [(.putfield 26, 85, 4, 0), (.return_, 0, 0, 0)]
def fX4_keep_50 (s0 : Int32) (s1 : Nat) (h : aH) : Option (aH) :=
  (pWV h 4 s1 0 (.int s0)).bind fun h1 =>
  some h1
theorem tX4_keep_50 {d : Nat} {z : aH} (s0 : Int32) (s1 : Nat) (h : aH) (hf : fX4_keep_50 s0 s1 h = some z) : Ev (d + 2) none mX4_keep (0, 0) 50 [.null, .null] [.int s0, .ref s1] h (QV z) := 
  go_ok (X := none) (blk := wX4_keep_50) (np := 54) (tt := 0) (kN := fun _ _ _ => none) (kT := fun _ _ _ => none) (kR := kRV)
    (fun _ _ _ q => nos q)
    (fun _ _ _ q => nos q)
    kRV_ok (Or.inr rfl) (by decide +kernel) (by decide +kernel) hf
theorem kqX4_keep_47 : ckP mX4_keep 47 29 2 19 = true := by decide +kernel
def fX4_keep_47 (s0 : Int32) (s1 : Int32) (s2 : Nat) (h : aH) : Option (aH) :=
  fX4_keep_50 (if s0 < s1 then s0 else s1) s2 h
theorem tX4_keep_47 {d : Nat} {z : aH} (s0 : Int32) (s1 : Int32) (s2 : Nat) (h : aH) (hf : fX4_keep_47 s0 s1 s2 h = some z) : Ev (d + 2) none mX4_keep (0, 0) 47 [.null, .null] [.int s0, .int s1, .ref s2] h (QV z) := 
  ev_mn kqX4_keep_47 rfl (Nat.le_of_ble_eq_true rfl) (jm [0, 0] (fX4_keep_50 (if s0 < s1 then s0 else s1) s2 h) (fun q => tX4_keep_50 (if s0 < s1 then s0 else s1) s2 h q) hf)
def wX4_keep_35 : List En := [(.putfield 18, 87, 4, 1), (.aload_n 0, 0, 0, 0), (.aload_n 0, 0, 0, 0), (.getfield 26, 85, 4, 0), (.iconst 1, 0, 0, 0), (.iadd, 0, 0, 0), (.bipush 16, 0, 0, 0)]
def fX4_keep_35 (v0 : Nat) (s0 : Int32) (s1 : Nat) (h : aH) : Option (aH) :=
  (pWV h 4 s1 1 (.int s0)).bind fun h1 =>
  (gFI h1 4 v0 0).bind fun t2 =>
  fX4_keep_47 (kB 16) (t2 + (kI 1)) v0 h1
theorem tX4_keep_35 {d : Nat} {z : aH} (v0 : Nat) (s0 : Int32) (s1 : Nat) (h : aH) (hf : fX4_keep_35 v0 s0 s1 h = some z) : Ev (d + 2) none mX4_keep (0, 0) 35 [.ref v0, .null] [.int s0, .ref s1] h (QV z) := 
  go_ok (X := none) (blk := wX4_keep_35) (np := 47) (tt := 0) (kN := fun xs h st => app [0, 0] (apS [1, 1, 2] (fun s0 s1 s2 => fX4_keep_47 s0 s1 s2 h) st) xs) (kT := fun _ _ _ => none) (kR := kRV)
    (fun xs h st q => jm [0, 0] _ (fun q => apS_ok [1, 1, 2] _ (fun st => Ev (d + 2) none mX4_keep (0, 0) 47 [.null, .null] st h (QV z)) st (fun s0 s1 s2 q => tX4_keep_47 s0 s1 s2 h q) q) q)
    (fun _ _ _ q => nos q)
    kRV_ok (Or.inr rfl) (by decide +kernel) (by decide +kernel) hf
def wX4_keep_34 : List En := [(.iconst 0, 0, 0, 0)]
def fX4_keep_34 (v0 : Nat) (s0 : Nat) (h : aH) : Option (aH) :=
  fX4_keep_35 v0 (kI 0) s0 h
theorem tX4_keep_34 {d : Nat} {z : aH} (v0 : Nat) (s0 : Nat) (h : aH) (hf : fX4_keep_34 v0 s0 h = some z) : Ev (d + 2) none mX4_keep (0, 0) 34 [.ref v0, .null] [.ref s0] h (QV z) := 
  go_ok (X := none) (blk := wX4_keep_34) (np := 35) (tt := 0) (kN := fun xs h st => app [2, 0] (fun v0 => apS [1, 2] (fun s0 s1 => fX4_keep_35 v0 s0 s1 h) st) xs) (kT := fun _ _ _ => none) (kR := kRV)
    (fun xs h st q => jm [2, 0] _ (fun v0 q => apS_ok [1, 2] _ (fun st => Ev (d + 2) none mX4_keep (0, 0) 35 [.ref v0, .null] st h (QV z)) st (fun s0 s1 q => tX4_keep_35 v0 s0 s1 h q) q) q)
    (fun _ _ _ q => nos q)
    kRV_ok (Or.inr rfl) (by decide +kernel) (by decide +kernel) hf
def wX4_keep_25 : List En := [(.aload_n 0, 0, 0, 0), (.getfield 18, 87, 4, 1), (.iconst 1, 0, 0, 0), (.iadd, 0, 0, 0), (.goto 4, 35, 0, 0)]
def fX4_keep_25 (v0 : Nat) (s0 : Nat) (h : aH) : Option (aH) :=
  (gFI h 4 v0 1).bind fun t1 =>
  fX4_keep_35 v0 (t1 + (kI 1)) s0 h
theorem tX4_keep_25 {d : Nat} {z : aH} (v0 : Nat) (s0 : Nat) (h : aH) (hf : fX4_keep_25 v0 s0 h = some z) : Ev (d + 2) none mX4_keep (0, 0) 25 [.ref v0, .null] [.ref s0] h (QV z) := 
  go_ok (X := none) (blk := wX4_keep_25) (np := 34) (tt := 35) (kN := fun _ _ _ => none) (kT := fun xs h st => app [2, 0] (fun v0 => apS [1, 2] (fun s0 s1 => fX4_keep_35 v0 s0 s1 h) st) xs) (kR := kRV)
    (fun _ _ _ q => nos q)
    (fun xs h st q => jm [2, 0] _ (fun v0 q => apS_ok [1, 2] _ (fun st => Ev (d + 2) none mX4_keep (0, 0) 35 [.ref v0, .null] st h (QV z)) st (fun s0 s1 q => tX4_keep_35 v0 s0 s1 h q) q) q)
    kRV_ok (Or.inr rfl) (by decide +kernel) (by decide +kernel) hf
def wX4_keep_13 : List En := [(.aload_n 0, 0, 0, 0), (.aload_n 0, 0, 0, 0), (.getfield 18, 87, 4, 1), (.iconst 1, 0, 0, 0), (.iadd, 0, 0, 0), (.bipush 16, 0, 0, 0), (.if_icmp .ge 12, 34, 0, 0)]
def fX4_keep_13 (v0 : Nat) (h : aH) : Option (aH) :=
  (gFI h 4 v0 1).bind fun t1 =>
  if (t1 + (kI 1)) < (kB 16) then fX4_keep_25 v0 v0 h else fX4_keep_34 v0 v0 h
theorem tX4_keep_13 {d : Nat} {z : aH} (v0 : Nat) (h : aH) (hf : fX4_keep_13 v0 h = some z) : Ev (d + 2) none mX4_keep (0, 0) 13 [.ref v0, .null] [] h (QV z) := 
  go_ok (X := none) (blk := wX4_keep_13) (np := 25) (tt := 34) (kN := fun xs h st => app [2, 0] (fun v0 => apS [2] (fun s0 => fX4_keep_25 v0 s0 h) st) xs) (kT := fun xs h st => app [2, 0] (fun v0 => apS [2] (fun s0 => fX4_keep_34 v0 s0 h) st) xs) (kR := kRV)
    (fun xs h st q => jm [2, 0] _ (fun v0 q => apS_ok [2] _ (fun st => Ev (d + 2) none mX4_keep (0, 0) 25 [.ref v0, .null] st h (QV z)) st (fun s0 q => tX4_keep_25 v0 s0 h q) q) q)
    (fun xs h st q => jm [2, 0] _ (fun v0 q => apS_ok [2] _ (fun st => Ev (d + 2) none mX4_keep (0, 0) 34 [.ref v0, .null] st h (QV z)) st (fun s0 q => tX4_keep_34 v0 s0 h q) q) q)
    kRV_ok (Or.inr rfl) (by decide +kernel) (by decide +kernel) hf
theorem kqX4_keep_10 : okC mX4_keep 10 (.invokevirtual 22) 81 176 0 1 = true := by decide +kernel
def fX4_keep_10 (v0 : Nat) (s0 : Nat) (s1 : Nat) (h : aH) : Option (aH) :=
  (isO h 7 s1).bind fun _ =>
  (gX7_copy s1 s0 h).bind fun r =>
  fX4_keep_13 v0 r
theorem tX4_keep_10 {d : Nat} {z : aH} (v0 : Nat) (s0 : Nat) (s1 : Nat) (h : aH) (hf : fX4_keep_10 v0 s0 s1 h = some z) : Ev (d + 2) none mX4_keep (0, 0) 10 [.ref v0, .null] [.ref s0, .ref s1] h (QV z) := by
  obtain ⟨_, h1, hf⟩ := bnd hf
  obtain ⟨fs, ho⟩ := isO_ok h1
  obtain ⟨r, h2, hf⟩ := bnd hf
  refine ev_V kqX4_keep_10 jX7_copy (zX7_copy (d := d + 0) h2) ho rfl rfl (Nat.le_of_ble_eq_true rfl) rfl (as := [.ref s0]) (rest := []) rfl (Nat.le_of_ble_eq_true rfl) (fun _ _ hq => ?_)
  obtain ⟨rfl, hh⟩ := hq
  rw [hh]
  exact jm [2, 0] (fun v0 => fX4_keep_13 v0 r) (fun v0 q => tX4_keep_13 v0 r q) hf
def wX4_keep_0 : List En := [(.aload_n 0, 0, 0, 0), (.getfield 11, 88, 4, 2), (.aload_n 0, 0, 0, 0), (.getfield 18, 87, 4, 1), (.aaload, 0, 0, 0), (.aload_n 1, 0, 0, 0)]
def fX4_keep_0 (v0 : Nat) (v1 : Nat) (h : aH) : Option (aH) :=
  (gFR h 4 v0 2).bind fun t1 =>
  (gFI h 4 v0 1).bind fun t2 =>
  (aRR (h[t1]?) t2).bind fun t3 =>
  fX4_keep_10 v0 v1 t3 h
theorem tX4_keep_0 {d : Nat} {z : aH} (v0 : Nat) (v1 : Nat) (h : aH) (hf : fX4_keep_0 v0 v1 h = some z) : Ev (d + 2) none mX4_keep (0, 0) 0 [.ref v0, .ref v1] [] h (QV z) := 
  go_ok (X := none) (blk := wX4_keep_0) (np := 10) (tt := 0) (kN := fun xs h st => app [2, 0] (fun v0 => apS [2, 2] (fun s0 s1 => fX4_keep_10 v0 s0 s1 h) st) xs) (kT := fun _ _ _ => none) (kR := kRV)
    (fun xs h st q => jm [2, 0] _ (fun v0 q => apS_ok [2, 2] _ (fun st => Ev (d + 2) none mX4_keep (0, 0) 10 [.ref v0, .null] st h (QV z)) st (fun s0 s1 q => tX4_keep_10 v0 s0 s1 h q) q) q)
    (fun _ _ _ q => nos q)
    kRV_ok (Or.inr rfl) (by decide +kernel) (by decide +kernel) hf
def gX4_keep (v0 : Nat) (v1 : Nat) (h : aH) : Option (aH) := fX4_keep_0 v0 v1 h
theorem zX4_keep {d : Nat} {z : aH} {v0 : Nat} {v1 : Nat} {h : aH} (q : gX4_keep v0 v1 h = some z) : CT (d + 2) mX4_keep (0, 0) [.ref v0, .ref v1] h (QV z) :=
  ct_ev (by decide +kernel) (Nat.le_of_ble_eq_true rfl) QV_r (jm [2, 2] (fun v0 v1 => fX4_keep_0 v0 v1 h) (fun v0 v1 q => tX4_keep_0 v0 v1 h q) q)
def wX10_day_78 : List En := [(.ireturn, 0, 0, 0)]
def fX10_day_78 (s0 : Int32) (h : aH) : Option (Int32 × aH) :=
  some (s0, h)
theorem tX10_day_78 {d : Nat} {z : Int32 × aH} (s0 : Int32) (h : aH) (hf : fX10_day_78 s0 h = some z) : Ev (d + 3) none mX10_day (0, 0) 78 [.null] [.int s0] h (QI z) := 
  go_ok (X := none) (blk := wX10_day_78) (np := 79) (tt := 0) (kN := fun _ _ _ => none) (kT := fun _ _ _ => none) (kR := kRI)
    (fun _ _ _ q => nos q)
    (fun _ _ _ q => nos q)
    kRI_ok (Or.inr rfl) (by decide +kernel) (by decide +kernel) hf
theorem kqX10_day_75 : okC mX10_day 75 (.invokevirtual 119) 60 44 0 1 = true := by decide +kernel
def fX10_day_75 (s0 : Int32) (s1 : Nat) (h : aH) : Option (Int32 × aH) :=
  (isO h 10 s1).bind fun _ =>
  (gX10_answer s1 s0 h).bind fun r =>
  fX10_day_78 r.1 r.2
theorem tX10_day_75 {d : Nat} {z : Int32 × aH} (s0 : Int32) (s1 : Nat) (h : aH) (hf : fX10_day_75 s0 s1 h = some z) : Ev (d + 3) none mX10_day (0, 0) 75 [.null] [.int s0, .ref s1] h (QI z) := by
  obtain ⟨_, h1, hf⟩ := bnd hf
  obtain ⟨fs, ho⟩ := isO_ok h1
  obtain ⟨r, h2, hf⟩ := bnd hf
  refine ev_V kqX10_day_75 jX10_answer (zX10_answer (d := d + 2) h2) ho rfl rfl (Nat.le_of_ble_eq_true rfl) rfl (as := [.int s0]) (rest := []) rfl (Nat.le_of_ble_eq_true rfl) (fun _ _ hq => ?_)
  obtain ⟨rfl, rfl⟩ := hq
  exact jm [0] (fX10_day_78 r.1 r.2) (fun q => tX10_day_78 r.1 r.2 q) hf
def wX10_day_67 : List En := [(.aload_n 0, 0, 0, 0), (.aload_n 0, 0, 0, 0), (.getfield 61, 169, 10, 7), (.getfield 205, 43, 6, 1)]
def fX10_day_67 (v0 : Nat) (h : aH) : Option (Int32 × aH) :=
  (gFR h 10 v0 7).bind fun t1 =>
  (gFI h 6 t1 1).bind fun t2 =>
  fX10_day_75 t2 v0 h
theorem tX10_day_67 {d : Nat} {z : Int32 × aH} (v0 : Nat) (h : aH) (hf : fX10_day_67 v0 h = some z) : Ev (d + 3) none mX10_day (0, 0) 67 [.ref v0] [] h (QI z) := 
  go_ok (X := none) (blk := wX10_day_67) (np := 75) (tt := 0) (kN := fun xs h st => app [0] (apS [1, 2] (fun s0 s1 => fX10_day_75 s0 s1 h) st) xs) (kT := fun _ _ _ => none) (kR := kRI)
    (fun xs h st q => jm [0] _ (fun q => apS_ok [1, 2] _ (fun st => Ev (d + 3) none mX10_day (0, 0) 75 [.null] st h (QI z)) st (fun s0 s1 q => tX10_day_75 s0 s1 h q) q) q)
    (fun _ _ _ q => nos q)
    kRI_ok (Or.inr rfl) (by decide +kernel) (by decide +kernel) hf
theorem kqX10_day_64 : okC mX10_day 64 (.invokevirtual 338) 83 177 0 5 = true := by decide +kernel
def fX10_day_64 (v0 : Nat) (s0 : Int32) (s1 : Int32) (s2 : Int32) (s3 : Nat) (s4 : Nat) (s5 : Nat) (h : aH) : Option (Int32 × aH) :=
  (isO h 6 s5).bind fun _ =>
  (gX6_hold s5 s4 s3 s2 s1 s0 h).bind fun r =>
  fX10_day_67 v0 r
theorem tX10_day_64 {d : Nat} {z : Int32 × aH} (v0 : Nat) (s0 : Int32) (s1 : Int32) (s2 : Int32) (s3 : Nat) (s4 : Nat) (s5 : Nat) (h : aH) (hf : fX10_day_64 v0 s0 s1 s2 s3 s4 s5 h = some z) : Ev (d + 3) none mX10_day (0, 0) 64 [.ref v0] [.int s0, .int s1, .int s2, .ref s3, .ref s4, .ref s5] h (QI z) := by
  obtain ⟨_, h1, hf⟩ := bnd hf
  obtain ⟨fs, ho⟩ := isO_ok h1
  obtain ⟨r, h2, hf⟩ := bnd hf
  refine ev_V kqX10_day_64 jX6_hold (zX6_hold (d := d + 0) h2) ho rfl rfl (Nat.le_of_ble_eq_true rfl) rfl (as := [.ref s4, .ref s3, .int s2, .int s1, .int s0]) (rest := []) rfl (Nat.le_of_ble_eq_true rfl) (fun _ _ hq => ?_)
  obtain ⟨rfl, hh⟩ := hq
  rw [hh]
  exact jm [2] (fun v0 => fX10_day_67 v0 r) (fun v0 q => tX10_day_67 v0 r q) hf
def wX10_day_43 : List En := [(.aload_n 0, 0, 0, 0), (.getfield 61, 169, 10, 7), (.aload_n 0, 0, 0, 0), (.getfield 75, 171, 10, 9), (.aload_n 0, 0, 0, 0), (.getfield 68, 170, 10, 8), (.iconst 0, 0, 0, 0), (.iconst 0, 0, 0, 0), (.aload_n 0, 0, 0, 0), (.getfield 75, 171, 10, 9), (.getfield 225, 98, 9, 0)]
def fX10_day_43 (v0 : Nat) (h : aH) : Option (Int32 × aH) :=
  (gFR h 10 v0 7).bind fun t1 =>
  (gFR h 10 v0 9).bind fun t2 =>
  (gFR h 10 v0 8).bind fun t3 =>
  (gFR h 10 v0 9).bind fun t4 =>
  (gFI h 9 t4 0).bind fun t5 =>
  fX10_day_64 v0 t5 (kI 0) (kI 0) t3 t2 t1 h
theorem tX10_day_43 {d : Nat} {z : Int32 × aH} (v0 : Nat) (h : aH) (hf : fX10_day_43 v0 h = some z) : Ev (d + 3) none mX10_day (0, 0) 43 [.ref v0] [] h (QI z) := 
  go_ok (X := none) (blk := wX10_day_43) (np := 64) (tt := 0) (kN := fun xs h st => app [2] (fun v0 => apS [1, 1, 1, 2, 2, 2] (fun s0 s1 s2 s3 s4 s5 => fX10_day_64 v0 s0 s1 s2 s3 s4 s5 h) st) xs) (kT := fun _ _ _ => none) (kR := kRI)
    (fun xs h st q => jm [2] _ (fun v0 q => apS_ok [1, 1, 1, 2, 2, 2] _ (fun st => Ev (d + 3) none mX10_day (0, 0) 64 [.ref v0] st h (QI z)) st (fun s0 s1 s2 s3 s4 s5 q => tX10_day_64 v0 s0 s1 s2 s3 s4 s5 h q) q) q)
    (fun _ _ _ q => nos q)
    kRI_ok (Or.inr rfl) (by decide +kernel) (by decide +kernel) hf
theorem kqX10_day_40 : okC mX10_day 40 (.invokevirtual 335) 163 175 0 1 = true := by decide +kernel
def fX10_day_40 (v0 : Nat) (s0 : Nat) (s1 : Nat) (h : aH) : Option (Int32 × aH) :=
  (isO h 4 s1).bind fun _ =>
  (gX4_keep s1 s0 h).bind fun r =>
  fX10_day_43 v0 r
theorem tX10_day_40 {d : Nat} {z : Int32 × aH} (v0 : Nat) (s0 : Nat) (s1 : Nat) (h : aH) (hf : fX10_day_40 v0 s0 s1 h = some z) : Ev (d + 3) none mX10_day (0, 0) 40 [.ref v0] [.ref s0, .ref s1] h (QI z) := by
  obtain ⟨_, h1, hf⟩ := bnd hf
  obtain ⟨fs, ho⟩ := isO_ok h1
  obtain ⟨r, h2, hf⟩ := bnd hf
  refine ev_V kqX10_day_40 jX4_keep (zX4_keep (d := d + 0) h2) ho rfl rfl (Nat.le_of_ble_eq_true rfl) rfl (as := [.ref s0]) (rest := []) rfl (Nat.le_of_ble_eq_true rfl) (fun _ _ hq => ?_)
  obtain ⟨rfl, hh⟩ := hq
  rw [hh]
  exact jm [2] (fun v0 => fX10_day_43 v0 r) (fun v0 q => tX10_day_43 v0 r q) hf
def wX10_day_32 : List En := [(.aload_n 0, 0, 0, 0), (.getfield 47, 167, 10, 5), (.aload_n 0, 0, 0, 0), (.getfield 68, 170, 10, 8)]
def fX10_day_32 (v0 : Nat) (h : aH) : Option (Int32 × aH) :=
  (gFR h 10 v0 5).bind fun t1 =>
  (gFR h 10 v0 8).bind fun t2 =>
  fX10_day_40 v0 t2 t1 h
theorem tX10_day_32 {d : Nat} {z : Int32 × aH} (v0 : Nat) (h : aH) (hf : fX10_day_32 v0 h = some z) : Ev (d + 3) none mX10_day (0, 0) 32 [.ref v0] [] h (QI z) := 
  go_ok (X := none) (blk := wX10_day_32) (np := 40) (tt := 0) (kN := fun xs h st => app [2] (fun v0 => apS [2, 2] (fun s0 s1 => fX10_day_40 v0 s0 s1 h) st) xs) (kT := fun _ _ _ => none) (kR := kRI)
    (fun xs h st q => jm [2] _ (fun v0 q => apS_ok [2, 2] _ (fun st => Ev (d + 3) none mX10_day (0, 0) 40 [.ref v0] st h (QI z)) st (fun s0 s1 q => tX10_day_40 v0 s0 s1 h q) q) q)
    (fun _ _ _ q => nos q)
    kRI_ok (Or.inr rfl) (by decide +kernel) (by decide +kernel) hf
def wX10_day_31 : List En := [(.ireturn, 0, 0, 0)]
def fX10_day_31 (s0 : Int32) (h : aH) : Option (Int32 × aH) :=
  some (s0, h)
theorem tX10_day_31 {d : Nat} {z : Int32 × aH} (s0 : Int32) (h : aH) (hf : fX10_day_31 s0 h = some z) : Ev (d + 3) none mX10_day (0, 0) 31 [.null] [.int s0] h (QI z) := 
  go_ok (X := none) (blk := wX10_day_31) (np := 32) (tt := 0) (kN := fun _ _ _ => none) (kT := fun _ _ _ => none) (kR := kRI)
    (fun _ _ _ q => nos q)
    (fun _ _ _ q => nos q)
    kRI_ok (Or.inr rfl) (by decide +kernel) (by decide +kernel) hf
theorem kqX10_day_28 : okC mX10_day 28 (.invokevirtual 94) 15 8 0 1 = true := by decide +kernel
def fX10_day_28 (s0 : Int32) (s1 : Nat) (h : aH) : Option (Int32 × aH) :=
  (isO h 10 s1).bind fun _ =>
  (gX10_refuse s1 s0 h).bind fun r =>
  fX10_day_31 r.1 r.2
theorem tX10_day_28 {d : Nat} {z : Int32 × aH} (s0 : Int32) (s1 : Nat) (h : aH) (hf : fX10_day_28 s0 s1 h = some z) : Ev (d + 3) none mX10_day (0, 0) 28 [.null] [.int s0, .ref s1] h (QI z) := by
  obtain ⟨_, h1, hf⟩ := bnd hf
  obtain ⟨fs, ho⟩ := isO_ok h1
  obtain ⟨r, h2, hf⟩ := bnd hf
  refine ev_V kqX10_day_28 jX10_refuse (zX10_refuse (d := d + 2) h2) ho rfl rfl (Nat.le_of_ble_eq_true rfl) rfl (as := [.int s0]) (rest := []) rfl (Nat.le_of_ble_eq_true rfl) (fun _ _ hq => ?_)
  obtain ⟨rfl, rfl⟩ := hq
  exact jm [0] (fX10_day_31 r.1 r.2) (fun q => tX10_day_31 r.1 r.2 q) hf
def wX10_day_26 : List En := [(.aload_n 0, 0, 0, 0), (.iconst 3, 0, 0, 0)]
def fX10_day_26 (v0 : Nat) (h : aH) : Option (Int32 × aH) :=
  fX10_day_28 (kI 3) v0 h
theorem tX10_day_26 {d : Nat} {z : Int32 × aH} (v0 : Nat) (h : aH) (hf : fX10_day_26 v0 h = some z) : Ev (d + 3) none mX10_day (0, 0) 26 [.ref v0] [] h (QI z) := 
  go_ok (X := none) (blk := wX10_day_26) (np := 28) (tt := 0) (kN := fun xs h st => app [0] (apS [1, 2] (fun s0 s1 => fX10_day_28 s0 s1 h) st) xs) (kT := fun _ _ _ => none) (kR := kRI)
    (fun xs h st q => jm [0] _ (fun q => apS_ok [1, 2] _ (fun st => Ev (d + 3) none mX10_day (0, 0) 28 [.null] st h (QI z)) st (fun s0 s1 q => tX10_day_28 s0 s1 h q) q) q)
    (fun _ _ _ q => nos q)
    kRI_ok (Or.inr rfl) (by decide +kernel) (by decide +kernel) hf
def wX10_day_13 : List En := [(.aload_n 0, 0, 0, 0), (.getfield 68, 170, 10, 8), (.getfield 332, 35, 7, 6), (.sipush 999, 0, 0, 0), (.if_icmp .lt 9, 32, 0, 0)]
def fX10_day_13 (v0 : Nat) (h : aH) : Option (Int32 × aH) :=
  (gFR h 10 v0 8).bind fun t1 =>
  (gFI h 7 t1 6).bind fun t2 =>
  if t2 < (kS 999) then fX10_day_32 v0 h else fX10_day_26 v0 h
theorem tX10_day_13 {d : Nat} {z : Int32 × aH} (v0 : Nat) (h : aH) (hf : fX10_day_13 v0 h = some z) : Ev (d + 3) none mX10_day (0, 0) 13 [.ref v0] [] h (QI z) := 
  go_ok (X := none) (blk := wX10_day_13) (np := 26) (tt := 32) (kN := fun xs h st => app [2] (fun v0 => apS [] (fX10_day_26 v0 h) st) xs) (kT := fun xs h st => app [2] (fun v0 => apS [] (fX10_day_32 v0 h) st) xs) (kR := kRI)
    (fun xs h st q => jm [2] _ (fun v0 q => apS_ok [] _ (fun st => Ev (d + 3) none mX10_day (0, 0) 26 [.ref v0] st h (QI z)) st (fun q => tX10_day_26 v0 h q) q) q)
    (fun xs h st q => jm [2] _ (fun v0 q => apS_ok [] _ (fun st => Ev (d + 3) none mX10_day (0, 0) 32 [.ref v0] st h (QI z)) st (fun q => tX10_day_32 v0 h q) q) q)
    kRI_ok (Or.inr rfl) (by decide +kernel) (by decide +kernel) hf
def wX10_day_12 : List En := [(.ireturn, 0, 0, 0)]
def fX10_day_12 (s0 : Int32) (h : aH) : Option (Int32 × aH) :=
  some (s0, h)
theorem tX10_day_12 {d : Nat} {z : Int32 × aH} (s0 : Int32) (h : aH) (hf : fX10_day_12 s0 h = some z) : Ev (d + 3) none mX10_day (0, 0) 12 [.null] [.int s0] h (QI z) := 
  go_ok (X := none) (blk := wX10_day_12) (np := 13) (tt := 0) (kN := fun _ _ _ => none) (kT := fun _ _ _ => none) (kR := kRI)
    (fun _ _ _ q => nos q)
    (fun _ _ _ q => nos q)
    kRI_ok (Or.inr rfl) (by decide +kernel) (by decide +kernel) hf
theorem kqX10_day_9 : okC mX10_day 9 (.invokevirtual 94) 15 8 0 1 = true := by decide +kernel
def fX10_day_9 (s0 : Int32) (s1 : Nat) (h : aH) : Option (Int32 × aH) :=
  (isO h 10 s1).bind fun _ =>
  (gX10_refuse s1 s0 h).bind fun r =>
  fX10_day_12 r.1 r.2
theorem tX10_day_9 {d : Nat} {z : Int32 × aH} (s0 : Int32) (s1 : Nat) (h : aH) (hf : fX10_day_9 s0 s1 h = some z) : Ev (d + 3) none mX10_day (0, 0) 9 [.null] [.int s0, .ref s1] h (QI z) := by
  obtain ⟨_, h1, hf⟩ := bnd hf
  obtain ⟨fs, ho⟩ := isO_ok h1
  obtain ⟨r, h2, hf⟩ := bnd hf
  refine ev_V kqX10_day_9 jX10_refuse (zX10_refuse (d := d + 2) h2) ho rfl rfl (Nat.le_of_ble_eq_true rfl) rfl (as := [.int s0]) (rest := []) rfl (Nat.le_of_ble_eq_true rfl) (fun _ _ hq => ?_)
  obtain ⟨rfl, rfl⟩ := hq
  exact jm [0] (fX10_day_12 r.1 r.2) (fun q => tX10_day_12 r.1 r.2 q) hf
def wX10_day_7 : List En := [(.aload_n 0, 0, 0, 0), (.iconst 1, 0, 0, 0)]
def fX10_day_7 (v0 : Nat) (h : aH) : Option (Int32 × aH) :=
  fX10_day_9 (kI 1) v0 h
theorem tX10_day_7 {d : Nat} {z : Int32 × aH} (v0 : Nat) (h : aH) (hf : fX10_day_7 v0 h = some z) : Ev (d + 3) none mX10_day (0, 0) 7 [.ref v0] [] h (QI z) := 
  go_ok (X := none) (blk := wX10_day_7) (np := 9) (tt := 0) (kN := fun xs h st => app [0] (apS [1, 2] (fun s0 s1 => fX10_day_9 s0 s1 h) st) xs) (kT := fun _ _ _ => none) (kR := kRI)
    (fun xs h st q => jm [0] _ (fun q => apS_ok [1, 2] _ (fun st => Ev (d + 3) none mX10_day (0, 0) 9 [.null] st h (QI z)) st (fun s0 s1 q => tX10_day_9 s0 s1 h q) q) q)
    (fun _ _ _ q => nos q)
    kRI_ok (Or.inr rfl) (by decide +kernel) (by decide +kernel) hf
def wX10_day_4 : List En := [(.ifCond .eq 9, 13, 0, 0)]
def fX10_day_4 (v0 : Nat) (s0 : Int32) (h : aH) : Option (Int32 × aH) :=
  if s0 = 0 then fX10_day_13 v0 h else fX10_day_7 v0 h
theorem tX10_day_4 {d : Nat} {z : Int32 × aH} (v0 : Nat) (s0 : Int32) (h : aH) (hf : fX10_day_4 v0 s0 h = some z) : Ev (d + 3) none mX10_day (0, 0) 4 [.ref v0] [.int s0] h (QI z) := 
  go_ok (X := none) (blk := wX10_day_4) (np := 7) (tt := 13) (kN := fun xs h st => app [2] (fun v0 => apS [] (fX10_day_7 v0 h) st) xs) (kT := fun xs h st => app [2] (fun v0 => apS [] (fX10_day_13 v0 h) st) xs) (kR := kRI)
    (fun xs h st q => jm [2] _ (fun v0 q => apS_ok [] _ (fun st => Ev (d + 3) none mX10_day (0, 0) 7 [.ref v0] st h (QI z)) st (fun q => tX10_day_7 v0 h q) q) q)
    (fun xs h st q => jm [2] _ (fun v0 q => apS_ok [] _ (fun st => Ev (d + 3) none mX10_day (0, 0) 13 [.ref v0] st h (QI z)) st (fun q => tX10_day_13 v0 h q) q) q)
    kRI_ok (Or.inr rfl) (by decide +kernel) (by decide +kernel) hf
theorem kqX10_day_1 : okC mX10_day 1 (.invokevirtual 159) 68 52 0 0 = true := by decide +kernel
def fX10_day_1 (v0 : Nat) (s0 : Nat) (h : aH) : Option (Int32 × aH) :=
  (isO h 10 s0).bind fun _ =>
  (gX10_lacksTable s0 h).bind fun r =>
  fX10_day_4 v0 r.1 r.2
theorem tX10_day_1 {d : Nat} {z : Int32 × aH} (v0 : Nat) (s0 : Nat) (h : aH) (hf : fX10_day_1 v0 s0 h = some z) : Ev (d + 3) none mX10_day (0, 0) 1 [.ref v0] [.ref s0] h (QI z) := by
  obtain ⟨_, h1, hf⟩ := bnd hf
  obtain ⟨fs, ho⟩ := isO_ok h1
  obtain ⟨r, h2, hf⟩ := bnd hf
  refine ev_V kqX10_day_1 jX10_lacksTable (zX10_lacksTable (d := d + 2) h2) ho rfl rfl (Nat.le_of_ble_eq_true rfl) rfl (as := []) (rest := []) rfl (Nat.le_of_ble_eq_true rfl) (fun _ _ hq => ?_)
  obtain ⟨-, rfl, rfl⟩ := hq
  exact jm [2] (fun v0 => fX10_day_4 v0 r.1 r.2) (fun v0 q => tX10_day_4 v0 r.1 r.2 q) hf
def wX10_day_0 : List En := [(.aload_n 0, 0, 0, 0)]
def fX10_day_0 (v0 : Nat) (h : aH) : Option (Int32 × aH) :=
  fX10_day_1 v0 v0 h
theorem tX10_day_0 {d : Nat} {z : Int32 × aH} (v0 : Nat) (h : aH) (hf : fX10_day_0 v0 h = some z) : Ev (d + 3) none mX10_day (0, 0) 0 [.ref v0] [] h (QI z) := 
  go_ok (X := none) (blk := wX10_day_0) (np := 1) (tt := 0) (kN := fun xs h st => app [2] (fun v0 => apS [2] (fun s0 => fX10_day_1 v0 s0 h) st) xs) (kT := fun _ _ _ => none) (kR := kRI)
    (fun xs h st q => jm [2] _ (fun v0 q => apS_ok [2] _ (fun st => Ev (d + 3) none mX10_day (0, 0) 1 [.ref v0] st h (QI z)) st (fun s0 q => tX10_day_1 v0 s0 h q) q) q)
    (fun _ _ _ q => nos q)
    kRI_ok (Or.inr rfl) (by decide +kernel) (by decide +kernel) hf
def gX10_day (v0 : Nat) (h : aH) : Option (Int32 × aH) := fX10_day_0 v0 h
theorem zX10_day {d : Nat} {z : Int32 × aH} {v0 : Nat} {h : aH} (q : gX10_day v0 h = some z) : CT (d + 3) mX10_day (0, 0) [.ref v0] h (QI z) :=
  ct_ev (by decide +kernel) (Nat.le_of_ble_eq_true rfl) QI_r (jm [2] (fun v0 => fX10_day_0 v0 h) (fun v0 q => tX10_day_0 v0 h q) q)
def wX10_bid_72 : List En := [(.ireturn, 0, 0, 0)]
def fX10_bid_72 (s0 : Int32) (h : aH) : Option (Int32 × aH) :=
  some (s0, h)
theorem tX10_bid_72 {d : Nat} {z : Int32 × aH} (s0 : Int32) (h : aH) (hf : fX10_bid_72 s0 h = some z) : Ev (d + 3) none mX10_bid (0, 0) 72 [.null, .null] [.int s0] h (QI z) := 
  go_ok (X := none) (blk := wX10_bid_72) (np := 73) (tt := 0) (kN := fun _ _ _ => none) (kT := fun _ _ _ => none) (kR := kRI)
    (fun _ _ _ q => nos q)
    (fun _ _ _ q => nos q)
    kRI_ok (Or.inr rfl) (by decide +kernel) (by decide +kernel) hf
theorem kqX10_bid_69 : okC mX10_bid 69 (.invokevirtual 119) 60 44 0 1 = true := by decide +kernel
def fX10_bid_69 (s0 : Int32) (s1 : Nat) (h : aH) : Option (Int32 × aH) :=
  (isO h 10 s1).bind fun _ =>
  (gX10_answer s1 s0 h).bind fun r =>
  fX10_bid_72 r.1 r.2
theorem tX10_bid_69 {d : Nat} {z : Int32 × aH} (s0 : Int32) (s1 : Nat) (h : aH) (hf : fX10_bid_69 s0 s1 h = some z) : Ev (d + 3) none mX10_bid (0, 0) 69 [.null, .null] [.int s0, .ref s1] h (QI z) := by
  obtain ⟨_, h1, hf⟩ := bnd hf
  obtain ⟨fs, ho⟩ := isO_ok h1
  obtain ⟨r, h2, hf⟩ := bnd hf
  refine ev_V kqX10_bid_69 jX10_answer (zX10_answer (d := d + 2) h2) ho rfl rfl (Nat.le_of_ble_eq_true rfl) rfl (as := [.int s0]) (rest := []) rfl (Nat.le_of_ble_eq_true rfl) (fun _ _ hq => ?_)
  obtain ⟨rfl, rfl⟩ := hq
  exact jm [0, 0] (fX10_bid_72 r.1 r.2) (fun q => tX10_bid_72 r.1 r.2 q) hf
def wX10_bid_42 : List En := [(.aload_n 0, 0, 0, 0), (.getfield 68, 170, 10, 8), (.dup, 0, 0, 0), (.getfield 147, 30, 7, 4), (.iconst 1, 0, 0, 0), (.iload_n 1, 0, 0, 0), (.ishl, 0, 0, 0), (.ixor, 0, 0, 0), (.putfield 147, 30, 7, 4), (.aload_n 0, 0, 0, 0), (.aload_n 0, 0, 0, 0), (.getfield 68, 170, 10, 8), (.getfield 147, 30, 7, 4), (.iload_n 1, 0, 0, 0), (.ishr, 0, 0, 0), (.iconst 1, 0, 0, 0), (.iand, 0, 0, 0)]
def fX10_bid_42 (v0 : Nat) (v1 : Int32) (h : aH) : Option (Int32 × aH) :=
  (gFR h 10 v0 8).bind fun t1 =>
  (gFI h 7 t1 4).bind fun t2 =>
  (pWV h 7 t1 4 (.int (t2 ^^^ ((kI 1) <<< (v1 &&& 31))))).bind fun h3 =>
  (gFR h3 10 v0 8).bind fun t4 =>
  (gFI h3 7 t4 4).bind fun t5 =>
  fX10_bid_69 ((t5 >>> (v1 &&& 31)) &&& (kI 1)) v0 h3
theorem tX10_bid_42 {d : Nat} {z : Int32 × aH} (v0 : Nat) (v1 : Int32) (h : aH) (hf : fX10_bid_42 v0 v1 h = some z) : Ev (d + 3) none mX10_bid (0, 0) 42 [.ref v0, .int v1] [] h (QI z) := 
  go_ok (X := none) (blk := wX10_bid_42) (np := 69) (tt := 0) (kN := fun xs h st => app [0, 0] (apS [1, 2] (fun s0 s1 => fX10_bid_69 s0 s1 h) st) xs) (kT := fun _ _ _ => none) (kR := kRI)
    (fun xs h st q => jm [0, 0] _ (fun q => apS_ok [1, 2] _ (fun st => Ev (d + 3) none mX10_bid (0, 0) 69 [.null, .null] st h (QI z)) st (fun s0 s1 q => tX10_bid_69 s0 s1 h q) q) q)
    (fun _ _ _ q => nos q)
    kRI_ok (Or.inr rfl) (by decide +kernel) (by decide +kernel) hf
theorem kqX10_bid_39 : okC mX10_bid 39 (.invokevirtual 335) 163 175 0 1 = true := by decide +kernel
def fX10_bid_39 (v0 : Nat) (v1 : Int32) (s0 : Nat) (s1 : Nat) (h : aH) : Option (Int32 × aH) :=
  (isO h 4 s1).bind fun _ =>
  (gX4_keep s1 s0 h).bind fun r =>
  fX10_bid_42 v0 v1 r
theorem tX10_bid_39 {d : Nat} {z : Int32 × aH} (v0 : Nat) (v1 : Int32) (s0 : Nat) (s1 : Nat) (h : aH) (hf : fX10_bid_39 v0 v1 s0 s1 h = some z) : Ev (d + 3) none mX10_bid (0, 0) 39 [.ref v0, .int v1] [.ref s0, .ref s1] h (QI z) := by
  obtain ⟨_, h1, hf⟩ := bnd hf
  obtain ⟨fs, ho⟩ := isO_ok h1
  obtain ⟨r, h2, hf⟩ := bnd hf
  refine ev_V kqX10_bid_39 jX4_keep (zX4_keep (d := d + 0) h2) ho rfl rfl (Nat.le_of_ble_eq_true rfl) rfl (as := [.ref s0]) (rest := []) rfl (Nat.le_of_ble_eq_true rfl) (fun _ _ hq => ?_)
  obtain ⟨rfl, hh⟩ := hq
  rw [hh]
  exact jm [2, 1] (fun v0 v1 => fX10_bid_42 v0 v1 r) (fun v0 v1 q => tX10_bid_42 v0 v1 r q) hf
def wX10_bid_31 : List En := [(.aload_n 0, 0, 0, 0), (.getfield 47, 167, 10, 5), (.aload_n 0, 0, 0, 0), (.getfield 68, 170, 10, 8)]
def fX10_bid_31 (v0 : Nat) (v1 : Int32) (h : aH) : Option (Int32 × aH) :=
  (gFR h 10 v0 5).bind fun t1 =>
  (gFR h 10 v0 8).bind fun t2 =>
  fX10_bid_39 v0 v1 t2 t1 h
theorem tX10_bid_31 {d : Nat} {z : Int32 × aH} (v0 : Nat) (v1 : Int32) (h : aH) (hf : fX10_bid_31 v0 v1 h = some z) : Ev (d + 3) none mX10_bid (0, 0) 31 [.ref v0, .int v1] [] h (QI z) := 
  go_ok (X := none) (blk := wX10_bid_31) (np := 39) (tt := 0) (kN := fun xs h st => app [2, 1] (fun v0 v1 => apS [2, 2] (fun s0 s1 => fX10_bid_39 v0 v1 s0 s1 h) st) xs) (kT := fun _ _ _ => none) (kR := kRI)
    (fun xs h st q => jm [2, 1] _ (fun v0 v1 q => apS_ok [2, 2] _ (fun st => Ev (d + 3) none mX10_bid (0, 0) 39 [.ref v0, .int v1] st h (QI z)) st (fun s0 s1 q => tX10_bid_39 v0 v1 s0 s1 h q) q) q)
    (fun _ _ _ q => nos q)
    kRI_ok (Or.inr rfl) (by decide +kernel) (by decide +kernel) hf
def wX10_bid_30 : List En := [(.ireturn, 0, 0, 0)]
def fX10_bid_30 (s0 : Int32) (h : aH) : Option (Int32 × aH) :=
  some (s0, h)
theorem tX10_bid_30 {d : Nat} {z : Int32 × aH} (s0 : Int32) (h : aH) (hf : fX10_bid_30 s0 h = some z) : Ev (d + 3) none mX10_bid (0, 0) 30 [.null, .null] [.int s0] h (QI z) := 
  go_ok (X := none) (blk := wX10_bid_30) (np := 31) (tt := 0) (kN := fun _ _ _ => none) (kT := fun _ _ _ => none) (kR := kRI)
    (fun _ _ _ q => nos q)
    (fun _ _ _ q => nos q)
    kRI_ok (Or.inr rfl) (by decide +kernel) (by decide +kernel) hf
theorem kqX10_bid_27 : okC mX10_bid 27 (.invokevirtual 94) 15 8 0 1 = true := by decide +kernel
def fX10_bid_27 (s0 : Int32) (s1 : Nat) (h : aH) : Option (Int32 × aH) :=
  (isO h 10 s1).bind fun _ =>
  (gX10_refuse s1 s0 h).bind fun r =>
  fX10_bid_30 r.1 r.2
theorem tX10_bid_27 {d : Nat} {z : Int32 × aH} (s0 : Int32) (s1 : Nat) (h : aH) (hf : fX10_bid_27 s0 s1 h = some z) : Ev (d + 3) none mX10_bid (0, 0) 27 [.null, .null] [.int s0, .ref s1] h (QI z) := by
  obtain ⟨_, h1, hf⟩ := bnd hf
  obtain ⟨fs, ho⟩ := isO_ok h1
  obtain ⟨r, h2, hf⟩ := bnd hf
  refine ev_V kqX10_bid_27 jX10_refuse (zX10_refuse (d := d + 2) h2) ho rfl rfl (Nat.le_of_ble_eq_true rfl) rfl (as := [.int s0]) (rest := []) rfl (Nat.le_of_ble_eq_true rfl) (fun _ _ hq => ?_)
  obtain ⟨rfl, rfl⟩ := hq
  exact jm [0, 0] (fX10_bid_30 r.1 r.2) (fun q => tX10_bid_30 r.1 r.2 q) hf
def wX10_bid_25 : List En := [(.aload_n 0, 0, 0, 0), (.iconst 5, 0, 0, 0)]
def fX10_bid_25 (v0 : Nat) (h : aH) : Option (Int32 × aH) :=
  fX10_bid_27 (kI 5) v0 h
theorem tX10_bid_25 {d : Nat} {z : Int32 × aH} (v0 : Nat) (h : aH) (hf : fX10_bid_25 v0 h = some z) : Ev (d + 3) none mX10_bid (0, 0) 25 [.ref v0, .null] [] h (QI z) := 
  go_ok (X := none) (blk := wX10_bid_25) (np := 27) (tt := 0) (kN := fun xs h st => app [0, 0] (apS [1, 2] (fun s0 s1 => fX10_bid_27 s0 s1 h) st) xs) (kT := fun _ _ _ => none) (kR := kRI)
    (fun xs h st q => jm [0, 0] _ (fun q => apS_ok [1, 2] _ (fun st => Ev (d + 3) none mX10_bid (0, 0) 27 [.null, .null] st h (QI z)) st (fun s0 s1 q => tX10_bid_27 s0 s1 h q) q) q)
    (fun _ _ _ q => nos q)
    kRI_ok (Or.inr rfl) (by decide +kernel) (by decide +kernel) hf
def wX10_bid_22 : List En := [(.ifCond .eq 9, 31, 0, 0)]
def fX10_bid_22 (v0 : Nat) (v1 : Int32) (s0 : Int32) (h : aH) : Option (Int32 × aH) :=
  if s0 = 0 then fX10_bid_31 v0 v1 h else fX10_bid_25 v0 h
theorem tX10_bid_22 {d : Nat} {z : Int32 × aH} (v0 : Nat) (v1 : Int32) (s0 : Int32) (h : aH) (hf : fX10_bid_22 v0 v1 s0 h = some z) : Ev (d + 3) none mX10_bid (0, 0) 22 [.ref v0, .int v1] [.int s0] h (QI z) := 
  go_ok (X := none) (blk := wX10_bid_22) (np := 25) (tt := 31) (kN := fun xs h st => app [2, 0] (fun v0 => apS [] (fX10_bid_25 v0 h) st) xs) (kT := fun xs h st => app [2, 1] (fun v0 v1 => apS [] (fX10_bid_31 v0 v1 h) st) xs) (kR := kRI)
    (fun xs h st q => jm [2, 0] _ (fun v0 q => apS_ok [] _ (fun st => Ev (d + 3) none mX10_bid (0, 0) 25 [.ref v0, .null] st h (QI z)) st (fun q => tX10_bid_25 v0 h q) q) q)
    (fun xs h st q => jm [2, 1] _ (fun v0 v1 q => apS_ok [] _ (fun st => Ev (d + 3) none mX10_bid (0, 0) 31 [.ref v0, .int v1] st h (QI z)) st (fun q => tX10_bid_31 v0 v1 h q) q) q)
    kRI_ok (Or.inr rfl) (by decide +kernel) (by decide +kernel) hf
theorem kqX10_bid_19 : okC mX10_bid 19 (.invokevirtual 166) 70 54 0 1 = true := by decide +kernel
def fX10_bid_19 (v0 : Nat) (v1 : Int32) (s0 : Int32) (s1 : Nat) (h : aH) : Option (Int32 × aH) :=
  (isO h 7 s1).bind fun _ =>
  (gX7_isDead s1 s0 h).bind fun r =>
  fX10_bid_22 v0 v1 r.1 r.2
theorem tX10_bid_19 {d : Nat} {z : Int32 × aH} (v0 : Nat) (v1 : Int32) (s0 : Int32) (s1 : Nat) (h : aH) (hf : fX10_bid_19 v0 v1 s0 s1 h = some z) : Ev (d + 3) none mX10_bid (0, 0) 19 [.ref v0, .int v1] [.int s0, .ref s1] h (QI z) := by
  obtain ⟨_, h1, hf⟩ := bnd hf
  obtain ⟨fs, ho⟩ := isO_ok h1
  obtain ⟨r, h2, hf⟩ := bnd hf
  refine ev_V kqX10_bid_19 jX7_isDead (zX7_isDead (d := d + 2) h2) ho rfl rfl (Nat.le_of_ble_eq_true rfl) rfl (as := [.int s0]) (rest := []) rfl (Nat.le_of_ble_eq_true rfl) (fun _ _ hq => ?_)
  obtain ⟨-, rfl, rfl⟩ := hq
  exact jm [2, 1] (fun v0 v1 => fX10_bid_22 v0 v1 r.1 r.2) (fun v0 v1 q => tX10_bid_22 v0 v1 r.1 r.2 q) hf
def wX10_bid_14 : List En := [(.aload_n 0, 0, 0, 0), (.getfield 68, 170, 10, 8), (.iload_n 1, 0, 0, 0)]
def fX10_bid_14 (v0 : Nat) (v1 : Int32) (h : aH) : Option (Int32 × aH) :=
  (gFR h 10 v0 8).bind fun t1 =>
  fX10_bid_19 v0 v1 v1 t1 h
theorem tX10_bid_14 {d : Nat} {z : Int32 × aH} (v0 : Nat) (v1 : Int32) (h : aH) (hf : fX10_bid_14 v0 v1 h = some z) : Ev (d + 3) none mX10_bid (0, 0) 14 [.ref v0, .int v1] [] h (QI z) := 
  go_ok (X := none) (blk := wX10_bid_14) (np := 19) (tt := 0) (kN := fun xs h st => app [2, 1] (fun v0 v1 => apS [1, 2] (fun s0 s1 => fX10_bid_19 v0 v1 s0 s1 h) st) xs) (kT := fun _ _ _ => none) (kR := kRI)
    (fun xs h st q => jm [2, 1] _ (fun v0 v1 q => apS_ok [1, 2] _ (fun st => Ev (d + 3) none mX10_bid (0, 0) 19 [.ref v0, .int v1] st h (QI z)) st (fun s0 s1 q => tX10_bid_19 v0 v1 s0 s1 h q) q) q)
    (fun _ _ _ q => nos q)
    kRI_ok (Or.inr rfl) (by decide +kernel) (by decide +kernel) hf
def wX10_bid_13 : List En := [(.ireturn, 0, 0, 0)]
def fX10_bid_13 (s0 : Int32) (h : aH) : Option (Int32 × aH) :=
  some (s0, h)
theorem tX10_bid_13 {d : Nat} {z : Int32 × aH} (s0 : Int32) (h : aH) (hf : fX10_bid_13 s0 h = some z) : Ev (d + 3) none mX10_bid (0, 0) 13 [.null, .null] [.int s0] h (QI z) := 
  go_ok (X := none) (blk := wX10_bid_13) (np := 14) (tt := 0) (kN := fun _ _ _ => none) (kT := fun _ _ _ => none) (kR := kRI)
    (fun _ _ _ q => nos q)
    (fun _ _ _ q => nos q)
    kRI_ok (Or.inr rfl) (by decide +kernel) (by decide +kernel) hf
theorem kqX10_bid_10 : okC mX10_bid 10 (.invokevirtual 94) 15 8 0 1 = true := by decide +kernel
def fX10_bid_10 (s0 : Int32) (s1 : Nat) (h : aH) : Option (Int32 × aH) :=
  (isO h 10 s1).bind fun _ =>
  (gX10_refuse s1 s0 h).bind fun r =>
  fX10_bid_13 r.1 r.2
theorem tX10_bid_10 {d : Nat} {z : Int32 × aH} (s0 : Int32) (s1 : Nat) (h : aH) (hf : fX10_bid_10 s0 s1 h = some z) : Ev (d + 3) none mX10_bid (0, 0) 10 [.null, .null] [.int s0, .ref s1] h (QI z) := by
  obtain ⟨_, h1, hf⟩ := bnd hf
  obtain ⟨fs, ho⟩ := isO_ok h1
  obtain ⟨r, h2, hf⟩ := bnd hf
  refine ev_V kqX10_bid_10 jX10_refuse (zX10_refuse (d := d + 2) h2) ho rfl rfl (Nat.le_of_ble_eq_true rfl) rfl (as := [.int s0]) (rest := []) rfl (Nat.le_of_ble_eq_true rfl) (fun _ _ hq => ?_)
  obtain ⟨rfl, rfl⟩ := hq
  exact jm [0, 0] (fX10_bid_13 r.1 r.2) (fun q => tX10_bid_13 r.1 r.2 q) hf
def wX10_bid_8 : List En := [(.aload_n 0, 0, 0, 0), (.iconst 1, 0, 0, 0)]
def fX10_bid_8 (v0 : Nat) (h : aH) : Option (Int32 × aH) :=
  fX10_bid_10 (kI 1) v0 h
theorem tX10_bid_8 {d : Nat} {z : Int32 × aH} (v0 : Nat) (h : aH) (hf : fX10_bid_8 v0 h = some z) : Ev (d + 3) none mX10_bid (0, 0) 8 [.ref v0, .null] [] h (QI z) := 
  go_ok (X := none) (blk := wX10_bid_8) (np := 10) (tt := 0) (kN := fun xs h st => app [0, 0] (apS [1, 2] (fun s0 s1 => fX10_bid_10 s0 s1 h) st) xs) (kT := fun _ _ _ => none) (kR := kRI)
    (fun xs h st q => jm [0, 0] _ (fun q => apS_ok [1, 2] _ (fun st => Ev (d + 3) none mX10_bid (0, 0) 10 [.null, .null] st h (QI z)) st (fun s0 s1 q => tX10_bid_10 s0 s1 h q) q) q)
    (fun _ _ _ q => nos q)
    kRI_ok (Or.inr rfl) (by decide +kernel) (by decide +kernel) hf
def wX10_bid_5 : List En := [(.ifCond .eq 9, 14, 0, 0)]
def fX10_bid_5 (v0 : Nat) (v1 : Int32) (s0 : Int32) (h : aH) : Option (Int32 × aH) :=
  if s0 = 0 then fX10_bid_14 v0 v1 h else fX10_bid_8 v0 h
theorem tX10_bid_5 {d : Nat} {z : Int32 × aH} (v0 : Nat) (v1 : Int32) (s0 : Int32) (h : aH) (hf : fX10_bid_5 v0 v1 s0 h = some z) : Ev (d + 3) none mX10_bid (0, 0) 5 [.ref v0, .int v1] [.int s0] h (QI z) := 
  go_ok (X := none) (blk := wX10_bid_5) (np := 8) (tt := 14) (kN := fun xs h st => app [2, 0] (fun v0 => apS [] (fX10_bid_8 v0 h) st) xs) (kT := fun xs h st => app [2, 1] (fun v0 v1 => apS [] (fX10_bid_14 v0 v1 h) st) xs) (kR := kRI)
    (fun xs h st q => jm [2, 0] _ (fun v0 q => apS_ok [] _ (fun st => Ev (d + 3) none mX10_bid (0, 0) 8 [.ref v0, .null] st h (QI z)) st (fun q => tX10_bid_8 v0 h q) q) q)
    (fun xs h st q => jm [2, 1] _ (fun v0 v1 q => apS_ok [] _ (fun st => Ev (d + 3) none mX10_bid (0, 0) 14 [.ref v0, .int v1] st h (QI z)) st (fun q => tX10_bid_14 v0 v1 h q) q) q)
    kRI_ok (Or.inr rfl) (by decide +kernel) (by decide +kernel) hf
theorem kqX10_bid_2 : okC mX10_bid 2 (.invokevirtual 128) 64 48 0 1 = true := by decide +kernel
def fX10_bid_2 (v0 : Nat) (v1 : Int32) (s0 : Int32) (s1 : Nat) (h : aH) : Option (Int32 × aH) :=
  (isO h 10 s1).bind fun _ =>
  (gX10_lacksPerson s1 s0 h).bind fun r =>
  fX10_bid_5 v0 v1 r.1 r.2
theorem tX10_bid_2 {d : Nat} {z : Int32 × aH} (v0 : Nat) (v1 : Int32) (s0 : Int32) (s1 : Nat) (h : aH) (hf : fX10_bid_2 v0 v1 s0 s1 h = some z) : Ev (d + 3) none mX10_bid (0, 0) 2 [.ref v0, .int v1] [.int s0, .ref s1] h (QI z) := by
  obtain ⟨_, h1, hf⟩ := bnd hf
  obtain ⟨fs, ho⟩ := isO_ok h1
  obtain ⟨r, h2, hf⟩ := bnd hf
  refine ev_V kqX10_bid_2 jX10_lacksPerson (zX10_lacksPerson (d := d + 2) h2) ho rfl rfl (Nat.le_of_ble_eq_true rfl) rfl (as := [.int s0]) (rest := []) rfl (Nat.le_of_ble_eq_true rfl) (fun _ _ hq => ?_)
  obtain ⟨-, rfl, rfl⟩ := hq
  exact jm [2, 1] (fun v0 v1 => fX10_bid_5 v0 v1 r.1 r.2) (fun v0 v1 q => tX10_bid_5 v0 v1 r.1 r.2 q) hf
def wX10_bid_0 : List En := [(.aload_n 0, 0, 0, 0), (.iload_n 1, 0, 0, 0)]
def fX10_bid_0 (v0 : Nat) (v1 : Int32) (h : aH) : Option (Int32 × aH) :=
  fX10_bid_2 v0 v1 v1 v0 h
theorem tX10_bid_0 {d : Nat} {z : Int32 × aH} (v0 : Nat) (v1 : Int32) (h : aH) (hf : fX10_bid_0 v0 v1 h = some z) : Ev (d + 3) none mX10_bid (0, 0) 0 [.ref v0, .int v1] [] h (QI z) := 
  go_ok (X := none) (blk := wX10_bid_0) (np := 2) (tt := 0) (kN := fun xs h st => app [2, 1] (fun v0 v1 => apS [1, 2] (fun s0 s1 => fX10_bid_2 v0 v1 s0 s1 h) st) xs) (kT := fun _ _ _ => none) (kR := kRI)
    (fun xs h st q => jm [2, 1] _ (fun v0 v1 q => apS_ok [1, 2] _ (fun st => Ev (d + 3) none mX10_bid (0, 0) 2 [.ref v0, .int v1] st h (QI z)) st (fun s0 s1 q => tX10_bid_2 v0 v1 s0 s1 h q) q) q)
    (fun _ _ _ q => nos q)
    kRI_ok (Or.inr rfl) (by decide +kernel) (by decide +kernel) hf
def gX10_bid (v0 : Nat) (v1 : Int32) (h : aH) : Option (Int32 × aH) := fX10_bid_0 v0 v1 h
theorem zX10_bid {d : Nat} {z : Int32 × aH} {v0 : Nat} {v1 : Int32} {h : aH} (q : gX10_bid v0 v1 h = some z) : CT (d + 3) mX10_bid (0, 0) [.ref v0, .int v1] h (QI z) :=
  ct_ev (by decide +kernel) (Nat.le_of_ble_eq_true rfl) QI_r (jm [2, 1] (fun v0 v1 => fX10_bid_0 v0 v1 h) (fun v0 v1 q => tX10_bid_0 v0 v1 h q) q)
def wX10_give_46 : List En := [(.ireturn, 0, 0, 0)]
def fX10_give_46 (s0 : Int32) (h : aH) : Option (Int32 × aH) :=
  some (s0, h)
theorem tX10_give_46 {d : Nat} {z : Int32 × aH} (s0 : Int32) (h : aH) (hf : fX10_give_46 s0 h = some z) : Ev (d + 3) none mX10_give (0, 0) 46 [.null, .null, .null] [.int s0] h (QI z) := 
  go_ok (X := none) (blk := wX10_give_46) (np := 47) (tt := 0) (kN := fun _ _ _ => none) (kT := fun _ _ _ => none) (kR := kRI)
    (fun _ _ _ q => nos q)
    (fun _ _ _ q => nos q)
    kRI_ok (Or.inr rfl) (by decide +kernel) (by decide +kernel) hf
theorem kqX10_give_43 : okC mX10_give 43 (.invokevirtual 94) 15 8 0 1 = true := by decide +kernel
def fX10_give_43 (s0 : Int32) (s1 : Nat) (h : aH) : Option (Int32 × aH) :=
  (isO h 10 s1).bind fun _ =>
  (gX10_refuse s1 s0 h).bind fun r =>
  fX10_give_46 r.1 r.2
theorem tX10_give_43 {d : Nat} {z : Int32 × aH} (s0 : Int32) (s1 : Nat) (h : aH) (hf : fX10_give_43 s0 s1 h = some z) : Ev (d + 3) none mX10_give (0, 0) 43 [.null, .null, .null] [.int s0, .ref s1] h (QI z) := by
  obtain ⟨_, h1, hf⟩ := bnd hf
  obtain ⟨fs, ho⟩ := isO_ok h1
  obtain ⟨r, h2, hf⟩ := bnd hf
  refine ev_V kqX10_give_43 jX10_refuse (zX10_refuse (d := d + 2) h2) ho rfl rfl (Nat.le_of_ble_eq_true rfl) rfl (as := [.int s0]) (rest := []) rfl (Nat.le_of_ble_eq_true rfl) (fun _ _ hq => ?_)
  obtain ⟨rfl, rfl⟩ := hq
  exact jm [0, 0, 0] (fX10_give_46 r.1 r.2) (fun q => tX10_give_46 r.1 r.2 q) hf
def wX10_give_41 : List En := [(.aload_n 0, 0, 0, 0), (.iconst 5, 0, 0, 0)]
def fX10_give_41 (v0 : Nat) (h : aH) : Option (Int32 × aH) :=
  fX10_give_43 (kI 5) v0 h
theorem tX10_give_41 {d : Nat} {z : Int32 × aH} (v0 : Nat) (h : aH) (hf : fX10_give_41 v0 h = some z) : Ev (d + 3) none mX10_give (0, 0) 41 [.ref v0, .null, .null] [] h (QI z) := 
  go_ok (X := none) (blk := wX10_give_41) (np := 43) (tt := 0) (kN := fun xs h st => app [0, 0, 0] (apS [1, 2] (fun s0 s1 => fX10_give_43 s0 s1 h) st) xs) (kT := fun _ _ _ => none) (kR := kRI)
    (fun xs h st q => jm [0, 0, 0] _ (fun q => apS_ok [1, 2] _ (fun st => Ev (d + 3) none mX10_give (0, 0) 43 [.null, .null, .null] st h (QI z)) st (fun s0 s1 q => tX10_give_43 s0 s1 h q) q) q)
    (fun _ _ _ q => nos q)
    kRI_ok (Or.inr rfl) (by decide +kernel) (by decide +kernel) hf
def wX10_give_95 : List En := [(.ireturn, 0, 0, 0)]
def fX10_give_95 (s0 : Int32) (h : aH) : Option (Int32 × aH) :=
  some (s0, h)
theorem tX10_give_95 {d : Nat} {z : Int32 × aH} (s0 : Int32) (h : aH) (hf : fX10_give_95 s0 h = some z) : Ev (d + 3) none mX10_give (0, 0) 95 [.null, .null, .null] [.int s0] h (QI z) := 
  go_ok (X := none) (blk := wX10_give_95) (np := 96) (tt := 0) (kN := fun _ _ _ => none) (kT := fun _ _ _ => none) (kR := kRI)
    (fun _ _ _ q => nos q)
    (fun _ _ _ q => nos q)
    kRI_ok (Or.inr rfl) (by decide +kernel) (by decide +kernel) hf
theorem kqX10_give_92 : okC mX10_give 92 (.invokevirtual 119) 60 44 0 1 = true := by decide +kernel
def fX10_give_92 (s0 : Int32) (s1 : Nat) (h : aH) : Option (Int32 × aH) :=
  (isO h 10 s1).bind fun _ =>
  (gX10_answer s1 s0 h).bind fun r =>
  fX10_give_95 r.1 r.2
theorem tX10_give_92 {d : Nat} {z : Int32 × aH} (s0 : Int32) (s1 : Nat) (h : aH) (hf : fX10_give_92 s0 s1 h = some z) : Ev (d + 3) none mX10_give (0, 0) 92 [.null, .null, .null] [.int s0, .ref s1] h (QI z) := by
  obtain ⟨_, h1, hf⟩ := bnd hf
  obtain ⟨fs, ho⟩ := isO_ok h1
  obtain ⟨r, h2, hf⟩ := bnd hf
  refine ev_V kqX10_give_92 jX10_answer (zX10_answer (d := d + 2) h2) ho rfl rfl (Nat.le_of_ble_eq_true rfl) rfl (as := [.int s0]) (rest := []) rfl (Nat.le_of_ble_eq_true rfl) (fun _ _ hq => ?_)
  obtain ⟨rfl, rfl⟩ := hq
  exact jm [0, 0, 0] (fX10_give_95 r.1 r.2) (fun q => tX10_give_95 r.1 r.2 q) hf
def wX10_give_81 : List En := [(.iastore, 0, 0, 0), (.aload_n 0, 0, 0, 0), (.aload_n 0, 0, 0, 0), (.getfield 68, 170, 10, 8), (.getfield 131, 20, 7, 0), (.iload_n 1, 0, 0, 0), (.iaload, 0, 0, 0)]
def fX10_give_81 (v0 : Nat) (v1 : Int32) (s0 : Int32) (s1 : Int32) (s2 : Nat) (h : aH) : Option (Int32 × aH) :=
  (aWI h s2 s1 s0).bind fun h1 =>
  (gFR h1 10 v0 8).bind fun t2 =>
  (gFR h1 7 t2 0).bind fun t3 =>
  (aRI (h1[t3]?) v1).bind fun t4 =>
  fX10_give_92 t4 v0 h1
theorem tX10_give_81 {d : Nat} {z : Int32 × aH} (v0 : Nat) (v1 : Int32) (s0 : Int32) (s1 : Int32) (s2 : Nat) (h : aH) (hf : fX10_give_81 v0 v1 s0 s1 s2 h = some z) : Ev (d + 3) none mX10_give (0, 0) 81 [.ref v0, .int v1, .null] [.int s0, .int s1, .ref s2] h (QI z) := 
  go_ok (X := none) (blk := wX10_give_81) (np := 92) (tt := 0) (kN := fun xs h st => app [0, 0, 0] (apS [1, 2] (fun s0 s1 => fX10_give_92 s0 s1 h) st) xs) (kT := fun _ _ _ => none) (kR := kRI)
    (fun xs h st q => jm [0, 0, 0] _ (fun q => apS_ok [1, 2] _ (fun st => Ev (d + 3) none mX10_give (0, 0) 92 [.null, .null, .null] st h (QI z)) st (fun s0 s1 q => tX10_give_92 s0 s1 h q) q) q)
    (fun _ _ _ q => nos q)
    kRI_ok (Or.inr rfl) (by decide +kernel) (by decide +kernel) hf
theorem kqX10_give_78 : ckP mX10_give 78 342 1 20 = true := by decide +kernel
def fX10_give_78 (v0 : Nat) (v1 : Int32) (s0 : Int32) (s1 : Int32) (s2 : Int32) (s3 : Nat) (h : aH) : Option (Int32 × aH) :=
  fX10_give_81 v0 v1 (if s1 < s0 then s0 else s1) s2 s3 h
theorem tX10_give_78 {d : Nat} {z : Int32 × aH} (v0 : Nat) (v1 : Int32) (s0 : Int32) (s1 : Int32) (s2 : Int32) (s3 : Nat) (h : aH) (hf : fX10_give_78 v0 v1 s0 s1 s2 s3 h = some z) : Ev (d + 3) none mX10_give (0, 0) 78 [.ref v0, .int v1, .null] [.int s0, .int s1, .int s2, .ref s3] h (QI z) := 
  ev_mx kqX10_give_78 rfl (Nat.le_of_ble_eq_true rfl) (jm [2, 1, 0] (fun v0 v1 => fX10_give_81 v0 v1 (if s1 < s0 then s0 else s1) s2 s3 h) (fun v0 v1 q => tX10_give_81 v0 v1 (if s1 < s0 then s0 else s1) s2 s3 h q) hf)
def wX10_give_58 : List En := [(.aload_n 0, 0, 0, 0), (.getfield 68, 170, 10, 8), (.getfield 131, 20, 7, 0), (.iload_n 1, 0, 0, 0), (.iconst 0, 0, 0, 0), (.aload_n 0, 0, 0, 0), (.getfield 68, 170, 10, 8), (.getfield 131, 20, 7, 0), (.iload_n 1, 0, 0, 0), (.iaload, 0, 0, 0), (.iload_n 2, 0, 0, 0), (.isub, 0, 0, 0)]
def fX10_give_58 (v0 : Nat) (v1 : Int32) (v2 : Int32) (h : aH) : Option (Int32 × aH) :=
  (gFR h 10 v0 8).bind fun t1 =>
  (gFR h 7 t1 0).bind fun t2 =>
  (gFR h 10 v0 8).bind fun t3 =>
  (gFR h 7 t3 0).bind fun t4 =>
  (aRI (h[t4]?) v1).bind fun t5 =>
  fX10_give_78 v0 v1 (t5 - v2) (kI 0) v1 t2 h
theorem tX10_give_58 {d : Nat} {z : Int32 × aH} (v0 : Nat) (v1 : Int32) (v2 : Int32) (h : aH) (hf : fX10_give_58 v0 v1 v2 h = some z) : Ev (d + 3) none mX10_give (0, 0) 58 [.ref v0, .int v1, .int v2] [] h (QI z) := 
  go_ok (X := none) (blk := wX10_give_58) (np := 78) (tt := 0) (kN := fun xs h st => app [2, 1, 0] (fun v0 v1 => apS [1, 1, 1, 2] (fun s0 s1 s2 s3 => fX10_give_78 v0 v1 s0 s1 s2 s3 h) st) xs) (kT := fun _ _ _ => none) (kR := kRI)
    (fun xs h st q => jm [2, 1, 0] _ (fun v0 v1 q => apS_ok [1, 1, 1, 2] _ (fun st => Ev (d + 3) none mX10_give (0, 0) 78 [.ref v0, .int v1, .null] st h (QI z)) st (fun s0 s1 s2 s3 q => tX10_give_78 v0 v1 s0 s1 s2 s3 h q) q) q)
    (fun _ _ _ q => nos q)
    kRI_ok (Or.inr rfl) (by decide +kernel) (by decide +kernel) hf
theorem kqX10_give_55 : okC mX10_give 55 (.invokevirtual 335) 163 175 0 1 = true := by decide +kernel
def fX10_give_55 (v0 : Nat) (v1 : Int32) (v2 : Int32) (s0 : Nat) (s1 : Nat) (h : aH) : Option (Int32 × aH) :=
  (isO h 4 s1).bind fun _ =>
  (gX4_keep s1 s0 h).bind fun r =>
  fX10_give_58 v0 v1 v2 r
theorem tX10_give_55 {d : Nat} {z : Int32 × aH} (v0 : Nat) (v1 : Int32) (v2 : Int32) (s0 : Nat) (s1 : Nat) (h : aH) (hf : fX10_give_55 v0 v1 v2 s0 s1 h = some z) : Ev (d + 3) none mX10_give (0, 0) 55 [.ref v0, .int v1, .int v2] [.ref s0, .ref s1] h (QI z) := by
  obtain ⟨_, h1, hf⟩ := bnd hf
  obtain ⟨fs, ho⟩ := isO_ok h1
  obtain ⟨r, h2, hf⟩ := bnd hf
  refine ev_V kqX10_give_55 jX4_keep (zX4_keep (d := d + 0) h2) ho rfl rfl (Nat.le_of_ble_eq_true rfl) rfl (as := [.ref s0]) (rest := []) rfl (Nat.le_of_ble_eq_true rfl) (fun _ _ hq => ?_)
  obtain ⟨rfl, hh⟩ := hq
  rw [hh]
  exact jm [2, 1, 1] (fun v0 v1 v2 => fX10_give_58 v0 v1 v2 r) (fun v0 v1 v2 q => tX10_give_58 v0 v1 v2 r q) hf
def wX10_give_47 : List En := [(.aload_n 0, 0, 0, 0), (.getfield 47, 167, 10, 5), (.aload_n 0, 0, 0, 0), (.getfield 68, 170, 10, 8)]
def fX10_give_47 (v0 : Nat) (v1 : Int32) (v2 : Int32) (h : aH) : Option (Int32 × aH) :=
  (gFR h 10 v0 5).bind fun t1 =>
  (gFR h 10 v0 8).bind fun t2 =>
  fX10_give_55 v0 v1 v2 t2 t1 h
theorem tX10_give_47 {d : Nat} {z : Int32 × aH} (v0 : Nat) (v1 : Int32) (v2 : Int32) (h : aH) (hf : fX10_give_47 v0 v1 v2 h = some z) : Ev (d + 3) none mX10_give (0, 0) 47 [.ref v0, .int v1, .int v2] [] h (QI z) := 
  go_ok (X := none) (blk := wX10_give_47) (np := 55) (tt := 0) (kN := fun xs h st => app [2, 1, 1] (fun v0 v1 v2 => apS [2, 2] (fun s0 s1 => fX10_give_55 v0 v1 v2 s0 s1 h) st) xs) (kT := fun _ _ _ => none) (kR := kRI)
    (fun xs h st q => jm [2, 1, 1] _ (fun v0 v1 v2 q => apS_ok [2, 2] _ (fun st => Ev (d + 3) none mX10_give (0, 0) 55 [.ref v0, .int v1, .int v2] st h (QI z)) st (fun s0 s1 q => tX10_give_55 v0 v1 v2 s0 s1 h q) q) q)
    (fun _ _ _ q => nos q)
    kRI_ok (Or.inr rfl) (by decide +kernel) (by decide +kernel) hf
def wX10_give_29 : List En := [(.aload_n 0, 0, 0, 0), (.getfield 68, 170, 10, 8), (.getfield 131, 20, 7, 0), (.iload_n 1, 0, 0, 0), (.iaload, 0, 0, 0), (.ifCond .ne 9, 47, 0, 0)]
def fX10_give_29 (v0 : Nat) (v1 : Int32) (v2 : Int32) (h : aH) : Option (Int32 × aH) :=
  (gFR h 10 v0 8).bind fun t1 =>
  (gFR h 7 t1 0).bind fun t2 =>
  (aRI (h[t2]?) v1).bind fun t3 =>
  if t3 = 0 then fX10_give_41 v0 h else fX10_give_47 v0 v1 v2 h
theorem tX10_give_29 {d : Nat} {z : Int32 × aH} (v0 : Nat) (v1 : Int32) (v2 : Int32) (h : aH) (hf : fX10_give_29 v0 v1 v2 h = some z) : Ev (d + 3) none mX10_give (0, 0) 29 [.ref v0, .int v1, .int v2] [] h (QI z) := 
  go_ok (X := none) (blk := wX10_give_29) (np := 41) (tt := 47) (kN := fun xs h st => app [2, 0, 0] (fun v0 => apS [] (fX10_give_41 v0 h) st) xs) (kT := fun xs h st => app [2, 1, 1] (fun v0 v1 v2 => apS [] (fX10_give_47 v0 v1 v2 h) st) xs) (kR := kRI)
    (fun xs h st q => jm [2, 0, 0] _ (fun v0 q => apS_ok [] _ (fun st => Ev (d + 3) none mX10_give (0, 0) 41 [.ref v0, .null, .null] st h (QI z)) st (fun q => tX10_give_41 v0 h q) q) q)
    (fun xs h st q => jm [2, 1, 1] _ (fun v0 v1 v2 q => apS_ok [] _ (fun st => Ev (d + 3) none mX10_give (0, 0) 47 [.ref v0, .int v1, .int v2] st h (QI z)) st (fun q => tX10_give_47 v0 v1 v2 h q) q) q)
    kRI_ok (Or.inr rfl) (by decide +kernel) (by decide +kernel) hf
def wX10_give_26 : List En := [(.ifCond .ne 15, 41, 0, 0)]
def fX10_give_26 (v0 : Nat) (v1 : Int32) (v2 : Int32) (s0 : Int32) (h : aH) : Option (Int32 × aH) :=
  if s0 = 0 then fX10_give_29 v0 v1 v2 h else fX10_give_41 v0 h
theorem tX10_give_26 {d : Nat} {z : Int32 × aH} (v0 : Nat) (v1 : Int32) (v2 : Int32) (s0 : Int32) (h : aH) (hf : fX10_give_26 v0 v1 v2 s0 h = some z) : Ev (d + 3) none mX10_give (0, 0) 26 [.ref v0, .int v1, .int v2] [.int s0] h (QI z) := 
  go_ok (X := none) (blk := wX10_give_26) (np := 29) (tt := 41) (kN := fun xs h st => app [2, 1, 1] (fun v0 v1 v2 => apS [] (fX10_give_29 v0 v1 v2 h) st) xs) (kT := fun xs h st => app [2, 0, 0] (fun v0 => apS [] (fX10_give_41 v0 h) st) xs) (kR := kRI)
    (fun xs h st q => jm [2, 1, 1] _ (fun v0 v1 v2 q => apS_ok [] _ (fun st => Ev (d + 3) none mX10_give (0, 0) 29 [.ref v0, .int v1, .int v2] st h (QI z)) st (fun q => tX10_give_29 v0 v1 v2 h q) q) q)
    (fun xs h st q => jm [2, 0, 0] _ (fun v0 q => apS_ok [] _ (fun st => Ev (d + 3) none mX10_give (0, 0) 41 [.ref v0, .null, .null] st h (QI z)) st (fun q => tX10_give_41 v0 h q) q) q)
    kRI_ok (Or.inr rfl) (by decide +kernel) (by decide +kernel) hf
theorem kqX10_give_23 : okC mX10_give 23 (.invokevirtual 166) 70 54 0 1 = true := by decide +kernel
def fX10_give_23 (v0 : Nat) (v1 : Int32) (v2 : Int32) (s0 : Int32) (s1 : Nat) (h : aH) : Option (Int32 × aH) :=
  (isO h 7 s1).bind fun _ =>
  (gX7_isDead s1 s0 h).bind fun r =>
  fX10_give_26 v0 v1 v2 r.1 r.2
theorem tX10_give_23 {d : Nat} {z : Int32 × aH} (v0 : Nat) (v1 : Int32) (v2 : Int32) (s0 : Int32) (s1 : Nat) (h : aH) (hf : fX10_give_23 v0 v1 v2 s0 s1 h = some z) : Ev (d + 3) none mX10_give (0, 0) 23 [.ref v0, .int v1, .int v2] [.int s0, .ref s1] h (QI z) := by
  obtain ⟨_, h1, hf⟩ := bnd hf
  obtain ⟨fs, ho⟩ := isO_ok h1
  obtain ⟨r, h2, hf⟩ := bnd hf
  refine ev_V kqX10_give_23 jX7_isDead (zX7_isDead (d := d + 2) h2) ho rfl rfl (Nat.le_of_ble_eq_true rfl) rfl (as := [.int s0]) (rest := []) rfl (Nat.le_of_ble_eq_true rfl) (fun _ _ hq => ?_)
  obtain ⟨-, rfl, rfl⟩ := hq
  exact jm [2, 1, 1] (fun v0 v1 v2 => fX10_give_26 v0 v1 v2 r.1 r.2) (fun v0 v1 v2 q => tX10_give_26 v0 v1 v2 r.1 r.2 q) hf
def wX10_give_18 : List En := [(.aload_n 0, 0, 0, 0), (.getfield 68, 170, 10, 8), (.iload_n 1, 0, 0, 0)]
def fX10_give_18 (v0 : Nat) (v1 : Int32) (v2 : Int32) (h : aH) : Option (Int32 × aH) :=
  (gFR h 10 v0 8).bind fun t1 =>
  fX10_give_23 v0 v1 v2 v1 t1 h
theorem tX10_give_18 {d : Nat} {z : Int32 × aH} (v0 : Nat) (v1 : Int32) (v2 : Int32) (h : aH) (hf : fX10_give_18 v0 v1 v2 h = some z) : Ev (d + 3) none mX10_give (0, 0) 18 [.ref v0, .int v1, .int v2] [] h (QI z) := 
  go_ok (X := none) (blk := wX10_give_18) (np := 23) (tt := 0) (kN := fun xs h st => app [2, 1, 1] (fun v0 v1 v2 => apS [1, 2] (fun s0 s1 => fX10_give_23 v0 v1 v2 s0 s1 h) st) xs) (kT := fun _ _ _ => none) (kR := kRI)
    (fun xs h st q => jm [2, 1, 1] _ (fun v0 v1 v2 q => apS_ok [1, 2] _ (fun st => Ev (d + 3) none mX10_give (0, 0) 23 [.ref v0, .int v1, .int v2] st h (QI z)) st (fun s0 s1 q => tX10_give_23 v0 v1 v2 s0 s1 h q) q) q)
    (fun _ _ _ q => nos q)
    kRI_ok (Or.inr rfl) (by decide +kernel) (by decide +kernel) hf
def wX10_give_16 : List En := [(.iconst (-1), 0, 0, 0), (.ireturn, 0, 0, 0)]
def fX10_give_16 (h : aH) : Option (Int32 × aH) :=
  some ((kI (-1)), h)
theorem tX10_give_16 {d : Nat} {z : Int32 × aH} (h : aH) (hf : fX10_give_16 h = some z) : Ev (d + 3) none mX10_give (0, 0) 16 [.null, .null, .null] [] h (QI z) := 
  go_ok (X := none) (blk := wX10_give_16) (np := 18) (tt := 0) (kN := fun _ _ _ => none) (kT := fun _ _ _ => none) (kR := kRI)
    (fun _ _ _ q => nos q)
    (fun _ _ _ q => nos q)
    kRI_ok (Or.inr rfl) (by decide +kernel) (by decide +kernel) hf
def wX10_give_13 : List En := [(.ifCond .eq 5, 18, 0, 0)]
def fX10_give_13 (v0 : Nat) (v1 : Int32) (v2 : Int32) (s0 : Int32) (h : aH) : Option (Int32 × aH) :=
  if s0 = 0 then fX10_give_18 v0 v1 v2 h else fX10_give_16 h
theorem tX10_give_13 {d : Nat} {z : Int32 × aH} (v0 : Nat) (v1 : Int32) (v2 : Int32) (s0 : Int32) (h : aH) (hf : fX10_give_13 v0 v1 v2 s0 h = some z) : Ev (d + 3) none mX10_give (0, 0) 13 [.ref v0, .int v1, .int v2] [.int s0] h (QI z) := 
  go_ok (X := none) (blk := wX10_give_13) (np := 16) (tt := 18) (kN := fun xs h st => app [0, 0, 0] (apS [] (fX10_give_16 h) st) xs) (kT := fun xs h st => app [2, 1, 1] (fun v0 v1 v2 => apS [] (fX10_give_18 v0 v1 v2 h) st) xs) (kR := kRI)
    (fun xs h st q => jm [0, 0, 0] _ (fun q => apS_ok [] _ (fun st => Ev (d + 3) none mX10_give (0, 0) 16 [.null, .null, .null] st h (QI z)) st (fun q => tX10_give_16 h q) q) q)
    (fun xs h st q => jm [2, 1, 1] _ (fun v0 v1 v2 q => apS_ok [] _ (fun st => Ev (d + 3) none mX10_give (0, 0) 18 [.ref v0, .int v1, .int v2] st h (QI z)) st (fun q => tX10_give_18 v0 v1 v2 h q) q) q)
    kRI_ok (Or.inr rfl) (by decide +kernel) (by decide +kernel) hf
theorem kqX10_give_10 : okC mX10_give 10 (.invokevirtual 190) 92 87 0 4 = true := by decide +kernel
def fX10_give_10 (v0 : Nat) (v1 : Int32) (v2 : Int32) (s0 : Int32) (s1 : Int32) (s2 : Int32) (s3 : Int32) (s4 : Nat) (h : aH) : Option (Int32 × aH) :=
  (isO h 10 s4).bind fun _ =>
  (gX10_isRefused s4 s3 s2 s1 s0 h).bind fun r =>
  fX10_give_13 v0 v1 v2 r.1 r.2
theorem tX10_give_10 {d : Nat} {z : Int32 × aH} (v0 : Nat) (v1 : Int32) (v2 : Int32) (s0 : Int32) (s1 : Int32) (s2 : Int32) (s3 : Int32) (s4 : Nat) (h : aH) (hf : fX10_give_10 v0 v1 v2 s0 s1 s2 s3 s4 h = some z) : Ev (d + 3) none mX10_give (0, 0) 10 [.ref v0, .int v1, .int v2] [.int s0, .int s1, .int s2, .int s3, .ref s4] h (QI z) := by
  obtain ⟨_, h1, hf⟩ := bnd hf
  obtain ⟨fs, ho⟩ := isO_ok h1
  obtain ⟨r, h2, hf⟩ := bnd hf
  refine ev_V kqX10_give_10 jX10_isRefused (zX10_isRefused (d := d + 1) h2) ho rfl rfl (Nat.le_of_ble_eq_true rfl) rfl (as := [.int s3, .int s2, .int s1, .int s0]) (rest := []) rfl (Nat.le_of_ble_eq_true rfl) (fun _ _ hq => ?_)
  obtain ⟨-, rfl, rfl⟩ := hq
  exact jm [2, 1, 1] (fun v0 v1 v2 => fX10_give_13 v0 v1 v2 r.1 r.2) (fun v0 v1 v2 q => tX10_give_13 v0 v1 v2 r.1 r.2 q) hf
def wX10_give_6 : List En := [(.iload_n 2, 0, 0, 0), (.iconst 1, 0, 0, 0), (.bipush 99, 0, 0, 0)]
def fX10_give_6 (v0 : Nat) (v1 : Int32) (v2 : Int32) (s0 : Int32) (s1 : Nat) (h : aH) : Option (Int32 × aH) :=
  fX10_give_10 v0 v1 v2 (kB 99) (kI 1) v2 s0 s1 h
theorem tX10_give_6 {d : Nat} {z : Int32 × aH} (v0 : Nat) (v1 : Int32) (v2 : Int32) (s0 : Int32) (s1 : Nat) (h : aH) (hf : fX10_give_6 v0 v1 v2 s0 s1 h = some z) : Ev (d + 3) none mX10_give (0, 0) 6 [.ref v0, .int v1, .int v2] [.int s0, .ref s1] h (QI z) := 
  go_ok (X := none) (blk := wX10_give_6) (np := 10) (tt := 0) (kN := fun xs h st => app [2, 1, 1] (fun v0 v1 v2 => apS [1, 1, 1, 1, 2] (fun s0 s1 s2 s3 s4 => fX10_give_10 v0 v1 v2 s0 s1 s2 s3 s4 h) st) xs) (kT := fun _ _ _ => none) (kR := kRI)
    (fun xs h st q => jm [2, 1, 1] _ (fun v0 v1 v2 q => apS_ok [1, 1, 1, 1, 2] _ (fun st => Ev (d + 3) none mX10_give (0, 0) 10 [.ref v0, .int v1, .int v2] st h (QI z)) st (fun s0 s1 s2 s3 s4 q => tX10_give_10 v0 v1 v2 s0 s1 s2 s3 s4 h q) q) q)
    (fun _ _ _ q => nos q)
    kRI_ok (Or.inr rfl) (by decide +kernel) (by decide +kernel) hf
theorem kqX10_give_3 : okC mX10_give 3 (.invokevirtual 128) 64 48 0 1 = true := by decide +kernel
def fX10_give_3 (v0 : Nat) (v1 : Int32) (v2 : Int32) (s0 : Int32) (s1 : Nat) (s2 : Nat) (h : aH) : Option (Int32 × aH) :=
  (isO h 10 s1).bind fun _ =>
  (gX10_lacksPerson s1 s0 h).bind fun r =>
  fX10_give_6 v0 v1 v2 r.1 s2 r.2
theorem tX10_give_3 {d : Nat} {z : Int32 × aH} (v0 : Nat) (v1 : Int32) (v2 : Int32) (s0 : Int32) (s1 : Nat) (s2 : Nat) (h : aH) (hf : fX10_give_3 v0 v1 v2 s0 s1 s2 h = some z) : Ev (d + 3) none mX10_give (0, 0) 3 [.ref v0, .int v1, .int v2] [.int s0, .ref s1, .ref s2] h (QI z) := by
  obtain ⟨_, h1, hf⟩ := bnd hf
  obtain ⟨fs, ho⟩ := isO_ok h1
  obtain ⟨r, h2, hf⟩ := bnd hf
  refine ev_V kqX10_give_3 jX10_lacksPerson (zX10_lacksPerson (d := d + 2) h2) ho rfl rfl (Nat.le_of_ble_eq_true rfl) rfl (as := [.int s0]) (rest := [.ref s2]) rfl (Nat.le_of_ble_eq_true rfl) (fun _ _ hq => ?_)
  obtain ⟨-, rfl, rfl⟩ := hq
  exact jm [2, 1, 1] (fun v0 v1 v2 => fX10_give_6 v0 v1 v2 r.1 s2 r.2) (fun v0 v1 v2 q => tX10_give_6 v0 v1 v2 r.1 s2 r.2 q) hf
def wX10_give_0 : List En := [(.aload_n 0, 0, 0, 0), (.aload_n 0, 0, 0, 0), (.iload_n 1, 0, 0, 0)]
def fX10_give_0 (v0 : Nat) (v1 : Int32) (v2 : Int32) (h : aH) : Option (Int32 × aH) :=
  fX10_give_3 v0 v1 v2 v1 v0 v0 h
theorem tX10_give_0 {d : Nat} {z : Int32 × aH} (v0 : Nat) (v1 : Int32) (v2 : Int32) (h : aH) (hf : fX10_give_0 v0 v1 v2 h = some z) : Ev (d + 3) none mX10_give (0, 0) 0 [.ref v0, .int v1, .int v2] [] h (QI z) := 
  go_ok (X := none) (blk := wX10_give_0) (np := 3) (tt := 0) (kN := fun xs h st => app [2, 1, 1] (fun v0 v1 v2 => apS [1, 2, 2] (fun s0 s1 s2 => fX10_give_3 v0 v1 v2 s0 s1 s2 h) st) xs) (kT := fun _ _ _ => none) (kR := kRI)
    (fun xs h st q => jm [2, 1, 1] _ (fun v0 v1 v2 q => apS_ok [1, 2, 2] _ (fun st => Ev (d + 3) none mX10_give (0, 0) 3 [.ref v0, .int v1, .int v2] st h (QI z)) st (fun s0 s1 s2 q => tX10_give_3 v0 v1 v2 s0 s1 s2 h q) q) q)
    (fun _ _ _ q => nos q)
    kRI_ok (Or.inr rfl) (by decide +kernel) (by decide +kernel) hf
def gX10_give (v0 : Nat) (v1 : Int32) (v2 : Int32) (h : aH) : Option (Int32 × aH) := fX10_give_0 v0 v1 v2 h
theorem zX10_give {d : Nat} {z : Int32 × aH} {v0 : Nat} {v1 : Int32} {v2 : Int32} {h : aH} (q : gX10_give v0 v1 v2 h = some z) : CT (d + 3) mX10_give (0, 0) [.ref v0, .int v1, .int v2] h (QI z) :=
  ct_ev (by decide +kernel) (Nat.le_of_ble_eq_true rfl) QI_r (jm [2, 1, 1] (fun v0 v1 v2 => fX10_give_0 v0 v1 v2 h) (fun v0 v1 v2 q => tX10_give_0 v0 v1 v2 h q) q)
def wX10_pour_72 : List En := [(.ireturn, 0, 0, 0)]
def fX10_pour_72 (s0 : Int32) (h : aH) : Option (Int32 × aH) :=
  some (s0, h)
theorem tX10_pour_72 {d : Nat} {z : Int32 × aH} (s0 : Int32) (h : aH) (hf : fX10_pour_72 s0 h = some z) : Ev (d + 3) none mX10_pour (0, 0) 72 [.null, .null] [.int s0] h (QI z) := 
  go_ok (X := none) (blk := wX10_pour_72) (np := 73) (tt := 0) (kN := fun _ _ _ => none) (kT := fun _ _ _ => none) (kR := kRI)
    (fun _ _ _ q => nos q)
    (fun _ _ _ q => nos q)
    kRI_ok (Or.inr rfl) (by decide +kernel) (by decide +kernel) hf
theorem kqX10_pour_69 : okC mX10_pour 69 (.invokevirtual 119) 60 44 0 1 = true := by decide +kernel
def fX10_pour_69 (s0 : Int32) (s1 : Nat) (h : aH) : Option (Int32 × aH) :=
  (isO h 10 s1).bind fun _ =>
  (gX10_answer s1 s0 h).bind fun r =>
  fX10_pour_72 r.1 r.2
theorem tX10_pour_69 {d : Nat} {z : Int32 × aH} (s0 : Int32) (s1 : Nat) (h : aH) (hf : fX10_pour_69 s0 s1 h = some z) : Ev (d + 3) none mX10_pour (0, 0) 69 [.null, .null] [.int s0, .ref s1] h (QI z) := by
  obtain ⟨_, h1, hf⟩ := bnd hf
  obtain ⟨fs, ho⟩ := isO_ok h1
  obtain ⟨r, h2, hf⟩ := bnd hf
  refine ev_V kqX10_pour_69 jX10_answer (zX10_answer (d := d + 2) h2) ho rfl rfl (Nat.le_of_ble_eq_true rfl) rfl (as := [.int s0]) (rest := []) rfl (Nat.le_of_ble_eq_true rfl) (fun _ _ hq => ?_)
  obtain ⟨rfl, rfl⟩ := hq
  exact jm [0, 0] (fX10_pour_72 r.1 r.2) (fun q => tX10_pour_72 r.1 r.2 q) hf
def wX10_pour_48 : List En := [(.aload_n 0, 0, 0, 0), (.getfield 68, 170, 10, 8), (.dup, 0, 0, 0), (.getfield 163, 33, 7, 5), (.iload_n 1, 0, 0, 0), (.iadd, 0, 0, 0), (.putfield 163, 33, 7, 5), (.aload_n 0, 0, 0, 0), (.aload_n 0, 0, 0, 0), (.getfield 68, 170, 10, 8), (.getfield 163, 33, 7, 5)]
def fX10_pour_48 (v0 : Nat) (v1 : Int32) (h : aH) : Option (Int32 × aH) :=
  (gFR h 10 v0 8).bind fun t1 =>
  (gFI h 7 t1 5).bind fun t2 =>
  (pWV h 7 t1 5 (.int (t2 + v1))).bind fun h3 =>
  (gFR h3 10 v0 8).bind fun t4 =>
  (gFI h3 7 t4 5).bind fun t5 =>
  fX10_pour_69 t5 v0 h3
theorem tX10_pour_48 {d : Nat} {z : Int32 × aH} (v0 : Nat) (v1 : Int32) (h : aH) (hf : fX10_pour_48 v0 v1 h = some z) : Ev (d + 3) none mX10_pour (0, 0) 48 [.ref v0, .int v1] [] h (QI z) := 
  go_ok (X := none) (blk := wX10_pour_48) (np := 69) (tt := 0) (kN := fun xs h st => app [0, 0] (apS [1, 2] (fun s0 s1 => fX10_pour_69 s0 s1 h) st) xs) (kT := fun _ _ _ => none) (kR := kRI)
    (fun xs h st q => jm [0, 0] _ (fun q => apS_ok [1, 2] _ (fun st => Ev (d + 3) none mX10_pour (0, 0) 69 [.null, .null] st h (QI z)) st (fun s0 s1 q => tX10_pour_69 s0 s1 h q) q) q)
    (fun _ _ _ q => nos q)
    kRI_ok (Or.inr rfl) (by decide +kernel) (by decide +kernel) hf
theorem kqX10_pour_45 : okC mX10_pour 45 (.invokevirtual 335) 163 175 0 1 = true := by decide +kernel
def fX10_pour_45 (v0 : Nat) (v1 : Int32) (s0 : Nat) (s1 : Nat) (h : aH) : Option (Int32 × aH) :=
  (isO h 4 s1).bind fun _ =>
  (gX4_keep s1 s0 h).bind fun r =>
  fX10_pour_48 v0 v1 r
theorem tX10_pour_45 {d : Nat} {z : Int32 × aH} (v0 : Nat) (v1 : Int32) (s0 : Nat) (s1 : Nat) (h : aH) (hf : fX10_pour_45 v0 v1 s0 s1 h = some z) : Ev (d + 3) none mX10_pour (0, 0) 45 [.ref v0, .int v1] [.ref s0, .ref s1] h (QI z) := by
  obtain ⟨_, h1, hf⟩ := bnd hf
  obtain ⟨fs, ho⟩ := isO_ok h1
  obtain ⟨r, h2, hf⟩ := bnd hf
  refine ev_V kqX10_pour_45 jX4_keep (zX4_keep (d := d + 0) h2) ho rfl rfl (Nat.le_of_ble_eq_true rfl) rfl (as := [.ref s0]) (rest := []) rfl (Nat.le_of_ble_eq_true rfl) (fun _ _ hq => ?_)
  obtain ⟨rfl, hh⟩ := hq
  rw [hh]
  exact jm [2, 1] (fun v0 v1 => fX10_pour_48 v0 v1 r) (fun v0 v1 q => tX10_pour_48 v0 v1 r q) hf
def wX10_pour_37 : List En := [(.aload_n 0, 0, 0, 0), (.getfield 47, 167, 10, 5), (.aload_n 0, 0, 0, 0), (.getfield 68, 170, 10, 8)]
def fX10_pour_37 (v0 : Nat) (v1 : Int32) (h : aH) : Option (Int32 × aH) :=
  (gFR h 10 v0 5).bind fun t1 =>
  (gFR h 10 v0 8).bind fun t2 =>
  fX10_pour_45 v0 v1 t2 t1 h
theorem tX10_pour_37 {d : Nat} {z : Int32 × aH} (v0 : Nat) (v1 : Int32) (h : aH) (hf : fX10_pour_37 v0 v1 h = some z) : Ev (d + 3) none mX10_pour (0, 0) 37 [.ref v0, .int v1] [] h (QI z) := 
  go_ok (X := none) (blk := wX10_pour_37) (np := 45) (tt := 0) (kN := fun xs h st => app [2, 1] (fun v0 v1 => apS [2, 2] (fun s0 s1 => fX10_pour_45 v0 v1 s0 s1 h) st) xs) (kT := fun _ _ _ => none) (kR := kRI)
    (fun xs h st q => jm [2, 1] _ (fun v0 v1 q => apS_ok [2, 2] _ (fun st => Ev (d + 3) none mX10_pour (0, 0) 45 [.ref v0, .int v1] st h (QI z)) st (fun s0 s1 q => tX10_pour_45 v0 v1 s0 s1 h q) q) q)
    (fun _ _ _ q => nos q)
    kRI_ok (Or.inr rfl) (by decide +kernel) (by decide +kernel) hf
def wX10_pour_36 : List En := [(.ireturn, 0, 0, 0)]
def fX10_pour_36 (s0 : Int32) (h : aH) : Option (Int32 × aH) :=
  some (s0, h)
theorem tX10_pour_36 {d : Nat} {z : Int32 × aH} (s0 : Int32) (h : aH) (hf : fX10_pour_36 s0 h = some z) : Ev (d + 3) none mX10_pour (0, 0) 36 [.null, .null] [.int s0] h (QI z) := 
  go_ok (X := none) (blk := wX10_pour_36) (np := 37) (tt := 0) (kN := fun _ _ _ => none) (kT := fun _ _ _ => none) (kR := kRI)
    (fun _ _ _ q => nos q)
    (fun _ _ _ q => nos q)
    kRI_ok (Or.inr rfl) (by decide +kernel) (by decide +kernel) hf
theorem kqX10_pour_33 : okC mX10_pour 33 (.invokevirtual 94) 15 8 0 1 = true := by decide +kernel
def fX10_pour_33 (s0 : Int32) (s1 : Nat) (h : aH) : Option (Int32 × aH) :=
  (isO h 10 s1).bind fun _ =>
  (gX10_refuse s1 s0 h).bind fun r =>
  fX10_pour_36 r.1 r.2
theorem tX10_pour_33 {d : Nat} {z : Int32 × aH} (s0 : Int32) (s1 : Nat) (h : aH) (hf : fX10_pour_33 s0 s1 h = some z) : Ev (d + 3) none mX10_pour (0, 0) 33 [.null, .null] [.int s0, .ref s1] h (QI z) := by
  obtain ⟨_, h1, hf⟩ := bnd hf
  obtain ⟨fs, ho⟩ := isO_ok h1
  obtain ⟨r, h2, hf⟩ := bnd hf
  refine ev_V kqX10_pour_33 jX10_refuse (zX10_refuse (d := d + 2) h2) ho rfl rfl (Nat.le_of_ble_eq_true rfl) rfl (as := [.int s0]) (rest := []) rfl (Nat.le_of_ble_eq_true rfl) (fun _ _ hq => ?_)
  obtain ⟨rfl, rfl⟩ := hq
  exact jm [0, 0] (fX10_pour_36 r.1 r.2) (fun q => tX10_pour_36 r.1 r.2 q) hf
def wX10_pour_31 : List En := [(.aload_n 0, 0, 0, 0), (.iconst 3, 0, 0, 0)]
def fX10_pour_31 (v0 : Nat) (h : aH) : Option (Int32 × aH) :=
  fX10_pour_33 (kI 3) v0 h
theorem tX10_pour_31 {d : Nat} {z : Int32 × aH} (v0 : Nat) (h : aH) (hf : fX10_pour_31 v0 h = some z) : Ev (d + 3) none mX10_pour (0, 0) 31 [.ref v0, .null] [] h (QI z) := 
  go_ok (X := none) (blk := wX10_pour_31) (np := 33) (tt := 0) (kN := fun xs h st => app [0, 0] (apS [1, 2] (fun s0 s1 => fX10_pour_33 s0 s1 h) st) xs) (kT := fun _ _ _ => none) (kR := kRI)
    (fun xs h st q => jm [0, 0] _ (fun q => apS_ok [1, 2] _ (fun st => Ev (d + 3) none mX10_pour (0, 0) 33 [.null, .null] st h (QI z)) st (fun s0 s1 q => tX10_pour_33 s0 s1 h q) q) q)
    (fun _ _ _ q => nos q)
    kRI_ok (Or.inr rfl) (by decide +kernel) (by decide +kernel) hf
def wX10_pour_17 : List En := [(.aload_n 0, 0, 0, 0), (.getfield 68, 170, 10, 8), (.getfield 163, 33, 7, 5), (.iload_n 1, 0, 0, 0), (.iadd, 0, 0, 0), (.bipush 99, 0, 0, 0), (.if_icmp .le 9, 37, 0, 0)]
def fX10_pour_17 (v0 : Nat) (v1 : Int32) (h : aH) : Option (Int32 × aH) :=
  (gFR h 10 v0 8).bind fun t1 =>
  (gFI h 7 t1 5).bind fun t2 =>
  if (kB 99) < (t2 + v1) then fX10_pour_31 v0 h else fX10_pour_37 v0 v1 h
theorem tX10_pour_17 {d : Nat} {z : Int32 × aH} (v0 : Nat) (v1 : Int32) (h : aH) (hf : fX10_pour_17 v0 v1 h = some z) : Ev (d + 3) none mX10_pour (0, 0) 17 [.ref v0, .int v1] [] h (QI z) := 
  go_ok (X := none) (blk := wX10_pour_17) (np := 31) (tt := 37) (kN := fun xs h st => app [2, 0] (fun v0 => apS [] (fX10_pour_31 v0 h) st) xs) (kT := fun xs h st => app [2, 1] (fun v0 v1 => apS [] (fX10_pour_37 v0 v1 h) st) xs) (kR := kRI)
    (fun xs h st q => jm [2, 0] _ (fun v0 q => apS_ok [] _ (fun st => Ev (d + 3) none mX10_pour (0, 0) 31 [.ref v0, .null] st h (QI z)) st (fun q => tX10_pour_31 v0 h q) q) q)
    (fun xs h st q => jm [2, 1] _ (fun v0 v1 q => apS_ok [] _ (fun st => Ev (d + 3) none mX10_pour (0, 0) 37 [.ref v0, .int v1] st h (QI z)) st (fun q => tX10_pour_37 v0 v1 h q) q) q)
    kRI_ok (Or.inr rfl) (by decide +kernel) (by decide +kernel) hf
def wX10_pour_15 : List En := [(.iconst (-1), 0, 0, 0), (.ireturn, 0, 0, 0)]
def fX10_pour_15 (h : aH) : Option (Int32 × aH) :=
  some ((kI (-1)), h)
theorem tX10_pour_15 {d : Nat} {z : Int32 × aH} (h : aH) (hf : fX10_pour_15 h = some z) : Ev (d + 3) none mX10_pour (0, 0) 15 [.null, .null] [] h (QI z) := 
  go_ok (X := none) (blk := wX10_pour_15) (np := 17) (tt := 0) (kN := fun _ _ _ => none) (kT := fun _ _ _ => none) (kR := kRI)
    (fun _ _ _ q => nos q)
    (fun _ _ _ q => nos q)
    kRI_ok (Or.inr rfl) (by decide +kernel) (by decide +kernel) hf
def wX10_pour_12 : List En := [(.ifCond .eq 5, 17, 0, 0)]
def fX10_pour_12 (v0 : Nat) (v1 : Int32) (s0 : Int32) (h : aH) : Option (Int32 × aH) :=
  if s0 = 0 then fX10_pour_17 v0 v1 h else fX10_pour_15 h
theorem tX10_pour_12 {d : Nat} {z : Int32 × aH} (v0 : Nat) (v1 : Int32) (s0 : Int32) (h : aH) (hf : fX10_pour_12 v0 v1 s0 h = some z) : Ev (d + 3) none mX10_pour (0, 0) 12 [.ref v0, .int v1] [.int s0] h (QI z) := 
  go_ok (X := none) (blk := wX10_pour_12) (np := 15) (tt := 17) (kN := fun xs h st => app [0, 0] (apS [] (fX10_pour_15 h) st) xs) (kT := fun xs h st => app [2, 1] (fun v0 v1 => apS [] (fX10_pour_17 v0 v1 h) st) xs) (kR := kRI)
    (fun xs h st q => jm [0, 0] _ (fun q => apS_ok [] _ (fun st => Ev (d + 3) none mX10_pour (0, 0) 15 [.null, .null] st h (QI z)) st (fun q => tX10_pour_15 h q) q) q)
    (fun xs h st q => jm [2, 1] _ (fun v0 v1 q => apS_ok [] _ (fun st => Ev (d + 3) none mX10_pour (0, 0) 17 [.ref v0, .int v1] st h (QI z)) st (fun q => tX10_pour_17 v0 v1 h q) q) q)
    kRI_ok (Or.inr rfl) (by decide +kernel) (by decide +kernel) hf
theorem kqX10_pour_9 : okC mX10_pour 9 (.invokevirtual 190) 92 87 0 4 = true := by decide +kernel
def fX10_pour_9 (v0 : Nat) (v1 : Int32) (s0 : Int32) (s1 : Int32) (s2 : Int32) (s3 : Int32) (s4 : Nat) (h : aH) : Option (Int32 × aH) :=
  (isO h 10 s4).bind fun _ =>
  (gX10_isRefused s4 s3 s2 s1 s0 h).bind fun r =>
  fX10_pour_12 v0 v1 r.1 r.2
theorem tX10_pour_9 {d : Nat} {z : Int32 × aH} (v0 : Nat) (v1 : Int32) (s0 : Int32) (s1 : Int32) (s2 : Int32) (s3 : Int32) (s4 : Nat) (h : aH) (hf : fX10_pour_9 v0 v1 s0 s1 s2 s3 s4 h = some z) : Ev (d + 3) none mX10_pour (0, 0) 9 [.ref v0, .int v1] [.int s0, .int s1, .int s2, .int s3, .ref s4] h (QI z) := by
  obtain ⟨_, h1, hf⟩ := bnd hf
  obtain ⟨fs, ho⟩ := isO_ok h1
  obtain ⟨r, h2, hf⟩ := bnd hf
  refine ev_V kqX10_pour_9 jX10_isRefused (zX10_isRefused (d := d + 1) h2) ho rfl rfl (Nat.le_of_ble_eq_true rfl) rfl (as := [.int s3, .int s2, .int s1, .int s0]) (rest := []) rfl (Nat.le_of_ble_eq_true rfl) (fun _ _ hq => ?_)
  obtain ⟨-, rfl, rfl⟩ := hq
  exact jm [2, 1] (fun v0 v1 => fX10_pour_12 v0 v1 r.1 r.2) (fun v0 v1 q => tX10_pour_12 v0 v1 r.1 r.2 q) hf
def wX10_pour_5 : List En := [(.iload_n 1, 0, 0, 0), (.iconst 1, 0, 0, 0), (.bipush 99, 0, 0, 0)]
def fX10_pour_5 (v0 : Nat) (v1 : Int32) (s0 : Int32) (s1 : Nat) (h : aH) : Option (Int32 × aH) :=
  fX10_pour_9 v0 v1 (kB 99) (kI 1) v1 s0 s1 h
theorem tX10_pour_5 {d : Nat} {z : Int32 × aH} (v0 : Nat) (v1 : Int32) (s0 : Int32) (s1 : Nat) (h : aH) (hf : fX10_pour_5 v0 v1 s0 s1 h = some z) : Ev (d + 3) none mX10_pour (0, 0) 5 [.ref v0, .int v1] [.int s0, .ref s1] h (QI z) := 
  go_ok (X := none) (blk := wX10_pour_5) (np := 9) (tt := 0) (kN := fun xs h st => app [2, 1] (fun v0 v1 => apS [1, 1, 1, 1, 2] (fun s0 s1 s2 s3 s4 => fX10_pour_9 v0 v1 s0 s1 s2 s3 s4 h) st) xs) (kT := fun _ _ _ => none) (kR := kRI)
    (fun xs h st q => jm [2, 1] _ (fun v0 v1 q => apS_ok [1, 1, 1, 1, 2] _ (fun st => Ev (d + 3) none mX10_pour (0, 0) 9 [.ref v0, .int v1] st h (QI z)) st (fun s0 s1 s2 s3 s4 q => tX10_pour_9 v0 v1 s0 s1 s2 s3 s4 h q) q) q)
    (fun _ _ _ q => nos q)
    kRI_ok (Or.inr rfl) (by decide +kernel) (by decide +kernel) hf
theorem kqX10_pour_2 : okC mX10_pour 2 (.invokevirtual 159) 68 52 0 0 = true := by decide +kernel
def fX10_pour_2 (v0 : Nat) (v1 : Int32) (s0 : Nat) (s1 : Nat) (h : aH) : Option (Int32 × aH) :=
  (isO h 10 s0).bind fun _ =>
  (gX10_lacksTable s0 h).bind fun r =>
  fX10_pour_5 v0 v1 r.1 s1 r.2
theorem tX10_pour_2 {d : Nat} {z : Int32 × aH} (v0 : Nat) (v1 : Int32) (s0 : Nat) (s1 : Nat) (h : aH) (hf : fX10_pour_2 v0 v1 s0 s1 h = some z) : Ev (d + 3) none mX10_pour (0, 0) 2 [.ref v0, .int v1] [.ref s0, .ref s1] h (QI z) := by
  obtain ⟨_, h1, hf⟩ := bnd hf
  obtain ⟨fs, ho⟩ := isO_ok h1
  obtain ⟨r, h2, hf⟩ := bnd hf
  refine ev_V kqX10_pour_2 jX10_lacksTable (zX10_lacksTable (d := d + 2) h2) ho rfl rfl (Nat.le_of_ble_eq_true rfl) rfl (as := []) (rest := [.ref s1]) rfl (Nat.le_of_ble_eq_true rfl) (fun _ _ hq => ?_)
  obtain ⟨-, rfl, rfl⟩ := hq
  exact jm [2, 1] (fun v0 v1 => fX10_pour_5 v0 v1 r.1 s1 r.2) (fun v0 v1 q => tX10_pour_5 v0 v1 r.1 s1 r.2 q) hf
def wX10_pour_0 : List En := [(.aload_n 0, 0, 0, 0), (.aload_n 0, 0, 0, 0)]
def fX10_pour_0 (v0 : Nat) (v1 : Int32) (h : aH) : Option (Int32 × aH) :=
  fX10_pour_2 v0 v1 v0 v0 h
theorem tX10_pour_0 {d : Nat} {z : Int32 × aH} (v0 : Nat) (v1 : Int32) (h : aH) (hf : fX10_pour_0 v0 v1 h = some z) : Ev (d + 3) none mX10_pour (0, 0) 0 [.ref v0, .int v1] [] h (QI z) := 
  go_ok (X := none) (blk := wX10_pour_0) (np := 2) (tt := 0) (kN := fun xs h st => app [2, 1] (fun v0 v1 => apS [2, 2] (fun s0 s1 => fX10_pour_2 v0 v1 s0 s1 h) st) xs) (kT := fun _ _ _ => none) (kR := kRI)
    (fun xs h st q => jm [2, 1] _ (fun v0 v1 q => apS_ok [2, 2] _ (fun st => Ev (d + 3) none mX10_pour (0, 0) 2 [.ref v0, .int v1] st h (QI z)) st (fun s0 s1 q => tX10_pour_2 v0 v1 s0 s1 h q) q) q)
    (fun _ _ _ q => nos q)
    kRI_ok (Or.inr rfl) (by decide +kernel) (by decide +kernel) hf
def gX10_pour (v0 : Nat) (v1 : Int32) (h : aH) : Option (Int32 × aH) := fX10_pour_0 v0 v1 h
theorem zX10_pour {d : Nat} {z : Int32 × aH} {v0 : Nat} {v1 : Int32} {h : aH} (q : gX10_pour v0 v1 h = some z) : CT (d + 3) mX10_pour (0, 0) [.ref v0, .int v1] h (QI z) :=
  ct_ev (by decide +kernel) (Nat.le_of_ble_eq_true rfl) QI_r (jm [2, 1] (fun v0 v1 => fX10_pour_0 v0 v1 h) (fun v0 v1 q => tX10_pour_0 v0 v1 h q) q)
def wX10_value_65 : List En := [(.ireturn, 0, 0, 0)]
def fX10_value_65 (s0 : Int32) (h : aH) : Option (Int32 × aH) :=
  some (s0, h)
theorem tX10_value_65 {d : Nat} {z : Int32 × aH} (s0 : Int32) (h : aH) (hf : fX10_value_65 s0 h = some z) : Ev (d + 3) none mX10_value (0, 0) 65 [.null, .null, .null, .null] [.int s0] h (QI z) := 
  go_ok (X := none) (blk := wX10_value_65) (np := 66) (tt := 0) (kN := fun _ _ _ => none) (kT := fun _ _ _ => none) (kR := kRI)
    (fun _ _ _ q => nos q)
    (fun _ _ _ q => nos q)
    kRI_ok (Or.inr rfl) (by decide +kernel) (by decide +kernel) hf
theorem kqX10_value_62 : okC mX10_value 62 (.invokevirtual 119) 60 44 0 1 = true := by decide +kernel
def fX10_value_62 (s0 : Int32) (s1 : Nat) (h : aH) : Option (Int32 × aH) :=
  (isO h 10 s1).bind fun _ =>
  (gX10_answer s1 s0 h).bind fun r =>
  fX10_value_65 r.1 r.2
theorem tX10_value_62 {d : Nat} {z : Int32 × aH} (s0 : Int32) (s1 : Nat) (h : aH) (hf : fX10_value_62 s0 s1 h = some z) : Ev (d + 3) none mX10_value (0, 0) 62 [.null, .null, .null, .null] [.int s0, .ref s1] h (QI z) := by
  obtain ⟨_, h1, hf⟩ := bnd hf
  obtain ⟨fs, ho⟩ := isO_ok h1
  obtain ⟨r, h2, hf⟩ := bnd hf
  refine ev_V kqX10_value_62 jX10_answer (zX10_answer (d := d + 2) h2) ho rfl rfl (Nat.le_of_ble_eq_true rfl) rfl (as := [.int s0]) (rest := []) rfl (Nat.le_of_ble_eq_true rfl) (fun _ _ hq => ?_)
  obtain ⟨rfl, rfl⟩ := hq
  exact jm [0, 0, 0, 0] (fX10_value_65 r.1 r.2) (fun q => tX10_value_65 r.1 r.2 q) hf
def wX10_value_50 : List En := [(.aload_n 0, 0, 0, 0), (.getfield 68, 170, 10, 8), (.getfield 156, 25, 7, 2), (.iload_n 1, 0, 0, 0), (.iload_n 2, 0, 0, 0), (.iastore, 0, 0, 0), (.aload_n 0, 0, 0, 0), (.iload_n 3, 0, 0, 0)]
def fX10_value_50 (v0 : Nat) (v1 : Int32) (v2 : Int32) (v3 : Int32) (h : aH) : Option (Int32 × aH) :=
  (gFR h 10 v0 8).bind fun t1 =>
  (gFR h 7 t1 2).bind fun t2 =>
  (aWI h t2 v1 v2).bind fun h3 =>
  fX10_value_62 v3 v0 h3
theorem tX10_value_50 {d : Nat} {z : Int32 × aH} (v0 : Nat) (v1 : Int32) (v2 : Int32) (v3 : Int32) (h : aH) (hf : fX10_value_50 v0 v1 v2 v3 h = some z) : Ev (d + 3) none mX10_value (0, 0) 50 [.ref v0, .int v1, .int v2, .int v3] [] h (QI z) := 
  go_ok (X := none) (blk := wX10_value_50) (np := 62) (tt := 0) (kN := fun xs h st => app [0, 0, 0, 0] (apS [1, 2] (fun s0 s1 => fX10_value_62 s0 s1 h) st) xs) (kT := fun _ _ _ => none) (kR := kRI)
    (fun xs h st q => jm [0, 0, 0, 0] _ (fun q => apS_ok [1, 2] _ (fun st => Ev (d + 3) none mX10_value (0, 0) 62 [.null, .null, .null, .null] st h (QI z)) st (fun s0 s1 q => tX10_value_62 s0 s1 h q) q) q)
    (fun _ _ _ q => nos q)
    kRI_ok (Or.inr rfl) (by decide +kernel) (by decide +kernel) hf
theorem kqX10_value_47 : okC mX10_value 47 (.invokevirtual 335) 163 175 0 1 = true := by decide +kernel
def fX10_value_47 (v0 : Nat) (v1 : Int32) (v2 : Int32) (v3 : Int32) (s0 : Nat) (s1 : Nat) (h : aH) : Option (Int32 × aH) :=
  (isO h 4 s1).bind fun _ =>
  (gX4_keep s1 s0 h).bind fun r =>
  fX10_value_50 v0 v1 v2 v3 r
theorem tX10_value_47 {d : Nat} {z : Int32 × aH} (v0 : Nat) (v1 : Int32) (v2 : Int32) (v3 : Int32) (s0 : Nat) (s1 : Nat) (h : aH) (hf : fX10_value_47 v0 v1 v2 v3 s0 s1 h = some z) : Ev (d + 3) none mX10_value (0, 0) 47 [.ref v0, .int v1, .int v2, .int v3] [.ref s0, .ref s1] h (QI z) := by
  obtain ⟨_, h1, hf⟩ := bnd hf
  obtain ⟨fs, ho⟩ := isO_ok h1
  obtain ⟨r, h2, hf⟩ := bnd hf
  refine ev_V kqX10_value_47 jX4_keep (zX4_keep (d := d + 0) h2) ho rfl rfl (Nat.le_of_ble_eq_true rfl) rfl (as := [.ref s0]) (rest := []) rfl (Nat.le_of_ble_eq_true rfl) (fun _ _ hq => ?_)
  obtain ⟨rfl, hh⟩ := hq
  rw [hh]
  exact jm [2, 1, 1, 1] (fun v0 v1 v2 v3 => fX10_value_50 v0 v1 v2 v3 r) (fun v0 v1 v2 v3 q => tX10_value_50 v0 v1 v2 v3 r q) hf
def wX10_value_39 : List En := [(.aload_n 0, 0, 0, 0), (.getfield 47, 167, 10, 5), (.aload_n 0, 0, 0, 0), (.getfield 68, 170, 10, 8)]
def fX10_value_39 (v0 : Nat) (v1 : Int32) (v2 : Int32) (v3 : Int32) (h : aH) : Option (Int32 × aH) :=
  (gFR h 10 v0 5).bind fun t1 =>
  (gFR h 10 v0 8).bind fun t2 =>
  fX10_value_47 v0 v1 v2 v3 t2 t1 h
theorem tX10_value_39 {d : Nat} {z : Int32 × aH} (v0 : Nat) (v1 : Int32) (v2 : Int32) (v3 : Int32) (h : aH) (hf : fX10_value_39 v0 v1 v2 v3 h = some z) : Ev (d + 3) none mX10_value (0, 0) 39 [.ref v0, .int v1, .int v2, .int v3] [] h (QI z) := 
  go_ok (X := none) (blk := wX10_value_39) (np := 47) (tt := 0) (kN := fun xs h st => app [2, 1, 1, 1] (fun v0 v1 v2 v3 => apS [2, 2] (fun s0 s1 => fX10_value_47 v0 v1 v2 v3 s0 s1 h) st) xs) (kT := fun _ _ _ => none) (kR := kRI)
    (fun xs h st q => jm [2, 1, 1, 1] _ (fun v0 v1 v2 v3 q => apS_ok [2, 2] _ (fun st => Ev (d + 3) none mX10_value (0, 0) 47 [.ref v0, .int v1, .int v2, .int v3] st h (QI z)) st (fun s0 s1 q => tX10_value_47 v0 v1 v2 v3 s0 s1 h q) q) q)
    (fun _ _ _ q => nos q)
    kRI_ok (Or.inr rfl) (by decide +kernel) (by decide +kernel) hf
def wX10_value_38 : List En := [(.ireturn, 0, 0, 0)]
def fX10_value_38 (s0 : Int32) (h : aH) : Option (Int32 × aH) :=
  some (s0, h)
theorem tX10_value_38 {d : Nat} {z : Int32 × aH} (s0 : Int32) (h : aH) (hf : fX10_value_38 s0 h = some z) : Ev (d + 3) none mX10_value (0, 0) 38 [.null, .null, .null, .null] [.int s0] h (QI z) := 
  go_ok (X := none) (blk := wX10_value_38) (np := 39) (tt := 0) (kN := fun _ _ _ => none) (kT := fun _ _ _ => none) (kR := kRI)
    (fun _ _ _ q => nos q)
    (fun _ _ _ q => nos q)
    kRI_ok (Or.inr rfl) (by decide +kernel) (by decide +kernel) hf
theorem kqX10_value_35 : okC mX10_value 35 (.invokevirtual 94) 15 8 0 1 = true := by decide +kernel
def fX10_value_35 (s0 : Int32) (s1 : Nat) (h : aH) : Option (Int32 × aH) :=
  (isO h 10 s1).bind fun _ =>
  (gX10_refuse s1 s0 h).bind fun r =>
  fX10_value_38 r.1 r.2
theorem tX10_value_35 {d : Nat} {z : Int32 × aH} (s0 : Int32) (s1 : Nat) (h : aH) (hf : fX10_value_35 s0 s1 h = some z) : Ev (d + 3) none mX10_value (0, 0) 35 [.null, .null, .null, .null] [.int s0, .ref s1] h (QI z) := by
  obtain ⟨_, h1, hf⟩ := bnd hf
  obtain ⟨fs, ho⟩ := isO_ok h1
  obtain ⟨r, h2, hf⟩ := bnd hf
  refine ev_V kqX10_value_35 jX10_refuse (zX10_refuse (d := d + 2) h2) ho rfl rfl (Nat.le_of_ble_eq_true rfl) rfl (as := [.int s0]) (rest := []) rfl (Nat.le_of_ble_eq_true rfl) (fun _ _ hq => ?_)
  obtain ⟨rfl, rfl⟩ := hq
  exact jm [0, 0, 0, 0] (fX10_value_38 r.1 r.2) (fun q => tX10_value_38 r.1 r.2 q) hf
def wX10_value_33 : List En := [(.aload_n 0, 0, 0, 0), (.iconst 5, 0, 0, 0)]
def fX10_value_33 (v0 : Nat) (h : aH) : Option (Int32 × aH) :=
  fX10_value_35 (kI 5) v0 h
theorem tX10_value_33 {d : Nat} {z : Int32 × aH} (v0 : Nat) (h : aH) (hf : fX10_value_33 v0 h = some z) : Ev (d + 3) none mX10_value (0, 0) 33 [.ref v0, .null, .null, .null] [] h (QI z) := 
  go_ok (X := none) (blk := wX10_value_33) (np := 35) (tt := 0) (kN := fun xs h st => app [0, 0, 0, 0] (apS [1, 2] (fun s0 s1 => fX10_value_35 s0 s1 h) st) xs) (kT := fun _ _ _ => none) (kR := kRI)
    (fun xs h st q => jm [0, 0, 0, 0] _ (fun q => apS_ok [1, 2] _ (fun st => Ev (d + 3) none mX10_value (0, 0) 35 [.null, .null, .null, .null] st h (QI z)) st (fun s0 s1 q => tX10_value_35 s0 s1 h q) q) q)
    (fun _ _ _ q => nos q)
    kRI_ok (Or.inr rfl) (by decide +kernel) (by decide +kernel) hf
def wX10_value_18 : List En := [(.aload_n 0, 0, 0, 0), (.getfield 68, 170, 10, 8), (.getfield 156, 25, 7, 2), (.iload_n 1, 0, 0, 0), (.iaload, 0, 0, 0), (.istore_n 3, 0, 0, 0), (.iload_n 3, 0, 0, 0), (.iload_n 2, 0, 0, 0), (.if_icmp .ne 9, 39, 0, 0)]
def fX10_value_18 (v0 : Nat) (v1 : Int32) (v2 : Int32) (h : aH) : Option (Int32 × aH) :=
  (gFR h 10 v0 8).bind fun t1 =>
  (gFR h 7 t1 2).bind fun t2 =>
  (aRI (h[t2]?) v1).bind fun t3 =>
  if t3 = v2 then fX10_value_33 v0 h else fX10_value_39 v0 v1 v2 t3 h
theorem tX10_value_18 {d : Nat} {z : Int32 × aH} (v0 : Nat) (v1 : Int32) (v2 : Int32) (h : aH) (hf : fX10_value_18 v0 v1 v2 h = some z) : Ev (d + 3) none mX10_value (0, 0) 18 [.ref v0, .int v1, .int v2, .null] [] h (QI z) := 
  go_ok (X := none) (blk := wX10_value_18) (np := 33) (tt := 39) (kN := fun xs h st => app [2, 0, 0, 0] (fun v0 => apS [] (fX10_value_33 v0 h) st) xs) (kT := fun xs h st => app [2, 1, 1, 1] (fun v0 v1 v2 v3 => apS [] (fX10_value_39 v0 v1 v2 v3 h) st) xs) (kR := kRI)
    (fun xs h st q => jm [2, 0, 0, 0] _ (fun v0 q => apS_ok [] _ (fun st => Ev (d + 3) none mX10_value (0, 0) 33 [.ref v0, .null, .null, .null] st h (QI z)) st (fun q => tX10_value_33 v0 h q) q) q)
    (fun xs h st q => jm [2, 1, 1, 1] _ (fun v0 v1 v2 v3 q => apS_ok [] _ (fun st => Ev (d + 3) none mX10_value (0, 0) 39 [.ref v0, .int v1, .int v2, .int v3] st h (QI z)) st (fun q => tX10_value_39 v0 v1 v2 v3 h q) q) q)
    kRI_ok (Or.inr rfl) (by decide +kernel) (by decide +kernel) hf
def wX10_value_16 : List En := [(.iconst (-1), 0, 0, 0), (.ireturn, 0, 0, 0)]
def fX10_value_16 (h : aH) : Option (Int32 × aH) :=
  some ((kI (-1)), h)
theorem tX10_value_16 {d : Nat} {z : Int32 × aH} (h : aH) (hf : fX10_value_16 h = some z) : Ev (d + 3) none mX10_value (0, 0) 16 [.null, .null, .null, .null] [] h (QI z) := 
  go_ok (X := none) (blk := wX10_value_16) (np := 18) (tt := 0) (kN := fun _ _ _ => none) (kT := fun _ _ _ => none) (kR := kRI)
    (fun _ _ _ q => nos q)
    (fun _ _ _ q => nos q)
    kRI_ok (Or.inr rfl) (by decide +kernel) (by decide +kernel) hf
def wX10_value_13 : List En := [(.ifCond .eq 5, 18, 0, 0)]
def fX10_value_13 (v0 : Nat) (v1 : Int32) (v2 : Int32) (s0 : Int32) (h : aH) : Option (Int32 × aH) :=
  if s0 = 0 then fX10_value_18 v0 v1 v2 h else fX10_value_16 h
theorem tX10_value_13 {d : Nat} {z : Int32 × aH} (v0 : Nat) (v1 : Int32) (v2 : Int32) (s0 : Int32) (h : aH) (hf : fX10_value_13 v0 v1 v2 s0 h = some z) : Ev (d + 3) none mX10_value (0, 0) 13 [.ref v0, .int v1, .int v2, .null] [.int s0] h (QI z) := 
  go_ok (X := none) (blk := wX10_value_13) (np := 16) (tt := 18) (kN := fun xs h st => app [0, 0, 0, 0] (apS [] (fX10_value_16 h) st) xs) (kT := fun xs h st => app [2, 1, 1, 0] (fun v0 v1 v2 => apS [] (fX10_value_18 v0 v1 v2 h) st) xs) (kR := kRI)
    (fun xs h st q => jm [0, 0, 0, 0] _ (fun q => apS_ok [] _ (fun st => Ev (d + 3) none mX10_value (0, 0) 16 [.null, .null, .null, .null] st h (QI z)) st (fun q => tX10_value_16 h q) q) q)
    (fun xs h st q => jm [2, 1, 1, 0] _ (fun v0 v1 v2 q => apS_ok [] _ (fun st => Ev (d + 3) none mX10_value (0, 0) 18 [.ref v0, .int v1, .int v2, .null] st h (QI z)) st (fun q => tX10_value_18 v0 v1 v2 h q) q) q)
    kRI_ok (Or.inr rfl) (by decide +kernel) (by decide +kernel) hf
theorem kqX10_value_10 : okC mX10_value 10 (.invokevirtual 190) 92 87 0 4 = true := by decide +kernel
def fX10_value_10 (v0 : Nat) (v1 : Int32) (v2 : Int32) (s0 : Int32) (s1 : Int32) (s2 : Int32) (s3 : Int32) (s4 : Nat) (h : aH) : Option (Int32 × aH) :=
  (isO h 10 s4).bind fun _ =>
  (gX10_isRefused s4 s3 s2 s1 s0 h).bind fun r =>
  fX10_value_13 v0 v1 v2 r.1 r.2
theorem tX10_value_10 {d : Nat} {z : Int32 × aH} (v0 : Nat) (v1 : Int32) (v2 : Int32) (s0 : Int32) (s1 : Int32) (s2 : Int32) (s3 : Int32) (s4 : Nat) (h : aH) (hf : fX10_value_10 v0 v1 v2 s0 s1 s2 s3 s4 h = some z) : Ev (d + 3) none mX10_value (0, 0) 10 [.ref v0, .int v1, .int v2, .null] [.int s0, .int s1, .int s2, .int s3, .ref s4] h (QI z) := by
  obtain ⟨_, h1, hf⟩ := bnd hf
  obtain ⟨fs, ho⟩ := isO_ok h1
  obtain ⟨r, h2, hf⟩ := bnd hf
  refine ev_V kqX10_value_10 jX10_isRefused (zX10_isRefused (d := d + 1) h2) ho rfl rfl (Nat.le_of_ble_eq_true rfl) rfl (as := [.int s3, .int s2, .int s1, .int s0]) (rest := []) rfl (Nat.le_of_ble_eq_true rfl) (fun _ _ hq => ?_)
  obtain ⟨-, rfl, rfl⟩ := hq
  exact jm [2, 1, 1, 0] (fun v0 v1 v2 => fX10_value_13 v0 v1 v2 r.1 r.2) (fun v0 v1 v2 q => tX10_value_13 v0 v1 v2 r.1 r.2 q) hf
def wX10_value_6 : List En := [(.iload_n 2, 0, 0, 0), (.iconst 0, 0, 0, 0), (.bipush 20, 0, 0, 0)]
def fX10_value_6 (v0 : Nat) (v1 : Int32) (v2 : Int32) (s0 : Int32) (s1 : Nat) (h : aH) : Option (Int32 × aH) :=
  fX10_value_10 v0 v1 v2 (kB 20) (kI 0) v2 s0 s1 h
theorem tX10_value_6 {d : Nat} {z : Int32 × aH} (v0 : Nat) (v1 : Int32) (v2 : Int32) (s0 : Int32) (s1 : Nat) (h : aH) (hf : fX10_value_6 v0 v1 v2 s0 s1 h = some z) : Ev (d + 3) none mX10_value (0, 0) 6 [.ref v0, .int v1, .int v2, .null] [.int s0, .ref s1] h (QI z) := 
  go_ok (X := none) (blk := wX10_value_6) (np := 10) (tt := 0) (kN := fun xs h st => app [2, 1, 1, 0] (fun v0 v1 v2 => apS [1, 1, 1, 1, 2] (fun s0 s1 s2 s3 s4 => fX10_value_10 v0 v1 v2 s0 s1 s2 s3 s4 h) st) xs) (kT := fun _ _ _ => none) (kR := kRI)
    (fun xs h st q => jm [2, 1, 1, 0] _ (fun v0 v1 v2 q => apS_ok [1, 1, 1, 1, 2] _ (fun st => Ev (d + 3) none mX10_value (0, 0) 10 [.ref v0, .int v1, .int v2, .null] st h (QI z)) st (fun s0 s1 s2 s3 s4 q => tX10_value_10 v0 v1 v2 s0 s1 s2 s3 s4 h q) q) q)
    (fun _ _ _ q => nos q)
    kRI_ok (Or.inr rfl) (by decide +kernel) (by decide +kernel) hf
theorem kqX10_value_3 : okC mX10_value 3 (.invokevirtual 150) 66 50 0 1 = true := by decide +kernel
def fX10_value_3 (v0 : Nat) (v1 : Int32) (v2 : Int32) (s0 : Int32) (s1 : Nat) (s2 : Nat) (h : aH) : Option (Int32 × aH) :=
  (isO h 10 s1).bind fun _ =>
  (gX10_lacksName s1 s0 h).bind fun r =>
  fX10_value_6 v0 v1 v2 r.1 s2 r.2
theorem tX10_value_3 {d : Nat} {z : Int32 × aH} (v0 : Nat) (v1 : Int32) (v2 : Int32) (s0 : Int32) (s1 : Nat) (s2 : Nat) (h : aH) (hf : fX10_value_3 v0 v1 v2 s0 s1 s2 h = some z) : Ev (d + 3) none mX10_value (0, 0) 3 [.ref v0, .int v1, .int v2, .null] [.int s0, .ref s1, .ref s2] h (QI z) := by
  obtain ⟨_, h1, hf⟩ := bnd hf
  obtain ⟨fs, ho⟩ := isO_ok h1
  obtain ⟨r, h2, hf⟩ := bnd hf
  refine ev_V kqX10_value_3 jX10_lacksName (zX10_lacksName (d := d + 2) h2) ho rfl rfl (Nat.le_of_ble_eq_true rfl) rfl (as := [.int s0]) (rest := [.ref s2]) rfl (Nat.le_of_ble_eq_true rfl) (fun _ _ hq => ?_)
  obtain ⟨-, rfl, rfl⟩ := hq
  exact jm [2, 1, 1, 0] (fun v0 v1 v2 => fX10_value_6 v0 v1 v2 r.1 s2 r.2) (fun v0 v1 v2 q => tX10_value_6 v0 v1 v2 r.1 s2 r.2 q) hf
def wX10_value_0 : List En := [(.aload_n 0, 0, 0, 0), (.aload_n 0, 0, 0, 0), (.iload_n 1, 0, 0, 0)]
def fX10_value_0 (v0 : Nat) (v1 : Int32) (v2 : Int32) (h : aH) : Option (Int32 × aH) :=
  fX10_value_3 v0 v1 v2 v1 v0 v0 h
theorem tX10_value_0 {d : Nat} {z : Int32 × aH} (v0 : Nat) (v1 : Int32) (v2 : Int32) (h : aH) (hf : fX10_value_0 v0 v1 v2 h = some z) : Ev (d + 3) none mX10_value (0, 0) 0 [.ref v0, .int v1, .int v2, .null] [] h (QI z) := 
  go_ok (X := none) (blk := wX10_value_0) (np := 3) (tt := 0) (kN := fun xs h st => app [2, 1, 1, 0] (fun v0 v1 v2 => apS [1, 2, 2] (fun s0 s1 s2 => fX10_value_3 v0 v1 v2 s0 s1 s2 h) st) xs) (kT := fun _ _ _ => none) (kR := kRI)
    (fun xs h st q => jm [2, 1, 1, 0] _ (fun v0 v1 v2 q => apS_ok [1, 2, 2] _ (fun st => Ev (d + 3) none mX10_value (0, 0) 3 [.ref v0, .int v1, .int v2, .null] st h (QI z)) st (fun s0 s1 s2 q => tX10_value_3 v0 v1 v2 s0 s1 s2 h q) q) q)
    (fun _ _ _ q => nos q)
    kRI_ok (Or.inr rfl) (by decide +kernel) (by decide +kernel) hf
def gX10_value (v0 : Nat) (v1 : Int32) (v2 : Int32) (h : aH) : Option (Int32 × aH) := fX10_value_0 v0 v1 v2 h
theorem zX10_value {d : Nat} {z : Int32 × aH} {v0 : Nat} {v1 : Int32} {v2 : Int32} {h : aH} (q : gX10_value v0 v1 v2 h = some z) : CT (d + 3) mX10_value (0, 0) [.ref v0, .int v1, .int v2] h (QI z) :=
  ct_ev (by decide +kernel) (Nat.le_of_ble_eq_true rfl) QI_r (jm [2, 1, 1, 0] (fun v0 v1 v2 => fX10_value_0 v0 v1 v2 h) (fun v0 v1 v2 q => tX10_value_0 v0 v1 v2 h q) q)
def wX4_takeBack_54 : List En := [(.iconst 1, 0, 0, 0), (.ireturn, 0, 0, 0)]
def fX4_takeBack_54 (h : aH) : Option (Int32 × aH) :=
  if (kI 1) = 0 ∨ (kI 1) = 1 then some ((kI 1), h) else none
theorem tX4_takeBack_54 {d : Nat} {z : Int32 × aH} (h : aH) (hf : fX4_takeBack_54 h = some z) : Ev (d + 2) none mX4_takeBack (0, 0) 54 [.null, .null] [] h (QZ z) := 
  go_ok (X := none) (blk := wX4_takeBack_54) (np := 56) (tt := 0) (kN := fun _ _ _ => none) (kT := fun _ _ _ => none) (kR := kRZ)
    (fun _ _ _ q => nos q)
    (fun _ _ _ q => nos q)
    kRZ_ok (Or.inr rfl) (by decide +kernel) (by decide +kernel) hf
theorem kqX4_takeBack_51 : okC mX4_takeBack 51 (.invokevirtual 22) 81 176 0 1 = true := by decide +kernel
def fX4_takeBack_51 (s0 : Nat) (s1 : Nat) (h : aH) : Option (Int32 × aH) :=
  (isO h 7 s1).bind fun _ =>
  (gX7_copy s1 s0 h).bind fun r =>
  fX4_takeBack_54 r
theorem tX4_takeBack_51 {d : Nat} {z : Int32 × aH} (s0 : Nat) (s1 : Nat) (h : aH) (hf : fX4_takeBack_51 s0 s1 h = some z) : Ev (d + 2) none mX4_takeBack (0, 0) 51 [.null, .null] [.ref s0, .ref s1] h (QZ z) := by
  obtain ⟨_, h1, hf⟩ := bnd hf
  obtain ⟨fs, ho⟩ := isO_ok h1
  obtain ⟨r, h2, hf⟩ := bnd hf
  refine ev_V kqX4_takeBack_51 jX7_copy (zX7_copy (d := d + 0) h2) ho rfl rfl (Nat.le_of_ble_eq_true rfl) rfl (as := [.ref s0]) (rest := []) rfl (Nat.le_of_ble_eq_true rfl) (fun _ _ hq => ?_)
  obtain ⟨rfl, hh⟩ := hq
  rw [hh]
  exact jm [0, 0] (fX4_takeBack_54 r) (fun q => tX4_takeBack_54 r q) hf
def wX4_takeBack_28 : List En := [(.putfield 18, 87, 4, 1), (.aload_n 0, 0, 0, 0), (.dup, 0, 0, 0), (.getfield 26, 85, 4, 0), (.iconst 1, 0, 0, 0), (.isub, 0, 0, 0), (.putfield 26, 85, 4, 0), (.aload_n 1, 0, 0, 0), (.aload_n 0, 0, 0, 0), (.getfield 11, 88, 4, 2), (.aload_n 0, 0, 0, 0), (.getfield 18, 87, 4, 1), (.aaload, 0, 0, 0)]
def fX4_takeBack_28 (v0 : Nat) (v1 : Nat) (s0 : Int32) (s1 : Nat) (h : aH) : Option (Int32 × aH) :=
  (pWV h 4 s1 1 (.int s0)).bind fun h1 =>
  (gFI h1 4 v0 0).bind fun t2 =>
  (pWV h1 4 v0 0 (.int (t2 - (kI 1)))).bind fun h3 =>
  (gFR h3 4 v0 2).bind fun t4 =>
  (gFI h3 4 v0 1).bind fun t5 =>
  (aRR (h3[t4]?) t5).bind fun t6 =>
  fX4_takeBack_51 t6 v1 h3
theorem tX4_takeBack_28 {d : Nat} {z : Int32 × aH} (v0 : Nat) (v1 : Nat) (s0 : Int32) (s1 : Nat) (h : aH) (hf : fX4_takeBack_28 v0 v1 s0 s1 h = some z) : Ev (d + 2) none mX4_takeBack (0, 0) 28 [.ref v0, .ref v1] [.int s0, .ref s1] h (QZ z) := 
  go_ok (X := none) (blk := wX4_takeBack_28) (np := 51) (tt := 0) (kN := fun xs h st => app [0, 0] (apS [2, 2] (fun s0 s1 => fX4_takeBack_51 s0 s1 h) st) xs) (kT := fun _ _ _ => none) (kR := kRZ)
    (fun xs h st q => jm [0, 0] _ (fun q => apS_ok [2, 2] _ (fun st => Ev (d + 2) none mX4_takeBack (0, 0) 51 [.null, .null] st h (QZ z)) st (fun s0 s1 q => tX4_takeBack_51 s0 s1 h q) q) q)
    (fun _ _ _ q => nos q)
    kRZ_ok (Or.inr rfl) (by decide +kernel) (by decide +kernel) hf
def wX4_takeBack_26 : List En := [(.bipush 15, 0, 0, 0)]
def fX4_takeBack_26 (v0 : Nat) (v1 : Nat) (s0 : Nat) (h : aH) : Option (Int32 × aH) :=
  fX4_takeBack_28 v0 v1 (kB 15) s0 h
theorem tX4_takeBack_26 {d : Nat} {z : Int32 × aH} (v0 : Nat) (v1 : Nat) (s0 : Nat) (h : aH) (hf : fX4_takeBack_26 v0 v1 s0 h = some z) : Ev (d + 2) none mX4_takeBack (0, 0) 26 [.ref v0, .ref v1] [.ref s0] h (QZ z) := 
  go_ok (X := none) (blk := wX4_takeBack_26) (np := 28) (tt := 0) (kN := fun xs h st => app [2, 2] (fun v0 v1 => apS [1, 2] (fun s0 s1 => fX4_takeBack_28 v0 v1 s0 s1 h) st) xs) (kT := fun _ _ _ => none) (kR := kRZ)
    (fun xs h st q => jm [2, 2] _ (fun v0 v1 q => apS_ok [1, 2] _ (fun st => Ev (d + 2) none mX4_takeBack (0, 0) 28 [.ref v0, .ref v1] st h (QZ z)) st (fun s0 s1 q => tX4_takeBack_28 v0 v1 s0 s1 h q) q) q)
    (fun _ _ _ q => nos q)
    kRZ_ok (Or.inr rfl) (by decide +kernel) (by decide +kernel) hf
def wX4_takeBack_17 : List En := [(.aload_n 0, 0, 0, 0), (.getfield 18, 87, 4, 1), (.iconst 1, 0, 0, 0), (.isub, 0, 0, 0), (.goto 5, 28, 0, 0)]
def fX4_takeBack_17 (v0 : Nat) (v1 : Nat) (s0 : Nat) (h : aH) : Option (Int32 × aH) :=
  (gFI h 4 v0 1).bind fun t1 =>
  fX4_takeBack_28 v0 v1 (t1 - (kI 1)) s0 h
theorem tX4_takeBack_17 {d : Nat} {z : Int32 × aH} (v0 : Nat) (v1 : Nat) (s0 : Nat) (h : aH) (hf : fX4_takeBack_17 v0 v1 s0 h = some z) : Ev (d + 2) none mX4_takeBack (0, 0) 17 [.ref v0, .ref v1] [.ref s0] h (QZ z) := 
  go_ok (X := none) (blk := wX4_takeBack_17) (np := 26) (tt := 28) (kN := fun _ _ _ => none) (kT := fun xs h st => app [2, 2] (fun v0 v1 => apS [1, 2] (fun s0 s1 => fX4_takeBack_28 v0 v1 s0 s1 h) st) xs) (kR := kRZ)
    (fun _ _ _ q => nos q)
    (fun xs h st q => jm [2, 2] _ (fun v0 v1 q => apS_ok [1, 2] _ (fun st => Ev (d + 2) none mX4_takeBack (0, 0) 28 [.ref v0, .ref v1] st h (QZ z)) st (fun s0 s1 q => tX4_takeBack_28 v0 v1 s0 s1 h q) q) q)
    kRZ_ok (Or.inr rfl) (by decide +kernel) (by decide +kernel) hf
def wX4_takeBack_9 : List En := [(.aload_n 0, 0, 0, 0), (.aload_n 0, 0, 0, 0), (.getfield 18, 87, 4, 1), (.ifCond .le 12, 26, 0, 0)]
def fX4_takeBack_9 (v0 : Nat) (v1 : Nat) (h : aH) : Option (Int32 × aH) :=
  (gFI h 4 v0 1).bind fun t1 =>
  if 0 < t1 then fX4_takeBack_17 v0 v1 v0 h else fX4_takeBack_26 v0 v1 v0 h
theorem tX4_takeBack_9 {d : Nat} {z : Int32 × aH} (v0 : Nat) (v1 : Nat) (h : aH) (hf : fX4_takeBack_9 v0 v1 h = some z) : Ev (d + 2) none mX4_takeBack (0, 0) 9 [.ref v0, .ref v1] [] h (QZ z) := 
  go_ok (X := none) (blk := wX4_takeBack_9) (np := 17) (tt := 26) (kN := fun xs h st => app [2, 2] (fun v0 v1 => apS [2] (fun s0 => fX4_takeBack_17 v0 v1 s0 h) st) xs) (kT := fun xs h st => app [2, 2] (fun v0 v1 => apS [2] (fun s0 => fX4_takeBack_26 v0 v1 s0 h) st) xs) (kR := kRZ)
    (fun xs h st q => jm [2, 2] _ (fun v0 v1 q => apS_ok [2] _ (fun st => Ev (d + 2) none mX4_takeBack (0, 0) 17 [.ref v0, .ref v1] st h (QZ z)) st (fun s0 q => tX4_takeBack_17 v0 v1 s0 h q) q) q)
    (fun xs h st q => jm [2, 2] _ (fun v0 v1 q => apS_ok [2] _ (fun st => Ev (d + 2) none mX4_takeBack (0, 0) 26 [.ref v0, .ref v1] st h (QZ z)) st (fun s0 q => tX4_takeBack_26 v0 v1 s0 h q) q) q)
    kRZ_ok (Or.inr rfl) (by decide +kernel) (by decide +kernel) hf
def wX4_takeBack_7 : List En := [(.iconst 0, 0, 0, 0), (.ireturn, 0, 0, 0)]
def fX4_takeBack_7 (h : aH) : Option (Int32 × aH) :=
  if (kI 0) = 0 ∨ (kI 0) = 1 then some ((kI 0), h) else none
theorem tX4_takeBack_7 {d : Nat} {z : Int32 × aH} (h : aH) (hf : fX4_takeBack_7 h = some z) : Ev (d + 2) none mX4_takeBack (0, 0) 7 [.null, .null] [] h (QZ z) := 
  go_ok (X := none) (blk := wX4_takeBack_7) (np := 9) (tt := 0) (kN := fun _ _ _ => none) (kT := fun _ _ _ => none) (kR := kRZ)
    (fun _ _ _ q => nos q)
    (fun _ _ _ q => nos q)
    kRZ_ok (Or.inr rfl) (by decide +kernel) (by decide +kernel) hf
def wX4_takeBack_0 : List En := [(.aload_n 0, 0, 0, 0), (.getfield 26, 85, 4, 0), (.ifCond .ne 5, 9, 0, 0)]
def fX4_takeBack_0 (v0 : Nat) (v1 : Nat) (h : aH) : Option (Int32 × aH) :=
  (gFI h 4 v0 0).bind fun t1 =>
  if t1 = 0 then fX4_takeBack_7 h else fX4_takeBack_9 v0 v1 h
theorem tX4_takeBack_0 {d : Nat} {z : Int32 × aH} (v0 : Nat) (v1 : Nat) (h : aH) (hf : fX4_takeBack_0 v0 v1 h = some z) : Ev (d + 2) none mX4_takeBack (0, 0) 0 [.ref v0, .ref v1] [] h (QZ z) := 
  go_ok (X := none) (blk := wX4_takeBack_0) (np := 7) (tt := 9) (kN := fun xs h st => app [0, 0] (apS [] (fX4_takeBack_7 h) st) xs) (kT := fun xs h st => app [2, 2] (fun v0 v1 => apS [] (fX4_takeBack_9 v0 v1 h) st) xs) (kR := kRZ)
    (fun xs h st q => jm [0, 0] _ (fun q => apS_ok [] _ (fun st => Ev (d + 2) none mX4_takeBack (0, 0) 7 [.null, .null] st h (QZ z)) st (fun q => tX4_takeBack_7 h q) q) q)
    (fun xs h st q => jm [2, 2] _ (fun v0 v1 q => apS_ok [] _ (fun st => Ev (d + 2) none mX4_takeBack (0, 0) 9 [.ref v0, .ref v1] st h (QZ z)) st (fun q => tX4_takeBack_9 v0 v1 h q) q) q)
    kRZ_ok (Or.inr rfl) (by decide +kernel) (by decide +kernel) hf
def gX4_takeBack (v0 : Nat) (v1 : Nat) (h : aH) : Option (Int32 × aH) := fX4_takeBack_0 v0 v1 h
theorem zX4_takeBack {d : Nat} {z : Int32 × aH} {v0 : Nat} {v1 : Nat} {h : aH} (q : gX4_takeBack v0 v1 h = some z) : CT (d + 2) mX4_takeBack (0, 0) [.ref v0, .ref v1] h (QZ z) :=
  ct_ev (by decide +kernel) (Nat.le_of_ble_eq_true rfl) QZ_r (jm [2, 2] (fun v0 v1 => fX4_takeBack_0 v0 v1 h) (fun v0 v1 q => tX4_takeBack_0 v0 v1 h q) q)
def wX10_undo_23 : List En := [(.putfield 122, 173, 10, 11), (.iload_n 1, 0, 0, 0), (.ireturn, 0, 0, 0)]
def fX10_undo_23 (v1 : Int32) (s0 : Int32) (s1 : Nat) (h : aH) : Option (Int32 × aH) :=
  (pWV h 10 s1 11 (.int s0)).bind fun h1 =>
  if v1 = 0 ∨ v1 = 1 then some (v1, h1) else none
theorem tX10_undo_23 {d : Nat} {z : Int32 × aH} (v1 : Int32) (s0 : Int32) (s1 : Nat) (h : aH) (hf : fX10_undo_23 v1 s0 s1 h = some z) : Ev (d + 3) none mX10_undo (0, 0) 23 [.null, .int v1] [.int s0, .ref s1] h (QZ z) := 
  go_ok (X := none) (blk := wX10_undo_23) (np := 28) (tt := 0) (kN := fun _ _ _ => none) (kT := fun _ _ _ => none) (kR := kRZ)
    (fun _ _ _ q => nos q)
    (fun _ _ _ q => nos q)
    kRZ_ok (Or.inr rfl) (by decide +kernel) (by decide +kernel) hf
def wX10_undo_21 : List En := [(.bipush 6, 0, 0, 0)]
def fX10_undo_21 (v1 : Int32) (s0 : Nat) (h : aH) : Option (Int32 × aH) :=
  fX10_undo_23 v1 (kB 6) s0 h
theorem tX10_undo_21 {d : Nat} {z : Int32 × aH} (v1 : Int32) (s0 : Nat) (h : aH) (hf : fX10_undo_21 v1 s0 h = some z) : Ev (d + 3) none mX10_undo (0, 0) 21 [.null, .int v1] [.ref s0] h (QZ z) := 
  go_ok (X := none) (blk := wX10_undo_21) (np := 23) (tt := 0) (kN := fun xs h st => app [0, 1] (fun v1 => apS [1, 2] (fun s0 s1 => fX10_undo_23 v1 s0 s1 h) st) xs) (kT := fun _ _ _ => none) (kR := kRZ)
    (fun xs h st q => jm [0, 1] _ (fun v1 q => apS_ok [1, 2] _ (fun st => Ev (d + 3) none mX10_undo (0, 0) 23 [.null, .int v1] st h (QZ z)) st (fun s0 s1 q => tX10_undo_23 v1 s0 s1 h q) q) q)
    (fun _ _ _ q => nos q)
    kRZ_ok (Or.inr rfl) (by decide +kernel) (by decide +kernel) hf
def wX10_undo_17 : List En := [(.iconst 0, 0, 0, 0), (.goto 5, 23, 0, 0)]
def fX10_undo_17 (v1 : Int32) (s0 : Nat) (h : aH) : Option (Int32 × aH) :=
  fX10_undo_23 v1 (kI 0) s0 h
theorem tX10_undo_17 {d : Nat} {z : Int32 × aH} (v1 : Int32) (s0 : Nat) (h : aH) (hf : fX10_undo_17 v1 s0 h = some z) : Ev (d + 3) none mX10_undo (0, 0) 17 [.null, .int v1] [.ref s0] h (QZ z) := 
  go_ok (X := none) (blk := wX10_undo_17) (np := 21) (tt := 23) (kN := fun _ _ _ => none) (kT := fun xs h st => app [0, 1] (fun v1 => apS [1, 2] (fun s0 s1 => fX10_undo_23 v1 s0 s1 h) st) xs) (kR := kRZ)
    (fun _ _ _ q => nos q)
    (fun xs h st q => jm [0, 1] _ (fun v1 q => apS_ok [1, 2] _ (fun st => Ev (d + 3) none mX10_undo (0, 0) 23 [.null, .int v1] st h (QZ z)) st (fun s0 s1 q => tX10_undo_23 v1 s0 s1 h q) q) q)
    kRZ_ok (Or.inr rfl) (by decide +kernel) (by decide +kernel) hf
def wX10_undo_11 : List En := [(.istore_n 1, 0, 0, 0), (.aload_n 0, 0, 0, 0), (.iload_n 1, 0, 0, 0), (.ifCond .eq 7, 21, 0, 0)]
def fX10_undo_11 (v0 : Nat) (s0 : Int32) (h : aH) : Option (Int32 × aH) :=
  if s0 = 0 then fX10_undo_21 s0 v0 h else fX10_undo_17 s0 v0 h
theorem tX10_undo_11 {d : Nat} {z : Int32 × aH} (v0 : Nat) (s0 : Int32) (h : aH) (hf : fX10_undo_11 v0 s0 h = some z) : Ev (d + 3) none mX10_undo (0, 0) 11 [.ref v0, .null] [.int s0] h (QZ z) := 
  go_ok (X := none) (blk := wX10_undo_11) (np := 17) (tt := 21) (kN := fun xs h st => app [0, 1] (fun v1 => apS [2] (fun s0 => fX10_undo_17 v1 s0 h) st) xs) (kT := fun xs h st => app [0, 1] (fun v1 => apS [2] (fun s0 => fX10_undo_21 v1 s0 h) st) xs) (kR := kRZ)
    (fun xs h st q => jm [0, 1] _ (fun v1 q => apS_ok [2] _ (fun st => Ev (d + 3) none mX10_undo (0, 0) 17 [.null, .int v1] st h (QZ z)) st (fun s0 q => tX10_undo_17 v1 s0 h q) q) q)
    (fun xs h st q => jm [0, 1] _ (fun v1 q => apS_ok [2] _ (fun st => Ev (d + 3) none mX10_undo (0, 0) 21 [.null, .int v1] st h (QZ z)) st (fun s0 q => tX10_undo_21 v1 s0 h q) q) q)
    kRZ_ok (Or.inr rfl) (by decide +kernel) (by decide +kernel) hf
theorem kqX10_undo_8 : okC mX10_undo 8 (.invokevirtual 348) 169 183 0 1 = true := by decide +kernel
def fX10_undo_8 (v0 : Nat) (s0 : Nat) (s1 : Nat) (h : aH) : Option (Int32 × aH) :=
  (isO h 4 s1).bind fun _ =>
  (gX4_takeBack s1 s0 h).bind fun r =>
  fX10_undo_11 v0 r.1 r.2
theorem tX10_undo_8 {d : Nat} {z : Int32 × aH} (v0 : Nat) (s0 : Nat) (s1 : Nat) (h : aH) (hf : fX10_undo_8 v0 s0 s1 h = some z) : Ev (d + 3) none mX10_undo (0, 0) 8 [.ref v0, .null] [.ref s0, .ref s1] h (QZ z) := by
  obtain ⟨_, h1, hf⟩ := bnd hf
  obtain ⟨fs, ho⟩ := isO_ok h1
  obtain ⟨r, h2, hf⟩ := bnd hf
  refine ev_V kqX10_undo_8 jX4_takeBack (zX4_takeBack (d := d + 0) h2) ho rfl rfl (Nat.le_of_ble_eq_true rfl) rfl (as := [.ref s0]) (rest := []) rfl (Nat.le_of_ble_eq_true rfl) (fun _ _ hq => ?_)
  obtain ⟨-, rfl, rfl⟩ := hq
  exact jm [2, 0] (fun v0 => fX10_undo_11 v0 r.1 r.2) (fun v0 q => tX10_undo_11 v0 r.1 r.2 q) hf
def wX10_undo_0 : List En := [(.aload_n 0, 0, 0, 0), (.getfield 47, 167, 10, 5), (.aload_n 0, 0, 0, 0), (.getfield 68, 170, 10, 8)]
def fX10_undo_0 (v0 : Nat) (h : aH) : Option (Int32 × aH) :=
  (gFR h 10 v0 5).bind fun t1 =>
  (gFR h 10 v0 8).bind fun t2 =>
  fX10_undo_8 v0 t2 t1 h
theorem tX10_undo_0 {d : Nat} {z : Int32 × aH} (v0 : Nat) (h : aH) (hf : fX10_undo_0 v0 h = some z) : Ev (d + 3) none mX10_undo (0, 0) 0 [.ref v0, .null] [] h (QZ z) := 
  go_ok (X := none) (blk := wX10_undo_0) (np := 8) (tt := 0) (kN := fun xs h st => app [2, 0] (fun v0 => apS [2, 2] (fun s0 s1 => fX10_undo_8 v0 s0 s1 h) st) xs) (kT := fun _ _ _ => none) (kR := kRZ)
    (fun xs h st q => jm [2, 0] _ (fun v0 q => apS_ok [2, 2] _ (fun st => Ev (d + 3) none mX10_undo (0, 0) 8 [.ref v0, .null] st h (QZ z)) st (fun s0 s1 q => tX10_undo_8 v0 s0 s1 h q) q) q)
    (fun _ _ _ q => nos q)
    kRZ_ok (Or.inr rfl) (by decide +kernel) (by decide +kernel) hf
def gX10_undo (v0 : Nat) (h : aH) : Option (Int32 × aH) := fX10_undo_0 v0 h
theorem zX10_undo {d : Nat} {z : Int32 × aH} {v0 : Nat} {h : aH} (q : gX10_undo v0 h = some z) : CT (d + 3) mX10_undo (0, 0) [.ref v0] h (QZ z) :=
  ct_ev (by decide +kernel) (Nat.le_of_ble_eq_true rfl) QZ_r (jm [2, 0] (fun v0 => fX10_undo_0 v0 h) (fun v0 q => tX10_undo_0 v0 h q) q)
def wX5_keep_23 : List En := [(.aload_n 0, 0, 0, 0), (.dup, 0, 0, 0), (.getfield 18, 89, 5, 0), (.iconst 1, 0, 0, 0), (.iadd, 0, 0, 0), (.putfield 18, 89, 5, 0), (.aload_n 0, 0, 0, 0), (.getfield 18, 89, 5, 0), (.iconst 1, 0, 0, 0), (.isub, 0, 0, 0), (.ireturn, 0, 0, 0)]
def fX5_keep_23 (v0 : Nat) (h : aH) : Option (Int32 × aH) :=
  (gFI h 5 v0 0).bind fun t1 =>
  (pWV h 5 v0 0 (.int (t1 + (kI 1)))).bind fun h2 =>
  (gFI h2 5 v0 0).bind fun t3 =>
  some ((t3 - (kI 1)), h2)
theorem tX5_keep_23 {d : Nat} {z : Int32 × aH} (v0 : Nat) (h : aH) (hf : fX5_keep_23 v0 h = some z) : Ev (d + 2) none mX5_keep (0, 0) 23 [.ref v0, .null] [] h (QI z) := 
  go_ok (X := none) (blk := wX5_keep_23) (np := 40) (tt := 0) (kN := fun _ _ _ => none) (kT := fun _ _ _ => none) (kR := kRI)
    (fun _ _ _ q => nos q)
    (fun _ _ _ q => nos q)
    kRI_ok (Or.inr rfl) (by decide +kernel) (by decide +kernel) hf
theorem kqX5_keep_20 : okC mX5_keep 20 (.invokevirtual 22) 81 186 0 1 = true := by decide +kernel
def fX5_keep_20 (v0 : Nat) (s0 : Nat) (s1 : Nat) (h : aH) : Option (Int32 × aH) :=
  (isO h 7 s1).bind fun _ =>
  (gX7_copy s1 s0 h).bind fun r =>
  fX5_keep_23 v0 r
theorem tX5_keep_20 {d : Nat} {z : Int32 × aH} (v0 : Nat) (s0 : Nat) (s1 : Nat) (h : aH) (hf : fX5_keep_20 v0 s0 s1 h = some z) : Ev (d + 2) none mX5_keep (0, 0) 20 [.ref v0, .null] [.ref s0, .ref s1] h (QI z) := by
  obtain ⟨_, h1, hf⟩ := bnd hf
  obtain ⟨fs, ho⟩ := isO_ok h1
  obtain ⟨r, h2, hf⟩ := bnd hf
  refine ev_V kqX5_keep_20 jX7_copy (zX7_copy (d := d + 0) h2) ho rfl rfl (Nat.le_of_ble_eq_true rfl) rfl (as := [.ref s0]) (rest := []) rfl (Nat.le_of_ble_eq_true rfl) (fun _ _ hq => ?_)
  obtain ⟨rfl, hh⟩ := hq
  rw [hh]
  exact jm [2, 0] (fun v0 => fX5_keep_23 v0 r) (fun v0 q => tX5_keep_23 v0 r q) hf
def wX5_keep_10 : List En := [(.aload_n 0, 0, 0, 0), (.getfield 11, 91, 5, 1), (.aload_n 0, 0, 0, 0), (.getfield 18, 89, 5, 0), (.aaload, 0, 0, 0), (.aload_n 1, 0, 0, 0)]
def fX5_keep_10 (v0 : Nat) (v1 : Nat) (h : aH) : Option (Int32 × aH) :=
  (gFR h 5 v0 1).bind fun t1 =>
  (gFI h 5 v0 0).bind fun t2 =>
  (aRR (h[t1]?) t2).bind fun t3 =>
  fX5_keep_20 v0 v1 t3 h
theorem tX5_keep_10 {d : Nat} {z : Int32 × aH} (v0 : Nat) (v1 : Nat) (h : aH) (hf : fX5_keep_10 v0 v1 h = some z) : Ev (d + 2) none mX5_keep (0, 0) 10 [.ref v0, .ref v1] [] h (QI z) := 
  go_ok (X := none) (blk := wX5_keep_10) (np := 20) (tt := 0) (kN := fun xs h st => app [2, 0] (fun v0 => apS [2, 2] (fun s0 s1 => fX5_keep_20 v0 s0 s1 h) st) xs) (kT := fun _ _ _ => none) (kR := kRI)
    (fun xs h st q => jm [2, 0] _ (fun v0 q => apS_ok [2, 2] _ (fun st => Ev (d + 2) none mX5_keep (0, 0) 20 [.ref v0, .null] st h (QI z)) st (fun s0 s1 q => tX5_keep_20 v0 s0 s1 h q) q) q)
    (fun _ _ _ q => nos q)
    kRI_ok (Or.inr rfl) (by decide +kernel) (by decide +kernel) hf
def wX5_keep_8 : List En := [(.iconst (-1), 0, 0, 0), (.ireturn, 0, 0, 0)]
def fX5_keep_8 (h : aH) : Option (Int32 × aH) :=
  some ((kI (-1)), h)
theorem tX5_keep_8 {d : Nat} {z : Int32 × aH} (h : aH) (hf : fX5_keep_8 h = some z) : Ev (d + 2) none mX5_keep (0, 0) 8 [.null, .null] [] h (QI z) := 
  go_ok (X := none) (blk := wX5_keep_8) (np := 10) (tt := 0) (kN := fun _ _ _ => none) (kT := fun _ _ _ => none) (kR := kRI)
    (fun _ _ _ q => nos q)
    (fun _ _ _ q => nos q)
    kRI_ok (Or.inr rfl) (by decide +kernel) (by decide +kernel) hf
def wX5_keep_0 : List En := [(.aload_n 0, 0, 0, 0), (.getfield 18, 89, 5, 0), (.iconst 3, 0, 0, 0), (.if_icmp .lt 5, 10, 0, 0)]
def fX5_keep_0 (v0 : Nat) (v1 : Nat) (h : aH) : Option (Int32 × aH) :=
  (gFI h 5 v0 0).bind fun t1 =>
  if t1 < (kI 3) then fX5_keep_10 v0 v1 h else fX5_keep_8 h
theorem tX5_keep_0 {d : Nat} {z : Int32 × aH} (v0 : Nat) (v1 : Nat) (h : aH) (hf : fX5_keep_0 v0 v1 h = some z) : Ev (d + 2) none mX5_keep (0, 0) 0 [.ref v0, .ref v1] [] h (QI z) := 
  go_ok (X := none) (blk := wX5_keep_0) (np := 8) (tt := 10) (kN := fun xs h st => app [0, 0] (apS [] (fX5_keep_8 h) st) xs) (kT := fun xs h st => app [2, 2] (fun v0 v1 => apS [] (fX5_keep_10 v0 v1 h) st) xs) (kR := kRI)
    (fun xs h st q => jm [0, 0] _ (fun q => apS_ok [] _ (fun st => Ev (d + 2) none mX5_keep (0, 0) 8 [.null, .null] st h (QI z)) st (fun q => tX5_keep_8 h q) q) q)
    (fun xs h st q => jm [2, 2] _ (fun v0 v1 q => apS_ok [] _ (fun st => Ev (d + 2) none mX5_keep (0, 0) 10 [.ref v0, .ref v1] st h (QI z)) st (fun q => tX5_keep_10 v0 v1 h q) q) q)
    kRI_ok (Or.inr rfl) (by decide +kernel) (by decide +kernel) hf
def gX5_keep (v0 : Nat) (v1 : Nat) (h : aH) : Option (Int32 × aH) := fX5_keep_0 v0 v1 h
theorem zX5_keep {d : Nat} {z : Int32 × aH} {v0 : Nat} {v1 : Nat} {h : aH} (q : gX5_keep v0 v1 h = some z) : CT (d + 2) mX5_keep (0, 0) [.ref v0, .ref v1] h (QI z) :=
  ct_ev (by decide +kernel) (Nat.le_of_ble_eq_true rfl) QI_r (jm [2, 2] (fun v0 v1 => fX5_keep_0 v0 v1 h) (fun v0 v1 q => tX5_keep_0 v0 v1 h q) q)
def wX10_image_42 : List En := [(.ireturn, 0, 0, 0)]
def fX10_image_42 (s0 : Int32) (h : aH) : Option (Int32 × aH) :=
  some (s0, h)
theorem tX10_image_42 {d : Nat} {z : Int32 × aH} (s0 : Int32) (h : aH) (hf : fX10_image_42 s0 h = some z) : Ev (d + 3) none mX10_image (0, 0) 42 [.null, .null] [.int s0] h (QI z) := 
  go_ok (X := none) (blk := wX10_image_42) (np := 43) (tt := 0) (kN := fun _ _ _ => none) (kT := fun _ _ _ => none) (kR := kRI)
    (fun _ _ _ q => nos q)
    (fun _ _ _ q => nos q)
    kRI_ok (Or.inr rfl) (by decide +kernel) (by decide +kernel) hf
theorem kqX10_image_39 : okC mX10_image 39 (.invokevirtual 119) 60 44 0 1 = true := by decide +kernel
def fX10_image_39 (s0 : Int32) (s1 : Nat) (h : aH) : Option (Int32 × aH) :=
  (isO h 10 s1).bind fun _ =>
  (gX10_answer s1 s0 h).bind fun r =>
  fX10_image_42 r.1 r.2
theorem tX10_image_39 {d : Nat} {z : Int32 × aH} (s0 : Int32) (s1 : Nat) (h : aH) (hf : fX10_image_39 s0 s1 h = some z) : Ev (d + 3) none mX10_image (0, 0) 39 [.null, .null] [.int s0, .ref s1] h (QI z) := by
  obtain ⟨_, h1, hf⟩ := bnd hf
  obtain ⟨fs, ho⟩ := isO_ok h1
  obtain ⟨r, h2, hf⟩ := bnd hf
  refine ev_V kqX10_image_39 jX10_answer (zX10_answer (d := d + 2) h2) ho rfl rfl (Nat.le_of_ble_eq_true rfl) rfl (as := [.int s0]) (rest := []) rfl (Nat.le_of_ble_eq_true rfl) (fun _ _ hq => ?_)
  obtain ⟨rfl, rfl⟩ := hq
  exact jm [0, 0] (fX10_image_42 r.1 r.2) (fun q => tX10_image_42 r.1 r.2 q) hf
def wX10_image_37 : List En := [(.aload_n 0, 0, 0, 0), (.iload_n 1, 0, 0, 0)]
def fX10_image_37 (v0 : Nat) (v1 : Int32) (h : aH) : Option (Int32 × aH) :=
  fX10_image_39 v1 v0 h
theorem tX10_image_37 {d : Nat} {z : Int32 × aH} (v0 : Nat) (v1 : Int32) (h : aH) (hf : fX10_image_37 v0 v1 h = some z) : Ev (d + 3) none mX10_image (0, 0) 37 [.ref v0, .int v1] [] h (QI z) := 
  go_ok (X := none) (blk := wX10_image_37) (np := 39) (tt := 0) (kN := fun xs h st => app [0, 0] (apS [1, 2] (fun s0 s1 => fX10_image_39 s0 s1 h) st) xs) (kT := fun _ _ _ => none) (kR := kRI)
    (fun xs h st q => jm [0, 0] _ (fun q => apS_ok [1, 2] _ (fun st => Ev (d + 3) none mX10_image (0, 0) 39 [.null, .null] st h (QI z)) st (fun s0 s1 q => tX10_image_39 s0 s1 h q) q) q)
    (fun _ _ _ q => nos q)
    kRI_ok (Or.inr rfl) (by decide +kernel) (by decide +kernel) hf
def wX10_image_34 : List En := [(.goto 8, 42, 0, 0)]
def fX10_image_34 (s0 : Int32) (h : aH) : Option (Int32 × aH) :=
  fX10_image_42 s0 h
theorem tX10_image_34 {d : Nat} {z : Int32 × aH} (s0 : Int32) (h : aH) (hf : fX10_image_34 s0 h = some z) : Ev (d + 3) none mX10_image (0, 0) 34 [.null, .null] [.int s0] h (QI z) := 
  go_ok (X := none) (blk := wX10_image_34) (np := 37) (tt := 42) (kN := fun _ _ _ => none) (kT := fun xs h st => app [0, 0] (apS [1] (fun s0 => fX10_image_42 s0 h) st) xs) (kR := kRI)
    (fun _ _ _ q => nos q)
    (fun xs h st q => jm [0, 0] _ (fun q => apS_ok [1] _ (fun st => Ev (d + 3) none mX10_image (0, 0) 42 [.null, .null] st h (QI z)) st (fun s0 q => tX10_image_42 s0 h q) q) q)
    kRI_ok (Or.inr rfl) (by decide +kernel) (by decide +kernel) hf
theorem kqX10_image_31 : okC mX10_image 31 (.invokevirtual 94) 15 8 0 1 = true := by decide +kernel
def fX10_image_31 (s0 : Int32) (s1 : Nat) (h : aH) : Option (Int32 × aH) :=
  (isO h 10 s1).bind fun _ =>
  (gX10_refuse s1 s0 h).bind fun r =>
  fX10_image_34 r.1 r.2
theorem tX10_image_31 {d : Nat} {z : Int32 × aH} (s0 : Int32) (s1 : Nat) (h : aH) (hf : fX10_image_31 s0 s1 h = some z) : Ev (d + 3) none mX10_image (0, 0) 31 [.null, .null] [.int s0, .ref s1] h (QI z) := by
  obtain ⟨_, h1, hf⟩ := bnd hf
  obtain ⟨fs, ho⟩ := isO_ok h1
  obtain ⟨r, h2, hf⟩ := bnd hf
  refine ev_V kqX10_image_31 jX10_refuse (zX10_refuse (d := d + 2) h2) ho rfl rfl (Nat.le_of_ble_eq_true rfl) rfl (as := [.int s0]) (rest := []) rfl (Nat.le_of_ble_eq_true rfl) (fun _ _ hq => ?_)
  obtain ⟨rfl, rfl⟩ := hq
  exact jm [0, 0] (fX10_image_34 r.1 r.2) (fun q => tX10_image_34 r.1 r.2 q) hf
def wX10_image_29 : List En := [(.aload_n 0, 0, 0, 0), (.iconst 3, 0, 0, 0)]
def fX10_image_29 (v0 : Nat) (h : aH) : Option (Int32 × aH) :=
  fX10_image_31 (kI 3) v0 h
theorem tX10_image_29 {d : Nat} {z : Int32 × aH} (v0 : Nat) (h : aH) (hf : fX10_image_29 v0 h = some z) : Ev (d + 3) none mX10_image (0, 0) 29 [.ref v0, .null] [] h (QI z) := 
  go_ok (X := none) (blk := wX10_image_29) (np := 31) (tt := 0) (kN := fun xs h st => app [0, 0] (apS [1, 2] (fun s0 s1 => fX10_image_31 s0 s1 h) st) xs) (kT := fun _ _ _ => none) (kR := kRI)
    (fun xs h st q => jm [0, 0] _ (fun q => apS_ok [1, 2] _ (fun st => Ev (d + 3) none mX10_image (0, 0) 31 [.null, .null] st h (QI z)) st (fun s0 s1 q => tX10_image_31 s0 s1 h q) q) q)
    (fun _ _ _ q => nos q)
    kRI_ok (Or.inr rfl) (by decide +kernel) (by decide +kernel) hf
def wX10_image_24 : List En := [(.istore_n 1, 0, 0, 0), (.iload_n 1, 0, 0, 0), (.ifCond .ge 11, 37, 0, 0)]
def fX10_image_24 (v0 : Nat) (s0 : Int32) (h : aH) : Option (Int32 × aH) :=
  if s0 < 0 then fX10_image_29 v0 h else fX10_image_37 v0 s0 h
theorem tX10_image_24 {d : Nat} {z : Int32 × aH} (v0 : Nat) (s0 : Int32) (h : aH) (hf : fX10_image_24 v0 s0 h = some z) : Ev (d + 3) none mX10_image (0, 0) 24 [.ref v0, .null] [.int s0] h (QI z) := 
  go_ok (X := none) (blk := wX10_image_24) (np := 29) (tt := 37) (kN := fun xs h st => app [2, 0] (fun v0 => apS [] (fX10_image_29 v0 h) st) xs) (kT := fun xs h st => app [2, 1] (fun v0 v1 => apS [] (fX10_image_37 v0 v1 h) st) xs) (kR := kRI)
    (fun xs h st q => jm [2, 0] _ (fun v0 q => apS_ok [] _ (fun st => Ev (d + 3) none mX10_image (0, 0) 29 [.ref v0, .null] st h (QI z)) st (fun q => tX10_image_29 v0 h q) q) q)
    (fun xs h st q => jm [2, 1] _ (fun v0 v1 q => apS_ok [] _ (fun st => Ev (d + 3) none mX10_image (0, 0) 37 [.ref v0, .int v1] st h (QI z)) st (fun q => tX10_image_37 v0 v1 h q) q) q)
    kRI_ok (Or.inr rfl) (by decide +kernel) (by decide +kernel) hf
theorem kqX10_image_21 : okC mX10_image 21 (.invokevirtual 352) 171 185 0 1 = true := by decide +kernel
def fX10_image_21 (v0 : Nat) (s0 : Nat) (s1 : Nat) (h : aH) : Option (Int32 × aH) :=
  (isO h 5 s1).bind fun _ =>
  (gX5_keep s1 s0 h).bind fun r =>
  fX10_image_24 v0 r.1 r.2
theorem tX10_image_21 {d : Nat} {z : Int32 × aH} (v0 : Nat) (s0 : Nat) (s1 : Nat) (h : aH) (hf : fX10_image_21 v0 s0 s1 h = some z) : Ev (d + 3) none mX10_image (0, 0) 21 [.ref v0, .null] [.ref s0, .ref s1] h (QI z) := by
  obtain ⟨_, h1, hf⟩ := bnd hf
  obtain ⟨fs, ho⟩ := isO_ok h1
  obtain ⟨r, h2, hf⟩ := bnd hf
  refine ev_V kqX10_image_21 jX5_keep (zX5_keep (d := d + 0) h2) ho rfl rfl (Nat.le_of_ble_eq_true rfl) rfl (as := [.ref s0]) (rest := []) rfl (Nat.le_of_ble_eq_true rfl) (fun _ _ hq => ?_)
  obtain ⟨rfl, rfl⟩ := hq
  exact jm [2, 0] (fun v0 => fX10_image_24 v0 r.1 r.2) (fun v0 q => tX10_image_24 v0 r.1 r.2 q) hf
def wX10_image_13 : List En := [(.aload_n 0, 0, 0, 0), (.getfield 54, 168, 10, 6), (.aload_n 0, 0, 0, 0), (.getfield 68, 170, 10, 8)]
def fX10_image_13 (v0 : Nat) (h : aH) : Option (Int32 × aH) :=
  (gFR h 10 v0 6).bind fun t1 =>
  (gFR h 10 v0 8).bind fun t2 =>
  fX10_image_21 v0 t2 t1 h
theorem tX10_image_13 {d : Nat} {z : Int32 × aH} (v0 : Nat) (h : aH) (hf : fX10_image_13 v0 h = some z) : Ev (d + 3) none mX10_image (0, 0) 13 [.ref v0, .null] [] h (QI z) := 
  go_ok (X := none) (blk := wX10_image_13) (np := 21) (tt := 0) (kN := fun xs h st => app [2, 0] (fun v0 => apS [2, 2] (fun s0 s1 => fX10_image_21 v0 s0 s1 h) st) xs) (kT := fun _ _ _ => none) (kR := kRI)
    (fun xs h st q => jm [2, 0] _ (fun v0 q => apS_ok [2, 2] _ (fun st => Ev (d + 3) none mX10_image (0, 0) 21 [.ref v0, .null] st h (QI z)) st (fun s0 s1 q => tX10_image_21 v0 s0 s1 h q) q) q)
    (fun _ _ _ q => nos q)
    kRI_ok (Or.inr rfl) (by decide +kernel) (by decide +kernel) hf
def wX10_image_12 : List En := [(.ireturn, 0, 0, 0)]
def fX10_image_12 (s0 : Int32) (h : aH) : Option (Int32 × aH) :=
  some (s0, h)
theorem tX10_image_12 {d : Nat} {z : Int32 × aH} (s0 : Int32) (h : aH) (hf : fX10_image_12 s0 h = some z) : Ev (d + 3) none mX10_image (0, 0) 12 [.null, .null] [.int s0] h (QI z) := 
  go_ok (X := none) (blk := wX10_image_12) (np := 13) (tt := 0) (kN := fun _ _ _ => none) (kT := fun _ _ _ => none) (kR := kRI)
    (fun _ _ _ q => nos q)
    (fun _ _ _ q => nos q)
    kRI_ok (Or.inr rfl) (by decide +kernel) (by decide +kernel) hf
theorem kqX10_image_9 : okC mX10_image 9 (.invokevirtual 94) 15 8 0 1 = true := by decide +kernel
def fX10_image_9 (s0 : Int32) (s1 : Nat) (h : aH) : Option (Int32 × aH) :=
  (isO h 10 s1).bind fun _ =>
  (gX10_refuse s1 s0 h).bind fun r =>
  fX10_image_12 r.1 r.2
theorem tX10_image_9 {d : Nat} {z : Int32 × aH} (s0 : Int32) (s1 : Nat) (h : aH) (hf : fX10_image_9 s0 s1 h = some z) : Ev (d + 3) none mX10_image (0, 0) 9 [.null, .null] [.int s0, .ref s1] h (QI z) := by
  obtain ⟨_, h1, hf⟩ := bnd hf
  obtain ⟨fs, ho⟩ := isO_ok h1
  obtain ⟨r, h2, hf⟩ := bnd hf
  refine ev_V kqX10_image_9 jX10_refuse (zX10_refuse (d := d + 2) h2) ho rfl rfl (Nat.le_of_ble_eq_true rfl) rfl (as := [.int s0]) (rest := []) rfl (Nat.le_of_ble_eq_true rfl) (fun _ _ hq => ?_)
  obtain ⟨rfl, rfl⟩ := hq
  exact jm [0, 0] (fX10_image_12 r.1 r.2) (fun q => tX10_image_12 r.1 r.2 q) hf
def wX10_image_7 : List En := [(.aload_n 0, 0, 0, 0), (.iconst 1, 0, 0, 0)]
def fX10_image_7 (v0 : Nat) (h : aH) : Option (Int32 × aH) :=
  fX10_image_9 (kI 1) v0 h
theorem tX10_image_7 {d : Nat} {z : Int32 × aH} (v0 : Nat) (h : aH) (hf : fX10_image_7 v0 h = some z) : Ev (d + 3) none mX10_image (0, 0) 7 [.ref v0, .null] [] h (QI z) := 
  go_ok (X := none) (blk := wX10_image_7) (np := 9) (tt := 0) (kN := fun xs h st => app [0, 0] (apS [1, 2] (fun s0 s1 => fX10_image_9 s0 s1 h) st) xs) (kT := fun _ _ _ => none) (kR := kRI)
    (fun xs h st q => jm [0, 0] _ (fun q => apS_ok [1, 2] _ (fun st => Ev (d + 3) none mX10_image (0, 0) 9 [.null, .null] st h (QI z)) st (fun s0 s1 q => tX10_image_9 s0 s1 h q) q) q)
    (fun _ _ _ q => nos q)
    kRI_ok (Or.inr rfl) (by decide +kernel) (by decide +kernel) hf
def wX10_image_4 : List En := [(.ifCond .eq 9, 13, 0, 0)]
def fX10_image_4 (v0 : Nat) (s0 : Int32) (h : aH) : Option (Int32 × aH) :=
  if s0 = 0 then fX10_image_13 v0 h else fX10_image_7 v0 h
theorem tX10_image_4 {d : Nat} {z : Int32 × aH} (v0 : Nat) (s0 : Int32) (h : aH) (hf : fX10_image_4 v0 s0 h = some z) : Ev (d + 3) none mX10_image (0, 0) 4 [.ref v0, .null] [.int s0] h (QI z) := 
  go_ok (X := none) (blk := wX10_image_4) (np := 7) (tt := 13) (kN := fun xs h st => app [2, 0] (fun v0 => apS [] (fX10_image_7 v0 h) st) xs) (kT := fun xs h st => app [2, 0] (fun v0 => apS [] (fX10_image_13 v0 h) st) xs) (kR := kRI)
    (fun xs h st q => jm [2, 0] _ (fun v0 q => apS_ok [] _ (fun st => Ev (d + 3) none mX10_image (0, 0) 7 [.ref v0, .null] st h (QI z)) st (fun q => tX10_image_7 v0 h q) q) q)
    (fun xs h st q => jm [2, 0] _ (fun v0 q => apS_ok [] _ (fun st => Ev (d + 3) none mX10_image (0, 0) 13 [.ref v0, .null] st h (QI z)) st (fun q => tX10_image_13 v0 h q) q) q)
    kRI_ok (Or.inr rfl) (by decide +kernel) (by decide +kernel) hf
theorem kqX10_image_1 : okC mX10_image 1 (.invokevirtual 159) 68 52 0 0 = true := by decide +kernel
def fX10_image_1 (v0 : Nat) (s0 : Nat) (h : aH) : Option (Int32 × aH) :=
  (isO h 10 s0).bind fun _ =>
  (gX10_lacksTable s0 h).bind fun r =>
  fX10_image_4 v0 r.1 r.2
theorem tX10_image_1 {d : Nat} {z : Int32 × aH} (v0 : Nat) (s0 : Nat) (h : aH) (hf : fX10_image_1 v0 s0 h = some z) : Ev (d + 3) none mX10_image (0, 0) 1 [.ref v0, .null] [.ref s0] h (QI z) := by
  obtain ⟨_, h1, hf⟩ := bnd hf
  obtain ⟨fs, ho⟩ := isO_ok h1
  obtain ⟨r, h2, hf⟩ := bnd hf
  refine ev_V kqX10_image_1 jX10_lacksTable (zX10_lacksTable (d := d + 2) h2) ho rfl rfl (Nat.le_of_ble_eq_true rfl) rfl (as := []) (rest := []) rfl (Nat.le_of_ble_eq_true rfl) (fun _ _ hq => ?_)
  obtain ⟨-, rfl, rfl⟩ := hq
  exact jm [2, 0] (fun v0 => fX10_image_4 v0 r.1 r.2) (fun v0 q => tX10_image_4 v0 r.1 r.2 q) hf
def wX10_image_0 : List En := [(.aload_n 0, 0, 0, 0)]
def fX10_image_0 (v0 : Nat) (h : aH) : Option (Int32 × aH) :=
  fX10_image_1 v0 v0 h
theorem tX10_image_0 {d : Nat} {z : Int32 × aH} (v0 : Nat) (h : aH) (hf : fX10_image_0 v0 h = some z) : Ev (d + 3) none mX10_image (0, 0) 0 [.ref v0, .null] [] h (QI z) := 
  go_ok (X := none) (blk := wX10_image_0) (np := 1) (tt := 0) (kN := fun xs h st => app [2, 0] (fun v0 => apS [2] (fun s0 => fX10_image_1 v0 s0 h) st) xs) (kT := fun _ _ _ => none) (kR := kRI)
    (fun xs h st q => jm [2, 0] _ (fun v0 q => apS_ok [2] _ (fun st => Ev (d + 3) none mX10_image (0, 0) 1 [.ref v0, .null] st h (QI z)) st (fun s0 q => tX10_image_1 v0 s0 h q) q) q)
    (fun _ _ _ q => nos q)
    kRI_ok (Or.inr rfl) (by decide +kernel) (by decide +kernel) hf
def gX10_image (v0 : Nat) (h : aH) : Option (Int32 × aH) := fX10_image_0 v0 h
theorem zX10_image {d : Nat} {z : Int32 × aH} {v0 : Nat} {h : aH} (q : gX10_image v0 h = some z) : CT (d + 3) mX10_image (0, 0) [.ref v0] h (QI z) :=
  ct_ev (by decide +kernel) (Nat.le_of_ble_eq_true rfl) QI_r (jm [2, 0] (fun v0 => fX10_image_0 v0 h) (fun v0 q => tX10_image_0 v0 h q) q)
def wX5_show_12 : List En := [(.iconst 0, 0, 0, 0), (.ireturn, 0, 0, 0)]
def fX5_show_12 (h : aH) : Option (Int32 × aH) :=
  if (kI 0) = 0 ∨ (kI 0) = 1 then some ((kI 0), h) else none
theorem tX5_show_12 {d : Nat} {z : Int32 × aH} (h : aH) (hf : fX5_show_12 h = some z) : Ev (d + 2) none mX5_show (0, 0) 12 [.null, .null, .null] [] h (QZ z) := 
  go_ok (X := none) (blk := wX5_show_12) (np := 14) (tt := 0) (kN := fun _ _ _ => none) (kT := fun _ _ _ => none) (kR := kRZ)
    (fun _ _ _ q => nos q)
    (fun _ _ _ q => nos q)
    kRZ_ok (Or.inr rfl) (by decide +kernel) (by decide +kernel) hf
def wX5_show_24 : List En := [(.iconst 1, 0, 0, 0), (.ireturn, 0, 0, 0)]
def fX5_show_24 (h : aH) : Option (Int32 × aH) :=
  if (kI 1) = 0 ∨ (kI 1) = 1 then some ((kI 1), h) else none
theorem tX5_show_24 {d : Nat} {z : Int32 × aH} (h : aH) (hf : fX5_show_24 h = some z) : Ev (d + 2) none mX5_show (0, 0) 24 [.null, .null, .null] [] h (QZ z) := 
  go_ok (X := none) (blk := wX5_show_24) (np := 26) (tt := 0) (kN := fun _ _ _ => none) (kT := fun _ _ _ => none) (kR := kRZ)
    (fun _ _ _ q => nos q)
    (fun _ _ _ q => nos q)
    kRZ_ok (Or.inr rfl) (by decide +kernel) (by decide +kernel) hf
theorem kqX5_show_21 : okC mX5_show 21 (.invokevirtual 22) 81 186 0 1 = true := by decide +kernel
def fX5_show_21 (s0 : Nat) (s1 : Nat) (h : aH) : Option (Int32 × aH) :=
  (isO h 7 s1).bind fun _ =>
  (gX7_copy s1 s0 h).bind fun r =>
  fX5_show_24 r
theorem tX5_show_21 {d : Nat} {z : Int32 × aH} (s0 : Nat) (s1 : Nat) (h : aH) (hf : fX5_show_21 s0 s1 h = some z) : Ev (d + 2) none mX5_show (0, 0) 21 [.null, .null, .null] [.ref s0, .ref s1] h (QZ z) := by
  obtain ⟨_, h1, hf⟩ := bnd hf
  obtain ⟨fs, ho⟩ := isO_ok h1
  obtain ⟨r, h2, hf⟩ := bnd hf
  refine ev_V kqX5_show_21 jX7_copy (zX7_copy (d := d + 0) h2) ho rfl rfl (Nat.le_of_ble_eq_true rfl) rfl (as := [.ref s0]) (rest := []) rfl (Nat.le_of_ble_eq_true rfl) (fun _ _ hq => ?_)
  obtain ⟨rfl, hh⟩ := hq
  rw [hh]
  exact jm [0, 0, 0] (fX5_show_24 r) (fun q => tX5_show_24 r q) hf
def wX5_show_14 : List En := [(.aload_n 2, 0, 0, 0), (.aload_n 0, 0, 0, 0), (.getfield 11, 91, 5, 1), (.iload_n 1, 0, 0, 0), (.aaload, 0, 0, 0)]
def fX5_show_14 (v0 : Nat) (v1 : Int32) (v2 : Nat) (h : aH) : Option (Int32 × aH) :=
  (gFR h 5 v0 1).bind fun t1 =>
  (aRR (h[t1]?) v1).bind fun t2 =>
  fX5_show_21 t2 v2 h
theorem tX5_show_14 {d : Nat} {z : Int32 × aH} (v0 : Nat) (v1 : Int32) (v2 : Nat) (h : aH) (hf : fX5_show_14 v0 v1 v2 h = some z) : Ev (d + 2) none mX5_show (0, 0) 14 [.ref v0, .int v1, .ref v2] [] h (QZ z) := 
  go_ok (X := none) (blk := wX5_show_14) (np := 21) (tt := 0) (kN := fun xs h st => app [0, 0, 0] (apS [2, 2] (fun s0 s1 => fX5_show_21 s0 s1 h) st) xs) (kT := fun _ _ _ => none) (kR := kRZ)
    (fun xs h st q => jm [0, 0, 0] _ (fun q => apS_ok [2, 2] _ (fun st => Ev (d + 2) none mX5_show (0, 0) 21 [.null, .null, .null] st h (QZ z)) st (fun s0 s1 q => tX5_show_21 s0 s1 h q) q) q)
    (fun _ _ _ q => nos q)
    kRZ_ok (Or.inr rfl) (by decide +kernel) (by decide +kernel) hf
def wX5_show_4 : List En := [(.iload_n 1, 0, 0, 0), (.aload_n 0, 0, 0, 0), (.getfield 18, 89, 5, 0), (.if_icmp .lt 5, 14, 0, 0)]
def fX5_show_4 (v0 : Nat) (v1 : Int32) (v2 : Nat) (h : aH) : Option (Int32 × aH) :=
  (gFI h 5 v0 0).bind fun t1 =>
  if v1 < t1 then fX5_show_14 v0 v1 v2 h else fX5_show_12 h
theorem tX5_show_4 {d : Nat} {z : Int32 × aH} (v0 : Nat) (v1 : Int32) (v2 : Nat) (h : aH) (hf : fX5_show_4 v0 v1 v2 h = some z) : Ev (d + 2) none mX5_show (0, 0) 4 [.ref v0, .int v1, .ref v2] [] h (QZ z) := 
  go_ok (X := none) (blk := wX5_show_4) (np := 12) (tt := 14) (kN := fun xs h st => app [0, 0, 0] (apS [] (fX5_show_12 h) st) xs) (kT := fun xs h st => app [2, 1, 2] (fun v0 v1 v2 => apS [] (fX5_show_14 v0 v1 v2 h) st) xs) (kR := kRZ)
    (fun xs h st q => jm [0, 0, 0] _ (fun q => apS_ok [] _ (fun st => Ev (d + 2) none mX5_show (0, 0) 12 [.null, .null, .null] st h (QZ z)) st (fun q => tX5_show_12 h q) q) q)
    (fun xs h st q => jm [2, 1, 2] _ (fun v0 v1 v2 q => apS_ok [] _ (fun st => Ev (d + 2) none mX5_show (0, 0) 14 [.ref v0, .int v1, .ref v2] st h (QZ z)) st (fun q => tX5_show_14 v0 v1 v2 h q) q) q)
    kRZ_ok (Or.inr rfl) (by decide +kernel) (by decide +kernel) hf
def wX5_show_0 : List En := [(.iload_n 1, 0, 0, 0), (.ifCond .lt 11, 12, 0, 0)]
def fX5_show_0 (v0 : Nat) (v1 : Int32) (v2 : Nat) (h : aH) : Option (Int32 × aH) :=
  if v1 < 0 then fX5_show_12 h else fX5_show_4 v0 v1 v2 h
theorem tX5_show_0 {d : Nat} {z : Int32 × aH} (v0 : Nat) (v1 : Int32) (v2 : Nat) (h : aH) (hf : fX5_show_0 v0 v1 v2 h = some z) : Ev (d + 2) none mX5_show (0, 0) 0 [.ref v0, .int v1, .ref v2] [] h (QZ z) := 
  go_ok (X := none) (blk := wX5_show_0) (np := 4) (tt := 12) (kN := fun xs h st => app [2, 1, 2] (fun v0 v1 v2 => apS [] (fX5_show_4 v0 v1 v2 h) st) xs) (kT := fun xs h st => app [0, 0, 0] (apS [] (fX5_show_12 h) st) xs) (kR := kRZ)
    (fun xs h st q => jm [2, 1, 2] _ (fun v0 v1 v2 q => apS_ok [] _ (fun st => Ev (d + 2) none mX5_show (0, 0) 4 [.ref v0, .int v1, .ref v2] st h (QZ z)) st (fun q => tX5_show_4 v0 v1 v2 h q) q) q)
    (fun xs h st q => jm [0, 0, 0] _ (fun q => apS_ok [] _ (fun st => Ev (d + 2) none mX5_show (0, 0) 12 [.null, .null, .null] st h (QZ z)) st (fun q => tX5_show_12 h q) q) q)
    kRZ_ok (Or.inr rfl) (by decide +kernel) (by decide +kernel) hf
def gX5_show (v0 : Nat) (v1 : Int32) (v2 : Nat) (h : aH) : Option (Int32 × aH) := fX5_show_0 v0 v1 v2 h
theorem zX5_show {d : Nat} {z : Int32 × aH} {v0 : Nat} {v1 : Int32} {v2 : Nat} {h : aH} (q : gX5_show v0 v1 v2 h = some z) : CT (d + 2) mX5_show (0, 0) [.ref v0, .int v1, .ref v2] h (QZ z) :=
  ct_ev (by decide +kernel) (Nat.le_of_ble_eq_true rfl) QZ_r (jm [2, 1, 2] (fun v0 v1 v2 => fX5_show_0 v0 v1 v2 h) (fun v0 v1 v2 q => tX5_show_0 v0 v1 v2 h q) q)
def wX10_back_34 : List En := [(.putfield 122, 173, 10, 11), (.iload_n 2, 0, 0, 0), (.ireturn, 0, 0, 0)]
def fX10_back_34 (v2 : Int32) (s0 : Int32) (s1 : Nat) (h : aH) : Option (Int32 × aH) :=
  (pWV h 10 s1 11 (.int s0)).bind fun h1 =>
  if v2 = 0 ∨ v2 = 1 then some (v2, h1) else none
theorem tX10_back_34 {d : Nat} {z : Int32 × aH} (v2 : Int32) (s0 : Int32) (s1 : Nat) (h : aH) (hf : fX10_back_34 v2 s0 s1 h = some z) : Ev (d + 3) none mX10_back (0, 0) 34 [.null, .null, .int v2] [.int s0, .ref s1] h (QZ z) := 
  go_ok (X := none) (blk := wX10_back_34) (np := 39) (tt := 0) (kN := fun _ _ _ => none) (kT := fun _ _ _ => none) (kR := kRZ)
    (fun _ _ _ q => nos q)
    (fun _ _ _ q => nos q)
    kRZ_ok (Or.inr rfl) (by decide +kernel) (by decide +kernel) hf
def wX10_back_33 : List En := [(.iconst 1, 0, 0, 0)]
def fX10_back_33 (v2 : Int32) (s0 : Nat) (h : aH) : Option (Int32 × aH) :=
  fX10_back_34 v2 (kI 1) s0 h
theorem tX10_back_33 {d : Nat} {z : Int32 × aH} (v2 : Int32) (s0 : Nat) (h : aH) (hf : fX10_back_33 v2 s0 h = some z) : Ev (d + 3) none mX10_back (0, 0) 33 [.null, .null, .int v2] [.ref s0] h (QZ z) := 
  go_ok (X := none) (blk := wX10_back_33) (np := 34) (tt := 0) (kN := fun xs h st => app [0, 0, 1] (fun v2 => apS [1, 2] (fun s0 s1 => fX10_back_34 v2 s0 s1 h) st) xs) (kT := fun _ _ _ => none) (kR := kRZ)
    (fun xs h st q => jm [0, 0, 1] _ (fun v2 q => apS_ok [1, 2] _ (fun st => Ev (d + 3) none mX10_back (0, 0) 34 [.null, .null, .int v2] st h (QZ z)) st (fun s0 s1 q => tX10_back_34 v2 s0 s1 h q) q) q)
    (fun _ _ _ q => nos q)
    kRZ_ok (Or.inr rfl) (by decide +kernel) (by decide +kernel) hf
def wX10_back_29 : List En := [(.iconst 0, 0, 0, 0), (.goto 4, 34, 0, 0)]
def fX10_back_29 (v2 : Int32) (s0 : Nat) (h : aH) : Option (Int32 × aH) :=
  fX10_back_34 v2 (kI 0) s0 h
theorem tX10_back_29 {d : Nat} {z : Int32 × aH} (v2 : Int32) (s0 : Nat) (h : aH) (hf : fX10_back_29 v2 s0 h = some z) : Ev (d + 3) none mX10_back (0, 0) 29 [.null, .null, .int v2] [.ref s0] h (QZ z) := 
  go_ok (X := none) (blk := wX10_back_29) (np := 33) (tt := 34) (kN := fun _ _ _ => none) (kT := fun xs h st => app [0, 0, 1] (fun v2 => apS [1, 2] (fun s0 s1 => fX10_back_34 v2 s0 s1 h) st) xs) (kR := kRZ)
    (fun _ _ _ q => nos q)
    (fun xs h st q => jm [0, 0, 1] _ (fun v2 q => apS_ok [1, 2] _ (fun st => Ev (d + 3) none mX10_back (0, 0) 34 [.null, .null, .int v2] st h (QZ z)) st (fun s0 s1 q => tX10_back_34 v2 s0 s1 h q) q) q)
    kRZ_ok (Or.inr rfl) (by decide +kernel) (by decide +kernel) hf
def wX10_back_24 : List En := [(.aload_n 0, 0, 0, 0), (.iload_n 2, 0, 0, 0), (.ifCond .eq 7, 33, 0, 0)]
def fX10_back_24 (v0 : Nat) (v2 : Int32) (h : aH) : Option (Int32 × aH) :=
  if v2 = 0 then fX10_back_33 v2 v0 h else fX10_back_29 v2 v0 h
theorem tX10_back_24 {d : Nat} {z : Int32 × aH} (v0 : Nat) (v2 : Int32) (h : aH) (hf : fX10_back_24 v0 v2 h = some z) : Ev (d + 3) none mX10_back (0, 0) 24 [.ref v0, .null, .int v2] [] h (QZ z) := 
  go_ok (X := none) (blk := wX10_back_24) (np := 29) (tt := 33) (kN := fun xs h st => app [0, 0, 1] (fun v2 => apS [2] (fun s0 => fX10_back_29 v2 s0 h) st) xs) (kT := fun xs h st => app [0, 0, 1] (fun v2 => apS [2] (fun s0 => fX10_back_33 v2 s0 h) st) xs) (kR := kRZ)
    (fun xs h st q => jm [0, 0, 1] _ (fun v2 q => apS_ok [2] _ (fun st => Ev (d + 3) none mX10_back (0, 0) 29 [.null, .null, .int v2] st h (QZ z)) st (fun s0 q => tX10_back_29 v2 s0 h q) q) q)
    (fun xs h st q => jm [0, 0, 1] _ (fun v2 q => apS_ok [2] _ (fun st => Ev (d + 3) none mX10_back (0, 0) 33 [.null, .null, .int v2] st h (QZ z)) st (fun s0 q => tX10_back_33 v2 s0 h q) q) q)
    kRZ_ok (Or.inr rfl) (by decide +kernel) (by decide +kernel) hf
theorem kqX10_back_21 : okC mX10_back 21 (.invokevirtual 112) 58 42 0 0 = true := by decide +kernel
def fX10_back_21 (v0 : Nat) (v2 : Int32) (s0 : Nat) (h : aH) : Option (Int32 × aH) :=
  (isO h 4 s0).bind fun _ =>
  (gX4_forget s0 h).bind fun r =>
  fX10_back_24 v0 v2 r
theorem tX10_back_21 {d : Nat} {z : Int32 × aH} (v0 : Nat) (v2 : Int32) (s0 : Nat) (h : aH) (hf : fX10_back_21 v0 v2 s0 h = some z) : Ev (d + 3) none mX10_back (0, 0) 21 [.ref v0, .null, .int v2] [.ref s0] h (QZ z) := by
  obtain ⟨_, h1, hf⟩ := bnd hf
  obtain ⟨fs, ho⟩ := isO_ok h1
  obtain ⟨r, h2, hf⟩ := bnd hf
  refine ev_V kqX10_back_21 jX4_forget (zX4_forget (d := d + 2) h2) ho rfl rfl (Nat.le_of_ble_eq_true rfl) rfl (as := []) (rest := []) rfl (Nat.le_of_ble_eq_true rfl) (fun _ _ hq => ?_)
  obtain ⟨rfl, hh⟩ := hq
  rw [hh]
  exact jm [2, 0, 1] (fun v0 v2 => fX10_back_24 v0 v2 r) (fun v0 v2 q => tX10_back_24 v0 v2 r q) hf
def wX10_back_17 : List En := [(.aload_n 0, 0, 0, 0), (.getfield 47, 167, 10, 5)]
def fX10_back_17 (v0 : Nat) (v2 : Int32) (h : aH) : Option (Int32 × aH) :=
  (gFR h 10 v0 5).bind fun t1 =>
  fX10_back_21 v0 v2 t1 h
theorem tX10_back_17 {d : Nat} {z : Int32 × aH} (v0 : Nat) (v2 : Int32) (h : aH) (hf : fX10_back_17 v0 v2 h = some z) : Ev (d + 3) none mX10_back (0, 0) 17 [.ref v0, .null, .int v2] [] h (QZ z) := 
  go_ok (X := none) (blk := wX10_back_17) (np := 21) (tt := 0) (kN := fun xs h st => app [2, 0, 1] (fun v0 v2 => apS [2] (fun s0 => fX10_back_21 v0 v2 s0 h) st) xs) (kT := fun _ _ _ => none) (kR := kRZ)
    (fun xs h st q => jm [2, 0, 1] _ (fun v0 v2 q => apS_ok [2] _ (fun st => Ev (d + 3) none mX10_back (0, 0) 21 [.ref v0, .null, .int v2] st h (QZ z)) st (fun s0 q => tX10_back_21 v0 v2 s0 h q) q) q)
    (fun _ _ _ q => nos q)
    kRZ_ok (Or.inr rfl) (by decide +kernel) (by decide +kernel) hf
def wX10_back_12 : List En := [(.istore_n 2, 0, 0, 0), (.iload_n 2, 0, 0, 0), (.ifCond .eq 10, 24, 0, 0)]
def fX10_back_12 (v0 : Nat) (s0 : Int32) (h : aH) : Option (Int32 × aH) :=
  if s0 = 0 then fX10_back_24 v0 s0 h else fX10_back_17 v0 s0 h
theorem tX10_back_12 {d : Nat} {z : Int32 × aH} (v0 : Nat) (s0 : Int32) (h : aH) (hf : fX10_back_12 v0 s0 h = some z) : Ev (d + 3) none mX10_back (0, 0) 12 [.ref v0, .null, .null] [.int s0] h (QZ z) := 
  go_ok (X := none) (blk := wX10_back_12) (np := 17) (tt := 24) (kN := fun xs h st => app [2, 0, 1] (fun v0 v2 => apS [] (fX10_back_17 v0 v2 h) st) xs) (kT := fun xs h st => app [2, 0, 1] (fun v0 v2 => apS [] (fX10_back_24 v0 v2 h) st) xs) (kR := kRZ)
    (fun xs h st q => jm [2, 0, 1] _ (fun v0 v2 q => apS_ok [] _ (fun st => Ev (d + 3) none mX10_back (0, 0) 17 [.ref v0, .null, .int v2] st h (QZ z)) st (fun q => tX10_back_17 v0 v2 h q) q) q)
    (fun xs h st q => jm [2, 0, 1] _ (fun v0 v2 q => apS_ok [] _ (fun st => Ev (d + 3) none mX10_back (0, 0) 24 [.ref v0, .null, .int v2] st h (QZ z)) st (fun q => tX10_back_24 v0 v2 h q) q) q)
    kRZ_ok (Or.inr rfl) (by decide +kernel) (by decide +kernel) hf
theorem kqX10_back_9 : okC mX10_back 9 (.invokevirtual 355) 173 188 0 2 = true := by decide +kernel
def fX10_back_9 (v0 : Nat) (s0 : Nat) (s1 : Int32) (s2 : Nat) (h : aH) : Option (Int32 × aH) :=
  (isO h 5 s2).bind fun _ =>
  (gX5_show s2 s1 s0 h).bind fun r =>
  fX10_back_12 v0 r.1 r.2
theorem tX10_back_9 {d : Nat} {z : Int32 × aH} (v0 : Nat) (s0 : Nat) (s1 : Int32) (s2 : Nat) (h : aH) (hf : fX10_back_9 v0 s0 s1 s2 h = some z) : Ev (d + 3) none mX10_back (0, 0) 9 [.ref v0, .null, .null] [.ref s0, .int s1, .ref s2] h (QZ z) := by
  obtain ⟨_, h1, hf⟩ := bnd hf
  obtain ⟨fs, ho⟩ := isO_ok h1
  obtain ⟨r, h2, hf⟩ := bnd hf
  refine ev_V kqX10_back_9 jX5_show (zX5_show (d := d + 0) h2) ho rfl rfl (Nat.le_of_ble_eq_true rfl) rfl (as := [.int s1, .ref s0]) (rest := []) rfl (Nat.le_of_ble_eq_true rfl) (fun _ _ hq => ?_)
  obtain ⟨-, rfl, rfl⟩ := hq
  exact jm [2, 0, 0] (fun v0 => fX10_back_12 v0 r.1 r.2) (fun v0 q => tX10_back_12 v0 r.1 r.2 q) hf
def wX10_back_0 : List En := [(.aload_n 0, 0, 0, 0), (.getfield 54, 168, 10, 6), (.iload_n 1, 0, 0, 0), (.aload_n 0, 0, 0, 0), (.getfield 68, 170, 10, 8)]
def fX10_back_0 (v0 : Nat) (v1 : Int32) (h : aH) : Option (Int32 × aH) :=
  (gFR h 10 v0 6).bind fun t1 =>
  (gFR h 10 v0 8).bind fun t2 =>
  fX10_back_9 v0 t2 v1 t1 h
theorem tX10_back_0 {d : Nat} {z : Int32 × aH} (v0 : Nat) (v1 : Int32) (h : aH) (hf : fX10_back_0 v0 v1 h = some z) : Ev (d + 3) none mX10_back (0, 0) 0 [.ref v0, .int v1, .null] [] h (QZ z) := 
  go_ok (X := none) (blk := wX10_back_0) (np := 9) (tt := 0) (kN := fun xs h st => app [2, 0, 0] (fun v0 => apS [2, 1, 2] (fun s0 s1 s2 => fX10_back_9 v0 s0 s1 s2 h) st) xs) (kT := fun _ _ _ => none) (kR := kRZ)
    (fun xs h st q => jm [2, 0, 0] _ (fun v0 q => apS_ok [2, 1, 2] _ (fun st => Ev (d + 3) none mX10_back (0, 0) 9 [.ref v0, .null, .null] st h (QZ z)) st (fun s0 s1 s2 q => tX10_back_9 v0 s0 s1 s2 h q) q) q)
    (fun _ _ _ q => nos q)
    kRZ_ok (Or.inr rfl) (by decide +kernel) (by decide +kernel) hf
def gX10_back (v0 : Nat) (v1 : Int32) (h : aH) : Option (Int32 × aH) := fX10_back_0 v0 v1 h
theorem zX10_back {d : Nat} {z : Int32 × aH} {v0 : Nat} {v1 : Int32} {h : aH} (q : gX10_back v0 v1 h = some z) : CT (d + 3) mX10_back (0, 0) [.ref v0, .int v1] h (QZ z) :=
  ct_ev (by decide +kernel) (Nat.le_of_ble_eq_true rfl) QZ_r (jm [2, 1, 0] (fun v0 v1 => fX10_back_0 v0 v1 h) (fun v0 v1 q => tX10_back_0 v0 v1 h q) q)
def wX10_size_160 : List En := [(.iconst (-1), 0, 0, 0), (.ireturn, 0, 0, 0)]
def fX10_size_160 (h : aH) : Option (Int32 × aH) :=
  some ((kI (-1)), h)
theorem tX10_size_160 {d : Nat} {z : Int32 × aH} (h : aH) (hf : fX10_size_160 h = some z) : Ev (d + 0) none mX10_size (0, 0) 160 [.null, .null] [] h (QI z) := 
  go_ok (X := none) (blk := wX10_size_160) (np := 162) (tt := 0) (kN := fun _ _ _ => none) (kT := fun _ _ _ => none) (kR := kRI)
    (fun _ _ _ q => nos q)
    (fun _ _ _ q => nos q)
    kRI_ok (Or.inr rfl) (by decide +kernel) (by decide +kernel) hf
def wX10_size_64 : List En := [(.aload_n 0, 0, 0, 0), (.getfield 75, 171, 10, 9), (.getfield 225, 98, 9, 0), (.ireturn, 0, 0, 0)]
def fX10_size_64 (v0 : Nat) (h : aH) : Option (Int32 × aH) :=
  (gFR h 10 v0 9).bind fun t1 =>
  (gFI h 9 t1 0).bind fun t2 =>
  some (t2, h)
theorem tX10_size_64 {d : Nat} {z : Int32 × aH} (v0 : Nat) (h : aH) (hf : fX10_size_64 v0 h = some z) : Ev (d + 0) none mX10_size (0, 0) 64 [.ref v0, .null] [] h (QI z) := 
  go_ok (X := none) (blk := wX10_size_64) (np := 72) (tt := 0) (kN := fun _ _ _ => none) (kT := fun _ _ _ => none) (kR := kRI)
    (fun _ _ _ q => nos q)
    (fun _ _ _ q => nos q)
    kRI_ok (Or.inr rfl) (by decide +kernel) (by decide +kernel) hf
def wX10_size_72 : List En := [(.aload_n 0, 0, 0, 0), (.getfield 75, 171, 10, 9), (.getfield 362, 102, 9, 1), (.ireturn, 0, 0, 0)]
def fX10_size_72 (v0 : Nat) (h : aH) : Option (Int32 × aH) :=
  (gFR h 10 v0 9).bind fun t1 =>
  (gFI h 9 t1 1).bind fun t2 =>
  some (t2, h)
theorem tX10_size_72 {d : Nat} {z : Int32 × aH} (v0 : Nat) (h : aH) (hf : fX10_size_72 v0 h = some z) : Ev (d + 0) none mX10_size (0, 0) 72 [.ref v0, .null] [] h (QI z) := 
  go_ok (X := none) (blk := wX10_size_72) (np := 80) (tt := 0) (kN := fun _ _ _ => none) (kT := fun _ _ _ => none) (kR := kRI)
    (fun _ _ _ q => nos q)
    (fun _ _ _ q => nos q)
    kRI_ok (Or.inr rfl) (by decide +kernel) (by decide +kernel) hf
def wX10_size_80 : List En := [(.aload_n 0, 0, 0, 0), (.getfield 75, 171, 10, 9), (.getfield 365, 106, 9, 2), (.ireturn, 0, 0, 0)]
def fX10_size_80 (v0 : Nat) (h : aH) : Option (Int32 × aH) :=
  (gFR h 10 v0 9).bind fun t1 =>
  (gFI h 9 t1 2).bind fun t2 =>
  some (t2, h)
theorem tX10_size_80 {d : Nat} {z : Int32 × aH} (v0 : Nat) (h : aH) (hf : fX10_size_80 v0 h = some z) : Ev (d + 0) none mX10_size (0, 0) 80 [.ref v0, .null] [] h (QI z) := 
  go_ok (X := none) (blk := wX10_size_80) (np := 88) (tt := 0) (kN := fun _ _ _ => none) (kT := fun _ _ _ => none) (kR := kRI)
    (fun _ _ _ q => nos q)
    (fun _ _ _ q => nos q)
    kRI_ok (Or.inr rfl) (by decide +kernel) (by decide +kernel) hf
def wX10_size_88 : List En := [(.aload_n 0, 0, 0, 0), (.getfield 75, 171, 10, 9), (.getfield 116, 110, 9, 3), (.ireturn, 0, 0, 0)]
def fX10_size_88 (v0 : Nat) (h : aH) : Option (Int32 × aH) :=
  (gFR h 10 v0 9).bind fun t1 =>
  (gFI h 9 t1 3).bind fun t2 =>
  some (t2, h)
theorem tX10_size_88 {d : Nat} {z : Int32 × aH} (v0 : Nat) (h : aH) (hf : fX10_size_88 v0 h = some z) : Ev (d + 0) none mX10_size (0, 0) 88 [.ref v0, .null] [] h (QI z) := 
  go_ok (X := none) (blk := wX10_size_88) (np := 96) (tt := 0) (kN := fun _ _ _ => none) (kT := fun _ _ _ => none) (kR := kRI)
    (fun _ _ _ q => nos q)
    (fun _ _ _ q => nos q)
    kRI_ok (Or.inr rfl) (by decide +kernel) (by decide +kernel) hf
def wX10_size_96 : List En := [(.aload_n 0, 0, 0, 0), (.getfield 75, 171, 10, 9), (.getfield 368, 116, 9, 4), (.ireturn, 0, 0, 0)]
def fX10_size_96 (v0 : Nat) (h : aH) : Option (Int32 × aH) :=
  (gFR h 10 v0 9).bind fun t1 =>
  (gFI h 9 t1 4).bind fun t2 =>
  some (t2, h)
theorem tX10_size_96 {d : Nat} {z : Int32 × aH} (v0 : Nat) (h : aH) (hf : fX10_size_96 v0 h = some z) : Ev (d + 0) none mX10_size (0, 0) 96 [.ref v0, .null] [] h (QI z) := 
  go_ok (X := none) (blk := wX10_size_96) (np := 104) (tt := 0) (kN := fun _ _ _ => none) (kT := fun _ _ _ => none) (kR := kRI)
    (fun _ _ _ q => nos q)
    (fun _ _ _ q => nos q)
    kRI_ok (Or.inr rfl) (by decide +kernel) (by decide +kernel) hf
def wX10_size_104 : List En := [(.aload_n 0, 0, 0, 0), (.getfield 75, 171, 10, 9), (.getfield 371, 119, 9, 5), (.ireturn, 0, 0, 0)]
def fX10_size_104 (v0 : Nat) (h : aH) : Option (Int32 × aH) :=
  (gFR h 10 v0 9).bind fun t1 =>
  (gFI h 9 t1 5).bind fun t2 =>
  some (t2, h)
theorem tX10_size_104 {d : Nat} {z : Int32 × aH} (v0 : Nat) (h : aH) (hf : fX10_size_104 v0 h = some z) : Ev (d + 0) none mX10_size (0, 0) 104 [.ref v0, .null] [] h (QI z) := 
  go_ok (X := none) (blk := wX10_size_104) (np := 112) (tt := 0) (kN := fun _ _ _ => none) (kT := fun _ _ _ => none) (kR := kRI)
    (fun _ _ _ q => nos q)
    (fun _ _ _ q => nos q)
    kRI_ok (Or.inr rfl) (by decide +kernel) (by decide +kernel) hf
def wX10_size_112 : List En := [(.aload_n 0, 0, 0, 0), (.getfield 75, 171, 10, 9), (.getfield 374, 124, 9, 6), (.ireturn, 0, 0, 0)]
def fX10_size_112 (v0 : Nat) (h : aH) : Option (Int32 × aH) :=
  (gFR h 10 v0 9).bind fun t1 =>
  (gFI h 9 t1 6).bind fun t2 =>
  some (t2, h)
theorem tX10_size_112 {d : Nat} {z : Int32 × aH} (v0 : Nat) (h : aH) (hf : fX10_size_112 v0 h = some z) : Ev (d + 0) none mX10_size (0, 0) 112 [.ref v0, .null] [] h (QI z) := 
  go_ok (X := none) (blk := wX10_size_112) (np := 120) (tt := 0) (kN := fun _ _ _ => none) (kT := fun _ _ _ => none) (kR := kRI)
    (fun _ _ _ q => nos q)
    (fun _ _ _ q => nos q)
    kRI_ok (Or.inr rfl) (by decide +kernel) (by decide +kernel) hf
def wX10_size_120 : List En := [(.aload_n 0, 0, 0, 0), (.getfield 75, 171, 10, 9), (.getfield 377, 128, 9, 7), (.ireturn, 0, 0, 0)]
def fX10_size_120 (v0 : Nat) (h : aH) : Option (Int32 × aH) :=
  (gFR h 10 v0 9).bind fun t1 =>
  (gFI h 9 t1 7).bind fun t2 =>
  some (t2, h)
theorem tX10_size_120 {d : Nat} {z : Int32 × aH} (v0 : Nat) (h : aH) (hf : fX10_size_120 v0 h = some z) : Ev (d + 0) none mX10_size (0, 0) 120 [.ref v0, .null] [] h (QI z) := 
  go_ok (X := none) (blk := wX10_size_120) (np := 128) (tt := 0) (kN := fun _ _ _ => none) (kT := fun _ _ _ => none) (kR := kRI)
    (fun _ _ _ q => nos q)
    (fun _ _ _ q => nos q)
    kRI_ok (Or.inr rfl) (by decide +kernel) (by decide +kernel) hf
def wX10_size_128 : List En := [(.aload_n 0, 0, 0, 0), (.getfield 68, 170, 10, 8), (.getfield 332, 35, 7, 6), (.ireturn, 0, 0, 0)]
def fX10_size_128 (v0 : Nat) (h : aH) : Option (Int32 × aH) :=
  (gFR h 10 v0 8).bind fun t1 =>
  (gFI h 7 t1 6).bind fun t2 =>
  some (t2, h)
theorem tX10_size_128 {d : Nat} {z : Int32 × aH} (v0 : Nat) (h : aH) (hf : fX10_size_128 v0 h = some z) : Ev (d + 0) none mX10_size (0, 0) 128 [.ref v0, .null] [] h (QI z) := 
  go_ok (X := none) (blk := wX10_size_128) (np := 136) (tt := 0) (kN := fun _ _ _ => none) (kT := fun _ _ _ => none) (kR := kRI)
    (fun _ _ _ q => nos q)
    (fun _ _ _ q => nos q)
    kRI_ok (Or.inr rfl) (by decide +kernel) (by decide +kernel) hf
def wX10_size_136 : List En := [(.aload_n 0, 0, 0, 0), (.getfield 47, 167, 10, 5), (.getfield 380, 86, 4, 0), (.ireturn, 0, 0, 0)]
def fX10_size_136 (v0 : Nat) (h : aH) : Option (Int32 × aH) :=
  (gFR h 10 v0 5).bind fun t1 =>
  (gFI h 4 t1 0).bind fun t2 =>
  some (t2, h)
theorem tX10_size_136 {d : Nat} {z : Int32 × aH} (v0 : Nat) (h : aH) (hf : fX10_size_136 v0 h = some z) : Ev (d + 0) none mX10_size (0, 0) 136 [.ref v0, .null] [] h (QI z) := 
  go_ok (X := none) (blk := wX10_size_136) (np := 144) (tt := 0) (kN := fun _ _ _ => none) (kT := fun _ _ _ => none) (kR := kRI)
    (fun _ _ _ q => nos q)
    (fun _ _ _ q => nos q)
    kRI_ok (Or.inr rfl) (by decide +kernel) (by decide +kernel) hf
def wX10_size_144 : List En := [(.aload_n 0, 0, 0, 0), (.getfield 54, 168, 10, 6), (.getfield 381, 90, 5, 0), (.ireturn, 0, 0, 0)]
def fX10_size_144 (v0 : Nat) (h : aH) : Option (Int32 × aH) :=
  (gFR h 10 v0 6).bind fun t1 =>
  (gFI h 5 t1 0).bind fun t2 =>
  some (t2, h)
theorem tX10_size_144 {d : Nat} {z : Int32 × aH} (v0 : Nat) (h : aH) (hf : fX10_size_144 v0 h = some z) : Ev (d + 0) none mX10_size (0, 0) 144 [.ref v0, .null] [] h (QI z) := 
  go_ok (X := none) (blk := wX10_size_144) (np := 152) (tt := 0) (kN := fun _ _ _ => none) (kT := fun _ _ _ => none) (kR := kRI)
    (fun _ _ _ q => nos q)
    (fun _ _ _ q => nos q)
    kRI_ok (Or.inr rfl) (by decide +kernel) (by decide +kernel) hf
def wX10_size_152 : List En := [(.aload_n 0, 0, 0, 0), (.getfield 10, 162, 10, 0), (.getfield 90, 1, 8, 0), (.ireturn, 0, 0, 0)]
def fX10_size_152 (v0 : Nat) (h : aH) : Option (Int32 × aH) :=
  (gFR h 10 v0 0).bind fun t1 =>
  (gFI h 8 t1 0).bind fun t2 =>
  some (t2, h)
theorem tX10_size_152 {d : Nat} {z : Int32 × aH} (v0 : Nat) (h : aH) (hf : fX10_size_152 v0 h = some z) : Ev (d + 0) none mX10_size (0, 0) 152 [.ref v0, .null] [] h (QI z) := 
  go_ok (X := none) (blk := wX10_size_152) (np := 160) (tt := 0) (kN := fun _ _ _ => none) (kT := fun _ _ _ => none) (kR := kRI)
    (fun _ _ _ q => nos q)
    (fun _ _ _ q => nos q)
    kRI_ok (Or.inr rfl) (by decide +kernel) (by decide +kernel) hf
theorem kdX10_size_1 : decode mX10_size.2.2.1 1 = .ok (.tableswitch 159 0 11 #[63, 71, 79, 87, 95, 103, 111, 119, 127, 135, 143, 151], 63) := by decide +kernel
def fX10_size_1 (v0 : Nat) (s0 : Int32) (h : aH) : Option (Int32 × aH) :=
  if s0 = kI 0 then fX10_size_64 v0 h else
  if s0 = kI 1 then fX10_size_72 v0 h else
  if s0 = kI 2 then fX10_size_80 v0 h else
  if s0 = kI 3 then fX10_size_88 v0 h else
  if s0 = kI 4 then fX10_size_96 v0 h else
  if s0 = kI 5 then fX10_size_104 v0 h else
  if s0 = kI 6 then fX10_size_112 v0 h else
  if s0 = kI 7 then fX10_size_120 v0 h else
  if s0 = kI 8 then fX10_size_128 v0 h else
  if s0 = kI 9 then fX10_size_136 v0 h else
  if s0 = kI 10 then fX10_size_144 v0 h else
  if s0 = kI 11 then fX10_size_152 v0 h else
  fX10_size_160 h
theorem tX10_size_1 {d : Nat} {z : Int32 × aH} (v0 : Nat) (s0 : Int32) (h : aH) (hf : fX10_size_1 v0 s0 h = some z) : Ev (d + 0) none mX10_size (0, 0) 1 [.ref v0, .null] [.int s0] h (QI z) := by
  unfold fX10_size_1 at hf
  by_cases c0 : s0 = kI 0
  · rw [if_pos c0] at hf
    subst c0
    exact ev_tsI kdX10_size_1 (by decide) rfl rfl (jm [2, 0] (fun v0 => fX10_size_64 v0 h) (fun v0 q => tX10_size_64 v0 h q) hf)
  rw [if_neg c0] at hf
  by_cases c1 : s0 = kI 1
  · rw [if_pos c1] at hf
    subst c1
    exact ev_tsI kdX10_size_1 (by decide) rfl rfl (jm [2, 0] (fun v0 => fX10_size_72 v0 h) (fun v0 q => tX10_size_72 v0 h q) hf)
  rw [if_neg c1] at hf
  by_cases c2 : s0 = kI 2
  · rw [if_pos c2] at hf
    subst c2
    exact ev_tsI kdX10_size_1 (by decide) rfl rfl (jm [2, 0] (fun v0 => fX10_size_80 v0 h) (fun v0 q => tX10_size_80 v0 h q) hf)
  rw [if_neg c2] at hf
  by_cases c3 : s0 = kI 3
  · rw [if_pos c3] at hf
    subst c3
    exact ev_tsI kdX10_size_1 (by decide) rfl rfl (jm [2, 0] (fun v0 => fX10_size_88 v0 h) (fun v0 q => tX10_size_88 v0 h q) hf)
  rw [if_neg c3] at hf
  by_cases c4 : s0 = kI 4
  · rw [if_pos c4] at hf
    subst c4
    exact ev_tsI kdX10_size_1 (by decide) rfl rfl (jm [2, 0] (fun v0 => fX10_size_96 v0 h) (fun v0 q => tX10_size_96 v0 h q) hf)
  rw [if_neg c4] at hf
  by_cases c5 : s0 = kI 5
  · rw [if_pos c5] at hf
    subst c5
    exact ev_tsI kdX10_size_1 (by decide) rfl rfl (jm [2, 0] (fun v0 => fX10_size_104 v0 h) (fun v0 q => tX10_size_104 v0 h q) hf)
  rw [if_neg c5] at hf
  by_cases c6 : s0 = kI 6
  · rw [if_pos c6] at hf
    subst c6
    exact ev_tsI kdX10_size_1 (by decide) rfl rfl (jm [2, 0] (fun v0 => fX10_size_112 v0 h) (fun v0 q => tX10_size_112 v0 h q) hf)
  rw [if_neg c6] at hf
  by_cases c7 : s0 = kI 7
  · rw [if_pos c7] at hf
    subst c7
    exact ev_tsI kdX10_size_1 (by decide) rfl rfl (jm [2, 0] (fun v0 => fX10_size_120 v0 h) (fun v0 q => tX10_size_120 v0 h q) hf)
  rw [if_neg c7] at hf
  by_cases c8 : s0 = kI 8
  · rw [if_pos c8] at hf
    subst c8
    exact ev_tsI kdX10_size_1 (by decide) rfl rfl (jm [2, 0] (fun v0 => fX10_size_128 v0 h) (fun v0 q => tX10_size_128 v0 h q) hf)
  rw [if_neg c8] at hf
  by_cases c9 : s0 = kI 9
  · rw [if_pos c9] at hf
    subst c9
    exact ev_tsI kdX10_size_1 (by decide) rfl rfl (jm [2, 0] (fun v0 => fX10_size_136 v0 h) (fun v0 q => tX10_size_136 v0 h q) hf)
  rw [if_neg c9] at hf
  by_cases c10 : s0 = kI 10
  · rw [if_pos c10] at hf
    subst c10
    exact ev_tsI kdX10_size_1 (by decide) rfl rfl (jm [2, 0] (fun v0 => fX10_size_144 v0 h) (fun v0 q => tX10_size_144 v0 h q) hf)
  rw [if_neg c10] at hf
  by_cases c11 : s0 = kI 11
  · rw [if_pos c11] at hf
    subst c11
    exact ev_tsI kdX10_size_1 (by decide) rfl rfl (jm [2, 0] (fun v0 => fX10_size_152 v0 h) (fun v0 q => tX10_size_152 v0 h q) hf)
  rw [if_neg c11] at hf
  exact ev_tsO kdX10_size_1 (ts_out (fun n h1 h2 => by
    have hn : n = 0 ∨ n = 1 ∨ n = 2 ∨ n = 3 ∨ n = 4 ∨ n = 5 ∨ n = 6 ∨ n = 7 ∨ n = 8 ∨ n = 9 ∨ n = 10 ∨ n = 11 := by omega
    rcases hn with rfl | rfl | rfl | rfl | rfl | rfl | rfl | rfl | rfl | rfl | rfl | rfl <;> assumption)) rfl (jm [0, 0] (fX10_size_160 h) (fun q => tX10_size_160 h q) hf)
def wX10_size_0 : List En := [(.iload_n 1, 0, 0, 0)]
def fX10_size_0 (v0 : Nat) (v1 : Int32) (h : aH) : Option (Int32 × aH) :=
  fX10_size_1 v0 v1 h
theorem tX10_size_0 {d : Nat} {z : Int32 × aH} (v0 : Nat) (v1 : Int32) (h : aH) (hf : fX10_size_0 v0 v1 h = some z) : Ev (d + 0) none mX10_size (0, 0) 0 [.ref v0, .int v1] [] h (QI z) := 
  go_ok (X := none) (blk := wX10_size_0) (np := 1) (tt := 0) (kN := fun xs h st => app [2, 0] (fun v0 => apS [1] (fun s0 => fX10_size_1 v0 s0 h) st) xs) (kT := fun _ _ _ => none) (kR := kRI)
    (fun xs h st q => jm [2, 0] _ (fun v0 q => apS_ok [1] _ (fun st => Ev (d + 0) none mX10_size (0, 0) 1 [.ref v0, .null] st h (QI z)) st (fun s0 q => tX10_size_1 v0 s0 h q) q) q)
    (fun _ _ _ q => nos q)
    kRI_ok (Or.inr rfl) (by decide +kernel) (by decide +kernel) hf
def gX10_size (v0 : Nat) (v1 : Int32) (h : aH) : Option (Int32 × aH) := fX10_size_0 v0 v1 h
theorem zX10_size {d : Nat} {z : Int32 × aH} {v0 : Nat} {v1 : Int32} {h : aH} (q : gX10_size v0 v1 h = some z) : CT (d + 0) mX10_size (0, 0) [.ref v0, .int v1] h (QI z) :=
  ct_ev (by decide +kernel) (Nat.le_of_ble_eq_true rfl) QI_r (jm [2, 1] (fun v0 v1 => fX10_size_0 v0 v1 h) (fun v0 v1 q => tX10_size_0 v0 v1 h q) q)
def wX10_trouble_0 : List En := [(.aload_n 0, 0, 0, 0), (.getfield 122, 173, 10, 11), (.ireturn, 0, 0, 0)]
def fX10_trouble_0 (v0 : Nat) (h : aH) : Option (Int32 × aH) :=
  (gFI h 10 v0 11).bind fun t1 =>
  some (t1, h)
theorem tX10_trouble_0 {d : Nat} {z : Int32 × aH} (v0 : Nat) (h : aH) (hf : fX10_trouble_0 v0 h = some z) : Ev (d + 0) none mX10_trouble (0, 0) 0 [.ref v0] [] h (QI z) := 
  go_ok (X := none) (blk := wX10_trouble_0) (np := 5) (tt := 0) (kN := fun _ _ _ => none) (kT := fun _ _ _ => none) (kR := kRI)
    (fun _ _ _ q => nos q)
    (fun _ _ _ q => nos q)
    kRI_ok (Or.inr rfl) (by decide +kernel) (by decide +kernel) hf
def gX10_trouble (v0 : Nat) (h : aH) : Option (Int32 × aH) := fX10_trouble_0 v0 h
theorem zX10_trouble {d : Nat} {z : Int32 × aH} {v0 : Nat} {h : aH} (q : gX10_trouble v0 h = some z) : CT (d + 0) mX10_trouble (0, 0) [.ref v0] h (QI z) :=
  ct_ev (by decide +kernel) (Nat.le_of_ble_eq_true rfl) QI_r (jm [2] (fun v0 => fX10_trouble_0 v0 h) (fun v0 q => tX10_trouble_0 v0 h q) q)
end
