noncomputable section
def wX7_worthOf_20 : List En := [(.ireturn, 0, 0, 0)]
def fX7_worthOf_20 (s0 : Int32) (h : aH) : Option (Int32 × aH) :=
  some (s0, h)
theorem tX7_worthOf_20 {d : Nat} {z : Int32 × aH} (s0 : Int32) (h : aH) (hf : fX7_worthOf_20 s0 h = some z) : Ev (d + 0) none mX7_worthOf (0, 0) 20 [.null, .null] [.int s0] h (QI z) := 
  go_ok (X := none) (blk := wX7_worthOf_20) (np := 21) (tt := 0) (kN := fun _ _ _ => none) (kT := fun _ _ _ => none) (kR := kRI)
    (fun _ _ _ q => nos q)
    (fun _ _ _ q => nos q)
    kRI_ok (Or.inr rfl) (by decide +kernel) (by decide +kernel) hf
def wX7_worthOf_10 : List En := [(.iconst 0, 0, 0, 0), (.goto 9, 20, 0, 0)]
def fX7_worthOf_10 (h : aH) : Option (Int32 × aH) :=
  fX7_worthOf_20 (kI 0) h
theorem tX7_worthOf_10 {d : Nat} {z : Int32 × aH} (h : aH) (hf : fX7_worthOf_10 h = some z) : Ev (d + 0) none mX7_worthOf (0, 0) 10 [.null, .null] [] h (QI z) := 
  go_ok (X := none) (blk := wX7_worthOf_10) (np := 14) (tt := 20) (kN := fun _ _ _ => none) (kT := fun xs h st => app [0, 0] (apS [1] (fun s0 => fX7_worthOf_20 s0 h) st) xs) (kR := kRI)
    (fun _ _ _ q => nos q)
    (fun xs h st q => jm [0, 0] _ (fun q => apS_ok [1] _ (fun st => Ev (d + 0) none mX7_worthOf (0, 0) 20 [.null, .null] st h (QI z)) st (fun s0 q => tX7_worthOf_20 s0 h q) q) q)
    kRI_ok (Or.inr rfl) (by decide +kernel) (by decide +kernel) hf
def wX7_worthOf_14 : List En := [(.aload_n 0, 0, 0, 0), (.getfield 18, 23, 7, 2), (.iload_n 1, 0, 0, 0), (.iaload, 0, 0, 0)]
def fX7_worthOf_14 (v0 : Nat) (v1 : Int32) (h : aH) : Option (Int32 × aH) :=
  (gFR h 7 v0 2).bind fun t1 =>
  (aRI (h[t1]?) v1).bind fun t2 =>
  fX7_worthOf_20 t2 h
theorem tX7_worthOf_14 {d : Nat} {z : Int32 × aH} (v0 : Nat) (v1 : Int32) (h : aH) (hf : fX7_worthOf_14 v0 v1 h = some z) : Ev (d + 0) none mX7_worthOf (0, 0) 14 [.ref v0, .int v1] [] h (QI z) := 
  go_ok (X := none) (blk := wX7_worthOf_14) (np := 20) (tt := 0) (kN := fun xs h st => app [0, 0] (apS [1] (fun s0 => fX7_worthOf_20 s0 h) st) xs) (kT := fun _ _ _ => none) (kR := kRI)
    (fun xs h st q => jm [0, 0] _ (fun q => apS_ok [1] _ (fun st => Ev (d + 0) none mX7_worthOf (0, 0) 20 [.null, .null] st h (QI z)) st (fun s0 q => tX7_worthOf_20 s0 h q) q) q)
    (fun _ _ _ q => nos q)
    kRI_ok (Or.inr rfl) (by decide +kernel) (by decide +kernel) hf
def wX7_worthOf_4 : List En := [(.iload_n 1, 0, 0, 0), (.bipush 8, 0, 0, 0), (.if_icmp .lt 7, 14, 0, 0)]
def fX7_worthOf_4 (v0 : Nat) (v1 : Int32) (h : aH) : Option (Int32 × aH) :=
  if v1 < (kB 8) then fX7_worthOf_14 v0 v1 h else fX7_worthOf_10 h
theorem tX7_worthOf_4 {d : Nat} {z : Int32 × aH} (v0 : Nat) (v1 : Int32) (h : aH) (hf : fX7_worthOf_4 v0 v1 h = some z) : Ev (d + 0) none mX7_worthOf (0, 0) 4 [.ref v0, .int v1] [] h (QI z) := 
  go_ok (X := none) (blk := wX7_worthOf_4) (np := 10) (tt := 14) (kN := fun xs h st => app [0, 0] (apS [] (fX7_worthOf_10 h) st) xs) (kT := fun xs h st => app [2, 1] (fun v0 v1 => apS [] (fX7_worthOf_14 v0 v1 h) st) xs) (kR := kRI)
    (fun xs h st q => jm [0, 0] _ (fun q => apS_ok [] _ (fun st => Ev (d + 0) none mX7_worthOf (0, 0) 10 [.null, .null] st h (QI z)) st (fun q => tX7_worthOf_10 h q) q) q)
    (fun xs h st q => jm [2, 1] _ (fun v0 v1 q => apS_ok [] _ (fun st => Ev (d + 0) none mX7_worthOf (0, 0) 14 [.ref v0, .int v1] st h (QI z)) st (fun q => tX7_worthOf_14 v0 v1 h q) q) q)
    kRI_ok (Or.inr rfl) (by decide +kernel) (by decide +kernel) hf
def wX7_worthOf_0 : List En := [(.iload_n 1, 0, 0, 0), (.ifCond .lt 9, 10, 0, 0)]
def fX7_worthOf_0 (v0 : Nat) (v1 : Int32) (h : aH) : Option (Int32 × aH) :=
  if v1 < 0 then fX7_worthOf_10 h else fX7_worthOf_4 v0 v1 h
theorem tX7_worthOf_0 {d : Nat} {z : Int32 × aH} (v0 : Nat) (v1 : Int32) (h : aH) (hf : fX7_worthOf_0 v0 v1 h = some z) : Ev (d + 0) none mX7_worthOf (0, 0) 0 [.ref v0, .int v1] [] h (QI z) := 
  go_ok (X := none) (blk := wX7_worthOf_0) (np := 4) (tt := 10) (kN := fun xs h st => app [2, 1] (fun v0 v1 => apS [] (fX7_worthOf_4 v0 v1 h) st) xs) (kT := fun xs h st => app [0, 0] (apS [] (fX7_worthOf_10 h) st) xs) (kR := kRI)
    (fun xs h st q => jm [2, 1] _ (fun v0 v1 q => apS_ok [] _ (fun st => Ev (d + 0) none mX7_worthOf (0, 0) 4 [.ref v0, .int v1] st h (QI z)) st (fun q => tX7_worthOf_4 v0 v1 h q) q) q)
    (fun xs h st q => jm [0, 0] _ (fun q => apS_ok [] _ (fun st => Ev (d + 0) none mX7_worthOf (0, 0) 10 [.null, .null] st h (QI z)) st (fun q => tX7_worthOf_10 h q) q) q)
    kRI_ok (Or.inr rfl) (by decide +kernel) (by decide +kernel) hf
def gX7_worthOf (v0 : Nat) (v1 : Int32) (h : aH) : Option (Int32 × aH) := fX7_worthOf_0 v0 v1 h
theorem zX7_worthOf {d : Nat} {z : Int32 × aH} {v0 : Nat} {v1 : Int32} {h : aH} (q : gX7_worthOf v0 v1 h = some z) : CT (d + 0) mX7_worthOf (0, 0) [.ref v0, .int v1] h (QI z) :=
  ct_ev (by decide +kernel) (Nat.le_of_ble_eq_true rfl) QI_r (jm [2, 1] (fun v0 v1 => fX7_worthOf_0 v0 v1 h) (fun v0 v1 q => tX7_worthOf_0 v0 v1 h q) q)
def wX6_serve_129 : List En := [(.return_, 0, 0, 0)]
def fX6_serve_129 (h : aH) : Option (aH) :=
  some h
theorem tX6_serve_129 {d : Nat} {z : aH} (h : aH) (hf : fX6_serve_129 h = some z) : Ev (d + 1) none mX6_serve (0, 0) 129 [.null, .null, .null, .null, .null, .null, .null, .null] [] h (QV z) := 
  go_ok (X := none) (blk := wX6_serve_129) (np := 130) (tt := 0) (kN := fun _ _ _ => none) (kT := fun _ _ _ => none) (kR := kRV)
    (fun _ _ _ q => nos q)
    (fun _ _ _ q => nos q)
    kRV_ok (Or.inr rfl) (by decide +kernel) (by decide +kernel) hf
def wX6_serve_123 : List En := [(.iinc 5 1, 0, 0, 0), (.goto (-103), 23, 0, 0)]
def fX6_serve_123 (k23 : Nat → Nat → Int32 → Int32 → Int32 → Int32 → aH → Option (aH)) (v0 : Nat) (v1 : Nat) (v2 : Int32) (v3 : Int32) (v4 : Int32) (v5 : Int32) (h : aH) : Option (aH) :=
  k23 v0 v1 v2 v3 v4 (v5 + kI 1) h
theorem tX6_serve_123 {d : Nat} {z : aH} {k23 : Nat → Nat → Int32 → Int32 → Int32 → Int32 → aH → Option (aH)} (hk23 : ∀ (v0 : Nat) (v1 : Nat) (v2 : Int32) (v3 : Int32) (v4 : Int32) (v5 : Int32) (h : aH), k23 v0 v1 v2 v3 v4 v5 h = some z → Ev (d + 1) none mX6_serve (0, 0) 23 [.ref v0, .ref v1, .int v2, .int v3, .int v4, .int v5, .null, .null] [] h (QV z)) (v0 : Nat) (v1 : Nat) (v2 : Int32) (v3 : Int32) (v4 : Int32) (v5 : Int32) (h : aH) (hf : fX6_serve_123 k23 v0 v1 v2 v3 v4 v5 h = some z) : Ev (d + 1) none mX6_serve (0, 0) 123 [.ref v0, .ref v1, .int v2, .int v3, .int v4, .int v5, .null, .null] [] h (QV z) := 
  go_ok (X := none) (blk := wX6_serve_123) (np := 129) (tt := 23) (kN := fun _ _ _ => none) (kT := fun xs h st => app [2, 2, 1, 1, 1, 1, 0, 0] (fun v0 v1 v2 v3 v4 v5 => apS [] (k23 v0 v1 v2 v3 v4 v5 h) st) xs) (kR := kRV)
    (fun _ _ _ q => nos q)
    (fun xs h st q => jm [2, 2, 1, 1, 1, 1, 0, 0] _ (fun v0 v1 v2 v3 v4 v5 q => apS_ok [] _ (fun st => Ev (d + 1) none mX6_serve (0, 0) 23 [.ref v0, .ref v1, .int v2, .int v3, .int v4, .int v5, .null, .null] st h (QV z)) st (fun q => hk23 v0 v1 v2 v3 v4 v5 h q) q) q)
    kRV_ok (Or.inr rfl) (by decide +kernel) (by decide +kernel) hf
def wX6_serve_117 : List En := [(.iinc 6 1, 0, 0, 0), (.goto (-79), 41, 0, 0)]
def fX6_serve_117 (k23 : Nat → Nat → Int32 → Int32 → Int32 → Int32 → aH → Option (aH)) (k41 : Nat → Nat → Int32 → Int32 → Int32 → Int32 → Int32 → aH → Option (aH)) (v0 : Nat) (v1 : Nat) (v2 : Int32) (v3 : Int32) (v4 : Int32) (v5 : Int32) (v6 : Int32) (h : aH) : Option (aH) :=
  k41 v0 v1 v2 v3 v4 v5 (v6 + kI 1) h
theorem tX6_serve_117 {d : Nat} {z : aH} {k23 : Nat → Nat → Int32 → Int32 → Int32 → Int32 → aH → Option (aH)} {k41 : Nat → Nat → Int32 → Int32 → Int32 → Int32 → Int32 → aH → Option (aH)} (hk23 : ∀ (v0 : Nat) (v1 : Nat) (v2 : Int32) (v3 : Int32) (v4 : Int32) (v5 : Int32) (h : aH), k23 v0 v1 v2 v3 v4 v5 h = some z → Ev (d + 1) none mX6_serve (0, 0) 23 [.ref v0, .ref v1, .int v2, .int v3, .int v4, .int v5, .null, .null] [] h (QV z)) (hk41 : ∀ (v0 : Nat) (v1 : Nat) (v2 : Int32) (v3 : Int32) (v4 : Int32) (v5 : Int32) (v6 : Int32) (h : aH), k41 v0 v1 v2 v3 v4 v5 v6 h = some z → Ev (d + 1) none mX6_serve (0, 0) 41 [.ref v0, .ref v1, .int v2, .int v3, .int v4, .int v5, .int v6, .null] [] h (QV z)) (v0 : Nat) (v1 : Nat) (v2 : Int32) (v3 : Int32) (v4 : Int32) (v5 : Int32) (v6 : Int32) (h : aH) (hf : fX6_serve_117 k23 k41 v0 v1 v2 v3 v4 v5 v6 h = some z) : Ev (d + 1) none mX6_serve (0, 0) 117 [.ref v0, .ref v1, .int v2, .int v3, .int v4, .int v5, .int v6, .null] [] h (QV z) := 
  go_ok (X := none) (blk := wX6_serve_117) (np := 123) (tt := 41) (kN := fun _ _ _ => none) (kT := fun xs h st => app [2, 2, 1, 1, 1, 1, 1, 0] (fun v0 v1 v2 v3 v4 v5 v6 => apS [] (k41 v0 v1 v2 v3 v4 v5 v6 h) st) xs) (kR := kRV)
    (fun _ _ _ q => nos q)
    (fun xs h st q => jm [2, 2, 1, 1, 1, 1, 1, 0] _ (fun v0 v1 v2 v3 v4 v5 v6 q => apS_ok [] _ (fun st => Ev (d + 1) none mX6_serve (0, 0) 41 [.ref v0, .ref v1, .int v2, .int v3, .int v4, .int v5, .int v6, .null] st h (QV z)) st (fun q => hk41 v0 v1 v2 v3 v4 v5 v6 h q) q) q)
    kRV_ok (Or.inr rfl) (by decide +kernel) (by decide +kernel) hf
def wX6_serve_92 : List En := [(.iastore, 0, 0, 0), (.aload_n 1, 0, 0, 0), (.dup, 0, 0, 0), (.getfield 56, 31, 7, 5), (.iconst 1, 0, 0, 0), (.isub, 0, 0, 0), (.putfield 56, 31, 7, 5), (.aload_n 0, 0, 0, 0), (.getfield 18, 44, 6, 2), (.iload 7, 0, 0, 0), (.dup2, 0, 0, 0), (.iaload, 0, 0, 0), (.iconst 1, 0, 0, 0), (.iadd, 0, 0, 0), (.iastore, 0, 0, 0), (.iconst 1, 0, 0, 0), (.istore 4, 0, 0, 0)]
def fX6_serve_92 (k23 : Nat → Nat → Int32 → Int32 → Int32 → Int32 → aH → Option (aH)) (k41 : Nat → Nat → Int32 → Int32 → Int32 → Int32 → Int32 → aH → Option (aH)) (v0 : Nat) (v1 : Nat) (v2 : Int32) (v3 : Int32) (v5 : Int32) (v6 : Int32) (v7 : Int32) (s0 : Int32) (s1 : Int32) (s2 : Nat) (h : aH) : Option (aH) :=
  (aWI h s2 s1 s0).bind fun h1 =>
  (gFI h1 7 v1 5).bind fun t2 =>
  (pWV h1 7 v1 5 (.int (t2 - (kI 1)))).bind fun h3 =>
  (gFR h3 6 v0 2).bind fun t4 =>
  (aRI (h3[t4]?) v7).bind fun t5 =>
  (aWI h3 t4 v7 (t5 + (kI 1))).bind fun h6 =>
  fX6_serve_117 k23 k41 v0 v1 v2 v3 (kI 1) v5 v6 h6
theorem tX6_serve_92 {d : Nat} {z : aH} {k23 : Nat → Nat → Int32 → Int32 → Int32 → Int32 → aH → Option (aH)} {k41 : Nat → Nat → Int32 → Int32 → Int32 → Int32 → Int32 → aH → Option (aH)} (hk23 : ∀ (v0 : Nat) (v1 : Nat) (v2 : Int32) (v3 : Int32) (v4 : Int32) (v5 : Int32) (h : aH), k23 v0 v1 v2 v3 v4 v5 h = some z → Ev (d + 1) none mX6_serve (0, 0) 23 [.ref v0, .ref v1, .int v2, .int v3, .int v4, .int v5, .null, .null] [] h (QV z)) (hk41 : ∀ (v0 : Nat) (v1 : Nat) (v2 : Int32) (v3 : Int32) (v4 : Int32) (v5 : Int32) (v6 : Int32) (h : aH), k41 v0 v1 v2 v3 v4 v5 v6 h = some z → Ev (d + 1) none mX6_serve (0, 0) 41 [.ref v0, .ref v1, .int v2, .int v3, .int v4, .int v5, .int v6, .null] [] h (QV z)) (v0 : Nat) (v1 : Nat) (v2 : Int32) (v3 : Int32) (v5 : Int32) (v6 : Int32) (v7 : Int32) (s0 : Int32) (s1 : Int32) (s2 : Nat) (h : aH) (hf : fX6_serve_92 k23 k41 v0 v1 v2 v3 v5 v6 v7 s0 s1 s2 h = some z) : Ev (d + 1) none mX6_serve (0, 0) 92 [.ref v0, .ref v1, .int v2, .int v3, .null, .int v5, .int v6, .int v7] [.int s0, .int s1, .ref s2] h (QV z) := 
  go_ok (X := none) (blk := wX6_serve_92) (np := 117) (tt := 0) (kN := fun xs h st => app [2, 2, 1, 1, 1, 1, 1, 0] (fun v0 v1 v2 v3 v4 v5 v6 => apS [] (fX6_serve_117 k23 k41 v0 v1 v2 v3 v4 v5 v6 h) st) xs) (kT := fun _ _ _ => none) (kR := kRV)
    (fun xs h st q => jm [2, 2, 1, 1, 1, 1, 1, 0] _ (fun v0 v1 v2 v3 v4 v5 v6 q => apS_ok [] _ (fun st => Ev (d + 1) none mX6_serve (0, 0) 117 [.ref v0, .ref v1, .int v2, .int v3, .int v4, .int v5, .int v6, .null] st h (QV z)) st (fun q => tX6_serve_117 hk23 hk41 v0 v1 v2 v3 v4 v5 v6 h q) q) q)
    (fun _ _ _ q => nos q)
    kRV_ok (Or.inr rfl) (by decide +kernel) (by decide +kernel) hf
theorem kqX6_serve_89 : ckP mX6_serve 89 88 1 14 = true := by decide +kernel
def fX6_serve_89 (k23 : Nat → Nat → Int32 → Int32 → Int32 → Int32 → aH → Option (aH)) (k41 : Nat → Nat → Int32 → Int32 → Int32 → Int32 → Int32 → aH → Option (aH)) (v0 : Nat) (v1 : Nat) (v2 : Int32) (v3 : Int32) (v5 : Int32) (v6 : Int32) (v7 : Int32) (s0 : Int32) (s1 : Int32) (s2 : Int32) (s3 : Nat) (h : aH) : Option (aH) :=
  fX6_serve_92 k23 k41 v0 v1 v2 v3 v5 v6 v7 (if s1 < s0 then s0 else s1) s2 s3 h
theorem tX6_serve_89 {d : Nat} {z : aH} {k23 : Nat → Nat → Int32 → Int32 → Int32 → Int32 → aH → Option (aH)} {k41 : Nat → Nat → Int32 → Int32 → Int32 → Int32 → Int32 → aH → Option (aH)} (hk23 : ∀ (v0 : Nat) (v1 : Nat) (v2 : Int32) (v3 : Int32) (v4 : Int32) (v5 : Int32) (h : aH), k23 v0 v1 v2 v3 v4 v5 h = some z → Ev (d + 1) none mX6_serve (0, 0) 23 [.ref v0, .ref v1, .int v2, .int v3, .int v4, .int v5, .null, .null] [] h (QV z)) (hk41 : ∀ (v0 : Nat) (v1 : Nat) (v2 : Int32) (v3 : Int32) (v4 : Int32) (v5 : Int32) (v6 : Int32) (h : aH), k41 v0 v1 v2 v3 v4 v5 v6 h = some z → Ev (d + 1) none mX6_serve (0, 0) 41 [.ref v0, .ref v1, .int v2, .int v3, .int v4, .int v5, .int v6, .null] [] h (QV z)) (v0 : Nat) (v1 : Nat) (v2 : Int32) (v3 : Int32) (v5 : Int32) (v6 : Int32) (v7 : Int32) (s0 : Int32) (s1 : Int32) (s2 : Int32) (s3 : Nat) (h : aH) (hf : fX6_serve_89 k23 k41 v0 v1 v2 v3 v5 v6 v7 s0 s1 s2 s3 h = some z) : Ev (d + 1) none mX6_serve (0, 0) 89 [.ref v0, .ref v1, .int v2, .int v3, .null, .int v5, .int v6, .int v7] [.int s0, .int s1, .int s2, .ref s3] h (QV z) := 
  ev_mx kqX6_serve_89 rfl (Nat.le_of_ble_eq_true rfl) (jm [2, 2, 1, 1, 0, 1, 1, 1] (fun v0 v1 v2 v3 v5 v6 v7 => fX6_serve_92 k23 k41 v0 v1 v2 v3 v5 v6 v7 (if s1 < s0 then s0 else s1) s2 s3 h) (fun v0 v1 v2 v3 v5 v6 v7 q => tX6_serve_92 hk23 hk41 v0 v1 v2 v3 v5 v6 v7 (if s1 < s0 then s0 else s1) s2 s3 h q) hf)
def wX6_serve_73 : List En := [(.aload_n 1, 0, 0, 0), (.getfield 76, 19, 7, 0), (.iload 7, 0, 0, 0), (.iconst 0, 0, 0, 0), (.aload_n 1, 0, 0, 0), (.getfield 76, 19, 7, 0), (.iload 7, 0, 0, 0), (.iaload, 0, 0, 0), (.iload_n 3, 0, 0, 0), (.isub, 0, 0, 0)]
def fX6_serve_73 (k23 : Nat → Nat → Int32 → Int32 → Int32 → Int32 → aH → Option (aH)) (k41 : Nat → Nat → Int32 → Int32 → Int32 → Int32 → Int32 → aH → Option (aH)) (v0 : Nat) (v1 : Nat) (v2 : Int32) (v3 : Int32) (v5 : Int32) (v6 : Int32) (v7 : Int32) (h : aH) : Option (aH) :=
  (gFR h 7 v1 0).bind fun t1 =>
  (gFR h 7 v1 0).bind fun t2 =>
  (aRI (h[t2]?) v7).bind fun t3 =>
  fX6_serve_89 k23 k41 v0 v1 v2 v3 v5 v6 v7 (t3 - v3) (kI 0) v7 t1 h
theorem tX6_serve_73 {d : Nat} {z : aH} {k23 : Nat → Nat → Int32 → Int32 → Int32 → Int32 → aH → Option (aH)} {k41 : Nat → Nat → Int32 → Int32 → Int32 → Int32 → Int32 → aH → Option (aH)} (hk23 : ∀ (v0 : Nat) (v1 : Nat) (v2 : Int32) (v3 : Int32) (v4 : Int32) (v5 : Int32) (h : aH), k23 v0 v1 v2 v3 v4 v5 h = some z → Ev (d + 1) none mX6_serve (0, 0) 23 [.ref v0, .ref v1, .int v2, .int v3, .int v4, .int v5, .null, .null] [] h (QV z)) (hk41 : ∀ (v0 : Nat) (v1 : Nat) (v2 : Int32) (v3 : Int32) (v4 : Int32) (v5 : Int32) (v6 : Int32) (h : aH), k41 v0 v1 v2 v3 v4 v5 v6 h = some z → Ev (d + 1) none mX6_serve (0, 0) 41 [.ref v0, .ref v1, .int v2, .int v3, .int v4, .int v5, .int v6, .null] [] h (QV z)) (v0 : Nat) (v1 : Nat) (v2 : Int32) (v3 : Int32) (v5 : Int32) (v6 : Int32) (v7 : Int32) (h : aH) (hf : fX6_serve_73 k23 k41 v0 v1 v2 v3 v5 v6 v7 h = some z) : Ev (d + 1) none mX6_serve (0, 0) 73 [.ref v0, .ref v1, .int v2, .int v3, .null, .int v5, .int v6, .int v7] [] h (QV z) := 
  go_ok (X := none) (blk := wX6_serve_73) (np := 89) (tt := 0) (kN := fun xs h st => app [2, 2, 1, 1, 0, 1, 1, 1] (fun v0 v1 v2 v3 v5 v6 v7 => apS [1, 1, 1, 2] (fun s0 s1 s2 s3 => fX6_serve_89 k23 k41 v0 v1 v2 v3 v5 v6 v7 s0 s1 s2 s3 h) st) xs) (kT := fun _ _ _ => none) (kR := kRV)
    (fun xs h st q => jm [2, 2, 1, 1, 0, 1, 1, 1] _ (fun v0 v1 v2 v3 v5 v6 v7 q => apS_ok [1, 1, 1, 2] _ (fun st => Ev (d + 1) none mX6_serve (0, 0) 89 [.ref v0, .ref v1, .int v2, .int v3, .null, .int v5, .int v6, .int v7] st h (QV z)) st (fun s0 s1 s2 s3 q => tX6_serve_89 hk23 hk41 v0 v1 v2 v3 v5 v6 v7 s0 s1 s2 s3 h q) q) q)
    (fun _ _ _ q => nos q)
    kRV_ok (Or.inr rfl) (by decide +kernel) (by decide +kernel) hf
def wX6_serve_54 : List En := [(.aload_n 0, 0, 0, 0), (.getfield 22, 46, 6, 3), (.iload 6, 0, 0, 0), (.iaload, 0, 0, 0), (.istore 7, 0, 0, 0), (.aload_n 1, 0, 0, 0), (.getfield 76, 19, 7, 0), (.iload 7, 0, 0, 0), (.iaload, 0, 0, 0), (.ifCond .le 47, 117, 0, 0)]
def fX6_serve_54 (k23 : Nat → Nat → Int32 → Int32 → Int32 → Int32 → aH → Option (aH)) (k41 : Nat → Nat → Int32 → Int32 → Int32 → Int32 → Int32 → aH → Option (aH)) (v0 : Nat) (v1 : Nat) (v2 : Int32) (v3 : Int32) (v4 : Int32) (v5 : Int32) (v6 : Int32) (h : aH) : Option (aH) :=
  (gFR h 6 v0 3).bind fun t1 =>
  (aRI (h[t1]?) v6).bind fun t2 =>
  (gFR h 7 v1 0).bind fun t3 =>
  (aRI (h[t3]?) t2).bind fun t4 =>
  if 0 < t4 then fX6_serve_73 k23 k41 v0 v1 v2 v3 v5 v6 t2 h else fX6_serve_117 k23 k41 v0 v1 v2 v3 v4 v5 v6 h
theorem tX6_serve_54 {d : Nat} {z : aH} {k23 : Nat → Nat → Int32 → Int32 → Int32 → Int32 → aH → Option (aH)} {k41 : Nat → Nat → Int32 → Int32 → Int32 → Int32 → Int32 → aH → Option (aH)} (hk23 : ∀ (v0 : Nat) (v1 : Nat) (v2 : Int32) (v3 : Int32) (v4 : Int32) (v5 : Int32) (h : aH), k23 v0 v1 v2 v3 v4 v5 h = some z → Ev (d + 1) none mX6_serve (0, 0) 23 [.ref v0, .ref v1, .int v2, .int v3, .int v4, .int v5, .null, .null] [] h (QV z)) (hk41 : ∀ (v0 : Nat) (v1 : Nat) (v2 : Int32) (v3 : Int32) (v4 : Int32) (v5 : Int32) (v6 : Int32) (h : aH), k41 v0 v1 v2 v3 v4 v5 v6 h = some z → Ev (d + 1) none mX6_serve (0, 0) 41 [.ref v0, .ref v1, .int v2, .int v3, .int v4, .int v5, .int v6, .null] [] h (QV z)) (v0 : Nat) (v1 : Nat) (v2 : Int32) (v3 : Int32) (v4 : Int32) (v5 : Int32) (v6 : Int32) (h : aH) (hf : fX6_serve_54 k23 k41 v0 v1 v2 v3 v4 v5 v6 h = some z) : Ev (d + 1) none mX6_serve (0, 0) 54 [.ref v0, .ref v1, .int v2, .int v3, .int v4, .int v5, .int v6, .null] [] h (QV z) := 
  go_ok (X := none) (blk := wX6_serve_54) (np := 73) (tt := 117) (kN := fun xs h st => app [2, 2, 1, 1, 0, 1, 1, 1] (fun v0 v1 v2 v3 v5 v6 v7 => apS [] (fX6_serve_73 k23 k41 v0 v1 v2 v3 v5 v6 v7 h) st) xs) (kT := fun xs h st => app [2, 2, 1, 1, 1, 1, 1, 0] (fun v0 v1 v2 v3 v4 v5 v6 => apS [] (fX6_serve_117 k23 k41 v0 v1 v2 v3 v4 v5 v6 h) st) xs) (kR := kRV)
    (fun xs h st q => jm [2, 2, 1, 1, 0, 1, 1, 1] _ (fun v0 v1 v2 v3 v5 v6 v7 q => apS_ok [] _ (fun st => Ev (d + 1) none mX6_serve (0, 0) 73 [.ref v0, .ref v1, .int v2, .int v3, .null, .int v5, .int v6, .int v7] st h (QV z)) st (fun q => tX6_serve_73 hk23 hk41 v0 v1 v2 v3 v5 v6 v7 h q) q) q)
    (fun xs h st q => jm [2, 2, 1, 1, 1, 1, 1, 0] _ (fun v0 v1 v2 v3 v4 v5 v6 q => apS_ok [] _ (fun st => Ev (d + 1) none mX6_serve (0, 0) 117 [.ref v0, .ref v1, .int v2, .int v3, .int v4, .int v5, .int v6, .null] st h (QV z)) st (fun q => tX6_serve_117 hk23 hk41 v0 v1 v2 v3 v4 v5 v6 h q) q) q)
    kRV_ok (Or.inr rfl) (by decide +kernel) (by decide +kernel) hf
def wX6_serve_47 : List En := [(.aload_n 1, 0, 0, 0), (.getfield 56, 31, 7, 5), (.ifCond .le 72, 123, 0, 0)]
def fX6_serve_47 (k23 : Nat → Nat → Int32 → Int32 → Int32 → Int32 → aH → Option (aH)) (k41 : Nat → Nat → Int32 → Int32 → Int32 → Int32 → Int32 → aH → Option (aH)) (v0 : Nat) (v1 : Nat) (v2 : Int32) (v3 : Int32) (v4 : Int32) (v5 : Int32) (v6 : Int32) (h : aH) : Option (aH) :=
  (gFI h 7 v1 5).bind fun t1 =>
  if 0 < t1 then fX6_serve_54 k23 k41 v0 v1 v2 v3 v4 v5 v6 h else fX6_serve_123 k23 v0 v1 v2 v3 v4 v5 h
theorem tX6_serve_47 {d : Nat} {z : aH} {k23 : Nat → Nat → Int32 → Int32 → Int32 → Int32 → aH → Option (aH)} {k41 : Nat → Nat → Int32 → Int32 → Int32 → Int32 → Int32 → aH → Option (aH)} (hk23 : ∀ (v0 : Nat) (v1 : Nat) (v2 : Int32) (v3 : Int32) (v4 : Int32) (v5 : Int32) (h : aH), k23 v0 v1 v2 v3 v4 v5 h = some z → Ev (d + 1) none mX6_serve (0, 0) 23 [.ref v0, .ref v1, .int v2, .int v3, .int v4, .int v5, .null, .null] [] h (QV z)) (hk41 : ∀ (v0 : Nat) (v1 : Nat) (v2 : Int32) (v3 : Int32) (v4 : Int32) (v5 : Int32) (v6 : Int32) (h : aH), k41 v0 v1 v2 v3 v4 v5 v6 h = some z → Ev (d + 1) none mX6_serve (0, 0) 41 [.ref v0, .ref v1, .int v2, .int v3, .int v4, .int v5, .int v6, .null] [] h (QV z)) (v0 : Nat) (v1 : Nat) (v2 : Int32) (v3 : Int32) (v4 : Int32) (v5 : Int32) (v6 : Int32) (h : aH) (hf : fX6_serve_47 k23 k41 v0 v1 v2 v3 v4 v5 v6 h = some z) : Ev (d + 1) none mX6_serve (0, 0) 47 [.ref v0, .ref v1, .int v2, .int v3, .int v4, .int v5, .int v6, .null] [] h (QV z) := 
  go_ok (X := none) (blk := wX6_serve_47) (np := 54) (tt := 123) (kN := fun xs h st => app [2, 2, 1, 1, 1, 1, 1, 0] (fun v0 v1 v2 v3 v4 v5 v6 => apS [] (fX6_serve_54 k23 k41 v0 v1 v2 v3 v4 v5 v6 h) st) xs) (kT := fun xs h st => app [2, 2, 1, 1, 1, 1, 0, 0] (fun v0 v1 v2 v3 v4 v5 => apS [] (fX6_serve_123 k23 v0 v1 v2 v3 v4 v5 h) st) xs) (kR := kRV)
    (fun xs h st q => jm [2, 2, 1, 1, 1, 1, 1, 0] _ (fun v0 v1 v2 v3 v4 v5 v6 q => apS_ok [] _ (fun st => Ev (d + 1) none mX6_serve (0, 0) 54 [.ref v0, .ref v1, .int v2, .int v3, .int v4, .int v5, .int v6, .null] st h (QV z)) st (fun q => tX6_serve_54 hk23 hk41 v0 v1 v2 v3 v4 v5 v6 h q) q) q)
    (fun xs h st q => jm [2, 2, 1, 1, 1, 1, 0, 0] _ (fun v0 v1 v2 v3 v4 v5 q => apS_ok [] _ (fun st => Ev (d + 1) none mX6_serve (0, 0) 123 [.ref v0, .ref v1, .int v2, .int v3, .int v4, .int v5, .null, .null] st h (QV z)) st (fun q => tX6_serve_123 hk23 v0 v1 v2 v3 v4 v5 h q) q) q)
    kRV_ok (Or.inr rfl) (by decide +kernel) (by decide +kernel) hf
def wX6_serve_41 : List En := [(.iload 6, 0, 0, 0), (.iload_n 2, 0, 0, 0), (.if_icmp .ge 79, 123, 0, 0)]
def fX6_serve_41 (k23 : Nat → Nat → Int32 → Int32 → Int32 → Int32 → aH → Option (aH)) (k41 : Nat → Nat → Int32 → Int32 → Int32 → Int32 → Int32 → aH → Option (aH)) (v0 : Nat) (v1 : Nat) (v2 : Int32) (v3 : Int32) (v4 : Int32) (v5 : Int32) (v6 : Int32) (h : aH) : Option (aH) :=
  if v6 < v2 then fX6_serve_47 k23 k41 v0 v1 v2 v3 v4 v5 v6 h else fX6_serve_123 k23 v0 v1 v2 v3 v4 v5 h
theorem tX6_serve_41 {d : Nat} {z : aH} {k23 : Nat → Nat → Int32 → Int32 → Int32 → Int32 → aH → Option (aH)} {k41 : Nat → Nat → Int32 → Int32 → Int32 → Int32 → Int32 → aH → Option (aH)} (hk23 : ∀ (v0 : Nat) (v1 : Nat) (v2 : Int32) (v3 : Int32) (v4 : Int32) (v5 : Int32) (h : aH), k23 v0 v1 v2 v3 v4 v5 h = some z → Ev (d + 1) none mX6_serve (0, 0) 23 [.ref v0, .ref v1, .int v2, .int v3, .int v4, .int v5, .null, .null] [] h (QV z)) (hk41 : ∀ (v0 : Nat) (v1 : Nat) (v2 : Int32) (v3 : Int32) (v4 : Int32) (v5 : Int32) (v6 : Int32) (h : aH), k41 v0 v1 v2 v3 v4 v5 v6 h = some z → Ev (d + 1) none mX6_serve (0, 0) 41 [.ref v0, .ref v1, .int v2, .int v3, .int v4, .int v5, .int v6, .null] [] h (QV z)) (v0 : Nat) (v1 : Nat) (v2 : Int32) (v3 : Int32) (v4 : Int32) (v5 : Int32) (v6 : Int32) (h : aH) (hf : fX6_serve_41 k23 k41 v0 v1 v2 v3 v4 v5 v6 h = some z) : Ev (d + 1) none mX6_serve (0, 0) 41 [.ref v0, .ref v1, .int v2, .int v3, .int v4, .int v5, .int v6, .null] [] h (QV z) := 
  go_ok (X := none) (blk := wX6_serve_41) (np := 47) (tt := 123) (kN := fun xs h st => app [2, 2, 1, 1, 1, 1, 1, 0] (fun v0 v1 v2 v3 v4 v5 v6 => apS [] (fX6_serve_47 k23 k41 v0 v1 v2 v3 v4 v5 v6 h) st) xs) (kT := fun xs h st => app [2, 2, 1, 1, 1, 1, 0, 0] (fun v0 v1 v2 v3 v4 v5 => apS [] (fX6_serve_123 k23 v0 v1 v2 v3 v4 v5 h) st) xs) (kR := kRV)
    (fun xs h st q => jm [2, 2, 1, 1, 1, 1, 1, 0] _ (fun v0 v1 v2 v3 v4 v5 v6 q => apS_ok [] _ (fun st => Ev (d + 1) none mX6_serve (0, 0) 47 [.ref v0, .ref v1, .int v2, .int v3, .int v4, .int v5, .int v6, .null] st h (QV z)) st (fun q => tX6_serve_47 hk23 hk41 v0 v1 v2 v3 v4 v5 v6 h q) q) q)
    (fun xs h st q => jm [2, 2, 1, 1, 1, 1, 0, 0] _ (fun v0 v1 v2 v3 v4 v5 q => apS_ok [] _ (fun st => Ev (d + 1) none mX6_serve (0, 0) 123 [.ref v0, .ref v1, .int v2, .int v3, .int v4, .int v5, .null, .null] st h (QV z)) st (fun q => tX6_serve_123 hk23 v0 v1 v2 v3 v4 v5 h q) q) q)
    kRV_ok (Or.inr rfl) (by decide +kernel) (by decide +kernel) hf
def lX6_serve_41 (k23 : Nat → Nat → Int32 → Int32 → Int32 → Int32 → aH → Option (aH)) : Nat → Nat → Nat → Int32 → Int32 → Int32 → Int32 → Int32 → aH → Option (aH)
  | 0, _, _, _, _, _, _, _, _ => none
  | n + 1, v0, v1, v2, v3, v4, v5, v6, h => fX6_serve_41 k23 (lX6_serve_41 k23 n) v0 v1 v2 v3 v4 v5 v6 h
theorem uX6_serve_41 {d : Nat} {z : aH} {k23 : Nat → Nat → Int32 → Int32 → Int32 → Int32 → aH → Option (aH)} (hk23 : ∀ (v0 : Nat) (v1 : Nat) (v2 : Int32) (v3 : Int32) (v4 : Int32) (v5 : Int32) (h : aH), k23 v0 v1 v2 v3 v4 v5 h = some z → Ev (d + 1) none mX6_serve (0, 0) 23 [.ref v0, .ref v1, .int v2, .int v3, .int v4, .int v5, .null, .null] [] h (QV z)) : ∀ (n : Nat) (v0 : Nat) (v1 : Nat) (v2 : Int32) (v3 : Int32) (v4 : Int32) (v5 : Int32) (v6 : Int32) (h : aH), lX6_serve_41 k23 n v0 v1 v2 v3 v4 v5 v6 h = some z → Ev (d + 1) none mX6_serve (0, 0) 41 [.ref v0, .ref v1, .int v2, .int v3, .int v4, .int v5, .int v6, .null] [] h (QV z) := by
  intro n
  induction n with
  | zero => intro _ _ _ _ _ _ _ _ q; exact nos (show (none : Option (aH)) = some z from q)
  | succ n ih => intro v0 v1 v2 v3 v4 v5 v6 h q; exact tX6_serve_41 hk23 ih v0 v1 v2 v3 v4 v5 v6 h q
def wX6_serve_35 : List En := [(.iconst 0, 0, 0, 0), (.istore 4, 0, 0, 0), (.iconst 0, 0, 0, 0), (.istore 6, 0, 0, 0)]
def fX6_serve_35 (k23 : Nat → Nat → Int32 → Int32 → Int32 → Int32 → aH → Option (aH)) (v0 : Nat) (v1 : Nat) (v2 : Int32) (v3 : Int32) (v5 : Int32) (h : aH) : Option (aH) :=
  lX6_serve_41 k23 FU v0 v1 v2 v3 (kI 0) v5 (kI 0) h
theorem tX6_serve_35 {d : Nat} {z : aH} {k23 : Nat → Nat → Int32 → Int32 → Int32 → Int32 → aH → Option (aH)} (hk23 : ∀ (v0 : Nat) (v1 : Nat) (v2 : Int32) (v3 : Int32) (v4 : Int32) (v5 : Int32) (h : aH), k23 v0 v1 v2 v3 v4 v5 h = some z → Ev (d + 1) none mX6_serve (0, 0) 23 [.ref v0, .ref v1, .int v2, .int v3, .int v4, .int v5, .null, .null] [] h (QV z)) (v0 : Nat) (v1 : Nat) (v2 : Int32) (v3 : Int32) (v5 : Int32) (h : aH) (hf : fX6_serve_35 k23 v0 v1 v2 v3 v5 h = some z) : Ev (d + 1) none mX6_serve (0, 0) 35 [.ref v0, .ref v1, .int v2, .int v3, .null, .int v5, .null, .null] [] h (QV z) := 
  go_ok (X := none) (blk := wX6_serve_35) (np := 41) (tt := 0) (kN := fun xs h st => app [2, 2, 1, 1, 1, 1, 1, 0] (fun v0 v1 v2 v3 v4 v5 v6 => apS [] (lX6_serve_41 k23 FU v0 v1 v2 v3 v4 v5 v6 h) st) xs) (kT := fun _ _ _ => none) (kR := kRV)
    (fun xs h st q => jm [2, 2, 1, 1, 1, 1, 1, 0] _ (fun v0 v1 v2 v3 v4 v5 v6 q => apS_ok [] _ (fun st => Ev (d + 1) none mX6_serve (0, 0) 41 [.ref v0, .ref v1, .int v2, .int v3, .int v4, .int v5, .int v6, .null] st h (QV z)) st (fun q => uX6_serve_41 hk23 FU v0 v1 v2 v3 v4 v5 v6 h q) q) q)
    (fun _ _ _ q => nos q)
    kRV_ok (Or.inr rfl) (by decide +kernel) (by decide +kernel) hf
def wX6_serve_30 : List En := [(.iload 4, 0, 0, 0), (.ifCond .eq 97, 129, 0, 0)]
def fX6_serve_30 (k23 : Nat → Nat → Int32 → Int32 → Int32 → Int32 → aH → Option (aH)) (v0 : Nat) (v1 : Nat) (v2 : Int32) (v3 : Int32) (v4 : Int32) (v5 : Int32) (h : aH) : Option (aH) :=
  if v4 = 0 then fX6_serve_129 h else fX6_serve_35 k23 v0 v1 v2 v3 v5 h
theorem tX6_serve_30 {d : Nat} {z : aH} {k23 : Nat → Nat → Int32 → Int32 → Int32 → Int32 → aH → Option (aH)} (hk23 : ∀ (v0 : Nat) (v1 : Nat) (v2 : Int32) (v3 : Int32) (v4 : Int32) (v5 : Int32) (h : aH), k23 v0 v1 v2 v3 v4 v5 h = some z → Ev (d + 1) none mX6_serve (0, 0) 23 [.ref v0, .ref v1, .int v2, .int v3, .int v4, .int v5, .null, .null] [] h (QV z)) (v0 : Nat) (v1 : Nat) (v2 : Int32) (v3 : Int32) (v4 : Int32) (v5 : Int32) (h : aH) (hf : fX6_serve_30 k23 v0 v1 v2 v3 v4 v5 h = some z) : Ev (d + 1) none mX6_serve (0, 0) 30 [.ref v0, .ref v1, .int v2, .int v3, .int v4, .int v5, .null, .null] [] h (QV z) := 
  go_ok (X := none) (blk := wX6_serve_30) (np := 35) (tt := 129) (kN := fun xs h st => app [2, 2, 1, 1, 0, 1, 0, 0] (fun v0 v1 v2 v3 v5 => apS [] (fX6_serve_35 k23 v0 v1 v2 v3 v5 h) st) xs) (kT := fun xs h st => app [0, 0, 0, 0, 0, 0, 0, 0] (apS [] (fX6_serve_129 h) st) xs) (kR := kRV)
    (fun xs h st q => jm [2, 2, 1, 1, 0, 1, 0, 0] _ (fun v0 v1 v2 v3 v5 q => apS_ok [] _ (fun st => Ev (d + 1) none mX6_serve (0, 0) 35 [.ref v0, .ref v1, .int v2, .int v3, .null, .int v5, .null, .null] st h (QV z)) st (fun q => tX6_serve_35 hk23 v0 v1 v2 v3 v5 h q) q) q)
    (fun xs h st q => jm [0, 0, 0, 0, 0, 0, 0, 0] _ (fun q => apS_ok [] _ (fun st => Ev (d + 1) none mX6_serve (0, 0) 129 [.null, .null, .null, .null, .null, .null, .null, .null] st h (QV z)) st (fun q => tX6_serve_129 h q) q) q)
    kRV_ok (Or.inr rfl) (by decide +kernel) (by decide +kernel) hf
def wX6_serve_23 : List En := [(.iload 5, 0, 0, 0), (.bipush 99, 0, 0, 0), (.if_icmp .gt 102, 129, 0, 0)]
def fX6_serve_23 (k23 : Nat → Nat → Int32 → Int32 → Int32 → Int32 → aH → Option (aH)) (v0 : Nat) (v1 : Nat) (v2 : Int32) (v3 : Int32) (v4 : Int32) (v5 : Int32) (h : aH) : Option (aH) :=
  if (kB 99) < v5 then fX6_serve_129 h else fX6_serve_30 k23 v0 v1 v2 v3 v4 v5 h
theorem tX6_serve_23 {d : Nat} {z : aH} {k23 : Nat → Nat → Int32 → Int32 → Int32 → Int32 → aH → Option (aH)} (hk23 : ∀ (v0 : Nat) (v1 : Nat) (v2 : Int32) (v3 : Int32) (v4 : Int32) (v5 : Int32) (h : aH), k23 v0 v1 v2 v3 v4 v5 h = some z → Ev (d + 1) none mX6_serve (0, 0) 23 [.ref v0, .ref v1, .int v2, .int v3, .int v4, .int v5, .null, .null] [] h (QV z)) (v0 : Nat) (v1 : Nat) (v2 : Int32) (v3 : Int32) (v4 : Int32) (v5 : Int32) (h : aH) (hf : fX6_serve_23 k23 v0 v1 v2 v3 v4 v5 h = some z) : Ev (d + 1) none mX6_serve (0, 0) 23 [.ref v0, .ref v1, .int v2, .int v3, .int v4, .int v5, .null, .null] [] h (QV z) := 
  go_ok (X := none) (blk := wX6_serve_23) (np := 30) (tt := 129) (kN := fun xs h st => app [2, 2, 1, 1, 1, 1, 0, 0] (fun v0 v1 v2 v3 v4 v5 => apS [] (fX6_serve_30 k23 v0 v1 v2 v3 v4 v5 h) st) xs) (kT := fun xs h st => app [0, 0, 0, 0, 0, 0, 0, 0] (apS [] (fX6_serve_129 h) st) xs) (kR := kRV)
    (fun xs h st q => jm [2, 2, 1, 1, 1, 1, 0, 0] _ (fun v0 v1 v2 v3 v4 v5 q => apS_ok [] _ (fun st => Ev (d + 1) none mX6_serve (0, 0) 30 [.ref v0, .ref v1, .int v2, .int v3, .int v4, .int v5, .null, .null] st h (QV z)) st (fun q => tX6_serve_30 hk23 v0 v1 v2 v3 v4 v5 h q) q) q)
    (fun xs h st q => jm [0, 0, 0, 0, 0, 0, 0, 0] _ (fun q => apS_ok [] _ (fun st => Ev (d + 1) none mX6_serve (0, 0) 129 [.null, .null, .null, .null, .null, .null, .null, .null] st h (QV z)) st (fun q => tX6_serve_129 h q) q) q)
    kRV_ok (Or.inr rfl) (by decide +kernel) (by decide +kernel) hf
def lX6_serve_23 : Nat → Nat → Nat → Int32 → Int32 → Int32 → Int32 → aH → Option (aH)
  | 0, _, _, _, _, _, _, _ => none
  | n + 1, v0, v1, v2, v3, v4, v5, h => fX6_serve_23 (lX6_serve_23 n) v0 v1 v2 v3 v4 v5 h
theorem uX6_serve_23 {d : Nat} {z : aH} : ∀ (n : Nat) (v0 : Nat) (v1 : Nat) (v2 : Int32) (v3 : Int32) (v4 : Int32) (v5 : Int32) (h : aH), lX6_serve_23 n v0 v1 v2 v3 v4 v5 h = some z → Ev (d + 1) none mX6_serve (0, 0) 23 [.ref v0, .ref v1, .int v2, .int v3, .int v4, .int v5, .null, .null] [] h (QV z) := by
  intro n
  induction n with
  | zero => intro _ _ _ _ _ _ _ q; exact nos (show (none : Option (aH)) = some z from q)
  | succ n ih => intro v0 v1 v2 v3 v4 v5 h q; exact tX6_serve_23 ih v0 v1 v2 v3 v4 v5 h q
def wX6_serve_16 : List En := [(.istore_n 3, 0, 0, 0), (.iconst 1, 0, 0, 0), (.istore 4, 0, 0, 0), (.iconst 0, 0, 0, 0), (.istore 5, 0, 0, 0)]
def fX6_serve_16 (v0 : Nat) (v1 : Nat) (v2 : Int32) (s0 : Int32) (h : aH) : Option (aH) :=
  lX6_serve_23 FU v0 v1 v2 s0 (kI 1) (kI 0) h
theorem tX6_serve_16 {d : Nat} {z : aH} (v0 : Nat) (v1 : Nat) (v2 : Int32) (s0 : Int32) (h : aH) (hf : fX6_serve_16 v0 v1 v2 s0 h = some z) : Ev (d + 1) none mX6_serve (0, 0) 16 [.ref v0, .ref v1, .int v2, .null, .null, .null, .null, .null] [.int s0] h (QV z) := 
  go_ok (X := none) (blk := wX6_serve_16) (np := 23) (tt := 0) (kN := fun xs h st => app [2, 2, 1, 1, 1, 1, 0, 0] (fun v0 v1 v2 v3 v4 v5 => apS [] (lX6_serve_23 FU v0 v1 v2 v3 v4 v5 h) st) xs) (kT := fun _ _ _ => none) (kR := kRV)
    (fun xs h st q => jm [2, 2, 1, 1, 1, 1, 0, 0] _ (fun v0 v1 v2 v3 v4 v5 q => apS_ok [] _ (fun st => Ev (d + 1) none mX6_serve (0, 0) 23 [.ref v0, .ref v1, .int v2, .int v3, .int v4, .int v5, .null, .null] st h (QV z)) st (fun q => uX6_serve_23 FU v0 v1 v2 v3 v4 v5 h q) q) q)
    (fun _ _ _ q => nos q)
    kRV_ok (Or.inr rfl) (by decide +kernel) (by decide +kernel) hf
theorem kqX6_serve_13 : okC mX6_serve 13 (.invokevirtual 85) 89 83 0 1 = true := by decide +kernel
def fX6_serve_13 (v0 : Nat) (v1 : Nat) (v2 : Int32) (s0 : Int32) (s1 : Nat) (h : aH) : Option (aH) :=
  (isO h 7 s1).bind fun _ =>
  (gX7_worthOf s1 s0 h).bind fun r =>
  fX6_serve_16 v0 v1 v2 r.1 r.2
theorem tX6_serve_13 {d : Nat} {z : aH} (v0 : Nat) (v1 : Nat) (v2 : Int32) (s0 : Int32) (s1 : Nat) (h : aH) (hf : fX6_serve_13 v0 v1 v2 s0 s1 h = some z) : Ev (d + 1) none mX6_serve (0, 0) 13 [.ref v0, .ref v1, .int v2, .null, .null, .null, .null, .null] [.int s0, .ref s1] h (QV z) := by
  obtain ⟨_, h1, hf⟩ := bnd hf
  obtain ⟨fs, ho⟩ := isO_ok h1
  obtain ⟨r, h2, hf⟩ := bnd hf
  refine ev_V kqX6_serve_13 jX7_worthOf (zX7_worthOf (d := d + 0) h2) ho rfl rfl (Nat.le_of_ble_eq_true rfl) rfl (as := [.int s0]) (rest := []) rfl (Nat.le_of_ble_eq_true rfl) (fun _ _ hq => ?_)
  obtain ⟨rfl, rfl⟩ := hq
  exact jm [2, 2, 1, 0, 0, 0, 0, 0] (fun v0 v1 v2 => fX6_serve_16 v0 v1 v2 r.1 r.2) (fun v0 v1 v2 q => tX6_serve_16 v0 v1 v2 r.1 r.2 q) hf
def wX6_serve_8 : List En := [(.aload_n 1, 0, 0, 0), (.aload_n 0, 0, 0, 0), (.getfield 15, 39, 6, 1)]
def fX6_serve_8 (v0 : Nat) (v1 : Nat) (v2 : Int32) (h : aH) : Option (aH) :=
  (gFI h 6 v0 1).bind fun t1 =>
  fX6_serve_13 v0 v1 v2 t1 v1 h
theorem tX6_serve_8 {d : Nat} {z : aH} (v0 : Nat) (v1 : Nat) (v2 : Int32) (h : aH) (hf : fX6_serve_8 v0 v1 v2 h = some z) : Ev (d + 1) none mX6_serve (0, 0) 8 [.ref v0, .ref v1, .int v2, .null, .null, .null, .null, .null] [] h (QV z) := 
  go_ok (X := none) (blk := wX6_serve_8) (np := 13) (tt := 0) (kN := fun xs h st => app [2, 2, 1, 0, 0, 0, 0, 0] (fun v0 v1 v2 => apS [1, 2] (fun s0 s1 => fX6_serve_13 v0 v1 v2 s0 s1 h) st) xs) (kT := fun _ _ _ => none) (kR := kRV)
    (fun xs h st q => jm [2, 2, 1, 0, 0, 0, 0, 0] _ (fun v0 v1 v2 q => apS_ok [1, 2] _ (fun st => Ev (d + 1) none mX6_serve (0, 0) 13 [.ref v0, .ref v1, .int v2, .null, .null, .null, .null, .null] st h (QV z)) st (fun s0 s1 q => tX6_serve_13 v0 v1 v2 s0 s1 h q) q) q)
    (fun _ _ _ q => nos q)
    kRV_ok (Or.inr rfl) (by decide +kernel) (by decide +kernel) hf
theorem kqX6_serve_5 : okC mX6_serve 5 (.invokestatic 79) 57 82 1 2 = true := by decide +kernel
def fX6_serve_5 (v0 : Nat) (v1 : Nat) (v2 : Int32) (s0 : Int32) (s1 : Nat) (h : aH) : Option (aH) :=
  (gJ7_fill_53178 s1 s0 h).bind fun r =>
  fX6_serve_8 v0 v1 v2 r
theorem tX6_serve_5 {d : Nat} {z : aH} (v0 : Nat) (v1 : Nat) (v2 : Int32) (s0 : Int32) (s1 : Nat) (h : aH) (hf : fX6_serve_5 v0 v1 v2 s0 s1 h = some z) : Ev (d + 1) none mX6_serve (0, 0) 5 [.ref v0, .ref v1, .int v2, .null, .null, .null, .null, .null] [.int s0, .ref s1] h (QV z) := by
  obtain ⟨r, h2, hf⟩ := bnd hf
  refine ev_S kqX6_serve_5 jJ7_fill_53178 (zJ7_fill_53178 (d := d + 0) h2) rfl (Nat.le_of_ble_eq_true rfl) rfl (as := [.ref s1, .int s0]) (rest := []) rfl (Nat.le_of_ble_eq_true rfl) (fun _ _ hq => ?_)
  obtain ⟨rfl, hh⟩ := hq
  rw [hh]
  exact jm [2, 2, 1, 0, 0, 0, 0, 0] (fun v0 v1 v2 => fX6_serve_8 v0 v1 v2 r) (fun v0 v1 v2 q => tX6_serve_8 v0 v1 v2 r q) hf
def wX6_serve_0 : List En := [(.aload_n 0, 0, 0, 0), (.getfield 18, 44, 6, 2), (.iconst 0, 0, 0, 0)]
def fX6_serve_0 (v0 : Nat) (v1 : Nat) (v2 : Int32) (h : aH) : Option (aH) :=
  (gFR h 6 v0 2).bind fun t1 =>
  fX6_serve_5 v0 v1 v2 (kI 0) t1 h
theorem tX6_serve_0 {d : Nat} {z : aH} (v0 : Nat) (v1 : Nat) (v2 : Int32) (h : aH) (hf : fX6_serve_0 v0 v1 v2 h = some z) : Ev (d + 1) none mX6_serve (0, 0) 0 [.ref v0, .ref v1, .int v2, .null, .null, .null, .null, .null] [] h (QV z) := 
  go_ok (X := none) (blk := wX6_serve_0) (np := 5) (tt := 0) (kN := fun xs h st => app [2, 2, 1, 0, 0, 0, 0, 0] (fun v0 v1 v2 => apS [1, 2] (fun s0 s1 => fX6_serve_5 v0 v1 v2 s0 s1 h) st) xs) (kT := fun _ _ _ => none) (kR := kRV)
    (fun xs h st q => jm [2, 2, 1, 0, 0, 0, 0, 0] _ (fun v0 v1 v2 q => apS_ok [1, 2] _ (fun st => Ev (d + 1) none mX6_serve (0, 0) 5 [.ref v0, .ref v1, .int v2, .null, .null, .null, .null, .null] st h (QV z)) st (fun s0 s1 q => tX6_serve_5 v0 v1 v2 s0 s1 h q) q) q)
    (fun _ _ _ q => nos q)
    kRV_ok (Or.inr rfl) (by decide +kernel) (by decide +kernel) hf
def gX6_serve (v0 : Nat) (v1 : Nat) (v2 : Int32) (h : aH) : Option (aH) := fX6_serve_0 v0 v1 v2 h
theorem zX6_serve {d : Nat} {z : aH} {v0 : Nat} {v1 : Nat} {v2 : Int32} {h : aH} (q : gX6_serve v0 v1 v2 h = some z) : CT (d + 1) mX6_serve (0, 0) [.ref v0, .ref v1, .int v2] h (QV z) :=
  ct_ev (by decide +kernel) (Nat.le_of_ble_eq_true rfl) QV_r (jm [2, 2, 1, 0, 0, 0, 0, 0] (fun v0 v1 v2 => fX6_serve_0 v0 v1 v2 h) (fun v0 v1 v2 q => tX6_serve_0 v0 v1 v2 h q) q)
def wX7_close_80 : List En := [(.aload_n 0, 0, 0, 0), (.iconst 0, 0, 0, 0), (.putfield 50, 29, 7, 4), (.aload_n 0, 0, 0, 0), (.dup, 0, 0, 0), (.getfield 56, 34, 7, 6), (.iconst 1, 0, 0, 0), (.iadd, 0, 0, 0), (.putfield 56, 34, 7, 6), (.return_, 0, 0, 0)]
def fX7_close_80 (v0 : Nat) (h : aH) : Option (aH) :=
  (pWV h 7 v0 4 (.int (kI 0))).bind fun h1 =>
  (gFI h1 7 v0 6).bind fun t2 =>
  (pWV h1 7 v0 6 (.int (t2 + (kI 1)))).bind fun h3 =>
  some h3
theorem tX7_close_80 {d : Nat} {z : aH} (v0 : Nat) (h : aH) (hf : fX7_close_80 v0 h = some z) : Ev (d + 1) none mX7_close (0, 0) 80 [.ref v0, .null, .null, .null] [] h (QV z) := 
  go_ok (X := none) (blk := wX7_close_80) (np := 96) (tt := 0) (kN := fun _ _ _ => none) (kT := fun _ _ _ => none) (kR := kRV)
    (fun _ _ _ q => nos q)
    (fun _ _ _ q => nos q)
    kRV_ok (Or.inr rfl) (by decide +kernel) (by decide +kernel) hf
def wX7_close_74 : List En := [(.iinc 3 1, 0, 0, 0), (.goto (-75), 2, 0, 0)]
def fX7_close_74 (k2 : Nat → Nat → Int32 → Int32 → aH → Option (aH)) (v0 : Nat) (v1 : Nat) (v2 : Int32) (v3 : Int32) (h : aH) : Option (aH) :=
  k2 v0 v1 v2 (v3 + kI 1) h
theorem tX7_close_74 {d : Nat} {z : aH} {k2 : Nat → Nat → Int32 → Int32 → aH → Option (aH)} (hk2 : ∀ (v0 : Nat) (v1 : Nat) (v2 : Int32) (v3 : Int32) (h : aH), k2 v0 v1 v2 v3 h = some z → Ev (d + 1) none mX7_close (0, 0) 2 [.ref v0, .ref v1, .int v2, .int v3] [] h (QV z)) (v0 : Nat) (v1 : Nat) (v2 : Int32) (v3 : Int32) (h : aH) (hf : fX7_close_74 k2 v0 v1 v2 v3 h = some z) : Ev (d + 1) none mX7_close (0, 0) 74 [.ref v0, .ref v1, .int v2, .int v3] [] h (QV z) := 
  go_ok (X := none) (blk := wX7_close_74) (np := 80) (tt := 2) (kN := fun _ _ _ => none) (kT := fun xs h st => app [2, 2, 1, 1] (fun v0 v1 v2 v3 => apS [] (k2 v0 v1 v2 v3 h) st) xs) (kR := kRV)
    (fun _ _ _ q => nos q)
    (fun xs h st q => jm [2, 2, 1, 1] _ (fun v0 v1 v2 v3 q => apS_ok [] _ (fun st => Ev (d + 1) none mX7_close (0, 0) 2 [.ref v0, .ref v1, .int v2, .int v3] st h (QV z)) st (fun q => hk2 v0 v1 v2 v3 h q) q) q)
    kRV_ok (Or.inr rfl) (by decide +kernel) (by decide +kernel) hf
def wX7_close_70 : List En := [(.ior, 0, 0, 0), (.putfield 47, 26, 7, 3)]
def fX7_close_70 (k2 : Nat → Nat → Int32 → Int32 → aH → Option (aH)) (v0 : Nat) (v1 : Nat) (v2 : Int32) (v3 : Int32) (s0 : Int32) (s1 : Int32) (s2 : Nat) (h : aH) : Option (aH) :=
  (pWV h 7 s2 3 (.int (s1 ||| s0))).bind fun h1 =>
  fX7_close_74 k2 v0 v1 v2 v3 h1
theorem tX7_close_70 {d : Nat} {z : aH} {k2 : Nat → Nat → Int32 → Int32 → aH → Option (aH)} (hk2 : ∀ (v0 : Nat) (v1 : Nat) (v2 : Int32) (v3 : Int32) (h : aH), k2 v0 v1 v2 v3 h = some z → Ev (d + 1) none mX7_close (0, 0) 2 [.ref v0, .ref v1, .int v2, .int v3] [] h (QV z)) (v0 : Nat) (v1 : Nat) (v2 : Int32) (v3 : Int32) (s0 : Int32) (s1 : Int32) (s2 : Nat) (h : aH) (hf : fX7_close_70 k2 v0 v1 v2 v3 s0 s1 s2 h = some z) : Ev (d + 1) none mX7_close (0, 0) 70 [.ref v0, .ref v1, .int v2, .int v3] [.int s0, .int s1, .ref s2] h (QV z) := 
  go_ok (X := none) (blk := wX7_close_70) (np := 74) (tt := 0) (kN := fun xs h st => app [2, 2, 1, 1] (fun v0 v1 v2 v3 => apS [] (fX7_close_74 k2 v0 v1 v2 v3 h) st) xs) (kT := fun _ _ _ => none) (kR := kRV)
    (fun xs h st q => jm [2, 2, 1, 1] _ (fun v0 v1 v2 v3 q => apS_ok [] _ (fun st => Ev (d + 1) none mX7_close (0, 0) 74 [.ref v0, .ref v1, .int v2, .int v3] st h (QV z)) st (fun q => tX7_close_74 hk2 v0 v1 v2 v3 h q) q) q)
    (fun _ _ _ q => nos q)
    kRV_ok (Or.inr rfl) (by decide +kernel) (by decide +kernel) hf
def wX7_close_69 : List En := [(.iconst 0, 0, 0, 0)]
def fX7_close_69 (k2 : Nat → Nat → Int32 → Int32 → aH → Option (aH)) (v0 : Nat) (v1 : Nat) (v2 : Int32) (v3 : Int32) (s0 : Int32) (s1 : Nat) (h : aH) : Option (aH) :=
  fX7_close_70 k2 v0 v1 v2 v3 (kI 0) s0 s1 h
theorem tX7_close_69 {d : Nat} {z : aH} {k2 : Nat → Nat → Int32 → Int32 → aH → Option (aH)} (hk2 : ∀ (v0 : Nat) (v1 : Nat) (v2 : Int32) (v3 : Int32) (h : aH), k2 v0 v1 v2 v3 h = some z → Ev (d + 1) none mX7_close (0, 0) 2 [.ref v0, .ref v1, .int v2, .int v3] [] h (QV z)) (v0 : Nat) (v1 : Nat) (v2 : Int32) (v3 : Int32) (s0 : Int32) (s1 : Nat) (h : aH) (hf : fX7_close_69 k2 v0 v1 v2 v3 s0 s1 h = some z) : Ev (d + 1) none mX7_close (0, 0) 69 [.ref v0, .ref v1, .int v2, .int v3] [.int s0, .ref s1] h (QV z) := 
  go_ok (X := none) (blk := wX7_close_69) (np := 70) (tt := 0) (kN := fun xs h st => app [2, 2, 1, 1] (fun v0 v1 v2 v3 => apS [1, 1, 2] (fun s0 s1 s2 => fX7_close_70 k2 v0 v1 v2 v3 s0 s1 s2 h) st) xs) (kT := fun _ _ _ => none) (kR := kRV)
    (fun xs h st q => jm [2, 2, 1, 1] _ (fun v0 v1 v2 v3 q => apS_ok [1, 1, 2] _ (fun st => Ev (d + 1) none mX7_close (0, 0) 70 [.ref v0, .ref v1, .int v2, .int v3] st h (QV z)) st (fun s0 s1 s2 q => tX7_close_70 hk2 v0 v1 v2 v3 s0 s1 s2 h q) q) q)
    (fun _ _ _ q => nos q)
    kRV_ok (Or.inr rfl) (by decide +kernel) (by decide +kernel) hf
def wX7_close_63 : List En := [(.iconst 1, 0, 0, 0), (.iload_n 3, 0, 0, 0), (.ishl, 0, 0, 0), (.goto 4, 70, 0, 0)]
def fX7_close_63 (k2 : Nat → Nat → Int32 → Int32 → aH → Option (aH)) (v0 : Nat) (v1 : Nat) (v2 : Int32) (v3 : Int32) (s0 : Int32) (s1 : Nat) (h : aH) : Option (aH) :=
  fX7_close_70 k2 v0 v1 v2 v3 ((kI 1) <<< (v3 &&& 31)) s0 s1 h
theorem tX7_close_63 {d : Nat} {z : aH} {k2 : Nat → Nat → Int32 → Int32 → aH → Option (aH)} (hk2 : ∀ (v0 : Nat) (v1 : Nat) (v2 : Int32) (v3 : Int32) (h : aH), k2 v0 v1 v2 v3 h = some z → Ev (d + 1) none mX7_close (0, 0) 2 [.ref v0, .ref v1, .int v2, .int v3] [] h (QV z)) (v0 : Nat) (v1 : Nat) (v2 : Int32) (v3 : Int32) (s0 : Int32) (s1 : Nat) (h : aH) (hf : fX7_close_63 k2 v0 v1 v2 v3 s0 s1 h = some z) : Ev (d + 1) none mX7_close (0, 0) 63 [.ref v0, .ref v1, .int v2, .int v3] [.int s0, .ref s1] h (QV z) := 
  go_ok (X := none) (blk := wX7_close_63) (np := 69) (tt := 70) (kN := fun _ _ _ => none) (kT := fun xs h st => app [2, 2, 1, 1] (fun v0 v1 v2 v3 => apS [1, 1, 2] (fun s0 s1 s2 => fX7_close_70 k2 v0 v1 v2 v3 s0 s1 s2 h) st) xs) (kR := kRV)
    (fun _ _ _ q => nos q)
    (fun xs h st q => jm [2, 2, 1, 1] _ (fun v0 v1 v2 v3 q => apS_ok [1, 1, 2] _ (fun st => Ev (d + 1) none mX7_close (0, 0) 70 [.ref v0, .ref v1, .int v2, .int v3] st h (QV z)) st (fun s0 s1 s2 q => tX7_close_70 hk2 v0 v1 v2 v3 s0 s1 s2 h q) q) q)
    kRV_ok (Or.inr rfl) (by decide +kernel) (by decide +kernel) hf
def wX7_close_44 : List En := [(.iastore, 0, 0, 0), (.aload_n 0, 0, 0, 0), (.dup, 0, 0, 0), (.getfield 47, 26, 7, 3), (.aload_n 0, 0, 0, 0), (.getfield 9, 18, 7, 0), (.iload_n 3, 0, 0, 0), (.iaload, 0, 0, 0), (.aload_n 1, 0, 0, 0), (.getfield 80, 101, 9, 1), (.if_icmp .le 9, 69, 0, 0)]
def fX7_close_44 (k2 : Nat → Nat → Int32 → Int32 → aH → Option (aH)) (v0 : Nat) (v1 : Nat) (v2 : Int32) (v3 : Int32) (s0 : Int32) (s1 : Int32) (s2 : Nat) (h : aH) : Option (aH) :=
  (aWI h s2 s1 s0).bind fun h1 =>
  (gFI h1 7 v0 3).bind fun t2 =>
  (gFR h1 7 v0 0).bind fun t3 =>
  (aRI (h1[t3]?) v3).bind fun t4 =>
  (gFI h1 9 v1 1).bind fun t5 =>
  if t5 < t4 then fX7_close_63 k2 v0 v1 v2 v3 t2 v0 h1 else fX7_close_69 k2 v0 v1 v2 v3 t2 v0 h1
theorem tX7_close_44 {d : Nat} {z : aH} {k2 : Nat → Nat → Int32 → Int32 → aH → Option (aH)} (hk2 : ∀ (v0 : Nat) (v1 : Nat) (v2 : Int32) (v3 : Int32) (h : aH), k2 v0 v1 v2 v3 h = some z → Ev (d + 1) none mX7_close (0, 0) 2 [.ref v0, .ref v1, .int v2, .int v3] [] h (QV z)) (v0 : Nat) (v1 : Nat) (v2 : Int32) (v3 : Int32) (s0 : Int32) (s1 : Int32) (s2 : Nat) (h : aH) (hf : fX7_close_44 k2 v0 v1 v2 v3 s0 s1 s2 h = some z) : Ev (d + 1) none mX7_close (0, 0) 44 [.ref v0, .ref v1, .int v2, .int v3] [.int s0, .int s1, .ref s2] h (QV z) := 
  go_ok (X := none) (blk := wX7_close_44) (np := 63) (tt := 69) (kN := fun xs h st => app [2, 2, 1, 1] (fun v0 v1 v2 v3 => apS [1, 2] (fun s0 s1 => fX7_close_63 k2 v0 v1 v2 v3 s0 s1 h) st) xs) (kT := fun xs h st => app [2, 2, 1, 1] (fun v0 v1 v2 v3 => apS [1, 2] (fun s0 s1 => fX7_close_69 k2 v0 v1 v2 v3 s0 s1 h) st) xs) (kR := kRV)
    (fun xs h st q => jm [2, 2, 1, 1] _ (fun v0 v1 v2 v3 q => apS_ok [1, 2] _ (fun st => Ev (d + 1) none mX7_close (0, 0) 63 [.ref v0, .ref v1, .int v2, .int v3] st h (QV z)) st (fun s0 s1 q => tX7_close_63 hk2 v0 v1 v2 v3 s0 s1 h q) q) q)
    (fun xs h st q => jm [2, 2, 1, 1] _ (fun v0 v1 v2 v3 q => apS_ok [1, 2] _ (fun st => Ev (d + 1) none mX7_close (0, 0) 69 [.ref v0, .ref v1, .int v2, .int v3] st h (QV z)) st (fun s0 s1 q => tX7_close_69 hk2 v0 v1 v2 v3 s0 s1 h q) q) q)
    kRV_ok (Or.inr rfl) (by decide +kernel) (by decide +kernel) hf
def wX7_close_43 : List En := [(.iconst 0, 0, 0, 0)]
def fX7_close_43 (k2 : Nat → Nat → Int32 → Int32 → aH → Option (aH)) (v0 : Nat) (v1 : Nat) (v2 : Int32) (v3 : Int32) (s0 : Int32) (s1 : Nat) (h : aH) : Option (aH) :=
  fX7_close_44 k2 v0 v1 v2 v3 (kI 0) s0 s1 h
theorem tX7_close_43 {d : Nat} {z : aH} {k2 : Nat → Nat → Int32 → Int32 → aH → Option (aH)} (hk2 : ∀ (v0 : Nat) (v1 : Nat) (v2 : Int32) (v3 : Int32) (h : aH), k2 v0 v1 v2 v3 h = some z → Ev (d + 1) none mX7_close (0, 0) 2 [.ref v0, .ref v1, .int v2, .int v3] [] h (QV z)) (v0 : Nat) (v1 : Nat) (v2 : Int32) (v3 : Int32) (s0 : Int32) (s1 : Nat) (h : aH) (hf : fX7_close_43 k2 v0 v1 v2 v3 s0 s1 h = some z) : Ev (d + 1) none mX7_close (0, 0) 43 [.ref v0, .ref v1, .int v2, .int v3] [.int s0, .ref s1] h (QV z) := 
  go_ok (X := none) (blk := wX7_close_43) (np := 44) (tt := 0) (kN := fun xs h st => app [2, 2, 1, 1] (fun v0 v1 v2 v3 => apS [1, 1, 2] (fun s0 s1 s2 => fX7_close_44 k2 v0 v1 v2 v3 s0 s1 s2 h) st) xs) (kT := fun _ _ _ => none) (kR := kRV)
    (fun xs h st q => jm [2, 2, 1, 1] _ (fun v0 v1 v2 v3 q => apS_ok [1, 1, 2] _ (fun st => Ev (d + 1) none mX7_close (0, 0) 44 [.ref v0, .ref v1, .int v2, .int v3] st h (QV z)) st (fun s0 s1 s2 q => tX7_close_44 hk2 v0 v1 v2 v3 s0 s1 s2 h q) q) q)
    (fun _ _ _ q => nos q)
    kRV_ok (Or.inr rfl) (by decide +kernel) (by decide +kernel) hf
def wX7_close_32 : List En := [(.aload_n 0, 0, 0, 0), (.getfield 15, 21, 7, 1), (.iload_n 3, 0, 0, 0), (.iaload, 0, 0, 0), (.iconst 1, 0, 0, 0), (.iadd, 0, 0, 0), (.goto 4, 44, 0, 0)]
def fX7_close_32 (k2 : Nat → Nat → Int32 → Int32 → aH → Option (aH)) (v0 : Nat) (v1 : Nat) (v2 : Int32) (v3 : Int32) (s0 : Int32) (s1 : Nat) (h : aH) : Option (aH) :=
  (gFR h 7 v0 1).bind fun t1 =>
  (aRI (h[t1]?) v3).bind fun t2 =>
  fX7_close_44 k2 v0 v1 v2 v3 (t2 + (kI 1)) s0 s1 h
theorem tX7_close_32 {d : Nat} {z : aH} {k2 : Nat → Nat → Int32 → Int32 → aH → Option (aH)} (hk2 : ∀ (v0 : Nat) (v1 : Nat) (v2 : Int32) (v3 : Int32) (h : aH), k2 v0 v1 v2 v3 h = some z → Ev (d + 1) none mX7_close (0, 0) 2 [.ref v0, .ref v1, .int v2, .int v3] [] h (QV z)) (v0 : Nat) (v1 : Nat) (v2 : Int32) (v3 : Int32) (s0 : Int32) (s1 : Nat) (h : aH) (hf : fX7_close_32 k2 v0 v1 v2 v3 s0 s1 h = some z) : Ev (d + 1) none mX7_close (0, 0) 32 [.ref v0, .ref v1, .int v2, .int v3] [.int s0, .ref s1] h (QV z) := 
  go_ok (X := none) (blk := wX7_close_32) (np := 43) (tt := 44) (kN := fun _ _ _ => none) (kT := fun xs h st => app [2, 2, 1, 1] (fun v0 v1 v2 v3 => apS [1, 1, 2] (fun s0 s1 s2 => fX7_close_44 k2 v0 v1 v2 v3 s0 s1 s2 h) st) xs) (kR := kRV)
    (fun _ _ _ q => nos q)
    (fun xs h st q => jm [2, 2, 1, 1] _ (fun v0 v1 v2 v3 q => apS_ok [1, 1, 2] _ (fun st => Ev (d + 1) none mX7_close (0, 0) 44 [.ref v0, .ref v1, .int v2, .int v3] st h (QV z)) st (fun s0 s1 s2 q => tX7_close_44 hk2 v0 v1 v2 v3 s0 s1 s2 h q) q) q)
    kRV_ok (Or.inr rfl) (by decide +kernel) (by decide +kernel) hf
def wX7_close_18 : List En := [(.aload_n 0, 0, 0, 0), (.getfield 15, 21, 7, 1), (.iload_n 3, 0, 0, 0), (.iload_n 2, 0, 0, 0), (.iload_n 3, 0, 0, 0), (.ishr, 0, 0, 0), (.iconst 1, 0, 0, 0), (.iand, 0, 0, 0), (.iconst 1, 0, 0, 0), (.if_icmp .ne 14, 43, 0, 0)]
def fX7_close_18 (k2 : Nat → Nat → Int32 → Int32 → aH → Option (aH)) (v0 : Nat) (v1 : Nat) (v2 : Int32) (v3 : Int32) (h : aH) : Option (aH) :=
  (gFR h 7 v0 1).bind fun t1 =>
  if ((v2 >>> (v3 &&& 31)) &&& (kI 1)) = (kI 1) then fX7_close_32 k2 v0 v1 v2 v3 v3 t1 h else fX7_close_43 k2 v0 v1 v2 v3 v3 t1 h
theorem tX7_close_18 {d : Nat} {z : aH} {k2 : Nat → Nat → Int32 → Int32 → aH → Option (aH)} (hk2 : ∀ (v0 : Nat) (v1 : Nat) (v2 : Int32) (v3 : Int32) (h : aH), k2 v0 v1 v2 v3 h = some z → Ev (d + 1) none mX7_close (0, 0) 2 [.ref v0, .ref v1, .int v2, .int v3] [] h (QV z)) (v0 : Nat) (v1 : Nat) (v2 : Int32) (v3 : Int32) (h : aH) (hf : fX7_close_18 k2 v0 v1 v2 v3 h = some z) : Ev (d + 1) none mX7_close (0, 0) 18 [.ref v0, .ref v1, .int v2, .int v3] [] h (QV z) := 
  go_ok (X := none) (blk := wX7_close_18) (np := 32) (tt := 43) (kN := fun xs h st => app [2, 2, 1, 1] (fun v0 v1 v2 v3 => apS [1, 2] (fun s0 s1 => fX7_close_32 k2 v0 v1 v2 v3 s0 s1 h) st) xs) (kT := fun xs h st => app [2, 2, 1, 1] (fun v0 v1 v2 v3 => apS [1, 2] (fun s0 s1 => fX7_close_43 k2 v0 v1 v2 v3 s0 s1 h) st) xs) (kR := kRV)
    (fun xs h st q => jm [2, 2, 1, 1] _ (fun v0 v1 v2 v3 q => apS_ok [1, 2] _ (fun st => Ev (d + 1) none mX7_close (0, 0) 32 [.ref v0, .ref v1, .int v2, .int v3] st h (QV z)) st (fun s0 s1 q => tX7_close_32 hk2 v0 v1 v2 v3 s0 s1 h q) q) q)
    (fun xs h st q => jm [2, 2, 1, 1] _ (fun v0 v1 v2 v3 q => apS_ok [1, 2] _ (fun st => Ev (d + 1) none mX7_close (0, 0) 43 [.ref v0, .ref v1, .int v2, .int v3] st h (QV z)) st (fun s0 s1 q => tX7_close_43 hk2 v0 v1 v2 v3 s0 s1 h q) q) q)
    kRV_ok (Or.inr rfl) (by decide +kernel) (by decide +kernel) hf
def wX7_close_15 : List En := [(.ifCond .ne 59, 74, 0, 0)]
def fX7_close_15 (k2 : Nat → Nat → Int32 → Int32 → aH → Option (aH)) (v0 : Nat) (v1 : Nat) (v2 : Int32) (v3 : Int32) (s0 : Int32) (h : aH) : Option (aH) :=
  if s0 = 0 then fX7_close_18 k2 v0 v1 v2 v3 h else fX7_close_74 k2 v0 v1 v2 v3 h
theorem tX7_close_15 {d : Nat} {z : aH} {k2 : Nat → Nat → Int32 → Int32 → aH → Option (aH)} (hk2 : ∀ (v0 : Nat) (v1 : Nat) (v2 : Int32) (v3 : Int32) (h : aH), k2 v0 v1 v2 v3 h = some z → Ev (d + 1) none mX7_close (0, 0) 2 [.ref v0, .ref v1, .int v2, .int v3] [] h (QV z)) (v0 : Nat) (v1 : Nat) (v2 : Int32) (v3 : Int32) (s0 : Int32) (h : aH) (hf : fX7_close_15 k2 v0 v1 v2 v3 s0 h = some z) : Ev (d + 1) none mX7_close (0, 0) 15 [.ref v0, .ref v1, .int v2, .int v3] [.int s0] h (QV z) := 
  go_ok (X := none) (blk := wX7_close_15) (np := 18) (tt := 74) (kN := fun xs h st => app [2, 2, 1, 1] (fun v0 v1 v2 v3 => apS [] (fX7_close_18 k2 v0 v1 v2 v3 h) st) xs) (kT := fun xs h st => app [2, 2, 1, 1] (fun v0 v1 v2 v3 => apS [] (fX7_close_74 k2 v0 v1 v2 v3 h) st) xs) (kR := kRV)
    (fun xs h st q => jm [2, 2, 1, 1] _ (fun v0 v1 v2 v3 q => apS_ok [] _ (fun st => Ev (d + 1) none mX7_close (0, 0) 18 [.ref v0, .ref v1, .int v2, .int v3] st h (QV z)) st (fun q => tX7_close_18 hk2 v0 v1 v2 v3 h q) q) q)
    (fun xs h st q => jm [2, 2, 1, 1] _ (fun v0 v1 v2 v3 q => apS_ok [] _ (fun st => Ev (d + 1) none mX7_close (0, 0) 74 [.ref v0, .ref v1, .int v2, .int v3] st h (QV z)) st (fun q => tX7_close_74 hk2 v0 v1 v2 v3 h q) q) q)
    kRV_ok (Or.inr rfl) (by decide +kernel) (by decide +kernel) hf
theorem kqX7_close_12 : okC mX7_close 12 (.invokevirtual 73) 70 60 0 1 = true := by decide +kernel
def fX7_close_12 (k2 : Nat → Nat → Int32 → Int32 → aH → Option (aH)) (v0 : Nat) (v1 : Nat) (v2 : Int32) (v3 : Int32) (s0 : Int32) (s1 : Nat) (h : aH) : Option (aH) :=
  (isO h 7 s1).bind fun _ =>
  (gX7_isDead s1 s0 h).bind fun r =>
  fX7_close_15 k2 v0 v1 v2 v3 r.1 r.2
theorem tX7_close_12 {d : Nat} {z : aH} {k2 : Nat → Nat → Int32 → Int32 → aH → Option (aH)} (hk2 : ∀ (v0 : Nat) (v1 : Nat) (v2 : Int32) (v3 : Int32) (h : aH), k2 v0 v1 v2 v3 h = some z → Ev (d + 1) none mX7_close (0, 0) 2 [.ref v0, .ref v1, .int v2, .int v3] [] h (QV z)) (v0 : Nat) (v1 : Nat) (v2 : Int32) (v3 : Int32) (s0 : Int32) (s1 : Nat) (h : aH) (hf : fX7_close_12 k2 v0 v1 v2 v3 s0 s1 h = some z) : Ev (d + 1) none mX7_close (0, 0) 12 [.ref v0, .ref v1, .int v2, .int v3] [.int s0, .ref s1] h (QV z) := by
  obtain ⟨_, h1, hf⟩ := bnd hf
  obtain ⟨fs, ho⟩ := isO_ok h1
  obtain ⟨r, h2, hf⟩ := bnd hf
  refine ev_V kqX7_close_12 jX7_isDead (zX7_isDead (d := d + 0) h2) ho rfl rfl (Nat.le_of_ble_eq_true rfl) rfl (as := [.int s0]) (rest := []) rfl (Nat.le_of_ble_eq_true rfl) (fun _ _ hq => ?_)
  obtain ⟨-, rfl, rfl⟩ := hq
  exact jm [2, 2, 1, 1] (fun v0 v1 v2 v3 => fX7_close_15 k2 v0 v1 v2 v3 r.1 r.2) (fun v0 v1 v2 v3 q => tX7_close_15 hk2 v0 v1 v2 v3 r.1 r.2 q) hf
def wX7_close_10 : List En := [(.aload_n 0, 0, 0, 0), (.iload_n 3, 0, 0, 0)]
def fX7_close_10 (k2 : Nat → Nat → Int32 → Int32 → aH → Option (aH)) (v0 : Nat) (v1 : Nat) (v2 : Int32) (v3 : Int32) (h : aH) : Option (aH) :=
  fX7_close_12 k2 v0 v1 v2 v3 v3 v0 h
theorem tX7_close_10 {d : Nat} {z : aH} {k2 : Nat → Nat → Int32 → Int32 → aH → Option (aH)} (hk2 : ∀ (v0 : Nat) (v1 : Nat) (v2 : Int32) (v3 : Int32) (h : aH), k2 v0 v1 v2 v3 h = some z → Ev (d + 1) none mX7_close (0, 0) 2 [.ref v0, .ref v1, .int v2, .int v3] [] h (QV z)) (v0 : Nat) (v1 : Nat) (v2 : Int32) (v3 : Int32) (h : aH) (hf : fX7_close_10 k2 v0 v1 v2 v3 h = some z) : Ev (d + 1) none mX7_close (0, 0) 10 [.ref v0, .ref v1, .int v2, .int v3] [] h (QV z) := 
  go_ok (X := none) (blk := wX7_close_10) (np := 12) (tt := 0) (kN := fun xs h st => app [2, 2, 1, 1] (fun v0 v1 v2 v3 => apS [1, 2] (fun s0 s1 => fX7_close_12 k2 v0 v1 v2 v3 s0 s1 h) st) xs) (kT := fun _ _ _ => none) (kR := kRV)
    (fun xs h st q => jm [2, 2, 1, 1] _ (fun v0 v1 v2 v3 q => apS_ok [1, 2] _ (fun st => Ev (d + 1) none mX7_close (0, 0) 12 [.ref v0, .ref v1, .int v2, .int v3] st h (QV z)) st (fun s0 s1 q => tX7_close_12 hk2 v0 v1 v2 v3 s0 s1 h q) q) q)
    (fun _ _ _ q => nos q)
    kRV_ok (Or.inr rfl) (by decide +kernel) (by decide +kernel) hf
def wX7_close_2 : List En := [(.iload_n 3, 0, 0, 0), (.aload_n 1, 0, 0, 0), (.getfield 59, 112, 9, 3), (.if_icmp .ge 73, 80, 0, 0)]
def fX7_close_2 (k2 : Nat → Nat → Int32 → Int32 → aH → Option (aH)) (v0 : Nat) (v1 : Nat) (v2 : Int32) (v3 : Int32) (h : aH) : Option (aH) :=
  (gFI h 9 v1 3).bind fun t1 =>
  if v3 < t1 then fX7_close_10 k2 v0 v1 v2 v3 h else fX7_close_80 v0 h
theorem tX7_close_2 {d : Nat} {z : aH} {k2 : Nat → Nat → Int32 → Int32 → aH → Option (aH)} (hk2 : ∀ (v0 : Nat) (v1 : Nat) (v2 : Int32) (v3 : Int32) (h : aH), k2 v0 v1 v2 v3 h = some z → Ev (d + 1) none mX7_close (0, 0) 2 [.ref v0, .ref v1, .int v2, .int v3] [] h (QV z)) (v0 : Nat) (v1 : Nat) (v2 : Int32) (v3 : Int32) (h : aH) (hf : fX7_close_2 k2 v0 v1 v2 v3 h = some z) : Ev (d + 1) none mX7_close (0, 0) 2 [.ref v0, .ref v1, .int v2, .int v3] [] h (QV z) := 
  go_ok (X := none) (blk := wX7_close_2) (np := 10) (tt := 80) (kN := fun xs h st => app [2, 2, 1, 1] (fun v0 v1 v2 v3 => apS [] (fX7_close_10 k2 v0 v1 v2 v3 h) st) xs) (kT := fun xs h st => app [2, 0, 0, 0] (fun v0 => apS [] (fX7_close_80 v0 h) st) xs) (kR := kRV)
    (fun xs h st q => jm [2, 2, 1, 1] _ (fun v0 v1 v2 v3 q => apS_ok [] _ (fun st => Ev (d + 1) none mX7_close (0, 0) 10 [.ref v0, .ref v1, .int v2, .int v3] st h (QV z)) st (fun q => tX7_close_10 hk2 v0 v1 v2 v3 h q) q) q)
    (fun xs h st q => jm [2, 0, 0, 0] _ (fun v0 q => apS_ok [] _ (fun st => Ev (d + 1) none mX7_close (0, 0) 80 [.ref v0, .null, .null, .null] st h (QV z)) st (fun q => tX7_close_80 v0 h q) q) q)
    kRV_ok (Or.inr rfl) (by decide +kernel) (by decide +kernel) hf
def lX7_close_2 : Nat → Nat → Nat → Int32 → Int32 → aH → Option (aH)
  | 0, _, _, _, _, _ => none
  | n + 1, v0, v1, v2, v3, h => fX7_close_2 (lX7_close_2 n) v0 v1 v2 v3 h
theorem uX7_close_2 {d : Nat} {z : aH} : ∀ (n : Nat) (v0 : Nat) (v1 : Nat) (v2 : Int32) (v3 : Int32) (h : aH), lX7_close_2 n v0 v1 v2 v3 h = some z → Ev (d + 1) none mX7_close (0, 0) 2 [.ref v0, .ref v1, .int v2, .int v3] [] h (QV z) := by
  intro n
  induction n with
  | zero => intro _ _ _ _ _ q; exact nos (show (none : Option (aH)) = some z from q)
  | succ n ih => intro v0 v1 v2 v3 h q; exact tX7_close_2 ih v0 v1 v2 v3 h q
def wX7_close_0 : List En := [(.iconst 0, 0, 0, 0), (.istore_n 3, 0, 0, 0)]
def fX7_close_0 (v0 : Nat) (v1 : Nat) (v2 : Int32) (h : aH) : Option (aH) :=
  lX7_close_2 FU v0 v1 v2 (kI 0) h
theorem tX7_close_0 {d : Nat} {z : aH} (v0 : Nat) (v1 : Nat) (v2 : Int32) (h : aH) (hf : fX7_close_0 v0 v1 v2 h = some z) : Ev (d + 1) none mX7_close (0, 0) 0 [.ref v0, .ref v1, .int v2, .null] [] h (QV z) := 
  go_ok (X := none) (blk := wX7_close_0) (np := 2) (tt := 0) (kN := fun xs h st => app [2, 2, 1, 1] (fun v0 v1 v2 v3 => apS [] (lX7_close_2 FU v0 v1 v2 v3 h) st) xs) (kT := fun _ _ _ => none) (kR := kRV)
    (fun xs h st q => jm [2, 2, 1, 1] _ (fun v0 v1 v2 v3 q => apS_ok [] _ (fun st => Ev (d + 1) none mX7_close (0, 0) 2 [.ref v0, .ref v1, .int v2, .int v3] st h (QV z)) st (fun q => uX7_close_2 FU v0 v1 v2 v3 h q) q) q)
    (fun _ _ _ q => nos q)
    kRV_ok (Or.inr rfl) (by decide +kernel) (by decide +kernel) hf
def gX7_close (v0 : Nat) (v1 : Nat) (v2 : Int32) (h : aH) : Option (aH) := fX7_close_0 v0 v1 v2 h
theorem zX7_close {d : Nat} {z : aH} {v0 : Nat} {v1 : Nat} {v2 : Int32} {h : aH} (q : gX7_close v0 v1 v2 h = some z) : CT (d + 1) mX7_close (0, 0) [.ref v0, .ref v1, .int v2] h (QV z) :=
  ct_ev (by decide +kernel) (Nat.le_of_ble_eq_true rfl) QV_r (jm [2, 2, 1, 0] (fun v0 v1 v2 => fX7_close_0 v0 v1 v2 h) (fun v0 v1 v2 q => tX7_close_0 v0 v1 v2 h q) q)
def wX7_fastingNext_14 : List En := [(.ior, 0, 0, 0), (.ireturn, 0, 0, 0)]
def fX7_fastingNext_14 (s0 : Int32) (s1 : Int32) (h : aH) : Option (Int32 × aH) :=
  some ((s1 ||| s0), h)
theorem tX7_fastingNext_14 {d : Nat} {z : Int32 × aH} (s0 : Int32) (s1 : Int32) (h : aH) (hf : fX7_fastingNext_14 s0 s1 h = some z) : Ev (d + 1) none mX7_fastingNext (0, 0) 14 [.null, .null] [.int s0, .int s1] h (QI z) := 
  go_ok (X := none) (blk := wX7_fastingNext_14) (np := 16) (tt := 0) (kN := fun _ _ _ => none) (kT := fun _ _ _ => none) (kR := kRI)
    (fun _ _ _ q => nos q)
    (fun _ _ _ q => nos q)
    kRI_ok (Or.inr rfl) (by decide +kernel) (by decide +kernel) hf
theorem kqX7_fastingNext_11 : okC mX7_fastingNext 11 (.invokevirtual 62) 51 74 0 1 = true := by decide +kernel
def fX7_fastingNext_11 (s0 : Int32) (s1 : Nat) (s2 : Int32) (h : aH) : Option (Int32 × aH) :=
  (isO h 9 s1).bind fun _ =>
  (gX9_fastingOn s1 s0 h).bind fun r =>
  fX7_fastingNext_14 r.1 s2 r.2
theorem tX7_fastingNext_11 {d : Nat} {z : Int32 × aH} (s0 : Int32) (s1 : Nat) (s2 : Int32) (h : aH) (hf : fX7_fastingNext_11 s0 s1 s2 h = some z) : Ev (d + 1) none mX7_fastingNext (0, 0) 11 [.null, .null] [.int s0, .ref s1, .int s2] h (QI z) := by
  obtain ⟨_, h1, hf⟩ := bnd hf
  obtain ⟨fs, ho⟩ := isO_ok h1
  obtain ⟨r, h2, hf⟩ := bnd hf
  refine ev_V kqX7_fastingNext_11 jX9_fastingOn (zX9_fastingOn (d := d + 0) h2) ho rfl rfl (Nat.le_of_ble_eq_true rfl) rfl (as := [.int s0]) (rest := [.int s2]) rfl (Nat.le_of_ble_eq_true rfl) (fun _ _ hq => ?_)
  obtain ⟨rfl, rfl⟩ := hq
  exact jm [0, 0] (fX7_fastingNext_14 r.1 s2 r.2) (fun q => tX7_fastingNext_14 r.1 s2 r.2 q) hf
def wX7_fastingNext_0 : List En := [(.aload_n 0, 0, 0, 0), (.getfield 50, 29, 7, 4), (.aload_n 1, 0, 0, 0), (.aload_n 0, 0, 0, 0), (.getfield 56, 34, 7, 6), (.iconst 1, 0, 0, 0), (.iadd, 0, 0, 0)]
def fX7_fastingNext_0 (v0 : Nat) (v1 : Nat) (h : aH) : Option (Int32 × aH) :=
  (gFI h 7 v0 4).bind fun t1 =>
  (gFI h 7 v0 6).bind fun t2 =>
  fX7_fastingNext_11 (t2 + (kI 1)) v1 t1 h
theorem tX7_fastingNext_0 {d : Nat} {z : Int32 × aH} (v0 : Nat) (v1 : Nat) (h : aH) (hf : fX7_fastingNext_0 v0 v1 h = some z) : Ev (d + 1) none mX7_fastingNext (0, 0) 0 [.ref v0, .ref v1] [] h (QI z) := 
  go_ok (X := none) (blk := wX7_fastingNext_0) (np := 11) (tt := 0) (kN := fun xs h st => app [0, 0] (apS [1, 2, 1] (fun s0 s1 s2 => fX7_fastingNext_11 s0 s1 s2 h) st) xs) (kT := fun _ _ _ => none) (kR := kRI)
    (fun xs h st q => jm [0, 0] _ (fun q => apS_ok [1, 2, 1] _ (fun st => Ev (d + 1) none mX7_fastingNext (0, 0) 11 [.null, .null] st h (QI z)) st (fun s0 s1 s2 q => tX7_fastingNext_11 s0 s1 s2 h q) q) q)
    (fun _ _ _ q => nos q)
    kRI_ok (Or.inr rfl) (by decide +kernel) (by decide +kernel) hf
def gX7_fastingNext (v0 : Nat) (v1 : Nat) (h : aH) : Option (Int32 × aH) := fX7_fastingNext_0 v0 v1 h
theorem zX7_fastingNext {d : Nat} {z : Int32 × aH} {v0 : Nat} {v1 : Nat} {h : aH} (q : gX7_fastingNext v0 v1 h = some z) : CT (d + 1) mX7_fastingNext (0, 0) [.ref v0, .ref v1] h (QI z) :=
  ct_ev (by decide +kernel) (Nat.le_of_ble_eq_true rfl) QI_r (jm [2, 2] (fun v0 v1 => fX7_fastingNext_0 v0 v1 h) (fun v0 v1 q => tX7_fastingNext_0 v0 v1 h q) q)
def wX7_grow_39 : List En := [(.return_, 0, 0, 0)]
def fX7_grow_39 (h : aH) : Option (aH) :=
  some h
theorem tX7_grow_39 {d : Nat} {z : aH} (h : aH) (hf : fX7_grow_39 h = some z) : Ev (d + 1) none mX7_grow (0, 0) 39 [.null, .null, .null] [] h (QV z) := 
  go_ok (X := none) (blk := wX7_grow_39) (np := 40) (tt := 0) (kN := fun _ _ _ => none) (kT := fun _ _ _ => none) (kR := kRV)
    (fun _ _ _ q => nos q)
    (fun _ _ _ q => nos q)
    kRV_ok (Or.inr rfl) (by decide +kernel) (by decide +kernel) hf
def wX7_grow_33 : List En := [(.iinc 2 1, 0, 0, 0), (.goto (-34), 2, 0, 0)]
def fX7_grow_33 (k2 : Nat → Nat → Int32 → aH → Option (aH)) (v0 : Nat) (v1 : Nat) (v2 : Int32) (h : aH) : Option (aH) :=
  k2 v0 v1 (v2 + kI 1) h
theorem tX7_grow_33 {d : Nat} {z : aH} {k2 : Nat → Nat → Int32 → aH → Option (aH)} (hk2 : ∀ (v0 : Nat) (v1 : Nat) (v2 : Int32) (h : aH), k2 v0 v1 v2 h = some z → Ev (d + 1) none mX7_grow (0, 0) 2 [.ref v0, .ref v1, .int v2] [] h (QV z)) (v0 : Nat) (v1 : Nat) (v2 : Int32) (h : aH) (hf : fX7_grow_33 k2 v0 v1 v2 h = some z) : Ev (d + 1) none mX7_grow (0, 0) 33 [.ref v0, .ref v1, .int v2] [] h (QV z) := 
  go_ok (X := none) (blk := wX7_grow_33) (np := 39) (tt := 2) (kN := fun _ _ _ => none) (kT := fun xs h st => app [2, 2, 1] (fun v0 v1 v2 => apS [] (k2 v0 v1 v2 h) st) xs) (kR := kRV)
    (fun _ _ _ q => nos q)
    (fun xs h st q => jm [2, 2, 1] _ (fun v0 v1 v2 q => apS_ok [] _ (fun st => Ev (d + 1) none mX7_grow (0, 0) 2 [.ref v0, .ref v1, .int v2] st h (QV z)) st (fun q => hk2 v0 v1 v2 h q) q) q)
    kRV_ok (Or.inr rfl) (by decide +kernel) (by decide +kernel) hf
def wX7_grow_18 : List En := [(.aload_n 0, 0, 0, 0), (.getfield 9, 18, 7, 0), (.iload_n 2, 0, 0, 0), (.dup2, 0, 0, 0), (.iaload, 0, 0, 0), (.aload_n 1, 0, 0, 0), (.getfield 77, 134, 9, 9), (.iload_n 2, 0, 0, 0), (.iaload, 0, 0, 0), (.iadd, 0, 0, 0), (.iastore, 0, 0, 0)]
def fX7_grow_18 (k2 : Nat → Nat → Int32 → aH → Option (aH)) (v0 : Nat) (v1 : Nat) (v2 : Int32) (h : aH) : Option (aH) :=
  (gFR h 7 v0 0).bind fun t1 =>
  (aRI (h[t1]?) v2).bind fun t2 =>
  (gFR h 9 v1 9).bind fun t3 =>
  (aRI (h[t3]?) v2).bind fun t4 =>
  (aWI h t1 v2 (t2 + t4)).bind fun h5 =>
  fX7_grow_33 k2 v0 v1 v2 h5
theorem tX7_grow_18 {d : Nat} {z : aH} {k2 : Nat → Nat → Int32 → aH → Option (aH)} (hk2 : ∀ (v0 : Nat) (v1 : Nat) (v2 : Int32) (h : aH), k2 v0 v1 v2 h = some z → Ev (d + 1) none mX7_grow (0, 0) 2 [.ref v0, .ref v1, .int v2] [] h (QV z)) (v0 : Nat) (v1 : Nat) (v2 : Int32) (h : aH) (hf : fX7_grow_18 k2 v0 v1 v2 h = some z) : Ev (d + 1) none mX7_grow (0, 0) 18 [.ref v0, .ref v1, .int v2] [] h (QV z) := 
  go_ok (X := none) (blk := wX7_grow_18) (np := 33) (tt := 0) (kN := fun xs h st => app [2, 2, 1] (fun v0 v1 v2 => apS [] (fX7_grow_33 k2 v0 v1 v2 h) st) xs) (kT := fun _ _ _ => none) (kR := kRV)
    (fun xs h st q => jm [2, 2, 1] _ (fun v0 v1 v2 q => apS_ok [] _ (fun st => Ev (d + 1) none mX7_grow (0, 0) 33 [.ref v0, .ref v1, .int v2] st h (QV z)) st (fun q => tX7_grow_33 hk2 v0 v1 v2 h q) q) q)
    (fun _ _ _ q => nos q)
    kRV_ok (Or.inr rfl) (by decide +kernel) (by decide +kernel) hf
def wX7_grow_15 : List En := [(.ifCond .ne 18, 33, 0, 0)]
def fX7_grow_15 (k2 : Nat → Nat → Int32 → aH → Option (aH)) (v0 : Nat) (v1 : Nat) (v2 : Int32) (s0 : Int32) (h : aH) : Option (aH) :=
  if s0 = 0 then fX7_grow_18 k2 v0 v1 v2 h else fX7_grow_33 k2 v0 v1 v2 h
theorem tX7_grow_15 {d : Nat} {z : aH} {k2 : Nat → Nat → Int32 → aH → Option (aH)} (hk2 : ∀ (v0 : Nat) (v1 : Nat) (v2 : Int32) (h : aH), k2 v0 v1 v2 h = some z → Ev (d + 1) none mX7_grow (0, 0) 2 [.ref v0, .ref v1, .int v2] [] h (QV z)) (v0 : Nat) (v1 : Nat) (v2 : Int32) (s0 : Int32) (h : aH) (hf : fX7_grow_15 k2 v0 v1 v2 s0 h = some z) : Ev (d + 1) none mX7_grow (0, 0) 15 [.ref v0, .ref v1, .int v2] [.int s0] h (QV z) := 
  go_ok (X := none) (blk := wX7_grow_15) (np := 18) (tt := 33) (kN := fun xs h st => app [2, 2, 1] (fun v0 v1 v2 => apS [] (fX7_grow_18 k2 v0 v1 v2 h) st) xs) (kT := fun xs h st => app [2, 2, 1] (fun v0 v1 v2 => apS [] (fX7_grow_33 k2 v0 v1 v2 h) st) xs) (kR := kRV)
    (fun xs h st q => jm [2, 2, 1] _ (fun v0 v1 v2 q => apS_ok [] _ (fun st => Ev (d + 1) none mX7_grow (0, 0) 18 [.ref v0, .ref v1, .int v2] st h (QV z)) st (fun q => tX7_grow_18 hk2 v0 v1 v2 h q) q) q)
    (fun xs h st q => jm [2, 2, 1] _ (fun v0 v1 v2 q => apS_ok [] _ (fun st => Ev (d + 1) none mX7_grow (0, 0) 33 [.ref v0, .ref v1, .int v2] st h (QV z)) st (fun q => tX7_grow_33 hk2 v0 v1 v2 h q) q) q)
    kRV_ok (Or.inr rfl) (by decide +kernel) (by decide +kernel) hf
theorem kqX7_grow_12 : okC mX7_grow 12 (.invokevirtual 73) 70 60 0 1 = true := by decide +kernel
def fX7_grow_12 (k2 : Nat → Nat → Int32 → aH → Option (aH)) (v0 : Nat) (v1 : Nat) (v2 : Int32) (s0 : Int32) (s1 : Nat) (h : aH) : Option (aH) :=
  (isO h 7 s1).bind fun _ =>
  (gX7_isDead s1 s0 h).bind fun r =>
  fX7_grow_15 k2 v0 v1 v2 r.1 r.2
theorem tX7_grow_12 {d : Nat} {z : aH} {k2 : Nat → Nat → Int32 → aH → Option (aH)} (hk2 : ∀ (v0 : Nat) (v1 : Nat) (v2 : Int32) (h : aH), k2 v0 v1 v2 h = some z → Ev (d + 1) none mX7_grow (0, 0) 2 [.ref v0, .ref v1, .int v2] [] h (QV z)) (v0 : Nat) (v1 : Nat) (v2 : Int32) (s0 : Int32) (s1 : Nat) (h : aH) (hf : fX7_grow_12 k2 v0 v1 v2 s0 s1 h = some z) : Ev (d + 1) none mX7_grow (0, 0) 12 [.ref v0, .ref v1, .int v2] [.int s0, .ref s1] h (QV z) := by
  obtain ⟨_, h1, hf⟩ := bnd hf
  obtain ⟨fs, ho⟩ := isO_ok h1
  obtain ⟨r, h2, hf⟩ := bnd hf
  refine ev_V kqX7_grow_12 jX7_isDead (zX7_isDead (d := d + 0) h2) ho rfl rfl (Nat.le_of_ble_eq_true rfl) rfl (as := [.int s0]) (rest := []) rfl (Nat.le_of_ble_eq_true rfl) (fun _ _ hq => ?_)
  obtain ⟨-, rfl, rfl⟩ := hq
  exact jm [2, 2, 1] (fun v0 v1 v2 => fX7_grow_15 k2 v0 v1 v2 r.1 r.2) (fun v0 v1 v2 q => tX7_grow_15 hk2 v0 v1 v2 r.1 r.2 q) hf
def wX7_grow_10 : List En := [(.aload_n 0, 0, 0, 0), (.iload_n 2, 0, 0, 0)]
def fX7_grow_10 (k2 : Nat → Nat → Int32 → aH → Option (aH)) (v0 : Nat) (v1 : Nat) (v2 : Int32) (h : aH) : Option (aH) :=
  fX7_grow_12 k2 v0 v1 v2 v2 v0 h
theorem tX7_grow_10 {d : Nat} {z : aH} {k2 : Nat → Nat → Int32 → aH → Option (aH)} (hk2 : ∀ (v0 : Nat) (v1 : Nat) (v2 : Int32) (h : aH), k2 v0 v1 v2 h = some z → Ev (d + 1) none mX7_grow (0, 0) 2 [.ref v0, .ref v1, .int v2] [] h (QV z)) (v0 : Nat) (v1 : Nat) (v2 : Int32) (h : aH) (hf : fX7_grow_10 k2 v0 v1 v2 h = some z) : Ev (d + 1) none mX7_grow (0, 0) 10 [.ref v0, .ref v1, .int v2] [] h (QV z) := 
  go_ok (X := none) (blk := wX7_grow_10) (np := 12) (tt := 0) (kN := fun xs h st => app [2, 2, 1] (fun v0 v1 v2 => apS [1, 2] (fun s0 s1 => fX7_grow_12 k2 v0 v1 v2 s0 s1 h) st) xs) (kT := fun _ _ _ => none) (kR := kRV)
    (fun xs h st q => jm [2, 2, 1] _ (fun v0 v1 v2 q => apS_ok [1, 2] _ (fun st => Ev (d + 1) none mX7_grow (0, 0) 12 [.ref v0, .ref v1, .int v2] st h (QV z)) st (fun s0 s1 q => tX7_grow_12 hk2 v0 v1 v2 s0 s1 h q) q) q)
    (fun _ _ _ q => nos q)
    kRV_ok (Or.inr rfl) (by decide +kernel) (by decide +kernel) hf
def wX7_grow_2 : List En := [(.iload_n 2, 0, 0, 0), (.aload_n 1, 0, 0, 0), (.getfield 59, 112, 9, 3), (.if_icmp .ge 32, 39, 0, 0)]
def fX7_grow_2 (k2 : Nat → Nat → Int32 → aH → Option (aH)) (v0 : Nat) (v1 : Nat) (v2 : Int32) (h : aH) : Option (aH) :=
  (gFI h 9 v1 3).bind fun t1 =>
  if v2 < t1 then fX7_grow_10 k2 v0 v1 v2 h else fX7_grow_39 h
theorem tX7_grow_2 {d : Nat} {z : aH} {k2 : Nat → Nat → Int32 → aH → Option (aH)} (hk2 : ∀ (v0 : Nat) (v1 : Nat) (v2 : Int32) (h : aH), k2 v0 v1 v2 h = some z → Ev (d + 1) none mX7_grow (0, 0) 2 [.ref v0, .ref v1, .int v2] [] h (QV z)) (v0 : Nat) (v1 : Nat) (v2 : Int32) (h : aH) (hf : fX7_grow_2 k2 v0 v1 v2 h = some z) : Ev (d + 1) none mX7_grow (0, 0) 2 [.ref v0, .ref v1, .int v2] [] h (QV z) := 
  go_ok (X := none) (blk := wX7_grow_2) (np := 10) (tt := 39) (kN := fun xs h st => app [2, 2, 1] (fun v0 v1 v2 => apS [] (fX7_grow_10 k2 v0 v1 v2 h) st) xs) (kT := fun xs h st => app [0, 0, 0] (apS [] (fX7_grow_39 h) st) xs) (kR := kRV)
    (fun xs h st q => jm [2, 2, 1] _ (fun v0 v1 v2 q => apS_ok [] _ (fun st => Ev (d + 1) none mX7_grow (0, 0) 10 [.ref v0, .ref v1, .int v2] st h (QV z)) st (fun q => tX7_grow_10 hk2 v0 v1 v2 h q) q) q)
    (fun xs h st q => jm [0, 0, 0] _ (fun q => apS_ok [] _ (fun st => Ev (d + 1) none mX7_grow (0, 0) 39 [.null, .null, .null] st h (QV z)) st (fun q => tX7_grow_39 h q) q) q)
    kRV_ok (Or.inr rfl) (by decide +kernel) (by decide +kernel) hf
def lX7_grow_2 : Nat → Nat → Nat → Int32 → aH → Option (aH)
  | 0, _, _, _, _ => none
  | n + 1, v0, v1, v2, h => fX7_grow_2 (lX7_grow_2 n) v0 v1 v2 h
theorem uX7_grow_2 {d : Nat} {z : aH} : ∀ (n : Nat) (v0 : Nat) (v1 : Nat) (v2 : Int32) (h : aH), lX7_grow_2 n v0 v1 v2 h = some z → Ev (d + 1) none mX7_grow (0, 0) 2 [.ref v0, .ref v1, .int v2] [] h (QV z) := by
  intro n
  induction n with
  | zero => intro _ _ _ _ q; exact nos (show (none : Option (aH)) = some z from q)
  | succ n ih => intro v0 v1 v2 h q; exact tX7_grow_2 ih v0 v1 v2 h q
def wX7_grow_0 : List En := [(.iconst 0, 0, 0, 0), (.istore_n 2, 0, 0, 0)]
def fX7_grow_0 (v0 : Nat) (v1 : Nat) (h : aH) : Option (aH) :=
  lX7_grow_2 FU v0 v1 (kI 0) h
theorem tX7_grow_0 {d : Nat} {z : aH} (v0 : Nat) (v1 : Nat) (h : aH) (hf : fX7_grow_0 v0 v1 h = some z) : Ev (d + 1) none mX7_grow (0, 0) 0 [.ref v0, .ref v1, .null] [] h (QV z) := 
  go_ok (X := none) (blk := wX7_grow_0) (np := 2) (tt := 0) (kN := fun xs h st => app [2, 2, 1] (fun v0 v1 v2 => apS [] (lX7_grow_2 FU v0 v1 v2 h) st) xs) (kT := fun _ _ _ => none) (kR := kRV)
    (fun xs h st q => jm [2, 2, 1] _ (fun v0 v1 v2 q => apS_ok [] _ (fun st => Ev (d + 1) none mX7_grow (0, 0) 2 [.ref v0, .ref v1, .int v2] st h (QV z)) st (fun q => uX7_grow_2 FU v0 v1 v2 h q) q) q)
    (fun _ _ _ q => nos q)
    kRV_ok (Or.inr rfl) (by decide +kernel) (by decide +kernel) hf
def gX7_grow (v0 : Nat) (v1 : Nat) (h : aH) : Option (aH) := fX7_grow_0 v0 v1 h
theorem zX7_grow {d : Nat} {z : aH} {v0 : Nat} {v1 : Nat} {h : aH} (q : gX7_grow v0 v1 h = some z) : CT (d + 1) mX7_grow (0, 0) [.ref v0, .ref v1] h (QV z) :=
  ct_ev (by decide +kernel) (Nat.le_of_ble_eq_true rfl) QV_r (jm [2, 2, 0] (fun v0 v1 => fX7_grow_0 v0 v1 h) (fun v0 v1 q => tX7_grow_0 v0 v1 h q) q)
def wX7_living_0 : List En := [(.iconst 1, 0, 0, 0), (.aload_n 1, 0, 0, 0), (.getfield 59, 112, 9, 3), (.ishl, 0, 0, 0), (.iconst 1, 0, 0, 0), (.isub, 0, 0, 0), (.aload_n 0, 0, 0, 0), (.getfield 47, 26, 7, 3), (.iconst (-1), 0, 0, 0), (.ixor, 0, 0, 0), (.iand, 0, 0, 0), (.ireturn, 0, 0, 0)]
def fX7_living_0 (v0 : Nat) (v1 : Nat) (h : aH) : Option (Int32 × aH) :=
  (gFI h 9 v1 3).bind fun t1 =>
  (gFI h 7 v0 3).bind fun t2 =>
  some (((((kI 1) <<< (t1 &&& 31)) - (kI 1)) &&& (t2 ^^^ (kI (-1)))), h)
theorem tX7_living_0 {d : Nat} {z : Int32 × aH} (v0 : Nat) (v1 : Nat) (h : aH) (hf : fX7_living_0 v0 v1 h = some z) : Ev (d + 0) none mX7_living (0, 0) 0 [.ref v0, .ref v1] [] h (QI z) := 
  go_ok (X := none) (blk := wX7_living_0) (np := 16) (tt := 0) (kN := fun _ _ _ => none) (kT := fun _ _ _ => none) (kR := kRI)
    (fun _ _ _ q => nos q)
    (fun _ _ _ q => nos q)
    kRI_ok (Or.inr rfl) (by decide +kernel) (by decide +kernel) hf
def gX7_living (v0 : Nat) (v1 : Nat) (h : aH) : Option (Int32 × aH) := fX7_living_0 v0 v1 h
theorem zX7_living {d : Nat} {z : Int32 × aH} {v0 : Nat} {v1 : Nat} {h : aH} (q : gX7_living v0 v1 h = some z) : CT (d + 0) mX7_living (0, 0) [.ref v0, .ref v1] h (QI z) :=
  ct_ev (by decide +kernel) (Nat.le_of_ble_eq_true rfl) QI_r (jm [2, 2] (fun v0 v1 => fX7_living_0 v0 v1 h) (fun v0 v1 q => tX7_living_0 v0 v1 h q) q)
def wX6_hold_102 : List En := [(.return_, 0, 0, 0)]
def fX6_hold_102 (h : aH) : Option (aH) :=
  some h
theorem tX6_hold_102 {d : Nat} {z : aH} (h : aH) (hf : fX6_hold_102 h = some z) : Ev (d + 2) none mX6_hold (0, 0) 102 [.null, .null, .null, .null, .null, .null, .null, .null] [] h (QV z) := 
  go_ok (X := none) (blk := wX6_hold_102) (np := 103) (tt := 0) (kN := fun _ _ _ => none) (kT := fun _ _ _ => none) (kR := kRV)
    (fun _ _ _ q => nos q)
    (fun _ _ _ q => nos q)
    kRV_ok (Or.inr rfl) (by decide +kernel) (by decide +kernel) hf
theorem kqX6_hold_99 : okC mX6_hold 99 (.invokevirtual 69) 90 84 0 2 = true := by decide +kernel
def fX6_hold_99 (s0 : Int32) (s1 : Nat) (s2 : Nat) (h : aH) : Option (aH) :=
  (isO h 7 s2).bind fun _ =>
  (gX7_close s2 s1 s0 h).bind fun r =>
  fX6_hold_102 r
theorem tX6_hold_99 {d : Nat} {z : aH} (s0 : Int32) (s1 : Nat) (s2 : Nat) (h : aH) (hf : fX6_hold_99 s0 s1 s2 h = some z) : Ev (d + 2) none mX6_hold (0, 0) 99 [.null, .null, .null, .null, .null, .null, .null, .null] [.int s0, .ref s1, .ref s2] h (QV z) := by
  obtain ⟨_, h1, hf⟩ := bnd hf
  obtain ⟨fs, ho⟩ := isO_ok h1
  obtain ⟨r, h2, hf⟩ := bnd hf
  refine ev_V kqX6_hold_99 jX7_close (zX7_close (d := d + 0) h2) ho rfl rfl (Nat.le_of_ble_eq_true rfl) rfl (as := [.ref s1, .int s0]) (rest := []) rfl (Nat.le_of_ble_eq_true rfl) (fun _ _ hq => ?_)
  obtain ⟨rfl, hh⟩ := hq
  rw [hh]
  exact jm [0, 0, 0, 0, 0, 0, 0, 0] (fX6_hold_102 r) (fun q => tX6_hold_102 r q) hf
def wX6_hold_95 : List En := [(.aload_n 2, 0, 0, 0), (.aload_n 1, 0, 0, 0), (.iload 6, 0, 0, 0)]
def fX6_hold_95 (v1 : Nat) (v2 : Nat) (v6 : Int32) (h : aH) : Option (aH) :=
  fX6_hold_99 v6 v1 v2 h
theorem tX6_hold_95 {d : Nat} {z : aH} (v1 : Nat) (v2 : Nat) (v6 : Int32) (h : aH) (hf : fX6_hold_95 v1 v2 v6 h = some z) : Ev (d + 2) none mX6_hold (0, 0) 95 [.null, .ref v1, .ref v2, .null, .null, .null, .int v6, .null] [] h (QV z) := 
  go_ok (X := none) (blk := wX6_hold_95) (np := 99) (tt := 0) (kN := fun xs h st => app [0, 0, 0, 0, 0, 0, 0, 0] (apS [1, 2, 2] (fun s0 s1 s2 => fX6_hold_99 s0 s1 s2 h) st) xs) (kT := fun _ _ _ => none) (kR := kRV)
    (fun xs h st q => jm [0, 0, 0, 0, 0, 0, 0, 0] _ (fun q => apS_ok [1, 2, 2] _ (fun st => Ev (d + 2) none mX6_hold (0, 0) 99 [.null, .null, .null, .null, .null, .null, .null, .null] st h (QV z)) st (fun s0 s1 s2 q => tX6_hold_99 s0 s1 s2 h q) q) q)
    (fun _ _ _ q => nos q)
    kRV_ok (Or.inr rfl) (by decide +kernel) (by decide +kernel) hf
theorem kqX6_hold_92 : okC mX6_hold 92 (.invokevirtual 65) 88 81 0 2 = true := by decide +kernel
def fX6_hold_92 (v1 : Nat) (v2 : Nat) (v6 : Int32) (s0 : Int32) (s1 : Nat) (s2 : Nat) (h : aH) : Option (aH) :=
  (isO h 6 s2).bind fun _ =>
  (gX6_serve s2 s1 s0 h).bind fun r =>
  fX6_hold_95 v1 v2 v6 r
theorem tX6_hold_92 {d : Nat} {z : aH} (v1 : Nat) (v2 : Nat) (v6 : Int32) (s0 : Int32) (s1 : Nat) (s2 : Nat) (h : aH) (hf : fX6_hold_92 v1 v2 v6 s0 s1 s2 h = some z) : Ev (d + 2) none mX6_hold (0, 0) 92 [.null, .ref v1, .ref v2, .null, .null, .null, .int v6, .null] [.int s0, .ref s1, .ref s2] h (QV z) := by
  obtain ⟨_, h1, hf⟩ := bnd hf
  obtain ⟨fs, ho⟩ := isO_ok h1
  obtain ⟨r, h2, hf⟩ := bnd hf
  refine ev_V kqX6_hold_92 jX6_serve (zX6_serve (d := d + 0) h2) ho rfl rfl (Nat.le_of_ble_eq_true rfl) rfl (as := [.ref s1, .int s0]) (rest := []) rfl (Nat.le_of_ble_eq_true rfl) (fun _ _ hq => ?_)
  obtain ⟨rfl, hh⟩ := hq
  rw [hh]
  exact jm [0, 2, 2, 0, 0, 0, 1, 0] (fun v1 v2 v6 => fX6_hold_95 v1 v2 v6 r) (fun v1 v2 v6 q => tX6_hold_95 v1 v2 v6 r q) hf
def wX6_hold_85 : List En := [(.putfield 56, 31, 7, 5), (.aload_n 0, 0, 0, 0), (.aload_n 2, 0, 0, 0), (.iload 7, 0, 0, 0)]
def fX6_hold_85 (v0 : Nat) (v1 : Nat) (v2 : Nat) (v6 : Int32) (v7 : Int32) (s0 : Int32) (s1 : Nat) (h : aH) : Option (aH) :=
  (pWV h 7 s1 5 (.int s0)).bind fun h1 =>
  fX6_hold_92 v1 v2 v6 v7 v2 v0 h1
theorem tX6_hold_85 {d : Nat} {z : aH} (v0 : Nat) (v1 : Nat) (v2 : Nat) (v6 : Int32) (v7 : Int32) (s0 : Int32) (s1 : Nat) (h : aH) (hf : fX6_hold_85 v0 v1 v2 v6 v7 s0 s1 h = some z) : Ev (d + 2) none mX6_hold (0, 0) 85 [.ref v0, .ref v1, .ref v2, .null, .null, .null, .int v6, .int v7] [.int s0, .ref s1] h (QV z) := 
  go_ok (X := none) (blk := wX6_hold_85) (np := 92) (tt := 0) (kN := fun xs h st => app [0, 2, 2, 0, 0, 0, 1, 0] (fun v1 v2 v6 => apS [1, 2, 2] (fun s0 s1 s2 => fX6_hold_92 v1 v2 v6 s0 s1 s2 h) st) xs) (kT := fun _ _ _ => none) (kR := kRV)
    (fun xs h st q => jm [0, 2, 2, 0, 0, 0, 1, 0] _ (fun v1 v2 v6 q => apS_ok [1, 2, 2] _ (fun st => Ev (d + 2) none mX6_hold (0, 0) 92 [.null, .ref v1, .ref v2, .null, .null, .null, .int v6, .null] st h (QV z)) st (fun s0 s1 s2 q => tX6_hold_92 v1 v2 v6 s0 s1 s2 h q) q) q)
    (fun _ _ _ q => nos q)
    kRV_ok (Or.inr rfl) (by decide +kernel) (by decide +kernel) hf
theorem kqX6_hold_82 : ckP mX6_hold 82 59 2 13 = true := by decide +kernel
def fX6_hold_82 (v0 : Nat) (v1 : Nat) (v2 : Nat) (v6 : Int32) (v7 : Int32) (s0 : Int32) (s1 : Int32) (s2 : Nat) (h : aH) : Option (aH) :=
  fX6_hold_85 v0 v1 v2 v6 v7 (if s0 < s1 then s0 else s1) s2 h
theorem tX6_hold_82 {d : Nat} {z : aH} (v0 : Nat) (v1 : Nat) (v2 : Nat) (v6 : Int32) (v7 : Int32) (s0 : Int32) (s1 : Int32) (s2 : Nat) (h : aH) (hf : fX6_hold_82 v0 v1 v2 v6 v7 s0 s1 s2 h = some z) : Ev (d + 2) none mX6_hold (0, 0) 82 [.ref v0, .ref v1, .ref v2, .null, .null, .null, .int v6, .int v7] [.int s0, .int s1, .ref s2] h (QV z) := 
  ev_mn kqX6_hold_82 rfl (Nat.le_of_ble_eq_true rfl) (jm [2, 2, 2, 0, 0, 0, 1, 1] (fun v0 v1 v2 v6 v7 => fX6_hold_85 v0 v1 v2 v6 v7 (if s0 < s1 then s0 else s1) s2 h) (fun v0 v1 v2 v6 v7 q => tX6_hold_85 v0 v1 v2 v6 v7 (if s0 < s1 then s0 else s1) s2 h q) hf)
def wX6_hold_70 : List En := [(.istore 7, 0, 0, 0), (.aload_n 2, 0, 0, 0), (.bipush 99, 0, 0, 0), (.aload_n 2, 0, 0, 0), (.getfield 56, 31, 7, 5), (.iload 5, 0, 0, 0), (.iadd, 0, 0, 0)]
def fX6_hold_70 (v0 : Nat) (v1 : Nat) (v2 : Nat) (v5 : Int32) (v6 : Int32) (s0 : Int32) (h : aH) : Option (aH) :=
  (gFI h 7 v2 5).bind fun t1 =>
  fX6_hold_82 v0 v1 v2 v6 s0 (t1 + v5) (kB 99) v2 h
theorem tX6_hold_70 {d : Nat} {z : aH} (v0 : Nat) (v1 : Nat) (v2 : Nat) (v5 : Int32) (v6 : Int32) (s0 : Int32) (h : aH) (hf : fX6_hold_70 v0 v1 v2 v5 v6 s0 h = some z) : Ev (d + 2) none mX6_hold (0, 0) 70 [.ref v0, .ref v1, .ref v2, .null, .null, .int v5, .int v6, .null] [.int s0] h (QV z) := 
  go_ok (X := none) (blk := wX6_hold_70) (np := 82) (tt := 0) (kN := fun xs h st => app [2, 2, 2, 0, 0, 0, 1, 1] (fun v0 v1 v2 v6 v7 => apS [1, 1, 2] (fun s0 s1 s2 => fX6_hold_82 v0 v1 v2 v6 v7 s0 s1 s2 h) st) xs) (kT := fun _ _ _ => none) (kR := kRV)
    (fun xs h st q => jm [2, 2, 2, 0, 0, 0, 1, 1] _ (fun v0 v1 v2 v6 v7 q => apS_ok [1, 1, 2] _ (fun st => Ev (d + 2) none mX6_hold (0, 0) 82 [.ref v0, .ref v1, .ref v2, .null, .null, .null, .int v6, .int v7] st h (QV z)) st (fun s0 s1 s2 q => tX6_hold_82 v0 v1 v2 v6 v7 s0 s1 s2 h q) q) q)
    (fun _ _ _ q => nos q)
    kRV_ok (Or.inr rfl) (by decide +kernel) (by decide +kernel) hf
theorem kqX6_hold_67 : okC mX6_hold 67 (.invokevirtual 52) 87 80 0 3 = true := by decide +kernel
def fX6_hold_67 (v0 : Nat) (v1 : Nat) (v2 : Nat) (v5 : Int32) (v6 : Int32) (s0 : Int32) (s1 : Nat) (s2 : Nat) (s3 : Nat) (h : aH) : Option (aH) :=
  (isO h 6 s3).bind fun _ =>
  (gX6_seat s3 s2 s1 s0 h).bind fun r =>
  fX6_hold_70 v0 v1 v2 v5 v6 r.1 r.2
theorem tX6_hold_67 {d : Nat} {z : aH} (v0 : Nat) (v1 : Nat) (v2 : Nat) (v5 : Int32) (v6 : Int32) (s0 : Int32) (s1 : Nat) (s2 : Nat) (s3 : Nat) (h : aH) (hf : fX6_hold_67 v0 v1 v2 v5 v6 s0 s1 s2 s3 h = some z) : Ev (d + 2) none mX6_hold (0, 0) 67 [.ref v0, .ref v1, .ref v2, .null, .null, .int v5, .int v6, .null] [.int s0, .ref s1, .ref s2, .ref s3] h (QV z) := by
  obtain ⟨_, h1, hf⟩ := bnd hf
  obtain ⟨fs, ho⟩ := isO_ok h1
  obtain ⟨r, h2, hf⟩ := bnd hf
  refine ev_V kqX6_hold_67 jX6_seat (zX6_seat (d := d + 1) h2) ho rfl rfl (Nat.le_of_ble_eq_true rfl) rfl (as := [.ref s2, .ref s1, .int s0]) (rest := []) rfl (Nat.le_of_ble_eq_true rfl) (fun _ _ hq => ?_)
  obtain ⟨rfl, rfl⟩ := hq
  exact jm [2, 2, 2, 0, 0, 1, 1, 0] (fun v0 v1 v2 v5 v6 => fX6_hold_70 v0 v1 v2 v5 v6 r.1 r.2) (fun v0 v1 v2 v5 v6 q => tX6_hold_70 v0 v1 v2 v5 v6 r.1 r.2 q) hf
def wX6_hold_62 : List En := [(.iload 6, 0, 0, 0), (.iconst (-1), 0, 0, 0), (.ixor, 0, 0, 0), (.iand, 0, 0, 0)]
def fX6_hold_62 (v0 : Nat) (v1 : Nat) (v2 : Nat) (v5 : Int32) (v6 : Int32) (s0 : Int32) (s1 : Nat) (s2 : Nat) (s3 : Nat) (h : aH) : Option (aH) :=
  fX6_hold_67 v0 v1 v2 v5 v6 (s0 &&& (v6 ^^^ (kI (-1)))) s1 s2 s3 h
theorem tX6_hold_62 {d : Nat} {z : aH} (v0 : Nat) (v1 : Nat) (v2 : Nat) (v5 : Int32) (v6 : Int32) (s0 : Int32) (s1 : Nat) (s2 : Nat) (s3 : Nat) (h : aH) (hf : fX6_hold_62 v0 v1 v2 v5 v6 s0 s1 s2 s3 h = some z) : Ev (d + 2) none mX6_hold (0, 0) 62 [.ref v0, .ref v1, .ref v2, .null, .null, .int v5, .int v6, .null] [.int s0, .ref s1, .ref s2, .ref s3] h (QV z) := 
  go_ok (X := none) (blk := wX6_hold_62) (np := 67) (tt := 0) (kN := fun xs h st => app [2, 2, 2, 0, 0, 1, 1, 0] (fun v0 v1 v2 v5 v6 => apS [1, 2, 2, 2] (fun s0 s1 s2 s3 => fX6_hold_67 v0 v1 v2 v5 v6 s0 s1 s2 s3 h) st) xs) (kT := fun _ _ _ => none) (kR := kRV)
    (fun xs h st q => jm [2, 2, 2, 0, 0, 1, 1, 0] _ (fun v0 v1 v2 v5 v6 q => apS_ok [1, 2, 2, 2] _ (fun st => Ev (d + 2) none mX6_hold (0, 0) 67 [.ref v0, .ref v1, .ref v2, .null, .null, .int v5, .int v6, .null] st h (QV z)) st (fun s0 s1 s2 s3 q => tX6_hold_67 v0 v1 v2 v5 v6 s0 s1 s2 s3 h q) q) q)
    (fun _ _ _ q => nos q)
    kRV_ok (Or.inr rfl) (by decide +kernel) (by decide +kernel) hf
theorem kqX6_hold_59 : okC mX6_hold 59 (.invokevirtual 49) 86 79 0 1 = true := by decide +kernel
def fX6_hold_59 (v0 : Nat) (v1 : Nat) (v2 : Nat) (v5 : Int32) (v6 : Int32) (s0 : Nat) (s1 : Nat) (s2 : Nat) (s3 : Nat) (s4 : Nat) (h : aH) : Option (aH) :=
  (isO h 7 s1).bind fun _ =>
  (gX7_living s1 s0 h).bind fun r =>
  fX6_hold_62 v0 v1 v2 v5 v6 r.1 s2 s3 s4 r.2
theorem tX6_hold_59 {d : Nat} {z : aH} (v0 : Nat) (v1 : Nat) (v2 : Nat) (v5 : Int32) (v6 : Int32) (s0 : Nat) (s1 : Nat) (s2 : Nat) (s3 : Nat) (s4 : Nat) (h : aH) (hf : fX6_hold_59 v0 v1 v2 v5 v6 s0 s1 s2 s3 s4 h = some z) : Ev (d + 2) none mX6_hold (0, 0) 59 [.ref v0, .ref v1, .ref v2, .null, .null, .int v5, .int v6, .null] [.ref s0, .ref s1, .ref s2, .ref s3, .ref s4] h (QV z) := by
  obtain ⟨_, h1, hf⟩ := bnd hf
  obtain ⟨fs, ho⟩ := isO_ok h1
  obtain ⟨r, h2, hf⟩ := bnd hf
  refine ev_V kqX6_hold_59 jX7_living (zX7_living (d := d + 1) h2) ho rfl rfl (Nat.le_of_ble_eq_true rfl) rfl (as := [.ref s0]) (rest := [.ref s2, .ref s3, .ref s4]) rfl (Nat.le_of_ble_eq_true rfl) (fun _ _ hq => ?_)
  obtain ⟨rfl, rfl⟩ := hq
  exact jm [2, 2, 2, 0, 0, 1, 1, 0] (fun v0 v1 v2 v5 v6 => fX6_hold_62 v0 v1 v2 v5 v6 r.1 s2 s3 s4 r.2) (fun v0 v1 v2 v5 v6 q => tX6_hold_62 v0 v1 v2 v5 v6 r.1 s2 s3 s4 r.2 q) hf
def wX6_hold_54 : List En := [(.aload_n 0, 0, 0, 0), (.aload_n 1, 0, 0, 0), (.aload_n 2, 0, 0, 0), (.aload_n 2, 0, 0, 0), (.aload_n 1, 0, 0, 0)]
def fX6_hold_54 (v0 : Nat) (v1 : Nat) (v2 : Nat) (v5 : Int32) (v6 : Int32) (h : aH) : Option (aH) :=
  fX6_hold_59 v0 v1 v2 v5 v6 v1 v2 v2 v1 v0 h
theorem tX6_hold_54 {d : Nat} {z : aH} (v0 : Nat) (v1 : Nat) (v2 : Nat) (v5 : Int32) (v6 : Int32) (h : aH) (hf : fX6_hold_54 v0 v1 v2 v5 v6 h = some z) : Ev (d + 2) none mX6_hold (0, 0) 54 [.ref v0, .ref v1, .ref v2, .null, .null, .int v5, .int v6, .null] [] h (QV z) := 
  go_ok (X := none) (blk := wX6_hold_54) (np := 59) (tt := 0) (kN := fun xs h st => app [2, 2, 2, 0, 0, 1, 1, 0] (fun v0 v1 v2 v5 v6 => apS [2, 2, 2, 2, 2] (fun s0 s1 s2 s3 s4 => fX6_hold_59 v0 v1 v2 v5 v6 s0 s1 s2 s3 s4 h) st) xs) (kT := fun _ _ _ => none) (kR := kRV)
    (fun xs h st q => jm [2, 2, 2, 0, 0, 1, 1, 0] _ (fun v0 v1 v2 v5 v6 q => apS_ok [2, 2, 2, 2, 2] _ (fun st => Ev (d + 2) none mX6_hold (0, 0) 59 [.ref v0, .ref v1, .ref v2, .null, .null, .int v5, .int v6, .null] st h (QV z)) st (fun s0 s1 s2 s3 s4 q => tX6_hold_59 v0 v1 v2 v5 v6 s0 s1 s2 s3 s4 h q) q) q)
    (fun _ _ _ q => nos q)
    kRV_ok (Or.inr rfl) (by decide +kernel) (by decide +kernel) hf
theorem kqX6_hold_51 : okC mX6_hold 51 (.invokevirtual 45) 85 78 0 1 = true := by decide +kernel
def fX6_hold_51 (v0 : Nat) (v1 : Nat) (v2 : Nat) (v5 : Int32) (v6 : Int32) (s0 : Nat) (s1 : Nat) (h : aH) : Option (aH) :=
  (isO h 7 s1).bind fun _ =>
  (gX7_grow s1 s0 h).bind fun r =>
  fX6_hold_54 v0 v1 v2 v5 v6 r
theorem tX6_hold_51 {d : Nat} {z : aH} (v0 : Nat) (v1 : Nat) (v2 : Nat) (v5 : Int32) (v6 : Int32) (s0 : Nat) (s1 : Nat) (h : aH) (hf : fX6_hold_51 v0 v1 v2 v5 v6 s0 s1 h = some z) : Ev (d + 2) none mX6_hold (0, 0) 51 [.ref v0, .ref v1, .ref v2, .null, .null, .int v5, .int v6, .null] [.ref s0, .ref s1] h (QV z) := by
  obtain ⟨_, h1, hf⟩ := bnd hf
  obtain ⟨fs, ho⟩ := isO_ok h1
  obtain ⟨r, h2, hf⟩ := bnd hf
  refine ev_V kqX6_hold_51 jX7_grow (zX7_grow (d := d + 0) h2) ho rfl rfl (Nat.le_of_ble_eq_true rfl) rfl (as := [.ref s0]) (rest := []) rfl (Nat.le_of_ble_eq_true rfl) (fun _ _ hq => ?_)
  obtain ⟨rfl, hh⟩ := hq
  rw [hh]
  exact jm [2, 2, 2, 0, 0, 1, 1, 0] (fun v0 v1 v2 v5 v6 => fX6_hold_54 v0 v1 v2 v5 v6 r) (fun v0 v1 v2 v5 v6 q => tX6_hold_54 v0 v1 v2 v5 v6 r q) hf
def wX6_hold_46 : List En := [(.putfield 15, 39, 6, 1), (.aload_n 2, 0, 0, 0), (.aload_n 1, 0, 0, 0)]
def fX6_hold_46 (v0 : Nat) (v1 : Nat) (v2 : Nat) (v5 : Int32) (v6 : Int32) (s0 : Int32) (s1 : Nat) (h : aH) : Option (aH) :=
  (pWV h 6 s1 1 (.int s0)).bind fun h1 =>
  fX6_hold_51 v0 v1 v2 v5 v6 v1 v2 h1
theorem tX6_hold_46 {d : Nat} {z : aH} (v0 : Nat) (v1 : Nat) (v2 : Nat) (v5 : Int32) (v6 : Int32) (s0 : Int32) (s1 : Nat) (h : aH) (hf : fX6_hold_46 v0 v1 v2 v5 v6 s0 s1 h = some z) : Ev (d + 2) none mX6_hold (0, 0) 46 [.ref v0, .ref v1, .ref v2, .null, .null, .int v5, .int v6, .null] [.int s0, .ref s1] h (QV z) := 
  go_ok (X := none) (blk := wX6_hold_46) (np := 51) (tt := 0) (kN := fun xs h st => app [2, 2, 2, 0, 0, 1, 1, 0] (fun v0 v1 v2 v5 v6 => apS [2, 2] (fun s0 s1 => fX6_hold_51 v0 v1 v2 v5 v6 s0 s1 h) st) xs) (kT := fun _ _ _ => none) (kR := kRV)
    (fun xs h st q => jm [2, 2, 2, 0, 0, 1, 1, 0] _ (fun v0 v1 v2 v5 v6 q => apS_ok [2, 2] _ (fun st => Ev (d + 2) none mX6_hold (0, 0) 51 [.ref v0, .ref v1, .ref v2, .null, .null, .int v5, .int v6, .null] st h (QV z)) st (fun s0 s1 q => tX6_hold_51 v0 v1 v2 v5 v6 s0 s1 h q) q) q)
    (fun _ _ _ q => nos q)
    kRV_ok (Or.inr rfl) (by decide +kernel) (by decide +kernel) hf
theorem kqX6_hold_43 : okC mX6_hold 43 (.invokevirtual 39) 73 77 0 1 = true := by decide +kernel
def fX6_hold_43 (v0 : Nat) (v1 : Nat) (v2 : Nat) (v5 : Int32) (v6 : Int32) (s0 : Int32) (s1 : Nat) (s2 : Nat) (h : aH) : Option (aH) :=
  (isO h 9 s1).bind fun _ =>
  (gX9_nameSeen s1 s0 h).bind fun r =>
  fX6_hold_46 v0 v1 v2 v5 v6 r.1 s2 r.2
theorem tX6_hold_43 {d : Nat} {z : aH} (v0 : Nat) (v1 : Nat) (v2 : Nat) (v5 : Int32) (v6 : Int32) (s0 : Int32) (s1 : Nat) (s2 : Nat) (h : aH) (hf : fX6_hold_43 v0 v1 v2 v5 v6 s0 s1 s2 h = some z) : Ev (d + 2) none mX6_hold (0, 0) 43 [.ref v0, .ref v1, .ref v2, .null, .null, .int v5, .int v6, .null] [.int s0, .ref s1, .ref s2] h (QV z) := by
  obtain ⟨_, h1, hf⟩ := bnd hf
  obtain ⟨fs, ho⟩ := isO_ok h1
  obtain ⟨r, h2, hf⟩ := bnd hf
  refine ev_V kqX6_hold_43 jX9_nameSeen (zX9_nameSeen (d := d + 1) h2) ho rfl rfl (Nat.le_of_ble_eq_true rfl) rfl (as := [.int s0]) (rest := [.ref s2]) rfl (Nat.le_of_ble_eq_true rfl) (fun _ _ hq => ?_)
  obtain ⟨rfl, rfl⟩ := hq
  exact jm [2, 2, 2, 0, 0, 1, 1, 0] (fun v0 v1 v2 v5 v6 => fX6_hold_46 v0 v1 v2 v5 v6 r.1 s2 r.2) (fun v0 v1 v2 v5 v6 q => tX6_hold_46 v0 v1 v2 v5 v6 r.1 s2 r.2 q) hf
theorem kqX6_hold_40 : okC mX6_hold 40 (.invokevirtual 35) 71 76 0 2 = true := by decide +kernel
def fX6_hold_40 (v0 : Nat) (v1 : Nat) (v2 : Nat) (v5 : Int32) (v6 : Int32) (s0 : Int32) (s1 : Nat) (s2 : Nat) (s3 : Nat) (s4 : Nat) (h : aH) : Option (aH) :=
  (isO h 7 s2).bind fun _ =>
  (gX7_seenHunger s2 s1 s0 h).bind fun r =>
  fX6_hold_43 v0 v1 v2 v5 v6 r.1 s3 s4 r.2
theorem tX6_hold_40 {d : Nat} {z : aH} (v0 : Nat) (v1 : Nat) (v2 : Nat) (v5 : Int32) (v6 : Int32) (s0 : Int32) (s1 : Nat) (s2 : Nat) (s3 : Nat) (s4 : Nat) (h : aH) (hf : fX6_hold_40 v0 v1 v2 v5 v6 s0 s1 s2 s3 s4 h = some z) : Ev (d + 2) none mX6_hold (0, 0) 40 [.ref v0, .ref v1, .ref v2, .null, .null, .int v5, .int v6, .null] [.int s0, .ref s1, .ref s2, .ref s3, .ref s4] h (QV z) := by
  obtain ⟨_, h1, hf⟩ := bnd hf
  obtain ⟨fs, ho⟩ := isO_ok h1
  obtain ⟨r, h2, hf⟩ := bnd hf
  refine ev_V kqX6_hold_40 jX7_seenHunger (zX7_seenHunger (d := d + 1) h2) ho rfl rfl (Nat.le_of_ble_eq_true rfl) rfl (as := [.ref s1, .int s0]) (rest := [.ref s3, .ref s4]) rfl (Nat.le_of_ble_eq_true rfl) (fun _ _ hq => ?_)
  obtain ⟨rfl, rfl⟩ := hq
  exact jm [2, 2, 2, 0, 0, 1, 1, 0] (fun v0 v1 v2 v5 v6 => fX6_hold_43 v0 v1 v2 v5 v6 r.1 s3 s4 r.2) (fun v0 v1 v2 v5 v6 q => tX6_hold_43 v0 v1 v2 v5 v6 r.1 s3 s4 r.2 q) hf
def wX6_hold_33 : List En := [(.aload_n 1, 0, 0, 0), (.aload_n 2, 0, 0, 0), (.aload_n 1, 0, 0, 0), (.aload_n 0, 0, 0, 0), (.getfield 9, 36, 6, 0)]
def fX6_hold_33 (v0 : Nat) (v1 : Nat) (v2 : Nat) (v5 : Int32) (v6 : Int32) (s0 : Nat) (h : aH) : Option (aH) :=
  (gFI h 6 v0 0).bind fun t1 =>
  fX6_hold_40 v0 v1 v2 v5 v6 t1 v1 v2 v1 s0 h
theorem tX6_hold_33 {d : Nat} {z : aH} (v0 : Nat) (v1 : Nat) (v2 : Nat) (v5 : Int32) (v6 : Int32) (s0 : Nat) (h : aH) (hf : fX6_hold_33 v0 v1 v2 v5 v6 s0 h = some z) : Ev (d + 2) none mX6_hold (0, 0) 33 [.ref v0, .ref v1, .ref v2, .null, .null, .int v5, .int v6, .null] [.ref s0] h (QV z) := 
  go_ok (X := none) (blk := wX6_hold_33) (np := 40) (tt := 0) (kN := fun xs h st => app [2, 2, 2, 0, 0, 1, 1, 0] (fun v0 v1 v2 v5 v6 => apS [1, 2, 2, 2, 2] (fun s0 s1 s2 s3 s4 => fX6_hold_40 v0 v1 v2 v5 v6 s0 s1 s2 s3 s4 h) st) xs) (kT := fun _ _ _ => none) (kR := kRV)
    (fun xs h st q => jm [2, 2, 2, 0, 0, 1, 1, 0] _ (fun v0 v1 v2 v5 v6 q => apS_ok [1, 2, 2, 2, 2] _ (fun st => Ev (d + 2) none mX6_hold (0, 0) 40 [.ref v0, .ref v1, .ref v2, .null, .null, .int v5, .int v6, .null] st h (QV z)) st (fun s0 s1 s2 s3 s4 q => tX6_hold_40 v0 v1 v2 v5 v6 s0 s1 s2 s3 s4 h q) q) q)
    (fun _ _ _ q => nos q)
    kRV_ok (Or.inr rfl) (by decide +kernel) (by decide +kernel) hf
def wX6_hold_28 : List En := [(.bipush (-2), 0, 0, 0), (.goto 16, 46, 0, 0)]
def fX6_hold_28 (v0 : Nat) (v1 : Nat) (v2 : Nat) (v5 : Int32) (v6 : Int32) (s0 : Nat) (h : aH) : Option (aH) :=
  fX6_hold_46 v0 v1 v2 v5 v6 (kB (-2)) s0 h
theorem tX6_hold_28 {d : Nat} {z : aH} (v0 : Nat) (v1 : Nat) (v2 : Nat) (v5 : Int32) (v6 : Int32) (s0 : Nat) (h : aH) (hf : fX6_hold_28 v0 v1 v2 v5 v6 s0 h = some z) : Ev (d + 2) none mX6_hold (0, 0) 28 [.ref v0, .ref v1, .ref v2, .null, .null, .int v5, .int v6, .null] [.ref s0] h (QV z) := 
  go_ok (X := none) (blk := wX6_hold_28) (np := 33) (tt := 46) (kN := fun _ _ _ => none) (kT := fun xs h st => app [2, 2, 2, 0, 0, 1, 1, 0] (fun v0 v1 v2 v5 v6 => apS [1, 2] (fun s0 s1 => fX6_hold_46 v0 v1 v2 v5 v6 s0 s1 h) st) xs) (kR := kRV)
    (fun _ _ _ q => nos q)
    (fun xs h st q => jm [2, 2, 2, 0, 0, 1, 1, 0] _ (fun v0 v1 v2 v5 v6 q => apS_ok [1, 2] _ (fun st => Ev (d + 2) none mX6_hold (0, 0) 46 [.ref v0, .ref v1, .ref v2, .null, .null, .int v5, .int v6, .null] st h (QV z)) st (fun s0 s1 q => tX6_hold_46 v0 v1 v2 v5 v6 s0 s1 h q) q) q)
    kRV_ok (Or.inr rfl) (by decide +kernel) (by decide +kernel) hf
def wX6_hold_17 : List En := [(.putfield 9, 36, 6, 0), (.aload_n 0, 0, 0, 0), (.aload_n 0, 0, 0, 0), (.getfield 9, 36, 6, 0), (.ifCond .ge 8, 33, 0, 0)]
def fX6_hold_17 (v0 : Nat) (v1 : Nat) (v2 : Nat) (v5 : Int32) (v6 : Int32) (s0 : Int32) (s1 : Nat) (h : aH) : Option (aH) :=
  (pWV h 6 s1 0 (.int s0)).bind fun h1 =>
  (gFI h1 6 v0 0).bind fun t2 =>
  if t2 < 0 then fX6_hold_28 v0 v1 v2 v5 v6 v0 h1 else fX6_hold_33 v0 v1 v2 v5 v6 v0 h1
theorem tX6_hold_17 {d : Nat} {z : aH} (v0 : Nat) (v1 : Nat) (v2 : Nat) (v5 : Int32) (v6 : Int32) (s0 : Int32) (s1 : Nat) (h : aH) (hf : fX6_hold_17 v0 v1 v2 v5 v6 s0 s1 h = some z) : Ev (d + 2) none mX6_hold (0, 0) 17 [.ref v0, .ref v1, .ref v2, .null, .null, .int v5, .int v6, .null] [.int s0, .ref s1] h (QV z) := 
  go_ok (X := none) (blk := wX6_hold_17) (np := 28) (tt := 33) (kN := fun xs h st => app [2, 2, 2, 0, 0, 1, 1, 0] (fun v0 v1 v2 v5 v6 => apS [2] (fun s0 => fX6_hold_28 v0 v1 v2 v5 v6 s0 h) st) xs) (kT := fun xs h st => app [2, 2, 2, 0, 0, 1, 1, 0] (fun v0 v1 v2 v5 v6 => apS [2] (fun s0 => fX6_hold_33 v0 v1 v2 v5 v6 s0 h) st) xs) (kR := kRV)
    (fun xs h st q => jm [2, 2, 2, 0, 0, 1, 1, 0] _ (fun v0 v1 v2 v5 v6 q => apS_ok [2] _ (fun st => Ev (d + 2) none mX6_hold (0, 0) 28 [.ref v0, .ref v1, .ref v2, .null, .null, .int v5, .int v6, .null] st h (QV z)) st (fun s0 q => tX6_hold_28 v0 v1 v2 v5 v6 s0 h q) q) q)
    (fun xs h st q => jm [2, 2, 2, 0, 0, 1, 1, 0] _ (fun v0 v1 v2 v5 v6 q => apS_ok [2] _ (fun st => Ev (d + 2) none mX6_hold (0, 0) 33 [.ref v0, .ref v1, .ref v2, .null, .null, .int v5, .int v6, .null] st h (QV z)) st (fun s0 q => tX6_hold_33 v0 v1 v2 v5 v6 s0 h q) q) q)
    kRV_ok (Or.inr rfl) (by decide +kernel) (by decide +kernel) hf
theorem kqX6_hold_14 : okC mX6_hold 14 (.invokevirtual 31) 75 75 0 2 = true := by decide +kernel
def fX6_hold_14 (v0 : Nat) (v1 : Nat) (v2 : Nat) (v5 : Int32) (v6 : Int32) (s0 : Int32) (s1 : Nat) (s2 : Nat) (s3 : Nat) (h : aH) : Option (aH) :=
  (isO h 7 s2).bind fun _ =>
  (gX7_whoNames s2 s1 s0 h).bind fun r =>
  fX6_hold_17 v0 v1 v2 v5 v6 r.1 s3 r.2
theorem tX6_hold_14 {d : Nat} {z : aH} (v0 : Nat) (v1 : Nat) (v2 : Nat) (v5 : Int32) (v6 : Int32) (s0 : Int32) (s1 : Nat) (s2 : Nat) (s3 : Nat) (h : aH) (hf : fX6_hold_14 v0 v1 v2 v5 v6 s0 s1 s2 s3 h = some z) : Ev (d + 2) none mX6_hold (0, 0) 14 [.ref v0, .ref v1, .ref v2, .null, .null, .int v5, .int v6, .null] [.int s0, .ref s1, .ref s2, .ref s3] h (QV z) := by
  obtain ⟨_, h1, hf⟩ := bnd hf
  obtain ⟨fs, ho⟩ := isO_ok h1
  obtain ⟨r, h2, hf⟩ := bnd hf
  refine ev_V kqX6_hold_14 jX7_whoNames (zX7_whoNames (d := d + 0) h2) ho rfl rfl (Nat.le_of_ble_eq_true rfl) rfl (as := [.ref s1, .int s0]) (rest := [.ref s3]) rfl (Nat.le_of_ble_eq_true rfl) (fun _ _ hq => ?_)
  obtain ⟨rfl, rfl⟩ := hq
  exact jm [2, 2, 2, 0, 0, 1, 1, 0] (fun v0 v1 v2 v5 v6 => fX6_hold_17 v0 v1 v2 v5 v6 r.1 s3 r.2) (fun v0 v1 v2 v5 v6 q => tX6_hold_17 v0 v1 v2 v5 v6 r.1 s3 r.2 q) hf
def wX6_hold_5 : List En := [(.iload_n 3, 0, 0, 0), (.ior, 0, 0, 0), (.istore 6, 0, 0, 0), (.aload_n 0, 0, 0, 0), (.aload_n 2, 0, 0, 0), (.aload_n 1, 0, 0, 0), (.iload 4, 0, 0, 0)]
def fX6_hold_5 (v0 : Nat) (v1 : Nat) (v2 : Nat) (v3 : Int32) (v4 : Int32) (v5 : Int32) (s0 : Int32) (h : aH) : Option (aH) :=
  fX6_hold_14 v0 v1 v2 v5 (s0 ||| v3) v4 v1 v2 v0 h
theorem tX6_hold_5 {d : Nat} {z : aH} (v0 : Nat) (v1 : Nat) (v2 : Nat) (v3 : Int32) (v4 : Int32) (v5 : Int32) (s0 : Int32) (h : aH) (hf : fX6_hold_5 v0 v1 v2 v3 v4 v5 s0 h = some z) : Ev (d + 2) none mX6_hold (0, 0) 5 [.ref v0, .ref v1, .ref v2, .int v3, .int v4, .int v5, .null, .null] [.int s0] h (QV z) := 
  go_ok (X := none) (blk := wX6_hold_5) (np := 14) (tt := 0) (kN := fun xs h st => app [2, 2, 2, 0, 0, 1, 1, 0] (fun v0 v1 v2 v5 v6 => apS [1, 2, 2, 2] (fun s0 s1 s2 s3 => fX6_hold_14 v0 v1 v2 v5 v6 s0 s1 s2 s3 h) st) xs) (kT := fun _ _ _ => none) (kR := kRV)
    (fun xs h st q => jm [2, 2, 2, 0, 0, 1, 1, 0] _ (fun v0 v1 v2 v5 v6 q => apS_ok [1, 2, 2, 2] _ (fun st => Ev (d + 2) none mX6_hold (0, 0) 14 [.ref v0, .ref v1, .ref v2, .null, .null, .int v5, .int v6, .null] st h (QV z)) st (fun s0 s1 s2 s3 q => tX6_hold_14 v0 v1 v2 v5 v6 s0 s1 s2 s3 h q) q) q)
    (fun _ _ _ q => nos q)
    kRV_ok (Or.inr rfl) (by decide +kernel) (by decide +kernel) hf
theorem kqX6_hold_2 : okC mX6_hold 2 (.invokevirtual 25) 84 73 0 1 = true := by decide +kernel
def fX6_hold_2 (v0 : Nat) (v1 : Nat) (v2 : Nat) (v3 : Int32) (v4 : Int32) (v5 : Int32) (s0 : Nat) (s1 : Nat) (h : aH) : Option (aH) :=
  (isO h 7 s1).bind fun _ =>
  (gX7_fastingNext s1 s0 h).bind fun r =>
  fX6_hold_5 v0 v1 v2 v3 v4 v5 r.1 r.2
theorem tX6_hold_2 {d : Nat} {z : aH} (v0 : Nat) (v1 : Nat) (v2 : Nat) (v3 : Int32) (v4 : Int32) (v5 : Int32) (s0 : Nat) (s1 : Nat) (h : aH) (hf : fX6_hold_2 v0 v1 v2 v3 v4 v5 s0 s1 h = some z) : Ev (d + 2) none mX6_hold (0, 0) 2 [.ref v0, .ref v1, .ref v2, .int v3, .int v4, .int v5, .null, .null] [.ref s0, .ref s1] h (QV z) := by
  obtain ⟨_, h1, hf⟩ := bnd hf
  obtain ⟨fs, ho⟩ := isO_ok h1
  obtain ⟨r, h2, hf⟩ := bnd hf
  refine ev_V kqX6_hold_2 jX7_fastingNext (zX7_fastingNext (d := d + 0) h2) ho rfl rfl (Nat.le_of_ble_eq_true rfl) rfl (as := [.ref s0]) (rest := []) rfl (Nat.le_of_ble_eq_true rfl) (fun _ _ hq => ?_)
  obtain ⟨rfl, rfl⟩ := hq
  exact jm [2, 2, 2, 1, 1, 1, 0, 0] (fun v0 v1 v2 v3 v4 v5 => fX6_hold_5 v0 v1 v2 v3 v4 v5 r.1 r.2) (fun v0 v1 v2 v3 v4 v5 q => tX6_hold_5 v0 v1 v2 v3 v4 v5 r.1 r.2 q) hf
def wX6_hold_0 : List En := [(.aload_n 2, 0, 0, 0), (.aload_n 1, 0, 0, 0)]
def fX6_hold_0 (v0 : Nat) (v1 : Nat) (v2 : Nat) (v3 : Int32) (v4 : Int32) (v5 : Int32) (h : aH) : Option (aH) :=
  fX6_hold_2 v0 v1 v2 v3 v4 v5 v1 v2 h
theorem tX6_hold_0 {d : Nat} {z : aH} (v0 : Nat) (v1 : Nat) (v2 : Nat) (v3 : Int32) (v4 : Int32) (v5 : Int32) (h : aH) (hf : fX6_hold_0 v0 v1 v2 v3 v4 v5 h = some z) : Ev (d + 2) none mX6_hold (0, 0) 0 [.ref v0, .ref v1, .ref v2, .int v3, .int v4, .int v5, .null, .null] [] h (QV z) := 
  go_ok (X := none) (blk := wX6_hold_0) (np := 2) (tt := 0) (kN := fun xs h st => app [2, 2, 2, 1, 1, 1, 0, 0] (fun v0 v1 v2 v3 v4 v5 => apS [2, 2] (fun s0 s1 => fX6_hold_2 v0 v1 v2 v3 v4 v5 s0 s1 h) st) xs) (kT := fun _ _ _ => none) (kR := kRV)
    (fun xs h st q => jm [2, 2, 2, 1, 1, 1, 0, 0] _ (fun v0 v1 v2 v3 v4 v5 q => apS_ok [2, 2] _ (fun st => Ev (d + 2) none mX6_hold (0, 0) 2 [.ref v0, .ref v1, .ref v2, .int v3, .int v4, .int v5, .null, .null] st h (QV z)) st (fun s0 s1 q => tX6_hold_2 v0 v1 v2 v3 v4 v5 s0 s1 h q) q) q)
    (fun _ _ _ q => nos q)
    kRV_ok (Or.inr rfl) (by decide +kernel) (by decide +kernel) hf
def gX6_hold (v0 : Nat) (v1 : Nat) (v2 : Nat) (v3 : Int32) (v4 : Int32) (v5 : Int32) (h : aH) : Option (aH) := fX6_hold_0 v0 v1 v2 v3 v4 v5 h
theorem zX6_hold {d : Nat} {z : aH} {v0 : Nat} {v1 : Nat} {v2 : Nat} {v3 : Int32} {v4 : Int32} {v5 : Int32} {h : aH} (q : gX6_hold v0 v1 v2 v3 v4 v5 h = some z) : CT (d + 2) mX6_hold (0, 0) [.ref v0, .ref v1, .ref v2, .int v3, .int v4, .int v5] h (QV z) :=
  ct_ev (by decide +kernel) (Nat.le_of_ble_eq_true rfl) QV_r (jm [2, 2, 2, 1, 1, 1, 0, 0] (fun v0 v1 v2 v3 v4 v5 => fX6_hold_0 v0 v1 v2 v3 v4 v5 h) (fun v0 v1 v2 v3 v4 v5 q => tX6_hold_0 v0 v1 v2 v3 v4 v5 h q) q)
def wX1_pass_125 : List En := [(.iadd, 0, 0, 0), (.putfield 46, 57, 1, 5), (.return_, 0, 0, 0)]
def fX1_pass_125 (s0 : Int32) (s1 : Int32) (s2 : Nat) (h : aH) : Option (aH) :=
  (pWV h 1 s2 5 (.int (s1 + s0))).bind fun h1 =>
  some h1
theorem tX1_pass_125 {d : Nat} {z : aH} (s0 : Int32) (s1 : Int32) (s2 : Nat) (h : aH) (hf : fX1_pass_125 s0 s1 s2 h = some z) : Ev (d + 3) none mX1_pass (0, 0) 125 [.null, .null, .null, .null] [.int s0, .int s1, .ref s2] h (QV z) := 
  go_ok (X := none) (blk := wX1_pass_125) (np := 130) (tt := 0) (kN := fun _ _ _ => none) (kT := fun _ _ _ => none) (kR := kRV)
    (fun _ _ _ q => nos q)
    (fun _ _ _ q => nos q)
    kRV_ok (Or.inr rfl) (by decide +kernel) (by decide +kernel) hf
theorem kqX1_pass_122 : okC mX1_pass 122 (.invokevirtual 67) 89 85 0 1 = true := by decide +kernel
def fX1_pass_122 (s0 : Int32) (s1 : Nat) (s2 : Int32) (s3 : Nat) (h : aH) : Option (aH) :=
  (isO h 7 s1).bind fun _ =>
  (gX7_worthOf s1 s0 h).bind fun r =>
  fX1_pass_125 r.1 s2 s3 r.2
theorem tX1_pass_122 {d : Nat} {z : aH} (s0 : Int32) (s1 : Nat) (s2 : Int32) (s3 : Nat) (h : aH) (hf : fX1_pass_122 s0 s1 s2 s3 h = some z) : Ev (d + 3) none mX1_pass (0, 0) 122 [.null, .null, .null, .null] [.int s0, .ref s1, .int s2, .ref s3] h (QV z) := by
  obtain ⟨_, h1, hf⟩ := bnd hf
  obtain ⟨fs, ho⟩ := isO_ok h1
  obtain ⟨r, h2, hf⟩ := bnd hf
  refine ev_V kqX1_pass_122 jX7_worthOf (zX7_worthOf (d := d + 2) h2) ho rfl rfl (Nat.le_of_ble_eq_true rfl) rfl (as := [.int s0]) (rest := [.int s2, .ref s3]) rfl (Nat.le_of_ble_eq_true rfl) (fun _ _ hq => ?_)
  obtain ⟨rfl, rfl⟩ := hq
  exact jm [0, 0, 0, 0] (fX1_pass_125 r.1 s2 s3 r.2) (fun q => tX1_pass_125 r.1 s2 s3 r.2 q) hf
def wX1_pass_102 : List En := [(.ior, 0, 0, 0), (.putfield 42, 55, 1, 4), (.aload_n 0, 0, 0, 0), (.dup, 0, 0, 0), (.getfield 46, 57, 1, 5), (.aload_n 0, 0, 0, 0), (.getfield 12, 47, 1, 0), (.aload_n 0, 0, 0, 0), (.getfield 21, 49, 1, 1), (.getfield 64, 41, 6, 1)]
def fX1_pass_102 (v0 : Nat) (s0 : Int32) (s1 : Int32) (s2 : Nat) (h : aH) : Option (aH) :=
  (pWV h 1 s2 4 (.int (s1 ||| s0))).bind fun h1 =>
  (gFI h1 1 v0 5).bind fun t2 =>
  (gFR h1 1 v0 0).bind fun t3 =>
  (gFR h1 1 v0 1).bind fun t4 =>
  (gFI h1 6 t4 1).bind fun t5 =>
  fX1_pass_122 t5 t3 t2 v0 h1
theorem tX1_pass_102 {d : Nat} {z : aH} (v0 : Nat) (s0 : Int32) (s1 : Int32) (s2 : Nat) (h : aH) (hf : fX1_pass_102 v0 s0 s1 s2 h = some z) : Ev (d + 3) none mX1_pass (0, 0) 102 [.ref v0, .null, .null, .null] [.int s0, .int s1, .ref s2] h (QV z) := 
  go_ok (X := none) (blk := wX1_pass_102) (np := 122) (tt := 0) (kN := fun xs h st => app [0, 0, 0, 0] (apS [1, 2, 1, 2] (fun s0 s1 s2 s3 => fX1_pass_122 s0 s1 s2 s3 h) st) xs) (kT := fun _ _ _ => none) (kR := kRV)
    (fun xs h st q => jm [0, 0, 0, 0] _ (fun q => apS_ok [1, 2, 1, 2] _ (fun st => Ev (d + 3) none mX1_pass (0, 0) 122 [.null, .null, .null, .null] st h (QV z)) st (fun s0 s1 s2 s3 q => tX1_pass_122 s0 s1 s2 s3 h q) q) q)
    (fun _ _ _ q => nos q)
    kRV_ok (Or.inr rfl) (by decide +kernel) (by decide +kernel) hf
def wX1_pass_93 : List En := [(.iconst 1, 0, 0, 0), (.aload_n 0, 0, 0, 0), (.getfield 21, 49, 1, 1), (.getfield 64, 41, 6, 1), (.ishl, 0, 0, 0)]
def fX1_pass_93 (v0 : Nat) (s0 : Int32) (s1 : Nat) (h : aH) : Option (aH) :=
  (gFR h 1 v0 1).bind fun t1 =>
  (gFI h 6 t1 1).bind fun t2 =>
  fX1_pass_102 v0 ((kI 1) <<< (t2 &&& 31)) s0 s1 h
theorem tX1_pass_93 {d : Nat} {z : aH} (v0 : Nat) (s0 : Int32) (s1 : Nat) (h : aH) (hf : fX1_pass_93 v0 s0 s1 h = some z) : Ev (d + 3) none mX1_pass (0, 0) 93 [.ref v0, .null, .null, .null] [.int s0, .ref s1] h (QV z) := 
  go_ok (X := none) (blk := wX1_pass_93) (np := 102) (tt := 0) (kN := fun xs h st => app [2, 0, 0, 0] (fun v0 => apS [1, 1, 2] (fun s0 s1 s2 => fX1_pass_102 v0 s0 s1 s2 h) st) xs) (kT := fun _ _ _ => none) (kR := kRV)
    (fun xs h st q => jm [2, 0, 0, 0] _ (fun v0 q => apS_ok [1, 1, 2] _ (fun st => Ev (d + 3) none mX1_pass (0, 0) 102 [.ref v0, .null, .null, .null] st h (QV z)) st (fun s0 s1 s2 q => tX1_pass_102 v0 s0 s1 s2 h q) q) q)
    (fun _ _ _ q => nos q)
    kRV_ok (Or.inr rfl) (by decide +kernel) (by decide +kernel) hf
def wX1_pass_89 : List En := [(.iconst 0, 0, 0, 0), (.goto 12, 102, 0, 0)]
def fX1_pass_89 (v0 : Nat) (s0 : Int32) (s1 : Nat) (h : aH) : Option (aH) :=
  fX1_pass_102 v0 (kI 0) s0 s1 h
theorem tX1_pass_89 {d : Nat} {z : aH} (v0 : Nat) (s0 : Int32) (s1 : Nat) (h : aH) (hf : fX1_pass_89 v0 s0 s1 h = some z) : Ev (d + 3) none mX1_pass (0, 0) 89 [.ref v0, .null, .null, .null] [.int s0, .ref s1] h (QV z) := 
  go_ok (X := none) (blk := wX1_pass_89) (np := 93) (tt := 102) (kN := fun _ _ _ => none) (kT := fun xs h st => app [2, 0, 0, 0] (fun v0 => apS [1, 1, 2] (fun s0 s1 s2 => fX1_pass_102 v0 s0 s1 s2 h) st) xs) (kR := kRV)
    (fun _ _ _ q => nos q)
    (fun xs h st q => jm [2, 0, 0, 0] _ (fun v0 q => apS_ok [1, 1, 2] _ (fun st => Ev (d + 3) none mX1_pass (0, 0) 102 [.ref v0, .null, .null, .null] st h (QV z)) st (fun s0 s1 s2 q => tX1_pass_102 v0 s0 s1 s2 h q) q) q)
    kRV_ok (Or.inr rfl) (by decide +kernel) (by decide +kernel) hf
def wX1_pass_74 : List En := [(.aload_n 0, 0, 0, 0), (.dup, 0, 0, 0), (.getfield 42, 55, 1, 4), (.aload_n 0, 0, 0, 0), (.getfield 21, 49, 1, 1), (.getfield 64, 41, 6, 1), (.ifCond .ge 7, 93, 0, 0)]
def fX1_pass_74 (v0 : Nat) (h : aH) : Option (aH) :=
  (gFI h 1 v0 4).bind fun t1 =>
  (gFR h 1 v0 1).bind fun t2 =>
  (gFI h 6 t2 1).bind fun t3 =>
  if t3 < 0 then fX1_pass_89 v0 t1 v0 h else fX1_pass_93 v0 t1 v0 h
theorem tX1_pass_74 {d : Nat} {z : aH} (v0 : Nat) (h : aH) (hf : fX1_pass_74 v0 h = some z) : Ev (d + 3) none mX1_pass (0, 0) 74 [.ref v0, .null, .null, .null] [] h (QV z) := 
  go_ok (X := none) (blk := wX1_pass_74) (np := 89) (tt := 93) (kN := fun xs h st => app [2, 0, 0, 0] (fun v0 => apS [1, 2] (fun s0 s1 => fX1_pass_89 v0 s0 s1 h) st) xs) (kT := fun xs h st => app [2, 0, 0, 0] (fun v0 => apS [1, 2] (fun s0 s1 => fX1_pass_93 v0 s0 s1 h) st) xs) (kR := kRV)
    (fun xs h st q => jm [2, 0, 0, 0] _ (fun v0 q => apS_ok [1, 2] _ (fun st => Ev (d + 3) none mX1_pass (0, 0) 89 [.ref v0, .null, .null, .null] st h (QV z)) st (fun s0 s1 q => tX1_pass_89 v0 s0 s1 h q) q) q)
    (fun xs h st q => jm [2, 0, 0, 0] _ (fun v0 q => apS_ok [1, 2] _ (fun st => Ev (d + 3) none mX1_pass (0, 0) 93 [.ref v0, .null, .null, .null] st h (QV z)) st (fun s0 s1 q => tX1_pass_93 v0 s0 s1 h q) q) q)
    kRV_ok (Or.inr rfl) (by decide +kernel) (by decide +kernel) hf
def wX1_pass_66 : List En := [(.iadd, 0, 0, 0), (.iastore, 0, 0, 0), (.iinc 3 1, 0, 0, 0), (.goto (-54), 17, 0, 0)]
def fX1_pass_66 (k17 : Nat → Nat → Int32 → aH → Option (aH)) (v0 : Nat) (v1 : Nat) (v3 : Int32) (s0 : Int32) (s1 : Int32) (s2 : Int32) (s3 : Nat) (h : aH) : Option (aH) :=
  (aWI h s3 s2 (s1 + s0)).bind fun h1 =>
  k17 v0 v1 (v3 + kI 1) h1
theorem tX1_pass_66 {d : Nat} {z : aH} {k17 : Nat → Nat → Int32 → aH → Option (aH)} (hk17 : ∀ (v0 : Nat) (v1 : Nat) (v3 : Int32) (h : aH), k17 v0 v1 v3 h = some z → Ev (d + 3) none mX1_pass (0, 0) 17 [.ref v0, .ref v1, .null, .int v3] [] h (QV z)) (v0 : Nat) (v1 : Nat) (v3 : Int32) (s0 : Int32) (s1 : Int32) (s2 : Int32) (s3 : Nat) (h : aH) (hf : fX1_pass_66 k17 v0 v1 v3 s0 s1 s2 s3 h = some z) : Ev (d + 3) none mX1_pass (0, 0) 66 [.ref v0, .ref v1, .null, .int v3] [.int s0, .int s1, .int s2, .ref s3] h (QV z) := 
  go_ok (X := none) (blk := wX1_pass_66) (np := 74) (tt := 17) (kN := fun _ _ _ => none) (kT := fun xs h st => app [2, 2, 0, 1] (fun v0 v1 v3 => apS [] (k17 v0 v1 v3 h) st) xs) (kR := kRV)
    (fun _ _ _ q => nos q)
    (fun xs h st q => jm [2, 2, 0, 1] _ (fun v0 v1 v3 q => apS_ok [] _ (fun st => Ev (d + 3) none mX1_pass (0, 0) 17 [.ref v0, .ref v1, .null, .int v3] st h (QV z)) st (fun q => hk17 v0 v1 v3 h q) q) q)
    kRV_ok (Or.inr rfl) (by decide +kernel) (by decide +kernel) hf
def wX1_pass_65 : List En := [(.iconst 0, 0, 0, 0)]
def fX1_pass_65 (k17 : Nat → Nat → Int32 → aH → Option (aH)) (v0 : Nat) (v1 : Nat) (v3 : Int32) (s0 : Int32) (s1 : Int32) (s2 : Nat) (h : aH) : Option (aH) :=
  fX1_pass_66 k17 v0 v1 v3 (kI 0) s0 s1 s2 h
theorem tX1_pass_65 {d : Nat} {z : aH} {k17 : Nat → Nat → Int32 → aH → Option (aH)} (hk17 : ∀ (v0 : Nat) (v1 : Nat) (v3 : Int32) (h : aH), k17 v0 v1 v3 h = some z → Ev (d + 3) none mX1_pass (0, 0) 17 [.ref v0, .ref v1, .null, .int v3] [] h (QV z)) (v0 : Nat) (v1 : Nat) (v3 : Int32) (s0 : Int32) (s1 : Int32) (s2 : Nat) (h : aH) (hf : fX1_pass_65 k17 v0 v1 v3 s0 s1 s2 h = some z) : Ev (d + 3) none mX1_pass (0, 0) 65 [.ref v0, .ref v1, .null, .int v3] [.int s0, .int s1, .ref s2] h (QV z) := 
  go_ok (X := none) (blk := wX1_pass_65) (np := 66) (tt := 0) (kN := fun xs h st => app [2, 2, 0, 1] (fun v0 v1 v3 => apS [1, 1, 1, 2] (fun s0 s1 s2 s3 => fX1_pass_66 k17 v0 v1 v3 s0 s1 s2 s3 h) st) xs) (kT := fun _ _ _ => none) (kR := kRV)
    (fun xs h st q => jm [2, 2, 0, 1] _ (fun v0 v1 v3 q => apS_ok [1, 1, 1, 2] _ (fun st => Ev (d + 3) none mX1_pass (0, 0) 66 [.ref v0, .ref v1, .null, .int v3] st h (QV z)) st (fun s0 s1 s2 s3 q => tX1_pass_66 hk17 v0 v1 v3 s0 s1 s2 s3 h q) q) q)
    (fun _ _ _ q => nos q)
    kRV_ok (Or.inr rfl) (by decide +kernel) (by decide +kernel) hf
def wX1_pass_61 : List En := [(.iconst 1, 0, 0, 0), (.goto 4, 66, 0, 0)]
def fX1_pass_61 (k17 : Nat → Nat → Int32 → aH → Option (aH)) (v0 : Nat) (v1 : Nat) (v3 : Int32) (s0 : Int32) (s1 : Int32) (s2 : Nat) (h : aH) : Option (aH) :=
  fX1_pass_66 k17 v0 v1 v3 (kI 1) s0 s1 s2 h
theorem tX1_pass_61 {d : Nat} {z : aH} {k17 : Nat → Nat → Int32 → aH → Option (aH)} (hk17 : ∀ (v0 : Nat) (v1 : Nat) (v3 : Int32) (h : aH), k17 v0 v1 v3 h = some z → Ev (d + 3) none mX1_pass (0, 0) 17 [.ref v0, .ref v1, .null, .int v3] [] h (QV z)) (v0 : Nat) (v1 : Nat) (v3 : Int32) (s0 : Int32) (s1 : Int32) (s2 : Nat) (h : aH) (hf : fX1_pass_61 k17 v0 v1 v3 s0 s1 s2 h = some z) : Ev (d + 3) none mX1_pass (0, 0) 61 [.ref v0, .ref v1, .null, .int v3] [.int s0, .int s1, .ref s2] h (QV z) := 
  go_ok (X := none) (blk := wX1_pass_61) (np := 65) (tt := 66) (kN := fun _ _ _ => none) (kT := fun xs h st => app [2, 2, 0, 1] (fun v0 v1 v3 => apS [1, 1, 1, 2] (fun s0 s1 s2 s3 => fX1_pass_66 k17 v0 v1 v3 s0 s1 s2 s3 h) st) xs) (kR := kRV)
    (fun _ _ _ q => nos q)
    (fun xs h st q => jm [2, 2, 0, 1] _ (fun v0 v1 v3 q => apS_ok [1, 1, 1, 2] _ (fun st => Ev (d + 3) none mX1_pass (0, 0) 66 [.ref v0, .ref v1, .null, .int v3] st h (QV z)) st (fun s0 s1 s2 s3 q => tX1_pass_66 hk17 v0 v1 v3 s0 s1 s2 s3 h q) q) q)
    kRV_ok (Or.inr rfl) (by decide +kernel) (by decide +kernel) hf
def wX1_pass_25 : List En := [(.aload_n 0, 0, 0, 0), (.getfield 25, 51, 1, 2), (.iload_n 3, 0, 0, 0), (.dup2, 0, 0, 0), (.iaload, 0, 0, 0), (.aload_n 0, 0, 0, 0), (.getfield 21, 49, 1, 1), (.getfield 58, 45, 6, 2), (.iload_n 3, 0, 0, 0), (.iaload, 0, 0, 0), (.iadd, 0, 0, 0), (.iastore, 0, 0, 0), (.aload_n 0, 0, 0, 0), (.getfield 29, 53, 1, 3), (.iload_n 3, 0, 0, 0), (.dup2, 0, 0, 0), (.iaload, 0, 0, 0), (.aload_n 0, 0, 0, 0), (.getfield 21, 49, 1, 1), (.getfield 61, 37, 6, 0), (.iload_n 3, 0, 0, 0), (.if_icmp .ne 7, 65, 0, 0)]
def fX1_pass_25 (k17 : Nat → Nat → Int32 → aH → Option (aH)) (v0 : Nat) (v1 : Nat) (v3 : Int32) (h : aH) : Option (aH) :=
  (gFR h 1 v0 2).bind fun t1 =>
  (aRI (h[t1]?) v3).bind fun t2 =>
  (gFR h 1 v0 1).bind fun t3 =>
  (gFR h 6 t3 2).bind fun t4 =>
  (aRI (h[t4]?) v3).bind fun t5 =>
  (aWI h t1 v3 (t2 + t5)).bind fun h6 =>
  (gFR h6 1 v0 3).bind fun t7 =>
  (aRI (h6[t7]?) v3).bind fun t8 =>
  (gFR h6 1 v0 1).bind fun t9 =>
  (gFI h6 6 t9 0).bind fun t10 =>
  if t10 = v3 then fX1_pass_61 k17 v0 v1 v3 t8 v3 t7 h6 else fX1_pass_65 k17 v0 v1 v3 t8 v3 t7 h6
theorem tX1_pass_25 {d : Nat} {z : aH} {k17 : Nat → Nat → Int32 → aH → Option (aH)} (hk17 : ∀ (v0 : Nat) (v1 : Nat) (v3 : Int32) (h : aH), k17 v0 v1 v3 h = some z → Ev (d + 3) none mX1_pass (0, 0) 17 [.ref v0, .ref v1, .null, .int v3] [] h (QV z)) (v0 : Nat) (v1 : Nat) (v3 : Int32) (h : aH) (hf : fX1_pass_25 k17 v0 v1 v3 h = some z) : Ev (d + 3) none mX1_pass (0, 0) 25 [.ref v0, .ref v1, .null, .int v3] [] h (QV z) := 
  go_ok (X := none) (blk := wX1_pass_25) (np := 61) (tt := 65) (kN := fun xs h st => app [2, 2, 0, 1] (fun v0 v1 v3 => apS [1, 1, 2] (fun s0 s1 s2 => fX1_pass_61 k17 v0 v1 v3 s0 s1 s2 h) st) xs) (kT := fun xs h st => app [2, 2, 0, 1] (fun v0 v1 v3 => apS [1, 1, 2] (fun s0 s1 s2 => fX1_pass_65 k17 v0 v1 v3 s0 s1 s2 h) st) xs) (kR := kRV)
    (fun xs h st q => jm [2, 2, 0, 1] _ (fun v0 v1 v3 q => apS_ok [1, 1, 2] _ (fun st => Ev (d + 3) none mX1_pass (0, 0) 61 [.ref v0, .ref v1, .null, .int v3] st h (QV z)) st (fun s0 s1 s2 q => tX1_pass_61 hk17 v0 v1 v3 s0 s1 s2 h q) q) q)
    (fun xs h st q => jm [2, 2, 0, 1] _ (fun v0 v1 v3 q => apS_ok [1, 1, 2] _ (fun st => Ev (d + 3) none mX1_pass (0, 0) 65 [.ref v0, .ref v1, .null, .int v3] st h (QV z)) st (fun s0 s1 s2 q => tX1_pass_65 hk17 v0 v1 v3 s0 s1 s2 h q) q) q)
    kRV_ok (Or.inr rfl) (by decide +kernel) (by decide +kernel) hf
def wX1_pass_17 : List En := [(.iload_n 3, 0, 0, 0), (.aload_n 1, 0, 0, 0), (.getfield 53, 109, 9, 3), (.if_icmp .ge 52, 74, 0, 0)]
def fX1_pass_17 (k17 : Nat → Nat → Int32 → aH → Option (aH)) (v0 : Nat) (v1 : Nat) (v3 : Int32) (h : aH) : Option (aH) :=
  (gFI h 9 v1 3).bind fun t1 =>
  if v3 < t1 then fX1_pass_25 k17 v0 v1 v3 h else fX1_pass_74 v0 h
theorem tX1_pass_17 {d : Nat} {z : aH} {k17 : Nat → Nat → Int32 → aH → Option (aH)} (hk17 : ∀ (v0 : Nat) (v1 : Nat) (v3 : Int32) (h : aH), k17 v0 v1 v3 h = some z → Ev (d + 3) none mX1_pass (0, 0) 17 [.ref v0, .ref v1, .null, .int v3] [] h (QV z)) (v0 : Nat) (v1 : Nat) (v3 : Int32) (h : aH) (hf : fX1_pass_17 k17 v0 v1 v3 h = some z) : Ev (d + 3) none mX1_pass (0, 0) 17 [.ref v0, .ref v1, .null, .int v3] [] h (QV z) := 
  go_ok (X := none) (blk := wX1_pass_17) (np := 25) (tt := 74) (kN := fun xs h st => app [2, 2, 0, 1] (fun v0 v1 v3 => apS [] (fX1_pass_25 k17 v0 v1 v3 h) st) xs) (kT := fun xs h st => app [2, 0, 0, 0] (fun v0 => apS [] (fX1_pass_74 v0 h) st) xs) (kR := kRV)
    (fun xs h st q => jm [2, 2, 0, 1] _ (fun v0 v1 v3 q => apS_ok [] _ (fun st => Ev (d + 3) none mX1_pass (0, 0) 25 [.ref v0, .ref v1, .null, .int v3] st h (QV z)) st (fun q => tX1_pass_25 hk17 v0 v1 v3 h q) q) q)
    (fun xs h st q => jm [2, 0, 0, 0] _ (fun v0 q => apS_ok [] _ (fun st => Ev (d + 3) none mX1_pass (0, 0) 74 [.ref v0, .null, .null, .null] st h (QV z)) st (fun q => tX1_pass_74 v0 h q) q) q)
    kRV_ok (Or.inr rfl) (by decide +kernel) (by decide +kernel) hf
def lX1_pass_17 : Nat → Nat → Nat → Int32 → aH → Option (aH)
  | 0, _, _, _, _ => none
  | n + 1, v0, v1, v3, h => fX1_pass_17 (lX1_pass_17 n) v0 v1 v3 h
theorem uX1_pass_17 {d : Nat} {z : aH} : ∀ (n : Nat) (v0 : Nat) (v1 : Nat) (v3 : Int32) (h : aH), lX1_pass_17 n v0 v1 v3 h = some z → Ev (d + 3) none mX1_pass (0, 0) 17 [.ref v0, .ref v1, .null, .int v3] [] h (QV z) := by
  intro n
  induction n with
  | zero => intro _ _ _ _ q; exact nos (show (none : Option (aH)) = some z from q)
  | succ n ih => intro v0 v1 v3 h q; exact tX1_pass_17 ih v0 v1 v3 h q
def wX1_pass_15 : List En := [(.iconst 0, 0, 0, 0), (.istore_n 3, 0, 0, 0)]
def fX1_pass_15 (v0 : Nat) (v1 : Nat) (h : aH) : Option (aH) :=
  lX1_pass_17 FU v0 v1 (kI 0) h
theorem tX1_pass_15 {d : Nat} {z : aH} (v0 : Nat) (v1 : Nat) (h : aH) (hf : fX1_pass_15 v0 v1 h = some z) : Ev (d + 3) none mX1_pass (0, 0) 15 [.ref v0, .ref v1, .null, .null] [] h (QV z) := 
  go_ok (X := none) (blk := wX1_pass_15) (np := 17) (tt := 0) (kN := fun xs h st => app [2, 2, 0, 1] (fun v0 v1 v3 => apS [] (lX1_pass_17 FU v0 v1 v3 h) st) xs) (kT := fun _ _ _ => none) (kR := kRV)
    (fun xs h st q => jm [2, 2, 0, 1] _ (fun v0 v1 v3 q => apS_ok [] _ (fun st => Ev (d + 3) none mX1_pass (0, 0) 17 [.ref v0, .ref v1, .null, .int v3] st h (QV z)) st (fun q => uX1_pass_17 FU v0 v1 v3 h q) q) q)
    (fun _ _ _ q => nos q)
    kRV_ok (Or.inr rfl) (by decide +kernel) (by decide +kernel) hf
theorem kqX1_pass_12 : okC mX1_pass 12 (.invokevirtual 49) 83 72 0 5 = true := by decide +kernel
def fX1_pass_12 (v0 : Nat) (v1 : Nat) (s0 : Int32) (s1 : Int32) (s2 : Int32) (s3 : Nat) (s4 : Nat) (s5 : Nat) (h : aH) : Option (aH) :=
  (isO h 6 s5).bind fun _ =>
  (gX6_hold s5 s4 s3 s2 s1 s0 h).bind fun r =>
  fX1_pass_15 v0 v1 r
theorem tX1_pass_12 {d : Nat} {z : aH} (v0 : Nat) (v1 : Nat) (s0 : Int32) (s1 : Int32) (s2 : Int32) (s3 : Nat) (s4 : Nat) (s5 : Nat) (h : aH) (hf : fX1_pass_12 v0 v1 s0 s1 s2 s3 s4 s5 h = some z) : Ev (d + 3) none mX1_pass (0, 0) 12 [.ref v0, .ref v1, .null, .null] [.int s0, .int s1, .int s2, .ref s3, .ref s4, .ref s5] h (QV z) := by
  obtain ⟨_, h1, hf⟩ := bnd hf
  obtain ⟨fs, ho⟩ := isO_ok h1
  obtain ⟨r, h2, hf⟩ := bnd hf
  refine ev_V kqX1_pass_12 jX6_hold (zX6_hold (d := d + 0) h2) ho rfl rfl (Nat.le_of_ble_eq_true rfl) rfl (as := [.ref s4, .ref s3, .int s2, .int s1, .int s0]) (rest := []) rfl (Nat.le_of_ble_eq_true rfl) (fun _ _ hq => ?_)
  obtain ⟨rfl, hh⟩ := hq
  rw [hh]
  exact jm [2, 2, 0, 0] (fun v0 v1 => fX1_pass_15 v0 v1 r) (fun v0 v1 q => tX1_pass_15 v0 v1 r q) hf
def wX1_pass_0 : List En := [(.aload_n 0, 0, 0, 0), (.getfield 21, 49, 1, 1), (.aload_n 1, 0, 0, 0), (.aload_n 0, 0, 0, 0), (.getfield 12, 47, 1, 0), (.iconst 0, 0, 0, 0), (.iconst 0, 0, 0, 0), (.iload_n 2, 0, 0, 0)]
def fX1_pass_0 (v0 : Nat) (v1 : Nat) (v2 : Int32) (h : aH) : Option (aH) :=
  (gFR h 1 v0 1).bind fun t1 =>
  (gFR h 1 v0 0).bind fun t2 =>
  fX1_pass_12 v0 v1 v2 (kI 0) (kI 0) t2 v1 t1 h
theorem tX1_pass_0 {d : Nat} {z : aH} (v0 : Nat) (v1 : Nat) (v2 : Int32) (h : aH) (hf : fX1_pass_0 v0 v1 v2 h = some z) : Ev (d + 3) none mX1_pass (0, 0) 0 [.ref v0, .ref v1, .int v2, .null] [] h (QV z) := 
  go_ok (X := none) (blk := wX1_pass_0) (np := 12) (tt := 0) (kN := fun xs h st => app [2, 2, 0, 0] (fun v0 v1 => apS [1, 1, 1, 2, 2, 2] (fun s0 s1 s2 s3 s4 s5 => fX1_pass_12 v0 v1 s0 s1 s2 s3 s4 s5 h) st) xs) (kT := fun _ _ _ => none) (kR := kRV)
    (fun xs h st q => jm [2, 2, 0, 0] _ (fun v0 v1 q => apS_ok [1, 1, 1, 2, 2, 2] _ (fun st => Ev (d + 3) none mX1_pass (0, 0) 12 [.ref v0, .ref v1, .null, .null] st h (QV z)) st (fun s0 s1 s2 s3 s4 s5 q => tX1_pass_12 v0 v1 s0 s1 s2 s3 s4 s5 h q) q) q)
    (fun _ _ _ q => nos q)
    kRV_ok (Or.inr rfl) (by decide +kernel) (by decide +kernel) hf
def gX1_pass (v0 : Nat) (v1 : Nat) (v2 : Int32) (h : aH) : Option (aH) := fX1_pass_0 v0 v1 v2 h
theorem zX1_pass {d : Nat} {z : aH} {v0 : Nat} {v1 : Nat} {v2 : Int32} {h : aH} (q : gX1_pass v0 v1 v2 h = some z) : CT (d + 3) mX1_pass (0, 0) [.ref v0, .ref v1, .int v2] h (QV z) :=
  ct_ev (by decide +kernel) (Nat.le_of_ble_eq_true rfl) QV_r (jm [2, 2, 1, 0] (fun v0 v1 v2 => fX1_pass_0 v0 v1 v2 h) (fun v0 v1 v2 q => tX1_pass_0 v0 v1 v2 h q) q)
def wX7_copy_43 : List En := [(.aload_n 0, 0, 0, 0), (.aload_n 1, 0, 0, 0), (.getfield 47, 26, 7, 3), (.putfield 47, 26, 7, 3), (.aload_n 0, 0, 0, 0), (.aload_n 1, 0, 0, 0), (.getfield 50, 29, 7, 4), (.putfield 50, 29, 7, 4), (.aload_n 0, 0, 0, 0), (.aload_n 1, 0, 0, 0), (.getfield 53, 32, 7, 5), (.putfield 53, 32, 7, 5), (.aload_n 0, 0, 0, 0), (.aload_n 1, 0, 0, 0), (.getfield 56, 34, 7, 6), (.putfield 56, 34, 7, 6), (.return_, 0, 0, 0)]
def fX7_copy_43 (v0 : Nat) (v1 : Nat) (h : aH) : Option (aH) :=
  (gFI h 7 v1 3).bind fun t1 =>
  (pWV h 7 v0 3 (.int t1)).bind fun h2 =>
  (gFI h2 7 v1 4).bind fun t3 =>
  (pWV h2 7 v0 4 (.int t3)).bind fun h4 =>
  (gFI h4 7 v1 5).bind fun t5 =>
  (pWV h4 7 v0 5 (.int t5)).bind fun h6 =>
  (gFI h6 7 v1 6).bind fun t7 =>
  (pWV h6 7 v0 6 (.int t7)).bind fun h8 =>
  some h8
theorem tX7_copy_43 {d : Nat} {z : aH} (v0 : Nat) (v1 : Nat) (h : aH) (hf : fX7_copy_43 v0 v1 h = some z) : Ev (d + 1) none mX7_copy (0, 0) 43 [.ref v0, .ref v1] [] h (QV z) := 
  go_ok (X := none) (blk := wX7_copy_43) (np := 76) (tt := 0) (kN := fun _ _ _ => none) (kT := fun _ _ _ => none) (kR := kRV)
    (fun _ _ _ q => nos q)
    (fun _ _ _ q => nos q)
    kRV_ok (Or.inr rfl) (by decide +kernel) (by decide +kernel) hf
theorem kqX7_copy_40 : ckP mX7_copy 40 24 3 12 = true := by decide +kernel
def fX7_copy_40 (v0 : Nat) (v1 : Nat) (s0 : Int32) (s1 : Int32) (s2 : Nat) (s3 : Int32) (s4 : Nat) (h : aH) : Option (aH) :=
  (aCp h s4 s3 s2 s1 s0).bind fun r =>
  fX7_copy_43 v0 v1 r
theorem tX7_copy_40 {d : Nat} {z : aH} (v0 : Nat) (v1 : Nat) (s0 : Int32) (s1 : Int32) (s2 : Nat) (s3 : Int32) (s4 : Nat) (h : aH) (hf : fX7_copy_40 v0 v1 s0 s1 s2 s3 s4 h = some z) : Ev (d + 1) none mX7_copy (0, 0) 40 [.ref v0, .ref v1] [.int s0, .int s1, .ref s2, .int s3, .ref s4] h (QV z) := by
  obtain ⟨r, h2, hf⟩ := bnd hf
  obtain ⟨ys, zs, e0, e1, rfl, rfl, rfl, hz, hn, rfl⟩ := aCp_ok h2
  exact ev_cp kqX7_copy_40 e0 e1 rfl hz hn rfl (Nat.le_of_ble_eq_true rfl) (jm [2, 2] (fun v0 v1 => fX7_copy_43 v0 v1 _) (fun v0 v1 q => tX7_copy_43 v0 v1 _ q) hf)
def wX7_copy_28 : List En := [(.aload_n 1, 0, 0, 0), (.getfield 18, 23, 7, 2), (.iconst 0, 0, 0, 0), (.aload_n 0, 0, 0, 0), (.getfield 18, 23, 7, 2), (.iconst 0, 0, 0, 0), (.bipush 8, 0, 0, 0)]
def fX7_copy_28 (v0 : Nat) (v1 : Nat) (h : aH) : Option (aH) :=
  (gFR h 7 v1 2).bind fun t1 =>
  (gFR h 7 v0 2).bind fun t2 =>
  fX7_copy_40 v0 v1 (kB 8) (kI 0) t2 (kI 0) t1 h
theorem tX7_copy_28 {d : Nat} {z : aH} (v0 : Nat) (v1 : Nat) (h : aH) (hf : fX7_copy_28 v0 v1 h = some z) : Ev (d + 1) none mX7_copy (0, 0) 28 [.ref v0, .ref v1] [] h (QV z) := 
  go_ok (X := none) (blk := wX7_copy_28) (np := 40) (tt := 0) (kN := fun xs h st => app [2, 2] (fun v0 v1 => apS [1, 1, 2, 1, 2] (fun s0 s1 s2 s3 s4 => fX7_copy_40 v0 v1 s0 s1 s2 s3 s4 h) st) xs) (kT := fun _ _ _ => none) (kR := kRV)
    (fun xs h st q => jm [2, 2] _ (fun v0 v1 q => apS_ok [1, 1, 2, 1, 2] _ (fun st => Ev (d + 1) none mX7_copy (0, 0) 40 [.ref v0, .ref v1] st h (QV z)) st (fun s0 s1 s2 s3 s4 q => tX7_copy_40 v0 v1 s0 s1 s2 s3 s4 h q) q) q)
    (fun _ _ _ q => nos q)
    kRV_ok (Or.inr rfl) (by decide +kernel) (by decide +kernel) hf
theorem kqX7_copy_25 : ckP mX7_copy 25 24 3 12 = true := by decide +kernel
def fX7_copy_25 (v0 : Nat) (v1 : Nat) (s0 : Int32) (s1 : Int32) (s2 : Nat) (s3 : Int32) (s4 : Nat) (h : aH) : Option (aH) :=
  (aCp h s4 s3 s2 s1 s0).bind fun r =>
  fX7_copy_28 v0 v1 r
theorem tX7_copy_25 {d : Nat} {z : aH} (v0 : Nat) (v1 : Nat) (s0 : Int32) (s1 : Int32) (s2 : Nat) (s3 : Int32) (s4 : Nat) (h : aH) (hf : fX7_copy_25 v0 v1 s0 s1 s2 s3 s4 h = some z) : Ev (d + 1) none mX7_copy (0, 0) 25 [.ref v0, .ref v1] [.int s0, .int s1, .ref s2, .int s3, .ref s4] h (QV z) := by
  obtain ⟨r, h2, hf⟩ := bnd hf
  obtain ⟨ys, zs, e0, e1, rfl, rfl, rfl, hz, hn, rfl⟩ := aCp_ok h2
  exact ev_cp kqX7_copy_25 e0 e1 rfl hz hn rfl (Nat.le_of_ble_eq_true rfl) (jm [2, 2] (fun v0 v1 => fX7_copy_28 v0 v1 _) (fun v0 v1 q => tX7_copy_28 v0 v1 _ q) hf)
def wX7_copy_14 : List En := [(.aload_n 1, 0, 0, 0), (.getfield 15, 21, 7, 1), (.iconst 0, 0, 0, 0), (.aload_n 0, 0, 0, 0), (.getfield 15, 21, 7, 1), (.iconst 0, 0, 0, 0), (.iconst 5, 0, 0, 0)]
def fX7_copy_14 (v0 : Nat) (v1 : Nat) (h : aH) : Option (aH) :=
  (gFR h 7 v1 1).bind fun t1 =>
  (gFR h 7 v0 1).bind fun t2 =>
  fX7_copy_25 v0 v1 (kI 5) (kI 0) t2 (kI 0) t1 h
theorem tX7_copy_14 {d : Nat} {z : aH} (v0 : Nat) (v1 : Nat) (h : aH) (hf : fX7_copy_14 v0 v1 h = some z) : Ev (d + 1) none mX7_copy (0, 0) 14 [.ref v0, .ref v1] [] h (QV z) := 
  go_ok (X := none) (blk := wX7_copy_14) (np := 25) (tt := 0) (kN := fun xs h st => app [2, 2] (fun v0 v1 => apS [1, 1, 2, 1, 2] (fun s0 s1 s2 s3 s4 => fX7_copy_25 v0 v1 s0 s1 s2 s3 s4 h) st) xs) (kT := fun _ _ _ => none) (kR := kRV)
    (fun xs h st q => jm [2, 2] _ (fun v0 v1 q => apS_ok [1, 1, 2, 1, 2] _ (fun st => Ev (d + 1) none mX7_copy (0, 0) 25 [.ref v0, .ref v1] st h (QV z)) st (fun s0 s1 s2 s3 s4 q => tX7_copy_25 v0 v1 s0 s1 s2 s3 s4 h q) q) q)
    (fun _ _ _ q => nos q)
    kRV_ok (Or.inr rfl) (by decide +kernel) (by decide +kernel) hf
theorem kqX7_copy_11 : ckP mX7_copy 11 24 3 12 = true := by decide +kernel
def fX7_copy_11 (v0 : Nat) (v1 : Nat) (s0 : Int32) (s1 : Int32) (s2 : Nat) (s3 : Int32) (s4 : Nat) (h : aH) : Option (aH) :=
  (aCp h s4 s3 s2 s1 s0).bind fun r =>
  fX7_copy_14 v0 v1 r
theorem tX7_copy_11 {d : Nat} {z : aH} (v0 : Nat) (v1 : Nat) (s0 : Int32) (s1 : Int32) (s2 : Nat) (s3 : Int32) (s4 : Nat) (h : aH) (hf : fX7_copy_11 v0 v1 s0 s1 s2 s3 s4 h = some z) : Ev (d + 1) none mX7_copy (0, 0) 11 [.ref v0, .ref v1] [.int s0, .int s1, .ref s2, .int s3, .ref s4] h (QV z) := by
  obtain ⟨r, h2, hf⟩ := bnd hf
  obtain ⟨ys, zs, e0, e1, rfl, rfl, rfl, hz, hn, rfl⟩ := aCp_ok h2
  exact ev_cp kqX7_copy_11 e0 e1 rfl hz hn rfl (Nat.le_of_ble_eq_true rfl) (jm [2, 2] (fun v0 v1 => fX7_copy_14 v0 v1 _) (fun v0 v1 q => tX7_copy_14 v0 v1 _ q) hf)
def wX7_copy_0 : List En := [(.aload_n 1, 0, 0, 0), (.getfield 9, 18, 7, 0), (.iconst 0, 0, 0, 0), (.aload_n 0, 0, 0, 0), (.getfield 9, 18, 7, 0), (.iconst 0, 0, 0, 0), (.iconst 5, 0, 0, 0)]
def fX7_copy_0 (v0 : Nat) (v1 : Nat) (h : aH) : Option (aH) :=
  (gFR h 7 v1 0).bind fun t1 =>
  (gFR h 7 v0 0).bind fun t2 =>
  fX7_copy_11 v0 v1 (kI 5) (kI 0) t2 (kI 0) t1 h
theorem tX7_copy_0 {d : Nat} {z : aH} (v0 : Nat) (v1 : Nat) (h : aH) (hf : fX7_copy_0 v0 v1 h = some z) : Ev (d + 1) none mX7_copy (0, 0) 0 [.ref v0, .ref v1] [] h (QV z) := 
  go_ok (X := none) (blk := wX7_copy_0) (np := 11) (tt := 0) (kN := fun xs h st => app [2, 2] (fun v0 v1 => apS [1, 1, 2, 1, 2] (fun s0 s1 s2 s3 s4 => fX7_copy_11 v0 v1 s0 s1 s2 s3 s4 h) st) xs) (kT := fun _ _ _ => none) (kR := kRV)
    (fun xs h st q => jm [2, 2] _ (fun v0 v1 q => apS_ok [1, 1, 2, 1, 2] _ (fun st => Ev (d + 1) none mX7_copy (0, 0) 11 [.ref v0, .ref v1] st h (QV z)) st (fun s0 s1 s2 s3 s4 q => tX7_copy_11 v0 v1 s0 s1 s2 s3 s4 h q) q) q)
    (fun _ _ _ q => nos q)
    kRV_ok (Or.inr rfl) (by decide +kernel) (by decide +kernel) hf
def gX7_copy (v0 : Nat) (v1 : Nat) (h : aH) : Option (aH) := fX7_copy_0 v0 v1 h
theorem zX7_copy {d : Nat} {z : aH} {v0 : Nat} {v1 : Nat} {h : aH} (q : gX7_copy v0 v1 h = some z) : CT (d + 1) mX7_copy (0, 0) [.ref v0, .ref v1] h (QV z) :=
  ct_ev (by decide +kernel) (Nat.le_of_ble_eq_true rfl) QV_r (jm [2, 2] (fun v0 v1 => fX7_copy_0 v0 v1 h) (fun v0 v1 q => tX7_copy_0 v0 v1 h q) q)
def wX1_start_24 : List En := [(.aload_n 0, 0, 0, 0), (.iconst 0, 0, 0, 0), (.putfield 42, 55, 1, 4), (.aload_n 0, 0, 0, 0), (.iconst 0, 0, 0, 0), (.putfield 46, 57, 1, 5), (.return_, 0, 0, 0)]
def fX1_start_24 (v0 : Nat) (h : aH) : Option (aH) :=
  (pWV h 1 v0 4 (.int (kI 0))).bind fun h1 =>
  (pWV h1 1 v0 5 (.int (kI 0))).bind fun h2 =>
  some h2
theorem tX1_start_24 {d : Nat} {z : aH} (v0 : Nat) (h : aH) (hf : fX1_start_24 v0 h = some z) : Ev (d + 2) none mX1_start (0, 0) 24 [.ref v0, .null] [] h (QV z) := 
  go_ok (X := none) (blk := wX1_start_24) (np := 35) (tt := 0) (kN := fun _ _ _ => none) (kT := fun _ _ _ => none) (kR := kRV)
    (fun _ _ _ q => nos q)
    (fun _ _ _ q => nos q)
    kRV_ok (Or.inr rfl) (by decide +kernel) (by decide +kernel) hf
theorem kqX1_start_21 : okC mX1_start 21 (.invokestatic 36) 57 70 1 2 = true := by decide +kernel
def fX1_start_21 (v0 : Nat) (s0 : Int32) (s1 : Nat) (h : aH) : Option (aH) :=
  (gJ7_fill_53178 s1 s0 h).bind fun r =>
  fX1_start_24 v0 r
theorem tX1_start_21 {d : Nat} {z : aH} (v0 : Nat) (s0 : Int32) (s1 : Nat) (h : aH) (hf : fX1_start_21 v0 s0 s1 h = some z) : Ev (d + 2) none mX1_start (0, 0) 21 [.ref v0, .null] [.int s0, .ref s1] h (QV z) := by
  obtain ⟨r, h2, hf⟩ := bnd hf
  refine ev_S kqX1_start_21 jJ7_fill_53178 (zJ7_fill_53178 (d := d + 1) h2) rfl (Nat.le_of_ble_eq_true rfl) rfl (as := [.ref s1, .int s0]) (rest := []) rfl (Nat.le_of_ble_eq_true rfl) (fun _ _ hq => ?_)
  obtain ⟨rfl, hh⟩ := hq
  rw [hh]
  exact jm [2, 0] (fun v0 => fX1_start_24 v0 r) (fun v0 q => tX1_start_24 v0 r q) hf
def wX1_start_16 : List En := [(.aload_n 0, 0, 0, 0), (.getfield 29, 53, 1, 3), (.iconst 0, 0, 0, 0)]
def fX1_start_16 (v0 : Nat) (h : aH) : Option (aH) :=
  (gFR h 1 v0 3).bind fun t1 =>
  fX1_start_21 v0 (kI 0) t1 h
theorem tX1_start_16 {d : Nat} {z : aH} (v0 : Nat) (h : aH) (hf : fX1_start_16 v0 h = some z) : Ev (d + 2) none mX1_start (0, 0) 16 [.ref v0, .null] [] h (QV z) := 
  go_ok (X := none) (blk := wX1_start_16) (np := 21) (tt := 0) (kN := fun xs h st => app [2, 0] (fun v0 => apS [1, 2] (fun s0 s1 => fX1_start_21 v0 s0 s1 h) st) xs) (kT := fun _ _ _ => none) (kR := kRV)
    (fun xs h st q => jm [2, 0] _ (fun v0 q => apS_ok [1, 2] _ (fun st => Ev (d + 2) none mX1_start (0, 0) 21 [.ref v0, .null] st h (QV z)) st (fun s0 s1 q => tX1_start_21 v0 s0 s1 h q) q) q)
    (fun _ _ _ q => nos q)
    kRV_ok (Or.inr rfl) (by decide +kernel) (by decide +kernel) hf
theorem kqX1_start_13 : okC mX1_start 13 (.invokestatic 36) 57 70 1 2 = true := by decide +kernel
def fX1_start_13 (v0 : Nat) (s0 : Int32) (s1 : Nat) (h : aH) : Option (aH) :=
  (gJ7_fill_53178 s1 s0 h).bind fun r =>
  fX1_start_16 v0 r
theorem tX1_start_13 {d : Nat} {z : aH} (v0 : Nat) (s0 : Int32) (s1 : Nat) (h : aH) (hf : fX1_start_13 v0 s0 s1 h = some z) : Ev (d + 2) none mX1_start (0, 0) 13 [.ref v0, .null] [.int s0, .ref s1] h (QV z) := by
  obtain ⟨r, h2, hf⟩ := bnd hf
  refine ev_S kqX1_start_13 jJ7_fill_53178 (zJ7_fill_53178 (d := d + 1) h2) rfl (Nat.le_of_ble_eq_true rfl) rfl (as := [.ref s1, .int s0]) (rest := []) rfl (Nat.le_of_ble_eq_true rfl) (fun _ _ hq => ?_)
  obtain ⟨rfl, hh⟩ := hq
  rw [hh]
  exact jm [2, 0] (fun v0 => fX1_start_16 v0 r) (fun v0 q => tX1_start_16 v0 r q) hf
def wX1_start_8 : List En := [(.aload_n 0, 0, 0, 0), (.getfield 25, 51, 1, 2), (.iconst 0, 0, 0, 0)]
def fX1_start_8 (v0 : Nat) (h : aH) : Option (aH) :=
  (gFR h 1 v0 2).bind fun t1 =>
  fX1_start_13 v0 (kI 0) t1 h
theorem tX1_start_8 {d : Nat} {z : aH} (v0 : Nat) (h : aH) (hf : fX1_start_8 v0 h = some z) : Ev (d + 2) none mX1_start (0, 0) 8 [.ref v0, .null] [] h (QV z) := 
  go_ok (X := none) (blk := wX1_start_8) (np := 13) (tt := 0) (kN := fun xs h st => app [2, 0] (fun v0 => apS [1, 2] (fun s0 s1 => fX1_start_13 v0 s0 s1 h) st) xs) (kT := fun _ _ _ => none) (kR := kRV)
    (fun xs h st q => jm [2, 0] _ (fun v0 q => apS_ok [1, 2] _ (fun st => Ev (d + 2) none mX1_start (0, 0) 13 [.ref v0, .null] st h (QV z)) st (fun s0 s1 q => tX1_start_13 v0 s0 s1 h q) q) q)
    (fun _ _ _ q => nos q)
    kRV_ok (Or.inr rfl) (by decide +kernel) (by decide +kernel) hf
theorem kqX1_start_5 : okC mX1_start 5 (.invokevirtual 32) 81 69 0 1 = true := by decide +kernel
def fX1_start_5 (v0 : Nat) (s0 : Nat) (s1 : Nat) (h : aH) : Option (aH) :=
  (isO h 7 s1).bind fun _ =>
  (gX7_copy s1 s0 h).bind fun r =>
  fX1_start_8 v0 r
theorem tX1_start_5 {d : Nat} {z : aH} (v0 : Nat) (s0 : Nat) (s1 : Nat) (h : aH) (hf : fX1_start_5 v0 s0 s1 h = some z) : Ev (d + 2) none mX1_start (0, 0) 5 [.ref v0, .null] [.ref s0, .ref s1] h (QV z) := by
  obtain ⟨_, h1, hf⟩ := bnd hf
  obtain ⟨fs, ho⟩ := isO_ok h1
  obtain ⟨r, h2, hf⟩ := bnd hf
  refine ev_V kqX1_start_5 jX7_copy (zX7_copy (d := d + 0) h2) ho rfl rfl (Nat.le_of_ble_eq_true rfl) rfl (as := [.ref s0]) (rest := []) rfl (Nat.le_of_ble_eq_true rfl) (fun _ _ hq => ?_)
  obtain ⟨rfl, hh⟩ := hq
  rw [hh]
  exact jm [2, 0] (fun v0 => fX1_start_8 v0 r) (fun v0 q => tX1_start_8 v0 r q) hf
def wX1_start_0 : List En := [(.aload_n 0, 0, 0, 0), (.getfield 12, 47, 1, 0), (.aload_n 1, 0, 0, 0)]
def fX1_start_0 (v0 : Nat) (v1 : Nat) (h : aH) : Option (aH) :=
  (gFR h 1 v0 0).bind fun t1 =>
  fX1_start_5 v0 v1 t1 h
theorem tX1_start_0 {d : Nat} {z : aH} (v0 : Nat) (v1 : Nat) (h : aH) (hf : fX1_start_0 v0 v1 h = some z) : Ev (d + 2) none mX1_start (0, 0) 0 [.ref v0, .ref v1] [] h (QV z) := 
  go_ok (X := none) (blk := wX1_start_0) (np := 5) (tt := 0) (kN := fun xs h st => app [2, 0] (fun v0 => apS [2, 2] (fun s0 s1 => fX1_start_5 v0 s0 s1 h) st) xs) (kT := fun _ _ _ => none) (kR := kRV)
    (fun xs h st q => jm [2, 0] _ (fun v0 q => apS_ok [2, 2] _ (fun st => Ev (d + 2) none mX1_start (0, 0) 5 [.ref v0, .null] st h (QV z)) st (fun s0 s1 q => tX1_start_5 v0 s0 s1 h q) q) q)
    (fun _ _ _ q => nos q)
    kRV_ok (Or.inr rfl) (by decide +kernel) (by decide +kernel) hf
def gX1_start (v0 : Nat) (v1 : Nat) (h : aH) : Option (aH) := fX1_start_0 v0 v1 h
theorem zX1_start {d : Nat} {z : aH} {v0 : Nat} {v1 : Nat} {h : aH} (q : gX1_start v0 v1 h = some z) : CT (d + 2) mX1_start (0, 0) [.ref v0, .ref v1] h (QV z) :=
  ct_ev (by decide +kernel) (Nat.le_of_ble_eq_true rfl) QV_r (jm [2, 2] (fun v0 v1 => fX1_start_0 v0 v1 h) (fun v0 v1 q => tX1_start_0 v0 v1 h q) q)
def wX1_walk_29 : List En := [(.return_, 0, 0, 0)]
def fX1_walk_29 (h : aH) : Option (aH) :=
  some h
theorem tX1_walk_29 {d : Nat} {z : aH} (h : aH) (hf : fX1_walk_29 h = some z) : Ev (d + 4) none mX1_walk (0, 0) 29 [.null, .null, .null, .null, .null] [] h (QV z) := 
  go_ok (X := none) (blk := wX1_walk_29) (np := 30) (tt := 0) (kN := fun _ _ _ => none) (kT := fun _ _ _ => none) (kR := kRV)
    (fun _ _ _ q => nos q)
    (fun _ _ _ q => nos q)
    kRV_ok (Or.inr rfl) (by decide +kernel) (by decide +kernel) hf
def wX1_walk_23 : List En := [(.iinc 4 1, 0, 0, 0), (.goto (-18), 8, 0, 0)]
def fX1_walk_23 (k8 : Nat → Nat → Int32 → Int32 → aH → Option (aH)) (v0 : Nat) (v1 : Nat) (v3 : Int32) (v4 : Int32) (h : aH) : Option (aH) :=
  k8 v0 v1 v3 (v4 + kI 1) h
theorem tX1_walk_23 {d : Nat} {z : aH} {k8 : Nat → Nat → Int32 → Int32 → aH → Option (aH)} (hk8 : ∀ (v0 : Nat) (v1 : Nat) (v3 : Int32) (v4 : Int32) (h : aH), k8 v0 v1 v3 v4 h = some z → Ev (d + 4) none mX1_walk (0, 0) 8 [.ref v0, .ref v1, .null, .int v3, .int v4] [] h (QV z)) (v0 : Nat) (v1 : Nat) (v3 : Int32) (v4 : Int32) (h : aH) (hf : fX1_walk_23 k8 v0 v1 v3 v4 h = some z) : Ev (d + 4) none mX1_walk (0, 0) 23 [.ref v0, .ref v1, .null, .int v3, .int v4] [] h (QV z) := 
  go_ok (X := none) (blk := wX1_walk_23) (np := 29) (tt := 8) (kN := fun _ _ _ => none) (kT := fun xs h st => app [2, 2, 0, 1, 1] (fun v0 v1 v3 v4 => apS [] (k8 v0 v1 v3 v4 h) st) xs) (kR := kRV)
    (fun _ _ _ q => nos q)
    (fun xs h st q => jm [2, 2, 0, 1, 1] _ (fun v0 v1 v3 v4 q => apS_ok [] _ (fun st => Ev (d + 4) none mX1_walk (0, 0) 8 [.ref v0, .ref v1, .null, .int v3, .int v4] st h (QV z)) st (fun q => hk8 v0 v1 v3 v4 h q) q) q)
    kRV_ok (Or.inr rfl) (by decide +kernel) (by decide +kernel) hf
theorem kqX1_walk_20 : okC mX1_walk 20 (.invokevirtual 77) 82 71 0 2 = true := by decide +kernel
def fX1_walk_20 (k8 : Nat → Nat → Int32 → Int32 → aH → Option (aH)) (v0 : Nat) (v1 : Nat) (v3 : Int32) (v4 : Int32) (s0 : Int32) (s1 : Nat) (s2 : Nat) (h : aH) : Option (aH) :=
  (isO h 1 s2).bind fun _ =>
  (gX1_pass s2 s1 s0 h).bind fun r =>
  fX1_walk_23 k8 v0 v1 v3 v4 r
theorem tX1_walk_20 {d : Nat} {z : aH} {k8 : Nat → Nat → Int32 → Int32 → aH → Option (aH)} (hk8 : ∀ (v0 : Nat) (v1 : Nat) (v3 : Int32) (v4 : Int32) (h : aH), k8 v0 v1 v3 v4 h = some z → Ev (d + 4) none mX1_walk (0, 0) 8 [.ref v0, .ref v1, .null, .int v3, .int v4] [] h (QV z)) (v0 : Nat) (v1 : Nat) (v3 : Int32) (v4 : Int32) (s0 : Int32) (s1 : Nat) (s2 : Nat) (h : aH) (hf : fX1_walk_20 k8 v0 v1 v3 v4 s0 s1 s2 h = some z) : Ev (d + 4) none mX1_walk (0, 0) 20 [.ref v0, .ref v1, .null, .int v3, .int v4] [.int s0, .ref s1, .ref s2] h (QV z) := by
  obtain ⟨_, h1, hf⟩ := bnd hf
  obtain ⟨fs, ho⟩ := isO_ok h1
  obtain ⟨r, h2, hf⟩ := bnd hf
  refine ev_V kqX1_walk_20 jX1_pass (zX1_pass (d := d + 0) h2) ho rfl rfl (Nat.le_of_ble_eq_true rfl) rfl (as := [.ref s1, .int s0]) (rest := []) rfl (Nat.le_of_ble_eq_true rfl) (fun _ _ hq => ?_)
  obtain ⟨rfl, hh⟩ := hq
  rw [hh]
  exact jm [2, 2, 0, 1, 1] (fun v0 v1 v3 v4 => fX1_walk_23 k8 v0 v1 v3 v4 r) (fun v0 v1 v3 v4 q => tX1_walk_23 hk8 v0 v1 v3 v4 r q) hf
def wX1_walk_14 : List En := [(.aload_n 0, 0, 0, 0), (.aload_n 1, 0, 0, 0), (.aload_n 1, 0, 0, 0), (.getfield 74, 95, 9, 0)]
def fX1_walk_14 (k8 : Nat → Nat → Int32 → Int32 → aH → Option (aH)) (v0 : Nat) (v1 : Nat) (v3 : Int32) (v4 : Int32) (h : aH) : Option (aH) :=
  (gFI h 9 v1 0).bind fun t1 =>
  fX1_walk_20 k8 v0 v1 v3 v4 t1 v1 v0 h
theorem tX1_walk_14 {d : Nat} {z : aH} {k8 : Nat → Nat → Int32 → Int32 → aH → Option (aH)} (hk8 : ∀ (v0 : Nat) (v1 : Nat) (v3 : Int32) (v4 : Int32) (h : aH), k8 v0 v1 v3 v4 h = some z → Ev (d + 4) none mX1_walk (0, 0) 8 [.ref v0, .ref v1, .null, .int v3, .int v4] [] h (QV z)) (v0 : Nat) (v1 : Nat) (v3 : Int32) (v4 : Int32) (h : aH) (hf : fX1_walk_14 k8 v0 v1 v3 v4 h = some z) : Ev (d + 4) none mX1_walk (0, 0) 14 [.ref v0, .ref v1, .null, .int v3, .int v4] [] h (QV z) := 
  go_ok (X := none) (blk := wX1_walk_14) (np := 20) (tt := 0) (kN := fun xs h st => app [2, 2, 0, 1, 1] (fun v0 v1 v3 v4 => apS [1, 2, 2] (fun s0 s1 s2 => fX1_walk_20 k8 v0 v1 v3 v4 s0 s1 s2 h) st) xs) (kT := fun _ _ _ => none) (kR := kRV)
    (fun xs h st q => jm [2, 2, 0, 1, 1] _ (fun v0 v1 v3 v4 q => apS_ok [1, 2, 2] _ (fun st => Ev (d + 4) none mX1_walk (0, 0) 20 [.ref v0, .ref v1, .null, .int v3, .int v4] st h (QV z)) st (fun s0 s1 s2 q => tX1_walk_20 hk8 v0 v1 v3 v4 s0 s1 s2 h q) q) q)
    (fun _ _ _ q => nos q)
    kRV_ok (Or.inr rfl) (by decide +kernel) (by decide +kernel) hf
def wX1_walk_8 : List En := [(.iload 4, 0, 0, 0), (.iload_n 3, 0, 0, 0), (.if_icmp .ge 18, 29, 0, 0)]
def fX1_walk_8 (k8 : Nat → Nat → Int32 → Int32 → aH → Option (aH)) (v0 : Nat) (v1 : Nat) (v3 : Int32) (v4 : Int32) (h : aH) : Option (aH) :=
  if v4 < v3 then fX1_walk_14 k8 v0 v1 v3 v4 h else fX1_walk_29 h
theorem tX1_walk_8 {d : Nat} {z : aH} {k8 : Nat → Nat → Int32 → Int32 → aH → Option (aH)} (hk8 : ∀ (v0 : Nat) (v1 : Nat) (v3 : Int32) (v4 : Int32) (h : aH), k8 v0 v1 v3 v4 h = some z → Ev (d + 4) none mX1_walk (0, 0) 8 [.ref v0, .ref v1, .null, .int v3, .int v4] [] h (QV z)) (v0 : Nat) (v1 : Nat) (v3 : Int32) (v4 : Int32) (h : aH) (hf : fX1_walk_8 k8 v0 v1 v3 v4 h = some z) : Ev (d + 4) none mX1_walk (0, 0) 8 [.ref v0, .ref v1, .null, .int v3, .int v4] [] h (QV z) := 
  go_ok (X := none) (blk := wX1_walk_8) (np := 14) (tt := 29) (kN := fun xs h st => app [2, 2, 0, 1, 1] (fun v0 v1 v3 v4 => apS [] (fX1_walk_14 k8 v0 v1 v3 v4 h) st) xs) (kT := fun xs h st => app [0, 0, 0, 0, 0] (apS [] (fX1_walk_29 h) st) xs) (kR := kRV)
    (fun xs h st q => jm [2, 2, 0, 1, 1] _ (fun v0 v1 v3 v4 q => apS_ok [] _ (fun st => Ev (d + 4) none mX1_walk (0, 0) 14 [.ref v0, .ref v1, .null, .int v3, .int v4] st h (QV z)) st (fun q => tX1_walk_14 hk8 v0 v1 v3 v4 h q) q) q)
    (fun xs h st q => jm [0, 0, 0, 0, 0] _ (fun q => apS_ok [] _ (fun st => Ev (d + 4) none mX1_walk (0, 0) 29 [.null, .null, .null, .null, .null] st h (QV z)) st (fun q => tX1_walk_29 h q) q) q)
    kRV_ok (Or.inr rfl) (by decide +kernel) (by decide +kernel) hf
def lX1_walk_8 : Nat → Nat → Nat → Int32 → Int32 → aH → Option (aH)
  | 0, _, _, _, _, _ => none
  | n + 1, v0, v1, v3, v4, h => fX1_walk_8 (lX1_walk_8 n) v0 v1 v3 v4 h
theorem uX1_walk_8 {d : Nat} {z : aH} : ∀ (n : Nat) (v0 : Nat) (v1 : Nat) (v3 : Int32) (v4 : Int32) (h : aH), lX1_walk_8 n v0 v1 v3 v4 h = some z → Ev (d + 4) none mX1_walk (0, 0) 8 [.ref v0, .ref v1, .null, .int v3, .int v4] [] h (QV z) := by
  intro n
  induction n with
  | zero => intro _ _ _ _ _ q; exact nos (show (none : Option (aH)) = some z from q)
  | succ n ih => intro v0 v1 v3 v4 h q; exact tX1_walk_8 ih v0 v1 v3 v4 h q
def wX1_walk_5 : List En := [(.iconst 0, 0, 0, 0), (.istore 4, 0, 0, 0)]
def fX1_walk_5 (v0 : Nat) (v1 : Nat) (v3 : Int32) (h : aH) : Option (aH) :=
  lX1_walk_8 FU v0 v1 v3 (kI 0) h
theorem tX1_walk_5 {d : Nat} {z : aH} (v0 : Nat) (v1 : Nat) (v3 : Int32) (h : aH) (hf : fX1_walk_5 v0 v1 v3 h = some z) : Ev (d + 4) none mX1_walk (0, 0) 5 [.ref v0, .ref v1, .null, .int v3, .null] [] h (QV z) := 
  go_ok (X := none) (blk := wX1_walk_5) (np := 8) (tt := 0) (kN := fun xs h st => app [2, 2, 0, 1, 1] (fun v0 v1 v3 v4 => apS [] (lX1_walk_8 FU v0 v1 v3 v4 h) st) xs) (kT := fun _ _ _ => none) (kR := kRV)
    (fun xs h st q => jm [2, 2, 0, 1, 1] _ (fun v0 v1 v3 v4 q => apS_ok [] _ (fun st => Ev (d + 4) none mX1_walk (0, 0) 8 [.ref v0, .ref v1, .null, .int v3, .int v4] st h (QV z)) st (fun q => uX1_walk_8 FU v0 v1 v3 v4 h q) q) q)
    (fun _ _ _ q => nos q)
    kRV_ok (Or.inr rfl) (by decide +kernel) (by decide +kernel) hf
theorem kqX1_walk_2 : okC mX1_walk 2 (.invokevirtual 71) 80 68 0 1 = true := by decide +kernel
def fX1_walk_2 (v0 : Nat) (v1 : Nat) (v3 : Int32) (s0 : Nat) (s1 : Nat) (h : aH) : Option (aH) :=
  (isO h 1 s1).bind fun _ =>
  (gX1_start s1 s0 h).bind fun r =>
  fX1_walk_5 v0 v1 v3 r
theorem tX1_walk_2 {d : Nat} {z : aH} (v0 : Nat) (v1 : Nat) (v3 : Int32) (s0 : Nat) (s1 : Nat) (h : aH) (hf : fX1_walk_2 v0 v1 v3 s0 s1 h = some z) : Ev (d + 4) none mX1_walk (0, 0) 2 [.ref v0, .ref v1, .null, .int v3, .null] [.ref s0, .ref s1] h (QV z) := by
  obtain ⟨_, h1, hf⟩ := bnd hf
  obtain ⟨fs, ho⟩ := isO_ok h1
  obtain ⟨r, h2, hf⟩ := bnd hf
  refine ev_V kqX1_walk_2 jX1_start (zX1_start (d := d + 1) h2) ho rfl rfl (Nat.le_of_ble_eq_true rfl) rfl (as := [.ref s0]) (rest := []) rfl (Nat.le_of_ble_eq_true rfl) (fun _ _ hq => ?_)
  obtain ⟨rfl, hh⟩ := hq
  rw [hh]
  exact jm [2, 2, 0, 1, 0] (fun v0 v1 v3 => fX1_walk_5 v0 v1 v3 r) (fun v0 v1 v3 q => tX1_walk_5 v0 v1 v3 r q) hf
def wX1_walk_0 : List En := [(.aload_n 0, 0, 0, 0), (.aload_n 2, 0, 0, 0)]
def fX1_walk_0 (v0 : Nat) (v1 : Nat) (v2 : Nat) (v3 : Int32) (h : aH) : Option (aH) :=
  fX1_walk_2 v0 v1 v3 v2 v0 h
theorem tX1_walk_0 {d : Nat} {z : aH} (v0 : Nat) (v1 : Nat) (v2 : Nat) (v3 : Int32) (h : aH) (hf : fX1_walk_0 v0 v1 v2 v3 h = some z) : Ev (d + 4) none mX1_walk (0, 0) 0 [.ref v0, .ref v1, .ref v2, .int v3, .null] [] h (QV z) := 
  go_ok (X := none) (blk := wX1_walk_0) (np := 2) (tt := 0) (kN := fun xs h st => app [2, 2, 0, 1, 0] (fun v0 v1 v3 => apS [2, 2] (fun s0 s1 => fX1_walk_2 v0 v1 v3 s0 s1 h) st) xs) (kT := fun _ _ _ => none) (kR := kRV)
    (fun xs h st q => jm [2, 2, 0, 1, 0] _ (fun v0 v1 v3 q => apS_ok [2, 2] _ (fun st => Ev (d + 4) none mX1_walk (0, 0) 2 [.ref v0, .ref v1, .null, .int v3, .null] st h (QV z)) st (fun s0 s1 q => tX1_walk_2 v0 v1 v3 s0 s1 h q) q) q)
    (fun _ _ _ q => nos q)
    kRV_ok (Or.inr rfl) (by decide +kernel) (by decide +kernel) hf
def gX1_walk (v0 : Nat) (v1 : Nat) (v2 : Nat) (v3 : Int32) (h : aH) : Option (aH) := fX1_walk_0 v0 v1 v2 v3 h
theorem zX1_walk {d : Nat} {z : aH} {v0 : Nat} {v1 : Nat} {v2 : Nat} {v3 : Int32} {h : aH} (q : gX1_walk v0 v1 v2 v3 h = some z) : CT (d + 4) mX1_walk (0, 0) [.ref v0, .ref v1, .ref v2, .int v3] h (QV z) :=
  ct_ev (by decide +kernel) (Nat.le_of_ble_eq_true rfl) QV_r (jm [2, 2, 2, 1, 0] (fun v0 v1 v2 v3 => fX1_walk_0 v0 v1 v2 v3 h) (fun v0 v1 v2 v3 q => tX1_walk_0 v0 v1 v2 v3 h q) q)
def wX10_share_43 : List En := [(.ireturn, 0, 0, 0)]
def fX10_share_43 (s0 : Int32) (h : aH) : Option (Int32 × aH) :=
  some (s0, h)
theorem tX10_share_43 {d : Nat} {z : Int32 × aH} (s0 : Int32) (h : aH) (hf : fX10_share_43 s0 h = some z) : Ev (d + 5) none mX10_share (0, 0) 43 [.null, .null] [.int s0] h (QI z) := 
  go_ok (X := none) (blk := wX10_share_43) (np := 44) (tt := 0) (kN := fun _ _ _ => none) (kT := fun _ _ _ => none) (kR := kRI)
    (fun _ _ _ q => nos q)
    (fun _ _ _ q => nos q)
    kRI_ok (Or.inr rfl) (by decide +kernel) (by decide +kernel) hf
theorem kqX10_share_40 : okC mX10_share 40 (.invokevirtual 119) 60 44 0 1 = true := by decide +kernel
def fX10_share_40 (s0 : Int32) (s1 : Nat) (h : aH) : Option (Int32 × aH) :=
  (isO h 10 s1).bind fun _ =>
  (gX10_answer s1 s0 h).bind fun r =>
  fX10_share_43 r.1 r.2
theorem tX10_share_40 {d : Nat} {z : Int32 × aH} (s0 : Int32) (s1 : Nat) (h : aH) (hf : fX10_share_40 s0 s1 h = some z) : Ev (d + 5) none mX10_share (0, 0) 40 [.null, .null] [.int s0, .ref s1] h (QI z) := by
  obtain ⟨_, h1, hf⟩ := bnd hf
  obtain ⟨fs, ho⟩ := isO_ok h1
  obtain ⟨r, h2, hf⟩ := bnd hf
  refine ev_V kqX10_share_40 jX10_answer (zX10_answer (d := d + 4) h2) ho rfl rfl (Nat.le_of_ble_eq_true rfl) rfl (as := [.int s0]) (rest := []) rfl (Nat.le_of_ble_eq_true rfl) (fun _ _ hq => ?_)
  obtain ⟨rfl, rfl⟩ := hq
  exact jm [0, 0] (fX10_share_43 r.1 r.2) (fun q => tX10_share_43 r.1 r.2 q) hf
def wX10_share_30 : List En := [(.aload_n 0, 0, 0, 0), (.aload_n 0, 0, 0, 0), (.getfield 19, 163, 10, 1), (.getfield 187, 52, 1, 2), (.iload_n 1, 0, 0, 0), (.iaload, 0, 0, 0)]
def fX10_share_30 (v0 : Nat) (v1 : Int32) (h : aH) : Option (Int32 × aH) :=
  (gFR h 10 v0 1).bind fun t1 =>
  (gFR h 1 t1 2).bind fun t2 =>
  (aRI (h[t2]?) v1).bind fun t3 =>
  fX10_share_40 t3 v0 h
theorem tX10_share_30 {d : Nat} {z : Int32 × aH} (v0 : Nat) (v1 : Int32) (h : aH) (hf : fX10_share_30 v0 v1 h = some z) : Ev (d + 5) none mX10_share (0, 0) 30 [.ref v0, .int v1] [] h (QI z) := 
  go_ok (X := none) (blk := wX10_share_30) (np := 40) (tt := 0) (kN := fun xs h st => app [0, 0] (apS [1, 2] (fun s0 s1 => fX10_share_40 s0 s1 h) st) xs) (kT := fun _ _ _ => none) (kR := kRI)
    (fun xs h st q => jm [0, 0] _ (fun q => apS_ok [1, 2] _ (fun st => Ev (d + 5) none mX10_share (0, 0) 40 [.null, .null] st h (QI z)) st (fun s0 s1 q => tX10_share_40 s0 s1 h q) q) q)
    (fun _ _ _ q => nos q)
    kRI_ok (Or.inr rfl) (by decide +kernel) (by decide +kernel) hf
theorem kqX10_share_27 : okC mX10_share 27 (.invokevirtual 183) 79 67 0 3 = true := by decide +kernel
def fX10_share_27 (v0 : Nat) (v1 : Int32) (s0 : Int32) (s1 : Nat) (s2 : Nat) (s3 : Nat) (h : aH) : Option (Int32 × aH) :=
  (isO h 1 s3).bind fun _ =>
  (gX1_walk s3 s2 s1 s0 h).bind fun r =>
  fX10_share_30 v0 v1 r
theorem tX10_share_27 {d : Nat} {z : Int32 × aH} (v0 : Nat) (v1 : Int32) (s0 : Int32) (s1 : Nat) (s2 : Nat) (s3 : Nat) (h : aH) (hf : fX10_share_27 v0 v1 s0 s1 s2 s3 h = some z) : Ev (d + 5) none mX10_share (0, 0) 27 [.ref v0, .int v1] [.int s0, .ref s1, .ref s2, .ref s3] h (QI z) := by
  obtain ⟨_, h1, hf⟩ := bnd hf
  obtain ⟨fs, ho⟩ := isO_ok h1
  obtain ⟨r, h2, hf⟩ := bnd hf
  refine ev_V kqX10_share_27 jX1_walk (zX1_walk (d := d + 0) h2) ho rfl rfl (Nat.le_of_ble_eq_true rfl) rfl (as := [.ref s2, .ref s1, .int s0]) (rest := []) rfl (Nat.le_of_ble_eq_true rfl) (fun _ _ hq => ?_)
  obtain ⟨rfl, hh⟩ := hq
  rw [hh]
  exact jm [2, 1] (fun v0 v1 => fX10_share_30 v0 v1 r) (fun v0 v1 q => tX10_share_30 v0 v1 r q) hf
def wX10_share_14 : List En := [(.aload_n 0, 0, 0, 0), (.getfield 19, 163, 10, 1), (.aload_n 0, 0, 0, 0), (.getfield 75, 171, 10, 9), (.aload_n 0, 0, 0, 0), (.getfield 68, 170, 10, 8), (.iconst 1, 0, 0, 0)]
def fX10_share_14 (v0 : Nat) (v1 : Int32) (h : aH) : Option (Int32 × aH) :=
  (gFR h 10 v0 1).bind fun t1 =>
  (gFR h 10 v0 9).bind fun t2 =>
  (gFR h 10 v0 8).bind fun t3 =>
  fX10_share_27 v0 v1 (kI 1) t3 t2 t1 h
theorem tX10_share_14 {d : Nat} {z : Int32 × aH} (v0 : Nat) (v1 : Int32) (h : aH) (hf : fX10_share_14 v0 v1 h = some z) : Ev (d + 5) none mX10_share (0, 0) 14 [.ref v0, .int v1] [] h (QI z) := 
  go_ok (X := none) (blk := wX10_share_14) (np := 27) (tt := 0) (kN := fun xs h st => app [2, 1] (fun v0 v1 => apS [1, 2, 2, 2] (fun s0 s1 s2 s3 => fX10_share_27 v0 v1 s0 s1 s2 s3 h) st) xs) (kT := fun _ _ _ => none) (kR := kRI)
    (fun xs h st q => jm [2, 1] _ (fun v0 v1 q => apS_ok [1, 2, 2, 2] _ (fun st => Ev (d + 5) none mX10_share (0, 0) 27 [.ref v0, .int v1] st h (QI z)) st (fun s0 s1 s2 s3 q => tX10_share_27 v0 v1 s0 s1 s2 s3 h q) q) q)
    (fun _ _ _ q => nos q)
    kRI_ok (Or.inr rfl) (by decide +kernel) (by decide +kernel) hf
def wX10_share_13 : List En := [(.ireturn, 0, 0, 0)]
def fX10_share_13 (s0 : Int32) (h : aH) : Option (Int32 × aH) :=
  some (s0, h)
theorem tX10_share_13 {d : Nat} {z : Int32 × aH} (s0 : Int32) (h : aH) (hf : fX10_share_13 s0 h = some z) : Ev (d + 5) none mX10_share (0, 0) 13 [.null, .null] [.int s0] h (QI z) := 
  go_ok (X := none) (blk := wX10_share_13) (np := 14) (tt := 0) (kN := fun _ _ _ => none) (kT := fun _ _ _ => none) (kR := kRI)
    (fun _ _ _ q => nos q)
    (fun _ _ _ q => nos q)
    kRI_ok (Or.inr rfl) (by decide +kernel) (by decide +kernel) hf
theorem kqX10_share_10 : okC mX10_share 10 (.invokevirtual 94) 15 8 0 1 = true := by decide +kernel
def fX10_share_10 (s0 : Int32) (s1 : Nat) (h : aH) : Option (Int32 × aH) :=
  (isO h 10 s1).bind fun _ =>
  (gX10_refuse s1 s0 h).bind fun r =>
  fX10_share_13 r.1 r.2
theorem tX10_share_10 {d : Nat} {z : Int32 × aH} (s0 : Int32) (s1 : Nat) (h : aH) (hf : fX10_share_10 s0 s1 h = some z) : Ev (d + 5) none mX10_share (0, 0) 10 [.null, .null] [.int s0, .ref s1] h (QI z) := by
  obtain ⟨_, h1, hf⟩ := bnd hf
  obtain ⟨fs, ho⟩ := isO_ok h1
  obtain ⟨r, h2, hf⟩ := bnd hf
  refine ev_V kqX10_share_10 jX10_refuse (zX10_refuse (d := d + 4) h2) ho rfl rfl (Nat.le_of_ble_eq_true rfl) rfl (as := [.int s0]) (rest := []) rfl (Nat.le_of_ble_eq_true rfl) (fun _ _ hq => ?_)
  obtain ⟨rfl, rfl⟩ := hq
  exact jm [0, 0] (fX10_share_13 r.1 r.2) (fun q => tX10_share_13 r.1 r.2 q) hf
def wX10_share_8 : List En := [(.aload_n 0, 0, 0, 0), (.iconst 1, 0, 0, 0)]
def fX10_share_8 (v0 : Nat) (h : aH) : Option (Int32 × aH) :=
  fX10_share_10 (kI 1) v0 h
theorem tX10_share_8 {d : Nat} {z : Int32 × aH} (v0 : Nat) (h : aH) (hf : fX10_share_8 v0 h = some z) : Ev (d + 5) none mX10_share (0, 0) 8 [.ref v0, .null] [] h (QI z) := 
  go_ok (X := none) (blk := wX10_share_8) (np := 10) (tt := 0) (kN := fun xs h st => app [0, 0] (apS [1, 2] (fun s0 s1 => fX10_share_10 s0 s1 h) st) xs) (kT := fun _ _ _ => none) (kR := kRI)
    (fun xs h st q => jm [0, 0] _ (fun q => apS_ok [1, 2] _ (fun st => Ev (d + 5) none mX10_share (0, 0) 10 [.null, .null] st h (QI z)) st (fun s0 s1 q => tX10_share_10 s0 s1 h q) q) q)
    (fun _ _ _ q => nos q)
    kRI_ok (Or.inr rfl) (by decide +kernel) (by decide +kernel) hf
def wX10_share_5 : List En := [(.ifCond .eq 9, 14, 0, 0)]
def fX10_share_5 (v0 : Nat) (v1 : Int32) (s0 : Int32) (h : aH) : Option (Int32 × aH) :=
  if s0 = 0 then fX10_share_14 v0 v1 h else fX10_share_8 v0 h
theorem tX10_share_5 {d : Nat} {z : Int32 × aH} (v0 : Nat) (v1 : Int32) (s0 : Int32) (h : aH) (hf : fX10_share_5 v0 v1 s0 h = some z) : Ev (d + 5) none mX10_share (0, 0) 5 [.ref v0, .int v1] [.int s0] h (QI z) := 
  go_ok (X := none) (blk := wX10_share_5) (np := 8) (tt := 14) (kN := fun xs h st => app [2, 0] (fun v0 => apS [] (fX10_share_8 v0 h) st) xs) (kT := fun xs h st => app [2, 1] (fun v0 v1 => apS [] (fX10_share_14 v0 v1 h) st) xs) (kR := kRI)
    (fun xs h st q => jm [2, 0] _ (fun v0 q => apS_ok [] _ (fun st => Ev (d + 5) none mX10_share (0, 0) 8 [.ref v0, .null] st h (QI z)) st (fun q => tX10_share_8 v0 h q) q) q)
    (fun xs h st q => jm [2, 1] _ (fun v0 v1 q => apS_ok [] _ (fun st => Ev (d + 5) none mX10_share (0, 0) 14 [.ref v0, .int v1] st h (QI z)) st (fun q => tX10_share_14 v0 v1 h q) q) q)
    kRI_ok (Or.inr rfl) (by decide +kernel) (by decide +kernel) hf
theorem kqX10_share_2 : okC mX10_share 2 (.invokevirtual 128) 64 48 0 1 = true := by decide +kernel
def fX10_share_2 (v0 : Nat) (v1 : Int32) (s0 : Int32) (s1 : Nat) (h : aH) : Option (Int32 × aH) :=
  (isO h 10 s1).bind fun _ =>
  (gX10_lacksPerson s1 s0 h).bind fun r =>
  fX10_share_5 v0 v1 r.1 r.2
theorem tX10_share_2 {d : Nat} {z : Int32 × aH} (v0 : Nat) (v1 : Int32) (s0 : Int32) (s1 : Nat) (h : aH) (hf : fX10_share_2 v0 v1 s0 s1 h = some z) : Ev (d + 5) none mX10_share (0, 0) 2 [.ref v0, .int v1] [.int s0, .ref s1] h (QI z) := by
  obtain ⟨_, h1, hf⟩ := bnd hf
  obtain ⟨fs, ho⟩ := isO_ok h1
  obtain ⟨r, h2, hf⟩ := bnd hf
  refine ev_V kqX10_share_2 jX10_lacksPerson (zX10_lacksPerson (d := d + 4) h2) ho rfl rfl (Nat.le_of_ble_eq_true rfl) rfl (as := [.int s0]) (rest := []) rfl (Nat.le_of_ble_eq_true rfl) (fun _ _ hq => ?_)
  obtain ⟨-, rfl, rfl⟩ := hq
  exact jm [2, 1] (fun v0 v1 => fX10_share_5 v0 v1 r.1 r.2) (fun v0 v1 q => tX10_share_5 v0 v1 r.1 r.2 q) hf
def wX10_share_0 : List En := [(.aload_n 0, 0, 0, 0), (.iload_n 1, 0, 0, 0)]
def fX10_share_0 (v0 : Nat) (v1 : Int32) (h : aH) : Option (Int32 × aH) :=
  fX10_share_2 v0 v1 v1 v0 h
theorem tX10_share_0 {d : Nat} {z : Int32 × aH} (v0 : Nat) (v1 : Int32) (h : aH) (hf : fX10_share_0 v0 v1 h = some z) : Ev (d + 5) none mX10_share (0, 0) 0 [.ref v0, .int v1] [] h (QI z) := 
  go_ok (X := none) (blk := wX10_share_0) (np := 2) (tt := 0) (kN := fun xs h st => app [2, 1] (fun v0 v1 => apS [1, 2] (fun s0 s1 => fX10_share_2 v0 v1 s0 s1 h) st) xs) (kT := fun _ _ _ => none) (kR := kRI)
    (fun xs h st q => jm [2, 1] _ (fun v0 v1 q => apS_ok [1, 2] _ (fun st => Ev (d + 5) none mX10_share (0, 0) 2 [.ref v0, .int v1] st h (QI z)) st (fun s0 s1 q => tX10_share_2 v0 v1 s0 s1 h q) q) q)
    (fun _ _ _ q => nos q)
    kRI_ok (Or.inr rfl) (by decide +kernel) (by decide +kernel) hf
def gX10_share (v0 : Nat) (v1 : Int32) (h : aH) : Option (Int32 × aH) := fX10_share_0 v0 v1 h
theorem zX10_share {d : Nat} {z : Int32 × aH} {v0 : Nat} {v1 : Int32} {h : aH} (q : gX10_share v0 v1 h = some z) : CT (d + 5) mX10_share (0, 0) [.ref v0, .int v1] h (QI z) :=
  ct_ev (by decide +kernel) (Nat.le_of_ble_eq_true rfl) QI_r (jm [2, 1] (fun v0 v1 => fX10_share_0 v0 v1 h) (fun v0 v1 q => tX10_share_0 v0 v1 h q) q)
def wX10_greatestSeen_33 : List En := [(.ireturn, 0, 0, 0)]
def fX10_greatestSeen_33 (s0 : Int32) (h : aH) : Option (Int32 × aH) :=
  some (s0, h)
theorem tX10_greatestSeen_33 {d : Nat} {z : Int32 × aH} (s0 : Int32) (h : aH) (hf : fX10_greatestSeen_33 s0 h = some z) : Ev (d + 2) none mX10_greatestSeen (0, 0) 33 [.null, .null] [.int s0] h (QI z) := 
  go_ok (X := none) (blk := wX10_greatestSeen_33) (np := 34) (tt := 0) (kN := fun _ _ _ => none) (kT := fun _ _ _ => none) (kR := kRI)
    (fun _ _ _ q => nos q)
    (fun _ _ _ q => nos q)
    kRI_ok (Or.inr rfl) (by decide +kernel) (by decide +kernel) hf
theorem kqX10_greatestSeen_30 : okC mX10_greatestSeen 30 (.invokevirtual 169) 71 55 0 2 = true := by decide +kernel
def fX10_greatestSeen_30 (s0 : Int32) (s1 : Nat) (s2 : Nat) (h : aH) : Option (Int32 × aH) :=
  (isO h 7 s2).bind fun _ =>
  (gX7_seenHunger s2 s1 s0 h).bind fun r =>
  fX10_greatestSeen_33 r.1 r.2
theorem tX10_greatestSeen_30 {d : Nat} {z : Int32 × aH} (s0 : Int32) (s1 : Nat) (s2 : Nat) (h : aH) (hf : fX10_greatestSeen_30 s0 s1 s2 h = some z) : Ev (d + 2) none mX10_greatestSeen (0, 0) 30 [.null, .null] [.int s0, .ref s1, .ref s2] h (QI z) := by
  obtain ⟨_, h1, hf⟩ := bnd hf
  obtain ⟨fs, ho⟩ := isO_ok h1
  obtain ⟨r, h2, hf⟩ := bnd hf
  refine ev_V kqX10_greatestSeen_30 jX7_seenHunger (zX7_seenHunger (d := d + 1) h2) ho rfl rfl (Nat.le_of_ble_eq_true rfl) rfl (as := [.ref s1, .int s0]) (rest := []) rfl (Nat.le_of_ble_eq_true rfl) (fun _ _ hq => ?_)
  obtain ⟨rfl, rfl⟩ := hq
  exact jm [0, 0] (fX10_greatestSeen_33 r.1 r.2) (fun q => tX10_greatestSeen_33 r.1 r.2 q) hf
def wX10_greatestSeen_21 : List En := [(.aload_n 0, 0, 0, 0), (.getfield 68, 170, 10, 8), (.aload_n 0, 0, 0, 0), (.getfield 75, 171, 10, 9), (.iload_n 1, 0, 0, 0)]
def fX10_greatestSeen_21 (v0 : Nat) (v1 : Int32) (h : aH) : Option (Int32 × aH) :=
  (gFR h 10 v0 8).bind fun t1 =>
  (gFR h 10 v0 9).bind fun t2 =>
  fX10_greatestSeen_30 v1 t2 t1 h
theorem tX10_greatestSeen_21 {d : Nat} {z : Int32 × aH} (v0 : Nat) (v1 : Int32) (h : aH) (hf : fX10_greatestSeen_21 v0 v1 h = some z) : Ev (d + 2) none mX10_greatestSeen (0, 0) 21 [.ref v0, .int v1] [] h (QI z) := 
  go_ok (X := none) (blk := wX10_greatestSeen_21) (np := 30) (tt := 0) (kN := fun xs h st => app [0, 0] (apS [1, 2, 2] (fun s0 s1 s2 => fX10_greatestSeen_30 s0 s1 s2 h) st) xs) (kT := fun _ _ _ => none) (kR := kRI)
    (fun xs h st q => jm [0, 0] _ (fun q => apS_ok [1, 2, 2] _ (fun st => Ev (d + 2) none mX10_greatestSeen (0, 0) 30 [.null, .null] st h (QI z)) st (fun s0 s1 s2 q => tX10_greatestSeen_30 s0 s1 s2 h q) q) q)
    (fun _ _ _ q => nos q)
    kRI_ok (Or.inr rfl) (by decide +kernel) (by decide +kernel) hf
def wX10_greatestSeen_17 : List En := [(.iconst (-1), 0, 0, 0), (.goto 15, 33, 0, 0)]
def fX10_greatestSeen_17 (h : aH) : Option (Int32 × aH) :=
  fX10_greatestSeen_33 (kI (-1)) h
theorem tX10_greatestSeen_17 {d : Nat} {z : Int32 × aH} (h : aH) (hf : fX10_greatestSeen_17 h = some z) : Ev (d + 2) none mX10_greatestSeen (0, 0) 17 [.null, .null] [] h (QI z) := 
  go_ok (X := none) (blk := wX10_greatestSeen_17) (np := 21) (tt := 33) (kN := fun _ _ _ => none) (kT := fun xs h st => app [0, 0] (apS [1] (fun s0 => fX10_greatestSeen_33 s0 h) st) xs) (kR := kRI)
    (fun _ _ _ q => nos q)
    (fun xs h st q => jm [0, 0] _ (fun q => apS_ok [1] _ (fun st => Ev (d + 2) none mX10_greatestSeen (0, 0) 33 [.null, .null] st h (QI z)) st (fun s0 q => tX10_greatestSeen_33 s0 h q) q) q)
    kRI_ok (Or.inr rfl) (by decide +kernel) (by decide +kernel) hf
def wX10_greatestSeen_12 : List En := [(.istore_n 1, 0, 0, 0), (.iload_n 1, 0, 0, 0), (.ifCond .ge 7, 21, 0, 0)]
def fX10_greatestSeen_12 (v0 : Nat) (s0 : Int32) (h : aH) : Option (Int32 × aH) :=
  if s0 < 0 then fX10_greatestSeen_17 h else fX10_greatestSeen_21 v0 s0 h
theorem tX10_greatestSeen_12 {d : Nat} {z : Int32 × aH} (v0 : Nat) (s0 : Int32) (h : aH) (hf : fX10_greatestSeen_12 v0 s0 h = some z) : Ev (d + 2) none mX10_greatestSeen (0, 0) 12 [.ref v0, .null] [.int s0] h (QI z) := 
  go_ok (X := none) (blk := wX10_greatestSeen_12) (np := 17) (tt := 21) (kN := fun xs h st => app [0, 0] (apS [] (fX10_greatestSeen_17 h) st) xs) (kT := fun xs h st => app [2, 1] (fun v0 v1 => apS [] (fX10_greatestSeen_21 v0 v1 h) st) xs) (kR := kRI)
    (fun xs h st q => jm [0, 0] _ (fun q => apS_ok [] _ (fun st => Ev (d + 2) none mX10_greatestSeen (0, 0) 17 [.null, .null] st h (QI z)) st (fun q => tX10_greatestSeen_17 h q) q) q)
    (fun xs h st q => jm [2, 1] _ (fun v0 v1 q => apS_ok [] _ (fun st => Ev (d + 2) none mX10_greatestSeen (0, 0) 21 [.ref v0, .int v1] st h (QI z)) st (fun q => tX10_greatestSeen_21 v0 v1 h q) q) q)
    kRI_ok (Or.inr rfl) (by decide +kernel) (by decide +kernel) hf
theorem kqX10_greatestSeen_9 : okC mX10_greatestSeen 9 (.invokevirtual 176) 75 59 0 2 = true := by decide +kernel
def fX10_greatestSeen_9 (v0 : Nat) (s0 : Int32) (s1 : Nat) (s2 : Nat) (h : aH) : Option (Int32 × aH) :=
  (isO h 7 s2).bind fun _ =>
  (gX7_whoNames s2 s1 s0 h).bind fun r =>
  fX10_greatestSeen_12 v0 r.1 r.2
theorem tX10_greatestSeen_9 {d : Nat} {z : Int32 × aH} (v0 : Nat) (s0 : Int32) (s1 : Nat) (s2 : Nat) (h : aH) (hf : fX10_greatestSeen_9 v0 s0 s1 s2 h = some z) : Ev (d + 2) none mX10_greatestSeen (0, 0) 9 [.ref v0, .null] [.int s0, .ref s1, .ref s2] h (QI z) := by
  obtain ⟨_, h1, hf⟩ := bnd hf
  obtain ⟨fs, ho⟩ := isO_ok h1
  obtain ⟨r, h2, hf⟩ := bnd hf
  refine ev_V kqX10_greatestSeen_9 jX7_whoNames (zX7_whoNames (d := d + 0) h2) ho rfl rfl (Nat.le_of_ble_eq_true rfl) rfl (as := [.ref s1, .int s0]) (rest := []) rfl (Nat.le_of_ble_eq_true rfl) (fun _ _ hq => ?_)
  obtain ⟨rfl, rfl⟩ := hq
  exact jm [2, 0] (fun v0 => fX10_greatestSeen_12 v0 r.1 r.2) (fun v0 q => tX10_greatestSeen_12 v0 r.1 r.2 q) hf
def wX10_greatestSeen_0 : List En := [(.aload_n 0, 0, 0, 0), (.getfield 68, 170, 10, 8), (.aload_n 0, 0, 0, 0), (.getfield 75, 171, 10, 9), (.iconst 0, 0, 0, 0)]
def fX10_greatestSeen_0 (v0 : Nat) (h : aH) : Option (Int32 × aH) :=
  (gFR h 10 v0 8).bind fun t1 =>
  (gFR h 10 v0 9).bind fun t2 =>
  fX10_greatestSeen_9 v0 (kI 0) t2 t1 h
theorem tX10_greatestSeen_0 {d : Nat} {z : Int32 × aH} (v0 : Nat) (h : aH) (hf : fX10_greatestSeen_0 v0 h = some z) : Ev (d + 2) none mX10_greatestSeen (0, 0) 0 [.ref v0, .null] [] h (QI z) := 
  go_ok (X := none) (blk := wX10_greatestSeen_0) (np := 9) (tt := 0) (kN := fun xs h st => app [2, 0] (fun v0 => apS [1, 2, 2] (fun s0 s1 s2 => fX10_greatestSeen_9 v0 s0 s1 s2 h) st) xs) (kT := fun _ _ _ => none) (kR := kRI)
    (fun xs h st q => jm [2, 0] _ (fun v0 q => apS_ok [1, 2, 2] _ (fun st => Ev (d + 2) none mX10_greatestSeen (0, 0) 9 [.ref v0, .null] st h (QI z)) st (fun s0 s1 s2 q => tX10_greatestSeen_9 v0 s0 s1 s2 h q) q) q)
    (fun _ _ _ q => nos q)
    kRI_ok (Or.inr rfl) (by decide +kernel) (by decide +kernel) hf
def gX10_greatestSeen (v0 : Nat) (h : aH) : Option (Int32 × aH) := fX10_greatestSeen_0 v0 h
theorem zX10_greatestSeen {d : Nat} {z : Int32 × aH} {v0 : Nat} {h : aH} (q : gX10_greatestSeen v0 h = some z) : CT (d + 2) mX10_greatestSeen (0, 0) [.ref v0] h (QI z) :=
  ct_ev (by decide +kernel) (Nat.le_of_ble_eq_true rfl) QI_r (jm [2, 0] (fun v0 => fX10_greatestSeen_0 v0 h) (fun v0 q => tX10_greatestSeen_0 v0 h q) q)
def wX10_dishWithGuest_22 : List En := [(.ireturn, 0, 0, 0)]
def fX10_dishWithGuest_22 (s0 : Int32) (h : aH) : Option (Int32 × aH) :=
  some (s0, h)
theorem tX10_dishWithGuest_22 {d : Nat} {z : Int32 × aH} (s0 : Int32) (h : aH) (hf : fX10_dishWithGuest_22 s0 h = some z) : Ev (d + 3) none mX10_dishWithGuest (0, 0) 22 [.null, .null, .null] [.int s0] h (QI z) := 
  go_ok (X := none) (blk := wX10_dishWithGuest_22) (np := 23) (tt := 0) (kN := fun _ _ _ => none) (kT := fun _ _ _ => none) (kR := kRI)
    (fun _ _ _ q => nos q)
    (fun _ _ _ q => nos q)
    kRI_ok (Or.inr rfl) (by decide +kernel) (by decide +kernel) hf
theorem kqX10_dishWithGuest_19 : okC mX10_dishWithGuest 19 (.invokevirtual 173) 73 57 0 1 = true := by decide +kernel
def fX10_dishWithGuest_19 (s0 : Int32) (s1 : Nat) (h : aH) : Option (Int32 × aH) :=
  (isO h 9 s1).bind fun _ =>
  (gX9_nameSeen s1 s0 h).bind fun r =>
  fX10_dishWithGuest_22 r.1 r.2
theorem tX10_dishWithGuest_19 {d : Nat} {z : Int32 × aH} (s0 : Int32) (s1 : Nat) (h : aH) (hf : fX10_dishWithGuest_19 s0 s1 h = some z) : Ev (d + 3) none mX10_dishWithGuest (0, 0) 19 [.null, .null, .null] [.int s0, .ref s1] h (QI z) := by
  obtain ⟨_, h1, hf⟩ := bnd hf
  obtain ⟨fs, ho⟩ := isO_ok h1
  obtain ⟨r, h2, hf⟩ := bnd hf
  refine ev_V kqX10_dishWithGuest_19 jX9_nameSeen (zX9_nameSeen (d := d + 2) h2) ho rfl rfl (Nat.le_of_ble_eq_true rfl) rfl (as := [.int s0]) (rest := []) rfl (Nat.le_of_ble_eq_true rfl) (fun _ _ hq => ?_)
  obtain ⟨rfl, rfl⟩ := hq
  exact jm [0, 0, 0] (fX10_dishWithGuest_22 r.1 r.2) (fun q => tX10_dishWithGuest_22 r.1 r.2 q) hf
def wX10_dishWithGuest_18 : List En := [(.iload_n 2, 0, 0, 0)]
def fX10_dishWithGuest_18 (v2 : Int32) (s0 : Nat) (h : aH) : Option (Int32 × aH) :=
  fX10_dishWithGuest_19 v2 s0 h
theorem tX10_dishWithGuest_18 {d : Nat} {z : Int32 × aH} (v2 : Int32) (s0 : Nat) (h : aH) (hf : fX10_dishWithGuest_18 v2 s0 h = some z) : Ev (d + 3) none mX10_dishWithGuest (0, 0) 18 [.null, .null, .int v2] [.ref s0] h (QI z) := 
  go_ok (X := none) (blk := wX10_dishWithGuest_18) (np := 19) (tt := 0) (kN := fun xs h st => app [0, 0, 0] (apS [1, 2] (fun s0 s1 => fX10_dishWithGuest_19 s0 s1 h) st) xs) (kT := fun _ _ _ => none) (kR := kRI)
    (fun xs h st q => jm [0, 0, 0] _ (fun q => apS_ok [1, 2] _ (fun st => Ev (d + 3) none mX10_dishWithGuest (0, 0) 19 [.null, .null, .null] st h (QI z)) st (fun s0 s1 q => tX10_dishWithGuest_19 s0 s1 h q) q) q)
    (fun _ _ _ q => nos q)
    kRI_ok (Or.inr rfl) (by decide +kernel) (by decide +kernel) hf
def wX10_dishWithGuest_14 : List En := [(.iload_n 1, 0, 0, 0), (.goto 4, 19, 0, 0)]
def fX10_dishWithGuest_14 (v1 : Int32) (s0 : Nat) (h : aH) : Option (Int32 × aH) :=
  fX10_dishWithGuest_19 v1 s0 h
theorem tX10_dishWithGuest_14 {d : Nat} {z : Int32 × aH} (v1 : Int32) (s0 : Nat) (h : aH) (hf : fX10_dishWithGuest_14 v1 s0 h = some z) : Ev (d + 3) none mX10_dishWithGuest (0, 0) 14 [.null, .int v1, .null] [.ref s0] h (QI z) := 
  go_ok (X := none) (blk := wX10_dishWithGuest_14) (np := 18) (tt := 19) (kN := fun _ _ _ => none) (kT := fun xs h st => app [0, 0, 0] (apS [1, 2] (fun s0 s1 => fX10_dishWithGuest_19 s0 s1 h) st) xs) (kR := kRI)
    (fun _ _ _ q => nos q)
    (fun xs h st q => jm [0, 0, 0] _ (fun q => apS_ok [1, 2] _ (fun st => Ev (d + 3) none mX10_dishWithGuest (0, 0) 19 [.null, .null, .null] st h (QI z)) st (fun s0 s1 q => tX10_dishWithGuest_19 s0 s1 h q) q) q)
    kRI_ok (Or.inr rfl) (by decide +kernel) (by decide +kernel) hf
def wX10_dishWithGuest_4 : List En := [(.istore_n 2, 0, 0, 0), (.aload_n 0, 0, 0, 0), (.getfield 75, 171, 10, 9), (.iload_n 1, 0, 0, 0), (.iload_n 2, 0, 0, 0), (.if_icmp .le 7, 18, 0, 0)]
def fX10_dishWithGuest_4 (v0 : Nat) (v1 : Int32) (s0 : Int32) (h : aH) : Option (Int32 × aH) :=
  (gFR h 10 v0 9).bind fun t1 =>
  if s0 < v1 then fX10_dishWithGuest_14 v1 t1 h else fX10_dishWithGuest_18 s0 t1 h
theorem tX10_dishWithGuest_4 {d : Nat} {z : Int32 × aH} (v0 : Nat) (v1 : Int32) (s0 : Int32) (h : aH) (hf : fX10_dishWithGuest_4 v0 v1 s0 h = some z) : Ev (d + 3) none mX10_dishWithGuest (0, 0) 4 [.ref v0, .int v1, .null] [.int s0] h (QI z) := 
  go_ok (X := none) (blk := wX10_dishWithGuest_4) (np := 14) (tt := 18) (kN := fun xs h st => app [0, 1, 0] (fun v1 => apS [2] (fun s0 => fX10_dishWithGuest_14 v1 s0 h) st) xs) (kT := fun xs h st => app [0, 0, 1] (fun v2 => apS [2] (fun s0 => fX10_dishWithGuest_18 v2 s0 h) st) xs) (kR := kRI)
    (fun xs h st q => jm [0, 1, 0] _ (fun v1 q => apS_ok [2] _ (fun st => Ev (d + 3) none mX10_dishWithGuest (0, 0) 14 [.null, .int v1, .null] st h (QI z)) st (fun s0 q => tX10_dishWithGuest_14 v1 s0 h q) q) q)
    (fun xs h st q => jm [0, 0, 1] _ (fun v2 q => apS_ok [2] _ (fun st => Ev (d + 3) none mX10_dishWithGuest (0, 0) 18 [.null, .null, .int v2] st h (QI z)) st (fun s0 q => tX10_dishWithGuest_18 v2 s0 h q) q) q)
    kRI_ok (Or.inr rfl) (by decide +kernel) (by decide +kernel) hf
theorem kqX10_dishWithGuest_1 : okC mX10_dishWithGuest 1 (.invokevirtual 197) 95 90 0 0 = true := by decide +kernel
def fX10_dishWithGuest_1 (v0 : Nat) (v1 : Int32) (s0 : Nat) (h : aH) : Option (Int32 × aH) :=
  (isO h 10 s0).bind fun _ =>
  (gX10_greatestSeen s0 h).bind fun r =>
  fX10_dishWithGuest_4 v0 v1 r.1 r.2
theorem tX10_dishWithGuest_1 {d : Nat} {z : Int32 × aH} (v0 : Nat) (v1 : Int32) (s0 : Nat) (h : aH) (hf : fX10_dishWithGuest_1 v0 v1 s0 h = some z) : Ev (d + 3) none mX10_dishWithGuest (0, 0) 1 [.ref v0, .int v1, .null] [.ref s0] h (QI z) := by
  obtain ⟨_, h1, hf⟩ := bnd hf
  obtain ⟨fs, ho⟩ := isO_ok h1
  obtain ⟨r, h2, hf⟩ := bnd hf
  refine ev_V kqX10_dishWithGuest_1 jX10_greatestSeen (zX10_greatestSeen (d := d + 0) h2) ho rfl rfl (Nat.le_of_ble_eq_true rfl) rfl (as := []) (rest := []) rfl (Nat.le_of_ble_eq_true rfl) (fun _ _ hq => ?_)
  obtain ⟨rfl, rfl⟩ := hq
  exact jm [2, 1, 0] (fun v0 v1 => fX10_dishWithGuest_4 v0 v1 r.1 r.2) (fun v0 v1 q => tX10_dishWithGuest_4 v0 v1 r.1 r.2 q) hf
def wX10_dishWithGuest_0 : List En := [(.aload_n 0, 0, 0, 0)]
def fX10_dishWithGuest_0 (v0 : Nat) (v1 : Int32) (h : aH) : Option (Int32 × aH) :=
  fX10_dishWithGuest_1 v0 v1 v0 h
theorem tX10_dishWithGuest_0 {d : Nat} {z : Int32 × aH} (v0 : Nat) (v1 : Int32) (h : aH) (hf : fX10_dishWithGuest_0 v0 v1 h = some z) : Ev (d + 3) none mX10_dishWithGuest (0, 0) 0 [.ref v0, .int v1, .null] [] h (QI z) := 
  go_ok (X := none) (blk := wX10_dishWithGuest_0) (np := 1) (tt := 0) (kN := fun xs h st => app [2, 1, 0] (fun v0 v1 => apS [2] (fun s0 => fX10_dishWithGuest_1 v0 v1 s0 h) st) xs) (kT := fun _ _ _ => none) (kR := kRI)
    (fun xs h st q => jm [2, 1, 0] _ (fun v0 v1 q => apS_ok [2] _ (fun st => Ev (d + 3) none mX10_dishWithGuest (0, 0) 1 [.ref v0, .int v1, .null] st h (QI z)) st (fun s0 q => tX10_dishWithGuest_1 v0 v1 s0 h q) q) q)
    (fun _ _ _ q => nos q)
    kRI_ok (Or.inr rfl) (by decide +kernel) (by decide +kernel) hf
def gX10_dishWithGuest (v0 : Nat) (v1 : Int32) (h : aH) : Option (Int32 × aH) := fX10_dishWithGuest_0 v0 v1 h
theorem zX10_dishWithGuest {d : Nat} {z : Int32 × aH} {v0 : Nat} {v1 : Int32} {h : aH} (q : gX10_dishWithGuest v0 v1 h = some z) : CT (d + 3) mX10_dishWithGuest (0, 0) [.ref v0, .int v1] h (QI z) :=
  ct_ev (by decide +kernel) (Nat.le_of_ble_eq_true rfl) QI_r (jm [2, 1, 0] (fun v0 v1 => fX10_dishWithGuest_0 v0 v1 h) (fun v0 v1 q => tX10_dishWithGuest_0 v0 v1 h q) q)
def wX10_isOutside_15 : List En := [(.ireturn, 0, 0, 0)]
def fX10_isOutside_15 (s0 : Int32) (h : aH) : Option (Int32 × aH) :=
  if s0 = 0 ∨ s0 = 1 then some (s0, h) else none
theorem tX10_isOutside_15 {d : Nat} {z : Int32 × aH} (s0 : Int32) (h : aH) (hf : fX10_isOutside_15 s0 h = some z) : Ev (d + 0) none mX10_isOutside (0, 0) 15 [.null, .null, .null] [.int s0] h (QZ z) := 
  go_ok (X := none) (blk := wX10_isOutside_15) (np := 16) (tt := 0) (kN := fun _ _ _ => none) (kT := fun _ _ _ => none) (kR := kRZ)
    (fun _ _ _ q => nos q)
    (fun _ _ _ q => nos q)
    kRZ_ok (Or.inr rfl) (by decide +kernel) (by decide +kernel) hf
def wX10_isOutside_10 : List En := [(.iconst 1, 0, 0, 0), (.goto 4, 15, 0, 0)]
def fX10_isOutside_10 (h : aH) : Option (Int32 × aH) :=
  fX10_isOutside_15 (kI 1) h
theorem tX10_isOutside_10 {d : Nat} {z : Int32 × aH} (h : aH) (hf : fX10_isOutside_10 h = some z) : Ev (d + 0) none mX10_isOutside (0, 0) 10 [.null, .null, .null] [] h (QZ z) := 
  go_ok (X := none) (blk := wX10_isOutside_10) (np := 14) (tt := 15) (kN := fun _ _ _ => none) (kT := fun xs h st => app [0, 0, 0] (apS [1] (fun s0 => fX10_isOutside_15 s0 h) st) xs) (kR := kRZ)
    (fun _ _ _ q => nos q)
    (fun xs h st q => jm [0, 0, 0] _ (fun q => apS_ok [1] _ (fun st => Ev (d + 0) none mX10_isOutside (0, 0) 15 [.null, .null, .null] st h (QZ z)) st (fun s0 q => tX10_isOutside_15 s0 h q) q) q)
    kRZ_ok (Or.inr rfl) (by decide +kernel) (by decide +kernel) hf
def wX10_isOutside_14 : List En := [(.iconst 0, 0, 0, 0)]
def fX10_isOutside_14 (h : aH) : Option (Int32 × aH) :=
  fX10_isOutside_15 (kI 0) h
theorem tX10_isOutside_14 {d : Nat} {z : Int32 × aH} (h : aH) (hf : fX10_isOutside_14 h = some z) : Ev (d + 0) none mX10_isOutside (0, 0) 14 [.null, .null, .null] [] h (QZ z) := 
  go_ok (X := none) (blk := wX10_isOutside_14) (np := 15) (tt := 0) (kN := fun xs h st => app [0, 0, 0] (apS [1] (fun s0 => fX10_isOutside_15 s0 h) st) xs) (kT := fun _ _ _ => none) (kR := kRZ)
    (fun xs h st q => jm [0, 0, 0] _ (fun q => apS_ok [1] _ (fun st => Ev (d + 0) none mX10_isOutside (0, 0) 15 [.null, .null, .null] st h (QZ z)) st (fun s0 q => tX10_isOutside_15 s0 h q) q) q)
    (fun _ _ _ q => nos q)
    kRZ_ok (Or.inr rfl) (by decide +kernel) (by decide +kernel) hf
def wX10_isOutside_5 : List En := [(.iload_n 0, 0, 0, 0), (.iload_n 2, 0, 0, 0), (.if_icmp .le 7, 14, 0, 0)]
def fX10_isOutside_5 (v0 : Int32) (v2 : Int32) (h : aH) : Option (Int32 × aH) :=
  if v2 < v0 then fX10_isOutside_10 h else fX10_isOutside_14 h
theorem tX10_isOutside_5 {d : Nat} {z : Int32 × aH} (v0 : Int32) (v2 : Int32) (h : aH) (hf : fX10_isOutside_5 v0 v2 h = some z) : Ev (d + 0) none mX10_isOutside (0, 0) 5 [.int v0, .null, .int v2] [] h (QZ z) := 
  go_ok (X := none) (blk := wX10_isOutside_5) (np := 10) (tt := 14) (kN := fun xs h st => app [0, 0, 0] (apS [] (fX10_isOutside_10 h) st) xs) (kT := fun xs h st => app [0, 0, 0] (apS [] (fX10_isOutside_14 h) st) xs) (kR := kRZ)
    (fun xs h st q => jm [0, 0, 0] _ (fun q => apS_ok [] _ (fun st => Ev (d + 0) none mX10_isOutside (0, 0) 10 [.null, .null, .null] st h (QZ z)) st (fun q => tX10_isOutside_10 h q) q) q)
    (fun xs h st q => jm [0, 0, 0] _ (fun q => apS_ok [] _ (fun st => Ev (d + 0) none mX10_isOutside (0, 0) 14 [.null, .null, .null] st h (QZ z)) st (fun q => tX10_isOutside_14 h q) q) q)
    kRZ_ok (Or.inr rfl) (by decide +kernel) (by decide +kernel) hf
def wX10_isOutside_0 : List En := [(.iload_n 0, 0, 0, 0), (.iload_n 1, 0, 0, 0), (.if_icmp .lt 8, 10, 0, 0)]
def fX10_isOutside_0 (v0 : Int32) (v1 : Int32) (v2 : Int32) (h : aH) : Option (Int32 × aH) :=
  if v0 < v1 then fX10_isOutside_10 h else fX10_isOutside_5 v0 v2 h
theorem tX10_isOutside_0 {d : Nat} {z : Int32 × aH} (v0 : Int32) (v1 : Int32) (v2 : Int32) (h : aH) (hf : fX10_isOutside_0 v0 v1 v2 h = some z) : Ev (d + 0) none mX10_isOutside (0, 0) 0 [.int v0, .int v1, .int v2] [] h (QZ z) := 
  go_ok (X := none) (blk := wX10_isOutside_0) (np := 5) (tt := 10) (kN := fun xs h st => app [1, 0, 1] (fun v0 v2 => apS [] (fX10_isOutside_5 v0 v2 h) st) xs) (kT := fun xs h st => app [0, 0, 0] (apS [] (fX10_isOutside_10 h) st) xs) (kR := kRZ)
    (fun xs h st q => jm [1, 0, 1] _ (fun v0 v2 q => apS_ok [] _ (fun st => Ev (d + 0) none mX10_isOutside (0, 0) 5 [.int v0, .null, .int v2] st h (QZ z)) st (fun q => tX10_isOutside_5 v0 v2 h q) q) q)
    (fun xs h st q => jm [0, 0, 0] _ (fun q => apS_ok [] _ (fun st => Ev (d + 0) none mX10_isOutside (0, 0) 10 [.null, .null, .null] st h (QZ z)) st (fun q => tX10_isOutside_10 h q) q) q)
    kRZ_ok (Or.inr rfl) (by decide +kernel) (by decide +kernel) hf
def gX10_isOutside (v0 : Int32) (v1 : Int32) (v2 : Int32) (h : aH) : Option (Int32 × aH) := fX10_isOutside_0 v0 v1 v2 h
theorem zX10_isOutside {d : Nat} {z : Int32 × aH} {v0 : Int32} {v1 : Int32} {v2 : Int32} {h : aH} (q : gX10_isOutside v0 v1 v2 h = some z) : CT (d + 0) mX10_isOutside (0, 0) [.int v0, .int v1, .int v2] h (QZ z) :=
  ct_ev (by decide +kernel) (Nat.le_of_ble_eq_true rfl) QZ_r (jm [1, 1, 1] (fun v0 v1 v2 => fX10_isOutside_0 v0 v1 v2 h) (fun v0 v1 v2 q => tX10_isOutside_0 v0 v1 v2 h q) q)
def wX10_isRefused_43 : List En := [(.ireturn, 0, 0, 0)]
def fX10_isRefused_43 (s0 : Int32) (h : aH) : Option (Int32 × aH) :=
  if s0 = 0 ∨ s0 = 1 then some (s0, h) else none
theorem tX10_isRefused_43 {d : Nat} {z : Int32 × aH} (s0 : Int32) (h : aH) (hf : fX10_isRefused_43 s0 h = some z) : Ev (d + 1) none mX10_isRefused (0, 0) 43 [.null, .null, .null, .null, .null] [.int s0] h (QZ z) := 
  go_ok (X := none) (blk := wX10_isRefused_43) (np := 44) (tt := 0) (kN := fun _ _ _ => none) (kT := fun _ _ _ => none) (kR := kRZ)
    (fun _ _ _ q => nos q)
    (fun _ _ _ q => nos q)
    kRZ_ok (Or.inr rfl) (by decide +kernel) (by decide +kernel) hf
def wX10_isRefused_42 : List En := [(.iconst 0, 0, 0, 0)]
def fX10_isRefused_42 (h : aH) : Option (Int32 × aH) :=
  fX10_isRefused_43 (kI 0) h
theorem tX10_isRefused_42 {d : Nat} {z : Int32 × aH} (h : aH) (hf : fX10_isRefused_42 h = some z) : Ev (d + 1) none mX10_isRefused (0, 0) 42 [.null, .null, .null, .null, .null] [] h (QZ z) := 
  go_ok (X := none) (blk := wX10_isRefused_42) (np := 43) (tt := 0) (kN := fun xs h st => app [0, 0, 0, 0, 0] (apS [1] (fun s0 => fX10_isRefused_43 s0 h) st) xs) (kT := fun _ _ _ => none) (kR := kRZ)
    (fun xs h st q => jm [0, 0, 0, 0, 0] _ (fun q => apS_ok [1] _ (fun st => Ev (d + 1) none mX10_isRefused (0, 0) 43 [.null, .null, .null, .null, .null] st h (QZ z)) st (fun s0 q => tX10_isRefused_43 s0 h q) q) q)
    (fun _ _ _ q => nos q)
    kRZ_ok (Or.inr rfl) (by decide +kernel) (by decide +kernel) hf
def wX10_isRefused_38 : List En := [(.iconst 1, 0, 0, 0), (.goto 4, 43, 0, 0)]
def fX10_isRefused_38 (h : aH) : Option (Int32 × aH) :=
  fX10_isRefused_43 (kI 1) h
theorem tX10_isRefused_38 {d : Nat} {z : Int32 × aH} (h : aH) (hf : fX10_isRefused_38 h = some z) : Ev (d + 1) none mX10_isRefused (0, 0) 38 [.null, .null, .null, .null, .null] [] h (QZ z) := 
  go_ok (X := none) (blk := wX10_isRefused_38) (np := 42) (tt := 43) (kN := fun _ _ _ => none) (kT := fun xs h st => app [0, 0, 0, 0, 0] (apS [1] (fun s0 => fX10_isRefused_43 s0 h) st) xs) (kR := kRZ)
    (fun _ _ _ q => nos q)
    (fun xs h st q => jm [0, 0, 0, 0, 0] _ (fun q => apS_ok [1] _ (fun st => Ev (d + 1) none mX10_isRefused (0, 0) 43 [.null, .null, .null, .null, .null] st h (QZ z)) st (fun s0 q => tX10_isRefused_43 s0 h q) q) q)
    kRZ_ok (Or.inr rfl) (by decide +kernel) (by decide +kernel) hf
def wX10_isRefused_31 : List En := [(.aload_n 0, 0, 0, 0), (.getfield 122, 173, 10, 11), (.ifCond .eq 7, 42, 0, 0)]
def fX10_isRefused_31 (v0 : Nat) (h : aH) : Option (Int32 × aH) :=
  (gFI h 10 v0 11).bind fun t1 =>
  if t1 = 0 then fX10_isRefused_42 h else fX10_isRefused_38 h
theorem tX10_isRefused_31 {d : Nat} {z : Int32 × aH} (v0 : Nat) (h : aH) (hf : fX10_isRefused_31 v0 h = some z) : Ev (d + 1) none mX10_isRefused (0, 0) 31 [.ref v0, .null, .null, .null, .null] [] h (QZ z) := 
  go_ok (X := none) (blk := wX10_isRefused_31) (np := 38) (tt := 42) (kN := fun xs h st => app [0, 0, 0, 0, 0] (apS [] (fX10_isRefused_38 h) st) xs) (kT := fun xs h st => app [0, 0, 0, 0, 0] (apS [] (fX10_isRefused_42 h) st) xs) (kR := kRZ)
    (fun xs h st q => jm [0, 0, 0, 0, 0] _ (fun q => apS_ok [] _ (fun st => Ev (d + 1) none mX10_isRefused (0, 0) 38 [.null, .null, .null, .null, .null] st h (QZ z)) st (fun q => tX10_isRefused_38 h q) q) q)
    (fun xs h st q => jm [0, 0, 0, 0, 0] _ (fun q => apS_ok [] _ (fun st => Ev (d + 1) none mX10_isRefused (0, 0) 42 [.null, .null, .null, .null, .null] st h (QZ z)) st (fun q => tX10_isRefused_42 h q) q) q)
    kRZ_ok (Or.inr rfl) (by decide +kernel) (by decide +kernel) hf
def wX10_isRefused_28 : List En := [(.putfield 122, 173, 10, 11)]
def fX10_isRefused_28 (v0 : Nat) (s0 : Int32) (s1 : Nat) (h : aH) : Option (Int32 × aH) :=
  (pWV h 10 s1 11 (.int s0)).bind fun h1 =>
  fX10_isRefused_31 v0 h1
theorem tX10_isRefused_28 {d : Nat} {z : Int32 × aH} (v0 : Nat) (s0 : Int32) (s1 : Nat) (h : aH) (hf : fX10_isRefused_28 v0 s0 s1 h = some z) : Ev (d + 1) none mX10_isRefused (0, 0) 28 [.ref v0, .null, .null, .null, .null] [.int s0, .ref s1] h (QZ z) := 
  go_ok (X := none) (blk := wX10_isRefused_28) (np := 31) (tt := 0) (kN := fun xs h st => app [2, 0, 0, 0, 0] (fun v0 => apS [] (fX10_isRefused_31 v0 h) st) xs) (kT := fun _ _ _ => none) (kR := kRZ)
    (fun xs h st q => jm [2, 0, 0, 0, 0] _ (fun v0 q => apS_ok [] _ (fun st => Ev (d + 1) none mX10_isRefused (0, 0) 31 [.ref v0, .null, .null, .null, .null] st h (QZ z)) st (fun q => tX10_isRefused_31 v0 h q) q) q)
    (fun _ _ _ q => nos q)
    kRZ_ok (Or.inr rfl) (by decide +kernel) (by decide +kernel) hf
def wX10_isRefused_27 : List En := [(.iconst 0, 0, 0, 0)]
def fX10_isRefused_27 (v0 : Nat) (s0 : Nat) (h : aH) : Option (Int32 × aH) :=
  fX10_isRefused_28 v0 (kI 0) s0 h
theorem tX10_isRefused_27 {d : Nat} {z : Int32 × aH} (v0 : Nat) (s0 : Nat) (h : aH) (hf : fX10_isRefused_27 v0 s0 h = some z) : Ev (d + 1) none mX10_isRefused (0, 0) 27 [.ref v0, .null, .null, .null, .null] [.ref s0] h (QZ z) := 
  go_ok (X := none) (blk := wX10_isRefused_27) (np := 28) (tt := 0) (kN := fun xs h st => app [2, 0, 0, 0, 0] (fun v0 => apS [1, 2] (fun s0 s1 => fX10_isRefused_28 v0 s0 s1 h) st) xs) (kT := fun _ _ _ => none) (kR := kRZ)
    (fun xs h st q => jm [2, 0, 0, 0, 0] _ (fun v0 q => apS_ok [1, 2] _ (fun st => Ev (d + 1) none mX10_isRefused (0, 0) 28 [.ref v0, .null, .null, .null, .null] st h (QZ z)) st (fun s0 s1 q => tX10_isRefused_28 v0 s0 s1 h q) q) q)
    (fun _ _ _ q => nos q)
    kRZ_ok (Or.inr rfl) (by decide +kernel) (by decide +kernel) hf
def wX10_isRefused_23 : List En := [(.iconst 2, 0, 0, 0), (.goto 4, 28, 0, 0)]
def fX10_isRefused_23 (v0 : Nat) (s0 : Nat) (h : aH) : Option (Int32 × aH) :=
  fX10_isRefused_28 v0 (kI 2) s0 h
theorem tX10_isRefused_23 {d : Nat} {z : Int32 × aH} (v0 : Nat) (s0 : Nat) (h : aH) (hf : fX10_isRefused_23 v0 s0 h = some z) : Ev (d + 1) none mX10_isRefused (0, 0) 23 [.ref v0, .null, .null, .null, .null] [.ref s0] h (QZ z) := 
  go_ok (X := none) (blk := wX10_isRefused_23) (np := 27) (tt := 28) (kN := fun _ _ _ => none) (kT := fun xs h st => app [2, 0, 0, 0, 0] (fun v0 => apS [1, 2] (fun s0 s1 => fX10_isRefused_28 v0 s0 s1 h) st) xs) (kR := kRZ)
    (fun _ _ _ q => nos q)
    (fun xs h st q => jm [2, 0, 0, 0, 0] _ (fun v0 q => apS_ok [1, 2] _ (fun st => Ev (d + 1) none mX10_isRefused (0, 0) 28 [.ref v0, .null, .null, .null, .null] st h (QZ z)) st (fun s0 s1 q => tX10_isRefused_28 v0 s0 s1 h q) q) q)
    kRZ_ok (Or.inr rfl) (by decide +kernel) (by decide +kernel) hf
def wX10_isRefused_20 : List En := [(.ifCond .eq 7, 27, 0, 0)]
def fX10_isRefused_20 (v0 : Nat) (s0 : Int32) (s1 : Nat) (h : aH) : Option (Int32 × aH) :=
  if s0 = 0 then fX10_isRefused_27 v0 s1 h else fX10_isRefused_23 v0 s1 h
theorem tX10_isRefused_20 {d : Nat} {z : Int32 × aH} (v0 : Nat) (s0 : Int32) (s1 : Nat) (h : aH) (hf : fX10_isRefused_20 v0 s0 s1 h = some z) : Ev (d + 1) none mX10_isRefused (0, 0) 20 [.ref v0, .null, .null, .null, .null] [.int s0, .ref s1] h (QZ z) := 
  go_ok (X := none) (blk := wX10_isRefused_20) (np := 23) (tt := 27) (kN := fun xs h st => app [2, 0, 0, 0, 0] (fun v0 => apS [2] (fun s0 => fX10_isRefused_23 v0 s0 h) st) xs) (kT := fun xs h st => app [2, 0, 0, 0, 0] (fun v0 => apS [2] (fun s0 => fX10_isRefused_27 v0 s0 h) st) xs) (kR := kRZ)
    (fun xs h st q => jm [2, 0, 0, 0, 0] _ (fun v0 q => apS_ok [2] _ (fun st => Ev (d + 1) none mX10_isRefused (0, 0) 23 [.ref v0, .null, .null, .null, .null] st h (QZ z)) st (fun s0 q => tX10_isRefused_23 v0 s0 h q) q) q)
    (fun xs h st q => jm [2, 0, 0, 0, 0] _ (fun v0 q => apS_ok [2] _ (fun st => Ev (d + 1) none mX10_isRefused (0, 0) 27 [.ref v0, .null, .null, .null, .null] st h (QZ z)) st (fun s0 q => tX10_isRefused_27 v0 s0 h q) q) q)
    kRZ_ok (Or.inr rfl) (by decide +kernel) (by decide +kernel) hf
theorem kqX10_isRefused_17 : okC mX10_isRefused 17 (.invokestatic 324) 93 88 1 3 = true := by decide +kernel
def fX10_isRefused_17 (v0 : Nat) (s0 : Int32) (s1 : Int32) (s2 : Int32) (s3 : Nat) (h : aH) : Option (Int32 × aH) :=
  (gX10_isOutside s2 s1 s0 h).bind fun r =>
  fX10_isRefused_20 v0 r.1 s3 r.2
theorem tX10_isRefused_17 {d : Nat} {z : Int32 × aH} (v0 : Nat) (s0 : Int32) (s1 : Int32) (s2 : Int32) (s3 : Nat) (h : aH) (hf : fX10_isRefused_17 v0 s0 s1 s2 s3 h = some z) : Ev (d + 1) none mX10_isRefused (0, 0) 17 [.ref v0, .null, .null, .null, .null] [.int s0, .int s1, .int s2, .ref s3] h (QZ z) := by
  obtain ⟨r, h2, hf⟩ := bnd hf
  refine ev_S kqX10_isRefused_17 jX10_isOutside (zX10_isOutside (d := d + 0) h2) rfl (Nat.le_of_ble_eq_true rfl) rfl (as := [.int s2, .int s1, .int s0]) (rest := [.ref s3]) rfl (Nat.le_of_ble_eq_true rfl) (fun _ _ hq => ?_)
  obtain ⟨-, rfl, rfl⟩ := hq
  exact jm [2, 0, 0, 0, 0] (fun v0 => fX10_isRefused_20 v0 r.1 s3 r.2) (fun v0 q => tX10_isRefused_20 v0 r.1 s3 r.2 q) hf
def wX10_isRefused_12 : List En := [(.aload_n 0, 0, 0, 0), (.iload_n 2, 0, 0, 0), (.iload_n 3, 0, 0, 0), (.iload 4, 0, 0, 0)]
def fX10_isRefused_12 (v0 : Nat) (v2 : Int32) (v3 : Int32) (v4 : Int32) (h : aH) : Option (Int32 × aH) :=
  fX10_isRefused_17 v0 v4 v3 v2 v0 h
theorem tX10_isRefused_12 {d : Nat} {z : Int32 × aH} (v0 : Nat) (v2 : Int32) (v3 : Int32) (v4 : Int32) (h : aH) (hf : fX10_isRefused_12 v0 v2 v3 v4 h = some z) : Ev (d + 1) none mX10_isRefused (0, 0) 12 [.ref v0, .null, .int v2, .int v3, .int v4] [] h (QZ z) := 
  go_ok (X := none) (blk := wX10_isRefused_12) (np := 17) (tt := 0) (kN := fun xs h st => app [2, 0, 0, 0, 0] (fun v0 => apS [1, 1, 1, 2] (fun s0 s1 s2 s3 => fX10_isRefused_17 v0 s0 s1 s2 s3 h) st) xs) (kT := fun _ _ _ => none) (kR := kRZ)
    (fun xs h st q => jm [2, 0, 0, 0, 0] _ (fun v0 q => apS_ok [1, 1, 1, 2] _ (fun st => Ev (d + 1) none mX10_isRefused (0, 0) 17 [.ref v0, .null, .null, .null, .null] st h (QZ z)) st (fun s0 s1 s2 s3 q => tX10_isRefused_17 v0 s0 s1 s2 s3 h q) q) q)
    (fun _ _ _ q => nos q)
    kRZ_ok (Or.inr rfl) (by decide +kernel) (by decide +kernel) hf
def wX10_isRefused_4 : List En := [(.aload_n 0, 0, 0, 0), (.iconst 1, 0, 0, 0), (.putfield 122, 173, 10, 11), (.goto 22, 31, 0, 0)]
def fX10_isRefused_4 (v0 : Nat) (h : aH) : Option (Int32 × aH) :=
  (pWV h 10 v0 11 (.int (kI 1))).bind fun h1 =>
  fX10_isRefused_31 v0 h1
theorem tX10_isRefused_4 {d : Nat} {z : Int32 × aH} (v0 : Nat) (h : aH) (hf : fX10_isRefused_4 v0 h = some z) : Ev (d + 1) none mX10_isRefused (0, 0) 4 [.ref v0, .null, .null, .null, .null] [] h (QZ z) := 
  go_ok (X := none) (blk := wX10_isRefused_4) (np := 12) (tt := 31) (kN := fun _ _ _ => none) (kT := fun xs h st => app [2, 0, 0, 0, 0] (fun v0 => apS [] (fX10_isRefused_31 v0 h) st) xs) (kR := kRZ)
    (fun _ _ _ q => nos q)
    (fun xs h st q => jm [2, 0, 0, 0, 0] _ (fun v0 q => apS_ok [] _ (fun st => Ev (d + 1) none mX10_isRefused (0, 0) 31 [.ref v0, .null, .null, .null, .null] st h (QZ z)) st (fun q => tX10_isRefused_31 v0 h q) q) q)
    kRZ_ok (Or.inr rfl) (by decide +kernel) (by decide +kernel) hf
def wX10_isRefused_0 : List En := [(.iload_n 1, 0, 0, 0), (.ifCond .eq 11, 12, 0, 0)]
def fX10_isRefused_0 (v0 : Nat) (v1 : Int32) (v2 : Int32) (v3 : Int32) (v4 : Int32) (h : aH) : Option (Int32 × aH) :=
  if v1 = 0 then fX10_isRefused_12 v0 v2 v3 v4 h else fX10_isRefused_4 v0 h
theorem tX10_isRefused_0 {d : Nat} {z : Int32 × aH} (v0 : Nat) (v1 : Int32) (v2 : Int32) (v3 : Int32) (v4 : Int32) (h : aH) (hf : fX10_isRefused_0 v0 v1 v2 v3 v4 h = some z) : Ev (d + 1) none mX10_isRefused (0, 0) 0 [.ref v0, .int v1, .int v2, .int v3, .int v4] [] h (QZ z) := 
  go_ok (X := none) (blk := wX10_isRefused_0) (np := 4) (tt := 12) (kN := fun xs h st => app [2, 0, 0, 0, 0] (fun v0 => apS [] (fX10_isRefused_4 v0 h) st) xs) (kT := fun xs h st => app [2, 0, 1, 1, 1] (fun v0 v2 v3 v4 => apS [] (fX10_isRefused_12 v0 v2 v3 v4 h) st) xs) (kR := kRZ)
    (fun xs h st q => jm [2, 0, 0, 0, 0] _ (fun v0 q => apS_ok [] _ (fun st => Ev (d + 1) none mX10_isRefused (0, 0) 4 [.ref v0, .null, .null, .null, .null] st h (QZ z)) st (fun q => tX10_isRefused_4 v0 h q) q) q)
    (fun xs h st q => jm [2, 0, 1, 1, 1] _ (fun v0 v2 v3 v4 q => apS_ok [] _ (fun st => Ev (d + 1) none mX10_isRefused (0, 0) 12 [.ref v0, .null, .int v2, .int v3, .int v4] st h (QZ z)) st (fun q => tX10_isRefused_12 v0 v2 v3 v4 h q) q) q)
    kRZ_ok (Or.inr rfl) (by decide +kernel) (by decide +kernel) hf
def gX10_isRefused (v0 : Nat) (v1 : Int32) (v2 : Int32) (v3 : Int32) (v4 : Int32) (h : aH) : Option (Int32 × aH) := fX10_isRefused_0 v0 v1 v2 v3 v4 h
theorem zX10_isRefused {d : Nat} {z : Int32 × aH} {v0 : Nat} {v1 : Int32} {v2 : Int32} {v3 : Int32} {v4 : Int32} {h : aH} (q : gX10_isRefused v0 v1 v2 v3 v4 h = some z) : CT (d + 1) mX10_isRefused (0, 0) [.ref v0, .int v1, .int v2, .int v3, .int v4] h (QZ z) :=
  ct_ev (by decide +kernel) (Nat.le_of_ble_eq_true rfl) QZ_r (jm [2, 1, 1, 1, 1] (fun v0 v1 v2 v3 v4 => fX10_isRefused_0 v0 v1 v2 v3 v4 h) (fun v0 v1 v2 v3 v4 q => tX10_isRefused_0 v0 v1 v2 v3 v4 h q) q)
def wX10_nameWith_23 : List En := [(.ireturn, 0, 0, 0)]
def fX10_nameWith_23 (s0 : Int32) (h : aH) : Option (Int32 × aH) :=
  some (s0, h)
theorem tX10_nameWith_23 {d : Nat} {z : Int32 × aH} (s0 : Int32) (h : aH) (hf : fX10_nameWith_23 s0 h = some z) : Ev (d + 4) none mX10_nameWith (0, 0) 23 [.null, .null] [.int s0] h (QI z) := 
  go_ok (X := none) (blk := wX10_nameWith_23) (np := 24) (tt := 0) (kN := fun _ _ _ => none) (kT := fun _ _ _ => none) (kR := kRI)
    (fun _ _ _ q => nos q)
    (fun _ _ _ q => nos q)
    kRI_ok (Or.inr rfl) (by decide +kernel) (by decide +kernel) hf
theorem kqX10_nameWith_20 : okC mX10_nameWith 20 (.invokevirtual 194) 94 89 0 1 = true := by decide +kernel
def fX10_nameWith_20 (s0 : Int32) (s1 : Nat) (h : aH) : Option (Int32 × aH) :=
  (isO h 10 s1).bind fun _ =>
  (gX10_dishWithGuest s1 s0 h).bind fun r =>
  fX10_nameWith_23 r.1 r.2
theorem tX10_nameWith_20 {d : Nat} {z : Int32 × aH} (s0 : Int32) (s1 : Nat) (h : aH) (hf : fX10_nameWith_20 s0 s1 h = some z) : Ev (d + 4) none mX10_nameWith (0, 0) 20 [.null, .null] [.int s0, .ref s1] h (QI z) := by
  obtain ⟨_, h1, hf⟩ := bnd hf
  obtain ⟨fs, ho⟩ := isO_ok h1
  obtain ⟨r, h2, hf⟩ := bnd hf
  refine ev_V kqX10_nameWith_20 jX10_dishWithGuest (zX10_dishWithGuest (d := d + 0) h2) ho rfl rfl (Nat.le_of_ble_eq_true rfl) rfl (as := [.int s0]) (rest := []) rfl (Nat.le_of_ble_eq_true rfl) (fun _ _ hq => ?_)
  obtain ⟨rfl, rfl⟩ := hq
  exact jm [0, 0] (fX10_nameWith_23 r.1 r.2) (fun q => tX10_nameWith_23 r.1 r.2 q) hf
def wX10_nameWith_18 : List En := [(.aload_n 0, 0, 0, 0), (.iload_n 1, 0, 0, 0)]
def fX10_nameWith_18 (v0 : Nat) (v1 : Int32) (h : aH) : Option (Int32 × aH) :=
  fX10_nameWith_20 v1 v0 h
theorem tX10_nameWith_18 {d : Nat} {z : Int32 × aH} (v0 : Nat) (v1 : Int32) (h : aH) (hf : fX10_nameWith_18 v0 v1 h = some z) : Ev (d + 4) none mX10_nameWith (0, 0) 18 [.ref v0, .int v1] [] h (QI z) := 
  go_ok (X := none) (blk := wX10_nameWith_18) (np := 20) (tt := 0) (kN := fun xs h st => app [0, 0] (apS [1, 2] (fun s0 s1 => fX10_nameWith_20 s0 s1 h) st) xs) (kT := fun _ _ _ => none) (kR := kRI)
    (fun xs h st q => jm [0, 0] _ (fun q => apS_ok [1, 2] _ (fun st => Ev (d + 4) none mX10_nameWith (0, 0) 20 [.null, .null] st h (QI z)) st (fun s0 s1 q => tX10_nameWith_20 s0 s1 h q) q) q)
    (fun _ _ _ q => nos q)
    kRI_ok (Or.inr rfl) (by decide +kernel) (by decide +kernel) hf
def wX10_nameWith_16 : List En := [(.iconst (-1), 0, 0, 0), (.ireturn, 0, 0, 0)]
def fX10_nameWith_16 (h : aH) : Option (Int32 × aH) :=
  some ((kI (-1)), h)
theorem tX10_nameWith_16 {d : Nat} {z : Int32 × aH} (h : aH) (hf : fX10_nameWith_16 h = some z) : Ev (d + 4) none mX10_nameWith (0, 0) 16 [.null, .null] [] h (QI z) := 
  go_ok (X := none) (blk := wX10_nameWith_16) (np := 18) (tt := 0) (kN := fun _ _ _ => none) (kT := fun _ _ _ => none) (kR := kRI)
    (fun _ _ _ q => nos q)
    (fun _ _ _ q => nos q)
    kRI_ok (Or.inr rfl) (by decide +kernel) (by decide +kernel) hf
def wX10_nameWith_13 : List En := [(.ifCond .eq 5, 18, 0, 0)]
def fX10_nameWith_13 (v0 : Nat) (v1 : Int32) (s0 : Int32) (h : aH) : Option (Int32 × aH) :=
  if s0 = 0 then fX10_nameWith_18 v0 v1 h else fX10_nameWith_16 h
theorem tX10_nameWith_13 {d : Nat} {z : Int32 × aH} (v0 : Nat) (v1 : Int32) (s0 : Int32) (h : aH) (hf : fX10_nameWith_13 v0 v1 s0 h = some z) : Ev (d + 4) none mX10_nameWith (0, 0) 13 [.ref v0, .int v1] [.int s0] h (QI z) := 
  go_ok (X := none) (blk := wX10_nameWith_13) (np := 16) (tt := 18) (kN := fun xs h st => app [0, 0] (apS [] (fX10_nameWith_16 h) st) xs) (kT := fun xs h st => app [2, 1] (fun v0 v1 => apS [] (fX10_nameWith_18 v0 v1 h) st) xs) (kR := kRI)
    (fun xs h st q => jm [0, 0] _ (fun q => apS_ok [] _ (fun st => Ev (d + 4) none mX10_nameWith (0, 0) 16 [.null, .null] st h (QI z)) st (fun q => tX10_nameWith_16 h q) q) q)
    (fun xs h st q => jm [2, 1] _ (fun v0 v1 q => apS_ok [] _ (fun st => Ev (d + 4) none mX10_nameWith (0, 0) 18 [.ref v0, .int v1] st h (QI z)) st (fun q => tX10_nameWith_18 v0 v1 h q) q) q)
    kRI_ok (Or.inr rfl) (by decide +kernel) (by decide +kernel) hf
theorem kqX10_nameWith_10 : okC mX10_nameWith 10 (.invokevirtual 190) 92 87 0 4 = true := by decide +kernel
def fX10_nameWith_10 (v0 : Nat) (v1 : Int32) (s0 : Int32) (s1 : Int32) (s2 : Int32) (s3 : Int32) (s4 : Nat) (h : aH) : Option (Int32 × aH) :=
  (isO h 10 s4).bind fun _ =>
  (gX10_isRefused s4 s3 s2 s1 s0 h).bind fun r =>
  fX10_nameWith_13 v0 v1 r.1 r.2
theorem tX10_nameWith_10 {d : Nat} {z : Int32 × aH} (v0 : Nat) (v1 : Int32) (s0 : Int32) (s1 : Int32) (s2 : Int32) (s3 : Int32) (s4 : Nat) (h : aH) (hf : fX10_nameWith_10 v0 v1 s0 s1 s2 s3 s4 h = some z) : Ev (d + 4) none mX10_nameWith (0, 0) 10 [.ref v0, .int v1] [.int s0, .int s1, .int s2, .int s3, .ref s4] h (QI z) := by
  obtain ⟨_, h1, hf⟩ := bnd hf
  obtain ⟨fs, ho⟩ := isO_ok h1
  obtain ⟨r, h2, hf⟩ := bnd hf
  refine ev_V kqX10_nameWith_10 jX10_isRefused (zX10_isRefused (d := d + 2) h2) ho rfl rfl (Nat.le_of_ble_eq_true rfl) rfl (as := [.int s3, .int s2, .int s1, .int s0]) (rest := []) rfl (Nat.le_of_ble_eq_true rfl) (fun _ _ hq => ?_)
  obtain ⟨-, rfl, rfl⟩ := hq
  exact jm [2, 1] (fun v0 v1 => fX10_nameWith_13 v0 v1 r.1 r.2) (fun v0 v1 q => tX10_nameWith_13 v0 v1 r.1 r.2 q) hf
def wX10_nameWith_5 : List En := [(.iload_n 1, 0, 0, 0), (.iconst 0, 0, 0, 0), (.sipush 999, 0, 0, 0)]
def fX10_nameWith_5 (v0 : Nat) (v1 : Int32) (s0 : Int32) (s1 : Nat) (h : aH) : Option (Int32 × aH) :=
  fX10_nameWith_10 v0 v1 (kS 999) (kI 0) v1 s0 s1 h
theorem tX10_nameWith_5 {d : Nat} {z : Int32 × aH} (v0 : Nat) (v1 : Int32) (s0 : Int32) (s1 : Nat) (h : aH) (hf : fX10_nameWith_5 v0 v1 s0 s1 h = some z) : Ev (d + 4) none mX10_nameWith (0, 0) 5 [.ref v0, .int v1] [.int s0, .ref s1] h (QI z) := 
  go_ok (X := none) (blk := wX10_nameWith_5) (np := 10) (tt := 0) (kN := fun xs h st => app [2, 1] (fun v0 v1 => apS [1, 1, 1, 1, 2] (fun s0 s1 s2 s3 s4 => fX10_nameWith_10 v0 v1 s0 s1 s2 s3 s4 h) st) xs) (kT := fun _ _ _ => none) (kR := kRI)
    (fun xs h st q => jm [2, 1] _ (fun v0 v1 q => apS_ok [1, 1, 1, 1, 2] _ (fun st => Ev (d + 4) none mX10_nameWith (0, 0) 10 [.ref v0, .int v1] st h (QI z)) st (fun s0 s1 s2 s3 s4 q => tX10_nameWith_10 v0 v1 s0 s1 s2 s3 s4 h q) q) q)
    (fun _ _ _ q => nos q)
    kRI_ok (Or.inr rfl) (by decide +kernel) (by decide +kernel) hf
theorem kqX10_nameWith_2 : okC mX10_nameWith 2 (.invokevirtual 159) 68 52 0 0 = true := by decide +kernel
def fX10_nameWith_2 (v0 : Nat) (v1 : Int32) (s0 : Nat) (s1 : Nat) (h : aH) : Option (Int32 × aH) :=
  (isO h 10 s0).bind fun _ =>
  (gX10_lacksTable s0 h).bind fun r =>
  fX10_nameWith_5 v0 v1 r.1 s1 r.2
theorem tX10_nameWith_2 {d : Nat} {z : Int32 × aH} (v0 : Nat) (v1 : Int32) (s0 : Nat) (s1 : Nat) (h : aH) (hf : fX10_nameWith_2 v0 v1 s0 s1 h = some z) : Ev (d + 4) none mX10_nameWith (0, 0) 2 [.ref v0, .int v1] [.ref s0, .ref s1] h (QI z) := by
  obtain ⟨_, h1, hf⟩ := bnd hf
  obtain ⟨fs, ho⟩ := isO_ok h1
  obtain ⟨r, h2, hf⟩ := bnd hf
  refine ev_V kqX10_nameWith_2 jX10_lacksTable (zX10_lacksTable (d := d + 3) h2) ho rfl rfl (Nat.le_of_ble_eq_true rfl) rfl (as := []) (rest := [.ref s1]) rfl (Nat.le_of_ble_eq_true rfl) (fun _ _ hq => ?_)
  obtain ⟨-, rfl, rfl⟩ := hq
  exact jm [2, 1] (fun v0 v1 => fX10_nameWith_5 v0 v1 r.1 s1 r.2) (fun v0 v1 q => tX10_nameWith_5 v0 v1 r.1 s1 r.2 q) hf
def wX10_nameWith_0 : List En := [(.aload_n 0, 0, 0, 0), (.aload_n 0, 0, 0, 0)]
def fX10_nameWith_0 (v0 : Nat) (v1 : Int32) (h : aH) : Option (Int32 × aH) :=
  fX10_nameWith_2 v0 v1 v0 v0 h
theorem tX10_nameWith_0 {d : Nat} {z : Int32 × aH} (v0 : Nat) (v1 : Int32) (h : aH) (hf : fX10_nameWith_0 v0 v1 h = some z) : Ev (d + 4) none mX10_nameWith (0, 0) 0 [.ref v0, .int v1] [] h (QI z) := 
  go_ok (X := none) (blk := wX10_nameWith_0) (np := 2) (tt := 0) (kN := fun xs h st => app [2, 1] (fun v0 v1 => apS [2, 2] (fun s0 s1 => fX10_nameWith_2 v0 v1 s0 s1 h) st) xs) (kT := fun _ _ _ => none) (kR := kRI)
    (fun xs h st q => jm [2, 1] _ (fun v0 v1 q => apS_ok [2, 2] _ (fun st => Ev (d + 4) none mX10_nameWith (0, 0) 2 [.ref v0, .int v1] st h (QI z)) st (fun s0 s1 q => tX10_nameWith_2 v0 v1 s0 s1 h q) q) q)
    (fun _ _ _ q => nos q)
    kRI_ok (Or.inr rfl) (by decide +kernel) (by decide +kernel) hf
def gX10_nameWith (v0 : Nat) (v1 : Int32) (h : aH) : Option (Int32 × aH) := fX10_nameWith_0 v0 v1 h
theorem zX10_nameWith {d : Nat} {z : Int32 × aH} {v0 : Nat} {v1 : Int32} {h : aH} (q : gX10_nameWith v0 v1 h = some z) : CT (d + 4) mX10_nameWith (0, 0) [.ref v0, .int v1] h (QI z) :=
  ct_ev (by decide +kernel) (Nat.le_of_ble_eq_true rfl) QI_r (jm [2, 1] (fun v0 v1 => fX10_nameWith_0 v0 v1 h) (fun v0 v1 q => tX10_nameWith_0 v0 v1 h q) q)
def wX10_guestFor_48 : List En := [(.ireturn, 0, 0, 0)]
def fX10_guestFor_48 (s0 : Int32) (h : aH) : Option (Int32 × aH) :=
  some (s0, h)
theorem tX10_guestFor_48 {d : Nat} {z : Int32 × aH} (s0 : Int32) (h : aH) (hf : fX10_guestFor_48 s0 h = some z) : Ev (d + 3) none mX10_guestFor (0, 0) 48 [.null, .null] [.int s0] h (QI z) := 
  go_ok (X := none) (blk := wX10_guestFor_48) (np := 49) (tt := 0) (kN := fun _ _ _ => none) (kT := fun _ _ _ => none) (kR := kRI)
    (fun _ _ _ q => nos q)
    (fun _ _ _ q => nos q)
    kRI_ok (Or.inr rfl) (by decide +kernel) (by decide +kernel) hf
theorem kqX10_guestFor_45 : okC mX10_guestFor 45 (.invokevirtual 119) 60 44 0 1 = true := by decide +kernel
def fX10_guestFor_45 (s0 : Int32) (s1 : Nat) (h : aH) : Option (Int32 × aH) :=
  (isO h 10 s1).bind fun _ =>
  (gX10_answer s1 s0 h).bind fun r =>
  fX10_guestFor_48 r.1 r.2
theorem tX10_guestFor_45 {d : Nat} {z : Int32 × aH} (s0 : Int32) (s1 : Nat) (h : aH) (hf : fX10_guestFor_45 s0 s1 h = some z) : Ev (d + 3) none mX10_guestFor (0, 0) 45 [.null, .null] [.int s0, .ref s1] h (QI z) := by
  obtain ⟨_, h1, hf⟩ := bnd hf
  obtain ⟨fs, ho⟩ := isO_ok h1
  obtain ⟨r, h2, hf⟩ := bnd hf
  refine ev_V kqX10_guestFor_45 jX10_answer (zX10_answer (d := d + 2) h2) ho rfl rfl (Nat.le_of_ble_eq_true rfl) rfl (as := [.int s0]) (rest := []) rfl (Nat.le_of_ble_eq_true rfl) (fun _ _ hq => ?_)
  obtain ⟨rfl, rfl⟩ := hq
  exact jm [0, 0] (fX10_guestFor_48 r.1 r.2) (fun q => tX10_guestFor_48 r.1 r.2 q) hf
def wX10_guestFor_43 : List En := [(.bipush (-2), 0, 0, 0)]
def fX10_guestFor_43 (s0 : Nat) (h : aH) : Option (Int32 × aH) :=
  fX10_guestFor_45 (kB (-2)) s0 h
theorem tX10_guestFor_43 {d : Nat} {z : Int32 × aH} (s0 : Nat) (h : aH) (hf : fX10_guestFor_43 s0 h = some z) : Ev (d + 3) none mX10_guestFor (0, 0) 43 [.null, .null] [.ref s0] h (QI z) := 
  go_ok (X := none) (blk := wX10_guestFor_43) (np := 45) (tt := 0) (kN := fun xs h st => app [0, 0] (apS [1, 2] (fun s0 s1 => fX10_guestFor_45 s0 s1 h) st) xs) (kT := fun _ _ _ => none) (kR := kRI)
    (fun xs h st q => jm [0, 0] _ (fun q => apS_ok [1, 2] _ (fun st => Ev (d + 3) none mX10_guestFor (0, 0) 45 [.null, .null] st h (QI z)) st (fun s0 s1 q => tX10_guestFor_45 s0 s1 h q) q) q)
    (fun _ _ _ q => nos q)
    kRI_ok (Or.inr rfl) (by decide +kernel) (by decide +kernel) hf
def wX10_guestFor_31 : List En := [(.aload_n 0, 0, 0, 0), (.getfield 75, 171, 10, 9), (.getfield 153, 141, 9, 11), (.iload_n 1, 0, 0, 0), (.iaload, 0, 0, 0), (.goto 5, 45, 0, 0)]
def fX10_guestFor_31 (v0 : Nat) (v1 : Int32) (s0 : Nat) (h : aH) : Option (Int32 × aH) :=
  (gFR h 10 v0 9).bind fun t1 =>
  (gFR h 9 t1 11).bind fun t2 =>
  (aRI (h[t2]?) v1).bind fun t3 =>
  fX10_guestFor_45 t3 s0 h
theorem tX10_guestFor_31 {d : Nat} {z : Int32 × aH} (v0 : Nat) (v1 : Int32) (s0 : Nat) (h : aH) (hf : fX10_guestFor_31 v0 v1 s0 h = some z) : Ev (d + 3) none mX10_guestFor (0, 0) 31 [.ref v0, .int v1] [.ref s0] h (QI z) := 
  go_ok (X := none) (blk := wX10_guestFor_31) (np := 43) (tt := 45) (kN := fun _ _ _ => none) (kT := fun xs h st => app [0, 0] (apS [1, 2] (fun s0 s1 => fX10_guestFor_45 s0 s1 h) st) xs) (kR := kRI)
    (fun _ _ _ q => nos q)
    (fun xs h st q => jm [0, 0] _ (fun q => apS_ok [1, 2] _ (fun st => Ev (d + 3) none mX10_guestFor (0, 0) 45 [.null, .null] st h (QI z)) st (fun s0 s1 q => tX10_guestFor_45 s0 s1 h q) q) q)
    kRI_ok (Or.inr rfl) (by decide +kernel) (by decide +kernel) hf
def wX10_guestFor_28 : List En := [(.if_icmp .le 15, 43, 0, 0)]
def fX10_guestFor_28 (v0 : Nat) (v1 : Int32) (s0 : Int32) (s1 : Int32) (s2 : Nat) (h : aH) : Option (Int32 × aH) :=
  if s0 < s1 then fX10_guestFor_31 v0 v1 s2 h else fX10_guestFor_43 s2 h
theorem tX10_guestFor_28 {d : Nat} {z : Int32 × aH} (v0 : Nat) (v1 : Int32) (s0 : Int32) (s1 : Int32) (s2 : Nat) (h : aH) (hf : fX10_guestFor_28 v0 v1 s0 s1 s2 h = some z) : Ev (d + 3) none mX10_guestFor (0, 0) 28 [.ref v0, .int v1] [.int s0, .int s1, .ref s2] h (QI z) := 
  go_ok (X := none) (blk := wX10_guestFor_28) (np := 31) (tt := 43) (kN := fun xs h st => app [2, 1] (fun v0 v1 => apS [2] (fun s0 => fX10_guestFor_31 v0 v1 s0 h) st) xs) (kT := fun xs h st => app [0, 0] (apS [2] (fun s0 => fX10_guestFor_43 s0 h) st) xs) (kR := kRI)
    (fun xs h st q => jm [2, 1] _ (fun v0 v1 q => apS_ok [2] _ (fun st => Ev (d + 3) none mX10_guestFor (0, 0) 31 [.ref v0, .int v1] st h (QI z)) st (fun s0 q => tX10_guestFor_31 v0 v1 s0 h q) q) q)
    (fun xs h st q => jm [0, 0] _ (fun q => apS_ok [2] _ (fun st => Ev (d + 3) none mX10_guestFor (0, 0) 43 [.null, .null] st h (QI z)) st (fun s0 q => tX10_guestFor_43 s0 h q) q) q)
    kRI_ok (Or.inr rfl) (by decide +kernel) (by decide +kernel) hf
theorem kqX10_guestFor_25 : okC mX10_guestFor 25 (.invokevirtual 197) 95 90 0 0 = true := by decide +kernel
def fX10_guestFor_25 (v0 : Nat) (v1 : Int32) (s0 : Nat) (s1 : Int32) (s2 : Nat) (h : aH) : Option (Int32 × aH) :=
  (isO h 10 s0).bind fun _ =>
  (gX10_greatestSeen s0 h).bind fun r =>
  fX10_guestFor_28 v0 v1 r.1 s1 s2 r.2
theorem tX10_guestFor_25 {d : Nat} {z : Int32 × aH} (v0 : Nat) (v1 : Int32) (s0 : Nat) (s1 : Int32) (s2 : Nat) (h : aH) (hf : fX10_guestFor_25 v0 v1 s0 s1 s2 h = some z) : Ev (d + 3) none mX10_guestFor (0, 0) 25 [.ref v0, .int v1] [.ref s0, .int s1, .ref s2] h (QI z) := by
  obtain ⟨_, h1, hf⟩ := bnd hf
  obtain ⟨fs, ho⟩ := isO_ok h1
  obtain ⟨r, h2, hf⟩ := bnd hf
  refine ev_V kqX10_guestFor_25 jX10_greatestSeen (zX10_greatestSeen (d := d + 0) h2) ho rfl rfl (Nat.le_of_ble_eq_true rfl) rfl (as := []) (rest := [.int s1, .ref s2]) rfl (Nat.le_of_ble_eq_true rfl) (fun _ _ hq => ?_)
  obtain ⟨rfl, rfl⟩ := hq
  exact jm [2, 1] (fun v0 v1 => fX10_guestFor_28 v0 v1 r.1 s1 s2 r.2) (fun v0 v1 q => tX10_guestFor_28 v0 v1 r.1 s1 s2 r.2 q) hf
def wX10_guestFor_14 : List En := [(.aload_n 0, 0, 0, 0), (.aload_n 0, 0, 0, 0), (.getfield 75, 171, 10, 9), (.getfield 153, 141, 9, 11), (.iload_n 1, 0, 0, 0), (.iaload, 0, 0, 0), (.aload_n 0, 0, 0, 0)]
def fX10_guestFor_14 (v0 : Nat) (v1 : Int32) (h : aH) : Option (Int32 × aH) :=
  (gFR h 10 v0 9).bind fun t1 =>
  (gFR h 9 t1 11).bind fun t2 =>
  (aRI (h[t2]?) v1).bind fun t3 =>
  fX10_guestFor_25 v0 v1 v0 t3 v0 h
theorem tX10_guestFor_14 {d : Nat} {z : Int32 × aH} (v0 : Nat) (v1 : Int32) (h : aH) (hf : fX10_guestFor_14 v0 v1 h = some z) : Ev (d + 3) none mX10_guestFor (0, 0) 14 [.ref v0, .int v1] [] h (QI z) := 
  go_ok (X := none) (blk := wX10_guestFor_14) (np := 25) (tt := 0) (kN := fun xs h st => app [2, 1] (fun v0 v1 => apS [2, 1, 2] (fun s0 s1 s2 => fX10_guestFor_25 v0 v1 s0 s1 s2 h) st) xs) (kT := fun _ _ _ => none) (kR := kRI)
    (fun xs h st q => jm [2, 1] _ (fun v0 v1 q => apS_ok [2, 1, 2] _ (fun st => Ev (d + 3) none mX10_guestFor (0, 0) 25 [.ref v0, .int v1] st h (QI z)) st (fun s0 s1 s2 q => tX10_guestFor_25 v0 v1 s0 s1 s2 h q) q) q)
    (fun _ _ _ q => nos q)
    kRI_ok (Or.inr rfl) (by decide +kernel) (by decide +kernel) hf
def wX10_guestFor_13 : List En := [(.ireturn, 0, 0, 0)]
def fX10_guestFor_13 (s0 : Int32) (h : aH) : Option (Int32 × aH) :=
  some (s0, h)
theorem tX10_guestFor_13 {d : Nat} {z : Int32 × aH} (s0 : Int32) (h : aH) (hf : fX10_guestFor_13 s0 h = some z) : Ev (d + 3) none mX10_guestFor (0, 0) 13 [.null, .null] [.int s0] h (QI z) := 
  go_ok (X := none) (blk := wX10_guestFor_13) (np := 14) (tt := 0) (kN := fun _ _ _ => none) (kT := fun _ _ _ => none) (kR := kRI)
    (fun _ _ _ q => nos q)
    (fun _ _ _ q => nos q)
    kRI_ok (Or.inr rfl) (by decide +kernel) (by decide +kernel) hf
theorem kqX10_guestFor_10 : okC mX10_guestFor 10 (.invokevirtual 94) 15 8 0 1 = true := by decide +kernel
def fX10_guestFor_10 (s0 : Int32) (s1 : Nat) (h : aH) : Option (Int32 × aH) :=
  (isO h 10 s1).bind fun _ =>
  (gX10_refuse s1 s0 h).bind fun r =>
  fX10_guestFor_13 r.1 r.2
theorem tX10_guestFor_10 {d : Nat} {z : Int32 × aH} (s0 : Int32) (s1 : Nat) (h : aH) (hf : fX10_guestFor_10 s0 s1 h = some z) : Ev (d + 3) none mX10_guestFor (0, 0) 10 [.null, .null] [.int s0, .ref s1] h (QI z) := by
  obtain ⟨_, h1, hf⟩ := bnd hf
  obtain ⟨fs, ho⟩ := isO_ok h1
  obtain ⟨r, h2, hf⟩ := bnd hf
  refine ev_V kqX10_guestFor_10 jX10_refuse (zX10_refuse (d := d + 2) h2) ho rfl rfl (Nat.le_of_ble_eq_true rfl) rfl (as := [.int s0]) (rest := []) rfl (Nat.le_of_ble_eq_true rfl) (fun _ _ hq => ?_)
  obtain ⟨rfl, rfl⟩ := hq
  exact jm [0, 0] (fX10_guestFor_13 r.1 r.2) (fun q => tX10_guestFor_13 r.1 r.2 q) hf
def wX10_guestFor_8 : List En := [(.aload_n 0, 0, 0, 0), (.iconst 1, 0, 0, 0)]
def fX10_guestFor_8 (v0 : Nat) (h : aH) : Option (Int32 × aH) :=
  fX10_guestFor_10 (kI 1) v0 h
theorem tX10_guestFor_8 {d : Nat} {z : Int32 × aH} (v0 : Nat) (h : aH) (hf : fX10_guestFor_8 v0 h = some z) : Ev (d + 3) none mX10_guestFor (0, 0) 8 [.ref v0, .null] [] h (QI z) := 
  go_ok (X := none) (blk := wX10_guestFor_8) (np := 10) (tt := 0) (kN := fun xs h st => app [0, 0] (apS [1, 2] (fun s0 s1 => fX10_guestFor_10 s0 s1 h) st) xs) (kT := fun _ _ _ => none) (kR := kRI)
    (fun xs h st q => jm [0, 0] _ (fun q => apS_ok [1, 2] _ (fun st => Ev (d + 3) none mX10_guestFor (0, 0) 10 [.null, .null] st h (QI z)) st (fun s0 s1 q => tX10_guestFor_10 s0 s1 h q) q) q)
    (fun _ _ _ q => nos q)
    kRI_ok (Or.inr rfl) (by decide +kernel) (by decide +kernel) hf
def wX10_guestFor_5 : List En := [(.ifCond .eq 9, 14, 0, 0)]
def fX10_guestFor_5 (v0 : Nat) (v1 : Int32) (s0 : Int32) (h : aH) : Option (Int32 × aH) :=
  if s0 = 0 then fX10_guestFor_14 v0 v1 h else fX10_guestFor_8 v0 h
theorem tX10_guestFor_5 {d : Nat} {z : Int32 × aH} (v0 : Nat) (v1 : Int32) (s0 : Int32) (h : aH) (hf : fX10_guestFor_5 v0 v1 s0 h = some z) : Ev (d + 3) none mX10_guestFor (0, 0) 5 [.ref v0, .int v1] [.int s0] h (QI z) := 
  go_ok (X := none) (blk := wX10_guestFor_5) (np := 8) (tt := 14) (kN := fun xs h st => app [2, 0] (fun v0 => apS [] (fX10_guestFor_8 v0 h) st) xs) (kT := fun xs h st => app [2, 1] (fun v0 v1 => apS [] (fX10_guestFor_14 v0 v1 h) st) xs) (kR := kRI)
    (fun xs h st q => jm [2, 0] _ (fun v0 q => apS_ok [] _ (fun st => Ev (d + 3) none mX10_guestFor (0, 0) 8 [.ref v0, .null] st h (QI z)) st (fun q => tX10_guestFor_8 v0 h q) q) q)
    (fun xs h st q => jm [2, 1] _ (fun v0 v1 q => apS_ok [] _ (fun st => Ev (d + 3) none mX10_guestFor (0, 0) 14 [.ref v0, .int v1] st h (QI z)) st (fun q => tX10_guestFor_14 v0 v1 h q) q) q)
    kRI_ok (Or.inr rfl) (by decide +kernel) (by decide +kernel) hf
theorem kqX10_guestFor_2 : okC mX10_guestFor 2 (.invokevirtual 150) 66 50 0 1 = true := by decide +kernel
def fX10_guestFor_2 (v0 : Nat) (v1 : Int32) (s0 : Int32) (s1 : Nat) (h : aH) : Option (Int32 × aH) :=
  (isO h 10 s1).bind fun _ =>
  (gX10_lacksName s1 s0 h).bind fun r =>
  fX10_guestFor_5 v0 v1 r.1 r.2
theorem tX10_guestFor_2 {d : Nat} {z : Int32 × aH} (v0 : Nat) (v1 : Int32) (s0 : Int32) (s1 : Nat) (h : aH) (hf : fX10_guestFor_2 v0 v1 s0 s1 h = some z) : Ev (d + 3) none mX10_guestFor (0, 0) 2 [.ref v0, .int v1] [.int s0, .ref s1] h (QI z) := by
  obtain ⟨_, h1, hf⟩ := bnd hf
  obtain ⟨fs, ho⟩ := isO_ok h1
  obtain ⟨r, h2, hf⟩ := bnd hf
  refine ev_V kqX10_guestFor_2 jX10_lacksName (zX10_lacksName (d := d + 2) h2) ho rfl rfl (Nat.le_of_ble_eq_true rfl) rfl (as := [.int s0]) (rest := []) rfl (Nat.le_of_ble_eq_true rfl) (fun _ _ hq => ?_)
  obtain ⟨-, rfl, rfl⟩ := hq
  exact jm [2, 1] (fun v0 v1 => fX10_guestFor_5 v0 v1 r.1 r.2) (fun v0 v1 q => tX10_guestFor_5 v0 v1 r.1 r.2 q) hf
def wX10_guestFor_0 : List En := [(.aload_n 0, 0, 0, 0), (.iload_n 1, 0, 0, 0)]
def fX10_guestFor_0 (v0 : Nat) (v1 : Int32) (h : aH) : Option (Int32 × aH) :=
  fX10_guestFor_2 v0 v1 v1 v0 h
theorem tX10_guestFor_0 {d : Nat} {z : Int32 × aH} (v0 : Nat) (v1 : Int32) (h : aH) (hf : fX10_guestFor_0 v0 v1 h = some z) : Ev (d + 3) none mX10_guestFor (0, 0) 0 [.ref v0, .int v1] [] h (QI z) := 
  go_ok (X := none) (blk := wX10_guestFor_0) (np := 2) (tt := 0) (kN := fun xs h st => app [2, 1] (fun v0 v1 => apS [1, 2] (fun s0 s1 => fX10_guestFor_2 v0 v1 s0 s1 h) st) xs) (kT := fun _ _ _ => none) (kR := kRI)
    (fun xs h st q => jm [2, 1] _ (fun v0 v1 q => apS_ok [1, 2] _ (fun st => Ev (d + 3) none mX10_guestFor (0, 0) 2 [.ref v0, .int v1] st h (QI z)) st (fun s0 s1 q => tX10_guestFor_2 v0 v1 s0 s1 h q) q) q)
    (fun _ _ _ q => nos q)
    kRI_ok (Or.inr rfl) (by decide +kernel) (by decide +kernel) hf
def gX10_guestFor (v0 : Nat) (v1 : Int32) (h : aH) : Option (Int32 × aH) := fX10_guestFor_0 v0 v1 h
theorem zX10_guestFor {d : Nat} {z : Int32 × aH} {v0 : Nat} {v1 : Int32} {h : aH} (q : gX10_guestFor v0 v1 h = some z) : CT (d + 3) mX10_guestFor (0, 0) [.ref v0, .int v1] h (QI z) :=
  ct_ev (by decide +kernel) (Nat.le_of_ble_eq_true rfl) QI_r (jm [2, 1] (fun v0 v1 => fX10_guestFor_0 v0 v1 h) (fun v0 v1 q => tX10_guestFor_0 v0 v1 h q) q)
def wX10_namerIn_33 : List En := [(.aload_n 0, 0, 0, 0), (.getfield 19, 163, 10, 1), (.getfield 201, 50, 1, 1), (.getfield 202, 38, 6, 0), (.ireturn, 0, 0, 0)]
def fX10_namerIn_33 (v0 : Nat) (h : aH) : Option (Int32 × aH) :=
  (gFR h 10 v0 1).bind fun t1 =>
  (gFR h 1 t1 1).bind fun t2 =>
  (gFI h 6 t2 0).bind fun t3 =>
  some (t3, h)
theorem tX10_namerIn_33 {d : Nat} {z : Int32 × aH} (v0 : Nat) (h : aH) (hf : fX10_namerIn_33 v0 h = some z) : Ev (d + 5) none mX10_namerIn (0, 0) 33 [.ref v0, .null] [] h (QI z) := 
  go_ok (X := none) (blk := wX10_namerIn_33) (np := 44) (tt := 0) (kN := fun _ _ _ => none) (kT := fun _ _ _ => none) (kR := kRI)
    (fun _ _ _ q => nos q)
    (fun _ _ _ q => nos q)
    kRI_ok (Or.inr rfl) (by decide +kernel) (by decide +kernel) hf
theorem kqX10_namerIn_30 : okC mX10_namerIn 30 (.invokevirtual 183) 79 67 0 3 = true := by decide +kernel
def fX10_namerIn_30 (v0 : Nat) (s0 : Int32) (s1 : Nat) (s2 : Nat) (s3 : Nat) (h : aH) : Option (Int32 × aH) :=
  (isO h 1 s3).bind fun _ =>
  (gX1_walk s3 s2 s1 s0 h).bind fun r =>
  fX10_namerIn_33 v0 r
theorem tX10_namerIn_30 {d : Nat} {z : Int32 × aH} (v0 : Nat) (s0 : Int32) (s1 : Nat) (s2 : Nat) (s3 : Nat) (h : aH) (hf : fX10_namerIn_30 v0 s0 s1 s2 s3 h = some z) : Ev (d + 5) none mX10_namerIn (0, 0) 30 [.ref v0, .null] [.int s0, .ref s1, .ref s2, .ref s3] h (QI z) := by
  obtain ⟨_, h1, hf⟩ := bnd hf
  obtain ⟨fs, ho⟩ := isO_ok h1
  obtain ⟨r, h2, hf⟩ := bnd hf
  refine ev_V kqX10_namerIn_30 jX1_walk (zX1_walk (d := d + 0) h2) ho rfl rfl (Nat.le_of_ble_eq_true rfl) rfl (as := [.ref s2, .ref s1, .int s0]) (rest := []) rfl (Nat.le_of_ble_eq_true rfl) (fun _ _ hq => ?_)
  obtain ⟨rfl, hh⟩ := hq
  rw [hh]
  exact jm [2, 0] (fun v0 => fX10_namerIn_33 v0 r) (fun v0 q => tX10_namerIn_33 v0 r q) hf
def wX10_namerIn_17 : List En := [(.aload_n 0, 0, 0, 0), (.getfield 19, 163, 10, 1), (.aload_n 0, 0, 0, 0), (.getfield 75, 171, 10, 9), (.aload_n 0, 0, 0, 0), (.getfield 68, 170, 10, 8), (.iload_n 1, 0, 0, 0)]
def fX10_namerIn_17 (v0 : Nat) (v1 : Int32) (h : aH) : Option (Int32 × aH) :=
  (gFR h 10 v0 1).bind fun t1 =>
  (gFR h 10 v0 9).bind fun t2 =>
  (gFR h 10 v0 8).bind fun t3 =>
  fX10_namerIn_30 v0 v1 t3 t2 t1 h
theorem tX10_namerIn_17 {d : Nat} {z : Int32 × aH} (v0 : Nat) (v1 : Int32) (h : aH) (hf : fX10_namerIn_17 v0 v1 h = some z) : Ev (d + 5) none mX10_namerIn (0, 0) 17 [.ref v0, .int v1] [] h (QI z) := 
  go_ok (X := none) (blk := wX10_namerIn_17) (np := 30) (tt := 0) (kN := fun xs h st => app [2, 0] (fun v0 => apS [1, 2, 2, 2] (fun s0 s1 s2 s3 => fX10_namerIn_30 v0 s0 s1 s2 s3 h) st) xs) (kT := fun _ _ _ => none) (kR := kRI)
    (fun xs h st q => jm [2, 0] _ (fun v0 q => apS_ok [1, 2, 2, 2] _ (fun st => Ev (d + 5) none mX10_namerIn (0, 0) 30 [.ref v0, .null] st h (QI z)) st (fun s0 s1 s2 s3 q => tX10_namerIn_30 v0 s0 s1 s2 s3 h q) q) q)
    (fun _ _ _ q => nos q)
    kRI_ok (Or.inr rfl) (by decide +kernel) (by decide +kernel) hf
def wX10_namerIn_15 : List En := [(.iconst (-1), 0, 0, 0), (.ireturn, 0, 0, 0)]
def fX10_namerIn_15 (h : aH) : Option (Int32 × aH) :=
  some ((kI (-1)), h)
theorem tX10_namerIn_15 {d : Nat} {z : Int32 × aH} (h : aH) (hf : fX10_namerIn_15 h = some z) : Ev (d + 5) none mX10_namerIn (0, 0) 15 [.null, .null] [] h (QI z) := 
  go_ok (X := none) (blk := wX10_namerIn_15) (np := 17) (tt := 0) (kN := fun _ _ _ => none) (kT := fun _ _ _ => none) (kR := kRI)
    (fun _ _ _ q => nos q)
    (fun _ _ _ q => nos q)
    kRI_ok (Or.inr rfl) (by decide +kernel) (by decide +kernel) hf
def wX10_namerIn_12 : List En := [(.ifCond .eq 5, 17, 0, 0)]
def fX10_namerIn_12 (v0 : Nat) (v1 : Int32) (s0 : Int32) (h : aH) : Option (Int32 × aH) :=
  if s0 = 0 then fX10_namerIn_17 v0 v1 h else fX10_namerIn_15 h
theorem tX10_namerIn_12 {d : Nat} {z : Int32 × aH} (v0 : Nat) (v1 : Int32) (s0 : Int32) (h : aH) (hf : fX10_namerIn_12 v0 v1 s0 h = some z) : Ev (d + 5) none mX10_namerIn (0, 0) 12 [.ref v0, .int v1] [.int s0] h (QI z) := 
  go_ok (X := none) (blk := wX10_namerIn_12) (np := 15) (tt := 17) (kN := fun xs h st => app [0, 0] (apS [] (fX10_namerIn_15 h) st) xs) (kT := fun xs h st => app [2, 1] (fun v0 v1 => apS [] (fX10_namerIn_17 v0 v1 h) st) xs) (kR := kRI)
    (fun xs h st q => jm [0, 0] _ (fun q => apS_ok [] _ (fun st => Ev (d + 5) none mX10_namerIn (0, 0) 15 [.null, .null] st h (QI z)) st (fun q => tX10_namerIn_15 h q) q) q)
    (fun xs h st q => jm [2, 1] _ (fun v0 v1 q => apS_ok [] _ (fun st => Ev (d + 5) none mX10_namerIn (0, 0) 17 [.ref v0, .int v1] st h (QI z)) st (fun q => tX10_namerIn_17 v0 v1 h q) q) q)
    kRI_ok (Or.inr rfl) (by decide +kernel) (by decide +kernel) hf
theorem kqX10_namerIn_9 : okC mX10_namerIn 9 (.invokevirtual 190) 92 87 0 4 = true := by decide +kernel
def fX10_namerIn_9 (v0 : Nat) (v1 : Int32) (s0 : Int32) (s1 : Int32) (s2 : Int32) (s3 : Int32) (s4 : Nat) (h : aH) : Option (Int32 × aH) :=
  (isO h 10 s4).bind fun _ =>
  (gX10_isRefused s4 s3 s2 s1 s0 h).bind fun r =>
  fX10_namerIn_12 v0 v1 r.1 r.2
theorem tX10_namerIn_9 {d : Nat} {z : Int32 × aH} (v0 : Nat) (v1 : Int32) (s0 : Int32) (s1 : Int32) (s2 : Int32) (s3 : Int32) (s4 : Nat) (h : aH) (hf : fX10_namerIn_9 v0 v1 s0 s1 s2 s3 s4 h = some z) : Ev (d + 5) none mX10_namerIn (0, 0) 9 [.ref v0, .int v1] [.int s0, .int s1, .int s2, .int s3, .ref s4] h (QI z) := by
  obtain ⟨_, h1, hf⟩ := bnd hf
  obtain ⟨fs, ho⟩ := isO_ok h1
  obtain ⟨r, h2, hf⟩ := bnd hf
  refine ev_V kqX10_namerIn_9 jX10_isRefused (zX10_isRefused (d := d + 3) h2) ho rfl rfl (Nat.le_of_ble_eq_true rfl) rfl (as := [.int s3, .int s2, .int s1, .int s0]) (rest := []) rfl (Nat.le_of_ble_eq_true rfl) (fun _ _ hq => ?_)
  obtain ⟨-, rfl, rfl⟩ := hq
  exact jm [2, 1] (fun v0 v1 => fX10_namerIn_12 v0 v1 r.1 r.2) (fun v0 v1 q => tX10_namerIn_12 v0 v1 r.1 r.2 q) hf
def wX10_namerIn_5 : List En := [(.iload_n 1, 0, 0, 0), (.iconst 1, 0, 0, 0), (.bipush 60, 0, 0, 0)]
def fX10_namerIn_5 (v0 : Nat) (v1 : Int32) (s0 : Int32) (s1 : Nat) (h : aH) : Option (Int32 × aH) :=
  fX10_namerIn_9 v0 v1 (kB 60) (kI 1) v1 s0 s1 h
theorem tX10_namerIn_5 {d : Nat} {z : Int32 × aH} (v0 : Nat) (v1 : Int32) (s0 : Int32) (s1 : Nat) (h : aH) (hf : fX10_namerIn_5 v0 v1 s0 s1 h = some z) : Ev (d + 5) none mX10_namerIn (0, 0) 5 [.ref v0, .int v1] [.int s0, .ref s1] h (QI z) := 
  go_ok (X := none) (blk := wX10_namerIn_5) (np := 9) (tt := 0) (kN := fun xs h st => app [2, 1] (fun v0 v1 => apS [1, 1, 1, 1, 2] (fun s0 s1 s2 s3 s4 => fX10_namerIn_9 v0 v1 s0 s1 s2 s3 s4 h) st) xs) (kT := fun _ _ _ => none) (kR := kRI)
    (fun xs h st q => jm [2, 1] _ (fun v0 v1 q => apS_ok [1, 1, 1, 1, 2] _ (fun st => Ev (d + 5) none mX10_namerIn (0, 0) 9 [.ref v0, .int v1] st h (QI z)) st (fun s0 s1 s2 s3 s4 q => tX10_namerIn_9 v0 v1 s0 s1 s2 s3 s4 h q) q) q)
    (fun _ _ _ q => nos q)
    kRI_ok (Or.inr rfl) (by decide +kernel) (by decide +kernel) hf
theorem kqX10_namerIn_2 : okC mX10_namerIn 2 (.invokevirtual 159) 68 52 0 0 = true := by decide +kernel
def fX10_namerIn_2 (v0 : Nat) (v1 : Int32) (s0 : Nat) (s1 : Nat) (h : aH) : Option (Int32 × aH) :=
  (isO h 10 s0).bind fun _ =>
  (gX10_lacksTable s0 h).bind fun r =>
  fX10_namerIn_5 v0 v1 r.1 s1 r.2
theorem tX10_namerIn_2 {d : Nat} {z : Int32 × aH} (v0 : Nat) (v1 : Int32) (s0 : Nat) (s1 : Nat) (h : aH) (hf : fX10_namerIn_2 v0 v1 s0 s1 h = some z) : Ev (d + 5) none mX10_namerIn (0, 0) 2 [.ref v0, .int v1] [.ref s0, .ref s1] h (QI z) := by
  obtain ⟨_, h1, hf⟩ := bnd hf
  obtain ⟨fs, ho⟩ := isO_ok h1
  obtain ⟨r, h2, hf⟩ := bnd hf
  refine ev_V kqX10_namerIn_2 jX10_lacksTable (zX10_lacksTable (d := d + 4) h2) ho rfl rfl (Nat.le_of_ble_eq_true rfl) rfl (as := []) (rest := [.ref s1]) rfl (Nat.le_of_ble_eq_true rfl) (fun _ _ hq => ?_)
  obtain ⟨-, rfl, rfl⟩ := hq
  exact jm [2, 1] (fun v0 v1 => fX10_namerIn_5 v0 v1 r.1 s1 r.2) (fun v0 v1 q => tX10_namerIn_5 v0 v1 r.1 s1 r.2 q) hf
def wX10_namerIn_0 : List En := [(.aload_n 0, 0, 0, 0), (.aload_n 0, 0, 0, 0)]
def fX10_namerIn_0 (v0 : Nat) (v1 : Int32) (h : aH) : Option (Int32 × aH) :=
  fX10_namerIn_2 v0 v1 v0 v0 h
theorem tX10_namerIn_0 {d : Nat} {z : Int32 × aH} (v0 : Nat) (v1 : Int32) (h : aH) (hf : fX10_namerIn_0 v0 v1 h = some z) : Ev (d + 5) none mX10_namerIn (0, 0) 0 [.ref v0, .int v1] [] h (QI z) := 
  go_ok (X := none) (blk := wX10_namerIn_0) (np := 2) (tt := 0) (kN := fun xs h st => app [2, 1] (fun v0 v1 => apS [2, 2] (fun s0 s1 => fX10_namerIn_2 v0 v1 s0 s1 h) st) xs) (kT := fun _ _ _ => none) (kR := kRI)
    (fun xs h st q => jm [2, 1] _ (fun v0 v1 q => apS_ok [2, 2] _ (fun st => Ev (d + 5) none mX10_namerIn (0, 0) 2 [.ref v0, .int v1] st h (QI z)) st (fun s0 s1 q => tX10_namerIn_2 v0 v1 s0 s1 h q) q) q)
    (fun _ _ _ q => nos q)
    kRI_ok (Or.inr rfl) (by decide +kernel) (by decide +kernel) hf
def gX10_namerIn (v0 : Nat) (v1 : Int32) (h : aH) : Option (Int32 × aH) := fX10_namerIn_0 v0 v1 h
theorem zX10_namerIn {d : Nat} {z : Int32 × aH} {v0 : Nat} {v1 : Int32} {h : aH} (q : gX10_namerIn v0 v1 h = some z) : CT (d + 5) mX10_namerIn (0, 0) [.ref v0, .int v1] h (QI z) :=
  ct_ev (by decide +kernel) (Nat.le_of_ble_eq_true rfl) QI_r (jm [2, 1] (fun v0 v1 => fX10_namerIn_0 v0 v1 h) (fun v0 v1 q => tX10_namerIn_0 v0 v1 h q) q)
def wX10_dishIn_33 : List En := [(.aload_n 0, 0, 0, 0), (.getfield 19, 163, 10, 1), (.getfield 201, 50, 1, 1), (.getfield 205, 43, 6, 1), (.ireturn, 0, 0, 0)]
def fX10_dishIn_33 (v0 : Nat) (h : aH) : Option (Int32 × aH) :=
  (gFR h 10 v0 1).bind fun t1 =>
  (gFR h 1 t1 1).bind fun t2 =>
  (gFI h 6 t2 1).bind fun t3 =>
  some (t3, h)
theorem tX10_dishIn_33 {d : Nat} {z : Int32 × aH} (v0 : Nat) (h : aH) (hf : fX10_dishIn_33 v0 h = some z) : Ev (d + 5) none mX10_dishIn (0, 0) 33 [.ref v0, .null] [] h (QI z) := 
  go_ok (X := none) (blk := wX10_dishIn_33) (np := 44) (tt := 0) (kN := fun _ _ _ => none) (kT := fun _ _ _ => none) (kR := kRI)
    (fun _ _ _ q => nos q)
    (fun _ _ _ q => nos q)
    kRI_ok (Or.inr rfl) (by decide +kernel) (by decide +kernel) hf
theorem kqX10_dishIn_30 : okC mX10_dishIn 30 (.invokevirtual 183) 79 67 0 3 = true := by decide +kernel
def fX10_dishIn_30 (v0 : Nat) (s0 : Int32) (s1 : Nat) (s2 : Nat) (s3 : Nat) (h : aH) : Option (Int32 × aH) :=
  (isO h 1 s3).bind fun _ =>
  (gX1_walk s3 s2 s1 s0 h).bind fun r =>
  fX10_dishIn_33 v0 r
theorem tX10_dishIn_30 {d : Nat} {z : Int32 × aH} (v0 : Nat) (s0 : Int32) (s1 : Nat) (s2 : Nat) (s3 : Nat) (h : aH) (hf : fX10_dishIn_30 v0 s0 s1 s2 s3 h = some z) : Ev (d + 5) none mX10_dishIn (0, 0) 30 [.ref v0, .null] [.int s0, .ref s1, .ref s2, .ref s3] h (QI z) := by
  obtain ⟨_, h1, hf⟩ := bnd hf
  obtain ⟨fs, ho⟩ := isO_ok h1
  obtain ⟨r, h2, hf⟩ := bnd hf
  refine ev_V kqX10_dishIn_30 jX1_walk (zX1_walk (d := d + 0) h2) ho rfl rfl (Nat.le_of_ble_eq_true rfl) rfl (as := [.ref s2, .ref s1, .int s0]) (rest := []) rfl (Nat.le_of_ble_eq_true rfl) (fun _ _ hq => ?_)
  obtain ⟨rfl, hh⟩ := hq
  rw [hh]
  exact jm [2, 0] (fun v0 => fX10_dishIn_33 v0 r) (fun v0 q => tX10_dishIn_33 v0 r q) hf
def wX10_dishIn_17 : List En := [(.aload_n 0, 0, 0, 0), (.getfield 19, 163, 10, 1), (.aload_n 0, 0, 0, 0), (.getfield 75, 171, 10, 9), (.aload_n 0, 0, 0, 0), (.getfield 68, 170, 10, 8), (.iload_n 1, 0, 0, 0)]
def fX10_dishIn_17 (v0 : Nat) (v1 : Int32) (h : aH) : Option (Int32 × aH) :=
  (gFR h 10 v0 1).bind fun t1 =>
  (gFR h 10 v0 9).bind fun t2 =>
  (gFR h 10 v0 8).bind fun t3 =>
  fX10_dishIn_30 v0 v1 t3 t2 t1 h
theorem tX10_dishIn_17 {d : Nat} {z : Int32 × aH} (v0 : Nat) (v1 : Int32) (h : aH) (hf : fX10_dishIn_17 v0 v1 h = some z) : Ev (d + 5) none mX10_dishIn (0, 0) 17 [.ref v0, .int v1] [] h (QI z) := 
  go_ok (X := none) (blk := wX10_dishIn_17) (np := 30) (tt := 0) (kN := fun xs h st => app [2, 0] (fun v0 => apS [1, 2, 2, 2] (fun s0 s1 s2 s3 => fX10_dishIn_30 v0 s0 s1 s2 s3 h) st) xs) (kT := fun _ _ _ => none) (kR := kRI)
    (fun xs h st q => jm [2, 0] _ (fun v0 q => apS_ok [1, 2, 2, 2] _ (fun st => Ev (d + 5) none mX10_dishIn (0, 0) 30 [.ref v0, .null] st h (QI z)) st (fun s0 s1 s2 s3 q => tX10_dishIn_30 v0 s0 s1 s2 s3 h q) q) q)
    (fun _ _ _ q => nos q)
    kRI_ok (Or.inr rfl) (by decide +kernel) (by decide +kernel) hf
def wX10_dishIn_15 : List En := [(.iconst (-1), 0, 0, 0), (.ireturn, 0, 0, 0)]
def fX10_dishIn_15 (h : aH) : Option (Int32 × aH) :=
  some ((kI (-1)), h)
theorem tX10_dishIn_15 {d : Nat} {z : Int32 × aH} (h : aH) (hf : fX10_dishIn_15 h = some z) : Ev (d + 5) none mX10_dishIn (0, 0) 15 [.null, .null] [] h (QI z) := 
  go_ok (X := none) (blk := wX10_dishIn_15) (np := 17) (tt := 0) (kN := fun _ _ _ => none) (kT := fun _ _ _ => none) (kR := kRI)
    (fun _ _ _ q => nos q)
    (fun _ _ _ q => nos q)
    kRI_ok (Or.inr rfl) (by decide +kernel) (by decide +kernel) hf
def wX10_dishIn_12 : List En := [(.ifCond .eq 5, 17, 0, 0)]
def fX10_dishIn_12 (v0 : Nat) (v1 : Int32) (s0 : Int32) (h : aH) : Option (Int32 × aH) :=
  if s0 = 0 then fX10_dishIn_17 v0 v1 h else fX10_dishIn_15 h
theorem tX10_dishIn_12 {d : Nat} {z : Int32 × aH} (v0 : Nat) (v1 : Int32) (s0 : Int32) (h : aH) (hf : fX10_dishIn_12 v0 v1 s0 h = some z) : Ev (d + 5) none mX10_dishIn (0, 0) 12 [.ref v0, .int v1] [.int s0] h (QI z) := 
  go_ok (X := none) (blk := wX10_dishIn_12) (np := 15) (tt := 17) (kN := fun xs h st => app [0, 0] (apS [] (fX10_dishIn_15 h) st) xs) (kT := fun xs h st => app [2, 1] (fun v0 v1 => apS [] (fX10_dishIn_17 v0 v1 h) st) xs) (kR := kRI)
    (fun xs h st q => jm [0, 0] _ (fun q => apS_ok [] _ (fun st => Ev (d + 5) none mX10_dishIn (0, 0) 15 [.null, .null] st h (QI z)) st (fun q => tX10_dishIn_15 h q) q) q)
    (fun xs h st q => jm [2, 1] _ (fun v0 v1 q => apS_ok [] _ (fun st => Ev (d + 5) none mX10_dishIn (0, 0) 17 [.ref v0, .int v1] st h (QI z)) st (fun q => tX10_dishIn_17 v0 v1 h q) q) q)
    kRI_ok (Or.inr rfl) (by decide +kernel) (by decide +kernel) hf
theorem kqX10_dishIn_9 : okC mX10_dishIn 9 (.invokevirtual 190) 92 87 0 4 = true := by decide +kernel
def fX10_dishIn_9 (v0 : Nat) (v1 : Int32) (s0 : Int32) (s1 : Int32) (s2 : Int32) (s3 : Int32) (s4 : Nat) (h : aH) : Option (Int32 × aH) :=
  (isO h 10 s4).bind fun _ =>
  (gX10_isRefused s4 s3 s2 s1 s0 h).bind fun r =>
  fX10_dishIn_12 v0 v1 r.1 r.2
theorem tX10_dishIn_9 {d : Nat} {z : Int32 × aH} (v0 : Nat) (v1 : Int32) (s0 : Int32) (s1 : Int32) (s2 : Int32) (s3 : Int32) (s4 : Nat) (h : aH) (hf : fX10_dishIn_9 v0 v1 s0 s1 s2 s3 s4 h = some z) : Ev (d + 5) none mX10_dishIn (0, 0) 9 [.ref v0, .int v1] [.int s0, .int s1, .int s2, .int s3, .ref s4] h (QI z) := by
  obtain ⟨_, h1, hf⟩ := bnd hf
  obtain ⟨fs, ho⟩ := isO_ok h1
  obtain ⟨r, h2, hf⟩ := bnd hf
  refine ev_V kqX10_dishIn_9 jX10_isRefused (zX10_isRefused (d := d + 3) h2) ho rfl rfl (Nat.le_of_ble_eq_true rfl) rfl (as := [.int s3, .int s2, .int s1, .int s0]) (rest := []) rfl (Nat.le_of_ble_eq_true rfl) (fun _ _ hq => ?_)
  obtain ⟨-, rfl, rfl⟩ := hq
  exact jm [2, 1] (fun v0 v1 => fX10_dishIn_12 v0 v1 r.1 r.2) (fun v0 v1 q => tX10_dishIn_12 v0 v1 r.1 r.2 q) hf
def wX10_dishIn_5 : List En := [(.iload_n 1, 0, 0, 0), (.iconst 1, 0, 0, 0), (.bipush 60, 0, 0, 0)]
def fX10_dishIn_5 (v0 : Nat) (v1 : Int32) (s0 : Int32) (s1 : Nat) (h : aH) : Option (Int32 × aH) :=
  fX10_dishIn_9 v0 v1 (kB 60) (kI 1) v1 s0 s1 h
theorem tX10_dishIn_5 {d : Nat} {z : Int32 × aH} (v0 : Nat) (v1 : Int32) (s0 : Int32) (s1 : Nat) (h : aH) (hf : fX10_dishIn_5 v0 v1 s0 s1 h = some z) : Ev (d + 5) none mX10_dishIn (0, 0) 5 [.ref v0, .int v1] [.int s0, .ref s1] h (QI z) := 
  go_ok (X := none) (blk := wX10_dishIn_5) (np := 9) (tt := 0) (kN := fun xs h st => app [2, 1] (fun v0 v1 => apS [1, 1, 1, 1, 2] (fun s0 s1 s2 s3 s4 => fX10_dishIn_9 v0 v1 s0 s1 s2 s3 s4 h) st) xs) (kT := fun _ _ _ => none) (kR := kRI)
    (fun xs h st q => jm [2, 1] _ (fun v0 v1 q => apS_ok [1, 1, 1, 1, 2] _ (fun st => Ev (d + 5) none mX10_dishIn (0, 0) 9 [.ref v0, .int v1] st h (QI z)) st (fun s0 s1 s2 s3 s4 q => tX10_dishIn_9 v0 v1 s0 s1 s2 s3 s4 h q) q) q)
    (fun _ _ _ q => nos q)
    kRI_ok (Or.inr rfl) (by decide +kernel) (by decide +kernel) hf
theorem kqX10_dishIn_2 : okC mX10_dishIn 2 (.invokevirtual 159) 68 52 0 0 = true := by decide +kernel
def fX10_dishIn_2 (v0 : Nat) (v1 : Int32) (s0 : Nat) (s1 : Nat) (h : aH) : Option (Int32 × aH) :=
  (isO h 10 s0).bind fun _ =>
  (gX10_lacksTable s0 h).bind fun r =>
  fX10_dishIn_5 v0 v1 r.1 s1 r.2
theorem tX10_dishIn_2 {d : Nat} {z : Int32 × aH} (v0 : Nat) (v1 : Int32) (s0 : Nat) (s1 : Nat) (h : aH) (hf : fX10_dishIn_2 v0 v1 s0 s1 h = some z) : Ev (d + 5) none mX10_dishIn (0, 0) 2 [.ref v0, .int v1] [.ref s0, .ref s1] h (QI z) := by
  obtain ⟨_, h1, hf⟩ := bnd hf
  obtain ⟨fs, ho⟩ := isO_ok h1
  obtain ⟨r, h2, hf⟩ := bnd hf
  refine ev_V kqX10_dishIn_2 jX10_lacksTable (zX10_lacksTable (d := d + 4) h2) ho rfl rfl (Nat.le_of_ble_eq_true rfl) rfl (as := []) (rest := [.ref s1]) rfl (Nat.le_of_ble_eq_true rfl) (fun _ _ hq => ?_)
  obtain ⟨-, rfl, rfl⟩ := hq
  exact jm [2, 1] (fun v0 v1 => fX10_dishIn_5 v0 v1 r.1 s1 r.2) (fun v0 v1 q => tX10_dishIn_5 v0 v1 r.1 s1 r.2 q) hf
def wX10_dishIn_0 : List En := [(.aload_n 0, 0, 0, 0), (.aload_n 0, 0, 0, 0)]
def fX10_dishIn_0 (v0 : Nat) (v1 : Int32) (h : aH) : Option (Int32 × aH) :=
  fX10_dishIn_2 v0 v1 v0 v0 h
theorem tX10_dishIn_0 {d : Nat} {z : Int32 × aH} (v0 : Nat) (v1 : Int32) (h : aH) (hf : fX10_dishIn_0 v0 v1 h = some z) : Ev (d + 5) none mX10_dishIn (0, 0) 0 [.ref v0, .int v1] [] h (QI z) := 
  go_ok (X := none) (blk := wX10_dishIn_0) (np := 2) (tt := 0) (kN := fun xs h st => app [2, 1] (fun v0 v1 => apS [2, 2] (fun s0 s1 => fX10_dishIn_2 v0 v1 s0 s1 h) st) xs) (kT := fun _ _ _ => none) (kR := kRI)
    (fun xs h st q => jm [2, 1] _ (fun v0 v1 q => apS_ok [2, 2] _ (fun st => Ev (d + 5) none mX10_dishIn (0, 0) 2 [.ref v0, .int v1] st h (QI z)) st (fun s0 s1 q => tX10_dishIn_2 v0 v1 s0 s1 h q) q) q)
    (fun _ _ _ q => nos q)
    kRI_ok (Or.inr rfl) (by decide +kernel) (by decide +kernel) hf
def gX10_dishIn (v0 : Nat) (v1 : Int32) (h : aH) : Option (Int32 × aH) := fX10_dishIn_0 v0 v1 h
theorem zX10_dishIn {d : Nat} {z : Int32 × aH} {v0 : Nat} {v1 : Int32} {h : aH} (q : gX10_dishIn v0 v1 h = some z) : CT (d + 5) mX10_dishIn (0, 0) [.ref v0, .int v1] h (QI z) :=
  ct_ev (by decide +kernel) (Nat.le_of_ble_eq_true rfl) QI_r (jm [2, 1] (fun v0 v1 => fX10_dishIn_0 v0 v1 h) (fun v0 v1 q => tX10_dishIn_0 v0 v1 h q) q)
def wX10_hungerIn_34 : List En := [(.aload_n 0, 0, 0, 0), (.getfield 19, 163, 10, 1), (.getfield 208, 48, 1, 0), (.getfield 131, 20, 7, 0), (.iload_n 1, 0, 0, 0), (.iaload, 0, 0, 0), (.ireturn, 0, 0, 0)]
def fX10_hungerIn_34 (v0 : Nat) (v1 : Int32) (h : aH) : Option (Int32 × aH) :=
  (gFR h 10 v0 1).bind fun t1 =>
  (gFR h 1 t1 0).bind fun t2 =>
  (gFR h 7 t2 0).bind fun t3 =>
  (aRI (h[t3]?) v1).bind fun t4 =>
  some (t4, h)
theorem tX10_hungerIn_34 {d : Nat} {z : Int32 × aH} (v0 : Nat) (v1 : Int32) (h : aH) (hf : fX10_hungerIn_34 v0 v1 h = some z) : Ev (d + 5) none mX10_hungerIn (0, 0) 34 [.ref v0, .int v1, .null] [] h (QI z) := 
  go_ok (X := none) (blk := wX10_hungerIn_34) (np := 47) (tt := 0) (kN := fun _ _ _ => none) (kT := fun _ _ _ => none) (kR := kRI)
    (fun _ _ _ q => nos q)
    (fun _ _ _ q => nos q)
    kRI_ok (Or.inr rfl) (by decide +kernel) (by decide +kernel) hf
theorem kqX10_hungerIn_31 : okC mX10_hungerIn 31 (.invokevirtual 183) 79 67 0 3 = true := by decide +kernel
def fX10_hungerIn_31 (v0 : Nat) (v1 : Int32) (s0 : Int32) (s1 : Nat) (s2 : Nat) (s3 : Nat) (h : aH) : Option (Int32 × aH) :=
  (isO h 1 s3).bind fun _ =>
  (gX1_walk s3 s2 s1 s0 h).bind fun r =>
  fX10_hungerIn_34 v0 v1 r
theorem tX10_hungerIn_31 {d : Nat} {z : Int32 × aH} (v0 : Nat) (v1 : Int32) (s0 : Int32) (s1 : Nat) (s2 : Nat) (s3 : Nat) (h : aH) (hf : fX10_hungerIn_31 v0 v1 s0 s1 s2 s3 h = some z) : Ev (d + 5) none mX10_hungerIn (0, 0) 31 [.ref v0, .int v1, .null] [.int s0, .ref s1, .ref s2, .ref s3] h (QI z) := by
  obtain ⟨_, h1, hf⟩ := bnd hf
  obtain ⟨fs, ho⟩ := isO_ok h1
  obtain ⟨r, h2, hf⟩ := bnd hf
  refine ev_V kqX10_hungerIn_31 jX1_walk (zX1_walk (d := d + 0) h2) ho rfl rfl (Nat.le_of_ble_eq_true rfl) rfl (as := [.ref s2, .ref s1, .int s0]) (rest := []) rfl (Nat.le_of_ble_eq_true rfl) (fun _ _ hq => ?_)
  obtain ⟨rfl, hh⟩ := hq
  rw [hh]
  exact jm [2, 1, 0] (fun v0 v1 => fX10_hungerIn_34 v0 v1 r) (fun v0 v1 q => tX10_hungerIn_34 v0 v1 r q) hf
def wX10_hungerIn_18 : List En := [(.aload_n 0, 0, 0, 0), (.getfield 19, 163, 10, 1), (.aload_n 0, 0, 0, 0), (.getfield 75, 171, 10, 9), (.aload_n 0, 0, 0, 0), (.getfield 68, 170, 10, 8), (.iload_n 2, 0, 0, 0)]
def fX10_hungerIn_18 (v0 : Nat) (v1 : Int32) (v2 : Int32) (h : aH) : Option (Int32 × aH) :=
  (gFR h 10 v0 1).bind fun t1 =>
  (gFR h 10 v0 9).bind fun t2 =>
  (gFR h 10 v0 8).bind fun t3 =>
  fX10_hungerIn_31 v0 v1 v2 t3 t2 t1 h
theorem tX10_hungerIn_18 {d : Nat} {z : Int32 × aH} (v0 : Nat) (v1 : Int32) (v2 : Int32) (h : aH) (hf : fX10_hungerIn_18 v0 v1 v2 h = some z) : Ev (d + 5) none mX10_hungerIn (0, 0) 18 [.ref v0, .int v1, .int v2] [] h (QI z) := 
  go_ok (X := none) (blk := wX10_hungerIn_18) (np := 31) (tt := 0) (kN := fun xs h st => app [2, 1, 0] (fun v0 v1 => apS [1, 2, 2, 2] (fun s0 s1 s2 s3 => fX10_hungerIn_31 v0 v1 s0 s1 s2 s3 h) st) xs) (kT := fun _ _ _ => none) (kR := kRI)
    (fun xs h st q => jm [2, 1, 0] _ (fun v0 v1 q => apS_ok [1, 2, 2, 2] _ (fun st => Ev (d + 5) none mX10_hungerIn (0, 0) 31 [.ref v0, .int v1, .null] st h (QI z)) st (fun s0 s1 s2 s3 q => tX10_hungerIn_31 v0 v1 s0 s1 s2 s3 h q) q) q)
    (fun _ _ _ q => nos q)
    kRI_ok (Or.inr rfl) (by decide +kernel) (by decide +kernel) hf
def wX10_hungerIn_16 : List En := [(.iconst (-1), 0, 0, 0), (.ireturn, 0, 0, 0)]
def fX10_hungerIn_16 (h : aH) : Option (Int32 × aH) :=
  some ((kI (-1)), h)
theorem tX10_hungerIn_16 {d : Nat} {z : Int32 × aH} (h : aH) (hf : fX10_hungerIn_16 h = some z) : Ev (d + 5) none mX10_hungerIn (0, 0) 16 [.null, .null, .null] [] h (QI z) := 
  go_ok (X := none) (blk := wX10_hungerIn_16) (np := 18) (tt := 0) (kN := fun _ _ _ => none) (kT := fun _ _ _ => none) (kR := kRI)
    (fun _ _ _ q => nos q)
    (fun _ _ _ q => nos q)
    kRI_ok (Or.inr rfl) (by decide +kernel) (by decide +kernel) hf
def wX10_hungerIn_13 : List En := [(.ifCond .eq 5, 18, 0, 0)]
def fX10_hungerIn_13 (v0 : Nat) (v1 : Int32) (v2 : Int32) (s0 : Int32) (h : aH) : Option (Int32 × aH) :=
  if s0 = 0 then fX10_hungerIn_18 v0 v1 v2 h else fX10_hungerIn_16 h
theorem tX10_hungerIn_13 {d : Nat} {z : Int32 × aH} (v0 : Nat) (v1 : Int32) (v2 : Int32) (s0 : Int32) (h : aH) (hf : fX10_hungerIn_13 v0 v1 v2 s0 h = some z) : Ev (d + 5) none mX10_hungerIn (0, 0) 13 [.ref v0, .int v1, .int v2] [.int s0] h (QI z) := 
  go_ok (X := none) (blk := wX10_hungerIn_13) (np := 16) (tt := 18) (kN := fun xs h st => app [0, 0, 0] (apS [] (fX10_hungerIn_16 h) st) xs) (kT := fun xs h st => app [2, 1, 1] (fun v0 v1 v2 => apS [] (fX10_hungerIn_18 v0 v1 v2 h) st) xs) (kR := kRI)
    (fun xs h st q => jm [0, 0, 0] _ (fun q => apS_ok [] _ (fun st => Ev (d + 5) none mX10_hungerIn (0, 0) 16 [.null, .null, .null] st h (QI z)) st (fun q => tX10_hungerIn_16 h q) q) q)
    (fun xs h st q => jm [2, 1, 1] _ (fun v0 v1 v2 q => apS_ok [] _ (fun st => Ev (d + 5) none mX10_hungerIn (0, 0) 18 [.ref v0, .int v1, .int v2] st h (QI z)) st (fun q => tX10_hungerIn_18 v0 v1 v2 h q) q) q)
    kRI_ok (Or.inr rfl) (by decide +kernel) (by decide +kernel) hf
theorem kqX10_hungerIn_10 : okC mX10_hungerIn 10 (.invokevirtual 190) 92 87 0 4 = true := by decide +kernel
def fX10_hungerIn_10 (v0 : Nat) (v1 : Int32) (v2 : Int32) (s0 : Int32) (s1 : Int32) (s2 : Int32) (s3 : Int32) (s4 : Nat) (h : aH) : Option (Int32 × aH) :=
  (isO h 10 s4).bind fun _ =>
  (gX10_isRefused s4 s3 s2 s1 s0 h).bind fun r =>
  fX10_hungerIn_13 v0 v1 v2 r.1 r.2
theorem tX10_hungerIn_10 {d : Nat} {z : Int32 × aH} (v0 : Nat) (v1 : Int32) (v2 : Int32) (s0 : Int32) (s1 : Int32) (s2 : Int32) (s3 : Int32) (s4 : Nat) (h : aH) (hf : fX10_hungerIn_10 v0 v1 v2 s0 s1 s2 s3 s4 h = some z) : Ev (d + 5) none mX10_hungerIn (0, 0) 10 [.ref v0, .int v1, .int v2] [.int s0, .int s1, .int s2, .int s3, .ref s4] h (QI z) := by
  obtain ⟨_, h1, hf⟩ := bnd hf
  obtain ⟨fs, ho⟩ := isO_ok h1
  obtain ⟨r, h2, hf⟩ := bnd hf
  refine ev_V kqX10_hungerIn_10 jX10_isRefused (zX10_isRefused (d := d + 3) h2) ho rfl rfl (Nat.le_of_ble_eq_true rfl) rfl (as := [.int s3, .int s2, .int s1, .int s0]) (rest := []) rfl (Nat.le_of_ble_eq_true rfl) (fun _ _ hq => ?_)
  obtain ⟨-, rfl, rfl⟩ := hq
  exact jm [2, 1, 1] (fun v0 v1 v2 => fX10_hungerIn_13 v0 v1 v2 r.1 r.2) (fun v0 v1 v2 q => tX10_hungerIn_13 v0 v1 v2 r.1 r.2 q) hf
def wX10_hungerIn_6 : List En := [(.iload_n 2, 0, 0, 0), (.iconst 0, 0, 0, 0), (.bipush 60, 0, 0, 0)]
def fX10_hungerIn_6 (v0 : Nat) (v1 : Int32) (v2 : Int32) (s0 : Int32) (s1 : Nat) (h : aH) : Option (Int32 × aH) :=
  fX10_hungerIn_10 v0 v1 v2 (kB 60) (kI 0) v2 s0 s1 h
theorem tX10_hungerIn_6 {d : Nat} {z : Int32 × aH} (v0 : Nat) (v1 : Int32) (v2 : Int32) (s0 : Int32) (s1 : Nat) (h : aH) (hf : fX10_hungerIn_6 v0 v1 v2 s0 s1 h = some z) : Ev (d + 5) none mX10_hungerIn (0, 0) 6 [.ref v0, .int v1, .int v2] [.int s0, .ref s1] h (QI z) := 
  go_ok (X := none) (blk := wX10_hungerIn_6) (np := 10) (tt := 0) (kN := fun xs h st => app [2, 1, 1] (fun v0 v1 v2 => apS [1, 1, 1, 1, 2] (fun s0 s1 s2 s3 s4 => fX10_hungerIn_10 v0 v1 v2 s0 s1 s2 s3 s4 h) st) xs) (kT := fun _ _ _ => none) (kR := kRI)
    (fun xs h st q => jm [2, 1, 1] _ (fun v0 v1 v2 q => apS_ok [1, 1, 1, 1, 2] _ (fun st => Ev (d + 5) none mX10_hungerIn (0, 0) 10 [.ref v0, .int v1, .int v2] st h (QI z)) st (fun s0 s1 s2 s3 s4 q => tX10_hungerIn_10 v0 v1 v2 s0 s1 s2 s3 s4 h q) q) q)
    (fun _ _ _ q => nos q)
    kRI_ok (Or.inr rfl) (by decide +kernel) (by decide +kernel) hf
theorem kqX10_hungerIn_3 : okC mX10_hungerIn 3 (.invokevirtual 128) 64 48 0 1 = true := by decide +kernel
def fX10_hungerIn_3 (v0 : Nat) (v1 : Int32) (v2 : Int32) (s0 : Int32) (s1 : Nat) (s2 : Nat) (h : aH) : Option (Int32 × aH) :=
  (isO h 10 s1).bind fun _ =>
  (gX10_lacksPerson s1 s0 h).bind fun r =>
  fX10_hungerIn_6 v0 v1 v2 r.1 s2 r.2
theorem tX10_hungerIn_3 {d : Nat} {z : Int32 × aH} (v0 : Nat) (v1 : Int32) (v2 : Int32) (s0 : Int32) (s1 : Nat) (s2 : Nat) (h : aH) (hf : fX10_hungerIn_3 v0 v1 v2 s0 s1 s2 h = some z) : Ev (d + 5) none mX10_hungerIn (0, 0) 3 [.ref v0, .int v1, .int v2] [.int s0, .ref s1, .ref s2] h (QI z) := by
  obtain ⟨_, h1, hf⟩ := bnd hf
  obtain ⟨fs, ho⟩ := isO_ok h1
  obtain ⟨r, h2, hf⟩ := bnd hf
  refine ev_V kqX10_hungerIn_3 jX10_lacksPerson (zX10_lacksPerson (d := d + 4) h2) ho rfl rfl (Nat.le_of_ble_eq_true rfl) rfl (as := [.int s0]) (rest := [.ref s2]) rfl (Nat.le_of_ble_eq_true rfl) (fun _ _ hq => ?_)
  obtain ⟨-, rfl, rfl⟩ := hq
  exact jm [2, 1, 1] (fun v0 v1 v2 => fX10_hungerIn_6 v0 v1 v2 r.1 s2 r.2) (fun v0 v1 v2 q => tX10_hungerIn_6 v0 v1 v2 r.1 s2 r.2 q) hf
def wX10_hungerIn_0 : List En := [(.aload_n 0, 0, 0, 0), (.aload_n 0, 0, 0, 0), (.iload_n 1, 0, 0, 0)]
def fX10_hungerIn_0 (v0 : Nat) (v1 : Int32) (v2 : Int32) (h : aH) : Option (Int32 × aH) :=
  fX10_hungerIn_3 v0 v1 v2 v1 v0 v0 h
theorem tX10_hungerIn_0 {d : Nat} {z : Int32 × aH} (v0 : Nat) (v1 : Int32) (v2 : Int32) (h : aH) (hf : fX10_hungerIn_0 v0 v1 v2 h = some z) : Ev (d + 5) none mX10_hungerIn (0, 0) 0 [.ref v0, .int v1, .int v2] [] h (QI z) := 
  go_ok (X := none) (blk := wX10_hungerIn_0) (np := 3) (tt := 0) (kN := fun xs h st => app [2, 1, 1] (fun v0 v1 v2 => apS [1, 2, 2] (fun s0 s1 s2 => fX10_hungerIn_3 v0 v1 v2 s0 s1 s2 h) st) xs) (kT := fun _ _ _ => none) (kR := kRI)
    (fun xs h st q => jm [2, 1, 1] _ (fun v0 v1 v2 q => apS_ok [1, 2, 2] _ (fun st => Ev (d + 5) none mX10_hungerIn (0, 0) 3 [.ref v0, .int v1, .int v2] st h (QI z)) st (fun s0 s1 s2 q => tX10_hungerIn_3 v0 v1 v2 s0 s1 s2 h q) q) q)
    (fun _ _ _ q => nos q)
    kRI_ok (Or.inr rfl) (by decide +kernel) (by decide +kernel) hf
def gX10_hungerIn (v0 : Nat) (v1 : Int32) (v2 : Int32) (h : aH) : Option (Int32 × aH) := fX10_hungerIn_0 v0 v1 v2 h
theorem zX10_hungerIn {d : Nat} {z : Int32 × aH} {v0 : Nat} {v1 : Int32} {v2 : Int32} {h : aH} (q : gX10_hungerIn v0 v1 v2 h = some z) : CT (d + 5) mX10_hungerIn (0, 0) [.ref v0, .int v1, .int v2] h (QI z) :=
  ct_ev (by decide +kernel) (Nat.le_of_ble_eq_true rfl) QI_r (jm [2, 1, 1] (fun v0 v1 v2 => fX10_hungerIn_0 v0 v1 v2 h) (fun v0 v1 v2 q => tX10_hungerIn_0 v0 v1 v2 h q) q)
def wX10_leftIn_33 : List En := [(.aload_n 0, 0, 0, 0), (.getfield 19, 163, 10, 1), (.getfield 208, 48, 1, 0), (.getfield 163, 33, 7, 5), (.ireturn, 0, 0, 0)]
def fX10_leftIn_33 (v0 : Nat) (h : aH) : Option (Int32 × aH) :=
  (gFR h 10 v0 1).bind fun t1 =>
  (gFR h 1 t1 0).bind fun t2 =>
  (gFI h 7 t2 5).bind fun t3 =>
  some (t3, h)
theorem tX10_leftIn_33 {d : Nat} {z : Int32 × aH} (v0 : Nat) (h : aH) (hf : fX10_leftIn_33 v0 h = some z) : Ev (d + 5) none mX10_leftIn (0, 0) 33 [.ref v0, .null] [] h (QI z) := 
  go_ok (X := none) (blk := wX10_leftIn_33) (np := 44) (tt := 0) (kN := fun _ _ _ => none) (kT := fun _ _ _ => none) (kR := kRI)
    (fun _ _ _ q => nos q)
    (fun _ _ _ q => nos q)
    kRI_ok (Or.inr rfl) (by decide +kernel) (by decide +kernel) hf
theorem kqX10_leftIn_30 : okC mX10_leftIn 30 (.invokevirtual 183) 79 67 0 3 = true := by decide +kernel
def fX10_leftIn_30 (v0 : Nat) (s0 : Int32) (s1 : Nat) (s2 : Nat) (s3 : Nat) (h : aH) : Option (Int32 × aH) :=
  (isO h 1 s3).bind fun _ =>
  (gX1_walk s3 s2 s1 s0 h).bind fun r =>
  fX10_leftIn_33 v0 r
theorem tX10_leftIn_30 {d : Nat} {z : Int32 × aH} (v0 : Nat) (s0 : Int32) (s1 : Nat) (s2 : Nat) (s3 : Nat) (h : aH) (hf : fX10_leftIn_30 v0 s0 s1 s2 s3 h = some z) : Ev (d + 5) none mX10_leftIn (0, 0) 30 [.ref v0, .null] [.int s0, .ref s1, .ref s2, .ref s3] h (QI z) := by
  obtain ⟨_, h1, hf⟩ := bnd hf
  obtain ⟨fs, ho⟩ := isO_ok h1
  obtain ⟨r, h2, hf⟩ := bnd hf
  refine ev_V kqX10_leftIn_30 jX1_walk (zX1_walk (d := d + 0) h2) ho rfl rfl (Nat.le_of_ble_eq_true rfl) rfl (as := [.ref s2, .ref s1, .int s0]) (rest := []) rfl (Nat.le_of_ble_eq_true rfl) (fun _ _ hq => ?_)
  obtain ⟨rfl, hh⟩ := hq
  rw [hh]
  exact jm [2, 0] (fun v0 => fX10_leftIn_33 v0 r) (fun v0 q => tX10_leftIn_33 v0 r q) hf
def wX10_leftIn_17 : List En := [(.aload_n 0, 0, 0, 0), (.getfield 19, 163, 10, 1), (.aload_n 0, 0, 0, 0), (.getfield 75, 171, 10, 9), (.aload_n 0, 0, 0, 0), (.getfield 68, 170, 10, 8), (.iload_n 1, 0, 0, 0)]
def fX10_leftIn_17 (v0 : Nat) (v1 : Int32) (h : aH) : Option (Int32 × aH) :=
  (gFR h 10 v0 1).bind fun t1 =>
  (gFR h 10 v0 9).bind fun t2 =>
  (gFR h 10 v0 8).bind fun t3 =>
  fX10_leftIn_30 v0 v1 t3 t2 t1 h
theorem tX10_leftIn_17 {d : Nat} {z : Int32 × aH} (v0 : Nat) (v1 : Int32) (h : aH) (hf : fX10_leftIn_17 v0 v1 h = some z) : Ev (d + 5) none mX10_leftIn (0, 0) 17 [.ref v0, .int v1] [] h (QI z) := 
  go_ok (X := none) (blk := wX10_leftIn_17) (np := 30) (tt := 0) (kN := fun xs h st => app [2, 0] (fun v0 => apS [1, 2, 2, 2] (fun s0 s1 s2 s3 => fX10_leftIn_30 v0 s0 s1 s2 s3 h) st) xs) (kT := fun _ _ _ => none) (kR := kRI)
    (fun xs h st q => jm [2, 0] _ (fun v0 q => apS_ok [1, 2, 2, 2] _ (fun st => Ev (d + 5) none mX10_leftIn (0, 0) 30 [.ref v0, .null] st h (QI z)) st (fun s0 s1 s2 s3 q => tX10_leftIn_30 v0 s0 s1 s2 s3 h q) q) q)
    (fun _ _ _ q => nos q)
    kRI_ok (Or.inr rfl) (by decide +kernel) (by decide +kernel) hf
def wX10_leftIn_15 : List En := [(.iconst (-1), 0, 0, 0), (.ireturn, 0, 0, 0)]
def fX10_leftIn_15 (h : aH) : Option (Int32 × aH) :=
  some ((kI (-1)), h)
theorem tX10_leftIn_15 {d : Nat} {z : Int32 × aH} (h : aH) (hf : fX10_leftIn_15 h = some z) : Ev (d + 5) none mX10_leftIn (0, 0) 15 [.null, .null] [] h (QI z) := 
  go_ok (X := none) (blk := wX10_leftIn_15) (np := 17) (tt := 0) (kN := fun _ _ _ => none) (kT := fun _ _ _ => none) (kR := kRI)
    (fun _ _ _ q => nos q)
    (fun _ _ _ q => nos q)
    kRI_ok (Or.inr rfl) (by decide +kernel) (by decide +kernel) hf
def wX10_leftIn_12 : List En := [(.ifCond .eq 5, 17, 0, 0)]
def fX10_leftIn_12 (v0 : Nat) (v1 : Int32) (s0 : Int32) (h : aH) : Option (Int32 × aH) :=
  if s0 = 0 then fX10_leftIn_17 v0 v1 h else fX10_leftIn_15 h
theorem tX10_leftIn_12 {d : Nat} {z : Int32 × aH} (v0 : Nat) (v1 : Int32) (s0 : Int32) (h : aH) (hf : fX10_leftIn_12 v0 v1 s0 h = some z) : Ev (d + 5) none mX10_leftIn (0, 0) 12 [.ref v0, .int v1] [.int s0] h (QI z) := 
  go_ok (X := none) (blk := wX10_leftIn_12) (np := 15) (tt := 17) (kN := fun xs h st => app [0, 0] (apS [] (fX10_leftIn_15 h) st) xs) (kT := fun xs h st => app [2, 1] (fun v0 v1 => apS [] (fX10_leftIn_17 v0 v1 h) st) xs) (kR := kRI)
    (fun xs h st q => jm [0, 0] _ (fun q => apS_ok [] _ (fun st => Ev (d + 5) none mX10_leftIn (0, 0) 15 [.null, .null] st h (QI z)) st (fun q => tX10_leftIn_15 h q) q) q)
    (fun xs h st q => jm [2, 1] _ (fun v0 v1 q => apS_ok [] _ (fun st => Ev (d + 5) none mX10_leftIn (0, 0) 17 [.ref v0, .int v1] st h (QI z)) st (fun q => tX10_leftIn_17 v0 v1 h q) q) q)
    kRI_ok (Or.inr rfl) (by decide +kernel) (by decide +kernel) hf
theorem kqX10_leftIn_9 : okC mX10_leftIn 9 (.invokevirtual 190) 92 87 0 4 = true := by decide +kernel
def fX10_leftIn_9 (v0 : Nat) (v1 : Int32) (s0 : Int32) (s1 : Int32) (s2 : Int32) (s3 : Int32) (s4 : Nat) (h : aH) : Option (Int32 × aH) :=
  (isO h 10 s4).bind fun _ =>
  (gX10_isRefused s4 s3 s2 s1 s0 h).bind fun r =>
  fX10_leftIn_12 v0 v1 r.1 r.2
theorem tX10_leftIn_9 {d : Nat} {z : Int32 × aH} (v0 : Nat) (v1 : Int32) (s0 : Int32) (s1 : Int32) (s2 : Int32) (s3 : Int32) (s4 : Nat) (h : aH) (hf : fX10_leftIn_9 v0 v1 s0 s1 s2 s3 s4 h = some z) : Ev (d + 5) none mX10_leftIn (0, 0) 9 [.ref v0, .int v1] [.int s0, .int s1, .int s2, .int s3, .ref s4] h (QI z) := by
  obtain ⟨_, h1, hf⟩ := bnd hf
  obtain ⟨fs, ho⟩ := isO_ok h1
  obtain ⟨r, h2, hf⟩ := bnd hf
  refine ev_V kqX10_leftIn_9 jX10_isRefused (zX10_isRefused (d := d + 3) h2) ho rfl rfl (Nat.le_of_ble_eq_true rfl) rfl (as := [.int s3, .int s2, .int s1, .int s0]) (rest := []) rfl (Nat.le_of_ble_eq_true rfl) (fun _ _ hq => ?_)
  obtain ⟨-, rfl, rfl⟩ := hq
  exact jm [2, 1] (fun v0 v1 => fX10_leftIn_12 v0 v1 r.1 r.2) (fun v0 v1 q => tX10_leftIn_12 v0 v1 r.1 r.2 q) hf
def wX10_leftIn_5 : List En := [(.iload_n 1, 0, 0, 0), (.iconst 0, 0, 0, 0), (.bipush 60, 0, 0, 0)]
def fX10_leftIn_5 (v0 : Nat) (v1 : Int32) (s0 : Int32) (s1 : Nat) (h : aH) : Option (Int32 × aH) :=
  fX10_leftIn_9 v0 v1 (kB 60) (kI 0) v1 s0 s1 h
theorem tX10_leftIn_5 {d : Nat} {z : Int32 × aH} (v0 : Nat) (v1 : Int32) (s0 : Int32) (s1 : Nat) (h : aH) (hf : fX10_leftIn_5 v0 v1 s0 s1 h = some z) : Ev (d + 5) none mX10_leftIn (0, 0) 5 [.ref v0, .int v1] [.int s0, .ref s1] h (QI z) := 
  go_ok (X := none) (blk := wX10_leftIn_5) (np := 9) (tt := 0) (kN := fun xs h st => app [2, 1] (fun v0 v1 => apS [1, 1, 1, 1, 2] (fun s0 s1 s2 s3 s4 => fX10_leftIn_9 v0 v1 s0 s1 s2 s3 s4 h) st) xs) (kT := fun _ _ _ => none) (kR := kRI)
    (fun xs h st q => jm [2, 1] _ (fun v0 v1 q => apS_ok [1, 1, 1, 1, 2] _ (fun st => Ev (d + 5) none mX10_leftIn (0, 0) 9 [.ref v0, .int v1] st h (QI z)) st (fun s0 s1 s2 s3 s4 q => tX10_leftIn_9 v0 v1 s0 s1 s2 s3 s4 h q) q) q)
    (fun _ _ _ q => nos q)
    kRI_ok (Or.inr rfl) (by decide +kernel) (by decide +kernel) hf
theorem kqX10_leftIn_2 : okC mX10_leftIn 2 (.invokevirtual 159) 68 52 0 0 = true := by decide +kernel
def fX10_leftIn_2 (v0 : Nat) (v1 : Int32) (s0 : Nat) (s1 : Nat) (h : aH) : Option (Int32 × aH) :=
  (isO h 10 s0).bind fun _ =>
  (gX10_lacksTable s0 h).bind fun r =>
  fX10_leftIn_5 v0 v1 r.1 s1 r.2
theorem tX10_leftIn_2 {d : Nat} {z : Int32 × aH} (v0 : Nat) (v1 : Int32) (s0 : Nat) (s1 : Nat) (h : aH) (hf : fX10_leftIn_2 v0 v1 s0 s1 h = some z) : Ev (d + 5) none mX10_leftIn (0, 0) 2 [.ref v0, .int v1] [.ref s0, .ref s1] h (QI z) := by
  obtain ⟨_, h1, hf⟩ := bnd hf
  obtain ⟨fs, ho⟩ := isO_ok h1
  obtain ⟨r, h2, hf⟩ := bnd hf
  refine ev_V kqX10_leftIn_2 jX10_lacksTable (zX10_lacksTable (d := d + 4) h2) ho rfl rfl (Nat.le_of_ble_eq_true rfl) rfl (as := []) (rest := [.ref s1]) rfl (Nat.le_of_ble_eq_true rfl) (fun _ _ hq => ?_)
  obtain ⟨-, rfl, rfl⟩ := hq
  exact jm [2, 1] (fun v0 v1 => fX10_leftIn_5 v0 v1 r.1 s1 r.2) (fun v0 v1 q => tX10_leftIn_5 v0 v1 r.1 s1 r.2 q) hf
def wX10_leftIn_0 : List En := [(.aload_n 0, 0, 0, 0), (.aload_n 0, 0, 0, 0)]
def fX10_leftIn_0 (v0 : Nat) (v1 : Int32) (h : aH) : Option (Int32 × aH) :=
  fX10_leftIn_2 v0 v1 v0 v0 h
theorem tX10_leftIn_0 {d : Nat} {z : Int32 × aH} (v0 : Nat) (v1 : Int32) (h : aH) (hf : fX10_leftIn_0 v0 v1 h = some z) : Ev (d + 5) none mX10_leftIn (0, 0) 0 [.ref v0, .int v1] [] h (QI z) := 
  go_ok (X := none) (blk := wX10_leftIn_0) (np := 2) (tt := 0) (kN := fun xs h st => app [2, 1] (fun v0 v1 => apS [2, 2] (fun s0 s1 => fX10_leftIn_2 v0 v1 s0 s1 h) st) xs) (kT := fun _ _ _ => none) (kR := kRI)
    (fun xs h st q => jm [2, 1] _ (fun v0 v1 q => apS_ok [2, 2] _ (fun st => Ev (d + 5) none mX10_leftIn (0, 0) 2 [.ref v0, .int v1] st h (QI z)) st (fun s0 s1 q => tX10_leftIn_2 v0 v1 s0 s1 h q) q) q)
    (fun _ _ _ q => nos q)
    kRI_ok (Or.inr rfl) (by decide +kernel) (by decide +kernel) hf
def gX10_leftIn (v0 : Nat) (v1 : Int32) (h : aH) : Option (Int32 × aH) := fX10_leftIn_0 v0 v1 h
theorem zX10_leftIn {d : Nat} {z : Int32 × aH} {v0 : Nat} {v1 : Int32} {h : aH} (q : gX10_leftIn v0 v1 h = some z) : CT (d + 5) mX10_leftIn (0, 0) [.ref v0, .int v1] h (QI z) :=
  ct_ev (by decide +kernel) (Nat.le_of_ble_eq_true rfl) QI_r (jm [2, 1] (fun v0 v1 => fX10_leftIn_0 v0 v1 h) (fun v0 v1 q => tX10_leftIn_0 v0 v1 h q) q)
def wX10_livingIn_47 : List En := [(.ireturn, 0, 0, 0)]
def fX10_livingIn_47 (s0 : Int32) (h : aH) : Option (Int32 × aH) :=
  some (s0, h)
theorem tX10_livingIn_47 {d : Nat} {z : Int32 × aH} (s0 : Int32) (h : aH) (hf : fX10_livingIn_47 s0 h = some z) : Ev (d + 5) none mX10_livingIn (0, 0) 47 [.null, .null] [.int s0] h (QI z) := 
  go_ok (X := none) (blk := wX10_livingIn_47) (np := 48) (tt := 0) (kN := fun _ _ _ => none) (kT := fun _ _ _ => none) (kR := kRI)
    (fun _ _ _ q => nos q)
    (fun _ _ _ q => nos q)
    kRI_ok (Or.inr rfl) (by decide +kernel) (by decide +kernel) hf
theorem kqX10_livingIn_44 : okC mX10_livingIn 44 (.invokevirtual 211) 86 97 0 1 = true := by decide +kernel
def fX10_livingIn_44 (s0 : Nat) (s1 : Nat) (h : aH) : Option (Int32 × aH) :=
  (isO h 7 s1).bind fun _ =>
  (gX7_living s1 s0 h).bind fun r =>
  fX10_livingIn_47 r.1 r.2
theorem tX10_livingIn_44 {d : Nat} {z : Int32 × aH} (s0 : Nat) (s1 : Nat) (h : aH) (hf : fX10_livingIn_44 s0 s1 h = some z) : Ev (d + 5) none mX10_livingIn (0, 0) 44 [.null, .null] [.ref s0, .ref s1] h (QI z) := by
  obtain ⟨_, h1, hf⟩ := bnd hf
  obtain ⟨fs, ho⟩ := isO_ok h1
  obtain ⟨r, h2, hf⟩ := bnd hf
  refine ev_V kqX10_livingIn_44 jX7_living (zX7_living (d := d + 4) h2) ho rfl rfl (Nat.le_of_ble_eq_true rfl) rfl (as := [.ref s0]) (rest := []) rfl (Nat.le_of_ble_eq_true rfl) (fun _ _ hq => ?_)
  obtain ⟨rfl, rfl⟩ := hq
  exact jm [0, 0] (fX10_livingIn_47 r.1 r.2) (fun q => tX10_livingIn_47 r.1 r.2 q) hf
def wX10_livingIn_33 : List En := [(.aload_n 0, 0, 0, 0), (.getfield 19, 163, 10, 1), (.getfield 208, 48, 1, 0), (.aload_n 0, 0, 0, 0), (.getfield 75, 171, 10, 9)]
def fX10_livingIn_33 (v0 : Nat) (h : aH) : Option (Int32 × aH) :=
  (gFR h 10 v0 1).bind fun t1 =>
  (gFR h 1 t1 0).bind fun t2 =>
  (gFR h 10 v0 9).bind fun t3 =>
  fX10_livingIn_44 t3 t2 h
theorem tX10_livingIn_33 {d : Nat} {z : Int32 × aH} (v0 : Nat) (h : aH) (hf : fX10_livingIn_33 v0 h = some z) : Ev (d + 5) none mX10_livingIn (0, 0) 33 [.ref v0, .null] [] h (QI z) := 
  go_ok (X := none) (blk := wX10_livingIn_33) (np := 44) (tt := 0) (kN := fun xs h st => app [0, 0] (apS [2, 2] (fun s0 s1 => fX10_livingIn_44 s0 s1 h) st) xs) (kT := fun _ _ _ => none) (kR := kRI)
    (fun xs h st q => jm [0, 0] _ (fun q => apS_ok [2, 2] _ (fun st => Ev (d + 5) none mX10_livingIn (0, 0) 44 [.null, .null] st h (QI z)) st (fun s0 s1 q => tX10_livingIn_44 s0 s1 h q) q) q)
    (fun _ _ _ q => nos q)
    kRI_ok (Or.inr rfl) (by decide +kernel) (by decide +kernel) hf
theorem kqX10_livingIn_30 : okC mX10_livingIn 30 (.invokevirtual 183) 79 67 0 3 = true := by decide +kernel
def fX10_livingIn_30 (v0 : Nat) (s0 : Int32) (s1 : Nat) (s2 : Nat) (s3 : Nat) (h : aH) : Option (Int32 × aH) :=
  (isO h 1 s3).bind fun _ =>
  (gX1_walk s3 s2 s1 s0 h).bind fun r =>
  fX10_livingIn_33 v0 r
theorem tX10_livingIn_30 {d : Nat} {z : Int32 × aH} (v0 : Nat) (s0 : Int32) (s1 : Nat) (s2 : Nat) (s3 : Nat) (h : aH) (hf : fX10_livingIn_30 v0 s0 s1 s2 s3 h = some z) : Ev (d + 5) none mX10_livingIn (0, 0) 30 [.ref v0, .null] [.int s0, .ref s1, .ref s2, .ref s3] h (QI z) := by
  obtain ⟨_, h1, hf⟩ := bnd hf
  obtain ⟨fs, ho⟩ := isO_ok h1
  obtain ⟨r, h2, hf⟩ := bnd hf
  refine ev_V kqX10_livingIn_30 jX1_walk (zX1_walk (d := d + 0) h2) ho rfl rfl (Nat.le_of_ble_eq_true rfl) rfl (as := [.ref s2, .ref s1, .int s0]) (rest := []) rfl (Nat.le_of_ble_eq_true rfl) (fun _ _ hq => ?_)
  obtain ⟨rfl, hh⟩ := hq
  rw [hh]
  exact jm [2, 0] (fun v0 => fX10_livingIn_33 v0 r) (fun v0 q => tX10_livingIn_33 v0 r q) hf
def wX10_livingIn_17 : List En := [(.aload_n 0, 0, 0, 0), (.getfield 19, 163, 10, 1), (.aload_n 0, 0, 0, 0), (.getfield 75, 171, 10, 9), (.aload_n 0, 0, 0, 0), (.getfield 68, 170, 10, 8), (.iload_n 1, 0, 0, 0)]
def fX10_livingIn_17 (v0 : Nat) (v1 : Int32) (h : aH) : Option (Int32 × aH) :=
  (gFR h 10 v0 1).bind fun t1 =>
  (gFR h 10 v0 9).bind fun t2 =>
  (gFR h 10 v0 8).bind fun t3 =>
  fX10_livingIn_30 v0 v1 t3 t2 t1 h
theorem tX10_livingIn_17 {d : Nat} {z : Int32 × aH} (v0 : Nat) (v1 : Int32) (h : aH) (hf : fX10_livingIn_17 v0 v1 h = some z) : Ev (d + 5) none mX10_livingIn (0, 0) 17 [.ref v0, .int v1] [] h (QI z) := 
  go_ok (X := none) (blk := wX10_livingIn_17) (np := 30) (tt := 0) (kN := fun xs h st => app [2, 0] (fun v0 => apS [1, 2, 2, 2] (fun s0 s1 s2 s3 => fX10_livingIn_30 v0 s0 s1 s2 s3 h) st) xs) (kT := fun _ _ _ => none) (kR := kRI)
    (fun xs h st q => jm [2, 0] _ (fun v0 q => apS_ok [1, 2, 2, 2] _ (fun st => Ev (d + 5) none mX10_livingIn (0, 0) 30 [.ref v0, .null] st h (QI z)) st (fun s0 s1 s2 s3 q => tX10_livingIn_30 v0 s0 s1 s2 s3 h q) q) q)
    (fun _ _ _ q => nos q)
    kRI_ok (Or.inr rfl) (by decide +kernel) (by decide +kernel) hf
def wX10_livingIn_15 : List En := [(.iconst (-1), 0, 0, 0), (.ireturn, 0, 0, 0)]
def fX10_livingIn_15 (h : aH) : Option (Int32 × aH) :=
  some ((kI (-1)), h)
theorem tX10_livingIn_15 {d : Nat} {z : Int32 × aH} (h : aH) (hf : fX10_livingIn_15 h = some z) : Ev (d + 5) none mX10_livingIn (0, 0) 15 [.null, .null] [] h (QI z) := 
  go_ok (X := none) (blk := wX10_livingIn_15) (np := 17) (tt := 0) (kN := fun _ _ _ => none) (kT := fun _ _ _ => none) (kR := kRI)
    (fun _ _ _ q => nos q)
    (fun _ _ _ q => nos q)
    kRI_ok (Or.inr rfl) (by decide +kernel) (by decide +kernel) hf
def wX10_livingIn_12 : List En := [(.ifCond .eq 5, 17, 0, 0)]
def fX10_livingIn_12 (v0 : Nat) (v1 : Int32) (s0 : Int32) (h : aH) : Option (Int32 × aH) :=
  if s0 = 0 then fX10_livingIn_17 v0 v1 h else fX10_livingIn_15 h
theorem tX10_livingIn_12 {d : Nat} {z : Int32 × aH} (v0 : Nat) (v1 : Int32) (s0 : Int32) (h : aH) (hf : fX10_livingIn_12 v0 v1 s0 h = some z) : Ev (d + 5) none mX10_livingIn (0, 0) 12 [.ref v0, .int v1] [.int s0] h (QI z) := 
  go_ok (X := none) (blk := wX10_livingIn_12) (np := 15) (tt := 17) (kN := fun xs h st => app [0, 0] (apS [] (fX10_livingIn_15 h) st) xs) (kT := fun xs h st => app [2, 1] (fun v0 v1 => apS [] (fX10_livingIn_17 v0 v1 h) st) xs) (kR := kRI)
    (fun xs h st q => jm [0, 0] _ (fun q => apS_ok [] _ (fun st => Ev (d + 5) none mX10_livingIn (0, 0) 15 [.null, .null] st h (QI z)) st (fun q => tX10_livingIn_15 h q) q) q)
    (fun xs h st q => jm [2, 1] _ (fun v0 v1 q => apS_ok [] _ (fun st => Ev (d + 5) none mX10_livingIn (0, 0) 17 [.ref v0, .int v1] st h (QI z)) st (fun q => tX10_livingIn_17 v0 v1 h q) q) q)
    kRI_ok (Or.inr rfl) (by decide +kernel) (by decide +kernel) hf
theorem kqX10_livingIn_9 : okC mX10_livingIn 9 (.invokevirtual 190) 92 87 0 4 = true := by decide +kernel
def fX10_livingIn_9 (v0 : Nat) (v1 : Int32) (s0 : Int32) (s1 : Int32) (s2 : Int32) (s3 : Int32) (s4 : Nat) (h : aH) : Option (Int32 × aH) :=
  (isO h 10 s4).bind fun _ =>
  (gX10_isRefused s4 s3 s2 s1 s0 h).bind fun r =>
  fX10_livingIn_12 v0 v1 r.1 r.2
theorem tX10_livingIn_9 {d : Nat} {z : Int32 × aH} (v0 : Nat) (v1 : Int32) (s0 : Int32) (s1 : Int32) (s2 : Int32) (s3 : Int32) (s4 : Nat) (h : aH) (hf : fX10_livingIn_9 v0 v1 s0 s1 s2 s3 s4 h = some z) : Ev (d + 5) none mX10_livingIn (0, 0) 9 [.ref v0, .int v1] [.int s0, .int s1, .int s2, .int s3, .ref s4] h (QI z) := by
  obtain ⟨_, h1, hf⟩ := bnd hf
  obtain ⟨fs, ho⟩ := isO_ok h1
  obtain ⟨r, h2, hf⟩ := bnd hf
  refine ev_V kqX10_livingIn_9 jX10_isRefused (zX10_isRefused (d := d + 3) h2) ho rfl rfl (Nat.le_of_ble_eq_true rfl) rfl (as := [.int s3, .int s2, .int s1, .int s0]) (rest := []) rfl (Nat.le_of_ble_eq_true rfl) (fun _ _ hq => ?_)
  obtain ⟨-, rfl, rfl⟩ := hq
  exact jm [2, 1] (fun v0 v1 => fX10_livingIn_12 v0 v1 r.1 r.2) (fun v0 v1 q => tX10_livingIn_12 v0 v1 r.1 r.2 q) hf
def wX10_livingIn_5 : List En := [(.iload_n 1, 0, 0, 0), (.iconst 0, 0, 0, 0), (.bipush 60, 0, 0, 0)]
def fX10_livingIn_5 (v0 : Nat) (v1 : Int32) (s0 : Int32) (s1 : Nat) (h : aH) : Option (Int32 × aH) :=
  fX10_livingIn_9 v0 v1 (kB 60) (kI 0) v1 s0 s1 h
theorem tX10_livingIn_5 {d : Nat} {z : Int32 × aH} (v0 : Nat) (v1 : Int32) (s0 : Int32) (s1 : Nat) (h : aH) (hf : fX10_livingIn_5 v0 v1 s0 s1 h = some z) : Ev (d + 5) none mX10_livingIn (0, 0) 5 [.ref v0, .int v1] [.int s0, .ref s1] h (QI z) := 
  go_ok (X := none) (blk := wX10_livingIn_5) (np := 9) (tt := 0) (kN := fun xs h st => app [2, 1] (fun v0 v1 => apS [1, 1, 1, 1, 2] (fun s0 s1 s2 s3 s4 => fX10_livingIn_9 v0 v1 s0 s1 s2 s3 s4 h) st) xs) (kT := fun _ _ _ => none) (kR := kRI)
    (fun xs h st q => jm [2, 1] _ (fun v0 v1 q => apS_ok [1, 1, 1, 1, 2] _ (fun st => Ev (d + 5) none mX10_livingIn (0, 0) 9 [.ref v0, .int v1] st h (QI z)) st (fun s0 s1 s2 s3 s4 q => tX10_livingIn_9 v0 v1 s0 s1 s2 s3 s4 h q) q) q)
    (fun _ _ _ q => nos q)
    kRI_ok (Or.inr rfl) (by decide +kernel) (by decide +kernel) hf
theorem kqX10_livingIn_2 : okC mX10_livingIn 2 (.invokevirtual 159) 68 52 0 0 = true := by decide +kernel
def fX10_livingIn_2 (v0 : Nat) (v1 : Int32) (s0 : Nat) (s1 : Nat) (h : aH) : Option (Int32 × aH) :=
  (isO h 10 s0).bind fun _ =>
  (gX10_lacksTable s0 h).bind fun r =>
  fX10_livingIn_5 v0 v1 r.1 s1 r.2
theorem tX10_livingIn_2 {d : Nat} {z : Int32 × aH} (v0 : Nat) (v1 : Int32) (s0 : Nat) (s1 : Nat) (h : aH) (hf : fX10_livingIn_2 v0 v1 s0 s1 h = some z) : Ev (d + 5) none mX10_livingIn (0, 0) 2 [.ref v0, .int v1] [.ref s0, .ref s1] h (QI z) := by
  obtain ⟨_, h1, hf⟩ := bnd hf
  obtain ⟨fs, ho⟩ := isO_ok h1
  obtain ⟨r, h2, hf⟩ := bnd hf
  refine ev_V kqX10_livingIn_2 jX10_lacksTable (zX10_lacksTable (d := d + 4) h2) ho rfl rfl (Nat.le_of_ble_eq_true rfl) rfl (as := []) (rest := [.ref s1]) rfl (Nat.le_of_ble_eq_true rfl) (fun _ _ hq => ?_)
  obtain ⟨-, rfl, rfl⟩ := hq
  exact jm [2, 1] (fun v0 v1 => fX10_livingIn_5 v0 v1 r.1 s1 r.2) (fun v0 v1 q => tX10_livingIn_5 v0 v1 r.1 s1 r.2 q) hf
def wX10_livingIn_0 : List En := [(.aload_n 0, 0, 0, 0), (.aload_n 0, 0, 0, 0)]
def fX10_livingIn_0 (v0 : Nat) (v1 : Int32) (h : aH) : Option (Int32 × aH) :=
  fX10_livingIn_2 v0 v1 v0 v0 h
theorem tX10_livingIn_0 {d : Nat} {z : Int32 × aH} (v0 : Nat) (v1 : Int32) (h : aH) (hf : fX10_livingIn_0 v0 v1 h = some z) : Ev (d + 5) none mX10_livingIn (0, 0) 0 [.ref v0, .int v1] [] h (QI z) := 
  go_ok (X := none) (blk := wX10_livingIn_0) (np := 2) (tt := 0) (kN := fun xs h st => app [2, 1] (fun v0 v1 => apS [2, 2] (fun s0 s1 => fX10_livingIn_2 v0 v1 s0 s1 h) st) xs) (kT := fun _ _ _ => none) (kR := kRI)
    (fun xs h st q => jm [2, 1] _ (fun v0 v1 q => apS_ok [2, 2] _ (fun st => Ev (d + 5) none mX10_livingIn (0, 0) 2 [.ref v0, .int v1] st h (QI z)) st (fun s0 s1 q => tX10_livingIn_2 v0 v1 s0 s1 h q) q) q)
    (fun _ _ _ q => nos q)
    kRI_ok (Or.inr rfl) (by decide +kernel) (by decide +kernel) hf
def gX10_livingIn (v0 : Nat) (v1 : Int32) (h : aH) : Option (Int32 × aH) := fX10_livingIn_0 v0 v1 h
theorem zX10_livingIn {d : Nat} {z : Int32 × aH} {v0 : Nat} {v1 : Int32} {h : aH} (q : gX10_livingIn v0 v1 h = some z) : CT (d + 5) mX10_livingIn (0, 0) [.ref v0, .int v1] h (QI z) :=
  ct_ev (by decide +kernel) (Nat.le_of_ble_eq_true rfl) QI_r (jm [2, 1] (fun v0 v1 => fX10_livingIn_0 v0 v1 h) (fun v0 v1 q => tX10_livingIn_0 v0 v1 h q) q)
def wX7_hungriest_48 : List En := [(.iload_n 2, 0, 0, 0), (.ireturn, 0, 0, 0)]
def fX7_hungriest_48 (v2 : Int32) (h : aH) : Option (Int32 × aH) :=
  some (v2, h)
theorem tX7_hungriest_48 {d : Nat} {z : Int32 × aH} (v2 : Int32) (h : aH) (hf : fX7_hungriest_48 v2 h = some z) : Ev (d + 1) none mX7_hungriest (0, 0) 48 [.null, .null, .int v2, .null] [] h (QI z) := 
  go_ok (X := none) (blk := wX7_hungriest_48) (np := 50) (tt := 0) (kN := fun _ _ _ => none) (kT := fun _ _ _ => none) (kR := kRI)
    (fun _ _ _ q => nos q)
    (fun _ _ _ q => nos q)
    kRI_ok (Or.inr rfl) (by decide +kernel) (by decide +kernel) hf
def wX7_hungriest_42 : List En := [(.iinc 3 1, 0, 0, 0), (.goto (-40), 5, 0, 0)]
def fX7_hungriest_42 (k5 : Nat → Nat → Int32 → Int32 → aH → Option (Int32 × aH)) (v0 : Nat) (v1 : Nat) (v2 : Int32) (v3 : Int32) (h : aH) : Option (Int32 × aH) :=
  k5 v0 v1 v2 (v3 + kI 1) h
theorem tX7_hungriest_42 {d : Nat} {z : Int32 × aH} {k5 : Nat → Nat → Int32 → Int32 → aH → Option (Int32 × aH)} (hk5 : ∀ (v0 : Nat) (v1 : Nat) (v2 : Int32) (v3 : Int32) (h : aH), k5 v0 v1 v2 v3 h = some z → Ev (d + 1) none mX7_hungriest (0, 0) 5 [.ref v0, .ref v1, .int v2, .int v3] [] h (QI z)) (v0 : Nat) (v1 : Nat) (v2 : Int32) (v3 : Int32) (h : aH) (hf : fX7_hungriest_42 k5 v0 v1 v2 v3 h = some z) : Ev (d + 1) none mX7_hungriest (0, 0) 42 [.ref v0, .ref v1, .int v2, .int v3] [] h (QI z) := 
  go_ok (X := none) (blk := wX7_hungriest_42) (np := 48) (tt := 5) (kN := fun _ _ _ => none) (kT := fun xs h st => app [2, 2, 1, 1] (fun v0 v1 v2 v3 => apS [] (k5 v0 v1 v2 v3 h) st) xs) (kR := kRI)
    (fun _ _ _ q => nos q)
    (fun xs h st q => jm [2, 2, 1, 1] _ (fun v0 v1 v2 v3 q => apS_ok [] _ (fun st => Ev (d + 1) none mX7_hungriest (0, 0) 5 [.ref v0, .ref v1, .int v2, .int v3] st h (QI z)) st (fun q => hk5 v0 v1 v2 v3 h q) q) q)
    kRI_ok (Or.inr rfl) (by decide +kernel) (by decide +kernel) hf
def wX7_hungriest_40 : List En := [(.iload_n 3, 0, 0, 0), (.istore_n 2, 0, 0, 0)]
def fX7_hungriest_40 (k5 : Nat → Nat → Int32 → Int32 → aH → Option (Int32 × aH)) (v0 : Nat) (v1 : Nat) (v3 : Int32) (h : aH) : Option (Int32 × aH) :=
  fX7_hungriest_42 k5 v0 v1 v3 v3 h
theorem tX7_hungriest_40 {d : Nat} {z : Int32 × aH} {k5 : Nat → Nat → Int32 → Int32 → aH → Option (Int32 × aH)} (hk5 : ∀ (v0 : Nat) (v1 : Nat) (v2 : Int32) (v3 : Int32) (h : aH), k5 v0 v1 v2 v3 h = some z → Ev (d + 1) none mX7_hungriest (0, 0) 5 [.ref v0, .ref v1, .int v2, .int v3] [] h (QI z)) (v0 : Nat) (v1 : Nat) (v3 : Int32) (h : aH) (hf : fX7_hungriest_40 k5 v0 v1 v3 h = some z) : Ev (d + 1) none mX7_hungriest (0, 0) 40 [.ref v0, .ref v1, .null, .int v3] [] h (QI z) := 
  go_ok (X := none) (blk := wX7_hungriest_40) (np := 42) (tt := 0) (kN := fun xs h st => app [2, 2, 1, 1] (fun v0 v1 v2 v3 => apS [] (fX7_hungriest_42 k5 v0 v1 v2 v3 h) st) xs) (kT := fun _ _ _ => none) (kR := kRI)
    (fun xs h st q => jm [2, 2, 1, 1] _ (fun v0 v1 v2 v3 q => apS_ok [] _ (fun st => Ev (d + 1) none mX7_hungriest (0, 0) 42 [.ref v0, .ref v1, .int v2, .int v3] st h (QI z)) st (fun q => tX7_hungriest_42 hk5 v0 v1 v2 v3 h q) q) q)
    (fun _ _ _ q => nos q)
    kRI_ok (Or.inr rfl) (by decide +kernel) (by decide +kernel) hf
def wX7_hungriest_25 : List En := [(.aload_n 0, 0, 0, 0), (.getfield 9, 18, 7, 0), (.iload_n 3, 0, 0, 0), (.iaload, 0, 0, 0), (.aload_n 0, 0, 0, 0), (.getfield 9, 18, 7, 0), (.iload_n 2, 0, 0, 0), (.iaload, 0, 0, 0), (.if_icmp .le 5, 42, 0, 0)]
def fX7_hungriest_25 (k5 : Nat → Nat → Int32 → Int32 → aH → Option (Int32 × aH)) (v0 : Nat) (v1 : Nat) (v2 : Int32) (v3 : Int32) (h : aH) : Option (Int32 × aH) :=
  (gFR h 7 v0 0).bind fun t1 =>
  (aRI (h[t1]?) v3).bind fun t2 =>
  (gFR h 7 v0 0).bind fun t3 =>
  (aRI (h[t3]?) v2).bind fun t4 =>
  if t4 < t2 then fX7_hungriest_40 k5 v0 v1 v3 h else fX7_hungriest_42 k5 v0 v1 v2 v3 h
theorem tX7_hungriest_25 {d : Nat} {z : Int32 × aH} {k5 : Nat → Nat → Int32 → Int32 → aH → Option (Int32 × aH)} (hk5 : ∀ (v0 : Nat) (v1 : Nat) (v2 : Int32) (v3 : Int32) (h : aH), k5 v0 v1 v2 v3 h = some z → Ev (d + 1) none mX7_hungriest (0, 0) 5 [.ref v0, .ref v1, .int v2, .int v3] [] h (QI z)) (v0 : Nat) (v1 : Nat) (v2 : Int32) (v3 : Int32) (h : aH) (hf : fX7_hungriest_25 k5 v0 v1 v2 v3 h = some z) : Ev (d + 1) none mX7_hungriest (0, 0) 25 [.ref v0, .ref v1, .int v2, .int v3] [] h (QI z) := 
  go_ok (X := none) (blk := wX7_hungriest_25) (np := 40) (tt := 42) (kN := fun xs h st => app [2, 2, 0, 1] (fun v0 v1 v3 => apS [] (fX7_hungriest_40 k5 v0 v1 v3 h) st) xs) (kT := fun xs h st => app [2, 2, 1, 1] (fun v0 v1 v2 v3 => apS [] (fX7_hungriest_42 k5 v0 v1 v2 v3 h) st) xs) (kR := kRI)
    (fun xs h st q => jm [2, 2, 0, 1] _ (fun v0 v1 v3 q => apS_ok [] _ (fun st => Ev (d + 1) none mX7_hungriest (0, 0) 40 [.ref v0, .ref v1, .null, .int v3] st h (QI z)) st (fun q => tX7_hungriest_40 hk5 v0 v1 v3 h q) q) q)
    (fun xs h st q => jm [2, 2, 1, 1] _ (fun v0 v1 v2 v3 q => apS_ok [] _ (fun st => Ev (d + 1) none mX7_hungriest (0, 0) 42 [.ref v0, .ref v1, .int v2, .int v3] st h (QI z)) st (fun q => tX7_hungriest_42 hk5 v0 v1 v2 v3 h q) q) q)
    kRI_ok (Or.inr rfl) (by decide +kernel) (by decide +kernel) hf
def wX7_hungriest_21 : List En := [(.iload_n 2, 0, 0, 0), (.ifCond .lt 18, 40, 0, 0)]
def fX7_hungriest_21 (k5 : Nat → Nat → Int32 → Int32 → aH → Option (Int32 × aH)) (v0 : Nat) (v1 : Nat) (v2 : Int32) (v3 : Int32) (h : aH) : Option (Int32 × aH) :=
  if v2 < 0 then fX7_hungriest_40 k5 v0 v1 v3 h else fX7_hungriest_25 k5 v0 v1 v2 v3 h
theorem tX7_hungriest_21 {d : Nat} {z : Int32 × aH} {k5 : Nat → Nat → Int32 → Int32 → aH → Option (Int32 × aH)} (hk5 : ∀ (v0 : Nat) (v1 : Nat) (v2 : Int32) (v3 : Int32) (h : aH), k5 v0 v1 v2 v3 h = some z → Ev (d + 1) none mX7_hungriest (0, 0) 5 [.ref v0, .ref v1, .int v2, .int v3] [] h (QI z)) (v0 : Nat) (v1 : Nat) (v2 : Int32) (v3 : Int32) (h : aH) (hf : fX7_hungriest_21 k5 v0 v1 v2 v3 h = some z) : Ev (d + 1) none mX7_hungriest (0, 0) 21 [.ref v0, .ref v1, .int v2, .int v3] [] h (QI z) := 
  go_ok (X := none) (blk := wX7_hungriest_21) (np := 25) (tt := 40) (kN := fun xs h st => app [2, 2, 1, 1] (fun v0 v1 v2 v3 => apS [] (fX7_hungriest_25 k5 v0 v1 v2 v3 h) st) xs) (kT := fun xs h st => app [2, 2, 0, 1] (fun v0 v1 v3 => apS [] (fX7_hungriest_40 k5 v0 v1 v3 h) st) xs) (kR := kRI)
    (fun xs h st q => jm [2, 2, 1, 1] _ (fun v0 v1 v2 v3 q => apS_ok [] _ (fun st => Ev (d + 1) none mX7_hungriest (0, 0) 25 [.ref v0, .ref v1, .int v2, .int v3] st h (QI z)) st (fun q => tX7_hungriest_25 hk5 v0 v1 v2 v3 h q) q) q)
    (fun xs h st q => jm [2, 2, 0, 1] _ (fun v0 v1 v3 q => apS_ok [] _ (fun st => Ev (d + 1) none mX7_hungriest (0, 0) 40 [.ref v0, .ref v1, .null, .int v3] st h (QI z)) st (fun q => tX7_hungriest_40 hk5 v0 v1 v3 h q) q) q)
    kRI_ok (Or.inr rfl) (by decide +kernel) (by decide +kernel) hf
def wX7_hungriest_18 : List En := [(.ifCond .ne 24, 42, 0, 0)]
def fX7_hungriest_18 (k5 : Nat → Nat → Int32 → Int32 → aH → Option (Int32 × aH)) (v0 : Nat) (v1 : Nat) (v2 : Int32) (v3 : Int32) (s0 : Int32) (h : aH) : Option (Int32 × aH) :=
  if s0 = 0 then fX7_hungriest_21 k5 v0 v1 v2 v3 h else fX7_hungriest_42 k5 v0 v1 v2 v3 h
theorem tX7_hungriest_18 {d : Nat} {z : Int32 × aH} {k5 : Nat → Nat → Int32 → Int32 → aH → Option (Int32 × aH)} (hk5 : ∀ (v0 : Nat) (v1 : Nat) (v2 : Int32) (v3 : Int32) (h : aH), k5 v0 v1 v2 v3 h = some z → Ev (d + 1) none mX7_hungriest (0, 0) 5 [.ref v0, .ref v1, .int v2, .int v3] [] h (QI z)) (v0 : Nat) (v1 : Nat) (v2 : Int32) (v3 : Int32) (s0 : Int32) (h : aH) (hf : fX7_hungriest_18 k5 v0 v1 v2 v3 s0 h = some z) : Ev (d + 1) none mX7_hungriest (0, 0) 18 [.ref v0, .ref v1, .int v2, .int v3] [.int s0] h (QI z) := 
  go_ok (X := none) (blk := wX7_hungriest_18) (np := 21) (tt := 42) (kN := fun xs h st => app [2, 2, 1, 1] (fun v0 v1 v2 v3 => apS [] (fX7_hungriest_21 k5 v0 v1 v2 v3 h) st) xs) (kT := fun xs h st => app [2, 2, 1, 1] (fun v0 v1 v2 v3 => apS [] (fX7_hungriest_42 k5 v0 v1 v2 v3 h) st) xs) (kR := kRI)
    (fun xs h st q => jm [2, 2, 1, 1] _ (fun v0 v1 v2 v3 q => apS_ok [] _ (fun st => Ev (d + 1) none mX7_hungriest (0, 0) 21 [.ref v0, .ref v1, .int v2, .int v3] st h (QI z)) st (fun q => tX7_hungriest_21 hk5 v0 v1 v2 v3 h q) q) q)
    (fun xs h st q => jm [2, 2, 1, 1] _ (fun v0 v1 v2 v3 q => apS_ok [] _ (fun st => Ev (d + 1) none mX7_hungriest (0, 0) 42 [.ref v0, .ref v1, .int v2, .int v3] st h (QI z)) st (fun q => tX7_hungriest_42 hk5 v0 v1 v2 v3 h q) q) q)
    kRI_ok (Or.inr rfl) (by decide +kernel) (by decide +kernel) hf
theorem kqX7_hungriest_15 : okC mX7_hungriest 15 (.invokevirtual 73) 70 60 0 1 = true := by decide +kernel
def fX7_hungriest_15 (k5 : Nat → Nat → Int32 → Int32 → aH → Option (Int32 × aH)) (v0 : Nat) (v1 : Nat) (v2 : Int32) (v3 : Int32) (s0 : Int32) (s1 : Nat) (h : aH) : Option (Int32 × aH) :=
  (isO h 7 s1).bind fun _ =>
  (gX7_isDead s1 s0 h).bind fun r =>
  fX7_hungriest_18 k5 v0 v1 v2 v3 r.1 r.2
theorem tX7_hungriest_15 {d : Nat} {z : Int32 × aH} {k5 : Nat → Nat → Int32 → Int32 → aH → Option (Int32 × aH)} (hk5 : ∀ (v0 : Nat) (v1 : Nat) (v2 : Int32) (v3 : Int32) (h : aH), k5 v0 v1 v2 v3 h = some z → Ev (d + 1) none mX7_hungriest (0, 0) 5 [.ref v0, .ref v1, .int v2, .int v3] [] h (QI z)) (v0 : Nat) (v1 : Nat) (v2 : Int32) (v3 : Int32) (s0 : Int32) (s1 : Nat) (h : aH) (hf : fX7_hungriest_15 k5 v0 v1 v2 v3 s0 s1 h = some z) : Ev (d + 1) none mX7_hungriest (0, 0) 15 [.ref v0, .ref v1, .int v2, .int v3] [.int s0, .ref s1] h (QI z) := by
  obtain ⟨_, h1, hf⟩ := bnd hf
  obtain ⟨fs, ho⟩ := isO_ok h1
  obtain ⟨r, h2, hf⟩ := bnd hf
  refine ev_V kqX7_hungriest_15 jX7_isDead (zX7_isDead (d := d + 0) h2) ho rfl rfl (Nat.le_of_ble_eq_true rfl) rfl (as := [.int s0]) (rest := []) rfl (Nat.le_of_ble_eq_true rfl) (fun _ _ hq => ?_)
  obtain ⟨-, rfl, rfl⟩ := hq
  exact jm [2, 2, 1, 1] (fun v0 v1 v2 v3 => fX7_hungriest_18 k5 v0 v1 v2 v3 r.1 r.2) (fun v0 v1 v2 v3 q => tX7_hungriest_18 hk5 v0 v1 v2 v3 r.1 r.2 q) hf
def wX7_hungriest_13 : List En := [(.aload_n 0, 0, 0, 0), (.iload_n 3, 0, 0, 0)]
def fX7_hungriest_13 (k5 : Nat → Nat → Int32 → Int32 → aH → Option (Int32 × aH)) (v0 : Nat) (v1 : Nat) (v2 : Int32) (v3 : Int32) (h : aH) : Option (Int32 × aH) :=
  fX7_hungriest_15 k5 v0 v1 v2 v3 v3 v0 h
theorem tX7_hungriest_13 {d : Nat} {z : Int32 × aH} {k5 : Nat → Nat → Int32 → Int32 → aH → Option (Int32 × aH)} (hk5 : ∀ (v0 : Nat) (v1 : Nat) (v2 : Int32) (v3 : Int32) (h : aH), k5 v0 v1 v2 v3 h = some z → Ev (d + 1) none mX7_hungriest (0, 0) 5 [.ref v0, .ref v1, .int v2, .int v3] [] h (QI z)) (v0 : Nat) (v1 : Nat) (v2 : Int32) (v3 : Int32) (h : aH) (hf : fX7_hungriest_13 k5 v0 v1 v2 v3 h = some z) : Ev (d + 1) none mX7_hungriest (0, 0) 13 [.ref v0, .ref v1, .int v2, .int v3] [] h (QI z) := 
  go_ok (X := none) (blk := wX7_hungriest_13) (np := 15) (tt := 0) (kN := fun xs h st => app [2, 2, 1, 1] (fun v0 v1 v2 v3 => apS [1, 2] (fun s0 s1 => fX7_hungriest_15 k5 v0 v1 v2 v3 s0 s1 h) st) xs) (kT := fun _ _ _ => none) (kR := kRI)
    (fun xs h st q => jm [2, 2, 1, 1] _ (fun v0 v1 v2 v3 q => apS_ok [1, 2] _ (fun st => Ev (d + 1) none mX7_hungriest (0, 0) 15 [.ref v0, .ref v1, .int v2, .int v3] st h (QI z)) st (fun s0 s1 q => tX7_hungriest_15 hk5 v0 v1 v2 v3 s0 s1 h q) q) q)
    (fun _ _ _ q => nos q)
    kRI_ok (Or.inr rfl) (by decide +kernel) (by decide +kernel) hf
def wX7_hungriest_5 : List En := [(.iload_n 3, 0, 0, 0), (.aload_n 1, 0, 0, 0), (.getfield 59, 112, 9, 3), (.if_icmp .ge 38, 48, 0, 0)]
def fX7_hungriest_5 (k5 : Nat → Nat → Int32 → Int32 → aH → Option (Int32 × aH)) (v0 : Nat) (v1 : Nat) (v2 : Int32) (v3 : Int32) (h : aH) : Option (Int32 × aH) :=
  (gFI h 9 v1 3).bind fun t1 =>
  if v3 < t1 then fX7_hungriest_13 k5 v0 v1 v2 v3 h else fX7_hungriest_48 v2 h
theorem tX7_hungriest_5 {d : Nat} {z : Int32 × aH} {k5 : Nat → Nat → Int32 → Int32 → aH → Option (Int32 × aH)} (hk5 : ∀ (v0 : Nat) (v1 : Nat) (v2 : Int32) (v3 : Int32) (h : aH), k5 v0 v1 v2 v3 h = some z → Ev (d + 1) none mX7_hungriest (0, 0) 5 [.ref v0, .ref v1, .int v2, .int v3] [] h (QI z)) (v0 : Nat) (v1 : Nat) (v2 : Int32) (v3 : Int32) (h : aH) (hf : fX7_hungriest_5 k5 v0 v1 v2 v3 h = some z) : Ev (d + 1) none mX7_hungriest (0, 0) 5 [.ref v0, .ref v1, .int v2, .int v3] [] h (QI z) := 
  go_ok (X := none) (blk := wX7_hungriest_5) (np := 13) (tt := 48) (kN := fun xs h st => app [2, 2, 1, 1] (fun v0 v1 v2 v3 => apS [] (fX7_hungriest_13 k5 v0 v1 v2 v3 h) st) xs) (kT := fun xs h st => app [0, 0, 1, 0] (fun v2 => apS [] (fX7_hungriest_48 v2 h) st) xs) (kR := kRI)
    (fun xs h st q => jm [2, 2, 1, 1] _ (fun v0 v1 v2 v3 q => apS_ok [] _ (fun st => Ev (d + 1) none mX7_hungriest (0, 0) 13 [.ref v0, .ref v1, .int v2, .int v3] st h (QI z)) st (fun q => tX7_hungriest_13 hk5 v0 v1 v2 v3 h q) q) q)
    (fun xs h st q => jm [0, 0, 1, 0] _ (fun v2 q => apS_ok [] _ (fun st => Ev (d + 1) none mX7_hungriest (0, 0) 48 [.null, .null, .int v2, .null] st h (QI z)) st (fun q => tX7_hungriest_48 v2 h q) q) q)
    kRI_ok (Or.inr rfl) (by decide +kernel) (by decide +kernel) hf
def lX7_hungriest_5 : Nat → Nat → Nat → Int32 → Int32 → aH → Option (Int32 × aH)
  | 0, _, _, _, _, _ => none
  | n + 1, v0, v1, v2, v3, h => fX7_hungriest_5 (lX7_hungriest_5 n) v0 v1 v2 v3 h
theorem uX7_hungriest_5 {d : Nat} {z : Int32 × aH} : ∀ (n : Nat) (v0 : Nat) (v1 : Nat) (v2 : Int32) (v3 : Int32) (h : aH), lX7_hungriest_5 n v0 v1 v2 v3 h = some z → Ev (d + 1) none mX7_hungriest (0, 0) 5 [.ref v0, .ref v1, .int v2, .int v3] [] h (QI z) := by
  intro n
  induction n with
  | zero => intro _ _ _ _ _ q; exact nos (show (none : Option (Int32 × aH)) = some z from q)
  | succ n ih => intro v0 v1 v2 v3 h q; exact tX7_hungriest_5 ih v0 v1 v2 v3 h q
def wX7_hungriest_0 : List En := [(.bipush (-2), 0, 0, 0), (.istore_n 2, 0, 0, 0), (.iconst 0, 0, 0, 0), (.istore_n 3, 0, 0, 0)]
def fX7_hungriest_0 (v0 : Nat) (v1 : Nat) (h : aH) : Option (Int32 × aH) :=
  lX7_hungriest_5 FU v0 v1 (kB (-2)) (kI 0) h
theorem tX7_hungriest_0 {d : Nat} {z : Int32 × aH} (v0 : Nat) (v1 : Nat) (h : aH) (hf : fX7_hungriest_0 v0 v1 h = some z) : Ev (d + 1) none mX7_hungriest (0, 0) 0 [.ref v0, .ref v1, .null, .null] [] h (QI z) := 
  go_ok (X := none) (blk := wX7_hungriest_0) (np := 5) (tt := 0) (kN := fun xs h st => app [2, 2, 1, 1] (fun v0 v1 v2 v3 => apS [] (lX7_hungriest_5 FU v0 v1 v2 v3 h) st) xs) (kT := fun _ _ _ => none) (kR := kRI)
    (fun xs h st q => jm [2, 2, 1, 1] _ (fun v0 v1 v2 v3 q => apS_ok [] _ (fun st => Ev (d + 1) none mX7_hungriest (0, 0) 5 [.ref v0, .ref v1, .int v2, .int v3] st h (QI z)) st (fun q => uX7_hungriest_5 FU v0 v1 v2 v3 h q) q) q)
    (fun _ _ _ q => nos q)
    kRI_ok (Or.inr rfl) (by decide +kernel) (by decide +kernel) hf
def gX7_hungriest (v0 : Nat) (v1 : Nat) (h : aH) : Option (Int32 × aH) := fX7_hungriest_0 v0 v1 h
theorem zX7_hungriest {d : Nat} {z : Int32 × aH} {v0 : Nat} {v1 : Nat} {h : aH} (q : gX7_hungriest v0 v1 h = some z) : CT (d + 1) mX7_hungriest (0, 0) [.ref v0, .ref v1] h (QI z) :=
  ct_ev (by decide +kernel) (Nat.le_of_ble_eq_true rfl) QI_r (jm [2, 2, 0, 0] (fun v0 v1 => fX7_hungriest_0 v0 v1 h) (fun v0 v1 q => tX7_hungriest_0 v0 v1 h q) q)
def wX10_hungriestIn_47 : List En := [(.ireturn, 0, 0, 0)]
def fX10_hungriestIn_47 (s0 : Int32) (h : aH) : Option (Int32 × aH) :=
  some (s0, h)
theorem tX10_hungriestIn_47 {d : Nat} {z : Int32 × aH} (s0 : Int32) (h : aH) (hf : fX10_hungriestIn_47 s0 h = some z) : Ev (d + 5) none mX10_hungriestIn (0, 0) 47 [.null, .null] [.int s0] h (QI z) := 
  go_ok (X := none) (blk := wX10_hungriestIn_47) (np := 48) (tt := 0) (kN := fun _ _ _ => none) (kT := fun _ _ _ => none) (kR := kRI)
    (fun _ _ _ q => nos q)
    (fun _ _ _ q => nos q)
    kRI_ok (Or.inr rfl) (by decide +kernel) (by decide +kernel) hf
theorem kqX10_hungriestIn_44 : okC mX10_hungriestIn 44 (.invokevirtual 215) 103 99 0 1 = true := by decide +kernel
def fX10_hungriestIn_44 (s0 : Nat) (s1 : Nat) (h : aH) : Option (Int32 × aH) :=
  (isO h 7 s1).bind fun _ =>
  (gX7_hungriest s1 s0 h).bind fun r =>
  fX10_hungriestIn_47 r.1 r.2
theorem tX10_hungriestIn_44 {d : Nat} {z : Int32 × aH} (s0 : Nat) (s1 : Nat) (h : aH) (hf : fX10_hungriestIn_44 s0 s1 h = some z) : Ev (d + 5) none mX10_hungriestIn (0, 0) 44 [.null, .null] [.ref s0, .ref s1] h (QI z) := by
  obtain ⟨_, h1, hf⟩ := bnd hf
  obtain ⟨fs, ho⟩ := isO_ok h1
  obtain ⟨r, h2, hf⟩ := bnd hf
  refine ev_V kqX10_hungriestIn_44 jX7_hungriest (zX7_hungriest (d := d + 3) h2) ho rfl rfl (Nat.le_of_ble_eq_true rfl) rfl (as := [.ref s0]) (rest := []) rfl (Nat.le_of_ble_eq_true rfl) (fun _ _ hq => ?_)
  obtain ⟨rfl, rfl⟩ := hq
  exact jm [0, 0] (fX10_hungriestIn_47 r.1 r.2) (fun q => tX10_hungriestIn_47 r.1 r.2 q) hf
def wX10_hungriestIn_33 : List En := [(.aload_n 0, 0, 0, 0), (.getfield 19, 163, 10, 1), (.getfield 208, 48, 1, 0), (.aload_n 0, 0, 0, 0), (.getfield 75, 171, 10, 9)]
def fX10_hungriestIn_33 (v0 : Nat) (h : aH) : Option (Int32 × aH) :=
  (gFR h 10 v0 1).bind fun t1 =>
  (gFR h 1 t1 0).bind fun t2 =>
  (gFR h 10 v0 9).bind fun t3 =>
  fX10_hungriestIn_44 t3 t2 h
theorem tX10_hungriestIn_33 {d : Nat} {z : Int32 × aH} (v0 : Nat) (h : aH) (hf : fX10_hungriestIn_33 v0 h = some z) : Ev (d + 5) none mX10_hungriestIn (0, 0) 33 [.ref v0, .null] [] h (QI z) := 
  go_ok (X := none) (blk := wX10_hungriestIn_33) (np := 44) (tt := 0) (kN := fun xs h st => app [0, 0] (apS [2, 2] (fun s0 s1 => fX10_hungriestIn_44 s0 s1 h) st) xs) (kT := fun _ _ _ => none) (kR := kRI)
    (fun xs h st q => jm [0, 0] _ (fun q => apS_ok [2, 2] _ (fun st => Ev (d + 5) none mX10_hungriestIn (0, 0) 44 [.null, .null] st h (QI z)) st (fun s0 s1 q => tX10_hungriestIn_44 s0 s1 h q) q) q)
    (fun _ _ _ q => nos q)
    kRI_ok (Or.inr rfl) (by decide +kernel) (by decide +kernel) hf
theorem kqX10_hungriestIn_30 : okC mX10_hungriestIn 30 (.invokevirtual 183) 79 67 0 3 = true := by decide +kernel
def fX10_hungriestIn_30 (v0 : Nat) (s0 : Int32) (s1 : Nat) (s2 : Nat) (s3 : Nat) (h : aH) : Option (Int32 × aH) :=
  (isO h 1 s3).bind fun _ =>
  (gX1_walk s3 s2 s1 s0 h).bind fun r =>
  fX10_hungriestIn_33 v0 r
theorem tX10_hungriestIn_30 {d : Nat} {z : Int32 × aH} (v0 : Nat) (s0 : Int32) (s1 : Nat) (s2 : Nat) (s3 : Nat) (h : aH) (hf : fX10_hungriestIn_30 v0 s0 s1 s2 s3 h = some z) : Ev (d + 5) none mX10_hungriestIn (0, 0) 30 [.ref v0, .null] [.int s0, .ref s1, .ref s2, .ref s3] h (QI z) := by
  obtain ⟨_, h1, hf⟩ := bnd hf
  obtain ⟨fs, ho⟩ := isO_ok h1
  obtain ⟨r, h2, hf⟩ := bnd hf
  refine ev_V kqX10_hungriestIn_30 jX1_walk (zX1_walk (d := d + 0) h2) ho rfl rfl (Nat.le_of_ble_eq_true rfl) rfl (as := [.ref s2, .ref s1, .int s0]) (rest := []) rfl (Nat.le_of_ble_eq_true rfl) (fun _ _ hq => ?_)
  obtain ⟨rfl, hh⟩ := hq
  rw [hh]
  exact jm [2, 0] (fun v0 => fX10_hungriestIn_33 v0 r) (fun v0 q => tX10_hungriestIn_33 v0 r q) hf
def wX10_hungriestIn_17 : List En := [(.aload_n 0, 0, 0, 0), (.getfield 19, 163, 10, 1), (.aload_n 0, 0, 0, 0), (.getfield 75, 171, 10, 9), (.aload_n 0, 0, 0, 0), (.getfield 68, 170, 10, 8), (.iload_n 1, 0, 0, 0)]
def fX10_hungriestIn_17 (v0 : Nat) (v1 : Int32) (h : aH) : Option (Int32 × aH) :=
  (gFR h 10 v0 1).bind fun t1 =>
  (gFR h 10 v0 9).bind fun t2 =>
  (gFR h 10 v0 8).bind fun t3 =>
  fX10_hungriestIn_30 v0 v1 t3 t2 t1 h
theorem tX10_hungriestIn_17 {d : Nat} {z : Int32 × aH} (v0 : Nat) (v1 : Int32) (h : aH) (hf : fX10_hungriestIn_17 v0 v1 h = some z) : Ev (d + 5) none mX10_hungriestIn (0, 0) 17 [.ref v0, .int v1] [] h (QI z) := 
  go_ok (X := none) (blk := wX10_hungriestIn_17) (np := 30) (tt := 0) (kN := fun xs h st => app [2, 0] (fun v0 => apS [1, 2, 2, 2] (fun s0 s1 s2 s3 => fX10_hungriestIn_30 v0 s0 s1 s2 s3 h) st) xs) (kT := fun _ _ _ => none) (kR := kRI)
    (fun xs h st q => jm [2, 0] _ (fun v0 q => apS_ok [1, 2, 2, 2] _ (fun st => Ev (d + 5) none mX10_hungriestIn (0, 0) 30 [.ref v0, .null] st h (QI z)) st (fun s0 s1 s2 s3 q => tX10_hungriestIn_30 v0 s0 s1 s2 s3 h q) q) q)
    (fun _ _ _ q => nos q)
    kRI_ok (Or.inr rfl) (by decide +kernel) (by decide +kernel) hf
def wX10_hungriestIn_15 : List En := [(.iconst (-1), 0, 0, 0), (.ireturn, 0, 0, 0)]
def fX10_hungriestIn_15 (h : aH) : Option (Int32 × aH) :=
  some ((kI (-1)), h)
theorem tX10_hungriestIn_15 {d : Nat} {z : Int32 × aH} (h : aH) (hf : fX10_hungriestIn_15 h = some z) : Ev (d + 5) none mX10_hungriestIn (0, 0) 15 [.null, .null] [] h (QI z) := 
  go_ok (X := none) (blk := wX10_hungriestIn_15) (np := 17) (tt := 0) (kN := fun _ _ _ => none) (kT := fun _ _ _ => none) (kR := kRI)
    (fun _ _ _ q => nos q)
    (fun _ _ _ q => nos q)
    kRI_ok (Or.inr rfl) (by decide +kernel) (by decide +kernel) hf
def wX10_hungriestIn_12 : List En := [(.ifCond .eq 5, 17, 0, 0)]
def fX10_hungriestIn_12 (v0 : Nat) (v1 : Int32) (s0 : Int32) (h : aH) : Option (Int32 × aH) :=
  if s0 = 0 then fX10_hungriestIn_17 v0 v1 h else fX10_hungriestIn_15 h
theorem tX10_hungriestIn_12 {d : Nat} {z : Int32 × aH} (v0 : Nat) (v1 : Int32) (s0 : Int32) (h : aH) (hf : fX10_hungriestIn_12 v0 v1 s0 h = some z) : Ev (d + 5) none mX10_hungriestIn (0, 0) 12 [.ref v0, .int v1] [.int s0] h (QI z) := 
  go_ok (X := none) (blk := wX10_hungriestIn_12) (np := 15) (tt := 17) (kN := fun xs h st => app [0, 0] (apS [] (fX10_hungriestIn_15 h) st) xs) (kT := fun xs h st => app [2, 1] (fun v0 v1 => apS [] (fX10_hungriestIn_17 v0 v1 h) st) xs) (kR := kRI)
    (fun xs h st q => jm [0, 0] _ (fun q => apS_ok [] _ (fun st => Ev (d + 5) none mX10_hungriestIn (0, 0) 15 [.null, .null] st h (QI z)) st (fun q => tX10_hungriestIn_15 h q) q) q)
    (fun xs h st q => jm [2, 1] _ (fun v0 v1 q => apS_ok [] _ (fun st => Ev (d + 5) none mX10_hungriestIn (0, 0) 17 [.ref v0, .int v1] st h (QI z)) st (fun q => tX10_hungriestIn_17 v0 v1 h q) q) q)
    kRI_ok (Or.inr rfl) (by decide +kernel) (by decide +kernel) hf
theorem kqX10_hungriestIn_9 : okC mX10_hungriestIn 9 (.invokevirtual 190) 92 87 0 4 = true := by decide +kernel
def fX10_hungriestIn_9 (v0 : Nat) (v1 : Int32) (s0 : Int32) (s1 : Int32) (s2 : Int32) (s3 : Int32) (s4 : Nat) (h : aH) : Option (Int32 × aH) :=
  (isO h 10 s4).bind fun _ =>
  (gX10_isRefused s4 s3 s2 s1 s0 h).bind fun r =>
  fX10_hungriestIn_12 v0 v1 r.1 r.2
theorem tX10_hungriestIn_9 {d : Nat} {z : Int32 × aH} (v0 : Nat) (v1 : Int32) (s0 : Int32) (s1 : Int32) (s2 : Int32) (s3 : Int32) (s4 : Nat) (h : aH) (hf : fX10_hungriestIn_9 v0 v1 s0 s1 s2 s3 s4 h = some z) : Ev (d + 5) none mX10_hungriestIn (0, 0) 9 [.ref v0, .int v1] [.int s0, .int s1, .int s2, .int s3, .ref s4] h (QI z) := by
  obtain ⟨_, h1, hf⟩ := bnd hf
  obtain ⟨fs, ho⟩ := isO_ok h1
  obtain ⟨r, h2, hf⟩ := bnd hf
  refine ev_V kqX10_hungriestIn_9 jX10_isRefused (zX10_isRefused (d := d + 3) h2) ho rfl rfl (Nat.le_of_ble_eq_true rfl) rfl (as := [.int s3, .int s2, .int s1, .int s0]) (rest := []) rfl (Nat.le_of_ble_eq_true rfl) (fun _ _ hq => ?_)
  obtain ⟨-, rfl, rfl⟩ := hq
  exact jm [2, 1] (fun v0 v1 => fX10_hungriestIn_12 v0 v1 r.1 r.2) (fun v0 v1 q => tX10_hungriestIn_12 v0 v1 r.1 r.2 q) hf
def wX10_hungriestIn_5 : List En := [(.iload_n 1, 0, 0, 0), (.iconst 0, 0, 0, 0), (.bipush 60, 0, 0, 0)]
def fX10_hungriestIn_5 (v0 : Nat) (v1 : Int32) (s0 : Int32) (s1 : Nat) (h : aH) : Option (Int32 × aH) :=
  fX10_hungriestIn_9 v0 v1 (kB 60) (kI 0) v1 s0 s1 h
theorem tX10_hungriestIn_5 {d : Nat} {z : Int32 × aH} (v0 : Nat) (v1 : Int32) (s0 : Int32) (s1 : Nat) (h : aH) (hf : fX10_hungriestIn_5 v0 v1 s0 s1 h = some z) : Ev (d + 5) none mX10_hungriestIn (0, 0) 5 [.ref v0, .int v1] [.int s0, .ref s1] h (QI z) := 
  go_ok (X := none) (blk := wX10_hungriestIn_5) (np := 9) (tt := 0) (kN := fun xs h st => app [2, 1] (fun v0 v1 => apS [1, 1, 1, 1, 2] (fun s0 s1 s2 s3 s4 => fX10_hungriestIn_9 v0 v1 s0 s1 s2 s3 s4 h) st) xs) (kT := fun _ _ _ => none) (kR := kRI)
    (fun xs h st q => jm [2, 1] _ (fun v0 v1 q => apS_ok [1, 1, 1, 1, 2] _ (fun st => Ev (d + 5) none mX10_hungriestIn (0, 0) 9 [.ref v0, .int v1] st h (QI z)) st (fun s0 s1 s2 s3 s4 q => tX10_hungriestIn_9 v0 v1 s0 s1 s2 s3 s4 h q) q) q)
    (fun _ _ _ q => nos q)
    kRI_ok (Or.inr rfl) (by decide +kernel) (by decide +kernel) hf
theorem kqX10_hungriestIn_2 : okC mX10_hungriestIn 2 (.invokevirtual 159) 68 52 0 0 = true := by decide +kernel
def fX10_hungriestIn_2 (v0 : Nat) (v1 : Int32) (s0 : Nat) (s1 : Nat) (h : aH) : Option (Int32 × aH) :=
  (isO h 10 s0).bind fun _ =>
  (gX10_lacksTable s0 h).bind fun r =>
  fX10_hungriestIn_5 v0 v1 r.1 s1 r.2
theorem tX10_hungriestIn_2 {d : Nat} {z : Int32 × aH} (v0 : Nat) (v1 : Int32) (s0 : Nat) (s1 : Nat) (h : aH) (hf : fX10_hungriestIn_2 v0 v1 s0 s1 h = some z) : Ev (d + 5) none mX10_hungriestIn (0, 0) 2 [.ref v0, .int v1] [.ref s0, .ref s1] h (QI z) := by
  obtain ⟨_, h1, hf⟩ := bnd hf
  obtain ⟨fs, ho⟩ := isO_ok h1
  obtain ⟨r, h2, hf⟩ := bnd hf
  refine ev_V kqX10_hungriestIn_2 jX10_lacksTable (zX10_lacksTable (d := d + 4) h2) ho rfl rfl (Nat.le_of_ble_eq_true rfl) rfl (as := []) (rest := [.ref s1]) rfl (Nat.le_of_ble_eq_true rfl) (fun _ _ hq => ?_)
  obtain ⟨-, rfl, rfl⟩ := hq
  exact jm [2, 1] (fun v0 v1 => fX10_hungriestIn_5 v0 v1 r.1 s1 r.2) (fun v0 v1 q => tX10_hungriestIn_5 v0 v1 r.1 s1 r.2 q) hf
def wX10_hungriestIn_0 : List En := [(.aload_n 0, 0, 0, 0), (.aload_n 0, 0, 0, 0)]
def fX10_hungriestIn_0 (v0 : Nat) (v1 : Int32) (h : aH) : Option (Int32 × aH) :=
  fX10_hungriestIn_2 v0 v1 v0 v0 h
theorem tX10_hungriestIn_0 {d : Nat} {z : Int32 × aH} (v0 : Nat) (v1 : Int32) (h : aH) (hf : fX10_hungriestIn_0 v0 v1 h = some z) : Ev (d + 5) none mX10_hungriestIn (0, 0) 0 [.ref v0, .int v1] [] h (QI z) := 
  go_ok (X := none) (blk := wX10_hungriestIn_0) (np := 2) (tt := 0) (kN := fun xs h st => app [2, 1] (fun v0 v1 => apS [2, 2] (fun s0 s1 => fX10_hungriestIn_2 v0 v1 s0 s1 h) st) xs) (kT := fun _ _ _ => none) (kR := kRI)
    (fun xs h st q => jm [2, 1] _ (fun v0 v1 q => apS_ok [2, 2] _ (fun st => Ev (d + 5) none mX10_hungriestIn (0, 0) 2 [.ref v0, .int v1] st h (QI z)) st (fun s0 s1 q => tX10_hungriestIn_2 v0 v1 s0 s1 h q) q) q)
    (fun _ _ _ q => nos q)
    kRI_ok (Or.inr rfl) (by decide +kernel) (by decide +kernel) hf
def gX10_hungriestIn (v0 : Nat) (v1 : Int32) (h : aH) : Option (Int32 × aH) := fX10_hungriestIn_0 v0 v1 h
theorem zX10_hungriestIn {d : Nat} {z : Int32 × aH} {v0 : Nat} {v1 : Int32} {h : aH} (q : gX10_hungriestIn v0 v1 h = some z) : CT (d + 5) mX10_hungriestIn (0, 0) [.ref v0, .int v1] h (QI z) :=
  ct_ev (by decide +kernel) (Nat.le_of_ble_eq_true rfl) QI_r (jm [2, 1] (fun v0 v1 => fX10_hungriestIn_0 v0 v1 h) (fun v0 v1 q => tX10_hungriestIn_0 v0 v1 h q) q)
def wX7_unevenness_58 : List En := [(.iload_n 3, 0, 0, 0), (.ireturn, 0, 0, 0)]
def fX7_unevenness_58 (v3 : Int32) (h : aH) : Option (Int32 × aH) :=
  some (v3, h)
theorem tX7_unevenness_58 {d : Nat} {z : Int32 × aH} (v3 : Int32) (h : aH) (hf : fX7_unevenness_58 v3 h = some z) : Ev (d + 2) none mX7_unevenness (0, 0) 58 [.null, .null, .null, .int v3, .null] [] h (QI z) := 
  go_ok (X := none) (blk := wX7_unevenness_58) (np := 60) (tt := 0) (kN := fun _ _ _ => none) (kT := fun _ _ _ => none) (kR := kRI)
    (fun _ _ _ q => nos q)
    (fun _ _ _ q => nos q)
    kRI_ok (Or.inr rfl) (by decide +kernel) (by decide +kernel) hf
def wX7_unevenness_52 : List En := [(.iinc 4 1, 0, 0, 0), (.goto (-44), 11, 0, 0)]
def fX7_unevenness_52 (k11 : Nat → Nat → Int32 → Int32 → Int32 → aH → Option (Int32 × aH)) (v0 : Nat) (v1 : Nat) (v2 : Int32) (v3 : Int32) (v4 : Int32) (h : aH) : Option (Int32 × aH) :=
  k11 v0 v1 v2 v3 (v4 + kI 1) h
theorem tX7_unevenness_52 {d : Nat} {z : Int32 × aH} {k11 : Nat → Nat → Int32 → Int32 → Int32 → aH → Option (Int32 × aH)} (hk11 : ∀ (v0 : Nat) (v1 : Nat) (v2 : Int32) (v3 : Int32) (v4 : Int32) (h : aH), k11 v0 v1 v2 v3 v4 h = some z → Ev (d + 2) none mX7_unevenness (0, 0) 11 [.ref v0, .ref v1, .int v2, .int v3, .int v4] [] h (QI z)) (v0 : Nat) (v1 : Nat) (v2 : Int32) (v3 : Int32) (v4 : Int32) (h : aH) (hf : fX7_unevenness_52 k11 v0 v1 v2 v3 v4 h = some z) : Ev (d + 2) none mX7_unevenness (0, 0) 52 [.ref v0, .ref v1, .int v2, .int v3, .int v4] [] h (QI z) := 
  go_ok (X := none) (blk := wX7_unevenness_52) (np := 58) (tt := 11) (kN := fun _ _ _ => none) (kT := fun xs h st => app [2, 2, 1, 1, 1] (fun v0 v1 v2 v3 v4 => apS [] (k11 v0 v1 v2 v3 v4 h) st) xs) (kR := kRI)
    (fun _ _ _ q => nos q)
    (fun xs h st q => jm [2, 2, 1, 1, 1] _ (fun v0 v1 v2 v3 v4 q => apS_ok [] _ (fun st => Ev (d + 2) none mX7_unevenness (0, 0) 11 [.ref v0, .ref v1, .int v2, .int v3, .int v4] st h (QI z)) st (fun q => hk11 v0 v1 v2 v3 v4 h q) q) q)
    kRI_ok (Or.inr rfl) (by decide +kernel) (by decide +kernel) hf
def wX7_unevenness_51 : List En := [(.istore_n 3, 0, 0, 0)]
def fX7_unevenness_51 (k11 : Nat → Nat → Int32 → Int32 → Int32 → aH → Option (Int32 × aH)) (v0 : Nat) (v1 : Nat) (v2 : Int32) (v4 : Int32) (s0 : Int32) (h : aH) : Option (Int32 × aH) :=
  fX7_unevenness_52 k11 v0 v1 v2 s0 v4 h
theorem tX7_unevenness_51 {d : Nat} {z : Int32 × aH} {k11 : Nat → Nat → Int32 → Int32 → Int32 → aH → Option (Int32 × aH)} (hk11 : ∀ (v0 : Nat) (v1 : Nat) (v2 : Int32) (v3 : Int32) (v4 : Int32) (h : aH), k11 v0 v1 v2 v3 v4 h = some z → Ev (d + 2) none mX7_unevenness (0, 0) 11 [.ref v0, .ref v1, .int v2, .int v3, .int v4] [] h (QI z)) (v0 : Nat) (v1 : Nat) (v2 : Int32) (v4 : Int32) (s0 : Int32) (h : aH) (hf : fX7_unevenness_51 k11 v0 v1 v2 v4 s0 h = some z) : Ev (d + 2) none mX7_unevenness (0, 0) 51 [.ref v0, .ref v1, .int v2, .null, .int v4] [.int s0] h (QI z) := 
  go_ok (X := none) (blk := wX7_unevenness_51) (np := 52) (tt := 0) (kN := fun xs h st => app [2, 2, 1, 1, 1] (fun v0 v1 v2 v3 v4 => apS [] (fX7_unevenness_52 k11 v0 v1 v2 v3 v4 h) st) xs) (kT := fun _ _ _ => none) (kR := kRI)
    (fun xs h st q => jm [2, 2, 1, 1, 1] _ (fun v0 v1 v2 v3 v4 q => apS_ok [] _ (fun st => Ev (d + 2) none mX7_unevenness (0, 0) 52 [.ref v0, .ref v1, .int v2, .int v3, .int v4] st h (QI z)) st (fun q => tX7_unevenness_52 hk11 v0 v1 v2 v3 v4 h q) q) q)
    (fun _ _ _ q => nos q)
    kRI_ok (Or.inr rfl) (by decide +kernel) (by decide +kernel) hf
theorem kqX7_unevenness_48 : ckP mX7_unevenness 48 100 1 15 = true := by decide +kernel
def fX7_unevenness_48 (k11 : Nat → Nat → Int32 → Int32 → Int32 → aH → Option (Int32 × aH)) (v0 : Nat) (v1 : Nat) (v2 : Int32) (v4 : Int32) (s0 : Int32) (s1 : Int32) (h : aH) : Option (Int32 × aH) :=
  fX7_unevenness_51 k11 v0 v1 v2 v4 (if s1 < s0 then s0 else s1) h
theorem tX7_unevenness_48 {d : Nat} {z : Int32 × aH} {k11 : Nat → Nat → Int32 → Int32 → Int32 → aH → Option (Int32 × aH)} (hk11 : ∀ (v0 : Nat) (v1 : Nat) (v2 : Int32) (v3 : Int32) (v4 : Int32) (h : aH), k11 v0 v1 v2 v3 v4 h = some z → Ev (d + 2) none mX7_unevenness (0, 0) 11 [.ref v0, .ref v1, .int v2, .int v3, .int v4] [] h (QI z)) (v0 : Nat) (v1 : Nat) (v2 : Int32) (v4 : Int32) (s0 : Int32) (s1 : Int32) (h : aH) (hf : fX7_unevenness_48 k11 v0 v1 v2 v4 s0 s1 h = some z) : Ev (d + 2) none mX7_unevenness (0, 0) 48 [.ref v0, .ref v1, .int v2, .null, .int v4] [.int s0, .int s1] h (QI z) := 
  ev_mx kqX7_unevenness_48 rfl (Nat.le_of_ble_eq_true rfl) (jm [2, 2, 1, 0, 1] (fun v0 v1 v2 v4 => fX7_unevenness_51 k11 v0 v1 v2 v4 (if s1 < s0 then s0 else s1) h) (fun v0 v1 v2 v4 q => tX7_unevenness_51 hk11 v0 v1 v2 v4 (if s1 < s0 then s0 else s1) h q) hf)
def wX7_unevenness_33 : List En := [(.iload_n 3, 0, 0, 0), (.aload_n 0, 0, 0, 0), (.getfield 9, 18, 7, 0), (.iload_n 2, 0, 0, 0), (.iaload, 0, 0, 0), (.aload_n 0, 0, 0, 0), (.getfield 9, 18, 7, 0), (.iload 4, 0, 0, 0), (.iaload, 0, 0, 0), (.isub, 0, 0, 0)]
def fX7_unevenness_33 (k11 : Nat → Nat → Int32 → Int32 → Int32 → aH → Option (Int32 × aH)) (v0 : Nat) (v1 : Nat) (v2 : Int32) (v3 : Int32) (v4 : Int32) (h : aH) : Option (Int32 × aH) :=
  (gFR h 7 v0 0).bind fun t1 =>
  (aRI (h[t1]?) v2).bind fun t2 =>
  (gFR h 7 v0 0).bind fun t3 =>
  (aRI (h[t3]?) v4).bind fun t4 =>
  fX7_unevenness_48 k11 v0 v1 v2 v4 (t2 - t4) v3 h
theorem tX7_unevenness_33 {d : Nat} {z : Int32 × aH} {k11 : Nat → Nat → Int32 → Int32 → Int32 → aH → Option (Int32 × aH)} (hk11 : ∀ (v0 : Nat) (v1 : Nat) (v2 : Int32) (v3 : Int32) (v4 : Int32) (h : aH), k11 v0 v1 v2 v3 v4 h = some z → Ev (d + 2) none mX7_unevenness (0, 0) 11 [.ref v0, .ref v1, .int v2, .int v3, .int v4] [] h (QI z)) (v0 : Nat) (v1 : Nat) (v2 : Int32) (v3 : Int32) (v4 : Int32) (h : aH) (hf : fX7_unevenness_33 k11 v0 v1 v2 v3 v4 h = some z) : Ev (d + 2) none mX7_unevenness (0, 0) 33 [.ref v0, .ref v1, .int v2, .int v3, .int v4] [] h (QI z) := 
  go_ok (X := none) (blk := wX7_unevenness_33) (np := 48) (tt := 0) (kN := fun xs h st => app [2, 2, 1, 0, 1] (fun v0 v1 v2 v4 => apS [1, 1] (fun s0 s1 => fX7_unevenness_48 k11 v0 v1 v2 v4 s0 s1 h) st) xs) (kT := fun _ _ _ => none) (kR := kRI)
    (fun xs h st q => jm [2, 2, 1, 0, 1] _ (fun v0 v1 v2 v4 q => apS_ok [1, 1] _ (fun st => Ev (d + 2) none mX7_unevenness (0, 0) 48 [.ref v0, .ref v1, .int v2, .null, .int v4] st h (QI z)) st (fun s0 s1 q => tX7_unevenness_48 hk11 v0 v1 v2 v4 s0 s1 h q) q) q)
    (fun _ _ _ q => nos q)
    kRI_ok (Or.inr rfl) (by decide +kernel) (by decide +kernel) hf
def wX7_unevenness_30 : List En := [(.ifCond .ne 22, 52, 0, 0)]
def fX7_unevenness_30 (k11 : Nat → Nat → Int32 → Int32 → Int32 → aH → Option (Int32 × aH)) (v0 : Nat) (v1 : Nat) (v2 : Int32) (v3 : Int32) (v4 : Int32) (s0 : Int32) (h : aH) : Option (Int32 × aH) :=
  if s0 = 0 then fX7_unevenness_33 k11 v0 v1 v2 v3 v4 h else fX7_unevenness_52 k11 v0 v1 v2 v3 v4 h
theorem tX7_unevenness_30 {d : Nat} {z : Int32 × aH} {k11 : Nat → Nat → Int32 → Int32 → Int32 → aH → Option (Int32 × aH)} (hk11 : ∀ (v0 : Nat) (v1 : Nat) (v2 : Int32) (v3 : Int32) (v4 : Int32) (h : aH), k11 v0 v1 v2 v3 v4 h = some z → Ev (d + 2) none mX7_unevenness (0, 0) 11 [.ref v0, .ref v1, .int v2, .int v3, .int v4] [] h (QI z)) (v0 : Nat) (v1 : Nat) (v2 : Int32) (v3 : Int32) (v4 : Int32) (s0 : Int32) (h : aH) (hf : fX7_unevenness_30 k11 v0 v1 v2 v3 v4 s0 h = some z) : Ev (d + 2) none mX7_unevenness (0, 0) 30 [.ref v0, .ref v1, .int v2, .int v3, .int v4] [.int s0] h (QI z) := 
  go_ok (X := none) (blk := wX7_unevenness_30) (np := 33) (tt := 52) (kN := fun xs h st => app [2, 2, 1, 1, 1] (fun v0 v1 v2 v3 v4 => apS [] (fX7_unevenness_33 k11 v0 v1 v2 v3 v4 h) st) xs) (kT := fun xs h st => app [2, 2, 1, 1, 1] (fun v0 v1 v2 v3 v4 => apS [] (fX7_unevenness_52 k11 v0 v1 v2 v3 v4 h) st) xs) (kR := kRI)
    (fun xs h st q => jm [2, 2, 1, 1, 1] _ (fun v0 v1 v2 v3 v4 q => apS_ok [] _ (fun st => Ev (d + 2) none mX7_unevenness (0, 0) 33 [.ref v0, .ref v1, .int v2, .int v3, .int v4] st h (QI z)) st (fun q => tX7_unevenness_33 hk11 v0 v1 v2 v3 v4 h q) q) q)
    (fun xs h st q => jm [2, 2, 1, 1, 1] _ (fun v0 v1 v2 v3 v4 q => apS_ok [] _ (fun st => Ev (d + 2) none mX7_unevenness (0, 0) 52 [.ref v0, .ref v1, .int v2, .int v3, .int v4] st h (QI z)) st (fun q => tX7_unevenness_52 hk11 v0 v1 v2 v3 v4 h q) q) q)
    kRI_ok (Or.inr rfl) (by decide +kernel) (by decide +kernel) hf
theorem kqX7_unevenness_27 : okC mX7_unevenness 27 (.invokevirtual 73) 70 60 0 1 = true := by decide +kernel
def fX7_unevenness_27 (k11 : Nat → Nat → Int32 → Int32 → Int32 → aH → Option (Int32 × aH)) (v0 : Nat) (v1 : Nat) (v2 : Int32) (v3 : Int32) (v4 : Int32) (s0 : Int32) (s1 : Nat) (h : aH) : Option (Int32 × aH) :=
  (isO h 7 s1).bind fun _ =>
  (gX7_isDead s1 s0 h).bind fun r =>
  fX7_unevenness_30 k11 v0 v1 v2 v3 v4 r.1 r.2
theorem tX7_unevenness_27 {d : Nat} {z : Int32 × aH} {k11 : Nat → Nat → Int32 → Int32 → Int32 → aH → Option (Int32 × aH)} (hk11 : ∀ (v0 : Nat) (v1 : Nat) (v2 : Int32) (v3 : Int32) (v4 : Int32) (h : aH), k11 v0 v1 v2 v3 v4 h = some z → Ev (d + 2) none mX7_unevenness (0, 0) 11 [.ref v0, .ref v1, .int v2, .int v3, .int v4] [] h (QI z)) (v0 : Nat) (v1 : Nat) (v2 : Int32) (v3 : Int32) (v4 : Int32) (s0 : Int32) (s1 : Nat) (h : aH) (hf : fX7_unevenness_27 k11 v0 v1 v2 v3 v4 s0 s1 h = some z) : Ev (d + 2) none mX7_unevenness (0, 0) 27 [.ref v0, .ref v1, .int v2, .int v3, .int v4] [.int s0, .ref s1] h (QI z) := by
  obtain ⟨_, h1, hf⟩ := bnd hf
  obtain ⟨fs, ho⟩ := isO_ok h1
  obtain ⟨r, h2, hf⟩ := bnd hf
  refine ev_V kqX7_unevenness_27 jX7_isDead (zX7_isDead (d := d + 1) h2) ho rfl rfl (Nat.le_of_ble_eq_true rfl) rfl (as := [.int s0]) (rest := []) rfl (Nat.le_of_ble_eq_true rfl) (fun _ _ hq => ?_)
  obtain ⟨-, rfl, rfl⟩ := hq
  exact jm [2, 2, 1, 1, 1] (fun v0 v1 v2 v3 v4 => fX7_unevenness_30 k11 v0 v1 v2 v3 v4 r.1 r.2) (fun v0 v1 v2 v3 v4 q => tX7_unevenness_30 hk11 v0 v1 v2 v3 v4 r.1 r.2 q) hf
def wX7_unevenness_24 : List En := [(.aload_n 0, 0, 0, 0), (.iload 4, 0, 0, 0)]
def fX7_unevenness_24 (k11 : Nat → Nat → Int32 → Int32 → Int32 → aH → Option (Int32 × aH)) (v0 : Nat) (v1 : Nat) (v2 : Int32) (v3 : Int32) (v4 : Int32) (h : aH) : Option (Int32 × aH) :=
  fX7_unevenness_27 k11 v0 v1 v2 v3 v4 v4 v0 h
theorem tX7_unevenness_24 {d : Nat} {z : Int32 × aH} {k11 : Nat → Nat → Int32 → Int32 → Int32 → aH → Option (Int32 × aH)} (hk11 : ∀ (v0 : Nat) (v1 : Nat) (v2 : Int32) (v3 : Int32) (v4 : Int32) (h : aH), k11 v0 v1 v2 v3 v4 h = some z → Ev (d + 2) none mX7_unevenness (0, 0) 11 [.ref v0, .ref v1, .int v2, .int v3, .int v4] [] h (QI z)) (v0 : Nat) (v1 : Nat) (v2 : Int32) (v3 : Int32) (v4 : Int32) (h : aH) (hf : fX7_unevenness_24 k11 v0 v1 v2 v3 v4 h = some z) : Ev (d + 2) none mX7_unevenness (0, 0) 24 [.ref v0, .ref v1, .int v2, .int v3, .int v4] [] h (QI z) := 
  go_ok (X := none) (blk := wX7_unevenness_24) (np := 27) (tt := 0) (kN := fun xs h st => app [2, 2, 1, 1, 1] (fun v0 v1 v2 v3 v4 => apS [1, 2] (fun s0 s1 => fX7_unevenness_27 k11 v0 v1 v2 v3 v4 s0 s1 h) st) xs) (kT := fun _ _ _ => none) (kR := kRI)
    (fun xs h st q => jm [2, 2, 1, 1, 1] _ (fun v0 v1 v2 v3 v4 q => apS_ok [1, 2] _ (fun st => Ev (d + 2) none mX7_unevenness (0, 0) 27 [.ref v0, .ref v1, .int v2, .int v3, .int v4] st h (QI z)) st (fun s0 s1 q => tX7_unevenness_27 hk11 v0 v1 v2 v3 v4 s0 s1 h q) q) q)
    (fun _ _ _ q => nos q)
    kRI_ok (Or.inr rfl) (by decide +kernel) (by decide +kernel) hf
def wX7_unevenness_20 : List En := [(.iload_n 2, 0, 0, 0), (.ifCond .lt 37, 58, 0, 0)]
def fX7_unevenness_20 (k11 : Nat → Nat → Int32 → Int32 → Int32 → aH → Option (Int32 × aH)) (v0 : Nat) (v1 : Nat) (v2 : Int32) (v3 : Int32) (v4 : Int32) (h : aH) : Option (Int32 × aH) :=
  if v2 < 0 then fX7_unevenness_58 v3 h else fX7_unevenness_24 k11 v0 v1 v2 v3 v4 h
theorem tX7_unevenness_20 {d : Nat} {z : Int32 × aH} {k11 : Nat → Nat → Int32 → Int32 → Int32 → aH → Option (Int32 × aH)} (hk11 : ∀ (v0 : Nat) (v1 : Nat) (v2 : Int32) (v3 : Int32) (v4 : Int32) (h : aH), k11 v0 v1 v2 v3 v4 h = some z → Ev (d + 2) none mX7_unevenness (0, 0) 11 [.ref v0, .ref v1, .int v2, .int v3, .int v4] [] h (QI z)) (v0 : Nat) (v1 : Nat) (v2 : Int32) (v3 : Int32) (v4 : Int32) (h : aH) (hf : fX7_unevenness_20 k11 v0 v1 v2 v3 v4 h = some z) : Ev (d + 2) none mX7_unevenness (0, 0) 20 [.ref v0, .ref v1, .int v2, .int v3, .int v4] [] h (QI z) := 
  go_ok (X := none) (blk := wX7_unevenness_20) (np := 24) (tt := 58) (kN := fun xs h st => app [2, 2, 1, 1, 1] (fun v0 v1 v2 v3 v4 => apS [] (fX7_unevenness_24 k11 v0 v1 v2 v3 v4 h) st) xs) (kT := fun xs h st => app [0, 0, 0, 1, 0] (fun v3 => apS [] (fX7_unevenness_58 v3 h) st) xs) (kR := kRI)
    (fun xs h st q => jm [2, 2, 1, 1, 1] _ (fun v0 v1 v2 v3 v4 q => apS_ok [] _ (fun st => Ev (d + 2) none mX7_unevenness (0, 0) 24 [.ref v0, .ref v1, .int v2, .int v3, .int v4] st h (QI z)) st (fun q => tX7_unevenness_24 hk11 v0 v1 v2 v3 v4 h q) q) q)
    (fun xs h st q => jm [0, 0, 0, 1, 0] _ (fun v3 q => apS_ok [] _ (fun st => Ev (d + 2) none mX7_unevenness (0, 0) 58 [.null, .null, .null, .int v3, .null] st h (QI z)) st (fun q => tX7_unevenness_58 v3 h q) q) q)
    kRI_ok (Or.inr rfl) (by decide +kernel) (by decide +kernel) hf
def wX7_unevenness_11 : List En := [(.iload 4, 0, 0, 0), (.aload_n 1, 0, 0, 0), (.getfield 59, 112, 9, 3), (.if_icmp .ge 41, 58, 0, 0)]
def fX7_unevenness_11 (k11 : Nat → Nat → Int32 → Int32 → Int32 → aH → Option (Int32 × aH)) (v0 : Nat) (v1 : Nat) (v2 : Int32) (v3 : Int32) (v4 : Int32) (h : aH) : Option (Int32 × aH) :=
  (gFI h 9 v1 3).bind fun t1 =>
  if v4 < t1 then fX7_unevenness_20 k11 v0 v1 v2 v3 v4 h else fX7_unevenness_58 v3 h
theorem tX7_unevenness_11 {d : Nat} {z : Int32 × aH} {k11 : Nat → Nat → Int32 → Int32 → Int32 → aH → Option (Int32 × aH)} (hk11 : ∀ (v0 : Nat) (v1 : Nat) (v2 : Int32) (v3 : Int32) (v4 : Int32) (h : aH), k11 v0 v1 v2 v3 v4 h = some z → Ev (d + 2) none mX7_unevenness (0, 0) 11 [.ref v0, .ref v1, .int v2, .int v3, .int v4] [] h (QI z)) (v0 : Nat) (v1 : Nat) (v2 : Int32) (v3 : Int32) (v4 : Int32) (h : aH) (hf : fX7_unevenness_11 k11 v0 v1 v2 v3 v4 h = some z) : Ev (d + 2) none mX7_unevenness (0, 0) 11 [.ref v0, .ref v1, .int v2, .int v3, .int v4] [] h (QI z) := 
  go_ok (X := none) (blk := wX7_unevenness_11) (np := 20) (tt := 58) (kN := fun xs h st => app [2, 2, 1, 1, 1] (fun v0 v1 v2 v3 v4 => apS [] (fX7_unevenness_20 k11 v0 v1 v2 v3 v4 h) st) xs) (kT := fun xs h st => app [0, 0, 0, 1, 0] (fun v3 => apS [] (fX7_unevenness_58 v3 h) st) xs) (kR := kRI)
    (fun xs h st q => jm [2, 2, 1, 1, 1] _ (fun v0 v1 v2 v3 v4 q => apS_ok [] _ (fun st => Ev (d + 2) none mX7_unevenness (0, 0) 20 [.ref v0, .ref v1, .int v2, .int v3, .int v4] st h (QI z)) st (fun q => tX7_unevenness_20 hk11 v0 v1 v2 v3 v4 h q) q) q)
    (fun xs h st q => jm [0, 0, 0, 1, 0] _ (fun v3 q => apS_ok [] _ (fun st => Ev (d + 2) none mX7_unevenness (0, 0) 58 [.null, .null, .null, .int v3, .null] st h (QI z)) st (fun q => tX7_unevenness_58 v3 h q) q) q)
    kRI_ok (Or.inr rfl) (by decide +kernel) (by decide +kernel) hf
def lX7_unevenness_11 : Nat → Nat → Nat → Int32 → Int32 → Int32 → aH → Option (Int32 × aH)
  | 0, _, _, _, _, _, _ => none
  | n + 1, v0, v1, v2, v3, v4, h => fX7_unevenness_11 (lX7_unevenness_11 n) v0 v1 v2 v3 v4 h
theorem uX7_unevenness_11 {d : Nat} {z : Int32 × aH} : ∀ (n : Nat) (v0 : Nat) (v1 : Nat) (v2 : Int32) (v3 : Int32) (v4 : Int32) (h : aH), lX7_unevenness_11 n v0 v1 v2 v3 v4 h = some z → Ev (d + 2) none mX7_unevenness (0, 0) 11 [.ref v0, .ref v1, .int v2, .int v3, .int v4] [] h (QI z) := by
  intro n
  induction n with
  | zero => intro _ _ _ _ _ _ q; exact nos (show (none : Option (Int32 × aH)) = some z from q)
  | succ n ih => intro v0 v1 v2 v3 v4 h q; exact tX7_unevenness_11 ih v0 v1 v2 v3 v4 h q
def wX7_unevenness_5 : List En := [(.istore_n 2, 0, 0, 0), (.iconst 0, 0, 0, 0), (.istore_n 3, 0, 0, 0), (.iconst 0, 0, 0, 0), (.istore 4, 0, 0, 0)]
def fX7_unevenness_5 (v0 : Nat) (v1 : Nat) (s0 : Int32) (h : aH) : Option (Int32 × aH) :=
  lX7_unevenness_11 FU v0 v1 s0 (kI 0) (kI 0) h
theorem tX7_unevenness_5 {d : Nat} {z : Int32 × aH} (v0 : Nat) (v1 : Nat) (s0 : Int32) (h : aH) (hf : fX7_unevenness_5 v0 v1 s0 h = some z) : Ev (d + 2) none mX7_unevenness (0, 0) 5 [.ref v0, .ref v1, .null, .null, .null] [.int s0] h (QI z) := 
  go_ok (X := none) (blk := wX7_unevenness_5) (np := 11) (tt := 0) (kN := fun xs h st => app [2, 2, 1, 1, 1] (fun v0 v1 v2 v3 v4 => apS [] (lX7_unevenness_11 FU v0 v1 v2 v3 v4 h) st) xs) (kT := fun _ _ _ => none) (kR := kRI)
    (fun xs h st q => jm [2, 2, 1, 1, 1] _ (fun v0 v1 v2 v3 v4 q => apS_ok [] _ (fun st => Ev (d + 2) none mX7_unevenness (0, 0) 11 [.ref v0, .ref v1, .int v2, .int v3, .int v4] st h (QI z)) st (fun q => uX7_unevenness_11 FU v0 v1 v2 v3 v4 h q) q) q)
    (fun _ _ _ q => nos q)
    kRI_ok (Or.inr rfl) (by decide +kernel) (by decide +kernel) hf
theorem kqX7_unevenness_2 : okC mX7_unevenness 2 (.invokevirtual 97) 103 102 0 1 = true := by decide +kernel
def fX7_unevenness_2 (v0 : Nat) (v1 : Nat) (s0 : Nat) (s1 : Nat) (h : aH) : Option (Int32 × aH) :=
  (isO h 7 s1).bind fun _ =>
  (gX7_hungriest s1 s0 h).bind fun r =>
  fX7_unevenness_5 v0 v1 r.1 r.2
theorem tX7_unevenness_2 {d : Nat} {z : Int32 × aH} (v0 : Nat) (v1 : Nat) (s0 : Nat) (s1 : Nat) (h : aH) (hf : fX7_unevenness_2 v0 v1 s0 s1 h = some z) : Ev (d + 2) none mX7_unevenness (0, 0) 2 [.ref v0, .ref v1, .null, .null, .null] [.ref s0, .ref s1] h (QI z) := by
  obtain ⟨_, h1, hf⟩ := bnd hf
  obtain ⟨fs, ho⟩ := isO_ok h1
  obtain ⟨r, h2, hf⟩ := bnd hf
  refine ev_V kqX7_unevenness_2 jX7_hungriest (zX7_hungriest (d := d + 0) h2) ho rfl rfl (Nat.le_of_ble_eq_true rfl) rfl (as := [.ref s0]) (rest := []) rfl (Nat.le_of_ble_eq_true rfl) (fun _ _ hq => ?_)
  obtain ⟨rfl, rfl⟩ := hq
  exact jm [2, 2, 0, 0, 0] (fun v0 v1 => fX7_unevenness_5 v0 v1 r.1 r.2) (fun v0 v1 q => tX7_unevenness_5 v0 v1 r.1 r.2 q) hf
def wX7_unevenness_0 : List En := [(.aload_n 0, 0, 0, 0), (.aload_n 1, 0, 0, 0)]
def fX7_unevenness_0 (v0 : Nat) (v1 : Nat) (h : aH) : Option (Int32 × aH) :=
  fX7_unevenness_2 v0 v1 v1 v0 h
theorem tX7_unevenness_0 {d : Nat} {z : Int32 × aH} (v0 : Nat) (v1 : Nat) (h : aH) (hf : fX7_unevenness_0 v0 v1 h = some z) : Ev (d + 2) none mX7_unevenness (0, 0) 0 [.ref v0, .ref v1, .null, .null, .null] [] h (QI z) := 
  go_ok (X := none) (blk := wX7_unevenness_0) (np := 2) (tt := 0) (kN := fun xs h st => app [2, 2, 0, 0, 0] (fun v0 v1 => apS [2, 2] (fun s0 s1 => fX7_unevenness_2 v0 v1 s0 s1 h) st) xs) (kT := fun _ _ _ => none) (kR := kRI)
    (fun xs h st q => jm [2, 2, 0, 0, 0] _ (fun v0 v1 q => apS_ok [2, 2] _ (fun st => Ev (d + 2) none mX7_unevenness (0, 0) 2 [.ref v0, .ref v1, .null, .null, .null] st h (QI z)) st (fun s0 s1 q => tX7_unevenness_2 v0 v1 s0 s1 h q) q) q)
    (fun _ _ _ q => nos q)
    kRI_ok (Or.inr rfl) (by decide +kernel) (by decide +kernel) hf
def gX7_unevenness (v0 : Nat) (v1 : Nat) (h : aH) : Option (Int32 × aH) := fX7_unevenness_0 v0 v1 h
theorem zX7_unevenness {d : Nat} {z : Int32 × aH} {v0 : Nat} {v1 : Nat} {h : aH} (q : gX7_unevenness v0 v1 h = some z) : CT (d + 2) mX7_unevenness (0, 0) [.ref v0, .ref v1] h (QI z) :=
  ct_ev (by decide +kernel) (Nat.le_of_ble_eq_true rfl) QI_r (jm [2, 2, 0, 0, 0] (fun v0 v1 => fX7_unevenness_0 v0 v1 h) (fun v0 v1 q => tX7_unevenness_0 v0 v1 h q) q)
def wX10_unevenIn_47 : List En := [(.ireturn, 0, 0, 0)]
def fX10_unevenIn_47 (s0 : Int32) (h : aH) : Option (Int32 × aH) :=
  some (s0, h)
theorem tX10_unevenIn_47 {d : Nat} {z : Int32 × aH} (s0 : Int32) (h : aH) (hf : fX10_unevenIn_47 s0 h = some z) : Ev (d + 5) none mX10_unevenIn (0, 0) 47 [.null, .null] [.int s0] h (QI z) := 
  go_ok (X := none) (blk := wX10_unevenIn_47) (np := 48) (tt := 0) (kN := fun _ _ _ => none) (kT := fun _ _ _ => none) (kR := kRI)
    (fun _ _ _ q => nos q)
    (fun _ _ _ q => nos q)
    kRI_ok (Or.inr rfl) (by decide +kernel) (by decide +kernel) hf
theorem kqX10_unevenIn_44 : okC mX10_unevenIn 44 (.invokevirtual 218) 105 101 0 1 = true := by decide +kernel
def fX10_unevenIn_44 (s0 : Nat) (s1 : Nat) (h : aH) : Option (Int32 × aH) :=
  (isO h 7 s1).bind fun _ =>
  (gX7_unevenness s1 s0 h).bind fun r =>
  fX10_unevenIn_47 r.1 r.2
theorem tX10_unevenIn_44 {d : Nat} {z : Int32 × aH} (s0 : Nat) (s1 : Nat) (h : aH) (hf : fX10_unevenIn_44 s0 s1 h = some z) : Ev (d + 5) none mX10_unevenIn (0, 0) 44 [.null, .null] [.ref s0, .ref s1] h (QI z) := by
  obtain ⟨_, h1, hf⟩ := bnd hf
  obtain ⟨fs, ho⟩ := isO_ok h1
  obtain ⟨r, h2, hf⟩ := bnd hf
  refine ev_V kqX10_unevenIn_44 jX7_unevenness (zX7_unevenness (d := d + 2) h2) ho rfl rfl (Nat.le_of_ble_eq_true rfl) rfl (as := [.ref s0]) (rest := []) rfl (Nat.le_of_ble_eq_true rfl) (fun _ _ hq => ?_)
  obtain ⟨rfl, rfl⟩ := hq
  exact jm [0, 0] (fX10_unevenIn_47 r.1 r.2) (fun q => tX10_unevenIn_47 r.1 r.2 q) hf
def wX10_unevenIn_33 : List En := [(.aload_n 0, 0, 0, 0), (.getfield 19, 163, 10, 1), (.getfield 208, 48, 1, 0), (.aload_n 0, 0, 0, 0), (.getfield 75, 171, 10, 9)]
def fX10_unevenIn_33 (v0 : Nat) (h : aH) : Option (Int32 × aH) :=
  (gFR h 10 v0 1).bind fun t1 =>
  (gFR h 1 t1 0).bind fun t2 =>
  (gFR h 10 v0 9).bind fun t3 =>
  fX10_unevenIn_44 t3 t2 h
theorem tX10_unevenIn_33 {d : Nat} {z : Int32 × aH} (v0 : Nat) (h : aH) (hf : fX10_unevenIn_33 v0 h = some z) : Ev (d + 5) none mX10_unevenIn (0, 0) 33 [.ref v0, .null] [] h (QI z) := 
  go_ok (X := none) (blk := wX10_unevenIn_33) (np := 44) (tt := 0) (kN := fun xs h st => app [0, 0] (apS [2, 2] (fun s0 s1 => fX10_unevenIn_44 s0 s1 h) st) xs) (kT := fun _ _ _ => none) (kR := kRI)
    (fun xs h st q => jm [0, 0] _ (fun q => apS_ok [2, 2] _ (fun st => Ev (d + 5) none mX10_unevenIn (0, 0) 44 [.null, .null] st h (QI z)) st (fun s0 s1 q => tX10_unevenIn_44 s0 s1 h q) q) q)
    (fun _ _ _ q => nos q)
    kRI_ok (Or.inr rfl) (by decide +kernel) (by decide +kernel) hf
theorem kqX10_unevenIn_30 : okC mX10_unevenIn 30 (.invokevirtual 183) 79 67 0 3 = true := by decide +kernel
def fX10_unevenIn_30 (v0 : Nat) (s0 : Int32) (s1 : Nat) (s2 : Nat) (s3 : Nat) (h : aH) : Option (Int32 × aH) :=
  (isO h 1 s3).bind fun _ =>
  (gX1_walk s3 s2 s1 s0 h).bind fun r =>
  fX10_unevenIn_33 v0 r
theorem tX10_unevenIn_30 {d : Nat} {z : Int32 × aH} (v0 : Nat) (s0 : Int32) (s1 : Nat) (s2 : Nat) (s3 : Nat) (h : aH) (hf : fX10_unevenIn_30 v0 s0 s1 s2 s3 h = some z) : Ev (d + 5) none mX10_unevenIn (0, 0) 30 [.ref v0, .null] [.int s0, .ref s1, .ref s2, .ref s3] h (QI z) := by
  obtain ⟨_, h1, hf⟩ := bnd hf
  obtain ⟨fs, ho⟩ := isO_ok h1
  obtain ⟨r, h2, hf⟩ := bnd hf
  refine ev_V kqX10_unevenIn_30 jX1_walk (zX1_walk (d := d + 0) h2) ho rfl rfl (Nat.le_of_ble_eq_true rfl) rfl (as := [.ref s2, .ref s1, .int s0]) (rest := []) rfl (Nat.le_of_ble_eq_true rfl) (fun _ _ hq => ?_)
  obtain ⟨rfl, hh⟩ := hq
  rw [hh]
  exact jm [2, 0] (fun v0 => fX10_unevenIn_33 v0 r) (fun v0 q => tX10_unevenIn_33 v0 r q) hf
def wX10_unevenIn_17 : List En := [(.aload_n 0, 0, 0, 0), (.getfield 19, 163, 10, 1), (.aload_n 0, 0, 0, 0), (.getfield 75, 171, 10, 9), (.aload_n 0, 0, 0, 0), (.getfield 68, 170, 10, 8), (.iload_n 1, 0, 0, 0)]
def fX10_unevenIn_17 (v0 : Nat) (v1 : Int32) (h : aH) : Option (Int32 × aH) :=
  (gFR h 10 v0 1).bind fun t1 =>
  (gFR h 10 v0 9).bind fun t2 =>
  (gFR h 10 v0 8).bind fun t3 =>
  fX10_unevenIn_30 v0 v1 t3 t2 t1 h
theorem tX10_unevenIn_17 {d : Nat} {z : Int32 × aH} (v0 : Nat) (v1 : Int32) (h : aH) (hf : fX10_unevenIn_17 v0 v1 h = some z) : Ev (d + 5) none mX10_unevenIn (0, 0) 17 [.ref v0, .int v1] [] h (QI z) := 
  go_ok (X := none) (blk := wX10_unevenIn_17) (np := 30) (tt := 0) (kN := fun xs h st => app [2, 0] (fun v0 => apS [1, 2, 2, 2] (fun s0 s1 s2 s3 => fX10_unevenIn_30 v0 s0 s1 s2 s3 h) st) xs) (kT := fun _ _ _ => none) (kR := kRI)
    (fun xs h st q => jm [2, 0] _ (fun v0 q => apS_ok [1, 2, 2, 2] _ (fun st => Ev (d + 5) none mX10_unevenIn (0, 0) 30 [.ref v0, .null] st h (QI z)) st (fun s0 s1 s2 s3 q => tX10_unevenIn_30 v0 s0 s1 s2 s3 h q) q) q)
    (fun _ _ _ q => nos q)
    kRI_ok (Or.inr rfl) (by decide +kernel) (by decide +kernel) hf
def wX10_unevenIn_15 : List En := [(.iconst (-1), 0, 0, 0), (.ireturn, 0, 0, 0)]
def fX10_unevenIn_15 (h : aH) : Option (Int32 × aH) :=
  some ((kI (-1)), h)
theorem tX10_unevenIn_15 {d : Nat} {z : Int32 × aH} (h : aH) (hf : fX10_unevenIn_15 h = some z) : Ev (d + 5) none mX10_unevenIn (0, 0) 15 [.null, .null] [] h (QI z) := 
  go_ok (X := none) (blk := wX10_unevenIn_15) (np := 17) (tt := 0) (kN := fun _ _ _ => none) (kT := fun _ _ _ => none) (kR := kRI)
    (fun _ _ _ q => nos q)
    (fun _ _ _ q => nos q)
    kRI_ok (Or.inr rfl) (by decide +kernel) (by decide +kernel) hf
def wX10_unevenIn_12 : List En := [(.ifCond .eq 5, 17, 0, 0)]
def fX10_unevenIn_12 (v0 : Nat) (v1 : Int32) (s0 : Int32) (h : aH) : Option (Int32 × aH) :=
  if s0 = 0 then fX10_unevenIn_17 v0 v1 h else fX10_unevenIn_15 h
theorem tX10_unevenIn_12 {d : Nat} {z : Int32 × aH} (v0 : Nat) (v1 : Int32) (s0 : Int32) (h : aH) (hf : fX10_unevenIn_12 v0 v1 s0 h = some z) : Ev (d + 5) none mX10_unevenIn (0, 0) 12 [.ref v0, .int v1] [.int s0] h (QI z) := 
  go_ok (X := none) (blk := wX10_unevenIn_12) (np := 15) (tt := 17) (kN := fun xs h st => app [0, 0] (apS [] (fX10_unevenIn_15 h) st) xs) (kT := fun xs h st => app [2, 1] (fun v0 v1 => apS [] (fX10_unevenIn_17 v0 v1 h) st) xs) (kR := kRI)
    (fun xs h st q => jm [0, 0] _ (fun q => apS_ok [] _ (fun st => Ev (d + 5) none mX10_unevenIn (0, 0) 15 [.null, .null] st h (QI z)) st (fun q => tX10_unevenIn_15 h q) q) q)
    (fun xs h st q => jm [2, 1] _ (fun v0 v1 q => apS_ok [] _ (fun st => Ev (d + 5) none mX10_unevenIn (0, 0) 17 [.ref v0, .int v1] st h (QI z)) st (fun q => tX10_unevenIn_17 v0 v1 h q) q) q)
    kRI_ok (Or.inr rfl) (by decide +kernel) (by decide +kernel) hf
theorem kqX10_unevenIn_9 : okC mX10_unevenIn 9 (.invokevirtual 190) 92 87 0 4 = true := by decide +kernel
def fX10_unevenIn_9 (v0 : Nat) (v1 : Int32) (s0 : Int32) (s1 : Int32) (s2 : Int32) (s3 : Int32) (s4 : Nat) (h : aH) : Option (Int32 × aH) :=
  (isO h 10 s4).bind fun _ =>
  (gX10_isRefused s4 s3 s2 s1 s0 h).bind fun r =>
  fX10_unevenIn_12 v0 v1 r.1 r.2
theorem tX10_unevenIn_9 {d : Nat} {z : Int32 × aH} (v0 : Nat) (v1 : Int32) (s0 : Int32) (s1 : Int32) (s2 : Int32) (s3 : Int32) (s4 : Nat) (h : aH) (hf : fX10_unevenIn_9 v0 v1 s0 s1 s2 s3 s4 h = some z) : Ev (d + 5) none mX10_unevenIn (0, 0) 9 [.ref v0, .int v1] [.int s0, .int s1, .int s2, .int s3, .ref s4] h (QI z) := by
  obtain ⟨_, h1, hf⟩ := bnd hf
  obtain ⟨fs, ho⟩ := isO_ok h1
  obtain ⟨r, h2, hf⟩ := bnd hf
  refine ev_V kqX10_unevenIn_9 jX10_isRefused (zX10_isRefused (d := d + 3) h2) ho rfl rfl (Nat.le_of_ble_eq_true rfl) rfl (as := [.int s3, .int s2, .int s1, .int s0]) (rest := []) rfl (Nat.le_of_ble_eq_true rfl) (fun _ _ hq => ?_)
  obtain ⟨-, rfl, rfl⟩ := hq
  exact jm [2, 1] (fun v0 v1 => fX10_unevenIn_12 v0 v1 r.1 r.2) (fun v0 v1 q => tX10_unevenIn_12 v0 v1 r.1 r.2 q) hf
def wX10_unevenIn_5 : List En := [(.iload_n 1, 0, 0, 0), (.iconst 0, 0, 0, 0), (.bipush 60, 0, 0, 0)]
def fX10_unevenIn_5 (v0 : Nat) (v1 : Int32) (s0 : Int32) (s1 : Nat) (h : aH) : Option (Int32 × aH) :=
  fX10_unevenIn_9 v0 v1 (kB 60) (kI 0) v1 s0 s1 h
theorem tX10_unevenIn_5 {d : Nat} {z : Int32 × aH} (v0 : Nat) (v1 : Int32) (s0 : Int32) (s1 : Nat) (h : aH) (hf : fX10_unevenIn_5 v0 v1 s0 s1 h = some z) : Ev (d + 5) none mX10_unevenIn (0, 0) 5 [.ref v0, .int v1] [.int s0, .ref s1] h (QI z) := 
  go_ok (X := none) (blk := wX10_unevenIn_5) (np := 9) (tt := 0) (kN := fun xs h st => app [2, 1] (fun v0 v1 => apS [1, 1, 1, 1, 2] (fun s0 s1 s2 s3 s4 => fX10_unevenIn_9 v0 v1 s0 s1 s2 s3 s4 h) st) xs) (kT := fun _ _ _ => none) (kR := kRI)
    (fun xs h st q => jm [2, 1] _ (fun v0 v1 q => apS_ok [1, 1, 1, 1, 2] _ (fun st => Ev (d + 5) none mX10_unevenIn (0, 0) 9 [.ref v0, .int v1] st h (QI z)) st (fun s0 s1 s2 s3 s4 q => tX10_unevenIn_9 v0 v1 s0 s1 s2 s3 s4 h q) q) q)
    (fun _ _ _ q => nos q)
    kRI_ok (Or.inr rfl) (by decide +kernel) (by decide +kernel) hf
theorem kqX10_unevenIn_2 : okC mX10_unevenIn 2 (.invokevirtual 159) 68 52 0 0 = true := by decide +kernel
def fX10_unevenIn_2 (v0 : Nat) (v1 : Int32) (s0 : Nat) (s1 : Nat) (h : aH) : Option (Int32 × aH) :=
  (isO h 10 s0).bind fun _ =>
  (gX10_lacksTable s0 h).bind fun r =>
  fX10_unevenIn_5 v0 v1 r.1 s1 r.2
theorem tX10_unevenIn_2 {d : Nat} {z : Int32 × aH} (v0 : Nat) (v1 : Int32) (s0 : Nat) (s1 : Nat) (h : aH) (hf : fX10_unevenIn_2 v0 v1 s0 s1 h = some z) : Ev (d + 5) none mX10_unevenIn (0, 0) 2 [.ref v0, .int v1] [.ref s0, .ref s1] h (QI z) := by
  obtain ⟨_, h1, hf⟩ := bnd hf
  obtain ⟨fs, ho⟩ := isO_ok h1
  obtain ⟨r, h2, hf⟩ := bnd hf
  refine ev_V kqX10_unevenIn_2 jX10_lacksTable (zX10_lacksTable (d := d + 4) h2) ho rfl rfl (Nat.le_of_ble_eq_true rfl) rfl (as := []) (rest := [.ref s1]) rfl (Nat.le_of_ble_eq_true rfl) (fun _ _ hq => ?_)
  obtain ⟨-, rfl, rfl⟩ := hq
  exact jm [2, 1] (fun v0 v1 => fX10_unevenIn_5 v0 v1 r.1 s1 r.2) (fun v0 v1 q => tX10_unevenIn_5 v0 v1 r.1 s1 r.2 q) hf
def wX10_unevenIn_0 : List En := [(.aload_n 0, 0, 0, 0), (.aload_n 0, 0, 0, 0)]
def fX10_unevenIn_0 (v0 : Nat) (v1 : Int32) (h : aH) : Option (Int32 × aH) :=
  fX10_unevenIn_2 v0 v1 v0 v0 h
theorem tX10_unevenIn_0 {d : Nat} {z : Int32 × aH} (v0 : Nat) (v1 : Int32) (h : aH) (hf : fX10_unevenIn_0 v0 v1 h = some z) : Ev (d + 5) none mX10_unevenIn (0, 0) 0 [.ref v0, .int v1] [] h (QI z) := 
  go_ok (X := none) (blk := wX10_unevenIn_0) (np := 2) (tt := 0) (kN := fun xs h st => app [2, 1] (fun v0 v1 => apS [2, 2] (fun s0 s1 => fX10_unevenIn_2 v0 v1 s0 s1 h) st) xs) (kT := fun _ _ _ => none) (kR := kRI)
    (fun xs h st q => jm [2, 1] _ (fun v0 v1 q => apS_ok [2, 2] _ (fun st => Ev (d + 5) none mX10_unevenIn (0, 0) 2 [.ref v0, .int v1] st h (QI z)) st (fun s0 s1 q => tX10_unevenIn_2 v0 v1 s0 s1 h q) q) q)
    (fun _ _ _ q => nos q)
    kRI_ok (Or.inr rfl) (by decide +kernel) (by decide +kernel) hf
def gX10_unevenIn (v0 : Nat) (v1 : Int32) (h : aH) : Option (Int32 × aH) := fX10_unevenIn_0 v0 v1 h
theorem zX10_unevenIn {d : Nat} {z : Int32 × aH} {v0 : Nat} {v1 : Int32} {h : aH} (q : gX10_unevenIn v0 v1 h = some z) : CT (d + 5) mX10_unevenIn (0, 0) [.ref v0, .int v1] h (QI z) :=
  ct_ev (by decide +kernel) (Nat.le_of_ble_eq_true rfl) QI_r (jm [2, 1] (fun v0 v1 => fX10_unevenIn_0 v0 v1 h) (fun v0 v1 q => tX10_unevenIn_0 v0 v1 h q) q)
def wX10_deadIn_83 : List En := [(.ireturn, 0, 0, 0)]
def fX10_deadIn_83 (s0 : Int32) (h : aH) : Option (Int32 × aH) :=
  some (s0, h)
theorem tX10_deadIn_83 {d : Nat} {z : Int32 × aH} (s0 : Int32) (h : aH) (hf : fX10_deadIn_83 s0 h = some z) : Ev (d + 4) none mX10_deadIn (0, 0) 83 [.null, .null, .null] [.int s0] h (QI z) := 
  go_ok (X := none) (blk := wX10_deadIn_83) (np := 84) (tt := 0) (kN := fun _ _ _ => none) (kT := fun _ _ _ => none) (kR := kRI)
    (fun _ _ _ q => nos q)
    (fun _ _ _ q => nos q)
    kRI_ok (Or.inr rfl) (by decide +kernel) (by decide +kernel) hf
theorem kqX10_deadIn_80 : okC mX10_deadIn 80 (.invokevirtual 119) 60 44 0 1 = true := by decide +kernel
def fX10_deadIn_80 (s0 : Int32) (s1 : Nat) (h : aH) : Option (Int32 × aH) :=
  (isO h 10 s1).bind fun _ =>
  (gX10_answer s1 s0 h).bind fun r =>
  fX10_deadIn_83 r.1 r.2
theorem tX10_deadIn_80 {d : Nat} {z : Int32 × aH} (s0 : Int32) (s1 : Nat) (h : aH) (hf : fX10_deadIn_80 s0 s1 h = some z) : Ev (d + 4) none mX10_deadIn (0, 0) 80 [.null, .null, .null] [.int s0, .ref s1] h (QI z) := by
  obtain ⟨_, h1, hf⟩ := bnd hf
  obtain ⟨fs, ho⟩ := isO_ok h1
  obtain ⟨r, h2, hf⟩ := bnd hf
  refine ev_V kqX10_deadIn_80 jX10_answer (zX10_answer (d := d + 3) h2) ho rfl rfl (Nat.le_of_ble_eq_true rfl) rfl (as := [.int s0]) (rest := []) rfl (Nat.le_of_ble_eq_true rfl) (fun _ _ hq => ?_)
  obtain ⟨rfl, rfl⟩ := hq
  exact jm [0, 0, 0] (fX10_deadIn_83 r.1 r.2) (fun q => tX10_deadIn_83 r.1 r.2 q) hf
def wX10_deadIn_77 : List En := [(.aload_n 0, 0, 0, 0), (.bipush (-2), 0, 0, 0)]
def fX10_deadIn_77 (v0 : Nat) (h : aH) : Option (Int32 × aH) :=
  fX10_deadIn_80 (kB (-2)) v0 h
theorem tX10_deadIn_77 {d : Nat} {z : Int32 × aH} (v0 : Nat) (h : aH) (hf : fX10_deadIn_77 v0 h = some z) : Ev (d + 4) none mX10_deadIn (0, 0) 77 [.ref v0, .null, .null] [] h (QI z) := 
  go_ok (X := none) (blk := wX10_deadIn_77) (np := 80) (tt := 0) (kN := fun xs h st => app [0, 0, 0] (apS [1, 2] (fun s0 s1 => fX10_deadIn_80 s0 s1 h) st) xs) (kT := fun _ _ _ => none) (kR := kRI)
    (fun xs h st q => jm [0, 0, 0] _ (fun q => apS_ok [1, 2] _ (fun st => Ev (d + 4) none mX10_deadIn (0, 0) 80 [.null, .null, .null] st h (QI z)) st (fun s0 s1 q => tX10_deadIn_80 s0 s1 h q) q) q)
    (fun _ _ _ q => nos q)
    kRI_ok (Or.inr rfl) (by decide +kernel) (by decide +kernel) hf
def wX10_deadIn_71 : List En := [(.iinc 2 1, 0, 0, 0), (.goto (-47), 27, 0, 0)]
def fX10_deadIn_71 (k27 : Nat → Int32 → Int32 → aH → Option (Int32 × aH)) (v0 : Nat) (v1 : Int32) (v2 : Int32) (h : aH) : Option (Int32 × aH) :=
  k27 v0 v1 (v2 + kI 1) h
theorem tX10_deadIn_71 {d : Nat} {z : Int32 × aH} {k27 : Nat → Int32 → Int32 → aH → Option (Int32 × aH)} (hk27 : ∀ (v0 : Nat) (v1 : Int32) (v2 : Int32) (h : aH), k27 v0 v1 v2 h = some z → Ev (d + 4) none mX10_deadIn (0, 0) 27 [.ref v0, .int v1, .int v2] [] h (QI z)) (v0 : Nat) (v1 : Int32) (v2 : Int32) (h : aH) (hf : fX10_deadIn_71 k27 v0 v1 v2 h = some z) : Ev (d + 4) none mX10_deadIn (0, 0) 71 [.ref v0, .int v1, .int v2] [] h (QI z) := 
  go_ok (X := none) (blk := wX10_deadIn_71) (np := 77) (tt := 27) (kN := fun _ _ _ => none) (kT := fun xs h st => app [2, 1, 1] (fun v0 v1 v2 => apS [] (k27 v0 v1 v2 h) st) xs) (kR := kRI)
    (fun _ _ _ q => nos q)
    (fun xs h st q => jm [2, 1, 1] _ (fun v0 v1 v2 q => apS_ok [] _ (fun st => Ev (d + 4) none mX10_deadIn (0, 0) 27 [.ref v0, .int v1, .int v2] st h (QI z)) st (fun q => hk27 v0 v1 v2 h q) q) q)
    kRI_ok (Or.inr rfl) (by decide +kernel) (by decide +kernel) hf
theorem kqX10_deadIn_68 : okC mX10_deadIn 68 (.invokevirtual 228) 82 105 0 2 = true := by decide +kernel
def fX10_deadIn_68 (k27 : Nat → Int32 → Int32 → aH → Option (Int32 × aH)) (v0 : Nat) (v1 : Int32) (v2 : Int32) (s0 : Int32) (s1 : Nat) (s2 : Nat) (h : aH) : Option (Int32 × aH) :=
  (isO h 1 s2).bind fun _ =>
  (gX1_pass s2 s1 s0 h).bind fun r =>
  fX10_deadIn_71 k27 v0 v1 v2 r
theorem tX10_deadIn_68 {d : Nat} {z : Int32 × aH} {k27 : Nat → Int32 → Int32 → aH → Option (Int32 × aH)} (hk27 : ∀ (v0 : Nat) (v1 : Int32) (v2 : Int32) (h : aH), k27 v0 v1 v2 h = some z → Ev (d + 4) none mX10_deadIn (0, 0) 27 [.ref v0, .int v1, .int v2] [] h (QI z)) (v0 : Nat) (v1 : Int32) (v2 : Int32) (s0 : Int32) (s1 : Nat) (s2 : Nat) (h : aH) (hf : fX10_deadIn_68 k27 v0 v1 v2 s0 s1 s2 h = some z) : Ev (d + 4) none mX10_deadIn (0, 0) 68 [.ref v0, .int v1, .int v2] [.int s0, .ref s1, .ref s2] h (QI z) := by
  obtain ⟨_, h1, hf⟩ := bnd hf
  obtain ⟨fs, ho⟩ := isO_ok h1
  obtain ⟨r, h2, hf⟩ := bnd hf
  refine ev_V kqX10_deadIn_68 jX1_pass (zX1_pass (d := d + 0) h2) ho rfl rfl (Nat.le_of_ble_eq_true rfl) rfl (as := [.ref s1, .int s0]) (rest := []) rfl (Nat.le_of_ble_eq_true rfl) (fun _ _ hq => ?_)
  obtain ⟨rfl, hh⟩ := hq
  rw [hh]
  exact jm [2, 1, 1] (fun v0 v1 v2 => fX10_deadIn_71 k27 v0 v1 v2 r) (fun v0 v1 v2 q => tX10_deadIn_71 hk27 v0 v1 v2 r q) hf
def wX10_deadIn_53 : List En := [(.aload_n 0, 0, 0, 0), (.getfield 19, 163, 10, 1), (.aload_n 0, 0, 0, 0), (.getfield 75, 171, 10, 9), (.aload_n 0, 0, 0, 0), (.getfield 75, 171, 10, 9), (.getfield 225, 98, 9, 0)]
def fX10_deadIn_53 (k27 : Nat → Int32 → Int32 → aH → Option (Int32 × aH)) (v0 : Nat) (v1 : Int32) (v2 : Int32) (h : aH) : Option (Int32 × aH) :=
  (gFR h 10 v0 1).bind fun t1 =>
  (gFR h 10 v0 9).bind fun t2 =>
  (gFR h 10 v0 9).bind fun t3 =>
  (gFI h 9 t3 0).bind fun t4 =>
  fX10_deadIn_68 k27 v0 v1 v2 t4 t2 t1 h
theorem tX10_deadIn_53 {d : Nat} {z : Int32 × aH} {k27 : Nat → Int32 → Int32 → aH → Option (Int32 × aH)} (hk27 : ∀ (v0 : Nat) (v1 : Int32) (v2 : Int32) (h : aH), k27 v0 v1 v2 h = some z → Ev (d + 4) none mX10_deadIn (0, 0) 27 [.ref v0, .int v1, .int v2] [] h (QI z)) (v0 : Nat) (v1 : Int32) (v2 : Int32) (h : aH) (hf : fX10_deadIn_53 k27 v0 v1 v2 h = some z) : Ev (d + 4) none mX10_deadIn (0, 0) 53 [.ref v0, .int v1, .int v2] [] h (QI z) := 
  go_ok (X := none) (blk := wX10_deadIn_53) (np := 68) (tt := 0) (kN := fun xs h st => app [2, 1, 1] (fun v0 v1 v2 => apS [1, 2, 2] (fun s0 s1 s2 => fX10_deadIn_68 k27 v0 v1 v2 s0 s1 s2 h) st) xs) (kT := fun _ _ _ => none) (kR := kRI)
    (fun xs h st q => jm [2, 1, 1] _ (fun v0 v1 v2 q => apS_ok [1, 2, 2] _ (fun st => Ev (d + 4) none mX10_deadIn (0, 0) 68 [.ref v0, .int v1, .int v2] st h (QI z)) st (fun s0 s1 s2 q => tX10_deadIn_68 hk27 v0 v1 v2 s0 s1 s2 h q) q) q)
    (fun _ _ _ q => nos q)
    kRI_ok (Or.inr rfl) (by decide +kernel) (by decide +kernel) hf
def wX10_deadIn_52 : List En := [(.ireturn, 0, 0, 0)]
def fX10_deadIn_52 (s0 : Int32) (h : aH) : Option (Int32 × aH) :=
  some (s0, h)
theorem tX10_deadIn_52 {d : Nat} {z : Int32 × aH} (s0 : Int32) (h : aH) (hf : fX10_deadIn_52 s0 h = some z) : Ev (d + 4) none mX10_deadIn (0, 0) 52 [.null, .null, .null] [.int s0] h (QI z) := 
  go_ok (X := none) (blk := wX10_deadIn_52) (np := 53) (tt := 0) (kN := fun _ _ _ => none) (kT := fun _ _ _ => none) (kR := kRI)
    (fun _ _ _ q => nos q)
    (fun _ _ _ q => nos q)
    kRI_ok (Or.inr rfl) (by decide +kernel) (by decide +kernel) hf
theorem kqX10_deadIn_49 : okC mX10_deadIn 49 (.invokevirtual 119) 60 44 0 1 = true := by decide +kernel
def fX10_deadIn_49 (s0 : Int32) (s1 : Nat) (h : aH) : Option (Int32 × aH) :=
  (isO h 10 s1).bind fun _ =>
  (gX10_answer s1 s0 h).bind fun r =>
  fX10_deadIn_52 r.1 r.2
theorem tX10_deadIn_49 {d : Nat} {z : Int32 × aH} (s0 : Int32) (s1 : Nat) (h : aH) (hf : fX10_deadIn_49 s0 s1 h = some z) : Ev (d + 4) none mX10_deadIn (0, 0) 49 [.null, .null, .null] [.int s0, .ref s1] h (QI z) := by
  obtain ⟨_, h1, hf⟩ := bnd hf
  obtain ⟨fs, ho⟩ := isO_ok h1
  obtain ⟨r, h2, hf⟩ := bnd hf
  refine ev_V kqX10_deadIn_49 jX10_answer (zX10_answer (d := d + 3) h2) ho rfl rfl (Nat.le_of_ble_eq_true rfl) rfl (as := [.int s0]) (rest := []) rfl (Nat.le_of_ble_eq_true rfl) (fun _ _ hq => ?_)
  obtain ⟨rfl, rfl⟩ := hq
  exact jm [0, 0, 0] (fX10_deadIn_52 r.1 r.2) (fun q => tX10_deadIn_52 r.1 r.2 q) hf
def wX10_deadIn_47 : List En := [(.aload_n 0, 0, 0, 0), (.iload_n 2, 0, 0, 0)]
def fX10_deadIn_47 (v0 : Nat) (v2 : Int32) (h : aH) : Option (Int32 × aH) :=
  fX10_deadIn_49 v2 v0 h
theorem tX10_deadIn_47 {d : Nat} {z : Int32 × aH} (v0 : Nat) (v2 : Int32) (h : aH) (hf : fX10_deadIn_47 v0 v2 h = some z) : Ev (d + 4) none mX10_deadIn (0, 0) 47 [.ref v0, .null, .int v2] [] h (QI z) := 
  go_ok (X := none) (blk := wX10_deadIn_47) (np := 49) (tt := 0) (kN := fun xs h st => app [0, 0, 0] (apS [1, 2] (fun s0 s1 => fX10_deadIn_49 s0 s1 h) st) xs) (kT := fun _ _ _ => none) (kR := kRI)
    (fun xs h st q => jm [0, 0, 0] _ (fun q => apS_ok [1, 2] _ (fun st => Ev (d + 4) none mX10_deadIn (0, 0) 49 [.null, .null, .null] st h (QI z)) st (fun s0 s1 q => tX10_deadIn_49 s0 s1 h q) q) q)
    (fun _ _ _ q => nos q)
    kRI_ok (Or.inr rfl) (by decide +kernel) (by decide +kernel) hf
def wX10_deadIn_44 : List En := [(.ifCond .eq 9, 53, 0, 0)]
def fX10_deadIn_44 (k27 : Nat → Int32 → Int32 → aH → Option (Int32 × aH)) (v0 : Nat) (v1 : Int32) (v2 : Int32) (s0 : Int32) (h : aH) : Option (Int32 × aH) :=
  if s0 = 0 then fX10_deadIn_53 k27 v0 v1 v2 h else fX10_deadIn_47 v0 v2 h
theorem tX10_deadIn_44 {d : Nat} {z : Int32 × aH} {k27 : Nat → Int32 → Int32 → aH → Option (Int32 × aH)} (hk27 : ∀ (v0 : Nat) (v1 : Int32) (v2 : Int32) (h : aH), k27 v0 v1 v2 h = some z → Ev (d + 4) none mX10_deadIn (0, 0) 27 [.ref v0, .int v1, .int v2] [] h (QI z)) (v0 : Nat) (v1 : Int32) (v2 : Int32) (s0 : Int32) (h : aH) (hf : fX10_deadIn_44 k27 v0 v1 v2 s0 h = some z) : Ev (d + 4) none mX10_deadIn (0, 0) 44 [.ref v0, .int v1, .int v2] [.int s0] h (QI z) := 
  go_ok (X := none) (blk := wX10_deadIn_44) (np := 47) (tt := 53) (kN := fun xs h st => app [2, 0, 1] (fun v0 v2 => apS [] (fX10_deadIn_47 v0 v2 h) st) xs) (kT := fun xs h st => app [2, 1, 1] (fun v0 v1 v2 => apS [] (fX10_deadIn_53 k27 v0 v1 v2 h) st) xs) (kR := kRI)
    (fun xs h st q => jm [2, 0, 1] _ (fun v0 v2 q => apS_ok [] _ (fun st => Ev (d + 4) none mX10_deadIn (0, 0) 47 [.ref v0, .null, .int v2] st h (QI z)) st (fun q => tX10_deadIn_47 v0 v2 h q) q) q)
    (fun xs h st q => jm [2, 1, 1] _ (fun v0 v1 v2 q => apS_ok [] _ (fun st => Ev (d + 4) none mX10_deadIn (0, 0) 53 [.ref v0, .int v1, .int v2] st h (QI z)) st (fun q => tX10_deadIn_53 hk27 v0 v1 v2 h q) q) q)
    kRI_ok (Or.inr rfl) (by decide +kernel) (by decide +kernel) hf
theorem kqX10_deadIn_41 : okC mX10_deadIn 41 (.invokevirtual 166) 70 54 0 1 = true := by decide +kernel
def fX10_deadIn_41 (k27 : Nat → Int32 → Int32 → aH → Option (Int32 × aH)) (v0 : Nat) (v1 : Int32) (v2 : Int32) (s0 : Int32) (s1 : Nat) (h : aH) : Option (Int32 × aH) :=
  (isO h 7 s1).bind fun _ =>
  (gX7_isDead s1 s0 h).bind fun r =>
  fX10_deadIn_44 k27 v0 v1 v2 r.1 r.2
theorem tX10_deadIn_41 {d : Nat} {z : Int32 × aH} {k27 : Nat → Int32 → Int32 → aH → Option (Int32 × aH)} (hk27 : ∀ (v0 : Nat) (v1 : Int32) (v2 : Int32) (h : aH), k27 v0 v1 v2 h = some z → Ev (d + 4) none mX10_deadIn (0, 0) 27 [.ref v0, .int v1, .int v2] [] h (QI z)) (v0 : Nat) (v1 : Int32) (v2 : Int32) (s0 : Int32) (s1 : Nat) (h : aH) (hf : fX10_deadIn_41 k27 v0 v1 v2 s0 s1 h = some z) : Ev (d + 4) none mX10_deadIn (0, 0) 41 [.ref v0, .int v1, .int v2] [.int s0, .ref s1] h (QI z) := by
  obtain ⟨_, h1, hf⟩ := bnd hf
  obtain ⟨fs, ho⟩ := isO_ok h1
  obtain ⟨r, h2, hf⟩ := bnd hf
  refine ev_V kqX10_deadIn_41 jX7_isDead (zX7_isDead (d := d + 3) h2) ho rfl rfl (Nat.le_of_ble_eq_true rfl) rfl (as := [.int s0]) (rest := []) rfl (Nat.le_of_ble_eq_true rfl) (fun _ _ hq => ?_)
  obtain ⟨-, rfl, rfl⟩ := hq
  exact jm [2, 1, 1] (fun v0 v1 v2 => fX10_deadIn_44 k27 v0 v1 v2 r.1 r.2) (fun v0 v1 v2 q => tX10_deadIn_44 hk27 v0 v1 v2 r.1 r.2 q) hf
def wX10_deadIn_33 : List En := [(.aload_n 0, 0, 0, 0), (.getfield 19, 163, 10, 1), (.getfield 208, 48, 1, 0), (.iload_n 1, 0, 0, 0)]
def fX10_deadIn_33 (k27 : Nat → Int32 → Int32 → aH → Option (Int32 × aH)) (v0 : Nat) (v1 : Int32) (v2 : Int32) (h : aH) : Option (Int32 × aH) :=
  (gFR h 10 v0 1).bind fun t1 =>
  (gFR h 1 t1 0).bind fun t2 =>
  fX10_deadIn_41 k27 v0 v1 v2 v1 t2 h
theorem tX10_deadIn_33 {d : Nat} {z : Int32 × aH} {k27 : Nat → Int32 → Int32 → aH → Option (Int32 × aH)} (hk27 : ∀ (v0 : Nat) (v1 : Int32) (v2 : Int32) (h : aH), k27 v0 v1 v2 h = some z → Ev (d + 4) none mX10_deadIn (0, 0) 27 [.ref v0, .int v1, .int v2] [] h (QI z)) (v0 : Nat) (v1 : Int32) (v2 : Int32) (h : aH) (hf : fX10_deadIn_33 k27 v0 v1 v2 h = some z) : Ev (d + 4) none mX10_deadIn (0, 0) 33 [.ref v0, .int v1, .int v2] [] h (QI z) := 
  go_ok (X := none) (blk := wX10_deadIn_33) (np := 41) (tt := 0) (kN := fun xs h st => app [2, 1, 1] (fun v0 v1 v2 => apS [1, 2] (fun s0 s1 => fX10_deadIn_41 k27 v0 v1 v2 s0 s1 h) st) xs) (kT := fun _ _ _ => none) (kR := kRI)
    (fun xs h st q => jm [2, 1, 1] _ (fun v0 v1 v2 q => apS_ok [1, 2] _ (fun st => Ev (d + 4) none mX10_deadIn (0, 0) 41 [.ref v0, .int v1, .int v2] st h (QI z)) st (fun s0 s1 q => tX10_deadIn_41 hk27 v0 v1 v2 s0 s1 h q) q) q)
    (fun _ _ _ q => nos q)
    kRI_ok (Or.inr rfl) (by decide +kernel) (by decide +kernel) hf
def wX10_deadIn_27 : List En := [(.iload_n 2, 0, 0, 0), (.bipush 60, 0, 0, 0), (.if_icmp .gt 47, 77, 0, 0)]
def fX10_deadIn_27 (k27 : Nat → Int32 → Int32 → aH → Option (Int32 × aH)) (v0 : Nat) (v1 : Int32) (v2 : Int32) (h : aH) : Option (Int32 × aH) :=
  if (kB 60) < v2 then fX10_deadIn_77 v0 h else fX10_deadIn_33 k27 v0 v1 v2 h
theorem tX10_deadIn_27 {d : Nat} {z : Int32 × aH} {k27 : Nat → Int32 → Int32 → aH → Option (Int32 × aH)} (hk27 : ∀ (v0 : Nat) (v1 : Int32) (v2 : Int32) (h : aH), k27 v0 v1 v2 h = some z → Ev (d + 4) none mX10_deadIn (0, 0) 27 [.ref v0, .int v1, .int v2] [] h (QI z)) (v0 : Nat) (v1 : Int32) (v2 : Int32) (h : aH) (hf : fX10_deadIn_27 k27 v0 v1 v2 h = some z) : Ev (d + 4) none mX10_deadIn (0, 0) 27 [.ref v0, .int v1, .int v2] [] h (QI z) := 
  go_ok (X := none) (blk := wX10_deadIn_27) (np := 33) (tt := 77) (kN := fun xs h st => app [2, 1, 1] (fun v0 v1 v2 => apS [] (fX10_deadIn_33 k27 v0 v1 v2 h) st) xs) (kT := fun xs h st => app [2, 0, 0] (fun v0 => apS [] (fX10_deadIn_77 v0 h) st) xs) (kR := kRI)
    (fun xs h st q => jm [2, 1, 1] _ (fun v0 v1 v2 q => apS_ok [] _ (fun st => Ev (d + 4) none mX10_deadIn (0, 0) 33 [.ref v0, .int v1, .int v2] st h (QI z)) st (fun q => tX10_deadIn_33 hk27 v0 v1 v2 h q) q) q)
    (fun xs h st q => jm [2, 0, 0] _ (fun v0 q => apS_ok [] _ (fun st => Ev (d + 4) none mX10_deadIn (0, 0) 77 [.ref v0, .null, .null] st h (QI z)) st (fun q => tX10_deadIn_77 v0 h q) q) q)
    kRI_ok (Or.inr rfl) (by decide +kernel) (by decide +kernel) hf
def lX10_deadIn_27 : Nat → Nat → Int32 → Int32 → aH → Option (Int32 × aH)
  | 0, _, _, _, _ => none
  | n + 1, v0, v1, v2, h => fX10_deadIn_27 (lX10_deadIn_27 n) v0 v1 v2 h
theorem uX10_deadIn_27 {d : Nat} {z : Int32 × aH} : ∀ (n : Nat) (v0 : Nat) (v1 : Int32) (v2 : Int32) (h : aH), lX10_deadIn_27 n v0 v1 v2 h = some z → Ev (d + 4) none mX10_deadIn (0, 0) 27 [.ref v0, .int v1, .int v2] [] h (QI z) := by
  intro n
  induction n with
  | zero => intro _ _ _ _ q; exact nos (show (none : Option (Int32 × aH)) = some z from q)
  | succ n ih => intro v0 v1 v2 h q; exact tX10_deadIn_27 ih v0 v1 v2 h q
def wX10_deadIn_25 : List En := [(.iconst 0, 0, 0, 0), (.istore_n 2, 0, 0, 0)]
def fX10_deadIn_25 (v0 : Nat) (v1 : Int32) (h : aH) : Option (Int32 × aH) :=
  lX10_deadIn_27 FU v0 v1 (kI 0) h
theorem tX10_deadIn_25 {d : Nat} {z : Int32 × aH} (v0 : Nat) (v1 : Int32) (h : aH) (hf : fX10_deadIn_25 v0 v1 h = some z) : Ev (d + 4) none mX10_deadIn (0, 0) 25 [.ref v0, .int v1, .null] [] h (QI z) := 
  go_ok (X := none) (blk := wX10_deadIn_25) (np := 27) (tt := 0) (kN := fun xs h st => app [2, 1, 1] (fun v0 v1 v2 => apS [] (lX10_deadIn_27 FU v0 v1 v2 h) st) xs) (kT := fun _ _ _ => none) (kR := kRI)
    (fun xs h st q => jm [2, 1, 1] _ (fun v0 v1 v2 q => apS_ok [] _ (fun st => Ev (d + 4) none mX10_deadIn (0, 0) 27 [.ref v0, .int v1, .int v2] st h (QI z)) st (fun q => uX10_deadIn_27 FU v0 v1 v2 h q) q) q)
    (fun _ _ _ q => nos q)
    kRI_ok (Or.inr rfl) (by decide +kernel) (by decide +kernel) hf
theorem kqX10_deadIn_22 : okC mX10_deadIn 22 (.invokevirtual 221) 80 104 0 1 = true := by decide +kernel
def fX10_deadIn_22 (v0 : Nat) (v1 : Int32) (s0 : Nat) (s1 : Nat) (h : aH) : Option (Int32 × aH) :=
  (isO h 1 s1).bind fun _ =>
  (gX1_start s1 s0 h).bind fun r =>
  fX10_deadIn_25 v0 v1 r
theorem tX10_deadIn_22 {d : Nat} {z : Int32 × aH} (v0 : Nat) (v1 : Int32) (s0 : Nat) (s1 : Nat) (h : aH) (hf : fX10_deadIn_22 v0 v1 s0 s1 h = some z) : Ev (d + 4) none mX10_deadIn (0, 0) 22 [.ref v0, .int v1, .null] [.ref s0, .ref s1] h (QI z) := by
  obtain ⟨_, h1, hf⟩ := bnd hf
  obtain ⟨fs, ho⟩ := isO_ok h1
  obtain ⟨r, h2, hf⟩ := bnd hf
  refine ev_V kqX10_deadIn_22 jX1_start (zX1_start (d := d + 1) h2) ho rfl rfl (Nat.le_of_ble_eq_true rfl) rfl (as := [.ref s0]) (rest := []) rfl (Nat.le_of_ble_eq_true rfl) (fun _ _ hq => ?_)
  obtain ⟨rfl, hh⟩ := hq
  rw [hh]
  exact jm [2, 1, 0] (fun v0 v1 => fX10_deadIn_25 v0 v1 r) (fun v0 v1 q => tX10_deadIn_25 v0 v1 r q) hf
def wX10_deadIn_14 : List En := [(.aload_n 0, 0, 0, 0), (.getfield 19, 163, 10, 1), (.aload_n 0, 0, 0, 0), (.getfield 68, 170, 10, 8)]
def fX10_deadIn_14 (v0 : Nat) (v1 : Int32) (h : aH) : Option (Int32 × aH) :=
  (gFR h 10 v0 1).bind fun t1 =>
  (gFR h 10 v0 8).bind fun t2 =>
  fX10_deadIn_22 v0 v1 t2 t1 h
theorem tX10_deadIn_14 {d : Nat} {z : Int32 × aH} (v0 : Nat) (v1 : Int32) (h : aH) (hf : fX10_deadIn_14 v0 v1 h = some z) : Ev (d + 4) none mX10_deadIn (0, 0) 14 [.ref v0, .int v1, .null] [] h (QI z) := 
  go_ok (X := none) (blk := wX10_deadIn_14) (np := 22) (tt := 0) (kN := fun xs h st => app [2, 1, 0] (fun v0 v1 => apS [2, 2] (fun s0 s1 => fX10_deadIn_22 v0 v1 s0 s1 h) st) xs) (kT := fun _ _ _ => none) (kR := kRI)
    (fun xs h st q => jm [2, 1, 0] _ (fun v0 v1 q => apS_ok [2, 2] _ (fun st => Ev (d + 4) none mX10_deadIn (0, 0) 22 [.ref v0, .int v1, .null] st h (QI z)) st (fun s0 s1 q => tX10_deadIn_22 v0 v1 s0 s1 h q) q) q)
    (fun _ _ _ q => nos q)
    kRI_ok (Or.inr rfl) (by decide +kernel) (by decide +kernel) hf
def wX10_deadIn_13 : List En := [(.ireturn, 0, 0, 0)]
def fX10_deadIn_13 (s0 : Int32) (h : aH) : Option (Int32 × aH) :=
  some (s0, h)
theorem tX10_deadIn_13 {d : Nat} {z : Int32 × aH} (s0 : Int32) (h : aH) (hf : fX10_deadIn_13 s0 h = some z) : Ev (d + 4) none mX10_deadIn (0, 0) 13 [.null, .null, .null] [.int s0] h (QI z) := 
  go_ok (X := none) (blk := wX10_deadIn_13) (np := 14) (tt := 0) (kN := fun _ _ _ => none) (kT := fun _ _ _ => none) (kR := kRI)
    (fun _ _ _ q => nos q)
    (fun _ _ _ q => nos q)
    kRI_ok (Or.inr rfl) (by decide +kernel) (by decide +kernel) hf
theorem kqX10_deadIn_10 : okC mX10_deadIn 10 (.invokevirtual 94) 15 8 0 1 = true := by decide +kernel
def fX10_deadIn_10 (s0 : Int32) (s1 : Nat) (h : aH) : Option (Int32 × aH) :=
  (isO h 10 s1).bind fun _ =>
  (gX10_refuse s1 s0 h).bind fun r =>
  fX10_deadIn_13 r.1 r.2
theorem tX10_deadIn_10 {d : Nat} {z : Int32 × aH} (s0 : Int32) (s1 : Nat) (h : aH) (hf : fX10_deadIn_10 s0 s1 h = some z) : Ev (d + 4) none mX10_deadIn (0, 0) 10 [.null, .null, .null] [.int s0, .ref s1] h (QI z) := by
  obtain ⟨_, h1, hf⟩ := bnd hf
  obtain ⟨fs, ho⟩ := isO_ok h1
  obtain ⟨r, h2, hf⟩ := bnd hf
  refine ev_V kqX10_deadIn_10 jX10_refuse (zX10_refuse (d := d + 3) h2) ho rfl rfl (Nat.le_of_ble_eq_true rfl) rfl (as := [.int s0]) (rest := []) rfl (Nat.le_of_ble_eq_true rfl) (fun _ _ hq => ?_)
  obtain ⟨rfl, rfl⟩ := hq
  exact jm [0, 0, 0] (fX10_deadIn_13 r.1 r.2) (fun q => tX10_deadIn_13 r.1 r.2 q) hf
def wX10_deadIn_8 : List En := [(.aload_n 0, 0, 0, 0), (.iconst 1, 0, 0, 0)]
def fX10_deadIn_8 (v0 : Nat) (h : aH) : Option (Int32 × aH) :=
  fX10_deadIn_10 (kI 1) v0 h
theorem tX10_deadIn_8 {d : Nat} {z : Int32 × aH} (v0 : Nat) (h : aH) (hf : fX10_deadIn_8 v0 h = some z) : Ev (d + 4) none mX10_deadIn (0, 0) 8 [.ref v0, .null, .null] [] h (QI z) := 
  go_ok (X := none) (blk := wX10_deadIn_8) (np := 10) (tt := 0) (kN := fun xs h st => app [0, 0, 0] (apS [1, 2] (fun s0 s1 => fX10_deadIn_10 s0 s1 h) st) xs) (kT := fun _ _ _ => none) (kR := kRI)
    (fun xs h st q => jm [0, 0, 0] _ (fun q => apS_ok [1, 2] _ (fun st => Ev (d + 4) none mX10_deadIn (0, 0) 10 [.null, .null, .null] st h (QI z)) st (fun s0 s1 q => tX10_deadIn_10 s0 s1 h q) q) q)
    (fun _ _ _ q => nos q)
    kRI_ok (Or.inr rfl) (by decide +kernel) (by decide +kernel) hf
def wX10_deadIn_5 : List En := [(.ifCond .eq 9, 14, 0, 0)]
def fX10_deadIn_5 (v0 : Nat) (v1 : Int32) (s0 : Int32) (h : aH) : Option (Int32 × aH) :=
  if s0 = 0 then fX10_deadIn_14 v0 v1 h else fX10_deadIn_8 v0 h
theorem tX10_deadIn_5 {d : Nat} {z : Int32 × aH} (v0 : Nat) (v1 : Int32) (s0 : Int32) (h : aH) (hf : fX10_deadIn_5 v0 v1 s0 h = some z) : Ev (d + 4) none mX10_deadIn (0, 0) 5 [.ref v0, .int v1, .null] [.int s0] h (QI z) := 
  go_ok (X := none) (blk := wX10_deadIn_5) (np := 8) (tt := 14) (kN := fun xs h st => app [2, 0, 0] (fun v0 => apS [] (fX10_deadIn_8 v0 h) st) xs) (kT := fun xs h st => app [2, 1, 0] (fun v0 v1 => apS [] (fX10_deadIn_14 v0 v1 h) st) xs) (kR := kRI)
    (fun xs h st q => jm [2, 0, 0] _ (fun v0 q => apS_ok [] _ (fun st => Ev (d + 4) none mX10_deadIn (0, 0) 8 [.ref v0, .null, .null] st h (QI z)) st (fun q => tX10_deadIn_8 v0 h q) q) q)
    (fun xs h st q => jm [2, 1, 0] _ (fun v0 v1 q => apS_ok [] _ (fun st => Ev (d + 4) none mX10_deadIn (0, 0) 14 [.ref v0, .int v1, .null] st h (QI z)) st (fun q => tX10_deadIn_14 v0 v1 h q) q) q)
    kRI_ok (Or.inr rfl) (by decide +kernel) (by decide +kernel) hf
theorem kqX10_deadIn_2 : okC mX10_deadIn 2 (.invokevirtual 128) 64 48 0 1 = true := by decide +kernel
def fX10_deadIn_2 (v0 : Nat) (v1 : Int32) (s0 : Int32) (s1 : Nat) (h : aH) : Option (Int32 × aH) :=
  (isO h 10 s1).bind fun _ =>
  (gX10_lacksPerson s1 s0 h).bind fun r =>
  fX10_deadIn_5 v0 v1 r.1 r.2
theorem tX10_deadIn_2 {d : Nat} {z : Int32 × aH} (v0 : Nat) (v1 : Int32) (s0 : Int32) (s1 : Nat) (h : aH) (hf : fX10_deadIn_2 v0 v1 s0 s1 h = some z) : Ev (d + 4) none mX10_deadIn (0, 0) 2 [.ref v0, .int v1, .null] [.int s0, .ref s1] h (QI z) := by
  obtain ⟨_, h1, hf⟩ := bnd hf
  obtain ⟨fs, ho⟩ := isO_ok h1
  obtain ⟨r, h2, hf⟩ := bnd hf
  refine ev_V kqX10_deadIn_2 jX10_lacksPerson (zX10_lacksPerson (d := d + 3) h2) ho rfl rfl (Nat.le_of_ble_eq_true rfl) rfl (as := [.int s0]) (rest := []) rfl (Nat.le_of_ble_eq_true rfl) (fun _ _ hq => ?_)
  obtain ⟨-, rfl, rfl⟩ := hq
  exact jm [2, 1, 0] (fun v0 v1 => fX10_deadIn_5 v0 v1 r.1 r.2) (fun v0 v1 q => tX10_deadIn_5 v0 v1 r.1 r.2 q) hf
def wX10_deadIn_0 : List En := [(.aload_n 0, 0, 0, 0), (.iload_n 1, 0, 0, 0)]
def fX10_deadIn_0 (v0 : Nat) (v1 : Int32) (h : aH) : Option (Int32 × aH) :=
  fX10_deadIn_2 v0 v1 v1 v0 h
theorem tX10_deadIn_0 {d : Nat} {z : Int32 × aH} (v0 : Nat) (v1 : Int32) (h : aH) (hf : fX10_deadIn_0 v0 v1 h = some z) : Ev (d + 4) none mX10_deadIn (0, 0) 0 [.ref v0, .int v1, .null] [] h (QI z) := 
  go_ok (X := none) (blk := wX10_deadIn_0) (np := 2) (tt := 0) (kN := fun xs h st => app [2, 1, 0] (fun v0 v1 => apS [1, 2] (fun s0 s1 => fX10_deadIn_2 v0 v1 s0 s1 h) st) xs) (kT := fun _ _ _ => none) (kR := kRI)
    (fun xs h st q => jm [2, 1, 0] _ (fun v0 v1 q => apS_ok [1, 2] _ (fun st => Ev (d + 4) none mX10_deadIn (0, 0) 2 [.ref v0, .int v1, .null] st h (QI z)) st (fun s0 s1 q => tX10_deadIn_2 v0 v1 s0 s1 h q) q) q)
    (fun _ _ _ q => nos q)
    kRI_ok (Or.inr rfl) (by decide +kernel) (by decide +kernel) hf
def gX10_deadIn (v0 : Nat) (v1 : Int32) (h : aH) : Option (Int32 × aH) := fX10_deadIn_0 v0 v1 h
theorem zX10_deadIn {d : Nat} {z : Int32 × aH} {v0 : Nat} {v1 : Int32} {h : aH} (q : gX10_deadIn v0 v1 h = some z) : CT (d + 4) mX10_deadIn (0, 0) [.ref v0, .int v1] h (QI z) :=
  ct_ev (by decide +kernel) (Nat.le_of_ble_eq_true rfl) QI_r (jm [2, 1, 0] (fun v0 v1 => fX10_deadIn_0 v0 v1 h) (fun v0 v1 q => tX10_deadIn_0 v0 v1 h q) q)
def wX10_eats_34 : List En := [(.aload_n 0, 0, 0, 0), (.getfield 19, 163, 10, 1), (.getfield 187, 52, 1, 2), (.iload_n 1, 0, 0, 0), (.iaload, 0, 0, 0), (.ireturn, 0, 0, 0)]
def fX10_eats_34 (v0 : Nat) (v1 : Int32) (h : aH) : Option (Int32 × aH) :=
  (gFR h 10 v0 1).bind fun t1 =>
  (gFR h 1 t1 2).bind fun t2 =>
  (aRI (h[t2]?) v1).bind fun t3 =>
  some (t3, h)
theorem tX10_eats_34 {d : Nat} {z : Int32 × aH} (v0 : Nat) (v1 : Int32) (h : aH) (hf : fX10_eats_34 v0 v1 h = some z) : Ev (d + 5) none mX10_eats (0, 0) 34 [.ref v0, .int v1, .null] [] h (QI z) := 
  go_ok (X := none) (blk := wX10_eats_34) (np := 44) (tt := 0) (kN := fun _ _ _ => none) (kT := fun _ _ _ => none) (kR := kRI)
    (fun _ _ _ q => nos q)
    (fun _ _ _ q => nos q)
    kRI_ok (Or.inr rfl) (by decide +kernel) (by decide +kernel) hf
theorem kqX10_eats_31 : okC mX10_eats 31 (.invokevirtual 183) 79 67 0 3 = true := by decide +kernel
def fX10_eats_31 (v0 : Nat) (v1 : Int32) (s0 : Int32) (s1 : Nat) (s2 : Nat) (s3 : Nat) (h : aH) : Option (Int32 × aH) :=
  (isO h 1 s3).bind fun _ =>
  (gX1_walk s3 s2 s1 s0 h).bind fun r =>
  fX10_eats_34 v0 v1 r
theorem tX10_eats_31 {d : Nat} {z : Int32 × aH} (v0 : Nat) (v1 : Int32) (s0 : Int32) (s1 : Nat) (s2 : Nat) (s3 : Nat) (h : aH) (hf : fX10_eats_31 v0 v1 s0 s1 s2 s3 h = some z) : Ev (d + 5) none mX10_eats (0, 0) 31 [.ref v0, .int v1, .null] [.int s0, .ref s1, .ref s2, .ref s3] h (QI z) := by
  obtain ⟨_, h1, hf⟩ := bnd hf
  obtain ⟨fs, ho⟩ := isO_ok h1
  obtain ⟨r, h2, hf⟩ := bnd hf
  refine ev_V kqX10_eats_31 jX1_walk (zX1_walk (d := d + 0) h2) ho rfl rfl (Nat.le_of_ble_eq_true rfl) rfl (as := [.ref s2, .ref s1, .int s0]) (rest := []) rfl (Nat.le_of_ble_eq_true rfl) (fun _ _ hq => ?_)
  obtain ⟨rfl, hh⟩ := hq
  rw [hh]
  exact jm [2, 1, 0] (fun v0 v1 => fX10_eats_34 v0 v1 r) (fun v0 v1 q => tX10_eats_34 v0 v1 r q) hf
def wX10_eats_18 : List En := [(.aload_n 0, 0, 0, 0), (.getfield 19, 163, 10, 1), (.aload_n 0, 0, 0, 0), (.getfield 75, 171, 10, 9), (.aload_n 0, 0, 0, 0), (.getfield 68, 170, 10, 8), (.iload_n 2, 0, 0, 0)]
def fX10_eats_18 (v0 : Nat) (v1 : Int32) (v2 : Int32) (h : aH) : Option (Int32 × aH) :=
  (gFR h 10 v0 1).bind fun t1 =>
  (gFR h 10 v0 9).bind fun t2 =>
  (gFR h 10 v0 8).bind fun t3 =>
  fX10_eats_31 v0 v1 v2 t3 t2 t1 h
theorem tX10_eats_18 {d : Nat} {z : Int32 × aH} (v0 : Nat) (v1 : Int32) (v2 : Int32) (h : aH) (hf : fX10_eats_18 v0 v1 v2 h = some z) : Ev (d + 5) none mX10_eats (0, 0) 18 [.ref v0, .int v1, .int v2] [] h (QI z) := 
  go_ok (X := none) (blk := wX10_eats_18) (np := 31) (tt := 0) (kN := fun xs h st => app [2, 1, 0] (fun v0 v1 => apS [1, 2, 2, 2] (fun s0 s1 s2 s3 => fX10_eats_31 v0 v1 s0 s1 s2 s3 h) st) xs) (kT := fun _ _ _ => none) (kR := kRI)
    (fun xs h st q => jm [2, 1, 0] _ (fun v0 v1 q => apS_ok [1, 2, 2, 2] _ (fun st => Ev (d + 5) none mX10_eats (0, 0) 31 [.ref v0, .int v1, .null] st h (QI z)) st (fun s0 s1 s2 s3 q => tX10_eats_31 v0 v1 s0 s1 s2 s3 h q) q) q)
    (fun _ _ _ q => nos q)
    kRI_ok (Or.inr rfl) (by decide +kernel) (by decide +kernel) hf
def wX10_eats_16 : List En := [(.iconst (-1), 0, 0, 0), (.ireturn, 0, 0, 0)]
def fX10_eats_16 (h : aH) : Option (Int32 × aH) :=
  some ((kI (-1)), h)
theorem tX10_eats_16 {d : Nat} {z : Int32 × aH} (h : aH) (hf : fX10_eats_16 h = some z) : Ev (d + 5) none mX10_eats (0, 0) 16 [.null, .null, .null] [] h (QI z) := 
  go_ok (X := none) (blk := wX10_eats_16) (np := 18) (tt := 0) (kN := fun _ _ _ => none) (kT := fun _ _ _ => none) (kR := kRI)
    (fun _ _ _ q => nos q)
    (fun _ _ _ q => nos q)
    kRI_ok (Or.inr rfl) (by decide +kernel) (by decide +kernel) hf
def wX10_eats_13 : List En := [(.ifCond .eq 5, 18, 0, 0)]
def fX10_eats_13 (v0 : Nat) (v1 : Int32) (v2 : Int32) (s0 : Int32) (h : aH) : Option (Int32 × aH) :=
  if s0 = 0 then fX10_eats_18 v0 v1 v2 h else fX10_eats_16 h
theorem tX10_eats_13 {d : Nat} {z : Int32 × aH} (v0 : Nat) (v1 : Int32) (v2 : Int32) (s0 : Int32) (h : aH) (hf : fX10_eats_13 v0 v1 v2 s0 h = some z) : Ev (d + 5) none mX10_eats (0, 0) 13 [.ref v0, .int v1, .int v2] [.int s0] h (QI z) := 
  go_ok (X := none) (blk := wX10_eats_13) (np := 16) (tt := 18) (kN := fun xs h st => app [0, 0, 0] (apS [] (fX10_eats_16 h) st) xs) (kT := fun xs h st => app [2, 1, 1] (fun v0 v1 v2 => apS [] (fX10_eats_18 v0 v1 v2 h) st) xs) (kR := kRI)
    (fun xs h st q => jm [0, 0, 0] _ (fun q => apS_ok [] _ (fun st => Ev (d + 5) none mX10_eats (0, 0) 16 [.null, .null, .null] st h (QI z)) st (fun q => tX10_eats_16 h q) q) q)
    (fun xs h st q => jm [2, 1, 1] _ (fun v0 v1 v2 q => apS_ok [] _ (fun st => Ev (d + 5) none mX10_eats (0, 0) 18 [.ref v0, .int v1, .int v2] st h (QI z)) st (fun q => tX10_eats_18 v0 v1 v2 h q) q) q)
    kRI_ok (Or.inr rfl) (by decide +kernel) (by decide +kernel) hf
theorem kqX10_eats_10 : okC mX10_eats 10 (.invokevirtual 190) 92 87 0 4 = true := by decide +kernel
def fX10_eats_10 (v0 : Nat) (v1 : Int32) (v2 : Int32) (s0 : Int32) (s1 : Int32) (s2 : Int32) (s3 : Int32) (s4 : Nat) (h : aH) : Option (Int32 × aH) :=
  (isO h 10 s4).bind fun _ =>
  (gX10_isRefused s4 s3 s2 s1 s0 h).bind fun r =>
  fX10_eats_13 v0 v1 v2 r.1 r.2
theorem tX10_eats_10 {d : Nat} {z : Int32 × aH} (v0 : Nat) (v1 : Int32) (v2 : Int32) (s0 : Int32) (s1 : Int32) (s2 : Int32) (s3 : Int32) (s4 : Nat) (h : aH) (hf : fX10_eats_10 v0 v1 v2 s0 s1 s2 s3 s4 h = some z) : Ev (d + 5) none mX10_eats (0, 0) 10 [.ref v0, .int v1, .int v2] [.int s0, .int s1, .int s2, .int s3, .ref s4] h (QI z) := by
  obtain ⟨_, h1, hf⟩ := bnd hf
  obtain ⟨fs, ho⟩ := isO_ok h1
  obtain ⟨r, h2, hf⟩ := bnd hf
  refine ev_V kqX10_eats_10 jX10_isRefused (zX10_isRefused (d := d + 3) h2) ho rfl rfl (Nat.le_of_ble_eq_true rfl) rfl (as := [.int s3, .int s2, .int s1, .int s0]) (rest := []) rfl (Nat.le_of_ble_eq_true rfl) (fun _ _ hq => ?_)
  obtain ⟨-, rfl, rfl⟩ := hq
  exact jm [2, 1, 1] (fun v0 v1 v2 => fX10_eats_13 v0 v1 v2 r.1 r.2) (fun v0 v1 v2 q => tX10_eats_13 v0 v1 v2 r.1 r.2 q) hf
def wX10_eats_6 : List En := [(.iload_n 2, 0, 0, 0), (.iconst 0, 0, 0, 0), (.bipush 60, 0, 0, 0)]
def fX10_eats_6 (v0 : Nat) (v1 : Int32) (v2 : Int32) (s0 : Int32) (s1 : Nat) (h : aH) : Option (Int32 × aH) :=
  fX10_eats_10 v0 v1 v2 (kB 60) (kI 0) v2 s0 s1 h
theorem tX10_eats_6 {d : Nat} {z : Int32 × aH} (v0 : Nat) (v1 : Int32) (v2 : Int32) (s0 : Int32) (s1 : Nat) (h : aH) (hf : fX10_eats_6 v0 v1 v2 s0 s1 h = some z) : Ev (d + 5) none mX10_eats (0, 0) 6 [.ref v0, .int v1, .int v2] [.int s0, .ref s1] h (QI z) := 
  go_ok (X := none) (blk := wX10_eats_6) (np := 10) (tt := 0) (kN := fun xs h st => app [2, 1, 1] (fun v0 v1 v2 => apS [1, 1, 1, 1, 2] (fun s0 s1 s2 s3 s4 => fX10_eats_10 v0 v1 v2 s0 s1 s2 s3 s4 h) st) xs) (kT := fun _ _ _ => none) (kR := kRI)
    (fun xs h st q => jm [2, 1, 1] _ (fun v0 v1 v2 q => apS_ok [1, 1, 1, 1, 2] _ (fun st => Ev (d + 5) none mX10_eats (0, 0) 10 [.ref v0, .int v1, .int v2] st h (QI z)) st (fun s0 s1 s2 s3 s4 q => tX10_eats_10 v0 v1 v2 s0 s1 s2 s3 s4 h q) q) q)
    (fun _ _ _ q => nos q)
    kRI_ok (Or.inr rfl) (by decide +kernel) (by decide +kernel) hf
theorem kqX10_eats_3 : okC mX10_eats 3 (.invokevirtual 128) 64 48 0 1 = true := by decide +kernel
def fX10_eats_3 (v0 : Nat) (v1 : Int32) (v2 : Int32) (s0 : Int32) (s1 : Nat) (s2 : Nat) (h : aH) : Option (Int32 × aH) :=
  (isO h 10 s1).bind fun _ =>
  (gX10_lacksPerson s1 s0 h).bind fun r =>
  fX10_eats_6 v0 v1 v2 r.1 s2 r.2
theorem tX10_eats_3 {d : Nat} {z : Int32 × aH} (v0 : Nat) (v1 : Int32) (v2 : Int32) (s0 : Int32) (s1 : Nat) (s2 : Nat) (h : aH) (hf : fX10_eats_3 v0 v1 v2 s0 s1 s2 h = some z) : Ev (d + 5) none mX10_eats (0, 0) 3 [.ref v0, .int v1, .int v2] [.int s0, .ref s1, .ref s2] h (QI z) := by
  obtain ⟨_, h1, hf⟩ := bnd hf
  obtain ⟨fs, ho⟩ := isO_ok h1
  obtain ⟨r, h2, hf⟩ := bnd hf
  refine ev_V kqX10_eats_3 jX10_lacksPerson (zX10_lacksPerson (d := d + 4) h2) ho rfl rfl (Nat.le_of_ble_eq_true rfl) rfl (as := [.int s0]) (rest := [.ref s2]) rfl (Nat.le_of_ble_eq_true rfl) (fun _ _ hq => ?_)
  obtain ⟨-, rfl, rfl⟩ := hq
  exact jm [2, 1, 1] (fun v0 v1 v2 => fX10_eats_6 v0 v1 v2 r.1 s2 r.2) (fun v0 v1 v2 q => tX10_eats_6 v0 v1 v2 r.1 s2 r.2 q) hf
def wX10_eats_0 : List En := [(.aload_n 0, 0, 0, 0), (.aload_n 0, 0, 0, 0), (.iload_n 1, 0, 0, 0)]
def fX10_eats_0 (v0 : Nat) (v1 : Int32) (v2 : Int32) (h : aH) : Option (Int32 × aH) :=
  fX10_eats_3 v0 v1 v2 v1 v0 v0 h
theorem tX10_eats_0 {d : Nat} {z : Int32 × aH} (v0 : Nat) (v1 : Int32) (v2 : Int32) (h : aH) (hf : fX10_eats_0 v0 v1 v2 h = some z) : Ev (d + 5) none mX10_eats (0, 0) 0 [.ref v0, .int v1, .int v2] [] h (QI z) := 
  go_ok (X := none) (blk := wX10_eats_0) (np := 3) (tt := 0) (kN := fun xs h st => app [2, 1, 1] (fun v0 v1 v2 => apS [1, 2, 2] (fun s0 s1 s2 => fX10_eats_3 v0 v1 v2 s0 s1 s2 h) st) xs) (kT := fun _ _ _ => none) (kR := kRI)
    (fun xs h st q => jm [2, 1, 1] _ (fun v0 v1 v2 q => apS_ok [1, 2, 2] _ (fun st => Ev (d + 5) none mX10_eats (0, 0) 3 [.ref v0, .int v1, .int v2] st h (QI z)) st (fun s0 s1 s2 q => tX10_eats_3 v0 v1 v2 s0 s1 s2 h q) q) q)
    (fun _ _ _ q => nos q)
    kRI_ok (Or.inr rfl) (by decide +kernel) (by decide +kernel) hf
def gX10_eats (v0 : Nat) (v1 : Int32) (v2 : Int32) (h : aH) : Option (Int32 × aH) := fX10_eats_0 v0 v1 v2 h
theorem zX10_eats {d : Nat} {z : Int32 × aH} {v0 : Nat} {v1 : Int32} {v2 : Int32} {h : aH} (q : gX10_eats v0 v1 v2 h = some z) : CT (d + 5) mX10_eats (0, 0) [.ref v0, .int v1, .int v2] h (QI z) :=
  ct_ev (by decide +kernel) (Nat.le_of_ble_eq_true rfl) QI_r (jm [2, 1, 1] (fun v0 v1 v2 => fX10_eats_0 v0 v1 v2 h) (fun v0 v1 v2 q => tX10_eats_0 v0 v1 v2 h q) q)
def wX10_says_34 : List En := [(.aload_n 0, 0, 0, 0), (.getfield 19, 163, 10, 1), (.getfield 231, 54, 1, 3), (.iload_n 1, 0, 0, 0), (.iaload, 0, 0, 0), (.ireturn, 0, 0, 0)]
def fX10_says_34 (v0 : Nat) (v1 : Int32) (h : aH) : Option (Int32 × aH) :=
  (gFR h 10 v0 1).bind fun t1 =>
  (gFR h 1 t1 3).bind fun t2 =>
  (aRI (h[t2]?) v1).bind fun t3 =>
  some (t3, h)
theorem tX10_says_34 {d : Nat} {z : Int32 × aH} (v0 : Nat) (v1 : Int32) (h : aH) (hf : fX10_says_34 v0 v1 h = some z) : Ev (d + 5) none mX10_says (0, 0) 34 [.ref v0, .int v1, .null] [] h (QI z) := 
  go_ok (X := none) (blk := wX10_says_34) (np := 44) (tt := 0) (kN := fun _ _ _ => none) (kT := fun _ _ _ => none) (kR := kRI)
    (fun _ _ _ q => nos q)
    (fun _ _ _ q => nos q)
    kRI_ok (Or.inr rfl) (by decide +kernel) (by decide +kernel) hf
theorem kqX10_says_31 : okC mX10_says 31 (.invokevirtual 183) 79 67 0 3 = true := by decide +kernel
def fX10_says_31 (v0 : Nat) (v1 : Int32) (s0 : Int32) (s1 : Nat) (s2 : Nat) (s3 : Nat) (h : aH) : Option (Int32 × aH) :=
  (isO h 1 s3).bind fun _ =>
  (gX1_walk s3 s2 s1 s0 h).bind fun r =>
  fX10_says_34 v0 v1 r
theorem tX10_says_31 {d : Nat} {z : Int32 × aH} (v0 : Nat) (v1 : Int32) (s0 : Int32) (s1 : Nat) (s2 : Nat) (s3 : Nat) (h : aH) (hf : fX10_says_31 v0 v1 s0 s1 s2 s3 h = some z) : Ev (d + 5) none mX10_says (0, 0) 31 [.ref v0, .int v1, .null] [.int s0, .ref s1, .ref s2, .ref s3] h (QI z) := by
  obtain ⟨_, h1, hf⟩ := bnd hf
  obtain ⟨fs, ho⟩ := isO_ok h1
  obtain ⟨r, h2, hf⟩ := bnd hf
  refine ev_V kqX10_says_31 jX1_walk (zX1_walk (d := d + 0) h2) ho rfl rfl (Nat.le_of_ble_eq_true rfl) rfl (as := [.ref s2, .ref s1, .int s0]) (rest := []) rfl (Nat.le_of_ble_eq_true rfl) (fun _ _ hq => ?_)
  obtain ⟨rfl, hh⟩ := hq
  rw [hh]
  exact jm [2, 1, 0] (fun v0 v1 => fX10_says_34 v0 v1 r) (fun v0 v1 q => tX10_says_34 v0 v1 r q) hf
def wX10_says_18 : List En := [(.aload_n 0, 0, 0, 0), (.getfield 19, 163, 10, 1), (.aload_n 0, 0, 0, 0), (.getfield 75, 171, 10, 9), (.aload_n 0, 0, 0, 0), (.getfield 68, 170, 10, 8), (.iload_n 2, 0, 0, 0)]
def fX10_says_18 (v0 : Nat) (v1 : Int32) (v2 : Int32) (h : aH) : Option (Int32 × aH) :=
  (gFR h 10 v0 1).bind fun t1 =>
  (gFR h 10 v0 9).bind fun t2 =>
  (gFR h 10 v0 8).bind fun t3 =>
  fX10_says_31 v0 v1 v2 t3 t2 t1 h
theorem tX10_says_18 {d : Nat} {z : Int32 × aH} (v0 : Nat) (v1 : Int32) (v2 : Int32) (h : aH) (hf : fX10_says_18 v0 v1 v2 h = some z) : Ev (d + 5) none mX10_says (0, 0) 18 [.ref v0, .int v1, .int v2] [] h (QI z) := 
  go_ok (X := none) (blk := wX10_says_18) (np := 31) (tt := 0) (kN := fun xs h st => app [2, 1, 0] (fun v0 v1 => apS [1, 2, 2, 2] (fun s0 s1 s2 s3 => fX10_says_31 v0 v1 s0 s1 s2 s3 h) st) xs) (kT := fun _ _ _ => none) (kR := kRI)
    (fun xs h st q => jm [2, 1, 0] _ (fun v0 v1 q => apS_ok [1, 2, 2, 2] _ (fun st => Ev (d + 5) none mX10_says (0, 0) 31 [.ref v0, .int v1, .null] st h (QI z)) st (fun s0 s1 s2 s3 q => tX10_says_31 v0 v1 s0 s1 s2 s3 h q) q) q)
    (fun _ _ _ q => nos q)
    kRI_ok (Or.inr rfl) (by decide +kernel) (by decide +kernel) hf
def wX10_says_16 : List En := [(.iconst (-1), 0, 0, 0), (.ireturn, 0, 0, 0)]
def fX10_says_16 (h : aH) : Option (Int32 × aH) :=
  some ((kI (-1)), h)
theorem tX10_says_16 {d : Nat} {z : Int32 × aH} (h : aH) (hf : fX10_says_16 h = some z) : Ev (d + 5) none mX10_says (0, 0) 16 [.null, .null, .null] [] h (QI z) := 
  go_ok (X := none) (blk := wX10_says_16) (np := 18) (tt := 0) (kN := fun _ _ _ => none) (kT := fun _ _ _ => none) (kR := kRI)
    (fun _ _ _ q => nos q)
    (fun _ _ _ q => nos q)
    kRI_ok (Or.inr rfl) (by decide +kernel) (by decide +kernel) hf
def wX10_says_13 : List En := [(.ifCond .eq 5, 18, 0, 0)]
def fX10_says_13 (v0 : Nat) (v1 : Int32) (v2 : Int32) (s0 : Int32) (h : aH) : Option (Int32 × aH) :=
  if s0 = 0 then fX10_says_18 v0 v1 v2 h else fX10_says_16 h
theorem tX10_says_13 {d : Nat} {z : Int32 × aH} (v0 : Nat) (v1 : Int32) (v2 : Int32) (s0 : Int32) (h : aH) (hf : fX10_says_13 v0 v1 v2 s0 h = some z) : Ev (d + 5) none mX10_says (0, 0) 13 [.ref v0, .int v1, .int v2] [.int s0] h (QI z) := 
  go_ok (X := none) (blk := wX10_says_13) (np := 16) (tt := 18) (kN := fun xs h st => app [0, 0, 0] (apS [] (fX10_says_16 h) st) xs) (kT := fun xs h st => app [2, 1, 1] (fun v0 v1 v2 => apS [] (fX10_says_18 v0 v1 v2 h) st) xs) (kR := kRI)
    (fun xs h st q => jm [0, 0, 0] _ (fun q => apS_ok [] _ (fun st => Ev (d + 5) none mX10_says (0, 0) 16 [.null, .null, .null] st h (QI z)) st (fun q => tX10_says_16 h q) q) q)
    (fun xs h st q => jm [2, 1, 1] _ (fun v0 v1 v2 q => apS_ok [] _ (fun st => Ev (d + 5) none mX10_says (0, 0) 18 [.ref v0, .int v1, .int v2] st h (QI z)) st (fun q => tX10_says_18 v0 v1 v2 h q) q) q)
    kRI_ok (Or.inr rfl) (by decide +kernel) (by decide +kernel) hf
theorem kqX10_says_10 : okC mX10_says 10 (.invokevirtual 190) 92 87 0 4 = true := by decide +kernel
def fX10_says_10 (v0 : Nat) (v1 : Int32) (v2 : Int32) (s0 : Int32) (s1 : Int32) (s2 : Int32) (s3 : Int32) (s4 : Nat) (h : aH) : Option (Int32 × aH) :=
  (isO h 10 s4).bind fun _ =>
  (gX10_isRefused s4 s3 s2 s1 s0 h).bind fun r =>
  fX10_says_13 v0 v1 v2 r.1 r.2
theorem tX10_says_10 {d : Nat} {z : Int32 × aH} (v0 : Nat) (v1 : Int32) (v2 : Int32) (s0 : Int32) (s1 : Int32) (s2 : Int32) (s3 : Int32) (s4 : Nat) (h : aH) (hf : fX10_says_10 v0 v1 v2 s0 s1 s2 s3 s4 h = some z) : Ev (d + 5) none mX10_says (0, 0) 10 [.ref v0, .int v1, .int v2] [.int s0, .int s1, .int s2, .int s3, .ref s4] h (QI z) := by
  obtain ⟨_, h1, hf⟩ := bnd hf
  obtain ⟨fs, ho⟩ := isO_ok h1
  obtain ⟨r, h2, hf⟩ := bnd hf
  refine ev_V kqX10_says_10 jX10_isRefused (zX10_isRefused (d := d + 3) h2) ho rfl rfl (Nat.le_of_ble_eq_true rfl) rfl (as := [.int s3, .int s2, .int s1, .int s0]) (rest := []) rfl (Nat.le_of_ble_eq_true rfl) (fun _ _ hq => ?_)
  obtain ⟨-, rfl, rfl⟩ := hq
  exact jm [2, 1, 1] (fun v0 v1 v2 => fX10_says_13 v0 v1 v2 r.1 r.2) (fun v0 v1 v2 q => tX10_says_13 v0 v1 v2 r.1 r.2 q) hf
def wX10_says_6 : List En := [(.iload_n 2, 0, 0, 0), (.iconst 0, 0, 0, 0), (.bipush 60, 0, 0, 0)]
def fX10_says_6 (v0 : Nat) (v1 : Int32) (v2 : Int32) (s0 : Int32) (s1 : Nat) (h : aH) : Option (Int32 × aH) :=
  fX10_says_10 v0 v1 v2 (kB 60) (kI 0) v2 s0 s1 h
theorem tX10_says_6 {d : Nat} {z : Int32 × aH} (v0 : Nat) (v1 : Int32) (v2 : Int32) (s0 : Int32) (s1 : Nat) (h : aH) (hf : fX10_says_6 v0 v1 v2 s0 s1 h = some z) : Ev (d + 5) none mX10_says (0, 0) 6 [.ref v0, .int v1, .int v2] [.int s0, .ref s1] h (QI z) := 
  go_ok (X := none) (blk := wX10_says_6) (np := 10) (tt := 0) (kN := fun xs h st => app [2, 1, 1] (fun v0 v1 v2 => apS [1, 1, 1, 1, 2] (fun s0 s1 s2 s3 s4 => fX10_says_10 v0 v1 v2 s0 s1 s2 s3 s4 h) st) xs) (kT := fun _ _ _ => none) (kR := kRI)
    (fun xs h st q => jm [2, 1, 1] _ (fun v0 v1 v2 q => apS_ok [1, 1, 1, 1, 2] _ (fun st => Ev (d + 5) none mX10_says (0, 0) 10 [.ref v0, .int v1, .int v2] st h (QI z)) st (fun s0 s1 s2 s3 s4 q => tX10_says_10 v0 v1 v2 s0 s1 s2 s3 s4 h q) q) q)
    (fun _ _ _ q => nos q)
    kRI_ok (Or.inr rfl) (by decide +kernel) (by decide +kernel) hf
theorem kqX10_says_3 : okC mX10_says 3 (.invokevirtual 128) 64 48 0 1 = true := by decide +kernel
def fX10_says_3 (v0 : Nat) (v1 : Int32) (v2 : Int32) (s0 : Int32) (s1 : Nat) (s2 : Nat) (h : aH) : Option (Int32 × aH) :=
  (isO h 10 s1).bind fun _ =>
  (gX10_lacksPerson s1 s0 h).bind fun r =>
  fX10_says_6 v0 v1 v2 r.1 s2 r.2
theorem tX10_says_3 {d : Nat} {z : Int32 × aH} (v0 : Nat) (v1 : Int32) (v2 : Int32) (s0 : Int32) (s1 : Nat) (s2 : Nat) (h : aH) (hf : fX10_says_3 v0 v1 v2 s0 s1 s2 h = some z) : Ev (d + 5) none mX10_says (0, 0) 3 [.ref v0, .int v1, .int v2] [.int s0, .ref s1, .ref s2] h (QI z) := by
  obtain ⟨_, h1, hf⟩ := bnd hf
  obtain ⟨fs, ho⟩ := isO_ok h1
  obtain ⟨r, h2, hf⟩ := bnd hf
  refine ev_V kqX10_says_3 jX10_lacksPerson (zX10_lacksPerson (d := d + 4) h2) ho rfl rfl (Nat.le_of_ble_eq_true rfl) rfl (as := [.int s0]) (rest := [.ref s2]) rfl (Nat.le_of_ble_eq_true rfl) (fun _ _ hq => ?_)
  obtain ⟨-, rfl, rfl⟩ := hq
  exact jm [2, 1, 1] (fun v0 v1 v2 => fX10_says_6 v0 v1 v2 r.1 s2 r.2) (fun v0 v1 v2 q => tX10_says_6 v0 v1 v2 r.1 s2 r.2 q) hf
def wX10_says_0 : List En := [(.aload_n 0, 0, 0, 0), (.aload_n 0, 0, 0, 0), (.iload_n 1, 0, 0, 0)]
def fX10_says_0 (v0 : Nat) (v1 : Int32) (v2 : Int32) (h : aH) : Option (Int32 × aH) :=
  fX10_says_3 v0 v1 v2 v1 v0 v0 h
theorem tX10_says_0 {d : Nat} {z : Int32 × aH} (v0 : Nat) (v1 : Int32) (v2 : Int32) (h : aH) (hf : fX10_says_0 v0 v1 v2 h = some z) : Ev (d + 5) none mX10_says (0, 0) 0 [.ref v0, .int v1, .int v2] [] h (QI z) := 
  go_ok (X := none) (blk := wX10_says_0) (np := 3) (tt := 0) (kN := fun xs h st => app [2, 1, 1] (fun v0 v1 v2 => apS [1, 2, 2] (fun s0 s1 s2 => fX10_says_3 v0 v1 v2 s0 s1 s2 h) st) xs) (kT := fun _ _ _ => none) (kR := kRI)
    (fun xs h st q => jm [2, 1, 1] _ (fun v0 v1 v2 q => apS_ok [1, 2, 2] _ (fun st => Ev (d + 5) none mX10_says (0, 0) 3 [.ref v0, .int v1, .int v2] st h (QI z)) st (fun s0 s1 s2 q => tX10_says_3 v0 v1 v2 s0 s1 s2 h q) q) q)
    (fun _ _ _ q => nos q)
    kRI_ok (Or.inr rfl) (by decide +kernel) (by decide +kernel) hf
def gX10_says (v0 : Nat) (v1 : Int32) (v2 : Int32) (h : aH) : Option (Int32 × aH) := fX10_says_0 v0 v1 v2 h
theorem zX10_says {d : Nat} {z : Int32 × aH} {v0 : Nat} {v1 : Int32} {v2 : Int32} {h : aH} (q : gX10_says v0 v1 v2 h = some z) : CT (d + 5) mX10_says (0, 0) [.ref v0, .int v1, .int v2] h (QI z) :=
  ct_ev (by decide +kernel) (Nat.le_of_ble_eq_true rfl) QI_r (jm [2, 1, 1] (fun v0 v1 v2 => fX10_says_0 v0 v1 v2 h) (fun v0 v1 v2 q => tX10_says_0 v0 v1 v2 h q) q)
def wX10_firstDish_83 : List En := [(.ireturn, 0, 0, 0)]
def fX10_firstDish_83 (s0 : Int32) (h : aH) : Option (Int32 × aH) :=
  some (s0, h)
theorem tX10_firstDish_83 {d : Nat} {z : Int32 × aH} (s0 : Int32) (h : aH) (hf : fX10_firstDish_83 s0 h = some z) : Ev (d + 4) none mX10_firstDish (0, 0) 83 [.null, .null, .null] [.int s0] h (QI z) := 
  go_ok (X := none) (blk := wX10_firstDish_83) (np := 84) (tt := 0) (kN := fun _ _ _ => none) (kT := fun _ _ _ => none) (kR := kRI)
    (fun _ _ _ q => nos q)
    (fun _ _ _ q => nos q)
    kRI_ok (Or.inr rfl) (by decide +kernel) (by decide +kernel) hf
theorem kqX10_firstDish_80 : okC mX10_firstDish 80 (.invokevirtual 119) 60 44 0 1 = true := by decide +kernel
def fX10_firstDish_80 (s0 : Int32) (s1 : Nat) (h : aH) : Option (Int32 × aH) :=
  (isO h 10 s1).bind fun _ =>
  (gX10_answer s1 s0 h).bind fun r =>
  fX10_firstDish_83 r.1 r.2
theorem tX10_firstDish_80 {d : Nat} {z : Int32 × aH} (s0 : Int32) (s1 : Nat) (h : aH) (hf : fX10_firstDish_80 s0 s1 h = some z) : Ev (d + 4) none mX10_firstDish (0, 0) 80 [.null, .null, .null] [.int s0, .ref s1] h (QI z) := by
  obtain ⟨_, h1, hf⟩ := bnd hf
  obtain ⟨fs, ho⟩ := isO_ok h1
  obtain ⟨r, h2, hf⟩ := bnd hf
  refine ev_V kqX10_firstDish_80 jX10_answer (zX10_answer (d := d + 3) h2) ho rfl rfl (Nat.le_of_ble_eq_true rfl) rfl (as := [.int s0]) (rest := []) rfl (Nat.le_of_ble_eq_true rfl) (fun _ _ hq => ?_)
  obtain ⟨rfl, rfl⟩ := hq
  exact jm [0, 0, 0] (fX10_firstDish_83 r.1 r.2) (fun q => tX10_firstDish_83 r.1 r.2 q) hf
def wX10_firstDish_77 : List En := [(.aload_n 0, 0, 0, 0), (.bipush (-2), 0, 0, 0)]
def fX10_firstDish_77 (v0 : Nat) (h : aH) : Option (Int32 × aH) :=
  fX10_firstDish_80 (kB (-2)) v0 h
theorem tX10_firstDish_77 {d : Nat} {z : Int32 × aH} (v0 : Nat) (h : aH) (hf : fX10_firstDish_77 v0 h = some z) : Ev (d + 4) none mX10_firstDish (0, 0) 77 [.ref v0, .null, .null] [] h (QI z) := 
  go_ok (X := none) (blk := wX10_firstDish_77) (np := 80) (tt := 0) (kN := fun xs h st => app [0, 0, 0] (apS [1, 2] (fun s0 s1 => fX10_firstDish_80 s0 s1 h) st) xs) (kT := fun _ _ _ => none) (kR := kRI)
    (fun xs h st q => jm [0, 0, 0] _ (fun q => apS_ok [1, 2] _ (fun st => Ev (d + 4) none mX10_firstDish (0, 0) 80 [.null, .null, .null] st h (QI z)) st (fun s0 s1 q => tX10_firstDish_80 s0 s1 h q) q) q)
    (fun _ _ _ q => nos q)
    kRI_ok (Or.inr rfl) (by decide +kernel) (by decide +kernel) hf
def wX10_firstDish_71 : List En := [(.iinc 2 1, 0, 0, 0), (.goto (-47), 27, 0, 0)]
def fX10_firstDish_71 (k27 : Nat → Int32 → Int32 → aH → Option (Int32 × aH)) (v0 : Nat) (v1 : Int32) (v2 : Int32) (h : aH) : Option (Int32 × aH) :=
  k27 v0 v1 (v2 + kI 1) h
theorem tX10_firstDish_71 {d : Nat} {z : Int32 × aH} {k27 : Nat → Int32 → Int32 → aH → Option (Int32 × aH)} (hk27 : ∀ (v0 : Nat) (v1 : Int32) (v2 : Int32) (h : aH), k27 v0 v1 v2 h = some z → Ev (d + 4) none mX10_firstDish (0, 0) 27 [.ref v0, .int v1, .int v2] [] h (QI z)) (v0 : Nat) (v1 : Int32) (v2 : Int32) (h : aH) (hf : fX10_firstDish_71 k27 v0 v1 v2 h = some z) : Ev (d + 4) none mX10_firstDish (0, 0) 71 [.ref v0, .int v1, .int v2] [] h (QI z) := 
  go_ok (X := none) (blk := wX10_firstDish_71) (np := 77) (tt := 27) (kN := fun _ _ _ => none) (kT := fun xs h st => app [2, 1, 1] (fun v0 v1 v2 => apS [] (k27 v0 v1 v2 h) st) xs) (kR := kRI)
    (fun _ _ _ q => nos q)
    (fun xs h st q => jm [2, 1, 1] _ (fun v0 v1 v2 q => apS_ok [] _ (fun st => Ev (d + 4) none mX10_firstDish (0, 0) 27 [.ref v0, .int v1, .int v2] st h (QI z)) st (fun q => hk27 v0 v1 v2 h q) q) q)
    kRI_ok (Or.inr rfl) (by decide +kernel) (by decide +kernel) hf
def wX10_firstDish_70 : List En := [(.ireturn, 0, 0, 0)]
def fX10_firstDish_70 (s0 : Int32) (h : aH) : Option (Int32 × aH) :=
  some (s0, h)
theorem tX10_firstDish_70 {d : Nat} {z : Int32 × aH} (s0 : Int32) (h : aH) (hf : fX10_firstDish_70 s0 h = some z) : Ev (d + 4) none mX10_firstDish (0, 0) 70 [.null, .null, .null] [.int s0] h (QI z) := 
  go_ok (X := none) (blk := wX10_firstDish_70) (np := 71) (tt := 0) (kN := fun _ _ _ => none) (kT := fun _ _ _ => none) (kR := kRI)
    (fun _ _ _ q => nos q)
    (fun _ _ _ q => nos q)
    kRI_ok (Or.inr rfl) (by decide +kernel) (by decide +kernel) hf
theorem kqX10_firstDish_67 : okC mX10_firstDish 67 (.invokevirtual 119) 60 44 0 1 = true := by decide +kernel
def fX10_firstDish_67 (s0 : Int32) (s1 : Nat) (h : aH) : Option (Int32 × aH) :=
  (isO h 10 s1).bind fun _ =>
  (gX10_answer s1 s0 h).bind fun r =>
  fX10_firstDish_70 r.1 r.2
theorem tX10_firstDish_67 {d : Nat} {z : Int32 × aH} (s0 : Int32) (s1 : Nat) (h : aH) (hf : fX10_firstDish_67 s0 s1 h = some z) : Ev (d + 4) none mX10_firstDish (0, 0) 67 [.null, .null, .null] [.int s0, .ref s1] h (QI z) := by
  obtain ⟨_, h1, hf⟩ := bnd hf
  obtain ⟨fs, ho⟩ := isO_ok h1
  obtain ⟨r, h2, hf⟩ := bnd hf
  refine ev_V kqX10_firstDish_67 jX10_answer (zX10_answer (d := d + 3) h2) ho rfl rfl (Nat.le_of_ble_eq_true rfl) rfl (as := [.int s0]) (rest := []) rfl (Nat.le_of_ble_eq_true rfl) (fun _ _ hq => ?_)
  obtain ⟨rfl, rfl⟩ := hq
  exact jm [0, 0, 0] (fX10_firstDish_70 r.1 r.2) (fun q => tX10_firstDish_70 r.1 r.2 q) hf
def wX10_firstDish_65 : List En := [(.aload_n 0, 0, 0, 0), (.iload_n 2, 0, 0, 0)]
def fX10_firstDish_65 (v0 : Nat) (v2 : Int32) (h : aH) : Option (Int32 × aH) :=
  fX10_firstDish_67 v2 v0 h
theorem tX10_firstDish_65 {d : Nat} {z : Int32 × aH} (v0 : Nat) (v2 : Int32) (h : aH) (hf : fX10_firstDish_65 v0 v2 h = some z) : Ev (d + 4) none mX10_firstDish (0, 0) 65 [.ref v0, .null, .int v2] [] h (QI z) := 
  go_ok (X := none) (blk := wX10_firstDish_65) (np := 67) (tt := 0) (kN := fun xs h st => app [0, 0, 0] (apS [1, 2] (fun s0 s1 => fX10_firstDish_67 s0 s1 h) st) xs) (kT := fun _ _ _ => none) (kR := kRI)
    (fun xs h st q => jm [0, 0, 0] _ (fun q => apS_ok [1, 2] _ (fun st => Ev (d + 4) none mX10_firstDish (0, 0) 67 [.null, .null, .null] st h (QI z)) st (fun s0 s1 q => tX10_firstDish_67 s0 s1 h q) q) q)
    (fun _ _ _ q => nos q)
    kRI_ok (Or.inr rfl) (by decide +kernel) (by decide +kernel) hf
def wX10_firstDish_51 : List En := [(.aload_n 0, 0, 0, 0), (.getfield 19, 163, 10, 1), (.getfield 201, 50, 1, 1), (.getfield 205, 43, 6, 1), (.iload_n 1, 0, 0, 0), (.if_icmp .ne 9, 71, 0, 0)]
def fX10_firstDish_51 (k27 : Nat → Int32 → Int32 → aH → Option (Int32 × aH)) (v0 : Nat) (v1 : Int32) (v2 : Int32) (h : aH) : Option (Int32 × aH) :=
  (gFR h 10 v0 1).bind fun t1 =>
  (gFR h 1 t1 1).bind fun t2 =>
  (gFI h 6 t2 1).bind fun t3 =>
  if t3 = v1 then fX10_firstDish_65 v0 v2 h else fX10_firstDish_71 k27 v0 v1 v2 h
theorem tX10_firstDish_51 {d : Nat} {z : Int32 × aH} {k27 : Nat → Int32 → Int32 → aH → Option (Int32 × aH)} (hk27 : ∀ (v0 : Nat) (v1 : Int32) (v2 : Int32) (h : aH), k27 v0 v1 v2 h = some z → Ev (d + 4) none mX10_firstDish (0, 0) 27 [.ref v0, .int v1, .int v2] [] h (QI z)) (v0 : Nat) (v1 : Int32) (v2 : Int32) (h : aH) (hf : fX10_firstDish_51 k27 v0 v1 v2 h = some z) : Ev (d + 4) none mX10_firstDish (0, 0) 51 [.ref v0, .int v1, .int v2] [] h (QI z) := 
  go_ok (X := none) (blk := wX10_firstDish_51) (np := 65) (tt := 71) (kN := fun xs h st => app [2, 0, 1] (fun v0 v2 => apS [] (fX10_firstDish_65 v0 v2 h) st) xs) (kT := fun xs h st => app [2, 1, 1] (fun v0 v1 v2 => apS [] (fX10_firstDish_71 k27 v0 v1 v2 h) st) xs) (kR := kRI)
    (fun xs h st q => jm [2, 0, 1] _ (fun v0 v2 q => apS_ok [] _ (fun st => Ev (d + 4) none mX10_firstDish (0, 0) 65 [.ref v0, .null, .int v2] st h (QI z)) st (fun q => tX10_firstDish_65 v0 v2 h q) q) q)
    (fun xs h st q => jm [2, 1, 1] _ (fun v0 v1 v2 q => apS_ok [] _ (fun st => Ev (d + 4) none mX10_firstDish (0, 0) 71 [.ref v0, .int v1, .int v2] st h (QI z)) st (fun q => tX10_firstDish_71 hk27 v0 v1 v2 h q) q) q)
    kRI_ok (Or.inr rfl) (by decide +kernel) (by decide +kernel) hf
theorem kqX10_firstDish_48 : okC mX10_firstDish 48 (.invokevirtual 228) 82 105 0 2 = true := by decide +kernel
def fX10_firstDish_48 (k27 : Nat → Int32 → Int32 → aH → Option (Int32 × aH)) (v0 : Nat) (v1 : Int32) (v2 : Int32) (s0 : Int32) (s1 : Nat) (s2 : Nat) (h : aH) : Option (Int32 × aH) :=
  (isO h 1 s2).bind fun _ =>
  (gX1_pass s2 s1 s0 h).bind fun r =>
  fX10_firstDish_51 k27 v0 v1 v2 r
theorem tX10_firstDish_48 {d : Nat} {z : Int32 × aH} {k27 : Nat → Int32 → Int32 → aH → Option (Int32 × aH)} (hk27 : ∀ (v0 : Nat) (v1 : Int32) (v2 : Int32) (h : aH), k27 v0 v1 v2 h = some z → Ev (d + 4) none mX10_firstDish (0, 0) 27 [.ref v0, .int v1, .int v2] [] h (QI z)) (v0 : Nat) (v1 : Int32) (v2 : Int32) (s0 : Int32) (s1 : Nat) (s2 : Nat) (h : aH) (hf : fX10_firstDish_48 k27 v0 v1 v2 s0 s1 s2 h = some z) : Ev (d + 4) none mX10_firstDish (0, 0) 48 [.ref v0, .int v1, .int v2] [.int s0, .ref s1, .ref s2] h (QI z) := by
  obtain ⟨_, h1, hf⟩ := bnd hf
  obtain ⟨fs, ho⟩ := isO_ok h1
  obtain ⟨r, h2, hf⟩ := bnd hf
  refine ev_V kqX10_firstDish_48 jX1_pass (zX1_pass (d := d + 0) h2) ho rfl rfl (Nat.le_of_ble_eq_true rfl) rfl (as := [.ref s1, .int s0]) (rest := []) rfl (Nat.le_of_ble_eq_true rfl) (fun _ _ hq => ?_)
  obtain ⟨rfl, hh⟩ := hq
  rw [hh]
  exact jm [2, 1, 1] (fun v0 v1 v2 => fX10_firstDish_51 k27 v0 v1 v2 r) (fun v0 v1 v2 q => tX10_firstDish_51 hk27 v0 v1 v2 r q) hf
def wX10_firstDish_33 : List En := [(.aload_n 0, 0, 0, 0), (.getfield 19, 163, 10, 1), (.aload_n 0, 0, 0, 0), (.getfield 75, 171, 10, 9), (.aload_n 0, 0, 0, 0), (.getfield 75, 171, 10, 9), (.getfield 225, 98, 9, 0)]
def fX10_firstDish_33 (k27 : Nat → Int32 → Int32 → aH → Option (Int32 × aH)) (v0 : Nat) (v1 : Int32) (v2 : Int32) (h : aH) : Option (Int32 × aH) :=
  (gFR h 10 v0 1).bind fun t1 =>
  (gFR h 10 v0 9).bind fun t2 =>
  (gFR h 10 v0 9).bind fun t3 =>
  (gFI h 9 t3 0).bind fun t4 =>
  fX10_firstDish_48 k27 v0 v1 v2 t4 t2 t1 h
theorem tX10_firstDish_33 {d : Nat} {z : Int32 × aH} {k27 : Nat → Int32 → Int32 → aH → Option (Int32 × aH)} (hk27 : ∀ (v0 : Nat) (v1 : Int32) (v2 : Int32) (h : aH), k27 v0 v1 v2 h = some z → Ev (d + 4) none mX10_firstDish (0, 0) 27 [.ref v0, .int v1, .int v2] [] h (QI z)) (v0 : Nat) (v1 : Int32) (v2 : Int32) (h : aH) (hf : fX10_firstDish_33 k27 v0 v1 v2 h = some z) : Ev (d + 4) none mX10_firstDish (0, 0) 33 [.ref v0, .int v1, .int v2] [] h (QI z) := 
  go_ok (X := none) (blk := wX10_firstDish_33) (np := 48) (tt := 0) (kN := fun xs h st => app [2, 1, 1] (fun v0 v1 v2 => apS [1, 2, 2] (fun s0 s1 s2 => fX10_firstDish_48 k27 v0 v1 v2 s0 s1 s2 h) st) xs) (kT := fun _ _ _ => none) (kR := kRI)
    (fun xs h st q => jm [2, 1, 1] _ (fun v0 v1 v2 q => apS_ok [1, 2, 2] _ (fun st => Ev (d + 4) none mX10_firstDish (0, 0) 48 [.ref v0, .int v1, .int v2] st h (QI z)) st (fun s0 s1 s2 q => tX10_firstDish_48 hk27 v0 v1 v2 s0 s1 s2 h q) q) q)
    (fun _ _ _ q => nos q)
    kRI_ok (Or.inr rfl) (by decide +kernel) (by decide +kernel) hf
def wX10_firstDish_27 : List En := [(.iload_n 2, 0, 0, 0), (.bipush 60, 0, 0, 0), (.if_icmp .gt 47, 77, 0, 0)]
def fX10_firstDish_27 (k27 : Nat → Int32 → Int32 → aH → Option (Int32 × aH)) (v0 : Nat) (v1 : Int32) (v2 : Int32) (h : aH) : Option (Int32 × aH) :=
  if (kB 60) < v2 then fX10_firstDish_77 v0 h else fX10_firstDish_33 k27 v0 v1 v2 h
theorem tX10_firstDish_27 {d : Nat} {z : Int32 × aH} {k27 : Nat → Int32 → Int32 → aH → Option (Int32 × aH)} (hk27 : ∀ (v0 : Nat) (v1 : Int32) (v2 : Int32) (h : aH), k27 v0 v1 v2 h = some z → Ev (d + 4) none mX10_firstDish (0, 0) 27 [.ref v0, .int v1, .int v2] [] h (QI z)) (v0 : Nat) (v1 : Int32) (v2 : Int32) (h : aH) (hf : fX10_firstDish_27 k27 v0 v1 v2 h = some z) : Ev (d + 4) none mX10_firstDish (0, 0) 27 [.ref v0, .int v1, .int v2] [] h (QI z) := 
  go_ok (X := none) (blk := wX10_firstDish_27) (np := 33) (tt := 77) (kN := fun xs h st => app [2, 1, 1] (fun v0 v1 v2 => apS [] (fX10_firstDish_33 k27 v0 v1 v2 h) st) xs) (kT := fun xs h st => app [2, 0, 0] (fun v0 => apS [] (fX10_firstDish_77 v0 h) st) xs) (kR := kRI)
    (fun xs h st q => jm [2, 1, 1] _ (fun v0 v1 v2 q => apS_ok [] _ (fun st => Ev (d + 4) none mX10_firstDish (0, 0) 33 [.ref v0, .int v1, .int v2] st h (QI z)) st (fun q => tX10_firstDish_33 hk27 v0 v1 v2 h q) q) q)
    (fun xs h st q => jm [2, 0, 0] _ (fun v0 q => apS_ok [] _ (fun st => Ev (d + 4) none mX10_firstDish (0, 0) 77 [.ref v0, .null, .null] st h (QI z)) st (fun q => tX10_firstDish_77 v0 h q) q) q)
    kRI_ok (Or.inr rfl) (by decide +kernel) (by decide +kernel) hf
def lX10_firstDish_27 : Nat → Nat → Int32 → Int32 → aH → Option (Int32 × aH)
  | 0, _, _, _, _ => none
  | n + 1, v0, v1, v2, h => fX10_firstDish_27 (lX10_firstDish_27 n) v0 v1 v2 h
theorem uX10_firstDish_27 {d : Nat} {z : Int32 × aH} : ∀ (n : Nat) (v0 : Nat) (v1 : Int32) (v2 : Int32) (h : aH), lX10_firstDish_27 n v0 v1 v2 h = some z → Ev (d + 4) none mX10_firstDish (0, 0) 27 [.ref v0, .int v1, .int v2] [] h (QI z) := by
  intro n
  induction n with
  | zero => intro _ _ _ _ q; exact nos (show (none : Option (Int32 × aH)) = some z from q)
  | succ n ih => intro v0 v1 v2 h q; exact tX10_firstDish_27 ih v0 v1 v2 h q
def wX10_firstDish_25 : List En := [(.iconst 1, 0, 0, 0), (.istore_n 2, 0, 0, 0)]
def fX10_firstDish_25 (v0 : Nat) (v1 : Int32) (h : aH) : Option (Int32 × aH) :=
  lX10_firstDish_27 FU v0 v1 (kI 1) h
theorem tX10_firstDish_25 {d : Nat} {z : Int32 × aH} (v0 : Nat) (v1 : Int32) (h : aH) (hf : fX10_firstDish_25 v0 v1 h = some z) : Ev (d + 4) none mX10_firstDish (0, 0) 25 [.ref v0, .int v1, .null] [] h (QI z) := 
  go_ok (X := none) (blk := wX10_firstDish_25) (np := 27) (tt := 0) (kN := fun xs h st => app [2, 1, 1] (fun v0 v1 v2 => apS [] (lX10_firstDish_27 FU v0 v1 v2 h) st) xs) (kT := fun _ _ _ => none) (kR := kRI)
    (fun xs h st q => jm [2, 1, 1] _ (fun v0 v1 v2 q => apS_ok [] _ (fun st => Ev (d + 4) none mX10_firstDish (0, 0) 27 [.ref v0, .int v1, .int v2] st h (QI z)) st (fun q => uX10_firstDish_27 FU v0 v1 v2 h q) q) q)
    (fun _ _ _ q => nos q)
    kRI_ok (Or.inr rfl) (by decide +kernel) (by decide +kernel) hf
theorem kqX10_firstDish_22 : okC mX10_firstDish 22 (.invokevirtual 221) 80 104 0 1 = true := by decide +kernel
def fX10_firstDish_22 (v0 : Nat) (v1 : Int32) (s0 : Nat) (s1 : Nat) (h : aH) : Option (Int32 × aH) :=
  (isO h 1 s1).bind fun _ =>
  (gX1_start s1 s0 h).bind fun r =>
  fX10_firstDish_25 v0 v1 r
theorem tX10_firstDish_22 {d : Nat} {z : Int32 × aH} (v0 : Nat) (v1 : Int32) (s0 : Nat) (s1 : Nat) (h : aH) (hf : fX10_firstDish_22 v0 v1 s0 s1 h = some z) : Ev (d + 4) none mX10_firstDish (0, 0) 22 [.ref v0, .int v1, .null] [.ref s0, .ref s1] h (QI z) := by
  obtain ⟨_, h1, hf⟩ := bnd hf
  obtain ⟨fs, ho⟩ := isO_ok h1
  obtain ⟨r, h2, hf⟩ := bnd hf
  refine ev_V kqX10_firstDish_22 jX1_start (zX1_start (d := d + 1) h2) ho rfl rfl (Nat.le_of_ble_eq_true rfl) rfl (as := [.ref s0]) (rest := []) rfl (Nat.le_of_ble_eq_true rfl) (fun _ _ hq => ?_)
  obtain ⟨rfl, hh⟩ := hq
  rw [hh]
  exact jm [2, 1, 0] (fun v0 v1 => fX10_firstDish_25 v0 v1 r) (fun v0 v1 q => tX10_firstDish_25 v0 v1 r q) hf
def wX10_firstDish_14 : List En := [(.aload_n 0, 0, 0, 0), (.getfield 19, 163, 10, 1), (.aload_n 0, 0, 0, 0), (.getfield 68, 170, 10, 8)]
def fX10_firstDish_14 (v0 : Nat) (v1 : Int32) (h : aH) : Option (Int32 × aH) :=
  (gFR h 10 v0 1).bind fun t1 =>
  (gFR h 10 v0 8).bind fun t2 =>
  fX10_firstDish_22 v0 v1 t2 t1 h
theorem tX10_firstDish_14 {d : Nat} {z : Int32 × aH} (v0 : Nat) (v1 : Int32) (h : aH) (hf : fX10_firstDish_14 v0 v1 h = some z) : Ev (d + 4) none mX10_firstDish (0, 0) 14 [.ref v0, .int v1, .null] [] h (QI z) := 
  go_ok (X := none) (blk := wX10_firstDish_14) (np := 22) (tt := 0) (kN := fun xs h st => app [2, 1, 0] (fun v0 v1 => apS [2, 2] (fun s0 s1 => fX10_firstDish_22 v0 v1 s0 s1 h) st) xs) (kT := fun _ _ _ => none) (kR := kRI)
    (fun xs h st q => jm [2, 1, 0] _ (fun v0 v1 q => apS_ok [2, 2] _ (fun st => Ev (d + 4) none mX10_firstDish (0, 0) 22 [.ref v0, .int v1, .null] st h (QI z)) st (fun s0 s1 q => tX10_firstDish_22 v0 v1 s0 s1 h q) q) q)
    (fun _ _ _ q => nos q)
    kRI_ok (Or.inr rfl) (by decide +kernel) (by decide +kernel) hf
def wX10_firstDish_13 : List En := [(.ireturn, 0, 0, 0)]
def fX10_firstDish_13 (s0 : Int32) (h : aH) : Option (Int32 × aH) :=
  some (s0, h)
theorem tX10_firstDish_13 {d : Nat} {z : Int32 × aH} (s0 : Int32) (h : aH) (hf : fX10_firstDish_13 s0 h = some z) : Ev (d + 4) none mX10_firstDish (0, 0) 13 [.null, .null, .null] [.int s0] h (QI z) := 
  go_ok (X := none) (blk := wX10_firstDish_13) (np := 14) (tt := 0) (kN := fun _ _ _ => none) (kT := fun _ _ _ => none) (kR := kRI)
    (fun _ _ _ q => nos q)
    (fun _ _ _ q => nos q)
    kRI_ok (Or.inr rfl) (by decide +kernel) (by decide +kernel) hf
theorem kqX10_firstDish_10 : okC mX10_firstDish 10 (.invokevirtual 94) 15 8 0 1 = true := by decide +kernel
def fX10_firstDish_10 (s0 : Int32) (s1 : Nat) (h : aH) : Option (Int32 × aH) :=
  (isO h 10 s1).bind fun _ =>
  (gX10_refuse s1 s0 h).bind fun r =>
  fX10_firstDish_13 r.1 r.2
theorem tX10_firstDish_10 {d : Nat} {z : Int32 × aH} (s0 : Int32) (s1 : Nat) (h : aH) (hf : fX10_firstDish_10 s0 s1 h = some z) : Ev (d + 4) none mX10_firstDish (0, 0) 10 [.null, .null, .null] [.int s0, .ref s1] h (QI z) := by
  obtain ⟨_, h1, hf⟩ := bnd hf
  obtain ⟨fs, ho⟩ := isO_ok h1
  obtain ⟨r, h2, hf⟩ := bnd hf
  refine ev_V kqX10_firstDish_10 jX10_refuse (zX10_refuse (d := d + 3) h2) ho rfl rfl (Nat.le_of_ble_eq_true rfl) rfl (as := [.int s0]) (rest := []) rfl (Nat.le_of_ble_eq_true rfl) (fun _ _ hq => ?_)
  obtain ⟨rfl, rfl⟩ := hq
  exact jm [0, 0, 0] (fX10_firstDish_13 r.1 r.2) (fun q => tX10_firstDish_13 r.1 r.2 q) hf
def wX10_firstDish_8 : List En := [(.aload_n 0, 0, 0, 0), (.iconst 1, 0, 0, 0)]
def fX10_firstDish_8 (v0 : Nat) (h : aH) : Option (Int32 × aH) :=
  fX10_firstDish_10 (kI 1) v0 h
theorem tX10_firstDish_8 {d : Nat} {z : Int32 × aH} (v0 : Nat) (h : aH) (hf : fX10_firstDish_8 v0 h = some z) : Ev (d + 4) none mX10_firstDish (0, 0) 8 [.ref v0, .null, .null] [] h (QI z) := 
  go_ok (X := none) (blk := wX10_firstDish_8) (np := 10) (tt := 0) (kN := fun xs h st => app [0, 0, 0] (apS [1, 2] (fun s0 s1 => fX10_firstDish_10 s0 s1 h) st) xs) (kT := fun _ _ _ => none) (kR := kRI)
    (fun xs h st q => jm [0, 0, 0] _ (fun q => apS_ok [1, 2] _ (fun st => Ev (d + 4) none mX10_firstDish (0, 0) 10 [.null, .null, .null] st h (QI z)) st (fun s0 s1 q => tX10_firstDish_10 s0 s1 h q) q) q)
    (fun _ _ _ q => nos q)
    kRI_ok (Or.inr rfl) (by decide +kernel) (by decide +kernel) hf
def wX10_firstDish_5 : List En := [(.ifCond .eq 9, 14, 0, 0)]
def fX10_firstDish_5 (v0 : Nat) (v1 : Int32) (s0 : Int32) (h : aH) : Option (Int32 × aH) :=
  if s0 = 0 then fX10_firstDish_14 v0 v1 h else fX10_firstDish_8 v0 h
theorem tX10_firstDish_5 {d : Nat} {z : Int32 × aH} (v0 : Nat) (v1 : Int32) (s0 : Int32) (h : aH) (hf : fX10_firstDish_5 v0 v1 s0 h = some z) : Ev (d + 4) none mX10_firstDish (0, 0) 5 [.ref v0, .int v1, .null] [.int s0] h (QI z) := 
  go_ok (X := none) (blk := wX10_firstDish_5) (np := 8) (tt := 14) (kN := fun xs h st => app [2, 0, 0] (fun v0 => apS [] (fX10_firstDish_8 v0 h) st) xs) (kT := fun xs h st => app [2, 1, 0] (fun v0 v1 => apS [] (fX10_firstDish_14 v0 v1 h) st) xs) (kR := kRI)
    (fun xs h st q => jm [2, 0, 0] _ (fun v0 q => apS_ok [] _ (fun st => Ev (d + 4) none mX10_firstDish (0, 0) 8 [.ref v0, .null, .null] st h (QI z)) st (fun q => tX10_firstDish_8 v0 h q) q) q)
    (fun xs h st q => jm [2, 1, 0] _ (fun v0 v1 q => apS_ok [] _ (fun st => Ev (d + 4) none mX10_firstDish (0, 0) 14 [.ref v0, .int v1, .null] st h (QI z)) st (fun q => tX10_firstDish_14 v0 v1 h q) q) q)
    kRI_ok (Or.inr rfl) (by decide +kernel) (by decide +kernel) hf
theorem kqX10_firstDish_2 : okC mX10_firstDish 2 (.invokevirtual 150) 66 50 0 1 = true := by decide +kernel
def fX10_firstDish_2 (v0 : Nat) (v1 : Int32) (s0 : Int32) (s1 : Nat) (h : aH) : Option (Int32 × aH) :=
  (isO h 10 s1).bind fun _ =>
  (gX10_lacksName s1 s0 h).bind fun r =>
  fX10_firstDish_5 v0 v1 r.1 r.2
theorem tX10_firstDish_2 {d : Nat} {z : Int32 × aH} (v0 : Nat) (v1 : Int32) (s0 : Int32) (s1 : Nat) (h : aH) (hf : fX10_firstDish_2 v0 v1 s0 s1 h = some z) : Ev (d + 4) none mX10_firstDish (0, 0) 2 [.ref v0, .int v1, .null] [.int s0, .ref s1] h (QI z) := by
  obtain ⟨_, h1, hf⟩ := bnd hf
  obtain ⟨fs, ho⟩ := isO_ok h1
  obtain ⟨r, h2, hf⟩ := bnd hf
  refine ev_V kqX10_firstDish_2 jX10_lacksName (zX10_lacksName (d := d + 3) h2) ho rfl rfl (Nat.le_of_ble_eq_true rfl) rfl (as := [.int s0]) (rest := []) rfl (Nat.le_of_ble_eq_true rfl) (fun _ _ hq => ?_)
  obtain ⟨-, rfl, rfl⟩ := hq
  exact jm [2, 1, 0] (fun v0 v1 => fX10_firstDish_5 v0 v1 r.1 r.2) (fun v0 v1 q => tX10_firstDish_5 v0 v1 r.1 r.2 q) hf
def wX10_firstDish_0 : List En := [(.aload_n 0, 0, 0, 0), (.iload_n 1, 0, 0, 0)]
def fX10_firstDish_0 (v0 : Nat) (v1 : Int32) (h : aH) : Option (Int32 × aH) :=
  fX10_firstDish_2 v0 v1 v1 v0 h
theorem tX10_firstDish_0 {d : Nat} {z : Int32 × aH} (v0 : Nat) (v1 : Int32) (h : aH) (hf : fX10_firstDish_0 v0 v1 h = some z) : Ev (d + 4) none mX10_firstDish (0, 0) 0 [.ref v0, .int v1, .null] [] h (QI z) := 
  go_ok (X := none) (blk := wX10_firstDish_0) (np := 2) (tt := 0) (kN := fun xs h st => app [2, 1, 0] (fun v0 v1 => apS [1, 2] (fun s0 s1 => fX10_firstDish_2 v0 v1 s0 s1 h) st) xs) (kT := fun _ _ _ => none) (kR := kRI)
    (fun xs h st q => jm [2, 1, 0] _ (fun v0 v1 q => apS_ok [1, 2] _ (fun st => Ev (d + 4) none mX10_firstDish (0, 0) 2 [.ref v0, .int v1, .null] st h (QI z)) st (fun s0 s1 q => tX10_firstDish_2 v0 v1 s0 s1 h q) q) q)
    (fun _ _ _ q => nos q)
    kRI_ok (Or.inr rfl) (by decide +kernel) (by decide +kernel) hf
def gX10_firstDish (v0 : Nat) (v1 : Int32) (h : aH) : Option (Int32 × aH) := fX10_firstDish_0 v0 v1 h
theorem zX10_firstDish {d : Nat} {z : Int32 × aH} {v0 : Nat} {v1 : Int32} {h : aH} (q : gX10_firstDish v0 v1 h = some z) : CT (d + 4) mX10_firstDish (0, 0) [.ref v0, .int v1] h (QI z) :=
  ct_ev (by decide +kernel) (Nat.le_of_ble_eq_true rfl) QI_r (jm [2, 1, 0] (fun v0 v1 => fX10_firstDish_0 v0 v1 h) (fun v0 v1 q => tX10_firstDish_0 v0 v1 h q) q)
def wX10_named_33 : List En := [(.aload_n 0, 0, 0, 0), (.getfield 19, 163, 10, 1), (.getfield 234, 56, 1, 4), (.ireturn, 0, 0, 0)]
def fX10_named_33 (v0 : Nat) (h : aH) : Option (Int32 × aH) :=
  (gFR h 10 v0 1).bind fun t1 =>
  (gFI h 1 t1 4).bind fun t2 =>
  some (t2, h)
theorem tX10_named_33 {d : Nat} {z : Int32 × aH} (v0 : Nat) (h : aH) (hf : fX10_named_33 v0 h = some z) : Ev (d + 5) none mX10_named (0, 0) 33 [.ref v0, .null] [] h (QI z) := 
  go_ok (X := none) (blk := wX10_named_33) (np := 41) (tt := 0) (kN := fun _ _ _ => none) (kT := fun _ _ _ => none) (kR := kRI)
    (fun _ _ _ q => nos q)
    (fun _ _ _ q => nos q)
    kRI_ok (Or.inr rfl) (by decide +kernel) (by decide +kernel) hf
theorem kqX10_named_30 : okC mX10_named 30 (.invokevirtual 183) 79 67 0 3 = true := by decide +kernel
def fX10_named_30 (v0 : Nat) (s0 : Int32) (s1 : Nat) (s2 : Nat) (s3 : Nat) (h : aH) : Option (Int32 × aH) :=
  (isO h 1 s3).bind fun _ =>
  (gX1_walk s3 s2 s1 s0 h).bind fun r =>
  fX10_named_33 v0 r
theorem tX10_named_30 {d : Nat} {z : Int32 × aH} (v0 : Nat) (s0 : Int32) (s1 : Nat) (s2 : Nat) (s3 : Nat) (h : aH) (hf : fX10_named_30 v0 s0 s1 s2 s3 h = some z) : Ev (d + 5) none mX10_named (0, 0) 30 [.ref v0, .null] [.int s0, .ref s1, .ref s2, .ref s3] h (QI z) := by
  obtain ⟨_, h1, hf⟩ := bnd hf
  obtain ⟨fs, ho⟩ := isO_ok h1
  obtain ⟨r, h2, hf⟩ := bnd hf
  refine ev_V kqX10_named_30 jX1_walk (zX1_walk (d := d + 0) h2) ho rfl rfl (Nat.le_of_ble_eq_true rfl) rfl (as := [.ref s2, .ref s1, .int s0]) (rest := []) rfl (Nat.le_of_ble_eq_true rfl) (fun _ _ hq => ?_)
  obtain ⟨rfl, hh⟩ := hq
  rw [hh]
  exact jm [2, 0] (fun v0 => fX10_named_33 v0 r) (fun v0 q => tX10_named_33 v0 r q) hf
def wX10_named_17 : List En := [(.aload_n 0, 0, 0, 0), (.getfield 19, 163, 10, 1), (.aload_n 0, 0, 0, 0), (.getfield 75, 171, 10, 9), (.aload_n 0, 0, 0, 0), (.getfield 68, 170, 10, 8), (.iload_n 1, 0, 0, 0)]
def fX10_named_17 (v0 : Nat) (v1 : Int32) (h : aH) : Option (Int32 × aH) :=
  (gFR h 10 v0 1).bind fun t1 =>
  (gFR h 10 v0 9).bind fun t2 =>
  (gFR h 10 v0 8).bind fun t3 =>
  fX10_named_30 v0 v1 t3 t2 t1 h
theorem tX10_named_17 {d : Nat} {z : Int32 × aH} (v0 : Nat) (v1 : Int32) (h : aH) (hf : fX10_named_17 v0 v1 h = some z) : Ev (d + 5) none mX10_named (0, 0) 17 [.ref v0, .int v1] [] h (QI z) := 
  go_ok (X := none) (blk := wX10_named_17) (np := 30) (tt := 0) (kN := fun xs h st => app [2, 0] (fun v0 => apS [1, 2, 2, 2] (fun s0 s1 s2 s3 => fX10_named_30 v0 s0 s1 s2 s3 h) st) xs) (kT := fun _ _ _ => none) (kR := kRI)
    (fun xs h st q => jm [2, 0] _ (fun v0 q => apS_ok [1, 2, 2, 2] _ (fun st => Ev (d + 5) none mX10_named (0, 0) 30 [.ref v0, .null] st h (QI z)) st (fun s0 s1 s2 s3 q => tX10_named_30 v0 s0 s1 s2 s3 h q) q) q)
    (fun _ _ _ q => nos q)
    kRI_ok (Or.inr rfl) (by decide +kernel) (by decide +kernel) hf
def wX10_named_15 : List En := [(.iconst (-1), 0, 0, 0), (.ireturn, 0, 0, 0)]
def fX10_named_15 (h : aH) : Option (Int32 × aH) :=
  some ((kI (-1)), h)
theorem tX10_named_15 {d : Nat} {z : Int32 × aH} (h : aH) (hf : fX10_named_15 h = some z) : Ev (d + 5) none mX10_named (0, 0) 15 [.null, .null] [] h (QI z) := 
  go_ok (X := none) (blk := wX10_named_15) (np := 17) (tt := 0) (kN := fun _ _ _ => none) (kT := fun _ _ _ => none) (kR := kRI)
    (fun _ _ _ q => nos q)
    (fun _ _ _ q => nos q)
    kRI_ok (Or.inr rfl) (by decide +kernel) (by decide +kernel) hf
def wX10_named_12 : List En := [(.ifCond .eq 5, 17, 0, 0)]
def fX10_named_12 (v0 : Nat) (v1 : Int32) (s0 : Int32) (h : aH) : Option (Int32 × aH) :=
  if s0 = 0 then fX10_named_17 v0 v1 h else fX10_named_15 h
theorem tX10_named_12 {d : Nat} {z : Int32 × aH} (v0 : Nat) (v1 : Int32) (s0 : Int32) (h : aH) (hf : fX10_named_12 v0 v1 s0 h = some z) : Ev (d + 5) none mX10_named (0, 0) 12 [.ref v0, .int v1] [.int s0] h (QI z) := 
  go_ok (X := none) (blk := wX10_named_12) (np := 15) (tt := 17) (kN := fun xs h st => app [0, 0] (apS [] (fX10_named_15 h) st) xs) (kT := fun xs h st => app [2, 1] (fun v0 v1 => apS [] (fX10_named_17 v0 v1 h) st) xs) (kR := kRI)
    (fun xs h st q => jm [0, 0] _ (fun q => apS_ok [] _ (fun st => Ev (d + 5) none mX10_named (0, 0) 15 [.null, .null] st h (QI z)) st (fun q => tX10_named_15 h q) q) q)
    (fun xs h st q => jm [2, 1] _ (fun v0 v1 q => apS_ok [] _ (fun st => Ev (d + 5) none mX10_named (0, 0) 17 [.ref v0, .int v1] st h (QI z)) st (fun q => tX10_named_17 v0 v1 h q) q) q)
    kRI_ok (Or.inr rfl) (by decide +kernel) (by decide +kernel) hf
theorem kqX10_named_9 : okC mX10_named 9 (.invokevirtual 190) 92 87 0 4 = true := by decide +kernel
def fX10_named_9 (v0 : Nat) (v1 : Int32) (s0 : Int32) (s1 : Int32) (s2 : Int32) (s3 : Int32) (s4 : Nat) (h : aH) : Option (Int32 × aH) :=
  (isO h 10 s4).bind fun _ =>
  (gX10_isRefused s4 s3 s2 s1 s0 h).bind fun r =>
  fX10_named_12 v0 v1 r.1 r.2
theorem tX10_named_9 {d : Nat} {z : Int32 × aH} (v0 : Nat) (v1 : Int32) (s0 : Int32) (s1 : Int32) (s2 : Int32) (s3 : Int32) (s4 : Nat) (h : aH) (hf : fX10_named_9 v0 v1 s0 s1 s2 s3 s4 h = some z) : Ev (d + 5) none mX10_named (0, 0) 9 [.ref v0, .int v1] [.int s0, .int s1, .int s2, .int s3, .ref s4] h (QI z) := by
  obtain ⟨_, h1, hf⟩ := bnd hf
  obtain ⟨fs, ho⟩ := isO_ok h1
  obtain ⟨r, h2, hf⟩ := bnd hf
  refine ev_V kqX10_named_9 jX10_isRefused (zX10_isRefused (d := d + 3) h2) ho rfl rfl (Nat.le_of_ble_eq_true rfl) rfl (as := [.int s3, .int s2, .int s1, .int s0]) (rest := []) rfl (Nat.le_of_ble_eq_true rfl) (fun _ _ hq => ?_)
  obtain ⟨-, rfl, rfl⟩ := hq
  exact jm [2, 1] (fun v0 v1 => fX10_named_12 v0 v1 r.1 r.2) (fun v0 v1 q => tX10_named_12 v0 v1 r.1 r.2 q) hf
def wX10_named_5 : List En := [(.iload_n 1, 0, 0, 0), (.iconst 0, 0, 0, 0), (.bipush 60, 0, 0, 0)]
def fX10_named_5 (v0 : Nat) (v1 : Int32) (s0 : Int32) (s1 : Nat) (h : aH) : Option (Int32 × aH) :=
  fX10_named_9 v0 v1 (kB 60) (kI 0) v1 s0 s1 h
theorem tX10_named_5 {d : Nat} {z : Int32 × aH} (v0 : Nat) (v1 : Int32) (s0 : Int32) (s1 : Nat) (h : aH) (hf : fX10_named_5 v0 v1 s0 s1 h = some z) : Ev (d + 5) none mX10_named (0, 0) 5 [.ref v0, .int v1] [.int s0, .ref s1] h (QI z) := 
  go_ok (X := none) (blk := wX10_named_5) (np := 9) (tt := 0) (kN := fun xs h st => app [2, 1] (fun v0 v1 => apS [1, 1, 1, 1, 2] (fun s0 s1 s2 s3 s4 => fX10_named_9 v0 v1 s0 s1 s2 s3 s4 h) st) xs) (kT := fun _ _ _ => none) (kR := kRI)
    (fun xs h st q => jm [2, 1] _ (fun v0 v1 q => apS_ok [1, 1, 1, 1, 2] _ (fun st => Ev (d + 5) none mX10_named (0, 0) 9 [.ref v0, .int v1] st h (QI z)) st (fun s0 s1 s2 s3 s4 q => tX10_named_9 v0 v1 s0 s1 s2 s3 s4 h q) q) q)
    (fun _ _ _ q => nos q)
    kRI_ok (Or.inr rfl) (by decide +kernel) (by decide +kernel) hf
theorem kqX10_named_2 : okC mX10_named 2 (.invokevirtual 159) 68 52 0 0 = true := by decide +kernel
def fX10_named_2 (v0 : Nat) (v1 : Int32) (s0 : Nat) (s1 : Nat) (h : aH) : Option (Int32 × aH) :=
  (isO h 10 s0).bind fun _ =>
  (gX10_lacksTable s0 h).bind fun r =>
  fX10_named_5 v0 v1 r.1 s1 r.2
theorem tX10_named_2 {d : Nat} {z : Int32 × aH} (v0 : Nat) (v1 : Int32) (s0 : Nat) (s1 : Nat) (h : aH) (hf : fX10_named_2 v0 v1 s0 s1 h = some z) : Ev (d + 5) none mX10_named (0, 0) 2 [.ref v0, .int v1] [.ref s0, .ref s1] h (QI z) := by
  obtain ⟨_, h1, hf⟩ := bnd hf
  obtain ⟨fs, ho⟩ := isO_ok h1
  obtain ⟨r, h2, hf⟩ := bnd hf
  refine ev_V kqX10_named_2 jX10_lacksTable (zX10_lacksTable (d := d + 4) h2) ho rfl rfl (Nat.le_of_ble_eq_true rfl) rfl (as := []) (rest := [.ref s1]) rfl (Nat.le_of_ble_eq_true rfl) (fun _ _ hq => ?_)
  obtain ⟨-, rfl, rfl⟩ := hq
  exact jm [2, 1] (fun v0 v1 => fX10_named_5 v0 v1 r.1 s1 r.2) (fun v0 v1 q => tX10_named_5 v0 v1 r.1 s1 r.2 q) hf
def wX10_named_0 : List En := [(.aload_n 0, 0, 0, 0), (.aload_n 0, 0, 0, 0)]
def fX10_named_0 (v0 : Nat) (v1 : Int32) (h : aH) : Option (Int32 × aH) :=
  fX10_named_2 v0 v1 v0 v0 h
theorem tX10_named_0 {d : Nat} {z : Int32 × aH} (v0 : Nat) (v1 : Int32) (h : aH) (hf : fX10_named_0 v0 v1 h = some z) : Ev (d + 5) none mX10_named (0, 0) 0 [.ref v0, .int v1] [] h (QI z) := 
  go_ok (X := none) (blk := wX10_named_0) (np := 2) (tt := 0) (kN := fun xs h st => app [2, 1] (fun v0 v1 => apS [2, 2] (fun s0 s1 => fX10_named_2 v0 v1 s0 s1 h) st) xs) (kT := fun _ _ _ => none) (kR := kRI)
    (fun xs h st q => jm [2, 1] _ (fun v0 v1 q => apS_ok [2, 2] _ (fun st => Ev (d + 5) none mX10_named (0, 0) 2 [.ref v0, .int v1] st h (QI z)) st (fun s0 s1 q => tX10_named_2 v0 v1 s0 s1 h q) q) q)
    (fun _ _ _ q => nos q)
    kRI_ok (Or.inr rfl) (by decide +kernel) (by decide +kernel) hf
def gX10_named (v0 : Nat) (v1 : Int32) (h : aH) : Option (Int32 × aH) := fX10_named_0 v0 v1 h
theorem zX10_named {d : Nat} {z : Int32 × aH} {v0 : Nat} {v1 : Int32} {h : aH} (q : gX10_named v0 v1 h = some z) : CT (d + 5) mX10_named (0, 0) [.ref v0, .int v1] h (QI z) :=
  ct_ev (by decide +kernel) (Nat.le_of_ble_eq_true rfl) QI_r (jm [2, 1] (fun v0 v1 => fX10_named_0 v0 v1 h) (fun v0 v1 q => tX10_named_0 v0 v1 h q) q)
def wX10_worthIn_33 : List En := [(.aload_n 0, 0, 0, 0), (.getfield 19, 163, 10, 1), (.getfield 237, 58, 1, 5), (.ireturn, 0, 0, 0)]
def fX10_worthIn_33 (v0 : Nat) (h : aH) : Option (Int32 × aH) :=
  (gFR h 10 v0 1).bind fun t1 =>
  (gFI h 1 t1 5).bind fun t2 =>
  some (t2, h)
theorem tX10_worthIn_33 {d : Nat} {z : Int32 × aH} (v0 : Nat) (h : aH) (hf : fX10_worthIn_33 v0 h = some z) : Ev (d + 5) none mX10_worthIn (0, 0) 33 [.ref v0, .null] [] h (QI z) := 
  go_ok (X := none) (blk := wX10_worthIn_33) (np := 41) (tt := 0) (kN := fun _ _ _ => none) (kT := fun _ _ _ => none) (kR := kRI)
    (fun _ _ _ q => nos q)
    (fun _ _ _ q => nos q)
    kRI_ok (Or.inr rfl) (by decide +kernel) (by decide +kernel) hf
theorem kqX10_worthIn_30 : okC mX10_worthIn 30 (.invokevirtual 183) 79 67 0 3 = true := by decide +kernel
def fX10_worthIn_30 (v0 : Nat) (s0 : Int32) (s1 : Nat) (s2 : Nat) (s3 : Nat) (h : aH) : Option (Int32 × aH) :=
  (isO h 1 s3).bind fun _ =>
  (gX1_walk s3 s2 s1 s0 h).bind fun r =>
  fX10_worthIn_33 v0 r
theorem tX10_worthIn_30 {d : Nat} {z : Int32 × aH} (v0 : Nat) (s0 : Int32) (s1 : Nat) (s2 : Nat) (s3 : Nat) (h : aH) (hf : fX10_worthIn_30 v0 s0 s1 s2 s3 h = some z) : Ev (d + 5) none mX10_worthIn (0, 0) 30 [.ref v0, .null] [.int s0, .ref s1, .ref s2, .ref s3] h (QI z) := by
  obtain ⟨_, h1, hf⟩ := bnd hf
  obtain ⟨fs, ho⟩ := isO_ok h1
  obtain ⟨r, h2, hf⟩ := bnd hf
  refine ev_V kqX10_worthIn_30 jX1_walk (zX1_walk (d := d + 0) h2) ho rfl rfl (Nat.le_of_ble_eq_true rfl) rfl (as := [.ref s2, .ref s1, .int s0]) (rest := []) rfl (Nat.le_of_ble_eq_true rfl) (fun _ _ hq => ?_)
  obtain ⟨rfl, hh⟩ := hq
  rw [hh]
  exact jm [2, 0] (fun v0 => fX10_worthIn_33 v0 r) (fun v0 q => tX10_worthIn_33 v0 r q) hf
def wX10_worthIn_17 : List En := [(.aload_n 0, 0, 0, 0), (.getfield 19, 163, 10, 1), (.aload_n 0, 0, 0, 0), (.getfield 75, 171, 10, 9), (.aload_n 0, 0, 0, 0), (.getfield 68, 170, 10, 8), (.iload_n 1, 0, 0, 0)]
def fX10_worthIn_17 (v0 : Nat) (v1 : Int32) (h : aH) : Option (Int32 × aH) :=
  (gFR h 10 v0 1).bind fun t1 =>
  (gFR h 10 v0 9).bind fun t2 =>
  (gFR h 10 v0 8).bind fun t3 =>
  fX10_worthIn_30 v0 v1 t3 t2 t1 h
theorem tX10_worthIn_17 {d : Nat} {z : Int32 × aH} (v0 : Nat) (v1 : Int32) (h : aH) (hf : fX10_worthIn_17 v0 v1 h = some z) : Ev (d + 5) none mX10_worthIn (0, 0) 17 [.ref v0, .int v1] [] h (QI z) := 
  go_ok (X := none) (blk := wX10_worthIn_17) (np := 30) (tt := 0) (kN := fun xs h st => app [2, 0] (fun v0 => apS [1, 2, 2, 2] (fun s0 s1 s2 s3 => fX10_worthIn_30 v0 s0 s1 s2 s3 h) st) xs) (kT := fun _ _ _ => none) (kR := kRI)
    (fun xs h st q => jm [2, 0] _ (fun v0 q => apS_ok [1, 2, 2, 2] _ (fun st => Ev (d + 5) none mX10_worthIn (0, 0) 30 [.ref v0, .null] st h (QI z)) st (fun s0 s1 s2 s3 q => tX10_worthIn_30 v0 s0 s1 s2 s3 h q) q) q)
    (fun _ _ _ q => nos q)
    kRI_ok (Or.inr rfl) (by decide +kernel) (by decide +kernel) hf
def wX10_worthIn_15 : List En := [(.iconst (-1), 0, 0, 0), (.ireturn, 0, 0, 0)]
def fX10_worthIn_15 (h : aH) : Option (Int32 × aH) :=
  some ((kI (-1)), h)
theorem tX10_worthIn_15 {d : Nat} {z : Int32 × aH} (h : aH) (hf : fX10_worthIn_15 h = some z) : Ev (d + 5) none mX10_worthIn (0, 0) 15 [.null, .null] [] h (QI z) := 
  go_ok (X := none) (blk := wX10_worthIn_15) (np := 17) (tt := 0) (kN := fun _ _ _ => none) (kT := fun _ _ _ => none) (kR := kRI)
    (fun _ _ _ q => nos q)
    (fun _ _ _ q => nos q)
    kRI_ok (Or.inr rfl) (by decide +kernel) (by decide +kernel) hf
def wX10_worthIn_12 : List En := [(.ifCond .eq 5, 17, 0, 0)]
def fX10_worthIn_12 (v0 : Nat) (v1 : Int32) (s0 : Int32) (h : aH) : Option (Int32 × aH) :=
  if s0 = 0 then fX10_worthIn_17 v0 v1 h else fX10_worthIn_15 h
theorem tX10_worthIn_12 {d : Nat} {z : Int32 × aH} (v0 : Nat) (v1 : Int32) (s0 : Int32) (h : aH) (hf : fX10_worthIn_12 v0 v1 s0 h = some z) : Ev (d + 5) none mX10_worthIn (0, 0) 12 [.ref v0, .int v1] [.int s0] h (QI z) := 
  go_ok (X := none) (blk := wX10_worthIn_12) (np := 15) (tt := 17) (kN := fun xs h st => app [0, 0] (apS [] (fX10_worthIn_15 h) st) xs) (kT := fun xs h st => app [2, 1] (fun v0 v1 => apS [] (fX10_worthIn_17 v0 v1 h) st) xs) (kR := kRI)
    (fun xs h st q => jm [0, 0] _ (fun q => apS_ok [] _ (fun st => Ev (d + 5) none mX10_worthIn (0, 0) 15 [.null, .null] st h (QI z)) st (fun q => tX10_worthIn_15 h q) q) q)
    (fun xs h st q => jm [2, 1] _ (fun v0 v1 q => apS_ok [] _ (fun st => Ev (d + 5) none mX10_worthIn (0, 0) 17 [.ref v0, .int v1] st h (QI z)) st (fun q => tX10_worthIn_17 v0 v1 h q) q) q)
    kRI_ok (Or.inr rfl) (by decide +kernel) (by decide +kernel) hf
theorem kqX10_worthIn_9 : okC mX10_worthIn 9 (.invokevirtual 190) 92 87 0 4 = true := by decide +kernel
def fX10_worthIn_9 (v0 : Nat) (v1 : Int32) (s0 : Int32) (s1 : Int32) (s2 : Int32) (s3 : Int32) (s4 : Nat) (h : aH) : Option (Int32 × aH) :=
  (isO h 10 s4).bind fun _ =>
  (gX10_isRefused s4 s3 s2 s1 s0 h).bind fun r =>
  fX10_worthIn_12 v0 v1 r.1 r.2
theorem tX10_worthIn_9 {d : Nat} {z : Int32 × aH} (v0 : Nat) (v1 : Int32) (s0 : Int32) (s1 : Int32) (s2 : Int32) (s3 : Int32) (s4 : Nat) (h : aH) (hf : fX10_worthIn_9 v0 v1 s0 s1 s2 s3 s4 h = some z) : Ev (d + 5) none mX10_worthIn (0, 0) 9 [.ref v0, .int v1] [.int s0, .int s1, .int s2, .int s3, .ref s4] h (QI z) := by
  obtain ⟨_, h1, hf⟩ := bnd hf
  obtain ⟨fs, ho⟩ := isO_ok h1
  obtain ⟨r, h2, hf⟩ := bnd hf
  refine ev_V kqX10_worthIn_9 jX10_isRefused (zX10_isRefused (d := d + 3) h2) ho rfl rfl (Nat.le_of_ble_eq_true rfl) rfl (as := [.int s3, .int s2, .int s1, .int s0]) (rest := []) rfl (Nat.le_of_ble_eq_true rfl) (fun _ _ hq => ?_)
  obtain ⟨-, rfl, rfl⟩ := hq
  exact jm [2, 1] (fun v0 v1 => fX10_worthIn_12 v0 v1 r.1 r.2) (fun v0 v1 q => tX10_worthIn_12 v0 v1 r.1 r.2 q) hf
def wX10_worthIn_5 : List En := [(.iload_n 1, 0, 0, 0), (.iconst 0, 0, 0, 0), (.bipush 60, 0, 0, 0)]
def fX10_worthIn_5 (v0 : Nat) (v1 : Int32) (s0 : Int32) (s1 : Nat) (h : aH) : Option (Int32 × aH) :=
  fX10_worthIn_9 v0 v1 (kB 60) (kI 0) v1 s0 s1 h
theorem tX10_worthIn_5 {d : Nat} {z : Int32 × aH} (v0 : Nat) (v1 : Int32) (s0 : Int32) (s1 : Nat) (h : aH) (hf : fX10_worthIn_5 v0 v1 s0 s1 h = some z) : Ev (d + 5) none mX10_worthIn (0, 0) 5 [.ref v0, .int v1] [.int s0, .ref s1] h (QI z) := 
  go_ok (X := none) (blk := wX10_worthIn_5) (np := 9) (tt := 0) (kN := fun xs h st => app [2, 1] (fun v0 v1 => apS [1, 1, 1, 1, 2] (fun s0 s1 s2 s3 s4 => fX10_worthIn_9 v0 v1 s0 s1 s2 s3 s4 h) st) xs) (kT := fun _ _ _ => none) (kR := kRI)
    (fun xs h st q => jm [2, 1] _ (fun v0 v1 q => apS_ok [1, 1, 1, 1, 2] _ (fun st => Ev (d + 5) none mX10_worthIn (0, 0) 9 [.ref v0, .int v1] st h (QI z)) st (fun s0 s1 s2 s3 s4 q => tX10_worthIn_9 v0 v1 s0 s1 s2 s3 s4 h q) q) q)
    (fun _ _ _ q => nos q)
    kRI_ok (Or.inr rfl) (by decide +kernel) (by decide +kernel) hf
theorem kqX10_worthIn_2 : okC mX10_worthIn 2 (.invokevirtual 159) 68 52 0 0 = true := by decide +kernel
def fX10_worthIn_2 (v0 : Nat) (v1 : Int32) (s0 : Nat) (s1 : Nat) (h : aH) : Option (Int32 × aH) :=
  (isO h 10 s0).bind fun _ =>
  (gX10_lacksTable s0 h).bind fun r =>
  fX10_worthIn_5 v0 v1 r.1 s1 r.2
theorem tX10_worthIn_2 {d : Nat} {z : Int32 × aH} (v0 : Nat) (v1 : Int32) (s0 : Nat) (s1 : Nat) (h : aH) (hf : fX10_worthIn_2 v0 v1 s0 s1 h = some z) : Ev (d + 5) none mX10_worthIn (0, 0) 2 [.ref v0, .int v1] [.ref s0, .ref s1] h (QI z) := by
  obtain ⟨_, h1, hf⟩ := bnd hf
  obtain ⟨fs, ho⟩ := isO_ok h1
  obtain ⟨r, h2, hf⟩ := bnd hf
  refine ev_V kqX10_worthIn_2 jX10_lacksTable (zX10_lacksTable (d := d + 4) h2) ho rfl rfl (Nat.le_of_ble_eq_true rfl) rfl (as := []) (rest := [.ref s1]) rfl (Nat.le_of_ble_eq_true rfl) (fun _ _ hq => ?_)
  obtain ⟨-, rfl, rfl⟩ := hq
  exact jm [2, 1] (fun v0 v1 => fX10_worthIn_5 v0 v1 r.1 s1 r.2) (fun v0 v1 q => tX10_worthIn_5 v0 v1 r.1 s1 r.2 q) hf
def wX10_worthIn_0 : List En := [(.aload_n 0, 0, 0, 0), (.aload_n 0, 0, 0, 0)]
def fX10_worthIn_0 (v0 : Nat) (v1 : Int32) (h : aH) : Option (Int32 × aH) :=
  fX10_worthIn_2 v0 v1 v0 v0 h
theorem tX10_worthIn_0 {d : Nat} {z : Int32 × aH} (v0 : Nat) (v1 : Int32) (h : aH) (hf : fX10_worthIn_0 v0 v1 h = some z) : Ev (d + 5) none mX10_worthIn (0, 0) 0 [.ref v0, .int v1] [] h (QI z) := 
  go_ok (X := none) (blk := wX10_worthIn_0) (np := 2) (tt := 0) (kN := fun xs h st => app [2, 1] (fun v0 v1 => apS [2, 2] (fun s0 s1 => fX10_worthIn_2 v0 v1 s0 s1 h) st) xs) (kT := fun _ _ _ => none) (kR := kRI)
    (fun xs h st q => jm [2, 1] _ (fun v0 v1 q => apS_ok [2, 2] _ (fun st => Ev (d + 5) none mX10_worthIn (0, 0) 2 [.ref v0, .int v1] st h (QI z)) st (fun s0 s1 q => tX10_worthIn_2 v0 v1 s0 s1 h q) q) q)
    (fun _ _ _ q => nos q)
    kRI_ok (Or.inr rfl) (by decide +kernel) (by decide +kernel) hf
def gX10_worthIn (v0 : Nat) (v1 : Int32) (h : aH) : Option (Int32 × aH) := fX10_worthIn_0 v0 v1 h
theorem zX10_worthIn {d : Nat} {z : Int32 × aH} {v0 : Nat} {v1 : Int32} {h : aH} (q : gX10_worthIn v0 v1 h = some z) : CT (d + 5) mX10_worthIn (0, 0) [.ref v0, .int v1] h (QI z) :=
  ct_ev (by decide +kernel) (Nat.le_of_ble_eq_true rfl) QI_r (jm [2, 1] (fun v0 v1 => fX10_worthIn_0 v0 v1 h) (fun v0 v1 q => tX10_worthIn_0 v0 v1 h q) q)
end
