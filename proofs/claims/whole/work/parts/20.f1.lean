noncomputable section
def wX11_thrown_0 : List En := [(.aload_n 0, 0, 0, 0), (.getfield 53, 175, 11, 0), (.ireturn, 0, 0, 0)]
def fX11_thrown_0 (v0 : Nat) (h : aH) : Option (Int32 × aH) :=
  (gFI h 11 v0 0).bind fun t1 =>
  some (t1, h)
theorem tX11_thrown_0 {d : Nat} {z : Int32 × aH} (v0 : Nat) (h : aH) (hf : fX11_thrown_0 v0 h = some z) : Ev (d + 0) none mX11_thrown (0, 0) 0 [.ref v0] [] h (QI z) := 
  go_ok (X := none) (blk := wX11_thrown_0) (np := 5) (tt := 0) (kN := fun _ _ _ => none) (kT := fun _ _ _ => none) (kR := kRI)
    (fun _ _ _ q => nos q)
    (fun _ _ _ q => nos q)
    kRI_ok (Or.inr rfl) (by decide +kernel) (by decide +kernel) hf
def gX11_thrown (v0 : Nat) (h : aH) : Option (Int32 × aH) := fX11_thrown_0 v0 h
theorem zX11_thrown {d : Nat} {z : Int32 × aH} {v0 : Nat} {h : aH} (q : gX11_thrown v0 h = some z) : CT (d + 0) mX11_thrown (0, 0) [.ref v0] h (QI z) :=
  ct_ev (by decide +kernel) (Nat.le_of_ble_eq_true rfl) QI_r (jm [2] (fun v0 => fX11_thrown_0 v0 h) (fun v0 q => tX11_thrown_0 v0 h q) q)
def wX11_feed_120 : List En := [(.aload_n 0, 0, 0, 0), (.getfield 59, 177, 11, 2), (.ireturn, 0, 0, 0)]
def fX11_feed_120 (v0 : Nat) (h : aH) : Option (Int32 × aH) :=
  (gFI h 11 v0 2).bind fun t1 =>
  some (t1, h)
theorem tX11_feed_120 {d : Nat} {z : Int32 × aH} (v0 : Nat) (h : aH) (hf : fX11_feed_120 v0 h = some z) : Ev (d + 0) none mX11_feed (0, 0) 120 [.ref v0, .null, .null, .null, .null, .null, .null, .null] [] h (QI z) := 
  go_ok (X := none) (blk := wX11_feed_120) (np := 125) (tt := 0) (kN := fun _ _ _ => none) (kT := fun _ _ _ => none) (kR := kRI)
    (fun _ _ _ q => nos q)
    (fun _ _ _ q => nos q)
    kRI_ok (Or.inr rfl) (by decide +kernel) (by decide +kernel) hf
def wX11_feed_76 : List En := [(.istore 7, 0, 0, 0), (.aload_n 0, 0, 0, 0), (.getfield 7, 176, 11, 1), (.aload_n 0, 0, 0, 0), (.getfield 59, 177, 11, 2), (.iload 7, 0, 0, 0), (.bipush 24, 0, 0, 0), (.bipush 8, 0, 0, 0), (.iload 6, 0, 0, 0), (.iconst 4, 0, 0, 0), (.irem, 0, 0, 0), (.imul, 0, 0, 0), (.isub, 0, 0, 0), (.ishr, 0, 0, 0), (.sipush 255, 0, 0, 0), (.iand, 0, 0, 0), (.iastore, 0, 0, 0), (.aload_n 0, 0, 0, 0), (.dup, 0, 0, 0), (.getfield 59, 177, 11, 2), (.iconst 1, 0, 0, 0), (.iadd, 0, 0, 0), (.putfield 59, 177, 11, 2), (.iinc 6 1, 0, 0, 0), (.goto (-94), 23, 0, 0)]
def fX11_feed_76 (k23 : Nat → Int32 → Int32 → Int32 → Int32 → Int32 → Int32 → aH → Option (Int32 × aH)) (v0 : Nat) (v1 : Int32) (v2 : Int32) (v3 : Int32) (v4 : Int32) (v5 : Int32) (v6 : Int32) (s0 : Int32) (h : aH) : Option (Int32 × aH) :=
  (gFR h 11 v0 1).bind fun t1 =>
  (gFI h 11 v0 2).bind fun t2 =>
  if (kI 4) = 0 then none else
  (aWI h t1 t2 ((s0 >>> (((kB 24) - ((kB 8) * (v6 - v6 / (kI 4) * (kI 4)))) &&& 31)) &&& (kS 255))).bind fun h3 =>
  (gFI h3 11 v0 2).bind fun t4 =>
  (pWV h3 11 v0 2 (.int (t4 + (kI 1)))).bind fun h5 =>
  k23 v0 v1 v2 v3 v4 v5 (v6 + kI 1) h5
theorem tX11_feed_76 {d : Nat} {z : Int32 × aH} {k23 : Nat → Int32 → Int32 → Int32 → Int32 → Int32 → Int32 → aH → Option (Int32 × aH)} (hk23 : ∀ (v0 : Nat) (v1 : Int32) (v2 : Int32) (v3 : Int32) (v4 : Int32) (v5 : Int32) (v6 : Int32) (h : aH), k23 v0 v1 v2 v3 v4 v5 v6 h = some z → Ev (d + 0) none mX11_feed (0, 0) 23 [.ref v0, .int v1, .int v2, .int v3, .int v4, .int v5, .int v6, .null] [] h (QI z)) (v0 : Nat) (v1 : Int32) (v2 : Int32) (v3 : Int32) (v4 : Int32) (v5 : Int32) (v6 : Int32) (s0 : Int32) (h : aH) (hf : fX11_feed_76 k23 v0 v1 v2 v3 v4 v5 v6 s0 h = some z) : Ev (d + 0) none mX11_feed (0, 0) 76 [.ref v0, .int v1, .int v2, .int v3, .int v4, .int v5, .int v6, .null] [.int s0] h (QI z) := 
  go_ok (X := none) (blk := wX11_feed_76) (np := 120) (tt := 23) (kN := fun _ _ _ => none) (kT := fun xs h st => app [2, 1, 1, 1, 1, 1, 1, 0] (fun v0 v1 v2 v3 v4 v5 v6 => apS [] (k23 v0 v1 v2 v3 v4 v5 v6 h) st) xs) (kR := kRI)
    (fun _ _ _ q => nos q)
    (fun xs h st q => jm [2, 1, 1, 1, 1, 1, 1, 0] _ (fun v0 v1 v2 v3 v4 v5 v6 q => apS_ok [] _ (fun st => Ev (d + 0) none mX11_feed (0, 0) 23 [.ref v0, .int v1, .int v2, .int v3, .int v4, .int v5, .int v6, .null] st h (QI z)) st (fun q => hk23 v0 v1 v2 v3 v4 v5 v6 h q) q) q)
    kRI_ok (Or.inr rfl) (by decide +kernel) (by decide +kernel) hf
def wX11_feed_74 : List En := [(.iload 5, 0, 0, 0)]
def fX11_feed_74 (k23 : Nat → Int32 → Int32 → Int32 → Int32 → Int32 → Int32 → aH → Option (Int32 × aH)) (v0 : Nat) (v1 : Int32) (v2 : Int32) (v3 : Int32) (v4 : Int32) (v5 : Int32) (v6 : Int32) (h : aH) : Option (Int32 × aH) :=
  fX11_feed_76 k23 v0 v1 v2 v3 v4 v5 v6 v5 h
theorem tX11_feed_74 {d : Nat} {z : Int32 × aH} {k23 : Nat → Int32 → Int32 → Int32 → Int32 → Int32 → Int32 → aH → Option (Int32 × aH)} (hk23 : ∀ (v0 : Nat) (v1 : Int32) (v2 : Int32) (v3 : Int32) (v4 : Int32) (v5 : Int32) (v6 : Int32) (h : aH), k23 v0 v1 v2 v3 v4 v5 v6 h = some z → Ev (d + 0) none mX11_feed (0, 0) 23 [.ref v0, .int v1, .int v2, .int v3, .int v4, .int v5, .int v6, .null] [] h (QI z)) (v0 : Nat) (v1 : Int32) (v2 : Int32) (v3 : Int32) (v4 : Int32) (v5 : Int32) (v6 : Int32) (h : aH) (hf : fX11_feed_74 k23 v0 v1 v2 v3 v4 v5 v6 h = some z) : Ev (d + 0) none mX11_feed (0, 0) 74 [.ref v0, .int v1, .int v2, .int v3, .int v4, .int v5, .int v6, .null] [] h (QI z) := 
  go_ok (X := none) (blk := wX11_feed_74) (np := 76) (tt := 0) (kN := fun xs h st => app [2, 1, 1, 1, 1, 1, 1, 0] (fun v0 v1 v2 v3 v4 v5 v6 => apS [1] (fun s0 => fX11_feed_76 k23 v0 v1 v2 v3 v4 v5 v6 s0 h) st) xs) (kT := fun _ _ _ => none) (kR := kRI)
    (fun xs h st q => jm [2, 1, 1, 1, 1, 1, 1, 0] _ (fun v0 v1 v2 v3 v4 v5 v6 q => apS_ok [1] _ (fun st => Ev (d + 0) none mX11_feed (0, 0) 76 [.ref v0, .int v1, .int v2, .int v3, .int v4, .int v5, .int v6, .null] st h (QI z)) st (fun s0 q => tX11_feed_76 hk23 v0 v1 v2 v3 v4 v5 v6 s0 h q) q) q)
    (fun _ _ _ q => nos q)
    kRI_ok (Or.inr rfl) (by decide +kernel) (by decide +kernel) hf
def wX11_feed_69 : List En := [(.iload 4, 0, 0, 0), (.goto 5, 76, 0, 0)]
def fX11_feed_69 (k23 : Nat → Int32 → Int32 → Int32 → Int32 → Int32 → Int32 → aH → Option (Int32 × aH)) (v0 : Nat) (v1 : Int32) (v2 : Int32) (v3 : Int32) (v4 : Int32) (v5 : Int32) (v6 : Int32) (h : aH) : Option (Int32 × aH) :=
  fX11_feed_76 k23 v0 v1 v2 v3 v4 v5 v6 v4 h
theorem tX11_feed_69 {d : Nat} {z : Int32 × aH} {k23 : Nat → Int32 → Int32 → Int32 → Int32 → Int32 → Int32 → aH → Option (Int32 × aH)} (hk23 : ∀ (v0 : Nat) (v1 : Int32) (v2 : Int32) (v3 : Int32) (v4 : Int32) (v5 : Int32) (v6 : Int32) (h : aH), k23 v0 v1 v2 v3 v4 v5 v6 h = some z → Ev (d + 0) none mX11_feed (0, 0) 23 [.ref v0, .int v1, .int v2, .int v3, .int v4, .int v5, .int v6, .null] [] h (QI z)) (v0 : Nat) (v1 : Int32) (v2 : Int32) (v3 : Int32) (v4 : Int32) (v5 : Int32) (v6 : Int32) (h : aH) (hf : fX11_feed_69 k23 v0 v1 v2 v3 v4 v5 v6 h = some z) : Ev (d + 0) none mX11_feed (0, 0) 69 [.ref v0, .int v1, .int v2, .int v3, .int v4, .int v5, .int v6, .null] [] h (QI z) := 
  go_ok (X := none) (blk := wX11_feed_69) (np := 74) (tt := 76) (kN := fun _ _ _ => none) (kT := fun xs h st => app [2, 1, 1, 1, 1, 1, 1, 0] (fun v0 v1 v2 v3 v4 v5 v6 => apS [1] (fun s0 => fX11_feed_76 k23 v0 v1 v2 v3 v4 v5 v6 s0 h) st) xs) (kR := kRI)
    (fun _ _ _ q => nos q)
    (fun xs h st q => jm [2, 1, 1, 1, 1, 1, 1, 0] _ (fun v0 v1 v2 v3 v4 v5 v6 q => apS_ok [1] _ (fun st => Ev (d + 0) none mX11_feed (0, 0) 76 [.ref v0, .int v1, .int v2, .int v3, .int v4, .int v5, .int v6, .null] st h (QI z)) st (fun s0 q => tX11_feed_76 hk23 v0 v1 v2 v3 v4 v5 v6 s0 h q) q) q)
    kRI_ok (Or.inr rfl) (by decide +kernel) (by decide +kernel) hf
def wX11_feed_62 : List En := [(.iload 6, 0, 0, 0), (.bipush 16, 0, 0, 0), (.if_icmp .ge 8, 74, 0, 0)]
def fX11_feed_62 (k23 : Nat → Int32 → Int32 → Int32 → Int32 → Int32 → Int32 → aH → Option (Int32 × aH)) (v0 : Nat) (v1 : Int32) (v2 : Int32) (v3 : Int32) (v4 : Int32) (v5 : Int32) (v6 : Int32) (h : aH) : Option (Int32 × aH) :=
  if v6 < (kB 16) then fX11_feed_69 k23 v0 v1 v2 v3 v4 v5 v6 h else fX11_feed_74 k23 v0 v1 v2 v3 v4 v5 v6 h
theorem tX11_feed_62 {d : Nat} {z : Int32 × aH} {k23 : Nat → Int32 → Int32 → Int32 → Int32 → Int32 → Int32 → aH → Option (Int32 × aH)} (hk23 : ∀ (v0 : Nat) (v1 : Int32) (v2 : Int32) (v3 : Int32) (v4 : Int32) (v5 : Int32) (v6 : Int32) (h : aH), k23 v0 v1 v2 v3 v4 v5 v6 h = some z → Ev (d + 0) none mX11_feed (0, 0) 23 [.ref v0, .int v1, .int v2, .int v3, .int v4, .int v5, .int v6, .null] [] h (QI z)) (v0 : Nat) (v1 : Int32) (v2 : Int32) (v3 : Int32) (v4 : Int32) (v5 : Int32) (v6 : Int32) (h : aH) (hf : fX11_feed_62 k23 v0 v1 v2 v3 v4 v5 v6 h = some z) : Ev (d + 0) none mX11_feed (0, 0) 62 [.ref v0, .int v1, .int v2, .int v3, .int v4, .int v5, .int v6, .null] [] h (QI z) := 
  go_ok (X := none) (blk := wX11_feed_62) (np := 69) (tt := 74) (kN := fun xs h st => app [2, 1, 1, 1, 1, 1, 1, 0] (fun v0 v1 v2 v3 v4 v5 v6 => apS [] (fX11_feed_69 k23 v0 v1 v2 v3 v4 v5 v6 h) st) xs) (kT := fun xs h st => app [2, 1, 1, 1, 1, 1, 1, 0] (fun v0 v1 v2 v3 v4 v5 v6 => apS [] (fX11_feed_74 k23 v0 v1 v2 v3 v4 v5 v6 h) st) xs) (kR := kRI)
    (fun xs h st q => jm [2, 1, 1, 1, 1, 1, 1, 0] _ (fun v0 v1 v2 v3 v4 v5 v6 q => apS_ok [] _ (fun st => Ev (d + 0) none mX11_feed (0, 0) 69 [.ref v0, .int v1, .int v2, .int v3, .int v4, .int v5, .int v6, .null] st h (QI z)) st (fun q => tX11_feed_69 hk23 v0 v1 v2 v3 v4 v5 v6 h q) q) q)
    (fun xs h st q => jm [2, 1, 1, 1, 1, 1, 1, 0] _ (fun v0 v1 v2 v3 v4 v5 v6 q => apS_ok [] _ (fun st => Ev (d + 0) none mX11_feed (0, 0) 74 [.ref v0, .int v1, .int v2, .int v3, .int v4, .int v5, .int v6, .null] st h (QI z)) st (fun q => tX11_feed_74 hk23 v0 v1 v2 v3 v4 v5 v6 h q) q) q)
    kRI_ok (Or.inr rfl) (by decide +kernel) (by decide +kernel) hf
def wX11_feed_58 : List En := [(.iload_n 3, 0, 0, 0), (.goto 17, 76, 0, 0)]
def fX11_feed_58 (k23 : Nat → Int32 → Int32 → Int32 → Int32 → Int32 → Int32 → aH → Option (Int32 × aH)) (v0 : Nat) (v1 : Int32) (v2 : Int32) (v3 : Int32) (v4 : Int32) (v5 : Int32) (v6 : Int32) (h : aH) : Option (Int32 × aH) :=
  fX11_feed_76 k23 v0 v1 v2 v3 v4 v5 v6 v3 h
theorem tX11_feed_58 {d : Nat} {z : Int32 × aH} {k23 : Nat → Int32 → Int32 → Int32 → Int32 → Int32 → Int32 → aH → Option (Int32 × aH)} (hk23 : ∀ (v0 : Nat) (v1 : Int32) (v2 : Int32) (v3 : Int32) (v4 : Int32) (v5 : Int32) (v6 : Int32) (h : aH), k23 v0 v1 v2 v3 v4 v5 v6 h = some z → Ev (d + 0) none mX11_feed (0, 0) 23 [.ref v0, .int v1, .int v2, .int v3, .int v4, .int v5, .int v6, .null] [] h (QI z)) (v0 : Nat) (v1 : Int32) (v2 : Int32) (v3 : Int32) (v4 : Int32) (v5 : Int32) (v6 : Int32) (h : aH) (hf : fX11_feed_58 k23 v0 v1 v2 v3 v4 v5 v6 h = some z) : Ev (d + 0) none mX11_feed (0, 0) 58 [.ref v0, .int v1, .int v2, .int v3, .int v4, .int v5, .int v6, .null] [] h (QI z) := 
  go_ok (X := none) (blk := wX11_feed_58) (np := 62) (tt := 76) (kN := fun _ _ _ => none) (kT := fun xs h st => app [2, 1, 1, 1, 1, 1, 1, 0] (fun v0 v1 v2 v3 v4 v5 v6 => apS [1] (fun s0 => fX11_feed_76 k23 v0 v1 v2 v3 v4 v5 v6 s0 h) st) xs) (kR := kRI)
    (fun _ _ _ q => nos q)
    (fun xs h st q => jm [2, 1, 1, 1, 1, 1, 1, 0] _ (fun v0 v1 v2 v3 v4 v5 v6 q => apS_ok [1] _ (fun st => Ev (d + 0) none mX11_feed (0, 0) 76 [.ref v0, .int v1, .int v2, .int v3, .int v4, .int v5, .int v6, .null] st h (QI z)) st (fun s0 q => tX11_feed_76 hk23 v0 v1 v2 v3 v4 v5 v6 s0 h q) q) q)
    kRI_ok (Or.inr rfl) (by decide +kernel) (by decide +kernel) hf
def wX11_feed_51 : List En := [(.iload 6, 0, 0, 0), (.bipush 12, 0, 0, 0), (.if_icmp .ge 7, 62, 0, 0)]
def fX11_feed_51 (k23 : Nat → Int32 → Int32 → Int32 → Int32 → Int32 → Int32 → aH → Option (Int32 × aH)) (v0 : Nat) (v1 : Int32) (v2 : Int32) (v3 : Int32) (v4 : Int32) (v5 : Int32) (v6 : Int32) (h : aH) : Option (Int32 × aH) :=
  if v6 < (kB 12) then fX11_feed_58 k23 v0 v1 v2 v3 v4 v5 v6 h else fX11_feed_62 k23 v0 v1 v2 v3 v4 v5 v6 h
theorem tX11_feed_51 {d : Nat} {z : Int32 × aH} {k23 : Nat → Int32 → Int32 → Int32 → Int32 → Int32 → Int32 → aH → Option (Int32 × aH)} (hk23 : ∀ (v0 : Nat) (v1 : Int32) (v2 : Int32) (v3 : Int32) (v4 : Int32) (v5 : Int32) (v6 : Int32) (h : aH), k23 v0 v1 v2 v3 v4 v5 v6 h = some z → Ev (d + 0) none mX11_feed (0, 0) 23 [.ref v0, .int v1, .int v2, .int v3, .int v4, .int v5, .int v6, .null] [] h (QI z)) (v0 : Nat) (v1 : Int32) (v2 : Int32) (v3 : Int32) (v4 : Int32) (v5 : Int32) (v6 : Int32) (h : aH) (hf : fX11_feed_51 k23 v0 v1 v2 v3 v4 v5 v6 h = some z) : Ev (d + 0) none mX11_feed (0, 0) 51 [.ref v0, .int v1, .int v2, .int v3, .int v4, .int v5, .int v6, .null] [] h (QI z) := 
  go_ok (X := none) (blk := wX11_feed_51) (np := 58) (tt := 62) (kN := fun xs h st => app [2, 1, 1, 1, 1, 1, 1, 0] (fun v0 v1 v2 v3 v4 v5 v6 => apS [] (fX11_feed_58 k23 v0 v1 v2 v3 v4 v5 v6 h) st) xs) (kT := fun xs h st => app [2, 1, 1, 1, 1, 1, 1, 0] (fun v0 v1 v2 v3 v4 v5 v6 => apS [] (fX11_feed_62 k23 v0 v1 v2 v3 v4 v5 v6 h) st) xs) (kR := kRI)
    (fun xs h st q => jm [2, 1, 1, 1, 1, 1, 1, 0] _ (fun v0 v1 v2 v3 v4 v5 v6 q => apS_ok [] _ (fun st => Ev (d + 0) none mX11_feed (0, 0) 58 [.ref v0, .int v1, .int v2, .int v3, .int v4, .int v5, .int v6, .null] st h (QI z)) st (fun q => tX11_feed_58 hk23 v0 v1 v2 v3 v4 v5 v6 h q) q) q)
    (fun xs h st q => jm [2, 1, 1, 1, 1, 1, 1, 0] _ (fun v0 v1 v2 v3 v4 v5 v6 q => apS_ok [] _ (fun st => Ev (d + 0) none mX11_feed (0, 0) 62 [.ref v0, .int v1, .int v2, .int v3, .int v4, .int v5, .int v6, .null] st h (QI z)) st (fun q => tX11_feed_62 hk23 v0 v1 v2 v3 v4 v5 v6 h q) q) q)
    kRI_ok (Or.inr rfl) (by decide +kernel) (by decide +kernel) hf
def wX11_feed_47 : List En := [(.iload_n 2, 0, 0, 0), (.goto 28, 76, 0, 0)]
def fX11_feed_47 (k23 : Nat → Int32 → Int32 → Int32 → Int32 → Int32 → Int32 → aH → Option (Int32 × aH)) (v0 : Nat) (v1 : Int32) (v2 : Int32) (v3 : Int32) (v4 : Int32) (v5 : Int32) (v6 : Int32) (h : aH) : Option (Int32 × aH) :=
  fX11_feed_76 k23 v0 v1 v2 v3 v4 v5 v6 v2 h
theorem tX11_feed_47 {d : Nat} {z : Int32 × aH} {k23 : Nat → Int32 → Int32 → Int32 → Int32 → Int32 → Int32 → aH → Option (Int32 × aH)} (hk23 : ∀ (v0 : Nat) (v1 : Int32) (v2 : Int32) (v3 : Int32) (v4 : Int32) (v5 : Int32) (v6 : Int32) (h : aH), k23 v0 v1 v2 v3 v4 v5 v6 h = some z → Ev (d + 0) none mX11_feed (0, 0) 23 [.ref v0, .int v1, .int v2, .int v3, .int v4, .int v5, .int v6, .null] [] h (QI z)) (v0 : Nat) (v1 : Int32) (v2 : Int32) (v3 : Int32) (v4 : Int32) (v5 : Int32) (v6 : Int32) (h : aH) (hf : fX11_feed_47 k23 v0 v1 v2 v3 v4 v5 v6 h = some z) : Ev (d + 0) none mX11_feed (0, 0) 47 [.ref v0, .int v1, .int v2, .int v3, .int v4, .int v5, .int v6, .null] [] h (QI z) := 
  go_ok (X := none) (blk := wX11_feed_47) (np := 51) (tt := 76) (kN := fun _ _ _ => none) (kT := fun xs h st => app [2, 1, 1, 1, 1, 1, 1, 0] (fun v0 v1 v2 v3 v4 v5 v6 => apS [1] (fun s0 => fX11_feed_76 k23 v0 v1 v2 v3 v4 v5 v6 s0 h) st) xs) (kR := kRI)
    (fun _ _ _ q => nos q)
    (fun xs h st q => jm [2, 1, 1, 1, 1, 1, 1, 0] _ (fun v0 v1 v2 v3 v4 v5 v6 q => apS_ok [1] _ (fun st => Ev (d + 0) none mX11_feed (0, 0) 76 [.ref v0, .int v1, .int v2, .int v3, .int v4, .int v5, .int v6, .null] st h (QI z)) st (fun s0 q => tX11_feed_76 hk23 v0 v1 v2 v3 v4 v5 v6 s0 h q) q) q)
    kRI_ok (Or.inr rfl) (by decide +kernel) (by decide +kernel) hf
def wX11_feed_40 : List En := [(.iload 6, 0, 0, 0), (.bipush 8, 0, 0, 0), (.if_icmp .ge 7, 51, 0, 0)]
def fX11_feed_40 (k23 : Nat → Int32 → Int32 → Int32 → Int32 → Int32 → Int32 → aH → Option (Int32 × aH)) (v0 : Nat) (v1 : Int32) (v2 : Int32) (v3 : Int32) (v4 : Int32) (v5 : Int32) (v6 : Int32) (h : aH) : Option (Int32 × aH) :=
  if v6 < (kB 8) then fX11_feed_47 k23 v0 v1 v2 v3 v4 v5 v6 h else fX11_feed_51 k23 v0 v1 v2 v3 v4 v5 v6 h
theorem tX11_feed_40 {d : Nat} {z : Int32 × aH} {k23 : Nat → Int32 → Int32 → Int32 → Int32 → Int32 → Int32 → aH → Option (Int32 × aH)} (hk23 : ∀ (v0 : Nat) (v1 : Int32) (v2 : Int32) (v3 : Int32) (v4 : Int32) (v5 : Int32) (v6 : Int32) (h : aH), k23 v0 v1 v2 v3 v4 v5 v6 h = some z → Ev (d + 0) none mX11_feed (0, 0) 23 [.ref v0, .int v1, .int v2, .int v3, .int v4, .int v5, .int v6, .null] [] h (QI z)) (v0 : Nat) (v1 : Int32) (v2 : Int32) (v3 : Int32) (v4 : Int32) (v5 : Int32) (v6 : Int32) (h : aH) (hf : fX11_feed_40 k23 v0 v1 v2 v3 v4 v5 v6 h = some z) : Ev (d + 0) none mX11_feed (0, 0) 40 [.ref v0, .int v1, .int v2, .int v3, .int v4, .int v5, .int v6, .null] [] h (QI z) := 
  go_ok (X := none) (blk := wX11_feed_40) (np := 47) (tt := 51) (kN := fun xs h st => app [2, 1, 1, 1, 1, 1, 1, 0] (fun v0 v1 v2 v3 v4 v5 v6 => apS [] (fX11_feed_47 k23 v0 v1 v2 v3 v4 v5 v6 h) st) xs) (kT := fun xs h st => app [2, 1, 1, 1, 1, 1, 1, 0] (fun v0 v1 v2 v3 v4 v5 v6 => apS [] (fX11_feed_51 k23 v0 v1 v2 v3 v4 v5 v6 h) st) xs) (kR := kRI)
    (fun xs h st q => jm [2, 1, 1, 1, 1, 1, 1, 0] _ (fun v0 v1 v2 v3 v4 v5 v6 q => apS_ok [] _ (fun st => Ev (d + 0) none mX11_feed (0, 0) 47 [.ref v0, .int v1, .int v2, .int v3, .int v4, .int v5, .int v6, .null] st h (QI z)) st (fun q => tX11_feed_47 hk23 v0 v1 v2 v3 v4 v5 v6 h q) q) q)
    (fun xs h st q => jm [2, 1, 1, 1, 1, 1, 1, 0] _ (fun v0 v1 v2 v3 v4 v5 v6 q => apS_ok [] _ (fun st => Ev (d + 0) none mX11_feed (0, 0) 51 [.ref v0, .int v1, .int v2, .int v3, .int v4, .int v5, .int v6, .null] st h (QI z)) st (fun q => tX11_feed_51 hk23 v0 v1 v2 v3 v4 v5 v6 h q) q) q)
    kRI_ok (Or.inr rfl) (by decide +kernel) (by decide +kernel) hf
def wX11_feed_36 : List En := [(.iload_n 1, 0, 0, 0), (.goto 39, 76, 0, 0)]
def fX11_feed_36 (k23 : Nat → Int32 → Int32 → Int32 → Int32 → Int32 → Int32 → aH → Option (Int32 × aH)) (v0 : Nat) (v1 : Int32) (v2 : Int32) (v3 : Int32) (v4 : Int32) (v5 : Int32) (v6 : Int32) (h : aH) : Option (Int32 × aH) :=
  fX11_feed_76 k23 v0 v1 v2 v3 v4 v5 v6 v1 h
theorem tX11_feed_36 {d : Nat} {z : Int32 × aH} {k23 : Nat → Int32 → Int32 → Int32 → Int32 → Int32 → Int32 → aH → Option (Int32 × aH)} (hk23 : ∀ (v0 : Nat) (v1 : Int32) (v2 : Int32) (v3 : Int32) (v4 : Int32) (v5 : Int32) (v6 : Int32) (h : aH), k23 v0 v1 v2 v3 v4 v5 v6 h = some z → Ev (d + 0) none mX11_feed (0, 0) 23 [.ref v0, .int v1, .int v2, .int v3, .int v4, .int v5, .int v6, .null] [] h (QI z)) (v0 : Nat) (v1 : Int32) (v2 : Int32) (v3 : Int32) (v4 : Int32) (v5 : Int32) (v6 : Int32) (h : aH) (hf : fX11_feed_36 k23 v0 v1 v2 v3 v4 v5 v6 h = some z) : Ev (d + 0) none mX11_feed (0, 0) 36 [.ref v0, .int v1, .int v2, .int v3, .int v4, .int v5, .int v6, .null] [] h (QI z) := 
  go_ok (X := none) (blk := wX11_feed_36) (np := 40) (tt := 76) (kN := fun _ _ _ => none) (kT := fun xs h st => app [2, 1, 1, 1, 1, 1, 1, 0] (fun v0 v1 v2 v3 v4 v5 v6 => apS [1] (fun s0 => fX11_feed_76 k23 v0 v1 v2 v3 v4 v5 v6 s0 h) st) xs) (kR := kRI)
    (fun _ _ _ q => nos q)
    (fun xs h st q => jm [2, 1, 1, 1, 1, 1, 1, 0] _ (fun v0 v1 v2 v3 v4 v5 v6 q => apS_ok [1] _ (fun st => Ev (d + 0) none mX11_feed (0, 0) 76 [.ref v0, .int v1, .int v2, .int v3, .int v4, .int v5, .int v6, .null] st h (QI z)) st (fun s0 q => tX11_feed_76 hk23 v0 v1 v2 v3 v4 v5 v6 s0 h q) q) q)
    kRI_ok (Or.inr rfl) (by decide +kernel) (by decide +kernel) hf
def wX11_feed_30 : List En := [(.iload 6, 0, 0, 0), (.iconst 4, 0, 0, 0), (.if_icmp .ge 7, 40, 0, 0)]
def fX11_feed_30 (k23 : Nat → Int32 → Int32 → Int32 → Int32 → Int32 → Int32 → aH → Option (Int32 × aH)) (v0 : Nat) (v1 : Int32) (v2 : Int32) (v3 : Int32) (v4 : Int32) (v5 : Int32) (v6 : Int32) (h : aH) : Option (Int32 × aH) :=
  if v6 < (kI 4) then fX11_feed_36 k23 v0 v1 v2 v3 v4 v5 v6 h else fX11_feed_40 k23 v0 v1 v2 v3 v4 v5 v6 h
theorem tX11_feed_30 {d : Nat} {z : Int32 × aH} {k23 : Nat → Int32 → Int32 → Int32 → Int32 → Int32 → Int32 → aH → Option (Int32 × aH)} (hk23 : ∀ (v0 : Nat) (v1 : Int32) (v2 : Int32) (v3 : Int32) (v4 : Int32) (v5 : Int32) (v6 : Int32) (h : aH), k23 v0 v1 v2 v3 v4 v5 v6 h = some z → Ev (d + 0) none mX11_feed (0, 0) 23 [.ref v0, .int v1, .int v2, .int v3, .int v4, .int v5, .int v6, .null] [] h (QI z)) (v0 : Nat) (v1 : Int32) (v2 : Int32) (v3 : Int32) (v4 : Int32) (v5 : Int32) (v6 : Int32) (h : aH) (hf : fX11_feed_30 k23 v0 v1 v2 v3 v4 v5 v6 h = some z) : Ev (d + 0) none mX11_feed (0, 0) 30 [.ref v0, .int v1, .int v2, .int v3, .int v4, .int v5, .int v6, .null] [] h (QI z) := 
  go_ok (X := none) (blk := wX11_feed_30) (np := 36) (tt := 40) (kN := fun xs h st => app [2, 1, 1, 1, 1, 1, 1, 0] (fun v0 v1 v2 v3 v4 v5 v6 => apS [] (fX11_feed_36 k23 v0 v1 v2 v3 v4 v5 v6 h) st) xs) (kT := fun xs h st => app [2, 1, 1, 1, 1, 1, 1, 0] (fun v0 v1 v2 v3 v4 v5 v6 => apS [] (fX11_feed_40 k23 v0 v1 v2 v3 v4 v5 v6 h) st) xs) (kR := kRI)
    (fun xs h st q => jm [2, 1, 1, 1, 1, 1, 1, 0] _ (fun v0 v1 v2 v3 v4 v5 v6 q => apS_ok [] _ (fun st => Ev (d + 0) none mX11_feed (0, 0) 36 [.ref v0, .int v1, .int v2, .int v3, .int v4, .int v5, .int v6, .null] st h (QI z)) st (fun q => tX11_feed_36 hk23 v0 v1 v2 v3 v4 v5 v6 h q) q) q)
    (fun xs h st q => jm [2, 1, 1, 1, 1, 1, 1, 0] _ (fun v0 v1 v2 v3 v4 v5 v6 q => apS_ok [] _ (fun st => Ev (d + 0) none mX11_feed (0, 0) 40 [.ref v0, .int v1, .int v2, .int v3, .int v4, .int v5, .int v6, .null] st h (QI z)) st (fun q => tX11_feed_40 hk23 v0 v1 v2 v3 v4 v5 v6 h q) q) q)
    kRI_ok (Or.inr rfl) (by decide +kernel) (by decide +kernel) hf
def wX11_feed_23 : List En := [(.iload 6, 0, 0, 0), (.bipush 20, 0, 0, 0), (.if_icmp .ge 93, 120, 0, 0)]
def fX11_feed_23 (k23 : Nat → Int32 → Int32 → Int32 → Int32 → Int32 → Int32 → aH → Option (Int32 × aH)) (v0 : Nat) (v1 : Int32) (v2 : Int32) (v3 : Int32) (v4 : Int32) (v5 : Int32) (v6 : Int32) (h : aH) : Option (Int32 × aH) :=
  if v6 < (kB 20) then fX11_feed_30 k23 v0 v1 v2 v3 v4 v5 v6 h else fX11_feed_120 v0 h
theorem tX11_feed_23 {d : Nat} {z : Int32 × aH} {k23 : Nat → Int32 → Int32 → Int32 → Int32 → Int32 → Int32 → aH → Option (Int32 × aH)} (hk23 : ∀ (v0 : Nat) (v1 : Int32) (v2 : Int32) (v3 : Int32) (v4 : Int32) (v5 : Int32) (v6 : Int32) (h : aH), k23 v0 v1 v2 v3 v4 v5 v6 h = some z → Ev (d + 0) none mX11_feed (0, 0) 23 [.ref v0, .int v1, .int v2, .int v3, .int v4, .int v5, .int v6, .null] [] h (QI z)) (v0 : Nat) (v1 : Int32) (v2 : Int32) (v3 : Int32) (v4 : Int32) (v5 : Int32) (v6 : Int32) (h : aH) (hf : fX11_feed_23 k23 v0 v1 v2 v3 v4 v5 v6 h = some z) : Ev (d + 0) none mX11_feed (0, 0) 23 [.ref v0, .int v1, .int v2, .int v3, .int v4, .int v5, .int v6, .null] [] h (QI z) := 
  go_ok (X := none) (blk := wX11_feed_23) (np := 30) (tt := 120) (kN := fun xs h st => app [2, 1, 1, 1, 1, 1, 1, 0] (fun v0 v1 v2 v3 v4 v5 v6 => apS [] (fX11_feed_30 k23 v0 v1 v2 v3 v4 v5 v6 h) st) xs) (kT := fun xs h st => app [2, 0, 0, 0, 0, 0, 0, 0] (fun v0 => apS [] (fX11_feed_120 v0 h) st) xs) (kR := kRI)
    (fun xs h st q => jm [2, 1, 1, 1, 1, 1, 1, 0] _ (fun v0 v1 v2 v3 v4 v5 v6 q => apS_ok [] _ (fun st => Ev (d + 0) none mX11_feed (0, 0) 30 [.ref v0, .int v1, .int v2, .int v3, .int v4, .int v5, .int v6, .null] st h (QI z)) st (fun q => tX11_feed_30 hk23 v0 v1 v2 v3 v4 v5 v6 h q) q) q)
    (fun xs h st q => jm [2, 0, 0, 0, 0, 0, 0, 0] _ (fun v0 q => apS_ok [] _ (fun st => Ev (d + 0) none mX11_feed (0, 0) 120 [.ref v0, .null, .null, .null, .null, .null, .null, .null] st h (QI z)) st (fun q => tX11_feed_120 v0 h q) q) q)
    kRI_ok (Or.inr rfl) (by decide +kernel) (by decide +kernel) hf
def lX11_feed_23 : Nat → Nat → Int32 → Int32 → Int32 → Int32 → Int32 → Int32 → aH → Option (Int32 × aH)
  | 0, _, _, _, _, _, _, _, _ => none
  | n + 1, v0, v1, v2, v3, v4, v5, v6, h => fX11_feed_23 (lX11_feed_23 n) v0 v1 v2 v3 v4 v5 v6 h
theorem uX11_feed_23 {d : Nat} {z : Int32 × aH} : ∀ (n : Nat) (v0 : Nat) (v1 : Int32) (v2 : Int32) (v3 : Int32) (v4 : Int32) (v5 : Int32) (v6 : Int32) (h : aH), lX11_feed_23 n v0 v1 v2 v3 v4 v5 v6 h = some z → Ev (d + 0) none mX11_feed (0, 0) 23 [.ref v0, .int v1, .int v2, .int v3, .int v4, .int v5, .int v6, .null] [] h (QI z) := by
  intro n
  induction n with
  | zero => intro _ _ _ _ _ _ _ _ q; exact nos (show (none : Option (Int32 × aH)) = some z from q)
  | succ n ih => intro v0 v1 v2 v3 v4 v5 v6 h q; exact tX11_feed_23 ih v0 v1 v2 v3 v4 v5 v6 h q
def wX11_feed_20 : List En := [(.iconst 0, 0, 0, 0), (.istore 6, 0, 0, 0)]
def fX11_feed_20 (v0 : Nat) (v1 : Int32) (v2 : Int32) (v3 : Int32) (v4 : Int32) (v5 : Int32) (h : aH) : Option (Int32 × aH) :=
  lX11_feed_23 FU v0 v1 v2 v3 v4 v5 (kI 0) h
theorem tX11_feed_20 {d : Nat} {z : Int32 × aH} (v0 : Nat) (v1 : Int32) (v2 : Int32) (v3 : Int32) (v4 : Int32) (v5 : Int32) (h : aH) (hf : fX11_feed_20 v0 v1 v2 v3 v4 v5 h = some z) : Ev (d + 0) none mX11_feed (0, 0) 20 [.ref v0, .int v1, .int v2, .int v3, .int v4, .int v5, .null, .null] [] h (QI z) := 
  go_ok (X := none) (blk := wX11_feed_20) (np := 23) (tt := 0) (kN := fun xs h st => app [2, 1, 1, 1, 1, 1, 1, 0] (fun v0 v1 v2 v3 v4 v5 v6 => apS [] (lX11_feed_23 FU v0 v1 v2 v3 v4 v5 v6 h) st) xs) (kT := fun _ _ _ => none) (kR := kRI)
    (fun xs h st q => jm [2, 1, 1, 1, 1, 1, 1, 0] _ (fun v0 v1 v2 v3 v4 v5 v6 q => apS_ok [] _ (fun st => Ev (d + 0) none mX11_feed (0, 0) 23 [.ref v0, .int v1, .int v2, .int v3, .int v4, .int v5, .int v6, .null] st h (QI z)) st (fun q => uX11_feed_23 FU v0 v1 v2 v3 v4 v5 v6 h q) q) q)
    (fun _ _ _ q => nos q)
    kRI_ok (Or.inr rfl) (by decide +kernel) (by decide +kernel) hf
def wX11_feed_18 : List En := [(.iconst (-1), 0, 0, 0), (.ireturn, 0, 0, 0)]
def fX11_feed_18 (h : aH) : Option (Int32 × aH) :=
  some ((kI (-1)), h)
theorem tX11_feed_18 {d : Nat} {z : Int32 × aH} (h : aH) (hf : fX11_feed_18 h = some z) : Ev (d + 0) none mX11_feed (0, 0) 18 [.null, .null, .null, .null, .null, .null, .null, .null] [] h (QI z) := 
  go_ok (X := none) (blk := wX11_feed_18) (np := 20) (tt := 0) (kN := fun _ _ _ => none) (kT := fun _ _ _ => none) (kR := kRI)
    (fun _ _ _ q => nos q)
    (fun _ _ _ q => nos q)
    kRI_ok (Or.inr rfl) (by decide +kernel) (by decide +kernel) hf
def wX11_feed_0 : List En := [(.aload_n 0, 0, 0, 0), (.iconst 0, 0, 0, 0), (.putfield 53, 175, 11, 0), (.aload_n 0, 0, 0, 0), (.getfield 59, 177, 11, 2), (.bipush 20, 0, 0, 0), (.iadd, 0, 0, 0), (.sipush 700, 0, 0, 0), (.if_icmp .le 5, 20, 0, 0)]
def fX11_feed_0 (v0 : Nat) (v1 : Int32) (v2 : Int32) (v3 : Int32) (v4 : Int32) (v5 : Int32) (h : aH) : Option (Int32 × aH) :=
  (pWV h 11 v0 0 (.int (kI 0))).bind fun h1 =>
  (gFI h1 11 v0 2).bind fun t2 =>
  if (kS 700) < (t2 + (kB 20)) then fX11_feed_18 h1 else fX11_feed_20 v0 v1 v2 v3 v4 v5 h1
theorem tX11_feed_0 {d : Nat} {z : Int32 × aH} (v0 : Nat) (v1 : Int32) (v2 : Int32) (v3 : Int32) (v4 : Int32) (v5 : Int32) (h : aH) (hf : fX11_feed_0 v0 v1 v2 v3 v4 v5 h = some z) : Ev (d + 0) none mX11_feed (0, 0) 0 [.ref v0, .int v1, .int v2, .int v3, .int v4, .int v5, .null, .null] [] h (QI z) := 
  go_ok (X := none) (blk := wX11_feed_0) (np := 18) (tt := 20) (kN := fun xs h st => app [0, 0, 0, 0, 0, 0, 0, 0] (apS [] (fX11_feed_18 h) st) xs) (kT := fun xs h st => app [2, 1, 1, 1, 1, 1, 0, 0] (fun v0 v1 v2 v3 v4 v5 => apS [] (fX11_feed_20 v0 v1 v2 v3 v4 v5 h) st) xs) (kR := kRI)
    (fun xs h st q => jm [0, 0, 0, 0, 0, 0, 0, 0] _ (fun q => apS_ok [] _ (fun st => Ev (d + 0) none mX11_feed (0, 0) 18 [.null, .null, .null, .null, .null, .null, .null, .null] st h (QI z)) st (fun q => tX11_feed_18 h q) q) q)
    (fun xs h st q => jm [2, 1, 1, 1, 1, 1, 0, 0] _ (fun v0 v1 v2 v3 v4 v5 q => apS_ok [] _ (fun st => Ev (d + 0) none mX11_feed (0, 0) 20 [.ref v0, .int v1, .int v2, .int v3, .int v4, .int v5, .null, .null] st h (QI z)) st (fun q => tX11_feed_20 v0 v1 v2 v3 v4 v5 h q) q) q)
    kRI_ok (Or.inr rfl) (by decide +kernel) (by decide +kernel) hf
def gX11_feed (v0 : Nat) (v1 : Int32) (v2 : Int32) (v3 : Int32) (v4 : Int32) (v5 : Int32) (h : aH) : Option (Int32 × aH) := fX11_feed_0 v0 v1 v2 v3 v4 v5 h
theorem zX11_feed {d : Nat} {z : Int32 × aH} {v0 : Nat} {v1 : Int32} {v2 : Int32} {v3 : Int32} {v4 : Int32} {v5 : Int32} {h : aH} (q : gX11_feed v0 v1 v2 v3 v4 v5 h = some z) : CT (d + 0) mX11_feed (0, 0) [.ref v0, .int v1, .int v2, .int v3, .int v4, .int v5] h (QI z) :=
  ct_ev (by decide +kernel) (Nat.le_of_ble_eq_true rfl) QI_r (jm [2, 1, 1, 1, 1, 1, 0, 0] (fun v0 v1 v2 v3 v4 v5 => fX11_feed_0 v0 v1 v2 v3 v4 v5 h) (fun v0 v1 v2 v3 v4 v5 q => tX11_feed_0 v0 v1 v2 v3 v4 v5 h q) q)
def wX11_anew_0 : List En := [(.aload_n 0, 0, 0, 0), (.iconst 0, 0, 0, 0), (.putfield 53, 175, 11, 0), (.aload_n 0, 0, 0, 0), (.iconst 0, 0, 0, 0), (.putfield 56, 186, 11, 11), (.return_, 0, 0, 0)]
def fX11_anew_0 (v0 : Nat) (h : aH) : Option (aH) :=
  (pWV h 11 v0 0 (.int (kI 0))).bind fun h1 =>
  (pWV h1 11 v0 11 (.int (kI 0))).bind fun h2 =>
  some h2
theorem tX11_anew_0 {d : Nat} {z : aH} (v0 : Nat) (h : aH) (hf : fX11_anew_0 v0 h = some z) : Ev (d + 0) none mX11_anew (0, 0) 0 [.ref v0] [] h (QV z) := 
  go_ok (X := none) (blk := wX11_anew_0) (np := 11) (tt := 0) (kN := fun _ _ _ => none) (kT := fun _ _ _ => none) (kR := kRV)
    (fun _ _ _ q => nos q)
    (fun _ _ _ q => nos q)
    kRV_ok (Or.inr rfl) (by decide +kernel) (by decide +kernel) hf
def gX11_anew (v0 : Nat) (h : aH) : Option (aH) := fX11_anew_0 v0 h
theorem zX11_anew {d : Nat} {z : aH} {v0 : Nat} {h : aH} (q : gX11_anew v0 h = some z) : CT (d + 0) mX11_anew (0, 0) [.ref v0] h (QV z) :=
  ct_ev (by decide +kernel) (Nat.le_of_ble_eq_true rfl) QV_r (jm [2] (fun v0 => fX11_anew_0 v0 h) (fun v0 q => tX11_anew_0 v0 h q) q)
def wX11_copy_28 : List En := [(.return_, 0, 0, 0)]
def fX11_copy_28 (h : aH) : Option (aH) :=
  some h
theorem tX11_copy_28 {d : Nat} {z : aH} (h : aH) (hf : fX11_copy_28 h = some z) : Ev (d + 0) none mX11_copy (0, 0) 28 [.null, .null, .null, .null, .null, .null] [] h (QV z) := 
  go_ok (X := none) (blk := wX11_copy_28) (np := 29) (tt := 0) (kN := fun _ _ _ => none) (kT := fun _ _ _ => none) (kR := kRV)
    (fun _ _ _ q => nos q)
    (fun _ _ _ q => nos q)
    kRV_ok (Or.inr rfl) (by decide +kernel) (by decide +kernel) hf
def wX11_copy_10 : List En := [(.aload_n 2, 0, 0, 0), (.iload_n 3, 0, 0, 0), (.iload 5, 0, 0, 0), (.iadd, 0, 0, 0), (.aload_n 0, 0, 0, 0), (.iload_n 1, 0, 0, 0), (.iload 5, 0, 0, 0), (.iadd, 0, 0, 0), (.iaload, 0, 0, 0), (.iastore, 0, 0, 0), (.iinc 5 1, 0, 0, 0), (.goto (-22), 3, 0, 0)]
def fX11_copy_10 (k3 : Nat → Int32 → Nat → Int32 → Int32 → Int32 → aH → Option (aH)) (v0 : Nat) (v1 : Int32) (v2 : Nat) (v3 : Int32) (v4 : Int32) (v5 : Int32) (h : aH) : Option (aH) :=
  (aRI (h[v0]?) (v1 + v5)).bind fun t1 =>
  (aWI h v2 (v3 + v5) t1).bind fun h2 =>
  k3 v0 v1 v2 v3 v4 (v5 + kI 1) h2
theorem tX11_copy_10 {d : Nat} {z : aH} {k3 : Nat → Int32 → Nat → Int32 → Int32 → Int32 → aH → Option (aH)} (hk3 : ∀ (v0 : Nat) (v1 : Int32) (v2 : Nat) (v3 : Int32) (v4 : Int32) (v5 : Int32) (h : aH), k3 v0 v1 v2 v3 v4 v5 h = some z → Ev (d + 0) none mX11_copy (0, 0) 3 [.ref v0, .int v1, .ref v2, .int v3, .int v4, .int v5] [] h (QV z)) (v0 : Nat) (v1 : Int32) (v2 : Nat) (v3 : Int32) (v4 : Int32) (v5 : Int32) (h : aH) (hf : fX11_copy_10 k3 v0 v1 v2 v3 v4 v5 h = some z) : Ev (d + 0) none mX11_copy (0, 0) 10 [.ref v0, .int v1, .ref v2, .int v3, .int v4, .int v5] [] h (QV z) := 
  go_ok (X := none) (blk := wX11_copy_10) (np := 28) (tt := 3) (kN := fun _ _ _ => none) (kT := fun xs h st => app [2, 1, 2, 1, 1, 1] (fun v0 v1 v2 v3 v4 v5 => apS [] (k3 v0 v1 v2 v3 v4 v5 h) st) xs) (kR := kRV)
    (fun _ _ _ q => nos q)
    (fun xs h st q => jm [2, 1, 2, 1, 1, 1] _ (fun v0 v1 v2 v3 v4 v5 q => apS_ok [] _ (fun st => Ev (d + 0) none mX11_copy (0, 0) 3 [.ref v0, .int v1, .ref v2, .int v3, .int v4, .int v5] st h (QV z)) st (fun q => hk3 v0 v1 v2 v3 v4 v5 h q) q) q)
    kRV_ok (Or.inr rfl) (by decide +kernel) (by decide +kernel) hf
def wX11_copy_3 : List En := [(.iload 5, 0, 0, 0), (.iload 4, 0, 0, 0), (.if_icmp .ge 21, 28, 0, 0)]
def fX11_copy_3 (k3 : Nat → Int32 → Nat → Int32 → Int32 → Int32 → aH → Option (aH)) (v0 : Nat) (v1 : Int32) (v2 : Nat) (v3 : Int32) (v4 : Int32) (v5 : Int32) (h : aH) : Option (aH) :=
  if v5 < v4 then fX11_copy_10 k3 v0 v1 v2 v3 v4 v5 h else fX11_copy_28 h
theorem tX11_copy_3 {d : Nat} {z : aH} {k3 : Nat → Int32 → Nat → Int32 → Int32 → Int32 → aH → Option (aH)} (hk3 : ∀ (v0 : Nat) (v1 : Int32) (v2 : Nat) (v3 : Int32) (v4 : Int32) (v5 : Int32) (h : aH), k3 v0 v1 v2 v3 v4 v5 h = some z → Ev (d + 0) none mX11_copy (0, 0) 3 [.ref v0, .int v1, .ref v2, .int v3, .int v4, .int v5] [] h (QV z)) (v0 : Nat) (v1 : Int32) (v2 : Nat) (v3 : Int32) (v4 : Int32) (v5 : Int32) (h : aH) (hf : fX11_copy_3 k3 v0 v1 v2 v3 v4 v5 h = some z) : Ev (d + 0) none mX11_copy (0, 0) 3 [.ref v0, .int v1, .ref v2, .int v3, .int v4, .int v5] [] h (QV z) := 
  go_ok (X := none) (blk := wX11_copy_3) (np := 10) (tt := 28) (kN := fun xs h st => app [2, 1, 2, 1, 1, 1] (fun v0 v1 v2 v3 v4 v5 => apS [] (fX11_copy_10 k3 v0 v1 v2 v3 v4 v5 h) st) xs) (kT := fun xs h st => app [0, 0, 0, 0, 0, 0] (apS [] (fX11_copy_28 h) st) xs) (kR := kRV)
    (fun xs h st q => jm [2, 1, 2, 1, 1, 1] _ (fun v0 v1 v2 v3 v4 v5 q => apS_ok [] _ (fun st => Ev (d + 0) none mX11_copy (0, 0) 10 [.ref v0, .int v1, .ref v2, .int v3, .int v4, .int v5] st h (QV z)) st (fun q => tX11_copy_10 hk3 v0 v1 v2 v3 v4 v5 h q) q) q)
    (fun xs h st q => jm [0, 0, 0, 0, 0, 0] _ (fun q => apS_ok [] _ (fun st => Ev (d + 0) none mX11_copy (0, 0) 28 [.null, .null, .null, .null, .null, .null] st h (QV z)) st (fun q => tX11_copy_28 h q) q) q)
    kRV_ok (Or.inr rfl) (by decide +kernel) (by decide +kernel) hf
def lX11_copy_3 : Nat → Nat → Int32 → Nat → Int32 → Int32 → Int32 → aH → Option (aH)
  | 0, _, _, _, _, _, _, _ => none
  | n + 1, v0, v1, v2, v3, v4, v5, h => fX11_copy_3 (lX11_copy_3 n) v0 v1 v2 v3 v4 v5 h
theorem uX11_copy_3 {d : Nat} {z : aH} : ∀ (n : Nat) (v0 : Nat) (v1 : Int32) (v2 : Nat) (v3 : Int32) (v4 : Int32) (v5 : Int32) (h : aH), lX11_copy_3 n v0 v1 v2 v3 v4 v5 h = some z → Ev (d + 0) none mX11_copy (0, 0) 3 [.ref v0, .int v1, .ref v2, .int v3, .int v4, .int v5] [] h (QV z) := by
  intro n
  induction n with
  | zero => intro _ _ _ _ _ _ _ q; exact nos (show (none : Option (aH)) = some z from q)
  | succ n ih => intro v0 v1 v2 v3 v4 v5 h q; exact tX11_copy_3 ih v0 v1 v2 v3 v4 v5 h q
def wX11_copy_0 : List En := [(.iconst 0, 0, 0, 0), (.istore 5, 0, 0, 0)]
def fX11_copy_0 (v0 : Nat) (v1 : Int32) (v2 : Nat) (v3 : Int32) (v4 : Int32) (h : aH) : Option (aH) :=
  lX11_copy_3 FU v0 v1 v2 v3 v4 (kI 0) h
theorem tX11_copy_0 {d : Nat} {z : aH} (v0 : Nat) (v1 : Int32) (v2 : Nat) (v3 : Int32) (v4 : Int32) (h : aH) (hf : fX11_copy_0 v0 v1 v2 v3 v4 h = some z) : Ev (d + 0) none mX11_copy (0, 0) 0 [.ref v0, .int v1, .ref v2, .int v3, .int v4, .null] [] h (QV z) := 
  go_ok (X := none) (blk := wX11_copy_0) (np := 3) (tt := 0) (kN := fun xs h st => app [2, 1, 2, 1, 1, 1] (fun v0 v1 v2 v3 v4 v5 => apS [] (lX11_copy_3 FU v0 v1 v2 v3 v4 v5 h) st) xs) (kT := fun _ _ _ => none) (kR := kRV)
    (fun xs h st q => jm [2, 1, 2, 1, 1, 1] _ (fun v0 v1 v2 v3 v4 v5 q => apS_ok [] _ (fun st => Ev (d + 0) none mX11_copy (0, 0) 3 [.ref v0, .int v1, .ref v2, .int v3, .int v4, .int v5] st h (QV z)) st (fun q => uX11_copy_3 FU v0 v1 v2 v3 v4 v5 h q) q) q)
    (fun _ _ _ q => nos q)
    kRV_ok (Or.inr rfl) (by decide +kernel) (by decide +kernel) hf
def gX11_copy (v0 : Nat) (v1 : Int32) (v2 : Nat) (v3 : Int32) (v4 : Int32) (h : aH) : Option (aH) := fX11_copy_0 v0 v1 v2 v3 v4 h
theorem zX11_copy {d : Nat} {z : aH} {v0 : Nat} {v1 : Int32} {v2 : Nat} {v3 : Int32} {v4 : Int32} {h : aH} (q : gX11_copy v0 v1 v2 v3 v4 h = some z) : CT (d + 0) mX11_copy (0, 0) [.ref v0, .int v1, .ref v2, .int v3, .int v4] h (QV z) :=
  ct_ev (by decide +kernel) (Nat.le_of_ble_eq_true rfl) QV_r (jm [2, 1, 2, 1, 1, 0] (fun v0 v1 v2 v3 v4 => fX11_copy_0 v0 v1 v2 v3 v4 h) (fun v0 v1 v2 v3 v4 q => tX11_copy_0 v0 v1 v2 v3 v4 h q) q)
def wX11_in_15 : List En := [(.ireturn, 0, 0, 0)]
def fX11_in_15 (s0 : Int32) (h : aH) : Option (Int32 × aH) :=
  if s0 = 0 ∨ s0 = 1 then some (s0, h) else none
theorem tX11_in_15 {d : Nat} {z : Int32 × aH} (s0 : Int32) (h : aH) (hf : fX11_in_15 s0 h = some z) : Ev (d + 0) none mX11_in (0, 0) 15 [.null, .null, .null] [.int s0] h (QZ z) := 
  go_ok (X := none) (blk := wX11_in_15) (np := 16) (tt := 0) (kN := fun _ _ _ => none) (kT := fun _ _ _ => none) (kR := kRZ)
    (fun _ _ _ q => nos q)
    (fun _ _ _ q => nos q)
    kRZ_ok (Or.inr rfl) (by decide +kernel) (by decide +kernel) hf
def wX11_in_14 : List En := [(.iconst 0, 0, 0, 0)]
def fX11_in_14 (h : aH) : Option (Int32 × aH) :=
  fX11_in_15 (kI 0) h
theorem tX11_in_14 {d : Nat} {z : Int32 × aH} (h : aH) (hf : fX11_in_14 h = some z) : Ev (d + 0) none mX11_in (0, 0) 14 [.null, .null, .null] [] h (QZ z) := 
  go_ok (X := none) (blk := wX11_in_14) (np := 15) (tt := 0) (kN := fun xs h st => app [0, 0, 0] (apS [1] (fun s0 => fX11_in_15 s0 h) st) xs) (kT := fun _ _ _ => none) (kR := kRZ)
    (fun xs h st q => jm [0, 0, 0] _ (fun q => apS_ok [1] _ (fun st => Ev (d + 0) none mX11_in (0, 0) 15 [.null, .null, .null] st h (QZ z)) st (fun s0 q => tX11_in_15 s0 h q) q) q)
    (fun _ _ _ q => nos q)
    kRZ_ok (Or.inr rfl) (by decide +kernel) (by decide +kernel) hf
def wX11_in_10 : List En := [(.iconst 1, 0, 0, 0), (.goto 4, 15, 0, 0)]
def fX11_in_10 (h : aH) : Option (Int32 × aH) :=
  fX11_in_15 (kI 1) h
theorem tX11_in_10 {d : Nat} {z : Int32 × aH} (h : aH) (hf : fX11_in_10 h = some z) : Ev (d + 0) none mX11_in (0, 0) 10 [.null, .null, .null] [] h (QZ z) := 
  go_ok (X := none) (blk := wX11_in_10) (np := 14) (tt := 15) (kN := fun _ _ _ => none) (kT := fun xs h st => app [0, 0, 0] (apS [1] (fun s0 => fX11_in_15 s0 h) st) xs) (kR := kRZ)
    (fun _ _ _ q => nos q)
    (fun xs h st q => jm [0, 0, 0] _ (fun q => apS_ok [1] _ (fun st => Ev (d + 0) none mX11_in (0, 0) 15 [.null, .null, .null] st h (QZ z)) st (fun s0 q => tX11_in_15 s0 h q) q) q)
    kRZ_ok (Or.inr rfl) (by decide +kernel) (by decide +kernel) hf
def wX11_in_5 : List En := [(.iload_n 0, 0, 0, 0), (.iload_n 2, 0, 0, 0), (.if_icmp .gt 7, 14, 0, 0)]
def fX11_in_5 (v0 : Int32) (v2 : Int32) (h : aH) : Option (Int32 × aH) :=
  if v2 < v0 then fX11_in_14 h else fX11_in_10 h
theorem tX11_in_5 {d : Nat} {z : Int32 × aH} (v0 : Int32) (v2 : Int32) (h : aH) (hf : fX11_in_5 v0 v2 h = some z) : Ev (d + 0) none mX11_in (0, 0) 5 [.int v0, .null, .int v2] [] h (QZ z) := 
  go_ok (X := none) (blk := wX11_in_5) (np := 10) (tt := 14) (kN := fun xs h st => app [0, 0, 0] (apS [] (fX11_in_10 h) st) xs) (kT := fun xs h st => app [0, 0, 0] (apS [] (fX11_in_14 h) st) xs) (kR := kRZ)
    (fun xs h st q => jm [0, 0, 0] _ (fun q => apS_ok [] _ (fun st => Ev (d + 0) none mX11_in (0, 0) 10 [.null, .null, .null] st h (QZ z)) st (fun q => tX11_in_10 h q) q) q)
    (fun xs h st q => jm [0, 0, 0] _ (fun q => apS_ok [] _ (fun st => Ev (d + 0) none mX11_in (0, 0) 14 [.null, .null, .null] st h (QZ z)) st (fun q => tX11_in_14 h q) q) q)
    kRZ_ok (Or.inr rfl) (by decide +kernel) (by decide +kernel) hf
def wX11_in_0 : List En := [(.iload_n 0, 0, 0, 0), (.iload_n 1, 0, 0, 0), (.if_icmp .lt 12, 14, 0, 0)]
def fX11_in_0 (v0 : Int32) (v1 : Int32) (v2 : Int32) (h : aH) : Option (Int32 × aH) :=
  if v0 < v1 then fX11_in_14 h else fX11_in_5 v0 v2 h
theorem tX11_in_0 {d : Nat} {z : Int32 × aH} (v0 : Int32) (v1 : Int32) (v2 : Int32) (h : aH) (hf : fX11_in_0 v0 v1 v2 h = some z) : Ev (d + 0) none mX11_in (0, 0) 0 [.int v0, .int v1, .int v2] [] h (QZ z) := 
  go_ok (X := none) (blk := wX11_in_0) (np := 5) (tt := 14) (kN := fun xs h st => app [1, 0, 1] (fun v0 v2 => apS [] (fX11_in_5 v0 v2 h) st) xs) (kT := fun xs h st => app [0, 0, 0] (apS [] (fX11_in_14 h) st) xs) (kR := kRZ)
    (fun xs h st q => jm [1, 0, 1] _ (fun v0 v2 q => apS_ok [] _ (fun st => Ev (d + 0) none mX11_in (0, 0) 5 [.int v0, .null, .int v2] st h (QZ z)) st (fun q => tX11_in_5 v0 v2 h q) q) q)
    (fun xs h st q => jm [0, 0, 0] _ (fun q => apS_ok [] _ (fun st => Ev (d + 0) none mX11_in (0, 0) 14 [.null, .null, .null] st h (QZ z)) st (fun q => tX11_in_14 h q) q) q)
    kRZ_ok (Or.inr rfl) (by decide +kernel) (by decide +kernel) hf
def gX11_in (v0 : Int32) (v1 : Int32) (v2 : Int32) (h : aH) : Option (Int32 × aH) := fX11_in_0 v0 v1 v2 h
theorem zX11_in {d : Nat} {z : Int32 × aH} {v0 : Int32} {v1 : Int32} {v2 : Int32} {h : aH} (q : gX11_in v0 v1 v2 h = some z) : CT (d + 0) mX11_in (0, 0) [.int v0, .int v1, .int v2] h (QZ z) :=
  ct_ev (by decide +kernel) (Nat.le_of_ble_eq_true rfl) QZ_r (jm [1, 1, 1] (fun v0 v1 v2 => fX11_in_0 v0 v1 v2 h) (fun v0 v1 v2 q => tX11_in_0 v0 v1 v2 h q) q)
def wX11_isDigit_17 : List En := [(.ireturn, 0, 0, 0)]
def fX11_isDigit_17 (s0 : Int32) (h : aH) : Option (Int32 × aH) :=
  if s0 = 0 ∨ s0 = 1 then some (s0, h) else none
theorem tX11_isDigit_17 {d : Nat} {z : Int32 × aH} (s0 : Int32) (h : aH) (hf : fX11_isDigit_17 s0 h = some z) : Ev (d + 0) none mX11_isDigit (0, 0) 17 [.null] [.int s0] h (QZ z) := 
  go_ok (X := none) (blk := wX11_isDigit_17) (np := 18) (tt := 0) (kN := fun _ _ _ => none) (kT := fun _ _ _ => none) (kR := kRZ)
    (fun _ _ _ q => nos q)
    (fun _ _ _ q => nos q)
    kRZ_ok (Or.inr rfl) (by decide +kernel) (by decide +kernel) hf
def wX11_isDigit_16 : List En := [(.iconst 0, 0, 0, 0)]
def fX11_isDigit_16 (h : aH) : Option (Int32 × aH) :=
  fX11_isDigit_17 (kI 0) h
theorem tX11_isDigit_16 {d : Nat} {z : Int32 × aH} (h : aH) (hf : fX11_isDigit_16 h = some z) : Ev (d + 0) none mX11_isDigit (0, 0) 16 [.null] [] h (QZ z) := 
  go_ok (X := none) (blk := wX11_isDigit_16) (np := 17) (tt := 0) (kN := fun xs h st => app [0] (apS [1] (fun s0 => fX11_isDigit_17 s0 h) st) xs) (kT := fun _ _ _ => none) (kR := kRZ)
    (fun xs h st q => jm [0] _ (fun q => apS_ok [1] _ (fun st => Ev (d + 0) none mX11_isDigit (0, 0) 17 [.null] st h (QZ z)) st (fun s0 q => tX11_isDigit_17 s0 h q) q) q)
    (fun _ _ _ q => nos q)
    kRZ_ok (Or.inr rfl) (by decide +kernel) (by decide +kernel) hf
def wX11_isDigit_12 : List En := [(.iconst 1, 0, 0, 0), (.goto 4, 17, 0, 0)]
def fX11_isDigit_12 (h : aH) : Option (Int32 × aH) :=
  fX11_isDigit_17 (kI 1) h
theorem tX11_isDigit_12 {d : Nat} {z : Int32 × aH} (h : aH) (hf : fX11_isDigit_12 h = some z) : Ev (d + 0) none mX11_isDigit (0, 0) 12 [.null] [] h (QZ z) := 
  go_ok (X := none) (blk := wX11_isDigit_12) (np := 16) (tt := 17) (kN := fun _ _ _ => none) (kT := fun xs h st => app [0] (apS [1] (fun s0 => fX11_isDigit_17 s0 h) st) xs) (kR := kRZ)
    (fun _ _ _ q => nos q)
    (fun xs h st q => jm [0] _ (fun q => apS_ok [1] _ (fun st => Ev (d + 0) none mX11_isDigit (0, 0) 17 [.null] st h (QZ z)) st (fun s0 q => tX11_isDigit_17 s0 h q) q) q)
    kRZ_ok (Or.inr rfl) (by decide +kernel) (by decide +kernel) hf
def wX11_isDigit_6 : List En := [(.iload_n 0, 0, 0, 0), (.bipush 57, 0, 0, 0), (.if_icmp .gt 7, 16, 0, 0)]
def fX11_isDigit_6 (v0 : Int32) (h : aH) : Option (Int32 × aH) :=
  if (kB 57) < v0 then fX11_isDigit_16 h else fX11_isDigit_12 h
theorem tX11_isDigit_6 {d : Nat} {z : Int32 × aH} (v0 : Int32) (h : aH) (hf : fX11_isDigit_6 v0 h = some z) : Ev (d + 0) none mX11_isDigit (0, 0) 6 [.int v0] [] h (QZ z) := 
  go_ok (X := none) (blk := wX11_isDigit_6) (np := 12) (tt := 16) (kN := fun xs h st => app [0] (apS [] (fX11_isDigit_12 h) st) xs) (kT := fun xs h st => app [0] (apS [] (fX11_isDigit_16 h) st) xs) (kR := kRZ)
    (fun xs h st q => jm [0] _ (fun q => apS_ok [] _ (fun st => Ev (d + 0) none mX11_isDigit (0, 0) 12 [.null] st h (QZ z)) st (fun q => tX11_isDigit_12 h q) q) q)
    (fun xs h st q => jm [0] _ (fun q => apS_ok [] _ (fun st => Ev (d + 0) none mX11_isDigit (0, 0) 16 [.null] st h (QZ z)) st (fun q => tX11_isDigit_16 h q) q) q)
    kRZ_ok (Or.inr rfl) (by decide +kernel) (by decide +kernel) hf
def wX11_isDigit_0 : List En := [(.iload_n 0, 0, 0, 0), (.bipush 48, 0, 0, 0), (.if_icmp .lt 13, 16, 0, 0)]
def fX11_isDigit_0 (v0 : Int32) (h : aH) : Option (Int32 × aH) :=
  if v0 < (kB 48) then fX11_isDigit_16 h else fX11_isDigit_6 v0 h
theorem tX11_isDigit_0 {d : Nat} {z : Int32 × aH} (v0 : Int32) (h : aH) (hf : fX11_isDigit_0 v0 h = some z) : Ev (d + 0) none mX11_isDigit (0, 0) 0 [.int v0] [] h (QZ z) := 
  go_ok (X := none) (blk := wX11_isDigit_0) (np := 6) (tt := 16) (kN := fun xs h st => app [1] (fun v0 => apS [] (fX11_isDigit_6 v0 h) st) xs) (kT := fun xs h st => app [0] (apS [] (fX11_isDigit_16 h) st) xs) (kR := kRZ)
    (fun xs h st q => jm [1] _ (fun v0 q => apS_ok [] _ (fun st => Ev (d + 0) none mX11_isDigit (0, 0) 6 [.int v0] st h (QZ z)) st (fun q => tX11_isDigit_6 v0 h q) q) q)
    (fun xs h st q => jm [0] _ (fun q => apS_ok [] _ (fun st => Ev (d + 0) none mX11_isDigit (0, 0) 16 [.null] st h (QZ z)) st (fun q => tX11_isDigit_16 h q) q) q)
    kRZ_ok (Or.inr rfl) (by decide +kernel) (by decide +kernel) hf
def gX11_isDigit (v0 : Int32) (h : aH) : Option (Int32 × aH) := fX11_isDigit_0 v0 h
theorem zX11_isDigit {d : Nat} {z : Int32 × aH} {v0 : Int32} {h : aH} (q : gX11_isDigit v0 h = some z) : CT (d + 0) mX11_isDigit (0, 0) [.int v0] h (QZ z) :=
  ct_ev (by decide +kernel) (Nat.le_of_ble_eq_true rfl) QZ_r (jm [1] (fun v0 => fX11_isDigit_0 v0 h) (fun v0 q => tX11_isDigit_0 v0 h q) q)
def wX11_isSmall_17 : List En := [(.ireturn, 0, 0, 0)]
def fX11_isSmall_17 (s0 : Int32) (h : aH) : Option (Int32 × aH) :=
  if s0 = 0 ∨ s0 = 1 then some (s0, h) else none
theorem tX11_isSmall_17 {d : Nat} {z : Int32 × aH} (s0 : Int32) (h : aH) (hf : fX11_isSmall_17 s0 h = some z) : Ev (d + 0) none mX11_isSmall (0, 0) 17 [.null] [.int s0] h (QZ z) := 
  go_ok (X := none) (blk := wX11_isSmall_17) (np := 18) (tt := 0) (kN := fun _ _ _ => none) (kT := fun _ _ _ => none) (kR := kRZ)
    (fun _ _ _ q => nos q)
    (fun _ _ _ q => nos q)
    kRZ_ok (Or.inr rfl) (by decide +kernel) (by decide +kernel) hf
def wX11_isSmall_16 : List En := [(.iconst 0, 0, 0, 0)]
def fX11_isSmall_16 (h : aH) : Option (Int32 × aH) :=
  fX11_isSmall_17 (kI 0) h
theorem tX11_isSmall_16 {d : Nat} {z : Int32 × aH} (h : aH) (hf : fX11_isSmall_16 h = some z) : Ev (d + 0) none mX11_isSmall (0, 0) 16 [.null] [] h (QZ z) := 
  go_ok (X := none) (blk := wX11_isSmall_16) (np := 17) (tt := 0) (kN := fun xs h st => app [0] (apS [1] (fun s0 => fX11_isSmall_17 s0 h) st) xs) (kT := fun _ _ _ => none) (kR := kRZ)
    (fun xs h st q => jm [0] _ (fun q => apS_ok [1] _ (fun st => Ev (d + 0) none mX11_isSmall (0, 0) 17 [.null] st h (QZ z)) st (fun s0 q => tX11_isSmall_17 s0 h q) q) q)
    (fun _ _ _ q => nos q)
    kRZ_ok (Or.inr rfl) (by decide +kernel) (by decide +kernel) hf
def wX11_isSmall_12 : List En := [(.iconst 1, 0, 0, 0), (.goto 4, 17, 0, 0)]
def fX11_isSmall_12 (h : aH) : Option (Int32 × aH) :=
  fX11_isSmall_17 (kI 1) h
theorem tX11_isSmall_12 {d : Nat} {z : Int32 × aH} (h : aH) (hf : fX11_isSmall_12 h = some z) : Ev (d + 0) none mX11_isSmall (0, 0) 12 [.null] [] h (QZ z) := 
  go_ok (X := none) (blk := wX11_isSmall_12) (np := 16) (tt := 17) (kN := fun _ _ _ => none) (kT := fun xs h st => app [0] (apS [1] (fun s0 => fX11_isSmall_17 s0 h) st) xs) (kR := kRZ)
    (fun _ _ _ q => nos q)
    (fun xs h st q => jm [0] _ (fun q => apS_ok [1] _ (fun st => Ev (d + 0) none mX11_isSmall (0, 0) 17 [.null] st h (QZ z)) st (fun s0 q => tX11_isSmall_17 s0 h q) q) q)
    kRZ_ok (Or.inr rfl) (by decide +kernel) (by decide +kernel) hf
def wX11_isSmall_6 : List En := [(.iload_n 0, 0, 0, 0), (.bipush 122, 0, 0, 0), (.if_icmp .gt 7, 16, 0, 0)]
def fX11_isSmall_6 (v0 : Int32) (h : aH) : Option (Int32 × aH) :=
  if (kB 122) < v0 then fX11_isSmall_16 h else fX11_isSmall_12 h
theorem tX11_isSmall_6 {d : Nat} {z : Int32 × aH} (v0 : Int32) (h : aH) (hf : fX11_isSmall_6 v0 h = some z) : Ev (d + 0) none mX11_isSmall (0, 0) 6 [.int v0] [] h (QZ z) := 
  go_ok (X := none) (blk := wX11_isSmall_6) (np := 12) (tt := 16) (kN := fun xs h st => app [0] (apS [] (fX11_isSmall_12 h) st) xs) (kT := fun xs h st => app [0] (apS [] (fX11_isSmall_16 h) st) xs) (kR := kRZ)
    (fun xs h st q => jm [0] _ (fun q => apS_ok [] _ (fun st => Ev (d + 0) none mX11_isSmall (0, 0) 12 [.null] st h (QZ z)) st (fun q => tX11_isSmall_12 h q) q) q)
    (fun xs h st q => jm [0] _ (fun q => apS_ok [] _ (fun st => Ev (d + 0) none mX11_isSmall (0, 0) 16 [.null] st h (QZ z)) st (fun q => tX11_isSmall_16 h q) q) q)
    kRZ_ok (Or.inr rfl) (by decide +kernel) (by decide +kernel) hf
def wX11_isSmall_0 : List En := [(.iload_n 0, 0, 0, 0), (.bipush 97, 0, 0, 0), (.if_icmp .lt 13, 16, 0, 0)]
def fX11_isSmall_0 (v0 : Int32) (h : aH) : Option (Int32 × aH) :=
  if v0 < (kB 97) then fX11_isSmall_16 h else fX11_isSmall_6 v0 h
theorem tX11_isSmall_0 {d : Nat} {z : Int32 × aH} (v0 : Int32) (h : aH) (hf : fX11_isSmall_0 v0 h = some z) : Ev (d + 0) none mX11_isSmall (0, 0) 0 [.int v0] [] h (QZ z) := 
  go_ok (X := none) (blk := wX11_isSmall_0) (np := 6) (tt := 16) (kN := fun xs h st => app [1] (fun v0 => apS [] (fX11_isSmall_6 v0 h) st) xs) (kT := fun xs h st => app [0] (apS [] (fX11_isSmall_16 h) st) xs) (kR := kRZ)
    (fun xs h st q => jm [1] _ (fun v0 q => apS_ok [] _ (fun st => Ev (d + 0) none mX11_isSmall (0, 0) 6 [.int v0] st h (QZ z)) st (fun q => tX11_isSmall_6 v0 h q) q) q)
    (fun xs h st q => jm [0] _ (fun q => apS_ok [] _ (fun st => Ev (d + 0) none mX11_isSmall (0, 0) 16 [.null] st h (QZ z)) st (fun q => tX11_isSmall_16 h q) q) q)
    kRZ_ok (Or.inr rfl) (by decide +kernel) (by decide +kernel) hf
def gX11_isSmall (v0 : Int32) (h : aH) : Option (Int32 × aH) := fX11_isSmall_0 v0 h
theorem zX11_isSmall {d : Nat} {z : Int32 × aH} {v0 : Int32} {h : aH} (q : gX11_isSmall v0 h = some z) : CT (d + 0) mX11_isSmall (0, 0) [.int v0] h (QZ z) :=
  ct_ev (by decide +kernel) (Nat.le_of_ble_eq_true rfl) QZ_r (jm [1] (fun v0 => fX11_isSmall_0 v0 h) (fun v0 q => tX11_isSmall_0 v0 h q) q)
def wX11_see_18 : List En := [(.ireturn, 0, 0, 0)]
def fX11_see_18 (s0 : Int32) (h : aH) : Option (Int32 × aH) :=
  some (s0, h)
theorem tX11_see_18 {d : Nat} {z : Int32 × aH} (s0 : Int32) (h : aH) (hf : fX11_see_18 s0 h = some z) : Ev (d + 0) none mX11_see (0, 0) 18 [.null, .null] [.int s0] h (QI z) := 
  go_ok (X := none) (blk := wX11_see_18) (np := 19) (tt := 0) (kN := fun _ _ _ => none) (kT := fun _ _ _ => none) (kR := kRI)
    (fun _ _ _ q => nos q)
    (fun _ _ _ q => nos q)
    kRI_ok (Or.inr rfl) (by decide +kernel) (by decide +kernel) hf
def wX11_see_17 : List En := [(.iconst (-1), 0, 0, 0)]
def fX11_see_17 (h : aH) : Option (Int32 × aH) :=
  fX11_see_18 (kI (-1)) h
theorem tX11_see_17 {d : Nat} {z : Int32 × aH} (h : aH) (hf : fX11_see_17 h = some z) : Ev (d + 0) none mX11_see (0, 0) 17 [.null, .null] [] h (QI z) := 
  go_ok (X := none) (blk := wX11_see_17) (np := 18) (tt := 0) (kN := fun xs h st => app [0, 0] (apS [1] (fun s0 => fX11_see_18 s0 h) st) xs) (kT := fun _ _ _ => none) (kR := kRI)
    (fun xs h st q => jm [0, 0] _ (fun q => apS_ok [1] _ (fun st => Ev (d + 0) none mX11_see (0, 0) 18 [.null, .null] st h (QI z)) st (fun s0 q => tX11_see_18 s0 h q) q) q)
    (fun _ _ _ q => nos q)
    kRI_ok (Or.inr rfl) (by decide +kernel) (by decide +kernel) hf
def wX11_see_8 : List En := [(.aload_n 0, 0, 0, 0), (.getfield 7, 176, 11, 1), (.iload_n 1, 0, 0, 0), (.iaload, 0, 0, 0), (.goto 4, 18, 0, 0)]
def fX11_see_8 (v0 : Nat) (v1 : Int32) (h : aH) : Option (Int32 × aH) :=
  (gFR h 11 v0 1).bind fun t1 =>
  (aRI (h[t1]?) v1).bind fun t2 =>
  fX11_see_18 t2 h
theorem tX11_see_8 {d : Nat} {z : Int32 × aH} (v0 : Nat) (v1 : Int32) (h : aH) (hf : fX11_see_8 v0 v1 h = some z) : Ev (d + 0) none mX11_see (0, 0) 8 [.ref v0, .int v1] [] h (QI z) := 
  go_ok (X := none) (blk := wX11_see_8) (np := 17) (tt := 18) (kN := fun _ _ _ => none) (kT := fun xs h st => app [0, 0] (apS [1] (fun s0 => fX11_see_18 s0 h) st) xs) (kR := kRI)
    (fun _ _ _ q => nos q)
    (fun xs h st q => jm [0, 0] _ (fun q => apS_ok [1] _ (fun st => Ev (d + 0) none mX11_see (0, 0) 18 [.null, .null] st h (QI z)) st (fun s0 q => tX11_see_18 s0 h q) q) q)
    kRI_ok (Or.inr rfl) (by decide +kernel) (by decide +kernel) hf
def wX11_see_0 : List En := [(.iload_n 1, 0, 0, 0), (.aload_n 0, 0, 0, 0), (.getfield 62, 178, 11, 3), (.if_icmp .ge 12, 17, 0, 0)]
def fX11_see_0 (v0 : Nat) (v1 : Int32) (h : aH) : Option (Int32 × aH) :=
  (gFI h 11 v0 3).bind fun t1 =>
  if v1 < t1 then fX11_see_8 v0 v1 h else fX11_see_17 h
theorem tX11_see_0 {d : Nat} {z : Int32 × aH} (v0 : Nat) (v1 : Int32) (h : aH) (hf : fX11_see_0 v0 v1 h = some z) : Ev (d + 0) none mX11_see (0, 0) 0 [.ref v0, .int v1] [] h (QI z) := 
  go_ok (X := none) (blk := wX11_see_0) (np := 8) (tt := 17) (kN := fun xs h st => app [2, 1] (fun v0 v1 => apS [] (fX11_see_8 v0 v1 h) st) xs) (kT := fun xs h st => app [0, 0] (apS [] (fX11_see_17 h) st) xs) (kR := kRI)
    (fun xs h st q => jm [2, 1] _ (fun v0 v1 q => apS_ok [] _ (fun st => Ev (d + 0) none mX11_see (0, 0) 8 [.ref v0, .int v1] st h (QI z)) st (fun q => tX11_see_8 v0 v1 h q) q) q)
    (fun xs h st q => jm [0, 0] _ (fun q => apS_ok [] _ (fun st => Ev (d + 0) none mX11_see (0, 0) 17 [.null, .null] st h (QI z)) st (fun q => tX11_see_17 h q) q) q)
    kRI_ok (Or.inr rfl) (by decide +kernel) (by decide +kernel) hf
def gX11_see (v0 : Nat) (v1 : Int32) (h : aH) : Option (Int32 × aH) := fX11_see_0 v0 v1 h
theorem zX11_see {d : Nat} {z : Int32 × aH} {v0 : Nat} {v1 : Int32} {h : aH} (q : gX11_see v0 v1 h = some z) : CT (d + 0) mX11_see (0, 0) [.ref v0, .int v1] h (QI z) :=
  ct_ev (by decide +kernel) (Nat.le_of_ble_eq_true rfl) QI_r (jm [2, 1] (fun v0 v1 => fX11_see_0 v0 v1 h) (fun v0 v1 q => tX11_see_0 v0 v1 h q) q)
def wX11_next_241 : List En := [(.return_, 0, 0, 0)]
def fX11_next_241 (h : aH) : Option (aH) :=
  some h
theorem tX11_next_241 {d : Nat} {z : aH} (h : aH) (hf : fX11_next_241 h = some z) : Ev (d + 1) none mX11_next (0, 0) 241 [.null, .null, .null, .null] [] h (QV z) := 
  go_ok (X := none) (blk := wX11_next_241) (np := 242) (tt := 0) (kN := fun _ _ _ => none) (kT := fun _ _ _ => none) (kR := kRV)
    (fun _ _ _ q => nos q)
    (fun _ _ _ q => nos q)
    kRV_ok (Or.inr rfl) (by decide +kernel) (by decide +kernel) hf
def wX11_next_238 : List En := [(.putfield 81, 181, 11, 6)]
def fX11_next_238 (s0 : Int32) (s1 : Nat) (h : aH) : Option (aH) :=
  (pWV h 11 s1 6 (.int s0)).bind fun h1 =>
  fX11_next_241 h1
theorem tX11_next_238 {d : Nat} {z : aH} (s0 : Int32) (s1 : Nat) (h : aH) (hf : fX11_next_238 s0 s1 h = some z) : Ev (d + 1) none mX11_next (0, 0) 238 [.null, .null, .null, .null] [.int s0, .ref s1] h (QV z) := 
  go_ok (X := none) (blk := wX11_next_238) (np := 241) (tt := 0) (kN := fun xs h st => app [0, 0, 0, 0] (apS [] (fX11_next_241 h) st) xs) (kT := fun _ _ _ => none) (kR := kRV)
    (fun xs h st q => jm [0, 0, 0, 0] _ (fun q => apS_ok [] _ (fun st => Ev (d + 1) none mX11_next (0, 0) 241 [.null, .null, .null, .null] st h (QV z)) st (fun q => tX11_next_241 h q) q) q)
    (fun _ _ _ q => nos q)
    kRV_ok (Or.inr rfl) (by decide +kernel) (by decide +kernel) hf
def wX11_next_237 : List En := [(.iconst 1, 0, 0, 0)]
def fX11_next_237 (s0 : Nat) (h : aH) : Option (aH) :=
  fX11_next_238 (kI 1) s0 h
theorem tX11_next_237 {d : Nat} {z : aH} (s0 : Nat) (h : aH) (hf : fX11_next_237 s0 h = some z) : Ev (d + 1) none mX11_next (0, 0) 237 [.null, .null, .null, .null] [.ref s0] h (QV z) := 
  go_ok (X := none) (blk := wX11_next_237) (np := 238) (tt := 0) (kN := fun xs h st => app [0, 0, 0, 0] (apS [1, 2] (fun s0 s1 => fX11_next_238 s0 s1 h) st) xs) (kT := fun _ _ _ => none) (kR := kRV)
    (fun xs h st q => jm [0, 0, 0, 0] _ (fun q => apS_ok [1, 2] _ (fun st => Ev (d + 1) none mX11_next (0, 0) 238 [.null, .null, .null, .null] st h (QV z)) st (fun s0 s1 q => tX11_next_238 s0 s1 h q) q) q)
    (fun _ _ _ q => nos q)
    kRV_ok (Or.inr rfl) (by decide +kernel) (by decide +kernel) hf
def wX11_next_233 : List En := [(.iload_n 2, 0, 0, 0), (.goto 4, 238, 0, 0)]
def fX11_next_233 (v2 : Int32) (s0 : Nat) (h : aH) : Option (aH) :=
  fX11_next_238 v2 s0 h
theorem tX11_next_233 {d : Nat} {z : aH} (v2 : Int32) (s0 : Nat) (h : aH) (hf : fX11_next_233 v2 s0 h = some z) : Ev (d + 1) none mX11_next (0, 0) 233 [.null, .null, .int v2, .null] [.ref s0] h (QV z) := 
  go_ok (X := none) (blk := wX11_next_233) (np := 237) (tt := 238) (kN := fun _ _ _ => none) (kT := fun xs h st => app [0, 0, 0, 0] (apS [1, 2] (fun s0 s1 => fX11_next_238 s0 s1 h) st) xs) (kR := kRV)
    (fun _ _ _ q => nos q)
    (fun xs h st q => jm [0, 0, 0, 0] _ (fun q => apS_ok [1, 2] _ (fun st => Ev (d + 1) none mX11_next (0, 0) 238 [.null, .null, .null, .null] st h (QV z)) st (fun s0 s1 q => tX11_next_238 s0 s1 h q) q) q)
    kRV_ok (Or.inr rfl) (by decide +kernel) (by decide +kernel) hf
def wX11_next_219 : List En := [(.aload_n 0, 0, 0, 0), (.iload_n 1, 0, 0, 0), (.iconst 1, 0, 0, 0), (.iadd, 0, 0, 0), (.putfield 65, 180, 11, 5), (.aload_n 0, 0, 0, 0), (.iload_n 2, 0, 0, 0), (.bipush 59, 0, 0, 0), (.if_icmp .ne 7, 237, 0, 0)]
def fX11_next_219 (v0 : Nat) (v1 : Int32) (v2 : Int32) (h : aH) : Option (aH) :=
  (pWV h 11 v0 5 (.int (v1 + (kI 1)))).bind fun h1 =>
  if v2 = (kB 59) then fX11_next_233 v2 v0 h1 else fX11_next_237 v0 h1
theorem tX11_next_219 {d : Nat} {z : aH} (v0 : Nat) (v1 : Int32) (v2 : Int32) (h : aH) (hf : fX11_next_219 v0 v1 v2 h = some z) : Ev (d + 1) none mX11_next (0, 0) 219 [.ref v0, .int v1, .int v2, .null] [] h (QV z) := 
  go_ok (X := none) (blk := wX11_next_219) (np := 233) (tt := 237) (kN := fun xs h st => app [0, 0, 1, 0] (fun v2 => apS [2] (fun s0 => fX11_next_233 v2 s0 h) st) xs) (kT := fun xs h st => app [0, 0, 0, 0] (apS [2] (fun s0 => fX11_next_237 s0 h) st) xs) (kR := kRV)
    (fun xs h st q => jm [0, 0, 1, 0] _ (fun v2 q => apS_ok [2] _ (fun st => Ev (d + 1) none mX11_next (0, 0) 233 [.null, .null, .int v2, .null] st h (QV z)) st (fun s0 q => tX11_next_233 v2 s0 h q) q) q)
    (fun xs h st q => jm [0, 0, 0, 0] _ (fun q => apS_ok [2] _ (fun st => Ev (d + 1) none mX11_next (0, 0) 237 [.null, .null, .null, .null] st h (QV z)) st (fun s0 q => tX11_next_237 s0 h q) q) q)
    kRV_ok (Or.inr rfl) (by decide +kernel) (by decide +kernel) hf
def wX11_next_213 : List En := [(.putfield 81, 181, 11, 6), (.goto 25, 241, 0, 0)]
def fX11_next_213 (s0 : Int32) (s1 : Nat) (h : aH) : Option (aH) :=
  (pWV h 11 s1 6 (.int s0)).bind fun h1 =>
  fX11_next_241 h1
theorem tX11_next_213 {d : Nat} {z : aH} (s0 : Int32) (s1 : Nat) (h : aH) (hf : fX11_next_213 s0 s1 h = some z) : Ev (d + 1) none mX11_next (0, 0) 213 [.null, .null, .null, .null] [.int s0, .ref s1] h (QV z) := 
  go_ok (X := none) (blk := wX11_next_213) (np := 219) (tt := 241) (kN := fun _ _ _ => none) (kT := fun xs h st => app [0, 0, 0, 0] (apS [] (fX11_next_241 h) st) xs) (kR := kRV)
    (fun _ _ _ q => nos q)
    (fun xs h st q => jm [0, 0, 0, 0] _ (fun q => apS_ok [] _ (fun st => Ev (d + 1) none mX11_next (0, 0) 241 [.null, .null, .null, .null] st h (QV z)) st (fun q => tX11_next_241 h q) q) q)
    kRV_ok (Or.inr rfl) (by decide +kernel) (by decide +kernel) hf
def wX11_next_212 : List En := [(.iconst 3, 0, 0, 0)]
def fX11_next_212 (s0 : Nat) (h : aH) : Option (aH) :=
  fX11_next_213 (kI 3) s0 h
theorem tX11_next_212 {d : Nat} {z : aH} (s0 : Nat) (h : aH) (hf : fX11_next_212 s0 h = some z) : Ev (d + 1) none mX11_next (0, 0) 212 [.null, .null, .null, .null] [.ref s0] h (QV z) := 
  go_ok (X := none) (blk := wX11_next_212) (np := 213) (tt := 0) (kN := fun xs h st => app [0, 0, 0, 0] (apS [1, 2] (fun s0 s1 => fX11_next_213 s0 s1 h) st) xs) (kT := fun _ _ _ => none) (kR := kRV)
    (fun xs h st q => jm [0, 0, 0, 0] _ (fun q => apS_ok [1, 2] _ (fun st => Ev (d + 1) none mX11_next (0, 0) 213 [.null, .null, .null, .null] st h (QV z)) st (fun s0 s1 q => tX11_next_213 s0 s1 h q) q) q)
    (fun _ _ _ q => nos q)
    kRV_ok (Or.inr rfl) (by decide +kernel) (by decide +kernel) hf
def wX11_next_208 : List En := [(.iconst 1, 0, 0, 0), (.goto 4, 213, 0, 0)]
def fX11_next_208 (s0 : Nat) (h : aH) : Option (aH) :=
  fX11_next_213 (kI 1) s0 h
theorem tX11_next_208 {d : Nat} {z : aH} (s0 : Nat) (h : aH) (hf : fX11_next_208 s0 h = some z) : Ev (d + 1) none mX11_next (0, 0) 208 [.null, .null, .null, .null] [.ref s0] h (QV z) := 
  go_ok (X := none) (blk := wX11_next_208) (np := 212) (tt := 213) (kN := fun _ _ _ => none) (kT := fun xs h st => app [0, 0, 0, 0] (apS [1, 2] (fun s0 s1 => fX11_next_213 s0 s1 h) st) xs) (kR := kRV)
    (fun _ _ _ q => nos q)
    (fun xs h st q => jm [0, 0, 0, 0] _ (fun q => apS_ok [1, 2] _ (fun st => Ev (d + 1) none mX11_next (0, 0) 213 [.null, .null, .null, .null] st h (QV z)) st (fun s0 s1 q => tX11_next_213 s0 s1 h q) q) q)
    kRV_ok (Or.inr rfl) (by decide +kernel) (by decide +kernel) hf
def wX11_next_197 : List En := [(.aload_n 0, 0, 0, 0), (.iload_n 1, 0, 0, 0), (.putfield 65, 180, 11, 5), (.aload_n 0, 0, 0, 0), (.iload_n 3, 0, 0, 0), (.iconst 3, 0, 0, 0), (.if_icmp .le 7, 212, 0, 0)]
def fX11_next_197 (v0 : Nat) (v1 : Int32) (v3 : Int32) (h : aH) : Option (aH) :=
  (pWV h 11 v0 5 (.int v1)).bind fun h1 =>
  if (kI 3) < v3 then fX11_next_208 v0 h1 else fX11_next_212 v0 h1
theorem tX11_next_197 {d : Nat} {z : aH} (v0 : Nat) (v1 : Int32) (v3 : Int32) (h : aH) (hf : fX11_next_197 v0 v1 v3 h = some z) : Ev (d + 1) none mX11_next (0, 0) 197 [.ref v0, .int v1, .null, .int v3] [] h (QV z) := 
  go_ok (X := none) (blk := wX11_next_197) (np := 208) (tt := 212) (kN := fun xs h st => app [0, 0, 0, 0] (apS [2] (fun s0 => fX11_next_208 s0 h) st) xs) (kT := fun xs h st => app [0, 0, 0, 0] (apS [2] (fun s0 => fX11_next_212 s0 h) st) xs) (kR := kRV)
    (fun xs h st q => jm [0, 0, 0, 0] _ (fun q => apS_ok [2] _ (fun st => Ev (d + 1) none mX11_next (0, 0) 208 [.null, .null, .null, .null] st h (QV z)) st (fun s0 q => tX11_next_208 s0 h q) q) q)
    (fun xs h st q => jm [0, 0, 0, 0] _ (fun q => apS_ok [2] _ (fun st => Ev (d + 1) none mX11_next (0, 0) 212 [.null, .null, .null, .null] st h (QV z)) st (fun s0 q => tX11_next_212 s0 h q) q) q)
    kRV_ok (Or.inr rfl) (by decide +kernel) (by decide +kernel) hf
def wX11_next_188 : List En := [(.iinc 3 1, 0, 0, 0), (.iinc 1 1, 0, 0, 0), (.goto (-42), 152, 0, 0)]
def fX11_next_188 (k152 : Nat → Int32 → Int32 → aH → Option (aH)) (v0 : Nat) (v1 : Int32) (v3 : Int32) (h : aH) : Option (aH) :=
  k152 v0 (v1 + kI 1) (v3 + kI 1) h
theorem tX11_next_188 {d : Nat} {z : aH} {k152 : Nat → Int32 → Int32 → aH → Option (aH)} (hk152 : ∀ (v0 : Nat) (v1 : Int32) (v3 : Int32) (h : aH), k152 v0 v1 v3 h = some z → Ev (d + 1) none mX11_next (0, 0) 152 [.ref v0, .int v1, .null, .int v3] [] h (QV z)) (v0 : Nat) (v1 : Int32) (v3 : Int32) (h : aH) (hf : fX11_next_188 k152 v0 v1 v3 h = some z) : Ev (d + 1) none mX11_next (0, 0) 188 [.ref v0, .int v1, .null, .int v3] [] h (QV z) := 
  go_ok (X := none) (blk := wX11_next_188) (np := 197) (tt := 152) (kN := fun _ _ _ => none) (kT := fun xs h st => app [2, 1, 0, 1] (fun v0 v1 v3 => apS [] (k152 v0 v1 v3 h) st) xs) (kR := kRV)
    (fun _ _ _ q => nos q)
    (fun xs h st q => jm [2, 1, 0, 1] _ (fun v0 v1 v3 q => apS_ok [] _ (fun st => Ev (d + 1) none mX11_next (0, 0) 152 [.ref v0, .int v1, .null, .int v3] st h (QV z)) st (fun q => hk152 v0 v1 v3 h q) q) q)
    kRV_ok (Or.inr rfl) (by decide +kernel) (by decide +kernel) hf
def wX11_next_181 : List En := [(.iadd, 0, 0, 0), (.bipush 48, 0, 0, 0), (.isub, 0, 0, 0), (.putfield 78, 182, 11, 7)]
def fX11_next_181 (k152 : Nat → Int32 → Int32 → aH → Option (aH)) (v0 : Nat) (v1 : Int32) (v3 : Int32) (s0 : Int32) (s1 : Int32) (s2 : Nat) (h : aH) : Option (aH) :=
  (pWV h 11 s2 7 (.int ((s1 + s0) - (kB 48)))).bind fun h1 =>
  fX11_next_188 k152 v0 v1 v3 h1
theorem tX11_next_181 {d : Nat} {z : aH} {k152 : Nat → Int32 → Int32 → aH → Option (aH)} (hk152 : ∀ (v0 : Nat) (v1 : Int32) (v3 : Int32) (h : aH), k152 v0 v1 v3 h = some z → Ev (d + 1) none mX11_next (0, 0) 152 [.ref v0, .int v1, .null, .int v3] [] h (QV z)) (v0 : Nat) (v1 : Int32) (v3 : Int32) (s0 : Int32) (s1 : Int32) (s2 : Nat) (h : aH) (hf : fX11_next_181 k152 v0 v1 v3 s0 s1 s2 h = some z) : Ev (d + 1) none mX11_next (0, 0) 181 [.ref v0, .int v1, .null, .int v3] [.int s0, .int s1, .ref s2] h (QV z) := 
  go_ok (X := none) (blk := wX11_next_181) (np := 188) (tt := 0) (kN := fun xs h st => app [2, 1, 0, 1] (fun v0 v1 v3 => apS [] (fX11_next_188 k152 v0 v1 v3 h) st) xs) (kT := fun _ _ _ => none) (kR := kRV)
    (fun xs h st q => jm [2, 1, 0, 1] _ (fun v0 v1 v3 q => apS_ok [] _ (fun st => Ev (d + 1) none mX11_next (0, 0) 188 [.ref v0, .int v1, .null, .int v3] st h (QV z)) st (fun q => tX11_next_188 hk152 v0 v1 v3 h q) q) q)
    (fun _ _ _ q => nos q)
    kRV_ok (Or.inr rfl) (by decide +kernel) (by decide +kernel) hf
theorem kqX11_next_178 : okC mX11_next 178 (.invokevirtual 68) 185 200 0 1 = true := by decide +kernel
def fX11_next_178 (k152 : Nat → Int32 → Int32 → aH → Option (aH)) (v0 : Nat) (v1 : Int32) (v3 : Int32) (s0 : Int32) (s1 : Nat) (s2 : Int32) (s3 : Nat) (h : aH) : Option (aH) :=
  (isO h 11 s1).bind fun _ =>
  (gX11_see s1 s0 h).bind fun r =>
  fX11_next_181 k152 v0 v1 v3 r.1 s2 s3 r.2
theorem tX11_next_178 {d : Nat} {z : aH} {k152 : Nat → Int32 → Int32 → aH → Option (aH)} (hk152 : ∀ (v0 : Nat) (v1 : Int32) (v3 : Int32) (h : aH), k152 v0 v1 v3 h = some z → Ev (d + 1) none mX11_next (0, 0) 152 [.ref v0, .int v1, .null, .int v3] [] h (QV z)) (v0 : Nat) (v1 : Int32) (v3 : Int32) (s0 : Int32) (s1 : Nat) (s2 : Int32) (s3 : Nat) (h : aH) (hf : fX11_next_178 k152 v0 v1 v3 s0 s1 s2 s3 h = some z) : Ev (d + 1) none mX11_next (0, 0) 178 [.ref v0, .int v1, .null, .int v3] [.int s0, .ref s1, .int s2, .ref s3] h (QV z) := by
  obtain ⟨_, h1, hf⟩ := bnd hf
  obtain ⟨fs, ho⟩ := isO_ok h1
  obtain ⟨r, h2, hf⟩ := bnd hf
  refine ev_V kqX11_next_178 jX11_see (zX11_see (d := d + 0) h2) ho rfl rfl (Nat.le_of_ble_eq_true rfl) rfl (as := [.int s0]) (rest := [.int s2, .ref s3]) rfl (Nat.le_of_ble_eq_true rfl) (fun _ _ hq => ?_)
  obtain ⟨rfl, rfl⟩ := hq
  exact jm [2, 1, 0, 1] (fun v0 v1 v3 => fX11_next_181 k152 v0 v1 v3 r.1 s2 s3 r.2) (fun v0 v1 v3 q => tX11_next_181 hk152 v0 v1 v3 r.1 s2 s3 r.2 q) hf
def wX11_next_168 : List En := [(.aload_n 0, 0, 0, 0), (.bipush 10, 0, 0, 0), (.aload_n 0, 0, 0, 0), (.getfield 78, 182, 11, 7), (.imul, 0, 0, 0), (.aload_n 0, 0, 0, 0), (.iload_n 1, 0, 0, 0)]
def fX11_next_168 (k152 : Nat → Int32 → Int32 → aH → Option (aH)) (v0 : Nat) (v1 : Int32) (v3 : Int32) (h : aH) : Option (aH) :=
  (gFI h 11 v0 7).bind fun t1 =>
  fX11_next_178 k152 v0 v1 v3 v1 v0 ((kB 10) * t1) v0 h
theorem tX11_next_168 {d : Nat} {z : aH} {k152 : Nat → Int32 → Int32 → aH → Option (aH)} (hk152 : ∀ (v0 : Nat) (v1 : Int32) (v3 : Int32) (h : aH), k152 v0 v1 v3 h = some z → Ev (d + 1) none mX11_next (0, 0) 152 [.ref v0, .int v1, .null, .int v3] [] h (QV z)) (v0 : Nat) (v1 : Int32) (v3 : Int32) (h : aH) (hf : fX11_next_168 k152 v0 v1 v3 h = some z) : Ev (d + 1) none mX11_next (0, 0) 168 [.ref v0, .int v1, .null, .int v3] [] h (QV z) := 
  go_ok (X := none) (blk := wX11_next_168) (np := 178) (tt := 0) (kN := fun xs h st => app [2, 1, 0, 1] (fun v0 v1 v3 => apS [1, 2, 1, 2] (fun s0 s1 s2 s3 => fX11_next_178 k152 v0 v1 v3 s0 s1 s2 s3 h) st) xs) (kT := fun _ _ _ => none) (kR := kRV)
    (fun xs h st q => jm [2, 1, 0, 1] _ (fun v0 v1 v3 q => apS_ok [1, 2, 1, 2] _ (fun st => Ev (d + 1) none mX11_next (0, 0) 178 [.ref v0, .int v1, .null, .int v3] st h (QV z)) st (fun s0 s1 s2 s3 q => tX11_next_178 hk152 v0 v1 v3 s0 s1 s2 s3 h q) q) q)
    (fun _ _ _ q => nos q)
    kRV_ok (Or.inr rfl) (by decide +kernel) (by decide +kernel) hf
def wX11_next_163 : List En := [(.iload_n 3, 0, 0, 0), (.iconst 3, 0, 0, 0), (.if_icmp .ge 23, 188, 0, 0)]
def fX11_next_163 (k152 : Nat → Int32 → Int32 → aH → Option (aH)) (v0 : Nat) (v1 : Int32) (v3 : Int32) (h : aH) : Option (aH) :=
  if v3 < (kI 3) then fX11_next_168 k152 v0 v1 v3 h else fX11_next_188 k152 v0 v1 v3 h
theorem tX11_next_163 {d : Nat} {z : aH} {k152 : Nat → Int32 → Int32 → aH → Option (aH)} (hk152 : ∀ (v0 : Nat) (v1 : Int32) (v3 : Int32) (h : aH), k152 v0 v1 v3 h = some z → Ev (d + 1) none mX11_next (0, 0) 152 [.ref v0, .int v1, .null, .int v3] [] h (QV z)) (v0 : Nat) (v1 : Int32) (v3 : Int32) (h : aH) (hf : fX11_next_163 k152 v0 v1 v3 h = some z) : Ev (d + 1) none mX11_next (0, 0) 163 [.ref v0, .int v1, .null, .int v3] [] h (QV z) := 
  go_ok (X := none) (blk := wX11_next_163) (np := 168) (tt := 188) (kN := fun xs h st => app [2, 1, 0, 1] (fun v0 v1 v3 => apS [] (fX11_next_168 k152 v0 v1 v3 h) st) xs) (kT := fun xs h st => app [2, 1, 0, 1] (fun v0 v1 v3 => apS [] (fX11_next_188 k152 v0 v1 v3 h) st) xs) (kR := kRV)
    (fun xs h st q => jm [2, 1, 0, 1] _ (fun v0 v1 v3 q => apS_ok [] _ (fun st => Ev (d + 1) none mX11_next (0, 0) 168 [.ref v0, .int v1, .null, .int v3] st h (QV z)) st (fun q => tX11_next_168 hk152 v0 v1 v3 h q) q) q)
    (fun xs h st q => jm [2, 1, 0, 1] _ (fun v0 v1 v3 q => apS_ok [] _ (fun st => Ev (d + 1) none mX11_next (0, 0) 188 [.ref v0, .int v1, .null, .int v3] st h (QV z)) st (fun q => tX11_next_188 hk152 v0 v1 v3 h q) q) q)
    kRV_ok (Or.inr rfl) (by decide +kernel) (by decide +kernel) hf
def wX11_next_160 : List En := [(.ifCond .eq 37, 197, 0, 0)]
def fX11_next_160 (k152 : Nat → Int32 → Int32 → aH → Option (aH)) (v0 : Nat) (v1 : Int32) (v3 : Int32) (s0 : Int32) (h : aH) : Option (aH) :=
  if s0 = 0 then fX11_next_197 v0 v1 v3 h else fX11_next_163 k152 v0 v1 v3 h
theorem tX11_next_160 {d : Nat} {z : aH} {k152 : Nat → Int32 → Int32 → aH → Option (aH)} (hk152 : ∀ (v0 : Nat) (v1 : Int32) (v3 : Int32) (h : aH), k152 v0 v1 v3 h = some z → Ev (d + 1) none mX11_next (0, 0) 152 [.ref v0, .int v1, .null, .int v3] [] h (QV z)) (v0 : Nat) (v1 : Int32) (v3 : Int32) (s0 : Int32) (h : aH) (hf : fX11_next_160 k152 v0 v1 v3 s0 h = some z) : Ev (d + 1) none mX11_next (0, 0) 160 [.ref v0, .int v1, .null, .int v3] [.int s0] h (QV z) := 
  go_ok (X := none) (blk := wX11_next_160) (np := 163) (tt := 197) (kN := fun xs h st => app [2, 1, 0, 1] (fun v0 v1 v3 => apS [] (fX11_next_163 k152 v0 v1 v3 h) st) xs) (kT := fun xs h st => app [2, 1, 0, 1] (fun v0 v1 v3 => apS [] (fX11_next_197 v0 v1 v3 h) st) xs) (kR := kRV)
    (fun xs h st q => jm [2, 1, 0, 1] _ (fun v0 v1 v3 q => apS_ok [] _ (fun st => Ev (d + 1) none mX11_next (0, 0) 163 [.ref v0, .int v1, .null, .int v3] st h (QV z)) st (fun q => tX11_next_163 hk152 v0 v1 v3 h q) q) q)
    (fun xs h st q => jm [2, 1, 0, 1] _ (fun v0 v1 v3 q => apS_ok [] _ (fun st => Ev (d + 1) none mX11_next (0, 0) 197 [.ref v0, .int v1, .null, .int v3] st h (QV z)) st (fun q => tX11_next_197 v0 v1 v3 h q) q) q)
    kRV_ok (Or.inr rfl) (by decide +kernel) (by decide +kernel) hf
theorem kqX11_next_157 : okC mX11_next 157 (.invokestatic 88) 187 202 1 1 = true := by decide +kernel
def fX11_next_157 (k152 : Nat → Int32 → Int32 → aH → Option (aH)) (v0 : Nat) (v1 : Int32) (v3 : Int32) (s0 : Int32) (h : aH) : Option (aH) :=
  (gX11_isDigit s0 h).bind fun r =>
  fX11_next_160 k152 v0 v1 v3 r.1 r.2
theorem tX11_next_157 {d : Nat} {z : aH} {k152 : Nat → Int32 → Int32 → aH → Option (aH)} (hk152 : ∀ (v0 : Nat) (v1 : Int32) (v3 : Int32) (h : aH), k152 v0 v1 v3 h = some z → Ev (d + 1) none mX11_next (0, 0) 152 [.ref v0, .int v1, .null, .int v3] [] h (QV z)) (v0 : Nat) (v1 : Int32) (v3 : Int32) (s0 : Int32) (h : aH) (hf : fX11_next_157 k152 v0 v1 v3 s0 h = some z) : Ev (d + 1) none mX11_next (0, 0) 157 [.ref v0, .int v1, .null, .int v3] [.int s0] h (QV z) := by
  obtain ⟨r, h2, hf⟩ := bnd hf
  refine ev_S kqX11_next_157 jX11_isDigit (zX11_isDigit (d := d + 0) h2) rfl (Nat.le_of_ble_eq_true rfl) rfl (as := [.int s0]) (rest := []) rfl (Nat.le_of_ble_eq_true rfl) (fun _ _ hq => ?_)
  obtain ⟨-, rfl, rfl⟩ := hq
  exact jm [2, 1, 0, 1] (fun v0 v1 v3 => fX11_next_160 k152 v0 v1 v3 r.1 r.2) (fun v0 v1 v3 q => tX11_next_160 hk152 v0 v1 v3 r.1 r.2 q) hf
theorem kqX11_next_154 : okC mX11_next 154 (.invokevirtual 68) 185 200 0 1 = true := by decide +kernel
def fX11_next_154 (k152 : Nat → Int32 → Int32 → aH → Option (aH)) (v0 : Nat) (v1 : Int32) (v3 : Int32) (s0 : Int32) (s1 : Nat) (h : aH) : Option (aH) :=
  (isO h 11 s1).bind fun _ =>
  (gX11_see s1 s0 h).bind fun r =>
  fX11_next_157 k152 v0 v1 v3 r.1 r.2
theorem tX11_next_154 {d : Nat} {z : aH} {k152 : Nat → Int32 → Int32 → aH → Option (aH)} (hk152 : ∀ (v0 : Nat) (v1 : Int32) (v3 : Int32) (h : aH), k152 v0 v1 v3 h = some z → Ev (d + 1) none mX11_next (0, 0) 152 [.ref v0, .int v1, .null, .int v3] [] h (QV z)) (v0 : Nat) (v1 : Int32) (v3 : Int32) (s0 : Int32) (s1 : Nat) (h : aH) (hf : fX11_next_154 k152 v0 v1 v3 s0 s1 h = some z) : Ev (d + 1) none mX11_next (0, 0) 154 [.ref v0, .int v1, .null, .int v3] [.int s0, .ref s1] h (QV z) := by
  obtain ⟨_, h1, hf⟩ := bnd hf
  obtain ⟨fs, ho⟩ := isO_ok h1
  obtain ⟨r, h2, hf⟩ := bnd hf
  refine ev_V kqX11_next_154 jX11_see (zX11_see (d := d + 0) h2) ho rfl rfl (Nat.le_of_ble_eq_true rfl) rfl (as := [.int s0]) (rest := []) rfl (Nat.le_of_ble_eq_true rfl) (fun _ _ hq => ?_)
  obtain ⟨rfl, rfl⟩ := hq
  exact jm [2, 1, 0, 1] (fun v0 v1 v3 => fX11_next_157 k152 v0 v1 v3 r.1 r.2) (fun v0 v1 v3 q => tX11_next_157 hk152 v0 v1 v3 r.1 r.2 q) hf
def wX11_next_152 : List En := [(.aload_n 0, 0, 0, 0), (.iload_n 1, 0, 0, 0)]
def fX11_next_152 (k152 : Nat → Int32 → Int32 → aH → Option (aH)) (v0 : Nat) (v1 : Int32) (v3 : Int32) (h : aH) : Option (aH) :=
  fX11_next_154 k152 v0 v1 v3 v1 v0 h
theorem tX11_next_152 {d : Nat} {z : aH} {k152 : Nat → Int32 → Int32 → aH → Option (aH)} (hk152 : ∀ (v0 : Nat) (v1 : Int32) (v3 : Int32) (h : aH), k152 v0 v1 v3 h = some z → Ev (d + 1) none mX11_next (0, 0) 152 [.ref v0, .int v1, .null, .int v3] [] h (QV z)) (v0 : Nat) (v1 : Int32) (v3 : Int32) (h : aH) (hf : fX11_next_152 k152 v0 v1 v3 h = some z) : Ev (d + 1) none mX11_next (0, 0) 152 [.ref v0, .int v1, .null, .int v3] [] h (QV z) := 
  go_ok (X := none) (blk := wX11_next_152) (np := 154) (tt := 0) (kN := fun xs h st => app [2, 1, 0, 1] (fun v0 v1 v3 => apS [1, 2] (fun s0 s1 => fX11_next_154 k152 v0 v1 v3 s0 s1 h) st) xs) (kT := fun _ _ _ => none) (kR := kRV)
    (fun xs h st q => jm [2, 1, 0, 1] _ (fun v0 v1 v3 q => apS_ok [1, 2] _ (fun st => Ev (d + 1) none mX11_next (0, 0) 154 [.ref v0, .int v1, .null, .int v3] st h (QV z)) st (fun s0 s1 q => tX11_next_154 hk152 v0 v1 v3 s0 s1 h q) q) q)
    (fun _ _ _ q => nos q)
    kRV_ok (Or.inr rfl) (by decide +kernel) (by decide +kernel) hf
def lX11_next_152 : Nat → Nat → Int32 → Int32 → aH → Option (aH)
  | 0, _, _, _, _ => none
  | n + 1, v0, v1, v3, h => fX11_next_152 (lX11_next_152 n) v0 v1 v3 h
theorem uX11_next_152 {d : Nat} {z : aH} : ∀ (n : Nat) (v0 : Nat) (v1 : Int32) (v3 : Int32) (h : aH), lX11_next_152 n v0 v1 v3 h = some z → Ev (d + 1) none mX11_next (0, 0) 152 [.ref v0, .int v1, .null, .int v3] [] h (QV z) := by
  intro n
  induction n with
  | zero => intro _ _ _ _ q; exact nos (show (none : Option (aH)) = some z from q)
  | succ n ih => intro v0 v1 v3 h q; exact tX11_next_152 ih v0 v1 v3 h q
def wX11_next_150 : List En := [(.iconst 0, 0, 0, 0), (.istore_n 3, 0, 0, 0)]
def fX11_next_150 (v0 : Nat) (v1 : Int32) (h : aH) : Option (aH) :=
  lX11_next_152 FU v0 v1 (kI 0) h
theorem tX11_next_150 {d : Nat} {z : aH} (v0 : Nat) (v1 : Int32) (h : aH) (hf : fX11_next_150 v0 v1 h = some z) : Ev (d + 1) none mX11_next (0, 0) 150 [.ref v0, .int v1, .null, .null] [] h (QV z) := 
  go_ok (X := none) (blk := wX11_next_150) (np := 152) (tt := 0) (kN := fun xs h st => app [2, 1, 0, 1] (fun v0 v1 v3 => apS [] (lX11_next_152 FU v0 v1 v3 h) st) xs) (kT := fun _ _ _ => none) (kR := kRV)
    (fun xs h st q => jm [2, 1, 0, 1] _ (fun v0 v1 v3 q => apS_ok [] _ (fun st => Ev (d + 1) none mX11_next (0, 0) 152 [.ref v0, .int v1, .null, .int v3] st h (QV z)) st (fun q => uX11_next_152 FU v0 v1 v3 h q) q) q)
    (fun _ _ _ q => nos q)
    kRV_ok (Or.inr rfl) (by decide +kernel) (by decide +kernel) hf
def wX11_next_147 : List En := [(.ifCond .eq 72, 219, 0, 0)]
def fX11_next_147 (v0 : Nat) (v1 : Int32) (v2 : Int32) (s0 : Int32) (h : aH) : Option (aH) :=
  if s0 = 0 then fX11_next_219 v0 v1 v2 h else fX11_next_150 v0 v1 h
theorem tX11_next_147 {d : Nat} {z : aH} (v0 : Nat) (v1 : Int32) (v2 : Int32) (s0 : Int32) (h : aH) (hf : fX11_next_147 v0 v1 v2 s0 h = some z) : Ev (d + 1) none mX11_next (0, 0) 147 [.ref v0, .int v1, .int v2, .null] [.int s0] h (QV z) := 
  go_ok (X := none) (blk := wX11_next_147) (np := 150) (tt := 219) (kN := fun xs h st => app [2, 1, 0, 0] (fun v0 v1 => apS [] (fX11_next_150 v0 v1 h) st) xs) (kT := fun xs h st => app [2, 1, 1, 0] (fun v0 v1 v2 => apS [] (fX11_next_219 v0 v1 v2 h) st) xs) (kR := kRV)
    (fun xs h st q => jm [2, 1, 0, 0] _ (fun v0 v1 q => apS_ok [] _ (fun st => Ev (d + 1) none mX11_next (0, 0) 150 [.ref v0, .int v1, .null, .null] st h (QV z)) st (fun q => tX11_next_150 v0 v1 h q) q) q)
    (fun xs h st q => jm [2, 1, 1, 0] _ (fun v0 v1 v2 q => apS_ok [] _ (fun st => Ev (d + 1) none mX11_next (0, 0) 219 [.ref v0, .int v1, .int v2, .null] st h (QV z)) st (fun q => tX11_next_219 v0 v1 v2 h q) q) q)
    kRV_ok (Or.inr rfl) (by decide +kernel) (by decide +kernel) hf
theorem kqX11_next_144 : okC mX11_next 144 (.invokestatic 88) 187 202 1 1 = true := by decide +kernel
def fX11_next_144 (v0 : Nat) (v1 : Int32) (v2 : Int32) (s0 : Int32) (h : aH) : Option (aH) :=
  (gX11_isDigit s0 h).bind fun r =>
  fX11_next_147 v0 v1 v2 r.1 r.2
theorem tX11_next_144 {d : Nat} {z : aH} (v0 : Nat) (v1 : Int32) (v2 : Int32) (s0 : Int32) (h : aH) (hf : fX11_next_144 v0 v1 v2 s0 h = some z) : Ev (d + 1) none mX11_next (0, 0) 144 [.ref v0, .int v1, .int v2, .null] [.int s0] h (QV z) := by
  obtain ⟨r, h2, hf⟩ := bnd hf
  refine ev_S kqX11_next_144 jX11_isDigit (zX11_isDigit (d := d + 0) h2) rfl (Nat.le_of_ble_eq_true rfl) rfl (as := [.int s0]) (rest := []) rfl (Nat.le_of_ble_eq_true rfl) (fun _ _ hq => ?_)
  obtain ⟨-, rfl, rfl⟩ := hq
  exact jm [2, 1, 1, 0] (fun v0 v1 v2 => fX11_next_147 v0 v1 v2 r.1 r.2) (fun v0 v1 v2 q => tX11_next_147 v0 v1 v2 r.1 r.2 q) hf
def wX11_next_143 : List En := [(.iload_n 2, 0, 0, 0)]
def fX11_next_143 (v0 : Nat) (v1 : Int32) (v2 : Int32) (h : aH) : Option (aH) :=
  fX11_next_144 v0 v1 v2 v2 h
theorem tX11_next_143 {d : Nat} {z : aH} (v0 : Nat) (v1 : Int32) (v2 : Int32) (h : aH) (hf : fX11_next_143 v0 v1 v2 h = some z) : Ev (d + 1) none mX11_next (0, 0) 143 [.ref v0, .int v1, .int v2, .null] [] h (QV z) := 
  go_ok (X := none) (blk := wX11_next_143) (np := 144) (tt := 0) (kN := fun xs h st => app [2, 1, 1, 0] (fun v0 v1 v2 => apS [1] (fun s0 => fX11_next_144 v0 v1 v2 s0 h) st) xs) (kT := fun _ _ _ => none) (kR := kRV)
    (fun xs h st q => jm [2, 1, 1, 0] _ (fun v0 v1 v2 q => apS_ok [1] _ (fun st => Ev (d + 1) none mX11_next (0, 0) 144 [.ref v0, .int v1, .int v2, .null] st h (QV z)) st (fun s0 q => tX11_next_144 v0 v1 v2 s0 h q) q) q)
    (fun _ _ _ q => nos q)
    kRV_ok (Or.inr rfl) (by decide +kernel) (by decide +kernel) hf
def wX11_next_137 : List En := [(.putfield 81, 181, 11, 6), (.goto 101, 241, 0, 0)]
def fX11_next_137 (s0 : Int32) (s1 : Nat) (h : aH) : Option (aH) :=
  (pWV h 11 s1 6 (.int s0)).bind fun h1 =>
  fX11_next_241 h1
theorem tX11_next_137 {d : Nat} {z : aH} (s0 : Int32) (s1 : Nat) (h : aH) (hf : fX11_next_137 s0 s1 h = some z) : Ev (d + 1) none mX11_next (0, 0) 137 [.null, .null, .null, .null] [.int s0, .ref s1] h (QV z) := 
  go_ok (X := none) (blk := wX11_next_137) (np := 143) (tt := 241) (kN := fun _ _ _ => none) (kT := fun xs h st => app [0, 0, 0, 0] (apS [] (fX11_next_241 h) st) xs) (kR := kRV)
    (fun _ _ _ q => nos q)
    (fun xs h st q => jm [0, 0, 0, 0] _ (fun q => apS_ok [] _ (fun st => Ev (d + 1) none mX11_next (0, 0) 241 [.null, .null, .null, .null] st h (QV z)) st (fun q => tX11_next_241 h q) q) q)
    kRV_ok (Or.inr rfl) (by decide +kernel) (by decide +kernel) hf
def wX11_next_136 : List En := [(.iconst 2, 0, 0, 0)]
def fX11_next_136 (s0 : Nat) (h : aH) : Option (aH) :=
  fX11_next_137 (kI 2) s0 h
theorem tX11_next_136 {d : Nat} {z : aH} (s0 : Nat) (h : aH) (hf : fX11_next_136 s0 h = some z) : Ev (d + 1) none mX11_next (0, 0) 136 [.null, .null, .null, .null] [.ref s0] h (QV z) := 
  go_ok (X := none) (blk := wX11_next_136) (np := 137) (tt := 0) (kN := fun xs h st => app [0, 0, 0, 0] (apS [1, 2] (fun s0 s1 => fX11_next_137 s0 s1 h) st) xs) (kT := fun _ _ _ => none) (kR := kRV)
    (fun xs h st q => jm [0, 0, 0, 0] _ (fun q => apS_ok [1, 2] _ (fun st => Ev (d + 1) none mX11_next (0, 0) 137 [.null, .null, .null, .null] st h (QV z)) st (fun s0 s1 q => tX11_next_137 s0 s1 h q) q) q)
    (fun _ _ _ q => nos q)
    kRV_ok (Or.inr rfl) (by decide +kernel) (by decide +kernel) hf
def wX11_next_132 : List En := [(.iconst 1, 0, 0, 0), (.goto 4, 137, 0, 0)]
def fX11_next_132 (s0 : Nat) (h : aH) : Option (aH) :=
  fX11_next_137 (kI 1) s0 h
theorem tX11_next_132 {d : Nat} {z : aH} (s0 : Nat) (h : aH) (hf : fX11_next_132 s0 h = some z) : Ev (d + 1) none mX11_next (0, 0) 132 [.null, .null, .null, .null] [.ref s0] h (QV z) := 
  go_ok (X := none) (blk := wX11_next_132) (np := 136) (tt := 137) (kN := fun _ _ _ => none) (kT := fun xs h st => app [0, 0, 0, 0] (apS [1, 2] (fun s0 s1 => fX11_next_137 s0 s1 h) st) xs) (kR := kRV)
    (fun _ _ _ q => nos q)
    (fun xs h st q => jm [0, 0, 0, 0] _ (fun q => apS_ok [1, 2] _ (fun st => Ev (d + 1) none mX11_next (0, 0) 137 [.null, .null, .null, .null] st h (QV z)) st (fun s0 s1 q => tX11_next_137 s0 s1 h q) q) q)
    kRV_ok (Or.inr rfl) (by decide +kernel) (by decide +kernel) hf
def wX11_next_117 : List En := [(.aload_n 0, 0, 0, 0), (.iload_n 1, 0, 0, 0), (.putfield 65, 180, 11, 5), (.aload_n 0, 0, 0, 0), (.aload_n 0, 0, 0, 0), (.getfield 75, 183, 11, 8), (.bipush 8, 0, 0, 0), (.if_icmp .le 7, 136, 0, 0)]
def fX11_next_117 (v0 : Nat) (v1 : Int32) (h : aH) : Option (aH) :=
  (pWV h 11 v0 5 (.int v1)).bind fun h1 =>
  (gFI h1 11 v0 8).bind fun t2 =>
  if (kB 8) < t2 then fX11_next_132 v0 h1 else fX11_next_136 v0 h1
theorem tX11_next_117 {d : Nat} {z : aH} (v0 : Nat) (v1 : Int32) (h : aH) (hf : fX11_next_117 v0 v1 h = some z) : Ev (d + 1) none mX11_next (0, 0) 117 [.ref v0, .int v1, .null, .null] [] h (QV z) := 
  go_ok (X := none) (blk := wX11_next_117) (np := 132) (tt := 136) (kN := fun xs h st => app [0, 0, 0, 0] (apS [2] (fun s0 => fX11_next_132 s0 h) st) xs) (kT := fun xs h st => app [0, 0, 0, 0] (apS [2] (fun s0 => fX11_next_136 s0 h) st) xs) (kR := kRV)
    (fun xs h st q => jm [0, 0, 0, 0] _ (fun q => apS_ok [2] _ (fun st => Ev (d + 1) none mX11_next (0, 0) 132 [.null, .null, .null, .null] st h (QV z)) st (fun s0 q => tX11_next_132 s0 h q) q) q)
    (fun xs h st q => jm [0, 0, 0, 0] _ (fun q => apS_ok [2] _ (fun st => Ev (d + 1) none mX11_next (0, 0) 136 [.null, .null, .null, .null] st h (QV z)) st (fun s0 q => tX11_next_136 s0 h q) q) q)
    kRV_ok (Or.inr rfl) (by decide +kernel) (by decide +kernel) hf
def wX11_next_101 : List En := [(.aload_n 0, 0, 0, 0), (.dup, 0, 0, 0), (.getfield 75, 183, 11, 8), (.iconst 1, 0, 0, 0), (.iadd, 0, 0, 0), (.putfield 75, 183, 11, 8), (.iinc 1 1, 0, 0, 0), (.goto (-47), 67, 0, 0)]
def fX11_next_101 (k67 : Nat → Int32 → aH → Option (aH)) (v0 : Nat) (v1 : Int32) (h : aH) : Option (aH) :=
  (gFI h 11 v0 8).bind fun t1 =>
  (pWV h 11 v0 8 (.int (t1 + (kI 1)))).bind fun h2 =>
  k67 v0 (v1 + kI 1) h2
theorem tX11_next_101 {d : Nat} {z : aH} {k67 : Nat → Int32 → aH → Option (aH)} (hk67 : ∀ (v0 : Nat) (v1 : Int32) (h : aH), k67 v0 v1 h = some z → Ev (d + 1) none mX11_next (0, 0) 67 [.ref v0, .int v1, .null, .null] [] h (QV z)) (v0 : Nat) (v1 : Int32) (h : aH) (hf : fX11_next_101 k67 v0 v1 h = some z) : Ev (d + 1) none mX11_next (0, 0) 101 [.ref v0, .int v1, .null, .null] [] h (QV z) := 
  go_ok (X := none) (blk := wX11_next_101) (np := 117) (tt := 67) (kN := fun _ _ _ => none) (kT := fun xs h st => app [2, 1, 0, 0] (fun v0 v1 => apS [] (k67 v0 v1 h) st) xs) (kR := kRV)
    (fun _ _ _ q => nos q)
    (fun xs h st q => jm [2, 1, 0, 0] _ (fun v0 v1 q => apS_ok [] _ (fun st => Ev (d + 1) none mX11_next (0, 0) 67 [.ref v0, .int v1, .null, .null] st h (QV z)) st (fun q => hk67 v0 v1 h q) q) q)
    kRV_ok (Or.inr rfl) (by decide +kernel) (by decide +kernel) hf
def wX11_next_100 : List En := [(.iastore, 0, 0, 0)]
def fX11_next_100 (k67 : Nat → Int32 → aH → Option (aH)) (v0 : Nat) (v1 : Int32) (s0 : Int32) (s1 : Int32) (s2 : Nat) (h : aH) : Option (aH) :=
  (aWI h s2 s1 s0).bind fun h1 =>
  fX11_next_101 k67 v0 v1 h1
theorem tX11_next_100 {d : Nat} {z : aH} {k67 : Nat → Int32 → aH → Option (aH)} (hk67 : ∀ (v0 : Nat) (v1 : Int32) (h : aH), k67 v0 v1 h = some z → Ev (d + 1) none mX11_next (0, 0) 67 [.ref v0, .int v1, .null, .null] [] h (QV z)) (v0 : Nat) (v1 : Int32) (s0 : Int32) (s1 : Int32) (s2 : Nat) (h : aH) (hf : fX11_next_100 k67 v0 v1 s0 s1 s2 h = some z) : Ev (d + 1) none mX11_next (0, 0) 100 [.ref v0, .int v1, .null, .null] [.int s0, .int s1, .ref s2] h (QV z) := 
  go_ok (X := none) (blk := wX11_next_100) (np := 101) (tt := 0) (kN := fun xs h st => app [2, 1, 0, 0] (fun v0 v1 => apS [] (fX11_next_101 k67 v0 v1 h) st) xs) (kT := fun _ _ _ => none) (kR := kRV)
    (fun xs h st q => jm [2, 1, 0, 0] _ (fun v0 v1 q => apS_ok [] _ (fun st => Ev (d + 1) none mX11_next (0, 0) 101 [.ref v0, .int v1, .null, .null] st h (QV z)) st (fun q => tX11_next_101 hk67 v0 v1 h q) q) q)
    (fun _ _ _ q => nos q)
    kRV_ok (Or.inr rfl) (by decide +kernel) (by decide +kernel) hf
theorem kqX11_next_97 : okC mX11_next 97 (.invokevirtual 68) 185 200 0 1 = true := by decide +kernel
def fX11_next_97 (k67 : Nat → Int32 → aH → Option (aH)) (v0 : Nat) (v1 : Int32) (s0 : Int32) (s1 : Nat) (s2 : Int32) (s3 : Nat) (h : aH) : Option (aH) :=
  (isO h 11 s1).bind fun _ =>
  (gX11_see s1 s0 h).bind fun r =>
  fX11_next_100 k67 v0 v1 r.1 s2 s3 r.2
theorem tX11_next_97 {d : Nat} {z : aH} {k67 : Nat → Int32 → aH → Option (aH)} (hk67 : ∀ (v0 : Nat) (v1 : Int32) (h : aH), k67 v0 v1 h = some z → Ev (d + 1) none mX11_next (0, 0) 67 [.ref v0, .int v1, .null, .null] [] h (QV z)) (v0 : Nat) (v1 : Int32) (s0 : Int32) (s1 : Nat) (s2 : Int32) (s3 : Nat) (h : aH) (hf : fX11_next_97 k67 v0 v1 s0 s1 s2 s3 h = some z) : Ev (d + 1) none mX11_next (0, 0) 97 [.ref v0, .int v1, .null, .null] [.int s0, .ref s1, .int s2, .ref s3] h (QV z) := by
  obtain ⟨_, h1, hf⟩ := bnd hf
  obtain ⟨fs, ho⟩ := isO_ok h1
  obtain ⟨r, h2, hf⟩ := bnd hf
  refine ev_V kqX11_next_97 jX11_see (zX11_see (d := d + 0) h2) ho rfl rfl (Nat.le_of_ble_eq_true rfl) rfl (as := [.int s0]) (rest := [.int s2, .ref s3]) rfl (Nat.le_of_ble_eq_true rfl) (fun _ _ hq => ?_)
  obtain ⟨rfl, rfl⟩ := hq
  exact jm [2, 1, 0, 0] (fun v0 v1 => fX11_next_100 k67 v0 v1 r.1 s2 s3 r.2) (fun v0 v1 q => tX11_next_100 hk67 v0 v1 r.1 s2 s3 r.2 q) hf
def wX11_next_87 : List En := [(.aload_n 0, 0, 0, 0), (.getfield 17, 187, 11, 12), (.aload_n 0, 0, 0, 0), (.getfield 75, 183, 11, 8), (.aload_n 0, 0, 0, 0), (.iload_n 1, 0, 0, 0)]
def fX11_next_87 (k67 : Nat → Int32 → aH → Option (aH)) (v0 : Nat) (v1 : Int32) (h : aH) : Option (aH) :=
  (gFR h 11 v0 12).bind fun t1 =>
  (gFI h 11 v0 8).bind fun t2 =>
  fX11_next_97 k67 v0 v1 v1 v0 t2 t1 h
theorem tX11_next_87 {d : Nat} {z : aH} {k67 : Nat → Int32 → aH → Option (aH)} (hk67 : ∀ (v0 : Nat) (v1 : Int32) (h : aH), k67 v0 v1 h = some z → Ev (d + 1) none mX11_next (0, 0) 67 [.ref v0, .int v1, .null, .null] [] h (QV z)) (v0 : Nat) (v1 : Int32) (h : aH) (hf : fX11_next_87 k67 v0 v1 h = some z) : Ev (d + 1) none mX11_next (0, 0) 87 [.ref v0, .int v1, .null, .null] [] h (QV z) := 
  go_ok (X := none) (blk := wX11_next_87) (np := 97) (tt := 0) (kN := fun xs h st => app [2, 1, 0, 0] (fun v0 v1 => apS [1, 2, 1, 2] (fun s0 s1 s2 s3 => fX11_next_97 k67 v0 v1 s0 s1 s2 s3 h) st) xs) (kT := fun _ _ _ => none) (kR := kRV)
    (fun xs h st q => jm [2, 1, 0, 0] _ (fun v0 v1 q => apS_ok [1, 2, 1, 2] _ (fun st => Ev (d + 1) none mX11_next (0, 0) 97 [.ref v0, .int v1, .null, .null] st h (QV z)) st (fun s0 s1 s2 s3 q => tX11_next_97 hk67 v0 v1 s0 s1 s2 s3 h q) q) q)
    (fun _ _ _ q => nos q)
    kRV_ok (Or.inr rfl) (by decide +kernel) (by decide +kernel) hf
def wX11_next_78 : List En := [(.aload_n 0, 0, 0, 0), (.getfield 75, 183, 11, 8), (.bipush 8, 0, 0, 0), (.if_icmp .ge 17, 101, 0, 0)]
def fX11_next_78 (k67 : Nat → Int32 → aH → Option (aH)) (v0 : Nat) (v1 : Int32) (h : aH) : Option (aH) :=
  (gFI h 11 v0 8).bind fun t1 =>
  if t1 < (kB 8) then fX11_next_87 k67 v0 v1 h else fX11_next_101 k67 v0 v1 h
theorem tX11_next_78 {d : Nat} {z : aH} {k67 : Nat → Int32 → aH → Option (aH)} (hk67 : ∀ (v0 : Nat) (v1 : Int32) (h : aH), k67 v0 v1 h = some z → Ev (d + 1) none mX11_next (0, 0) 67 [.ref v0, .int v1, .null, .null] [] h (QV z)) (v0 : Nat) (v1 : Int32) (h : aH) (hf : fX11_next_78 k67 v0 v1 h = some z) : Ev (d + 1) none mX11_next (0, 0) 78 [.ref v0, .int v1, .null, .null] [] h (QV z) := 
  go_ok (X := none) (blk := wX11_next_78) (np := 87) (tt := 101) (kN := fun xs h st => app [2, 1, 0, 0] (fun v0 v1 => apS [] (fX11_next_87 k67 v0 v1 h) st) xs) (kT := fun xs h st => app [2, 1, 0, 0] (fun v0 v1 => apS [] (fX11_next_101 k67 v0 v1 h) st) xs) (kR := kRV)
    (fun xs h st q => jm [2, 1, 0, 0] _ (fun v0 v1 q => apS_ok [] _ (fun st => Ev (d + 1) none mX11_next (0, 0) 87 [.ref v0, .int v1, .null, .null] st h (QV z)) st (fun q => tX11_next_87 hk67 v0 v1 h q) q) q)
    (fun xs h st q => jm [2, 1, 0, 0] _ (fun v0 v1 q => apS_ok [] _ (fun st => Ev (d + 1) none mX11_next (0, 0) 101 [.ref v0, .int v1, .null, .null] st h (QV z)) st (fun q => tX11_next_101 hk67 v0 v1 h q) q) q)
    kRV_ok (Or.inr rfl) (by decide +kernel) (by decide +kernel) hf
def wX11_next_75 : List En := [(.ifCond .eq 42, 117, 0, 0)]
def fX11_next_75 (k67 : Nat → Int32 → aH → Option (aH)) (v0 : Nat) (v1 : Int32) (s0 : Int32) (h : aH) : Option (aH) :=
  if s0 = 0 then fX11_next_117 v0 v1 h else fX11_next_78 k67 v0 v1 h
theorem tX11_next_75 {d : Nat} {z : aH} {k67 : Nat → Int32 → aH → Option (aH)} (hk67 : ∀ (v0 : Nat) (v1 : Int32) (h : aH), k67 v0 v1 h = some z → Ev (d + 1) none mX11_next (0, 0) 67 [.ref v0, .int v1, .null, .null] [] h (QV z)) (v0 : Nat) (v1 : Int32) (s0 : Int32) (h : aH) (hf : fX11_next_75 k67 v0 v1 s0 h = some z) : Ev (d + 1) none mX11_next (0, 0) 75 [.ref v0, .int v1, .null, .null] [.int s0] h (QV z) := 
  go_ok (X := none) (blk := wX11_next_75) (np := 78) (tt := 117) (kN := fun xs h st => app [2, 1, 0, 0] (fun v0 v1 => apS [] (fX11_next_78 k67 v0 v1 h) st) xs) (kT := fun xs h st => app [2, 1, 0, 0] (fun v0 v1 => apS [] (fX11_next_117 v0 v1 h) st) xs) (kR := kRV)
    (fun xs h st q => jm [2, 1, 0, 0] _ (fun v0 v1 q => apS_ok [] _ (fun st => Ev (d + 1) none mX11_next (0, 0) 78 [.ref v0, .int v1, .null, .null] st h (QV z)) st (fun q => tX11_next_78 hk67 v0 v1 h q) q) q)
    (fun xs h st q => jm [2, 1, 0, 0] _ (fun v0 v1 q => apS_ok [] _ (fun st => Ev (d + 1) none mX11_next (0, 0) 117 [.ref v0, .int v1, .null, .null] st h (QV z)) st (fun q => tX11_next_117 v0 v1 h q) q) q)
    kRV_ok (Or.inr rfl) (by decide +kernel) (by decide +kernel) hf
theorem kqX11_next_72 : okC mX11_next 72 (.invokestatic 84) 186 201 1 1 = true := by decide +kernel
def fX11_next_72 (k67 : Nat → Int32 → aH → Option (aH)) (v0 : Nat) (v1 : Int32) (s0 : Int32) (h : aH) : Option (aH) :=
  (gX11_isSmall s0 h).bind fun r =>
  fX11_next_75 k67 v0 v1 r.1 r.2
theorem tX11_next_72 {d : Nat} {z : aH} {k67 : Nat → Int32 → aH → Option (aH)} (hk67 : ∀ (v0 : Nat) (v1 : Int32) (h : aH), k67 v0 v1 h = some z → Ev (d + 1) none mX11_next (0, 0) 67 [.ref v0, .int v1, .null, .null] [] h (QV z)) (v0 : Nat) (v1 : Int32) (s0 : Int32) (h : aH) (hf : fX11_next_72 k67 v0 v1 s0 h = some z) : Ev (d + 1) none mX11_next (0, 0) 72 [.ref v0, .int v1, .null, .null] [.int s0] h (QV z) := by
  obtain ⟨r, h2, hf⟩ := bnd hf
  refine ev_S kqX11_next_72 jX11_isSmall (zX11_isSmall (d := d + 0) h2) rfl (Nat.le_of_ble_eq_true rfl) rfl (as := [.int s0]) (rest := []) rfl (Nat.le_of_ble_eq_true rfl) (fun _ _ hq => ?_)
  obtain ⟨-, rfl, rfl⟩ := hq
  exact jm [2, 1, 0, 0] (fun v0 v1 => fX11_next_75 k67 v0 v1 r.1 r.2) (fun v0 v1 q => tX11_next_75 hk67 v0 v1 r.1 r.2 q) hf
theorem kqX11_next_69 : okC mX11_next 69 (.invokevirtual 68) 185 200 0 1 = true := by decide +kernel
def fX11_next_69 (k67 : Nat → Int32 → aH → Option (aH)) (v0 : Nat) (v1 : Int32) (s0 : Int32) (s1 : Nat) (h : aH) : Option (aH) :=
  (isO h 11 s1).bind fun _ =>
  (gX11_see s1 s0 h).bind fun r =>
  fX11_next_72 k67 v0 v1 r.1 r.2
theorem tX11_next_69 {d : Nat} {z : aH} {k67 : Nat → Int32 → aH → Option (aH)} (hk67 : ∀ (v0 : Nat) (v1 : Int32) (h : aH), k67 v0 v1 h = some z → Ev (d + 1) none mX11_next (0, 0) 67 [.ref v0, .int v1, .null, .null] [] h (QV z)) (v0 : Nat) (v1 : Int32) (s0 : Int32) (s1 : Nat) (h : aH) (hf : fX11_next_69 k67 v0 v1 s0 s1 h = some z) : Ev (d + 1) none mX11_next (0, 0) 69 [.ref v0, .int v1, .null, .null] [.int s0, .ref s1] h (QV z) := by
  obtain ⟨_, h1, hf⟩ := bnd hf
  obtain ⟨fs, ho⟩ := isO_ok h1
  obtain ⟨r, h2, hf⟩ := bnd hf
  refine ev_V kqX11_next_69 jX11_see (zX11_see (d := d + 0) h2) ho rfl rfl (Nat.le_of_ble_eq_true rfl) rfl (as := [.int s0]) (rest := []) rfl (Nat.le_of_ble_eq_true rfl) (fun _ _ hq => ?_)
  obtain ⟨rfl, rfl⟩ := hq
  exact jm [2, 1, 0, 0] (fun v0 v1 => fX11_next_72 k67 v0 v1 r.1 r.2) (fun v0 v1 q => tX11_next_72 hk67 v0 v1 r.1 r.2 q) hf
def wX11_next_67 : List En := [(.aload_n 0, 0, 0, 0), (.iload_n 1, 0, 0, 0)]
def fX11_next_67 (k67 : Nat → Int32 → aH → Option (aH)) (v0 : Nat) (v1 : Int32) (h : aH) : Option (aH) :=
  fX11_next_69 k67 v0 v1 v1 v0 h
theorem tX11_next_67 {d : Nat} {z : aH} {k67 : Nat → Int32 → aH → Option (aH)} (hk67 : ∀ (v0 : Nat) (v1 : Int32) (h : aH), k67 v0 v1 h = some z → Ev (d + 1) none mX11_next (0, 0) 67 [.ref v0, .int v1, .null, .null] [] h (QV z)) (v0 : Nat) (v1 : Int32) (h : aH) (hf : fX11_next_67 k67 v0 v1 h = some z) : Ev (d + 1) none mX11_next (0, 0) 67 [.ref v0, .int v1, .null, .null] [] h (QV z) := 
  go_ok (X := none) (blk := wX11_next_67) (np := 69) (tt := 0) (kN := fun xs h st => app [2, 1, 0, 0] (fun v0 v1 => apS [1, 2] (fun s0 s1 => fX11_next_69 k67 v0 v1 s0 s1 h) st) xs) (kT := fun _ _ _ => none) (kR := kRV)
    (fun xs h st q => jm [2, 1, 0, 0] _ (fun v0 v1 q => apS_ok [1, 2] _ (fun st => Ev (d + 1) none mX11_next (0, 0) 69 [.ref v0, .int v1, .null, .null] st h (QV z)) st (fun s0 s1 q => tX11_next_69 hk67 v0 v1 s0 s1 h q) q) q)
    (fun _ _ _ q => nos q)
    kRV_ok (Or.inr rfl) (by decide +kernel) (by decide +kernel) hf
def lX11_next_67 : Nat → Nat → Int32 → aH → Option (aH)
  | 0, _, _, _ => none
  | n + 1, v0, v1, h => fX11_next_67 (lX11_next_67 n) v0 v1 h
theorem uX11_next_67 {d : Nat} {z : aH} : ∀ (n : Nat) (v0 : Nat) (v1 : Int32) (h : aH), lX11_next_67 n v0 v1 h = some z → Ev (d + 1) none mX11_next (0, 0) 67 [.ref v0, .int v1, .null, .null] [] h (QV z) := by
  intro n
  induction n with
  | zero => intro _ _ _ q; exact nos (show (none : Option (aH)) = some z from q)
  | succ n ih => intro v0 v1 h q; exact tX11_next_67 ih v0 v1 h q
def wX11_next_64 : List En := [(.ifCond .eq 79, 143, 0, 0)]
def fX11_next_64 (v0 : Nat) (v1 : Int32) (v2 : Int32) (s0 : Int32) (h : aH) : Option (aH) :=
  if s0 = 0 then fX11_next_143 v0 v1 v2 h else lX11_next_67 FU v0 v1 h
theorem tX11_next_64 {d : Nat} {z : aH} (v0 : Nat) (v1 : Int32) (v2 : Int32) (s0 : Int32) (h : aH) (hf : fX11_next_64 v0 v1 v2 s0 h = some z) : Ev (d + 1) none mX11_next (0, 0) 64 [.ref v0, .int v1, .int v2, .null] [.int s0] h (QV z) := 
  go_ok (X := none) (blk := wX11_next_64) (np := 67) (tt := 143) (kN := fun xs h st => app [2, 1, 0, 0] (fun v0 v1 => apS [] (lX11_next_67 FU v0 v1 h) st) xs) (kT := fun xs h st => app [2, 1, 1, 0] (fun v0 v1 v2 => apS [] (fX11_next_143 v0 v1 v2 h) st) xs) (kR := kRV)
    (fun xs h st q => jm [2, 1, 0, 0] _ (fun v0 v1 q => apS_ok [] _ (fun st => Ev (d + 1) none mX11_next (0, 0) 67 [.ref v0, .int v1, .null, .null] st h (QV z)) st (fun q => uX11_next_67 FU v0 v1 h q) q) q)
    (fun xs h st q => jm [2, 1, 1, 0] _ (fun v0 v1 v2 q => apS_ok [] _ (fun st => Ev (d + 1) none mX11_next (0, 0) 143 [.ref v0, .int v1, .int v2, .null] st h (QV z)) st (fun q => tX11_next_143 v0 v1 v2 h q) q) q)
    kRV_ok (Or.inr rfl) (by decide +kernel) (by decide +kernel) hf
theorem kqX11_next_61 : okC mX11_next 61 (.invokestatic 84) 186 201 1 1 = true := by decide +kernel
def fX11_next_61 (v0 : Nat) (v1 : Int32) (v2 : Int32) (s0 : Int32) (h : aH) : Option (aH) :=
  (gX11_isSmall s0 h).bind fun r =>
  fX11_next_64 v0 v1 v2 r.1 r.2
theorem tX11_next_61 {d : Nat} {z : aH} (v0 : Nat) (v1 : Int32) (v2 : Int32) (s0 : Int32) (h : aH) (hf : fX11_next_61 v0 v1 v2 s0 h = some z) : Ev (d + 1) none mX11_next (0, 0) 61 [.ref v0, .int v1, .int v2, .null] [.int s0] h (QV z) := by
  obtain ⟨r, h2, hf⟩ := bnd hf
  refine ev_S kqX11_next_61 jX11_isSmall (zX11_isSmall (d := d + 0) h2) rfl (Nat.le_of_ble_eq_true rfl) rfl (as := [.int s0]) (rest := []) rfl (Nat.le_of_ble_eq_true rfl) (fun _ _ hq => ?_)
  obtain ⟨-, rfl, rfl⟩ := hq
  exact jm [2, 1, 1, 0] (fun v0 v1 v2 => fX11_next_64 v0 v1 v2 r.1 r.2) (fun v0 v1 v2 q => tX11_next_64 v0 v1 v2 r.1 r.2 q) hf
def wX11_next_60 : List En := [(.iload_n 2, 0, 0, 0)]
def fX11_next_60 (v0 : Nat) (v1 : Int32) (v2 : Int32) (h : aH) : Option (aH) :=
  fX11_next_61 v0 v1 v2 v2 h
theorem tX11_next_60 {d : Nat} {z : aH} (v0 : Nat) (v1 : Int32) (v2 : Int32) (h : aH) (hf : fX11_next_60 v0 v1 v2 h = some z) : Ev (d + 1) none mX11_next (0, 0) 60 [.ref v0, .int v1, .int v2, .null] [] h (QV z) := 
  go_ok (X := none) (blk := wX11_next_60) (np := 61) (tt := 0) (kN := fun xs h st => app [2, 1, 1, 0] (fun v0 v1 v2 => apS [1] (fun s0 => fX11_next_61 v0 v1 v2 s0 h) st) xs) (kT := fun _ _ _ => none) (kR := kRV)
    (fun xs h st q => jm [2, 1, 1, 0] _ (fun v0 v1 v2 q => apS_ok [1] _ (fun st => Ev (d + 1) none mX11_next (0, 0) 61 [.ref v0, .int v1, .int v2, .null] st h (QV z)) st (fun s0 q => tX11_next_61 v0 v1 v2 s0 h q) q) q)
    (fun _ _ _ q => nos q)
    kRV_ok (Or.inr rfl) (by decide +kernel) (by decide +kernel) hf
def wX11_next_47 : List En := [(.aload_n 0, 0, 0, 0), (.iconst 0, 0, 0, 0), (.putfield 81, 181, 11, 6), (.aload_n 0, 0, 0, 0), (.iload_n 1, 0, 0, 0), (.putfield 65, 180, 11, 5), (.goto 184, 241, 0, 0)]
def fX11_next_47 (v0 : Nat) (v1 : Int32) (h : aH) : Option (aH) :=
  (pWV h 11 v0 6 (.int (kI 0))).bind fun h1 =>
  (pWV h1 11 v0 5 (.int v1)).bind fun h2 =>
  fX11_next_241 h2
theorem tX11_next_47 {d : Nat} {z : aH} (v0 : Nat) (v1 : Int32) (h : aH) (hf : fX11_next_47 v0 v1 h = some z) : Ev (d + 1) none mX11_next (0, 0) 47 [.ref v0, .int v1, .null, .null] [] h (QV z) := 
  go_ok (X := none) (blk := wX11_next_47) (np := 60) (tt := 241) (kN := fun _ _ _ => none) (kT := fun xs h st => app [0, 0, 0, 0] (apS [] (fX11_next_241 h) st) xs) (kR := kRV)
    (fun _ _ _ q => nos q)
    (fun xs h st q => jm [0, 0, 0, 0] _ (fun q => apS_ok [] _ (fun st => Ev (d + 1) none mX11_next (0, 0) 241 [.null, .null, .null, .null] st h (QV z)) st (fun q => tX11_next_241 h q) q) q)
    kRV_ok (Or.inr rfl) (by decide +kernel) (by decide +kernel) hf
def wX11_next_31 : List En := [(.istore_n 2, 0, 0, 0), (.aload_n 0, 0, 0, 0), (.iconst 0, 0, 0, 0), (.putfield 75, 183, 11, 8), (.aload_n 0, 0, 0, 0), (.iconst 0, 0, 0, 0), (.putfield 78, 182, 11, 7), (.iload_n 2, 0, 0, 0), (.iconst (-1), 0, 0, 0), (.if_icmp .ne 16, 60, 0, 0)]
def fX11_next_31 (v0 : Nat) (v1 : Int32) (s0 : Int32) (h : aH) : Option (aH) :=
  (pWV h 11 v0 8 (.int (kI 0))).bind fun h1 =>
  (pWV h1 11 v0 7 (.int (kI 0))).bind fun h2 =>
  if s0 = (kI (-1)) then fX11_next_47 v0 v1 h2 else fX11_next_60 v0 v1 s0 h2
theorem tX11_next_31 {d : Nat} {z : aH} (v0 : Nat) (v1 : Int32) (s0 : Int32) (h : aH) (hf : fX11_next_31 v0 v1 s0 h = some z) : Ev (d + 1) none mX11_next (0, 0) 31 [.ref v0, .int v1, .null, .null] [.int s0] h (QV z) := 
  go_ok (X := none) (blk := wX11_next_31) (np := 47) (tt := 60) (kN := fun xs h st => app [2, 1, 0, 0] (fun v0 v1 => apS [] (fX11_next_47 v0 v1 h) st) xs) (kT := fun xs h st => app [2, 1, 1, 0] (fun v0 v1 v2 => apS [] (fX11_next_60 v0 v1 v2 h) st) xs) (kR := kRV)
    (fun xs h st q => jm [2, 1, 0, 0] _ (fun v0 v1 q => apS_ok [] _ (fun st => Ev (d + 1) none mX11_next (0, 0) 47 [.ref v0, .int v1, .null, .null] st h (QV z)) st (fun q => tX11_next_47 v0 v1 h q) q) q)
    (fun xs h st q => jm [2, 1, 1, 0] _ (fun v0 v1 v2 q => apS_ok [] _ (fun st => Ev (d + 1) none mX11_next (0, 0) 60 [.ref v0, .int v1, .int v2, .null] st h (QV z)) st (fun q => tX11_next_60 v0 v1 v2 h q) q) q)
    kRV_ok (Or.inr rfl) (by decide +kernel) (by decide +kernel) hf
theorem kqX11_next_28 : okC mX11_next 28 (.invokevirtual 68) 185 200 0 1 = true := by decide +kernel
def fX11_next_28 (v0 : Nat) (v1 : Int32) (s0 : Int32) (s1 : Nat) (h : aH) : Option (aH) :=
  (isO h 11 s1).bind fun _ =>
  (gX11_see s1 s0 h).bind fun r =>
  fX11_next_31 v0 v1 r.1 r.2
theorem tX11_next_28 {d : Nat} {z : aH} (v0 : Nat) (v1 : Int32) (s0 : Int32) (s1 : Nat) (h : aH) (hf : fX11_next_28 v0 v1 s0 s1 h = some z) : Ev (d + 1) none mX11_next (0, 0) 28 [.ref v0, .int v1, .null, .null] [.int s0, .ref s1] h (QV z) := by
  obtain ⟨_, h1, hf⟩ := bnd hf
  obtain ⟨fs, ho⟩ := isO_ok h1
  obtain ⟨r, h2, hf⟩ := bnd hf
  refine ev_V kqX11_next_28 jX11_see (zX11_see (d := d + 0) h2) ho rfl rfl (Nat.le_of_ble_eq_true rfl) rfl (as := [.int s0]) (rest := []) rfl (Nat.le_of_ble_eq_true rfl) (fun _ _ hq => ?_)
  obtain ⟨rfl, rfl⟩ := hq
  exact jm [2, 1, 0, 0] (fun v0 v1 => fX11_next_31 v0 v1 r.1 r.2) (fun v0 v1 q => tX11_next_31 v0 v1 r.1 r.2 q) hf
def wX11_next_21 : List En := [(.aload_n 0, 0, 0, 0), (.iload_n 1, 0, 0, 0), (.putfield 72, 179, 11, 4), (.aload_n 0, 0, 0, 0), (.iload_n 1, 0, 0, 0)]
def fX11_next_21 (v0 : Nat) (v1 : Int32) (h : aH) : Option (aH) :=
  (pWV h 11 v0 4 (.int v1)).bind fun h1 =>
  fX11_next_28 v0 v1 v1 v0 h1
theorem tX11_next_21 {d : Nat} {z : aH} (v0 : Nat) (v1 : Int32) (h : aH) (hf : fX11_next_21 v0 v1 h = some z) : Ev (d + 1) none mX11_next (0, 0) 21 [.ref v0, .int v1, .null, .null] [] h (QV z) := 
  go_ok (X := none) (blk := wX11_next_21) (np := 28) (tt := 0) (kN := fun xs h st => app [2, 1, 0, 0] (fun v0 v1 => apS [1, 2] (fun s0 s1 => fX11_next_28 v0 v1 s0 s1 h) st) xs) (kT := fun _ _ _ => none) (kR := kRV)
    (fun xs h st q => jm [2, 1, 0, 0] _ (fun v0 v1 q => apS_ok [1, 2] _ (fun st => Ev (d + 1) none mX11_next (0, 0) 28 [.ref v0, .int v1, .null, .null] st h (QV z)) st (fun s0 s1 q => tX11_next_28 v0 v1 s0 s1 h q) q) q)
    (fun _ _ _ q => nos q)
    kRV_ok (Or.inr rfl) (by decide +kernel) (by decide +kernel) hf
def wX11_next_15 : List En := [(.iinc 1 1, 0, 0, 0), (.goto (-13), 5, 0, 0)]
def fX11_next_15 (k5 : Nat → Int32 → aH → Option (aH)) (v0 : Nat) (v1 : Int32) (h : aH) : Option (aH) :=
  k5 v0 (v1 + kI 1) h
theorem tX11_next_15 {d : Nat} {z : aH} {k5 : Nat → Int32 → aH → Option (aH)} (hk5 : ∀ (v0 : Nat) (v1 : Int32) (h : aH), k5 v0 v1 h = some z → Ev (d + 1) none mX11_next (0, 0) 5 [.ref v0, .int v1, .null, .null] [] h (QV z)) (v0 : Nat) (v1 : Int32) (h : aH) (hf : fX11_next_15 k5 v0 v1 h = some z) : Ev (d + 1) none mX11_next (0, 0) 15 [.ref v0, .int v1, .null, .null] [] h (QV z) := 
  go_ok (X := none) (blk := wX11_next_15) (np := 21) (tt := 5) (kN := fun _ _ _ => none) (kT := fun xs h st => app [2, 1, 0, 0] (fun v0 v1 => apS [] (k5 v0 v1 h) st) xs) (kR := kRV)
    (fun _ _ _ q => nos q)
    (fun xs h st q => jm [2, 1, 0, 0] _ (fun v0 v1 q => apS_ok [] _ (fun st => Ev (d + 1) none mX11_next (0, 0) 5 [.ref v0, .int v1, .null, .null] st h (QV z)) st (fun q => hk5 v0 v1 h q) q) q)
    kRV_ok (Or.inr rfl) (by decide +kernel) (by decide +kernel) hf
def wX11_next_10 : List En := [(.bipush 32, 0, 0, 0), (.if_icmp .ne 9, 21, 0, 0)]
def fX11_next_10 (k5 : Nat → Int32 → aH → Option (aH)) (v0 : Nat) (v1 : Int32) (s0 : Int32) (h : aH) : Option (aH) :=
  if s0 = (kB 32) then fX11_next_15 k5 v0 v1 h else fX11_next_21 v0 v1 h
theorem tX11_next_10 {d : Nat} {z : aH} {k5 : Nat → Int32 → aH → Option (aH)} (hk5 : ∀ (v0 : Nat) (v1 : Int32) (h : aH), k5 v0 v1 h = some z → Ev (d + 1) none mX11_next (0, 0) 5 [.ref v0, .int v1, .null, .null] [] h (QV z)) (v0 : Nat) (v1 : Int32) (s0 : Int32) (h : aH) (hf : fX11_next_10 k5 v0 v1 s0 h = some z) : Ev (d + 1) none mX11_next (0, 0) 10 [.ref v0, .int v1, .null, .null] [.int s0] h (QV z) := 
  go_ok (X := none) (blk := wX11_next_10) (np := 15) (tt := 21) (kN := fun xs h st => app [2, 1, 0, 0] (fun v0 v1 => apS [] (fX11_next_15 k5 v0 v1 h) st) xs) (kT := fun xs h st => app [2, 1, 0, 0] (fun v0 v1 => apS [] (fX11_next_21 v0 v1 h) st) xs) (kR := kRV)
    (fun xs h st q => jm [2, 1, 0, 0] _ (fun v0 v1 q => apS_ok [] _ (fun st => Ev (d + 1) none mX11_next (0, 0) 15 [.ref v0, .int v1, .null, .null] st h (QV z)) st (fun q => tX11_next_15 hk5 v0 v1 h q) q) q)
    (fun xs h st q => jm [2, 1, 0, 0] _ (fun v0 v1 q => apS_ok [] _ (fun st => Ev (d + 1) none mX11_next (0, 0) 21 [.ref v0, .int v1, .null, .null] st h (QV z)) st (fun q => tX11_next_21 v0 v1 h q) q) q)
    kRV_ok (Or.inr rfl) (by decide +kernel) (by decide +kernel) hf
theorem kqX11_next_7 : okC mX11_next 7 (.invokevirtual 68) 185 200 0 1 = true := by decide +kernel
def fX11_next_7 (k5 : Nat → Int32 → aH → Option (aH)) (v0 : Nat) (v1 : Int32) (s0 : Int32) (s1 : Nat) (h : aH) : Option (aH) :=
  (isO h 11 s1).bind fun _ =>
  (gX11_see s1 s0 h).bind fun r =>
  fX11_next_10 k5 v0 v1 r.1 r.2
theorem tX11_next_7 {d : Nat} {z : aH} {k5 : Nat → Int32 → aH → Option (aH)} (hk5 : ∀ (v0 : Nat) (v1 : Int32) (h : aH), k5 v0 v1 h = some z → Ev (d + 1) none mX11_next (0, 0) 5 [.ref v0, .int v1, .null, .null] [] h (QV z)) (v0 : Nat) (v1 : Int32) (s0 : Int32) (s1 : Nat) (h : aH) (hf : fX11_next_7 k5 v0 v1 s0 s1 h = some z) : Ev (d + 1) none mX11_next (0, 0) 7 [.ref v0, .int v1, .null, .null] [.int s0, .ref s1] h (QV z) := by
  obtain ⟨_, h1, hf⟩ := bnd hf
  obtain ⟨fs, ho⟩ := isO_ok h1
  obtain ⟨r, h2, hf⟩ := bnd hf
  refine ev_V kqX11_next_7 jX11_see (zX11_see (d := d + 0) h2) ho rfl rfl (Nat.le_of_ble_eq_true rfl) rfl (as := [.int s0]) (rest := []) rfl (Nat.le_of_ble_eq_true rfl) (fun _ _ hq => ?_)
  obtain ⟨rfl, rfl⟩ := hq
  exact jm [2, 1, 0, 0] (fun v0 v1 => fX11_next_10 k5 v0 v1 r.1 r.2) (fun v0 v1 q => tX11_next_10 hk5 v0 v1 r.1 r.2 q) hf
def wX11_next_5 : List En := [(.aload_n 0, 0, 0, 0), (.iload_n 1, 0, 0, 0)]
def fX11_next_5 (k5 : Nat → Int32 → aH → Option (aH)) (v0 : Nat) (v1 : Int32) (h : aH) : Option (aH) :=
  fX11_next_7 k5 v0 v1 v1 v0 h
theorem tX11_next_5 {d : Nat} {z : aH} {k5 : Nat → Int32 → aH → Option (aH)} (hk5 : ∀ (v0 : Nat) (v1 : Int32) (h : aH), k5 v0 v1 h = some z → Ev (d + 1) none mX11_next (0, 0) 5 [.ref v0, .int v1, .null, .null] [] h (QV z)) (v0 : Nat) (v1 : Int32) (h : aH) (hf : fX11_next_5 k5 v0 v1 h = some z) : Ev (d + 1) none mX11_next (0, 0) 5 [.ref v0, .int v1, .null, .null] [] h (QV z) := 
  go_ok (X := none) (blk := wX11_next_5) (np := 7) (tt := 0) (kN := fun xs h st => app [2, 1, 0, 0] (fun v0 v1 => apS [1, 2] (fun s0 s1 => fX11_next_7 k5 v0 v1 s0 s1 h) st) xs) (kT := fun _ _ _ => none) (kR := kRV)
    (fun xs h st q => jm [2, 1, 0, 0] _ (fun v0 v1 q => apS_ok [1, 2] _ (fun st => Ev (d + 1) none mX11_next (0, 0) 7 [.ref v0, .int v1, .null, .null] st h (QV z)) st (fun s0 s1 q => tX11_next_7 hk5 v0 v1 s0 s1 h q) q) q)
    (fun _ _ _ q => nos q)
    kRV_ok (Or.inr rfl) (by decide +kernel) (by decide +kernel) hf
def lX11_next_5 : Nat → Nat → Int32 → aH → Option (aH)
  | 0, _, _, _ => none
  | n + 1, v0, v1, h => fX11_next_5 (lX11_next_5 n) v0 v1 h
theorem uX11_next_5 {d : Nat} {z : aH} : ∀ (n : Nat) (v0 : Nat) (v1 : Int32) (h : aH), lX11_next_5 n v0 v1 h = some z → Ev (d + 1) none mX11_next (0, 0) 5 [.ref v0, .int v1, .null, .null] [] h (QV z) := by
  intro n
  induction n with
  | zero => intro _ _ _ q; exact nos (show (none : Option (aH)) = some z from q)
  | succ n ih => intro v0 v1 h q; exact tX11_next_5 ih v0 v1 h q
def wX11_next_0 : List En := [(.aload_n 0, 0, 0, 0), (.getfield 65, 180, 11, 5), (.istore_n 1, 0, 0, 0)]
def fX11_next_0 (v0 : Nat) (h : aH) : Option (aH) :=
  (gFI h 11 v0 5).bind fun t1 =>
  lX11_next_5 FU v0 t1 h
theorem tX11_next_0 {d : Nat} {z : aH} (v0 : Nat) (h : aH) (hf : fX11_next_0 v0 h = some z) : Ev (d + 1) none mX11_next (0, 0) 0 [.ref v0, .null, .null, .null] [] h (QV z) := 
  go_ok (X := none) (blk := wX11_next_0) (np := 5) (tt := 0) (kN := fun xs h st => app [2, 1, 0, 0] (fun v0 v1 => apS [] (lX11_next_5 FU v0 v1 h) st) xs) (kT := fun _ _ _ => none) (kR := kRV)
    (fun xs h st q => jm [2, 1, 0, 0] _ (fun v0 v1 q => apS_ok [] _ (fun st => Ev (d + 1) none mX11_next (0, 0) 5 [.ref v0, .int v1, .null, .null] st h (QV z)) st (fun q => uX11_next_5 FU v0 v1 h q) q) q)
    (fun _ _ _ q => nos q)
    kRV_ok (Or.inr rfl) (by decide +kernel) (by decide +kernel) hf
def gX11_next (v0 : Nat) (h : aH) : Option (aH) := fX11_next_0 v0 h
theorem zX11_next {d : Nat} {z : aH} {v0 : Nat} {h : aH} (q : gX11_next v0 h = some z) : CT (d + 1) mX11_next (0, 0) [.ref v0] h (QV z) :=
  ct_ev (by decide +kernel) (Nat.le_of_ble_eq_true rfl) QV_r (jm [2, 0, 0, 0] (fun v0 => fX11_next_0 v0 h) (fun v0 q => tX11_next_0 v0 h q) q)
def wX11_no_0 : List En := [(.aload_n 0, 0, 0, 0), (.iload_n 1, 0, 0, 0), (.putfield 56, 186, 11, 11), (.iconst (-1), 0, 0, 0), (.ireturn, 0, 0, 0)]
def fX11_no_0 (v0 : Nat) (v1 : Int32) (h : aH) : Option (Int32 × aH) :=
  (pWV h 11 v0 11 (.int v1)).bind fun h1 =>
  some ((kI (-1)), h1)
theorem tX11_no_0 {d : Nat} {z : Int32 × aH} (v0 : Nat) (v1 : Int32) (h : aH) (hf : fX11_no_0 v0 v1 h = some z) : Ev (d + 0) none mX11_no (0, 0) 0 [.ref v0, .int v1] [] h (QI z) := 
  go_ok (X := none) (blk := wX11_no_0) (np := 7) (tt := 0) (kN := fun _ _ _ => none) (kT := fun _ _ _ => none) (kR := kRI)
    (fun _ _ _ q => nos q)
    (fun _ _ _ q => nos q)
    kRI_ok (Or.inr rfl) (by decide +kernel) (by decide +kernel) hf
def gX11_no (v0 : Nat) (v1 : Int32) (h : aH) : Option (Int32 × aH) := fX11_no_0 v0 v1 h
theorem zX11_no {d : Nat} {z : Int32 × aH} {v0 : Nat} {v1 : Int32} {h : aH} (q : gX11_no v0 v1 h = some z) : CT (d + 0) mX11_no (0, 0) [.ref v0, .int v1] h (QI z) :=
  ct_ev (by decide +kernel) (Nat.le_of_ble_eq_true rfl) QI_r (jm [2, 1] (fun v0 v1 => fX11_no_0 v0 v1 h) (fun v0 v1 q => tX11_no_0 v0 v1 h q) q)
def wX11_pass_11 : List En := [(.return_, 0, 0, 0)]
def fX11_pass_11 (h : aH) : Option (aH) :=
  some h
theorem tX11_pass_11 {d : Nat} {z : aH} (h : aH) (hf : fX11_pass_11 h = some z) : Ev (d + 2) none mX11_pass (0, 0) 11 [.null] [] h (QV z) := 
  go_ok (X := none) (blk := wX11_pass_11) (np := 12) (tt := 0) (kN := fun _ _ _ => none) (kT := fun _ _ _ => none) (kR := kRV)
    (fun _ _ _ q => nos q)
    (fun _ _ _ q => nos q)
    kRV_ok (Or.inr rfl) (by decide +kernel) (by decide +kernel) hf
theorem kqX11_pass_8 : okC mX11_pass 8 (.invokevirtual 112) 184 199 0 0 = true := by decide +kernel
def fX11_pass_8 (s0 : Nat) (h : aH) : Option (aH) :=
  (isO h 11 s0).bind fun _ =>
  (gX11_next s0 h).bind fun r =>
  fX11_pass_11 r
theorem tX11_pass_8 {d : Nat} {z : aH} (s0 : Nat) (h : aH) (hf : fX11_pass_8 s0 h = some z) : Ev (d + 2) none mX11_pass (0, 0) 8 [.null] [.ref s0] h (QV z) := by
  obtain ⟨_, h1, hf⟩ := bnd hf
  obtain ⟨fs, ho⟩ := isO_ok h1
  obtain ⟨r, h2, hf⟩ := bnd hf
  refine ev_V kqX11_pass_8 jX11_next (zX11_next (d := d + 0) h2) ho rfl rfl (Nat.le_of_ble_eq_true rfl) rfl (as := []) (rest := []) rfl (Nat.le_of_ble_eq_true rfl) (fun _ _ hq => ?_)
  obtain ⟨rfl, hh⟩ := hq
  rw [hh]
  exact jm [0] (fX11_pass_11 r) (fun q => tX11_pass_11 r q) hf
def wX11_pass_7 : List En := [(.aload_n 0, 0, 0, 0)]
def fX11_pass_7 (v0 : Nat) (h : aH) : Option (aH) :=
  fX11_pass_8 v0 h
theorem tX11_pass_7 {d : Nat} {z : aH} (v0 : Nat) (h : aH) (hf : fX11_pass_7 v0 h = some z) : Ev (d + 2) none mX11_pass (0, 0) 7 [.ref v0] [] h (QV z) := 
  go_ok (X := none) (blk := wX11_pass_7) (np := 8) (tt := 0) (kN := fun xs h st => app [0] (apS [2] (fun s0 => fX11_pass_8 s0 h) st) xs) (kT := fun _ _ _ => none) (kR := kRV)
    (fun xs h st q => jm [0] _ (fun q => apS_ok [2] _ (fun st => Ev (d + 2) none mX11_pass (0, 0) 8 [.null] st h (QV z)) st (fun s0 q => tX11_pass_8 s0 h q) q) q)
    (fun _ _ _ q => nos q)
    kRV_ok (Or.inr rfl) (by decide +kernel) (by decide +kernel) hf
def wX11_pass_0 : List En := [(.aload_n 0, 0, 0, 0), (.getfield 91, 188, 11, 13), (.ifCond .ne 7, 11, 0, 0)]
def fX11_pass_0 (v0 : Nat) (h : aH) : Option (aH) :=
  (gFI h 11 v0 13).bind fun t1 =>
  if t1 = 0 then fX11_pass_7 v0 h else fX11_pass_11 h
theorem tX11_pass_0 {d : Nat} {z : aH} (v0 : Nat) (h : aH) (hf : fX11_pass_0 v0 h = some z) : Ev (d + 2) none mX11_pass (0, 0) 0 [.ref v0] [] h (QV z) := 
  go_ok (X := none) (blk := wX11_pass_0) (np := 7) (tt := 11) (kN := fun xs h st => app [2] (fun v0 => apS [] (fX11_pass_7 v0 h) st) xs) (kT := fun xs h st => app [0] (apS [] (fX11_pass_11 h) st) xs) (kR := kRV)
    (fun xs h st q => jm [2] _ (fun v0 q => apS_ok [] _ (fun st => Ev (d + 2) none mX11_pass (0, 0) 7 [.ref v0] st h (QV z)) st (fun q => tX11_pass_7 v0 h q) q) q)
    (fun xs h st q => jm [0] _ (fun q => apS_ok [] _ (fun st => Ev (d + 2) none mX11_pass (0, 0) 11 [.null] st h (QV z)) st (fun q => tX11_pass_11 h q) q) q)
    kRV_ok (Or.inr rfl) (by decide +kernel) (by decide +kernel) hf
def gX11_pass (v0 : Nat) (h : aH) : Option (aH) := fX11_pass_0 v0 h
theorem zX11_pass {d : Nat} {z : aH} {v0 : Nat} {h : aH} (q : gX11_pass v0 h = some z) : CT (d + 2) mX11_pass (0, 0) [.ref v0] h (QV z) :=
  ct_ev (by decide +kernel) (Nat.le_of_ble_eq_true rfl) QV_r (jm [2] (fun v0 => fX11_pass_0 v0 h) (fun v0 q => tX11_pass_0 v0 h q) q)
def wX11_wrong_8 : List En := [(.aload_n 0, 0, 0, 0), (.iconst 1, 0, 0, 0), (.putfield 91, 188, 11, 13), (.aload_n 0, 0, 0, 0), (.iload_n 1, 0, 0, 0), (.putfield 95, 184, 11, 9), (.aload_n 0, 0, 0, 0), (.iload_n 2, 0, 0, 0), (.putfield 13, 185, 11, 10), (.return_, 0, 0, 0)]
def fX11_wrong_8 (v0 : Nat) (v1 : Int32) (v2 : Int32) (h : aH) : Option (aH) :=
  (pWV h 11 v0 13 (.int (kI 1))).bind fun h1 =>
  (pWV h1 11 v0 9 (.int v1)).bind fun h2 =>
  (pWV h2 11 v0 10 (.int v2)).bind fun h3 =>
  some h3
theorem tX11_wrong_8 {d : Nat} {z : aH} (v0 : Nat) (v1 : Int32) (v2 : Int32) (h : aH) (hf : fX11_wrong_8 v0 v1 v2 h = some z) : Ev (d + 0) none mX11_wrong (0, 0) 8 [.ref v0, .int v1, .int v2] [] h (QV z) := 
  go_ok (X := none) (blk := wX11_wrong_8) (np := 24) (tt := 0) (kN := fun _ _ _ => none) (kT := fun _ _ _ => none) (kR := kRV)
    (fun _ _ _ q => nos q)
    (fun _ _ _ q => nos q)
    kRV_ok (Or.inr rfl) (by decide +kernel) (by decide +kernel) hf
def wX11_wrong_7 : List En := [(.return_, 0, 0, 0)]
def fX11_wrong_7 (h : aH) : Option (aH) :=
  some h
theorem tX11_wrong_7 {d : Nat} {z : aH} (h : aH) (hf : fX11_wrong_7 h = some z) : Ev (d + 0) none mX11_wrong (0, 0) 7 [.null, .null, .null] [] h (QV z) := 
  go_ok (X := none) (blk := wX11_wrong_7) (np := 8) (tt := 0) (kN := fun _ _ _ => none) (kT := fun _ _ _ => none) (kR := kRV)
    (fun _ _ _ q => nos q)
    (fun _ _ _ q => nos q)
    kRV_ok (Or.inr rfl) (by decide +kernel) (by decide +kernel) hf
def wX11_wrong_0 : List En := [(.aload_n 0, 0, 0, 0), (.getfield 91, 188, 11, 13), (.ifCond .eq 4, 8, 0, 0)]
def fX11_wrong_0 (v0 : Nat) (v1 : Int32) (v2 : Int32) (h : aH) : Option (aH) :=
  (gFI h 11 v0 13).bind fun t1 =>
  if t1 = 0 then fX11_wrong_8 v0 v1 v2 h else fX11_wrong_7 h
theorem tX11_wrong_0 {d : Nat} {z : aH} (v0 : Nat) (v1 : Int32) (v2 : Int32) (h : aH) (hf : fX11_wrong_0 v0 v1 v2 h = some z) : Ev (d + 0) none mX11_wrong (0, 0) 0 [.ref v0, .int v1, .int v2] [] h (QV z) := 
  go_ok (X := none) (blk := wX11_wrong_0) (np := 7) (tt := 8) (kN := fun xs h st => app [0, 0, 0] (apS [] (fX11_wrong_7 h) st) xs) (kT := fun xs h st => app [2, 1, 1] (fun v0 v1 v2 => apS [] (fX11_wrong_8 v0 v1 v2 h) st) xs) (kR := kRV)
    (fun xs h st q => jm [0, 0, 0] _ (fun q => apS_ok [] _ (fun st => Ev (d + 0) none mX11_wrong (0, 0) 7 [.null, .null, .null] st h (QV z)) st (fun q => tX11_wrong_7 h q) q) q)
    (fun xs h st q => jm [2, 1, 1] _ (fun v0 v1 v2 q => apS_ok [] _ (fun st => Ev (d + 0) none mX11_wrong (0, 0) 8 [.ref v0, .int v1, .int v2] st h (QV z)) st (fun q => tX11_wrong_8 v0 v1 v2 h q) q) q)
    kRV_ok (Or.inr rfl) (by decide +kernel) (by decide +kernel) hf
def gX11_wrong (v0 : Nat) (v1 : Int32) (v2 : Int32) (h : aH) : Option (aH) := fX11_wrong_0 v0 v1 v2 h
theorem zX11_wrong {d : Nat} {z : aH} {v0 : Nat} {v1 : Int32} {v2 : Int32} {h : aH} (q : gX11_wrong v0 v1 v2 h = some z) : CT (d + 0) mX11_wrong (0, 0) [.ref v0, .int v1, .int v2] h (QV z) :=
  ct_ev (by decide +kernel) (Nat.le_of_ble_eq_true rfl) QV_r (jm [2, 1, 1] (fun v0 v1 v2 => fX11_wrong_0 v0 v1 v2 h) (fun v0 v1 v2 q => tX11_wrong_0 v0 v1 v2 h q) q)
def wX11_numberHere_65 : List En := [(.ireturn, 0, 0, 0)]
def fX11_numberHere_65 (s0 : Int32) (h : aH) : Option (Int32 × aH) :=
  some (s0, h)
theorem tX11_numberHere_65 {d : Nat} {z : Int32 × aH} (s0 : Int32) (h : aH) (hf : fX11_numberHere_65 s0 h = some z) : Ev (d + 1) none mX11_numberHere (0, 0) 65 [.null, .null, .null] [.int s0] h (QI z) := 
  go_ok (X := none) (blk := wX11_numberHere_65) (np := 66) (tt := 0) (kN := fun _ _ _ => none) (kT := fun _ _ _ => none) (kR := kRI)
    (fun _ _ _ q => nos q)
    (fun _ _ _ q => nos q)
    kRI_ok (Or.inr rfl) (by decide +kernel) (by decide +kernel) hf
def wX11_numberHere_61 : List En := [(.aload_n 0, 0, 0, 0), (.getfield 78, 182, 11, 7)]
def fX11_numberHere_61 (v0 : Nat) (h : aH) : Option (Int32 × aH) :=
  (gFI h 11 v0 7).bind fun t1 =>
  fX11_numberHere_65 t1 h
theorem tX11_numberHere_61 {d : Nat} {z : Int32 × aH} (v0 : Nat) (h : aH) (hf : fX11_numberHere_61 v0 h = some z) : Ev (d + 1) none mX11_numberHere (0, 0) 61 [.ref v0, .null, .null] [] h (QI z) := 
  go_ok (X := none) (blk := wX11_numberHere_61) (np := 65) (tt := 0) (kN := fun xs h st => app [0, 0, 0] (apS [1] (fun s0 => fX11_numberHere_65 s0 h) st) xs) (kT := fun _ _ _ => none) (kR := kRI)
    (fun xs h st q => jm [0, 0, 0] _ (fun q => apS_ok [1] _ (fun st => Ev (d + 1) none mX11_numberHere (0, 0) 65 [.null, .null, .null] st h (QI z)) st (fun s0 q => tX11_numberHere_65 s0 h q) q) q)
    (fun _ _ _ q => nos q)
    kRI_ok (Or.inr rfl) (by decide +kernel) (by decide +kernel) hf
def wX11_numberHere_57 : List En := [(.iload_n 1, 0, 0, 0), (.goto 7, 65, 0, 0)]
def fX11_numberHere_57 (v1 : Int32) (h : aH) : Option (Int32 × aH) :=
  fX11_numberHere_65 v1 h
theorem tX11_numberHere_57 {d : Nat} {z : Int32 × aH} (v1 : Int32) (h : aH) (hf : fX11_numberHere_57 v1 h = some z) : Ev (d + 1) none mX11_numberHere (0, 0) 57 [.null, .int v1, .null] [] h (QI z) := 
  go_ok (X := none) (blk := wX11_numberHere_57) (np := 61) (tt := 65) (kN := fun _ _ _ => none) (kT := fun xs h st => app [0, 0, 0] (apS [1] (fun s0 => fX11_numberHere_65 s0 h) st) xs) (kR := kRI)
    (fun _ _ _ q => nos q)
    (fun xs h st q => jm [0, 0, 0] _ (fun q => apS_ok [1] _ (fun st => Ev (d + 1) none mX11_numberHere (0, 0) 65 [.null, .null, .null] st h (QI z)) st (fun s0 q => tX11_numberHere_65 s0 h q) q) q)
    kRI_ok (Or.inr rfl) (by decide +kernel) (by decide +kernel) hf
def wX11_numberHere_50 : List En := [(.aload_n 0, 0, 0, 0), (.getfield 91, 188, 11, 13), (.ifCond .eq 7, 61, 0, 0)]
def fX11_numberHere_50 (v0 : Nat) (v1 : Int32) (h : aH) : Option (Int32 × aH) :=
  (gFI h 11 v0 13).bind fun t1 =>
  if t1 = 0 then fX11_numberHere_61 v0 h else fX11_numberHere_57 v1 h
theorem tX11_numberHere_50 {d : Nat} {z : Int32 × aH} (v0 : Nat) (v1 : Int32) (h : aH) (hf : fX11_numberHere_50 v0 v1 h = some z) : Ev (d + 1) none mX11_numberHere (0, 0) 50 [.ref v0, .int v1, .null] [] h (QI z) := 
  go_ok (X := none) (blk := wX11_numberHere_50) (np := 57) (tt := 61) (kN := fun xs h st => app [0, 1, 0] (fun v1 => apS [] (fX11_numberHere_57 v1 h) st) xs) (kT := fun xs h st => app [2, 0, 0] (fun v0 => apS [] (fX11_numberHere_61 v0 h) st) xs) (kR := kRI)
    (fun xs h st q => jm [0, 1, 0] _ (fun v1 q => apS_ok [] _ (fun st => Ev (d + 1) none mX11_numberHere (0, 0) 57 [.null, .int v1, .null] st h (QI z)) st (fun q => tX11_numberHere_57 v1 h q) q) q)
    (fun xs h st q => jm [2, 0, 0] _ (fun v0 q => apS_ok [] _ (fun st => Ev (d + 1) none mX11_numberHere (0, 0) 61 [.ref v0, .null, .null] st h (QI z)) st (fun q => tX11_numberHere_61 v0 h q) q) q)
    kRI_ok (Or.inr rfl) (by decide +kernel) (by decide +kernel) hf
theorem kqX11_numberHere_47 : okC mX11_numberHere 47 (.invokevirtual 118) 191 208 0 2 = true := by decide +kernel
def fX11_numberHere_47 (v0 : Nat) (v1 : Int32) (s0 : Int32) (s1 : Int32) (s2 : Nat) (h : aH) : Option (Int32 × aH) :=
  (isO h 11 s2).bind fun _ =>
  (gX11_wrong s2 s1 s0 h).bind fun r =>
  fX11_numberHere_50 v0 v1 r
theorem tX11_numberHere_47 {d : Nat} {z : Int32 × aH} (v0 : Nat) (v1 : Int32) (s0 : Int32) (s1 : Int32) (s2 : Nat) (h : aH) (hf : fX11_numberHere_47 v0 v1 s0 s1 s2 h = some z) : Ev (d + 1) none mX11_numberHere (0, 0) 47 [.ref v0, .int v1, .null] [.int s0, .int s1, .ref s2] h (QI z) := by
  obtain ⟨_, h1, hf⟩ := bnd hf
  obtain ⟨fs, ho⟩ := isO_ok h1
  obtain ⟨r, h2, hf⟩ := bnd hf
  refine ev_V kqX11_numberHere_47 jX11_wrong (zX11_wrong (d := d + 0) h2) ho rfl rfl (Nat.le_of_ble_eq_true rfl) rfl (as := [.int s1, .int s0]) (rest := []) rfl (Nat.le_of_ble_eq_true rfl) (fun _ _ hq => ?_)
  obtain ⟨rfl, hh⟩ := hq
  rw [hh]
  exact jm [2, 1, 0] (fun v0 v1 => fX11_numberHere_50 v0 v1 r) (fun v0 v1 q => tX11_numberHere_50 v0 v1 r q) hf
def wX11_numberHere_41 : List En := [(.aload_n 0, 0, 0, 0), (.iconst 4, 0, 0, 0), (.aload_n 0, 0, 0, 0), (.getfield 72, 179, 11, 4)]
def fX11_numberHere_41 (v0 : Nat) (v1 : Int32) (h : aH) : Option (Int32 × aH) :=
  (gFI h 11 v0 4).bind fun t1 =>
  fX11_numberHere_47 v0 v1 t1 (kI 4) v0 h
theorem tX11_numberHere_41 {d : Nat} {z : Int32 × aH} (v0 : Nat) (v1 : Int32) (h : aH) (hf : fX11_numberHere_41 v0 v1 h = some z) : Ev (d + 1) none mX11_numberHere (0, 0) 41 [.ref v0, .int v1, .null] [] h (QI z) := 
  go_ok (X := none) (blk := wX11_numberHere_41) (np := 47) (tt := 0) (kN := fun xs h st => app [2, 1, 0] (fun v0 v1 => apS [1, 1, 2] (fun s0 s1 s2 => fX11_numberHere_47 v0 v1 s0 s1 s2 h) st) xs) (kT := fun _ _ _ => none) (kR := kRI)
    (fun xs h st q => jm [2, 1, 0] _ (fun v0 v1 q => apS_ok [1, 1, 2] _ (fun st => Ev (d + 1) none mX11_numberHere (0, 0) 47 [.ref v0, .int v1, .null] st h (QI z)) st (fun s0 s1 s2 q => tX11_numberHere_47 v0 v1 s0 s1 s2 h q) q) q)
    (fun _ _ _ q => nos q)
    kRI_ok (Or.inr rfl) (by decide +kernel) (by decide +kernel) hf
def wX11_numberHere_38 : List En := [(.ifCond .ne 12, 50, 0, 0)]
def fX11_numberHere_38 (v0 : Nat) (v1 : Int32) (s0 : Int32) (h : aH) : Option (Int32 × aH) :=
  if s0 = 0 then fX11_numberHere_41 v0 v1 h else fX11_numberHere_50 v0 v1 h
theorem tX11_numberHere_38 {d : Nat} {z : Int32 × aH} (v0 : Nat) (v1 : Int32) (s0 : Int32) (h : aH) (hf : fX11_numberHere_38 v0 v1 s0 h = some z) : Ev (d + 1) none mX11_numberHere (0, 0) 38 [.ref v0, .int v1, .null] [.int s0] h (QI z) := 
  go_ok (X := none) (blk := wX11_numberHere_38) (np := 41) (tt := 50) (kN := fun xs h st => app [2, 1, 0] (fun v0 v1 => apS [] (fX11_numberHere_41 v0 v1 h) st) xs) (kT := fun xs h st => app [2, 1, 0] (fun v0 v1 => apS [] (fX11_numberHere_50 v0 v1 h) st) xs) (kR := kRI)
    (fun xs h st q => jm [2, 1, 0] _ (fun v0 v1 q => apS_ok [] _ (fun st => Ev (d + 1) none mX11_numberHere (0, 0) 41 [.ref v0, .int v1, .null] st h (QI z)) st (fun q => tX11_numberHere_41 v0 v1 h q) q) q)
    (fun xs h st q => jm [2, 1, 0] _ (fun v0 v1 q => apS_ok [] _ (fun st => Ev (d + 1) none mX11_numberHere (0, 0) 50 [.ref v0, .int v1, .null] st h (QI z)) st (fun q => tX11_numberHere_50 v0 v1 h q) q) q)
    kRI_ok (Or.inr rfl) (by decide +kernel) (by decide +kernel) hf
theorem kqX11_numberHere_35 : okC mX11_numberHere 35 (.invokestatic 140) 182 197 1 3 = true := by decide +kernel
def fX11_numberHere_35 (v0 : Nat) (v1 : Int32) (s0 : Int32) (s1 : Int32) (s2 : Int32) (h : aH) : Option (Int32 × aH) :=
  (gX11_in s2 s1 s0 h).bind fun r =>
  fX11_numberHere_38 v0 v1 r.1 r.2
theorem tX11_numberHere_35 {d : Nat} {z : Int32 × aH} (v0 : Nat) (v1 : Int32) (s0 : Int32) (s1 : Int32) (s2 : Int32) (h : aH) (hf : fX11_numberHere_35 v0 v1 s0 s1 s2 h = some z) : Ev (d + 1) none mX11_numberHere (0, 0) 35 [.ref v0, .int v1, .null] [.int s0, .int s1, .int s2] h (QI z) := by
  obtain ⟨r, h2, hf⟩ := bnd hf
  refine ev_S kqX11_numberHere_35 jX11_in (zX11_in (d := d + 0) h2) rfl (Nat.le_of_ble_eq_true rfl) rfl (as := [.int s2, .int s1, .int s0]) (rest := []) rfl (Nat.le_of_ble_eq_true rfl) (fun _ _ hq => ?_)
  obtain ⟨-, rfl, rfl⟩ := hq
  exact jm [2, 1, 0] (fun v0 v1 => fX11_numberHere_38 v0 v1 r.1 r.2) (fun v0 v1 q => tX11_numberHere_38 v0 v1 r.1 r.2 q) hf
def wX11_numberHere_29 : List En := [(.aload_n 0, 0, 0, 0), (.getfield 78, 182, 11, 7), (.iload_n 1, 0, 0, 0), (.iload_n 2, 0, 0, 0)]
def fX11_numberHere_29 (v0 : Nat) (v1 : Int32) (v2 : Int32) (h : aH) : Option (Int32 × aH) :=
  (gFI h 11 v0 7).bind fun t1 =>
  fX11_numberHere_35 v0 v1 v2 v1 t1 h
theorem tX11_numberHere_29 {d : Nat} {z : Int32 × aH} (v0 : Nat) (v1 : Int32) (v2 : Int32) (h : aH) (hf : fX11_numberHere_29 v0 v1 v2 h = some z) : Ev (d + 1) none mX11_numberHere (0, 0) 29 [.ref v0, .int v1, .int v2] [] h (QI z) := 
  go_ok (X := none) (blk := wX11_numberHere_29) (np := 35) (tt := 0) (kN := fun xs h st => app [2, 1, 0] (fun v0 v1 => apS [1, 1, 1] (fun s0 s1 s2 => fX11_numberHere_35 v0 v1 s0 s1 s2 h) st) xs) (kT := fun _ _ _ => none) (kR := kRI)
    (fun xs h st q => jm [2, 1, 0] _ (fun v0 v1 q => apS_ok [1, 1, 1] _ (fun st => Ev (d + 1) none mX11_numberHere (0, 0) 35 [.ref v0, .int v1, .null] st h (QI z)) st (fun s0 s1 s2 q => tX11_numberHere_35 v0 v1 s0 s1 s2 h q) q) q)
    (fun _ _ _ q => nos q)
    kRI_ok (Or.inr rfl) (by decide +kernel) (by decide +kernel) hf
def wX11_numberHere_26 : List En := [(.goto 24, 50, 0, 0)]
def fX11_numberHere_26 (v0 : Nat) (v1 : Int32) (h : aH) : Option (Int32 × aH) :=
  fX11_numberHere_50 v0 v1 h
theorem tX11_numberHere_26 {d : Nat} {z : Int32 × aH} (v0 : Nat) (v1 : Int32) (h : aH) (hf : fX11_numberHere_26 v0 v1 h = some z) : Ev (d + 1) none mX11_numberHere (0, 0) 26 [.ref v0, .int v1, .null] [] h (QI z) := 
  go_ok (X := none) (blk := wX11_numberHere_26) (np := 29) (tt := 50) (kN := fun _ _ _ => none) (kT := fun xs h st => app [2, 1, 0] (fun v0 v1 => apS [] (fX11_numberHere_50 v0 v1 h) st) xs) (kR := kRI)
    (fun _ _ _ q => nos q)
    (fun xs h st q => jm [2, 1, 0] _ (fun v0 v1 q => apS_ok [] _ (fun st => Ev (d + 1) none mX11_numberHere (0, 0) 50 [.ref v0, .int v1, .null] st h (QI z)) st (fun q => tX11_numberHere_50 v0 v1 h q) q) q)
    kRI_ok (Or.inr rfl) (by decide +kernel) (by decide +kernel) hf
theorem kqX11_numberHere_23 : okC mX11_numberHere 23 (.invokevirtual 118) 191 208 0 2 = true := by decide +kernel
def fX11_numberHere_23 (v0 : Nat) (v1 : Int32) (s0 : Int32) (s1 : Int32) (s2 : Nat) (h : aH) : Option (Int32 × aH) :=
  (isO h 11 s2).bind fun _ =>
  (gX11_wrong s2 s1 s0 h).bind fun r =>
  fX11_numberHere_26 v0 v1 r
theorem tX11_numberHere_23 {d : Nat} {z : Int32 × aH} (v0 : Nat) (v1 : Int32) (s0 : Int32) (s1 : Int32) (s2 : Nat) (h : aH) (hf : fX11_numberHere_23 v0 v1 s0 s1 s2 h = some z) : Ev (d + 1) none mX11_numberHere (0, 0) 23 [.ref v0, .int v1, .null] [.int s0, .int s1, .ref s2] h (QI z) := by
  obtain ⟨_, h1, hf⟩ := bnd hf
  obtain ⟨fs, ho⟩ := isO_ok h1
  obtain ⟨r, h2, hf⟩ := bnd hf
  refine ev_V kqX11_numberHere_23 jX11_wrong (zX11_wrong (d := d + 0) h2) ho rfl rfl (Nat.le_of_ble_eq_true rfl) rfl (as := [.int s1, .int s0]) (rest := []) rfl (Nat.le_of_ble_eq_true rfl) (fun _ _ hq => ?_)
  obtain ⟨rfl, hh⟩ := hq
  rw [hh]
  exact jm [2, 1, 0] (fun v0 v1 => fX11_numberHere_26 v0 v1 r) (fun v0 v1 q => tX11_numberHere_26 v0 v1 r q) hf
def wX11_numberHere_17 : List En := [(.aload_n 0, 0, 0, 0), (.iconst 1, 0, 0, 0), (.aload_n 0, 0, 0, 0), (.getfield 72, 179, 11, 4)]
def fX11_numberHere_17 (v0 : Nat) (v1 : Int32) (h : aH) : Option (Int32 × aH) :=
  (gFI h 11 v0 4).bind fun t1 =>
  fX11_numberHere_23 v0 v1 t1 (kI 1) v0 h
theorem tX11_numberHere_17 {d : Nat} {z : Int32 × aH} (v0 : Nat) (v1 : Int32) (h : aH) (hf : fX11_numberHere_17 v0 v1 h = some z) : Ev (d + 1) none mX11_numberHere (0, 0) 17 [.ref v0, .int v1, .null] [] h (QI z) := 
  go_ok (X := none) (blk := wX11_numberHere_17) (np := 23) (tt := 0) (kN := fun xs h st => app [2, 1, 0] (fun v0 v1 => apS [1, 1, 2] (fun s0 s1 s2 => fX11_numberHere_23 v0 v1 s0 s1 s2 h) st) xs) (kT := fun _ _ _ => none) (kR := kRI)
    (fun xs h st q => jm [2, 1, 0] _ (fun v0 v1 q => apS_ok [1, 1, 2] _ (fun st => Ev (d + 1) none mX11_numberHere (0, 0) 23 [.ref v0, .int v1, .null] st h (QI z)) st (fun s0 s1 s2 q => tX11_numberHere_23 v0 v1 s0 s1 s2 h q) q) q)
    (fun _ _ _ q => nos q)
    kRI_ok (Or.inr rfl) (by decide +kernel) (by decide +kernel) hf
def wX11_numberHere_9 : List En := [(.aload_n 0, 0, 0, 0), (.getfield 81, 181, 11, 6), (.iconst 3, 0, 0, 0), (.if_icmp .eq 15, 29, 0, 0)]
def fX11_numberHere_9 (v0 : Nat) (v1 : Int32) (v2 : Int32) (h : aH) : Option (Int32 × aH) :=
  (gFI h 11 v0 6).bind fun t1 =>
  if t1 = (kI 3) then fX11_numberHere_29 v0 v1 v2 h else fX11_numberHere_17 v0 v1 h
theorem tX11_numberHere_9 {d : Nat} {z : Int32 × aH} (v0 : Nat) (v1 : Int32) (v2 : Int32) (h : aH) (hf : fX11_numberHere_9 v0 v1 v2 h = some z) : Ev (d + 1) none mX11_numberHere (0, 0) 9 [.ref v0, .int v1, .int v2] [] h (QI z) := 
  go_ok (X := none) (blk := wX11_numberHere_9) (np := 17) (tt := 29) (kN := fun xs h st => app [2, 1, 0] (fun v0 v1 => apS [] (fX11_numberHere_17 v0 v1 h) st) xs) (kT := fun xs h st => app [2, 1, 1] (fun v0 v1 v2 => apS [] (fX11_numberHere_29 v0 v1 v2 h) st) xs) (kR := kRI)
    (fun xs h st q => jm [2, 1, 0] _ (fun v0 v1 q => apS_ok [] _ (fun st => Ev (d + 1) none mX11_numberHere (0, 0) 17 [.ref v0, .int v1, .null] st h (QI z)) st (fun q => tX11_numberHere_17 v0 v1 h q) q) q)
    (fun xs h st q => jm [2, 1, 1] _ (fun v0 v1 v2 q => apS_ok [] _ (fun st => Ev (d + 1) none mX11_numberHere (0, 0) 29 [.ref v0, .int v1, .int v2] st h (QI z)) st (fun q => tX11_numberHere_29 v0 v1 v2 h q) q) q)
    kRI_ok (Or.inr rfl) (by decide +kernel) (by decide +kernel) hf
def wX11_numberHere_7 : List En := [(.iload_n 1, 0, 0, 0), (.ireturn, 0, 0, 0)]
def fX11_numberHere_7 (v1 : Int32) (h : aH) : Option (Int32 × aH) :=
  some (v1, h)
theorem tX11_numberHere_7 {d : Nat} {z : Int32 × aH} (v1 : Int32) (h : aH) (hf : fX11_numberHere_7 v1 h = some z) : Ev (d + 1) none mX11_numberHere (0, 0) 7 [.null, .int v1, .null] [] h (QI z) := 
  go_ok (X := none) (blk := wX11_numberHere_7) (np := 9) (tt := 0) (kN := fun _ _ _ => none) (kT := fun _ _ _ => none) (kR := kRI)
    (fun _ _ _ q => nos q)
    (fun _ _ _ q => nos q)
    kRI_ok (Or.inr rfl) (by decide +kernel) (by decide +kernel) hf
def wX11_numberHere_0 : List En := [(.aload_n 0, 0, 0, 0), (.getfield 91, 188, 11, 13), (.ifCond .eq 5, 9, 0, 0)]
def fX11_numberHere_0 (v0 : Nat) (v1 : Int32) (v2 : Int32) (h : aH) : Option (Int32 × aH) :=
  (gFI h 11 v0 13).bind fun t1 =>
  if t1 = 0 then fX11_numberHere_9 v0 v1 v2 h else fX11_numberHere_7 v1 h
theorem tX11_numberHere_0 {d : Nat} {z : Int32 × aH} (v0 : Nat) (v1 : Int32) (v2 : Int32) (h : aH) (hf : fX11_numberHere_0 v0 v1 v2 h = some z) : Ev (d + 1) none mX11_numberHere (0, 0) 0 [.ref v0, .int v1, .int v2] [] h (QI z) := 
  go_ok (X := none) (blk := wX11_numberHere_0) (np := 7) (tt := 9) (kN := fun xs h st => app [0, 1, 0] (fun v1 => apS [] (fX11_numberHere_7 v1 h) st) xs) (kT := fun xs h st => app [2, 1, 1] (fun v0 v1 v2 => apS [] (fX11_numberHere_9 v0 v1 v2 h) st) xs) (kR := kRI)
    (fun xs h st q => jm [0, 1, 0] _ (fun v1 q => apS_ok [] _ (fun st => Ev (d + 1) none mX11_numberHere (0, 0) 7 [.null, .int v1, .null] st h (QI z)) st (fun q => tX11_numberHere_7 v1 h q) q) q)
    (fun xs h st q => jm [2, 1, 1] _ (fun v0 v1 v2 q => apS_ok [] _ (fun st => Ev (d + 1) none mX11_numberHere (0, 0) 9 [.ref v0, .int v1, .int v2] st h (QI z)) st (fun q => tX11_numberHere_9 v0 v1 v2 h q) q) q)
    kRI_ok (Or.inr rfl) (by decide +kernel) (by decide +kernel) hf
def gX11_numberHere (v0 : Nat) (v1 : Int32) (v2 : Int32) (h : aH) : Option (Int32 × aH) := fX11_numberHere_0 v0 v1 v2 h
theorem zX11_numberHere {d : Nat} {z : Int32 × aH} {v0 : Nat} {v1 : Int32} {v2 : Int32} {h : aH} (q : gX11_numberHere v0 v1 v2 h = some z) : CT (d + 1) mX11_numberHere (0, 0) [.ref v0, .int v1, .int v2] h (QI z) :=
  ct_ev (by decide +kernel) (Nat.le_of_ble_eq_true rfl) QI_r (jm [2, 1, 1] (fun v0 v1 v2 => fX11_numberHere_0 v0 v1 v2 h) (fun v0 v1 v2 q => tX11_numberHere_0 v0 v1 v2 h q) q)
def wX11_find_103 : List En := [(.iconst (-1), 0, 0, 0), (.ireturn, 0, 0, 0)]
def fX11_find_103 (h : aH) : Option (Int32 × aH) :=
  some ((kI (-1)), h)
theorem tX11_find_103 {d : Nat} {z : Int32 × aH} (h : aH) (hf : fX11_find_103 h = some z) : Ev (d + 0) none mX11_find (0, 0) 103 [.null, .null, .null, .null] [] h (QI z) := 
  go_ok (X := none) (blk := wX11_find_103) (np := 105) (tt := 0) (kN := fun _ _ _ => none) (kT := fun _ _ _ => none) (kR := kRI)
    (fun _ _ _ q => nos q)
    (fun _ _ _ q => nos q)
    kRI_ok (Or.inr rfl) (by decide +kernel) (by decide +kernel) hf
def wX11_find_97 : List En := [(.iinc 1 1, 0, 0, 0), (.goto (-98), 2, 0, 0)]
def fX11_find_97 (k2 : Nat → Int32 → aH → Option (Int32 × aH)) (v0 : Nat) (v1 : Int32) (h : aH) : Option (Int32 × aH) :=
  k2 v0 (v1 + kI 1) h
theorem tX11_find_97 {d : Nat} {z : Int32 × aH} {k2 : Nat → Int32 → aH → Option (Int32 × aH)} (hk2 : ∀ (v0 : Nat) (v1 : Int32) (h : aH), k2 v0 v1 h = some z → Ev (d + 0) none mX11_find (0, 0) 2 [.ref v0, .int v1, .null, .null] [] h (QI z)) (v0 : Nat) (v1 : Int32) (h : aH) (hf : fX11_find_97 k2 v0 v1 h = some z) : Ev (d + 0) none mX11_find (0, 0) 97 [.ref v0, .int v1, .null, .null] [] h (QI z) := 
  go_ok (X := none) (blk := wX11_find_97) (np := 103) (tt := 2) (kN := fun _ _ _ => none) (kT := fun xs h st => app [2, 1, 0, 0] (fun v0 v1 => apS [] (k2 v0 v1 h) st) xs) (kR := kRI)
    (fun _ _ _ q => nos q)
    (fun xs h st q => jm [2, 1, 0, 0] _ (fun v0 v1 q => apS_ok [] _ (fun st => Ev (d + 0) none mX11_find (0, 0) 2 [.ref v0, .int v1, .null, .null] st h (QI z)) st (fun q => hk2 v0 v1 h q) q) q)
    kRI_ok (Or.inr rfl) (by decide +kernel) (by decide +kernel) hf
def wX11_find_95 : List En := [(.iload_n 1, 0, 0, 0), (.ireturn, 0, 0, 0)]
def fX11_find_95 (v1 : Int32) (h : aH) : Option (Int32 × aH) :=
  some (v1, h)
theorem tX11_find_95 {d : Nat} {z : Int32 × aH} (v1 : Int32) (h : aH) (hf : fX11_find_95 v1 h = some z) : Ev (d + 0) none mX11_find (0, 0) 95 [.null, .int v1, .null, .null] [] h (QI z) := 
  go_ok (X := none) (blk := wX11_find_95) (np := 97) (tt := 0) (kN := fun _ _ _ => none) (kT := fun _ _ _ => none) (kR := kRI)
    (fun _ _ _ q => nos q)
    (fun _ _ _ q => nos q)
    kRI_ok (Or.inr rfl) (by decide +kernel) (by decide +kernel) hf
def wX11_find_91 : List En := [(.iload_n 2, 0, 0, 0), (.ifCond .eq 5, 97, 0, 0)]
def fX11_find_91 (k2 : Nat → Int32 → aH → Option (Int32 × aH)) (v0 : Nat) (v1 : Int32) (v2 : Int32) (h : aH) : Option (Int32 × aH) :=
  if v2 = 0 then fX11_find_97 k2 v0 v1 h else fX11_find_95 v1 h
theorem tX11_find_91 {d : Nat} {z : Int32 × aH} {k2 : Nat → Int32 → aH → Option (Int32 × aH)} (hk2 : ∀ (v0 : Nat) (v1 : Int32) (h : aH), k2 v0 v1 h = some z → Ev (d + 0) none mX11_find (0, 0) 2 [.ref v0, .int v1, .null, .null] [] h (QI z)) (v0 : Nat) (v1 : Int32) (v2 : Int32) (h : aH) (hf : fX11_find_91 k2 v0 v1 v2 h = some z) : Ev (d + 0) none mX11_find (0, 0) 91 [.ref v0, .int v1, .int v2, .null] [] h (QI z) := 
  go_ok (X := none) (blk := wX11_find_91) (np := 95) (tt := 97) (kN := fun xs h st => app [0, 1, 0, 0] (fun v1 => apS [] (fX11_find_95 v1 h) st) xs) (kT := fun xs h st => app [2, 1, 0, 0] (fun v0 v1 => apS [] (fX11_find_97 k2 v0 v1 h) st) xs) (kR := kRI)
    (fun xs h st q => jm [0, 1, 0, 0] _ (fun v1 q => apS_ok [] _ (fun st => Ev (d + 0) none mX11_find (0, 0) 95 [.null, .int v1, .null, .null] st h (QI z)) st (fun q => tX11_find_95 v1 h q) q) q)
    (fun xs h st q => jm [2, 1, 0, 0] _ (fun v0 v1 q => apS_ok [] _ (fun st => Ev (d + 0) none mX11_find (0, 0) 97 [.ref v0, .int v1, .null, .null] st h (QI z)) st (fun q => tX11_find_97 hk2 v0 v1 h q) q) q)
    kRI_ok (Or.inr rfl) (by decide +kernel) (by decide +kernel) hf
def wX11_find_84 : List En := [(.istore_n 2, 0, 0, 0), (.iinc 3 1, 0, 0, 0), (.goto (-44), 44, 0, 0)]
def fX11_find_84 (k2 : Nat → Int32 → aH → Option (Int32 × aH)) (k44 : Nat → Int32 → Int32 → Int32 → aH → Option (Int32 × aH)) (v0 : Nat) (v1 : Int32) (v3 : Int32) (s0 : Int32) (h : aH) : Option (Int32 × aH) :=
  k44 v0 v1 s0 (v3 + kI 1) h
theorem tX11_find_84 {d : Nat} {z : Int32 × aH} {k2 : Nat → Int32 → aH → Option (Int32 × aH)} {k44 : Nat → Int32 → Int32 → Int32 → aH → Option (Int32 × aH)} (hk2 : ∀ (v0 : Nat) (v1 : Int32) (h : aH), k2 v0 v1 h = some z → Ev (d + 0) none mX11_find (0, 0) 2 [.ref v0, .int v1, .null, .null] [] h (QI z)) (hk44 : ∀ (v0 : Nat) (v1 : Int32) (v2 : Int32) (v3 : Int32) (h : aH), k44 v0 v1 v2 v3 h = some z → Ev (d + 0) none mX11_find (0, 0) 44 [.ref v0, .int v1, .int v2, .int v3] [] h (QI z)) (v0 : Nat) (v1 : Int32) (v3 : Int32) (s0 : Int32) (h : aH) (hf : fX11_find_84 k2 k44 v0 v1 v3 s0 h = some z) : Ev (d + 0) none mX11_find (0, 0) 84 [.ref v0, .int v1, .null, .int v3] [.int s0] h (QI z) := 
  go_ok (X := none) (blk := wX11_find_84) (np := 91) (tt := 44) (kN := fun _ _ _ => none) (kT := fun xs h st => app [2, 1, 1, 1] (fun v0 v1 v2 v3 => apS [] (k44 v0 v1 v2 v3 h) st) xs) (kR := kRI)
    (fun _ _ _ q => nos q)
    (fun xs h st q => jm [2, 1, 1, 1] _ (fun v0 v1 v2 v3 q => apS_ok [] _ (fun st => Ev (d + 0) none mX11_find (0, 0) 44 [.ref v0, .int v1, .int v2, .int v3] st h (QI z)) st (fun q => hk44 v0 v1 v2 v3 h q) q) q)
    kRI_ok (Or.inr rfl) (by decide +kernel) (by decide +kernel) hf
def wX11_find_83 : List En := [(.iconst 0, 0, 0, 0)]
def fX11_find_83 (k2 : Nat → Int32 → aH → Option (Int32 × aH)) (k44 : Nat → Int32 → Int32 → Int32 → aH → Option (Int32 × aH)) (v0 : Nat) (v1 : Int32) (v3 : Int32) (h : aH) : Option (Int32 × aH) :=
  fX11_find_84 k2 k44 v0 v1 v3 (kI 0) h
theorem tX11_find_83 {d : Nat} {z : Int32 × aH} {k2 : Nat → Int32 → aH → Option (Int32 × aH)} {k44 : Nat → Int32 → Int32 → Int32 → aH → Option (Int32 × aH)} (hk2 : ∀ (v0 : Nat) (v1 : Int32) (h : aH), k2 v0 v1 h = some z → Ev (d + 0) none mX11_find (0, 0) 2 [.ref v0, .int v1, .null, .null] [] h (QI z)) (hk44 : ∀ (v0 : Nat) (v1 : Int32) (v2 : Int32) (v3 : Int32) (h : aH), k44 v0 v1 v2 v3 h = some z → Ev (d + 0) none mX11_find (0, 0) 44 [.ref v0, .int v1, .int v2, .int v3] [] h (QI z)) (v0 : Nat) (v1 : Int32) (v3 : Int32) (h : aH) (hf : fX11_find_83 k2 k44 v0 v1 v3 h = some z) : Ev (d + 0) none mX11_find (0, 0) 83 [.ref v0, .int v1, .null, .int v3] [] h (QI z) := 
  go_ok (X := none) (blk := wX11_find_83) (np := 84) (tt := 0) (kN := fun xs h st => app [2, 1, 0, 1] (fun v0 v1 v3 => apS [1] (fun s0 => fX11_find_84 k2 k44 v0 v1 v3 s0 h) st) xs) (kT := fun _ _ _ => none) (kR := kRI)
    (fun xs h st q => jm [2, 1, 0, 1] _ (fun v0 v1 v3 q => apS_ok [1] _ (fun st => Ev (d + 0) none mX11_find (0, 0) 84 [.ref v0, .int v1, .null, .int v3] st h (QI z)) st (fun s0 q => tX11_find_84 hk2 hk44 v0 v1 v3 s0 h q) q) q)
    (fun _ _ _ q => nos q)
    kRI_ok (Or.inr rfl) (by decide +kernel) (by decide +kernel) hf
def wX11_find_79 : List En := [(.iconst 1, 0, 0, 0), (.goto 4, 84, 0, 0)]
def fX11_find_79 (k2 : Nat → Int32 → aH → Option (Int32 × aH)) (k44 : Nat → Int32 → Int32 → Int32 → aH → Option (Int32 × aH)) (v0 : Nat) (v1 : Int32) (v3 : Int32) (h : aH) : Option (Int32 × aH) :=
  fX11_find_84 k2 k44 v0 v1 v3 (kI 1) h
theorem tX11_find_79 {d : Nat} {z : Int32 × aH} {k2 : Nat → Int32 → aH → Option (Int32 × aH)} {k44 : Nat → Int32 → Int32 → Int32 → aH → Option (Int32 × aH)} (hk2 : ∀ (v0 : Nat) (v1 : Int32) (h : aH), k2 v0 v1 h = some z → Ev (d + 0) none mX11_find (0, 0) 2 [.ref v0, .int v1, .null, .null] [] h (QI z)) (hk44 : ∀ (v0 : Nat) (v1 : Int32) (v2 : Int32) (v3 : Int32) (h : aH), k44 v0 v1 v2 v3 h = some z → Ev (d + 0) none mX11_find (0, 0) 44 [.ref v0, .int v1, .int v2, .int v3] [] h (QI z)) (v0 : Nat) (v1 : Int32) (v3 : Int32) (h : aH) (hf : fX11_find_79 k2 k44 v0 v1 v3 h = some z) : Ev (d + 0) none mX11_find (0, 0) 79 [.ref v0, .int v1, .null, .int v3] [] h (QI z) := 
  go_ok (X := none) (blk := wX11_find_79) (np := 83) (tt := 84) (kN := fun _ _ _ => none) (kT := fun xs h st => app [2, 1, 0, 1] (fun v0 v1 v3 => apS [1] (fun s0 => fX11_find_84 k2 k44 v0 v1 v3 s0 h) st) xs) (kR := kRI)
    (fun _ _ _ q => nos q)
    (fun xs h st q => jm [2, 1, 0, 1] _ (fun v0 v1 v3 q => apS_ok [1] _ (fun st => Ev (d + 0) none mX11_find (0, 0) 84 [.ref v0, .int v1, .null, .int v3] st h (QI z)) st (fun s0 q => tX11_find_84 hk2 hk44 v0 v1 v3 s0 h q) q) q)
    kRI_ok (Or.inr rfl) (by decide +kernel) (by decide +kernel) hf
def wX11_find_56 : List En := [(.aload_n 0, 0, 0, 0), (.getfield 23, 191, 11, 16), (.bipush 84, 0, 0, 0), (.bipush 8, 0, 0, 0), (.iload_n 1, 0, 0, 0), (.imul, 0, 0, 0), (.iadd, 0, 0, 0), (.iload_n 3, 0, 0, 0), (.iadd, 0, 0, 0), (.iaload, 0, 0, 0), (.aload_n 0, 0, 0, 0), (.getfield 17, 187, 11, 12), (.iload_n 3, 0, 0, 0), (.iaload, 0, 0, 0), (.if_icmp .ne 7, 83, 0, 0)]
def fX11_find_56 (k2 : Nat → Int32 → aH → Option (Int32 × aH)) (k44 : Nat → Int32 → Int32 → Int32 → aH → Option (Int32 × aH)) (v0 : Nat) (v1 : Int32) (v3 : Int32) (h : aH) : Option (Int32 × aH) :=
  (gFR h 11 v0 16).bind fun t1 =>
  (aRI (h[t1]?) (((kB 84) + ((kB 8) * v1)) + v3)).bind fun t2 =>
  (gFR h 11 v0 12).bind fun t3 =>
  (aRI (h[t3]?) v3).bind fun t4 =>
  if t2 = t4 then fX11_find_79 k2 k44 v0 v1 v3 h else fX11_find_83 k2 k44 v0 v1 v3 h
theorem tX11_find_56 {d : Nat} {z : Int32 × aH} {k2 : Nat → Int32 → aH → Option (Int32 × aH)} {k44 : Nat → Int32 → Int32 → Int32 → aH → Option (Int32 × aH)} (hk2 : ∀ (v0 : Nat) (v1 : Int32) (h : aH), k2 v0 v1 h = some z → Ev (d + 0) none mX11_find (0, 0) 2 [.ref v0, .int v1, .null, .null] [] h (QI z)) (hk44 : ∀ (v0 : Nat) (v1 : Int32) (v2 : Int32) (v3 : Int32) (h : aH), k44 v0 v1 v2 v3 h = some z → Ev (d + 0) none mX11_find (0, 0) 44 [.ref v0, .int v1, .int v2, .int v3] [] h (QI z)) (v0 : Nat) (v1 : Int32) (v3 : Int32) (h : aH) (hf : fX11_find_56 k2 k44 v0 v1 v3 h = some z) : Ev (d + 0) none mX11_find (0, 0) 56 [.ref v0, .int v1, .null, .int v3] [] h (QI z) := 
  go_ok (X := none) (blk := wX11_find_56) (np := 79) (tt := 83) (kN := fun xs h st => app [2, 1, 0, 1] (fun v0 v1 v3 => apS [] (fX11_find_79 k2 k44 v0 v1 v3 h) st) xs) (kT := fun xs h st => app [2, 1, 0, 1] (fun v0 v1 v3 => apS [] (fX11_find_83 k2 k44 v0 v1 v3 h) st) xs) (kR := kRI)
    (fun xs h st q => jm [2, 1, 0, 1] _ (fun v0 v1 v3 q => apS_ok [] _ (fun st => Ev (d + 0) none mX11_find (0, 0) 79 [.ref v0, .int v1, .null, .int v3] st h (QI z)) st (fun q => tX11_find_79 hk2 hk44 v0 v1 v3 h q) q) q)
    (fun xs h st q => jm [2, 1, 0, 1] _ (fun v0 v1 v3 q => apS_ok [] _ (fun st => Ev (d + 0) none mX11_find (0, 0) 83 [.ref v0, .int v1, .null, .int v3] st h (QI z)) st (fun q => tX11_find_83 hk2 hk44 v0 v1 v3 h q) q) q)
    kRI_ok (Or.inr rfl) (by decide +kernel) (by decide +kernel) hf
def wX11_find_52 : List En := [(.iload_n 2, 0, 0, 0), (.ifCond .eq 38, 91, 0, 0)]
def fX11_find_52 (k2 : Nat → Int32 → aH → Option (Int32 × aH)) (k44 : Nat → Int32 → Int32 → Int32 → aH → Option (Int32 × aH)) (v0 : Nat) (v1 : Int32) (v2 : Int32) (v3 : Int32) (h : aH) : Option (Int32 × aH) :=
  if v2 = 0 then fX11_find_91 k2 v0 v1 v2 h else fX11_find_56 k2 k44 v0 v1 v3 h
theorem tX11_find_52 {d : Nat} {z : Int32 × aH} {k2 : Nat → Int32 → aH → Option (Int32 × aH)} {k44 : Nat → Int32 → Int32 → Int32 → aH → Option (Int32 × aH)} (hk2 : ∀ (v0 : Nat) (v1 : Int32) (h : aH), k2 v0 v1 h = some z → Ev (d + 0) none mX11_find (0, 0) 2 [.ref v0, .int v1, .null, .null] [] h (QI z)) (hk44 : ∀ (v0 : Nat) (v1 : Int32) (v2 : Int32) (v3 : Int32) (h : aH), k44 v0 v1 v2 v3 h = some z → Ev (d + 0) none mX11_find (0, 0) 44 [.ref v0, .int v1, .int v2, .int v3] [] h (QI z)) (v0 : Nat) (v1 : Int32) (v2 : Int32) (v3 : Int32) (h : aH) (hf : fX11_find_52 k2 k44 v0 v1 v2 v3 h = some z) : Ev (d + 0) none mX11_find (0, 0) 52 [.ref v0, .int v1, .int v2, .int v3] [] h (QI z) := 
  go_ok (X := none) (blk := wX11_find_52) (np := 56) (tt := 91) (kN := fun xs h st => app [2, 1, 0, 1] (fun v0 v1 v3 => apS [] (fX11_find_56 k2 k44 v0 v1 v3 h) st) xs) (kT := fun xs h st => app [2, 1, 1, 0] (fun v0 v1 v2 => apS [] (fX11_find_91 k2 v0 v1 v2 h) st) xs) (kR := kRI)
    (fun xs h st q => jm [2, 1, 0, 1] _ (fun v0 v1 v3 q => apS_ok [] _ (fun st => Ev (d + 0) none mX11_find (0, 0) 56 [.ref v0, .int v1, .null, .int v3] st h (QI z)) st (fun q => tX11_find_56 hk2 hk44 v0 v1 v3 h q) q) q)
    (fun xs h st q => jm [2, 1, 1, 0] _ (fun v0 v1 v2 q => apS_ok [] _ (fun st => Ev (d + 0) none mX11_find (0, 0) 91 [.ref v0, .int v1, .int v2, .null] st h (QI z)) st (fun q => tX11_find_91 hk2 v0 v1 v2 h q) q) q)
    kRI_ok (Or.inr rfl) (by decide +kernel) (by decide +kernel) hf
def wX11_find_44 : List En := [(.iload_n 3, 0, 0, 0), (.aload_n 0, 0, 0, 0), (.getfield 75, 183, 11, 8), (.if_icmp .ge 42, 91, 0, 0)]
def fX11_find_44 (k2 : Nat → Int32 → aH → Option (Int32 × aH)) (k44 : Nat → Int32 → Int32 → Int32 → aH → Option (Int32 × aH)) (v0 : Nat) (v1 : Int32) (v2 : Int32) (v3 : Int32) (h : aH) : Option (Int32 × aH) :=
  (gFI h 11 v0 8).bind fun t1 =>
  if v3 < t1 then fX11_find_52 k2 k44 v0 v1 v2 v3 h else fX11_find_91 k2 v0 v1 v2 h
theorem tX11_find_44 {d : Nat} {z : Int32 × aH} {k2 : Nat → Int32 → aH → Option (Int32 × aH)} {k44 : Nat → Int32 → Int32 → Int32 → aH → Option (Int32 × aH)} (hk2 : ∀ (v0 : Nat) (v1 : Int32) (h : aH), k2 v0 v1 h = some z → Ev (d + 0) none mX11_find (0, 0) 2 [.ref v0, .int v1, .null, .null] [] h (QI z)) (hk44 : ∀ (v0 : Nat) (v1 : Int32) (v2 : Int32) (v3 : Int32) (h : aH), k44 v0 v1 v2 v3 h = some z → Ev (d + 0) none mX11_find (0, 0) 44 [.ref v0, .int v1, .int v2, .int v3] [] h (QI z)) (v0 : Nat) (v1 : Int32) (v2 : Int32) (v3 : Int32) (h : aH) (hf : fX11_find_44 k2 k44 v0 v1 v2 v3 h = some z) : Ev (d + 0) none mX11_find (0, 0) 44 [.ref v0, .int v1, .int v2, .int v3] [] h (QI z) := 
  go_ok (X := none) (blk := wX11_find_44) (np := 52) (tt := 91) (kN := fun xs h st => app [2, 1, 1, 1] (fun v0 v1 v2 v3 => apS [] (fX11_find_52 k2 k44 v0 v1 v2 v3 h) st) xs) (kT := fun xs h st => app [2, 1, 1, 0] (fun v0 v1 v2 => apS [] (fX11_find_91 k2 v0 v1 v2 h) st) xs) (kR := kRI)
    (fun xs h st q => jm [2, 1, 1, 1] _ (fun v0 v1 v2 v3 q => apS_ok [] _ (fun st => Ev (d + 0) none mX11_find (0, 0) 52 [.ref v0, .int v1, .int v2, .int v3] st h (QI z)) st (fun q => tX11_find_52 hk2 hk44 v0 v1 v2 v3 h q) q) q)
    (fun xs h st q => jm [2, 1, 1, 0] _ (fun v0 v1 v2 q => apS_ok [] _ (fun st => Ev (d + 0) none mX11_find (0, 0) 91 [.ref v0, .int v1, .int v2, .null] st h (QI z)) st (fun q => tX11_find_91 hk2 v0 v1 v2 h q) q) q)
    kRI_ok (Or.inr rfl) (by decide +kernel) (by decide +kernel) hf
def lX11_find_44 (k2 : Nat → Int32 → aH → Option (Int32 × aH)) : Nat → Nat → Int32 → Int32 → Int32 → aH → Option (Int32 × aH)
  | 0, _, _, _, _, _ => none
  | n + 1, v0, v1, v2, v3, h => fX11_find_44 k2 (lX11_find_44 k2 n) v0 v1 v2 v3 h
theorem uX11_find_44 {d : Nat} {z : Int32 × aH} {k2 : Nat → Int32 → aH → Option (Int32 × aH)} (hk2 : ∀ (v0 : Nat) (v1 : Int32) (h : aH), k2 v0 v1 h = some z → Ev (d + 0) none mX11_find (0, 0) 2 [.ref v0, .int v1, .null, .null] [] h (QI z)) : ∀ (n : Nat) (v0 : Nat) (v1 : Int32) (v2 : Int32) (v3 : Int32) (h : aH), lX11_find_44 k2 n v0 v1 v2 v3 h = some z → Ev (d + 0) none mX11_find (0, 0) 44 [.ref v0, .int v1, .int v2, .int v3] [] h (QI z) := by
  intro n
  induction n with
  | zero => intro _ _ _ _ _ q; exact nos (show (none : Option (Int32 × aH)) = some z from q)
  | succ n ih => intro v0 v1 v2 v3 h q; exact tX11_find_44 hk2 ih v0 v1 v2 v3 h q
def wX11_find_41 : List En := [(.istore_n 2, 0, 0, 0), (.iconst 0, 0, 0, 0), (.istore_n 3, 0, 0, 0)]
def fX11_find_41 (k2 : Nat → Int32 → aH → Option (Int32 × aH)) (v0 : Nat) (v1 : Int32) (s0 : Int32) (h : aH) : Option (Int32 × aH) :=
  lX11_find_44 k2 FU v0 v1 s0 (kI 0) h
theorem tX11_find_41 {d : Nat} {z : Int32 × aH} {k2 : Nat → Int32 → aH → Option (Int32 × aH)} (hk2 : ∀ (v0 : Nat) (v1 : Int32) (h : aH), k2 v0 v1 h = some z → Ev (d + 0) none mX11_find (0, 0) 2 [.ref v0, .int v1, .null, .null] [] h (QI z)) (v0 : Nat) (v1 : Int32) (s0 : Int32) (h : aH) (hf : fX11_find_41 k2 v0 v1 s0 h = some z) : Ev (d + 0) none mX11_find (0, 0) 41 [.ref v0, .int v1, .null, .null] [.int s0] h (QI z) := 
  go_ok (X := none) (blk := wX11_find_41) (np := 44) (tt := 0) (kN := fun xs h st => app [2, 1, 1, 1] (fun v0 v1 v2 v3 => apS [] (lX11_find_44 k2 FU v0 v1 v2 v3 h) st) xs) (kT := fun _ _ _ => none) (kR := kRI)
    (fun xs h st q => jm [2, 1, 1, 1] _ (fun v0 v1 v2 v3 q => apS_ok [] _ (fun st => Ev (d + 0) none mX11_find (0, 0) 44 [.ref v0, .int v1, .int v2, .int v3] st h (QI z)) st (fun q => uX11_find_44 hk2 FU v0 v1 v2 v3 h q) q) q)
    (fun _ _ _ q => nos q)
    kRI_ok (Or.inr rfl) (by decide +kernel) (by decide +kernel) hf
def wX11_find_40 : List En := [(.iconst 0, 0, 0, 0)]
def fX11_find_40 (k2 : Nat → Int32 → aH → Option (Int32 × aH)) (v0 : Nat) (v1 : Int32) (h : aH) : Option (Int32 × aH) :=
  fX11_find_41 k2 v0 v1 (kI 0) h
theorem tX11_find_40 {d : Nat} {z : Int32 × aH} {k2 : Nat → Int32 → aH → Option (Int32 × aH)} (hk2 : ∀ (v0 : Nat) (v1 : Int32) (h : aH), k2 v0 v1 h = some z → Ev (d + 0) none mX11_find (0, 0) 2 [.ref v0, .int v1, .null, .null] [] h (QI z)) (v0 : Nat) (v1 : Int32) (h : aH) (hf : fX11_find_40 k2 v0 v1 h = some z) : Ev (d + 0) none mX11_find (0, 0) 40 [.ref v0, .int v1, .null, .null] [] h (QI z) := 
  go_ok (X := none) (blk := wX11_find_40) (np := 41) (tt := 0) (kN := fun xs h st => app [2, 1, 0, 0] (fun v0 v1 => apS [1] (fun s0 => fX11_find_41 k2 v0 v1 s0 h) st) xs) (kT := fun _ _ _ => none) (kR := kRI)
    (fun xs h st q => jm [2, 1, 0, 0] _ (fun v0 v1 q => apS_ok [1] _ (fun st => Ev (d + 0) none mX11_find (0, 0) 41 [.ref v0, .int v1, .null, .null] st h (QI z)) st (fun s0 q => tX11_find_41 hk2 v0 v1 s0 h q) q) q)
    (fun _ _ _ q => nos q)
    kRI_ok (Or.inr rfl) (by decide +kernel) (by decide +kernel) hf
def wX11_find_36 : List En := [(.iconst 1, 0, 0, 0), (.goto 4, 41, 0, 0)]
def fX11_find_36 (k2 : Nat → Int32 → aH → Option (Int32 × aH)) (v0 : Nat) (v1 : Int32) (h : aH) : Option (Int32 × aH) :=
  fX11_find_41 k2 v0 v1 (kI 1) h
theorem tX11_find_36 {d : Nat} {z : Int32 × aH} {k2 : Nat → Int32 → aH → Option (Int32 × aH)} (hk2 : ∀ (v0 : Nat) (v1 : Int32) (h : aH), k2 v0 v1 h = some z → Ev (d + 0) none mX11_find (0, 0) 2 [.ref v0, .int v1, .null, .null] [] h (QI z)) (v0 : Nat) (v1 : Int32) (h : aH) (hf : fX11_find_36 k2 v0 v1 h = some z) : Ev (d + 0) none mX11_find (0, 0) 36 [.ref v0, .int v1, .null, .null] [] h (QI z) := 
  go_ok (X := none) (blk := wX11_find_36) (np := 40) (tt := 41) (kN := fun _ _ _ => none) (kT := fun xs h st => app [2, 1, 0, 0] (fun v0 v1 => apS [1] (fun s0 => fX11_find_41 k2 v0 v1 s0 h) st) xs) (kR := kRI)
    (fun _ _ _ q => nos q)
    (fun xs h st q => jm [2, 1, 0, 0] _ (fun v0 v1 q => apS_ok [1] _ (fun st => Ev (d + 0) none mX11_find (0, 0) 41 [.ref v0, .int v1, .null, .null] st h (QI z)) st (fun s0 q => tX11_find_41 hk2 v0 v1 s0 h q) q) q)
    kRI_ok (Or.inr rfl) (by decide +kernel) (by decide +kernel) hf
def wX11_find_20 : List En := [(.aload_n 0, 0, 0, 0), (.getfield 23, 191, 11, 16), (.bipush 71, 0, 0, 0), (.iload_n 1, 0, 0, 0), (.iadd, 0, 0, 0), (.iaload, 0, 0, 0), (.aload_n 0, 0, 0, 0), (.getfield 75, 183, 11, 8), (.if_icmp .ne 7, 40, 0, 0)]
def fX11_find_20 (k2 : Nat → Int32 → aH → Option (Int32 × aH)) (v0 : Nat) (v1 : Int32) (h : aH) : Option (Int32 × aH) :=
  (gFR h 11 v0 16).bind fun t1 =>
  (aRI (h[t1]?) ((kB 71) + v1)).bind fun t2 =>
  (gFI h 11 v0 8).bind fun t3 =>
  if t2 = t3 then fX11_find_36 k2 v0 v1 h else fX11_find_40 k2 v0 v1 h
theorem tX11_find_20 {d : Nat} {z : Int32 × aH} {k2 : Nat → Int32 → aH → Option (Int32 × aH)} (hk2 : ∀ (v0 : Nat) (v1 : Int32) (h : aH), k2 v0 v1 h = some z → Ev (d + 0) none mX11_find (0, 0) 2 [.ref v0, .int v1, .null, .null] [] h (QI z)) (v0 : Nat) (v1 : Int32) (h : aH) (hf : fX11_find_20 k2 v0 v1 h = some z) : Ev (d + 0) none mX11_find (0, 0) 20 [.ref v0, .int v1, .null, .null] [] h (QI z) := 
  go_ok (X := none) (blk := wX11_find_20) (np := 36) (tt := 40) (kN := fun xs h st => app [2, 1, 0, 0] (fun v0 v1 => apS [] (fX11_find_36 k2 v0 v1 h) st) xs) (kT := fun xs h st => app [2, 1, 0, 0] (fun v0 v1 => apS [] (fX11_find_40 k2 v0 v1 h) st) xs) (kR := kRI)
    (fun xs h st q => jm [2, 1, 0, 0] _ (fun v0 v1 q => apS_ok [] _ (fun st => Ev (d + 0) none mX11_find (0, 0) 36 [.ref v0, .int v1, .null, .null] st h (QI z)) st (fun q => tX11_find_36 hk2 v0 v1 h q) q) q)
    (fun xs h st q => jm [2, 1, 0, 0] _ (fun v0 v1 q => apS_ok [] _ (fun st => Ev (d + 0) none mX11_find (0, 0) 40 [.ref v0, .int v1, .null, .null] st h (QI z)) st (fun q => tX11_find_40 hk2 v0 v1 h q) q) q)
    kRI_ok (Or.inr rfl) (by decide +kernel) (by decide +kernel) hf
def wX11_find_8 : List En := [(.aload_n 0, 0, 0, 0), (.getfield 23, 191, 11, 16), (.bipush 71, 0, 0, 0), (.iload_n 1, 0, 0, 0), (.iadd, 0, 0, 0), (.iaload, 0, 0, 0), (.ifCond .le 23, 40, 0, 0)]
def fX11_find_8 (k2 : Nat → Int32 → aH → Option (Int32 × aH)) (v0 : Nat) (v1 : Int32) (h : aH) : Option (Int32 × aH) :=
  (gFR h 11 v0 16).bind fun t1 =>
  (aRI (h[t1]?) ((kB 71) + v1)).bind fun t2 =>
  if 0 < t2 then fX11_find_20 k2 v0 v1 h else fX11_find_40 k2 v0 v1 h
theorem tX11_find_8 {d : Nat} {z : Int32 × aH} {k2 : Nat → Int32 → aH → Option (Int32 × aH)} (hk2 : ∀ (v0 : Nat) (v1 : Int32) (h : aH), k2 v0 v1 h = some z → Ev (d + 0) none mX11_find (0, 0) 2 [.ref v0, .int v1, .null, .null] [] h (QI z)) (v0 : Nat) (v1 : Int32) (h : aH) (hf : fX11_find_8 k2 v0 v1 h = some z) : Ev (d + 0) none mX11_find (0, 0) 8 [.ref v0, .int v1, .null, .null] [] h (QI z) := 
  go_ok (X := none) (blk := wX11_find_8) (np := 20) (tt := 40) (kN := fun xs h st => app [2, 1, 0, 0] (fun v0 v1 => apS [] (fX11_find_20 k2 v0 v1 h) st) xs) (kT := fun xs h st => app [2, 1, 0, 0] (fun v0 v1 => apS [] (fX11_find_40 k2 v0 v1 h) st) xs) (kR := kRI)
    (fun xs h st q => jm [2, 1, 0, 0] _ (fun v0 v1 q => apS_ok [] _ (fun st => Ev (d + 0) none mX11_find (0, 0) 20 [.ref v0, .int v1, .null, .null] st h (QI z)) st (fun q => tX11_find_20 hk2 v0 v1 h q) q) q)
    (fun xs h st q => jm [2, 1, 0, 0] _ (fun v0 v1 q => apS_ok [] _ (fun st => Ev (d + 0) none mX11_find (0, 0) 40 [.ref v0, .int v1, .null, .null] st h (QI z)) st (fun q => tX11_find_40 hk2 v0 v1 h q) q) q)
    kRI_ok (Or.inr rfl) (by decide +kernel) (by decide +kernel) hf
def wX11_find_2 : List En := [(.iload_n 1, 0, 0, 0), (.bipush 13, 0, 0, 0), (.if_icmp .ge 98, 103, 0, 0)]
def fX11_find_2 (k2 : Nat → Int32 → aH → Option (Int32 × aH)) (v0 : Nat) (v1 : Int32) (h : aH) : Option (Int32 × aH) :=
  if v1 < (kB 13) then fX11_find_8 k2 v0 v1 h else fX11_find_103 h
theorem tX11_find_2 {d : Nat} {z : Int32 × aH} {k2 : Nat → Int32 → aH → Option (Int32 × aH)} (hk2 : ∀ (v0 : Nat) (v1 : Int32) (h : aH), k2 v0 v1 h = some z → Ev (d + 0) none mX11_find (0, 0) 2 [.ref v0, .int v1, .null, .null] [] h (QI z)) (v0 : Nat) (v1 : Int32) (h : aH) (hf : fX11_find_2 k2 v0 v1 h = some z) : Ev (d + 0) none mX11_find (0, 0) 2 [.ref v0, .int v1, .null, .null] [] h (QI z) := 
  go_ok (X := none) (blk := wX11_find_2) (np := 8) (tt := 103) (kN := fun xs h st => app [2, 1, 0, 0] (fun v0 v1 => apS [] (fX11_find_8 k2 v0 v1 h) st) xs) (kT := fun xs h st => app [0, 0, 0, 0] (apS [] (fX11_find_103 h) st) xs) (kR := kRI)
    (fun xs h st q => jm [2, 1, 0, 0] _ (fun v0 v1 q => apS_ok [] _ (fun st => Ev (d + 0) none mX11_find (0, 0) 8 [.ref v0, .int v1, .null, .null] st h (QI z)) st (fun q => tX11_find_8 hk2 v0 v1 h q) q) q)
    (fun xs h st q => jm [0, 0, 0, 0] _ (fun q => apS_ok [] _ (fun st => Ev (d + 0) none mX11_find (0, 0) 103 [.null, .null, .null, .null] st h (QI z)) st (fun q => tX11_find_103 h q) q) q)
    kRI_ok (Or.inr rfl) (by decide +kernel) (by decide +kernel) hf
def lX11_find_2 : Nat → Nat → Int32 → aH → Option (Int32 × aH)
  | 0, _, _, _ => none
  | n + 1, v0, v1, h => fX11_find_2 (lX11_find_2 n) v0 v1 h
theorem uX11_find_2 {d : Nat} {z : Int32 × aH} : ∀ (n : Nat) (v0 : Nat) (v1 : Int32) (h : aH), lX11_find_2 n v0 v1 h = some z → Ev (d + 0) none mX11_find (0, 0) 2 [.ref v0, .int v1, .null, .null] [] h (QI z) := by
  intro n
  induction n with
  | zero => intro _ _ _ q; exact nos (show (none : Option (Int32 × aH)) = some z from q)
  | succ n ih => intro v0 v1 h q; exact tX11_find_2 ih v0 v1 h q
def wX11_find_0 : List En := [(.iconst 0, 0, 0, 0), (.istore_n 1, 0, 0, 0)]
def fX11_find_0 (v0 : Nat) (h : aH) : Option (Int32 × aH) :=
  lX11_find_2 FU v0 (kI 0) h
theorem tX11_find_0 {d : Nat} {z : Int32 × aH} (v0 : Nat) (h : aH) (hf : fX11_find_0 v0 h = some z) : Ev (d + 0) none mX11_find (0, 0) 0 [.ref v0, .null, .null, .null] [] h (QI z) := 
  go_ok (X := none) (blk := wX11_find_0) (np := 2) (tt := 0) (kN := fun xs h st => app [2, 1, 0, 0] (fun v0 v1 => apS [] (lX11_find_2 FU v0 v1 h) st) xs) (kT := fun _ _ _ => none) (kR := kRI)
    (fun xs h st q => jm [2, 1, 0, 0] _ (fun v0 v1 q => apS_ok [] _ (fun st => Ev (d + 0) none mX11_find (0, 0) 2 [.ref v0, .int v1, .null, .null] st h (QI z)) st (fun q => uX11_find_2 FU v0 v1 h q) q) q)
    (fun _ _ _ q => nos q)
    kRI_ok (Or.inr rfl) (by decide +kernel) (by decide +kernel) hf
def gX11_find (v0 : Nat) (h : aH) : Option (Int32 × aH) := fX11_find_0 v0 h
theorem zX11_find {d : Nat} {z : Int32 × aH} {v0 : Nat} {h : aH} (q : gX11_find v0 h = some z) : CT (d + 0) mX11_find (0, 0) [.ref v0] h (QI z) :=
  ct_ev (by decide +kernel) (Nat.le_of_ble_eq_true rfl) QI_r (jm [2, 0, 0, 0] (fun v0 => fX11_find_0 v0 h) (fun v0 q => tX11_find_0 v0 h q) q)
def wX11_number_11 : List En := [(.iload_n 3, 0, 0, 0), (.ireturn, 0, 0, 0)]
def fX11_number_11 (v3 : Int32) (h : aH) : Option (Int32 × aH) :=
  some (v3, h)
theorem tX11_number_11 {d : Nat} {z : Int32 × aH} (v3 : Int32) (h : aH) (hf : fX11_number_11 v3 h = some z) : Ev (d + 3) none mX11_number (0, 0) 11 [.null, .null, .null, .int v3] [] h (QI z) := 
  go_ok (X := none) (blk := wX11_number_11) (np := 13) (tt := 0) (kN := fun _ _ _ => none) (kT := fun _ _ _ => none) (kR := kRI)
    (fun _ _ _ q => nos q)
    (fun _ _ _ q => nos q)
    kRI_ok (Or.inr rfl) (by decide +kernel) (by decide +kernel) hf
theorem kqX11_number_8 : okC mX11_number 8 (.invokevirtual 151) 197 214 0 0 = true := by decide +kernel
def fX11_number_8 (v3 : Int32) (s0 : Nat) (h : aH) : Option (Int32 × aH) :=
  (isO h 11 s0).bind fun _ =>
  (gX11_pass s0 h).bind fun r =>
  fX11_number_11 v3 r
theorem tX11_number_8 {d : Nat} {z : Int32 × aH} (v3 : Int32) (s0 : Nat) (h : aH) (hf : fX11_number_8 v3 s0 h = some z) : Ev (d + 3) none mX11_number (0, 0) 8 [.null, .null, .null, .int v3] [.ref s0] h (QI z) := by
  obtain ⟨_, h1, hf⟩ := bnd hf
  obtain ⟨fs, ho⟩ := isO_ok h1
  obtain ⟨r, h2, hf⟩ := bnd hf
  refine ev_V kqX11_number_8 jX11_pass (zX11_pass (d := d + 0) h2) ho rfl rfl (Nat.le_of_ble_eq_true rfl) rfl (as := []) (rest := []) rfl (Nat.le_of_ble_eq_true rfl) (fun _ _ hq => ?_)
  obtain ⟨rfl, hh⟩ := hq
  rw [hh]
  exact jm [0, 0, 0, 1] (fun v3 => fX11_number_11 v3 r) (fun v3 q => tX11_number_11 v3 r q) hf
def wX11_number_6 : List En := [(.istore_n 3, 0, 0, 0), (.aload_n 0, 0, 0, 0)]
def fX11_number_6 (v0 : Nat) (s0 : Int32) (h : aH) : Option (Int32 × aH) :=
  fX11_number_8 s0 v0 h
theorem tX11_number_6 {d : Nat} {z : Int32 × aH} (v0 : Nat) (s0 : Int32) (h : aH) (hf : fX11_number_6 v0 s0 h = some z) : Ev (d + 3) none mX11_number (0, 0) 6 [.ref v0, .null, .null, .null] [.int s0] h (QI z) := 
  go_ok (X := none) (blk := wX11_number_6) (np := 8) (tt := 0) (kN := fun xs h st => app [0, 0, 0, 1] (fun v3 => apS [2] (fun s0 => fX11_number_8 v3 s0 h) st) xs) (kT := fun _ _ _ => none) (kR := kRI)
    (fun xs h st q => jm [0, 0, 0, 1] _ (fun v3 q => apS_ok [2] _ (fun st => Ev (d + 3) none mX11_number (0, 0) 8 [.null, .null, .null, .int v3] st h (QI z)) st (fun s0 q => tX11_number_8 v3 s0 h q) q) q)
    (fun _ _ _ q => nos q)
    kRI_ok (Or.inr rfl) (by decide +kernel) (by decide +kernel) hf
theorem kqX11_number_3 : okC mX11_number 3 (.invokevirtual 148) 196 213 0 2 = true := by decide +kernel
def fX11_number_3 (v0 : Nat) (s0 : Int32) (s1 : Int32) (s2 : Nat) (h : aH) : Option (Int32 × aH) :=
  (isO h 11 s2).bind fun _ =>
  (gX11_numberHere s2 s1 s0 h).bind fun r =>
  fX11_number_6 v0 r.1 r.2
theorem tX11_number_3 {d : Nat} {z : Int32 × aH} (v0 : Nat) (s0 : Int32) (s1 : Int32) (s2 : Nat) (h : aH) (hf : fX11_number_3 v0 s0 s1 s2 h = some z) : Ev (d + 3) none mX11_number (0, 0) 3 [.ref v0, .null, .null, .null] [.int s0, .int s1, .ref s2] h (QI z) := by
  obtain ⟨_, h1, hf⟩ := bnd hf
  obtain ⟨fs, ho⟩ := isO_ok h1
  obtain ⟨r, h2, hf⟩ := bnd hf
  refine ev_V kqX11_number_3 jX11_numberHere (zX11_numberHere (d := d + 1) h2) ho rfl rfl (Nat.le_of_ble_eq_true rfl) rfl (as := [.int s1, .int s0]) (rest := []) rfl (Nat.le_of_ble_eq_true rfl) (fun _ _ hq => ?_)
  obtain ⟨rfl, rfl⟩ := hq
  exact jm [2, 0, 0, 0] (fun v0 => fX11_number_6 v0 r.1 r.2) (fun v0 q => tX11_number_6 v0 r.1 r.2 q) hf
def wX11_number_0 : List En := [(.aload_n 0, 0, 0, 0), (.iload_n 1, 0, 0, 0), (.iload_n 2, 0, 0, 0)]
def fX11_number_0 (v0 : Nat) (v1 : Int32) (v2 : Int32) (h : aH) : Option (Int32 × aH) :=
  fX11_number_3 v0 v2 v1 v0 h
theorem tX11_number_0 {d : Nat} {z : Int32 × aH} (v0 : Nat) (v1 : Int32) (v2 : Int32) (h : aH) (hf : fX11_number_0 v0 v1 v2 h = some z) : Ev (d + 3) none mX11_number (0, 0) 0 [.ref v0, .int v1, .int v2, .null] [] h (QI z) := 
  go_ok (X := none) (blk := wX11_number_0) (np := 3) (tt := 0) (kN := fun xs h st => app [2, 0, 0, 0] (fun v0 => apS [1, 1, 2] (fun s0 s1 s2 => fX11_number_3 v0 s0 s1 s2 h) st) xs) (kT := fun _ _ _ => none) (kR := kRI)
    (fun xs h st q => jm [2, 0, 0, 0] _ (fun v0 q => apS_ok [1, 1, 2] _ (fun st => Ev (d + 3) none mX11_number (0, 0) 3 [.ref v0, .null, .null, .null] st h (QI z)) st (fun s0 s1 s2 q => tX11_number_3 v0 s0 s1 s2 h q) q) q)
    (fun _ _ _ q => nos q)
    kRI_ok (Or.inr rfl) (by decide +kernel) (by decide +kernel) hf
def gX11_number (v0 : Nat) (v1 : Int32) (v2 : Int32) (h : aH) : Option (Int32 × aH) := fX11_number_0 v0 v1 v2 h
theorem zX11_number {d : Nat} {z : Int32 × aH} {v0 : Nat} {v1 : Int32} {v2 : Int32} {h : aH} (q : gX11_number v0 v1 v2 h = some z) : CT (d + 3) mX11_number (0, 0) [.ref v0, .int v1, .int v2] h (QI z) :=
  ct_ev (by decide +kernel) (Nat.le_of_ble_eq_true rfl) QI_r (jm [2, 1, 1, 0] (fun v0 v1 v2 => fX11_number_0 v0 v1 v2 h) (fun v0 v1 v2 q => tX11_number_0 v0 v1 v2 h q) q)
def wX11_fault_0 : List En := [(.aload_n 0, 0, 0, 0), (.iconst 0, 0, 0, 0), (.putfield 53, 175, 11, 0), (.aload_n 0, 0, 0, 0), (.getfield 95, 184, 11, 9), (.ireturn, 0, 0, 0)]
def fX11_fault_0 (v0 : Nat) (h : aH) : Option (Int32 × aH) :=
  (pWV h 11 v0 0 (.int (kI 0))).bind fun h1 =>
  (gFI h1 11 v0 9).bind fun t2 =>
  some (t2, h1)
theorem tX11_fault_0 {d : Nat} {z : Int32 × aH} (v0 : Nat) (h : aH) (hf : fX11_fault_0 v0 h = some z) : Ev (d + 0) none mX11_fault (0, 0) 0 [.ref v0] [] h (QI z) := 
  go_ok (X := none) (blk := wX11_fault_0) (np := 10) (tt := 0) (kN := fun _ _ _ => none) (kT := fun _ _ _ => none) (kR := kRI)
    (fun _ _ _ q => nos q)
    (fun _ _ _ q => nos q)
    kRI_ok (Or.inr rfl) (by decide +kernel) (by decide +kernel) hf
def gX11_fault (v0 : Nat) (h : aH) : Option (Int32 × aH) := fX11_fault_0 v0 h
theorem zX11_fault {d : Nat} {z : Int32 × aH} {v0 : Nat} {h : aH} (q : gX11_fault v0 h = some z) : CT (d + 0) mX11_fault (0, 0) [.ref v0] h (QI z) :=
  ct_ev (by decide +kernel) (Nat.le_of_ble_eq_true rfl) QI_r (jm [2] (fun v0 => fX11_fault_0 v0 h) (fun v0 q => tX11_fault_0 v0 h q) q)
def wX11_where_21 : List En := [(.ireturn, 0, 0, 0)]
def fX11_where_21 (s0 : Int32) (h : aH) : Option (Int32 × aH) :=
  some (s0, h)
theorem tX11_where_21 {d : Nat} {z : Int32 × aH} (s0 : Int32) (h : aH) (hf : fX11_where_21 s0 h = some z) : Ev (d + 0) none mX11_where (0, 0) 21 [.null] [.int s0] h (QI z) := 
  go_ok (X := none) (blk := wX11_where_21) (np := 22) (tt := 0) (kN := fun _ _ _ => none) (kT := fun _ _ _ => none) (kR := kRI)
    (fun _ _ _ q => nos q)
    (fun _ _ _ q => nos q)
    kRI_ok (Or.inr rfl) (by decide +kernel) (by decide +kernel) hf
def wX11_where_20 : List En := [(.iconst (-1), 0, 0, 0)]
def fX11_where_20 (h : aH) : Option (Int32 × aH) :=
  fX11_where_21 (kI (-1)) h
theorem tX11_where_20 {d : Nat} {z : Int32 × aH} (h : aH) (hf : fX11_where_20 h = some z) : Ev (d + 0) none mX11_where (0, 0) 20 [.null] [] h (QI z) := 
  go_ok (X := none) (blk := wX11_where_20) (np := 21) (tt := 0) (kN := fun xs h st => app [0] (apS [1] (fun s0 => fX11_where_21 s0 h) st) xs) (kT := fun _ _ _ => none) (kR := kRI)
    (fun xs h st q => jm [0] _ (fun q => apS_ok [1] _ (fun st => Ev (d + 0) none mX11_where (0, 0) 21 [.null] st h (QI z)) st (fun s0 q => tX11_where_21 s0 h q) q) q)
    (fun _ _ _ q => nos q)
    kRI_ok (Or.inr rfl) (by decide +kernel) (by decide +kernel) hf
def wX11_where_13 : List En := [(.aload_n 0, 0, 0, 0), (.getfield 13, 185, 11, 10), (.goto 4, 21, 0, 0)]
def fX11_where_13 (v0 : Nat) (h : aH) : Option (Int32 × aH) :=
  (gFI h 11 v0 10).bind fun t1 =>
  fX11_where_21 t1 h
theorem tX11_where_13 {d : Nat} {z : Int32 × aH} (v0 : Nat) (h : aH) (hf : fX11_where_13 v0 h = some z) : Ev (d + 0) none mX11_where (0, 0) 13 [.ref v0] [] h (QI z) := 
  go_ok (X := none) (blk := wX11_where_13) (np := 20) (tt := 21) (kN := fun _ _ _ => none) (kT := fun xs h st => app [0] (apS [1] (fun s0 => fX11_where_21 s0 h) st) xs) (kR := kRI)
    (fun _ _ _ q => nos q)
    (fun xs h st q => jm [0] _ (fun q => apS_ok [1] _ (fun st => Ev (d + 0) none mX11_where (0, 0) 21 [.null] st h (QI z)) st (fun s0 q => tX11_where_21 s0 h q) q) q)
    kRI_ok (Or.inr rfl) (by decide +kernel) (by decide +kernel) hf
def wX11_where_0 : List En := [(.aload_n 0, 0, 0, 0), (.iconst 0, 0, 0, 0), (.putfield 53, 175, 11, 0), (.aload_n 0, 0, 0, 0), (.getfield 56, 186, 11, 11), (.iconst 4, 0, 0, 0), (.if_icmp .ne 10, 20, 0, 0)]
def fX11_where_0 (v0 : Nat) (h : aH) : Option (Int32 × aH) :=
  (pWV h 11 v0 0 (.int (kI 0))).bind fun h1 =>
  (gFI h1 11 v0 11).bind fun t2 =>
  if t2 = (kI 4) then fX11_where_13 v0 h1 else fX11_where_20 h1
theorem tX11_where_0 {d : Nat} {z : Int32 × aH} (v0 : Nat) (h : aH) (hf : fX11_where_0 v0 h = some z) : Ev (d + 0) none mX11_where (0, 0) 0 [.ref v0] [] h (QI z) := 
  go_ok (X := none) (blk := wX11_where_0) (np := 13) (tt := 20) (kN := fun xs h st => app [2] (fun v0 => apS [] (fX11_where_13 v0 h) st) xs) (kT := fun xs h st => app [0] (apS [] (fX11_where_20 h) st) xs) (kR := kRI)
    (fun xs h st q => jm [2] _ (fun v0 q => apS_ok [] _ (fun st => Ev (d + 0) none mX11_where (0, 0) 13 [.ref v0] st h (QI z)) st (fun q => tX11_where_13 v0 h q) q) q)
    (fun xs h st q => jm [0] _ (fun q => apS_ok [] _ (fun st => Ev (d + 0) none mX11_where (0, 0) 20 [.null] st h (QI z)) st (fun q => tX11_where_20 h q) q) q)
    kRI_ok (Or.inr rfl) (by decide +kernel) (by decide +kernel) hf
def gX11_where (v0 : Nat) (h : aH) : Option (Int32 × aH) := fX11_where_0 v0 h
theorem zX11_where {d : Nat} {z : Int32 × aH} {v0 : Nat} {h : aH} (q : gX11_where v0 h = some z) : CT (d + 0) mX11_where (0, 0) [.ref v0] h (QI z) :=
  ct_ev (by decide +kernel) (Nat.le_of_ble_eq_true rfl) QI_r (jm [2] (fun v0 => fX11_where_0 v0 h) (fun v0 q => tX11_where_0 v0 h q) q)
def wX11_isPerson_28 : List En := [(.ireturn, 0, 0, 0)]
def fX11_isPerson_28 (s0 : Int32) (h : aH) : Option (Int32 × aH) :=
  if s0 = 0 ∨ s0 = 1 then some (s0, h) else none
theorem tX11_isPerson_28 {d : Nat} {z : Int32 × aH} (s0 : Int32) (h : aH) (hf : fX11_isPerson_28 s0 h = some z) : Ev (d + 1) none mX11_isPerson (0, 0) 28 [.null, .null] [.int s0] h (QZ z) := 
  go_ok (X := none) (blk := wX11_isPerson_28) (np := 29) (tt := 0) (kN := fun _ _ _ => none) (kT := fun _ _ _ => none) (kR := kRZ)
    (fun _ _ _ q => nos q)
    (fun _ _ _ q => nos q)
    kRZ_ok (Or.inr rfl) (by decide +kernel) (by decide +kernel) hf
def wX11_isPerson_27 : List En := [(.iconst 0, 0, 0, 0)]
def fX11_isPerson_27 (h : aH) : Option (Int32 × aH) :=
  fX11_isPerson_28 (kI 0) h
theorem tX11_isPerson_27 {d : Nat} {z : Int32 × aH} (h : aH) (hf : fX11_isPerson_27 h = some z) : Ev (d + 1) none mX11_isPerson (0, 0) 27 [.null, .null] [] h (QZ z) := 
  go_ok (X := none) (blk := wX11_isPerson_27) (np := 28) (tt := 0) (kN := fun xs h st => app [0, 0] (apS [1] (fun s0 => fX11_isPerson_28 s0 h) st) xs) (kT := fun _ _ _ => none) (kR := kRZ)
    (fun xs h st q => jm [0, 0] _ (fun q => apS_ok [1] _ (fun st => Ev (d + 1) none mX11_isPerson (0, 0) 28 [.null, .null] st h (QZ z)) st (fun s0 q => tX11_isPerson_28 s0 h q) q) q)
    (fun _ _ _ q => nos q)
    kRZ_ok (Or.inr rfl) (by decide +kernel) (by decide +kernel) hf
def wX11_isPerson_23 : List En := [(.iconst 1, 0, 0, 0), (.goto 4, 28, 0, 0)]
def fX11_isPerson_23 (h : aH) : Option (Int32 × aH) :=
  fX11_isPerson_28 (kI 1) h
theorem tX11_isPerson_23 {d : Nat} {z : Int32 × aH} (h : aH) (hf : fX11_isPerson_23 h = some z) : Ev (d + 1) none mX11_isPerson (0, 0) 23 [.null, .null] [] h (QZ z) := 
  go_ok (X := none) (blk := wX11_isPerson_23) (np := 27) (tt := 28) (kN := fun _ _ _ => none) (kT := fun xs h st => app [0, 0] (apS [1] (fun s0 => fX11_isPerson_28 s0 h) st) xs) (kR := kRZ)
    (fun _ _ _ q => nos q)
    (fun xs h st q => jm [0, 0] _ (fun q => apS_ok [1] _ (fun st => Ev (d + 1) none mX11_isPerson (0, 0) 28 [.null, .null] st h (QZ z)) st (fun s0 q => tX11_isPerson_28 s0 h q) q) q)
    kRZ_ok (Or.inr rfl) (by decide +kernel) (by decide +kernel) hf
def wX11_isPerson_20 : List En := [(.ifCond .eq 7, 27, 0, 0)]
def fX11_isPerson_20 (s0 : Int32) (h : aH) : Option (Int32 × aH) :=
  if s0 = 0 then fX11_isPerson_27 h else fX11_isPerson_23 h
theorem tX11_isPerson_20 {d : Nat} {z : Int32 × aH} (s0 : Int32) (h : aH) (hf : fX11_isPerson_20 s0 h = some z) : Ev (d + 1) none mX11_isPerson (0, 0) 20 [.null, .null] [.int s0] h (QZ z) := 
  go_ok (X := none) (blk := wX11_isPerson_20) (np := 23) (tt := 27) (kN := fun xs h st => app [0, 0] (apS [] (fX11_isPerson_23 h) st) xs) (kT := fun xs h st => app [0, 0] (apS [] (fX11_isPerson_27 h) st) xs) (kR := kRZ)
    (fun xs h st q => jm [0, 0] _ (fun q => apS_ok [] _ (fun st => Ev (d + 1) none mX11_isPerson (0, 0) 23 [.null, .null] st h (QZ z)) st (fun q => tX11_isPerson_23 h q) q) q)
    (fun xs h st q => jm [0, 0] _ (fun q => apS_ok [] _ (fun st => Ev (d + 1) none mX11_isPerson (0, 0) 27 [.null, .null] st h (QZ z)) st (fun q => tX11_isPerson_27 h q) q) q)
    kRZ_ok (Or.inr rfl) (by decide +kernel) (by decide +kernel) hf
theorem kqX11_isPerson_17 : okC mX11_isPerson 17 (.invokestatic 140) 182 197 1 3 = true := by decide +kernel
def fX11_isPerson_17 (s0 : Int32) (s1 : Int32) (s2 : Int32) (h : aH) : Option (Int32 × aH) :=
  (gX11_in s2 s1 s0 h).bind fun r =>
  fX11_isPerson_20 r.1 r.2
theorem tX11_isPerson_17 {d : Nat} {z : Int32 × aH} (s0 : Int32) (s1 : Int32) (s2 : Int32) (h : aH) (hf : fX11_isPerson_17 s0 s1 s2 h = some z) : Ev (d + 1) none mX11_isPerson (0, 0) 17 [.null, .null] [.int s0, .int s1, .int s2] h (QZ z) := by
  obtain ⟨r, h2, hf⟩ := bnd hf
  refine ev_S kqX11_isPerson_17 jX11_in (zX11_in (d := d + 0) h2) rfl (Nat.le_of_ble_eq_true rfl) rfl (as := [.int s2, .int s1, .int s0]) (rest := []) rfl (Nat.le_of_ble_eq_true rfl) (fun _ _ hq => ?_)
  obtain ⟨-, rfl, rfl⟩ := hq
  exact jm [0, 0] (fX11_isPerson_20 r.1 r.2) (fun q => tX11_isPerson_20 r.1 r.2 q) hf
def wX11_isPerson_7 : List En := [(.iload_n 1, 0, 0, 0), (.iconst 0, 0, 0, 0), (.aload_n 0, 0, 0, 0), (.getfield 20, 190, 11, 15), (.iconst 3, 0, 0, 0), (.iaload, 0, 0, 0), (.iconst 1, 0, 0, 0), (.isub, 0, 0, 0)]
def fX11_isPerson_7 (v0 : Nat) (v1 : Int32) (h : aH) : Option (Int32 × aH) :=
  (gFR h 11 v0 15).bind fun t1 =>
  (aRI (h[t1]?) (kI 3)).bind fun t2 =>
  fX11_isPerson_17 (t2 - (kI 1)) (kI 0) v1 h
theorem tX11_isPerson_7 {d : Nat} {z : Int32 × aH} (v0 : Nat) (v1 : Int32) (h : aH) (hf : fX11_isPerson_7 v0 v1 h = some z) : Ev (d + 1) none mX11_isPerson (0, 0) 7 [.ref v0, .int v1] [] h (QZ z) := 
  go_ok (X := none) (blk := wX11_isPerson_7) (np := 17) (tt := 0) (kN := fun xs h st => app [0, 0] (apS [1, 1, 1] (fun s0 s1 s2 => fX11_isPerson_17 s0 s1 s2 h) st) xs) (kT := fun _ _ _ => none) (kR := kRZ)
    (fun xs h st q => jm [0, 0] _ (fun q => apS_ok [1, 1, 1] _ (fun st => Ev (d + 1) none mX11_isPerson (0, 0) 17 [.null, .null] st h (QZ z)) st (fun s0 s1 s2 q => tX11_isPerson_17 s0 s1 s2 h q) q) q)
    (fun _ _ _ q => nos q)
    kRZ_ok (Or.inr rfl) (by decide +kernel) (by decide +kernel) hf
def wX11_isPerson_0 : List En := [(.aload_n 0, 0, 0, 0), (.getfield 174, 189, 11, 14), (.ifCond .eq 23, 27, 0, 0)]
def fX11_isPerson_0 (v0 : Nat) (v1 : Int32) (h : aH) : Option (Int32 × aH) :=
  (gFI h 11 v0 14).bind fun t1 =>
  if t1 = 0 then fX11_isPerson_27 h else fX11_isPerson_7 v0 v1 h
theorem tX11_isPerson_0 {d : Nat} {z : Int32 × aH} (v0 : Nat) (v1 : Int32) (h : aH) (hf : fX11_isPerson_0 v0 v1 h = some z) : Ev (d + 1) none mX11_isPerson (0, 0) 0 [.ref v0, .int v1] [] h (QZ z) := 
  go_ok (X := none) (blk := wX11_isPerson_0) (np := 7) (tt := 27) (kN := fun xs h st => app [2, 1] (fun v0 v1 => apS [] (fX11_isPerson_7 v0 v1 h) st) xs) (kT := fun xs h st => app [0, 0] (apS [] (fX11_isPerson_27 h) st) xs) (kR := kRZ)
    (fun xs h st q => jm [2, 1] _ (fun v0 v1 q => apS_ok [] _ (fun st => Ev (d + 1) none mX11_isPerson (0, 0) 7 [.ref v0, .int v1] st h (QZ z)) st (fun q => tX11_isPerson_7 v0 v1 h q) q) q)
    (fun xs h st q => jm [0, 0] _ (fun q => apS_ok [] _ (fun st => Ev (d + 1) none mX11_isPerson (0, 0) 27 [.null, .null] st h (QZ z)) st (fun q => tX11_isPerson_27 h q) q) q)
    kRZ_ok (Or.inr rfl) (by decide +kernel) (by decide +kernel) hf
def gX11_isPerson (v0 : Nat) (v1 : Int32) (h : aH) : Option (Int32 × aH) := fX11_isPerson_0 v0 v1 h
theorem zX11_isPerson {d : Nat} {z : Int32 × aH} {v0 : Nat} {v1 : Int32} {h : aH} (q : gX11_isPerson v0 v1 h = some z) : CT (d + 1) mX11_isPerson (0, 0) [.ref v0, .int v1] h (QZ z) :=
  ct_ev (by decide +kernel) (Nat.le_of_ble_eq_true rfl) QZ_r (jm [2, 1] (fun v0 v1 => fX11_isPerson_0 v0 v1 h) (fun v0 v1 q => tX11_isPerson_0 v0 v1 h q) q)
def wX11_person_26 : List En := [(.ireturn, 0, 0, 0)]
def fX11_person_26 (s0 : Int32) (h : aH) : Option (Int32 × aH) :=
  some (s0, h)
theorem tX11_person_26 {d : Nat} {z : Int32 × aH} (s0 : Int32) (h : aH) (hf : fX11_person_26 s0 h = some z) : Ev (d + 2) none mX11_person (0, 0) 26 [.null, .null, .null] [.int s0] h (QI z) := 
  go_ok (X := none) (blk := wX11_person_26) (np := 27) (tt := 0) (kN := fun _ _ _ => none) (kT := fun _ _ _ => none) (kR := kRI)
    (fun _ _ _ q => nos q)
    (fun _ _ _ q => nos q)
    kRI_ok (Or.inr rfl) (by decide +kernel) (by decide +kernel) hf
theorem kqX11_person_23 : okC mX11_person 23 (.invokevirtual 164) 183 198 0 1 = true := by decide +kernel
def fX11_person_23 (s0 : Int32) (s1 : Nat) (h : aH) : Option (Int32 × aH) :=
  (isO h 11 s1).bind fun _ =>
  (gX11_no s1 s0 h).bind fun r =>
  fX11_person_26 r.1 r.2
theorem tX11_person_23 {d : Nat} {z : Int32 × aH} (s0 : Int32) (s1 : Nat) (h : aH) (hf : fX11_person_23 s0 s1 h = some z) : Ev (d + 2) none mX11_person (0, 0) 23 [.null, .null, .null] [.int s0, .ref s1] h (QI z) := by
  obtain ⟨_, h1, hf⟩ := bnd hf
  obtain ⟨fs, ho⟩ := isO_ok h1
  obtain ⟨r, h2, hf⟩ := bnd hf
  refine ev_V kqX11_person_23 jX11_no (zX11_no (d := d + 1) h2) ho rfl rfl (Nat.le_of_ble_eq_true rfl) rfl (as := [.int s0]) (rest := []) rfl (Nat.le_of_ble_eq_true rfl) (fun _ _ hq => ?_)
  obtain ⟨rfl, rfl⟩ := hq
  exact jm [0, 0, 0] (fX11_person_26 r.1 r.2) (fun q => tX11_person_26 r.1 r.2 q) hf
def wX11_person_21 : List En := [(.aload_n 0, 0, 0, 0), (.iconst 1, 0, 0, 0)]
def fX11_person_21 (v0 : Nat) (h : aH) : Option (Int32 × aH) :=
  fX11_person_23 (kI 1) v0 h
theorem tX11_person_21 {d : Nat} {z : Int32 × aH} (v0 : Nat) (h : aH) (hf : fX11_person_21 v0 h = some z) : Ev (d + 2) none mX11_person (0, 0) 21 [.ref v0, .null, .null] [] h (QI z) := 
  go_ok (X := none) (blk := wX11_person_21) (np := 23) (tt := 0) (kN := fun xs h st => app [0, 0, 0] (apS [1, 2] (fun s0 s1 => fX11_person_23 s0 s1 h) st) xs) (kT := fun _ _ _ => none) (kR := kRI)
    (fun xs h st q => jm [0, 0, 0] _ (fun q => apS_ok [1, 2] _ (fun st => Ev (d + 2) none mX11_person (0, 0) 23 [.null, .null, .null] st h (QI z)) st (fun s0 s1 q => tX11_person_23 s0 s1 h q) q) q)
    (fun _ _ _ q => nos q)
    kRI_ok (Or.inr rfl) (by decide +kernel) (by decide +kernel) hf
def wX11_person_118 : List En := [(.aload_n 0, 0, 0, 0), (.getfield 32, 194, 11, 19), (.bipush 11, 0, 0, 0), (.iaload, 0, 0, 0), (.iload_n 1, 0, 0, 0), (.ishr, 0, 0, 0), (.iconst 1, 0, 0, 0), (.iand, 0, 0, 0), (.ireturn, 0, 0, 0)]
def fX11_person_118 (v0 : Nat) (v1 : Int32) (h : aH) : Option (Int32 × aH) :=
  (gFR h 11 v0 19).bind fun t1 =>
  (aRI (h[t1]?) (kB 11)).bind fun t2 =>
  some (((t2 >>> (v1 &&& 31)) &&& (kI 1)), h)
theorem tX11_person_118 {d : Nat} {z : Int32 × aH} (v0 : Nat) (v1 : Int32) (h : aH) (hf : fX11_person_118 v0 v1 h = some z) : Ev (d + 2) none mX11_person (0, 0) 118 [.ref v0, .int v1, .null] [] h (QI z) := 
  go_ok (X := none) (blk := wX11_person_118) (np := 130) (tt := 0) (kN := fun _ _ _ => none) (kT := fun _ _ _ => none) (kR := kRI)
    (fun _ _ _ q => nos q)
    (fun _ _ _ q => nos q)
    kRI_ok (Or.inr rfl) (by decide +kernel) (by decide +kernel) hf
def wX11_person_64 : List En := [(.aload_n 0, 0, 0, 0), (.getfield 32, 194, 11, 19), (.iload_n 1, 0, 0, 0), (.iaload, 0, 0, 0), (.ireturn, 0, 0, 0)]
def fX11_person_64 (v0 : Nat) (v1 : Int32) (h : aH) : Option (Int32 × aH) :=
  (gFR h 11 v0 19).bind fun t1 =>
  (aRI (h[t1]?) v1).bind fun t2 =>
  some (t2, h)
theorem tX11_person_64 {d : Nat} {z : Int32 × aH} (v0 : Nat) (v1 : Int32) (h : aH) (hf : fX11_person_64 v0 v1 h = some z) : Ev (d + 2) none mX11_person (0, 0) 64 [.ref v0, .int v1, .null] [] h (QI z) := 
  go_ok (X := none) (blk := wX11_person_64) (np := 71) (tt := 0) (kN := fun _ _ _ => none) (kT := fun _ _ _ => none) (kR := kRI)
    (fun _ _ _ q => nos q)
    (fun _ _ _ q => nos q)
    kRI_ok (Or.inr rfl) (by decide +kernel) (by decide +kernel) hf
def wX11_person_71 : List En := [(.aload_n 0, 0, 0, 0), (.getfield 20, 190, 11, 15), (.bipush 9, 0, 0, 0), (.iconst 2, 0, 0, 0), (.iload_n 1, 0, 0, 0), (.imul, 0, 0, 0), (.iadd, 0, 0, 0), (.iconst 1, 0, 0, 0), (.iadd, 0, 0, 0), (.iaload, 0, 0, 0), (.ireturn, 0, 0, 0)]
def fX11_person_71 (v0 : Nat) (v1 : Int32) (h : aH) : Option (Int32 × aH) :=
  (gFR h 11 v0 15).bind fun t1 =>
  (aRI (h[t1]?) (((kB 9) + ((kI 2) * v1)) + (kI 1))).bind fun t2 =>
  some (t2, h)
theorem tX11_person_71 {d : Nat} {z : Int32 × aH} (v0 : Nat) (v1 : Int32) (h : aH) (hf : fX11_person_71 v0 v1 h = some z) : Ev (d + 2) none mX11_person (0, 0) 71 [.ref v0, .int v1, .null] [] h (QI z) := 
  go_ok (X := none) (blk := wX11_person_71) (np := 85) (tt := 0) (kN := fun _ _ _ => none) (kT := fun _ _ _ => none) (kR := kRI)
    (fun _ _ _ q => nos q)
    (fun _ _ _ q => nos q)
    kRI_ok (Or.inr rfl) (by decide +kernel) (by decide +kernel) hf
def wX11_person_85 : List En := [(.aload_n 0, 0, 0, 0), (.getfield 20, 190, 11, 15), (.bipush 9, 0, 0, 0), (.iconst 2, 0, 0, 0), (.iload_n 1, 0, 0, 0), (.imul, 0, 0, 0), (.iadd, 0, 0, 0), (.iaload, 0, 0, 0), (.ireturn, 0, 0, 0)]
def fX11_person_85 (v0 : Nat) (v1 : Int32) (h : aH) : Option (Int32 × aH) :=
  (gFR h 11 v0 15).bind fun t1 =>
  (aRI (h[t1]?) ((kB 9) + ((kI 2) * v1))).bind fun t2 =>
  some (t2, h)
theorem tX11_person_85 {d : Nat} {z : Int32 × aH} (v0 : Nat) (v1 : Int32) (h : aH) (hf : fX11_person_85 v0 v1 h = some z) : Ev (d + 2) none mX11_person (0, 0) 85 [.ref v0, .int v1, .null] [] h (QI z) := 
  go_ok (X := none) (blk := wX11_person_85) (np := 97) (tt := 0) (kN := fun _ _ _ => none) (kT := fun _ _ _ => none) (kR := kRI)
    (fun _ _ _ q => nos q)
    (fun _ _ _ q => nos q)
    kRI_ok (Or.inr rfl) (by decide +kernel) (by decide +kernel) hf
def wX11_person_97 : List En := [(.aload_n 0, 0, 0, 0), (.getfield 32, 194, 11, 19), (.iconst 5, 0, 0, 0), (.iload_n 1, 0, 0, 0), (.iadd, 0, 0, 0), (.iaload, 0, 0, 0), (.ireturn, 0, 0, 0)]
def fX11_person_97 (v0 : Nat) (v1 : Int32) (h : aH) : Option (Int32 × aH) :=
  (gFR h 11 v0 19).bind fun t1 =>
  (aRI (h[t1]?) ((kI 5) + v1)).bind fun t2 =>
  some (t2, h)
theorem tX11_person_97 {d : Nat} {z : Int32 × aH} (v0 : Nat) (v1 : Int32) (h : aH) (hf : fX11_person_97 v0 v1 h = some z) : Ev (d + 2) none mX11_person (0, 0) 97 [.ref v0, .int v1, .null] [] h (QI z) := 
  go_ok (X := none) (blk := wX11_person_97) (np := 106) (tt := 0) (kN := fun _ _ _ => none) (kT := fun _ _ _ => none) (kR := kRI)
    (fun _ _ _ q => nos q)
    (fun _ _ _ q => nos q)
    kRI_ok (Or.inr rfl) (by decide +kernel) (by decide +kernel) hf
def wX11_person_106 : List En := [(.aload_n 0, 0, 0, 0), (.getfield 32, 194, 11, 19), (.bipush 10, 0, 0, 0), (.iaload, 0, 0, 0), (.iload_n 1, 0, 0, 0), (.ishr, 0, 0, 0), (.iconst 1, 0, 0, 0), (.iand, 0, 0, 0), (.ireturn, 0, 0, 0)]
def fX11_person_106 (v0 : Nat) (v1 : Int32) (h : aH) : Option (Int32 × aH) :=
  (gFR h 11 v0 19).bind fun t1 =>
  (aRI (h[t1]?) (kB 10)).bind fun t2 =>
  some (((t2 >>> (v1 &&& 31)) &&& (kI 1)), h)
theorem tX11_person_106 {d : Nat} {z : Int32 × aH} (v0 : Nat) (v1 : Int32) (h : aH) (hf : fX11_person_106 v0 v1 h = some z) : Ev (d + 2) none mX11_person (0, 0) 106 [.ref v0, .int v1, .null] [] h (QI z) := 
  go_ok (X := none) (blk := wX11_person_106) (np := 118) (tt := 0) (kN := fun _ _ _ => none) (kT := fun _ _ _ => none) (kR := kRI)
    (fun _ _ _ q => nos q)
    (fun _ _ _ q => nos q)
    kRI_ok (Or.inr rfl) (by decide +kernel) (by decide +kernel) hf
theorem kdX11_person_28 : decode mX11_person.2.2.1 28 = .ok (.tableswitch 90 0 4 #[36, 43, 57, 69, 78], 36) := by decide +kernel
def fX11_person_28 (v0 : Nat) (v1 : Int32) (s0 : Int32) (h : aH) : Option (Int32 × aH) :=
  if s0 = kI 0 then fX11_person_64 v0 v1 h else
  if s0 = kI 1 then fX11_person_71 v0 v1 h else
  if s0 = kI 2 then fX11_person_85 v0 v1 h else
  if s0 = kI 3 then fX11_person_97 v0 v1 h else
  if s0 = kI 4 then fX11_person_106 v0 v1 h else
  fX11_person_118 v0 v1 h
theorem tX11_person_28 {d : Nat} {z : Int32 × aH} (v0 : Nat) (v1 : Int32) (s0 : Int32) (h : aH) (hf : fX11_person_28 v0 v1 s0 h = some z) : Ev (d + 2) none mX11_person (0, 0) 28 [.ref v0, .int v1, .null] [.int s0] h (QI z) := by
  unfold fX11_person_28 at hf
  by_cases c0 : s0 = kI 0
  · rw [if_pos c0] at hf
    subst c0
    exact ev_tsI kdX11_person_28 (by decide) rfl rfl (jm [2, 1, 0] (fun v0 v1 => fX11_person_64 v0 v1 h) (fun v0 v1 q => tX11_person_64 v0 v1 h q) hf)
  rw [if_neg c0] at hf
  by_cases c1 : s0 = kI 1
  · rw [if_pos c1] at hf
    subst c1
    exact ev_tsI kdX11_person_28 (by decide) rfl rfl (jm [2, 1, 0] (fun v0 v1 => fX11_person_71 v0 v1 h) (fun v0 v1 q => tX11_person_71 v0 v1 h q) hf)
  rw [if_neg c1] at hf
  by_cases c2 : s0 = kI 2
  · rw [if_pos c2] at hf
    subst c2
    exact ev_tsI kdX11_person_28 (by decide) rfl rfl (jm [2, 1, 0] (fun v0 v1 => fX11_person_85 v0 v1 h) (fun v0 v1 q => tX11_person_85 v0 v1 h q) hf)
  rw [if_neg c2] at hf
  by_cases c3 : s0 = kI 3
  · rw [if_pos c3] at hf
    subst c3
    exact ev_tsI kdX11_person_28 (by decide) rfl rfl (jm [2, 1, 0] (fun v0 v1 => fX11_person_97 v0 v1 h) (fun v0 v1 q => tX11_person_97 v0 v1 h q) hf)
  rw [if_neg c3] at hf
  by_cases c4 : s0 = kI 4
  · rw [if_pos c4] at hf
    subst c4
    exact ev_tsI kdX11_person_28 (by decide) rfl rfl (jm [2, 1, 0] (fun v0 v1 => fX11_person_106 v0 v1 h) (fun v0 v1 q => tX11_person_106 v0 v1 h q) hf)
  rw [if_neg c4] at hf
  exact ev_tsO kdX11_person_28 (ts_out (fun n h1 h2 => by
    have hn : n = 0 ∨ n = 1 ∨ n = 2 ∨ n = 3 ∨ n = 4 := by omega
    rcases hn with rfl | rfl | rfl | rfl | rfl <;> assumption)) rfl (jm [2, 1, 0] (fun v0 v1 => fX11_person_118 v0 v1 h) (fun v0 v1 q => tX11_person_118 v0 v1 h q) hf)
def wX11_person_27 : List En := [(.iload_n 2, 0, 0, 0)]
def fX11_person_27 (v0 : Nat) (v1 : Int32) (v2 : Int32) (h : aH) : Option (Int32 × aH) :=
  fX11_person_28 v0 v1 v2 h
theorem tX11_person_27 {d : Nat} {z : Int32 × aH} (v0 : Nat) (v1 : Int32) (v2 : Int32) (h : aH) (hf : fX11_person_27 v0 v1 v2 h = some z) : Ev (d + 2) none mX11_person (0, 0) 27 [.ref v0, .int v1, .int v2] [] h (QI z) := 
  go_ok (X := none) (blk := wX11_person_27) (np := 28) (tt := 0) (kN := fun xs h st => app [2, 1, 0] (fun v0 v1 => apS [1] (fun s0 => fX11_person_28 v0 v1 s0 h) st) xs) (kT := fun _ _ _ => none) (kR := kRI)
    (fun xs h st q => jm [2, 1, 0] _ (fun v0 v1 q => apS_ok [1] _ (fun st => Ev (d + 2) none mX11_person (0, 0) 28 [.ref v0, .int v1, .null] st h (QI z)) st (fun s0 q => tX11_person_28 v0 v1 s0 h q) q) q)
    (fun _ _ _ q => nos q)
    kRI_ok (Or.inr rfl) (by decide +kernel) (by decide +kernel) hf
def wX11_person_18 : List En := [(.ifCond .ne 9, 27, 0, 0)]
def fX11_person_18 (v0 : Nat) (v1 : Int32) (v2 : Int32) (s0 : Int32) (h : aH) : Option (Int32 × aH) :=
  if s0 = 0 then fX11_person_21 v0 h else fX11_person_27 v0 v1 v2 h
theorem tX11_person_18 {d : Nat} {z : Int32 × aH} (v0 : Nat) (v1 : Int32) (v2 : Int32) (s0 : Int32) (h : aH) (hf : fX11_person_18 v0 v1 v2 s0 h = some z) : Ev (d + 2) none mX11_person (0, 0) 18 [.ref v0, .int v1, .int v2] [.int s0] h (QI z) := 
  go_ok (X := none) (blk := wX11_person_18) (np := 21) (tt := 27) (kN := fun xs h st => app [2, 0, 0] (fun v0 => apS [] (fX11_person_21 v0 h) st) xs) (kT := fun xs h st => app [2, 1, 1] (fun v0 v1 v2 => apS [] (fX11_person_27 v0 v1 v2 h) st) xs) (kR := kRI)
    (fun xs h st q => jm [2, 0, 0] _ (fun v0 q => apS_ok [] _ (fun st => Ev (d + 2) none mX11_person (0, 0) 21 [.ref v0, .null, .null] st h (QI z)) st (fun q => tX11_person_21 v0 h q) q) q)
    (fun xs h st q => jm [2, 1, 1] _ (fun v0 v1 v2 q => apS_ok [] _ (fun st => Ev (d + 2) none mX11_person (0, 0) 27 [.ref v0, .int v1, .int v2] st h (QI z)) st (fun q => tX11_person_27 v0 v1 v2 h q) q) q)
    kRI_ok (Or.inr rfl) (by decide +kernel) (by decide +kernel) hf
theorem kqX11_person_15 : okC mX11_person 15 (.invokestatic 140) 182 197 1 3 = true := by decide +kernel
def fX11_person_15 (v0 : Nat) (v1 : Int32) (v2 : Int32) (s0 : Int32) (s1 : Int32) (s2 : Int32) (h : aH) : Option (Int32 × aH) :=
  (gX11_in s2 s1 s0 h).bind fun r =>
  fX11_person_18 v0 v1 v2 r.1 r.2
theorem tX11_person_15 {d : Nat} {z : Int32 × aH} (v0 : Nat) (v1 : Int32) (v2 : Int32) (s0 : Int32) (s1 : Int32) (s2 : Int32) (h : aH) (hf : fX11_person_15 v0 v1 v2 s0 s1 s2 h = some z) : Ev (d + 2) none mX11_person (0, 0) 15 [.ref v0, .int v1, .int v2] [.int s0, .int s1, .int s2] h (QI z) := by
  obtain ⟨r, h2, hf⟩ := bnd hf
  refine ev_S kqX11_person_15 jX11_in (zX11_in (d := d + 1) h2) rfl (Nat.le_of_ble_eq_true rfl) rfl (as := [.int s2, .int s1, .int s0]) (rest := []) rfl (Nat.le_of_ble_eq_true rfl) (fun _ _ hq => ?_)
  obtain ⟨-, rfl, rfl⟩ := hq
  exact jm [2, 1, 1] (fun v0 v1 v2 => fX11_person_18 v0 v1 v2 r.1 r.2) (fun v0 v1 v2 q => tX11_person_18 v0 v1 v2 r.1 r.2 q) hf
def wX11_person_12 : List En := [(.iload_n 2, 0, 0, 0), (.iconst 0, 0, 0, 0), (.iconst 5, 0, 0, 0)]
def fX11_person_12 (v0 : Nat) (v1 : Int32) (v2 : Int32) (h : aH) : Option (Int32 × aH) :=
  fX11_person_15 v0 v1 v2 (kI 5) (kI 0) v2 h
theorem tX11_person_12 {d : Nat} {z : Int32 × aH} (v0 : Nat) (v1 : Int32) (v2 : Int32) (h : aH) (hf : fX11_person_12 v0 v1 v2 h = some z) : Ev (d + 2) none mX11_person (0, 0) 12 [.ref v0, .int v1, .int v2] [] h (QI z) := 
  go_ok (X := none) (blk := wX11_person_12) (np := 15) (tt := 0) (kN := fun xs h st => app [2, 1, 1] (fun v0 v1 v2 => apS [1, 1, 1] (fun s0 s1 s2 => fX11_person_15 v0 v1 v2 s0 s1 s2 h) st) xs) (kT := fun _ _ _ => none) (kR := kRI)
    (fun xs h st q => jm [2, 1, 1] _ (fun v0 v1 v2 q => apS_ok [1, 1, 1] _ (fun st => Ev (d + 2) none mX11_person (0, 0) 15 [.ref v0, .int v1, .int v2] st h (QI z)) st (fun s0 s1 s2 q => tX11_person_15 v0 v1 v2 s0 s1 s2 h q) q) q)
    (fun _ _ _ q => nos q)
    kRI_ok (Or.inr rfl) (by decide +kernel) (by decide +kernel) hf
def wX11_person_9 : List En := [(.ifCond .eq 12, 21, 0, 0)]
def fX11_person_9 (v0 : Nat) (v1 : Int32) (v2 : Int32) (s0 : Int32) (h : aH) : Option (Int32 × aH) :=
  if s0 = 0 then fX11_person_21 v0 h else fX11_person_12 v0 v1 v2 h
theorem tX11_person_9 {d : Nat} {z : Int32 × aH} (v0 : Nat) (v1 : Int32) (v2 : Int32) (s0 : Int32) (h : aH) (hf : fX11_person_9 v0 v1 v2 s0 h = some z) : Ev (d + 2) none mX11_person (0, 0) 9 [.ref v0, .int v1, .int v2] [.int s0] h (QI z) := 
  go_ok (X := none) (blk := wX11_person_9) (np := 12) (tt := 21) (kN := fun xs h st => app [2, 1, 1] (fun v0 v1 v2 => apS [] (fX11_person_12 v0 v1 v2 h) st) xs) (kT := fun xs h st => app [2, 0, 0] (fun v0 => apS [] (fX11_person_21 v0 h) st) xs) (kR := kRI)
    (fun xs h st q => jm [2, 1, 1] _ (fun v0 v1 v2 q => apS_ok [] _ (fun st => Ev (d + 2) none mX11_person (0, 0) 12 [.ref v0, .int v1, .int v2] st h (QI z)) st (fun q => tX11_person_12 v0 v1 v2 h q) q) q)
    (fun xs h st q => jm [2, 0, 0] _ (fun v0 q => apS_ok [] _ (fun st => Ev (d + 2) none mX11_person (0, 0) 21 [.ref v0, .null, .null] st h (QI z)) st (fun q => tX11_person_21 v0 h q) q) q)
    kRI_ok (Or.inr rfl) (by decide +kernel) (by decide +kernel) hf
theorem kqX11_person_6 : okC mX11_person 6 (.invokevirtual 285) 214 231 0 1 = true := by decide +kernel
def fX11_person_6 (v0 : Nat) (v1 : Int32) (v2 : Int32) (s0 : Int32) (s1 : Nat) (h : aH) : Option (Int32 × aH) :=
  (isO h 11 s1).bind fun _ =>
  (gX11_isPerson s1 s0 h).bind fun r =>
  fX11_person_9 v0 v1 v2 r.1 r.2
theorem tX11_person_6 {d : Nat} {z : Int32 × aH} (v0 : Nat) (v1 : Int32) (v2 : Int32) (s0 : Int32) (s1 : Nat) (h : aH) (hf : fX11_person_6 v0 v1 v2 s0 s1 h = some z) : Ev (d + 2) none mX11_person (0, 0) 6 [.ref v0, .int v1, .int v2] [.int s0, .ref s1] h (QI z) := by
  obtain ⟨_, h1, hf⟩ := bnd hf
  obtain ⟨fs, ho⟩ := isO_ok h1
  obtain ⟨r, h2, hf⟩ := bnd hf
  refine ev_V kqX11_person_6 jX11_isPerson (zX11_isPerson (d := d + 0) h2) ho rfl rfl (Nat.le_of_ble_eq_true rfl) rfl (as := [.int s0]) (rest := []) rfl (Nat.le_of_ble_eq_true rfl) (fun _ _ hq => ?_)
  obtain ⟨-, rfl, rfl⟩ := hq
  exact jm [2, 1, 1] (fun v0 v1 v2 => fX11_person_9 v0 v1 v2 r.1 r.2) (fun v0 v1 v2 q => tX11_person_9 v0 v1 v2 r.1 r.2 q) hf
def wX11_person_4 : List En := [(.aload_n 0, 0, 0, 0), (.iload_n 1, 0, 0, 0)]
def fX11_person_4 (v0 : Nat) (v1 : Int32) (v2 : Int32) (h : aH) : Option (Int32 × aH) :=
  fX11_person_6 v0 v1 v2 v1 v0 h
theorem tX11_person_4 {d : Nat} {z : Int32 × aH} (v0 : Nat) (v1 : Int32) (v2 : Int32) (h : aH) (hf : fX11_person_4 v0 v1 v2 h = some z) : Ev (d + 2) none mX11_person (0, 0) 4 [.ref v0, .int v1, .int v2] [] h (QI z) := 
  go_ok (X := none) (blk := wX11_person_4) (np := 6) (tt := 0) (kN := fun xs h st => app [2, 1, 1] (fun v0 v1 v2 => apS [1, 2] (fun s0 s1 => fX11_person_6 v0 v1 v2 s0 s1 h) st) xs) (kT := fun _ _ _ => none) (kR := kRI)
    (fun xs h st q => jm [2, 1, 1] _ (fun v0 v1 v2 q => apS_ok [1, 2] _ (fun st => Ev (d + 2) none mX11_person (0, 0) 6 [.ref v0, .int v1, .int v2] st h (QI z)) st (fun s0 s1 q => tX11_person_6 v0 v1 v2 s0 s1 h q) q) q)
    (fun _ _ _ q => nos q)
    kRI_ok (Or.inr rfl) (by decide +kernel) (by decide +kernel) hf
theorem kqX11_person_1 : okC mX11_person 1 (.invokevirtual 161) 181 196 0 0 = true := by decide +kernel
def fX11_person_1 (v0 : Nat) (v1 : Int32) (v2 : Int32) (s0 : Nat) (h : aH) : Option (Int32 × aH) :=
  (isO h 11 s0).bind fun _ =>
  (gX11_anew s0 h).bind fun r =>
  fX11_person_4 v0 v1 v2 r
theorem tX11_person_1 {d : Nat} {z : Int32 × aH} (v0 : Nat) (v1 : Int32) (v2 : Int32) (s0 : Nat) (h : aH) (hf : fX11_person_1 v0 v1 v2 s0 h = some z) : Ev (d + 2) none mX11_person (0, 0) 1 [.ref v0, .int v1, .int v2] [.ref s0] h (QI z) := by
  obtain ⟨_, h1, hf⟩ := bnd hf
  obtain ⟨fs, ho⟩ := isO_ok h1
  obtain ⟨r, h2, hf⟩ := bnd hf
  refine ev_V kqX11_person_1 jX11_anew (zX11_anew (d := d + 1) h2) ho rfl rfl (Nat.le_of_ble_eq_true rfl) rfl (as := []) (rest := []) rfl (Nat.le_of_ble_eq_true rfl) (fun _ _ hq => ?_)
  obtain ⟨rfl, hh⟩ := hq
  rw [hh]
  exact jm [2, 1, 1] (fun v0 v1 v2 => fX11_person_4 v0 v1 v2 r) (fun v0 v1 v2 q => tX11_person_4 v0 v1 v2 r q) hf
def wX11_person_0 : List En := [(.aload_n 0, 0, 0, 0)]
def fX11_person_0 (v0 : Nat) (v1 : Int32) (v2 : Int32) (h : aH) : Option (Int32 × aH) :=
  fX11_person_1 v0 v1 v2 v0 h
theorem tX11_person_0 {d : Nat} {z : Int32 × aH} (v0 : Nat) (v1 : Int32) (v2 : Int32) (h : aH) (hf : fX11_person_0 v0 v1 v2 h = some z) : Ev (d + 2) none mX11_person (0, 0) 0 [.ref v0, .int v1, .int v2] [] h (QI z) := 
  go_ok (X := none) (blk := wX11_person_0) (np := 1) (tt := 0) (kN := fun xs h st => app [2, 1, 1] (fun v0 v1 v2 => apS [2] (fun s0 => fX11_person_1 v0 v1 v2 s0 h) st) xs) (kT := fun _ _ _ => none) (kR := kRI)
    (fun xs h st q => jm [2, 1, 1] _ (fun v0 v1 v2 q => apS_ok [2] _ (fun st => Ev (d + 2) none mX11_person (0, 0) 1 [.ref v0, .int v1, .int v2] st h (QI z)) st (fun s0 q => tX11_person_1 v0 v1 v2 s0 h q) q) q)
    (fun _ _ _ q => nos q)
    kRI_ok (Or.inr rfl) (by decide +kernel) (by decide +kernel) hf
def gX11_person (v0 : Nat) (v1 : Int32) (v2 : Int32) (h : aH) : Option (Int32 × aH) := fX11_person_0 v0 v1 v2 h
theorem zX11_person {d : Nat} {z : Int32 × aH} {v0 : Nat} {v1 : Int32} {v2 : Int32} {h : aH} (q : gX11_person v0 v1 v2 h = some z) : CT (d + 2) mX11_person (0, 0) [.ref v0, .int v1, .int v2] h (QI z) :=
  ct_ev (by decide +kernel) (Nat.le_of_ble_eq_true rfl) QI_r (jm [2, 1, 1] (fun v0 v1 v2 => fX11_person_0 v0 v1 v2 h) (fun v0 v1 v2 q => tX11_person_0 v0 v1 v2 h q) q)
def wX11_isName_28 : List En := [(.ireturn, 0, 0, 0)]
def fX11_isName_28 (s0 : Int32) (h : aH) : Option (Int32 × aH) :=
  if s0 = 0 ∨ s0 = 1 then some (s0, h) else none
theorem tX11_isName_28 {d : Nat} {z : Int32 × aH} (s0 : Int32) (h : aH) (hf : fX11_isName_28 s0 h = some z) : Ev (d + 1) none mX11_isName (0, 0) 28 [.null, .null] [.int s0] h (QZ z) := 
  go_ok (X := none) (blk := wX11_isName_28) (np := 29) (tt := 0) (kN := fun _ _ _ => none) (kT := fun _ _ _ => none) (kR := kRZ)
    (fun _ _ _ q => nos q)
    (fun _ _ _ q => nos q)
    kRZ_ok (Or.inr rfl) (by decide +kernel) (by decide +kernel) hf
def wX11_isName_27 : List En := [(.iconst 0, 0, 0, 0)]
def fX11_isName_27 (h : aH) : Option (Int32 × aH) :=
  fX11_isName_28 (kI 0) h
theorem tX11_isName_27 {d : Nat} {z : Int32 × aH} (h : aH) (hf : fX11_isName_27 h = some z) : Ev (d + 1) none mX11_isName (0, 0) 27 [.null, .null] [] h (QZ z) := 
  go_ok (X := none) (blk := wX11_isName_27) (np := 28) (tt := 0) (kN := fun xs h st => app [0, 0] (apS [1] (fun s0 => fX11_isName_28 s0 h) st) xs) (kT := fun _ _ _ => none) (kR := kRZ)
    (fun xs h st q => jm [0, 0] _ (fun q => apS_ok [1] _ (fun st => Ev (d + 1) none mX11_isName (0, 0) 28 [.null, .null] st h (QZ z)) st (fun s0 q => tX11_isName_28 s0 h q) q) q)
    (fun _ _ _ q => nos q)
    kRZ_ok (Or.inr rfl) (by decide +kernel) (by decide +kernel) hf
def wX11_isName_23 : List En := [(.iconst 1, 0, 0, 0), (.goto 4, 28, 0, 0)]
def fX11_isName_23 (h : aH) : Option (Int32 × aH) :=
  fX11_isName_28 (kI 1) h
theorem tX11_isName_23 {d : Nat} {z : Int32 × aH} (h : aH) (hf : fX11_isName_23 h = some z) : Ev (d + 1) none mX11_isName (0, 0) 23 [.null, .null] [] h (QZ z) := 
  go_ok (X := none) (blk := wX11_isName_23) (np := 27) (tt := 28) (kN := fun _ _ _ => none) (kT := fun xs h st => app [0, 0] (apS [1] (fun s0 => fX11_isName_28 s0 h) st) xs) (kR := kRZ)
    (fun _ _ _ q => nos q)
    (fun xs h st q => jm [0, 0] _ (fun q => apS_ok [1] _ (fun st => Ev (d + 1) none mX11_isName (0, 0) 28 [.null, .null] st h (QZ z)) st (fun s0 q => tX11_isName_28 s0 h q) q) q)
    kRZ_ok (Or.inr rfl) (by decide +kernel) (by decide +kernel) hf
def wX11_isName_20 : List En := [(.ifCond .eq 7, 27, 0, 0)]
def fX11_isName_20 (s0 : Int32) (h : aH) : Option (Int32 × aH) :=
  if s0 = 0 then fX11_isName_27 h else fX11_isName_23 h
theorem tX11_isName_20 {d : Nat} {z : Int32 × aH} (s0 : Int32) (h : aH) (hf : fX11_isName_20 s0 h = some z) : Ev (d + 1) none mX11_isName (0, 0) 20 [.null, .null] [.int s0] h (QZ z) := 
  go_ok (X := none) (blk := wX11_isName_20) (np := 23) (tt := 27) (kN := fun xs h st => app [0, 0] (apS [] (fX11_isName_23 h) st) xs) (kT := fun xs h st => app [0, 0] (apS [] (fX11_isName_27 h) st) xs) (kR := kRZ)
    (fun xs h st q => jm [0, 0] _ (fun q => apS_ok [] _ (fun st => Ev (d + 1) none mX11_isName (0, 0) 23 [.null, .null] st h (QZ z)) st (fun q => tX11_isName_23 h q) q) q)
    (fun xs h st q => jm [0, 0] _ (fun q => apS_ok [] _ (fun st => Ev (d + 1) none mX11_isName (0, 0) 27 [.null, .null] st h (QZ z)) st (fun q => tX11_isName_27 h q) q) q)
    kRZ_ok (Or.inr rfl) (by decide +kernel) (by decide +kernel) hf
theorem kqX11_isName_17 : okC mX11_isName 17 (.invokestatic 140) 182 197 1 3 = true := by decide +kernel
def fX11_isName_17 (s0 : Int32) (s1 : Int32) (s2 : Int32) (h : aH) : Option (Int32 × aH) :=
  (gX11_in s2 s1 s0 h).bind fun r =>
  fX11_isName_20 r.1 r.2
theorem tX11_isName_17 {d : Nat} {z : Int32 × aH} (s0 : Int32) (s1 : Int32) (s2 : Int32) (h : aH) (hf : fX11_isName_17 s0 s1 s2 h = some z) : Ev (d + 1) none mX11_isName (0, 0) 17 [.null, .null] [.int s0, .int s1, .int s2] h (QZ z) := by
  obtain ⟨r, h2, hf⟩ := bnd hf
  refine ev_S kqX11_isName_17 jX11_in (zX11_in (d := d + 0) h2) rfl (Nat.le_of_ble_eq_true rfl) rfl (as := [.int s2, .int s1, .int s0]) (rest := []) rfl (Nat.le_of_ble_eq_true rfl) (fun _ _ hq => ?_)
  obtain ⟨-, rfl, rfl⟩ := hq
  exact jm [0, 0] (fX11_isName_20 r.1 r.2) (fun q => tX11_isName_20 r.1 r.2 q) hf
def wX11_isName_7 : List En := [(.iload_n 1, 0, 0, 0), (.iconst 0, 0, 0, 0), (.aload_n 0, 0, 0, 0), (.getfield 20, 190, 11, 15), (.iconst 4, 0, 0, 0), (.iaload, 0, 0, 0), (.iconst 1, 0, 0, 0), (.isub, 0, 0, 0)]
def fX11_isName_7 (v0 : Nat) (v1 : Int32) (h : aH) : Option (Int32 × aH) :=
  (gFR h 11 v0 15).bind fun t1 =>
  (aRI (h[t1]?) (kI 4)).bind fun t2 =>
  fX11_isName_17 (t2 - (kI 1)) (kI 0) v1 h
theorem tX11_isName_7 {d : Nat} {z : Int32 × aH} (v0 : Nat) (v1 : Int32) (h : aH) (hf : fX11_isName_7 v0 v1 h = some z) : Ev (d + 1) none mX11_isName (0, 0) 7 [.ref v0, .int v1] [] h (QZ z) := 
  go_ok (X := none) (blk := wX11_isName_7) (np := 17) (tt := 0) (kN := fun xs h st => app [0, 0] (apS [1, 1, 1] (fun s0 s1 s2 => fX11_isName_17 s0 s1 s2 h) st) xs) (kT := fun _ _ _ => none) (kR := kRZ)
    (fun xs h st q => jm [0, 0] _ (fun q => apS_ok [1, 1, 1] _ (fun st => Ev (d + 1) none mX11_isName (0, 0) 17 [.null, .null] st h (QZ z)) st (fun s0 s1 s2 q => tX11_isName_17 s0 s1 s2 h q) q) q)
    (fun _ _ _ q => nos q)
    kRZ_ok (Or.inr rfl) (by decide +kernel) (by decide +kernel) hf
def wX11_isName_0 : List En := [(.aload_n 0, 0, 0, 0), (.getfield 174, 189, 11, 14), (.ifCond .eq 23, 27, 0, 0)]
def fX11_isName_0 (v0 : Nat) (v1 : Int32) (h : aH) : Option (Int32 × aH) :=
  (gFI h 11 v0 14).bind fun t1 =>
  if t1 = 0 then fX11_isName_27 h else fX11_isName_7 v0 v1 h
theorem tX11_isName_0 {d : Nat} {z : Int32 × aH} (v0 : Nat) (v1 : Int32) (h : aH) (hf : fX11_isName_0 v0 v1 h = some z) : Ev (d + 1) none mX11_isName (0, 0) 0 [.ref v0, .int v1] [] h (QZ z) := 
  go_ok (X := none) (blk := wX11_isName_0) (np := 7) (tt := 27) (kN := fun xs h st => app [2, 1] (fun v0 v1 => apS [] (fX11_isName_7 v0 v1 h) st) xs) (kT := fun xs h st => app [0, 0] (apS [] (fX11_isName_27 h) st) xs) (kR := kRZ)
    (fun xs h st q => jm [2, 1] _ (fun v0 v1 q => apS_ok [] _ (fun st => Ev (d + 1) none mX11_isName (0, 0) 7 [.ref v0, .int v1] st h (QZ z)) st (fun q => tX11_isName_7 v0 v1 h q) q) q)
    (fun xs h st q => jm [0, 0] _ (fun q => apS_ok [] _ (fun st => Ev (d + 1) none mX11_isName (0, 0) 27 [.null, .null] st h (QZ z)) st (fun q => tX11_isName_27 h q) q) q)
    kRZ_ok (Or.inr rfl) (by decide +kernel) (by decide +kernel) hf
def gX11_isName (v0 : Nat) (v1 : Int32) (h : aH) : Option (Int32 × aH) := fX11_isName_0 v0 v1 h
theorem zX11_isName {d : Nat} {z : Int32 × aH} {v0 : Nat} {v1 : Int32} {h : aH} (q : gX11_isName v0 v1 h = some z) : CT (d + 1) mX11_isName (0, 0) [.ref v0, .int v1] h (QZ z) :=
  ct_ev (by decide +kernel) (Nat.le_of_ble_eq_true rfl) QZ_r (jm [2, 1] (fun v0 v1 => fX11_isName_0 v0 v1 h) (fun v0 v1 q => tX11_isName_0 v0 v1 h q) q)
def wX11_name_26 : List En := [(.ireturn, 0, 0, 0)]
def fX11_name_26 (s0 : Int32) (h : aH) : Option (Int32 × aH) :=
  some (s0, h)
theorem tX11_name_26 {d : Nat} {z : Int32 × aH} (s0 : Int32) (h : aH) (hf : fX11_name_26 s0 h = some z) : Ev (d + 2) none mX11_name (0, 0) 26 [.null, .null, .null] [.int s0] h (QI z) := 
  go_ok (X := none) (blk := wX11_name_26) (np := 27) (tt := 0) (kN := fun _ _ _ => none) (kT := fun _ _ _ => none) (kR := kRI)
    (fun _ _ _ q => nos q)
    (fun _ _ _ q => nos q)
    kRI_ok (Or.inr rfl) (by decide +kernel) (by decide +kernel) hf
theorem kqX11_name_23 : okC mX11_name 23 (.invokevirtual 164) 183 198 0 1 = true := by decide +kernel
def fX11_name_23 (s0 : Int32) (s1 : Nat) (h : aH) : Option (Int32 × aH) :=
  (isO h 11 s1).bind fun _ =>
  (gX11_no s1 s0 h).bind fun r =>
  fX11_name_26 r.1 r.2
theorem tX11_name_23 {d : Nat} {z : Int32 × aH} (s0 : Int32) (s1 : Nat) (h : aH) (hf : fX11_name_23 s0 s1 h = some z) : Ev (d + 2) none mX11_name (0, 0) 23 [.null, .null, .null] [.int s0, .ref s1] h (QI z) := by
  obtain ⟨_, h1, hf⟩ := bnd hf
  obtain ⟨fs, ho⟩ := isO_ok h1
  obtain ⟨r, h2, hf⟩ := bnd hf
  refine ev_V kqX11_name_23 jX11_no (zX11_no (d := d + 1) h2) ho rfl rfl (Nat.le_of_ble_eq_true rfl) rfl (as := [.int s0]) (rest := []) rfl (Nat.le_of_ble_eq_true rfl) (fun _ _ hq => ?_)
  obtain ⟨rfl, rfl⟩ := hq
  exact jm [0, 0, 0] (fX11_name_26 r.1 r.2) (fun q => tX11_name_26 r.1 r.2 q) hf
def wX11_name_21 : List En := [(.aload_n 0, 0, 0, 0), (.iconst 1, 0, 0, 0)]
def fX11_name_21 (v0 : Nat) (h : aH) : Option (Int32 × aH) :=
  fX11_name_23 (kI 1) v0 h
theorem tX11_name_21 {d : Nat} {z : Int32 × aH} (v0 : Nat) (h : aH) (hf : fX11_name_21 v0 h = some z) : Ev (d + 2) none mX11_name (0, 0) 21 [.ref v0, .null, .null] [] h (QI z) := 
  go_ok (X := none) (blk := wX11_name_21) (np := 23) (tt := 0) (kN := fun xs h st => app [0, 0, 0] (apS [1, 2] (fun s0 s1 => fX11_name_23 s0 s1 h) st) xs) (kT := fun _ _ _ => none) (kR := kRI)
    (fun xs h st q => jm [0, 0, 0] _ (fun q => apS_ok [1, 2] _ (fun st => Ev (d + 2) none mX11_name (0, 0) 23 [.null, .null, .null] st h (QI z)) st (fun s0 s1 q => tX11_name_23 s0 s1 h q) q) q)
    (fun _ _ _ q => nos q)
    kRI_ok (Or.inr rfl) (by decide +kernel) (by decide +kernel) hf
def wX11_name_54 : List En := [(.ireturn, 0, 0, 0)]
def fX11_name_54 (s0 : Int32) (h : aH) : Option (Int32 × aH) :=
  some (s0, h)
theorem tX11_name_54 {d : Nat} {z : Int32 × aH} (s0 : Int32) (h : aH) (hf : fX11_name_54 s0 h = some z) : Ev (d + 2) none mX11_name (0, 0) 54 [.null, .null, .null] [.int s0] h (QI z) := 
  go_ok (X := none) (blk := wX11_name_54) (np := 55) (tt := 0) (kN := fun _ _ _ => none) (kT := fun _ _ _ => none) (kR := kRI)
    (fun _ _ _ q => nos q)
    (fun _ _ _ q => nos q)
    kRI_ok (Or.inr rfl) (by decide +kernel) (by decide +kernel) hf
def wX11_name_45 : List En := [(.aload_n 0, 0, 0, 0), (.getfield 32, 194, 11, 19), (.bipush 14, 0, 0, 0), (.iload_n 1, 0, 0, 0), (.iadd, 0, 0, 0), (.iaload, 0, 0, 0)]
def fX11_name_45 (v0 : Nat) (v1 : Int32) (h : aH) : Option (Int32 × aH) :=
  (gFR h 11 v0 19).bind fun t1 =>
  (aRI (h[t1]?) ((kB 14) + v1)).bind fun t2 =>
  fX11_name_54 t2 h
theorem tX11_name_45 {d : Nat} {z : Int32 × aH} (v0 : Nat) (v1 : Int32) (h : aH) (hf : fX11_name_45 v0 v1 h = some z) : Ev (d + 2) none mX11_name (0, 0) 45 [.ref v0, .int v1, .null] [] h (QI z) := 
  go_ok (X := none) (blk := wX11_name_45) (np := 54) (tt := 0) (kN := fun xs h st => app [0, 0, 0] (apS [1] (fun s0 => fX11_name_54 s0 h) st) xs) (kT := fun _ _ _ => none) (kR := kRI)
    (fun xs h st q => jm [0, 0, 0] _ (fun q => apS_ok [1] _ (fun st => Ev (d + 2) none mX11_name (0, 0) 54 [.null, .null, .null] st h (QI z)) st (fun s0 q => tX11_name_54 s0 h q) q) q)
    (fun _ _ _ q => nos q)
    kRI_ok (Or.inr rfl) (by decide +kernel) (by decide +kernel) hf
def wX11_name_31 : List En := [(.aload_n 0, 0, 0, 0), (.getfield 20, 190, 11, 15), (.bipush 19, 0, 0, 0), (.iconst 2, 0, 0, 0), (.iload_n 1, 0, 0, 0), (.imul, 0, 0, 0), (.iadd, 0, 0, 0), (.iaload, 0, 0, 0), (.goto 12, 54, 0, 0)]
def fX11_name_31 (v0 : Nat) (v1 : Int32) (h : aH) : Option (Int32 × aH) :=
  (gFR h 11 v0 15).bind fun t1 =>
  (aRI (h[t1]?) ((kB 19) + ((kI 2) * v1))).bind fun t2 =>
  fX11_name_54 t2 h
theorem tX11_name_31 {d : Nat} {z : Int32 × aH} (v0 : Nat) (v1 : Int32) (h : aH) (hf : fX11_name_31 v0 v1 h = some z) : Ev (d + 2) none mX11_name (0, 0) 31 [.ref v0, .int v1, .null] [] h (QI z) := 
  go_ok (X := none) (blk := wX11_name_31) (np := 45) (tt := 54) (kN := fun _ _ _ => none) (kT := fun xs h st => app [0, 0, 0] (apS [1] (fun s0 => fX11_name_54 s0 h) st) xs) (kR := kRI)
    (fun _ _ _ q => nos q)
    (fun xs h st q => jm [0, 0, 0] _ (fun q => apS_ok [1] _ (fun st => Ev (d + 2) none mX11_name (0, 0) 54 [.null, .null, .null] st h (QI z)) st (fun s0 q => tX11_name_54 s0 h q) q) q)
    kRI_ok (Or.inr rfl) (by decide +kernel) (by decide +kernel) hf
def wX11_name_27 : List En := [(.iload_n 2, 0, 0, 0), (.ifCond .ne 17, 45, 0, 0)]
def fX11_name_27 (v0 : Nat) (v1 : Int32) (v2 : Int32) (h : aH) : Option (Int32 × aH) :=
  if v2 = 0 then fX11_name_31 v0 v1 h else fX11_name_45 v0 v1 h
theorem tX11_name_27 {d : Nat} {z : Int32 × aH} (v0 : Nat) (v1 : Int32) (v2 : Int32) (h : aH) (hf : fX11_name_27 v0 v1 v2 h = some z) : Ev (d + 2) none mX11_name (0, 0) 27 [.ref v0, .int v1, .int v2] [] h (QI z) := 
  go_ok (X := none) (blk := wX11_name_27) (np := 31) (tt := 45) (kN := fun xs h st => app [2, 1, 0] (fun v0 v1 => apS [] (fX11_name_31 v0 v1 h) st) xs) (kT := fun xs h st => app [2, 1, 0] (fun v0 v1 => apS [] (fX11_name_45 v0 v1 h) st) xs) (kR := kRI)
    (fun xs h st q => jm [2, 1, 0] _ (fun v0 v1 q => apS_ok [] _ (fun st => Ev (d + 2) none mX11_name (0, 0) 31 [.ref v0, .int v1, .null] st h (QI z)) st (fun q => tX11_name_31 v0 v1 h q) q) q)
    (fun xs h st q => jm [2, 1, 0] _ (fun v0 v1 q => apS_ok [] _ (fun st => Ev (d + 2) none mX11_name (0, 0) 45 [.ref v0, .int v1, .null] st h (QI z)) st (fun q => tX11_name_45 v0 v1 h q) q) q)
    kRI_ok (Or.inr rfl) (by decide +kernel) (by decide +kernel) hf
def wX11_name_18 : List En := [(.ifCond .ne 9, 27, 0, 0)]
def fX11_name_18 (v0 : Nat) (v1 : Int32) (v2 : Int32) (s0 : Int32) (h : aH) : Option (Int32 × aH) :=
  if s0 = 0 then fX11_name_21 v0 h else fX11_name_27 v0 v1 v2 h
theorem tX11_name_18 {d : Nat} {z : Int32 × aH} (v0 : Nat) (v1 : Int32) (v2 : Int32) (s0 : Int32) (h : aH) (hf : fX11_name_18 v0 v1 v2 s0 h = some z) : Ev (d + 2) none mX11_name (0, 0) 18 [.ref v0, .int v1, .int v2] [.int s0] h (QI z) := 
  go_ok (X := none) (blk := wX11_name_18) (np := 21) (tt := 27) (kN := fun xs h st => app [2, 0, 0] (fun v0 => apS [] (fX11_name_21 v0 h) st) xs) (kT := fun xs h st => app [2, 1, 1] (fun v0 v1 v2 => apS [] (fX11_name_27 v0 v1 v2 h) st) xs) (kR := kRI)
    (fun xs h st q => jm [2, 0, 0] _ (fun v0 q => apS_ok [] _ (fun st => Ev (d + 2) none mX11_name (0, 0) 21 [.ref v0, .null, .null] st h (QI z)) st (fun q => tX11_name_21 v0 h q) q) q)
    (fun xs h st q => jm [2, 1, 1] _ (fun v0 v1 v2 q => apS_ok [] _ (fun st => Ev (d + 2) none mX11_name (0, 0) 27 [.ref v0, .int v1, .int v2] st h (QI z)) st (fun q => tX11_name_27 v0 v1 v2 h q) q) q)
    kRI_ok (Or.inr rfl) (by decide +kernel) (by decide +kernel) hf
theorem kqX11_name_15 : okC mX11_name 15 (.invokestatic 140) 182 197 1 3 = true := by decide +kernel
def fX11_name_15 (v0 : Nat) (v1 : Int32) (v2 : Int32) (s0 : Int32) (s1 : Int32) (s2 : Int32) (h : aH) : Option (Int32 × aH) :=
  (gX11_in s2 s1 s0 h).bind fun r =>
  fX11_name_18 v0 v1 v2 r.1 r.2
theorem tX11_name_15 {d : Nat} {z : Int32 × aH} (v0 : Nat) (v1 : Int32) (v2 : Int32) (s0 : Int32) (s1 : Int32) (s2 : Int32) (h : aH) (hf : fX11_name_15 v0 v1 v2 s0 s1 s2 h = some z) : Ev (d + 2) none mX11_name (0, 0) 15 [.ref v0, .int v1, .int v2] [.int s0, .int s1, .int s2] h (QI z) := by
  obtain ⟨r, h2, hf⟩ := bnd hf
  refine ev_S kqX11_name_15 jX11_in (zX11_in (d := d + 1) h2) rfl (Nat.le_of_ble_eq_true rfl) rfl (as := [.int s2, .int s1, .int s0]) (rest := []) rfl (Nat.le_of_ble_eq_true rfl) (fun _ _ hq => ?_)
  obtain ⟨-, rfl, rfl⟩ := hq
  exact jm [2, 1, 1] (fun v0 v1 v2 => fX11_name_18 v0 v1 v2 r.1 r.2) (fun v0 v1 v2 q => tX11_name_18 v0 v1 v2 r.1 r.2 q) hf
def wX11_name_12 : List En := [(.iload_n 2, 0, 0, 0), (.iconst 0, 0, 0, 0), (.iconst 1, 0, 0, 0)]
def fX11_name_12 (v0 : Nat) (v1 : Int32) (v2 : Int32) (h : aH) : Option (Int32 × aH) :=
  fX11_name_15 v0 v1 v2 (kI 1) (kI 0) v2 h
theorem tX11_name_12 {d : Nat} {z : Int32 × aH} (v0 : Nat) (v1 : Int32) (v2 : Int32) (h : aH) (hf : fX11_name_12 v0 v1 v2 h = some z) : Ev (d + 2) none mX11_name (0, 0) 12 [.ref v0, .int v1, .int v2] [] h (QI z) := 
  go_ok (X := none) (blk := wX11_name_12) (np := 15) (tt := 0) (kN := fun xs h st => app [2, 1, 1] (fun v0 v1 v2 => apS [1, 1, 1] (fun s0 s1 s2 => fX11_name_15 v0 v1 v2 s0 s1 s2 h) st) xs) (kT := fun _ _ _ => none) (kR := kRI)
    (fun xs h st q => jm [2, 1, 1] _ (fun v0 v1 v2 q => apS_ok [1, 1, 1] _ (fun st => Ev (d + 2) none mX11_name (0, 0) 15 [.ref v0, .int v1, .int v2] st h (QI z)) st (fun s0 s1 s2 q => tX11_name_15 v0 v1 v2 s0 s1 s2 h q) q) q)
    (fun _ _ _ q => nos q)
    kRI_ok (Or.inr rfl) (by decide +kernel) (by decide +kernel) hf
def wX11_name_9 : List En := [(.ifCond .eq 12, 21, 0, 0)]
def fX11_name_9 (v0 : Nat) (v1 : Int32) (v2 : Int32) (s0 : Int32) (h : aH) : Option (Int32 × aH) :=
  if s0 = 0 then fX11_name_21 v0 h else fX11_name_12 v0 v1 v2 h
theorem tX11_name_9 {d : Nat} {z : Int32 × aH} (v0 : Nat) (v1 : Int32) (v2 : Int32) (s0 : Int32) (h : aH) (hf : fX11_name_9 v0 v1 v2 s0 h = some z) : Ev (d + 2) none mX11_name (0, 0) 9 [.ref v0, .int v1, .int v2] [.int s0] h (QI z) := 
  go_ok (X := none) (blk := wX11_name_9) (np := 12) (tt := 21) (kN := fun xs h st => app [2, 1, 1] (fun v0 v1 v2 => apS [] (fX11_name_12 v0 v1 v2 h) st) xs) (kT := fun xs h st => app [2, 0, 0] (fun v0 => apS [] (fX11_name_21 v0 h) st) xs) (kR := kRI)
    (fun xs h st q => jm [2, 1, 1] _ (fun v0 v1 v2 q => apS_ok [] _ (fun st => Ev (d + 2) none mX11_name (0, 0) 12 [.ref v0, .int v1, .int v2] st h (QI z)) st (fun q => tX11_name_12 v0 v1 v2 h q) q) q)
    (fun xs h st q => jm [2, 0, 0] _ (fun v0 q => apS_ok [] _ (fun st => Ev (d + 2) none mX11_name (0, 0) 21 [.ref v0, .null, .null] st h (QI z)) st (fun q => tX11_name_21 v0 h q) q) q)
    kRI_ok (Or.inr rfl) (by decide +kernel) (by decide +kernel) hf
theorem kqX11_name_6 : okC mX11_name 6 (.invokevirtual 288) 216 233 0 1 = true := by decide +kernel
def fX11_name_6 (v0 : Nat) (v1 : Int32) (v2 : Int32) (s0 : Int32) (s1 : Nat) (h : aH) : Option (Int32 × aH) :=
  (isO h 11 s1).bind fun _ =>
  (gX11_isName s1 s0 h).bind fun r =>
  fX11_name_9 v0 v1 v2 r.1 r.2
theorem tX11_name_6 {d : Nat} {z : Int32 × aH} (v0 : Nat) (v1 : Int32) (v2 : Int32) (s0 : Int32) (s1 : Nat) (h : aH) (hf : fX11_name_6 v0 v1 v2 s0 s1 h = some z) : Ev (d + 2) none mX11_name (0, 0) 6 [.ref v0, .int v1, .int v2] [.int s0, .ref s1] h (QI z) := by
  obtain ⟨_, h1, hf⟩ := bnd hf
  obtain ⟨fs, ho⟩ := isO_ok h1
  obtain ⟨r, h2, hf⟩ := bnd hf
  refine ev_V kqX11_name_6 jX11_isName (zX11_isName (d := d + 0) h2) ho rfl rfl (Nat.le_of_ble_eq_true rfl) rfl (as := [.int s0]) (rest := []) rfl (Nat.le_of_ble_eq_true rfl) (fun _ _ hq => ?_)
  obtain ⟨-, rfl, rfl⟩ := hq
  exact jm [2, 1, 1] (fun v0 v1 v2 => fX11_name_9 v0 v1 v2 r.1 r.2) (fun v0 v1 v2 q => tX11_name_9 v0 v1 v2 r.1 r.2 q) hf
def wX11_name_4 : List En := [(.aload_n 0, 0, 0, 0), (.iload_n 1, 0, 0, 0)]
def fX11_name_4 (v0 : Nat) (v1 : Int32) (v2 : Int32) (h : aH) : Option (Int32 × aH) :=
  fX11_name_6 v0 v1 v2 v1 v0 h
theorem tX11_name_4 {d : Nat} {z : Int32 × aH} (v0 : Nat) (v1 : Int32) (v2 : Int32) (h : aH) (hf : fX11_name_4 v0 v1 v2 h = some z) : Ev (d + 2) none mX11_name (0, 0) 4 [.ref v0, .int v1, .int v2] [] h (QI z) := 
  go_ok (X := none) (blk := wX11_name_4) (np := 6) (tt := 0) (kN := fun xs h st => app [2, 1, 1] (fun v0 v1 v2 => apS [1, 2] (fun s0 s1 => fX11_name_6 v0 v1 v2 s0 s1 h) st) xs) (kT := fun _ _ _ => none) (kR := kRI)
    (fun xs h st q => jm [2, 1, 1] _ (fun v0 v1 v2 q => apS_ok [1, 2] _ (fun st => Ev (d + 2) none mX11_name (0, 0) 6 [.ref v0, .int v1, .int v2] st h (QI z)) st (fun s0 s1 q => tX11_name_6 v0 v1 v2 s0 s1 h q) q) q)
    (fun _ _ _ q => nos q)
    kRI_ok (Or.inr rfl) (by decide +kernel) (by decide +kernel) hf
theorem kqX11_name_1 : okC mX11_name 1 (.invokevirtual 161) 181 196 0 0 = true := by decide +kernel
def fX11_name_1 (v0 : Nat) (v1 : Int32) (v2 : Int32) (s0 : Nat) (h : aH) : Option (Int32 × aH) :=
  (isO h 11 s0).bind fun _ =>
  (gX11_anew s0 h).bind fun r =>
  fX11_name_4 v0 v1 v2 r
theorem tX11_name_1 {d : Nat} {z : Int32 × aH} (v0 : Nat) (v1 : Int32) (v2 : Int32) (s0 : Nat) (h : aH) (hf : fX11_name_1 v0 v1 v2 s0 h = some z) : Ev (d + 2) none mX11_name (0, 0) 1 [.ref v0, .int v1, .int v2] [.ref s0] h (QI z) := by
  obtain ⟨_, h1, hf⟩ := bnd hf
  obtain ⟨fs, ho⟩ := isO_ok h1
  obtain ⟨r, h2, hf⟩ := bnd hf
  refine ev_V kqX11_name_1 jX11_anew (zX11_anew (d := d + 1) h2) ho rfl rfl (Nat.le_of_ble_eq_true rfl) rfl (as := []) (rest := []) rfl (Nat.le_of_ble_eq_true rfl) (fun _ _ hq => ?_)
  obtain ⟨rfl, hh⟩ := hq
  rw [hh]
  exact jm [2, 1, 1] (fun v0 v1 v2 => fX11_name_4 v0 v1 v2 r) (fun v0 v1 v2 q => tX11_name_4 v0 v1 v2 r q) hf
def wX11_name_0 : List En := [(.aload_n 0, 0, 0, 0)]
def fX11_name_0 (v0 : Nat) (v1 : Int32) (v2 : Int32) (h : aH) : Option (Int32 × aH) :=
  fX11_name_1 v0 v1 v2 v0 h
theorem tX11_name_0 {d : Nat} {z : Int32 × aH} (v0 : Nat) (v1 : Int32) (v2 : Int32) (h : aH) (hf : fX11_name_0 v0 v1 v2 h = some z) : Ev (d + 2) none mX11_name (0, 0) 0 [.ref v0, .int v1, .int v2] [] h (QI z) := 
  go_ok (X := none) (blk := wX11_name_0) (np := 1) (tt := 0) (kN := fun xs h st => app [2, 1, 1] (fun v0 v1 v2 => apS [2] (fun s0 => fX11_name_1 v0 v1 v2 s0 h) st) xs) (kT := fun _ _ _ => none) (kR := kRI)
    (fun xs h st q => jm [2, 1, 1] _ (fun v0 v1 v2 q => apS_ok [2] _ (fun st => Ev (d + 2) none mX11_name (0, 0) 1 [.ref v0, .int v1, .int v2] st h (QI z)) st (fun s0 q => tX11_name_1 v0 v1 v2 s0 h q) q) q)
    (fun _ _ _ q => nos q)
    kRI_ok (Or.inr rfl) (by decide +kernel) (by decide +kernel) hf
def gX11_name (v0 : Nat) (v1 : Int32) (v2 : Int32) (h : aH) : Option (Int32 × aH) := fX11_name_0 v0 v1 v2 h
theorem zX11_name {d : Nat} {z : Int32 × aH} {v0 : Nat} {v1 : Int32} {v2 : Int32} {h : aH} (q : gX11_name v0 v1 v2 h = some z) : CT (d + 2) mX11_name (0, 0) [.ref v0, .int v1, .int v2] h (QI z) :=
  ct_ev (by decide +kernel) (Nat.le_of_ble_eq_true rfl) QI_r (jm [2, 1, 1] (fun v0 v1 v2 => fX11_name_0 v0 v1 v2 h) (fun v0 v1 v2 q => tX11_name_0 v0 v1 v2 h q) q)
def wX11_left_26 : List En := [(.ireturn, 0, 0, 0)]
def fX11_left_26 (s0 : Int32) (h : aH) : Option (Int32 × aH) :=
  some (s0, h)
theorem tX11_left_26 {d : Nat} {z : Int32 × aH} (s0 : Int32) (h : aH) (hf : fX11_left_26 s0 h = some z) : Ev (d + 1) none mX11_left (0, 0) 26 [.null] [.int s0] h (QI z) := 
  go_ok (X := none) (blk := wX11_left_26) (np := 27) (tt := 0) (kN := fun _ _ _ => none) (kT := fun _ _ _ => none) (kR := kRI)
    (fun _ _ _ q => nos q)
    (fun _ _ _ q => nos q)
    kRI_ok (Or.inr rfl) (by decide +kernel) (by decide +kernel) hf
theorem kqX11_left_23 : okC mX11_left 23 (.invokevirtual 164) 183 198 0 1 = true := by decide +kernel
def fX11_left_23 (s0 : Int32) (s1 : Nat) (h : aH) : Option (Int32 × aH) :=
  (isO h 11 s1).bind fun _ =>
  (gX11_no s1 s0 h).bind fun r =>
  fX11_left_26 r.1 r.2
theorem tX11_left_23 {d : Nat} {z : Int32 × aH} (s0 : Int32) (s1 : Nat) (h : aH) (hf : fX11_left_23 s0 s1 h = some z) : Ev (d + 1) none mX11_left (0, 0) 23 [.null] [.int s0, .ref s1] h (QI z) := by
  obtain ⟨_, h1, hf⟩ := bnd hf
  obtain ⟨fs, ho⟩ := isO_ok h1
  obtain ⟨r, h2, hf⟩ := bnd hf
  refine ev_V kqX11_left_23 jX11_no (zX11_no (d := d + 0) h2) ho rfl rfl (Nat.le_of_ble_eq_true rfl) rfl (as := [.int s0]) (rest := []) rfl (Nat.le_of_ble_eq_true rfl) (fun _ _ hq => ?_)
  obtain ⟨rfl, rfl⟩ := hq
  exact jm [0] (fX11_left_26 r.1 r.2) (fun q => tX11_left_26 r.1 r.2 q) hf
def wX11_left_21 : List En := [(.aload_n 0, 0, 0, 0), (.iconst 1, 0, 0, 0)]
def fX11_left_21 (v0 : Nat) (h : aH) : Option (Int32 × aH) :=
  fX11_left_23 (kI 1) v0 h
theorem tX11_left_21 {d : Nat} {z : Int32 × aH} (v0 : Nat) (h : aH) (hf : fX11_left_21 v0 h = some z) : Ev (d + 1) none mX11_left (0, 0) 21 [.ref v0] [] h (QI z) := 
  go_ok (X := none) (blk := wX11_left_21) (np := 23) (tt := 0) (kN := fun xs h st => app [0] (apS [1, 2] (fun s0 s1 => fX11_left_23 s0 s1 h) st) xs) (kT := fun _ _ _ => none) (kR := kRI)
    (fun xs h st q => jm [0] _ (fun q => apS_ok [1, 2] _ (fun st => Ev (d + 1) none mX11_left (0, 0) 23 [.null] st h (QI z)) st (fun s0 s1 q => tX11_left_23 s0 s1 h q) q) q)
    (fun _ _ _ q => nos q)
    kRI_ok (Or.inr rfl) (by decide +kernel) (by decide +kernel) hf
def wX11_left_11 : List En := [(.aload_n 0, 0, 0, 0), (.getfield 32, 194, 11, 19), (.bipush 12, 0, 0, 0), (.iaload, 0, 0, 0), (.goto 8, 26, 0, 0)]
def fX11_left_11 (v0 : Nat) (h : aH) : Option (Int32 × aH) :=
  (gFR h 11 v0 19).bind fun t1 =>
  (aRI (h[t1]?) (kB 12)).bind fun t2 =>
  fX11_left_26 t2 h
theorem tX11_left_11 {d : Nat} {z : Int32 × aH} (v0 : Nat) (h : aH) (hf : fX11_left_11 v0 h = some z) : Ev (d + 1) none mX11_left (0, 0) 11 [.ref v0] [] h (QI z) := 
  go_ok (X := none) (blk := wX11_left_11) (np := 21) (tt := 26) (kN := fun _ _ _ => none) (kT := fun xs h st => app [0] (apS [1] (fun s0 => fX11_left_26 s0 h) st) xs) (kR := kRI)
    (fun _ _ _ q => nos q)
    (fun xs h st q => jm [0] _ (fun q => apS_ok [1] _ (fun st => Ev (d + 1) none mX11_left (0, 0) 26 [.null] st h (QI z)) st (fun s0 q => tX11_left_26 s0 h q) q) q)
    kRI_ok (Or.inr rfl) (by decide +kernel) (by decide +kernel) hf
def wX11_left_4 : List En := [(.aload_n 0, 0, 0, 0), (.getfield 174, 189, 11, 14), (.ifCond .eq 13, 21, 0, 0)]
def fX11_left_4 (v0 : Nat) (h : aH) : Option (Int32 × aH) :=
  (gFI h 11 v0 14).bind fun t1 =>
  if t1 = 0 then fX11_left_21 v0 h else fX11_left_11 v0 h
theorem tX11_left_4 {d : Nat} {z : Int32 × aH} (v0 : Nat) (h : aH) (hf : fX11_left_4 v0 h = some z) : Ev (d + 1) none mX11_left (0, 0) 4 [.ref v0] [] h (QI z) := 
  go_ok (X := none) (blk := wX11_left_4) (np := 11) (tt := 21) (kN := fun xs h st => app [2] (fun v0 => apS [] (fX11_left_11 v0 h) st) xs) (kT := fun xs h st => app [2] (fun v0 => apS [] (fX11_left_21 v0 h) st) xs) (kR := kRI)
    (fun xs h st q => jm [2] _ (fun v0 q => apS_ok [] _ (fun st => Ev (d + 1) none mX11_left (0, 0) 11 [.ref v0] st h (QI z)) st (fun q => tX11_left_11 v0 h q) q) q)
    (fun xs h st q => jm [2] _ (fun v0 q => apS_ok [] _ (fun st => Ev (d + 1) none mX11_left (0, 0) 21 [.ref v0] st h (QI z)) st (fun q => tX11_left_21 v0 h q) q) q)
    kRI_ok (Or.inr rfl) (by decide +kernel) (by decide +kernel) hf
theorem kqX11_left_1 : okC mX11_left 1 (.invokevirtual 161) 181 196 0 0 = true := by decide +kernel
def fX11_left_1 (v0 : Nat) (s0 : Nat) (h : aH) : Option (Int32 × aH) :=
  (isO h 11 s0).bind fun _ =>
  (gX11_anew s0 h).bind fun r =>
  fX11_left_4 v0 r
theorem tX11_left_1 {d : Nat} {z : Int32 × aH} (v0 : Nat) (s0 : Nat) (h : aH) (hf : fX11_left_1 v0 s0 h = some z) : Ev (d + 1) none mX11_left (0, 0) 1 [.ref v0] [.ref s0] h (QI z) := by
  obtain ⟨_, h1, hf⟩ := bnd hf
  obtain ⟨fs, ho⟩ := isO_ok h1
  obtain ⟨r, h2, hf⟩ := bnd hf
  refine ev_V kqX11_left_1 jX11_anew (zX11_anew (d := d + 0) h2) ho rfl rfl (Nat.le_of_ble_eq_true rfl) rfl (as := []) (rest := []) rfl (Nat.le_of_ble_eq_true rfl) (fun _ _ hq => ?_)
  obtain ⟨rfl, hh⟩ := hq
  rw [hh]
  exact jm [2] (fun v0 => fX11_left_4 v0 r) (fun v0 q => tX11_left_4 v0 r q) hf
def wX11_left_0 : List En := [(.aload_n 0, 0, 0, 0)]
def fX11_left_0 (v0 : Nat) (h : aH) : Option (Int32 × aH) :=
  fX11_left_1 v0 v0 h
theorem tX11_left_0 {d : Nat} {z : Int32 × aH} (v0 : Nat) (h : aH) (hf : fX11_left_0 v0 h = some z) : Ev (d + 1) none mX11_left (0, 0) 0 [.ref v0] [] h (QI z) := 
  go_ok (X := none) (blk := wX11_left_0) (np := 1) (tt := 0) (kN := fun xs h st => app [2] (fun v0 => apS [2] (fun s0 => fX11_left_1 v0 s0 h) st) xs) (kT := fun _ _ _ => none) (kR := kRI)
    (fun xs h st q => jm [2] _ (fun v0 q => apS_ok [2] _ (fun st => Ev (d + 1) none mX11_left (0, 0) 1 [.ref v0] st h (QI z)) st (fun s0 q => tX11_left_1 v0 s0 h q) q) q)
    (fun _ _ _ q => nos q)
    kRI_ok (Or.inr rfl) (by decide +kernel) (by decide +kernel) hf
def gX11_left (v0 : Nat) (h : aH) : Option (Int32 × aH) := fX11_left_0 v0 h
theorem zX11_left {d : Nat} {z : Int32 × aH} {v0 : Nat} {h : aH} (q : gX11_left v0 h = some z) : CT (d + 1) mX11_left (0, 0) [.ref v0] h (QI z) :=
  ct_ev (by decide +kernel) (Nat.le_of_ble_eq_true rfl) QI_r (jm [2] (fun v0 => fX11_left_0 v0 h) (fun v0 q => tX11_left_0 v0 h q) q)
def wX11_begin_15 : List En := [(.return_, 0, 0, 0)]
def fX11_begin_15 (h : aH) : Option (aH) :=
  some h
theorem tX11_begin_15 {d : Nat} {z : aH} (h : aH) (hf : fX11_begin_15 h = some z) : Ev (d + 1) none mX11_begin (0, 0) 15 [.null] [] h (QV z) := 
  go_ok (X := none) (blk := wX11_begin_15) (np := 16) (tt := 0) (kN := fun _ _ _ => none) (kT := fun _ _ _ => none) (kR := kRV)
    (fun _ _ _ q => nos q)
    (fun _ _ _ q => nos q)
    kRV_ok (Or.inr rfl) (by decide +kernel) (by decide +kernel) hf
theorem kqX11_begin_12 : okC mX11_begin 12 (.invokestatic 170) 210 227 1 5 = true := by decide +kernel
def fX11_begin_12 (s0 : Int32) (s1 : Int32) (s2 : Nat) (s3 : Int32) (s4 : Nat) (h : aH) : Option (aH) :=
  (gX11_copy s4 s3 s2 s1 s0 h).bind fun r =>
  fX11_begin_15 r
theorem tX11_begin_12 {d : Nat} {z : aH} (s0 : Int32) (s1 : Int32) (s2 : Nat) (s3 : Int32) (s4 : Nat) (h : aH) (hf : fX11_begin_12 s0 s1 s2 s3 s4 h = some z) : Ev (d + 1) none mX11_begin (0, 0) 12 [.null] [.int s0, .int s1, .ref s2, .int s3, .ref s4] h (QV z) := by
  obtain ⟨r, h2, hf⟩ := bnd hf
  refine ev_S kqX11_begin_12 jX11_copy (zX11_copy (d := d + 0) h2) rfl (Nat.le_of_ble_eq_true rfl) rfl (as := [.ref s4, .int s3, .ref s2, .int s1, .int s0]) (rest := []) rfl (Nat.le_of_ble_eq_true rfl) (fun _ _ hq => ?_)
  obtain ⟨rfl, hh⟩ := hq
  rw [hh]
  exact jm [0] (fX11_begin_15 r) (fun q => tX11_begin_15 r q) hf
def wX11_begin_0 : List En := [(.aload_n 0, 0, 0, 0), (.getfield 32, 194, 11, 19), (.iconst 0, 0, 0, 0), (.aload_n 0, 0, 0, 0), (.getfield 35, 195, 11, 20), (.iconst 0, 0, 0, 0), (.bipush 22, 0, 0, 0)]
def fX11_begin_0 (v0 : Nat) (h : aH) : Option (aH) :=
  (gFR h 11 v0 19).bind fun t1 =>
  (gFR h 11 v0 20).bind fun t2 =>
  fX11_begin_12 (kB 22) (kI 0) t2 (kI 0) t1 h
theorem tX11_begin_0 {d : Nat} {z : aH} (v0 : Nat) (h : aH) (hf : fX11_begin_0 v0 h = some z) : Ev (d + 1) none mX11_begin (0, 0) 0 [.ref v0] [] h (QV z) := 
  go_ok (X := none) (blk := wX11_begin_0) (np := 12) (tt := 0) (kN := fun xs h st => app [0] (apS [1, 1, 2, 1, 2] (fun s0 s1 s2 s3 s4 => fX11_begin_12 s0 s1 s2 s3 s4 h) st) xs) (kT := fun _ _ _ => none) (kR := kRV)
    (fun xs h st q => jm [0] _ (fun q => apS_ok [1, 1, 2, 1, 2] _ (fun st => Ev (d + 1) none mX11_begin (0, 0) 12 [.null] st h (QV z)) st (fun s0 s1 s2 s3 s4 q => tX11_begin_12 s0 s1 s2 s3 s4 h q) q) q)
    (fun _ _ _ q => nos q)
    kRV_ok (Or.inr rfl) (by decide +kernel) (by decide +kernel) hf
def gX11_begin (v0 : Nat) (h : aH) : Option (aH) := fX11_begin_0 v0 h
theorem zX11_begin {d : Nat} {z : aH} {v0 : Nat} {h : aH} (q : gX11_begin v0 h = some z) : CT (d + 1) mX11_begin (0, 0) [.ref v0] h (QV z) :=
  ct_ev (by decide +kernel) (Nat.le_of_ble_eq_true rfl) QV_r (jm [2] (fun v0 => fX11_begin_0 v0 h) (fun v0 q => tX11_begin_0 v0 h q) q)
def wX11_hasBit_14 : List En := [(.ireturn, 0, 0, 0)]
def fX11_hasBit_14 (s0 : Int32) (h : aH) : Option (Int32 × aH) :=
  if s0 = 0 ∨ s0 = 1 then some (s0, h) else none
theorem tX11_hasBit_14 {d : Nat} {z : Int32 × aH} (s0 : Int32) (h : aH) (hf : fX11_hasBit_14 s0 h = some z) : Ev (d + 0) none mX11_hasBit (0, 0) 14 [.null, .null] [.int s0] h (QZ z) := 
  go_ok (X := none) (blk := wX11_hasBit_14) (np := 15) (tt := 0) (kN := fun _ _ _ => none) (kT := fun _ _ _ => none) (kR := kRZ)
    (fun _ _ _ q => nos q)
    (fun _ _ _ q => nos q)
    kRZ_ok (Or.inr rfl) (by decide +kernel) (by decide +kernel) hf
def wX11_hasBit_13 : List En := [(.iconst 0, 0, 0, 0)]
def fX11_hasBit_13 (h : aH) : Option (Int32 × aH) :=
  fX11_hasBit_14 (kI 0) h
theorem tX11_hasBit_13 {d : Nat} {z : Int32 × aH} (h : aH) (hf : fX11_hasBit_13 h = some z) : Ev (d + 0) none mX11_hasBit (0, 0) 13 [.null, .null] [] h (QZ z) := 
  go_ok (X := none) (blk := wX11_hasBit_13) (np := 14) (tt := 0) (kN := fun xs h st => app [0, 0] (apS [1] (fun s0 => fX11_hasBit_14 s0 h) st) xs) (kT := fun _ _ _ => none) (kR := kRZ)
    (fun xs h st q => jm [0, 0] _ (fun q => apS_ok [1] _ (fun st => Ev (d + 0) none mX11_hasBit (0, 0) 14 [.null, .null] st h (QZ z)) st (fun s0 q => tX11_hasBit_14 s0 h q) q) q)
    (fun _ _ _ q => nos q)
    kRZ_ok (Or.inr rfl) (by decide +kernel) (by decide +kernel) hf
def wX11_hasBit_9 : List En := [(.iconst 1, 0, 0, 0), (.goto 4, 14, 0, 0)]
def fX11_hasBit_9 (h : aH) : Option (Int32 × aH) :=
  fX11_hasBit_14 (kI 1) h
theorem tX11_hasBit_9 {d : Nat} {z : Int32 × aH} (h : aH) (hf : fX11_hasBit_9 h = some z) : Ev (d + 0) none mX11_hasBit (0, 0) 9 [.null, .null] [] h (QZ z) := 
  go_ok (X := none) (blk := wX11_hasBit_9) (np := 13) (tt := 14) (kN := fun _ _ _ => none) (kT := fun xs h st => app [0, 0] (apS [1] (fun s0 => fX11_hasBit_14 s0 h) st) xs) (kR := kRZ)
    (fun _ _ _ q => nos q)
    (fun xs h st q => jm [0, 0] _ (fun q => apS_ok [1] _ (fun st => Ev (d + 0) none mX11_hasBit (0, 0) 14 [.null, .null] st h (QZ z)) st (fun s0 q => tX11_hasBit_14 s0 h q) q) q)
    kRZ_ok (Or.inr rfl) (by decide +kernel) (by decide +kernel) hf
def wX11_hasBit_0 : List En := [(.iload_n 0, 0, 0, 0), (.iload_n 1, 0, 0, 0), (.ishr, 0, 0, 0), (.iconst 1, 0, 0, 0), (.iand, 0, 0, 0), (.iconst 1, 0, 0, 0), (.if_icmp .ne 7, 13, 0, 0)]
def fX11_hasBit_0 (v0 : Int32) (v1 : Int32) (h : aH) : Option (Int32 × aH) :=
  if ((v0 >>> (v1 &&& 31)) &&& (kI 1)) = (kI 1) then fX11_hasBit_9 h else fX11_hasBit_13 h
theorem tX11_hasBit_0 {d : Nat} {z : Int32 × aH} (v0 : Int32) (v1 : Int32) (h : aH) (hf : fX11_hasBit_0 v0 v1 h = some z) : Ev (d + 0) none mX11_hasBit (0, 0) 0 [.int v0, .int v1] [] h (QZ z) := 
  go_ok (X := none) (blk := wX11_hasBit_0) (np := 9) (tt := 13) (kN := fun xs h st => app [0, 0] (apS [] (fX11_hasBit_9 h) st) xs) (kT := fun xs h st => app [0, 0] (apS [] (fX11_hasBit_13 h) st) xs) (kR := kRZ)
    (fun xs h st q => jm [0, 0] _ (fun q => apS_ok [] _ (fun st => Ev (d + 0) none mX11_hasBit (0, 0) 9 [.null, .null] st h (QZ z)) st (fun q => tX11_hasBit_9 h q) q) q)
    (fun xs h st q => jm [0, 0] _ (fun q => apS_ok [] _ (fun st => Ev (d + 0) none mX11_hasBit (0, 0) 13 [.null, .null] st h (QZ z)) st (fun q => tX11_hasBit_13 h q) q) q)
    kRZ_ok (Or.inr rfl) (by decide +kernel) (by decide +kernel) hf
def gX11_hasBit (v0 : Int32) (v1 : Int32) (h : aH) : Option (Int32 × aH) := fX11_hasBit_0 v0 v1 h
theorem zX11_hasBit {d : Nat} {z : Int32 × aH} {v0 : Int32} {v1 : Int32} {h : aH} (q : gX11_hasBit v0 v1 h = some z) : CT (d + 0) mX11_hasBit (0, 0) [.int v0, .int v1] h (QZ z) :=
  ct_ev (by decide +kernel) (Nat.le_of_ble_eq_true rfl) QZ_r (jm [1, 1] (fun v0 v1 => fX11_hasBit_0 v0 v1 h) (fun v0 v1 q => tX11_hasBit_0 v0 v1 h q) q)
def wX11_lives_16 : List En := [(.ireturn, 0, 0, 0)]
def fX11_lives_16 (s0 : Int32) (h : aH) : Option (Int32 × aH) :=
  if s0 = 0 ∨ s0 = 1 then some (s0, h) else none
theorem tX11_lives_16 {d : Nat} {z : Int32 × aH} (s0 : Int32) (h : aH) (hf : fX11_lives_16 s0 h = some z) : Ev (d + 1) none mX11_lives (0, 0) 16 [.null, .null, .null] [.int s0] h (QZ z) := 
  go_ok (X := none) (blk := wX11_lives_16) (np := 17) (tt := 0) (kN := fun _ _ _ => none) (kT := fun _ _ _ => none) (kR := kRZ)
    (fun _ _ _ q => nos q)
    (fun _ _ _ q => nos q)
    kRZ_ok (Or.inr rfl) (by decide +kernel) (by decide +kernel) hf
def wX11_lives_15 : List En := [(.iconst 0, 0, 0, 0)]
def fX11_lives_15 (h : aH) : Option (Int32 × aH) :=
  fX11_lives_16 (kI 0) h
theorem tX11_lives_15 {d : Nat} {z : Int32 × aH} (h : aH) (hf : fX11_lives_15 h = some z) : Ev (d + 1) none mX11_lives (0, 0) 15 [.null, .null, .null] [] h (QZ z) := 
  go_ok (X := none) (blk := wX11_lives_15) (np := 16) (tt := 0) (kN := fun xs h st => app [0, 0, 0] (apS [1] (fun s0 => fX11_lives_16 s0 h) st) xs) (kT := fun _ _ _ => none) (kR := kRZ)
    (fun xs h st q => jm [0, 0, 0] _ (fun q => apS_ok [1] _ (fun st => Ev (d + 1) none mX11_lives (0, 0) 16 [.null, .null, .null] st h (QZ z)) st (fun s0 q => tX11_lives_16 s0 h q) q) q)
    (fun _ _ _ q => nos q)
    kRZ_ok (Or.inr rfl) (by decide +kernel) (by decide +kernel) hf
def wX11_lives_11 : List En := [(.iconst 1, 0, 0, 0), (.goto 4, 16, 0, 0)]
def fX11_lives_11 (h : aH) : Option (Int32 × aH) :=
  fX11_lives_16 (kI 1) h
theorem tX11_lives_11 {d : Nat} {z : Int32 × aH} (h : aH) (hf : fX11_lives_11 h = some z) : Ev (d + 1) none mX11_lives (0, 0) 11 [.null, .null, .null] [] h (QZ z) := 
  go_ok (X := none) (blk := wX11_lives_11) (np := 15) (tt := 16) (kN := fun _ _ _ => none) (kT := fun xs h st => app [0, 0, 0] (apS [1] (fun s0 => fX11_lives_16 s0 h) st) xs) (kR := kRZ)
    (fun _ _ _ q => nos q)
    (fun xs h st q => jm [0, 0, 0] _ (fun q => apS_ok [1] _ (fun st => Ev (d + 1) none mX11_lives (0, 0) 16 [.null, .null, .null] st h (QZ z)) st (fun s0 q => tX11_lives_16 s0 h q) q) q)
    kRZ_ok (Or.inr rfl) (by decide +kernel) (by decide +kernel) hf
def wX11_lives_8 : List En := [(.ifCond .ne 7, 15, 0, 0)]
def fX11_lives_8 (s0 : Int32) (h : aH) : Option (Int32 × aH) :=
  if s0 = 0 then fX11_lives_11 h else fX11_lives_15 h
theorem tX11_lives_8 {d : Nat} {z : Int32 × aH} (s0 : Int32) (h : aH) (hf : fX11_lives_8 s0 h = some z) : Ev (d + 1) none mX11_lives (0, 0) 8 [.null, .null, .null] [.int s0] h (QZ z) := 
  go_ok (X := none) (blk := wX11_lives_8) (np := 11) (tt := 15) (kN := fun xs h st => app [0, 0, 0] (apS [] (fX11_lives_11 h) st) xs) (kT := fun xs h st => app [0, 0, 0] (apS [] (fX11_lives_15 h) st) xs) (kR := kRZ)
    (fun xs h st q => jm [0, 0, 0] _ (fun q => apS_ok [] _ (fun st => Ev (d + 1) none mX11_lives (0, 0) 11 [.null, .null, .null] st h (QZ z)) st (fun q => tX11_lives_11 h q) q) q)
    (fun xs h st q => jm [0, 0, 0] _ (fun q => apS_ok [] _ (fun st => Ev (d + 1) none mX11_lives (0, 0) 15 [.null, .null, .null] st h (QZ z)) st (fun q => tX11_lives_15 h q) q) q)
    kRZ_ok (Or.inr rfl) (by decide +kernel) (by decide +kernel) hf
theorem kqX11_lives_5 : okC mX11_lives 5 (.invokestatic 245) 222 239 1 2 = true := by decide +kernel
def fX11_lives_5 (s0 : Int32) (s1 : Int32) (h : aH) : Option (Int32 × aH) :=
  (gX11_hasBit s1 s0 h).bind fun r =>
  fX11_lives_8 r.1 r.2
theorem tX11_lives_5 {d : Nat} {z : Int32 × aH} (s0 : Int32) (s1 : Int32) (h : aH) (hf : fX11_lives_5 s0 s1 h = some z) : Ev (d + 1) none mX11_lives (0, 0) 5 [.null, .null, .null] [.int s0, .int s1] h (QZ z) := by
  obtain ⟨r, h2, hf⟩ := bnd hf
  refine ev_S kqX11_lives_5 jX11_hasBit (zX11_hasBit (d := d + 0) h2) rfl (Nat.le_of_ble_eq_true rfl) rfl (as := [.int s1, .int s0]) (rest := []) rfl (Nat.le_of_ble_eq_true rfl) (fun _ _ hq => ?_)
  obtain ⟨-, rfl, rfl⟩ := hq
  exact jm [0, 0, 0] (fX11_lives_8 r.1 r.2) (fun q => tX11_lives_8 r.1 r.2 q) hf
def wX11_lives_0 : List En := [(.aload_n 1, 0, 0, 0), (.bipush 10, 0, 0, 0), (.iaload, 0, 0, 0), (.iload_n 2, 0, 0, 0)]
def fX11_lives_0 (v1 : Nat) (v2 : Int32) (h : aH) : Option (Int32 × aH) :=
  (aRI (h[v1]?) (kB 10)).bind fun t1 =>
  fX11_lives_5 v2 t1 h
theorem tX11_lives_0 {d : Nat} {z : Int32 × aH} (v1 : Nat) (v2 : Int32) (h : aH) (hf : fX11_lives_0 v1 v2 h = some z) : Ev (d + 1) none mX11_lives (0, 0) 0 [.null, .ref v1, .int v2] [] h (QZ z) := 
  go_ok (X := none) (blk := wX11_lives_0) (np := 5) (tt := 0) (kN := fun xs h st => app [0, 0, 0] (apS [1, 1] (fun s0 s1 => fX11_lives_5 s0 s1 h) st) xs) (kT := fun _ _ _ => none) (kR := kRZ)
    (fun xs h st q => jm [0, 0, 0] _ (fun q => apS_ok [1, 1] _ (fun st => Ev (d + 1) none mX11_lives (0, 0) 5 [.null, .null, .null] st h (QZ z)) st (fun s0 s1 q => tX11_lives_5 s0 s1 h q) q) q)
    (fun _ _ _ q => nos q)
    kRZ_ok (Or.inr rfl) (by decide +kernel) (by decide +kernel) hf
def gX11_lives (v0 : Nat) (v1 : Nat) (v2 : Int32) (h : aH) : Option (Int32 × aH) := fX11_lives_0 v1 v2 h
theorem zX11_lives {d : Nat} {z : Int32 × aH} {v0 : Nat} {v1 : Nat} {v2 : Int32} {h : aH} (q : gX11_lives v0 v1 v2 h = some z) : CT (d + 1) mX11_lives (0, 0) [.ref v0, .ref v1, .int v2] h (QZ z) :=
  ct_ev (by decide +kernel) (Nat.le_of_ble_eq_true rfl) QZ_r (jm [0, 2, 1] (fun v1 v2 => fX11_lives_0 v1 v2 h) (fun v1 v2 q => tX11_lives_0 v1 v2 h q) q)
def wX11_dawn_60 : List En := [(.return_, 0, 0, 0)]
def fX11_dawn_60 (h : aH) : Option (aH) :=
  some h
theorem tX11_dawn_60 {d : Nat} {z : aH} (h : aH) (hf : fX11_dawn_60 h = some z) : Ev (d + 2) none mX11_dawn (0, 0) 60 [.null, .null] [] h (QV z) := 
  go_ok (X := none) (blk := wX11_dawn_60) (np := 61) (tt := 0) (kN := fun _ _ _ => none) (kT := fun _ _ _ => none) (kR := kRV)
    (fun _ _ _ q => nos q)
    (fun _ _ _ q => nos q)
    kRV_ok (Or.inr rfl) (by decide +kernel) (by decide +kernel) hf
def wX11_dawn_52 : List En := [(.iadd, 0, 0, 0), (.iastore, 0, 0, 0), (.iinc 1 1, 0, 0, 0), (.goto (-51), 6, 0, 0)]
def fX11_dawn_52 (k6 : Nat → Int32 → aH → Option (aH)) (v0 : Nat) (v1 : Int32) (s0 : Int32) (s1 : Int32) (s2 : Int32) (s3 : Nat) (h : aH) : Option (aH) :=
  (aWI h s3 s2 (s1 + s0)).bind fun h1 =>
  k6 v0 (v1 + kI 1) h1
theorem tX11_dawn_52 {d : Nat} {z : aH} {k6 : Nat → Int32 → aH → Option (aH)} (hk6 : ∀ (v0 : Nat) (v1 : Int32) (h : aH), k6 v0 v1 h = some z → Ev (d + 2) none mX11_dawn (0, 0) 6 [.ref v0, .int v1] [] h (QV z)) (v0 : Nat) (v1 : Int32) (s0 : Int32) (s1 : Int32) (s2 : Int32) (s3 : Nat) (h : aH) (hf : fX11_dawn_52 k6 v0 v1 s0 s1 s2 s3 h = some z) : Ev (d + 2) none mX11_dawn (0, 0) 52 [.ref v0, .int v1] [.int s0, .int s1, .int s2, .ref s3] h (QV z) := 
  go_ok (X := none) (blk := wX11_dawn_52) (np := 60) (tt := 6) (kN := fun _ _ _ => none) (kT := fun xs h st => app [2, 1] (fun v0 v1 => apS [] (k6 v0 v1 h) st) xs) (kR := kRV)
    (fun _ _ _ q => nos q)
    (fun xs h st q => jm [2, 1] _ (fun v0 v1 q => apS_ok [] _ (fun st => Ev (d + 2) none mX11_dawn (0, 0) 6 [.ref v0, .int v1] st h (QV z)) st (fun q => hk6 v0 v1 h q) q) q)
    kRV_ok (Or.inr rfl) (by decide +kernel) (by decide +kernel) hf
def wX11_dawn_51 : List En := [(.iconst 0, 0, 0, 0)]
def fX11_dawn_51 (k6 : Nat → Int32 → aH → Option (aH)) (v0 : Nat) (v1 : Int32) (s0 : Int32) (s1 : Int32) (s2 : Nat) (h : aH) : Option (aH) :=
  fX11_dawn_52 k6 v0 v1 (kI 0) s0 s1 s2 h
theorem tX11_dawn_51 {d : Nat} {z : aH} {k6 : Nat → Int32 → aH → Option (aH)} (hk6 : ∀ (v0 : Nat) (v1 : Int32) (h : aH), k6 v0 v1 h = some z → Ev (d + 2) none mX11_dawn (0, 0) 6 [.ref v0, .int v1] [] h (QV z)) (v0 : Nat) (v1 : Int32) (s0 : Int32) (s1 : Int32) (s2 : Nat) (h : aH) (hf : fX11_dawn_51 k6 v0 v1 s0 s1 s2 h = some z) : Ev (d + 2) none mX11_dawn (0, 0) 51 [.ref v0, .int v1] [.int s0, .int s1, .ref s2] h (QV z) := 
  go_ok (X := none) (blk := wX11_dawn_51) (np := 52) (tt := 0) (kN := fun xs h st => app [2, 1] (fun v0 v1 => apS [1, 1, 1, 2] (fun s0 s1 s2 s3 => fX11_dawn_52 k6 v0 v1 s0 s1 s2 s3 h) st) xs) (kT := fun _ _ _ => none) (kR := kRV)
    (fun xs h st q => jm [2, 1] _ (fun v0 v1 q => apS_ok [1, 1, 1, 2] _ (fun st => Ev (d + 2) none mX11_dawn (0, 0) 52 [.ref v0, .int v1] st h (QV z)) st (fun s0 s1 s2 s3 q => tX11_dawn_52 hk6 v0 v1 s0 s1 s2 s3 h q) q) q)
    (fun _ _ _ q => nos q)
    kRV_ok (Or.inr rfl) (by decide +kernel) (by decide +kernel) hf
def wX11_dawn_35 : List En := [(.aload_n 0, 0, 0, 0), (.getfield 20, 190, 11, 15), (.bipush 9, 0, 0, 0), (.iconst 2, 0, 0, 0), (.iload_n 1, 0, 0, 0), (.imul, 0, 0, 0), (.iadd, 0, 0, 0), (.iconst 1, 0, 0, 0), (.iadd, 0, 0, 0), (.iaload, 0, 0, 0), (.goto 4, 52, 0, 0)]
def fX11_dawn_35 (k6 : Nat → Int32 → aH → Option (aH)) (v0 : Nat) (v1 : Int32) (s0 : Int32) (s1 : Int32) (s2 : Nat) (h : aH) : Option (aH) :=
  (gFR h 11 v0 15).bind fun t1 =>
  (aRI (h[t1]?) (((kB 9) + ((kI 2) * v1)) + (kI 1))).bind fun t2 =>
  fX11_dawn_52 k6 v0 v1 t2 s0 s1 s2 h
theorem tX11_dawn_35 {d : Nat} {z : aH} {k6 : Nat → Int32 → aH → Option (aH)} (hk6 : ∀ (v0 : Nat) (v1 : Int32) (h : aH), k6 v0 v1 h = some z → Ev (d + 2) none mX11_dawn (0, 0) 6 [.ref v0, .int v1] [] h (QV z)) (v0 : Nat) (v1 : Int32) (s0 : Int32) (s1 : Int32) (s2 : Nat) (h : aH) (hf : fX11_dawn_35 k6 v0 v1 s0 s1 s2 h = some z) : Ev (d + 2) none mX11_dawn (0, 0) 35 [.ref v0, .int v1] [.int s0, .int s1, .ref s2] h (QV z) := 
  go_ok (X := none) (blk := wX11_dawn_35) (np := 51) (tt := 52) (kN := fun _ _ _ => none) (kT := fun xs h st => app [2, 1] (fun v0 v1 => apS [1, 1, 1, 2] (fun s0 s1 s2 s3 => fX11_dawn_52 k6 v0 v1 s0 s1 s2 s3 h) st) xs) (kR := kRV)
    (fun _ _ _ q => nos q)
    (fun xs h st q => jm [2, 1] _ (fun v0 v1 q => apS_ok [1, 1, 1, 2] _ (fun st => Ev (d + 2) none mX11_dawn (0, 0) 52 [.ref v0, .int v1] st h (QV z)) st (fun s0 s1 s2 s3 q => tX11_dawn_52 hk6 v0 v1 s0 s1 s2 s3 h q) q) q)
    kRV_ok (Or.inr rfl) (by decide +kernel) (by decide +kernel) hf
def wX11_dawn_32 : List En := [(.ifCond .eq 19, 51, 0, 0)]
def fX11_dawn_32 (k6 : Nat → Int32 → aH → Option (aH)) (v0 : Nat) (v1 : Int32) (s0 : Int32) (s1 : Int32) (s2 : Int32) (s3 : Nat) (h : aH) : Option (aH) :=
  if s0 = 0 then fX11_dawn_51 k6 v0 v1 s1 s2 s3 h else fX11_dawn_35 k6 v0 v1 s1 s2 s3 h
theorem tX11_dawn_32 {d : Nat} {z : aH} {k6 : Nat → Int32 → aH → Option (aH)} (hk6 : ∀ (v0 : Nat) (v1 : Int32) (h : aH), k6 v0 v1 h = some z → Ev (d + 2) none mX11_dawn (0, 0) 6 [.ref v0, .int v1] [] h (QV z)) (v0 : Nat) (v1 : Int32) (s0 : Int32) (s1 : Int32) (s2 : Int32) (s3 : Nat) (h : aH) (hf : fX11_dawn_32 k6 v0 v1 s0 s1 s2 s3 h = some z) : Ev (d + 2) none mX11_dawn (0, 0) 32 [.ref v0, .int v1] [.int s0, .int s1, .int s2, .ref s3] h (QV z) := 
  go_ok (X := none) (blk := wX11_dawn_32) (np := 35) (tt := 51) (kN := fun xs h st => app [2, 1] (fun v0 v1 => apS [1, 1, 2] (fun s0 s1 s2 => fX11_dawn_35 k6 v0 v1 s0 s1 s2 h) st) xs) (kT := fun xs h st => app [2, 1] (fun v0 v1 => apS [1, 1, 2] (fun s0 s1 s2 => fX11_dawn_51 k6 v0 v1 s0 s1 s2 h) st) xs) (kR := kRV)
    (fun xs h st q => jm [2, 1] _ (fun v0 v1 q => apS_ok [1, 1, 2] _ (fun st => Ev (d + 2) none mX11_dawn (0, 0) 35 [.ref v0, .int v1] st h (QV z)) st (fun s0 s1 s2 q => tX11_dawn_35 hk6 v0 v1 s0 s1 s2 h q) q) q)
    (fun xs h st q => jm [2, 1] _ (fun v0 v1 q => apS_ok [1, 1, 2] _ (fun st => Ev (d + 2) none mX11_dawn (0, 0) 51 [.ref v0, .int v1] st h (QV z)) st (fun s0 s1 s2 q => tX11_dawn_51 hk6 v0 v1 s0 s1 s2 h q) q) q)
    kRV_ok (Or.inr rfl) (by decide +kernel) (by decide +kernel) hf
theorem kqX11_dawn_29 : okC mX11_dawn 29 (.invokevirtual 249) 221 238 0 2 = true := by decide +kernel
def fX11_dawn_29 (k6 : Nat → Int32 → aH → Option (aH)) (v0 : Nat) (v1 : Int32) (s0 : Int32) (s1 : Nat) (s2 : Nat) (s3 : Int32) (s4 : Int32) (s5 : Nat) (h : aH) : Option (aH) :=
  (isO h 11 s2).bind fun _ =>
  (gX11_lives s2 s1 s0 h).bind fun r =>
  fX11_dawn_32 k6 v0 v1 r.1 s3 s4 s5 r.2
theorem tX11_dawn_29 {d : Nat} {z : aH} {k6 : Nat → Int32 → aH → Option (aH)} (hk6 : ∀ (v0 : Nat) (v1 : Int32) (h : aH), k6 v0 v1 h = some z → Ev (d + 2) none mX11_dawn (0, 0) 6 [.ref v0, .int v1] [] h (QV z)) (v0 : Nat) (v1 : Int32) (s0 : Int32) (s1 : Nat) (s2 : Nat) (s3 : Int32) (s4 : Int32) (s5 : Nat) (h : aH) (hf : fX11_dawn_29 k6 v0 v1 s0 s1 s2 s3 s4 s5 h = some z) : Ev (d + 2) none mX11_dawn (0, 0) 29 [.ref v0, .int v1] [.int s0, .ref s1, .ref s2, .int s3, .int s4, .ref s5] h (QV z) := by
  obtain ⟨_, h1, hf⟩ := bnd hf
  obtain ⟨fs, ho⟩ := isO_ok h1
  obtain ⟨r, h2, hf⟩ := bnd hf
  refine ev_V kqX11_dawn_29 jX11_lives (zX11_lives (d := d + 0) h2) ho rfl rfl (Nat.le_of_ble_eq_true rfl) rfl (as := [.ref s1, .int s0]) (rest := [.int s3, .int s4, .ref s5]) rfl (Nat.le_of_ble_eq_true rfl) (fun _ _ hq => ?_)
  obtain ⟨-, rfl, rfl⟩ := hq
  exact jm [2, 1] (fun v0 v1 => fX11_dawn_32 k6 v0 v1 r.1 s3 s4 s5 r.2) (fun v0 v1 q => tX11_dawn_32 hk6 v0 v1 r.1 s3 s4 s5 r.2 q) hf
def wX11_dawn_16 : List En := [(.aload_n 0, 0, 0, 0), (.getfield 35, 195, 11, 20), (.iload_n 1, 0, 0, 0), (.dup2, 0, 0, 0), (.iaload, 0, 0, 0), (.aload_n 0, 0, 0, 0), (.aload_n 0, 0, 0, 0), (.getfield 35, 195, 11, 20), (.iload_n 1, 0, 0, 0)]
def fX11_dawn_16 (k6 : Nat → Int32 → aH → Option (aH)) (v0 : Nat) (v1 : Int32) (h : aH) : Option (aH) :=
  (gFR h 11 v0 20).bind fun t1 =>
  (aRI (h[t1]?) v1).bind fun t2 =>
  (gFR h 11 v0 20).bind fun t3 =>
  fX11_dawn_29 k6 v0 v1 v1 t3 v0 t2 v1 t1 h
theorem tX11_dawn_16 {d : Nat} {z : aH} {k6 : Nat → Int32 → aH → Option (aH)} (hk6 : ∀ (v0 : Nat) (v1 : Int32) (h : aH), k6 v0 v1 h = some z → Ev (d + 2) none mX11_dawn (0, 0) 6 [.ref v0, .int v1] [] h (QV z)) (v0 : Nat) (v1 : Int32) (h : aH) (hf : fX11_dawn_16 k6 v0 v1 h = some z) : Ev (d + 2) none mX11_dawn (0, 0) 16 [.ref v0, .int v1] [] h (QV z) := 
  go_ok (X := none) (blk := wX11_dawn_16) (np := 29) (tt := 0) (kN := fun xs h st => app [2, 1] (fun v0 v1 => apS [1, 2, 2, 1, 1, 2] (fun s0 s1 s2 s3 s4 s5 => fX11_dawn_29 k6 v0 v1 s0 s1 s2 s3 s4 s5 h) st) xs) (kT := fun _ _ _ => none) (kR := kRV)
    (fun xs h st q => jm [2, 1] _ (fun v0 v1 q => apS_ok [1, 2, 2, 1, 1, 2] _ (fun st => Ev (d + 2) none mX11_dawn (0, 0) 29 [.ref v0, .int v1] st h (QV z)) st (fun s0 s1 s2 s3 s4 s5 q => tX11_dawn_29 hk6 v0 v1 s0 s1 s2 s3 s4 s5 h q) q) q)
    (fun _ _ _ q => nos q)
    kRV_ok (Or.inr rfl) (by decide +kernel) (by decide +kernel) hf
def wX11_dawn_6 : List En := [(.iload_n 1, 0, 0, 0), (.aload_n 0, 0, 0, 0), (.getfield 20, 190, 11, 15), (.iconst 3, 0, 0, 0), (.iaload, 0, 0, 0), (.if_icmp .ge 47, 60, 0, 0)]
def fX11_dawn_6 (k6 : Nat → Int32 → aH → Option (aH)) (v0 : Nat) (v1 : Int32) (h : aH) : Option (aH) :=
  (gFR h 11 v0 15).bind fun t1 =>
  (aRI (h[t1]?) (kI 3)).bind fun t2 =>
  if v1 < t2 then fX11_dawn_16 k6 v0 v1 h else fX11_dawn_60 h
theorem tX11_dawn_6 {d : Nat} {z : aH} {k6 : Nat → Int32 → aH → Option (aH)} (hk6 : ∀ (v0 : Nat) (v1 : Int32) (h : aH), k6 v0 v1 h = some z → Ev (d + 2) none mX11_dawn (0, 0) 6 [.ref v0, .int v1] [] h (QV z)) (v0 : Nat) (v1 : Int32) (h : aH) (hf : fX11_dawn_6 k6 v0 v1 h = some z) : Ev (d + 2) none mX11_dawn (0, 0) 6 [.ref v0, .int v1] [] h (QV z) := 
  go_ok (X := none) (blk := wX11_dawn_6) (np := 16) (tt := 60) (kN := fun xs h st => app [2, 1] (fun v0 v1 => apS [] (fX11_dawn_16 k6 v0 v1 h) st) xs) (kT := fun xs h st => app [0, 0] (apS [] (fX11_dawn_60 h) st) xs) (kR := kRV)
    (fun xs h st q => jm [2, 1] _ (fun v0 v1 q => apS_ok [] _ (fun st => Ev (d + 2) none mX11_dawn (0, 0) 16 [.ref v0, .int v1] st h (QV z)) st (fun q => tX11_dawn_16 hk6 v0 v1 h q) q) q)
    (fun xs h st q => jm [0, 0] _ (fun q => apS_ok [] _ (fun st => Ev (d + 2) none mX11_dawn (0, 0) 60 [.null, .null] st h (QV z)) st (fun q => tX11_dawn_60 h q) q) q)
    kRV_ok (Or.inr rfl) (by decide +kernel) (by decide +kernel) hf
def lX11_dawn_6 : Nat → Nat → Int32 → aH → Option (aH)
  | 0, _, _, _ => none
  | n + 1, v0, v1, h => fX11_dawn_6 (lX11_dawn_6 n) v0 v1 h
theorem uX11_dawn_6 {d : Nat} {z : aH} : ∀ (n : Nat) (v0 : Nat) (v1 : Int32) (h : aH), lX11_dawn_6 n v0 v1 h = some z → Ev (d + 2) none mX11_dawn (0, 0) 6 [.ref v0, .int v1] [] h (QV z) := by
  intro n
  induction n with
  | zero => intro _ _ _ q; exact nos (show (none : Option (aH)) = some z from q)
  | succ n ih => intro v0 v1 h q; exact tX11_dawn_6 ih v0 v1 h q
def wX11_dawn_4 : List En := [(.iconst 0, 0, 0, 0), (.istore_n 1, 0, 0, 0)]
def fX11_dawn_4 (v0 : Nat) (h : aH) : Option (aH) :=
  lX11_dawn_6 FU v0 (kI 0) h
theorem tX11_dawn_4 {d : Nat} {z : aH} (v0 : Nat) (h : aH) (hf : fX11_dawn_4 v0 h = some z) : Ev (d + 2) none mX11_dawn (0, 0) 4 [.ref v0, .null] [] h (QV z) := 
  go_ok (X := none) (blk := wX11_dawn_4) (np := 6) (tt := 0) (kN := fun xs h st => app [2, 1] (fun v0 v1 => apS [] (lX11_dawn_6 FU v0 v1 h) st) xs) (kT := fun _ _ _ => none) (kR := kRV)
    (fun xs h st q => jm [2, 1] _ (fun v0 v1 q => apS_ok [] _ (fun st => Ev (d + 2) none mX11_dawn (0, 0) 6 [.ref v0, .int v1] st h (QV z)) st (fun q => uX11_dawn_6 FU v0 v1 h q) q) q)
    (fun _ _ _ q => nos q)
    kRV_ok (Or.inr rfl) (by decide +kernel) (by decide +kernel) hf
theorem kqX11_dawn_1 : okC mX11_dawn 1 (.invokevirtual 278) 220 237 0 0 = true := by decide +kernel
def fX11_dawn_1 (v0 : Nat) (s0 : Nat) (h : aH) : Option (aH) :=
  (isO h 11 s0).bind fun _ =>
  (gX11_begin s0 h).bind fun r =>
  fX11_dawn_4 v0 r
theorem tX11_dawn_1 {d : Nat} {z : aH} (v0 : Nat) (s0 : Nat) (h : aH) (hf : fX11_dawn_1 v0 s0 h = some z) : Ev (d + 2) none mX11_dawn (0, 0) 1 [.ref v0, .null] [.ref s0] h (QV z) := by
  obtain ⟨_, h1, hf⟩ := bnd hf
  obtain ⟨fs, ho⟩ := isO_ok h1
  obtain ⟨r, h2, hf⟩ := bnd hf
  refine ev_V kqX11_dawn_1 jX11_begin (zX11_begin (d := d + 0) h2) ho rfl rfl (Nat.le_of_ble_eq_true rfl) rfl (as := []) (rest := []) rfl (Nat.le_of_ble_eq_true rfl) (fun _ _ hq => ?_)
  obtain ⟨rfl, hh⟩ := hq
  rw [hh]
  exact jm [2, 0] (fun v0 => fX11_dawn_4 v0 r) (fun v0 q => tX11_dawn_4 v0 r q) hf
def wX11_dawn_0 : List En := [(.aload_n 0, 0, 0, 0)]
def fX11_dawn_0 (v0 : Nat) (h : aH) : Option (aH) :=
  fX11_dawn_1 v0 v0 h
theorem tX11_dawn_0 {d : Nat} {z : aH} (v0 : Nat) (h : aH) (hf : fX11_dawn_0 v0 h = some z) : Ev (d + 2) none mX11_dawn (0, 0) 0 [.ref v0, .null] [] h (QV z) := 
  go_ok (X := none) (blk := wX11_dawn_0) (np := 1) (tt := 0) (kN := fun xs h st => app [2, 0] (fun v0 => apS [2] (fun s0 => fX11_dawn_1 v0 s0 h) st) xs) (kT := fun _ _ _ => none) (kR := kRV)
    (fun xs h st q => jm [2, 0] _ (fun v0 q => apS_ok [2] _ (fun st => Ev (d + 2) none mX11_dawn (0, 0) 1 [.ref v0, .null] st h (QV z)) st (fun s0 q => tX11_dawn_1 v0 s0 h q) q) q)
    (fun _ _ _ q => nos q)
    kRV_ok (Or.inr rfl) (by decide +kernel) (by decide +kernel) hf
def gX11_dawn (v0 : Nat) (h : aH) : Option (aH) := fX11_dawn_0 v0 h
theorem zX11_dawn {d : Nat} {z : aH} {v0 : Nat} {h : aH} (q : gX11_dawn v0 h = some z) : CT (d + 2) mX11_dawn (0, 0) [.ref v0] h (QV z) :=
  ct_ev (by decide +kernel) (Nat.le_of_ble_eq_true rfl) QV_r (jm [2, 0] (fun v0 => fX11_dawn_0 v0 h) (fun v0 q => tX11_dawn_0 v0 h q) q)
def wX11_seenOf_44 : List En := [(.ireturn, 0, 0, 0)]
def fX11_seenOf_44 (s0 : Int32) (h : aH) : Option (Int32 × aH) :=
  some (s0, h)
theorem tX11_seenOf_44 {d : Nat} {z : Int32 × aH} (s0 : Int32) (h : aH) (hf : fX11_seenOf_44 s0 h = some z) : Ev (d + 0) none mX11_seenOf (0, 0) 44 [.null, .null, .null, .null, .null] [.int s0] h (QI z) := 
  go_ok (X := none) (blk := wX11_seenOf_44) (np := 45) (tt := 0) (kN := fun _ _ _ => none) (kT := fun _ _ _ => none) (kR := kRI)
    (fun _ _ _ q => nos q)
    (fun _ _ _ q => nos q)
    kRI_ok (Or.inr rfl) (by decide +kernel) (by decide +kernel) hf
def wX11_seenOf_43 : List En := [(.iload_n 3, 0, 0, 0)]
def fX11_seenOf_43 (v3 : Int32) (h : aH) : Option (Int32 × aH) :=
  fX11_seenOf_44 v3 h
theorem tX11_seenOf_43 {d : Nat} {z : Int32 × aH} (v3 : Int32) (h : aH) (hf : fX11_seenOf_43 v3 h = some z) : Ev (d + 0) none mX11_seenOf (0, 0) 43 [.null, .null, .null, .int v3, .null] [] h (QI z) := 
  go_ok (X := none) (blk := wX11_seenOf_43) (np := 44) (tt := 0) (kN := fun xs h st => app [0, 0, 0, 0, 0] (apS [1] (fun s0 => fX11_seenOf_44 s0 h) st) xs) (kT := fun _ _ _ => none) (kR := kRI)
    (fun xs h st q => jm [0, 0, 0, 0, 0] _ (fun q => apS_ok [1] _ (fun st => Ev (d + 0) none mX11_seenOf (0, 0) 44 [.null, .null, .null, .null, .null] st h (QI z)) st (fun s0 q => tX11_seenOf_44 s0 h q) q) q)
    (fun _ _ _ q => nos q)
    kRI_ok (Or.inr rfl) (by decide +kernel) (by decide +kernel) hf
def wX11_seenOf_37 : List En := [(.iconst 2, 0, 0, 0), (.iload_n 3, 0, 0, 0), (.imul, 0, 0, 0), (.goto 4, 44, 0, 0)]
def fX11_seenOf_37 (v3 : Int32) (h : aH) : Option (Int32 × aH) :=
  fX11_seenOf_44 ((kI 2) * v3) h
theorem tX11_seenOf_37 {d : Nat} {z : Int32 × aH} (v3 : Int32) (h : aH) (hf : fX11_seenOf_37 v3 h = some z) : Ev (d + 0) none mX11_seenOf (0, 0) 37 [.null, .null, .null, .int v3, .null] [] h (QI z) := 
  go_ok (X := none) (blk := wX11_seenOf_37) (np := 43) (tt := 44) (kN := fun _ _ _ => none) (kT := fun xs h st => app [0, 0, 0, 0, 0] (apS [1] (fun s0 => fX11_seenOf_44 s0 h) st) xs) (kR := kRI)
    (fun _ _ _ q => nos q)
    (fun xs h st q => jm [0, 0, 0, 0, 0] _ (fun q => apS_ok [1] _ (fun st => Ev (d + 0) none mX11_seenOf (0, 0) 44 [.null, .null, .null, .null, .null] st h (QI z)) st (fun s0 q => tX11_seenOf_44 s0 h q) q) q)
    kRI_ok (Or.inr rfl) (by decide +kernel) (by decide +kernel) hf
def wX11_seenOf_31 : List En := [(.iload 4, 0, 0, 0), (.iconst 2, 0, 0, 0), (.if_icmp .ne 9, 43, 0, 0)]
def fX11_seenOf_31 (v3 : Int32) (v4 : Int32) (h : aH) : Option (Int32 × aH) :=
  if v4 = (kI 2) then fX11_seenOf_37 v3 h else fX11_seenOf_43 v3 h
theorem tX11_seenOf_31 {d : Nat} {z : Int32 × aH} (v3 : Int32) (v4 : Int32) (h : aH) (hf : fX11_seenOf_31 v3 v4 h = some z) : Ev (d + 0) none mX11_seenOf (0, 0) 31 [.null, .null, .null, .int v3, .int v4] [] h (QI z) := 
  go_ok (X := none) (blk := wX11_seenOf_31) (np := 37) (tt := 43) (kN := fun xs h st => app [0, 0, 0, 1, 0] (fun v3 => apS [] (fX11_seenOf_37 v3 h) st) xs) (kT := fun xs h st => app [0, 0, 0, 1, 0] (fun v3 => apS [] (fX11_seenOf_43 v3 h) st) xs) (kR := kRI)
    (fun xs h st q => jm [0, 0, 0, 1, 0] _ (fun v3 q => apS_ok [] _ (fun st => Ev (d + 0) none mX11_seenOf (0, 0) 37 [.null, .null, .null, .int v3, .null] st h (QI z)) st (fun q => tX11_seenOf_37 v3 h q) q) q)
    (fun xs h st q => jm [0, 0, 0, 1, 0] _ (fun v3 q => apS_ok [] _ (fun st => Ev (d + 0) none mX11_seenOf (0, 0) 43 [.null, .null, .null, .int v3, .null] st h (QI z)) st (fun q => tX11_seenOf_43 v3 h q) q) q)
    kRI_ok (Or.inr rfl) (by decide +kernel) (by decide +kernel) hf
def wX11_seenOf_19 : List En := [(.iload_n 3, 0, 0, 0), (.iconst 3, 0, 0, 0), (.aload_n 1, 0, 0, 0), (.iconst 5, 0, 0, 0), (.iload_n 2, 0, 0, 0), (.iadd, 0, 0, 0), (.iaload, 0, 0, 0), (.imul, 0, 0, 0), (.iadd, 0, 0, 0), (.goto 16, 44, 0, 0)]
def fX11_seenOf_19 (v1 : Nat) (v2 : Int32) (v3 : Int32) (h : aH) : Option (Int32 × aH) :=
  (aRI (h[v1]?) ((kI 5) + v2)).bind fun t1 =>
  fX11_seenOf_44 (v3 + ((kI 3) * t1)) h
theorem tX11_seenOf_19 {d : Nat} {z : Int32 × aH} (v1 : Nat) (v2 : Int32) (v3 : Int32) (h : aH) (hf : fX11_seenOf_19 v1 v2 v3 h = some z) : Ev (d + 0) none mX11_seenOf (0, 0) 19 [.null, .ref v1, .int v2, .int v3, .null] [] h (QI z) := 
  go_ok (X := none) (blk := wX11_seenOf_19) (np := 31) (tt := 44) (kN := fun _ _ _ => none) (kT := fun xs h st => app [0, 0, 0, 0, 0] (apS [1] (fun s0 => fX11_seenOf_44 s0 h) st) xs) (kR := kRI)
    (fun _ _ _ q => nos q)
    (fun xs h st q => jm [0, 0, 0, 0, 0] _ (fun q => apS_ok [1] _ (fun st => Ev (d + 0) none mX11_seenOf (0, 0) 44 [.null, .null, .null, .null, .null] st h (QI z)) st (fun s0 q => tX11_seenOf_44 s0 h q) q) q)
    kRI_ok (Or.inr rfl) (by decide +kernel) (by decide +kernel) hf
def wX11_seenOf_0 : List En := [(.aload_n 0, 0, 0, 0), (.getfield 20, 190, 11, 15), (.bipush 9, 0, 0, 0), (.iconst 2, 0, 0, 0), (.iload_n 2, 0, 0, 0), (.imul, 0, 0, 0), (.iadd, 0, 0, 0), (.iaload, 0, 0, 0), (.istore 4, 0, 0, 0), (.iload 4, 0, 0, 0), (.iconst 1, 0, 0, 0), (.if_icmp .ne 15, 31, 0, 0)]
def fX11_seenOf_0 (v0 : Nat) (v1 : Nat) (v2 : Int32) (v3 : Int32) (h : aH) : Option (Int32 × aH) :=
  (gFR h 11 v0 15).bind fun t1 =>
  (aRI (h[t1]?) ((kB 9) + ((kI 2) * v2))).bind fun t2 =>
  if t2 = (kI 1) then fX11_seenOf_19 v1 v2 v3 h else fX11_seenOf_31 v3 t2 h
theorem tX11_seenOf_0 {d : Nat} {z : Int32 × aH} (v0 : Nat) (v1 : Nat) (v2 : Int32) (v3 : Int32) (h : aH) (hf : fX11_seenOf_0 v0 v1 v2 v3 h = some z) : Ev (d + 0) none mX11_seenOf (0, 0) 0 [.ref v0, .ref v1, .int v2, .int v3, .null] [] h (QI z) := 
  go_ok (X := none) (blk := wX11_seenOf_0) (np := 19) (tt := 31) (kN := fun xs h st => app [0, 2, 1, 1, 0] (fun v1 v2 v3 => apS [] (fX11_seenOf_19 v1 v2 v3 h) st) xs) (kT := fun xs h st => app [0, 0, 0, 1, 1] (fun v3 v4 => apS [] (fX11_seenOf_31 v3 v4 h) st) xs) (kR := kRI)
    (fun xs h st q => jm [0, 2, 1, 1, 0] _ (fun v1 v2 v3 q => apS_ok [] _ (fun st => Ev (d + 0) none mX11_seenOf (0, 0) 19 [.null, .ref v1, .int v2, .int v3, .null] st h (QI z)) st (fun q => tX11_seenOf_19 v1 v2 v3 h q) q) q)
    (fun xs h st q => jm [0, 0, 0, 1, 1] _ (fun v3 v4 q => apS_ok [] _ (fun st => Ev (d + 0) none mX11_seenOf (0, 0) 31 [.null, .null, .null, .int v3, .int v4] st h (QI z)) st (fun q => tX11_seenOf_31 v3 v4 h q) q) q)
    kRI_ok (Or.inr rfl) (by decide +kernel) (by decide +kernel) hf
def gX11_seenOf (v0 : Nat) (v1 : Nat) (v2 : Int32) (v3 : Int32) (h : aH) : Option (Int32 × aH) := fX11_seenOf_0 v0 v1 v2 v3 h
theorem zX11_seenOf {d : Nat} {z : Int32 × aH} {v0 : Nat} {v1 : Nat} {v2 : Int32} {v3 : Int32} {h : aH} (q : gX11_seenOf v0 v1 v2 v3 h = some z) : CT (d + 0) mX11_seenOf (0, 0) [.ref v0, .ref v1, .int v2, .int v3] h (QI z) :=
  ct_ev (by decide +kernel) (Nat.le_of_ble_eq_true rfl) QI_r (jm [2, 2, 1, 1, 0] (fun v0 v1 v2 v3 => fX11_seenOf_0 v0 v1 v2 v3 h) (fun v0 v1 v2 v3 q => tX11_seenOf_0 v0 v1 v2 v3 h q) q)
def wX11_seen_54 : List En := [(.ireturn, 0, 0, 0)]
def fX11_seen_54 (s0 : Int32) (h : aH) : Option (Int32 × aH) :=
  some (s0, h)
theorem tX11_seen_54 {d : Nat} {z : Int32 × aH} (s0 : Int32) (h : aH) (hf : fX11_seen_54 s0 h = some z) : Ev (d + 3) none mX11_seen (0, 0) 54 [.null, .null] [.int s0] h (QI z) := 
  go_ok (X := none) (blk := wX11_seen_54) (np := 55) (tt := 0) (kN := fun _ _ _ => none) (kT := fun _ _ _ => none) (kR := kRI)
    (fun _ _ _ q => nos q)
    (fun _ _ _ q => nos q)
    kRI_ok (Or.inr rfl) (by decide +kernel) (by decide +kernel) hf
def wX11_seen_52 : List En := [(.bipush (-2), 0, 0, 0)]
def fX11_seen_52 (h : aH) : Option (Int32 × aH) :=
  fX11_seen_54 (kB (-2)) h
theorem tX11_seen_52 {d : Nat} {z : Int32 × aH} (h : aH) (hf : fX11_seen_52 h = some z) : Ev (d + 3) none mX11_seen (0, 0) 52 [.null, .null] [] h (QI z) := 
  go_ok (X := none) (blk := wX11_seen_52) (np := 54) (tt := 0) (kN := fun xs h st => app [0, 0] (apS [1] (fun s0 => fX11_seen_54 s0 h) st) xs) (kT := fun _ _ _ => none) (kR := kRI)
    (fun xs h st q => jm [0, 0] _ (fun q => apS_ok [1] _ (fun st => Ev (d + 3) none mX11_seen (0, 0) 54 [.null, .null] st h (QI z)) st (fun s0 q => tX11_seen_54 s0 h q) q) q)
    (fun _ _ _ q => nos q)
    kRI_ok (Or.inr rfl) (by decide +kernel) (by decide +kernel) hf
def wX11_seen_49 : List En := [(.goto 5, 54, 0, 0)]
def fX11_seen_49 (s0 : Int32) (h : aH) : Option (Int32 × aH) :=
  fX11_seen_54 s0 h
theorem tX11_seen_49 {d : Nat} {z : Int32 × aH} (s0 : Int32) (h : aH) (hf : fX11_seen_49 s0 h = some z) : Ev (d + 3) none mX11_seen (0, 0) 49 [.null, .null] [.int s0] h (QI z) := 
  go_ok (X := none) (blk := wX11_seen_49) (np := 52) (tt := 54) (kN := fun _ _ _ => none) (kT := fun xs h st => app [0, 0] (apS [1] (fun s0 => fX11_seen_54 s0 h) st) xs) (kR := kRI)
    (fun _ _ _ q => nos q)
    (fun xs h st q => jm [0, 0] _ (fun q => apS_ok [1] _ (fun st => Ev (d + 3) none mX11_seen (0, 0) 54 [.null, .null] st h (QI z)) st (fun s0 q => tX11_seen_54 s0 h q) q) q)
    kRI_ok (Or.inr rfl) (by decide +kernel) (by decide +kernel) hf
theorem kqX11_seen_46 : okC mX11_seen 46 (.invokevirtual 253) 223 240 0 3 = true := by decide +kernel
def fX11_seen_46 (s0 : Int32) (s1 : Int32) (s2 : Nat) (s3 : Nat) (h : aH) : Option (Int32 × aH) :=
  (isO h 11 s3).bind fun _ =>
  (gX11_seenOf s3 s2 s1 s0 h).bind fun r =>
  fX11_seen_49 r.1 r.2
theorem tX11_seen_46 {d : Nat} {z : Int32 × aH} (s0 : Int32) (s1 : Int32) (s2 : Nat) (s3 : Nat) (h : aH) (hf : fX11_seen_46 s0 s1 s2 s3 h = some z) : Ev (d + 3) none mX11_seen (0, 0) 46 [.null, .null] [.int s0, .int s1, .ref s2, .ref s3] h (QI z) := by
  obtain ⟨_, h1, hf⟩ := bnd hf
  obtain ⟨fs, ho⟩ := isO_ok h1
  obtain ⟨r, h2, hf⟩ := bnd hf
  refine ev_V kqX11_seen_46 jX11_seenOf (zX11_seenOf (d := d + 2) h2) ho rfl rfl (Nat.le_of_ble_eq_true rfl) rfl (as := [.ref s2, .int s1, .int s0]) (rest := []) rfl (Nat.le_of_ble_eq_true rfl) (fun _ _ hq => ?_)
  obtain ⟨rfl, rfl⟩ := hq
  exact jm [0, 0] (fX11_seen_49 r.1 r.2) (fun q => tX11_seen_49 r.1 r.2 q) hf
def wX11_seen_34 : List En := [(.aload_n 0, 0, 0, 0), (.aload_n 0, 0, 0, 0), (.getfield 35, 195, 11, 20), (.iload_n 1, 0, 0, 0), (.aload_n 0, 0, 0, 0), (.getfield 35, 195, 11, 20), (.iload_n 1, 0, 0, 0), (.iaload, 0, 0, 0)]
def fX11_seen_34 (v0 : Nat) (v1 : Int32) (h : aH) : Option (Int32 × aH) :=
  (gFR h 11 v0 20).bind fun t1 =>
  (gFR h 11 v0 20).bind fun t2 =>
  (aRI (h[t2]?) v1).bind fun t3 =>
  fX11_seen_46 t3 v1 t1 v0 h
theorem tX11_seen_34 {d : Nat} {z : Int32 × aH} (v0 : Nat) (v1 : Int32) (h : aH) (hf : fX11_seen_34 v0 v1 h = some z) : Ev (d + 3) none mX11_seen (0, 0) 34 [.ref v0, .int v1] [] h (QI z) := 
  go_ok (X := none) (blk := wX11_seen_34) (np := 46) (tt := 0) (kN := fun xs h st => app [0, 0] (apS [1, 1, 2, 2] (fun s0 s1 s2 s3 => fX11_seen_46 s0 s1 s2 s3 h) st) xs) (kT := fun _ _ _ => none) (kR := kRI)
    (fun xs h st q => jm [0, 0] _ (fun q => apS_ok [1, 1, 2, 2] _ (fun st => Ev (d + 3) none mX11_seen (0, 0) 46 [.null, .null] st h (QI z)) st (fun s0 s1 s2 s3 q => tX11_seen_46 s0 s1 s2 s3 h q) q) q)
    (fun _ _ _ q => nos q)
    kRI_ok (Or.inr rfl) (by decide +kernel) (by decide +kernel) hf
def wX11_seen_31 : List En := [(.ifCond .eq 21, 52, 0, 0)]
def fX11_seen_31 (v0 : Nat) (v1 : Int32) (s0 : Int32) (h : aH) : Option (Int32 × aH) :=
  if s0 = 0 then fX11_seen_52 h else fX11_seen_34 v0 v1 h
theorem tX11_seen_31 {d : Nat} {z : Int32 × aH} (v0 : Nat) (v1 : Int32) (s0 : Int32) (h : aH) (hf : fX11_seen_31 v0 v1 s0 h = some z) : Ev (d + 3) none mX11_seen (0, 0) 31 [.ref v0, .int v1] [.int s0] h (QI z) := 
  go_ok (X := none) (blk := wX11_seen_31) (np := 34) (tt := 52) (kN := fun xs h st => app [2, 1] (fun v0 v1 => apS [] (fX11_seen_34 v0 v1 h) st) xs) (kT := fun xs h st => app [0, 0] (apS [] (fX11_seen_52 h) st) xs) (kR := kRI)
    (fun xs h st q => jm [2, 1] _ (fun v0 v1 q => apS_ok [] _ (fun st => Ev (d + 3) none mX11_seen (0, 0) 34 [.ref v0, .int v1] st h (QI z)) st (fun q => tX11_seen_34 v0 v1 h q) q) q)
    (fun xs h st q => jm [0, 0] _ (fun q => apS_ok [] _ (fun st => Ev (d + 3) none mX11_seen (0, 0) 52 [.null, .null] st h (QI z)) st (fun q => tX11_seen_52 h q) q) q)
    kRI_ok (Or.inr rfl) (by decide +kernel) (by decide +kernel) hf
theorem kqX11_seen_28 : okC mX11_seen 28 (.invokevirtual 249) 221 238 0 2 = true := by decide +kernel
def fX11_seen_28 (v0 : Nat) (v1 : Int32) (s0 : Int32) (s1 : Nat) (s2 : Nat) (h : aH) : Option (Int32 × aH) :=
  (isO h 11 s2).bind fun _ =>
  (gX11_lives s2 s1 s0 h).bind fun r =>
  fX11_seen_31 v0 v1 r.1 r.2
theorem tX11_seen_28 {d : Nat} {z : Int32 × aH} (v0 : Nat) (v1 : Int32) (s0 : Int32) (s1 : Nat) (s2 : Nat) (h : aH) (hf : fX11_seen_28 v0 v1 s0 s1 s2 h = some z) : Ev (d + 3) none mX11_seen (0, 0) 28 [.ref v0, .int v1] [.int s0, .ref s1, .ref s2] h (QI z) := by
  obtain ⟨_, h1, hf⟩ := bnd hf
  obtain ⟨fs, ho⟩ := isO_ok h1
  obtain ⟨r, h2, hf⟩ := bnd hf
  refine ev_V kqX11_seen_28 jX11_lives (zX11_lives (d := d + 1) h2) ho rfl rfl (Nat.le_of_ble_eq_true rfl) rfl (as := [.ref s1, .int s0]) (rest := []) rfl (Nat.le_of_ble_eq_true rfl) (fun _ _ hq => ?_)
  obtain ⟨-, rfl, rfl⟩ := hq
  exact jm [2, 1] (fun v0 v1 => fX11_seen_31 v0 v1 r.1 r.2) (fun v0 v1 q => tX11_seen_31 v0 v1 r.1 r.2 q) hf
def wX11_seen_22 : List En := [(.aload_n 0, 0, 0, 0), (.aload_n 0, 0, 0, 0), (.getfield 32, 194, 11, 19), (.iload_n 1, 0, 0, 0)]
def fX11_seen_22 (v0 : Nat) (v1 : Int32) (h : aH) : Option (Int32 × aH) :=
  (gFR h 11 v0 19).bind fun t1 =>
  fX11_seen_28 v0 v1 v1 t1 v0 h
theorem tX11_seen_22 {d : Nat} {z : Int32 × aH} (v0 : Nat) (v1 : Int32) (h : aH) (hf : fX11_seen_22 v0 v1 h = some z) : Ev (d + 3) none mX11_seen (0, 0) 22 [.ref v0, .int v1] [] h (QI z) := 
  go_ok (X := none) (blk := wX11_seen_22) (np := 28) (tt := 0) (kN := fun xs h st => app [2, 1] (fun v0 v1 => apS [1, 2, 2] (fun s0 s1 s2 => fX11_seen_28 v0 v1 s0 s1 s2 h) st) xs) (kT := fun _ _ _ => none) (kR := kRI)
    (fun xs h st q => jm [2, 1] _ (fun v0 v1 q => apS_ok [1, 2, 2] _ (fun st => Ev (d + 3) none mX11_seen (0, 0) 28 [.ref v0, .int v1] st h (QI z)) st (fun s0 s1 s2 q => tX11_seen_28 v0 v1 s0 s1 s2 h q) q) q)
    (fun _ _ _ q => nos q)
    kRI_ok (Or.inr rfl) (by decide +kernel) (by decide +kernel) hf
theorem kqX11_seen_19 : okC mX11_seen 19 (.invokevirtual 291) 219 236 0 0 = true := by decide +kernel
def fX11_seen_19 (v0 : Nat) (v1 : Int32) (s0 : Nat) (h : aH) : Option (Int32 × aH) :=
  (isO h 11 s0).bind fun _ =>
  (gX11_dawn s0 h).bind fun r =>
  fX11_seen_22 v0 v1 r
theorem tX11_seen_19 {d : Nat} {z : Int32 × aH} (v0 : Nat) (v1 : Int32) (s0 : Nat) (h : aH) (hf : fX11_seen_19 v0 v1 s0 h = some z) : Ev (d + 3) none mX11_seen (0, 0) 19 [.ref v0, .int v1] [.ref s0] h (QI z) := by
  obtain ⟨_, h1, hf⟩ := bnd hf
  obtain ⟨fs, ho⟩ := isO_ok h1
  obtain ⟨r, h2, hf⟩ := bnd hf
  refine ev_V kqX11_seen_19 jX11_dawn (zX11_dawn (d := d + 0) h2) ho rfl rfl (Nat.le_of_ble_eq_true rfl) rfl (as := []) (rest := []) rfl (Nat.le_of_ble_eq_true rfl) (fun _ _ hq => ?_)
  obtain ⟨rfl, hh⟩ := hq
  rw [hh]
  exact jm [2, 1] (fun v0 v1 => fX11_seen_22 v0 v1 r) (fun v0 v1 q => tX11_seen_22 v0 v1 r q) hf
def wX11_seen_18 : List En := [(.aload_n 0, 0, 0, 0)]
def fX11_seen_18 (v0 : Nat) (v1 : Int32) (h : aH) : Option (Int32 × aH) :=
  fX11_seen_19 v0 v1 v0 h
theorem tX11_seen_18 {d : Nat} {z : Int32 × aH} (v0 : Nat) (v1 : Int32) (h : aH) (hf : fX11_seen_18 v0 v1 h = some z) : Ev (d + 3) none mX11_seen (0, 0) 18 [.ref v0, .int v1] [] h (QI z) := 
  go_ok (X := none) (blk := wX11_seen_18) (np := 19) (tt := 0) (kN := fun xs h st => app [2, 1] (fun v0 v1 => apS [2] (fun s0 => fX11_seen_19 v0 v1 s0 h) st) xs) (kT := fun _ _ _ => none) (kR := kRI)
    (fun xs h st q => jm [2, 1] _ (fun v0 v1 q => apS_ok [2] _ (fun st => Ev (d + 3) none mX11_seen (0, 0) 19 [.ref v0, .int v1] st h (QI z)) st (fun s0 q => tX11_seen_19 v0 v1 s0 h q) q) q)
    (fun _ _ _ q => nos q)
    kRI_ok (Or.inr rfl) (by decide +kernel) (by decide +kernel) hf
def wX11_seen_17 : List En := [(.ireturn, 0, 0, 0)]
def fX11_seen_17 (s0 : Int32) (h : aH) : Option (Int32 × aH) :=
  some (s0, h)
theorem tX11_seen_17 {d : Nat} {z : Int32 × aH} (s0 : Int32) (h : aH) (hf : fX11_seen_17 s0 h = some z) : Ev (d + 3) none mX11_seen (0, 0) 17 [.null, .null] [.int s0] h (QI z) := 
  go_ok (X := none) (blk := wX11_seen_17) (np := 18) (tt := 0) (kN := fun _ _ _ => none) (kT := fun _ _ _ => none) (kR := kRI)
    (fun _ _ _ q => nos q)
    (fun _ _ _ q => nos q)
    kRI_ok (Or.inr rfl) (by decide +kernel) (by decide +kernel) hf
theorem kqX11_seen_14 : okC mX11_seen 14 (.invokevirtual 164) 183 198 0 1 = true := by decide +kernel
def fX11_seen_14 (s0 : Int32) (s1 : Nat) (h : aH) : Option (Int32 × aH) :=
  (isO h 11 s1).bind fun _ =>
  (gX11_no s1 s0 h).bind fun r =>
  fX11_seen_17 r.1 r.2
theorem tX11_seen_14 {d : Nat} {z : Int32 × aH} (s0 : Int32) (s1 : Nat) (h : aH) (hf : fX11_seen_14 s0 s1 h = some z) : Ev (d + 3) none mX11_seen (0, 0) 14 [.null, .null] [.int s0, .ref s1] h (QI z) := by
  obtain ⟨_, h1, hf⟩ := bnd hf
  obtain ⟨fs, ho⟩ := isO_ok h1
  obtain ⟨r, h2, hf⟩ := bnd hf
  refine ev_V kqX11_seen_14 jX11_no (zX11_no (d := d + 2) h2) ho rfl rfl (Nat.le_of_ble_eq_true rfl) rfl (as := [.int s0]) (rest := []) rfl (Nat.le_of_ble_eq_true rfl) (fun _ _ hq => ?_)
  obtain ⟨rfl, rfl⟩ := hq
  exact jm [0, 0] (fX11_seen_17 r.1 r.2) (fun q => tX11_seen_17 r.1 r.2 q) hf
def wX11_seen_12 : List En := [(.aload_n 0, 0, 0, 0), (.iconst 1, 0, 0, 0)]
def fX11_seen_12 (v0 : Nat) (h : aH) : Option (Int32 × aH) :=
  fX11_seen_14 (kI 1) v0 h
theorem tX11_seen_12 {d : Nat} {z : Int32 × aH} (v0 : Nat) (h : aH) (hf : fX11_seen_12 v0 h = some z) : Ev (d + 3) none mX11_seen (0, 0) 12 [.ref v0, .null] [] h (QI z) := 
  go_ok (X := none) (blk := wX11_seen_12) (np := 14) (tt := 0) (kN := fun xs h st => app [0, 0] (apS [1, 2] (fun s0 s1 => fX11_seen_14 s0 s1 h) st) xs) (kT := fun _ _ _ => none) (kR := kRI)
    (fun xs h st q => jm [0, 0] _ (fun q => apS_ok [1, 2] _ (fun st => Ev (d + 3) none mX11_seen (0, 0) 14 [.null, .null] st h (QI z)) st (fun s0 s1 q => tX11_seen_14 s0 s1 h q) q) q)
    (fun _ _ _ q => nos q)
    kRI_ok (Or.inr rfl) (by decide +kernel) (by decide +kernel) hf
def wX11_seen_9 : List En := [(.ifCond .ne 9, 18, 0, 0)]
def fX11_seen_9 (v0 : Nat) (v1 : Int32) (s0 : Int32) (h : aH) : Option (Int32 × aH) :=
  if s0 = 0 then fX11_seen_12 v0 h else fX11_seen_18 v0 v1 h
theorem tX11_seen_9 {d : Nat} {z : Int32 × aH} (v0 : Nat) (v1 : Int32) (s0 : Int32) (h : aH) (hf : fX11_seen_9 v0 v1 s0 h = some z) : Ev (d + 3) none mX11_seen (0, 0) 9 [.ref v0, .int v1] [.int s0] h (QI z) := 
  go_ok (X := none) (blk := wX11_seen_9) (np := 12) (tt := 18) (kN := fun xs h st => app [2, 0] (fun v0 => apS [] (fX11_seen_12 v0 h) st) xs) (kT := fun xs h st => app [2, 1] (fun v0 v1 => apS [] (fX11_seen_18 v0 v1 h) st) xs) (kR := kRI)
    (fun xs h st q => jm [2, 0] _ (fun v0 q => apS_ok [] _ (fun st => Ev (d + 3) none mX11_seen (0, 0) 12 [.ref v0, .null] st h (QI z)) st (fun q => tX11_seen_12 v0 h q) q) q)
    (fun xs h st q => jm [2, 1] _ (fun v0 v1 q => apS_ok [] _ (fun st => Ev (d + 3) none mX11_seen (0, 0) 18 [.ref v0, .int v1] st h (QI z)) st (fun q => tX11_seen_18 v0 v1 h q) q) q)
    kRI_ok (Or.inr rfl) (by decide +kernel) (by decide +kernel) hf
theorem kqX11_seen_6 : okC mX11_seen 6 (.invokevirtual 285) 214 231 0 1 = true := by decide +kernel
def fX11_seen_6 (v0 : Nat) (v1 : Int32) (s0 : Int32) (s1 : Nat) (h : aH) : Option (Int32 × aH) :=
  (isO h 11 s1).bind fun _ =>
  (gX11_isPerson s1 s0 h).bind fun r =>
  fX11_seen_9 v0 v1 r.1 r.2
theorem tX11_seen_6 {d : Nat} {z : Int32 × aH} (v0 : Nat) (v1 : Int32) (s0 : Int32) (s1 : Nat) (h : aH) (hf : fX11_seen_6 v0 v1 s0 s1 h = some z) : Ev (d + 3) none mX11_seen (0, 0) 6 [.ref v0, .int v1] [.int s0, .ref s1] h (QI z) := by
  obtain ⟨_, h1, hf⟩ := bnd hf
  obtain ⟨fs, ho⟩ := isO_ok h1
  obtain ⟨r, h2, hf⟩ := bnd hf
  refine ev_V kqX11_seen_6 jX11_isPerson (zX11_isPerson (d := d + 1) h2) ho rfl rfl (Nat.le_of_ble_eq_true rfl) rfl (as := [.int s0]) (rest := []) rfl (Nat.le_of_ble_eq_true rfl) (fun _ _ hq => ?_)
  obtain ⟨-, rfl, rfl⟩ := hq
  exact jm [2, 1] (fun v0 v1 => fX11_seen_9 v0 v1 r.1 r.2) (fun v0 v1 q => tX11_seen_9 v0 v1 r.1 r.2 q) hf
def wX11_seen_4 : List En := [(.aload_n 0, 0, 0, 0), (.iload_n 1, 0, 0, 0)]
def fX11_seen_4 (v0 : Nat) (v1 : Int32) (h : aH) : Option (Int32 × aH) :=
  fX11_seen_6 v0 v1 v1 v0 h
theorem tX11_seen_4 {d : Nat} {z : Int32 × aH} (v0 : Nat) (v1 : Int32) (h : aH) (hf : fX11_seen_4 v0 v1 h = some z) : Ev (d + 3) none mX11_seen (0, 0) 4 [.ref v0, .int v1] [] h (QI z) := 
  go_ok (X := none) (blk := wX11_seen_4) (np := 6) (tt := 0) (kN := fun xs h st => app [2, 1] (fun v0 v1 => apS [1, 2] (fun s0 s1 => fX11_seen_6 v0 v1 s0 s1 h) st) xs) (kT := fun _ _ _ => none) (kR := kRI)
    (fun xs h st q => jm [2, 1] _ (fun v0 v1 q => apS_ok [1, 2] _ (fun st => Ev (d + 3) none mX11_seen (0, 0) 6 [.ref v0, .int v1] st h (QI z)) st (fun s0 s1 q => tX11_seen_6 v0 v1 s0 s1 h q) q) q)
    (fun _ _ _ q => nos q)
    kRI_ok (Or.inr rfl) (by decide +kernel) (by decide +kernel) hf
theorem kqX11_seen_1 : okC mX11_seen 1 (.invokevirtual 161) 181 196 0 0 = true := by decide +kernel
def fX11_seen_1 (v0 : Nat) (v1 : Int32) (s0 : Nat) (h : aH) : Option (Int32 × aH) :=
  (isO h 11 s0).bind fun _ =>
  (gX11_anew s0 h).bind fun r =>
  fX11_seen_4 v0 v1 r
theorem tX11_seen_1 {d : Nat} {z : Int32 × aH} (v0 : Nat) (v1 : Int32) (s0 : Nat) (h : aH) (hf : fX11_seen_1 v0 v1 s0 h = some z) : Ev (d + 3) none mX11_seen (0, 0) 1 [.ref v0, .int v1] [.ref s0] h (QI z) := by
  obtain ⟨_, h1, hf⟩ := bnd hf
  obtain ⟨fs, ho⟩ := isO_ok h1
  obtain ⟨r, h2, hf⟩ := bnd hf
  refine ev_V kqX11_seen_1 jX11_anew (zX11_anew (d := d + 2) h2) ho rfl rfl (Nat.le_of_ble_eq_true rfl) rfl (as := []) (rest := []) rfl (Nat.le_of_ble_eq_true rfl) (fun _ _ hq => ?_)
  obtain ⟨rfl, hh⟩ := hq
  rw [hh]
  exact jm [2, 1] (fun v0 v1 => fX11_seen_4 v0 v1 r) (fun v0 v1 q => tX11_seen_4 v0 v1 r q) hf
def wX11_seen_0 : List En := [(.aload_n 0, 0, 0, 0)]
def fX11_seen_0 (v0 : Nat) (v1 : Int32) (h : aH) : Option (Int32 × aH) :=
  fX11_seen_1 v0 v1 v0 h
theorem tX11_seen_0 {d : Nat} {z : Int32 × aH} (v0 : Nat) (v1 : Int32) (h : aH) (hf : fX11_seen_0 v0 v1 h = some z) : Ev (d + 3) none mX11_seen (0, 0) 0 [.ref v0, .int v1] [] h (QI z) := 
  go_ok (X := none) (blk := wX11_seen_0) (np := 1) (tt := 0) (kN := fun xs h st => app [2, 1] (fun v0 v1 => apS [2] (fun s0 => fX11_seen_1 v0 v1 s0 h) st) xs) (kT := fun _ _ _ => none) (kR := kRI)
    (fun xs h st q => jm [2, 1] _ (fun v0 v1 q => apS_ok [2] _ (fun st => Ev (d + 3) none mX11_seen (0, 0) 1 [.ref v0, .int v1] st h (QI z)) st (fun s0 q => tX11_seen_1 v0 v1 s0 h q) q) q)
    (fun _ _ _ q => nos q)
    kRI_ok (Or.inr rfl) (by decide +kernel) (by decide +kernel) hf
def gX11_seen (v0 : Nat) (v1 : Int32) (h : aH) : Option (Int32 × aH) := fX11_seen_0 v0 v1 h
theorem zX11_seen {d : Nat} {z : Int32 × aH} {v0 : Nat} {v1 : Int32} {h : aH} (q : gX11_seen v0 v1 h = some z) : CT (d + 3) mX11_seen (0, 0) [.ref v0, .int v1] h (QI z) :=
  ct_ev (by decide +kernel) (Nat.le_of_ble_eq_true rfl) QI_r (jm [2, 1] (fun v0 v1 => fX11_seen_0 v0 v1 h) (fun v0 v1 q => tX11_seen_0 v0 v1 h q) q)
def wX11_nameAt_67 : List En := [(.iload_n 2, 0, 0, 0), (.ireturn, 0, 0, 0)]
def fX11_nameAt_67 (v2 : Int32) (h : aH) : Option (Int32 × aH) :=
  some (v2, h)
theorem tX11_nameAt_67 {d : Nat} {z : Int32 × aH} (v2 : Int32) (h : aH) (hf : fX11_nameAt_67 v2 h = some z) : Ev (d + 0) none mX11_nameAt (0, 0) 67 [.null, .null, .int v2, .null] [] h (QI z) := 
  go_ok (X := none) (blk := wX11_nameAt_67) (np := 69) (tt := 0) (kN := fun _ _ _ => none) (kT := fun _ _ _ => none) (kR := kRI)
    (fun _ _ _ q => nos q)
    (fun _ _ _ q => nos q)
    kRI_ok (Or.inr rfl) (by decide +kernel) (by decide +kernel) hf
def wX11_nameAt_61 : List En := [(.iinc 3 1, 0, 0, 0), (.goto (-59), 5, 0, 0)]
def fX11_nameAt_61 (k5 : Nat → Int32 → Int32 → Int32 → aH → Option (Int32 × aH)) (v0 : Nat) (v1 : Int32) (v2 : Int32) (v3 : Int32) (h : aH) : Option (Int32 × aH) :=
  k5 v0 v1 v2 (v3 + kI 1) h
theorem tX11_nameAt_61 {d : Nat} {z : Int32 × aH} {k5 : Nat → Int32 → Int32 → Int32 → aH → Option (Int32 × aH)} (hk5 : ∀ (v0 : Nat) (v1 : Int32) (v2 : Int32) (v3 : Int32) (h : aH), k5 v0 v1 v2 v3 h = some z → Ev (d + 0) none mX11_nameAt (0, 0) 5 [.ref v0, .int v1, .int v2, .int v3] [] h (QI z)) (v0 : Nat) (v1 : Int32) (v2 : Int32) (v3 : Int32) (h : aH) (hf : fX11_nameAt_61 k5 v0 v1 v2 v3 h = some z) : Ev (d + 0) none mX11_nameAt (0, 0) 61 [.ref v0, .int v1, .int v2, .int v3] [] h (QI z) := 
  go_ok (X := none) (blk := wX11_nameAt_61) (np := 67) (tt := 5) (kN := fun _ _ _ => none) (kT := fun xs h st => app [2, 1, 1, 1] (fun v0 v1 v2 v3 => apS [] (k5 v0 v1 v2 v3 h) st) xs) (kR := kRI)
    (fun _ _ _ q => nos q)
    (fun xs h st q => jm [2, 1, 1, 1] _ (fun v0 v1 v2 v3 q => apS_ok [] _ (fun st => Ev (d + 0) none mX11_nameAt (0, 0) 5 [.ref v0, .int v1, .int v2, .int v3] st h (QI z)) st (fun q => hk5 v0 v1 v2 v3 h q) q) q)
    kRI_ok (Or.inr rfl) (by decide +kernel) (by decide +kernel) hf
def wX11_nameAt_59 : List En := [(.iload_n 3, 0, 0, 0), (.istore_n 2, 0, 0, 0)]
def fX11_nameAt_59 (k5 : Nat → Int32 → Int32 → Int32 → aH → Option (Int32 × aH)) (v0 : Nat) (v1 : Int32) (v3 : Int32) (h : aH) : Option (Int32 × aH) :=
  fX11_nameAt_61 k5 v0 v1 v3 v3 h
theorem tX11_nameAt_59 {d : Nat} {z : Int32 × aH} {k5 : Nat → Int32 → Int32 → Int32 → aH → Option (Int32 × aH)} (hk5 : ∀ (v0 : Nat) (v1 : Int32) (v2 : Int32) (v3 : Int32) (h : aH), k5 v0 v1 v2 v3 h = some z → Ev (d + 0) none mX11_nameAt (0, 0) 5 [.ref v0, .int v1, .int v2, .int v3] [] h (QI z)) (v0 : Nat) (v1 : Int32) (v3 : Int32) (h : aH) (hf : fX11_nameAt_59 k5 v0 v1 v3 h = some z) : Ev (d + 0) none mX11_nameAt (0, 0) 59 [.ref v0, .int v1, .null, .int v3] [] h (QI z) := 
  go_ok (X := none) (blk := wX11_nameAt_59) (np := 61) (tt := 0) (kN := fun xs h st => app [2, 1, 1, 1] (fun v0 v1 v2 v3 => apS [] (fX11_nameAt_61 k5 v0 v1 v2 v3 h) st) xs) (kT := fun _ _ _ => none) (kR := kRI)
    (fun xs h st q => jm [2, 1, 1, 1] _ (fun v0 v1 v2 v3 q => apS_ok [] _ (fun st => Ev (d + 0) none mX11_nameAt (0, 0) 61 [.ref v0, .int v1, .int v2, .int v3] st h (QI z)) st (fun q => tX11_nameAt_61 hk5 v0 v1 v2 v3 h q) q) q)
    (fun _ _ _ q => nos q)
    kRI_ok (Or.inr rfl) (by decide +kernel) (by decide +kernel) hf
def wX11_nameAt_34 : List En := [(.aload_n 0, 0, 0, 0), (.getfield 20, 190, 11, 15), (.bipush 19, 0, 0, 0), (.iconst 2, 0, 0, 0), (.iload_n 3, 0, 0, 0), (.imul, 0, 0, 0), (.iadd, 0, 0, 0), (.iaload, 0, 0, 0), (.aload_n 0, 0, 0, 0), (.getfield 20, 190, 11, 15), (.bipush 19, 0, 0, 0), (.iconst 2, 0, 0, 0), (.iload_n 2, 0, 0, 0), (.imul, 0, 0, 0), (.iadd, 0, 0, 0), (.iaload, 0, 0, 0), (.if_icmp .le 5, 61, 0, 0)]
def fX11_nameAt_34 (k5 : Nat → Int32 → Int32 → Int32 → aH → Option (Int32 × aH)) (v0 : Nat) (v1 : Int32) (v2 : Int32) (v3 : Int32) (h : aH) : Option (Int32 × aH) :=
  (gFR h 11 v0 15).bind fun t1 =>
  (aRI (h[t1]?) ((kB 19) + ((kI 2) * v3))).bind fun t2 =>
  (gFR h 11 v0 15).bind fun t3 =>
  (aRI (h[t3]?) ((kB 19) + ((kI 2) * v2))).bind fun t4 =>
  if t4 < t2 then fX11_nameAt_59 k5 v0 v1 v3 h else fX11_nameAt_61 k5 v0 v1 v2 v3 h
theorem tX11_nameAt_34 {d : Nat} {z : Int32 × aH} {k5 : Nat → Int32 → Int32 → Int32 → aH → Option (Int32 × aH)} (hk5 : ∀ (v0 : Nat) (v1 : Int32) (v2 : Int32) (v3 : Int32) (h : aH), k5 v0 v1 v2 v3 h = some z → Ev (d + 0) none mX11_nameAt (0, 0) 5 [.ref v0, .int v1, .int v2, .int v3] [] h (QI z)) (v0 : Nat) (v1 : Int32) (v2 : Int32) (v3 : Int32) (h : aH) (hf : fX11_nameAt_34 k5 v0 v1 v2 v3 h = some z) : Ev (d + 0) none mX11_nameAt (0, 0) 34 [.ref v0, .int v1, .int v2, .int v3] [] h (QI z) := 
  go_ok (X := none) (blk := wX11_nameAt_34) (np := 59) (tt := 61) (kN := fun xs h st => app [2, 1, 0, 1] (fun v0 v1 v3 => apS [] (fX11_nameAt_59 k5 v0 v1 v3 h) st) xs) (kT := fun xs h st => app [2, 1, 1, 1] (fun v0 v1 v2 v3 => apS [] (fX11_nameAt_61 k5 v0 v1 v2 v3 h) st) xs) (kR := kRI)
    (fun xs h st q => jm [2, 1, 0, 1] _ (fun v0 v1 v3 q => apS_ok [] _ (fun st => Ev (d + 0) none mX11_nameAt (0, 0) 59 [.ref v0, .int v1, .null, .int v3] st h (QI z)) st (fun q => tX11_nameAt_59 hk5 v0 v1 v3 h q) q) q)
    (fun xs h st q => jm [2, 1, 1, 1] _ (fun v0 v1 v2 v3 q => apS_ok [] _ (fun st => Ev (d + 0) none mX11_nameAt (0, 0) 61 [.ref v0, .int v1, .int v2, .int v3] st h (QI z)) st (fun q => tX11_nameAt_61 hk5 v0 v1 v2 v3 h q) q) q)
    kRI_ok (Or.inr rfl) (by decide +kernel) (by decide +kernel) hf
def wX11_nameAt_30 : List En := [(.iload_n 2, 0, 0, 0), (.ifCond .lt 28, 59, 0, 0)]
def fX11_nameAt_30 (k5 : Nat → Int32 → Int32 → Int32 → aH → Option (Int32 × aH)) (v0 : Nat) (v1 : Int32) (v2 : Int32) (v3 : Int32) (h : aH) : Option (Int32 × aH) :=
  if v2 < 0 then fX11_nameAt_59 k5 v0 v1 v3 h else fX11_nameAt_34 k5 v0 v1 v2 v3 h
theorem tX11_nameAt_30 {d : Nat} {z : Int32 × aH} {k5 : Nat → Int32 → Int32 → Int32 → aH → Option (Int32 × aH)} (hk5 : ∀ (v0 : Nat) (v1 : Int32) (v2 : Int32) (v3 : Int32) (h : aH), k5 v0 v1 v2 v3 h = some z → Ev (d + 0) none mX11_nameAt (0, 0) 5 [.ref v0, .int v1, .int v2, .int v3] [] h (QI z)) (v0 : Nat) (v1 : Int32) (v2 : Int32) (v3 : Int32) (h : aH) (hf : fX11_nameAt_30 k5 v0 v1 v2 v3 h = some z) : Ev (d + 0) none mX11_nameAt (0, 0) 30 [.ref v0, .int v1, .int v2, .int v3] [] h (QI z) := 
  go_ok (X := none) (blk := wX11_nameAt_30) (np := 34) (tt := 59) (kN := fun xs h st => app [2, 1, 1, 1] (fun v0 v1 v2 v3 => apS [] (fX11_nameAt_34 k5 v0 v1 v2 v3 h) st) xs) (kT := fun xs h st => app [2, 1, 0, 1] (fun v0 v1 v3 => apS [] (fX11_nameAt_59 k5 v0 v1 v3 h) st) xs) (kR := kRI)
    (fun xs h st q => jm [2, 1, 1, 1] _ (fun v0 v1 v2 v3 q => apS_ok [] _ (fun st => Ev (d + 0) none mX11_nameAt (0, 0) 34 [.ref v0, .int v1, .int v2, .int v3] st h (QI z)) st (fun q => tX11_nameAt_34 hk5 v0 v1 v2 v3 h q) q) q)
    (fun xs h st q => jm [2, 1, 0, 1] _ (fun v0 v1 v3 q => apS_ok [] _ (fun st => Ev (d + 0) none mX11_nameAt (0, 0) 59 [.ref v0, .int v1, .null, .int v3] st h (QI z)) st (fun q => tX11_nameAt_59 hk5 v0 v1 v3 h q) q) q)
    kRI_ok (Or.inr rfl) (by decide +kernel) (by decide +kernel) hf
def wX11_nameAt_15 : List En := [(.aload_n 0, 0, 0, 0), (.getfield 20, 190, 11, 15), (.bipush 19, 0, 0, 0), (.iconst 2, 0, 0, 0), (.iload_n 3, 0, 0, 0), (.imul, 0, 0, 0), (.iadd, 0, 0, 0), (.iaload, 0, 0, 0), (.iload_n 1, 0, 0, 0), (.if_icmp .gt 34, 61, 0, 0)]
def fX11_nameAt_15 (k5 : Nat → Int32 → Int32 → Int32 → aH → Option (Int32 × aH)) (v0 : Nat) (v1 : Int32) (v2 : Int32) (v3 : Int32) (h : aH) : Option (Int32 × aH) :=
  (gFR h 11 v0 15).bind fun t1 =>
  (aRI (h[t1]?) ((kB 19) + ((kI 2) * v3))).bind fun t2 =>
  if v1 < t2 then fX11_nameAt_61 k5 v0 v1 v2 v3 h else fX11_nameAt_30 k5 v0 v1 v2 v3 h
theorem tX11_nameAt_15 {d : Nat} {z : Int32 × aH} {k5 : Nat → Int32 → Int32 → Int32 → aH → Option (Int32 × aH)} (hk5 : ∀ (v0 : Nat) (v1 : Int32) (v2 : Int32) (v3 : Int32) (h : aH), k5 v0 v1 v2 v3 h = some z → Ev (d + 0) none mX11_nameAt (0, 0) 5 [.ref v0, .int v1, .int v2, .int v3] [] h (QI z)) (v0 : Nat) (v1 : Int32) (v2 : Int32) (v3 : Int32) (h : aH) (hf : fX11_nameAt_15 k5 v0 v1 v2 v3 h = some z) : Ev (d + 0) none mX11_nameAt (0, 0) 15 [.ref v0, .int v1, .int v2, .int v3] [] h (QI z) := 
  go_ok (X := none) (blk := wX11_nameAt_15) (np := 30) (tt := 61) (kN := fun xs h st => app [2, 1, 1, 1] (fun v0 v1 v2 v3 => apS [] (fX11_nameAt_30 k5 v0 v1 v2 v3 h) st) xs) (kT := fun xs h st => app [2, 1, 1, 1] (fun v0 v1 v2 v3 => apS [] (fX11_nameAt_61 k5 v0 v1 v2 v3 h) st) xs) (kR := kRI)
    (fun xs h st q => jm [2, 1, 1, 1] _ (fun v0 v1 v2 v3 q => apS_ok [] _ (fun st => Ev (d + 0) none mX11_nameAt (0, 0) 30 [.ref v0, .int v1, .int v2, .int v3] st h (QI z)) st (fun q => tX11_nameAt_30 hk5 v0 v1 v2 v3 h q) q) q)
    (fun xs h st q => jm [2, 1, 1, 1] _ (fun v0 v1 v2 v3 q => apS_ok [] _ (fun st => Ev (d + 0) none mX11_nameAt (0, 0) 61 [.ref v0, .int v1, .int v2, .int v3] st h (QI z)) st (fun q => tX11_nameAt_61 hk5 v0 v1 v2 v3 h q) q) q)
    kRI_ok (Or.inr rfl) (by decide +kernel) (by decide +kernel) hf
def wX11_nameAt_5 : List En := [(.iload_n 3, 0, 0, 0), (.aload_n 0, 0, 0, 0), (.getfield 20, 190, 11, 15), (.iconst 4, 0, 0, 0), (.iaload, 0, 0, 0), (.if_icmp .ge 55, 67, 0, 0)]
def fX11_nameAt_5 (k5 : Nat → Int32 → Int32 → Int32 → aH → Option (Int32 × aH)) (v0 : Nat) (v1 : Int32) (v2 : Int32) (v3 : Int32) (h : aH) : Option (Int32 × aH) :=
  (gFR h 11 v0 15).bind fun t1 =>
  (aRI (h[t1]?) (kI 4)).bind fun t2 =>
  if v3 < t2 then fX11_nameAt_15 k5 v0 v1 v2 v3 h else fX11_nameAt_67 v2 h
theorem tX11_nameAt_5 {d : Nat} {z : Int32 × aH} {k5 : Nat → Int32 → Int32 → Int32 → aH → Option (Int32 × aH)} (hk5 : ∀ (v0 : Nat) (v1 : Int32) (v2 : Int32) (v3 : Int32) (h : aH), k5 v0 v1 v2 v3 h = some z → Ev (d + 0) none mX11_nameAt (0, 0) 5 [.ref v0, .int v1, .int v2, .int v3] [] h (QI z)) (v0 : Nat) (v1 : Int32) (v2 : Int32) (v3 : Int32) (h : aH) (hf : fX11_nameAt_5 k5 v0 v1 v2 v3 h = some z) : Ev (d + 0) none mX11_nameAt (0, 0) 5 [.ref v0, .int v1, .int v2, .int v3] [] h (QI z) := 
  go_ok (X := none) (blk := wX11_nameAt_5) (np := 15) (tt := 67) (kN := fun xs h st => app [2, 1, 1, 1] (fun v0 v1 v2 v3 => apS [] (fX11_nameAt_15 k5 v0 v1 v2 v3 h) st) xs) (kT := fun xs h st => app [0, 0, 1, 0] (fun v2 => apS [] (fX11_nameAt_67 v2 h) st) xs) (kR := kRI)
    (fun xs h st q => jm [2, 1, 1, 1] _ (fun v0 v1 v2 v3 q => apS_ok [] _ (fun st => Ev (d + 0) none mX11_nameAt (0, 0) 15 [.ref v0, .int v1, .int v2, .int v3] st h (QI z)) st (fun q => tX11_nameAt_15 hk5 v0 v1 v2 v3 h q) q) q)
    (fun xs h st q => jm [0, 0, 1, 0] _ (fun v2 q => apS_ok [] _ (fun st => Ev (d + 0) none mX11_nameAt (0, 0) 67 [.null, .null, .int v2, .null] st h (QI z)) st (fun q => tX11_nameAt_67 v2 h q) q) q)
    kRI_ok (Or.inr rfl) (by decide +kernel) (by decide +kernel) hf
def lX11_nameAt_5 : Nat → Nat → Int32 → Int32 → Int32 → aH → Option (Int32 × aH)
  | 0, _, _, _, _, _ => none
  | n + 1, v0, v1, v2, v3, h => fX11_nameAt_5 (lX11_nameAt_5 n) v0 v1 v2 v3 h
theorem uX11_nameAt_5 {d : Nat} {z : Int32 × aH} : ∀ (n : Nat) (v0 : Nat) (v1 : Int32) (v2 : Int32) (v3 : Int32) (h : aH), lX11_nameAt_5 n v0 v1 v2 v3 h = some z → Ev (d + 0) none mX11_nameAt (0, 0) 5 [.ref v0, .int v1, .int v2, .int v3] [] h (QI z) := by
  intro n
  induction n with
  | zero => intro _ _ _ _ _ q; exact nos (show (none : Option (Int32 × aH)) = some z from q)
  | succ n ih => intro v0 v1 v2 v3 h q; exact tX11_nameAt_5 ih v0 v1 v2 v3 h q
def wX11_nameAt_0 : List En := [(.bipush (-2), 0, 0, 0), (.istore_n 2, 0, 0, 0), (.iconst 0, 0, 0, 0), (.istore_n 3, 0, 0, 0)]
def fX11_nameAt_0 (v0 : Nat) (v1 : Int32) (h : aH) : Option (Int32 × aH) :=
  lX11_nameAt_5 FU v0 v1 (kB (-2)) (kI 0) h
theorem tX11_nameAt_0 {d : Nat} {z : Int32 × aH} (v0 : Nat) (v1 : Int32) (h : aH) (hf : fX11_nameAt_0 v0 v1 h = some z) : Ev (d + 0) none mX11_nameAt (0, 0) 0 [.ref v0, .int v1, .null, .null] [] h (QI z) := 
  go_ok (X := none) (blk := wX11_nameAt_0) (np := 5) (tt := 0) (kN := fun xs h st => app [2, 1, 1, 1] (fun v0 v1 v2 v3 => apS [] (lX11_nameAt_5 FU v0 v1 v2 v3 h) st) xs) (kT := fun _ _ _ => none) (kR := kRI)
    (fun xs h st q => jm [2, 1, 1, 1] _ (fun v0 v1 v2 v3 q => apS_ok [] _ (fun st => Ev (d + 0) none mX11_nameAt (0, 0) 5 [.ref v0, .int v1, .int v2, .int v3] st h (QI z)) st (fun q => uX11_nameAt_5 FU v0 v1 v2 v3 h q) q) q)
    (fun _ _ _ q => nos q)
    kRI_ok (Or.inr rfl) (by decide +kernel) (by decide +kernel) hf
def gX11_nameAt (v0 : Nat) (v1 : Int32) (h : aH) : Option (Int32 × aH) := fX11_nameAt_0 v0 v1 h
theorem zX11_nameAt {d : Nat} {z : Int32 × aH} {v0 : Nat} {v1 : Int32} {h : aH} (q : gX11_nameAt v0 v1 h = some z) : CT (d + 0) mX11_nameAt (0, 0) [.ref v0, .int v1] h (QI z) :=
  ct_ev (by decide +kernel) (Nat.le_of_ble_eq_true rfl) QI_r (jm [2, 1, 0, 0] (fun v0 v1 => fX11_nameAt_0 v0 v1 h) (fun v0 v1 q => tX11_nameAt_0 v0 v1 h q) q)
def wX11_calls_58 : List En := [(.ireturn, 0, 0, 0)]
def fX11_calls_58 (s0 : Int32) (h : aH) : Option (Int32 × aH) :=
  some (s0, h)
theorem tX11_calls_58 {d : Nat} {z : Int32 × aH} (s0 : Int32) (h : aH) (hf : fX11_calls_58 s0 h = some z) : Ev (d + 3) none mX11_calls (0, 0) 58 [.null, .null] [.int s0] h (QI z) := 
  go_ok (X := none) (blk := wX11_calls_58) (np := 59) (tt := 0) (kN := fun _ _ _ => none) (kT := fun _ _ _ => none) (kR := kRI)
    (fun _ _ _ q => nos q)
    (fun _ _ _ q => nos q)
    kRI_ok (Or.inr rfl) (by decide +kernel) (by decide +kernel) hf
def wX11_calls_56 : List En := [(.bipush (-2), 0, 0, 0)]
def fX11_calls_56 (h : aH) : Option (Int32 × aH) :=
  fX11_calls_58 (kB (-2)) h
theorem tX11_calls_56 {d : Nat} {z : Int32 × aH} (h : aH) (hf : fX11_calls_56 h = some z) : Ev (d + 3) none mX11_calls (0, 0) 56 [.null, .null] [] h (QI z) := 
  go_ok (X := none) (blk := wX11_calls_56) (np := 58) (tt := 0) (kN := fun xs h st => app [0, 0] (apS [1] (fun s0 => fX11_calls_58 s0 h) st) xs) (kT := fun _ _ _ => none) (kR := kRI)
    (fun xs h st q => jm [0, 0] _ (fun q => apS_ok [1] _ (fun st => Ev (d + 3) none mX11_calls (0, 0) 58 [.null, .null] st h (QI z)) st (fun s0 q => tX11_calls_58 s0 h q) q) q)
    (fun _ _ _ q => nos q)
    kRI_ok (Or.inr rfl) (by decide +kernel) (by decide +kernel) hf
def wX11_calls_53 : List En := [(.goto 5, 58, 0, 0)]
def fX11_calls_53 (s0 : Int32) (h : aH) : Option (Int32 × aH) :=
  fX11_calls_58 s0 h
theorem tX11_calls_53 {d : Nat} {z : Int32 × aH} (s0 : Int32) (h : aH) (hf : fX11_calls_53 s0 h = some z) : Ev (d + 3) none mX11_calls (0, 0) 53 [.null, .null] [.int s0] h (QI z) := 
  go_ok (X := none) (blk := wX11_calls_53) (np := 56) (tt := 58) (kN := fun _ _ _ => none) (kT := fun xs h st => app [0, 0] (apS [1] (fun s0 => fX11_calls_58 s0 h) st) xs) (kR := kRI)
    (fun _ _ _ q => nos q)
    (fun xs h st q => jm [0, 0] _ (fun q => apS_ok [1] _ (fun st => Ev (d + 3) none mX11_calls (0, 0) 58 [.null, .null] st h (QI z)) st (fun s0 q => tX11_calls_58 s0 h q) q) q)
    kRI_ok (Or.inr rfl) (by decide +kernel) (by decide +kernel) hf
theorem kqX11_calls_50 : okC mX11_calls 50 (.invokevirtual 271) 225 242 0 1 = true := by decide +kernel
def fX11_calls_50 (s0 : Int32) (s1 : Nat) (h : aH) : Option (Int32 × aH) :=
  (isO h 11 s1).bind fun _ =>
  (gX11_nameAt s1 s0 h).bind fun r =>
  fX11_calls_53 r.1 r.2
theorem tX11_calls_50 {d : Nat} {z : Int32 × aH} (s0 : Int32) (s1 : Nat) (h : aH) (hf : fX11_calls_50 s0 s1 h = some z) : Ev (d + 3) none mX11_calls (0, 0) 50 [.null, .null] [.int s0, .ref s1] h (QI z) := by
  obtain ⟨_, h1, hf⟩ := bnd hf
  obtain ⟨fs, ho⟩ := isO_ok h1
  obtain ⟨r, h2, hf⟩ := bnd hf
  refine ev_V kqX11_calls_50 jX11_nameAt (zX11_nameAt (d := d + 2) h2) ho rfl rfl (Nat.le_of_ble_eq_true rfl) rfl (as := [.int s0]) (rest := []) rfl (Nat.le_of_ble_eq_true rfl) (fun _ _ hq => ?_)
  obtain ⟨rfl, rfl⟩ := hq
  exact jm [0, 0] (fX11_calls_53 r.1 r.2) (fun q => tX11_calls_53 r.1 r.2 q) hf
theorem kqX11_calls_47 : okC mX11_calls 47 (.invokevirtual 253) 223 240 0 3 = true := by decide +kernel
def fX11_calls_47 (s0 : Int32) (s1 : Int32) (s2 : Nat) (s3 : Nat) (s4 : Nat) (h : aH) : Option (Int32 × aH) :=
  (isO h 11 s3).bind fun _ =>
  (gX11_seenOf s3 s2 s1 s0 h).bind fun r =>
  fX11_calls_50 r.1 s4 r.2
theorem tX11_calls_47 {d : Nat} {z : Int32 × aH} (s0 : Int32) (s1 : Int32) (s2 : Nat) (s3 : Nat) (s4 : Nat) (h : aH) (hf : fX11_calls_47 s0 s1 s2 s3 s4 h = some z) : Ev (d + 3) none mX11_calls (0, 0) 47 [.null, .null] [.int s0, .int s1, .ref s2, .ref s3, .ref s4] h (QI z) := by
  obtain ⟨_, h1, hf⟩ := bnd hf
  obtain ⟨fs, ho⟩ := isO_ok h1
  obtain ⟨r, h2, hf⟩ := bnd hf
  refine ev_V kqX11_calls_47 jX11_seenOf (zX11_seenOf (d := d + 2) h2) ho rfl rfl (Nat.le_of_ble_eq_true rfl) rfl (as := [.ref s2, .int s1, .int s0]) (rest := [.ref s4]) rfl (Nat.le_of_ble_eq_true rfl) (fun _ _ hq => ?_)
  obtain ⟨rfl, rfl⟩ := hq
  exact jm [0, 0] (fX11_calls_50 r.1 s4 r.2) (fun q => tX11_calls_50 r.1 s4 r.2 q) hf
def wX11_calls_34 : List En := [(.aload_n 0, 0, 0, 0), (.aload_n 0, 0, 0, 0), (.aload_n 0, 0, 0, 0), (.getfield 35, 195, 11, 20), (.iload_n 1, 0, 0, 0), (.aload_n 0, 0, 0, 0), (.getfield 35, 195, 11, 20), (.iload_n 1, 0, 0, 0), (.iaload, 0, 0, 0)]
def fX11_calls_34 (v0 : Nat) (v1 : Int32) (h : aH) : Option (Int32 × aH) :=
  (gFR h 11 v0 20).bind fun t1 =>
  (gFR h 11 v0 20).bind fun t2 =>
  (aRI (h[t2]?) v1).bind fun t3 =>
  fX11_calls_47 t3 v1 t1 v0 v0 h
theorem tX11_calls_34 {d : Nat} {z : Int32 × aH} (v0 : Nat) (v1 : Int32) (h : aH) (hf : fX11_calls_34 v0 v1 h = some z) : Ev (d + 3) none mX11_calls (0, 0) 34 [.ref v0, .int v1] [] h (QI z) := 
  go_ok (X := none) (blk := wX11_calls_34) (np := 47) (tt := 0) (kN := fun xs h st => app [0, 0] (apS [1, 1, 2, 2, 2] (fun s0 s1 s2 s3 s4 => fX11_calls_47 s0 s1 s2 s3 s4 h) st) xs) (kT := fun _ _ _ => none) (kR := kRI)
    (fun xs h st q => jm [0, 0] _ (fun q => apS_ok [1, 1, 2, 2, 2] _ (fun st => Ev (d + 3) none mX11_calls (0, 0) 47 [.null, .null] st h (QI z)) st (fun s0 s1 s2 s3 s4 q => tX11_calls_47 s0 s1 s2 s3 s4 h q) q) q)
    (fun _ _ _ q => nos q)
    kRI_ok (Or.inr rfl) (by decide +kernel) (by decide +kernel) hf
def wX11_calls_31 : List En := [(.ifCond .eq 25, 56, 0, 0)]
def fX11_calls_31 (v0 : Nat) (v1 : Int32) (s0 : Int32) (h : aH) : Option (Int32 × aH) :=
  if s0 = 0 then fX11_calls_56 h else fX11_calls_34 v0 v1 h
theorem tX11_calls_31 {d : Nat} {z : Int32 × aH} (v0 : Nat) (v1 : Int32) (s0 : Int32) (h : aH) (hf : fX11_calls_31 v0 v1 s0 h = some z) : Ev (d + 3) none mX11_calls (0, 0) 31 [.ref v0, .int v1] [.int s0] h (QI z) := 
  go_ok (X := none) (blk := wX11_calls_31) (np := 34) (tt := 56) (kN := fun xs h st => app [2, 1] (fun v0 v1 => apS [] (fX11_calls_34 v0 v1 h) st) xs) (kT := fun xs h st => app [0, 0] (apS [] (fX11_calls_56 h) st) xs) (kR := kRI)
    (fun xs h st q => jm [2, 1] _ (fun v0 v1 q => apS_ok [] _ (fun st => Ev (d + 3) none mX11_calls (0, 0) 34 [.ref v0, .int v1] st h (QI z)) st (fun q => tX11_calls_34 v0 v1 h q) q) q)
    (fun xs h st q => jm [0, 0] _ (fun q => apS_ok [] _ (fun st => Ev (d + 3) none mX11_calls (0, 0) 56 [.null, .null] st h (QI z)) st (fun q => tX11_calls_56 h q) q) q)
    kRI_ok (Or.inr rfl) (by decide +kernel) (by decide +kernel) hf
theorem kqX11_calls_28 : okC mX11_calls 28 (.invokevirtual 249) 221 238 0 2 = true := by decide +kernel
def fX11_calls_28 (v0 : Nat) (v1 : Int32) (s0 : Int32) (s1 : Nat) (s2 : Nat) (h : aH) : Option (Int32 × aH) :=
  (isO h 11 s2).bind fun _ =>
  (gX11_lives s2 s1 s0 h).bind fun r =>
  fX11_calls_31 v0 v1 r.1 r.2
theorem tX11_calls_28 {d : Nat} {z : Int32 × aH} (v0 : Nat) (v1 : Int32) (s0 : Int32) (s1 : Nat) (s2 : Nat) (h : aH) (hf : fX11_calls_28 v0 v1 s0 s1 s2 h = some z) : Ev (d + 3) none mX11_calls (0, 0) 28 [.ref v0, .int v1] [.int s0, .ref s1, .ref s2] h (QI z) := by
  obtain ⟨_, h1, hf⟩ := bnd hf
  obtain ⟨fs, ho⟩ := isO_ok h1
  obtain ⟨r, h2, hf⟩ := bnd hf
  refine ev_V kqX11_calls_28 jX11_lives (zX11_lives (d := d + 1) h2) ho rfl rfl (Nat.le_of_ble_eq_true rfl) rfl (as := [.ref s1, .int s0]) (rest := []) rfl (Nat.le_of_ble_eq_true rfl) (fun _ _ hq => ?_)
  obtain ⟨-, rfl, rfl⟩ := hq
  exact jm [2, 1] (fun v0 v1 => fX11_calls_31 v0 v1 r.1 r.2) (fun v0 v1 q => tX11_calls_31 v0 v1 r.1 r.2 q) hf
def wX11_calls_22 : List En := [(.aload_n 0, 0, 0, 0), (.aload_n 0, 0, 0, 0), (.getfield 32, 194, 11, 19), (.iload_n 1, 0, 0, 0)]
def fX11_calls_22 (v0 : Nat) (v1 : Int32) (h : aH) : Option (Int32 × aH) :=
  (gFR h 11 v0 19).bind fun t1 =>
  fX11_calls_28 v0 v1 v1 t1 v0 h
theorem tX11_calls_22 {d : Nat} {z : Int32 × aH} (v0 : Nat) (v1 : Int32) (h : aH) (hf : fX11_calls_22 v0 v1 h = some z) : Ev (d + 3) none mX11_calls (0, 0) 22 [.ref v0, .int v1] [] h (QI z) := 
  go_ok (X := none) (blk := wX11_calls_22) (np := 28) (tt := 0) (kN := fun xs h st => app [2, 1] (fun v0 v1 => apS [1, 2, 2] (fun s0 s1 s2 => fX11_calls_28 v0 v1 s0 s1 s2 h) st) xs) (kT := fun _ _ _ => none) (kR := kRI)
    (fun xs h st q => jm [2, 1] _ (fun v0 v1 q => apS_ok [1, 2, 2] _ (fun st => Ev (d + 3) none mX11_calls (0, 0) 28 [.ref v0, .int v1] st h (QI z)) st (fun s0 s1 s2 q => tX11_calls_28 v0 v1 s0 s1 s2 h q) q) q)
    (fun _ _ _ q => nos q)
    kRI_ok (Or.inr rfl) (by decide +kernel) (by decide +kernel) hf
theorem kqX11_calls_19 : okC mX11_calls 19 (.invokevirtual 291) 219 236 0 0 = true := by decide +kernel
def fX11_calls_19 (v0 : Nat) (v1 : Int32) (s0 : Nat) (h : aH) : Option (Int32 × aH) :=
  (isO h 11 s0).bind fun _ =>
  (gX11_dawn s0 h).bind fun r =>
  fX11_calls_22 v0 v1 r
theorem tX11_calls_19 {d : Nat} {z : Int32 × aH} (v0 : Nat) (v1 : Int32) (s0 : Nat) (h : aH) (hf : fX11_calls_19 v0 v1 s0 h = some z) : Ev (d + 3) none mX11_calls (0, 0) 19 [.ref v0, .int v1] [.ref s0] h (QI z) := by
  obtain ⟨_, h1, hf⟩ := bnd hf
  obtain ⟨fs, ho⟩ := isO_ok h1
  obtain ⟨r, h2, hf⟩ := bnd hf
  refine ev_V kqX11_calls_19 jX11_dawn (zX11_dawn (d := d + 0) h2) ho rfl rfl (Nat.le_of_ble_eq_true rfl) rfl (as := []) (rest := []) rfl (Nat.le_of_ble_eq_true rfl) (fun _ _ hq => ?_)
  obtain ⟨rfl, hh⟩ := hq
  rw [hh]
  exact jm [2, 1] (fun v0 v1 => fX11_calls_22 v0 v1 r) (fun v0 v1 q => tX11_calls_22 v0 v1 r q) hf
def wX11_calls_18 : List En := [(.aload_n 0, 0, 0, 0)]
def fX11_calls_18 (v0 : Nat) (v1 : Int32) (h : aH) : Option (Int32 × aH) :=
  fX11_calls_19 v0 v1 v0 h
theorem tX11_calls_18 {d : Nat} {z : Int32 × aH} (v0 : Nat) (v1 : Int32) (h : aH) (hf : fX11_calls_18 v0 v1 h = some z) : Ev (d + 3) none mX11_calls (0, 0) 18 [.ref v0, .int v1] [] h (QI z) := 
  go_ok (X := none) (blk := wX11_calls_18) (np := 19) (tt := 0) (kN := fun xs h st => app [2, 1] (fun v0 v1 => apS [2] (fun s0 => fX11_calls_19 v0 v1 s0 h) st) xs) (kT := fun _ _ _ => none) (kR := kRI)
    (fun xs h st q => jm [2, 1] _ (fun v0 v1 q => apS_ok [2] _ (fun st => Ev (d + 3) none mX11_calls (0, 0) 19 [.ref v0, .int v1] st h (QI z)) st (fun s0 q => tX11_calls_19 v0 v1 s0 h q) q) q)
    (fun _ _ _ q => nos q)
    kRI_ok (Or.inr rfl) (by decide +kernel) (by decide +kernel) hf
def wX11_calls_17 : List En := [(.ireturn, 0, 0, 0)]
def fX11_calls_17 (s0 : Int32) (h : aH) : Option (Int32 × aH) :=
  some (s0, h)
theorem tX11_calls_17 {d : Nat} {z : Int32 × aH} (s0 : Int32) (h : aH) (hf : fX11_calls_17 s0 h = some z) : Ev (d + 3) none mX11_calls (0, 0) 17 [.null, .null] [.int s0] h (QI z) := 
  go_ok (X := none) (blk := wX11_calls_17) (np := 18) (tt := 0) (kN := fun _ _ _ => none) (kT := fun _ _ _ => none) (kR := kRI)
    (fun _ _ _ q => nos q)
    (fun _ _ _ q => nos q)
    kRI_ok (Or.inr rfl) (by decide +kernel) (by decide +kernel) hf
theorem kqX11_calls_14 : okC mX11_calls 14 (.invokevirtual 164) 183 198 0 1 = true := by decide +kernel
def fX11_calls_14 (s0 : Int32) (s1 : Nat) (h : aH) : Option (Int32 × aH) :=
  (isO h 11 s1).bind fun _ =>
  (gX11_no s1 s0 h).bind fun r =>
  fX11_calls_17 r.1 r.2
theorem tX11_calls_14 {d : Nat} {z : Int32 × aH} (s0 : Int32) (s1 : Nat) (h : aH) (hf : fX11_calls_14 s0 s1 h = some z) : Ev (d + 3) none mX11_calls (0, 0) 14 [.null, .null] [.int s0, .ref s1] h (QI z) := by
  obtain ⟨_, h1, hf⟩ := bnd hf
  obtain ⟨fs, ho⟩ := isO_ok h1
  obtain ⟨r, h2, hf⟩ := bnd hf
  refine ev_V kqX11_calls_14 jX11_no (zX11_no (d := d + 2) h2) ho rfl rfl (Nat.le_of_ble_eq_true rfl) rfl (as := [.int s0]) (rest := []) rfl (Nat.le_of_ble_eq_true rfl) (fun _ _ hq => ?_)
  obtain ⟨rfl, rfl⟩ := hq
  exact jm [0, 0] (fX11_calls_17 r.1 r.2) (fun q => tX11_calls_17 r.1 r.2 q) hf
def wX11_calls_12 : List En := [(.aload_n 0, 0, 0, 0), (.iconst 1, 0, 0, 0)]
def fX11_calls_12 (v0 : Nat) (h : aH) : Option (Int32 × aH) :=
  fX11_calls_14 (kI 1) v0 h
theorem tX11_calls_12 {d : Nat} {z : Int32 × aH} (v0 : Nat) (h : aH) (hf : fX11_calls_12 v0 h = some z) : Ev (d + 3) none mX11_calls (0, 0) 12 [.ref v0, .null] [] h (QI z) := 
  go_ok (X := none) (blk := wX11_calls_12) (np := 14) (tt := 0) (kN := fun xs h st => app [0, 0] (apS [1, 2] (fun s0 s1 => fX11_calls_14 s0 s1 h) st) xs) (kT := fun _ _ _ => none) (kR := kRI)
    (fun xs h st q => jm [0, 0] _ (fun q => apS_ok [1, 2] _ (fun st => Ev (d + 3) none mX11_calls (0, 0) 14 [.null, .null] st h (QI z)) st (fun s0 s1 q => tX11_calls_14 s0 s1 h q) q) q)
    (fun _ _ _ q => nos q)
    kRI_ok (Or.inr rfl) (by decide +kernel) (by decide +kernel) hf
def wX11_calls_9 : List En := [(.ifCond .ne 9, 18, 0, 0)]
def fX11_calls_9 (v0 : Nat) (v1 : Int32) (s0 : Int32) (h : aH) : Option (Int32 × aH) :=
  if s0 = 0 then fX11_calls_12 v0 h else fX11_calls_18 v0 v1 h
theorem tX11_calls_9 {d : Nat} {z : Int32 × aH} (v0 : Nat) (v1 : Int32) (s0 : Int32) (h : aH) (hf : fX11_calls_9 v0 v1 s0 h = some z) : Ev (d + 3) none mX11_calls (0, 0) 9 [.ref v0, .int v1] [.int s0] h (QI z) := 
  go_ok (X := none) (blk := wX11_calls_9) (np := 12) (tt := 18) (kN := fun xs h st => app [2, 0] (fun v0 => apS [] (fX11_calls_12 v0 h) st) xs) (kT := fun xs h st => app [2, 1] (fun v0 v1 => apS [] (fX11_calls_18 v0 v1 h) st) xs) (kR := kRI)
    (fun xs h st q => jm [2, 0] _ (fun v0 q => apS_ok [] _ (fun st => Ev (d + 3) none mX11_calls (0, 0) 12 [.ref v0, .null] st h (QI z)) st (fun q => tX11_calls_12 v0 h q) q) q)
    (fun xs h st q => jm [2, 1] _ (fun v0 v1 q => apS_ok [] _ (fun st => Ev (d + 3) none mX11_calls (0, 0) 18 [.ref v0, .int v1] st h (QI z)) st (fun q => tX11_calls_18 v0 v1 h q) q) q)
    kRI_ok (Or.inr rfl) (by decide +kernel) (by decide +kernel) hf
theorem kqX11_calls_6 : okC mX11_calls 6 (.invokevirtual 285) 214 231 0 1 = true := by decide +kernel
def fX11_calls_6 (v0 : Nat) (v1 : Int32) (s0 : Int32) (s1 : Nat) (h : aH) : Option (Int32 × aH) :=
  (isO h 11 s1).bind fun _ =>
  (gX11_isPerson s1 s0 h).bind fun r =>
  fX11_calls_9 v0 v1 r.1 r.2
theorem tX11_calls_6 {d : Nat} {z : Int32 × aH} (v0 : Nat) (v1 : Int32) (s0 : Int32) (s1 : Nat) (h : aH) (hf : fX11_calls_6 v0 v1 s0 s1 h = some z) : Ev (d + 3) none mX11_calls (0, 0) 6 [.ref v0, .int v1] [.int s0, .ref s1] h (QI z) := by
  obtain ⟨_, h1, hf⟩ := bnd hf
  obtain ⟨fs, ho⟩ := isO_ok h1
  obtain ⟨r, h2, hf⟩ := bnd hf
  refine ev_V kqX11_calls_6 jX11_isPerson (zX11_isPerson (d := d + 1) h2) ho rfl rfl (Nat.le_of_ble_eq_true rfl) rfl (as := [.int s0]) (rest := []) rfl (Nat.le_of_ble_eq_true rfl) (fun _ _ hq => ?_)
  obtain ⟨-, rfl, rfl⟩ := hq
  exact jm [2, 1] (fun v0 v1 => fX11_calls_9 v0 v1 r.1 r.2) (fun v0 v1 q => tX11_calls_9 v0 v1 r.1 r.2 q) hf
def wX11_calls_4 : List En := [(.aload_n 0, 0, 0, 0), (.iload_n 1, 0, 0, 0)]
def fX11_calls_4 (v0 : Nat) (v1 : Int32) (h : aH) : Option (Int32 × aH) :=
  fX11_calls_6 v0 v1 v1 v0 h
theorem tX11_calls_4 {d : Nat} {z : Int32 × aH} (v0 : Nat) (v1 : Int32) (h : aH) (hf : fX11_calls_4 v0 v1 h = some z) : Ev (d + 3) none mX11_calls (0, 0) 4 [.ref v0, .int v1] [] h (QI z) := 
  go_ok (X := none) (blk := wX11_calls_4) (np := 6) (tt := 0) (kN := fun xs h st => app [2, 1] (fun v0 v1 => apS [1, 2] (fun s0 s1 => fX11_calls_6 v0 v1 s0 s1 h) st) xs) (kT := fun _ _ _ => none) (kR := kRI)
    (fun xs h st q => jm [2, 1] _ (fun v0 v1 q => apS_ok [1, 2] _ (fun st => Ev (d + 3) none mX11_calls (0, 0) 6 [.ref v0, .int v1] st h (QI z)) st (fun s0 s1 q => tX11_calls_6 v0 v1 s0 s1 h q) q) q)
    (fun _ _ _ q => nos q)
    kRI_ok (Or.inr rfl) (by decide +kernel) (by decide +kernel) hf
theorem kqX11_calls_1 : okC mX11_calls 1 (.invokevirtual 161) 181 196 0 0 = true := by decide +kernel
def fX11_calls_1 (v0 : Nat) (v1 : Int32) (s0 : Nat) (h : aH) : Option (Int32 × aH) :=
  (isO h 11 s0).bind fun _ =>
  (gX11_anew s0 h).bind fun r =>
  fX11_calls_4 v0 v1 r
theorem tX11_calls_1 {d : Nat} {z : Int32 × aH} (v0 : Nat) (v1 : Int32) (s0 : Nat) (h : aH) (hf : fX11_calls_1 v0 v1 s0 h = some z) : Ev (d + 3) none mX11_calls (0, 0) 1 [.ref v0, .int v1] [.ref s0] h (QI z) := by
  obtain ⟨_, h1, hf⟩ := bnd hf
  obtain ⟨fs, ho⟩ := isO_ok h1
  obtain ⟨r, h2, hf⟩ := bnd hf
  refine ev_V kqX11_calls_1 jX11_anew (zX11_anew (d := d + 2) h2) ho rfl rfl (Nat.le_of_ble_eq_true rfl) rfl (as := []) (rest := []) rfl (Nat.le_of_ble_eq_true rfl) (fun _ _ hq => ?_)
  obtain ⟨rfl, hh⟩ := hq
  rw [hh]
  exact jm [2, 1] (fun v0 v1 => fX11_calls_4 v0 v1 r) (fun v0 v1 q => tX11_calls_4 v0 v1 r q) hf
def wX11_calls_0 : List En := [(.aload_n 0, 0, 0, 0)]
def fX11_calls_0 (v0 : Nat) (v1 : Int32) (h : aH) : Option (Int32 × aH) :=
  fX11_calls_1 v0 v1 v0 h
theorem tX11_calls_0 {d : Nat} {z : Int32 × aH} (v0 : Nat) (v1 : Int32) (h : aH) (hf : fX11_calls_0 v0 v1 h = some z) : Ev (d + 3) none mX11_calls (0, 0) 0 [.ref v0, .int v1] [] h (QI z) := 
  go_ok (X := none) (blk := wX11_calls_0) (np := 1) (tt := 0) (kN := fun xs h st => app [2, 1] (fun v0 v1 => apS [2] (fun s0 => fX11_calls_1 v0 v1 s0 h) st) xs) (kT := fun _ _ _ => none) (kR := kRI)
    (fun xs h st q => jm [2, 1] _ (fun v0 v1 q => apS_ok [2] _ (fun st => Ev (d + 3) none mX11_calls (0, 0) 1 [.ref v0, .int v1] st h (QI z)) st (fun s0 q => tX11_calls_1 v0 v1 s0 h q) q) q)
    (fun _ _ _ q => nos q)
    kRI_ok (Or.inr rfl) (by decide +kernel) (by decide +kernel) hf
def gX11_calls (v0 : Nat) (v1 : Int32) (h : aH) : Option (Int32 × aH) := fX11_calls_0 v0 v1 h
theorem zX11_calls {d : Nat} {z : Int32 × aH} {v0 : Nat} {v1 : Int32} {h : aH} (q : gX11_calls v0 v1 h = some z) : CT (d + 3) mX11_calls (0, 0) [.ref v0, .int v1] h (QI z) :=
  ct_ev (by decide +kernel) (Nat.le_of_ble_eq_true rfl) QI_r (jm [2, 1] (fun v0 v1 => fX11_calls_0 v0 v1 h) (fun v0 v1 q => tX11_calls_0 v0 v1 h q) q)
def wX11_eatOn_220 : List En := [(.aload_n 1, 0, 0, 0), (.bipush 12, 0, 0, 0), (.iload 5, 0, 0, 0), (.iastore, 0, 0, 0), (.return_, 0, 0, 0)]
def fX11_eatOn_220 (v1 : Nat) (v5 : Int32) (h : aH) : Option (aH) :=
  (aWI h v1 (kB 12) v5).bind fun h1 =>
  some h1
theorem tX11_eatOn_220 {d : Nat} {z : aH} (v1 : Nat) (v5 : Int32) (h : aH) (hf : fX11_eatOn_220 v1 v5 h = some z) : Ev (d + 2) none mX11_eatOn (0, 0) 220 [.null, .ref v1, .null, .null, .null, .int v5, .null, .null, .null, .null] [] h (QV z) := 
  go_ok (X := none) (blk := wX11_eatOn_220) (np := 227) (tt := 0) (kN := fun _ _ _ => none) (kT := fun _ _ _ => none) (kR := kRV)
    (fun _ _ _ q => nos q)
    (fun _ _ _ q => nos q)
    kRV_ok (Or.inr rfl) (by decide +kernel) (by decide +kernel) hf
def wX11_eatOn_217 : List En := [(.goto (-105), 112, 0, 0)]
def fX11_eatOn_217 (k112 : Nat → Nat → Int32 → Int32 → Int32 → aH → Option (aH)) (v0 : Nat) (v1 : Nat) (v4 : Int32) (v5 : Int32) (v6 : Int32) (h : aH) : Option (aH) :=
  k112 v0 v1 v4 v5 v6 h
theorem tX11_eatOn_217 {d : Nat} {z : aH} {k112 : Nat → Nat → Int32 → Int32 → Int32 → aH → Option (aH)} (hk112 : ∀ (v0 : Nat) (v1 : Nat) (v4 : Int32) (v5 : Int32) (v6 : Int32) (h : aH), k112 v0 v1 v4 v5 v6 h = some z → Ev (d + 2) none mX11_eatOn (0, 0) 112 [.ref v0, .ref v1, .null, .null, .int v4, .int v5, .int v6, .null, .null, .null] [] h (QV z)) (v0 : Nat) (v1 : Nat) (v4 : Int32) (v5 : Int32) (v6 : Int32) (h : aH) (hf : fX11_eatOn_217 k112 v0 v1 v4 v5 v6 h = some z) : Ev (d + 2) none mX11_eatOn (0, 0) 217 [.ref v0, .ref v1, .null, .null, .int v4, .int v5, .int v6, .null, .null, .null] [] h (QV z) := 
  go_ok (X := none) (blk := wX11_eatOn_217) (np := 220) (tt := 112) (kN := fun _ _ _ => none) (kT := fun xs h st => app [2, 2, 0, 0, 1, 1, 1, 0, 0, 0] (fun v0 v1 v4 v5 v6 => apS [] (k112 v0 v1 v4 v5 v6 h) st) xs) (kR := kRV)
    (fun _ _ _ q => nos q)
    (fun xs h st q => jm [2, 2, 0, 0, 1, 1, 1, 0, 0, 0] _ (fun v0 v1 v4 v5 v6 q => apS_ok [] _ (fun st => Ev (d + 2) none mX11_eatOn (0, 0) 112 [.ref v0, .ref v1, .null, .null, .int v4, .int v5, .int v6, .null, .null, .null] st h (QV z)) st (fun q => hk112 v0 v1 v4 v5 v6 h q) q) q)
    kRV_ok (Or.inr rfl) (by decide +kernel) (by decide +kernel) hf
def wX11_eatOn_211 : List En := [(.iinc 7 1, 0, 0, 0), (.goto (-86), 128, 0, 0)]
def fX11_eatOn_211 (k112 : Nat → Nat → Int32 → Int32 → Int32 → aH → Option (aH)) (k128 : Nat → Nat → Int32 → Int32 → Int32 → Int32 → aH → Option (aH)) (v0 : Nat) (v1 : Nat) (v4 : Int32) (v5 : Int32) (v6 : Int32) (v7 : Int32) (h : aH) : Option (aH) :=
  k128 v0 v1 v4 v5 v6 (v7 + kI 1) h
theorem tX11_eatOn_211 {d : Nat} {z : aH} {k112 : Nat → Nat → Int32 → Int32 → Int32 → aH → Option (aH)} {k128 : Nat → Nat → Int32 → Int32 → Int32 → Int32 → aH → Option (aH)} (hk112 : ∀ (v0 : Nat) (v1 : Nat) (v4 : Int32) (v5 : Int32) (v6 : Int32) (h : aH), k112 v0 v1 v4 v5 v6 h = some z → Ev (d + 2) none mX11_eatOn (0, 0) 112 [.ref v0, .ref v1, .null, .null, .int v4, .int v5, .int v6, .null, .null, .null] [] h (QV z)) (hk128 : ∀ (v0 : Nat) (v1 : Nat) (v4 : Int32) (v5 : Int32) (v6 : Int32) (v7 : Int32) (h : aH), k128 v0 v1 v4 v5 v6 v7 h = some z → Ev (d + 2) none mX11_eatOn (0, 0) 128 [.ref v0, .ref v1, .null, .null, .int v4, .int v5, .int v6, .int v7, .null, .null] [] h (QV z)) (v0 : Nat) (v1 : Nat) (v4 : Int32) (v5 : Int32) (v6 : Int32) (v7 : Int32) (h : aH) (hf : fX11_eatOn_211 k112 k128 v0 v1 v4 v5 v6 v7 h = some z) : Ev (d + 2) none mX11_eatOn (0, 0) 211 [.ref v0, .ref v1, .null, .null, .int v4, .int v5, .int v6, .int v7, .null, .null] [] h (QV z) := 
  go_ok (X := none) (blk := wX11_eatOn_211) (np := 217) (tt := 128) (kN := fun _ _ _ => none) (kT := fun xs h st => app [2, 2, 0, 0, 1, 1, 1, 1, 0, 0] (fun v0 v1 v4 v5 v6 v7 => apS [] (k128 v0 v1 v4 v5 v6 v7 h) st) xs) (kR := kRV)
    (fun _ _ _ q => nos q)
    (fun xs h st q => jm [2, 2, 0, 0, 1, 1, 1, 1, 0, 0] _ (fun v0 v1 v4 v5 v6 v7 q => apS_ok [] _ (fun st => Ev (d + 2) none mX11_eatOn (0, 0) 128 [.ref v0, .ref v1, .null, .null, .int v4, .int v5, .int v6, .int v7, .null, .null] st h (QV z)) st (fun q => hk128 v0 v1 v4 v5 v6 v7 h q) q) q)
    kRV_ok (Or.inr rfl) (by decide +kernel) (by decide +kernel) hf
def wX11_eatOn_193 : List En := [(.iastore, 0, 0, 0), (.aload_n 0, 0, 0, 0), (.getfield 44, 202, 11, 27), (.iload 8, 0, 0, 0), (.dup2, 0, 0, 0), (.iaload, 0, 0, 0), (.iconst 1, 0, 0, 0), (.iadd, 0, 0, 0), (.iastore, 0, 0, 0), (.iinc 5 (-1), 0, 0, 0), (.iconst 1, 0, 0, 0), (.istore 6, 0, 0, 0)]
def fX11_eatOn_193 (k112 : Nat → Nat → Int32 → Int32 → Int32 → aH → Option (aH)) (k128 : Nat → Nat → Int32 → Int32 → Int32 → Int32 → aH → Option (aH)) (v0 : Nat) (v1 : Nat) (v4 : Int32) (v5 : Int32) (v7 : Int32) (v8 : Int32) (s0 : Int32) (s1 : Int32) (s2 : Nat) (h : aH) : Option (aH) :=
  (aWI h s2 s1 s0).bind fun h1 =>
  (gFR h1 11 v0 27).bind fun t2 =>
  (aRI (h1[t2]?) v8).bind fun t3 =>
  (aWI h1 t2 v8 (t3 + (kI 1))).bind fun h4 =>
  fX11_eatOn_211 k112 k128 v0 v1 v4 (v5 + kI (-1)) (kI 1) v7 h4
theorem tX11_eatOn_193 {d : Nat} {z : aH} {k112 : Nat → Nat → Int32 → Int32 → Int32 → aH → Option (aH)} {k128 : Nat → Nat → Int32 → Int32 → Int32 → Int32 → aH → Option (aH)} (hk112 : ∀ (v0 : Nat) (v1 : Nat) (v4 : Int32) (v5 : Int32) (v6 : Int32) (h : aH), k112 v0 v1 v4 v5 v6 h = some z → Ev (d + 2) none mX11_eatOn (0, 0) 112 [.ref v0, .ref v1, .null, .null, .int v4, .int v5, .int v6, .null, .null, .null] [] h (QV z)) (hk128 : ∀ (v0 : Nat) (v1 : Nat) (v4 : Int32) (v5 : Int32) (v6 : Int32) (v7 : Int32) (h : aH), k128 v0 v1 v4 v5 v6 v7 h = some z → Ev (d + 2) none mX11_eatOn (0, 0) 128 [.ref v0, .ref v1, .null, .null, .int v4, .int v5, .int v6, .int v7, .null, .null] [] h (QV z)) (v0 : Nat) (v1 : Nat) (v4 : Int32) (v5 : Int32) (v7 : Int32) (v8 : Int32) (s0 : Int32) (s1 : Int32) (s2 : Nat) (h : aH) (hf : fX11_eatOn_193 k112 k128 v0 v1 v4 v5 v7 v8 s0 s1 s2 h = some z) : Ev (d + 2) none mX11_eatOn (0, 0) 193 [.ref v0, .ref v1, .null, .null, .int v4, .int v5, .null, .int v7, .int v8, .null] [.int s0, .int s1, .ref s2] h (QV z) := 
  go_ok (X := none) (blk := wX11_eatOn_193) (np := 211) (tt := 0) (kN := fun xs h st => app [2, 2, 0, 0, 1, 1, 1, 1, 0, 0] (fun v0 v1 v4 v5 v6 v7 => apS [] (fX11_eatOn_211 k112 k128 v0 v1 v4 v5 v6 v7 h) st) xs) (kT := fun _ _ _ => none) (kR := kRV)
    (fun xs h st q => jm [2, 2, 0, 0, 1, 1, 1, 1, 0, 0] _ (fun v0 v1 v4 v5 v6 v7 q => apS_ok [] _ (fun st => Ev (d + 2) none mX11_eatOn (0, 0) 211 [.ref v0, .ref v1, .null, .null, .int v4, .int v5, .int v6, .int v7, .null, .null] st h (QV z)) st (fun q => tX11_eatOn_211 hk112 hk128 v0 v1 v4 v5 v6 v7 h q) q) q)
    (fun _ _ _ q => nos q)
    kRV_ok (Or.inr rfl) (by decide +kernel) (by decide +kernel) hf
def wX11_eatOn_192 : List En := [(.iconst 0, 0, 0, 0)]
def fX11_eatOn_192 (k112 : Nat → Nat → Int32 → Int32 → Int32 → aH → Option (aH)) (k128 : Nat → Nat → Int32 → Int32 → Int32 → Int32 → aH → Option (aH)) (v0 : Nat) (v1 : Nat) (v4 : Int32) (v5 : Int32) (v7 : Int32) (v8 : Int32) (s0 : Int32) (s1 : Nat) (h : aH) : Option (aH) :=
  fX11_eatOn_193 k112 k128 v0 v1 v4 v5 v7 v8 (kI 0) s0 s1 h
theorem tX11_eatOn_192 {d : Nat} {z : aH} {k112 : Nat → Nat → Int32 → Int32 → Int32 → aH → Option (aH)} {k128 : Nat → Nat → Int32 → Int32 → Int32 → Int32 → aH → Option (aH)} (hk112 : ∀ (v0 : Nat) (v1 : Nat) (v4 : Int32) (v5 : Int32) (v6 : Int32) (h : aH), k112 v0 v1 v4 v5 v6 h = some z → Ev (d + 2) none mX11_eatOn (0, 0) 112 [.ref v0, .ref v1, .null, .null, .int v4, .int v5, .int v6, .null, .null, .null] [] h (QV z)) (hk128 : ∀ (v0 : Nat) (v1 : Nat) (v4 : Int32) (v5 : Int32) (v6 : Int32) (v7 : Int32) (h : aH), k128 v0 v1 v4 v5 v6 v7 h = some z → Ev (d + 2) none mX11_eatOn (0, 0) 128 [.ref v0, .ref v1, .null, .null, .int v4, .int v5, .int v6, .int v7, .null, .null] [] h (QV z)) (v0 : Nat) (v1 : Nat) (v4 : Int32) (v5 : Int32) (v7 : Int32) (v8 : Int32) (s0 : Int32) (s1 : Nat) (h : aH) (hf : fX11_eatOn_192 k112 k128 v0 v1 v4 v5 v7 v8 s0 s1 h = some z) : Ev (d + 2) none mX11_eatOn (0, 0) 192 [.ref v0, .ref v1, .null, .null, .int v4, .int v5, .null, .int v7, .int v8, .null] [.int s0, .ref s1] h (QV z) := 
  go_ok (X := none) (blk := wX11_eatOn_192) (np := 193) (tt := 0) (kN := fun xs h st => app [2, 2, 0, 0, 1, 1, 0, 1, 1, 0] (fun v0 v1 v4 v5 v7 v8 => apS [1, 1, 2] (fun s0 s1 s2 => fX11_eatOn_193 k112 k128 v0 v1 v4 v5 v7 v8 s0 s1 s2 h) st) xs) (kT := fun _ _ _ => none) (kR := kRV)
    (fun xs h st q => jm [2, 2, 0, 0, 1, 1, 0, 1, 1, 0] _ (fun v0 v1 v4 v5 v7 v8 q => apS_ok [1, 1, 2] _ (fun st => Ev (d + 2) none mX11_eatOn (0, 0) 193 [.ref v0, .ref v1, .null, .null, .int v4, .int v5, .null, .int v7, .int v8, .null] st h (QV z)) st (fun s0 s1 s2 q => tX11_eatOn_193 hk112 hk128 v0 v1 v4 v5 v7 v8 s0 s1 s2 h q) q) q)
    (fun _ _ _ q => nos q)
    kRV_ok (Or.inr rfl) (by decide +kernel) (by decide +kernel) hf
def wX11_eatOn_182 : List En := [(.aload_n 1, 0, 0, 0), (.iload 8, 0, 0, 0), (.iaload, 0, 0, 0), (.iload 9, 0, 0, 0), (.isub, 0, 0, 0), (.goto 4, 193, 0, 0)]
def fX11_eatOn_182 (k112 : Nat → Nat → Int32 → Int32 → Int32 → aH → Option (aH)) (k128 : Nat → Nat → Int32 → Int32 → Int32 → Int32 → aH → Option (aH)) (v0 : Nat) (v1 : Nat) (v4 : Int32) (v5 : Int32) (v7 : Int32) (v8 : Int32) (v9 : Int32) (s0 : Int32) (s1 : Nat) (h : aH) : Option (aH) :=
  (aRI (h[v1]?) v8).bind fun t1 =>
  fX11_eatOn_193 k112 k128 v0 v1 v4 v5 v7 v8 (t1 - v9) s0 s1 h
theorem tX11_eatOn_182 {d : Nat} {z : aH} {k112 : Nat → Nat → Int32 → Int32 → Int32 → aH → Option (aH)} {k128 : Nat → Nat → Int32 → Int32 → Int32 → Int32 → aH → Option (aH)} (hk112 : ∀ (v0 : Nat) (v1 : Nat) (v4 : Int32) (v5 : Int32) (v6 : Int32) (h : aH), k112 v0 v1 v4 v5 v6 h = some z → Ev (d + 2) none mX11_eatOn (0, 0) 112 [.ref v0, .ref v1, .null, .null, .int v4, .int v5, .int v6, .null, .null, .null] [] h (QV z)) (hk128 : ∀ (v0 : Nat) (v1 : Nat) (v4 : Int32) (v5 : Int32) (v6 : Int32) (v7 : Int32) (h : aH), k128 v0 v1 v4 v5 v6 v7 h = some z → Ev (d + 2) none mX11_eatOn (0, 0) 128 [.ref v0, .ref v1, .null, .null, .int v4, .int v5, .int v6, .int v7, .null, .null] [] h (QV z)) (v0 : Nat) (v1 : Nat) (v4 : Int32) (v5 : Int32) (v7 : Int32) (v8 : Int32) (v9 : Int32) (s0 : Int32) (s1 : Nat) (h : aH) (hf : fX11_eatOn_182 k112 k128 v0 v1 v4 v5 v7 v8 v9 s0 s1 h = some z) : Ev (d + 2) none mX11_eatOn (0, 0) 182 [.ref v0, .ref v1, .null, .null, .int v4, .int v5, .null, .int v7, .int v8, .int v9] [.int s0, .ref s1] h (QV z) := 
  go_ok (X := none) (blk := wX11_eatOn_182) (np := 192) (tt := 193) (kN := fun _ _ _ => none) (kT := fun xs h st => app [2, 2, 0, 0, 1, 1, 0, 1, 1, 0] (fun v0 v1 v4 v5 v7 v8 => apS [1, 1, 2] (fun s0 s1 s2 => fX11_eatOn_193 k112 k128 v0 v1 v4 v5 v7 v8 s0 s1 s2 h) st) xs) (kR := kRV)
    (fun _ _ _ q => nos q)
    (fun xs h st q => jm [2, 2, 0, 0, 1, 1, 0, 1, 1, 0] _ (fun v0 v1 v4 v5 v7 v8 q => apS_ok [1, 1, 2] _ (fun st => Ev (d + 2) none mX11_eatOn (0, 0) 193 [.ref v0, .ref v1, .null, .null, .int v4, .int v5, .null, .int v7, .int v8, .null] st h (QV z)) st (fun s0 s1 s2 q => tX11_eatOn_193 hk112 hk128 v0 v1 v4 v5 v7 v8 s0 s1 s2 h q) q) q)
    kRV_ok (Or.inr rfl) (by decide +kernel) (by decide +kernel) hf
def wX11_eatOn_159 : List En := [(.aload_n 1, 0, 0, 0), (.bipush 14, 0, 0, 0), (.aload_n 0, 0, 0, 0), (.getfield 257, 201, 11, 26), (.iadd, 0, 0, 0), (.iaload, 0, 0, 0), (.istore 9, 0, 0, 0), (.aload_n 1, 0, 0, 0), (.iload 8, 0, 0, 0), (.aload_n 1, 0, 0, 0), (.iload 8, 0, 0, 0), (.iaload, 0, 0, 0), (.iload 9, 0, 0, 0), (.if_icmp .le 13, 192, 0, 0)]
def fX11_eatOn_159 (k112 : Nat → Nat → Int32 → Int32 → Int32 → aH → Option (aH)) (k128 : Nat → Nat → Int32 → Int32 → Int32 → Int32 → aH → Option (aH)) (v0 : Nat) (v1 : Nat) (v4 : Int32) (v5 : Int32) (v7 : Int32) (v8 : Int32) (h : aH) : Option (aH) :=
  (gFI h 11 v0 26).bind fun t1 =>
  (aRI (h[v1]?) ((kB 14) + t1)).bind fun t2 =>
  (aRI (h[v1]?) v8).bind fun t3 =>
  if t2 < t3 then fX11_eatOn_182 k112 k128 v0 v1 v4 v5 v7 v8 t2 v8 v1 h else fX11_eatOn_192 k112 k128 v0 v1 v4 v5 v7 v8 v8 v1 h
theorem tX11_eatOn_159 {d : Nat} {z : aH} {k112 : Nat → Nat → Int32 → Int32 → Int32 → aH → Option (aH)} {k128 : Nat → Nat → Int32 → Int32 → Int32 → Int32 → aH → Option (aH)} (hk112 : ∀ (v0 : Nat) (v1 : Nat) (v4 : Int32) (v5 : Int32) (v6 : Int32) (h : aH), k112 v0 v1 v4 v5 v6 h = some z → Ev (d + 2) none mX11_eatOn (0, 0) 112 [.ref v0, .ref v1, .null, .null, .int v4, .int v5, .int v6, .null, .null, .null] [] h (QV z)) (hk128 : ∀ (v0 : Nat) (v1 : Nat) (v4 : Int32) (v5 : Int32) (v6 : Int32) (v7 : Int32) (h : aH), k128 v0 v1 v4 v5 v6 v7 h = some z → Ev (d + 2) none mX11_eatOn (0, 0) 128 [.ref v0, .ref v1, .null, .null, .int v4, .int v5, .int v6, .int v7, .null, .null] [] h (QV z)) (v0 : Nat) (v1 : Nat) (v4 : Int32) (v5 : Int32) (v7 : Int32) (v8 : Int32) (h : aH) (hf : fX11_eatOn_159 k112 k128 v0 v1 v4 v5 v7 v8 h = some z) : Ev (d + 2) none mX11_eatOn (0, 0) 159 [.ref v0, .ref v1, .null, .null, .int v4, .int v5, .null, .int v7, .int v8, .null] [] h (QV z) := 
  go_ok (X := none) (blk := wX11_eatOn_159) (np := 182) (tt := 192) (kN := fun xs h st => app [2, 2, 0, 0, 1, 1, 0, 1, 1, 1] (fun v0 v1 v4 v5 v7 v8 v9 => apS [1, 2] (fun s0 s1 => fX11_eatOn_182 k112 k128 v0 v1 v4 v5 v7 v8 v9 s0 s1 h) st) xs) (kT := fun xs h st => app [2, 2, 0, 0, 1, 1, 0, 1, 1, 0] (fun v0 v1 v4 v5 v7 v8 => apS [1, 2] (fun s0 s1 => fX11_eatOn_192 k112 k128 v0 v1 v4 v5 v7 v8 s0 s1 h) st) xs) (kR := kRV)
    (fun xs h st q => jm [2, 2, 0, 0, 1, 1, 0, 1, 1, 1] _ (fun v0 v1 v4 v5 v7 v8 v9 q => apS_ok [1, 2] _ (fun st => Ev (d + 2) none mX11_eatOn (0, 0) 182 [.ref v0, .ref v1, .null, .null, .int v4, .int v5, .null, .int v7, .int v8, .int v9] st h (QV z)) st (fun s0 s1 q => tX11_eatOn_182 hk112 hk128 v0 v1 v4 v5 v7 v8 v9 s0 s1 h q) q) q)
    (fun xs h st q => jm [2, 2, 0, 0, 1, 1, 0, 1, 1, 0] _ (fun v0 v1 v4 v5 v7 v8 q => apS_ok [1, 2] _ (fun st => Ev (d + 2) none mX11_eatOn (0, 0) 192 [.ref v0, .ref v1, .null, .null, .int v4, .int v5, .null, .int v7, .int v8, .null] st h (QV z)) st (fun s0 s1 q => tX11_eatOn_192 hk112 hk128 v0 v1 v4 v5 v7 v8 s0 s1 h q) q) q)
    kRV_ok (Or.inr rfl) (by decide +kernel) (by decide +kernel) hf
def wX11_eatOn_156 : List En := [(.goto 55, 211, 0, 0)]
def fX11_eatOn_156 (k112 : Nat → Nat → Int32 → Int32 → Int32 → aH → Option (aH)) (k128 : Nat → Nat → Int32 → Int32 → Int32 → Int32 → aH → Option (aH)) (v0 : Nat) (v1 : Nat) (v4 : Int32) (v5 : Int32) (v6 : Int32) (v7 : Int32) (h : aH) : Option (aH) :=
  fX11_eatOn_211 k112 k128 v0 v1 v4 v5 v6 v7 h
theorem tX11_eatOn_156 {d : Nat} {z : aH} {k112 : Nat → Nat → Int32 → Int32 → Int32 → aH → Option (aH)} {k128 : Nat → Nat → Int32 → Int32 → Int32 → Int32 → aH → Option (aH)} (hk112 : ∀ (v0 : Nat) (v1 : Nat) (v4 : Int32) (v5 : Int32) (v6 : Int32) (h : aH), k112 v0 v1 v4 v5 v6 h = some z → Ev (d + 2) none mX11_eatOn (0, 0) 112 [.ref v0, .ref v1, .null, .null, .int v4, .int v5, .int v6, .null, .null, .null] [] h (QV z)) (hk128 : ∀ (v0 : Nat) (v1 : Nat) (v4 : Int32) (v5 : Int32) (v6 : Int32) (v7 : Int32) (h : aH), k128 v0 v1 v4 v5 v6 v7 h = some z → Ev (d + 2) none mX11_eatOn (0, 0) 128 [.ref v0, .ref v1, .null, .null, .int v4, .int v5, .int v6, .int v7, .null, .null] [] h (QV z)) (v0 : Nat) (v1 : Nat) (v4 : Int32) (v5 : Int32) (v6 : Int32) (v7 : Int32) (h : aH) (hf : fX11_eatOn_156 k112 k128 v0 v1 v4 v5 v6 v7 h = some z) : Ev (d + 2) none mX11_eatOn (0, 0) 156 [.ref v0, .ref v1, .null, .null, .int v4, .int v5, .int v6, .int v7, .null, .null] [] h (QV z) := 
  go_ok (X := none) (blk := wX11_eatOn_156) (np := 159) (tt := 211) (kN := fun _ _ _ => none) (kT := fun xs h st => app [2, 2, 0, 0, 1, 1, 1, 1, 0, 0] (fun v0 v1 v4 v5 v6 v7 => apS [] (fX11_eatOn_211 k112 k128 v0 v1 v4 v5 v6 v7 h) st) xs) (kR := kRV)
    (fun _ _ _ q => nos q)
    (fun xs h st q => jm [2, 2, 0, 0, 1, 1, 1, 1, 0, 0] _ (fun v0 v1 v4 v5 v6 v7 q => apS_ok [] _ (fun st => Ev (d + 2) none mX11_eatOn (0, 0) 211 [.ref v0, .ref v1, .null, .null, .int v4, .int v5, .int v6, .int v7, .null, .null] st h (QV z)) st (fun q => tX11_eatOn_211 hk112 hk128 v0 v1 v4 v5 v6 v7 h q) q) q)
    kRV_ok (Or.inr rfl) (by decide +kernel) (by decide +kernel) hf
def wX11_eatOn_140 : List En := [(.aload_n 0, 0, 0, 0), (.getfield 47, 203, 11, 28), (.iload 7, 0, 0, 0), (.iaload, 0, 0, 0), (.istore 8, 0, 0, 0), (.aload_n 1, 0, 0, 0), (.iload 8, 0, 0, 0), (.iaload, 0, 0, 0), (.ifCond .ne 6, 159, 0, 0)]
def fX11_eatOn_140 (k112 : Nat → Nat → Int32 → Int32 → Int32 → aH → Option (aH)) (k128 : Nat → Nat → Int32 → Int32 → Int32 → Int32 → aH → Option (aH)) (v0 : Nat) (v1 : Nat) (v4 : Int32) (v5 : Int32) (v6 : Int32) (v7 : Int32) (h : aH) : Option (aH) :=
  (gFR h 11 v0 28).bind fun t1 =>
  (aRI (h[t1]?) v7).bind fun t2 =>
  (aRI (h[v1]?) t2).bind fun t3 =>
  if t3 = 0 then fX11_eatOn_156 k112 k128 v0 v1 v4 v5 v6 v7 h else fX11_eatOn_159 k112 k128 v0 v1 v4 v5 v7 t2 h
theorem tX11_eatOn_140 {d : Nat} {z : aH} {k112 : Nat → Nat → Int32 → Int32 → Int32 → aH → Option (aH)} {k128 : Nat → Nat → Int32 → Int32 → Int32 → Int32 → aH → Option (aH)} (hk112 : ∀ (v0 : Nat) (v1 : Nat) (v4 : Int32) (v5 : Int32) (v6 : Int32) (h : aH), k112 v0 v1 v4 v5 v6 h = some z → Ev (d + 2) none mX11_eatOn (0, 0) 112 [.ref v0, .ref v1, .null, .null, .int v4, .int v5, .int v6, .null, .null, .null] [] h (QV z)) (hk128 : ∀ (v0 : Nat) (v1 : Nat) (v4 : Int32) (v5 : Int32) (v6 : Int32) (v7 : Int32) (h : aH), k128 v0 v1 v4 v5 v6 v7 h = some z → Ev (d + 2) none mX11_eatOn (0, 0) 128 [.ref v0, .ref v1, .null, .null, .int v4, .int v5, .int v6, .int v7, .null, .null] [] h (QV z)) (v0 : Nat) (v1 : Nat) (v4 : Int32) (v5 : Int32) (v6 : Int32) (v7 : Int32) (h : aH) (hf : fX11_eatOn_140 k112 k128 v0 v1 v4 v5 v6 v7 h = some z) : Ev (d + 2) none mX11_eatOn (0, 0) 140 [.ref v0, .ref v1, .null, .null, .int v4, .int v5, .int v6, .int v7, .null, .null] [] h (QV z) := 
  go_ok (X := none) (blk := wX11_eatOn_140) (np := 156) (tt := 159) (kN := fun xs h st => app [2, 2, 0, 0, 1, 1, 1, 1, 0, 0] (fun v0 v1 v4 v5 v6 v7 => apS [] (fX11_eatOn_156 k112 k128 v0 v1 v4 v5 v6 v7 h) st) xs) (kT := fun xs h st => app [2, 2, 0, 0, 1, 1, 0, 1, 1, 0] (fun v0 v1 v4 v5 v7 v8 => apS [] (fX11_eatOn_159 k112 k128 v0 v1 v4 v5 v7 v8 h) st) xs) (kR := kRV)
    (fun xs h st q => jm [2, 2, 0, 0, 1, 1, 1, 1, 0, 0] _ (fun v0 v1 v4 v5 v6 v7 q => apS_ok [] _ (fun st => Ev (d + 2) none mX11_eatOn (0, 0) 156 [.ref v0, .ref v1, .null, .null, .int v4, .int v5, .int v6, .int v7, .null, .null] st h (QV z)) st (fun q => tX11_eatOn_156 hk112 hk128 v0 v1 v4 v5 v6 v7 h q) q) q)
    (fun xs h st q => jm [2, 2, 0, 0, 1, 1, 0, 1, 1, 0] _ (fun v0 v1 v4 v5 v7 v8 q => apS_ok [] _ (fun st => Ev (d + 2) none mX11_eatOn (0, 0) 159 [.ref v0, .ref v1, .null, .null, .int v4, .int v5, .null, .int v7, .int v8, .null] st h (QV z)) st (fun q => tX11_eatOn_159 hk112 hk128 v0 v1 v4 v5 v7 v8 h q) q) q)
    kRV_ok (Or.inr rfl) (by decide +kernel) (by decide +kernel) hf
def wX11_eatOn_135 : List En := [(.iload 5, 0, 0, 0), (.ifCond .le 80, 217, 0, 0)]
def fX11_eatOn_135 (k112 : Nat → Nat → Int32 → Int32 → Int32 → aH → Option (aH)) (k128 : Nat → Nat → Int32 → Int32 → Int32 → Int32 → aH → Option (aH)) (v0 : Nat) (v1 : Nat) (v4 : Int32) (v5 : Int32) (v6 : Int32) (v7 : Int32) (h : aH) : Option (aH) :=
  if 0 < v5 then fX11_eatOn_140 k112 k128 v0 v1 v4 v5 v6 v7 h else fX11_eatOn_217 k112 v0 v1 v4 v5 v6 h
theorem tX11_eatOn_135 {d : Nat} {z : aH} {k112 : Nat → Nat → Int32 → Int32 → Int32 → aH → Option (aH)} {k128 : Nat → Nat → Int32 → Int32 → Int32 → Int32 → aH → Option (aH)} (hk112 : ∀ (v0 : Nat) (v1 : Nat) (v4 : Int32) (v5 : Int32) (v6 : Int32) (h : aH), k112 v0 v1 v4 v5 v6 h = some z → Ev (d + 2) none mX11_eatOn (0, 0) 112 [.ref v0, .ref v1, .null, .null, .int v4, .int v5, .int v6, .null, .null, .null] [] h (QV z)) (hk128 : ∀ (v0 : Nat) (v1 : Nat) (v4 : Int32) (v5 : Int32) (v6 : Int32) (v7 : Int32) (h : aH), k128 v0 v1 v4 v5 v6 v7 h = some z → Ev (d + 2) none mX11_eatOn (0, 0) 128 [.ref v0, .ref v1, .null, .null, .int v4, .int v5, .int v6, .int v7, .null, .null] [] h (QV z)) (v0 : Nat) (v1 : Nat) (v4 : Int32) (v5 : Int32) (v6 : Int32) (v7 : Int32) (h : aH) (hf : fX11_eatOn_135 k112 k128 v0 v1 v4 v5 v6 v7 h = some z) : Ev (d + 2) none mX11_eatOn (0, 0) 135 [.ref v0, .ref v1, .null, .null, .int v4, .int v5, .int v6, .int v7, .null, .null] [] h (QV z) := 
  go_ok (X := none) (blk := wX11_eatOn_135) (np := 140) (tt := 217) (kN := fun xs h st => app [2, 2, 0, 0, 1, 1, 1, 1, 0, 0] (fun v0 v1 v4 v5 v6 v7 => apS [] (fX11_eatOn_140 k112 k128 v0 v1 v4 v5 v6 v7 h) st) xs) (kT := fun xs h st => app [2, 2, 0, 0, 1, 1, 1, 0, 0, 0] (fun v0 v1 v4 v5 v6 => apS [] (fX11_eatOn_217 k112 v0 v1 v4 v5 v6 h) st) xs) (kR := kRV)
    (fun xs h st q => jm [2, 2, 0, 0, 1, 1, 1, 1, 0, 0] _ (fun v0 v1 v4 v5 v6 v7 q => apS_ok [] _ (fun st => Ev (d + 2) none mX11_eatOn (0, 0) 140 [.ref v0, .ref v1, .null, .null, .int v4, .int v5, .int v6, .int v7, .null, .null] st h (QV z)) st (fun q => tX11_eatOn_140 hk112 hk128 v0 v1 v4 v5 v6 v7 h q) q) q)
    (fun xs h st q => jm [2, 2, 0, 0, 1, 1, 1, 0, 0, 0] _ (fun v0 v1 v4 v5 v6 q => apS_ok [] _ (fun st => Ev (d + 2) none mX11_eatOn (0, 0) 217 [.ref v0, .ref v1, .null, .null, .int v4, .int v5, .int v6, .null, .null, .null] st h (QV z)) st (fun q => tX11_eatOn_217 hk112 v0 v1 v4 v5 v6 h q) q) q)
    kRV_ok (Or.inr rfl) (by decide +kernel) (by decide +kernel) hf
def wX11_eatOn_128 : List En := [(.iload 7, 0, 0, 0), (.iload 4, 0, 0, 0), (.if_icmp .ge 85, 217, 0, 0)]
def fX11_eatOn_128 (k112 : Nat → Nat → Int32 → Int32 → Int32 → aH → Option (aH)) (k128 : Nat → Nat → Int32 → Int32 → Int32 → Int32 → aH → Option (aH)) (v0 : Nat) (v1 : Nat) (v4 : Int32) (v5 : Int32) (v6 : Int32) (v7 : Int32) (h : aH) : Option (aH) :=
  if v7 < v4 then fX11_eatOn_135 k112 k128 v0 v1 v4 v5 v6 v7 h else fX11_eatOn_217 k112 v0 v1 v4 v5 v6 h
theorem tX11_eatOn_128 {d : Nat} {z : aH} {k112 : Nat → Nat → Int32 → Int32 → Int32 → aH → Option (aH)} {k128 : Nat → Nat → Int32 → Int32 → Int32 → Int32 → aH → Option (aH)} (hk112 : ∀ (v0 : Nat) (v1 : Nat) (v4 : Int32) (v5 : Int32) (v6 : Int32) (h : aH), k112 v0 v1 v4 v5 v6 h = some z → Ev (d + 2) none mX11_eatOn (0, 0) 112 [.ref v0, .ref v1, .null, .null, .int v4, .int v5, .int v6, .null, .null, .null] [] h (QV z)) (hk128 : ∀ (v0 : Nat) (v1 : Nat) (v4 : Int32) (v5 : Int32) (v6 : Int32) (v7 : Int32) (h : aH), k128 v0 v1 v4 v5 v6 v7 h = some z → Ev (d + 2) none mX11_eatOn (0, 0) 128 [.ref v0, .ref v1, .null, .null, .int v4, .int v5, .int v6, .int v7, .null, .null] [] h (QV z)) (v0 : Nat) (v1 : Nat) (v4 : Int32) (v5 : Int32) (v6 : Int32) (v7 : Int32) (h : aH) (hf : fX11_eatOn_128 k112 k128 v0 v1 v4 v5 v6 v7 h = some z) : Ev (d + 2) none mX11_eatOn (0, 0) 128 [.ref v0, .ref v1, .null, .null, .int v4, .int v5, .int v6, .int v7, .null, .null] [] h (QV z) := 
  go_ok (X := none) (blk := wX11_eatOn_128) (np := 135) (tt := 217) (kN := fun xs h st => app [2, 2, 0, 0, 1, 1, 1, 1, 0, 0] (fun v0 v1 v4 v5 v6 v7 => apS [] (fX11_eatOn_135 k112 k128 v0 v1 v4 v5 v6 v7 h) st) xs) (kT := fun xs h st => app [2, 2, 0, 0, 1, 1, 1, 0, 0, 0] (fun v0 v1 v4 v5 v6 => apS [] (fX11_eatOn_217 k112 v0 v1 v4 v5 v6 h) st) xs) (kR := kRV)
    (fun xs h st q => jm [2, 2, 0, 0, 1, 1, 1, 1, 0, 0] _ (fun v0 v1 v4 v5 v6 v7 q => apS_ok [] _ (fun st => Ev (d + 2) none mX11_eatOn (0, 0) 135 [.ref v0, .ref v1, .null, .null, .int v4, .int v5, .int v6, .int v7, .null, .null] st h (QV z)) st (fun q => tX11_eatOn_135 hk112 hk128 v0 v1 v4 v5 v6 v7 h q) q) q)
    (fun xs h st q => jm [2, 2, 0, 0, 1, 1, 1, 0, 0, 0] _ (fun v0 v1 v4 v5 v6 q => apS_ok [] _ (fun st => Ev (d + 2) none mX11_eatOn (0, 0) 217 [.ref v0, .ref v1, .null, .null, .int v4, .int v5, .int v6, .null, .null, .null] st h (QV z)) st (fun q => tX11_eatOn_217 hk112 v0 v1 v4 v5 v6 h q) q) q)
    kRV_ok (Or.inr rfl) (by decide +kernel) (by decide +kernel) hf
def lX11_eatOn_128 (k112 : Nat → Nat → Int32 → Int32 → Int32 → aH → Option (aH)) : Nat → Nat → Nat → Int32 → Int32 → Int32 → Int32 → aH → Option (aH)
  | 0, _, _, _, _, _, _, _ => none
  | n + 1, v0, v1, v4, v5, v6, v7, h => fX11_eatOn_128 k112 (lX11_eatOn_128 k112 n) v0 v1 v4 v5 v6 v7 h
theorem uX11_eatOn_128 {d : Nat} {z : aH} {k112 : Nat → Nat → Int32 → Int32 → Int32 → aH → Option (aH)} (hk112 : ∀ (v0 : Nat) (v1 : Nat) (v4 : Int32) (v5 : Int32) (v6 : Int32) (h : aH), k112 v0 v1 v4 v5 v6 h = some z → Ev (d + 2) none mX11_eatOn (0, 0) 112 [.ref v0, .ref v1, .null, .null, .int v4, .int v5, .int v6, .null, .null, .null] [] h (QV z)) : ∀ (n : Nat) (v0 : Nat) (v1 : Nat) (v4 : Int32) (v5 : Int32) (v6 : Int32) (v7 : Int32) (h : aH), lX11_eatOn_128 k112 n v0 v1 v4 v5 v6 v7 h = some z → Ev (d + 2) none mX11_eatOn (0, 0) 128 [.ref v0, .ref v1, .null, .null, .int v4, .int v5, .int v6, .int v7, .null, .null] [] h (QV z) := by
  intro n
  induction n with
  | zero => intro _ _ _ _ _ _ _ q; exact nos (show (none : Option (aH)) = some z from q)
  | succ n ih => intro v0 v1 v4 v5 v6 v7 h q; exact tX11_eatOn_128 hk112 ih v0 v1 v4 v5 v6 v7 h q
def wX11_eatOn_122 : List En := [(.iconst 0, 0, 0, 0), (.istore 6, 0, 0, 0), (.iconst 0, 0, 0, 0), (.istore 7, 0, 0, 0)]
def fX11_eatOn_122 (k112 : Nat → Nat → Int32 → Int32 → Int32 → aH → Option (aH)) (v0 : Nat) (v1 : Nat) (v4 : Int32) (v5 : Int32) (h : aH) : Option (aH) :=
  lX11_eatOn_128 k112 FU v0 v1 v4 v5 (kI 0) (kI 0) h
theorem tX11_eatOn_122 {d : Nat} {z : aH} {k112 : Nat → Nat → Int32 → Int32 → Int32 → aH → Option (aH)} (hk112 : ∀ (v0 : Nat) (v1 : Nat) (v4 : Int32) (v5 : Int32) (v6 : Int32) (h : aH), k112 v0 v1 v4 v5 v6 h = some z → Ev (d + 2) none mX11_eatOn (0, 0) 112 [.ref v0, .ref v1, .null, .null, .int v4, .int v5, .int v6, .null, .null, .null] [] h (QV z)) (v0 : Nat) (v1 : Nat) (v4 : Int32) (v5 : Int32) (h : aH) (hf : fX11_eatOn_122 k112 v0 v1 v4 v5 h = some z) : Ev (d + 2) none mX11_eatOn (0, 0) 122 [.ref v0, .ref v1, .null, .null, .int v4, .int v5, .null, .null, .null, .null] [] h (QV z) := 
  go_ok (X := none) (blk := wX11_eatOn_122) (np := 128) (tt := 0) (kN := fun xs h st => app [2, 2, 0, 0, 1, 1, 1, 1, 0, 0] (fun v0 v1 v4 v5 v6 v7 => apS [] (lX11_eatOn_128 k112 FU v0 v1 v4 v5 v6 v7 h) st) xs) (kT := fun _ _ _ => none) (kR := kRV)
    (fun xs h st q => jm [2, 2, 0, 0, 1, 1, 1, 1, 0, 0] _ (fun v0 v1 v4 v5 v6 v7 q => apS_ok [] _ (fun st => Ev (d + 2) none mX11_eatOn (0, 0) 128 [.ref v0, .ref v1, .null, .null, .int v4, .int v5, .int v6, .int v7, .null, .null] st h (QV z)) st (fun q => uX11_eatOn_128 hk112 FU v0 v1 v4 v5 v6 v7 h q) q) q)
    (fun _ _ _ q => nos q)
    kRV_ok (Or.inr rfl) (by decide +kernel) (by decide +kernel) hf
def wX11_eatOn_117 : List En := [(.iload 6, 0, 0, 0), (.ifCond .eq 101, 220, 0, 0)]
def fX11_eatOn_117 (k112 : Nat → Nat → Int32 → Int32 → Int32 → aH → Option (aH)) (v0 : Nat) (v1 : Nat) (v4 : Int32) (v5 : Int32) (v6 : Int32) (h : aH) : Option (aH) :=
  if v6 = 0 then fX11_eatOn_220 v1 v5 h else fX11_eatOn_122 k112 v0 v1 v4 v5 h
theorem tX11_eatOn_117 {d : Nat} {z : aH} {k112 : Nat → Nat → Int32 → Int32 → Int32 → aH → Option (aH)} (hk112 : ∀ (v0 : Nat) (v1 : Nat) (v4 : Int32) (v5 : Int32) (v6 : Int32) (h : aH), k112 v0 v1 v4 v5 v6 h = some z → Ev (d + 2) none mX11_eatOn (0, 0) 112 [.ref v0, .ref v1, .null, .null, .int v4, .int v5, .int v6, .null, .null, .null] [] h (QV z)) (v0 : Nat) (v1 : Nat) (v4 : Int32) (v5 : Int32) (v6 : Int32) (h : aH) (hf : fX11_eatOn_117 k112 v0 v1 v4 v5 v6 h = some z) : Ev (d + 2) none mX11_eatOn (0, 0) 117 [.ref v0, .ref v1, .null, .null, .int v4, .int v5, .int v6, .null, .null, .null] [] h (QV z) := 
  go_ok (X := none) (blk := wX11_eatOn_117) (np := 122) (tt := 220) (kN := fun xs h st => app [2, 2, 0, 0, 1, 1, 0, 0, 0, 0] (fun v0 v1 v4 v5 => apS [] (fX11_eatOn_122 k112 v0 v1 v4 v5 h) st) xs) (kT := fun xs h st => app [0, 2, 0, 0, 0, 1, 0, 0, 0, 0] (fun v1 v5 => apS [] (fX11_eatOn_220 v1 v5 h) st) xs) (kR := kRV)
    (fun xs h st q => jm [2, 2, 0, 0, 1, 1, 0, 0, 0, 0] _ (fun v0 v1 v4 v5 q => apS_ok [] _ (fun st => Ev (d + 2) none mX11_eatOn (0, 0) 122 [.ref v0, .ref v1, .null, .null, .int v4, .int v5, .null, .null, .null, .null] st h (QV z)) st (fun q => tX11_eatOn_122 hk112 v0 v1 v4 v5 h q) q) q)
    (fun xs h st q => jm [0, 2, 0, 0, 0, 1, 0, 0, 0, 0] _ (fun v1 v5 q => apS_ok [] _ (fun st => Ev (d + 2) none mX11_eatOn (0, 0) 220 [.null, .ref v1, .null, .null, .null, .int v5, .null, .null, .null, .null] st h (QV z)) st (fun q => tX11_eatOn_220 v1 v5 h q) q) q)
    kRV_ok (Or.inr rfl) (by decide +kernel) (by decide +kernel) hf
def wX11_eatOn_112 : List En := [(.iload 5, 0, 0, 0), (.ifCond .le 106, 220, 0, 0)]
def fX11_eatOn_112 (k112 : Nat → Nat → Int32 → Int32 → Int32 → aH → Option (aH)) (v0 : Nat) (v1 : Nat) (v4 : Int32) (v5 : Int32) (v6 : Int32) (h : aH) : Option (aH) :=
  if 0 < v5 then fX11_eatOn_117 k112 v0 v1 v4 v5 v6 h else fX11_eatOn_220 v1 v5 h
theorem tX11_eatOn_112 {d : Nat} {z : aH} {k112 : Nat → Nat → Int32 → Int32 → Int32 → aH → Option (aH)} (hk112 : ∀ (v0 : Nat) (v1 : Nat) (v4 : Int32) (v5 : Int32) (v6 : Int32) (h : aH), k112 v0 v1 v4 v5 v6 h = some z → Ev (d + 2) none mX11_eatOn (0, 0) 112 [.ref v0, .ref v1, .null, .null, .int v4, .int v5, .int v6, .null, .null, .null] [] h (QV z)) (v0 : Nat) (v1 : Nat) (v4 : Int32) (v5 : Int32) (v6 : Int32) (h : aH) (hf : fX11_eatOn_112 k112 v0 v1 v4 v5 v6 h = some z) : Ev (d + 2) none mX11_eatOn (0, 0) 112 [.ref v0, .ref v1, .null, .null, .int v4, .int v5, .int v6, .null, .null, .null] [] h (QV z) := 
  go_ok (X := none) (blk := wX11_eatOn_112) (np := 117) (tt := 220) (kN := fun xs h st => app [2, 2, 0, 0, 1, 1, 1, 0, 0, 0] (fun v0 v1 v4 v5 v6 => apS [] (fX11_eatOn_117 k112 v0 v1 v4 v5 v6 h) st) xs) (kT := fun xs h st => app [0, 2, 0, 0, 0, 1, 0, 0, 0, 0] (fun v1 v5 => apS [] (fX11_eatOn_220 v1 v5 h) st) xs) (kR := kRV)
    (fun xs h st q => jm [2, 2, 0, 0, 1, 1, 1, 0, 0, 0] _ (fun v0 v1 v4 v5 v6 q => apS_ok [] _ (fun st => Ev (d + 2) none mX11_eatOn (0, 0) 117 [.ref v0, .ref v1, .null, .null, .int v4, .int v5, .int v6, .null, .null, .null] st h (QV z)) st (fun q => tX11_eatOn_117 hk112 v0 v1 v4 v5 v6 h q) q) q)
    (fun xs h st q => jm [0, 2, 0, 0, 0, 1, 0, 0, 0, 0] _ (fun v1 v5 q => apS_ok [] _ (fun st => Ev (d + 2) none mX11_eatOn (0, 0) 220 [.null, .ref v1, .null, .null, .null, .int v5, .null, .null, .null, .null] st h (QV z)) st (fun q => tX11_eatOn_220 v1 v5 h q) q) q)
    kRV_ok (Or.inr rfl) (by decide +kernel) (by decide +kernel) hf
def lX11_eatOn_112 : Nat → Nat → Nat → Int32 → Int32 → Int32 → aH → Option (aH)
  | 0, _, _, _, _, _, _ => none
  | n + 1, v0, v1, v4, v5, v6, h => fX11_eatOn_112 (lX11_eatOn_112 n) v0 v1 v4 v5 v6 h
theorem uX11_eatOn_112 {d : Nat} {z : aH} : ∀ (n : Nat) (v0 : Nat) (v1 : Nat) (v4 : Int32) (v5 : Int32) (v6 : Int32) (h : aH), lX11_eatOn_112 n v0 v1 v4 v5 v6 h = some z → Ev (d + 2) none mX11_eatOn (0, 0) 112 [.ref v0, .ref v1, .null, .null, .int v4, .int v5, .int v6, .null, .null, .null] [] h (QV z) := by
  intro n
  induction n with
  | zero => intro _ _ _ _ _ _ q; exact nos (show (none : Option (aH)) = some z from q)
  | succ n ih => intro v0 v1 v4 v5 v6 h q; exact tX11_eatOn_112 ih v0 v1 v4 v5 v6 h q
def wX11_eatOn_106 : List En := [(.iload_n 3, 0, 0, 0), (.istore 5, 0, 0, 0), (.iconst 1, 0, 0, 0), (.istore 6, 0, 0, 0)]
def fX11_eatOn_106 (v0 : Nat) (v1 : Nat) (v3 : Int32) (v4 : Int32) (h : aH) : Option (aH) :=
  lX11_eatOn_112 FU v0 v1 v4 v3 (kI 1) h
theorem tX11_eatOn_106 {d : Nat} {z : aH} (v0 : Nat) (v1 : Nat) (v3 : Int32) (v4 : Int32) (h : aH) (hf : fX11_eatOn_106 v0 v1 v3 v4 h = some z) : Ev (d + 2) none mX11_eatOn (0, 0) 106 [.ref v0, .ref v1, .null, .int v3, .int v4, .null, .null, .null, .null, .null] [] h (QV z) := 
  go_ok (X := none) (blk := wX11_eatOn_106) (np := 112) (tt := 0) (kN := fun xs h st => app [2, 2, 0, 0, 1, 1, 1, 0, 0, 0] (fun v0 v1 v4 v5 v6 => apS [] (lX11_eatOn_112 FU v0 v1 v4 v5 v6 h) st) xs) (kT := fun _ _ _ => none) (kR := kRV)
    (fun xs h st q => jm [2, 2, 0, 0, 1, 1, 1, 0, 0, 0] _ (fun v0 v1 v4 v5 v6 q => apS_ok [] _ (fun st => Ev (d + 2) none mX11_eatOn (0, 0) 112 [.ref v0, .ref v1, .null, .null, .int v4, .int v5, .int v6, .null, .null, .null] st h (QV z)) st (fun q => uX11_eatOn_112 FU v0 v1 v4 v5 v6 h q) q) q)
    (fun _ _ _ q => nos q)
    kRV_ok (Or.inr rfl) (by decide +kernel) (by decide +kernel) hf
def wX11_eatOn_100 : List En := [(.iinc 5 1, 0, 0, 0), (.goto (-97), 6, 0, 0)]
def fX11_eatOn_100 (k6 : Nat → Nat → Int32 → Int32 → Int32 → Int32 → aH → Option (aH)) (v0 : Nat) (v1 : Nat) (v2 : Int32) (v3 : Int32) (v4 : Int32) (v5 : Int32) (h : aH) : Option (aH) :=
  k6 v0 v1 v2 v3 v4 (v5 + kI 1) h
theorem tX11_eatOn_100 {d : Nat} {z : aH} {k6 : Nat → Nat → Int32 → Int32 → Int32 → Int32 → aH → Option (aH)} (hk6 : ∀ (v0 : Nat) (v1 : Nat) (v2 : Int32) (v3 : Int32) (v4 : Int32) (v5 : Int32) (h : aH), k6 v0 v1 v2 v3 v4 v5 h = some z → Ev (d + 2) none mX11_eatOn (0, 0) 6 [.ref v0, .ref v1, .int v2, .int v3, .int v4, .int v5, .null, .null, .null, .null] [] h (QV z)) (v0 : Nat) (v1 : Nat) (v2 : Int32) (v3 : Int32) (v4 : Int32) (v5 : Int32) (h : aH) (hf : fX11_eatOn_100 k6 v0 v1 v2 v3 v4 v5 h = some z) : Ev (d + 2) none mX11_eatOn (0, 0) 100 [.ref v0, .ref v1, .int v2, .int v3, .int v4, .int v5, .null, .null, .null, .null] [] h (QV z) := 
  go_ok (X := none) (blk := wX11_eatOn_100) (np := 106) (tt := 6) (kN := fun _ _ _ => none) (kT := fun xs h st => app [2, 2, 1, 1, 1, 1, 0, 0, 0, 0] (fun v0 v1 v2 v3 v4 v5 => apS [] (k6 v0 v1 v2 v3 v4 v5 h) st) xs) (kR := kRV)
    (fun _ _ _ q => nos q)
    (fun xs h st q => jm [2, 2, 1, 1, 1, 1, 0, 0, 0, 0] _ (fun v0 v1 v2 v3 v4 v5 q => apS_ok [] _ (fun st => Ev (d + 2) none mX11_eatOn (0, 0) 6 [.ref v0, .ref v1, .int v2, .int v3, .int v4, .int v5, .null, .null, .null, .null] st h (QV z)) st (fun q => hk6 v0 v1 v2 v3 v4 v5 h q) q) q)
    kRV_ok (Or.inr rfl) (by decide +kernel) (by decide +kernel) hf
def wX11_eatOn_88 : List En := [(.aload_n 0, 0, 0, 0), (.getfield 47, 203, 11, 28), (.iload 6, 0, 0, 0), (.iload 5, 0, 0, 0), (.iastore, 0, 0, 0), (.iinc 4 1, 0, 0, 0)]
def fX11_eatOn_88 (k6 : Nat → Nat → Int32 → Int32 → Int32 → Int32 → aH → Option (aH)) (v0 : Nat) (v1 : Nat) (v2 : Int32) (v3 : Int32) (v4 : Int32) (v5 : Int32) (v6 : Int32) (h : aH) : Option (aH) :=
  (gFR h 11 v0 28).bind fun t1 =>
  (aWI h t1 v6 v5).bind fun h2 =>
  fX11_eatOn_100 k6 v0 v1 v2 v3 (v4 + kI 1) v5 h2
theorem tX11_eatOn_88 {d : Nat} {z : aH} {k6 : Nat → Nat → Int32 → Int32 → Int32 → Int32 → aH → Option (aH)} (hk6 : ∀ (v0 : Nat) (v1 : Nat) (v2 : Int32) (v3 : Int32) (v4 : Int32) (v5 : Int32) (h : aH), k6 v0 v1 v2 v3 v4 v5 h = some z → Ev (d + 2) none mX11_eatOn (0, 0) 6 [.ref v0, .ref v1, .int v2, .int v3, .int v4, .int v5, .null, .null, .null, .null] [] h (QV z)) (v0 : Nat) (v1 : Nat) (v2 : Int32) (v3 : Int32) (v4 : Int32) (v5 : Int32) (v6 : Int32) (h : aH) (hf : fX11_eatOn_88 k6 v0 v1 v2 v3 v4 v5 v6 h = some z) : Ev (d + 2) none mX11_eatOn (0, 0) 88 [.ref v0, .ref v1, .int v2, .int v3, .int v4, .int v5, .int v6, .null, .null, .null] [] h (QV z) := 
  go_ok (X := none) (blk := wX11_eatOn_88) (np := 100) (tt := 0) (kN := fun xs h st => app [2, 2, 1, 1, 1, 1, 0, 0, 0, 0] (fun v0 v1 v2 v3 v4 v5 => apS [] (fX11_eatOn_100 k6 v0 v1 v2 v3 v4 v5 h) st) xs) (kT := fun _ _ _ => none) (kR := kRV)
    (fun xs h st q => jm [2, 2, 1, 1, 1, 1, 0, 0, 0, 0] _ (fun v0 v1 v2 v3 v4 v5 q => apS_ok [] _ (fun st => Ev (d + 2) none mX11_eatOn (0, 0) 100 [.ref v0, .ref v1, .int v2, .int v3, .int v4, .int v5, .null, .null, .null, .null] st h (QV z)) st (fun q => tX11_eatOn_100 hk6 v0 v1 v2 v3 v4 v5 h q) q) q)
    (fun _ _ _ q => nos q)
    kRV_ok (Or.inr rfl) (by decide +kernel) (by decide +kernel) hf
def wX11_eatOn_66 : List En := [(.aload_n 0, 0, 0, 0), (.getfield 47, 203, 11, 28), (.iload 6, 0, 0, 0), (.aload_n 0, 0, 0, 0), (.getfield 47, 203, 11, 28), (.iload 6, 0, 0, 0), (.iconst 1, 0, 0, 0), (.isub, 0, 0, 0), (.iaload, 0, 0, 0), (.iastore, 0, 0, 0), (.iinc 6 (-1), 0, 0, 0), (.goto (-42), 43, 0, 0)]
def fX11_eatOn_66 (k6 : Nat → Nat → Int32 → Int32 → Int32 → Int32 → aH → Option (aH)) (k43 : Nat → Nat → Int32 → Int32 → Int32 → Int32 → Int32 → aH → Option (aH)) (v0 : Nat) (v1 : Nat) (v2 : Int32) (v3 : Int32) (v4 : Int32) (v5 : Int32) (v6 : Int32) (h : aH) : Option (aH) :=
  (gFR h 11 v0 28).bind fun t1 =>
  (gFR h 11 v0 28).bind fun t2 =>
  (aRI (h[t2]?) (v6 - (kI 1))).bind fun t3 =>
  (aWI h t1 v6 t3).bind fun h4 =>
  k43 v0 v1 v2 v3 v4 v5 (v6 + kI (-1)) h4
theorem tX11_eatOn_66 {d : Nat} {z : aH} {k6 : Nat → Nat → Int32 → Int32 → Int32 → Int32 → aH → Option (aH)} {k43 : Nat → Nat → Int32 → Int32 → Int32 → Int32 → Int32 → aH → Option (aH)} (hk6 : ∀ (v0 : Nat) (v1 : Nat) (v2 : Int32) (v3 : Int32) (v4 : Int32) (v5 : Int32) (h : aH), k6 v0 v1 v2 v3 v4 v5 h = some z → Ev (d + 2) none mX11_eatOn (0, 0) 6 [.ref v0, .ref v1, .int v2, .int v3, .int v4, .int v5, .null, .null, .null, .null] [] h (QV z)) (hk43 : ∀ (v0 : Nat) (v1 : Nat) (v2 : Int32) (v3 : Int32) (v4 : Int32) (v5 : Int32) (v6 : Int32) (h : aH), k43 v0 v1 v2 v3 v4 v5 v6 h = some z → Ev (d + 2) none mX11_eatOn (0, 0) 43 [.ref v0, .ref v1, .int v2, .int v3, .int v4, .int v5, .int v6, .null, .null, .null] [] h (QV z)) (v0 : Nat) (v1 : Nat) (v2 : Int32) (v3 : Int32) (v4 : Int32) (v5 : Int32) (v6 : Int32) (h : aH) (hf : fX11_eatOn_66 k6 k43 v0 v1 v2 v3 v4 v5 v6 h = some z) : Ev (d + 2) none mX11_eatOn (0, 0) 66 [.ref v0, .ref v1, .int v2, .int v3, .int v4, .int v5, .int v6, .null, .null, .null] [] h (QV z) := 
  go_ok (X := none) (blk := wX11_eatOn_66) (np := 88) (tt := 43) (kN := fun _ _ _ => none) (kT := fun xs h st => app [2, 2, 1, 1, 1, 1, 1, 0, 0, 0] (fun v0 v1 v2 v3 v4 v5 v6 => apS [] (k43 v0 v1 v2 v3 v4 v5 v6 h) st) xs) (kR := kRV)
    (fun _ _ _ q => nos q)
    (fun xs h st q => jm [2, 2, 1, 1, 1, 1, 1, 0, 0, 0] _ (fun v0 v1 v2 v3 v4 v5 v6 q => apS_ok [] _ (fun st => Ev (d + 2) none mX11_eatOn (0, 0) 43 [.ref v0, .ref v1, .int v2, .int v3, .int v4, .int v5, .int v6, .null, .null, .null] st h (QV z)) st (fun q => hk43 v0 v1 v2 v3 v4 v5 v6 h q) q) q)
    kRV_ok (Or.inr rfl) (by decide +kernel) (by decide +kernel) hf
def wX11_eatOn_48 : List En := [(.aload_n 1, 0, 0, 0), (.aload_n 0, 0, 0, 0), (.getfield 47, 203, 11, 28), (.iload 6, 0, 0, 0), (.iconst 1, 0, 0, 0), (.isub, 0, 0, 0), (.iaload, 0, 0, 0), (.iaload, 0, 0, 0), (.aload_n 1, 0, 0, 0), (.iload 5, 0, 0, 0), (.iaload, 0, 0, 0), (.if_icmp .ge 25, 88, 0, 0)]
def fX11_eatOn_48 (k6 : Nat → Nat → Int32 → Int32 → Int32 → Int32 → aH → Option (aH)) (k43 : Nat → Nat → Int32 → Int32 → Int32 → Int32 → Int32 → aH → Option (aH)) (v0 : Nat) (v1 : Nat) (v2 : Int32) (v3 : Int32) (v4 : Int32) (v5 : Int32) (v6 : Int32) (h : aH) : Option (aH) :=
  (gFR h 11 v0 28).bind fun t1 =>
  (aRI (h[t1]?) (v6 - (kI 1))).bind fun t2 =>
  (aRI (h[v1]?) t2).bind fun t3 =>
  (aRI (h[v1]?) v5).bind fun t4 =>
  if t3 < t4 then fX11_eatOn_66 k6 k43 v0 v1 v2 v3 v4 v5 v6 h else fX11_eatOn_88 k6 v0 v1 v2 v3 v4 v5 v6 h
theorem tX11_eatOn_48 {d : Nat} {z : aH} {k6 : Nat → Nat → Int32 → Int32 → Int32 → Int32 → aH → Option (aH)} {k43 : Nat → Nat → Int32 → Int32 → Int32 → Int32 → Int32 → aH → Option (aH)} (hk6 : ∀ (v0 : Nat) (v1 : Nat) (v2 : Int32) (v3 : Int32) (v4 : Int32) (v5 : Int32) (h : aH), k6 v0 v1 v2 v3 v4 v5 h = some z → Ev (d + 2) none mX11_eatOn (0, 0) 6 [.ref v0, .ref v1, .int v2, .int v3, .int v4, .int v5, .null, .null, .null, .null] [] h (QV z)) (hk43 : ∀ (v0 : Nat) (v1 : Nat) (v2 : Int32) (v3 : Int32) (v4 : Int32) (v5 : Int32) (v6 : Int32) (h : aH), k43 v0 v1 v2 v3 v4 v5 v6 h = some z → Ev (d + 2) none mX11_eatOn (0, 0) 43 [.ref v0, .ref v1, .int v2, .int v3, .int v4, .int v5, .int v6, .null, .null, .null] [] h (QV z)) (v0 : Nat) (v1 : Nat) (v2 : Int32) (v3 : Int32) (v4 : Int32) (v5 : Int32) (v6 : Int32) (h : aH) (hf : fX11_eatOn_48 k6 k43 v0 v1 v2 v3 v4 v5 v6 h = some z) : Ev (d + 2) none mX11_eatOn (0, 0) 48 [.ref v0, .ref v1, .int v2, .int v3, .int v4, .int v5, .int v6, .null, .null, .null] [] h (QV z) := 
  go_ok (X := none) (blk := wX11_eatOn_48) (np := 66) (tt := 88) (kN := fun xs h st => app [2, 2, 1, 1, 1, 1, 1, 0, 0, 0] (fun v0 v1 v2 v3 v4 v5 v6 => apS [] (fX11_eatOn_66 k6 k43 v0 v1 v2 v3 v4 v5 v6 h) st) xs) (kT := fun xs h st => app [2, 2, 1, 1, 1, 1, 1, 0, 0, 0] (fun v0 v1 v2 v3 v4 v5 v6 => apS [] (fX11_eatOn_88 k6 v0 v1 v2 v3 v4 v5 v6 h) st) xs) (kR := kRV)
    (fun xs h st q => jm [2, 2, 1, 1, 1, 1, 1, 0, 0, 0] _ (fun v0 v1 v2 v3 v4 v5 v6 q => apS_ok [] _ (fun st => Ev (d + 2) none mX11_eatOn (0, 0) 66 [.ref v0, .ref v1, .int v2, .int v3, .int v4, .int v5, .int v6, .null, .null, .null] st h (QV z)) st (fun q => tX11_eatOn_66 hk6 hk43 v0 v1 v2 v3 v4 v5 v6 h q) q) q)
    (fun xs h st q => jm [2, 2, 1, 1, 1, 1, 1, 0, 0, 0] _ (fun v0 v1 v2 v3 v4 v5 v6 q => apS_ok [] _ (fun st => Ev (d + 2) none mX11_eatOn (0, 0) 88 [.ref v0, .ref v1, .int v2, .int v3, .int v4, .int v5, .int v6, .null, .null, .null] st h (QV z)) st (fun q => tX11_eatOn_88 hk6 v0 v1 v2 v3 v4 v5 v6 h q) q) q)
    kRV_ok (Or.inr rfl) (by decide +kernel) (by decide +kernel) hf
def wX11_eatOn_43 : List En := [(.iload 6, 0, 0, 0), (.ifCond .le 43, 88, 0, 0)]
def fX11_eatOn_43 (k6 : Nat → Nat → Int32 → Int32 → Int32 → Int32 → aH → Option (aH)) (k43 : Nat → Nat → Int32 → Int32 → Int32 → Int32 → Int32 → aH → Option (aH)) (v0 : Nat) (v1 : Nat) (v2 : Int32) (v3 : Int32) (v4 : Int32) (v5 : Int32) (v6 : Int32) (h : aH) : Option (aH) :=
  if 0 < v6 then fX11_eatOn_48 k6 k43 v0 v1 v2 v3 v4 v5 v6 h else fX11_eatOn_88 k6 v0 v1 v2 v3 v4 v5 v6 h
theorem tX11_eatOn_43 {d : Nat} {z : aH} {k6 : Nat → Nat → Int32 → Int32 → Int32 → Int32 → aH → Option (aH)} {k43 : Nat → Nat → Int32 → Int32 → Int32 → Int32 → Int32 → aH → Option (aH)} (hk6 : ∀ (v0 : Nat) (v1 : Nat) (v2 : Int32) (v3 : Int32) (v4 : Int32) (v5 : Int32) (h : aH), k6 v0 v1 v2 v3 v4 v5 h = some z → Ev (d + 2) none mX11_eatOn (0, 0) 6 [.ref v0, .ref v1, .int v2, .int v3, .int v4, .int v5, .null, .null, .null, .null] [] h (QV z)) (hk43 : ∀ (v0 : Nat) (v1 : Nat) (v2 : Int32) (v3 : Int32) (v4 : Int32) (v5 : Int32) (v6 : Int32) (h : aH), k43 v0 v1 v2 v3 v4 v5 v6 h = some z → Ev (d + 2) none mX11_eatOn (0, 0) 43 [.ref v0, .ref v1, .int v2, .int v3, .int v4, .int v5, .int v6, .null, .null, .null] [] h (QV z)) (v0 : Nat) (v1 : Nat) (v2 : Int32) (v3 : Int32) (v4 : Int32) (v5 : Int32) (v6 : Int32) (h : aH) (hf : fX11_eatOn_43 k6 k43 v0 v1 v2 v3 v4 v5 v6 h = some z) : Ev (d + 2) none mX11_eatOn (0, 0) 43 [.ref v0, .ref v1, .int v2, .int v3, .int v4, .int v5, .int v6, .null, .null, .null] [] h (QV z) := 
  go_ok (X := none) (blk := wX11_eatOn_43) (np := 48) (tt := 88) (kN := fun xs h st => app [2, 2, 1, 1, 1, 1, 1, 0, 0, 0] (fun v0 v1 v2 v3 v4 v5 v6 => apS [] (fX11_eatOn_48 k6 k43 v0 v1 v2 v3 v4 v5 v6 h) st) xs) (kT := fun xs h st => app [2, 2, 1, 1, 1, 1, 1, 0, 0, 0] (fun v0 v1 v2 v3 v4 v5 v6 => apS [] (fX11_eatOn_88 k6 v0 v1 v2 v3 v4 v5 v6 h) st) xs) (kR := kRV)
    (fun xs h st q => jm [2, 2, 1, 1, 1, 1, 1, 0, 0, 0] _ (fun v0 v1 v2 v3 v4 v5 v6 q => apS_ok [] _ (fun st => Ev (d + 2) none mX11_eatOn (0, 0) 48 [.ref v0, .ref v1, .int v2, .int v3, .int v4, .int v5, .int v6, .null, .null, .null] st h (QV z)) st (fun q => tX11_eatOn_48 hk6 hk43 v0 v1 v2 v3 v4 v5 v6 h q) q) q)
    (fun xs h st q => jm [2, 2, 1, 1, 1, 1, 1, 0, 0, 0] _ (fun v0 v1 v2 v3 v4 v5 v6 q => apS_ok [] _ (fun st => Ev (d + 2) none mX11_eatOn (0, 0) 88 [.ref v0, .ref v1, .int v2, .int v3, .int v4, .int v5, .int v6, .null, .null, .null] st h (QV z)) st (fun q => tX11_eatOn_88 hk6 v0 v1 v2 v3 v4 v5 v6 h q) q) q)
    kRV_ok (Or.inr rfl) (by decide +kernel) (by decide +kernel) hf
def lX11_eatOn_43 (k6 : Nat → Nat → Int32 → Int32 → Int32 → Int32 → aH → Option (aH)) : Nat → Nat → Nat → Int32 → Int32 → Int32 → Int32 → Int32 → aH → Option (aH)
  | 0, _, _, _, _, _, _, _, _ => none
  | n + 1, v0, v1, v2, v3, v4, v5, v6, h => fX11_eatOn_43 k6 (lX11_eatOn_43 k6 n) v0 v1 v2 v3 v4 v5 v6 h
theorem uX11_eatOn_43 {d : Nat} {z : aH} {k6 : Nat → Nat → Int32 → Int32 → Int32 → Int32 → aH → Option (aH)} (hk6 : ∀ (v0 : Nat) (v1 : Nat) (v2 : Int32) (v3 : Int32) (v4 : Int32) (v5 : Int32) (h : aH), k6 v0 v1 v2 v3 v4 v5 h = some z → Ev (d + 2) none mX11_eatOn (0, 0) 6 [.ref v0, .ref v1, .int v2, .int v3, .int v4, .int v5, .null, .null, .null, .null] [] h (QV z)) : ∀ (n : Nat) (v0 : Nat) (v1 : Nat) (v2 : Int32) (v3 : Int32) (v4 : Int32) (v5 : Int32) (v6 : Int32) (h : aH), lX11_eatOn_43 k6 n v0 v1 v2 v3 v4 v5 v6 h = some z → Ev (d + 2) none mX11_eatOn (0, 0) 43 [.ref v0, .ref v1, .int v2, .int v3, .int v4, .int v5, .int v6, .null, .null, .null] [] h (QV z) := by
  intro n
  induction n with
  | zero => intro _ _ _ _ _ _ _ _ q; exact nos (show (none : Option (aH)) = some z from q)
  | succ n ih => intro v0 v1 v2 v3 v4 v5 v6 h q; exact tX11_eatOn_43 hk6 ih v0 v1 v2 v3 v4 v5 v6 h q
def wX11_eatOn_39 : List En := [(.iload 4, 0, 0, 0), (.istore 6, 0, 0, 0)]
def fX11_eatOn_39 (k6 : Nat → Nat → Int32 → Int32 → Int32 → Int32 → aH → Option (aH)) (v0 : Nat) (v1 : Nat) (v2 : Int32) (v3 : Int32) (v4 : Int32) (v5 : Int32) (h : aH) : Option (aH) :=
  lX11_eatOn_43 k6 FU v0 v1 v2 v3 v4 v5 v4 h
theorem tX11_eatOn_39 {d : Nat} {z : aH} {k6 : Nat → Nat → Int32 → Int32 → Int32 → Int32 → aH → Option (aH)} (hk6 : ∀ (v0 : Nat) (v1 : Nat) (v2 : Int32) (v3 : Int32) (v4 : Int32) (v5 : Int32) (h : aH), k6 v0 v1 v2 v3 v4 v5 h = some z → Ev (d + 2) none mX11_eatOn (0, 0) 6 [.ref v0, .ref v1, .int v2, .int v3, .int v4, .int v5, .null, .null, .null, .null] [] h (QV z)) (v0 : Nat) (v1 : Nat) (v2 : Int32) (v3 : Int32) (v4 : Int32) (v5 : Int32) (h : aH) (hf : fX11_eatOn_39 k6 v0 v1 v2 v3 v4 v5 h = some z) : Ev (d + 2) none mX11_eatOn (0, 0) 39 [.ref v0, .ref v1, .int v2, .int v3, .int v4, .int v5, .null, .null, .null, .null] [] h (QV z) := 
  go_ok (X := none) (blk := wX11_eatOn_39) (np := 43) (tt := 0) (kN := fun xs h st => app [2, 2, 1, 1, 1, 1, 1, 0, 0, 0] (fun v0 v1 v2 v3 v4 v5 v6 => apS [] (lX11_eatOn_43 k6 FU v0 v1 v2 v3 v4 v5 v6 h) st) xs) (kT := fun _ _ _ => none) (kR := kRV)
    (fun xs h st q => jm [2, 2, 1, 1, 1, 1, 1, 0, 0, 0] _ (fun v0 v1 v2 v3 v4 v5 v6 q => apS_ok [] _ (fun st => Ev (d + 2) none mX11_eatOn (0, 0) 43 [.ref v0, .ref v1, .int v2, .int v3, .int v4, .int v5, .int v6, .null, .null, .null] st h (QV z)) st (fun q => uX11_eatOn_43 hk6 FU v0 v1 v2 v3 v4 v5 v6 h q) q) q)
    (fun _ _ _ q => nos q)
    kRV_ok (Or.inr rfl) (by decide +kernel) (by decide +kernel) hf
def wX11_eatOn_36 : List En := [(.goto 64, 100, 0, 0)]
def fX11_eatOn_36 (k6 : Nat → Nat → Int32 → Int32 → Int32 → Int32 → aH → Option (aH)) (v0 : Nat) (v1 : Nat) (v2 : Int32) (v3 : Int32) (v4 : Int32) (v5 : Int32) (h : aH) : Option (aH) :=
  fX11_eatOn_100 k6 v0 v1 v2 v3 v4 v5 h
theorem tX11_eatOn_36 {d : Nat} {z : aH} {k6 : Nat → Nat → Int32 → Int32 → Int32 → Int32 → aH → Option (aH)} (hk6 : ∀ (v0 : Nat) (v1 : Nat) (v2 : Int32) (v3 : Int32) (v4 : Int32) (v5 : Int32) (h : aH), k6 v0 v1 v2 v3 v4 v5 h = some z → Ev (d + 2) none mX11_eatOn (0, 0) 6 [.ref v0, .ref v1, .int v2, .int v3, .int v4, .int v5, .null, .null, .null, .null] [] h (QV z)) (v0 : Nat) (v1 : Nat) (v2 : Int32) (v3 : Int32) (v4 : Int32) (v5 : Int32) (h : aH) (hf : fX11_eatOn_36 k6 v0 v1 v2 v3 v4 v5 h = some z) : Ev (d + 2) none mX11_eatOn (0, 0) 36 [.ref v0, .ref v1, .int v2, .int v3, .int v4, .int v5, .null, .null, .null, .null] [] h (QV z) := 
  go_ok (X := none) (blk := wX11_eatOn_36) (np := 39) (tt := 100) (kN := fun _ _ _ => none) (kT := fun xs h st => app [2, 2, 1, 1, 1, 1, 0, 0, 0, 0] (fun v0 v1 v2 v3 v4 v5 => apS [] (fX11_eatOn_100 k6 v0 v1 v2 v3 v4 v5 h) st) xs) (kR := kRV)
    (fun _ _ _ q => nos q)
    (fun xs h st q => jm [2, 2, 1, 1, 1, 1, 0, 0, 0, 0] _ (fun v0 v1 v2 v3 v4 v5 q => apS_ok [] _ (fun st => Ev (d + 2) none mX11_eatOn (0, 0) 100 [.ref v0, .ref v1, .int v2, .int v3, .int v4, .int v5, .null, .null, .null, .null] st h (QV z)) st (fun q => tX11_eatOn_100 hk6 v0 v1 v2 v3 v4 v5 h q) q) q)
    kRV_ok (Or.inr rfl) (by decide +kernel) (by decide +kernel) hf
def wX11_eatOn_33 : List En := [(.ifCond .eq 6, 39, 0, 0)]
def fX11_eatOn_33 (k6 : Nat → Nat → Int32 → Int32 → Int32 → Int32 → aH → Option (aH)) (v0 : Nat) (v1 : Nat) (v2 : Int32) (v3 : Int32) (v4 : Int32) (v5 : Int32) (s0 : Int32) (h : aH) : Option (aH) :=
  if s0 = 0 then fX11_eatOn_39 k6 v0 v1 v2 v3 v4 v5 h else fX11_eatOn_36 k6 v0 v1 v2 v3 v4 v5 h
theorem tX11_eatOn_33 {d : Nat} {z : aH} {k6 : Nat → Nat → Int32 → Int32 → Int32 → Int32 → aH → Option (aH)} (hk6 : ∀ (v0 : Nat) (v1 : Nat) (v2 : Int32) (v3 : Int32) (v4 : Int32) (v5 : Int32) (h : aH), k6 v0 v1 v2 v3 v4 v5 h = some z → Ev (d + 2) none mX11_eatOn (0, 0) 6 [.ref v0, .ref v1, .int v2, .int v3, .int v4, .int v5, .null, .null, .null, .null] [] h (QV z)) (v0 : Nat) (v1 : Nat) (v2 : Int32) (v3 : Int32) (v4 : Int32) (v5 : Int32) (s0 : Int32) (h : aH) (hf : fX11_eatOn_33 k6 v0 v1 v2 v3 v4 v5 s0 h = some z) : Ev (d + 2) none mX11_eatOn (0, 0) 33 [.ref v0, .ref v1, .int v2, .int v3, .int v4, .int v5, .null, .null, .null, .null] [.int s0] h (QV z) := 
  go_ok (X := none) (blk := wX11_eatOn_33) (np := 36) (tt := 39) (kN := fun xs h st => app [2, 2, 1, 1, 1, 1, 0, 0, 0, 0] (fun v0 v1 v2 v3 v4 v5 => apS [] (fX11_eatOn_36 k6 v0 v1 v2 v3 v4 v5 h) st) xs) (kT := fun xs h st => app [2, 2, 1, 1, 1, 1, 0, 0, 0, 0] (fun v0 v1 v2 v3 v4 v5 => apS [] (fX11_eatOn_39 k6 v0 v1 v2 v3 v4 v5 h) st) xs) (kR := kRV)
    (fun xs h st q => jm [2, 2, 1, 1, 1, 1, 0, 0, 0, 0] _ (fun v0 v1 v2 v3 v4 v5 q => apS_ok [] _ (fun st => Ev (d + 2) none mX11_eatOn (0, 0) 36 [.ref v0, .ref v1, .int v2, .int v3, .int v4, .int v5, .null, .null, .null, .null] st h (QV z)) st (fun q => tX11_eatOn_36 hk6 v0 v1 v2 v3 v4 v5 h q) q) q)
    (fun xs h st q => jm [2, 2, 1, 1, 1, 1, 0, 0, 0, 0] _ (fun v0 v1 v2 v3 v4 v5 q => apS_ok [] _ (fun st => Ev (d + 2) none mX11_eatOn (0, 0) 39 [.ref v0, .ref v1, .int v2, .int v3, .int v4, .int v5, .null, .null, .null, .null] st h (QV z)) st (fun q => tX11_eatOn_39 hk6 v0 v1 v2 v3 v4 v5 h q) q) q)
    kRV_ok (Or.inr rfl) (by decide +kernel) (by decide +kernel) hf
theorem kqX11_eatOn_30 : okC mX11_eatOn 30 (.invokestatic 245) 222 239 1 2 = true := by decide +kernel
def fX11_eatOn_30 (k6 : Nat → Nat → Int32 → Int32 → Int32 → Int32 → aH → Option (aH)) (v0 : Nat) (v1 : Nat) (v2 : Int32) (v3 : Int32) (v4 : Int32) (v5 : Int32) (s0 : Int32) (s1 : Int32) (h : aH) : Option (aH) :=
  (gX11_hasBit s1 s0 h).bind fun r =>
  fX11_eatOn_33 k6 v0 v1 v2 v3 v4 v5 r.1 r.2
theorem tX11_eatOn_30 {d : Nat} {z : aH} {k6 : Nat → Nat → Int32 → Int32 → Int32 → Int32 → aH → Option (aH)} (hk6 : ∀ (v0 : Nat) (v1 : Nat) (v2 : Int32) (v3 : Int32) (v4 : Int32) (v5 : Int32) (h : aH), k6 v0 v1 v2 v3 v4 v5 h = some z → Ev (d + 2) none mX11_eatOn (0, 0) 6 [.ref v0, .ref v1, .int v2, .int v3, .int v4, .int v5, .null, .null, .null, .null] [] h (QV z)) (v0 : Nat) (v1 : Nat) (v2 : Int32) (v3 : Int32) (v4 : Int32) (v5 : Int32) (s0 : Int32) (s1 : Int32) (h : aH) (hf : fX11_eatOn_30 k6 v0 v1 v2 v3 v4 v5 s0 s1 h = some z) : Ev (d + 2) none mX11_eatOn (0, 0) 30 [.ref v0, .ref v1, .int v2, .int v3, .int v4, .int v5, .null, .null, .null, .null] [.int s0, .int s1] h (QV z) := by
  obtain ⟨r, h2, hf⟩ := bnd hf
  refine ev_S kqX11_eatOn_30 jX11_hasBit (zX11_hasBit (d := d + 1) h2) rfl (Nat.le_of_ble_eq_true rfl) rfl (as := [.int s1, .int s0]) (rest := []) rfl (Nat.le_of_ble_eq_true rfl) (fun _ _ hq => ?_)
  obtain ⟨-, rfl, rfl⟩ := hq
  exact jm [2, 2, 1, 1, 1, 1, 0, 0, 0, 0] (fun v0 v1 v2 v3 v4 v5 => fX11_eatOn_33 k6 v0 v1 v2 v3 v4 v5 r.1 r.2) (fun v0 v1 v2 v3 v4 v5 q => tX11_eatOn_33 hk6 v0 v1 v2 v3 v4 v5 r.1 r.2 q) hf
def wX11_eatOn_27 : List En := [(.iload_n 2, 0, 0, 0), (.iload 5, 0, 0, 0)]
def fX11_eatOn_27 (k6 : Nat → Nat → Int32 → Int32 → Int32 → Int32 → aH → Option (aH)) (v0 : Nat) (v1 : Nat) (v2 : Int32) (v3 : Int32) (v4 : Int32) (v5 : Int32) (h : aH) : Option (aH) :=
  fX11_eatOn_30 k6 v0 v1 v2 v3 v4 v5 v5 v2 h
theorem tX11_eatOn_27 {d : Nat} {z : aH} {k6 : Nat → Nat → Int32 → Int32 → Int32 → Int32 → aH → Option (aH)} (hk6 : ∀ (v0 : Nat) (v1 : Nat) (v2 : Int32) (v3 : Int32) (v4 : Int32) (v5 : Int32) (h : aH), k6 v0 v1 v2 v3 v4 v5 h = some z → Ev (d + 2) none mX11_eatOn (0, 0) 6 [.ref v0, .ref v1, .int v2, .int v3, .int v4, .int v5, .null, .null, .null, .null] [] h (QV z)) (v0 : Nat) (v1 : Nat) (v2 : Int32) (v3 : Int32) (v4 : Int32) (v5 : Int32) (h : aH) (hf : fX11_eatOn_27 k6 v0 v1 v2 v3 v4 v5 h = some z) : Ev (d + 2) none mX11_eatOn (0, 0) 27 [.ref v0, .ref v1, .int v2, .int v3, .int v4, .int v5, .null, .null, .null, .null] [] h (QV z) := 
  go_ok (X := none) (blk := wX11_eatOn_27) (np := 30) (tt := 0) (kN := fun xs h st => app [2, 2, 1, 1, 1, 1, 0, 0, 0, 0] (fun v0 v1 v2 v3 v4 v5 => apS [1, 1] (fun s0 s1 => fX11_eatOn_30 k6 v0 v1 v2 v3 v4 v5 s0 s1 h) st) xs) (kT := fun _ _ _ => none) (kR := kRV)
    (fun xs h st q => jm [2, 2, 1, 1, 1, 1, 0, 0, 0, 0] _ (fun v0 v1 v2 v3 v4 v5 q => apS_ok [1, 1] _ (fun st => Ev (d + 2) none mX11_eatOn (0, 0) 30 [.ref v0, .ref v1, .int v2, .int v3, .int v4, .int v5, .null, .null, .null, .null] st h (QV z)) st (fun s0 s1 q => tX11_eatOn_30 hk6 v0 v1 v2 v3 v4 v5 s0 s1 h q) q) q)
    (fun _ _ _ q => nos q)
    kRV_ok (Or.inr rfl) (by decide +kernel) (by decide +kernel) hf
def wX11_eatOn_24 : List En := [(.ifCond .eq 76, 100, 0, 0)]
def fX11_eatOn_24 (k6 : Nat → Nat → Int32 → Int32 → Int32 → Int32 → aH → Option (aH)) (v0 : Nat) (v1 : Nat) (v2 : Int32) (v3 : Int32) (v4 : Int32) (v5 : Int32) (s0 : Int32) (h : aH) : Option (aH) :=
  if s0 = 0 then fX11_eatOn_100 k6 v0 v1 v2 v3 v4 v5 h else fX11_eatOn_27 k6 v0 v1 v2 v3 v4 v5 h
theorem tX11_eatOn_24 {d : Nat} {z : aH} {k6 : Nat → Nat → Int32 → Int32 → Int32 → Int32 → aH → Option (aH)} (hk6 : ∀ (v0 : Nat) (v1 : Nat) (v2 : Int32) (v3 : Int32) (v4 : Int32) (v5 : Int32) (h : aH), k6 v0 v1 v2 v3 v4 v5 h = some z → Ev (d + 2) none mX11_eatOn (0, 0) 6 [.ref v0, .ref v1, .int v2, .int v3, .int v4, .int v5, .null, .null, .null, .null] [] h (QV z)) (v0 : Nat) (v1 : Nat) (v2 : Int32) (v3 : Int32) (v4 : Int32) (v5 : Int32) (s0 : Int32) (h : aH) (hf : fX11_eatOn_24 k6 v0 v1 v2 v3 v4 v5 s0 h = some z) : Ev (d + 2) none mX11_eatOn (0, 0) 24 [.ref v0, .ref v1, .int v2, .int v3, .int v4, .int v5, .null, .null, .null, .null] [.int s0] h (QV z) := 
  go_ok (X := none) (blk := wX11_eatOn_24) (np := 27) (tt := 100) (kN := fun xs h st => app [2, 2, 1, 1, 1, 1, 0, 0, 0, 0] (fun v0 v1 v2 v3 v4 v5 => apS [] (fX11_eatOn_27 k6 v0 v1 v2 v3 v4 v5 h) st) xs) (kT := fun xs h st => app [2, 2, 1, 1, 1, 1, 0, 0, 0, 0] (fun v0 v1 v2 v3 v4 v5 => apS [] (fX11_eatOn_100 k6 v0 v1 v2 v3 v4 v5 h) st) xs) (kR := kRV)
    (fun xs h st q => jm [2, 2, 1, 1, 1, 1, 0, 0, 0, 0] _ (fun v0 v1 v2 v3 v4 v5 q => apS_ok [] _ (fun st => Ev (d + 2) none mX11_eatOn (0, 0) 27 [.ref v0, .ref v1, .int v2, .int v3, .int v4, .int v5, .null, .null, .null, .null] st h (QV z)) st (fun q => tX11_eatOn_27 hk6 v0 v1 v2 v3 v4 v5 h q) q) q)
    (fun xs h st q => jm [2, 2, 1, 1, 1, 1, 0, 0, 0, 0] _ (fun v0 v1 v2 v3 v4 v5 q => apS_ok [] _ (fun st => Ev (d + 2) none mX11_eatOn (0, 0) 100 [.ref v0, .ref v1, .int v2, .int v3, .int v4, .int v5, .null, .null, .null, .null] st h (QV z)) st (fun q => tX11_eatOn_100 hk6 v0 v1 v2 v3 v4 v5 h q) q) q)
    kRV_ok (Or.inr rfl) (by decide +kernel) (by decide +kernel) hf
theorem kqX11_eatOn_21 : okC mX11_eatOn 21 (.invokevirtual 249) 221 238 0 2 = true := by decide +kernel
def fX11_eatOn_21 (k6 : Nat → Nat → Int32 → Int32 → Int32 → Int32 → aH → Option (aH)) (v0 : Nat) (v1 : Nat) (v2 : Int32) (v3 : Int32) (v4 : Int32) (v5 : Int32) (s0 : Int32) (s1 : Nat) (s2 : Nat) (h : aH) : Option (aH) :=
  (isO h 11 s2).bind fun _ =>
  (gX11_lives s2 s1 s0 h).bind fun r =>
  fX11_eatOn_24 k6 v0 v1 v2 v3 v4 v5 r.1 r.2
theorem tX11_eatOn_21 {d : Nat} {z : aH} {k6 : Nat → Nat → Int32 → Int32 → Int32 → Int32 → aH → Option (aH)} (hk6 : ∀ (v0 : Nat) (v1 : Nat) (v2 : Int32) (v3 : Int32) (v4 : Int32) (v5 : Int32) (h : aH), k6 v0 v1 v2 v3 v4 v5 h = some z → Ev (d + 2) none mX11_eatOn (0, 0) 6 [.ref v0, .ref v1, .int v2, .int v3, .int v4, .int v5, .null, .null, .null, .null] [] h (QV z)) (v0 : Nat) (v1 : Nat) (v2 : Int32) (v3 : Int32) (v4 : Int32) (v5 : Int32) (s0 : Int32) (s1 : Nat) (s2 : Nat) (h : aH) (hf : fX11_eatOn_21 k6 v0 v1 v2 v3 v4 v5 s0 s1 s2 h = some z) : Ev (d + 2) none mX11_eatOn (0, 0) 21 [.ref v0, .ref v1, .int v2, .int v3, .int v4, .int v5, .null, .null, .null, .null] [.int s0, .ref s1, .ref s2] h (QV z) := by
  obtain ⟨_, h1, hf⟩ := bnd hf
  obtain ⟨fs, ho⟩ := isO_ok h1
  obtain ⟨r, h2, hf⟩ := bnd hf
  refine ev_V kqX11_eatOn_21 jX11_lives (zX11_lives (d := d + 0) h2) ho rfl rfl (Nat.le_of_ble_eq_true rfl) rfl (as := [.ref s1, .int s0]) (rest := []) rfl (Nat.le_of_ble_eq_true rfl) (fun _ _ hq => ?_)
  obtain ⟨-, rfl, rfl⟩ := hq
  exact jm [2, 2, 1, 1, 1, 1, 0, 0, 0, 0] (fun v0 v1 v2 v3 v4 v5 => fX11_eatOn_24 k6 v0 v1 v2 v3 v4 v5 r.1 r.2) (fun v0 v1 v2 v3 v4 v5 q => tX11_eatOn_24 hk6 v0 v1 v2 v3 v4 v5 r.1 r.2 q) hf
def wX11_eatOn_17 : List En := [(.aload_n 0, 0, 0, 0), (.aload_n 1, 0, 0, 0), (.iload 5, 0, 0, 0)]
def fX11_eatOn_17 (k6 : Nat → Nat → Int32 → Int32 → Int32 → Int32 → aH → Option (aH)) (v0 : Nat) (v1 : Nat) (v2 : Int32) (v3 : Int32) (v4 : Int32) (v5 : Int32) (h : aH) : Option (aH) :=
  fX11_eatOn_21 k6 v0 v1 v2 v3 v4 v5 v5 v1 v0 h
theorem tX11_eatOn_17 {d : Nat} {z : aH} {k6 : Nat → Nat → Int32 → Int32 → Int32 → Int32 → aH → Option (aH)} (hk6 : ∀ (v0 : Nat) (v1 : Nat) (v2 : Int32) (v3 : Int32) (v4 : Int32) (v5 : Int32) (h : aH), k6 v0 v1 v2 v3 v4 v5 h = some z → Ev (d + 2) none mX11_eatOn (0, 0) 6 [.ref v0, .ref v1, .int v2, .int v3, .int v4, .int v5, .null, .null, .null, .null] [] h (QV z)) (v0 : Nat) (v1 : Nat) (v2 : Int32) (v3 : Int32) (v4 : Int32) (v5 : Int32) (h : aH) (hf : fX11_eatOn_17 k6 v0 v1 v2 v3 v4 v5 h = some z) : Ev (d + 2) none mX11_eatOn (0, 0) 17 [.ref v0, .ref v1, .int v2, .int v3, .int v4, .int v5, .null, .null, .null, .null] [] h (QV z) := 
  go_ok (X := none) (blk := wX11_eatOn_17) (np := 21) (tt := 0) (kN := fun xs h st => app [2, 2, 1, 1, 1, 1, 0, 0, 0, 0] (fun v0 v1 v2 v3 v4 v5 => apS [1, 2, 2] (fun s0 s1 s2 => fX11_eatOn_21 k6 v0 v1 v2 v3 v4 v5 s0 s1 s2 h) st) xs) (kT := fun _ _ _ => none) (kR := kRV)
    (fun xs h st q => jm [2, 2, 1, 1, 1, 1, 0, 0, 0, 0] _ (fun v0 v1 v2 v3 v4 v5 q => apS_ok [1, 2, 2] _ (fun st => Ev (d + 2) none mX11_eatOn (0, 0) 21 [.ref v0, .ref v1, .int v2, .int v3, .int v4, .int v5, .null, .null, .null, .null] st h (QV z)) st (fun s0 s1 s2 q => tX11_eatOn_21 hk6 v0 v1 v2 v3 v4 v5 s0 s1 s2 h q) q) q)
    (fun _ _ _ q => nos q)
    kRV_ok (Or.inr rfl) (by decide +kernel) (by decide +kernel) hf
def wX11_eatOn_6 : List En := [(.iload 5, 0, 0, 0), (.aload_n 0, 0, 0, 0), (.getfield 20, 190, 11, 15), (.iconst 3, 0, 0, 0), (.iaload, 0, 0, 0), (.if_icmp .ge 92, 106, 0, 0)]
def fX11_eatOn_6 (k6 : Nat → Nat → Int32 → Int32 → Int32 → Int32 → aH → Option (aH)) (v0 : Nat) (v1 : Nat) (v2 : Int32) (v3 : Int32) (v4 : Int32) (v5 : Int32) (h : aH) : Option (aH) :=
  (gFR h 11 v0 15).bind fun t1 =>
  (aRI (h[t1]?) (kI 3)).bind fun t2 =>
  if v5 < t2 then fX11_eatOn_17 k6 v0 v1 v2 v3 v4 v5 h else fX11_eatOn_106 v0 v1 v3 v4 h
theorem tX11_eatOn_6 {d : Nat} {z : aH} {k6 : Nat → Nat → Int32 → Int32 → Int32 → Int32 → aH → Option (aH)} (hk6 : ∀ (v0 : Nat) (v1 : Nat) (v2 : Int32) (v3 : Int32) (v4 : Int32) (v5 : Int32) (h : aH), k6 v0 v1 v2 v3 v4 v5 h = some z → Ev (d + 2) none mX11_eatOn (0, 0) 6 [.ref v0, .ref v1, .int v2, .int v3, .int v4, .int v5, .null, .null, .null, .null] [] h (QV z)) (v0 : Nat) (v1 : Nat) (v2 : Int32) (v3 : Int32) (v4 : Int32) (v5 : Int32) (h : aH) (hf : fX11_eatOn_6 k6 v0 v1 v2 v3 v4 v5 h = some z) : Ev (d + 2) none mX11_eatOn (0, 0) 6 [.ref v0, .ref v1, .int v2, .int v3, .int v4, .int v5, .null, .null, .null, .null] [] h (QV z) := 
  go_ok (X := none) (blk := wX11_eatOn_6) (np := 17) (tt := 106) (kN := fun xs h st => app [2, 2, 1, 1, 1, 1, 0, 0, 0, 0] (fun v0 v1 v2 v3 v4 v5 => apS [] (fX11_eatOn_17 k6 v0 v1 v2 v3 v4 v5 h) st) xs) (kT := fun xs h st => app [2, 2, 0, 1, 1, 0, 0, 0, 0, 0] (fun v0 v1 v3 v4 => apS [] (fX11_eatOn_106 v0 v1 v3 v4 h) st) xs) (kR := kRV)
    (fun xs h st q => jm [2, 2, 1, 1, 1, 1, 0, 0, 0, 0] _ (fun v0 v1 v2 v3 v4 v5 q => apS_ok [] _ (fun st => Ev (d + 2) none mX11_eatOn (0, 0) 17 [.ref v0, .ref v1, .int v2, .int v3, .int v4, .int v5, .null, .null, .null, .null] st h (QV z)) st (fun q => tX11_eatOn_17 hk6 v0 v1 v2 v3 v4 v5 h q) q) q)
    (fun xs h st q => jm [2, 2, 0, 1, 1, 0, 0, 0, 0, 0] _ (fun v0 v1 v3 v4 q => apS_ok [] _ (fun st => Ev (d + 2) none mX11_eatOn (0, 0) 106 [.ref v0, .ref v1, .null, .int v3, .int v4, .null, .null, .null, .null, .null] st h (QV z)) st (fun q => tX11_eatOn_106 v0 v1 v3 v4 h q) q) q)
    kRV_ok (Or.inr rfl) (by decide +kernel) (by decide +kernel) hf
def lX11_eatOn_6 : Nat → Nat → Nat → Int32 → Int32 → Int32 → Int32 → aH → Option (aH)
  | 0, _, _, _, _, _, _, _ => none
  | n + 1, v0, v1, v2, v3, v4, v5, h => fX11_eatOn_6 (lX11_eatOn_6 n) v0 v1 v2 v3 v4 v5 h
theorem uX11_eatOn_6 {d : Nat} {z : aH} : ∀ (n : Nat) (v0 : Nat) (v1 : Nat) (v2 : Int32) (v3 : Int32) (v4 : Int32) (v5 : Int32) (h : aH), lX11_eatOn_6 n v0 v1 v2 v3 v4 v5 h = some z → Ev (d + 2) none mX11_eatOn (0, 0) 6 [.ref v0, .ref v1, .int v2, .int v3, .int v4, .int v5, .null, .null, .null, .null] [] h (QV z) := by
  intro n
  induction n with
  | zero => intro _ _ _ _ _ _ _ q; exact nos (show (none : Option (aH)) = some z from q)
  | succ n ih => intro v0 v1 v2 v3 v4 v5 h q; exact tX11_eatOn_6 ih v0 v1 v2 v3 v4 v5 h q
def wX11_eatOn_0 : List En := [(.iconst 0, 0, 0, 0), (.istore 4, 0, 0, 0), (.iconst 0, 0, 0, 0), (.istore 5, 0, 0, 0)]
def fX11_eatOn_0 (v0 : Nat) (v1 : Nat) (v2 : Int32) (v3 : Int32) (h : aH) : Option (aH) :=
  lX11_eatOn_6 FU v0 v1 v2 v3 (kI 0) (kI 0) h
theorem tX11_eatOn_0 {d : Nat} {z : aH} (v0 : Nat) (v1 : Nat) (v2 : Int32) (v3 : Int32) (h : aH) (hf : fX11_eatOn_0 v0 v1 v2 v3 h = some z) : Ev (d + 2) none mX11_eatOn (0, 0) 0 [.ref v0, .ref v1, .int v2, .int v3, .null, .null, .null, .null, .null, .null] [] h (QV z) := 
  go_ok (X := none) (blk := wX11_eatOn_0) (np := 6) (tt := 0) (kN := fun xs h st => app [2, 2, 1, 1, 1, 1, 0, 0, 0, 0] (fun v0 v1 v2 v3 v4 v5 => apS [] (lX11_eatOn_6 FU v0 v1 v2 v3 v4 v5 h) st) xs) (kT := fun _ _ _ => none) (kR := kRV)
    (fun xs h st q => jm [2, 2, 1, 1, 1, 1, 0, 0, 0, 0] _ (fun v0 v1 v2 v3 v4 v5 q => apS_ok [] _ (fun st => Ev (d + 2) none mX11_eatOn (0, 0) 6 [.ref v0, .ref v1, .int v2, .int v3, .int v4, .int v5, .null, .null, .null, .null] st h (QV z)) st (fun q => uX11_eatOn_6 FU v0 v1 v2 v3 v4 v5 h q) q) q)
    (fun _ _ _ q => nos q)
    kRV_ok (Or.inr rfl) (by decide +kernel) (by decide +kernel) hf
def gX11_eatOn (v0 : Nat) (v1 : Nat) (v2 : Int32) (v3 : Int32) (h : aH) : Option (aH) := fX11_eatOn_0 v0 v1 v2 v3 h
theorem zX11_eatOn {d : Nat} {z : aH} {v0 : Nat} {v1 : Nat} {v2 : Int32} {v3 : Int32} {h : aH} (q : gX11_eatOn v0 v1 v2 v3 h = some z) : CT (d + 2) mX11_eatOn (0, 0) [.ref v0, .ref v1, .int v2, .int v3] h (QV z) :=
  ct_ev (by decide +kernel) (Nat.le_of_ble_eq_true rfl) QV_r (jm [2, 2, 1, 1, 0, 0, 0, 0, 0, 0] (fun v0 v1 v2 v3 => fX11_eatOn_0 v0 v1 v2 v3 h) (fun v0 v1 v2 v3 q => tX11_eatOn_0 v0 v1 v2 v3 h q) q)
def wX11_fastersOf_65 : List En := [(.iload_n 2, 0, 0, 0), (.ireturn, 0, 0, 0)]
def fX11_fastersOf_65 (v2 : Int32) (h : aH) : Option (Int32 × aH) :=
  some (v2, h)
theorem tX11_fastersOf_65 {d : Nat} {z : Int32 × aH} (v2 : Int32) (h : aH) (hf : fX11_fastersOf_65 v2 h = some z) : Ev (d + 0) none mX11_fastersOf (0, 0) 65 [.null, .null, .int v2, .null] [] h (QI z) := 
  go_ok (X := none) (blk := wX11_fastersOf_65) (np := 67) (tt := 0) (kN := fun _ _ _ => none) (kT := fun _ _ _ => none) (kR := kRI)
    (fun _ _ _ q => nos q)
    (fun _ _ _ q => nos q)
    kRI_ok (Or.inr rfl) (by decide +kernel) (by decide +kernel) hf
def wX11_fastersOf_57 : List En := [(.ior, 0, 0, 0), (.istore_n 2, 0, 0, 0), (.iinc 3 1, 0, 0, 0), (.goto (-55), 7, 0, 0)]
def fX11_fastersOf_57 (k7 : Nat → Nat → Int32 → Int32 → aH → Option (Int32 × aH)) (v0 : Nat) (v1 : Nat) (v3 : Int32) (s0 : Int32) (s1 : Int32) (h : aH) : Option (Int32 × aH) :=
  k7 v0 v1 (s1 ||| s0) (v3 + kI 1) h
theorem tX11_fastersOf_57 {d : Nat} {z : Int32 × aH} {k7 : Nat → Nat → Int32 → Int32 → aH → Option (Int32 × aH)} (hk7 : ∀ (v0 : Nat) (v1 : Nat) (v2 : Int32) (v3 : Int32) (h : aH), k7 v0 v1 v2 v3 h = some z → Ev (d + 0) none mX11_fastersOf (0, 0) 7 [.ref v0, .ref v1, .int v2, .int v3] [] h (QI z)) (v0 : Nat) (v1 : Nat) (v3 : Int32) (s0 : Int32) (s1 : Int32) (h : aH) (hf : fX11_fastersOf_57 k7 v0 v1 v3 s0 s1 h = some z) : Ev (d + 0) none mX11_fastersOf (0, 0) 57 [.ref v0, .ref v1, .null, .int v3] [.int s0, .int s1] h (QI z) := 
  go_ok (X := none) (blk := wX11_fastersOf_57) (np := 65) (tt := 7) (kN := fun _ _ _ => none) (kT := fun xs h st => app [2, 2, 1, 1] (fun v0 v1 v2 v3 => apS [] (k7 v0 v1 v2 v3 h) st) xs) (kR := kRI)
    (fun _ _ _ q => nos q)
    (fun xs h st q => jm [2, 2, 1, 1] _ (fun v0 v1 v2 v3 q => apS_ok [] _ (fun st => Ev (d + 0) none mX11_fastersOf (0, 0) 7 [.ref v0, .ref v1, .int v2, .int v3] st h (QI z)) st (fun q => hk7 v0 v1 v2 v3 h q) q) q)
    kRI_ok (Or.inr rfl) (by decide +kernel) (by decide +kernel) hf
def wX11_fastersOf_56 : List En := [(.iconst 0, 0, 0, 0)]
def fX11_fastersOf_56 (k7 : Nat → Nat → Int32 → Int32 → aH → Option (Int32 × aH)) (v0 : Nat) (v1 : Nat) (v3 : Int32) (s0 : Int32) (h : aH) : Option (Int32 × aH) :=
  fX11_fastersOf_57 k7 v0 v1 v3 (kI 0) s0 h
theorem tX11_fastersOf_56 {d : Nat} {z : Int32 × aH} {k7 : Nat → Nat → Int32 → Int32 → aH → Option (Int32 × aH)} (hk7 : ∀ (v0 : Nat) (v1 : Nat) (v2 : Int32) (v3 : Int32) (h : aH), k7 v0 v1 v2 v3 h = some z → Ev (d + 0) none mX11_fastersOf (0, 0) 7 [.ref v0, .ref v1, .int v2, .int v3] [] h (QI z)) (v0 : Nat) (v1 : Nat) (v3 : Int32) (s0 : Int32) (h : aH) (hf : fX11_fastersOf_56 k7 v0 v1 v3 s0 h = some z) : Ev (d + 0) none mX11_fastersOf (0, 0) 56 [.ref v0, .ref v1, .null, .int v3] [.int s0] h (QI z) := 
  go_ok (X := none) (blk := wX11_fastersOf_56) (np := 57) (tt := 0) (kN := fun xs h st => app [2, 2, 0, 1] (fun v0 v1 v3 => apS [1, 1] (fun s0 s1 => fX11_fastersOf_57 k7 v0 v1 v3 s0 s1 h) st) xs) (kT := fun _ _ _ => none) (kR := kRI)
    (fun xs h st q => jm [2, 2, 0, 1] _ (fun v0 v1 v3 q => apS_ok [1, 1] _ (fun st => Ev (d + 0) none mX11_fastersOf (0, 0) 57 [.ref v0, .ref v1, .null, .int v3] st h (QI z)) st (fun s0 s1 q => tX11_fastersOf_57 hk7 v0 v1 v3 s0 s1 h q) q) q)
    (fun _ _ _ q => nos q)
    kRI_ok (Or.inr rfl) (by decide +kernel) (by decide +kernel) hf
def wX11_fastersOf_40 : List En := [(.iconst 1, 0, 0, 0), (.aload_n 0, 0, 0, 0), (.getfield 20, 190, 11, 15), (.bipush 35, 0, 0, 0), (.iconst 2, 0, 0, 0), (.iload_n 3, 0, 0, 0), (.imul, 0, 0, 0), (.iadd, 0, 0, 0), (.iaload, 0, 0, 0), (.ishl, 0, 0, 0), (.goto 4, 57, 0, 0)]
def fX11_fastersOf_40 (k7 : Nat → Nat → Int32 → Int32 → aH → Option (Int32 × aH)) (v0 : Nat) (v1 : Nat) (v3 : Int32) (s0 : Int32) (h : aH) : Option (Int32 × aH) :=
  (gFR h 11 v0 15).bind fun t1 =>
  (aRI (h[t1]?) ((kB 35) + ((kI 2) * v3))).bind fun t2 =>
  fX11_fastersOf_57 k7 v0 v1 v3 ((kI 1) <<< (t2 &&& 31)) s0 h
theorem tX11_fastersOf_40 {d : Nat} {z : Int32 × aH} {k7 : Nat → Nat → Int32 → Int32 → aH → Option (Int32 × aH)} (hk7 : ∀ (v0 : Nat) (v1 : Nat) (v2 : Int32) (v3 : Int32) (h : aH), k7 v0 v1 v2 v3 h = some z → Ev (d + 0) none mX11_fastersOf (0, 0) 7 [.ref v0, .ref v1, .int v2, .int v3] [] h (QI z)) (v0 : Nat) (v1 : Nat) (v3 : Int32) (s0 : Int32) (h : aH) (hf : fX11_fastersOf_40 k7 v0 v1 v3 s0 h = some z) : Ev (d + 0) none mX11_fastersOf (0, 0) 40 [.ref v0, .ref v1, .null, .int v3] [.int s0] h (QI z) := 
  go_ok (X := none) (blk := wX11_fastersOf_40) (np := 56) (tt := 57) (kN := fun _ _ _ => none) (kT := fun xs h st => app [2, 2, 0, 1] (fun v0 v1 v3 => apS [1, 1] (fun s0 s1 => fX11_fastersOf_57 k7 v0 v1 v3 s0 s1 h) st) xs) (kR := kRI)
    (fun _ _ _ q => nos q)
    (fun xs h st q => jm [2, 2, 0, 1] _ (fun v0 v1 v3 q => apS_ok [1, 1] _ (fun st => Ev (d + 0) none mX11_fastersOf (0, 0) 57 [.ref v0, .ref v1, .null, .int v3] st h (QI z)) st (fun s0 s1 q => tX11_fastersOf_57 hk7 v0 v1 v3 s0 s1 h q) q) q)
    kRI_ok (Or.inr rfl) (by decide +kernel) (by decide +kernel) hf
def wX11_fastersOf_17 : List En := [(.iload_n 2, 0, 0, 0), (.aload_n 0, 0, 0, 0), (.getfield 20, 190, 11, 15), (.bipush 35, 0, 0, 0), (.iconst 2, 0, 0, 0), (.iload_n 3, 0, 0, 0), (.imul, 0, 0, 0), (.iadd, 0, 0, 0), (.iconst 1, 0, 0, 0), (.iadd, 0, 0, 0), (.iaload, 0, 0, 0), (.aload_n 1, 0, 0, 0), (.bipush 13, 0, 0, 0), (.iaload, 0, 0, 0), (.iconst 1, 0, 0, 0), (.iadd, 0, 0, 0), (.if_icmp .ne 19, 56, 0, 0)]
def fX11_fastersOf_17 (k7 : Nat → Nat → Int32 → Int32 → aH → Option (Int32 × aH)) (v0 : Nat) (v1 : Nat) (v2 : Int32) (v3 : Int32) (h : aH) : Option (Int32 × aH) :=
  (gFR h 11 v0 15).bind fun t1 =>
  (aRI (h[t1]?) (((kB 35) + ((kI 2) * v3)) + (kI 1))).bind fun t2 =>
  (aRI (h[v1]?) (kB 13)).bind fun t3 =>
  if t2 = (t3 + (kI 1)) then fX11_fastersOf_40 k7 v0 v1 v3 v2 h else fX11_fastersOf_56 k7 v0 v1 v3 v2 h
theorem tX11_fastersOf_17 {d : Nat} {z : Int32 × aH} {k7 : Nat → Nat → Int32 → Int32 → aH → Option (Int32 × aH)} (hk7 : ∀ (v0 : Nat) (v1 : Nat) (v2 : Int32) (v3 : Int32) (h : aH), k7 v0 v1 v2 v3 h = some z → Ev (d + 0) none mX11_fastersOf (0, 0) 7 [.ref v0, .ref v1, .int v2, .int v3] [] h (QI z)) (v0 : Nat) (v1 : Nat) (v2 : Int32) (v3 : Int32) (h : aH) (hf : fX11_fastersOf_17 k7 v0 v1 v2 v3 h = some z) : Ev (d + 0) none mX11_fastersOf (0, 0) 17 [.ref v0, .ref v1, .int v2, .int v3] [] h (QI z) := 
  go_ok (X := none) (blk := wX11_fastersOf_17) (np := 40) (tt := 56) (kN := fun xs h st => app [2, 2, 0, 1] (fun v0 v1 v3 => apS [1] (fun s0 => fX11_fastersOf_40 k7 v0 v1 v3 s0 h) st) xs) (kT := fun xs h st => app [2, 2, 0, 1] (fun v0 v1 v3 => apS [1] (fun s0 => fX11_fastersOf_56 k7 v0 v1 v3 s0 h) st) xs) (kR := kRI)
    (fun xs h st q => jm [2, 2, 0, 1] _ (fun v0 v1 v3 q => apS_ok [1] _ (fun st => Ev (d + 0) none mX11_fastersOf (0, 0) 40 [.ref v0, .ref v1, .null, .int v3] st h (QI z)) st (fun s0 q => tX11_fastersOf_40 hk7 v0 v1 v3 s0 h q) q) q)
    (fun xs h st q => jm [2, 2, 0, 1] _ (fun v0 v1 v3 q => apS_ok [1] _ (fun st => Ev (d + 0) none mX11_fastersOf (0, 0) 56 [.ref v0, .ref v1, .null, .int v3] st h (QI z)) st (fun s0 q => tX11_fastersOf_56 hk7 v0 v1 v3 s0 h q) q) q)
    kRI_ok (Or.inr rfl) (by decide +kernel) (by decide +kernel) hf
def wX11_fastersOf_7 : List En := [(.iload_n 3, 0, 0, 0), (.aload_n 0, 0, 0, 0), (.getfield 20, 190, 11, 15), (.iconst 5, 0, 0, 0), (.iaload, 0, 0, 0), (.if_icmp .ge 51, 65, 0, 0)]
def fX11_fastersOf_7 (k7 : Nat → Nat → Int32 → Int32 → aH → Option (Int32 × aH)) (v0 : Nat) (v1 : Nat) (v2 : Int32) (v3 : Int32) (h : aH) : Option (Int32 × aH) :=
  (gFR h 11 v0 15).bind fun t1 =>
  (aRI (h[t1]?) (kI 5)).bind fun t2 =>
  if v3 < t2 then fX11_fastersOf_17 k7 v0 v1 v2 v3 h else fX11_fastersOf_65 v2 h
theorem tX11_fastersOf_7 {d : Nat} {z : Int32 × aH} {k7 : Nat → Nat → Int32 → Int32 → aH → Option (Int32 × aH)} (hk7 : ∀ (v0 : Nat) (v1 : Nat) (v2 : Int32) (v3 : Int32) (h : aH), k7 v0 v1 v2 v3 h = some z → Ev (d + 0) none mX11_fastersOf (0, 0) 7 [.ref v0, .ref v1, .int v2, .int v3] [] h (QI z)) (v0 : Nat) (v1 : Nat) (v2 : Int32) (v3 : Int32) (h : aH) (hf : fX11_fastersOf_7 k7 v0 v1 v2 v3 h = some z) : Ev (d + 0) none mX11_fastersOf (0, 0) 7 [.ref v0, .ref v1, .int v2, .int v3] [] h (QI z) := 
  go_ok (X := none) (blk := wX11_fastersOf_7) (np := 17) (tt := 65) (kN := fun xs h st => app [2, 2, 1, 1] (fun v0 v1 v2 v3 => apS [] (fX11_fastersOf_17 k7 v0 v1 v2 v3 h) st) xs) (kT := fun xs h st => app [0, 0, 1, 0] (fun v2 => apS [] (fX11_fastersOf_65 v2 h) st) xs) (kR := kRI)
    (fun xs h st q => jm [2, 2, 1, 1] _ (fun v0 v1 v2 v3 q => apS_ok [] _ (fun st => Ev (d + 0) none mX11_fastersOf (0, 0) 17 [.ref v0, .ref v1, .int v2, .int v3] st h (QI z)) st (fun q => tX11_fastersOf_17 hk7 v0 v1 v2 v3 h q) q) q)
    (fun xs h st q => jm [0, 0, 1, 0] _ (fun v2 q => apS_ok [] _ (fun st => Ev (d + 0) none mX11_fastersOf (0, 0) 65 [.null, .null, .int v2, .null] st h (QI z)) st (fun q => tX11_fastersOf_65 v2 h q) q) q)
    kRI_ok (Or.inr rfl) (by decide +kernel) (by decide +kernel) hf
def lX11_fastersOf_7 : Nat → Nat → Nat → Int32 → Int32 → aH → Option (Int32 × aH)
  | 0, _, _, _, _, _ => none
  | n + 1, v0, v1, v2, v3, h => fX11_fastersOf_7 (lX11_fastersOf_7 n) v0 v1 v2 v3 h
theorem uX11_fastersOf_7 {d : Nat} {z : Int32 × aH} : ∀ (n : Nat) (v0 : Nat) (v1 : Nat) (v2 : Int32) (v3 : Int32) (h : aH), lX11_fastersOf_7 n v0 v1 v2 v3 h = some z → Ev (d + 0) none mX11_fastersOf (0, 0) 7 [.ref v0, .ref v1, .int v2, .int v3] [] h (QI z) := by
  intro n
  induction n with
  | zero => intro _ _ _ _ _ q; exact nos (show (none : Option (Int32 × aH)) = some z from q)
  | succ n ih => intro v0 v1 v2 v3 h q; exact tX11_fastersOf_7 ih v0 v1 v2 v3 h q
def wX11_fastersOf_0 : List En := [(.aload_n 1, 0, 0, 0), (.bipush 11, 0, 0, 0), (.iaload, 0, 0, 0), (.istore_n 2, 0, 0, 0), (.iconst 0, 0, 0, 0), (.istore_n 3, 0, 0, 0)]
def fX11_fastersOf_0 (v0 : Nat) (v1 : Nat) (h : aH) : Option (Int32 × aH) :=
  (aRI (h[v1]?) (kB 11)).bind fun t1 =>
  lX11_fastersOf_7 FU v0 v1 t1 (kI 0) h
theorem tX11_fastersOf_0 {d : Nat} {z : Int32 × aH} (v0 : Nat) (v1 : Nat) (h : aH) (hf : fX11_fastersOf_0 v0 v1 h = some z) : Ev (d + 0) none mX11_fastersOf (0, 0) 0 [.ref v0, .ref v1, .null, .null] [] h (QI z) := 
  go_ok (X := none) (blk := wX11_fastersOf_0) (np := 7) (tt := 0) (kN := fun xs h st => app [2, 2, 1, 1] (fun v0 v1 v2 v3 => apS [] (lX11_fastersOf_7 FU v0 v1 v2 v3 h) st) xs) (kT := fun _ _ _ => none) (kR := kRI)
    (fun xs h st q => jm [2, 2, 1, 1] _ (fun v0 v1 v2 v3 q => apS_ok [] _ (fun st => Ev (d + 0) none mX11_fastersOf (0, 0) 7 [.ref v0, .ref v1, .int v2, .int v3] st h (QI z)) st (fun q => uX11_fastersOf_7 FU v0 v1 v2 v3 h q) q) q)
    (fun _ _ _ q => nos q)
    kRI_ok (Or.inr rfl) (by decide +kernel) (by decide +kernel) hf
def gX11_fastersOf (v0 : Nat) (v1 : Nat) (h : aH) : Option (Int32 × aH) := fX11_fastersOf_0 v0 v1 h
theorem zX11_fastersOf {d : Nat} {z : Int32 × aH} {v0 : Nat} {v1 : Nat} {h : aH} (q : gX11_fastersOf v0 v1 h = some z) : CT (d + 0) mX11_fastersOf (0, 0) [.ref v0, .ref v1] h (QI z) :=
  ct_ev (by decide +kernel) (Nat.le_of_ble_eq_true rfl) QI_r (jm [2, 2, 0, 0] (fun v0 v1 => fX11_fastersOf_0 v0 v1 h) (fun v0 v1 q => tX11_fastersOf_0 v0 v1 h q) q)
def wX11_namerOf_69 : List En := [(.iload_n 3, 0, 0, 0), (.ireturn, 0, 0, 0)]
def fX11_namerOf_69 (v3 : Int32) (h : aH) : Option (Int32 × aH) :=
  some (v3, h)
theorem tX11_namerOf_69 {d : Nat} {z : Int32 × aH} (v3 : Int32) (h : aH) (hf : fX11_namerOf_69 v3 h = some z) : Ev (d + 2) none mX11_namerOf (0, 0) 69 [.null, .null, .null, .int v3, .null] [] h (QI z) := 
  go_ok (X := none) (blk := wX11_namerOf_69) (np := 71) (tt := 0) (kN := fun _ _ _ => none) (kT := fun _ _ _ => none) (kR := kRI)
    (fun _ _ _ q => nos q)
    (fun _ _ _ q => nos q)
    kRI_ok (Or.inr rfl) (by decide +kernel) (by decide +kernel) hf
def wX11_namerOf_63 : List En := [(.iinc 4 1, 0, 0, 0), (.goto (-60), 6, 0, 0)]
def fX11_namerOf_63 (k6 : Nat → Nat → Int32 → Int32 → Int32 → aH → Option (Int32 × aH)) (v0 : Nat) (v1 : Nat) (v2 : Int32) (v3 : Int32) (v4 : Int32) (h : aH) : Option (Int32 × aH) :=
  k6 v0 v1 v2 v3 (v4 + kI 1) h
theorem tX11_namerOf_63 {d : Nat} {z : Int32 × aH} {k6 : Nat → Nat → Int32 → Int32 → Int32 → aH → Option (Int32 × aH)} (hk6 : ∀ (v0 : Nat) (v1 : Nat) (v2 : Int32) (v3 : Int32) (v4 : Int32) (h : aH), k6 v0 v1 v2 v3 v4 h = some z → Ev (d + 2) none mX11_namerOf (0, 0) 6 [.ref v0, .ref v1, .int v2, .int v3, .int v4] [] h (QI z)) (v0 : Nat) (v1 : Nat) (v2 : Int32) (v3 : Int32) (v4 : Int32) (h : aH) (hf : fX11_namerOf_63 k6 v0 v1 v2 v3 v4 h = some z) : Ev (d + 2) none mX11_namerOf (0, 0) 63 [.ref v0, .ref v1, .int v2, .int v3, .int v4] [] h (QI z) := 
  go_ok (X := none) (blk := wX11_namerOf_63) (np := 69) (tt := 6) (kN := fun _ _ _ => none) (kT := fun xs h st => app [2, 2, 1, 1, 1] (fun v0 v1 v2 v3 v4 => apS [] (k6 v0 v1 v2 v3 v4 h) st) xs) (kR := kRI)
    (fun _ _ _ q => nos q)
    (fun xs h st q => jm [2, 2, 1, 1, 1] _ (fun v0 v1 v2 v3 v4 q => apS_ok [] _ (fun st => Ev (d + 2) none mX11_namerOf (0, 0) 6 [.ref v0, .ref v1, .int v2, .int v3, .int v4] st h (QI z)) st (fun q => hk6 v0 v1 v2 v3 v4 h q) q) q)
    kRI_ok (Or.inr rfl) (by decide +kernel) (by decide +kernel) hf
def wX11_namerOf_60 : List En := [(.iload 4, 0, 0, 0), (.istore_n 3, 0, 0, 0)]
def fX11_namerOf_60 (k6 : Nat → Nat → Int32 → Int32 → Int32 → aH → Option (Int32 × aH)) (v0 : Nat) (v1 : Nat) (v2 : Int32) (v4 : Int32) (h : aH) : Option (Int32 × aH) :=
  fX11_namerOf_63 k6 v0 v1 v2 v4 v4 h
theorem tX11_namerOf_60 {d : Nat} {z : Int32 × aH} {k6 : Nat → Nat → Int32 → Int32 → Int32 → aH → Option (Int32 × aH)} (hk6 : ∀ (v0 : Nat) (v1 : Nat) (v2 : Int32) (v3 : Int32) (v4 : Int32) (h : aH), k6 v0 v1 v2 v3 v4 h = some z → Ev (d + 2) none mX11_namerOf (0, 0) 6 [.ref v0, .ref v1, .int v2, .int v3, .int v4] [] h (QI z)) (v0 : Nat) (v1 : Nat) (v2 : Int32) (v4 : Int32) (h : aH) (hf : fX11_namerOf_60 k6 v0 v1 v2 v4 h = some z) : Ev (d + 2) none mX11_namerOf (0, 0) 60 [.ref v0, .ref v1, .int v2, .null, .int v4] [] h (QI z) := 
  go_ok (X := none) (blk := wX11_namerOf_60) (np := 63) (tt := 0) (kN := fun xs h st => app [2, 2, 1, 1, 1] (fun v0 v1 v2 v3 v4 => apS [] (fX11_namerOf_63 k6 v0 v1 v2 v3 v4 h) st) xs) (kT := fun _ _ _ => none) (kR := kRI)
    (fun xs h st q => jm [2, 2, 1, 1, 1] _ (fun v0 v1 v2 v3 v4 q => apS_ok [] _ (fun st => Ev (d + 2) none mX11_namerOf (0, 0) 63 [.ref v0, .ref v1, .int v2, .int v3, .int v4] st h (QI z)) st (fun q => tX11_namerOf_63 hk6 v0 v1 v2 v3 v4 h q) q) q)
    (fun _ _ _ q => nos q)
    kRI_ok (Or.inr rfl) (by decide +kernel) (by decide +kernel) hf
def wX11_namerOf_57 : List En := [(.if_icmp .le 6, 63, 0, 0)]
def fX11_namerOf_57 (k6 : Nat → Nat → Int32 → Int32 → Int32 → aH → Option (Int32 × aH)) (v0 : Nat) (v1 : Nat) (v2 : Int32) (v3 : Int32) (v4 : Int32) (s0 : Int32) (s1 : Int32) (h : aH) : Option (Int32 × aH) :=
  if s0 < s1 then fX11_namerOf_60 k6 v0 v1 v2 v4 h else fX11_namerOf_63 k6 v0 v1 v2 v3 v4 h
theorem tX11_namerOf_57 {d : Nat} {z : Int32 × aH} {k6 : Nat → Nat → Int32 → Int32 → Int32 → aH → Option (Int32 × aH)} (hk6 : ∀ (v0 : Nat) (v1 : Nat) (v2 : Int32) (v3 : Int32) (v4 : Int32) (h : aH), k6 v0 v1 v2 v3 v4 h = some z → Ev (d + 2) none mX11_namerOf (0, 0) 6 [.ref v0, .ref v1, .int v2, .int v3, .int v4] [] h (QI z)) (v0 : Nat) (v1 : Nat) (v2 : Int32) (v3 : Int32) (v4 : Int32) (s0 : Int32) (s1 : Int32) (h : aH) (hf : fX11_namerOf_57 k6 v0 v1 v2 v3 v4 s0 s1 h = some z) : Ev (d + 2) none mX11_namerOf (0, 0) 57 [.ref v0, .ref v1, .int v2, .int v3, .int v4] [.int s0, .int s1] h (QI z) := 
  go_ok (X := none) (blk := wX11_namerOf_57) (np := 60) (tt := 63) (kN := fun xs h st => app [2, 2, 1, 0, 1] (fun v0 v1 v2 v4 => apS [] (fX11_namerOf_60 k6 v0 v1 v2 v4 h) st) xs) (kT := fun xs h st => app [2, 2, 1, 1, 1] (fun v0 v1 v2 v3 v4 => apS [] (fX11_namerOf_63 k6 v0 v1 v2 v3 v4 h) st) xs) (kR := kRI)
    (fun xs h st q => jm [2, 2, 1, 0, 1] _ (fun v0 v1 v2 v4 q => apS_ok [] _ (fun st => Ev (d + 2) none mX11_namerOf (0, 0) 60 [.ref v0, .ref v1, .int v2, .null, .int v4] st h (QI z)) st (fun q => tX11_namerOf_60 hk6 v0 v1 v2 v4 h q) q) q)
    (fun xs h st q => jm [2, 2, 1, 1, 1] _ (fun v0 v1 v2 v3 v4 q => apS_ok [] _ (fun st => Ev (d + 2) none mX11_namerOf (0, 0) 63 [.ref v0, .ref v1, .int v2, .int v3, .int v4] st h (QI z)) st (fun q => tX11_namerOf_63 hk6 v0 v1 v2 v3 v4 h q) q) q)
    kRI_ok (Or.inr rfl) (by decide +kernel) (by decide +kernel) hf
theorem kqX11_namerOf_54 : okC mX11_namerOf 54 (.invokevirtual 253) 223 240 0 3 = true := by decide +kernel
def fX11_namerOf_54 (k6 : Nat → Nat → Int32 → Int32 → Int32 → aH → Option (Int32 × aH)) (v0 : Nat) (v1 : Nat) (v2 : Int32) (v3 : Int32) (v4 : Int32) (s0 : Int32) (s1 : Int32) (s2 : Nat) (s3 : Nat) (s4 : Int32) (h : aH) : Option (Int32 × aH) :=
  (isO h 11 s3).bind fun _ =>
  (gX11_seenOf s3 s2 s1 s0 h).bind fun r =>
  fX11_namerOf_57 k6 v0 v1 v2 v3 v4 r.1 s4 r.2
theorem tX11_namerOf_54 {d : Nat} {z : Int32 × aH} {k6 : Nat → Nat → Int32 → Int32 → Int32 → aH → Option (Int32 × aH)} (hk6 : ∀ (v0 : Nat) (v1 : Nat) (v2 : Int32) (v3 : Int32) (v4 : Int32) (h : aH), k6 v0 v1 v2 v3 v4 h = some z → Ev (d + 2) none mX11_namerOf (0, 0) 6 [.ref v0, .ref v1, .int v2, .int v3, .int v4] [] h (QI z)) (v0 : Nat) (v1 : Nat) (v2 : Int32) (v3 : Int32) (v4 : Int32) (s0 : Int32) (s1 : Int32) (s2 : Nat) (s3 : Nat) (s4 : Int32) (h : aH) (hf : fX11_namerOf_54 k6 v0 v1 v2 v3 v4 s0 s1 s2 s3 s4 h = some z) : Ev (d + 2) none mX11_namerOf (0, 0) 54 [.ref v0, .ref v1, .int v2, .int v3, .int v4] [.int s0, .int s1, .ref s2, .ref s3, .int s4] h (QI z) := by
  obtain ⟨_, h1, hf⟩ := bnd hf
  obtain ⟨fs, ho⟩ := isO_ok h1
  obtain ⟨r, h2, hf⟩ := bnd hf
  refine ev_V kqX11_namerOf_54 jX11_seenOf (zX11_seenOf (d := d + 1) h2) ho rfl rfl (Nat.le_of_ble_eq_true rfl) rfl (as := [.ref s2, .int s1, .int s0]) (rest := [.int s4]) rfl (Nat.le_of_ble_eq_true rfl) (fun _ _ hq => ?_)
  obtain ⟨rfl, rfl⟩ := hq
  exact jm [2, 2, 1, 1, 1] (fun v0 v1 v2 v3 v4 => fX11_namerOf_57 k6 v0 v1 v2 v3 v4 r.1 s4 r.2) (fun v0 v1 v2 v3 v4 q => tX11_namerOf_57 hk6 v0 v1 v2 v3 v4 r.1 s4 r.2 q) hf
def wX11_namerOf_48 : List En := [(.aload_n 0, 0, 0, 0), (.aload_n 1, 0, 0, 0), (.iload_n 3, 0, 0, 0), (.aload_n 1, 0, 0, 0), (.iload_n 3, 0, 0, 0), (.iaload, 0, 0, 0)]
def fX11_namerOf_48 (k6 : Nat → Nat → Int32 → Int32 → Int32 → aH → Option (Int32 × aH)) (v0 : Nat) (v1 : Nat) (v2 : Int32) (v3 : Int32) (v4 : Int32) (s0 : Int32) (h : aH) : Option (Int32 × aH) :=
  (aRI (h[v1]?) v3).bind fun t1 =>
  fX11_namerOf_54 k6 v0 v1 v2 v3 v4 t1 v3 v1 v0 s0 h
theorem tX11_namerOf_48 {d : Nat} {z : Int32 × aH} {k6 : Nat → Nat → Int32 → Int32 → Int32 → aH → Option (Int32 × aH)} (hk6 : ∀ (v0 : Nat) (v1 : Nat) (v2 : Int32) (v3 : Int32) (v4 : Int32) (h : aH), k6 v0 v1 v2 v3 v4 h = some z → Ev (d + 2) none mX11_namerOf (0, 0) 6 [.ref v0, .ref v1, .int v2, .int v3, .int v4] [] h (QI z)) (v0 : Nat) (v1 : Nat) (v2 : Int32) (v3 : Int32) (v4 : Int32) (s0 : Int32) (h : aH) (hf : fX11_namerOf_48 k6 v0 v1 v2 v3 v4 s0 h = some z) : Ev (d + 2) none mX11_namerOf (0, 0) 48 [.ref v0, .ref v1, .int v2, .int v3, .int v4] [.int s0] h (QI z) := 
  go_ok (X := none) (blk := wX11_namerOf_48) (np := 54) (tt := 0) (kN := fun xs h st => app [2, 2, 1, 1, 1] (fun v0 v1 v2 v3 v4 => apS [1, 1, 2, 2, 1] (fun s0 s1 s2 s3 s4 => fX11_namerOf_54 k6 v0 v1 v2 v3 v4 s0 s1 s2 s3 s4 h) st) xs) (kT := fun _ _ _ => none) (kR := kRI)
    (fun xs h st q => jm [2, 2, 1, 1, 1] _ (fun v0 v1 v2 v3 v4 q => apS_ok [1, 1, 2, 2, 1] _ (fun st => Ev (d + 2) none mX11_namerOf (0, 0) 54 [.ref v0, .ref v1, .int v2, .int v3, .int v4] st h (QI z)) st (fun s0 s1 s2 s3 s4 q => tX11_namerOf_54 hk6 v0 v1 v2 v3 v4 s0 s1 s2 s3 s4 h q) q) q)
    (fun _ _ _ q => nos q)
    kRI_ok (Or.inr rfl) (by decide +kernel) (by decide +kernel) hf
theorem kqX11_namerOf_45 : okC mX11_namerOf 45 (.invokevirtual 253) 223 240 0 3 = true := by decide +kernel
def fX11_namerOf_45 (k6 : Nat → Nat → Int32 → Int32 → Int32 → aH → Option (Int32 × aH)) (v0 : Nat) (v1 : Nat) (v2 : Int32) (v3 : Int32) (v4 : Int32) (s0 : Int32) (s1 : Int32) (s2 : Nat) (s3 : Nat) (h : aH) : Option (Int32 × aH) :=
  (isO h 11 s3).bind fun _ =>
  (gX11_seenOf s3 s2 s1 s0 h).bind fun r =>
  fX11_namerOf_48 k6 v0 v1 v2 v3 v4 r.1 r.2
theorem tX11_namerOf_45 {d : Nat} {z : Int32 × aH} {k6 : Nat → Nat → Int32 → Int32 → Int32 → aH → Option (Int32 × aH)} (hk6 : ∀ (v0 : Nat) (v1 : Nat) (v2 : Int32) (v3 : Int32) (v4 : Int32) (h : aH), k6 v0 v1 v2 v3 v4 h = some z → Ev (d + 2) none mX11_namerOf (0, 0) 6 [.ref v0, .ref v1, .int v2, .int v3, .int v4] [] h (QI z)) (v0 : Nat) (v1 : Nat) (v2 : Int32) (v3 : Int32) (v4 : Int32) (s0 : Int32) (s1 : Int32) (s2 : Nat) (s3 : Nat) (h : aH) (hf : fX11_namerOf_45 k6 v0 v1 v2 v3 v4 s0 s1 s2 s3 h = some z) : Ev (d + 2) none mX11_namerOf (0, 0) 45 [.ref v0, .ref v1, .int v2, .int v3, .int v4] [.int s0, .int s1, .ref s2, .ref s3] h (QI z) := by
  obtain ⟨_, h1, hf⟩ := bnd hf
  obtain ⟨fs, ho⟩ := isO_ok h1
  obtain ⟨r, h2, hf⟩ := bnd hf
  refine ev_V kqX11_namerOf_45 jX11_seenOf (zX11_seenOf (d := d + 1) h2) ho rfl rfl (Nat.le_of_ble_eq_true rfl) rfl (as := [.ref s2, .int s1, .int s0]) (rest := []) rfl (Nat.le_of_ble_eq_true rfl) (fun _ _ hq => ?_)
  obtain ⟨rfl, rfl⟩ := hq
  exact jm [2, 2, 1, 1, 1] (fun v0 v1 v2 v3 v4 => fX11_namerOf_48 k6 v0 v1 v2 v3 v4 r.1 r.2) (fun v0 v1 v2 v3 v4 q => tX11_namerOf_48 hk6 v0 v1 v2 v3 v4 r.1 r.2 q) hf
def wX11_namerOf_37 : List En := [(.aload_n 0, 0, 0, 0), (.aload_n 1, 0, 0, 0), (.iload 4, 0, 0, 0), (.aload_n 1, 0, 0, 0), (.iload 4, 0, 0, 0), (.iaload, 0, 0, 0)]
def fX11_namerOf_37 (k6 : Nat → Nat → Int32 → Int32 → Int32 → aH → Option (Int32 × aH)) (v0 : Nat) (v1 : Nat) (v2 : Int32) (v3 : Int32) (v4 : Int32) (h : aH) : Option (Int32 × aH) :=
  (aRI (h[v1]?) v4).bind fun t1 =>
  fX11_namerOf_45 k6 v0 v1 v2 v3 v4 t1 v4 v1 v0 h
theorem tX11_namerOf_37 {d : Nat} {z : Int32 × aH} {k6 : Nat → Nat → Int32 → Int32 → Int32 → aH → Option (Int32 × aH)} (hk6 : ∀ (v0 : Nat) (v1 : Nat) (v2 : Int32) (v3 : Int32) (v4 : Int32) (h : aH), k6 v0 v1 v2 v3 v4 h = some z → Ev (d + 2) none mX11_namerOf (0, 0) 6 [.ref v0, .ref v1, .int v2, .int v3, .int v4] [] h (QI z)) (v0 : Nat) (v1 : Nat) (v2 : Int32) (v3 : Int32) (v4 : Int32) (h : aH) (hf : fX11_namerOf_37 k6 v0 v1 v2 v3 v4 h = some z) : Ev (d + 2) none mX11_namerOf (0, 0) 37 [.ref v0, .ref v1, .int v2, .int v3, .int v4] [] h (QI z) := 
  go_ok (X := none) (blk := wX11_namerOf_37) (np := 45) (tt := 0) (kN := fun xs h st => app [2, 2, 1, 1, 1] (fun v0 v1 v2 v3 v4 => apS [1, 1, 2, 2] (fun s0 s1 s2 s3 => fX11_namerOf_45 k6 v0 v1 v2 v3 v4 s0 s1 s2 s3 h) st) xs) (kT := fun _ _ _ => none) (kR := kRI)
    (fun xs h st q => jm [2, 2, 1, 1, 1] _ (fun v0 v1 v2 v3 v4 q => apS_ok [1, 1, 2, 2] _ (fun st => Ev (d + 2) none mX11_namerOf (0, 0) 45 [.ref v0, .ref v1, .int v2, .int v3, .int v4] st h (QI z)) st (fun s0 s1 s2 s3 q => tX11_namerOf_45 hk6 v0 v1 v2 v3 v4 s0 s1 s2 s3 h q) q) q)
    (fun _ _ _ q => nos q)
    kRI_ok (Or.inr rfl) (by decide +kernel) (by decide +kernel) hf
def wX11_namerOf_33 : List En := [(.iload_n 3, 0, 0, 0), (.ifCond .lt 26, 60, 0, 0)]
def fX11_namerOf_33 (k6 : Nat → Nat → Int32 → Int32 → Int32 → aH → Option (Int32 × aH)) (v0 : Nat) (v1 : Nat) (v2 : Int32) (v3 : Int32) (v4 : Int32) (h : aH) : Option (Int32 × aH) :=
  if v3 < 0 then fX11_namerOf_60 k6 v0 v1 v2 v4 h else fX11_namerOf_37 k6 v0 v1 v2 v3 v4 h
theorem tX11_namerOf_33 {d : Nat} {z : Int32 × aH} {k6 : Nat → Nat → Int32 → Int32 → Int32 → aH → Option (Int32 × aH)} (hk6 : ∀ (v0 : Nat) (v1 : Nat) (v2 : Int32) (v3 : Int32) (v4 : Int32) (h : aH), k6 v0 v1 v2 v3 v4 h = some z → Ev (d + 2) none mX11_namerOf (0, 0) 6 [.ref v0, .ref v1, .int v2, .int v3, .int v4] [] h (QI z)) (v0 : Nat) (v1 : Nat) (v2 : Int32) (v3 : Int32) (v4 : Int32) (h : aH) (hf : fX11_namerOf_33 k6 v0 v1 v2 v3 v4 h = some z) : Ev (d + 2) none mX11_namerOf (0, 0) 33 [.ref v0, .ref v1, .int v2, .int v3, .int v4] [] h (QI z) := 
  go_ok (X := none) (blk := wX11_namerOf_33) (np := 37) (tt := 60) (kN := fun xs h st => app [2, 2, 1, 1, 1] (fun v0 v1 v2 v3 v4 => apS [] (fX11_namerOf_37 k6 v0 v1 v2 v3 v4 h) st) xs) (kT := fun xs h st => app [2, 2, 1, 0, 1] (fun v0 v1 v2 v4 => apS [] (fX11_namerOf_60 k6 v0 v1 v2 v4 h) st) xs) (kR := kRI)
    (fun xs h st q => jm [2, 2, 1, 1, 1] _ (fun v0 v1 v2 v3 v4 q => apS_ok [] _ (fun st => Ev (d + 2) none mX11_namerOf (0, 0) 37 [.ref v0, .ref v1, .int v2, .int v3, .int v4] st h (QI z)) st (fun q => tX11_namerOf_37 hk6 v0 v1 v2 v3 v4 h q) q) q)
    (fun xs h st q => jm [2, 2, 1, 0, 1] _ (fun v0 v1 v2 v4 q => apS_ok [] _ (fun st => Ev (d + 2) none mX11_namerOf (0, 0) 60 [.ref v0, .ref v1, .int v2, .null, .int v4] st h (QI z)) st (fun q => tX11_namerOf_60 hk6 v0 v1 v2 v4 h q) q) q)
    kRI_ok (Or.inr rfl) (by decide +kernel) (by decide +kernel) hf
def wX11_namerOf_27 : List En := [(.iload 4, 0, 0, 0), (.iload_n 2, 0, 0, 0), (.if_icmp .eq 33, 63, 0, 0)]
def fX11_namerOf_27 (k6 : Nat → Nat → Int32 → Int32 → Int32 → aH → Option (Int32 × aH)) (v0 : Nat) (v1 : Nat) (v2 : Int32) (v3 : Int32) (v4 : Int32) (h : aH) : Option (Int32 × aH) :=
  if v4 = v2 then fX11_namerOf_63 k6 v0 v1 v2 v3 v4 h else fX11_namerOf_33 k6 v0 v1 v2 v3 v4 h
theorem tX11_namerOf_27 {d : Nat} {z : Int32 × aH} {k6 : Nat → Nat → Int32 → Int32 → Int32 → aH → Option (Int32 × aH)} (hk6 : ∀ (v0 : Nat) (v1 : Nat) (v2 : Int32) (v3 : Int32) (v4 : Int32) (h : aH), k6 v0 v1 v2 v3 v4 h = some z → Ev (d + 2) none mX11_namerOf (0, 0) 6 [.ref v0, .ref v1, .int v2, .int v3, .int v4] [] h (QI z)) (v0 : Nat) (v1 : Nat) (v2 : Int32) (v3 : Int32) (v4 : Int32) (h : aH) (hf : fX11_namerOf_27 k6 v0 v1 v2 v3 v4 h = some z) : Ev (d + 2) none mX11_namerOf (0, 0) 27 [.ref v0, .ref v1, .int v2, .int v3, .int v4] [] h (QI z) := 
  go_ok (X := none) (blk := wX11_namerOf_27) (np := 33) (tt := 63) (kN := fun xs h st => app [2, 2, 1, 1, 1] (fun v0 v1 v2 v3 v4 => apS [] (fX11_namerOf_33 k6 v0 v1 v2 v3 v4 h) st) xs) (kT := fun xs h st => app [2, 2, 1, 1, 1] (fun v0 v1 v2 v3 v4 => apS [] (fX11_namerOf_63 k6 v0 v1 v2 v3 v4 h) st) xs) (kR := kRI)
    (fun xs h st q => jm [2, 2, 1, 1, 1] _ (fun v0 v1 v2 v3 v4 q => apS_ok [] _ (fun st => Ev (d + 2) none mX11_namerOf (0, 0) 33 [.ref v0, .ref v1, .int v2, .int v3, .int v4] st h (QI z)) st (fun q => tX11_namerOf_33 hk6 v0 v1 v2 v3 v4 h q) q) q)
    (fun xs h st q => jm [2, 2, 1, 1, 1] _ (fun v0 v1 v2 v3 v4 q => apS_ok [] _ (fun st => Ev (d + 2) none mX11_namerOf (0, 0) 63 [.ref v0, .ref v1, .int v2, .int v3, .int v4] st h (QI z)) st (fun q => tX11_namerOf_63 hk6 v0 v1 v2 v3 v4 h q) q) q)
    kRI_ok (Or.inr rfl) (by decide +kernel) (by decide +kernel) hf
def wX11_namerOf_24 : List En := [(.ifCond .eq 39, 63, 0, 0)]
def fX11_namerOf_24 (k6 : Nat → Nat → Int32 → Int32 → Int32 → aH → Option (Int32 × aH)) (v0 : Nat) (v1 : Nat) (v2 : Int32) (v3 : Int32) (v4 : Int32) (s0 : Int32) (h : aH) : Option (Int32 × aH) :=
  if s0 = 0 then fX11_namerOf_63 k6 v0 v1 v2 v3 v4 h else fX11_namerOf_27 k6 v0 v1 v2 v3 v4 h
theorem tX11_namerOf_24 {d : Nat} {z : Int32 × aH} {k6 : Nat → Nat → Int32 → Int32 → Int32 → aH → Option (Int32 × aH)} (hk6 : ∀ (v0 : Nat) (v1 : Nat) (v2 : Int32) (v3 : Int32) (v4 : Int32) (h : aH), k6 v0 v1 v2 v3 v4 h = some z → Ev (d + 2) none mX11_namerOf (0, 0) 6 [.ref v0, .ref v1, .int v2, .int v3, .int v4] [] h (QI z)) (v0 : Nat) (v1 : Nat) (v2 : Int32) (v3 : Int32) (v4 : Int32) (s0 : Int32) (h : aH) (hf : fX11_namerOf_24 k6 v0 v1 v2 v3 v4 s0 h = some z) : Ev (d + 2) none mX11_namerOf (0, 0) 24 [.ref v0, .ref v1, .int v2, .int v3, .int v4] [.int s0] h (QI z) := 
  go_ok (X := none) (blk := wX11_namerOf_24) (np := 27) (tt := 63) (kN := fun xs h st => app [2, 2, 1, 1, 1] (fun v0 v1 v2 v3 v4 => apS [] (fX11_namerOf_27 k6 v0 v1 v2 v3 v4 h) st) xs) (kT := fun xs h st => app [2, 2, 1, 1, 1] (fun v0 v1 v2 v3 v4 => apS [] (fX11_namerOf_63 k6 v0 v1 v2 v3 v4 h) st) xs) (kR := kRI)
    (fun xs h st q => jm [2, 2, 1, 1, 1] _ (fun v0 v1 v2 v3 v4 q => apS_ok [] _ (fun st => Ev (d + 2) none mX11_namerOf (0, 0) 27 [.ref v0, .ref v1, .int v2, .int v3, .int v4] st h (QI z)) st (fun q => tX11_namerOf_27 hk6 v0 v1 v2 v3 v4 h q) q) q)
    (fun xs h st q => jm [2, 2, 1, 1, 1] _ (fun v0 v1 v2 v3 v4 q => apS_ok [] _ (fun st => Ev (d + 2) none mX11_namerOf (0, 0) 63 [.ref v0, .ref v1, .int v2, .int v3, .int v4] st h (QI z)) st (fun q => tX11_namerOf_63 hk6 v0 v1 v2 v3 v4 h q) q) q)
    kRI_ok (Or.inr rfl) (by decide +kernel) (by decide +kernel) hf
theorem kqX11_namerOf_21 : okC mX11_namerOf 21 (.invokevirtual 249) 221 238 0 2 = true := by decide +kernel
def fX11_namerOf_21 (k6 : Nat → Nat → Int32 → Int32 → Int32 → aH → Option (Int32 × aH)) (v0 : Nat) (v1 : Nat) (v2 : Int32) (v3 : Int32) (v4 : Int32) (s0 : Int32) (s1 : Nat) (s2 : Nat) (h : aH) : Option (Int32 × aH) :=
  (isO h 11 s2).bind fun _ =>
  (gX11_lives s2 s1 s0 h).bind fun r =>
  fX11_namerOf_24 k6 v0 v1 v2 v3 v4 r.1 r.2
theorem tX11_namerOf_21 {d : Nat} {z : Int32 × aH} {k6 : Nat → Nat → Int32 → Int32 → Int32 → aH → Option (Int32 × aH)} (hk6 : ∀ (v0 : Nat) (v1 : Nat) (v2 : Int32) (v3 : Int32) (v4 : Int32) (h : aH), k6 v0 v1 v2 v3 v4 h = some z → Ev (d + 2) none mX11_namerOf (0, 0) 6 [.ref v0, .ref v1, .int v2, .int v3, .int v4] [] h (QI z)) (v0 : Nat) (v1 : Nat) (v2 : Int32) (v3 : Int32) (v4 : Int32) (s0 : Int32) (s1 : Nat) (s2 : Nat) (h : aH) (hf : fX11_namerOf_21 k6 v0 v1 v2 v3 v4 s0 s1 s2 h = some z) : Ev (d + 2) none mX11_namerOf (0, 0) 21 [.ref v0, .ref v1, .int v2, .int v3, .int v4] [.int s0, .ref s1, .ref s2] h (QI z) := by
  obtain ⟨_, h1, hf⟩ := bnd hf
  obtain ⟨fs, ho⟩ := isO_ok h1
  obtain ⟨r, h2, hf⟩ := bnd hf
  refine ev_V kqX11_namerOf_21 jX11_lives (zX11_lives (d := d + 0) h2) ho rfl rfl (Nat.le_of_ble_eq_true rfl) rfl (as := [.ref s1, .int s0]) (rest := []) rfl (Nat.le_of_ble_eq_true rfl) (fun _ _ hq => ?_)
  obtain ⟨-, rfl, rfl⟩ := hq
  exact jm [2, 2, 1, 1, 1] (fun v0 v1 v2 v3 v4 => fX11_namerOf_24 k6 v0 v1 v2 v3 v4 r.1 r.2) (fun v0 v1 v2 v3 v4 q => tX11_namerOf_24 hk6 v0 v1 v2 v3 v4 r.1 r.2 q) hf
def wX11_namerOf_17 : List En := [(.aload_n 0, 0, 0, 0), (.aload_n 1, 0, 0, 0), (.iload 4, 0, 0, 0)]
def fX11_namerOf_17 (k6 : Nat → Nat → Int32 → Int32 → Int32 → aH → Option (Int32 × aH)) (v0 : Nat) (v1 : Nat) (v2 : Int32) (v3 : Int32) (v4 : Int32) (h : aH) : Option (Int32 × aH) :=
  fX11_namerOf_21 k6 v0 v1 v2 v3 v4 v4 v1 v0 h
theorem tX11_namerOf_17 {d : Nat} {z : Int32 × aH} {k6 : Nat → Nat → Int32 → Int32 → Int32 → aH → Option (Int32 × aH)} (hk6 : ∀ (v0 : Nat) (v1 : Nat) (v2 : Int32) (v3 : Int32) (v4 : Int32) (h : aH), k6 v0 v1 v2 v3 v4 h = some z → Ev (d + 2) none mX11_namerOf (0, 0) 6 [.ref v0, .ref v1, .int v2, .int v3, .int v4] [] h (QI z)) (v0 : Nat) (v1 : Nat) (v2 : Int32) (v3 : Int32) (v4 : Int32) (h : aH) (hf : fX11_namerOf_17 k6 v0 v1 v2 v3 v4 h = some z) : Ev (d + 2) none mX11_namerOf (0, 0) 17 [.ref v0, .ref v1, .int v2, .int v3, .int v4] [] h (QI z) := 
  go_ok (X := none) (blk := wX11_namerOf_17) (np := 21) (tt := 0) (kN := fun xs h st => app [2, 2, 1, 1, 1] (fun v0 v1 v2 v3 v4 => apS [1, 2, 2] (fun s0 s1 s2 => fX11_namerOf_21 k6 v0 v1 v2 v3 v4 s0 s1 s2 h) st) xs) (kT := fun _ _ _ => none) (kR := kRI)
    (fun xs h st q => jm [2, 2, 1, 1, 1] _ (fun v0 v1 v2 v3 v4 q => apS_ok [1, 2, 2] _ (fun st => Ev (d + 2) none mX11_namerOf (0, 0) 21 [.ref v0, .ref v1, .int v2, .int v3, .int v4] st h (QI z)) st (fun s0 s1 s2 q => tX11_namerOf_21 hk6 v0 v1 v2 v3 v4 s0 s1 s2 h q) q) q)
    (fun _ _ _ q => nos q)
    kRI_ok (Or.inr rfl) (by decide +kernel) (by decide +kernel) hf
def wX11_namerOf_6 : List En := [(.iload 4, 0, 0, 0), (.aload_n 0, 0, 0, 0), (.getfield 20, 190, 11, 15), (.iconst 3, 0, 0, 0), (.iaload, 0, 0, 0), (.if_icmp .ge 55, 69, 0, 0)]
def fX11_namerOf_6 (k6 : Nat → Nat → Int32 → Int32 → Int32 → aH → Option (Int32 × aH)) (v0 : Nat) (v1 : Nat) (v2 : Int32) (v3 : Int32) (v4 : Int32) (h : aH) : Option (Int32 × aH) :=
  (gFR h 11 v0 15).bind fun t1 =>
  (aRI (h[t1]?) (kI 3)).bind fun t2 =>
  if v4 < t2 then fX11_namerOf_17 k6 v0 v1 v2 v3 v4 h else fX11_namerOf_69 v3 h
theorem tX11_namerOf_6 {d : Nat} {z : Int32 × aH} {k6 : Nat → Nat → Int32 → Int32 → Int32 → aH → Option (Int32 × aH)} (hk6 : ∀ (v0 : Nat) (v1 : Nat) (v2 : Int32) (v3 : Int32) (v4 : Int32) (h : aH), k6 v0 v1 v2 v3 v4 h = some z → Ev (d + 2) none mX11_namerOf (0, 0) 6 [.ref v0, .ref v1, .int v2, .int v3, .int v4] [] h (QI z)) (v0 : Nat) (v1 : Nat) (v2 : Int32) (v3 : Int32) (v4 : Int32) (h : aH) (hf : fX11_namerOf_6 k6 v0 v1 v2 v3 v4 h = some z) : Ev (d + 2) none mX11_namerOf (0, 0) 6 [.ref v0, .ref v1, .int v2, .int v3, .int v4] [] h (QI z) := 
  go_ok (X := none) (blk := wX11_namerOf_6) (np := 17) (tt := 69) (kN := fun xs h st => app [2, 2, 1, 1, 1] (fun v0 v1 v2 v3 v4 => apS [] (fX11_namerOf_17 k6 v0 v1 v2 v3 v4 h) st) xs) (kT := fun xs h st => app [0, 0, 0, 1, 0] (fun v3 => apS [] (fX11_namerOf_69 v3 h) st) xs) (kR := kRI)
    (fun xs h st q => jm [2, 2, 1, 1, 1] _ (fun v0 v1 v2 v3 v4 q => apS_ok [] _ (fun st => Ev (d + 2) none mX11_namerOf (0, 0) 17 [.ref v0, .ref v1, .int v2, .int v3, .int v4] st h (QI z)) st (fun q => tX11_namerOf_17 hk6 v0 v1 v2 v3 v4 h q) q) q)
    (fun xs h st q => jm [0, 0, 0, 1, 0] _ (fun v3 q => apS_ok [] _ (fun st => Ev (d + 2) none mX11_namerOf (0, 0) 69 [.null, .null, .null, .int v3, .null] st h (QI z)) st (fun q => tX11_namerOf_69 v3 h q) q) q)
    kRI_ok (Or.inr rfl) (by decide +kernel) (by decide +kernel) hf
def lX11_namerOf_6 : Nat → Nat → Nat → Int32 → Int32 → Int32 → aH → Option (Int32 × aH)
  | 0, _, _, _, _, _, _ => none
  | n + 1, v0, v1, v2, v3, v4, h => fX11_namerOf_6 (lX11_namerOf_6 n) v0 v1 v2 v3 v4 h
theorem uX11_namerOf_6 {d : Nat} {z : Int32 × aH} : ∀ (n : Nat) (v0 : Nat) (v1 : Nat) (v2 : Int32) (v3 : Int32) (v4 : Int32) (h : aH), lX11_namerOf_6 n v0 v1 v2 v3 v4 h = some z → Ev (d + 2) none mX11_namerOf (0, 0) 6 [.ref v0, .ref v1, .int v2, .int v3, .int v4] [] h (QI z) := by
  intro n
  induction n with
  | zero => intro _ _ _ _ _ _ q; exact nos (show (none : Option (Int32 × aH)) = some z from q)
  | succ n ih => intro v0 v1 v2 v3 v4 h q; exact tX11_namerOf_6 ih v0 v1 v2 v3 v4 h q
def wX11_namerOf_0 : List En := [(.bipush (-2), 0, 0, 0), (.istore_n 3, 0, 0, 0), (.iconst 0, 0, 0, 0), (.istore 4, 0, 0, 0)]
def fX11_namerOf_0 (v0 : Nat) (v1 : Nat) (v2 : Int32) (h : aH) : Option (Int32 × aH) :=
  lX11_namerOf_6 FU v0 v1 v2 (kB (-2)) (kI 0) h
theorem tX11_namerOf_0 {d : Nat} {z : Int32 × aH} (v0 : Nat) (v1 : Nat) (v2 : Int32) (h : aH) (hf : fX11_namerOf_0 v0 v1 v2 h = some z) : Ev (d + 2) none mX11_namerOf (0, 0) 0 [.ref v0, .ref v1, .int v2, .null, .null] [] h (QI z) := 
  go_ok (X := none) (blk := wX11_namerOf_0) (np := 6) (tt := 0) (kN := fun xs h st => app [2, 2, 1, 1, 1] (fun v0 v1 v2 v3 v4 => apS [] (lX11_namerOf_6 FU v0 v1 v2 v3 v4 h) st) xs) (kT := fun _ _ _ => none) (kR := kRI)
    (fun xs h st q => jm [2, 2, 1, 1, 1] _ (fun v0 v1 v2 v3 v4 q => apS_ok [] _ (fun st => Ev (d + 2) none mX11_namerOf (0, 0) 6 [.ref v0, .ref v1, .int v2, .int v3, .int v4] st h (QI z)) st (fun q => uX11_namerOf_6 FU v0 v1 v2 v3 v4 h q) q) q)
    (fun _ _ _ q => nos q)
    kRI_ok (Or.inr rfl) (by decide +kernel) (by decide +kernel) hf
def gX11_namerOf (v0 : Nat) (v1 : Nat) (v2 : Int32) (h : aH) : Option (Int32 × aH) := fX11_namerOf_0 v0 v1 v2 h
theorem zX11_namerOf {d : Nat} {z : Int32 × aH} {v0 : Nat} {v1 : Nat} {v2 : Int32} {h : aH} (q : gX11_namerOf v0 v1 v2 h = some z) : CT (d + 2) mX11_namerOf (0, 0) [.ref v0, .ref v1, .int v2] h (QI z) :=
  ct_ev (by decide +kernel) (Nat.le_of_ble_eq_true rfl) QI_r (jm [2, 2, 1, 0, 0] (fun v0 v1 v2 => fX11_namerOf_0 v0 v1 v2 h) (fun v0 v1 v2 q => tX11_namerOf_0 v0 v1 v2 h q) q)
def wX11_dayOn_297 : List En := [(.aload_n 1, 0, 0, 0), (.bipush 11, 0, 0, 0), (.iconst 0, 0, 0, 0), (.iastore, 0, 0, 0), (.aload_n 1, 0, 0, 0), (.bipush 13, 0, 0, 0), (.dup2, 0, 0, 0), (.iaload, 0, 0, 0), (.iconst 1, 0, 0, 0), (.iadd, 0, 0, 0), (.iastore, 0, 0, 0), (.return_, 0, 0, 0)]
def fX11_dayOn_297 (v1 : Nat) (h : aH) : Option (aH) :=
  (aWI h v1 (kB 11) (kI 0)).bind fun h1 =>
  (aRI (h1[v1]?) (kB 13)).bind fun t2 =>
  (aWI h1 v1 (kB 13) (t2 + (kI 1))).bind fun h3 =>
  some h3
theorem tX11_dayOn_297 {d : Nat} {z : aH} (v1 : Nat) (h : aH) (hf : fX11_dayOn_297 v1 h = some z) : Ev (d + 3) none mX11_dayOn (0, 0) 297 [.null, .ref v1, .null, .null, .null, .null, .null, .null] [] h (QV z) := 
  go_ok (X := none) (blk := wX11_dayOn_297) (np := 311) (tt := 0) (kN := fun _ _ _ => none) (kT := fun _ _ _ => none) (kR := kRV)
    (fun _ _ _ q => nos q)
    (fun _ _ _ q => nos q)
    kRV_ok (Or.inr rfl) (by decide +kernel) (by decide +kernel) hf
def wX11_dayOn_291 : List En := [(.iinc 7 1, 0, 0, 0), (.goto (-79), 215, 0, 0)]
def fX11_dayOn_291 (k215 : Nat → Nat → Int32 → Int32 → aH → Option (aH)) (v0 : Nat) (v1 : Nat) (v4 : Int32) (v7 : Int32) (h : aH) : Option (aH) :=
  k215 v0 v1 v4 (v7 + kI 1) h
theorem tX11_dayOn_291 {d : Nat} {z : aH} {k215 : Nat → Nat → Int32 → Int32 → aH → Option (aH)} (hk215 : ∀ (v0 : Nat) (v1 : Nat) (v4 : Int32) (v7 : Int32) (h : aH), k215 v0 v1 v4 v7 h = some z → Ev (d + 3) none mX11_dayOn (0, 0) 215 [.ref v0, .ref v1, .null, .null, .int v4, .null, .null, .int v7] [] h (QV z)) (v0 : Nat) (v1 : Nat) (v4 : Int32) (v7 : Int32) (h : aH) (hf : fX11_dayOn_291 k215 v0 v1 v4 v7 h = some z) : Ev (d + 3) none mX11_dayOn (0, 0) 291 [.ref v0, .ref v1, .null, .null, .int v4, .null, .null, .int v7] [] h (QV z) := 
  go_ok (X := none) (blk := wX11_dayOn_291) (np := 297) (tt := 215) (kN := fun _ _ _ => none) (kT := fun xs h st => app [2, 2, 0, 0, 1, 0, 0, 1] (fun v0 v1 v4 v7 => apS [] (k215 v0 v1 v4 v7 h) st) xs) (kR := kRV)
    (fun _ _ _ q => nos q)
    (fun xs h st q => jm [2, 2, 0, 0, 1, 0, 0, 1] _ (fun v0 v1 v4 v7 q => apS_ok [] _ (fun st => Ev (d + 3) none mX11_dayOn (0, 0) 215 [.ref v0, .ref v1, .null, .null, .int v4, .null, .null, .int v7] st h (QV z)) st (fun q => hk215 v0 v1 v4 v7 h q) q) q)
    kRV_ok (Or.inr rfl) (by decide +kernel) (by decide +kernel) hf
def wX11_dayOn_280 : List En := [(.aload_n 1, 0, 0, 0), (.bipush 10, 0, 0, 0), (.dup2, 0, 0, 0), (.iaload, 0, 0, 0), (.iconst 1, 0, 0, 0), (.iload 7, 0, 0, 0), (.ishl, 0, 0, 0), (.ior, 0, 0, 0), (.iastore, 0, 0, 0)]
def fX11_dayOn_280 (k215 : Nat → Nat → Int32 → Int32 → aH → Option (aH)) (v0 : Nat) (v1 : Nat) (v4 : Int32) (v7 : Int32) (h : aH) : Option (aH) :=
  (aRI (h[v1]?) (kB 10)).bind fun t1 =>
  (aWI h v1 (kB 10) (t1 ||| ((kI 1) <<< (v7 &&& 31)))).bind fun h2 =>
  fX11_dayOn_291 k215 v0 v1 v4 v7 h2
theorem tX11_dayOn_280 {d : Nat} {z : aH} {k215 : Nat → Nat → Int32 → Int32 → aH → Option (aH)} (hk215 : ∀ (v0 : Nat) (v1 : Nat) (v4 : Int32) (v7 : Int32) (h : aH), k215 v0 v1 v4 v7 h = some z → Ev (d + 3) none mX11_dayOn (0, 0) 215 [.ref v0, .ref v1, .null, .null, .int v4, .null, .null, .int v7] [] h (QV z)) (v0 : Nat) (v1 : Nat) (v4 : Int32) (v7 : Int32) (h : aH) (hf : fX11_dayOn_280 k215 v0 v1 v4 v7 h = some z) : Ev (d + 3) none mX11_dayOn (0, 0) 280 [.ref v0, .ref v1, .null, .null, .int v4, .null, .null, .int v7] [] h (QV z) := 
  go_ok (X := none) (blk := wX11_dayOn_280) (np := 291) (tt := 0) (kN := fun xs h st => app [2, 2, 0, 0, 1, 0, 0, 1] (fun v0 v1 v4 v7 => apS [] (fX11_dayOn_291 k215 v0 v1 v4 v7 h) st) xs) (kT := fun _ _ _ => none) (kR := kRV)
    (fun xs h st q => jm [2, 2, 0, 0, 1, 0, 0, 1] _ (fun v0 v1 v4 v7 q => apS_ok [] _ (fun st => Ev (d + 3) none mX11_dayOn (0, 0) 291 [.ref v0, .ref v1, .null, .null, .int v4, .null, .null, .int v7] st h (QV z)) st (fun q => tX11_dayOn_291 hk215 v0 v1 v4 v7 h q) q) q)
    (fun _ _ _ q => nos q)
    kRV_ok (Or.inr rfl) (by decide +kernel) (by decide +kernel) hf
def wX11_dayOn_266 : List En := [(.iastore, 0, 0, 0), (.aload_n 1, 0, 0, 0), (.iload 7, 0, 0, 0), (.iaload, 0, 0, 0), (.aload_n 0, 0, 0, 0), (.getfield 20, 190, 11, 15), (.iconst 1, 0, 0, 0), (.iaload, 0, 0, 0), (.if_icmp .le 14, 291, 0, 0)]
def fX11_dayOn_266 (k215 : Nat → Nat → Int32 → Int32 → aH → Option (aH)) (v0 : Nat) (v1 : Nat) (v4 : Int32) (v7 : Int32) (s0 : Int32) (s1 : Int32) (s2 : Nat) (h : aH) : Option (aH) :=
  (aWI h s2 s1 s0).bind fun h1 =>
  (aRI (h1[v1]?) v7).bind fun t2 =>
  (gFR h1 11 v0 15).bind fun t3 =>
  (aRI (h1[t3]?) (kI 1)).bind fun t4 =>
  if t4 < t2 then fX11_dayOn_280 k215 v0 v1 v4 v7 h1 else fX11_dayOn_291 k215 v0 v1 v4 v7 h1
theorem tX11_dayOn_266 {d : Nat} {z : aH} {k215 : Nat → Nat → Int32 → Int32 → aH → Option (aH)} (hk215 : ∀ (v0 : Nat) (v1 : Nat) (v4 : Int32) (v7 : Int32) (h : aH), k215 v0 v1 v4 v7 h = some z → Ev (d + 3) none mX11_dayOn (0, 0) 215 [.ref v0, .ref v1, .null, .null, .int v4, .null, .null, .int v7] [] h (QV z)) (v0 : Nat) (v1 : Nat) (v4 : Int32) (v7 : Int32) (s0 : Int32) (s1 : Int32) (s2 : Nat) (h : aH) (hf : fX11_dayOn_266 k215 v0 v1 v4 v7 s0 s1 s2 h = some z) : Ev (d + 3) none mX11_dayOn (0, 0) 266 [.ref v0, .ref v1, .null, .null, .int v4, .null, .null, .int v7] [.int s0, .int s1, .ref s2] h (QV z) := 
  go_ok (X := none) (blk := wX11_dayOn_266) (np := 280) (tt := 291) (kN := fun xs h st => app [2, 2, 0, 0, 1, 0, 0, 1] (fun v0 v1 v4 v7 => apS [] (fX11_dayOn_280 k215 v0 v1 v4 v7 h) st) xs) (kT := fun xs h st => app [2, 2, 0, 0, 1, 0, 0, 1] (fun v0 v1 v4 v7 => apS [] (fX11_dayOn_291 k215 v0 v1 v4 v7 h) st) xs) (kR := kRV)
    (fun xs h st q => jm [2, 2, 0, 0, 1, 0, 0, 1] _ (fun v0 v1 v4 v7 q => apS_ok [] _ (fun st => Ev (d + 3) none mX11_dayOn (0, 0) 280 [.ref v0, .ref v1, .null, .null, .int v4, .null, .null, .int v7] st h (QV z)) st (fun q => tX11_dayOn_280 hk215 v0 v1 v4 v7 h q) q) q)
    (fun xs h st q => jm [2, 2, 0, 0, 1, 0, 0, 1] _ (fun v0 v1 v4 v7 q => apS_ok [] _ (fun st => Ev (d + 3) none mX11_dayOn (0, 0) 291 [.ref v0, .ref v1, .null, .null, .int v4, .null, .null, .int v7] st h (QV z)) st (fun q => tX11_dayOn_291 hk215 v0 v1 v4 v7 h q) q) q)
    kRV_ok (Or.inr rfl) (by decide +kernel) (by decide +kernel) hf
def wX11_dayOn_265 : List En := [(.iconst 0, 0, 0, 0)]
def fX11_dayOn_265 (k215 : Nat → Nat → Int32 → Int32 → aH → Option (aH)) (v0 : Nat) (v1 : Nat) (v4 : Int32) (v7 : Int32) (s0 : Int32) (s1 : Nat) (h : aH) : Option (aH) :=
  fX11_dayOn_266 k215 v0 v1 v4 v7 (kI 0) s0 s1 h
theorem tX11_dayOn_265 {d : Nat} {z : aH} {k215 : Nat → Nat → Int32 → Int32 → aH → Option (aH)} (hk215 : ∀ (v0 : Nat) (v1 : Nat) (v4 : Int32) (v7 : Int32) (h : aH), k215 v0 v1 v4 v7 h = some z → Ev (d + 3) none mX11_dayOn (0, 0) 215 [.ref v0, .ref v1, .null, .null, .int v4, .null, .null, .int v7] [] h (QV z)) (v0 : Nat) (v1 : Nat) (v4 : Int32) (v7 : Int32) (s0 : Int32) (s1 : Nat) (h : aH) (hf : fX11_dayOn_265 k215 v0 v1 v4 v7 s0 s1 h = some z) : Ev (d + 3) none mX11_dayOn (0, 0) 265 [.ref v0, .ref v1, .null, .null, .int v4, .null, .null, .int v7] [.int s0, .ref s1] h (QV z) := 
  go_ok (X := none) (blk := wX11_dayOn_265) (np := 266) (tt := 0) (kN := fun xs h st => app [2, 2, 0, 0, 1, 0, 0, 1] (fun v0 v1 v4 v7 => apS [1, 1, 2] (fun s0 s1 s2 => fX11_dayOn_266 k215 v0 v1 v4 v7 s0 s1 s2 h) st) xs) (kT := fun _ _ _ => none) (kR := kRV)
    (fun xs h st q => jm [2, 2, 0, 0, 1, 0, 0, 1] _ (fun v0 v1 v4 v7 q => apS_ok [1, 1, 2] _ (fun st => Ev (d + 3) none mX11_dayOn (0, 0) 266 [.ref v0, .ref v1, .null, .null, .int v4, .null, .null, .int v7] st h (QV z)) st (fun s0 s1 s2 q => tX11_dayOn_266 hk215 v0 v1 v4 v7 s0 s1 s2 h q) q) q)
    (fun _ _ _ q => nos q)
    kRV_ok (Or.inr rfl) (by decide +kernel) (by decide +kernel) hf
def wX11_dayOn_254 : List En := [(.aload_n 1, 0, 0, 0), (.iconst 5, 0, 0, 0), (.iload 7, 0, 0, 0), (.iadd, 0, 0, 0), (.iaload, 0, 0, 0), (.iconst 1, 0, 0, 0), (.iadd, 0, 0, 0), (.goto 4, 266, 0, 0)]
def fX11_dayOn_254 (k215 : Nat → Nat → Int32 → Int32 → aH → Option (aH)) (v0 : Nat) (v1 : Nat) (v4 : Int32) (v7 : Int32) (s0 : Int32) (s1 : Nat) (h : aH) : Option (aH) :=
  (aRI (h[v1]?) ((kI 5) + v7)).bind fun t1 =>
  fX11_dayOn_266 k215 v0 v1 v4 v7 (t1 + (kI 1)) s0 s1 h
theorem tX11_dayOn_254 {d : Nat} {z : aH} {k215 : Nat → Nat → Int32 → Int32 → aH → Option (aH)} (hk215 : ∀ (v0 : Nat) (v1 : Nat) (v4 : Int32) (v7 : Int32) (h : aH), k215 v0 v1 v4 v7 h = some z → Ev (d + 3) none mX11_dayOn (0, 0) 215 [.ref v0, .ref v1, .null, .null, .int v4, .null, .null, .int v7] [] h (QV z)) (v0 : Nat) (v1 : Nat) (v4 : Int32) (v7 : Int32) (s0 : Int32) (s1 : Nat) (h : aH) (hf : fX11_dayOn_254 k215 v0 v1 v4 v7 s0 s1 h = some z) : Ev (d + 3) none mX11_dayOn (0, 0) 254 [.ref v0, .ref v1, .null, .null, .int v4, .null, .null, .int v7] [.int s0, .ref s1] h (QV z) := 
  go_ok (X := none) (blk := wX11_dayOn_254) (np := 265) (tt := 266) (kN := fun _ _ _ => none) (kT := fun xs h st => app [2, 2, 0, 0, 1, 0, 0, 1] (fun v0 v1 v4 v7 => apS [1, 1, 2] (fun s0 s1 s2 => fX11_dayOn_266 k215 v0 v1 v4 v7 s0 s1 s2 h) st) xs) (kR := kRV)
    (fun _ _ _ q => nos q)
    (fun xs h st q => jm [2, 2, 0, 0, 1, 0, 0, 1] _ (fun v0 v1 v4 v7 q => apS_ok [1, 1, 2] _ (fun st => Ev (d + 3) none mX11_dayOn (0, 0) 266 [.ref v0, .ref v1, .null, .null, .int v4, .null, .null, .int v7] st h (QV z)) st (fun s0 s1 s2 q => tX11_dayOn_266 hk215 v0 v1 v4 v7 s0 s1 s2 h q) q) q)
    kRV_ok (Or.inr rfl) (by decide +kernel) (by decide +kernel) hf
def wX11_dayOn_251 : List En := [(.ifCond .eq 14, 265, 0, 0)]
def fX11_dayOn_251 (k215 : Nat → Nat → Int32 → Int32 → aH → Option (aH)) (v0 : Nat) (v1 : Nat) (v4 : Int32) (v7 : Int32) (s0 : Int32) (s1 : Int32) (s2 : Nat) (h : aH) : Option (aH) :=
  if s0 = 0 then fX11_dayOn_265 k215 v0 v1 v4 v7 s1 s2 h else fX11_dayOn_254 k215 v0 v1 v4 v7 s1 s2 h
theorem tX11_dayOn_251 {d : Nat} {z : aH} {k215 : Nat → Nat → Int32 → Int32 → aH → Option (aH)} (hk215 : ∀ (v0 : Nat) (v1 : Nat) (v4 : Int32) (v7 : Int32) (h : aH), k215 v0 v1 v4 v7 h = some z → Ev (d + 3) none mX11_dayOn (0, 0) 215 [.ref v0, .ref v1, .null, .null, .int v4, .null, .null, .int v7] [] h (QV z)) (v0 : Nat) (v1 : Nat) (v4 : Int32) (v7 : Int32) (s0 : Int32) (s1 : Int32) (s2 : Nat) (h : aH) (hf : fX11_dayOn_251 k215 v0 v1 v4 v7 s0 s1 s2 h = some z) : Ev (d + 3) none mX11_dayOn (0, 0) 251 [.ref v0, .ref v1, .null, .null, .int v4, .null, .null, .int v7] [.int s0, .int s1, .ref s2] h (QV z) := 
  go_ok (X := none) (blk := wX11_dayOn_251) (np := 254) (tt := 265) (kN := fun xs h st => app [2, 2, 0, 0, 1, 0, 0, 1] (fun v0 v1 v4 v7 => apS [1, 2] (fun s0 s1 => fX11_dayOn_254 k215 v0 v1 v4 v7 s0 s1 h) st) xs) (kT := fun xs h st => app [2, 2, 0, 0, 1, 0, 0, 1] (fun v0 v1 v4 v7 => apS [1, 2] (fun s0 s1 => fX11_dayOn_265 k215 v0 v1 v4 v7 s0 s1 h) st) xs) (kR := kRV)
    (fun xs h st q => jm [2, 2, 0, 0, 1, 0, 0, 1] _ (fun v0 v1 v4 v7 q => apS_ok [1, 2] _ (fun st => Ev (d + 3) none mX11_dayOn (0, 0) 254 [.ref v0, .ref v1, .null, .null, .int v4, .null, .null, .int v7] st h (QV z)) st (fun s0 s1 q => tX11_dayOn_254 hk215 v0 v1 v4 v7 s0 s1 h q) q) q)
    (fun xs h st q => jm [2, 2, 0, 0, 1, 0, 0, 1] _ (fun v0 v1 v4 v7 q => apS_ok [1, 2] _ (fun st => Ev (d + 3) none mX11_dayOn (0, 0) 265 [.ref v0, .ref v1, .null, .null, .int v4, .null, .null, .int v7] st h (QV z)) st (fun s0 s1 q => tX11_dayOn_265 hk215 v0 v1 v4 v7 s0 s1 h q) q) q)
    kRV_ok (Or.inr rfl) (by decide +kernel) (by decide +kernel) hf
theorem kqX11_dayOn_248 : okC mX11_dayOn 248 (.invokestatic 245) 222 239 1 2 = true := by decide +kernel
def fX11_dayOn_248 (k215 : Nat → Nat → Int32 → Int32 → aH → Option (aH)) (v0 : Nat) (v1 : Nat) (v4 : Int32) (v7 : Int32) (s0 : Int32) (s1 : Int32) (s2 : Int32) (s3 : Nat) (h : aH) : Option (aH) :=
  (gX11_hasBit s1 s0 h).bind fun r =>
  fX11_dayOn_251 k215 v0 v1 v4 v7 r.1 s2 s3 r.2
theorem tX11_dayOn_248 {d : Nat} {z : aH} {k215 : Nat → Nat → Int32 → Int32 → aH → Option (aH)} (hk215 : ∀ (v0 : Nat) (v1 : Nat) (v4 : Int32) (v7 : Int32) (h : aH), k215 v0 v1 v4 v7 h = some z → Ev (d + 3) none mX11_dayOn (0, 0) 215 [.ref v0, .ref v1, .null, .null, .int v4, .null, .null, .int v7] [] h (QV z)) (v0 : Nat) (v1 : Nat) (v4 : Int32) (v7 : Int32) (s0 : Int32) (s1 : Int32) (s2 : Int32) (s3 : Nat) (h : aH) (hf : fX11_dayOn_248 k215 v0 v1 v4 v7 s0 s1 s2 s3 h = some z) : Ev (d + 3) none mX11_dayOn (0, 0) 248 [.ref v0, .ref v1, .null, .null, .int v4, .null, .null, .int v7] [.int s0, .int s1, .int s2, .ref s3] h (QV z) := by
  obtain ⟨r, h2, hf⟩ := bnd hf
  refine ev_S kqX11_dayOn_248 jX11_hasBit (zX11_hasBit (d := d + 2) h2) rfl (Nat.le_of_ble_eq_true rfl) rfl (as := [.int s1, .int s0]) (rest := [.int s2, .ref s3]) rfl (Nat.le_of_ble_eq_true rfl) (fun _ _ hq => ?_)
  obtain ⟨-, rfl, rfl⟩ := hq
  exact jm [2, 2, 0, 0, 1, 0, 0, 1] (fun v0 v1 v4 v7 => fX11_dayOn_251 k215 v0 v1 v4 v7 r.1 s2 s3 r.2) (fun v0 v1 v4 v7 q => tX11_dayOn_251 hk215 v0 v1 v4 v7 r.1 s2 s3 r.2 q) hf
def wX11_dayOn_239 : List En := [(.aload_n 1, 0, 0, 0), (.iconst 5, 0, 0, 0), (.iload 7, 0, 0, 0), (.iadd, 0, 0, 0), (.iload 4, 0, 0, 0), (.iload 7, 0, 0, 0)]
def fX11_dayOn_239 (k215 : Nat → Nat → Int32 → Int32 → aH → Option (aH)) (v0 : Nat) (v1 : Nat) (v4 : Int32) (v7 : Int32) (h : aH) : Option (aH) :=
  fX11_dayOn_248 k215 v0 v1 v4 v7 v7 v4 ((kI 5) + v7) v1 h
theorem tX11_dayOn_239 {d : Nat} {z : aH} {k215 : Nat → Nat → Int32 → Int32 → aH → Option (aH)} (hk215 : ∀ (v0 : Nat) (v1 : Nat) (v4 : Int32) (v7 : Int32) (h : aH), k215 v0 v1 v4 v7 h = some z → Ev (d + 3) none mX11_dayOn (0, 0) 215 [.ref v0, .ref v1, .null, .null, .int v4, .null, .null, .int v7] [] h (QV z)) (v0 : Nat) (v1 : Nat) (v4 : Int32) (v7 : Int32) (h : aH) (hf : fX11_dayOn_239 k215 v0 v1 v4 v7 h = some z) : Ev (d + 3) none mX11_dayOn (0, 0) 239 [.ref v0, .ref v1, .null, .null, .int v4, .null, .null, .int v7] [] h (QV z) := 
  go_ok (X := none) (blk := wX11_dayOn_239) (np := 248) (tt := 0) (kN := fun xs h st => app [2, 2, 0, 0, 1, 0, 0, 1] (fun v0 v1 v4 v7 => apS [1, 1, 1, 2] (fun s0 s1 s2 s3 => fX11_dayOn_248 k215 v0 v1 v4 v7 s0 s1 s2 s3 h) st) xs) (kT := fun _ _ _ => none) (kR := kRV)
    (fun xs h st q => jm [2, 2, 0, 0, 1, 0, 0, 1] _ (fun v0 v1 v4 v7 q => apS_ok [1, 1, 1, 2] _ (fun st => Ev (d + 3) none mX11_dayOn (0, 0) 248 [.ref v0, .ref v1, .null, .null, .int v4, .null, .null, .int v7] st h (QV z)) st (fun s0 s1 s2 s3 q => tX11_dayOn_248 hk215 v0 v1 v4 v7 s0 s1 s2 s3 h q) q) q)
    (fun _ _ _ q => nos q)
    kRV_ok (Or.inr rfl) (by decide +kernel) (by decide +kernel) hf
def wX11_dayOn_236 : List En := [(.goto 55, 291, 0, 0)]
def fX11_dayOn_236 (k215 : Nat → Nat → Int32 → Int32 → aH → Option (aH)) (v0 : Nat) (v1 : Nat) (v4 : Int32) (v7 : Int32) (h : aH) : Option (aH) :=
  fX11_dayOn_291 k215 v0 v1 v4 v7 h
theorem tX11_dayOn_236 {d : Nat} {z : aH} {k215 : Nat → Nat → Int32 → Int32 → aH → Option (aH)} (hk215 : ∀ (v0 : Nat) (v1 : Nat) (v4 : Int32) (v7 : Int32) (h : aH), k215 v0 v1 v4 v7 h = some z → Ev (d + 3) none mX11_dayOn (0, 0) 215 [.ref v0, .ref v1, .null, .null, .int v4, .null, .null, .int v7] [] h (QV z)) (v0 : Nat) (v1 : Nat) (v4 : Int32) (v7 : Int32) (h : aH) (hf : fX11_dayOn_236 k215 v0 v1 v4 v7 h = some z) : Ev (d + 3) none mX11_dayOn (0, 0) 236 [.ref v0, .ref v1, .null, .null, .int v4, .null, .null, .int v7] [] h (QV z) := 
  go_ok (X := none) (blk := wX11_dayOn_236) (np := 239) (tt := 291) (kN := fun _ _ _ => none) (kT := fun xs h st => app [2, 2, 0, 0, 1, 0, 0, 1] (fun v0 v1 v4 v7 => apS [] (fX11_dayOn_291 k215 v0 v1 v4 v7 h) st) xs) (kR := kRV)
    (fun _ _ _ q => nos q)
    (fun xs h st q => jm [2, 2, 0, 0, 1, 0, 0, 1] _ (fun v0 v1 v4 v7 q => apS_ok [] _ (fun st => Ev (d + 3) none mX11_dayOn (0, 0) 291 [.ref v0, .ref v1, .null, .null, .int v4, .null, .null, .int v7] st h (QV z)) st (fun q => tX11_dayOn_291 hk215 v0 v1 v4 v7 h q) q) q)
    kRV_ok (Or.inr rfl) (by decide +kernel) (by decide +kernel) hf
def wX11_dayOn_233 : List En := [(.ifCond .ne 6, 239, 0, 0)]
def fX11_dayOn_233 (k215 : Nat → Nat → Int32 → Int32 → aH → Option (aH)) (v0 : Nat) (v1 : Nat) (v4 : Int32) (v7 : Int32) (s0 : Int32) (h : aH) : Option (aH) :=
  if s0 = 0 then fX11_dayOn_236 k215 v0 v1 v4 v7 h else fX11_dayOn_239 k215 v0 v1 v4 v7 h
theorem tX11_dayOn_233 {d : Nat} {z : aH} {k215 : Nat → Nat → Int32 → Int32 → aH → Option (aH)} (hk215 : ∀ (v0 : Nat) (v1 : Nat) (v4 : Int32) (v7 : Int32) (h : aH), k215 v0 v1 v4 v7 h = some z → Ev (d + 3) none mX11_dayOn (0, 0) 215 [.ref v0, .ref v1, .null, .null, .int v4, .null, .null, .int v7] [] h (QV z)) (v0 : Nat) (v1 : Nat) (v4 : Int32) (v7 : Int32) (s0 : Int32) (h : aH) (hf : fX11_dayOn_233 k215 v0 v1 v4 v7 s0 h = some z) : Ev (d + 3) none mX11_dayOn (0, 0) 233 [.ref v0, .ref v1, .null, .null, .int v4, .null, .null, .int v7] [.int s0] h (QV z) := 
  go_ok (X := none) (blk := wX11_dayOn_233) (np := 236) (tt := 239) (kN := fun xs h st => app [2, 2, 0, 0, 1, 0, 0, 1] (fun v0 v1 v4 v7 => apS [] (fX11_dayOn_236 k215 v0 v1 v4 v7 h) st) xs) (kT := fun xs h st => app [2, 2, 0, 0, 1, 0, 0, 1] (fun v0 v1 v4 v7 => apS [] (fX11_dayOn_239 k215 v0 v1 v4 v7 h) st) xs) (kR := kRV)
    (fun xs h st q => jm [2, 2, 0, 0, 1, 0, 0, 1] _ (fun v0 v1 v4 v7 q => apS_ok [] _ (fun st => Ev (d + 3) none mX11_dayOn (0, 0) 236 [.ref v0, .ref v1, .null, .null, .int v4, .null, .null, .int v7] st h (QV z)) st (fun q => tX11_dayOn_236 hk215 v0 v1 v4 v7 h q) q) q)
    (fun xs h st q => jm [2, 2, 0, 0, 1, 0, 0, 1] _ (fun v0 v1 v4 v7 q => apS_ok [] _ (fun st => Ev (d + 3) none mX11_dayOn (0, 0) 239 [.ref v0, .ref v1, .null, .null, .int v4, .null, .null, .int v7] st h (QV z)) st (fun q => tX11_dayOn_239 hk215 v0 v1 v4 v7 h q) q) q)
    kRV_ok (Or.inr rfl) (by decide +kernel) (by decide +kernel) hf
theorem kqX11_dayOn_230 : okC mX11_dayOn 230 (.invokevirtual 249) 221 238 0 2 = true := by decide +kernel
def fX11_dayOn_230 (k215 : Nat → Nat → Int32 → Int32 → aH → Option (aH)) (v0 : Nat) (v1 : Nat) (v4 : Int32) (v7 : Int32) (s0 : Int32) (s1 : Nat) (s2 : Nat) (h : aH) : Option (aH) :=
  (isO h 11 s2).bind fun _ =>
  (gX11_lives s2 s1 s0 h).bind fun r =>
  fX11_dayOn_233 k215 v0 v1 v4 v7 r.1 r.2
theorem tX11_dayOn_230 {d : Nat} {z : aH} {k215 : Nat → Nat → Int32 → Int32 → aH → Option (aH)} (hk215 : ∀ (v0 : Nat) (v1 : Nat) (v4 : Int32) (v7 : Int32) (h : aH), k215 v0 v1 v4 v7 h = some z → Ev (d + 3) none mX11_dayOn (0, 0) 215 [.ref v0, .ref v1, .null, .null, .int v4, .null, .null, .int v7] [] h (QV z)) (v0 : Nat) (v1 : Nat) (v4 : Int32) (v7 : Int32) (s0 : Int32) (s1 : Nat) (s2 : Nat) (h : aH) (hf : fX11_dayOn_230 k215 v0 v1 v4 v7 s0 s1 s2 h = some z) : Ev (d + 3) none mX11_dayOn (0, 0) 230 [.ref v0, .ref v1, .null, .null, .int v4, .null, .null, .int v7] [.int s0, .ref s1, .ref s2] h (QV z) := by
  obtain ⟨_, h1, hf⟩ := bnd hf
  obtain ⟨fs, ho⟩ := isO_ok h1
  obtain ⟨r, h2, hf⟩ := bnd hf
  refine ev_V kqX11_dayOn_230 jX11_lives (zX11_lives (d := d + 1) h2) ho rfl rfl (Nat.le_of_ble_eq_true rfl) rfl (as := [.ref s1, .int s0]) (rest := []) rfl (Nat.le_of_ble_eq_true rfl) (fun _ _ hq => ?_)
  obtain ⟨-, rfl, rfl⟩ := hq
  exact jm [2, 2, 0, 0, 1, 0, 0, 1] (fun v0 v1 v4 v7 => fX11_dayOn_233 k215 v0 v1 v4 v7 r.1 r.2) (fun v0 v1 v4 v7 q => tX11_dayOn_233 hk215 v0 v1 v4 v7 r.1 r.2 q) hf
def wX11_dayOn_226 : List En := [(.aload_n 0, 0, 0, 0), (.aload_n 1, 0, 0, 0), (.iload 7, 0, 0, 0)]
def fX11_dayOn_226 (k215 : Nat → Nat → Int32 → Int32 → aH → Option (aH)) (v0 : Nat) (v1 : Nat) (v4 : Int32) (v7 : Int32) (h : aH) : Option (aH) :=
  fX11_dayOn_230 k215 v0 v1 v4 v7 v7 v1 v0 h
theorem tX11_dayOn_226 {d : Nat} {z : aH} {k215 : Nat → Nat → Int32 → Int32 → aH → Option (aH)} (hk215 : ∀ (v0 : Nat) (v1 : Nat) (v4 : Int32) (v7 : Int32) (h : aH), k215 v0 v1 v4 v7 h = some z → Ev (d + 3) none mX11_dayOn (0, 0) 215 [.ref v0, .ref v1, .null, .null, .int v4, .null, .null, .int v7] [] h (QV z)) (v0 : Nat) (v1 : Nat) (v4 : Int32) (v7 : Int32) (h : aH) (hf : fX11_dayOn_226 k215 v0 v1 v4 v7 h = some z) : Ev (d + 3) none mX11_dayOn (0, 0) 226 [.ref v0, .ref v1, .null, .null, .int v4, .null, .null, .int v7] [] h (QV z) := 
  go_ok (X := none) (blk := wX11_dayOn_226) (np := 230) (tt := 0) (kN := fun xs h st => app [2, 2, 0, 0, 1, 0, 0, 1] (fun v0 v1 v4 v7 => apS [1, 2, 2] (fun s0 s1 s2 => fX11_dayOn_230 k215 v0 v1 v4 v7 s0 s1 s2 h) st) xs) (kT := fun _ _ _ => none) (kR := kRV)
    (fun xs h st q => jm [2, 2, 0, 0, 1, 0, 0, 1] _ (fun v0 v1 v4 v7 q => apS_ok [1, 2, 2] _ (fun st => Ev (d + 3) none mX11_dayOn (0, 0) 230 [.ref v0, .ref v1, .null, .null, .int v4, .null, .null, .int v7] st h (QV z)) st (fun s0 s1 s2 q => tX11_dayOn_230 hk215 v0 v1 v4 v7 s0 s1 s2 h q) q) q)
    (fun _ _ _ q => nos q)
    kRV_ok (Or.inr rfl) (by decide +kernel) (by decide +kernel) hf
def wX11_dayOn_215 : List En := [(.iload 7, 0, 0, 0), (.aload_n 0, 0, 0, 0), (.getfield 20, 190, 11, 15), (.iconst 3, 0, 0, 0), (.iaload, 0, 0, 0), (.if_icmp .ge 74, 297, 0, 0)]
def fX11_dayOn_215 (k215 : Nat → Nat → Int32 → Int32 → aH → Option (aH)) (v0 : Nat) (v1 : Nat) (v4 : Int32) (v7 : Int32) (h : aH) : Option (aH) :=
  (gFR h 11 v0 15).bind fun t1 =>
  (aRI (h[t1]?) (kI 3)).bind fun t2 =>
  if v7 < t2 then fX11_dayOn_226 k215 v0 v1 v4 v7 h else fX11_dayOn_297 v1 h
theorem tX11_dayOn_215 {d : Nat} {z : aH} {k215 : Nat → Nat → Int32 → Int32 → aH → Option (aH)} (hk215 : ∀ (v0 : Nat) (v1 : Nat) (v4 : Int32) (v7 : Int32) (h : aH), k215 v0 v1 v4 v7 h = some z → Ev (d + 3) none mX11_dayOn (0, 0) 215 [.ref v0, .ref v1, .null, .null, .int v4, .null, .null, .int v7] [] h (QV z)) (v0 : Nat) (v1 : Nat) (v4 : Int32) (v7 : Int32) (h : aH) (hf : fX11_dayOn_215 k215 v0 v1 v4 v7 h = some z) : Ev (d + 3) none mX11_dayOn (0, 0) 215 [.ref v0, .ref v1, .null, .null, .int v4, .null, .null, .int v7] [] h (QV z) := 
  go_ok (X := none) (blk := wX11_dayOn_215) (np := 226) (tt := 297) (kN := fun xs h st => app [2, 2, 0, 0, 1, 0, 0, 1] (fun v0 v1 v4 v7 => apS [] (fX11_dayOn_226 k215 v0 v1 v4 v7 h) st) xs) (kT := fun xs h st => app [0, 2, 0, 0, 0, 0, 0, 0] (fun v1 => apS [] (fX11_dayOn_297 v1 h) st) xs) (kR := kRV)
    (fun xs h st q => jm [2, 2, 0, 0, 1, 0, 0, 1] _ (fun v0 v1 v4 v7 q => apS_ok [] _ (fun st => Ev (d + 3) none mX11_dayOn (0, 0) 226 [.ref v0, .ref v1, .null, .null, .int v4, .null, .null, .int v7] st h (QV z)) st (fun q => tX11_dayOn_226 hk215 v0 v1 v4 v7 h q) q) q)
    (fun xs h st q => jm [0, 2, 0, 0, 0, 0, 0, 0] _ (fun v1 q => apS_ok [] _ (fun st => Ev (d + 3) none mX11_dayOn (0, 0) 297 [.null, .ref v1, .null, .null, .null, .null, .null, .null] st h (QV z)) st (fun q => tX11_dayOn_297 v1 h q) q) q)
    kRV_ok (Or.inr rfl) (by decide +kernel) (by decide +kernel) hf
def lX11_dayOn_215 : Nat → Nat → Nat → Int32 → Int32 → aH → Option (aH)
  | 0, _, _, _, _, _ => none
  | n + 1, v0, v1, v4, v7, h => fX11_dayOn_215 (lX11_dayOn_215 n) v0 v1 v4 v7 h
theorem uX11_dayOn_215 {d : Nat} {z : aH} : ∀ (n : Nat) (v0 : Nat) (v1 : Nat) (v4 : Int32) (v7 : Int32) (h : aH), lX11_dayOn_215 n v0 v1 v4 v7 h = some z → Ev (d + 3) none mX11_dayOn (0, 0) 215 [.ref v0, .ref v1, .null, .null, .int v4, .null, .null, .int v7] [] h (QV z) := by
  intro n
  induction n with
  | zero => intro _ _ _ _ _ q; exact nos (show (none : Option (aH)) = some z from q)
  | succ n ih => intro v0 v1 v4 v7 h q; exact tX11_dayOn_215 ih v0 v1 v4 v7 h q
def wX11_dayOn_212 : List En := [(.iconst 0, 0, 0, 0), (.istore 7, 0, 0, 0)]
def fX11_dayOn_212 (v0 : Nat) (v1 : Nat) (v4 : Int32) (h : aH) : Option (aH) :=
  lX11_dayOn_215 FU v0 v1 v4 (kI 0) h
theorem tX11_dayOn_212 {d : Nat} {z : aH} (v0 : Nat) (v1 : Nat) (v4 : Int32) (h : aH) (hf : fX11_dayOn_212 v0 v1 v4 h = some z) : Ev (d + 3) none mX11_dayOn (0, 0) 212 [.ref v0, .ref v1, .null, .null, .int v4, .null, .null, .null] [] h (QV z) := 
  go_ok (X := none) (blk := wX11_dayOn_212) (np := 215) (tt := 0) (kN := fun xs h st => app [2, 2, 0, 0, 1, 0, 0, 1] (fun v0 v1 v4 v7 => apS [] (lX11_dayOn_215 FU v0 v1 v4 v7 h) st) xs) (kT := fun _ _ _ => none) (kR := kRV)
    (fun xs h st q => jm [2, 2, 0, 0, 1, 0, 0, 1] _ (fun v0 v1 v4 v7 q => apS_ok [] _ (fun st => Ev (d + 3) none mX11_dayOn (0, 0) 215 [.ref v0, .ref v1, .null, .null, .int v4, .null, .null, .int v7] st h (QV z)) st (fun q => uX11_dayOn_215 FU v0 v1 v4 v7 h q) q) q)
    (fun _ _ _ q => nos q)
    kRV_ok (Or.inr rfl) (by decide +kernel) (by decide +kernel) hf
theorem kqX11_dayOn_209 : okC mX11_dayOn 209 (.invokevirtual 274) 231 248 0 3 = true := by decide +kernel
def fX11_dayOn_209 (v0 : Nat) (v1 : Nat) (v4 : Int32) (s0 : Int32) (s1 : Int32) (s2 : Nat) (s3 : Nat) (h : aH) : Option (aH) :=
  (isO h 11 s3).bind fun _ =>
  (gX11_eatOn s3 s2 s1 s0 h).bind fun r =>
  fX11_dayOn_212 v0 v1 v4 r
theorem tX11_dayOn_209 {d : Nat} {z : aH} (v0 : Nat) (v1 : Nat) (v4 : Int32) (s0 : Int32) (s1 : Int32) (s2 : Nat) (s3 : Nat) (h : aH) (hf : fX11_dayOn_209 v0 v1 v4 s0 s1 s2 s3 h = some z) : Ev (d + 3) none mX11_dayOn (0, 0) 209 [.ref v0, .ref v1, .null, .null, .int v4, .null, .null, .null] [.int s0, .int s1, .ref s2, .ref s3] h (QV z) := by
  obtain ⟨_, h1, hf⟩ := bnd hf
  obtain ⟨fs, ho⟩ := isO_ok h1
  obtain ⟨r, h2, hf⟩ := bnd hf
  refine ev_V kqX11_dayOn_209 jX11_eatOn (zX11_eatOn (d := d + 0) h2) ho rfl rfl (Nat.le_of_ble_eq_true rfl) rfl (as := [.ref s2, .int s1, .int s0]) (rest := []) rfl (Nat.le_of_ble_eq_true rfl) (fun _ _ hq => ?_)
  obtain ⟨rfl, hh⟩ := hq
  rw [hh]
  exact jm [2, 2, 0, 0, 1, 0, 0, 0] (fun v0 v1 v4 => fX11_dayOn_212 v0 v1 v4 r) (fun v0 v1 v4 q => tX11_dayOn_212 v0 v1 v4 r q) hf
def wX11_dayOn_203 : List En := [(.aload_n 0, 0, 0, 0), (.aload_n 1, 0, 0, 0), (.iload 4, 0, 0, 0), (.iload 6, 0, 0, 0)]
def fX11_dayOn_203 (v0 : Nat) (v1 : Nat) (v4 : Int32) (v6 : Int32) (h : aH) : Option (aH) :=
  fX11_dayOn_209 v0 v1 v4 v6 v4 v1 v0 h
theorem tX11_dayOn_203 {d : Nat} {z : aH} (v0 : Nat) (v1 : Nat) (v4 : Int32) (v6 : Int32) (h : aH) (hf : fX11_dayOn_203 v0 v1 v4 v6 h = some z) : Ev (d + 3) none mX11_dayOn (0, 0) 203 [.ref v0, .ref v1, .null, .null, .int v4, .null, .int v6, .null] [] h (QV z) := 
  go_ok (X := none) (blk := wX11_dayOn_203) (np := 209) (tt := 0) (kN := fun xs h st => app [2, 2, 0, 0, 1, 0, 0, 0] (fun v0 v1 v4 => apS [1, 1, 2, 2] (fun s0 s1 s2 s3 => fX11_dayOn_209 v0 v1 v4 s0 s1 s2 s3 h) st) xs) (kT := fun _ _ _ => none) (kR := kRV)
    (fun xs h st q => jm [2, 2, 0, 0, 1, 0, 0, 0] _ (fun v0 v1 v4 q => apS_ok [1, 1, 2, 2] _ (fun st => Ev (d + 3) none mX11_dayOn (0, 0) 209 [.ref v0, .ref v1, .null, .null, .int v4, .null, .null, .null] st h (QV z)) st (fun s0 s1 s2 s3 q => tX11_dayOn_209 v0 v1 v4 s0 s1 s2 s3 h q) q) q)
    (fun _ _ _ q => nos q)
    kRV_ok (Or.inr rfl) (by decide +kernel) (by decide +kernel) hf
def wX11_dayOn_194 : List En := [(.aload_n 1, 0, 0, 0), (.bipush 12, 0, 0, 0), (.iload 6, 0, 0, 0), (.iastore, 0, 0, 0), (.goto 12, 212, 0, 0)]
def fX11_dayOn_194 (v0 : Nat) (v1 : Nat) (v4 : Int32) (v6 : Int32) (h : aH) : Option (aH) :=
  (aWI h v1 (kB 12) v6).bind fun h1 =>
  fX11_dayOn_212 v0 v1 v4 h1
theorem tX11_dayOn_194 {d : Nat} {z : aH} (v0 : Nat) (v1 : Nat) (v4 : Int32) (v6 : Int32) (h : aH) (hf : fX11_dayOn_194 v0 v1 v4 v6 h = some z) : Ev (d + 3) none mX11_dayOn (0, 0) 194 [.ref v0, .ref v1, .null, .null, .int v4, .null, .int v6, .null] [] h (QV z) := 
  go_ok (X := none) (blk := wX11_dayOn_194) (np := 203) (tt := 212) (kN := fun _ _ _ => none) (kT := fun xs h st => app [2, 2, 0, 0, 1, 0, 0, 0] (fun v0 v1 v4 => apS [] (fX11_dayOn_212 v0 v1 v4 h) st) xs) (kR := kRV)
    (fun _ _ _ q => nos q)
    (fun xs h st q => jm [2, 2, 0, 0, 1, 0, 0, 0] _ (fun v0 v1 v4 q => apS_ok [] _ (fun st => Ev (d + 3) none mX11_dayOn (0, 0) 212 [.ref v0, .ref v1, .null, .null, .int v4, .null, .null, .null] st h (QV z)) st (fun q => tX11_dayOn_212 v0 v1 v4 h q) q) q)
    kRV_ok (Or.inr rfl) (by decide +kernel) (by decide +kernel) hf
def wX11_dayOn_187 : List En := [(.aload_n 0, 0, 0, 0), (.getfield 257, 201, 11, 26), (.ifCond .ge 12, 203, 0, 0)]
def fX11_dayOn_187 (v0 : Nat) (v1 : Nat) (v4 : Int32) (v6 : Int32) (h : aH) : Option (aH) :=
  (gFI h 11 v0 26).bind fun t1 =>
  if t1 < 0 then fX11_dayOn_194 v0 v1 v4 v6 h else fX11_dayOn_203 v0 v1 v4 v6 h
theorem tX11_dayOn_187 {d : Nat} {z : aH} (v0 : Nat) (v1 : Nat) (v4 : Int32) (v6 : Int32) (h : aH) (hf : fX11_dayOn_187 v0 v1 v4 v6 h = some z) : Ev (d + 3) none mX11_dayOn (0, 0) 187 [.ref v0, .ref v1, .null, .null, .int v4, .null, .int v6, .null] [] h (QV z) := 
  go_ok (X := none) (blk := wX11_dayOn_187) (np := 194) (tt := 203) (kN := fun xs h st => app [2, 2, 0, 0, 1, 0, 1, 0] (fun v0 v1 v4 v6 => apS [] (fX11_dayOn_194 v0 v1 v4 v6 h) st) xs) (kT := fun xs h st => app [2, 2, 0, 0, 1, 0, 1, 0] (fun v0 v1 v4 v6 => apS [] (fX11_dayOn_203 v0 v1 v4 v6 h) st) xs) (kR := kRV)
    (fun xs h st q => jm [2, 2, 0, 0, 1, 0, 1, 0] _ (fun v0 v1 v4 v6 q => apS_ok [] _ (fun st => Ev (d + 3) none mX11_dayOn (0, 0) 194 [.ref v0, .ref v1, .null, .null, .int v4, .null, .int v6, .null] st h (QV z)) st (fun q => tX11_dayOn_194 v0 v1 v4 v6 h q) q) q)
    (fun xs h st q => jm [2, 2, 0, 0, 1, 0, 1, 0] _ (fun v0 v1 v4 v6 q => apS_ok [] _ (fun st => Ev (d + 3) none mX11_dayOn (0, 0) 203 [.ref v0, .ref v1, .null, .null, .int v4, .null, .int v6, .null] st h (QV z)) st (fun q => tX11_dayOn_203 v0 v1 v4 v6 h q) q) q)
    kRV_ok (Or.inr rfl) (by decide +kernel) (by decide +kernel) hf
def wX11_dayOn_183 : List En := [(.bipush 99, 0, 0, 0), (.istore 6, 0, 0, 0)]
def fX11_dayOn_183 (v0 : Nat) (v1 : Nat) (v4 : Int32) (h : aH) : Option (aH) :=
  fX11_dayOn_187 v0 v1 v4 (kB 99) h
theorem tX11_dayOn_183 {d : Nat} {z : aH} (v0 : Nat) (v1 : Nat) (v4 : Int32) (h : aH) (hf : fX11_dayOn_183 v0 v1 v4 h = some z) : Ev (d + 3) none mX11_dayOn (0, 0) 183 [.ref v0, .ref v1, .null, .null, .int v4, .null, .null, .null] [] h (QV z) := 
  go_ok (X := none) (blk := wX11_dayOn_183) (np := 187) (tt := 0) (kN := fun xs h st => app [2, 2, 0, 0, 1, 0, 1, 0] (fun v0 v1 v4 v6 => apS [] (fX11_dayOn_187 v0 v1 v4 v6 h) st) xs) (kT := fun _ _ _ => none) (kR := kRV)
    (fun xs h st q => jm [2, 2, 0, 0, 1, 0, 1, 0] _ (fun v0 v1 v4 v6 q => apS_ok [] _ (fun st => Ev (d + 3) none mX11_dayOn (0, 0) 187 [.ref v0, .ref v1, .null, .null, .int v4, .null, .int v6, .null] st h (QV z)) st (fun q => tX11_dayOn_187 v0 v1 v4 v6 h q) q) q)
    (fun _ _ _ q => nos q)
    kRV_ok (Or.inr rfl) (by decide +kernel) (by decide +kernel) hf
def wX11_dayOn_160 : List En := [(.putfield 257, 201, 11, 26), (.aload_n 0, 0, 0, 0), (.getfield 20, 190, 11, 15), (.iconst 0, 0, 0, 0), (.iaload, 0, 0, 0), (.aload_n 1, 0, 0, 0), (.bipush 12, 0, 0, 0), (.iaload, 0, 0, 0), (.iadd, 0, 0, 0), (.istore 6, 0, 0, 0), (.iload 6, 0, 0, 0), (.bipush 99, 0, 0, 0), (.if_icmp .le 7, 187, 0, 0)]
def fX11_dayOn_160 (v0 : Nat) (v1 : Nat) (v4 : Int32) (s0 : Int32) (s1 : Nat) (h : aH) : Option (aH) :=
  (pWV h 11 s1 26 (.int s0)).bind fun h1 =>
  (gFR h1 11 v0 15).bind fun t2 =>
  (aRI (h1[t2]?) (kI 0)).bind fun t3 =>
  (aRI (h1[v1]?) (kB 12)).bind fun t4 =>
  if (kB 99) < (t3 + t4) then fX11_dayOn_183 v0 v1 v4 h1 else fX11_dayOn_187 v0 v1 v4 (t3 + t4) h1
theorem tX11_dayOn_160 {d : Nat} {z : aH} (v0 : Nat) (v1 : Nat) (v4 : Int32) (s0 : Int32) (s1 : Nat) (h : aH) (hf : fX11_dayOn_160 v0 v1 v4 s0 s1 h = some z) : Ev (d + 3) none mX11_dayOn (0, 0) 160 [.ref v0, .ref v1, .null, .null, .int v4, .null, .null, .null] [.int s0, .ref s1] h (QV z) := 
  go_ok (X := none) (blk := wX11_dayOn_160) (np := 183) (tt := 187) (kN := fun xs h st => app [2, 2, 0, 0, 1, 0, 0, 0] (fun v0 v1 v4 => apS [] (fX11_dayOn_183 v0 v1 v4 h) st) xs) (kT := fun xs h st => app [2, 2, 0, 0, 1, 0, 1, 0] (fun v0 v1 v4 v6 => apS [] (fX11_dayOn_187 v0 v1 v4 v6 h) st) xs) (kR := kRV)
    (fun xs h st q => jm [2, 2, 0, 0, 1, 0, 0, 0] _ (fun v0 v1 v4 q => apS_ok [] _ (fun st => Ev (d + 3) none mX11_dayOn (0, 0) 183 [.ref v0, .ref v1, .null, .null, .int v4, .null, .null, .null] st h (QV z)) st (fun q => tX11_dayOn_183 v0 v1 v4 h q) q) q)
    (fun xs h st q => jm [2, 2, 0, 0, 1, 0, 1, 0] _ (fun v0 v1 v4 v6 q => apS_ok [] _ (fun st => Ev (d + 3) none mX11_dayOn (0, 0) 187 [.ref v0, .ref v1, .null, .null, .int v4, .null, .int v6, .null] st h (QV z)) st (fun q => tX11_dayOn_187 v0 v1 v4 v6 h q) q) q)
    kRV_ok (Or.inr rfl) (by decide +kernel) (by decide +kernel) hf
theorem kqX11_dayOn_157 : okC mX11_dayOn 157 (.invokevirtual 271) 225 242 0 1 = true := by decide +kernel
def fX11_dayOn_157 (v0 : Nat) (v1 : Nat) (v4 : Int32) (s0 : Int32) (s1 : Nat) (s2 : Nat) (h : aH) : Option (aH) :=
  (isO h 11 s1).bind fun _ =>
  (gX11_nameAt s1 s0 h).bind fun r =>
  fX11_dayOn_160 v0 v1 v4 r.1 s2 r.2
theorem tX11_dayOn_157 {d : Nat} {z : aH} (v0 : Nat) (v1 : Nat) (v4 : Int32) (s0 : Int32) (s1 : Nat) (s2 : Nat) (h : aH) (hf : fX11_dayOn_157 v0 v1 v4 s0 s1 s2 h = some z) : Ev (d + 3) none mX11_dayOn (0, 0) 157 [.ref v0, .ref v1, .null, .null, .int v4, .null, .null, .null] [.int s0, .ref s1, .ref s2] h (QV z) := by
  obtain ⟨_, h1, hf⟩ := bnd hf
  obtain ⟨fs, ho⟩ := isO_ok h1
  obtain ⟨r, h2, hf⟩ := bnd hf
  refine ev_V kqX11_dayOn_157 jX11_nameAt (zX11_nameAt (d := d + 2) h2) ho rfl rfl (Nat.le_of_ble_eq_true rfl) rfl (as := [.int s0]) (rest := [.ref s2]) rfl (Nat.le_of_ble_eq_true rfl) (fun _ _ hq => ?_)
  obtain ⟨rfl, rfl⟩ := hq
  exact jm [2, 2, 0, 0, 1, 0, 0, 0] (fun v0 v1 v4 => fX11_dayOn_160 v0 v1 v4 r.1 s2 r.2) (fun v0 v1 v4 q => tX11_dayOn_160 v0 v1 v4 r.1 s2 r.2 q) hf
theorem kqX11_dayOn_154 : okC mX11_dayOn 154 (.invokevirtual 253) 223 240 0 3 = true := by decide +kernel
def fX11_dayOn_154 (v0 : Nat) (v1 : Nat) (v4 : Int32) (s0 : Int32) (s1 : Int32) (s2 : Nat) (s3 : Nat) (s4 : Nat) (s5 : Nat) (h : aH) : Option (aH) :=
  (isO h 11 s3).bind fun _ =>
  (gX11_seenOf s3 s2 s1 s0 h).bind fun r =>
  fX11_dayOn_157 v0 v1 v4 r.1 s4 s5 r.2
theorem tX11_dayOn_154 {d : Nat} {z : aH} (v0 : Nat) (v1 : Nat) (v4 : Int32) (s0 : Int32) (s1 : Int32) (s2 : Nat) (s3 : Nat) (s4 : Nat) (s5 : Nat) (h : aH) (hf : fX11_dayOn_154 v0 v1 v4 s0 s1 s2 s3 s4 s5 h = some z) : Ev (d + 3) none mX11_dayOn (0, 0) 154 [.ref v0, .ref v1, .null, .null, .int v4, .null, .null, .null] [.int s0, .int s1, .ref s2, .ref s3, .ref s4, .ref s5] h (QV z) := by
  obtain ⟨_, h1, hf⟩ := bnd hf
  obtain ⟨fs, ho⟩ := isO_ok h1
  obtain ⟨r, h2, hf⟩ := bnd hf
  refine ev_V kqX11_dayOn_154 jX11_seenOf (zX11_seenOf (d := d + 2) h2) ho rfl rfl (Nat.le_of_ble_eq_true rfl) rfl (as := [.ref s2, .int s1, .int s0]) (rest := [.ref s4, .ref s5]) rfl (Nat.le_of_ble_eq_true rfl) (fun _ _ hq => ?_)
  obtain ⟨rfl, rfl⟩ := hq
  exact jm [2, 2, 0, 0, 1, 0, 0, 0] (fun v0 v1 v4 => fX11_dayOn_157 v0 v1 v4 r.1 s4 s5 r.2) (fun v0 v1 v4 q => tX11_dayOn_157 v0 v1 v4 r.1 s4 s5 r.2 q) hf
def wX11_dayOn_141 : List En := [(.aload_n 0, 0, 0, 0), (.aload_n 0, 0, 0, 0), (.aload_n 1, 0, 0, 0), (.aload_n 0, 0, 0, 0), (.getfield 268, 200, 11, 25), (.aload_n 1, 0, 0, 0), (.aload_n 0, 0, 0, 0), (.getfield 268, 200, 11, 25), (.iaload, 0, 0, 0)]
def fX11_dayOn_141 (v0 : Nat) (v1 : Nat) (v4 : Int32) (s0 : Nat) (h : aH) : Option (aH) :=
  (gFI h 11 v0 25).bind fun t1 =>
  (gFI h 11 v0 25).bind fun t2 =>
  (aRI (h[v1]?) t2).bind fun t3 =>
  fX11_dayOn_154 v0 v1 v4 t3 t1 v1 v0 v0 s0 h
theorem tX11_dayOn_141 {d : Nat} {z : aH} (v0 : Nat) (v1 : Nat) (v4 : Int32) (s0 : Nat) (h : aH) (hf : fX11_dayOn_141 v0 v1 v4 s0 h = some z) : Ev (d + 3) none mX11_dayOn (0, 0) 141 [.ref v0, .ref v1, .null, .null, .int v4, .null, .null, .null] [.ref s0] h (QV z) := 
  go_ok (X := none) (blk := wX11_dayOn_141) (np := 154) (tt := 0) (kN := fun xs h st => app [2, 2, 0, 0, 1, 0, 0, 0] (fun v0 v1 v4 => apS [1, 1, 2, 2, 2, 2] (fun s0 s1 s2 s3 s4 s5 => fX11_dayOn_154 v0 v1 v4 s0 s1 s2 s3 s4 s5 h) st) xs) (kT := fun _ _ _ => none) (kR := kRV)
    (fun xs h st q => jm [2, 2, 0, 0, 1, 0, 0, 0] _ (fun v0 v1 v4 q => apS_ok [1, 1, 2, 2, 2, 2] _ (fun st => Ev (d + 3) none mX11_dayOn (0, 0) 154 [.ref v0, .ref v1, .null, .null, .int v4, .null, .null, .null] st h (QV z)) st (fun s0 s1 s2 s3 s4 s5 q => tX11_dayOn_154 v0 v1 v4 s0 s1 s2 s3 s4 s5 h q) q) q)
    (fun _ _ _ q => nos q)
    kRV_ok (Or.inr rfl) (by decide +kernel) (by decide +kernel) hf
def wX11_dayOn_136 : List En := [(.bipush (-2), 0, 0, 0), (.goto 22, 160, 0, 0)]
def fX11_dayOn_136 (v0 : Nat) (v1 : Nat) (v4 : Int32) (s0 : Nat) (h : aH) : Option (aH) :=
  fX11_dayOn_160 v0 v1 v4 (kB (-2)) s0 h
theorem tX11_dayOn_136 {d : Nat} {z : aH} (v0 : Nat) (v1 : Nat) (v4 : Int32) (s0 : Nat) (h : aH) (hf : fX11_dayOn_136 v0 v1 v4 s0 h = some z) : Ev (d + 3) none mX11_dayOn (0, 0) 136 [.ref v0, .ref v1, .null, .null, .int v4, .null, .null, .null] [.ref s0] h (QV z) := 
  go_ok (X := none) (blk := wX11_dayOn_136) (np := 141) (tt := 160) (kN := fun _ _ _ => none) (kT := fun xs h st => app [2, 2, 0, 0, 1, 0, 0, 0] (fun v0 v1 v4 => apS [1, 2] (fun s0 s1 => fX11_dayOn_160 v0 v1 v4 s0 s1 h) st) xs) (kR := kRV)
    (fun _ _ _ q => nos q)
    (fun xs h st q => jm [2, 2, 0, 0, 1, 0, 0, 0] _ (fun v0 v1 v4 q => apS_ok [1, 2] _ (fun st => Ev (d + 3) none mX11_dayOn (0, 0) 160 [.ref v0, .ref v1, .null, .null, .int v4, .null, .null, .null] st h (QV z)) st (fun s0 s1 q => tX11_dayOn_160 v0 v1 v4 s0 s1 h q) q) q)
    kRV_ok (Or.inr rfl) (by decide +kernel) (by decide +kernel) hf
def wX11_dayOn_128 : List En := [(.aload_n 0, 0, 0, 0), (.aload_n 0, 0, 0, 0), (.getfield 268, 200, 11, 25), (.ifCond .ge 8, 141, 0, 0)]
def fX11_dayOn_128 (v0 : Nat) (v1 : Nat) (v4 : Int32) (h : aH) : Option (aH) :=
  (gFI h 11 v0 25).bind fun t1 =>
  if t1 < 0 then fX11_dayOn_136 v0 v1 v4 v0 h else fX11_dayOn_141 v0 v1 v4 v0 h
theorem tX11_dayOn_128 {d : Nat} {z : aH} (v0 : Nat) (v1 : Nat) (v4 : Int32) (h : aH) (hf : fX11_dayOn_128 v0 v1 v4 h = some z) : Ev (d + 3) none mX11_dayOn (0, 0) 128 [.ref v0, .ref v1, .null, .null, .int v4, .null, .null, .null] [] h (QV z) := 
  go_ok (X := none) (blk := wX11_dayOn_128) (np := 136) (tt := 141) (kN := fun xs h st => app [2, 2, 0, 0, 1, 0, 0, 0] (fun v0 v1 v4 => apS [2] (fun s0 => fX11_dayOn_136 v0 v1 v4 s0 h) st) xs) (kT := fun xs h st => app [2, 2, 0, 0, 1, 0, 0, 0] (fun v0 v1 v4 => apS [2] (fun s0 => fX11_dayOn_141 v0 v1 v4 s0 h) st) xs) (kR := kRV)
    (fun xs h st q => jm [2, 2, 0, 0, 1, 0, 0, 0] _ (fun v0 v1 v4 q => apS_ok [2] _ (fun st => Ev (d + 3) none mX11_dayOn (0, 0) 136 [.ref v0, .ref v1, .null, .null, .int v4, .null, .null, .null] st h (QV z)) st (fun s0 q => tX11_dayOn_136 v0 v1 v4 s0 h q) q) q)
    (fun xs h st q => jm [2, 2, 0, 0, 1, 0, 0, 0] _ (fun v0 v1 v4 q => apS_ok [2] _ (fun st => Ev (d + 3) none mX11_dayOn (0, 0) 141 [.ref v0, .ref v1, .null, .null, .int v4, .null, .null, .null] st h (QV z)) st (fun s0 q => tX11_dayOn_141 v0 v1 v4 s0 h q) q) q)
    kRV_ok (Or.inr rfl) (by decide +kernel) (by decide +kernel) hf
def wX11_dayOn_122 : List En := [(.aload_n 0, 0, 0, 0), (.iload 5, 0, 0, 0), (.putfield 268, 200, 11, 25)]
def fX11_dayOn_122 (v0 : Nat) (v1 : Nat) (v4 : Int32) (v5 : Int32) (h : aH) : Option (aH) :=
  (pWV h 11 v0 25 (.int v5)).bind fun h1 =>
  fX11_dayOn_128 v0 v1 v4 h1
theorem tX11_dayOn_122 {d : Nat} {z : aH} (v0 : Nat) (v1 : Nat) (v4 : Int32) (v5 : Int32) (h : aH) (hf : fX11_dayOn_122 v0 v1 v4 v5 h = some z) : Ev (d + 3) none mX11_dayOn (0, 0) 122 [.ref v0, .ref v1, .null, .null, .int v4, .int v5, .null, .null] [] h (QV z) := 
  go_ok (X := none) (blk := wX11_dayOn_122) (np := 128) (tt := 0) (kN := fun xs h st => app [2, 2, 0, 0, 1, 0, 0, 0] (fun v0 v1 v4 => apS [] (fX11_dayOn_128 v0 v1 v4 h) st) xs) (kT := fun _ _ _ => none) (kR := kRV)
    (fun xs h st q => jm [2, 2, 0, 0, 1, 0, 0, 0] _ (fun v0 v1 v4 q => apS_ok [] _ (fun st => Ev (d + 3) none mX11_dayOn (0, 0) 128 [.ref v0, .ref v1, .null, .null, .int v4, .null, .null, .null] st h (QV z)) st (fun q => tX11_dayOn_128 v0 v1 v4 h q) q) q)
    (fun _ _ _ q => nos q)
    kRV_ok (Or.inr rfl) (by decide +kernel) (by decide +kernel) hf
def wX11_dayOn_115 : List En := [(.istore 5, 0, 0, 0), (.iload 5, 0, 0, 0), (.ifCond .lt 9, 128, 0, 0)]
def fX11_dayOn_115 (v0 : Nat) (v1 : Nat) (v4 : Int32) (s0 : Int32) (h : aH) : Option (aH) :=
  if s0 < 0 then fX11_dayOn_128 v0 v1 v4 h else fX11_dayOn_122 v0 v1 v4 s0 h
theorem tX11_dayOn_115 {d : Nat} {z : aH} (v0 : Nat) (v1 : Nat) (v4 : Int32) (s0 : Int32) (h : aH) (hf : fX11_dayOn_115 v0 v1 v4 s0 h = some z) : Ev (d + 3) none mX11_dayOn (0, 0) 115 [.ref v0, .ref v1, .null, .null, .int v4, .null, .null, .null] [.int s0] h (QV z) := 
  go_ok (X := none) (blk := wX11_dayOn_115) (np := 122) (tt := 128) (kN := fun xs h st => app [2, 2, 0, 0, 1, 1, 0, 0] (fun v0 v1 v4 v5 => apS [] (fX11_dayOn_122 v0 v1 v4 v5 h) st) xs) (kT := fun xs h st => app [2, 2, 0, 0, 1, 0, 0, 0] (fun v0 v1 v4 => apS [] (fX11_dayOn_128 v0 v1 v4 h) st) xs) (kR := kRV)
    (fun xs h st q => jm [2, 2, 0, 0, 1, 1, 0, 0] _ (fun v0 v1 v4 v5 q => apS_ok [] _ (fun st => Ev (d + 3) none mX11_dayOn (0, 0) 122 [.ref v0, .ref v1, .null, .null, .int v4, .int v5, .null, .null] st h (QV z)) st (fun q => tX11_dayOn_122 v0 v1 v4 v5 h q) q) q)
    (fun xs h st q => jm [2, 2, 0, 0, 1, 0, 0, 0] _ (fun v0 v1 v4 q => apS_ok [] _ (fun st => Ev (d + 3) none mX11_dayOn (0, 0) 128 [.ref v0, .ref v1, .null, .null, .int v4, .null, .null, .null] st h (QV z)) st (fun q => tX11_dayOn_128 v0 v1 v4 h q) q) q)
    kRV_ok (Or.inr rfl) (by decide +kernel) (by decide +kernel) hf
def wX11_dayOn_113 : List En := [(.bipush (-2), 0, 0, 0)]
def fX11_dayOn_113 (v0 : Nat) (v1 : Nat) (v4 : Int32) (h : aH) : Option (aH) :=
  fX11_dayOn_115 v0 v1 v4 (kB (-2)) h
theorem tX11_dayOn_113 {d : Nat} {z : aH} (v0 : Nat) (v1 : Nat) (v4 : Int32) (h : aH) (hf : fX11_dayOn_113 v0 v1 v4 h = some z) : Ev (d + 3) none mX11_dayOn (0, 0) 113 [.ref v0, .ref v1, .null, .null, .int v4, .null, .null, .null] [] h (QV z) := 
  go_ok (X := none) (blk := wX11_dayOn_113) (np := 115) (tt := 0) (kN := fun xs h st => app [2, 2, 0, 0, 1, 0, 0, 0] (fun v0 v1 v4 => apS [1] (fun s0 => fX11_dayOn_115 v0 v1 v4 s0 h) st) xs) (kT := fun _ _ _ => none) (kR := kRV)
    (fun xs h st q => jm [2, 2, 0, 0, 1, 0, 0, 0] _ (fun v0 v1 v4 q => apS_ok [1] _ (fun st => Ev (d + 3) none mX11_dayOn (0, 0) 115 [.ref v0, .ref v1, .null, .null, .int v4, .null, .null, .null] st h (QV z)) st (fun s0 q => tX11_dayOn_115 v0 v1 v4 s0 h q) q) q)
    (fun _ _ _ q => nos q)
    kRV_ok (Or.inr rfl) (by decide +kernel) (by decide +kernel) hf
def wX11_dayOn_110 : List En := [(.goto 5, 115, 0, 0)]
def fX11_dayOn_110 (v0 : Nat) (v1 : Nat) (v4 : Int32) (s0 : Int32) (h : aH) : Option (aH) :=
  fX11_dayOn_115 v0 v1 v4 s0 h
theorem tX11_dayOn_110 {d : Nat} {z : aH} (v0 : Nat) (v1 : Nat) (v4 : Int32) (s0 : Int32) (h : aH) (hf : fX11_dayOn_110 v0 v1 v4 s0 h = some z) : Ev (d + 3) none mX11_dayOn (0, 0) 110 [.ref v0, .ref v1, .null, .null, .int v4, .null, .null, .null] [.int s0] h (QV z) := 
  go_ok (X := none) (blk := wX11_dayOn_110) (np := 113) (tt := 115) (kN := fun _ _ _ => none) (kT := fun xs h st => app [2, 2, 0, 0, 1, 0, 0, 0] (fun v0 v1 v4 => apS [1] (fun s0 => fX11_dayOn_115 v0 v1 v4 s0 h) st) xs) (kR := kRV)
    (fun _ _ _ q => nos q)
    (fun xs h st q => jm [2, 2, 0, 0, 1, 0, 0, 0] _ (fun v0 v1 v4 q => apS_ok [1] _ (fun st => Ev (d + 3) none mX11_dayOn (0, 0) 115 [.ref v0, .ref v1, .null, .null, .int v4, .null, .null, .null] st h (QV z)) st (fun s0 q => tX11_dayOn_115 v0 v1 v4 s0 h q) q) q)
    kRV_ok (Or.inr rfl) (by decide +kernel) (by decide +kernel) hf
theorem kqX11_dayOn_107 : okC mX11_dayOn 107 (.invokevirtual 264) 230 247 0 2 = true := by decide +kernel
def fX11_dayOn_107 (v0 : Nat) (v1 : Nat) (v4 : Int32) (s0 : Int32) (s1 : Nat) (s2 : Nat) (h : aH) : Option (aH) :=
  (isO h 11 s2).bind fun _ =>
  (gX11_namerOf s2 s1 s0 h).bind fun r =>
  fX11_dayOn_110 v0 v1 v4 r.1 r.2
theorem tX11_dayOn_107 {d : Nat} {z : aH} (v0 : Nat) (v1 : Nat) (v4 : Int32) (s0 : Int32) (s1 : Nat) (s2 : Nat) (h : aH) (hf : fX11_dayOn_107 v0 v1 v4 s0 s1 s2 h = some z) : Ev (d + 3) none mX11_dayOn (0, 0) 107 [.ref v0, .ref v1, .null, .null, .int v4, .null, .null, .null] [.int s0, .ref s1, .ref s2] h (QV z) := by
  obtain ⟨_, h1, hf⟩ := bnd hf
  obtain ⟨fs, ho⟩ := isO_ok h1
  obtain ⟨r, h2, hf⟩ := bnd hf
  refine ev_V kqX11_dayOn_107 jX11_namerOf (zX11_namerOf (d := d + 0) h2) ho rfl rfl (Nat.le_of_ble_eq_true rfl) rfl (as := [.ref s1, .int s0]) (rest := []) rfl (Nat.le_of_ble_eq_true rfl) (fun _ _ hq => ?_)
  obtain ⟨rfl, rfl⟩ := hq
  exact jm [2, 2, 0, 0, 1, 0, 0, 0] (fun v0 v1 v4 => fX11_dayOn_110 v0 v1 v4 r.1 r.2) (fun v0 v1 v4 q => tX11_dayOn_110 v0 v1 v4 r.1 r.2 q) hf
def wX11_dayOn_101 : List En := [(.aload_n 0, 0, 0, 0), (.aload_n 1, 0, 0, 0), (.aload_n 0, 0, 0, 0), (.getfield 268, 200, 11, 25)]
def fX11_dayOn_101 (v0 : Nat) (v1 : Nat) (v4 : Int32) (h : aH) : Option (aH) :=
  (gFI h 11 v0 25).bind fun t1 =>
  fX11_dayOn_107 v0 v1 v4 t1 v1 v0 h
theorem tX11_dayOn_101 {d : Nat} {z : aH} (v0 : Nat) (v1 : Nat) (v4 : Int32) (h : aH) (hf : fX11_dayOn_101 v0 v1 v4 h = some z) : Ev (d + 3) none mX11_dayOn (0, 0) 101 [.ref v0, .ref v1, .null, .null, .int v4, .null, .null, .null] [] h (QV z) := 
  go_ok (X := none) (blk := wX11_dayOn_101) (np := 107) (tt := 0) (kN := fun xs h st => app [2, 2, 0, 0, 1, 0, 0, 0] (fun v0 v1 v4 => apS [1, 2, 2] (fun s0 s1 s2 => fX11_dayOn_107 v0 v1 v4 s0 s1 s2 h) st) xs) (kT := fun _ _ _ => none) (kR := kRV)
    (fun xs h st q => jm [2, 2, 0, 0, 1, 0, 0, 0] _ (fun v0 v1 v4 q => apS_ok [1, 2, 2] _ (fun st => Ev (d + 3) none mX11_dayOn (0, 0) 107 [.ref v0, .ref v1, .null, .null, .int v4, .null, .null, .null] st h (QV z)) st (fun s0 s1 s2 q => tX11_dayOn_107 v0 v1 v4 s0 s1 s2 h q) q) q)
    (fun _ _ _ q => nos q)
    kRV_ok (Or.inr rfl) (by decide +kernel) (by decide +kernel) hf
def wX11_dayOn_94 : List En := [(.putfield 268, 200, 11, 25), (.iload_n 3, 0, 0, 0), (.ifCond .eq 15, 113, 0, 0)]
def fX11_dayOn_94 (v0 : Nat) (v1 : Nat) (v3 : Int32) (v4 : Int32) (s0 : Int32) (s1 : Nat) (h : aH) : Option (aH) :=
  (pWV h 11 s1 25 (.int s0)).bind fun h1 =>
  if v3 = 0 then fX11_dayOn_113 v0 v1 v4 h1 else fX11_dayOn_101 v0 v1 v4 h1
theorem tX11_dayOn_94 {d : Nat} {z : aH} (v0 : Nat) (v1 : Nat) (v3 : Int32) (v4 : Int32) (s0 : Int32) (s1 : Nat) (h : aH) (hf : fX11_dayOn_94 v0 v1 v3 v4 s0 s1 h = some z) : Ev (d + 3) none mX11_dayOn (0, 0) 94 [.ref v0, .ref v1, .null, .int v3, .int v4, .null, .null, .null] [.int s0, .ref s1] h (QV z) := 
  go_ok (X := none) (blk := wX11_dayOn_94) (np := 101) (tt := 113) (kN := fun xs h st => app [2, 2, 0, 0, 1, 0, 0, 0] (fun v0 v1 v4 => apS [] (fX11_dayOn_101 v0 v1 v4 h) st) xs) (kT := fun xs h st => app [2, 2, 0, 0, 1, 0, 0, 0] (fun v0 v1 v4 => apS [] (fX11_dayOn_113 v0 v1 v4 h) st) xs) (kR := kRV)
    (fun xs h st q => jm [2, 2, 0, 0, 1, 0, 0, 0] _ (fun v0 v1 v4 q => apS_ok [] _ (fun st => Ev (d + 3) none mX11_dayOn (0, 0) 101 [.ref v0, .ref v1, .null, .null, .int v4, .null, .null, .null] st h (QV z)) st (fun q => tX11_dayOn_101 v0 v1 v4 h q) q) q)
    (fun xs h st q => jm [2, 2, 0, 0, 1, 0, 0, 0] _ (fun v0 v1 v4 q => apS_ok [] _ (fun st => Ev (d + 3) none mX11_dayOn (0, 0) 113 [.ref v0, .ref v1, .null, .null, .int v4, .null, .null, .null] st h (QV z)) st (fun q => tX11_dayOn_113 v0 v1 v4 h q) q) q)
    kRV_ok (Or.inr rfl) (by decide +kernel) (by decide +kernel) hf
theorem kqX11_dayOn_91 : okC mX11_dayOn 91 (.invokevirtual 264) 230 247 0 2 = true := by decide +kernel
def fX11_dayOn_91 (v0 : Nat) (v1 : Nat) (v3 : Int32) (v4 : Int32) (s0 : Int32) (s1 : Nat) (s2 : Nat) (s3 : Nat) (h : aH) : Option (aH) :=
  (isO h 11 s2).bind fun _ =>
  (gX11_namerOf s2 s1 s0 h).bind fun r =>
  fX11_dayOn_94 v0 v1 v3 v4 r.1 s3 r.2
theorem tX11_dayOn_91 {d : Nat} {z : aH} (v0 : Nat) (v1 : Nat) (v3 : Int32) (v4 : Int32) (s0 : Int32) (s1 : Nat) (s2 : Nat) (s3 : Nat) (h : aH) (hf : fX11_dayOn_91 v0 v1 v3 v4 s0 s1 s2 s3 h = some z) : Ev (d + 3) none mX11_dayOn (0, 0) 91 [.ref v0, .ref v1, .null, .int v3, .int v4, .null, .null, .null] [.int s0, .ref s1, .ref s2, .ref s3] h (QV z) := by
  obtain ⟨_, h1, hf⟩ := bnd hf
  obtain ⟨fs, ho⟩ := isO_ok h1
  obtain ⟨r, h2, hf⟩ := bnd hf
  refine ev_V kqX11_dayOn_91 jX11_namerOf (zX11_namerOf (d := d + 0) h2) ho rfl rfl (Nat.le_of_ble_eq_true rfl) rfl (as := [.ref s1, .int s0]) (rest := [.ref s3]) rfl (Nat.le_of_ble_eq_true rfl) (fun _ _ hq => ?_)
  obtain ⟨rfl, rfl⟩ := hq
  exact jm [2, 2, 0, 1, 1, 0, 0, 0] (fun v0 v1 v3 v4 => fX11_dayOn_94 v0 v1 v3 v4 r.1 s3 r.2) (fun v0 v1 v3 v4 q => tX11_dayOn_94 v0 v1 v3 v4 r.1 s3 r.2 q) hf
def wX11_dayOn_87 : List En := [(.aload_n 0, 0, 0, 0), (.aload_n 0, 0, 0, 0), (.aload_n 1, 0, 0, 0), (.iconst (-1), 0, 0, 0)]
def fX11_dayOn_87 (v0 : Nat) (v1 : Nat) (v3 : Int32) (v4 : Int32) (h : aH) : Option (aH) :=
  fX11_dayOn_91 v0 v1 v3 v4 (kI (-1)) v1 v0 v0 h
theorem tX11_dayOn_87 {d : Nat} {z : aH} (v0 : Nat) (v1 : Nat) (v3 : Int32) (v4 : Int32) (h : aH) (hf : fX11_dayOn_87 v0 v1 v3 v4 h = some z) : Ev (d + 3) none mX11_dayOn (0, 0) 87 [.ref v0, .ref v1, .null, .int v3, .int v4, .null, .null, .null] [] h (QV z) := 
  go_ok (X := none) (blk := wX11_dayOn_87) (np := 91) (tt := 0) (kN := fun xs h st => app [2, 2, 0, 1, 1, 0, 0, 0] (fun v0 v1 v3 v4 => apS [1, 2, 2, 2] (fun s0 s1 s2 s3 => fX11_dayOn_91 v0 v1 v3 v4 s0 s1 s2 s3 h) st) xs) (kT := fun _ _ _ => none) (kR := kRV)
    (fun xs h st q => jm [2, 2, 0, 1, 1, 0, 0, 0] _ (fun v0 v1 v3 v4 q => apS_ok [1, 2, 2, 2] _ (fun st => Ev (d + 3) none mX11_dayOn (0, 0) 91 [.ref v0, .ref v1, .null, .int v3, .int v4, .null, .null, .null] st h (QV z)) st (fun s0 s1 s2 s3 q => tX11_dayOn_91 v0 v1 v3 v4 s0 s1 s2 s3 h q) q) q)
    (fun _ _ _ q => nos q)
    kRV_ok (Or.inr rfl) (by decide +kernel) (by decide +kernel) hf
def wX11_dayOn_79 : List En := [(.iadd, 0, 0, 0), (.iastore, 0, 0, 0), (.iinc 5 1, 0, 0, 0), (.goto (-49), 35, 0, 0)]
def fX11_dayOn_79 (k35 : Nat → Nat → Int32 → Int32 → Int32 → aH → Option (aH)) (v0 : Nat) (v1 : Nat) (v3 : Int32) (v4 : Int32) (v5 : Int32) (s0 : Int32) (s1 : Int32) (s2 : Int32) (s3 : Nat) (h : aH) : Option (aH) :=
  (aWI h s3 s2 (s1 + s0)).bind fun h1 =>
  k35 v0 v1 v3 v4 (v5 + kI 1) h1
theorem tX11_dayOn_79 {d : Nat} {z : aH} {k35 : Nat → Nat → Int32 → Int32 → Int32 → aH → Option (aH)} (hk35 : ∀ (v0 : Nat) (v1 : Nat) (v3 : Int32) (v4 : Int32) (v5 : Int32) (h : aH), k35 v0 v1 v3 v4 v5 h = some z → Ev (d + 3) none mX11_dayOn (0, 0) 35 [.ref v0, .ref v1, .null, .int v3, .int v4, .int v5, .null, .null] [] h (QV z)) (v0 : Nat) (v1 : Nat) (v3 : Int32) (v4 : Int32) (v5 : Int32) (s0 : Int32) (s1 : Int32) (s2 : Int32) (s3 : Nat) (h : aH) (hf : fX11_dayOn_79 k35 v0 v1 v3 v4 v5 s0 s1 s2 s3 h = some z) : Ev (d + 3) none mX11_dayOn (0, 0) 79 [.ref v0, .ref v1, .null, .int v3, .int v4, .int v5, .null, .null] [.int s0, .int s1, .int s2, .ref s3] h (QV z) := 
  go_ok (X := none) (blk := wX11_dayOn_79) (np := 87) (tt := 35) (kN := fun _ _ _ => none) (kT := fun xs h st => app [2, 2, 0, 1, 1, 1, 0, 0] (fun v0 v1 v3 v4 v5 => apS [] (k35 v0 v1 v3 v4 v5 h) st) xs) (kR := kRV)
    (fun _ _ _ q => nos q)
    (fun xs h st q => jm [2, 2, 0, 1, 1, 1, 0, 0] _ (fun v0 v1 v3 v4 v5 q => apS_ok [] _ (fun st => Ev (d + 3) none mX11_dayOn (0, 0) 35 [.ref v0, .ref v1, .null, .int v3, .int v4, .int v5, .null, .null] st h (QV z)) st (fun q => hk35 v0 v1 v3 v4 v5 h q) q) q)
    kRV_ok (Or.inr rfl) (by decide +kernel) (by decide +kernel) hf
def wX11_dayOn_78 : List En := [(.iconst 0, 0, 0, 0)]
def fX11_dayOn_78 (k35 : Nat → Nat → Int32 → Int32 → Int32 → aH → Option (aH)) (v0 : Nat) (v1 : Nat) (v3 : Int32) (v4 : Int32) (v5 : Int32) (s0 : Int32) (s1 : Int32) (s2 : Nat) (h : aH) : Option (aH) :=
  fX11_dayOn_79 k35 v0 v1 v3 v4 v5 (kI 0) s0 s1 s2 h
theorem tX11_dayOn_78 {d : Nat} {z : aH} {k35 : Nat → Nat → Int32 → Int32 → Int32 → aH → Option (aH)} (hk35 : ∀ (v0 : Nat) (v1 : Nat) (v3 : Int32) (v4 : Int32) (v5 : Int32) (h : aH), k35 v0 v1 v3 v4 v5 h = some z → Ev (d + 3) none mX11_dayOn (0, 0) 35 [.ref v0, .ref v1, .null, .int v3, .int v4, .int v5, .null, .null] [] h (QV z)) (v0 : Nat) (v1 : Nat) (v3 : Int32) (v4 : Int32) (v5 : Int32) (s0 : Int32) (s1 : Int32) (s2 : Nat) (h : aH) (hf : fX11_dayOn_78 k35 v0 v1 v3 v4 v5 s0 s1 s2 h = some z) : Ev (d + 3) none mX11_dayOn (0, 0) 78 [.ref v0, .ref v1, .null, .int v3, .int v4, .int v5, .null, .null] [.int s0, .int s1, .ref s2] h (QV z) := 
  go_ok (X := none) (blk := wX11_dayOn_78) (np := 79) (tt := 0) (kN := fun xs h st => app [2, 2, 0, 1, 1, 1, 0, 0] (fun v0 v1 v3 v4 v5 => apS [1, 1, 1, 2] (fun s0 s1 s2 s3 => fX11_dayOn_79 k35 v0 v1 v3 v4 v5 s0 s1 s2 s3 h) st) xs) (kT := fun _ _ _ => none) (kR := kRV)
    (fun xs h st q => jm [2, 2, 0, 1, 1, 1, 0, 0] _ (fun v0 v1 v3 v4 v5 q => apS_ok [1, 1, 1, 2] _ (fun st => Ev (d + 3) none mX11_dayOn (0, 0) 79 [.ref v0, .ref v1, .null, .int v3, .int v4, .int v5, .null, .null] st h (QV z)) st (fun s0 s1 s2 s3 q => tX11_dayOn_79 hk35 v0 v1 v3 v4 v5 s0 s1 s2 s3 h q) q) q)
    (fun _ _ _ q => nos q)
    kRV_ok (Or.inr rfl) (by decide +kernel) (by decide +kernel) hf
def wX11_dayOn_61 : List En := [(.aload_n 0, 0, 0, 0), (.getfield 20, 190, 11, 15), (.bipush 9, 0, 0, 0), (.iconst 2, 0, 0, 0), (.iload 5, 0, 0, 0), (.imul, 0, 0, 0), (.iadd, 0, 0, 0), (.iconst 1, 0, 0, 0), (.iadd, 0, 0, 0), (.iaload, 0, 0, 0), (.goto 4, 79, 0, 0)]
def fX11_dayOn_61 (k35 : Nat → Nat → Int32 → Int32 → Int32 → aH → Option (aH)) (v0 : Nat) (v1 : Nat) (v3 : Int32) (v4 : Int32) (v5 : Int32) (s0 : Int32) (s1 : Int32) (s2 : Nat) (h : aH) : Option (aH) :=
  (gFR h 11 v0 15).bind fun t1 =>
  (aRI (h[t1]?) (((kB 9) + ((kI 2) * v5)) + (kI 1))).bind fun t2 =>
  fX11_dayOn_79 k35 v0 v1 v3 v4 v5 t2 s0 s1 s2 h
theorem tX11_dayOn_61 {d : Nat} {z : aH} {k35 : Nat → Nat → Int32 → Int32 → Int32 → aH → Option (aH)} (hk35 : ∀ (v0 : Nat) (v1 : Nat) (v3 : Int32) (v4 : Int32) (v5 : Int32) (h : aH), k35 v0 v1 v3 v4 v5 h = some z → Ev (d + 3) none mX11_dayOn (0, 0) 35 [.ref v0, .ref v1, .null, .int v3, .int v4, .int v5, .null, .null] [] h (QV z)) (v0 : Nat) (v1 : Nat) (v3 : Int32) (v4 : Int32) (v5 : Int32) (s0 : Int32) (s1 : Int32) (s2 : Nat) (h : aH) (hf : fX11_dayOn_61 k35 v0 v1 v3 v4 v5 s0 s1 s2 h = some z) : Ev (d + 3) none mX11_dayOn (0, 0) 61 [.ref v0, .ref v1, .null, .int v3, .int v4, .int v5, .null, .null] [.int s0, .int s1, .ref s2] h (QV z) := 
  go_ok (X := none) (blk := wX11_dayOn_61) (np := 78) (tt := 79) (kN := fun _ _ _ => none) (kT := fun xs h st => app [2, 2, 0, 1, 1, 1, 0, 0] (fun v0 v1 v3 v4 v5 => apS [1, 1, 1, 2] (fun s0 s1 s2 s3 => fX11_dayOn_79 k35 v0 v1 v3 v4 v5 s0 s1 s2 s3 h) st) xs) (kR := kRV)
    (fun _ _ _ q => nos q)
    (fun xs h st q => jm [2, 2, 0, 1, 1, 1, 0, 0] _ (fun v0 v1 v3 v4 v5 q => apS_ok [1, 1, 1, 2] _ (fun st => Ev (d + 3) none mX11_dayOn (0, 0) 79 [.ref v0, .ref v1, .null, .int v3, .int v4, .int v5, .null, .null] st h (QV z)) st (fun s0 s1 s2 s3 q => tX11_dayOn_79 hk35 v0 v1 v3 v4 v5 s0 s1 s2 s3 h q) q) q)
    kRV_ok (Or.inr rfl) (by decide +kernel) (by decide +kernel) hf
def wX11_dayOn_58 : List En := [(.ifCond .eq 20, 78, 0, 0)]
def fX11_dayOn_58 (k35 : Nat → Nat → Int32 → Int32 → Int32 → aH → Option (aH)) (v0 : Nat) (v1 : Nat) (v3 : Int32) (v4 : Int32) (v5 : Int32) (s0 : Int32) (s1 : Int32) (s2 : Int32) (s3 : Nat) (h : aH) : Option (aH) :=
  if s0 = 0 then fX11_dayOn_78 k35 v0 v1 v3 v4 v5 s1 s2 s3 h else fX11_dayOn_61 k35 v0 v1 v3 v4 v5 s1 s2 s3 h
theorem tX11_dayOn_58 {d : Nat} {z : aH} {k35 : Nat → Nat → Int32 → Int32 → Int32 → aH → Option (aH)} (hk35 : ∀ (v0 : Nat) (v1 : Nat) (v3 : Int32) (v4 : Int32) (v5 : Int32) (h : aH), k35 v0 v1 v3 v4 v5 h = some z → Ev (d + 3) none mX11_dayOn (0, 0) 35 [.ref v0, .ref v1, .null, .int v3, .int v4, .int v5, .null, .null] [] h (QV z)) (v0 : Nat) (v1 : Nat) (v3 : Int32) (v4 : Int32) (v5 : Int32) (s0 : Int32) (s1 : Int32) (s2 : Int32) (s3 : Nat) (h : aH) (hf : fX11_dayOn_58 k35 v0 v1 v3 v4 v5 s0 s1 s2 s3 h = some z) : Ev (d + 3) none mX11_dayOn (0, 0) 58 [.ref v0, .ref v1, .null, .int v3, .int v4, .int v5, .null, .null] [.int s0, .int s1, .int s2, .ref s3] h (QV z) := 
  go_ok (X := none) (blk := wX11_dayOn_58) (np := 61) (tt := 78) (kN := fun xs h st => app [2, 2, 0, 1, 1, 1, 0, 0] (fun v0 v1 v3 v4 v5 => apS [1, 1, 2] (fun s0 s1 s2 => fX11_dayOn_61 k35 v0 v1 v3 v4 v5 s0 s1 s2 h) st) xs) (kT := fun xs h st => app [2, 2, 0, 1, 1, 1, 0, 0] (fun v0 v1 v3 v4 v5 => apS [1, 1, 2] (fun s0 s1 s2 => fX11_dayOn_78 k35 v0 v1 v3 v4 v5 s0 s1 s2 h) st) xs) (kR := kRV)
    (fun xs h st q => jm [2, 2, 0, 1, 1, 1, 0, 0] _ (fun v0 v1 v3 v4 v5 q => apS_ok [1, 1, 2] _ (fun st => Ev (d + 3) none mX11_dayOn (0, 0) 61 [.ref v0, .ref v1, .null, .int v3, .int v4, .int v5, .null, .null] st h (QV z)) st (fun s0 s1 s2 q => tX11_dayOn_61 hk35 v0 v1 v3 v4 v5 s0 s1 s2 h q) q) q)
    (fun xs h st q => jm [2, 2, 0, 1, 1, 1, 0, 0] _ (fun v0 v1 v3 v4 v5 q => apS_ok [1, 1, 2] _ (fun st => Ev (d + 3) none mX11_dayOn (0, 0) 78 [.ref v0, .ref v1, .null, .int v3, .int v4, .int v5, .null, .null] st h (QV z)) st (fun s0 s1 s2 q => tX11_dayOn_78 hk35 v0 v1 v3 v4 v5 s0 s1 s2 h q) q) q)
    kRV_ok (Or.inr rfl) (by decide +kernel) (by decide +kernel) hf
theorem kqX11_dayOn_55 : okC mX11_dayOn 55 (.invokevirtual 249) 221 238 0 2 = true := by decide +kernel
def fX11_dayOn_55 (k35 : Nat → Nat → Int32 → Int32 → Int32 → aH → Option (aH)) (v0 : Nat) (v1 : Nat) (v3 : Int32) (v4 : Int32) (v5 : Int32) (s0 : Int32) (s1 : Nat) (s2 : Nat) (s3 : Int32) (s4 : Int32) (s5 : Nat) (h : aH) : Option (aH) :=
  (isO h 11 s2).bind fun _ =>
  (gX11_lives s2 s1 s0 h).bind fun r =>
  fX11_dayOn_58 k35 v0 v1 v3 v4 v5 r.1 s3 s4 s5 r.2
theorem tX11_dayOn_55 {d : Nat} {z : aH} {k35 : Nat → Nat → Int32 → Int32 → Int32 → aH → Option (aH)} (hk35 : ∀ (v0 : Nat) (v1 : Nat) (v3 : Int32) (v4 : Int32) (v5 : Int32) (h : aH), k35 v0 v1 v3 v4 v5 h = some z → Ev (d + 3) none mX11_dayOn (0, 0) 35 [.ref v0, .ref v1, .null, .int v3, .int v4, .int v5, .null, .null] [] h (QV z)) (v0 : Nat) (v1 : Nat) (v3 : Int32) (v4 : Int32) (v5 : Int32) (s0 : Int32) (s1 : Nat) (s2 : Nat) (s3 : Int32) (s4 : Int32) (s5 : Nat) (h : aH) (hf : fX11_dayOn_55 k35 v0 v1 v3 v4 v5 s0 s1 s2 s3 s4 s5 h = some z) : Ev (d + 3) none mX11_dayOn (0, 0) 55 [.ref v0, .ref v1, .null, .int v3, .int v4, .int v5, .null, .null] [.int s0, .ref s1, .ref s2, .int s3, .int s4, .ref s5] h (QV z) := by
  obtain ⟨_, h1, hf⟩ := bnd hf
  obtain ⟨fs, ho⟩ := isO_ok h1
  obtain ⟨r, h2, hf⟩ := bnd hf
  refine ev_V kqX11_dayOn_55 jX11_lives (zX11_lives (d := d + 1) h2) ho rfl rfl (Nat.le_of_ble_eq_true rfl) rfl (as := [.ref s1, .int s0]) (rest := [.int s3, .int s4, .ref s5]) rfl (Nat.le_of_ble_eq_true rfl) (fun _ _ hq => ?_)
  obtain ⟨-, rfl, rfl⟩ := hq
  exact jm [2, 2, 0, 1, 1, 1, 0, 0] (fun v0 v1 v3 v4 v5 => fX11_dayOn_58 k35 v0 v1 v3 v4 v5 r.1 s3 s4 s5 r.2) (fun v0 v1 v3 v4 v5 q => tX11_dayOn_58 hk35 v0 v1 v3 v4 v5 r.1 s3 s4 s5 r.2 q) hf
def wX11_dayOn_46 : List En := [(.aload_n 1, 0, 0, 0), (.iload 5, 0, 0, 0), (.dup2, 0, 0, 0), (.iaload, 0, 0, 0), (.aload_n 0, 0, 0, 0), (.aload_n 1, 0, 0, 0), (.iload 5, 0, 0, 0)]
def fX11_dayOn_46 (k35 : Nat → Nat → Int32 → Int32 → Int32 → aH → Option (aH)) (v0 : Nat) (v1 : Nat) (v3 : Int32) (v4 : Int32) (v5 : Int32) (h : aH) : Option (aH) :=
  (aRI (h[v1]?) v5).bind fun t1 =>
  fX11_dayOn_55 k35 v0 v1 v3 v4 v5 v5 v1 v0 t1 v5 v1 h
theorem tX11_dayOn_46 {d : Nat} {z : aH} {k35 : Nat → Nat → Int32 → Int32 → Int32 → aH → Option (aH)} (hk35 : ∀ (v0 : Nat) (v1 : Nat) (v3 : Int32) (v4 : Int32) (v5 : Int32) (h : aH), k35 v0 v1 v3 v4 v5 h = some z → Ev (d + 3) none mX11_dayOn (0, 0) 35 [.ref v0, .ref v1, .null, .int v3, .int v4, .int v5, .null, .null] [] h (QV z)) (v0 : Nat) (v1 : Nat) (v3 : Int32) (v4 : Int32) (v5 : Int32) (h : aH) (hf : fX11_dayOn_46 k35 v0 v1 v3 v4 v5 h = some z) : Ev (d + 3) none mX11_dayOn (0, 0) 46 [.ref v0, .ref v1, .null, .int v3, .int v4, .int v5, .null, .null] [] h (QV z) := 
  go_ok (X := none) (blk := wX11_dayOn_46) (np := 55) (tt := 0) (kN := fun xs h st => app [2, 2, 0, 1, 1, 1, 0, 0] (fun v0 v1 v3 v4 v5 => apS [1, 2, 2, 1, 1, 2] (fun s0 s1 s2 s3 s4 s5 => fX11_dayOn_55 k35 v0 v1 v3 v4 v5 s0 s1 s2 s3 s4 s5 h) st) xs) (kT := fun _ _ _ => none) (kR := kRV)
    (fun xs h st q => jm [2, 2, 0, 1, 1, 1, 0, 0] _ (fun v0 v1 v3 v4 v5 q => apS_ok [1, 2, 2, 1, 1, 2] _ (fun st => Ev (d + 3) none mX11_dayOn (0, 0) 55 [.ref v0, .ref v1, .null, .int v3, .int v4, .int v5, .null, .null] st h (QV z)) st (fun s0 s1 s2 s3 s4 s5 q => tX11_dayOn_55 hk35 v0 v1 v3 v4 v5 s0 s1 s2 s3 s4 s5 h q) q) q)
    (fun _ _ _ q => nos q)
    kRV_ok (Or.inr rfl) (by decide +kernel) (by decide +kernel) hf
def wX11_dayOn_35 : List En := [(.iload 5, 0, 0, 0), (.aload_n 0, 0, 0, 0), (.getfield 20, 190, 11, 15), (.iconst 3, 0, 0, 0), (.iaload, 0, 0, 0), (.if_icmp .ge 44, 87, 0, 0)]
def fX11_dayOn_35 (k35 : Nat → Nat → Int32 → Int32 → Int32 → aH → Option (aH)) (v0 : Nat) (v1 : Nat) (v3 : Int32) (v4 : Int32) (v5 : Int32) (h : aH) : Option (aH) :=
  (gFR h 11 v0 15).bind fun t1 =>
  (aRI (h[t1]?) (kI 3)).bind fun t2 =>
  if v5 < t2 then fX11_dayOn_46 k35 v0 v1 v3 v4 v5 h else fX11_dayOn_87 v0 v1 v3 v4 h
theorem tX11_dayOn_35 {d : Nat} {z : aH} {k35 : Nat → Nat → Int32 → Int32 → Int32 → aH → Option (aH)} (hk35 : ∀ (v0 : Nat) (v1 : Nat) (v3 : Int32) (v4 : Int32) (v5 : Int32) (h : aH), k35 v0 v1 v3 v4 v5 h = some z → Ev (d + 3) none mX11_dayOn (0, 0) 35 [.ref v0, .ref v1, .null, .int v3, .int v4, .int v5, .null, .null] [] h (QV z)) (v0 : Nat) (v1 : Nat) (v3 : Int32) (v4 : Int32) (v5 : Int32) (h : aH) (hf : fX11_dayOn_35 k35 v0 v1 v3 v4 v5 h = some z) : Ev (d + 3) none mX11_dayOn (0, 0) 35 [.ref v0, .ref v1, .null, .int v3, .int v4, .int v5, .null, .null] [] h (QV z) := 
  go_ok (X := none) (blk := wX11_dayOn_35) (np := 46) (tt := 87) (kN := fun xs h st => app [2, 2, 0, 1, 1, 1, 0, 0] (fun v0 v1 v3 v4 v5 => apS [] (fX11_dayOn_46 k35 v0 v1 v3 v4 v5 h) st) xs) (kT := fun xs h st => app [2, 2, 0, 1, 1, 0, 0, 0] (fun v0 v1 v3 v4 => apS [] (fX11_dayOn_87 v0 v1 v3 v4 h) st) xs) (kR := kRV)
    (fun xs h st q => jm [2, 2, 0, 1, 1, 1, 0, 0] _ (fun v0 v1 v3 v4 v5 q => apS_ok [] _ (fun st => Ev (d + 3) none mX11_dayOn (0, 0) 46 [.ref v0, .ref v1, .null, .int v3, .int v4, .int v5, .null, .null] st h (QV z)) st (fun q => tX11_dayOn_46 hk35 v0 v1 v3 v4 v5 h q) q) q)
    (fun xs h st q => jm [2, 2, 0, 1, 1, 0, 0, 0] _ (fun v0 v1 v3 v4 q => apS_ok [] _ (fun st => Ev (d + 3) none mX11_dayOn (0, 0) 87 [.ref v0, .ref v1, .null, .int v3, .int v4, .null, .null, .null] st h (QV z)) st (fun q => tX11_dayOn_87 v0 v1 v3 v4 h q) q) q)
    kRV_ok (Or.inr rfl) (by decide +kernel) (by decide +kernel) hf
def lX11_dayOn_35 : Nat → Nat → Nat → Int32 → Int32 → Int32 → aH → Option (aH)
  | 0, _, _, _, _, _, _ => none
  | n + 1, v0, v1, v3, v4, v5, h => fX11_dayOn_35 (lX11_dayOn_35 n) v0 v1 v3 v4 v5 h
theorem uX11_dayOn_35 {d : Nat} {z : aH} : ∀ (n : Nat) (v0 : Nat) (v1 : Nat) (v3 : Int32) (v4 : Int32) (v5 : Int32) (h : aH), lX11_dayOn_35 n v0 v1 v3 v4 v5 h = some z → Ev (d + 3) none mX11_dayOn (0, 0) 35 [.ref v0, .ref v1, .null, .int v3, .int v4, .int v5, .null, .null] [] h (QV z) := by
  intro n
  induction n with
  | zero => intro _ _ _ _ _ _ q; exact nos (show (none : Option (aH)) = some z from q)
  | succ n ih => intro v0 v1 v3 v4 v5 h q; exact tX11_dayOn_35 ih v0 v1 v3 v4 v5 h q
def wX11_dayOn_32 : List En := [(.iconst 0, 0, 0, 0), (.istore 5, 0, 0, 0)]
def fX11_dayOn_32 (v0 : Nat) (v1 : Nat) (v3 : Int32) (v4 : Int32) (h : aH) : Option (aH) :=
  lX11_dayOn_35 FU v0 v1 v3 v4 (kI 0) h
theorem tX11_dayOn_32 {d : Nat} {z : aH} (v0 : Nat) (v1 : Nat) (v3 : Int32) (v4 : Int32) (h : aH) (hf : fX11_dayOn_32 v0 v1 v3 v4 h = some z) : Ev (d + 3) none mX11_dayOn (0, 0) 32 [.ref v0, .ref v1, .null, .int v3, .int v4, .null, .null, .null] [] h (QV z) := 
  go_ok (X := none) (blk := wX11_dayOn_32) (np := 35) (tt := 0) (kN := fun xs h st => app [2, 2, 0, 1, 1, 1, 0, 0] (fun v0 v1 v3 v4 v5 => apS [] (lX11_dayOn_35 FU v0 v1 v3 v4 v5 h) st) xs) (kT := fun _ _ _ => none) (kR := kRV)
    (fun xs h st q => jm [2, 2, 0, 1, 1, 1, 0, 0] _ (fun v0 v1 v3 v4 v5 q => apS_ok [] _ (fun st => Ev (d + 3) none mX11_dayOn (0, 0) 35 [.ref v0, .ref v1, .null, .int v3, .int v4, .int v5, .null, .null] st h (QV z)) st (fun q => uX11_dayOn_35 FU v0 v1 v3 v4 v5 h q) q) q)
    (fun _ _ _ q => nos q)
    kRV_ok (Or.inr rfl) (by decide +kernel) (by decide +kernel) hf
def wX11_dayOn_18 : List En := [(.aload_n 0, 0, 0, 0), (.getfield 44, 202, 11, 27), (.iload 5, 0, 0, 0), (.iconst 0, 0, 0, 0), (.iastore, 0, 0, 0), (.iinc 5 1, 0, 0, 0), (.goto (-17), 12, 0, 0)]
def fX11_dayOn_18 (k12 : Nat → Nat → Int32 → Int32 → Int32 → aH → Option (aH)) (v0 : Nat) (v1 : Nat) (v3 : Int32) (v4 : Int32) (v5 : Int32) (h : aH) : Option (aH) :=
  (gFR h 11 v0 27).bind fun t1 =>
  (aWI h t1 v5 (kI 0)).bind fun h2 =>
  k12 v0 v1 v3 v4 (v5 + kI 1) h2
theorem tX11_dayOn_18 {d : Nat} {z : aH} {k12 : Nat → Nat → Int32 → Int32 → Int32 → aH → Option (aH)} (hk12 : ∀ (v0 : Nat) (v1 : Nat) (v3 : Int32) (v4 : Int32) (v5 : Int32) (h : aH), k12 v0 v1 v3 v4 v5 h = some z → Ev (d + 3) none mX11_dayOn (0, 0) 12 [.ref v0, .ref v1, .null, .int v3, .int v4, .int v5, .null, .null] [] h (QV z)) (v0 : Nat) (v1 : Nat) (v3 : Int32) (v4 : Int32) (v5 : Int32) (h : aH) (hf : fX11_dayOn_18 k12 v0 v1 v3 v4 v5 h = some z) : Ev (d + 3) none mX11_dayOn (0, 0) 18 [.ref v0, .ref v1, .null, .int v3, .int v4, .int v5, .null, .null] [] h (QV z) := 
  go_ok (X := none) (blk := wX11_dayOn_18) (np := 32) (tt := 12) (kN := fun _ _ _ => none) (kT := fun xs h st => app [2, 2, 0, 1, 1, 1, 0, 0] (fun v0 v1 v3 v4 v5 => apS [] (k12 v0 v1 v3 v4 v5 h) st) xs) (kR := kRV)
    (fun _ _ _ q => nos q)
    (fun xs h st q => jm [2, 2, 0, 1, 1, 1, 0, 0] _ (fun v0 v1 v3 v4 v5 q => apS_ok [] _ (fun st => Ev (d + 3) none mX11_dayOn (0, 0) 12 [.ref v0, .ref v1, .null, .int v3, .int v4, .int v5, .null, .null] st h (QV z)) st (fun q => hk12 v0 v1 v3 v4 v5 h q) q) q)
    kRV_ok (Or.inr rfl) (by decide +kernel) (by decide +kernel) hf
def wX11_dayOn_12 : List En := [(.iload 5, 0, 0, 0), (.iconst 5, 0, 0, 0), (.if_icmp .ge 17, 32, 0, 0)]
def fX11_dayOn_12 (k12 : Nat → Nat → Int32 → Int32 → Int32 → aH → Option (aH)) (v0 : Nat) (v1 : Nat) (v3 : Int32) (v4 : Int32) (v5 : Int32) (h : aH) : Option (aH) :=
  if v5 < (kI 5) then fX11_dayOn_18 k12 v0 v1 v3 v4 v5 h else fX11_dayOn_32 v0 v1 v3 v4 h
theorem tX11_dayOn_12 {d : Nat} {z : aH} {k12 : Nat → Nat → Int32 → Int32 → Int32 → aH → Option (aH)} (hk12 : ∀ (v0 : Nat) (v1 : Nat) (v3 : Int32) (v4 : Int32) (v5 : Int32) (h : aH), k12 v0 v1 v3 v4 v5 h = some z → Ev (d + 3) none mX11_dayOn (0, 0) 12 [.ref v0, .ref v1, .null, .int v3, .int v4, .int v5, .null, .null] [] h (QV z)) (v0 : Nat) (v1 : Nat) (v3 : Int32) (v4 : Int32) (v5 : Int32) (h : aH) (hf : fX11_dayOn_12 k12 v0 v1 v3 v4 v5 h = some z) : Ev (d + 3) none mX11_dayOn (0, 0) 12 [.ref v0, .ref v1, .null, .int v3, .int v4, .int v5, .null, .null] [] h (QV z) := 
  go_ok (X := none) (blk := wX11_dayOn_12) (np := 18) (tt := 32) (kN := fun xs h st => app [2, 2, 0, 1, 1, 1, 0, 0] (fun v0 v1 v3 v4 v5 => apS [] (fX11_dayOn_18 k12 v0 v1 v3 v4 v5 h) st) xs) (kT := fun xs h st => app [2, 2, 0, 1, 1, 0, 0, 0] (fun v0 v1 v3 v4 => apS [] (fX11_dayOn_32 v0 v1 v3 v4 h) st) xs) (kR := kRV)
    (fun xs h st q => jm [2, 2, 0, 1, 1, 1, 0, 0] _ (fun v0 v1 v3 v4 v5 q => apS_ok [] _ (fun st => Ev (d + 3) none mX11_dayOn (0, 0) 18 [.ref v0, .ref v1, .null, .int v3, .int v4, .int v5, .null, .null] st h (QV z)) st (fun q => tX11_dayOn_18 hk12 v0 v1 v3 v4 v5 h q) q) q)
    (fun xs h st q => jm [2, 2, 0, 1, 1, 0, 0, 0] _ (fun v0 v1 v3 v4 q => apS_ok [] _ (fun st => Ev (d + 3) none mX11_dayOn (0, 0) 32 [.ref v0, .ref v1, .null, .int v3, .int v4, .null, .null, .null] st h (QV z)) st (fun q => tX11_dayOn_32 v0 v1 v3 v4 h q) q) q)
    kRV_ok (Or.inr rfl) (by decide +kernel) (by decide +kernel) hf
def lX11_dayOn_12 : Nat → Nat → Nat → Int32 → Int32 → Int32 → aH → Option (aH)
  | 0, _, _, _, _, _, _ => none
  | n + 1, v0, v1, v3, v4, v5, h => fX11_dayOn_12 (lX11_dayOn_12 n) v0 v1 v3 v4 v5 h
theorem uX11_dayOn_12 {d : Nat} {z : aH} : ∀ (n : Nat) (v0 : Nat) (v1 : Nat) (v3 : Int32) (v4 : Int32) (v5 : Int32) (h : aH), lX11_dayOn_12 n v0 v1 v3 v4 v5 h = some z → Ev (d + 3) none mX11_dayOn (0, 0) 12 [.ref v0, .ref v1, .null, .int v3, .int v4, .int v5, .null, .null] [] h (QV z) := by
  intro n
  induction n with
  | zero => intro _ _ _ _ _ _ q; exact nos (show (none : Option (aH)) = some z from q)
  | succ n ih => intro v0 v1 v3 v4 v5 h q; exact tX11_dayOn_12 ih v0 v1 v3 v4 v5 h q
def wX11_dayOn_5 : List En := [(.iload_n 2, 0, 0, 0), (.ior, 0, 0, 0), (.istore 4, 0, 0, 0), (.iconst 0, 0, 0, 0), (.istore 5, 0, 0, 0)]
def fX11_dayOn_5 (v0 : Nat) (v1 : Nat) (v2 : Int32) (v3 : Int32) (s0 : Int32) (h : aH) : Option (aH) :=
  lX11_dayOn_12 FU v0 v1 v3 (s0 ||| v2) (kI 0) h
theorem tX11_dayOn_5 {d : Nat} {z : aH} (v0 : Nat) (v1 : Nat) (v2 : Int32) (v3 : Int32) (s0 : Int32) (h : aH) (hf : fX11_dayOn_5 v0 v1 v2 v3 s0 h = some z) : Ev (d + 3) none mX11_dayOn (0, 0) 5 [.ref v0, .ref v1, .int v2, .int v3, .null, .null, .null, .null] [.int s0] h (QV z) := 
  go_ok (X := none) (blk := wX11_dayOn_5) (np := 12) (tt := 0) (kN := fun xs h st => app [2, 2, 0, 1, 1, 1, 0, 0] (fun v0 v1 v3 v4 v5 => apS [] (lX11_dayOn_12 FU v0 v1 v3 v4 v5 h) st) xs) (kT := fun _ _ _ => none) (kR := kRV)
    (fun xs h st q => jm [2, 2, 0, 1, 1, 1, 0, 0] _ (fun v0 v1 v3 v4 v5 q => apS_ok [] _ (fun st => Ev (d + 3) none mX11_dayOn (0, 0) 12 [.ref v0, .ref v1, .null, .int v3, .int v4, .int v5, .null, .null] st h (QV z)) st (fun q => uX11_dayOn_12 FU v0 v1 v3 v4 v5 h q) q) q)
    (fun _ _ _ q => nos q)
    kRV_ok (Or.inr rfl) (by decide +kernel) (by decide +kernel) hf
theorem kqX11_dayOn_2 : okC mX11_dayOn 2 (.invokevirtual 260) 229 246 0 1 = true := by decide +kernel
def fX11_dayOn_2 (v0 : Nat) (v1 : Nat) (v2 : Int32) (v3 : Int32) (s0 : Nat) (s1 : Nat) (h : aH) : Option (aH) :=
  (isO h 11 s1).bind fun _ =>
  (gX11_fastersOf s1 s0 h).bind fun r =>
  fX11_dayOn_5 v0 v1 v2 v3 r.1 r.2
theorem tX11_dayOn_2 {d : Nat} {z : aH} (v0 : Nat) (v1 : Nat) (v2 : Int32) (v3 : Int32) (s0 : Nat) (s1 : Nat) (h : aH) (hf : fX11_dayOn_2 v0 v1 v2 v3 s0 s1 h = some z) : Ev (d + 3) none mX11_dayOn (0, 0) 2 [.ref v0, .ref v1, .int v2, .int v3, .null, .null, .null, .null] [.ref s0, .ref s1] h (QV z) := by
  obtain ⟨_, h1, hf⟩ := bnd hf
  obtain ⟨fs, ho⟩ := isO_ok h1
  obtain ⟨r, h2, hf⟩ := bnd hf
  refine ev_V kqX11_dayOn_2 jX11_fastersOf (zX11_fastersOf (d := d + 2) h2) ho rfl rfl (Nat.le_of_ble_eq_true rfl) rfl (as := [.ref s0]) (rest := []) rfl (Nat.le_of_ble_eq_true rfl) (fun _ _ hq => ?_)
  obtain ⟨rfl, rfl⟩ := hq
  exact jm [2, 2, 1, 1, 0, 0, 0, 0] (fun v0 v1 v2 v3 => fX11_dayOn_5 v0 v1 v2 v3 r.1 r.2) (fun v0 v1 v2 v3 q => tX11_dayOn_5 v0 v1 v2 v3 r.1 r.2 q) hf
def wX11_dayOn_0 : List En := [(.aload_n 0, 0, 0, 0), (.aload_n 1, 0, 0, 0)]
def fX11_dayOn_0 (v0 : Nat) (v1 : Nat) (v2 : Int32) (v3 : Int32) (h : aH) : Option (aH) :=
  fX11_dayOn_2 v0 v1 v2 v3 v1 v0 h
theorem tX11_dayOn_0 {d : Nat} {z : aH} (v0 : Nat) (v1 : Nat) (v2 : Int32) (v3 : Int32) (h : aH) (hf : fX11_dayOn_0 v0 v1 v2 v3 h = some z) : Ev (d + 3) none mX11_dayOn (0, 0) 0 [.ref v0, .ref v1, .int v2, .int v3, .null, .null, .null, .null] [] h (QV z) := 
  go_ok (X := none) (blk := wX11_dayOn_0) (np := 2) (tt := 0) (kN := fun xs h st => app [2, 2, 1, 1, 0, 0, 0, 0] (fun v0 v1 v2 v3 => apS [2, 2] (fun s0 s1 => fX11_dayOn_2 v0 v1 v2 v3 s0 s1 h) st) xs) (kT := fun _ _ _ => none) (kR := kRV)
    (fun xs h st q => jm [2, 2, 1, 1, 0, 0, 0, 0] _ (fun v0 v1 v2 v3 q => apS_ok [2, 2] _ (fun st => Ev (d + 3) none mX11_dayOn (0, 0) 2 [.ref v0, .ref v1, .int v2, .int v3, .null, .null, .null, .null] st h (QV z)) st (fun s0 s1 q => tX11_dayOn_2 v0 v1 v2 v3 s0 s1 h q) q) q)
    (fun _ _ _ q => nos q)
    kRV_ok (Or.inr rfl) (by decide +kernel) (by decide +kernel) hf
def gX11_dayOn (v0 : Nat) (v1 : Nat) (v2 : Int32) (v3 : Int32) (h : aH) : Option (aH) := fX11_dayOn_0 v0 v1 v2 v3 h
theorem zX11_dayOn {d : Nat} {z : aH} {v0 : Nat} {v1 : Nat} {v2 : Int32} {v3 : Int32} {h : aH} (q : gX11_dayOn v0 v1 v2 v3 h = some z) : CT (d + 3) mX11_dayOn (0, 0) [.ref v0, .ref v1, .int v2, .int v3] h (QV z) :=
  ct_ev (by decide +kernel) (Nat.le_of_ble_eq_true rfl) QV_r (jm [2, 2, 1, 1, 0, 0, 0, 0] (fun v0 v1 v2 v3 => fX11_dayOn_0 v0 v1 v2 v3 h) (fun v0 v1 v2 v3 q => tX11_dayOn_0 v0 v1 v2 v3 h q) q)
end
