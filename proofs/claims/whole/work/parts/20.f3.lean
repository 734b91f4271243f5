noncomputable section
def wX11_fastWhy_15 : List En := [(.ireturn, 0, 0, 0)]
def fX11_fastWhy_15 (s0 : Int32) (h : aH) : Option (Int32 × aH) :=
  some (s0, h)
theorem tX11_fastWhy_15 {d : Nat} {z : Int32 × aH} (s0 : Int32) (h : aH) (hf : fX11_fastWhy_15 s0 h = some z) : Ev (d + 2) none mX11_fastWhy (0, 0) 15 [.null, .null, .null] [.int s0] h (QI z) := 
  go_ok (X := none) (blk := wX11_fastWhy_15) (np := 16) (tt := 0) (kN := fun _ _ _ => none) (kT := fun _ _ _ => none) (kR := kRI)
    (fun _ _ _ q => nos q)
    (fun _ _ _ q => nos q)
    kRI_ok (Or.inr rfl) (by decide +kernel) (by decide +kernel) hf
theorem kqX11_fastWhy_12 : okC mX11_fastWhy 12 (.invokevirtual 241) 235 252 0 2 = true := by decide +kernel
def fX11_fastWhy_12 (s0 : Int32) (s1 : Int32) (s2 : Nat) (h : aH) : Option (Int32 × aH) :=
  (isO h 11 s2).bind fun _ =>
  (gX11_why s2 s1 s0 h).bind fun r =>
  fX11_fastWhy_15 r.1 r.2
theorem tX11_fastWhy_12 {d : Nat} {z : Int32 × aH} (s0 : Int32) (s1 : Int32) (s2 : Nat) (h : aH) (hf : fX11_fastWhy_12 s0 s1 s2 h = some z) : Ev (d + 2) none mX11_fastWhy (0, 0) 12 [.null, .null, .null] [.int s0, .int s1, .ref s2] h (QI z) := by
  obtain ⟨_, h1, hf⟩ := bnd hf
  obtain ⟨fs, ho⟩ := isO_ok h1
  obtain ⟨r, h2, hf⟩ := bnd hf
  refine ev_V kqX11_fastWhy_12 jX11_why (zX11_why (d := d + 1) h2) ho rfl rfl (Nat.le_of_ble_eq_true rfl) rfl (as := [.int s1, .int s0]) (rest := []) rfl (Nat.le_of_ble_eq_true rfl) (fun _ _ hq => ?_)
  obtain ⟨rfl, rfl⟩ := hq
  exact jm [0, 0, 0] (fX11_fastWhy_15 r.1 r.2) (fun q => tX11_fastWhy_15 r.1 r.2 q) hf
theorem kqX11_fastWhy_9 : okC mX11_fastWhy 9 (.invokestatic 140) 182 197 1 3 = true := by decide +kernel
def fX11_fastWhy_9 (s0 : Int32) (s1 : Int32) (s2 : Int32) (s3 : Int32) (s4 : Nat) (h : aH) : Option (Int32 × aH) :=
  (gX11_in s2 s1 s0 h).bind fun r =>
  fX11_fastWhy_12 r.1 s3 s4 r.2
theorem tX11_fastWhy_9 {d : Nat} {z : Int32 × aH} (s0 : Int32) (s1 : Int32) (s2 : Int32) (s3 : Int32) (s4 : Nat) (h : aH) (hf : fX11_fastWhy_9 s0 s1 s2 s3 s4 h = some z) : Ev (d + 2) none mX11_fastWhy (0, 0) 9 [.null, .null, .null] [.int s0, .int s1, .int s2, .int s3, .ref s4] h (QI z) := by
  obtain ⟨r, h2, hf⟩ := bnd hf
  refine ev_S kqX11_fastWhy_9 jX11_in (zX11_in (d := d + 1) h2) rfl (Nat.le_of_ble_eq_true rfl) rfl (as := [.int s2, .int s1, .int s0]) (rest := [.int s3, .ref s4]) rfl (Nat.le_of_ble_eq_true rfl) (fun _ _ hq => ?_)
  obtain ⟨-, rfl, rfl⟩ := hq
  exact jm [0, 0, 0] (fX11_fastWhy_12 r.1 s3 s4 r.2) (fun q => tX11_fastWhy_12 r.1 s3 s4 r.2 q) hf
def wX11_fastWhy_6 : List En := [(.iload_n 2, 0, 0, 0), (.iconst 1, 0, 0, 0), (.iconst 3, 0, 0, 0)]
def fX11_fastWhy_6 (v2 : Int32) (s0 : Int32) (s1 : Nat) (h : aH) : Option (Int32 × aH) :=
  fX11_fastWhy_9 (kI 3) (kI 1) v2 s0 s1 h
theorem tX11_fastWhy_6 {d : Nat} {z : Int32 × aH} (v2 : Int32) (s0 : Int32) (s1 : Nat) (h : aH) (hf : fX11_fastWhy_6 v2 s0 s1 h = some z) : Ev (d + 2) none mX11_fastWhy (0, 0) 6 [.null, .null, .int v2] [.int s0, .ref s1] h (QI z) := 
  go_ok (X := none) (blk := wX11_fastWhy_6) (np := 9) (tt := 0) (kN := fun xs h st => app [0, 0, 0] (apS [1, 1, 1, 1, 2] (fun s0 s1 s2 s3 s4 => fX11_fastWhy_9 s0 s1 s2 s3 s4 h) st) xs) (kT := fun _ _ _ => none) (kR := kRI)
    (fun xs h st q => jm [0, 0, 0] _ (fun q => apS_ok [1, 1, 1, 1, 2] _ (fun st => Ev (d + 2) none mX11_fastWhy (0, 0) 9 [.null, .null, .null] st h (QI z)) st (fun s0 s1 s2 s3 s4 q => tX11_fastWhy_9 s0 s1 s2 s3 s4 h q) q) q)
    (fun _ _ _ q => nos q)
    kRI_ok (Or.inr rfl) (by decide +kernel) (by decide +kernel) hf
theorem kqX11_fastWhy_3 : okC mX11_fastWhy 3 (.invokevirtual 288) 216 233 0 1 = true := by decide +kernel
def fX11_fastWhy_3 (v2 : Int32) (s0 : Int32) (s1 : Nat) (s2 : Nat) (h : aH) : Option (Int32 × aH) :=
  (isO h 11 s1).bind fun _ =>
  (gX11_isName s1 s0 h).bind fun r =>
  fX11_fastWhy_6 v2 r.1 s2 r.2
theorem tX11_fastWhy_3 {d : Nat} {z : Int32 × aH} (v2 : Int32) (s0 : Int32) (s1 : Nat) (s2 : Nat) (h : aH) (hf : fX11_fastWhy_3 v2 s0 s1 s2 h = some z) : Ev (d + 2) none mX11_fastWhy (0, 0) 3 [.null, .null, .int v2] [.int s0, .ref s1, .ref s2] h (QI z) := by
  obtain ⟨_, h1, hf⟩ := bnd hf
  obtain ⟨fs, ho⟩ := isO_ok h1
  obtain ⟨r, h2, hf⟩ := bnd hf
  refine ev_V kqX11_fastWhy_3 jX11_isName (zX11_isName (d := d + 0) h2) ho rfl rfl (Nat.le_of_ble_eq_true rfl) rfl (as := [.int s0]) (rest := [.ref s2]) rfl (Nat.le_of_ble_eq_true rfl) (fun _ _ hq => ?_)
  obtain ⟨-, rfl, rfl⟩ := hq
  exact jm [0, 0, 1] (fun v2 => fX11_fastWhy_6 v2 r.1 s2 r.2) (fun v2 q => tX11_fastWhy_6 v2 r.1 s2 r.2 q) hf
def wX11_fastWhy_0 : List En := [(.aload_n 0, 0, 0, 0), (.aload_n 0, 0, 0, 0), (.iload_n 1, 0, 0, 0)]
def fX11_fastWhy_0 (v0 : Nat) (v1 : Int32) (v2 : Int32) (h : aH) : Option (Int32 × aH) :=
  fX11_fastWhy_3 v2 v1 v0 v0 h
theorem tX11_fastWhy_0 {d : Nat} {z : Int32 × aH} (v0 : Nat) (v1 : Int32) (v2 : Int32) (h : aH) (hf : fX11_fastWhy_0 v0 v1 v2 h = some z) : Ev (d + 2) none mX11_fastWhy (0, 0) 0 [.ref v0, .int v1, .int v2] [] h (QI z) := 
  go_ok (X := none) (blk := wX11_fastWhy_0) (np := 3) (tt := 0) (kN := fun xs h st => app [0, 0, 1] (fun v2 => apS [1, 2, 2] (fun s0 s1 s2 => fX11_fastWhy_3 v2 s0 s1 s2 h) st) xs) (kT := fun _ _ _ => none) (kR := kRI)
    (fun xs h st q => jm [0, 0, 1] _ (fun v2 q => apS_ok [1, 2, 2] _ (fun st => Ev (d + 2) none mX11_fastWhy (0, 0) 3 [.null, .null, .int v2] st h (QI z)) st (fun s0 s1 s2 q => tX11_fastWhy_3 v2 s0 s1 s2 h q) q) q)
    (fun _ _ _ q => nos q)
    kRI_ok (Or.inr rfl) (by decide +kernel) (by decide +kernel) hf
def gX11_fastWhy (v0 : Nat) (v1 : Int32) (v2 : Int32) (h : aH) : Option (Int32 × aH) := fX11_fastWhy_0 v0 v1 v2 h
theorem zX11_fastWhy {d : Nat} {z : Int32 × aH} {v0 : Nat} {v1 : Int32} {v2 : Int32} {h : aH} (q : gX11_fastWhy v0 v1 v2 h = some z) : CT (d + 2) mX11_fastWhy (0, 0) [.ref v0, .int v1, .int v2] h (QI z) :=
  ct_ev (by decide +kernel) (Nat.le_of_ble_eq_true rfl) QI_r (jm [2, 1, 1] (fun v0 v1 v2 => fX11_fastWhy_0 v0 v1 v2 h) (fun v0 v1 v2 q => tX11_fastWhy_0 v0 v1 v2 h q) q)
def wX11_mayFast_141 : List En := [(.iconst 1, 0, 0, 0), (.ireturn, 0, 0, 0)]
def fX11_mayFast_141 (h : aH) : Option (Int32 × aH) :=
  if (kI 1) = 0 ∨ (kI 1) = 1 then some ((kI 1), h) else none
theorem tX11_mayFast_141 {d : Nat} {z : Int32 × aH} (h : aH) (hf : fX11_mayFast_141 h = some z) : Ev (d + 1) none mX11_mayFast (0, 0) 141 [.null, .null, .null, .null, .null, .null, .null] [] h (QZ z) := 
  go_ok (X := none) (blk := wX11_mayFast_141) (np := 143) (tt := 0) (kN := fun _ _ _ => none) (kT := fun _ _ _ => none) (kR := kRZ)
    (fun _ _ _ q => nos q)
    (fun _ _ _ q => nos q)
    kRZ_ok (Or.inr rfl) (by decide +kernel) (by decide +kernel) hf
def wX11_mayFast_133 : List En := [(.iconst 0, 0, 0, 0), (.ireturn, 0, 0, 0)]
def fX11_mayFast_133 (h : aH) : Option (Int32 × aH) :=
  if (kI 0) = 0 ∨ (kI 0) = 1 then some ((kI 0), h) else none
theorem tX11_mayFast_133 {d : Nat} {z : Int32 × aH} (h : aH) (hf : fX11_mayFast_133 h = some z) : Ev (d + 1) none mX11_mayFast (0, 0) 133 [.null, .null, .null, .null, .null, .null, .null] [] h (QZ z) := 
  go_ok (X := none) (blk := wX11_mayFast_133) (np := 135) (tt := 0) (kN := fun _ _ _ => none) (kT := fun _ _ _ => none) (kR := kRZ)
    (fun _ _ _ q => nos q)
    (fun _ _ _ q => nos q)
    kRZ_ok (Or.inr rfl) (by decide +kernel) (by decide +kernel) hf
def wX11_mayFast_135 : List En := [(.iinc 3 1, 0, 0, 0), (.goto (-136), 2, 0, 0)]
def fX11_mayFast_135 (k2 : Nat → Int32 → Int32 → Int32 → aH → Option (Int32 × aH)) (v0 : Nat) (v1 : Int32) (v2 : Int32) (v3 : Int32) (h : aH) : Option (Int32 × aH) :=
  k2 v0 v1 v2 (v3 + kI 1) h
theorem tX11_mayFast_135 {d : Nat} {z : Int32 × aH} {k2 : Nat → Int32 → Int32 → Int32 → aH → Option (Int32 × aH)} (hk2 : ∀ (v0 : Nat) (v1 : Int32) (v2 : Int32) (v3 : Int32) (h : aH), k2 v0 v1 v2 v3 h = some z → Ev (d + 1) none mX11_mayFast (0, 0) 2 [.ref v0, .int v1, .int v2, .int v3, .null, .null, .null] [] h (QZ z)) (v0 : Nat) (v1 : Int32) (v2 : Int32) (v3 : Int32) (h : aH) (hf : fX11_mayFast_135 k2 v0 v1 v2 v3 h = some z) : Ev (d + 1) none mX11_mayFast (0, 0) 135 [.ref v0, .int v1, .int v2, .int v3, .null, .null, .null] [] h (QZ z) := 
  go_ok (X := none) (blk := wX11_mayFast_135) (np := 141) (tt := 2) (kN := fun _ _ _ => none) (kT := fun xs h st => app [2, 1, 1, 1, 0, 0, 0] (fun v0 v1 v2 v3 => apS [] (k2 v0 v1 v2 v3 h) st) xs) (kR := kRZ)
    (fun _ _ _ q => nos q)
    (fun xs h st q => jm [2, 1, 1, 1, 0, 0, 0] _ (fun v0 v1 v2 v3 q => apS_ok [] _ (fun st => Ev (d + 1) none mX11_mayFast (0, 0) 2 [.ref v0, .int v1, .int v2, .int v3, .null, .null, .null] st h (QZ z)) st (fun q => hk2 v0 v1 v2 v3 h q) q) q)
    kRZ_ok (Or.inr rfl) (by decide +kernel) (by decide +kernel) hf
def wX11_mayFast_127 : List En := [(.iconst (-1), 0, 0, 0), (.ixor, 0, 0, 0), (.iand, 0, 0, 0), (.ifCond .eq 5, 135, 0, 0)]
def fX11_mayFast_127 (k2 : Nat → Int32 → Int32 → Int32 → aH → Option (Int32 × aH)) (v0 : Nat) (v1 : Int32) (v2 : Int32) (v3 : Int32) (s0 : Int32) (s1 : Int32) (h : aH) : Option (Int32 × aH) :=
  if (s1 &&& (s0 ^^^ (kI (-1)))) = 0 then fX11_mayFast_135 k2 v0 v1 v2 v3 h else fX11_mayFast_133 h
theorem tX11_mayFast_127 {d : Nat} {z : Int32 × aH} {k2 : Nat → Int32 → Int32 → Int32 → aH → Option (Int32 × aH)} (hk2 : ∀ (v0 : Nat) (v1 : Int32) (v2 : Int32) (v3 : Int32) (h : aH), k2 v0 v1 v2 v3 h = some z → Ev (d + 1) none mX11_mayFast (0, 0) 2 [.ref v0, .int v1, .int v2, .int v3, .null, .null, .null] [] h (QZ z)) (v0 : Nat) (v1 : Int32) (v2 : Int32) (v3 : Int32) (s0 : Int32) (s1 : Int32) (h : aH) (hf : fX11_mayFast_127 k2 v0 v1 v2 v3 s0 s1 h = some z) : Ev (d + 1) none mX11_mayFast (0, 0) 127 [.ref v0, .int v1, .int v2, .int v3, .null, .null, .null] [.int s0, .int s1] h (QZ z) := 
  go_ok (X := none) (blk := wX11_mayFast_127) (np := 133) (tt := 135) (kN := fun xs h st => app [0, 0, 0, 0, 0, 0, 0] (apS [] (fX11_mayFast_133 h) st) xs) (kT := fun xs h st => app [2, 1, 1, 1, 0, 0, 0] (fun v0 v1 v2 v3 => apS [] (fX11_mayFast_135 k2 v0 v1 v2 v3 h) st) xs) (kR := kRZ)
    (fun xs h st q => jm [0, 0, 0, 0, 0, 0, 0] _ (fun q => apS_ok [] _ (fun st => Ev (d + 1) none mX11_mayFast (0, 0) 133 [.null, .null, .null, .null, .null, .null, .null] st h (QZ z)) st (fun q => tX11_mayFast_133 h q) q) q)
    (fun xs h st q => jm [2, 1, 1, 1, 0, 0, 0] _ (fun v0 v1 v2 v3 q => apS_ok [] _ (fun st => Ev (d + 1) none mX11_mayFast (0, 0) 135 [.ref v0, .int v1, .int v2, .int v3, .null, .null, .null] st h (QZ z)) st (fun q => tX11_mayFast_135 hk2 v0 v1 v2 v3 h q) q) q)
    kRZ_ok (Or.inr rfl) (by decide +kernel) (by decide +kernel) hf
theorem kqX11_mayFast_124 : okC mX11_mayFast 124 (.invokevirtual 304) 244 261 0 0 = true := by decide +kernel
def fX11_mayFast_124 (k2 : Nat → Int32 → Int32 → Int32 → aH → Option (Int32 × aH)) (v0 : Nat) (v1 : Int32) (v2 : Int32) (v3 : Int32) (s0 : Nat) (s1 : Int32) (h : aH) : Option (Int32 × aH) :=
  (isO h 11 s0).bind fun _ =>
  (gX11_everybody s0 h).bind fun r =>
  fX11_mayFast_127 k2 v0 v1 v2 v3 r.1 s1 r.2
theorem tX11_mayFast_124 {d : Nat} {z : Int32 × aH} {k2 : Nat → Int32 → Int32 → Int32 → aH → Option (Int32 × aH)} (hk2 : ∀ (v0 : Nat) (v1 : Int32) (v2 : Int32) (v3 : Int32) (h : aH), k2 v0 v1 v2 v3 h = some z → Ev (d + 1) none mX11_mayFast (0, 0) 2 [.ref v0, .int v1, .int v2, .int v3, .null, .null, .null] [] h (QZ z)) (v0 : Nat) (v1 : Int32) (v2 : Int32) (v3 : Int32) (s0 : Nat) (s1 : Int32) (h : aH) (hf : fX11_mayFast_124 k2 v0 v1 v2 v3 s0 s1 h = some z) : Ev (d + 1) none mX11_mayFast (0, 0) 124 [.ref v0, .int v1, .int v2, .int v3, .null, .null, .null] [.ref s0, .int s1] h (QZ z) := by
  obtain ⟨_, h1, hf⟩ := bnd hf
  obtain ⟨fs, ho⟩ := isO_ok h1
  obtain ⟨r, h2, hf⟩ := bnd hf
  refine ev_V kqX11_mayFast_124 jX11_everybody (zX11_everybody (d := d + 0) h2) ho rfl rfl (Nat.le_of_ble_eq_true rfl) rfl (as := []) (rest := [.int s1]) rfl (Nat.le_of_ble_eq_true rfl) (fun _ _ hq => ?_)
  obtain ⟨rfl, rfl⟩ := hq
  exact jm [2, 1, 1, 1, 0, 0, 0] (fun v0 v1 v2 v3 => fX11_mayFast_127 k2 v0 v1 v2 v3 r.1 s1 r.2) (fun v0 v1 v2 v3 q => tX11_mayFast_127 hk2 v0 v1 v2 v3 r.1 s1 r.2 q) hf
def wX11_mayFast_121 : List En := [(.iload 4, 0, 0, 0), (.aload_n 0, 0, 0, 0)]
def fX11_mayFast_121 (k2 : Nat → Int32 → Int32 → Int32 → aH → Option (Int32 × aH)) (v0 : Nat) (v1 : Int32) (v2 : Int32) (v3 : Int32) (v4 : Int32) (h : aH) : Option (Int32 × aH) :=
  fX11_mayFast_124 k2 v0 v1 v2 v3 v0 v4 h
theorem tX11_mayFast_121 {d : Nat} {z : Int32 × aH} {k2 : Nat → Int32 → Int32 → Int32 → aH → Option (Int32 × aH)} (hk2 : ∀ (v0 : Nat) (v1 : Int32) (v2 : Int32) (v3 : Int32) (h : aH), k2 v0 v1 v2 v3 h = some z → Ev (d + 1) none mX11_mayFast (0, 0) 2 [.ref v0, .int v1, .int v2, .int v3, .null, .null, .null] [] h (QZ z)) (v0 : Nat) (v1 : Int32) (v2 : Int32) (v3 : Int32) (v4 : Int32) (h : aH) (hf : fX11_mayFast_121 k2 v0 v1 v2 v3 v4 h = some z) : Ev (d + 1) none mX11_mayFast (0, 0) 121 [.ref v0, .int v1, .int v2, .int v3, .int v4, .null, .null] [] h (QZ z) := 
  go_ok (X := none) (blk := wX11_mayFast_121) (np := 124) (tt := 0) (kN := fun xs h st => app [2, 1, 1, 1, 0, 0, 0] (fun v0 v1 v2 v3 => apS [2, 1] (fun s0 s1 => fX11_mayFast_124 k2 v0 v1 v2 v3 s0 s1 h) st) xs) (kT := fun _ _ _ => none) (kR := kRZ)
    (fun xs h st q => jm [2, 1, 1, 1, 0, 0, 0] _ (fun v0 v1 v2 v3 q => apS_ok [2, 1] _ (fun st => Ev (d + 1) none mX11_mayFast (0, 0) 124 [.ref v0, .int v1, .int v2, .int v3, .null, .null, .null] st h (QZ z)) st (fun s0 s1 q => tX11_mayFast_124 hk2 v0 v1 v2 v3 s0 s1 h q) q) q)
    (fun _ _ _ q => nos q)
    kRZ_ok (Or.inr rfl) (by decide +kernel) (by decide +kernel) hf
def wX11_mayFast_105 : List En := [(.iload 4, 0, 0, 0), (.iload 5, 0, 0, 0), (.aload_n 0, 0, 0, 0), (.getfield 32, 194, 11, 19), (.bipush 10, 0, 0, 0), (.iaload, 0, 0, 0), (.ior, 0, 0, 0), (.iand, 0, 0, 0), (.ifCond .ne 15, 133, 0, 0)]
def fX11_mayFast_105 (k2 : Nat → Int32 → Int32 → Int32 → aH → Option (Int32 × aH)) (v0 : Nat) (v1 : Int32) (v2 : Int32) (v3 : Int32) (v4 : Int32) (v5 : Int32) (h : aH) : Option (Int32 × aH) :=
  (gFR h 11 v0 19).bind fun t1 =>
  (aRI (h[t1]?) (kB 10)).bind fun t2 =>
  if (v4 &&& (v5 ||| t2)) = 0 then fX11_mayFast_121 k2 v0 v1 v2 v3 v4 h else fX11_mayFast_133 h
theorem tX11_mayFast_105 {d : Nat} {z : Int32 × aH} {k2 : Nat → Int32 → Int32 → Int32 → aH → Option (Int32 × aH)} (hk2 : ∀ (v0 : Nat) (v1 : Int32) (v2 : Int32) (v3 : Int32) (h : aH), k2 v0 v1 v2 v3 h = some z → Ev (d + 1) none mX11_mayFast (0, 0) 2 [.ref v0, .int v1, .int v2, .int v3, .null, .null, .null] [] h (QZ z)) (v0 : Nat) (v1 : Int32) (v2 : Int32) (v3 : Int32) (v4 : Int32) (v5 : Int32) (h : aH) (hf : fX11_mayFast_105 k2 v0 v1 v2 v3 v4 v5 h = some z) : Ev (d + 1) none mX11_mayFast (0, 0) 105 [.ref v0, .int v1, .int v2, .int v3, .int v4, .int v5, .null] [] h (QZ z) := 
  go_ok (X := none) (blk := wX11_mayFast_105) (np := 121) (tt := 133) (kN := fun xs h st => app [2, 1, 1, 1, 1, 0, 0] (fun v0 v1 v2 v3 v4 => apS [] (fX11_mayFast_121 k2 v0 v1 v2 v3 v4 h) st) xs) (kT := fun xs h st => app [0, 0, 0, 0, 0, 0, 0] (apS [] (fX11_mayFast_133 h) st) xs) (kR := kRZ)
    (fun xs h st q => jm [2, 1, 1, 1, 1, 0, 0] _ (fun v0 v1 v2 v3 v4 q => apS_ok [] _ (fun st => Ev (d + 1) none mX11_mayFast (0, 0) 121 [.ref v0, .int v1, .int v2, .int v3, .int v4, .null, .null] st h (QZ z)) st (fun q => tX11_mayFast_121 hk2 v0 v1 v2 v3 v4 h q) q) q)
    (fun xs h st q => jm [0, 0, 0, 0, 0, 0, 0] _ (fun q => apS_ok [] _ (fun st => Ev (d + 1) none mX11_mayFast (0, 0) 133 [.null, .null, .null, .null, .null, .null, .null] st h (QZ z)) st (fun q => tX11_mayFast_133 h q) q) q)
    kRZ_ok (Or.inr rfl) (by decide +kernel) (by decide +kernel) hf
def wX11_mayFast_96 : List En := [(.ior, 0, 0, 0), (.istore 5, 0, 0, 0), (.iinc 6 1, 0, 0, 0), (.goto (-65), 37, 0, 0)]
def fX11_mayFast_96 (k2 : Nat → Int32 → Int32 → Int32 → aH → Option (Int32 × aH)) (k37 : Nat → Int32 → Int32 → Int32 → Int32 → Int32 → Int32 → aH → Option (Int32 × aH)) (v0 : Nat) (v1 : Int32) (v2 : Int32) (v3 : Int32) (v4 : Int32) (v6 : Int32) (s0 : Int32) (s1 : Int32) (h : aH) : Option (Int32 × aH) :=
  k37 v0 v1 v2 v3 v4 (s1 ||| s0) (v6 + kI 1) h
theorem tX11_mayFast_96 {d : Nat} {z : Int32 × aH} {k2 : Nat → Int32 → Int32 → Int32 → aH → Option (Int32 × aH)} {k37 : Nat → Int32 → Int32 → Int32 → Int32 → Int32 → Int32 → aH → Option (Int32 × aH)} (hk2 : ∀ (v0 : Nat) (v1 : Int32) (v2 : Int32) (v3 : Int32) (h : aH), k2 v0 v1 v2 v3 h = some z → Ev (d + 1) none mX11_mayFast (0, 0) 2 [.ref v0, .int v1, .int v2, .int v3, .null, .null, .null] [] h (QZ z)) (hk37 : ∀ (v0 : Nat) (v1 : Int32) (v2 : Int32) (v3 : Int32) (v4 : Int32) (v5 : Int32) (v6 : Int32) (h : aH), k37 v0 v1 v2 v3 v4 v5 v6 h = some z → Ev (d + 1) none mX11_mayFast (0, 0) 37 [.ref v0, .int v1, .int v2, .int v3, .int v4, .int v5, .int v6] [] h (QZ z)) (v0 : Nat) (v1 : Int32) (v2 : Int32) (v3 : Int32) (v4 : Int32) (v6 : Int32) (s0 : Int32) (s1 : Int32) (h : aH) (hf : fX11_mayFast_96 k2 k37 v0 v1 v2 v3 v4 v6 s0 s1 h = some z) : Ev (d + 1) none mX11_mayFast (0, 0) 96 [.ref v0, .int v1, .int v2, .int v3, .int v4, .null, .int v6] [.int s0, .int s1] h (QZ z) := 
  go_ok (X := none) (blk := wX11_mayFast_96) (np := 105) (tt := 37) (kN := fun _ _ _ => none) (kT := fun xs h st => app [2, 1, 1, 1, 1, 1, 1] (fun v0 v1 v2 v3 v4 v5 v6 => apS [] (k37 v0 v1 v2 v3 v4 v5 v6 h) st) xs) (kR := kRZ)
    (fun _ _ _ q => nos q)
    (fun xs h st q => jm [2, 1, 1, 1, 1, 1, 1] _ (fun v0 v1 v2 v3 v4 v5 v6 q => apS_ok [] _ (fun st => Ev (d + 1) none mX11_mayFast (0, 0) 37 [.ref v0, .int v1, .int v2, .int v3, .int v4, .int v5, .int v6] st h (QZ z)) st (fun q => hk37 v0 v1 v2 v3 v4 v5 v6 h q) q) q)
    kRZ_ok (Or.inr rfl) (by decide +kernel) (by decide +kernel) hf
def wX11_mayFast_95 : List En := [(.iconst 0, 0, 0, 0)]
def fX11_mayFast_95 (k2 : Nat → Int32 → Int32 → Int32 → aH → Option (Int32 × aH)) (k37 : Nat → Int32 → Int32 → Int32 → Int32 → Int32 → Int32 → aH → Option (Int32 × aH)) (v0 : Nat) (v1 : Int32) (v2 : Int32) (v3 : Int32) (v4 : Int32) (v6 : Int32) (s0 : Int32) (h : aH) : Option (Int32 × aH) :=
  fX11_mayFast_96 k2 k37 v0 v1 v2 v3 v4 v6 (kI 0) s0 h
theorem tX11_mayFast_95 {d : Nat} {z : Int32 × aH} {k2 : Nat → Int32 → Int32 → Int32 → aH → Option (Int32 × aH)} {k37 : Nat → Int32 → Int32 → Int32 → Int32 → Int32 → Int32 → aH → Option (Int32 × aH)} (hk2 : ∀ (v0 : Nat) (v1 : Int32) (v2 : Int32) (v3 : Int32) (h : aH), k2 v0 v1 v2 v3 h = some z → Ev (d + 1) none mX11_mayFast (0, 0) 2 [.ref v0, .int v1, .int v2, .int v3, .null, .null, .null] [] h (QZ z)) (hk37 : ∀ (v0 : Nat) (v1 : Int32) (v2 : Int32) (v3 : Int32) (v4 : Int32) (v5 : Int32) (v6 : Int32) (h : aH), k37 v0 v1 v2 v3 v4 v5 v6 h = some z → Ev (d + 1) none mX11_mayFast (0, 0) 37 [.ref v0, .int v1, .int v2, .int v3, .int v4, .int v5, .int v6] [] h (QZ z)) (v0 : Nat) (v1 : Int32) (v2 : Int32) (v3 : Int32) (v4 : Int32) (v6 : Int32) (s0 : Int32) (h : aH) (hf : fX11_mayFast_95 k2 k37 v0 v1 v2 v3 v4 v6 s0 h = some z) : Ev (d + 1) none mX11_mayFast (0, 0) 95 [.ref v0, .int v1, .int v2, .int v3, .int v4, .null, .int v6] [.int s0] h (QZ z) := 
  go_ok (X := none) (blk := wX11_mayFast_95) (np := 96) (tt := 0) (kN := fun xs h st => app [2, 1, 1, 1, 1, 0, 1] (fun v0 v1 v2 v3 v4 v6 => apS [1, 1] (fun s0 s1 => fX11_mayFast_96 k2 k37 v0 v1 v2 v3 v4 v6 s0 s1 h) st) xs) (kT := fun _ _ _ => none) (kR := kRZ)
    (fun xs h st q => jm [2, 1, 1, 1, 1, 0, 1] _ (fun v0 v1 v2 v3 v4 v6 q => apS_ok [1, 1] _ (fun st => Ev (d + 1) none mX11_mayFast (0, 0) 96 [.ref v0, .int v1, .int v2, .int v3, .int v4, .null, .int v6] st h (QZ z)) st (fun s0 s1 q => tX11_mayFast_96 hk2 hk37 v0 v1 v2 v3 v4 v6 s0 s1 h q) q) q)
    (fun _ _ _ q => nos q)
    kRZ_ok (Or.inr rfl) (by decide +kernel) (by decide +kernel) hf
def wX11_mayFast_78 : List En := [(.iconst 1, 0, 0, 0), (.aload_n 0, 0, 0, 0), (.getfield 20, 190, 11, 15), (.bipush 35, 0, 0, 0), (.iconst 2, 0, 0, 0), (.iload 6, 0, 0, 0), (.imul, 0, 0, 0), (.iadd, 0, 0, 0), (.iaload, 0, 0, 0), (.ishl, 0, 0, 0), (.goto 4, 96, 0, 0)]
def fX11_mayFast_78 (k2 : Nat → Int32 → Int32 → Int32 → aH → Option (Int32 × aH)) (k37 : Nat → Int32 → Int32 → Int32 → Int32 → Int32 → Int32 → aH → Option (Int32 × aH)) (v0 : Nat) (v1 : Int32) (v2 : Int32) (v3 : Int32) (v4 : Int32) (v6 : Int32) (s0 : Int32) (h : aH) : Option (Int32 × aH) :=
  (gFR h 11 v0 15).bind fun t1 =>
  (aRI (h[t1]?) ((kB 35) + ((kI 2) * v6))).bind fun t2 =>
  fX11_mayFast_96 k2 k37 v0 v1 v2 v3 v4 v6 ((kI 1) <<< (t2 &&& 31)) s0 h
theorem tX11_mayFast_78 {d : Nat} {z : Int32 × aH} {k2 : Nat → Int32 → Int32 → Int32 → aH → Option (Int32 × aH)} {k37 : Nat → Int32 → Int32 → Int32 → Int32 → Int32 → Int32 → aH → Option (Int32 × aH)} (hk2 : ∀ (v0 : Nat) (v1 : Int32) (v2 : Int32) (v3 : Int32) (h : aH), k2 v0 v1 v2 v3 h = some z → Ev (d + 1) none mX11_mayFast (0, 0) 2 [.ref v0, .int v1, .int v2, .int v3, .null, .null, .null] [] h (QZ z)) (hk37 : ∀ (v0 : Nat) (v1 : Int32) (v2 : Int32) (v3 : Int32) (v4 : Int32) (v5 : Int32) (v6 : Int32) (h : aH), k37 v0 v1 v2 v3 v4 v5 v6 h = some z → Ev (d + 1) none mX11_mayFast (0, 0) 37 [.ref v0, .int v1, .int v2, .int v3, .int v4, .int v5, .int v6] [] h (QZ z)) (v0 : Nat) (v1 : Int32) (v2 : Int32) (v3 : Int32) (v4 : Int32) (v6 : Int32) (s0 : Int32) (h : aH) (hf : fX11_mayFast_78 k2 k37 v0 v1 v2 v3 v4 v6 s0 h = some z) : Ev (d + 1) none mX11_mayFast (0, 0) 78 [.ref v0, .int v1, .int v2, .int v3, .int v4, .null, .int v6] [.int s0] h (QZ z) := 
  go_ok (X := none) (blk := wX11_mayFast_78) (np := 95) (tt := 96) (kN := fun _ _ _ => none) (kT := fun xs h st => app [2, 1, 1, 1, 1, 0, 1] (fun v0 v1 v2 v3 v4 v6 => apS [1, 1] (fun s0 s1 => fX11_mayFast_96 k2 k37 v0 v1 v2 v3 v4 v6 s0 s1 h) st) xs) (kR := kRZ)
    (fun _ _ _ q => nos q)
    (fun xs h st q => jm [2, 1, 1, 1, 1, 0, 1] _ (fun v0 v1 v2 v3 v4 v6 q => apS_ok [1, 1] _ (fun st => Ev (d + 1) none mX11_mayFast (0, 0) 96 [.ref v0, .int v1, .int v2, .int v3, .int v4, .null, .int v6] st h (QZ z)) st (fun s0 s1 q => tX11_mayFast_96 hk2 hk37 v0 v1 v2 v3 v4 v6 s0 s1 h q) q) q)
    kRZ_ok (Or.inr rfl) (by decide +kernel) (by decide +kernel) hf
def wX11_mayFast_48 : List En := [(.iload 5, 0, 0, 0), (.aload_n 0, 0, 0, 0), (.getfield 20, 190, 11, 15), (.bipush 35, 0, 0, 0), (.iconst 2, 0, 0, 0), (.iload 6, 0, 0, 0), (.imul, 0, 0, 0), (.iadd, 0, 0, 0), (.iconst 1, 0, 0, 0), (.iadd, 0, 0, 0), (.iaload, 0, 0, 0), (.aload_n 0, 0, 0, 0), (.getfield 32, 194, 11, 19), (.bipush 13, 0, 0, 0), (.iaload, 0, 0, 0), (.iload_n 3, 0, 0, 0), (.iadd, 0, 0, 0), (.iconst 1, 0, 0, 0), (.iadd, 0, 0, 0), (.if_icmp .ne 20, 95, 0, 0)]
def fX11_mayFast_48 (k2 : Nat → Int32 → Int32 → Int32 → aH → Option (Int32 × aH)) (k37 : Nat → Int32 → Int32 → Int32 → Int32 → Int32 → Int32 → aH → Option (Int32 × aH)) (v0 : Nat) (v1 : Int32) (v2 : Int32) (v3 : Int32) (v4 : Int32) (v5 : Int32) (v6 : Int32) (h : aH) : Option (Int32 × aH) :=
  (gFR h 11 v0 15).bind fun t1 =>
  (aRI (h[t1]?) (((kB 35) + ((kI 2) * v6)) + (kI 1))).bind fun t2 =>
  (gFR h 11 v0 19).bind fun t3 =>
  (aRI (h[t3]?) (kB 13)).bind fun t4 =>
  if t2 = ((t4 + v3) + (kI 1)) then fX11_mayFast_78 k2 k37 v0 v1 v2 v3 v4 v6 v5 h else fX11_mayFast_95 k2 k37 v0 v1 v2 v3 v4 v6 v5 h
theorem tX11_mayFast_48 {d : Nat} {z : Int32 × aH} {k2 : Nat → Int32 → Int32 → Int32 → aH → Option (Int32 × aH)} {k37 : Nat → Int32 → Int32 → Int32 → Int32 → Int32 → Int32 → aH → Option (Int32 × aH)} (hk2 : ∀ (v0 : Nat) (v1 : Int32) (v2 : Int32) (v3 : Int32) (h : aH), k2 v0 v1 v2 v3 h = some z → Ev (d + 1) none mX11_mayFast (0, 0) 2 [.ref v0, .int v1, .int v2, .int v3, .null, .null, .null] [] h (QZ z)) (hk37 : ∀ (v0 : Nat) (v1 : Int32) (v2 : Int32) (v3 : Int32) (v4 : Int32) (v5 : Int32) (v6 : Int32) (h : aH), k37 v0 v1 v2 v3 v4 v5 v6 h = some z → Ev (d + 1) none mX11_mayFast (0, 0) 37 [.ref v0, .int v1, .int v2, .int v3, .int v4, .int v5, .int v6] [] h (QZ z)) (v0 : Nat) (v1 : Int32) (v2 : Int32) (v3 : Int32) (v4 : Int32) (v5 : Int32) (v6 : Int32) (h : aH) (hf : fX11_mayFast_48 k2 k37 v0 v1 v2 v3 v4 v5 v6 h = some z) : Ev (d + 1) none mX11_mayFast (0, 0) 48 [.ref v0, .int v1, .int v2, .int v3, .int v4, .int v5, .int v6] [] h (QZ z) := 
  go_ok (X := none) (blk := wX11_mayFast_48) (np := 78) (tt := 95) (kN := fun xs h st => app [2, 1, 1, 1, 1, 0, 1] (fun v0 v1 v2 v3 v4 v6 => apS [1] (fun s0 => fX11_mayFast_78 k2 k37 v0 v1 v2 v3 v4 v6 s0 h) st) xs) (kT := fun xs h st => app [2, 1, 1, 1, 1, 0, 1] (fun v0 v1 v2 v3 v4 v6 => apS [1] (fun s0 => fX11_mayFast_95 k2 k37 v0 v1 v2 v3 v4 v6 s0 h) st) xs) (kR := kRZ)
    (fun xs h st q => jm [2, 1, 1, 1, 1, 0, 1] _ (fun v0 v1 v2 v3 v4 v6 q => apS_ok [1] _ (fun st => Ev (d + 1) none mX11_mayFast (0, 0) 78 [.ref v0, .int v1, .int v2, .int v3, .int v4, .null, .int v6] st h (QZ z)) st (fun s0 q => tX11_mayFast_78 hk2 hk37 v0 v1 v2 v3 v4 v6 s0 h q) q) q)
    (fun xs h st q => jm [2, 1, 1, 1, 1, 0, 1] _ (fun v0 v1 v2 v3 v4 v6 q => apS_ok [1] _ (fun st => Ev (d + 1) none mX11_mayFast (0, 0) 95 [.ref v0, .int v1, .int v2, .int v3, .int v4, .null, .int v6] st h (QZ z)) st (fun s0 q => tX11_mayFast_95 hk2 hk37 v0 v1 v2 v3 v4 v6 s0 h q) q) q)
    kRZ_ok (Or.inr rfl) (by decide +kernel) (by decide +kernel) hf
def wX11_mayFast_37 : List En := [(.iload 6, 0, 0, 0), (.aload_n 0, 0, 0, 0), (.getfield 20, 190, 11, 15), (.iconst 5, 0, 0, 0), (.iaload, 0, 0, 0), (.if_icmp .ge 60, 105, 0, 0)]
def fX11_mayFast_37 (k2 : Nat → Int32 → Int32 → Int32 → aH → Option (Int32 × aH)) (k37 : Nat → Int32 → Int32 → Int32 → Int32 → Int32 → Int32 → aH → Option (Int32 × aH)) (v0 : Nat) (v1 : Int32) (v2 : Int32) (v3 : Int32) (v4 : Int32) (v5 : Int32) (v6 : Int32) (h : aH) : Option (Int32 × aH) :=
  (gFR h 11 v0 15).bind fun t1 =>
  (aRI (h[t1]?) (kI 5)).bind fun t2 =>
  if v6 < t2 then fX11_mayFast_48 k2 k37 v0 v1 v2 v3 v4 v5 v6 h else fX11_mayFast_105 k2 v0 v1 v2 v3 v4 v5 h
theorem tX11_mayFast_37 {d : Nat} {z : Int32 × aH} {k2 : Nat → Int32 → Int32 → Int32 → aH → Option (Int32 × aH)} {k37 : Nat → Int32 → Int32 → Int32 → Int32 → Int32 → Int32 → aH → Option (Int32 × aH)} (hk2 : ∀ (v0 : Nat) (v1 : Int32) (v2 : Int32) (v3 : Int32) (h : aH), k2 v0 v1 v2 v3 h = some z → Ev (d + 1) none mX11_mayFast (0, 0) 2 [.ref v0, .int v1, .int v2, .int v3, .null, .null, .null] [] h (QZ z)) (hk37 : ∀ (v0 : Nat) (v1 : Int32) (v2 : Int32) (v3 : Int32) (v4 : Int32) (v5 : Int32) (v6 : Int32) (h : aH), k37 v0 v1 v2 v3 v4 v5 v6 h = some z → Ev (d + 1) none mX11_mayFast (0, 0) 37 [.ref v0, .int v1, .int v2, .int v3, .int v4, .int v5, .int v6] [] h (QZ z)) (v0 : Nat) (v1 : Int32) (v2 : Int32) (v3 : Int32) (v4 : Int32) (v5 : Int32) (v6 : Int32) (h : aH) (hf : fX11_mayFast_37 k2 k37 v0 v1 v2 v3 v4 v5 v6 h = some z) : Ev (d + 1) none mX11_mayFast (0, 0) 37 [.ref v0, .int v1, .int v2, .int v3, .int v4, .int v5, .int v6] [] h (QZ z) := 
  go_ok (X := none) (blk := wX11_mayFast_37) (np := 48) (tt := 105) (kN := fun xs h st => app [2, 1, 1, 1, 1, 1, 1] (fun v0 v1 v2 v3 v4 v5 v6 => apS [] (fX11_mayFast_48 k2 k37 v0 v1 v2 v3 v4 v5 v6 h) st) xs) (kT := fun xs h st => app [2, 1, 1, 1, 1, 1, 0] (fun v0 v1 v2 v3 v4 v5 => apS [] (fX11_mayFast_105 k2 v0 v1 v2 v3 v4 v5 h) st) xs) (kR := kRZ)
    (fun xs h st q => jm [2, 1, 1, 1, 1, 1, 1] _ (fun v0 v1 v2 v3 v4 v5 v6 q => apS_ok [] _ (fun st => Ev (d + 1) none mX11_mayFast (0, 0) 48 [.ref v0, .int v1, .int v2, .int v3, .int v4, .int v5, .int v6] st h (QZ z)) st (fun q => tX11_mayFast_48 hk2 hk37 v0 v1 v2 v3 v4 v5 v6 h q) q) q)
    (fun xs h st q => jm [2, 1, 1, 1, 1, 1, 0] _ (fun v0 v1 v2 v3 v4 v5 q => apS_ok [] _ (fun st => Ev (d + 1) none mX11_mayFast (0, 0) 105 [.ref v0, .int v1, .int v2, .int v3, .int v4, .int v5, .null] st h (QZ z)) st (fun q => tX11_mayFast_105 hk2 v0 v1 v2 v3 v4 v5 h q) q) q)
    kRZ_ok (Or.inr rfl) (by decide +kernel) (by decide +kernel) hf
def lX11_mayFast_37 (k2 : Nat → Int32 → Int32 → Int32 → aH → Option (Int32 × aH)) : Nat → Nat → Int32 → Int32 → Int32 → Int32 → Int32 → Int32 → aH → Option (Int32 × aH)
  | 0, _, _, _, _, _, _, _, _ => none
  | n + 1, v0, v1, v2, v3, v4, v5, v6, h => fX11_mayFast_37 k2 (lX11_mayFast_37 k2 n) v0 v1 v2 v3 v4 v5 v6 h
theorem uX11_mayFast_37 {d : Nat} {z : Int32 × aH} {k2 : Nat → Int32 → Int32 → Int32 → aH → Option (Int32 × aH)} (hk2 : ∀ (v0 : Nat) (v1 : Int32) (v2 : Int32) (v3 : Int32) (h : aH), k2 v0 v1 v2 v3 h = some z → Ev (d + 1) none mX11_mayFast (0, 0) 2 [.ref v0, .int v1, .int v2, .int v3, .null, .null, .null] [] h (QZ z)) : ∀ (n : Nat) (v0 : Nat) (v1 : Int32) (v2 : Int32) (v3 : Int32) (v4 : Int32) (v5 : Int32) (v6 : Int32) (h : aH), lX11_mayFast_37 k2 n v0 v1 v2 v3 v4 v5 v6 h = some z → Ev (d + 1) none mX11_mayFast (0, 0) 37 [.ref v0, .int v1, .int v2, .int v3, .int v4, .int v5, .int v6] [] h (QZ z) := by
  intro n
  induction n with
  | zero => intro _ _ _ _ _ _ _ _ q; exact nos (show (none : Option (Int32 × aH)) = some z from q)
  | succ n ih => intro v0 v1 v2 v3 v4 v5 v6 h q; exact tX11_mayFast_37 hk2 ih v0 v1 v2 v3 v4 v5 v6 h q
def wX11_mayFast_32 : List En := [(.istore 5, 0, 0, 0), (.iconst 0, 0, 0, 0), (.istore 6, 0, 0, 0)]
def fX11_mayFast_32 (k2 : Nat → Int32 → Int32 → Int32 → aH → Option (Int32 × aH)) (v0 : Nat) (v1 : Int32) (v2 : Int32) (v3 : Int32) (v4 : Int32) (s0 : Int32) (h : aH) : Option (Int32 × aH) :=
  lX11_mayFast_37 k2 FU v0 v1 v2 v3 v4 s0 (kI 0) h
theorem tX11_mayFast_32 {d : Nat} {z : Int32 × aH} {k2 : Nat → Int32 → Int32 → Int32 → aH → Option (Int32 × aH)} (hk2 : ∀ (v0 : Nat) (v1 : Int32) (v2 : Int32) (v3 : Int32) (h : aH), k2 v0 v1 v2 v3 h = some z → Ev (d + 1) none mX11_mayFast (0, 0) 2 [.ref v0, .int v1, .int v2, .int v3, .null, .null, .null] [] h (QZ z)) (v0 : Nat) (v1 : Int32) (v2 : Int32) (v3 : Int32) (v4 : Int32) (s0 : Int32) (h : aH) (hf : fX11_mayFast_32 k2 v0 v1 v2 v3 v4 s0 h = some z) : Ev (d + 1) none mX11_mayFast (0, 0) 32 [.ref v0, .int v1, .int v2, .int v3, .int v4, .null, .null] [.int s0] h (QZ z) := 
  go_ok (X := none) (blk := wX11_mayFast_32) (np := 37) (tt := 0) (kN := fun xs h st => app [2, 1, 1, 1, 1, 1, 1] (fun v0 v1 v2 v3 v4 v5 v6 => apS [] (lX11_mayFast_37 k2 FU v0 v1 v2 v3 v4 v5 v6 h) st) xs) (kT := fun _ _ _ => none) (kR := kRZ)
    (fun xs h st q => jm [2, 1, 1, 1, 1, 1, 1] _ (fun v0 v1 v2 v3 v4 v5 v6 q => apS_ok [] _ (fun st => Ev (d + 1) none mX11_mayFast (0, 0) 37 [.ref v0, .int v1, .int v2, .int v3, .int v4, .int v5, .int v6] st h (QZ z)) st (fun q => uX11_mayFast_37 hk2 FU v0 v1 v2 v3 v4 v5 v6 h q) q) q)
    (fun _ _ _ q => nos q)
    kRZ_ok (Or.inr rfl) (by decide +kernel) (by decide +kernel) hf
def wX11_mayFast_31 : List En := [(.iconst 0, 0, 0, 0)]
def fX11_mayFast_31 (k2 : Nat → Int32 → Int32 → Int32 → aH → Option (Int32 × aH)) (v0 : Nat) (v1 : Int32) (v2 : Int32) (v3 : Int32) (v4 : Int32) (h : aH) : Option (Int32 × aH) :=
  fX11_mayFast_32 k2 v0 v1 v2 v3 v4 (kI 0) h
theorem tX11_mayFast_31 {d : Nat} {z : Int32 × aH} {k2 : Nat → Int32 → Int32 → Int32 → aH → Option (Int32 × aH)} (hk2 : ∀ (v0 : Nat) (v1 : Int32) (v2 : Int32) (v3 : Int32) (h : aH), k2 v0 v1 v2 v3 h = some z → Ev (d + 1) none mX11_mayFast (0, 0) 2 [.ref v0, .int v1, .int v2, .int v3, .null, .null, .null] [] h (QZ z)) (v0 : Nat) (v1 : Int32) (v2 : Int32) (v3 : Int32) (v4 : Int32) (h : aH) (hf : fX11_mayFast_31 k2 v0 v1 v2 v3 v4 h = some z) : Ev (d + 1) none mX11_mayFast (0, 0) 31 [.ref v0, .int v1, .int v2, .int v3, .int v4, .null, .null] [] h (QZ z) := 
  go_ok (X := none) (blk := wX11_mayFast_31) (np := 32) (tt := 0) (kN := fun xs h st => app [2, 1, 1, 1, 1, 0, 0] (fun v0 v1 v2 v3 v4 => apS [1] (fun s0 => fX11_mayFast_32 k2 v0 v1 v2 v3 v4 s0 h) st) xs) (kT := fun _ _ _ => none) (kR := kRZ)
    (fun xs h st q => jm [2, 1, 1, 1, 1, 0, 0] _ (fun v0 v1 v2 v3 v4 q => apS_ok [1] _ (fun st => Ev (d + 1) none mX11_mayFast (0, 0) 32 [.ref v0, .int v1, .int v2, .int v3, .int v4, .null, .null] st h (QZ z)) st (fun s0 q => tX11_mayFast_32 hk2 v0 v1 v2 v3 v4 s0 h q) q) q)
    (fun _ _ _ q => nos q)
    kRZ_ok (Or.inr rfl) (by decide +kernel) (by decide +kernel) hf
def wX11_mayFast_21 : List En := [(.aload_n 0, 0, 0, 0), (.getfield 32, 194, 11, 19), (.bipush 11, 0, 0, 0), (.iaload, 0, 0, 0), (.goto 4, 32, 0, 0)]
def fX11_mayFast_21 (k2 : Nat → Int32 → Int32 → Int32 → aH → Option (Int32 × aH)) (v0 : Nat) (v1 : Int32) (v2 : Int32) (v3 : Int32) (v4 : Int32) (h : aH) : Option (Int32 × aH) :=
  (gFR h 11 v0 19).bind fun t1 =>
  (aRI (h[t1]?) (kB 11)).bind fun t2 =>
  fX11_mayFast_32 k2 v0 v1 v2 v3 v4 t2 h
theorem tX11_mayFast_21 {d : Nat} {z : Int32 × aH} {k2 : Nat → Int32 → Int32 → Int32 → aH → Option (Int32 × aH)} (hk2 : ∀ (v0 : Nat) (v1 : Int32) (v2 : Int32) (v3 : Int32) (h : aH), k2 v0 v1 v2 v3 h = some z → Ev (d + 1) none mX11_mayFast (0, 0) 2 [.ref v0, .int v1, .int v2, .int v3, .null, .null, .null] [] h (QZ z)) (v0 : Nat) (v1 : Int32) (v2 : Int32) (v3 : Int32) (v4 : Int32) (h : aH) (hf : fX11_mayFast_21 k2 v0 v1 v2 v3 v4 h = some z) : Ev (d + 1) none mX11_mayFast (0, 0) 21 [.ref v0, .int v1, .int v2, .int v3, .int v4, .null, .null] [] h (QZ z) := 
  go_ok (X := none) (blk := wX11_mayFast_21) (np := 31) (tt := 32) (kN := fun _ _ _ => none) (kT := fun xs h st => app [2, 1, 1, 1, 1, 0, 0] (fun v0 v1 v2 v3 v4 => apS [1] (fun s0 => fX11_mayFast_32 k2 v0 v1 v2 v3 v4 s0 h) st) xs) (kR := kRZ)
    (fun _ _ _ q => nos q)
    (fun xs h st q => jm [2, 1, 1, 1, 1, 0, 0] _ (fun v0 v1 v2 v3 v4 q => apS_ok [1] _ (fun st => Ev (d + 1) none mX11_mayFast (0, 0) 32 [.ref v0, .int v1, .int v2, .int v3, .int v4, .null, .null] st h (QZ z)) st (fun s0 q => tX11_mayFast_32 hk2 v0 v1 v2 v3 v4 s0 h q) q) q)
    kRZ_ok (Or.inr rfl) (by decide +kernel) (by decide +kernel) hf
def wX11_mayFast_7 : List En := [(.iload_n 1, 0, 0, 0), (.iconst 5, 0, 0, 0), (.iload_n 3, 0, 0, 0), (.imul, 0, 0, 0), (.ishr, 0, 0, 0), (.bipush 31, 0, 0, 0), (.iand, 0, 0, 0), (.istore 4, 0, 0, 0), (.iload_n 3, 0, 0, 0), (.ifCond .ne 13, 31, 0, 0)]
def fX11_mayFast_7 (k2 : Nat → Int32 → Int32 → Int32 → aH → Option (Int32 × aH)) (v0 : Nat) (v1 : Int32) (v2 : Int32) (v3 : Int32) (h : aH) : Option (Int32 × aH) :=
  if v3 = 0 then fX11_mayFast_21 k2 v0 v1 v2 v3 ((v1 >>> (((kI 5) * v3) &&& 31)) &&& (kB 31)) h else fX11_mayFast_31 k2 v0 v1 v2 v3 ((v1 >>> (((kI 5) * v3) &&& 31)) &&& (kB 31)) h
theorem tX11_mayFast_7 {d : Nat} {z : Int32 × aH} {k2 : Nat → Int32 → Int32 → Int32 → aH → Option (Int32 × aH)} (hk2 : ∀ (v0 : Nat) (v1 : Int32) (v2 : Int32) (v3 : Int32) (h : aH), k2 v0 v1 v2 v3 h = some z → Ev (d + 1) none mX11_mayFast (0, 0) 2 [.ref v0, .int v1, .int v2, .int v3, .null, .null, .null] [] h (QZ z)) (v0 : Nat) (v1 : Int32) (v2 : Int32) (v3 : Int32) (h : aH) (hf : fX11_mayFast_7 k2 v0 v1 v2 v3 h = some z) : Ev (d + 1) none mX11_mayFast (0, 0) 7 [.ref v0, .int v1, .int v2, .int v3, .null, .null, .null] [] h (QZ z) := 
  go_ok (X := none) (blk := wX11_mayFast_7) (np := 21) (tt := 31) (kN := fun xs h st => app [2, 1, 1, 1, 1, 0, 0] (fun v0 v1 v2 v3 v4 => apS [] (fX11_mayFast_21 k2 v0 v1 v2 v3 v4 h) st) xs) (kT := fun xs h st => app [2, 1, 1, 1, 1, 0, 0] (fun v0 v1 v2 v3 v4 => apS [] (fX11_mayFast_31 k2 v0 v1 v2 v3 v4 h) st) xs) (kR := kRZ)
    (fun xs h st q => jm [2, 1, 1, 1, 1, 0, 0] _ (fun v0 v1 v2 v3 v4 q => apS_ok [] _ (fun st => Ev (d + 1) none mX11_mayFast (0, 0) 21 [.ref v0, .int v1, .int v2, .int v3, .int v4, .null, .null] st h (QZ z)) st (fun q => tX11_mayFast_21 hk2 v0 v1 v2 v3 v4 h q) q) q)
    (fun xs h st q => jm [2, 1, 1, 1, 1, 0, 0] _ (fun v0 v1 v2 v3 v4 q => apS_ok [] _ (fun st => Ev (d + 1) none mX11_mayFast (0, 0) 31 [.ref v0, .int v1, .int v2, .int v3, .int v4, .null, .null] st h (QZ z)) st (fun q => tX11_mayFast_31 hk2 v0 v1 v2 v3 v4 h q) q) q)
    kRZ_ok (Or.inr rfl) (by decide +kernel) (by decide +kernel) hf
def wX11_mayFast_2 : List En := [(.iload_n 3, 0, 0, 0), (.iload_n 2, 0, 0, 0), (.if_icmp .ge 137, 141, 0, 0)]
def fX11_mayFast_2 (k2 : Nat → Int32 → Int32 → Int32 → aH → Option (Int32 × aH)) (v0 : Nat) (v1 : Int32) (v2 : Int32) (v3 : Int32) (h : aH) : Option (Int32 × aH) :=
  if v3 < v2 then fX11_mayFast_7 k2 v0 v1 v2 v3 h else fX11_mayFast_141 h
theorem tX11_mayFast_2 {d : Nat} {z : Int32 × aH} {k2 : Nat → Int32 → Int32 → Int32 → aH → Option (Int32 × aH)} (hk2 : ∀ (v0 : Nat) (v1 : Int32) (v2 : Int32) (v3 : Int32) (h : aH), k2 v0 v1 v2 v3 h = some z → Ev (d + 1) none mX11_mayFast (0, 0) 2 [.ref v0, .int v1, .int v2, .int v3, .null, .null, .null] [] h (QZ z)) (v0 : Nat) (v1 : Int32) (v2 : Int32) (v3 : Int32) (h : aH) (hf : fX11_mayFast_2 k2 v0 v1 v2 v3 h = some z) : Ev (d + 1) none mX11_mayFast (0, 0) 2 [.ref v0, .int v1, .int v2, .int v3, .null, .null, .null] [] h (QZ z) := 
  go_ok (X := none) (blk := wX11_mayFast_2) (np := 7) (tt := 141) (kN := fun xs h st => app [2, 1, 1, 1, 0, 0, 0] (fun v0 v1 v2 v3 => apS [] (fX11_mayFast_7 k2 v0 v1 v2 v3 h) st) xs) (kT := fun xs h st => app [0, 0, 0, 0, 0, 0, 0] (apS [] (fX11_mayFast_141 h) st) xs) (kR := kRZ)
    (fun xs h st q => jm [2, 1, 1, 1, 0, 0, 0] _ (fun v0 v1 v2 v3 q => apS_ok [] _ (fun st => Ev (d + 1) none mX11_mayFast (0, 0) 7 [.ref v0, .int v1, .int v2, .int v3, .null, .null, .null] st h (QZ z)) st (fun q => tX11_mayFast_7 hk2 v0 v1 v2 v3 h q) q) q)
    (fun xs h st q => jm [0, 0, 0, 0, 0, 0, 0] _ (fun q => apS_ok [] _ (fun st => Ev (d + 1) none mX11_mayFast (0, 0) 141 [.null, .null, .null, .null, .null, .null, .null] st h (QZ z)) st (fun q => tX11_mayFast_141 h q) q) q)
    kRZ_ok (Or.inr rfl) (by decide +kernel) (by decide +kernel) hf
def lX11_mayFast_2 : Nat → Nat → Int32 → Int32 → Int32 → aH → Option (Int32 × aH)
  | 0, _, _, _, _, _ => none
  | n + 1, v0, v1, v2, v3, h => fX11_mayFast_2 (lX11_mayFast_2 n) v0 v1 v2 v3 h
theorem uX11_mayFast_2 {d : Nat} {z : Int32 × aH} : ∀ (n : Nat) (v0 : Nat) (v1 : Int32) (v2 : Int32) (v3 : Int32) (h : aH), lX11_mayFast_2 n v0 v1 v2 v3 h = some z → Ev (d + 1) none mX11_mayFast (0, 0) 2 [.ref v0, .int v1, .int v2, .int v3, .null, .null, .null] [] h (QZ z) := by
  intro n
  induction n with
  | zero => intro _ _ _ _ _ q; exact nos (show (none : Option (Int32 × aH)) = some z from q)
  | succ n ih => intro v0 v1 v2 v3 h q; exact tX11_mayFast_2 ih v0 v1 v2 v3 h q
def wX11_mayFast_0 : List En := [(.iconst 0, 0, 0, 0), (.istore_n 3, 0, 0, 0)]
def fX11_mayFast_0 (v0 : Nat) (v1 : Int32) (v2 : Int32) (h : aH) : Option (Int32 × aH) :=
  lX11_mayFast_2 FU v0 v1 v2 (kI 0) h
theorem tX11_mayFast_0 {d : Nat} {z : Int32 × aH} (v0 : Nat) (v1 : Int32) (v2 : Int32) (h : aH) (hf : fX11_mayFast_0 v0 v1 v2 h = some z) : Ev (d + 1) none mX11_mayFast (0, 0) 0 [.ref v0, .int v1, .int v2, .null, .null, .null, .null] [] h (QZ z) := 
  go_ok (X := none) (blk := wX11_mayFast_0) (np := 2) (tt := 0) (kN := fun xs h st => app [2, 1, 1, 1, 0, 0, 0] (fun v0 v1 v2 v3 => apS [] (lX11_mayFast_2 FU v0 v1 v2 v3 h) st) xs) (kT := fun _ _ _ => none) (kR := kRZ)
    (fun xs h st q => jm [2, 1, 1, 1, 0, 0, 0] _ (fun v0 v1 v2 v3 q => apS_ok [] _ (fun st => Ev (d + 1) none mX11_mayFast (0, 0) 2 [.ref v0, .int v1, .int v2, .int v3, .null, .null, .null] st h (QZ z)) st (fun q => uX11_mayFast_2 FU v0 v1 v2 v3 h q) q) q)
    (fun _ _ _ q => nos q)
    kRZ_ok (Or.inr rfl) (by decide +kernel) (by decide +kernel) hf
def gX11_mayFast (v0 : Nat) (v1 : Int32) (v2 : Int32) (h : aH) : Option (Int32 × aH) := fX11_mayFast_0 v0 v1 v2 h
theorem zX11_mayFast {d : Nat} {z : Int32 × aH} {v0 : Nat} {v1 : Int32} {v2 : Int32} {h : aH} (q : gX11_mayFast v0 v1 v2 h = some z) : CT (d + 1) mX11_mayFast (0, 0) [.ref v0, .int v1, .int v2] h (QZ z) :=
  ct_ev (by decide +kernel) (Nat.le_of_ble_eq_true rfl) QZ_r (jm [2, 1, 1, 0, 0, 0, 0] (fun v0 v1 v2 => fX11_mayFast_0 v0 v1 v2 h) (fun v0 v1 v2 q => tX11_mayFast_0 v0 v1 v2 h q) q)
def wX11_ones_24 : List En := [(.iload_n 1, 0, 0, 0), (.ireturn, 0, 0, 0)]
def fX11_ones_24 (v1 : Int32) (h : aH) : Option (Int32 × aH) :=
  some (v1, h)
theorem tX11_ones_24 {d : Nat} {z : Int32 × aH} (v1 : Int32) (h : aH) (hf : fX11_ones_24 v1 h = some z) : Ev (d + 0) none mX11_ones (0, 0) 24 [.null, .int v1, .null] [] h (QI z) := 
  go_ok (X := none) (blk := wX11_ones_24) (np := 26) (tt := 0) (kN := fun _ _ _ => none) (kT := fun _ _ _ => none) (kR := kRI)
    (fun _ _ _ q => nos q)
    (fun _ _ _ q => nos q)
    kRI_ok (Or.inr rfl) (by decide +kernel) (by decide +kernel) hf
def wX11_ones_10 : List En := [(.iload_n 1, 0, 0, 0), (.iload_n 0, 0, 0, 0), (.iload_n 2, 0, 0, 0), (.ishr, 0, 0, 0), (.iconst 1, 0, 0, 0), (.iand, 0, 0, 0), (.iadd, 0, 0, 0), (.istore_n 1, 0, 0, 0), (.iinc 2 1, 0, 0, 0), (.goto (-17), 4, 0, 0)]
def fX11_ones_10 (k4 : Int32 → Int32 → Int32 → aH → Option (Int32 × aH)) (v0 : Int32) (v1 : Int32) (v2 : Int32) (h : aH) : Option (Int32 × aH) :=
  k4 v0 (v1 + ((v0 >>> (v2 &&& 31)) &&& (kI 1))) (v2 + kI 1) h
theorem tX11_ones_10 {d : Nat} {z : Int32 × aH} {k4 : Int32 → Int32 → Int32 → aH → Option (Int32 × aH)} (hk4 : ∀ (v0 : Int32) (v1 : Int32) (v2 : Int32) (h : aH), k4 v0 v1 v2 h = some z → Ev (d + 0) none mX11_ones (0, 0) 4 [.int v0, .int v1, .int v2] [] h (QI z)) (v0 : Int32) (v1 : Int32) (v2 : Int32) (h : aH) (hf : fX11_ones_10 k4 v0 v1 v2 h = some z) : Ev (d + 0) none mX11_ones (0, 0) 10 [.int v0, .int v1, .int v2] [] h (QI z) := 
  go_ok (X := none) (blk := wX11_ones_10) (np := 24) (tt := 4) (kN := fun _ _ _ => none) (kT := fun xs h st => app [1, 1, 1] (fun v0 v1 v2 => apS [] (k4 v0 v1 v2 h) st) xs) (kR := kRI)
    (fun _ _ _ q => nos q)
    (fun xs h st q => jm [1, 1, 1] _ (fun v0 v1 v2 q => apS_ok [] _ (fun st => Ev (d + 0) none mX11_ones (0, 0) 4 [.int v0, .int v1, .int v2] st h (QI z)) st (fun q => hk4 v0 v1 v2 h q) q) q)
    kRI_ok (Or.inr rfl) (by decide +kernel) (by decide +kernel) hf
def wX11_ones_4 : List En := [(.iload_n 2, 0, 0, 0), (.bipush 15, 0, 0, 0), (.if_icmp .ge 17, 24, 0, 0)]
def fX11_ones_4 (k4 : Int32 → Int32 → Int32 → aH → Option (Int32 × aH)) (v0 : Int32) (v1 : Int32) (v2 : Int32) (h : aH) : Option (Int32 × aH) :=
  if v2 < (kB 15) then fX11_ones_10 k4 v0 v1 v2 h else fX11_ones_24 v1 h
theorem tX11_ones_4 {d : Nat} {z : Int32 × aH} {k4 : Int32 → Int32 → Int32 → aH → Option (Int32 × aH)} (hk4 : ∀ (v0 : Int32) (v1 : Int32) (v2 : Int32) (h : aH), k4 v0 v1 v2 h = some z → Ev (d + 0) none mX11_ones (0, 0) 4 [.int v0, .int v1, .int v2] [] h (QI z)) (v0 : Int32) (v1 : Int32) (v2 : Int32) (h : aH) (hf : fX11_ones_4 k4 v0 v1 v2 h = some z) : Ev (d + 0) none mX11_ones (0, 0) 4 [.int v0, .int v1, .int v2] [] h (QI z) := 
  go_ok (X := none) (blk := wX11_ones_4) (np := 10) (tt := 24) (kN := fun xs h st => app [1, 1, 1] (fun v0 v1 v2 => apS [] (fX11_ones_10 k4 v0 v1 v2 h) st) xs) (kT := fun xs h st => app [0, 1, 0] (fun v1 => apS [] (fX11_ones_24 v1 h) st) xs) (kR := kRI)
    (fun xs h st q => jm [1, 1, 1] _ (fun v0 v1 v2 q => apS_ok [] _ (fun st => Ev (d + 0) none mX11_ones (0, 0) 10 [.int v0, .int v1, .int v2] st h (QI z)) st (fun q => tX11_ones_10 hk4 v0 v1 v2 h q) q) q)
    (fun xs h st q => jm [0, 1, 0] _ (fun v1 q => apS_ok [] _ (fun st => Ev (d + 0) none mX11_ones (0, 0) 24 [.null, .int v1, .null] st h (QI z)) st (fun q => tX11_ones_24 v1 h q) q) q)
    kRI_ok (Or.inr rfl) (by decide +kernel) (by decide +kernel) hf
def lX11_ones_4 : Nat → Int32 → Int32 → Int32 → aH → Option (Int32 × aH)
  | 0, _, _, _, _ => none
  | n + 1, v0, v1, v2, h => fX11_ones_4 (lX11_ones_4 n) v0 v1 v2 h
theorem uX11_ones_4 {d : Nat} {z : Int32 × aH} : ∀ (n : Nat) (v0 : Int32) (v1 : Int32) (v2 : Int32) (h : aH), lX11_ones_4 n v0 v1 v2 h = some z → Ev (d + 0) none mX11_ones (0, 0) 4 [.int v0, .int v1, .int v2] [] h (QI z) := by
  intro n
  induction n with
  | zero => intro _ _ _ _ q; exact nos (show (none : Option (Int32 × aH)) = some z from q)
  | succ n ih => intro v0 v1 v2 h q; exact tX11_ones_4 ih v0 v1 v2 h q
def wX11_ones_0 : List En := [(.iconst 0, 0, 0, 0), (.istore_n 1, 0, 0, 0), (.iconst 0, 0, 0, 0), (.istore_n 2, 0, 0, 0)]
def fX11_ones_0 (v0 : Int32) (h : aH) : Option (Int32 × aH) :=
  lX11_ones_4 FU v0 (kI 0) (kI 0) h
theorem tX11_ones_0 {d : Nat} {z : Int32 × aH} (v0 : Int32) (h : aH) (hf : fX11_ones_0 v0 h = some z) : Ev (d + 0) none mX11_ones (0, 0) 0 [.int v0, .null, .null] [] h (QI z) := 
  go_ok (X := none) (blk := wX11_ones_0) (np := 4) (tt := 0) (kN := fun xs h st => app [1, 1, 1] (fun v0 v1 v2 => apS [] (lX11_ones_4 FU v0 v1 v2 h) st) xs) (kT := fun _ _ _ => none) (kR := kRI)
    (fun xs h st q => jm [1, 1, 1] _ (fun v0 v1 v2 q => apS_ok [] _ (fun st => Ev (d + 0) none mX11_ones (0, 0) 4 [.int v0, .int v1, .int v2] st h (QI z)) st (fun q => uX11_ones_4 FU v0 v1 v2 h q) q) q)
    (fun _ _ _ q => nos q)
    kRI_ok (Or.inr rfl) (by decide +kernel) (by decide +kernel) hf
def gX11_ones (v0 : Int32) (h : aH) : Option (Int32 × aH) := fX11_ones_0 v0 h
theorem zX11_ones {d : Nat} {z : Int32 × aH} {v0 : Int32} {h : aH} (q : gX11_ones v0 h = some z) : CT (d + 0) mX11_ones (0, 0) [.int v0] h (QI z) :=
  ct_ev (by decide +kernel) (Nat.le_of_ble_eq_true rfl) QI_r (jm [1, 0, 0] (fun v0 => fX11_ones_0 v0 h) (fun v0 q => tX11_ones_0 v0 h q) q)
def wX11_fastsOf_117 : List En := [(.iload_n 3, 0, 0, 0), (.ireturn, 0, 0, 0)]
def fX11_fastsOf_117 (v3 : Int32) (h : aH) : Option (Int32 × aH) :=
  some (v3, h)
theorem tX11_fastsOf_117 {d : Nat} {z : Int32 × aH} (v3 : Int32) (h : aH) (hf : fX11_fastsOf_117 v3 h = some z) : Ev (d + 4) none mX11_fastsOf (0, 0) 117 [.null, .null, .null, .int v3, .null, .null] [] h (QI z) := 
  go_ok (X := none) (blk := wX11_fastsOf_117) (np := 119) (tt := 0) (kN := fun _ _ _ => none) (kT := fun _ _ _ => none) (kR := kRI)
    (fun _ _ _ q => nos q)
    (fun _ _ _ q => nos q)
    kRI_ok (Or.inr rfl) (by decide +kernel) (by decide +kernel) hf
def wX11_fastsOf_111 : List En := [(.iinc 4 1, 0, 0, 0), (.goto (-108), 6, 0, 0)]
def fX11_fastsOf_111 (k6 : Nat → Int32 → Int32 → Int32 → Int32 → aH → Option (Int32 × aH)) (v0 : Nat) (v1 : Int32) (v2 : Int32) (v3 : Int32) (v4 : Int32) (h : aH) : Option (Int32 × aH) :=
  k6 v0 v1 v2 v3 (v4 + kI 1) h
theorem tX11_fastsOf_111 {d : Nat} {z : Int32 × aH} {k6 : Nat → Int32 → Int32 → Int32 → Int32 → aH → Option (Int32 × aH)} (hk6 : ∀ (v0 : Nat) (v1 : Int32) (v2 : Int32) (v3 : Int32) (v4 : Int32) (h : aH), k6 v0 v1 v2 v3 v4 h = some z → Ev (d + 4) none mX11_fastsOf (0, 0) 6 [.ref v0, .int v1, .int v2, .int v3, .int v4, .null] [] h (QI z)) (v0 : Nat) (v1 : Int32) (v2 : Int32) (v3 : Int32) (v4 : Int32) (h : aH) (hf : fX11_fastsOf_111 k6 v0 v1 v2 v3 v4 h = some z) : Ev (d + 4) none mX11_fastsOf (0, 0) 111 [.ref v0, .int v1, .int v2, .int v3, .int v4, .null] [] h (QI z) := 
  go_ok (X := none) (blk := wX11_fastsOf_111) (np := 117) (tt := 6) (kN := fun _ _ _ => none) (kT := fun xs h st => app [2, 1, 1, 1, 1, 0] (fun v0 v1 v2 v3 v4 => apS [] (k6 v0 v1 v2 v3 v4 h) st) xs) (kR := kRI)
    (fun _ _ _ q => nos q)
    (fun xs h st q => jm [2, 1, 1, 1, 1, 0] _ (fun v0 v1 v2 v3 v4 q => apS_ok [] _ (fun st => Ev (d + 4) none mX11_fastsOf (0, 0) 6 [.ref v0, .int v1, .int v2, .int v3, .int v4, .null] st h (QI z)) st (fun q => hk6 v0 v1 v2 v3 v4 h q) q) q)
    kRI_ok (Or.inr rfl) (by decide +kernel) (by decide +kernel) hf
def wX11_fastsOf_108 : List En := [(.iload 4, 0, 0, 0), (.istore_n 3, 0, 0, 0)]
def fX11_fastsOf_108 (k6 : Nat → Int32 → Int32 → Int32 → Int32 → aH → Option (Int32 × aH)) (v0 : Nat) (v1 : Int32) (v2 : Int32) (v4 : Int32) (h : aH) : Option (Int32 × aH) :=
  fX11_fastsOf_111 k6 v0 v1 v2 v4 v4 h
theorem tX11_fastsOf_108 {d : Nat} {z : Int32 × aH} {k6 : Nat → Int32 → Int32 → Int32 → Int32 → aH → Option (Int32 × aH)} (hk6 : ∀ (v0 : Nat) (v1 : Int32) (v2 : Int32) (v3 : Int32) (v4 : Int32) (h : aH), k6 v0 v1 v2 v3 v4 h = some z → Ev (d + 4) none mX11_fastsOf (0, 0) 6 [.ref v0, .int v1, .int v2, .int v3, .int v4, .null] [] h (QI z)) (v0 : Nat) (v1 : Int32) (v2 : Int32) (v4 : Int32) (h : aH) (hf : fX11_fastsOf_108 k6 v0 v1 v2 v4 h = some z) : Ev (d + 4) none mX11_fastsOf (0, 0) 108 [.ref v0, .int v1, .int v2, .null, .int v4, .null] [] h (QI z) := 
  go_ok (X := none) (blk := wX11_fastsOf_108) (np := 111) (tt := 0) (kN := fun xs h st => app [2, 1, 1, 1, 1, 0] (fun v0 v1 v2 v3 v4 => apS [] (fX11_fastsOf_111 k6 v0 v1 v2 v3 v4 h) st) xs) (kT := fun _ _ _ => none) (kR := kRI)
    (fun xs h st q => jm [2, 1, 1, 1, 1, 0] _ (fun v0 v1 v2 v3 v4 q => apS_ok [] _ (fun st => Ev (d + 4) none mX11_fastsOf (0, 0) 111 [.ref v0, .int v1, .int v2, .int v3, .int v4, .null] st h (QI z)) st (fun q => tX11_fastsOf_111 hk6 v0 v1 v2 v3 v4 h q) q) q)
    (fun _ _ _ q => nos q)
    kRI_ok (Or.inr rfl) (by decide +kernel) (by decide +kernel) hf
def wX11_fastsOf_91 : List En := [(.aload_n 0, 0, 0, 0), (.getfield 35, 195, 11, 20), (.bipush 10, 0, 0, 0), (.iaload, 0, 0, 0), (.aload_n 0, 0, 0, 0), (.getfield 32, 194, 11, 19), (.bipush 10, 0, 0, 0), (.iaload, 0, 0, 0), (.if_icmp .ne 6, 111, 0, 0)]
def fX11_fastsOf_91 (k6 : Nat → Int32 → Int32 → Int32 → Int32 → aH → Option (Int32 × aH)) (v0 : Nat) (v1 : Int32) (v2 : Int32) (v3 : Int32) (v4 : Int32) (h : aH) : Option (Int32 × aH) :=
  (gFR h 11 v0 20).bind fun t1 =>
  (aRI (h[t1]?) (kB 10)).bind fun t2 =>
  (gFR h 11 v0 19).bind fun t3 =>
  (aRI (h[t3]?) (kB 10)).bind fun t4 =>
  if t2 = t4 then fX11_fastsOf_108 k6 v0 v1 v2 v4 h else fX11_fastsOf_111 k6 v0 v1 v2 v3 v4 h
theorem tX11_fastsOf_91 {d : Nat} {z : Int32 × aH} {k6 : Nat → Int32 → Int32 → Int32 → Int32 → aH → Option (Int32 × aH)} (hk6 : ∀ (v0 : Nat) (v1 : Int32) (v2 : Int32) (v3 : Int32) (v4 : Int32) (h : aH), k6 v0 v1 v2 v3 v4 h = some z → Ev (d + 4) none mX11_fastsOf (0, 0) 6 [.ref v0, .int v1, .int v2, .int v3, .int v4, .null] [] h (QI z)) (v0 : Nat) (v1 : Int32) (v2 : Int32) (v3 : Int32) (v4 : Int32) (h : aH) (hf : fX11_fastsOf_91 k6 v0 v1 v2 v3 v4 h = some z) : Ev (d + 4) none mX11_fastsOf (0, 0) 91 [.ref v0, .int v1, .int v2, .int v3, .int v4, .null] [] h (QI z) := 
  go_ok (X := none) (blk := wX11_fastsOf_91) (np := 108) (tt := 111) (kN := fun xs h st => app [2, 1, 1, 0, 1, 0] (fun v0 v1 v2 v4 => apS [] (fX11_fastsOf_108 k6 v0 v1 v2 v4 h) st) xs) (kT := fun xs h st => app [2, 1, 1, 1, 1, 0] (fun v0 v1 v2 v3 v4 => apS [] (fX11_fastsOf_111 k6 v0 v1 v2 v3 v4 h) st) xs) (kR := kRI)
    (fun xs h st q => jm [2, 1, 1, 0, 1, 0] _ (fun v0 v1 v2 v4 q => apS_ok [] _ (fun st => Ev (d + 4) none mX11_fastsOf (0, 0) 108 [.ref v0, .int v1, .int v2, .null, .int v4, .null] st h (QI z)) st (fun q => tX11_fastsOf_108 hk6 v0 v1 v2 v4 h q) q) q)
    (fun xs h st q => jm [2, 1, 1, 1, 1, 0] _ (fun v0 v1 v2 v3 v4 q => apS_ok [] _ (fun st => Ev (d + 4) none mX11_fastsOf (0, 0) 111 [.ref v0, .int v1, .int v2, .int v3, .int v4, .null] st h (QI z)) st (fun q => tX11_fastsOf_111 hk6 v0 v1 v2 v3 v4 h q) q) q)
    kRI_ok (Or.inr rfl) (by decide +kernel) (by decide +kernel) hf
def wX11_fastsOf_83 : List En := [(.aload_n 0, 0, 0, 0), (.getfield 257, 201, 11, 26), (.iload_n 1, 0, 0, 0), (.if_icmp .ne 23, 111, 0, 0)]
def fX11_fastsOf_83 (k6 : Nat → Int32 → Int32 → Int32 → Int32 → aH → Option (Int32 × aH)) (v0 : Nat) (v1 : Int32) (v2 : Int32) (v3 : Int32) (v4 : Int32) (h : aH) : Option (Int32 × aH) :=
  (gFI h 11 v0 26).bind fun t1 =>
  if t1 = v1 then fX11_fastsOf_91 k6 v0 v1 v2 v3 v4 h else fX11_fastsOf_111 k6 v0 v1 v2 v3 v4 h
theorem tX11_fastsOf_83 {d : Nat} {z : Int32 × aH} {k6 : Nat → Int32 → Int32 → Int32 → Int32 → aH → Option (Int32 × aH)} (hk6 : ∀ (v0 : Nat) (v1 : Int32) (v2 : Int32) (v3 : Int32) (v4 : Int32) (h : aH), k6 v0 v1 v2 v3 v4 h = some z → Ev (d + 4) none mX11_fastsOf (0, 0) 6 [.ref v0, .int v1, .int v2, .int v3, .int v4, .null] [] h (QI z)) (v0 : Nat) (v1 : Int32) (v2 : Int32) (v3 : Int32) (v4 : Int32) (h : aH) (hf : fX11_fastsOf_83 k6 v0 v1 v2 v3 v4 h = some z) : Ev (d + 4) none mX11_fastsOf (0, 0) 83 [.ref v0, .int v1, .int v2, .int v3, .int v4, .null] [] h (QI z) := 
  go_ok (X := none) (blk := wX11_fastsOf_83) (np := 91) (tt := 111) (kN := fun xs h st => app [2, 1, 1, 1, 1, 0] (fun v0 v1 v2 v3 v4 => apS [] (fX11_fastsOf_91 k6 v0 v1 v2 v3 v4 h) st) xs) (kT := fun xs h st => app [2, 1, 1, 1, 1, 0] (fun v0 v1 v2 v3 v4 => apS [] (fX11_fastsOf_111 k6 v0 v1 v2 v3 v4 h) st) xs) (kR := kRI)
    (fun xs h st q => jm [2, 1, 1, 1, 1, 0] _ (fun v0 v1 v2 v3 v4 q => apS_ok [] _ (fun st => Ev (d + 4) none mX11_fastsOf (0, 0) 91 [.ref v0, .int v1, .int v2, .int v3, .int v4, .null] st h (QI z)) st (fun q => tX11_fastsOf_91 hk6 v0 v1 v2 v3 v4 h q) q) q)
    (fun xs h st q => jm [2, 1, 1, 1, 1, 0] _ (fun v0 v1 v2 v3 v4 q => apS_ok [] _ (fun st => Ev (d + 4) none mX11_fastsOf (0, 0) 111 [.ref v0, .int v1, .int v2, .int v3, .int v4, .null] st h (QI z)) st (fun q => tX11_fastsOf_111 hk6 v0 v1 v2 v3 v4 h q) q) q)
    kRI_ok (Or.inr rfl) (by decide +kernel) (by decide +kernel) hf
def wX11_fastsOf_77 : List En := [(.iinc 5 1, 0, 0, 0), (.goto (-28), 52, 0, 0)]
def fX11_fastsOf_77 (k6 : Nat → Int32 → Int32 → Int32 → Int32 → aH → Option (Int32 × aH)) (k52 : Nat → Int32 → Int32 → Int32 → Int32 → Int32 → aH → Option (Int32 × aH)) (v0 : Nat) (v1 : Int32) (v2 : Int32) (v3 : Int32) (v4 : Int32) (v5 : Int32) (h : aH) : Option (Int32 × aH) :=
  k52 v0 v1 v2 v3 v4 (v5 + kI 1) h
theorem tX11_fastsOf_77 {d : Nat} {z : Int32 × aH} {k6 : Nat → Int32 → Int32 → Int32 → Int32 → aH → Option (Int32 × aH)} {k52 : Nat → Int32 → Int32 → Int32 → Int32 → Int32 → aH → Option (Int32 × aH)} (hk6 : ∀ (v0 : Nat) (v1 : Int32) (v2 : Int32) (v3 : Int32) (v4 : Int32) (h : aH), k6 v0 v1 v2 v3 v4 h = some z → Ev (d + 4) none mX11_fastsOf (0, 0) 6 [.ref v0, .int v1, .int v2, .int v3, .int v4, .null] [] h (QI z)) (hk52 : ∀ (v0 : Nat) (v1 : Int32) (v2 : Int32) (v3 : Int32) (v4 : Int32) (v5 : Int32) (h : aH), k52 v0 v1 v2 v3 v4 v5 h = some z → Ev (d + 4) none mX11_fastsOf (0, 0) 52 [.ref v0, .int v1, .int v2, .int v3, .int v4, .int v5] [] h (QI z)) (v0 : Nat) (v1 : Int32) (v2 : Int32) (v3 : Int32) (v4 : Int32) (v5 : Int32) (h : aH) (hf : fX11_fastsOf_77 k6 k52 v0 v1 v2 v3 v4 v5 h = some z) : Ev (d + 4) none mX11_fastsOf (0, 0) 77 [.ref v0, .int v1, .int v2, .int v3, .int v4, .int v5] [] h (QI z) := 
  go_ok (X := none) (blk := wX11_fastsOf_77) (np := 83) (tt := 52) (kN := fun _ _ _ => none) (kT := fun xs h st => app [2, 1, 1, 1, 1, 1] (fun v0 v1 v2 v3 v4 v5 => apS [] (k52 v0 v1 v2 v3 v4 v5 h) st) xs) (kR := kRI)
    (fun _ _ _ q => nos q)
    (fun xs h st q => jm [2, 1, 1, 1, 1, 1] _ (fun v0 v1 v2 v3 v4 v5 q => apS_ok [] _ (fun st => Ev (d + 4) none mX11_fastsOf (0, 0) 52 [.ref v0, .int v1, .int v2, .int v3, .int v4, .int v5] st h (QI z)) st (fun q => hk52 v0 v1 v2 v3 v4 v5 h q) q) q)
    kRI_ok (Or.inr rfl) (by decide +kernel) (by decide +kernel) hf
theorem kqX11_fastsOf_74 : okC mX11_fastsOf 74 (.invokevirtual 281) 228 245 0 3 = true := by decide +kernel
def fX11_fastsOf_74 (k6 : Nat → Int32 → Int32 → Int32 → Int32 → aH → Option (Int32 × aH)) (k52 : Nat → Int32 → Int32 → Int32 → Int32 → Int32 → aH → Option (Int32 × aH)) (v0 : Nat) (v1 : Int32) (v2 : Int32) (v3 : Int32) (v4 : Int32) (v5 : Int32) (s0 : Int32) (s1 : Int32) (s2 : Nat) (s3 : Nat) (h : aH) : Option (Int32 × aH) :=
  (isO h 11 s3).bind fun _ =>
  (gX11_dayOn s3 s2 s1 s0 h).bind fun r =>
  fX11_fastsOf_77 k6 k52 v0 v1 v2 v3 v4 v5 r
theorem tX11_fastsOf_74 {d : Nat} {z : Int32 × aH} {k6 : Nat → Int32 → Int32 → Int32 → Int32 → aH → Option (Int32 × aH)} {k52 : Nat → Int32 → Int32 → Int32 → Int32 → Int32 → aH → Option (Int32 × aH)} (hk6 : ∀ (v0 : Nat) (v1 : Int32) (v2 : Int32) (v3 : Int32) (v4 : Int32) (h : aH), k6 v0 v1 v2 v3 v4 h = some z → Ev (d + 4) none mX11_fastsOf (0, 0) 6 [.ref v0, .int v1, .int v2, .int v3, .int v4, .null] [] h (QI z)) (hk52 : ∀ (v0 : Nat) (v1 : Int32) (v2 : Int32) (v3 : Int32) (v4 : Int32) (v5 : Int32) (h : aH), k52 v0 v1 v2 v3 v4 v5 h = some z → Ev (d + 4) none mX11_fastsOf (0, 0) 52 [.ref v0, .int v1, .int v2, .int v3, .int v4, .int v5] [] h (QI z)) (v0 : Nat) (v1 : Int32) (v2 : Int32) (v3 : Int32) (v4 : Int32) (v5 : Int32) (s0 : Int32) (s1 : Int32) (s2 : Nat) (s3 : Nat) (h : aH) (hf : fX11_fastsOf_74 k6 k52 v0 v1 v2 v3 v4 v5 s0 s1 s2 s3 h = some z) : Ev (d + 4) none mX11_fastsOf (0, 0) 74 [.ref v0, .int v1, .int v2, .int v3, .int v4, .int v5] [.int s0, .int s1, .ref s2, .ref s3] h (QI z) := by
  obtain ⟨_, h1, hf⟩ := bnd hf
  obtain ⟨fs, ho⟩ := isO_ok h1
  obtain ⟨r, h2, hf⟩ := bnd hf
  refine ev_V kqX11_fastsOf_74 jX11_dayOn (zX11_dayOn (d := d + 0) h2) ho rfl rfl (Nat.le_of_ble_eq_true rfl) rfl (as := [.ref s2, .int s1, .int s0]) (rest := []) rfl (Nat.le_of_ble_eq_true rfl) (fun _ _ hq => ?_)
  obtain ⟨rfl, hh⟩ := hq
  rw [hh]
  exact jm [2, 1, 1, 1, 1, 1] (fun v0 v1 v2 v3 v4 v5 => fX11_fastsOf_77 k6 k52 v0 v1 v2 v3 v4 v5 r) (fun v0 v1 v2 v3 v4 v5 q => tX11_fastsOf_77 hk6 hk52 v0 v1 v2 v3 v4 v5 r q) hf
def wX11_fastsOf_58 : List En := [(.aload_n 0, 0, 0, 0), (.aload_n 0, 0, 0, 0), (.getfield 35, 195, 11, 20), (.iload 4, 0, 0, 0), (.iconst 5, 0, 0, 0), (.iload 5, 0, 0, 0), (.imul, 0, 0, 0), (.ishr, 0, 0, 0), (.bipush 31, 0, 0, 0), (.iand, 0, 0, 0), (.iconst 0, 0, 0, 0)]
def fX11_fastsOf_58 (k6 : Nat → Int32 → Int32 → Int32 → Int32 → aH → Option (Int32 × aH)) (k52 : Nat → Int32 → Int32 → Int32 → Int32 → Int32 → aH → Option (Int32 × aH)) (v0 : Nat) (v1 : Int32) (v2 : Int32) (v3 : Int32) (v4 : Int32) (v5 : Int32) (h : aH) : Option (Int32 × aH) :=
  (gFR h 11 v0 20).bind fun t1 =>
  fX11_fastsOf_74 k6 k52 v0 v1 v2 v3 v4 v5 (kI 0) ((v4 >>> (((kI 5) * v5) &&& 31)) &&& (kB 31)) t1 v0 h
theorem tX11_fastsOf_58 {d : Nat} {z : Int32 × aH} {k6 : Nat → Int32 → Int32 → Int32 → Int32 → aH → Option (Int32 × aH)} {k52 : Nat → Int32 → Int32 → Int32 → Int32 → Int32 → aH → Option (Int32 × aH)} (hk6 : ∀ (v0 : Nat) (v1 : Int32) (v2 : Int32) (v3 : Int32) (v4 : Int32) (h : aH), k6 v0 v1 v2 v3 v4 h = some z → Ev (d + 4) none mX11_fastsOf (0, 0) 6 [.ref v0, .int v1, .int v2, .int v3, .int v4, .null] [] h (QI z)) (hk52 : ∀ (v0 : Nat) (v1 : Int32) (v2 : Int32) (v3 : Int32) (v4 : Int32) (v5 : Int32) (h : aH), k52 v0 v1 v2 v3 v4 v5 h = some z → Ev (d + 4) none mX11_fastsOf (0, 0) 52 [.ref v0, .int v1, .int v2, .int v3, .int v4, .int v5] [] h (QI z)) (v0 : Nat) (v1 : Int32) (v2 : Int32) (v3 : Int32) (v4 : Int32) (v5 : Int32) (h : aH) (hf : fX11_fastsOf_58 k6 k52 v0 v1 v2 v3 v4 v5 h = some z) : Ev (d + 4) none mX11_fastsOf (0, 0) 58 [.ref v0, .int v1, .int v2, .int v3, .int v4, .int v5] [] h (QI z) := 
  go_ok (X := none) (blk := wX11_fastsOf_58) (np := 74) (tt := 0) (kN := fun xs h st => app [2, 1, 1, 1, 1, 1] (fun v0 v1 v2 v3 v4 v5 => apS [1, 1, 2, 2] (fun s0 s1 s2 s3 => fX11_fastsOf_74 k6 k52 v0 v1 v2 v3 v4 v5 s0 s1 s2 s3 h) st) xs) (kT := fun _ _ _ => none) (kR := kRI)
    (fun xs h st q => jm [2, 1, 1, 1, 1, 1] _ (fun v0 v1 v2 v3 v4 v5 q => apS_ok [1, 1, 2, 2] _ (fun st => Ev (d + 4) none mX11_fastsOf (0, 0) 74 [.ref v0, .int v1, .int v2, .int v3, .int v4, .int v5] st h (QI z)) st (fun s0 s1 s2 s3 q => tX11_fastsOf_74 hk6 hk52 v0 v1 v2 v3 v4 v5 s0 s1 s2 s3 h q) q) q)
    (fun _ _ _ q => nos q)
    kRI_ok (Or.inr rfl) (by decide +kernel) (by decide +kernel) hf
def wX11_fastsOf_52 : List En := [(.iload 5, 0, 0, 0), (.iload_n 2, 0, 0, 0), (.if_icmp .ge 28, 83, 0, 0)]
def fX11_fastsOf_52 (k6 : Nat → Int32 → Int32 → Int32 → Int32 → aH → Option (Int32 × aH)) (k52 : Nat → Int32 → Int32 → Int32 → Int32 → Int32 → aH → Option (Int32 × aH)) (v0 : Nat) (v1 : Int32) (v2 : Int32) (v3 : Int32) (v4 : Int32) (v5 : Int32) (h : aH) : Option (Int32 × aH) :=
  if v5 < v2 then fX11_fastsOf_58 k6 k52 v0 v1 v2 v3 v4 v5 h else fX11_fastsOf_83 k6 v0 v1 v2 v3 v4 h
theorem tX11_fastsOf_52 {d : Nat} {z : Int32 × aH} {k6 : Nat → Int32 → Int32 → Int32 → Int32 → aH → Option (Int32 × aH)} {k52 : Nat → Int32 → Int32 → Int32 → Int32 → Int32 → aH → Option (Int32 × aH)} (hk6 : ∀ (v0 : Nat) (v1 : Int32) (v2 : Int32) (v3 : Int32) (v4 : Int32) (h : aH), k6 v0 v1 v2 v3 v4 h = some z → Ev (d + 4) none mX11_fastsOf (0, 0) 6 [.ref v0, .int v1, .int v2, .int v3, .int v4, .null] [] h (QI z)) (hk52 : ∀ (v0 : Nat) (v1 : Int32) (v2 : Int32) (v3 : Int32) (v4 : Int32) (v5 : Int32) (h : aH), k52 v0 v1 v2 v3 v4 v5 h = some z → Ev (d + 4) none mX11_fastsOf (0, 0) 52 [.ref v0, .int v1, .int v2, .int v3, .int v4, .int v5] [] h (QI z)) (v0 : Nat) (v1 : Int32) (v2 : Int32) (v3 : Int32) (v4 : Int32) (v5 : Int32) (h : aH) (hf : fX11_fastsOf_52 k6 k52 v0 v1 v2 v3 v4 v5 h = some z) : Ev (d + 4) none mX11_fastsOf (0, 0) 52 [.ref v0, .int v1, .int v2, .int v3, .int v4, .int v5] [] h (QI z) := 
  go_ok (X := none) (blk := wX11_fastsOf_52) (np := 58) (tt := 83) (kN := fun xs h st => app [2, 1, 1, 1, 1, 1] (fun v0 v1 v2 v3 v4 v5 => apS [] (fX11_fastsOf_58 k6 k52 v0 v1 v2 v3 v4 v5 h) st) xs) (kT := fun xs h st => app [2, 1, 1, 1, 1, 0] (fun v0 v1 v2 v3 v4 => apS [] (fX11_fastsOf_83 k6 v0 v1 v2 v3 v4 h) st) xs) (kR := kRI)
    (fun xs h st q => jm [2, 1, 1, 1, 1, 1] _ (fun v0 v1 v2 v3 v4 v5 q => apS_ok [] _ (fun st => Ev (d + 4) none mX11_fastsOf (0, 0) 58 [.ref v0, .int v1, .int v2, .int v3, .int v4, .int v5] st h (QI z)) st (fun q => tX11_fastsOf_58 hk6 hk52 v0 v1 v2 v3 v4 v5 h q) q) q)
    (fun xs h st q => jm [2, 1, 1, 1, 1, 0] _ (fun v0 v1 v2 v3 v4 q => apS_ok [] _ (fun st => Ev (d + 4) none mX11_fastsOf (0, 0) 83 [.ref v0, .int v1, .int v2, .int v3, .int v4, .null] st h (QI z)) st (fun q => tX11_fastsOf_83 hk6 v0 v1 v2 v3 v4 h q) q) q)
    kRI_ok (Or.inr rfl) (by decide +kernel) (by decide +kernel) hf
def lX11_fastsOf_52 (k6 : Nat → Int32 → Int32 → Int32 → Int32 → aH → Option (Int32 × aH)) : Nat → Nat → Int32 → Int32 → Int32 → Int32 → Int32 → aH → Option (Int32 × aH)
  | 0, _, _, _, _, _, _, _ => none
  | n + 1, v0, v1, v2, v3, v4, v5, h => fX11_fastsOf_52 k6 (lX11_fastsOf_52 k6 n) v0 v1 v2 v3 v4 v5 h
theorem uX11_fastsOf_52 {d : Nat} {z : Int32 × aH} {k6 : Nat → Int32 → Int32 → Int32 → Int32 → aH → Option (Int32 × aH)} (hk6 : ∀ (v0 : Nat) (v1 : Int32) (v2 : Int32) (v3 : Int32) (v4 : Int32) (h : aH), k6 v0 v1 v2 v3 v4 h = some z → Ev (d + 4) none mX11_fastsOf (0, 0) 6 [.ref v0, .int v1, .int v2, .int v3, .int v4, .null] [] h (QI z)) : ∀ (n : Nat) (v0 : Nat) (v1 : Int32) (v2 : Int32) (v3 : Int32) (v4 : Int32) (v5 : Int32) (h : aH), lX11_fastsOf_52 k6 n v0 v1 v2 v3 v4 v5 h = some z → Ev (d + 4) none mX11_fastsOf (0, 0) 52 [.ref v0, .int v1, .int v2, .int v3, .int v4, .int v5] [] h (QI z) := by
  intro n
  induction n with
  | zero => intro _ _ _ _ _ _ _ q; exact nos (show (none : Option (Int32 × aH)) = some z from q)
  | succ n ih => intro v0 v1 v2 v3 v4 v5 h q; exact tX11_fastsOf_52 hk6 ih v0 v1 v2 v3 v4 v5 h q
def wX11_fastsOf_49 : List En := [(.iconst 0, 0, 0, 0), (.istore 5, 0, 0, 0)]
def fX11_fastsOf_49 (k6 : Nat → Int32 → Int32 → Int32 → Int32 → aH → Option (Int32 × aH)) (v0 : Nat) (v1 : Int32) (v2 : Int32) (v3 : Int32) (v4 : Int32) (h : aH) : Option (Int32 × aH) :=
  lX11_fastsOf_52 k6 FU v0 v1 v2 v3 v4 (kI 0) h
theorem tX11_fastsOf_49 {d : Nat} {z : Int32 × aH} {k6 : Nat → Int32 → Int32 → Int32 → Int32 → aH → Option (Int32 × aH)} (hk6 : ∀ (v0 : Nat) (v1 : Int32) (v2 : Int32) (v3 : Int32) (v4 : Int32) (h : aH), k6 v0 v1 v2 v3 v4 h = some z → Ev (d + 4) none mX11_fastsOf (0, 0) 6 [.ref v0, .int v1, .int v2, .int v3, .int v4, .null] [] h (QI z)) (v0 : Nat) (v1 : Int32) (v2 : Int32) (v3 : Int32) (v4 : Int32) (h : aH) (hf : fX11_fastsOf_49 k6 v0 v1 v2 v3 v4 h = some z) : Ev (d + 4) none mX11_fastsOf (0, 0) 49 [.ref v0, .int v1, .int v2, .int v3, .int v4, .null] [] h (QI z) := 
  go_ok (X := none) (blk := wX11_fastsOf_49) (np := 52) (tt := 0) (kN := fun xs h st => app [2, 1, 1, 1, 1, 1] (fun v0 v1 v2 v3 v4 v5 => apS [] (lX11_fastsOf_52 k6 FU v0 v1 v2 v3 v4 v5 h) st) xs) (kT := fun _ _ _ => none) (kR := kRI)
    (fun xs h st q => jm [2, 1, 1, 1, 1, 1] _ (fun v0 v1 v2 v3 v4 v5 q => apS_ok [] _ (fun st => Ev (d + 4) none mX11_fastsOf (0, 0) 52 [.ref v0, .int v1, .int v2, .int v3, .int v4, .int v5] st h (QI z)) st (fun q => uX11_fastsOf_52 hk6 FU v0 v1 v2 v3 v4 v5 h q) q) q)
    (fun _ _ _ q => nos q)
    kRI_ok (Or.inr rfl) (by decide +kernel) (by decide +kernel) hf
theorem kqX11_fastsOf_46 : okC mX11_fastsOf 46 (.invokevirtual 278) 220 237 0 0 = true := by decide +kernel
def fX11_fastsOf_46 (k6 : Nat → Int32 → Int32 → Int32 → Int32 → aH → Option (Int32 × aH)) (v0 : Nat) (v1 : Int32) (v2 : Int32) (v3 : Int32) (v4 : Int32) (s0 : Nat) (h : aH) : Option (Int32 × aH) :=
  (isO h 11 s0).bind fun _ =>
  (gX11_begin s0 h).bind fun r =>
  fX11_fastsOf_49 k6 v0 v1 v2 v3 v4 r
theorem tX11_fastsOf_46 {d : Nat} {z : Int32 × aH} {k6 : Nat → Int32 → Int32 → Int32 → Int32 → aH → Option (Int32 × aH)} (hk6 : ∀ (v0 : Nat) (v1 : Int32) (v2 : Int32) (v3 : Int32) (v4 : Int32) (h : aH), k6 v0 v1 v2 v3 v4 h = some z → Ev (d + 4) none mX11_fastsOf (0, 0) 6 [.ref v0, .int v1, .int v2, .int v3, .int v4, .null] [] h (QI z)) (v0 : Nat) (v1 : Int32) (v2 : Int32) (v3 : Int32) (v4 : Int32) (s0 : Nat) (h : aH) (hf : fX11_fastsOf_46 k6 v0 v1 v2 v3 v4 s0 h = some z) : Ev (d + 4) none mX11_fastsOf (0, 0) 46 [.ref v0, .int v1, .int v2, .int v3, .int v4, .null] [.ref s0] h (QI z) := by
  obtain ⟨_, h1, hf⟩ := bnd hf
  obtain ⟨fs, ho⟩ := isO_ok h1
  obtain ⟨r, h2, hf⟩ := bnd hf
  refine ev_V kqX11_fastsOf_46 jX11_begin (zX11_begin (d := d + 2) h2) ho rfl rfl (Nat.le_of_ble_eq_true rfl) rfl (as := []) (rest := []) rfl (Nat.le_of_ble_eq_true rfl) (fun _ _ hq => ?_)
  obtain ⟨rfl, hh⟩ := hq
  rw [hh]
  exact jm [2, 1, 1, 1, 1, 0] (fun v0 v1 v2 v3 v4 => fX11_fastsOf_49 k6 v0 v1 v2 v3 v4 r) (fun v0 v1 v2 v3 v4 q => tX11_fastsOf_49 hk6 v0 v1 v2 v3 v4 r q) hf
def wX11_fastsOf_45 : List En := [(.aload_n 0, 0, 0, 0)]
def fX11_fastsOf_45 (k6 : Nat → Int32 → Int32 → Int32 → Int32 → aH → Option (Int32 × aH)) (v0 : Nat) (v1 : Int32) (v2 : Int32) (v3 : Int32) (v4 : Int32) (h : aH) : Option (Int32 × aH) :=
  fX11_fastsOf_46 k6 v0 v1 v2 v3 v4 v0 h
theorem tX11_fastsOf_45 {d : Nat} {z : Int32 × aH} {k6 : Nat → Int32 → Int32 → Int32 → Int32 → aH → Option (Int32 × aH)} (hk6 : ∀ (v0 : Nat) (v1 : Int32) (v2 : Int32) (v3 : Int32) (v4 : Int32) (h : aH), k6 v0 v1 v2 v3 v4 h = some z → Ev (d + 4) none mX11_fastsOf (0, 0) 6 [.ref v0, .int v1, .int v2, .int v3, .int v4, .null] [] h (QI z)) (v0 : Nat) (v1 : Int32) (v2 : Int32) (v3 : Int32) (v4 : Int32) (h : aH) (hf : fX11_fastsOf_45 k6 v0 v1 v2 v3 v4 h = some z) : Ev (d + 4) none mX11_fastsOf (0, 0) 45 [.ref v0, .int v1, .int v2, .int v3, .int v4, .null] [] h (QI z) := 
  go_ok (X := none) (blk := wX11_fastsOf_45) (np := 46) (tt := 0) (kN := fun xs h st => app [2, 1, 1, 1, 1, 0] (fun v0 v1 v2 v3 v4 => apS [2] (fun s0 => fX11_fastsOf_46 k6 v0 v1 v2 v3 v4 s0 h) st) xs) (kT := fun _ _ _ => none) (kR := kRI)
    (fun xs h st q => jm [2, 1, 1, 1, 1, 0] _ (fun v0 v1 v2 v3 v4 q => apS_ok [2] _ (fun st => Ev (d + 4) none mX11_fastsOf (0, 0) 46 [.ref v0, .int v1, .int v2, .int v3, .int v4, .null] st h (QI z)) st (fun s0 q => tX11_fastsOf_46 hk6 v0 v1 v2 v3 v4 s0 h q) q) q)
    (fun _ _ _ q => nos q)
    kRI_ok (Or.inr rfl) (by decide +kernel) (by decide +kernel) hf
def wX11_fastsOf_42 : List En := [(.goto 69, 111, 0, 0)]
def fX11_fastsOf_42 (k6 : Nat → Int32 → Int32 → Int32 → Int32 → aH → Option (Int32 × aH)) (v0 : Nat) (v1 : Int32) (v2 : Int32) (v3 : Int32) (v4 : Int32) (h : aH) : Option (Int32 × aH) :=
  fX11_fastsOf_111 k6 v0 v1 v2 v3 v4 h
theorem tX11_fastsOf_42 {d : Nat} {z : Int32 × aH} {k6 : Nat → Int32 → Int32 → Int32 → Int32 → aH → Option (Int32 × aH)} (hk6 : ∀ (v0 : Nat) (v1 : Int32) (v2 : Int32) (v3 : Int32) (v4 : Int32) (h : aH), k6 v0 v1 v2 v3 v4 h = some z → Ev (d + 4) none mX11_fastsOf (0, 0) 6 [.ref v0, .int v1, .int v2, .int v3, .int v4, .null] [] h (QI z)) (v0 : Nat) (v1 : Int32) (v2 : Int32) (v3 : Int32) (v4 : Int32) (h : aH) (hf : fX11_fastsOf_42 k6 v0 v1 v2 v3 v4 h = some z) : Ev (d + 4) none mX11_fastsOf (0, 0) 42 [.ref v0, .int v1, .int v2, .int v3, .int v4, .null] [] h (QI z) := 
  go_ok (X := none) (blk := wX11_fastsOf_42) (np := 45) (tt := 111) (kN := fun _ _ _ => none) (kT := fun xs h st => app [2, 1, 1, 1, 1, 0] (fun v0 v1 v2 v3 v4 => apS [] (fX11_fastsOf_111 k6 v0 v1 v2 v3 v4 h) st) xs) (kR := kRI)
    (fun _ _ _ q => nos q)
    (fun xs h st q => jm [2, 1, 1, 1, 1, 0] _ (fun v0 v1 v2 v3 v4 q => apS_ok [] _ (fun st => Ev (d + 4) none mX11_fastsOf (0, 0) 111 [.ref v0, .int v1, .int v2, .int v3, .int v4, .null] st h (QI z)) st (fun q => tX11_fastsOf_111 hk6 v0 v1 v2 v3 v4 h q) q) q)
    kRI_ok (Or.inr rfl) (by decide +kernel) (by decide +kernel) hf
def wX11_fastsOf_39 : List En := [(.ifCond .ne 6, 45, 0, 0)]
def fX11_fastsOf_39 (k6 : Nat → Int32 → Int32 → Int32 → Int32 → aH → Option (Int32 × aH)) (v0 : Nat) (v1 : Int32) (v2 : Int32) (v3 : Int32) (v4 : Int32) (s0 : Int32) (h : aH) : Option (Int32 × aH) :=
  if s0 = 0 then fX11_fastsOf_42 k6 v0 v1 v2 v3 v4 h else fX11_fastsOf_45 k6 v0 v1 v2 v3 v4 h
theorem tX11_fastsOf_39 {d : Nat} {z : Int32 × aH} {k6 : Nat → Int32 → Int32 → Int32 → Int32 → aH → Option (Int32 × aH)} (hk6 : ∀ (v0 : Nat) (v1 : Int32) (v2 : Int32) (v3 : Int32) (v4 : Int32) (h : aH), k6 v0 v1 v2 v3 v4 h = some z → Ev (d + 4) none mX11_fastsOf (0, 0) 6 [.ref v0, .int v1, .int v2, .int v3, .int v4, .null] [] h (QI z)) (v0 : Nat) (v1 : Int32) (v2 : Int32) (v3 : Int32) (v4 : Int32) (s0 : Int32) (h : aH) (hf : fX11_fastsOf_39 k6 v0 v1 v2 v3 v4 s0 h = some z) : Ev (d + 4) none mX11_fastsOf (0, 0) 39 [.ref v0, .int v1, .int v2, .int v3, .int v4, .null] [.int s0] h (QI z) := 
  go_ok (X := none) (blk := wX11_fastsOf_39) (np := 42) (tt := 45) (kN := fun xs h st => app [2, 1, 1, 1, 1, 0] (fun v0 v1 v2 v3 v4 => apS [] (fX11_fastsOf_42 k6 v0 v1 v2 v3 v4 h) st) xs) (kT := fun xs h st => app [2, 1, 1, 1, 1, 0] (fun v0 v1 v2 v3 v4 => apS [] (fX11_fastsOf_45 k6 v0 v1 v2 v3 v4 h) st) xs) (kR := kRI)
    (fun xs h st q => jm [2, 1, 1, 1, 1, 0] _ (fun v0 v1 v2 v3 v4 q => apS_ok [] _ (fun st => Ev (d + 4) none mX11_fastsOf (0, 0) 42 [.ref v0, .int v1, .int v2, .int v3, .int v4, .null] st h (QI z)) st (fun q => tX11_fastsOf_42 hk6 v0 v1 v2 v3 v4 h q) q) q)
    (fun xs h st q => jm [2, 1, 1, 1, 1, 0] _ (fun v0 v1 v2 v3 v4 q => apS_ok [] _ (fun st => Ev (d + 4) none mX11_fastsOf (0, 0) 45 [.ref v0, .int v1, .int v2, .int v3, .int v4, .null] st h (QI z)) st (fun q => tX11_fastsOf_45 hk6 v0 v1 v2 v3 v4 h q) q) q)
    kRI_ok (Or.inr rfl) (by decide +kernel) (by decide +kernel) hf
theorem kqX11_fastsOf_36 : okC mX11_fastsOf 36 (.invokevirtual 333) 259 276 0 2 = true := by decide +kernel
def fX11_fastsOf_36 (k6 : Nat → Int32 → Int32 → Int32 → Int32 → aH → Option (Int32 × aH)) (v0 : Nat) (v1 : Int32) (v2 : Int32) (v3 : Int32) (v4 : Int32) (s0 : Int32) (s1 : Int32) (s2 : Nat) (h : aH) : Option (Int32 × aH) :=
  (isO h 11 s2).bind fun _ =>
  (gX11_mayFast s2 s1 s0 h).bind fun r =>
  fX11_fastsOf_39 k6 v0 v1 v2 v3 v4 r.1 r.2
theorem tX11_fastsOf_36 {d : Nat} {z : Int32 × aH} {k6 : Nat → Int32 → Int32 → Int32 → Int32 → aH → Option (Int32 × aH)} (hk6 : ∀ (v0 : Nat) (v1 : Int32) (v2 : Int32) (v3 : Int32) (v4 : Int32) (h : aH), k6 v0 v1 v2 v3 v4 h = some z → Ev (d + 4) none mX11_fastsOf (0, 0) 6 [.ref v0, .int v1, .int v2, .int v3, .int v4, .null] [] h (QI z)) (v0 : Nat) (v1 : Int32) (v2 : Int32) (v3 : Int32) (v4 : Int32) (s0 : Int32) (s1 : Int32) (s2 : Nat) (h : aH) (hf : fX11_fastsOf_36 k6 v0 v1 v2 v3 v4 s0 s1 s2 h = some z) : Ev (d + 4) none mX11_fastsOf (0, 0) 36 [.ref v0, .int v1, .int v2, .int v3, .int v4, .null] [.int s0, .int s1, .ref s2] h (QI z) := by
  obtain ⟨_, h1, hf⟩ := bnd hf
  obtain ⟨fs, ho⟩ := isO_ok h1
  obtain ⟨r, h2, hf⟩ := bnd hf
  refine ev_V kqX11_fastsOf_36 jX11_mayFast (zX11_mayFast (d := d + 2) h2) ho rfl rfl (Nat.le_of_ble_eq_true rfl) rfl (as := [.int s1, .int s0]) (rest := []) rfl (Nat.le_of_ble_eq_true rfl) (fun _ _ hq => ?_)
  obtain ⟨-, rfl, rfl⟩ := hq
  exact jm [2, 1, 1, 1, 1, 0] (fun v0 v1 v2 v3 v4 => fX11_fastsOf_39 k6 v0 v1 v2 v3 v4 r.1 r.2) (fun v0 v1 v2 v3 v4 q => tX11_fastsOf_39 hk6 v0 v1 v2 v3 v4 r.1 r.2 q) hf
def wX11_fastsOf_32 : List En := [(.aload_n 0, 0, 0, 0), (.iload 4, 0, 0, 0), (.iload_n 2, 0, 0, 0)]
def fX11_fastsOf_32 (k6 : Nat → Int32 → Int32 → Int32 → Int32 → aH → Option (Int32 × aH)) (v0 : Nat) (v1 : Int32) (v2 : Int32) (v3 : Int32) (v4 : Int32) (h : aH) : Option (Int32 × aH) :=
  fX11_fastsOf_36 k6 v0 v1 v2 v3 v4 v2 v4 v0 h
theorem tX11_fastsOf_32 {d : Nat} {z : Int32 × aH} {k6 : Nat → Int32 → Int32 → Int32 → Int32 → aH → Option (Int32 × aH)} (hk6 : ∀ (v0 : Nat) (v1 : Int32) (v2 : Int32) (v3 : Int32) (v4 : Int32) (h : aH), k6 v0 v1 v2 v3 v4 h = some z → Ev (d + 4) none mX11_fastsOf (0, 0) 6 [.ref v0, .int v1, .int v2, .int v3, .int v4, .null] [] h (QI z)) (v0 : Nat) (v1 : Int32) (v2 : Int32) (v3 : Int32) (v4 : Int32) (h : aH) (hf : fX11_fastsOf_32 k6 v0 v1 v2 v3 v4 h = some z) : Ev (d + 4) none mX11_fastsOf (0, 0) 32 [.ref v0, .int v1, .int v2, .int v3, .int v4, .null] [] h (QI z) := 
  go_ok (X := none) (blk := wX11_fastsOf_32) (np := 36) (tt := 0) (kN := fun xs h st => app [2, 1, 1, 1, 1, 0] (fun v0 v1 v2 v3 v4 => apS [1, 1, 2] (fun s0 s1 s2 => fX11_fastsOf_36 k6 v0 v1 v2 v3 v4 s0 s1 s2 h) st) xs) (kT := fun _ _ _ => none) (kR := kRI)
    (fun xs h st q => jm [2, 1, 1, 1, 1, 0] _ (fun v0 v1 v2 v3 v4 q => apS_ok [1, 1, 2] _ (fun st => Ev (d + 4) none mX11_fastsOf (0, 0) 36 [.ref v0, .int v1, .int v2, .int v3, .int v4, .null] st h (QI z)) st (fun s0 s1 s2 q => tX11_fastsOf_36 hk6 v0 v1 v2 v3 v4 s0 s1 s2 h q) q) q)
    (fun _ _ _ q => nos q)
    kRI_ok (Or.inr rfl) (by decide +kernel) (by decide +kernel) hf
def wX11_fastsOf_29 : List En := [(.if_icmp .ge 82, 111, 0, 0)]
def fX11_fastsOf_29 (k6 : Nat → Int32 → Int32 → Int32 → Int32 → aH → Option (Int32 × aH)) (v0 : Nat) (v1 : Int32) (v2 : Int32) (v3 : Int32) (v4 : Int32) (s0 : Int32) (s1 : Int32) (h : aH) : Option (Int32 × aH) :=
  if s1 < s0 then fX11_fastsOf_32 k6 v0 v1 v2 v3 v4 h else fX11_fastsOf_111 k6 v0 v1 v2 v3 v4 h
theorem tX11_fastsOf_29 {d : Nat} {z : Int32 × aH} {k6 : Nat → Int32 → Int32 → Int32 → Int32 → aH → Option (Int32 × aH)} (hk6 : ∀ (v0 : Nat) (v1 : Int32) (v2 : Int32) (v3 : Int32) (v4 : Int32) (h : aH), k6 v0 v1 v2 v3 v4 h = some z → Ev (d + 4) none mX11_fastsOf (0, 0) 6 [.ref v0, .int v1, .int v2, .int v3, .int v4, .null] [] h (QI z)) (v0 : Nat) (v1 : Int32) (v2 : Int32) (v3 : Int32) (v4 : Int32) (s0 : Int32) (s1 : Int32) (h : aH) (hf : fX11_fastsOf_29 k6 v0 v1 v2 v3 v4 s0 s1 h = some z) : Ev (d + 4) none mX11_fastsOf (0, 0) 29 [.ref v0, .int v1, .int v2, .int v3, .int v4, .null] [.int s0, .int s1] h (QI z) := 
  go_ok (X := none) (blk := wX11_fastsOf_29) (np := 32) (tt := 111) (kN := fun xs h st => app [2, 1, 1, 1, 1, 0] (fun v0 v1 v2 v3 v4 => apS [] (fX11_fastsOf_32 k6 v0 v1 v2 v3 v4 h) st) xs) (kT := fun xs h st => app [2, 1, 1, 1, 1, 0] (fun v0 v1 v2 v3 v4 => apS [] (fX11_fastsOf_111 k6 v0 v1 v2 v3 v4 h) st) xs) (kR := kRI)
    (fun xs h st q => jm [2, 1, 1, 1, 1, 0] _ (fun v0 v1 v2 v3 v4 q => apS_ok [] _ (fun st => Ev (d + 4) none mX11_fastsOf (0, 0) 32 [.ref v0, .int v1, .int v2, .int v3, .int v4, .null] st h (QI z)) st (fun q => tX11_fastsOf_32 hk6 v0 v1 v2 v3 v4 h q) q) q)
    (fun xs h st q => jm [2, 1, 1, 1, 1, 0] _ (fun v0 v1 v2 v3 v4 q => apS_ok [] _ (fun st => Ev (d + 4) none mX11_fastsOf (0, 0) 111 [.ref v0, .int v1, .int v2, .int v3, .int v4, .null] st h (QI z)) st (fun q => tX11_fastsOf_111 hk6 v0 v1 v2 v3 v4 h q) q) q)
    kRI_ok (Or.inr rfl) (by decide +kernel) (by decide +kernel) hf
theorem kqX11_fastsOf_26 : okC mX11_fastsOf 26 (.invokestatic 330) 258 275 1 1 = true := by decide +kernel
def fX11_fastsOf_26 (k6 : Nat → Int32 → Int32 → Int32 → Int32 → aH → Option (Int32 × aH)) (v0 : Nat) (v1 : Int32) (v2 : Int32) (v3 : Int32) (v4 : Int32) (s0 : Int32) (s1 : Int32) (h : aH) : Option (Int32 × aH) :=
  (gX11_ones s0 h).bind fun r =>
  fX11_fastsOf_29 k6 v0 v1 v2 v3 v4 r.1 s1 r.2
theorem tX11_fastsOf_26 {d : Nat} {z : Int32 × aH} {k6 : Nat → Int32 → Int32 → Int32 → Int32 → aH → Option (Int32 × aH)} (hk6 : ∀ (v0 : Nat) (v1 : Int32) (v2 : Int32) (v3 : Int32) (v4 : Int32) (h : aH), k6 v0 v1 v2 v3 v4 h = some z → Ev (d + 4) none mX11_fastsOf (0, 0) 6 [.ref v0, .int v1, .int v2, .int v3, .int v4, .null] [] h (QI z)) (v0 : Nat) (v1 : Int32) (v2 : Int32) (v3 : Int32) (v4 : Int32) (s0 : Int32) (s1 : Int32) (h : aH) (hf : fX11_fastsOf_26 k6 v0 v1 v2 v3 v4 s0 s1 h = some z) : Ev (d + 4) none mX11_fastsOf (0, 0) 26 [.ref v0, .int v1, .int v2, .int v3, .int v4, .null] [.int s0, .int s1] h (QI z) := by
  obtain ⟨r, h2, hf⟩ := bnd hf
  refine ev_S kqX11_fastsOf_26 jX11_ones (zX11_ones (d := d + 3) h2) rfl (Nat.le_of_ble_eq_true rfl) rfl (as := [.int s0]) (rest := [.int s1]) rfl (Nat.le_of_ble_eq_true rfl) (fun _ _ hq => ?_)
  obtain ⟨rfl, rfl⟩ := hq
  exact jm [2, 1, 1, 1, 1, 0] (fun v0 v1 v2 v3 v4 => fX11_fastsOf_29 k6 v0 v1 v2 v3 v4 r.1 s1 r.2) (fun v0 v1 v2 v3 v4 q => tX11_fastsOf_29 hk6 v0 v1 v2 v3 v4 r.1 s1 r.2 q) hf
def wX11_fastsOf_25 : List En := [(.iload_n 3, 0, 0, 0)]
def fX11_fastsOf_25 (k6 : Nat → Int32 → Int32 → Int32 → Int32 → aH → Option (Int32 × aH)) (v0 : Nat) (v1 : Int32) (v2 : Int32) (v3 : Int32) (v4 : Int32) (s0 : Int32) (h : aH) : Option (Int32 × aH) :=
  fX11_fastsOf_26 k6 v0 v1 v2 v3 v4 v3 s0 h
theorem tX11_fastsOf_25 {d : Nat} {z : Int32 × aH} {k6 : Nat → Int32 → Int32 → Int32 → Int32 → aH → Option (Int32 × aH)} (hk6 : ∀ (v0 : Nat) (v1 : Int32) (v2 : Int32) (v3 : Int32) (v4 : Int32) (h : aH), k6 v0 v1 v2 v3 v4 h = some z → Ev (d + 4) none mX11_fastsOf (0, 0) 6 [.ref v0, .int v1, .int v2, .int v3, .int v4, .null] [] h (QI z)) (v0 : Nat) (v1 : Int32) (v2 : Int32) (v3 : Int32) (v4 : Int32) (s0 : Int32) (h : aH) (hf : fX11_fastsOf_25 k6 v0 v1 v2 v3 v4 s0 h = some z) : Ev (d + 4) none mX11_fastsOf (0, 0) 25 [.ref v0, .int v1, .int v2, .int v3, .int v4, .null] [.int s0] h (QI z) := 
  go_ok (X := none) (blk := wX11_fastsOf_25) (np := 26) (tt := 0) (kN := fun xs h st => app [2, 1, 1, 1, 1, 0] (fun v0 v1 v2 v3 v4 => apS [1, 1] (fun s0 s1 => fX11_fastsOf_26 k6 v0 v1 v2 v3 v4 s0 s1 h) st) xs) (kT := fun _ _ _ => none) (kR := kRI)
    (fun xs h st q => jm [2, 1, 1, 1, 1, 0] _ (fun v0 v1 v2 v3 v4 q => apS_ok [1, 1] _ (fun st => Ev (d + 4) none mX11_fastsOf (0, 0) 26 [.ref v0, .int v1, .int v2, .int v3, .int v4, .null] st h (QI z)) st (fun s0 s1 q => tX11_fastsOf_26 hk6 v0 v1 v2 v3 v4 s0 s1 h q) q) q)
    (fun _ _ _ q => nos q)
    kRI_ok (Or.inr rfl) (by decide +kernel) (by decide +kernel) hf
theorem kqX11_fastsOf_22 : okC mX11_fastsOf 22 (.invokestatic 330) 258 275 1 1 = true := by decide +kernel
def fX11_fastsOf_22 (k6 : Nat → Int32 → Int32 → Int32 → Int32 → aH → Option (Int32 × aH)) (v0 : Nat) (v1 : Int32) (v2 : Int32) (v3 : Int32) (v4 : Int32) (s0 : Int32) (h : aH) : Option (Int32 × aH) :=
  (gX11_ones s0 h).bind fun r =>
  fX11_fastsOf_25 k6 v0 v1 v2 v3 v4 r.1 r.2
theorem tX11_fastsOf_22 {d : Nat} {z : Int32 × aH} {k6 : Nat → Int32 → Int32 → Int32 → Int32 → aH → Option (Int32 × aH)} (hk6 : ∀ (v0 : Nat) (v1 : Int32) (v2 : Int32) (v3 : Int32) (v4 : Int32) (h : aH), k6 v0 v1 v2 v3 v4 h = some z → Ev (d + 4) none mX11_fastsOf (0, 0) 6 [.ref v0, .int v1, .int v2, .int v3, .int v4, .null] [] h (QI z)) (v0 : Nat) (v1 : Int32) (v2 : Int32) (v3 : Int32) (v4 : Int32) (s0 : Int32) (h : aH) (hf : fX11_fastsOf_22 k6 v0 v1 v2 v3 v4 s0 h = some z) : Ev (d + 4) none mX11_fastsOf (0, 0) 22 [.ref v0, .int v1, .int v2, .int v3, .int v4, .null] [.int s0] h (QI z) := by
  obtain ⟨r, h2, hf⟩ := bnd hf
  refine ev_S kqX11_fastsOf_22 jX11_ones (zX11_ones (d := d + 3) h2) rfl (Nat.le_of_ble_eq_true rfl) rfl (as := [.int s0]) (rest := []) rfl (Nat.le_of_ble_eq_true rfl) (fun _ _ hq => ?_)
  obtain ⟨rfl, rfl⟩ := hq
  exact jm [2, 1, 1, 1, 1, 0] (fun v0 v1 v2 v3 v4 => fX11_fastsOf_25 k6 v0 v1 v2 v3 v4 r.1 r.2) (fun v0 v1 v2 v3 v4 q => tX11_fastsOf_25 hk6 v0 v1 v2 v3 v4 r.1 r.2 q) hf
def wX11_fastsOf_20 : List En := [(.iload 4, 0, 0, 0)]
def fX11_fastsOf_20 (k6 : Nat → Int32 → Int32 → Int32 → Int32 → aH → Option (Int32 × aH)) (v0 : Nat) (v1 : Int32) (v2 : Int32) (v3 : Int32) (v4 : Int32) (h : aH) : Option (Int32 × aH) :=
  fX11_fastsOf_22 k6 v0 v1 v2 v3 v4 v4 h
theorem tX11_fastsOf_20 {d : Nat} {z : Int32 × aH} {k6 : Nat → Int32 → Int32 → Int32 → Int32 → aH → Option (Int32 × aH)} (hk6 : ∀ (v0 : Nat) (v1 : Int32) (v2 : Int32) (v3 : Int32) (v4 : Int32) (h : aH), k6 v0 v1 v2 v3 v4 h = some z → Ev (d + 4) none mX11_fastsOf (0, 0) 6 [.ref v0, .int v1, .int v2, .int v3, .int v4, .null] [] h (QI z)) (v0 : Nat) (v1 : Int32) (v2 : Int32) (v3 : Int32) (v4 : Int32) (h : aH) (hf : fX11_fastsOf_20 k6 v0 v1 v2 v3 v4 h = some z) : Ev (d + 4) none mX11_fastsOf (0, 0) 20 [.ref v0, .int v1, .int v2, .int v3, .int v4, .null] [] h (QI z) := 
  go_ok (X := none) (blk := wX11_fastsOf_20) (np := 22) (tt := 0) (kN := fun xs h st => app [2, 1, 1, 1, 1, 0] (fun v0 v1 v2 v3 v4 => apS [1] (fun s0 => fX11_fastsOf_22 k6 v0 v1 v2 v3 v4 s0 h) st) xs) (kT := fun _ _ _ => none) (kR := kRI)
    (fun xs h st q => jm [2, 1, 1, 1, 1, 0] _ (fun v0 v1 v2 v3 v4 q => apS_ok [1] _ (fun st => Ev (d + 4) none mX11_fastsOf (0, 0) 22 [.ref v0, .int v1, .int v2, .int v3, .int v4, .null] st h (QI z)) st (fun s0 q => tX11_fastsOf_22 hk6 v0 v1 v2 v3 v4 s0 h q) q) q)
    (fun _ _ _ q => nos q)
    kRI_ok (Or.inr rfl) (by decide +kernel) (by decide +kernel) hf
def wX11_fastsOf_16 : List En := [(.iload_n 3, 0, 0, 0), (.ifCond .lt 15, 32, 0, 0)]
def fX11_fastsOf_16 (k6 : Nat → Int32 → Int32 → Int32 → Int32 → aH → Option (Int32 × aH)) (v0 : Nat) (v1 : Int32) (v2 : Int32) (v3 : Int32) (v4 : Int32) (h : aH) : Option (Int32 × aH) :=
  if v3 < 0 then fX11_fastsOf_32 k6 v0 v1 v2 v3 v4 h else fX11_fastsOf_20 k6 v0 v1 v2 v3 v4 h
theorem tX11_fastsOf_16 {d : Nat} {z : Int32 × aH} {k6 : Nat → Int32 → Int32 → Int32 → Int32 → aH → Option (Int32 × aH)} (hk6 : ∀ (v0 : Nat) (v1 : Int32) (v2 : Int32) (v3 : Int32) (v4 : Int32) (h : aH), k6 v0 v1 v2 v3 v4 h = some z → Ev (d + 4) none mX11_fastsOf (0, 0) 6 [.ref v0, .int v1, .int v2, .int v3, .int v4, .null] [] h (QI z)) (v0 : Nat) (v1 : Int32) (v2 : Int32) (v3 : Int32) (v4 : Int32) (h : aH) (hf : fX11_fastsOf_16 k6 v0 v1 v2 v3 v4 h = some z) : Ev (d + 4) none mX11_fastsOf (0, 0) 16 [.ref v0, .int v1, .int v2, .int v3, .int v4, .null] [] h (QI z) := 
  go_ok (X := none) (blk := wX11_fastsOf_16) (np := 20) (tt := 32) (kN := fun xs h st => app [2, 1, 1, 1, 1, 0] (fun v0 v1 v2 v3 v4 => apS [] (fX11_fastsOf_20 k6 v0 v1 v2 v3 v4 h) st) xs) (kT := fun xs h st => app [2, 1, 1, 1, 1, 0] (fun v0 v1 v2 v3 v4 => apS [] (fX11_fastsOf_32 k6 v0 v1 v2 v3 v4 h) st) xs) (kR := kRI)
    (fun xs h st q => jm [2, 1, 1, 1, 1, 0] _ (fun v0 v1 v2 v3 v4 q => apS_ok [] _ (fun st => Ev (d + 4) none mX11_fastsOf (0, 0) 20 [.ref v0, .int v1, .int v2, .int v3, .int v4, .null] st h (QI z)) st (fun q => tX11_fastsOf_20 hk6 v0 v1 v2 v3 v4 h q) q) q)
    (fun xs h st q => jm [2, 1, 1, 1, 1, 0] _ (fun v0 v1 v2 v3 v4 q => apS_ok [] _ (fun st => Ev (d + 4) none mX11_fastsOf (0, 0) 32 [.ref v0, .int v1, .int v2, .int v3, .int v4, .null] st h (QI z)) st (fun q => tX11_fastsOf_32 hk6 v0 v1 v2 v3 v4 h q) q) q)
    kRI_ok (Or.inr rfl) (by decide +kernel) (by decide +kernel) hf
def wX11_fastsOf_6 : List En := [(.iload 4, 0, 0, 0), (.iconst 1, 0, 0, 0), (.iconst 5, 0, 0, 0), (.iload_n 2, 0, 0, 0), (.imul, 0, 0, 0), (.ishl, 0, 0, 0), (.if_icmp .ge 104, 117, 0, 0)]
def fX11_fastsOf_6 (k6 : Nat → Int32 → Int32 → Int32 → Int32 → aH → Option (Int32 × aH)) (v0 : Nat) (v1 : Int32) (v2 : Int32) (v3 : Int32) (v4 : Int32) (h : aH) : Option (Int32 × aH) :=
  if v4 < ((kI 1) <<< (((kI 5) * v2) &&& 31)) then fX11_fastsOf_16 k6 v0 v1 v2 v3 v4 h else fX11_fastsOf_117 v3 h
theorem tX11_fastsOf_6 {d : Nat} {z : Int32 × aH} {k6 : Nat → Int32 → Int32 → Int32 → Int32 → aH → Option (Int32 × aH)} (hk6 : ∀ (v0 : Nat) (v1 : Int32) (v2 : Int32) (v3 : Int32) (v4 : Int32) (h : aH), k6 v0 v1 v2 v3 v4 h = some z → Ev (d + 4) none mX11_fastsOf (0, 0) 6 [.ref v0, .int v1, .int v2, .int v3, .int v4, .null] [] h (QI z)) (v0 : Nat) (v1 : Int32) (v2 : Int32) (v3 : Int32) (v4 : Int32) (h : aH) (hf : fX11_fastsOf_6 k6 v0 v1 v2 v3 v4 h = some z) : Ev (d + 4) none mX11_fastsOf (0, 0) 6 [.ref v0, .int v1, .int v2, .int v3, .int v4, .null] [] h (QI z) := 
  go_ok (X := none) (blk := wX11_fastsOf_6) (np := 16) (tt := 117) (kN := fun xs h st => app [2, 1, 1, 1, 1, 0] (fun v0 v1 v2 v3 v4 => apS [] (fX11_fastsOf_16 k6 v0 v1 v2 v3 v4 h) st) xs) (kT := fun xs h st => app [0, 0, 0, 1, 0, 0] (fun v3 => apS [] (fX11_fastsOf_117 v3 h) st) xs) (kR := kRI)
    (fun xs h st q => jm [2, 1, 1, 1, 1, 0] _ (fun v0 v1 v2 v3 v4 q => apS_ok [] _ (fun st => Ev (d + 4) none mX11_fastsOf (0, 0) 16 [.ref v0, .int v1, .int v2, .int v3, .int v4, .null] st h (QI z)) st (fun q => tX11_fastsOf_16 hk6 v0 v1 v2 v3 v4 h q) q) q)
    (fun xs h st q => jm [0, 0, 0, 1, 0, 0] _ (fun v3 q => apS_ok [] _ (fun st => Ev (d + 4) none mX11_fastsOf (0, 0) 117 [.null, .null, .null, .int v3, .null, .null] st h (QI z)) st (fun q => tX11_fastsOf_117 v3 h q) q) q)
    kRI_ok (Or.inr rfl) (by decide +kernel) (by decide +kernel) hf
def lX11_fastsOf_6 : Nat → Nat → Int32 → Int32 → Int32 → Int32 → aH → Option (Int32 × aH)
  | 0, _, _, _, _, _, _ => none
  | n + 1, v0, v1, v2, v3, v4, h => fX11_fastsOf_6 (lX11_fastsOf_6 n) v0 v1 v2 v3 v4 h
theorem uX11_fastsOf_6 {d : Nat} {z : Int32 × aH} : ∀ (n : Nat) (v0 : Nat) (v1 : Int32) (v2 : Int32) (v3 : Int32) (v4 : Int32) (h : aH), lX11_fastsOf_6 n v0 v1 v2 v3 v4 h = some z → Ev (d + 4) none mX11_fastsOf (0, 0) 6 [.ref v0, .int v1, .int v2, .int v3, .int v4, .null] [] h (QI z) := by
  intro n
  induction n with
  | zero => intro _ _ _ _ _ _ q; exact nos (show (none : Option (Int32 × aH)) = some z from q)
  | succ n ih => intro v0 v1 v2 v3 v4 h q; exact tX11_fastsOf_6 ih v0 v1 v2 v3 v4 h q
def wX11_fastsOf_0 : List En := [(.bipush (-2), 0, 0, 0), (.istore_n 3, 0, 0, 0), (.iconst 0, 0, 0, 0), (.istore 4, 0, 0, 0)]
def fX11_fastsOf_0 (v0 : Nat) (v1 : Int32) (v2 : Int32) (h : aH) : Option (Int32 × aH) :=
  lX11_fastsOf_6 FU v0 v1 v2 (kB (-2)) (kI 0) h
theorem tX11_fastsOf_0 {d : Nat} {z : Int32 × aH} (v0 : Nat) (v1 : Int32) (v2 : Int32) (h : aH) (hf : fX11_fastsOf_0 v0 v1 v2 h = some z) : Ev (d + 4) none mX11_fastsOf (0, 0) 0 [.ref v0, .int v1, .int v2, .null, .null, .null] [] h (QI z) := 
  go_ok (X := none) (blk := wX11_fastsOf_0) (np := 6) (tt := 0) (kN := fun xs h st => app [2, 1, 1, 1, 1, 0] (fun v0 v1 v2 v3 v4 => apS [] (lX11_fastsOf_6 FU v0 v1 v2 v3 v4 h) st) xs) (kT := fun _ _ _ => none) (kR := kRI)
    (fun xs h st q => jm [2, 1, 1, 1, 1, 0] _ (fun v0 v1 v2 v3 v4 q => apS_ok [] _ (fun st => Ev (d + 4) none mX11_fastsOf (0, 0) 6 [.ref v0, .int v1, .int v2, .int v3, .int v4, .null] st h (QI z)) st (fun q => uX11_fastsOf_6 FU v0 v1 v2 v3 v4 h q) q) q)
    (fun _ _ _ q => nos q)
    kRI_ok (Or.inr rfl) (by decide +kernel) (by decide +kernel) hf
def gX11_fastsOf (v0 : Nat) (v1 : Int32) (v2 : Int32) (h : aH) : Option (Int32 × aH) := fX11_fastsOf_0 v0 v1 v2 h
theorem zX11_fastsOf {d : Nat} {z : Int32 × aH} {v0 : Nat} {v1 : Int32} {v2 : Int32} {h : aH} (q : gX11_fastsOf v0 v1 v2 h = some z) : CT (d + 4) mX11_fastsOf (0, 0) [.ref v0, .int v1, .int v2] h (QI z) :=
  ct_ev (by decide +kernel) (Nat.le_of_ble_eq_true rfl) QI_r (jm [2, 1, 1, 0, 0, 0] (fun v0 v1 v2 => fX11_fastsOf_0 v0 v1 v2 h) (fun v0 v1 v2 q => tX11_fastsOf_0 v0 v1 v2 h q) q)
def wX11_fastsFor_44 : List En := [(.ireturn, 0, 0, 0)]
def fX11_fastsFor_44 (s0 : Int32) (h : aH) : Option (Int32 × aH) :=
  some (s0, h)
theorem tX11_fastsFor_44 {d : Nat} {z : Int32 × aH} (s0 : Int32) (h : aH) (hf : fX11_fastsFor_44 s0 h = some z) : Ev (d + 5) none mX11_fastsFor (0, 0) 44 [.null, .null, .null, .null, .null] [.int s0] h (QI z) := 
  go_ok (X := none) (blk := wX11_fastsFor_44) (np := 45) (tt := 0) (kN := fun _ _ _ => none) (kT := fun _ _ _ => none) (kR := kRI)
    (fun _ _ _ q => nos q)
    (fun _ _ _ q => nos q)
    kRI_ok (Or.inr rfl) (by decide +kernel) (by decide +kernel) hf
theorem kqX11_fastsFor_41 : okC mX11_fastsFor 41 (.invokestatic 330) 258 275 1 1 = true := by decide +kernel
def fX11_fastsFor_41 (s0 : Int32) (h : aH) : Option (Int32 × aH) :=
  (gX11_ones s0 h).bind fun r =>
  fX11_fastsFor_44 r.1 r.2
theorem tX11_fastsFor_41 {d : Nat} {z : Int32 × aH} (s0 : Int32) (h : aH) (hf : fX11_fastsFor_41 s0 h = some z) : Ev (d + 5) none mX11_fastsFor (0, 0) 41 [.null, .null, .null, .null, .null] [.int s0] h (QI z) := by
  obtain ⟨r, h2, hf⟩ := bnd hf
  refine ev_S kqX11_fastsFor_41 jX11_ones (zX11_ones (d := d + 4) h2) rfl (Nat.le_of_ble_eq_true rfl) rfl (as := [.int s0]) (rest := []) rfl (Nat.le_of_ble_eq_true rfl) (fun _ _ hq => ?_)
  obtain ⟨rfl, rfl⟩ := hq
  exact jm [0, 0, 0, 0, 0] (fX11_fastsFor_44 r.1 r.2) (fun q => tX11_fastsFor_44 r.1 r.2 q) hf
def wX11_fastsFor_39 : List En := [(.iload 4, 0, 0, 0)]
def fX11_fastsFor_39 (v4 : Int32) (h : aH) : Option (Int32 × aH) :=
  fX11_fastsFor_41 v4 h
theorem tX11_fastsFor_39 {d : Nat} {z : Int32 × aH} (v4 : Int32) (h : aH) (hf : fX11_fastsFor_39 v4 h = some z) : Ev (d + 5) none mX11_fastsFor (0, 0) 39 [.null, .null, .null, .null, .int v4] [] h (QI z) := 
  go_ok (X := none) (blk := wX11_fastsFor_39) (np := 41) (tt := 0) (kN := fun xs h st => app [0, 0, 0, 0, 0] (apS [1] (fun s0 => fX11_fastsFor_41 s0 h) st) xs) (kT := fun _ _ _ => none) (kR := kRI)
    (fun xs h st q => jm [0, 0, 0, 0, 0] _ (fun q => apS_ok [1] _ (fun st => Ev (d + 5) none mX11_fastsFor (0, 0) 41 [.null, .null, .null, .null, .null] st h (QI z)) st (fun s0 q => tX11_fastsFor_41 s0 h q) q) q)
    (fun _ _ _ q => nos q)
    kRI_ok (Or.inr rfl) (by decide +kernel) (by decide +kernel) hf
def wX11_fastsFor_34 : List En := [(.bipush (-2), 0, 0, 0), (.goto 8, 44, 0, 0)]
def fX11_fastsFor_34 (h : aH) : Option (Int32 × aH) :=
  fX11_fastsFor_44 (kB (-2)) h
theorem tX11_fastsFor_34 {d : Nat} {z : Int32 × aH} (h : aH) (hf : fX11_fastsFor_34 h = some z) : Ev (d + 5) none mX11_fastsFor (0, 0) 34 [.null, .null, .null, .null, .null] [] h (QI z) := 
  go_ok (X := none) (blk := wX11_fastsFor_34) (np := 39) (tt := 44) (kN := fun _ _ _ => none) (kT := fun xs h st => app [0, 0, 0, 0, 0] (apS [1] (fun s0 => fX11_fastsFor_44 s0 h) st) xs) (kR := kRI)
    (fun _ _ _ q => nos q)
    (fun xs h st q => jm [0, 0, 0, 0, 0] _ (fun q => apS_ok [1] _ (fun st => Ev (d + 5) none mX11_fastsFor (0, 0) 44 [.null, .null, .null, .null, .null] st h (QI z)) st (fun s0 q => tX11_fastsFor_44 s0 h q) q) q)
    kRI_ok (Or.inr rfl) (by decide +kernel) (by decide +kernel) hf
def wX11_fastsFor_27 : List En := [(.istore 4, 0, 0, 0), (.iload 4, 0, 0, 0), (.ifCond .ge 8, 39, 0, 0)]
def fX11_fastsFor_27 (s0 : Int32) (h : aH) : Option (Int32 × aH) :=
  if s0 < 0 then fX11_fastsFor_34 h else fX11_fastsFor_39 s0 h
theorem tX11_fastsFor_27 {d : Nat} {z : Int32 × aH} (s0 : Int32) (h : aH) (hf : fX11_fastsFor_27 s0 h = some z) : Ev (d + 5) none mX11_fastsFor (0, 0) 27 [.null, .null, .null, .null, .null] [.int s0] h (QI z) := 
  go_ok (X := none) (blk := wX11_fastsFor_27) (np := 34) (tt := 39) (kN := fun xs h st => app [0, 0, 0, 0, 0] (apS [] (fX11_fastsFor_34 h) st) xs) (kT := fun xs h st => app [0, 0, 0, 0, 1] (fun v4 => apS [] (fX11_fastsFor_39 v4 h) st) xs) (kR := kRI)
    (fun xs h st q => jm [0, 0, 0, 0, 0] _ (fun q => apS_ok [] _ (fun st => Ev (d + 5) none mX11_fastsFor (0, 0) 34 [.null, .null, .null, .null, .null] st h (QI z)) st (fun q => tX11_fastsFor_34 h q) q) q)
    (fun xs h st q => jm [0, 0, 0, 0, 1] _ (fun v4 q => apS_ok [] _ (fun st => Ev (d + 5) none mX11_fastsFor (0, 0) 39 [.null, .null, .null, .null, .int v4] st h (QI z)) st (fun q => tX11_fastsFor_39 v4 h q) q) q)
    kRI_ok (Or.inr rfl) (by decide +kernel) (by decide +kernel) hf
theorem kqX11_fastsFor_24 : okC mX11_fastsFor 24 (.invokevirtual 339) 257 274 0 2 = true := by decide +kernel
def fX11_fastsFor_24 (s0 : Int32) (s1 : Int32) (s2 : Nat) (h : aH) : Option (Int32 × aH) :=
  (isO h 11 s2).bind fun _ =>
  (gX11_fastsOf s2 s1 s0 h).bind fun r =>
  fX11_fastsFor_27 r.1 r.2
theorem tX11_fastsFor_24 {d : Nat} {z : Int32 × aH} (s0 : Int32) (s1 : Int32) (s2 : Nat) (h : aH) (hf : fX11_fastsFor_24 s0 s1 s2 h = some z) : Ev (d + 5) none mX11_fastsFor (0, 0) 24 [.null, .null, .null, .null, .null] [.int s0, .int s1, .ref s2] h (QI z) := by
  obtain ⟨_, h1, hf⟩ := bnd hf
  obtain ⟨fs, ho⟩ := isO_ok h1
  obtain ⟨r, h2, hf⟩ := bnd hf
  refine ev_V kqX11_fastsFor_24 jX11_fastsOf (zX11_fastsOf (d := d + 0) h2) ho rfl rfl (Nat.le_of_ble_eq_true rfl) rfl (as := [.int s1, .int s0]) (rest := []) rfl (Nat.le_of_ble_eq_true rfl) (fun _ _ hq => ?_)
  obtain ⟨rfl, rfl⟩ := hq
  exact jm [0, 0, 0, 0, 0] (fX11_fastsFor_27 r.1 r.2) (fun q => tX11_fastsFor_27 r.1 r.2 q) hf
def wX11_fastsFor_21 : List En := [(.aload_n 0, 0, 0, 0), (.iload_n 1, 0, 0, 0), (.iload_n 2, 0, 0, 0)]
def fX11_fastsFor_21 (v0 : Nat) (v1 : Int32) (v2 : Int32) (h : aH) : Option (Int32 × aH) :=
  fX11_fastsFor_24 v2 v1 v0 h
theorem tX11_fastsFor_21 {d : Nat} {z : Int32 × aH} (v0 : Nat) (v1 : Int32) (v2 : Int32) (h : aH) (hf : fX11_fastsFor_21 v0 v1 v2 h = some z) : Ev (d + 5) none mX11_fastsFor (0, 0) 21 [.ref v0, .int v1, .int v2, .null, .null] [] h (QI z) := 
  go_ok (X := none) (blk := wX11_fastsFor_21) (np := 24) (tt := 0) (kN := fun xs h st => app [0, 0, 0, 0, 0] (apS [1, 1, 2] (fun s0 s1 s2 => fX11_fastsFor_24 s0 s1 s2 h) st) xs) (kT := fun _ _ _ => none) (kR := kRI)
    (fun xs h st q => jm [0, 0, 0, 0, 0] _ (fun q => apS_ok [1, 1, 2] _ (fun st => Ev (d + 5) none mX11_fastsFor (0, 0) 24 [.null, .null, .null, .null, .null] st h (QI z)) st (fun s0 s1 s2 q => tX11_fastsFor_24 s0 s1 s2 h q) q) q)
    (fun _ _ _ q => nos q)
    kRI_ok (Or.inr rfl) (by decide +kernel) (by decide +kernel) hf
def wX11_fastsFor_20 : List En := [(.ireturn, 0, 0, 0)]
def fX11_fastsFor_20 (s0 : Int32) (h : aH) : Option (Int32 × aH) :=
  some (s0, h)
theorem tX11_fastsFor_20 {d : Nat} {z : Int32 × aH} (s0 : Int32) (h : aH) (hf : fX11_fastsFor_20 s0 h = some z) : Ev (d + 5) none mX11_fastsFor (0, 0) 20 [.null, .null, .null, .null, .null] [.int s0] h (QI z) := 
  go_ok (X := none) (blk := wX11_fastsFor_20) (np := 21) (tt := 0) (kN := fun _ _ _ => none) (kT := fun _ _ _ => none) (kR := kRI)
    (fun _ _ _ q => nos q)
    (fun _ _ _ q => nos q)
    kRI_ok (Or.inr rfl) (by decide +kernel) (by decide +kernel) hf
theorem kqX11_fastsFor_17 : okC mX11_fastsFor 17 (.invokevirtual 164) 183 198 0 1 = true := by decide +kernel
def fX11_fastsFor_17 (s0 : Int32) (s1 : Nat) (h : aH) : Option (Int32 × aH) :=
  (isO h 11 s1).bind fun _ =>
  (gX11_no s1 s0 h).bind fun r =>
  fX11_fastsFor_20 r.1 r.2
theorem tX11_fastsFor_17 {d : Nat} {z : Int32 × aH} (s0 : Int32) (s1 : Nat) (h : aH) (hf : fX11_fastsFor_17 s0 s1 h = some z) : Ev (d + 5) none mX11_fastsFor (0, 0) 17 [.null, .null, .null, .null, .null] [.int s0, .ref s1] h (QI z) := by
  obtain ⟨_, h1, hf⟩ := bnd hf
  obtain ⟨fs, ho⟩ := isO_ok h1
  obtain ⟨r, h2, hf⟩ := bnd hf
  refine ev_V kqX11_fastsFor_17 jX11_no (zX11_no (d := d + 4) h2) ho rfl rfl (Nat.le_of_ble_eq_true rfl) rfl (as := [.int s0]) (rest := []) rfl (Nat.le_of_ble_eq_true rfl) (fun _ _ hq => ?_)
  obtain ⟨rfl, rfl⟩ := hq
  exact jm [0, 0, 0, 0, 0] (fX11_fastsFor_20 r.1 r.2) (fun q => tX11_fastsFor_20 r.1 r.2 q) hf
def wX11_fastsFor_15 : List En := [(.aload_n 0, 0, 0, 0), (.iload_n 3, 0, 0, 0)]
def fX11_fastsFor_15 (v0 : Nat) (v3 : Int32) (h : aH) : Option (Int32 × aH) :=
  fX11_fastsFor_17 v3 v0 h
theorem tX11_fastsFor_15 {d : Nat} {z : Int32 × aH} (v0 : Nat) (v3 : Int32) (h : aH) (hf : fX11_fastsFor_15 v0 v3 h = some z) : Ev (d + 5) none mX11_fastsFor (0, 0) 15 [.ref v0, .null, .null, .int v3, .null] [] h (QI z) := 
  go_ok (X := none) (blk := wX11_fastsFor_15) (np := 17) (tt := 0) (kN := fun xs h st => app [0, 0, 0, 0, 0] (apS [1, 2] (fun s0 s1 => fX11_fastsFor_17 s0 s1 h) st) xs) (kT := fun _ _ _ => none) (kR := kRI)
    (fun xs h st q => jm [0, 0, 0, 0, 0] _ (fun q => apS_ok [1, 2] _ (fun st => Ev (d + 5) none mX11_fastsFor (0, 0) 17 [.null, .null, .null, .null, .null] st h (QI z)) st (fun s0 s1 q => tX11_fastsFor_17 s0 s1 h q) q) q)
    (fun _ _ _ q => nos q)
    kRI_ok (Or.inr rfl) (by decide +kernel) (by decide +kernel) hf
def wX11_fastsFor_10 : List En := [(.istore_n 3, 0, 0, 0), (.iload_n 3, 0, 0, 0), (.ifCond .eq 9, 21, 0, 0)]
def fX11_fastsFor_10 (v0 : Nat) (v1 : Int32) (v2 : Int32) (s0 : Int32) (h : aH) : Option (Int32 × aH) :=
  if s0 = 0 then fX11_fastsFor_21 v0 v1 v2 h else fX11_fastsFor_15 v0 s0 h
theorem tX11_fastsFor_10 {d : Nat} {z : Int32 × aH} (v0 : Nat) (v1 : Int32) (v2 : Int32) (s0 : Int32) (h : aH) (hf : fX11_fastsFor_10 v0 v1 v2 s0 h = some z) : Ev (d + 5) none mX11_fastsFor (0, 0) 10 [.ref v0, .int v1, .int v2, .null, .null] [.int s0] h (QI z) := 
  go_ok (X := none) (blk := wX11_fastsFor_10) (np := 15) (tt := 21) (kN := fun xs h st => app [2, 0, 0, 1, 0] (fun v0 v3 => apS [] (fX11_fastsFor_15 v0 v3 h) st) xs) (kT := fun xs h st => app [2, 1, 1, 0, 0] (fun v0 v1 v2 => apS [] (fX11_fastsFor_21 v0 v1 v2 h) st) xs) (kR := kRI)
    (fun xs h st q => jm [2, 0, 0, 1, 0] _ (fun v0 v3 q => apS_ok [] _ (fun st => Ev (d + 5) none mX11_fastsFor (0, 0) 15 [.ref v0, .null, .null, .int v3, .null] st h (QI z)) st (fun q => tX11_fastsFor_15 v0 v3 h q) q) q)
    (fun xs h st q => jm [2, 1, 1, 0, 0] _ (fun v0 v1 v2 q => apS_ok [] _ (fun st => Ev (d + 5) none mX11_fastsFor (0, 0) 21 [.ref v0, .int v1, .int v2, .null, .null] st h (QI z)) st (fun q => tX11_fastsFor_21 v0 v1 v2 h q) q) q)
    kRI_ok (Or.inr rfl) (by decide +kernel) (by decide +kernel) hf
theorem kqX11_fastsFor_7 : okC mX11_fastsFor 7 (.invokevirtual 336) 256 273 0 2 = true := by decide +kernel
def fX11_fastsFor_7 (v0 : Nat) (v1 : Int32) (v2 : Int32) (s0 : Int32) (s1 : Int32) (s2 : Nat) (h : aH) : Option (Int32 × aH) :=
  (isO h 11 s2).bind fun _ =>
  (gX11_fastWhy s2 s1 s0 h).bind fun r =>
  fX11_fastsFor_10 v0 v1 v2 r.1 r.2
theorem tX11_fastsFor_7 {d : Nat} {z : Int32 × aH} (v0 : Nat) (v1 : Int32) (v2 : Int32) (s0 : Int32) (s1 : Int32) (s2 : Nat) (h : aH) (hf : fX11_fastsFor_7 v0 v1 v2 s0 s1 s2 h = some z) : Ev (d + 5) none mX11_fastsFor (0, 0) 7 [.ref v0, .int v1, .int v2, .null, .null] [.int s0, .int s1, .ref s2] h (QI z) := by
  obtain ⟨_, h1, hf⟩ := bnd hf
  obtain ⟨fs, ho⟩ := isO_ok h1
  obtain ⟨r, h2, hf⟩ := bnd hf
  refine ev_V kqX11_fastsFor_7 jX11_fastWhy (zX11_fastWhy (d := d + 2) h2) ho rfl rfl (Nat.le_of_ble_eq_true rfl) rfl (as := [.int s1, .int s0]) (rest := []) rfl (Nat.le_of_ble_eq_true rfl) (fun _ _ hq => ?_)
  obtain ⟨rfl, rfl⟩ := hq
  exact jm [2, 1, 1, 0, 0] (fun v0 v1 v2 => fX11_fastsFor_10 v0 v1 v2 r.1 r.2) (fun v0 v1 v2 q => tX11_fastsFor_10 v0 v1 v2 r.1 r.2 q) hf
def wX11_fastsFor_4 : List En := [(.aload_n 0, 0, 0, 0), (.iload_n 1, 0, 0, 0), (.iload_n 2, 0, 0, 0)]
def fX11_fastsFor_4 (v0 : Nat) (v1 : Int32) (v2 : Int32) (h : aH) : Option (Int32 × aH) :=
  fX11_fastsFor_7 v0 v1 v2 v2 v1 v0 h
theorem tX11_fastsFor_4 {d : Nat} {z : Int32 × aH} (v0 : Nat) (v1 : Int32) (v2 : Int32) (h : aH) (hf : fX11_fastsFor_4 v0 v1 v2 h = some z) : Ev (d + 5) none mX11_fastsFor (0, 0) 4 [.ref v0, .int v1, .int v2, .null, .null] [] h (QI z) := 
  go_ok (X := none) (blk := wX11_fastsFor_4) (np := 7) (tt := 0) (kN := fun xs h st => app [2, 1, 1, 0, 0] (fun v0 v1 v2 => apS [1, 1, 2] (fun s0 s1 s2 => fX11_fastsFor_7 v0 v1 v2 s0 s1 s2 h) st) xs) (kT := fun _ _ _ => none) (kR := kRI)
    (fun xs h st q => jm [2, 1, 1, 0, 0] _ (fun v0 v1 v2 q => apS_ok [1, 1, 2] _ (fun st => Ev (d + 5) none mX11_fastsFor (0, 0) 7 [.ref v0, .int v1, .int v2, .null, .null] st h (QI z)) st (fun s0 s1 s2 q => tX11_fastsFor_7 v0 v1 v2 s0 s1 s2 h q) q) q)
    (fun _ _ _ q => nos q)
    kRI_ok (Or.inr rfl) (by decide +kernel) (by decide +kernel) hf
theorem kqX11_fastsFor_1 : okC mX11_fastsFor 1 (.invokevirtual 161) 181 196 0 0 = true := by decide +kernel
def fX11_fastsFor_1 (v0 : Nat) (v1 : Int32) (v2 : Int32) (s0 : Nat) (h : aH) : Option (Int32 × aH) :=
  (isO h 11 s0).bind fun _ =>
  (gX11_anew s0 h).bind fun r =>
  fX11_fastsFor_4 v0 v1 v2 r
theorem tX11_fastsFor_1 {d : Nat} {z : Int32 × aH} (v0 : Nat) (v1 : Int32) (v2 : Int32) (s0 : Nat) (h : aH) (hf : fX11_fastsFor_1 v0 v1 v2 s0 h = some z) : Ev (d + 5) none mX11_fastsFor (0, 0) 1 [.ref v0, .int v1, .int v2, .null, .null] [.ref s0] h (QI z) := by
  obtain ⟨_, h1, hf⟩ := bnd hf
  obtain ⟨fs, ho⟩ := isO_ok h1
  obtain ⟨r, h2, hf⟩ := bnd hf
  refine ev_V kqX11_fastsFor_1 jX11_anew (zX11_anew (d := d + 4) h2) ho rfl rfl (Nat.le_of_ble_eq_true rfl) rfl (as := []) (rest := []) rfl (Nat.le_of_ble_eq_true rfl) (fun _ _ hq => ?_)
  obtain ⟨rfl, hh⟩ := hq
  rw [hh]
  exact jm [2, 1, 1, 0, 0] (fun v0 v1 v2 => fX11_fastsFor_4 v0 v1 v2 r) (fun v0 v1 v2 q => tX11_fastsFor_4 v0 v1 v2 r q) hf
def wX11_fastsFor_0 : List En := [(.aload_n 0, 0, 0, 0)]
def fX11_fastsFor_0 (v0 : Nat) (v1 : Int32) (v2 : Int32) (h : aH) : Option (Int32 × aH) :=
  fX11_fastsFor_1 v0 v1 v2 v0 h
theorem tX11_fastsFor_0 {d : Nat} {z : Int32 × aH} (v0 : Nat) (v1 : Int32) (v2 : Int32) (h : aH) (hf : fX11_fastsFor_0 v0 v1 v2 h = some z) : Ev (d + 5) none mX11_fastsFor (0, 0) 0 [.ref v0, .int v1, .int v2, .null, .null] [] h (QI z) := 
  go_ok (X := none) (blk := wX11_fastsFor_0) (np := 1) (tt := 0) (kN := fun xs h st => app [2, 1, 1, 0, 0] (fun v0 v1 v2 => apS [2] (fun s0 => fX11_fastsFor_1 v0 v1 v2 s0 h) st) xs) (kT := fun _ _ _ => none) (kR := kRI)
    (fun xs h st q => jm [2, 1, 1, 0, 0] _ (fun v0 v1 v2 q => apS_ok [2] _ (fun st => Ev (d + 5) none mX11_fastsFor (0, 0) 1 [.ref v0, .int v1, .int v2, .null, .null] st h (QI z)) st (fun s0 q => tX11_fastsFor_1 v0 v1 v2 s0 h q) q) q)
    (fun _ _ _ q => nos q)
    kRI_ok (Or.inr rfl) (by decide +kernel) (by decide +kernel) hf
def gX11_fastsFor (v0 : Nat) (v1 : Int32) (v2 : Int32) (h : aH) : Option (Int32 × aH) := fX11_fastsFor_0 v0 v1 v2 h
theorem zX11_fastsFor {d : Nat} {z : Int32 × aH} {v0 : Nat} {v1 : Int32} {v2 : Int32} {h : aH} (q : gX11_fastsFor v0 v1 v2 h = some z) : CT (d + 5) mX11_fastsFor (0, 0) [.ref v0, .int v1, .int v2] h (QI z) :=
  ct_ev (by decide +kernel) (Nat.le_of_ble_eq_true rfl) QI_r (jm [2, 1, 1, 0, 0] (fun v0 v1 v2 => fX11_fastsFor_0 v0 v1 v2 h) (fun v0 v1 v2 q => tX11_fastsFor_0 v0 v1 v2 h q) q)
def wX11_fastsAt_29 : List En := [(.ireturn, 0, 0, 0)]
def fX11_fastsAt_29 (s0 : Int32) (h : aH) : Option (Int32 × aH) :=
  some (s0, h)
theorem tX11_fastsAt_29 {d : Nat} {z : Int32 × aH} (s0 : Int32) (h : aH) (hf : fX11_fastsAt_29 s0 h = some z) : Ev (d + 5) none mX11_fastsAt (0, 0) 29 [.null, .null, .null, .null] [.int s0] h (QI z) := 
  go_ok (X := none) (blk := wX11_fastsAt_29) (np := 30) (tt := 0) (kN := fun _ _ _ => none) (kT := fun _ _ _ => none) (kR := kRI)
    (fun _ _ _ q => nos q)
    (fun _ _ _ q => nos q)
    kRI_ok (Or.inr rfl) (by decide +kernel) (by decide +kernel) hf
theorem kqX11_fastsAt_26 : okC mX11_fastsAt 26 (.invokevirtual 339) 257 274 0 2 = true := by decide +kernel
def fX11_fastsAt_26 (s0 : Int32) (s1 : Int32) (s2 : Nat) (h : aH) : Option (Int32 × aH) :=
  (isO h 11 s2).bind fun _ =>
  (gX11_fastsOf s2 s1 s0 h).bind fun r =>
  fX11_fastsAt_29 r.1 r.2
theorem tX11_fastsAt_26 {d : Nat} {z : Int32 × aH} (s0 : Int32) (s1 : Int32) (s2 : Nat) (h : aH) (hf : fX11_fastsAt_26 s0 s1 s2 h = some z) : Ev (d + 5) none mX11_fastsAt (0, 0) 26 [.null, .null, .null, .null] [.int s0, .int s1, .ref s2] h (QI z) := by
  obtain ⟨_, h1, hf⟩ := bnd hf
  obtain ⟨fs, ho⟩ := isO_ok h1
  obtain ⟨r, h2, hf⟩ := bnd hf
  refine ev_V kqX11_fastsAt_26 jX11_fastsOf (zX11_fastsOf (d := d + 0) h2) ho rfl rfl (Nat.le_of_ble_eq_true rfl) rfl (as := [.int s1, .int s0]) (rest := []) rfl (Nat.le_of_ble_eq_true rfl) (fun _ _ hq => ?_)
  obtain ⟨rfl, rfl⟩ := hq
  exact jm [0, 0, 0, 0] (fX11_fastsAt_29 r.1 r.2) (fun q => tX11_fastsAt_29 r.1 r.2 q) hf
def wX11_fastsAt_23 : List En := [(.aload_n 0, 0, 0, 0), (.iload_n 1, 0, 0, 0), (.iload_n 2, 0, 0, 0)]
def fX11_fastsAt_23 (v0 : Nat) (v1 : Int32) (v2 : Int32) (h : aH) : Option (Int32 × aH) :=
  fX11_fastsAt_26 v2 v1 v0 h
theorem tX11_fastsAt_23 {d : Nat} {z : Int32 × aH} (v0 : Nat) (v1 : Int32) (v2 : Int32) (h : aH) (hf : fX11_fastsAt_23 v0 v1 v2 h = some z) : Ev (d + 5) none mX11_fastsAt (0, 0) 23 [.ref v0, .int v1, .int v2, .null] [] h (QI z) := 
  go_ok (X := none) (blk := wX11_fastsAt_23) (np := 26) (tt := 0) (kN := fun xs h st => app [0, 0, 0, 0] (apS [1, 1, 2] (fun s0 s1 s2 => fX11_fastsAt_26 s0 s1 s2 h) st) xs) (kT := fun _ _ _ => none) (kR := kRI)
    (fun xs h st q => jm [0, 0, 0, 0] _ (fun q => apS_ok [1, 1, 2] _ (fun st => Ev (d + 5) none mX11_fastsAt (0, 0) 26 [.null, .null, .null, .null] st h (QI z)) st (fun s0 s1 s2 q => tX11_fastsAt_26 s0 s1 s2 h q) q) q)
    (fun _ _ _ q => nos q)
    kRI_ok (Or.inr rfl) (by decide +kernel) (by decide +kernel) hf
def wX11_fastsAt_20 : List En := [(.goto 9, 29, 0, 0)]
def fX11_fastsAt_20 (s0 : Int32) (h : aH) : Option (Int32 × aH) :=
  fX11_fastsAt_29 s0 h
theorem tX11_fastsAt_20 {d : Nat} {z : Int32 × aH} (s0 : Int32) (h : aH) (hf : fX11_fastsAt_20 s0 h = some z) : Ev (d + 5) none mX11_fastsAt (0, 0) 20 [.null, .null, .null, .null] [.int s0] h (QI z) := 
  go_ok (X := none) (blk := wX11_fastsAt_20) (np := 23) (tt := 29) (kN := fun _ _ _ => none) (kT := fun xs h st => app [0, 0, 0, 0] (apS [1] (fun s0 => fX11_fastsAt_29 s0 h) st) xs) (kR := kRI)
    (fun _ _ _ q => nos q)
    (fun xs h st q => jm [0, 0, 0, 0] _ (fun q => apS_ok [1] _ (fun st => Ev (d + 5) none mX11_fastsAt (0, 0) 29 [.null, .null, .null, .null] st h (QI z)) st (fun s0 q => tX11_fastsAt_29 s0 h q) q) q)
    kRI_ok (Or.inr rfl) (by decide +kernel) (by decide +kernel) hf
theorem kqX11_fastsAt_17 : okC mX11_fastsAt 17 (.invokevirtual 164) 183 198 0 1 = true := by decide +kernel
def fX11_fastsAt_17 (s0 : Int32) (s1 : Nat) (h : aH) : Option (Int32 × aH) :=
  (isO h 11 s1).bind fun _ =>
  (gX11_no s1 s0 h).bind fun r =>
  fX11_fastsAt_20 r.1 r.2
theorem tX11_fastsAt_17 {d : Nat} {z : Int32 × aH} (s0 : Int32) (s1 : Nat) (h : aH) (hf : fX11_fastsAt_17 s0 s1 h = some z) : Ev (d + 5) none mX11_fastsAt (0, 0) 17 [.null, .null, .null, .null] [.int s0, .ref s1] h (QI z) := by
  obtain ⟨_, h1, hf⟩ := bnd hf
  obtain ⟨fs, ho⟩ := isO_ok h1
  obtain ⟨r, h2, hf⟩ := bnd hf
  refine ev_V kqX11_fastsAt_17 jX11_no (zX11_no (d := d + 4) h2) ho rfl rfl (Nat.le_of_ble_eq_true rfl) rfl (as := [.int s0]) (rest := []) rfl (Nat.le_of_ble_eq_true rfl) (fun _ _ hq => ?_)
  obtain ⟨rfl, rfl⟩ := hq
  exact jm [0, 0, 0, 0] (fX11_fastsAt_20 r.1 r.2) (fun q => tX11_fastsAt_20 r.1 r.2 q) hf
def wX11_fastsAt_15 : List En := [(.aload_n 0, 0, 0, 0), (.iload_n 3, 0, 0, 0)]
def fX11_fastsAt_15 (v0 : Nat) (v3 : Int32) (h : aH) : Option (Int32 × aH) :=
  fX11_fastsAt_17 v3 v0 h
theorem tX11_fastsAt_15 {d : Nat} {z : Int32 × aH} (v0 : Nat) (v3 : Int32) (h : aH) (hf : fX11_fastsAt_15 v0 v3 h = some z) : Ev (d + 5) none mX11_fastsAt (0, 0) 15 [.ref v0, .null, .null, .int v3] [] h (QI z) := 
  go_ok (X := none) (blk := wX11_fastsAt_15) (np := 17) (tt := 0) (kN := fun xs h st => app [0, 0, 0, 0] (apS [1, 2] (fun s0 s1 => fX11_fastsAt_17 s0 s1 h) st) xs) (kT := fun _ _ _ => none) (kR := kRI)
    (fun xs h st q => jm [0, 0, 0, 0] _ (fun q => apS_ok [1, 2] _ (fun st => Ev (d + 5) none mX11_fastsAt (0, 0) 17 [.null, .null, .null, .null] st h (QI z)) st (fun s0 s1 q => tX11_fastsAt_17 s0 s1 h q) q) q)
    (fun _ _ _ q => nos q)
    kRI_ok (Or.inr rfl) (by decide +kernel) (by decide +kernel) hf
def wX11_fastsAt_10 : List En := [(.istore_n 3, 0, 0, 0), (.iload_n 3, 0, 0, 0), (.ifCond .eq 11, 23, 0, 0)]
def fX11_fastsAt_10 (v0 : Nat) (v1 : Int32) (v2 : Int32) (s0 : Int32) (h : aH) : Option (Int32 × aH) :=
  if s0 = 0 then fX11_fastsAt_23 v0 v1 v2 h else fX11_fastsAt_15 v0 s0 h
theorem tX11_fastsAt_10 {d : Nat} {z : Int32 × aH} (v0 : Nat) (v1 : Int32) (v2 : Int32) (s0 : Int32) (h : aH) (hf : fX11_fastsAt_10 v0 v1 v2 s0 h = some z) : Ev (d + 5) none mX11_fastsAt (0, 0) 10 [.ref v0, .int v1, .int v2, .null] [.int s0] h (QI z) := 
  go_ok (X := none) (blk := wX11_fastsAt_10) (np := 15) (tt := 23) (kN := fun xs h st => app [2, 0, 0, 1] (fun v0 v3 => apS [] (fX11_fastsAt_15 v0 v3 h) st) xs) (kT := fun xs h st => app [2, 1, 1, 0] (fun v0 v1 v2 => apS [] (fX11_fastsAt_23 v0 v1 v2 h) st) xs) (kR := kRI)
    (fun xs h st q => jm [2, 0, 0, 1] _ (fun v0 v3 q => apS_ok [] _ (fun st => Ev (d + 5) none mX11_fastsAt (0, 0) 15 [.ref v0, .null, .null, .int v3] st h (QI z)) st (fun q => tX11_fastsAt_15 v0 v3 h q) q) q)
    (fun xs h st q => jm [2, 1, 1, 0] _ (fun v0 v1 v2 q => apS_ok [] _ (fun st => Ev (d + 5) none mX11_fastsAt (0, 0) 23 [.ref v0, .int v1, .int v2, .null] st h (QI z)) st (fun q => tX11_fastsAt_23 v0 v1 v2 h q) q) q)
    kRI_ok (Or.inr rfl) (by decide +kernel) (by decide +kernel) hf
theorem kqX11_fastsAt_7 : okC mX11_fastsAt 7 (.invokevirtual 336) 256 273 0 2 = true := by decide +kernel
def fX11_fastsAt_7 (v0 : Nat) (v1 : Int32) (v2 : Int32) (s0 : Int32) (s1 : Int32) (s2 : Nat) (h : aH) : Option (Int32 × aH) :=
  (isO h 11 s2).bind fun _ =>
  (gX11_fastWhy s2 s1 s0 h).bind fun r =>
  fX11_fastsAt_10 v0 v1 v2 r.1 r.2
theorem tX11_fastsAt_7 {d : Nat} {z : Int32 × aH} (v0 : Nat) (v1 : Int32) (v2 : Int32) (s0 : Int32) (s1 : Int32) (s2 : Nat) (h : aH) (hf : fX11_fastsAt_7 v0 v1 v2 s0 s1 s2 h = some z) : Ev (d + 5) none mX11_fastsAt (0, 0) 7 [.ref v0, .int v1, .int v2, .null] [.int s0, .int s1, .ref s2] h (QI z) := by
  obtain ⟨_, h1, hf⟩ := bnd hf
  obtain ⟨fs, ho⟩ := isO_ok h1
  obtain ⟨r, h2, hf⟩ := bnd hf
  refine ev_V kqX11_fastsAt_7 jX11_fastWhy (zX11_fastWhy (d := d + 2) h2) ho rfl rfl (Nat.le_of_ble_eq_true rfl) rfl (as := [.int s1, .int s0]) (rest := []) rfl (Nat.le_of_ble_eq_true rfl) (fun _ _ hq => ?_)
  obtain ⟨rfl, rfl⟩ := hq
  exact jm [2, 1, 1, 0] (fun v0 v1 v2 => fX11_fastsAt_10 v0 v1 v2 r.1 r.2) (fun v0 v1 v2 q => tX11_fastsAt_10 v0 v1 v2 r.1 r.2 q) hf
def wX11_fastsAt_4 : List En := [(.aload_n 0, 0, 0, 0), (.iload_n 1, 0, 0, 0), (.iload_n 2, 0, 0, 0)]
def fX11_fastsAt_4 (v0 : Nat) (v1 : Int32) (v2 : Int32) (h : aH) : Option (Int32 × aH) :=
  fX11_fastsAt_7 v0 v1 v2 v2 v1 v0 h
theorem tX11_fastsAt_4 {d : Nat} {z : Int32 × aH} (v0 : Nat) (v1 : Int32) (v2 : Int32) (h : aH) (hf : fX11_fastsAt_4 v0 v1 v2 h = some z) : Ev (d + 5) none mX11_fastsAt (0, 0) 4 [.ref v0, .int v1, .int v2, .null] [] h (QI z) := 
  go_ok (X := none) (blk := wX11_fastsAt_4) (np := 7) (tt := 0) (kN := fun xs h st => app [2, 1, 1, 0] (fun v0 v1 v2 => apS [1, 1, 2] (fun s0 s1 s2 => fX11_fastsAt_7 v0 v1 v2 s0 s1 s2 h) st) xs) (kT := fun _ _ _ => none) (kR := kRI)
    (fun xs h st q => jm [2, 1, 1, 0] _ (fun v0 v1 v2 q => apS_ok [1, 1, 2] _ (fun st => Ev (d + 5) none mX11_fastsAt (0, 0) 7 [.ref v0, .int v1, .int v2, .null] st h (QI z)) st (fun s0 s1 s2 q => tX11_fastsAt_7 v0 v1 v2 s0 s1 s2 h q) q) q)
    (fun _ _ _ q => nos q)
    kRI_ok (Or.inr rfl) (by decide +kernel) (by decide +kernel) hf
theorem kqX11_fastsAt_1 : okC mX11_fastsAt 1 (.invokevirtual 161) 181 196 0 0 = true := by decide +kernel
def fX11_fastsAt_1 (v0 : Nat) (v1 : Int32) (v2 : Int32) (s0 : Nat) (h : aH) : Option (Int32 × aH) :=
  (isO h 11 s0).bind fun _ =>
  (gX11_anew s0 h).bind fun r =>
  fX11_fastsAt_4 v0 v1 v2 r
theorem tX11_fastsAt_1 {d : Nat} {z : Int32 × aH} (v0 : Nat) (v1 : Int32) (v2 : Int32) (s0 : Nat) (h : aH) (hf : fX11_fastsAt_1 v0 v1 v2 s0 h = some z) : Ev (d + 5) none mX11_fastsAt (0, 0) 1 [.ref v0, .int v1, .int v2, .null] [.ref s0] h (QI z) := by
  obtain ⟨_, h1, hf⟩ := bnd hf
  obtain ⟨fs, ho⟩ := isO_ok h1
  obtain ⟨r, h2, hf⟩ := bnd hf
  refine ev_V kqX11_fastsAt_1 jX11_anew (zX11_anew (d := d + 4) h2) ho rfl rfl (Nat.le_of_ble_eq_true rfl) rfl (as := []) (rest := []) rfl (Nat.le_of_ble_eq_true rfl) (fun _ _ hq => ?_)
  obtain ⟨rfl, hh⟩ := hq
  rw [hh]
  exact jm [2, 1, 1, 0] (fun v0 v1 v2 => fX11_fastsAt_4 v0 v1 v2 r) (fun v0 v1 v2 q => tX11_fastsAt_4 v0 v1 v2 r q) hf
def wX11_fastsAt_0 : List En := [(.aload_n 0, 0, 0, 0)]
def fX11_fastsAt_0 (v0 : Nat) (v1 : Int32) (v2 : Int32) (h : aH) : Option (Int32 × aH) :=
  fX11_fastsAt_1 v0 v1 v2 v0 h
theorem tX11_fastsAt_0 {d : Nat} {z : Int32 × aH} (v0 : Nat) (v1 : Int32) (v2 : Int32) (h : aH) (hf : fX11_fastsAt_0 v0 v1 v2 h = some z) : Ev (d + 5) none mX11_fastsAt (0, 0) 0 [.ref v0, .int v1, .int v2, .null] [] h (QI z) := 
  go_ok (X := none) (blk := wX11_fastsAt_0) (np := 1) (tt := 0) (kN := fun xs h st => app [2, 1, 1, 0] (fun v0 v1 v2 => apS [2] (fun s0 => fX11_fastsAt_1 v0 v1 v2 s0 h) st) xs) (kT := fun _ _ _ => none) (kR := kRI)
    (fun xs h st q => jm [2, 1, 1, 0] _ (fun v0 v1 v2 q => apS_ok [2] _ (fun st => Ev (d + 5) none mX11_fastsAt (0, 0) 1 [.ref v0, .int v1, .int v2, .null] st h (QI z)) st (fun s0 q => tX11_fastsAt_1 v0 v1 v2 s0 h q) q) q)
    (fun _ _ _ q => nos q)
    kRI_ok (Or.inr rfl) (by decide +kernel) (by decide +kernel) hf
def gX11_fastsAt (v0 : Nat) (v1 : Int32) (v2 : Int32) (h : aH) : Option (Int32 × aH) := fX11_fastsAt_0 v0 v1 v2 h
theorem zX11_fastsAt {d : Nat} {z : Int32 × aH} {v0 : Nat} {v1 : Int32} {v2 : Int32} {h : aH} (q : gX11_fastsAt v0 v1 v2 h = some z) : CT (d + 5) mX11_fastsAt (0, 0) [.ref v0, .int v1, .int v2] h (QI z) :=
  ct_ev (by decide +kernel) (Nat.le_of_ble_eq_true rfl) QI_r (jm [2, 1, 1, 0] (fun v0 v1 v2 => fX11_fastsAt_0 v0 v1 v2 h) (fun v0 v1 v2 q => tX11_fastsAt_0 v0 v1 v2 h q) q)
def wX11_bestFastOf_125 : List En := [(.iload_n 1, 0, 0, 0), (.ireturn, 0, 0, 0)]
def fX11_bestFastOf_125 (v1 : Int32) (h : aH) : Option (Int32 × aH) :=
  some (v1, h)
theorem tX11_bestFastOf_125 {d : Nat} {z : Int32 × aH} (v1 : Int32) (h : aH) (hf : fX11_bestFastOf_125 v1 h = some z) : Ev (d + 4) none mX11_bestFastOf (0, 0) 125 [.null, .int v1, .null, .null] [] h (QI z) := 
  go_ok (X := none) (blk := wX11_bestFastOf_125) (np := 127) (tt := 0) (kN := fun _ _ _ => none) (kT := fun _ _ _ => none) (kR := kRI)
    (fun _ _ _ q => nos q)
    (fun _ _ _ q => nos q)
    kRI_ok (Or.inr rfl) (by decide +kernel) (by decide +kernel) hf
def wX11_bestFastOf_119 : List En := [(.iinc 2 1, 0, 0, 0), (.goto (-112), 10, 0, 0)]
def fX11_bestFastOf_119 (k10 : Nat → Int32 → Int32 → aH → Option (Int32 × aH)) (v0 : Nat) (v1 : Int32) (v2 : Int32) (h : aH) : Option (Int32 × aH) :=
  k10 v0 v1 (v2 + kI 1) h
theorem tX11_bestFastOf_119 {d : Nat} {z : Int32 × aH} {k10 : Nat → Int32 → Int32 → aH → Option (Int32 × aH)} (hk10 : ∀ (v0 : Nat) (v1 : Int32) (v2 : Int32) (h : aH), k10 v0 v1 v2 h = some z → Ev (d + 4) none mX11_bestFastOf (0, 0) 10 [.ref v0, .int v1, .int v2, .null] [] h (QI z)) (v0 : Nat) (v1 : Int32) (v2 : Int32) (h : aH) (hf : fX11_bestFastOf_119 k10 v0 v1 v2 h = some z) : Ev (d + 4) none mX11_bestFastOf (0, 0) 119 [.ref v0, .int v1, .int v2, .null] [] h (QI z) := 
  go_ok (X := none) (blk := wX11_bestFastOf_119) (np := 125) (tt := 10) (kN := fun _ _ _ => none) (kT := fun xs h st => app [2, 1, 1, 0] (fun v0 v1 v2 => apS [] (k10 v0 v1 v2 h) st) xs) (kR := kRI)
    (fun _ _ _ q => nos q)
    (fun xs h st q => jm [2, 1, 1, 0] _ (fun v0 v1 v2 q => apS_ok [] _ (fun st => Ev (d + 4) none mX11_bestFastOf (0, 0) 10 [.ref v0, .int v1, .int v2, .null] st h (QI z)) st (fun q => hk10 v0 v1 v2 h q) q) q)
    kRI_ok (Or.inr rfl) (by decide +kernel) (by decide +kernel) hf
def wX11_bestFastOf_112 : List En := [(.iload_n 2, 0, 0, 0), (.istore_n 1, 0, 0, 0), (.aload_n 0, 0, 0, 0), (.iload_n 3, 0, 0, 0), (.putfield 342, 209, 11, 34)]
def fX11_bestFastOf_112 (k10 : Nat → Int32 → Int32 → aH → Option (Int32 × aH)) (v0 : Nat) (v2 : Int32) (v3 : Int32) (h : aH) : Option (Int32 × aH) :=
  (pWV h 11 v0 34 (.int v3)).bind fun h1 =>
  fX11_bestFastOf_119 k10 v0 v2 v2 h1
theorem tX11_bestFastOf_112 {d : Nat} {z : Int32 × aH} {k10 : Nat → Int32 → Int32 → aH → Option (Int32 × aH)} (hk10 : ∀ (v0 : Nat) (v1 : Int32) (v2 : Int32) (h : aH), k10 v0 v1 v2 h = some z → Ev (d + 4) none mX11_bestFastOf (0, 0) 10 [.ref v0, .int v1, .int v2, .null] [] h (QI z)) (v0 : Nat) (v2 : Int32) (v3 : Int32) (h : aH) (hf : fX11_bestFastOf_112 k10 v0 v2 v3 h = some z) : Ev (d + 4) none mX11_bestFastOf (0, 0) 112 [.ref v0, .null, .int v2, .int v3] [] h (QI z) := 
  go_ok (X := none) (blk := wX11_bestFastOf_112) (np := 119) (tt := 0) (kN := fun xs h st => app [2, 1, 1, 0] (fun v0 v1 v2 => apS [] (fX11_bestFastOf_119 k10 v0 v1 v2 h) st) xs) (kT := fun _ _ _ => none) (kR := kRI)
    (fun xs h st q => jm [2, 1, 1, 0] _ (fun v0 v1 v2 q => apS_ok [] _ (fun st => Ev (d + 4) none mX11_bestFastOf (0, 0) 119 [.ref v0, .int v1, .int v2, .null] st h (QI z)) st (fun q => tX11_bestFastOf_119 hk10 v0 v1 v2 h q) q) q)
    (fun _ _ _ q => nos q)
    kRI_ok (Or.inr rfl) (by decide +kernel) (by decide +kernel) hf
def wX11_bestFastOf_109 : List En := [(.goto 10, 119, 0, 0)]
def fX11_bestFastOf_109 (k10 : Nat → Int32 → Int32 → aH → Option (Int32 × aH)) (v0 : Nat) (v1 : Int32) (v2 : Int32) (h : aH) : Option (Int32 × aH) :=
  fX11_bestFastOf_119 k10 v0 v1 v2 h
theorem tX11_bestFastOf_109 {d : Nat} {z : Int32 × aH} {k10 : Nat → Int32 → Int32 → aH → Option (Int32 × aH)} (hk10 : ∀ (v0 : Nat) (v1 : Int32) (v2 : Int32) (h : aH), k10 v0 v1 v2 h = some z → Ev (d + 4) none mX11_bestFastOf (0, 0) 10 [.ref v0, .int v1, .int v2, .null] [] h (QI z)) (v0 : Nat) (v1 : Int32) (v2 : Int32) (h : aH) (hf : fX11_bestFastOf_109 k10 v0 v1 v2 h = some z) : Ev (d + 4) none mX11_bestFastOf (0, 0) 109 [.ref v0, .int v1, .int v2, .null] [] h (QI z) := 
  go_ok (X := none) (blk := wX11_bestFastOf_109) (np := 112) (tt := 119) (kN := fun _ _ _ => none) (kT := fun xs h st => app [2, 1, 1, 0] (fun v0 v1 v2 => apS [] (fX11_bestFastOf_119 k10 v0 v1 v2 h) st) xs) (kR := kRI)
    (fun _ _ _ q => nos q)
    (fun xs h st q => jm [2, 1, 1, 0] _ (fun v0 v1 v2 q => apS_ok [] _ (fun st => Ev (d + 4) none mX11_bestFastOf (0, 0) 119 [.ref v0, .int v1, .int v2, .null] st h (QI z)) st (fun q => tX11_bestFastOf_119 hk10 v0 v1 v2 h q) q) q)
    kRI_ok (Or.inr rfl) (by decide +kernel) (by decide +kernel) hf
def wX11_bestFastOf_106 : List En := [(.if_icmp .lt 6, 112, 0, 0)]
def fX11_bestFastOf_106 (k10 : Nat → Int32 → Int32 → aH → Option (Int32 × aH)) (v0 : Nat) (v1 : Int32) (v2 : Int32) (v3 : Int32) (s0 : Int32) (s1 : Int32) (h : aH) : Option (Int32 × aH) :=
  if s1 < s0 then fX11_bestFastOf_112 k10 v0 v2 v3 h else fX11_bestFastOf_109 k10 v0 v1 v2 h
theorem tX11_bestFastOf_106 {d : Nat} {z : Int32 × aH} {k10 : Nat → Int32 → Int32 → aH → Option (Int32 × aH)} (hk10 : ∀ (v0 : Nat) (v1 : Int32) (v2 : Int32) (h : aH), k10 v0 v1 v2 h = some z → Ev (d + 4) none mX11_bestFastOf (0, 0) 10 [.ref v0, .int v1, .int v2, .null] [] h (QI z)) (v0 : Nat) (v1 : Int32) (v2 : Int32) (v3 : Int32) (s0 : Int32) (s1 : Int32) (h : aH) (hf : fX11_bestFastOf_106 k10 v0 v1 v2 v3 s0 s1 h = some z) : Ev (d + 4) none mX11_bestFastOf (0, 0) 106 [.ref v0, .int v1, .int v2, .int v3] [.int s0, .int s1] h (QI z) := 
  go_ok (X := none) (blk := wX11_bestFastOf_106) (np := 109) (tt := 112) (kN := fun xs h st => app [2, 1, 1, 0] (fun v0 v1 v2 => apS [] (fX11_bestFastOf_109 k10 v0 v1 v2 h) st) xs) (kT := fun xs h st => app [2, 0, 1, 1] (fun v0 v2 v3 => apS [] (fX11_bestFastOf_112 k10 v0 v2 v3 h) st) xs) (kR := kRI)
    (fun xs h st q => jm [2, 1, 1, 0] _ (fun v0 v1 v2 q => apS_ok [] _ (fun st => Ev (d + 4) none mX11_bestFastOf (0, 0) 109 [.ref v0, .int v1, .int v2, .null] st h (QI z)) st (fun q => tX11_bestFastOf_109 hk10 v0 v1 v2 h q) q) q)
    (fun xs h st q => jm [2, 0, 1, 1] _ (fun v0 v2 v3 q => apS_ok [] _ (fun st => Ev (d + 4) none mX11_bestFastOf (0, 0) 112 [.ref v0, .null, .int v2, .int v3] st h (QI z)) st (fun q => tX11_bestFastOf_112 hk10 v0 v2 v3 h q) q) q)
    kRI_ok (Or.inr rfl) (by decide +kernel) (by decide +kernel) hf
theorem kqX11_bestFastOf_103 : okC mX11_bestFastOf 103 (.invokestatic 330) 258 275 1 1 = true := by decide +kernel
def fX11_bestFastOf_103 (k10 : Nat → Int32 → Int32 → aH → Option (Int32 × aH)) (v0 : Nat) (v1 : Int32) (v2 : Int32) (v3 : Int32) (s0 : Int32) (s1 : Int32) (h : aH) : Option (Int32 × aH) :=
  (gX11_ones s0 h).bind fun r =>
  fX11_bestFastOf_106 k10 v0 v1 v2 v3 r.1 s1 r.2
theorem tX11_bestFastOf_103 {d : Nat} {z : Int32 × aH} {k10 : Nat → Int32 → Int32 → aH → Option (Int32 × aH)} (hk10 : ∀ (v0 : Nat) (v1 : Int32) (v2 : Int32) (h : aH), k10 v0 v1 v2 h = some z → Ev (d + 4) none mX11_bestFastOf (0, 0) 10 [.ref v0, .int v1, .int v2, .null] [] h (QI z)) (v0 : Nat) (v1 : Int32) (v2 : Int32) (v3 : Int32) (s0 : Int32) (s1 : Int32) (h : aH) (hf : fX11_bestFastOf_103 k10 v0 v1 v2 v3 s0 s1 h = some z) : Ev (d + 4) none mX11_bestFastOf (0, 0) 103 [.ref v0, .int v1, .int v2, .int v3] [.int s0, .int s1] h (QI z) := by
  obtain ⟨r, h2, hf⟩ := bnd hf
  refine ev_S kqX11_bestFastOf_103 jX11_ones (zX11_ones (d := d + 3) h2) rfl (Nat.le_of_ble_eq_true rfl) rfl (as := [.int s0]) (rest := [.int s1]) rfl (Nat.le_of_ble_eq_true rfl) (fun _ _ hq => ?_)
  obtain ⟨rfl, rfl⟩ := hq
  exact jm [2, 1, 1, 1] (fun v0 v1 v2 v3 => fX11_bestFastOf_106 k10 v0 v1 v2 v3 r.1 s1 r.2) (fun v0 v1 v2 v3 q => tX11_bestFastOf_106 hk10 v0 v1 v2 v3 r.1 s1 r.2 q) hf
def wX11_bestFastOf_102 : List En := [(.iload_n 1, 0, 0, 0)]
def fX11_bestFastOf_102 (k10 : Nat → Int32 → Int32 → aH → Option (Int32 × aH)) (v0 : Nat) (v1 : Int32) (v2 : Int32) (v3 : Int32) (s0 : Int32) (h : aH) : Option (Int32 × aH) :=
  fX11_bestFastOf_103 k10 v0 v1 v2 v3 v1 s0 h
theorem tX11_bestFastOf_102 {d : Nat} {z : Int32 × aH} {k10 : Nat → Int32 → Int32 → aH → Option (Int32 × aH)} (hk10 : ∀ (v0 : Nat) (v1 : Int32) (v2 : Int32) (h : aH), k10 v0 v1 v2 h = some z → Ev (d + 4) none mX11_bestFastOf (0, 0) 10 [.ref v0, .int v1, .int v2, .null] [] h (QI z)) (v0 : Nat) (v1 : Int32) (v2 : Int32) (v3 : Int32) (s0 : Int32) (h : aH) (hf : fX11_bestFastOf_102 k10 v0 v1 v2 v3 s0 h = some z) : Ev (d + 4) none mX11_bestFastOf (0, 0) 102 [.ref v0, .int v1, .int v2, .int v3] [.int s0] h (QI z) := 
  go_ok (X := none) (blk := wX11_bestFastOf_102) (np := 103) (tt := 0) (kN := fun xs h st => app [2, 1, 1, 1] (fun v0 v1 v2 v3 => apS [1, 1] (fun s0 s1 => fX11_bestFastOf_103 k10 v0 v1 v2 v3 s0 s1 h) st) xs) (kT := fun _ _ _ => none) (kR := kRI)
    (fun xs h st q => jm [2, 1, 1, 1] _ (fun v0 v1 v2 v3 q => apS_ok [1, 1] _ (fun st => Ev (d + 4) none mX11_bestFastOf (0, 0) 103 [.ref v0, .int v1, .int v2, .int v3] st h (QI z)) st (fun s0 s1 q => tX11_bestFastOf_103 hk10 v0 v1 v2 v3 s0 s1 h q) q) q)
    (fun _ _ _ q => nos q)
    kRI_ok (Or.inr rfl) (by decide +kernel) (by decide +kernel) hf
theorem kqX11_bestFastOf_99 : okC mX11_bestFastOf 99 (.invokestatic 330) 258 275 1 1 = true := by decide +kernel
def fX11_bestFastOf_99 (k10 : Nat → Int32 → Int32 → aH → Option (Int32 × aH)) (v0 : Nat) (v1 : Int32) (v2 : Int32) (v3 : Int32) (s0 : Int32) (h : aH) : Option (Int32 × aH) :=
  (gX11_ones s0 h).bind fun r =>
  fX11_bestFastOf_102 k10 v0 v1 v2 v3 r.1 r.2
theorem tX11_bestFastOf_99 {d : Nat} {z : Int32 × aH} {k10 : Nat → Int32 → Int32 → aH → Option (Int32 × aH)} (hk10 : ∀ (v0 : Nat) (v1 : Int32) (v2 : Int32) (h : aH), k10 v0 v1 v2 h = some z → Ev (d + 4) none mX11_bestFastOf (0, 0) 10 [.ref v0, .int v1, .int v2, .null] [] h (QI z)) (v0 : Nat) (v1 : Int32) (v2 : Int32) (v3 : Int32) (s0 : Int32) (h : aH) (hf : fX11_bestFastOf_99 k10 v0 v1 v2 v3 s0 h = some z) : Ev (d + 4) none mX11_bestFastOf (0, 0) 99 [.ref v0, .int v1, .int v2, .int v3] [.int s0] h (QI z) := by
  obtain ⟨r, h2, hf⟩ := bnd hf
  refine ev_S kqX11_bestFastOf_99 jX11_ones (zX11_ones (d := d + 3) h2) rfl (Nat.le_of_ble_eq_true rfl) rfl (as := [.int s0]) (rest := []) rfl (Nat.le_of_ble_eq_true rfl) (fun _ _ hq => ?_)
  obtain ⟨rfl, rfl⟩ := hq
  exact jm [2, 1, 1, 1] (fun v0 v1 v2 v3 => fX11_bestFastOf_102 k10 v0 v1 v2 v3 r.1 r.2) (fun v0 v1 v2 v3 q => tX11_bestFastOf_102 hk10 v0 v1 v2 v3 r.1 r.2 q) hf
def wX11_bestFastOf_98 : List En := [(.iload_n 2, 0, 0, 0)]
def fX11_bestFastOf_98 (k10 : Nat → Int32 → Int32 → aH → Option (Int32 × aH)) (v0 : Nat) (v1 : Int32) (v2 : Int32) (v3 : Int32) (h : aH) : Option (Int32 × aH) :=
  fX11_bestFastOf_99 k10 v0 v1 v2 v3 v2 h
theorem tX11_bestFastOf_98 {d : Nat} {z : Int32 × aH} {k10 : Nat → Int32 → Int32 → aH → Option (Int32 × aH)} (hk10 : ∀ (v0 : Nat) (v1 : Int32) (v2 : Int32) (h : aH), k10 v0 v1 v2 h = some z → Ev (d + 4) none mX11_bestFastOf (0, 0) 10 [.ref v0, .int v1, .int v2, .null] [] h (QI z)) (v0 : Nat) (v1 : Int32) (v2 : Int32) (v3 : Int32) (h : aH) (hf : fX11_bestFastOf_98 k10 v0 v1 v2 v3 h = some z) : Ev (d + 4) none mX11_bestFastOf (0, 0) 98 [.ref v0, .int v1, .int v2, .int v3] [] h (QI z) := 
  go_ok (X := none) (blk := wX11_bestFastOf_98) (np := 99) (tt := 0) (kN := fun xs h st => app [2, 1, 1, 1] (fun v0 v1 v2 v3 => apS [1] (fun s0 => fX11_bestFastOf_99 k10 v0 v1 v2 v3 s0 h) st) xs) (kT := fun _ _ _ => none) (kR := kRI)
    (fun xs h st q => jm [2, 1, 1, 1] _ (fun v0 v1 v2 v3 q => apS_ok [1] _ (fun st => Ev (d + 4) none mX11_bestFastOf (0, 0) 99 [.ref v0, .int v1, .int v2, .int v3] st h (QI z)) st (fun s0 q => tX11_bestFastOf_99 hk10 v0 v1 v2 v3 s0 h q) q) q)
    (fun _ _ _ q => nos q)
    kRI_ok (Or.inr rfl) (by decide +kernel) (by decide +kernel) hf
def wX11_bestFastOf_90 : List En := [(.iload_n 3, 0, 0, 0), (.aload_n 0, 0, 0, 0), (.getfield 342, 209, 11, 34), (.if_icmp .ne 17, 112, 0, 0)]
def fX11_bestFastOf_90 (k10 : Nat → Int32 → Int32 → aH → Option (Int32 × aH)) (v0 : Nat) (v1 : Int32) (v2 : Int32) (v3 : Int32) (h : aH) : Option (Int32 × aH) :=
  (gFI h 11 v0 34).bind fun t1 =>
  if v3 = t1 then fX11_bestFastOf_98 k10 v0 v1 v2 v3 h else fX11_bestFastOf_112 k10 v0 v2 v3 h
theorem tX11_bestFastOf_90 {d : Nat} {z : Int32 × aH} {k10 : Nat → Int32 → Int32 → aH → Option (Int32 × aH)} (hk10 : ∀ (v0 : Nat) (v1 : Int32) (v2 : Int32) (h : aH), k10 v0 v1 v2 h = some z → Ev (d + 4) none mX11_bestFastOf (0, 0) 10 [.ref v0, .int v1, .int v2, .null] [] h (QI z)) (v0 : Nat) (v1 : Int32) (v2 : Int32) (v3 : Int32) (h : aH) (hf : fX11_bestFastOf_90 k10 v0 v1 v2 v3 h = some z) : Ev (d + 4) none mX11_bestFastOf (0, 0) 90 [.ref v0, .int v1, .int v2, .int v3] [] h (QI z) := 
  go_ok (X := none) (blk := wX11_bestFastOf_90) (np := 98) (tt := 112) (kN := fun xs h st => app [2, 1, 1, 1] (fun v0 v1 v2 v3 => apS [] (fX11_bestFastOf_98 k10 v0 v1 v2 v3 h) st) xs) (kT := fun xs h st => app [2, 0, 1, 1] (fun v0 v2 v3 => apS [] (fX11_bestFastOf_112 k10 v0 v2 v3 h) st) xs) (kR := kRI)
    (fun xs h st q => jm [2, 1, 1, 1] _ (fun v0 v1 v2 v3 q => apS_ok [] _ (fun st => Ev (d + 4) none mX11_bestFastOf (0, 0) 98 [.ref v0, .int v1, .int v2, .int v3] st h (QI z)) st (fun q => tX11_bestFastOf_98 hk10 v0 v1 v2 v3 h q) q) q)
    (fun xs h st q => jm [2, 0, 1, 1] _ (fun v0 v2 v3 q => apS_ok [] _ (fun st => Ev (d + 4) none mX11_bestFastOf (0, 0) 112 [.ref v0, .null, .int v2, .int v3] st h (QI z)) st (fun q => tX11_bestFastOf_112 hk10 v0 v2 v3 h q) q) q)
    kRI_ok (Or.inr rfl) (by decide +kernel) (by decide +kernel) hf
def wX11_bestFastOf_82 : List En := [(.iload_n 3, 0, 0, 0), (.aload_n 0, 0, 0, 0), (.getfield 342, 209, 11, 34), (.if_icmp .lt 32, 119, 0, 0)]
def fX11_bestFastOf_82 (k10 : Nat → Int32 → Int32 → aH → Option (Int32 × aH)) (v0 : Nat) (v1 : Int32) (v2 : Int32) (v3 : Int32) (h : aH) : Option (Int32 × aH) :=
  (gFI h 11 v0 34).bind fun t1 =>
  if v3 < t1 then fX11_bestFastOf_119 k10 v0 v1 v2 h else fX11_bestFastOf_90 k10 v0 v1 v2 v3 h
theorem tX11_bestFastOf_82 {d : Nat} {z : Int32 × aH} {k10 : Nat → Int32 → Int32 → aH → Option (Int32 × aH)} (hk10 : ∀ (v0 : Nat) (v1 : Int32) (v2 : Int32) (h : aH), k10 v0 v1 v2 h = some z → Ev (d + 4) none mX11_bestFastOf (0, 0) 10 [.ref v0, .int v1, .int v2, .null] [] h (QI z)) (v0 : Nat) (v1 : Int32) (v2 : Int32) (v3 : Int32) (h : aH) (hf : fX11_bestFastOf_82 k10 v0 v1 v2 v3 h = some z) : Ev (d + 4) none mX11_bestFastOf (0, 0) 82 [.ref v0, .int v1, .int v2, .int v3] [] h (QI z) := 
  go_ok (X := none) (blk := wX11_bestFastOf_82) (np := 90) (tt := 119) (kN := fun xs h st => app [2, 1, 1, 1] (fun v0 v1 v2 v3 => apS [] (fX11_bestFastOf_90 k10 v0 v1 v2 v3 h) st) xs) (kT := fun xs h st => app [2, 1, 1, 0] (fun v0 v1 v2 => apS [] (fX11_bestFastOf_119 k10 v0 v1 v2 h) st) xs) (kR := kRI)
    (fun xs h st q => jm [2, 1, 1, 1] _ (fun v0 v1 v2 v3 q => apS_ok [] _ (fun st => Ev (d + 4) none mX11_bestFastOf (0, 0) 90 [.ref v0, .int v1, .int v2, .int v3] st h (QI z)) st (fun q => tX11_bestFastOf_90 hk10 v0 v1 v2 v3 h q) q) q)
    (fun xs h st q => jm [2, 1, 1, 0] _ (fun v0 v1 v2 q => apS_ok [] _ (fun st => Ev (d + 4) none mX11_bestFastOf (0, 0) 119 [.ref v0, .int v1, .int v2, .null] st h (QI z)) st (fun q => tX11_bestFastOf_119 hk10 v0 v1 v2 h q) q) q)
    kRI_ok (Or.inr rfl) (by decide +kernel) (by decide +kernel) hf
def wX11_bestFastOf_77 : List En := [(.istore_n 3, 0, 0, 0), (.iload_n 1, 0, 0, 0), (.ifCond .lt 33, 112, 0, 0)]
def fX11_bestFastOf_77 (k10 : Nat → Int32 → Int32 → aH → Option (Int32 × aH)) (v0 : Nat) (v1 : Int32) (v2 : Int32) (s0 : Int32) (h : aH) : Option (Int32 × aH) :=
  if v1 < 0 then fX11_bestFastOf_112 k10 v0 v2 s0 h else fX11_bestFastOf_82 k10 v0 v1 v2 s0 h
theorem tX11_bestFastOf_77 {d : Nat} {z : Int32 × aH} {k10 : Nat → Int32 → Int32 → aH → Option (Int32 × aH)} (hk10 : ∀ (v0 : Nat) (v1 : Int32) (v2 : Int32) (h : aH), k10 v0 v1 v2 h = some z → Ev (d + 4) none mX11_bestFastOf (0, 0) 10 [.ref v0, .int v1, .int v2, .null] [] h (QI z)) (v0 : Nat) (v1 : Int32) (v2 : Int32) (s0 : Int32) (h : aH) (hf : fX11_bestFastOf_77 k10 v0 v1 v2 s0 h = some z) : Ev (d + 4) none mX11_bestFastOf (0, 0) 77 [.ref v0, .int v1, .int v2, .null] [.int s0] h (QI z) := 
  go_ok (X := none) (blk := wX11_bestFastOf_77) (np := 82) (tt := 112) (kN := fun xs h st => app [2, 1, 1, 1] (fun v0 v1 v2 v3 => apS [] (fX11_bestFastOf_82 k10 v0 v1 v2 v3 h) st) xs) (kT := fun xs h st => app [2, 0, 1, 1] (fun v0 v2 v3 => apS [] (fX11_bestFastOf_112 k10 v0 v2 v3 h) st) xs) (kR := kRI)
    (fun xs h st q => jm [2, 1, 1, 1] _ (fun v0 v1 v2 v3 q => apS_ok [] _ (fun st => Ev (d + 4) none mX11_bestFastOf (0, 0) 82 [.ref v0, .int v1, .int v2, .int v3] st h (QI z)) st (fun q => tX11_bestFastOf_82 hk10 v0 v1 v2 v3 h q) q) q)
    (fun xs h st q => jm [2, 0, 1, 1] _ (fun v0 v2 v3 q => apS_ok [] _ (fun st => Ev (d + 4) none mX11_bestFastOf (0, 0) 112 [.ref v0, .null, .int v2, .int v3] st h (QI z)) st (fun q => tX11_bestFastOf_112 hk10 v0 v2 v3 h q) q) q)
    kRI_ok (Or.inr rfl) (by decide +kernel) (by decide +kernel) hf
def wX11_bestFastOf_65 : List En := [(.aload_n 0, 0, 0, 0), (.getfield 35, 195, 11, 20), (.bipush 14, 0, 0, 0), (.aload_n 0, 0, 0, 0), (.getfield 257, 201, 11, 26), (.iadd, 0, 0, 0), (.iaload, 0, 0, 0)]
def fX11_bestFastOf_65 (k10 : Nat → Int32 → Int32 → aH → Option (Int32 × aH)) (v0 : Nat) (v1 : Int32) (v2 : Int32) (h : aH) : Option (Int32 × aH) :=
  (gFR h 11 v0 20).bind fun t1 =>
  (gFI h 11 v0 26).bind fun t2 =>
  (aRI (h[t1]?) ((kB 14) + t2)).bind fun t3 =>
  fX11_bestFastOf_77 k10 v0 v1 v2 t3 h
theorem tX11_bestFastOf_65 {d : Nat} {z : Int32 × aH} {k10 : Nat → Int32 → Int32 → aH → Option (Int32 × aH)} (hk10 : ∀ (v0 : Nat) (v1 : Int32) (v2 : Int32) (h : aH), k10 v0 v1 v2 h = some z → Ev (d + 4) none mX11_bestFastOf (0, 0) 10 [.ref v0, .int v1, .int v2, .null] [] h (QI z)) (v0 : Nat) (v1 : Int32) (v2 : Int32) (h : aH) (hf : fX11_bestFastOf_65 k10 v0 v1 v2 h = some z) : Ev (d + 4) none mX11_bestFastOf (0, 0) 65 [.ref v0, .int v1, .int v2, .null] [] h (QI z) := 
  go_ok (X := none) (blk := wX11_bestFastOf_65) (np := 77) (tt := 0) (kN := fun xs h st => app [2, 1, 1, 0] (fun v0 v1 v2 => apS [1] (fun s0 => fX11_bestFastOf_77 k10 v0 v1 v2 s0 h) st) xs) (kT := fun _ _ _ => none) (kR := kRI)
    (fun xs h st q => jm [2, 1, 1, 0] _ (fun v0 v1 v2 q => apS_ok [1] _ (fun st => Ev (d + 4) none mX11_bestFastOf (0, 0) 77 [.ref v0, .int v1, .int v2, .null] st h (QI z)) st (fun s0 q => tX11_bestFastOf_77 hk10 v0 v1 v2 s0 h q) q) q)
    (fun _ _ _ q => nos q)
    kRI_ok (Or.inr rfl) (by decide +kernel) (by decide +kernel) hf
def wX11_bestFastOf_61 : List En := [(.iconst 0, 0, 0, 0), (.goto 15, 77, 0, 0)]
def fX11_bestFastOf_61 (k10 : Nat → Int32 → Int32 → aH → Option (Int32 × aH)) (v0 : Nat) (v1 : Int32) (v2 : Int32) (h : aH) : Option (Int32 × aH) :=
  fX11_bestFastOf_77 k10 v0 v1 v2 (kI 0) h
theorem tX11_bestFastOf_61 {d : Nat} {z : Int32 × aH} {k10 : Nat → Int32 → Int32 → aH → Option (Int32 × aH)} (hk10 : ∀ (v0 : Nat) (v1 : Int32) (v2 : Int32) (h : aH), k10 v0 v1 v2 h = some z → Ev (d + 4) none mX11_bestFastOf (0, 0) 10 [.ref v0, .int v1, .int v2, .null] [] h (QI z)) (v0 : Nat) (v1 : Int32) (v2 : Int32) (h : aH) (hf : fX11_bestFastOf_61 k10 v0 v1 v2 h = some z) : Ev (d + 4) none mX11_bestFastOf (0, 0) 61 [.ref v0, .int v1, .int v2, .null] [] h (QI z) := 
  go_ok (X := none) (blk := wX11_bestFastOf_61) (np := 65) (tt := 77) (kN := fun _ _ _ => none) (kT := fun xs h st => app [2, 1, 1, 0] (fun v0 v1 v2 => apS [1] (fun s0 => fX11_bestFastOf_77 k10 v0 v1 v2 s0 h) st) xs) (kR := kRI)
    (fun _ _ _ q => nos q)
    (fun xs h st q => jm [2, 1, 1, 0] _ (fun v0 v1 v2 q => apS_ok [1] _ (fun st => Ev (d + 4) none mX11_bestFastOf (0, 0) 77 [.ref v0, .int v1, .int v2, .null] st h (QI z)) st (fun s0 q => tX11_bestFastOf_77 hk10 v0 v1 v2 s0 h q) q) q)
    kRI_ok (Or.inr rfl) (by decide +kernel) (by decide +kernel) hf
def wX11_bestFastOf_54 : List En := [(.aload_n 0, 0, 0, 0), (.getfield 257, 201, 11, 26), (.ifCond .ge 7, 65, 0, 0)]
def fX11_bestFastOf_54 (k10 : Nat → Int32 → Int32 → aH → Option (Int32 × aH)) (v0 : Nat) (v1 : Int32) (v2 : Int32) (h : aH) : Option (Int32 × aH) :=
  (gFI h 11 v0 26).bind fun t1 =>
  if t1 < 0 then fX11_bestFastOf_61 k10 v0 v1 v2 h else fX11_bestFastOf_65 k10 v0 v1 v2 h
theorem tX11_bestFastOf_54 {d : Nat} {z : Int32 × aH} {k10 : Nat → Int32 → Int32 → aH → Option (Int32 × aH)} (hk10 : ∀ (v0 : Nat) (v1 : Int32) (v2 : Int32) (h : aH), k10 v0 v1 v2 h = some z → Ev (d + 4) none mX11_bestFastOf (0, 0) 10 [.ref v0, .int v1, .int v2, .null] [] h (QI z)) (v0 : Nat) (v1 : Int32) (v2 : Int32) (h : aH) (hf : fX11_bestFastOf_54 k10 v0 v1 v2 h = some z) : Ev (d + 4) none mX11_bestFastOf (0, 0) 54 [.ref v0, .int v1, .int v2, .null] [] h (QI z) := 
  go_ok (X := none) (blk := wX11_bestFastOf_54) (np := 61) (tt := 65) (kN := fun xs h st => app [2, 1, 1, 0] (fun v0 v1 v2 => apS [] (fX11_bestFastOf_61 k10 v0 v1 v2 h) st) xs) (kT := fun xs h st => app [2, 1, 1, 0] (fun v0 v1 v2 => apS [] (fX11_bestFastOf_65 k10 v0 v1 v2 h) st) xs) (kR := kRI)
    (fun xs h st q => jm [2, 1, 1, 0] _ (fun v0 v1 v2 q => apS_ok [] _ (fun st => Ev (d + 4) none mX11_bestFastOf (0, 0) 61 [.ref v0, .int v1, .int v2, .null] st h (QI z)) st (fun q => tX11_bestFastOf_61 hk10 v0 v1 v2 h q) q) q)
    (fun xs h st q => jm [2, 1, 1, 0] _ (fun v0 v1 v2 q => apS_ok [] _ (fun st => Ev (d + 4) none mX11_bestFastOf (0, 0) 65 [.ref v0, .int v1, .int v2, .null] st h (QI z)) st (fun q => tX11_bestFastOf_65 hk10 v0 v1 v2 h q) q) q)
    kRI_ok (Or.inr rfl) (by decide +kernel) (by decide +kernel) hf
theorem kqX11_bestFastOf_51 : okC mX11_bestFastOf 51 (.invokevirtual 281) 228 245 0 3 = true := by decide +kernel
def fX11_bestFastOf_51 (k10 : Nat → Int32 → Int32 → aH → Option (Int32 × aH)) (v0 : Nat) (v1 : Int32) (v2 : Int32) (s0 : Int32) (s1 : Int32) (s2 : Nat) (s3 : Nat) (h : aH) : Option (Int32 × aH) :=
  (isO h 11 s3).bind fun _ =>
  (gX11_dayOn s3 s2 s1 s0 h).bind fun r =>
  fX11_bestFastOf_54 k10 v0 v1 v2 r
theorem tX11_bestFastOf_51 {d : Nat} {z : Int32 × aH} {k10 : Nat → Int32 → Int32 → aH → Option (Int32 × aH)} (hk10 : ∀ (v0 : Nat) (v1 : Int32) (v2 : Int32) (h : aH), k10 v0 v1 v2 h = some z → Ev (d + 4) none mX11_bestFastOf (0, 0) 10 [.ref v0, .int v1, .int v2, .null] [] h (QI z)) (v0 : Nat) (v1 : Int32) (v2 : Int32) (s0 : Int32) (s1 : Int32) (s2 : Nat) (s3 : Nat) (h : aH) (hf : fX11_bestFastOf_51 k10 v0 v1 v2 s0 s1 s2 s3 h = some z) : Ev (d + 4) none mX11_bestFastOf (0, 0) 51 [.ref v0, .int v1, .int v2, .null] [.int s0, .int s1, .ref s2, .ref s3] h (QI z) := by
  obtain ⟨_, h1, hf⟩ := bnd hf
  obtain ⟨fs, ho⟩ := isO_ok h1
  obtain ⟨r, h2, hf⟩ := bnd hf
  refine ev_V kqX11_bestFastOf_51 jX11_dayOn (zX11_dayOn (d := d + 0) h2) ho rfl rfl (Nat.le_of_ble_eq_true rfl) rfl (as := [.ref s2, .int s1, .int s0]) (rest := []) rfl (Nat.le_of_ble_eq_true rfl) (fun _ _ hq => ?_)
  obtain ⟨rfl, hh⟩ := hq
  rw [hh]
  exact jm [2, 1, 1, 0] (fun v0 v1 v2 => fX11_bestFastOf_54 k10 v0 v1 v2 r) (fun v0 v1 v2 q => tX11_bestFastOf_54 hk10 v0 v1 v2 r q) hf
def wX11_bestFastOf_44 : List En := [(.aload_n 0, 0, 0, 0), (.aload_n 0, 0, 0, 0), (.getfield 35, 195, 11, 20), (.iconst 0, 0, 0, 0), (.iconst 0, 0, 0, 0)]
def fX11_bestFastOf_44 (k10 : Nat → Int32 → Int32 → aH → Option (Int32 × aH)) (v0 : Nat) (v1 : Int32) (v2 : Int32) (h : aH) : Option (Int32 × aH) :=
  (gFR h 11 v0 20).bind fun t1 =>
  fX11_bestFastOf_51 k10 v0 v1 v2 (kI 0) (kI 0) t1 v0 h
theorem tX11_bestFastOf_44 {d : Nat} {z : Int32 × aH} {k10 : Nat → Int32 → Int32 → aH → Option (Int32 × aH)} (hk10 : ∀ (v0 : Nat) (v1 : Int32) (v2 : Int32) (h : aH), k10 v0 v1 v2 h = some z → Ev (d + 4) none mX11_bestFastOf (0, 0) 10 [.ref v0, .int v1, .int v2, .null] [] h (QI z)) (v0 : Nat) (v1 : Int32) (v2 : Int32) (h : aH) (hf : fX11_bestFastOf_44 k10 v0 v1 v2 h = some z) : Ev (d + 4) none mX11_bestFastOf (0, 0) 44 [.ref v0, .int v1, .int v2, .null] [] h (QI z) := 
  go_ok (X := none) (blk := wX11_bestFastOf_44) (np := 51) (tt := 0) (kN := fun xs h st => app [2, 1, 1, 0] (fun v0 v1 v2 => apS [1, 1, 2, 2] (fun s0 s1 s2 s3 => fX11_bestFastOf_51 k10 v0 v1 v2 s0 s1 s2 s3 h) st) xs) (kT := fun _ _ _ => none) (kR := kRI)
    (fun xs h st q => jm [2, 1, 1, 0] _ (fun v0 v1 v2 q => apS_ok [1, 1, 2, 2] _ (fun st => Ev (d + 4) none mX11_bestFastOf (0, 0) 51 [.ref v0, .int v1, .int v2, .null] st h (QI z)) st (fun s0 s1 s2 s3 q => tX11_bestFastOf_51 hk10 v0 v1 v2 s0 s1 s2 s3 h q) q) q)
    (fun _ _ _ q => nos q)
    kRI_ok (Or.inr rfl) (by decide +kernel) (by decide +kernel) hf
theorem kqX11_bestFastOf_41 : okC mX11_bestFastOf 41 (.invokevirtual 281) 228 245 0 3 = true := by decide +kernel
def fX11_bestFastOf_41 (k10 : Nat → Int32 → Int32 → aH → Option (Int32 × aH)) (v0 : Nat) (v1 : Int32) (v2 : Int32) (s0 : Int32) (s1 : Int32) (s2 : Nat) (s3 : Nat) (h : aH) : Option (Int32 × aH) :=
  (isO h 11 s3).bind fun _ =>
  (gX11_dayOn s3 s2 s1 s0 h).bind fun r =>
  fX11_bestFastOf_44 k10 v0 v1 v2 r
theorem tX11_bestFastOf_41 {d : Nat} {z : Int32 × aH} {k10 : Nat → Int32 → Int32 → aH → Option (Int32 × aH)} (hk10 : ∀ (v0 : Nat) (v1 : Int32) (v2 : Int32) (h : aH), k10 v0 v1 v2 h = some z → Ev (d + 4) none mX11_bestFastOf (0, 0) 10 [.ref v0, .int v1, .int v2, .null] [] h (QI z)) (v0 : Nat) (v1 : Int32) (v2 : Int32) (s0 : Int32) (s1 : Int32) (s2 : Nat) (s3 : Nat) (h : aH) (hf : fX11_bestFastOf_41 k10 v0 v1 v2 s0 s1 s2 s3 h = some z) : Ev (d + 4) none mX11_bestFastOf (0, 0) 41 [.ref v0, .int v1, .int v2, .null] [.int s0, .int s1, .ref s2, .ref s3] h (QI z) := by
  obtain ⟨_, h1, hf⟩ := bnd hf
  obtain ⟨fs, ho⟩ := isO_ok h1
  obtain ⟨r, h2, hf⟩ := bnd hf
  refine ev_V kqX11_bestFastOf_41 jX11_dayOn (zX11_dayOn (d := d + 0) h2) ho rfl rfl (Nat.le_of_ble_eq_true rfl) rfl (as := [.ref s2, .int s1, .int s0]) (rest := []) rfl (Nat.le_of_ble_eq_true rfl) (fun _ _ hq => ?_)
  obtain ⟨rfl, hh⟩ := hq
  rw [hh]
  exact jm [2, 1, 1, 0] (fun v0 v1 v2 => fX11_bestFastOf_44 k10 v0 v1 v2 r) (fun v0 v1 v2 q => tX11_bestFastOf_44 hk10 v0 v1 v2 r q) hf
def wX11_bestFastOf_34 : List En := [(.aload_n 0, 0, 0, 0), (.aload_n 0, 0, 0, 0), (.getfield 35, 195, 11, 20), (.iload_n 2, 0, 0, 0), (.iconst 0, 0, 0, 0)]
def fX11_bestFastOf_34 (k10 : Nat → Int32 → Int32 → aH → Option (Int32 × aH)) (v0 : Nat) (v1 : Int32) (v2 : Int32) (h : aH) : Option (Int32 × aH) :=
  (gFR h 11 v0 20).bind fun t1 =>
  fX11_bestFastOf_41 k10 v0 v1 v2 (kI 0) v2 t1 v0 h
theorem tX11_bestFastOf_34 {d : Nat} {z : Int32 × aH} {k10 : Nat → Int32 → Int32 → aH → Option (Int32 × aH)} (hk10 : ∀ (v0 : Nat) (v1 : Int32) (v2 : Int32) (h : aH), k10 v0 v1 v2 h = some z → Ev (d + 4) none mX11_bestFastOf (0, 0) 10 [.ref v0, .int v1, .int v2, .null] [] h (QI z)) (v0 : Nat) (v1 : Int32) (v2 : Int32) (h : aH) (hf : fX11_bestFastOf_34 k10 v0 v1 v2 h = some z) : Ev (d + 4) none mX11_bestFastOf (0, 0) 34 [.ref v0, .int v1, .int v2, .null] [] h (QI z) := 
  go_ok (X := none) (blk := wX11_bestFastOf_34) (np := 41) (tt := 0) (kN := fun xs h st => app [2, 1, 1, 0] (fun v0 v1 v2 => apS [1, 1, 2, 2] (fun s0 s1 s2 s3 => fX11_bestFastOf_41 k10 v0 v1 v2 s0 s1 s2 s3 h) st) xs) (kT := fun _ _ _ => none) (kR := kRI)
    (fun xs h st q => jm [2, 1, 1, 0] _ (fun v0 v1 v2 q => apS_ok [1, 1, 2, 2] _ (fun st => Ev (d + 4) none mX11_bestFastOf (0, 0) 41 [.ref v0, .int v1, .int v2, .null] st h (QI z)) st (fun s0 s1 s2 s3 q => tX11_bestFastOf_41 hk10 v0 v1 v2 s0 s1 s2 s3 h q) q) q)
    (fun _ _ _ q => nos q)
    kRI_ok (Or.inr rfl) (by decide +kernel) (by decide +kernel) hf
theorem kqX11_bestFastOf_31 : okC mX11_bestFastOf 31 (.invokevirtual 278) 220 237 0 0 = true := by decide +kernel
def fX11_bestFastOf_31 (k10 : Nat → Int32 → Int32 → aH → Option (Int32 × aH)) (v0 : Nat) (v1 : Int32) (v2 : Int32) (s0 : Nat) (h : aH) : Option (Int32 × aH) :=
  (isO h 11 s0).bind fun _ =>
  (gX11_begin s0 h).bind fun r =>
  fX11_bestFastOf_34 k10 v0 v1 v2 r
theorem tX11_bestFastOf_31 {d : Nat} {z : Int32 × aH} {k10 : Nat → Int32 → Int32 → aH → Option (Int32 × aH)} (hk10 : ∀ (v0 : Nat) (v1 : Int32) (v2 : Int32) (h : aH), k10 v0 v1 v2 h = some z → Ev (d + 4) none mX11_bestFastOf (0, 0) 10 [.ref v0, .int v1, .int v2, .null] [] h (QI z)) (v0 : Nat) (v1 : Int32) (v2 : Int32) (s0 : Nat) (h : aH) (hf : fX11_bestFastOf_31 k10 v0 v1 v2 s0 h = some z) : Ev (d + 4) none mX11_bestFastOf (0, 0) 31 [.ref v0, .int v1, .int v2, .null] [.ref s0] h (QI z) := by
  obtain ⟨_, h1, hf⟩ := bnd hf
  obtain ⟨fs, ho⟩ := isO_ok h1
  obtain ⟨r, h2, hf⟩ := bnd hf
  refine ev_V kqX11_bestFastOf_31 jX11_begin (zX11_begin (d := d + 2) h2) ho rfl rfl (Nat.le_of_ble_eq_true rfl) rfl (as := []) (rest := []) rfl (Nat.le_of_ble_eq_true rfl) (fun _ _ hq => ?_)
  obtain ⟨rfl, hh⟩ := hq
  rw [hh]
  exact jm [2, 1, 1, 0] (fun v0 v1 v2 => fX11_bestFastOf_34 k10 v0 v1 v2 r) (fun v0 v1 v2 q => tX11_bestFastOf_34 hk10 v0 v1 v2 r q) hf
def wX11_bestFastOf_30 : List En := [(.aload_n 0, 0, 0, 0)]
def fX11_bestFastOf_30 (k10 : Nat → Int32 → Int32 → aH → Option (Int32 × aH)) (v0 : Nat) (v1 : Int32) (v2 : Int32) (h : aH) : Option (Int32 × aH) :=
  fX11_bestFastOf_31 k10 v0 v1 v2 v0 h
theorem tX11_bestFastOf_30 {d : Nat} {z : Int32 × aH} {k10 : Nat → Int32 → Int32 → aH → Option (Int32 × aH)} (hk10 : ∀ (v0 : Nat) (v1 : Int32) (v2 : Int32) (h : aH), k10 v0 v1 v2 h = some z → Ev (d + 4) none mX11_bestFastOf (0, 0) 10 [.ref v0, .int v1, .int v2, .null] [] h (QI z)) (v0 : Nat) (v1 : Int32) (v2 : Int32) (h : aH) (hf : fX11_bestFastOf_30 k10 v0 v1 v2 h = some z) : Ev (d + 4) none mX11_bestFastOf (0, 0) 30 [.ref v0, .int v1, .int v2, .null] [] h (QI z) := 
  go_ok (X := none) (blk := wX11_bestFastOf_30) (np := 31) (tt := 0) (kN := fun xs h st => app [2, 1, 1, 0] (fun v0 v1 v2 => apS [2] (fun s0 => fX11_bestFastOf_31 k10 v0 v1 v2 s0 h) st) xs) (kT := fun _ _ _ => none) (kR := kRI)
    (fun xs h st q => jm [2, 1, 1, 0] _ (fun v0 v1 v2 q => apS_ok [2] _ (fun st => Ev (d + 4) none mX11_bestFastOf (0, 0) 31 [.ref v0, .int v1, .int v2, .null] st h (QI z)) st (fun s0 q => tX11_bestFastOf_31 hk10 v0 v1 v2 s0 h q) q) q)
    (fun _ _ _ q => nos q)
    kRI_ok (Or.inr rfl) (by decide +kernel) (by decide +kernel) hf
def wX11_bestFastOf_27 : List En := [(.goto 92, 119, 0, 0)]
def fX11_bestFastOf_27 (k10 : Nat → Int32 → Int32 → aH → Option (Int32 × aH)) (v0 : Nat) (v1 : Int32) (v2 : Int32) (h : aH) : Option (Int32 × aH) :=
  fX11_bestFastOf_119 k10 v0 v1 v2 h
theorem tX11_bestFastOf_27 {d : Nat} {z : Int32 × aH} {k10 : Nat → Int32 → Int32 → aH → Option (Int32 × aH)} (hk10 : ∀ (v0 : Nat) (v1 : Int32) (v2 : Int32) (h : aH), k10 v0 v1 v2 h = some z → Ev (d + 4) none mX11_bestFastOf (0, 0) 10 [.ref v0, .int v1, .int v2, .null] [] h (QI z)) (v0 : Nat) (v1 : Int32) (v2 : Int32) (h : aH) (hf : fX11_bestFastOf_27 k10 v0 v1 v2 h = some z) : Ev (d + 4) none mX11_bestFastOf (0, 0) 27 [.ref v0, .int v1, .int v2, .null] [] h (QI z) := 
  go_ok (X := none) (blk := wX11_bestFastOf_27) (np := 30) (tt := 119) (kN := fun _ _ _ => none) (kT := fun xs h st => app [2, 1, 1, 0] (fun v0 v1 v2 => apS [] (fX11_bestFastOf_119 k10 v0 v1 v2 h) st) xs) (kR := kRI)
    (fun _ _ _ q => nos q)
    (fun xs h st q => jm [2, 1, 1, 0] _ (fun v0 v1 v2 q => apS_ok [] _ (fun st => Ev (d + 4) none mX11_bestFastOf (0, 0) 119 [.ref v0, .int v1, .int v2, .null] st h (QI z)) st (fun q => tX11_bestFastOf_119 hk10 v0 v1 v2 h q) q) q)
    kRI_ok (Or.inr rfl) (by decide +kernel) (by decide +kernel) hf
def wX11_bestFastOf_24 : List En := [(.ifCond .ne 6, 30, 0, 0)]
def fX11_bestFastOf_24 (k10 : Nat → Int32 → Int32 → aH → Option (Int32 × aH)) (v0 : Nat) (v1 : Int32) (v2 : Int32) (s0 : Int32) (h : aH) : Option (Int32 × aH) :=
  if s0 = 0 then fX11_bestFastOf_27 k10 v0 v1 v2 h else fX11_bestFastOf_30 k10 v0 v1 v2 h
theorem tX11_bestFastOf_24 {d : Nat} {z : Int32 × aH} {k10 : Nat → Int32 → Int32 → aH → Option (Int32 × aH)} (hk10 : ∀ (v0 : Nat) (v1 : Int32) (v2 : Int32) (h : aH), k10 v0 v1 v2 h = some z → Ev (d + 4) none mX11_bestFastOf (0, 0) 10 [.ref v0, .int v1, .int v2, .null] [] h (QI z)) (v0 : Nat) (v1 : Int32) (v2 : Int32) (s0 : Int32) (h : aH) (hf : fX11_bestFastOf_24 k10 v0 v1 v2 s0 h = some z) : Ev (d + 4) none mX11_bestFastOf (0, 0) 24 [.ref v0, .int v1, .int v2, .null] [.int s0] h (QI z) := 
  go_ok (X := none) (blk := wX11_bestFastOf_24) (np := 27) (tt := 30) (kN := fun xs h st => app [2, 1, 1, 0] (fun v0 v1 v2 => apS [] (fX11_bestFastOf_27 k10 v0 v1 v2 h) st) xs) (kT := fun xs h st => app [2, 1, 1, 0] (fun v0 v1 v2 => apS [] (fX11_bestFastOf_30 k10 v0 v1 v2 h) st) xs) (kR := kRI)
    (fun xs h st q => jm [2, 1, 1, 0] _ (fun v0 v1 v2 q => apS_ok [] _ (fun st => Ev (d + 4) none mX11_bestFastOf (0, 0) 27 [.ref v0, .int v1, .int v2, .null] st h (QI z)) st (fun q => tX11_bestFastOf_27 hk10 v0 v1 v2 h q) q) q)
    (fun xs h st q => jm [2, 1, 1, 0] _ (fun v0 v1 v2 q => apS_ok [] _ (fun st => Ev (d + 4) none mX11_bestFastOf (0, 0) 30 [.ref v0, .int v1, .int v2, .null] st h (QI z)) st (fun q => tX11_bestFastOf_30 hk10 v0 v1 v2 h q) q) q)
    kRI_ok (Or.inr rfl) (by decide +kernel) (by decide +kernel) hf
theorem kqX11_bestFastOf_21 : okC mX11_bestFastOf 21 (.invokevirtual 333) 259 276 0 2 = true := by decide +kernel
def fX11_bestFastOf_21 (k10 : Nat → Int32 → Int32 → aH → Option (Int32 × aH)) (v0 : Nat) (v1 : Int32) (v2 : Int32) (s0 : Int32) (s1 : Int32) (s2 : Nat) (h : aH) : Option (Int32 × aH) :=
  (isO h 11 s2).bind fun _ =>
  (gX11_mayFast s2 s1 s0 h).bind fun r =>
  fX11_bestFastOf_24 k10 v0 v1 v2 r.1 r.2
theorem tX11_bestFastOf_21 {d : Nat} {z : Int32 × aH} {k10 : Nat → Int32 → Int32 → aH → Option (Int32 × aH)} (hk10 : ∀ (v0 : Nat) (v1 : Int32) (v2 : Int32) (h : aH), k10 v0 v1 v2 h = some z → Ev (d + 4) none mX11_bestFastOf (0, 0) 10 [.ref v0, .int v1, .int v2, .null] [] h (QI z)) (v0 : Nat) (v1 : Int32) (v2 : Int32) (s0 : Int32) (s1 : Int32) (s2 : Nat) (h : aH) (hf : fX11_bestFastOf_21 k10 v0 v1 v2 s0 s1 s2 h = some z) : Ev (d + 4) none mX11_bestFastOf (0, 0) 21 [.ref v0, .int v1, .int v2, .null] [.int s0, .int s1, .ref s2] h (QI z) := by
  obtain ⟨_, h1, hf⟩ := bnd hf
  obtain ⟨fs, ho⟩ := isO_ok h1
  obtain ⟨r, h2, hf⟩ := bnd hf
  refine ev_V kqX11_bestFastOf_21 jX11_mayFast (zX11_mayFast (d := d + 2) h2) ho rfl rfl (Nat.le_of_ble_eq_true rfl) rfl (as := [.int s1, .int s0]) (rest := []) rfl (Nat.le_of_ble_eq_true rfl) (fun _ _ hq => ?_)
  obtain ⟨-, rfl, rfl⟩ := hq
  exact jm [2, 1, 1, 0] (fun v0 v1 v2 => fX11_bestFastOf_24 k10 v0 v1 v2 r.1 r.2) (fun v0 v1 v2 q => tX11_bestFastOf_24 hk10 v0 v1 v2 r.1 r.2 q) hf
def wX11_bestFastOf_18 : List En := [(.aload_n 0, 0, 0, 0), (.iload_n 2, 0, 0, 0), (.iconst 1, 0, 0, 0)]
def fX11_bestFastOf_18 (k10 : Nat → Int32 → Int32 → aH → Option (Int32 × aH)) (v0 : Nat) (v1 : Int32) (v2 : Int32) (h : aH) : Option (Int32 × aH) :=
  fX11_bestFastOf_21 k10 v0 v1 v2 (kI 1) v2 v0 h
theorem tX11_bestFastOf_18 {d : Nat} {z : Int32 × aH} {k10 : Nat → Int32 → Int32 → aH → Option (Int32 × aH)} (hk10 : ∀ (v0 : Nat) (v1 : Int32) (v2 : Int32) (h : aH), k10 v0 v1 v2 h = some z → Ev (d + 4) none mX11_bestFastOf (0, 0) 10 [.ref v0, .int v1, .int v2, .null] [] h (QI z)) (v0 : Nat) (v1 : Int32) (v2 : Int32) (h : aH) (hf : fX11_bestFastOf_18 k10 v0 v1 v2 h = some z) : Ev (d + 4) none mX11_bestFastOf (0, 0) 18 [.ref v0, .int v1, .int v2, .null] [] h (QI z) := 
  go_ok (X := none) (blk := wX11_bestFastOf_18) (np := 21) (tt := 0) (kN := fun xs h st => app [2, 1, 1, 0] (fun v0 v1 v2 => apS [1, 1, 2] (fun s0 s1 s2 => fX11_bestFastOf_21 k10 v0 v1 v2 s0 s1 s2 h) st) xs) (kT := fun _ _ _ => none) (kR := kRI)
    (fun xs h st q => jm [2, 1, 1, 0] _ (fun v0 v1 v2 q => apS_ok [1, 1, 2] _ (fun st => Ev (d + 4) none mX11_bestFastOf (0, 0) 21 [.ref v0, .int v1, .int v2, .null] st h (QI z)) st (fun s0 s1 s2 q => tX11_bestFastOf_21 hk10 v0 v1 v2 s0 s1 s2 h q) q) q)
    (fun _ _ _ q => nos q)
    kRI_ok (Or.inr rfl) (by decide +kernel) (by decide +kernel) hf
def wX11_bestFastOf_15 : List En := [(.if_icmp .gt 110, 125, 0, 0)]
def fX11_bestFastOf_15 (k10 : Nat → Int32 → Int32 → aH → Option (Int32 × aH)) (v0 : Nat) (v1 : Int32) (v2 : Int32) (s0 : Int32) (s1 : Int32) (h : aH) : Option (Int32 × aH) :=
  if s0 < s1 then fX11_bestFastOf_125 v1 h else fX11_bestFastOf_18 k10 v0 v1 v2 h
theorem tX11_bestFastOf_15 {d : Nat} {z : Int32 × aH} {k10 : Nat → Int32 → Int32 → aH → Option (Int32 × aH)} (hk10 : ∀ (v0 : Nat) (v1 : Int32) (v2 : Int32) (h : aH), k10 v0 v1 v2 h = some z → Ev (d + 4) none mX11_bestFastOf (0, 0) 10 [.ref v0, .int v1, .int v2, .null] [] h (QI z)) (v0 : Nat) (v1 : Int32) (v2 : Int32) (s0 : Int32) (s1 : Int32) (h : aH) (hf : fX11_bestFastOf_15 k10 v0 v1 v2 s0 s1 h = some z) : Ev (d + 4) none mX11_bestFastOf (0, 0) 15 [.ref v0, .int v1, .int v2, .null] [.int s0, .int s1] h (QI z) := 
  go_ok (X := none) (blk := wX11_bestFastOf_15) (np := 18) (tt := 125) (kN := fun xs h st => app [2, 1, 1, 0] (fun v0 v1 v2 => apS [] (fX11_bestFastOf_18 k10 v0 v1 v2 h) st) xs) (kT := fun xs h st => app [0, 1, 0, 0] (fun v1 => apS [] (fX11_bestFastOf_125 v1 h) st) xs) (kR := kRI)
    (fun xs h st q => jm [2, 1, 1, 0] _ (fun v0 v1 v2 q => apS_ok [] _ (fun st => Ev (d + 4) none mX11_bestFastOf (0, 0) 18 [.ref v0, .int v1, .int v2, .null] st h (QI z)) st (fun q => tX11_bestFastOf_18 hk10 v0 v1 v2 h q) q) q)
    (fun xs h st q => jm [0, 1, 0, 0] _ (fun v1 q => apS_ok [] _ (fun st => Ev (d + 4) none mX11_bestFastOf (0, 0) 125 [.null, .int v1, .null, .null] st h (QI z)) st (fun q => tX11_bestFastOf_125 v1 h q) q) q)
    kRI_ok (Or.inr rfl) (by decide +kernel) (by decide +kernel) hf
theorem kqX11_bestFastOf_12 : okC mX11_bestFastOf 12 (.invokevirtual 304) 244 261 0 0 = true := by decide +kernel
def fX11_bestFastOf_12 (k10 : Nat → Int32 → Int32 → aH → Option (Int32 × aH)) (v0 : Nat) (v1 : Int32) (v2 : Int32) (s0 : Nat) (s1 : Int32) (h : aH) : Option (Int32 × aH) :=
  (isO h 11 s0).bind fun _ =>
  (gX11_everybody s0 h).bind fun r =>
  fX11_bestFastOf_15 k10 v0 v1 v2 r.1 s1 r.2
theorem tX11_bestFastOf_12 {d : Nat} {z : Int32 × aH} {k10 : Nat → Int32 → Int32 → aH → Option (Int32 × aH)} (hk10 : ∀ (v0 : Nat) (v1 : Int32) (v2 : Int32) (h : aH), k10 v0 v1 v2 h = some z → Ev (d + 4) none mX11_bestFastOf (0, 0) 10 [.ref v0, .int v1, .int v2, .null] [] h (QI z)) (v0 : Nat) (v1 : Int32) (v2 : Int32) (s0 : Nat) (s1 : Int32) (h : aH) (hf : fX11_bestFastOf_12 k10 v0 v1 v2 s0 s1 h = some z) : Ev (d + 4) none mX11_bestFastOf (0, 0) 12 [.ref v0, .int v1, .int v2, .null] [.ref s0, .int s1] h (QI z) := by
  obtain ⟨_, h1, hf⟩ := bnd hf
  obtain ⟨fs, ho⟩ := isO_ok h1
  obtain ⟨r, h2, hf⟩ := bnd hf
  refine ev_V kqX11_bestFastOf_12 jX11_everybody (zX11_everybody (d := d + 3) h2) ho rfl rfl (Nat.le_of_ble_eq_true rfl) rfl (as := []) (rest := [.int s1]) rfl (Nat.le_of_ble_eq_true rfl) (fun _ _ hq => ?_)
  obtain ⟨rfl, rfl⟩ := hq
  exact jm [2, 1, 1, 0] (fun v0 v1 v2 => fX11_bestFastOf_15 k10 v0 v1 v2 r.1 s1 r.2) (fun v0 v1 v2 q => tX11_bestFastOf_15 hk10 v0 v1 v2 r.1 s1 r.2 q) hf
def wX11_bestFastOf_10 : List En := [(.iload_n 2, 0, 0, 0), (.aload_n 0, 0, 0, 0)]
def fX11_bestFastOf_10 (k10 : Nat → Int32 → Int32 → aH → Option (Int32 × aH)) (v0 : Nat) (v1 : Int32) (v2 : Int32) (h : aH) : Option (Int32 × aH) :=
  fX11_bestFastOf_12 k10 v0 v1 v2 v0 v2 h
theorem tX11_bestFastOf_10 {d : Nat} {z : Int32 × aH} {k10 : Nat → Int32 → Int32 → aH → Option (Int32 × aH)} (hk10 : ∀ (v0 : Nat) (v1 : Int32) (v2 : Int32) (h : aH), k10 v0 v1 v2 h = some z → Ev (d + 4) none mX11_bestFastOf (0, 0) 10 [.ref v0, .int v1, .int v2, .null] [] h (QI z)) (v0 : Nat) (v1 : Int32) (v2 : Int32) (h : aH) (hf : fX11_bestFastOf_10 k10 v0 v1 v2 h = some z) : Ev (d + 4) none mX11_bestFastOf (0, 0) 10 [.ref v0, .int v1, .int v2, .null] [] h (QI z) := 
  go_ok (X := none) (blk := wX11_bestFastOf_10) (np := 12) (tt := 0) (kN := fun xs h st => app [2, 1, 1, 0] (fun v0 v1 v2 => apS [2, 1] (fun s0 s1 => fX11_bestFastOf_12 k10 v0 v1 v2 s0 s1 h) st) xs) (kT := fun _ _ _ => none) (kR := kRI)
    (fun xs h st q => jm [2, 1, 1, 0] _ (fun v0 v1 v2 q => apS_ok [2, 1] _ (fun st => Ev (d + 4) none mX11_bestFastOf (0, 0) 12 [.ref v0, .int v1, .int v2, .null] st h (QI z)) st (fun s0 s1 q => tX11_bestFastOf_12 hk10 v0 v1 v2 s0 s1 h q) q) q)
    (fun _ _ _ q => nos q)
    kRI_ok (Or.inr rfl) (by decide +kernel) (by decide +kernel) hf
def lX11_bestFastOf_10 : Nat → Nat → Int32 → Int32 → aH → Option (Int32 × aH)
  | 0, _, _, _, _ => none
  | n + 1, v0, v1, v2, h => fX11_bestFastOf_10 (lX11_bestFastOf_10 n) v0 v1 v2 h
theorem uX11_bestFastOf_10 {d : Nat} {z : Int32 × aH} : ∀ (n : Nat) (v0 : Nat) (v1 : Int32) (v2 : Int32) (h : aH), lX11_bestFastOf_10 n v0 v1 v2 h = some z → Ev (d + 4) none mX11_bestFastOf (0, 0) 10 [.ref v0, .int v1, .int v2, .null] [] h (QI z) := by
  intro n
  induction n with
  | zero => intro _ _ _ _ q; exact nos (show (none : Option (Int32 × aH)) = some z from q)
  | succ n ih => intro v0 v1 v2 h q; exact tX11_bestFastOf_10 ih v0 v1 v2 h q
def wX11_bestFastOf_0 : List En := [(.bipush (-2), 0, 0, 0), (.istore_n 1, 0, 0, 0), (.aload_n 0, 0, 0, 0), (.iconst (-1), 0, 0, 0), (.putfield 342, 209, 11, 34), (.iconst 0, 0, 0, 0), (.istore_n 2, 0, 0, 0)]
def fX11_bestFastOf_0 (v0 : Nat) (h : aH) : Option (Int32 × aH) :=
  (pWV h 11 v0 34 (.int (kI (-1)))).bind fun h1 =>
  lX11_bestFastOf_10 FU v0 (kB (-2)) (kI 0) h1
theorem tX11_bestFastOf_0 {d : Nat} {z : Int32 × aH} (v0 : Nat) (h : aH) (hf : fX11_bestFastOf_0 v0 h = some z) : Ev (d + 4) none mX11_bestFastOf (0, 0) 0 [.ref v0, .null, .null, .null] [] h (QI z) := 
  go_ok (X := none) (blk := wX11_bestFastOf_0) (np := 10) (tt := 0) (kN := fun xs h st => app [2, 1, 1, 0] (fun v0 v1 v2 => apS [] (lX11_bestFastOf_10 FU v0 v1 v2 h) st) xs) (kT := fun _ _ _ => none) (kR := kRI)
    (fun xs h st q => jm [2, 1, 1, 0] _ (fun v0 v1 v2 q => apS_ok [] _ (fun st => Ev (d + 4) none mX11_bestFastOf (0, 0) 10 [.ref v0, .int v1, .int v2, .null] st h (QI z)) st (fun q => uX11_bestFastOf_10 FU v0 v1 v2 h q) q) q)
    (fun _ _ _ q => nos q)
    kRI_ok (Or.inr rfl) (by decide +kernel) (by decide +kernel) hf
def gX11_bestFastOf (v0 : Nat) (h : aH) : Option (Int32 × aH) := fX11_bestFastOf_0 v0 h
theorem zX11_bestFastOf {d : Nat} {z : Int32 × aH} {v0 : Nat} {h : aH} (q : gX11_bestFastOf v0 h = some z) : CT (d + 4) mX11_bestFastOf (0, 0) [.ref v0] h (QI z) :=
  ct_ev (by decide +kernel) (Nat.le_of_ble_eq_true rfl) QI_r (jm [2, 0, 0, 0] (fun v0 => fX11_bestFastOf_0 v0 h) (fun v0 q => tX11_bestFastOf_0 v0 h q) q)
def wX11_bestFast_23 : List En := [(.ireturn, 0, 0, 0)]
def fX11_bestFast_23 (s0 : Int32) (h : aH) : Option (Int32 × aH) :=
  some (s0, h)
theorem tX11_bestFast_23 {d : Nat} {z : Int32 × aH} (s0 : Int32) (h : aH) (hf : fX11_bestFast_23 s0 h = some z) : Ev (d + 5) none mX11_bestFast (0, 0) 23 [.null] [.int s0] h (QI z) := 
  go_ok (X := none) (blk := wX11_bestFast_23) (np := 24) (tt := 0) (kN := fun _ _ _ => none) (kT := fun _ _ _ => none) (kR := kRI)
    (fun _ _ _ q => nos q)
    (fun _ _ _ q => nos q)
    kRI_ok (Or.inr rfl) (by decide +kernel) (by decide +kernel) hf
theorem kqX11_bestFast_20 : okC mX11_bestFast 20 (.invokevirtual 164) 183 198 0 1 = true := by decide +kernel
def fX11_bestFast_20 (s0 : Int32) (s1 : Nat) (h : aH) : Option (Int32 × aH) :=
  (isO h 11 s1).bind fun _ =>
  (gX11_no s1 s0 h).bind fun r =>
  fX11_bestFast_23 r.1 r.2
theorem tX11_bestFast_20 {d : Nat} {z : Int32 × aH} (s0 : Int32) (s1 : Nat) (h : aH) (hf : fX11_bestFast_20 s0 s1 h = some z) : Ev (d + 5) none mX11_bestFast (0, 0) 20 [.null] [.int s0, .ref s1] h (QI z) := by
  obtain ⟨_, h1, hf⟩ := bnd hf
  obtain ⟨fs, ho⟩ := isO_ok h1
  obtain ⟨r, h2, hf⟩ := bnd hf
  refine ev_V kqX11_bestFast_20 jX11_no (zX11_no (d := d + 4) h2) ho rfl rfl (Nat.le_of_ble_eq_true rfl) rfl (as := [.int s0]) (rest := []) rfl (Nat.le_of_ble_eq_true rfl) (fun _ _ hq => ?_)
  obtain ⟨rfl, rfl⟩ := hq
  exact jm [0] (fX11_bestFast_23 r.1 r.2) (fun q => tX11_bestFast_23 r.1 r.2 q) hf
def wX11_bestFast_18 : List En := [(.aload_n 0, 0, 0, 0), (.iconst 1, 0, 0, 0)]
def fX11_bestFast_18 (v0 : Nat) (h : aH) : Option (Int32 × aH) :=
  fX11_bestFast_20 (kI 1) v0 h
theorem tX11_bestFast_18 {d : Nat} {z : Int32 × aH} (v0 : Nat) (h : aH) (hf : fX11_bestFast_18 v0 h = some z) : Ev (d + 5) none mX11_bestFast (0, 0) 18 [.ref v0] [] h (QI z) := 
  go_ok (X := none) (blk := wX11_bestFast_18) (np := 20) (tt := 0) (kN := fun xs h st => app [0] (apS [1, 2] (fun s0 s1 => fX11_bestFast_20 s0 s1 h) st) xs) (kT := fun _ _ _ => none) (kR := kRI)
    (fun xs h st q => jm [0] _ (fun q => apS_ok [1, 2] _ (fun st => Ev (d + 5) none mX11_bestFast (0, 0) 20 [.null] st h (QI z)) st (fun s0 s1 q => tX11_bestFast_20 s0 s1 h q) q) q)
    (fun _ _ _ q => nos q)
    kRI_ok (Or.inr rfl) (by decide +kernel) (by decide +kernel) hf
def wX11_bestFast_15 : List En := [(.goto 8, 23, 0, 0)]
def fX11_bestFast_15 (s0 : Int32) (h : aH) : Option (Int32 × aH) :=
  fX11_bestFast_23 s0 h
theorem tX11_bestFast_15 {d : Nat} {z : Int32 × aH} (s0 : Int32) (h : aH) (hf : fX11_bestFast_15 s0 h = some z) : Ev (d + 5) none mX11_bestFast (0, 0) 15 [.null] [.int s0] h (QI z) := 
  go_ok (X := none) (blk := wX11_bestFast_15) (np := 18) (tt := 23) (kN := fun _ _ _ => none) (kT := fun xs h st => app [0] (apS [1] (fun s0 => fX11_bestFast_23 s0 h) st) xs) (kR := kRI)
    (fun _ _ _ q => nos q)
    (fun xs h st q => jm [0] _ (fun q => apS_ok [1] _ (fun st => Ev (d + 5) none mX11_bestFast (0, 0) 23 [.null] st h (QI z)) st (fun s0 q => tX11_bestFast_23 s0 h q) q) q)
    kRI_ok (Or.inr rfl) (by decide +kernel) (by decide +kernel) hf
theorem kqX11_bestFast_12 : okC mX11_bestFast 12 (.invokevirtual 345) 262 279 0 0 = true := by decide +kernel
def fX11_bestFast_12 (s0 : Nat) (h : aH) : Option (Int32 × aH) :=
  (isO h 11 s0).bind fun _ =>
  (gX11_bestFastOf s0 h).bind fun r =>
  fX11_bestFast_15 r.1 r.2
theorem tX11_bestFast_12 {d : Nat} {z : Int32 × aH} (s0 : Nat) (h : aH) (hf : fX11_bestFast_12 s0 h = some z) : Ev (d + 5) none mX11_bestFast (0, 0) 12 [.null] [.ref s0] h (QI z) := by
  obtain ⟨_, h1, hf⟩ := bnd hf
  obtain ⟨fs, ho⟩ := isO_ok h1
  obtain ⟨r, h2, hf⟩ := bnd hf
  refine ev_V kqX11_bestFast_12 jX11_bestFastOf (zX11_bestFastOf (d := d + 0) h2) ho rfl rfl (Nat.le_of_ble_eq_true rfl) rfl (as := []) (rest := []) rfl (Nat.le_of_ble_eq_true rfl) (fun _ _ hq => ?_)
  obtain ⟨rfl, rfl⟩ := hq
  exact jm [0] (fX11_bestFast_15 r.1 r.2) (fun q => tX11_bestFast_15 r.1 r.2 q) hf
def wX11_bestFast_11 : List En := [(.aload_n 0, 0, 0, 0)]
def fX11_bestFast_11 (v0 : Nat) (h : aH) : Option (Int32 × aH) :=
  fX11_bestFast_12 v0 h
theorem tX11_bestFast_11 {d : Nat} {z : Int32 × aH} (v0 : Nat) (h : aH) (hf : fX11_bestFast_11 v0 h = some z) : Ev (d + 5) none mX11_bestFast (0, 0) 11 [.ref v0] [] h (QI z) := 
  go_ok (X := none) (blk := wX11_bestFast_11) (np := 12) (tt := 0) (kN := fun xs h st => app [0] (apS [2] (fun s0 => fX11_bestFast_12 s0 h) st) xs) (kT := fun _ _ _ => none) (kR := kRI)
    (fun xs h st q => jm [0] _ (fun q => apS_ok [2] _ (fun st => Ev (d + 5) none mX11_bestFast (0, 0) 12 [.null] st h (QI z)) st (fun s0 q => tX11_bestFast_12 s0 h q) q) q)
    (fun _ _ _ q => nos q)
    kRI_ok (Or.inr rfl) (by decide +kernel) (by decide +kernel) hf
def wX11_bestFast_4 : List En := [(.aload_n 0, 0, 0, 0), (.getfield 174, 189, 11, 14), (.ifCond .eq 10, 18, 0, 0)]
def fX11_bestFast_4 (v0 : Nat) (h : aH) : Option (Int32 × aH) :=
  (gFI h 11 v0 14).bind fun t1 =>
  if t1 = 0 then fX11_bestFast_18 v0 h else fX11_bestFast_11 v0 h
theorem tX11_bestFast_4 {d : Nat} {z : Int32 × aH} (v0 : Nat) (h : aH) (hf : fX11_bestFast_4 v0 h = some z) : Ev (d + 5) none mX11_bestFast (0, 0) 4 [.ref v0] [] h (QI z) := 
  go_ok (X := none) (blk := wX11_bestFast_4) (np := 11) (tt := 18) (kN := fun xs h st => app [2] (fun v0 => apS [] (fX11_bestFast_11 v0 h) st) xs) (kT := fun xs h st => app [2] (fun v0 => apS [] (fX11_bestFast_18 v0 h) st) xs) (kR := kRI)
    (fun xs h st q => jm [2] _ (fun v0 q => apS_ok [] _ (fun st => Ev (d + 5) none mX11_bestFast (0, 0) 11 [.ref v0] st h (QI z)) st (fun q => tX11_bestFast_11 v0 h q) q) q)
    (fun xs h st q => jm [2] _ (fun v0 q => apS_ok [] _ (fun st => Ev (d + 5) none mX11_bestFast (0, 0) 18 [.ref v0] st h (QI z)) st (fun q => tX11_bestFast_18 v0 h q) q) q)
    kRI_ok (Or.inr rfl) (by decide +kernel) (by decide +kernel) hf
theorem kqX11_bestFast_1 : okC mX11_bestFast 1 (.invokevirtual 161) 181 196 0 0 = true := by decide +kernel
def fX11_bestFast_1 (v0 : Nat) (s0 : Nat) (h : aH) : Option (Int32 × aH) :=
  (isO h 11 s0).bind fun _ =>
  (gX11_anew s0 h).bind fun r =>
  fX11_bestFast_4 v0 r
theorem tX11_bestFast_1 {d : Nat} {z : Int32 × aH} (v0 : Nat) (s0 : Nat) (h : aH) (hf : fX11_bestFast_1 v0 s0 h = some z) : Ev (d + 5) none mX11_bestFast (0, 0) 1 [.ref v0] [.ref s0] h (QI z) := by
  obtain ⟨_, h1, hf⟩ := bnd hf
  obtain ⟨fs, ho⟩ := isO_ok h1
  obtain ⟨r, h2, hf⟩ := bnd hf
  refine ev_V kqX11_bestFast_1 jX11_anew (zX11_anew (d := d + 4) h2) ho rfl rfl (Nat.le_of_ble_eq_true rfl) rfl (as := []) (rest := []) rfl (Nat.le_of_ble_eq_true rfl) (fun _ _ hq => ?_)
  obtain ⟨rfl, hh⟩ := hq
  rw [hh]
  exact jm [2] (fun v0 => fX11_bestFast_4 v0 r) (fun v0 q => tX11_bestFast_4 v0 r q) hf
def wX11_bestFast_0 : List En := [(.aload_n 0, 0, 0, 0)]
def fX11_bestFast_0 (v0 : Nat) (h : aH) : Option (Int32 × aH) :=
  fX11_bestFast_1 v0 v0 h
theorem tX11_bestFast_0 {d : Nat} {z : Int32 × aH} (v0 : Nat) (h : aH) (hf : fX11_bestFast_0 v0 h = some z) : Ev (d + 5) none mX11_bestFast (0, 0) 0 [.ref v0] [] h (QI z) := 
  go_ok (X := none) (blk := wX11_bestFast_0) (np := 1) (tt := 0) (kN := fun xs h st => app [2] (fun v0 => apS [2] (fun s0 => fX11_bestFast_1 v0 s0 h) st) xs) (kT := fun _ _ _ => none) (kR := kRI)
    (fun xs h st q => jm [2] _ (fun v0 q => apS_ok [2] _ (fun st => Ev (d + 5) none mX11_bestFast (0, 0) 1 [.ref v0] st h (QI z)) st (fun s0 q => tX11_bestFast_1 v0 s0 h q) q) q)
    (fun _ _ _ q => nos q)
    kRI_ok (Or.inr rfl) (by decide +kernel) (by decide +kernel) hf
def gX11_bestFast (v0 : Nat) (h : aH) : Option (Int32 × aH) := fX11_bestFast_0 v0 h
theorem zX11_bestFast {d : Nat} {z : Int32 × aH} {v0 : Nat} {h : aH} (q : gX11_bestFast v0 h = some z) : CT (d + 5) mX11_bestFast (0, 0) [.ref v0] h (QI z) :=
  ct_ev (by decide +kernel) (Nat.le_of_ble_eq_true rfl) QI_r (jm [2] (fun v0 => fX11_bestFast_0 v0 h) (fun v0 q => tX11_bestFast_0 v0 h q) q)
def wX11_bestWorth_21 : List En := [(.pop, 0, 0, 0), (.aload_n 0, 0, 0, 0), (.getfield 342, 209, 11, 34), (.ireturn, 0, 0, 0)]
def fX11_bestWorth_21 (v0 : Nat) (s0 : Int32) (h : aH) : Option (Int32 × aH) :=
  (gFI h 11 v0 34).bind fun t1 =>
  some (t1, h)
theorem tX11_bestWorth_21 {d : Nat} {z : Int32 × aH} (v0 : Nat) (s0 : Int32) (h : aH) (hf : fX11_bestWorth_21 v0 s0 h = some z) : Ev (d + 5) none mX11_bestWorth (0, 0) 21 [.ref v0] [.int s0] h (QI z) := 
  go_ok (X := none) (blk := wX11_bestWorth_21) (np := 27) (tt := 0) (kN := fun _ _ _ => none) (kT := fun _ _ _ => none) (kR := kRI)
    (fun _ _ _ q => nos q)
    (fun _ _ _ q => nos q)
    kRI_ok (Or.inr rfl) (by decide +kernel) (by decide +kernel) hf
theorem kqX11_bestWorth_18 : okC mX11_bestWorth 18 (.invokevirtual 345) 262 279 0 0 = true := by decide +kernel
def fX11_bestWorth_18 (v0 : Nat) (s0 : Nat) (h : aH) : Option (Int32 × aH) :=
  (isO h 11 s0).bind fun _ =>
  (gX11_bestFastOf s0 h).bind fun r =>
  fX11_bestWorth_21 v0 r.1 r.2
theorem tX11_bestWorth_18 {d : Nat} {z : Int32 × aH} (v0 : Nat) (s0 : Nat) (h : aH) (hf : fX11_bestWorth_18 v0 s0 h = some z) : Ev (d + 5) none mX11_bestWorth (0, 0) 18 [.ref v0] [.ref s0] h (QI z) := by
  obtain ⟨_, h1, hf⟩ := bnd hf
  obtain ⟨fs, ho⟩ := isO_ok h1
  obtain ⟨r, h2, hf⟩ := bnd hf
  refine ev_V kqX11_bestWorth_18 jX11_bestFastOf (zX11_bestFastOf (d := d + 0) h2) ho rfl rfl (Nat.le_of_ble_eq_true rfl) rfl (as := []) (rest := []) rfl (Nat.le_of_ble_eq_true rfl) (fun _ _ hq => ?_)
  obtain ⟨rfl, rfl⟩ := hq
  exact jm [2] (fun v0 => fX11_bestWorth_21 v0 r.1 r.2) (fun v0 q => tX11_bestWorth_21 v0 r.1 r.2 q) hf
def wX11_bestWorth_17 : List En := [(.aload_n 0, 0, 0, 0)]
def fX11_bestWorth_17 (v0 : Nat) (h : aH) : Option (Int32 × aH) :=
  fX11_bestWorth_18 v0 v0 h
theorem tX11_bestWorth_17 {d : Nat} {z : Int32 × aH} (v0 : Nat) (h : aH) (hf : fX11_bestWorth_17 v0 h = some z) : Ev (d + 5) none mX11_bestWorth (0, 0) 17 [.ref v0] [] h (QI z) := 
  go_ok (X := none) (blk := wX11_bestWorth_17) (np := 18) (tt := 0) (kN := fun xs h st => app [2] (fun v0 => apS [2] (fun s0 => fX11_bestWorth_18 v0 s0 h) st) xs) (kT := fun _ _ _ => none) (kR := kRI)
    (fun xs h st q => jm [2] _ (fun v0 q => apS_ok [2] _ (fun st => Ev (d + 5) none mX11_bestWorth (0, 0) 18 [.ref v0] st h (QI z)) st (fun s0 q => tX11_bestWorth_18 v0 s0 h q) q) q)
    (fun _ _ _ q => nos q)
    kRI_ok (Or.inr rfl) (by decide +kernel) (by decide +kernel) hf
def wX11_bestWorth_16 : List En := [(.ireturn, 0, 0, 0)]
def fX11_bestWorth_16 (s0 : Int32) (h : aH) : Option (Int32 × aH) :=
  some (s0, h)
theorem tX11_bestWorth_16 {d : Nat} {z : Int32 × aH} (s0 : Int32) (h : aH) (hf : fX11_bestWorth_16 s0 h = some z) : Ev (d + 5) none mX11_bestWorth (0, 0) 16 [.null] [.int s0] h (QI z) := 
  go_ok (X := none) (blk := wX11_bestWorth_16) (np := 17) (tt := 0) (kN := fun _ _ _ => none) (kT := fun _ _ _ => none) (kR := kRI)
    (fun _ _ _ q => nos q)
    (fun _ _ _ q => nos q)
    kRI_ok (Or.inr rfl) (by decide +kernel) (by decide +kernel) hf
theorem kqX11_bestWorth_13 : okC mX11_bestWorth 13 (.invokevirtual 164) 183 198 0 1 = true := by decide +kernel
def fX11_bestWorth_13 (s0 : Int32) (s1 : Nat) (h : aH) : Option (Int32 × aH) :=
  (isO h 11 s1).bind fun _ =>
  (gX11_no s1 s0 h).bind fun r =>
  fX11_bestWorth_16 r.1 r.2
theorem tX11_bestWorth_13 {d : Nat} {z : Int32 × aH} (s0 : Int32) (s1 : Nat) (h : aH) (hf : fX11_bestWorth_13 s0 s1 h = some z) : Ev (d + 5) none mX11_bestWorth (0, 0) 13 [.null] [.int s0, .ref s1] h (QI z) := by
  obtain ⟨_, h1, hf⟩ := bnd hf
  obtain ⟨fs, ho⟩ := isO_ok h1
  obtain ⟨r, h2, hf⟩ := bnd hf
  refine ev_V kqX11_bestWorth_13 jX11_no (zX11_no (d := d + 4) h2) ho rfl rfl (Nat.le_of_ble_eq_true rfl) rfl (as := [.int s0]) (rest := []) rfl (Nat.le_of_ble_eq_true rfl) (fun _ _ hq => ?_)
  obtain ⟨rfl, rfl⟩ := hq
  exact jm [0] (fX11_bestWorth_16 r.1 r.2) (fun q => tX11_bestWorth_16 r.1 r.2 q) hf
def wX11_bestWorth_11 : List En := [(.aload_n 0, 0, 0, 0), (.iconst 1, 0, 0, 0)]
def fX11_bestWorth_11 (v0 : Nat) (h : aH) : Option (Int32 × aH) :=
  fX11_bestWorth_13 (kI 1) v0 h
theorem tX11_bestWorth_11 {d : Nat} {z : Int32 × aH} (v0 : Nat) (h : aH) (hf : fX11_bestWorth_11 v0 h = some z) : Ev (d + 5) none mX11_bestWorth (0, 0) 11 [.ref v0] [] h (QI z) := 
  go_ok (X := none) (blk := wX11_bestWorth_11) (np := 13) (tt := 0) (kN := fun xs h st => app [0] (apS [1, 2] (fun s0 s1 => fX11_bestWorth_13 s0 s1 h) st) xs) (kT := fun _ _ _ => none) (kR := kRI)
    (fun xs h st q => jm [0] _ (fun q => apS_ok [1, 2] _ (fun st => Ev (d + 5) none mX11_bestWorth (0, 0) 13 [.null] st h (QI z)) st (fun s0 s1 q => tX11_bestWorth_13 s0 s1 h q) q) q)
    (fun _ _ _ q => nos q)
    kRI_ok (Or.inr rfl) (by decide +kernel) (by decide +kernel) hf
def wX11_bestWorth_4 : List En := [(.aload_n 0, 0, 0, 0), (.getfield 174, 189, 11, 14), (.ifCond .ne 9, 17, 0, 0)]
def fX11_bestWorth_4 (v0 : Nat) (h : aH) : Option (Int32 × aH) :=
  (gFI h 11 v0 14).bind fun t1 =>
  if t1 = 0 then fX11_bestWorth_11 v0 h else fX11_bestWorth_17 v0 h
theorem tX11_bestWorth_4 {d : Nat} {z : Int32 × aH} (v0 : Nat) (h : aH) (hf : fX11_bestWorth_4 v0 h = some z) : Ev (d + 5) none mX11_bestWorth (0, 0) 4 [.ref v0] [] h (QI z) := 
  go_ok (X := none) (blk := wX11_bestWorth_4) (np := 11) (tt := 17) (kN := fun xs h st => app [2] (fun v0 => apS [] (fX11_bestWorth_11 v0 h) st) xs) (kT := fun xs h st => app [2] (fun v0 => apS [] (fX11_bestWorth_17 v0 h) st) xs) (kR := kRI)
    (fun xs h st q => jm [2] _ (fun v0 q => apS_ok [] _ (fun st => Ev (d + 5) none mX11_bestWorth (0, 0) 11 [.ref v0] st h (QI z)) st (fun q => tX11_bestWorth_11 v0 h q) q) q)
    (fun xs h st q => jm [2] _ (fun v0 q => apS_ok [] _ (fun st => Ev (d + 5) none mX11_bestWorth (0, 0) 17 [.ref v0] st h (QI z)) st (fun q => tX11_bestWorth_17 v0 h q) q) q)
    kRI_ok (Or.inr rfl) (by decide +kernel) (by decide +kernel) hf
theorem kqX11_bestWorth_1 : okC mX11_bestWorth 1 (.invokevirtual 161) 181 196 0 0 = true := by decide +kernel
def fX11_bestWorth_1 (v0 : Nat) (s0 : Nat) (h : aH) : Option (Int32 × aH) :=
  (isO h 11 s0).bind fun _ =>
  (gX11_anew s0 h).bind fun r =>
  fX11_bestWorth_4 v0 r
theorem tX11_bestWorth_1 {d : Nat} {z : Int32 × aH} (v0 : Nat) (s0 : Nat) (h : aH) (hf : fX11_bestWorth_1 v0 s0 h = some z) : Ev (d + 5) none mX11_bestWorth (0, 0) 1 [.ref v0] [.ref s0] h (QI z) := by
  obtain ⟨_, h1, hf⟩ := bnd hf
  obtain ⟨fs, ho⟩ := isO_ok h1
  obtain ⟨r, h2, hf⟩ := bnd hf
  refine ev_V kqX11_bestWorth_1 jX11_anew (zX11_anew (d := d + 4) h2) ho rfl rfl (Nat.le_of_ble_eq_true rfl) rfl (as := []) (rest := []) rfl (Nat.le_of_ble_eq_true rfl) (fun _ _ hq => ?_)
  obtain ⟨rfl, hh⟩ := hq
  rw [hh]
  exact jm [2] (fun v0 => fX11_bestWorth_4 v0 r) (fun v0 q => tX11_bestWorth_4 v0 r q) hf
def wX11_bestWorth_0 : List En := [(.aload_n 0, 0, 0, 0)]
def fX11_bestWorth_0 (v0 : Nat) (h : aH) : Option (Int32 × aH) :=
  fX11_bestWorth_1 v0 v0 h
theorem tX11_bestWorth_0 {d : Nat} {z : Int32 × aH} (v0 : Nat) (h : aH) (hf : fX11_bestWorth_0 v0 h = some z) : Ev (d + 5) none mX11_bestWorth (0, 0) 0 [.ref v0] [] h (QI z) := 
  go_ok (X := none) (blk := wX11_bestWorth_0) (np := 1) (tt := 0) (kN := fun xs h st => app [2] (fun v0 => apS [2] (fun s0 => fX11_bestWorth_1 v0 s0 h) st) xs) (kT := fun _ _ _ => none) (kR := kRI)
    (fun xs h st q => jm [2] _ (fun v0 q => apS_ok [2] _ (fun st => Ev (d + 5) none mX11_bestWorth (0, 0) 1 [.ref v0] st h (QI z)) st (fun s0 q => tX11_bestWorth_1 v0 s0 h q) q) q)
    (fun _ _ _ q => nos q)
    kRI_ok (Or.inr rfl) (by decide +kernel) (by decide +kernel) hf
def gX11_bestWorth (v0 : Nat) (h : aH) : Option (Int32 × aH) := fX11_bestWorth_0 v0 h
theorem zX11_bestWorth {d : Nat} {z : Int32 × aH} {v0 : Nat} {h : aH} (q : gX11_bestWorth v0 h = some z) : CT (d + 5) mX11_bestWorth (0, 0) [.ref v0] h (QI z) :=
  ct_ev (by decide +kernel) (Nat.le_of_ble_eq_true rfl) QI_r (jm [2] (fun v0 => fX11_bestWorth_0 v0 h) (fun v0 q => tX11_bestWorth_0 v0 h q) q)
def wX11_worthOf_82 : List En := [(.ireturn, 0, 0, 0)]
def fX11_worthOf_82 (s0 : Int32) (h : aH) : Option (Int32 × aH) :=
  some (s0, h)
theorem tX11_worthOf_82 {d : Nat} {z : Int32 × aH} (s0 : Int32) (h : aH) (hf : fX11_worthOf_82 s0 h = some z) : Ev (d + 1) none mX11_worthOf (0, 0) 82 [.null, .null, .null, .null, .null] [.int s0] h (QI z) := 
  go_ok (X := none) (blk := wX11_worthOf_82) (np := 83) (tt := 0) (kN := fun _ _ _ => none) (kT := fun _ _ _ => none) (kR := kRI)
    (fun _ _ _ q => nos q)
    (fun _ _ _ q => nos q)
    kRI_ok (Or.inr rfl) (by decide +kernel) (by decide +kernel) hf
def wX11_worthOf_80 : List En := [(.iadd, 0, 0, 0), (.iaload, 0, 0, 0)]
def fX11_worthOf_80 (s0 : Int32) (s1 : Int32) (s2 : Nat) (h : aH) : Option (Int32 × aH) :=
  (aRI (h[s2]?) (s1 + s0)).bind fun t1 =>
  fX11_worthOf_82 t1 h
theorem tX11_worthOf_80 {d : Nat} {z : Int32 × aH} (s0 : Int32) (s1 : Int32) (s2 : Nat) (h : aH) (hf : fX11_worthOf_80 s0 s1 s2 h = some z) : Ev (d + 1) none mX11_worthOf (0, 0) 80 [.null, .null, .null, .null, .null] [.int s0, .int s1, .ref s2] h (QI z) := 
  go_ok (X := none) (blk := wX11_worthOf_80) (np := 82) (tt := 0) (kN := fun xs h st => app [0, 0, 0, 0, 0] (apS [1] (fun s0 => fX11_worthOf_82 s0 h) st) xs) (kT := fun _ _ _ => none) (kR := kRI)
    (fun xs h st q => jm [0, 0, 0, 0, 0] _ (fun q => apS_ok [1] _ (fun st => Ev (d + 1) none mX11_worthOf (0, 0) 82 [.null, .null, .null, .null, .null] st h (QI z)) st (fun s0 q => tX11_worthOf_82 s0 h q) q) q)
    (fun _ _ _ q => nos q)
    kRI_ok (Or.inr rfl) (by decide +kernel) (by decide +kernel) hf
theorem kqX11_worthOf_77 : okC mX11_worthOf 77 (.invokevirtual 271) 225 242 0 1 = true := by decide +kernel
def fX11_worthOf_77 (s0 : Int32) (s1 : Nat) (s2 : Int32) (s3 : Nat) (h : aH) : Option (Int32 × aH) :=
  (isO h 11 s1).bind fun _ =>
  (gX11_nameAt s1 s0 h).bind fun r =>
  fX11_worthOf_80 r.1 s2 s3 r.2
theorem tX11_worthOf_77 {d : Nat} {z : Int32 × aH} (s0 : Int32) (s1 : Nat) (s2 : Int32) (s3 : Nat) (h : aH) (hf : fX11_worthOf_77 s0 s1 s2 s3 h = some z) : Ev (d + 1) none mX11_worthOf (0, 0) 77 [.null, .null, .null, .null, .null] [.int s0, .ref s1, .int s2, .ref s3] h (QI z) := by
  obtain ⟨_, h1, hf⟩ := bnd hf
  obtain ⟨fs, ho⟩ := isO_ok h1
  obtain ⟨r, h2, hf⟩ := bnd hf
  refine ev_V kqX11_worthOf_77 jX11_nameAt (zX11_nameAt (d := d + 0) h2) ho rfl rfl (Nat.le_of_ble_eq_true rfl) rfl (as := [.int s0]) (rest := [.int s2, .ref s3]) rfl (Nat.le_of_ble_eq_true rfl) (fun _ _ hq => ?_)
  obtain ⟨rfl, rfl⟩ := hq
  exact jm [0, 0, 0, 0, 0] (fX11_worthOf_80 r.1 s2 s3 r.2) (fun q => tX11_worthOf_80 r.1 s2 s3 r.2 q) hf
def wX11_worthOf_69 : List En := [(.aload_n 0, 0, 0, 0), (.getfield 32, 194, 11, 19), (.bipush 14, 0, 0, 0), (.aload_n 0, 0, 0, 0), (.iload_n 2, 0, 0, 0)]
def fX11_worthOf_69 (v0 : Nat) (v2 : Int32) (h : aH) : Option (Int32 × aH) :=
  (gFR h 11 v0 19).bind fun t1 =>
  fX11_worthOf_77 v2 v0 (kB 14) t1 h
theorem tX11_worthOf_69 {d : Nat} {z : Int32 × aH} (v0 : Nat) (v2 : Int32) (h : aH) (hf : fX11_worthOf_69 v0 v2 h = some z) : Ev (d + 1) none mX11_worthOf (0, 0) 69 [.ref v0, .null, .int v2, .null, .null] [] h (QI z) := 
  go_ok (X := none) (blk := wX11_worthOf_69) (np := 77) (tt := 0) (kN := fun xs h st => app [0, 0, 0, 0, 0] (apS [1, 2, 1, 2] (fun s0 s1 s2 s3 => fX11_worthOf_77 s0 s1 s2 s3 h) st) xs) (kT := fun _ _ _ => none) (kR := kRI)
    (fun xs h st q => jm [0, 0, 0, 0, 0] _ (fun q => apS_ok [1, 2, 1, 2] _ (fun st => Ev (d + 1) none mX11_worthOf (0, 0) 77 [.null, .null, .null, .null, .null] st h (QI z)) st (fun s0 s1 s2 s3 q => tX11_worthOf_77 s0 s1 s2 s3 h q) q) q)
    (fun _ _ _ q => nos q)
    kRI_ok (Or.inr rfl) (by decide +kernel) (by decide +kernel) hf
def wX11_worthOf_65 : List En := [(.iconst 0, 0, 0, 0), (.goto 16, 82, 0, 0)]
def fX11_worthOf_65 (h : aH) : Option (Int32 × aH) :=
  fX11_worthOf_82 (kI 0) h
theorem tX11_worthOf_65 {d : Nat} {z : Int32 × aH} (h : aH) (hf : fX11_worthOf_65 h = some z) : Ev (d + 1) none mX11_worthOf (0, 0) 65 [.null, .null, .null, .null, .null] [] h (QI z) := 
  go_ok (X := none) (blk := wX11_worthOf_65) (np := 69) (tt := 82) (kN := fun _ _ _ => none) (kT := fun xs h st => app [0, 0, 0, 0, 0] (apS [1] (fun s0 => fX11_worthOf_82 s0 h) st) xs) (kR := kRI)
    (fun _ _ _ q => nos q)
    (fun xs h st q => jm [0, 0, 0, 0, 0] _ (fun q => apS_ok [1] _ (fun st => Ev (d + 1) none mX11_worthOf (0, 0) 82 [.null, .null, .null, .null, .null] st h (QI z)) st (fun s0 q => tX11_worthOf_82 s0 h q) q) q)
    kRI_ok (Or.inr rfl) (by decide +kernel) (by decide +kernel) hf
def wX11_worthOf_61 : List En := [(.iload_n 2, 0, 0, 0), (.ifCond .ge 7, 69, 0, 0)]
def fX11_worthOf_61 (v0 : Nat) (v2 : Int32) (h : aH) : Option (Int32 × aH) :=
  if v2 < 0 then fX11_worthOf_65 h else fX11_worthOf_69 v0 v2 h
theorem tX11_worthOf_61 {d : Nat} {z : Int32 × aH} (v0 : Nat) (v2 : Int32) (h : aH) (hf : fX11_worthOf_61 v0 v2 h = some z) : Ev (d + 1) none mX11_worthOf (0, 0) 61 [.ref v0, .null, .int v2, .null, .null] [] h (QI z) := 
  go_ok (X := none) (blk := wX11_worthOf_61) (np := 65) (tt := 69) (kN := fun xs h st => app [0, 0, 0, 0, 0] (apS [] (fX11_worthOf_65 h) st) xs) (kT := fun xs h st => app [2, 0, 1, 0, 0] (fun v0 v2 => apS [] (fX11_worthOf_69 v0 v2 h) st) xs) (kR := kRI)
    (fun xs h st q => jm [0, 0, 0, 0, 0] _ (fun q => apS_ok [] _ (fun st => Ev (d + 1) none mX11_worthOf (0, 0) 65 [.null, .null, .null, .null, .null] st h (QI z)) st (fun q => tX11_worthOf_65 h q) q) q)
    (fun xs h st q => jm [2, 0, 1, 0, 0] _ (fun v0 v2 q => apS_ok [] _ (fun st => Ev (d + 1) none mX11_worthOf (0, 0) 69 [.ref v0, .null, .int v2, .null, .null] st h (QI z)) st (fun q => tX11_worthOf_69 v0 v2 h q) q) q)
    kRI_ok (Or.inr rfl) (by decide +kernel) (by decide +kernel) hf
def wX11_worthOf_55 : List En := [(.iinc 3 1, 0, 0, 0), (.goto (-54), 4, 0, 0)]
def fX11_worthOf_55 (k4 : Nat → Int32 → Int32 → Int32 → aH → Option (Int32 × aH)) (v0 : Nat) (v1 : Int32) (v2 : Int32) (v3 : Int32) (h : aH) : Option (Int32 × aH) :=
  k4 v0 v1 v2 (v3 + kI 1) h
theorem tX11_worthOf_55 {d : Nat} {z : Int32 × aH} {k4 : Nat → Int32 → Int32 → Int32 → aH → Option (Int32 × aH)} (hk4 : ∀ (v0 : Nat) (v1 : Int32) (v2 : Int32) (v3 : Int32) (h : aH), k4 v0 v1 v2 v3 h = some z → Ev (d + 1) none mX11_worthOf (0, 0) 4 [.ref v0, .int v1, .int v2, .int v3, .null] [] h (QI z)) (v0 : Nat) (v1 : Int32) (v2 : Int32) (v3 : Int32) (h : aH) (hf : fX11_worthOf_55 k4 v0 v1 v2 v3 h = some z) : Ev (d + 1) none mX11_worthOf (0, 0) 55 [.ref v0, .int v1, .int v2, .int v3, .null] [] h (QI z) := 
  go_ok (X := none) (blk := wX11_worthOf_55) (np := 61) (tt := 4) (kN := fun _ _ _ => none) (kT := fun xs h st => app [2, 1, 1, 1, 0] (fun v0 v1 v2 v3 => apS [] (k4 v0 v1 v2 v3 h) st) xs) (kR := kRI)
    (fun _ _ _ q => nos q)
    (fun xs h st q => jm [2, 1, 1, 1, 0] _ (fun v0 v1 v2 v3 q => apS_ok [] _ (fun st => Ev (d + 1) none mX11_worthOf (0, 0) 4 [.ref v0, .int v1, .int v2, .int v3, .null] st h (QI z)) st (fun q => hk4 v0 v1 v2 v3 h q) q) q)
    kRI_ok (Or.inr rfl) (by decide +kernel) (by decide +kernel) hf
def wX11_worthOf_54 : List En := [(.istore_n 2, 0, 0, 0)]
def fX11_worthOf_54 (k4 : Nat → Int32 → Int32 → Int32 → aH → Option (Int32 × aH)) (v0 : Nat) (v1 : Int32) (v3 : Int32) (s0 : Int32) (h : aH) : Option (Int32 × aH) :=
  fX11_worthOf_55 k4 v0 v1 s0 v3 h
theorem tX11_worthOf_54 {d : Nat} {z : Int32 × aH} {k4 : Nat → Int32 → Int32 → Int32 → aH → Option (Int32 × aH)} (hk4 : ∀ (v0 : Nat) (v1 : Int32) (v2 : Int32) (v3 : Int32) (h : aH), k4 v0 v1 v2 v3 h = some z → Ev (d + 1) none mX11_worthOf (0, 0) 4 [.ref v0, .int v1, .int v2, .int v3, .null] [] h (QI z)) (v0 : Nat) (v1 : Int32) (v3 : Int32) (s0 : Int32) (h : aH) (hf : fX11_worthOf_54 k4 v0 v1 v3 s0 h = some z) : Ev (d + 1) none mX11_worthOf (0, 0) 54 [.ref v0, .int v1, .null, .int v3, .null] [.int s0] h (QI z) := 
  go_ok (X := none) (blk := wX11_worthOf_54) (np := 55) (tt := 0) (kN := fun xs h st => app [2, 1, 1, 1, 0] (fun v0 v1 v2 v3 => apS [] (fX11_worthOf_55 k4 v0 v1 v2 v3 h) st) xs) (kT := fun _ _ _ => none) (kR := kRI)
    (fun xs h st q => jm [2, 1, 1, 1, 0] _ (fun v0 v1 v2 v3 q => apS_ok [] _ (fun st => Ev (d + 1) none mX11_worthOf (0, 0) 55 [.ref v0, .int v1, .int v2, .int v3, .null] st h (QI z)) st (fun q => tX11_worthOf_55 hk4 v0 v1 v2 v3 h q) q) q)
    (fun _ _ _ q => nos q)
    kRI_ok (Or.inr rfl) (by decide +kernel) (by decide +kernel) hf
def wX11_worthOf_53 : List En := [(.iload_n 2, 0, 0, 0)]
def fX11_worthOf_53 (k4 : Nat → Int32 → Int32 → Int32 → aH → Option (Int32 × aH)) (v0 : Nat) (v1 : Int32) (v2 : Int32) (v3 : Int32) (h : aH) : Option (Int32 × aH) :=
  fX11_worthOf_54 k4 v0 v1 v3 v2 h
theorem tX11_worthOf_53 {d : Nat} {z : Int32 × aH} {k4 : Nat → Int32 → Int32 → Int32 → aH → Option (Int32 × aH)} (hk4 : ∀ (v0 : Nat) (v1 : Int32) (v2 : Int32) (v3 : Int32) (h : aH), k4 v0 v1 v2 v3 h = some z → Ev (d + 1) none mX11_worthOf (0, 0) 4 [.ref v0, .int v1, .int v2, .int v3, .null] [] h (QI z)) (v0 : Nat) (v1 : Int32) (v2 : Int32) (v3 : Int32) (h : aH) (hf : fX11_worthOf_53 k4 v0 v1 v2 v3 h = some z) : Ev (d + 1) none mX11_worthOf (0, 0) 53 [.ref v0, .int v1, .int v2, .int v3, .null] [] h (QI z) := 
  go_ok (X := none) (blk := wX11_worthOf_53) (np := 54) (tt := 0) (kN := fun xs h st => app [2, 1, 0, 1, 0] (fun v0 v1 v3 => apS [1] (fun s0 => fX11_worthOf_54 k4 v0 v1 v3 s0 h) st) xs) (kT := fun _ _ _ => none) (kR := kRI)
    (fun xs h st q => jm [2, 1, 0, 1, 0] _ (fun v0 v1 v3 q => apS_ok [1] _ (fun st => Ev (d + 1) none mX11_worthOf (0, 0) 54 [.ref v0, .int v1, .null, .int v3, .null] st h (QI z)) st (fun s0 q => tX11_worthOf_54 hk4 v0 v1 v3 s0 h q) q) q)
    (fun _ _ _ q => nos q)
    kRI_ok (Or.inr rfl) (by decide +kernel) (by decide +kernel) hf
def wX11_worthOf_48 : List En := [(.iload 4, 0, 0, 0), (.goto 4, 54, 0, 0)]
def fX11_worthOf_48 (k4 : Nat → Int32 → Int32 → Int32 → aH → Option (Int32 × aH)) (v0 : Nat) (v1 : Int32) (v3 : Int32) (v4 : Int32) (h : aH) : Option (Int32 × aH) :=
  fX11_worthOf_54 k4 v0 v1 v3 v4 h
theorem tX11_worthOf_48 {d : Nat} {z : Int32 × aH} {k4 : Nat → Int32 → Int32 → Int32 → aH → Option (Int32 × aH)} (hk4 : ∀ (v0 : Nat) (v1 : Int32) (v2 : Int32) (v3 : Int32) (h : aH), k4 v0 v1 v2 v3 h = some z → Ev (d + 1) none mX11_worthOf (0, 0) 4 [.ref v0, .int v1, .int v2, .int v3, .null] [] h (QI z)) (v0 : Nat) (v1 : Int32) (v3 : Int32) (v4 : Int32) (h : aH) (hf : fX11_worthOf_48 k4 v0 v1 v3 v4 h = some z) : Ev (d + 1) none mX11_worthOf (0, 0) 48 [.ref v0, .int v1, .null, .int v3, .int v4] [] h (QI z) := 
  go_ok (X := none) (blk := wX11_worthOf_48) (np := 53) (tt := 54) (kN := fun _ _ _ => none) (kT := fun xs h st => app [2, 1, 0, 1, 0] (fun v0 v1 v3 => apS [1] (fun s0 => fX11_worthOf_54 k4 v0 v1 v3 s0 h) st) xs) (kR := kRI)
    (fun _ _ _ q => nos q)
    (fun xs h st q => jm [2, 1, 0, 1, 0] _ (fun v0 v1 v3 q => apS_ok [1] _ (fun st => Ev (d + 1) none mX11_worthOf (0, 0) 54 [.ref v0, .int v1, .null, .int v3, .null] st h (QI z)) st (fun s0 q => tX11_worthOf_54 hk4 v0 v1 v3 s0 h q) q) q)
    kRI_ok (Or.inr rfl) (by decide +kernel) (by decide +kernel) hf
def wX11_worthOf_40 : List En := [(.istore 4, 0, 0, 0), (.iload 4, 0, 0, 0), (.iload_n 2, 0, 0, 0), (.if_icmp .le 8, 53, 0, 0)]
def fX11_worthOf_40 (k4 : Nat → Int32 → Int32 → Int32 → aH → Option (Int32 × aH)) (v0 : Nat) (v1 : Int32) (v2 : Int32) (v3 : Int32) (s0 : Int32) (h : aH) : Option (Int32 × aH) :=
  if v2 < s0 then fX11_worthOf_48 k4 v0 v1 v3 s0 h else fX11_worthOf_53 k4 v0 v1 v2 v3 h
theorem tX11_worthOf_40 {d : Nat} {z : Int32 × aH} {k4 : Nat → Int32 → Int32 → Int32 → aH → Option (Int32 × aH)} (hk4 : ∀ (v0 : Nat) (v1 : Int32) (v2 : Int32) (v3 : Int32) (h : aH), k4 v0 v1 v2 v3 h = some z → Ev (d + 1) none mX11_worthOf (0, 0) 4 [.ref v0, .int v1, .int v2, .int v3, .null] [] h (QI z)) (v0 : Nat) (v1 : Int32) (v2 : Int32) (v3 : Int32) (s0 : Int32) (h : aH) (hf : fX11_worthOf_40 k4 v0 v1 v2 v3 s0 h = some z) : Ev (d + 1) none mX11_worthOf (0, 0) 40 [.ref v0, .int v1, .int v2, .int v3, .null] [.int s0] h (QI z) := 
  go_ok (X := none) (blk := wX11_worthOf_40) (np := 48) (tt := 53) (kN := fun xs h st => app [2, 1, 0, 1, 1] (fun v0 v1 v3 v4 => apS [] (fX11_worthOf_48 k4 v0 v1 v3 v4 h) st) xs) (kT := fun xs h st => app [2, 1, 1, 1, 0] (fun v0 v1 v2 v3 => apS [] (fX11_worthOf_53 k4 v0 v1 v2 v3 h) st) xs) (kR := kRI)
    (fun xs h st q => jm [2, 1, 0, 1, 1] _ (fun v0 v1 v3 v4 q => apS_ok [] _ (fun st => Ev (d + 1) none mX11_worthOf (0, 0) 48 [.ref v0, .int v1, .null, .int v3, .int v4] st h (QI z)) st (fun q => tX11_worthOf_48 hk4 v0 v1 v3 v4 h q) q) q)
    (fun xs h st q => jm [2, 1, 1, 1, 0] _ (fun v0 v1 v2 v3 q => apS_ok [] _ (fun st => Ev (d + 1) none mX11_worthOf (0, 0) 53 [.ref v0, .int v1, .int v2, .int v3, .null] st h (QI z)) st (fun q => tX11_worthOf_53 hk4 v0 v1 v2 v3 h q) q) q)
    kRI_ok (Or.inr rfl) (by decide +kernel) (by decide +kernel) hf
theorem kqX11_worthOf_37 : okC mX11_worthOf 37 (.invokevirtual 253) 223 240 0 3 = true := by decide +kernel
def fX11_worthOf_37 (k4 : Nat → Int32 → Int32 → Int32 → aH → Option (Int32 × aH)) (v0 : Nat) (v1 : Int32) (v2 : Int32) (v3 : Int32) (s0 : Int32) (s1 : Int32) (s2 : Nat) (s3 : Nat) (h : aH) : Option (Int32 × aH) :=
  (isO h 11 s3).bind fun _ =>
  (gX11_seenOf s3 s2 s1 s0 h).bind fun r =>
  fX11_worthOf_40 k4 v0 v1 v2 v3 r.1 r.2
theorem tX11_worthOf_37 {d : Nat} {z : Int32 × aH} {k4 : Nat → Int32 → Int32 → Int32 → aH → Option (Int32 × aH)} (hk4 : ∀ (v0 : Nat) (v1 : Int32) (v2 : Int32) (v3 : Int32) (h : aH), k4 v0 v1 v2 v3 h = some z → Ev (d + 1) none mX11_worthOf (0, 0) 4 [.ref v0, .int v1, .int v2, .int v3, .null] [] h (QI z)) (v0 : Nat) (v1 : Int32) (v2 : Int32) (v3 : Int32) (s0 : Int32) (s1 : Int32) (s2 : Nat) (s3 : Nat) (h : aH) (hf : fX11_worthOf_37 k4 v0 v1 v2 v3 s0 s1 s2 s3 h = some z) : Ev (d + 1) none mX11_worthOf (0, 0) 37 [.ref v0, .int v1, .int v2, .int v3, .null] [.int s0, .int s1, .ref s2, .ref s3] h (QI z) := by
  obtain ⟨_, h1, hf⟩ := bnd hf
  obtain ⟨fs, ho⟩ := isO_ok h1
  obtain ⟨r, h2, hf⟩ := bnd hf
  refine ev_V kqX11_worthOf_37 jX11_seenOf (zX11_seenOf (d := d + 0) h2) ho rfl rfl (Nat.le_of_ble_eq_true rfl) rfl (as := [.ref s2, .int s1, .int s0]) (rest := []) rfl (Nat.le_of_ble_eq_true rfl) (fun _ _ hq => ?_)
  obtain ⟨rfl, rfl⟩ := hq
  exact jm [2, 1, 1, 1, 0] (fun v0 v1 v2 v3 => fX11_worthOf_40 k4 v0 v1 v2 v3 r.1 r.2) (fun v0 v1 v2 v3 q => tX11_worthOf_40 hk4 v0 v1 v2 v3 r.1 r.2 q) hf
def wX11_worthOf_25 : List En := [(.aload_n 0, 0, 0, 0), (.aload_n 0, 0, 0, 0), (.getfield 35, 195, 11, 20), (.iload_n 3, 0, 0, 0), (.aload_n 0, 0, 0, 0), (.getfield 35, 195, 11, 20), (.iload_n 3, 0, 0, 0), (.iaload, 0, 0, 0)]
def fX11_worthOf_25 (k4 : Nat → Int32 → Int32 → Int32 → aH → Option (Int32 × aH)) (v0 : Nat) (v1 : Int32) (v2 : Int32) (v3 : Int32) (h : aH) : Option (Int32 × aH) :=
  (gFR h 11 v0 20).bind fun t1 =>
  (gFR h 11 v0 20).bind fun t2 =>
  (aRI (h[t2]?) v3).bind fun t3 =>
  fX11_worthOf_37 k4 v0 v1 v2 v3 t3 v3 t1 v0 h
theorem tX11_worthOf_25 {d : Nat} {z : Int32 × aH} {k4 : Nat → Int32 → Int32 → Int32 → aH → Option (Int32 × aH)} (hk4 : ∀ (v0 : Nat) (v1 : Int32) (v2 : Int32) (v3 : Int32) (h : aH), k4 v0 v1 v2 v3 h = some z → Ev (d + 1) none mX11_worthOf (0, 0) 4 [.ref v0, .int v1, .int v2, .int v3, .null] [] h (QI z)) (v0 : Nat) (v1 : Int32) (v2 : Int32) (v3 : Int32) (h : aH) (hf : fX11_worthOf_25 k4 v0 v1 v2 v3 h = some z) : Ev (d + 1) none mX11_worthOf (0, 0) 25 [.ref v0, .int v1, .int v2, .int v3, .null] [] h (QI z) := 
  go_ok (X := none) (blk := wX11_worthOf_25) (np := 37) (tt := 0) (kN := fun xs h st => app [2, 1, 1, 1, 0] (fun v0 v1 v2 v3 => apS [1, 1, 2, 2] (fun s0 s1 s2 s3 => fX11_worthOf_37 k4 v0 v1 v2 v3 s0 s1 s2 s3 h) st) xs) (kT := fun _ _ _ => none) (kR := kRI)
    (fun xs h st q => jm [2, 1, 1, 1, 0] _ (fun v0 v1 v2 v3 q => apS_ok [1, 1, 2, 2] _ (fun st => Ev (d + 1) none mX11_worthOf (0, 0) 37 [.ref v0, .int v1, .int v2, .int v3, .null] st h (QI z)) st (fun s0 s1 s2 s3 q => tX11_worthOf_37 hk4 v0 v1 v2 v3 s0 s1 s2 s3 h q) q) q)
    (fun _ _ _ q => nos q)
    kRI_ok (Or.inr rfl) (by decide +kernel) (by decide +kernel) hf
def wX11_worthOf_22 : List En := [(.goto 33, 55, 0, 0)]
def fX11_worthOf_22 (k4 : Nat → Int32 → Int32 → Int32 → aH → Option (Int32 × aH)) (v0 : Nat) (v1 : Int32) (v2 : Int32) (v3 : Int32) (h : aH) : Option (Int32 × aH) :=
  fX11_worthOf_55 k4 v0 v1 v2 v3 h
theorem tX11_worthOf_22 {d : Nat} {z : Int32 × aH} {k4 : Nat → Int32 → Int32 → Int32 → aH → Option (Int32 × aH)} (hk4 : ∀ (v0 : Nat) (v1 : Int32) (v2 : Int32) (v3 : Int32) (h : aH), k4 v0 v1 v2 v3 h = some z → Ev (d + 1) none mX11_worthOf (0, 0) 4 [.ref v0, .int v1, .int v2, .int v3, .null] [] h (QI z)) (v0 : Nat) (v1 : Int32) (v2 : Int32) (v3 : Int32) (h : aH) (hf : fX11_worthOf_22 k4 v0 v1 v2 v3 h = some z) : Ev (d + 1) none mX11_worthOf (0, 0) 22 [.ref v0, .int v1, .int v2, .int v3, .null] [] h (QI z) := 
  go_ok (X := none) (blk := wX11_worthOf_22) (np := 25) (tt := 55) (kN := fun _ _ _ => none) (kT := fun xs h st => app [2, 1, 1, 1, 0] (fun v0 v1 v2 v3 => apS [] (fX11_worthOf_55 k4 v0 v1 v2 v3 h) st) xs) (kR := kRI)
    (fun _ _ _ q => nos q)
    (fun xs h st q => jm [2, 1, 1, 1, 0] _ (fun v0 v1 v2 v3 q => apS_ok [] _ (fun st => Ev (d + 1) none mX11_worthOf (0, 0) 55 [.ref v0, .int v1, .int v2, .int v3, .null] st h (QI z)) st (fun q => tX11_worthOf_55 hk4 v0 v1 v2 v3 h q) q) q)
    kRI_ok (Or.inr rfl) (by decide +kernel) (by decide +kernel) hf
def wX11_worthOf_19 : List En := [(.ifCond .ne 6, 25, 0, 0)]
def fX11_worthOf_19 (k4 : Nat → Int32 → Int32 → Int32 → aH → Option (Int32 × aH)) (v0 : Nat) (v1 : Int32) (v2 : Int32) (v3 : Int32) (s0 : Int32) (h : aH) : Option (Int32 × aH) :=
  if s0 = 0 then fX11_worthOf_22 k4 v0 v1 v2 v3 h else fX11_worthOf_25 k4 v0 v1 v2 v3 h
theorem tX11_worthOf_19 {d : Nat} {z : Int32 × aH} {k4 : Nat → Int32 → Int32 → Int32 → aH → Option (Int32 × aH)} (hk4 : ∀ (v0 : Nat) (v1 : Int32) (v2 : Int32) (v3 : Int32) (h : aH), k4 v0 v1 v2 v3 h = some z → Ev (d + 1) none mX11_worthOf (0, 0) 4 [.ref v0, .int v1, .int v2, .int v3, .null] [] h (QI z)) (v0 : Nat) (v1 : Int32) (v2 : Int32) (v3 : Int32) (s0 : Int32) (h : aH) (hf : fX11_worthOf_19 k4 v0 v1 v2 v3 s0 h = some z) : Ev (d + 1) none mX11_worthOf (0, 0) 19 [.ref v0, .int v1, .int v2, .int v3, .null] [.int s0] h (QI z) := 
  go_ok (X := none) (blk := wX11_worthOf_19) (np := 22) (tt := 25) (kN := fun xs h st => app [2, 1, 1, 1, 0] (fun v0 v1 v2 v3 => apS [] (fX11_worthOf_22 k4 v0 v1 v2 v3 h) st) xs) (kT := fun xs h st => app [2, 1, 1, 1, 0] (fun v0 v1 v2 v3 => apS [] (fX11_worthOf_25 k4 v0 v1 v2 v3 h) st) xs) (kR := kRI)
    (fun xs h st q => jm [2, 1, 1, 1, 0] _ (fun v0 v1 v2 v3 q => apS_ok [] _ (fun st => Ev (d + 1) none mX11_worthOf (0, 0) 22 [.ref v0, .int v1, .int v2, .int v3, .null] st h (QI z)) st (fun q => tX11_worthOf_22 hk4 v0 v1 v2 v3 h q) q) q)
    (fun xs h st q => jm [2, 1, 1, 1, 0] _ (fun v0 v1 v2 v3 q => apS_ok [] _ (fun st => Ev (d + 1) none mX11_worthOf (0, 0) 25 [.ref v0, .int v1, .int v2, .int v3, .null] st h (QI z)) st (fun q => tX11_worthOf_25 hk4 v0 v1 v2 v3 h q) q) q)
    kRI_ok (Or.inr rfl) (by decide +kernel) (by decide +kernel) hf
theorem kqX11_worthOf_16 : okC mX11_worthOf 16 (.invokestatic 245) 222 239 1 2 = true := by decide +kernel
def fX11_worthOf_16 (k4 : Nat → Int32 → Int32 → Int32 → aH → Option (Int32 × aH)) (v0 : Nat) (v1 : Int32) (v2 : Int32) (v3 : Int32) (s0 : Int32) (s1 : Int32) (h : aH) : Option (Int32 × aH) :=
  (gX11_hasBit s1 s0 h).bind fun r =>
  fX11_worthOf_19 k4 v0 v1 v2 v3 r.1 r.2
theorem tX11_worthOf_16 {d : Nat} {z : Int32 × aH} {k4 : Nat → Int32 → Int32 → Int32 → aH → Option (Int32 × aH)} (hk4 : ∀ (v0 : Nat) (v1 : Int32) (v2 : Int32) (v3 : Int32) (h : aH), k4 v0 v1 v2 v3 h = some z → Ev (d + 1) none mX11_worthOf (0, 0) 4 [.ref v0, .int v1, .int v2, .int v3, .null] [] h (QI z)) (v0 : Nat) (v1 : Int32) (v2 : Int32) (v3 : Int32) (s0 : Int32) (s1 : Int32) (h : aH) (hf : fX11_worthOf_16 k4 v0 v1 v2 v3 s0 s1 h = some z) : Ev (d + 1) none mX11_worthOf (0, 0) 16 [.ref v0, .int v1, .int v2, .int v3, .null] [.int s0, .int s1] h (QI z) := by
  obtain ⟨r, h2, hf⟩ := bnd hf
  refine ev_S kqX11_worthOf_16 jX11_hasBit (zX11_hasBit (d := d + 0) h2) rfl (Nat.le_of_ble_eq_true rfl) rfl (as := [.int s1, .int s0]) (rest := []) rfl (Nat.le_of_ble_eq_true rfl) (fun _ _ hq => ?_)
  obtain ⟨-, rfl, rfl⟩ := hq
  exact jm [2, 1, 1, 1, 0] (fun v0 v1 v2 v3 => fX11_worthOf_19 k4 v0 v1 v2 v3 r.1 r.2) (fun v0 v1 v2 v3 q => tX11_worthOf_19 hk4 v0 v1 v2 v3 r.1 r.2 q) hf
def wX11_worthOf_14 : List En := [(.iload_n 1, 0, 0, 0), (.iload_n 3, 0, 0, 0)]
def fX11_worthOf_14 (k4 : Nat → Int32 → Int32 → Int32 → aH → Option (Int32 × aH)) (v0 : Nat) (v1 : Int32) (v2 : Int32) (v3 : Int32) (h : aH) : Option (Int32 × aH) :=
  fX11_worthOf_16 k4 v0 v1 v2 v3 v3 v1 h
theorem tX11_worthOf_14 {d : Nat} {z : Int32 × aH} {k4 : Nat → Int32 → Int32 → Int32 → aH → Option (Int32 × aH)} (hk4 : ∀ (v0 : Nat) (v1 : Int32) (v2 : Int32) (v3 : Int32) (h : aH), k4 v0 v1 v2 v3 h = some z → Ev (d + 1) none mX11_worthOf (0, 0) 4 [.ref v0, .int v1, .int v2, .int v3, .null] [] h (QI z)) (v0 : Nat) (v1 : Int32) (v2 : Int32) (v3 : Int32) (h : aH) (hf : fX11_worthOf_14 k4 v0 v1 v2 v3 h = some z) : Ev (d + 1) none mX11_worthOf (0, 0) 14 [.ref v0, .int v1, .int v2, .int v3, .null] [] h (QI z) := 
  go_ok (X := none) (blk := wX11_worthOf_14) (np := 16) (tt := 0) (kN := fun xs h st => app [2, 1, 1, 1, 0] (fun v0 v1 v2 v3 => apS [1, 1] (fun s0 s1 => fX11_worthOf_16 k4 v0 v1 v2 v3 s0 s1 h) st) xs) (kT := fun _ _ _ => none) (kR := kRI)
    (fun xs h st q => jm [2, 1, 1, 1, 0] _ (fun v0 v1 v2 v3 q => apS_ok [1, 1] _ (fun st => Ev (d + 1) none mX11_worthOf (0, 0) 16 [.ref v0, .int v1, .int v2, .int v3, .null] st h (QI z)) st (fun s0 s1 q => tX11_worthOf_16 hk4 v0 v1 v2 v3 s0 s1 h q) q) q)
    (fun _ _ _ q => nos q)
    kRI_ok (Or.inr rfl) (by decide +kernel) (by decide +kernel) hf
def wX11_worthOf_4 : List En := [(.iload_n 3, 0, 0, 0), (.aload_n 0, 0, 0, 0), (.getfield 20, 190, 11, 15), (.iconst 3, 0, 0, 0), (.iaload, 0, 0, 0), (.if_icmp .ge 50, 61, 0, 0)]
def fX11_worthOf_4 (k4 : Nat → Int32 → Int32 → Int32 → aH → Option (Int32 × aH)) (v0 : Nat) (v1 : Int32) (v2 : Int32) (v3 : Int32) (h : aH) : Option (Int32 × aH) :=
  (gFR h 11 v0 15).bind fun t1 =>
  (aRI (h[t1]?) (kI 3)).bind fun t2 =>
  if v3 < t2 then fX11_worthOf_14 k4 v0 v1 v2 v3 h else fX11_worthOf_61 v0 v2 h
theorem tX11_worthOf_4 {d : Nat} {z : Int32 × aH} {k4 : Nat → Int32 → Int32 → Int32 → aH → Option (Int32 × aH)} (hk4 : ∀ (v0 : Nat) (v1 : Int32) (v2 : Int32) (v3 : Int32) (h : aH), k4 v0 v1 v2 v3 h = some z → Ev (d + 1) none mX11_worthOf (0, 0) 4 [.ref v0, .int v1, .int v2, .int v3, .null] [] h (QI z)) (v0 : Nat) (v1 : Int32) (v2 : Int32) (v3 : Int32) (h : aH) (hf : fX11_worthOf_4 k4 v0 v1 v2 v3 h = some z) : Ev (d + 1) none mX11_worthOf (0, 0) 4 [.ref v0, .int v1, .int v2, .int v3, .null] [] h (QI z) := 
  go_ok (X := none) (blk := wX11_worthOf_4) (np := 14) (tt := 61) (kN := fun xs h st => app [2, 1, 1, 1, 0] (fun v0 v1 v2 v3 => apS [] (fX11_worthOf_14 k4 v0 v1 v2 v3 h) st) xs) (kT := fun xs h st => app [2, 0, 1, 0, 0] (fun v0 v2 => apS [] (fX11_worthOf_61 v0 v2 h) st) xs) (kR := kRI)
    (fun xs h st q => jm [2, 1, 1, 1, 0] _ (fun v0 v1 v2 v3 q => apS_ok [] _ (fun st => Ev (d + 1) none mX11_worthOf (0, 0) 14 [.ref v0, .int v1, .int v2, .int v3, .null] st h (QI z)) st (fun q => tX11_worthOf_14 hk4 v0 v1 v2 v3 h q) q) q)
    (fun xs h st q => jm [2, 0, 1, 0, 0] _ (fun v0 v2 q => apS_ok [] _ (fun st => Ev (d + 1) none mX11_worthOf (0, 0) 61 [.ref v0, .null, .int v2, .null, .null] st h (QI z)) st (fun q => tX11_worthOf_61 v0 v2 h q) q) q)
    kRI_ok (Or.inr rfl) (by decide +kernel) (by decide +kernel) hf
def lX11_worthOf_4 : Nat → Nat → Int32 → Int32 → Int32 → aH → Option (Int32 × aH)
  | 0, _, _, _, _, _ => none
  | n + 1, v0, v1, v2, v3, h => fX11_worthOf_4 (lX11_worthOf_4 n) v0 v1 v2 v3 h
theorem uX11_worthOf_4 {d : Nat} {z : Int32 × aH} : ∀ (n : Nat) (v0 : Nat) (v1 : Int32) (v2 : Int32) (v3 : Int32) (h : aH), lX11_worthOf_4 n v0 v1 v2 v3 h = some z → Ev (d + 1) none mX11_worthOf (0, 0) 4 [.ref v0, .int v1, .int v2, .int v3, .null] [] h (QI z) := by
  intro n
  induction n with
  | zero => intro _ _ _ _ _ q; exact nos (show (none : Option (Int32 × aH)) = some z from q)
  | succ n ih => intro v0 v1 v2 v3 h q; exact tX11_worthOf_4 ih v0 v1 v2 v3 h q
def wX11_worthOf_0 : List En := [(.iconst (-1), 0, 0, 0), (.istore_n 2, 0, 0, 0), (.iconst 0, 0, 0, 0), (.istore_n 3, 0, 0, 0)]
def fX11_worthOf_0 (v0 : Nat) (v1 : Int32) (h : aH) : Option (Int32 × aH) :=
  lX11_worthOf_4 FU v0 v1 (kI (-1)) (kI 0) h
theorem tX11_worthOf_0 {d : Nat} {z : Int32 × aH} (v0 : Nat) (v1 : Int32) (h : aH) (hf : fX11_worthOf_0 v0 v1 h = some z) : Ev (d + 1) none mX11_worthOf (0, 0) 0 [.ref v0, .int v1, .null, .null, .null] [] h (QI z) := 
  go_ok (X := none) (blk := wX11_worthOf_0) (np := 4) (tt := 0) (kN := fun xs h st => app [2, 1, 1, 1, 0] (fun v0 v1 v2 v3 => apS [] (lX11_worthOf_4 FU v0 v1 v2 v3 h) st) xs) (kT := fun _ _ _ => none) (kR := kRI)
    (fun xs h st q => jm [2, 1, 1, 1, 0] _ (fun v0 v1 v2 v3 q => apS_ok [] _ (fun st => Ev (d + 1) none mX11_worthOf (0, 0) 4 [.ref v0, .int v1, .int v2, .int v3, .null] st h (QI z)) st (fun q => uX11_worthOf_4 FU v0 v1 v2 v3 h q) q) q)
    (fun _ _ _ q => nos q)
    kRI_ok (Or.inr rfl) (by decide +kernel) (by decide +kernel) hf
def gX11_worthOf (v0 : Nat) (v1 : Int32) (h : aH) : Option (Int32 × aH) := fX11_worthOf_0 v0 v1 h
theorem zX11_worthOf {d : Nat} {z : Int32 × aH} {v0 : Nat} {v1 : Int32} {h : aH} (q : gX11_worthOf v0 v1 h = some z) : CT (d + 1) mX11_worthOf (0, 0) [.ref v0, .int v1] h (QI z) :=
  ct_ev (by decide +kernel) (Nat.le_of_ble_eq_true rfl) QI_r (jm [2, 1, 0, 0, 0] (fun v0 v1 => fX11_worthOf_0 v0 v1 h) (fun v0 v1 q => tX11_worthOf_0 v0 v1 h q) q)
def wX11_tablesOf_118 : List En := [(.iload_n 2, 0, 0, 0), (.ireturn, 0, 0, 0)]
def fX11_tablesOf_118 (v2 : Int32) (h : aH) : Option (Int32 × aH) :=
  some (v2, h)
theorem tX11_tablesOf_118 {d : Nat} {z : Int32 × aH} (v2 : Int32) (h : aH) (hf : fX11_tablesOf_118 v2 h = some z) : Ev (d + 3) none mX11_tablesOf (0, 0) 118 [.null, .null, .int v2, .null, .null, .null] [] h (QI z) := 
  go_ok (X := none) (blk := wX11_tablesOf_118) (np := 120) (tt := 0) (kN := fun _ _ _ => none) (kT := fun _ _ _ => none) (kR := kRI)
    (fun _ _ _ q => nos q)
    (fun _ _ _ q => nos q)
    kRI_ok (Or.inr rfl) (by decide +kernel) (by decide +kernel) hf
def wX11_tablesOf_112 : List En := [(.iinc 4 1, 0, 0, 0), (.goto (-72), 43, 0, 0)]
def fX11_tablesOf_112 (k43 : Nat → Int32 → Int32 → Int32 → Int32 → aH → Option (Int32 × aH)) (v0 : Nat) (v1 : Int32) (v2 : Int32) (v3 : Int32) (v4 : Int32) (h : aH) : Option (Int32 × aH) :=
  k43 v0 v1 v2 v3 (v4 + kI 1) h
theorem tX11_tablesOf_112 {d : Nat} {z : Int32 × aH} {k43 : Nat → Int32 → Int32 → Int32 → Int32 → aH → Option (Int32 × aH)} (hk43 : ∀ (v0 : Nat) (v1 : Int32) (v2 : Int32) (v3 : Int32) (v4 : Int32) (h : aH), k43 v0 v1 v2 v3 v4 h = some z → Ev (d + 3) none mX11_tablesOf (0, 0) 43 [.ref v0, .int v1, .int v2, .int v3, .int v4, .null] [] h (QI z)) (v0 : Nat) (v1 : Int32) (v2 : Int32) (v3 : Int32) (v4 : Int32) (h : aH) (hf : fX11_tablesOf_112 k43 v0 v1 v2 v3 v4 h = some z) : Ev (d + 3) none mX11_tablesOf (0, 0) 112 [.ref v0, .int v1, .int v2, .int v3, .int v4, .null] [] h (QI z) := 
  go_ok (X := none) (blk := wX11_tablesOf_112) (np := 118) (tt := 43) (kN := fun _ _ _ => none) (kT := fun xs h st => app [2, 1, 1, 1, 1, 0] (fun v0 v1 v2 v3 v4 => apS [] (k43 v0 v1 v2 v3 v4 h) st) xs) (kR := kRI)
    (fun _ _ _ q => nos q)
    (fun xs h st q => jm [2, 1, 1, 1, 1, 0] _ (fun v0 v1 v2 v3 v4 q => apS_ok [] _ (fun st => Ev (d + 3) none mX11_tablesOf (0, 0) 43 [.ref v0, .int v1, .int v2, .int v3, .int v4, .null] st h (QI z)) st (fun q => hk43 v0 v1 v2 v3 v4 h q) q) q)
    kRI_ok (Or.inr rfl) (by decide +kernel) (by decide +kernel) hf
def wX11_tablesOf_103 : List En := [(.iload 4, 0, 0, 0), (.istore_n 2, 0, 0, 0), (.aload_n 0, 0, 0, 0), (.iload 5, 0, 0, 0), (.putfield 348, 210, 11, 35)]
def fX11_tablesOf_103 (k43 : Nat → Int32 → Int32 → Int32 → Int32 → aH → Option (Int32 × aH)) (v0 : Nat) (v1 : Int32) (v3 : Int32) (v4 : Int32) (v5 : Int32) (h : aH) : Option (Int32 × aH) :=
  (pWV h 11 v0 35 (.int v5)).bind fun h1 =>
  fX11_tablesOf_112 k43 v0 v1 v4 v3 v4 h1
theorem tX11_tablesOf_103 {d : Nat} {z : Int32 × aH} {k43 : Nat → Int32 → Int32 → Int32 → Int32 → aH → Option (Int32 × aH)} (hk43 : ∀ (v0 : Nat) (v1 : Int32) (v2 : Int32) (v3 : Int32) (v4 : Int32) (h : aH), k43 v0 v1 v2 v3 v4 h = some z → Ev (d + 3) none mX11_tablesOf (0, 0) 43 [.ref v0, .int v1, .int v2, .int v3, .int v4, .null] [] h (QI z)) (v0 : Nat) (v1 : Int32) (v3 : Int32) (v4 : Int32) (v5 : Int32) (h : aH) (hf : fX11_tablesOf_103 k43 v0 v1 v3 v4 v5 h = some z) : Ev (d + 3) none mX11_tablesOf (0, 0) 103 [.ref v0, .int v1, .null, .int v3, .int v4, .int v5] [] h (QI z) := 
  go_ok (X := none) (blk := wX11_tablesOf_103) (np := 112) (tt := 0) (kN := fun xs h st => app [2, 1, 1, 1, 1, 0] (fun v0 v1 v2 v3 v4 => apS [] (fX11_tablesOf_112 k43 v0 v1 v2 v3 v4 h) st) xs) (kT := fun _ _ _ => none) (kR := kRI)
    (fun xs h st q => jm [2, 1, 1, 1, 1, 0] _ (fun v0 v1 v2 v3 v4 q => apS_ok [] _ (fun st => Ev (d + 3) none mX11_tablesOf (0, 0) 112 [.ref v0, .int v1, .int v2, .int v3, .int v4, .null] st h (QI z)) st (fun q => tX11_tablesOf_112 hk43 v0 v1 v2 v3 v4 h q) q) q)
    (fun _ _ _ q => nos q)
    kRI_ok (Or.inr rfl) (by decide +kernel) (by decide +kernel) hf
def wX11_tablesOf_100 : List En := [(.goto 12, 112, 0, 0)]
def fX11_tablesOf_100 (k43 : Nat → Int32 → Int32 → Int32 → Int32 → aH → Option (Int32 × aH)) (v0 : Nat) (v1 : Int32) (v2 : Int32) (v3 : Int32) (v4 : Int32) (h : aH) : Option (Int32 × aH) :=
  fX11_tablesOf_112 k43 v0 v1 v2 v3 v4 h
theorem tX11_tablesOf_100 {d : Nat} {z : Int32 × aH} {k43 : Nat → Int32 → Int32 → Int32 → Int32 → aH → Option (Int32 × aH)} (hk43 : ∀ (v0 : Nat) (v1 : Int32) (v2 : Int32) (v3 : Int32) (v4 : Int32) (h : aH), k43 v0 v1 v2 v3 v4 h = some z → Ev (d + 3) none mX11_tablesOf (0, 0) 43 [.ref v0, .int v1, .int v2, .int v3, .int v4, .null] [] h (QI z)) (v0 : Nat) (v1 : Int32) (v2 : Int32) (v3 : Int32) (v4 : Int32) (h : aH) (hf : fX11_tablesOf_100 k43 v0 v1 v2 v3 v4 h = some z) : Ev (d + 3) none mX11_tablesOf (0, 0) 100 [.ref v0, .int v1, .int v2, .int v3, .int v4, .null] [] h (QI z) := 
  go_ok (X := none) (blk := wX11_tablesOf_100) (np := 103) (tt := 112) (kN := fun _ _ _ => none) (kT := fun xs h st => app [2, 1, 1, 1, 1, 0] (fun v0 v1 v2 v3 v4 => apS [] (fX11_tablesOf_112 k43 v0 v1 v2 v3 v4 h) st) xs) (kR := kRI)
    (fun _ _ _ q => nos q)
    (fun xs h st q => jm [2, 1, 1, 1, 1, 0] _ (fun v0 v1 v2 v3 v4 q => apS_ok [] _ (fun st => Ev (d + 3) none mX11_tablesOf (0, 0) 112 [.ref v0, .int v1, .int v2, .int v3, .int v4, .null] st h (QI z)) st (fun q => tX11_tablesOf_112 hk43 v0 v1 v2 v3 v4 h q) q) q)
    kRI_ok (Or.inr rfl) (by decide +kernel) (by decide +kernel) hf
def wX11_tablesOf_91 : List En := [(.iload 5, 0, 0, 0), (.aload_n 0, 0, 0, 0), (.getfield 348, 210, 11, 35), (.if_icmp .gt 6, 103, 0, 0)]
def fX11_tablesOf_91 (k43 : Nat → Int32 → Int32 → Int32 → Int32 → aH → Option (Int32 × aH)) (v0 : Nat) (v1 : Int32) (v2 : Int32) (v3 : Int32) (v4 : Int32) (v5 : Int32) (h : aH) : Option (Int32 × aH) :=
  (gFI h 11 v0 35).bind fun t1 =>
  if t1 < v5 then fX11_tablesOf_103 k43 v0 v1 v3 v4 v5 h else fX11_tablesOf_100 k43 v0 v1 v2 v3 v4 h
theorem tX11_tablesOf_91 {d : Nat} {z : Int32 × aH} {k43 : Nat → Int32 → Int32 → Int32 → Int32 → aH → Option (Int32 × aH)} (hk43 : ∀ (v0 : Nat) (v1 : Int32) (v2 : Int32) (v3 : Int32) (v4 : Int32) (h : aH), k43 v0 v1 v2 v3 v4 h = some z → Ev (d + 3) none mX11_tablesOf (0, 0) 43 [.ref v0, .int v1, .int v2, .int v3, .int v4, .null] [] h (QI z)) (v0 : Nat) (v1 : Int32) (v2 : Int32) (v3 : Int32) (v4 : Int32) (v5 : Int32) (h : aH) (hf : fX11_tablesOf_91 k43 v0 v1 v2 v3 v4 v5 h = some z) : Ev (d + 3) none mX11_tablesOf (0, 0) 91 [.ref v0, .int v1, .int v2, .int v3, .int v4, .int v5] [] h (QI z) := 
  go_ok (X := none) (blk := wX11_tablesOf_91) (np := 100) (tt := 103) (kN := fun xs h st => app [2, 1, 1, 1, 1, 0] (fun v0 v1 v2 v3 v4 => apS [] (fX11_tablesOf_100 k43 v0 v1 v2 v3 v4 h) st) xs) (kT := fun xs h st => app [2, 1, 0, 1, 1, 1] (fun v0 v1 v3 v4 v5 => apS [] (fX11_tablesOf_103 k43 v0 v1 v3 v4 v5 h) st) xs) (kR := kRI)
    (fun xs h st q => jm [2, 1, 1, 1, 1, 0] _ (fun v0 v1 v2 v3 v4 q => apS_ok [] _ (fun st => Ev (d + 3) none mX11_tablesOf (0, 0) 100 [.ref v0, .int v1, .int v2, .int v3, .int v4, .null] st h (QI z)) st (fun q => tX11_tablesOf_100 hk43 v0 v1 v2 v3 v4 h q) q) q)
    (fun xs h st q => jm [2, 1, 0, 1, 1, 1] _ (fun v0 v1 v3 v4 v5 q => apS_ok [] _ (fun st => Ev (d + 3) none mX11_tablesOf (0, 0) 103 [.ref v0, .int v1, .null, .int v3, .int v4, .int v5] st h (QI z)) st (fun q => tX11_tablesOf_103 hk43 v0 v1 v3 v4 v5 h q) q) q)
    kRI_ok (Or.inr rfl) (by decide +kernel) (by decide +kernel) hf
def wX11_tablesOf_84 : List En := [(.iadd, 0, 0, 0), (.istore 5, 0, 0, 0), (.iload_n 2, 0, 0, 0), (.ifCond .lt 15, 103, 0, 0)]
def fX11_tablesOf_84 (k43 : Nat → Int32 → Int32 → Int32 → Int32 → aH → Option (Int32 × aH)) (v0 : Nat) (v1 : Int32) (v2 : Int32) (v3 : Int32) (v4 : Int32) (s0 : Int32) (s1 : Int32) (h : aH) : Option (Int32 × aH) :=
  if v2 < 0 then fX11_tablesOf_103 k43 v0 v1 v3 v4 (s1 + s0) h else fX11_tablesOf_91 k43 v0 v1 v2 v3 v4 (s1 + s0) h
theorem tX11_tablesOf_84 {d : Nat} {z : Int32 × aH} {k43 : Nat → Int32 → Int32 → Int32 → Int32 → aH → Option (Int32 × aH)} (hk43 : ∀ (v0 : Nat) (v1 : Int32) (v2 : Int32) (v3 : Int32) (v4 : Int32) (h : aH), k43 v0 v1 v2 v3 v4 h = some z → Ev (d + 3) none mX11_tablesOf (0, 0) 43 [.ref v0, .int v1, .int v2, .int v3, .int v4, .null] [] h (QI z)) (v0 : Nat) (v1 : Int32) (v2 : Int32) (v3 : Int32) (v4 : Int32) (s0 : Int32) (s1 : Int32) (h : aH) (hf : fX11_tablesOf_84 k43 v0 v1 v2 v3 v4 s0 s1 h = some z) : Ev (d + 3) none mX11_tablesOf (0, 0) 84 [.ref v0, .int v1, .int v2, .int v3, .int v4, .null] [.int s0, .int s1] h (QI z) := 
  go_ok (X := none) (blk := wX11_tablesOf_84) (np := 91) (tt := 103) (kN := fun xs h st => app [2, 1, 1, 1, 1, 1] (fun v0 v1 v2 v3 v4 v5 => apS [] (fX11_tablesOf_91 k43 v0 v1 v2 v3 v4 v5 h) st) xs) (kT := fun xs h st => app [2, 1, 0, 1, 1, 1] (fun v0 v1 v3 v4 v5 => apS [] (fX11_tablesOf_103 k43 v0 v1 v3 v4 v5 h) st) xs) (kR := kRI)
    (fun xs h st q => jm [2, 1, 1, 1, 1, 1] _ (fun v0 v1 v2 v3 v4 v5 q => apS_ok [] _ (fun st => Ev (d + 3) none mX11_tablesOf (0, 0) 91 [.ref v0, .int v1, .int v2, .int v3, .int v4, .int v5] st h (QI z)) st (fun q => tX11_tablesOf_91 hk43 v0 v1 v2 v3 v4 v5 h q) q) q)
    (fun xs h st q => jm [2, 1, 0, 1, 1, 1] _ (fun v0 v1 v3 v4 v5 q => apS_ok [] _ (fun st => Ev (d + 3) none mX11_tablesOf (0, 0) 103 [.ref v0, .int v1, .null, .int v3, .int v4, .int v5] st h (QI z)) st (fun q => tX11_tablesOf_103 hk43 v0 v1 v3 v4 v5 h q) q) q)
    kRI_ok (Or.inr rfl) (by decide +kernel) (by decide +kernel) hf
theorem kqX11_tablesOf_81 : okC mX11_tablesOf 81 (.invokevirtual 351) 266 283 0 1 = true := by decide +kernel
def fX11_tablesOf_81 (k43 : Nat → Int32 → Int32 → Int32 → Int32 → aH → Option (Int32 × aH)) (v0 : Nat) (v1 : Int32) (v2 : Int32) (v3 : Int32) (v4 : Int32) (s0 : Int32) (s1 : Nat) (s2 : Int32) (h : aH) : Option (Int32 × aH) :=
  (isO h 11 s1).bind fun _ =>
  (gX11_worthOf s1 s0 h).bind fun r =>
  fX11_tablesOf_84 k43 v0 v1 v2 v3 v4 r.1 s2 r.2
theorem tX11_tablesOf_81 {d : Nat} {z : Int32 × aH} {k43 : Nat → Int32 → Int32 → Int32 → Int32 → aH → Option (Int32 × aH)} (hk43 : ∀ (v0 : Nat) (v1 : Int32) (v2 : Int32) (v3 : Int32) (v4 : Int32) (h : aH), k43 v0 v1 v2 v3 v4 h = some z → Ev (d + 3) none mX11_tablesOf (0, 0) 43 [.ref v0, .int v1, .int v2, .int v3, .int v4, .null] [] h (QI z)) (v0 : Nat) (v1 : Int32) (v2 : Int32) (v3 : Int32) (v4 : Int32) (s0 : Int32) (s1 : Nat) (s2 : Int32) (h : aH) (hf : fX11_tablesOf_81 k43 v0 v1 v2 v3 v4 s0 s1 s2 h = some z) : Ev (d + 3) none mX11_tablesOf (0, 0) 81 [.ref v0, .int v1, .int v2, .int v3, .int v4, .null] [.int s0, .ref s1, .int s2] h (QI z) := by
  obtain ⟨_, h1, hf⟩ := bnd hf
  obtain ⟨fs, ho⟩ := isO_ok h1
  obtain ⟨r, h2, hf⟩ := bnd hf
  refine ev_V kqX11_tablesOf_81 jX11_worthOf (zX11_worthOf (d := d + 1) h2) ho rfl rfl (Nat.le_of_ble_eq_true rfl) rfl (as := [.int s0]) (rest := [.int s2]) rfl (Nat.le_of_ble_eq_true rfl) (fun _ _ hq => ?_)
  obtain ⟨rfl, rfl⟩ := hq
  exact jm [2, 1, 1, 1, 1, 0] (fun v0 v1 v2 v3 v4 => fX11_tablesOf_84 k43 v0 v1 v2 v3 v4 r.1 s2 r.2) (fun v0 v1 v2 v3 v4 q => tX11_tablesOf_84 hk43 v0 v1 v2 v3 v4 r.1 s2 r.2 q) hf
def wX11_tablesOf_74 : List En := [(.aload_n 0, 0, 0, 0), (.iload_n 1, 0, 0, 0), (.iload 4, 0, 0, 0), (.iconst (-1), 0, 0, 0), (.ixor, 0, 0, 0), (.iand, 0, 0, 0)]
def fX11_tablesOf_74 (k43 : Nat → Int32 → Int32 → Int32 → Int32 → aH → Option (Int32 × aH)) (v0 : Nat) (v1 : Int32) (v2 : Int32) (v3 : Int32) (v4 : Int32) (s0 : Int32) (h : aH) : Option (Int32 × aH) :=
  fX11_tablesOf_81 k43 v0 v1 v2 v3 v4 (v1 &&& (v4 ^^^ (kI (-1)))) v0 s0 h
theorem tX11_tablesOf_74 {d : Nat} {z : Int32 × aH} {k43 : Nat → Int32 → Int32 → Int32 → Int32 → aH → Option (Int32 × aH)} (hk43 : ∀ (v0 : Nat) (v1 : Int32) (v2 : Int32) (v3 : Int32) (v4 : Int32) (h : aH), k43 v0 v1 v2 v3 v4 h = some z → Ev (d + 3) none mX11_tablesOf (0, 0) 43 [.ref v0, .int v1, .int v2, .int v3, .int v4, .null] [] h (QI z)) (v0 : Nat) (v1 : Int32) (v2 : Int32) (v3 : Int32) (v4 : Int32) (s0 : Int32) (h : aH) (hf : fX11_tablesOf_74 k43 v0 v1 v2 v3 v4 s0 h = some z) : Ev (d + 3) none mX11_tablesOf (0, 0) 74 [.ref v0, .int v1, .int v2, .int v3, .int v4, .null] [.int s0] h (QI z) := 
  go_ok (X := none) (blk := wX11_tablesOf_74) (np := 81) (tt := 0) (kN := fun xs h st => app [2, 1, 1, 1, 1, 0] (fun v0 v1 v2 v3 v4 => apS [1, 2, 1] (fun s0 s1 s2 => fX11_tablesOf_81 k43 v0 v1 v2 v3 v4 s0 s1 s2 h) st) xs) (kT := fun _ _ _ => none) (kR := kRI)
    (fun xs h st q => jm [2, 1, 1, 1, 1, 0] _ (fun v0 v1 v2 v3 v4 q => apS_ok [1, 2, 1] _ (fun st => Ev (d + 3) none mX11_tablesOf (0, 0) 81 [.ref v0, .int v1, .int v2, .int v3, .int v4, .null] st h (QI z)) st (fun s0 s1 s2 q => tX11_tablesOf_81 hk43 v0 v1 v2 v3 v4 s0 s1 s2 h q) q) q)
    (fun _ _ _ q => nos q)
    kRI_ok (Or.inr rfl) (by decide +kernel) (by decide +kernel) hf
theorem kqX11_tablesOf_71 : okC mX11_tablesOf 71 (.invokevirtual 351) 266 283 0 1 = true := by decide +kernel
def fX11_tablesOf_71 (k43 : Nat → Int32 → Int32 → Int32 → Int32 → aH → Option (Int32 × aH)) (v0 : Nat) (v1 : Int32) (v2 : Int32) (v3 : Int32) (v4 : Int32) (s0 : Int32) (s1 : Nat) (h : aH) : Option (Int32 × aH) :=
  (isO h 11 s1).bind fun _ =>
  (gX11_worthOf s1 s0 h).bind fun r =>
  fX11_tablesOf_74 k43 v0 v1 v2 v3 v4 r.1 r.2
theorem tX11_tablesOf_71 {d : Nat} {z : Int32 × aH} {k43 : Nat → Int32 → Int32 → Int32 → Int32 → aH → Option (Int32 × aH)} (hk43 : ∀ (v0 : Nat) (v1 : Int32) (v2 : Int32) (v3 : Int32) (v4 : Int32) (h : aH), k43 v0 v1 v2 v3 v4 h = some z → Ev (d + 3) none mX11_tablesOf (0, 0) 43 [.ref v0, .int v1, .int v2, .int v3, .int v4, .null] [] h (QI z)) (v0 : Nat) (v1 : Int32) (v2 : Int32) (v3 : Int32) (v4 : Int32) (s0 : Int32) (s1 : Nat) (h : aH) (hf : fX11_tablesOf_71 k43 v0 v1 v2 v3 v4 s0 s1 h = some z) : Ev (d + 3) none mX11_tablesOf (0, 0) 71 [.ref v0, .int v1, .int v2, .int v3, .int v4, .null] [.int s0, .ref s1] h (QI z) := by
  obtain ⟨_, h1, hf⟩ := bnd hf
  obtain ⟨fs, ho⟩ := isO_ok h1
  obtain ⟨r, h2, hf⟩ := bnd hf
  refine ev_V kqX11_tablesOf_71 jX11_worthOf (zX11_worthOf (d := d + 1) h2) ho rfl rfl (Nat.le_of_ble_eq_true rfl) rfl (as := [.int s0]) (rest := []) rfl (Nat.le_of_ble_eq_true rfl) (fun _ _ hq => ?_)
  obtain ⟨rfl, rfl⟩ := hq
  exact jm [2, 1, 1, 1, 1, 0] (fun v0 v1 v2 v3 v4 => fX11_tablesOf_74 k43 v0 v1 v2 v3 v4 r.1 r.2) (fun v0 v1 v2 v3 v4 q => tX11_tablesOf_74 hk43 v0 v1 v2 v3 v4 r.1 r.2 q) hf
def wX11_tablesOf_68 : List En := [(.aload_n 0, 0, 0, 0), (.iload 4, 0, 0, 0)]
def fX11_tablesOf_68 (k43 : Nat → Int32 → Int32 → Int32 → Int32 → aH → Option (Int32 × aH)) (v0 : Nat) (v1 : Int32) (v2 : Int32) (v3 : Int32) (v4 : Int32) (h : aH) : Option (Int32 × aH) :=
  fX11_tablesOf_71 k43 v0 v1 v2 v3 v4 v4 v0 h
theorem tX11_tablesOf_68 {d : Nat} {z : Int32 × aH} {k43 : Nat → Int32 → Int32 → Int32 → Int32 → aH → Option (Int32 × aH)} (hk43 : ∀ (v0 : Nat) (v1 : Int32) (v2 : Int32) (v3 : Int32) (v4 : Int32) (h : aH), k43 v0 v1 v2 v3 v4 h = some z → Ev (d + 3) none mX11_tablesOf (0, 0) 43 [.ref v0, .int v1, .int v2, .int v3, .int v4, .null] [] h (QI z)) (v0 : Nat) (v1 : Int32) (v2 : Int32) (v3 : Int32) (v4 : Int32) (h : aH) (hf : fX11_tablesOf_68 k43 v0 v1 v2 v3 v4 h = some z) : Ev (d + 3) none mX11_tablesOf (0, 0) 68 [.ref v0, .int v1, .int v2, .int v3, .int v4, .null] [] h (QI z) := 
  go_ok (X := none) (blk := wX11_tablesOf_68) (np := 71) (tt := 0) (kN := fun xs h st => app [2, 1, 1, 1, 1, 0] (fun v0 v1 v2 v3 v4 => apS [1, 2] (fun s0 s1 => fX11_tablesOf_71 k43 v0 v1 v2 v3 v4 s0 s1 h) st) xs) (kT := fun _ _ _ => none) (kR := kRI)
    (fun xs h st q => jm [2, 1, 1, 1, 1, 0] _ (fun v0 v1 v2 v3 v4 q => apS_ok [1, 2] _ (fun st => Ev (d + 3) none mX11_tablesOf (0, 0) 71 [.ref v0, .int v1, .int v2, .int v3, .int v4, .null] st h (QI z)) st (fun s0 s1 q => tX11_tablesOf_71 hk43 v0 v1 v2 v3 v4 s0 s1 h q) q) q)
    (fun _ _ _ q => nos q)
    kRI_ok (Or.inr rfl) (by decide +kernel) (by decide +kernel) hf
def wX11_tablesOf_65 : List En := [(.goto 47, 112, 0, 0)]
def fX11_tablesOf_65 (k43 : Nat → Int32 → Int32 → Int32 → Int32 → aH → Option (Int32 × aH)) (v0 : Nat) (v1 : Int32) (v2 : Int32) (v3 : Int32) (v4 : Int32) (h : aH) : Option (Int32 × aH) :=
  fX11_tablesOf_112 k43 v0 v1 v2 v3 v4 h
theorem tX11_tablesOf_65 {d : Nat} {z : Int32 × aH} {k43 : Nat → Int32 → Int32 → Int32 → Int32 → aH → Option (Int32 × aH)} (hk43 : ∀ (v0 : Nat) (v1 : Int32) (v2 : Int32) (v3 : Int32) (v4 : Int32) (h : aH), k43 v0 v1 v2 v3 v4 h = some z → Ev (d + 3) none mX11_tablesOf (0, 0) 43 [.ref v0, .int v1, .int v2, .int v3, .int v4, .null] [] h (QI z)) (v0 : Nat) (v1 : Int32) (v2 : Int32) (v3 : Int32) (v4 : Int32) (h : aH) (hf : fX11_tablesOf_65 k43 v0 v1 v2 v3 v4 h = some z) : Ev (d + 3) none mX11_tablesOf (0, 0) 65 [.ref v0, .int v1, .int v2, .int v3, .int v4, .null] [] h (QI z) := 
  go_ok (X := none) (blk := wX11_tablesOf_65) (np := 68) (tt := 112) (kN := fun _ _ _ => none) (kT := fun xs h st => app [2, 1, 1, 1, 1, 0] (fun v0 v1 v2 v3 v4 => apS [] (fX11_tablesOf_112 k43 v0 v1 v2 v3 v4 h) st) xs) (kR := kRI)
    (fun _ _ _ q => nos q)
    (fun xs h st q => jm [2, 1, 1, 1, 1, 0] _ (fun v0 v1 v2 v3 v4 q => apS_ok [] _ (fun st => Ev (d + 3) none mX11_tablesOf (0, 0) 112 [.ref v0, .int v1, .int v2, .int v3, .int v4, .null] st h (QI z)) st (fun q => tX11_tablesOf_112 hk43 v0 v1 v2 v3 v4 h q) q) q)
    kRI_ok (Or.inr rfl) (by decide +kernel) (by decide +kernel) hf
def wX11_tablesOf_58 : List En := [(.iload 4, 0, 0, 0), (.iload_n 3, 0, 0, 0), (.iand, 0, 0, 0), (.ifCond .ne 6, 68, 0, 0)]
def fX11_tablesOf_58 (k43 : Nat → Int32 → Int32 → Int32 → Int32 → aH → Option (Int32 × aH)) (v0 : Nat) (v1 : Int32) (v2 : Int32) (v3 : Int32) (v4 : Int32) (h : aH) : Option (Int32 × aH) :=
  if (v4 &&& v3) = 0 then fX11_tablesOf_65 k43 v0 v1 v2 v3 v4 h else fX11_tablesOf_68 k43 v0 v1 v2 v3 v4 h
theorem tX11_tablesOf_58 {d : Nat} {z : Int32 × aH} {k43 : Nat → Int32 → Int32 → Int32 → Int32 → aH → Option (Int32 × aH)} (hk43 : ∀ (v0 : Nat) (v1 : Int32) (v2 : Int32) (v3 : Int32) (v4 : Int32) (h : aH), k43 v0 v1 v2 v3 v4 h = some z → Ev (d + 3) none mX11_tablesOf (0, 0) 43 [.ref v0, .int v1, .int v2, .int v3, .int v4, .null] [] h (QI z)) (v0 : Nat) (v1 : Int32) (v2 : Int32) (v3 : Int32) (v4 : Int32) (h : aH) (hf : fX11_tablesOf_58 k43 v0 v1 v2 v3 v4 h = some z) : Ev (d + 3) none mX11_tablesOf (0, 0) 58 [.ref v0, .int v1, .int v2, .int v3, .int v4, .null] [] h (QI z) := 
  go_ok (X := none) (blk := wX11_tablesOf_58) (np := 65) (tt := 68) (kN := fun xs h st => app [2, 1, 1, 1, 1, 0] (fun v0 v1 v2 v3 v4 => apS [] (fX11_tablesOf_65 k43 v0 v1 v2 v3 v4 h) st) xs) (kT := fun xs h st => app [2, 1, 1, 1, 1, 0] (fun v0 v1 v2 v3 v4 => apS [] (fX11_tablesOf_68 k43 v0 v1 v2 v3 v4 h) st) xs) (kR := kRI)
    (fun xs h st q => jm [2, 1, 1, 1, 1, 0] _ (fun v0 v1 v2 v3 v4 q => apS_ok [] _ (fun st => Ev (d + 3) none mX11_tablesOf (0, 0) 65 [.ref v0, .int v1, .int v2, .int v3, .int v4, .null] st h (QI z)) st (fun q => tX11_tablesOf_65 hk43 v0 v1 v2 v3 v4 h q) q) q)
    (fun xs h st q => jm [2, 1, 1, 1, 1, 0] _ (fun v0 v1 v2 v3 v4 q => apS_ok [] _ (fun st => Ev (d + 3) none mX11_tablesOf (0, 0) 68 [.ref v0, .int v1, .int v2, .int v3, .int v4, .null] st h (QI z)) st (fun q => tX11_tablesOf_68 hk43 v0 v1 v2 v3 v4 h q) q) q)
    kRI_ok (Or.inr rfl) (by decide +kernel) (by decide +kernel) hf
def wX11_tablesOf_49 : List En := [(.iload 4, 0, 0, 0), (.iload_n 1, 0, 0, 0), (.iconst (-1), 0, 0, 0), (.ixor, 0, 0, 0), (.iand, 0, 0, 0), (.ifCond .ne 57, 112, 0, 0)]
def fX11_tablesOf_49 (k43 : Nat → Int32 → Int32 → Int32 → Int32 → aH → Option (Int32 × aH)) (v0 : Nat) (v1 : Int32) (v2 : Int32) (v3 : Int32) (v4 : Int32) (h : aH) : Option (Int32 × aH) :=
  if (v4 &&& (v1 ^^^ (kI (-1)))) = 0 then fX11_tablesOf_58 k43 v0 v1 v2 v3 v4 h else fX11_tablesOf_112 k43 v0 v1 v2 v3 v4 h
theorem tX11_tablesOf_49 {d : Nat} {z : Int32 × aH} {k43 : Nat → Int32 → Int32 → Int32 → Int32 → aH → Option (Int32 × aH)} (hk43 : ∀ (v0 : Nat) (v1 : Int32) (v2 : Int32) (v3 : Int32) (v4 : Int32) (h : aH), k43 v0 v1 v2 v3 v4 h = some z → Ev (d + 3) none mX11_tablesOf (0, 0) 43 [.ref v0, .int v1, .int v2, .int v3, .int v4, .null] [] h (QI z)) (v0 : Nat) (v1 : Int32) (v2 : Int32) (v3 : Int32) (v4 : Int32) (h : aH) (hf : fX11_tablesOf_49 k43 v0 v1 v2 v3 v4 h = some z) : Ev (d + 3) none mX11_tablesOf (0, 0) 49 [.ref v0, .int v1, .int v2, .int v3, .int v4, .null] [] h (QI z) := 
  go_ok (X := none) (blk := wX11_tablesOf_49) (np := 58) (tt := 112) (kN := fun xs h st => app [2, 1, 1, 1, 1, 0] (fun v0 v1 v2 v3 v4 => apS [] (fX11_tablesOf_58 k43 v0 v1 v2 v3 v4 h) st) xs) (kT := fun xs h st => app [2, 1, 1, 1, 1, 0] (fun v0 v1 v2 v3 v4 => apS [] (fX11_tablesOf_112 k43 v0 v1 v2 v3 v4 h) st) xs) (kR := kRI)
    (fun xs h st q => jm [2, 1, 1, 1, 1, 0] _ (fun v0 v1 v2 v3 v4 q => apS_ok [] _ (fun st => Ev (d + 3) none mX11_tablesOf (0, 0) 58 [.ref v0, .int v1, .int v2, .int v3, .int v4, .null] st h (QI z)) st (fun q => tX11_tablesOf_58 hk43 v0 v1 v2 v3 v4 h q) q) q)
    (fun xs h st q => jm [2, 1, 1, 1, 1, 0] _ (fun v0 v1 v2 v3 v4 q => apS_ok [] _ (fun st => Ev (d + 3) none mX11_tablesOf (0, 0) 112 [.ref v0, .int v1, .int v2, .int v3, .int v4, .null] st h (QI z)) st (fun q => tX11_tablesOf_112 hk43 v0 v1 v2 v3 v4 h q) q) q)
    kRI_ok (Or.inr rfl) (by decide +kernel) (by decide +kernel) hf
def wX11_tablesOf_43 : List En := [(.iload 4, 0, 0, 0), (.iload_n 1, 0, 0, 0), (.if_icmp .gt 72, 118, 0, 0)]
def fX11_tablesOf_43 (k43 : Nat → Int32 → Int32 → Int32 → Int32 → aH → Option (Int32 × aH)) (v0 : Nat) (v1 : Int32) (v2 : Int32) (v3 : Int32) (v4 : Int32) (h : aH) : Option (Int32 × aH) :=
  if v1 < v4 then fX11_tablesOf_118 v2 h else fX11_tablesOf_49 k43 v0 v1 v2 v3 v4 h
theorem tX11_tablesOf_43 {d : Nat} {z : Int32 × aH} {k43 : Nat → Int32 → Int32 → Int32 → Int32 → aH → Option (Int32 × aH)} (hk43 : ∀ (v0 : Nat) (v1 : Int32) (v2 : Int32) (v3 : Int32) (v4 : Int32) (h : aH), k43 v0 v1 v2 v3 v4 h = some z → Ev (d + 3) none mX11_tablesOf (0, 0) 43 [.ref v0, .int v1, .int v2, .int v3, .int v4, .null] [] h (QI z)) (v0 : Nat) (v1 : Int32) (v2 : Int32) (v3 : Int32) (v4 : Int32) (h : aH) (hf : fX11_tablesOf_43 k43 v0 v1 v2 v3 v4 h = some z) : Ev (d + 3) none mX11_tablesOf (0, 0) 43 [.ref v0, .int v1, .int v2, .int v3, .int v4, .null] [] h (QI z) := 
  go_ok (X := none) (blk := wX11_tablesOf_43) (np := 49) (tt := 118) (kN := fun xs h st => app [2, 1, 1, 1, 1, 0] (fun v0 v1 v2 v3 v4 => apS [] (fX11_tablesOf_49 k43 v0 v1 v2 v3 v4 h) st) xs) (kT := fun xs h st => app [0, 0, 1, 0, 0, 0] (fun v2 => apS [] (fX11_tablesOf_118 v2 h) st) xs) (kR := kRI)
    (fun xs h st q => jm [2, 1, 1, 1, 1, 0] _ (fun v0 v1 v2 v3 v4 q => apS_ok [] _ (fun st => Ev (d + 3) none mX11_tablesOf (0, 0) 49 [.ref v0, .int v1, .int v2, .int v3, .int v4, .null] st h (QI z)) st (fun q => tX11_tablesOf_49 hk43 v0 v1 v2 v3 v4 h q) q) q)
    (fun xs h st q => jm [0, 0, 1, 0, 0, 0] _ (fun v2 q => apS_ok [] _ (fun st => Ev (d + 3) none mX11_tablesOf (0, 0) 118 [.null, .null, .int v2, .null, .null, .null] st h (QI z)) st (fun q => tX11_tablesOf_118 v2 h q) q) q)
    kRI_ok (Or.inr rfl) (by decide +kernel) (by decide +kernel) hf
def lX11_tablesOf_43 : Nat → Nat → Int32 → Int32 → Int32 → Int32 → aH → Option (Int32 × aH)
  | 0, _, _, _, _, _, _ => none
  | n + 1, v0, v1, v2, v3, v4, h => fX11_tablesOf_43 (lX11_tablesOf_43 n) v0 v1 v2 v3 v4 h
theorem uX11_tablesOf_43 {d : Nat} {z : Int32 × aH} : ∀ (n : Nat) (v0 : Nat) (v1 : Int32) (v2 : Int32) (v3 : Int32) (v4 : Int32) (h : aH), lX11_tablesOf_43 n v0 v1 v2 v3 v4 h = some z → Ev (d + 3) none mX11_tablesOf (0, 0) 43 [.ref v0, .int v1, .int v2, .int v3, .int v4, .null] [] h (QI z) := by
  intro n
  induction n with
  | zero => intro _ _ _ _ _ _ q; exact nos (show (none : Option (Int32 × aH)) = some z from q)
  | succ n ih => intro v0 v1 v2 v3 v4 h q; exact tX11_tablesOf_43 ih v0 v1 v2 v3 v4 h q
def wX11_tablesOf_32 : List En := [(.iload_n 1, 0, 0, 0), (.iload_n 1, 0, 0, 0), (.ineg, 0, 0, 0), (.iand, 0, 0, 0), (.istore_n 3, 0, 0, 0), (.bipush (-2), 0, 0, 0), (.istore_n 2, 0, 0, 0), (.iconst 1, 0, 0, 0), (.istore 4, 0, 0, 0)]
def fX11_tablesOf_32 (v0 : Nat) (v1 : Int32) (h : aH) : Option (Int32 × aH) :=
  lX11_tablesOf_43 FU v0 v1 (kB (-2)) (v1 &&& (-v1)) (kI 1) h
theorem tX11_tablesOf_32 {d : Nat} {z : Int32 × aH} (v0 : Nat) (v1 : Int32) (h : aH) (hf : fX11_tablesOf_32 v0 v1 h = some z) : Ev (d + 3) none mX11_tablesOf (0, 0) 32 [.ref v0, .int v1, .null, .null, .null, .null] [] h (QI z) := 
  go_ok (X := none) (blk := wX11_tablesOf_32) (np := 43) (tt := 0) (kN := fun xs h st => app [2, 1, 1, 1, 1, 0] (fun v0 v1 v2 v3 v4 => apS [] (lX11_tablesOf_43 FU v0 v1 v2 v3 v4 h) st) xs) (kT := fun _ _ _ => none) (kR := kRI)
    (fun xs h st q => jm [2, 1, 1, 1, 1, 0] _ (fun v0 v1 v2 v3 v4 q => apS_ok [] _ (fun st => Ev (d + 3) none mX11_tablesOf (0, 0) 43 [.ref v0, .int v1, .int v2, .int v3, .int v4, .null] st h (QI z)) st (fun q => uX11_tablesOf_43 FU v0 v1 v2 v3 v4 h q) q) q)
    (fun _ _ _ q => nos q)
    kRI_ok (Or.inr rfl) (by decide +kernel) (by decide +kernel) hf
def wX11_tablesOf_30 : List En := [(.iconst 0, 0, 0, 0), (.ireturn, 0, 0, 0)]
def fX11_tablesOf_30 (h : aH) : Option (Int32 × aH) :=
  some ((kI 0), h)
theorem tX11_tablesOf_30 {d : Nat} {z : Int32 × aH} (h : aH) (hf : fX11_tablesOf_30 h = some z) : Ev (d + 3) none mX11_tablesOf (0, 0) 30 [.null, .null, .null, .null, .null, .null] [] h (QI z) := 
  go_ok (X := none) (blk := wX11_tablesOf_30) (np := 32) (tt := 0) (kN := fun _ _ _ => none) (kT := fun _ _ _ => none) (kR := kRI)
    (fun _ _ _ q => nos q)
    (fun _ _ _ q => nos q)
    kRI_ok (Or.inr rfl) (by decide +kernel) (by decide +kernel) hf
def wX11_tablesOf_8 : List En := [(.aload_n 0, 0, 0, 0), (.getfield 32, 194, 11, 19), (.bipush 10, 0, 0, 0), (.iaload, 0, 0, 0), (.iconst (-1), 0, 0, 0), (.ixor, 0, 0, 0), (.iand, 0, 0, 0), (.istore_n 1, 0, 0, 0), (.iconst 0, 0, 0, 0), (.istore_n 2, 0, 0, 0), (.aload_n 0, 0, 0, 0), (.iconst 0, 0, 0, 0), (.putfield 348, 210, 11, 35), (.iload_n 1, 0, 0, 0), (.ifCond .ne 5, 32, 0, 0)]
def fX11_tablesOf_8 (v0 : Nat) (s0 : Int32) (h : aH) : Option (Int32 × aH) :=
  (gFR h 11 v0 19).bind fun t1 =>
  (aRI (h[t1]?) (kB 10)).bind fun t2 =>
  (pWV h 11 v0 35 (.int (kI 0))).bind fun h3 =>
  if (s0 &&& (t2 ^^^ (kI (-1)))) = 0 then fX11_tablesOf_30 h3 else fX11_tablesOf_32 v0 (s0 &&& (t2 ^^^ (kI (-1)))) h3
theorem tX11_tablesOf_8 {d : Nat} {z : Int32 × aH} (v0 : Nat) (s0 : Int32) (h : aH) (hf : fX11_tablesOf_8 v0 s0 h = some z) : Ev (d + 3) none mX11_tablesOf (0, 0) 8 [.ref v0, .null, .null, .null, .null, .null] [.int s0] h (QI z) := 
  go_ok (X := none) (blk := wX11_tablesOf_8) (np := 30) (tt := 32) (kN := fun xs h st => app [0, 0, 0, 0, 0, 0] (apS [] (fX11_tablesOf_30 h) st) xs) (kT := fun xs h st => app [2, 1, 0, 0, 0, 0] (fun v0 v1 => apS [] (fX11_tablesOf_32 v0 v1 h) st) xs) (kR := kRI)
    (fun xs h st q => jm [0, 0, 0, 0, 0, 0] _ (fun q => apS_ok [] _ (fun st => Ev (d + 3) none mX11_tablesOf (0, 0) 30 [.null, .null, .null, .null, .null, .null] st h (QI z)) st (fun q => tX11_tablesOf_30 h q) q) q)
    (fun xs h st q => jm [2, 1, 0, 0, 0, 0] _ (fun v0 v1 q => apS_ok [] _ (fun st => Ev (d + 3) none mX11_tablesOf (0, 0) 32 [.ref v0, .int v1, .null, .null, .null, .null] st h (QI z)) st (fun q => tX11_tablesOf_32 v0 v1 h q) q) q)
    kRI_ok (Or.inr rfl) (by decide +kernel) (by decide +kernel) hf
theorem kqX11_tablesOf_5 : okC mX11_tablesOf 5 (.invokevirtual 304) 244 261 0 0 = true := by decide +kernel
def fX11_tablesOf_5 (v0 : Nat) (s0 : Nat) (h : aH) : Option (Int32 × aH) :=
  (isO h 11 s0).bind fun _ =>
  (gX11_everybody s0 h).bind fun r =>
  fX11_tablesOf_8 v0 r.1 r.2
theorem tX11_tablesOf_5 {d : Nat} {z : Int32 × aH} (v0 : Nat) (s0 : Nat) (h : aH) (hf : fX11_tablesOf_5 v0 s0 h = some z) : Ev (d + 3) none mX11_tablesOf (0, 0) 5 [.ref v0, .null, .null, .null, .null, .null] [.ref s0] h (QI z) := by
  obtain ⟨_, h1, hf⟩ := bnd hf
  obtain ⟨fs, ho⟩ := isO_ok h1
  obtain ⟨r, h2, hf⟩ := bnd hf
  refine ev_V kqX11_tablesOf_5 jX11_everybody (zX11_everybody (d := d + 2) h2) ho rfl rfl (Nat.le_of_ble_eq_true rfl) rfl (as := []) (rest := []) rfl (Nat.le_of_ble_eq_true rfl) (fun _ _ hq => ?_)
  obtain ⟨rfl, rfl⟩ := hq
  exact jm [2, 0, 0, 0, 0, 0] (fun v0 => fX11_tablesOf_8 v0 r.1 r.2) (fun v0 q => tX11_tablesOf_8 v0 r.1 r.2 q) hf
def wX11_tablesOf_4 : List En := [(.aload_n 0, 0, 0, 0)]
def fX11_tablesOf_4 (v0 : Nat) (h : aH) : Option (Int32 × aH) :=
  fX11_tablesOf_5 v0 v0 h
theorem tX11_tablesOf_4 {d : Nat} {z : Int32 × aH} (v0 : Nat) (h : aH) (hf : fX11_tablesOf_4 v0 h = some z) : Ev (d + 3) none mX11_tablesOf (0, 0) 4 [.ref v0, .null, .null, .null, .null, .null] [] h (QI z) := 
  go_ok (X := none) (blk := wX11_tablesOf_4) (np := 5) (tt := 0) (kN := fun xs h st => app [2, 0, 0, 0, 0, 0] (fun v0 => apS [2] (fun s0 => fX11_tablesOf_5 v0 s0 h) st) xs) (kT := fun _ _ _ => none) (kR := kRI)
    (fun xs h st q => jm [2, 0, 0, 0, 0, 0] _ (fun v0 q => apS_ok [2] _ (fun st => Ev (d + 3) none mX11_tablesOf (0, 0) 5 [.ref v0, .null, .null, .null, .null, .null] st h (QI z)) st (fun s0 q => tX11_tablesOf_5 v0 s0 h q) q) q)
    (fun _ _ _ q => nos q)
    kRI_ok (Or.inr rfl) (by decide +kernel) (by decide +kernel) hf
theorem kqX11_tablesOf_1 : okC mX11_tablesOf 1 (.invokevirtual 291) 219 236 0 0 = true := by decide +kernel
def fX11_tablesOf_1 (v0 : Nat) (s0 : Nat) (h : aH) : Option (Int32 × aH) :=
  (isO h 11 s0).bind fun _ =>
  (gX11_dawn s0 h).bind fun r =>
  fX11_tablesOf_4 v0 r
theorem tX11_tablesOf_1 {d : Nat} {z : Int32 × aH} (v0 : Nat) (s0 : Nat) (h : aH) (hf : fX11_tablesOf_1 v0 s0 h = some z) : Ev (d + 3) none mX11_tablesOf (0, 0) 1 [.ref v0, .null, .null, .null, .null, .null] [.ref s0] h (QI z) := by
  obtain ⟨_, h1, hf⟩ := bnd hf
  obtain ⟨fs, ho⟩ := isO_ok h1
  obtain ⟨r, h2, hf⟩ := bnd hf
  refine ev_V kqX11_tablesOf_1 jX11_dawn (zX11_dawn (d := d + 0) h2) ho rfl rfl (Nat.le_of_ble_eq_true rfl) rfl (as := []) (rest := []) rfl (Nat.le_of_ble_eq_true rfl) (fun _ _ hq => ?_)
  obtain ⟨rfl, hh⟩ := hq
  rw [hh]
  exact jm [2, 0, 0, 0, 0, 0] (fun v0 => fX11_tablesOf_4 v0 r) (fun v0 q => tX11_tablesOf_4 v0 r q) hf
def wX11_tablesOf_0 : List En := [(.aload_n 0, 0, 0, 0)]
def fX11_tablesOf_0 (v0 : Nat) (h : aH) : Option (Int32 × aH) :=
  fX11_tablesOf_1 v0 v0 h
theorem tX11_tablesOf_0 {d : Nat} {z : Int32 × aH} (v0 : Nat) (h : aH) (hf : fX11_tablesOf_0 v0 h = some z) : Ev (d + 3) none mX11_tablesOf (0, 0) 0 [.ref v0, .null, .null, .null, .null, .null] [] h (QI z) := 
  go_ok (X := none) (blk := wX11_tablesOf_0) (np := 1) (tt := 0) (kN := fun xs h st => app [2, 0, 0, 0, 0, 0] (fun v0 => apS [2] (fun s0 => fX11_tablesOf_1 v0 s0 h) st) xs) (kT := fun _ _ _ => none) (kR := kRI)
    (fun xs h st q => jm [2, 0, 0, 0, 0, 0] _ (fun v0 q => apS_ok [2] _ (fun st => Ev (d + 3) none mX11_tablesOf (0, 0) 1 [.ref v0, .null, .null, .null, .null, .null] st h (QI z)) st (fun s0 q => tX11_tablesOf_1 v0 s0 h q) q) q)
    (fun _ _ _ q => nos q)
    kRI_ok (Or.inr rfl) (by decide +kernel) (by decide +kernel) hf
def gX11_tablesOf (v0 : Nat) (h : aH) : Option (Int32 × aH) := fX11_tablesOf_0 v0 h
theorem zX11_tablesOf {d : Nat} {z : Int32 × aH} {v0 : Nat} {h : aH} (q : gX11_tablesOf v0 h = some z) : CT (d + 3) mX11_tablesOf (0, 0) [.ref v0] h (QI z) :=
  ct_ev (by decide +kernel) (Nat.le_of_ble_eq_true rfl) QI_r (jm [2, 0, 0, 0, 0, 0] (fun v0 => fX11_tablesOf_0 v0 h) (fun v0 q => tX11_tablesOf_0 v0 h q) q)
def wX11_tables_23 : List En := [(.ireturn, 0, 0, 0)]
def fX11_tables_23 (s0 : Int32) (h : aH) : Option (Int32 × aH) :=
  some (s0, h)
theorem tX11_tables_23 {d : Nat} {z : Int32 × aH} (s0 : Int32) (h : aH) (hf : fX11_tables_23 s0 h = some z) : Ev (d + 4) none mX11_tables (0, 0) 23 [.null] [.int s0] h (QI z) := 
  go_ok (X := none) (blk := wX11_tables_23) (np := 24) (tt := 0) (kN := fun _ _ _ => none) (kT := fun _ _ _ => none) (kR := kRI)
    (fun _ _ _ q => nos q)
    (fun _ _ _ q => nos q)
    kRI_ok (Or.inr rfl) (by decide +kernel) (by decide +kernel) hf
theorem kqX11_tables_20 : okC mX11_tables 20 (.invokevirtual 164) 183 198 0 1 = true := by decide +kernel
def fX11_tables_20 (s0 : Int32) (s1 : Nat) (h : aH) : Option (Int32 × aH) :=
  (isO h 11 s1).bind fun _ =>
  (gX11_no s1 s0 h).bind fun r =>
  fX11_tables_23 r.1 r.2
theorem tX11_tables_20 {d : Nat} {z : Int32 × aH} (s0 : Int32) (s1 : Nat) (h : aH) (hf : fX11_tables_20 s0 s1 h = some z) : Ev (d + 4) none mX11_tables (0, 0) 20 [.null] [.int s0, .ref s1] h (QI z) := by
  obtain ⟨_, h1, hf⟩ := bnd hf
  obtain ⟨fs, ho⟩ := isO_ok h1
  obtain ⟨r, h2, hf⟩ := bnd hf
  refine ev_V kqX11_tables_20 jX11_no (zX11_no (d := d + 3) h2) ho rfl rfl (Nat.le_of_ble_eq_true rfl) rfl (as := [.int s0]) (rest := []) rfl (Nat.le_of_ble_eq_true rfl) (fun _ _ hq => ?_)
  obtain ⟨rfl, rfl⟩ := hq
  exact jm [0] (fX11_tables_23 r.1 r.2) (fun q => tX11_tables_23 r.1 r.2 q) hf
def wX11_tables_18 : List En := [(.aload_n 0, 0, 0, 0), (.iconst 1, 0, 0, 0)]
def fX11_tables_18 (v0 : Nat) (h : aH) : Option (Int32 × aH) :=
  fX11_tables_20 (kI 1) v0 h
theorem tX11_tables_18 {d : Nat} {z : Int32 × aH} (v0 : Nat) (h : aH) (hf : fX11_tables_18 v0 h = some z) : Ev (d + 4) none mX11_tables (0, 0) 18 [.ref v0] [] h (QI z) := 
  go_ok (X := none) (blk := wX11_tables_18) (np := 20) (tt := 0) (kN := fun xs h st => app [0] (apS [1, 2] (fun s0 s1 => fX11_tables_20 s0 s1 h) st) xs) (kT := fun _ _ _ => none) (kR := kRI)
    (fun xs h st q => jm [0] _ (fun q => apS_ok [1, 2] _ (fun st => Ev (d + 4) none mX11_tables (0, 0) 20 [.null] st h (QI z)) st (fun s0 s1 q => tX11_tables_20 s0 s1 h q) q) q)
    (fun _ _ _ q => nos q)
    kRI_ok (Or.inr rfl) (by decide +kernel) (by decide +kernel) hf
def wX11_tables_15 : List En := [(.goto 8, 23, 0, 0)]
def fX11_tables_15 (s0 : Int32) (h : aH) : Option (Int32 × aH) :=
  fX11_tables_23 s0 h
theorem tX11_tables_15 {d : Nat} {z : Int32 × aH} (s0 : Int32) (h : aH) (hf : fX11_tables_15 s0 h = some z) : Ev (d + 4) none mX11_tables (0, 0) 15 [.null] [.int s0] h (QI z) := 
  go_ok (X := none) (blk := wX11_tables_15) (np := 18) (tt := 23) (kN := fun _ _ _ => none) (kT := fun xs h st => app [0] (apS [1] (fun s0 => fX11_tables_23 s0 h) st) xs) (kR := kRI)
    (fun _ _ _ q => nos q)
    (fun xs h st q => jm [0] _ (fun q => apS_ok [1] _ (fun st => Ev (d + 4) none mX11_tables (0, 0) 23 [.null] st h (QI z)) st (fun s0 q => tX11_tables_23 s0 h q) q) q)
    kRI_ok (Or.inr rfl) (by decide +kernel) (by decide +kernel) hf
theorem kqX11_tables_12 : okC mX11_tables 12 (.invokevirtual 354) 265 282 0 0 = true := by decide +kernel
def fX11_tables_12 (s0 : Nat) (h : aH) : Option (Int32 × aH) :=
  (isO h 11 s0).bind fun _ =>
  (gX11_tablesOf s0 h).bind fun r =>
  fX11_tables_15 r.1 r.2
theorem tX11_tables_12 {d : Nat} {z : Int32 × aH} (s0 : Nat) (h : aH) (hf : fX11_tables_12 s0 h = some z) : Ev (d + 4) none mX11_tables (0, 0) 12 [.null] [.ref s0] h (QI z) := by
  obtain ⟨_, h1, hf⟩ := bnd hf
  obtain ⟨fs, ho⟩ := isO_ok h1
  obtain ⟨r, h2, hf⟩ := bnd hf
  refine ev_V kqX11_tables_12 jX11_tablesOf (zX11_tablesOf (d := d + 0) h2) ho rfl rfl (Nat.le_of_ble_eq_true rfl) rfl (as := []) (rest := []) rfl (Nat.le_of_ble_eq_true rfl) (fun _ _ hq => ?_)
  obtain ⟨rfl, rfl⟩ := hq
  exact jm [0] (fX11_tables_15 r.1 r.2) (fun q => tX11_tables_15 r.1 r.2 q) hf
def wX11_tables_11 : List En := [(.aload_n 0, 0, 0, 0)]
def fX11_tables_11 (v0 : Nat) (h : aH) : Option (Int32 × aH) :=
  fX11_tables_12 v0 h
theorem tX11_tables_11 {d : Nat} {z : Int32 × aH} (v0 : Nat) (h : aH) (hf : fX11_tables_11 v0 h = some z) : Ev (d + 4) none mX11_tables (0, 0) 11 [.ref v0] [] h (QI z) := 
  go_ok (X := none) (blk := wX11_tables_11) (np := 12) (tt := 0) (kN := fun xs h st => app [0] (apS [2] (fun s0 => fX11_tables_12 s0 h) st) xs) (kT := fun _ _ _ => none) (kR := kRI)
    (fun xs h st q => jm [0] _ (fun q => apS_ok [2] _ (fun st => Ev (d + 4) none mX11_tables (0, 0) 12 [.null] st h (QI z)) st (fun s0 q => tX11_tables_12 s0 h q) q) q)
    (fun _ _ _ q => nos q)
    kRI_ok (Or.inr rfl) (by decide +kernel) (by decide +kernel) hf
def wX11_tables_4 : List En := [(.aload_n 0, 0, 0, 0), (.getfield 174, 189, 11, 14), (.ifCond .eq 10, 18, 0, 0)]
def fX11_tables_4 (v0 : Nat) (h : aH) : Option (Int32 × aH) :=
  (gFI h 11 v0 14).bind fun t1 =>
  if t1 = 0 then fX11_tables_18 v0 h else fX11_tables_11 v0 h
theorem tX11_tables_4 {d : Nat} {z : Int32 × aH} (v0 : Nat) (h : aH) (hf : fX11_tables_4 v0 h = some z) : Ev (d + 4) none mX11_tables (0, 0) 4 [.ref v0] [] h (QI z) := 
  go_ok (X := none) (blk := wX11_tables_4) (np := 11) (tt := 18) (kN := fun xs h st => app [2] (fun v0 => apS [] (fX11_tables_11 v0 h) st) xs) (kT := fun xs h st => app [2] (fun v0 => apS [] (fX11_tables_18 v0 h) st) xs) (kR := kRI)
    (fun xs h st q => jm [2] _ (fun v0 q => apS_ok [] _ (fun st => Ev (d + 4) none mX11_tables (0, 0) 11 [.ref v0] st h (QI z)) st (fun q => tX11_tables_11 v0 h q) q) q)
    (fun xs h st q => jm [2] _ (fun v0 q => apS_ok [] _ (fun st => Ev (d + 4) none mX11_tables (0, 0) 18 [.ref v0] st h (QI z)) st (fun q => tX11_tables_18 v0 h q) q) q)
    kRI_ok (Or.inr rfl) (by decide +kernel) (by decide +kernel) hf
theorem kqX11_tables_1 : okC mX11_tables 1 (.invokevirtual 161) 181 196 0 0 = true := by decide +kernel
def fX11_tables_1 (v0 : Nat) (s0 : Nat) (h : aH) : Option (Int32 × aH) :=
  (isO h 11 s0).bind fun _ =>
  (gX11_anew s0 h).bind fun r =>
  fX11_tables_4 v0 r
theorem tX11_tables_1 {d : Nat} {z : Int32 × aH} (v0 : Nat) (s0 : Nat) (h : aH) (hf : fX11_tables_1 v0 s0 h = some z) : Ev (d + 4) none mX11_tables (0, 0) 1 [.ref v0] [.ref s0] h (QI z) := by
  obtain ⟨_, h1, hf⟩ := bnd hf
  obtain ⟨fs, ho⟩ := isO_ok h1
  obtain ⟨r, h2, hf⟩ := bnd hf
  refine ev_V kqX11_tables_1 jX11_anew (zX11_anew (d := d + 3) h2) ho rfl rfl (Nat.le_of_ble_eq_true rfl) rfl (as := []) (rest := []) rfl (Nat.le_of_ble_eq_true rfl) (fun _ _ hq => ?_)
  obtain ⟨rfl, hh⟩ := hq
  rw [hh]
  exact jm [2] (fun v0 => fX11_tables_4 v0 r) (fun v0 q => tX11_tables_4 v0 r q) hf
def wX11_tables_0 : List En := [(.aload_n 0, 0, 0, 0)]
def fX11_tables_0 (v0 : Nat) (h : aH) : Option (Int32 × aH) :=
  fX11_tables_1 v0 v0 h
theorem tX11_tables_0 {d : Nat} {z : Int32 × aH} (v0 : Nat) (h : aH) (hf : fX11_tables_0 v0 h = some z) : Ev (d + 4) none mX11_tables (0, 0) 0 [.ref v0] [] h (QI z) := 
  go_ok (X := none) (blk := wX11_tables_0) (np := 1) (tt := 0) (kN := fun xs h st => app [2] (fun v0 => apS [2] (fun s0 => fX11_tables_1 v0 s0 h) st) xs) (kT := fun _ _ _ => none) (kR := kRI)
    (fun xs h st q => jm [2] _ (fun v0 q => apS_ok [2] _ (fun st => Ev (d + 4) none mX11_tables (0, 0) 1 [.ref v0] st h (QI z)) st (fun s0 q => tX11_tables_1 v0 s0 h q) q) q)
    (fun _ _ _ q => nos q)
    kRI_ok (Or.inr rfl) (by decide +kernel) (by decide +kernel) hf
def gX11_tables (v0 : Nat) (h : aH) : Option (Int32 × aH) := fX11_tables_0 v0 h
theorem zX11_tables {d : Nat} {z : Int32 × aH} {v0 : Nat} {h : aH} (q : gX11_tables v0 h = some z) : CT (d + 4) mX11_tables (0, 0) [.ref v0] h (QI z) :=
  ct_ev (by decide +kernel) (Nat.le_of_ble_eq_true rfl) QI_r (jm [2] (fun v0 => fX11_tables_0 v0 h) (fun v0 q => tX11_tables_0 v0 h q) q)
def wX11_tablesWorth_21 : List En := [(.pop, 0, 0, 0), (.aload_n 0, 0, 0, 0), (.getfield 348, 210, 11, 35), (.ireturn, 0, 0, 0)]
def fX11_tablesWorth_21 (v0 : Nat) (s0 : Int32) (h : aH) : Option (Int32 × aH) :=
  (gFI h 11 v0 35).bind fun t1 =>
  some (t1, h)
theorem tX11_tablesWorth_21 {d : Nat} {z : Int32 × aH} (v0 : Nat) (s0 : Int32) (h : aH) (hf : fX11_tablesWorth_21 v0 s0 h = some z) : Ev (d + 4) none mX11_tablesWorth (0, 0) 21 [.ref v0] [.int s0] h (QI z) := 
  go_ok (X := none) (blk := wX11_tablesWorth_21) (np := 27) (tt := 0) (kN := fun _ _ _ => none) (kT := fun _ _ _ => none) (kR := kRI)
    (fun _ _ _ q => nos q)
    (fun _ _ _ q => nos q)
    kRI_ok (Or.inr rfl) (by decide +kernel) (by decide +kernel) hf
theorem kqX11_tablesWorth_18 : okC mX11_tablesWorth 18 (.invokevirtual 354) 265 282 0 0 = true := by decide +kernel
def fX11_tablesWorth_18 (v0 : Nat) (s0 : Nat) (h : aH) : Option (Int32 × aH) :=
  (isO h 11 s0).bind fun _ =>
  (gX11_tablesOf s0 h).bind fun r =>
  fX11_tablesWorth_21 v0 r.1 r.2
theorem tX11_tablesWorth_18 {d : Nat} {z : Int32 × aH} (v0 : Nat) (s0 : Nat) (h : aH) (hf : fX11_tablesWorth_18 v0 s0 h = some z) : Ev (d + 4) none mX11_tablesWorth (0, 0) 18 [.ref v0] [.ref s0] h (QI z) := by
  obtain ⟨_, h1, hf⟩ := bnd hf
  obtain ⟨fs, ho⟩ := isO_ok h1
  obtain ⟨r, h2, hf⟩ := bnd hf
  refine ev_V kqX11_tablesWorth_18 jX11_tablesOf (zX11_tablesOf (d := d + 0) h2) ho rfl rfl (Nat.le_of_ble_eq_true rfl) rfl (as := []) (rest := []) rfl (Nat.le_of_ble_eq_true rfl) (fun _ _ hq => ?_)
  obtain ⟨rfl, rfl⟩ := hq
  exact jm [2] (fun v0 => fX11_tablesWorth_21 v0 r.1 r.2) (fun v0 q => tX11_tablesWorth_21 v0 r.1 r.2 q) hf
def wX11_tablesWorth_17 : List En := [(.aload_n 0, 0, 0, 0)]
def fX11_tablesWorth_17 (v0 : Nat) (h : aH) : Option (Int32 × aH) :=
  fX11_tablesWorth_18 v0 v0 h
theorem tX11_tablesWorth_17 {d : Nat} {z : Int32 × aH} (v0 : Nat) (h : aH) (hf : fX11_tablesWorth_17 v0 h = some z) : Ev (d + 4) none mX11_tablesWorth (0, 0) 17 [.ref v0] [] h (QI z) := 
  go_ok (X := none) (blk := wX11_tablesWorth_17) (np := 18) (tt := 0) (kN := fun xs h st => app [2] (fun v0 => apS [2] (fun s0 => fX11_tablesWorth_18 v0 s0 h) st) xs) (kT := fun _ _ _ => none) (kR := kRI)
    (fun xs h st q => jm [2] _ (fun v0 q => apS_ok [2] _ (fun st => Ev (d + 4) none mX11_tablesWorth (0, 0) 18 [.ref v0] st h (QI z)) st (fun s0 q => tX11_tablesWorth_18 v0 s0 h q) q) q)
    (fun _ _ _ q => nos q)
    kRI_ok (Or.inr rfl) (by decide +kernel) (by decide +kernel) hf
def wX11_tablesWorth_16 : List En := [(.ireturn, 0, 0, 0)]
def fX11_tablesWorth_16 (s0 : Int32) (h : aH) : Option (Int32 × aH) :=
  some (s0, h)
theorem tX11_tablesWorth_16 {d : Nat} {z : Int32 × aH} (s0 : Int32) (h : aH) (hf : fX11_tablesWorth_16 s0 h = some z) : Ev (d + 4) none mX11_tablesWorth (0, 0) 16 [.null] [.int s0] h (QI z) := 
  go_ok (X := none) (blk := wX11_tablesWorth_16) (np := 17) (tt := 0) (kN := fun _ _ _ => none) (kT := fun _ _ _ => none) (kR := kRI)
    (fun _ _ _ q => nos q)
    (fun _ _ _ q => nos q)
    kRI_ok (Or.inr rfl) (by decide +kernel) (by decide +kernel) hf
theorem kqX11_tablesWorth_13 : okC mX11_tablesWorth 13 (.invokevirtual 164) 183 198 0 1 = true := by decide +kernel
def fX11_tablesWorth_13 (s0 : Int32) (s1 : Nat) (h : aH) : Option (Int32 × aH) :=
  (isO h 11 s1).bind fun _ =>
  (gX11_no s1 s0 h).bind fun r =>
  fX11_tablesWorth_16 r.1 r.2
theorem tX11_tablesWorth_13 {d : Nat} {z : Int32 × aH} (s0 : Int32) (s1 : Nat) (h : aH) (hf : fX11_tablesWorth_13 s0 s1 h = some z) : Ev (d + 4) none mX11_tablesWorth (0, 0) 13 [.null] [.int s0, .ref s1] h (QI z) := by
  obtain ⟨_, h1, hf⟩ := bnd hf
  obtain ⟨fs, ho⟩ := isO_ok h1
  obtain ⟨r, h2, hf⟩ := bnd hf
  refine ev_V kqX11_tablesWorth_13 jX11_no (zX11_no (d := d + 3) h2) ho rfl rfl (Nat.le_of_ble_eq_true rfl) rfl (as := [.int s0]) (rest := []) rfl (Nat.le_of_ble_eq_true rfl) (fun _ _ hq => ?_)
  obtain ⟨rfl, rfl⟩ := hq
  exact jm [0] (fX11_tablesWorth_16 r.1 r.2) (fun q => tX11_tablesWorth_16 r.1 r.2 q) hf
def wX11_tablesWorth_11 : List En := [(.aload_n 0, 0, 0, 0), (.iconst 1, 0, 0, 0)]
def fX11_tablesWorth_11 (v0 : Nat) (h : aH) : Option (Int32 × aH) :=
  fX11_tablesWorth_13 (kI 1) v0 h
theorem tX11_tablesWorth_11 {d : Nat} {z : Int32 × aH} (v0 : Nat) (h : aH) (hf : fX11_tablesWorth_11 v0 h = some z) : Ev (d + 4) none mX11_tablesWorth (0, 0) 11 [.ref v0] [] h (QI z) := 
  go_ok (X := none) (blk := wX11_tablesWorth_11) (np := 13) (tt := 0) (kN := fun xs h st => app [0] (apS [1, 2] (fun s0 s1 => fX11_tablesWorth_13 s0 s1 h) st) xs) (kT := fun _ _ _ => none) (kR := kRI)
    (fun xs h st q => jm [0] _ (fun q => apS_ok [1, 2] _ (fun st => Ev (d + 4) none mX11_tablesWorth (0, 0) 13 [.null] st h (QI z)) st (fun s0 s1 q => tX11_tablesWorth_13 s0 s1 h q) q) q)
    (fun _ _ _ q => nos q)
    kRI_ok (Or.inr rfl) (by decide +kernel) (by decide +kernel) hf
def wX11_tablesWorth_4 : List En := [(.aload_n 0, 0, 0, 0), (.getfield 174, 189, 11, 14), (.ifCond .ne 9, 17, 0, 0)]
def fX11_tablesWorth_4 (v0 : Nat) (h : aH) : Option (Int32 × aH) :=
  (gFI h 11 v0 14).bind fun t1 =>
  if t1 = 0 then fX11_tablesWorth_11 v0 h else fX11_tablesWorth_17 v0 h
theorem tX11_tablesWorth_4 {d : Nat} {z : Int32 × aH} (v0 : Nat) (h : aH) (hf : fX11_tablesWorth_4 v0 h = some z) : Ev (d + 4) none mX11_tablesWorth (0, 0) 4 [.ref v0] [] h (QI z) := 
  go_ok (X := none) (blk := wX11_tablesWorth_4) (np := 11) (tt := 17) (kN := fun xs h st => app [2] (fun v0 => apS [] (fX11_tablesWorth_11 v0 h) st) xs) (kT := fun xs h st => app [2] (fun v0 => apS [] (fX11_tablesWorth_17 v0 h) st) xs) (kR := kRI)
    (fun xs h st q => jm [2] _ (fun v0 q => apS_ok [] _ (fun st => Ev (d + 4) none mX11_tablesWorth (0, 0) 11 [.ref v0] st h (QI z)) st (fun q => tX11_tablesWorth_11 v0 h q) q) q)
    (fun xs h st q => jm [2] _ (fun v0 q => apS_ok [] _ (fun st => Ev (d + 4) none mX11_tablesWorth (0, 0) 17 [.ref v0] st h (QI z)) st (fun q => tX11_tablesWorth_17 v0 h q) q) q)
    kRI_ok (Or.inr rfl) (by decide +kernel) (by decide +kernel) hf
theorem kqX11_tablesWorth_1 : okC mX11_tablesWorth 1 (.invokevirtual 161) 181 196 0 0 = true := by decide +kernel
def fX11_tablesWorth_1 (v0 : Nat) (s0 : Nat) (h : aH) : Option (Int32 × aH) :=
  (isO h 11 s0).bind fun _ =>
  (gX11_anew s0 h).bind fun r =>
  fX11_tablesWorth_4 v0 r
theorem tX11_tablesWorth_1 {d : Nat} {z : Int32 × aH} (v0 : Nat) (s0 : Nat) (h : aH) (hf : fX11_tablesWorth_1 v0 s0 h = some z) : Ev (d + 4) none mX11_tablesWorth (0, 0) 1 [.ref v0] [.ref s0] h (QI z) := by
  obtain ⟨_, h1, hf⟩ := bnd hf
  obtain ⟨fs, ho⟩ := isO_ok h1
  obtain ⟨r, h2, hf⟩ := bnd hf
  refine ev_V kqX11_tablesWorth_1 jX11_anew (zX11_anew (d := d + 3) h2) ho rfl rfl (Nat.le_of_ble_eq_true rfl) rfl (as := []) (rest := []) rfl (Nat.le_of_ble_eq_true rfl) (fun _ _ hq => ?_)
  obtain ⟨rfl, hh⟩ := hq
  rw [hh]
  exact jm [2] (fun v0 => fX11_tablesWorth_4 v0 r) (fun v0 q => tX11_tablesWorth_4 v0 r q) hf
def wX11_tablesWorth_0 : List En := [(.aload_n 0, 0, 0, 0)]
def fX11_tablesWorth_0 (v0 : Nat) (h : aH) : Option (Int32 × aH) :=
  fX11_tablesWorth_1 v0 v0 h
theorem tX11_tablesWorth_0 {d : Nat} {z : Int32 × aH} (v0 : Nat) (h : aH) (hf : fX11_tablesWorth_0 v0 h = some z) : Ev (d + 4) none mX11_tablesWorth (0, 0) 0 [.ref v0] [] h (QI z) := 
  go_ok (X := none) (blk := wX11_tablesWorth_0) (np := 1) (tt := 0) (kN := fun xs h st => app [2] (fun v0 => apS [2] (fun s0 => fX11_tablesWorth_1 v0 s0 h) st) xs) (kT := fun _ _ _ => none) (kR := kRI)
    (fun xs h st q => jm [2] _ (fun v0 q => apS_ok [2] _ (fun st => Ev (d + 4) none mX11_tablesWorth (0, 0) 1 [.ref v0] st h (QI z)) st (fun s0 q => tX11_tablesWorth_1 v0 s0 h q) q) q)
    (fun _ _ _ q => nos q)
    kRI_ok (Or.inr rfl) (by decide +kernel) (by decide +kernel) hf
def gX11_tablesWorth (v0 : Nat) (h : aH) : Option (Int32 × aH) := fX11_tablesWorth_0 v0 h
theorem zX11_tablesWorth {d : Nat} {z : Int32 × aH} {v0 : Nat} {h : aH} (q : gX11_tablesWorth v0 h = some z) : CT (d + 4) mX11_tablesWorth (0, 0) [.ref v0] h (QI z) :=
  ct_ev (by decide +kernel) (Nat.le_of_ble_eq_true rfl) QI_r (jm [2] (fun v0 => fX11_tablesWorth_0 v0 h) (fun v0 q => tX11_tablesWorth_0 v0 h q) q)
def wX11_bowlFor_91 : List En := [(.aload_n 0, 0, 0, 0), (.getfield 20, 190, 11, 15), (.iconst 0, 0, 0, 0), (.iload_n 3, 0, 0, 0), (.iastore, 0, 0, 0), (.iload 4, 0, 0, 0), (.ireturn, 0, 0, 0)]
def fX11_bowlFor_91 (v0 : Nat) (v3 : Int32) (v4 : Int32) (h : aH) : Option (Int32 × aH) :=
  (gFR h 11 v0 15).bind fun t1 =>
  (aWI h t1 (kI 0) v3).bind fun h2 =>
  some (v4, h2)
theorem tX11_bowlFor_91 {d : Nat} {z : Int32 × aH} (v0 : Nat) (v3 : Int32) (v4 : Int32) (h : aH) (hf : fX11_bowlFor_91 v0 v3 v4 h = some z) : Ev (d + 5) none mX11_bowlFor (0, 0) 91 [.ref v0, .null, .null, .int v3, .int v4, .null] [] h (QI z) := 
  go_ok (X := none) (blk := wX11_bowlFor_91) (np := 101) (tt := 0) (kN := fun _ _ _ => none) (kT := fun _ _ _ => none) (kR := kRI)
    (fun _ _ _ q => nos q)
    (fun _ _ _ q => nos q)
    kRI_ok (Or.inr rfl) (by decide +kernel) (by decide +kernel) hf
def wX11_bowlFor_85 : List En := [(.iinc 5 1, 0, 0, 0), (.goto (-49), 39, 0, 0)]
def fX11_bowlFor_85 (k39 : Nat → Int32 → Int32 → Int32 → Int32 → aH → Option (Int32 × aH)) (v0 : Nat) (v1 : Int32) (v3 : Int32) (v4 : Int32) (v5 : Int32) (h : aH) : Option (Int32 × aH) :=
  k39 v0 v1 v3 v4 (v5 + kI 1) h
theorem tX11_bowlFor_85 {d : Nat} {z : Int32 × aH} {k39 : Nat → Int32 → Int32 → Int32 → Int32 → aH → Option (Int32 × aH)} (hk39 : ∀ (v0 : Nat) (v1 : Int32) (v3 : Int32) (v4 : Int32) (v5 : Int32) (h : aH), k39 v0 v1 v3 v4 v5 h = some z → Ev (d + 5) none mX11_bowlFor (0, 0) 39 [.ref v0, .int v1, .null, .int v3, .int v4, .int v5] [] h (QI z)) (v0 : Nat) (v1 : Int32) (v3 : Int32) (v4 : Int32) (v5 : Int32) (h : aH) (hf : fX11_bowlFor_85 k39 v0 v1 v3 v4 v5 h = some z) : Ev (d + 5) none mX11_bowlFor (0, 0) 85 [.ref v0, .int v1, .null, .int v3, .int v4, .int v5] [] h (QI z) := 
  go_ok (X := none) (blk := wX11_bowlFor_85) (np := 91) (tt := 39) (kN := fun _ _ _ => none) (kT := fun xs h st => app [2, 1, 0, 1, 1, 1] (fun v0 v1 v3 v4 v5 => apS [] (k39 v0 v1 v3 v4 v5 h) st) xs) (kR := kRI)
    (fun _ _ _ q => nos q)
    (fun xs h st q => jm [2, 1, 0, 1, 1, 1] _ (fun v0 v1 v3 v4 v5 q => apS_ok [] _ (fun st => Ev (d + 5) none mX11_bowlFor (0, 0) 39 [.ref v0, .int v1, .null, .int v3, .int v4, .int v5] st h (QI z)) st (fun q => hk39 v0 v1 v3 v4 v5 h q) q) q)
    kRI_ok (Or.inr rfl) (by decide +kernel) (by decide +kernel) hf
def wX11_bowlFor_81 : List En := [(.iload 5, 0, 0, 0), (.istore 4, 0, 0, 0)]
def fX11_bowlFor_81 (k39 : Nat → Int32 → Int32 → Int32 → Int32 → aH → Option (Int32 × aH)) (v0 : Nat) (v1 : Int32) (v3 : Int32) (v5 : Int32) (h : aH) : Option (Int32 × aH) :=
  fX11_bowlFor_85 k39 v0 v1 v3 v5 v5 h
theorem tX11_bowlFor_81 {d : Nat} {z : Int32 × aH} {k39 : Nat → Int32 → Int32 → Int32 → Int32 → aH → Option (Int32 × aH)} (hk39 : ∀ (v0 : Nat) (v1 : Int32) (v3 : Int32) (v4 : Int32) (v5 : Int32) (h : aH), k39 v0 v1 v3 v4 v5 h = some z → Ev (d + 5) none mX11_bowlFor (0, 0) 39 [.ref v0, .int v1, .null, .int v3, .int v4, .int v5] [] h (QI z)) (v0 : Nat) (v1 : Int32) (v3 : Int32) (v5 : Int32) (h : aH) (hf : fX11_bowlFor_81 k39 v0 v1 v3 v5 h = some z) : Ev (d + 5) none mX11_bowlFor (0, 0) 81 [.ref v0, .int v1, .null, .int v3, .null, .int v5] [] h (QI z) := 
  go_ok (X := none) (blk := wX11_bowlFor_81) (np := 85) (tt := 0) (kN := fun xs h st => app [2, 1, 0, 1, 1, 1] (fun v0 v1 v3 v4 v5 => apS [] (fX11_bowlFor_85 k39 v0 v1 v3 v4 v5 h) st) xs) (kT := fun _ _ _ => none) (kR := kRI)
    (fun xs h st q => jm [2, 1, 0, 1, 1, 1] _ (fun v0 v1 v3 v4 v5 q => apS_ok [] _ (fun st => Ev (d + 5) none mX11_bowlFor (0, 0) 85 [.ref v0, .int v1, .null, .int v3, .int v4, .int v5] st h (QI z)) st (fun q => tX11_bowlFor_85 hk39 v0 v1 v3 v4 v5 h q) q) q)
    (fun _ _ _ q => nos q)
    kRI_ok (Or.inr rfl) (by decide +kernel) (by decide +kernel) hf
def wX11_bowlFor_64 : List En := [(.aload_n 0, 0, 0, 0), (.getfield 35, 195, 11, 20), (.bipush 10, 0, 0, 0), (.iaload, 0, 0, 0), (.aload_n 0, 0, 0, 0), (.getfield 32, 194, 11, 19), (.bipush 10, 0, 0, 0), (.iaload, 0, 0, 0), (.if_icmp .ne 7, 85, 0, 0)]
def fX11_bowlFor_64 (k39 : Nat → Int32 → Int32 → Int32 → Int32 → aH → Option (Int32 × aH)) (v0 : Nat) (v1 : Int32) (v3 : Int32) (v4 : Int32) (v5 : Int32) (h : aH) : Option (Int32 × aH) :=
  (gFR h 11 v0 20).bind fun t1 =>
  (aRI (h[t1]?) (kB 10)).bind fun t2 =>
  (gFR h 11 v0 19).bind fun t3 =>
  (aRI (h[t3]?) (kB 10)).bind fun t4 =>
  if t2 = t4 then fX11_bowlFor_81 k39 v0 v1 v3 v5 h else fX11_bowlFor_85 k39 v0 v1 v3 v4 v5 h
theorem tX11_bowlFor_64 {d : Nat} {z : Int32 × aH} {k39 : Nat → Int32 → Int32 → Int32 → Int32 → aH → Option (Int32 × aH)} (hk39 : ∀ (v0 : Nat) (v1 : Int32) (v3 : Int32) (v4 : Int32) (v5 : Int32) (h : aH), k39 v0 v1 v3 v4 v5 h = some z → Ev (d + 5) none mX11_bowlFor (0, 0) 39 [.ref v0, .int v1, .null, .int v3, .int v4, .int v5] [] h (QI z)) (v0 : Nat) (v1 : Int32) (v3 : Int32) (v4 : Int32) (v5 : Int32) (h : aH) (hf : fX11_bowlFor_64 k39 v0 v1 v3 v4 v5 h = some z) : Ev (d + 5) none mX11_bowlFor (0, 0) 64 [.ref v0, .int v1, .null, .int v3, .int v4, .int v5] [] h (QI z) := 
  go_ok (X := none) (blk := wX11_bowlFor_64) (np := 81) (tt := 85) (kN := fun xs h st => app [2, 1, 0, 1, 0, 1] (fun v0 v1 v3 v5 => apS [] (fX11_bowlFor_81 k39 v0 v1 v3 v5 h) st) xs) (kT := fun xs h st => app [2, 1, 0, 1, 1, 1] (fun v0 v1 v3 v4 v5 => apS [] (fX11_bowlFor_85 k39 v0 v1 v3 v4 v5 h) st) xs) (kR := kRI)
    (fun xs h st q => jm [2, 1, 0, 1, 0, 1] _ (fun v0 v1 v3 v5 q => apS_ok [] _ (fun st => Ev (d + 5) none mX11_bowlFor (0, 0) 81 [.ref v0, .int v1, .null, .int v3, .null, .int v5] st h (QI z)) st (fun q => tX11_bowlFor_81 hk39 v0 v1 v3 v5 h q) q) q)
    (fun xs h st q => jm [2, 1, 0, 1, 1, 1] _ (fun v0 v1 v3 v4 v5 q => apS_ok [] _ (fun st => Ev (d + 5) none mX11_bowlFor (0, 0) 85 [.ref v0, .int v1, .null, .int v3, .int v4, .int v5] st h (QI z)) st (fun q => tX11_bowlFor_85 hk39 v0 v1 v3 v4 v5 h q) q) q)
    kRI_ok (Or.inr rfl) (by decide +kernel) (by decide +kernel) hf
theorem kqX11_bowlFor_61 : okC mX11_bowlFor 61 (.invokevirtual 294) 227 244 0 1 = true := by decide +kernel
def fX11_bowlFor_61 (k39 : Nat → Int32 → Int32 → Int32 → Int32 → aH → Option (Int32 × aH)) (v0 : Nat) (v1 : Int32) (v3 : Int32) (v4 : Int32) (v5 : Int32) (s0 : Int32) (s1 : Nat) (h : aH) : Option (Int32 × aH) :=
  (isO h 11 s1).bind fun _ =>
  (gX11_daysOn s1 s0 h).bind fun r =>
  fX11_bowlFor_64 k39 v0 v1 v3 v4 v5 r
theorem tX11_bowlFor_61 {d : Nat} {z : Int32 × aH} {k39 : Nat → Int32 → Int32 → Int32 → Int32 → aH → Option (Int32 × aH)} (hk39 : ∀ (v0 : Nat) (v1 : Int32) (v3 : Int32) (v4 : Int32) (v5 : Int32) (h : aH), k39 v0 v1 v3 v4 v5 h = some z → Ev (d + 5) none mX11_bowlFor (0, 0) 39 [.ref v0, .int v1, .null, .int v3, .int v4, .int v5] [] h (QI z)) (v0 : Nat) (v1 : Int32) (v3 : Int32) (v4 : Int32) (v5 : Int32) (s0 : Int32) (s1 : Nat) (h : aH) (hf : fX11_bowlFor_61 k39 v0 v1 v3 v4 v5 s0 s1 h = some z) : Ev (d + 5) none mX11_bowlFor (0, 0) 61 [.ref v0, .int v1, .null, .int v3, .int v4, .int v5] [.int s0, .ref s1] h (QI z) := by
  obtain ⟨_, h1, hf⟩ := bnd hf
  obtain ⟨fs, ho⟩ := isO_ok h1
  obtain ⟨r, h2, hf⟩ := bnd hf
  refine ev_V kqX11_bowlFor_61 jX11_daysOn (zX11_daysOn (d := d + 0) h2) ho rfl rfl (Nat.le_of_ble_eq_true rfl) rfl (as := [.int s0]) (rest := []) rfl (Nat.le_of_ble_eq_true rfl) (fun _ _ hq => ?_)
  obtain ⟨rfl, hh⟩ := hq
  rw [hh]
  exact jm [2, 1, 0, 1, 1, 1] (fun v0 v1 v3 v4 v5 => fX11_bowlFor_64 k39 v0 v1 v3 v4 v5 r) (fun v0 v1 v3 v4 v5 q => tX11_bowlFor_64 hk39 v0 v1 v3 v4 v5 r q) hf
def wX11_bowlFor_51 : List En := [(.aload_n 0, 0, 0, 0), (.getfield 20, 190, 11, 15), (.iconst 0, 0, 0, 0), (.iload 5, 0, 0, 0), (.iastore, 0, 0, 0), (.aload_n 0, 0, 0, 0), (.iload_n 1, 0, 0, 0)]
def fX11_bowlFor_51 (k39 : Nat → Int32 → Int32 → Int32 → Int32 → aH → Option (Int32 × aH)) (v0 : Nat) (v1 : Int32) (v3 : Int32) (v4 : Int32) (v5 : Int32) (h : aH) : Option (Int32 × aH) :=
  (gFR h 11 v0 15).bind fun t1 =>
  (aWI h t1 (kI 0) v5).bind fun h2 =>
  fX11_bowlFor_61 k39 v0 v1 v3 v4 v5 v1 v0 h2
theorem tX11_bowlFor_51 {d : Nat} {z : Int32 × aH} {k39 : Nat → Int32 → Int32 → Int32 → Int32 → aH → Option (Int32 × aH)} (hk39 : ∀ (v0 : Nat) (v1 : Int32) (v3 : Int32) (v4 : Int32) (v5 : Int32) (h : aH), k39 v0 v1 v3 v4 v5 h = some z → Ev (d + 5) none mX11_bowlFor (0, 0) 39 [.ref v0, .int v1, .null, .int v3, .int v4, .int v5] [] h (QI z)) (v0 : Nat) (v1 : Int32) (v3 : Int32) (v4 : Int32) (v5 : Int32) (h : aH) (hf : fX11_bowlFor_51 k39 v0 v1 v3 v4 v5 h = some z) : Ev (d + 5) none mX11_bowlFor (0, 0) 51 [.ref v0, .int v1, .null, .int v3, .int v4, .int v5] [] h (QI z) := 
  go_ok (X := none) (blk := wX11_bowlFor_51) (np := 61) (tt := 0) (kN := fun xs h st => app [2, 1, 0, 1, 1, 1] (fun v0 v1 v3 v4 v5 => apS [1, 2] (fun s0 s1 => fX11_bowlFor_61 k39 v0 v1 v3 v4 v5 s0 s1 h) st) xs) (kT := fun _ _ _ => none) (kR := kRI)
    (fun xs h st q => jm [2, 1, 0, 1, 1, 1] _ (fun v0 v1 v3 v4 v5 q => apS_ok [1, 2] _ (fun st => Ev (d + 5) none mX11_bowlFor (0, 0) 61 [.ref v0, .int v1, .null, .int v3, .int v4, .int v5] st h (QI z)) st (fun s0 s1 q => tX11_bowlFor_61 hk39 v0 v1 v3 v4 v5 s0 s1 h q) q) q)
    (fun _ _ _ q => nos q)
    kRI_ok (Or.inr rfl) (by decide +kernel) (by decide +kernel) hf
def wX11_bowlFor_46 : List En := [(.iload 4, 0, 0, 0), (.ifCond .ge 43, 91, 0, 0)]
def fX11_bowlFor_46 (k39 : Nat → Int32 → Int32 → Int32 → Int32 → aH → Option (Int32 × aH)) (v0 : Nat) (v1 : Int32) (v3 : Int32) (v4 : Int32) (v5 : Int32) (h : aH) : Option (Int32 × aH) :=
  if v4 < 0 then fX11_bowlFor_51 k39 v0 v1 v3 v4 v5 h else fX11_bowlFor_91 v0 v3 v4 h
theorem tX11_bowlFor_46 {d : Nat} {z : Int32 × aH} {k39 : Nat → Int32 → Int32 → Int32 → Int32 → aH → Option (Int32 × aH)} (hk39 : ∀ (v0 : Nat) (v1 : Int32) (v3 : Int32) (v4 : Int32) (v5 : Int32) (h : aH), k39 v0 v1 v3 v4 v5 h = some z → Ev (d + 5) none mX11_bowlFor (0, 0) 39 [.ref v0, .int v1, .null, .int v3, .int v4, .int v5] [] h (QI z)) (v0 : Nat) (v1 : Int32) (v3 : Int32) (v4 : Int32) (v5 : Int32) (h : aH) (hf : fX11_bowlFor_46 k39 v0 v1 v3 v4 v5 h = some z) : Ev (d + 5) none mX11_bowlFor (0, 0) 46 [.ref v0, .int v1, .null, .int v3, .int v4, .int v5] [] h (QI z) := 
  go_ok (X := none) (blk := wX11_bowlFor_46) (np := 51) (tt := 91) (kN := fun xs h st => app [2, 1, 0, 1, 1, 1] (fun v0 v1 v3 v4 v5 => apS [] (fX11_bowlFor_51 k39 v0 v1 v3 v4 v5 h) st) xs) (kT := fun xs h st => app [2, 0, 0, 1, 1, 0] (fun v0 v3 v4 => apS [] (fX11_bowlFor_91 v0 v3 v4 h) st) xs) (kR := kRI)
    (fun xs h st q => jm [2, 1, 0, 1, 1, 1] _ (fun v0 v1 v3 v4 v5 q => apS_ok [] _ (fun st => Ev (d + 5) none mX11_bowlFor (0, 0) 51 [.ref v0, .int v1, .null, .int v3, .int v4, .int v5] st h (QI z)) st (fun q => tX11_bowlFor_51 hk39 v0 v1 v3 v4 v5 h q) q) q)
    (fun xs h st q => jm [2, 0, 0, 1, 1, 0] _ (fun v0 v3 v4 q => apS_ok [] _ (fun st => Ev (d + 5) none mX11_bowlFor (0, 0) 91 [.ref v0, .null, .null, .int v3, .int v4, .null] st h (QI z)) st (fun q => tX11_bowlFor_91 v0 v3 v4 h q) q) q)
    kRI_ok (Or.inr rfl) (by decide +kernel) (by decide +kernel) hf
def wX11_bowlFor_39 : List En := [(.iload 5, 0, 0, 0), (.bipush 20, 0, 0, 0), (.if_icmp .gt 48, 91, 0, 0)]
def fX11_bowlFor_39 (k39 : Nat → Int32 → Int32 → Int32 → Int32 → aH → Option (Int32 × aH)) (v0 : Nat) (v1 : Int32) (v3 : Int32) (v4 : Int32) (v5 : Int32) (h : aH) : Option (Int32 × aH) :=
  if (kB 20) < v5 then fX11_bowlFor_91 v0 v3 v4 h else fX11_bowlFor_46 k39 v0 v1 v3 v4 v5 h
theorem tX11_bowlFor_39 {d : Nat} {z : Int32 × aH} {k39 : Nat → Int32 → Int32 → Int32 → Int32 → aH → Option (Int32 × aH)} (hk39 : ∀ (v0 : Nat) (v1 : Int32) (v3 : Int32) (v4 : Int32) (v5 : Int32) (h : aH), k39 v0 v1 v3 v4 v5 h = some z → Ev (d + 5) none mX11_bowlFor (0, 0) 39 [.ref v0, .int v1, .null, .int v3, .int v4, .int v5] [] h (QI z)) (v0 : Nat) (v1 : Int32) (v3 : Int32) (v4 : Int32) (v5 : Int32) (h : aH) (hf : fX11_bowlFor_39 k39 v0 v1 v3 v4 v5 h = some z) : Ev (d + 5) none mX11_bowlFor (0, 0) 39 [.ref v0, .int v1, .null, .int v3, .int v4, .int v5] [] h (QI z) := 
  go_ok (X := none) (blk := wX11_bowlFor_39) (np := 46) (tt := 91) (kN := fun xs h st => app [2, 1, 0, 1, 1, 1] (fun v0 v1 v3 v4 v5 => apS [] (fX11_bowlFor_46 k39 v0 v1 v3 v4 v5 h) st) xs) (kT := fun xs h st => app [2, 0, 0, 1, 1, 0] (fun v0 v3 v4 => apS [] (fX11_bowlFor_91 v0 v3 v4 h) st) xs) (kR := kRI)
    (fun xs h st q => jm [2, 1, 0, 1, 1, 1] _ (fun v0 v1 v3 v4 v5 q => apS_ok [] _ (fun st => Ev (d + 5) none mX11_bowlFor (0, 0) 46 [.ref v0, .int v1, .null, .int v3, .int v4, .int v5] st h (QI z)) st (fun q => tX11_bowlFor_46 hk39 v0 v1 v3 v4 v5 h q) q) q)
    (fun xs h st q => jm [2, 0, 0, 1, 1, 0] _ (fun v0 v3 v4 q => apS_ok [] _ (fun st => Ev (d + 5) none mX11_bowlFor (0, 0) 91 [.ref v0, .null, .null, .int v3, .int v4, .null] st h (QI z)) st (fun q => tX11_bowlFor_91 v0 v3 v4 h q) q) q)
    kRI_ok (Or.inr rfl) (by decide +kernel) (by decide +kernel) hf
def lX11_bowlFor_39 : Nat → Nat → Int32 → Int32 → Int32 → Int32 → aH → Option (Int32 × aH)
  | 0, _, _, _, _, _, _ => none
  | n + 1, v0, v1, v3, v4, v5, h => fX11_bowlFor_39 (lX11_bowlFor_39 n) v0 v1 v3 v4 v5 h
theorem uX11_bowlFor_39 {d : Nat} {z : Int32 × aH} : ∀ (n : Nat) (v0 : Nat) (v1 : Int32) (v3 : Int32) (v4 : Int32) (v5 : Int32) (h : aH), lX11_bowlFor_39 n v0 v1 v3 v4 v5 h = some z → Ev (d + 5) none mX11_bowlFor (0, 0) 39 [.ref v0, .int v1, .null, .int v3, .int v4, .int v5] [] h (QI z) := by
  intro n
  induction n with
  | zero => intro _ _ _ _ _ _ q; exact nos (show (none : Option (Int32 × aH)) = some z from q)
  | succ n ih => intro v0 v1 v3 v4 v5 h q; exact tX11_bowlFor_39 ih v0 v1 v3 v4 v5 h q
def wX11_bowlFor_25 : List En := [(.aload_n 0, 0, 0, 0), (.getfield 20, 190, 11, 15), (.iconst 0, 0, 0, 0), (.iaload, 0, 0, 0), (.istore_n 3, 0, 0, 0), (.bipush (-2), 0, 0, 0), (.istore 4, 0, 0, 0), (.iconst 1, 0, 0, 0), (.istore 5, 0, 0, 0)]
def fX11_bowlFor_25 (v0 : Nat) (v1 : Int32) (h : aH) : Option (Int32 × aH) :=
  (gFR h 11 v0 15).bind fun t1 =>
  (aRI (h[t1]?) (kI 0)).bind fun t2 =>
  lX11_bowlFor_39 FU v0 v1 t2 (kB (-2)) (kI 1) h
theorem tX11_bowlFor_25 {d : Nat} {z : Int32 × aH} (v0 : Nat) (v1 : Int32) (h : aH) (hf : fX11_bowlFor_25 v0 v1 h = some z) : Ev (d + 5) none mX11_bowlFor (0, 0) 25 [.ref v0, .int v1, .null, .null, .null, .null] [] h (QI z) := 
  go_ok (X := none) (blk := wX11_bowlFor_25) (np := 39) (tt := 0) (kN := fun xs h st => app [2, 1, 0, 1, 1, 1] (fun v0 v1 v3 v4 v5 => apS [] (lX11_bowlFor_39 FU v0 v1 v3 v4 v5 h) st) xs) (kT := fun _ _ _ => none) (kR := kRI)
    (fun xs h st q => jm [2, 1, 0, 1, 1, 1] _ (fun v0 v1 v3 v4 v5 q => apS_ok [] _ (fun st => Ev (d + 5) none mX11_bowlFor (0, 0) 39 [.ref v0, .int v1, .null, .int v3, .int v4, .int v5] st h (QI z)) st (fun q => uX11_bowlFor_39 FU v0 v1 v3 v4 v5 h q) q) q)
    (fun _ _ _ q => nos q)
    kRI_ok (Or.inr rfl) (by decide +kernel) (by decide +kernel) hf
def wX11_bowlFor_24 : List En := [(.ireturn, 0, 0, 0)]
def fX11_bowlFor_24 (s0 : Int32) (h : aH) : Option (Int32 × aH) :=
  some (s0, h)
theorem tX11_bowlFor_24 {d : Nat} {z : Int32 × aH} (s0 : Int32) (h : aH) (hf : fX11_bowlFor_24 s0 h = some z) : Ev (d + 5) none mX11_bowlFor (0, 0) 24 [.null, .null, .null, .null, .null, .null] [.int s0] h (QI z) := 
  go_ok (X := none) (blk := wX11_bowlFor_24) (np := 25) (tt := 0) (kN := fun _ _ _ => none) (kT := fun _ _ _ => none) (kR := kRI)
    (fun _ _ _ q => nos q)
    (fun _ _ _ q => nos q)
    kRI_ok (Or.inr rfl) (by decide +kernel) (by decide +kernel) hf
theorem kqX11_bowlFor_21 : okC mX11_bowlFor 21 (.invokevirtual 164) 183 198 0 1 = true := by decide +kernel
def fX11_bowlFor_21 (s0 : Int32) (s1 : Nat) (h : aH) : Option (Int32 × aH) :=
  (isO h 11 s1).bind fun _ =>
  (gX11_no s1 s0 h).bind fun r =>
  fX11_bowlFor_24 r.1 r.2
theorem tX11_bowlFor_21 {d : Nat} {z : Int32 × aH} (s0 : Int32) (s1 : Nat) (h : aH) (hf : fX11_bowlFor_21 s0 s1 h = some z) : Ev (d + 5) none mX11_bowlFor (0, 0) 21 [.null, .null, .null, .null, .null, .null] [.int s0, .ref s1] h (QI z) := by
  obtain ⟨_, h1, hf⟩ := bnd hf
  obtain ⟨fs, ho⟩ := isO_ok h1
  obtain ⟨r, h2, hf⟩ := bnd hf
  refine ev_V kqX11_bowlFor_21 jX11_no (zX11_no (d := d + 4) h2) ho rfl rfl (Nat.le_of_ble_eq_true rfl) rfl (as := [.int s0]) (rest := []) rfl (Nat.le_of_ble_eq_true rfl) (fun _ _ hq => ?_)
  obtain ⟨rfl, rfl⟩ := hq
  exact jm [0, 0, 0, 0, 0, 0] (fX11_bowlFor_24 r.1 r.2) (fun q => tX11_bowlFor_24 r.1 r.2 q) hf
def wX11_bowlFor_19 : List En := [(.aload_n 0, 0, 0, 0), (.iload_n 2, 0, 0, 0)]
def fX11_bowlFor_19 (v0 : Nat) (v2 : Int32) (h : aH) : Option (Int32 × aH) :=
  fX11_bowlFor_21 v2 v0 h
theorem tX11_bowlFor_19 {d : Nat} {z : Int32 × aH} (v0 : Nat) (v2 : Int32) (h : aH) (hf : fX11_bowlFor_19 v0 v2 h = some z) : Ev (d + 5) none mX11_bowlFor (0, 0) 19 [.ref v0, .null, .int v2, .null, .null, .null] [] h (QI z) := 
  go_ok (X := none) (blk := wX11_bowlFor_19) (np := 21) (tt := 0) (kN := fun xs h st => app [0, 0, 0, 0, 0, 0] (apS [1, 2] (fun s0 s1 => fX11_bowlFor_21 s0 s1 h) st) xs) (kT := fun _ _ _ => none) (kR := kRI)
    (fun xs h st q => jm [0, 0, 0, 0, 0, 0] _ (fun q => apS_ok [1, 2] _ (fun st => Ev (d + 5) none mX11_bowlFor (0, 0) 21 [.null, .null, .null, .null, .null, .null] st h (QI z)) st (fun s0 s1 q => tX11_bowlFor_21 s0 s1 h q) q) q)
    (fun _ _ _ q => nos q)
    kRI_ok (Or.inr rfl) (by decide +kernel) (by decide +kernel) hf
def wX11_bowlFor_14 : List En := [(.istore_n 2, 0, 0, 0), (.iload_n 2, 0, 0, 0), (.ifCond .eq 9, 25, 0, 0)]
def fX11_bowlFor_14 (v0 : Nat) (v1 : Int32) (s0 : Int32) (h : aH) : Option (Int32 × aH) :=
  if s0 = 0 then fX11_bowlFor_25 v0 v1 h else fX11_bowlFor_19 v0 s0 h
theorem tX11_bowlFor_14 {d : Nat} {z : Int32 × aH} (v0 : Nat) (v1 : Int32) (s0 : Int32) (h : aH) (hf : fX11_bowlFor_14 v0 v1 s0 h = some z) : Ev (d + 5) none mX11_bowlFor (0, 0) 14 [.ref v0, .int v1, .null, .null, .null, .null] [.int s0] h (QI z) := 
  go_ok (X := none) (blk := wX11_bowlFor_14) (np := 19) (tt := 25) (kN := fun xs h st => app [2, 0, 1, 0, 0, 0] (fun v0 v2 => apS [] (fX11_bowlFor_19 v0 v2 h) st) xs) (kT := fun xs h st => app [2, 1, 0, 0, 0, 0] (fun v0 v1 => apS [] (fX11_bowlFor_25 v0 v1 h) st) xs) (kR := kRI)
    (fun xs h st q => jm [2, 0, 1, 0, 0, 0] _ (fun v0 v2 q => apS_ok [] _ (fun st => Ev (d + 5) none mX11_bowlFor (0, 0) 19 [.ref v0, .null, .int v2, .null, .null, .null] st h (QI z)) st (fun q => tX11_bowlFor_19 v0 v2 h q) q) q)
    (fun xs h st q => jm [2, 1, 0, 0, 0, 0] _ (fun v0 v1 q => apS_ok [] _ (fun st => Ev (d + 5) none mX11_bowlFor (0, 0) 25 [.ref v0, .int v1, .null, .null, .null, .null] st h (QI z)) st (fun q => tX11_bowlFor_25 v0 v1 h q) q) q)
    kRI_ok (Or.inr rfl) (by decide +kernel) (by decide +kernel) hf
theorem kqX11_bowlFor_11 : okC mX11_bowlFor 11 (.invokevirtual 300) 239 256 0 3 = true := by decide +kernel
def fX11_bowlFor_11 (v0 : Nat) (v1 : Int32) (s0 : Int32) (s1 : Int32) (s2 : Int32) (s3 : Nat) (h : aH) : Option (Int32 × aH) :=
  (isO h 11 s3).bind fun _ =>
  (gX11_aheadWhy s3 s2 s1 s0 h).bind fun r =>
  fX11_bowlFor_14 v0 v1 r.1 r.2
theorem tX11_bowlFor_11 {d : Nat} {z : Int32 × aH} (v0 : Nat) (v1 : Int32) (s0 : Int32) (s1 : Int32) (s2 : Int32) (s3 : Nat) (h : aH) (hf : fX11_bowlFor_11 v0 v1 s0 s1 s2 s3 h = some z) : Ev (d + 5) none mX11_bowlFor (0, 0) 11 [.ref v0, .int v1, .null, .null, .null, .null] [.int s0, .int s1, .int s2, .ref s3] h (QI z) := by
  obtain ⟨_, h1, hf⟩ := bnd hf
  obtain ⟨fs, ho⟩ := isO_ok h1
  obtain ⟨r, h2, hf⟩ := bnd hf
  refine ev_V kqX11_bowlFor_11 jX11_aheadWhy (zX11_aheadWhy (d := d + 3) h2) ho rfl rfl (Nat.le_of_ble_eq_true rfl) rfl (as := [.int s2, .int s1, .int s0]) (rest := []) rfl (Nat.le_of_ble_eq_true rfl) (fun _ _ hq => ?_)
  obtain ⟨rfl, rfl⟩ := hq
  exact jm [2, 1, 0, 0, 0, 0] (fun v0 v1 => fX11_bowlFor_14 v0 v1 r.1 r.2) (fun v0 v1 q => tX11_bowlFor_14 v0 v1 r.1 r.2 q) hf
def wX11_bowlFor_4 : List En := [(.aload_n 0, 0, 0, 0), (.aload_n 0, 0, 0, 0), (.getfield 174, 189, 11, 14), (.iconst 0, 0, 0, 0), (.iload_n 1, 0, 0, 0)]
def fX11_bowlFor_4 (v0 : Nat) (v1 : Int32) (h : aH) : Option (Int32 × aH) :=
  (gFI h 11 v0 14).bind fun t1 =>
  fX11_bowlFor_11 v0 v1 v1 (kI 0) t1 v0 h
theorem tX11_bowlFor_4 {d : Nat} {z : Int32 × aH} (v0 : Nat) (v1 : Int32) (h : aH) (hf : fX11_bowlFor_4 v0 v1 h = some z) : Ev (d + 5) none mX11_bowlFor (0, 0) 4 [.ref v0, .int v1, .null, .null, .null, .null] [] h (QI z) := 
  go_ok (X := none) (blk := wX11_bowlFor_4) (np := 11) (tt := 0) (kN := fun xs h st => app [2, 1, 0, 0, 0, 0] (fun v0 v1 => apS [1, 1, 1, 2] (fun s0 s1 s2 s3 => fX11_bowlFor_11 v0 v1 s0 s1 s2 s3 h) st) xs) (kT := fun _ _ _ => none) (kR := kRI)
    (fun xs h st q => jm [2, 1, 0, 0, 0, 0] _ (fun v0 v1 q => apS_ok [1, 1, 1, 2] _ (fun st => Ev (d + 5) none mX11_bowlFor (0, 0) 11 [.ref v0, .int v1, .null, .null, .null, .null] st h (QI z)) st (fun s0 s1 s2 s3 q => tX11_bowlFor_11 v0 v1 s0 s1 s2 s3 h q) q) q)
    (fun _ _ _ q => nos q)
    kRI_ok (Or.inr rfl) (by decide +kernel) (by decide +kernel) hf
theorem kqX11_bowlFor_1 : okC mX11_bowlFor 1 (.invokevirtual 161) 181 196 0 0 = true := by decide +kernel
def fX11_bowlFor_1 (v0 : Nat) (v1 : Int32) (s0 : Nat) (h : aH) : Option (Int32 × aH) :=
  (isO h 11 s0).bind fun _ =>
  (gX11_anew s0 h).bind fun r =>
  fX11_bowlFor_4 v0 v1 r
theorem tX11_bowlFor_1 {d : Nat} {z : Int32 × aH} (v0 : Nat) (v1 : Int32) (s0 : Nat) (h : aH) (hf : fX11_bowlFor_1 v0 v1 s0 h = some z) : Ev (d + 5) none mX11_bowlFor (0, 0) 1 [.ref v0, .int v1, .null, .null, .null, .null] [.ref s0] h (QI z) := by
  obtain ⟨_, h1, hf⟩ := bnd hf
  obtain ⟨fs, ho⟩ := isO_ok h1
  obtain ⟨r, h2, hf⟩ := bnd hf
  refine ev_V kqX11_bowlFor_1 jX11_anew (zX11_anew (d := d + 4) h2) ho rfl rfl (Nat.le_of_ble_eq_true rfl) rfl (as := []) (rest := []) rfl (Nat.le_of_ble_eq_true rfl) (fun _ _ hq => ?_)
  obtain ⟨rfl, hh⟩ := hq
  rw [hh]
  exact jm [2, 1, 0, 0, 0, 0] (fun v0 v1 => fX11_bowlFor_4 v0 v1 r) (fun v0 v1 q => tX11_bowlFor_4 v0 v1 r q) hf
def wX11_bowlFor_0 : List En := [(.aload_n 0, 0, 0, 0)]
def fX11_bowlFor_0 (v0 : Nat) (v1 : Int32) (h : aH) : Option (Int32 × aH) :=
  fX11_bowlFor_1 v0 v1 v0 h
theorem tX11_bowlFor_0 {d : Nat} {z : Int32 × aH} (v0 : Nat) (v1 : Int32) (h : aH) (hf : fX11_bowlFor_0 v0 v1 h = some z) : Ev (d + 5) none mX11_bowlFor (0, 0) 0 [.ref v0, .int v1, .null, .null, .null, .null] [] h (QI z) := 
  go_ok (X := none) (blk := wX11_bowlFor_0) (np := 1) (tt := 0) (kN := fun xs h st => app [2, 1, 0, 0, 0, 0] (fun v0 v1 => apS [2] (fun s0 => fX11_bowlFor_1 v0 v1 s0 h) st) xs) (kT := fun _ _ _ => none) (kR := kRI)
    (fun xs h st q => jm [2, 1, 0, 0, 0, 0] _ (fun v0 v1 q => apS_ok [2] _ (fun st => Ev (d + 5) none mX11_bowlFor (0, 0) 1 [.ref v0, .int v1, .null, .null, .null, .null] st h (QI z)) st (fun s0 q => tX11_bowlFor_1 v0 v1 s0 h q) q) q)
    (fun _ _ _ q => nos q)
    kRI_ok (Or.inr rfl) (by decide +kernel) (by decide +kernel) hf
def gX11_bowlFor (v0 : Nat) (v1 : Int32) (h : aH) : Option (Int32 × aH) := fX11_bowlFor_0 v0 v1 h
theorem zX11_bowlFor {d : Nat} {z : Int32 × aH} {v0 : Nat} {v1 : Int32} {h : aH} (q : gX11_bowlFor v0 v1 h = some z) : CT (d + 5) mX11_bowlFor (0, 0) [.ref v0, .int v1] h (QI z) :=
  ct_ev (by decide +kernel) (Nat.le_of_ble_eq_true rfl) QI_r (jm [2, 1, 0, 0, 0, 0] (fun v0 v1 => fX11_bowlFor_0 v0 v1 h) (fun v0 v1 q => tX11_bowlFor_0 v0 v1 h q) q)
def wX11_wrongBy_169 : List En := [(.iload_n 2, 0, 0, 0), (.ireturn, 0, 0, 0)]
def fX11_wrongBy_169 (v2 : Int32) (h : aH) : Option (Int32 × aH) :=
  some (v2, h)
theorem tX11_wrongBy_169 {d : Nat} {z : Int32 × aH} (v2 : Int32) (h : aH) (hf : fX11_wrongBy_169 v2 h = some z) : Ev (d + 4) none mX11_wrongBy (0, 0) 169 [.null, .null, .int v2, .null, .null] [] h (QI z) := 
  go_ok (X := none) (blk := wX11_wrongBy_169) (np := 171) (tt := 0) (kN := fun _ _ _ => none) (kT := fun _ _ _ => none) (kR := kRI)
    (fun _ _ _ q => nos q)
    (fun _ _ _ q => nos q)
    kRI_ok (Or.inr rfl) (by decide +kernel) (by decide +kernel) hf
def wX11_wrongBy_163 : List En := [(.iinc 3 1, 0, 0, 0), (.goto (-90), 76, 0, 0)]
def fX11_wrongBy_163 (k76 : Nat → Int32 → Int32 → aH → Option (Int32 × aH)) (v0 : Nat) (v2 : Int32) (v3 : Int32) (h : aH) : Option (Int32 × aH) :=
  k76 v0 v2 (v3 + kI 1) h
theorem tX11_wrongBy_163 {d : Nat} {z : Int32 × aH} {k76 : Nat → Int32 → Int32 → aH → Option (Int32 × aH)} (hk76 : ∀ (v0 : Nat) (v2 : Int32) (v3 : Int32) (h : aH), k76 v0 v2 v3 h = some z → Ev (d + 4) none mX11_wrongBy (0, 0) 76 [.ref v0, .null, .int v2, .int v3, .null] [] h (QI z)) (v0 : Nat) (v2 : Int32) (v3 : Int32) (h : aH) (hf : fX11_wrongBy_163 k76 v0 v2 v3 h = some z) : Ev (d + 4) none mX11_wrongBy (0, 0) 163 [.ref v0, .null, .int v2, .int v3, .null] [] h (QI z) := 
  go_ok (X := none) (blk := wX11_wrongBy_163) (np := 169) (tt := 76) (kN := fun _ _ _ => none) (kT := fun xs h st => app [2, 0, 1, 1, 0] (fun v0 v2 v3 => apS [] (k76 v0 v2 v3 h) st) xs) (kR := kRI)
    (fun _ _ _ q => nos q)
    (fun xs h st q => jm [2, 0, 1, 1, 0] _ (fun v0 v2 v3 q => apS_ok [] _ (fun st => Ev (d + 4) none mX11_wrongBy (0, 0) 76 [.ref v0, .null, .int v2, .int v3, .null] st h (QI z)) st (fun q => hk76 v0 v2 v3 h q) q) q)
    kRI_ok (Or.inr rfl) (by decide +kernel) (by decide +kernel) hf
def wX11_wrongBy_157 : List En := [(.iinc 4 1, 0, 0, 0), (.goto (-65), 95, 0, 0)]
def fX11_wrongBy_157 (k76 : Nat → Int32 → Int32 → aH → Option (Int32 × aH)) (k95 : Nat → Int32 → Int32 → Int32 → aH → Option (Int32 × aH)) (v0 : Nat) (v2 : Int32) (v3 : Int32) (v4 : Int32) (h : aH) : Option (Int32 × aH) :=
  k95 v0 v2 v3 (v4 + kI 1) h
theorem tX11_wrongBy_157 {d : Nat} {z : Int32 × aH} {k76 : Nat → Int32 → Int32 → aH → Option (Int32 × aH)} {k95 : Nat → Int32 → Int32 → Int32 → aH → Option (Int32 × aH)} (hk76 : ∀ (v0 : Nat) (v2 : Int32) (v3 : Int32) (h : aH), k76 v0 v2 v3 h = some z → Ev (d + 4) none mX11_wrongBy (0, 0) 76 [.ref v0, .null, .int v2, .int v3, .null] [] h (QI z)) (hk95 : ∀ (v0 : Nat) (v2 : Int32) (v3 : Int32) (v4 : Int32) (h : aH), k95 v0 v2 v3 v4 h = some z → Ev (d + 4) none mX11_wrongBy (0, 0) 95 [.ref v0, .null, .int v2, .int v3, .int v4] [] h (QI z)) (v0 : Nat) (v2 : Int32) (v3 : Int32) (v4 : Int32) (h : aH) (hf : fX11_wrongBy_157 k76 k95 v0 v2 v3 v4 h = some z) : Ev (d + 4) none mX11_wrongBy (0, 0) 157 [.ref v0, .null, .int v2, .int v3, .int v4] [] h (QI z) := 
  go_ok (X := none) (blk := wX11_wrongBy_157) (np := 163) (tt := 95) (kN := fun _ _ _ => none) (kT := fun xs h st => app [2, 0, 1, 1, 1] (fun v0 v2 v3 v4 => apS [] (k95 v0 v2 v3 v4 h) st) xs) (kR := kRI)
    (fun _ _ _ q => nos q)
    (fun xs h st q => jm [2, 0, 1, 1, 1] _ (fun v0 v2 v3 v4 q => apS_ok [] _ (fun st => Ev (d + 4) none mX11_wrongBy (0, 0) 95 [.ref v0, .null, .int v2, .int v3, .int v4] st h (QI z)) st (fun q => hk95 v0 v2 v3 v4 h q) q) q)
    kRI_ok (Or.inr rfl) (by decide +kernel) (by decide +kernel) hf
def wX11_wrongBy_154 : List En := [(.iload 4, 0, 0, 0), (.istore_n 2, 0, 0, 0)]
def fX11_wrongBy_154 (k76 : Nat → Int32 → Int32 → aH → Option (Int32 × aH)) (k95 : Nat → Int32 → Int32 → Int32 → aH → Option (Int32 × aH)) (v0 : Nat) (v3 : Int32) (v4 : Int32) (h : aH) : Option (Int32 × aH) :=
  fX11_wrongBy_157 k76 k95 v0 v4 v3 v4 h
theorem tX11_wrongBy_154 {d : Nat} {z : Int32 × aH} {k76 : Nat → Int32 → Int32 → aH → Option (Int32 × aH)} {k95 : Nat → Int32 → Int32 → Int32 → aH → Option (Int32 × aH)} (hk76 : ∀ (v0 : Nat) (v2 : Int32) (v3 : Int32) (h : aH), k76 v0 v2 v3 h = some z → Ev (d + 4) none mX11_wrongBy (0, 0) 76 [.ref v0, .null, .int v2, .int v3, .null] [] h (QI z)) (hk95 : ∀ (v0 : Nat) (v2 : Int32) (v3 : Int32) (v4 : Int32) (h : aH), k95 v0 v2 v3 v4 h = some z → Ev (d + 4) none mX11_wrongBy (0, 0) 95 [.ref v0, .null, .int v2, .int v3, .int v4] [] h (QI z)) (v0 : Nat) (v3 : Int32) (v4 : Int32) (h : aH) (hf : fX11_wrongBy_154 k76 k95 v0 v3 v4 h = some z) : Ev (d + 4) none mX11_wrongBy (0, 0) 154 [.ref v0, .null, .null, .int v3, .int v4] [] h (QI z) := 
  go_ok (X := none) (blk := wX11_wrongBy_154) (np := 157) (tt := 0) (kN := fun xs h st => app [2, 0, 1, 1, 1] (fun v0 v2 v3 v4 => apS [] (fX11_wrongBy_157 k76 k95 v0 v2 v3 v4 h) st) xs) (kT := fun _ _ _ => none) (kR := kRI)
    (fun xs h st q => jm [2, 0, 1, 1, 1] _ (fun v0 v2 v3 v4 q => apS_ok [] _ (fun st => Ev (d + 4) none mX11_wrongBy (0, 0) 157 [.ref v0, .null, .int v2, .int v3, .int v4] st h (QI z)) st (fun q => tX11_wrongBy_157 hk76 hk95 v0 v2 v3 v4 h q) q) q)
    (fun _ _ _ q => nos q)
    kRI_ok (Or.inr rfl) (by decide +kernel) (by decide +kernel) hf
def wX11_wrongBy_148 : List En := [(.iload 4, 0, 0, 0), (.iload_n 2, 0, 0, 0), (.if_icmp .ge 6, 157, 0, 0)]
def fX11_wrongBy_148 (k76 : Nat → Int32 → Int32 → aH → Option (Int32 × aH)) (k95 : Nat → Int32 → Int32 → Int32 → aH → Option (Int32 × aH)) (v0 : Nat) (v2 : Int32) (v3 : Int32) (v4 : Int32) (h : aH) : Option (Int32 × aH) :=
  if v4 < v2 then fX11_wrongBy_154 k76 k95 v0 v3 v4 h else fX11_wrongBy_157 k76 k95 v0 v2 v3 v4 h
theorem tX11_wrongBy_148 {d : Nat} {z : Int32 × aH} {k76 : Nat → Int32 → Int32 → aH → Option (Int32 × aH)} {k95 : Nat → Int32 → Int32 → Int32 → aH → Option (Int32 × aH)} (hk76 : ∀ (v0 : Nat) (v2 : Int32) (v3 : Int32) (h : aH), k76 v0 v2 v3 h = some z → Ev (d + 4) none mX11_wrongBy (0, 0) 76 [.ref v0, .null, .int v2, .int v3, .null] [] h (QI z)) (hk95 : ∀ (v0 : Nat) (v2 : Int32) (v3 : Int32) (v4 : Int32) (h : aH), k95 v0 v2 v3 v4 h = some z → Ev (d + 4) none mX11_wrongBy (0, 0) 95 [.ref v0, .null, .int v2, .int v3, .int v4] [] h (QI z)) (v0 : Nat) (v2 : Int32) (v3 : Int32) (v4 : Int32) (h : aH) (hf : fX11_wrongBy_148 k76 k95 v0 v2 v3 v4 h = some z) : Ev (d + 4) none mX11_wrongBy (0, 0) 148 [.ref v0, .null, .int v2, .int v3, .int v4] [] h (QI z) := 
  go_ok (X := none) (blk := wX11_wrongBy_148) (np := 154) (tt := 157) (kN := fun xs h st => app [2, 0, 0, 1, 1] (fun v0 v3 v4 => apS [] (fX11_wrongBy_154 k76 k95 v0 v3 v4 h) st) xs) (kT := fun xs h st => app [2, 0, 1, 1, 1] (fun v0 v2 v3 v4 => apS [] (fX11_wrongBy_157 k76 k95 v0 v2 v3 v4 h) st) xs) (kR := kRI)
    (fun xs h st q => jm [2, 0, 0, 1, 1] _ (fun v0 v3 v4 q => apS_ok [] _ (fun st => Ev (d + 4) none mX11_wrongBy (0, 0) 154 [.ref v0, .null, .null, .int v3, .int v4] st h (QI z)) st (fun q => tX11_wrongBy_154 hk76 hk95 v0 v3 v4 h q) q) q)
    (fun xs h st q => jm [2, 0, 1, 1, 1] _ (fun v0 v2 v3 v4 q => apS_ok [] _ (fun st => Ev (d + 4) none mX11_wrongBy (0, 0) 157 [.ref v0, .null, .int v2, .int v3, .int v4] st h (QI z)) st (fun q => tX11_wrongBy_157 hk76 hk95 v0 v2 v3 v4 h q) q) q)
    kRI_ok (Or.inr rfl) (by decide +kernel) (by decide +kernel) hf
def wX11_wrongBy_144 : List En := [(.iload_n 2, 0, 0, 0), (.ifCond .lt 9, 154, 0, 0)]
def fX11_wrongBy_144 (k76 : Nat → Int32 → Int32 → aH → Option (Int32 × aH)) (k95 : Nat → Int32 → Int32 → Int32 → aH → Option (Int32 × aH)) (v0 : Nat) (v2 : Int32) (v3 : Int32) (v4 : Int32) (h : aH) : Option (Int32 × aH) :=
  if v2 < 0 then fX11_wrongBy_154 k76 k95 v0 v3 v4 h else fX11_wrongBy_148 k76 k95 v0 v2 v3 v4 h
theorem tX11_wrongBy_144 {d : Nat} {z : Int32 × aH} {k76 : Nat → Int32 → Int32 → aH → Option (Int32 × aH)} {k95 : Nat → Int32 → Int32 → Int32 → aH → Option (Int32 × aH)} (hk76 : ∀ (v0 : Nat) (v2 : Int32) (v3 : Int32) (h : aH), k76 v0 v2 v3 h = some z → Ev (d + 4) none mX11_wrongBy (0, 0) 76 [.ref v0, .null, .int v2, .int v3, .null] [] h (QI z)) (hk95 : ∀ (v0 : Nat) (v2 : Int32) (v3 : Int32) (v4 : Int32) (h : aH), k95 v0 v2 v3 v4 h = some z → Ev (d + 4) none mX11_wrongBy (0, 0) 95 [.ref v0, .null, .int v2, .int v3, .int v4] [] h (QI z)) (v0 : Nat) (v2 : Int32) (v3 : Int32) (v4 : Int32) (h : aH) (hf : fX11_wrongBy_144 k76 k95 v0 v2 v3 v4 h = some z) : Ev (d + 4) none mX11_wrongBy (0, 0) 144 [.ref v0, .null, .int v2, .int v3, .int v4] [] h (QI z) := 
  go_ok (X := none) (blk := wX11_wrongBy_144) (np := 148) (tt := 154) (kN := fun xs h st => app [2, 0, 1, 1, 1] (fun v0 v2 v3 v4 => apS [] (fX11_wrongBy_148 k76 k95 v0 v2 v3 v4 h) st) xs) (kT := fun xs h st => app [2, 0, 0, 1, 1] (fun v0 v3 v4 => apS [] (fX11_wrongBy_154 k76 k95 v0 v3 v4 h) st) xs) (kR := kRI)
    (fun xs h st q => jm [2, 0, 1, 1, 1] _ (fun v0 v2 v3 v4 q => apS_ok [] _ (fun st => Ev (d + 4) none mX11_wrongBy (0, 0) 148 [.ref v0, .null, .int v2, .int v3, .int v4] st h (QI z)) st (fun q => tX11_wrongBy_148 hk76 hk95 v0 v2 v3 v4 h q) q) q)
    (fun xs h st q => jm [2, 0, 0, 1, 1] _ (fun v0 v3 v4 q => apS_ok [] _ (fun st => Ev (d + 4) none mX11_wrongBy (0, 0) 154 [.ref v0, .null, .null, .int v3, .int v4] st h (QI z)) st (fun q => tX11_wrongBy_154 hk76 hk95 v0 v3 v4 h q) q) q)
    kRI_ok (Or.inr rfl) (by decide +kernel) (by decide +kernel) hf
def wX11_wrongBy_125 : List En := [(.aload_n 0, 0, 0, 0), (.getfield 20, 190, 11, 15), (.bipush 59, 0, 0, 0), (.iconst 2, 0, 0, 0), (.iload 4, 0, 0, 0), (.imul, 0, 0, 0), (.iadd, 0, 0, 0), (.iaload, 0, 0, 0), (.aload_n 0, 0, 0, 0), (.getfield 257, 201, 11, 26), (.if_icmp .eq 16, 157, 0, 0)]
def fX11_wrongBy_125 (k76 : Nat → Int32 → Int32 → aH → Option (Int32 × aH)) (k95 : Nat → Int32 → Int32 → Int32 → aH → Option (Int32 × aH)) (v0 : Nat) (v2 : Int32) (v3 : Int32) (v4 : Int32) (h : aH) : Option (Int32 × aH) :=
  (gFR h 11 v0 15).bind fun t1 =>
  (aRI (h[t1]?) ((kB 59) + ((kI 2) * v4))).bind fun t2 =>
  (gFI h 11 v0 26).bind fun t3 =>
  if t2 = t3 then fX11_wrongBy_157 k76 k95 v0 v2 v3 v4 h else fX11_wrongBy_144 k76 k95 v0 v2 v3 v4 h
theorem tX11_wrongBy_125 {d : Nat} {z : Int32 × aH} {k76 : Nat → Int32 → Int32 → aH → Option (Int32 × aH)} {k95 : Nat → Int32 → Int32 → Int32 → aH → Option (Int32 × aH)} (hk76 : ∀ (v0 : Nat) (v2 : Int32) (v3 : Int32) (h : aH), k76 v0 v2 v3 h = some z → Ev (d + 4) none mX11_wrongBy (0, 0) 76 [.ref v0, .null, .int v2, .int v3, .null] [] h (QI z)) (hk95 : ∀ (v0 : Nat) (v2 : Int32) (v3 : Int32) (v4 : Int32) (h : aH), k95 v0 v2 v3 v4 h = some z → Ev (d + 4) none mX11_wrongBy (0, 0) 95 [.ref v0, .null, .int v2, .int v3, .int v4] [] h (QI z)) (v0 : Nat) (v2 : Int32) (v3 : Int32) (v4 : Int32) (h : aH) (hf : fX11_wrongBy_125 k76 k95 v0 v2 v3 v4 h = some z) : Ev (d + 4) none mX11_wrongBy (0, 0) 125 [.ref v0, .null, .int v2, .int v3, .int v4] [] h (QI z) := 
  go_ok (X := none) (blk := wX11_wrongBy_125) (np := 144) (tt := 157) (kN := fun xs h st => app [2, 0, 1, 1, 1] (fun v0 v2 v3 v4 => apS [] (fX11_wrongBy_144 k76 k95 v0 v2 v3 v4 h) st) xs) (kT := fun xs h st => app [2, 0, 1, 1, 1] (fun v0 v2 v3 v4 => apS [] (fX11_wrongBy_157 k76 k95 v0 v2 v3 v4 h) st) xs) (kR := kRI)
    (fun xs h st q => jm [2, 0, 1, 1, 1] _ (fun v0 v2 v3 v4 q => apS_ok [] _ (fun st => Ev (d + 4) none mX11_wrongBy (0, 0) 144 [.ref v0, .null, .int v2, .int v3, .int v4] st h (QI z)) st (fun q => tX11_wrongBy_144 hk76 hk95 v0 v2 v3 v4 h q) q) q)
    (fun xs h st q => jm [2, 0, 1, 1, 1] _ (fun v0 v2 v3 v4 q => apS_ok [] _ (fun st => Ev (d + 4) none mX11_wrongBy (0, 0) 157 [.ref v0, .null, .int v2, .int v3, .int v4] st h (QI z)) st (fun q => tX11_wrongBy_157 hk76 hk95 v0 v2 v3 v4 h q) q) q)
    kRI_ok (Or.inr rfl) (by decide +kernel) (by decide +kernel) hf
def wX11_wrongBy_107 : List En := [(.aload_n 0, 0, 0, 0), (.getfield 20, 190, 11, 15), (.bipush 59, 0, 0, 0), (.iconst 2, 0, 0, 0), (.iload 4, 0, 0, 0), (.imul, 0, 0, 0), (.iadd, 0, 0, 0), (.iconst 1, 0, 0, 0), (.iadd, 0, 0, 0), (.iaload, 0, 0, 0), (.iload_n 3, 0, 0, 0), (.if_icmp .ne 35, 157, 0, 0)]
def fX11_wrongBy_107 (k76 : Nat → Int32 → Int32 → aH → Option (Int32 × aH)) (k95 : Nat → Int32 → Int32 → Int32 → aH → Option (Int32 × aH)) (v0 : Nat) (v2 : Int32) (v3 : Int32) (v4 : Int32) (h : aH) : Option (Int32 × aH) :=
  (gFR h 11 v0 15).bind fun t1 =>
  (aRI (h[t1]?) (((kB 59) + ((kI 2) * v4)) + (kI 1))).bind fun t2 =>
  if t2 = v3 then fX11_wrongBy_125 k76 k95 v0 v2 v3 v4 h else fX11_wrongBy_157 k76 k95 v0 v2 v3 v4 h
theorem tX11_wrongBy_107 {d : Nat} {z : Int32 × aH} {k76 : Nat → Int32 → Int32 → aH → Option (Int32 × aH)} {k95 : Nat → Int32 → Int32 → Int32 → aH → Option (Int32 × aH)} (hk76 : ∀ (v0 : Nat) (v2 : Int32) (v3 : Int32) (h : aH), k76 v0 v2 v3 h = some z → Ev (d + 4) none mX11_wrongBy (0, 0) 76 [.ref v0, .null, .int v2, .int v3, .null] [] h (QI z)) (hk95 : ∀ (v0 : Nat) (v2 : Int32) (v3 : Int32) (v4 : Int32) (h : aH), k95 v0 v2 v3 v4 h = some z → Ev (d + 4) none mX11_wrongBy (0, 0) 95 [.ref v0, .null, .int v2, .int v3, .int v4] [] h (QI z)) (v0 : Nat) (v2 : Int32) (v3 : Int32) (v4 : Int32) (h : aH) (hf : fX11_wrongBy_107 k76 k95 v0 v2 v3 v4 h = some z) : Ev (d + 4) none mX11_wrongBy (0, 0) 107 [.ref v0, .null, .int v2, .int v3, .int v4] [] h (QI z) := 
  go_ok (X := none) (blk := wX11_wrongBy_107) (np := 125) (tt := 157) (kN := fun xs h st => app [2, 0, 1, 1, 1] (fun v0 v2 v3 v4 => apS [] (fX11_wrongBy_125 k76 k95 v0 v2 v3 v4 h) st) xs) (kT := fun xs h st => app [2, 0, 1, 1, 1] (fun v0 v2 v3 v4 => apS [] (fX11_wrongBy_157 k76 k95 v0 v2 v3 v4 h) st) xs) (kR := kRI)
    (fun xs h st q => jm [2, 0, 1, 1, 1] _ (fun v0 v2 v3 v4 q => apS_ok [] _ (fun st => Ev (d + 4) none mX11_wrongBy (0, 0) 125 [.ref v0, .null, .int v2, .int v3, .int v4] st h (QI z)) st (fun q => tX11_wrongBy_125 hk76 hk95 v0 v2 v3 v4 h q) q) q)
    (fun xs h st q => jm [2, 0, 1, 1, 1] _ (fun v0 v2 v3 v4 q => apS_ok [] _ (fun st => Ev (d + 4) none mX11_wrongBy (0, 0) 157 [.ref v0, .null, .int v2, .int v3, .int v4] st h (QI z)) st (fun q => tX11_wrongBy_157 hk76 hk95 v0 v2 v3 v4 h q) q) q)
    kRI_ok (Or.inr rfl) (by decide +kernel) (by decide +kernel) hf
def wX11_wrongBy_95 : List En := [(.iload 4, 0, 0, 0), (.aload_n 0, 0, 0, 0), (.getfield 20, 190, 11, 15), (.bipush 7, 0, 0, 0), (.iaload, 0, 0, 0), (.if_icmp .ge 59, 163, 0, 0)]
def fX11_wrongBy_95 (k76 : Nat → Int32 → Int32 → aH → Option (Int32 × aH)) (k95 : Nat → Int32 → Int32 → Int32 → aH → Option (Int32 × aH)) (v0 : Nat) (v2 : Int32) (v3 : Int32) (v4 : Int32) (h : aH) : Option (Int32 × aH) :=
  (gFR h 11 v0 15).bind fun t1 =>
  (aRI (h[t1]?) (kB 7)).bind fun t2 =>
  if v4 < t2 then fX11_wrongBy_107 k76 k95 v0 v2 v3 v4 h else fX11_wrongBy_163 k76 v0 v2 v3 h
theorem tX11_wrongBy_95 {d : Nat} {z : Int32 × aH} {k76 : Nat → Int32 → Int32 → aH → Option (Int32 × aH)} {k95 : Nat → Int32 → Int32 → Int32 → aH → Option (Int32 × aH)} (hk76 : ∀ (v0 : Nat) (v2 : Int32) (v3 : Int32) (h : aH), k76 v0 v2 v3 h = some z → Ev (d + 4) none mX11_wrongBy (0, 0) 76 [.ref v0, .null, .int v2, .int v3, .null] [] h (QI z)) (hk95 : ∀ (v0 : Nat) (v2 : Int32) (v3 : Int32) (v4 : Int32) (h : aH), k95 v0 v2 v3 v4 h = some z → Ev (d + 4) none mX11_wrongBy (0, 0) 95 [.ref v0, .null, .int v2, .int v3, .int v4] [] h (QI z)) (v0 : Nat) (v2 : Int32) (v3 : Int32) (v4 : Int32) (h : aH) (hf : fX11_wrongBy_95 k76 k95 v0 v2 v3 v4 h = some z) : Ev (d + 4) none mX11_wrongBy (0, 0) 95 [.ref v0, .null, .int v2, .int v3, .int v4] [] h (QI z) := 
  go_ok (X := none) (blk := wX11_wrongBy_95) (np := 107) (tt := 163) (kN := fun xs h st => app [2, 0, 1, 1, 1] (fun v0 v2 v3 v4 => apS [] (fX11_wrongBy_107 k76 k95 v0 v2 v3 v4 h) st) xs) (kT := fun xs h st => app [2, 0, 1, 1, 0] (fun v0 v2 v3 => apS [] (fX11_wrongBy_163 k76 v0 v2 v3 h) st) xs) (kR := kRI)
    (fun xs h st q => jm [2, 0, 1, 1, 1] _ (fun v0 v2 v3 v4 q => apS_ok [] _ (fun st => Ev (d + 4) none mX11_wrongBy (0, 0) 107 [.ref v0, .null, .int v2, .int v3, .int v4] st h (QI z)) st (fun q => tX11_wrongBy_107 hk76 hk95 v0 v2 v3 v4 h q) q) q)
    (fun xs h st q => jm [2, 0, 1, 1, 0] _ (fun v0 v2 v3 q => apS_ok [] _ (fun st => Ev (d + 4) none mX11_wrongBy (0, 0) 163 [.ref v0, .null, .int v2, .int v3, .null] st h (QI z)) st (fun q => tX11_wrongBy_163 hk76 v0 v2 v3 h q) q) q)
    kRI_ok (Or.inr rfl) (by decide +kernel) (by decide +kernel) hf
def lX11_wrongBy_95 (k76 : Nat → Int32 → Int32 → aH → Option (Int32 × aH)) : Nat → Nat → Int32 → Int32 → Int32 → aH → Option (Int32 × aH)
  | 0, _, _, _, _, _ => none
  | n + 1, v0, v2, v3, v4, h => fX11_wrongBy_95 k76 (lX11_wrongBy_95 k76 n) v0 v2 v3 v4 h
theorem uX11_wrongBy_95 {d : Nat} {z : Int32 × aH} {k76 : Nat → Int32 → Int32 → aH → Option (Int32 × aH)} (hk76 : ∀ (v0 : Nat) (v2 : Int32) (v3 : Int32) (h : aH), k76 v0 v2 v3 h = some z → Ev (d + 4) none mX11_wrongBy (0, 0) 76 [.ref v0, .null, .int v2, .int v3, .null] [] h (QI z)) : ∀ (n : Nat) (v0 : Nat) (v2 : Int32) (v3 : Int32) (v4 : Int32) (h : aH), lX11_wrongBy_95 k76 n v0 v2 v3 v4 h = some z → Ev (d + 4) none mX11_wrongBy (0, 0) 95 [.ref v0, .null, .int v2, .int v3, .int v4] [] h (QI z) := by
  intro n
  induction n with
  | zero => intro _ _ _ _ _ q; exact nos (show (none : Option (Int32 × aH)) = some z from q)
  | succ n ih => intro v0 v2 v3 v4 h q; exact tX11_wrongBy_95 hk76 ih v0 v2 v3 v4 h q
def wX11_wrongBy_92 : List En := [(.iconst 0, 0, 0, 0), (.istore 4, 0, 0, 0)]
def fX11_wrongBy_92 (k76 : Nat → Int32 → Int32 → aH → Option (Int32 × aH)) (v0 : Nat) (v2 : Int32) (v3 : Int32) (h : aH) : Option (Int32 × aH) :=
  lX11_wrongBy_95 k76 FU v0 v2 v3 (kI 0) h
theorem tX11_wrongBy_92 {d : Nat} {z : Int32 × aH} {k76 : Nat → Int32 → Int32 → aH → Option (Int32 × aH)} (hk76 : ∀ (v0 : Nat) (v2 : Int32) (v3 : Int32) (h : aH), k76 v0 v2 v3 h = some z → Ev (d + 4) none mX11_wrongBy (0, 0) 76 [.ref v0, .null, .int v2, .int v3, .null] [] h (QI z)) (v0 : Nat) (v2 : Int32) (v3 : Int32) (h : aH) (hf : fX11_wrongBy_92 k76 v0 v2 v3 h = some z) : Ev (d + 4) none mX11_wrongBy (0, 0) 92 [.ref v0, .null, .int v2, .int v3, .null] [] h (QI z) := 
  go_ok (X := none) (blk := wX11_wrongBy_92) (np := 95) (tt := 0) (kN := fun xs h st => app [2, 0, 1, 1, 1] (fun v0 v2 v3 v4 => apS [] (lX11_wrongBy_95 k76 FU v0 v2 v3 v4 h) st) xs) (kT := fun _ _ _ => none) (kR := kRI)
    (fun xs h st q => jm [2, 0, 1, 1, 1] _ (fun v0 v2 v3 v4 q => apS_ok [] _ (fun st => Ev (d + 4) none mX11_wrongBy (0, 0) 95 [.ref v0, .null, .int v2, .int v3, .int v4] st h (QI z)) st (fun q => uX11_wrongBy_95 hk76 FU v0 v2 v3 v4 h q) q) q)
    (fun _ _ _ q => nos q)
    kRI_ok (Or.inr rfl) (by decide +kernel) (by decide +kernel) hf
theorem kqX11_wrongBy_89 : okC mX11_wrongBy 89 (.invokevirtual 281) 228 245 0 3 = true := by decide +kernel
def fX11_wrongBy_89 (k76 : Nat → Int32 → Int32 → aH → Option (Int32 × aH)) (v0 : Nat) (v2 : Int32) (v3 : Int32) (s0 : Int32) (s1 : Int32) (s2 : Nat) (s3 : Nat) (h : aH) : Option (Int32 × aH) :=
  (isO h 11 s3).bind fun _ =>
  (gX11_dayOn s3 s2 s1 s0 h).bind fun r =>
  fX11_wrongBy_92 k76 v0 v2 v3 r
theorem tX11_wrongBy_89 {d : Nat} {z : Int32 × aH} {k76 : Nat → Int32 → Int32 → aH → Option (Int32 × aH)} (hk76 : ∀ (v0 : Nat) (v2 : Int32) (v3 : Int32) (h : aH), k76 v0 v2 v3 h = some z → Ev (d + 4) none mX11_wrongBy (0, 0) 76 [.ref v0, .null, .int v2, .int v3, .null] [] h (QI z)) (v0 : Nat) (v2 : Int32) (v3 : Int32) (s0 : Int32) (s1 : Int32) (s2 : Nat) (s3 : Nat) (h : aH) (hf : fX11_wrongBy_89 k76 v0 v2 v3 s0 s1 s2 s3 h = some z) : Ev (d + 4) none mX11_wrongBy (0, 0) 89 [.ref v0, .null, .int v2, .int v3, .null] [.int s0, .int s1, .ref s2, .ref s3] h (QI z) := by
  obtain ⟨_, h1, hf⟩ := bnd hf
  obtain ⟨fs, ho⟩ := isO_ok h1
  obtain ⟨r, h2, hf⟩ := bnd hf
  refine ev_V kqX11_wrongBy_89 jX11_dayOn (zX11_dayOn (d := d + 0) h2) ho rfl rfl (Nat.le_of_ble_eq_true rfl) rfl (as := [.ref s2, .int s1, .int s0]) (rest := []) rfl (Nat.le_of_ble_eq_true rfl) (fun _ _ hq => ?_)
  obtain ⟨rfl, hh⟩ := hq
  rw [hh]
  exact jm [2, 0, 1, 1, 0] (fun v0 v2 v3 => fX11_wrongBy_92 k76 v0 v2 v3 r) (fun v0 v2 v3 q => tX11_wrongBy_92 hk76 v0 v2 v3 r q) hf
def wX11_wrongBy_82 : List En := [(.aload_n 0, 0, 0, 0), (.aload_n 0, 0, 0, 0), (.getfield 35, 195, 11, 20), (.iconst 0, 0, 0, 0), (.iconst 0, 0, 0, 0)]
def fX11_wrongBy_82 (k76 : Nat → Int32 → Int32 → aH → Option (Int32 × aH)) (v0 : Nat) (v2 : Int32) (v3 : Int32) (h : aH) : Option (Int32 × aH) :=
  (gFR h 11 v0 20).bind fun t1 =>
  fX11_wrongBy_89 k76 v0 v2 v3 (kI 0) (kI 0) t1 v0 h
theorem tX11_wrongBy_82 {d : Nat} {z : Int32 × aH} {k76 : Nat → Int32 → Int32 → aH → Option (Int32 × aH)} (hk76 : ∀ (v0 : Nat) (v2 : Int32) (v3 : Int32) (h : aH), k76 v0 v2 v3 h = some z → Ev (d + 4) none mX11_wrongBy (0, 0) 76 [.ref v0, .null, .int v2, .int v3, .null] [] h (QI z)) (v0 : Nat) (v2 : Int32) (v3 : Int32) (h : aH) (hf : fX11_wrongBy_82 k76 v0 v2 v3 h = some z) : Ev (d + 4) none mX11_wrongBy (0, 0) 82 [.ref v0, .null, .int v2, .int v3, .null] [] h (QI z) := 
  go_ok (X := none) (blk := wX11_wrongBy_82) (np := 89) (tt := 0) (kN := fun xs h st => app [2, 0, 1, 1, 0] (fun v0 v2 v3 => apS [1, 1, 2, 2] (fun s0 s1 s2 s3 => fX11_wrongBy_89 k76 v0 v2 v3 s0 s1 s2 s3 h) st) xs) (kT := fun _ _ _ => none) (kR := kRI)
    (fun xs h st q => jm [2, 0, 1, 1, 0] _ (fun v0 v2 v3 q => apS_ok [1, 1, 2, 2] _ (fun st => Ev (d + 4) none mX11_wrongBy (0, 0) 89 [.ref v0, .null, .int v2, .int v3, .null] st h (QI z)) st (fun s0 s1 s2 s3 q => tX11_wrongBy_89 hk76 v0 v2 v3 s0 s1 s2 s3 h q) q) q)
    (fun _ _ _ q => nos q)
    kRI_ok (Or.inr rfl) (by decide +kernel) (by decide +kernel) hf
def wX11_wrongBy_76 : List En := [(.iload_n 3, 0, 0, 0), (.bipush 60, 0, 0, 0), (.if_icmp .gt 90, 169, 0, 0)]
def fX11_wrongBy_76 (k76 : Nat → Int32 → Int32 → aH → Option (Int32 × aH)) (v0 : Nat) (v2 : Int32) (v3 : Int32) (h : aH) : Option (Int32 × aH) :=
  if (kB 60) < v3 then fX11_wrongBy_169 v2 h else fX11_wrongBy_82 k76 v0 v2 v3 h
theorem tX11_wrongBy_76 {d : Nat} {z : Int32 × aH} {k76 : Nat → Int32 → Int32 → aH → Option (Int32 × aH)} (hk76 : ∀ (v0 : Nat) (v2 : Int32) (v3 : Int32) (h : aH), k76 v0 v2 v3 h = some z → Ev (d + 4) none mX11_wrongBy (0, 0) 76 [.ref v0, .null, .int v2, .int v3, .null] [] h (QI z)) (v0 : Nat) (v2 : Int32) (v3 : Int32) (h : aH) (hf : fX11_wrongBy_76 k76 v0 v2 v3 h = some z) : Ev (d + 4) none mX11_wrongBy (0, 0) 76 [.ref v0, .null, .int v2, .int v3, .null] [] h (QI z) := 
  go_ok (X := none) (blk := wX11_wrongBy_76) (np := 82) (tt := 169) (kN := fun xs h st => app [2, 0, 1, 1, 0] (fun v0 v2 v3 => apS [] (fX11_wrongBy_82 k76 v0 v2 v3 h) st) xs) (kT := fun xs h st => app [0, 0, 1, 0, 0] (fun v2 => apS [] (fX11_wrongBy_169 v2 h) st) xs) (kR := kRI)
    (fun xs h st q => jm [2, 0, 1, 1, 0] _ (fun v0 v2 v3 q => apS_ok [] _ (fun st => Ev (d + 4) none mX11_wrongBy (0, 0) 82 [.ref v0, .null, .int v2, .int v3, .null] st h (QI z)) st (fun q => tX11_wrongBy_82 hk76 v0 v2 v3 h q) q) q)
    (fun xs h st q => jm [0, 0, 1, 0, 0] _ (fun v2 q => apS_ok [] _ (fun st => Ev (d + 4) none mX11_wrongBy (0, 0) 169 [.null, .null, .int v2, .null, .null] st h (QI z)) st (fun q => tX11_wrongBy_169 v2 h q) q) q)
    kRI_ok (Or.inr rfl) (by decide +kernel) (by decide +kernel) hf
def lX11_wrongBy_76 : Nat → Nat → Int32 → Int32 → aH → Option (Int32 × aH)
  | 0, _, _, _, _ => none
  | n + 1, v0, v2, v3, h => fX11_wrongBy_76 (lX11_wrongBy_76 n) v0 v2 v3 h
theorem uX11_wrongBy_76 {d : Nat} {z : Int32 × aH} : ∀ (n : Nat) (v0 : Nat) (v2 : Int32) (v3 : Int32) (h : aH), lX11_wrongBy_76 n v0 v2 v3 h = some z → Ev (d + 4) none mX11_wrongBy (0, 0) 76 [.ref v0, .null, .int v2, .int v3, .null] [] h (QI z) := by
  intro n
  induction n with
  | zero => intro _ _ _ _ q; exact nos (show (none : Option (Int32 × aH)) = some z from q)
  | succ n ih => intro v0 v2 v3 h q; exact tX11_wrongBy_76 ih v0 v2 v3 h q
def wX11_wrongBy_71 : List En := [(.bipush (-2), 0, 0, 0), (.istore_n 2, 0, 0, 0), (.iconst 1, 0, 0, 0), (.istore_n 3, 0, 0, 0)]
def fX11_wrongBy_71 (v0 : Nat) (h : aH) : Option (Int32 × aH) :=
  lX11_wrongBy_76 FU v0 (kB (-2)) (kI 1) h
theorem tX11_wrongBy_71 {d : Nat} {z : Int32 × aH} (v0 : Nat) (h : aH) (hf : fX11_wrongBy_71 v0 h = some z) : Ev (d + 4) none mX11_wrongBy (0, 0) 71 [.ref v0, .null, .null, .null, .null] [] h (QI z) := 
  go_ok (X := none) (blk := wX11_wrongBy_71) (np := 76) (tt := 0) (kN := fun xs h st => app [2, 0, 1, 1, 0] (fun v0 v2 v3 => apS [] (lX11_wrongBy_76 FU v0 v2 v3 h) st) xs) (kT := fun _ _ _ => none) (kR := kRI)
    (fun xs h st q => jm [2, 0, 1, 1, 0] _ (fun v0 v2 v3 q => apS_ok [] _ (fun st => Ev (d + 4) none mX11_wrongBy (0, 0) 76 [.ref v0, .null, .int v2, .int v3, .null] st h (QI z)) st (fun q => uX11_wrongBy_76 FU v0 v2 v3 h q) q) q)
    (fun _ _ _ q => nos q)
    kRI_ok (Or.inr rfl) (by decide +kernel) (by decide +kernel) hf
def wX11_wrongBy_65 : List En := [(.iinc 2 1, 0, 0, 0), (.goto (-51), 17, 0, 0)]
def fX11_wrongBy_65 (k17 : Nat → Int32 → Int32 → aH → Option (Int32 × aH)) (v0 : Nat) (v1 : Int32) (v2 : Int32) (h : aH) : Option (Int32 × aH) :=
  k17 v0 v1 (v2 + kI 1) h
theorem tX11_wrongBy_65 {d : Nat} {z : Int32 × aH} {k17 : Nat → Int32 → Int32 → aH → Option (Int32 × aH)} (hk17 : ∀ (v0 : Nat) (v1 : Int32) (v2 : Int32) (h : aH), k17 v0 v1 v2 h = some z → Ev (d + 4) none mX11_wrongBy (0, 0) 17 [.ref v0, .int v1, .int v2, .null, .null] [] h (QI z)) (v0 : Nat) (v1 : Int32) (v2 : Int32) (h : aH) (hf : fX11_wrongBy_65 k17 v0 v1 v2 h = some z) : Ev (d + 4) none mX11_wrongBy (0, 0) 65 [.ref v0, .int v1, .int v2, .null, .null] [] h (QI z) := 
  go_ok (X := none) (blk := wX11_wrongBy_65) (np := 71) (tt := 17) (kN := fun _ _ _ => none) (kT := fun xs h st => app [2, 1, 1, 0, 0] (fun v0 v1 v2 => apS [] (k17 v0 v1 v2 h) st) xs) (kR := kRI)
    (fun _ _ _ q => nos q)
    (fun xs h st q => jm [2, 1, 1, 0, 0] _ (fun v0 v1 v2 q => apS_ok [] _ (fun st => Ev (d + 4) none mX11_wrongBy (0, 0) 17 [.ref v0, .int v1, .int v2, .null, .null] st h (QI z)) st (fun q => hk17 v0 v1 v2 h q) q) q)
    kRI_ok (Or.inr rfl) (by decide +kernel) (by decide +kernel) hf
def wX11_wrongBy_36 : List En := [(.aload_n 0, 0, 0, 0), (.getfield 35, 195, 11, 20), (.aload_n 0, 0, 0, 0), (.getfield 20, 190, 11, 15), (.bipush 51, 0, 0, 0), (.iconst 2, 0, 0, 0), (.iload_n 2, 0, 0, 0), (.imul, 0, 0, 0), (.iadd, 0, 0, 0), (.iaload, 0, 0, 0), (.aload_n 0, 0, 0, 0), (.getfield 20, 190, 11, 15), (.bipush 51, 0, 0, 0), (.iconst 2, 0, 0, 0), (.iload_n 2, 0, 0, 0), (.imul, 0, 0, 0), (.iadd, 0, 0, 0), (.iconst 1, 0, 0, 0), (.iadd, 0, 0, 0), (.iaload, 0, 0, 0), (.iastore, 0, 0, 0)]
def fX11_wrongBy_36 (k17 : Nat → Int32 → Int32 → aH → Option (Int32 × aH)) (v0 : Nat) (v1 : Int32) (v2 : Int32) (h : aH) : Option (Int32 × aH) :=
  (gFR h 11 v0 20).bind fun t1 =>
  (gFR h 11 v0 15).bind fun t2 =>
  (aRI (h[t2]?) ((kB 51) + ((kI 2) * v2))).bind fun t3 =>
  (gFR h 11 v0 15).bind fun t4 =>
  (aRI (h[t4]?) (((kB 51) + ((kI 2) * v2)) + (kI 1))).bind fun t5 =>
  (aWI h t1 t3 t5).bind fun h6 =>
  fX11_wrongBy_65 k17 v0 v1 v2 h6
theorem tX11_wrongBy_36 {d : Nat} {z : Int32 × aH} {k17 : Nat → Int32 → Int32 → aH → Option (Int32 × aH)} (hk17 : ∀ (v0 : Nat) (v1 : Int32) (v2 : Int32) (h : aH), k17 v0 v1 v2 h = some z → Ev (d + 4) none mX11_wrongBy (0, 0) 17 [.ref v0, .int v1, .int v2, .null, .null] [] h (QI z)) (v0 : Nat) (v1 : Int32) (v2 : Int32) (h : aH) (hf : fX11_wrongBy_36 k17 v0 v1 v2 h = some z) : Ev (d + 4) none mX11_wrongBy (0, 0) 36 [.ref v0, .int v1, .int v2, .null, .null] [] h (QI z) := 
  go_ok (X := none) (blk := wX11_wrongBy_36) (np := 65) (tt := 0) (kN := fun xs h st => app [2, 1, 1, 0, 0] (fun v0 v1 v2 => apS [] (fX11_wrongBy_65 k17 v0 v1 v2 h) st) xs) (kT := fun _ _ _ => none) (kR := kRI)
    (fun xs h st q => jm [2, 1, 1, 0, 0] _ (fun v0 v1 v2 q => apS_ok [] _ (fun st => Ev (d + 4) none mX11_wrongBy (0, 0) 65 [.ref v0, .int v1, .int v2, .null, .null] st h (QI z)) st (fun q => tX11_wrongBy_65 hk17 v0 v1 v2 h q) q) q)
    (fun _ _ _ q => nos q)
    kRI_ok (Or.inr rfl) (by decide +kernel) (by decide +kernel) hf
def wX11_wrongBy_33 : List En := [(.ifCond .eq 32, 65, 0, 0)]
def fX11_wrongBy_33 (k17 : Nat → Int32 → Int32 → aH → Option (Int32 × aH)) (v0 : Nat) (v1 : Int32) (v2 : Int32) (s0 : Int32) (h : aH) : Option (Int32 × aH) :=
  if s0 = 0 then fX11_wrongBy_65 k17 v0 v1 v2 h else fX11_wrongBy_36 k17 v0 v1 v2 h
theorem tX11_wrongBy_33 {d : Nat} {z : Int32 × aH} {k17 : Nat → Int32 → Int32 → aH → Option (Int32 × aH)} (hk17 : ∀ (v0 : Nat) (v1 : Int32) (v2 : Int32) (h : aH), k17 v0 v1 v2 h = some z → Ev (d + 4) none mX11_wrongBy (0, 0) 17 [.ref v0, .int v1, .int v2, .null, .null] [] h (QI z)) (v0 : Nat) (v1 : Int32) (v2 : Int32) (s0 : Int32) (h : aH) (hf : fX11_wrongBy_33 k17 v0 v1 v2 s0 h = some z) : Ev (d + 4) none mX11_wrongBy (0, 0) 33 [.ref v0, .int v1, .int v2, .null, .null] [.int s0] h (QI z) := 
  go_ok (X := none) (blk := wX11_wrongBy_33) (np := 36) (tt := 65) (kN := fun xs h st => app [2, 1, 1, 0, 0] (fun v0 v1 v2 => apS [] (fX11_wrongBy_36 k17 v0 v1 v2 h) st) xs) (kT := fun xs h st => app [2, 1, 1, 0, 0] (fun v0 v1 v2 => apS [] (fX11_wrongBy_65 k17 v0 v1 v2 h) st) xs) (kR := kRI)
    (fun xs h st q => jm [2, 1, 1, 0, 0] _ (fun v0 v1 v2 q => apS_ok [] _ (fun st => Ev (d + 4) none mX11_wrongBy (0, 0) 36 [.ref v0, .int v1, .int v2, .null, .null] st h (QI z)) st (fun q => tX11_wrongBy_36 hk17 v0 v1 v2 h q) q) q)
    (fun xs h st q => jm [2, 1, 1, 0, 0] _ (fun v0 v1 v2 q => apS_ok [] _ (fun st => Ev (d + 4) none mX11_wrongBy (0, 0) 65 [.ref v0, .int v1, .int v2, .null, .null] st h (QI z)) st (fun q => tX11_wrongBy_65 hk17 v0 v1 v2 h q) q) q)
    kRI_ok (Or.inr rfl) (by decide +kernel) (by decide +kernel) hf
theorem kqX11_wrongBy_30 : okC mX11_wrongBy 30 (.invokestatic 245) 222 239 1 2 = true := by decide +kernel
def fX11_wrongBy_30 (k17 : Nat → Int32 → Int32 → aH → Option (Int32 × aH)) (v0 : Nat) (v1 : Int32) (v2 : Int32) (s0 : Int32) (s1 : Int32) (h : aH) : Option (Int32 × aH) :=
  (gX11_hasBit s1 s0 h).bind fun r =>
  fX11_wrongBy_33 k17 v0 v1 v2 r.1 r.2
theorem tX11_wrongBy_30 {d : Nat} {z : Int32 × aH} {k17 : Nat → Int32 → Int32 → aH → Option (Int32 × aH)} (hk17 : ∀ (v0 : Nat) (v1 : Int32) (v2 : Int32) (h : aH), k17 v0 v1 v2 h = some z → Ev (d + 4) none mX11_wrongBy (0, 0) 17 [.ref v0, .int v1, .int v2, .null, .null] [] h (QI z)) (v0 : Nat) (v1 : Int32) (v2 : Int32) (s0 : Int32) (s1 : Int32) (h : aH) (hf : fX11_wrongBy_30 k17 v0 v1 v2 s0 s1 h = some z) : Ev (d + 4) none mX11_wrongBy (0, 0) 30 [.ref v0, .int v1, .int v2, .null, .null] [.int s0, .int s1] h (QI z) := by
  obtain ⟨r, h2, hf⟩ := bnd hf
  refine ev_S kqX11_wrongBy_30 jX11_hasBit (zX11_hasBit (d := d + 3) h2) rfl (Nat.le_of_ble_eq_true rfl) rfl (as := [.int s1, .int s0]) (rest := []) rfl (Nat.le_of_ble_eq_true rfl) (fun _ _ hq => ?_)
  obtain ⟨-, rfl, rfl⟩ := hq
  exact jm [2, 1, 1, 0, 0] (fun v0 v1 v2 => fX11_wrongBy_33 k17 v0 v1 v2 r.1 r.2) (fun v0 v1 v2 q => tX11_wrongBy_33 hk17 v0 v1 v2 r.1 r.2 q) hf
def wX11_wrongBy_28 : List En := [(.iload_n 1, 0, 0, 0), (.iload_n 2, 0, 0, 0)]
def fX11_wrongBy_28 (k17 : Nat → Int32 → Int32 → aH → Option (Int32 × aH)) (v0 : Nat) (v1 : Int32) (v2 : Int32) (h : aH) : Option (Int32 × aH) :=
  fX11_wrongBy_30 k17 v0 v1 v2 v2 v1 h
theorem tX11_wrongBy_28 {d : Nat} {z : Int32 × aH} {k17 : Nat → Int32 → Int32 → aH → Option (Int32 × aH)} (hk17 : ∀ (v0 : Nat) (v1 : Int32) (v2 : Int32) (h : aH), k17 v0 v1 v2 h = some z → Ev (d + 4) none mX11_wrongBy (0, 0) 17 [.ref v0, .int v1, .int v2, .null, .null] [] h (QI z)) (v0 : Nat) (v1 : Int32) (v2 : Int32) (h : aH) (hf : fX11_wrongBy_28 k17 v0 v1 v2 h = some z) : Ev (d + 4) none mX11_wrongBy (0, 0) 28 [.ref v0, .int v1, .int v2, .null, .null] [] h (QI z) := 
  go_ok (X := none) (blk := wX11_wrongBy_28) (np := 30) (tt := 0) (kN := fun xs h st => app [2, 1, 1, 0, 0] (fun v0 v1 v2 => apS [1, 1] (fun s0 s1 => fX11_wrongBy_30 k17 v0 v1 v2 s0 s1 h) st) xs) (kT := fun _ _ _ => none) (kR := kRI)
    (fun xs h st q => jm [2, 1, 1, 0, 0] _ (fun v0 v1 v2 q => apS_ok [1, 1] _ (fun st => Ev (d + 4) none mX11_wrongBy (0, 0) 30 [.ref v0, .int v1, .int v2, .null, .null] st h (QI z)) st (fun s0 s1 q => tX11_wrongBy_30 hk17 v0 v1 v2 s0 s1 h q) q) q)
    (fun _ _ _ q => nos q)
    kRI_ok (Or.inr rfl) (by decide +kernel) (by decide +kernel) hf
def wX11_wrongBy_17 : List En := [(.iload_n 2, 0, 0, 0), (.aload_n 0, 0, 0, 0), (.getfield 20, 190, 11, 15), (.bipush 6, 0, 0, 0), (.iaload, 0, 0, 0), (.if_icmp .ge 46, 71, 0, 0)]
def fX11_wrongBy_17 (k17 : Nat → Int32 → Int32 → aH → Option (Int32 × aH)) (v0 : Nat) (v1 : Int32) (v2 : Int32) (h : aH) : Option (Int32 × aH) :=
  (gFR h 11 v0 15).bind fun t1 =>
  (aRI (h[t1]?) (kB 6)).bind fun t2 =>
  if v2 < t2 then fX11_wrongBy_28 k17 v0 v1 v2 h else fX11_wrongBy_71 v0 h
theorem tX11_wrongBy_17 {d : Nat} {z : Int32 × aH} {k17 : Nat → Int32 → Int32 → aH → Option (Int32 × aH)} (hk17 : ∀ (v0 : Nat) (v1 : Int32) (v2 : Int32) (h : aH), k17 v0 v1 v2 h = some z → Ev (d + 4) none mX11_wrongBy (0, 0) 17 [.ref v0, .int v1, .int v2, .null, .null] [] h (QI z)) (v0 : Nat) (v1 : Int32) (v2 : Int32) (h : aH) (hf : fX11_wrongBy_17 k17 v0 v1 v2 h = some z) : Ev (d + 4) none mX11_wrongBy (0, 0) 17 [.ref v0, .int v1, .int v2, .null, .null] [] h (QI z) := 
  go_ok (X := none) (blk := wX11_wrongBy_17) (np := 28) (tt := 71) (kN := fun xs h st => app [2, 1, 1, 0, 0] (fun v0 v1 v2 => apS [] (fX11_wrongBy_28 k17 v0 v1 v2 h) st) xs) (kT := fun xs h st => app [2, 0, 0, 0, 0] (fun v0 => apS [] (fX11_wrongBy_71 v0 h) st) xs) (kR := kRI)
    (fun xs h st q => jm [2, 1, 1, 0, 0] _ (fun v0 v1 v2 q => apS_ok [] _ (fun st => Ev (d + 4) none mX11_wrongBy (0, 0) 28 [.ref v0, .int v1, .int v2, .null, .null] st h (QI z)) st (fun q => tX11_wrongBy_28 hk17 v0 v1 v2 h q) q) q)
    (fun xs h st q => jm [2, 0, 0, 0, 0] _ (fun v0 q => apS_ok [] _ (fun st => Ev (d + 4) none mX11_wrongBy (0, 0) 71 [.ref v0, .null, .null, .null, .null] st h (QI z)) st (fun q => tX11_wrongBy_71 v0 h q) q) q)
    kRI_ok (Or.inr rfl) (by decide +kernel) (by decide +kernel) hf
def lX11_wrongBy_17 : Nat → Nat → Int32 → Int32 → aH → Option (Int32 × aH)
  | 0, _, _, _, _ => none
  | n + 1, v0, v1, v2, h => fX11_wrongBy_17 (lX11_wrongBy_17 n) v0 v1 v2 h
theorem uX11_wrongBy_17 {d : Nat} {z : Int32 × aH} : ∀ (n : Nat) (v0 : Nat) (v1 : Int32) (v2 : Int32) (h : aH), lX11_wrongBy_17 n v0 v1 v2 h = some z → Ev (d + 4) none mX11_wrongBy (0, 0) 17 [.ref v0, .int v1, .int v2, .null, .null] [] h (QI z) := by
  intro n
  induction n with
  | zero => intro _ _ _ _ q; exact nos (show (none : Option (Int32 × aH)) = some z from q)
  | succ n ih => intro v0 v1 v2 h q; exact tX11_wrongBy_17 ih v0 v1 v2 h q
def wX11_wrongBy_15 : List En := [(.iconst 0, 0, 0, 0), (.istore_n 2, 0, 0, 0)]
def fX11_wrongBy_15 (v0 : Nat) (v1 : Int32) (h : aH) : Option (Int32 × aH) :=
  lX11_wrongBy_17 FU v0 v1 (kI 0) h
theorem tX11_wrongBy_15 {d : Nat} {z : Int32 × aH} (v0 : Nat) (v1 : Int32) (h : aH) (hf : fX11_wrongBy_15 v0 v1 h = some z) : Ev (d + 4) none mX11_wrongBy (0, 0) 15 [.ref v0, .int v1, .null, .null, .null] [] h (QI z) := 
  go_ok (X := none) (blk := wX11_wrongBy_15) (np := 17) (tt := 0) (kN := fun xs h st => app [2, 1, 1, 0, 0] (fun v0 v1 v2 => apS [] (lX11_wrongBy_17 FU v0 v1 v2 h) st) xs) (kT := fun _ _ _ => none) (kR := kRI)
    (fun xs h st q => jm [2, 1, 1, 0, 0] _ (fun v0 v1 v2 q => apS_ok [] _ (fun st => Ev (d + 4) none mX11_wrongBy (0, 0) 17 [.ref v0, .int v1, .int v2, .null, .null] st h (QI z)) st (fun q => uX11_wrongBy_17 FU v0 v1 v2 h q) q) q)
    (fun _ _ _ q => nos q)
    kRI_ok (Or.inr rfl) (by decide +kernel) (by decide +kernel) hf
theorem kqX11_wrongBy_12 : okC mX11_wrongBy 12 (.invokestatic 170) 210 227 1 5 = true := by decide +kernel
def fX11_wrongBy_12 (v0 : Nat) (v1 : Int32) (s0 : Int32) (s1 : Int32) (s2 : Nat) (s3 : Int32) (s4 : Nat) (h : aH) : Option (Int32 × aH) :=
  (gX11_copy s4 s3 s2 s1 s0 h).bind fun r =>
  fX11_wrongBy_15 v0 v1 r
theorem tX11_wrongBy_12 {d : Nat} {z : Int32 × aH} (v0 : Nat) (v1 : Int32) (s0 : Int32) (s1 : Int32) (s2 : Nat) (s3 : Int32) (s4 : Nat) (h : aH) (hf : fX11_wrongBy_12 v0 v1 s0 s1 s2 s3 s4 h = some z) : Ev (d + 4) none mX11_wrongBy (0, 0) 12 [.ref v0, .int v1, .null, .null, .null] [.int s0, .int s1, .ref s2, .int s3, .ref s4] h (QI z) := by
  obtain ⟨r, h2, hf⟩ := bnd hf
  refine ev_S kqX11_wrongBy_12 jX11_copy (zX11_copy (d := d + 3) h2) rfl (Nat.le_of_ble_eq_true rfl) rfl (as := [.ref s4, .int s3, .ref s2, .int s1, .int s0]) (rest := []) rfl (Nat.le_of_ble_eq_true rfl) (fun _ _ hq => ?_)
  obtain ⟨rfl, hh⟩ := hq
  rw [hh]
  exact jm [2, 1, 0, 0, 0] (fun v0 v1 => fX11_wrongBy_15 v0 v1 r) (fun v0 v1 q => tX11_wrongBy_15 v0 v1 r q) hf
def wX11_wrongBy_0 : List En := [(.aload_n 0, 0, 0, 0), (.getfield 26, 192, 11, 17), (.iconst 0, 0, 0, 0), (.aload_n 0, 0, 0, 0), (.getfield 35, 195, 11, 20), (.iconst 0, 0, 0, 0), (.bipush 22, 0, 0, 0)]
def fX11_wrongBy_0 (v0 : Nat) (v1 : Int32) (h : aH) : Option (Int32 × aH) :=
  (gFR h 11 v0 17).bind fun t1 =>
  (gFR h 11 v0 20).bind fun t2 =>
  fX11_wrongBy_12 v0 v1 (kB 22) (kI 0) t2 (kI 0) t1 h
theorem tX11_wrongBy_0 {d : Nat} {z : Int32 × aH} (v0 : Nat) (v1 : Int32) (h : aH) (hf : fX11_wrongBy_0 v0 v1 h = some z) : Ev (d + 4) none mX11_wrongBy (0, 0) 0 [.ref v0, .int v1, .null, .null, .null] [] h (QI z) := 
  go_ok (X := none) (blk := wX11_wrongBy_0) (np := 12) (tt := 0) (kN := fun xs h st => app [2, 1, 0, 0, 0] (fun v0 v1 => apS [1, 1, 2, 1, 2] (fun s0 s1 s2 s3 s4 => fX11_wrongBy_12 v0 v1 s0 s1 s2 s3 s4 h) st) xs) (kT := fun _ _ _ => none) (kR := kRI)
    (fun xs h st q => jm [2, 1, 0, 0, 0] _ (fun v0 v1 q => apS_ok [1, 1, 2, 1, 2] _ (fun st => Ev (d + 4) none mX11_wrongBy (0, 0) 12 [.ref v0, .int v1, .null, .null, .null] st h (QI z)) st (fun s0 s1 s2 s3 s4 q => tX11_wrongBy_12 v0 v1 s0 s1 s2 s3 s4 h q) q) q)
    (fun _ _ _ q => nos q)
    kRI_ok (Or.inr rfl) (by decide +kernel) (by decide +kernel) hf
def gX11_wrongBy (v0 : Nat) (v1 : Int32) (h : aH) : Option (Int32 × aH) := fX11_wrongBy_0 v0 v1 h
theorem zX11_wrongBy {d : Nat} {z : Int32 × aH} {v0 : Nat} {v1 : Int32} {h : aH} (q : gX11_wrongBy v0 v1 h = some z) : CT (d + 4) mX11_wrongBy (0, 0) [.ref v0, .int v1] h (QI z) :=
  ct_ev (by decide +kernel) (Nat.le_of_ble_eq_true rfl) QI_r (jm [2, 1, 0, 0, 0] (fun v0 v1 => fX11_wrongBy_0 v0 v1 h) (fun v0 v1 q => tX11_wrongBy_0 v0 v1 h q) q)
def wX11_seekSets_170 : List En := [(.iload_n 2, 0, 0, 0), (.ireturn, 0, 0, 0)]
def fX11_seekSets_170 (v2 : Int32) (h : aH) : Option (Int32 × aH) :=
  some (v2, h)
theorem tX11_seekSets_170 {d : Nat} {z : Int32 × aH} (v2 : Int32) (h : aH) (hf : fX11_seekSets_170 v2 h = some z) : Ev (d + 5) none mX11_seekSets (0, 0) 170 [.null, .null, .int v2, .null, .null] [] h (QI z) := 
  go_ok (X := none) (blk := wX11_seekSets_170) (np := 172) (tt := 0) (kN := fun _ _ _ => none) (kT := fun _ _ _ => none) (kR := kRI)
    (fun _ _ _ q => nos q)
    (fun _ _ _ q => nos q)
    kRI_ok (Or.inr rfl) (by decide +kernel) (by decide +kernel) hf
def wX11_seekSets_165 : List En := [(.aload_n 0, 0, 0, 0), (.iconst 0, 0, 0, 0), (.putfield 363, 214, 11, 39)]
def fX11_seekSets_165 (v0 : Nat) (v2 : Int32) (h : aH) : Option (Int32 × aH) :=
  (pWV h 11 v0 39 (.int (kI 0))).bind fun h1 =>
  fX11_seekSets_170 v2 h1
theorem tX11_seekSets_165 {d : Nat} {z : Int32 × aH} (v0 : Nat) (v2 : Int32) (h : aH) (hf : fX11_seekSets_165 v0 v2 h = some z) : Ev (d + 5) none mX11_seekSets (0, 0) 165 [.ref v0, .null, .int v2, .null, .null] [] h (QI z) := 
  go_ok (X := none) (blk := wX11_seekSets_165) (np := 170) (tt := 0) (kN := fun xs h st => app [0, 0, 1, 0, 0] (fun v2 => apS [] (fX11_seekSets_170 v2 h) st) xs) (kT := fun _ _ _ => none) (kR := kRI)
    (fun xs h st q => jm [0, 0, 1, 0, 0] _ (fun v2 q => apS_ok [] _ (fun st => Ev (d + 5) none mX11_seekSets (0, 0) 170 [.null, .null, .int v2, .null, .null] st h (QI z)) st (fun q => tX11_seekSets_170 v2 h q) q) q)
    (fun _ _ _ q => nos q)
    kRI_ok (Or.inr rfl) (by decide +kernel) (by decide +kernel) hf
def wX11_seekSets_158 : List En := [(.aload_n 0, 0, 0, 0), (.getfield 357, 212, 11, 37), (.ifCond .ne 8, 170, 0, 0)]
def fX11_seekSets_158 (v0 : Nat) (v2 : Int32) (h : aH) : Option (Int32 × aH) :=
  (gFI h 11 v0 37).bind fun t1 =>
  if t1 = 0 then fX11_seekSets_165 v0 v2 h else fX11_seekSets_170 v2 h
theorem tX11_seekSets_158 {d : Nat} {z : Int32 × aH} (v0 : Nat) (v2 : Int32) (h : aH) (hf : fX11_seekSets_158 v0 v2 h = some z) : Ev (d + 5) none mX11_seekSets (0, 0) 158 [.ref v0, .null, .int v2, .null, .null] [] h (QI z) := 
  go_ok (X := none) (blk := wX11_seekSets_158) (np := 165) (tt := 170) (kN := fun xs h st => app [2, 0, 1, 0, 0] (fun v0 v2 => apS [] (fX11_seekSets_165 v0 v2 h) st) xs) (kT := fun xs h st => app [0, 0, 1, 0, 0] (fun v2 => apS [] (fX11_seekSets_170 v2 h) st) xs) (kR := kRI)
    (fun xs h st q => jm [2, 0, 1, 0, 0] _ (fun v0 v2 q => apS_ok [] _ (fun st => Ev (d + 5) none mX11_seekSets (0, 0) 165 [.ref v0, .null, .int v2, .null, .null] st h (QI z)) st (fun q => tX11_seekSets_165 v0 v2 h q) q) q)
    (fun xs h st q => jm [0, 0, 1, 0, 0] _ (fun v2 q => apS_ok [] _ (fun st => Ev (d + 5) none mX11_seekSets (0, 0) 170 [.null, .null, .int v2, .null, .null] st h (QI z)) st (fun q => tX11_seekSets_170 v2 h q) q) q)
    kRI_ok (Or.inr rfl) (by decide +kernel) (by decide +kernel) hf
def wX11_seekSets_152 : List En := [(.iinc 3 1, 0, 0, 0), (.goto (-106), 49, 0, 0)]
def fX11_seekSets_152 (k49 : Nat → Int32 → Int32 → Int32 → aH → Option (Int32 × aH)) (v0 : Nat) (v1 : Int32) (v2 : Int32) (v3 : Int32) (h : aH) : Option (Int32 × aH) :=
  k49 v0 v1 v2 (v3 + kI 1) h
theorem tX11_seekSets_152 {d : Nat} {z : Int32 × aH} {k49 : Nat → Int32 → Int32 → Int32 → aH → Option (Int32 × aH)} (hk49 : ∀ (v0 : Nat) (v1 : Int32) (v2 : Int32) (v3 : Int32) (h : aH), k49 v0 v1 v2 v3 h = some z → Ev (d + 5) none mX11_seekSets (0, 0) 49 [.ref v0, .int v1, .int v2, .int v3, .null] [] h (QI z)) (v0 : Nat) (v1 : Int32) (v2 : Int32) (v3 : Int32) (h : aH) (hf : fX11_seekSets_152 k49 v0 v1 v2 v3 h = some z) : Ev (d + 5) none mX11_seekSets (0, 0) 152 [.ref v0, .int v1, .int v2, .int v3, .null] [] h (QI z) := 
  go_ok (X := none) (blk := wX11_seekSets_152) (np := 158) (tt := 49) (kN := fun _ _ _ => none) (kT := fun xs h st => app [2, 1, 1, 1, 0] (fun v0 v1 v2 v3 => apS [] (k49 v0 v1 v2 v3 h) st) xs) (kR := kRI)
    (fun _ _ _ q => nos q)
    (fun xs h st q => jm [2, 1, 1, 1, 0] _ (fun v0 v1 v2 v3 q => apS_ok [] _ (fun st => Ev (d + 5) none mX11_seekSets (0, 0) 49 [.ref v0, .int v1, .int v2, .int v3, .null] st h (QI z)) st (fun q => hk49 v0 v1 v2 v3 h q) q) q)
    kRI_ok (Or.inr rfl) (by decide +kernel) (by decide +kernel) hf
def wX11_seekSets_130 : List En := [(.aload_n 0, 0, 0, 0), (.getfield 50, 211, 11, 36), (.iload 4, 0, 0, 0), (.dup2, 0, 0, 0), (.iaload, 0, 0, 0), (.iload_n 3, 0, 0, 0), (.iload 4, 0, 0, 0), (.ishr, 0, 0, 0), (.iconst 1, 0, 0, 0), (.iand, 0, 0, 0), (.iadd, 0, 0, 0), (.iastore, 0, 0, 0), (.iinc 4 1, 0, 0, 0), (.goto (-31), 118, 0, 0)]
def fX11_seekSets_130 (k49 : Nat → Int32 → Int32 → Int32 → aH → Option (Int32 × aH)) (k118 : Nat → Int32 → Int32 → Int32 → Int32 → aH → Option (Int32 × aH)) (v0 : Nat) (v1 : Int32) (v2 : Int32) (v3 : Int32) (v4 : Int32) (h : aH) : Option (Int32 × aH) :=
  (gFR h 11 v0 36).bind fun t1 =>
  (aRI (h[t1]?) v4).bind fun t2 =>
  (aWI h t1 v4 (t2 + ((v3 >>> (v4 &&& 31)) &&& (kI 1)))).bind fun h3 =>
  k118 v0 v1 v2 v3 (v4 + kI 1) h3
theorem tX11_seekSets_130 {d : Nat} {z : Int32 × aH} {k49 : Nat → Int32 → Int32 → Int32 → aH → Option (Int32 × aH)} {k118 : Nat → Int32 → Int32 → Int32 → Int32 → aH → Option (Int32 × aH)} (hk49 : ∀ (v0 : Nat) (v1 : Int32) (v2 : Int32) (v3 : Int32) (h : aH), k49 v0 v1 v2 v3 h = some z → Ev (d + 5) none mX11_seekSets (0, 0) 49 [.ref v0, .int v1, .int v2, .int v3, .null] [] h (QI z)) (hk118 : ∀ (v0 : Nat) (v1 : Int32) (v2 : Int32) (v3 : Int32) (v4 : Int32) (h : aH), k118 v0 v1 v2 v3 v4 h = some z → Ev (d + 5) none mX11_seekSets (0, 0) 118 [.ref v0, .int v1, .int v2, .int v3, .int v4] [] h (QI z)) (v0 : Nat) (v1 : Int32) (v2 : Int32) (v3 : Int32) (v4 : Int32) (h : aH) (hf : fX11_seekSets_130 k49 k118 v0 v1 v2 v3 v4 h = some z) : Ev (d + 5) none mX11_seekSets (0, 0) 130 [.ref v0, .int v1, .int v2, .int v3, .int v4] [] h (QI z) := 
  go_ok (X := none) (blk := wX11_seekSets_130) (np := 152) (tt := 118) (kN := fun _ _ _ => none) (kT := fun xs h st => app [2, 1, 1, 1, 1] (fun v0 v1 v2 v3 v4 => apS [] (k118 v0 v1 v2 v3 v4 h) st) xs) (kR := kRI)
    (fun _ _ _ q => nos q)
    (fun xs h st q => jm [2, 1, 1, 1, 1] _ (fun v0 v1 v2 v3 v4 q => apS_ok [] _ (fun st => Ev (d + 5) none mX11_seekSets (0, 0) 118 [.ref v0, .int v1, .int v2, .int v3, .int v4] st h (QI z)) st (fun q => hk118 v0 v1 v2 v3 v4 h q) q) q)
    kRI_ok (Or.inr rfl) (by decide +kernel) (by decide +kernel) hf
def wX11_seekSets_118 : List En := [(.iload 4, 0, 0, 0), (.aload_n 0, 0, 0, 0), (.getfield 20, 190, 11, 15), (.bipush 6, 0, 0, 0), (.iaload, 0, 0, 0), (.if_icmp .ge 25, 152, 0, 0)]
def fX11_seekSets_118 (k49 : Nat → Int32 → Int32 → Int32 → aH → Option (Int32 × aH)) (k118 : Nat → Int32 → Int32 → Int32 → Int32 → aH → Option (Int32 × aH)) (v0 : Nat) (v1 : Int32) (v2 : Int32) (v3 : Int32) (v4 : Int32) (h : aH) : Option (Int32 × aH) :=
  (gFR h 11 v0 15).bind fun t1 =>
  (aRI (h[t1]?) (kB 6)).bind fun t2 =>
  if v4 < t2 then fX11_seekSets_130 k49 k118 v0 v1 v2 v3 v4 h else fX11_seekSets_152 k49 v0 v1 v2 v3 h
theorem tX11_seekSets_118 {d : Nat} {z : Int32 × aH} {k49 : Nat → Int32 → Int32 → Int32 → aH → Option (Int32 × aH)} {k118 : Nat → Int32 → Int32 → Int32 → Int32 → aH → Option (Int32 × aH)} (hk49 : ∀ (v0 : Nat) (v1 : Int32) (v2 : Int32) (v3 : Int32) (h : aH), k49 v0 v1 v2 v3 h = some z → Ev (d + 5) none mX11_seekSets (0, 0) 49 [.ref v0, .int v1, .int v2, .int v3, .null] [] h (QI z)) (hk118 : ∀ (v0 : Nat) (v1 : Int32) (v2 : Int32) (v3 : Int32) (v4 : Int32) (h : aH), k118 v0 v1 v2 v3 v4 h = some z → Ev (d + 5) none mX11_seekSets (0, 0) 118 [.ref v0, .int v1, .int v2, .int v3, .int v4] [] h (QI z)) (v0 : Nat) (v1 : Int32) (v2 : Int32) (v3 : Int32) (v4 : Int32) (h : aH) (hf : fX11_seekSets_118 k49 k118 v0 v1 v2 v3 v4 h = some z) : Ev (d + 5) none mX11_seekSets (0, 0) 118 [.ref v0, .int v1, .int v2, .int v3, .int v4] [] h (QI z) := 
  go_ok (X := none) (blk := wX11_seekSets_118) (np := 130) (tt := 152) (kN := fun xs h st => app [2, 1, 1, 1, 1] (fun v0 v1 v2 v3 v4 => apS [] (fX11_seekSets_130 k49 k118 v0 v1 v2 v3 v4 h) st) xs) (kT := fun xs h st => app [2, 1, 1, 1, 0] (fun v0 v1 v2 v3 => apS [] (fX11_seekSets_152 k49 v0 v1 v2 v3 h) st) xs) (kR := kRI)
    (fun xs h st q => jm [2, 1, 1, 1, 1] _ (fun v0 v1 v2 v3 v4 q => apS_ok [] _ (fun st => Ev (d + 5) none mX11_seekSets (0, 0) 130 [.ref v0, .int v1, .int v2, .int v3, .int v4] st h (QI z)) st (fun q => tX11_seekSets_130 hk49 hk118 v0 v1 v2 v3 v4 h q) q) q)
    (fun xs h st q => jm [2, 1, 1, 1, 0] _ (fun v0 v1 v2 v3 q => apS_ok [] _ (fun st => Ev (d + 5) none mX11_seekSets (0, 0) 152 [.ref v0, .int v1, .int v2, .int v3, .null] st h (QI z)) st (fun q => tX11_seekSets_152 hk49 v0 v1 v2 v3 h q) q) q)
    kRI_ok (Or.inr rfl) (by decide +kernel) (by decide +kernel) hf
def lX11_seekSets_118 (k49 : Nat → Int32 → Int32 → Int32 → aH → Option (Int32 × aH)) : Nat → Nat → Int32 → Int32 → Int32 → Int32 → aH → Option (Int32 × aH)
  | 0, _, _, _, _, _, _ => none
  | n + 1, v0, v1, v2, v3, v4, h => fX11_seekSets_118 k49 (lX11_seekSets_118 k49 n) v0 v1 v2 v3 v4 h
theorem uX11_seekSets_118 {d : Nat} {z : Int32 × aH} {k49 : Nat → Int32 → Int32 → Int32 → aH → Option (Int32 × aH)} (hk49 : ∀ (v0 : Nat) (v1 : Int32) (v2 : Int32) (v3 : Int32) (h : aH), k49 v0 v1 v2 v3 h = some z → Ev (d + 5) none mX11_seekSets (0, 0) 49 [.ref v0, .int v1, .int v2, .int v3, .null] [] h (QI z)) : ∀ (n : Nat) (v0 : Nat) (v1 : Int32) (v2 : Int32) (v3 : Int32) (v4 : Int32) (h : aH), lX11_seekSets_118 k49 n v0 v1 v2 v3 v4 h = some z → Ev (d + 5) none mX11_seekSets (0, 0) 118 [.ref v0, .int v1, .int v2, .int v3, .int v4] [] h (QI z) := by
  intro n
  induction n with
  | zero => intro _ _ _ _ _ _ q; exact nos (show (none : Option (Int32 × aH)) = some z from q)
  | succ n ih => intro v0 v1 v2 v3 v4 h q; exact tX11_seekSets_118 hk49 ih v0 v1 v2 v3 v4 h q
def wX11_seekSets_85 : List En := [(.aload_n 0, 0, 0, 0), (.dup, 0, 0, 0), (.getfield 357, 212, 11, 37), (.iconst 1, 0, 0, 0), (.iadd, 0, 0, 0), (.putfield 357, 212, 11, 37), (.aload_n 0, 0, 0, 0), (.dup, 0, 0, 0), (.getfield 360, 213, 11, 38), (.iload_n 3, 0, 0, 0), (.ior, 0, 0, 0), (.putfield 360, 213, 11, 38), (.aload_n 0, 0, 0, 0), (.dup, 0, 0, 0), (.getfield 363, 214, 11, 39), (.iload_n 3, 0, 0, 0), (.iand, 0, 0, 0), (.putfield 363, 214, 11, 39), (.iconst 0, 0, 0, 0), (.istore 4, 0, 0, 0)]
def fX11_seekSets_85 (k49 : Nat → Int32 → Int32 → Int32 → aH → Option (Int32 × aH)) (v0 : Nat) (v1 : Int32) (v2 : Int32) (v3 : Int32) (h : aH) : Option (Int32 × aH) :=
  (gFI h 11 v0 37).bind fun t1 =>
  (pWV h 11 v0 37 (.int (t1 + (kI 1)))).bind fun h2 =>
  (gFI h2 11 v0 38).bind fun t3 =>
  (pWV h2 11 v0 38 (.int (t3 ||| v3))).bind fun h4 =>
  (gFI h4 11 v0 39).bind fun t5 =>
  (pWV h4 11 v0 39 (.int (t5 &&& v3))).bind fun h6 =>
  lX11_seekSets_118 k49 FU v0 v1 v2 v3 (kI 0) h6
theorem tX11_seekSets_85 {d : Nat} {z : Int32 × aH} {k49 : Nat → Int32 → Int32 → Int32 → aH → Option (Int32 × aH)} (hk49 : ∀ (v0 : Nat) (v1 : Int32) (v2 : Int32) (v3 : Int32) (h : aH), k49 v0 v1 v2 v3 h = some z → Ev (d + 5) none mX11_seekSets (0, 0) 49 [.ref v0, .int v1, .int v2, .int v3, .null] [] h (QI z)) (v0 : Nat) (v1 : Int32) (v2 : Int32) (v3 : Int32) (h : aH) (hf : fX11_seekSets_85 k49 v0 v1 v2 v3 h = some z) : Ev (d + 5) none mX11_seekSets (0, 0) 85 [.ref v0, .int v1, .int v2, .int v3, .null] [] h (QI z) := 
  go_ok (X := none) (blk := wX11_seekSets_85) (np := 118) (tt := 0) (kN := fun xs h st => app [2, 1, 1, 1, 1] (fun v0 v1 v2 v3 v4 => apS [] (lX11_seekSets_118 k49 FU v0 v1 v2 v3 v4 h) st) xs) (kT := fun _ _ _ => none) (kR := kRI)
    (fun xs h st q => jm [2, 1, 1, 1, 1] _ (fun v0 v1 v2 v3 v4 q => apS_ok [] _ (fun st => Ev (d + 5) none mX11_seekSets (0, 0) 118 [.ref v0, .int v1, .int v2, .int v3, .int v4] st h (QI z)) st (fun q => uX11_seekSets_118 hk49 FU v0 v1 v2 v3 v4 h q) q) q)
    (fun _ _ _ q => nos q)
    kRI_ok (Or.inr rfl) (by decide +kernel) (by decide +kernel) hf
def wX11_seekSets_83 : List En := [(.iload_n 3, 0, 0, 0), (.istore_n 2, 0, 0, 0)]
def fX11_seekSets_83 (k49 : Nat → Int32 → Int32 → Int32 → aH → Option (Int32 × aH)) (v0 : Nat) (v1 : Int32) (v3 : Int32) (h : aH) : Option (Int32 × aH) :=
  fX11_seekSets_85 k49 v0 v1 v3 v3 h
theorem tX11_seekSets_83 {d : Nat} {z : Int32 × aH} {k49 : Nat → Int32 → Int32 → Int32 → aH → Option (Int32 × aH)} (hk49 : ∀ (v0 : Nat) (v1 : Int32) (v2 : Int32) (v3 : Int32) (h : aH), k49 v0 v1 v2 v3 h = some z → Ev (d + 5) none mX11_seekSets (0, 0) 49 [.ref v0, .int v1, .int v2, .int v3, .null] [] h (QI z)) (v0 : Nat) (v1 : Int32) (v3 : Int32) (h : aH) (hf : fX11_seekSets_83 k49 v0 v1 v3 h = some z) : Ev (d + 5) none mX11_seekSets (0, 0) 83 [.ref v0, .int v1, .null, .int v3, .null] [] h (QI z) := 
  go_ok (X := none) (blk := wX11_seekSets_83) (np := 85) (tt := 0) (kN := fun xs h st => app [2, 1, 1, 1, 0] (fun v0 v1 v2 v3 => apS [] (fX11_seekSets_85 k49 v0 v1 v2 v3 h) st) xs) (kT := fun _ _ _ => none) (kR := kRI)
    (fun xs h st q => jm [2, 1, 1, 1, 0] _ (fun v0 v1 v2 v3 q => apS_ok [] _ (fun st => Ev (d + 5) none mX11_seekSets (0, 0) 85 [.ref v0, .int v1, .int v2, .int v3, .null] st h (QI z)) st (fun q => tX11_seekSets_85 hk49 v0 v1 v2 v3 h q) q) q)
    (fun _ _ _ q => nos q)
    kRI_ok (Or.inr rfl) (by decide +kernel) (by decide +kernel) hf
def wX11_seekSets_75 : List En := [(.aload_n 0, 0, 0, 0), (.getfield 357, 212, 11, 37), (.iload_n 1, 0, 0, 0), (.if_icmp .ne 5, 85, 0, 0)]
def fX11_seekSets_75 (k49 : Nat → Int32 → Int32 → Int32 → aH → Option (Int32 × aH)) (v0 : Nat) (v1 : Int32) (v2 : Int32) (v3 : Int32) (h : aH) : Option (Int32 × aH) :=
  (gFI h 11 v0 37).bind fun t1 =>
  if t1 = v1 then fX11_seekSets_83 k49 v0 v1 v3 h else fX11_seekSets_85 k49 v0 v1 v2 v3 h
theorem tX11_seekSets_75 {d : Nat} {z : Int32 × aH} {k49 : Nat → Int32 → Int32 → Int32 → aH → Option (Int32 × aH)} (hk49 : ∀ (v0 : Nat) (v1 : Int32) (v2 : Int32) (v3 : Int32) (h : aH), k49 v0 v1 v2 v3 h = some z → Ev (d + 5) none mX11_seekSets (0, 0) 49 [.ref v0, .int v1, .int v2, .int v3, .null] [] h (QI z)) (v0 : Nat) (v1 : Int32) (v2 : Int32) (v3 : Int32) (h : aH) (hf : fX11_seekSets_75 k49 v0 v1 v2 v3 h = some z) : Ev (d + 5) none mX11_seekSets (0, 0) 75 [.ref v0, .int v1, .int v2, .int v3, .null] [] h (QI z) := 
  go_ok (X := none) (blk := wX11_seekSets_75) (np := 83) (tt := 85) (kN := fun xs h st => app [2, 1, 0, 1, 0] (fun v0 v1 v3 => apS [] (fX11_seekSets_83 k49 v0 v1 v3 h) st) xs) (kT := fun xs h st => app [2, 1, 1, 1, 0] (fun v0 v1 v2 v3 => apS [] (fX11_seekSets_85 k49 v0 v1 v2 v3 h) st) xs) (kR := kRI)
    (fun xs h st q => jm [2, 1, 0, 1, 0] _ (fun v0 v1 v3 q => apS_ok [] _ (fun st => Ev (d + 5) none mX11_seekSets (0, 0) 83 [.ref v0, .int v1, .null, .int v3, .null] st h (QI z)) st (fun q => tX11_seekSets_83 hk49 v0 v1 v3 h q) q) q)
    (fun xs h st q => jm [2, 1, 1, 1, 0] _ (fun v0 v1 v2 v3 q => apS_ok [] _ (fun st => Ev (d + 5) none mX11_seekSets (0, 0) 85 [.ref v0, .int v1, .int v2, .int v3, .null] st h (QI z)) st (fun q => tX11_seekSets_85 hk49 v0 v1 v2 v3 h q) q) q)
    kRI_ok (Or.inr rfl) (by decide +kernel) (by decide +kernel) hf
def wX11_seekSets_72 : List En := [(.goto 80, 152, 0, 0)]
def fX11_seekSets_72 (k49 : Nat → Int32 → Int32 → Int32 → aH → Option (Int32 × aH)) (v0 : Nat) (v1 : Int32) (v2 : Int32) (v3 : Int32) (h : aH) : Option (Int32 × aH) :=
  fX11_seekSets_152 k49 v0 v1 v2 v3 h
theorem tX11_seekSets_72 {d : Nat} {z : Int32 × aH} {k49 : Nat → Int32 → Int32 → Int32 → aH → Option (Int32 × aH)} (hk49 : ∀ (v0 : Nat) (v1 : Int32) (v2 : Int32) (v3 : Int32) (h : aH), k49 v0 v1 v2 v3 h = some z → Ev (d + 5) none mX11_seekSets (0, 0) 49 [.ref v0, .int v1, .int v2, .int v3, .null] [] h (QI z)) (v0 : Nat) (v1 : Int32) (v2 : Int32) (v3 : Int32) (h : aH) (hf : fX11_seekSets_72 k49 v0 v1 v2 v3 h = some z) : Ev (d + 5) none mX11_seekSets (0, 0) 72 [.ref v0, .int v1, .int v2, .int v3, .null] [] h (QI z) := 
  go_ok (X := none) (blk := wX11_seekSets_72) (np := 75) (tt := 152) (kN := fun _ _ _ => none) (kT := fun xs h st => app [2, 1, 1, 1, 0] (fun v0 v1 v2 v3 => apS [] (fX11_seekSets_152 k49 v0 v1 v2 v3 h) st) xs) (kR := kRI)
    (fun _ _ _ q => nos q)
    (fun xs h st q => jm [2, 1, 1, 1, 0] _ (fun v0 v1 v2 v3 q => apS_ok [] _ (fun st => Ev (d + 5) none mX11_seekSets (0, 0) 152 [.ref v0, .int v1, .int v2, .int v3, .null] st h (QI z)) st (fun q => tX11_seekSets_152 hk49 v0 v1 v2 v3 h q) q) q)
    kRI_ok (Or.inr rfl) (by decide +kernel) (by decide +kernel) hf
def wX11_seekSets_67 : List En := [(.bipush (-2), 0, 0, 0), (.if_icmp .eq 6, 75, 0, 0)]
def fX11_seekSets_67 (k49 : Nat → Int32 → Int32 → Int32 → aH → Option (Int32 × aH)) (v0 : Nat) (v1 : Int32) (v2 : Int32) (v3 : Int32) (s0 : Int32) (h : aH) : Option (Int32 × aH) :=
  if s0 = (kB (-2)) then fX11_seekSets_75 k49 v0 v1 v2 v3 h else fX11_seekSets_72 k49 v0 v1 v2 v3 h
theorem tX11_seekSets_67 {d : Nat} {z : Int32 × aH} {k49 : Nat → Int32 → Int32 → Int32 → aH → Option (Int32 × aH)} (hk49 : ∀ (v0 : Nat) (v1 : Int32) (v2 : Int32) (v3 : Int32) (h : aH), k49 v0 v1 v2 v3 h = some z → Ev (d + 5) none mX11_seekSets (0, 0) 49 [.ref v0, .int v1, .int v2, .int v3, .null] [] h (QI z)) (v0 : Nat) (v1 : Int32) (v2 : Int32) (v3 : Int32) (s0 : Int32) (h : aH) (hf : fX11_seekSets_67 k49 v0 v1 v2 v3 s0 h = some z) : Ev (d + 5) none mX11_seekSets (0, 0) 67 [.ref v0, .int v1, .int v2, .int v3, .null] [.int s0] h (QI z) := 
  go_ok (X := none) (blk := wX11_seekSets_67) (np := 72) (tt := 75) (kN := fun xs h st => app [2, 1, 1, 1, 0] (fun v0 v1 v2 v3 => apS [] (fX11_seekSets_72 k49 v0 v1 v2 v3 h) st) xs) (kT := fun xs h st => app [2, 1, 1, 1, 0] (fun v0 v1 v2 v3 => apS [] (fX11_seekSets_75 k49 v0 v1 v2 v3 h) st) xs) (kR := kRI)
    (fun xs h st q => jm [2, 1, 1, 1, 0] _ (fun v0 v1 v2 v3 q => apS_ok [] _ (fun st => Ev (d + 5) none mX11_seekSets (0, 0) 72 [.ref v0, .int v1, .int v2, .int v3, .null] st h (QI z)) st (fun q => tX11_seekSets_72 hk49 v0 v1 v2 v3 h q) q) q)
    (fun xs h st q => jm [2, 1, 1, 1, 0] _ (fun v0 v1 v2 v3 q => apS_ok [] _ (fun st => Ev (d + 5) none mX11_seekSets (0, 0) 75 [.ref v0, .int v1, .int v2, .int v3, .null] st h (QI z)) st (fun q => tX11_seekSets_75 hk49 v0 v1 v2 v3 h q) q) q)
    kRI_ok (Or.inr rfl) (by decide +kernel) (by decide +kernel) hf
theorem kqX11_seekSets_64 : okC mX11_seekSets 64 (.invokevirtual 366) 271 288 0 1 = true := by decide +kernel
def fX11_seekSets_64 (k49 : Nat → Int32 → Int32 → Int32 → aH → Option (Int32 × aH)) (v0 : Nat) (v1 : Int32) (v2 : Int32) (v3 : Int32) (s0 : Int32) (s1 : Nat) (h : aH) : Option (Int32 × aH) :=
  (isO h 11 s1).bind fun _ =>
  (gX11_wrongBy s1 s0 h).bind fun r =>
  fX11_seekSets_67 k49 v0 v1 v2 v3 r.1 r.2
theorem tX11_seekSets_64 {d : Nat} {z : Int32 × aH} {k49 : Nat → Int32 → Int32 → Int32 → aH → Option (Int32 × aH)} (hk49 : ∀ (v0 : Nat) (v1 : Int32) (v2 : Int32) (v3 : Int32) (h : aH), k49 v0 v1 v2 v3 h = some z → Ev (d + 5) none mX11_seekSets (0, 0) 49 [.ref v0, .int v1, .int v2, .int v3, .null] [] h (QI z)) (v0 : Nat) (v1 : Int32) (v2 : Int32) (v3 : Int32) (s0 : Int32) (s1 : Nat) (h : aH) (hf : fX11_seekSets_64 k49 v0 v1 v2 v3 s0 s1 h = some z) : Ev (d + 5) none mX11_seekSets (0, 0) 64 [.ref v0, .int v1, .int v2, .int v3, .null] [.int s0, .ref s1] h (QI z) := by
  obtain ⟨_, h1, hf⟩ := bnd hf
  obtain ⟨fs, ho⟩ := isO_ok h1
  obtain ⟨r, h2, hf⟩ := bnd hf
  refine ev_V kqX11_seekSets_64 jX11_wrongBy (zX11_wrongBy (d := d + 0) h2) ho rfl rfl (Nat.le_of_ble_eq_true rfl) rfl (as := [.int s0]) (rest := []) rfl (Nat.le_of_ble_eq_true rfl) (fun _ _ hq => ?_)
  obtain ⟨rfl, rfl⟩ := hq
  exact jm [2, 1, 1, 1, 0] (fun v0 v1 v2 v3 => fX11_seekSets_67 k49 v0 v1 v2 v3 r.1 r.2) (fun v0 v1 v2 v3 q => tX11_seekSets_67 hk49 v0 v1 v2 v3 r.1 r.2 q) hf
def wX11_seekSets_62 : List En := [(.aload_n 0, 0, 0, 0), (.iload_n 3, 0, 0, 0)]
def fX11_seekSets_62 (k49 : Nat → Int32 → Int32 → Int32 → aH → Option (Int32 × aH)) (v0 : Nat) (v1 : Int32) (v2 : Int32) (v3 : Int32) (h : aH) : Option (Int32 × aH) :=
  fX11_seekSets_64 k49 v0 v1 v2 v3 v3 v0 h
theorem tX11_seekSets_62 {d : Nat} {z : Int32 × aH} {k49 : Nat → Int32 → Int32 → Int32 → aH → Option (Int32 × aH)} (hk49 : ∀ (v0 : Nat) (v1 : Int32) (v2 : Int32) (v3 : Int32) (h : aH), k49 v0 v1 v2 v3 h = some z → Ev (d + 5) none mX11_seekSets (0, 0) 49 [.ref v0, .int v1, .int v2, .int v3, .null] [] h (QI z)) (v0 : Nat) (v1 : Int32) (v2 : Int32) (v3 : Int32) (h : aH) (hf : fX11_seekSets_62 k49 v0 v1 v2 v3 h = some z) : Ev (d + 5) none mX11_seekSets (0, 0) 62 [.ref v0, .int v1, .int v2, .int v3, .null] [] h (QI z) := 
  go_ok (X := none) (blk := wX11_seekSets_62) (np := 64) (tt := 0) (kN := fun xs h st => app [2, 1, 1, 1, 0] (fun v0 v1 v2 v3 => apS [1, 2] (fun s0 s1 => fX11_seekSets_64 k49 v0 v1 v2 v3 s0 s1 h) st) xs) (kT := fun _ _ _ => none) (kR := kRI)
    (fun xs h st q => jm [2, 1, 1, 1, 0] _ (fun v0 v1 v2 v3 q => apS_ok [1, 2] _ (fun st => Ev (d + 5) none mX11_seekSets (0, 0) 64 [.ref v0, .int v1, .int v2, .int v3, .null] st h (QI z)) st (fun s0 s1 q => tX11_seekSets_64 hk49 v0 v1 v2 v3 s0 s1 h q) q) q)
    (fun _ _ _ q => nos q)
    kRI_ok (Or.inr rfl) (by decide +kernel) (by decide +kernel) hf
def wX11_seekSets_49 : List En := [(.iload_n 3, 0, 0, 0), (.iconst 1, 0, 0, 0), (.aload_n 0, 0, 0, 0), (.getfield 20, 190, 11, 15), (.bipush 6, 0, 0, 0), (.iaload, 0, 0, 0), (.ishl, 0, 0, 0), (.if_icmp .ge 99, 158, 0, 0)]
def fX11_seekSets_49 (k49 : Nat → Int32 → Int32 → Int32 → aH → Option (Int32 × aH)) (v0 : Nat) (v1 : Int32) (v2 : Int32) (v3 : Int32) (h : aH) : Option (Int32 × aH) :=
  (gFR h 11 v0 15).bind fun t1 =>
  (aRI (h[t1]?) (kB 6)).bind fun t2 =>
  if v3 < ((kI 1) <<< (t2 &&& 31)) then fX11_seekSets_62 k49 v0 v1 v2 v3 h else fX11_seekSets_158 v0 v2 h
theorem tX11_seekSets_49 {d : Nat} {z : Int32 × aH} {k49 : Nat → Int32 → Int32 → Int32 → aH → Option (Int32 × aH)} (hk49 : ∀ (v0 : Nat) (v1 : Int32) (v2 : Int32) (v3 : Int32) (h : aH), k49 v0 v1 v2 v3 h = some z → Ev (d + 5) none mX11_seekSets (0, 0) 49 [.ref v0, .int v1, .int v2, .int v3, .null] [] h (QI z)) (v0 : Nat) (v1 : Int32) (v2 : Int32) (v3 : Int32) (h : aH) (hf : fX11_seekSets_49 k49 v0 v1 v2 v3 h = some z) : Ev (d + 5) none mX11_seekSets (0, 0) 49 [.ref v0, .int v1, .int v2, .int v3, .null] [] h (QI z) := 
  go_ok (X := none) (blk := wX11_seekSets_49) (np := 62) (tt := 158) (kN := fun xs h st => app [2, 1, 1, 1, 0] (fun v0 v1 v2 v3 => apS [] (fX11_seekSets_62 k49 v0 v1 v2 v3 h) st) xs) (kT := fun xs h st => app [2, 0, 1, 0, 0] (fun v0 v2 => apS [] (fX11_seekSets_158 v0 v2 h) st) xs) (kR := kRI)
    (fun xs h st q => jm [2, 1, 1, 1, 0] _ (fun v0 v1 v2 v3 q => apS_ok [] _ (fun st => Ev (d + 5) none mX11_seekSets (0, 0) 62 [.ref v0, .int v1, .int v2, .int v3, .null] st h (QI z)) st (fun q => tX11_seekSets_62 hk49 v0 v1 v2 v3 h q) q) q)
    (fun xs h st q => jm [2, 0, 1, 0, 0] _ (fun v0 v2 q => apS_ok [] _ (fun st => Ev (d + 5) none mX11_seekSets (0, 0) 158 [.ref v0, .null, .int v2, .null, .null] st h (QI z)) st (fun q => tX11_seekSets_158 v0 v2 h q) q) q)
    kRI_ok (Or.inr rfl) (by decide +kernel) (by decide +kernel) hf
def lX11_seekSets_49 : Nat → Nat → Int32 → Int32 → Int32 → aH → Option (Int32 × aH)
  | 0, _, _, _, _, _ => none
  | n + 1, v0, v1, v2, v3, h => fX11_seekSets_49 (lX11_seekSets_49 n) v0 v1 v2 v3 h
theorem uX11_seekSets_49 {d : Nat} {z : Int32 × aH} : ∀ (n : Nat) (v0 : Nat) (v1 : Int32) (v2 : Int32) (v3 : Int32) (h : aH), lX11_seekSets_49 n v0 v1 v2 v3 h = some z → Ev (d + 5) none mX11_seekSets (0, 0) 49 [.ref v0, .int v1, .int v2, .int v3, .null] [] h (QI z) := by
  intro n
  induction n with
  | zero => intro _ _ _ _ _ q; exact nos (show (none : Option (Int32 × aH)) = some z from q)
  | succ n ih => intro v0 v1 v2 v3 h q; exact tX11_seekSets_49 ih v0 v1 v2 v3 h q
def wX11_seekSets_47 : List En := [(.iconst 0, 0, 0, 0), (.istore_n 3, 0, 0, 0)]
def fX11_seekSets_47 (v0 : Nat) (v1 : Int32) (v2 : Int32) (h : aH) : Option (Int32 × aH) :=
  lX11_seekSets_49 FU v0 v1 v2 (kI 0) h
theorem tX11_seekSets_47 {d : Nat} {z : Int32 × aH} (v0 : Nat) (v1 : Int32) (v2 : Int32) (h : aH) (hf : fX11_seekSets_47 v0 v1 v2 h = some z) : Ev (d + 5) none mX11_seekSets (0, 0) 47 [.ref v0, .int v1, .int v2, .null, .null] [] h (QI z) := 
  go_ok (X := none) (blk := wX11_seekSets_47) (np := 49) (tt := 0) (kN := fun xs h st => app [2, 1, 1, 1, 0] (fun v0 v1 v2 v3 => apS [] (lX11_seekSets_49 FU v0 v1 v2 v3 h) st) xs) (kT := fun _ _ _ => none) (kR := kRI)
    (fun xs h st q => jm [2, 1, 1, 1, 0] _ (fun v0 v1 v2 v3 q => apS_ok [] _ (fun st => Ev (d + 5) none mX11_seekSets (0, 0) 49 [.ref v0, .int v1, .int v2, .int v3, .null] st h (QI z)) st (fun q => uX11_seekSets_49 FU v0 v1 v2 v3 h q) q) q)
    (fun _ _ _ q => nos q)
    kRI_ok (Or.inr rfl) (by decide +kernel) (by decide +kernel) hf
def wX11_seekSets_34 : List En := [(.aload_n 0, 0, 0, 0), (.getfield 50, 211, 11, 36), (.iload_n 3, 0, 0, 0), (.iconst 0, 0, 0, 0), (.iastore, 0, 0, 0), (.iinc 3 1, 0, 0, 0), (.goto (-15), 29, 0, 0)]
def fX11_seekSets_34 (k29 : Nat → Int32 → Int32 → Int32 → aH → Option (Int32 × aH)) (v0 : Nat) (v1 : Int32) (v2 : Int32) (v3 : Int32) (h : aH) : Option (Int32 × aH) :=
  (gFR h 11 v0 36).bind fun t1 =>
  (aWI h t1 v3 (kI 0)).bind fun h2 =>
  k29 v0 v1 v2 (v3 + kI 1) h2
theorem tX11_seekSets_34 {d : Nat} {z : Int32 × aH} {k29 : Nat → Int32 → Int32 → Int32 → aH → Option (Int32 × aH)} (hk29 : ∀ (v0 : Nat) (v1 : Int32) (v2 : Int32) (v3 : Int32) (h : aH), k29 v0 v1 v2 v3 h = some z → Ev (d + 5) none mX11_seekSets (0, 0) 29 [.ref v0, .int v1, .int v2, .int v3, .null] [] h (QI z)) (v0 : Nat) (v1 : Int32) (v2 : Int32) (v3 : Int32) (h : aH) (hf : fX11_seekSets_34 k29 v0 v1 v2 v3 h = some z) : Ev (d + 5) none mX11_seekSets (0, 0) 34 [.ref v0, .int v1, .int v2, .int v3, .null] [] h (QI z) := 
  go_ok (X := none) (blk := wX11_seekSets_34) (np := 47) (tt := 29) (kN := fun _ _ _ => none) (kT := fun xs h st => app [2, 1, 1, 1, 0] (fun v0 v1 v2 v3 => apS [] (k29 v0 v1 v2 v3 h) st) xs) (kR := kRI)
    (fun _ _ _ q => nos q)
    (fun xs h st q => jm [2, 1, 1, 1, 0] _ (fun v0 v1 v2 v3 q => apS_ok [] _ (fun st => Ev (d + 5) none mX11_seekSets (0, 0) 29 [.ref v0, .int v1, .int v2, .int v3, .null] st h (QI z)) st (fun q => hk29 v0 v1 v2 v3 h q) q) q)
    kRI_ok (Or.inr rfl) (by decide +kernel) (by decide +kernel) hf
def wX11_seekSets_29 : List En := [(.iload_n 3, 0, 0, 0), (.iconst 4, 0, 0, 0), (.if_icmp .ge 16, 47, 0, 0)]
def fX11_seekSets_29 (k29 : Nat → Int32 → Int32 → Int32 → aH → Option (Int32 × aH)) (v0 : Nat) (v1 : Int32) (v2 : Int32) (v3 : Int32) (h : aH) : Option (Int32 × aH) :=
  if v3 < (kI 4) then fX11_seekSets_34 k29 v0 v1 v2 v3 h else fX11_seekSets_47 v0 v1 v2 h
theorem tX11_seekSets_29 {d : Nat} {z : Int32 × aH} {k29 : Nat → Int32 → Int32 → Int32 → aH → Option (Int32 × aH)} (hk29 : ∀ (v0 : Nat) (v1 : Int32) (v2 : Int32) (v3 : Int32) (h : aH), k29 v0 v1 v2 v3 h = some z → Ev (d + 5) none mX11_seekSets (0, 0) 29 [.ref v0, .int v1, .int v2, .int v3, .null] [] h (QI z)) (v0 : Nat) (v1 : Int32) (v2 : Int32) (v3 : Int32) (h : aH) (hf : fX11_seekSets_29 k29 v0 v1 v2 v3 h = some z) : Ev (d + 5) none mX11_seekSets (0, 0) 29 [.ref v0, .int v1, .int v2, .int v3, .null] [] h (QI z) := 
  go_ok (X := none) (blk := wX11_seekSets_29) (np := 34) (tt := 47) (kN := fun xs h st => app [2, 1, 1, 1, 0] (fun v0 v1 v2 v3 => apS [] (fX11_seekSets_34 k29 v0 v1 v2 v3 h) st) xs) (kT := fun xs h st => app [2, 1, 1, 0, 0] (fun v0 v1 v2 => apS [] (fX11_seekSets_47 v0 v1 v2 h) st) xs) (kR := kRI)
    (fun xs h st q => jm [2, 1, 1, 1, 0] _ (fun v0 v1 v2 v3 q => apS_ok [] _ (fun st => Ev (d + 5) none mX11_seekSets (0, 0) 34 [.ref v0, .int v1, .int v2, .int v3, .null] st h (QI z)) st (fun q => tX11_seekSets_34 hk29 v0 v1 v2 v3 h q) q) q)
    (fun xs h st q => jm [2, 1, 1, 0, 0] _ (fun v0 v1 v2 q => apS_ok [] _ (fun st => Ev (d + 5) none mX11_seekSets (0, 0) 47 [.ref v0, .int v1, .int v2, .null, .null] st h (QI z)) st (fun q => tX11_seekSets_47 v0 v1 v2 h q) q) q)
    kRI_ok (Or.inr rfl) (by decide +kernel) (by decide +kernel) hf
def lX11_seekSets_29 : Nat → Nat → Int32 → Int32 → Int32 → aH → Option (Int32 × aH)
  | 0, _, _, _, _, _ => none
  | n + 1, v0, v1, v2, v3, h => fX11_seekSets_29 (lX11_seekSets_29 n) v0 v1 v2 v3 h
theorem uX11_seekSets_29 {d : Nat} {z : Int32 × aH} : ∀ (n : Nat) (v0 : Nat) (v1 : Int32) (v2 : Int32) (v3 : Int32) (h : aH), lX11_seekSets_29 n v0 v1 v2 v3 h = some z → Ev (d + 5) none mX11_seekSets (0, 0) 29 [.ref v0, .int v1, .int v2, .int v3, .null] [] h (QI z) := by
  intro n
  induction n with
  | zero => intro _ _ _ _ _ q; exact nos (show (none : Option (Int32 × aH)) = some z from q)
  | succ n ih => intro v0 v1 v2 v3 h q; exact tX11_seekSets_29 ih v0 v1 v2 v3 h q
def wX11_seekSets_0 : List En := [(.iconst (-1), 0, 0, 0), (.istore_n 2, 0, 0, 0), (.aload_n 0, 0, 0, 0), (.iconst 0, 0, 0, 0), (.putfield 357, 212, 11, 37), (.aload_n 0, 0, 0, 0), (.iconst 0, 0, 0, 0), (.putfield 360, 213, 11, 38), (.aload_n 0, 0, 0, 0), (.iconst 1, 0, 0, 0), (.aload_n 0, 0, 0, 0), (.getfield 20, 190, 11, 15), (.bipush 6, 0, 0, 0), (.iaload, 0, 0, 0), (.ishl, 0, 0, 0), (.iconst 1, 0, 0, 0), (.isub, 0, 0, 0), (.putfield 363, 214, 11, 39), (.iconst 0, 0, 0, 0), (.istore_n 3, 0, 0, 0)]
def fX11_seekSets_0 (v0 : Nat) (v1 : Int32) (h : aH) : Option (Int32 × aH) :=
  (pWV h 11 v0 37 (.int (kI 0))).bind fun h1 =>
  (pWV h1 11 v0 38 (.int (kI 0))).bind fun h2 =>
  (gFR h2 11 v0 15).bind fun t3 =>
  (aRI (h2[t3]?) (kB 6)).bind fun t4 =>
  (pWV h2 11 v0 39 (.int (((kI 1) <<< (t4 &&& 31)) - (kI 1)))).bind fun h5 =>
  lX11_seekSets_29 FU v0 v1 (kI (-1)) (kI 0) h5
theorem tX11_seekSets_0 {d : Nat} {z : Int32 × aH} (v0 : Nat) (v1 : Int32) (h : aH) (hf : fX11_seekSets_0 v0 v1 h = some z) : Ev (d + 5) none mX11_seekSets (0, 0) 0 [.ref v0, .int v1, .null, .null, .null] [] h (QI z) := 
  go_ok (X := none) (blk := wX11_seekSets_0) (np := 29) (tt := 0) (kN := fun xs h st => app [2, 1, 1, 1, 0] (fun v0 v1 v2 v3 => apS [] (lX11_seekSets_29 FU v0 v1 v2 v3 h) st) xs) (kT := fun _ _ _ => none) (kR := kRI)
    (fun xs h st q => jm [2, 1, 1, 1, 0] _ (fun v0 v1 v2 v3 q => apS_ok [] _ (fun st => Ev (d + 5) none mX11_seekSets (0, 0) 29 [.ref v0, .int v1, .int v2, .int v3, .null] st h (QI z)) st (fun q => uX11_seekSets_29 FU v0 v1 v2 v3 h q) q) q)
    (fun _ _ _ q => nos q)
    kRI_ok (Or.inr rfl) (by decide +kernel) (by decide +kernel) hf
def gX11_seekSets (v0 : Nat) (v1 : Int32) (h : aH) : Option (Int32 × aH) := fX11_seekSets_0 v0 v1 h
theorem zX11_seekSets {d : Nat} {z : Int32 × aH} {v0 : Nat} {v1 : Int32} {h : aH} (q : gX11_seekSets v0 v1 h = some z) : CT (d + 5) mX11_seekSets (0, 0) [.ref v0, .int v1] h (QI z) :=
  ct_ev (by decide +kernel) (Nat.le_of_ble_eq_true rfl) QI_r (jm [2, 1, 0, 0, 0] (fun v0 v1 => fX11_seekSets_0 v0 v1 h) (fun v0 v1 q => tX11_seekSets_0 v0 v1 h q) q)
def wX11_fits_22 : List En := [(.pop, 0, 0, 0), (.aload_n 0, 0, 0, 0), (.getfield 357, 212, 11, 37), (.ireturn, 0, 0, 0)]
def fX11_fits_22 (v0 : Nat) (s0 : Int32) (h : aH) : Option (Int32 × aH) :=
  (gFI h 11 v0 37).bind fun t1 =>
  some (t1, h)
theorem tX11_fits_22 {d : Nat} {z : Int32 × aH} (v0 : Nat) (s0 : Int32) (h : aH) (hf : fX11_fits_22 v0 s0 h = some z) : Ev (d + 6) none mX11_fits (0, 0) 22 [.ref v0] [.int s0] h (QI z) := 
  go_ok (X := none) (blk := wX11_fits_22) (np := 28) (tt := 0) (kN := fun _ _ _ => none) (kT := fun _ _ _ => none) (kR := kRI)
    (fun _ _ _ q => nos q)
    (fun _ _ _ q => nos q)
    kRI_ok (Or.inr rfl) (by decide +kernel) (by decide +kernel) hf
theorem kqX11_fits_19 : okC mX11_fits 19 (.invokevirtual 369) 270 287 0 1 = true := by decide +kernel
def fX11_fits_19 (v0 : Nat) (s0 : Int32) (s1 : Nat) (h : aH) : Option (Int32 × aH) :=
  (isO h 11 s1).bind fun _ =>
  (gX11_seekSets s1 s0 h).bind fun r =>
  fX11_fits_22 v0 r.1 r.2
theorem tX11_fits_19 {d : Nat} {z : Int32 × aH} (v0 : Nat) (s0 : Int32) (s1 : Nat) (h : aH) (hf : fX11_fits_19 v0 s0 s1 h = some z) : Ev (d + 6) none mX11_fits (0, 0) 19 [.ref v0] [.int s0, .ref s1] h (QI z) := by
  obtain ⟨_, h1, hf⟩ := bnd hf
  obtain ⟨fs, ho⟩ := isO_ok h1
  obtain ⟨r, h2, hf⟩ := bnd hf
  refine ev_V kqX11_fits_19 jX11_seekSets (zX11_seekSets (d := d + 0) h2) ho rfl rfl (Nat.le_of_ble_eq_true rfl) rfl (as := [.int s0]) (rest := []) rfl (Nat.le_of_ble_eq_true rfl) (fun _ _ hq => ?_)
  obtain ⟨rfl, rfl⟩ := hq
  exact jm [2] (fun v0 => fX11_fits_22 v0 r.1 r.2) (fun v0 q => tX11_fits_22 v0 r.1 r.2 q) hf
def wX11_fits_17 : List En := [(.aload_n 0, 0, 0, 0), (.iconst (-1), 0, 0, 0)]
def fX11_fits_17 (v0 : Nat) (h : aH) : Option (Int32 × aH) :=
  fX11_fits_19 v0 (kI (-1)) v0 h
theorem tX11_fits_17 {d : Nat} {z : Int32 × aH} (v0 : Nat) (h : aH) (hf : fX11_fits_17 v0 h = some z) : Ev (d + 6) none mX11_fits (0, 0) 17 [.ref v0] [] h (QI z) := 
  go_ok (X := none) (blk := wX11_fits_17) (np := 19) (tt := 0) (kN := fun xs h st => app [2] (fun v0 => apS [1, 2] (fun s0 s1 => fX11_fits_19 v0 s0 s1 h) st) xs) (kT := fun _ _ _ => none) (kR := kRI)
    (fun xs h st q => jm [2] _ (fun v0 q => apS_ok [1, 2] _ (fun st => Ev (d + 6) none mX11_fits (0, 0) 19 [.ref v0] st h (QI z)) st (fun s0 s1 q => tX11_fits_19 v0 s0 s1 h q) q) q)
    (fun _ _ _ q => nos q)
    kRI_ok (Or.inr rfl) (by decide +kernel) (by decide +kernel) hf
def wX11_fits_16 : List En := [(.ireturn, 0, 0, 0)]
def fX11_fits_16 (s0 : Int32) (h : aH) : Option (Int32 × aH) :=
  some (s0, h)
theorem tX11_fits_16 {d : Nat} {z : Int32 × aH} (s0 : Int32) (h : aH) (hf : fX11_fits_16 s0 h = some z) : Ev (d + 6) none mX11_fits (0, 0) 16 [.null] [.int s0] h (QI z) := 
  go_ok (X := none) (blk := wX11_fits_16) (np := 17) (tt := 0) (kN := fun _ _ _ => none) (kT := fun _ _ _ => none) (kR := kRI)
    (fun _ _ _ q => nos q)
    (fun _ _ _ q => nos q)
    kRI_ok (Or.inr rfl) (by decide +kernel) (by decide +kernel) hf
theorem kqX11_fits_13 : okC mX11_fits 13 (.invokevirtual 164) 183 198 0 1 = true := by decide +kernel
def fX11_fits_13 (s0 : Int32) (s1 : Nat) (h : aH) : Option (Int32 × aH) :=
  (isO h 11 s1).bind fun _ =>
  (gX11_no s1 s0 h).bind fun r =>
  fX11_fits_16 r.1 r.2
theorem tX11_fits_13 {d : Nat} {z : Int32 × aH} (s0 : Int32) (s1 : Nat) (h : aH) (hf : fX11_fits_13 s0 s1 h = some z) : Ev (d + 6) none mX11_fits (0, 0) 13 [.null] [.int s0, .ref s1] h (QI z) := by
  obtain ⟨_, h1, hf⟩ := bnd hf
  obtain ⟨fs, ho⟩ := isO_ok h1
  obtain ⟨r, h2, hf⟩ := bnd hf
  refine ev_V kqX11_fits_13 jX11_no (zX11_no (d := d + 5) h2) ho rfl rfl (Nat.le_of_ble_eq_true rfl) rfl (as := [.int s0]) (rest := []) rfl (Nat.le_of_ble_eq_true rfl) (fun _ _ hq => ?_)
  obtain ⟨rfl, rfl⟩ := hq
  exact jm [0] (fX11_fits_16 r.1 r.2) (fun q => tX11_fits_16 r.1 r.2 q) hf
def wX11_fits_11 : List En := [(.aload_n 0, 0, 0, 0), (.iconst 1, 0, 0, 0)]
def fX11_fits_11 (v0 : Nat) (h : aH) : Option (Int32 × aH) :=
  fX11_fits_13 (kI 1) v0 h
theorem tX11_fits_11 {d : Nat} {z : Int32 × aH} (v0 : Nat) (h : aH) (hf : fX11_fits_11 v0 h = some z) : Ev (d + 6) none mX11_fits (0, 0) 11 [.ref v0] [] h (QI z) := 
  go_ok (X := none) (blk := wX11_fits_11) (np := 13) (tt := 0) (kN := fun xs h st => app [0] (apS [1, 2] (fun s0 s1 => fX11_fits_13 s0 s1 h) st) xs) (kT := fun _ _ _ => none) (kR := kRI)
    (fun xs h st q => jm [0] _ (fun q => apS_ok [1, 2] _ (fun st => Ev (d + 6) none mX11_fits (0, 0) 13 [.null] st h (QI z)) st (fun s0 s1 q => tX11_fits_13 s0 s1 h q) q) q)
    (fun _ _ _ q => nos q)
    kRI_ok (Or.inr rfl) (by decide +kernel) (by decide +kernel) hf
def wX11_fits_4 : List En := [(.aload_n 0, 0, 0, 0), (.getfield 174, 189, 11, 14), (.ifCond .ne 9, 17, 0, 0)]
def fX11_fits_4 (v0 : Nat) (h : aH) : Option (Int32 × aH) :=
  (gFI h 11 v0 14).bind fun t1 =>
  if t1 = 0 then fX11_fits_11 v0 h else fX11_fits_17 v0 h
theorem tX11_fits_4 {d : Nat} {z : Int32 × aH} (v0 : Nat) (h : aH) (hf : fX11_fits_4 v0 h = some z) : Ev (d + 6) none mX11_fits (0, 0) 4 [.ref v0] [] h (QI z) := 
  go_ok (X := none) (blk := wX11_fits_4) (np := 11) (tt := 17) (kN := fun xs h st => app [2] (fun v0 => apS [] (fX11_fits_11 v0 h) st) xs) (kT := fun xs h st => app [2] (fun v0 => apS [] (fX11_fits_17 v0 h) st) xs) (kR := kRI)
    (fun xs h st q => jm [2] _ (fun v0 q => apS_ok [] _ (fun st => Ev (d + 6) none mX11_fits (0, 0) 11 [.ref v0] st h (QI z)) st (fun q => tX11_fits_11 v0 h q) q) q)
    (fun xs h st q => jm [2] _ (fun v0 q => apS_ok [] _ (fun st => Ev (d + 6) none mX11_fits (0, 0) 17 [.ref v0] st h (QI z)) st (fun q => tX11_fits_17 v0 h q) q) q)
    kRI_ok (Or.inr rfl) (by decide +kernel) (by decide +kernel) hf
theorem kqX11_fits_1 : okC mX11_fits 1 (.invokevirtual 161) 181 196 0 0 = true := by decide +kernel
def fX11_fits_1 (v0 : Nat) (s0 : Nat) (h : aH) : Option (Int32 × aH) :=
  (isO h 11 s0).bind fun _ =>
  (gX11_anew s0 h).bind fun r =>
  fX11_fits_4 v0 r
theorem tX11_fits_1 {d : Nat} {z : Int32 × aH} (v0 : Nat) (s0 : Nat) (h : aH) (hf : fX11_fits_1 v0 s0 h = some z) : Ev (d + 6) none mX11_fits (0, 0) 1 [.ref v0] [.ref s0] h (QI z) := by
  obtain ⟨_, h1, hf⟩ := bnd hf
  obtain ⟨fs, ho⟩ := isO_ok h1
  obtain ⟨r, h2, hf⟩ := bnd hf
  refine ev_V kqX11_fits_1 jX11_anew (zX11_anew (d := d + 5) h2) ho rfl rfl (Nat.le_of_ble_eq_true rfl) rfl (as := []) (rest := []) rfl (Nat.le_of_ble_eq_true rfl) (fun _ _ hq => ?_)
  obtain ⟨rfl, hh⟩ := hq
  rw [hh]
  exact jm [2] (fun v0 => fX11_fits_4 v0 r) (fun v0 q => tX11_fits_4 v0 r q) hf
def wX11_fits_0 : List En := [(.aload_n 0, 0, 0, 0)]
def fX11_fits_0 (v0 : Nat) (h : aH) : Option (Int32 × aH) :=
  fX11_fits_1 v0 v0 h
theorem tX11_fits_0 {d : Nat} {z : Int32 × aH} (v0 : Nat) (h : aH) (hf : fX11_fits_0 v0 h = some z) : Ev (d + 6) none mX11_fits (0, 0) 0 [.ref v0] [] h (QI z) := 
  go_ok (X := none) (blk := wX11_fits_0) (np := 1) (tt := 0) (kN := fun xs h st => app [2] (fun v0 => apS [2] (fun s0 => fX11_fits_1 v0 s0 h) st) xs) (kT := fun _ _ _ => none) (kR := kRI)
    (fun xs h st q => jm [2] _ (fun v0 q => apS_ok [2] _ (fun st => Ev (d + 6) none mX11_fits (0, 0) 1 [.ref v0] st h (QI z)) st (fun s0 q => tX11_fits_1 v0 s0 h q) q) q)
    (fun _ _ _ q => nos q)
    kRI_ok (Or.inr rfl) (by decide +kernel) (by decide +kernel) hf
def gX11_fits (v0 : Nat) (h : aH) : Option (Int32 × aH) := fX11_fits_0 v0 h
theorem zX11_fits {d : Nat} {z : Int32 × aH} {v0 : Nat} {h : aH} (q : gX11_fits v0 h = some z) : CT (d + 6) mX11_fits (0, 0) [.ref v0] h (QI z) :=
  ct_ev (by decide +kernel) (Nat.le_of_ble_eq_true rfl) QI_r (jm [2] (fun v0 => fX11_fits_0 v0 h) (fun v0 q => tX11_fits_0 v0 h q) q)
def wX11_fitAt_20 : List En := [(.ireturn, 0, 0, 0)]
def fX11_fitAt_20 (s0 : Int32) (h : aH) : Option (Int32 × aH) :=
  some (s0, h)
theorem tX11_fitAt_20 {d : Nat} {z : Int32 × aH} (s0 : Int32) (h : aH) (hf : fX11_fitAt_20 s0 h = some z) : Ev (d + 6) none mX11_fitAt (0, 0) 20 [.null, .null, .null] [.int s0] h (QI z) := 
  go_ok (X := none) (blk := wX11_fitAt_20) (np := 21) (tt := 0) (kN := fun _ _ _ => none) (kT := fun _ _ _ => none) (kR := kRI)
    (fun _ _ _ q => nos q)
    (fun _ _ _ q => nos q)
    kRI_ok (Or.inr rfl) (by decide +kernel) (by decide +kernel) hf
theorem kqX11_fitAt_17 : okC mX11_fitAt 17 (.invokevirtual 164) 183 198 0 1 = true := by decide +kernel
def fX11_fitAt_17 (s0 : Int32) (s1 : Nat) (h : aH) : Option (Int32 × aH) :=
  (isO h 11 s1).bind fun _ =>
  (gX11_no s1 s0 h).bind fun r =>
  fX11_fitAt_20 r.1 r.2
theorem tX11_fitAt_17 {d : Nat} {z : Int32 × aH} (s0 : Int32) (s1 : Nat) (h : aH) (hf : fX11_fitAt_17 s0 s1 h = some z) : Ev (d + 6) none mX11_fitAt (0, 0) 17 [.null, .null, .null] [.int s0, .ref s1] h (QI z) := by
  obtain ⟨_, h1, hf⟩ := bnd hf
  obtain ⟨fs, ho⟩ := isO_ok h1
  obtain ⟨r, h2, hf⟩ := bnd hf
  refine ev_V kqX11_fitAt_17 jX11_no (zX11_no (d := d + 5) h2) ho rfl rfl (Nat.le_of_ble_eq_true rfl) rfl (as := [.int s0]) (rest := []) rfl (Nat.le_of_ble_eq_true rfl) (fun _ _ hq => ?_)
  obtain ⟨rfl, rfl⟩ := hq
  exact jm [0, 0, 0] (fX11_fitAt_20 r.1 r.2) (fun q => tX11_fitAt_20 r.1 r.2 q) hf
def wX11_fitAt_15 : List En := [(.aload_n 0, 0, 0, 0), (.iconst 1, 0, 0, 0)]
def fX11_fitAt_15 (v0 : Nat) (h : aH) : Option (Int32 × aH) :=
  fX11_fitAt_17 (kI 1) v0 h
theorem tX11_fitAt_15 {d : Nat} {z : Int32 × aH} (v0 : Nat) (h : aH) (hf : fX11_fitAt_15 v0 h = some z) : Ev (d + 6) none mX11_fitAt (0, 0) 15 [.ref v0, .null, .null] [] h (QI z) := 
  go_ok (X := none) (blk := wX11_fitAt_15) (np := 17) (tt := 0) (kN := fun xs h st => app [0, 0, 0] (apS [1, 2] (fun s0 s1 => fX11_fitAt_17 s0 s1 h) st) xs) (kT := fun _ _ _ => none) (kR := kRI)
    (fun xs h st q => jm [0, 0, 0] _ (fun q => apS_ok [1, 2] _ (fun st => Ev (d + 6) none mX11_fitAt (0, 0) 17 [.null, .null, .null] st h (QI z)) st (fun s0 s1 q => tX11_fitAt_17 s0 s1 h q) q) q)
    (fun _ _ _ q => nos q)
    kRI_ok (Or.inr rfl) (by decide +kernel) (by decide +kernel) hf
def wX11_fitAt_40 : List En := [(.ireturn, 0, 0, 0)]
def fX11_fitAt_40 (s0 : Int32) (h : aH) : Option (Int32 × aH) :=
  some (s0, h)
theorem tX11_fitAt_40 {d : Nat} {z : Int32 × aH} (s0 : Int32) (h : aH) (hf : fX11_fitAt_40 s0 h = some z) : Ev (d + 6) none mX11_fitAt (0, 0) 40 [.null, .null, .null] [.int s0] h (QI z) := 
  go_ok (X := none) (blk := wX11_fitAt_40) (np := 41) (tt := 0) (kN := fun _ _ _ => none) (kT := fun _ _ _ => none) (kR := kRI)
    (fun _ _ _ q => nos q)
    (fun _ _ _ q => nos q)
    kRI_ok (Or.inr rfl) (by decide +kernel) (by decide +kernel) hf
def wX11_fitAt_39 : List En := [(.iload_n 2, 0, 0, 0)]
def fX11_fitAt_39 (v2 : Int32) (h : aH) : Option (Int32 × aH) :=
  fX11_fitAt_40 v2 h
theorem tX11_fitAt_39 {d : Nat} {z : Int32 × aH} (v2 : Int32) (h : aH) (hf : fX11_fitAt_39 v2 h = some z) : Ev (d + 6) none mX11_fitAt (0, 0) 39 [.null, .null, .int v2] [] h (QI z) := 
  go_ok (X := none) (blk := wX11_fitAt_39) (np := 40) (tt := 0) (kN := fun xs h st => app [0, 0, 0] (apS [1] (fun s0 => fX11_fitAt_40 s0 h) st) xs) (kT := fun _ _ _ => none) (kR := kRI)
    (fun xs h st q => jm [0, 0, 0] _ (fun q => apS_ok [1] _ (fun st => Ev (d + 6) none mX11_fitAt (0, 0) 40 [.null, .null, .null] st h (QI z)) st (fun s0 q => tX11_fitAt_40 s0 h q) q) q)
    (fun _ _ _ q => nos q)
    kRI_ok (Or.inr rfl) (by decide +kernel) (by decide +kernel) hf
def wX11_fitAt_36 : List En := [(.goto 4, 40, 0, 0)]
def fX11_fitAt_36 (s0 : Int32) (h : aH) : Option (Int32 × aH) :=
  fX11_fitAt_40 s0 h
theorem tX11_fitAt_36 {d : Nat} {z : Int32 × aH} (s0 : Int32) (h : aH) (hf : fX11_fitAt_36 s0 h = some z) : Ev (d + 6) none mX11_fitAt (0, 0) 36 [.null, .null, .null] [.int s0] h (QI z) := 
  go_ok (X := none) (blk := wX11_fitAt_36) (np := 39) (tt := 40) (kN := fun _ _ _ => none) (kT := fun xs h st => app [0, 0, 0] (apS [1] (fun s0 => fX11_fitAt_40 s0 h) st) xs) (kR := kRI)
    (fun _ _ _ q => nos q)
    (fun xs h st q => jm [0, 0, 0] _ (fun q => apS_ok [1] _ (fun st => Ev (d + 6) none mX11_fitAt (0, 0) 40 [.null, .null, .null] st h (QI z)) st (fun s0 q => tX11_fitAt_40 s0 h q) q) q)
    kRI_ok (Or.inr rfl) (by decide +kernel) (by decide +kernel) hf
theorem kqX11_fitAt_33 : okC mX11_fitAt 33 (.invokevirtual 164) 183 198 0 1 = true := by decide +kernel
def fX11_fitAt_33 (s0 : Int32) (s1 : Nat) (h : aH) : Option (Int32 × aH) :=
  (isO h 11 s1).bind fun _ =>
  (gX11_no s1 s0 h).bind fun r =>
  fX11_fitAt_36 r.1 r.2
theorem tX11_fitAt_33 {d : Nat} {z : Int32 × aH} (s0 : Int32) (s1 : Nat) (h : aH) (hf : fX11_fitAt_33 s0 s1 h = some z) : Ev (d + 6) none mX11_fitAt (0, 0) 33 [.null, .null, .null] [.int s0, .ref s1] h (QI z) := by
  obtain ⟨_, h1, hf⟩ := bnd hf
  obtain ⟨fs, ho⟩ := isO_ok h1
  obtain ⟨r, h2, hf⟩ := bnd hf
  refine ev_V kqX11_fitAt_33 jX11_no (zX11_no (d := d + 5) h2) ho rfl rfl (Nat.le_of_ble_eq_true rfl) rfl (as := [.int s0]) (rest := []) rfl (Nat.le_of_ble_eq_true rfl) (fun _ _ hq => ?_)
  obtain ⟨rfl, rfl⟩ := hq
  exact jm [0, 0, 0] (fX11_fitAt_36 r.1 r.2) (fun q => tX11_fitAt_36 r.1 r.2 q) hf
def wX11_fitAt_31 : List En := [(.aload_n 0, 0, 0, 0), (.iconst 1, 0, 0, 0)]
def fX11_fitAt_31 (v0 : Nat) (h : aH) : Option (Int32 × aH) :=
  fX11_fitAt_33 (kI 1) v0 h
theorem tX11_fitAt_31 {d : Nat} {z : Int32 × aH} (v0 : Nat) (h : aH) (hf : fX11_fitAt_31 v0 h = some z) : Ev (d + 6) none mX11_fitAt (0, 0) 31 [.ref v0, .null, .null] [] h (QI z) := 
  go_ok (X := none) (blk := wX11_fitAt_31) (np := 33) (tt := 0) (kN := fun xs h st => app [0, 0, 0] (apS [1, 2] (fun s0 s1 => fX11_fitAt_33 s0 s1 h) st) xs) (kT := fun _ _ _ => none) (kR := kRI)
    (fun xs h st q => jm [0, 0, 0] _ (fun q => apS_ok [1, 2] _ (fun st => Ev (d + 6) none mX11_fitAt (0, 0) 33 [.null, .null, .null] st h (QI z)) st (fun s0 s1 q => tX11_fitAt_33 s0 s1 h q) q) q)
    (fun _ _ _ q => nos q)
    kRI_ok (Or.inr rfl) (by decide +kernel) (by decide +kernel) hf
def wX11_fitAt_26 : List En := [(.istore_n 2, 0, 0, 0), (.iload_n 2, 0, 0, 0), (.ifCond .ge 11, 39, 0, 0)]
def fX11_fitAt_26 (v0 : Nat) (s0 : Int32) (h : aH) : Option (Int32 × aH) :=
  if s0 < 0 then fX11_fitAt_31 v0 h else fX11_fitAt_39 s0 h
theorem tX11_fitAt_26 {d : Nat} {z : Int32 × aH} (v0 : Nat) (s0 : Int32) (h : aH) (hf : fX11_fitAt_26 v0 s0 h = some z) : Ev (d + 6) none mX11_fitAt (0, 0) 26 [.ref v0, .null, .null] [.int s0] h (QI z) := 
  go_ok (X := none) (blk := wX11_fitAt_26) (np := 31) (tt := 39) (kN := fun xs h st => app [2, 0, 0] (fun v0 => apS [] (fX11_fitAt_31 v0 h) st) xs) (kT := fun xs h st => app [0, 0, 1] (fun v2 => apS [] (fX11_fitAt_39 v2 h) st) xs) (kR := kRI)
    (fun xs h st q => jm [2, 0, 0] _ (fun v0 q => apS_ok [] _ (fun st => Ev (d + 6) none mX11_fitAt (0, 0) 31 [.ref v0, .null, .null] st h (QI z)) st (fun q => tX11_fitAt_31 v0 h q) q) q)
    (fun xs h st q => jm [0, 0, 1] _ (fun v2 q => apS_ok [] _ (fun st => Ev (d + 6) none mX11_fitAt (0, 0) 39 [.null, .null, .int v2] st h (QI z)) st (fun q => tX11_fitAt_39 v2 h q) q) q)
    kRI_ok (Or.inr rfl) (by decide +kernel) (by decide +kernel) hf
theorem kqX11_fitAt_23 : okC mX11_fitAt 23 (.invokevirtual 369) 270 287 0 1 = true := by decide +kernel
def fX11_fitAt_23 (v0 : Nat) (s0 : Int32) (s1 : Nat) (h : aH) : Option (Int32 × aH) :=
  (isO h 11 s1).bind fun _ =>
  (gX11_seekSets s1 s0 h).bind fun r =>
  fX11_fitAt_26 v0 r.1 r.2
theorem tX11_fitAt_23 {d : Nat} {z : Int32 × aH} (v0 : Nat) (s0 : Int32) (s1 : Nat) (h : aH) (hf : fX11_fitAt_23 v0 s0 s1 h = some z) : Ev (d + 6) none mX11_fitAt (0, 0) 23 [.ref v0, .null, .null] [.int s0, .ref s1] h (QI z) := by
  obtain ⟨_, h1, hf⟩ := bnd hf
  obtain ⟨fs, ho⟩ := isO_ok h1
  obtain ⟨r, h2, hf⟩ := bnd hf
  refine ev_V kqX11_fitAt_23 jX11_seekSets (zX11_seekSets (d := d + 0) h2) ho rfl rfl (Nat.le_of_ble_eq_true rfl) rfl (as := [.int s0]) (rest := []) rfl (Nat.le_of_ble_eq_true rfl) (fun _ _ hq => ?_)
  obtain ⟨rfl, rfl⟩ := hq
  exact jm [2, 0, 0] (fun v0 => fX11_fitAt_26 v0 r.1 r.2) (fun v0 q => tX11_fitAt_26 v0 r.1 r.2 q) hf
def wX11_fitAt_21 : List En := [(.aload_n 0, 0, 0, 0), (.iload_n 1, 0, 0, 0)]
def fX11_fitAt_21 (v0 : Nat) (v1 : Int32) (h : aH) : Option (Int32 × aH) :=
  fX11_fitAt_23 v0 v1 v0 h
theorem tX11_fitAt_21 {d : Nat} {z : Int32 × aH} (v0 : Nat) (v1 : Int32) (h : aH) (hf : fX11_fitAt_21 v0 v1 h = some z) : Ev (d + 6) none mX11_fitAt (0, 0) 21 [.ref v0, .int v1, .null] [] h (QI z) := 
  go_ok (X := none) (blk := wX11_fitAt_21) (np := 23) (tt := 0) (kN := fun xs h st => app [2, 0, 0] (fun v0 => apS [1, 2] (fun s0 s1 => fX11_fitAt_23 v0 s0 s1 h) st) xs) (kT := fun _ _ _ => none) (kR := kRI)
    (fun xs h st q => jm [2, 0, 0] _ (fun v0 q => apS_ok [1, 2] _ (fun st => Ev (d + 6) none mX11_fitAt (0, 0) 23 [.ref v0, .null, .null] st h (QI z)) st (fun s0 s1 q => tX11_fitAt_23 v0 s0 s1 h q) q) q)
    (fun _ _ _ q => nos q)
    kRI_ok (Or.inr rfl) (by decide +kernel) (by decide +kernel) hf
def wX11_fitAt_11 : List En := [(.iload_n 1, 0, 0, 0), (.ifCond .ge 9, 21, 0, 0)]
def fX11_fitAt_11 (v0 : Nat) (v1 : Int32) (h : aH) : Option (Int32 × aH) :=
  if v1 < 0 then fX11_fitAt_15 v0 h else fX11_fitAt_21 v0 v1 h
theorem tX11_fitAt_11 {d : Nat} {z : Int32 × aH} (v0 : Nat) (v1 : Int32) (h : aH) (hf : fX11_fitAt_11 v0 v1 h = some z) : Ev (d + 6) none mX11_fitAt (0, 0) 11 [.ref v0, .int v1, .null] [] h (QI z) := 
  go_ok (X := none) (blk := wX11_fitAt_11) (np := 15) (tt := 21) (kN := fun xs h st => app [2, 0, 0] (fun v0 => apS [] (fX11_fitAt_15 v0 h) st) xs) (kT := fun xs h st => app [2, 1, 0] (fun v0 v1 => apS [] (fX11_fitAt_21 v0 v1 h) st) xs) (kR := kRI)
    (fun xs h st q => jm [2, 0, 0] _ (fun v0 q => apS_ok [] _ (fun st => Ev (d + 6) none mX11_fitAt (0, 0) 15 [.ref v0, .null, .null] st h (QI z)) st (fun q => tX11_fitAt_15 v0 h q) q) q)
    (fun xs h st q => jm [2, 1, 0] _ (fun v0 v1 q => apS_ok [] _ (fun st => Ev (d + 6) none mX11_fitAt (0, 0) 21 [.ref v0, .int v1, .null] st h (QI z)) st (fun q => tX11_fitAt_21 v0 v1 h q) q) q)
    kRI_ok (Or.inr rfl) (by decide +kernel) (by decide +kernel) hf
def wX11_fitAt_4 : List En := [(.aload_n 0, 0, 0, 0), (.getfield 174, 189, 11, 14), (.ifCond .eq 7, 15, 0, 0)]
def fX11_fitAt_4 (v0 : Nat) (v1 : Int32) (h : aH) : Option (Int32 × aH) :=
  (gFI h 11 v0 14).bind fun t1 =>
  if t1 = 0 then fX11_fitAt_15 v0 h else fX11_fitAt_11 v0 v1 h
theorem tX11_fitAt_4 {d : Nat} {z : Int32 × aH} (v0 : Nat) (v1 : Int32) (h : aH) (hf : fX11_fitAt_4 v0 v1 h = some z) : Ev (d + 6) none mX11_fitAt (0, 0) 4 [.ref v0, .int v1, .null] [] h (QI z) := 
  go_ok (X := none) (blk := wX11_fitAt_4) (np := 11) (tt := 15) (kN := fun xs h st => app [2, 1, 0] (fun v0 v1 => apS [] (fX11_fitAt_11 v0 v1 h) st) xs) (kT := fun xs h st => app [2, 0, 0] (fun v0 => apS [] (fX11_fitAt_15 v0 h) st) xs) (kR := kRI)
    (fun xs h st q => jm [2, 1, 0] _ (fun v0 v1 q => apS_ok [] _ (fun st => Ev (d + 6) none mX11_fitAt (0, 0) 11 [.ref v0, .int v1, .null] st h (QI z)) st (fun q => tX11_fitAt_11 v0 v1 h q) q) q)
    (fun xs h st q => jm [2, 0, 0] _ (fun v0 q => apS_ok [] _ (fun st => Ev (d + 6) none mX11_fitAt (0, 0) 15 [.ref v0, .null, .null] st h (QI z)) st (fun q => tX11_fitAt_15 v0 h q) q) q)
    kRI_ok (Or.inr rfl) (by decide +kernel) (by decide +kernel) hf
theorem kqX11_fitAt_1 : okC mX11_fitAt 1 (.invokevirtual 161) 181 196 0 0 = true := by decide +kernel
def fX11_fitAt_1 (v0 : Nat) (v1 : Int32) (s0 : Nat) (h : aH) : Option (Int32 × aH) :=
  (isO h 11 s0).bind fun _ =>
  (gX11_anew s0 h).bind fun r =>
  fX11_fitAt_4 v0 v1 r
theorem tX11_fitAt_1 {d : Nat} {z : Int32 × aH} (v0 : Nat) (v1 : Int32) (s0 : Nat) (h : aH) (hf : fX11_fitAt_1 v0 v1 s0 h = some z) : Ev (d + 6) none mX11_fitAt (0, 0) 1 [.ref v0, .int v1, .null] [.ref s0] h (QI z) := by
  obtain ⟨_, h1, hf⟩ := bnd hf
  obtain ⟨fs, ho⟩ := isO_ok h1
  obtain ⟨r, h2, hf⟩ := bnd hf
  refine ev_V kqX11_fitAt_1 jX11_anew (zX11_anew (d := d + 5) h2) ho rfl rfl (Nat.le_of_ble_eq_true rfl) rfl (as := []) (rest := []) rfl (Nat.le_of_ble_eq_true rfl) (fun _ _ hq => ?_)
  obtain ⟨rfl, hh⟩ := hq
  rw [hh]
  exact jm [2, 1, 0] (fun v0 v1 => fX11_fitAt_4 v0 v1 r) (fun v0 v1 q => tX11_fitAt_4 v0 v1 r q) hf
def wX11_fitAt_0 : List En := [(.aload_n 0, 0, 0, 0)]
def fX11_fitAt_0 (v0 : Nat) (v1 : Int32) (h : aH) : Option (Int32 × aH) :=
  fX11_fitAt_1 v0 v1 v0 h
theorem tX11_fitAt_0 {d : Nat} {z : Int32 × aH} (v0 : Nat) (v1 : Int32) (h : aH) (hf : fX11_fitAt_0 v0 v1 h = some z) : Ev (d + 6) none mX11_fitAt (0, 0) 0 [.ref v0, .int v1, .null] [] h (QI z) := 
  go_ok (X := none) (blk := wX11_fitAt_0) (np := 1) (tt := 0) (kN := fun xs h st => app [2, 1, 0] (fun v0 v1 => apS [2] (fun s0 => fX11_fitAt_1 v0 v1 s0 h) st) xs) (kT := fun _ _ _ => none) (kR := kRI)
    (fun xs h st q => jm [2, 1, 0] _ (fun v0 v1 q => apS_ok [2] _ (fun st => Ev (d + 6) none mX11_fitAt (0, 0) 1 [.ref v0, .int v1, .null] st h (QI z)) st (fun s0 q => tX11_fitAt_1 v0 v1 s0 h q) q) q)
    (fun _ _ _ q => nos q)
    kRI_ok (Or.inr rfl) (by decide +kernel) (by decide +kernel) hf
def gX11_fitAt (v0 : Nat) (v1 : Int32) (h : aH) : Option (Int32 × aH) := fX11_fitAt_0 v0 v1 h
theorem zX11_fitAt {d : Nat} {z : Int32 × aH} {v0 : Nat} {v1 : Int32} {h : aH} (q : gX11_fitAt v0 v1 h = some z) : CT (d + 6) mX11_fitAt (0, 0) [.ref v0, .int v1] h (QI z) :=
  ct_ev (by decide +kernel) (Nat.le_of_ble_eq_true rfl) QI_r (jm [2, 1, 0] (fun v0 v1 => fX11_fitAt_0 v0 v1 h) (fun v0 v1 q => tX11_fitAt_0 v0 v1 h q) q)
def wX11_could_22 : List En := [(.pop, 0, 0, 0), (.aload_n 0, 0, 0, 0), (.getfield 360, 213, 11, 38), (.ireturn, 0, 0, 0)]
def fX11_could_22 (v0 : Nat) (s0 : Int32) (h : aH) : Option (Int32 × aH) :=
  (gFI h 11 v0 38).bind fun t1 =>
  some (t1, h)
theorem tX11_could_22 {d : Nat} {z : Int32 × aH} (v0 : Nat) (s0 : Int32) (h : aH) (hf : fX11_could_22 v0 s0 h = some z) : Ev (d + 6) none mX11_could (0, 0) 22 [.ref v0] [.int s0] h (QI z) := 
  go_ok (X := none) (blk := wX11_could_22) (np := 28) (tt := 0) (kN := fun _ _ _ => none) (kT := fun _ _ _ => none) (kR := kRI)
    (fun _ _ _ q => nos q)
    (fun _ _ _ q => nos q)
    kRI_ok (Or.inr rfl) (by decide +kernel) (by decide +kernel) hf
theorem kqX11_could_19 : okC mX11_could 19 (.invokevirtual 369) 270 287 0 1 = true := by decide +kernel
def fX11_could_19 (v0 : Nat) (s0 : Int32) (s1 : Nat) (h : aH) : Option (Int32 × aH) :=
  (isO h 11 s1).bind fun _ =>
  (gX11_seekSets s1 s0 h).bind fun r =>
  fX11_could_22 v0 r.1 r.2
theorem tX11_could_19 {d : Nat} {z : Int32 × aH} (v0 : Nat) (s0 : Int32) (s1 : Nat) (h : aH) (hf : fX11_could_19 v0 s0 s1 h = some z) : Ev (d + 6) none mX11_could (0, 0) 19 [.ref v0] [.int s0, .ref s1] h (QI z) := by
  obtain ⟨_, h1, hf⟩ := bnd hf
  obtain ⟨fs, ho⟩ := isO_ok h1
  obtain ⟨r, h2, hf⟩ := bnd hf
  refine ev_V kqX11_could_19 jX11_seekSets (zX11_seekSets (d := d + 0) h2) ho rfl rfl (Nat.le_of_ble_eq_true rfl) rfl (as := [.int s0]) (rest := []) rfl (Nat.le_of_ble_eq_true rfl) (fun _ _ hq => ?_)
  obtain ⟨rfl, rfl⟩ := hq
  exact jm [2] (fun v0 => fX11_could_22 v0 r.1 r.2) (fun v0 q => tX11_could_22 v0 r.1 r.2 q) hf
def wX11_could_17 : List En := [(.aload_n 0, 0, 0, 0), (.iconst (-1), 0, 0, 0)]
def fX11_could_17 (v0 : Nat) (h : aH) : Option (Int32 × aH) :=
  fX11_could_19 v0 (kI (-1)) v0 h
theorem tX11_could_17 {d : Nat} {z : Int32 × aH} (v0 : Nat) (h : aH) (hf : fX11_could_17 v0 h = some z) : Ev (d + 6) none mX11_could (0, 0) 17 [.ref v0] [] h (QI z) := 
  go_ok (X := none) (blk := wX11_could_17) (np := 19) (tt := 0) (kN := fun xs h st => app [2] (fun v0 => apS [1, 2] (fun s0 s1 => fX11_could_19 v0 s0 s1 h) st) xs) (kT := fun _ _ _ => none) (kR := kRI)
    (fun xs h st q => jm [2] _ (fun v0 q => apS_ok [1, 2] _ (fun st => Ev (d + 6) none mX11_could (0, 0) 19 [.ref v0] st h (QI z)) st (fun s0 s1 q => tX11_could_19 v0 s0 s1 h q) q) q)
    (fun _ _ _ q => nos q)
    kRI_ok (Or.inr rfl) (by decide +kernel) (by decide +kernel) hf
def wX11_could_16 : List En := [(.ireturn, 0, 0, 0)]
def fX11_could_16 (s0 : Int32) (h : aH) : Option (Int32 × aH) :=
  some (s0, h)
theorem tX11_could_16 {d : Nat} {z : Int32 × aH} (s0 : Int32) (h : aH) (hf : fX11_could_16 s0 h = some z) : Ev (d + 6) none mX11_could (0, 0) 16 [.null] [.int s0] h (QI z) := 
  go_ok (X := none) (blk := wX11_could_16) (np := 17) (tt := 0) (kN := fun _ _ _ => none) (kT := fun _ _ _ => none) (kR := kRI)
    (fun _ _ _ q => nos q)
    (fun _ _ _ q => nos q)
    kRI_ok (Or.inr rfl) (by decide +kernel) (by decide +kernel) hf
theorem kqX11_could_13 : okC mX11_could 13 (.invokevirtual 164) 183 198 0 1 = true := by decide +kernel
def fX11_could_13 (s0 : Int32) (s1 : Nat) (h : aH) : Option (Int32 × aH) :=
  (isO h 11 s1).bind fun _ =>
  (gX11_no s1 s0 h).bind fun r =>
  fX11_could_16 r.1 r.2
theorem tX11_could_13 {d : Nat} {z : Int32 × aH} (s0 : Int32) (s1 : Nat) (h : aH) (hf : fX11_could_13 s0 s1 h = some z) : Ev (d + 6) none mX11_could (0, 0) 13 [.null] [.int s0, .ref s1] h (QI z) := by
  obtain ⟨_, h1, hf⟩ := bnd hf
  obtain ⟨fs, ho⟩ := isO_ok h1
  obtain ⟨r, h2, hf⟩ := bnd hf
  refine ev_V kqX11_could_13 jX11_no (zX11_no (d := d + 5) h2) ho rfl rfl (Nat.le_of_ble_eq_true rfl) rfl (as := [.int s0]) (rest := []) rfl (Nat.le_of_ble_eq_true rfl) (fun _ _ hq => ?_)
  obtain ⟨rfl, rfl⟩ := hq
  exact jm [0] (fX11_could_16 r.1 r.2) (fun q => tX11_could_16 r.1 r.2 q) hf
def wX11_could_11 : List En := [(.aload_n 0, 0, 0, 0), (.iconst 1, 0, 0, 0)]
def fX11_could_11 (v0 : Nat) (h : aH) : Option (Int32 × aH) :=
  fX11_could_13 (kI 1) v0 h
theorem tX11_could_11 {d : Nat} {z : Int32 × aH} (v0 : Nat) (h : aH) (hf : fX11_could_11 v0 h = some z) : Ev (d + 6) none mX11_could (0, 0) 11 [.ref v0] [] h (QI z) := 
  go_ok (X := none) (blk := wX11_could_11) (np := 13) (tt := 0) (kN := fun xs h st => app [0] (apS [1, 2] (fun s0 s1 => fX11_could_13 s0 s1 h) st) xs) (kT := fun _ _ _ => none) (kR := kRI)
    (fun xs h st q => jm [0] _ (fun q => apS_ok [1, 2] _ (fun st => Ev (d + 6) none mX11_could (0, 0) 13 [.null] st h (QI z)) st (fun s0 s1 q => tX11_could_13 s0 s1 h q) q) q)
    (fun _ _ _ q => nos q)
    kRI_ok (Or.inr rfl) (by decide +kernel) (by decide +kernel) hf
def wX11_could_4 : List En := [(.aload_n 0, 0, 0, 0), (.getfield 174, 189, 11, 14), (.ifCond .ne 9, 17, 0, 0)]
def fX11_could_4 (v0 : Nat) (h : aH) : Option (Int32 × aH) :=
  (gFI h 11 v0 14).bind fun t1 =>
  if t1 = 0 then fX11_could_11 v0 h else fX11_could_17 v0 h
theorem tX11_could_4 {d : Nat} {z : Int32 × aH} (v0 : Nat) (h : aH) (hf : fX11_could_4 v0 h = some z) : Ev (d + 6) none mX11_could (0, 0) 4 [.ref v0] [] h (QI z) := 
  go_ok (X := none) (blk := wX11_could_4) (np := 11) (tt := 17) (kN := fun xs h st => app [2] (fun v0 => apS [] (fX11_could_11 v0 h) st) xs) (kT := fun xs h st => app [2] (fun v0 => apS [] (fX11_could_17 v0 h) st) xs) (kR := kRI)
    (fun xs h st q => jm [2] _ (fun v0 q => apS_ok [] _ (fun st => Ev (d + 6) none mX11_could (0, 0) 11 [.ref v0] st h (QI z)) st (fun q => tX11_could_11 v0 h q) q) q)
    (fun xs h st q => jm [2] _ (fun v0 q => apS_ok [] _ (fun st => Ev (d + 6) none mX11_could (0, 0) 17 [.ref v0] st h (QI z)) st (fun q => tX11_could_17 v0 h q) q) q)
    kRI_ok (Or.inr rfl) (by decide +kernel) (by decide +kernel) hf
theorem kqX11_could_1 : okC mX11_could 1 (.invokevirtual 161) 181 196 0 0 = true := by decide +kernel
def fX11_could_1 (v0 : Nat) (s0 : Nat) (h : aH) : Option (Int32 × aH) :=
  (isO h 11 s0).bind fun _ =>
  (gX11_anew s0 h).bind fun r =>
  fX11_could_4 v0 r
theorem tX11_could_1 {d : Nat} {z : Int32 × aH} (v0 : Nat) (s0 : Nat) (h : aH) (hf : fX11_could_1 v0 s0 h = some z) : Ev (d + 6) none mX11_could (0, 0) 1 [.ref v0] [.ref s0] h (QI z) := by
  obtain ⟨_, h1, hf⟩ := bnd hf
  obtain ⟨fs, ho⟩ := isO_ok h1
  obtain ⟨r, h2, hf⟩ := bnd hf
  refine ev_V kqX11_could_1 jX11_anew (zX11_anew (d := d + 5) h2) ho rfl rfl (Nat.le_of_ble_eq_true rfl) rfl (as := []) (rest := []) rfl (Nat.le_of_ble_eq_true rfl) (fun _ _ hq => ?_)
  obtain ⟨rfl, hh⟩ := hq
  rw [hh]
  exact jm [2] (fun v0 => fX11_could_4 v0 r) (fun v0 q => tX11_could_4 v0 r q) hf
def wX11_could_0 : List En := [(.aload_n 0, 0, 0, 0)]
def fX11_could_0 (v0 : Nat) (h : aH) : Option (Int32 × aH) :=
  fX11_could_1 v0 v0 h
theorem tX11_could_0 {d : Nat} {z : Int32 × aH} (v0 : Nat) (h : aH) (hf : fX11_could_0 v0 h = some z) : Ev (d + 6) none mX11_could (0, 0) 0 [.ref v0] [] h (QI z) := 
  go_ok (X := none) (blk := wX11_could_0) (np := 1) (tt := 0) (kN := fun xs h st => app [2] (fun v0 => apS [2] (fun s0 => fX11_could_1 v0 s0 h) st) xs) (kT := fun _ _ _ => none) (kR := kRI)
    (fun xs h st q => jm [2] _ (fun v0 q => apS_ok [2] _ (fun st => Ev (d + 6) none mX11_could (0, 0) 1 [.ref v0] st h (QI z)) st (fun s0 q => tX11_could_1 v0 s0 h q) q) q)
    (fun _ _ _ q => nos q)
    kRI_ok (Or.inr rfl) (by decide +kernel) (by decide +kernel) hf
def gX11_could (v0 : Nat) (h : aH) : Option (Int32 × aH) := fX11_could_0 v0 h
theorem zX11_could {d : Nat} {z : Int32 × aH} {v0 : Nat} {h : aH} (q : gX11_could v0 h = some z) : CT (d + 6) mX11_could (0, 0) [.ref v0] h (QI z) :=
  ct_ev (by decide +kernel) (Nat.le_of_ble_eq_true rfl) QI_r (jm [2] (fun v0 => fX11_could_0 v0 h) (fun v0 q => tX11_could_0 v0 h q) q)
def wX11_surely_22 : List En := [(.pop, 0, 0, 0), (.aload_n 0, 0, 0, 0), (.getfield 363, 214, 11, 39), (.ireturn, 0, 0, 0)]
def fX11_surely_22 (v0 : Nat) (s0 : Int32) (h : aH) : Option (Int32 × aH) :=
  (gFI h 11 v0 39).bind fun t1 =>
  some (t1, h)
theorem tX11_surely_22 {d : Nat} {z : Int32 × aH} (v0 : Nat) (s0 : Int32) (h : aH) (hf : fX11_surely_22 v0 s0 h = some z) : Ev (d + 6) none mX11_surely (0, 0) 22 [.ref v0] [.int s0] h (QI z) := 
  go_ok (X := none) (blk := wX11_surely_22) (np := 28) (tt := 0) (kN := fun _ _ _ => none) (kT := fun _ _ _ => none) (kR := kRI)
    (fun _ _ _ q => nos q)
    (fun _ _ _ q => nos q)
    kRI_ok (Or.inr rfl) (by decide +kernel) (by decide +kernel) hf
theorem kqX11_surely_19 : okC mX11_surely 19 (.invokevirtual 369) 270 287 0 1 = true := by decide +kernel
def fX11_surely_19 (v0 : Nat) (s0 : Int32) (s1 : Nat) (h : aH) : Option (Int32 × aH) :=
  (isO h 11 s1).bind fun _ =>
  (gX11_seekSets s1 s0 h).bind fun r =>
  fX11_surely_22 v0 r.1 r.2
theorem tX11_surely_19 {d : Nat} {z : Int32 × aH} (v0 : Nat) (s0 : Int32) (s1 : Nat) (h : aH) (hf : fX11_surely_19 v0 s0 s1 h = some z) : Ev (d + 6) none mX11_surely (0, 0) 19 [.ref v0] [.int s0, .ref s1] h (QI z) := by
  obtain ⟨_, h1, hf⟩ := bnd hf
  obtain ⟨fs, ho⟩ := isO_ok h1
  obtain ⟨r, h2, hf⟩ := bnd hf
  refine ev_V kqX11_surely_19 jX11_seekSets (zX11_seekSets (d := d + 0) h2) ho rfl rfl (Nat.le_of_ble_eq_true rfl) rfl (as := [.int s0]) (rest := []) rfl (Nat.le_of_ble_eq_true rfl) (fun _ _ hq => ?_)
  obtain ⟨rfl, rfl⟩ := hq
  exact jm [2] (fun v0 => fX11_surely_22 v0 r.1 r.2) (fun v0 q => tX11_surely_22 v0 r.1 r.2 q) hf
def wX11_surely_17 : List En := [(.aload_n 0, 0, 0, 0), (.iconst (-1), 0, 0, 0)]
def fX11_surely_17 (v0 : Nat) (h : aH) : Option (Int32 × aH) :=
  fX11_surely_19 v0 (kI (-1)) v0 h
theorem tX11_surely_17 {d : Nat} {z : Int32 × aH} (v0 : Nat) (h : aH) (hf : fX11_surely_17 v0 h = some z) : Ev (d + 6) none mX11_surely (0, 0) 17 [.ref v0] [] h (QI z) := 
  go_ok (X := none) (blk := wX11_surely_17) (np := 19) (tt := 0) (kN := fun xs h st => app [2] (fun v0 => apS [1, 2] (fun s0 s1 => fX11_surely_19 v0 s0 s1 h) st) xs) (kT := fun _ _ _ => none) (kR := kRI)
    (fun xs h st q => jm [2] _ (fun v0 q => apS_ok [1, 2] _ (fun st => Ev (d + 6) none mX11_surely (0, 0) 19 [.ref v0] st h (QI z)) st (fun s0 s1 q => tX11_surely_19 v0 s0 s1 h q) q) q)
    (fun _ _ _ q => nos q)
    kRI_ok (Or.inr rfl) (by decide +kernel) (by decide +kernel) hf
def wX11_surely_16 : List En := [(.ireturn, 0, 0, 0)]
def fX11_surely_16 (s0 : Int32) (h : aH) : Option (Int32 × aH) :=
  some (s0, h)
theorem tX11_surely_16 {d : Nat} {z : Int32 × aH} (s0 : Int32) (h : aH) (hf : fX11_surely_16 s0 h = some z) : Ev (d + 6) none mX11_surely (0, 0) 16 [.null] [.int s0] h (QI z) := 
  go_ok (X := none) (blk := wX11_surely_16) (np := 17) (tt := 0) (kN := fun _ _ _ => none) (kT := fun _ _ _ => none) (kR := kRI)
    (fun _ _ _ q => nos q)
    (fun _ _ _ q => nos q)
    kRI_ok (Or.inr rfl) (by decide +kernel) (by decide +kernel) hf
theorem kqX11_surely_13 : okC mX11_surely 13 (.invokevirtual 164) 183 198 0 1 = true := by decide +kernel
def fX11_surely_13 (s0 : Int32) (s1 : Nat) (h : aH) : Option (Int32 × aH) :=
  (isO h 11 s1).bind fun _ =>
  (gX11_no s1 s0 h).bind fun r =>
  fX11_surely_16 r.1 r.2
theorem tX11_surely_13 {d : Nat} {z : Int32 × aH} (s0 : Int32) (s1 : Nat) (h : aH) (hf : fX11_surely_13 s0 s1 h = some z) : Ev (d + 6) none mX11_surely (0, 0) 13 [.null] [.int s0, .ref s1] h (QI z) := by
  obtain ⟨_, h1, hf⟩ := bnd hf
  obtain ⟨fs, ho⟩ := isO_ok h1
  obtain ⟨r, h2, hf⟩ := bnd hf
  refine ev_V kqX11_surely_13 jX11_no (zX11_no (d := d + 5) h2) ho rfl rfl (Nat.le_of_ble_eq_true rfl) rfl (as := [.int s0]) (rest := []) rfl (Nat.le_of_ble_eq_true rfl) (fun _ _ hq => ?_)
  obtain ⟨rfl, rfl⟩ := hq
  exact jm [0] (fX11_surely_16 r.1 r.2) (fun q => tX11_surely_16 r.1 r.2 q) hf
def wX11_surely_11 : List En := [(.aload_n 0, 0, 0, 0), (.iconst 1, 0, 0, 0)]
def fX11_surely_11 (v0 : Nat) (h : aH) : Option (Int32 × aH) :=
  fX11_surely_13 (kI 1) v0 h
theorem tX11_surely_11 {d : Nat} {z : Int32 × aH} (v0 : Nat) (h : aH) (hf : fX11_surely_11 v0 h = some z) : Ev (d + 6) none mX11_surely (0, 0) 11 [.ref v0] [] h (QI z) := 
  go_ok (X := none) (blk := wX11_surely_11) (np := 13) (tt := 0) (kN := fun xs h st => app [0] (apS [1, 2] (fun s0 s1 => fX11_surely_13 s0 s1 h) st) xs) (kT := fun _ _ _ => none) (kR := kRI)
    (fun xs h st q => jm [0] _ (fun q => apS_ok [1, 2] _ (fun st => Ev (d + 6) none mX11_surely (0, 0) 13 [.null] st h (QI z)) st (fun s0 s1 q => tX11_surely_13 s0 s1 h q) q) q)
    (fun _ _ _ q => nos q)
    kRI_ok (Or.inr rfl) (by decide +kernel) (by decide +kernel) hf
def wX11_surely_4 : List En := [(.aload_n 0, 0, 0, 0), (.getfield 174, 189, 11, 14), (.ifCond .ne 9, 17, 0, 0)]
def fX11_surely_4 (v0 : Nat) (h : aH) : Option (Int32 × aH) :=
  (gFI h 11 v0 14).bind fun t1 =>
  if t1 = 0 then fX11_surely_11 v0 h else fX11_surely_17 v0 h
theorem tX11_surely_4 {d : Nat} {z : Int32 × aH} (v0 : Nat) (h : aH) (hf : fX11_surely_4 v0 h = some z) : Ev (d + 6) none mX11_surely (0, 0) 4 [.ref v0] [] h (QI z) := 
  go_ok (X := none) (blk := wX11_surely_4) (np := 11) (tt := 17) (kN := fun xs h st => app [2] (fun v0 => apS [] (fX11_surely_11 v0 h) st) xs) (kT := fun xs h st => app [2] (fun v0 => apS [] (fX11_surely_17 v0 h) st) xs) (kR := kRI)
    (fun xs h st q => jm [2] _ (fun v0 q => apS_ok [] _ (fun st => Ev (d + 6) none mX11_surely (0, 0) 11 [.ref v0] st h (QI z)) st (fun q => tX11_surely_11 v0 h q) q) q)
    (fun xs h st q => jm [2] _ (fun v0 q => apS_ok [] _ (fun st => Ev (d + 6) none mX11_surely (0, 0) 17 [.ref v0] st h (QI z)) st (fun q => tX11_surely_17 v0 h q) q) q)
    kRI_ok (Or.inr rfl) (by decide +kernel) (by decide +kernel) hf
theorem kqX11_surely_1 : okC mX11_surely 1 (.invokevirtual 161) 181 196 0 0 = true := by decide +kernel
def fX11_surely_1 (v0 : Nat) (s0 : Nat) (h : aH) : Option (Int32 × aH) :=
  (isO h 11 s0).bind fun _ =>
  (gX11_anew s0 h).bind fun r =>
  fX11_surely_4 v0 r
theorem tX11_surely_1 {d : Nat} {z : Int32 × aH} (v0 : Nat) (s0 : Nat) (h : aH) (hf : fX11_surely_1 v0 s0 h = some z) : Ev (d + 6) none mX11_surely (0, 0) 1 [.ref v0] [.ref s0] h (QI z) := by
  obtain ⟨_, h1, hf⟩ := bnd hf
  obtain ⟨fs, ho⟩ := isO_ok h1
  obtain ⟨r, h2, hf⟩ := bnd hf
  refine ev_V kqX11_surely_1 jX11_anew (zX11_anew (d := d + 5) h2) ho rfl rfl (Nat.le_of_ble_eq_true rfl) rfl (as := []) (rest := []) rfl (Nat.le_of_ble_eq_true rfl) (fun _ _ hq => ?_)
  obtain ⟨rfl, hh⟩ := hq
  rw [hh]
  exact jm [2] (fun v0 => fX11_surely_4 v0 r) (fun v0 q => tX11_surely_4 v0 r q) hf
def wX11_surely_0 : List En := [(.aload_n 0, 0, 0, 0)]
def fX11_surely_0 (v0 : Nat) (h : aH) : Option (Int32 × aH) :=
  fX11_surely_1 v0 v0 h
theorem tX11_surely_0 {d : Nat} {z : Int32 × aH} (v0 : Nat) (h : aH) (hf : fX11_surely_0 v0 h = some z) : Ev (d + 6) none mX11_surely (0, 0) 0 [.ref v0] [] h (QI z) := 
  go_ok (X := none) (blk := wX11_surely_0) (np := 1) (tt := 0) (kN := fun xs h st => app [2] (fun v0 => apS [2] (fun s0 => fX11_surely_1 v0 s0 h) st) xs) (kT := fun _ _ _ => none) (kR := kRI)
    (fun xs h st q => jm [2] _ (fun v0 q => apS_ok [2] _ (fun st => Ev (d + 6) none mX11_surely (0, 0) 1 [.ref v0] st h (QI z)) st (fun s0 q => tX11_surely_1 v0 s0 h q) q) q)
    (fun _ _ _ q => nos q)
    kRI_ok (Or.inr rfl) (by decide +kernel) (by decide +kernel) hf
def gX11_surely (v0 : Nat) (h : aH) : Option (Int32 × aH) := fX11_surely_0 v0 h
theorem zX11_surely {d : Nat} {z : Int32 × aH} {v0 : Nat} {h : aH} (q : gX11_surely v0 h = some z) : CT (d + 6) mX11_surely (0, 0) [.ref v0] h (QI z) :=
  ct_ev (by decide +kernel) (Nat.le_of_ble_eq_true rfl) QI_r (jm [2] (fun v0 => fX11_surely_0 v0 h) (fun v0 q => tX11_surely_0 v0 h q) q)
def wX11_leavesOf_40 : List En := [(.ireturn, 0, 0, 0)]
def fX11_leavesOf_40 (s0 : Int32) (h : aH) : Option (Int32 × aH) :=
  some (s0, h)
theorem tX11_leavesOf_40 {d : Nat} {z : Int32 × aH} (s0 : Int32) (h : aH) (hf : fX11_leavesOf_40 s0 h = some z) : Ev (d + 0) none mX11_leavesOf (0, 0) 40 [.null, .null] [.int s0] h (QI z) := 
  go_ok (X := none) (blk := wX11_leavesOf_40) (np := 41) (tt := 0) (kN := fun _ _ _ => none) (kT := fun _ _ _ => none) (kR := kRI)
    (fun _ _ _ q => nos q)
    (fun _ _ _ q => nos q)
    kRI_ok (Or.inr rfl) (by decide +kernel) (by decide +kernel) hf
def wX11_leavesOf_29 : List En := [(.aload_n 0, 0, 0, 0), (.getfield 357, 212, 11, 37), (.aload_n 0, 0, 0, 0), (.getfield 50, 211, 11, 36), (.iload_n 1, 0, 0, 0), (.iaload, 0, 0, 0), (.isub, 0, 0, 0)]
def fX11_leavesOf_29 (v0 : Nat) (v1 : Int32) (h : aH) : Option (Int32 × aH) :=
  (gFI h 11 v0 37).bind fun t1 =>
  (gFR h 11 v0 36).bind fun t2 =>
  (aRI (h[t2]?) v1).bind fun t3 =>
  fX11_leavesOf_40 (t1 - t3) h
theorem tX11_leavesOf_29 {d : Nat} {z : Int32 × aH} (v0 : Nat) (v1 : Int32) (h : aH) (hf : fX11_leavesOf_29 v0 v1 h = some z) : Ev (d + 0) none mX11_leavesOf (0, 0) 29 [.ref v0, .int v1] [] h (QI z) := 
  go_ok (X := none) (blk := wX11_leavesOf_29) (np := 40) (tt := 0) (kN := fun xs h st => app [0, 0] (apS [1] (fun s0 => fX11_leavesOf_40 s0 h) st) xs) (kT := fun _ _ _ => none) (kR := kRI)
    (fun xs h st q => jm [0, 0] _ (fun q => apS_ok [1] _ (fun st => Ev (d + 0) none mX11_leavesOf (0, 0) 40 [.null, .null] st h (QI z)) st (fun s0 q => tX11_leavesOf_40 s0 h q) q) q)
    (fun _ _ _ q => nos q)
    kRI_ok (Or.inr rfl) (by decide +kernel) (by decide +kernel) hf
def wX11_leavesOf_20 : List En := [(.aload_n 0, 0, 0, 0), (.getfield 50, 211, 11, 36), (.iload_n 1, 0, 0, 0), (.iaload, 0, 0, 0), (.goto 14, 40, 0, 0)]
def fX11_leavesOf_20 (v0 : Nat) (v1 : Int32) (h : aH) : Option (Int32 × aH) :=
  (gFR h 11 v0 36).bind fun t1 =>
  (aRI (h[t1]?) v1).bind fun t2 =>
  fX11_leavesOf_40 t2 h
theorem tX11_leavesOf_20 {d : Nat} {z : Int32 × aH} (v0 : Nat) (v1 : Int32) (h : aH) (hf : fX11_leavesOf_20 v0 v1 h = some z) : Ev (d + 0) none mX11_leavesOf (0, 0) 20 [.ref v0, .int v1] [] h (QI z) := 
  go_ok (X := none) (blk := wX11_leavesOf_20) (np := 29) (tt := 40) (kN := fun _ _ _ => none) (kT := fun xs h st => app [0, 0] (apS [1] (fun s0 => fX11_leavesOf_40 s0 h) st) xs) (kR := kRI)
    (fun _ _ _ q => nos q)
    (fun xs h st q => jm [0, 0] _ (fun q => apS_ok [1] _ (fun st => Ev (d + 0) none mX11_leavesOf (0, 0) 40 [.null, .null] st h (QI z)) st (fun s0 q => tX11_leavesOf_40 s0 h q) q) q)
    kRI_ok (Or.inr rfl) (by decide +kernel) (by decide +kernel) hf
def wX11_leavesOf_0 : List En := [(.aload_n 0, 0, 0, 0), (.getfield 50, 211, 11, 36), (.iload_n 1, 0, 0, 0), (.iaload, 0, 0, 0), (.aload_n 0, 0, 0, 0), (.getfield 357, 212, 11, 37), (.aload_n 0, 0, 0, 0), (.getfield 50, 211, 11, 36), (.iload_n 1, 0, 0, 0), (.iaload, 0, 0, 0), (.isub, 0, 0, 0), (.if_icmp .le 12, 29, 0, 0)]
def fX11_leavesOf_0 (v0 : Nat) (v1 : Int32) (h : aH) : Option (Int32 × aH) :=
  (gFR h 11 v0 36).bind fun t1 =>
  (aRI (h[t1]?) v1).bind fun t2 =>
  (gFI h 11 v0 37).bind fun t3 =>
  (gFR h 11 v0 36).bind fun t4 =>
  (aRI (h[t4]?) v1).bind fun t5 =>
  if (t3 - t5) < t2 then fX11_leavesOf_20 v0 v1 h else fX11_leavesOf_29 v0 v1 h
theorem tX11_leavesOf_0 {d : Nat} {z : Int32 × aH} (v0 : Nat) (v1 : Int32) (h : aH) (hf : fX11_leavesOf_0 v0 v1 h = some z) : Ev (d + 0) none mX11_leavesOf (0, 0) 0 [.ref v0, .int v1] [] h (QI z) := 
  go_ok (X := none) (blk := wX11_leavesOf_0) (np := 20) (tt := 29) (kN := fun xs h st => app [2, 1] (fun v0 v1 => apS [] (fX11_leavesOf_20 v0 v1 h) st) xs) (kT := fun xs h st => app [2, 1] (fun v0 v1 => apS [] (fX11_leavesOf_29 v0 v1 h) st) xs) (kR := kRI)
    (fun xs h st q => jm [2, 1] _ (fun v0 v1 q => apS_ok [] _ (fun st => Ev (d + 0) none mX11_leavesOf (0, 0) 20 [.ref v0, .int v1] st h (QI z)) st (fun q => tX11_leavesOf_20 v0 v1 h q) q) q)
    (fun xs h st q => jm [2, 1] _ (fun v0 v1 q => apS_ok [] _ (fun st => Ev (d + 0) none mX11_leavesOf (0, 0) 29 [.ref v0, .int v1] st h (QI z)) st (fun q => tX11_leavesOf_29 v0 v1 h q) q) q)
    kRI_ok (Or.inr rfl) (by decide +kernel) (by decide +kernel) hf
def gX11_leavesOf (v0 : Nat) (v1 : Int32) (h : aH) : Option (Int32 × aH) := fX11_leavesOf_0 v0 v1 h
theorem zX11_leavesOf {d : Nat} {z : Int32 × aH} {v0 : Nat} {v1 : Int32} {h : aH} (q : gX11_leavesOf v0 v1 h = some z) : CT (d + 0) mX11_leavesOf (0, 0) [.ref v0, .int v1] h (QI z) :=
  ct_ev (by decide +kernel) (Nat.le_of_ble_eq_true rfl) QI_r (jm [2, 1] (fun v0 v1 => fX11_leavesOf_0 v0 v1 h) (fun v0 v1 q => tX11_leavesOf_0 v0 v1 h q) q)
def wX11_askOf_54 : List En := [(.iload_n 1, 0, 0, 0), (.ireturn, 0, 0, 0)]
def fX11_askOf_54 (v1 : Int32) (h : aH) : Option (Int32 × aH) :=
  some (v1, h)
theorem tX11_askOf_54 {d : Nat} {z : Int32 × aH} (v1 : Int32) (h : aH) (hf : fX11_askOf_54 v1 h = some z) : Ev (d + 6) none mX11_askOf (0, 0) 54 [.null, .int v1, .null] [] h (QI z) := 
  go_ok (X := none) (blk := wX11_askOf_54) (np := 56) (tt := 0) (kN := fun _ _ _ => none) (kT := fun _ _ _ => none) (kR := kRI)
    (fun _ _ _ q => nos q)
    (fun _ _ _ q => nos q)
    kRI_ok (Or.inr rfl) (by decide +kernel) (by decide +kernel) hf
def wX11_askOf_48 : List En := [(.iinc 2 1, 0, 0, 0), (.goto (-40), 11, 0, 0)]
def fX11_askOf_48 (k11 : Nat → Int32 → Int32 → aH → Option (Int32 × aH)) (v0 : Nat) (v1 : Int32) (v2 : Int32) (h : aH) : Option (Int32 × aH) :=
  k11 v0 v1 (v2 + kI 1) h
theorem tX11_askOf_48 {d : Nat} {z : Int32 × aH} {k11 : Nat → Int32 → Int32 → aH → Option (Int32 × aH)} (hk11 : ∀ (v0 : Nat) (v1 : Int32) (v2 : Int32) (h : aH), k11 v0 v1 v2 h = some z → Ev (d + 6) none mX11_askOf (0, 0) 11 [.ref v0, .int v1, .int v2] [] h (QI z)) (v0 : Nat) (v1 : Int32) (v2 : Int32) (h : aH) (hf : fX11_askOf_48 k11 v0 v1 v2 h = some z) : Ev (d + 6) none mX11_askOf (0, 0) 48 [.ref v0, .int v1, .int v2] [] h (QI z) := 
  go_ok (X := none) (blk := wX11_askOf_48) (np := 54) (tt := 11) (kN := fun _ _ _ => none) (kT := fun xs h st => app [2, 1, 1] (fun v0 v1 v2 => apS [] (k11 v0 v1 v2 h) st) xs) (kR := kRI)
    (fun _ _ _ q => nos q)
    (fun xs h st q => jm [2, 1, 1] _ (fun v0 v1 v2 q => apS_ok [] _ (fun st => Ev (d + 6) none mX11_askOf (0, 0) 11 [.ref v0, .int v1, .int v2] st h (QI z)) st (fun q => hk11 v0 v1 v2 h q) q) q)
    kRI_ok (Or.inr rfl) (by decide +kernel) (by decide +kernel) hf
def wX11_askOf_46 : List En := [(.iload_n 2, 0, 0, 0), (.istore_n 1, 0, 0, 0)]
def fX11_askOf_46 (k11 : Nat → Int32 → Int32 → aH → Option (Int32 × aH)) (v0 : Nat) (v2 : Int32) (h : aH) : Option (Int32 × aH) :=
  fX11_askOf_48 k11 v0 v2 v2 h
theorem tX11_askOf_46 {d : Nat} {z : Int32 × aH} {k11 : Nat → Int32 → Int32 → aH → Option (Int32 × aH)} (hk11 : ∀ (v0 : Nat) (v1 : Int32) (v2 : Int32) (h : aH), k11 v0 v1 v2 h = some z → Ev (d + 6) none mX11_askOf (0, 0) 11 [.ref v0, .int v1, .int v2] [] h (QI z)) (v0 : Nat) (v2 : Int32) (h : aH) (hf : fX11_askOf_46 k11 v0 v2 h = some z) : Ev (d + 6) none mX11_askOf (0, 0) 46 [.ref v0, .null, .int v2] [] h (QI z) := 
  go_ok (X := none) (blk := wX11_askOf_46) (np := 48) (tt := 0) (kN := fun xs h st => app [2, 1, 1] (fun v0 v1 v2 => apS [] (fX11_askOf_48 k11 v0 v1 v2 h) st) xs) (kT := fun _ _ _ => none) (kR := kRI)
    (fun xs h st q => jm [2, 1, 1] _ (fun v0 v1 v2 q => apS_ok [] _ (fun st => Ev (d + 6) none mX11_askOf (0, 0) 48 [.ref v0, .int v1, .int v2] st h (QI z)) st (fun q => tX11_askOf_48 hk11 v0 v1 v2 h q) q) q)
    (fun _ _ _ q => nos q)
    kRI_ok (Or.inr rfl) (by decide +kernel) (by decide +kernel) hf
def wX11_askOf_43 : List En := [(.if_icmp .ge 5, 48, 0, 0)]
def fX11_askOf_43 (k11 : Nat → Int32 → Int32 → aH → Option (Int32 × aH)) (v0 : Nat) (v1 : Int32) (v2 : Int32) (s0 : Int32) (s1 : Int32) (h : aH) : Option (Int32 × aH) :=
  if s1 < s0 then fX11_askOf_46 k11 v0 v2 h else fX11_askOf_48 k11 v0 v1 v2 h
theorem tX11_askOf_43 {d : Nat} {z : Int32 × aH} {k11 : Nat → Int32 → Int32 → aH → Option (Int32 × aH)} (hk11 : ∀ (v0 : Nat) (v1 : Int32) (v2 : Int32) (h : aH), k11 v0 v1 v2 h = some z → Ev (d + 6) none mX11_askOf (0, 0) 11 [.ref v0, .int v1, .int v2] [] h (QI z)) (v0 : Nat) (v1 : Int32) (v2 : Int32) (s0 : Int32) (s1 : Int32) (h : aH) (hf : fX11_askOf_43 k11 v0 v1 v2 s0 s1 h = some z) : Ev (d + 6) none mX11_askOf (0, 0) 43 [.ref v0, .int v1, .int v2] [.int s0, .int s1] h (QI z) := 
  go_ok (X := none) (blk := wX11_askOf_43) (np := 46) (tt := 48) (kN := fun xs h st => app [2, 0, 1] (fun v0 v2 => apS [] (fX11_askOf_46 k11 v0 v2 h) st) xs) (kT := fun xs h st => app [2, 1, 1] (fun v0 v1 v2 => apS [] (fX11_askOf_48 k11 v0 v1 v2 h) st) xs) (kR := kRI)
    (fun xs h st q => jm [2, 0, 1] _ (fun v0 v2 q => apS_ok [] _ (fun st => Ev (d + 6) none mX11_askOf (0, 0) 46 [.ref v0, .null, .int v2] st h (QI z)) st (fun q => tX11_askOf_46 hk11 v0 v2 h q) q) q)
    (fun xs h st q => jm [2, 1, 1] _ (fun v0 v1 v2 q => apS_ok [] _ (fun st => Ev (d + 6) none mX11_askOf (0, 0) 48 [.ref v0, .int v1, .int v2] st h (QI z)) st (fun q => tX11_askOf_48 hk11 v0 v1 v2 h q) q) q)
    kRI_ok (Or.inr rfl) (by decide +kernel) (by decide +kernel) hf
theorem kqX11_askOf_40 : okC mX11_askOf 40 (.invokevirtual 372) 277 294 0 1 = true := by decide +kernel
def fX11_askOf_40 (k11 : Nat → Int32 → Int32 → aH → Option (Int32 × aH)) (v0 : Nat) (v1 : Int32) (v2 : Int32) (s0 : Int32) (s1 : Nat) (s2 : Int32) (h : aH) : Option (Int32 × aH) :=
  (isO h 11 s1).bind fun _ =>
  (gX11_leavesOf s1 s0 h).bind fun r =>
  fX11_askOf_43 k11 v0 v1 v2 r.1 s2 r.2
theorem tX11_askOf_40 {d : Nat} {z : Int32 × aH} {k11 : Nat → Int32 → Int32 → aH → Option (Int32 × aH)} (hk11 : ∀ (v0 : Nat) (v1 : Int32) (v2 : Int32) (h : aH), k11 v0 v1 v2 h = some z → Ev (d + 6) none mX11_askOf (0, 0) 11 [.ref v0, .int v1, .int v2] [] h (QI z)) (v0 : Nat) (v1 : Int32) (v2 : Int32) (s0 : Int32) (s1 : Nat) (s2 : Int32) (h : aH) (hf : fX11_askOf_40 k11 v0 v1 v2 s0 s1 s2 h = some z) : Ev (d + 6) none mX11_askOf (0, 0) 40 [.ref v0, .int v1, .int v2] [.int s0, .ref s1, .int s2] h (QI z) := by
  obtain ⟨_, h1, hf⟩ := bnd hf
  obtain ⟨fs, ho⟩ := isO_ok h1
  obtain ⟨r, h2, hf⟩ := bnd hf
  refine ev_V kqX11_askOf_40 jX11_leavesOf (zX11_leavesOf (d := d + 5) h2) ho rfl rfl (Nat.le_of_ble_eq_true rfl) rfl (as := [.int s0]) (rest := [.int s2]) rfl (Nat.le_of_ble_eq_true rfl) (fun _ _ hq => ?_)
  obtain ⟨rfl, rfl⟩ := hq
  exact jm [2, 1, 1] (fun v0 v1 v2 => fX11_askOf_43 k11 v0 v1 v2 r.1 s2 r.2) (fun v0 v1 v2 q => tX11_askOf_43 hk11 v0 v1 v2 r.1 s2 r.2 q) hf
def wX11_askOf_38 : List En := [(.aload_n 0, 0, 0, 0), (.iload_n 1, 0, 0, 0)]
def fX11_askOf_38 (k11 : Nat → Int32 → Int32 → aH → Option (Int32 × aH)) (v0 : Nat) (v1 : Int32) (v2 : Int32) (s0 : Int32) (h : aH) : Option (Int32 × aH) :=
  fX11_askOf_40 k11 v0 v1 v2 v1 v0 s0 h
theorem tX11_askOf_38 {d : Nat} {z : Int32 × aH} {k11 : Nat → Int32 → Int32 → aH → Option (Int32 × aH)} (hk11 : ∀ (v0 : Nat) (v1 : Int32) (v2 : Int32) (h : aH), k11 v0 v1 v2 h = some z → Ev (d + 6) none mX11_askOf (0, 0) 11 [.ref v0, .int v1, .int v2] [] h (QI z)) (v0 : Nat) (v1 : Int32) (v2 : Int32) (s0 : Int32) (h : aH) (hf : fX11_askOf_38 k11 v0 v1 v2 s0 h = some z) : Ev (d + 6) none mX11_askOf (0, 0) 38 [.ref v0, .int v1, .int v2] [.int s0] h (QI z) := 
  go_ok (X := none) (blk := wX11_askOf_38) (np := 40) (tt := 0) (kN := fun xs h st => app [2, 1, 1] (fun v0 v1 v2 => apS [1, 2, 1] (fun s0 s1 s2 => fX11_askOf_40 k11 v0 v1 v2 s0 s1 s2 h) st) xs) (kT := fun _ _ _ => none) (kR := kRI)
    (fun xs h st q => jm [2, 1, 1] _ (fun v0 v1 v2 q => apS_ok [1, 2, 1] _ (fun st => Ev (d + 6) none mX11_askOf (0, 0) 40 [.ref v0, .int v1, .int v2] st h (QI z)) st (fun s0 s1 s2 q => tX11_askOf_40 hk11 v0 v1 v2 s0 s1 s2 h q) q) q)
    (fun _ _ _ q => nos q)
    kRI_ok (Or.inr rfl) (by decide +kernel) (by decide +kernel) hf
theorem kqX11_askOf_35 : okC mX11_askOf 35 (.invokevirtual 372) 277 294 0 1 = true := by decide +kernel
def fX11_askOf_35 (k11 : Nat → Int32 → Int32 → aH → Option (Int32 × aH)) (v0 : Nat) (v1 : Int32) (v2 : Int32) (s0 : Int32) (s1 : Nat) (h : aH) : Option (Int32 × aH) :=
  (isO h 11 s1).bind fun _ =>
  (gX11_leavesOf s1 s0 h).bind fun r =>
  fX11_askOf_38 k11 v0 v1 v2 r.1 r.2
theorem tX11_askOf_35 {d : Nat} {z : Int32 × aH} {k11 : Nat → Int32 → Int32 → aH → Option (Int32 × aH)} (hk11 : ∀ (v0 : Nat) (v1 : Int32) (v2 : Int32) (h : aH), k11 v0 v1 v2 h = some z → Ev (d + 6) none mX11_askOf (0, 0) 11 [.ref v0, .int v1, .int v2] [] h (QI z)) (v0 : Nat) (v1 : Int32) (v2 : Int32) (s0 : Int32) (s1 : Nat) (h : aH) (hf : fX11_askOf_35 k11 v0 v1 v2 s0 s1 h = some z) : Ev (d + 6) none mX11_askOf (0, 0) 35 [.ref v0, .int v1, .int v2] [.int s0, .ref s1] h (QI z) := by
  obtain ⟨_, h1, hf⟩ := bnd hf
  obtain ⟨fs, ho⟩ := isO_ok h1
  obtain ⟨r, h2, hf⟩ := bnd hf
  refine ev_V kqX11_askOf_35 jX11_leavesOf (zX11_leavesOf (d := d + 5) h2) ho rfl rfl (Nat.le_of_ble_eq_true rfl) rfl (as := [.int s0]) (rest := []) rfl (Nat.le_of_ble_eq_true rfl) (fun _ _ hq => ?_)
  obtain ⟨rfl, rfl⟩ := hq
  exact jm [2, 1, 1] (fun v0 v1 v2 => fX11_askOf_38 k11 v0 v1 v2 r.1 r.2) (fun v0 v1 v2 q => tX11_askOf_38 hk11 v0 v1 v2 r.1 r.2 q) hf
def wX11_askOf_33 : List En := [(.aload_n 0, 0, 0, 0), (.iload_n 2, 0, 0, 0)]
def fX11_askOf_33 (k11 : Nat → Int32 → Int32 → aH → Option (Int32 × aH)) (v0 : Nat) (v1 : Int32) (v2 : Int32) (h : aH) : Option (Int32 × aH) :=
  fX11_askOf_35 k11 v0 v1 v2 v2 v0 h
theorem tX11_askOf_33 {d : Nat} {z : Int32 × aH} {k11 : Nat → Int32 → Int32 → aH → Option (Int32 × aH)} (hk11 : ∀ (v0 : Nat) (v1 : Int32) (v2 : Int32) (h : aH), k11 v0 v1 v2 h = some z → Ev (d + 6) none mX11_askOf (0, 0) 11 [.ref v0, .int v1, .int v2] [] h (QI z)) (v0 : Nat) (v1 : Int32) (v2 : Int32) (h : aH) (hf : fX11_askOf_33 k11 v0 v1 v2 h = some z) : Ev (d + 6) none mX11_askOf (0, 0) 33 [.ref v0, .int v1, .int v2] [] h (QI z) := 
  go_ok (X := none) (blk := wX11_askOf_33) (np := 35) (tt := 0) (kN := fun xs h st => app [2, 1, 1] (fun v0 v1 v2 => apS [1, 2] (fun s0 s1 => fX11_askOf_35 k11 v0 v1 v2 s0 s1 h) st) xs) (kT := fun _ _ _ => none) (kR := kRI)
    (fun xs h st q => jm [2, 1, 1] _ (fun v0 v1 v2 q => apS_ok [1, 2] _ (fun st => Ev (d + 6) none mX11_askOf (0, 0) 35 [.ref v0, .int v1, .int v2] st h (QI z)) st (fun s0 s1 q => tX11_askOf_35 hk11 v0 v1 v2 s0 s1 h q) q) q)
    (fun _ _ _ q => nos q)
    kRI_ok (Or.inr rfl) (by decide +kernel) (by decide +kernel) hf
def wX11_askOf_29 : List En := [(.iload_n 1, 0, 0, 0), (.ifCond .lt 16, 46, 0, 0)]
def fX11_askOf_29 (k11 : Nat → Int32 → Int32 → aH → Option (Int32 × aH)) (v0 : Nat) (v1 : Int32) (v2 : Int32) (h : aH) : Option (Int32 × aH) :=
  if v1 < 0 then fX11_askOf_46 k11 v0 v2 h else fX11_askOf_33 k11 v0 v1 v2 h
theorem tX11_askOf_29 {d : Nat} {z : Int32 × aH} {k11 : Nat → Int32 → Int32 → aH → Option (Int32 × aH)} (hk11 : ∀ (v0 : Nat) (v1 : Int32) (v2 : Int32) (h : aH), k11 v0 v1 v2 h = some z → Ev (d + 6) none mX11_askOf (0, 0) 11 [.ref v0, .int v1, .int v2] [] h (QI z)) (v0 : Nat) (v1 : Int32) (v2 : Int32) (h : aH) (hf : fX11_askOf_29 k11 v0 v1 v2 h = some z) : Ev (d + 6) none mX11_askOf (0, 0) 29 [.ref v0, .int v1, .int v2] [] h (QI z) := 
  go_ok (X := none) (blk := wX11_askOf_29) (np := 33) (tt := 46) (kN := fun xs h st => app [2, 1, 1] (fun v0 v1 v2 => apS [] (fX11_askOf_33 k11 v0 v1 v2 h) st) xs) (kT := fun xs h st => app [2, 0, 1] (fun v0 v2 => apS [] (fX11_askOf_46 k11 v0 v2 h) st) xs) (kR := kRI)
    (fun xs h st q => jm [2, 1, 1] _ (fun v0 v1 v2 q => apS_ok [] _ (fun st => Ev (d + 6) none mX11_askOf (0, 0) 33 [.ref v0, .int v1, .int v2] st h (QI z)) st (fun q => tX11_askOf_33 hk11 v0 v1 v2 h q) q) q)
    (fun xs h st q => jm [2, 0, 1] _ (fun v0 v2 q => apS_ok [] _ (fun st => Ev (d + 6) none mX11_askOf (0, 0) 46 [.ref v0, .null, .int v2] st h (QI z)) st (fun q => tX11_askOf_46 hk11 v0 v2 h q) q) q)
    kRI_ok (Or.inr rfl) (by decide +kernel) (by decide +kernel) hf
def wX11_askOf_22 : List En := [(.aload_n 0, 0, 0, 0), (.getfield 357, 212, 11, 37), (.ifCond .le 28, 54, 0, 0)]
def fX11_askOf_22 (k11 : Nat → Int32 → Int32 → aH → Option (Int32 × aH)) (v0 : Nat) (v1 : Int32) (v2 : Int32) (h : aH) : Option (Int32 × aH) :=
  (gFI h 11 v0 37).bind fun t1 =>
  if 0 < t1 then fX11_askOf_29 k11 v0 v1 v2 h else fX11_askOf_54 v1 h
theorem tX11_askOf_22 {d : Nat} {z : Int32 × aH} {k11 : Nat → Int32 → Int32 → aH → Option (Int32 × aH)} (hk11 : ∀ (v0 : Nat) (v1 : Int32) (v2 : Int32) (h : aH), k11 v0 v1 v2 h = some z → Ev (d + 6) none mX11_askOf (0, 0) 11 [.ref v0, .int v1, .int v2] [] h (QI z)) (v0 : Nat) (v1 : Int32) (v2 : Int32) (h : aH) (hf : fX11_askOf_22 k11 v0 v1 v2 h = some z) : Ev (d + 6) none mX11_askOf (0, 0) 22 [.ref v0, .int v1, .int v2] [] h (QI z) := 
  go_ok (X := none) (blk := wX11_askOf_22) (np := 29) (tt := 54) (kN := fun xs h st => app [2, 1, 1] (fun v0 v1 v2 => apS [] (fX11_askOf_29 k11 v0 v1 v2 h) st) xs) (kT := fun xs h st => app [0, 1, 0] (fun v1 => apS [] (fX11_askOf_54 v1 h) st) xs) (kR := kRI)
    (fun xs h st q => jm [2, 1, 1] _ (fun v0 v1 v2 q => apS_ok [] _ (fun st => Ev (d + 6) none mX11_askOf (0, 0) 29 [.ref v0, .int v1, .int v2] st h (QI z)) st (fun q => tX11_askOf_29 hk11 v0 v1 v2 h q) q) q)
    (fun xs h st q => jm [0, 1, 0] _ (fun v1 q => apS_ok [] _ (fun st => Ev (d + 6) none mX11_askOf (0, 0) 54 [.null, .int v1, .null] st h (QI z)) st (fun q => tX11_askOf_54 v1 h q) q) q)
    kRI_ok (Or.inr rfl) (by decide +kernel) (by decide +kernel) hf
def wX11_askOf_11 : List En := [(.iload_n 2, 0, 0, 0), (.aload_n 0, 0, 0, 0), (.getfield 20, 190, 11, 15), (.bipush 6, 0, 0, 0), (.iaload, 0, 0, 0), (.if_icmp .ge 35, 54, 0, 0)]
def fX11_askOf_11 (k11 : Nat → Int32 → Int32 → aH → Option (Int32 × aH)) (v0 : Nat) (v1 : Int32) (v2 : Int32) (h : aH) : Option (Int32 × aH) :=
  (gFR h 11 v0 15).bind fun t1 =>
  (aRI (h[t1]?) (kB 6)).bind fun t2 =>
  if v2 < t2 then fX11_askOf_22 k11 v0 v1 v2 h else fX11_askOf_54 v1 h
theorem tX11_askOf_11 {d : Nat} {z : Int32 × aH} {k11 : Nat → Int32 → Int32 → aH → Option (Int32 × aH)} (hk11 : ∀ (v0 : Nat) (v1 : Int32) (v2 : Int32) (h : aH), k11 v0 v1 v2 h = some z → Ev (d + 6) none mX11_askOf (0, 0) 11 [.ref v0, .int v1, .int v2] [] h (QI z)) (v0 : Nat) (v1 : Int32) (v2 : Int32) (h : aH) (hf : fX11_askOf_11 k11 v0 v1 v2 h = some z) : Ev (d + 6) none mX11_askOf (0, 0) 11 [.ref v0, .int v1, .int v2] [] h (QI z) := 
  go_ok (X := none) (blk := wX11_askOf_11) (np := 22) (tt := 54) (kN := fun xs h st => app [2, 1, 1] (fun v0 v1 v2 => apS [] (fX11_askOf_22 k11 v0 v1 v2 h) st) xs) (kT := fun xs h st => app [0, 1, 0] (fun v1 => apS [] (fX11_askOf_54 v1 h) st) xs) (kR := kRI)
    (fun xs h st q => jm [2, 1, 1] _ (fun v0 v1 v2 q => apS_ok [] _ (fun st => Ev (d + 6) none mX11_askOf (0, 0) 22 [.ref v0, .int v1, .int v2] st h (QI z)) st (fun q => tX11_askOf_22 hk11 v0 v1 v2 h q) q) q)
    (fun xs h st q => jm [0, 1, 0] _ (fun v1 q => apS_ok [] _ (fun st => Ev (d + 6) none mX11_askOf (0, 0) 54 [.null, .int v1, .null] st h (QI z)) st (fun q => tX11_askOf_54 v1 h q) q) q)
    kRI_ok (Or.inr rfl) (by decide +kernel) (by decide +kernel) hf
def lX11_askOf_11 : Nat → Nat → Int32 → Int32 → aH → Option (Int32 × aH)
  | 0, _, _, _, _ => none
  | n + 1, v0, v1, v2, h => fX11_askOf_11 (lX11_askOf_11 n) v0 v1 v2 h
theorem uX11_askOf_11 {d : Nat} {z : Int32 × aH} : ∀ (n : Nat) (v0 : Nat) (v1 : Int32) (v2 : Int32) (h : aH), lX11_askOf_11 n v0 v1 v2 h = some z → Ev (d + 6) none mX11_askOf (0, 0) 11 [.ref v0, .int v1, .int v2] [] h (QI z) := by
  intro n
  induction n with
  | zero => intro _ _ _ _ q; exact nos (show (none : Option (Int32 × aH)) = some z from q)
  | succ n ih => intro v0 v1 v2 h q; exact tX11_askOf_11 ih v0 v1 v2 h q
def wX11_askOf_5 : List En := [(.pop, 0, 0, 0), (.bipush (-2), 0, 0, 0), (.istore_n 1, 0, 0, 0), (.iconst 0, 0, 0, 0), (.istore_n 2, 0, 0, 0)]
def fX11_askOf_5 (v0 : Nat) (s0 : Int32) (h : aH) : Option (Int32 × aH) :=
  lX11_askOf_11 FU v0 (kB (-2)) (kI 0) h
theorem tX11_askOf_5 {d : Nat} {z : Int32 × aH} (v0 : Nat) (s0 : Int32) (h : aH) (hf : fX11_askOf_5 v0 s0 h = some z) : Ev (d + 6) none mX11_askOf (0, 0) 5 [.ref v0, .null, .null] [.int s0] h (QI z) := 
  go_ok (X := none) (blk := wX11_askOf_5) (np := 11) (tt := 0) (kN := fun xs h st => app [2, 1, 1] (fun v0 v1 v2 => apS [] (lX11_askOf_11 FU v0 v1 v2 h) st) xs) (kT := fun _ _ _ => none) (kR := kRI)
    (fun xs h st q => jm [2, 1, 1] _ (fun v0 v1 v2 q => apS_ok [] _ (fun st => Ev (d + 6) none mX11_askOf (0, 0) 11 [.ref v0, .int v1, .int v2] st h (QI z)) st (fun q => uX11_askOf_11 FU v0 v1 v2 h q) q) q)
    (fun _ _ _ q => nos q)
    kRI_ok (Or.inr rfl) (by decide +kernel) (by decide +kernel) hf
theorem kqX11_askOf_2 : okC mX11_askOf 2 (.invokevirtual 369) 270 287 0 1 = true := by decide +kernel
def fX11_askOf_2 (v0 : Nat) (s0 : Int32) (s1 : Nat) (h : aH) : Option (Int32 × aH) :=
  (isO h 11 s1).bind fun _ =>
  (gX11_seekSets s1 s0 h).bind fun r =>
  fX11_askOf_5 v0 r.1 r.2
theorem tX11_askOf_2 {d : Nat} {z : Int32 × aH} (v0 : Nat) (s0 : Int32) (s1 : Nat) (h : aH) (hf : fX11_askOf_2 v0 s0 s1 h = some z) : Ev (d + 6) none mX11_askOf (0, 0) 2 [.ref v0, .null, .null] [.int s0, .ref s1] h (QI z) := by
  obtain ⟨_, h1, hf⟩ := bnd hf
  obtain ⟨fs, ho⟩ := isO_ok h1
  obtain ⟨r, h2, hf⟩ := bnd hf
  refine ev_V kqX11_askOf_2 jX11_seekSets (zX11_seekSets (d := d + 0) h2) ho rfl rfl (Nat.le_of_ble_eq_true rfl) rfl (as := [.int s0]) (rest := []) rfl (Nat.le_of_ble_eq_true rfl) (fun _ _ hq => ?_)
  obtain ⟨rfl, rfl⟩ := hq
  exact jm [2, 0, 0] (fun v0 => fX11_askOf_5 v0 r.1 r.2) (fun v0 q => tX11_askOf_5 v0 r.1 r.2 q) hf
def wX11_askOf_0 : List En := [(.aload_n 0, 0, 0, 0), (.iconst (-1), 0, 0, 0)]
def fX11_askOf_0 (v0 : Nat) (h : aH) : Option (Int32 × aH) :=
  fX11_askOf_2 v0 (kI (-1)) v0 h
theorem tX11_askOf_0 {d : Nat} {z : Int32 × aH} (v0 : Nat) (h : aH) (hf : fX11_askOf_0 v0 h = some z) : Ev (d + 6) none mX11_askOf (0, 0) 0 [.ref v0, .null, .null] [] h (QI z) := 
  go_ok (X := none) (blk := wX11_askOf_0) (np := 2) (tt := 0) (kN := fun xs h st => app [2, 0, 0] (fun v0 => apS [1, 2] (fun s0 s1 => fX11_askOf_2 v0 s0 s1 h) st) xs) (kT := fun _ _ _ => none) (kR := kRI)
    (fun xs h st q => jm [2, 0, 0] _ (fun v0 q => apS_ok [1, 2] _ (fun st => Ev (d + 6) none mX11_askOf (0, 0) 2 [.ref v0, .null, .null] st h (QI z)) st (fun s0 s1 q => tX11_askOf_2 v0 s0 s1 h q) q) q)
    (fun _ _ _ q => nos q)
    kRI_ok (Or.inr rfl) (by decide +kernel) (by decide +kernel) hf
def gX11_askOf (v0 : Nat) (h : aH) : Option (Int32 × aH) := fX11_askOf_0 v0 h
theorem zX11_askOf {d : Nat} {z : Int32 × aH} {v0 : Nat} {h : aH} (q : gX11_askOf v0 h = some z) : CT (d + 6) mX11_askOf (0, 0) [.ref v0] h (QI z) :=
  ct_ev (by decide +kernel) (Nat.le_of_ble_eq_true rfl) QI_r (jm [2, 0, 0] (fun v0 => fX11_askOf_0 v0 h) (fun v0 q => tX11_askOf_0 v0 h q) q)
def wX11_ask_23 : List En := [(.ireturn, 0, 0, 0)]
def fX11_ask_23 (s0 : Int32) (h : aH) : Option (Int32 × aH) :=
  some (s0, h)
theorem tX11_ask_23 {d : Nat} {z : Int32 × aH} (s0 : Int32) (h : aH) (hf : fX11_ask_23 s0 h = some z) : Ev (d + 7) none mX11_ask (0, 0) 23 [.null] [.int s0] h (QI z) := 
  go_ok (X := none) (blk := wX11_ask_23) (np := 24) (tt := 0) (kN := fun _ _ _ => none) (kT := fun _ _ _ => none) (kR := kRI)
    (fun _ _ _ q => nos q)
    (fun _ _ _ q => nos q)
    kRI_ok (Or.inr rfl) (by decide +kernel) (by decide +kernel) hf
theorem kqX11_ask_20 : okC mX11_ask 20 (.invokevirtual 164) 183 198 0 1 = true := by decide +kernel
def fX11_ask_20 (s0 : Int32) (s1 : Nat) (h : aH) : Option (Int32 × aH) :=
  (isO h 11 s1).bind fun _ =>
  (gX11_no s1 s0 h).bind fun r =>
  fX11_ask_23 r.1 r.2
theorem tX11_ask_20 {d : Nat} {z : Int32 × aH} (s0 : Int32) (s1 : Nat) (h : aH) (hf : fX11_ask_20 s0 s1 h = some z) : Ev (d + 7) none mX11_ask (0, 0) 20 [.null] [.int s0, .ref s1] h (QI z) := by
  obtain ⟨_, h1, hf⟩ := bnd hf
  obtain ⟨fs, ho⟩ := isO_ok h1
  obtain ⟨r, h2, hf⟩ := bnd hf
  refine ev_V kqX11_ask_20 jX11_no (zX11_no (d := d + 6) h2) ho rfl rfl (Nat.le_of_ble_eq_true rfl) rfl (as := [.int s0]) (rest := []) rfl (Nat.le_of_ble_eq_true rfl) (fun _ _ hq => ?_)
  obtain ⟨rfl, rfl⟩ := hq
  exact jm [0] (fX11_ask_23 r.1 r.2) (fun q => tX11_ask_23 r.1 r.2 q) hf
def wX11_ask_18 : List En := [(.aload_n 0, 0, 0, 0), (.iconst 1, 0, 0, 0)]
def fX11_ask_18 (v0 : Nat) (h : aH) : Option (Int32 × aH) :=
  fX11_ask_20 (kI 1) v0 h
theorem tX11_ask_18 {d : Nat} {z : Int32 × aH} (v0 : Nat) (h : aH) (hf : fX11_ask_18 v0 h = some z) : Ev (d + 7) none mX11_ask (0, 0) 18 [.ref v0] [] h (QI z) := 
  go_ok (X := none) (blk := wX11_ask_18) (np := 20) (tt := 0) (kN := fun xs h st => app [0] (apS [1, 2] (fun s0 s1 => fX11_ask_20 s0 s1 h) st) xs) (kT := fun _ _ _ => none) (kR := kRI)
    (fun xs h st q => jm [0] _ (fun q => apS_ok [1, 2] _ (fun st => Ev (d + 7) none mX11_ask (0, 0) 20 [.null] st h (QI z)) st (fun s0 s1 q => tX11_ask_20 s0 s1 h q) q) q)
    (fun _ _ _ q => nos q)
    kRI_ok (Or.inr rfl) (by decide +kernel) (by decide +kernel) hf
def wX11_ask_15 : List En := [(.goto 8, 23, 0, 0)]
def fX11_ask_15 (s0 : Int32) (h : aH) : Option (Int32 × aH) :=
  fX11_ask_23 s0 h
theorem tX11_ask_15 {d : Nat} {z : Int32 × aH} (s0 : Int32) (h : aH) (hf : fX11_ask_15 s0 h = some z) : Ev (d + 7) none mX11_ask (0, 0) 15 [.null] [.int s0] h (QI z) := 
  go_ok (X := none) (blk := wX11_ask_15) (np := 18) (tt := 23) (kN := fun _ _ _ => none) (kT := fun xs h st => app [0] (apS [1] (fun s0 => fX11_ask_23 s0 h) st) xs) (kR := kRI)
    (fun _ _ _ q => nos q)
    (fun xs h st q => jm [0] _ (fun q => apS_ok [1] _ (fun st => Ev (d + 7) none mX11_ask (0, 0) 23 [.null] st h (QI z)) st (fun s0 q => tX11_ask_23 s0 h q) q) q)
    kRI_ok (Or.inr rfl) (by decide +kernel) (by decide +kernel) hf
theorem kqX11_ask_12 : okC mX11_ask 12 (.invokevirtual 375) 276 293 0 0 = true := by decide +kernel
def fX11_ask_12 (s0 : Nat) (h : aH) : Option (Int32 × aH) :=
  (isO h 11 s0).bind fun _ =>
  (gX11_askOf s0 h).bind fun r =>
  fX11_ask_15 r.1 r.2
theorem tX11_ask_12 {d : Nat} {z : Int32 × aH} (s0 : Nat) (h : aH) (hf : fX11_ask_12 s0 h = some z) : Ev (d + 7) none mX11_ask (0, 0) 12 [.null] [.ref s0] h (QI z) := by
  obtain ⟨_, h1, hf⟩ := bnd hf
  obtain ⟨fs, ho⟩ := isO_ok h1
  obtain ⟨r, h2, hf⟩ := bnd hf
  refine ev_V kqX11_ask_12 jX11_askOf (zX11_askOf (d := d + 0) h2) ho rfl rfl (Nat.le_of_ble_eq_true rfl) rfl (as := []) (rest := []) rfl (Nat.le_of_ble_eq_true rfl) (fun _ _ hq => ?_)
  obtain ⟨rfl, rfl⟩ := hq
  exact jm [0] (fX11_ask_15 r.1 r.2) (fun q => tX11_ask_15 r.1 r.2 q) hf
def wX11_ask_11 : List En := [(.aload_n 0, 0, 0, 0)]
def fX11_ask_11 (v0 : Nat) (h : aH) : Option (Int32 × aH) :=
  fX11_ask_12 v0 h
theorem tX11_ask_11 {d : Nat} {z : Int32 × aH} (v0 : Nat) (h : aH) (hf : fX11_ask_11 v0 h = some z) : Ev (d + 7) none mX11_ask (0, 0) 11 [.ref v0] [] h (QI z) := 
  go_ok (X := none) (blk := wX11_ask_11) (np := 12) (tt := 0) (kN := fun xs h st => app [0] (apS [2] (fun s0 => fX11_ask_12 s0 h) st) xs) (kT := fun _ _ _ => none) (kR := kRI)
    (fun xs h st q => jm [0] _ (fun q => apS_ok [2] _ (fun st => Ev (d + 7) none mX11_ask (0, 0) 12 [.null] st h (QI z)) st (fun s0 q => tX11_ask_12 s0 h q) q) q)
    (fun _ _ _ q => nos q)
    kRI_ok (Or.inr rfl) (by decide +kernel) (by decide +kernel) hf
def wX11_ask_4 : List En := [(.aload_n 0, 0, 0, 0), (.getfield 174, 189, 11, 14), (.ifCond .eq 10, 18, 0, 0)]
def fX11_ask_4 (v0 : Nat) (h : aH) : Option (Int32 × aH) :=
  (gFI h 11 v0 14).bind fun t1 =>
  if t1 = 0 then fX11_ask_18 v0 h else fX11_ask_11 v0 h
theorem tX11_ask_4 {d : Nat} {z : Int32 × aH} (v0 : Nat) (h : aH) (hf : fX11_ask_4 v0 h = some z) : Ev (d + 7) none mX11_ask (0, 0) 4 [.ref v0] [] h (QI z) := 
  go_ok (X := none) (blk := wX11_ask_4) (np := 11) (tt := 18) (kN := fun xs h st => app [2] (fun v0 => apS [] (fX11_ask_11 v0 h) st) xs) (kT := fun xs h st => app [2] (fun v0 => apS [] (fX11_ask_18 v0 h) st) xs) (kR := kRI)
    (fun xs h st q => jm [2] _ (fun v0 q => apS_ok [] _ (fun st => Ev (d + 7) none mX11_ask (0, 0) 11 [.ref v0] st h (QI z)) st (fun q => tX11_ask_11 v0 h q) q) q)
    (fun xs h st q => jm [2] _ (fun v0 q => apS_ok [] _ (fun st => Ev (d + 7) none mX11_ask (0, 0) 18 [.ref v0] st h (QI z)) st (fun q => tX11_ask_18 v0 h q) q) q)
    kRI_ok (Or.inr rfl) (by decide +kernel) (by decide +kernel) hf
theorem kqX11_ask_1 : okC mX11_ask 1 (.invokevirtual 161) 181 196 0 0 = true := by decide +kernel
def fX11_ask_1 (v0 : Nat) (s0 : Nat) (h : aH) : Option (Int32 × aH) :=
  (isO h 11 s0).bind fun _ =>
  (gX11_anew s0 h).bind fun r =>
  fX11_ask_4 v0 r
theorem tX11_ask_1 {d : Nat} {z : Int32 × aH} (v0 : Nat) (s0 : Nat) (h : aH) (hf : fX11_ask_1 v0 s0 h = some z) : Ev (d + 7) none mX11_ask (0, 0) 1 [.ref v0] [.ref s0] h (QI z) := by
  obtain ⟨_, h1, hf⟩ := bnd hf
  obtain ⟨fs, ho⟩ := isO_ok h1
  obtain ⟨r, h2, hf⟩ := bnd hf
  refine ev_V kqX11_ask_1 jX11_anew (zX11_anew (d := d + 6) h2) ho rfl rfl (Nat.le_of_ble_eq_true rfl) rfl (as := []) (rest := []) rfl (Nat.le_of_ble_eq_true rfl) (fun _ _ hq => ?_)
  obtain ⟨rfl, hh⟩ := hq
  rw [hh]
  exact jm [2] (fun v0 => fX11_ask_4 v0 r) (fun v0 q => tX11_ask_4 v0 r q) hf
def wX11_ask_0 : List En := [(.aload_n 0, 0, 0, 0)]
def fX11_ask_0 (v0 : Nat) (h : aH) : Option (Int32 × aH) :=
  fX11_ask_1 v0 v0 h
theorem tX11_ask_0 {d : Nat} {z : Int32 × aH} (v0 : Nat) (h : aH) (hf : fX11_ask_0 v0 h = some z) : Ev (d + 7) none mX11_ask (0, 0) 0 [.ref v0] [] h (QI z) := 
  go_ok (X := none) (blk := wX11_ask_0) (np := 1) (tt := 0) (kN := fun xs h st => app [2] (fun v0 => apS [2] (fun s0 => fX11_ask_1 v0 s0 h) st) xs) (kT := fun _ _ _ => none) (kR := kRI)
    (fun xs h st q => jm [2] _ (fun v0 q => apS_ok [2] _ (fun st => Ev (d + 7) none mX11_ask (0, 0) 1 [.ref v0] st h (QI z)) st (fun s0 q => tX11_ask_1 v0 s0 h q) q) q)
    (fun _ _ _ q => nos q)
    kRI_ok (Or.inr rfl) (by decide +kernel) (by decide +kernel) hf
def gX11_ask (v0 : Nat) (h : aH) : Option (Int32 × aH) := fX11_ask_0 v0 h
theorem zX11_ask {d : Nat} {z : Int32 × aH} {v0 : Nat} {h : aH} (q : gX11_ask v0 h = some z) : CT (d + 7) mX11_ask (0, 0) [.ref v0] h (QI z) :=
  ct_ev (by decide +kernel) (Nat.le_of_ble_eq_true rfl) QI_r (jm [2] (fun v0 => fX11_ask_0 v0 h) (fun v0 q => tX11_ask_0 v0 h q) q)
def wX11_askLeaves_36 : List En := [(.ireturn, 0, 0, 0)]
def fX11_askLeaves_36 (s0 : Int32) (h : aH) : Option (Int32 × aH) :=
  some (s0, h)
theorem tX11_askLeaves_36 {d : Nat} {z : Int32 × aH} (s0 : Int32) (h : aH) (hf : fX11_askLeaves_36 s0 h = some z) : Ev (d + 7) none mX11_askLeaves (0, 0) 36 [.null, .null] [.int s0] h (QI z) := 
  go_ok (X := none) (blk := wX11_askLeaves_36) (np := 37) (tt := 0) (kN := fun _ _ _ => none) (kT := fun _ _ _ => none) (kR := kRI)
    (fun _ _ _ q => nos q)
    (fun _ _ _ q => nos q)
    kRI_ok (Or.inr rfl) (by decide +kernel) (by decide +kernel) hf
theorem kqX11_askLeaves_33 : okC mX11_askLeaves 33 (.invokevirtual 372) 277 294 0 1 = true := by decide +kernel
def fX11_askLeaves_33 (s0 : Int32) (s1 : Nat) (h : aH) : Option (Int32 × aH) :=
  (isO h 11 s1).bind fun _ =>
  (gX11_leavesOf s1 s0 h).bind fun r =>
  fX11_askLeaves_36 r.1 r.2
theorem tX11_askLeaves_33 {d : Nat} {z : Int32 × aH} (s0 : Int32) (s1 : Nat) (h : aH) (hf : fX11_askLeaves_33 s0 s1 h = some z) : Ev (d + 7) none mX11_askLeaves (0, 0) 33 [.null, .null] [.int s0, .ref s1] h (QI z) := by
  obtain ⟨_, h1, hf⟩ := bnd hf
  obtain ⟨fs, ho⟩ := isO_ok h1
  obtain ⟨r, h2, hf⟩ := bnd hf
  refine ev_V kqX11_askLeaves_33 jX11_leavesOf (zX11_leavesOf (d := d + 6) h2) ho rfl rfl (Nat.le_of_ble_eq_true rfl) rfl (as := [.int s0]) (rest := []) rfl (Nat.le_of_ble_eq_true rfl) (fun _ _ hq => ?_)
  obtain ⟨rfl, rfl⟩ := hq
  exact jm [0, 0] (fX11_askLeaves_36 r.1 r.2) (fun q => tX11_askLeaves_36 r.1 r.2 q) hf
def wX11_askLeaves_31 : List En := [(.aload_n 0, 0, 0, 0), (.iload_n 1, 0, 0, 0)]
def fX11_askLeaves_31 (v0 : Nat) (v1 : Int32) (h : aH) : Option (Int32 × aH) :=
  fX11_askLeaves_33 v1 v0 h
theorem tX11_askLeaves_31 {d : Nat} {z : Int32 × aH} (v0 : Nat) (v1 : Int32) (h : aH) (hf : fX11_askLeaves_31 v0 v1 h = some z) : Ev (d + 7) none mX11_askLeaves (0, 0) 31 [.ref v0, .int v1] [] h (QI z) := 
  go_ok (X := none) (blk := wX11_askLeaves_31) (np := 33) (tt := 0) (kN := fun xs h st => app [0, 0] (apS [1, 2] (fun s0 s1 => fX11_askLeaves_33 s0 s1 h) st) xs) (kT := fun _ _ _ => none) (kR := kRI)
    (fun xs h st q => jm [0, 0] _ (fun q => apS_ok [1, 2] _ (fun st => Ev (d + 7) none mX11_askLeaves (0, 0) 33 [.null, .null] st h (QI z)) st (fun s0 s1 q => tX11_askLeaves_33 s0 s1 h q) q) q)
    (fun _ _ _ q => nos q)
    kRI_ok (Or.inr rfl) (by decide +kernel) (by decide +kernel) hf
def wX11_askLeaves_26 : List En := [(.bipush (-2), 0, 0, 0), (.goto 8, 36, 0, 0)]
def fX11_askLeaves_26 (h : aH) : Option (Int32 × aH) :=
  fX11_askLeaves_36 (kB (-2)) h
theorem tX11_askLeaves_26 {d : Nat} {z : Int32 × aH} (h : aH) (hf : fX11_askLeaves_26 h = some z) : Ev (d + 7) none mX11_askLeaves (0, 0) 26 [.null, .null] [] h (QI z) := 
  go_ok (X := none) (blk := wX11_askLeaves_26) (np := 31) (tt := 36) (kN := fun _ _ _ => none) (kT := fun xs h st => app [0, 0] (apS [1] (fun s0 => fX11_askLeaves_36 s0 h) st) xs) (kR := kRI)
    (fun _ _ _ q => nos q)
    (fun xs h st q => jm [0, 0] _ (fun q => apS_ok [1] _ (fun st => Ev (d + 7) none mX11_askLeaves (0, 0) 36 [.null, .null] st h (QI z)) st (fun s0 q => tX11_askLeaves_36 s0 h q) q) q)
    kRI_ok (Or.inr rfl) (by decide +kernel) (by decide +kernel) hf
def wX11_askLeaves_21 : List En := [(.istore_n 1, 0, 0, 0), (.iload_n 1, 0, 0, 0), (.ifCond .ge 8, 31, 0, 0)]
def fX11_askLeaves_21 (v0 : Nat) (s0 : Int32) (h : aH) : Option (Int32 × aH) :=
  if s0 < 0 then fX11_askLeaves_26 h else fX11_askLeaves_31 v0 s0 h
theorem tX11_askLeaves_21 {d : Nat} {z : Int32 × aH} (v0 : Nat) (s0 : Int32) (h : aH) (hf : fX11_askLeaves_21 v0 s0 h = some z) : Ev (d + 7) none mX11_askLeaves (0, 0) 21 [.ref v0, .null] [.int s0] h (QI z) := 
  go_ok (X := none) (blk := wX11_askLeaves_21) (np := 26) (tt := 31) (kN := fun xs h st => app [0, 0] (apS [] (fX11_askLeaves_26 h) st) xs) (kT := fun xs h st => app [2, 1] (fun v0 v1 => apS [] (fX11_askLeaves_31 v0 v1 h) st) xs) (kR := kRI)
    (fun xs h st q => jm [0, 0] _ (fun q => apS_ok [] _ (fun st => Ev (d + 7) none mX11_askLeaves (0, 0) 26 [.null, .null] st h (QI z)) st (fun q => tX11_askLeaves_26 h q) q) q)
    (fun xs h st q => jm [2, 1] _ (fun v0 v1 q => apS_ok [] _ (fun st => Ev (d + 7) none mX11_askLeaves (0, 0) 31 [.ref v0, .int v1] st h (QI z)) st (fun q => tX11_askLeaves_31 v0 v1 h q) q) q)
    kRI_ok (Or.inr rfl) (by decide +kernel) (by decide +kernel) hf
theorem kqX11_askLeaves_18 : okC mX11_askLeaves 18 (.invokevirtual 375) 276 293 0 0 = true := by decide +kernel
def fX11_askLeaves_18 (v0 : Nat) (s0 : Nat) (h : aH) : Option (Int32 × aH) :=
  (isO h 11 s0).bind fun _ =>
  (gX11_askOf s0 h).bind fun r =>
  fX11_askLeaves_21 v0 r.1 r.2
theorem tX11_askLeaves_18 {d : Nat} {z : Int32 × aH} (v0 : Nat) (s0 : Nat) (h : aH) (hf : fX11_askLeaves_18 v0 s0 h = some z) : Ev (d + 7) none mX11_askLeaves (0, 0) 18 [.ref v0, .null] [.ref s0] h (QI z) := by
  obtain ⟨_, h1, hf⟩ := bnd hf
  obtain ⟨fs, ho⟩ := isO_ok h1
  obtain ⟨r, h2, hf⟩ := bnd hf
  refine ev_V kqX11_askLeaves_18 jX11_askOf (zX11_askOf (d := d + 0) h2) ho rfl rfl (Nat.le_of_ble_eq_true rfl) rfl (as := []) (rest := []) rfl (Nat.le_of_ble_eq_true rfl) (fun _ _ hq => ?_)
  obtain ⟨rfl, rfl⟩ := hq
  exact jm [2, 0] (fun v0 => fX11_askLeaves_21 v0 r.1 r.2) (fun v0 q => tX11_askLeaves_21 v0 r.1 r.2 q) hf
def wX11_askLeaves_17 : List En := [(.aload_n 0, 0, 0, 0)]
def fX11_askLeaves_17 (v0 : Nat) (h : aH) : Option (Int32 × aH) :=
  fX11_askLeaves_18 v0 v0 h
theorem tX11_askLeaves_17 {d : Nat} {z : Int32 × aH} (v0 : Nat) (h : aH) (hf : fX11_askLeaves_17 v0 h = some z) : Ev (d + 7) none mX11_askLeaves (0, 0) 17 [.ref v0, .null] [] h (QI z) := 
  go_ok (X := none) (blk := wX11_askLeaves_17) (np := 18) (tt := 0) (kN := fun xs h st => app [2, 0] (fun v0 => apS [2] (fun s0 => fX11_askLeaves_18 v0 s0 h) st) xs) (kT := fun _ _ _ => none) (kR := kRI)
    (fun xs h st q => jm [2, 0] _ (fun v0 q => apS_ok [2] _ (fun st => Ev (d + 7) none mX11_askLeaves (0, 0) 18 [.ref v0, .null] st h (QI z)) st (fun s0 q => tX11_askLeaves_18 v0 s0 h q) q) q)
    (fun _ _ _ q => nos q)
    kRI_ok (Or.inr rfl) (by decide +kernel) (by decide +kernel) hf
def wX11_askLeaves_16 : List En := [(.ireturn, 0, 0, 0)]
def fX11_askLeaves_16 (s0 : Int32) (h : aH) : Option (Int32 × aH) :=
  some (s0, h)
theorem tX11_askLeaves_16 {d : Nat} {z : Int32 × aH} (s0 : Int32) (h : aH) (hf : fX11_askLeaves_16 s0 h = some z) : Ev (d + 7) none mX11_askLeaves (0, 0) 16 [.null, .null] [.int s0] h (QI z) := 
  go_ok (X := none) (blk := wX11_askLeaves_16) (np := 17) (tt := 0) (kN := fun _ _ _ => none) (kT := fun _ _ _ => none) (kR := kRI)
    (fun _ _ _ q => nos q)
    (fun _ _ _ q => nos q)
    kRI_ok (Or.inr rfl) (by decide +kernel) (by decide +kernel) hf
theorem kqX11_askLeaves_13 : okC mX11_askLeaves 13 (.invokevirtual 164) 183 198 0 1 = true := by decide +kernel
def fX11_askLeaves_13 (s0 : Int32) (s1 : Nat) (h : aH) : Option (Int32 × aH) :=
  (isO h 11 s1).bind fun _ =>
  (gX11_no s1 s0 h).bind fun r =>
  fX11_askLeaves_16 r.1 r.2
theorem tX11_askLeaves_13 {d : Nat} {z : Int32 × aH} (s0 : Int32) (s1 : Nat) (h : aH) (hf : fX11_askLeaves_13 s0 s1 h = some z) : Ev (d + 7) none mX11_askLeaves (0, 0) 13 [.null, .null] [.int s0, .ref s1] h (QI z) := by
  obtain ⟨_, h1, hf⟩ := bnd hf
  obtain ⟨fs, ho⟩ := isO_ok h1
  obtain ⟨r, h2, hf⟩ := bnd hf
  refine ev_V kqX11_askLeaves_13 jX11_no (zX11_no (d := d + 6) h2) ho rfl rfl (Nat.le_of_ble_eq_true rfl) rfl (as := [.int s0]) (rest := []) rfl (Nat.le_of_ble_eq_true rfl) (fun _ _ hq => ?_)
  obtain ⟨rfl, rfl⟩ := hq
  exact jm [0, 0] (fX11_askLeaves_16 r.1 r.2) (fun q => tX11_askLeaves_16 r.1 r.2 q) hf
def wX11_askLeaves_11 : List En := [(.aload_n 0, 0, 0, 0), (.iconst 1, 0, 0, 0)]
def fX11_askLeaves_11 (v0 : Nat) (h : aH) : Option (Int32 × aH) :=
  fX11_askLeaves_13 (kI 1) v0 h
theorem tX11_askLeaves_11 {d : Nat} {z : Int32 × aH} (v0 : Nat) (h : aH) (hf : fX11_askLeaves_11 v0 h = some z) : Ev (d + 7) none mX11_askLeaves (0, 0) 11 [.ref v0, .null] [] h (QI z) := 
  go_ok (X := none) (blk := wX11_askLeaves_11) (np := 13) (tt := 0) (kN := fun xs h st => app [0, 0] (apS [1, 2] (fun s0 s1 => fX11_askLeaves_13 s0 s1 h) st) xs) (kT := fun _ _ _ => none) (kR := kRI)
    (fun xs h st q => jm [0, 0] _ (fun q => apS_ok [1, 2] _ (fun st => Ev (d + 7) none mX11_askLeaves (0, 0) 13 [.null, .null] st h (QI z)) st (fun s0 s1 q => tX11_askLeaves_13 s0 s1 h q) q) q)
    (fun _ _ _ q => nos q)
    kRI_ok (Or.inr rfl) (by decide +kernel) (by decide +kernel) hf
def wX11_askLeaves_4 : List En := [(.aload_n 0, 0, 0, 0), (.getfield 174, 189, 11, 14), (.ifCond .ne 9, 17, 0, 0)]
def fX11_askLeaves_4 (v0 : Nat) (h : aH) : Option (Int32 × aH) :=
  (gFI h 11 v0 14).bind fun t1 =>
  if t1 = 0 then fX11_askLeaves_11 v0 h else fX11_askLeaves_17 v0 h
theorem tX11_askLeaves_4 {d : Nat} {z : Int32 × aH} (v0 : Nat) (h : aH) (hf : fX11_askLeaves_4 v0 h = some z) : Ev (d + 7) none mX11_askLeaves (0, 0) 4 [.ref v0, .null] [] h (QI z) := 
  go_ok (X := none) (blk := wX11_askLeaves_4) (np := 11) (tt := 17) (kN := fun xs h st => app [2, 0] (fun v0 => apS [] (fX11_askLeaves_11 v0 h) st) xs) (kT := fun xs h st => app [2, 0] (fun v0 => apS [] (fX11_askLeaves_17 v0 h) st) xs) (kR := kRI)
    (fun xs h st q => jm [2, 0] _ (fun v0 q => apS_ok [] _ (fun st => Ev (d + 7) none mX11_askLeaves (0, 0) 11 [.ref v0, .null] st h (QI z)) st (fun q => tX11_askLeaves_11 v0 h q) q) q)
    (fun xs h st q => jm [2, 0] _ (fun v0 q => apS_ok [] _ (fun st => Ev (d + 7) none mX11_askLeaves (0, 0) 17 [.ref v0, .null] st h (QI z)) st (fun q => tX11_askLeaves_17 v0 h q) q) q)
    kRI_ok (Or.inr rfl) (by decide +kernel) (by decide +kernel) hf
theorem kqX11_askLeaves_1 : okC mX11_askLeaves 1 (.invokevirtual 161) 181 196 0 0 = true := by decide +kernel
def fX11_askLeaves_1 (v0 : Nat) (s0 : Nat) (h : aH) : Option (Int32 × aH) :=
  (isO h 11 s0).bind fun _ =>
  (gX11_anew s0 h).bind fun r =>
  fX11_askLeaves_4 v0 r
theorem tX11_askLeaves_1 {d : Nat} {z : Int32 × aH} (v0 : Nat) (s0 : Nat) (h : aH) (hf : fX11_askLeaves_1 v0 s0 h = some z) : Ev (d + 7) none mX11_askLeaves (0, 0) 1 [.ref v0, .null] [.ref s0] h (QI z) := by
  obtain ⟨_, h1, hf⟩ := bnd hf
  obtain ⟨fs, ho⟩ := isO_ok h1
  obtain ⟨r, h2, hf⟩ := bnd hf
  refine ev_V kqX11_askLeaves_1 jX11_anew (zX11_anew (d := d + 6) h2) ho rfl rfl (Nat.le_of_ble_eq_true rfl) rfl (as := []) (rest := []) rfl (Nat.le_of_ble_eq_true rfl) (fun _ _ hq => ?_)
  obtain ⟨rfl, hh⟩ := hq
  rw [hh]
  exact jm [2, 0] (fun v0 => fX11_askLeaves_4 v0 r) (fun v0 q => tX11_askLeaves_4 v0 r q) hf
def wX11_askLeaves_0 : List En := [(.aload_n 0, 0, 0, 0)]
def fX11_askLeaves_0 (v0 : Nat) (h : aH) : Option (Int32 × aH) :=
  fX11_askLeaves_1 v0 v0 h
theorem tX11_askLeaves_0 {d : Nat} {z : Int32 × aH} (v0 : Nat) (h : aH) (hf : fX11_askLeaves_0 v0 h = some z) : Ev (d + 7) none mX11_askLeaves (0, 0) 0 [.ref v0, .null] [] h (QI z) := 
  go_ok (X := none) (blk := wX11_askLeaves_0) (np := 1) (tt := 0) (kN := fun xs h st => app [2, 0] (fun v0 => apS [2] (fun s0 => fX11_askLeaves_1 v0 s0 h) st) xs) (kT := fun _ _ _ => none) (kR := kRI)
    (fun xs h st q => jm [2, 0] _ (fun v0 q => apS_ok [2] _ (fun st => Ev (d + 7) none mX11_askLeaves (0, 0) 1 [.ref v0, .null] st h (QI z)) st (fun s0 q => tX11_askLeaves_1 v0 s0 h q) q) q)
    (fun _ _ _ q => nos q)
    kRI_ok (Or.inr rfl) (by decide +kernel) (by decide +kernel) hf
def gX11_askLeaves (v0 : Nat) (h : aH) : Option (Int32 × aH) := fX11_askLeaves_0 v0 h
theorem zX11_askLeaves {d : Nat} {z : Int32 × aH} {v0 : Nat} {h : aH} (q : gX11_askLeaves v0 h = some z) : CT (d + 7) mX11_askLeaves (0, 0) [.ref v0] h (QI z) :=
  ct_ev (by decide +kernel) (Nat.le_of_ble_eq_true rfl) QI_r (jm [2, 0] (fun v0 => fX11_askLeaves_0 v0 h) (fun v0 q => tX11_askLeaves_0 v0 h q) q)
def wX11_judge_24 : List En := [(.ireturn, 0, 0, 0)]
def fX11_judge_24 (s0 : Int32) (h : aH) : Option (Int32 × aH) :=
  some (s0, h)
theorem tX11_judge_24 {d : Nat} {z : Int32 × aH} (s0 : Int32) (h : aH) (hf : fX11_judge_24 s0 h = some z) : Ev (d + 5) none mX11_judge (0, 0) 24 [.null] [.int s0] h (QI z) := 
  go_ok (X := none) (blk := wX11_judge_24) (np := 25) (tt := 0) (kN := fun _ _ _ => none) (kT := fun _ _ _ => none) (kR := kRI)
    (fun _ _ _ q => nos q)
    (fun _ _ _ q => nos q)
    kRI_ok (Or.inr rfl) (by decide +kernel) (by decide +kernel) hf
theorem kqX11_judge_21 : okC mX11_judge 21 (.invokevirtual 164) 183 198 0 1 = true := by decide +kernel
def fX11_judge_21 (s0 : Int32) (s1 : Nat) (h : aH) : Option (Int32 × aH) :=
  (isO h 11 s1).bind fun _ =>
  (gX11_no s1 s0 h).bind fun r =>
  fX11_judge_24 r.1 r.2
theorem tX11_judge_21 {d : Nat} {z : Int32 × aH} (s0 : Int32) (s1 : Nat) (h : aH) (hf : fX11_judge_21 s0 s1 h = some z) : Ev (d + 5) none mX11_judge (0, 0) 21 [.null] [.int s0, .ref s1] h (QI z) := by
  obtain ⟨_, h1, hf⟩ := bnd hf
  obtain ⟨fs, ho⟩ := isO_ok h1
  obtain ⟨r, h2, hf⟩ := bnd hf
  refine ev_V kqX11_judge_21 jX11_no (zX11_no (d := d + 4) h2) ho rfl rfl (Nat.le_of_ble_eq_true rfl) rfl (as := [.int s0]) (rest := []) rfl (Nat.le_of_ble_eq_true rfl) (fun _ _ hq => ?_)
  obtain ⟨rfl, rfl⟩ := hq
  exact jm [0] (fX11_judge_24 r.1 r.2) (fun q => tX11_judge_24 r.1 r.2 q) hf
def wX11_judge_19 : List En := [(.aload_n 0, 0, 0, 0), (.iconst 1, 0, 0, 0)]
def fX11_judge_19 (v0 : Nat) (h : aH) : Option (Int32 × aH) :=
  fX11_judge_21 (kI 1) v0 h
theorem tX11_judge_19 {d : Nat} {z : Int32 × aH} (v0 : Nat) (h : aH) (hf : fX11_judge_19 v0 h = some z) : Ev (d + 5) none mX11_judge (0, 0) 19 [.ref v0] [] h (QI z) := 
  go_ok (X := none) (blk := wX11_judge_19) (np := 21) (tt := 0) (kN := fun xs h st => app [0] (apS [1, 2] (fun s0 s1 => fX11_judge_21 s0 s1 h) st) xs) (kT := fun _ _ _ => none) (kR := kRI)
    (fun xs h st q => jm [0] _ (fun q => apS_ok [1, 2] _ (fun st => Ev (d + 5) none mX11_judge (0, 0) 21 [.null] st h (QI z)) st (fun s0 s1 q => tX11_judge_21 s0 s1 h q) q) q)
    (fun _ _ _ q => nos q)
    kRI_ok (Or.inr rfl) (by decide +kernel) (by decide +kernel) hf
def wX11_judge_16 : List En := [(.goto 8, 24, 0, 0)]
def fX11_judge_16 (s0 : Int32) (h : aH) : Option (Int32 × aH) :=
  fX11_judge_24 s0 h
theorem tX11_judge_16 {d : Nat} {z : Int32 × aH} (s0 : Int32) (h : aH) (hf : fX11_judge_16 s0 h = some z) : Ev (d + 5) none mX11_judge (0, 0) 16 [.null] [.int s0] h (QI z) := 
  go_ok (X := none) (blk := wX11_judge_16) (np := 19) (tt := 24) (kN := fun _ _ _ => none) (kT := fun xs h st => app [0] (apS [1] (fun s0 => fX11_judge_24 s0 h) st) xs) (kR := kRI)
    (fun _ _ _ q => nos q)
    (fun xs h st q => jm [0] _ (fun q => apS_ok [1] _ (fun st => Ev (d + 5) none mX11_judge (0, 0) 24 [.null] st h (QI z)) st (fun s0 q => tX11_judge_24 s0 h q) q) q)
    kRI_ok (Or.inr rfl) (by decide +kernel) (by decide +kernel) hf
theorem kqX11_judge_13 : okC mX11_judge 13 (.invokevirtual 366) 271 288 0 1 = true := by decide +kernel
def fX11_judge_13 (s0 : Int32) (s1 : Nat) (h : aH) : Option (Int32 × aH) :=
  (isO h 11 s1).bind fun _ =>
  (gX11_wrongBy s1 s0 h).bind fun r =>
  fX11_judge_16 r.1 r.2
theorem tX11_judge_13 {d : Nat} {z : Int32 × aH} (s0 : Int32) (s1 : Nat) (h : aH) (hf : fX11_judge_13 s0 s1 h = some z) : Ev (d + 5) none mX11_judge (0, 0) 13 [.null] [.int s0, .ref s1] h (QI z) := by
  obtain ⟨_, h1, hf⟩ := bnd hf
  obtain ⟨fs, ho⟩ := isO_ok h1
  obtain ⟨r, h2, hf⟩ := bnd hf
  refine ev_V kqX11_judge_13 jX11_wrongBy (zX11_wrongBy (d := d + 0) h2) ho rfl rfl (Nat.le_of_ble_eq_true rfl) rfl (as := [.int s0]) (rest := []) rfl (Nat.le_of_ble_eq_true rfl) (fun _ _ hq => ?_)
  obtain ⟨rfl, rfl⟩ := hq
  exact jm [0] (fX11_judge_16 r.1 r.2) (fun q => tX11_judge_16 r.1 r.2 q) hf
def wX11_judge_11 : List En := [(.aload_n 0, 0, 0, 0), (.iconst 0, 0, 0, 0)]
def fX11_judge_11 (v0 : Nat) (h : aH) : Option (Int32 × aH) :=
  fX11_judge_13 (kI 0) v0 h
theorem tX11_judge_11 {d : Nat} {z : Int32 × aH} (v0 : Nat) (h : aH) (hf : fX11_judge_11 v0 h = some z) : Ev (d + 5) none mX11_judge (0, 0) 11 [.ref v0] [] h (QI z) := 
  go_ok (X := none) (blk := wX11_judge_11) (np := 13) (tt := 0) (kN := fun xs h st => app [0] (apS [1, 2] (fun s0 s1 => fX11_judge_13 s0 s1 h) st) xs) (kT := fun _ _ _ => none) (kR := kRI)
    (fun xs h st q => jm [0] _ (fun q => apS_ok [1, 2] _ (fun st => Ev (d + 5) none mX11_judge (0, 0) 13 [.null] st h (QI z)) st (fun s0 s1 q => tX11_judge_13 s0 s1 h q) q) q)
    (fun _ _ _ q => nos q)
    kRI_ok (Or.inr rfl) (by decide +kernel) (by decide +kernel) hf
def wX11_judge_4 : List En := [(.aload_n 0, 0, 0, 0), (.getfield 174, 189, 11, 14), (.ifCond .eq 11, 19, 0, 0)]
def fX11_judge_4 (v0 : Nat) (h : aH) : Option (Int32 × aH) :=
  (gFI h 11 v0 14).bind fun t1 =>
  if t1 = 0 then fX11_judge_19 v0 h else fX11_judge_11 v0 h
theorem tX11_judge_4 {d : Nat} {z : Int32 × aH} (v0 : Nat) (h : aH) (hf : fX11_judge_4 v0 h = some z) : Ev (d + 5) none mX11_judge (0, 0) 4 [.ref v0] [] h (QI z) := 
  go_ok (X := none) (blk := wX11_judge_4) (np := 11) (tt := 19) (kN := fun xs h st => app [2] (fun v0 => apS [] (fX11_judge_11 v0 h) st) xs) (kT := fun xs h st => app [2] (fun v0 => apS [] (fX11_judge_19 v0 h) st) xs) (kR := kRI)
    (fun xs h st q => jm [2] _ (fun v0 q => apS_ok [] _ (fun st => Ev (d + 5) none mX11_judge (0, 0) 11 [.ref v0] st h (QI z)) st (fun q => tX11_judge_11 v0 h q) q) q)
    (fun xs h st q => jm [2] _ (fun v0 q => apS_ok [] _ (fun st => Ev (d + 5) none mX11_judge (0, 0) 19 [.ref v0] st h (QI z)) st (fun q => tX11_judge_19 v0 h q) q) q)
    kRI_ok (Or.inr rfl) (by decide +kernel) (by decide +kernel) hf
theorem kqX11_judge_1 : okC mX11_judge 1 (.invokevirtual 161) 181 196 0 0 = true := by decide +kernel
def fX11_judge_1 (v0 : Nat) (s0 : Nat) (h : aH) : Option (Int32 × aH) :=
  (isO h 11 s0).bind fun _ =>
  (gX11_anew s0 h).bind fun r =>
  fX11_judge_4 v0 r
theorem tX11_judge_1 {d : Nat} {z : Int32 × aH} (v0 : Nat) (s0 : Nat) (h : aH) (hf : fX11_judge_1 v0 s0 h = some z) : Ev (d + 5) none mX11_judge (0, 0) 1 [.ref v0] [.ref s0] h (QI z) := by
  obtain ⟨_, h1, hf⟩ := bnd hf
  obtain ⟨fs, ho⟩ := isO_ok h1
  obtain ⟨r, h2, hf⟩ := bnd hf
  refine ev_V kqX11_judge_1 jX11_anew (zX11_anew (d := d + 4) h2) ho rfl rfl (Nat.le_of_ble_eq_true rfl) rfl (as := []) (rest := []) rfl (Nat.le_of_ble_eq_true rfl) (fun _ _ hq => ?_)
  obtain ⟨rfl, hh⟩ := hq
  rw [hh]
  exact jm [2] (fun v0 => fX11_judge_4 v0 r) (fun v0 q => tX11_judge_4 v0 r q) hf
def wX11_judge_0 : List En := [(.aload_n 0, 0, 0, 0)]
def fX11_judge_0 (v0 : Nat) (h : aH) : Option (Int32 × aH) :=
  fX11_judge_1 v0 v0 h
theorem tX11_judge_0 {d : Nat} {z : Int32 × aH} (v0 : Nat) (h : aH) (hf : fX11_judge_0 v0 h = some z) : Ev (d + 5) none mX11_judge (0, 0) 0 [.ref v0] [] h (QI z) := 
  go_ok (X := none) (blk := wX11_judge_0) (np := 1) (tt := 0) (kN := fun xs h st => app [2] (fun v0 => apS [2] (fun s0 => fX11_judge_1 v0 s0 h) st) xs) (kT := fun _ _ _ => none) (kR := kRI)
    (fun xs h st q => jm [2] _ (fun v0 q => apS_ok [2] _ (fun st => Ev (d + 5) none mX11_judge (0, 0) 1 [.ref v0] st h (QI z)) st (fun s0 q => tX11_judge_1 v0 s0 h q) q) q)
    (fun _ _ _ q => nos q)
    kRI_ok (Or.inr rfl) (by decide +kernel) (by decide +kernel) hf
def gX11_judge (v0 : Nat) (h : aH) : Option (Int32 × aH) := fX11_judge_0 v0 h
theorem zX11_judge {d : Nat} {z : Int32 × aH} {v0 : Nat} {h : aH} (q : gX11_judge v0 h = some z) : CT (d + 5) mX11_judge (0, 0) [.ref v0] h (QI z) :=
  ct_ev (by decide +kernel) (Nat.le_of_ble_eq_true rfl) QI_r (jm [2] (fun v0 => fX11_judge_0 v0 h) (fun v0 q => tX11_judge_0 v0 h q) q)
end
