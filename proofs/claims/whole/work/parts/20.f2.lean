noncomputable section
def wX11_daysOn_39 : List En := [(.return_, 0, 0, 0)]
def fX11_daysOn_39 (h : aH) : Option (aH) :=
  some h
theorem tX11_daysOn_39 {d : Nat} {z : aH} (h : aH) (hf : fX11_daysOn_39 h = some z) : Ev (d + 4) none mX11_daysOn (0, 0) 39 [.null, .null, .null] [] h (QV z) := 
  go_ok (X := none) (blk := wX11_daysOn_39) (np := 40) (tt := 0) (kN := fun _ _ _ => none) (kT := fun _ _ _ => none) (kR := kRV)
    (fun _ _ _ q => nos q)
    (fun _ _ _ q => nos q)
    kRV_ok (Or.inr rfl) (by decide +kernel) (by decide +kernel) hf
def wX11_daysOn_33 : List En := [(.iinc 2 1, 0, 0, 0), (.goto (-18), 18, 0, 0)]
def fX11_daysOn_33 (k18 : Nat → Int32 → Int32 → aH → Option (aH)) (v0 : Nat) (v1 : Int32) (v2 : Int32) (h : aH) : Option (aH) :=
  k18 v0 v1 (v2 + kI 1) h
theorem tX11_daysOn_33 {d : Nat} {z : aH} {k18 : Nat → Int32 → Int32 → aH → Option (aH)} (hk18 : ∀ (v0 : Nat) (v1 : Int32) (v2 : Int32) (h : aH), k18 v0 v1 v2 h = some z → Ev (d + 4) none mX11_daysOn (0, 0) 18 [.ref v0, .int v1, .int v2] [] h (QV z)) (v0 : Nat) (v1 : Int32) (v2 : Int32) (h : aH) (hf : fX11_daysOn_33 k18 v0 v1 v2 h = some z) : Ev (d + 4) none mX11_daysOn (0, 0) 33 [.ref v0, .int v1, .int v2] [] h (QV z) := 
  go_ok (X := none) (blk := wX11_daysOn_33) (np := 39) (tt := 18) (kN := fun _ _ _ => none) (kT := fun xs h st => app [2, 1, 1] (fun v0 v1 v2 => apS [] (k18 v0 v1 v2 h) st) xs) (kR := kRV)
    (fun _ _ _ q => nos q)
    (fun xs h st q => jm [2, 1, 1] _ (fun v0 v1 v2 q => apS_ok [] _ (fun st => Ev (d + 4) none mX11_daysOn (0, 0) 18 [.ref v0, .int v1, .int v2] st h (QV z)) st (fun q => hk18 v0 v1 v2 h q) q) q)
    kRV_ok (Or.inr rfl) (by decide +kernel) (by decide +kernel) hf
theorem kqX11_daysOn_30 : okC mX11_daysOn 30 (.invokevirtual 281) 228 245 0 3 = true := by decide +kernel
def fX11_daysOn_30 (k18 : Nat → Int32 → Int32 → aH → Option (aH)) (v0 : Nat) (v1 : Int32) (v2 : Int32) (s0 : Int32) (s1 : Int32) (s2 : Nat) (s3 : Nat) (h : aH) : Option (aH) :=
  (isO h 11 s3).bind fun _ =>
  (gX11_dayOn s3 s2 s1 s0 h).bind fun r =>
  fX11_daysOn_33 k18 v0 v1 v2 r
theorem tX11_daysOn_30 {d : Nat} {z : aH} {k18 : Nat → Int32 → Int32 → aH → Option (aH)} (hk18 : ∀ (v0 : Nat) (v1 : Int32) (v2 : Int32) (h : aH), k18 v0 v1 v2 h = some z → Ev (d + 4) none mX11_daysOn (0, 0) 18 [.ref v0, .int v1, .int v2] [] h (QV z)) (v0 : Nat) (v1 : Int32) (v2 : Int32) (s0 : Int32) (s1 : Int32) (s2 : Nat) (s3 : Nat) (h : aH) (hf : fX11_daysOn_30 k18 v0 v1 v2 s0 s1 s2 s3 h = some z) : Ev (d + 4) none mX11_daysOn (0, 0) 30 [.ref v0, .int v1, .int v2] [.int s0, .int s1, .ref s2, .ref s3] h (QV z) := by
  obtain ⟨_, h1, hf⟩ := bnd hf
  obtain ⟨fs, ho⟩ := isO_ok h1
  obtain ⟨r, h2, hf⟩ := bnd hf
  refine ev_V kqX11_daysOn_30 jX11_dayOn (zX11_dayOn (d := d + 0) h2) ho rfl rfl (Nat.le_of_ble_eq_true rfl) rfl (as := [.ref s2, .int s1, .int s0]) (rest := []) rfl (Nat.le_of_ble_eq_true rfl) (fun _ _ hq => ?_)
  obtain ⟨rfl, hh⟩ := hq
  rw [hh]
  exact jm [2, 1, 1] (fun v0 v1 v2 => fX11_daysOn_33 k18 v0 v1 v2 r) (fun v0 v1 v2 q => tX11_daysOn_33 hk18 v0 v1 v2 r q) hf
def wX11_daysOn_23 : List En := [(.aload_n 0, 0, 0, 0), (.aload_n 0, 0, 0, 0), (.getfield 35, 195, 11, 20), (.iconst 0, 0, 0, 0), (.iconst 0, 0, 0, 0)]
def fX11_daysOn_23 (k18 : Nat → Int32 → Int32 → aH → Option (aH)) (v0 : Nat) (v1 : Int32) (v2 : Int32) (h : aH) : Option (aH) :=
  (gFR h 11 v0 20).bind fun t1 =>
  fX11_daysOn_30 k18 v0 v1 v2 (kI 0) (kI 0) t1 v0 h
theorem tX11_daysOn_23 {d : Nat} {z : aH} {k18 : Nat → Int32 → Int32 → aH → Option (aH)} (hk18 : ∀ (v0 : Nat) (v1 : Int32) (v2 : Int32) (h : aH), k18 v0 v1 v2 h = some z → Ev (d + 4) none mX11_daysOn (0, 0) 18 [.ref v0, .int v1, .int v2] [] h (QV z)) (v0 : Nat) (v1 : Int32) (v2 : Int32) (h : aH) (hf : fX11_daysOn_23 k18 v0 v1 v2 h = some z) : Ev (d + 4) none mX11_daysOn (0, 0) 23 [.ref v0, .int v1, .int v2] [] h (QV z) := 
  go_ok (X := none) (blk := wX11_daysOn_23) (np := 30) (tt := 0) (kN := fun xs h st => app [2, 1, 1] (fun v0 v1 v2 => apS [1, 1, 2, 2] (fun s0 s1 s2 s3 => fX11_daysOn_30 k18 v0 v1 v2 s0 s1 s2 s3 h) st) xs) (kT := fun _ _ _ => none) (kR := kRV)
    (fun xs h st q => jm [2, 1, 1] _ (fun v0 v1 v2 q => apS_ok [1, 1, 2, 2] _ (fun st => Ev (d + 4) none mX11_daysOn (0, 0) 30 [.ref v0, .int v1, .int v2] st h (QV z)) st (fun s0 s1 s2 s3 q => tX11_daysOn_30 hk18 v0 v1 v2 s0 s1 s2 s3 h q) q) q)
    (fun _ _ _ q => nos q)
    kRV_ok (Or.inr rfl) (by decide +kernel) (by decide +kernel) hf
def wX11_daysOn_18 : List En := [(.iload_n 2, 0, 0, 0), (.iload_n 1, 0, 0, 0), (.if_icmp .ge 19, 39, 0, 0)]
def fX11_daysOn_18 (k18 : Nat → Int32 → Int32 → aH → Option (aH)) (v0 : Nat) (v1 : Int32) (v2 : Int32) (h : aH) : Option (aH) :=
  if v2 < v1 then fX11_daysOn_23 k18 v0 v1 v2 h else fX11_daysOn_39 h
theorem tX11_daysOn_18 {d : Nat} {z : aH} {k18 : Nat → Int32 → Int32 → aH → Option (aH)} (hk18 : ∀ (v0 : Nat) (v1 : Int32) (v2 : Int32) (h : aH), k18 v0 v1 v2 h = some z → Ev (d + 4) none mX11_daysOn (0, 0) 18 [.ref v0, .int v1, .int v2] [] h (QV z)) (v0 : Nat) (v1 : Int32) (v2 : Int32) (h : aH) (hf : fX11_daysOn_18 k18 v0 v1 v2 h = some z) : Ev (d + 4) none mX11_daysOn (0, 0) 18 [.ref v0, .int v1, .int v2] [] h (QV z) := 
  go_ok (X := none) (blk := wX11_daysOn_18) (np := 23) (tt := 39) (kN := fun xs h st => app [2, 1, 1] (fun v0 v1 v2 => apS [] (fX11_daysOn_23 k18 v0 v1 v2 h) st) xs) (kT := fun xs h st => app [0, 0, 0] (apS [] (fX11_daysOn_39 h) st) xs) (kR := kRV)
    (fun xs h st q => jm [2, 1, 1] _ (fun v0 v1 v2 q => apS_ok [] _ (fun st => Ev (d + 4) none mX11_daysOn (0, 0) 23 [.ref v0, .int v1, .int v2] st h (QV z)) st (fun q => tX11_daysOn_23 hk18 v0 v1 v2 h q) q) q)
    (fun xs h st q => jm [0, 0, 0] _ (fun q => apS_ok [] _ (fun st => Ev (d + 4) none mX11_daysOn (0, 0) 39 [.null, .null, .null] st h (QV z)) st (fun q => tX11_daysOn_39 h q) q) q)
    kRV_ok (Or.inr rfl) (by decide +kernel) (by decide +kernel) hf
def lX11_daysOn_18 : Nat → Nat → Int32 → Int32 → aH → Option (aH)
  | 0, _, _, _, _ => none
  | n + 1, v0, v1, v2, h => fX11_daysOn_18 (lX11_daysOn_18 n) v0 v1 v2 h
theorem uX11_daysOn_18 {d : Nat} {z : aH} : ∀ (n : Nat) (v0 : Nat) (v1 : Int32) (v2 : Int32) (h : aH), lX11_daysOn_18 n v0 v1 v2 h = some z → Ev (d + 4) none mX11_daysOn (0, 0) 18 [.ref v0, .int v1, .int v2] [] h (QV z) := by
  intro n
  induction n with
  | zero => intro _ _ _ _ q; exact nos (show (none : Option (aH)) = some z from q)
  | succ n ih => intro v0 v1 v2 h q; exact tX11_daysOn_18 ih v0 v1 v2 h q
def wX11_daysOn_4 : List En := [(.aload_n 0, 0, 0, 0), (.bipush (-2), 0, 0, 0), (.putfield 268, 200, 11, 25), (.aload_n 0, 0, 0, 0), (.bipush (-2), 0, 0, 0), (.putfield 257, 201, 11, 26), (.iconst 0, 0, 0, 0), (.istore_n 2, 0, 0, 0)]
def fX11_daysOn_4 (v0 : Nat) (v1 : Int32) (h : aH) : Option (aH) :=
  (pWV h 11 v0 25 (.int (kB (-2)))).bind fun h1 =>
  (pWV h1 11 v0 26 (.int (kB (-2)))).bind fun h2 =>
  lX11_daysOn_18 FU v0 v1 (kI 0) h2
theorem tX11_daysOn_4 {d : Nat} {z : aH} (v0 : Nat) (v1 : Int32) (h : aH) (hf : fX11_daysOn_4 v0 v1 h = some z) : Ev (d + 4) none mX11_daysOn (0, 0) 4 [.ref v0, .int v1, .null] [] h (QV z) := 
  go_ok (X := none) (blk := wX11_daysOn_4) (np := 18) (tt := 0) (kN := fun xs h st => app [2, 1, 1] (fun v0 v1 v2 => apS [] (lX11_daysOn_18 FU v0 v1 v2 h) st) xs) (kT := fun _ _ _ => none) (kR := kRV)
    (fun xs h st q => jm [2, 1, 1] _ (fun v0 v1 v2 q => apS_ok [] _ (fun st => Ev (d + 4) none mX11_daysOn (0, 0) 18 [.ref v0, .int v1, .int v2] st h (QV z)) st (fun q => uX11_daysOn_18 FU v0 v1 v2 h q) q) q)
    (fun _ _ _ q => nos q)
    kRV_ok (Or.inr rfl) (by decide +kernel) (by decide +kernel) hf
theorem kqX11_daysOn_1 : okC mX11_daysOn 1 (.invokevirtual 278) 220 237 0 0 = true := by decide +kernel
def fX11_daysOn_1 (v0 : Nat) (v1 : Int32) (s0 : Nat) (h : aH) : Option (aH) :=
  (isO h 11 s0).bind fun _ =>
  (gX11_begin s0 h).bind fun r =>
  fX11_daysOn_4 v0 v1 r
theorem tX11_daysOn_1 {d : Nat} {z : aH} (v0 : Nat) (v1 : Int32) (s0 : Nat) (h : aH) (hf : fX11_daysOn_1 v0 v1 s0 h = some z) : Ev (d + 4) none mX11_daysOn (0, 0) 1 [.ref v0, .int v1, .null] [.ref s0] h (QV z) := by
  obtain ⟨_, h1, hf⟩ := bnd hf
  obtain ⟨fs, ho⟩ := isO_ok h1
  obtain ⟨r, h2, hf⟩ := bnd hf
  refine ev_V kqX11_daysOn_1 jX11_begin (zX11_begin (d := d + 2) h2) ho rfl rfl (Nat.le_of_ble_eq_true rfl) rfl (as := []) (rest := []) rfl (Nat.le_of_ble_eq_true rfl) (fun _ _ hq => ?_)
  obtain ⟨rfl, hh⟩ := hq
  rw [hh]
  exact jm [2, 1, 0] (fun v0 v1 => fX11_daysOn_4 v0 v1 r) (fun v0 v1 q => tX11_daysOn_4 v0 v1 r q) hf
def wX11_daysOn_0 : List En := [(.aload_n 0, 0, 0, 0)]
def fX11_daysOn_0 (v0 : Nat) (v1 : Int32) (h : aH) : Option (aH) :=
  fX11_daysOn_1 v0 v1 v0 h
theorem tX11_daysOn_0 {d : Nat} {z : aH} (v0 : Nat) (v1 : Int32) (h : aH) (hf : fX11_daysOn_0 v0 v1 h = some z) : Ev (d + 4) none mX11_daysOn (0, 0) 0 [.ref v0, .int v1, .null] [] h (QV z) := 
  go_ok (X := none) (blk := wX11_daysOn_0) (np := 1) (tt := 0) (kN := fun xs h st => app [2, 1, 0] (fun v0 v1 => apS [2] (fun s0 => fX11_daysOn_1 v0 v1 s0 h) st) xs) (kT := fun _ _ _ => none) (kR := kRV)
    (fun xs h st q => jm [2, 1, 0] _ (fun v0 v1 q => apS_ok [2] _ (fun st => Ev (d + 4) none mX11_daysOn (0, 0) 1 [.ref v0, .int v1, .null] st h (QV z)) st (fun s0 q => tX11_daysOn_1 v0 v1 s0 h q) q) q)
    (fun _ _ _ q => nos q)
    kRV_ok (Or.inr rfl) (by decide +kernel) (by decide +kernel) hf
def gX11_daysOn (v0 : Nat) (v1 : Int32) (h : aH) : Option (aH) := fX11_daysOn_0 v0 v1 h
theorem zX11_daysOn {d : Nat} {z : aH} {v0 : Nat} {v1 : Int32} {h : aH} (q : gX11_daysOn v0 v1 h = some z) : CT (d + 4) mX11_daysOn (0, 0) [.ref v0, .int v1] h (QV z) :=
  ct_ev (by decide +kernel) (Nat.le_of_ble_eq_true rfl) QV_r (jm [2, 1, 0] (fun v0 v1 => fX11_daysOn_0 v0 v1 h) (fun v0 v1 q => tX11_daysOn_0 v0 v1 h q) q)
def wX11_namer_22 : List En := [(.aload_n 0, 0, 0, 0), (.getfield 268, 200, 11, 25), (.ireturn, 0, 0, 0)]
def fX11_namer_22 (v0 : Nat) (h : aH) : Option (Int32 × aH) :=
  (gFI h 11 v0 25).bind fun t1 =>
  some (t1, h)
theorem tX11_namer_22 {d : Nat} {z : Int32 × aH} (v0 : Nat) (h : aH) (hf : fX11_namer_22 v0 h = some z) : Ev (d + 5) none mX11_namer (0, 0) 22 [.ref v0] [] h (QI z) := 
  go_ok (X := none) (blk := wX11_namer_22) (np := 27) (tt := 0) (kN := fun _ _ _ => none) (kT := fun _ _ _ => none) (kR := kRI)
    (fun _ _ _ q => nos q)
    (fun _ _ _ q => nos q)
    kRI_ok (Or.inr rfl) (by decide +kernel) (by decide +kernel) hf
theorem kqX11_namer_19 : okC mX11_namer 19 (.invokevirtual 294) 227 244 0 1 = true := by decide +kernel
def fX11_namer_19 (v0 : Nat) (s0 : Int32) (s1 : Nat) (h : aH) : Option (Int32 × aH) :=
  (isO h 11 s1).bind fun _ =>
  (gX11_daysOn s1 s0 h).bind fun r =>
  fX11_namer_22 v0 r
theorem tX11_namer_19 {d : Nat} {z : Int32 × aH} (v0 : Nat) (s0 : Int32) (s1 : Nat) (h : aH) (hf : fX11_namer_19 v0 s0 s1 h = some z) : Ev (d + 5) none mX11_namer (0, 0) 19 [.ref v0] [.int s0, .ref s1] h (QI z) := by
  obtain ⟨_, h1, hf⟩ := bnd hf
  obtain ⟨fs, ho⟩ := isO_ok h1
  obtain ⟨r, h2, hf⟩ := bnd hf
  refine ev_V kqX11_namer_19 jX11_daysOn (zX11_daysOn (d := d + 0) h2) ho rfl rfl (Nat.le_of_ble_eq_true rfl) rfl (as := [.int s0]) (rest := []) rfl (Nat.le_of_ble_eq_true rfl) (fun _ _ hq => ?_)
  obtain ⟨rfl, hh⟩ := hq
  rw [hh]
  exact jm [2] (fun v0 => fX11_namer_22 v0 r) (fun v0 q => tX11_namer_22 v0 r q) hf
def wX11_namer_17 : List En := [(.aload_n 0, 0, 0, 0), (.iconst 1, 0, 0, 0)]
def fX11_namer_17 (v0 : Nat) (h : aH) : Option (Int32 × aH) :=
  fX11_namer_19 v0 (kI 1) v0 h
theorem tX11_namer_17 {d : Nat} {z : Int32 × aH} (v0 : Nat) (h : aH) (hf : fX11_namer_17 v0 h = some z) : Ev (d + 5) none mX11_namer (0, 0) 17 [.ref v0] [] h (QI z) := 
  go_ok (X := none) (blk := wX11_namer_17) (np := 19) (tt := 0) (kN := fun xs h st => app [2] (fun v0 => apS [1, 2] (fun s0 s1 => fX11_namer_19 v0 s0 s1 h) st) xs) (kT := fun _ _ _ => none) (kR := kRI)
    (fun xs h st q => jm [2] _ (fun v0 q => apS_ok [1, 2] _ (fun st => Ev (d + 5) none mX11_namer (0, 0) 19 [.ref v0] st h (QI z)) st (fun s0 s1 q => tX11_namer_19 v0 s0 s1 h q) q) q)
    (fun _ _ _ q => nos q)
    kRI_ok (Or.inr rfl) (by decide +kernel) (by decide +kernel) hf
def wX11_namer_16 : List En := [(.ireturn, 0, 0, 0)]
def fX11_namer_16 (s0 : Int32) (h : aH) : Option (Int32 × aH) :=
  some (s0, h)
theorem tX11_namer_16 {d : Nat} {z : Int32 × aH} (s0 : Int32) (h : aH) (hf : fX11_namer_16 s0 h = some z) : Ev (d + 5) none mX11_namer (0, 0) 16 [.null] [.int s0] h (QI z) := 
  go_ok (X := none) (blk := wX11_namer_16) (np := 17) (tt := 0) (kN := fun _ _ _ => none) (kT := fun _ _ _ => none) (kR := kRI)
    (fun _ _ _ q => nos q)
    (fun _ _ _ q => nos q)
    kRI_ok (Or.inr rfl) (by decide +kernel) (by decide +kernel) hf
theorem kqX11_namer_13 : okC mX11_namer 13 (.invokevirtual 164) 183 198 0 1 = true := by decide +kernel
def fX11_namer_13 (s0 : Int32) (s1 : Nat) (h : aH) : Option (Int32 × aH) :=
  (isO h 11 s1).bind fun _ =>
  (gX11_no s1 s0 h).bind fun r =>
  fX11_namer_16 r.1 r.2
theorem tX11_namer_13 {d : Nat} {z : Int32 × aH} (s0 : Int32) (s1 : Nat) (h : aH) (hf : fX11_namer_13 s0 s1 h = some z) : Ev (d + 5) none mX11_namer (0, 0) 13 [.null] [.int s0, .ref s1] h (QI z) := by
  obtain ⟨_, h1, hf⟩ := bnd hf
  obtain ⟨fs, ho⟩ := isO_ok h1
  obtain ⟨r, h2, hf⟩ := bnd hf
  refine ev_V kqX11_namer_13 jX11_no (zX11_no (d := d + 4) h2) ho rfl rfl (Nat.le_of_ble_eq_true rfl) rfl (as := [.int s0]) (rest := []) rfl (Nat.le_of_ble_eq_true rfl) (fun _ _ hq => ?_)
  obtain ⟨rfl, rfl⟩ := hq
  exact jm [0] (fX11_namer_16 r.1 r.2) (fun q => tX11_namer_16 r.1 r.2 q) hf
def wX11_namer_11 : List En := [(.aload_n 0, 0, 0, 0), (.iconst 1, 0, 0, 0)]
def fX11_namer_11 (v0 : Nat) (h : aH) : Option (Int32 × aH) :=
  fX11_namer_13 (kI 1) v0 h
theorem tX11_namer_11 {d : Nat} {z : Int32 × aH} (v0 : Nat) (h : aH) (hf : fX11_namer_11 v0 h = some z) : Ev (d + 5) none mX11_namer (0, 0) 11 [.ref v0] [] h (QI z) := 
  go_ok (X := none) (blk := wX11_namer_11) (np := 13) (tt := 0) (kN := fun xs h st => app [0] (apS [1, 2] (fun s0 s1 => fX11_namer_13 s0 s1 h) st) xs) (kT := fun _ _ _ => none) (kR := kRI)
    (fun xs h st q => jm [0] _ (fun q => apS_ok [1, 2] _ (fun st => Ev (d + 5) none mX11_namer (0, 0) 13 [.null] st h (QI z)) st (fun s0 s1 q => tX11_namer_13 s0 s1 h q) q) q)
    (fun _ _ _ q => nos q)
    kRI_ok (Or.inr rfl) (by decide +kernel) (by decide +kernel) hf
def wX11_namer_4 : List En := [(.aload_n 0, 0, 0, 0), (.getfield 174, 189, 11, 14), (.ifCond .ne 9, 17, 0, 0)]
def fX11_namer_4 (v0 : Nat) (h : aH) : Option (Int32 × aH) :=
  (gFI h 11 v0 14).bind fun t1 =>
  if t1 = 0 then fX11_namer_11 v0 h else fX11_namer_17 v0 h
theorem tX11_namer_4 {d : Nat} {z : Int32 × aH} (v0 : Nat) (h : aH) (hf : fX11_namer_4 v0 h = some z) : Ev (d + 5) none mX11_namer (0, 0) 4 [.ref v0] [] h (QI z) := 
  go_ok (X := none) (blk := wX11_namer_4) (np := 11) (tt := 17) (kN := fun xs h st => app [2] (fun v0 => apS [] (fX11_namer_11 v0 h) st) xs) (kT := fun xs h st => app [2] (fun v0 => apS [] (fX11_namer_17 v0 h) st) xs) (kR := kRI)
    (fun xs h st q => jm [2] _ (fun v0 q => apS_ok [] _ (fun st => Ev (d + 5) none mX11_namer (0, 0) 11 [.ref v0] st h (QI z)) st (fun q => tX11_namer_11 v0 h q) q) q)
    (fun xs h st q => jm [2] _ (fun v0 q => apS_ok [] _ (fun st => Ev (d + 5) none mX11_namer (0, 0) 17 [.ref v0] st h (QI z)) st (fun q => tX11_namer_17 v0 h q) q) q)
    kRI_ok (Or.inr rfl) (by decide +kernel) (by decide +kernel) hf
theorem kqX11_namer_1 : okC mX11_namer 1 (.invokevirtual 161) 181 196 0 0 = true := by decide +kernel
def fX11_namer_1 (v0 : Nat) (s0 : Nat) (h : aH) : Option (Int32 × aH) :=
  (isO h 11 s0).bind fun _ =>
  (gX11_anew s0 h).bind fun r =>
  fX11_namer_4 v0 r
theorem tX11_namer_1 {d : Nat} {z : Int32 × aH} (v0 : Nat) (s0 : Nat) (h : aH) (hf : fX11_namer_1 v0 s0 h = some z) : Ev (d + 5) none mX11_namer (0, 0) 1 [.ref v0] [.ref s0] h (QI z) := by
  obtain ⟨_, h1, hf⟩ := bnd hf
  obtain ⟨fs, ho⟩ := isO_ok h1
  obtain ⟨r, h2, hf⟩ := bnd hf
  refine ev_V kqX11_namer_1 jX11_anew (zX11_anew (d := d + 4) h2) ho rfl rfl (Nat.le_of_ble_eq_true rfl) rfl (as := []) (rest := []) rfl (Nat.le_of_ble_eq_true rfl) (fun _ _ hq => ?_)
  obtain ⟨rfl, hh⟩ := hq
  rw [hh]
  exact jm [2] (fun v0 => fX11_namer_4 v0 r) (fun v0 q => tX11_namer_4 v0 r q) hf
def wX11_namer_0 : List En := [(.aload_n 0, 0, 0, 0)]
def fX11_namer_0 (v0 : Nat) (h : aH) : Option (Int32 × aH) :=
  fX11_namer_1 v0 v0 h
theorem tX11_namer_0 {d : Nat} {z : Int32 × aH} (v0 : Nat) (h : aH) (hf : fX11_namer_0 v0 h = some z) : Ev (d + 5) none mX11_namer (0, 0) 0 [.ref v0] [] h (QI z) := 
  go_ok (X := none) (blk := wX11_namer_0) (np := 1) (tt := 0) (kN := fun xs h st => app [2] (fun v0 => apS [2] (fun s0 => fX11_namer_1 v0 s0 h) st) xs) (kT := fun _ _ _ => none) (kR := kRI)
    (fun xs h st q => jm [2] _ (fun v0 q => apS_ok [2] _ (fun st => Ev (d + 5) none mX11_namer (0, 0) 1 [.ref v0] st h (QI z)) st (fun s0 q => tX11_namer_1 v0 s0 h q) q) q)
    (fun _ _ _ q => nos q)
    kRI_ok (Or.inr rfl) (by decide +kernel) (by decide +kernel) hf
def gX11_namer (v0 : Nat) (h : aH) : Option (Int32 × aH) := fX11_namer_0 v0 h
theorem zX11_namer {d : Nat} {z : Int32 × aH} {v0 : Nat} {h : aH} (q : gX11_namer v0 h = some z) : CT (d + 5) mX11_namer (0, 0) [.ref v0] h (QI z) :=
  ct_ev (by decide +kernel) (Nat.le_of_ble_eq_true rfl) QI_r (jm [2] (fun v0 => fX11_namer_0 v0 h) (fun v0 q => tX11_namer_0 v0 h q) q)
def wX11_dish_22 : List En := [(.aload_n 0, 0, 0, 0), (.getfield 257, 201, 11, 26), (.ireturn, 0, 0, 0)]
def fX11_dish_22 (v0 : Nat) (h : aH) : Option (Int32 × aH) :=
  (gFI h 11 v0 26).bind fun t1 =>
  some (t1, h)
theorem tX11_dish_22 {d : Nat} {z : Int32 × aH} (v0 : Nat) (h : aH) (hf : fX11_dish_22 v0 h = some z) : Ev (d + 5) none mX11_dish (0, 0) 22 [.ref v0] [] h (QI z) := 
  go_ok (X := none) (blk := wX11_dish_22) (np := 27) (tt := 0) (kN := fun _ _ _ => none) (kT := fun _ _ _ => none) (kR := kRI)
    (fun _ _ _ q => nos q)
    (fun _ _ _ q => nos q)
    kRI_ok (Or.inr rfl) (by decide +kernel) (by decide +kernel) hf
theorem kqX11_dish_19 : okC mX11_dish 19 (.invokevirtual 294) 227 244 0 1 = true := by decide +kernel
def fX11_dish_19 (v0 : Nat) (s0 : Int32) (s1 : Nat) (h : aH) : Option (Int32 × aH) :=
  (isO h 11 s1).bind fun _ =>
  (gX11_daysOn s1 s0 h).bind fun r =>
  fX11_dish_22 v0 r
theorem tX11_dish_19 {d : Nat} {z : Int32 × aH} (v0 : Nat) (s0 : Int32) (s1 : Nat) (h : aH) (hf : fX11_dish_19 v0 s0 s1 h = some z) : Ev (d + 5) none mX11_dish (0, 0) 19 [.ref v0] [.int s0, .ref s1] h (QI z) := by
  obtain ⟨_, h1, hf⟩ := bnd hf
  obtain ⟨fs, ho⟩ := isO_ok h1
  obtain ⟨r, h2, hf⟩ := bnd hf
  refine ev_V kqX11_dish_19 jX11_daysOn (zX11_daysOn (d := d + 0) h2) ho rfl rfl (Nat.le_of_ble_eq_true rfl) rfl (as := [.int s0]) (rest := []) rfl (Nat.le_of_ble_eq_true rfl) (fun _ _ hq => ?_)
  obtain ⟨rfl, hh⟩ := hq
  rw [hh]
  exact jm [2] (fun v0 => fX11_dish_22 v0 r) (fun v0 q => tX11_dish_22 v0 r q) hf
def wX11_dish_17 : List En := [(.aload_n 0, 0, 0, 0), (.iconst 1, 0, 0, 0)]
def fX11_dish_17 (v0 : Nat) (h : aH) : Option (Int32 × aH) :=
  fX11_dish_19 v0 (kI 1) v0 h
theorem tX11_dish_17 {d : Nat} {z : Int32 × aH} (v0 : Nat) (h : aH) (hf : fX11_dish_17 v0 h = some z) : Ev (d + 5) none mX11_dish (0, 0) 17 [.ref v0] [] h (QI z) := 
  go_ok (X := none) (blk := wX11_dish_17) (np := 19) (tt := 0) (kN := fun xs h st => app [2] (fun v0 => apS [1, 2] (fun s0 s1 => fX11_dish_19 v0 s0 s1 h) st) xs) (kT := fun _ _ _ => none) (kR := kRI)
    (fun xs h st q => jm [2] _ (fun v0 q => apS_ok [1, 2] _ (fun st => Ev (d + 5) none mX11_dish (0, 0) 19 [.ref v0] st h (QI z)) st (fun s0 s1 q => tX11_dish_19 v0 s0 s1 h q) q) q)
    (fun _ _ _ q => nos q)
    kRI_ok (Or.inr rfl) (by decide +kernel) (by decide +kernel) hf
def wX11_dish_16 : List En := [(.ireturn, 0, 0, 0)]
def fX11_dish_16 (s0 : Int32) (h : aH) : Option (Int32 × aH) :=
  some (s0, h)
theorem tX11_dish_16 {d : Nat} {z : Int32 × aH} (s0 : Int32) (h : aH) (hf : fX11_dish_16 s0 h = some z) : Ev (d + 5) none mX11_dish (0, 0) 16 [.null] [.int s0] h (QI z) := 
  go_ok (X := none) (blk := wX11_dish_16) (np := 17) (tt := 0) (kN := fun _ _ _ => none) (kT := fun _ _ _ => none) (kR := kRI)
    (fun _ _ _ q => nos q)
    (fun _ _ _ q => nos q)
    kRI_ok (Or.inr rfl) (by decide +kernel) (by decide +kernel) hf
theorem kqX11_dish_13 : okC mX11_dish 13 (.invokevirtual 164) 183 198 0 1 = true := by decide +kernel
def fX11_dish_13 (s0 : Int32) (s1 : Nat) (h : aH) : Option (Int32 × aH) :=
  (isO h 11 s1).bind fun _ =>
  (gX11_no s1 s0 h).bind fun r =>
  fX11_dish_16 r.1 r.2
theorem tX11_dish_13 {d : Nat} {z : Int32 × aH} (s0 : Int32) (s1 : Nat) (h : aH) (hf : fX11_dish_13 s0 s1 h = some z) : Ev (d + 5) none mX11_dish (0, 0) 13 [.null] [.int s0, .ref s1] h (QI z) := by
  obtain ⟨_, h1, hf⟩ := bnd hf
  obtain ⟨fs, ho⟩ := isO_ok h1
  obtain ⟨r, h2, hf⟩ := bnd hf
  refine ev_V kqX11_dish_13 jX11_no (zX11_no (d := d + 4) h2) ho rfl rfl (Nat.le_of_ble_eq_true rfl) rfl (as := [.int s0]) (rest := []) rfl (Nat.le_of_ble_eq_true rfl) (fun _ _ hq => ?_)
  obtain ⟨rfl, rfl⟩ := hq
  exact jm [0] (fX11_dish_16 r.1 r.2) (fun q => tX11_dish_16 r.1 r.2 q) hf
def wX11_dish_11 : List En := [(.aload_n 0, 0, 0, 0), (.iconst 1, 0, 0, 0)]
def fX11_dish_11 (v0 : Nat) (h : aH) : Option (Int32 × aH) :=
  fX11_dish_13 (kI 1) v0 h
theorem tX11_dish_11 {d : Nat} {z : Int32 × aH} (v0 : Nat) (h : aH) (hf : fX11_dish_11 v0 h = some z) : Ev (d + 5) none mX11_dish (0, 0) 11 [.ref v0] [] h (QI z) := 
  go_ok (X := none) (blk := wX11_dish_11) (np := 13) (tt := 0) (kN := fun xs h st => app [0] (apS [1, 2] (fun s0 s1 => fX11_dish_13 s0 s1 h) st) xs) (kT := fun _ _ _ => none) (kR := kRI)
    (fun xs h st q => jm [0] _ (fun q => apS_ok [1, 2] _ (fun st => Ev (d + 5) none mX11_dish (0, 0) 13 [.null] st h (QI z)) st (fun s0 s1 q => tX11_dish_13 s0 s1 h q) q) q)
    (fun _ _ _ q => nos q)
    kRI_ok (Or.inr rfl) (by decide +kernel) (by decide +kernel) hf
def wX11_dish_4 : List En := [(.aload_n 0, 0, 0, 0), (.getfield 174, 189, 11, 14), (.ifCond .ne 9, 17, 0, 0)]
def fX11_dish_4 (v0 : Nat) (h : aH) : Option (Int32 × aH) :=
  (gFI h 11 v0 14).bind fun t1 =>
  if t1 = 0 then fX11_dish_11 v0 h else fX11_dish_17 v0 h
theorem tX11_dish_4 {d : Nat} {z : Int32 × aH} (v0 : Nat) (h : aH) (hf : fX11_dish_4 v0 h = some z) : Ev (d + 5) none mX11_dish (0, 0) 4 [.ref v0] [] h (QI z) := 
  go_ok (X := none) (blk := wX11_dish_4) (np := 11) (tt := 17) (kN := fun xs h st => app [2] (fun v0 => apS [] (fX11_dish_11 v0 h) st) xs) (kT := fun xs h st => app [2] (fun v0 => apS [] (fX11_dish_17 v0 h) st) xs) (kR := kRI)
    (fun xs h st q => jm [2] _ (fun v0 q => apS_ok [] _ (fun st => Ev (d + 5) none mX11_dish (0, 0) 11 [.ref v0] st h (QI z)) st (fun q => tX11_dish_11 v0 h q) q) q)
    (fun xs h st q => jm [2] _ (fun v0 q => apS_ok [] _ (fun st => Ev (d + 5) none mX11_dish (0, 0) 17 [.ref v0] st h (QI z)) st (fun q => tX11_dish_17 v0 h q) q) q)
    kRI_ok (Or.inr rfl) (by decide +kernel) (by decide +kernel) hf
theorem kqX11_dish_1 : okC mX11_dish 1 (.invokevirtual 161) 181 196 0 0 = true := by decide +kernel
def fX11_dish_1 (v0 : Nat) (s0 : Nat) (h : aH) : Option (Int32 × aH) :=
  (isO h 11 s0).bind fun _ =>
  (gX11_anew s0 h).bind fun r =>
  fX11_dish_4 v0 r
theorem tX11_dish_1 {d : Nat} {z : Int32 × aH} (v0 : Nat) (s0 : Nat) (h : aH) (hf : fX11_dish_1 v0 s0 h = some z) : Ev (d + 5) none mX11_dish (0, 0) 1 [.ref v0] [.ref s0] h (QI z) := by
  obtain ⟨_, h1, hf⟩ := bnd hf
  obtain ⟨fs, ho⟩ := isO_ok h1
  obtain ⟨r, h2, hf⟩ := bnd hf
  refine ev_V kqX11_dish_1 jX11_anew (zX11_anew (d := d + 4) h2) ho rfl rfl (Nat.le_of_ble_eq_true rfl) rfl (as := []) (rest := []) rfl (Nat.le_of_ble_eq_true rfl) (fun _ _ hq => ?_)
  obtain ⟨rfl, hh⟩ := hq
  rw [hh]
  exact jm [2] (fun v0 => fX11_dish_4 v0 r) (fun v0 q => tX11_dish_4 v0 r q) hf
def wX11_dish_0 : List En := [(.aload_n 0, 0, 0, 0)]
def fX11_dish_0 (v0 : Nat) (h : aH) : Option (Int32 × aH) :=
  fX11_dish_1 v0 v0 h
theorem tX11_dish_0 {d : Nat} {z : Int32 × aH} (v0 : Nat) (h : aH) (hf : fX11_dish_0 v0 h = some z) : Ev (d + 5) none mX11_dish (0, 0) 0 [.ref v0] [] h (QI z) := 
  go_ok (X := none) (blk := wX11_dish_0) (np := 1) (tt := 0) (kN := fun xs h st => app [2] (fun v0 => apS [2] (fun s0 => fX11_dish_1 v0 s0 h) st) xs) (kT := fun _ _ _ => none) (kR := kRI)
    (fun xs h st q => jm [2] _ (fun v0 q => apS_ok [2] _ (fun st => Ev (d + 5) none mX11_dish (0, 0) 1 [.ref v0] st h (QI z)) st (fun s0 q => tX11_dish_1 v0 s0 h q) q) q)
    (fun _ _ _ q => nos q)
    kRI_ok (Or.inr rfl) (by decide +kernel) (by decide +kernel) hf
def gX11_dish (v0 : Nat) (h : aH) : Option (Int32 × aH) := fX11_dish_0 v0 h
theorem zX11_dish {d : Nat} {z : Int32 × aH} {v0 : Nat} {h : aH} (q : gX11_dish v0 h = some z) : CT (d + 5) mX11_dish (0, 0) [.ref v0] h (QI z) :=
  ct_ev (by decide +kernel) (Nat.le_of_ble_eq_true rfl) QI_r (jm [2] (fun v0 => fX11_dish_0 v0 h) (fun v0 q => tX11_dish_0 v0 h q) q)
def wX11_share_23 : List En := [(.aload_n 0, 0, 0, 0), (.getfield 44, 202, 11, 27), (.iload_n 1, 0, 0, 0), (.iaload, 0, 0, 0), (.ireturn, 0, 0, 0)]
def fX11_share_23 (v0 : Nat) (v1 : Int32) (h : aH) : Option (Int32 × aH) :=
  (gFR h 11 v0 27).bind fun t1 =>
  (aRI (h[t1]?) v1).bind fun t2 =>
  some (t2, h)
theorem tX11_share_23 {d : Nat} {z : Int32 × aH} (v0 : Nat) (v1 : Int32) (h : aH) (hf : fX11_share_23 v0 v1 h = some z) : Ev (d + 5) none mX11_share (0, 0) 23 [.ref v0, .int v1] [] h (QI z) := 
  go_ok (X := none) (blk := wX11_share_23) (np := 30) (tt := 0) (kN := fun _ _ _ => none) (kT := fun _ _ _ => none) (kR := kRI)
    (fun _ _ _ q => nos q)
    (fun _ _ _ q => nos q)
    kRI_ok (Or.inr rfl) (by decide +kernel) (by decide +kernel) hf
theorem kqX11_share_20 : okC mX11_share 20 (.invokevirtual 294) 227 244 0 1 = true := by decide +kernel
def fX11_share_20 (v0 : Nat) (v1 : Int32) (s0 : Int32) (s1 : Nat) (h : aH) : Option (Int32 × aH) :=
  (isO h 11 s1).bind fun _ =>
  (gX11_daysOn s1 s0 h).bind fun r =>
  fX11_share_23 v0 v1 r
theorem tX11_share_20 {d : Nat} {z : Int32 × aH} (v0 : Nat) (v1 : Int32) (s0 : Int32) (s1 : Nat) (h : aH) (hf : fX11_share_20 v0 v1 s0 s1 h = some z) : Ev (d + 5) none mX11_share (0, 0) 20 [.ref v0, .int v1] [.int s0, .ref s1] h (QI z) := by
  obtain ⟨_, h1, hf⟩ := bnd hf
  obtain ⟨fs, ho⟩ := isO_ok h1
  obtain ⟨r, h2, hf⟩ := bnd hf
  refine ev_V kqX11_share_20 jX11_daysOn (zX11_daysOn (d := d + 0) h2) ho rfl rfl (Nat.le_of_ble_eq_true rfl) rfl (as := [.int s0]) (rest := []) rfl (Nat.le_of_ble_eq_true rfl) (fun _ _ hq => ?_)
  obtain ⟨rfl, hh⟩ := hq
  rw [hh]
  exact jm [2, 1] (fun v0 v1 => fX11_share_23 v0 v1 r) (fun v0 v1 q => tX11_share_23 v0 v1 r q) hf
def wX11_share_18 : List En := [(.aload_n 0, 0, 0, 0), (.iconst 1, 0, 0, 0)]
def fX11_share_18 (v0 : Nat) (v1 : Int32) (h : aH) : Option (Int32 × aH) :=
  fX11_share_20 v0 v1 (kI 1) v0 h
theorem tX11_share_18 {d : Nat} {z : Int32 × aH} (v0 : Nat) (v1 : Int32) (h : aH) (hf : fX11_share_18 v0 v1 h = some z) : Ev (d + 5) none mX11_share (0, 0) 18 [.ref v0, .int v1] [] h (QI z) := 
  go_ok (X := none) (blk := wX11_share_18) (np := 20) (tt := 0) (kN := fun xs h st => app [2, 1] (fun v0 v1 => apS [1, 2] (fun s0 s1 => fX11_share_20 v0 v1 s0 s1 h) st) xs) (kT := fun _ _ _ => none) (kR := kRI)
    (fun xs h st q => jm [2, 1] _ (fun v0 v1 q => apS_ok [1, 2] _ (fun st => Ev (d + 5) none mX11_share (0, 0) 20 [.ref v0, .int v1] st h (QI z)) st (fun s0 s1 q => tX11_share_20 v0 v1 s0 s1 h q) q) q)
    (fun _ _ _ q => nos q)
    kRI_ok (Or.inr rfl) (by decide +kernel) (by decide +kernel) hf
def wX11_share_17 : List En := [(.ireturn, 0, 0, 0)]
def fX11_share_17 (s0 : Int32) (h : aH) : Option (Int32 × aH) :=
  some (s0, h)
theorem tX11_share_17 {d : Nat} {z : Int32 × aH} (s0 : Int32) (h : aH) (hf : fX11_share_17 s0 h = some z) : Ev (d + 5) none mX11_share (0, 0) 17 [.null, .null] [.int s0] h (QI z) := 
  go_ok (X := none) (blk := wX11_share_17) (np := 18) (tt := 0) (kN := fun _ _ _ => none) (kT := fun _ _ _ => none) (kR := kRI)
    (fun _ _ _ q => nos q)
    (fun _ _ _ q => nos q)
    kRI_ok (Or.inr rfl) (by decide +kernel) (by decide +kernel) hf
theorem kqX11_share_14 : okC mX11_share 14 (.invokevirtual 164) 183 198 0 1 = true := by decide +kernel
def fX11_share_14 (s0 : Int32) (s1 : Nat) (h : aH) : Option (Int32 × aH) :=
  (isO h 11 s1).bind fun _ =>
  (gX11_no s1 s0 h).bind fun r =>
  fX11_share_17 r.1 r.2
theorem tX11_share_14 {d : Nat} {z : Int32 × aH} (s0 : Int32) (s1 : Nat) (h : aH) (hf : fX11_share_14 s0 s1 h = some z) : Ev (d + 5) none mX11_share (0, 0) 14 [.null, .null] [.int s0, .ref s1] h (QI z) := by
  obtain ⟨_, h1, hf⟩ := bnd hf
  obtain ⟨fs, ho⟩ := isO_ok h1
  obtain ⟨r, h2, hf⟩ := bnd hf
  refine ev_V kqX11_share_14 jX11_no (zX11_no (d := d + 4) h2) ho rfl rfl (Nat.le_of_ble_eq_true rfl) rfl (as := [.int s0]) (rest := []) rfl (Nat.le_of_ble_eq_true rfl) (fun _ _ hq => ?_)
  obtain ⟨rfl, rfl⟩ := hq
  exact jm [0, 0] (fX11_share_17 r.1 r.2) (fun q => tX11_share_17 r.1 r.2 q) hf
def wX11_share_12 : List En := [(.aload_n 0, 0, 0, 0), (.iconst 1, 0, 0, 0)]
def fX11_share_12 (v0 : Nat) (h : aH) : Option (Int32 × aH) :=
  fX11_share_14 (kI 1) v0 h
theorem tX11_share_12 {d : Nat} {z : Int32 × aH} (v0 : Nat) (h : aH) (hf : fX11_share_12 v0 h = some z) : Ev (d + 5) none mX11_share (0, 0) 12 [.ref v0, .null] [] h (QI z) := 
  go_ok (X := none) (blk := wX11_share_12) (np := 14) (tt := 0) (kN := fun xs h st => app [0, 0] (apS [1, 2] (fun s0 s1 => fX11_share_14 s0 s1 h) st) xs) (kT := fun _ _ _ => none) (kR := kRI)
    (fun xs h st q => jm [0, 0] _ (fun q => apS_ok [1, 2] _ (fun st => Ev (d + 5) none mX11_share (0, 0) 14 [.null, .null] st h (QI z)) st (fun s0 s1 q => tX11_share_14 s0 s1 h q) q) q)
    (fun _ _ _ q => nos q)
    kRI_ok (Or.inr rfl) (by decide +kernel) (by decide +kernel) hf
def wX11_share_9 : List En := [(.ifCond .ne 9, 18, 0, 0)]
def fX11_share_9 (v0 : Nat) (v1 : Int32) (s0 : Int32) (h : aH) : Option (Int32 × aH) :=
  if s0 = 0 then fX11_share_12 v0 h else fX11_share_18 v0 v1 h
theorem tX11_share_9 {d : Nat} {z : Int32 × aH} (v0 : Nat) (v1 : Int32) (s0 : Int32) (h : aH) (hf : fX11_share_9 v0 v1 s0 h = some z) : Ev (d + 5) none mX11_share (0, 0) 9 [.ref v0, .int v1] [.int s0] h (QI z) := 
  go_ok (X := none) (blk := wX11_share_9) (np := 12) (tt := 18) (kN := fun xs h st => app [2, 0] (fun v0 => apS [] (fX11_share_12 v0 h) st) xs) (kT := fun xs h st => app [2, 1] (fun v0 v1 => apS [] (fX11_share_18 v0 v1 h) st) xs) (kR := kRI)
    (fun xs h st q => jm [2, 0] _ (fun v0 q => apS_ok [] _ (fun st => Ev (d + 5) none mX11_share (0, 0) 12 [.ref v0, .null] st h (QI z)) st (fun q => tX11_share_12 v0 h q) q) q)
    (fun xs h st q => jm [2, 1] _ (fun v0 v1 q => apS_ok [] _ (fun st => Ev (d + 5) none mX11_share (0, 0) 18 [.ref v0, .int v1] st h (QI z)) st (fun q => tX11_share_18 v0 v1 h q) q) q)
    kRI_ok (Or.inr rfl) (by decide +kernel) (by decide +kernel) hf
theorem kqX11_share_6 : okC mX11_share 6 (.invokevirtual 285) 214 231 0 1 = true := by decide +kernel
def fX11_share_6 (v0 : Nat) (v1 : Int32) (s0 : Int32) (s1 : Nat) (h : aH) : Option (Int32 × aH) :=
  (isO h 11 s1).bind fun _ =>
  (gX11_isPerson s1 s0 h).bind fun r =>
  fX11_share_9 v0 v1 r.1 r.2
theorem tX11_share_6 {d : Nat} {z : Int32 × aH} (v0 : Nat) (v1 : Int32) (s0 : Int32) (s1 : Nat) (h : aH) (hf : fX11_share_6 v0 v1 s0 s1 h = some z) : Ev (d + 5) none mX11_share (0, 0) 6 [.ref v0, .int v1] [.int s0, .ref s1] h (QI z) := by
  obtain ⟨_, h1, hf⟩ := bnd hf
  obtain ⟨fs, ho⟩ := isO_ok h1
  obtain ⟨r, h2, hf⟩ := bnd hf
  refine ev_V kqX11_share_6 jX11_isPerson (zX11_isPerson (d := d + 3) h2) ho rfl rfl (Nat.le_of_ble_eq_true rfl) rfl (as := [.int s0]) (rest := []) rfl (Nat.le_of_ble_eq_true rfl) (fun _ _ hq => ?_)
  obtain ⟨-, rfl, rfl⟩ := hq
  exact jm [2, 1] (fun v0 v1 => fX11_share_9 v0 v1 r.1 r.2) (fun v0 v1 q => tX11_share_9 v0 v1 r.1 r.2 q) hf
def wX11_share_4 : List En := [(.aload_n 0, 0, 0, 0), (.iload_n 1, 0, 0, 0)]
def fX11_share_4 (v0 : Nat) (v1 : Int32) (h : aH) : Option (Int32 × aH) :=
  fX11_share_6 v0 v1 v1 v0 h
theorem tX11_share_4 {d : Nat} {z : Int32 × aH} (v0 : Nat) (v1 : Int32) (h : aH) (hf : fX11_share_4 v0 v1 h = some z) : Ev (d + 5) none mX11_share (0, 0) 4 [.ref v0, .int v1] [] h (QI z) := 
  go_ok (X := none) (blk := wX11_share_4) (np := 6) (tt := 0) (kN := fun xs h st => app [2, 1] (fun v0 v1 => apS [1, 2] (fun s0 s1 => fX11_share_6 v0 v1 s0 s1 h) st) xs) (kT := fun _ _ _ => none) (kR := kRI)
    (fun xs h st q => jm [2, 1] _ (fun v0 v1 q => apS_ok [1, 2] _ (fun st => Ev (d + 5) none mX11_share (0, 0) 6 [.ref v0, .int v1] st h (QI z)) st (fun s0 s1 q => tX11_share_6 v0 v1 s0 s1 h q) q) q)
    (fun _ _ _ q => nos q)
    kRI_ok (Or.inr rfl) (by decide +kernel) (by decide +kernel) hf
theorem kqX11_share_1 : okC mX11_share 1 (.invokevirtual 161) 181 196 0 0 = true := by decide +kernel
def fX11_share_1 (v0 : Nat) (v1 : Int32) (s0 : Nat) (h : aH) : Option (Int32 × aH) :=
  (isO h 11 s0).bind fun _ =>
  (gX11_anew s0 h).bind fun r =>
  fX11_share_4 v0 v1 r
theorem tX11_share_1 {d : Nat} {z : Int32 × aH} (v0 : Nat) (v1 : Int32) (s0 : Nat) (h : aH) (hf : fX11_share_1 v0 v1 s0 h = some z) : Ev (d + 5) none mX11_share (0, 0) 1 [.ref v0, .int v1] [.ref s0] h (QI z) := by
  obtain ⟨_, h1, hf⟩ := bnd hf
  obtain ⟨fs, ho⟩ := isO_ok h1
  obtain ⟨r, h2, hf⟩ := bnd hf
  refine ev_V kqX11_share_1 jX11_anew (zX11_anew (d := d + 4) h2) ho rfl rfl (Nat.le_of_ble_eq_true rfl) rfl (as := []) (rest := []) rfl (Nat.le_of_ble_eq_true rfl) (fun _ _ hq => ?_)
  obtain ⟨rfl, hh⟩ := hq
  rw [hh]
  exact jm [2, 1] (fun v0 v1 => fX11_share_4 v0 v1 r) (fun v0 v1 q => tX11_share_4 v0 v1 r q) hf
def wX11_share_0 : List En := [(.aload_n 0, 0, 0, 0)]
def fX11_share_0 (v0 : Nat) (v1 : Int32) (h : aH) : Option (Int32 × aH) :=
  fX11_share_1 v0 v1 v0 h
theorem tX11_share_0 {d : Nat} {z : Int32 × aH} (v0 : Nat) (v1 : Int32) (h : aH) (hf : fX11_share_0 v0 v1 h = some z) : Ev (d + 5) none mX11_share (0, 0) 0 [.ref v0, .int v1] [] h (QI z) := 
  go_ok (X := none) (blk := wX11_share_0) (np := 1) (tt := 0) (kN := fun xs h st => app [2, 1] (fun v0 v1 => apS [2] (fun s0 => fX11_share_1 v0 v1 s0 h) st) xs) (kT := fun _ _ _ => none) (kR := kRI)
    (fun xs h st q => jm [2, 1] _ (fun v0 v1 q => apS_ok [2] _ (fun st => Ev (d + 5) none mX11_share (0, 0) 1 [.ref v0, .int v1] st h (QI z)) st (fun s0 q => tX11_share_1 v0 v1 s0 h q) q) q)
    (fun _ _ _ q => nos q)
    kRI_ok (Or.inr rfl) (by decide +kernel) (by decide +kernel) hf
def gX11_share (v0 : Nat) (v1 : Int32) (h : aH) : Option (Int32 × aH) := fX11_share_0 v0 v1 h
theorem zX11_share {d : Nat} {z : Int32 × aH} {v0 : Nat} {v1 : Int32} {h : aH} (q : gX11_share v0 v1 h = some z) : CT (d + 5) mX11_share (0, 0) [.ref v0, .int v1] h (QI z) :=
  ct_ev (by decide +kernel) (Nat.le_of_ble_eq_true rfl) QI_r (jm [2, 1] (fun v0 v1 => fX11_share_0 v0 v1 h) (fun v0 v1 q => tX11_share_0 v0 v1 h q) q)
def wX11_seenMost_37 : List En := [(.ireturn, 0, 0, 0)]
def fX11_seenMost_37 (s0 : Int32) (h : aH) : Option (Int32 × aH) :=
  some (s0, h)
theorem tX11_seenMost_37 {d : Nat} {z : Int32 × aH} (s0 : Int32) (h : aH) (hf : fX11_seenMost_37 s0 h = some z) : Ev (d + 3) none mX11_seenMost (0, 0) 37 [.null, .null] [.int s0] h (QI z) := 
  go_ok (X := none) (blk := wX11_seenMost_37) (np := 38) (tt := 0) (kN := fun _ _ _ => none) (kT := fun _ _ _ => none) (kR := kRI)
    (fun _ _ _ q => nos q)
    (fun _ _ _ q => nos q)
    kRI_ok (Or.inr rfl) (by decide +kernel) (by decide +kernel) hf
theorem kqX11_seenMost_34 : okC mX11_seenMost 34 (.invokevirtual 253) 223 240 0 3 = true := by decide +kernel
def fX11_seenMost_34 (s0 : Int32) (s1 : Int32) (s2 : Nat) (s3 : Nat) (h : aH) : Option (Int32 × aH) :=
  (isO h 11 s3).bind fun _ =>
  (gX11_seenOf s3 s2 s1 s0 h).bind fun r =>
  fX11_seenMost_37 r.1 r.2
theorem tX11_seenMost_34 {d : Nat} {z : Int32 × aH} (s0 : Int32) (s1 : Int32) (s2 : Nat) (s3 : Nat) (h : aH) (hf : fX11_seenMost_34 s0 s1 s2 s3 h = some z) : Ev (d + 3) none mX11_seenMost (0, 0) 34 [.null, .null] [.int s0, .int s1, .ref s2, .ref s3] h (QI z) := by
  obtain ⟨_, h1, hf⟩ := bnd hf
  obtain ⟨fs, ho⟩ := isO_ok h1
  obtain ⟨r, h2, hf⟩ := bnd hf
  refine ev_V kqX11_seenMost_34 jX11_seenOf (zX11_seenOf (d := d + 2) h2) ho rfl rfl (Nat.le_of_ble_eq_true rfl) rfl (as := [.ref s2, .int s1, .int s0]) (rest := []) rfl (Nat.le_of_ble_eq_true rfl) (fun _ _ hq => ?_)
  obtain ⟨rfl, rfl⟩ := hq
  exact jm [0, 0] (fX11_seenMost_37 r.1 r.2) (fun q => tX11_seenMost_37 r.1 r.2 q) hf
def wX11_seenMost_22 : List En := [(.aload_n 0, 0, 0, 0), (.aload_n 0, 0, 0, 0), (.getfield 35, 195, 11, 20), (.iload_n 1, 0, 0, 0), (.aload_n 0, 0, 0, 0), (.getfield 35, 195, 11, 20), (.iload_n 1, 0, 0, 0), (.iaload, 0, 0, 0)]
def fX11_seenMost_22 (v0 : Nat) (v1 : Int32) (h : aH) : Option (Int32 × aH) :=
  (gFR h 11 v0 20).bind fun t1 =>
  (gFR h 11 v0 20).bind fun t2 =>
  (aRI (h[t2]?) v1).bind fun t3 =>
  fX11_seenMost_34 t3 v1 t1 v0 h
theorem tX11_seenMost_22 {d : Nat} {z : Int32 × aH} (v0 : Nat) (v1 : Int32) (h : aH) (hf : fX11_seenMost_22 v0 v1 h = some z) : Ev (d + 3) none mX11_seenMost (0, 0) 22 [.ref v0, .int v1] [] h (QI z) := 
  go_ok (X := none) (blk := wX11_seenMost_22) (np := 34) (tt := 0) (kN := fun xs h st => app [0, 0] (apS [1, 1, 2, 2] (fun s0 s1 s2 s3 => fX11_seenMost_34 s0 s1 s2 s3 h) st) xs) (kT := fun _ _ _ => none) (kR := kRI)
    (fun xs h st q => jm [0, 0] _ (fun q => apS_ok [1, 1, 2, 2] _ (fun st => Ev (d + 3) none mX11_seenMost (0, 0) 34 [.null, .null] st h (QI z)) st (fun s0 s1 s2 s3 q => tX11_seenMost_34 s0 s1 s2 s3 h q) q) q)
    (fun _ _ _ q => nos q)
    kRI_ok (Or.inr rfl) (by decide +kernel) (by decide +kernel) hf
def wX11_seenMost_18 : List En := [(.iconst (-1), 0, 0, 0), (.goto 18, 37, 0, 0)]
def fX11_seenMost_18 (h : aH) : Option (Int32 × aH) :=
  fX11_seenMost_37 (kI (-1)) h
theorem tX11_seenMost_18 {d : Nat} {z : Int32 × aH} (h : aH) (hf : fX11_seenMost_18 h = some z) : Ev (d + 3) none mX11_seenMost (0, 0) 18 [.null, .null] [] h (QI z) := 
  go_ok (X := none) (blk := wX11_seenMost_18) (np := 22) (tt := 37) (kN := fun _ _ _ => none) (kT := fun xs h st => app [0, 0] (apS [1] (fun s0 => fX11_seenMost_37 s0 h) st) xs) (kR := kRI)
    (fun _ _ _ q => nos q)
    (fun xs h st q => jm [0, 0] _ (fun q => apS_ok [1] _ (fun st => Ev (d + 3) none mX11_seenMost (0, 0) 37 [.null, .null] st h (QI z)) st (fun s0 q => tX11_seenMost_37 s0 h q) q) q)
    kRI_ok (Or.inr rfl) (by decide +kernel) (by decide +kernel) hf
def wX11_seenMost_13 : List En := [(.istore_n 1, 0, 0, 0), (.iload_n 1, 0, 0, 0), (.ifCond .ge 7, 22, 0, 0)]
def fX11_seenMost_13 (v0 : Nat) (s0 : Int32) (h : aH) : Option (Int32 × aH) :=
  if s0 < 0 then fX11_seenMost_18 h else fX11_seenMost_22 v0 s0 h
theorem tX11_seenMost_13 {d : Nat} {z : Int32 × aH} (v0 : Nat) (s0 : Int32) (h : aH) (hf : fX11_seenMost_13 v0 s0 h = some z) : Ev (d + 3) none mX11_seenMost (0, 0) 13 [.ref v0, .null] [.int s0] h (QI z) := 
  go_ok (X := none) (blk := wX11_seenMost_13) (np := 18) (tt := 22) (kN := fun xs h st => app [0, 0] (apS [] (fX11_seenMost_18 h) st) xs) (kT := fun xs h st => app [2, 1] (fun v0 v1 => apS [] (fX11_seenMost_22 v0 v1 h) st) xs) (kR := kRI)
    (fun xs h st q => jm [0, 0] _ (fun q => apS_ok [] _ (fun st => Ev (d + 3) none mX11_seenMost (0, 0) 18 [.null, .null] st h (QI z)) st (fun q => tX11_seenMost_18 h q) q) q)
    (fun xs h st q => jm [2, 1] _ (fun v0 v1 q => apS_ok [] _ (fun st => Ev (d + 3) none mX11_seenMost (0, 0) 22 [.ref v0, .int v1] st h (QI z)) st (fun q => tX11_seenMost_22 v0 v1 h q) q) q)
    kRI_ok (Or.inr rfl) (by decide +kernel) (by decide +kernel) hf
theorem kqX11_seenMost_10 : okC mX11_seenMost 10 (.invokevirtual 264) 230 247 0 2 = true := by decide +kernel
def fX11_seenMost_10 (v0 : Nat) (s0 : Int32) (s1 : Nat) (s2 : Nat) (h : aH) : Option (Int32 × aH) :=
  (isO h 11 s2).bind fun _ =>
  (gX11_namerOf s2 s1 s0 h).bind fun r =>
  fX11_seenMost_13 v0 r.1 r.2
theorem tX11_seenMost_10 {d : Nat} {z : Int32 × aH} (v0 : Nat) (s0 : Int32) (s1 : Nat) (s2 : Nat) (h : aH) (hf : fX11_seenMost_10 v0 s0 s1 s2 h = some z) : Ev (d + 3) none mX11_seenMost (0, 0) 10 [.ref v0, .null] [.int s0, .ref s1, .ref s2] h (QI z) := by
  obtain ⟨_, h1, hf⟩ := bnd hf
  obtain ⟨fs, ho⟩ := isO_ok h1
  obtain ⟨r, h2, hf⟩ := bnd hf
  refine ev_V kqX11_seenMost_10 jX11_namerOf (zX11_namerOf (d := d + 0) h2) ho rfl rfl (Nat.le_of_ble_eq_true rfl) rfl (as := [.ref s1, .int s0]) (rest := []) rfl (Nat.le_of_ble_eq_true rfl) (fun _ _ hq => ?_)
  obtain ⟨rfl, rfl⟩ := hq
  exact jm [2, 0] (fun v0 => fX11_seenMost_13 v0 r.1 r.2) (fun v0 q => tX11_seenMost_13 v0 r.1 r.2 q) hf
def wX11_seenMost_4 : List En := [(.aload_n 0, 0, 0, 0), (.aload_n 0, 0, 0, 0), (.getfield 35, 195, 11, 20), (.iconst (-1), 0, 0, 0)]
def fX11_seenMost_4 (v0 : Nat) (h : aH) : Option (Int32 × aH) :=
  (gFR h 11 v0 20).bind fun t1 =>
  fX11_seenMost_10 v0 (kI (-1)) t1 v0 h
theorem tX11_seenMost_4 {d : Nat} {z : Int32 × aH} (v0 : Nat) (h : aH) (hf : fX11_seenMost_4 v0 h = some z) : Ev (d + 3) none mX11_seenMost (0, 0) 4 [.ref v0, .null] [] h (QI z) := 
  go_ok (X := none) (blk := wX11_seenMost_4) (np := 10) (tt := 0) (kN := fun xs h st => app [2, 0] (fun v0 => apS [1, 2, 2] (fun s0 s1 s2 => fX11_seenMost_10 v0 s0 s1 s2 h) st) xs) (kT := fun _ _ _ => none) (kR := kRI)
    (fun xs h st q => jm [2, 0] _ (fun v0 q => apS_ok [1, 2, 2] _ (fun st => Ev (d + 3) none mX11_seenMost (0, 0) 10 [.ref v0, .null] st h (QI z)) st (fun s0 s1 s2 q => tX11_seenMost_10 v0 s0 s1 s2 h q) q) q)
    (fun _ _ _ q => nos q)
    kRI_ok (Or.inr rfl) (by decide +kernel) (by decide +kernel) hf
theorem kqX11_seenMost_1 : okC mX11_seenMost 1 (.invokevirtual 291) 219 236 0 0 = true := by decide +kernel
def fX11_seenMost_1 (v0 : Nat) (s0 : Nat) (h : aH) : Option (Int32 × aH) :=
  (isO h 11 s0).bind fun _ =>
  (gX11_dawn s0 h).bind fun r =>
  fX11_seenMost_4 v0 r
theorem tX11_seenMost_1 {d : Nat} {z : Int32 × aH} (v0 : Nat) (s0 : Nat) (h : aH) (hf : fX11_seenMost_1 v0 s0 h = some z) : Ev (d + 3) none mX11_seenMost (0, 0) 1 [.ref v0, .null] [.ref s0] h (QI z) := by
  obtain ⟨_, h1, hf⟩ := bnd hf
  obtain ⟨fs, ho⟩ := isO_ok h1
  obtain ⟨r, h2, hf⟩ := bnd hf
  refine ev_V kqX11_seenMost_1 jX11_dawn (zX11_dawn (d := d + 0) h2) ho rfl rfl (Nat.le_of_ble_eq_true rfl) rfl (as := []) (rest := []) rfl (Nat.le_of_ble_eq_true rfl) (fun _ _ hq => ?_)
  obtain ⟨rfl, hh⟩ := hq
  rw [hh]
  exact jm [2, 0] (fun v0 => fX11_seenMost_4 v0 r) (fun v0 q => tX11_seenMost_4 v0 r q) hf
def wX11_seenMost_0 : List En := [(.aload_n 0, 0, 0, 0)]
def fX11_seenMost_0 (v0 : Nat) (h : aH) : Option (Int32 × aH) :=
  fX11_seenMost_1 v0 v0 h
theorem tX11_seenMost_0 {d : Nat} {z : Int32 × aH} (v0 : Nat) (h : aH) (hf : fX11_seenMost_0 v0 h = some z) : Ev (d + 3) none mX11_seenMost (0, 0) 0 [.ref v0, .null] [] h (QI z) := 
  go_ok (X := none) (blk := wX11_seenMost_0) (np := 1) (tt := 0) (kN := fun xs h st => app [2, 0] (fun v0 => apS [2] (fun s0 => fX11_seenMost_1 v0 s0 h) st) xs) (kT := fun _ _ _ => none) (kR := kRI)
    (fun xs h st q => jm [2, 0] _ (fun v0 q => apS_ok [2] _ (fun st => Ev (d + 3) none mX11_seenMost (0, 0) 1 [.ref v0, .null] st h (QI z)) st (fun s0 q => tX11_seenMost_1 v0 s0 h q) q) q)
    (fun _ _ _ q => nos q)
    kRI_ok (Or.inr rfl) (by decide +kernel) (by decide +kernel) hf
def gX11_seenMost (v0 : Nat) (h : aH) : Option (Int32 × aH) := fX11_seenMost_0 v0 h
theorem zX11_seenMost {d : Nat} {z : Int32 × aH} {v0 : Nat} {h : aH} (q : gX11_seenMost v0 h = some z) : CT (d + 3) mX11_seenMost (0, 0) [.ref v0] h (QI z) :=
  ct_ev (by decide +kernel) (Nat.le_of_ble_eq_true rfl) QI_r (jm [2, 0] (fun v0 => fX11_seenMost_0 v0 h) (fun v0 q => tX11_seenMost_0 v0 h q) q)
def wX11_why_17 : List En := [(.ireturn, 0, 0, 0)]
def fX11_why_17 (s0 : Int32) (h : aH) : Option (Int32 × aH) :=
  some (s0, h)
theorem tX11_why_17 {d : Nat} {z : Int32 × aH} (s0 : Int32) (h : aH) (hf : fX11_why_17 s0 h = some z) : Ev (d + 0) none mX11_why (0, 0) 17 [.null, .null, .null] [.int s0] h (QI z) := 
  go_ok (X := none) (blk := wX11_why_17) (np := 18) (tt := 0) (kN := fun _ _ _ => none) (kT := fun _ _ _ => none) (kR := kRI)
    (fun _ _ _ q => nos q)
    (fun _ _ _ q => nos q)
    kRI_ok (Or.inr rfl) (by decide +kernel) (by decide +kernel) hf
def wX11_why_16 : List En := [(.iconst 2, 0, 0, 0)]
def fX11_why_16 (h : aH) : Option (Int32 × aH) :=
  fX11_why_17 (kI 2) h
theorem tX11_why_16 {d : Nat} {z : Int32 × aH} (h : aH) (hf : fX11_why_16 h = some z) : Ev (d + 0) none mX11_why (0, 0) 16 [.null, .null, .null] [] h (QI z) := 
  go_ok (X := none) (blk := wX11_why_16) (np := 17) (tt := 0) (kN := fun xs h st => app [0, 0, 0] (apS [1] (fun s0 => fX11_why_17 s0 h) st) xs) (kT := fun _ _ _ => none) (kR := kRI)
    (fun xs h st q => jm [0, 0, 0] _ (fun q => apS_ok [1] _ (fun st => Ev (d + 0) none mX11_why (0, 0) 17 [.null, .null, .null] st h (QI z)) st (fun s0 q => tX11_why_17 s0 h q) q) q)
    (fun _ _ _ q => nos q)
    kRI_ok (Or.inr rfl) (by decide +kernel) (by decide +kernel) hf
def wX11_why_12 : List En := [(.iconst 0, 0, 0, 0), (.goto 4, 17, 0, 0)]
def fX11_why_12 (h : aH) : Option (Int32 × aH) :=
  fX11_why_17 (kI 0) h
theorem tX11_why_12 {d : Nat} {z : Int32 × aH} (h : aH) (hf : fX11_why_12 h = some z) : Ev (d + 0) none mX11_why (0, 0) 12 [.null, .null, .null] [] h (QI z) := 
  go_ok (X := none) (blk := wX11_why_12) (np := 16) (tt := 17) (kN := fun _ _ _ => none) (kT := fun xs h st => app [0, 0, 0] (apS [1] (fun s0 => fX11_why_17 s0 h) st) xs) (kR := kRI)
    (fun _ _ _ q => nos q)
    (fun xs h st q => jm [0, 0, 0] _ (fun q => apS_ok [1] _ (fun st => Ev (d + 0) none mX11_why (0, 0) 17 [.null, .null, .null] st h (QI z)) st (fun s0 q => tX11_why_17 s0 h q) q) q)
    kRI_ok (Or.inr rfl) (by decide +kernel) (by decide +kernel) hf
def wX11_why_8 : List En := [(.iload_n 2, 0, 0, 0), (.ifCond .eq 7, 16, 0, 0)]
def fX11_why_8 (v2 : Int32) (h : aH) : Option (Int32 × aH) :=
  if v2 = 0 then fX11_why_16 h else fX11_why_12 h
theorem tX11_why_8 {d : Nat} {z : Int32 × aH} (v2 : Int32) (h : aH) (hf : fX11_why_8 v2 h = some z) : Ev (d + 0) none mX11_why (0, 0) 8 [.null, .null, .int v2] [] h (QI z) := 
  go_ok (X := none) (blk := wX11_why_8) (np := 12) (tt := 16) (kN := fun xs h st => app [0, 0, 0] (apS [] (fX11_why_12 h) st) xs) (kT := fun xs h st => app [0, 0, 0] (apS [] (fX11_why_16 h) st) xs) (kR := kRI)
    (fun xs h st q => jm [0, 0, 0] _ (fun q => apS_ok [] _ (fun st => Ev (d + 0) none mX11_why (0, 0) 12 [.null, .null, .null] st h (QI z)) st (fun q => tX11_why_12 h q) q) q)
    (fun xs h st q => jm [0, 0, 0] _ (fun q => apS_ok [] _ (fun st => Ev (d + 0) none mX11_why (0, 0) 16 [.null, .null, .null] st h (QI z)) st (fun q => tX11_why_16 h q) q) q)
    kRI_ok (Or.inr rfl) (by decide +kernel) (by decide +kernel) hf
def wX11_why_4 : List En := [(.iconst 1, 0, 0, 0), (.goto 12, 17, 0, 0)]
def fX11_why_4 (h : aH) : Option (Int32 × aH) :=
  fX11_why_17 (kI 1) h
theorem tX11_why_4 {d : Nat} {z : Int32 × aH} (h : aH) (hf : fX11_why_4 h = some z) : Ev (d + 0) none mX11_why (0, 0) 4 [.null, .null, .null] [] h (QI z) := 
  go_ok (X := none) (blk := wX11_why_4) (np := 8) (tt := 17) (kN := fun _ _ _ => none) (kT := fun xs h st => app [0, 0, 0] (apS [1] (fun s0 => fX11_why_17 s0 h) st) xs) (kR := kRI)
    (fun _ _ _ q => nos q)
    (fun xs h st q => jm [0, 0, 0] _ (fun q => apS_ok [1] _ (fun st => Ev (d + 0) none mX11_why (0, 0) 17 [.null, .null, .null] st h (QI z)) st (fun s0 q => tX11_why_17 s0 h q) q) q)
    kRI_ok (Or.inr rfl) (by decide +kernel) (by decide +kernel) hf
def wX11_why_0 : List En := [(.iload_n 1, 0, 0, 0), (.ifCond .ne 7, 8, 0, 0)]
def fX11_why_0 (v1 : Int32) (v2 : Int32) (h : aH) : Option (Int32 × aH) :=
  if v1 = 0 then fX11_why_4 h else fX11_why_8 v2 h
theorem tX11_why_0 {d : Nat} {z : Int32 × aH} (v1 : Int32) (v2 : Int32) (h : aH) (hf : fX11_why_0 v1 v2 h = some z) : Ev (d + 0) none mX11_why (0, 0) 0 [.null, .int v1, .int v2] [] h (QI z) := 
  go_ok (X := none) (blk := wX11_why_0) (np := 4) (tt := 8) (kN := fun xs h st => app [0, 0, 0] (apS [] (fX11_why_4 h) st) xs) (kT := fun xs h st => app [0, 0, 1] (fun v2 => apS [] (fX11_why_8 v2 h) st) xs) (kR := kRI)
    (fun xs h st q => jm [0, 0, 0] _ (fun q => apS_ok [] _ (fun st => Ev (d + 0) none mX11_why (0, 0) 4 [.null, .null, .null] st h (QI z)) st (fun q => tX11_why_4 h q) q) q)
    (fun xs h st q => jm [0, 0, 1] _ (fun v2 q => apS_ok [] _ (fun st => Ev (d + 0) none mX11_why (0, 0) 8 [.null, .null, .int v2] st h (QI z)) st (fun q => tX11_why_8 v2 h q) q) q)
    kRI_ok (Or.inr rfl) (by decide +kernel) (by decide +kernel) hf
def gX11_why (v0 : Nat) (v1 : Int32) (v2 : Int32) (h : aH) : Option (Int32 × aH) := fX11_why_0 v1 v2 h
theorem zX11_why {d : Nat} {z : Int32 × aH} {v0 : Nat} {v1 : Int32} {v2 : Int32} {h : aH} (q : gX11_why v0 v1 v2 h = some z) : CT (d + 0) mX11_why (0, 0) [.ref v0, .int v1, .int v2] h (QI z) :=
  ct_ev (by decide +kernel) (Nat.le_of_ble_eq_true rfl) QI_r (jm [0, 1, 1] (fun v1 v2 => fX11_why_0 v1 v2 h) (fun v1 v2 q => tX11_why_0 v1 v2 h q) q)
def wX11_nameWith_50 : List En := [(.ireturn, 0, 0, 0)]
def fX11_nameWith_50 (s0 : Int32) (h : aH) : Option (Int32 × aH) :=
  some (s0, h)
theorem tX11_nameWith_50 {d : Nat} {z : Int32 × aH} (s0 : Int32) (h : aH) (hf : fX11_nameWith_50 s0 h = some z) : Ev (d + 4) none mX11_nameWith (0, 0) 50 [.null, .null, .null, .null] [.int s0] h (QI z) := 
  go_ok (X := none) (blk := wX11_nameWith_50) (np := 51) (tt := 0) (kN := fun _ _ _ => none) (kT := fun _ _ _ => none) (kR := kRI)
    (fun _ _ _ q => nos q)
    (fun _ _ _ q => nos q)
    kRI_ok (Or.inr rfl) (by decide +kernel) (by decide +kernel) hf
theorem kqX11_nameWith_47 : okC mX11_nameWith 47 (.invokevirtual 271) 225 242 0 1 = true := by decide +kernel
def fX11_nameWith_47 (s0 : Int32) (s1 : Nat) (h : aH) : Option (Int32 × aH) :=
  (isO h 11 s1).bind fun _ =>
  (gX11_nameAt s1 s0 h).bind fun r =>
  fX11_nameWith_50 r.1 r.2
theorem tX11_nameWith_47 {d : Nat} {z : Int32 × aH} (s0 : Int32) (s1 : Nat) (h : aH) (hf : fX11_nameWith_47 s0 s1 h = some z) : Ev (d + 4) none mX11_nameWith (0, 0) 47 [.null, .null, .null, .null] [.int s0, .ref s1] h (QI z) := by
  obtain ⟨_, h1, hf⟩ := bnd hf
  obtain ⟨fs, ho⟩ := isO_ok h1
  obtain ⟨r, h2, hf⟩ := bnd hf
  refine ev_V kqX11_nameWith_47 jX11_nameAt (zX11_nameAt (d := d + 3) h2) ho rfl rfl (Nat.le_of_ble_eq_true rfl) rfl (as := [.int s0]) (rest := []) rfl (Nat.le_of_ble_eq_true rfl) (fun _ _ hq => ?_)
  obtain ⟨rfl, rfl⟩ := hq
  exact jm [0, 0, 0, 0] (fX11_nameWith_50 r.1 r.2) (fun q => tX11_nameWith_50 r.1 r.2 q) hf
def wX11_nameWith_46 : List En := [(.iload_n 3, 0, 0, 0)]
def fX11_nameWith_46 (v3 : Int32) (s0 : Nat) (h : aH) : Option (Int32 × aH) :=
  fX11_nameWith_47 v3 s0 h
theorem tX11_nameWith_46 {d : Nat} {z : Int32 × aH} (v3 : Int32) (s0 : Nat) (h : aH) (hf : fX11_nameWith_46 v3 s0 h = some z) : Ev (d + 4) none mX11_nameWith (0, 0) 46 [.null, .null, .null, .int v3] [.ref s0] h (QI z) := 
  go_ok (X := none) (blk := wX11_nameWith_46) (np := 47) (tt := 0) (kN := fun xs h st => app [0, 0, 0, 0] (apS [1, 2] (fun s0 s1 => fX11_nameWith_47 s0 s1 h) st) xs) (kT := fun _ _ _ => none) (kR := kRI)
    (fun xs h st q => jm [0, 0, 0, 0] _ (fun q => apS_ok [1, 2] _ (fun st => Ev (d + 4) none mX11_nameWith (0, 0) 47 [.null, .null, .null, .null] st h (QI z)) st (fun s0 s1 q => tX11_nameWith_47 s0 s1 h q) q) q)
    (fun _ _ _ q => nos q)
    kRI_ok (Or.inr rfl) (by decide +kernel) (by decide +kernel) hf
def wX11_nameWith_42 : List En := [(.iload_n 1, 0, 0, 0), (.goto 4, 47, 0, 0)]
def fX11_nameWith_42 (v1 : Int32) (s0 : Nat) (h : aH) : Option (Int32 × aH) :=
  fX11_nameWith_47 v1 s0 h
theorem tX11_nameWith_42 {d : Nat} {z : Int32 × aH} (v1 : Int32) (s0 : Nat) (h : aH) (hf : fX11_nameWith_42 v1 s0 h = some z) : Ev (d + 4) none mX11_nameWith (0, 0) 42 [.null, .int v1, .null, .null] [.ref s0] h (QI z) := 
  go_ok (X := none) (blk := wX11_nameWith_42) (np := 46) (tt := 47) (kN := fun _ _ _ => none) (kT := fun xs h st => app [0, 0, 0, 0] (apS [1, 2] (fun s0 s1 => fX11_nameWith_47 s0 s1 h) st) xs) (kR := kRI)
    (fun _ _ _ q => nos q)
    (fun xs h st q => jm [0, 0, 0, 0] _ (fun q => apS_ok [1, 2] _ (fun st => Ev (d + 4) none mX11_nameWith (0, 0) 47 [.null, .null, .null, .null] st h (QI z)) st (fun s0 s1 q => tX11_nameWith_47 s0 s1 h q) q) q)
    kRI_ok (Or.inr rfl) (by decide +kernel) (by decide +kernel) hf
def wX11_nameWith_35 : List En := [(.istore_n 3, 0, 0, 0), (.aload_n 0, 0, 0, 0), (.iload_n 1, 0, 0, 0), (.iload_n 3, 0, 0, 0), (.if_icmp .le 7, 46, 0, 0)]
def fX11_nameWith_35 (v0 : Nat) (v1 : Int32) (s0 : Int32) (h : aH) : Option (Int32 × aH) :=
  if s0 < v1 then fX11_nameWith_42 v1 v0 h else fX11_nameWith_46 s0 v0 h
theorem tX11_nameWith_35 {d : Nat} {z : Int32 × aH} (v0 : Nat) (v1 : Int32) (s0 : Int32) (h : aH) (hf : fX11_nameWith_35 v0 v1 s0 h = some z) : Ev (d + 4) none mX11_nameWith (0, 0) 35 [.ref v0, .int v1, .null, .null] [.int s0] h (QI z) := 
  go_ok (X := none) (blk := wX11_nameWith_35) (np := 42) (tt := 46) (kN := fun xs h st => app [0, 1, 0, 0] (fun v1 => apS [2] (fun s0 => fX11_nameWith_42 v1 s0 h) st) xs) (kT := fun xs h st => app [0, 0, 0, 1] (fun v3 => apS [2] (fun s0 => fX11_nameWith_46 v3 s0 h) st) xs) (kR := kRI)
    (fun xs h st q => jm [0, 1, 0, 0] _ (fun v1 q => apS_ok [2] _ (fun st => Ev (d + 4) none mX11_nameWith (0, 0) 42 [.null, .int v1, .null, .null] st h (QI z)) st (fun s0 q => tX11_nameWith_42 v1 s0 h q) q) q)
    (fun xs h st q => jm [0, 0, 0, 1] _ (fun v3 q => apS_ok [2] _ (fun st => Ev (d + 4) none mX11_nameWith (0, 0) 46 [.null, .null, .null, .int v3] st h (QI z)) st (fun s0 q => tX11_nameWith_46 v3 s0 h q) q) q)
    kRI_ok (Or.inr rfl) (by decide +kernel) (by decide +kernel) hf
theorem kqX11_nameWith_32 : okC mX11_nameWith 32 (.invokevirtual 297) 236 253 0 0 = true := by decide +kernel
def fX11_nameWith_32 (v0 : Nat) (v1 : Int32) (s0 : Nat) (h : aH) : Option (Int32 × aH) :=
  (isO h 11 s0).bind fun _ =>
  (gX11_seenMost s0 h).bind fun r =>
  fX11_nameWith_35 v0 v1 r.1 r.2
theorem tX11_nameWith_32 {d : Nat} {z : Int32 × aH} (v0 : Nat) (v1 : Int32) (s0 : Nat) (h : aH) (hf : fX11_nameWith_32 v0 v1 s0 h = some z) : Ev (d + 4) none mX11_nameWith (0, 0) 32 [.ref v0, .int v1, .null, .null] [.ref s0] h (QI z) := by
  obtain ⟨_, h1, hf⟩ := bnd hf
  obtain ⟨fs, ho⟩ := isO_ok h1
  obtain ⟨r, h2, hf⟩ := bnd hf
  refine ev_V kqX11_nameWith_32 jX11_seenMost (zX11_seenMost (d := d + 0) h2) ho rfl rfl (Nat.le_of_ble_eq_true rfl) rfl (as := []) (rest := []) rfl (Nat.le_of_ble_eq_true rfl) (fun _ _ hq => ?_)
  obtain ⟨rfl, rfl⟩ := hq
  exact jm [2, 1, 0, 0] (fun v0 v1 => fX11_nameWith_35 v0 v1 r.1 r.2) (fun v0 v1 q => tX11_nameWith_35 v0 v1 r.1 r.2 q) hf
def wX11_nameWith_31 : List En := [(.aload_n 0, 0, 0, 0)]
def fX11_nameWith_31 (v0 : Nat) (v1 : Int32) (h : aH) : Option (Int32 × aH) :=
  fX11_nameWith_32 v0 v1 v0 h
theorem tX11_nameWith_31 {d : Nat} {z : Int32 × aH} (v0 : Nat) (v1 : Int32) (h : aH) (hf : fX11_nameWith_31 v0 v1 h = some z) : Ev (d + 4) none mX11_nameWith (0, 0) 31 [.ref v0, .int v1, .null, .null] [] h (QI z) := 
  go_ok (X := none) (blk := wX11_nameWith_31) (np := 32) (tt := 0) (kN := fun xs h st => app [2, 1, 0, 0] (fun v0 v1 => apS [2] (fun s0 => fX11_nameWith_32 v0 v1 s0 h) st) xs) (kT := fun _ _ _ => none) (kR := kRI)
    (fun xs h st q => jm [2, 1, 0, 0] _ (fun v0 v1 q => apS_ok [2] _ (fun st => Ev (d + 4) none mX11_nameWith (0, 0) 32 [.ref v0, .int v1, .null, .null] st h (QI z)) st (fun s0 q => tX11_nameWith_32 v0 v1 s0 h q) q) q)
    (fun _ _ _ q => nos q)
    kRI_ok (Or.inr rfl) (by decide +kernel) (by decide +kernel) hf
def wX11_nameWith_30 : List En := [(.ireturn, 0, 0, 0)]
def fX11_nameWith_30 (s0 : Int32) (h : aH) : Option (Int32 × aH) :=
  some (s0, h)
theorem tX11_nameWith_30 {d : Nat} {z : Int32 × aH} (s0 : Int32) (h : aH) (hf : fX11_nameWith_30 s0 h = some z) : Ev (d + 4) none mX11_nameWith (0, 0) 30 [.null, .null, .null, .null] [.int s0] h (QI z) := 
  go_ok (X := none) (blk := wX11_nameWith_30) (np := 31) (tt := 0) (kN := fun _ _ _ => none) (kT := fun _ _ _ => none) (kR := kRI)
    (fun _ _ _ q => nos q)
    (fun _ _ _ q => nos q)
    kRI_ok (Or.inr rfl) (by decide +kernel) (by decide +kernel) hf
theorem kqX11_nameWith_27 : okC mX11_nameWith 27 (.invokevirtual 164) 183 198 0 1 = true := by decide +kernel
def fX11_nameWith_27 (s0 : Int32) (s1 : Nat) (h : aH) : Option (Int32 × aH) :=
  (isO h 11 s1).bind fun _ =>
  (gX11_no s1 s0 h).bind fun r =>
  fX11_nameWith_30 r.1 r.2
theorem tX11_nameWith_27 {d : Nat} {z : Int32 × aH} (s0 : Int32) (s1 : Nat) (h : aH) (hf : fX11_nameWith_27 s0 s1 h = some z) : Ev (d + 4) none mX11_nameWith (0, 0) 27 [.null, .null, .null, .null] [.int s0, .ref s1] h (QI z) := by
  obtain ⟨_, h1, hf⟩ := bnd hf
  obtain ⟨fs, ho⟩ := isO_ok h1
  obtain ⟨r, h2, hf⟩ := bnd hf
  refine ev_V kqX11_nameWith_27 jX11_no (zX11_no (d := d + 3) h2) ho rfl rfl (Nat.le_of_ble_eq_true rfl) rfl (as := [.int s0]) (rest := []) rfl (Nat.le_of_ble_eq_true rfl) (fun _ _ hq => ?_)
  obtain ⟨rfl, rfl⟩ := hq
  exact jm [0, 0, 0, 0] (fX11_nameWith_30 r.1 r.2) (fun q => tX11_nameWith_30 r.1 r.2 q) hf
def wX11_nameWith_25 : List En := [(.aload_n 0, 0, 0, 0), (.iload_n 2, 0, 0, 0)]
def fX11_nameWith_25 (v0 : Nat) (v2 : Int32) (h : aH) : Option (Int32 × aH) :=
  fX11_nameWith_27 v2 v0 h
theorem tX11_nameWith_25 {d : Nat} {z : Int32 × aH} (v0 : Nat) (v2 : Int32) (h : aH) (hf : fX11_nameWith_25 v0 v2 h = some z) : Ev (d + 4) none mX11_nameWith (0, 0) 25 [.ref v0, .null, .int v2, .null] [] h (QI z) := 
  go_ok (X := none) (blk := wX11_nameWith_25) (np := 27) (tt := 0) (kN := fun xs h st => app [0, 0, 0, 0] (apS [1, 2] (fun s0 s1 => fX11_nameWith_27 s0 s1 h) st) xs) (kT := fun _ _ _ => none) (kR := kRI)
    (fun xs h st q => jm [0, 0, 0, 0] _ (fun q => apS_ok [1, 2] _ (fun st => Ev (d + 4) none mX11_nameWith (0, 0) 27 [.null, .null, .null, .null] st h (QI z)) st (fun s0 s1 q => tX11_nameWith_27 s0 s1 h q) q) q)
    (fun _ _ _ q => nos q)
    kRI_ok (Or.inr rfl) (by decide +kernel) (by decide +kernel) hf
def wX11_nameWith_20 : List En := [(.istore_n 2, 0, 0, 0), (.iload_n 2, 0, 0, 0), (.ifCond .eq 9, 31, 0, 0)]
def fX11_nameWith_20 (v0 : Nat) (v1 : Int32) (s0 : Int32) (h : aH) : Option (Int32 × aH) :=
  if s0 = 0 then fX11_nameWith_31 v0 v1 h else fX11_nameWith_25 v0 s0 h
theorem tX11_nameWith_20 {d : Nat} {z : Int32 × aH} (v0 : Nat) (v1 : Int32) (s0 : Int32) (h : aH) (hf : fX11_nameWith_20 v0 v1 s0 h = some z) : Ev (d + 4) none mX11_nameWith (0, 0) 20 [.ref v0, .int v1, .null, .null] [.int s0] h (QI z) := 
  go_ok (X := none) (blk := wX11_nameWith_20) (np := 25) (tt := 31) (kN := fun xs h st => app [2, 0, 1, 0] (fun v0 v2 => apS [] (fX11_nameWith_25 v0 v2 h) st) xs) (kT := fun xs h st => app [2, 1, 0, 0] (fun v0 v1 => apS [] (fX11_nameWith_31 v0 v1 h) st) xs) (kR := kRI)
    (fun xs h st q => jm [2, 0, 1, 0] _ (fun v0 v2 q => apS_ok [] _ (fun st => Ev (d + 4) none mX11_nameWith (0, 0) 25 [.ref v0, .null, .int v2, .null] st h (QI z)) st (fun q => tX11_nameWith_25 v0 v2 h q) q) q)
    (fun xs h st q => jm [2, 1, 0, 0] _ (fun v0 v1 q => apS_ok [] _ (fun st => Ev (d + 4) none mX11_nameWith (0, 0) 31 [.ref v0, .int v1, .null, .null] st h (QI z)) st (fun q => tX11_nameWith_31 v0 v1 h q) q) q)
    kRI_ok (Or.inr rfl) (by decide +kernel) (by decide +kernel) hf
theorem kqX11_nameWith_17 : okC mX11_nameWith 17 (.invokevirtual 241) 235 252 0 2 = true := by decide +kernel
def fX11_nameWith_17 (v0 : Nat) (v1 : Int32) (s0 : Int32) (s1 : Int32) (s2 : Nat) (h : aH) : Option (Int32 × aH) :=
  (isO h 11 s2).bind fun _ =>
  (gX11_why s2 s1 s0 h).bind fun r =>
  fX11_nameWith_20 v0 v1 r.1 r.2
theorem tX11_nameWith_17 {d : Nat} {z : Int32 × aH} (v0 : Nat) (v1 : Int32) (s0 : Int32) (s1 : Int32) (s2 : Nat) (h : aH) (hf : fX11_nameWith_17 v0 v1 s0 s1 s2 h = some z) : Ev (d + 4) none mX11_nameWith (0, 0) 17 [.ref v0, .int v1, .null, .null] [.int s0, .int s1, .ref s2] h (QI z) := by
  obtain ⟨_, h1, hf⟩ := bnd hf
  obtain ⟨fs, ho⟩ := isO_ok h1
  obtain ⟨r, h2, hf⟩ := bnd hf
  refine ev_V kqX11_nameWith_17 jX11_why (zX11_why (d := d + 3) h2) ho rfl rfl (Nat.le_of_ble_eq_true rfl) rfl (as := [.int s1, .int s0]) (rest := []) rfl (Nat.le_of_ble_eq_true rfl) (fun _ _ hq => ?_)
  obtain ⟨rfl, rfl⟩ := hq
  exact jm [2, 1, 0, 0] (fun v0 v1 => fX11_nameWith_20 v0 v1 r.1 r.2) (fun v0 v1 q => tX11_nameWith_20 v0 v1 r.1 r.2 q) hf
theorem kqX11_nameWith_14 : okC mX11_nameWith 14 (.invokestatic 140) 182 197 1 3 = true := by decide +kernel
def fX11_nameWith_14 (v0 : Nat) (v1 : Int32) (s0 : Int32) (s1 : Int32) (s2 : Int32) (s3 : Int32) (s4 : Nat) (h : aH) : Option (Int32 × aH) :=
  (gX11_in s2 s1 s0 h).bind fun r =>
  fX11_nameWith_17 v0 v1 r.1 s3 s4 r.2
theorem tX11_nameWith_14 {d : Nat} {z : Int32 × aH} (v0 : Nat) (v1 : Int32) (s0 : Int32) (s1 : Int32) (s2 : Int32) (s3 : Int32) (s4 : Nat) (h : aH) (hf : fX11_nameWith_14 v0 v1 s0 s1 s2 s3 s4 h = some z) : Ev (d + 4) none mX11_nameWith (0, 0) 14 [.ref v0, .int v1, .null, .null] [.int s0, .int s1, .int s2, .int s3, .ref s4] h (QI z) := by
  obtain ⟨r, h2, hf⟩ := bnd hf
  refine ev_S kqX11_nameWith_14 jX11_in (zX11_in (d := d + 3) h2) rfl (Nat.le_of_ble_eq_true rfl) rfl (as := [.int s2, .int s1, .int s0]) (rest := [.int s3, .ref s4]) rfl (Nat.le_of_ble_eq_true rfl) (fun _ _ hq => ?_)
  obtain ⟨-, rfl, rfl⟩ := hq
  exact jm [2, 1, 0, 0] (fun v0 v1 => fX11_nameWith_17 v0 v1 r.1 s3 s4 r.2) (fun v0 v1 q => tX11_nameWith_17 v0 v1 r.1 s3 s4 r.2 q) hf
def wX11_nameWith_4 : List En := [(.aload_n 0, 0, 0, 0), (.aload_n 0, 0, 0, 0), (.getfield 174, 189, 11, 14), (.iload_n 1, 0, 0, 0), (.iconst 0, 0, 0, 0), (.sipush 999, 0, 0, 0)]
def fX11_nameWith_4 (v0 : Nat) (v1 : Int32) (h : aH) : Option (Int32 × aH) :=
  (gFI h 11 v0 14).bind fun t1 =>
  fX11_nameWith_14 v0 v1 (kS 999) (kI 0) v1 t1 v0 h
theorem tX11_nameWith_4 {d : Nat} {z : Int32 × aH} (v0 : Nat) (v1 : Int32) (h : aH) (hf : fX11_nameWith_4 v0 v1 h = some z) : Ev (d + 4) none mX11_nameWith (0, 0) 4 [.ref v0, .int v1, .null, .null] [] h (QI z) := 
  go_ok (X := none) (blk := wX11_nameWith_4) (np := 14) (tt := 0) (kN := fun xs h st => app [2, 1, 0, 0] (fun v0 v1 => apS [1, 1, 1, 1, 2] (fun s0 s1 s2 s3 s4 => fX11_nameWith_14 v0 v1 s0 s1 s2 s3 s4 h) st) xs) (kT := fun _ _ _ => none) (kR := kRI)
    (fun xs h st q => jm [2, 1, 0, 0] _ (fun v0 v1 q => apS_ok [1, 1, 1, 1, 2] _ (fun st => Ev (d + 4) none mX11_nameWith (0, 0) 14 [.ref v0, .int v1, .null, .null] st h (QI z)) st (fun s0 s1 s2 s3 s4 q => tX11_nameWith_14 v0 v1 s0 s1 s2 s3 s4 h q) q) q)
    (fun _ _ _ q => nos q)
    kRI_ok (Or.inr rfl) (by decide +kernel) (by decide +kernel) hf
theorem kqX11_nameWith_1 : okC mX11_nameWith 1 (.invokevirtual 161) 181 196 0 0 = true := by decide +kernel
def fX11_nameWith_1 (v0 : Nat) (v1 : Int32) (s0 : Nat) (h : aH) : Option (Int32 × aH) :=
  (isO h 11 s0).bind fun _ =>
  (gX11_anew s0 h).bind fun r =>
  fX11_nameWith_4 v0 v1 r
theorem tX11_nameWith_1 {d : Nat} {z : Int32 × aH} (v0 : Nat) (v1 : Int32) (s0 : Nat) (h : aH) (hf : fX11_nameWith_1 v0 v1 s0 h = some z) : Ev (d + 4) none mX11_nameWith (0, 0) 1 [.ref v0, .int v1, .null, .null] [.ref s0] h (QI z) := by
  obtain ⟨_, h1, hf⟩ := bnd hf
  obtain ⟨fs, ho⟩ := isO_ok h1
  obtain ⟨r, h2, hf⟩ := bnd hf
  refine ev_V kqX11_nameWith_1 jX11_anew (zX11_anew (d := d + 3) h2) ho rfl rfl (Nat.le_of_ble_eq_true rfl) rfl (as := []) (rest := []) rfl (Nat.le_of_ble_eq_true rfl) (fun _ _ hq => ?_)
  obtain ⟨rfl, hh⟩ := hq
  rw [hh]
  exact jm [2, 1, 0, 0] (fun v0 v1 => fX11_nameWith_4 v0 v1 r) (fun v0 v1 q => tX11_nameWith_4 v0 v1 r q) hf
def wX11_nameWith_0 : List En := [(.aload_n 0, 0, 0, 0)]
def fX11_nameWith_0 (v0 : Nat) (v1 : Int32) (h : aH) : Option (Int32 × aH) :=
  fX11_nameWith_1 v0 v1 v0 h
theorem tX11_nameWith_0 {d : Nat} {z : Int32 × aH} (v0 : Nat) (v1 : Int32) (h : aH) (hf : fX11_nameWith_0 v0 v1 h = some z) : Ev (d + 4) none mX11_nameWith (0, 0) 0 [.ref v0, .int v1, .null, .null] [] h (QI z) := 
  go_ok (X := none) (blk := wX11_nameWith_0) (np := 1) (tt := 0) (kN := fun xs h st => app [2, 1, 0, 0] (fun v0 v1 => apS [2] (fun s0 => fX11_nameWith_1 v0 v1 s0 h) st) xs) (kT := fun _ _ _ => none) (kR := kRI)
    (fun xs h st q => jm [2, 1, 0, 0] _ (fun v0 v1 q => apS_ok [2] _ (fun st => Ev (d + 4) none mX11_nameWith (0, 0) 1 [.ref v0, .int v1, .null, .null] st h (QI z)) st (fun s0 q => tX11_nameWith_1 v0 v1 s0 h q) q) q)
    (fun _ _ _ q => nos q)
    kRI_ok (Or.inr rfl) (by decide +kernel) (by decide +kernel) hf
def gX11_nameWith (v0 : Nat) (v1 : Int32) (h : aH) : Option (Int32 × aH) := fX11_nameWith_0 v0 v1 h
theorem zX11_nameWith {d : Nat} {z : Int32 × aH} {v0 : Nat} {v1 : Int32} {h : aH} (q : gX11_nameWith v0 v1 h = some z) : CT (d + 4) mX11_nameWith (0, 0) [.ref v0, .int v1] h (QI z) :=
  ct_ev (by decide +kernel) (Nat.le_of_ble_eq_true rfl) QI_r (jm [2, 1, 0, 0] (fun v0 v1 => fX11_nameWith_0 v0 v1 h) (fun v0 v1 q => tX11_nameWith_0 v0 v1 h q) q)
def wX11_guestFor_67 : List En := [(.bipush (-2), 0, 0, 0), (.ireturn, 0, 0, 0)]
def fX11_guestFor_67 (h : aH) : Option (Int32 × aH) :=
  some ((kB (-2)), h)
theorem tX11_guestFor_67 {d : Nat} {z : Int32 × aH} (h : aH) (hf : fX11_guestFor_67 h = some z) : Ev (d + 4) none mX11_guestFor (0, 0) 67 [.null, .null, .null, .null] [] h (QI z) := 
  go_ok (X := none) (blk := wX11_guestFor_67) (np := 70) (tt := 0) (kN := fun _ _ _ => none) (kT := fun _ _ _ => none) (kR := kRI)
    (fun _ _ _ q => nos q)
    (fun _ _ _ q => nos q)
    kRI_ok (Or.inr rfl) (by decide +kernel) (by decide +kernel) hf
def wX11_guestFor_61 : List En := [(.iinc 3 1, 0, 0, 0), (.goto (-21), 43, 0, 0)]
def fX11_guestFor_61 (k43 : Nat → Int32 → Int32 → aH → Option (Int32 × aH)) (v0 : Nat) (v1 : Int32) (v3 : Int32) (h : aH) : Option (Int32 × aH) :=
  k43 v0 v1 (v3 + kI 1) h
theorem tX11_guestFor_61 {d : Nat} {z : Int32 × aH} {k43 : Nat → Int32 → Int32 → aH → Option (Int32 × aH)} (hk43 : ∀ (v0 : Nat) (v1 : Int32) (v3 : Int32) (h : aH), k43 v0 v1 v3 h = some z → Ev (d + 4) none mX11_guestFor (0, 0) 43 [.ref v0, .int v1, .null, .int v3] [] h (QI z)) (v0 : Nat) (v1 : Int32) (v3 : Int32) (h : aH) (hf : fX11_guestFor_61 k43 v0 v1 v3 h = some z) : Ev (d + 4) none mX11_guestFor (0, 0) 61 [.ref v0, .int v1, .null, .int v3] [] h (QI z) := 
  go_ok (X := none) (blk := wX11_guestFor_61) (np := 67) (tt := 43) (kN := fun _ _ _ => none) (kT := fun xs h st => app [2, 1, 0, 1] (fun v0 v1 v3 => apS [] (k43 v0 v1 v3 h) st) xs) (kR := kRI)
    (fun _ _ _ q => nos q)
    (fun xs h st q => jm [2, 1, 0, 1] _ (fun v0 v1 v3 q => apS_ok [] _ (fun st => Ev (d + 4) none mX11_guestFor (0, 0) 43 [.ref v0, .int v1, .null, .int v3] st h (QI z)) st (fun q => hk43 v0 v1 v3 h q) q) q)
    kRI_ok (Or.inr rfl) (by decide +kernel) (by decide +kernel) hf
def wX11_guestFor_59 : List En := [(.iload_n 3, 0, 0, 0), (.ireturn, 0, 0, 0)]
def fX11_guestFor_59 (v3 : Int32) (h : aH) : Option (Int32 × aH) :=
  some (v3, h)
theorem tX11_guestFor_59 {d : Nat} {z : Int32 × aH} (v3 : Int32) (h : aH) (hf : fX11_guestFor_59 v3 h = some z) : Ev (d + 4) none mX11_guestFor (0, 0) 59 [.null, .null, .null, .int v3] [] h (QI z) := 
  go_ok (X := none) (blk := wX11_guestFor_59) (np := 61) (tt := 0) (kN := fun _ _ _ => none) (kT := fun _ _ _ => none) (kR := kRI)
    (fun _ _ _ q => nos q)
    (fun _ _ _ q => nos q)
    kRI_ok (Or.inr rfl) (by decide +kernel) (by decide +kernel) hf
def wX11_guestFor_55 : List En := [(.iload_n 1, 0, 0, 0), (.if_icmp .ne 5, 61, 0, 0)]
def fX11_guestFor_55 (k43 : Nat → Int32 → Int32 → aH → Option (Int32 × aH)) (v0 : Nat) (v1 : Int32) (v3 : Int32) (s0 : Int32) (h : aH) : Option (Int32 × aH) :=
  if s0 = v1 then fX11_guestFor_59 v3 h else fX11_guestFor_61 k43 v0 v1 v3 h
theorem tX11_guestFor_55 {d : Nat} {z : Int32 × aH} {k43 : Nat → Int32 → Int32 → aH → Option (Int32 × aH)} (hk43 : ∀ (v0 : Nat) (v1 : Int32) (v3 : Int32) (h : aH), k43 v0 v1 v3 h = some z → Ev (d + 4) none mX11_guestFor (0, 0) 43 [.ref v0, .int v1, .null, .int v3] [] h (QI z)) (v0 : Nat) (v1 : Int32) (v3 : Int32) (s0 : Int32) (h : aH) (hf : fX11_guestFor_55 k43 v0 v1 v3 s0 h = some z) : Ev (d + 4) none mX11_guestFor (0, 0) 55 [.ref v0, .int v1, .null, .int v3] [.int s0] h (QI z) := 
  go_ok (X := none) (blk := wX11_guestFor_55) (np := 59) (tt := 61) (kN := fun xs h st => app [0, 0, 0, 1] (fun v3 => apS [] (fX11_guestFor_59 v3 h) st) xs) (kT := fun xs h st => app [2, 1, 0, 1] (fun v0 v1 v3 => apS [] (fX11_guestFor_61 k43 v0 v1 v3 h) st) xs) (kR := kRI)
    (fun xs h st q => jm [0, 0, 0, 1] _ (fun v3 q => apS_ok [] _ (fun st => Ev (d + 4) none mX11_guestFor (0, 0) 59 [.null, .null, .null, .int v3] st h (QI z)) st (fun q => tX11_guestFor_59 v3 h q) q) q)
    (fun xs h st q => jm [2, 1, 0, 1] _ (fun v0 v1 v3 q => apS_ok [] _ (fun st => Ev (d + 4) none mX11_guestFor (0, 0) 61 [.ref v0, .int v1, .null, .int v3] st h (QI z)) st (fun q => tX11_guestFor_61 hk43 v0 v1 v3 h q) q) q)
    kRI_ok (Or.inr rfl) (by decide +kernel) (by decide +kernel) hf
theorem kqX11_guestFor_52 : okC mX11_guestFor 52 (.invokevirtual 271) 225 242 0 1 = true := by decide +kernel
def fX11_guestFor_52 (k43 : Nat → Int32 → Int32 → aH → Option (Int32 × aH)) (v0 : Nat) (v1 : Int32) (v3 : Int32) (s0 : Int32) (s1 : Nat) (h : aH) : Option (Int32 × aH) :=
  (isO h 11 s1).bind fun _ =>
  (gX11_nameAt s1 s0 h).bind fun r =>
  fX11_guestFor_55 k43 v0 v1 v3 r.1 r.2
theorem tX11_guestFor_52 {d : Nat} {z : Int32 × aH} {k43 : Nat → Int32 → Int32 → aH → Option (Int32 × aH)} (hk43 : ∀ (v0 : Nat) (v1 : Int32) (v3 : Int32) (h : aH), k43 v0 v1 v3 h = some z → Ev (d + 4) none mX11_guestFor (0, 0) 43 [.ref v0, .int v1, .null, .int v3] [] h (QI z)) (v0 : Nat) (v1 : Int32) (v3 : Int32) (s0 : Int32) (s1 : Nat) (h : aH) (hf : fX11_guestFor_52 k43 v0 v1 v3 s0 s1 h = some z) : Ev (d + 4) none mX11_guestFor (0, 0) 52 [.ref v0, .int v1, .null, .int v3] [.int s0, .ref s1] h (QI z) := by
  obtain ⟨_, h1, hf⟩ := bnd hf
  obtain ⟨fs, ho⟩ := isO_ok h1
  obtain ⟨r, h2, hf⟩ := bnd hf
  refine ev_V kqX11_guestFor_52 jX11_nameAt (zX11_nameAt (d := d + 3) h2) ho rfl rfl (Nat.le_of_ble_eq_true rfl) rfl (as := [.int s0]) (rest := []) rfl (Nat.le_of_ble_eq_true rfl) (fun _ _ hq => ?_)
  obtain ⟨rfl, rfl⟩ := hq
  exact jm [2, 1, 0, 1] (fun v0 v1 v3 => fX11_guestFor_55 k43 v0 v1 v3 r.1 r.2) (fun v0 v1 v3 q => tX11_guestFor_55 hk43 v0 v1 v3 r.1 r.2 q) hf
def wX11_guestFor_50 : List En := [(.aload_n 0, 0, 0, 0), (.iload_n 3, 0, 0, 0)]
def fX11_guestFor_50 (k43 : Nat → Int32 → Int32 → aH → Option (Int32 × aH)) (v0 : Nat) (v1 : Int32) (v3 : Int32) (h : aH) : Option (Int32 × aH) :=
  fX11_guestFor_52 k43 v0 v1 v3 v3 v0 h
theorem tX11_guestFor_50 {d : Nat} {z : Int32 × aH} {k43 : Nat → Int32 → Int32 → aH → Option (Int32 × aH)} (hk43 : ∀ (v0 : Nat) (v1 : Int32) (v3 : Int32) (h : aH), k43 v0 v1 v3 h = some z → Ev (d + 4) none mX11_guestFor (0, 0) 43 [.ref v0, .int v1, .null, .int v3] [] h (QI z)) (v0 : Nat) (v1 : Int32) (v3 : Int32) (h : aH) (hf : fX11_guestFor_50 k43 v0 v1 v3 h = some z) : Ev (d + 4) none mX11_guestFor (0, 0) 50 [.ref v0, .int v1, .null, .int v3] [] h (QI z) := 
  go_ok (X := none) (blk := wX11_guestFor_50) (np := 52) (tt := 0) (kN := fun xs h st => app [2, 1, 0, 1] (fun v0 v1 v3 => apS [1, 2] (fun s0 s1 => fX11_guestFor_52 k43 v0 v1 v3 s0 s1 h) st) xs) (kT := fun _ _ _ => none) (kR := kRI)
    (fun xs h st q => jm [2, 1, 0, 1] _ (fun v0 v1 v3 q => apS_ok [1, 2] _ (fun st => Ev (d + 4) none mX11_guestFor (0, 0) 52 [.ref v0, .int v1, .null, .int v3] st h (QI z)) st (fun s0 s1 q => tX11_guestFor_52 hk43 v0 v1 v3 s0 s1 h q) q) q)
    (fun _ _ _ q => nos q)
    kRI_ok (Or.inr rfl) (by decide +kernel) (by decide +kernel) hf
def wX11_guestFor_43 : List En := [(.iload_n 3, 0, 0, 0), (.sipush 999, 0, 0, 0), (.if_icmp .gt 20, 67, 0, 0)]
def fX11_guestFor_43 (k43 : Nat → Int32 → Int32 → aH → Option (Int32 × aH)) (v0 : Nat) (v1 : Int32) (v3 : Int32) (h : aH) : Option (Int32 × aH) :=
  if (kS 999) < v3 then fX11_guestFor_67 h else fX11_guestFor_50 k43 v0 v1 v3 h
theorem tX11_guestFor_43 {d : Nat} {z : Int32 × aH} {k43 : Nat → Int32 → Int32 → aH → Option (Int32 × aH)} (hk43 : ∀ (v0 : Nat) (v1 : Int32) (v3 : Int32) (h : aH), k43 v0 v1 v3 h = some z → Ev (d + 4) none mX11_guestFor (0, 0) 43 [.ref v0, .int v1, .null, .int v3] [] h (QI z)) (v0 : Nat) (v1 : Int32) (v3 : Int32) (h : aH) (hf : fX11_guestFor_43 k43 v0 v1 v3 h = some z) : Ev (d + 4) none mX11_guestFor (0, 0) 43 [.ref v0, .int v1, .null, .int v3] [] h (QI z) := 
  go_ok (X := none) (blk := wX11_guestFor_43) (np := 50) (tt := 67) (kN := fun xs h st => app [2, 1, 0, 1] (fun v0 v1 v3 => apS [] (fX11_guestFor_50 k43 v0 v1 v3 h) st) xs) (kT := fun xs h st => app [0, 0, 0, 0] (apS [] (fX11_guestFor_67 h) st) xs) (kR := kRI)
    (fun xs h st q => jm [2, 1, 0, 1] _ (fun v0 v1 v3 q => apS_ok [] _ (fun st => Ev (d + 4) none mX11_guestFor (0, 0) 50 [.ref v0, .int v1, .null, .int v3] st h (QI z)) st (fun q => tX11_guestFor_50 hk43 v0 v1 v3 h q) q) q)
    (fun xs h st q => jm [0, 0, 0, 0] _ (fun q => apS_ok [] _ (fun st => Ev (d + 4) none mX11_guestFor (0, 0) 67 [.null, .null, .null, .null] st h (QI z)) st (fun q => tX11_guestFor_67 h q) q) q)
    kRI_ok (Or.inr rfl) (by decide +kernel) (by decide +kernel) hf
def lX11_guestFor_43 : Nat → Nat → Int32 → Int32 → aH → Option (Int32 × aH)
  | 0, _, _, _, _ => none
  | n + 1, v0, v1, v3, h => fX11_guestFor_43 (lX11_guestFor_43 n) v0 v1 v3 h
theorem uX11_guestFor_43 {d : Nat} {z : Int32 × aH} : ∀ (n : Nat) (v0 : Nat) (v1 : Int32) (v3 : Int32) (h : aH), lX11_guestFor_43 n v0 v1 v3 h = some z → Ev (d + 4) none mX11_guestFor (0, 0) 43 [.ref v0, .int v1, .null, .int v3] [] h (QI z) := by
  intro n
  induction n with
  | zero => intro _ _ _ _ q; exact nos (show (none : Option (Int32 × aH)) = some z from q)
  | succ n ih => intro v0 v1 v3 h q; exact tX11_guestFor_43 ih v0 v1 v3 h q
def wX11_guestFor_39 : List En := [(.iload_n 2, 0, 0, 0), (.iconst 1, 0, 0, 0), (.iadd, 0, 0, 0), (.istore_n 3, 0, 0, 0)]
def fX11_guestFor_39 (v0 : Nat) (v1 : Int32) (v2 : Int32) (h : aH) : Option (Int32 × aH) :=
  lX11_guestFor_43 FU v0 v1 (v2 + (kI 1)) h
theorem tX11_guestFor_39 {d : Nat} {z : Int32 × aH} (v0 : Nat) (v1 : Int32) (v2 : Int32) (h : aH) (hf : fX11_guestFor_39 v0 v1 v2 h = some z) : Ev (d + 4) none mX11_guestFor (0, 0) 39 [.ref v0, .int v1, .int v2, .null] [] h (QI z) := 
  go_ok (X := none) (blk := wX11_guestFor_39) (np := 43) (tt := 0) (kN := fun xs h st => app [2, 1, 0, 1] (fun v0 v1 v3 => apS [] (lX11_guestFor_43 FU v0 v1 v3 h) st) xs) (kT := fun _ _ _ => none) (kR := kRI)
    (fun xs h st q => jm [2, 1, 0, 1] _ (fun v0 v1 v3 q => apS_ok [] _ (fun st => Ev (d + 4) none mX11_guestFor (0, 0) 43 [.ref v0, .int v1, .null, .int v3] st h (QI z)) st (fun q => uX11_guestFor_43 FU v0 v1 v3 h q) q) q)
    (fun _ _ _ q => nos q)
    kRI_ok (Or.inr rfl) (by decide +kernel) (by decide +kernel) hf
def wX11_guestFor_36 : List En := [(.bipush (-2), 0, 0, 0), (.ireturn, 0, 0, 0)]
def fX11_guestFor_36 (h : aH) : Option (Int32 × aH) :=
  some ((kB (-2)), h)
theorem tX11_guestFor_36 {d : Nat} {z : Int32 × aH} (h : aH) (hf : fX11_guestFor_36 h = some z) : Ev (d + 4) none mX11_guestFor (0, 0) 36 [.null, .null, .null, .null] [] h (QI z) := 
  go_ok (X := none) (blk := wX11_guestFor_36) (np := 39) (tt := 0) (kN := fun _ _ _ => none) (kT := fun _ _ _ => none) (kR := kRI)
    (fun _ _ _ q => nos q)
    (fun _ _ _ q => nos q)
    kRI_ok (Or.inr rfl) (by decide +kernel) (by decide +kernel) hf
def wX11_guestFor_32 : List En := [(.iload_n 1, 0, 0, 0), (.if_icmp .ne 6, 39, 0, 0)]
def fX11_guestFor_32 (v0 : Nat) (v1 : Int32) (v2 : Int32) (s0 : Int32) (h : aH) : Option (Int32 × aH) :=
  if s0 = v1 then fX11_guestFor_36 h else fX11_guestFor_39 v0 v1 v2 h
theorem tX11_guestFor_32 {d : Nat} {z : Int32 × aH} (v0 : Nat) (v1 : Int32) (v2 : Int32) (s0 : Int32) (h : aH) (hf : fX11_guestFor_32 v0 v1 v2 s0 h = some z) : Ev (d + 4) none mX11_guestFor (0, 0) 32 [.ref v0, .int v1, .int v2, .null] [.int s0] h (QI z) := 
  go_ok (X := none) (blk := wX11_guestFor_32) (np := 36) (tt := 39) (kN := fun xs h st => app [0, 0, 0, 0] (apS [] (fX11_guestFor_36 h) st) xs) (kT := fun xs h st => app [2, 1, 1, 0] (fun v0 v1 v2 => apS [] (fX11_guestFor_39 v0 v1 v2 h) st) xs) (kR := kRI)
    (fun xs h st q => jm [0, 0, 0, 0] _ (fun q => apS_ok [] _ (fun st => Ev (d + 4) none mX11_guestFor (0, 0) 36 [.null, .null, .null, .null] st h (QI z)) st (fun q => tX11_guestFor_36 h q) q) q)
    (fun xs h st q => jm [2, 1, 1, 0] _ (fun v0 v1 v2 q => apS_ok [] _ (fun st => Ev (d + 4) none mX11_guestFor (0, 0) 39 [.ref v0, .int v1, .int v2, .null] st h (QI z)) st (fun q => tX11_guestFor_39 v0 v1 v2 h q) q) q)
    kRI_ok (Or.inr rfl) (by decide +kernel) (by decide +kernel) hf
theorem kqX11_guestFor_29 : okC mX11_guestFor 29 (.invokevirtual 271) 225 242 0 1 = true := by decide +kernel
def fX11_guestFor_29 (v0 : Nat) (v1 : Int32) (v2 : Int32) (s0 : Int32) (s1 : Nat) (h : aH) : Option (Int32 × aH) :=
  (isO h 11 s1).bind fun _ =>
  (gX11_nameAt s1 s0 h).bind fun r =>
  fX11_guestFor_32 v0 v1 v2 r.1 r.2
theorem tX11_guestFor_29 {d : Nat} {z : Int32 × aH} (v0 : Nat) (v1 : Int32) (v2 : Int32) (s0 : Int32) (s1 : Nat) (h : aH) (hf : fX11_guestFor_29 v0 v1 v2 s0 s1 h = some z) : Ev (d + 4) none mX11_guestFor (0, 0) 29 [.ref v0, .int v1, .int v2, .null] [.int s0, .ref s1] h (QI z) := by
  obtain ⟨_, h1, hf⟩ := bnd hf
  obtain ⟨fs, ho⟩ := isO_ok h1
  obtain ⟨r, h2, hf⟩ := bnd hf
  refine ev_V kqX11_guestFor_29 jX11_nameAt (zX11_nameAt (d := d + 3) h2) ho rfl rfl (Nat.le_of_ble_eq_true rfl) rfl (as := [.int s0]) (rest := []) rfl (Nat.le_of_ble_eq_true rfl) (fun _ _ hq => ?_)
  obtain ⟨rfl, rfl⟩ := hq
  exact jm [2, 1, 1, 0] (fun v0 v1 v2 => fX11_guestFor_32 v0 v1 v2 r.1 r.2) (fun v0 v1 v2 q => tX11_guestFor_32 v0 v1 v2 r.1 r.2 q) hf
def wX11_guestFor_27 : List En := [(.aload_n 0, 0, 0, 0), (.iload_n 2, 0, 0, 0)]
def fX11_guestFor_27 (v0 : Nat) (v1 : Int32) (v2 : Int32) (h : aH) : Option (Int32 × aH) :=
  fX11_guestFor_29 v0 v1 v2 v2 v0 h
theorem tX11_guestFor_27 {d : Nat} {z : Int32 × aH} (v0 : Nat) (v1 : Int32) (v2 : Int32) (h : aH) (hf : fX11_guestFor_27 v0 v1 v2 h = some z) : Ev (d + 4) none mX11_guestFor (0, 0) 27 [.ref v0, .int v1, .int v2, .null] [] h (QI z) := 
  go_ok (X := none) (blk := wX11_guestFor_27) (np := 29) (tt := 0) (kN := fun xs h st => app [2, 1, 1, 0] (fun v0 v1 v2 => apS [1, 2] (fun s0 s1 => fX11_guestFor_29 v0 v1 v2 s0 s1 h) st) xs) (kT := fun _ _ _ => none) (kR := kRI)
    (fun xs h st q => jm [2, 1, 1, 0] _ (fun v0 v1 v2 q => apS_ok [1, 2] _ (fun st => Ev (d + 4) none mX11_guestFor (0, 0) 29 [.ref v0, .int v1, .int v2, .null] st h (QI z)) st (fun s0 s1 q => tX11_guestFor_29 v0 v1 v2 s0 s1 h q) q) q)
    (fun _ _ _ q => nos q)
    kRI_ok (Or.inr rfl) (by decide +kernel) (by decide +kernel) hf
def wX11_guestFor_22 : List En := [(.istore_n 2, 0, 0, 0), (.iload_n 2, 0, 0, 0), (.ifCond .lt 15, 39, 0, 0)]
def fX11_guestFor_22 (v0 : Nat) (v1 : Int32) (s0 : Int32) (h : aH) : Option (Int32 × aH) :=
  if s0 < 0 then fX11_guestFor_39 v0 v1 s0 h else fX11_guestFor_27 v0 v1 s0 h
theorem tX11_guestFor_22 {d : Nat} {z : Int32 × aH} (v0 : Nat) (v1 : Int32) (s0 : Int32) (h : aH) (hf : fX11_guestFor_22 v0 v1 s0 h = some z) : Ev (d + 4) none mX11_guestFor (0, 0) 22 [.ref v0, .int v1, .null, .null] [.int s0] h (QI z) := 
  go_ok (X := none) (blk := wX11_guestFor_22) (np := 27) (tt := 39) (kN := fun xs h st => app [2, 1, 1, 0] (fun v0 v1 v2 => apS [] (fX11_guestFor_27 v0 v1 v2 h) st) xs) (kT := fun xs h st => app [2, 1, 1, 0] (fun v0 v1 v2 => apS [] (fX11_guestFor_39 v0 v1 v2 h) st) xs) (kR := kRI)
    (fun xs h st q => jm [2, 1, 1, 0] _ (fun v0 v1 v2 q => apS_ok [] _ (fun st => Ev (d + 4) none mX11_guestFor (0, 0) 27 [.ref v0, .int v1, .int v2, .null] st h (QI z)) st (fun q => tX11_guestFor_27 v0 v1 v2 h q) q) q)
    (fun xs h st q => jm [2, 1, 1, 0] _ (fun v0 v1 v2 q => apS_ok [] _ (fun st => Ev (d + 4) none mX11_guestFor (0, 0) 39 [.ref v0, .int v1, .int v2, .null] st h (QI z)) st (fun q => tX11_guestFor_39 v0 v1 v2 h q) q) q)
    kRI_ok (Or.inr rfl) (by decide +kernel) (by decide +kernel) hf
theorem kqX11_guestFor_19 : okC mX11_guestFor 19 (.invokevirtual 297) 236 253 0 0 = true := by decide +kernel
def fX11_guestFor_19 (v0 : Nat) (v1 : Int32) (s0 : Nat) (h : aH) : Option (Int32 × aH) :=
  (isO h 11 s0).bind fun _ =>
  (gX11_seenMost s0 h).bind fun r =>
  fX11_guestFor_22 v0 v1 r.1 r.2
theorem tX11_guestFor_19 {d : Nat} {z : Int32 × aH} (v0 : Nat) (v1 : Int32) (s0 : Nat) (h : aH) (hf : fX11_guestFor_19 v0 v1 s0 h = some z) : Ev (d + 4) none mX11_guestFor (0, 0) 19 [.ref v0, .int v1, .null, .null] [.ref s0] h (QI z) := by
  obtain ⟨_, h1, hf⟩ := bnd hf
  obtain ⟨fs, ho⟩ := isO_ok h1
  obtain ⟨r, h2, hf⟩ := bnd hf
  refine ev_V kqX11_guestFor_19 jX11_seenMost (zX11_seenMost (d := d + 0) h2) ho rfl rfl (Nat.le_of_ble_eq_true rfl) rfl (as := []) (rest := []) rfl (Nat.le_of_ble_eq_true rfl) (fun _ _ hq => ?_)
  obtain ⟨rfl, rfl⟩ := hq
  exact jm [2, 1, 0, 0] (fun v0 v1 => fX11_guestFor_22 v0 v1 r.1 r.2) (fun v0 v1 q => tX11_guestFor_22 v0 v1 r.1 r.2 q) hf
def wX11_guestFor_18 : List En := [(.aload_n 0, 0, 0, 0)]
def fX11_guestFor_18 (v0 : Nat) (v1 : Int32) (h : aH) : Option (Int32 × aH) :=
  fX11_guestFor_19 v0 v1 v0 h
theorem tX11_guestFor_18 {d : Nat} {z : Int32 × aH} (v0 : Nat) (v1 : Int32) (h : aH) (hf : fX11_guestFor_18 v0 v1 h = some z) : Ev (d + 4) none mX11_guestFor (0, 0) 18 [.ref v0, .int v1, .null, .null] [] h (QI z) := 
  go_ok (X := none) (blk := wX11_guestFor_18) (np := 19) (tt := 0) (kN := fun xs h st => app [2, 1, 0, 0] (fun v0 v1 => apS [2] (fun s0 => fX11_guestFor_19 v0 v1 s0 h) st) xs) (kT := fun _ _ _ => none) (kR := kRI)
    (fun xs h st q => jm [2, 1, 0, 0] _ (fun v0 v1 q => apS_ok [2] _ (fun st => Ev (d + 4) none mX11_guestFor (0, 0) 19 [.ref v0, .int v1, .null, .null] st h (QI z)) st (fun s0 q => tX11_guestFor_19 v0 v1 s0 h q) q) q)
    (fun _ _ _ q => nos q)
    kRI_ok (Or.inr rfl) (by decide +kernel) (by decide +kernel) hf
def wX11_guestFor_17 : List En := [(.ireturn, 0, 0, 0)]
def fX11_guestFor_17 (s0 : Int32) (h : aH) : Option (Int32 × aH) :=
  some (s0, h)
theorem tX11_guestFor_17 {d : Nat} {z : Int32 × aH} (s0 : Int32) (h : aH) (hf : fX11_guestFor_17 s0 h = some z) : Ev (d + 4) none mX11_guestFor (0, 0) 17 [.null, .null, .null, .null] [.int s0] h (QI z) := 
  go_ok (X := none) (blk := wX11_guestFor_17) (np := 18) (tt := 0) (kN := fun _ _ _ => none) (kT := fun _ _ _ => none) (kR := kRI)
    (fun _ _ _ q => nos q)
    (fun _ _ _ q => nos q)
    kRI_ok (Or.inr rfl) (by decide +kernel) (by decide +kernel) hf
theorem kqX11_guestFor_14 : okC mX11_guestFor 14 (.invokevirtual 164) 183 198 0 1 = true := by decide +kernel
def fX11_guestFor_14 (s0 : Int32) (s1 : Nat) (h : aH) : Option (Int32 × aH) :=
  (isO h 11 s1).bind fun _ =>
  (gX11_no s1 s0 h).bind fun r =>
  fX11_guestFor_17 r.1 r.2
theorem tX11_guestFor_14 {d : Nat} {z : Int32 × aH} (s0 : Int32) (s1 : Nat) (h : aH) (hf : fX11_guestFor_14 s0 s1 h = some z) : Ev (d + 4) none mX11_guestFor (0, 0) 14 [.null, .null, .null, .null] [.int s0, .ref s1] h (QI z) := by
  obtain ⟨_, h1, hf⟩ := bnd hf
  obtain ⟨fs, ho⟩ := isO_ok h1
  obtain ⟨r, h2, hf⟩ := bnd hf
  refine ev_V kqX11_guestFor_14 jX11_no (zX11_no (d := d + 3) h2) ho rfl rfl (Nat.le_of_ble_eq_true rfl) rfl (as := [.int s0]) (rest := []) rfl (Nat.le_of_ble_eq_true rfl) (fun _ _ hq => ?_)
  obtain ⟨rfl, rfl⟩ := hq
  exact jm [0, 0, 0, 0] (fX11_guestFor_17 r.1 r.2) (fun q => tX11_guestFor_17 r.1 r.2 q) hf
def wX11_guestFor_12 : List En := [(.aload_n 0, 0, 0, 0), (.iconst 1, 0, 0, 0)]
def fX11_guestFor_12 (v0 : Nat) (h : aH) : Option (Int32 × aH) :=
  fX11_guestFor_14 (kI 1) v0 h
theorem tX11_guestFor_12 {d : Nat} {z : Int32 × aH} (v0 : Nat) (h : aH) (hf : fX11_guestFor_12 v0 h = some z) : Ev (d + 4) none mX11_guestFor (0, 0) 12 [.ref v0, .null, .null, .null] [] h (QI z) := 
  go_ok (X := none) (blk := wX11_guestFor_12) (np := 14) (tt := 0) (kN := fun xs h st => app [0, 0, 0, 0] (apS [1, 2] (fun s0 s1 => fX11_guestFor_14 s0 s1 h) st) xs) (kT := fun _ _ _ => none) (kR := kRI)
    (fun xs h st q => jm [0, 0, 0, 0] _ (fun q => apS_ok [1, 2] _ (fun st => Ev (d + 4) none mX11_guestFor (0, 0) 14 [.null, .null, .null, .null] st h (QI z)) st (fun s0 s1 q => tX11_guestFor_14 s0 s1 h q) q) q)
    (fun _ _ _ q => nos q)
    kRI_ok (Or.inr rfl) (by decide +kernel) (by decide +kernel) hf
def wX11_guestFor_9 : List En := [(.ifCond .ne 9, 18, 0, 0)]
def fX11_guestFor_9 (v0 : Nat) (v1 : Int32) (s0 : Int32) (h : aH) : Option (Int32 × aH) :=
  if s0 = 0 then fX11_guestFor_12 v0 h else fX11_guestFor_18 v0 v1 h
theorem tX11_guestFor_9 {d : Nat} {z : Int32 × aH} (v0 : Nat) (v1 : Int32) (s0 : Int32) (h : aH) (hf : fX11_guestFor_9 v0 v1 s0 h = some z) : Ev (d + 4) none mX11_guestFor (0, 0) 9 [.ref v0, .int v1, .null, .null] [.int s0] h (QI z) := 
  go_ok (X := none) (blk := wX11_guestFor_9) (np := 12) (tt := 18) (kN := fun xs h st => app [2, 0, 0, 0] (fun v0 => apS [] (fX11_guestFor_12 v0 h) st) xs) (kT := fun xs h st => app [2, 1, 0, 0] (fun v0 v1 => apS [] (fX11_guestFor_18 v0 v1 h) st) xs) (kR := kRI)
    (fun xs h st q => jm [2, 0, 0, 0] _ (fun v0 q => apS_ok [] _ (fun st => Ev (d + 4) none mX11_guestFor (0, 0) 12 [.ref v0, .null, .null, .null] st h (QI z)) st (fun q => tX11_guestFor_12 v0 h q) q) q)
    (fun xs h st q => jm [2, 1, 0, 0] _ (fun v0 v1 q => apS_ok [] _ (fun st => Ev (d + 4) none mX11_guestFor (0, 0) 18 [.ref v0, .int v1, .null, .null] st h (QI z)) st (fun q => tX11_guestFor_18 v0 v1 h q) q) q)
    kRI_ok (Or.inr rfl) (by decide +kernel) (by decide +kernel) hf
theorem kqX11_guestFor_6 : okC mX11_guestFor 6 (.invokevirtual 288) 216 233 0 1 = true := by decide +kernel
def fX11_guestFor_6 (v0 : Nat) (v1 : Int32) (s0 : Int32) (s1 : Nat) (h : aH) : Option (Int32 × aH) :=
  (isO h 11 s1).bind fun _ =>
  (gX11_isName s1 s0 h).bind fun r =>
  fX11_guestFor_9 v0 v1 r.1 r.2
theorem tX11_guestFor_6 {d : Nat} {z : Int32 × aH} (v0 : Nat) (v1 : Int32) (s0 : Int32) (s1 : Nat) (h : aH) (hf : fX11_guestFor_6 v0 v1 s0 s1 h = some z) : Ev (d + 4) none mX11_guestFor (0, 0) 6 [.ref v0, .int v1, .null, .null] [.int s0, .ref s1] h (QI z) := by
  obtain ⟨_, h1, hf⟩ := bnd hf
  obtain ⟨fs, ho⟩ := isO_ok h1
  obtain ⟨r, h2, hf⟩ := bnd hf
  refine ev_V kqX11_guestFor_6 jX11_isName (zX11_isName (d := d + 2) h2) ho rfl rfl (Nat.le_of_ble_eq_true rfl) rfl (as := [.int s0]) (rest := []) rfl (Nat.le_of_ble_eq_true rfl) (fun _ _ hq => ?_)
  obtain ⟨-, rfl, rfl⟩ := hq
  exact jm [2, 1, 0, 0] (fun v0 v1 => fX11_guestFor_9 v0 v1 r.1 r.2) (fun v0 v1 q => tX11_guestFor_9 v0 v1 r.1 r.2 q) hf
def wX11_guestFor_4 : List En := [(.aload_n 0, 0, 0, 0), (.iload_n 1, 0, 0, 0)]
def fX11_guestFor_4 (v0 : Nat) (v1 : Int32) (h : aH) : Option (Int32 × aH) :=
  fX11_guestFor_6 v0 v1 v1 v0 h
theorem tX11_guestFor_4 {d : Nat} {z : Int32 × aH} (v0 : Nat) (v1 : Int32) (h : aH) (hf : fX11_guestFor_4 v0 v1 h = some z) : Ev (d + 4) none mX11_guestFor (0, 0) 4 [.ref v0, .int v1, .null, .null] [] h (QI z) := 
  go_ok (X := none) (blk := wX11_guestFor_4) (np := 6) (tt := 0) (kN := fun xs h st => app [2, 1, 0, 0] (fun v0 v1 => apS [1, 2] (fun s0 s1 => fX11_guestFor_6 v0 v1 s0 s1 h) st) xs) (kT := fun _ _ _ => none) (kR := kRI)
    (fun xs h st q => jm [2, 1, 0, 0] _ (fun v0 v1 q => apS_ok [1, 2] _ (fun st => Ev (d + 4) none mX11_guestFor (0, 0) 6 [.ref v0, .int v1, .null, .null] st h (QI z)) st (fun s0 s1 q => tX11_guestFor_6 v0 v1 s0 s1 h q) q) q)
    (fun _ _ _ q => nos q)
    kRI_ok (Or.inr rfl) (by decide +kernel) (by decide +kernel) hf
theorem kqX11_guestFor_1 : okC mX11_guestFor 1 (.invokevirtual 161) 181 196 0 0 = true := by decide +kernel
def fX11_guestFor_1 (v0 : Nat) (v1 : Int32) (s0 : Nat) (h : aH) : Option (Int32 × aH) :=
  (isO h 11 s0).bind fun _ =>
  (gX11_anew s0 h).bind fun r =>
  fX11_guestFor_4 v0 v1 r
theorem tX11_guestFor_1 {d : Nat} {z : Int32 × aH} (v0 : Nat) (v1 : Int32) (s0 : Nat) (h : aH) (hf : fX11_guestFor_1 v0 v1 s0 h = some z) : Ev (d + 4) none mX11_guestFor (0, 0) 1 [.ref v0, .int v1, .null, .null] [.ref s0] h (QI z) := by
  obtain ⟨_, h1, hf⟩ := bnd hf
  obtain ⟨fs, ho⟩ := isO_ok h1
  obtain ⟨r, h2, hf⟩ := bnd hf
  refine ev_V kqX11_guestFor_1 jX11_anew (zX11_anew (d := d + 3) h2) ho rfl rfl (Nat.le_of_ble_eq_true rfl) rfl (as := []) (rest := []) rfl (Nat.le_of_ble_eq_true rfl) (fun _ _ hq => ?_)
  obtain ⟨rfl, hh⟩ := hq
  rw [hh]
  exact jm [2, 1, 0, 0] (fun v0 v1 => fX11_guestFor_4 v0 v1 r) (fun v0 v1 q => tX11_guestFor_4 v0 v1 r q) hf
def wX11_guestFor_0 : List En := [(.aload_n 0, 0, 0, 0)]
def fX11_guestFor_0 (v0 : Nat) (v1 : Int32) (h : aH) : Option (Int32 × aH) :=
  fX11_guestFor_1 v0 v1 v0 h
theorem tX11_guestFor_0 {d : Nat} {z : Int32 × aH} (v0 : Nat) (v1 : Int32) (h : aH) (hf : fX11_guestFor_0 v0 v1 h = some z) : Ev (d + 4) none mX11_guestFor (0, 0) 0 [.ref v0, .int v1, .null, .null] [] h (QI z) := 
  go_ok (X := none) (blk := wX11_guestFor_0) (np := 1) (tt := 0) (kN := fun xs h st => app [2, 1, 0, 0] (fun v0 v1 => apS [2] (fun s0 => fX11_guestFor_1 v0 v1 s0 h) st) xs) (kT := fun _ _ _ => none) (kR := kRI)
    (fun xs h st q => jm [2, 1, 0, 0] _ (fun v0 v1 q => apS_ok [2] _ (fun st => Ev (d + 4) none mX11_guestFor (0, 0) 1 [.ref v0, .int v1, .null, .null] st h (QI z)) st (fun s0 q => tX11_guestFor_1 v0 v1 s0 h q) q) q)
    (fun _ _ _ q => nos q)
    kRI_ok (Or.inr rfl) (by decide +kernel) (by decide +kernel) hf
def gX11_guestFor (v0 : Nat) (v1 : Int32) (h : aH) : Option (Int32 × aH) := fX11_guestFor_0 v0 v1 h
theorem zX11_guestFor {d : Nat} {z : Int32 × aH} {v0 : Nat} {v1 : Int32} {h : aH} (q : gX11_guestFor v0 v1 h = some z) : CT (d + 4) mX11_guestFor (0, 0) [.ref v0, .int v1] h (QI z) :=
  ct_ev (by decide +kernel) (Nat.le_of_ble_eq_true rfl) QI_r (jm [2, 1, 0, 0] (fun v0 v1 => fX11_guestFor_0 v0 v1 h) (fun v0 v1 q => tX11_guestFor_0 v0 v1 h q) q)
def wX11_aheadWhy_12 : List En := [(.ireturn, 0, 0, 0)]
def fX11_aheadWhy_12 (s0 : Int32) (h : aH) : Option (Int32 × aH) :=
  some (s0, h)
theorem tX11_aheadWhy_12 {d : Nat} {z : Int32 × aH} (s0 : Int32) (h : aH) (hf : fX11_aheadWhy_12 s0 h = some z) : Ev (d + 1) none mX11_aheadWhy (0, 0) 12 [.null, .null, .null, .null] [.int s0] h (QI z) := 
  go_ok (X := none) (blk := wX11_aheadWhy_12) (np := 13) (tt := 0) (kN := fun _ _ _ => none) (kT := fun _ _ _ => none) (kR := kRI)
    (fun _ _ _ q => nos q)
    (fun _ _ _ q => nos q)
    kRI_ok (Or.inr rfl) (by decide +kernel) (by decide +kernel) hf
theorem kqX11_aheadWhy_9 : okC mX11_aheadWhy 9 (.invokevirtual 241) 235 252 0 2 = true := by decide +kernel
def fX11_aheadWhy_9 (s0 : Int32) (s1 : Int32) (s2 : Nat) (h : aH) : Option (Int32 × aH) :=
  (isO h 11 s2).bind fun _ =>
  (gX11_why s2 s1 s0 h).bind fun r =>
  fX11_aheadWhy_12 r.1 r.2
theorem tX11_aheadWhy_9 {d : Nat} {z : Int32 × aH} (s0 : Int32) (s1 : Int32) (s2 : Nat) (h : aH) (hf : fX11_aheadWhy_9 s0 s1 s2 h = some z) : Ev (d + 1) none mX11_aheadWhy (0, 0) 9 [.null, .null, .null, .null] [.int s0, .int s1, .ref s2] h (QI z) := by
  obtain ⟨_, h1, hf⟩ := bnd hf
  obtain ⟨fs, ho⟩ := isO_ok h1
  obtain ⟨r, h2, hf⟩ := bnd hf
  refine ev_V kqX11_aheadWhy_9 jX11_why (zX11_why (d := d + 0) h2) ho rfl rfl (Nat.le_of_ble_eq_true rfl) rfl (as := [.int s1, .int s0]) (rest := []) rfl (Nat.le_of_ble_eq_true rfl) (fun _ _ hq => ?_)
  obtain ⟨rfl, rfl⟩ := hq
  exact jm [0, 0, 0, 0] (fX11_aheadWhy_12 r.1 r.2) (fun q => tX11_aheadWhy_12 r.1 r.2 q) hf
theorem kqX11_aheadWhy_6 : okC mX11_aheadWhy 6 (.invokestatic 140) 182 197 1 3 = true := by decide +kernel
def fX11_aheadWhy_6 (s0 : Int32) (s1 : Int32) (s2 : Int32) (s3 : Int32) (s4 : Nat) (h : aH) : Option (Int32 × aH) :=
  (gX11_in s2 s1 s0 h).bind fun r =>
  fX11_aheadWhy_9 r.1 s3 s4 r.2
theorem tX11_aheadWhy_6 {d : Nat} {z : Int32 × aH} (s0 : Int32) (s1 : Int32) (s2 : Int32) (s3 : Int32) (s4 : Nat) (h : aH) (hf : fX11_aheadWhy_6 s0 s1 s2 s3 s4 h = some z) : Ev (d + 1) none mX11_aheadWhy (0, 0) 6 [.null, .null, .null, .null] [.int s0, .int s1, .int s2, .int s3, .ref s4] h (QI z) := by
  obtain ⟨r, h2, hf⟩ := bnd hf
  refine ev_S kqX11_aheadWhy_6 jX11_in (zX11_in (d := d + 0) h2) rfl (Nat.le_of_ble_eq_true rfl) rfl (as := [.int s2, .int s1, .int s0]) (rest := [.int s3, .ref s4]) rfl (Nat.le_of_ble_eq_true rfl) (fun _ _ hq => ?_)
  obtain ⟨-, rfl, rfl⟩ := hq
  exact jm [0, 0, 0, 0] (fX11_aheadWhy_9 r.1 s3 s4 r.2) (fun q => tX11_aheadWhy_9 r.1 s3 s4 r.2 q) hf
def wX11_aheadWhy_0 : List En := [(.aload_n 0, 0, 0, 0), (.iload_n 1, 0, 0, 0), (.iload_n 3, 0, 0, 0), (.iload_n 2, 0, 0, 0), (.bipush 60, 0, 0, 0)]
def fX11_aheadWhy_0 (v0 : Nat) (v1 : Int32) (v2 : Int32) (v3 : Int32) (h : aH) : Option (Int32 × aH) :=
  fX11_aheadWhy_6 (kB 60) v2 v3 v1 v0 h
theorem tX11_aheadWhy_0 {d : Nat} {z : Int32 × aH} (v0 : Nat) (v1 : Int32) (v2 : Int32) (v3 : Int32) (h : aH) (hf : fX11_aheadWhy_0 v0 v1 v2 v3 h = some z) : Ev (d + 1) none mX11_aheadWhy (0, 0) 0 [.ref v0, .int v1, .int v2, .int v3] [] h (QI z) := 
  go_ok (X := none) (blk := wX11_aheadWhy_0) (np := 6) (tt := 0) (kN := fun xs h st => app [0, 0, 0, 0] (apS [1, 1, 1, 1, 2] (fun s0 s1 s2 s3 s4 => fX11_aheadWhy_6 s0 s1 s2 s3 s4 h) st) xs) (kT := fun _ _ _ => none) (kR := kRI)
    (fun xs h st q => jm [0, 0, 0, 0] _ (fun q => apS_ok [1, 1, 1, 1, 2] _ (fun st => Ev (d + 1) none mX11_aheadWhy (0, 0) 6 [.null, .null, .null, .null] st h (QI z)) st (fun s0 s1 s2 s3 s4 q => tX11_aheadWhy_6 s0 s1 s2 s3 s4 h q) q) q)
    (fun _ _ _ q => nos q)
    kRI_ok (Or.inr rfl) (by decide +kernel) (by decide +kernel) hf
def gX11_aheadWhy (v0 : Nat) (v1 : Int32) (v2 : Int32) (v3 : Int32) (h : aH) : Option (Int32 × aH) := fX11_aheadWhy_0 v0 v1 v2 v3 h
theorem zX11_aheadWhy {d : Nat} {z : Int32 × aH} {v0 : Nat} {v1 : Int32} {v2 : Int32} {v3 : Int32} {h : aH} (q : gX11_aheadWhy v0 v1 v2 v3 h = some z) : CT (d + 1) mX11_aheadWhy (0, 0) [.ref v0, .int v1, .int v2, .int v3] h (QI z) :=
  ct_ev (by decide +kernel) (Nat.le_of_ble_eq_true rfl) QI_r (jm [2, 1, 1, 1] (fun v0 v1 v2 v3 => fX11_aheadWhy_0 v0 v1 v2 v3 h) (fun v0 v1 v2 v3 q => tX11_aheadWhy_0 v0 v1 v2 v3 h q) q)
def wX11_namerIn_30 : List En := [(.aload_n 0, 0, 0, 0), (.getfield 268, 200, 11, 25), (.ireturn, 0, 0, 0)]
def fX11_namerIn_30 (v0 : Nat) (h : aH) : Option (Int32 × aH) :=
  (gFI h 11 v0 25).bind fun t1 =>
  some (t1, h)
theorem tX11_namerIn_30 {d : Nat} {z : Int32 × aH} (v0 : Nat) (h : aH) (hf : fX11_namerIn_30 v0 h = some z) : Ev (d + 5) none mX11_namerIn (0, 0) 30 [.ref v0, .null, .null] [] h (QI z) := 
  go_ok (X := none) (blk := wX11_namerIn_30) (np := 35) (tt := 0) (kN := fun _ _ _ => none) (kT := fun _ _ _ => none) (kR := kRI)
    (fun _ _ _ q => nos q)
    (fun _ _ _ q => nos q)
    kRI_ok (Or.inr rfl) (by decide +kernel) (by decide +kernel) hf
theorem kqX11_namerIn_27 : okC mX11_namerIn 27 (.invokevirtual 294) 227 244 0 1 = true := by decide +kernel
def fX11_namerIn_27 (v0 : Nat) (s0 : Int32) (s1 : Nat) (h : aH) : Option (Int32 × aH) :=
  (isO h 11 s1).bind fun _ =>
  (gX11_daysOn s1 s0 h).bind fun r =>
  fX11_namerIn_30 v0 r
theorem tX11_namerIn_27 {d : Nat} {z : Int32 × aH} (v0 : Nat) (s0 : Int32) (s1 : Nat) (h : aH) (hf : fX11_namerIn_27 v0 s0 s1 h = some z) : Ev (d + 5) none mX11_namerIn (0, 0) 27 [.ref v0, .null, .null] [.int s0, .ref s1] h (QI z) := by
  obtain ⟨_, h1, hf⟩ := bnd hf
  obtain ⟨fs, ho⟩ := isO_ok h1
  obtain ⟨r, h2, hf⟩ := bnd hf
  refine ev_V kqX11_namerIn_27 jX11_daysOn (zX11_daysOn (d := d + 0) h2) ho rfl rfl (Nat.le_of_ble_eq_true rfl) rfl (as := [.int s0]) (rest := []) rfl (Nat.le_of_ble_eq_true rfl) (fun _ _ hq => ?_)
  obtain ⟨rfl, hh⟩ := hq
  rw [hh]
  exact jm [2, 0, 0] (fun v0 => fX11_namerIn_30 v0 r) (fun v0 q => tX11_namerIn_30 v0 r q) hf
def wX11_namerIn_25 : List En := [(.aload_n 0, 0, 0, 0), (.iload_n 1, 0, 0, 0)]
def fX11_namerIn_25 (v0 : Nat) (v1 : Int32) (h : aH) : Option (Int32 × aH) :=
  fX11_namerIn_27 v0 v1 v0 h
theorem tX11_namerIn_25 {d : Nat} {z : Int32 × aH} (v0 : Nat) (v1 : Int32) (h : aH) (hf : fX11_namerIn_25 v0 v1 h = some z) : Ev (d + 5) none mX11_namerIn (0, 0) 25 [.ref v0, .int v1, .null] [] h (QI z) := 
  go_ok (X := none) (blk := wX11_namerIn_25) (np := 27) (tt := 0) (kN := fun xs h st => app [2, 0, 0] (fun v0 => apS [1, 2] (fun s0 s1 => fX11_namerIn_27 v0 s0 s1 h) st) xs) (kT := fun _ _ _ => none) (kR := kRI)
    (fun xs h st q => jm [2, 0, 0] _ (fun v0 q => apS_ok [1, 2] _ (fun st => Ev (d + 5) none mX11_namerIn (0, 0) 27 [.ref v0, .null, .null] st h (QI z)) st (fun s0 s1 q => tX11_namerIn_27 v0 s0 s1 h q) q) q)
    (fun _ _ _ q => nos q)
    kRI_ok (Or.inr rfl) (by decide +kernel) (by decide +kernel) hf
def wX11_namerIn_24 : List En := [(.ireturn, 0, 0, 0)]
def fX11_namerIn_24 (s0 : Int32) (h : aH) : Option (Int32 × aH) :=
  some (s0, h)
theorem tX11_namerIn_24 {d : Nat} {z : Int32 × aH} (s0 : Int32) (h : aH) (hf : fX11_namerIn_24 s0 h = some z) : Ev (d + 5) none mX11_namerIn (0, 0) 24 [.null, .null, .null] [.int s0] h (QI z) := 
  go_ok (X := none) (blk := wX11_namerIn_24) (np := 25) (tt := 0) (kN := fun _ _ _ => none) (kT := fun _ _ _ => none) (kR := kRI)
    (fun _ _ _ q => nos q)
    (fun _ _ _ q => nos q)
    kRI_ok (Or.inr rfl) (by decide +kernel) (by decide +kernel) hf
theorem kqX11_namerIn_21 : okC mX11_namerIn 21 (.invokevirtual 164) 183 198 0 1 = true := by decide +kernel
def fX11_namerIn_21 (s0 : Int32) (s1 : Nat) (h : aH) : Option (Int32 × aH) :=
  (isO h 11 s1).bind fun _ =>
  (gX11_no s1 s0 h).bind fun r =>
  fX11_namerIn_24 r.1 r.2
theorem tX11_namerIn_21 {d : Nat} {z : Int32 × aH} (s0 : Int32) (s1 : Nat) (h : aH) (hf : fX11_namerIn_21 s0 s1 h = some z) : Ev (d + 5) none mX11_namerIn (0, 0) 21 [.null, .null, .null] [.int s0, .ref s1] h (QI z) := by
  obtain ⟨_, h1, hf⟩ := bnd hf
  obtain ⟨fs, ho⟩ := isO_ok h1
  obtain ⟨r, h2, hf⟩ := bnd hf
  refine ev_V kqX11_namerIn_21 jX11_no (zX11_no (d := d + 4) h2) ho rfl rfl (Nat.le_of_ble_eq_true rfl) rfl (as := [.int s0]) (rest := []) rfl (Nat.le_of_ble_eq_true rfl) (fun _ _ hq => ?_)
  obtain ⟨rfl, rfl⟩ := hq
  exact jm [0, 0, 0] (fX11_namerIn_24 r.1 r.2) (fun q => tX11_namerIn_24 r.1 r.2 q) hf
def wX11_namerIn_19 : List En := [(.aload_n 0, 0, 0, 0), (.iload_n 2, 0, 0, 0)]
def fX11_namerIn_19 (v0 : Nat) (v2 : Int32) (h : aH) : Option (Int32 × aH) :=
  fX11_namerIn_21 v2 v0 h
theorem tX11_namerIn_19 {d : Nat} {z : Int32 × aH} (v0 : Nat) (v2 : Int32) (h : aH) (hf : fX11_namerIn_19 v0 v2 h = some z) : Ev (d + 5) none mX11_namerIn (0, 0) 19 [.ref v0, .null, .int v2] [] h (QI z) := 
  go_ok (X := none) (blk := wX11_namerIn_19) (np := 21) (tt := 0) (kN := fun xs h st => app [0, 0, 0] (apS [1, 2] (fun s0 s1 => fX11_namerIn_21 s0 s1 h) st) xs) (kT := fun _ _ _ => none) (kR := kRI)
    (fun xs h st q => jm [0, 0, 0] _ (fun q => apS_ok [1, 2] _ (fun st => Ev (d + 5) none mX11_namerIn (0, 0) 21 [.null, .null, .null] st h (QI z)) st (fun s0 s1 q => tX11_namerIn_21 s0 s1 h q) q) q)
    (fun _ _ _ q => nos q)
    kRI_ok (Or.inr rfl) (by decide +kernel) (by decide +kernel) hf
def wX11_namerIn_14 : List En := [(.istore_n 2, 0, 0, 0), (.iload_n 2, 0, 0, 0), (.ifCond .eq 9, 25, 0, 0)]
def fX11_namerIn_14 (v0 : Nat) (v1 : Int32) (s0 : Int32) (h : aH) : Option (Int32 × aH) :=
  if s0 = 0 then fX11_namerIn_25 v0 v1 h else fX11_namerIn_19 v0 s0 h
theorem tX11_namerIn_14 {d : Nat} {z : Int32 × aH} (v0 : Nat) (v1 : Int32) (s0 : Int32) (h : aH) (hf : fX11_namerIn_14 v0 v1 s0 h = some z) : Ev (d + 5) none mX11_namerIn (0, 0) 14 [.ref v0, .int v1, .null] [.int s0] h (QI z) := 
  go_ok (X := none) (blk := wX11_namerIn_14) (np := 19) (tt := 25) (kN := fun xs h st => app [2, 0, 1] (fun v0 v2 => apS [] (fX11_namerIn_19 v0 v2 h) st) xs) (kT := fun xs h st => app [2, 1, 0] (fun v0 v1 => apS [] (fX11_namerIn_25 v0 v1 h) st) xs) (kR := kRI)
    (fun xs h st q => jm [2, 0, 1] _ (fun v0 v2 q => apS_ok [] _ (fun st => Ev (d + 5) none mX11_namerIn (0, 0) 19 [.ref v0, .null, .int v2] st h (QI z)) st (fun q => tX11_namerIn_19 v0 v2 h q) q) q)
    (fun xs h st q => jm [2, 1, 0] _ (fun v0 v1 q => apS_ok [] _ (fun st => Ev (d + 5) none mX11_namerIn (0, 0) 25 [.ref v0, .int v1, .null] st h (QI z)) st (fun q => tX11_namerIn_25 v0 v1 h q) q) q)
    kRI_ok (Or.inr rfl) (by decide +kernel) (by decide +kernel) hf
theorem kqX11_namerIn_11 : okC mX11_namerIn 11 (.invokevirtual 300) 239 256 0 3 = true := by decide +kernel
def fX11_namerIn_11 (v0 : Nat) (v1 : Int32) (s0 : Int32) (s1 : Int32) (s2 : Int32) (s3 : Nat) (h : aH) : Option (Int32 × aH) :=
  (isO h 11 s3).bind fun _ =>
  (gX11_aheadWhy s3 s2 s1 s0 h).bind fun r =>
  fX11_namerIn_14 v0 v1 r.1 r.2
theorem tX11_namerIn_11 {d : Nat} {z : Int32 × aH} (v0 : Nat) (v1 : Int32) (s0 : Int32) (s1 : Int32) (s2 : Int32) (s3 : Nat) (h : aH) (hf : fX11_namerIn_11 v0 v1 s0 s1 s2 s3 h = some z) : Ev (d + 5) none mX11_namerIn (0, 0) 11 [.ref v0, .int v1, .null] [.int s0, .int s1, .int s2, .ref s3] h (QI z) := by
  obtain ⟨_, h1, hf⟩ := bnd hf
  obtain ⟨fs, ho⟩ := isO_ok h1
  obtain ⟨r, h2, hf⟩ := bnd hf
  refine ev_V kqX11_namerIn_11 jX11_aheadWhy (zX11_aheadWhy (d := d + 3) h2) ho rfl rfl (Nat.le_of_ble_eq_true rfl) rfl (as := [.int s2, .int s1, .int s0]) (rest := []) rfl (Nat.le_of_ble_eq_true rfl) (fun _ _ hq => ?_)
  obtain ⟨rfl, rfl⟩ := hq
  exact jm [2, 1, 0] (fun v0 v1 => fX11_namerIn_14 v0 v1 r.1 r.2) (fun v0 v1 q => tX11_namerIn_14 v0 v1 r.1 r.2 q) hf
def wX11_namerIn_4 : List En := [(.aload_n 0, 0, 0, 0), (.aload_n 0, 0, 0, 0), (.getfield 174, 189, 11, 14), (.iconst 1, 0, 0, 0), (.iload_n 1, 0, 0, 0)]
def fX11_namerIn_4 (v0 : Nat) (v1 : Int32) (h : aH) : Option (Int32 × aH) :=
  (gFI h 11 v0 14).bind fun t1 =>
  fX11_namerIn_11 v0 v1 v1 (kI 1) t1 v0 h
theorem tX11_namerIn_4 {d : Nat} {z : Int32 × aH} (v0 : Nat) (v1 : Int32) (h : aH) (hf : fX11_namerIn_4 v0 v1 h = some z) : Ev (d + 5) none mX11_namerIn (0, 0) 4 [.ref v0, .int v1, .null] [] h (QI z) := 
  go_ok (X := none) (blk := wX11_namerIn_4) (np := 11) (tt := 0) (kN := fun xs h st => app [2, 1, 0] (fun v0 v1 => apS [1, 1, 1, 2] (fun s0 s1 s2 s3 => fX11_namerIn_11 v0 v1 s0 s1 s2 s3 h) st) xs) (kT := fun _ _ _ => none) (kR := kRI)
    (fun xs h st q => jm [2, 1, 0] _ (fun v0 v1 q => apS_ok [1, 1, 1, 2] _ (fun st => Ev (d + 5) none mX11_namerIn (0, 0) 11 [.ref v0, .int v1, .null] st h (QI z)) st (fun s0 s1 s2 s3 q => tX11_namerIn_11 v0 v1 s0 s1 s2 s3 h q) q) q)
    (fun _ _ _ q => nos q)
    kRI_ok (Or.inr rfl) (by decide +kernel) (by decide +kernel) hf
theorem kqX11_namerIn_1 : okC mX11_namerIn 1 (.invokevirtual 161) 181 196 0 0 = true := by decide +kernel
def fX11_namerIn_1 (v0 : Nat) (v1 : Int32) (s0 : Nat) (h : aH) : Option (Int32 × aH) :=
  (isO h 11 s0).bind fun _ =>
  (gX11_anew s0 h).bind fun r =>
  fX11_namerIn_4 v0 v1 r
theorem tX11_namerIn_1 {d : Nat} {z : Int32 × aH} (v0 : Nat) (v1 : Int32) (s0 : Nat) (h : aH) (hf : fX11_namerIn_1 v0 v1 s0 h = some z) : Ev (d + 5) none mX11_namerIn (0, 0) 1 [.ref v0, .int v1, .null] [.ref s0] h (QI z) := by
  obtain ⟨_, h1, hf⟩ := bnd hf
  obtain ⟨fs, ho⟩ := isO_ok h1
  obtain ⟨r, h2, hf⟩ := bnd hf
  refine ev_V kqX11_namerIn_1 jX11_anew (zX11_anew (d := d + 4) h2) ho rfl rfl (Nat.le_of_ble_eq_true rfl) rfl (as := []) (rest := []) rfl (Nat.le_of_ble_eq_true rfl) (fun _ _ hq => ?_)
  obtain ⟨rfl, hh⟩ := hq
  rw [hh]
  exact jm [2, 1, 0] (fun v0 v1 => fX11_namerIn_4 v0 v1 r) (fun v0 v1 q => tX11_namerIn_4 v0 v1 r q) hf
def wX11_namerIn_0 : List En := [(.aload_n 0, 0, 0, 0)]
def fX11_namerIn_0 (v0 : Nat) (v1 : Int32) (h : aH) : Option (Int32 × aH) :=
  fX11_namerIn_1 v0 v1 v0 h
theorem tX11_namerIn_0 {d : Nat} {z : Int32 × aH} (v0 : Nat) (v1 : Int32) (h : aH) (hf : fX11_namerIn_0 v0 v1 h = some z) : Ev (d + 5) none mX11_namerIn (0, 0) 0 [.ref v0, .int v1, .null] [] h (QI z) := 
  go_ok (X := none) (blk := wX11_namerIn_0) (np := 1) (tt := 0) (kN := fun xs h st => app [2, 1, 0] (fun v0 v1 => apS [2] (fun s0 => fX11_namerIn_1 v0 v1 s0 h) st) xs) (kT := fun _ _ _ => none) (kR := kRI)
    (fun xs h st q => jm [2, 1, 0] _ (fun v0 v1 q => apS_ok [2] _ (fun st => Ev (d + 5) none mX11_namerIn (0, 0) 1 [.ref v0, .int v1, .null] st h (QI z)) st (fun s0 q => tX11_namerIn_1 v0 v1 s0 h q) q) q)
    (fun _ _ _ q => nos q)
    kRI_ok (Or.inr rfl) (by decide +kernel) (by decide +kernel) hf
def gX11_namerIn (v0 : Nat) (v1 : Int32) (h : aH) : Option (Int32 × aH) := fX11_namerIn_0 v0 v1 h
theorem zX11_namerIn {d : Nat} {z : Int32 × aH} {v0 : Nat} {v1 : Int32} {h : aH} (q : gX11_namerIn v0 v1 h = some z) : CT (d + 5) mX11_namerIn (0, 0) [.ref v0, .int v1] h (QI z) :=
  ct_ev (by decide +kernel) (Nat.le_of_ble_eq_true rfl) QI_r (jm [2, 1, 0] (fun v0 v1 => fX11_namerIn_0 v0 v1 h) (fun v0 v1 q => tX11_namerIn_0 v0 v1 h q) q)
def wX11_dishIn_30 : List En := [(.aload_n 0, 0, 0, 0), (.getfield 257, 201, 11, 26), (.ireturn, 0, 0, 0)]
def fX11_dishIn_30 (v0 : Nat) (h : aH) : Option (Int32 × aH) :=
  (gFI h 11 v0 26).bind fun t1 =>
  some (t1, h)
theorem tX11_dishIn_30 {d : Nat} {z : Int32 × aH} (v0 : Nat) (h : aH) (hf : fX11_dishIn_30 v0 h = some z) : Ev (d + 5) none mX11_dishIn (0, 0) 30 [.ref v0, .null, .null] [] h (QI z) := 
  go_ok (X := none) (blk := wX11_dishIn_30) (np := 35) (tt := 0) (kN := fun _ _ _ => none) (kT := fun _ _ _ => none) (kR := kRI)
    (fun _ _ _ q => nos q)
    (fun _ _ _ q => nos q)
    kRI_ok (Or.inr rfl) (by decide +kernel) (by decide +kernel) hf
theorem kqX11_dishIn_27 : okC mX11_dishIn 27 (.invokevirtual 294) 227 244 0 1 = true := by decide +kernel
def fX11_dishIn_27 (v0 : Nat) (s0 : Int32) (s1 : Nat) (h : aH) : Option (Int32 × aH) :=
  (isO h 11 s1).bind fun _ =>
  (gX11_daysOn s1 s0 h).bind fun r =>
  fX11_dishIn_30 v0 r
theorem tX11_dishIn_27 {d : Nat} {z : Int32 × aH} (v0 : Nat) (s0 : Int32) (s1 : Nat) (h : aH) (hf : fX11_dishIn_27 v0 s0 s1 h = some z) : Ev (d + 5) none mX11_dishIn (0, 0) 27 [.ref v0, .null, .null] [.int s0, .ref s1] h (QI z) := by
  obtain ⟨_, h1, hf⟩ := bnd hf
  obtain ⟨fs, ho⟩ := isO_ok h1
  obtain ⟨r, h2, hf⟩ := bnd hf
  refine ev_V kqX11_dishIn_27 jX11_daysOn (zX11_daysOn (d := d + 0) h2) ho rfl rfl (Nat.le_of_ble_eq_true rfl) rfl (as := [.int s0]) (rest := []) rfl (Nat.le_of_ble_eq_true rfl) (fun _ _ hq => ?_)
  obtain ⟨rfl, hh⟩ := hq
  rw [hh]
  exact jm [2, 0, 0] (fun v0 => fX11_dishIn_30 v0 r) (fun v0 q => tX11_dishIn_30 v0 r q) hf
def wX11_dishIn_25 : List En := [(.aload_n 0, 0, 0, 0), (.iload_n 1, 0, 0, 0)]
def fX11_dishIn_25 (v0 : Nat) (v1 : Int32) (h : aH) : Option (Int32 × aH) :=
  fX11_dishIn_27 v0 v1 v0 h
theorem tX11_dishIn_25 {d : Nat} {z : Int32 × aH} (v0 : Nat) (v1 : Int32) (h : aH) (hf : fX11_dishIn_25 v0 v1 h = some z) : Ev (d + 5) none mX11_dishIn (0, 0) 25 [.ref v0, .int v1, .null] [] h (QI z) := 
  go_ok (X := none) (blk := wX11_dishIn_25) (np := 27) (tt := 0) (kN := fun xs h st => app [2, 0, 0] (fun v0 => apS [1, 2] (fun s0 s1 => fX11_dishIn_27 v0 s0 s1 h) st) xs) (kT := fun _ _ _ => none) (kR := kRI)
    (fun xs h st q => jm [2, 0, 0] _ (fun v0 q => apS_ok [1, 2] _ (fun st => Ev (d + 5) none mX11_dishIn (0, 0) 27 [.ref v0, .null, .null] st h (QI z)) st (fun s0 s1 q => tX11_dishIn_27 v0 s0 s1 h q) q) q)
    (fun _ _ _ q => nos q)
    kRI_ok (Or.inr rfl) (by decide +kernel) (by decide +kernel) hf
def wX11_dishIn_24 : List En := [(.ireturn, 0, 0, 0)]
def fX11_dishIn_24 (s0 : Int32) (h : aH) : Option (Int32 × aH) :=
  some (s0, h)
theorem tX11_dishIn_24 {d : Nat} {z : Int32 × aH} (s0 : Int32) (h : aH) (hf : fX11_dishIn_24 s0 h = some z) : Ev (d + 5) none mX11_dishIn (0, 0) 24 [.null, .null, .null] [.int s0] h (QI z) := 
  go_ok (X := none) (blk := wX11_dishIn_24) (np := 25) (tt := 0) (kN := fun _ _ _ => none) (kT := fun _ _ _ => none) (kR := kRI)
    (fun _ _ _ q => nos q)
    (fun _ _ _ q => nos q)
    kRI_ok (Or.inr rfl) (by decide +kernel) (by decide +kernel) hf
theorem kqX11_dishIn_21 : okC mX11_dishIn 21 (.invokevirtual 164) 183 198 0 1 = true := by decide +kernel
def fX11_dishIn_21 (s0 : Int32) (s1 : Nat) (h : aH) : Option (Int32 × aH) :=
  (isO h 11 s1).bind fun _ =>
  (gX11_no s1 s0 h).bind fun r =>
  fX11_dishIn_24 r.1 r.2
theorem tX11_dishIn_21 {d : Nat} {z : Int32 × aH} (s0 : Int32) (s1 : Nat) (h : aH) (hf : fX11_dishIn_21 s0 s1 h = some z) : Ev (d + 5) none mX11_dishIn (0, 0) 21 [.null, .null, .null] [.int s0, .ref s1] h (QI z) := by
  obtain ⟨_, h1, hf⟩ := bnd hf
  obtain ⟨fs, ho⟩ := isO_ok h1
  obtain ⟨r, h2, hf⟩ := bnd hf
  refine ev_V kqX11_dishIn_21 jX11_no (zX11_no (d := d + 4) h2) ho rfl rfl (Nat.le_of_ble_eq_true rfl) rfl (as := [.int s0]) (rest := []) rfl (Nat.le_of_ble_eq_true rfl) (fun _ _ hq => ?_)
  obtain ⟨rfl, rfl⟩ := hq
  exact jm [0, 0, 0] (fX11_dishIn_24 r.1 r.2) (fun q => tX11_dishIn_24 r.1 r.2 q) hf
def wX11_dishIn_19 : List En := [(.aload_n 0, 0, 0, 0), (.iload_n 2, 0, 0, 0)]
def fX11_dishIn_19 (v0 : Nat) (v2 : Int32) (h : aH) : Option (Int32 × aH) :=
  fX11_dishIn_21 v2 v0 h
theorem tX11_dishIn_19 {d : Nat} {z : Int32 × aH} (v0 : Nat) (v2 : Int32) (h : aH) (hf : fX11_dishIn_19 v0 v2 h = some z) : Ev (d + 5) none mX11_dishIn (0, 0) 19 [.ref v0, .null, .int v2] [] h (QI z) := 
  go_ok (X := none) (blk := wX11_dishIn_19) (np := 21) (tt := 0) (kN := fun xs h st => app [0, 0, 0] (apS [1, 2] (fun s0 s1 => fX11_dishIn_21 s0 s1 h) st) xs) (kT := fun _ _ _ => none) (kR := kRI)
    (fun xs h st q => jm [0, 0, 0] _ (fun q => apS_ok [1, 2] _ (fun st => Ev (d + 5) none mX11_dishIn (0, 0) 21 [.null, .null, .null] st h (QI z)) st (fun s0 s1 q => tX11_dishIn_21 s0 s1 h q) q) q)
    (fun _ _ _ q => nos q)
    kRI_ok (Or.inr rfl) (by decide +kernel) (by decide +kernel) hf
def wX11_dishIn_14 : List En := [(.istore_n 2, 0, 0, 0), (.iload_n 2, 0, 0, 0), (.ifCond .eq 9, 25, 0, 0)]
def fX11_dishIn_14 (v0 : Nat) (v1 : Int32) (s0 : Int32) (h : aH) : Option (Int32 × aH) :=
  if s0 = 0 then fX11_dishIn_25 v0 v1 h else fX11_dishIn_19 v0 s0 h
theorem tX11_dishIn_14 {d : Nat} {z : Int32 × aH} (v0 : Nat) (v1 : Int32) (s0 : Int32) (h : aH) (hf : fX11_dishIn_14 v0 v1 s0 h = some z) : Ev (d + 5) none mX11_dishIn (0, 0) 14 [.ref v0, .int v1, .null] [.int s0] h (QI z) := 
  go_ok (X := none) (blk := wX11_dishIn_14) (np := 19) (tt := 25) (kN := fun xs h st => app [2, 0, 1] (fun v0 v2 => apS [] (fX11_dishIn_19 v0 v2 h) st) xs) (kT := fun xs h st => app [2, 1, 0] (fun v0 v1 => apS [] (fX11_dishIn_25 v0 v1 h) st) xs) (kR := kRI)
    (fun xs h st q => jm [2, 0, 1] _ (fun v0 v2 q => apS_ok [] _ (fun st => Ev (d + 5) none mX11_dishIn (0, 0) 19 [.ref v0, .null, .int v2] st h (QI z)) st (fun q => tX11_dishIn_19 v0 v2 h q) q) q)
    (fun xs h st q => jm [2, 1, 0] _ (fun v0 v1 q => apS_ok [] _ (fun st => Ev (d + 5) none mX11_dishIn (0, 0) 25 [.ref v0, .int v1, .null] st h (QI z)) st (fun q => tX11_dishIn_25 v0 v1 h q) q) q)
    kRI_ok (Or.inr rfl) (by decide +kernel) (by decide +kernel) hf
theorem kqX11_dishIn_11 : okC mX11_dishIn 11 (.invokevirtual 300) 239 256 0 3 = true := by decide +kernel
def fX11_dishIn_11 (v0 : Nat) (v1 : Int32) (s0 : Int32) (s1 : Int32) (s2 : Int32) (s3 : Nat) (h : aH) : Option (Int32 × aH) :=
  (isO h 11 s3).bind fun _ =>
  (gX11_aheadWhy s3 s2 s1 s0 h).bind fun r =>
  fX11_dishIn_14 v0 v1 r.1 r.2
theorem tX11_dishIn_11 {d : Nat} {z : Int32 × aH} (v0 : Nat) (v1 : Int32) (s0 : Int32) (s1 : Int32) (s2 : Int32) (s3 : Nat) (h : aH) (hf : fX11_dishIn_11 v0 v1 s0 s1 s2 s3 h = some z) : Ev (d + 5) none mX11_dishIn (0, 0) 11 [.ref v0, .int v1, .null] [.int s0, .int s1, .int s2, .ref s3] h (QI z) := by
  obtain ⟨_, h1, hf⟩ := bnd hf
  obtain ⟨fs, ho⟩ := isO_ok h1
  obtain ⟨r, h2, hf⟩ := bnd hf
  refine ev_V kqX11_dishIn_11 jX11_aheadWhy (zX11_aheadWhy (d := d + 3) h2) ho rfl rfl (Nat.le_of_ble_eq_true rfl) rfl (as := [.int s2, .int s1, .int s0]) (rest := []) rfl (Nat.le_of_ble_eq_true rfl) (fun _ _ hq => ?_)
  obtain ⟨rfl, rfl⟩ := hq
  exact jm [2, 1, 0] (fun v0 v1 => fX11_dishIn_14 v0 v1 r.1 r.2) (fun v0 v1 q => tX11_dishIn_14 v0 v1 r.1 r.2 q) hf
def wX11_dishIn_4 : List En := [(.aload_n 0, 0, 0, 0), (.aload_n 0, 0, 0, 0), (.getfield 174, 189, 11, 14), (.iconst 1, 0, 0, 0), (.iload_n 1, 0, 0, 0)]
def fX11_dishIn_4 (v0 : Nat) (v1 : Int32) (h : aH) : Option (Int32 × aH) :=
  (gFI h 11 v0 14).bind fun t1 =>
  fX11_dishIn_11 v0 v1 v1 (kI 1) t1 v0 h
theorem tX11_dishIn_4 {d : Nat} {z : Int32 × aH} (v0 : Nat) (v1 : Int32) (h : aH) (hf : fX11_dishIn_4 v0 v1 h = some z) : Ev (d + 5) none mX11_dishIn (0, 0) 4 [.ref v0, .int v1, .null] [] h (QI z) := 
  go_ok (X := none) (blk := wX11_dishIn_4) (np := 11) (tt := 0) (kN := fun xs h st => app [2, 1, 0] (fun v0 v1 => apS [1, 1, 1, 2] (fun s0 s1 s2 s3 => fX11_dishIn_11 v0 v1 s0 s1 s2 s3 h) st) xs) (kT := fun _ _ _ => none) (kR := kRI)
    (fun xs h st q => jm [2, 1, 0] _ (fun v0 v1 q => apS_ok [1, 1, 1, 2] _ (fun st => Ev (d + 5) none mX11_dishIn (0, 0) 11 [.ref v0, .int v1, .null] st h (QI z)) st (fun s0 s1 s2 s3 q => tX11_dishIn_11 v0 v1 s0 s1 s2 s3 h q) q) q)
    (fun _ _ _ q => nos q)
    kRI_ok (Or.inr rfl) (by decide +kernel) (by decide +kernel) hf
theorem kqX11_dishIn_1 : okC mX11_dishIn 1 (.invokevirtual 161) 181 196 0 0 = true := by decide +kernel
def fX11_dishIn_1 (v0 : Nat) (v1 : Int32) (s0 : Nat) (h : aH) : Option (Int32 × aH) :=
  (isO h 11 s0).bind fun _ =>
  (gX11_anew s0 h).bind fun r =>
  fX11_dishIn_4 v0 v1 r
theorem tX11_dishIn_1 {d : Nat} {z : Int32 × aH} (v0 : Nat) (v1 : Int32) (s0 : Nat) (h : aH) (hf : fX11_dishIn_1 v0 v1 s0 h = some z) : Ev (d + 5) none mX11_dishIn (0, 0) 1 [.ref v0, .int v1, .null] [.ref s0] h (QI z) := by
  obtain ⟨_, h1, hf⟩ := bnd hf
  obtain ⟨fs, ho⟩ := isO_ok h1
  obtain ⟨r, h2, hf⟩ := bnd hf
  refine ev_V kqX11_dishIn_1 jX11_anew (zX11_anew (d := d + 4) h2) ho rfl rfl (Nat.le_of_ble_eq_true rfl) rfl (as := []) (rest := []) rfl (Nat.le_of_ble_eq_true rfl) (fun _ _ hq => ?_)
  obtain ⟨rfl, hh⟩ := hq
  rw [hh]
  exact jm [2, 1, 0] (fun v0 v1 => fX11_dishIn_4 v0 v1 r) (fun v0 v1 q => tX11_dishIn_4 v0 v1 r q) hf
def wX11_dishIn_0 : List En := [(.aload_n 0, 0, 0, 0)]
def fX11_dishIn_0 (v0 : Nat) (v1 : Int32) (h : aH) : Option (Int32 × aH) :=
  fX11_dishIn_1 v0 v1 v0 h
theorem tX11_dishIn_0 {d : Nat} {z : Int32 × aH} (v0 : Nat) (v1 : Int32) (h : aH) (hf : fX11_dishIn_0 v0 v1 h = some z) : Ev (d + 5) none mX11_dishIn (0, 0) 0 [.ref v0, .int v1, .null] [] h (QI z) := 
  go_ok (X := none) (blk := wX11_dishIn_0) (np := 1) (tt := 0) (kN := fun xs h st => app [2, 1, 0] (fun v0 v1 => apS [2] (fun s0 => fX11_dishIn_1 v0 v1 s0 h) st) xs) (kT := fun _ _ _ => none) (kR := kRI)
    (fun xs h st q => jm [2, 1, 0] _ (fun v0 v1 q => apS_ok [2] _ (fun st => Ev (d + 5) none mX11_dishIn (0, 0) 1 [.ref v0, .int v1, .null] st h (QI z)) st (fun s0 q => tX11_dishIn_1 v0 v1 s0 h q) q) q)
    (fun _ _ _ q => nos q)
    kRI_ok (Or.inr rfl) (by decide +kernel) (by decide +kernel) hf
def gX11_dishIn (v0 : Nat) (v1 : Int32) (h : aH) : Option (Int32 × aH) := fX11_dishIn_0 v0 v1 h
theorem zX11_dishIn {d : Nat} {z : Int32 × aH} {v0 : Nat} {v1 : Int32} {h : aH} (q : gX11_dishIn v0 v1 h = some z) : CT (d + 5) mX11_dishIn (0, 0) [.ref v0, .int v1] h (QI z) :=
  ct_ev (by decide +kernel) (Nat.le_of_ble_eq_true rfl) QI_r (jm [2, 1, 0] (fun v0 v1 => fX11_dishIn_0 v0 v1 h) (fun v0 v1 q => tX11_dishIn_0 v0 v1 h q) q)
def wX11_hungerIn_31 : List En := [(.aload_n 0, 0, 0, 0), (.getfield 35, 195, 11, 20), (.iload_n 1, 0, 0, 0), (.iaload, 0, 0, 0), (.ireturn, 0, 0, 0)]
def fX11_hungerIn_31 (v0 : Nat) (v1 : Int32) (h : aH) : Option (Int32 × aH) :=
  (gFR h 11 v0 20).bind fun t1 =>
  (aRI (h[t1]?) v1).bind fun t2 =>
  some (t2, h)
theorem tX11_hungerIn_31 {d : Nat} {z : Int32 × aH} (v0 : Nat) (v1 : Int32) (h : aH) (hf : fX11_hungerIn_31 v0 v1 h = some z) : Ev (d + 5) none mX11_hungerIn (0, 0) 31 [.ref v0, .int v1, .null, .null] [] h (QI z) := 
  go_ok (X := none) (blk := wX11_hungerIn_31) (np := 38) (tt := 0) (kN := fun _ _ _ => none) (kT := fun _ _ _ => none) (kR := kRI)
    (fun _ _ _ q => nos q)
    (fun _ _ _ q => nos q)
    kRI_ok (Or.inr rfl) (by decide +kernel) (by decide +kernel) hf
theorem kqX11_hungerIn_28 : okC mX11_hungerIn 28 (.invokevirtual 294) 227 244 0 1 = true := by decide +kernel
def fX11_hungerIn_28 (v0 : Nat) (v1 : Int32) (s0 : Int32) (s1 : Nat) (h : aH) : Option (Int32 × aH) :=
  (isO h 11 s1).bind fun _ =>
  (gX11_daysOn s1 s0 h).bind fun r =>
  fX11_hungerIn_31 v0 v1 r
theorem tX11_hungerIn_28 {d : Nat} {z : Int32 × aH} (v0 : Nat) (v1 : Int32) (s0 : Int32) (s1 : Nat) (h : aH) (hf : fX11_hungerIn_28 v0 v1 s0 s1 h = some z) : Ev (d + 5) none mX11_hungerIn (0, 0) 28 [.ref v0, .int v1, .null, .null] [.int s0, .ref s1] h (QI z) := by
  obtain ⟨_, h1, hf⟩ := bnd hf
  obtain ⟨fs, ho⟩ := isO_ok h1
  obtain ⟨r, h2, hf⟩ := bnd hf
  refine ev_V kqX11_hungerIn_28 jX11_daysOn (zX11_daysOn (d := d + 0) h2) ho rfl rfl (Nat.le_of_ble_eq_true rfl) rfl (as := [.int s0]) (rest := []) rfl (Nat.le_of_ble_eq_true rfl) (fun _ _ hq => ?_)
  obtain ⟨rfl, hh⟩ := hq
  rw [hh]
  exact jm [2, 1, 0, 0] (fun v0 v1 => fX11_hungerIn_31 v0 v1 r) (fun v0 v1 q => tX11_hungerIn_31 v0 v1 r q) hf
def wX11_hungerIn_26 : List En := [(.aload_n 0, 0, 0, 0), (.iload_n 2, 0, 0, 0)]
def fX11_hungerIn_26 (v0 : Nat) (v1 : Int32) (v2 : Int32) (h : aH) : Option (Int32 × aH) :=
  fX11_hungerIn_28 v0 v1 v2 v0 h
theorem tX11_hungerIn_26 {d : Nat} {z : Int32 × aH} (v0 : Nat) (v1 : Int32) (v2 : Int32) (h : aH) (hf : fX11_hungerIn_26 v0 v1 v2 h = some z) : Ev (d + 5) none mX11_hungerIn (0, 0) 26 [.ref v0, .int v1, .int v2, .null] [] h (QI z) := 
  go_ok (X := none) (blk := wX11_hungerIn_26) (np := 28) (tt := 0) (kN := fun xs h st => app [2, 1, 0, 0] (fun v0 v1 => apS [1, 2] (fun s0 s1 => fX11_hungerIn_28 v0 v1 s0 s1 h) st) xs) (kT := fun _ _ _ => none) (kR := kRI)
    (fun xs h st q => jm [2, 1, 0, 0] _ (fun v0 v1 q => apS_ok [1, 2] _ (fun st => Ev (d + 5) none mX11_hungerIn (0, 0) 28 [.ref v0, .int v1, .null, .null] st h (QI z)) st (fun s0 s1 q => tX11_hungerIn_28 v0 v1 s0 s1 h q) q) q)
    (fun _ _ _ q => nos q)
    kRI_ok (Or.inr rfl) (by decide +kernel) (by decide +kernel) hf
def wX11_hungerIn_25 : List En := [(.ireturn, 0, 0, 0)]
def fX11_hungerIn_25 (s0 : Int32) (h : aH) : Option (Int32 × aH) :=
  some (s0, h)
theorem tX11_hungerIn_25 {d : Nat} {z : Int32 × aH} (s0 : Int32) (h : aH) (hf : fX11_hungerIn_25 s0 h = some z) : Ev (d + 5) none mX11_hungerIn (0, 0) 25 [.null, .null, .null, .null] [.int s0] h (QI z) := 
  go_ok (X := none) (blk := wX11_hungerIn_25) (np := 26) (tt := 0) (kN := fun _ _ _ => none) (kT := fun _ _ _ => none) (kR := kRI)
    (fun _ _ _ q => nos q)
    (fun _ _ _ q => nos q)
    kRI_ok (Or.inr rfl) (by decide +kernel) (by decide +kernel) hf
theorem kqX11_hungerIn_22 : okC mX11_hungerIn 22 (.invokevirtual 164) 183 198 0 1 = true := by decide +kernel
def fX11_hungerIn_22 (s0 : Int32) (s1 : Nat) (h : aH) : Option (Int32 × aH) :=
  (isO h 11 s1).bind fun _ =>
  (gX11_no s1 s0 h).bind fun r =>
  fX11_hungerIn_25 r.1 r.2
theorem tX11_hungerIn_22 {d : Nat} {z : Int32 × aH} (s0 : Int32) (s1 : Nat) (h : aH) (hf : fX11_hungerIn_22 s0 s1 h = some z) : Ev (d + 5) none mX11_hungerIn (0, 0) 22 [.null, .null, .null, .null] [.int s0, .ref s1] h (QI z) := by
  obtain ⟨_, h1, hf⟩ := bnd hf
  obtain ⟨fs, ho⟩ := isO_ok h1
  obtain ⟨r, h2, hf⟩ := bnd hf
  refine ev_V kqX11_hungerIn_22 jX11_no (zX11_no (d := d + 4) h2) ho rfl rfl (Nat.le_of_ble_eq_true rfl) rfl (as := [.int s0]) (rest := []) rfl (Nat.le_of_ble_eq_true rfl) (fun _ _ hq => ?_)
  obtain ⟨rfl, rfl⟩ := hq
  exact jm [0, 0, 0, 0] (fX11_hungerIn_25 r.1 r.2) (fun q => tX11_hungerIn_25 r.1 r.2 q) hf
def wX11_hungerIn_20 : List En := [(.aload_n 0, 0, 0, 0), (.iload_n 3, 0, 0, 0)]
def fX11_hungerIn_20 (v0 : Nat) (v3 : Int32) (h : aH) : Option (Int32 × aH) :=
  fX11_hungerIn_22 v3 v0 h
theorem tX11_hungerIn_20 {d : Nat} {z : Int32 × aH} (v0 : Nat) (v3 : Int32) (h : aH) (hf : fX11_hungerIn_20 v0 v3 h = some z) : Ev (d + 5) none mX11_hungerIn (0, 0) 20 [.ref v0, .null, .null, .int v3] [] h (QI z) := 
  go_ok (X := none) (blk := wX11_hungerIn_20) (np := 22) (tt := 0) (kN := fun xs h st => app [0, 0, 0, 0] (apS [1, 2] (fun s0 s1 => fX11_hungerIn_22 s0 s1 h) st) xs) (kT := fun _ _ _ => none) (kR := kRI)
    (fun xs h st q => jm [0, 0, 0, 0] _ (fun q => apS_ok [1, 2] _ (fun st => Ev (d + 5) none mX11_hungerIn (0, 0) 22 [.null, .null, .null, .null] st h (QI z)) st (fun s0 s1 q => tX11_hungerIn_22 s0 s1 h q) q) q)
    (fun _ _ _ q => nos q)
    kRI_ok (Or.inr rfl) (by decide +kernel) (by decide +kernel) hf
def wX11_hungerIn_15 : List En := [(.istore_n 3, 0, 0, 0), (.iload_n 3, 0, 0, 0), (.ifCond .eq 9, 26, 0, 0)]
def fX11_hungerIn_15 (v0 : Nat) (v1 : Int32) (v2 : Int32) (s0 : Int32) (h : aH) : Option (Int32 × aH) :=
  if s0 = 0 then fX11_hungerIn_26 v0 v1 v2 h else fX11_hungerIn_20 v0 s0 h
theorem tX11_hungerIn_15 {d : Nat} {z : Int32 × aH} (v0 : Nat) (v1 : Int32) (v2 : Int32) (s0 : Int32) (h : aH) (hf : fX11_hungerIn_15 v0 v1 v2 s0 h = some z) : Ev (d + 5) none mX11_hungerIn (0, 0) 15 [.ref v0, .int v1, .int v2, .null] [.int s0] h (QI z) := 
  go_ok (X := none) (blk := wX11_hungerIn_15) (np := 20) (tt := 26) (kN := fun xs h st => app [2, 0, 0, 1] (fun v0 v3 => apS [] (fX11_hungerIn_20 v0 v3 h) st) xs) (kT := fun xs h st => app [2, 1, 1, 0] (fun v0 v1 v2 => apS [] (fX11_hungerIn_26 v0 v1 v2 h) st) xs) (kR := kRI)
    (fun xs h st q => jm [2, 0, 0, 1] _ (fun v0 v3 q => apS_ok [] _ (fun st => Ev (d + 5) none mX11_hungerIn (0, 0) 20 [.ref v0, .null, .null, .int v3] st h (QI z)) st (fun q => tX11_hungerIn_20 v0 v3 h q) q) q)
    (fun xs h st q => jm [2, 1, 1, 0] _ (fun v0 v1 v2 q => apS_ok [] _ (fun st => Ev (d + 5) none mX11_hungerIn (0, 0) 26 [.ref v0, .int v1, .int v2, .null] st h (QI z)) st (fun q => tX11_hungerIn_26 v0 v1 v2 h q) q) q)
    kRI_ok (Or.inr rfl) (by decide +kernel) (by decide +kernel) hf
theorem kqX11_hungerIn_12 : okC mX11_hungerIn 12 (.invokevirtual 300) 239 256 0 3 = true := by decide +kernel
def fX11_hungerIn_12 (v0 : Nat) (v1 : Int32) (v2 : Int32) (s0 : Int32) (s1 : Int32) (s2 : Int32) (s3 : Nat) (h : aH) : Option (Int32 × aH) :=
  (isO h 11 s3).bind fun _ =>
  (gX11_aheadWhy s3 s2 s1 s0 h).bind fun r =>
  fX11_hungerIn_15 v0 v1 v2 r.1 r.2
theorem tX11_hungerIn_12 {d : Nat} {z : Int32 × aH} (v0 : Nat) (v1 : Int32) (v2 : Int32) (s0 : Int32) (s1 : Int32) (s2 : Int32) (s3 : Nat) (h : aH) (hf : fX11_hungerIn_12 v0 v1 v2 s0 s1 s2 s3 h = some z) : Ev (d + 5) none mX11_hungerIn (0, 0) 12 [.ref v0, .int v1, .int v2, .null] [.int s0, .int s1, .int s2, .ref s3] h (QI z) := by
  obtain ⟨_, h1, hf⟩ := bnd hf
  obtain ⟨fs, ho⟩ := isO_ok h1
  obtain ⟨r, h2, hf⟩ := bnd hf
  refine ev_V kqX11_hungerIn_12 jX11_aheadWhy (zX11_aheadWhy (d := d + 3) h2) ho rfl rfl (Nat.le_of_ble_eq_true rfl) rfl (as := [.int s2, .int s1, .int s0]) (rest := []) rfl (Nat.le_of_ble_eq_true rfl) (fun _ _ hq => ?_)
  obtain ⟨rfl, rfl⟩ := hq
  exact jm [2, 1, 1, 0] (fun v0 v1 v2 => fX11_hungerIn_15 v0 v1 v2 r.1 r.2) (fun v0 v1 v2 q => tX11_hungerIn_15 v0 v1 v2 r.1 r.2 q) hf
def wX11_hungerIn_10 : List En := [(.iconst 0, 0, 0, 0), (.iload_n 2, 0, 0, 0)]
def fX11_hungerIn_10 (v0 : Nat) (v1 : Int32) (v2 : Int32) (s0 : Int32) (s1 : Nat) (h : aH) : Option (Int32 × aH) :=
  fX11_hungerIn_12 v0 v1 v2 v2 (kI 0) s0 s1 h
theorem tX11_hungerIn_10 {d : Nat} {z : Int32 × aH} (v0 : Nat) (v1 : Int32) (v2 : Int32) (s0 : Int32) (s1 : Nat) (h : aH) (hf : fX11_hungerIn_10 v0 v1 v2 s0 s1 h = some z) : Ev (d + 5) none mX11_hungerIn (0, 0) 10 [.ref v0, .int v1, .int v2, .null] [.int s0, .ref s1] h (QI z) := 
  go_ok (X := none) (blk := wX11_hungerIn_10) (np := 12) (tt := 0) (kN := fun xs h st => app [2, 1, 1, 0] (fun v0 v1 v2 => apS [1, 1, 1, 2] (fun s0 s1 s2 s3 => fX11_hungerIn_12 v0 v1 v2 s0 s1 s2 s3 h) st) xs) (kT := fun _ _ _ => none) (kR := kRI)
    (fun xs h st q => jm [2, 1, 1, 0] _ (fun v0 v1 v2 q => apS_ok [1, 1, 1, 2] _ (fun st => Ev (d + 5) none mX11_hungerIn (0, 0) 12 [.ref v0, .int v1, .int v2, .null] st h (QI z)) st (fun s0 s1 s2 s3 q => tX11_hungerIn_12 v0 v1 v2 s0 s1 s2 s3 h q) q) q)
    (fun _ _ _ q => nos q)
    kRI_ok (Or.inr rfl) (by decide +kernel) (by decide +kernel) hf
theorem kqX11_hungerIn_7 : okC mX11_hungerIn 7 (.invokevirtual 285) 214 231 0 1 = true := by decide +kernel
def fX11_hungerIn_7 (v0 : Nat) (v1 : Int32) (v2 : Int32) (s0 : Int32) (s1 : Nat) (s2 : Nat) (h : aH) : Option (Int32 × aH) :=
  (isO h 11 s1).bind fun _ =>
  (gX11_isPerson s1 s0 h).bind fun r =>
  fX11_hungerIn_10 v0 v1 v2 r.1 s2 r.2
theorem tX11_hungerIn_7 {d : Nat} {z : Int32 × aH} (v0 : Nat) (v1 : Int32) (v2 : Int32) (s0 : Int32) (s1 : Nat) (s2 : Nat) (h : aH) (hf : fX11_hungerIn_7 v0 v1 v2 s0 s1 s2 h = some z) : Ev (d + 5) none mX11_hungerIn (0, 0) 7 [.ref v0, .int v1, .int v2, .null] [.int s0, .ref s1, .ref s2] h (QI z) := by
  obtain ⟨_, h1, hf⟩ := bnd hf
  obtain ⟨fs, ho⟩ := isO_ok h1
  obtain ⟨r, h2, hf⟩ := bnd hf
  refine ev_V kqX11_hungerIn_7 jX11_isPerson (zX11_isPerson (d := d + 3) h2) ho rfl rfl (Nat.le_of_ble_eq_true rfl) rfl (as := [.int s0]) (rest := [.ref s2]) rfl (Nat.le_of_ble_eq_true rfl) (fun _ _ hq => ?_)
  obtain ⟨-, rfl, rfl⟩ := hq
  exact jm [2, 1, 1, 0] (fun v0 v1 v2 => fX11_hungerIn_10 v0 v1 v2 r.1 s2 r.2) (fun v0 v1 v2 q => tX11_hungerIn_10 v0 v1 v2 r.1 s2 r.2 q) hf
def wX11_hungerIn_4 : List En := [(.aload_n 0, 0, 0, 0), (.aload_n 0, 0, 0, 0), (.iload_n 1, 0, 0, 0)]
def fX11_hungerIn_4 (v0 : Nat) (v1 : Int32) (v2 : Int32) (h : aH) : Option (Int32 × aH) :=
  fX11_hungerIn_7 v0 v1 v2 v1 v0 v0 h
theorem tX11_hungerIn_4 {d : Nat} {z : Int32 × aH} (v0 : Nat) (v1 : Int32) (v2 : Int32) (h : aH) (hf : fX11_hungerIn_4 v0 v1 v2 h = some z) : Ev (d + 5) none mX11_hungerIn (0, 0) 4 [.ref v0, .int v1, .int v2, .null] [] h (QI z) := 
  go_ok (X := none) (blk := wX11_hungerIn_4) (np := 7) (tt := 0) (kN := fun xs h st => app [2, 1, 1, 0] (fun v0 v1 v2 => apS [1, 2, 2] (fun s0 s1 s2 => fX11_hungerIn_7 v0 v1 v2 s0 s1 s2 h) st) xs) (kT := fun _ _ _ => none) (kR := kRI)
    (fun xs h st q => jm [2, 1, 1, 0] _ (fun v0 v1 v2 q => apS_ok [1, 2, 2] _ (fun st => Ev (d + 5) none mX11_hungerIn (0, 0) 7 [.ref v0, .int v1, .int v2, .null] st h (QI z)) st (fun s0 s1 s2 q => tX11_hungerIn_7 v0 v1 v2 s0 s1 s2 h q) q) q)
    (fun _ _ _ q => nos q)
    kRI_ok (Or.inr rfl) (by decide +kernel) (by decide +kernel) hf
theorem kqX11_hungerIn_1 : okC mX11_hungerIn 1 (.invokevirtual 161) 181 196 0 0 = true := by decide +kernel
def fX11_hungerIn_1 (v0 : Nat) (v1 : Int32) (v2 : Int32) (s0 : Nat) (h : aH) : Option (Int32 × aH) :=
  (isO h 11 s0).bind fun _ =>
  (gX11_anew s0 h).bind fun r =>
  fX11_hungerIn_4 v0 v1 v2 r
theorem tX11_hungerIn_1 {d : Nat} {z : Int32 × aH} (v0 : Nat) (v1 : Int32) (v2 : Int32) (s0 : Nat) (h : aH) (hf : fX11_hungerIn_1 v0 v1 v2 s0 h = some z) : Ev (d + 5) none mX11_hungerIn (0, 0) 1 [.ref v0, .int v1, .int v2, .null] [.ref s0] h (QI z) := by
  obtain ⟨_, h1, hf⟩ := bnd hf
  obtain ⟨fs, ho⟩ := isO_ok h1
  obtain ⟨r, h2, hf⟩ := bnd hf
  refine ev_V kqX11_hungerIn_1 jX11_anew (zX11_anew (d := d + 4) h2) ho rfl rfl (Nat.le_of_ble_eq_true rfl) rfl (as := []) (rest := []) rfl (Nat.le_of_ble_eq_true rfl) (fun _ _ hq => ?_)
  obtain ⟨rfl, hh⟩ := hq
  rw [hh]
  exact jm [2, 1, 1, 0] (fun v0 v1 v2 => fX11_hungerIn_4 v0 v1 v2 r) (fun v0 v1 v2 q => tX11_hungerIn_4 v0 v1 v2 r q) hf
def wX11_hungerIn_0 : List En := [(.aload_n 0, 0, 0, 0)]
def fX11_hungerIn_0 (v0 : Nat) (v1 : Int32) (v2 : Int32) (h : aH) : Option (Int32 × aH) :=
  fX11_hungerIn_1 v0 v1 v2 v0 h
theorem tX11_hungerIn_0 {d : Nat} {z : Int32 × aH} (v0 : Nat) (v1 : Int32) (v2 : Int32) (h : aH) (hf : fX11_hungerIn_0 v0 v1 v2 h = some z) : Ev (d + 5) none mX11_hungerIn (0, 0) 0 [.ref v0, .int v1, .int v2, .null] [] h (QI z) := 
  go_ok (X := none) (blk := wX11_hungerIn_0) (np := 1) (tt := 0) (kN := fun xs h st => app [2, 1, 1, 0] (fun v0 v1 v2 => apS [2] (fun s0 => fX11_hungerIn_1 v0 v1 v2 s0 h) st) xs) (kT := fun _ _ _ => none) (kR := kRI)
    (fun xs h st q => jm [2, 1, 1, 0] _ (fun v0 v1 v2 q => apS_ok [2] _ (fun st => Ev (d + 5) none mX11_hungerIn (0, 0) 1 [.ref v0, .int v1, .int v2, .null] st h (QI z)) st (fun s0 q => tX11_hungerIn_1 v0 v1 v2 s0 h q) q) q)
    (fun _ _ _ q => nos q)
    kRI_ok (Or.inr rfl) (by decide +kernel) (by decide +kernel) hf
def gX11_hungerIn (v0 : Nat) (v1 : Int32) (v2 : Int32) (h : aH) : Option (Int32 × aH) := fX11_hungerIn_0 v0 v1 v2 h
theorem zX11_hungerIn {d : Nat} {z : Int32 × aH} {v0 : Nat} {v1 : Int32} {v2 : Int32} {h : aH} (q : gX11_hungerIn v0 v1 v2 h = some z) : CT (d + 5) mX11_hungerIn (0, 0) [.ref v0, .int v1, .int v2] h (QI z) :=
  ct_ev (by decide +kernel) (Nat.le_of_ble_eq_true rfl) QI_r (jm [2, 1, 1, 0] (fun v0 v1 v2 => fX11_hungerIn_0 v0 v1 v2 h) (fun v0 v1 v2 q => tX11_hungerIn_0 v0 v1 v2 h q) q)
def wX11_leftIn_30 : List En := [(.aload_n 0, 0, 0, 0), (.getfield 35, 195, 11, 20), (.bipush 12, 0, 0, 0), (.iaload, 0, 0, 0), (.ireturn, 0, 0, 0)]
def fX11_leftIn_30 (v0 : Nat) (h : aH) : Option (Int32 × aH) :=
  (gFR h 11 v0 20).bind fun t1 =>
  (aRI (h[t1]?) (kB 12)).bind fun t2 =>
  some (t2, h)
theorem tX11_leftIn_30 {d : Nat} {z : Int32 × aH} (v0 : Nat) (h : aH) (hf : fX11_leftIn_30 v0 h = some z) : Ev (d + 5) none mX11_leftIn (0, 0) 30 [.ref v0, .null, .null] [] h (QI z) := 
  go_ok (X := none) (blk := wX11_leftIn_30) (np := 38) (tt := 0) (kN := fun _ _ _ => none) (kT := fun _ _ _ => none) (kR := kRI)
    (fun _ _ _ q => nos q)
    (fun _ _ _ q => nos q)
    kRI_ok (Or.inr rfl) (by decide +kernel) (by decide +kernel) hf
theorem kqX11_leftIn_27 : okC mX11_leftIn 27 (.invokevirtual 294) 227 244 0 1 = true := by decide +kernel
def fX11_leftIn_27 (v0 : Nat) (s0 : Int32) (s1 : Nat) (h : aH) : Option (Int32 × aH) :=
  (isO h 11 s1).bind fun _ =>
  (gX11_daysOn s1 s0 h).bind fun r =>
  fX11_leftIn_30 v0 r
theorem tX11_leftIn_27 {d : Nat} {z : Int32 × aH} (v0 : Nat) (s0 : Int32) (s1 : Nat) (h : aH) (hf : fX11_leftIn_27 v0 s0 s1 h = some z) : Ev (d + 5) none mX11_leftIn (0, 0) 27 [.ref v0, .null, .null] [.int s0, .ref s1] h (QI z) := by
  obtain ⟨_, h1, hf⟩ := bnd hf
  obtain ⟨fs, ho⟩ := isO_ok h1
  obtain ⟨r, h2, hf⟩ := bnd hf
  refine ev_V kqX11_leftIn_27 jX11_daysOn (zX11_daysOn (d := d + 0) h2) ho rfl rfl (Nat.le_of_ble_eq_true rfl) rfl (as := [.int s0]) (rest := []) rfl (Nat.le_of_ble_eq_true rfl) (fun _ _ hq => ?_)
  obtain ⟨rfl, hh⟩ := hq
  rw [hh]
  exact jm [2, 0, 0] (fun v0 => fX11_leftIn_30 v0 r) (fun v0 q => tX11_leftIn_30 v0 r q) hf
def wX11_leftIn_25 : List En := [(.aload_n 0, 0, 0, 0), (.iload_n 1, 0, 0, 0)]
def fX11_leftIn_25 (v0 : Nat) (v1 : Int32) (h : aH) : Option (Int32 × aH) :=
  fX11_leftIn_27 v0 v1 v0 h
theorem tX11_leftIn_25 {d : Nat} {z : Int32 × aH} (v0 : Nat) (v1 : Int32) (h : aH) (hf : fX11_leftIn_25 v0 v1 h = some z) : Ev (d + 5) none mX11_leftIn (0, 0) 25 [.ref v0, .int v1, .null] [] h (QI z) := 
  go_ok (X := none) (blk := wX11_leftIn_25) (np := 27) (tt := 0) (kN := fun xs h st => app [2, 0, 0] (fun v0 => apS [1, 2] (fun s0 s1 => fX11_leftIn_27 v0 s0 s1 h) st) xs) (kT := fun _ _ _ => none) (kR := kRI)
    (fun xs h st q => jm [2, 0, 0] _ (fun v0 q => apS_ok [1, 2] _ (fun st => Ev (d + 5) none mX11_leftIn (0, 0) 27 [.ref v0, .null, .null] st h (QI z)) st (fun s0 s1 q => tX11_leftIn_27 v0 s0 s1 h q) q) q)
    (fun _ _ _ q => nos q)
    kRI_ok (Or.inr rfl) (by decide +kernel) (by decide +kernel) hf
def wX11_leftIn_24 : List En := [(.ireturn, 0, 0, 0)]
def fX11_leftIn_24 (s0 : Int32) (h : aH) : Option (Int32 × aH) :=
  some (s0, h)
theorem tX11_leftIn_24 {d : Nat} {z : Int32 × aH} (s0 : Int32) (h : aH) (hf : fX11_leftIn_24 s0 h = some z) : Ev (d + 5) none mX11_leftIn (0, 0) 24 [.null, .null, .null] [.int s0] h (QI z) := 
  go_ok (X := none) (blk := wX11_leftIn_24) (np := 25) (tt := 0) (kN := fun _ _ _ => none) (kT := fun _ _ _ => none) (kR := kRI)
    (fun _ _ _ q => nos q)
    (fun _ _ _ q => nos q)
    kRI_ok (Or.inr rfl) (by decide +kernel) (by decide +kernel) hf
theorem kqX11_leftIn_21 : okC mX11_leftIn 21 (.invokevirtual 164) 183 198 0 1 = true := by decide +kernel
def fX11_leftIn_21 (s0 : Int32) (s1 : Nat) (h : aH) : Option (Int32 × aH) :=
  (isO h 11 s1).bind fun _ =>
  (gX11_no s1 s0 h).bind fun r =>
  fX11_leftIn_24 r.1 r.2
theorem tX11_leftIn_21 {d : Nat} {z : Int32 × aH} (s0 : Int32) (s1 : Nat) (h : aH) (hf : fX11_leftIn_21 s0 s1 h = some z) : Ev (d + 5) none mX11_leftIn (0, 0) 21 [.null, .null, .null] [.int s0, .ref s1] h (QI z) := by
  obtain ⟨_, h1, hf⟩ := bnd hf
  obtain ⟨fs, ho⟩ := isO_ok h1
  obtain ⟨r, h2, hf⟩ := bnd hf
  refine ev_V kqX11_leftIn_21 jX11_no (zX11_no (d := d + 4) h2) ho rfl rfl (Nat.le_of_ble_eq_true rfl) rfl (as := [.int s0]) (rest := []) rfl (Nat.le_of_ble_eq_true rfl) (fun _ _ hq => ?_)
  obtain ⟨rfl, rfl⟩ := hq
  exact jm [0, 0, 0] (fX11_leftIn_24 r.1 r.2) (fun q => tX11_leftIn_24 r.1 r.2 q) hf
def wX11_leftIn_19 : List En := [(.aload_n 0, 0, 0, 0), (.iload_n 2, 0, 0, 0)]
def fX11_leftIn_19 (v0 : Nat) (v2 : Int32) (h : aH) : Option (Int32 × aH) :=
  fX11_leftIn_21 v2 v0 h
theorem tX11_leftIn_19 {d : Nat} {z : Int32 × aH} (v0 : Nat) (v2 : Int32) (h : aH) (hf : fX11_leftIn_19 v0 v2 h = some z) : Ev (d + 5) none mX11_leftIn (0, 0) 19 [.ref v0, .null, .int v2] [] h (QI z) := 
  go_ok (X := none) (blk := wX11_leftIn_19) (np := 21) (tt := 0) (kN := fun xs h st => app [0, 0, 0] (apS [1, 2] (fun s0 s1 => fX11_leftIn_21 s0 s1 h) st) xs) (kT := fun _ _ _ => none) (kR := kRI)
    (fun xs h st q => jm [0, 0, 0] _ (fun q => apS_ok [1, 2] _ (fun st => Ev (d + 5) none mX11_leftIn (0, 0) 21 [.null, .null, .null] st h (QI z)) st (fun s0 s1 q => tX11_leftIn_21 s0 s1 h q) q) q)
    (fun _ _ _ q => nos q)
    kRI_ok (Or.inr rfl) (by decide +kernel) (by decide +kernel) hf
def wX11_leftIn_14 : List En := [(.istore_n 2, 0, 0, 0), (.iload_n 2, 0, 0, 0), (.ifCond .eq 9, 25, 0, 0)]
def fX11_leftIn_14 (v0 : Nat) (v1 : Int32) (s0 : Int32) (h : aH) : Option (Int32 × aH) :=
  if s0 = 0 then fX11_leftIn_25 v0 v1 h else fX11_leftIn_19 v0 s0 h
theorem tX11_leftIn_14 {d : Nat} {z : Int32 × aH} (v0 : Nat) (v1 : Int32) (s0 : Int32) (h : aH) (hf : fX11_leftIn_14 v0 v1 s0 h = some z) : Ev (d + 5) none mX11_leftIn (0, 0) 14 [.ref v0, .int v1, .null] [.int s0] h (QI z) := 
  go_ok (X := none) (blk := wX11_leftIn_14) (np := 19) (tt := 25) (kN := fun xs h st => app [2, 0, 1] (fun v0 v2 => apS [] (fX11_leftIn_19 v0 v2 h) st) xs) (kT := fun xs h st => app [2, 1, 0] (fun v0 v1 => apS [] (fX11_leftIn_25 v0 v1 h) st) xs) (kR := kRI)
    (fun xs h st q => jm [2, 0, 1] _ (fun v0 v2 q => apS_ok [] _ (fun st => Ev (d + 5) none mX11_leftIn (0, 0) 19 [.ref v0, .null, .int v2] st h (QI z)) st (fun q => tX11_leftIn_19 v0 v2 h q) q) q)
    (fun xs h st q => jm [2, 1, 0] _ (fun v0 v1 q => apS_ok [] _ (fun st => Ev (d + 5) none mX11_leftIn (0, 0) 25 [.ref v0, .int v1, .null] st h (QI z)) st (fun q => tX11_leftIn_25 v0 v1 h q) q) q)
    kRI_ok (Or.inr rfl) (by decide +kernel) (by decide +kernel) hf
theorem kqX11_leftIn_11 : okC mX11_leftIn 11 (.invokevirtual 300) 239 256 0 3 = true := by decide +kernel
def fX11_leftIn_11 (v0 : Nat) (v1 : Int32) (s0 : Int32) (s1 : Int32) (s2 : Int32) (s3 : Nat) (h : aH) : Option (Int32 × aH) :=
  (isO h 11 s3).bind fun _ =>
  (gX11_aheadWhy s3 s2 s1 s0 h).bind fun r =>
  fX11_leftIn_14 v0 v1 r.1 r.2
theorem tX11_leftIn_11 {d : Nat} {z : Int32 × aH} (v0 : Nat) (v1 : Int32) (s0 : Int32) (s1 : Int32) (s2 : Int32) (s3 : Nat) (h : aH) (hf : fX11_leftIn_11 v0 v1 s0 s1 s2 s3 h = some z) : Ev (d + 5) none mX11_leftIn (0, 0) 11 [.ref v0, .int v1, .null] [.int s0, .int s1, .int s2, .ref s3] h (QI z) := by
  obtain ⟨_, h1, hf⟩ := bnd hf
  obtain ⟨fs, ho⟩ := isO_ok h1
  obtain ⟨r, h2, hf⟩ := bnd hf
  refine ev_V kqX11_leftIn_11 jX11_aheadWhy (zX11_aheadWhy (d := d + 3) h2) ho rfl rfl (Nat.le_of_ble_eq_true rfl) rfl (as := [.int s2, .int s1, .int s0]) (rest := []) rfl (Nat.le_of_ble_eq_true rfl) (fun _ _ hq => ?_)
  obtain ⟨rfl, rfl⟩ := hq
  exact jm [2, 1, 0] (fun v0 v1 => fX11_leftIn_14 v0 v1 r.1 r.2) (fun v0 v1 q => tX11_leftIn_14 v0 v1 r.1 r.2 q) hf
def wX11_leftIn_4 : List En := [(.aload_n 0, 0, 0, 0), (.aload_n 0, 0, 0, 0), (.getfield 174, 189, 11, 14), (.iconst 0, 0, 0, 0), (.iload_n 1, 0, 0, 0)]
def fX11_leftIn_4 (v0 : Nat) (v1 : Int32) (h : aH) : Option (Int32 × aH) :=
  (gFI h 11 v0 14).bind fun t1 =>
  fX11_leftIn_11 v0 v1 v1 (kI 0) t1 v0 h
theorem tX11_leftIn_4 {d : Nat} {z : Int32 × aH} (v0 : Nat) (v1 : Int32) (h : aH) (hf : fX11_leftIn_4 v0 v1 h = some z) : Ev (d + 5) none mX11_leftIn (0, 0) 4 [.ref v0, .int v1, .null] [] h (QI z) := 
  go_ok (X := none) (blk := wX11_leftIn_4) (np := 11) (tt := 0) (kN := fun xs h st => app [2, 1, 0] (fun v0 v1 => apS [1, 1, 1, 2] (fun s0 s1 s2 s3 => fX11_leftIn_11 v0 v1 s0 s1 s2 s3 h) st) xs) (kT := fun _ _ _ => none) (kR := kRI)
    (fun xs h st q => jm [2, 1, 0] _ (fun v0 v1 q => apS_ok [1, 1, 1, 2] _ (fun st => Ev (d + 5) none mX11_leftIn (0, 0) 11 [.ref v0, .int v1, .null] st h (QI z)) st (fun s0 s1 s2 s3 q => tX11_leftIn_11 v0 v1 s0 s1 s2 s3 h q) q) q)
    (fun _ _ _ q => nos q)
    kRI_ok (Or.inr rfl) (by decide +kernel) (by decide +kernel) hf
theorem kqX11_leftIn_1 : okC mX11_leftIn 1 (.invokevirtual 161) 181 196 0 0 = true := by decide +kernel
def fX11_leftIn_1 (v0 : Nat) (v1 : Int32) (s0 : Nat) (h : aH) : Option (Int32 × aH) :=
  (isO h 11 s0).bind fun _ =>
  (gX11_anew s0 h).bind fun r =>
  fX11_leftIn_4 v0 v1 r
theorem tX11_leftIn_1 {d : Nat} {z : Int32 × aH} (v0 : Nat) (v1 : Int32) (s0 : Nat) (h : aH) (hf : fX11_leftIn_1 v0 v1 s0 h = some z) : Ev (d + 5) none mX11_leftIn (0, 0) 1 [.ref v0, .int v1, .null] [.ref s0] h (QI z) := by
  obtain ⟨_, h1, hf⟩ := bnd hf
  obtain ⟨fs, ho⟩ := isO_ok h1
  obtain ⟨r, h2, hf⟩ := bnd hf
  refine ev_V kqX11_leftIn_1 jX11_anew (zX11_anew (d := d + 4) h2) ho rfl rfl (Nat.le_of_ble_eq_true rfl) rfl (as := []) (rest := []) rfl (Nat.le_of_ble_eq_true rfl) (fun _ _ hq => ?_)
  obtain ⟨rfl, hh⟩ := hq
  rw [hh]
  exact jm [2, 1, 0] (fun v0 v1 => fX11_leftIn_4 v0 v1 r) (fun v0 v1 q => tX11_leftIn_4 v0 v1 r q) hf
def wX11_leftIn_0 : List En := [(.aload_n 0, 0, 0, 0)]
def fX11_leftIn_0 (v0 : Nat) (v1 : Int32) (h : aH) : Option (Int32 × aH) :=
  fX11_leftIn_1 v0 v1 v0 h
theorem tX11_leftIn_0 {d : Nat} {z : Int32 × aH} (v0 : Nat) (v1 : Int32) (h : aH) (hf : fX11_leftIn_0 v0 v1 h = some z) : Ev (d + 5) none mX11_leftIn (0, 0) 0 [.ref v0, .int v1, .null] [] h (QI z) := 
  go_ok (X := none) (blk := wX11_leftIn_0) (np := 1) (tt := 0) (kN := fun xs h st => app [2, 1, 0] (fun v0 v1 => apS [2] (fun s0 => fX11_leftIn_1 v0 v1 s0 h) st) xs) (kT := fun _ _ _ => none) (kR := kRI)
    (fun xs h st q => jm [2, 1, 0] _ (fun v0 v1 q => apS_ok [2] _ (fun st => Ev (d + 5) none mX11_leftIn (0, 0) 1 [.ref v0, .int v1, .null] st h (QI z)) st (fun s0 q => tX11_leftIn_1 v0 v1 s0 h q) q) q)
    (fun _ _ _ q => nos q)
    kRI_ok (Or.inr rfl) (by decide +kernel) (by decide +kernel) hf
def gX11_leftIn (v0 : Nat) (v1 : Int32) (h : aH) : Option (Int32 × aH) := fX11_leftIn_0 v0 v1 h
theorem zX11_leftIn {d : Nat} {z : Int32 × aH} {v0 : Nat} {v1 : Int32} {h : aH} (q : gX11_leftIn v0 v1 h = some z) : CT (d + 5) mX11_leftIn (0, 0) [.ref v0, .int v1] h (QI z) :=
  ct_ev (by decide +kernel) (Nat.le_of_ble_eq_true rfl) QI_r (jm [2, 1, 0] (fun v0 v1 => fX11_leftIn_0 v0 v1 h) (fun v0 v1 q => tX11_leftIn_0 v0 v1 h q) q)
def wX11_everybody_0 : List En := [(.iconst 1, 0, 0, 0), (.aload_n 0, 0, 0, 0), (.getfield 20, 190, 11, 15), (.iconst 3, 0, 0, 0), (.iaload, 0, 0, 0), (.ishl, 0, 0, 0), (.iconst 1, 0, 0, 0), (.isub, 0, 0, 0), (.ireturn, 0, 0, 0)]
def fX11_everybody_0 (v0 : Nat) (h : aH) : Option (Int32 × aH) :=
  (gFR h 11 v0 15).bind fun t1 =>
  (aRI (h[t1]?) (kI 3)).bind fun t2 =>
  some ((((kI 1) <<< (t2 &&& 31)) - (kI 1)), h)
theorem tX11_everybody_0 {d : Nat} {z : Int32 × aH} (v0 : Nat) (h : aH) (hf : fX11_everybody_0 v0 h = some z) : Ev (d + 0) none mX11_everybody (0, 0) 0 [.ref v0] [] h (QI z) := 
  go_ok (X := none) (blk := wX11_everybody_0) (np := 11) (tt := 0) (kN := fun _ _ _ => none) (kT := fun _ _ _ => none) (kR := kRI)
    (fun _ _ _ q => nos q)
    (fun _ _ _ q => nos q)
    kRI_ok (Or.inr rfl) (by decide +kernel) (by decide +kernel) hf
def gX11_everybody (v0 : Nat) (h : aH) : Option (Int32 × aH) := fX11_everybody_0 v0 h
theorem zX11_everybody {d : Nat} {z : Int32 × aH} {v0 : Nat} {h : aH} (q : gX11_everybody v0 h = some z) : CT (d + 0) mX11_everybody (0, 0) [.ref v0] h (QI z) :=
  ct_ev (by decide +kernel) (Nat.le_of_ble_eq_true rfl) QI_r (jm [2] (fun v0 => fX11_everybody_0 v0 h) (fun v0 q => tX11_everybody_0 v0 h q) q)
def wX11_livingIn_34 : List En := [(.aload_n 0, 0, 0, 0), (.getfield 35, 195, 11, 20), (.bipush 10, 0, 0, 0), (.iaload, 0, 0, 0), (.iconst (-1), 0, 0, 0), (.ixor, 0, 0, 0), (.iand, 0, 0, 0), (.ireturn, 0, 0, 0)]
def fX11_livingIn_34 (v0 : Nat) (s0 : Int32) (h : aH) : Option (Int32 × aH) :=
  (gFR h 11 v0 20).bind fun t1 =>
  (aRI (h[t1]?) (kB 10)).bind fun t2 =>
  some ((s0 &&& (t2 ^^^ (kI (-1)))), h)
theorem tX11_livingIn_34 {d : Nat} {z : Int32 × aH} (v0 : Nat) (s0 : Int32) (h : aH) (hf : fX11_livingIn_34 v0 s0 h = some z) : Ev (d + 5) none mX11_livingIn (0, 0) 34 [.ref v0, .null, .null] [.int s0] h (QI z) := 
  go_ok (X := none) (blk := wX11_livingIn_34) (np := 45) (tt := 0) (kN := fun _ _ _ => none) (kT := fun _ _ _ => none) (kR := kRI)
    (fun _ _ _ q => nos q)
    (fun _ _ _ q => nos q)
    kRI_ok (Or.inr rfl) (by decide +kernel) (by decide +kernel) hf
theorem kqX11_livingIn_31 : okC mX11_livingIn 31 (.invokevirtual 304) 244 261 0 0 = true := by decide +kernel
def fX11_livingIn_31 (v0 : Nat) (s0 : Nat) (h : aH) : Option (Int32 × aH) :=
  (isO h 11 s0).bind fun _ =>
  (gX11_everybody s0 h).bind fun r =>
  fX11_livingIn_34 v0 r.1 r.2
theorem tX11_livingIn_31 {d : Nat} {z : Int32 × aH} (v0 : Nat) (s0 : Nat) (h : aH) (hf : fX11_livingIn_31 v0 s0 h = some z) : Ev (d + 5) none mX11_livingIn (0, 0) 31 [.ref v0, .null, .null] [.ref s0] h (QI z) := by
  obtain ⟨_, h1, hf⟩ := bnd hf
  obtain ⟨fs, ho⟩ := isO_ok h1
  obtain ⟨r, h2, hf⟩ := bnd hf
  refine ev_V kqX11_livingIn_31 jX11_everybody (zX11_everybody (d := d + 4) h2) ho rfl rfl (Nat.le_of_ble_eq_true rfl) rfl (as := []) (rest := []) rfl (Nat.le_of_ble_eq_true rfl) (fun _ _ hq => ?_)
  obtain ⟨rfl, rfl⟩ := hq
  exact jm [2, 0, 0] (fun v0 => fX11_livingIn_34 v0 r.1 r.2) (fun v0 q => tX11_livingIn_34 v0 r.1 r.2 q) hf
def wX11_livingIn_30 : List En := [(.aload_n 0, 0, 0, 0)]
def fX11_livingIn_30 (v0 : Nat) (h : aH) : Option (Int32 × aH) :=
  fX11_livingIn_31 v0 v0 h
theorem tX11_livingIn_30 {d : Nat} {z : Int32 × aH} (v0 : Nat) (h : aH) (hf : fX11_livingIn_30 v0 h = some z) : Ev (d + 5) none mX11_livingIn (0, 0) 30 [.ref v0, .null, .null] [] h (QI z) := 
  go_ok (X := none) (blk := wX11_livingIn_30) (np := 31) (tt := 0) (kN := fun xs h st => app [2, 0, 0] (fun v0 => apS [2] (fun s0 => fX11_livingIn_31 v0 s0 h) st) xs) (kT := fun _ _ _ => none) (kR := kRI)
    (fun xs h st q => jm [2, 0, 0] _ (fun v0 q => apS_ok [2] _ (fun st => Ev (d + 5) none mX11_livingIn (0, 0) 31 [.ref v0, .null, .null] st h (QI z)) st (fun s0 q => tX11_livingIn_31 v0 s0 h q) q) q)
    (fun _ _ _ q => nos q)
    kRI_ok (Or.inr rfl) (by decide +kernel) (by decide +kernel) hf
theorem kqX11_livingIn_27 : okC mX11_livingIn 27 (.invokevirtual 294) 227 244 0 1 = true := by decide +kernel
def fX11_livingIn_27 (v0 : Nat) (s0 : Int32) (s1 : Nat) (h : aH) : Option (Int32 × aH) :=
  (isO h 11 s1).bind fun _ =>
  (gX11_daysOn s1 s0 h).bind fun r =>
  fX11_livingIn_30 v0 r
theorem tX11_livingIn_27 {d : Nat} {z : Int32 × aH} (v0 : Nat) (s0 : Int32) (s1 : Nat) (h : aH) (hf : fX11_livingIn_27 v0 s0 s1 h = some z) : Ev (d + 5) none mX11_livingIn (0, 0) 27 [.ref v0, .null, .null] [.int s0, .ref s1] h (QI z) := by
  obtain ⟨_, h1, hf⟩ := bnd hf
  obtain ⟨fs, ho⟩ := isO_ok h1
  obtain ⟨r, h2, hf⟩ := bnd hf
  refine ev_V kqX11_livingIn_27 jX11_daysOn (zX11_daysOn (d := d + 0) h2) ho rfl rfl (Nat.le_of_ble_eq_true rfl) rfl (as := [.int s0]) (rest := []) rfl (Nat.le_of_ble_eq_true rfl) (fun _ _ hq => ?_)
  obtain ⟨rfl, hh⟩ := hq
  rw [hh]
  exact jm [2, 0, 0] (fun v0 => fX11_livingIn_30 v0 r) (fun v0 q => tX11_livingIn_30 v0 r q) hf
def wX11_livingIn_25 : List En := [(.aload_n 0, 0, 0, 0), (.iload_n 1, 0, 0, 0)]
def fX11_livingIn_25 (v0 : Nat) (v1 : Int32) (h : aH) : Option (Int32 × aH) :=
  fX11_livingIn_27 v0 v1 v0 h
theorem tX11_livingIn_25 {d : Nat} {z : Int32 × aH} (v0 : Nat) (v1 : Int32) (h : aH) (hf : fX11_livingIn_25 v0 v1 h = some z) : Ev (d + 5) none mX11_livingIn (0, 0) 25 [.ref v0, .int v1, .null] [] h (QI z) := 
  go_ok (X := none) (blk := wX11_livingIn_25) (np := 27) (tt := 0) (kN := fun xs h st => app [2, 0, 0] (fun v0 => apS [1, 2] (fun s0 s1 => fX11_livingIn_27 v0 s0 s1 h) st) xs) (kT := fun _ _ _ => none) (kR := kRI)
    (fun xs h st q => jm [2, 0, 0] _ (fun v0 q => apS_ok [1, 2] _ (fun st => Ev (d + 5) none mX11_livingIn (0, 0) 27 [.ref v0, .null, .null] st h (QI z)) st (fun s0 s1 q => tX11_livingIn_27 v0 s0 s1 h q) q) q)
    (fun _ _ _ q => nos q)
    kRI_ok (Or.inr rfl) (by decide +kernel) (by decide +kernel) hf
def wX11_livingIn_24 : List En := [(.ireturn, 0, 0, 0)]
def fX11_livingIn_24 (s0 : Int32) (h : aH) : Option (Int32 × aH) :=
  some (s0, h)
theorem tX11_livingIn_24 {d : Nat} {z : Int32 × aH} (s0 : Int32) (h : aH) (hf : fX11_livingIn_24 s0 h = some z) : Ev (d + 5) none mX11_livingIn (0, 0) 24 [.null, .null, .null] [.int s0] h (QI z) := 
  go_ok (X := none) (blk := wX11_livingIn_24) (np := 25) (tt := 0) (kN := fun _ _ _ => none) (kT := fun _ _ _ => none) (kR := kRI)
    (fun _ _ _ q => nos q)
    (fun _ _ _ q => nos q)
    kRI_ok (Or.inr rfl) (by decide +kernel) (by decide +kernel) hf
theorem kqX11_livingIn_21 : okC mX11_livingIn 21 (.invokevirtual 164) 183 198 0 1 = true := by decide +kernel
def fX11_livingIn_21 (s0 : Int32) (s1 : Nat) (h : aH) : Option (Int32 × aH) :=
  (isO h 11 s1).bind fun _ =>
  (gX11_no s1 s0 h).bind fun r =>
  fX11_livingIn_24 r.1 r.2
theorem tX11_livingIn_21 {d : Nat} {z : Int32 × aH} (s0 : Int32) (s1 : Nat) (h : aH) (hf : fX11_livingIn_21 s0 s1 h = some z) : Ev (d + 5) none mX11_livingIn (0, 0) 21 [.null, .null, .null] [.int s0, .ref s1] h (QI z) := by
  obtain ⟨_, h1, hf⟩ := bnd hf
  obtain ⟨fs, ho⟩ := isO_ok h1
  obtain ⟨r, h2, hf⟩ := bnd hf
  refine ev_V kqX11_livingIn_21 jX11_no (zX11_no (d := d + 4) h2) ho rfl rfl (Nat.le_of_ble_eq_true rfl) rfl (as := [.int s0]) (rest := []) rfl (Nat.le_of_ble_eq_true rfl) (fun _ _ hq => ?_)
  obtain ⟨rfl, rfl⟩ := hq
  exact jm [0, 0, 0] (fX11_livingIn_24 r.1 r.2) (fun q => tX11_livingIn_24 r.1 r.2 q) hf
def wX11_livingIn_19 : List En := [(.aload_n 0, 0, 0, 0), (.iload_n 2, 0, 0, 0)]
def fX11_livingIn_19 (v0 : Nat) (v2 : Int32) (h : aH) : Option (Int32 × aH) :=
  fX11_livingIn_21 v2 v0 h
theorem tX11_livingIn_19 {d : Nat} {z : Int32 × aH} (v0 : Nat) (v2 : Int32) (h : aH) (hf : fX11_livingIn_19 v0 v2 h = some z) : Ev (d + 5) none mX11_livingIn (0, 0) 19 [.ref v0, .null, .int v2] [] h (QI z) := 
  go_ok (X := none) (blk := wX11_livingIn_19) (np := 21) (tt := 0) (kN := fun xs h st => app [0, 0, 0] (apS [1, 2] (fun s0 s1 => fX11_livingIn_21 s0 s1 h) st) xs) (kT := fun _ _ _ => none) (kR := kRI)
    (fun xs h st q => jm [0, 0, 0] _ (fun q => apS_ok [1, 2] _ (fun st => Ev (d + 5) none mX11_livingIn (0, 0) 21 [.null, .null, .null] st h (QI z)) st (fun s0 s1 q => tX11_livingIn_21 s0 s1 h q) q) q)
    (fun _ _ _ q => nos q)
    kRI_ok (Or.inr rfl) (by decide +kernel) (by decide +kernel) hf
def wX11_livingIn_14 : List En := [(.istore_n 2, 0, 0, 0), (.iload_n 2, 0, 0, 0), (.ifCond .eq 9, 25, 0, 0)]
def fX11_livingIn_14 (v0 : Nat) (v1 : Int32) (s0 : Int32) (h : aH) : Option (Int32 × aH) :=
  if s0 = 0 then fX11_livingIn_25 v0 v1 h else fX11_livingIn_19 v0 s0 h
theorem tX11_livingIn_14 {d : Nat} {z : Int32 × aH} (v0 : Nat) (v1 : Int32) (s0 : Int32) (h : aH) (hf : fX11_livingIn_14 v0 v1 s0 h = some z) : Ev (d + 5) none mX11_livingIn (0, 0) 14 [.ref v0, .int v1, .null] [.int s0] h (QI z) := 
  go_ok (X := none) (blk := wX11_livingIn_14) (np := 19) (tt := 25) (kN := fun xs h st => app [2, 0, 1] (fun v0 v2 => apS [] (fX11_livingIn_19 v0 v2 h) st) xs) (kT := fun xs h st => app [2, 1, 0] (fun v0 v1 => apS [] (fX11_livingIn_25 v0 v1 h) st) xs) (kR := kRI)
    (fun xs h st q => jm [2, 0, 1] _ (fun v0 v2 q => apS_ok [] _ (fun st => Ev (d + 5) none mX11_livingIn (0, 0) 19 [.ref v0, .null, .int v2] st h (QI z)) st (fun q => tX11_livingIn_19 v0 v2 h q) q) q)
    (fun xs h st q => jm [2, 1, 0] _ (fun v0 v1 q => apS_ok [] _ (fun st => Ev (d + 5) none mX11_livingIn (0, 0) 25 [.ref v0, .int v1, .null] st h (QI z)) st (fun q => tX11_livingIn_25 v0 v1 h q) q) q)
    kRI_ok (Or.inr rfl) (by decide +kernel) (by decide +kernel) hf
theorem kqX11_livingIn_11 : okC mX11_livingIn 11 (.invokevirtual 300) 239 256 0 3 = true := by decide +kernel
def fX11_livingIn_11 (v0 : Nat) (v1 : Int32) (s0 : Int32) (s1 : Int32) (s2 : Int32) (s3 : Nat) (h : aH) : Option (Int32 × aH) :=
  (isO h 11 s3).bind fun _ =>
  (gX11_aheadWhy s3 s2 s1 s0 h).bind fun r =>
  fX11_livingIn_14 v0 v1 r.1 r.2
theorem tX11_livingIn_11 {d : Nat} {z : Int32 × aH} (v0 : Nat) (v1 : Int32) (s0 : Int32) (s1 : Int32) (s2 : Int32) (s3 : Nat) (h : aH) (hf : fX11_livingIn_11 v0 v1 s0 s1 s2 s3 h = some z) : Ev (d + 5) none mX11_livingIn (0, 0) 11 [.ref v0, .int v1, .null] [.int s0, .int s1, .int s2, .ref s3] h (QI z) := by
  obtain ⟨_, h1, hf⟩ := bnd hf
  obtain ⟨fs, ho⟩ := isO_ok h1
  obtain ⟨r, h2, hf⟩ := bnd hf
  refine ev_V kqX11_livingIn_11 jX11_aheadWhy (zX11_aheadWhy (d := d + 3) h2) ho rfl rfl (Nat.le_of_ble_eq_true rfl) rfl (as := [.int s2, .int s1, .int s0]) (rest := []) rfl (Nat.le_of_ble_eq_true rfl) (fun _ _ hq => ?_)
  obtain ⟨rfl, rfl⟩ := hq
  exact jm [2, 1, 0] (fun v0 v1 => fX11_livingIn_14 v0 v1 r.1 r.2) (fun v0 v1 q => tX11_livingIn_14 v0 v1 r.1 r.2 q) hf
def wX11_livingIn_4 : List En := [(.aload_n 0, 0, 0, 0), (.aload_n 0, 0, 0, 0), (.getfield 174, 189, 11, 14), (.iconst 0, 0, 0, 0), (.iload_n 1, 0, 0, 0)]
def fX11_livingIn_4 (v0 : Nat) (v1 : Int32) (h : aH) : Option (Int32 × aH) :=
  (gFI h 11 v0 14).bind fun t1 =>
  fX11_livingIn_11 v0 v1 v1 (kI 0) t1 v0 h
theorem tX11_livingIn_4 {d : Nat} {z : Int32 × aH} (v0 : Nat) (v1 : Int32) (h : aH) (hf : fX11_livingIn_4 v0 v1 h = some z) : Ev (d + 5) none mX11_livingIn (0, 0) 4 [.ref v0, .int v1, .null] [] h (QI z) := 
  go_ok (X := none) (blk := wX11_livingIn_4) (np := 11) (tt := 0) (kN := fun xs h st => app [2, 1, 0] (fun v0 v1 => apS [1, 1, 1, 2] (fun s0 s1 s2 s3 => fX11_livingIn_11 v0 v1 s0 s1 s2 s3 h) st) xs) (kT := fun _ _ _ => none) (kR := kRI)
    (fun xs h st q => jm [2, 1, 0] _ (fun v0 v1 q => apS_ok [1, 1, 1, 2] _ (fun st => Ev (d + 5) none mX11_livingIn (0, 0) 11 [.ref v0, .int v1, .null] st h (QI z)) st (fun s0 s1 s2 s3 q => tX11_livingIn_11 v0 v1 s0 s1 s2 s3 h q) q) q)
    (fun _ _ _ q => nos q)
    kRI_ok (Or.inr rfl) (by decide +kernel) (by decide +kernel) hf
theorem kqX11_livingIn_1 : okC mX11_livingIn 1 (.invokevirtual 161) 181 196 0 0 = true := by decide +kernel
def fX11_livingIn_1 (v0 : Nat) (v1 : Int32) (s0 : Nat) (h : aH) : Option (Int32 × aH) :=
  (isO h 11 s0).bind fun _ =>
  (gX11_anew s0 h).bind fun r =>
  fX11_livingIn_4 v0 v1 r
theorem tX11_livingIn_1 {d : Nat} {z : Int32 × aH} (v0 : Nat) (v1 : Int32) (s0 : Nat) (h : aH) (hf : fX11_livingIn_1 v0 v1 s0 h = some z) : Ev (d + 5) none mX11_livingIn (0, 0) 1 [.ref v0, .int v1, .null] [.ref s0] h (QI z) := by
  obtain ⟨_, h1, hf⟩ := bnd hf
  obtain ⟨fs, ho⟩ := isO_ok h1
  obtain ⟨r, h2, hf⟩ := bnd hf
  refine ev_V kqX11_livingIn_1 jX11_anew (zX11_anew (d := d + 4) h2) ho rfl rfl (Nat.le_of_ble_eq_true rfl) rfl (as := []) (rest := []) rfl (Nat.le_of_ble_eq_true rfl) (fun _ _ hq => ?_)
  obtain ⟨rfl, hh⟩ := hq
  rw [hh]
  exact jm [2, 1, 0] (fun v0 v1 => fX11_livingIn_4 v0 v1 r) (fun v0 v1 q => tX11_livingIn_4 v0 v1 r q) hf
def wX11_livingIn_0 : List En := [(.aload_n 0, 0, 0, 0)]
def fX11_livingIn_0 (v0 : Nat) (v1 : Int32) (h : aH) : Option (Int32 × aH) :=
  fX11_livingIn_1 v0 v1 v0 h
theorem tX11_livingIn_0 {d : Nat} {z : Int32 × aH} (v0 : Nat) (v1 : Int32) (h : aH) (hf : fX11_livingIn_0 v0 v1 h = some z) : Ev (d + 5) none mX11_livingIn (0, 0) 0 [.ref v0, .int v1, .null] [] h (QI z) := 
  go_ok (X := none) (blk := wX11_livingIn_0) (np := 1) (tt := 0) (kN := fun xs h st => app [2, 1, 0] (fun v0 v1 => apS [2] (fun s0 => fX11_livingIn_1 v0 v1 s0 h) st) xs) (kT := fun _ _ _ => none) (kR := kRI)
    (fun xs h st q => jm [2, 1, 0] _ (fun v0 v1 q => apS_ok [2] _ (fun st => Ev (d + 5) none mX11_livingIn (0, 0) 1 [.ref v0, .int v1, .null] st h (QI z)) st (fun s0 q => tX11_livingIn_1 v0 v1 s0 h q) q) q)
    (fun _ _ _ q => nos q)
    kRI_ok (Or.inr rfl) (by decide +kernel) (by decide +kernel) hf
def gX11_livingIn (v0 : Nat) (v1 : Int32) (h : aH) : Option (Int32 × aH) := fX11_livingIn_0 v0 v1 h
theorem zX11_livingIn {d : Nat} {z : Int32 × aH} {v0 : Nat} {v1 : Int32} {h : aH} (q : gX11_livingIn v0 v1 h = some z) : CT (d + 5) mX11_livingIn (0, 0) [.ref v0, .int v1] h (QI z) :=
  ct_ev (by decide +kernel) (Nat.le_of_ble_eq_true rfl) QI_r (jm [2, 1, 0] (fun v0 v1 => fX11_livingIn_0 v0 v1 h) (fun v0 v1 q => tX11_livingIn_0 v0 v1 h q) q)
def wX11_hungriestOf_67 : List En := [(.iload_n 3, 0, 0, 0), (.ireturn, 0, 0, 0)]
def fX11_hungriestOf_67 (v3 : Int32) (h : aH) : Option (Int32 × aH) :=
  some (v3, h)
theorem tX11_hungriestOf_67 {d : Nat} {z : Int32 × aH} (v3 : Int32) (h : aH) (hf : fX11_hungriestOf_67 v3 h = some z) : Ev (d + 2) none mX11_hungriestOf (0, 0) 67 [.null, .null, .null, .int v3, .null] [] h (QI z) := 
  go_ok (X := none) (blk := wX11_hungriestOf_67) (np := 69) (tt := 0) (kN := fun _ _ _ => none) (kT := fun _ _ _ => none) (kR := kRI)
    (fun _ _ _ q => nos q)
    (fun _ _ _ q => nos q)
    kRI_ok (Or.inr rfl) (by decide +kernel) (by decide +kernel) hf
def wX11_hungriestOf_61 : List En := [(.iinc 4 1, 0, 0, 0), (.goto (-58), 6, 0, 0)]
def fX11_hungriestOf_61 (k6 : Nat → Nat → Int32 → Int32 → Int32 → aH → Option (Int32 × aH)) (v0 : Nat) (v1 : Nat) (v2 : Int32) (v3 : Int32) (v4 : Int32) (h : aH) : Option (Int32 × aH) :=
  k6 v0 v1 v2 v3 (v4 + kI 1) h
theorem tX11_hungriestOf_61 {d : Nat} {z : Int32 × aH} {k6 : Nat → Nat → Int32 → Int32 → Int32 → aH → Option (Int32 × aH)} (hk6 : ∀ (v0 : Nat) (v1 : Nat) (v2 : Int32) (v3 : Int32) (v4 : Int32) (h : aH), k6 v0 v1 v2 v3 v4 h = some z → Ev (d + 2) none mX11_hungriestOf (0, 0) 6 [.ref v0, .ref v1, .int v2, .int v3, .int v4] [] h (QI z)) (v0 : Nat) (v1 : Nat) (v2 : Int32) (v3 : Int32) (v4 : Int32) (h : aH) (hf : fX11_hungriestOf_61 k6 v0 v1 v2 v3 v4 h = some z) : Ev (d + 2) none mX11_hungriestOf (0, 0) 61 [.ref v0, .ref v1, .int v2, .int v3, .int v4] [] h (QI z) := 
  go_ok (X := none) (blk := wX11_hungriestOf_61) (np := 67) (tt := 6) (kN := fun _ _ _ => none) (kT := fun xs h st => app [2, 2, 1, 1, 1] (fun v0 v1 v2 v3 v4 => apS [] (k6 v0 v1 v2 v3 v4 h) st) xs) (kR := kRI)
    (fun _ _ _ q => nos q)
    (fun xs h st q => jm [2, 2, 1, 1, 1] _ (fun v0 v1 v2 v3 v4 q => apS_ok [] _ (fun st => Ev (d + 2) none mX11_hungriestOf (0, 0) 6 [.ref v0, .ref v1, .int v2, .int v3, .int v4] st h (QI z)) st (fun q => hk6 v0 v1 v2 v3 v4 h q) q) q)
    kRI_ok (Or.inr rfl) (by decide +kernel) (by decide +kernel) hf
def wX11_hungriestOf_58 : List En := [(.iload 4, 0, 0, 0), (.istore_n 3, 0, 0, 0)]
def fX11_hungriestOf_58 (k6 : Nat → Nat → Int32 → Int32 → Int32 → aH → Option (Int32 × aH)) (v0 : Nat) (v1 : Nat) (v2 : Int32) (v4 : Int32) (h : aH) : Option (Int32 × aH) :=
  fX11_hungriestOf_61 k6 v0 v1 v2 v4 v4 h
theorem tX11_hungriestOf_58 {d : Nat} {z : Int32 × aH} {k6 : Nat → Nat → Int32 → Int32 → Int32 → aH → Option (Int32 × aH)} (hk6 : ∀ (v0 : Nat) (v1 : Nat) (v2 : Int32) (v3 : Int32) (v4 : Int32) (h : aH), k6 v0 v1 v2 v3 v4 h = some z → Ev (d + 2) none mX11_hungriestOf (0, 0) 6 [.ref v0, .ref v1, .int v2, .int v3, .int v4] [] h (QI z)) (v0 : Nat) (v1 : Nat) (v2 : Int32) (v4 : Int32) (h : aH) (hf : fX11_hungriestOf_58 k6 v0 v1 v2 v4 h = some z) : Ev (d + 2) none mX11_hungriestOf (0, 0) 58 [.ref v0, .ref v1, .int v2, .null, .int v4] [] h (QI z) := 
  go_ok (X := none) (blk := wX11_hungriestOf_58) (np := 61) (tt := 0) (kN := fun xs h st => app [2, 2, 1, 1, 1] (fun v0 v1 v2 v3 v4 => apS [] (fX11_hungriestOf_61 k6 v0 v1 v2 v3 v4 h) st) xs) (kT := fun _ _ _ => none) (kR := kRI)
    (fun xs h st q => jm [2, 2, 1, 1, 1] _ (fun v0 v1 v2 v3 v4 q => apS_ok [] _ (fun st => Ev (d + 2) none mX11_hungriestOf (0, 0) 61 [.ref v0, .ref v1, .int v2, .int v3, .int v4] st h (QI z)) st (fun q => tX11_hungriestOf_61 hk6 v0 v1 v2 v3 v4 h q) q) q)
    (fun _ _ _ q => nos q)
    kRI_ok (Or.inr rfl) (by decide +kernel) (by decide +kernel) hf
def wX11_hungriestOf_48 : List En := [(.aload_n 1, 0, 0, 0), (.iload 4, 0, 0, 0), (.iaload, 0, 0, 0), (.aload_n 1, 0, 0, 0), (.iload_n 3, 0, 0, 0), (.iaload, 0, 0, 0), (.if_icmp .le 6, 61, 0, 0)]
def fX11_hungriestOf_48 (k6 : Nat → Nat → Int32 → Int32 → Int32 → aH → Option (Int32 × aH)) (v0 : Nat) (v1 : Nat) (v2 : Int32) (v3 : Int32) (v4 : Int32) (h : aH) : Option (Int32 × aH) :=
  (aRI (h[v1]?) v4).bind fun t1 =>
  (aRI (h[v1]?) v3).bind fun t2 =>
  if t2 < t1 then fX11_hungriestOf_58 k6 v0 v1 v2 v4 h else fX11_hungriestOf_61 k6 v0 v1 v2 v3 v4 h
theorem tX11_hungriestOf_48 {d : Nat} {z : Int32 × aH} {k6 : Nat → Nat → Int32 → Int32 → Int32 → aH → Option (Int32 × aH)} (hk6 : ∀ (v0 : Nat) (v1 : Nat) (v2 : Int32) (v3 : Int32) (v4 : Int32) (h : aH), k6 v0 v1 v2 v3 v4 h = some z → Ev (d + 2) none mX11_hungriestOf (0, 0) 6 [.ref v0, .ref v1, .int v2, .int v3, .int v4] [] h (QI z)) (v0 : Nat) (v1 : Nat) (v2 : Int32) (v3 : Int32) (v4 : Int32) (h : aH) (hf : fX11_hungriestOf_48 k6 v0 v1 v2 v3 v4 h = some z) : Ev (d + 2) none mX11_hungriestOf (0, 0) 48 [.ref v0, .ref v1, .int v2, .int v3, .int v4] [] h (QI z) := 
  go_ok (X := none) (blk := wX11_hungriestOf_48) (np := 58) (tt := 61) (kN := fun xs h st => app [2, 2, 1, 0, 1] (fun v0 v1 v2 v4 => apS [] (fX11_hungriestOf_58 k6 v0 v1 v2 v4 h) st) xs) (kT := fun xs h st => app [2, 2, 1, 1, 1] (fun v0 v1 v2 v3 v4 => apS [] (fX11_hungriestOf_61 k6 v0 v1 v2 v3 v4 h) st) xs) (kR := kRI)
    (fun xs h st q => jm [2, 2, 1, 0, 1] _ (fun v0 v1 v2 v4 q => apS_ok [] _ (fun st => Ev (d + 2) none mX11_hungriestOf (0, 0) 58 [.ref v0, .ref v1, .int v2, .null, .int v4] st h (QI z)) st (fun q => tX11_hungriestOf_58 hk6 v0 v1 v2 v4 h q) q) q)
    (fun xs h st q => jm [2, 2, 1, 1, 1] _ (fun v0 v1 v2 v3 v4 q => apS_ok [] _ (fun st => Ev (d + 2) none mX11_hungriestOf (0, 0) 61 [.ref v0, .ref v1, .int v2, .int v3, .int v4] st h (QI z)) st (fun q => tX11_hungriestOf_61 hk6 v0 v1 v2 v3 v4 h q) q) q)
    kRI_ok (Or.inr rfl) (by decide +kernel) (by decide +kernel) hf
def wX11_hungriestOf_45 : List En := [(.goto 13, 58, 0, 0)]
def fX11_hungriestOf_45 (k6 : Nat → Nat → Int32 → Int32 → Int32 → aH → Option (Int32 × aH)) (v0 : Nat) (v1 : Nat) (v2 : Int32) (v4 : Int32) (h : aH) : Option (Int32 × aH) :=
  fX11_hungriestOf_58 k6 v0 v1 v2 v4 h
theorem tX11_hungriestOf_45 {d : Nat} {z : Int32 × aH} {k6 : Nat → Nat → Int32 → Int32 → Int32 → aH → Option (Int32 × aH)} (hk6 : ∀ (v0 : Nat) (v1 : Nat) (v2 : Int32) (v3 : Int32) (v4 : Int32) (h : aH), k6 v0 v1 v2 v3 v4 h = some z → Ev (d + 2) none mX11_hungriestOf (0, 0) 6 [.ref v0, .ref v1, .int v2, .int v3, .int v4] [] h (QI z)) (v0 : Nat) (v1 : Nat) (v2 : Int32) (v4 : Int32) (h : aH) (hf : fX11_hungriestOf_45 k6 v0 v1 v2 v4 h = some z) : Ev (d + 2) none mX11_hungriestOf (0, 0) 45 [.ref v0, .ref v1, .int v2, .null, .int v4] [] h (QI z) := 
  go_ok (X := none) (blk := wX11_hungriestOf_45) (np := 48) (tt := 58) (kN := fun _ _ _ => none) (kT := fun xs h st => app [2, 2, 1, 0, 1] (fun v0 v1 v2 v4 => apS [] (fX11_hungriestOf_58 k6 v0 v1 v2 v4 h) st) xs) (kR := kRI)
    (fun _ _ _ q => nos q)
    (fun xs h st q => jm [2, 2, 1, 0, 1] _ (fun v0 v1 v2 v4 q => apS_ok [] _ (fun st => Ev (d + 2) none mX11_hungriestOf (0, 0) 58 [.ref v0, .ref v1, .int v2, .null, .int v4] st h (QI z)) st (fun q => tX11_hungriestOf_58 hk6 v0 v1 v2 v4 h q) q) q)
    kRI_ok (Or.inr rfl) (by decide +kernel) (by decide +kernel) hf
def wX11_hungriestOf_35 : List En := [(.aload_n 1, 0, 0, 0), (.iload 4, 0, 0, 0), (.iaload, 0, 0, 0), (.aload_n 1, 0, 0, 0), (.iload_n 3, 0, 0, 0), (.iaload, 0, 0, 0), (.if_icmp .ge 19, 61, 0, 0)]
def fX11_hungriestOf_35 (k6 : Nat → Nat → Int32 → Int32 → Int32 → aH → Option (Int32 × aH)) (v0 : Nat) (v1 : Nat) (v2 : Int32) (v3 : Int32) (v4 : Int32) (h : aH) : Option (Int32 × aH) :=
  (aRI (h[v1]?) v4).bind fun t1 =>
  (aRI (h[v1]?) v3).bind fun t2 =>
  if t1 < t2 then fX11_hungriestOf_45 k6 v0 v1 v2 v4 h else fX11_hungriestOf_61 k6 v0 v1 v2 v3 v4 h
theorem tX11_hungriestOf_35 {d : Nat} {z : Int32 × aH} {k6 : Nat → Nat → Int32 → Int32 → Int32 → aH → Option (Int32 × aH)} (hk6 : ∀ (v0 : Nat) (v1 : Nat) (v2 : Int32) (v3 : Int32) (v4 : Int32) (h : aH), k6 v0 v1 v2 v3 v4 h = some z → Ev (d + 2) none mX11_hungriestOf (0, 0) 6 [.ref v0, .ref v1, .int v2, .int v3, .int v4] [] h (QI z)) (v0 : Nat) (v1 : Nat) (v2 : Int32) (v3 : Int32) (v4 : Int32) (h : aH) (hf : fX11_hungriestOf_35 k6 v0 v1 v2 v3 v4 h = some z) : Ev (d + 2) none mX11_hungriestOf (0, 0) 35 [.ref v0, .ref v1, .int v2, .int v3, .int v4] [] h (QI z) := 
  go_ok (X := none) (blk := wX11_hungriestOf_35) (np := 45) (tt := 61) (kN := fun xs h st => app [2, 2, 1, 0, 1] (fun v0 v1 v2 v4 => apS [] (fX11_hungriestOf_45 k6 v0 v1 v2 v4 h) st) xs) (kT := fun xs h st => app [2, 2, 1, 1, 1] (fun v0 v1 v2 v3 v4 => apS [] (fX11_hungriestOf_61 k6 v0 v1 v2 v3 v4 h) st) xs) (kR := kRI)
    (fun xs h st q => jm [2, 2, 1, 0, 1] _ (fun v0 v1 v2 v4 q => apS_ok [] _ (fun st => Ev (d + 2) none mX11_hungriestOf (0, 0) 45 [.ref v0, .ref v1, .int v2, .null, .int v4] st h (QI z)) st (fun q => tX11_hungriestOf_45 hk6 v0 v1 v2 v4 h q) q) q)
    (fun xs h st q => jm [2, 2, 1, 1, 1] _ (fun v0 v1 v2 v3 v4 q => apS_ok [] _ (fun st => Ev (d + 2) none mX11_hungriestOf (0, 0) 61 [.ref v0, .ref v1, .int v2, .int v3, .int v4] st h (QI z)) st (fun q => tX11_hungriestOf_61 hk6 v0 v1 v2 v3 v4 h q) q) q)
    kRI_ok (Or.inr rfl) (by decide +kernel) (by decide +kernel) hf
def wX11_hungriestOf_31 : List En := [(.iload_n 2, 0, 0, 0), (.ifCond .eq 16, 48, 0, 0)]
def fX11_hungriestOf_31 (k6 : Nat → Nat → Int32 → Int32 → Int32 → aH → Option (Int32 × aH)) (v0 : Nat) (v1 : Nat) (v2 : Int32) (v3 : Int32) (v4 : Int32) (h : aH) : Option (Int32 × aH) :=
  if v2 = 0 then fX11_hungriestOf_48 k6 v0 v1 v2 v3 v4 h else fX11_hungriestOf_35 k6 v0 v1 v2 v3 v4 h
theorem tX11_hungriestOf_31 {d : Nat} {z : Int32 × aH} {k6 : Nat → Nat → Int32 → Int32 → Int32 → aH → Option (Int32 × aH)} (hk6 : ∀ (v0 : Nat) (v1 : Nat) (v2 : Int32) (v3 : Int32) (v4 : Int32) (h : aH), k6 v0 v1 v2 v3 v4 h = some z → Ev (d + 2) none mX11_hungriestOf (0, 0) 6 [.ref v0, .ref v1, .int v2, .int v3, .int v4] [] h (QI z)) (v0 : Nat) (v1 : Nat) (v2 : Int32) (v3 : Int32) (v4 : Int32) (h : aH) (hf : fX11_hungriestOf_31 k6 v0 v1 v2 v3 v4 h = some z) : Ev (d + 2) none mX11_hungriestOf (0, 0) 31 [.ref v0, .ref v1, .int v2, .int v3, .int v4] [] h (QI z) := 
  go_ok (X := none) (blk := wX11_hungriestOf_31) (np := 35) (tt := 48) (kN := fun xs h st => app [2, 2, 1, 1, 1] (fun v0 v1 v2 v3 v4 => apS [] (fX11_hungriestOf_35 k6 v0 v1 v2 v3 v4 h) st) xs) (kT := fun xs h st => app [2, 2, 1, 1, 1] (fun v0 v1 v2 v3 v4 => apS [] (fX11_hungriestOf_48 k6 v0 v1 v2 v3 v4 h) st) xs) (kR := kRI)
    (fun xs h st q => jm [2, 2, 1, 1, 1] _ (fun v0 v1 v2 v3 v4 q => apS_ok [] _ (fun st => Ev (d + 2) none mX11_hungriestOf (0, 0) 35 [.ref v0, .ref v1, .int v2, .int v3, .int v4] st h (QI z)) st (fun q => tX11_hungriestOf_35 hk6 v0 v1 v2 v3 v4 h q) q) q)
    (fun xs h st q => jm [2, 2, 1, 1, 1] _ (fun v0 v1 v2 v3 v4 q => apS_ok [] _ (fun st => Ev (d + 2) none mX11_hungriestOf (0, 0) 48 [.ref v0, .ref v1, .int v2, .int v3, .int v4] st h (QI z)) st (fun q => tX11_hungriestOf_48 hk6 v0 v1 v2 v3 v4 h q) q) q)
    kRI_ok (Or.inr rfl) (by decide +kernel) (by decide +kernel) hf
def wX11_hungriestOf_27 : List En := [(.iload_n 3, 0, 0, 0), (.ifCond .lt 30, 58, 0, 0)]
def fX11_hungriestOf_27 (k6 : Nat → Nat → Int32 → Int32 → Int32 → aH → Option (Int32 × aH)) (v0 : Nat) (v1 : Nat) (v2 : Int32) (v3 : Int32) (v4 : Int32) (h : aH) : Option (Int32 × aH) :=
  if v3 < 0 then fX11_hungriestOf_58 k6 v0 v1 v2 v4 h else fX11_hungriestOf_31 k6 v0 v1 v2 v3 v4 h
theorem tX11_hungriestOf_27 {d : Nat} {z : Int32 × aH} {k6 : Nat → Nat → Int32 → Int32 → Int32 → aH → Option (Int32 × aH)} (hk6 : ∀ (v0 : Nat) (v1 : Nat) (v2 : Int32) (v3 : Int32) (v4 : Int32) (h : aH), k6 v0 v1 v2 v3 v4 h = some z → Ev (d + 2) none mX11_hungriestOf (0, 0) 6 [.ref v0, .ref v1, .int v2, .int v3, .int v4] [] h (QI z)) (v0 : Nat) (v1 : Nat) (v2 : Int32) (v3 : Int32) (v4 : Int32) (h : aH) (hf : fX11_hungriestOf_27 k6 v0 v1 v2 v3 v4 h = some z) : Ev (d + 2) none mX11_hungriestOf (0, 0) 27 [.ref v0, .ref v1, .int v2, .int v3, .int v4] [] h (QI z) := 
  go_ok (X := none) (blk := wX11_hungriestOf_27) (np := 31) (tt := 58) (kN := fun xs h st => app [2, 2, 1, 1, 1] (fun v0 v1 v2 v3 v4 => apS [] (fX11_hungriestOf_31 k6 v0 v1 v2 v3 v4 h) st) xs) (kT := fun xs h st => app [2, 2, 1, 0, 1] (fun v0 v1 v2 v4 => apS [] (fX11_hungriestOf_58 k6 v0 v1 v2 v4 h) st) xs) (kR := kRI)
    (fun xs h st q => jm [2, 2, 1, 1, 1] _ (fun v0 v1 v2 v3 v4 q => apS_ok [] _ (fun st => Ev (d + 2) none mX11_hungriestOf (0, 0) 31 [.ref v0, .ref v1, .int v2, .int v3, .int v4] st h (QI z)) st (fun q => tX11_hungriestOf_31 hk6 v0 v1 v2 v3 v4 h q) q) q)
    (fun xs h st q => jm [2, 2, 1, 0, 1] _ (fun v0 v1 v2 v4 q => apS_ok [] _ (fun st => Ev (d + 2) none mX11_hungriestOf (0, 0) 58 [.ref v0, .ref v1, .int v2, .null, .int v4] st h (QI z)) st (fun q => tX11_hungriestOf_58 hk6 v0 v1 v2 v4 h q) q) q)
    kRI_ok (Or.inr rfl) (by decide +kernel) (by decide +kernel) hf
def wX11_hungriestOf_24 : List En := [(.ifCond .eq 37, 61, 0, 0)]
def fX11_hungriestOf_24 (k6 : Nat → Nat → Int32 → Int32 → Int32 → aH → Option (Int32 × aH)) (v0 : Nat) (v1 : Nat) (v2 : Int32) (v3 : Int32) (v4 : Int32) (s0 : Int32) (h : aH) : Option (Int32 × aH) :=
  if s0 = 0 then fX11_hungriestOf_61 k6 v0 v1 v2 v3 v4 h else fX11_hungriestOf_27 k6 v0 v1 v2 v3 v4 h
theorem tX11_hungriestOf_24 {d : Nat} {z : Int32 × aH} {k6 : Nat → Nat → Int32 → Int32 → Int32 → aH → Option (Int32 × aH)} (hk6 : ∀ (v0 : Nat) (v1 : Nat) (v2 : Int32) (v3 : Int32) (v4 : Int32) (h : aH), k6 v0 v1 v2 v3 v4 h = some z → Ev (d + 2) none mX11_hungriestOf (0, 0) 6 [.ref v0, .ref v1, .int v2, .int v3, .int v4] [] h (QI z)) (v0 : Nat) (v1 : Nat) (v2 : Int32) (v3 : Int32) (v4 : Int32) (s0 : Int32) (h : aH) (hf : fX11_hungriestOf_24 k6 v0 v1 v2 v3 v4 s0 h = some z) : Ev (d + 2) none mX11_hungriestOf (0, 0) 24 [.ref v0, .ref v1, .int v2, .int v3, .int v4] [.int s0] h (QI z) := 
  go_ok (X := none) (blk := wX11_hungriestOf_24) (np := 27) (tt := 61) (kN := fun xs h st => app [2, 2, 1, 1, 1] (fun v0 v1 v2 v3 v4 => apS [] (fX11_hungriestOf_27 k6 v0 v1 v2 v3 v4 h) st) xs) (kT := fun xs h st => app [2, 2, 1, 1, 1] (fun v0 v1 v2 v3 v4 => apS [] (fX11_hungriestOf_61 k6 v0 v1 v2 v3 v4 h) st) xs) (kR := kRI)
    (fun xs h st q => jm [2, 2, 1, 1, 1] _ (fun v0 v1 v2 v3 v4 q => apS_ok [] _ (fun st => Ev (d + 2) none mX11_hungriestOf (0, 0) 27 [.ref v0, .ref v1, .int v2, .int v3, .int v4] st h (QI z)) st (fun q => tX11_hungriestOf_27 hk6 v0 v1 v2 v3 v4 h q) q) q)
    (fun xs h st q => jm [2, 2, 1, 1, 1] _ (fun v0 v1 v2 v3 v4 q => apS_ok [] _ (fun st => Ev (d + 2) none mX11_hungriestOf (0, 0) 61 [.ref v0, .ref v1, .int v2, .int v3, .int v4] st h (QI z)) st (fun q => tX11_hungriestOf_61 hk6 v0 v1 v2 v3 v4 h q) q) q)
    kRI_ok (Or.inr rfl) (by decide +kernel) (by decide +kernel) hf
theorem kqX11_hungriestOf_21 : okC mX11_hungriestOf 21 (.invokevirtual 249) 221 238 0 2 = true := by decide +kernel
def fX11_hungriestOf_21 (k6 : Nat → Nat → Int32 → Int32 → Int32 → aH → Option (Int32 × aH)) (v0 : Nat) (v1 : Nat) (v2 : Int32) (v3 : Int32) (v4 : Int32) (s0 : Int32) (s1 : Nat) (s2 : Nat) (h : aH) : Option (Int32 × aH) :=
  (isO h 11 s2).bind fun _ =>
  (gX11_lives s2 s1 s0 h).bind fun r =>
  fX11_hungriestOf_24 k6 v0 v1 v2 v3 v4 r.1 r.2
theorem tX11_hungriestOf_21 {d : Nat} {z : Int32 × aH} {k6 : Nat → Nat → Int32 → Int32 → Int32 → aH → Option (Int32 × aH)} (hk6 : ∀ (v0 : Nat) (v1 : Nat) (v2 : Int32) (v3 : Int32) (v4 : Int32) (h : aH), k6 v0 v1 v2 v3 v4 h = some z → Ev (d + 2) none mX11_hungriestOf (0, 0) 6 [.ref v0, .ref v1, .int v2, .int v3, .int v4] [] h (QI z)) (v0 : Nat) (v1 : Nat) (v2 : Int32) (v3 : Int32) (v4 : Int32) (s0 : Int32) (s1 : Nat) (s2 : Nat) (h : aH) (hf : fX11_hungriestOf_21 k6 v0 v1 v2 v3 v4 s0 s1 s2 h = some z) : Ev (d + 2) none mX11_hungriestOf (0, 0) 21 [.ref v0, .ref v1, .int v2, .int v3, .int v4] [.int s0, .ref s1, .ref s2] h (QI z) := by
  obtain ⟨_, h1, hf⟩ := bnd hf
  obtain ⟨fs, ho⟩ := isO_ok h1
  obtain ⟨r, h2, hf⟩ := bnd hf
  refine ev_V kqX11_hungriestOf_21 jX11_lives (zX11_lives (d := d + 0) h2) ho rfl rfl (Nat.le_of_ble_eq_true rfl) rfl (as := [.ref s1, .int s0]) (rest := []) rfl (Nat.le_of_ble_eq_true rfl) (fun _ _ hq => ?_)
  obtain ⟨-, rfl, rfl⟩ := hq
  exact jm [2, 2, 1, 1, 1] (fun v0 v1 v2 v3 v4 => fX11_hungriestOf_24 k6 v0 v1 v2 v3 v4 r.1 r.2) (fun v0 v1 v2 v3 v4 q => tX11_hungriestOf_24 hk6 v0 v1 v2 v3 v4 r.1 r.2 q) hf
def wX11_hungriestOf_17 : List En := [(.aload_n 0, 0, 0, 0), (.aload_n 1, 0, 0, 0), (.iload 4, 0, 0, 0)]
def fX11_hungriestOf_17 (k6 : Nat → Nat → Int32 → Int32 → Int32 → aH → Option (Int32 × aH)) (v0 : Nat) (v1 : Nat) (v2 : Int32) (v3 : Int32) (v4 : Int32) (h : aH) : Option (Int32 × aH) :=
  fX11_hungriestOf_21 k6 v0 v1 v2 v3 v4 v4 v1 v0 h
theorem tX11_hungriestOf_17 {d : Nat} {z : Int32 × aH} {k6 : Nat → Nat → Int32 → Int32 → Int32 → aH → Option (Int32 × aH)} (hk6 : ∀ (v0 : Nat) (v1 : Nat) (v2 : Int32) (v3 : Int32) (v4 : Int32) (h : aH), k6 v0 v1 v2 v3 v4 h = some z → Ev (d + 2) none mX11_hungriestOf (0, 0) 6 [.ref v0, .ref v1, .int v2, .int v3, .int v4] [] h (QI z)) (v0 : Nat) (v1 : Nat) (v2 : Int32) (v3 : Int32) (v4 : Int32) (h : aH) (hf : fX11_hungriestOf_17 k6 v0 v1 v2 v3 v4 h = some z) : Ev (d + 2) none mX11_hungriestOf (0, 0) 17 [.ref v0, .ref v1, .int v2, .int v3, .int v4] [] h (QI z) := 
  go_ok (X := none) (blk := wX11_hungriestOf_17) (np := 21) (tt := 0) (kN := fun xs h st => app [2, 2, 1, 1, 1] (fun v0 v1 v2 v3 v4 => apS [1, 2, 2] (fun s0 s1 s2 => fX11_hungriestOf_21 k6 v0 v1 v2 v3 v4 s0 s1 s2 h) st) xs) (kT := fun _ _ _ => none) (kR := kRI)
    (fun xs h st q => jm [2, 2, 1, 1, 1] _ (fun v0 v1 v2 v3 v4 q => apS_ok [1, 2, 2] _ (fun st => Ev (d + 2) none mX11_hungriestOf (0, 0) 21 [.ref v0, .ref v1, .int v2, .int v3, .int v4] st h (QI z)) st (fun s0 s1 s2 q => tX11_hungriestOf_21 hk6 v0 v1 v2 v3 v4 s0 s1 s2 h q) q) q)
    (fun _ _ _ q => nos q)
    kRI_ok (Or.inr rfl) (by decide +kernel) (by decide +kernel) hf
def wX11_hungriestOf_6 : List En := [(.iload 4, 0, 0, 0), (.aload_n 0, 0, 0, 0), (.getfield 20, 190, 11, 15), (.iconst 3, 0, 0, 0), (.iaload, 0, 0, 0), (.if_icmp .ge 53, 67, 0, 0)]
def fX11_hungriestOf_6 (k6 : Nat → Nat → Int32 → Int32 → Int32 → aH → Option (Int32 × aH)) (v0 : Nat) (v1 : Nat) (v2 : Int32) (v3 : Int32) (v4 : Int32) (h : aH) : Option (Int32 × aH) :=
  (gFR h 11 v0 15).bind fun t1 =>
  (aRI (h[t1]?) (kI 3)).bind fun t2 =>
  if v4 < t2 then fX11_hungriestOf_17 k6 v0 v1 v2 v3 v4 h else fX11_hungriestOf_67 v3 h
theorem tX11_hungriestOf_6 {d : Nat} {z : Int32 × aH} {k6 : Nat → Nat → Int32 → Int32 → Int32 → aH → Option (Int32 × aH)} (hk6 : ∀ (v0 : Nat) (v1 : Nat) (v2 : Int32) (v3 : Int32) (v4 : Int32) (h : aH), k6 v0 v1 v2 v3 v4 h = some z → Ev (d + 2) none mX11_hungriestOf (0, 0) 6 [.ref v0, .ref v1, .int v2, .int v3, .int v4] [] h (QI z)) (v0 : Nat) (v1 : Nat) (v2 : Int32) (v3 : Int32) (v4 : Int32) (h : aH) (hf : fX11_hungriestOf_6 k6 v0 v1 v2 v3 v4 h = some z) : Ev (d + 2) none mX11_hungriestOf (0, 0) 6 [.ref v0, .ref v1, .int v2, .int v3, .int v4] [] h (QI z) := 
  go_ok (X := none) (blk := wX11_hungriestOf_6) (np := 17) (tt := 67) (kN := fun xs h st => app [2, 2, 1, 1, 1] (fun v0 v1 v2 v3 v4 => apS [] (fX11_hungriestOf_17 k6 v0 v1 v2 v3 v4 h) st) xs) (kT := fun xs h st => app [0, 0, 0, 1, 0] (fun v3 => apS [] (fX11_hungriestOf_67 v3 h) st) xs) (kR := kRI)
    (fun xs h st q => jm [2, 2, 1, 1, 1] _ (fun v0 v1 v2 v3 v4 q => apS_ok [] _ (fun st => Ev (d + 2) none mX11_hungriestOf (0, 0) 17 [.ref v0, .ref v1, .int v2, .int v3, .int v4] st h (QI z)) st (fun q => tX11_hungriestOf_17 hk6 v0 v1 v2 v3 v4 h q) q) q)
    (fun xs h st q => jm [0, 0, 0, 1, 0] _ (fun v3 q => apS_ok [] _ (fun st => Ev (d + 2) none mX11_hungriestOf (0, 0) 67 [.null, .null, .null, .int v3, .null] st h (QI z)) st (fun q => tX11_hungriestOf_67 v3 h q) q) q)
    kRI_ok (Or.inr rfl) (by decide +kernel) (by decide +kernel) hf
def lX11_hungriestOf_6 : Nat → Nat → Nat → Int32 → Int32 → Int32 → aH → Option (Int32 × aH)
  | 0, _, _, _, _, _, _ => none
  | n + 1, v0, v1, v2, v3, v4, h => fX11_hungriestOf_6 (lX11_hungriestOf_6 n) v0 v1 v2 v3 v4 h
theorem uX11_hungriestOf_6 {d : Nat} {z : Int32 × aH} : ∀ (n : Nat) (v0 : Nat) (v1 : Nat) (v2 : Int32) (v3 : Int32) (v4 : Int32) (h : aH), lX11_hungriestOf_6 n v0 v1 v2 v3 v4 h = some z → Ev (d + 2) none mX11_hungriestOf (0, 0) 6 [.ref v0, .ref v1, .int v2, .int v3, .int v4] [] h (QI z) := by
  intro n
  induction n with
  | zero => intro _ _ _ _ _ _ q; exact nos (show (none : Option (Int32 × aH)) = some z from q)
  | succ n ih => intro v0 v1 v2 v3 v4 h q; exact tX11_hungriestOf_6 ih v0 v1 v2 v3 v4 h q
def wX11_hungriestOf_0 : List En := [(.bipush (-2), 0, 0, 0), (.istore_n 3, 0, 0, 0), (.iconst 0, 0, 0, 0), (.istore 4, 0, 0, 0)]
def fX11_hungriestOf_0 (v0 : Nat) (v1 : Nat) (v2 : Int32) (h : aH) : Option (Int32 × aH) :=
  lX11_hungriestOf_6 FU v0 v1 v2 (kB (-2)) (kI 0) h
theorem tX11_hungriestOf_0 {d : Nat} {z : Int32 × aH} (v0 : Nat) (v1 : Nat) (v2 : Int32) (h : aH) (hf : fX11_hungriestOf_0 v0 v1 v2 h = some z) : Ev (d + 2) none mX11_hungriestOf (0, 0) 0 [.ref v0, .ref v1, .int v2, .null, .null] [] h (QI z) := 
  go_ok (X := none) (blk := wX11_hungriestOf_0) (np := 6) (tt := 0) (kN := fun xs h st => app [2, 2, 1, 1, 1] (fun v0 v1 v2 v3 v4 => apS [] (lX11_hungriestOf_6 FU v0 v1 v2 v3 v4 h) st) xs) (kT := fun _ _ _ => none) (kR := kRI)
    (fun xs h st q => jm [2, 2, 1, 1, 1] _ (fun v0 v1 v2 v3 v4 q => apS_ok [] _ (fun st => Ev (d + 2) none mX11_hungriestOf (0, 0) 6 [.ref v0, .ref v1, .int v2, .int v3, .int v4] st h (QI z)) st (fun q => uX11_hungriestOf_6 FU v0 v1 v2 v3 v4 h q) q) q)
    (fun _ _ _ q => nos q)
    kRI_ok (Or.inr rfl) (by decide +kernel) (by decide +kernel) hf
def gX11_hungriestOf (v0 : Nat) (v1 : Nat) (v2 : Int32) (h : aH) : Option (Int32 × aH) := fX11_hungriestOf_0 v0 v1 v2 h
theorem zX11_hungriestOf {d : Nat} {z : Int32 × aH} {v0 : Nat} {v1 : Nat} {v2 : Int32} {h : aH} (q : gX11_hungriestOf v0 v1 v2 h = some z) : CT (d + 2) mX11_hungriestOf (0, 0) [.ref v0, .ref v1, .int v2] h (QI z) :=
  ct_ev (by decide +kernel) (Nat.le_of_ble_eq_true rfl) QI_r (jm [2, 2, 1, 0, 0] (fun v0 v1 v2 => fX11_hungriestOf_0 v0 v1 v2 h) (fun v0 v1 v2 q => tX11_hungriestOf_0 v0 v1 v2 h q) q)
def wX11_hungriestIn_39 : List En := [(.ireturn, 0, 0, 0)]
def fX11_hungriestIn_39 (s0 : Int32) (h : aH) : Option (Int32 × aH) :=
  some (s0, h)
theorem tX11_hungriestIn_39 {d : Nat} {z : Int32 × aH} (s0 : Int32) (h : aH) (hf : fX11_hungriestIn_39 s0 h = some z) : Ev (d + 5) none mX11_hungriestIn (0, 0) 39 [.null, .null, .null] [.int s0] h (QI z) := 
  go_ok (X := none) (blk := wX11_hungriestIn_39) (np := 40) (tt := 0) (kN := fun _ _ _ => none) (kT := fun _ _ _ => none) (kR := kRI)
    (fun _ _ _ q => nos q)
    (fun _ _ _ q => nos q)
    kRI_ok (Or.inr rfl) (by decide +kernel) (by decide +kernel) hf
theorem kqX11_hungriestIn_36 : okC mX11_hungriestIn 36 (.invokevirtual 307) 246 263 0 2 = true := by decide +kernel
def fX11_hungriestIn_36 (s0 : Int32) (s1 : Nat) (s2 : Nat) (h : aH) : Option (Int32 × aH) :=
  (isO h 11 s2).bind fun _ =>
  (gX11_hungriestOf s2 s1 s0 h).bind fun r =>
  fX11_hungriestIn_39 r.1 r.2
theorem tX11_hungriestIn_36 {d : Nat} {z : Int32 × aH} (s0 : Int32) (s1 : Nat) (s2 : Nat) (h : aH) (hf : fX11_hungriestIn_36 s0 s1 s2 h = some z) : Ev (d + 5) none mX11_hungriestIn (0, 0) 36 [.null, .null, .null] [.int s0, .ref s1, .ref s2] h (QI z) := by
  obtain ⟨_, h1, hf⟩ := bnd hf
  obtain ⟨fs, ho⟩ := isO_ok h1
  obtain ⟨r, h2, hf⟩ := bnd hf
  refine ev_V kqX11_hungriestIn_36 jX11_hungriestOf (zX11_hungriestOf (d := d + 2) h2) ho rfl rfl (Nat.le_of_ble_eq_true rfl) rfl (as := [.ref s1, .int s0]) (rest := []) rfl (Nat.le_of_ble_eq_true rfl) (fun _ _ hq => ?_)
  obtain ⟨rfl, rfl⟩ := hq
  exact jm [0, 0, 0] (fX11_hungriestIn_39 r.1 r.2) (fun q => tX11_hungriestIn_39 r.1 r.2 q) hf
def wX11_hungriestIn_30 : List En := [(.aload_n 0, 0, 0, 0), (.aload_n 0, 0, 0, 0), (.getfield 35, 195, 11, 20), (.iconst 0, 0, 0, 0)]
def fX11_hungriestIn_30 (v0 : Nat) (h : aH) : Option (Int32 × aH) :=
  (gFR h 11 v0 20).bind fun t1 =>
  fX11_hungriestIn_36 (kI 0) t1 v0 h
theorem tX11_hungriestIn_30 {d : Nat} {z : Int32 × aH} (v0 : Nat) (h : aH) (hf : fX11_hungriestIn_30 v0 h = some z) : Ev (d + 5) none mX11_hungriestIn (0, 0) 30 [.ref v0, .null, .null] [] h (QI z) := 
  go_ok (X := none) (blk := wX11_hungriestIn_30) (np := 36) (tt := 0) (kN := fun xs h st => app [0, 0, 0] (apS [1, 2, 2] (fun s0 s1 s2 => fX11_hungriestIn_36 s0 s1 s2 h) st) xs) (kT := fun _ _ _ => none) (kR := kRI)
    (fun xs h st q => jm [0, 0, 0] _ (fun q => apS_ok [1, 2, 2] _ (fun st => Ev (d + 5) none mX11_hungriestIn (0, 0) 36 [.null, .null, .null] st h (QI z)) st (fun s0 s1 s2 q => tX11_hungriestIn_36 s0 s1 s2 h q) q) q)
    (fun _ _ _ q => nos q)
    kRI_ok (Or.inr rfl) (by decide +kernel) (by decide +kernel) hf
theorem kqX11_hungriestIn_27 : okC mX11_hungriestIn 27 (.invokevirtual 294) 227 244 0 1 = true := by decide +kernel
def fX11_hungriestIn_27 (v0 : Nat) (s0 : Int32) (s1 : Nat) (h : aH) : Option (Int32 × aH) :=
  (isO h 11 s1).bind fun _ =>
  (gX11_daysOn s1 s0 h).bind fun r =>
  fX11_hungriestIn_30 v0 r
theorem tX11_hungriestIn_27 {d : Nat} {z : Int32 × aH} (v0 : Nat) (s0 : Int32) (s1 : Nat) (h : aH) (hf : fX11_hungriestIn_27 v0 s0 s1 h = some z) : Ev (d + 5) none mX11_hungriestIn (0, 0) 27 [.ref v0, .null, .null] [.int s0, .ref s1] h (QI z) := by
  obtain ⟨_, h1, hf⟩ := bnd hf
  obtain ⟨fs, ho⟩ := isO_ok h1
  obtain ⟨r, h2, hf⟩ := bnd hf
  refine ev_V kqX11_hungriestIn_27 jX11_daysOn (zX11_daysOn (d := d + 0) h2) ho rfl rfl (Nat.le_of_ble_eq_true rfl) rfl (as := [.int s0]) (rest := []) rfl (Nat.le_of_ble_eq_true rfl) (fun _ _ hq => ?_)
  obtain ⟨rfl, hh⟩ := hq
  rw [hh]
  exact jm [2, 0, 0] (fun v0 => fX11_hungriestIn_30 v0 r) (fun v0 q => tX11_hungriestIn_30 v0 r q) hf
def wX11_hungriestIn_25 : List En := [(.aload_n 0, 0, 0, 0), (.iload_n 1, 0, 0, 0)]
def fX11_hungriestIn_25 (v0 : Nat) (v1 : Int32) (h : aH) : Option (Int32 × aH) :=
  fX11_hungriestIn_27 v0 v1 v0 h
theorem tX11_hungriestIn_25 {d : Nat} {z : Int32 × aH} (v0 : Nat) (v1 : Int32) (h : aH) (hf : fX11_hungriestIn_25 v0 v1 h = some z) : Ev (d + 5) none mX11_hungriestIn (0, 0) 25 [.ref v0, .int v1, .null] [] h (QI z) := 
  go_ok (X := none) (blk := wX11_hungriestIn_25) (np := 27) (tt := 0) (kN := fun xs h st => app [2, 0, 0] (fun v0 => apS [1, 2] (fun s0 s1 => fX11_hungriestIn_27 v0 s0 s1 h) st) xs) (kT := fun _ _ _ => none) (kR := kRI)
    (fun xs h st q => jm [2, 0, 0] _ (fun v0 q => apS_ok [1, 2] _ (fun st => Ev (d + 5) none mX11_hungriestIn (0, 0) 27 [.ref v0, .null, .null] st h (QI z)) st (fun s0 s1 q => tX11_hungriestIn_27 v0 s0 s1 h q) q) q)
    (fun _ _ _ q => nos q)
    kRI_ok (Or.inr rfl) (by decide +kernel) (by decide +kernel) hf
def wX11_hungriestIn_24 : List En := [(.ireturn, 0, 0, 0)]
def fX11_hungriestIn_24 (s0 : Int32) (h : aH) : Option (Int32 × aH) :=
  some (s0, h)
theorem tX11_hungriestIn_24 {d : Nat} {z : Int32 × aH} (s0 : Int32) (h : aH) (hf : fX11_hungriestIn_24 s0 h = some z) : Ev (d + 5) none mX11_hungriestIn (0, 0) 24 [.null, .null, .null] [.int s0] h (QI z) := 
  go_ok (X := none) (blk := wX11_hungriestIn_24) (np := 25) (tt := 0) (kN := fun _ _ _ => none) (kT := fun _ _ _ => none) (kR := kRI)
    (fun _ _ _ q => nos q)
    (fun _ _ _ q => nos q)
    kRI_ok (Or.inr rfl) (by decide +kernel) (by decide +kernel) hf
theorem kqX11_hungriestIn_21 : okC mX11_hungriestIn 21 (.invokevirtual 164) 183 198 0 1 = true := by decide +kernel
def fX11_hungriestIn_21 (s0 : Int32) (s1 : Nat) (h : aH) : Option (Int32 × aH) :=
  (isO h 11 s1).bind fun _ =>
  (gX11_no s1 s0 h).bind fun r =>
  fX11_hungriestIn_24 r.1 r.2
theorem tX11_hungriestIn_21 {d : Nat} {z : Int32 × aH} (s0 : Int32) (s1 : Nat) (h : aH) (hf : fX11_hungriestIn_21 s0 s1 h = some z) : Ev (d + 5) none mX11_hungriestIn (0, 0) 21 [.null, .null, .null] [.int s0, .ref s1] h (QI z) := by
  obtain ⟨_, h1, hf⟩ := bnd hf
  obtain ⟨fs, ho⟩ := isO_ok h1
  obtain ⟨r, h2, hf⟩ := bnd hf
  refine ev_V kqX11_hungriestIn_21 jX11_no (zX11_no (d := d + 4) h2) ho rfl rfl (Nat.le_of_ble_eq_true rfl) rfl (as := [.int s0]) (rest := []) rfl (Nat.le_of_ble_eq_true rfl) (fun _ _ hq => ?_)
  obtain ⟨rfl, rfl⟩ := hq
  exact jm [0, 0, 0] (fX11_hungriestIn_24 r.1 r.2) (fun q => tX11_hungriestIn_24 r.1 r.2 q) hf
def wX11_hungriestIn_19 : List En := [(.aload_n 0, 0, 0, 0), (.iload_n 2, 0, 0, 0)]
def fX11_hungriestIn_19 (v0 : Nat) (v2 : Int32) (h : aH) : Option (Int32 × aH) :=
  fX11_hungriestIn_21 v2 v0 h
theorem tX11_hungriestIn_19 {d : Nat} {z : Int32 × aH} (v0 : Nat) (v2 : Int32) (h : aH) (hf : fX11_hungriestIn_19 v0 v2 h = some z) : Ev (d + 5) none mX11_hungriestIn (0, 0) 19 [.ref v0, .null, .int v2] [] h (QI z) := 
  go_ok (X := none) (blk := wX11_hungriestIn_19) (np := 21) (tt := 0) (kN := fun xs h st => app [0, 0, 0] (apS [1, 2] (fun s0 s1 => fX11_hungriestIn_21 s0 s1 h) st) xs) (kT := fun _ _ _ => none) (kR := kRI)
    (fun xs h st q => jm [0, 0, 0] _ (fun q => apS_ok [1, 2] _ (fun st => Ev (d + 5) none mX11_hungriestIn (0, 0) 21 [.null, .null, .null] st h (QI z)) st (fun s0 s1 q => tX11_hungriestIn_21 s0 s1 h q) q) q)
    (fun _ _ _ q => nos q)
    kRI_ok (Or.inr rfl) (by decide +kernel) (by decide +kernel) hf
def wX11_hungriestIn_14 : List En := [(.istore_n 2, 0, 0, 0), (.iload_n 2, 0, 0, 0), (.ifCond .eq 9, 25, 0, 0)]
def fX11_hungriestIn_14 (v0 : Nat) (v1 : Int32) (s0 : Int32) (h : aH) : Option (Int32 × aH) :=
  if s0 = 0 then fX11_hungriestIn_25 v0 v1 h else fX11_hungriestIn_19 v0 s0 h
theorem tX11_hungriestIn_14 {d : Nat} {z : Int32 × aH} (v0 : Nat) (v1 : Int32) (s0 : Int32) (h : aH) (hf : fX11_hungriestIn_14 v0 v1 s0 h = some z) : Ev (d + 5) none mX11_hungriestIn (0, 0) 14 [.ref v0, .int v1, .null] [.int s0] h (QI z) := 
  go_ok (X := none) (blk := wX11_hungriestIn_14) (np := 19) (tt := 25) (kN := fun xs h st => app [2, 0, 1] (fun v0 v2 => apS [] (fX11_hungriestIn_19 v0 v2 h) st) xs) (kT := fun xs h st => app [2, 1, 0] (fun v0 v1 => apS [] (fX11_hungriestIn_25 v0 v1 h) st) xs) (kR := kRI)
    (fun xs h st q => jm [2, 0, 1] _ (fun v0 v2 q => apS_ok [] _ (fun st => Ev (d + 5) none mX11_hungriestIn (0, 0) 19 [.ref v0, .null, .int v2] st h (QI z)) st (fun q => tX11_hungriestIn_19 v0 v2 h q) q) q)
    (fun xs h st q => jm [2, 1, 0] _ (fun v0 v1 q => apS_ok [] _ (fun st => Ev (d + 5) none mX11_hungriestIn (0, 0) 25 [.ref v0, .int v1, .null] st h (QI z)) st (fun q => tX11_hungriestIn_25 v0 v1 h q) q) q)
    kRI_ok (Or.inr rfl) (by decide +kernel) (by decide +kernel) hf
theorem kqX11_hungriestIn_11 : okC mX11_hungriestIn 11 (.invokevirtual 300) 239 256 0 3 = true := by decide +kernel
def fX11_hungriestIn_11 (v0 : Nat) (v1 : Int32) (s0 : Int32) (s1 : Int32) (s2 : Int32) (s3 : Nat) (h : aH) : Option (Int32 × aH) :=
  (isO h 11 s3).bind fun _ =>
  (gX11_aheadWhy s3 s2 s1 s0 h).bind fun r =>
  fX11_hungriestIn_14 v0 v1 r.1 r.2
theorem tX11_hungriestIn_11 {d : Nat} {z : Int32 × aH} (v0 : Nat) (v1 : Int32) (s0 : Int32) (s1 : Int32) (s2 : Int32) (s3 : Nat) (h : aH) (hf : fX11_hungriestIn_11 v0 v1 s0 s1 s2 s3 h = some z) : Ev (d + 5) none mX11_hungriestIn (0, 0) 11 [.ref v0, .int v1, .null] [.int s0, .int s1, .int s2, .ref s3] h (QI z) := by
  obtain ⟨_, h1, hf⟩ := bnd hf
  obtain ⟨fs, ho⟩ := isO_ok h1
  obtain ⟨r, h2, hf⟩ := bnd hf
  refine ev_V kqX11_hungriestIn_11 jX11_aheadWhy (zX11_aheadWhy (d := d + 3) h2) ho rfl rfl (Nat.le_of_ble_eq_true rfl) rfl (as := [.int s2, .int s1, .int s0]) (rest := []) rfl (Nat.le_of_ble_eq_true rfl) (fun _ _ hq => ?_)
  obtain ⟨rfl, rfl⟩ := hq
  exact jm [2, 1, 0] (fun v0 v1 => fX11_hungriestIn_14 v0 v1 r.1 r.2) (fun v0 v1 q => tX11_hungriestIn_14 v0 v1 r.1 r.2 q) hf
def wX11_hungriestIn_4 : List En := [(.aload_n 0, 0, 0, 0), (.aload_n 0, 0, 0, 0), (.getfield 174, 189, 11, 14), (.iconst 0, 0, 0, 0), (.iload_n 1, 0, 0, 0)]
def fX11_hungriestIn_4 (v0 : Nat) (v1 : Int32) (h : aH) : Option (Int32 × aH) :=
  (gFI h 11 v0 14).bind fun t1 =>
  fX11_hungriestIn_11 v0 v1 v1 (kI 0) t1 v0 h
theorem tX11_hungriestIn_4 {d : Nat} {z : Int32 × aH} (v0 : Nat) (v1 : Int32) (h : aH) (hf : fX11_hungriestIn_4 v0 v1 h = some z) : Ev (d + 5) none mX11_hungriestIn (0, 0) 4 [.ref v0, .int v1, .null] [] h (QI z) := 
  go_ok (X := none) (blk := wX11_hungriestIn_4) (np := 11) (tt := 0) (kN := fun xs h st => app [2, 1, 0] (fun v0 v1 => apS [1, 1, 1, 2] (fun s0 s1 s2 s3 => fX11_hungriestIn_11 v0 v1 s0 s1 s2 s3 h) st) xs) (kT := fun _ _ _ => none) (kR := kRI)
    (fun xs h st q => jm [2, 1, 0] _ (fun v0 v1 q => apS_ok [1, 1, 1, 2] _ (fun st => Ev (d + 5) none mX11_hungriestIn (0, 0) 11 [.ref v0, .int v1, .null] st h (QI z)) st (fun s0 s1 s2 s3 q => tX11_hungriestIn_11 v0 v1 s0 s1 s2 s3 h q) q) q)
    (fun _ _ _ q => nos q)
    kRI_ok (Or.inr rfl) (by decide +kernel) (by decide +kernel) hf
theorem kqX11_hungriestIn_1 : okC mX11_hungriestIn 1 (.invokevirtual 161) 181 196 0 0 = true := by decide +kernel
def fX11_hungriestIn_1 (v0 : Nat) (v1 : Int32) (s0 : Nat) (h : aH) : Option (Int32 × aH) :=
  (isO h 11 s0).bind fun _ =>
  (gX11_anew s0 h).bind fun r =>
  fX11_hungriestIn_4 v0 v1 r
theorem tX11_hungriestIn_1 {d : Nat} {z : Int32 × aH} (v0 : Nat) (v1 : Int32) (s0 : Nat) (h : aH) (hf : fX11_hungriestIn_1 v0 v1 s0 h = some z) : Ev (d + 5) none mX11_hungriestIn (0, 0) 1 [.ref v0, .int v1, .null] [.ref s0] h (QI z) := by
  obtain ⟨_, h1, hf⟩ := bnd hf
  obtain ⟨fs, ho⟩ := isO_ok h1
  obtain ⟨r, h2, hf⟩ := bnd hf
  refine ev_V kqX11_hungriestIn_1 jX11_anew (zX11_anew (d := d + 4) h2) ho rfl rfl (Nat.le_of_ble_eq_true rfl) rfl (as := []) (rest := []) rfl (Nat.le_of_ble_eq_true rfl) (fun _ _ hq => ?_)
  obtain ⟨rfl, hh⟩ := hq
  rw [hh]
  exact jm [2, 1, 0] (fun v0 v1 => fX11_hungriestIn_4 v0 v1 r) (fun v0 v1 q => tX11_hungriestIn_4 v0 v1 r q) hf
def wX11_hungriestIn_0 : List En := [(.aload_n 0, 0, 0, 0)]
def fX11_hungriestIn_0 (v0 : Nat) (v1 : Int32) (h : aH) : Option (Int32 × aH) :=
  fX11_hungriestIn_1 v0 v1 v0 h
theorem tX11_hungriestIn_0 {d : Nat} {z : Int32 × aH} (v0 : Nat) (v1 : Int32) (h : aH) (hf : fX11_hungriestIn_0 v0 v1 h = some z) : Ev (d + 5) none mX11_hungriestIn (0, 0) 0 [.ref v0, .int v1, .null] [] h (QI z) := 
  go_ok (X := none) (blk := wX11_hungriestIn_0) (np := 1) (tt := 0) (kN := fun xs h st => app [2, 1, 0] (fun v0 v1 => apS [2] (fun s0 => fX11_hungriestIn_1 v0 v1 s0 h) st) xs) (kT := fun _ _ _ => none) (kR := kRI)
    (fun xs h st q => jm [2, 1, 0] _ (fun v0 v1 q => apS_ok [2] _ (fun st => Ev (d + 5) none mX11_hungriestIn (0, 0) 1 [.ref v0, .int v1, .null] st h (QI z)) st (fun s0 q => tX11_hungriestIn_1 v0 v1 s0 h q) q) q)
    (fun _ _ _ q => nos q)
    kRI_ok (Or.inr rfl) (by decide +kernel) (by decide +kernel) hf
def gX11_hungriestIn (v0 : Nat) (v1 : Int32) (h : aH) : Option (Int32 × aH) := fX11_hungriestIn_0 v0 v1 h
theorem zX11_hungriestIn {d : Nat} {z : Int32 × aH} {v0 : Nat} {v1 : Int32} {h : aH} (q : gX11_hungriestIn v0 v1 h = some z) : CT (d + 5) mX11_hungriestIn (0, 0) [.ref v0, .int v1] h (QI z) :=
  ct_ev (by decide +kernel) (Nat.le_of_ble_eq_true rfl) QI_r (jm [2, 1, 0] (fun v0 v1 => fX11_hungriestIn_0 v0 v1 h) (fun v0 v1 q => tX11_hungriestIn_0 v0 v1 h q) q)
def wX11_unevenIn_69 : List En := [(.ireturn, 0, 0, 0)]
def fX11_unevenIn_69 (s0 : Int32) (h : aH) : Option (Int32 × aH) :=
  some (s0, h)
theorem tX11_unevenIn_69 {d : Nat} {z : Int32 × aH} (s0 : Int32) (h : aH) (hf : fX11_unevenIn_69 s0 h = some z) : Ev (d + 5) none mX11_unevenIn (0, 0) 69 [.null, .null, .null, .null] [.int s0] h (QI z) := 
  go_ok (X := none) (blk := wX11_unevenIn_69) (np := 70) (tt := 0) (kN := fun _ _ _ => none) (kT := fun _ _ _ => none) (kR := kRI)
    (fun _ _ _ q => nos q)
    (fun _ _ _ q => nos q)
    kRI_ok (Or.inr rfl) (by decide +kernel) (by decide +kernel) hf
def wX11_unevenIn_67 : List En := [(.iaload, 0, 0, 0), (.isub, 0, 0, 0)]
def fX11_unevenIn_67 (s0 : Int32) (s1 : Nat) (s2 : Int32) (h : aH) : Option (Int32 × aH) :=
  (aRI (h[s1]?) s0).bind fun t1 =>
  fX11_unevenIn_69 (s2 - t1) h
theorem tX11_unevenIn_67 {d : Nat} {z : Int32 × aH} (s0 : Int32) (s1 : Nat) (s2 : Int32) (h : aH) (hf : fX11_unevenIn_67 s0 s1 s2 h = some z) : Ev (d + 5) none mX11_unevenIn (0, 0) 67 [.null, .null, .null, .null] [.int s0, .ref s1, .int s2] h (QI z) := 
  go_ok (X := none) (blk := wX11_unevenIn_67) (np := 69) (tt := 0) (kN := fun xs h st => app [0, 0, 0, 0] (apS [1] (fun s0 => fX11_unevenIn_69 s0 h) st) xs) (kT := fun _ _ _ => none) (kR := kRI)
    (fun xs h st q => jm [0, 0, 0, 0] _ (fun q => apS_ok [1] _ (fun st => Ev (d + 5) none mX11_unevenIn (0, 0) 69 [.null, .null, .null, .null] st h (QI z)) st (fun s0 q => tX11_unevenIn_69 s0 h q) q) q)
    (fun _ _ _ q => nos q)
    kRI_ok (Or.inr rfl) (by decide +kernel) (by decide +kernel) hf
theorem kqX11_unevenIn_64 : okC mX11_unevenIn 64 (.invokevirtual 307) 246 263 0 2 = true := by decide +kernel
def fX11_unevenIn_64 (s0 : Int32) (s1 : Nat) (s2 : Nat) (s3 : Nat) (s4 : Int32) (h : aH) : Option (Int32 × aH) :=
  (isO h 11 s2).bind fun _ =>
  (gX11_hungriestOf s2 s1 s0 h).bind fun r =>
  fX11_unevenIn_67 r.1 s3 s4 r.2
theorem tX11_unevenIn_64 {d : Nat} {z : Int32 × aH} (s0 : Int32) (s1 : Nat) (s2 : Nat) (s3 : Nat) (s4 : Int32) (h : aH) (hf : fX11_unevenIn_64 s0 s1 s2 s3 s4 h = some z) : Ev (d + 5) none mX11_unevenIn (0, 0) 64 [.null, .null, .null, .null] [.int s0, .ref s1, .ref s2, .ref s3, .int s4] h (QI z) := by
  obtain ⟨_, h1, hf⟩ := bnd hf
  obtain ⟨fs, ho⟩ := isO_ok h1
  obtain ⟨r, h2, hf⟩ := bnd hf
  refine ev_V kqX11_unevenIn_64 jX11_hungriestOf (zX11_hungriestOf (d := d + 2) h2) ho rfl rfl (Nat.le_of_ble_eq_true rfl) rfl (as := [.ref s1, .int s0]) (rest := [.ref s3, .int s4]) rfl (Nat.le_of_ble_eq_true rfl) (fun _ _ hq => ?_)
  obtain ⟨rfl, rfl⟩ := hq
  exact jm [0, 0, 0, 0] (fX11_unevenIn_67 r.1 s3 s4 r.2) (fun q => tX11_unevenIn_67 r.1 s3 s4 r.2 q) hf
def wX11_unevenIn_48 : List En := [(.aload_n 0, 0, 0, 0), (.getfield 35, 195, 11, 20), (.iload_n 3, 0, 0, 0), (.iaload, 0, 0, 0), (.aload_n 0, 0, 0, 0), (.getfield 35, 195, 11, 20), (.aload_n 0, 0, 0, 0), (.aload_n 0, 0, 0, 0), (.getfield 35, 195, 11, 20), (.iconst 1, 0, 0, 0)]
def fX11_unevenIn_48 (v0 : Nat) (v3 : Int32) (h : aH) : Option (Int32 × aH) :=
  (gFR h 11 v0 20).bind fun t1 =>
  (aRI (h[t1]?) v3).bind fun t2 =>
  (gFR h 11 v0 20).bind fun t3 =>
  (gFR h 11 v0 20).bind fun t4 =>
  fX11_unevenIn_64 (kI 1) t4 v0 t3 t2 h
theorem tX11_unevenIn_48 {d : Nat} {z : Int32 × aH} (v0 : Nat) (v3 : Int32) (h : aH) (hf : fX11_unevenIn_48 v0 v3 h = some z) : Ev (d + 5) none mX11_unevenIn (0, 0) 48 [.ref v0, .null, .null, .int v3] [] h (QI z) := 
  go_ok (X := none) (blk := wX11_unevenIn_48) (np := 64) (tt := 0) (kN := fun xs h st => app [0, 0, 0, 0] (apS [1, 2, 2, 2, 1] (fun s0 s1 s2 s3 s4 => fX11_unevenIn_64 s0 s1 s2 s3 s4 h) st) xs) (kT := fun _ _ _ => none) (kR := kRI)
    (fun xs h st q => jm [0, 0, 0, 0] _ (fun q => apS_ok [1, 2, 2, 2, 1] _ (fun st => Ev (d + 5) none mX11_unevenIn (0, 0) 64 [.null, .null, .null, .null] st h (QI z)) st (fun s0 s1 s2 s3 s4 q => tX11_unevenIn_64 s0 s1 s2 s3 s4 h q) q) q)
    (fun _ _ _ q => nos q)
    kRI_ok (Or.inr rfl) (by decide +kernel) (by decide +kernel) hf
def wX11_unevenIn_44 : List En := [(.iconst 0, 0, 0, 0), (.goto 24, 69, 0, 0)]
def fX11_unevenIn_44 (h : aH) : Option (Int32 × aH) :=
  fX11_unevenIn_69 (kI 0) h
theorem tX11_unevenIn_44 {d : Nat} {z : Int32 × aH} (h : aH) (hf : fX11_unevenIn_44 h = some z) : Ev (d + 5) none mX11_unevenIn (0, 0) 44 [.null, .null, .null, .null] [] h (QI z) := 
  go_ok (X := none) (blk := wX11_unevenIn_44) (np := 48) (tt := 69) (kN := fun _ _ _ => none) (kT := fun xs h st => app [0, 0, 0, 0] (apS [1] (fun s0 => fX11_unevenIn_69 s0 h) st) xs) (kR := kRI)
    (fun _ _ _ q => nos q)
    (fun xs h st q => jm [0, 0, 0, 0] _ (fun q => apS_ok [1] _ (fun st => Ev (d + 5) none mX11_unevenIn (0, 0) 69 [.null, .null, .null, .null] st h (QI z)) st (fun s0 q => tX11_unevenIn_69 s0 h q) q) q)
    kRI_ok (Or.inr rfl) (by decide +kernel) (by decide +kernel) hf
def wX11_unevenIn_39 : List En := [(.istore_n 3, 0, 0, 0), (.iload_n 3, 0, 0, 0), (.ifCond .ge 7, 48, 0, 0)]
def fX11_unevenIn_39 (v0 : Nat) (s0 : Int32) (h : aH) : Option (Int32 × aH) :=
  if s0 < 0 then fX11_unevenIn_44 h else fX11_unevenIn_48 v0 s0 h
theorem tX11_unevenIn_39 {d : Nat} {z : Int32 × aH} (v0 : Nat) (s0 : Int32) (h : aH) (hf : fX11_unevenIn_39 v0 s0 h = some z) : Ev (d + 5) none mX11_unevenIn (0, 0) 39 [.ref v0, .null, .null, .null] [.int s0] h (QI z) := 
  go_ok (X := none) (blk := wX11_unevenIn_39) (np := 44) (tt := 48) (kN := fun xs h st => app [0, 0, 0, 0] (apS [] (fX11_unevenIn_44 h) st) xs) (kT := fun xs h st => app [2, 0, 0, 1] (fun v0 v3 => apS [] (fX11_unevenIn_48 v0 v3 h) st) xs) (kR := kRI)
    (fun xs h st q => jm [0, 0, 0, 0] _ (fun q => apS_ok [] _ (fun st => Ev (d + 5) none mX11_unevenIn (0, 0) 44 [.null, .null, .null, .null] st h (QI z)) st (fun q => tX11_unevenIn_44 h q) q) q)
    (fun xs h st q => jm [2, 0, 0, 1] _ (fun v0 v3 q => apS_ok [] _ (fun st => Ev (d + 5) none mX11_unevenIn (0, 0) 48 [.ref v0, .null, .null, .int v3] st h (QI z)) st (fun q => tX11_unevenIn_48 v0 v3 h q) q) q)
    kRI_ok (Or.inr rfl) (by decide +kernel) (by decide +kernel) hf
theorem kqX11_unevenIn_36 : okC mX11_unevenIn 36 (.invokevirtual 307) 246 263 0 2 = true := by decide +kernel
def fX11_unevenIn_36 (v0 : Nat) (s0 : Int32) (s1 : Nat) (s2 : Nat) (h : aH) : Option (Int32 × aH) :=
  (isO h 11 s2).bind fun _ =>
  (gX11_hungriestOf s2 s1 s0 h).bind fun r =>
  fX11_unevenIn_39 v0 r.1 r.2
theorem tX11_unevenIn_36 {d : Nat} {z : Int32 × aH} (v0 : Nat) (s0 : Int32) (s1 : Nat) (s2 : Nat) (h : aH) (hf : fX11_unevenIn_36 v0 s0 s1 s2 h = some z) : Ev (d + 5) none mX11_unevenIn (0, 0) 36 [.ref v0, .null, .null, .null] [.int s0, .ref s1, .ref s2] h (QI z) := by
  obtain ⟨_, h1, hf⟩ := bnd hf
  obtain ⟨fs, ho⟩ := isO_ok h1
  obtain ⟨r, h2, hf⟩ := bnd hf
  refine ev_V kqX11_unevenIn_36 jX11_hungriestOf (zX11_hungriestOf (d := d + 2) h2) ho rfl rfl (Nat.le_of_ble_eq_true rfl) rfl (as := [.ref s1, .int s0]) (rest := []) rfl (Nat.le_of_ble_eq_true rfl) (fun _ _ hq => ?_)
  obtain ⟨rfl, rfl⟩ := hq
  exact jm [2, 0, 0, 0] (fun v0 => fX11_unevenIn_39 v0 r.1 r.2) (fun v0 q => tX11_unevenIn_39 v0 r.1 r.2 q) hf
def wX11_unevenIn_30 : List En := [(.aload_n 0, 0, 0, 0), (.aload_n 0, 0, 0, 0), (.getfield 35, 195, 11, 20), (.iconst 0, 0, 0, 0)]
def fX11_unevenIn_30 (v0 : Nat) (h : aH) : Option (Int32 × aH) :=
  (gFR h 11 v0 20).bind fun t1 =>
  fX11_unevenIn_36 v0 (kI 0) t1 v0 h
theorem tX11_unevenIn_30 {d : Nat} {z : Int32 × aH} (v0 : Nat) (h : aH) (hf : fX11_unevenIn_30 v0 h = some z) : Ev (d + 5) none mX11_unevenIn (0, 0) 30 [.ref v0, .null, .null, .null] [] h (QI z) := 
  go_ok (X := none) (blk := wX11_unevenIn_30) (np := 36) (tt := 0) (kN := fun xs h st => app [2, 0, 0, 0] (fun v0 => apS [1, 2, 2] (fun s0 s1 s2 => fX11_unevenIn_36 v0 s0 s1 s2 h) st) xs) (kT := fun _ _ _ => none) (kR := kRI)
    (fun xs h st q => jm [2, 0, 0, 0] _ (fun v0 q => apS_ok [1, 2, 2] _ (fun st => Ev (d + 5) none mX11_unevenIn (0, 0) 36 [.ref v0, .null, .null, .null] st h (QI z)) st (fun s0 s1 s2 q => tX11_unevenIn_36 v0 s0 s1 s2 h q) q) q)
    (fun _ _ _ q => nos q)
    kRI_ok (Or.inr rfl) (by decide +kernel) (by decide +kernel) hf
theorem kqX11_unevenIn_27 : okC mX11_unevenIn 27 (.invokevirtual 294) 227 244 0 1 = true := by decide +kernel
def fX11_unevenIn_27 (v0 : Nat) (s0 : Int32) (s1 : Nat) (h : aH) : Option (Int32 × aH) :=
  (isO h 11 s1).bind fun _ =>
  (gX11_daysOn s1 s0 h).bind fun r =>
  fX11_unevenIn_30 v0 r
theorem tX11_unevenIn_27 {d : Nat} {z : Int32 × aH} (v0 : Nat) (s0 : Int32) (s1 : Nat) (h : aH) (hf : fX11_unevenIn_27 v0 s0 s1 h = some z) : Ev (d + 5) none mX11_unevenIn (0, 0) 27 [.ref v0, .null, .null, .null] [.int s0, .ref s1] h (QI z) := by
  obtain ⟨_, h1, hf⟩ := bnd hf
  obtain ⟨fs, ho⟩ := isO_ok h1
  obtain ⟨r, h2, hf⟩ := bnd hf
  refine ev_V kqX11_unevenIn_27 jX11_daysOn (zX11_daysOn (d := d + 0) h2) ho rfl rfl (Nat.le_of_ble_eq_true rfl) rfl (as := [.int s0]) (rest := []) rfl (Nat.le_of_ble_eq_true rfl) (fun _ _ hq => ?_)
  obtain ⟨rfl, hh⟩ := hq
  rw [hh]
  exact jm [2, 0, 0, 0] (fun v0 => fX11_unevenIn_30 v0 r) (fun v0 q => tX11_unevenIn_30 v0 r q) hf
def wX11_unevenIn_25 : List En := [(.aload_n 0, 0, 0, 0), (.iload_n 1, 0, 0, 0)]
def fX11_unevenIn_25 (v0 : Nat) (v1 : Int32) (h : aH) : Option (Int32 × aH) :=
  fX11_unevenIn_27 v0 v1 v0 h
theorem tX11_unevenIn_25 {d : Nat} {z : Int32 × aH} (v0 : Nat) (v1 : Int32) (h : aH) (hf : fX11_unevenIn_25 v0 v1 h = some z) : Ev (d + 5) none mX11_unevenIn (0, 0) 25 [.ref v0, .int v1, .null, .null] [] h (QI z) := 
  go_ok (X := none) (blk := wX11_unevenIn_25) (np := 27) (tt := 0) (kN := fun xs h st => app [2, 0, 0, 0] (fun v0 => apS [1, 2] (fun s0 s1 => fX11_unevenIn_27 v0 s0 s1 h) st) xs) (kT := fun _ _ _ => none) (kR := kRI)
    (fun xs h st q => jm [2, 0, 0, 0] _ (fun v0 q => apS_ok [1, 2] _ (fun st => Ev (d + 5) none mX11_unevenIn (0, 0) 27 [.ref v0, .null, .null, .null] st h (QI z)) st (fun s0 s1 q => tX11_unevenIn_27 v0 s0 s1 h q) q) q)
    (fun _ _ _ q => nos q)
    kRI_ok (Or.inr rfl) (by decide +kernel) (by decide +kernel) hf
def wX11_unevenIn_24 : List En := [(.ireturn, 0, 0, 0)]
def fX11_unevenIn_24 (s0 : Int32) (h : aH) : Option (Int32 × aH) :=
  some (s0, h)
theorem tX11_unevenIn_24 {d : Nat} {z : Int32 × aH} (s0 : Int32) (h : aH) (hf : fX11_unevenIn_24 s0 h = some z) : Ev (d + 5) none mX11_unevenIn (0, 0) 24 [.null, .null, .null, .null] [.int s0] h (QI z) := 
  go_ok (X := none) (blk := wX11_unevenIn_24) (np := 25) (tt := 0) (kN := fun _ _ _ => none) (kT := fun _ _ _ => none) (kR := kRI)
    (fun _ _ _ q => nos q)
    (fun _ _ _ q => nos q)
    kRI_ok (Or.inr rfl) (by decide +kernel) (by decide +kernel) hf
theorem kqX11_unevenIn_21 : okC mX11_unevenIn 21 (.invokevirtual 164) 183 198 0 1 = true := by decide +kernel
def fX11_unevenIn_21 (s0 : Int32) (s1 : Nat) (h : aH) : Option (Int32 × aH) :=
  (isO h 11 s1).bind fun _ =>
  (gX11_no s1 s0 h).bind fun r =>
  fX11_unevenIn_24 r.1 r.2
theorem tX11_unevenIn_21 {d : Nat} {z : Int32 × aH} (s0 : Int32) (s1 : Nat) (h : aH) (hf : fX11_unevenIn_21 s0 s1 h = some z) : Ev (d + 5) none mX11_unevenIn (0, 0) 21 [.null, .null, .null, .null] [.int s0, .ref s1] h (QI z) := by
  obtain ⟨_, h1, hf⟩ := bnd hf
  obtain ⟨fs, ho⟩ := isO_ok h1
  obtain ⟨r, h2, hf⟩ := bnd hf
  refine ev_V kqX11_unevenIn_21 jX11_no (zX11_no (d := d + 4) h2) ho rfl rfl (Nat.le_of_ble_eq_true rfl) rfl (as := [.int s0]) (rest := []) rfl (Nat.le_of_ble_eq_true rfl) (fun _ _ hq => ?_)
  obtain ⟨rfl, rfl⟩ := hq
  exact jm [0, 0, 0, 0] (fX11_unevenIn_24 r.1 r.2) (fun q => tX11_unevenIn_24 r.1 r.2 q) hf
def wX11_unevenIn_19 : List En := [(.aload_n 0, 0, 0, 0), (.iload_n 2, 0, 0, 0)]
def fX11_unevenIn_19 (v0 : Nat) (v2 : Int32) (h : aH) : Option (Int32 × aH) :=
  fX11_unevenIn_21 v2 v0 h
theorem tX11_unevenIn_19 {d : Nat} {z : Int32 × aH} (v0 : Nat) (v2 : Int32) (h : aH) (hf : fX11_unevenIn_19 v0 v2 h = some z) : Ev (d + 5) none mX11_unevenIn (0, 0) 19 [.ref v0, .null, .int v2, .null] [] h (QI z) := 
  go_ok (X := none) (blk := wX11_unevenIn_19) (np := 21) (tt := 0) (kN := fun xs h st => app [0, 0, 0, 0] (apS [1, 2] (fun s0 s1 => fX11_unevenIn_21 s0 s1 h) st) xs) (kT := fun _ _ _ => none) (kR := kRI)
    (fun xs h st q => jm [0, 0, 0, 0] _ (fun q => apS_ok [1, 2] _ (fun st => Ev (d + 5) none mX11_unevenIn (0, 0) 21 [.null, .null, .null, .null] st h (QI z)) st (fun s0 s1 q => tX11_unevenIn_21 s0 s1 h q) q) q)
    (fun _ _ _ q => nos q)
    kRI_ok (Or.inr rfl) (by decide +kernel) (by decide +kernel) hf
def wX11_unevenIn_14 : List En := [(.istore_n 2, 0, 0, 0), (.iload_n 2, 0, 0, 0), (.ifCond .eq 9, 25, 0, 0)]
def fX11_unevenIn_14 (v0 : Nat) (v1 : Int32) (s0 : Int32) (h : aH) : Option (Int32 × aH) :=
  if s0 = 0 then fX11_unevenIn_25 v0 v1 h else fX11_unevenIn_19 v0 s0 h
theorem tX11_unevenIn_14 {d : Nat} {z : Int32 × aH} (v0 : Nat) (v1 : Int32) (s0 : Int32) (h : aH) (hf : fX11_unevenIn_14 v0 v1 s0 h = some z) : Ev (d + 5) none mX11_unevenIn (0, 0) 14 [.ref v0, .int v1, .null, .null] [.int s0] h (QI z) := 
  go_ok (X := none) (blk := wX11_unevenIn_14) (np := 19) (tt := 25) (kN := fun xs h st => app [2, 0, 1, 0] (fun v0 v2 => apS [] (fX11_unevenIn_19 v0 v2 h) st) xs) (kT := fun xs h st => app [2, 1, 0, 0] (fun v0 v1 => apS [] (fX11_unevenIn_25 v0 v1 h) st) xs) (kR := kRI)
    (fun xs h st q => jm [2, 0, 1, 0] _ (fun v0 v2 q => apS_ok [] _ (fun st => Ev (d + 5) none mX11_unevenIn (0, 0) 19 [.ref v0, .null, .int v2, .null] st h (QI z)) st (fun q => tX11_unevenIn_19 v0 v2 h q) q) q)
    (fun xs h st q => jm [2, 1, 0, 0] _ (fun v0 v1 q => apS_ok [] _ (fun st => Ev (d + 5) none mX11_unevenIn (0, 0) 25 [.ref v0, .int v1, .null, .null] st h (QI z)) st (fun q => tX11_unevenIn_25 v0 v1 h q) q) q)
    kRI_ok (Or.inr rfl) (by decide +kernel) (by decide +kernel) hf
theorem kqX11_unevenIn_11 : okC mX11_unevenIn 11 (.invokevirtual 300) 239 256 0 3 = true := by decide +kernel
def fX11_unevenIn_11 (v0 : Nat) (v1 : Int32) (s0 : Int32) (s1 : Int32) (s2 : Int32) (s3 : Nat) (h : aH) : Option (Int32 × aH) :=
  (isO h 11 s3).bind fun _ =>
  (gX11_aheadWhy s3 s2 s1 s0 h).bind fun r =>
  fX11_unevenIn_14 v0 v1 r.1 r.2
theorem tX11_unevenIn_11 {d : Nat} {z : Int32 × aH} (v0 : Nat) (v1 : Int32) (s0 : Int32) (s1 : Int32) (s2 : Int32) (s3 : Nat) (h : aH) (hf : fX11_unevenIn_11 v0 v1 s0 s1 s2 s3 h = some z) : Ev (d + 5) none mX11_unevenIn (0, 0) 11 [.ref v0, .int v1, .null, .null] [.int s0, .int s1, .int s2, .ref s3] h (QI z) := by
  obtain ⟨_, h1, hf⟩ := bnd hf
  obtain ⟨fs, ho⟩ := isO_ok h1
  obtain ⟨r, h2, hf⟩ := bnd hf
  refine ev_V kqX11_unevenIn_11 jX11_aheadWhy (zX11_aheadWhy (d := d + 3) h2) ho rfl rfl (Nat.le_of_ble_eq_true rfl) rfl (as := [.int s2, .int s1, .int s0]) (rest := []) rfl (Nat.le_of_ble_eq_true rfl) (fun _ _ hq => ?_)
  obtain ⟨rfl, rfl⟩ := hq
  exact jm [2, 1, 0, 0] (fun v0 v1 => fX11_unevenIn_14 v0 v1 r.1 r.2) (fun v0 v1 q => tX11_unevenIn_14 v0 v1 r.1 r.2 q) hf
def wX11_unevenIn_4 : List En := [(.aload_n 0, 0, 0, 0), (.aload_n 0, 0, 0, 0), (.getfield 174, 189, 11, 14), (.iconst 0, 0, 0, 0), (.iload_n 1, 0, 0, 0)]
def fX11_unevenIn_4 (v0 : Nat) (v1 : Int32) (h : aH) : Option (Int32 × aH) :=
  (gFI h 11 v0 14).bind fun t1 =>
  fX11_unevenIn_11 v0 v1 v1 (kI 0) t1 v0 h
theorem tX11_unevenIn_4 {d : Nat} {z : Int32 × aH} (v0 : Nat) (v1 : Int32) (h : aH) (hf : fX11_unevenIn_4 v0 v1 h = some z) : Ev (d + 5) none mX11_unevenIn (0, 0) 4 [.ref v0, .int v1, .null, .null] [] h (QI z) := 
  go_ok (X := none) (blk := wX11_unevenIn_4) (np := 11) (tt := 0) (kN := fun xs h st => app [2, 1, 0, 0] (fun v0 v1 => apS [1, 1, 1, 2] (fun s0 s1 s2 s3 => fX11_unevenIn_11 v0 v1 s0 s1 s2 s3 h) st) xs) (kT := fun _ _ _ => none) (kR := kRI)
    (fun xs h st q => jm [2, 1, 0, 0] _ (fun v0 v1 q => apS_ok [1, 1, 1, 2] _ (fun st => Ev (d + 5) none mX11_unevenIn (0, 0) 11 [.ref v0, .int v1, .null, .null] st h (QI z)) st (fun s0 s1 s2 s3 q => tX11_unevenIn_11 v0 v1 s0 s1 s2 s3 h q) q) q)
    (fun _ _ _ q => nos q)
    kRI_ok (Or.inr rfl) (by decide +kernel) (by decide +kernel) hf
theorem kqX11_unevenIn_1 : okC mX11_unevenIn 1 (.invokevirtual 161) 181 196 0 0 = true := by decide +kernel
def fX11_unevenIn_1 (v0 : Nat) (v1 : Int32) (s0 : Nat) (h : aH) : Option (Int32 × aH) :=
  (isO h 11 s0).bind fun _ =>
  (gX11_anew s0 h).bind fun r =>
  fX11_unevenIn_4 v0 v1 r
theorem tX11_unevenIn_1 {d : Nat} {z : Int32 × aH} (v0 : Nat) (v1 : Int32) (s0 : Nat) (h : aH) (hf : fX11_unevenIn_1 v0 v1 s0 h = some z) : Ev (d + 5) none mX11_unevenIn (0, 0) 1 [.ref v0, .int v1, .null, .null] [.ref s0] h (QI z) := by
  obtain ⟨_, h1, hf⟩ := bnd hf
  obtain ⟨fs, ho⟩ := isO_ok h1
  obtain ⟨r, h2, hf⟩ := bnd hf
  refine ev_V kqX11_unevenIn_1 jX11_anew (zX11_anew (d := d + 4) h2) ho rfl rfl (Nat.le_of_ble_eq_true rfl) rfl (as := []) (rest := []) rfl (Nat.le_of_ble_eq_true rfl) (fun _ _ hq => ?_)
  obtain ⟨rfl, hh⟩ := hq
  rw [hh]
  exact jm [2, 1, 0, 0] (fun v0 v1 => fX11_unevenIn_4 v0 v1 r) (fun v0 v1 q => tX11_unevenIn_4 v0 v1 r q) hf
def wX11_unevenIn_0 : List En := [(.aload_n 0, 0, 0, 0)]
def fX11_unevenIn_0 (v0 : Nat) (v1 : Int32) (h : aH) : Option (Int32 × aH) :=
  fX11_unevenIn_1 v0 v1 v0 h
theorem tX11_unevenIn_0 {d : Nat} {z : Int32 × aH} (v0 : Nat) (v1 : Int32) (h : aH) (hf : fX11_unevenIn_0 v0 v1 h = some z) : Ev (d + 5) none mX11_unevenIn (0, 0) 0 [.ref v0, .int v1, .null, .null] [] h (QI z) := 
  go_ok (X := none) (blk := wX11_unevenIn_0) (np := 1) (tt := 0) (kN := fun xs h st => app [2, 1, 0, 0] (fun v0 v1 => apS [2] (fun s0 => fX11_unevenIn_1 v0 v1 s0 h) st) xs) (kT := fun _ _ _ => none) (kR := kRI)
    (fun xs h st q => jm [2, 1, 0, 0] _ (fun v0 v1 q => apS_ok [2] _ (fun st => Ev (d + 5) none mX11_unevenIn (0, 0) 1 [.ref v0, .int v1, .null, .null] st h (QI z)) st (fun s0 q => tX11_unevenIn_1 v0 v1 s0 h q) q) q)
    (fun _ _ _ q => nos q)
    kRI_ok (Or.inr rfl) (by decide +kernel) (by decide +kernel) hf
def gX11_unevenIn (v0 : Nat) (v1 : Int32) (h : aH) : Option (Int32 × aH) := fX11_unevenIn_0 v0 v1 h
theorem zX11_unevenIn {d : Nat} {z : Int32 × aH} {v0 : Nat} {v1 : Int32} {h : aH} (q : gX11_unevenIn v0 v1 h = some z) : CT (d + 5) mX11_unevenIn (0, 0) [.ref v0, .int v1] h (QI z) :=
  ct_ev (by decide +kernel) (Nat.le_of_ble_eq_true rfl) QI_r (jm [2, 1, 0, 0] (fun v0 v1 => fX11_unevenIn_0 v0 v1 h) (fun v0 v1 q => tX11_unevenIn_0 v0 v1 h q) q)
def wX11_deadIn_60 : List En := [(.bipush (-2), 0, 0, 0), (.ireturn, 0, 0, 0)]
def fX11_deadIn_60 (h : aH) : Option (Int32 × aH) :=
  some ((kB (-2)), h)
theorem tX11_deadIn_60 {d : Nat} {z : Int32 × aH} (h : aH) (hf : fX11_deadIn_60 h = some z) : Ev (d + 4) none mX11_deadIn (0, 0) 60 [.null, .null, .null] [] h (QI z) := 
  go_ok (X := none) (blk := wX11_deadIn_60) (np := 63) (tt := 0) (kN := fun _ _ _ => none) (kT := fun _ _ _ => none) (kR := kRI)
    (fun _ _ _ q => nos q)
    (fun _ _ _ q => nos q)
    kRI_ok (Or.inr rfl) (by decide +kernel) (by decide +kernel) hf
def wX11_deadIn_54 : List En := [(.iinc 2 1, 0, 0, 0), (.goto (-33), 24, 0, 0)]
def fX11_deadIn_54 (k24 : Nat → Int32 → Int32 → aH → Option (Int32 × aH)) (v0 : Nat) (v1 : Int32) (v2 : Int32) (h : aH) : Option (Int32 × aH) :=
  k24 v0 v1 (v2 + kI 1) h
theorem tX11_deadIn_54 {d : Nat} {z : Int32 × aH} {k24 : Nat → Int32 → Int32 → aH → Option (Int32 × aH)} (hk24 : ∀ (v0 : Nat) (v1 : Int32) (v2 : Int32) (h : aH), k24 v0 v1 v2 h = some z → Ev (d + 4) none mX11_deadIn (0, 0) 24 [.ref v0, .int v1, .int v2] [] h (QI z)) (v0 : Nat) (v1 : Int32) (v2 : Int32) (h : aH) (hf : fX11_deadIn_54 k24 v0 v1 v2 h = some z) : Ev (d + 4) none mX11_deadIn (0, 0) 54 [.ref v0, .int v1, .int v2] [] h (QI z) := 
  go_ok (X := none) (blk := wX11_deadIn_54) (np := 60) (tt := 24) (kN := fun _ _ _ => none) (kT := fun xs h st => app [2, 1, 1] (fun v0 v1 v2 => apS [] (k24 v0 v1 v2 h) st) xs) (kR := kRI)
    (fun _ _ _ q => nos q)
    (fun xs h st q => jm [2, 1, 1] _ (fun v0 v1 v2 q => apS_ok [] _ (fun st => Ev (d + 4) none mX11_deadIn (0, 0) 24 [.ref v0, .int v1, .int v2] st h (QI z)) st (fun q => hk24 v0 v1 v2 h q) q) q)
    kRI_ok (Or.inr rfl) (by decide +kernel) (by decide +kernel) hf
theorem kqX11_deadIn_51 : okC mX11_deadIn 51 (.invokevirtual 281) 228 245 0 3 = true := by decide +kernel
def fX11_deadIn_51 (k24 : Nat → Int32 → Int32 → aH → Option (Int32 × aH)) (v0 : Nat) (v1 : Int32) (v2 : Int32) (s0 : Int32) (s1 : Int32) (s2 : Nat) (s3 : Nat) (h : aH) : Option (Int32 × aH) :=
  (isO h 11 s3).bind fun _ =>
  (gX11_dayOn s3 s2 s1 s0 h).bind fun r =>
  fX11_deadIn_54 k24 v0 v1 v2 r
theorem tX11_deadIn_51 {d : Nat} {z : Int32 × aH} {k24 : Nat → Int32 → Int32 → aH → Option (Int32 × aH)} (hk24 : ∀ (v0 : Nat) (v1 : Int32) (v2 : Int32) (h : aH), k24 v0 v1 v2 h = some z → Ev (d + 4) none mX11_deadIn (0, 0) 24 [.ref v0, .int v1, .int v2] [] h (QI z)) (v0 : Nat) (v1 : Int32) (v2 : Int32) (s0 : Int32) (s1 : Int32) (s2 : Nat) (s3 : Nat) (h : aH) (hf : fX11_deadIn_51 k24 v0 v1 v2 s0 s1 s2 s3 h = some z) : Ev (d + 4) none mX11_deadIn (0, 0) 51 [.ref v0, .int v1, .int v2] [.int s0, .int s1, .ref s2, .ref s3] h (QI z) := by
  obtain ⟨_, h1, hf⟩ := bnd hf
  obtain ⟨fs, ho⟩ := isO_ok h1
  obtain ⟨r, h2, hf⟩ := bnd hf
  refine ev_V kqX11_deadIn_51 jX11_dayOn (zX11_dayOn (d := d + 0) h2) ho rfl rfl (Nat.le_of_ble_eq_true rfl) rfl (as := [.ref s2, .int s1, .int s0]) (rest := []) rfl (Nat.le_of_ble_eq_true rfl) (fun _ _ hq => ?_)
  obtain ⟨rfl, hh⟩ := hq
  rw [hh]
  exact jm [2, 1, 1] (fun v0 v1 v2 => fX11_deadIn_54 k24 v0 v1 v2 r) (fun v0 v1 v2 q => tX11_deadIn_54 hk24 v0 v1 v2 r q) hf
def wX11_deadIn_44 : List En := [(.aload_n 0, 0, 0, 0), (.aload_n 0, 0, 0, 0), (.getfield 35, 195, 11, 20), (.iconst 0, 0, 0, 0), (.iconst 0, 0, 0, 0)]
def fX11_deadIn_44 (k24 : Nat → Int32 → Int32 → aH → Option (Int32 × aH)) (v0 : Nat) (v1 : Int32) (v2 : Int32) (h : aH) : Option (Int32 × aH) :=
  (gFR h 11 v0 20).bind fun t1 =>
  fX11_deadIn_51 k24 v0 v1 v2 (kI 0) (kI 0) t1 v0 h
theorem tX11_deadIn_44 {d : Nat} {z : Int32 × aH} {k24 : Nat → Int32 → Int32 → aH → Option (Int32 × aH)} (hk24 : ∀ (v0 : Nat) (v1 : Int32) (v2 : Int32) (h : aH), k24 v0 v1 v2 h = some z → Ev (d + 4) none mX11_deadIn (0, 0) 24 [.ref v0, .int v1, .int v2] [] h (QI z)) (v0 : Nat) (v1 : Int32) (v2 : Int32) (h : aH) (hf : fX11_deadIn_44 k24 v0 v1 v2 h = some z) : Ev (d + 4) none mX11_deadIn (0, 0) 44 [.ref v0, .int v1, .int v2] [] h (QI z) := 
  go_ok (X := none) (blk := wX11_deadIn_44) (np := 51) (tt := 0) (kN := fun xs h st => app [2, 1, 1] (fun v0 v1 v2 => apS [1, 1, 2, 2] (fun s0 s1 s2 s3 => fX11_deadIn_51 k24 v0 v1 v2 s0 s1 s2 s3 h) st) xs) (kT := fun _ _ _ => none) (kR := kRI)
    (fun xs h st q => jm [2, 1, 1] _ (fun v0 v1 v2 q => apS_ok [1, 1, 2, 2] _ (fun st => Ev (d + 4) none mX11_deadIn (0, 0) 51 [.ref v0, .int v1, .int v2] st h (QI z)) st (fun s0 s1 s2 s3 q => tX11_deadIn_51 hk24 v0 v1 v2 s0 s1 s2 s3 h q) q) q)
    (fun _ _ _ q => nos q)
    kRI_ok (Or.inr rfl) (by decide +kernel) (by decide +kernel) hf
def wX11_deadIn_42 : List En := [(.iload_n 2, 0, 0, 0), (.ireturn, 0, 0, 0)]
def fX11_deadIn_42 (v2 : Int32) (h : aH) : Option (Int32 × aH) :=
  some (v2, h)
theorem tX11_deadIn_42 {d : Nat} {z : Int32 × aH} (v2 : Int32) (h : aH) (hf : fX11_deadIn_42 v2 h = some z) : Ev (d + 4) none mX11_deadIn (0, 0) 42 [.null, .null, .int v2] [] h (QI z) := 
  go_ok (X := none) (blk := wX11_deadIn_42) (np := 44) (tt := 0) (kN := fun _ _ _ => none) (kT := fun _ _ _ => none) (kR := kRI)
    (fun _ _ _ q => nos q)
    (fun _ _ _ q => nos q)
    kRI_ok (Or.inr rfl) (by decide +kernel) (by decide +kernel) hf
def wX11_deadIn_39 : List En := [(.ifCond .ne 5, 44, 0, 0)]
def fX11_deadIn_39 (k24 : Nat → Int32 → Int32 → aH → Option (Int32 × aH)) (v0 : Nat) (v1 : Int32) (v2 : Int32) (s0 : Int32) (h : aH) : Option (Int32 × aH) :=
  if s0 = 0 then fX11_deadIn_42 v2 h else fX11_deadIn_44 k24 v0 v1 v2 h
theorem tX11_deadIn_39 {d : Nat} {z : Int32 × aH} {k24 : Nat → Int32 → Int32 → aH → Option (Int32 × aH)} (hk24 : ∀ (v0 : Nat) (v1 : Int32) (v2 : Int32) (h : aH), k24 v0 v1 v2 h = some z → Ev (d + 4) none mX11_deadIn (0, 0) 24 [.ref v0, .int v1, .int v2] [] h (QI z)) (v0 : Nat) (v1 : Int32) (v2 : Int32) (s0 : Int32) (h : aH) (hf : fX11_deadIn_39 k24 v0 v1 v2 s0 h = some z) : Ev (d + 4) none mX11_deadIn (0, 0) 39 [.ref v0, .int v1, .int v2] [.int s0] h (QI z) := 
  go_ok (X := none) (blk := wX11_deadIn_39) (np := 42) (tt := 44) (kN := fun xs h st => app [0, 0, 1] (fun v2 => apS [] (fX11_deadIn_42 v2 h) st) xs) (kT := fun xs h st => app [2, 1, 1] (fun v0 v1 v2 => apS [] (fX11_deadIn_44 k24 v0 v1 v2 h) st) xs) (kR := kRI)
    (fun xs h st q => jm [0, 0, 1] _ (fun v2 q => apS_ok [] _ (fun st => Ev (d + 4) none mX11_deadIn (0, 0) 42 [.null, .null, .int v2] st h (QI z)) st (fun q => tX11_deadIn_42 v2 h q) q) q)
    (fun xs h st q => jm [2, 1, 1] _ (fun v0 v1 v2 q => apS_ok [] _ (fun st => Ev (d + 4) none mX11_deadIn (0, 0) 44 [.ref v0, .int v1, .int v2] st h (QI z)) st (fun q => tX11_deadIn_44 hk24 v0 v1 v2 h q) q) q)
    kRI_ok (Or.inr rfl) (by decide +kernel) (by decide +kernel) hf
theorem kqX11_deadIn_36 : okC mX11_deadIn 36 (.invokevirtual 249) 221 238 0 2 = true := by decide +kernel
def fX11_deadIn_36 (k24 : Nat → Int32 → Int32 → aH → Option (Int32 × aH)) (v0 : Nat) (v1 : Int32) (v2 : Int32) (s0 : Int32) (s1 : Nat) (s2 : Nat) (h : aH) : Option (Int32 × aH) :=
  (isO h 11 s2).bind fun _ =>
  (gX11_lives s2 s1 s0 h).bind fun r =>
  fX11_deadIn_39 k24 v0 v1 v2 r.1 r.2
theorem tX11_deadIn_36 {d : Nat} {z : Int32 × aH} {k24 : Nat → Int32 → Int32 → aH → Option (Int32 × aH)} (hk24 : ∀ (v0 : Nat) (v1 : Int32) (v2 : Int32) (h : aH), k24 v0 v1 v2 h = some z → Ev (d + 4) none mX11_deadIn (0, 0) 24 [.ref v0, .int v1, .int v2] [] h (QI z)) (v0 : Nat) (v1 : Int32) (v2 : Int32) (s0 : Int32) (s1 : Nat) (s2 : Nat) (h : aH) (hf : fX11_deadIn_36 k24 v0 v1 v2 s0 s1 s2 h = some z) : Ev (d + 4) none mX11_deadIn (0, 0) 36 [.ref v0, .int v1, .int v2] [.int s0, .ref s1, .ref s2] h (QI z) := by
  obtain ⟨_, h1, hf⟩ := bnd hf
  obtain ⟨fs, ho⟩ := isO_ok h1
  obtain ⟨r, h2, hf⟩ := bnd hf
  refine ev_V kqX11_deadIn_36 jX11_lives (zX11_lives (d := d + 2) h2) ho rfl rfl (Nat.le_of_ble_eq_true rfl) rfl (as := [.ref s1, .int s0]) (rest := []) rfl (Nat.le_of_ble_eq_true rfl) (fun _ _ hq => ?_)
  obtain ⟨-, rfl, rfl⟩ := hq
  exact jm [2, 1, 1] (fun v0 v1 v2 => fX11_deadIn_39 k24 v0 v1 v2 r.1 r.2) (fun v0 v1 v2 q => tX11_deadIn_39 hk24 v0 v1 v2 r.1 r.2 q) hf
def wX11_deadIn_30 : List En := [(.aload_n 0, 0, 0, 0), (.aload_n 0, 0, 0, 0), (.getfield 35, 195, 11, 20), (.iload_n 1, 0, 0, 0)]
def fX11_deadIn_30 (k24 : Nat → Int32 → Int32 → aH → Option (Int32 × aH)) (v0 : Nat) (v1 : Int32) (v2 : Int32) (h : aH) : Option (Int32 × aH) :=
  (gFR h 11 v0 20).bind fun t1 =>
  fX11_deadIn_36 k24 v0 v1 v2 v1 t1 v0 h
theorem tX11_deadIn_30 {d : Nat} {z : Int32 × aH} {k24 : Nat → Int32 → Int32 → aH → Option (Int32 × aH)} (hk24 : ∀ (v0 : Nat) (v1 : Int32) (v2 : Int32) (h : aH), k24 v0 v1 v2 h = some z → Ev (d + 4) none mX11_deadIn (0, 0) 24 [.ref v0, .int v1, .int v2] [] h (QI z)) (v0 : Nat) (v1 : Int32) (v2 : Int32) (h : aH) (hf : fX11_deadIn_30 k24 v0 v1 v2 h = some z) : Ev (d + 4) none mX11_deadIn (0, 0) 30 [.ref v0, .int v1, .int v2] [] h (QI z) := 
  go_ok (X := none) (blk := wX11_deadIn_30) (np := 36) (tt := 0) (kN := fun xs h st => app [2, 1, 1] (fun v0 v1 v2 => apS [1, 2, 2] (fun s0 s1 s2 => fX11_deadIn_36 k24 v0 v1 v2 s0 s1 s2 h) st) xs) (kT := fun _ _ _ => none) (kR := kRI)
    (fun xs h st q => jm [2, 1, 1] _ (fun v0 v1 v2 q => apS_ok [1, 2, 2] _ (fun st => Ev (d + 4) none mX11_deadIn (0, 0) 36 [.ref v0, .int v1, .int v2] st h (QI z)) st (fun s0 s1 s2 q => tX11_deadIn_36 hk24 v0 v1 v2 s0 s1 s2 h q) q) q)
    (fun _ _ _ q => nos q)
    kRI_ok (Or.inr rfl) (by decide +kernel) (by decide +kernel) hf
def wX11_deadIn_24 : List En := [(.iload_n 2, 0, 0, 0), (.bipush 60, 0, 0, 0), (.if_icmp .gt 33, 60, 0, 0)]
def fX11_deadIn_24 (k24 : Nat → Int32 → Int32 → aH → Option (Int32 × aH)) (v0 : Nat) (v1 : Int32) (v2 : Int32) (h : aH) : Option (Int32 × aH) :=
  if (kB 60) < v2 then fX11_deadIn_60 h else fX11_deadIn_30 k24 v0 v1 v2 h
theorem tX11_deadIn_24 {d : Nat} {z : Int32 × aH} {k24 : Nat → Int32 → Int32 → aH → Option (Int32 × aH)} (hk24 : ∀ (v0 : Nat) (v1 : Int32) (v2 : Int32) (h : aH), k24 v0 v1 v2 h = some z → Ev (d + 4) none mX11_deadIn (0, 0) 24 [.ref v0, .int v1, .int v2] [] h (QI z)) (v0 : Nat) (v1 : Int32) (v2 : Int32) (h : aH) (hf : fX11_deadIn_24 k24 v0 v1 v2 h = some z) : Ev (d + 4) none mX11_deadIn (0, 0) 24 [.ref v0, .int v1, .int v2] [] h (QI z) := 
  go_ok (X := none) (blk := wX11_deadIn_24) (np := 30) (tt := 60) (kN := fun xs h st => app [2, 1, 1] (fun v0 v1 v2 => apS [] (fX11_deadIn_30 k24 v0 v1 v2 h) st) xs) (kT := fun xs h st => app [0, 0, 0] (apS [] (fX11_deadIn_60 h) st) xs) (kR := kRI)
    (fun xs h st q => jm [2, 1, 1] _ (fun v0 v1 v2 q => apS_ok [] _ (fun st => Ev (d + 4) none mX11_deadIn (0, 0) 30 [.ref v0, .int v1, .int v2] st h (QI z)) st (fun q => tX11_deadIn_30 hk24 v0 v1 v2 h q) q) q)
    (fun xs h st q => jm [0, 0, 0] _ (fun q => apS_ok [] _ (fun st => Ev (d + 4) none mX11_deadIn (0, 0) 60 [.null, .null, .null] st h (QI z)) st (fun q => tX11_deadIn_60 h q) q) q)
    kRI_ok (Or.inr rfl) (by decide +kernel) (by decide +kernel) hf
def lX11_deadIn_24 : Nat → Nat → Int32 → Int32 → aH → Option (Int32 × aH)
  | 0, _, _, _, _ => none
  | n + 1, v0, v1, v2, h => fX11_deadIn_24 (lX11_deadIn_24 n) v0 v1 v2 h
theorem uX11_deadIn_24 {d : Nat} {z : Int32 × aH} : ∀ (n : Nat) (v0 : Nat) (v1 : Int32) (v2 : Int32) (h : aH), lX11_deadIn_24 n v0 v1 v2 h = some z → Ev (d + 4) none mX11_deadIn (0, 0) 24 [.ref v0, .int v1, .int v2] [] h (QI z) := by
  intro n
  induction n with
  | zero => intro _ _ _ _ q; exact nos (show (none : Option (Int32 × aH)) = some z from q)
  | succ n ih => intro v0 v1 v2 h q; exact tX11_deadIn_24 ih v0 v1 v2 h q
def wX11_deadIn_22 : List En := [(.iconst 0, 0, 0, 0), (.istore_n 2, 0, 0, 0)]
def fX11_deadIn_22 (v0 : Nat) (v1 : Int32) (h : aH) : Option (Int32 × aH) :=
  lX11_deadIn_24 FU v0 v1 (kI 0) h
theorem tX11_deadIn_22 {d : Nat} {z : Int32 × aH} (v0 : Nat) (v1 : Int32) (h : aH) (hf : fX11_deadIn_22 v0 v1 h = some z) : Ev (d + 4) none mX11_deadIn (0, 0) 22 [.ref v0, .int v1, .null] [] h (QI z) := 
  go_ok (X := none) (blk := wX11_deadIn_22) (np := 24) (tt := 0) (kN := fun xs h st => app [2, 1, 1] (fun v0 v1 v2 => apS [] (lX11_deadIn_24 FU v0 v1 v2 h) st) xs) (kT := fun _ _ _ => none) (kR := kRI)
    (fun xs h st q => jm [2, 1, 1] _ (fun v0 v1 v2 q => apS_ok [] _ (fun st => Ev (d + 4) none mX11_deadIn (0, 0) 24 [.ref v0, .int v1, .int v2] st h (QI z)) st (fun q => uX11_deadIn_24 FU v0 v1 v2 h q) q) q)
    (fun _ _ _ q => nos q)
    kRI_ok (Or.inr rfl) (by decide +kernel) (by decide +kernel) hf
theorem kqX11_deadIn_19 : okC mX11_deadIn 19 (.invokevirtual 278) 220 237 0 0 = true := by decide +kernel
def fX11_deadIn_19 (v0 : Nat) (v1 : Int32) (s0 : Nat) (h : aH) : Option (Int32 × aH) :=
  (isO h 11 s0).bind fun _ =>
  (gX11_begin s0 h).bind fun r =>
  fX11_deadIn_22 v0 v1 r
theorem tX11_deadIn_19 {d : Nat} {z : Int32 × aH} (v0 : Nat) (v1 : Int32) (s0 : Nat) (h : aH) (hf : fX11_deadIn_19 v0 v1 s0 h = some z) : Ev (d + 4) none mX11_deadIn (0, 0) 19 [.ref v0, .int v1, .null] [.ref s0] h (QI z) := by
  obtain ⟨_, h1, hf⟩ := bnd hf
  obtain ⟨fs, ho⟩ := isO_ok h1
  obtain ⟨r, h2, hf⟩ := bnd hf
  refine ev_V kqX11_deadIn_19 jX11_begin (zX11_begin (d := d + 2) h2) ho rfl rfl (Nat.le_of_ble_eq_true rfl) rfl (as := []) (rest := []) rfl (Nat.le_of_ble_eq_true rfl) (fun _ _ hq => ?_)
  obtain ⟨rfl, hh⟩ := hq
  rw [hh]
  exact jm [2, 1, 0] (fun v0 v1 => fX11_deadIn_22 v0 v1 r) (fun v0 v1 q => tX11_deadIn_22 v0 v1 r q) hf
def wX11_deadIn_18 : List En := [(.aload_n 0, 0, 0, 0)]
def fX11_deadIn_18 (v0 : Nat) (v1 : Int32) (h : aH) : Option (Int32 × aH) :=
  fX11_deadIn_19 v0 v1 v0 h
theorem tX11_deadIn_18 {d : Nat} {z : Int32 × aH} (v0 : Nat) (v1 : Int32) (h : aH) (hf : fX11_deadIn_18 v0 v1 h = some z) : Ev (d + 4) none mX11_deadIn (0, 0) 18 [.ref v0, .int v1, .null] [] h (QI z) := 
  go_ok (X := none) (blk := wX11_deadIn_18) (np := 19) (tt := 0) (kN := fun xs h st => app [2, 1, 0] (fun v0 v1 => apS [2] (fun s0 => fX11_deadIn_19 v0 v1 s0 h) st) xs) (kT := fun _ _ _ => none) (kR := kRI)
    (fun xs h st q => jm [2, 1, 0] _ (fun v0 v1 q => apS_ok [2] _ (fun st => Ev (d + 4) none mX11_deadIn (0, 0) 19 [.ref v0, .int v1, .null] st h (QI z)) st (fun s0 q => tX11_deadIn_19 v0 v1 s0 h q) q) q)
    (fun _ _ _ q => nos q)
    kRI_ok (Or.inr rfl) (by decide +kernel) (by decide +kernel) hf
def wX11_deadIn_17 : List En := [(.ireturn, 0, 0, 0)]
def fX11_deadIn_17 (s0 : Int32) (h : aH) : Option (Int32 × aH) :=
  some (s0, h)
theorem tX11_deadIn_17 {d : Nat} {z : Int32 × aH} (s0 : Int32) (h : aH) (hf : fX11_deadIn_17 s0 h = some z) : Ev (d + 4) none mX11_deadIn (0, 0) 17 [.null, .null, .null] [.int s0] h (QI z) := 
  go_ok (X := none) (blk := wX11_deadIn_17) (np := 18) (tt := 0) (kN := fun _ _ _ => none) (kT := fun _ _ _ => none) (kR := kRI)
    (fun _ _ _ q => nos q)
    (fun _ _ _ q => nos q)
    kRI_ok (Or.inr rfl) (by decide +kernel) (by decide +kernel) hf
theorem kqX11_deadIn_14 : okC mX11_deadIn 14 (.invokevirtual 164) 183 198 0 1 = true := by decide +kernel
def fX11_deadIn_14 (s0 : Int32) (s1 : Nat) (h : aH) : Option (Int32 × aH) :=
  (isO h 11 s1).bind fun _ =>
  (gX11_no s1 s0 h).bind fun r =>
  fX11_deadIn_17 r.1 r.2
theorem tX11_deadIn_14 {d : Nat} {z : Int32 × aH} (s0 : Int32) (s1 : Nat) (h : aH) (hf : fX11_deadIn_14 s0 s1 h = some z) : Ev (d + 4) none mX11_deadIn (0, 0) 14 [.null, .null, .null] [.int s0, .ref s1] h (QI z) := by
  obtain ⟨_, h1, hf⟩ := bnd hf
  obtain ⟨fs, ho⟩ := isO_ok h1
  obtain ⟨r, h2, hf⟩ := bnd hf
  refine ev_V kqX11_deadIn_14 jX11_no (zX11_no (d := d + 3) h2) ho rfl rfl (Nat.le_of_ble_eq_true rfl) rfl (as := [.int s0]) (rest := []) rfl (Nat.le_of_ble_eq_true rfl) (fun _ _ hq => ?_)
  obtain ⟨rfl, rfl⟩ := hq
  exact jm [0, 0, 0] (fX11_deadIn_17 r.1 r.2) (fun q => tX11_deadIn_17 r.1 r.2 q) hf
def wX11_deadIn_12 : List En := [(.aload_n 0, 0, 0, 0), (.iconst 1, 0, 0, 0)]
def fX11_deadIn_12 (v0 : Nat) (h : aH) : Option (Int32 × aH) :=
  fX11_deadIn_14 (kI 1) v0 h
theorem tX11_deadIn_12 {d : Nat} {z : Int32 × aH} (v0 : Nat) (h : aH) (hf : fX11_deadIn_12 v0 h = some z) : Ev (d + 4) none mX11_deadIn (0, 0) 12 [.ref v0, .null, .null] [] h (QI z) := 
  go_ok (X := none) (blk := wX11_deadIn_12) (np := 14) (tt := 0) (kN := fun xs h st => app [0, 0, 0] (apS [1, 2] (fun s0 s1 => fX11_deadIn_14 s0 s1 h) st) xs) (kT := fun _ _ _ => none) (kR := kRI)
    (fun xs h st q => jm [0, 0, 0] _ (fun q => apS_ok [1, 2] _ (fun st => Ev (d + 4) none mX11_deadIn (0, 0) 14 [.null, .null, .null] st h (QI z)) st (fun s0 s1 q => tX11_deadIn_14 s0 s1 h q) q) q)
    (fun _ _ _ q => nos q)
    kRI_ok (Or.inr rfl) (by decide +kernel) (by decide +kernel) hf
def wX11_deadIn_9 : List En := [(.ifCond .ne 9, 18, 0, 0)]
def fX11_deadIn_9 (v0 : Nat) (v1 : Int32) (s0 : Int32) (h : aH) : Option (Int32 × aH) :=
  if s0 = 0 then fX11_deadIn_12 v0 h else fX11_deadIn_18 v0 v1 h
theorem tX11_deadIn_9 {d : Nat} {z : Int32 × aH} (v0 : Nat) (v1 : Int32) (s0 : Int32) (h : aH) (hf : fX11_deadIn_9 v0 v1 s0 h = some z) : Ev (d + 4) none mX11_deadIn (0, 0) 9 [.ref v0, .int v1, .null] [.int s0] h (QI z) := 
  go_ok (X := none) (blk := wX11_deadIn_9) (np := 12) (tt := 18) (kN := fun xs h st => app [2, 0, 0] (fun v0 => apS [] (fX11_deadIn_12 v0 h) st) xs) (kT := fun xs h st => app [2, 1, 0] (fun v0 v1 => apS [] (fX11_deadIn_18 v0 v1 h) st) xs) (kR := kRI)
    (fun xs h st q => jm [2, 0, 0] _ (fun v0 q => apS_ok [] _ (fun st => Ev (d + 4) none mX11_deadIn (0, 0) 12 [.ref v0, .null, .null] st h (QI z)) st (fun q => tX11_deadIn_12 v0 h q) q) q)
    (fun xs h st q => jm [2, 1, 0] _ (fun v0 v1 q => apS_ok [] _ (fun st => Ev (d + 4) none mX11_deadIn (0, 0) 18 [.ref v0, .int v1, .null] st h (QI z)) st (fun q => tX11_deadIn_18 v0 v1 h q) q) q)
    kRI_ok (Or.inr rfl) (by decide +kernel) (by decide +kernel) hf
theorem kqX11_deadIn_6 : okC mX11_deadIn 6 (.invokevirtual 285) 214 231 0 1 = true := by decide +kernel
def fX11_deadIn_6 (v0 : Nat) (v1 : Int32) (s0 : Int32) (s1 : Nat) (h : aH) : Option (Int32 × aH) :=
  (isO h 11 s1).bind fun _ =>
  (gX11_isPerson s1 s0 h).bind fun r =>
  fX11_deadIn_9 v0 v1 r.1 r.2
theorem tX11_deadIn_6 {d : Nat} {z : Int32 × aH} (v0 : Nat) (v1 : Int32) (s0 : Int32) (s1 : Nat) (h : aH) (hf : fX11_deadIn_6 v0 v1 s0 s1 h = some z) : Ev (d + 4) none mX11_deadIn (0, 0) 6 [.ref v0, .int v1, .null] [.int s0, .ref s1] h (QI z) := by
  obtain ⟨_, h1, hf⟩ := bnd hf
  obtain ⟨fs, ho⟩ := isO_ok h1
  obtain ⟨r, h2, hf⟩ := bnd hf
  refine ev_V kqX11_deadIn_6 jX11_isPerson (zX11_isPerson (d := d + 2) h2) ho rfl rfl (Nat.le_of_ble_eq_true rfl) rfl (as := [.int s0]) (rest := []) rfl (Nat.le_of_ble_eq_true rfl) (fun _ _ hq => ?_)
  obtain ⟨-, rfl, rfl⟩ := hq
  exact jm [2, 1, 0] (fun v0 v1 => fX11_deadIn_9 v0 v1 r.1 r.2) (fun v0 v1 q => tX11_deadIn_9 v0 v1 r.1 r.2 q) hf
def wX11_deadIn_4 : List En := [(.aload_n 0, 0, 0, 0), (.iload_n 1, 0, 0, 0)]
def fX11_deadIn_4 (v0 : Nat) (v1 : Int32) (h : aH) : Option (Int32 × aH) :=
  fX11_deadIn_6 v0 v1 v1 v0 h
theorem tX11_deadIn_4 {d : Nat} {z : Int32 × aH} (v0 : Nat) (v1 : Int32) (h : aH) (hf : fX11_deadIn_4 v0 v1 h = some z) : Ev (d + 4) none mX11_deadIn (0, 0) 4 [.ref v0, .int v1, .null] [] h (QI z) := 
  go_ok (X := none) (blk := wX11_deadIn_4) (np := 6) (tt := 0) (kN := fun xs h st => app [2, 1, 0] (fun v0 v1 => apS [1, 2] (fun s0 s1 => fX11_deadIn_6 v0 v1 s0 s1 h) st) xs) (kT := fun _ _ _ => none) (kR := kRI)
    (fun xs h st q => jm [2, 1, 0] _ (fun v0 v1 q => apS_ok [1, 2] _ (fun st => Ev (d + 4) none mX11_deadIn (0, 0) 6 [.ref v0, .int v1, .null] st h (QI z)) st (fun s0 s1 q => tX11_deadIn_6 v0 v1 s0 s1 h q) q) q)
    (fun _ _ _ q => nos q)
    kRI_ok (Or.inr rfl) (by decide +kernel) (by decide +kernel) hf
theorem kqX11_deadIn_1 : okC mX11_deadIn 1 (.invokevirtual 161) 181 196 0 0 = true := by decide +kernel
def fX11_deadIn_1 (v0 : Nat) (v1 : Int32) (s0 : Nat) (h : aH) : Option (Int32 × aH) :=
  (isO h 11 s0).bind fun _ =>
  (gX11_anew s0 h).bind fun r =>
  fX11_deadIn_4 v0 v1 r
theorem tX11_deadIn_1 {d : Nat} {z : Int32 × aH} (v0 : Nat) (v1 : Int32) (s0 : Nat) (h : aH) (hf : fX11_deadIn_1 v0 v1 s0 h = some z) : Ev (d + 4) none mX11_deadIn (0, 0) 1 [.ref v0, .int v1, .null] [.ref s0] h (QI z) := by
  obtain ⟨_, h1, hf⟩ := bnd hf
  obtain ⟨fs, ho⟩ := isO_ok h1
  obtain ⟨r, h2, hf⟩ := bnd hf
  refine ev_V kqX11_deadIn_1 jX11_anew (zX11_anew (d := d + 3) h2) ho rfl rfl (Nat.le_of_ble_eq_true rfl) rfl (as := []) (rest := []) rfl (Nat.le_of_ble_eq_true rfl) (fun _ _ hq => ?_)
  obtain ⟨rfl, hh⟩ := hq
  rw [hh]
  exact jm [2, 1, 0] (fun v0 v1 => fX11_deadIn_4 v0 v1 r) (fun v0 v1 q => tX11_deadIn_4 v0 v1 r q) hf
def wX11_deadIn_0 : List En := [(.aload_n 0, 0, 0, 0)]
def fX11_deadIn_0 (v0 : Nat) (v1 : Int32) (h : aH) : Option (Int32 × aH) :=
  fX11_deadIn_1 v0 v1 v0 h
theorem tX11_deadIn_0 {d : Nat} {z : Int32 × aH} (v0 : Nat) (v1 : Int32) (h : aH) (hf : fX11_deadIn_0 v0 v1 h = some z) : Ev (d + 4) none mX11_deadIn (0, 0) 0 [.ref v0, .int v1, .null] [] h (QI z) := 
  go_ok (X := none) (blk := wX11_deadIn_0) (np := 1) (tt := 0) (kN := fun xs h st => app [2, 1, 0] (fun v0 v1 => apS [2] (fun s0 => fX11_deadIn_1 v0 v1 s0 h) st) xs) (kT := fun _ _ _ => none) (kR := kRI)
    (fun xs h st q => jm [2, 1, 0] _ (fun v0 v1 q => apS_ok [2] _ (fun st => Ev (d + 4) none mX11_deadIn (0, 0) 1 [.ref v0, .int v1, .null] st h (QI z)) st (fun s0 q => tX11_deadIn_1 v0 v1 s0 h q) q) q)
    (fun _ _ _ q => nos q)
    kRI_ok (Or.inr rfl) (by decide +kernel) (by decide +kernel) hf
def gX11_deadIn (v0 : Nat) (v1 : Int32) (h : aH) : Option (Int32 × aH) := fX11_deadIn_0 v0 v1 h
theorem zX11_deadIn {d : Nat} {z : Int32 × aH} {v0 : Nat} {v1 : Int32} {h : aH} (q : gX11_deadIn v0 v1 h = some z) : CT (d + 4) mX11_deadIn (0, 0) [.ref v0, .int v1] h (QI z) :=
  ct_ev (by decide +kernel) (Nat.le_of_ble_eq_true rfl) QI_r (jm [2, 1, 0] (fun v0 v1 => fX11_deadIn_0 v0 v1 h) (fun v0 v1 q => tX11_deadIn_0 v0 v1 h q) q)
def wX11_within_163 : List En := [(.return_, 0, 0, 0)]
def fX11_within_163 (h : aH) : Option (aH) :=
  some h
theorem tX11_within_163 {d : Nat} {z : aH} (h : aH) (hf : fX11_within_163 h = some z) : Ev (d + 4) none mX11_within (0, 0) 163 [.null, .null, .null, .null, .null] [] h (QV z) := 
  go_ok (X := none) (blk := wX11_within_163) (np := 164) (tt := 0) (kN := fun _ _ _ => none) (kT := fun _ _ _ => none) (kR := kRV)
    (fun _ _ _ q => nos q)
    (fun _ _ _ q => nos q)
    kRV_ok (Or.inr rfl) (by decide +kernel) (by decide +kernel) hf
def wX11_within_157 : List En := [(.iinc 4 1, 0, 0, 0), (.goto (-127), 33, 0, 0)]
def fX11_within_157 (k33 : Nat → Int32 → Int32 → Int32 → Int32 → aH → Option (aH)) (v0 : Nat) (v1 : Int32) (v2 : Int32) (v3 : Int32) (v4 : Int32) (h : aH) : Option (aH) :=
  k33 v0 v1 v2 v3 (v4 + kI 1) h
theorem tX11_within_157 {d : Nat} {z : aH} {k33 : Nat → Int32 → Int32 → Int32 → Int32 → aH → Option (aH)} (hk33 : ∀ (v0 : Nat) (v1 : Int32) (v2 : Int32) (v3 : Int32) (v4 : Int32) (h : aH), k33 v0 v1 v2 v3 v4 h = some z → Ev (d + 4) none mX11_within (0, 0) 33 [.ref v0, .int v1, .int v2, .int v3, .int v4] [] h (QV z)) (v0 : Nat) (v1 : Int32) (v2 : Int32) (v3 : Int32) (v4 : Int32) (h : aH) (hf : fX11_within_157 k33 v0 v1 v2 v3 v4 h = some z) : Ev (d + 4) none mX11_within (0, 0) 157 [.ref v0, .int v1, .int v2, .int v3, .int v4] [] h (QV z) := 
  go_ok (X := none) (blk := wX11_within_157) (np := 163) (tt := 33) (kN := fun _ _ _ => none) (kT := fun xs h st => app [2, 1, 1, 1, 1] (fun v0 v1 v2 v3 v4 => apS [] (k33 v0 v1 v2 v3 v4 h) st) xs) (kR := kRV)
    (fun _ _ _ q => nos q)
    (fun xs h st q => jm [2, 1, 1, 1, 1] _ (fun v0 v1 v2 v3 v4 q => apS_ok [] _ (fun st => Ev (d + 4) none mX11_within (0, 0) 33 [.ref v0, .int v1, .int v2, .int v3, .int v4] st h (QV z)) st (fun q => hk33 v0 v1 v2 v3 v4 h q) q) q)
    kRV_ok (Or.inr rfl) (by decide +kernel) (by decide +kernel) hf
def wX11_within_151 : List En := [(.aload_n 0, 0, 0, 0), (.iload 4, 0, 0, 0), (.putfield 323, 208, 11, 33)]
def fX11_within_151 (k33 : Nat → Int32 → Int32 → Int32 → Int32 → aH → Option (aH)) (v0 : Nat) (v1 : Int32) (v2 : Int32) (v3 : Int32) (v4 : Int32) (h : aH) : Option (aH) :=
  (pWV h 11 v0 33 (.int v4)).bind fun h1 =>
  fX11_within_157 k33 v0 v1 v2 v3 v4 h1
theorem tX11_within_151 {d : Nat} {z : aH} {k33 : Nat → Int32 → Int32 → Int32 → Int32 → aH → Option (aH)} (hk33 : ∀ (v0 : Nat) (v1 : Int32) (v2 : Int32) (v3 : Int32) (v4 : Int32) (h : aH), k33 v0 v1 v2 v3 v4 h = some z → Ev (d + 4) none mX11_within (0, 0) 33 [.ref v0, .int v1, .int v2, .int v3, .int v4] [] h (QV z)) (v0 : Nat) (v1 : Int32) (v2 : Int32) (v3 : Int32) (v4 : Int32) (h : aH) (hf : fX11_within_151 k33 v0 v1 v2 v3 v4 h = some z) : Ev (d + 4) none mX11_within (0, 0) 151 [.ref v0, .int v1, .int v2, .int v3, .int v4] [] h (QV z) := 
  go_ok (X := none) (blk := wX11_within_151) (np := 157) (tt := 0) (kN := fun xs h st => app [2, 1, 1, 1, 1] (fun v0 v1 v2 v3 v4 => apS [] (fX11_within_157 k33 v0 v1 v2 v3 v4 h) st) xs) (kT := fun _ _ _ => none) (kR := kRV)
    (fun xs h st q => jm [2, 1, 1, 1, 1] _ (fun v0 v1 v2 v3 v4 q => apS_ok [] _ (fun st => Ev (d + 4) none mX11_within (0, 0) 157 [.ref v0, .int v1, .int v2, .int v3, .int v4] st h (QV z)) st (fun q => tX11_within_157 hk33 v0 v1 v2 v3 v4 h q) q) q)
    (fun _ _ _ q => nos q)
    kRV_ok (Or.inr rfl) (by decide +kernel) (by decide +kernel) hf
def wX11_within_144 : List En := [(.aload_n 0, 0, 0, 0), (.getfield 323, 208, 11, 33), (.ifCond .ge 9, 157, 0, 0)]
def fX11_within_144 (k33 : Nat → Int32 → Int32 → Int32 → Int32 → aH → Option (aH)) (v0 : Nat) (v1 : Int32) (v2 : Int32) (v3 : Int32) (v4 : Int32) (h : aH) : Option (aH) :=
  (gFI h 11 v0 33).bind fun t1 =>
  if t1 < 0 then fX11_within_151 k33 v0 v1 v2 v3 v4 h else fX11_within_157 k33 v0 v1 v2 v3 v4 h
theorem tX11_within_144 {d : Nat} {z : aH} {k33 : Nat → Int32 → Int32 → Int32 → Int32 → aH → Option (aH)} (hk33 : ∀ (v0 : Nat) (v1 : Int32) (v2 : Int32) (v3 : Int32) (v4 : Int32) (h : aH), k33 v0 v1 v2 v3 v4 h = some z → Ev (d + 4) none mX11_within (0, 0) 33 [.ref v0, .int v1, .int v2, .int v3, .int v4] [] h (QV z)) (v0 : Nat) (v1 : Int32) (v2 : Int32) (v3 : Int32) (v4 : Int32) (h : aH) (hf : fX11_within_144 k33 v0 v1 v2 v3 v4 h = some z) : Ev (d + 4) none mX11_within (0, 0) 144 [.ref v0, .int v1, .int v2, .int v3, .int v4] [] h (QV z) := 
  go_ok (X := none) (blk := wX11_within_144) (np := 151) (tt := 157) (kN := fun xs h st => app [2, 1, 1, 1, 1] (fun v0 v1 v2 v3 v4 => apS [] (fX11_within_151 k33 v0 v1 v2 v3 v4 h) st) xs) (kT := fun xs h st => app [2, 1, 1, 1, 1] (fun v0 v1 v2 v3 v4 => apS [] (fX11_within_157 k33 v0 v1 v2 v3 v4 h) st) xs) (kR := kRV)
    (fun xs h st q => jm [2, 1, 1, 1, 1] _ (fun v0 v1 v2 v3 v4 q => apS_ok [] _ (fun st => Ev (d + 4) none mX11_within (0, 0) 151 [.ref v0, .int v1, .int v2, .int v3, .int v4] st h (QV z)) st (fun q => tX11_within_151 hk33 v0 v1 v2 v3 v4 h q) q) q)
    (fun xs h st q => jm [2, 1, 1, 1, 1] _ (fun v0 v1 v2 v3 v4 q => apS_ok [] _ (fun st => Ev (d + 4) none mX11_within (0, 0) 157 [.ref v0, .int v1, .int v2, .int v3, .int v4] st h (QV z)) st (fun q => tX11_within_157 hk33 v0 v1 v2 v3 v4 h q) q) q)
    kRV_ok (Or.inr rfl) (by decide +kernel) (by decide +kernel) hf
def wX11_within_100 : List En := [(.aload_n 0, 0, 0, 0), (.dup, 0, 0, 0), (.getfield 317, 206, 11, 31), (.iconst 1, 0, 0, 0), (.aload_n 0, 0, 0, 0), (.getfield 257, 201, 11, 26), (.ishl, 0, 0, 0), (.ior, 0, 0, 0), (.putfield 317, 206, 11, 31), (.aload_n 0, 0, 0, 0), (.dup, 0, 0, 0), (.getfield 320, 207, 11, 32), (.aload_n 0, 0, 0, 0), (.getfield 35, 195, 11, 20), (.bipush 14, 0, 0, 0), (.aload_n 0, 0, 0, 0), (.getfield 257, 201, 11, 26), (.iadd, 0, 0, 0), (.iaload, 0, 0, 0), (.iadd, 0, 0, 0), (.putfield 320, 207, 11, 32), (.aload_n 0, 0, 0, 0), (.getfield 257, 201, 11, 26), (.iload_n 2, 0, 0, 0), (.if_icmp .ne 16, 157, 0, 0)]
def fX11_within_100 (k33 : Nat → Int32 → Int32 → Int32 → Int32 → aH → Option (aH)) (v0 : Nat) (v1 : Int32) (v2 : Int32) (v3 : Int32) (v4 : Int32) (h : aH) : Option (aH) :=
  (gFI h 11 v0 31).bind fun t1 =>
  (gFI h 11 v0 26).bind fun t2 =>
  (pWV h 11 v0 31 (.int (t1 ||| ((kI 1) <<< (t2 &&& 31))))).bind fun h3 =>
  (gFI h3 11 v0 32).bind fun t4 =>
  (gFR h3 11 v0 20).bind fun t5 =>
  (gFI h3 11 v0 26).bind fun t6 =>
  (aRI (h3[t5]?) ((kB 14) + t6)).bind fun t7 =>
  (pWV h3 11 v0 32 (.int (t4 + t7))).bind fun h8 =>
  (gFI h8 11 v0 26).bind fun t9 =>
  if t9 = v2 then fX11_within_144 k33 v0 v1 v2 v3 v4 h8 else fX11_within_157 k33 v0 v1 v2 v3 v4 h8
theorem tX11_within_100 {d : Nat} {z : aH} {k33 : Nat → Int32 → Int32 → Int32 → Int32 → aH → Option (aH)} (hk33 : ∀ (v0 : Nat) (v1 : Int32) (v2 : Int32) (v3 : Int32) (v4 : Int32) (h : aH), k33 v0 v1 v2 v3 v4 h = some z → Ev (d + 4) none mX11_within (0, 0) 33 [.ref v0, .int v1, .int v2, .int v3, .int v4] [] h (QV z)) (v0 : Nat) (v1 : Int32) (v2 : Int32) (v3 : Int32) (v4 : Int32) (h : aH) (hf : fX11_within_100 k33 v0 v1 v2 v3 v4 h = some z) : Ev (d + 4) none mX11_within (0, 0) 100 [.ref v0, .int v1, .int v2, .int v3, .int v4] [] h (QV z) := 
  go_ok (X := none) (blk := wX11_within_100) (np := 144) (tt := 157) (kN := fun xs h st => app [2, 1, 1, 1, 1] (fun v0 v1 v2 v3 v4 => apS [] (fX11_within_144 k33 v0 v1 v2 v3 v4 h) st) xs) (kT := fun xs h st => app [2, 1, 1, 1, 1] (fun v0 v1 v2 v3 v4 => apS [] (fX11_within_157 k33 v0 v1 v2 v3 v4 h) st) xs) (kR := kRV)
    (fun xs h st q => jm [2, 1, 1, 1, 1] _ (fun v0 v1 v2 v3 v4 q => apS_ok [] _ (fun st => Ev (d + 4) none mX11_within (0, 0) 144 [.ref v0, .int v1, .int v2, .int v3, .int v4] st h (QV z)) st (fun q => tX11_within_144 hk33 v0 v1 v2 v3 v4 h q) q) q)
    (fun xs h st q => jm [2, 1, 1, 1, 1] _ (fun v0 v1 v2 v3 v4 q => apS_ok [] _ (fun st => Ev (d + 4) none mX11_within (0, 0) 157 [.ref v0, .int v1, .int v2, .int v3, .int v4] st h (QV z)) st (fun q => tX11_within_157 hk33 v0 v1 v2 v3 v4 h q) q) q)
    kRV_ok (Or.inr rfl) (by decide +kernel) (by decide +kernel) hf
def wX11_within_97 : List En := [(.goto 60, 157, 0, 0)]
def fX11_within_97 (k33 : Nat → Int32 → Int32 → Int32 → Int32 → aH → Option (aH)) (v0 : Nat) (v1 : Int32) (v2 : Int32) (v3 : Int32) (v4 : Int32) (h : aH) : Option (aH) :=
  fX11_within_157 k33 v0 v1 v2 v3 v4 h
theorem tX11_within_97 {d : Nat} {z : aH} {k33 : Nat → Int32 → Int32 → Int32 → Int32 → aH → Option (aH)} (hk33 : ∀ (v0 : Nat) (v1 : Int32) (v2 : Int32) (v3 : Int32) (v4 : Int32) (h : aH), k33 v0 v1 v2 v3 v4 h = some z → Ev (d + 4) none mX11_within (0, 0) 33 [.ref v0, .int v1, .int v2, .int v3, .int v4] [] h (QV z)) (v0 : Nat) (v1 : Int32) (v2 : Int32) (v3 : Int32) (v4 : Int32) (h : aH) (hf : fX11_within_97 k33 v0 v1 v2 v3 v4 h = some z) : Ev (d + 4) none mX11_within (0, 0) 97 [.ref v0, .int v1, .int v2, .int v3, .int v4] [] h (QV z) := 
  go_ok (X := none) (blk := wX11_within_97) (np := 100) (tt := 157) (kN := fun _ _ _ => none) (kT := fun xs h st => app [2, 1, 1, 1, 1] (fun v0 v1 v2 v3 v4 => apS [] (fX11_within_157 k33 v0 v1 v2 v3 v4 h) st) xs) (kR := kRV)
    (fun _ _ _ q => nos q)
    (fun xs h st q => jm [2, 1, 1, 1, 1] _ (fun v0 v1 v2 v3 v4 q => apS_ok [] _ (fun st => Ev (d + 4) none mX11_within (0, 0) 157 [.ref v0, .int v1, .int v2, .int v3, .int v4] st h (QV z)) st (fun q => tX11_within_157 hk33 v0 v1 v2 v3 v4 h q) q) q)
    kRV_ok (Or.inr rfl) (by decide +kernel) (by decide +kernel) hf
def wX11_within_86 : List En := [(.iadd, 0, 0, 0), (.putfield 314, 205, 11, 30), (.aload_n 0, 0, 0, 0), (.getfield 257, 201, 11, 26), (.ifCond .ge 6, 100, 0, 0)]
def fX11_within_86 (k33 : Nat → Int32 → Int32 → Int32 → Int32 → aH → Option (aH)) (v0 : Nat) (v1 : Int32) (v2 : Int32) (v3 : Int32) (v4 : Int32) (s0 : Int32) (s1 : Int32) (s2 : Nat) (h : aH) : Option (aH) :=
  (pWV h 11 s2 30 (.int (s1 + s0))).bind fun h1 =>
  (gFI h1 11 v0 26).bind fun t2 =>
  if t2 < 0 then fX11_within_97 k33 v0 v1 v2 v3 v4 h1 else fX11_within_100 k33 v0 v1 v2 v3 v4 h1
theorem tX11_within_86 {d : Nat} {z : aH} {k33 : Nat → Int32 → Int32 → Int32 → Int32 → aH → Option (aH)} (hk33 : ∀ (v0 : Nat) (v1 : Int32) (v2 : Int32) (v3 : Int32) (v4 : Int32) (h : aH), k33 v0 v1 v2 v3 v4 h = some z → Ev (d + 4) none mX11_within (0, 0) 33 [.ref v0, .int v1, .int v2, .int v3, .int v4] [] h (QV z)) (v0 : Nat) (v1 : Int32) (v2 : Int32) (v3 : Int32) (v4 : Int32) (s0 : Int32) (s1 : Int32) (s2 : Nat) (h : aH) (hf : fX11_within_86 k33 v0 v1 v2 v3 v4 s0 s1 s2 h = some z) : Ev (d + 4) none mX11_within (0, 0) 86 [.ref v0, .int v1, .int v2, .int v3, .int v4] [.int s0, .int s1, .ref s2] h (QV z) := 
  go_ok (X := none) (blk := wX11_within_86) (np := 97) (tt := 100) (kN := fun xs h st => app [2, 1, 1, 1, 1] (fun v0 v1 v2 v3 v4 => apS [] (fX11_within_97 k33 v0 v1 v2 v3 v4 h) st) xs) (kT := fun xs h st => app [2, 1, 1, 1, 1] (fun v0 v1 v2 v3 v4 => apS [] (fX11_within_100 k33 v0 v1 v2 v3 v4 h) st) xs) (kR := kRV)
    (fun xs h st q => jm [2, 1, 1, 1, 1] _ (fun v0 v1 v2 v3 v4 q => apS_ok [] _ (fun st => Ev (d + 4) none mX11_within (0, 0) 97 [.ref v0, .int v1, .int v2, .int v3, .int v4] st h (QV z)) st (fun q => tX11_within_97 hk33 v0 v1 v2 v3 v4 h q) q) q)
    (fun xs h st q => jm [2, 1, 1, 1, 1] _ (fun v0 v1 v2 v3 v4 q => apS_ok [] _ (fun st => Ev (d + 4) none mX11_within (0, 0) 100 [.ref v0, .int v1, .int v2, .int v3, .int v4] st h (QV z)) st (fun q => tX11_within_100 hk33 v0 v1 v2 v3 v4 h q) q) q)
    kRV_ok (Or.inr rfl) (by decide +kernel) (by decide +kernel) hf
def wX11_within_85 : List En := [(.iconst 0, 0, 0, 0)]
def fX11_within_85 (k33 : Nat → Int32 → Int32 → Int32 → Int32 → aH → Option (aH)) (v0 : Nat) (v1 : Int32) (v2 : Int32) (v3 : Int32) (v4 : Int32) (s0 : Int32) (s1 : Nat) (h : aH) : Option (aH) :=
  fX11_within_86 k33 v0 v1 v2 v3 v4 (kI 0) s0 s1 h
theorem tX11_within_85 {d : Nat} {z : aH} {k33 : Nat → Int32 → Int32 → Int32 → Int32 → aH → Option (aH)} (hk33 : ∀ (v0 : Nat) (v1 : Int32) (v2 : Int32) (v3 : Int32) (v4 : Int32) (h : aH), k33 v0 v1 v2 v3 v4 h = some z → Ev (d + 4) none mX11_within (0, 0) 33 [.ref v0, .int v1, .int v2, .int v3, .int v4] [] h (QV z)) (v0 : Nat) (v1 : Int32) (v2 : Int32) (v3 : Int32) (v4 : Int32) (s0 : Int32) (s1 : Nat) (h : aH) (hf : fX11_within_85 k33 v0 v1 v2 v3 v4 s0 s1 h = some z) : Ev (d + 4) none mX11_within (0, 0) 85 [.ref v0, .int v1, .int v2, .int v3, .int v4] [.int s0, .ref s1] h (QV z) := 
  go_ok (X := none) (blk := wX11_within_85) (np := 86) (tt := 0) (kN := fun xs h st => app [2, 1, 1, 1, 1] (fun v0 v1 v2 v3 v4 => apS [1, 1, 2] (fun s0 s1 s2 => fX11_within_86 k33 v0 v1 v2 v3 v4 s0 s1 s2 h) st) xs) (kT := fun _ _ _ => none) (kR := kRV)
    (fun xs h st q => jm [2, 1, 1, 1, 1] _ (fun v0 v1 v2 v3 v4 q => apS_ok [1, 1, 2] _ (fun st => Ev (d + 4) none mX11_within (0, 0) 86 [.ref v0, .int v1, .int v2, .int v3, .int v4] st h (QV z)) st (fun s0 s1 s2 q => tX11_within_86 hk33 v0 v1 v2 v3 v4 s0 s1 s2 h q) q) q)
    (fun _ _ _ q => nos q)
    kRV_ok (Or.inr rfl) (by decide +kernel) (by decide +kernel) hf
def wX11_within_81 : List En := [(.iconst 1, 0, 0, 0), (.goto 4, 86, 0, 0)]
def fX11_within_81 (k33 : Nat → Int32 → Int32 → Int32 → Int32 → aH → Option (aH)) (v0 : Nat) (v1 : Int32) (v2 : Int32) (v3 : Int32) (v4 : Int32) (s0 : Int32) (s1 : Nat) (h : aH) : Option (aH) :=
  fX11_within_86 k33 v0 v1 v2 v3 v4 (kI 1) s0 s1 h
theorem tX11_within_81 {d : Nat} {z : aH} {k33 : Nat → Int32 → Int32 → Int32 → Int32 → aH → Option (aH)} (hk33 : ∀ (v0 : Nat) (v1 : Int32) (v2 : Int32) (v3 : Int32) (v4 : Int32) (h : aH), k33 v0 v1 v2 v3 v4 h = some z → Ev (d + 4) none mX11_within (0, 0) 33 [.ref v0, .int v1, .int v2, .int v3, .int v4] [] h (QV z)) (v0 : Nat) (v1 : Int32) (v2 : Int32) (v3 : Int32) (v4 : Int32) (s0 : Int32) (s1 : Nat) (h : aH) (hf : fX11_within_81 k33 v0 v1 v2 v3 v4 s0 s1 h = some z) : Ev (d + 4) none mX11_within (0, 0) 81 [.ref v0, .int v1, .int v2, .int v3, .int v4] [.int s0, .ref s1] h (QV z) := 
  go_ok (X := none) (blk := wX11_within_81) (np := 85) (tt := 86) (kN := fun _ _ _ => none) (kT := fun xs h st => app [2, 1, 1, 1, 1] (fun v0 v1 v2 v3 v4 => apS [1, 1, 2] (fun s0 s1 s2 => fX11_within_86 k33 v0 v1 v2 v3 v4 s0 s1 s2 h) st) xs) (kR := kRV)
    (fun _ _ _ q => nos q)
    (fun xs h st q => jm [2, 1, 1, 1, 1] _ (fun v0 v1 v2 v3 v4 q => apS_ok [1, 1, 2] _ (fun st => Ev (d + 4) none mX11_within (0, 0) 86 [.ref v0, .int v1, .int v2, .int v3, .int v4] st h (QV z)) st (fun s0 s1 s2 q => tX11_within_86 hk33 v0 v1 v2 v3 v4 s0 s1 s2 h q) q) q)
    kRV_ok (Or.inr rfl) (by decide +kernel) (by decide +kernel) hf
def wX11_within_68 : List En := [(.aload_n 0, 0, 0, 0), (.dup, 0, 0, 0), (.getfield 314, 205, 11, 30), (.aload_n 0, 0, 0, 0), (.getfield 268, 200, 11, 25), (.iload_n 1, 0, 0, 0), (.if_icmp .ne 7, 85, 0, 0)]
def fX11_within_68 (k33 : Nat → Int32 → Int32 → Int32 → Int32 → aH → Option (aH)) (v0 : Nat) (v1 : Int32) (v2 : Int32) (v3 : Int32) (v4 : Int32) (h : aH) : Option (aH) :=
  (gFI h 11 v0 30).bind fun t1 =>
  (gFI h 11 v0 25).bind fun t2 =>
  if t2 = v1 then fX11_within_81 k33 v0 v1 v2 v3 v4 t1 v0 h else fX11_within_85 k33 v0 v1 v2 v3 v4 t1 v0 h
theorem tX11_within_68 {d : Nat} {z : aH} {k33 : Nat → Int32 → Int32 → Int32 → Int32 → aH → Option (aH)} (hk33 : ∀ (v0 : Nat) (v1 : Int32) (v2 : Int32) (v3 : Int32) (v4 : Int32) (h : aH), k33 v0 v1 v2 v3 v4 h = some z → Ev (d + 4) none mX11_within (0, 0) 33 [.ref v0, .int v1, .int v2, .int v3, .int v4] [] h (QV z)) (v0 : Nat) (v1 : Int32) (v2 : Int32) (v3 : Int32) (v4 : Int32) (h : aH) (hf : fX11_within_68 k33 v0 v1 v2 v3 v4 h = some z) : Ev (d + 4) none mX11_within (0, 0) 68 [.ref v0, .int v1, .int v2, .int v3, .int v4] [] h (QV z) := 
  go_ok (X := none) (blk := wX11_within_68) (np := 81) (tt := 85) (kN := fun xs h st => app [2, 1, 1, 1, 1] (fun v0 v1 v2 v3 v4 => apS [1, 2] (fun s0 s1 => fX11_within_81 k33 v0 v1 v2 v3 v4 s0 s1 h) st) xs) (kT := fun xs h st => app [2, 1, 1, 1, 1] (fun v0 v1 v2 v3 v4 => apS [1, 2] (fun s0 s1 => fX11_within_85 k33 v0 v1 v2 v3 v4 s0 s1 h) st) xs) (kR := kRV)
    (fun xs h st q => jm [2, 1, 1, 1, 1] _ (fun v0 v1 v2 v3 v4 q => apS_ok [1, 2] _ (fun st => Ev (d + 4) none mX11_within (0, 0) 81 [.ref v0, .int v1, .int v2, .int v3, .int v4] st h (QV z)) st (fun s0 s1 q => tX11_within_81 hk33 v0 v1 v2 v3 v4 s0 s1 h q) q) q)
    (fun xs h st q => jm [2, 1, 1, 1, 1] _ (fun v0 v1 v2 v3 v4 q => apS_ok [1, 2] _ (fun st => Ev (d + 4) none mX11_within (0, 0) 85 [.ref v0, .int v1, .int v2, .int v3, .int v4] st h (QV z)) st (fun s0 s1 q => tX11_within_85 hk33 v0 v1 v2 v3 v4 s0 s1 h q) q) q)
    kRV_ok (Or.inr rfl) (by decide +kernel) (by decide +kernel) hf
def wX11_within_53 : List En := [(.aload_n 0, 0, 0, 0), (.dup, 0, 0, 0), (.getfield 311, 204, 11, 29), (.aload_n 0, 0, 0, 0), (.getfield 44, 202, 11, 27), (.iload_n 1, 0, 0, 0), (.iaload, 0, 0, 0), (.iadd, 0, 0, 0), (.putfield 311, 204, 11, 29)]
def fX11_within_53 (k33 : Nat → Int32 → Int32 → Int32 → Int32 → aH → Option (aH)) (v0 : Nat) (v1 : Int32) (v2 : Int32) (v3 : Int32) (v4 : Int32) (h : aH) : Option (aH) :=
  (gFI h 11 v0 29).bind fun t1 =>
  (gFR h 11 v0 27).bind fun t2 =>
  (aRI (h[t2]?) v1).bind fun t3 =>
  (pWV h 11 v0 29 (.int (t1 + t3))).bind fun h4 =>
  fX11_within_68 k33 v0 v1 v2 v3 v4 h4
theorem tX11_within_53 {d : Nat} {z : aH} {k33 : Nat → Int32 → Int32 → Int32 → Int32 → aH → Option (aH)} (hk33 : ∀ (v0 : Nat) (v1 : Int32) (v2 : Int32) (v3 : Int32) (v4 : Int32) (h : aH), k33 v0 v1 v2 v3 v4 h = some z → Ev (d + 4) none mX11_within (0, 0) 33 [.ref v0, .int v1, .int v2, .int v3, .int v4] [] h (QV z)) (v0 : Nat) (v1 : Int32) (v2 : Int32) (v3 : Int32) (v4 : Int32) (h : aH) (hf : fX11_within_53 k33 v0 v1 v2 v3 v4 h = some z) : Ev (d + 4) none mX11_within (0, 0) 53 [.ref v0, .int v1, .int v2, .int v3, .int v4] [] h (QV z) := 
  go_ok (X := none) (blk := wX11_within_53) (np := 68) (tt := 0) (kN := fun xs h st => app [2, 1, 1, 1, 1] (fun v0 v1 v2 v3 v4 => apS [] (fX11_within_68 k33 v0 v1 v2 v3 v4 h) st) xs) (kT := fun _ _ _ => none) (kR := kRV)
    (fun xs h st q => jm [2, 1, 1, 1, 1] _ (fun v0 v1 v2 v3 v4 q => apS_ok [] _ (fun st => Ev (d + 4) none mX11_within (0, 0) 68 [.ref v0, .int v1, .int v2, .int v3, .int v4] st h (QV z)) st (fun q => tX11_within_68 hk33 v0 v1 v2 v3 v4 h q) q) q)
    (fun _ _ _ q => nos q)
    kRV_ok (Or.inr rfl) (by decide +kernel) (by decide +kernel) hf
def wX11_within_49 : List En := [(.iload_n 1, 0, 0, 0), (.ifCond .lt 18, 68, 0, 0)]
def fX11_within_49 (k33 : Nat → Int32 → Int32 → Int32 → Int32 → aH → Option (aH)) (v0 : Nat) (v1 : Int32) (v2 : Int32) (v3 : Int32) (v4 : Int32) (h : aH) : Option (aH) :=
  if v1 < 0 then fX11_within_68 k33 v0 v1 v2 v3 v4 h else fX11_within_53 k33 v0 v1 v2 v3 v4 h
theorem tX11_within_49 {d : Nat} {z : aH} {k33 : Nat → Int32 → Int32 → Int32 → Int32 → aH → Option (aH)} (hk33 : ∀ (v0 : Nat) (v1 : Int32) (v2 : Int32) (v3 : Int32) (v4 : Int32) (h : aH), k33 v0 v1 v2 v3 v4 h = some z → Ev (d + 4) none mX11_within (0, 0) 33 [.ref v0, .int v1, .int v2, .int v3, .int v4] [] h (QV z)) (v0 : Nat) (v1 : Int32) (v2 : Int32) (v3 : Int32) (v4 : Int32) (h : aH) (hf : fX11_within_49 k33 v0 v1 v2 v3 v4 h = some z) : Ev (d + 4) none mX11_within (0, 0) 49 [.ref v0, .int v1, .int v2, .int v3, .int v4] [] h (QV z) := 
  go_ok (X := none) (blk := wX11_within_49) (np := 53) (tt := 68) (kN := fun xs h st => app [2, 1, 1, 1, 1] (fun v0 v1 v2 v3 v4 => apS [] (fX11_within_53 k33 v0 v1 v2 v3 v4 h) st) xs) (kT := fun xs h st => app [2, 1, 1, 1, 1] (fun v0 v1 v2 v3 v4 => apS [] (fX11_within_68 k33 v0 v1 v2 v3 v4 h) st) xs) (kR := kRV)
    (fun xs h st q => jm [2, 1, 1, 1, 1] _ (fun v0 v1 v2 v3 v4 q => apS_ok [] _ (fun st => Ev (d + 4) none mX11_within (0, 0) 53 [.ref v0, .int v1, .int v2, .int v3, .int v4] st h (QV z)) st (fun q => tX11_within_53 hk33 v0 v1 v2 v3 v4 h q) q) q)
    (fun xs h st q => jm [2, 1, 1, 1, 1] _ (fun v0 v1 v2 v3 v4 q => apS_ok [] _ (fun st => Ev (d + 4) none mX11_within (0, 0) 68 [.ref v0, .int v1, .int v2, .int v3, .int v4] st h (QV z)) st (fun q => tX11_within_68 hk33 v0 v1 v2 v3 v4 h q) q) q)
    kRV_ok (Or.inr rfl) (by decide +kernel) (by decide +kernel) hf
theorem kqX11_within_46 : okC mX11_within 46 (.invokevirtual 281) 228 245 0 3 = true := by decide +kernel
def fX11_within_46 (k33 : Nat → Int32 → Int32 → Int32 → Int32 → aH → Option (aH)) (v0 : Nat) (v1 : Int32) (v2 : Int32) (v3 : Int32) (v4 : Int32) (s0 : Int32) (s1 : Int32) (s2 : Nat) (s3 : Nat) (h : aH) : Option (aH) :=
  (isO h 11 s3).bind fun _ =>
  (gX11_dayOn s3 s2 s1 s0 h).bind fun r =>
  fX11_within_49 k33 v0 v1 v2 v3 v4 r
theorem tX11_within_46 {d : Nat} {z : aH} {k33 : Nat → Int32 → Int32 → Int32 → Int32 → aH → Option (aH)} (hk33 : ∀ (v0 : Nat) (v1 : Int32) (v2 : Int32) (v3 : Int32) (v4 : Int32) (h : aH), k33 v0 v1 v2 v3 v4 h = some z → Ev (d + 4) none mX11_within (0, 0) 33 [.ref v0, .int v1, .int v2, .int v3, .int v4] [] h (QV z)) (v0 : Nat) (v1 : Int32) (v2 : Int32) (v3 : Int32) (v4 : Int32) (s0 : Int32) (s1 : Int32) (s2 : Nat) (s3 : Nat) (h : aH) (hf : fX11_within_46 k33 v0 v1 v2 v3 v4 s0 s1 s2 s3 h = some z) : Ev (d + 4) none mX11_within (0, 0) 46 [.ref v0, .int v1, .int v2, .int v3, .int v4] [.int s0, .int s1, .ref s2, .ref s3] h (QV z) := by
  obtain ⟨_, h1, hf⟩ := bnd hf
  obtain ⟨fs, ho⟩ := isO_ok h1
  obtain ⟨r, h2, hf⟩ := bnd hf
  refine ev_V kqX11_within_46 jX11_dayOn (zX11_dayOn (d := d + 0) h2) ho rfl rfl (Nat.le_of_ble_eq_true rfl) rfl (as := [.ref s2, .int s1, .int s0]) (rest := []) rfl (Nat.le_of_ble_eq_true rfl) (fun _ _ hq => ?_)
  obtain ⟨rfl, hh⟩ := hq
  rw [hh]
  exact jm [2, 1, 1, 1, 1] (fun v0 v1 v2 v3 v4 => fX11_within_49 k33 v0 v1 v2 v3 v4 r) (fun v0 v1 v2 v3 v4 q => tX11_within_49 hk33 v0 v1 v2 v3 v4 r q) hf
def wX11_within_39 : List En := [(.aload_n 0, 0, 0, 0), (.aload_n 0, 0, 0, 0), (.getfield 35, 195, 11, 20), (.iconst 0, 0, 0, 0), (.iconst 0, 0, 0, 0)]
def fX11_within_39 (k33 : Nat → Int32 → Int32 → Int32 → Int32 → aH → Option (aH)) (v0 : Nat) (v1 : Int32) (v2 : Int32) (v3 : Int32) (v4 : Int32) (h : aH) : Option (aH) :=
  (gFR h 11 v0 20).bind fun t1 =>
  fX11_within_46 k33 v0 v1 v2 v3 v4 (kI 0) (kI 0) t1 v0 h
theorem tX11_within_39 {d : Nat} {z : aH} {k33 : Nat → Int32 → Int32 → Int32 → Int32 → aH → Option (aH)} (hk33 : ∀ (v0 : Nat) (v1 : Int32) (v2 : Int32) (v3 : Int32) (v4 : Int32) (h : aH), k33 v0 v1 v2 v3 v4 h = some z → Ev (d + 4) none mX11_within (0, 0) 33 [.ref v0, .int v1, .int v2, .int v3, .int v4] [] h (QV z)) (v0 : Nat) (v1 : Int32) (v2 : Int32) (v3 : Int32) (v4 : Int32) (h : aH) (hf : fX11_within_39 k33 v0 v1 v2 v3 v4 h = some z) : Ev (d + 4) none mX11_within (0, 0) 39 [.ref v0, .int v1, .int v2, .int v3, .int v4] [] h (QV z) := 
  go_ok (X := none) (blk := wX11_within_39) (np := 46) (tt := 0) (kN := fun xs h st => app [2, 1, 1, 1, 1] (fun v0 v1 v2 v3 v4 => apS [1, 1, 2, 2] (fun s0 s1 s2 s3 => fX11_within_46 k33 v0 v1 v2 v3 v4 s0 s1 s2 s3 h) st) xs) (kT := fun _ _ _ => none) (kR := kRV)
    (fun xs h st q => jm [2, 1, 1, 1, 1] _ (fun v0 v1 v2 v3 v4 q => apS_ok [1, 1, 2, 2] _ (fun st => Ev (d + 4) none mX11_within (0, 0) 46 [.ref v0, .int v1, .int v2, .int v3, .int v4] st h (QV z)) st (fun s0 s1 s2 s3 q => tX11_within_46 hk33 v0 v1 v2 v3 v4 s0 s1 s2 s3 h q) q) q)
    (fun _ _ _ q => nos q)
    kRV_ok (Or.inr rfl) (by decide +kernel) (by decide +kernel) hf
def wX11_within_33 : List En := [(.iload 4, 0, 0, 0), (.iload_n 3, 0, 0, 0), (.if_icmp .gt 127, 163, 0, 0)]
def fX11_within_33 (k33 : Nat → Int32 → Int32 → Int32 → Int32 → aH → Option (aH)) (v0 : Nat) (v1 : Int32) (v2 : Int32) (v3 : Int32) (v4 : Int32) (h : aH) : Option (aH) :=
  if v3 < v4 then fX11_within_163 h else fX11_within_39 k33 v0 v1 v2 v3 v4 h
theorem tX11_within_33 {d : Nat} {z : aH} {k33 : Nat → Int32 → Int32 → Int32 → Int32 → aH → Option (aH)} (hk33 : ∀ (v0 : Nat) (v1 : Int32) (v2 : Int32) (v3 : Int32) (v4 : Int32) (h : aH), k33 v0 v1 v2 v3 v4 h = some z → Ev (d + 4) none mX11_within (0, 0) 33 [.ref v0, .int v1, .int v2, .int v3, .int v4] [] h (QV z)) (v0 : Nat) (v1 : Int32) (v2 : Int32) (v3 : Int32) (v4 : Int32) (h : aH) (hf : fX11_within_33 k33 v0 v1 v2 v3 v4 h = some z) : Ev (d + 4) none mX11_within (0, 0) 33 [.ref v0, .int v1, .int v2, .int v3, .int v4] [] h (QV z) := 
  go_ok (X := none) (blk := wX11_within_33) (np := 39) (tt := 163) (kN := fun xs h st => app [2, 1, 1, 1, 1] (fun v0 v1 v2 v3 v4 => apS [] (fX11_within_39 k33 v0 v1 v2 v3 v4 h) st) xs) (kT := fun xs h st => app [0, 0, 0, 0, 0] (apS [] (fX11_within_163 h) st) xs) (kR := kRV)
    (fun xs h st q => jm [2, 1, 1, 1, 1] _ (fun v0 v1 v2 v3 v4 q => apS_ok [] _ (fun st => Ev (d + 4) none mX11_within (0, 0) 39 [.ref v0, .int v1, .int v2, .int v3, .int v4] st h (QV z)) st (fun q => tX11_within_39 hk33 v0 v1 v2 v3 v4 h q) q) q)
    (fun xs h st q => jm [0, 0, 0, 0, 0] _ (fun q => apS_ok [] _ (fun st => Ev (d + 4) none mX11_within (0, 0) 163 [.null, .null, .null, .null, .null] st h (QV z)) st (fun q => tX11_within_163 h q) q) q)
    kRV_ok (Or.inr rfl) (by decide +kernel) (by decide +kernel) hf
def lX11_within_33 : Nat → Nat → Int32 → Int32 → Int32 → Int32 → aH → Option (aH)
  | 0, _, _, _, _, _, _ => none
  | n + 1, v0, v1, v2, v3, v4, h => fX11_within_33 (lX11_within_33 n) v0 v1 v2 v3 v4 h
theorem uX11_within_33 {d : Nat} {z : aH} : ∀ (n : Nat) (v0 : Nat) (v1 : Int32) (v2 : Int32) (v3 : Int32) (v4 : Int32) (h : aH), lX11_within_33 n v0 v1 v2 v3 v4 h = some z → Ev (d + 4) none mX11_within (0, 0) 33 [.ref v0, .int v1, .int v2, .int v3, .int v4] [] h (QV z) := by
  intro n
  induction n with
  | zero => intro _ _ _ _ _ _ q; exact nos (show (none : Option (aH)) = some z from q)
  | succ n ih => intro v0 v1 v2 v3 v4 h q; exact tX11_within_33 ih v0 v1 v2 v3 v4 h q
def wX11_within_4 : List En := [(.aload_n 0, 0, 0, 0), (.iconst 0, 0, 0, 0), (.putfield 311, 204, 11, 29), (.aload_n 0, 0, 0, 0), (.iconst 0, 0, 0, 0), (.putfield 314, 205, 11, 30), (.aload_n 0, 0, 0, 0), (.iconst 0, 0, 0, 0), (.putfield 317, 206, 11, 31), (.aload_n 0, 0, 0, 0), (.iconst 0, 0, 0, 0), (.putfield 320, 207, 11, 32), (.aload_n 0, 0, 0, 0), (.bipush (-2), 0, 0, 0), (.putfield 323, 208, 11, 33), (.iconst 1, 0, 0, 0), (.istore 4, 0, 0, 0)]
def fX11_within_4 (v0 : Nat) (v1 : Int32) (v2 : Int32) (v3 : Int32) (h : aH) : Option (aH) :=
  (pWV h 11 v0 29 (.int (kI 0))).bind fun h1 =>
  (pWV h1 11 v0 30 (.int (kI 0))).bind fun h2 =>
  (pWV h2 11 v0 31 (.int (kI 0))).bind fun h3 =>
  (pWV h3 11 v0 32 (.int (kI 0))).bind fun h4 =>
  (pWV h4 11 v0 33 (.int (kB (-2)))).bind fun h5 =>
  lX11_within_33 FU v0 v1 v2 v3 (kI 1) h5
theorem tX11_within_4 {d : Nat} {z : aH} (v0 : Nat) (v1 : Int32) (v2 : Int32) (v3 : Int32) (h : aH) (hf : fX11_within_4 v0 v1 v2 v3 h = some z) : Ev (d + 4) none mX11_within (0, 0) 4 [.ref v0, .int v1, .int v2, .int v3, .null] [] h (QV z) := 
  go_ok (X := none) (blk := wX11_within_4) (np := 33) (tt := 0) (kN := fun xs h st => app [2, 1, 1, 1, 1] (fun v0 v1 v2 v3 v4 => apS [] (lX11_within_33 FU v0 v1 v2 v3 v4 h) st) xs) (kT := fun _ _ _ => none) (kR := kRV)
    (fun xs h st q => jm [2, 1, 1, 1, 1] _ (fun v0 v1 v2 v3 v4 q => apS_ok [] _ (fun st => Ev (d + 4) none mX11_within (0, 0) 33 [.ref v0, .int v1, .int v2, .int v3, .int v4] st h (QV z)) st (fun q => uX11_within_33 FU v0 v1 v2 v3 v4 h q) q) q)
    (fun _ _ _ q => nos q)
    kRV_ok (Or.inr rfl) (by decide +kernel) (by decide +kernel) hf
theorem kqX11_within_1 : okC mX11_within 1 (.invokevirtual 278) 220 237 0 0 = true := by decide +kernel
def fX11_within_1 (v0 : Nat) (v1 : Int32) (v2 : Int32) (v3 : Int32) (s0 : Nat) (h : aH) : Option (aH) :=
  (isO h 11 s0).bind fun _ =>
  (gX11_begin s0 h).bind fun r =>
  fX11_within_4 v0 v1 v2 v3 r
theorem tX11_within_1 {d : Nat} {z : aH} (v0 : Nat) (v1 : Int32) (v2 : Int32) (v3 : Int32) (s0 : Nat) (h : aH) (hf : fX11_within_1 v0 v1 v2 v3 s0 h = some z) : Ev (d + 4) none mX11_within (0, 0) 1 [.ref v0, .int v1, .int v2, .int v3, .null] [.ref s0] h (QV z) := by
  obtain ⟨_, h1, hf⟩ := bnd hf
  obtain ⟨fs, ho⟩ := isO_ok h1
  obtain ⟨r, h2, hf⟩ := bnd hf
  refine ev_V kqX11_within_1 jX11_begin (zX11_begin (d := d + 2) h2) ho rfl rfl (Nat.le_of_ble_eq_true rfl) rfl (as := []) (rest := []) rfl (Nat.le_of_ble_eq_true rfl) (fun _ _ hq => ?_)
  obtain ⟨rfl, hh⟩ := hq
  rw [hh]
  exact jm [2, 1, 1, 1, 0] (fun v0 v1 v2 v3 => fX11_within_4 v0 v1 v2 v3 r) (fun v0 v1 v2 v3 q => tX11_within_4 v0 v1 v2 v3 r q) hf
def wX11_within_0 : List En := [(.aload_n 0, 0, 0, 0)]
def fX11_within_0 (v0 : Nat) (v1 : Int32) (v2 : Int32) (v3 : Int32) (h : aH) : Option (aH) :=
  fX11_within_1 v0 v1 v2 v3 v0 h
theorem tX11_within_0 {d : Nat} {z : aH} (v0 : Nat) (v1 : Int32) (v2 : Int32) (v3 : Int32) (h : aH) (hf : fX11_within_0 v0 v1 v2 v3 h = some z) : Ev (d + 4) none mX11_within (0, 0) 0 [.ref v0, .int v1, .int v2, .int v3, .null] [] h (QV z) := 
  go_ok (X := none) (blk := wX11_within_0) (np := 1) (tt := 0) (kN := fun xs h st => app [2, 1, 1, 1, 0] (fun v0 v1 v2 v3 => apS [2] (fun s0 => fX11_within_1 v0 v1 v2 v3 s0 h) st) xs) (kT := fun _ _ _ => none) (kR := kRV)
    (fun xs h st q => jm [2, 1, 1, 1, 0] _ (fun v0 v1 v2 v3 q => apS_ok [2] _ (fun st => Ev (d + 4) none mX11_within (0, 0) 1 [.ref v0, .int v1, .int v2, .int v3, .null] st h (QV z)) st (fun s0 q => tX11_within_1 v0 v1 v2 v3 s0 h q) q) q)
    (fun _ _ _ q => nos q)
    kRV_ok (Or.inr rfl) (by decide +kernel) (by decide +kernel) hf
def gX11_within (v0 : Nat) (v1 : Int32) (v2 : Int32) (v3 : Int32) (h : aH) : Option (aH) := fX11_within_0 v0 v1 v2 v3 h
theorem zX11_within {d : Nat} {z : aH} {v0 : Nat} {v1 : Int32} {v2 : Int32} {v3 : Int32} {h : aH} (q : gX11_within v0 v1 v2 v3 h = some z) : CT (d + 4) mX11_within (0, 0) [.ref v0, .int v1, .int v2, .int v3] h (QV z) :=
  ct_ev (by decide +kernel) (Nat.le_of_ble_eq_true rfl) QV_r (jm [2, 1, 1, 1, 0] (fun v0 v1 v2 v3 => fX11_within_0 v0 v1 v2 v3 h) (fun v0 v1 v2 v3 q => tX11_within_0 v0 v1 v2 v3 h q) q)
def wX11_eats_33 : List En := [(.aload_n 0, 0, 0, 0), (.getfield 311, 204, 11, 29), (.ireturn, 0, 0, 0)]
def fX11_eats_33 (v0 : Nat) (h : aH) : Option (Int32 × aH) :=
  (gFI h 11 v0 29).bind fun t1 =>
  some (t1, h)
theorem tX11_eats_33 {d : Nat} {z : Int32 × aH} (v0 : Nat) (h : aH) (hf : fX11_eats_33 v0 h = some z) : Ev (d + 5) none mX11_eats (0, 0) 33 [.ref v0, .null, .null, .null] [] h (QI z) := 
  go_ok (X := none) (blk := wX11_eats_33) (np := 38) (tt := 0) (kN := fun _ _ _ => none) (kT := fun _ _ _ => none) (kR := kRI)
    (fun _ _ _ q => nos q)
    (fun _ _ _ q => nos q)
    kRI_ok (Or.inr rfl) (by decide +kernel) (by decide +kernel) hf
theorem kqX11_eats_30 : okC mX11_eats 30 (.invokevirtual 326) 250 267 0 3 = true := by decide +kernel
def fX11_eats_30 (v0 : Nat) (s0 : Int32) (s1 : Int32) (s2 : Int32) (s3 : Nat) (h : aH) : Option (Int32 × aH) :=
  (isO h 11 s3).bind fun _ =>
  (gX11_within s3 s2 s1 s0 h).bind fun r =>
  fX11_eats_33 v0 r
theorem tX11_eats_30 {d : Nat} {z : Int32 × aH} (v0 : Nat) (s0 : Int32) (s1 : Int32) (s2 : Int32) (s3 : Nat) (h : aH) (hf : fX11_eats_30 v0 s0 s1 s2 s3 h = some z) : Ev (d + 5) none mX11_eats (0, 0) 30 [.ref v0, .null, .null, .null] [.int s0, .int s1, .int s2, .ref s3] h (QI z) := by
  obtain ⟨_, h1, hf⟩ := bnd hf
  obtain ⟨fs, ho⟩ := isO_ok h1
  obtain ⟨r, h2, hf⟩ := bnd hf
  refine ev_V kqX11_eats_30 jX11_within (zX11_within (d := d + 0) h2) ho rfl rfl (Nat.le_of_ble_eq_true rfl) rfl (as := [.int s2, .int s1, .int s0]) (rest := []) rfl (Nat.le_of_ble_eq_true rfl) (fun _ _ hq => ?_)
  obtain ⟨rfl, hh⟩ := hq
  rw [hh]
  exact jm [2, 0, 0, 0] (fun v0 => fX11_eats_33 v0 r) (fun v0 q => tX11_eats_33 v0 r q) hf
def wX11_eats_26 : List En := [(.aload_n 0, 0, 0, 0), (.iload_n 1, 0, 0, 0), (.iconst (-1), 0, 0, 0), (.iload_n 2, 0, 0, 0)]
def fX11_eats_26 (v0 : Nat) (v1 : Int32) (v2 : Int32) (h : aH) : Option (Int32 × aH) :=
  fX11_eats_30 v0 v2 (kI (-1)) v1 v0 h
theorem tX11_eats_26 {d : Nat} {z : Int32 × aH} (v0 : Nat) (v1 : Int32) (v2 : Int32) (h : aH) (hf : fX11_eats_26 v0 v1 v2 h = some z) : Ev (d + 5) none mX11_eats (0, 0) 26 [.ref v0, .int v1, .int v2, .null] [] h (QI z) := 
  go_ok (X := none) (blk := wX11_eats_26) (np := 30) (tt := 0) (kN := fun xs h st => app [2, 0, 0, 0] (fun v0 => apS [1, 1, 1, 2] (fun s0 s1 s2 s3 => fX11_eats_30 v0 s0 s1 s2 s3 h) st) xs) (kT := fun _ _ _ => none) (kR := kRI)
    (fun xs h st q => jm [2, 0, 0, 0] _ (fun v0 q => apS_ok [1, 1, 1, 2] _ (fun st => Ev (d + 5) none mX11_eats (0, 0) 30 [.ref v0, .null, .null, .null] st h (QI z)) st (fun s0 s1 s2 s3 q => tX11_eats_30 v0 s0 s1 s2 s3 h q) q) q)
    (fun _ _ _ q => nos q)
    kRI_ok (Or.inr rfl) (by decide +kernel) (by decide +kernel) hf
def wX11_eats_25 : List En := [(.ireturn, 0, 0, 0)]
def fX11_eats_25 (s0 : Int32) (h : aH) : Option (Int32 × aH) :=
  some (s0, h)
theorem tX11_eats_25 {d : Nat} {z : Int32 × aH} (s0 : Int32) (h : aH) (hf : fX11_eats_25 s0 h = some z) : Ev (d + 5) none mX11_eats (0, 0) 25 [.null, .null, .null, .null] [.int s0] h (QI z) := 
  go_ok (X := none) (blk := wX11_eats_25) (np := 26) (tt := 0) (kN := fun _ _ _ => none) (kT := fun _ _ _ => none) (kR := kRI)
    (fun _ _ _ q => nos q)
    (fun _ _ _ q => nos q)
    kRI_ok (Or.inr rfl) (by decide +kernel) (by decide +kernel) hf
theorem kqX11_eats_22 : okC mX11_eats 22 (.invokevirtual 164) 183 198 0 1 = true := by decide +kernel
def fX11_eats_22 (s0 : Int32) (s1 : Nat) (h : aH) : Option (Int32 × aH) :=
  (isO h 11 s1).bind fun _ =>
  (gX11_no s1 s0 h).bind fun r =>
  fX11_eats_25 r.1 r.2
theorem tX11_eats_22 {d : Nat} {z : Int32 × aH} (s0 : Int32) (s1 : Nat) (h : aH) (hf : fX11_eats_22 s0 s1 h = some z) : Ev (d + 5) none mX11_eats (0, 0) 22 [.null, .null, .null, .null] [.int s0, .ref s1] h (QI z) := by
  obtain ⟨_, h1, hf⟩ := bnd hf
  obtain ⟨fs, ho⟩ := isO_ok h1
  obtain ⟨r, h2, hf⟩ := bnd hf
  refine ev_V kqX11_eats_22 jX11_no (zX11_no (d := d + 4) h2) ho rfl rfl (Nat.le_of_ble_eq_true rfl) rfl (as := [.int s0]) (rest := []) rfl (Nat.le_of_ble_eq_true rfl) (fun _ _ hq => ?_)
  obtain ⟨rfl, rfl⟩ := hq
  exact jm [0, 0, 0, 0] (fX11_eats_25 r.1 r.2) (fun q => tX11_eats_25 r.1 r.2 q) hf
def wX11_eats_20 : List En := [(.aload_n 0, 0, 0, 0), (.iload_n 3, 0, 0, 0)]
def fX11_eats_20 (v0 : Nat) (v3 : Int32) (h : aH) : Option (Int32 × aH) :=
  fX11_eats_22 v3 v0 h
theorem tX11_eats_20 {d : Nat} {z : Int32 × aH} (v0 : Nat) (v3 : Int32) (h : aH) (hf : fX11_eats_20 v0 v3 h = some z) : Ev (d + 5) none mX11_eats (0, 0) 20 [.ref v0, .null, .null, .int v3] [] h (QI z) := 
  go_ok (X := none) (blk := wX11_eats_20) (np := 22) (tt := 0) (kN := fun xs h st => app [0, 0, 0, 0] (apS [1, 2] (fun s0 s1 => fX11_eats_22 s0 s1 h) st) xs) (kT := fun _ _ _ => none) (kR := kRI)
    (fun xs h st q => jm [0, 0, 0, 0] _ (fun q => apS_ok [1, 2] _ (fun st => Ev (d + 5) none mX11_eats (0, 0) 22 [.null, .null, .null, .null] st h (QI z)) st (fun s0 s1 q => tX11_eats_22 s0 s1 h q) q) q)
    (fun _ _ _ q => nos q)
    kRI_ok (Or.inr rfl) (by decide +kernel) (by decide +kernel) hf
def wX11_eats_15 : List En := [(.istore_n 3, 0, 0, 0), (.iload_n 3, 0, 0, 0), (.ifCond .eq 9, 26, 0, 0)]
def fX11_eats_15 (v0 : Nat) (v1 : Int32) (v2 : Int32) (s0 : Int32) (h : aH) : Option (Int32 × aH) :=
  if s0 = 0 then fX11_eats_26 v0 v1 v2 h else fX11_eats_20 v0 s0 h
theorem tX11_eats_15 {d : Nat} {z : Int32 × aH} (v0 : Nat) (v1 : Int32) (v2 : Int32) (s0 : Int32) (h : aH) (hf : fX11_eats_15 v0 v1 v2 s0 h = some z) : Ev (d + 5) none mX11_eats (0, 0) 15 [.ref v0, .int v1, .int v2, .null] [.int s0] h (QI z) := 
  go_ok (X := none) (blk := wX11_eats_15) (np := 20) (tt := 26) (kN := fun xs h st => app [2, 0, 0, 1] (fun v0 v3 => apS [] (fX11_eats_20 v0 v3 h) st) xs) (kT := fun xs h st => app [2, 1, 1, 0] (fun v0 v1 v2 => apS [] (fX11_eats_26 v0 v1 v2 h) st) xs) (kR := kRI)
    (fun xs h st q => jm [2, 0, 0, 1] _ (fun v0 v3 q => apS_ok [] _ (fun st => Ev (d + 5) none mX11_eats (0, 0) 20 [.ref v0, .null, .null, .int v3] st h (QI z)) st (fun q => tX11_eats_20 v0 v3 h q) q) q)
    (fun xs h st q => jm [2, 1, 1, 0] _ (fun v0 v1 v2 q => apS_ok [] _ (fun st => Ev (d + 5) none mX11_eats (0, 0) 26 [.ref v0, .int v1, .int v2, .null] st h (QI z)) st (fun q => tX11_eats_26 v0 v1 v2 h q) q) q)
    kRI_ok (Or.inr rfl) (by decide +kernel) (by decide +kernel) hf
theorem kqX11_eats_12 : okC mX11_eats 12 (.invokevirtual 300) 239 256 0 3 = true := by decide +kernel
def fX11_eats_12 (v0 : Nat) (v1 : Int32) (v2 : Int32) (s0 : Int32) (s1 : Int32) (s2 : Int32) (s3 : Nat) (h : aH) : Option (Int32 × aH) :=
  (isO h 11 s3).bind fun _ =>
  (gX11_aheadWhy s3 s2 s1 s0 h).bind fun r =>
  fX11_eats_15 v0 v1 v2 r.1 r.2
theorem tX11_eats_12 {d : Nat} {z : Int32 × aH} (v0 : Nat) (v1 : Int32) (v2 : Int32) (s0 : Int32) (s1 : Int32) (s2 : Int32) (s3 : Nat) (h : aH) (hf : fX11_eats_12 v0 v1 v2 s0 s1 s2 s3 h = some z) : Ev (d + 5) none mX11_eats (0, 0) 12 [.ref v0, .int v1, .int v2, .null] [.int s0, .int s1, .int s2, .ref s3] h (QI z) := by
  obtain ⟨_, h1, hf⟩ := bnd hf
  obtain ⟨fs, ho⟩ := isO_ok h1
  obtain ⟨r, h2, hf⟩ := bnd hf
  refine ev_V kqX11_eats_12 jX11_aheadWhy (zX11_aheadWhy (d := d + 3) h2) ho rfl rfl (Nat.le_of_ble_eq_true rfl) rfl (as := [.int s2, .int s1, .int s0]) (rest := []) rfl (Nat.le_of_ble_eq_true rfl) (fun _ _ hq => ?_)
  obtain ⟨rfl, rfl⟩ := hq
  exact jm [2, 1, 1, 0] (fun v0 v1 v2 => fX11_eats_15 v0 v1 v2 r.1 r.2) (fun v0 v1 v2 q => tX11_eats_15 v0 v1 v2 r.1 r.2 q) hf
def wX11_eats_10 : List En := [(.iconst 0, 0, 0, 0), (.iload_n 2, 0, 0, 0)]
def fX11_eats_10 (v0 : Nat) (v1 : Int32) (v2 : Int32) (s0 : Int32) (s1 : Nat) (h : aH) : Option (Int32 × aH) :=
  fX11_eats_12 v0 v1 v2 v2 (kI 0) s0 s1 h
theorem tX11_eats_10 {d : Nat} {z : Int32 × aH} (v0 : Nat) (v1 : Int32) (v2 : Int32) (s0 : Int32) (s1 : Nat) (h : aH) (hf : fX11_eats_10 v0 v1 v2 s0 s1 h = some z) : Ev (d + 5) none mX11_eats (0, 0) 10 [.ref v0, .int v1, .int v2, .null] [.int s0, .ref s1] h (QI z) := 
  go_ok (X := none) (blk := wX11_eats_10) (np := 12) (tt := 0) (kN := fun xs h st => app [2, 1, 1, 0] (fun v0 v1 v2 => apS [1, 1, 1, 2] (fun s0 s1 s2 s3 => fX11_eats_12 v0 v1 v2 s0 s1 s2 s3 h) st) xs) (kT := fun _ _ _ => none) (kR := kRI)
    (fun xs h st q => jm [2, 1, 1, 0] _ (fun v0 v1 v2 q => apS_ok [1, 1, 1, 2] _ (fun st => Ev (d + 5) none mX11_eats (0, 0) 12 [.ref v0, .int v1, .int v2, .null] st h (QI z)) st (fun s0 s1 s2 s3 q => tX11_eats_12 v0 v1 v2 s0 s1 s2 s3 h q) q) q)
    (fun _ _ _ q => nos q)
    kRI_ok (Or.inr rfl) (by decide +kernel) (by decide +kernel) hf
theorem kqX11_eats_7 : okC mX11_eats 7 (.invokevirtual 285) 214 231 0 1 = true := by decide +kernel
def fX11_eats_7 (v0 : Nat) (v1 : Int32) (v2 : Int32) (s0 : Int32) (s1 : Nat) (s2 : Nat) (h : aH) : Option (Int32 × aH) :=
  (isO h 11 s1).bind fun _ =>
  (gX11_isPerson s1 s0 h).bind fun r =>
  fX11_eats_10 v0 v1 v2 r.1 s2 r.2
theorem tX11_eats_7 {d : Nat} {z : Int32 × aH} (v0 : Nat) (v1 : Int32) (v2 : Int32) (s0 : Int32) (s1 : Nat) (s2 : Nat) (h : aH) (hf : fX11_eats_7 v0 v1 v2 s0 s1 s2 h = some z) : Ev (d + 5) none mX11_eats (0, 0) 7 [.ref v0, .int v1, .int v2, .null] [.int s0, .ref s1, .ref s2] h (QI z) := by
  obtain ⟨_, h1, hf⟩ := bnd hf
  obtain ⟨fs, ho⟩ := isO_ok h1
  obtain ⟨r, h2, hf⟩ := bnd hf
  refine ev_V kqX11_eats_7 jX11_isPerson (zX11_isPerson (d := d + 3) h2) ho rfl rfl (Nat.le_of_ble_eq_true rfl) rfl (as := [.int s0]) (rest := [.ref s2]) rfl (Nat.le_of_ble_eq_true rfl) (fun _ _ hq => ?_)
  obtain ⟨-, rfl, rfl⟩ := hq
  exact jm [2, 1, 1, 0] (fun v0 v1 v2 => fX11_eats_10 v0 v1 v2 r.1 s2 r.2) (fun v0 v1 v2 q => tX11_eats_10 v0 v1 v2 r.1 s2 r.2 q) hf
def wX11_eats_4 : List En := [(.aload_n 0, 0, 0, 0), (.aload_n 0, 0, 0, 0), (.iload_n 1, 0, 0, 0)]
def fX11_eats_4 (v0 : Nat) (v1 : Int32) (v2 : Int32) (h : aH) : Option (Int32 × aH) :=
  fX11_eats_7 v0 v1 v2 v1 v0 v0 h
theorem tX11_eats_4 {d : Nat} {z : Int32 × aH} (v0 : Nat) (v1 : Int32) (v2 : Int32) (h : aH) (hf : fX11_eats_4 v0 v1 v2 h = some z) : Ev (d + 5) none mX11_eats (0, 0) 4 [.ref v0, .int v1, .int v2, .null] [] h (QI z) := 
  go_ok (X := none) (blk := wX11_eats_4) (np := 7) (tt := 0) (kN := fun xs h st => app [2, 1, 1, 0] (fun v0 v1 v2 => apS [1, 2, 2] (fun s0 s1 s2 => fX11_eats_7 v0 v1 v2 s0 s1 s2 h) st) xs) (kT := fun _ _ _ => none) (kR := kRI)
    (fun xs h st q => jm [2, 1, 1, 0] _ (fun v0 v1 v2 q => apS_ok [1, 2, 2] _ (fun st => Ev (d + 5) none mX11_eats (0, 0) 7 [.ref v0, .int v1, .int v2, .null] st h (QI z)) st (fun s0 s1 s2 q => tX11_eats_7 v0 v1 v2 s0 s1 s2 h q) q) q)
    (fun _ _ _ q => nos q)
    kRI_ok (Or.inr rfl) (by decide +kernel) (by decide +kernel) hf
theorem kqX11_eats_1 : okC mX11_eats 1 (.invokevirtual 161) 181 196 0 0 = true := by decide +kernel
def fX11_eats_1 (v0 : Nat) (v1 : Int32) (v2 : Int32) (s0 : Nat) (h : aH) : Option (Int32 × aH) :=
  (isO h 11 s0).bind fun _ =>
  (gX11_anew s0 h).bind fun r =>
  fX11_eats_4 v0 v1 v2 r
theorem tX11_eats_1 {d : Nat} {z : Int32 × aH} (v0 : Nat) (v1 : Int32) (v2 : Int32) (s0 : Nat) (h : aH) (hf : fX11_eats_1 v0 v1 v2 s0 h = some z) : Ev (d + 5) none mX11_eats (0, 0) 1 [.ref v0, .int v1, .int v2, .null] [.ref s0] h (QI z) := by
  obtain ⟨_, h1, hf⟩ := bnd hf
  obtain ⟨fs, ho⟩ := isO_ok h1
  obtain ⟨r, h2, hf⟩ := bnd hf
  refine ev_V kqX11_eats_1 jX11_anew (zX11_anew (d := d + 4) h2) ho rfl rfl (Nat.le_of_ble_eq_true rfl) rfl (as := []) (rest := []) rfl (Nat.le_of_ble_eq_true rfl) (fun _ _ hq => ?_)
  obtain ⟨rfl, hh⟩ := hq
  rw [hh]
  exact jm [2, 1, 1, 0] (fun v0 v1 v2 => fX11_eats_4 v0 v1 v2 r) (fun v0 v1 v2 q => tX11_eats_4 v0 v1 v2 r q) hf
def wX11_eats_0 : List En := [(.aload_n 0, 0, 0, 0)]
def fX11_eats_0 (v0 : Nat) (v1 : Int32) (v2 : Int32) (h : aH) : Option (Int32 × aH) :=
  fX11_eats_1 v0 v1 v2 v0 h
theorem tX11_eats_0 {d : Nat} {z : Int32 × aH} (v0 : Nat) (v1 : Int32) (v2 : Int32) (h : aH) (hf : fX11_eats_0 v0 v1 v2 h = some z) : Ev (d + 5) none mX11_eats (0, 0) 0 [.ref v0, .int v1, .int v2, .null] [] h (QI z) := 
  go_ok (X := none) (blk := wX11_eats_0) (np := 1) (tt := 0) (kN := fun xs h st => app [2, 1, 1, 0] (fun v0 v1 v2 => apS [2] (fun s0 => fX11_eats_1 v0 v1 v2 s0 h) st) xs) (kT := fun _ _ _ => none) (kR := kRI)
    (fun xs h st q => jm [2, 1, 1, 0] _ (fun v0 v1 v2 q => apS_ok [2] _ (fun st => Ev (d + 5) none mX11_eats (0, 0) 1 [.ref v0, .int v1, .int v2, .null] st h (QI z)) st (fun s0 q => tX11_eats_1 v0 v1 v2 s0 h q) q) q)
    (fun _ _ _ q => nos q)
    kRI_ok (Or.inr rfl) (by decide +kernel) (by decide +kernel) hf
def gX11_eats (v0 : Nat) (v1 : Int32) (v2 : Int32) (h : aH) : Option (Int32 × aH) := fX11_eats_0 v0 v1 v2 h
theorem zX11_eats {d : Nat} {z : Int32 × aH} {v0 : Nat} {v1 : Int32} {v2 : Int32} {h : aH} (q : gX11_eats v0 v1 v2 h = some z) : CT (d + 5) mX11_eats (0, 0) [.ref v0, .int v1, .int v2] h (QI z) :=
  ct_ev (by decide +kernel) (Nat.le_of_ble_eq_true rfl) QI_r (jm [2, 1, 1, 0] (fun v0 v1 v2 => fX11_eats_0 v0 v1 v2 h) (fun v0 v1 v2 q => tX11_eats_0 v0 v1 v2 h q) q)
def wX11_says_33 : List En := [(.aload_n 0, 0, 0, 0), (.getfield 314, 205, 11, 30), (.ireturn, 0, 0, 0)]
def fX11_says_33 (v0 : Nat) (h : aH) : Option (Int32 × aH) :=
  (gFI h 11 v0 30).bind fun t1 =>
  some (t1, h)
theorem tX11_says_33 {d : Nat} {z : Int32 × aH} (v0 : Nat) (h : aH) (hf : fX11_says_33 v0 h = some z) : Ev (d + 5) none mX11_says (0, 0) 33 [.ref v0, .null, .null, .null] [] h (QI z) := 
  go_ok (X := none) (blk := wX11_says_33) (np := 38) (tt := 0) (kN := fun _ _ _ => none) (kT := fun _ _ _ => none) (kR := kRI)
    (fun _ _ _ q => nos q)
    (fun _ _ _ q => nos q)
    kRI_ok (Or.inr rfl) (by decide +kernel) (by decide +kernel) hf
theorem kqX11_says_30 : okC mX11_says 30 (.invokevirtual 326) 250 267 0 3 = true := by decide +kernel
def fX11_says_30 (v0 : Nat) (s0 : Int32) (s1 : Int32) (s2 : Int32) (s3 : Nat) (h : aH) : Option (Int32 × aH) :=
  (isO h 11 s3).bind fun _ =>
  (gX11_within s3 s2 s1 s0 h).bind fun r =>
  fX11_says_33 v0 r
theorem tX11_says_30 {d : Nat} {z : Int32 × aH} (v0 : Nat) (s0 : Int32) (s1 : Int32) (s2 : Int32) (s3 : Nat) (h : aH) (hf : fX11_says_30 v0 s0 s1 s2 s3 h = some z) : Ev (d + 5) none mX11_says (0, 0) 30 [.ref v0, .null, .null, .null] [.int s0, .int s1, .int s2, .ref s3] h (QI z) := by
  obtain ⟨_, h1, hf⟩ := bnd hf
  obtain ⟨fs, ho⟩ := isO_ok h1
  obtain ⟨r, h2, hf⟩ := bnd hf
  refine ev_V kqX11_says_30 jX11_within (zX11_within (d := d + 0) h2) ho rfl rfl (Nat.le_of_ble_eq_true rfl) rfl (as := [.int s2, .int s1, .int s0]) (rest := []) rfl (Nat.le_of_ble_eq_true rfl) (fun _ _ hq => ?_)
  obtain ⟨rfl, hh⟩ := hq
  rw [hh]
  exact jm [2, 0, 0, 0] (fun v0 => fX11_says_33 v0 r) (fun v0 q => tX11_says_33 v0 r q) hf
def wX11_says_26 : List En := [(.aload_n 0, 0, 0, 0), (.iload_n 1, 0, 0, 0), (.iconst (-1), 0, 0, 0), (.iload_n 2, 0, 0, 0)]
def fX11_says_26 (v0 : Nat) (v1 : Int32) (v2 : Int32) (h : aH) : Option (Int32 × aH) :=
  fX11_says_30 v0 v2 (kI (-1)) v1 v0 h
theorem tX11_says_26 {d : Nat} {z : Int32 × aH} (v0 : Nat) (v1 : Int32) (v2 : Int32) (h : aH) (hf : fX11_says_26 v0 v1 v2 h = some z) : Ev (d + 5) none mX11_says (0, 0) 26 [.ref v0, .int v1, .int v2, .null] [] h (QI z) := 
  go_ok (X := none) (blk := wX11_says_26) (np := 30) (tt := 0) (kN := fun xs h st => app [2, 0, 0, 0] (fun v0 => apS [1, 1, 1, 2] (fun s0 s1 s2 s3 => fX11_says_30 v0 s0 s1 s2 s3 h) st) xs) (kT := fun _ _ _ => none) (kR := kRI)
    (fun xs h st q => jm [2, 0, 0, 0] _ (fun v0 q => apS_ok [1, 1, 1, 2] _ (fun st => Ev (d + 5) none mX11_says (0, 0) 30 [.ref v0, .null, .null, .null] st h (QI z)) st (fun s0 s1 s2 s3 q => tX11_says_30 v0 s0 s1 s2 s3 h q) q) q)
    (fun _ _ _ q => nos q)
    kRI_ok (Or.inr rfl) (by decide +kernel) (by decide +kernel) hf
def wX11_says_25 : List En := [(.ireturn, 0, 0, 0)]
def fX11_says_25 (s0 : Int32) (h : aH) : Option (Int32 × aH) :=
  some (s0, h)
theorem tX11_says_25 {d : Nat} {z : Int32 × aH} (s0 : Int32) (h : aH) (hf : fX11_says_25 s0 h = some z) : Ev (d + 5) none mX11_says (0, 0) 25 [.null, .null, .null, .null] [.int s0] h (QI z) := 
  go_ok (X := none) (blk := wX11_says_25) (np := 26) (tt := 0) (kN := fun _ _ _ => none) (kT := fun _ _ _ => none) (kR := kRI)
    (fun _ _ _ q => nos q)
    (fun _ _ _ q => nos q)
    kRI_ok (Or.inr rfl) (by decide +kernel) (by decide +kernel) hf
theorem kqX11_says_22 : okC mX11_says 22 (.invokevirtual 164) 183 198 0 1 = true := by decide +kernel
def fX11_says_22 (s0 : Int32) (s1 : Nat) (h : aH) : Option (Int32 × aH) :=
  (isO h 11 s1).bind fun _ =>
  (gX11_no s1 s0 h).bind fun r =>
  fX11_says_25 r.1 r.2
theorem tX11_says_22 {d : Nat} {z : Int32 × aH} (s0 : Int32) (s1 : Nat) (h : aH) (hf : fX11_says_22 s0 s1 h = some z) : Ev (d + 5) none mX11_says (0, 0) 22 [.null, .null, .null, .null] [.int s0, .ref s1] h (QI z) := by
  obtain ⟨_, h1, hf⟩ := bnd hf
  obtain ⟨fs, ho⟩ := isO_ok h1
  obtain ⟨r, h2, hf⟩ := bnd hf
  refine ev_V kqX11_says_22 jX11_no (zX11_no (d := d + 4) h2) ho rfl rfl (Nat.le_of_ble_eq_true rfl) rfl (as := [.int s0]) (rest := []) rfl (Nat.le_of_ble_eq_true rfl) (fun _ _ hq => ?_)
  obtain ⟨rfl, rfl⟩ := hq
  exact jm [0, 0, 0, 0] (fX11_says_25 r.1 r.2) (fun q => tX11_says_25 r.1 r.2 q) hf
def wX11_says_20 : List En := [(.aload_n 0, 0, 0, 0), (.iload_n 3, 0, 0, 0)]
def fX11_says_20 (v0 : Nat) (v3 : Int32) (h : aH) : Option (Int32 × aH) :=
  fX11_says_22 v3 v0 h
theorem tX11_says_20 {d : Nat} {z : Int32 × aH} (v0 : Nat) (v3 : Int32) (h : aH) (hf : fX11_says_20 v0 v3 h = some z) : Ev (d + 5) none mX11_says (0, 0) 20 [.ref v0, .null, .null, .int v3] [] h (QI z) := 
  go_ok (X := none) (blk := wX11_says_20) (np := 22) (tt := 0) (kN := fun xs h st => app [0, 0, 0, 0] (apS [1, 2] (fun s0 s1 => fX11_says_22 s0 s1 h) st) xs) (kT := fun _ _ _ => none) (kR := kRI)
    (fun xs h st q => jm [0, 0, 0, 0] _ (fun q => apS_ok [1, 2] _ (fun st => Ev (d + 5) none mX11_says (0, 0) 22 [.null, .null, .null, .null] st h (QI z)) st (fun s0 s1 q => tX11_says_22 s0 s1 h q) q) q)
    (fun _ _ _ q => nos q)
    kRI_ok (Or.inr rfl) (by decide +kernel) (by decide +kernel) hf
def wX11_says_15 : List En := [(.istore_n 3, 0, 0, 0), (.iload_n 3, 0, 0, 0), (.ifCond .eq 9, 26, 0, 0)]
def fX11_says_15 (v0 : Nat) (v1 : Int32) (v2 : Int32) (s0 : Int32) (h : aH) : Option (Int32 × aH) :=
  if s0 = 0 then fX11_says_26 v0 v1 v2 h else fX11_says_20 v0 s0 h
theorem tX11_says_15 {d : Nat} {z : Int32 × aH} (v0 : Nat) (v1 : Int32) (v2 : Int32) (s0 : Int32) (h : aH) (hf : fX11_says_15 v0 v1 v2 s0 h = some z) : Ev (d + 5) none mX11_says (0, 0) 15 [.ref v0, .int v1, .int v2, .null] [.int s0] h (QI z) := 
  go_ok (X := none) (blk := wX11_says_15) (np := 20) (tt := 26) (kN := fun xs h st => app [2, 0, 0, 1] (fun v0 v3 => apS [] (fX11_says_20 v0 v3 h) st) xs) (kT := fun xs h st => app [2, 1, 1, 0] (fun v0 v1 v2 => apS [] (fX11_says_26 v0 v1 v2 h) st) xs) (kR := kRI)
    (fun xs h st q => jm [2, 0, 0, 1] _ (fun v0 v3 q => apS_ok [] _ (fun st => Ev (d + 5) none mX11_says (0, 0) 20 [.ref v0, .null, .null, .int v3] st h (QI z)) st (fun q => tX11_says_20 v0 v3 h q) q) q)
    (fun xs h st q => jm [2, 1, 1, 0] _ (fun v0 v1 v2 q => apS_ok [] _ (fun st => Ev (d + 5) none mX11_says (0, 0) 26 [.ref v0, .int v1, .int v2, .null] st h (QI z)) st (fun q => tX11_says_26 v0 v1 v2 h q) q) q)
    kRI_ok (Or.inr rfl) (by decide +kernel) (by decide +kernel) hf
theorem kqX11_says_12 : okC mX11_says 12 (.invokevirtual 300) 239 256 0 3 = true := by decide +kernel
def fX11_says_12 (v0 : Nat) (v1 : Int32) (v2 : Int32) (s0 : Int32) (s1 : Int32) (s2 : Int32) (s3 : Nat) (h : aH) : Option (Int32 × aH) :=
  (isO h 11 s3).bind fun _ =>
  (gX11_aheadWhy s3 s2 s1 s0 h).bind fun r =>
  fX11_says_15 v0 v1 v2 r.1 r.2
theorem tX11_says_12 {d : Nat} {z : Int32 × aH} (v0 : Nat) (v1 : Int32) (v2 : Int32) (s0 : Int32) (s1 : Int32) (s2 : Int32) (s3 : Nat) (h : aH) (hf : fX11_says_12 v0 v1 v2 s0 s1 s2 s3 h = some z) : Ev (d + 5) none mX11_says (0, 0) 12 [.ref v0, .int v1, .int v2, .null] [.int s0, .int s1, .int s2, .ref s3] h (QI z) := by
  obtain ⟨_, h1, hf⟩ := bnd hf
  obtain ⟨fs, ho⟩ := isO_ok h1
  obtain ⟨r, h2, hf⟩ := bnd hf
  refine ev_V kqX11_says_12 jX11_aheadWhy (zX11_aheadWhy (d := d + 3) h2) ho rfl rfl (Nat.le_of_ble_eq_true rfl) rfl (as := [.int s2, .int s1, .int s0]) (rest := []) rfl (Nat.le_of_ble_eq_true rfl) (fun _ _ hq => ?_)
  obtain ⟨rfl, rfl⟩ := hq
  exact jm [2, 1, 1, 0] (fun v0 v1 v2 => fX11_says_15 v0 v1 v2 r.1 r.2) (fun v0 v1 v2 q => tX11_says_15 v0 v1 v2 r.1 r.2 q) hf
def wX11_says_10 : List En := [(.iconst 0, 0, 0, 0), (.iload_n 2, 0, 0, 0)]
def fX11_says_10 (v0 : Nat) (v1 : Int32) (v2 : Int32) (s0 : Int32) (s1 : Nat) (h : aH) : Option (Int32 × aH) :=
  fX11_says_12 v0 v1 v2 v2 (kI 0) s0 s1 h
theorem tX11_says_10 {d : Nat} {z : Int32 × aH} (v0 : Nat) (v1 : Int32) (v2 : Int32) (s0 : Int32) (s1 : Nat) (h : aH) (hf : fX11_says_10 v0 v1 v2 s0 s1 h = some z) : Ev (d + 5) none mX11_says (0, 0) 10 [.ref v0, .int v1, .int v2, .null] [.int s0, .ref s1] h (QI z) := 
  go_ok (X := none) (blk := wX11_says_10) (np := 12) (tt := 0) (kN := fun xs h st => app [2, 1, 1, 0] (fun v0 v1 v2 => apS [1, 1, 1, 2] (fun s0 s1 s2 s3 => fX11_says_12 v0 v1 v2 s0 s1 s2 s3 h) st) xs) (kT := fun _ _ _ => none) (kR := kRI)
    (fun xs h st q => jm [2, 1, 1, 0] _ (fun v0 v1 v2 q => apS_ok [1, 1, 1, 2] _ (fun st => Ev (d + 5) none mX11_says (0, 0) 12 [.ref v0, .int v1, .int v2, .null] st h (QI z)) st (fun s0 s1 s2 s3 q => tX11_says_12 v0 v1 v2 s0 s1 s2 s3 h q) q) q)
    (fun _ _ _ q => nos q)
    kRI_ok (Or.inr rfl) (by decide +kernel) (by decide +kernel) hf
theorem kqX11_says_7 : okC mX11_says 7 (.invokevirtual 285) 214 231 0 1 = true := by decide +kernel
def fX11_says_7 (v0 : Nat) (v1 : Int32) (v2 : Int32) (s0 : Int32) (s1 : Nat) (s2 : Nat) (h : aH) : Option (Int32 × aH) :=
  (isO h 11 s1).bind fun _ =>
  (gX11_isPerson s1 s0 h).bind fun r =>
  fX11_says_10 v0 v1 v2 r.1 s2 r.2
theorem tX11_says_7 {d : Nat} {z : Int32 × aH} (v0 : Nat) (v1 : Int32) (v2 : Int32) (s0 : Int32) (s1 : Nat) (s2 : Nat) (h : aH) (hf : fX11_says_7 v0 v1 v2 s0 s1 s2 h = some z) : Ev (d + 5) none mX11_says (0, 0) 7 [.ref v0, .int v1, .int v2, .null] [.int s0, .ref s1, .ref s2] h (QI z) := by
  obtain ⟨_, h1, hf⟩ := bnd hf
  obtain ⟨fs, ho⟩ := isO_ok h1
  obtain ⟨r, h2, hf⟩ := bnd hf
  refine ev_V kqX11_says_7 jX11_isPerson (zX11_isPerson (d := d + 3) h2) ho rfl rfl (Nat.le_of_ble_eq_true rfl) rfl (as := [.int s0]) (rest := [.ref s2]) rfl (Nat.le_of_ble_eq_true rfl) (fun _ _ hq => ?_)
  obtain ⟨-, rfl, rfl⟩ := hq
  exact jm [2, 1, 1, 0] (fun v0 v1 v2 => fX11_says_10 v0 v1 v2 r.1 s2 r.2) (fun v0 v1 v2 q => tX11_says_10 v0 v1 v2 r.1 s2 r.2 q) hf
def wX11_says_4 : List En := [(.aload_n 0, 0, 0, 0), (.aload_n 0, 0, 0, 0), (.iload_n 1, 0, 0, 0)]
def fX11_says_4 (v0 : Nat) (v1 : Int32) (v2 : Int32) (h : aH) : Option (Int32 × aH) :=
  fX11_says_7 v0 v1 v2 v1 v0 v0 h
theorem tX11_says_4 {d : Nat} {z : Int32 × aH} (v0 : Nat) (v1 : Int32) (v2 : Int32) (h : aH) (hf : fX11_says_4 v0 v1 v2 h = some z) : Ev (d + 5) none mX11_says (0, 0) 4 [.ref v0, .int v1, .int v2, .null] [] h (QI z) := 
  go_ok (X := none) (blk := wX11_says_4) (np := 7) (tt := 0) (kN := fun xs h st => app [2, 1, 1, 0] (fun v0 v1 v2 => apS [1, 2, 2] (fun s0 s1 s2 => fX11_says_7 v0 v1 v2 s0 s1 s2 h) st) xs) (kT := fun _ _ _ => none) (kR := kRI)
    (fun xs h st q => jm [2, 1, 1, 0] _ (fun v0 v1 v2 q => apS_ok [1, 2, 2] _ (fun st => Ev (d + 5) none mX11_says (0, 0) 7 [.ref v0, .int v1, .int v2, .null] st h (QI z)) st (fun s0 s1 s2 q => tX11_says_7 v0 v1 v2 s0 s1 s2 h q) q) q)
    (fun _ _ _ q => nos q)
    kRI_ok (Or.inr rfl) (by decide +kernel) (by decide +kernel) hf
theorem kqX11_says_1 : okC mX11_says 1 (.invokevirtual 161) 181 196 0 0 = true := by decide +kernel
def fX11_says_1 (v0 : Nat) (v1 : Int32) (v2 : Int32) (s0 : Nat) (h : aH) : Option (Int32 × aH) :=
  (isO h 11 s0).bind fun _ =>
  (gX11_anew s0 h).bind fun r =>
  fX11_says_4 v0 v1 v2 r
theorem tX11_says_1 {d : Nat} {z : Int32 × aH} (v0 : Nat) (v1 : Int32) (v2 : Int32) (s0 : Nat) (h : aH) (hf : fX11_says_1 v0 v1 v2 s0 h = some z) : Ev (d + 5) none mX11_says (0, 0) 1 [.ref v0, .int v1, .int v2, .null] [.ref s0] h (QI z) := by
  obtain ⟨_, h1, hf⟩ := bnd hf
  obtain ⟨fs, ho⟩ := isO_ok h1
  obtain ⟨r, h2, hf⟩ := bnd hf
  refine ev_V kqX11_says_1 jX11_anew (zX11_anew (d := d + 4) h2) ho rfl rfl (Nat.le_of_ble_eq_true rfl) rfl (as := []) (rest := []) rfl (Nat.le_of_ble_eq_true rfl) (fun _ _ hq => ?_)
  obtain ⟨rfl, hh⟩ := hq
  rw [hh]
  exact jm [2, 1, 1, 0] (fun v0 v1 v2 => fX11_says_4 v0 v1 v2 r) (fun v0 v1 v2 q => tX11_says_4 v0 v1 v2 r q) hf
def wX11_says_0 : List En := [(.aload_n 0, 0, 0, 0)]
def fX11_says_0 (v0 : Nat) (v1 : Int32) (v2 : Int32) (h : aH) : Option (Int32 × aH) :=
  fX11_says_1 v0 v1 v2 v0 h
theorem tX11_says_0 {d : Nat} {z : Int32 × aH} (v0 : Nat) (v1 : Int32) (v2 : Int32) (h : aH) (hf : fX11_says_0 v0 v1 v2 h = some z) : Ev (d + 5) none mX11_says (0, 0) 0 [.ref v0, .int v1, .int v2, .null] [] h (QI z) := 
  go_ok (X := none) (blk := wX11_says_0) (np := 1) (tt := 0) (kN := fun xs h st => app [2, 1, 1, 0] (fun v0 v1 v2 => apS [2] (fun s0 => fX11_says_1 v0 v1 v2 s0 h) st) xs) (kT := fun _ _ _ => none) (kR := kRI)
    (fun xs h st q => jm [2, 1, 1, 0] _ (fun v0 v1 v2 q => apS_ok [2] _ (fun st => Ev (d + 5) none mX11_says (0, 0) 1 [.ref v0, .int v1, .int v2, .null] st h (QI z)) st (fun s0 q => tX11_says_1 v0 v1 v2 s0 h q) q) q)
    (fun _ _ _ q => nos q)
    kRI_ok (Or.inr rfl) (by decide +kernel) (by decide +kernel) hf
def gX11_says (v0 : Nat) (v1 : Int32) (v2 : Int32) (h : aH) : Option (Int32 × aH) := fX11_says_0 v0 v1 v2 h
theorem zX11_says {d : Nat} {z : Int32 × aH} {v0 : Nat} {v1 : Int32} {v2 : Int32} {h : aH} (q : gX11_says v0 v1 v2 h = some z) : CT (d + 5) mX11_says (0, 0) [.ref v0, .int v1, .int v2] h (QI z) :=
  ct_ev (by decide +kernel) (Nat.le_of_ble_eq_true rfl) QI_r (jm [2, 1, 1, 0] (fun v0 v1 v2 => fX11_says_0 v0 v1 v2 h) (fun v0 v1 v2 q => tX11_says_0 v0 v1 v2 h q) q)
def wX11_firstDish_26 : List En := [(.aload_n 0, 0, 0, 0), (.getfield 323, 208, 11, 33), (.ireturn, 0, 0, 0)]
def fX11_firstDish_26 (v0 : Nat) (h : aH) : Option (Int32 × aH) :=
  (gFI h 11 v0 33).bind fun t1 =>
  some (t1, h)
theorem tX11_firstDish_26 {d : Nat} {z : Int32 × aH} (v0 : Nat) (h : aH) (hf : fX11_firstDish_26 v0 h = some z) : Ev (d + 5) none mX11_firstDish (0, 0) 26 [.ref v0, .null] [] h (QI z) := 
  go_ok (X := none) (blk := wX11_firstDish_26) (np := 31) (tt := 0) (kN := fun _ _ _ => none) (kT := fun _ _ _ => none) (kR := kRI)
    (fun _ _ _ q => nos q)
    (fun _ _ _ q => nos q)
    kRI_ok (Or.inr rfl) (by decide +kernel) (by decide +kernel) hf
theorem kqX11_firstDish_23 : okC mX11_firstDish 23 (.invokevirtual 326) 250 267 0 3 = true := by decide +kernel
def fX11_firstDish_23 (v0 : Nat) (s0 : Int32) (s1 : Int32) (s2 : Int32) (s3 : Nat) (h : aH) : Option (Int32 × aH) :=
  (isO h 11 s3).bind fun _ =>
  (gX11_within s3 s2 s1 s0 h).bind fun r =>
  fX11_firstDish_26 v0 r
theorem tX11_firstDish_23 {d : Nat} {z : Int32 × aH} (v0 : Nat) (s0 : Int32) (s1 : Int32) (s2 : Int32) (s3 : Nat) (h : aH) (hf : fX11_firstDish_23 v0 s0 s1 s2 s3 h = some z) : Ev (d + 5) none mX11_firstDish (0, 0) 23 [.ref v0, .null] [.int s0, .int s1, .int s2, .ref s3] h (QI z) := by
  obtain ⟨_, h1, hf⟩ := bnd hf
  obtain ⟨fs, ho⟩ := isO_ok h1
  obtain ⟨r, h2, hf⟩ := bnd hf
  refine ev_V kqX11_firstDish_23 jX11_within (zX11_within (d := d + 0) h2) ho rfl rfl (Nat.le_of_ble_eq_true rfl) rfl (as := [.int s2, .int s1, .int s0]) (rest := []) rfl (Nat.le_of_ble_eq_true rfl) (fun _ _ hq => ?_)
  obtain ⟨rfl, hh⟩ := hq
  rw [hh]
  exact jm [2, 0] (fun v0 => fX11_firstDish_26 v0 r) (fun v0 q => tX11_firstDish_26 v0 r q) hf
def wX11_firstDish_18 : List En := [(.aload_n 0, 0, 0, 0), (.iconst (-1), 0, 0, 0), (.iload_n 1, 0, 0, 0), (.bipush 60, 0, 0, 0)]
def fX11_firstDish_18 (v0 : Nat) (v1 : Int32) (h : aH) : Option (Int32 × aH) :=
  fX11_firstDish_23 v0 (kB 60) v1 (kI (-1)) v0 h
theorem tX11_firstDish_18 {d : Nat} {z : Int32 × aH} (v0 : Nat) (v1 : Int32) (h : aH) (hf : fX11_firstDish_18 v0 v1 h = some z) : Ev (d + 5) none mX11_firstDish (0, 0) 18 [.ref v0, .int v1] [] h (QI z) := 
  go_ok (X := none) (blk := wX11_firstDish_18) (np := 23) (tt := 0) (kN := fun xs h st => app [2, 0] (fun v0 => apS [1, 1, 1, 2] (fun s0 s1 s2 s3 => fX11_firstDish_23 v0 s0 s1 s2 s3 h) st) xs) (kT := fun _ _ _ => none) (kR := kRI)
    (fun xs h st q => jm [2, 0] _ (fun v0 q => apS_ok [1, 1, 1, 2] _ (fun st => Ev (d + 5) none mX11_firstDish (0, 0) 23 [.ref v0, .null] st h (QI z)) st (fun s0 s1 s2 s3 q => tX11_firstDish_23 v0 s0 s1 s2 s3 h q) q) q)
    (fun _ _ _ q => nos q)
    kRI_ok (Or.inr rfl) (by decide +kernel) (by decide +kernel) hf
def wX11_firstDish_17 : List En := [(.ireturn, 0, 0, 0)]
def fX11_firstDish_17 (s0 : Int32) (h : aH) : Option (Int32 × aH) :=
  some (s0, h)
theorem tX11_firstDish_17 {d : Nat} {z : Int32 × aH} (s0 : Int32) (h : aH) (hf : fX11_firstDish_17 s0 h = some z) : Ev (d + 5) none mX11_firstDish (0, 0) 17 [.null, .null] [.int s0] h (QI z) := 
  go_ok (X := none) (blk := wX11_firstDish_17) (np := 18) (tt := 0) (kN := fun _ _ _ => none) (kT := fun _ _ _ => none) (kR := kRI)
    (fun _ _ _ q => nos q)
    (fun _ _ _ q => nos q)
    kRI_ok (Or.inr rfl) (by decide +kernel) (by decide +kernel) hf
theorem kqX11_firstDish_14 : okC mX11_firstDish 14 (.invokevirtual 164) 183 198 0 1 = true := by decide +kernel
def fX11_firstDish_14 (s0 : Int32) (s1 : Nat) (h : aH) : Option (Int32 × aH) :=
  (isO h 11 s1).bind fun _ =>
  (gX11_no s1 s0 h).bind fun r =>
  fX11_firstDish_17 r.1 r.2
theorem tX11_firstDish_14 {d : Nat} {z : Int32 × aH} (s0 : Int32) (s1 : Nat) (h : aH) (hf : fX11_firstDish_14 s0 s1 h = some z) : Ev (d + 5) none mX11_firstDish (0, 0) 14 [.null, .null] [.int s0, .ref s1] h (QI z) := by
  obtain ⟨_, h1, hf⟩ := bnd hf
  obtain ⟨fs, ho⟩ := isO_ok h1
  obtain ⟨r, h2, hf⟩ := bnd hf
  refine ev_V kqX11_firstDish_14 jX11_no (zX11_no (d := d + 4) h2) ho rfl rfl (Nat.le_of_ble_eq_true rfl) rfl (as := [.int s0]) (rest := []) rfl (Nat.le_of_ble_eq_true rfl) (fun _ _ hq => ?_)
  obtain ⟨rfl, rfl⟩ := hq
  exact jm [0, 0] (fX11_firstDish_17 r.1 r.2) (fun q => tX11_firstDish_17 r.1 r.2 q) hf
def wX11_firstDish_12 : List En := [(.aload_n 0, 0, 0, 0), (.iconst 1, 0, 0, 0)]
def fX11_firstDish_12 (v0 : Nat) (h : aH) : Option (Int32 × aH) :=
  fX11_firstDish_14 (kI 1) v0 h
theorem tX11_firstDish_12 {d : Nat} {z : Int32 × aH} (v0 : Nat) (h : aH) (hf : fX11_firstDish_12 v0 h = some z) : Ev (d + 5) none mX11_firstDish (0, 0) 12 [.ref v0, .null] [] h (QI z) := 
  go_ok (X := none) (blk := wX11_firstDish_12) (np := 14) (tt := 0) (kN := fun xs h st => app [0, 0] (apS [1, 2] (fun s0 s1 => fX11_firstDish_14 s0 s1 h) st) xs) (kT := fun _ _ _ => none) (kR := kRI)
    (fun xs h st q => jm [0, 0] _ (fun q => apS_ok [1, 2] _ (fun st => Ev (d + 5) none mX11_firstDish (0, 0) 14 [.null, .null] st h (QI z)) st (fun s0 s1 q => tX11_firstDish_14 s0 s1 h q) q) q)
    (fun _ _ _ q => nos q)
    kRI_ok (Or.inr rfl) (by decide +kernel) (by decide +kernel) hf
def wX11_firstDish_9 : List En := [(.ifCond .ne 9, 18, 0, 0)]
def fX11_firstDish_9 (v0 : Nat) (v1 : Int32) (s0 : Int32) (h : aH) : Option (Int32 × aH) :=
  if s0 = 0 then fX11_firstDish_12 v0 h else fX11_firstDish_18 v0 v1 h
theorem tX11_firstDish_9 {d : Nat} {z : Int32 × aH} (v0 : Nat) (v1 : Int32) (s0 : Int32) (h : aH) (hf : fX11_firstDish_9 v0 v1 s0 h = some z) : Ev (d + 5) none mX11_firstDish (0, 0) 9 [.ref v0, .int v1] [.int s0] h (QI z) := 
  go_ok (X := none) (blk := wX11_firstDish_9) (np := 12) (tt := 18) (kN := fun xs h st => app [2, 0] (fun v0 => apS [] (fX11_firstDish_12 v0 h) st) xs) (kT := fun xs h st => app [2, 1] (fun v0 v1 => apS [] (fX11_firstDish_18 v0 v1 h) st) xs) (kR := kRI)
    (fun xs h st q => jm [2, 0] _ (fun v0 q => apS_ok [] _ (fun st => Ev (d + 5) none mX11_firstDish (0, 0) 12 [.ref v0, .null] st h (QI z)) st (fun q => tX11_firstDish_12 v0 h q) q) q)
    (fun xs h st q => jm [2, 1] _ (fun v0 v1 q => apS_ok [] _ (fun st => Ev (d + 5) none mX11_firstDish (0, 0) 18 [.ref v0, .int v1] st h (QI z)) st (fun q => tX11_firstDish_18 v0 v1 h q) q) q)
    kRI_ok (Or.inr rfl) (by decide +kernel) (by decide +kernel) hf
theorem kqX11_firstDish_6 : okC mX11_firstDish 6 (.invokevirtual 288) 216 233 0 1 = true := by decide +kernel
def fX11_firstDish_6 (v0 : Nat) (v1 : Int32) (s0 : Int32) (s1 : Nat) (h : aH) : Option (Int32 × aH) :=
  (isO h 11 s1).bind fun _ =>
  (gX11_isName s1 s0 h).bind fun r =>
  fX11_firstDish_9 v0 v1 r.1 r.2
theorem tX11_firstDish_6 {d : Nat} {z : Int32 × aH} (v0 : Nat) (v1 : Int32) (s0 : Int32) (s1 : Nat) (h : aH) (hf : fX11_firstDish_6 v0 v1 s0 s1 h = some z) : Ev (d + 5) none mX11_firstDish (0, 0) 6 [.ref v0, .int v1] [.int s0, .ref s1] h (QI z) := by
  obtain ⟨_, h1, hf⟩ := bnd hf
  obtain ⟨fs, ho⟩ := isO_ok h1
  obtain ⟨r, h2, hf⟩ := bnd hf
  refine ev_V kqX11_firstDish_6 jX11_isName (zX11_isName (d := d + 3) h2) ho rfl rfl (Nat.le_of_ble_eq_true rfl) rfl (as := [.int s0]) (rest := []) rfl (Nat.le_of_ble_eq_true rfl) (fun _ _ hq => ?_)
  obtain ⟨-, rfl, rfl⟩ := hq
  exact jm [2, 1] (fun v0 v1 => fX11_firstDish_9 v0 v1 r.1 r.2) (fun v0 v1 q => tX11_firstDish_9 v0 v1 r.1 r.2 q) hf
def wX11_firstDish_4 : List En := [(.aload_n 0, 0, 0, 0), (.iload_n 1, 0, 0, 0)]
def fX11_firstDish_4 (v0 : Nat) (v1 : Int32) (h : aH) : Option (Int32 × aH) :=
  fX11_firstDish_6 v0 v1 v1 v0 h
theorem tX11_firstDish_4 {d : Nat} {z : Int32 × aH} (v0 : Nat) (v1 : Int32) (h : aH) (hf : fX11_firstDish_4 v0 v1 h = some z) : Ev (d + 5) none mX11_firstDish (0, 0) 4 [.ref v0, .int v1] [] h (QI z) := 
  go_ok (X := none) (blk := wX11_firstDish_4) (np := 6) (tt := 0) (kN := fun xs h st => app [2, 1] (fun v0 v1 => apS [1, 2] (fun s0 s1 => fX11_firstDish_6 v0 v1 s0 s1 h) st) xs) (kT := fun _ _ _ => none) (kR := kRI)
    (fun xs h st q => jm [2, 1] _ (fun v0 v1 q => apS_ok [1, 2] _ (fun st => Ev (d + 5) none mX11_firstDish (0, 0) 6 [.ref v0, .int v1] st h (QI z)) st (fun s0 s1 q => tX11_firstDish_6 v0 v1 s0 s1 h q) q) q)
    (fun _ _ _ q => nos q)
    kRI_ok (Or.inr rfl) (by decide +kernel) (by decide +kernel) hf
theorem kqX11_firstDish_1 : okC mX11_firstDish 1 (.invokevirtual 161) 181 196 0 0 = true := by decide +kernel
def fX11_firstDish_1 (v0 : Nat) (v1 : Int32) (s0 : Nat) (h : aH) : Option (Int32 × aH) :=
  (isO h 11 s0).bind fun _ =>
  (gX11_anew s0 h).bind fun r =>
  fX11_firstDish_4 v0 v1 r
theorem tX11_firstDish_1 {d : Nat} {z : Int32 × aH} (v0 : Nat) (v1 : Int32) (s0 : Nat) (h : aH) (hf : fX11_firstDish_1 v0 v1 s0 h = some z) : Ev (d + 5) none mX11_firstDish (0, 0) 1 [.ref v0, .int v1] [.ref s0] h (QI z) := by
  obtain ⟨_, h1, hf⟩ := bnd hf
  obtain ⟨fs, ho⟩ := isO_ok h1
  obtain ⟨r, h2, hf⟩ := bnd hf
  refine ev_V kqX11_firstDish_1 jX11_anew (zX11_anew (d := d + 4) h2) ho rfl rfl (Nat.le_of_ble_eq_true rfl) rfl (as := []) (rest := []) rfl (Nat.le_of_ble_eq_true rfl) (fun _ _ hq => ?_)
  obtain ⟨rfl, hh⟩ := hq
  rw [hh]
  exact jm [2, 1] (fun v0 v1 => fX11_firstDish_4 v0 v1 r) (fun v0 v1 q => tX11_firstDish_4 v0 v1 r q) hf
def wX11_firstDish_0 : List En := [(.aload_n 0, 0, 0, 0)]
def fX11_firstDish_0 (v0 : Nat) (v1 : Int32) (h : aH) : Option (Int32 × aH) :=
  fX11_firstDish_1 v0 v1 v0 h
theorem tX11_firstDish_0 {d : Nat} {z : Int32 × aH} (v0 : Nat) (v1 : Int32) (h : aH) (hf : fX11_firstDish_0 v0 v1 h = some z) : Ev (d + 5) none mX11_firstDish (0, 0) 0 [.ref v0, .int v1] [] h (QI z) := 
  go_ok (X := none) (blk := wX11_firstDish_0) (np := 1) (tt := 0) (kN := fun xs h st => app [2, 1] (fun v0 v1 => apS [2] (fun s0 => fX11_firstDish_1 v0 v1 s0 h) st) xs) (kT := fun _ _ _ => none) (kR := kRI)
    (fun xs h st q => jm [2, 1] _ (fun v0 v1 q => apS_ok [2] _ (fun st => Ev (d + 5) none mX11_firstDish (0, 0) 1 [.ref v0, .int v1] st h (QI z)) st (fun s0 q => tX11_firstDish_1 v0 v1 s0 h q) q) q)
    (fun _ _ _ q => nos q)
    kRI_ok (Or.inr rfl) (by decide +kernel) (by decide +kernel) hf
def gX11_firstDish (v0 : Nat) (v1 : Int32) (h : aH) : Option (Int32 × aH) := fX11_firstDish_0 v0 v1 h
theorem zX11_firstDish {d : Nat} {z : Int32 × aH} {v0 : Nat} {v1 : Int32} {h : aH} (q : gX11_firstDish v0 v1 h = some z) : CT (d + 5) mX11_firstDish (0, 0) [.ref v0, .int v1] h (QI z) :=
  ct_ev (by decide +kernel) (Nat.le_of_ble_eq_true rfl) QI_r (jm [2, 1] (fun v0 v1 => fX11_firstDish_0 v0 v1 h) (fun v0 v1 q => tX11_firstDish_0 v0 v1 h q) q)
def wX11_named_32 : List En := [(.aload_n 0, 0, 0, 0), (.getfield 317, 206, 11, 31), (.ireturn, 0, 0, 0)]
def fX11_named_32 (v0 : Nat) (h : aH) : Option (Int32 × aH) :=
  (gFI h 11 v0 31).bind fun t1 =>
  some (t1, h)
theorem tX11_named_32 {d : Nat} {z : Int32 × aH} (v0 : Nat) (h : aH) (hf : fX11_named_32 v0 h = some z) : Ev (d + 5) none mX11_named (0, 0) 32 [.ref v0, .null, .null] [] h (QI z) := 
  go_ok (X := none) (blk := wX11_named_32) (np := 37) (tt := 0) (kN := fun _ _ _ => none) (kT := fun _ _ _ => none) (kR := kRI)
    (fun _ _ _ q => nos q)
    (fun _ _ _ q => nos q)
    kRI_ok (Or.inr rfl) (by decide +kernel) (by decide +kernel) hf
theorem kqX11_named_29 : okC mX11_named 29 (.invokevirtual 326) 250 267 0 3 = true := by decide +kernel
def fX11_named_29 (v0 : Nat) (s0 : Int32) (s1 : Int32) (s2 : Int32) (s3 : Nat) (h : aH) : Option (Int32 × aH) :=
  (isO h 11 s3).bind fun _ =>
  (gX11_within s3 s2 s1 s0 h).bind fun r =>
  fX11_named_32 v0 r
theorem tX11_named_29 {d : Nat} {z : Int32 × aH} (v0 : Nat) (s0 : Int32) (s1 : Int32) (s2 : Int32) (s3 : Nat) (h : aH) (hf : fX11_named_29 v0 s0 s1 s2 s3 h = some z) : Ev (d + 5) none mX11_named (0, 0) 29 [.ref v0, .null, .null] [.int s0, .int s1, .int s2, .ref s3] h (QI z) := by
  obtain ⟨_, h1, hf⟩ := bnd hf
  obtain ⟨fs, ho⟩ := isO_ok h1
  obtain ⟨r, h2, hf⟩ := bnd hf
  refine ev_V kqX11_named_29 jX11_within (zX11_within (d := d + 0) h2) ho rfl rfl (Nat.le_of_ble_eq_true rfl) rfl (as := [.int s2, .int s1, .int s0]) (rest := []) rfl (Nat.le_of_ble_eq_true rfl) (fun _ _ hq => ?_)
  obtain ⟨rfl, hh⟩ := hq
  rw [hh]
  exact jm [2, 0, 0] (fun v0 => fX11_named_32 v0 r) (fun v0 q => tX11_named_32 v0 r q) hf
def wX11_named_25 : List En := [(.aload_n 0, 0, 0, 0), (.iconst (-1), 0, 0, 0), (.iconst (-1), 0, 0, 0), (.iload_n 1, 0, 0, 0)]
def fX11_named_25 (v0 : Nat) (v1 : Int32) (h : aH) : Option (Int32 × aH) :=
  fX11_named_29 v0 v1 (kI (-1)) (kI (-1)) v0 h
theorem tX11_named_25 {d : Nat} {z : Int32 × aH} (v0 : Nat) (v1 : Int32) (h : aH) (hf : fX11_named_25 v0 v1 h = some z) : Ev (d + 5) none mX11_named (0, 0) 25 [.ref v0, .int v1, .null] [] h (QI z) := 
  go_ok (X := none) (blk := wX11_named_25) (np := 29) (tt := 0) (kN := fun xs h st => app [2, 0, 0] (fun v0 => apS [1, 1, 1, 2] (fun s0 s1 s2 s3 => fX11_named_29 v0 s0 s1 s2 s3 h) st) xs) (kT := fun _ _ _ => none) (kR := kRI)
    (fun xs h st q => jm [2, 0, 0] _ (fun v0 q => apS_ok [1, 1, 1, 2] _ (fun st => Ev (d + 5) none mX11_named (0, 0) 29 [.ref v0, .null, .null] st h (QI z)) st (fun s0 s1 s2 s3 q => tX11_named_29 v0 s0 s1 s2 s3 h q) q) q)
    (fun _ _ _ q => nos q)
    kRI_ok (Or.inr rfl) (by decide +kernel) (by decide +kernel) hf
def wX11_named_24 : List En := [(.ireturn, 0, 0, 0)]
def fX11_named_24 (s0 : Int32) (h : aH) : Option (Int32 × aH) :=
  some (s0, h)
theorem tX11_named_24 {d : Nat} {z : Int32 × aH} (s0 : Int32) (h : aH) (hf : fX11_named_24 s0 h = some z) : Ev (d + 5) none mX11_named (0, 0) 24 [.null, .null, .null] [.int s0] h (QI z) := 
  go_ok (X := none) (blk := wX11_named_24) (np := 25) (tt := 0) (kN := fun _ _ _ => none) (kT := fun _ _ _ => none) (kR := kRI)
    (fun _ _ _ q => nos q)
    (fun _ _ _ q => nos q)
    kRI_ok (Or.inr rfl) (by decide +kernel) (by decide +kernel) hf
theorem kqX11_named_21 : okC mX11_named 21 (.invokevirtual 164) 183 198 0 1 = true := by decide +kernel
def fX11_named_21 (s0 : Int32) (s1 : Nat) (h : aH) : Option (Int32 × aH) :=
  (isO h 11 s1).bind fun _ =>
  (gX11_no s1 s0 h).bind fun r =>
  fX11_named_24 r.1 r.2
theorem tX11_named_21 {d : Nat} {z : Int32 × aH} (s0 : Int32) (s1 : Nat) (h : aH) (hf : fX11_named_21 s0 s1 h = some z) : Ev (d + 5) none mX11_named (0, 0) 21 [.null, .null, .null] [.int s0, .ref s1] h (QI z) := by
  obtain ⟨_, h1, hf⟩ := bnd hf
  obtain ⟨fs, ho⟩ := isO_ok h1
  obtain ⟨r, h2, hf⟩ := bnd hf
  refine ev_V kqX11_named_21 jX11_no (zX11_no (d := d + 4) h2) ho rfl rfl (Nat.le_of_ble_eq_true rfl) rfl (as := [.int s0]) (rest := []) rfl (Nat.le_of_ble_eq_true rfl) (fun _ _ hq => ?_)
  obtain ⟨rfl, rfl⟩ := hq
  exact jm [0, 0, 0] (fX11_named_24 r.1 r.2) (fun q => tX11_named_24 r.1 r.2 q) hf
def wX11_named_19 : List En := [(.aload_n 0, 0, 0, 0), (.iload_n 2, 0, 0, 0)]
def fX11_named_19 (v0 : Nat) (v2 : Int32) (h : aH) : Option (Int32 × aH) :=
  fX11_named_21 v2 v0 h
theorem tX11_named_19 {d : Nat} {z : Int32 × aH} (v0 : Nat) (v2 : Int32) (h : aH) (hf : fX11_named_19 v0 v2 h = some z) : Ev (d + 5) none mX11_named (0, 0) 19 [.ref v0, .null, .int v2] [] h (QI z) := 
  go_ok (X := none) (blk := wX11_named_19) (np := 21) (tt := 0) (kN := fun xs h st => app [0, 0, 0] (apS [1, 2] (fun s0 s1 => fX11_named_21 s0 s1 h) st) xs) (kT := fun _ _ _ => none) (kR := kRI)
    (fun xs h st q => jm [0, 0, 0] _ (fun q => apS_ok [1, 2] _ (fun st => Ev (d + 5) none mX11_named (0, 0) 21 [.null, .null, .null] st h (QI z)) st (fun s0 s1 q => tX11_named_21 s0 s1 h q) q) q)
    (fun _ _ _ q => nos q)
    kRI_ok (Or.inr rfl) (by decide +kernel) (by decide +kernel) hf
def wX11_named_14 : List En := [(.istore_n 2, 0, 0, 0), (.iload_n 2, 0, 0, 0), (.ifCond .eq 9, 25, 0, 0)]
def fX11_named_14 (v0 : Nat) (v1 : Int32) (s0 : Int32) (h : aH) : Option (Int32 × aH) :=
  if s0 = 0 then fX11_named_25 v0 v1 h else fX11_named_19 v0 s0 h
theorem tX11_named_14 {d : Nat} {z : Int32 × aH} (v0 : Nat) (v1 : Int32) (s0 : Int32) (h : aH) (hf : fX11_named_14 v0 v1 s0 h = some z) : Ev (d + 5) none mX11_named (0, 0) 14 [.ref v0, .int v1, .null] [.int s0] h (QI z) := 
  go_ok (X := none) (blk := wX11_named_14) (np := 19) (tt := 25) (kN := fun xs h st => app [2, 0, 1] (fun v0 v2 => apS [] (fX11_named_19 v0 v2 h) st) xs) (kT := fun xs h st => app [2, 1, 0] (fun v0 v1 => apS [] (fX11_named_25 v0 v1 h) st) xs) (kR := kRI)
    (fun xs h st q => jm [2, 0, 1] _ (fun v0 v2 q => apS_ok [] _ (fun st => Ev (d + 5) none mX11_named (0, 0) 19 [.ref v0, .null, .int v2] st h (QI z)) st (fun q => tX11_named_19 v0 v2 h q) q) q)
    (fun xs h st q => jm [2, 1, 0] _ (fun v0 v1 q => apS_ok [] _ (fun st => Ev (d + 5) none mX11_named (0, 0) 25 [.ref v0, .int v1, .null] st h (QI z)) st (fun q => tX11_named_25 v0 v1 h q) q) q)
    kRI_ok (Or.inr rfl) (by decide +kernel) (by decide +kernel) hf
theorem kqX11_named_11 : okC mX11_named 11 (.invokevirtual 300) 239 256 0 3 = true := by decide +kernel
def fX11_named_11 (v0 : Nat) (v1 : Int32) (s0 : Int32) (s1 : Int32) (s2 : Int32) (s3 : Nat) (h : aH) : Option (Int32 × aH) :=
  (isO h 11 s3).bind fun _ =>
  (gX11_aheadWhy s3 s2 s1 s0 h).bind fun r =>
  fX11_named_14 v0 v1 r.1 r.2
theorem tX11_named_11 {d : Nat} {z : Int32 × aH} (v0 : Nat) (v1 : Int32) (s0 : Int32) (s1 : Int32) (s2 : Int32) (s3 : Nat) (h : aH) (hf : fX11_named_11 v0 v1 s0 s1 s2 s3 h = some z) : Ev (d + 5) none mX11_named (0, 0) 11 [.ref v0, .int v1, .null] [.int s0, .int s1, .int s2, .ref s3] h (QI z) := by
  obtain ⟨_, h1, hf⟩ := bnd hf
  obtain ⟨fs, ho⟩ := isO_ok h1
  obtain ⟨r, h2, hf⟩ := bnd hf
  refine ev_V kqX11_named_11 jX11_aheadWhy (zX11_aheadWhy (d := d + 3) h2) ho rfl rfl (Nat.le_of_ble_eq_true rfl) rfl (as := [.int s2, .int s1, .int s0]) (rest := []) rfl (Nat.le_of_ble_eq_true rfl) (fun _ _ hq => ?_)
  obtain ⟨rfl, rfl⟩ := hq
  exact jm [2, 1, 0] (fun v0 v1 => fX11_named_14 v0 v1 r.1 r.2) (fun v0 v1 q => tX11_named_14 v0 v1 r.1 r.2 q) hf
def wX11_named_4 : List En := [(.aload_n 0, 0, 0, 0), (.aload_n 0, 0, 0, 0), (.getfield 174, 189, 11, 14), (.iconst 0, 0, 0, 0), (.iload_n 1, 0, 0, 0)]
def fX11_named_4 (v0 : Nat) (v1 : Int32) (h : aH) : Option (Int32 × aH) :=
  (gFI h 11 v0 14).bind fun t1 =>
  fX11_named_11 v0 v1 v1 (kI 0) t1 v0 h
theorem tX11_named_4 {d : Nat} {z : Int32 × aH} (v0 : Nat) (v1 : Int32) (h : aH) (hf : fX11_named_4 v0 v1 h = some z) : Ev (d + 5) none mX11_named (0, 0) 4 [.ref v0, .int v1, .null] [] h (QI z) := 
  go_ok (X := none) (blk := wX11_named_4) (np := 11) (tt := 0) (kN := fun xs h st => app [2, 1, 0] (fun v0 v1 => apS [1, 1, 1, 2] (fun s0 s1 s2 s3 => fX11_named_11 v0 v1 s0 s1 s2 s3 h) st) xs) (kT := fun _ _ _ => none) (kR := kRI)
    (fun xs h st q => jm [2, 1, 0] _ (fun v0 v1 q => apS_ok [1, 1, 1, 2] _ (fun st => Ev (d + 5) none mX11_named (0, 0) 11 [.ref v0, .int v1, .null] st h (QI z)) st (fun s0 s1 s2 s3 q => tX11_named_11 v0 v1 s0 s1 s2 s3 h q) q) q)
    (fun _ _ _ q => nos q)
    kRI_ok (Or.inr rfl) (by decide +kernel) (by decide +kernel) hf
theorem kqX11_named_1 : okC mX11_named 1 (.invokevirtual 161) 181 196 0 0 = true := by decide +kernel
def fX11_named_1 (v0 : Nat) (v1 : Int32) (s0 : Nat) (h : aH) : Option (Int32 × aH) :=
  (isO h 11 s0).bind fun _ =>
  (gX11_anew s0 h).bind fun r =>
  fX11_named_4 v0 v1 r
theorem tX11_named_1 {d : Nat} {z : Int32 × aH} (v0 : Nat) (v1 : Int32) (s0 : Nat) (h : aH) (hf : fX11_named_1 v0 v1 s0 h = some z) : Ev (d + 5) none mX11_named (0, 0) 1 [.ref v0, .int v1, .null] [.ref s0] h (QI z) := by
  obtain ⟨_, h1, hf⟩ := bnd hf
  obtain ⟨fs, ho⟩ := isO_ok h1
  obtain ⟨r, h2, hf⟩ := bnd hf
  refine ev_V kqX11_named_1 jX11_anew (zX11_anew (d := d + 4) h2) ho rfl rfl (Nat.le_of_ble_eq_true rfl) rfl (as := []) (rest := []) rfl (Nat.le_of_ble_eq_true rfl) (fun _ _ hq => ?_)
  obtain ⟨rfl, hh⟩ := hq
  rw [hh]
  exact jm [2, 1, 0] (fun v0 v1 => fX11_named_4 v0 v1 r) (fun v0 v1 q => tX11_named_4 v0 v1 r q) hf
def wX11_named_0 : List En := [(.aload_n 0, 0, 0, 0)]
def fX11_named_0 (v0 : Nat) (v1 : Int32) (h : aH) : Option (Int32 × aH) :=
  fX11_named_1 v0 v1 v0 h
theorem tX11_named_0 {d : Nat} {z : Int32 × aH} (v0 : Nat) (v1 : Int32) (h : aH) (hf : fX11_named_0 v0 v1 h = some z) : Ev (d + 5) none mX11_named (0, 0) 0 [.ref v0, .int v1, .null] [] h (QI z) := 
  go_ok (X := none) (blk := wX11_named_0) (np := 1) (tt := 0) (kN := fun xs h st => app [2, 1, 0] (fun v0 v1 => apS [2] (fun s0 => fX11_named_1 v0 v1 s0 h) st) xs) (kT := fun _ _ _ => none) (kR := kRI)
    (fun xs h st q => jm [2, 1, 0] _ (fun v0 v1 q => apS_ok [2] _ (fun st => Ev (d + 5) none mX11_named (0, 0) 1 [.ref v0, .int v1, .null] st h (QI z)) st (fun s0 q => tX11_named_1 v0 v1 s0 h q) q) q)
    (fun _ _ _ q => nos q)
    kRI_ok (Or.inr rfl) (by decide +kernel) (by decide +kernel) hf
def gX11_named (v0 : Nat) (v1 : Int32) (h : aH) : Option (Int32 × aH) := fX11_named_0 v0 v1 h
theorem zX11_named {d : Nat} {z : Int32 × aH} {v0 : Nat} {v1 : Int32} {h : aH} (q : gX11_named v0 v1 h = some z) : CT (d + 5) mX11_named (0, 0) [.ref v0, .int v1] h (QI z) :=
  ct_ev (by decide +kernel) (Nat.le_of_ble_eq_true rfl) QI_r (jm [2, 1, 0] (fun v0 v1 => fX11_named_0 v0 v1 h) (fun v0 v1 q => tX11_named_0 v0 v1 h q) q)
def wX11_worthIn_32 : List En := [(.aload_n 0, 0, 0, 0), (.getfield 320, 207, 11, 32), (.ireturn, 0, 0, 0)]
def fX11_worthIn_32 (v0 : Nat) (h : aH) : Option (Int32 × aH) :=
  (gFI h 11 v0 32).bind fun t1 =>
  some (t1, h)
theorem tX11_worthIn_32 {d : Nat} {z : Int32 × aH} (v0 : Nat) (h : aH) (hf : fX11_worthIn_32 v0 h = some z) : Ev (d + 5) none mX11_worthIn (0, 0) 32 [.ref v0, .null, .null] [] h (QI z) := 
  go_ok (X := none) (blk := wX11_worthIn_32) (np := 37) (tt := 0) (kN := fun _ _ _ => none) (kT := fun _ _ _ => none) (kR := kRI)
    (fun _ _ _ q => nos q)
    (fun _ _ _ q => nos q)
    kRI_ok (Or.inr rfl) (by decide +kernel) (by decide +kernel) hf
theorem kqX11_worthIn_29 : okC mX11_worthIn 29 (.invokevirtual 326) 250 267 0 3 = true := by decide +kernel
def fX11_worthIn_29 (v0 : Nat) (s0 : Int32) (s1 : Int32) (s2 : Int32) (s3 : Nat) (h : aH) : Option (Int32 × aH) :=
  (isO h 11 s3).bind fun _ =>
  (gX11_within s3 s2 s1 s0 h).bind fun r =>
  fX11_worthIn_32 v0 r
theorem tX11_worthIn_29 {d : Nat} {z : Int32 × aH} (v0 : Nat) (s0 : Int32) (s1 : Int32) (s2 : Int32) (s3 : Nat) (h : aH) (hf : fX11_worthIn_29 v0 s0 s1 s2 s3 h = some z) : Ev (d + 5) none mX11_worthIn (0, 0) 29 [.ref v0, .null, .null] [.int s0, .int s1, .int s2, .ref s3] h (QI z) := by
  obtain ⟨_, h1, hf⟩ := bnd hf
  obtain ⟨fs, ho⟩ := isO_ok h1
  obtain ⟨r, h2, hf⟩ := bnd hf
  refine ev_V kqX11_worthIn_29 jX11_within (zX11_within (d := d + 0) h2) ho rfl rfl (Nat.le_of_ble_eq_true rfl) rfl (as := [.int s2, .int s1, .int s0]) (rest := []) rfl (Nat.le_of_ble_eq_true rfl) (fun _ _ hq => ?_)
  obtain ⟨rfl, hh⟩ := hq
  rw [hh]
  exact jm [2, 0, 0] (fun v0 => fX11_worthIn_32 v0 r) (fun v0 q => tX11_worthIn_32 v0 r q) hf
def wX11_worthIn_25 : List En := [(.aload_n 0, 0, 0, 0), (.iconst (-1), 0, 0, 0), (.iconst (-1), 0, 0, 0), (.iload_n 1, 0, 0, 0)]
def fX11_worthIn_25 (v0 : Nat) (v1 : Int32) (h : aH) : Option (Int32 × aH) :=
  fX11_worthIn_29 v0 v1 (kI (-1)) (kI (-1)) v0 h
theorem tX11_worthIn_25 {d : Nat} {z : Int32 × aH} (v0 : Nat) (v1 : Int32) (h : aH) (hf : fX11_worthIn_25 v0 v1 h = some z) : Ev (d + 5) none mX11_worthIn (0, 0) 25 [.ref v0, .int v1, .null] [] h (QI z) := 
  go_ok (X := none) (blk := wX11_worthIn_25) (np := 29) (tt := 0) (kN := fun xs h st => app [2, 0, 0] (fun v0 => apS [1, 1, 1, 2] (fun s0 s1 s2 s3 => fX11_worthIn_29 v0 s0 s1 s2 s3 h) st) xs) (kT := fun _ _ _ => none) (kR := kRI)
    (fun xs h st q => jm [2, 0, 0] _ (fun v0 q => apS_ok [1, 1, 1, 2] _ (fun st => Ev (d + 5) none mX11_worthIn (0, 0) 29 [.ref v0, .null, .null] st h (QI z)) st (fun s0 s1 s2 s3 q => tX11_worthIn_29 v0 s0 s1 s2 s3 h q) q) q)
    (fun _ _ _ q => nos q)
    kRI_ok (Or.inr rfl) (by decide +kernel) (by decide +kernel) hf
def wX11_worthIn_24 : List En := [(.ireturn, 0, 0, 0)]
def fX11_worthIn_24 (s0 : Int32) (h : aH) : Option (Int32 × aH) :=
  some (s0, h)
theorem tX11_worthIn_24 {d : Nat} {z : Int32 × aH} (s0 : Int32) (h : aH) (hf : fX11_worthIn_24 s0 h = some z) : Ev (d + 5) none mX11_worthIn (0, 0) 24 [.null, .null, .null] [.int s0] h (QI z) := 
  go_ok (X := none) (blk := wX11_worthIn_24) (np := 25) (tt := 0) (kN := fun _ _ _ => none) (kT := fun _ _ _ => none) (kR := kRI)
    (fun _ _ _ q => nos q)
    (fun _ _ _ q => nos q)
    kRI_ok (Or.inr rfl) (by decide +kernel) (by decide +kernel) hf
theorem kqX11_worthIn_21 : okC mX11_worthIn 21 (.invokevirtual 164) 183 198 0 1 = true := by decide +kernel
def fX11_worthIn_21 (s0 : Int32) (s1 : Nat) (h : aH) : Option (Int32 × aH) :=
  (isO h 11 s1).bind fun _ =>
  (gX11_no s1 s0 h).bind fun r =>
  fX11_worthIn_24 r.1 r.2
theorem tX11_worthIn_21 {d : Nat} {z : Int32 × aH} (s0 : Int32) (s1 : Nat) (h : aH) (hf : fX11_worthIn_21 s0 s1 h = some z) : Ev (d + 5) none mX11_worthIn (0, 0) 21 [.null, .null, .null] [.int s0, .ref s1] h (QI z) := by
  obtain ⟨_, h1, hf⟩ := bnd hf
  obtain ⟨fs, ho⟩ := isO_ok h1
  obtain ⟨r, h2, hf⟩ := bnd hf
  refine ev_V kqX11_worthIn_21 jX11_no (zX11_no (d := d + 4) h2) ho rfl rfl (Nat.le_of_ble_eq_true rfl) rfl (as := [.int s0]) (rest := []) rfl (Nat.le_of_ble_eq_true rfl) (fun _ _ hq => ?_)
  obtain ⟨rfl, rfl⟩ := hq
  exact jm [0, 0, 0] (fX11_worthIn_24 r.1 r.2) (fun q => tX11_worthIn_24 r.1 r.2 q) hf
def wX11_worthIn_19 : List En := [(.aload_n 0, 0, 0, 0), (.iload_n 2, 0, 0, 0)]
def fX11_worthIn_19 (v0 : Nat) (v2 : Int32) (h : aH) : Option (Int32 × aH) :=
  fX11_worthIn_21 v2 v0 h
theorem tX11_worthIn_19 {d : Nat} {z : Int32 × aH} (v0 : Nat) (v2 : Int32) (h : aH) (hf : fX11_worthIn_19 v0 v2 h = some z) : Ev (d + 5) none mX11_worthIn (0, 0) 19 [.ref v0, .null, .int v2] [] h (QI z) := 
  go_ok (X := none) (blk := wX11_worthIn_19) (np := 21) (tt := 0) (kN := fun xs h st => app [0, 0, 0] (apS [1, 2] (fun s0 s1 => fX11_worthIn_21 s0 s1 h) st) xs) (kT := fun _ _ _ => none) (kR := kRI)
    (fun xs h st q => jm [0, 0, 0] _ (fun q => apS_ok [1, 2] _ (fun st => Ev (d + 5) none mX11_worthIn (0, 0) 21 [.null, .null, .null] st h (QI z)) st (fun s0 s1 q => tX11_worthIn_21 s0 s1 h q) q) q)
    (fun _ _ _ q => nos q)
    kRI_ok (Or.inr rfl) (by decide +kernel) (by decide +kernel) hf
def wX11_worthIn_14 : List En := [(.istore_n 2, 0, 0, 0), (.iload_n 2, 0, 0, 0), (.ifCond .eq 9, 25, 0, 0)]
def fX11_worthIn_14 (v0 : Nat) (v1 : Int32) (s0 : Int32) (h : aH) : Option (Int32 × aH) :=
  if s0 = 0 then fX11_worthIn_25 v0 v1 h else fX11_worthIn_19 v0 s0 h
theorem tX11_worthIn_14 {d : Nat} {z : Int32 × aH} (v0 : Nat) (v1 : Int32) (s0 : Int32) (h : aH) (hf : fX11_worthIn_14 v0 v1 s0 h = some z) : Ev (d + 5) none mX11_worthIn (0, 0) 14 [.ref v0, .int v1, .null] [.int s0] h (QI z) := 
  go_ok (X := none) (blk := wX11_worthIn_14) (np := 19) (tt := 25) (kN := fun xs h st => app [2, 0, 1] (fun v0 v2 => apS [] (fX11_worthIn_19 v0 v2 h) st) xs) (kT := fun xs h st => app [2, 1, 0] (fun v0 v1 => apS [] (fX11_worthIn_25 v0 v1 h) st) xs) (kR := kRI)
    (fun xs h st q => jm [2, 0, 1] _ (fun v0 v2 q => apS_ok [] _ (fun st => Ev (d + 5) none mX11_worthIn (0, 0) 19 [.ref v0, .null, .int v2] st h (QI z)) st (fun q => tX11_worthIn_19 v0 v2 h q) q) q)
    (fun xs h st q => jm [2, 1, 0] _ (fun v0 v1 q => apS_ok [] _ (fun st => Ev (d + 5) none mX11_worthIn (0, 0) 25 [.ref v0, .int v1, .null] st h (QI z)) st (fun q => tX11_worthIn_25 v0 v1 h q) q) q)
    kRI_ok (Or.inr rfl) (by decide +kernel) (by decide +kernel) hf
theorem kqX11_worthIn_11 : okC mX11_worthIn 11 (.invokevirtual 300) 239 256 0 3 = true := by decide +kernel
def fX11_worthIn_11 (v0 : Nat) (v1 : Int32) (s0 : Int32) (s1 : Int32) (s2 : Int32) (s3 : Nat) (h : aH) : Option (Int32 × aH) :=
  (isO h 11 s3).bind fun _ =>
  (gX11_aheadWhy s3 s2 s1 s0 h).bind fun r =>
  fX11_worthIn_14 v0 v1 r.1 r.2
theorem tX11_worthIn_11 {d : Nat} {z : Int32 × aH} (v0 : Nat) (v1 : Int32) (s0 : Int32) (s1 : Int32) (s2 : Int32) (s3 : Nat) (h : aH) (hf : fX11_worthIn_11 v0 v1 s0 s1 s2 s3 h = some z) : Ev (d + 5) none mX11_worthIn (0, 0) 11 [.ref v0, .int v1, .null] [.int s0, .int s1, .int s2, .ref s3] h (QI z) := by
  obtain ⟨_, h1, hf⟩ := bnd hf
  obtain ⟨fs, ho⟩ := isO_ok h1
  obtain ⟨r, h2, hf⟩ := bnd hf
  refine ev_V kqX11_worthIn_11 jX11_aheadWhy (zX11_aheadWhy (d := d + 3) h2) ho rfl rfl (Nat.le_of_ble_eq_true rfl) rfl (as := [.int s2, .int s1, .int s0]) (rest := []) rfl (Nat.le_of_ble_eq_true rfl) (fun _ _ hq => ?_)
  obtain ⟨rfl, rfl⟩ := hq
  exact jm [2, 1, 0] (fun v0 v1 => fX11_worthIn_14 v0 v1 r.1 r.2) (fun v0 v1 q => tX11_worthIn_14 v0 v1 r.1 r.2 q) hf
def wX11_worthIn_4 : List En := [(.aload_n 0, 0, 0, 0), (.aload_n 0, 0, 0, 0), (.getfield 174, 189, 11, 14), (.iconst 0, 0, 0, 0), (.iload_n 1, 0, 0, 0)]
def fX11_worthIn_4 (v0 : Nat) (v1 : Int32) (h : aH) : Option (Int32 × aH) :=
  (gFI h 11 v0 14).bind fun t1 =>
  fX11_worthIn_11 v0 v1 v1 (kI 0) t1 v0 h
theorem tX11_worthIn_4 {d : Nat} {z : Int32 × aH} (v0 : Nat) (v1 : Int32) (h : aH) (hf : fX11_worthIn_4 v0 v1 h = some z) : Ev (d + 5) none mX11_worthIn (0, 0) 4 [.ref v0, .int v1, .null] [] h (QI z) := 
  go_ok (X := none) (blk := wX11_worthIn_4) (np := 11) (tt := 0) (kN := fun xs h st => app [2, 1, 0] (fun v0 v1 => apS [1, 1, 1, 2] (fun s0 s1 s2 s3 => fX11_worthIn_11 v0 v1 s0 s1 s2 s3 h) st) xs) (kT := fun _ _ _ => none) (kR := kRI)
    (fun xs h st q => jm [2, 1, 0] _ (fun v0 v1 q => apS_ok [1, 1, 1, 2] _ (fun st => Ev (d + 5) none mX11_worthIn (0, 0) 11 [.ref v0, .int v1, .null] st h (QI z)) st (fun s0 s1 s2 s3 q => tX11_worthIn_11 v0 v1 s0 s1 s2 s3 h q) q) q)
    (fun _ _ _ q => nos q)
    kRI_ok (Or.inr rfl) (by decide +kernel) (by decide +kernel) hf
theorem kqX11_worthIn_1 : okC mX11_worthIn 1 (.invokevirtual 161) 181 196 0 0 = true := by decide +kernel
def fX11_worthIn_1 (v0 : Nat) (v1 : Int32) (s0 : Nat) (h : aH) : Option (Int32 × aH) :=
  (isO h 11 s0).bind fun _ =>
  (gX11_anew s0 h).bind fun r =>
  fX11_worthIn_4 v0 v1 r
theorem tX11_worthIn_1 {d : Nat} {z : Int32 × aH} (v0 : Nat) (v1 : Int32) (s0 : Nat) (h : aH) (hf : fX11_worthIn_1 v0 v1 s0 h = some z) : Ev (d + 5) none mX11_worthIn (0, 0) 1 [.ref v0, .int v1, .null] [.ref s0] h (QI z) := by
  obtain ⟨_, h1, hf⟩ := bnd hf
  obtain ⟨fs, ho⟩ := isO_ok h1
  obtain ⟨r, h2, hf⟩ := bnd hf
  refine ev_V kqX11_worthIn_1 jX11_anew (zX11_anew (d := d + 4) h2) ho rfl rfl (Nat.le_of_ble_eq_true rfl) rfl (as := []) (rest := []) rfl (Nat.le_of_ble_eq_true rfl) (fun _ _ hq => ?_)
  obtain ⟨rfl, hh⟩ := hq
  rw [hh]
  exact jm [2, 1, 0] (fun v0 v1 => fX11_worthIn_4 v0 v1 r) (fun v0 v1 q => tX11_worthIn_4 v0 v1 r q) hf
def wX11_worthIn_0 : List En := [(.aload_n 0, 0, 0, 0)]
def fX11_worthIn_0 (v0 : Nat) (v1 : Int32) (h : aH) : Option (Int32 × aH) :=
  fX11_worthIn_1 v0 v1 v0 h
theorem tX11_worthIn_0 {d : Nat} {z : Int32 × aH} (v0 : Nat) (v1 : Int32) (h : aH) (hf : fX11_worthIn_0 v0 v1 h = some z) : Ev (d + 5) none mX11_worthIn (0, 0) 0 [.ref v0, .int v1, .null] [] h (QI z) := 
  go_ok (X := none) (blk := wX11_worthIn_0) (np := 1) (tt := 0) (kN := fun xs h st => app [2, 1, 0] (fun v0 v1 => apS [2] (fun s0 => fX11_worthIn_1 v0 v1 s0 h) st) xs) (kT := fun _ _ _ => none) (kR := kRI)
    (fun xs h st q => jm [2, 1, 0] _ (fun v0 v1 q => apS_ok [2] _ (fun st => Ev (d + 5) none mX11_worthIn (0, 0) 1 [.ref v0, .int v1, .null] st h (QI z)) st (fun s0 q => tX11_worthIn_1 v0 v1 s0 h q) q) q)
    (fun _ _ _ q => nos q)
    kRI_ok (Or.inr rfl) (by decide +kernel) (by decide +kernel) hf
def gX11_worthIn (v0 : Nat) (v1 : Int32) (h : aH) : Option (Int32 × aH) := fX11_worthIn_0 v0 v1 h
theorem zX11_worthIn {d : Nat} {z : Int32 × aH} {v0 : Nat} {v1 : Int32} {h : aH} (q : gX11_worthIn v0 v1 h = some z) : CT (d + 5) mX11_worthIn (0, 0) [.ref v0, .int v1] h (QI z) :=
  ct_ev (by decide +kernel) (Nat.le_of_ble_eq_true rfl) QI_r (jm [2, 1, 0] (fun v0 v1 => fX11_worthIn_0 v0 v1 h) (fun v0 v1 q => tX11_worthIn_0 v0 v1 h q) q)
end
