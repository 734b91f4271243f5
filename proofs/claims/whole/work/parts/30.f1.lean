noncomputable section
def wX8_append_46 : List En := [(.return_, 0, 0, 0)]
def fX8_append_46 (h : aH) : Option (aH) :=
  some h
theorem tX8_append_46 {d : Nat} {z : aH} (h : aH) (hf : fX8_append_46 h = some z) : Ev (d + 0) none mX8_append (0, 0) 46 [.null, .null, .null] [] h (QV z) := 
  go_ok (X := none) (blk := wX8_append_46) (np := 47) (tt := 0) (kN := fun _ _ _ => none) (kT := fun _ _ _ => none) (kR := kRV)
    (fun _ _ _ q => nos q)
    (fun _ _ _ q => nos q)
    kRV_ok (Or.inr rfl) (by decide +kernel) (by decide +kernel) hf
def wX8_append_17 : List En := [(.aload_n 0, 0, 0, 0), (.getfield 9, 6, 8, 3), (.aload_n 0, 0, 0, 0), (.getfield 29, 0, 8, 0), (.iload_n 1, 0, 0, 0), (.iload_n 2, 0, 0, 0), (.ishr, 0, 0, 0), (.i2b, 0, 0, 0), (.bastore, 0, 0, 0), (.aload_n 0, 0, 0, 0), (.dup, 0, 0, 0), (.getfield 29, 0, 8, 0), (.iconst 1, 0, 0, 0), (.iadd, 0, 0, 0), (.putfield 29, 0, 8, 0), (.iinc 2 (-8), 0, 0, 0), (.goto (-40), 3, 0, 0)]
def fX8_append_17 (k3 : Nat → Int32 → Int32 → aH → Option (aH)) (v0 : Nat) (v1 : Int32) (v2 : Int32) (h : aH) : Option (aH) :=
  (gFR h 8 v0 3).bind fun t1 =>
  (gFI h 8 v0 0).bind fun t2 =>
  (aWB h t1 t2 (v1 >>> (v2 &&& 31)).toInt8.toInt32).bind fun h3 =>
  (gFI h3 8 v0 0).bind fun t4 =>
  (pWV h3 8 v0 0 (.int (t4 + (kI 1)))).bind fun h5 =>
  k3 v0 v1 (v2 + kI (-8)) h5
theorem tX8_append_17 {d : Nat} {z : aH} {k3 : Nat → Int32 → Int32 → aH → Option (aH)} (hk3 : ∀ (v0 : Nat) (v1 : Int32) (v2 : Int32) (h : aH), k3 v0 v1 v2 h = some z → Ev (d + 0) none mX8_append (0, 0) 3 [.ref v0, .int v1, .int v2] [] h (QV z)) (v0 : Nat) (v1 : Int32) (v2 : Int32) (h : aH) (hf : fX8_append_17 k3 v0 v1 v2 h = some z) : Ev (d + 0) none mX8_append (0, 0) 17 [.ref v0, .int v1, .int v2] [] h (QV z) := 
  go_ok (X := none) (blk := wX8_append_17) (np := 46) (tt := 3) (kN := fun _ _ _ => none) (kT := fun xs h st => app [2, 1, 1] (fun v0 v1 v2 => apS [] (k3 v0 v1 v2 h) st) xs) (kR := kRV)
    (fun _ _ _ q => nos q)
    (fun xs h st q => jm [2, 1, 1] _ (fun v0 v1 v2 q => apS_ok [] _ (fun st => Ev (d + 0) none mX8_append (0, 0) 3 [.ref v0, .int v1, .int v2] st h (QV z)) st (fun q => hk3 v0 v1 v2 h q) q) q)
    kRV_ok (Or.inr rfl) (by decide +kernel) (by decide +kernel) hf
def wX8_append_7 : List En := [(.aload_n 0, 0, 0, 0), (.getfield 29, 0, 8, 0), (.sipush 700, 0, 0, 0), (.if_icmp .ge 32, 46, 0, 0)]
def fX8_append_7 (k3 : Nat → Int32 → Int32 → aH → Option (aH)) (v0 : Nat) (v1 : Int32) (v2 : Int32) (h : aH) : Option (aH) :=
  (gFI h 8 v0 0).bind fun t1 =>
  if t1 < (kS 700) then fX8_append_17 k3 v0 v1 v2 h else fX8_append_46 h
theorem tX8_append_7 {d : Nat} {z : aH} {k3 : Nat → Int32 → Int32 → aH → Option (aH)} (hk3 : ∀ (v0 : Nat) (v1 : Int32) (v2 : Int32) (h : aH), k3 v0 v1 v2 h = some z → Ev (d + 0) none mX8_append (0, 0) 3 [.ref v0, .int v1, .int v2] [] h (QV z)) (v0 : Nat) (v1 : Int32) (v2 : Int32) (h : aH) (hf : fX8_append_7 k3 v0 v1 v2 h = some z) : Ev (d + 0) none mX8_append (0, 0) 7 [.ref v0, .int v1, .int v2] [] h (QV z) := 
  go_ok (X := none) (blk := wX8_append_7) (np := 17) (tt := 46) (kN := fun xs h st => app [2, 1, 1] (fun v0 v1 v2 => apS [] (fX8_append_17 k3 v0 v1 v2 h) st) xs) (kT := fun xs h st => app [0, 0, 0] (apS [] (fX8_append_46 h) st) xs) (kR := kRV)
    (fun xs h st q => jm [2, 1, 1] _ (fun v0 v1 v2 q => apS_ok [] _ (fun st => Ev (d + 0) none mX8_append (0, 0) 17 [.ref v0, .int v1, .int v2] st h (QV z)) st (fun q => tX8_append_17 hk3 v0 v1 v2 h q) q) q)
    (fun xs h st q => jm [0, 0, 0] _ (fun q => apS_ok [] _ (fun st => Ev (d + 0) none mX8_append (0, 0) 46 [.null, .null, .null] st h (QV z)) st (fun q => tX8_append_46 h q) q) q)
    kRV_ok (Or.inr rfl) (by decide +kernel) (by decide +kernel) hf
def wX8_append_3 : List En := [(.iload_n 2, 0, 0, 0), (.ifCond .lt 42, 46, 0, 0)]
def fX8_append_3 (k3 : Nat → Int32 → Int32 → aH → Option (aH)) (v0 : Nat) (v1 : Int32) (v2 : Int32) (h : aH) : Option (aH) :=
  if v2 < 0 then fX8_append_46 h else fX8_append_7 k3 v0 v1 v2 h
theorem tX8_append_3 {d : Nat} {z : aH} {k3 : Nat → Int32 → Int32 → aH → Option (aH)} (hk3 : ∀ (v0 : Nat) (v1 : Int32) (v2 : Int32) (h : aH), k3 v0 v1 v2 h = some z → Ev (d + 0) none mX8_append (0, 0) 3 [.ref v0, .int v1, .int v2] [] h (QV z)) (v0 : Nat) (v1 : Int32) (v2 : Int32) (h : aH) (hf : fX8_append_3 k3 v0 v1 v2 h = some z) : Ev (d + 0) none mX8_append (0, 0) 3 [.ref v0, .int v1, .int v2] [] h (QV z) := 
  go_ok (X := none) (blk := wX8_append_3) (np := 7) (tt := 46) (kN := fun xs h st => app [2, 1, 1] (fun v0 v1 v2 => apS [] (fX8_append_7 k3 v0 v1 v2 h) st) xs) (kT := fun xs h st => app [0, 0, 0] (apS [] (fX8_append_46 h) st) xs) (kR := kRV)
    (fun xs h st q => jm [2, 1, 1] _ (fun v0 v1 v2 q => apS_ok [] _ (fun st => Ev (d + 0) none mX8_append (0, 0) 7 [.ref v0, .int v1, .int v2] st h (QV z)) st (fun q => tX8_append_7 hk3 v0 v1 v2 h q) q) q)
    (fun xs h st q => jm [0, 0, 0] _ (fun q => apS_ok [] _ (fun st => Ev (d + 0) none mX8_append (0, 0) 46 [.null, .null, .null] st h (QV z)) st (fun q => tX8_append_46 h q) q) q)
    kRV_ok (Or.inr rfl) (by decide +kernel) (by decide +kernel) hf
def lX8_append_3 : Nat → Nat → Int32 → Int32 → aH → Option (aH)
  | 0, _, _, _, _ => none
  | n + 1, v0, v1, v2, h => fX8_append_3 (lX8_append_3 n) v0 v1 v2 h
theorem uX8_append_3 {d : Nat} {z : aH} : ∀ (n : Nat) (v0 : Nat) (v1 : Int32) (v2 : Int32) (h : aH), lX8_append_3 n v0 v1 v2 h = some z → Ev (d + 0) none mX8_append (0, 0) 3 [.ref v0, .int v1, .int v2] [] h (QV z) := by
  intro n
  induction n with
  | zero => intro _ _ _ _ q; exact nos (show (none : Option (aH)) = some z from q)
  | succ n ih => intro v0 v1 v2 h q; exact tX8_append_3 ih v0 v1 v2 h q
def wX8_append_0 : List En := [(.bipush 24, 0, 0, 0), (.istore_n 2, 0, 0, 0)]
def fX8_append_0 (v0 : Nat) (v1 : Int32) (h : aH) : Option (aH) :=
  lX8_append_3 FU v0 v1 (kB 24) h
theorem tX8_append_0 {d : Nat} {z : aH} (v0 : Nat) (v1 : Int32) (h : aH) (hf : fX8_append_0 v0 v1 h = some z) : Ev (d + 0) none mX8_append (0, 0) 0 [.ref v0, .int v1, .null] [] h (QV z) := 
  go_ok (X := none) (blk := wX8_append_0) (np := 3) (tt := 0) (kN := fun xs h st => app [2, 1, 1] (fun v0 v1 v2 => apS [] (lX8_append_3 FU v0 v1 v2 h) st) xs) (kT := fun _ _ _ => none) (kR := kRV)
    (fun xs h st q => jm [2, 1, 1] _ (fun v0 v1 v2 q => apS_ok [] _ (fun st => Ev (d + 0) none mX8_append (0, 0) 3 [.ref v0, .int v1, .int v2] st h (QV z)) st (fun q => uX8_append_3 FU v0 v1 v2 h q) q) q)
    (fun _ _ _ q => nos q)
    kRV_ok (Or.inr rfl) (by decide +kernel) (by decide +kernel) hf
def gX8_append (v0 : Nat) (v1 : Int32) (h : aH) : Option (aH) := fX8_append_0 v0 v1 h
theorem zX8_append {d : Nat} {z : aH} {v0 : Nat} {v1 : Int32} {h : aH} (q : gX8_append v0 v1 h = some z) : CT (d + 0) mX8_append (0, 0) [.ref v0, .int v1] h (QV z) :=
  ct_ev (by decide +kernel) (Nat.le_of_ble_eq_true rfl) QV_r (jm [2, 1, 0] (fun v0 v1 => fX8_append_0 v0 v1 h) (fun v0 v1 q => tX8_append_0 v0 v1 h q) q)
def wX8_hasRoom_17 : List En := [(.ireturn, 0, 0, 0)]
def fX8_hasRoom_17 (s0 : Int32) (h : aH) : Option (Int32 × aH) :=
  if s0 = 0 ∨ s0 = 1 then some (s0, h) else none
theorem tX8_hasRoom_17 {d : Nat} {z : Int32 × aH} (s0 : Int32) (h : aH) (hf : fX8_hasRoom_17 s0 h = some z) : Ev (d + 0) none mX8_hasRoom (0, 0) 17 [.null, .null] [.int s0] h (QZ z) := 
  go_ok (X := none) (blk := wX8_hasRoom_17) (np := 18) (tt := 0) (kN := fun _ _ _ => none) (kT := fun _ _ _ => none) (kR := kRZ)
    (fun _ _ _ q => nos q)
    (fun _ _ _ q => nos q)
    kRZ_ok (Or.inr rfl) (by decide +kernel) (by decide +kernel) hf
def wX8_hasRoom_16 : List En := [(.iconst 0, 0, 0, 0)]
def fX8_hasRoom_16 (h : aH) : Option (Int32 × aH) :=
  fX8_hasRoom_17 (kI 0) h
theorem tX8_hasRoom_16 {d : Nat} {z : Int32 × aH} (h : aH) (hf : fX8_hasRoom_16 h = some z) : Ev (d + 0) none mX8_hasRoom (0, 0) 16 [.null, .null] [] h (QZ z) := 
  go_ok (X := none) (blk := wX8_hasRoom_16) (np := 17) (tt := 0) (kN := fun xs h st => app [0, 0] (apS [1] (fun s0 => fX8_hasRoom_17 s0 h) st) xs) (kT := fun _ _ _ => none) (kR := kRZ)
    (fun xs h st q => jm [0, 0] _ (fun q => apS_ok [1] _ (fun st => Ev (d + 0) none mX8_hasRoom (0, 0) 17 [.null, .null] st h (QZ z)) st (fun s0 q => tX8_hasRoom_17 s0 h q) q) q)
    (fun _ _ _ q => nos q)
    kRZ_ok (Or.inr rfl) (by decide +kernel) (by decide +kernel) hf
def wX8_hasRoom_12 : List En := [(.iconst 1, 0, 0, 0), (.goto 4, 17, 0, 0)]
def fX8_hasRoom_12 (h : aH) : Option (Int32 × aH) :=
  fX8_hasRoom_17 (kI 1) h
theorem tX8_hasRoom_12 {d : Nat} {z : Int32 × aH} (h : aH) (hf : fX8_hasRoom_12 h = some z) : Ev (d + 0) none mX8_hasRoom (0, 0) 12 [.null, .null] [] h (QZ z) := 
  go_ok (X := none) (blk := wX8_hasRoom_12) (np := 16) (tt := 17) (kN := fun _ _ _ => none) (kT := fun xs h st => app [0, 0] (apS [1] (fun s0 => fX8_hasRoom_17 s0 h) st) xs) (kR := kRZ)
    (fun _ _ _ q => nos q)
    (fun xs h st q => jm [0, 0] _ (fun q => apS_ok [1] _ (fun st => Ev (d + 0) none mX8_hasRoom (0, 0) 17 [.null, .null] st h (QZ z)) st (fun s0 q => tX8_hasRoom_17 s0 h q) q) q)
    kRZ_ok (Or.inr rfl) (by decide +kernel) (by decide +kernel) hf
def wX8_hasRoom_0 : List En := [(.aload_n 0, 0, 0, 0), (.getfield 29, 0, 8, 0), (.iload_n 1, 0, 0, 0), (.iadd, 0, 0, 0), (.sipush 700, 0, 0, 0), (.if_icmp .gt 7, 16, 0, 0)]
def fX8_hasRoom_0 (v0 : Nat) (v1 : Int32) (h : aH) : Option (Int32 × aH) :=
  (gFI h 8 v0 0).bind fun t1 =>
  if (kS 700) < (t1 + v1) then fX8_hasRoom_16 h else fX8_hasRoom_12 h
theorem tX8_hasRoom_0 {d : Nat} {z : Int32 × aH} (v0 : Nat) (v1 : Int32) (h : aH) (hf : fX8_hasRoom_0 v0 v1 h = some z) : Ev (d + 0) none mX8_hasRoom (0, 0) 0 [.ref v0, .int v1] [] h (QZ z) := 
  go_ok (X := none) (blk := wX8_hasRoom_0) (np := 12) (tt := 16) (kN := fun xs h st => app [0, 0] (apS [] (fX8_hasRoom_12 h) st) xs) (kT := fun xs h st => app [0, 0] (apS [] (fX8_hasRoom_16 h) st) xs) (kR := kRZ)
    (fun xs h st q => jm [0, 0] _ (fun q => apS_ok [] _ (fun st => Ev (d + 0) none mX8_hasRoom (0, 0) 12 [.null, .null] st h (QZ z)) st (fun q => tX8_hasRoom_12 h q) q) q)
    (fun xs h st q => jm [0, 0] _ (fun q => apS_ok [] _ (fun st => Ev (d + 0) none mX8_hasRoom (0, 0) 16 [.null, .null] st h (QZ z)) st (fun q => tX8_hasRoom_16 h q) q) q)
    kRZ_ok (Or.inr rfl) (by decide +kernel) (by decide +kernel) hf
def gX8_hasRoom (v0 : Nat) (v1 : Int32) (h : aH) : Option (Int32 × aH) := fX8_hasRoom_0 v0 v1 h
theorem zX8_hasRoom {d : Nat} {z : Int32 × aH} {v0 : Nat} {v1 : Int32} {h : aH} (q : gX8_hasRoom v0 v1 h = some z) : CT (d + 0) mX8_hasRoom (0, 0) [.ref v0, .int v1] h (QZ z) :=
  ct_ev (by decide +kernel) (Nat.le_of_ble_eq_true rfl) QZ_r (jm [2, 1] (fun v0 v1 => fX8_hasRoom_0 v0 v1 h) (fun v0 v1 q => tX8_hasRoom_0 v0 v1 h q) q)
def wX10_feed_56 : List En := [(.aload_n 0, 0, 0, 0), (.getfield 10, 162, 10, 0), (.getfield 90, 1, 8, 0), (.ireturn, 0, 0, 0)]
def fX10_feed_56 (v0 : Nat) (h : aH) : Option (Int32 × aH) :=
  (gFR h 10 v0 0).bind fun t1 =>
  (gFI h 8 t1 0).bind fun t2 =>
  some (t2, h)
theorem tX10_feed_56 {d : Nat} {z : Int32 × aH} (v0 : Nat) (h : aH) (hf : fX10_feed_56 v0 h = some z) : Ev (d + 1) none mX10_feed (0, 0) 56 [.ref v0, .null, .null, .null, .null, .null] [] h (QI z) := 
  go_ok (X := none) (blk := wX10_feed_56) (np := 64) (tt := 0) (kN := fun _ _ _ => none) (kT := fun _ _ _ => none) (kR := kRI)
    (fun _ _ _ q => nos q)
    (fun _ _ _ q => nos q)
    kRI_ok (Or.inr rfl) (by decide +kernel) (by decide +kernel) hf
theorem kqX10_feed_53 : okC mX10_feed 53 (.invokevirtual 86) 13 6 0 1 = true := by decide +kernel
def fX10_feed_53 (v0 : Nat) (s0 : Int32) (s1 : Nat) (h : aH) : Option (Int32 × aH) :=
  (isO h 8 s1).bind fun _ =>
  (gX8_append s1 s0 h).bind fun r =>
  fX10_feed_56 v0 r
theorem tX10_feed_53 {d : Nat} {z : Int32 × aH} (v0 : Nat) (s0 : Int32) (s1 : Nat) (h : aH) (hf : fX10_feed_53 v0 s0 s1 h = some z) : Ev (d + 1) none mX10_feed (0, 0) 53 [.ref v0, .null, .null, .null, .null, .null] [.int s0, .ref s1] h (QI z) := by
  obtain ⟨_, h1, hf⟩ := bnd hf
  obtain ⟨fs, ho⟩ := isO_ok h1
  obtain ⟨r, h2, hf⟩ := bnd hf
  refine ev_V kqX10_feed_53 jX8_append (zX8_append (d := d + 0) h2) ho rfl rfl (Nat.le_of_ble_eq_true rfl) rfl (as := [.int s0]) (rest := []) rfl (Nat.le_of_ble_eq_true rfl) (fun _ _ hq => ?_)
  obtain ⟨rfl, hh⟩ := hq
  rw [hh]
  exact jm [2, 0, 0, 0, 0, 0] (fun v0 => fX10_feed_56 v0 r) (fun v0 q => tX10_feed_56 v0 r q) hf
def wX10_feed_47 : List En := [(.aload_n 0, 0, 0, 0), (.getfield 10, 162, 10, 0), (.iload 5, 0, 0, 0)]
def fX10_feed_47 (v0 : Nat) (v5 : Int32) (h : aH) : Option (Int32 × aH) :=
  (gFR h 10 v0 0).bind fun t1 =>
  fX10_feed_53 v0 v5 t1 h
theorem tX10_feed_47 {d : Nat} {z : Int32 × aH} (v0 : Nat) (v5 : Int32) (h : aH) (hf : fX10_feed_47 v0 v5 h = some z) : Ev (d + 1) none mX10_feed (0, 0) 47 [.ref v0, .null, .null, .null, .null, .int v5] [] h (QI z) := 
  go_ok (X := none) (blk := wX10_feed_47) (np := 53) (tt := 0) (kN := fun xs h st => app [2, 0, 0, 0, 0, 0] (fun v0 => apS [1, 2] (fun s0 s1 => fX10_feed_53 v0 s0 s1 h) st) xs) (kT := fun _ _ _ => none) (kR := kRI)
    (fun xs h st q => jm [2, 0, 0, 0, 0, 0] _ (fun v0 q => apS_ok [1, 2] _ (fun st => Ev (d + 1) none mX10_feed (0, 0) 53 [.ref v0, .null, .null, .null, .null, .null] st h (QI z)) st (fun s0 s1 q => tX10_feed_53 v0 s0 s1 h q) q) q)
    (fun _ _ _ q => nos q)
    kRI_ok (Or.inr rfl) (by decide +kernel) (by decide +kernel) hf
theorem kqX10_feed_44 : okC mX10_feed 44 (.invokevirtual 86) 13 6 0 1 = true := by decide +kernel
def fX10_feed_44 (v0 : Nat) (v5 : Int32) (s0 : Int32) (s1 : Nat) (h : aH) : Option (Int32 × aH) :=
  (isO h 8 s1).bind fun _ =>
  (gX8_append s1 s0 h).bind fun r =>
  fX10_feed_47 v0 v5 r
theorem tX10_feed_44 {d : Nat} {z : Int32 × aH} (v0 : Nat) (v5 : Int32) (s0 : Int32) (s1 : Nat) (h : aH) (hf : fX10_feed_44 v0 v5 s0 s1 h = some z) : Ev (d + 1) none mX10_feed (0, 0) 44 [.ref v0, .null, .null, .null, .null, .int v5] [.int s0, .ref s1] h (QI z) := by
  obtain ⟨_, h1, hf⟩ := bnd hf
  obtain ⟨fs, ho⟩ := isO_ok h1
  obtain ⟨r, h2, hf⟩ := bnd hf
  refine ev_V kqX10_feed_44 jX8_append (zX8_append (d := d + 0) h2) ho rfl rfl (Nat.le_of_ble_eq_true rfl) rfl (as := [.int s0]) (rest := []) rfl (Nat.le_of_ble_eq_true rfl) (fun _ _ hq => ?_)
  obtain ⟨rfl, hh⟩ := hq
  rw [hh]
  exact jm [2, 0, 0, 0, 0, 1] (fun v0 v5 => fX10_feed_47 v0 v5 r) (fun v0 v5 q => tX10_feed_47 v0 v5 r q) hf
def wX10_feed_38 : List En := [(.aload_n 0, 0, 0, 0), (.getfield 10, 162, 10, 0), (.iload 4, 0, 0, 0)]
def fX10_feed_38 (v0 : Nat) (v4 : Int32) (v5 : Int32) (h : aH) : Option (Int32 × aH) :=
  (gFR h 10 v0 0).bind fun t1 =>
  fX10_feed_44 v0 v5 v4 t1 h
theorem tX10_feed_38 {d : Nat} {z : Int32 × aH} (v0 : Nat) (v4 : Int32) (v5 : Int32) (h : aH) (hf : fX10_feed_38 v0 v4 v5 h = some z) : Ev (d + 1) none mX10_feed (0, 0) 38 [.ref v0, .null, .null, .null, .int v4, .int v5] [] h (QI z) := 
  go_ok (X := none) (blk := wX10_feed_38) (np := 44) (tt := 0) (kN := fun xs h st => app [2, 0, 0, 0, 0, 1] (fun v0 v5 => apS [1, 2] (fun s0 s1 => fX10_feed_44 v0 v5 s0 s1 h) st) xs) (kT := fun _ _ _ => none) (kR := kRI)
    (fun xs h st q => jm [2, 0, 0, 0, 0, 1] _ (fun v0 v5 q => apS_ok [1, 2] _ (fun st => Ev (d + 1) none mX10_feed (0, 0) 44 [.ref v0, .null, .null, .null, .null, .int v5] st h (QI z)) st (fun s0 s1 q => tX10_feed_44 v0 v5 s0 s1 h q) q) q)
    (fun _ _ _ q => nos q)
    kRI_ok (Or.inr rfl) (by decide +kernel) (by decide +kernel) hf
theorem kqX10_feed_35 : okC mX10_feed 35 (.invokevirtual 86) 13 6 0 1 = true := by decide +kernel
def fX10_feed_35 (v0 : Nat) (v4 : Int32) (v5 : Int32) (s0 : Int32) (s1 : Nat) (h : aH) : Option (Int32 × aH) :=
  (isO h 8 s1).bind fun _ =>
  (gX8_append s1 s0 h).bind fun r =>
  fX10_feed_38 v0 v4 v5 r
theorem tX10_feed_35 {d : Nat} {z : Int32 × aH} (v0 : Nat) (v4 : Int32) (v5 : Int32) (s0 : Int32) (s1 : Nat) (h : aH) (hf : fX10_feed_35 v0 v4 v5 s0 s1 h = some z) : Ev (d + 1) none mX10_feed (0, 0) 35 [.ref v0, .null, .null, .null, .int v4, .int v5] [.int s0, .ref s1] h (QI z) := by
  obtain ⟨_, h1, hf⟩ := bnd hf
  obtain ⟨fs, ho⟩ := isO_ok h1
  obtain ⟨r, h2, hf⟩ := bnd hf
  refine ev_V kqX10_feed_35 jX8_append (zX8_append (d := d + 0) h2) ho rfl rfl (Nat.le_of_ble_eq_true rfl) rfl (as := [.int s0]) (rest := []) rfl (Nat.le_of_ble_eq_true rfl) (fun _ _ hq => ?_)
  obtain ⟨rfl, hh⟩ := hq
  rw [hh]
  exact jm [2, 0, 0, 0, 1, 1] (fun v0 v4 v5 => fX10_feed_38 v0 v4 v5 r) (fun v0 v4 v5 q => tX10_feed_38 v0 v4 v5 r q) hf
def wX10_feed_30 : List En := [(.aload_n 0, 0, 0, 0), (.getfield 10, 162, 10, 0), (.iload_n 3, 0, 0, 0)]
def fX10_feed_30 (v0 : Nat) (v3 : Int32) (v4 : Int32) (v5 : Int32) (h : aH) : Option (Int32 × aH) :=
  (gFR h 10 v0 0).bind fun t1 =>
  fX10_feed_35 v0 v4 v5 v3 t1 h
theorem tX10_feed_30 {d : Nat} {z : Int32 × aH} (v0 : Nat) (v3 : Int32) (v4 : Int32) (v5 : Int32) (h : aH) (hf : fX10_feed_30 v0 v3 v4 v5 h = some z) : Ev (d + 1) none mX10_feed (0, 0) 30 [.ref v0, .null, .null, .int v3, .int v4, .int v5] [] h (QI z) := 
  go_ok (X := none) (blk := wX10_feed_30) (np := 35) (tt := 0) (kN := fun xs h st => app [2, 0, 0, 0, 1, 1] (fun v0 v4 v5 => apS [1, 2] (fun s0 s1 => fX10_feed_35 v0 v4 v5 s0 s1 h) st) xs) (kT := fun _ _ _ => none) (kR := kRI)
    (fun xs h st q => jm [2, 0, 0, 0, 1, 1] _ (fun v0 v4 v5 q => apS_ok [1, 2] _ (fun st => Ev (d + 1) none mX10_feed (0, 0) 35 [.ref v0, .null, .null, .null, .int v4, .int v5] st h (QI z)) st (fun s0 s1 q => tX10_feed_35 v0 v4 v5 s0 s1 h q) q) q)
    (fun _ _ _ q => nos q)
    kRI_ok (Or.inr rfl) (by decide +kernel) (by decide +kernel) hf
theorem kqX10_feed_27 : okC mX10_feed 27 (.invokevirtual 86) 13 6 0 1 = true := by decide +kernel
def fX10_feed_27 (v0 : Nat) (v3 : Int32) (v4 : Int32) (v5 : Int32) (s0 : Int32) (s1 : Nat) (h : aH) : Option (Int32 × aH) :=
  (isO h 8 s1).bind fun _ =>
  (gX8_append s1 s0 h).bind fun r =>
  fX10_feed_30 v0 v3 v4 v5 r
theorem tX10_feed_27 {d : Nat} {z : Int32 × aH} (v0 : Nat) (v3 : Int32) (v4 : Int32) (v5 : Int32) (s0 : Int32) (s1 : Nat) (h : aH) (hf : fX10_feed_27 v0 v3 v4 v5 s0 s1 h = some z) : Ev (d + 1) none mX10_feed (0, 0) 27 [.ref v0, .null, .null, .int v3, .int v4, .int v5] [.int s0, .ref s1] h (QI z) := by
  obtain ⟨_, h1, hf⟩ := bnd hf
  obtain ⟨fs, ho⟩ := isO_ok h1
  obtain ⟨r, h2, hf⟩ := bnd hf
  refine ev_V kqX10_feed_27 jX8_append (zX8_append (d := d + 0) h2) ho rfl rfl (Nat.le_of_ble_eq_true rfl) rfl (as := [.int s0]) (rest := []) rfl (Nat.le_of_ble_eq_true rfl) (fun _ _ hq => ?_)
  obtain ⟨rfl, hh⟩ := hq
  rw [hh]
  exact jm [2, 0, 0, 1, 1, 1] (fun v0 v3 v4 v5 => fX10_feed_30 v0 v3 v4 v5 r) (fun v0 v3 v4 v5 q => tX10_feed_30 v0 v3 v4 v5 r q) hf
def wX10_feed_22 : List En := [(.aload_n 0, 0, 0, 0), (.getfield 10, 162, 10, 0), (.iload_n 2, 0, 0, 0)]
def fX10_feed_22 (v0 : Nat) (v2 : Int32) (v3 : Int32) (v4 : Int32) (v5 : Int32) (h : aH) : Option (Int32 × aH) :=
  (gFR h 10 v0 0).bind fun t1 =>
  fX10_feed_27 v0 v3 v4 v5 v2 t1 h
theorem tX10_feed_22 {d : Nat} {z : Int32 × aH} (v0 : Nat) (v2 : Int32) (v3 : Int32) (v4 : Int32) (v5 : Int32) (h : aH) (hf : fX10_feed_22 v0 v2 v3 v4 v5 h = some z) : Ev (d + 1) none mX10_feed (0, 0) 22 [.ref v0, .null, .int v2, .int v3, .int v4, .int v5] [] h (QI z) := 
  go_ok (X := none) (blk := wX10_feed_22) (np := 27) (tt := 0) (kN := fun xs h st => app [2, 0, 0, 1, 1, 1] (fun v0 v3 v4 v5 => apS [1, 2] (fun s0 s1 => fX10_feed_27 v0 v3 v4 v5 s0 s1 h) st) xs) (kT := fun _ _ _ => none) (kR := kRI)
    (fun xs h st q => jm [2, 0, 0, 1, 1, 1] _ (fun v0 v3 v4 v5 q => apS_ok [1, 2] _ (fun st => Ev (d + 1) none mX10_feed (0, 0) 27 [.ref v0, .null, .null, .int v3, .int v4, .int v5] st h (QI z)) st (fun s0 s1 q => tX10_feed_27 v0 v3 v4 v5 s0 s1 h q) q) q)
    (fun _ _ _ q => nos q)
    kRI_ok (Or.inr rfl) (by decide +kernel) (by decide +kernel) hf
theorem kqX10_feed_19 : okC mX10_feed 19 (.invokevirtual 86) 13 6 0 1 = true := by decide +kernel
def fX10_feed_19 (v0 : Nat) (v2 : Int32) (v3 : Int32) (v4 : Int32) (v5 : Int32) (s0 : Int32) (s1 : Nat) (h : aH) : Option (Int32 × aH) :=
  (isO h 8 s1).bind fun _ =>
  (gX8_append s1 s0 h).bind fun r =>
  fX10_feed_22 v0 v2 v3 v4 v5 r
theorem tX10_feed_19 {d : Nat} {z : Int32 × aH} (v0 : Nat) (v2 : Int32) (v3 : Int32) (v4 : Int32) (v5 : Int32) (s0 : Int32) (s1 : Nat) (h : aH) (hf : fX10_feed_19 v0 v2 v3 v4 v5 s0 s1 h = some z) : Ev (d + 1) none mX10_feed (0, 0) 19 [.ref v0, .null, .int v2, .int v3, .int v4, .int v5] [.int s0, .ref s1] h (QI z) := by
  obtain ⟨_, h1, hf⟩ := bnd hf
  obtain ⟨fs, ho⟩ := isO_ok h1
  obtain ⟨r, h2, hf⟩ := bnd hf
  refine ev_V kqX10_feed_19 jX8_append (zX8_append (d := d + 0) h2) ho rfl rfl (Nat.le_of_ble_eq_true rfl) rfl (as := [.int s0]) (rest := []) rfl (Nat.le_of_ble_eq_true rfl) (fun _ _ hq => ?_)
  obtain ⟨rfl, hh⟩ := hq
  rw [hh]
  exact jm [2, 0, 1, 1, 1, 1] (fun v0 v2 v3 v4 v5 => fX10_feed_22 v0 v2 v3 v4 v5 r) (fun v0 v2 v3 v4 v5 q => tX10_feed_22 v0 v2 v3 v4 v5 r q) hf
def wX10_feed_14 : List En := [(.aload_n 0, 0, 0, 0), (.getfield 10, 162, 10, 0), (.iload_n 1, 0, 0, 0)]
def fX10_feed_14 (v0 : Nat) (v1 : Int32) (v2 : Int32) (v3 : Int32) (v4 : Int32) (v5 : Int32) (h : aH) : Option (Int32 × aH) :=
  (gFR h 10 v0 0).bind fun t1 =>
  fX10_feed_19 v0 v2 v3 v4 v5 v1 t1 h
theorem tX10_feed_14 {d : Nat} {z : Int32 × aH} (v0 : Nat) (v1 : Int32) (v2 : Int32) (v3 : Int32) (v4 : Int32) (v5 : Int32) (h : aH) (hf : fX10_feed_14 v0 v1 v2 v3 v4 v5 h = some z) : Ev (d + 1) none mX10_feed (0, 0) 14 [.ref v0, .int v1, .int v2, .int v3, .int v4, .int v5] [] h (QI z) := 
  go_ok (X := none) (blk := wX10_feed_14) (np := 19) (tt := 0) (kN := fun xs h st => app [2, 0, 1, 1, 1, 1] (fun v0 v2 v3 v4 v5 => apS [1, 2] (fun s0 s1 => fX10_feed_19 v0 v2 v3 v4 v5 s0 s1 h) st) xs) (kT := fun _ _ _ => none) (kR := kRI)
    (fun xs h st q => jm [2, 0, 1, 1, 1, 1] _ (fun v0 v2 v3 v4 v5 q => apS_ok [1, 2] _ (fun st => Ev (d + 1) none mX10_feed (0, 0) 19 [.ref v0, .null, .int v2, .int v3, .int v4, .int v5] st h (QI z)) st (fun s0 s1 q => tX10_feed_19 v0 v2 v3 v4 v5 s0 s1 h q) q) q)
    (fun _ _ _ q => nos q)
    kRI_ok (Or.inr rfl) (by decide +kernel) (by decide +kernel) hf
def wX10_feed_12 : List En := [(.iconst (-1), 0, 0, 0), (.ireturn, 0, 0, 0)]
def fX10_feed_12 (h : aH) : Option (Int32 × aH) :=
  some ((kI (-1)), h)
theorem tX10_feed_12 {d : Nat} {z : Int32 × aH} (h : aH) (hf : fX10_feed_12 h = some z) : Ev (d + 1) none mX10_feed (0, 0) 12 [.null, .null, .null, .null, .null, .null] [] h (QI z) := 
  go_ok (X := none) (blk := wX10_feed_12) (np := 14) (tt := 0) (kN := fun _ _ _ => none) (kT := fun _ _ _ => none) (kR := kRI)
    (fun _ _ _ q => nos q)
    (fun _ _ _ q => nos q)
    kRI_ok (Or.inr rfl) (by decide +kernel) (by decide +kernel) hf
def wX10_feed_9 : List En := [(.ifCond .ne 5, 14, 0, 0)]
def fX10_feed_9 (v0 : Nat) (v1 : Int32) (v2 : Int32) (v3 : Int32) (v4 : Int32) (v5 : Int32) (s0 : Int32) (h : aH) : Option (Int32 × aH) :=
  if s0 = 0 then fX10_feed_12 h else fX10_feed_14 v0 v1 v2 v3 v4 v5 h
theorem tX10_feed_9 {d : Nat} {z : Int32 × aH} (v0 : Nat) (v1 : Int32) (v2 : Int32) (v3 : Int32) (v4 : Int32) (v5 : Int32) (s0 : Int32) (h : aH) (hf : fX10_feed_9 v0 v1 v2 v3 v4 v5 s0 h = some z) : Ev (d + 1) none mX10_feed (0, 0) 9 [.ref v0, .int v1, .int v2, .int v3, .int v4, .int v5] [.int s0] h (QI z) := 
  go_ok (X := none) (blk := wX10_feed_9) (np := 12) (tt := 14) (kN := fun xs h st => app [0, 0, 0, 0, 0, 0] (apS [] (fX10_feed_12 h) st) xs) (kT := fun xs h st => app [2, 1, 1, 1, 1, 1] (fun v0 v1 v2 v3 v4 v5 => apS [] (fX10_feed_14 v0 v1 v2 v3 v4 v5 h) st) xs) (kR := kRI)
    (fun xs h st q => jm [0, 0, 0, 0, 0, 0] _ (fun q => apS_ok [] _ (fun st => Ev (d + 1) none mX10_feed (0, 0) 12 [.null, .null, .null, .null, .null, .null] st h (QI z)) st (fun q => tX10_feed_12 h q) q) q)
    (fun xs h st q => jm [2, 1, 1, 1, 1, 1] _ (fun v0 v1 v2 v3 v4 v5 q => apS_ok [] _ (fun st => Ev (d + 1) none mX10_feed (0, 0) 14 [.ref v0, .int v1, .int v2, .int v3, .int v4, .int v5] st h (QI z)) st (fun q => tX10_feed_14 v0 v1 v2 v3 v4 v5 h q) q) q)
    kRI_ok (Or.inr rfl) (by decide +kernel) (by decide +kernel) hf
theorem kqX10_feed_6 : okC mX10_feed 6 (.invokevirtual 82) 12 5 0 1 = true := by decide +kernel
def fX10_feed_6 (v0 : Nat) (v1 : Int32) (v2 : Int32) (v3 : Int32) (v4 : Int32) (v5 : Int32) (s0 : Int32) (s1 : Nat) (h : aH) : Option (Int32 × aH) :=
  (isO h 8 s1).bind fun _ =>
  (gX8_hasRoom s1 s0 h).bind fun r =>
  fX10_feed_9 v0 v1 v2 v3 v4 v5 r.1 r.2
theorem tX10_feed_6 {d : Nat} {z : Int32 × aH} (v0 : Nat) (v1 : Int32) (v2 : Int32) (v3 : Int32) (v4 : Int32) (v5 : Int32) (s0 : Int32) (s1 : Nat) (h : aH) (hf : fX10_feed_6 v0 v1 v2 v3 v4 v5 s0 s1 h = some z) : Ev (d + 1) none mX10_feed (0, 0) 6 [.ref v0, .int v1, .int v2, .int v3, .int v4, .int v5] [.int s0, .ref s1] h (QI z) := by
  obtain ⟨_, h1, hf⟩ := bnd hf
  obtain ⟨fs, ho⟩ := isO_ok h1
  obtain ⟨r, h2, hf⟩ := bnd hf
  refine ev_V kqX10_feed_6 jX8_hasRoom (zX8_hasRoom (d := d + 0) h2) ho rfl rfl (Nat.le_of_ble_eq_true rfl) rfl (as := [.int s0]) (rest := []) rfl (Nat.le_of_ble_eq_true rfl) (fun _ _ hq => ?_)
  obtain ⟨-, rfl, rfl⟩ := hq
  exact jm [2, 1, 1, 1, 1, 1] (fun v0 v1 v2 v3 v4 v5 => fX10_feed_9 v0 v1 v2 v3 v4 v5 r.1 r.2) (fun v0 v1 v2 v3 v4 v5 q => tX10_feed_9 v0 v1 v2 v3 v4 v5 r.1 r.2 q) hf
def wX10_feed_0 : List En := [(.aload_n 0, 0, 0, 0), (.getfield 10, 162, 10, 0), (.bipush 20, 0, 0, 0)]
def fX10_feed_0 (v0 : Nat) (v1 : Int32) (v2 : Int32) (v3 : Int32) (v4 : Int32) (v5 : Int32) (h : aH) : Option (Int32 × aH) :=
  (gFR h 10 v0 0).bind fun t1 =>
  fX10_feed_6 v0 v1 v2 v3 v4 v5 (kB 20) t1 h
theorem tX10_feed_0 {d : Nat} {z : Int32 × aH} (v0 : Nat) (v1 : Int32) (v2 : Int32) (v3 : Int32) (v4 : Int32) (v5 : Int32) (h : aH) (hf : fX10_feed_0 v0 v1 v2 v3 v4 v5 h = some z) : Ev (d + 1) none mX10_feed (0, 0) 0 [.ref v0, .int v1, .int v2, .int v3, .int v4, .int v5] [] h (QI z) := 
  go_ok (X := none) (blk := wX10_feed_0) (np := 6) (tt := 0) (kN := fun xs h st => app [2, 1, 1, 1, 1, 1] (fun v0 v1 v2 v3 v4 v5 => apS [1, 2] (fun s0 s1 => fX10_feed_6 v0 v1 v2 v3 v4 v5 s0 s1 h) st) xs) (kT := fun _ _ _ => none) (kR := kRI)
    (fun xs h st q => jm [2, 1, 1, 1, 1, 1] _ (fun v0 v1 v2 v3 v4 v5 q => apS_ok [1, 2] _ (fun st => Ev (d + 1) none mX10_feed (0, 0) 6 [.ref v0, .int v1, .int v2, .int v3, .int v4, .int v5] st h (QI z)) st (fun s0 s1 q => tX10_feed_6 v0 v1 v2 v3 v4 v5 s0 s1 h q) q) q)
    (fun _ _ _ q => nos q)
    kRI_ok (Or.inr rfl) (by decide +kernel) (by decide +kernel) hf
def gX10_feed (v0 : Nat) (v1 : Int32) (v2 : Int32) (v3 : Int32) (v4 : Int32) (v5 : Int32) (h : aH) : Option (Int32 × aH) := fX10_feed_0 v0 v1 v2 v3 v4 v5 h
theorem zX10_feed {d : Nat} {z : Int32 × aH} {v0 : Nat} {v1 : Int32} {v2 : Int32} {v3 : Int32} {v4 : Int32} {v5 : Int32} {h : aH} (q : gX10_feed v0 v1 v2 v3 v4 v5 h = some z) : CT (d + 1) mX10_feed (0, 0) [.ref v0, .int v1, .int v2, .int v3, .int v4, .int v5] h (QI z) :=
  ct_ev (by decide +kernel) (Nat.le_of_ble_eq_true rfl) QI_r (jm [2, 1, 1, 1, 1, 1] (fun v0 v1 v2 v3 v4 v5 => fX10_feed_0 v0 v1 v2 v3 v4 v5 h) (fun v0 v1 v2 v3 v4 v5 q => tX10_feed_0 v0 v1 v2 v3 v4 v5 h q) q)
def wX10_answer_0 : List En := [(.aload_n 0, 0, 0, 0), (.iconst 0, 0, 0, 0), (.putfield 122, 173, 10, 11), (.iload_n 1, 0, 0, 0), (.ireturn, 0, 0, 0)]
def fX10_answer_0 (v0 : Nat) (v1 : Int32) (h : aH) : Option (Int32 × aH) :=
  (pWV h 10 v0 11 (.int (kI 0))).bind fun h1 =>
  some (v1, h1)
theorem tX10_answer_0 {d : Nat} {z : Int32 × aH} (v0 : Nat) (v1 : Int32) (h : aH) (hf : fX10_answer_0 v0 v1 h = some z) : Ev (d + 0) none mX10_answer (0, 0) 0 [.ref v0, .int v1] [] h (QI z) := 
  go_ok (X := none) (blk := wX10_answer_0) (np := 7) (tt := 0) (kN := fun _ _ _ => none) (kT := fun _ _ _ => none) (kR := kRI)
    (fun _ _ _ q => nos q)
    (fun _ _ _ q => nos q)
    kRI_ok (Or.inr rfl) (by decide +kernel) (by decide +kernel) hf
def gX10_answer (v0 : Nat) (v1 : Int32) (h : aH) : Option (Int32 × aH) := fX10_answer_0 v0 v1 h
theorem zX10_answer {d : Nat} {z : Int32 × aH} {v0 : Nat} {v1 : Int32} {h : aH} (q : gX10_answer v0 v1 h = some z) : CT (d + 0) mX10_answer (0, 0) [.ref v0, .int v1] h (QI z) :=
  ct_ev (by decide +kernel) (Nat.le_of_ble_eq_true rfl) QI_r (jm [2, 1] (fun v0 v1 => fX10_answer_0 v0 v1 h) (fun v0 v1 q => tX10_answer_0 v0 v1 h q) q)
def wX10_refuse_0 : List En := [(.aload_n 0, 0, 0, 0), (.iload_n 1, 0, 0, 0), (.putfield 122, 173, 10, 11), (.iconst (-1), 0, 0, 0), (.ireturn, 0, 0, 0)]
def fX10_refuse_0 (v0 : Nat) (v1 : Int32) (h : aH) : Option (Int32 × aH) :=
  (pWV h 10 v0 11 (.int v1)).bind fun h1 =>
  some ((kI (-1)), h1)
theorem tX10_refuse_0 {d : Nat} {z : Int32 × aH} (v0 : Nat) (v1 : Int32) (h : aH) (hf : fX10_refuse_0 v0 v1 h = some z) : Ev (d + 0) none mX10_refuse (0, 0) 0 [.ref v0, .int v1] [] h (QI z) := 
  go_ok (X := none) (blk := wX10_refuse_0) (np := 7) (tt := 0) (kN := fun _ _ _ => none) (kT := fun _ _ _ => none) (kR := kRI)
    (fun _ _ _ q => nos q)
    (fun _ _ _ q => nos q)
    kRI_ok (Or.inr rfl) (by decide +kernel) (by decide +kernel) hf
def gX10_refuse (v0 : Nat) (v1 : Int32) (h : aH) : Option (Int32 × aH) := fX10_refuse_0 v0 v1 h
theorem zX10_refuse {d : Nat} {z : Int32 × aH} {v0 : Nat} {v1 : Int32} {h : aH} (q : gX10_refuse v0 v1 h = some z) : CT (d + 0) mX10_refuse (0, 0) [.ref v0, .int v1] h (QI z) :=
  ct_ev (by decide +kernel) (Nat.le_of_ble_eq_true rfl) QI_r (jm [2, 1] (fun v0 v1 => fX10_refuse_0 v0 v1 h) (fun v0 v1 q => tX10_refuse_0 v0 v1 h q) q)
def wX4_forget_0 : List En := [(.aload_n 0, 0, 0, 0), (.iconst 0, 0, 0, 0), (.putfield 26, 85, 4, 0), (.aload_n 0, 0, 0, 0), (.iconst 0, 0, 0, 0), (.putfield 18, 87, 4, 1), (.return_, 0, 0, 0)]
def fX4_forget_0 (v0 : Nat) (h : aH) : Option (aH) :=
  (pWV h 4 v0 0 (.int (kI 0))).bind fun h1 =>
  (pWV h1 4 v0 1 (.int (kI 0))).bind fun h2 =>
  some h2
theorem tX4_forget_0 {d : Nat} {z : aH} (v0 : Nat) (h : aH) (hf : fX4_forget_0 v0 h = some z) : Ev (d + 0) none mX4_forget (0, 0) 0 [.ref v0] [] h (QV z) := 
  go_ok (X := none) (blk := wX4_forget_0) (np := 11) (tt := 0) (kN := fun _ _ _ => none) (kT := fun _ _ _ => none) (kR := kRV)
    (fun _ _ _ q => nos q)
    (fun _ _ _ q => nos q)
    kRV_ok (Or.inr rfl) (by decide +kernel) (by decide +kernel) hf
def gX4_forget (v0 : Nat) (h : aH) : Option (aH) := fX4_forget_0 v0 h
theorem zX4_forget {d : Nat} {z : aH} {v0 : Nat} {h : aH} (q : gX4_forget v0 h = some z) : CT (d + 0) mX4_forget (0, 0) [.ref v0] h (QV z) :=
  ct_ev (by decide +kernel) (Nat.le_of_ble_eq_true rfl) QV_r (jm [2] (fun v0 => fX4_forget_0 v0 h) (fun v0 q => tX4_forget_0 v0 h q) q)
def wX5_forget_0 : List En := [(.aload_n 0, 0, 0, 0), (.iconst 0, 0, 0, 0), (.putfield 18, 89, 5, 0), (.return_, 0, 0, 0)]
def fX5_forget_0 (v0 : Nat) (h : aH) : Option (aH) :=
  (pWV h 5 v0 0 (.int (kI 0))).bind fun h1 =>
  some h1
theorem tX5_forget_0 {d : Nat} {z : aH} (v0 : Nat) (h : aH) (hf : fX5_forget_0 v0 h = some z) : Ev (d + 0) none mX5_forget (0, 0) 0 [.ref v0] [] h (QV z) := 
  go_ok (X := none) (blk := wX5_forget_0) (np := 6) (tt := 0) (kN := fun _ _ _ => none) (kT := fun _ _ _ => none) (kR := kRV)
    (fun _ _ _ q => nos q)
    (fun _ _ _ q => nos q)
    kRV_ok (Or.inr rfl) (by decide +kernel) (by decide +kernel) hf
def gX5_forget (v0 : Nat) (h : aH) : Option (aH) := fX5_forget_0 v0 h
theorem zX5_forget {d : Nat} {z : aH} {v0 : Nat} {h : aH} (q : gX5_forget v0 h = some z) : CT (d + 0) mX5_forget (0, 0) [.ref v0] h (QV z) :=
  ct_ev (by decide +kernel) (Nat.le_of_ble_eq_true rfl) QV_r (jm [2] (fun v0 => fX5_forget_0 v0 h) (fun v0 q => tX5_forget_0 v0 h q) q)
def wJ7_fill_53178_20 : List En := [(.return_, 0, 0, 0)]
def fJ7_fill_53178_20 (h : aH) : Option (aH) :=
  some h
theorem tJ7_fill_53178_20 {d : Nat} {z : aH} (h : aH) (hf : fJ7_fill_53178_20 h = some z) : Ev (d + 0) none mJ7_fill_53178 (0, 0) 20 [.null, .null, .null, .null] [] h (QV z) := 
  go_ok (X := none) (blk := wJ7_fill_53178_20) (np := 21) (tt := 0) (kN := fun _ _ _ => none) (kT := fun _ _ _ => none) (kR := kRV)
    (fun _ _ _ q => nos q)
    (fun _ _ _ q => nos q)
    kRV_ok (Or.inl (by decide +kernel)) (by decide +kernel) (by decide +kernel) hf
def wJ7_fill_53178_10 : List En := [(.aload_n 0, 0, 0, 0), (.iload_n 2, 0, 0, 0), (.iload_n 1, 0, 0, 0), (.iastore, 0, 0, 0), (.iinc 2 1, 0, 0, 0), (.goto (-12), 5, 0, 0)]
def fJ7_fill_53178_10 (k5 : Nat → Int32 → Int32 → Int32 → aH → Option (aH)) (v0 : Nat) (v1 : Int32) (v2 : Int32) (v3 : Int32) (h : aH) : Option (aH) :=
  (aWI h v0 v2 v1).bind fun h1 =>
  k5 v0 v1 (v2 + kI 1) v3 h1
theorem tJ7_fill_53178_10 {d : Nat} {z : aH} {k5 : Nat → Int32 → Int32 → Int32 → aH → Option (aH)} (hk5 : ∀ (v0 : Nat) (v1 : Int32) (v2 : Int32) (v3 : Int32) (h : aH), k5 v0 v1 v2 v3 h = some z → Ev (d + 0) none mJ7_fill_53178 (0, 0) 5 [.ref v0, .int v1, .int v2, .int v3] [] h (QV z)) (v0 : Nat) (v1 : Int32) (v2 : Int32) (v3 : Int32) (h : aH) (hf : fJ7_fill_53178_10 k5 v0 v1 v2 v3 h = some z) : Ev (d + 0) none mJ7_fill_53178 (0, 0) 10 [.ref v0, .int v1, .int v2, .int v3] [] h (QV z) := 
  go_ok (X := none) (blk := wJ7_fill_53178_10) (np := 20) (tt := 5) (kN := fun _ _ _ => none) (kT := fun xs h st => app [2, 1, 1, 1] (fun v0 v1 v2 v3 => apS [] (k5 v0 v1 v2 v3 h) st) xs) (kR := kRV)
    (fun _ _ _ q => nos q)
    (fun xs h st q => jm [2, 1, 1, 1] _ (fun v0 v1 v2 v3 q => apS_ok [] _ (fun st => Ev (d + 0) none mJ7_fill_53178 (0, 0) 5 [.ref v0, .int v1, .int v2, .int v3] st h (QV z)) st (fun q => hk5 v0 v1 v2 v3 h q) q) q)
    kRV_ok (Or.inl (by decide +kernel)) (by decide +kernel) (by decide +kernel) hf
def wJ7_fill_53178_5 : List En := [(.iload_n 2, 0, 0, 0), (.iload_n 3, 0, 0, 0), (.if_icmp .ge 13, 20, 0, 0)]
def fJ7_fill_53178_5 (k5 : Nat → Int32 → Int32 → Int32 → aH → Option (aH)) (v0 : Nat) (v1 : Int32) (v2 : Int32) (v3 : Int32) (h : aH) : Option (aH) :=
  if v2 < v3 then fJ7_fill_53178_10 k5 v0 v1 v2 v3 h else fJ7_fill_53178_20 h
theorem tJ7_fill_53178_5 {d : Nat} {z : aH} {k5 : Nat → Int32 → Int32 → Int32 → aH → Option (aH)} (hk5 : ∀ (v0 : Nat) (v1 : Int32) (v2 : Int32) (v3 : Int32) (h : aH), k5 v0 v1 v2 v3 h = some z → Ev (d + 0) none mJ7_fill_53178 (0, 0) 5 [.ref v0, .int v1, .int v2, .int v3] [] h (QV z)) (v0 : Nat) (v1 : Int32) (v2 : Int32) (v3 : Int32) (h : aH) (hf : fJ7_fill_53178_5 k5 v0 v1 v2 v3 h = some z) : Ev (d + 0) none mJ7_fill_53178 (0, 0) 5 [.ref v0, .int v1, .int v2, .int v3] [] h (QV z) := 
  go_ok (X := none) (blk := wJ7_fill_53178_5) (np := 10) (tt := 20) (kN := fun xs h st => app [2, 1, 1, 1] (fun v0 v1 v2 v3 => apS [] (fJ7_fill_53178_10 k5 v0 v1 v2 v3 h) st) xs) (kT := fun xs h st => app [0, 0, 0, 0] (apS [] (fJ7_fill_53178_20 h) st) xs) (kR := kRV)
    (fun xs h st q => jm [2, 1, 1, 1] _ (fun v0 v1 v2 v3 q => apS_ok [] _ (fun st => Ev (d + 0) none mJ7_fill_53178 (0, 0) 10 [.ref v0, .int v1, .int v2, .int v3] st h (QV z)) st (fun q => tJ7_fill_53178_10 hk5 v0 v1 v2 v3 h q) q) q)
    (fun xs h st q => jm [0, 0, 0, 0] _ (fun q => apS_ok [] _ (fun st => Ev (d + 0) none mJ7_fill_53178 (0, 0) 20 [.null, .null, .null, .null] st h (QV z)) st (fun q => tJ7_fill_53178_20 h q) q) q)
    kRV_ok (Or.inl (by decide +kernel)) (by decide +kernel) (by decide +kernel) hf
def lJ7_fill_53178_5 : Nat → Nat → Int32 → Int32 → Int32 → aH → Option (aH)
  | 0, _, _, _, _, _ => none
  | n + 1, v0, v1, v2, v3, h => fJ7_fill_53178_5 (lJ7_fill_53178_5 n) v0 v1 v2 v3 h
theorem uJ7_fill_53178_5 {d : Nat} {z : aH} : ∀ (n : Nat) (v0 : Nat) (v1 : Int32) (v2 : Int32) (v3 : Int32) (h : aH), lJ7_fill_53178_5 n v0 v1 v2 v3 h = some z → Ev (d + 0) none mJ7_fill_53178 (0, 0) 5 [.ref v0, .int v1, .int v2, .int v3] [] h (QV z) := by
  intro n
  induction n with
  | zero => intro _ _ _ _ _ q; exact nos (show (none : Option (aH)) = some z from q)
  | succ n ih => intro v0 v1 v2 v3 h q; exact tJ7_fill_53178_5 ih v0 v1 v2 v3 h q
def wJ7_fill_53178_0 : List En := [(.iconst 0, 0, 0, 0), (.istore_n 2, 0, 0, 0), (.aload_n 0, 0, 0, 0), (.arraylength, 0, 0, 0), (.istore_n 3, 0, 0, 0)]
def fJ7_fill_53178_0 (v0 : Nat) (v1 : Int32) (h : aH) : Option (aH) :=
  (aLn (h[v0]?)).bind fun t1 =>
  lJ7_fill_53178_5 FU v0 v1 (kI 0) t1 h
theorem tJ7_fill_53178_0 {d : Nat} {z : aH} (v0 : Nat) (v1 : Int32) (h : aH) (hf : fJ7_fill_53178_0 v0 v1 h = some z) : Ev (d + 0) none mJ7_fill_53178 (0, 0) 0 [.ref v0, .int v1, .null, .null] [] h (QV z) := 
  go_ok (X := none) (blk := wJ7_fill_53178_0) (np := 5) (tt := 0) (kN := fun xs h st => app [2, 1, 1, 1] (fun v0 v1 v2 v3 => apS [] (lJ7_fill_53178_5 FU v0 v1 v2 v3 h) st) xs) (kT := fun _ _ _ => none) (kR := kRV)
    (fun xs h st q => jm [2, 1, 1, 1] _ (fun v0 v1 v2 v3 q => apS_ok [] _ (fun st => Ev (d + 0) none mJ7_fill_53178 (0, 0) 5 [.ref v0, .int v1, .int v2, .int v3] st h (QV z)) st (fun q => uJ7_fill_53178_5 FU v0 v1 v2 v3 h q) q) q)
    (fun _ _ _ q => nos q)
    kRV_ok (Or.inl (by decide +kernel)) (by decide +kernel) (by decide +kernel) hf
def gJ7_fill_53178 (v0 : Nat) (v1 : Int32) (h : aH) : Option (aH) := fJ7_fill_53178_0 v0 v1 h
theorem zJ7_fill_53178 {d : Nat} {z : aH} {v0 : Nat} {v1 : Int32} {h : aH} (q : gJ7_fill_53178 v0 v1 h = some z) : CT (d + 0) mJ7_fill_53178 (0, 0) [.ref v0, .int v1] h (QV z) :=
  ct_ev (by decide +kernel) (Nat.le_of_ble_eq_true rfl) QV_r (jm [2, 1, 0, 0] (fun v0 v1 => fJ7_fill_53178_0 v0 v1 h) (fun v0 v1 q => tJ7_fill_53178_0 v0 v1 h q) q)
def wX7_begin_79 : List En := [(.aload_n 0, 0, 0, 0), (.iconst 0, 0, 0, 0), (.putfield 47, 26, 7, 3), (.aload_n 0, 0, 0, 0), (.iconst 0, 0, 0, 0), (.putfield 50, 29, 7, 4), (.aload_n 0, 0, 0, 0), (.iconst 0, 0, 0, 0), (.putfield 53, 32, 7, 5), (.aload_n 0, 0, 0, 0), (.iconst 0, 0, 0, 0), (.putfield 56, 34, 7, 6), (.return_, 0, 0, 0)]
def fX7_begin_79 (v0 : Nat) (h : aH) : Option (aH) :=
  (pWV h 7 v0 3 (.int (kI 0))).bind fun h1 =>
  (pWV h1 7 v0 4 (.int (kI 0))).bind fun h2 =>
  (pWV h2 7 v0 5 (.int (kI 0))).bind fun h3 =>
  (pWV h3 7 v0 6 (.int (kI 0))).bind fun h4 =>
  some h4
theorem tX7_begin_79 {d : Nat} {z : aH} (v0 : Nat) (h : aH) (hf : fX7_begin_79 v0 h = some z) : Ev (d + 1) none mX7_begin (0, 0) 79 [.ref v0, .null, .null, .null] [] h (QV z) := 
  go_ok (X := none) (blk := wX7_begin_79) (np := 100) (tt := 0) (kN := fun _ _ _ => none) (kT := fun _ _ _ => none) (kR := kRV)
    (fun _ _ _ q => nos q)
    (fun _ _ _ q => nos q)
    kRV_ok (Or.inr rfl) (by decide +kernel) (by decide +kernel) hf
def wX7_begin_73 : List En := [(.iinc 3 1, 0, 0, 0), (.goto (-37), 39, 0, 0)]
def fX7_begin_73 (k39 : Nat → Nat → Int32 → Int32 → aH → Option (aH)) (v0 : Nat) (v1 : Nat) (v2 : Int32) (v3 : Int32) (h : aH) : Option (aH) :=
  k39 v0 v1 v2 (v3 + kI 1) h
theorem tX7_begin_73 {d : Nat} {z : aH} {k39 : Nat → Nat → Int32 → Int32 → aH → Option (aH)} (hk39 : ∀ (v0 : Nat) (v1 : Nat) (v2 : Int32) (v3 : Int32) (h : aH), k39 v0 v1 v2 v3 h = some z → Ev (d + 1) none mX7_begin (0, 0) 39 [.ref v0, .ref v1, .int v2, .int v3] [] h (QV z)) (v0 : Nat) (v1 : Nat) (v2 : Int32) (v3 : Int32) (h : aH) (hf : fX7_begin_73 k39 v0 v1 v2 v3 h = some z) : Ev (d + 1) none mX7_begin (0, 0) 73 [.ref v0, .ref v1, .int v2, .int v3] [] h (QV z) := 
  go_ok (X := none) (blk := wX7_begin_73) (np := 79) (tt := 39) (kN := fun _ _ _ => none) (kT := fun xs h st => app [2, 2, 1, 1] (fun v0 v1 v2 v3 => apS [] (k39 v0 v1 v2 v3 h) st) xs) (kR := kRV)
    (fun _ _ _ q => nos q)
    (fun xs h st q => jm [2, 2, 1, 1] _ (fun v0 v1 v2 v3 q => apS_ok [] _ (fun st => Ev (d + 1) none mX7_begin (0, 0) 39 [.ref v0, .ref v1, .int v2, .int v3] st h (QV z)) st (fun q => hk39 v0 v1 v2 v3 h q) q) q)
    kRV_ok (Or.inr rfl) (by decide +kernel) (by decide +kernel) hf
def wX7_begin_56 : List En := [(.aload_n 0, 0, 0, 0), (.getfield 9, 18, 7, 0), (.aload_n 1, 0, 0, 0), (.getfield 41, 151, 9, 15), (.iload_n 3, 0, 0, 0), (.iaload, 0, 0, 0), (.aload_n 1, 0, 0, 0), (.getfield 44, 154, 9, 16), (.iload_n 3, 0, 0, 0), (.iaload, 0, 0, 0), (.iastore, 0, 0, 0)]
def fX7_begin_56 (k39 : Nat → Nat → Int32 → Int32 → aH → Option (aH)) (v0 : Nat) (v1 : Nat) (v2 : Int32) (v3 : Int32) (h : aH) : Option (aH) :=
  (gFR h 7 v0 0).bind fun t1 =>
  (gFR h 9 v1 15).bind fun t2 =>
  (aRI (h[t2]?) v3).bind fun t3 =>
  (gFR h 9 v1 16).bind fun t4 =>
  (aRI (h[t4]?) v3).bind fun t5 =>
  (aWI h t1 t3 t5).bind fun h6 =>
  fX7_begin_73 k39 v0 v1 v2 v3 h6
theorem tX7_begin_56 {d : Nat} {z : aH} {k39 : Nat → Nat → Int32 → Int32 → aH → Option (aH)} (hk39 : ∀ (v0 : Nat) (v1 : Nat) (v2 : Int32) (v3 : Int32) (h : aH), k39 v0 v1 v2 v3 h = some z → Ev (d + 1) none mX7_begin (0, 0) 39 [.ref v0, .ref v1, .int v2, .int v3] [] h (QV z)) (v0 : Nat) (v1 : Nat) (v2 : Int32) (v3 : Int32) (h : aH) (hf : fX7_begin_56 k39 v0 v1 v2 v3 h = some z) : Ev (d + 1) none mX7_begin (0, 0) 56 [.ref v0, .ref v1, .int v2, .int v3] [] h (QV z) := 
  go_ok (X := none) (blk := wX7_begin_56) (np := 73) (tt := 0) (kN := fun xs h st => app [2, 2, 1, 1] (fun v0 v1 v2 v3 => apS [] (fX7_begin_73 k39 v0 v1 v2 v3 h) st) xs) (kT := fun _ _ _ => none) (kR := kRV)
    (fun xs h st q => jm [2, 2, 1, 1] _ (fun v0 v1 v2 v3 q => apS_ok [] _ (fun st => Ev (d + 1) none mX7_begin (0, 0) 73 [.ref v0, .ref v1, .int v2, .int v3] st h (QV z)) st (fun q => tX7_begin_73 hk39 v0 v1 v2 v3 h q) q) q)
    (fun _ _ _ q => nos q)
    kRV_ok (Or.inr rfl) (by decide +kernel) (by decide +kernel) hf
def wX7_begin_47 : List En := [(.iload_n 2, 0, 0, 0), (.iload_n 3, 0, 0, 0), (.ishr, 0, 0, 0), (.iconst 1, 0, 0, 0), (.iand, 0, 0, 0), (.iconst 1, 0, 0, 0), (.if_icmp .ne 20, 73, 0, 0)]
def fX7_begin_47 (k39 : Nat → Nat → Int32 → Int32 → aH → Option (aH)) (v0 : Nat) (v1 : Nat) (v2 : Int32) (v3 : Int32) (h : aH) : Option (aH) :=
  if ((v2 >>> (v3 &&& 31)) &&& (kI 1)) = (kI 1) then fX7_begin_56 k39 v0 v1 v2 v3 h else fX7_begin_73 k39 v0 v1 v2 v3 h
theorem tX7_begin_47 {d : Nat} {z : aH} {k39 : Nat → Nat → Int32 → Int32 → aH → Option (aH)} (hk39 : ∀ (v0 : Nat) (v1 : Nat) (v2 : Int32) (v3 : Int32) (h : aH), k39 v0 v1 v2 v3 h = some z → Ev (d + 1) none mX7_begin (0, 0) 39 [.ref v0, .ref v1, .int v2, .int v3] [] h (QV z)) (v0 : Nat) (v1 : Nat) (v2 : Int32) (v3 : Int32) (h : aH) (hf : fX7_begin_47 k39 v0 v1 v2 v3 h = some z) : Ev (d + 1) none mX7_begin (0, 0) 47 [.ref v0, .ref v1, .int v2, .int v3] [] h (QV z) := 
  go_ok (X := none) (blk := wX7_begin_47) (np := 56) (tt := 73) (kN := fun xs h st => app [2, 2, 1, 1] (fun v0 v1 v2 v3 => apS [] (fX7_begin_56 k39 v0 v1 v2 v3 h) st) xs) (kT := fun xs h st => app [2, 2, 1, 1] (fun v0 v1 v2 v3 => apS [] (fX7_begin_73 k39 v0 v1 v2 v3 h) st) xs) (kR := kRV)
    (fun xs h st q => jm [2, 2, 1, 1] _ (fun v0 v1 v2 v3 q => apS_ok [] _ (fun st => Ev (d + 1) none mX7_begin (0, 0) 56 [.ref v0, .ref v1, .int v2, .int v3] st h (QV z)) st (fun q => tX7_begin_56 hk39 v0 v1 v2 v3 h q) q) q)
    (fun xs h st q => jm [2, 2, 1, 1] _ (fun v0 v1 v2 v3 q => apS_ok [] _ (fun st => Ev (d + 1) none mX7_begin (0, 0) 73 [.ref v0, .ref v1, .int v2, .int v3] st h (QV z)) st (fun q => tX7_begin_73 hk39 v0 v1 v2 v3 h q) q) q)
    kRV_ok (Or.inr rfl) (by decide +kernel) (by decide +kernel) hf
def wX7_begin_39 : List En := [(.iload_n 3, 0, 0, 0), (.aload_n 1, 0, 0, 0), (.getfield 37, 122, 9, 6), (.if_icmp .ge 35, 79, 0, 0)]
def fX7_begin_39 (k39 : Nat → Nat → Int32 → Int32 → aH → Option (aH)) (v0 : Nat) (v1 : Nat) (v2 : Int32) (v3 : Int32) (h : aH) : Option (aH) :=
  (gFI h 9 v1 6).bind fun t1 =>
  if v3 < t1 then fX7_begin_47 k39 v0 v1 v2 v3 h else fX7_begin_79 v0 h
theorem tX7_begin_39 {d : Nat} {z : aH} {k39 : Nat → Nat → Int32 → Int32 → aH → Option (aH)} (hk39 : ∀ (v0 : Nat) (v1 : Nat) (v2 : Int32) (v3 : Int32) (h : aH), k39 v0 v1 v2 v3 h = some z → Ev (d + 1) none mX7_begin (0, 0) 39 [.ref v0, .ref v1, .int v2, .int v3] [] h (QV z)) (v0 : Nat) (v1 : Nat) (v2 : Int32) (v3 : Int32) (h : aH) (hf : fX7_begin_39 k39 v0 v1 v2 v3 h = some z) : Ev (d + 1) none mX7_begin (0, 0) 39 [.ref v0, .ref v1, .int v2, .int v3] [] h (QV z) := 
  go_ok (X := none) (blk := wX7_begin_39) (np := 47) (tt := 79) (kN := fun xs h st => app [2, 2, 1, 1] (fun v0 v1 v2 v3 => apS [] (fX7_begin_47 k39 v0 v1 v2 v3 h) st) xs) (kT := fun xs h st => app [2, 0, 0, 0] (fun v0 => apS [] (fX7_begin_79 v0 h) st) xs) (kR := kRV)
    (fun xs h st q => jm [2, 2, 1, 1] _ (fun v0 v1 v2 v3 q => apS_ok [] _ (fun st => Ev (d + 1) none mX7_begin (0, 0) 47 [.ref v0, .ref v1, .int v2, .int v3] st h (QV z)) st (fun q => tX7_begin_47 hk39 v0 v1 v2 v3 h q) q) q)
    (fun xs h st q => jm [2, 0, 0, 0] _ (fun v0 q => apS_ok [] _ (fun st => Ev (d + 1) none mX7_begin (0, 0) 79 [.ref v0, .null, .null, .null] st h (QV z)) st (fun q => tX7_begin_79 v0 h q) q) q)
    kRV_ok (Or.inr rfl) (by decide +kernel) (by decide +kernel) hf
def lX7_begin_39 : Nat → Nat → Nat → Int32 → Int32 → aH → Option (aH)
  | 0, _, _, _, _, _ => none
  | n + 1, v0, v1, v2, v3, h => fX7_begin_39 (lX7_begin_39 n) v0 v1 v2 v3 h
theorem uX7_begin_39 {d : Nat} {z : aH} : ∀ (n : Nat) (v0 : Nat) (v1 : Nat) (v2 : Int32) (v3 : Int32) (h : aH), lX7_begin_39 n v0 v1 v2 v3 h = some z → Ev (d + 1) none mX7_begin (0, 0) 39 [.ref v0, .ref v1, .int v2, .int v3] [] h (QV z) := by
  intro n
  induction n with
  | zero => intro _ _ _ _ _ q; exact nos (show (none : Option (aH)) = some z from q)
  | succ n ih => intro v0 v1 v2 v3 h q; exact tX7_begin_39 ih v0 v1 v2 v3 h q
def wX7_begin_37 : List En := [(.iconst 0, 0, 0, 0), (.istore_n 3, 0, 0, 0)]
def fX7_begin_37 (v0 : Nat) (v1 : Nat) (v2 : Int32) (h : aH) : Option (aH) :=
  lX7_begin_39 FU v0 v1 v2 (kI 0) h
theorem tX7_begin_37 {d : Nat} {z : aH} (v0 : Nat) (v1 : Nat) (v2 : Int32) (h : aH) (hf : fX7_begin_37 v0 v1 v2 h = some z) : Ev (d + 1) none mX7_begin (0, 0) 37 [.ref v0, .ref v1, .int v2, .null] [] h (QV z) := 
  go_ok (X := none) (blk := wX7_begin_37) (np := 39) (tt := 0) (kN := fun xs h st => app [2, 2, 1, 1] (fun v0 v1 v2 v3 => apS [] (lX7_begin_39 FU v0 v1 v2 v3 h) st) xs) (kT := fun _ _ _ => none) (kR := kRV)
    (fun xs h st q => jm [2, 2, 1, 1] _ (fun v0 v1 v2 v3 q => apS_ok [] _ (fun st => Ev (d + 1) none mX7_begin (0, 0) 39 [.ref v0, .ref v1, .int v2, .int v3] st h (QV z)) st (fun q => uX7_begin_39 FU v0 v1 v2 v3 h q) q) q)
    (fun _ _ _ q => nos q)
    kRV_ok (Or.inr rfl) (by decide +kernel) (by decide +kernel) hf
theorem kqX7_begin_34 : okC mX7_begin 34 (.invokestatic 31) 57 41 1 2 = true := by decide +kernel
def fX7_begin_34 (v0 : Nat) (v1 : Nat) (v2 : Int32) (s0 : Int32) (s1 : Nat) (h : aH) : Option (aH) :=
  (gJ7_fill_53178 s1 s0 h).bind fun r =>
  fX7_begin_37 v0 v1 v2 r
theorem tX7_begin_34 {d : Nat} {z : aH} (v0 : Nat) (v1 : Nat) (v2 : Int32) (s0 : Int32) (s1 : Nat) (h : aH) (hf : fX7_begin_34 v0 v1 v2 s0 s1 h = some z) : Ev (d + 1) none mX7_begin (0, 0) 34 [.ref v0, .ref v1, .int v2, .null] [.int s0, .ref s1] h (QV z) := by
  obtain ⟨r, h2, hf⟩ := bnd hf
  refine ev_S kqX7_begin_34 jJ7_fill_53178 (zJ7_fill_53178 (d := d + 0) h2) rfl (Nat.le_of_ble_eq_true rfl) rfl (as := [.ref s1, .int s0]) (rest := []) rfl (Nat.le_of_ble_eq_true rfl) (fun _ _ hq => ?_)
  obtain ⟨rfl, hh⟩ := hq
  rw [hh]
  exact jm [2, 2, 1, 0] (fun v0 v1 v2 => fX7_begin_37 v0 v1 v2 r) (fun v0 v1 v2 q => tX7_begin_37 v0 v1 v2 r q) hf
def wX7_begin_29 : List En := [(.aload_n 0, 0, 0, 0), (.getfield 15, 21, 7, 1), (.iconst 0, 0, 0, 0)]
def fX7_begin_29 (v0 : Nat) (v1 : Nat) (v2 : Int32) (h : aH) : Option (aH) :=
  (gFR h 7 v0 1).bind fun t1 =>
  fX7_begin_34 v0 v1 v2 (kI 0) t1 h
theorem tX7_begin_29 {d : Nat} {z : aH} (v0 : Nat) (v1 : Nat) (v2 : Int32) (h : aH) (hf : fX7_begin_29 v0 v1 v2 h = some z) : Ev (d + 1) none mX7_begin (0, 0) 29 [.ref v0, .ref v1, .int v2, .null] [] h (QV z) := 
  go_ok (X := none) (blk := wX7_begin_29) (np := 34) (tt := 0) (kN := fun xs h st => app [2, 2, 1, 0] (fun v0 v1 v2 => apS [1, 2] (fun s0 s1 => fX7_begin_34 v0 v1 v2 s0 s1 h) st) xs) (kT := fun _ _ _ => none) (kR := kRV)
    (fun xs h st q => jm [2, 2, 1, 0] _ (fun v0 v1 v2 q => apS_ok [1, 2] _ (fun st => Ev (d + 1) none mX7_begin (0, 0) 34 [.ref v0, .ref v1, .int v2, .null] st h (QV z)) st (fun s0 s1 q => tX7_begin_34 v0 v1 v2 s0 s1 h q) q) q)
    (fun _ _ _ q => nos q)
    kRV_ok (Or.inr rfl) (by decide +kernel) (by decide +kernel) hf
theorem kqX7_begin_26 : ckP mX7_begin 26 24 3 12 = true := by decide +kernel
def fX7_begin_26 (v0 : Nat) (v1 : Nat) (v2 : Int32) (s0 : Int32) (s1 : Int32) (s2 : Nat) (s3 : Int32) (s4 : Nat) (h : aH) : Option (aH) :=
  (aCp h s4 s3 s2 s1 s0).bind fun r =>
  fX7_begin_29 v0 v1 v2 r
theorem tX7_begin_26 {d : Nat} {z : aH} (v0 : Nat) (v1 : Nat) (v2 : Int32) (s0 : Int32) (s1 : Int32) (s2 : Nat) (s3 : Int32) (s4 : Nat) (h : aH) (hf : fX7_begin_26 v0 v1 v2 s0 s1 s2 s3 s4 h = some z) : Ev (d + 1) none mX7_begin (0, 0) 26 [.ref v0, .ref v1, .int v2, .null] [.int s0, .int s1, .ref s2, .int s3, .ref s4] h (QV z) := by
  obtain ⟨r, h2, hf⟩ := bnd hf
  obtain ⟨ys, zs, e0, e1, rfl, rfl, rfl, hz, hn, rfl⟩ := aCp_ok h2
  exact ev_cp kqX7_begin_26 e0 e1 rfl hz hn rfl (Nat.le_of_ble_eq_true rfl) (jm [2, 2, 1, 0] (fun v0 v1 v2 => fX7_begin_29 v0 v1 v2 _) (fun v0 v1 v2 q => tX7_begin_29 v0 v1 v2 _ q) hf)
def wX7_begin_14 : List En := [(.aload_n 1, 0, 0, 0), (.getfield 30, 144, 9, 12), (.iconst 0, 0, 0, 0), (.aload_n 0, 0, 0, 0), (.getfield 18, 23, 7, 2), (.iconst 0, 0, 0, 0), (.bipush 8, 0, 0, 0)]
def fX7_begin_14 (v0 : Nat) (v1 : Nat) (v2 : Int32) (h : aH) : Option (aH) :=
  (gFR h 9 v1 12).bind fun t1 =>
  (gFR h 7 v0 2).bind fun t2 =>
  fX7_begin_26 v0 v1 v2 (kB 8) (kI 0) t2 (kI 0) t1 h
theorem tX7_begin_14 {d : Nat} {z : aH} (v0 : Nat) (v1 : Nat) (v2 : Int32) (h : aH) (hf : fX7_begin_14 v0 v1 v2 h = some z) : Ev (d + 1) none mX7_begin (0, 0) 14 [.ref v0, .ref v1, .int v2, .null] [] h (QV z) := 
  go_ok (X := none) (blk := wX7_begin_14) (np := 26) (tt := 0) (kN := fun xs h st => app [2, 2, 1, 0] (fun v0 v1 v2 => apS [1, 1, 2, 1, 2] (fun s0 s1 s2 s3 s4 => fX7_begin_26 v0 v1 v2 s0 s1 s2 s3 s4 h) st) xs) (kT := fun _ _ _ => none) (kR := kRV)
    (fun xs h st q => jm [2, 2, 1, 0] _ (fun v0 v1 v2 q => apS_ok [1, 1, 2, 1, 2] _ (fun st => Ev (d + 1) none mX7_begin (0, 0) 26 [.ref v0, .ref v1, .int v2, .null] st h (QV z)) st (fun s0 s1 s2 s3 s4 q => tX7_begin_26 v0 v1 v2 s0 s1 s2 s3 s4 h q) q) q)
    (fun _ _ _ q => nos q)
    kRV_ok (Or.inr rfl) (by decide +kernel) (by decide +kernel) hf
theorem kqX7_begin_11 : ckP mX7_begin 11 24 3 12 = true := by decide +kernel
def fX7_begin_11 (v0 : Nat) (v1 : Nat) (v2 : Int32) (s0 : Int32) (s1 : Int32) (s2 : Nat) (s3 : Int32) (s4 : Nat) (h : aH) : Option (aH) :=
  (aCp h s4 s3 s2 s1 s0).bind fun r =>
  fX7_begin_14 v0 v1 v2 r
theorem tX7_begin_11 {d : Nat} {z : aH} (v0 : Nat) (v1 : Nat) (v2 : Int32) (s0 : Int32) (s1 : Int32) (s2 : Nat) (s3 : Int32) (s4 : Nat) (h : aH) (hf : fX7_begin_11 v0 v1 v2 s0 s1 s2 s3 s4 h = some z) : Ev (d + 1) none mX7_begin (0, 0) 11 [.ref v0, .ref v1, .int v2, .null] [.int s0, .int s1, .ref s2, .int s3, .ref s4] h (QV z) := by
  obtain ⟨r, h2, hf⟩ := bnd hf
  obtain ⟨ys, zs, e0, e1, rfl, rfl, rfl, hz, hn, rfl⟩ := aCp_ok h2
  exact ev_cp kqX7_begin_11 e0 e1 rfl hz hn rfl (Nat.le_of_ble_eq_true rfl) (jm [2, 2, 1, 0] (fun v0 v1 v2 => fX7_begin_14 v0 v1 v2 _) (fun v0 v1 v2 q => tX7_begin_14 v0 v1 v2 _ q) hf)
def wX7_begin_0 : List En := [(.aload_n 1, 0, 0, 0), (.getfield 21, 130, 9, 8), (.iconst 0, 0, 0, 0), (.aload_n 0, 0, 0, 0), (.getfield 9, 18, 7, 0), (.iconst 0, 0, 0, 0), (.iconst 5, 0, 0, 0)]
def fX7_begin_0 (v0 : Nat) (v1 : Nat) (v2 : Int32) (h : aH) : Option (aH) :=
  (gFR h 9 v1 8).bind fun t1 =>
  (gFR h 7 v0 0).bind fun t2 =>
  fX7_begin_11 v0 v1 v2 (kI 5) (kI 0) t2 (kI 0) t1 h
theorem tX7_begin_0 {d : Nat} {z : aH} (v0 : Nat) (v1 : Nat) (v2 : Int32) (h : aH) (hf : fX7_begin_0 v0 v1 v2 h = some z) : Ev (d + 1) none mX7_begin (0, 0) 0 [.ref v0, .ref v1, .int v2, .null] [] h (QV z) := 
  go_ok (X := none) (blk := wX7_begin_0) (np := 11) (tt := 0) (kN := fun xs h st => app [2, 2, 1, 0] (fun v0 v1 v2 => apS [1, 1, 2, 1, 2] (fun s0 s1 s2 s3 s4 => fX7_begin_11 v0 v1 v2 s0 s1 s2 s3 s4 h) st) xs) (kT := fun _ _ _ => none) (kR := kRV)
    (fun xs h st q => jm [2, 2, 1, 0] _ (fun v0 v1 v2 q => apS_ok [1, 1, 2, 1, 2] _ (fun st => Ev (d + 1) none mX7_begin (0, 0) 11 [.ref v0, .ref v1, .int v2, .null] st h (QV z)) st (fun s0 s1 s2 s3 s4 q => tX7_begin_11 v0 v1 v2 s0 s1 s2 s3 s4 h q) q) q)
    (fun _ _ _ q => nos q)
    kRV_ok (Or.inr rfl) (by decide +kernel) (by decide +kernel) hf
def gX7_begin (v0 : Nat) (v1 : Nat) (v2 : Int32) (h : aH) : Option (aH) := fX7_begin_0 v0 v1 v2 h
theorem zX7_begin {d : Nat} {z : aH} {v0 : Nat} {v1 : Nat} {v2 : Int32} {h : aH} (q : gX7_begin v0 v1 v2 h = some z) : CT (d + 1) mX7_begin (0, 0) [.ref v0, .ref v1, .int v2] h (QV z) :=
  ct_ev (by decide +kernel) (Nat.le_of_ble_eq_true rfl) QV_r (jm [2, 2, 1, 0] (fun v0 v1 v2 => fX7_begin_0 v0 v1 v2 h) (fun v0 v1 v2 q => tX7_begin_0 v0 v1 v2 h q) q)
def wX8_fail_0 : List En := [(.aload_n 0, 0, 0, 0), (.iload_n 1, 0, 0, 0), (.putfield 57, 3, 8, 1), (.aload_n 0, 0, 0, 0), (.aload_n 0, 0, 0, 0), (.getfield 211, 13, 8, 10), (.putfield 60, 4, 8, 2), (.iconst 0, 0, 0, 0), (.ireturn, 0, 0, 0)]
def fX8_fail_0 (v0 : Nat) (v1 : Int32) (h : aH) : Option (Int32 × aH) :=
  (pWV h 8 v0 1 (.int v1)).bind fun h1 =>
  (gFI h1 8 v0 10).bind fun t2 =>
  (pWV h1 8 v0 2 (.int t2)).bind fun h3 =>
  if (kI 0) = 0 ∨ (kI 0) = 1 then some ((kI 0), h3) else none
theorem tX8_fail_0 {d : Nat} {z : Int32 × aH} (v0 : Nat) (v1 : Int32) (h : aH) (hf : fX8_fail_0 v0 v1 h = some z) : Ev (d + 0) none mX8_fail (0, 0) 0 [.ref v0, .int v1] [] h (QZ z) := 
  go_ok (X := none) (blk := wX8_fail_0) (np := 15) (tt := 0) (kN := fun _ _ _ => none) (kT := fun _ _ _ => none) (kR := kRZ)
    (fun _ _ _ q => nos q)
    (fun _ _ _ q => nos q)
    kRZ_ok (Or.inr rfl) (by decide +kernel) (by decide +kernel) hf
def gX8_fail (v0 : Nat) (v1 : Int32) (h : aH) : Option (Int32 × aH) := fX8_fail_0 v0 v1 h
theorem zX8_fail {d : Nat} {z : Int32 × aH} {v0 : Nat} {v1 : Int32} {h : aH} (q : gX8_fail v0 v1 h = some z) : CT (d + 0) mX8_fail (0, 0) [.ref v0, .int v1] h (QZ z) :=
  ct_ev (by decide +kernel) (Nat.le_of_ble_eq_true rfl) QZ_r (jm [2, 1] (fun v0 v1 => fX8_fail_0 v0 v1 h) (fun v0 v1 q => tX8_fail_0 v0 v1 h q) q)
def wX8_isFull_109 : List En := [(.iconst 0, 0, 0, 0), (.ireturn, 0, 0, 0)]
def fX8_isFull_109 (h : aH) : Option (Int32 × aH) :=
  if (kI 0) = 0 ∨ (kI 0) = 1 then some ((kI 0), h) else none
theorem tX8_isFull_109 {d : Nat} {z : Int32 × aH} (h : aH) (hf : fX8_isFull_109 h = some z) : Ev (d + 0) none mX8_isFull (0, 0) 109 [.null, .null] [] h (QZ z) := 
  go_ok (X := none) (blk := wX8_isFull_109) (np := 111) (tt := 0) (kN := fun _ _ _ => none) (kT := fun _ _ _ => none) (kR := kRZ)
    (fun _ _ _ q => nos q)
    (fun _ _ _ q => nos q)
    kRZ_ok (Or.inr rfl) (by decide +kernel) (by decide +kernel) hf
def wX8_isFull_49 : List En := [(.ireturn, 0, 0, 0)]
def fX8_isFull_49 (s0 : Int32) (h : aH) : Option (Int32 × aH) :=
  if s0 = 0 ∨ s0 = 1 then some (s0, h) else none
theorem tX8_isFull_49 {d : Nat} {z : Int32 × aH} (s0 : Int32) (h : aH) (hf : fX8_isFull_49 s0 h = some z) : Ev (d + 0) none mX8_isFull (0, 0) 49 [.null, .null] [.int s0] h (QZ z) := 
  go_ok (X := none) (blk := wX8_isFull_49) (np := 50) (tt := 0) (kN := fun _ _ _ => none) (kT := fun _ _ _ => none) (kR := kRZ)
    (fun _ _ _ q => nos q)
    (fun _ _ _ q => nos q)
    kRZ_ok (Or.inr rfl) (by decide +kernel) (by decide +kernel) hf
def wX8_isFull_48 : List En := [(.iconst 0, 0, 0, 0)]
def fX8_isFull_48 (h : aH) : Option (Int32 × aH) :=
  fX8_isFull_49 (kI 0) h
theorem tX8_isFull_48 {d : Nat} {z : Int32 × aH} (h : aH) (hf : fX8_isFull_48 h = some z) : Ev (d + 0) none mX8_isFull (0, 0) 48 [.null, .null] [] h (QZ z) := 
  go_ok (X := none) (blk := wX8_isFull_48) (np := 49) (tt := 0) (kN := fun xs h st => app [0, 0] (apS [1] (fun s0 => fX8_isFull_49 s0 h) st) xs) (kT := fun _ _ _ => none) (kR := kRZ)
    (fun xs h st q => jm [0, 0] _ (fun q => apS_ok [1] _ (fun st => Ev (d + 0) none mX8_isFull (0, 0) 49 [.null, .null] st h (QZ z)) st (fun s0 q => tX8_isFull_49 s0 h q) q) q)
    (fun _ _ _ q => nos q)
    kRZ_ok (Or.inr rfl) (by decide +kernel) (by decide +kernel) hf
def wX8_isFull_44 : List En := [(.iconst 1, 0, 0, 0), (.goto 4, 49, 0, 0)]
def fX8_isFull_44 (h : aH) : Option (Int32 × aH) :=
  fX8_isFull_49 (kI 1) h
theorem tX8_isFull_44 {d : Nat} {z : Int32 × aH} (h : aH) (hf : fX8_isFull_44 h = some z) : Ev (d + 0) none mX8_isFull (0, 0) 44 [.null, .null] [] h (QZ z) := 
  go_ok (X := none) (blk := wX8_isFull_44) (np := 48) (tt := 49) (kN := fun _ _ _ => none) (kT := fun xs h st => app [0, 0] (apS [1] (fun s0 => fX8_isFull_49 s0 h) st) xs) (kR := kRZ)
    (fun _ _ _ q => nos q)
    (fun xs h st q => jm [0, 0] _ (fun q => apS_ok [1] _ (fun st => Ev (d + 0) none mX8_isFull (0, 0) 49 [.null, .null] st h (QZ z)) st (fun s0 q => tX8_isFull_49 s0 h q) q) q)
    kRZ_ok (Or.inr rfl) (by decide +kernel) (by decide +kernel) hf
def wX8_isFull_36 : List En := [(.aload_n 0, 0, 0, 0), (.getfield 77, 111, 9, 3), (.iconst 5, 0, 0, 0), (.if_icmp .lt 7, 48, 0, 0)]
def fX8_isFull_36 (v0 : Nat) (h : aH) : Option (Int32 × aH) :=
  (gFI h 9 v0 3).bind fun t1 =>
  if t1 < (kI 5) then fX8_isFull_48 h else fX8_isFull_44 h
theorem tX8_isFull_36 {d : Nat} {z : Int32 × aH} (v0 : Nat) (h : aH) (hf : fX8_isFull_36 v0 h = some z) : Ev (d + 0) none mX8_isFull (0, 0) 36 [.ref v0, .null] [] h (QZ z) := 
  go_ok (X := none) (blk := wX8_isFull_36) (np := 44) (tt := 48) (kN := fun xs h st => app [0, 0] (apS [] (fX8_isFull_44 h) st) xs) (kT := fun xs h st => app [0, 0] (apS [] (fX8_isFull_48 h) st) xs) (kR := kRZ)
    (fun xs h st q => jm [0, 0] _ (fun q => apS_ok [] _ (fun st => Ev (d + 0) none mX8_isFull (0, 0) 44 [.null, .null] st h (QZ z)) st (fun q => tX8_isFull_44 h q) q) q)
    (fun xs h st q => jm [0, 0] _ (fun q => apS_ok [] _ (fun st => Ev (d + 0) none mX8_isFull (0, 0) 48 [.null, .null] st h (QZ z)) st (fun q => tX8_isFull_48 h q) q) q)
    kRZ_ok (Or.inr rfl) (by decide +kernel) (by decide +kernel) hf
def wX8_isFull_64 : List En := [(.ireturn, 0, 0, 0)]
def fX8_isFull_64 (s0 : Int32) (h : aH) : Option (Int32 × aH) :=
  if s0 = 0 ∨ s0 = 1 then some (s0, h) else none
theorem tX8_isFull_64 {d : Nat} {z : Int32 × aH} (s0 : Int32) (h : aH) (hf : fX8_isFull_64 s0 h = some z) : Ev (d + 0) none mX8_isFull (0, 0) 64 [.null, .null] [.int s0] h (QZ z) := 
  go_ok (X := none) (blk := wX8_isFull_64) (np := 65) (tt := 0) (kN := fun _ _ _ => none) (kT := fun _ _ _ => none) (kR := kRZ)
    (fun _ _ _ q => nos q)
    (fun _ _ _ q => nos q)
    kRZ_ok (Or.inr rfl) (by decide +kernel) (by decide +kernel) hf
def wX8_isFull_63 : List En := [(.iconst 0, 0, 0, 0)]
def fX8_isFull_63 (h : aH) : Option (Int32 × aH) :=
  fX8_isFull_64 (kI 0) h
theorem tX8_isFull_63 {d : Nat} {z : Int32 × aH} (h : aH) (hf : fX8_isFull_63 h = some z) : Ev (d + 0) none mX8_isFull (0, 0) 63 [.null, .null] [] h (QZ z) := 
  go_ok (X := none) (blk := wX8_isFull_63) (np := 64) (tt := 0) (kN := fun xs h st => app [0, 0] (apS [1] (fun s0 => fX8_isFull_64 s0 h) st) xs) (kT := fun _ _ _ => none) (kR := kRZ)
    (fun xs h st q => jm [0, 0] _ (fun q => apS_ok [1] _ (fun st => Ev (d + 0) none mX8_isFull (0, 0) 64 [.null, .null] st h (QZ z)) st (fun s0 q => tX8_isFull_64 s0 h q) q) q)
    (fun _ _ _ q => nos q)
    kRZ_ok (Or.inr rfl) (by decide +kernel) (by decide +kernel) hf
def wX8_isFull_59 : List En := [(.iconst 1, 0, 0, 0), (.goto 4, 64, 0, 0)]
def fX8_isFull_59 (h : aH) : Option (Int32 × aH) :=
  fX8_isFull_64 (kI 1) h
theorem tX8_isFull_59 {d : Nat} {z : Int32 × aH} (h : aH) (hf : fX8_isFull_59 h = some z) : Ev (d + 0) none mX8_isFull (0, 0) 59 [.null, .null] [] h (QZ z) := 
  go_ok (X := none) (blk := wX8_isFull_59) (np := 63) (tt := 64) (kN := fun _ _ _ => none) (kT := fun xs h st => app [0, 0] (apS [1] (fun s0 => fX8_isFull_64 s0 h) st) xs) (kR := kRZ)
    (fun _ _ _ q => nos q)
    (fun xs h st q => jm [0, 0] _ (fun q => apS_ok [1] _ (fun st => Ev (d + 0) none mX8_isFull (0, 0) 64 [.null, .null] st h (QZ z)) st (fun s0 q => tX8_isFull_64 s0 h q) q) q)
    kRZ_ok (Or.inr rfl) (by decide +kernel) (by decide +kernel) hf
def wX8_isFull_50 : List En := [(.aload_n 0, 0, 0, 0), (.getfield 109, 115, 9, 4), (.bipush 8, 0, 0, 0), (.if_icmp .lt 7, 63, 0, 0)]
def fX8_isFull_50 (v0 : Nat) (h : aH) : Option (Int32 × aH) :=
  (gFI h 9 v0 4).bind fun t1 =>
  if t1 < (kB 8) then fX8_isFull_63 h else fX8_isFull_59 h
theorem tX8_isFull_50 {d : Nat} {z : Int32 × aH} (v0 : Nat) (h : aH) (hf : fX8_isFull_50 v0 h = some z) : Ev (d + 0) none mX8_isFull (0, 0) 50 [.ref v0, .null] [] h (QZ z) := 
  go_ok (X := none) (blk := wX8_isFull_50) (np := 59) (tt := 63) (kN := fun xs h st => app [0, 0] (apS [] (fX8_isFull_59 h) st) xs) (kT := fun xs h st => app [0, 0] (apS [] (fX8_isFull_63 h) st) xs) (kR := kRZ)
    (fun xs h st q => jm [0, 0] _ (fun q => apS_ok [] _ (fun st => Ev (d + 0) none mX8_isFull (0, 0) 59 [.null, .null] st h (QZ z)) st (fun q => tX8_isFull_59 h q) q) q)
    (fun xs h st q => jm [0, 0] _ (fun q => apS_ok [] _ (fun st => Ev (d + 0) none mX8_isFull (0, 0) 63 [.null, .null] st h (QZ z)) st (fun q => tX8_isFull_63 h q) q) q)
    kRZ_ok (Or.inr rfl) (by decide +kernel) (by decide +kernel) hf
def wX8_isFull_79 : List En := [(.ireturn, 0, 0, 0)]
def fX8_isFull_79 (s0 : Int32) (h : aH) : Option (Int32 × aH) :=
  if s0 = 0 ∨ s0 = 1 then some (s0, h) else none
theorem tX8_isFull_79 {d : Nat} {z : Int32 × aH} (s0 : Int32) (h : aH) (hf : fX8_isFull_79 s0 h = some z) : Ev (d + 0) none mX8_isFull (0, 0) 79 [.null, .null] [.int s0] h (QZ z) := 
  go_ok (X := none) (blk := wX8_isFull_79) (np := 80) (tt := 0) (kN := fun _ _ _ => none) (kT := fun _ _ _ => none) (kR := kRZ)
    (fun _ _ _ q => nos q)
    (fun _ _ _ q => nos q)
    kRZ_ok (Or.inr rfl) (by decide +kernel) (by decide +kernel) hf
def wX8_isFull_78 : List En := [(.iconst 0, 0, 0, 0)]
def fX8_isFull_78 (h : aH) : Option (Int32 × aH) :=
  fX8_isFull_79 (kI 0) h
theorem tX8_isFull_78 {d : Nat} {z : Int32 × aH} (h : aH) (hf : fX8_isFull_78 h = some z) : Ev (d + 0) none mX8_isFull (0, 0) 78 [.null, .null] [] h (QZ z) := 
  go_ok (X := none) (blk := wX8_isFull_78) (np := 79) (tt := 0) (kN := fun xs h st => app [0, 0] (apS [1] (fun s0 => fX8_isFull_79 s0 h) st) xs) (kT := fun _ _ _ => none) (kR := kRZ)
    (fun xs h st q => jm [0, 0] _ (fun q => apS_ok [1] _ (fun st => Ev (d + 0) none mX8_isFull (0, 0) 79 [.null, .null] st h (QZ z)) st (fun s0 q => tX8_isFull_79 s0 h q) q) q)
    (fun _ _ _ q => nos q)
    kRZ_ok (Or.inr rfl) (by decide +kernel) (by decide +kernel) hf
def wX8_isFull_74 : List En := [(.iconst 1, 0, 0, 0), (.goto 4, 79, 0, 0)]
def fX8_isFull_74 (h : aH) : Option (Int32 × aH) :=
  fX8_isFull_79 (kI 1) h
theorem tX8_isFull_74 {d : Nat} {z : Int32 × aH} (h : aH) (hf : fX8_isFull_74 h = some z) : Ev (d + 0) none mX8_isFull (0, 0) 74 [.null, .null] [] h (QZ z) := 
  go_ok (X := none) (blk := wX8_isFull_74) (np := 78) (tt := 79) (kN := fun _ _ _ => none) (kT := fun xs h st => app [0, 0] (apS [1] (fun s0 => fX8_isFull_79 s0 h) st) xs) (kR := kRZ)
    (fun _ _ _ q => nos q)
    (fun xs h st q => jm [0, 0] _ (fun q => apS_ok [1] _ (fun st => Ev (d + 0) none mX8_isFull (0, 0) 79 [.null, .null] st h (QZ z)) st (fun s0 q => tX8_isFull_79 s0 h q) q) q)
    kRZ_ok (Or.inr rfl) (by decide +kernel) (by decide +kernel) hf
def wX8_isFull_65 : List En := [(.aload_n 0, 0, 0, 0), (.getfield 112, 118, 9, 5), (.bipush 8, 0, 0, 0), (.if_icmp .lt 7, 78, 0, 0)]
def fX8_isFull_65 (v0 : Nat) (h : aH) : Option (Int32 × aH) :=
  (gFI h 9 v0 5).bind fun t1 =>
  if t1 < (kB 8) then fX8_isFull_78 h else fX8_isFull_74 h
theorem tX8_isFull_65 {d : Nat} {z : Int32 × aH} (v0 : Nat) (h : aH) (hf : fX8_isFull_65 v0 h = some z) : Ev (d + 0) none mX8_isFull (0, 0) 65 [.ref v0, .null] [] h (QZ z) := 
  go_ok (X := none) (blk := wX8_isFull_65) (np := 74) (tt := 78) (kN := fun xs h st => app [0, 0] (apS [] (fX8_isFull_74 h) st) xs) (kT := fun xs h st => app [0, 0] (apS [] (fX8_isFull_78 h) st) xs) (kR := kRZ)
    (fun xs h st q => jm [0, 0] _ (fun q => apS_ok [] _ (fun st => Ev (d + 0) none mX8_isFull (0, 0) 74 [.null, .null] st h (QZ z)) st (fun q => tX8_isFull_74 h q) q) q)
    (fun xs h st q => jm [0, 0] _ (fun q => apS_ok [] _ (fun st => Ev (d + 0) none mX8_isFull (0, 0) 78 [.null, .null] st h (QZ z)) st (fun q => tX8_isFull_78 h q) q) q)
    kRZ_ok (Or.inr rfl) (by decide +kernel) (by decide +kernel) hf
def wX8_isFull_93 : List En := [(.ireturn, 0, 0, 0)]
def fX8_isFull_93 (s0 : Int32) (h : aH) : Option (Int32 × aH) :=
  if s0 = 0 ∨ s0 = 1 then some (s0, h) else none
theorem tX8_isFull_93 {d : Nat} {z : Int32 × aH} (s0 : Int32) (h : aH) (hf : fX8_isFull_93 s0 h = some z) : Ev (d + 0) none mX8_isFull (0, 0) 93 [.null, .null] [.int s0] h (QZ z) := 
  go_ok (X := none) (blk := wX8_isFull_93) (np := 94) (tt := 0) (kN := fun _ _ _ => none) (kT := fun _ _ _ => none) (kR := kRZ)
    (fun _ _ _ q => nos q)
    (fun _ _ _ q => nos q)
    kRZ_ok (Or.inr rfl) (by decide +kernel) (by decide +kernel) hf
def wX8_isFull_92 : List En := [(.iconst 0, 0, 0, 0)]
def fX8_isFull_92 (h : aH) : Option (Int32 × aH) :=
  fX8_isFull_93 (kI 0) h
theorem tX8_isFull_92 {d : Nat} {z : Int32 × aH} (h : aH) (hf : fX8_isFull_92 h = some z) : Ev (d + 0) none mX8_isFull (0, 0) 92 [.null, .null] [] h (QZ z) := 
  go_ok (X := none) (blk := wX8_isFull_92) (np := 93) (tt := 0) (kN := fun xs h st => app [0, 0] (apS [1] (fun s0 => fX8_isFull_93 s0 h) st) xs) (kT := fun _ _ _ => none) (kR := kRZ)
    (fun xs h st q => jm [0, 0] _ (fun q => apS_ok [1] _ (fun st => Ev (d + 0) none mX8_isFull (0, 0) 93 [.null, .null] st h (QZ z)) st (fun s0 q => tX8_isFull_93 s0 h q) q) q)
    (fun _ _ _ q => nos q)
    kRZ_ok (Or.inr rfl) (by decide +kernel) (by decide +kernel) hf
def wX8_isFull_88 : List En := [(.iconst 1, 0, 0, 0), (.goto 4, 93, 0, 0)]
def fX8_isFull_88 (h : aH) : Option (Int32 × aH) :=
  fX8_isFull_93 (kI 1) h
theorem tX8_isFull_88 {d : Nat} {z : Int32 × aH} (h : aH) (hf : fX8_isFull_88 h = some z) : Ev (d + 0) none mX8_isFull (0, 0) 88 [.null, .null] [] h (QZ z) := 
  go_ok (X := none) (blk := wX8_isFull_88) (np := 92) (tt := 93) (kN := fun _ _ _ => none) (kT := fun xs h st => app [0, 0] (apS [1] (fun s0 => fX8_isFull_93 s0 h) st) xs) (kR := kRZ)
    (fun _ _ _ q => nos q)
    (fun xs h st q => jm [0, 0] _ (fun q => apS_ok [1] _ (fun st => Ev (d + 0) none mX8_isFull (0, 0) 93 [.null, .null] st h (QZ z)) st (fun s0 q => tX8_isFull_93 s0 h q) q) q)
    kRZ_ok (Or.inr rfl) (by decide +kernel) (by decide +kernel) hf
def wX8_isFull_80 : List En := [(.aload_n 0, 0, 0, 0), (.getfield 115, 123, 9, 6), (.iconst 4, 0, 0, 0), (.if_icmp .lt 7, 92, 0, 0)]
def fX8_isFull_80 (v0 : Nat) (h : aH) : Option (Int32 × aH) :=
  (gFI h 9 v0 6).bind fun t1 =>
  if t1 < (kI 4) then fX8_isFull_92 h else fX8_isFull_88 h
theorem tX8_isFull_80 {d : Nat} {z : Int32 × aH} (v0 : Nat) (h : aH) (hf : fX8_isFull_80 v0 h = some z) : Ev (d + 0) none mX8_isFull (0, 0) 80 [.ref v0, .null] [] h (QZ z) := 
  go_ok (X := none) (blk := wX8_isFull_80) (np := 88) (tt := 92) (kN := fun xs h st => app [0, 0] (apS [] (fX8_isFull_88 h) st) xs) (kT := fun xs h st => app [0, 0] (apS [] (fX8_isFull_92 h) st) xs) (kR := kRZ)
    (fun xs h st q => jm [0, 0] _ (fun q => apS_ok [] _ (fun st => Ev (d + 0) none mX8_isFull (0, 0) 88 [.null, .null] st h (QZ z)) st (fun q => tX8_isFull_88 h q) q) q)
    (fun xs h st q => jm [0, 0] _ (fun q => apS_ok [] _ (fun st => Ev (d + 0) none mX8_isFull (0, 0) 92 [.null, .null] st h (QZ z)) st (fun q => tX8_isFull_92 h q) q) q)
    kRZ_ok (Or.inr rfl) (by decide +kernel) (by decide +kernel) hf
def wX8_isFull_108 : List En := [(.ireturn, 0, 0, 0)]
def fX8_isFull_108 (s0 : Int32) (h : aH) : Option (Int32 × aH) :=
  if s0 = 0 ∨ s0 = 1 then some (s0, h) else none
theorem tX8_isFull_108 {d : Nat} {z : Int32 × aH} (s0 : Int32) (h : aH) (hf : fX8_isFull_108 s0 h = some z) : Ev (d + 0) none mX8_isFull (0, 0) 108 [.null, .null] [.int s0] h (QZ z) := 
  go_ok (X := none) (blk := wX8_isFull_108) (np := 109) (tt := 0) (kN := fun _ _ _ => none) (kT := fun _ _ _ => none) (kR := kRZ)
    (fun _ _ _ q => nos q)
    (fun _ _ _ q => nos q)
    kRZ_ok (Or.inr rfl) (by decide +kernel) (by decide +kernel) hf
def wX8_isFull_107 : List En := [(.iconst 0, 0, 0, 0)]
def fX8_isFull_107 (h : aH) : Option (Int32 × aH) :=
  fX8_isFull_108 (kI 0) h
theorem tX8_isFull_107 {d : Nat} {z : Int32 × aH} (h : aH) (hf : fX8_isFull_107 h = some z) : Ev (d + 0) none mX8_isFull (0, 0) 107 [.null, .null] [] h (QZ z) := 
  go_ok (X := none) (blk := wX8_isFull_107) (np := 108) (tt := 0) (kN := fun xs h st => app [0, 0] (apS [1] (fun s0 => fX8_isFull_108 s0 h) st) xs) (kT := fun _ _ _ => none) (kR := kRZ)
    (fun xs h st q => jm [0, 0] _ (fun q => apS_ok [1] _ (fun st => Ev (d + 0) none mX8_isFull (0, 0) 108 [.null, .null] st h (QZ z)) st (fun s0 q => tX8_isFull_108 s0 h q) q) q)
    (fun _ _ _ q => nos q)
    kRZ_ok (Or.inr rfl) (by decide +kernel) (by decide +kernel) hf
def wX8_isFull_103 : List En := [(.iconst 1, 0, 0, 0), (.goto 4, 108, 0, 0)]
def fX8_isFull_103 (h : aH) : Option (Int32 × aH) :=
  fX8_isFull_108 (kI 1) h
theorem tX8_isFull_103 {d : Nat} {z : Int32 × aH} (h : aH) (hf : fX8_isFull_103 h = some z) : Ev (d + 0) none mX8_isFull (0, 0) 103 [.null, .null] [] h (QZ z) := 
  go_ok (X := none) (blk := wX8_isFull_103) (np := 107) (tt := 108) (kN := fun _ _ _ => none) (kT := fun xs h st => app [0, 0] (apS [1] (fun s0 => fX8_isFull_108 s0 h) st) xs) (kR := kRZ)
    (fun _ _ _ q => nos q)
    (fun xs h st q => jm [0, 0] _ (fun q => apS_ok [1] _ (fun st => Ev (d + 0) none mX8_isFull (0, 0) 108 [.null, .null] st h (QZ z)) st (fun s0 q => tX8_isFull_108 s0 h q) q) q)
    kRZ_ok (Or.inr rfl) (by decide +kernel) (by decide +kernel) hf
def wX8_isFull_94 : List En := [(.aload_n 0, 0, 0, 0), (.getfield 118, 127, 9, 7), (.bipush 6, 0, 0, 0), (.if_icmp .lt 7, 107, 0, 0)]
def fX8_isFull_94 (v0 : Nat) (h : aH) : Option (Int32 × aH) :=
  (gFI h 9 v0 7).bind fun t1 =>
  if t1 < (kB 6) then fX8_isFull_107 h else fX8_isFull_103 h
theorem tX8_isFull_94 {d : Nat} {z : Int32 × aH} (v0 : Nat) (h : aH) (hf : fX8_isFull_94 v0 h = some z) : Ev (d + 0) none mX8_isFull (0, 0) 94 [.ref v0, .null] [] h (QZ z) := 
  go_ok (X := none) (blk := wX8_isFull_94) (np := 103) (tt := 107) (kN := fun xs h st => app [0, 0] (apS [] (fX8_isFull_103 h) st) xs) (kT := fun xs h st => app [0, 0] (apS [] (fX8_isFull_107 h) st) xs) (kR := kRZ)
    (fun xs h st q => jm [0, 0] _ (fun q => apS_ok [] _ (fun st => Ev (d + 0) none mX8_isFull (0, 0) 103 [.null, .null] st h (QZ z)) st (fun q => tX8_isFull_103 h q) q) q)
    (fun xs h st q => jm [0, 0] _ (fun q => apS_ok [] _ (fun st => Ev (d + 0) none mX8_isFull (0, 0) 107 [.null, .null] st h (QZ z)) st (fun q => tX8_isFull_107 h q) q) q)
    kRZ_ok (Or.inr rfl) (by decide +kernel) (by decide +kernel) hf
theorem kdX8_isFull_1 : decode mX8_isFull.2.2.1 1 = .ok (.tableswitch 108 1 5 #[35, 49, 64, 79, 93], 35) := by decide +kernel
def fX8_isFull_1 (v0 : Nat) (s0 : Int32) (h : aH) : Option (Int32 × aH) :=
  if s0 = kI 1 then fX8_isFull_36 v0 h else
  if s0 = kI 2 then fX8_isFull_50 v0 h else
  if s0 = kI 3 then fX8_isFull_65 v0 h else
  if s0 = kI 4 then fX8_isFull_80 v0 h else
  if s0 = kI 5 then fX8_isFull_94 v0 h else
  fX8_isFull_109 h
theorem tX8_isFull_1 {d : Nat} {z : Int32 × aH} (v0 : Nat) (s0 : Int32) (h : aH) (hf : fX8_isFull_1 v0 s0 h = some z) : Ev (d + 0) none mX8_isFull (0, 0) 1 [.ref v0, .null] [.int s0] h (QZ z) := by
  unfold fX8_isFull_1 at hf
  by_cases c1 : s0 = kI 1
  · rw [if_pos c1] at hf
    subst c1
    exact ev_tsI kdX8_isFull_1 (by decide) rfl rfl (jm [2, 0] (fun v0 => fX8_isFull_36 v0 h) (fun v0 q => tX8_isFull_36 v0 h q) hf)
  rw [if_neg c1] at hf
  by_cases c2 : s0 = kI 2
  · rw [if_pos c2] at hf
    subst c2
    exact ev_tsI kdX8_isFull_1 (by decide) rfl rfl (jm [2, 0] (fun v0 => fX8_isFull_50 v0 h) (fun v0 q => tX8_isFull_50 v0 h q) hf)
  rw [if_neg c2] at hf
  by_cases c3 : s0 = kI 3
  · rw [if_pos c3] at hf
    subst c3
    exact ev_tsI kdX8_isFull_1 (by decide) rfl rfl (jm [2, 0] (fun v0 => fX8_isFull_65 v0 h) (fun v0 q => tX8_isFull_65 v0 h q) hf)
  rw [if_neg c3] at hf
  by_cases c4 : s0 = kI 4
  · rw [if_pos c4] at hf
    subst c4
    exact ev_tsI kdX8_isFull_1 (by decide) rfl rfl (jm [2, 0] (fun v0 => fX8_isFull_80 v0 h) (fun v0 q => tX8_isFull_80 v0 h q) hf)
  rw [if_neg c4] at hf
  by_cases c5 : s0 = kI 5
  · rw [if_pos c5] at hf
    subst c5
    exact ev_tsI kdX8_isFull_1 (by decide) rfl rfl (jm [2, 0] (fun v0 => fX8_isFull_94 v0 h) (fun v0 q => tX8_isFull_94 v0 h q) hf)
  rw [if_neg c5] at hf
  exact ev_tsO kdX8_isFull_1 (ts_out (fun n h1 h2 => by
    have hn : n = 1 ∨ n = 2 ∨ n = 3 ∨ n = 4 ∨ n = 5 := by omega
    rcases hn with rfl | rfl | rfl | rfl | rfl <;> assumption)) rfl (jm [0, 0] (fX8_isFull_109 h) (fun q => tX8_isFull_109 h q) hf)
def wX8_isFull_0 : List En := [(.iload_n 1, 0, 0, 0)]
def fX8_isFull_0 (v0 : Nat) (v1 : Int32) (h : aH) : Option (Int32 × aH) :=
  fX8_isFull_1 v0 v1 h
theorem tX8_isFull_0 {d : Nat} {z : Int32 × aH} (v0 : Nat) (v1 : Int32) (h : aH) (hf : fX8_isFull_0 v0 v1 h = some z) : Ev (d + 0) none mX8_isFull (0, 0) 0 [.ref v0, .int v1] [] h (QZ z) := 
  go_ok (X := none) (blk := wX8_isFull_0) (np := 1) (tt := 0) (kN := fun xs h st => app [2, 0] (fun v0 => apS [1] (fun s0 => fX8_isFull_1 v0 s0 h) st) xs) (kT := fun _ _ _ => none) (kR := kRZ)
    (fun xs h st q => jm [2, 0] _ (fun v0 q => apS_ok [1] _ (fun st => Ev (d + 0) none mX8_isFull (0, 0) 1 [.ref v0, .null] st h (QZ z)) st (fun s0 q => tX8_isFull_1 v0 s0 h q) q) q)
    (fun _ _ _ q => nos q)
    kRZ_ok (Or.inr rfl) (by decide +kernel) (by decide +kernel) hf
def gX8_isFull (v0 : Nat) (v1 : Int32) (h : aH) : Option (Int32 × aH) := fX8_isFull_0 v0 v1 h
theorem zX8_isFull {d : Nat} {z : Int32 × aH} {v0 : Nat} {v1 : Int32} {h : aH} (q : gX8_isFull v0 v1 h = some z) : CT (d + 0) mX8_isFull (0, 0) [.ref v0, .int v1] h (QZ z) :=
  ct_ev (by decide +kernel) (Nat.le_of_ble_eq_true rfl) QZ_r (jm [2, 1] (fun v0 v1 => fX8_isFull_0 v0 v1 h) (fun v0 v1 q => tX8_isFull_0 v0 v1 h q) q)
def wX8_isWholeWithin_35 : List En := [(.ireturn, 0, 0, 0)]
def fX8_isWholeWithin_35 (s0 : Int32) (h : aH) : Option (Int32 × aH) :=
  if s0 = 0 ∨ s0 = 1 then some (s0, h) else none
theorem tX8_isWholeWithin_35 {d : Nat} {z : Int32 × aH} (s0 : Int32) (h : aH) (hf : fX8_isWholeWithin_35 s0 h = some z) : Ev (d + 1) none mX8_isWholeWithin (0, 0) 35 [.null, .null, .null] [.int s0] h (QZ z) := 
  go_ok (X := none) (blk := wX8_isWholeWithin_35) (np := 36) (tt := 0) (kN := fun _ _ _ => none) (kT := fun _ _ _ => none) (kR := kRZ)
    (fun _ _ _ q => nos q)
    (fun _ _ _ q => nos q)
    kRZ_ok (Or.inr rfl) (by decide +kernel) (by decide +kernel) hf
theorem kqX8_isWholeWithin_32 : okC mX8_isWholeWithin 32 (.invokevirtual 73) 37 21 0 1 = true := by decide +kernel
def fX8_isWholeWithin_32 (s0 : Int32) (s1 : Nat) (h : aH) : Option (Int32 × aH) :=
  (isO h 8 s1).bind fun _ =>
  (gX8_fail s1 s0 h).bind fun r =>
  fX8_isWholeWithin_35 r.1 r.2
theorem tX8_isWholeWithin_32 {d : Nat} {z : Int32 × aH} (s0 : Int32) (s1 : Nat) (h : aH) (hf : fX8_isWholeWithin_32 s0 s1 h = some z) : Ev (d + 1) none mX8_isWholeWithin (0, 0) 32 [.null, .null, .null] [.int s0, .ref s1] h (QZ z) := by
  obtain ⟨_, h1, hf⟩ := bnd hf
  obtain ⟨fs, ho⟩ := isO_ok h1
  obtain ⟨r, h2, hf⟩ := bnd hf
  refine ev_V kqX8_isWholeWithin_32 jX8_fail (zX8_fail (d := d + 0) h2) ho rfl rfl (Nat.le_of_ble_eq_true rfl) rfl (as := [.int s0]) (rest := []) rfl (Nat.le_of_ble_eq_true rfl) (fun _ _ hq => ?_)
  obtain ⟨-, rfl, rfl⟩ := hq
  exact jm [0, 0, 0] (fX8_isWholeWithin_35 r.1 r.2) (fun q => tX8_isWholeWithin_35 r.1 r.2 q) hf
def wX8_isWholeWithin_30 : List En := [(.aload_n 0, 0, 0, 0), (.iconst 4, 0, 0, 0)]
def fX8_isWholeWithin_30 (v0 : Nat) (h : aH) : Option (Int32 × aH) :=
  fX8_isWholeWithin_32 (kI 4) v0 h
theorem tX8_isWholeWithin_30 {d : Nat} {z : Int32 × aH} (v0 : Nat) (h : aH) (hf : fX8_isWholeWithin_30 v0 h = some z) : Ev (d + 1) none mX8_isWholeWithin (0, 0) 30 [.ref v0, .null, .null] [] h (QZ z) := 
  go_ok (X := none) (blk := wX8_isWholeWithin_30) (np := 32) (tt := 0) (kN := fun xs h st => app [0, 0, 0] (apS [1, 2] (fun s0 s1 => fX8_isWholeWithin_32 s0 s1 h) st) xs) (kT := fun _ _ _ => none) (kR := kRZ)
    (fun xs h st q => jm [0, 0, 0] _ (fun q => apS_ok [1, 2] _ (fun st => Ev (d + 1) none mX8_isWholeWithin (0, 0) 32 [.null, .null, .null] st h (QZ z)) st (fun s0 s1 q => tX8_isWholeWithin_32 s0 s1 h q) q) q)
    (fun _ _ _ q => nos q)
    kRZ_ok (Or.inr rfl) (by decide +kernel) (by decide +kernel) hf
def wX8_isWholeWithin_36 : List En := [(.iconst 1, 0, 0, 0), (.ireturn, 0, 0, 0)]
def fX8_isWholeWithin_36 (h : aH) : Option (Int32 × aH) :=
  if (kI 1) = 0 ∨ (kI 1) = 1 then some ((kI 1), h) else none
theorem tX8_isWholeWithin_36 {d : Nat} {z : Int32 × aH} (h : aH) (hf : fX8_isWholeWithin_36 h = some z) : Ev (d + 1) none mX8_isWholeWithin (0, 0) 36 [.null, .null, .null] [] h (QZ z) := 
  go_ok (X := none) (blk := wX8_isWholeWithin_36) (np := 38) (tt := 0) (kN := fun _ _ _ => none) (kT := fun _ _ _ => none) (kR := kRZ)
    (fun _ _ _ q => nos q)
    (fun _ _ _ q => nos q)
    kRZ_ok (Or.inr rfl) (by decide +kernel) (by decide +kernel) hf
def wX8_isWholeWithin_22 : List En := [(.aload_n 0, 0, 0, 0), (.getfield 127, 16, 8, 13), (.iload_n 2, 0, 0, 0), (.if_icmp .le 9, 36, 0, 0)]
def fX8_isWholeWithin_22 (v0 : Nat) (v2 : Int32) (h : aH) : Option (Int32 × aH) :=
  (gFI h 8 v0 13).bind fun t1 =>
  if v2 < t1 then fX8_isWholeWithin_30 v0 h else fX8_isWholeWithin_36 h
theorem tX8_isWholeWithin_22 {d : Nat} {z : Int32 × aH} (v0 : Nat) (v2 : Int32) (h : aH) (hf : fX8_isWholeWithin_22 v0 v2 h = some z) : Ev (d + 1) none mX8_isWholeWithin (0, 0) 22 [.ref v0, .null, .int v2] [] h (QZ z) := 
  go_ok (X := none) (blk := wX8_isWholeWithin_22) (np := 30) (tt := 36) (kN := fun xs h st => app [2, 0, 0] (fun v0 => apS [] (fX8_isWholeWithin_30 v0 h) st) xs) (kT := fun xs h st => app [0, 0, 0] (apS [] (fX8_isWholeWithin_36 h) st) xs) (kR := kRZ)
    (fun xs h st q => jm [2, 0, 0] _ (fun v0 q => apS_ok [] _ (fun st => Ev (d + 1) none mX8_isWholeWithin (0, 0) 30 [.ref v0, .null, .null] st h (QZ z)) st (fun q => tX8_isWholeWithin_30 v0 h q) q) q)
    (fun xs h st q => jm [0, 0, 0] _ (fun q => apS_ok [] _ (fun st => Ev (d + 1) none mX8_isWholeWithin (0, 0) 36 [.null, .null, .null] st h (QZ z)) st (fun q => tX8_isWholeWithin_36 h q) q) q)
    kRZ_ok (Or.inr rfl) (by decide +kernel) (by decide +kernel) hf
def wX8_isWholeWithin_14 : List En := [(.aload_n 0, 0, 0, 0), (.getfield 127, 16, 8, 13), (.iload_n 1, 0, 0, 0), (.if_icmp .lt 11, 30, 0, 0)]
def fX8_isWholeWithin_14 (v0 : Nat) (v1 : Int32) (v2 : Int32) (h : aH) : Option (Int32 × aH) :=
  (gFI h 8 v0 13).bind fun t1 =>
  if t1 < v1 then fX8_isWholeWithin_30 v0 h else fX8_isWholeWithin_22 v0 v2 h
theorem tX8_isWholeWithin_14 {d : Nat} {z : Int32 × aH} (v0 : Nat) (v1 : Int32) (v2 : Int32) (h : aH) (hf : fX8_isWholeWithin_14 v0 v1 v2 h = some z) : Ev (d + 1) none mX8_isWholeWithin (0, 0) 14 [.ref v0, .int v1, .int v2] [] h (QZ z) := 
  go_ok (X := none) (blk := wX8_isWholeWithin_14) (np := 22) (tt := 30) (kN := fun xs h st => app [2, 0, 1] (fun v0 v2 => apS [] (fX8_isWholeWithin_22 v0 v2 h) st) xs) (kT := fun xs h st => app [2, 0, 0] (fun v0 => apS [] (fX8_isWholeWithin_30 v0 h) st) xs) (kR := kRZ)
    (fun xs h st q => jm [2, 0, 1] _ (fun v0 v2 q => apS_ok [] _ (fun st => Ev (d + 1) none mX8_isWholeWithin (0, 0) 22 [.ref v0, .null, .int v2] st h (QZ z)) st (fun q => tX8_isWholeWithin_22 v0 v2 h q) q) q)
    (fun xs h st q => jm [2, 0, 0] _ (fun v0 q => apS_ok [] _ (fun st => Ev (d + 1) none mX8_isWholeWithin (0, 0) 30 [.ref v0, .null, .null] st h (QZ z)) st (fun q => tX8_isWholeWithin_30 v0 h q) q) q)
    kRZ_ok (Or.inr rfl) (by decide +kernel) (by decide +kernel) hf
def wX8_isWholeWithin_13 : List En := [(.ireturn, 0, 0, 0)]
def fX8_isWholeWithin_13 (s0 : Int32) (h : aH) : Option (Int32 × aH) :=
  if s0 = 0 ∨ s0 = 1 then some (s0, h) else none
theorem tX8_isWholeWithin_13 {d : Nat} {z : Int32 × aH} (s0 : Int32) (h : aH) (hf : fX8_isWholeWithin_13 s0 h = some z) : Ev (d + 1) none mX8_isWholeWithin (0, 0) 13 [.null, .null, .null] [.int s0] h (QZ z) := 
  go_ok (X := none) (blk := wX8_isWholeWithin_13) (np := 14) (tt := 0) (kN := fun _ _ _ => none) (kT := fun _ _ _ => none) (kR := kRZ)
    (fun _ _ _ q => nos q)
    (fun _ _ _ q => nos q)
    kRZ_ok (Or.inr rfl) (by decide +kernel) (by decide +kernel) hf
theorem kqX8_isWholeWithin_10 : okC mX8_isWholeWithin 10 (.invokevirtual 73) 37 21 0 1 = true := by decide +kernel
def fX8_isWholeWithin_10 (s0 : Int32) (s1 : Nat) (h : aH) : Option (Int32 × aH) :=
  (isO h 8 s1).bind fun _ =>
  (gX8_fail s1 s0 h).bind fun r =>
  fX8_isWholeWithin_13 r.1 r.2
theorem tX8_isWholeWithin_10 {d : Nat} {z : Int32 × aH} (s0 : Int32) (s1 : Nat) (h : aH) (hf : fX8_isWholeWithin_10 s0 s1 h = some z) : Ev (d + 1) none mX8_isWholeWithin (0, 0) 10 [.null, .null, .null] [.int s0, .ref s1] h (QZ z) := by
  obtain ⟨_, h1, hf⟩ := bnd hf
  obtain ⟨fs, ho⟩ := isO_ok h1
  obtain ⟨r, h2, hf⟩ := bnd hf
  refine ev_V kqX8_isWholeWithin_10 jX8_fail (zX8_fail (d := d + 0) h2) ho rfl rfl (Nat.le_of_ble_eq_true rfl) rfl (as := [.int s0]) (rest := []) rfl (Nat.le_of_ble_eq_true rfl) (fun _ _ hq => ?_)
  obtain ⟨-, rfl, rfl⟩ := hq
  exact jm [0, 0, 0] (fX8_isWholeWithin_13 r.1 r.2) (fun q => tX8_isWholeWithin_13 r.1 r.2 q) hf
def wX8_isWholeWithin_8 : List En := [(.aload_n 0, 0, 0, 0), (.iconst 1, 0, 0, 0)]
def fX8_isWholeWithin_8 (v0 : Nat) (h : aH) : Option (Int32 × aH) :=
  fX8_isWholeWithin_10 (kI 1) v0 h
theorem tX8_isWholeWithin_8 {d : Nat} {z : Int32 × aH} (v0 : Nat) (h : aH) (hf : fX8_isWholeWithin_8 v0 h = some z) : Ev (d + 1) none mX8_isWholeWithin (0, 0) 8 [.ref v0, .null, .null] [] h (QZ z) := 
  go_ok (X := none) (blk := wX8_isWholeWithin_8) (np := 10) (tt := 0) (kN := fun xs h st => app [0, 0, 0] (apS [1, 2] (fun s0 s1 => fX8_isWholeWithin_10 s0 s1 h) st) xs) (kT := fun _ _ _ => none) (kR := kRZ)
    (fun xs h st q => jm [0, 0, 0] _ (fun q => apS_ok [1, 2] _ (fun st => Ev (d + 1) none mX8_isWholeWithin (0, 0) 10 [.null, .null, .null] st h (QZ z)) st (fun s0 s1 q => tX8_isWholeWithin_10 s0 s1 h q) q) q)
    (fun _ _ _ q => nos q)
    kRZ_ok (Or.inr rfl) (by decide +kernel) (by decide +kernel) hf
def wX8_isWholeWithin_0 : List En := [(.aload_n 0, 0, 0, 0), (.getfield 70, 15, 8, 12), (.iconst 3, 0, 0, 0), (.if_icmp .eq 9, 14, 0, 0)]
def fX8_isWholeWithin_0 (v0 : Nat) (v1 : Int32) (v2 : Int32) (h : aH) : Option (Int32 × aH) :=
  (gFI h 8 v0 12).bind fun t1 =>
  if t1 = (kI 3) then fX8_isWholeWithin_14 v0 v1 v2 h else fX8_isWholeWithin_8 v0 h
theorem tX8_isWholeWithin_0 {d : Nat} {z : Int32 × aH} (v0 : Nat) (v1 : Int32) (v2 : Int32) (h : aH) (hf : fX8_isWholeWithin_0 v0 v1 v2 h = some z) : Ev (d + 1) none mX8_isWholeWithin (0, 0) 0 [.ref v0, .int v1, .int v2] [] h (QZ z) := 
  go_ok (X := none) (blk := wX8_isWholeWithin_0) (np := 8) (tt := 14) (kN := fun xs h st => app [2, 0, 0] (fun v0 => apS [] (fX8_isWholeWithin_8 v0 h) st) xs) (kT := fun xs h st => app [2, 1, 1] (fun v0 v1 v2 => apS [] (fX8_isWholeWithin_14 v0 v1 v2 h) st) xs) (kR := kRZ)
    (fun xs h st q => jm [2, 0, 0] _ (fun v0 q => apS_ok [] _ (fun st => Ev (d + 1) none mX8_isWholeWithin (0, 0) 8 [.ref v0, .null, .null] st h (QZ z)) st (fun q => tX8_isWholeWithin_8 v0 h q) q) q)
    (fun xs h st q => jm [2, 1, 1] _ (fun v0 v1 v2 q => apS_ok [] _ (fun st => Ev (d + 1) none mX8_isWholeWithin (0, 0) 14 [.ref v0, .int v1, .int v2] st h (QZ z)) st (fun q => tX8_isWholeWithin_14 v0 v1 v2 h q) q) q)
    kRZ_ok (Or.inr rfl) (by decide +kernel) (by decide +kernel) hf
def gX8_isWholeWithin (v0 : Nat) (v1 : Int32) (v2 : Int32) (h : aH) : Option (Int32 × aH) := fX8_isWholeWithin_0 v0 v1 v2 h
theorem zX8_isWholeWithin {d : Nat} {z : Int32 × aH} {v0 : Nat} {v1 : Int32} {v2 : Int32} {h : aH} (q : gX8_isWholeWithin v0 v1 v2 h = some z) : CT (d + 1) mX8_isWholeWithin (0, 0) [.ref v0, .int v1, .int v2] h (QZ z) :=
  ct_ev (by decide +kernel) (Nat.le_of_ble_eq_true rfl) QZ_r (jm [2, 1, 1] (fun v0 v1 v2 => fX8_isWholeWithin_0 v0 v1 v2 h) (fun v0 v1 v2 q => tX8_isWholeWithin_0 v0 v1 v2 h q) q)
def wX8_isDigit_17 : List En := [(.ireturn, 0, 0, 0)]
def fX8_isDigit_17 (s0 : Int32) (h : aH) : Option (Int32 × aH) :=
  if s0 = 0 ∨ s0 = 1 then some (s0, h) else none
theorem tX8_isDigit_17 {d : Nat} {z : Int32 × aH} (s0 : Int32) (h : aH) (hf : fX8_isDigit_17 s0 h = some z) : Ev (d + 0) none mX8_isDigit (0, 0) 17 [.null] [.int s0] h (QZ z) := 
  go_ok (X := none) (blk := wX8_isDigit_17) (np := 18) (tt := 0) (kN := fun _ _ _ => none) (kT := fun _ _ _ => none) (kR := kRZ)
    (fun _ _ _ q => nos q)
    (fun _ _ _ q => nos q)
    kRZ_ok (Or.inr rfl) (by decide +kernel) (by decide +kernel) hf
def wX8_isDigit_16 : List En := [(.iconst 0, 0, 0, 0)]
def fX8_isDigit_16 (h : aH) : Option (Int32 × aH) :=
  fX8_isDigit_17 (kI 0) h
theorem tX8_isDigit_16 {d : Nat} {z : Int32 × aH} (h : aH) (hf : fX8_isDigit_16 h = some z) : Ev (d + 0) none mX8_isDigit (0, 0) 16 [.null] [] h (QZ z) := 
  go_ok (X := none) (blk := wX8_isDigit_16) (np := 17) (tt := 0) (kN := fun xs h st => app [0] (apS [1] (fun s0 => fX8_isDigit_17 s0 h) st) xs) (kT := fun _ _ _ => none) (kR := kRZ)
    (fun xs h st q => jm [0] _ (fun q => apS_ok [1] _ (fun st => Ev (d + 0) none mX8_isDigit (0, 0) 17 [.null] st h (QZ z)) st (fun s0 q => tX8_isDigit_17 s0 h q) q) q)
    (fun _ _ _ q => nos q)
    kRZ_ok (Or.inr rfl) (by decide +kernel) (by decide +kernel) hf
def wX8_isDigit_12 : List En := [(.iconst 1, 0, 0, 0), (.goto 4, 17, 0, 0)]
def fX8_isDigit_12 (h : aH) : Option (Int32 × aH) :=
  fX8_isDigit_17 (kI 1) h
theorem tX8_isDigit_12 {d : Nat} {z : Int32 × aH} (h : aH) (hf : fX8_isDigit_12 h = some z) : Ev (d + 0) none mX8_isDigit (0, 0) 12 [.null] [] h (QZ z) := 
  go_ok (X := none) (blk := wX8_isDigit_12) (np := 16) (tt := 17) (kN := fun _ _ _ => none) (kT := fun xs h st => app [0] (apS [1] (fun s0 => fX8_isDigit_17 s0 h) st) xs) (kR := kRZ)
    (fun _ _ _ q => nos q)
    (fun xs h st q => jm [0] _ (fun q => apS_ok [1] _ (fun st => Ev (d + 0) none mX8_isDigit (0, 0) 17 [.null] st h (QZ z)) st (fun s0 q => tX8_isDigit_17 s0 h q) q) q)
    kRZ_ok (Or.inr rfl) (by decide +kernel) (by decide +kernel) hf
def wX8_isDigit_6 : List En := [(.iload_n 0, 0, 0, 0), (.bipush 57, 0, 0, 0), (.if_icmp .gt 7, 16, 0, 0)]
def fX8_isDigit_6 (v0 : Int32) (h : aH) : Option (Int32 × aH) :=
  if (kB 57) < v0 then fX8_isDigit_16 h else fX8_isDigit_12 h
theorem tX8_isDigit_6 {d : Nat} {z : Int32 × aH} (v0 : Int32) (h : aH) (hf : fX8_isDigit_6 v0 h = some z) : Ev (d + 0) none mX8_isDigit (0, 0) 6 [.int v0] [] h (QZ z) := 
  go_ok (X := none) (blk := wX8_isDigit_6) (np := 12) (tt := 16) (kN := fun xs h st => app [0] (apS [] (fX8_isDigit_12 h) st) xs) (kT := fun xs h st => app [0] (apS [] (fX8_isDigit_16 h) st) xs) (kR := kRZ)
    (fun xs h st q => jm [0] _ (fun q => apS_ok [] _ (fun st => Ev (d + 0) none mX8_isDigit (0, 0) 12 [.null] st h (QZ z)) st (fun q => tX8_isDigit_12 h q) q) q)
    (fun xs h st q => jm [0] _ (fun q => apS_ok [] _ (fun st => Ev (d + 0) none mX8_isDigit (0, 0) 16 [.null] st h (QZ z)) st (fun q => tX8_isDigit_16 h q) q) q)
    kRZ_ok (Or.inr rfl) (by decide +kernel) (by decide +kernel) hf
def wX8_isDigit_0 : List En := [(.iload_n 0, 0, 0, 0), (.bipush 48, 0, 0, 0), (.if_icmp .lt 13, 16, 0, 0)]
def fX8_isDigit_0 (v0 : Int32) (h : aH) : Option (Int32 × aH) :=
  if v0 < (kB 48) then fX8_isDigit_16 h else fX8_isDigit_6 v0 h
theorem tX8_isDigit_0 {d : Nat} {z : Int32 × aH} (v0 : Int32) (h : aH) (hf : fX8_isDigit_0 v0 h = some z) : Ev (d + 0) none mX8_isDigit (0, 0) 0 [.int v0] [] h (QZ z) := 
  go_ok (X := none) (blk := wX8_isDigit_0) (np := 6) (tt := 16) (kN := fun xs h st => app [1] (fun v0 => apS [] (fX8_isDigit_6 v0 h) st) xs) (kT := fun xs h st => app [0] (apS [] (fX8_isDigit_16 h) st) xs) (kR := kRZ)
    (fun xs h st q => jm [1] _ (fun v0 q => apS_ok [] _ (fun st => Ev (d + 0) none mX8_isDigit (0, 0) 6 [.int v0] st h (QZ z)) st (fun q => tX8_isDigit_6 v0 h q) q) q)
    (fun xs h st q => jm [0] _ (fun q => apS_ok [] _ (fun st => Ev (d + 0) none mX8_isDigit (0, 0) 16 [.null] st h (QZ z)) st (fun q => tX8_isDigit_16 h q) q) q)
    kRZ_ok (Or.inr rfl) (by decide +kernel) (by decide +kernel) hf
def gX8_isDigit (v0 : Int32) (h : aH) : Option (Int32 × aH) := fX8_isDigit_0 v0 h
theorem zX8_isDigit {d : Nat} {z : Int32 × aH} {v0 : Int32} {h : aH} (q : gX8_isDigit v0 h = some z) : CT (d + 0) mX8_isDigit (0, 0) [.int v0] h (QZ z) :=
  ct_ev (by decide +kernel) (Nat.le_of_ble_eq_true rfl) QZ_r (jm [1] (fun v0 => fX8_isDigit_0 v0 h) (fun v0 q => tX8_isDigit_0 v0 h q) q)
def wX8_isLetter_17 : List En := [(.ireturn, 0, 0, 0)]
def fX8_isLetter_17 (s0 : Int32) (h : aH) : Option (Int32 × aH) :=
  if s0 = 0 ∨ s0 = 1 then some (s0, h) else none
theorem tX8_isLetter_17 {d : Nat} {z : Int32 × aH} (s0 : Int32) (h : aH) (hf : fX8_isLetter_17 s0 h = some z) : Ev (d + 0) none mX8_isLetter (0, 0) 17 [.null] [.int s0] h (QZ z) := 
  go_ok (X := none) (blk := wX8_isLetter_17) (np := 18) (tt := 0) (kN := fun _ _ _ => none) (kT := fun _ _ _ => none) (kR := kRZ)
    (fun _ _ _ q => nos q)
    (fun _ _ _ q => nos q)
    kRZ_ok (Or.inr rfl) (by decide +kernel) (by decide +kernel) hf
def wX8_isLetter_16 : List En := [(.iconst 0, 0, 0, 0)]
def fX8_isLetter_16 (h : aH) : Option (Int32 × aH) :=
  fX8_isLetter_17 (kI 0) h
theorem tX8_isLetter_16 {d : Nat} {z : Int32 × aH} (h : aH) (hf : fX8_isLetter_16 h = some z) : Ev (d + 0) none mX8_isLetter (0, 0) 16 [.null] [] h (QZ z) := 
  go_ok (X := none) (blk := wX8_isLetter_16) (np := 17) (tt := 0) (kN := fun xs h st => app [0] (apS [1] (fun s0 => fX8_isLetter_17 s0 h) st) xs) (kT := fun _ _ _ => none) (kR := kRZ)
    (fun xs h st q => jm [0] _ (fun q => apS_ok [1] _ (fun st => Ev (d + 0) none mX8_isLetter (0, 0) 17 [.null] st h (QZ z)) st (fun s0 q => tX8_isLetter_17 s0 h q) q) q)
    (fun _ _ _ q => nos q)
    kRZ_ok (Or.inr rfl) (by decide +kernel) (by decide +kernel) hf
def wX8_isLetter_12 : List En := [(.iconst 1, 0, 0, 0), (.goto 4, 17, 0, 0)]
def fX8_isLetter_12 (h : aH) : Option (Int32 × aH) :=
  fX8_isLetter_17 (kI 1) h
theorem tX8_isLetter_12 {d : Nat} {z : Int32 × aH} (h : aH) (hf : fX8_isLetter_12 h = some z) : Ev (d + 0) none mX8_isLetter (0, 0) 12 [.null] [] h (QZ z) := 
  go_ok (X := none) (blk := wX8_isLetter_12) (np := 16) (tt := 17) (kN := fun _ _ _ => none) (kT := fun xs h st => app [0] (apS [1] (fun s0 => fX8_isLetter_17 s0 h) st) xs) (kR := kRZ)
    (fun _ _ _ q => nos q)
    (fun xs h st q => jm [0] _ (fun q => apS_ok [1] _ (fun st => Ev (d + 0) none mX8_isLetter (0, 0) 17 [.null] st h (QZ z)) st (fun s0 q => tX8_isLetter_17 s0 h q) q) q)
    kRZ_ok (Or.inr rfl) (by decide +kernel) (by decide +kernel) hf
def wX8_isLetter_6 : List En := [(.iload_n 0, 0, 0, 0), (.bipush 122, 0, 0, 0), (.if_icmp .gt 7, 16, 0, 0)]
def fX8_isLetter_6 (v0 : Int32) (h : aH) : Option (Int32 × aH) :=
  if (kB 122) < v0 then fX8_isLetter_16 h else fX8_isLetter_12 h
theorem tX8_isLetter_6 {d : Nat} {z : Int32 × aH} (v0 : Int32) (h : aH) (hf : fX8_isLetter_6 v0 h = some z) : Ev (d + 0) none mX8_isLetter (0, 0) 6 [.int v0] [] h (QZ z) := 
  go_ok (X := none) (blk := wX8_isLetter_6) (np := 12) (tt := 16) (kN := fun xs h st => app [0] (apS [] (fX8_isLetter_12 h) st) xs) (kT := fun xs h st => app [0] (apS [] (fX8_isLetter_16 h) st) xs) (kR := kRZ)
    (fun xs h st q => jm [0] _ (fun q => apS_ok [] _ (fun st => Ev (d + 0) none mX8_isLetter (0, 0) 12 [.null] st h (QZ z)) st (fun q => tX8_isLetter_12 h q) q) q)
    (fun xs h st q => jm [0] _ (fun q => apS_ok [] _ (fun st => Ev (d + 0) none mX8_isLetter (0, 0) 16 [.null] st h (QZ z)) st (fun q => tX8_isLetter_16 h q) q) q)
    kRZ_ok (Or.inr rfl) (by decide +kernel) (by decide +kernel) hf
def wX8_isLetter_0 : List En := [(.iload_n 0, 0, 0, 0), (.bipush 97, 0, 0, 0), (.if_icmp .lt 13, 16, 0, 0)]
def fX8_isLetter_0 (v0 : Int32) (h : aH) : Option (Int32 × aH) :=
  if v0 < (kB 97) then fX8_isLetter_16 h else fX8_isLetter_6 v0 h
theorem tX8_isLetter_0 {d : Nat} {z : Int32 × aH} (v0 : Int32) (h : aH) (hf : fX8_isLetter_0 v0 h = some z) : Ev (d + 0) none mX8_isLetter (0, 0) 0 [.int v0] [] h (QZ z) := 
  go_ok (X := none) (blk := wX8_isLetter_0) (np := 6) (tt := 16) (kN := fun xs h st => app [1] (fun v0 => apS [] (fX8_isLetter_6 v0 h) st) xs) (kT := fun xs h st => app [0] (apS [] (fX8_isLetter_16 h) st) xs) (kR := kRZ)
    (fun xs h st q => jm [1] _ (fun v0 q => apS_ok [] _ (fun st => Ev (d + 0) none mX8_isLetter (0, 0) 6 [.int v0] st h (QZ z)) st (fun q => tX8_isLetter_6 v0 h q) q) q)
    (fun xs h st q => jm [0] _ (fun q => apS_ok [] _ (fun st => Ev (d + 0) none mX8_isLetter (0, 0) 16 [.null] st h (QZ z)) st (fun q => tX8_isLetter_16 h q) q) q)
    kRZ_ok (Or.inr rfl) (by decide +kernel) (by decide +kernel) hf
def gX8_isLetter (v0 : Int32) (h : aH) : Option (Int32 × aH) := fX8_isLetter_0 v0 h
theorem zX8_isLetter {d : Nat} {z : Int32 × aH} {v0 : Int32} {h : aH} (q : gX8_isLetter v0 h = some z) : CT (d + 0) mX8_isLetter (0, 0) [.int v0] h (QZ z) :=
  ct_ev (by decide +kernel) (Nat.le_of_ble_eq_true rfl) QZ_r (jm [1] (fun v0 => fX8_isLetter_0 v0 h) (fun v0 q => tX8_isLetter_0 v0 h q) q)
def wX8_takeWhole_114 : List En := [(.return_, 0, 0, 0)]
def fX8_takeWhole_114 (h : aH) : Option (aH) :=
  some h
theorem tX8_takeWhole_114 {d : Nat} {z : aH} (h : aH) (hf : fX8_takeWhole_114 h = some z) : Ev (d + 1) none mX8_takeWhole (0, 0) 114 [.null, .null] [] h (QV z) := 
  go_ok (X := none) (blk := wX8_takeWhole_114) (np := 115) (tt := 0) (kN := fun _ _ _ => none) (kT := fun _ _ _ => none) (kR := kRV)
    (fun _ _ _ q => nos q)
    (fun _ _ _ q => nos q)
    kRV_ok (Or.inr rfl) (by decide +kernel) (by decide +kernel) hf
def wX8_takeWhole_87 : List En := [(.aload_n 0, 0, 0, 0), (.aload_n 0, 0, 0, 0), (.getfield 127, 16, 8, 13), (.bipush 10, 0, 0, 0), (.imul, 0, 0, 0), (.aload_n 0, 0, 0, 0), (.getfield 9, 6, 8, 3), (.iload_n 1, 0, 0, 0), (.baload, 0, 0, 0), (.iadd, 0, 0, 0), (.bipush 48, 0, 0, 0), (.isub, 0, 0, 0), (.putfield 127, 16, 8, 13), (.iinc 1 1, 0, 0, 0), (.goto (-40), 71, 0, 0)]
def fX8_takeWhole_87 (k71 : Nat → Int32 → aH → Option (aH)) (v0 : Nat) (v1 : Int32) (h : aH) : Option (aH) :=
  (gFI h 8 v0 13).bind fun t1 =>
  (gFR h 8 v0 3).bind fun t2 =>
  (aRB (h[t2]?) v1).bind fun t3 =>
  (pWV h 8 v0 13 (.int (((t1 * (kB 10)) + t3) - (kB 48)))).bind fun h4 =>
  k71 v0 (v1 + kI 1) h4
theorem tX8_takeWhole_87 {d : Nat} {z : aH} {k71 : Nat → Int32 → aH → Option (aH)} (hk71 : ∀ (v0 : Nat) (v1 : Int32) (h : aH), k71 v0 v1 h = some z → Ev (d + 1) none mX8_takeWhole (0, 0) 71 [.ref v0, .int v1] [] h (QV z)) (v0 : Nat) (v1 : Int32) (h : aH) (hf : fX8_takeWhole_87 k71 v0 v1 h = some z) : Ev (d + 1) none mX8_takeWhole (0, 0) 87 [.ref v0, .int v1] [] h (QV z) := 
  go_ok (X := none) (blk := wX8_takeWhole_87) (np := 114) (tt := 71) (kN := fun _ _ _ => none) (kT := fun xs h st => app [2, 1] (fun v0 v1 => apS [] (k71 v0 v1 h) st) xs) (kR := kRV)
    (fun _ _ _ q => nos q)
    (fun xs h st q => jm [2, 1] _ (fun v0 v1 q => apS_ok [] _ (fun st => Ev (d + 1) none mX8_takeWhole (0, 0) 71 [.ref v0, .int v1] st h (QV z)) st (fun q => hk71 v0 v1 h q) q) q)
    kRV_ok (Or.inr rfl) (by decide +kernel) (by decide +kernel) hf
def wX8_takeWhole_79 : List En := [(.aload_n 0, 0, 0, 0), (.getfield 70, 15, 8, 12), (.iconst 3, 0, 0, 0), (.if_icmp .ne 30, 114, 0, 0)]
def fX8_takeWhole_79 (k71 : Nat → Int32 → aH → Option (aH)) (v0 : Nat) (v1 : Int32) (h : aH) : Option (aH) :=
  (gFI h 8 v0 12).bind fun t1 =>
  if t1 = (kI 3) then fX8_takeWhole_87 k71 v0 v1 h else fX8_takeWhole_114 h
theorem tX8_takeWhole_79 {d : Nat} {z : aH} {k71 : Nat → Int32 → aH → Option (aH)} (hk71 : ∀ (v0 : Nat) (v1 : Int32) (h : aH), k71 v0 v1 h = some z → Ev (d + 1) none mX8_takeWhole (0, 0) 71 [.ref v0, .int v1] [] h (QV z)) (v0 : Nat) (v1 : Int32) (h : aH) (hf : fX8_takeWhole_79 k71 v0 v1 h = some z) : Ev (d + 1) none mX8_takeWhole (0, 0) 79 [.ref v0, .int v1] [] h (QV z) := 
  go_ok (X := none) (blk := wX8_takeWhole_79) (np := 87) (tt := 114) (kN := fun xs h st => app [2, 1] (fun v0 v1 => apS [] (fX8_takeWhole_87 k71 v0 v1 h) st) xs) (kT := fun xs h st => app [0, 0] (apS [] (fX8_takeWhole_114 h) st) xs) (kR := kRV)
    (fun xs h st q => jm [2, 1] _ (fun v0 v1 q => apS_ok [] _ (fun st => Ev (d + 1) none mX8_takeWhole (0, 0) 87 [.ref v0, .int v1] st h (QV z)) st (fun q => tX8_takeWhole_87 hk71 v0 v1 h q) q) q)
    (fun xs h st q => jm [0, 0] _ (fun q => apS_ok [] _ (fun st => Ev (d + 1) none mX8_takeWhole (0, 0) 114 [.null, .null] st h (QV z)) st (fun q => tX8_takeWhole_114 h q) q) q)
    kRV_ok (Or.inr rfl) (by decide +kernel) (by decide +kernel) hf
def wX8_takeWhole_71 : List En := [(.iload_n 1, 0, 0, 0), (.aload_n 0, 0, 0, 0), (.getfield 47, 14, 8, 11), (.if_icmp .ge 38, 114, 0, 0)]
def fX8_takeWhole_71 (k71 : Nat → Int32 → aH → Option (aH)) (v0 : Nat) (v1 : Int32) (h : aH) : Option (aH) :=
  (gFI h 8 v0 11).bind fun t1 =>
  if v1 < t1 then fX8_takeWhole_79 k71 v0 v1 h else fX8_takeWhole_114 h
theorem tX8_takeWhole_71 {d : Nat} {z : aH} {k71 : Nat → Int32 → aH → Option (aH)} (hk71 : ∀ (v0 : Nat) (v1 : Int32) (h : aH), k71 v0 v1 h = some z → Ev (d + 1) none mX8_takeWhole (0, 0) 71 [.ref v0, .int v1] [] h (QV z)) (v0 : Nat) (v1 : Int32) (h : aH) (hf : fX8_takeWhole_71 k71 v0 v1 h = some z) : Ev (d + 1) none mX8_takeWhole (0, 0) 71 [.ref v0, .int v1] [] h (QV z) := 
  go_ok (X := none) (blk := wX8_takeWhole_71) (np := 79) (tt := 114) (kN := fun xs h st => app [2, 1] (fun v0 v1 => apS [] (fX8_takeWhole_79 k71 v0 v1 h) st) xs) (kT := fun xs h st => app [0, 0] (apS [] (fX8_takeWhole_114 h) st) xs) (kR := kRV)
    (fun xs h st q => jm [2, 1] _ (fun v0 v1 q => apS_ok [] _ (fun st => Ev (d + 1) none mX8_takeWhole (0, 0) 79 [.ref v0, .int v1] st h (QV z)) st (fun q => tX8_takeWhole_79 hk71 v0 v1 h q) q) q)
    (fun xs h st q => jm [0, 0] _ (fun q => apS_ok [] _ (fun st => Ev (d + 1) none mX8_takeWhole (0, 0) 114 [.null, .null] st h (QV z)) st (fun q => tX8_takeWhole_114 h q) q) q)
    kRV_ok (Or.inr rfl) (by decide +kernel) (by decide +kernel) hf
def lX8_takeWhole_71 : Nat → Nat → Int32 → aH → Option (aH)
  | 0, _, _, _ => none
  | n + 1, v0, v1, h => fX8_takeWhole_71 (lX8_takeWhole_71 n) v0 v1 h
theorem uX8_takeWhole_71 {d : Nat} {z : aH} : ∀ (n : Nat) (v0 : Nat) (v1 : Int32) (h : aH), lX8_takeWhole_71 n v0 v1 h = some z → Ev (d + 1) none mX8_takeWhole (0, 0) 71 [.ref v0, .int v1] [] h (QV z) := by
  intro n
  induction n with
  | zero => intro _ _ _ q; exact nos (show (none : Option (aH)) = some z from q)
  | succ n ih => intro v0 v1 h q; exact tX8_takeWhole_71 ih v0 v1 h q
def wX8_takeWhole_58 : List En := [(.putfield 70, 15, 8, 12), (.aload_n 0, 0, 0, 0), (.iconst 0, 0, 0, 0), (.putfield 127, 16, 8, 13), (.aload_n 0, 0, 0, 0), (.getfield 211, 13, 8, 10), (.istore_n 1, 0, 0, 0)]
def fX8_takeWhole_58 (v0 : Nat) (s0 : Int32) (s1 : Nat) (h : aH) : Option (aH) :=
  (pWV h 8 s1 12 (.int s0)).bind fun h1 =>
  (pWV h1 8 v0 13 (.int (kI 0))).bind fun h2 =>
  (gFI h2 8 v0 10).bind fun t3 =>
  lX8_takeWhole_71 FU v0 t3 h2
theorem tX8_takeWhole_58 {d : Nat} {z : aH} (v0 : Nat) (s0 : Int32) (s1 : Nat) (h : aH) (hf : fX8_takeWhole_58 v0 s0 s1 h = some z) : Ev (d + 1) none mX8_takeWhole (0, 0) 58 [.ref v0, .null] [.int s0, .ref s1] h (QV z) := 
  go_ok (X := none) (blk := wX8_takeWhole_58) (np := 71) (tt := 0) (kN := fun xs h st => app [2, 1] (fun v0 v1 => apS [] (lX8_takeWhole_71 FU v0 v1 h) st) xs) (kT := fun _ _ _ => none) (kR := kRV)
    (fun xs h st q => jm [2, 1] _ (fun v0 v1 q => apS_ok [] _ (fun st => Ev (d + 1) none mX8_takeWhole (0, 0) 71 [.ref v0, .int v1] st h (QV z)) st (fun q => uX8_takeWhole_71 FU v0 v1 h q) q) q)
    (fun _ _ _ q => nos q)
    kRV_ok (Or.inr rfl) (by decide +kernel) (by decide +kernel) hf
def wX8_takeWhole_57 : List En := [(.iconst 1, 0, 0, 0)]
def fX8_takeWhole_57 (v0 : Nat) (s0 : Nat) (h : aH) : Option (aH) :=
  fX8_takeWhole_58 v0 (kI 1) s0 h
theorem tX8_takeWhole_57 {d : Nat} {z : aH} (v0 : Nat) (s0 : Nat) (h : aH) (hf : fX8_takeWhole_57 v0 s0 h = some z) : Ev (d + 1) none mX8_takeWhole (0, 0) 57 [.ref v0, .null] [.ref s0] h (QV z) := 
  go_ok (X := none) (blk := wX8_takeWhole_57) (np := 58) (tt := 0) (kN := fun xs h st => app [2, 0] (fun v0 => apS [1, 2] (fun s0 s1 => fX8_takeWhole_58 v0 s0 s1 h) st) xs) (kT := fun _ _ _ => none) (kR := kRV)
    (fun xs h st q => jm [2, 0] _ (fun v0 q => apS_ok [1, 2] _ (fun st => Ev (d + 1) none mX8_takeWhole (0, 0) 58 [.ref v0, .null] st h (QV z)) st (fun s0 s1 q => tX8_takeWhole_58 v0 s0 s1 h q) q) q)
    (fun _ _ _ q => nos q)
    kRV_ok (Or.inr rfl) (by decide +kernel) (by decide +kernel) hf
def wX8_takeWhole_53 : List En := [(.iconst 3, 0, 0, 0), (.goto 4, 58, 0, 0)]
def fX8_takeWhole_53 (v0 : Nat) (s0 : Nat) (h : aH) : Option (aH) :=
  fX8_takeWhole_58 v0 (kI 3) s0 h
theorem tX8_takeWhole_53 {d : Nat} {z : aH} (v0 : Nat) (s0 : Nat) (h : aH) (hf : fX8_takeWhole_53 v0 s0 h = some z) : Ev (d + 1) none mX8_takeWhole (0, 0) 53 [.ref v0, .null] [.ref s0] h (QV z) := 
  go_ok (X := none) (blk := wX8_takeWhole_53) (np := 57) (tt := 58) (kN := fun _ _ _ => none) (kT := fun xs h st => app [2, 0] (fun v0 => apS [1, 2] (fun s0 s1 => fX8_takeWhole_58 v0 s0 s1 h) st) xs) (kR := kRV)
    (fun _ _ _ q => nos q)
    (fun xs h st q => jm [2, 0] _ (fun v0 q => apS_ok [1, 2] _ (fun st => Ev (d + 1) none mX8_takeWhole (0, 0) 58 [.ref v0, .null] st h (QV z)) st (fun s0 s1 q => tX8_takeWhole_58 v0 s0 s1 h q) q) q)
    kRV_ok (Or.inr rfl) (by decide +kernel) (by decide +kernel) hf
def wX8_takeWhole_39 : List En := [(.aload_n 0, 0, 0, 0), (.aload_n 0, 0, 0, 0), (.getfield 47, 14, 8, 11), (.aload_n 0, 0, 0, 0), (.getfield 211, 13, 8, 10), (.isub, 0, 0, 0), (.iconst 3, 0, 0, 0), (.if_icmp .gt 7, 57, 0, 0)]
def fX8_takeWhole_39 (v0 : Nat) (h : aH) : Option (aH) :=
  (gFI h 8 v0 11).bind fun t1 =>
  (gFI h 8 v0 10).bind fun t2 =>
  if (kI 3) < (t1 - t2) then fX8_takeWhole_57 v0 v0 h else fX8_takeWhole_53 v0 v0 h
theorem tX8_takeWhole_39 {d : Nat} {z : aH} (v0 : Nat) (h : aH) (hf : fX8_takeWhole_39 v0 h = some z) : Ev (d + 1) none mX8_takeWhole (0, 0) 39 [.ref v0, .null] [] h (QV z) := 
  go_ok (X := none) (blk := wX8_takeWhole_39) (np := 53) (tt := 57) (kN := fun xs h st => app [2, 0] (fun v0 => apS [2] (fun s0 => fX8_takeWhole_53 v0 s0 h) st) xs) (kT := fun xs h st => app [2, 0] (fun v0 => apS [2] (fun s0 => fX8_takeWhole_57 v0 s0 h) st) xs) (kR := kRV)
    (fun xs h st q => jm [2, 0] _ (fun v0 q => apS_ok [2] _ (fun st => Ev (d + 1) none mX8_takeWhole (0, 0) 53 [.ref v0, .null] st h (QV z)) st (fun s0 q => tX8_takeWhole_53 v0 s0 h q) q) q)
    (fun xs h st q => jm [2, 0] _ (fun v0 q => apS_ok [2] _ (fun st => Ev (d + 1) none mX8_takeWhole (0, 0) 57 [.ref v0, .null] st h (QV z)) st (fun s0 q => tX8_takeWhole_57 v0 s0 h q) q) q)
    kRV_ok (Or.inr rfl) (by decide +kernel) (by decide +kernel) hf
def wX8_takeWhole_26 : List En := [(.aload_n 0, 0, 0, 0), (.dup, 0, 0, 0), (.getfield 47, 14, 8, 11), (.iconst 1, 0, 0, 0), (.iadd, 0, 0, 0), (.putfield 47, 14, 8, 11), (.goto (-36), 0, 0, 0)]
def fX8_takeWhole_26 (k0 : Nat → aH → Option (aH)) (v0 : Nat) (h : aH) : Option (aH) :=
  (gFI h 8 v0 11).bind fun t1 =>
  (pWV h 8 v0 11 (.int (t1 + (kI 1)))).bind fun h2 =>
  k0 v0 h2
theorem tX8_takeWhole_26 {d : Nat} {z : aH} {k0 : Nat → aH → Option (aH)} (hk0 : ∀ (v0 : Nat) (h : aH), k0 v0 h = some z → Ev (d + 1) none mX8_takeWhole (0, 0) 0 [.ref v0, .null] [] h (QV z)) (v0 : Nat) (h : aH) (hf : fX8_takeWhole_26 k0 v0 h = some z) : Ev (d + 1) none mX8_takeWhole (0, 0) 26 [.ref v0, .null] [] h (QV z) := 
  go_ok (X := none) (blk := wX8_takeWhole_26) (np := 39) (tt := 0) (kN := fun _ _ _ => none) (kT := fun xs h st => app [2, 0] (fun v0 => apS [] (k0 v0 h) st) xs) (kR := kRV)
    (fun _ _ _ q => nos q)
    (fun xs h st q => jm [2, 0] _ (fun v0 q => apS_ok [] _ (fun st => Ev (d + 1) none mX8_takeWhole (0, 0) 0 [.ref v0, .null] st h (QV z)) st (fun q => hk0 v0 h q) q) q)
    kRV_ok (Or.inr rfl) (by decide +kernel) (by decide +kernel) hf
def wX8_takeWhole_23 : List En := [(.ifCond .eq 16, 39, 0, 0)]
def fX8_takeWhole_23 (k0 : Nat → aH → Option (aH)) (v0 : Nat) (s0 : Int32) (h : aH) : Option (aH) :=
  if s0 = 0 then fX8_takeWhole_39 v0 h else fX8_takeWhole_26 k0 v0 h
theorem tX8_takeWhole_23 {d : Nat} {z : aH} {k0 : Nat → aH → Option (aH)} (hk0 : ∀ (v0 : Nat) (h : aH), k0 v0 h = some z → Ev (d + 1) none mX8_takeWhole (0, 0) 0 [.ref v0, .null] [] h (QV z)) (v0 : Nat) (s0 : Int32) (h : aH) (hf : fX8_takeWhole_23 k0 v0 s0 h = some z) : Ev (d + 1) none mX8_takeWhole (0, 0) 23 [.ref v0, .null] [.int s0] h (QV z) := 
  go_ok (X := none) (blk := wX8_takeWhole_23) (np := 26) (tt := 39) (kN := fun xs h st => app [2, 0] (fun v0 => apS [] (fX8_takeWhole_26 k0 v0 h) st) xs) (kT := fun xs h st => app [2, 0] (fun v0 => apS [] (fX8_takeWhole_39 v0 h) st) xs) (kR := kRV)
    (fun xs h st q => jm [2, 0] _ (fun v0 q => apS_ok [] _ (fun st => Ev (d + 1) none mX8_takeWhole (0, 0) 26 [.ref v0, .null] st h (QV z)) st (fun q => tX8_takeWhole_26 hk0 v0 h q) q) q)
    (fun xs h st q => jm [2, 0] _ (fun v0 q => apS_ok [] _ (fun st => Ev (d + 1) none mX8_takeWhole (0, 0) 39 [.ref v0, .null] st h (QV z)) st (fun q => tX8_takeWhole_39 v0 h q) q) q)
    kRV_ok (Or.inr rfl) (by decide +kernel) (by decide +kernel) hf
theorem kqX8_takeWhole_20 : okC mX8_takeWhole 20 (.invokestatic 249) 21 14 1 1 = true := by decide +kernel
def fX8_takeWhole_20 (k0 : Nat → aH → Option (aH)) (v0 : Nat) (s0 : Int32) (h : aH) : Option (aH) :=
  (gX8_isDigit s0 h).bind fun r =>
  fX8_takeWhole_23 k0 v0 r.1 r.2
theorem tX8_takeWhole_20 {d : Nat} {z : aH} {k0 : Nat → aH → Option (aH)} (hk0 : ∀ (v0 : Nat) (h : aH), k0 v0 h = some z → Ev (d + 1) none mX8_takeWhole (0, 0) 0 [.ref v0, .null] [] h (QV z)) (v0 : Nat) (s0 : Int32) (h : aH) (hf : fX8_takeWhole_20 k0 v0 s0 h = some z) : Ev (d + 1) none mX8_takeWhole (0, 0) 20 [.ref v0, .null] [.int s0] h (QV z) := by
  obtain ⟨r, h2, hf⟩ := bnd hf
  refine ev_S kqX8_takeWhole_20 jX8_isDigit (zX8_isDigit (d := d + 0) h2) rfl (Nat.le_of_ble_eq_true rfl) rfl (as := [.int s0]) (rest := []) rfl (Nat.le_of_ble_eq_true rfl) (fun _ _ hq => ?_)
  obtain ⟨-, rfl, rfl⟩ := hq
  exact jm [2, 0] (fun v0 => fX8_takeWhole_23 k0 v0 r.1 r.2) (fun v0 q => tX8_takeWhole_23 hk0 v0 r.1 r.2 q) hf
def wX8_takeWhole_11 : List En := [(.aload_n 0, 0, 0, 0), (.getfield 9, 6, 8, 3), (.aload_n 0, 0, 0, 0), (.getfield 47, 14, 8, 11), (.baload, 0, 0, 0)]
def fX8_takeWhole_11 (k0 : Nat → aH → Option (aH)) (v0 : Nat) (h : aH) : Option (aH) :=
  (gFR h 8 v0 3).bind fun t1 =>
  (gFI h 8 v0 11).bind fun t2 =>
  (aRB (h[t1]?) t2).bind fun t3 =>
  fX8_takeWhole_20 k0 v0 t3 h
theorem tX8_takeWhole_11 {d : Nat} {z : aH} {k0 : Nat → aH → Option (aH)} (hk0 : ∀ (v0 : Nat) (h : aH), k0 v0 h = some z → Ev (d + 1) none mX8_takeWhole (0, 0) 0 [.ref v0, .null] [] h (QV z)) (v0 : Nat) (h : aH) (hf : fX8_takeWhole_11 k0 v0 h = some z) : Ev (d + 1) none mX8_takeWhole (0, 0) 11 [.ref v0, .null] [] h (QV z) := 
  go_ok (X := none) (blk := wX8_takeWhole_11) (np := 20) (tt := 0) (kN := fun xs h st => app [2, 0] (fun v0 => apS [1] (fun s0 => fX8_takeWhole_20 k0 v0 s0 h) st) xs) (kT := fun _ _ _ => none) (kR := kRV)
    (fun xs h st q => jm [2, 0] _ (fun v0 q => apS_ok [1] _ (fun st => Ev (d + 1) none mX8_takeWhole (0, 0) 20 [.ref v0, .null] st h (QV z)) st (fun s0 q => tX8_takeWhole_20 hk0 v0 s0 h q) q) q)
    (fun _ _ _ q => nos q)
    kRV_ok (Or.inr rfl) (by decide +kernel) (by decide +kernel) hf
def wX8_takeWhole_0 : List En := [(.aload_n 0, 0, 0, 0), (.getfield 47, 14, 8, 11), (.aload_n 0, 0, 0, 0), (.getfield 44, 12, 8, 9), (.if_icmp .ge 31, 39, 0, 0)]
def fX8_takeWhole_0 (k0 : Nat → aH → Option (aH)) (v0 : Nat) (h : aH) : Option (aH) :=
  (gFI h 8 v0 11).bind fun t1 =>
  (gFI h 8 v0 9).bind fun t2 =>
  if t1 < t2 then fX8_takeWhole_11 k0 v0 h else fX8_takeWhole_39 v0 h
theorem tX8_takeWhole_0 {d : Nat} {z : aH} {k0 : Nat → aH → Option (aH)} (hk0 : ∀ (v0 : Nat) (h : aH), k0 v0 h = some z → Ev (d + 1) none mX8_takeWhole (0, 0) 0 [.ref v0, .null] [] h (QV z)) (v0 : Nat) (h : aH) (hf : fX8_takeWhole_0 k0 v0 h = some z) : Ev (d + 1) none mX8_takeWhole (0, 0) 0 [.ref v0, .null] [] h (QV z) := 
  go_ok (X := none) (blk := wX8_takeWhole_0) (np := 11) (tt := 39) (kN := fun xs h st => app [2, 0] (fun v0 => apS [] (fX8_takeWhole_11 k0 v0 h) st) xs) (kT := fun xs h st => app [2, 0] (fun v0 => apS [] (fX8_takeWhole_39 v0 h) st) xs) (kR := kRV)
    (fun xs h st q => jm [2, 0] _ (fun v0 q => apS_ok [] _ (fun st => Ev (d + 1) none mX8_takeWhole (0, 0) 11 [.ref v0, .null] st h (QV z)) st (fun q => tX8_takeWhole_11 hk0 v0 h q) q) q)
    (fun xs h st q => jm [2, 0] _ (fun v0 q => apS_ok [] _ (fun st => Ev (d + 1) none mX8_takeWhole (0, 0) 39 [.ref v0, .null] st h (QV z)) st (fun q => tX8_takeWhole_39 v0 h q) q) q)
    kRV_ok (Or.inr rfl) (by decide +kernel) (by decide +kernel) hf
def lX8_takeWhole_0 : Nat → Nat → aH → Option (aH)
  | 0, _, _ => none
  | n + 1, v0, h => fX8_takeWhole_0 (lX8_takeWhole_0 n) v0 h
theorem uX8_takeWhole_0 {d : Nat} {z : aH} : ∀ (n : Nat) (v0 : Nat) (h : aH), lX8_takeWhole_0 n v0 h = some z → Ev (d + 1) none mX8_takeWhole (0, 0) 0 [.ref v0, .null] [] h (QV z) := by
  intro n
  induction n with
  | zero => intro _ _ q; exact nos (show (none : Option (aH)) = some z from q)
  | succ n ih => intro v0 h q; exact tX8_takeWhole_0 ih v0 h q
def gX8_takeWhole (v0 : Nat) (h : aH) : Option (aH) := lX8_takeWhole_0 FU v0 h
theorem zX8_takeWhole {d : Nat} {z : aH} {v0 : Nat} {h : aH} (q : gX8_takeWhole v0 h = some z) : CT (d + 1) mX8_takeWhole (0, 0) [.ref v0] h (QV z) :=
  ct_ev (by decide +kernel) (Nat.le_of_ble_eq_true rfl) QV_r (jm [2, 0] (fun v0 => lX8_takeWhole_0 FU v0 h) (fun v0 q => uX8_takeWhole_0 FU v0 h q) q)
def wX8_takeWord_59 : List En := [(.putfield 70, 15, 8, 12), (.return_, 0, 0, 0)]
def fX8_takeWord_59 (s0 : Int32) (s1 : Nat) (h : aH) : Option (aH) :=
  (pWV h 8 s1 12 (.int s0)).bind fun h1 =>
  some h1
theorem tX8_takeWord_59 {d : Nat} {z : aH} (s0 : Int32) (s1 : Nat) (h : aH) (hf : fX8_takeWord_59 s0 s1 h = some z) : Ev (d + 1) none mX8_takeWord (0, 0) 59 [.null] [.int s0, .ref s1] h (QV z) := 
  go_ok (X := none) (blk := wX8_takeWord_59) (np := 63) (tt := 0) (kN := fun _ _ _ => none) (kT := fun _ _ _ => none) (kR := kRV)
    (fun _ _ _ q => nos q)
    (fun _ _ _ q => nos q)
    kRV_ok (Or.inr rfl) (by decide +kernel) (by decide +kernel) hf
def wX8_takeWord_58 : List En := [(.iconst 1, 0, 0, 0)]
def fX8_takeWord_58 (s0 : Nat) (h : aH) : Option (aH) :=
  fX8_takeWord_59 (kI 1) s0 h
theorem tX8_takeWord_58 {d : Nat} {z : aH} (s0 : Nat) (h : aH) (hf : fX8_takeWord_58 s0 h = some z) : Ev (d + 1) none mX8_takeWord (0, 0) 58 [.null] [.ref s0] h (QV z) := 
  go_ok (X := none) (blk := wX8_takeWord_58) (np := 59) (tt := 0) (kN := fun xs h st => app [0] (apS [1, 2] (fun s0 s1 => fX8_takeWord_59 s0 s1 h) st) xs) (kT := fun _ _ _ => none) (kR := kRV)
    (fun xs h st q => jm [0] _ (fun q => apS_ok [1, 2] _ (fun st => Ev (d + 1) none mX8_takeWord (0, 0) 59 [.null] st h (QV z)) st (fun s0 s1 q => tX8_takeWord_59 s0 s1 h q) q) q)
    (fun _ _ _ q => nos q)
    kRV_ok (Or.inr rfl) (by decide +kernel) (by decide +kernel) hf
def wX8_takeWord_54 : List En := [(.iconst 2, 0, 0, 0), (.goto 4, 59, 0, 0)]
def fX8_takeWord_54 (s0 : Nat) (h : aH) : Option (aH) :=
  fX8_takeWord_59 (kI 2) s0 h
theorem tX8_takeWord_54 {d : Nat} {z : aH} (s0 : Nat) (h : aH) (hf : fX8_takeWord_54 s0 h = some z) : Ev (d + 1) none mX8_takeWord (0, 0) 54 [.null] [.ref s0] h (QV z) := 
  go_ok (X := none) (blk := wX8_takeWord_54) (np := 58) (tt := 59) (kN := fun _ _ _ => none) (kT := fun xs h st => app [0] (apS [1, 2] (fun s0 s1 => fX8_takeWord_59 s0 s1 h) st) xs) (kR := kRV)
    (fun _ _ _ q => nos q)
    (fun xs h st q => jm [0] _ (fun q => apS_ok [1, 2] _ (fun st => Ev (d + 1) none mX8_takeWord (0, 0) 59 [.null] st h (QV z)) st (fun s0 s1 q => tX8_takeWord_59 s0 s1 h q) q) q)
    kRV_ok (Or.inr rfl) (by decide +kernel) (by decide +kernel) hf
def wX8_takeWord_39 : List En := [(.aload_n 0, 0, 0, 0), (.aload_n 0, 0, 0, 0), (.getfield 47, 14, 8, 11), (.aload_n 0, 0, 0, 0), (.getfield 211, 13, 8, 10), (.isub, 0, 0, 0), (.bipush 8, 0, 0, 0), (.if_icmp .gt 7, 58, 0, 0)]
def fX8_takeWord_39 (v0 : Nat) (h : aH) : Option (aH) :=
  (gFI h 8 v0 11).bind fun t1 =>
  (gFI h 8 v0 10).bind fun t2 =>
  if (kB 8) < (t1 - t2) then fX8_takeWord_58 v0 h else fX8_takeWord_54 v0 h
theorem tX8_takeWord_39 {d : Nat} {z : aH} (v0 : Nat) (h : aH) (hf : fX8_takeWord_39 v0 h = some z) : Ev (d + 1) none mX8_takeWord (0, 0) 39 [.ref v0] [] h (QV z) := 
  go_ok (X := none) (blk := wX8_takeWord_39) (np := 54) (tt := 58) (kN := fun xs h st => app [0] (apS [2] (fun s0 => fX8_takeWord_54 s0 h) st) xs) (kT := fun xs h st => app [0] (apS [2] (fun s0 => fX8_takeWord_58 s0 h) st) xs) (kR := kRV)
    (fun xs h st q => jm [0] _ (fun q => apS_ok [2] _ (fun st => Ev (d + 1) none mX8_takeWord (0, 0) 54 [.null] st h (QV z)) st (fun s0 q => tX8_takeWord_54 s0 h q) q) q)
    (fun xs h st q => jm [0] _ (fun q => apS_ok [2] _ (fun st => Ev (d + 1) none mX8_takeWord (0, 0) 58 [.null] st h (QV z)) st (fun s0 q => tX8_takeWord_58 s0 h q) q) q)
    kRV_ok (Or.inr rfl) (by decide +kernel) (by decide +kernel) hf
def wX8_takeWord_26 : List En := [(.aload_n 0, 0, 0, 0), (.dup, 0, 0, 0), (.getfield 47, 14, 8, 11), (.iconst 1, 0, 0, 0), (.iadd, 0, 0, 0), (.putfield 47, 14, 8, 11), (.goto (-36), 0, 0, 0)]
def fX8_takeWord_26 (k0 : Nat → aH → Option (aH)) (v0 : Nat) (h : aH) : Option (aH) :=
  (gFI h 8 v0 11).bind fun t1 =>
  (pWV h 8 v0 11 (.int (t1 + (kI 1)))).bind fun h2 =>
  k0 v0 h2
theorem tX8_takeWord_26 {d : Nat} {z : aH} {k0 : Nat → aH → Option (aH)} (hk0 : ∀ (v0 : Nat) (h : aH), k0 v0 h = some z → Ev (d + 1) none mX8_takeWord (0, 0) 0 [.ref v0] [] h (QV z)) (v0 : Nat) (h : aH) (hf : fX8_takeWord_26 k0 v0 h = some z) : Ev (d + 1) none mX8_takeWord (0, 0) 26 [.ref v0] [] h (QV z) := 
  go_ok (X := none) (blk := wX8_takeWord_26) (np := 39) (tt := 0) (kN := fun _ _ _ => none) (kT := fun xs h st => app [2] (fun v0 => apS [] (k0 v0 h) st) xs) (kR := kRV)
    (fun _ _ _ q => nos q)
    (fun xs h st q => jm [2] _ (fun v0 q => apS_ok [] _ (fun st => Ev (d + 1) none mX8_takeWord (0, 0) 0 [.ref v0] st h (QV z)) st (fun q => hk0 v0 h q) q) q)
    kRV_ok (Or.inr rfl) (by decide +kernel) (by decide +kernel) hf
def wX8_takeWord_23 : List En := [(.ifCond .eq 16, 39, 0, 0)]
def fX8_takeWord_23 (k0 : Nat → aH → Option (aH)) (v0 : Nat) (s0 : Int32) (h : aH) : Option (aH) :=
  if s0 = 0 then fX8_takeWord_39 v0 h else fX8_takeWord_26 k0 v0 h
theorem tX8_takeWord_23 {d : Nat} {z : aH} {k0 : Nat → aH → Option (aH)} (hk0 : ∀ (v0 : Nat) (h : aH), k0 v0 h = some z → Ev (d + 1) none mX8_takeWord (0, 0) 0 [.ref v0] [] h (QV z)) (v0 : Nat) (s0 : Int32) (h : aH) (hf : fX8_takeWord_23 k0 v0 s0 h = some z) : Ev (d + 1) none mX8_takeWord (0, 0) 23 [.ref v0] [.int s0] h (QV z) := 
  go_ok (X := none) (blk := wX8_takeWord_23) (np := 26) (tt := 39) (kN := fun xs h st => app [2] (fun v0 => apS [] (fX8_takeWord_26 k0 v0 h) st) xs) (kT := fun xs h st => app [2] (fun v0 => apS [] (fX8_takeWord_39 v0 h) st) xs) (kR := kRV)
    (fun xs h st q => jm [2] _ (fun v0 q => apS_ok [] _ (fun st => Ev (d + 1) none mX8_takeWord (0, 0) 26 [.ref v0] st h (QV z)) st (fun q => tX8_takeWord_26 hk0 v0 h q) q) q)
    (fun xs h st q => jm [2] _ (fun v0 q => apS_ok [] _ (fun st => Ev (d + 1) none mX8_takeWord (0, 0) 39 [.ref v0] st h (QV z)) st (fun q => tX8_takeWord_39 v0 h q) q) q)
    kRV_ok (Or.inr rfl) (by decide +kernel) (by decide +kernel) hf
theorem kqX8_takeWord_20 : okC mX8_takeWord 20 (.invokestatic 242) 19 12 1 1 = true := by decide +kernel
def fX8_takeWord_20 (k0 : Nat → aH → Option (aH)) (v0 : Nat) (s0 : Int32) (h : aH) : Option (aH) :=
  (gX8_isLetter s0 h).bind fun r =>
  fX8_takeWord_23 k0 v0 r.1 r.2
theorem tX8_takeWord_20 {d : Nat} {z : aH} {k0 : Nat → aH → Option (aH)} (hk0 : ∀ (v0 : Nat) (h : aH), k0 v0 h = some z → Ev (d + 1) none mX8_takeWord (0, 0) 0 [.ref v0] [] h (QV z)) (v0 : Nat) (s0 : Int32) (h : aH) (hf : fX8_takeWord_20 k0 v0 s0 h = some z) : Ev (d + 1) none mX8_takeWord (0, 0) 20 [.ref v0] [.int s0] h (QV z) := by
  obtain ⟨r, h2, hf⟩ := bnd hf
  refine ev_S kqX8_takeWord_20 jX8_isLetter (zX8_isLetter (d := d + 0) h2) rfl (Nat.le_of_ble_eq_true rfl) rfl (as := [.int s0]) (rest := []) rfl (Nat.le_of_ble_eq_true rfl) (fun _ _ hq => ?_)
  obtain ⟨-, rfl, rfl⟩ := hq
  exact jm [2] (fun v0 => fX8_takeWord_23 k0 v0 r.1 r.2) (fun v0 q => tX8_takeWord_23 hk0 v0 r.1 r.2 q) hf
def wX8_takeWord_11 : List En := [(.aload_n 0, 0, 0, 0), (.getfield 9, 6, 8, 3), (.aload_n 0, 0, 0, 0), (.getfield 47, 14, 8, 11), (.baload, 0, 0, 0)]
def fX8_takeWord_11 (k0 : Nat → aH → Option (aH)) (v0 : Nat) (h : aH) : Option (aH) :=
  (gFR h 8 v0 3).bind fun t1 =>
  (gFI h 8 v0 11).bind fun t2 =>
  (aRB (h[t1]?) t2).bind fun t3 =>
  fX8_takeWord_20 k0 v0 t3 h
theorem tX8_takeWord_11 {d : Nat} {z : aH} {k0 : Nat → aH → Option (aH)} (hk0 : ∀ (v0 : Nat) (h : aH), k0 v0 h = some z → Ev (d + 1) none mX8_takeWord (0, 0) 0 [.ref v0] [] h (QV z)) (v0 : Nat) (h : aH) (hf : fX8_takeWord_11 k0 v0 h = some z) : Ev (d + 1) none mX8_takeWord (0, 0) 11 [.ref v0] [] h (QV z) := 
  go_ok (X := none) (blk := wX8_takeWord_11) (np := 20) (tt := 0) (kN := fun xs h st => app [2] (fun v0 => apS [1] (fun s0 => fX8_takeWord_20 k0 v0 s0 h) st) xs) (kT := fun _ _ _ => none) (kR := kRV)
    (fun xs h st q => jm [2] _ (fun v0 q => apS_ok [1] _ (fun st => Ev (d + 1) none mX8_takeWord (0, 0) 20 [.ref v0] st h (QV z)) st (fun s0 q => tX8_takeWord_20 hk0 v0 s0 h q) q) q)
    (fun _ _ _ q => nos q)
    kRV_ok (Or.inr rfl) (by decide +kernel) (by decide +kernel) hf
def wX8_takeWord_0 : List En := [(.aload_n 0, 0, 0, 0), (.getfield 47, 14, 8, 11), (.aload_n 0, 0, 0, 0), (.getfield 44, 12, 8, 9), (.if_icmp .ge 31, 39, 0, 0)]
def fX8_takeWord_0 (k0 : Nat → aH → Option (aH)) (v0 : Nat) (h : aH) : Option (aH) :=
  (gFI h 8 v0 11).bind fun t1 =>
  (gFI h 8 v0 9).bind fun t2 =>
  if t1 < t2 then fX8_takeWord_11 k0 v0 h else fX8_takeWord_39 v0 h
theorem tX8_takeWord_0 {d : Nat} {z : aH} {k0 : Nat → aH → Option (aH)} (hk0 : ∀ (v0 : Nat) (h : aH), k0 v0 h = some z → Ev (d + 1) none mX8_takeWord (0, 0) 0 [.ref v0] [] h (QV z)) (v0 : Nat) (h : aH) (hf : fX8_takeWord_0 k0 v0 h = some z) : Ev (d + 1) none mX8_takeWord (0, 0) 0 [.ref v0] [] h (QV z) := 
  go_ok (X := none) (blk := wX8_takeWord_0) (np := 11) (tt := 39) (kN := fun xs h st => app [2] (fun v0 => apS [] (fX8_takeWord_11 k0 v0 h) st) xs) (kT := fun xs h st => app [2] (fun v0 => apS [] (fX8_takeWord_39 v0 h) st) xs) (kR := kRV)
    (fun xs h st q => jm [2] _ (fun v0 q => apS_ok [] _ (fun st => Ev (d + 1) none mX8_takeWord (0, 0) 11 [.ref v0] st h (QV z)) st (fun q => tX8_takeWord_11 hk0 v0 h q) q) q)
    (fun xs h st q => jm [2] _ (fun v0 q => apS_ok [] _ (fun st => Ev (d + 1) none mX8_takeWord (0, 0) 39 [.ref v0] st h (QV z)) st (fun q => tX8_takeWord_39 v0 h q) q) q)
    kRV_ok (Or.inr rfl) (by decide +kernel) (by decide +kernel) hf
def lX8_takeWord_0 : Nat → Nat → aH → Option (aH)
  | 0, _, _ => none
  | n + 1, v0, h => fX8_takeWord_0 (lX8_takeWord_0 n) v0 h
theorem uX8_takeWord_0 {d : Nat} {z : aH} : ∀ (n : Nat) (v0 : Nat) (h : aH), lX8_takeWord_0 n v0 h = some z → Ev (d + 1) none mX8_takeWord (0, 0) 0 [.ref v0] [] h (QV z) := by
  intro n
  induction n with
  | zero => intro _ _ q; exact nos (show (none : Option (aH)) = some z from q)
  | succ n ih => intro v0 h q; exact tX8_takeWord_0 ih v0 h q
def gX8_takeWord (v0 : Nat) (h : aH) : Option (aH) := lX8_takeWord_0 FU v0 h
theorem zX8_takeWord {d : Nat} {z : aH} {v0 : Nat} {h : aH} (q : gX8_takeWord v0 h = some z) : CT (d + 1) mX8_takeWord (0, 0) [.ref v0] h (QV z) :=
  ct_ev (by decide +kernel) (Nat.le_of_ble_eq_true rfl) QV_r (jm [2] (fun v0 => lX8_takeWord_0 FU v0 h) (fun v0 q => uX8_takeWord_0 FU v0 h q) q)
def wX8_step_154 : List En := [(.return_, 0, 0, 0)]
def fX8_step_154 (h : aH) : Option (aH) :=
  some h
theorem tX8_step_154 {d : Nat} {z : aH} (h : aH) (hf : fX8_step_154 h = some z) : Ev (d + 2) none mX8_step (0, 0) 154 [.null] [] h (QV z) := 
  go_ok (X := none) (blk := wX8_step_154) (np := 155) (tt := 0) (kN := fun _ _ _ => none) (kT := fun _ _ _ => none) (kR := kRV)
    (fun _ _ _ q => nos q)
    (fun _ _ _ q => nos q)
    kRV_ok (Or.inr rfl) (by decide +kernel) (by decide +kernel) hf
def wX8_step_149 : List En := [(.aload_n 0, 0, 0, 0), (.iconst 1, 0, 0, 0), (.putfield 70, 15, 8, 12)]
def fX8_step_149 (v0 : Nat) (h : aH) : Option (aH) :=
  (pWV h 8 v0 12 (.int (kI 1))).bind fun h1 =>
  fX8_step_154 h1
theorem tX8_step_149 {d : Nat} {z : aH} (v0 : Nat) (h : aH) (hf : fX8_step_149 v0 h = some z) : Ev (d + 2) none mX8_step (0, 0) 149 [.ref v0] [] h (QV z) := 
  go_ok (X := none) (blk := wX8_step_149) (np := 154) (tt := 0) (kN := fun xs h st => app [0] (apS [] (fX8_step_154 h) st) xs) (kT := fun _ _ _ => none) (kR := kRV)
    (fun xs h st q => jm [0] _ (fun q => apS_ok [] _ (fun st => Ev (d + 2) none mX8_step (0, 0) 154 [.null] st h (QV z)) st (fun q => tX8_step_154 h q) q) q)
    (fun _ _ _ q => nos q)
    kRV_ok (Or.inr rfl) (by decide +kernel) (by decide +kernel) hf
def wX8_step_146 : List En := [(.goto 8, 154, 0, 0)]
def fX8_step_146 (h : aH) : Option (aH) :=
  fX8_step_154 h
theorem tX8_step_146 {d : Nat} {z : aH} (h : aH) (hf : fX8_step_146 h = some z) : Ev (d + 2) none mX8_step (0, 0) 146 [.null] [] h (QV z) := 
  go_ok (X := none) (blk := wX8_step_146) (np := 149) (tt := 154) (kN := fun _ _ _ => none) (kT := fun xs h st => app [0] (apS [] (fX8_step_154 h) st) xs) (kR := kRV)
    (fun _ _ _ q => nos q)
    (fun xs h st q => jm [0] _ (fun q => apS_ok [] _ (fun st => Ev (d + 2) none mX8_step (0, 0) 154 [.null] st h (QV z)) st (fun q => tX8_step_154 h q) q) q)
    kRV_ok (Or.inr rfl) (by decide +kernel) (by decide +kernel) hf
theorem kqX8_step_143 : okC mX8_step 143 (.invokevirtual 252) 22 15 0 0 = true := by decide +kernel
def fX8_step_143 (s0 : Nat) (h : aH) : Option (aH) :=
  (isO h 8 s0).bind fun _ =>
  (gX8_takeWhole s0 h).bind fun r =>
  fX8_step_146 r
theorem tX8_step_143 {d : Nat} {z : aH} (s0 : Nat) (h : aH) (hf : fX8_step_143 s0 h = some z) : Ev (d + 2) none mX8_step (0, 0) 143 [.null] [.ref s0] h (QV z) := by
  obtain ⟨_, h1, hf⟩ := bnd hf
  obtain ⟨fs, ho⟩ := isO_ok h1
  obtain ⟨r, h2, hf⟩ := bnd hf
  refine ev_V kqX8_step_143 jX8_takeWhole (zX8_takeWhole (d := d + 0) h2) ho rfl rfl (Nat.le_of_ble_eq_true rfl) rfl (as := []) (rest := []) rfl (Nat.le_of_ble_eq_true rfl) (fun _ _ hq => ?_)
  obtain ⟨rfl, hh⟩ := hq
  rw [hh]
  exact jm [0] (fX8_step_146 r) (fun q => tX8_step_146 r q) hf
def wX8_step_142 : List En := [(.aload_n 0, 0, 0, 0)]
def fX8_step_142 (v0 : Nat) (h : aH) : Option (aH) :=
  fX8_step_143 v0 h
theorem tX8_step_142 {d : Nat} {z : aH} (v0 : Nat) (h : aH) (hf : fX8_step_142 v0 h = some z) : Ev (d + 2) none mX8_step (0, 0) 142 [.ref v0] [] h (QV z) := 
  go_ok (X := none) (blk := wX8_step_142) (np := 143) (tt := 0) (kN := fun xs h st => app [0] (apS [2] (fun s0 => fX8_step_143 s0 h) st) xs) (kT := fun _ _ _ => none) (kR := kRV)
    (fun xs h st q => jm [0] _ (fun q => apS_ok [2] _ (fun st => Ev (d + 2) none mX8_step (0, 0) 143 [.null] st h (QV z)) st (fun s0 q => tX8_step_143 s0 h q) q) q)
    (fun _ _ _ q => nos q)
    kRV_ok (Or.inr rfl) (by decide +kernel) (by decide +kernel) hf
def wX8_step_139 : List En := [(.ifCond .eq 10, 149, 0, 0)]
def fX8_step_139 (v0 : Nat) (s0 : Int32) (h : aH) : Option (aH) :=
  if s0 = 0 then fX8_step_149 v0 h else fX8_step_142 v0 h
theorem tX8_step_139 {d : Nat} {z : aH} (v0 : Nat) (s0 : Int32) (h : aH) (hf : fX8_step_139 v0 s0 h = some z) : Ev (d + 2) none mX8_step (0, 0) 139 [.ref v0] [.int s0] h (QV z) := 
  go_ok (X := none) (blk := wX8_step_139) (np := 142) (tt := 149) (kN := fun xs h st => app [2] (fun v0 => apS [] (fX8_step_142 v0 h) st) xs) (kT := fun xs h st => app [2] (fun v0 => apS [] (fX8_step_149 v0 h) st) xs) (kR := kRV)
    (fun xs h st q => jm [2] _ (fun v0 q => apS_ok [] _ (fun st => Ev (d + 2) none mX8_step (0, 0) 142 [.ref v0] st h (QV z)) st (fun q => tX8_step_142 v0 h q) q) q)
    (fun xs h st q => jm [2] _ (fun v0 q => apS_ok [] _ (fun st => Ev (d + 2) none mX8_step (0, 0) 149 [.ref v0] st h (QV z)) st (fun q => tX8_step_149 v0 h q) q) q)
    kRV_ok (Or.inr rfl) (by decide +kernel) (by decide +kernel) hf
theorem kqX8_step_136 : okC mX8_step 136 (.invokestatic 249) 21 14 1 1 = true := by decide +kernel
def fX8_step_136 (v0 : Nat) (s0 : Int32) (h : aH) : Option (aH) :=
  (gX8_isDigit s0 h).bind fun r =>
  fX8_step_139 v0 r.1 r.2
theorem tX8_step_136 {d : Nat} {z : aH} (v0 : Nat) (s0 : Int32) (h : aH) (hf : fX8_step_136 v0 s0 h = some z) : Ev (d + 2) none mX8_step (0, 0) 136 [.ref v0] [.int s0] h (QV z) := by
  obtain ⟨r, h2, hf⟩ := bnd hf
  refine ev_S kqX8_step_136 jX8_isDigit (zX8_isDigit (d := d + 1) h2) rfl (Nat.le_of_ble_eq_true rfl) rfl (as := [.int s0]) (rest := []) rfl (Nat.le_of_ble_eq_true rfl) (fun _ _ hq => ?_)
  obtain ⟨-, rfl, rfl⟩ := hq
  exact jm [2] (fun v0 => fX8_step_139 v0 r.1 r.2) (fun v0 q => tX8_step_139 v0 r.1 r.2 q) hf
def wX8_step_127 : List En := [(.aload_n 0, 0, 0, 0), (.getfield 9, 6, 8, 3), (.aload_n 0, 0, 0, 0), (.getfield 211, 13, 8, 10), (.baload, 0, 0, 0)]
def fX8_step_127 (v0 : Nat) (h : aH) : Option (aH) :=
  (gFR h 8 v0 3).bind fun t1 =>
  (gFI h 8 v0 10).bind fun t2 =>
  (aRB (h[t1]?) t2).bind fun t3 =>
  fX8_step_136 v0 t3 h
theorem tX8_step_127 {d : Nat} {z : aH} (v0 : Nat) (h : aH) (hf : fX8_step_127 v0 h = some z) : Ev (d + 2) none mX8_step (0, 0) 127 [.ref v0] [] h (QV z) := 
  go_ok (X := none) (blk := wX8_step_127) (np := 136) (tt := 0) (kN := fun xs h st => app [2] (fun v0 => apS [1] (fun s0 => fX8_step_136 v0 s0 h) st) xs) (kT := fun _ _ _ => none) (kR := kRV)
    (fun xs h st q => jm [2] _ (fun v0 q => apS_ok [1] _ (fun st => Ev (d + 2) none mX8_step (0, 0) 136 [.ref v0] st h (QV z)) st (fun s0 q => tX8_step_136 v0 s0 h q) q) q)
    (fun _ _ _ q => nos q)
    kRV_ok (Or.inr rfl) (by decide +kernel) (by decide +kernel) hf
def wX8_step_124 : List En := [(.goto 30, 154, 0, 0)]
def fX8_step_124 (h : aH) : Option (aH) :=
  fX8_step_154 h
theorem tX8_step_124 {d : Nat} {z : aH} (h : aH) (hf : fX8_step_124 h = some z) : Ev (d + 2) none mX8_step (0, 0) 124 [.null] [] h (QV z) := 
  go_ok (X := none) (blk := wX8_step_124) (np := 127) (tt := 154) (kN := fun _ _ _ => none) (kT := fun xs h st => app [0] (apS [] (fX8_step_154 h) st) xs) (kR := kRV)
    (fun _ _ _ q => nos q)
    (fun xs h st q => jm [0] _ (fun q => apS_ok [] _ (fun st => Ev (d + 2) none mX8_step (0, 0) 154 [.null] st h (QV z)) st (fun q => tX8_step_154 h q) q) q)
    kRV_ok (Or.inr rfl) (by decide +kernel) (by decide +kernel) hf
theorem kqX8_step_121 : okC mX8_step 121 (.invokevirtual 246) 20 13 0 0 = true := by decide +kernel
def fX8_step_121 (s0 : Nat) (h : aH) : Option (aH) :=
  (isO h 8 s0).bind fun _ =>
  (gX8_takeWord s0 h).bind fun r =>
  fX8_step_124 r
theorem tX8_step_121 {d : Nat} {z : aH} (s0 : Nat) (h : aH) (hf : fX8_step_121 s0 h = some z) : Ev (d + 2) none mX8_step (0, 0) 121 [.null] [.ref s0] h (QV z) := by
  obtain ⟨_, h1, hf⟩ := bnd hf
  obtain ⟨fs, ho⟩ := isO_ok h1
  obtain ⟨r, h2, hf⟩ := bnd hf
  refine ev_V kqX8_step_121 jX8_takeWord (zX8_takeWord (d := d + 0) h2) ho rfl rfl (Nat.le_of_ble_eq_true rfl) rfl (as := []) (rest := []) rfl (Nat.le_of_ble_eq_true rfl) (fun _ _ hq => ?_)
  obtain ⟨rfl, hh⟩ := hq
  rw [hh]
  exact jm [0] (fX8_step_124 r) (fun q => tX8_step_124 r q) hf
def wX8_step_120 : List En := [(.aload_n 0, 0, 0, 0)]
def fX8_step_120 (v0 : Nat) (h : aH) : Option (aH) :=
  fX8_step_121 v0 h
theorem tX8_step_120 {d : Nat} {z : aH} (v0 : Nat) (h : aH) (hf : fX8_step_120 v0 h = some z) : Ev (d + 2) none mX8_step (0, 0) 120 [.ref v0] [] h (QV z) := 
  go_ok (X := none) (blk := wX8_step_120) (np := 121) (tt := 0) (kN := fun xs h st => app [0] (apS [2] (fun s0 => fX8_step_121 s0 h) st) xs) (kT := fun _ _ _ => none) (kR := kRV)
    (fun xs h st q => jm [0] _ (fun q => apS_ok [2] _ (fun st => Ev (d + 2) none mX8_step (0, 0) 121 [.null] st h (QV z)) st (fun s0 q => tX8_step_121 s0 h q) q) q)
    (fun _ _ _ q => nos q)
    kRV_ok (Or.inr rfl) (by decide +kernel) (by decide +kernel) hf
def wX8_step_117 : List En := [(.ifCond .eq 10, 127, 0, 0)]
def fX8_step_117 (v0 : Nat) (s0 : Int32) (h : aH) : Option (aH) :=
  if s0 = 0 then fX8_step_127 v0 h else fX8_step_120 v0 h
theorem tX8_step_117 {d : Nat} {z : aH} (v0 : Nat) (s0 : Int32) (h : aH) (hf : fX8_step_117 v0 s0 h = some z) : Ev (d + 2) none mX8_step (0, 0) 117 [.ref v0] [.int s0] h (QV z) := 
  go_ok (X := none) (blk := wX8_step_117) (np := 120) (tt := 127) (kN := fun xs h st => app [2] (fun v0 => apS [] (fX8_step_120 v0 h) st) xs) (kT := fun xs h st => app [2] (fun v0 => apS [] (fX8_step_127 v0 h) st) xs) (kR := kRV)
    (fun xs h st q => jm [2] _ (fun v0 q => apS_ok [] _ (fun st => Ev (d + 2) none mX8_step (0, 0) 120 [.ref v0] st h (QV z)) st (fun q => tX8_step_120 v0 h q) q) q)
    (fun xs h st q => jm [2] _ (fun v0 q => apS_ok [] _ (fun st => Ev (d + 2) none mX8_step (0, 0) 127 [.ref v0] st h (QV z)) st (fun q => tX8_step_127 v0 h q) q) q)
    kRV_ok (Or.inr rfl) (by decide +kernel) (by decide +kernel) hf
theorem kqX8_step_114 : okC mX8_step 114 (.invokestatic 242) 19 12 1 1 = true := by decide +kernel
def fX8_step_114 (v0 : Nat) (s0 : Int32) (h : aH) : Option (aH) :=
  (gX8_isLetter s0 h).bind fun r =>
  fX8_step_117 v0 r.1 r.2
theorem tX8_step_114 {d : Nat} {z : aH} (v0 : Nat) (s0 : Int32) (h : aH) (hf : fX8_step_114 v0 s0 h = some z) : Ev (d + 2) none mX8_step (0, 0) 114 [.ref v0] [.int s0] h (QV z) := by
  obtain ⟨r, h2, hf⟩ := bnd hf
  refine ev_S kqX8_step_114 jX8_isLetter (zX8_isLetter (d := d + 1) h2) rfl (Nat.le_of_ble_eq_true rfl) rfl (as := [.int s0]) (rest := []) rfl (Nat.le_of_ble_eq_true rfl) (fun _ _ hq => ?_)
  obtain ⟨-, rfl, rfl⟩ := hq
  exact jm [2] (fun v0 => fX8_step_117 v0 r.1 r.2) (fun v0 q => tX8_step_117 v0 r.1 r.2 q) hf
def wX8_step_105 : List En := [(.aload_n 0, 0, 0, 0), (.getfield 9, 6, 8, 3), (.aload_n 0, 0, 0, 0), (.getfield 211, 13, 8, 10), (.baload, 0, 0, 0)]
def fX8_step_105 (v0 : Nat) (h : aH) : Option (aH) :=
  (gFR h 8 v0 3).bind fun t1 =>
  (gFI h 8 v0 10).bind fun t2 =>
  (aRB (h[t1]?) t2).bind fun t3 =>
  fX8_step_114 v0 t3 h
theorem tX8_step_105 {d : Nat} {z : aH} (v0 : Nat) (h : aH) (hf : fX8_step_105 v0 h = some z) : Ev (d + 2) none mX8_step (0, 0) 105 [.ref v0] [] h (QV z) := 
  go_ok (X := none) (blk := wX8_step_105) (np := 114) (tt := 0) (kN := fun xs h st => app [2] (fun v0 => apS [1] (fun s0 => fX8_step_114 v0 s0 h) st) xs) (kT := fun _ _ _ => none) (kR := kRV)
    (fun xs h st q => jm [2] _ (fun v0 q => apS_ok [1] _ (fun st => Ev (d + 2) none mX8_step (0, 0) 114 [.ref v0] st h (QV z)) st (fun s0 q => tX8_step_114 v0 s0 h q) q) q)
    (fun _ _ _ q => nos q)
    kRV_ok (Or.inr rfl) (by decide +kernel) (by decide +kernel) hf
def wX8_step_87 : List En := [(.aload_n 0, 0, 0, 0), (.iconst 4, 0, 0, 0), (.putfield 70, 15, 8, 12), (.aload_n 0, 0, 0, 0), (.aload_n 0, 0, 0, 0), (.getfield 211, 13, 8, 10), (.iconst 1, 0, 0, 0), (.iadd, 0, 0, 0), (.putfield 47, 14, 8, 11), (.goto 52, 154, 0, 0)]
def fX8_step_87 (v0 : Nat) (h : aH) : Option (aH) :=
  (pWV h 8 v0 12 (.int (kI 4))).bind fun h1 =>
  (gFI h1 8 v0 10).bind fun t2 =>
  (pWV h1 8 v0 11 (.int (t2 + (kI 1)))).bind fun h3 =>
  fX8_step_154 h3
theorem tX8_step_87 {d : Nat} {z : aH} (v0 : Nat) (h : aH) (hf : fX8_step_87 v0 h = some z) : Ev (d + 2) none mX8_step (0, 0) 87 [.ref v0] [] h (QV z) := 
  go_ok (X := none) (blk := wX8_step_87) (np := 105) (tt := 154) (kN := fun _ _ _ => none) (kT := fun xs h st => app [0] (apS [] (fX8_step_154 h) st) xs) (kR := kRV)
    (fun _ _ _ q => nos q)
    (fun xs h st q => jm [0] _ (fun q => apS_ok [] _ (fun st => Ev (d + 2) none mX8_step (0, 0) 154 [.null] st h (QV z)) st (fun q => tX8_step_154 h q) q) q)
    kRV_ok (Or.inr rfl) (by decide +kernel) (by decide +kernel) hf
def wX8_step_73 : List En := [(.aload_n 0, 0, 0, 0), (.getfield 9, 6, 8, 3), (.aload_n 0, 0, 0, 0), (.getfield 211, 13, 8, 10), (.baload, 0, 0, 0), (.bipush 59, 0, 0, 0), (.if_icmp .ne 21, 105, 0, 0)]
def fX8_step_73 (v0 : Nat) (h : aH) : Option (aH) :=
  (gFR h 8 v0 3).bind fun t1 =>
  (gFI h 8 v0 10).bind fun t2 =>
  (aRB (h[t1]?) t2).bind fun t3 =>
  if t3 = (kB 59) then fX8_step_87 v0 h else fX8_step_105 v0 h
theorem tX8_step_73 {d : Nat} {z : aH} (v0 : Nat) (h : aH) (hf : fX8_step_73 v0 h = some z) : Ev (d + 2) none mX8_step (0, 0) 73 [.ref v0] [] h (QV z) := 
  go_ok (X := none) (blk := wX8_step_73) (np := 87) (tt := 105) (kN := fun xs h st => app [2] (fun v0 => apS [] (fX8_step_87 v0 h) st) xs) (kT := fun xs h st => app [2] (fun v0 => apS [] (fX8_step_105 v0 h) st) xs) (kR := kRV)
    (fun xs h st q => jm [2] _ (fun v0 q => apS_ok [] _ (fun st => Ev (d + 2) none mX8_step (0, 0) 87 [.ref v0] st h (QV z)) st (fun q => tX8_step_87 v0 h q) q) q)
    (fun xs h st q => jm [2] _ (fun v0 q => apS_ok [] _ (fun st => Ev (d + 2) none mX8_step (0, 0) 105 [.ref v0] st h (QV z)) st (fun q => tX8_step_105 v0 h q) q) q)
    kRV_ok (Or.inr rfl) (by decide +kernel) (by decide +kernel) hf
def wX8_step_65 : List En := [(.aload_n 0, 0, 0, 0), (.iconst 0, 0, 0, 0), (.putfield 70, 15, 8, 12), (.goto 84, 154, 0, 0)]
def fX8_step_65 (v0 : Nat) (h : aH) : Option (aH) :=
  (pWV h 8 v0 12 (.int (kI 0))).bind fun h1 =>
  fX8_step_154 h1
theorem tX8_step_65 {d : Nat} {z : aH} (v0 : Nat) (h : aH) (hf : fX8_step_65 v0 h = some z) : Ev (d + 2) none mX8_step (0, 0) 65 [.ref v0] [] h (QV z) := 
  go_ok (X := none) (blk := wX8_step_65) (np := 73) (tt := 154) (kN := fun _ _ _ => none) (kT := fun xs h st => app [0] (apS [] (fX8_step_154 h) st) xs) (kR := kRV)
    (fun _ _ _ q => nos q)
    (fun xs h st q => jm [0] _ (fun q => apS_ok [] _ (fun st => Ev (d + 2) none mX8_step (0, 0) 154 [.null] st h (QV z)) st (fun q => tX8_step_154 h q) q) q)
    kRV_ok (Or.inr rfl) (by decide +kernel) (by decide +kernel) hf
def wX8_step_46 : List En := [(.aload_n 0, 0, 0, 0), (.aload_n 0, 0, 0, 0), (.getfield 211, 13, 8, 10), (.putfield 47, 14, 8, 11), (.aload_n 0, 0, 0, 0), (.getfield 211, 13, 8, 10), (.aload_n 0, 0, 0, 0), (.getfield 44, 12, 8, 9), (.if_icmp .lt 11, 73, 0, 0)]
def fX8_step_46 (v0 : Nat) (h : aH) : Option (aH) :=
  (gFI h 8 v0 10).bind fun t1 =>
  (pWV h 8 v0 11 (.int t1)).bind fun h2 =>
  (gFI h2 8 v0 10).bind fun t3 =>
  (gFI h2 8 v0 9).bind fun t4 =>
  if t3 < t4 then fX8_step_73 v0 h2 else fX8_step_65 v0 h2
theorem tX8_step_46 {d : Nat} {z : aH} (v0 : Nat) (h : aH) (hf : fX8_step_46 v0 h = some z) : Ev (d + 2) none mX8_step (0, 0) 46 [.ref v0] [] h (QV z) := 
  go_ok (X := none) (blk := wX8_step_46) (np := 65) (tt := 73) (kN := fun xs h st => app [2] (fun v0 => apS [] (fX8_step_65 v0 h) st) xs) (kT := fun xs h st => app [2] (fun v0 => apS [] (fX8_step_73 v0 h) st) xs) (kR := kRV)
    (fun xs h st q => jm [2] _ (fun v0 q => apS_ok [] _ (fun st => Ev (d + 2) none mX8_step (0, 0) 65 [.ref v0] st h (QV z)) st (fun q => tX8_step_65 v0 h q) q) q)
    (fun xs h st q => jm [2] _ (fun v0 q => apS_ok [] _ (fun st => Ev (d + 2) none mX8_step (0, 0) 73 [.ref v0] st h (QV z)) st (fun q => tX8_step_73 v0 h q) q) q)
    kRV_ok (Or.inr rfl) (by decide +kernel) (by decide +kernel) hf
def wX8_step_33 : List En := [(.aload_n 0, 0, 0, 0), (.dup, 0, 0, 0), (.getfield 211, 13, 8, 10), (.iconst 1, 0, 0, 0), (.iadd, 0, 0, 0), (.putfield 211, 13, 8, 10), (.goto (-35), 8, 0, 0)]
def fX8_step_33 (k8 : Nat → aH → Option (aH)) (v0 : Nat) (h : aH) : Option (aH) :=
  (gFI h 8 v0 10).bind fun t1 =>
  (pWV h 8 v0 10 (.int (t1 + (kI 1)))).bind fun h2 =>
  k8 v0 h2
theorem tX8_step_33 {d : Nat} {z : aH} {k8 : Nat → aH → Option (aH)} (hk8 : ∀ (v0 : Nat) (h : aH), k8 v0 h = some z → Ev (d + 2) none mX8_step (0, 0) 8 [.ref v0] [] h (QV z)) (v0 : Nat) (h : aH) (hf : fX8_step_33 k8 v0 h = some z) : Ev (d + 2) none mX8_step (0, 0) 33 [.ref v0] [] h (QV z) := 
  go_ok (X := none) (blk := wX8_step_33) (np := 46) (tt := 8) (kN := fun _ _ _ => none) (kT := fun xs h st => app [2] (fun v0 => apS [] (k8 v0 h) st) xs) (kR := kRV)
    (fun _ _ _ q => nos q)
    (fun xs h st q => jm [2] _ (fun v0 q => apS_ok [] _ (fun st => Ev (d + 2) none mX8_step (0, 0) 8 [.ref v0] st h (QV z)) st (fun q => hk8 v0 h q) q) q)
    kRV_ok (Or.inr rfl) (by decide +kernel) (by decide +kernel) hf
def wX8_step_19 : List En := [(.aload_n 0, 0, 0, 0), (.getfield 9, 6, 8, 3), (.aload_n 0, 0, 0, 0), (.getfield 211, 13, 8, 10), (.baload, 0, 0, 0), (.bipush 32, 0, 0, 0), (.if_icmp .ne 16, 46, 0, 0)]
def fX8_step_19 (k8 : Nat → aH → Option (aH)) (v0 : Nat) (h : aH) : Option (aH) :=
  (gFR h 8 v0 3).bind fun t1 =>
  (gFI h 8 v0 10).bind fun t2 =>
  (aRB (h[t1]?) t2).bind fun t3 =>
  if t3 = (kB 32) then fX8_step_33 k8 v0 h else fX8_step_46 v0 h
theorem tX8_step_19 {d : Nat} {z : aH} {k8 : Nat → aH → Option (aH)} (hk8 : ∀ (v0 : Nat) (h : aH), k8 v0 h = some z → Ev (d + 2) none mX8_step (0, 0) 8 [.ref v0] [] h (QV z)) (v0 : Nat) (h : aH) (hf : fX8_step_19 k8 v0 h = some z) : Ev (d + 2) none mX8_step (0, 0) 19 [.ref v0] [] h (QV z) := 
  go_ok (X := none) (blk := wX8_step_19) (np := 33) (tt := 46) (kN := fun xs h st => app [2] (fun v0 => apS [] (fX8_step_33 k8 v0 h) st) xs) (kT := fun xs h st => app [2] (fun v0 => apS [] (fX8_step_46 v0 h) st) xs) (kR := kRV)
    (fun xs h st q => jm [2] _ (fun v0 q => apS_ok [] _ (fun st => Ev (d + 2) none mX8_step (0, 0) 33 [.ref v0] st h (QV z)) st (fun q => tX8_step_33 hk8 v0 h q) q) q)
    (fun xs h st q => jm [2] _ (fun v0 q => apS_ok [] _ (fun st => Ev (d + 2) none mX8_step (0, 0) 46 [.ref v0] st h (QV z)) st (fun q => tX8_step_46 v0 h q) q) q)
    kRV_ok (Or.inr rfl) (by decide +kernel) (by decide +kernel) hf
def wX8_step_8 : List En := [(.aload_n 0, 0, 0, 0), (.getfield 211, 13, 8, 10), (.aload_n 0, 0, 0, 0), (.getfield 44, 12, 8, 9), (.if_icmp .ge 30, 46, 0, 0)]
def fX8_step_8 (k8 : Nat → aH → Option (aH)) (v0 : Nat) (h : aH) : Option (aH) :=
  (gFI h 8 v0 10).bind fun t1 =>
  (gFI h 8 v0 9).bind fun t2 =>
  if t1 < t2 then fX8_step_19 k8 v0 h else fX8_step_46 v0 h
theorem tX8_step_8 {d : Nat} {z : aH} {k8 : Nat → aH → Option (aH)} (hk8 : ∀ (v0 : Nat) (h : aH), k8 v0 h = some z → Ev (d + 2) none mX8_step (0, 0) 8 [.ref v0] [] h (QV z)) (v0 : Nat) (h : aH) (hf : fX8_step_8 k8 v0 h = some z) : Ev (d + 2) none mX8_step (0, 0) 8 [.ref v0] [] h (QV z) := 
  go_ok (X := none) (blk := wX8_step_8) (np := 19) (tt := 46) (kN := fun xs h st => app [2] (fun v0 => apS [] (fX8_step_19 k8 v0 h) st) xs) (kT := fun xs h st => app [2] (fun v0 => apS [] (fX8_step_46 v0 h) st) xs) (kR := kRV)
    (fun xs h st q => jm [2] _ (fun v0 q => apS_ok [] _ (fun st => Ev (d + 2) none mX8_step (0, 0) 19 [.ref v0] st h (QV z)) st (fun q => tX8_step_19 hk8 v0 h q) q) q)
    (fun xs h st q => jm [2] _ (fun v0 q => apS_ok [] _ (fun st => Ev (d + 2) none mX8_step (0, 0) 46 [.ref v0] st h (QV z)) st (fun q => tX8_step_46 v0 h q) q) q)
    kRV_ok (Or.inr rfl) (by decide +kernel) (by decide +kernel) hf
def lX8_step_8 : Nat → Nat → aH → Option (aH)
  | 0, _, _ => none
  | n + 1, v0, h => fX8_step_8 (lX8_step_8 n) v0 h
theorem uX8_step_8 {d : Nat} {z : aH} : ∀ (n : Nat) (v0 : Nat) (h : aH), lX8_step_8 n v0 h = some z → Ev (d + 2) none mX8_step (0, 0) 8 [.ref v0] [] h (QV z) := by
  intro n
  induction n with
  | zero => intro _ _ q; exact nos (show (none : Option (aH)) = some z from q)
  | succ n ih => intro v0 h q; exact tX8_step_8 ih v0 h q
def wX8_step_0 : List En := [(.aload_n 0, 0, 0, 0), (.aload_n 0, 0, 0, 0), (.getfield 47, 14, 8, 11), (.putfield 211, 13, 8, 10)]
def fX8_step_0 (v0 : Nat) (h : aH) : Option (aH) :=
  (gFI h 8 v0 11).bind fun t1 =>
  (pWV h 8 v0 10 (.int t1)).bind fun h2 =>
  lX8_step_8 FU v0 h2
theorem tX8_step_0 {d : Nat} {z : aH} (v0 : Nat) (h : aH) (hf : fX8_step_0 v0 h = some z) : Ev (d + 2) none mX8_step (0, 0) 0 [.ref v0] [] h (QV z) := 
  go_ok (X := none) (blk := wX8_step_0) (np := 8) (tt := 0) (kN := fun xs h st => app [2] (fun v0 => apS [] (lX8_step_8 FU v0 h) st) xs) (kT := fun _ _ _ => none) (kR := kRV)
    (fun xs h st q => jm [2] _ (fun v0 q => apS_ok [] _ (fun st => Ev (d + 2) none mX8_step (0, 0) 8 [.ref v0] st h (QV z)) st (fun q => uX8_step_8 FU v0 h q) q) q)
    (fun _ _ _ q => nos q)
    kRV_ok (Or.inr rfl) (by decide +kernel) (by decide +kernel) hf
def gX8_step (v0 : Nat) (h : aH) : Option (aH) := fX8_step_0 v0 h
theorem zX8_step {d : Nat} {z : aH} {v0 : Nat} {h : aH} (q : gX8_step v0 h = some z) : CT (d + 2) mX8_step (0, 0) [.ref v0] h (QV z) :=
  ct_ev (by decide +kernel) (Nat.le_of_ble_eq_true rfl) QV_r (jm [2] (fun v0 => fX8_step_0 v0 h) (fun v0 q => tX8_step_0 v0 h q) q)
def wX8_isSameWord_71 : List En := [(.iconst 1, 0, 0, 0), (.ireturn, 0, 0, 0)]
def fX8_isSameWord_71 (h : aH) : Option (Int32 × aH) :=
  if (kI 1) = 0 ∨ (kI 1) = 1 then some ((kI 1), h) else none
theorem tX8_isSameWord_71 {d : Nat} {z : Int32 × aH} (h : aH) (hf : fX8_isSameWord_71 h = some z) : Ev (d + 0) none mX8_isSameWord (0, 0) 71 [.null, .null, .null, .null] [] h (QZ z) := 
  go_ok (X := none) (blk := wX8_isSameWord_71) (np := 73) (tt := 0) (kN := fun _ _ _ => none) (kT := fun _ _ _ => none) (kR := kRZ)
    (fun _ _ _ q => nos q)
    (fun _ _ _ q => nos q)
    kRZ_ok (Or.inr rfl) (by decide +kernel) (by decide +kernel) hf
def wX8_isSameWord_65 : List En := [(.iinc 3 1, 0, 0, 0), (.goto (-37), 31, 0, 0)]
def fX8_isSameWord_65 (k31 : Nat → Int32 → Int32 → Int32 → aH → Option (Int32 × aH)) (v0 : Nat) (v1 : Int32) (v2 : Int32) (v3 : Int32) (h : aH) : Option (Int32 × aH) :=
  k31 v0 v1 v2 (v3 + kI 1) h
theorem tX8_isSameWord_65 {d : Nat} {z : Int32 × aH} {k31 : Nat → Int32 → Int32 → Int32 → aH → Option (Int32 × aH)} (hk31 : ∀ (v0 : Nat) (v1 : Int32) (v2 : Int32) (v3 : Int32) (h : aH), k31 v0 v1 v2 v3 h = some z → Ev (d + 0) none mX8_isSameWord (0, 0) 31 [.ref v0, .int v1, .int v2, .int v3] [] h (QZ z)) (v0 : Nat) (v1 : Int32) (v2 : Int32) (v3 : Int32) (h : aH) (hf : fX8_isSameWord_65 k31 v0 v1 v2 v3 h = some z) : Ev (d + 0) none mX8_isSameWord (0, 0) 65 [.ref v0, .int v1, .int v2, .int v3] [] h (QZ z) := 
  go_ok (X := none) (blk := wX8_isSameWord_65) (np := 71) (tt := 31) (kN := fun _ _ _ => none) (kT := fun xs h st => app [2, 1, 1, 1] (fun v0 v1 v2 v3 => apS [] (k31 v0 v1 v2 v3 h) st) xs) (kR := kRZ)
    (fun _ _ _ q => nos q)
    (fun xs h st q => jm [2, 1, 1, 1] _ (fun v0 v1 v2 v3 q => apS_ok [] _ (fun st => Ev (d + 0) none mX8_isSameWord (0, 0) 31 [.ref v0, .int v1, .int v2, .int v3] st h (QZ z)) st (fun q => hk31 v0 v1 v2 v3 h q) q) q)
    kRZ_ok (Or.inr rfl) (by decide +kernel) (by decide +kernel) hf
def wX8_isSameWord_63 : List En := [(.iconst 0, 0, 0, 0), (.ireturn, 0, 0, 0)]
def fX8_isSameWord_63 (h : aH) : Option (Int32 × aH) :=
  if (kI 0) = 0 ∨ (kI 0) = 1 then some ((kI 0), h) else none
theorem tX8_isSameWord_63 {d : Nat} {z : Int32 × aH} (h : aH) (hf : fX8_isSameWord_63 h = some z) : Ev (d + 0) none mX8_isSameWord (0, 0) 63 [.null, .null, .null, .null] [] h (QZ z) := 
  go_ok (X := none) (blk := wX8_isSameWord_63) (np := 65) (tt := 0) (kN := fun _ _ _ => none) (kT := fun _ _ _ => none) (kR := kRZ)
    (fun _ _ _ q => nos q)
    (fun _ _ _ q => nos q)
    kRZ_ok (Or.inr rfl) (by decide +kernel) (by decide +kernel) hf
def wX8_isSameWord_36 : List En := [(.aload_n 0, 0, 0, 0), (.getfield 9, 6, 8, 3), (.aload_n 0, 0, 0, 0), (.getfield 15, 7, 8, 4), (.iload_n 1, 0, 0, 0), (.iaload, 0, 0, 0), (.iload_n 3, 0, 0, 0), (.iadd, 0, 0, 0), (.baload, 0, 0, 0), (.aload_n 0, 0, 0, 0), (.getfield 9, 6, 8, 3), (.aload_n 0, 0, 0, 0), (.getfield 211, 13, 8, 10), (.iload_n 3, 0, 0, 0), (.iadd, 0, 0, 0), (.baload, 0, 0, 0), (.if_icmp .eq 5, 65, 0, 0)]
def fX8_isSameWord_36 (k31 : Nat → Int32 → Int32 → Int32 → aH → Option (Int32 × aH)) (v0 : Nat) (v1 : Int32) (v2 : Int32) (v3 : Int32) (h : aH) : Option (Int32 × aH) :=
  (gFR h 8 v0 3).bind fun t1 =>
  (gFR h 8 v0 4).bind fun t2 =>
  (aRI (h[t2]?) v1).bind fun t3 =>
  (aRB (h[t1]?) (t3 + v3)).bind fun t4 =>
  (gFR h 8 v0 3).bind fun t5 =>
  (gFI h 8 v0 10).bind fun t6 =>
  (aRB (h[t5]?) (t6 + v3)).bind fun t7 =>
  if t4 = t7 then fX8_isSameWord_65 k31 v0 v1 v2 v3 h else fX8_isSameWord_63 h
theorem tX8_isSameWord_36 {d : Nat} {z : Int32 × aH} {k31 : Nat → Int32 → Int32 → Int32 → aH → Option (Int32 × aH)} (hk31 : ∀ (v0 : Nat) (v1 : Int32) (v2 : Int32) (v3 : Int32) (h : aH), k31 v0 v1 v2 v3 h = some z → Ev (d + 0) none mX8_isSameWord (0, 0) 31 [.ref v0, .int v1, .int v2, .int v3] [] h (QZ z)) (v0 : Nat) (v1 : Int32) (v2 : Int32) (v3 : Int32) (h : aH) (hf : fX8_isSameWord_36 k31 v0 v1 v2 v3 h = some z) : Ev (d + 0) none mX8_isSameWord (0, 0) 36 [.ref v0, .int v1, .int v2, .int v3] [] h (QZ z) := 
  go_ok (X := none) (blk := wX8_isSameWord_36) (np := 63) (tt := 65) (kN := fun xs h st => app [0, 0, 0, 0] (apS [] (fX8_isSameWord_63 h) st) xs) (kT := fun xs h st => app [2, 1, 1, 1] (fun v0 v1 v2 v3 => apS [] (fX8_isSameWord_65 k31 v0 v1 v2 v3 h) st) xs) (kR := kRZ)
    (fun xs h st q => jm [0, 0, 0, 0] _ (fun q => apS_ok [] _ (fun st => Ev (d + 0) none mX8_isSameWord (0, 0) 63 [.null, .null, .null, .null] st h (QZ z)) st (fun q => tX8_isSameWord_63 h q) q) q)
    (fun xs h st q => jm [2, 1, 1, 1] _ (fun v0 v1 v2 v3 q => apS_ok [] _ (fun st => Ev (d + 0) none mX8_isSameWord (0, 0) 65 [.ref v0, .int v1, .int v2, .int v3] st h (QZ z)) st (fun q => tX8_isSameWord_65 hk31 v0 v1 v2 v3 h q) q) q)
    kRZ_ok (Or.inr rfl) (by decide +kernel) (by decide +kernel) hf
def wX8_isSameWord_31 : List En := [(.iload_n 3, 0, 0, 0), (.iload_n 2, 0, 0, 0), (.if_icmp .ge 38, 71, 0, 0)]
def fX8_isSameWord_31 (k31 : Nat → Int32 → Int32 → Int32 → aH → Option (Int32 × aH)) (v0 : Nat) (v1 : Int32) (v2 : Int32) (v3 : Int32) (h : aH) : Option (Int32 × aH) :=
  if v3 < v2 then fX8_isSameWord_36 k31 v0 v1 v2 v3 h else fX8_isSameWord_71 h
theorem tX8_isSameWord_31 {d : Nat} {z : Int32 × aH} {k31 : Nat → Int32 → Int32 → Int32 → aH → Option (Int32 × aH)} (hk31 : ∀ (v0 : Nat) (v1 : Int32) (v2 : Int32) (v3 : Int32) (h : aH), k31 v0 v1 v2 v3 h = some z → Ev (d + 0) none mX8_isSameWord (0, 0) 31 [.ref v0, .int v1, .int v2, .int v3] [] h (QZ z)) (v0 : Nat) (v1 : Int32) (v2 : Int32) (v3 : Int32) (h : aH) (hf : fX8_isSameWord_31 k31 v0 v1 v2 v3 h = some z) : Ev (d + 0) none mX8_isSameWord (0, 0) 31 [.ref v0, .int v1, .int v2, .int v3] [] h (QZ z) := 
  go_ok (X := none) (blk := wX8_isSameWord_31) (np := 36) (tt := 71) (kN := fun xs h st => app [2, 1, 1, 1] (fun v0 v1 v2 v3 => apS [] (fX8_isSameWord_36 k31 v0 v1 v2 v3 h) st) xs) (kT := fun xs h st => app [0, 0, 0, 0] (apS [] (fX8_isSameWord_71 h) st) xs) (kR := kRZ)
    (fun xs h st q => jm [2, 1, 1, 1] _ (fun v0 v1 v2 v3 q => apS_ok [] _ (fun st => Ev (d + 0) none mX8_isSameWord (0, 0) 36 [.ref v0, .int v1, .int v2, .int v3] st h (QZ z)) st (fun q => tX8_isSameWord_36 hk31 v0 v1 v2 v3 h q) q) q)
    (fun xs h st q => jm [0, 0, 0, 0] _ (fun q => apS_ok [] _ (fun st => Ev (d + 0) none mX8_isSameWord (0, 0) 71 [.null, .null, .null, .null] st h (QZ z)) st (fun q => tX8_isSameWord_71 h q) q) q)
    kRZ_ok (Or.inr rfl) (by decide +kernel) (by decide +kernel) hf
def lX8_isSameWord_31 : Nat → Nat → Int32 → Int32 → Int32 → aH → Option (Int32 × aH)
  | 0, _, _, _, _, _ => none
  | n + 1, v0, v1, v2, v3, h => fX8_isSameWord_31 (lX8_isSameWord_31 n) v0 v1 v2 v3 h
theorem uX8_isSameWord_31 {d : Nat} {z : Int32 × aH} : ∀ (n : Nat) (v0 : Nat) (v1 : Int32) (v2 : Int32) (v3 : Int32) (h : aH), lX8_isSameWord_31 n v0 v1 v2 v3 h = some z → Ev (d + 0) none mX8_isSameWord (0, 0) 31 [.ref v0, .int v1, .int v2, .int v3] [] h (QZ z) := by
  intro n
  induction n with
  | zero => intro _ _ _ _ _ q; exact nos (show (none : Option (Int32 × aH)) = some z from q)
  | succ n ih => intro v0 v1 v2 v3 h q; exact tX8_isSameWord_31 ih v0 v1 v2 v3 h q
def wX8_isSameWord_29 : List En := [(.iconst 0, 0, 0, 0), (.istore_n 3, 0, 0, 0)]
def fX8_isSameWord_29 (v0 : Nat) (v1 : Int32) (v2 : Int32) (h : aH) : Option (Int32 × aH) :=
  lX8_isSameWord_31 FU v0 v1 v2 (kI 0) h
theorem tX8_isSameWord_29 {d : Nat} {z : Int32 × aH} (v0 : Nat) (v1 : Int32) (v2 : Int32) (h : aH) (hf : fX8_isSameWord_29 v0 v1 v2 h = some z) : Ev (d + 0) none mX8_isSameWord (0, 0) 29 [.ref v0, .int v1, .int v2, .null] [] h (QZ z) := 
  go_ok (X := none) (blk := wX8_isSameWord_29) (np := 31) (tt := 0) (kN := fun xs h st => app [2, 1, 1, 1] (fun v0 v1 v2 v3 => apS [] (lX8_isSameWord_31 FU v0 v1 v2 v3 h) st) xs) (kT := fun _ _ _ => none) (kR := kRZ)
    (fun xs h st q => jm [2, 1, 1, 1] _ (fun v0 v1 v2 v3 q => apS_ok [] _ (fun st => Ev (d + 0) none mX8_isSameWord (0, 0) 31 [.ref v0, .int v1, .int v2, .int v3] st h (QZ z)) st (fun q => uX8_isSameWord_31 FU v0 v1 v2 v3 h q) q) q)
    (fun _ _ _ q => nos q)
    kRZ_ok (Or.inr rfl) (by decide +kernel) (by decide +kernel) hf
def wX8_isSameWord_27 : List En := [(.iconst 0, 0, 0, 0), (.ireturn, 0, 0, 0)]
def fX8_isSameWord_27 (h : aH) : Option (Int32 × aH) :=
  if (kI 0) = 0 ∨ (kI 0) = 1 then some ((kI 0), h) else none
theorem tX8_isSameWord_27 {d : Nat} {z : Int32 × aH} (h : aH) (hf : fX8_isSameWord_27 h = some z) : Ev (d + 0) none mX8_isSameWord (0, 0) 27 [.null, .null, .null, .null] [] h (QZ z) := 
  go_ok (X := none) (blk := wX8_isSameWord_27) (np := 29) (tt := 0) (kN := fun _ _ _ => none) (kT := fun _ _ _ => none) (kR := kRZ)
    (fun _ _ _ q => nos q)
    (fun _ _ _ q => nos q)
    kRZ_ok (Or.inr rfl) (by decide +kernel) (by decide +kernel) hf
def wX8_isSameWord_0 : List En := [(.aload_n 0, 0, 0, 0), (.getfield 47, 14, 8, 11), (.aload_n 0, 0, 0, 0), (.getfield 211, 13, 8, 10), (.isub, 0, 0, 0), (.istore_n 2, 0, 0, 0), (.aload_n 0, 0, 0, 0), (.getfield 19, 8, 8, 5), (.iload_n 1, 0, 0, 0), (.iaload, 0, 0, 0), (.aload_n 0, 0, 0, 0), (.getfield 15, 7, 8, 4), (.iload_n 1, 0, 0, 0), (.iaload, 0, 0, 0), (.isub, 0, 0, 0), (.iload_n 2, 0, 0, 0), (.if_icmp .eq 5, 29, 0, 0)]
def fX8_isSameWord_0 (v0 : Nat) (v1 : Int32) (h : aH) : Option (Int32 × aH) :=
  (gFI h 8 v0 11).bind fun t1 =>
  (gFI h 8 v0 10).bind fun t2 =>
  (gFR h 8 v0 5).bind fun t3 =>
  (aRI (h[t3]?) v1).bind fun t4 =>
  (gFR h 8 v0 4).bind fun t5 =>
  (aRI (h[t5]?) v1).bind fun t6 =>
  if (t4 - t6) = (t1 - t2) then fX8_isSameWord_29 v0 v1 (t1 - t2) h else fX8_isSameWord_27 h
theorem tX8_isSameWord_0 {d : Nat} {z : Int32 × aH} (v0 : Nat) (v1 : Int32) (h : aH) (hf : fX8_isSameWord_0 v0 v1 h = some z) : Ev (d + 0) none mX8_isSameWord (0, 0) 0 [.ref v0, .int v1, .null, .null] [] h (QZ z) := 
  go_ok (X := none) (blk := wX8_isSameWord_0) (np := 27) (tt := 29) (kN := fun xs h st => app [0, 0, 0, 0] (apS [] (fX8_isSameWord_27 h) st) xs) (kT := fun xs h st => app [2, 1, 1, 0] (fun v0 v1 v2 => apS [] (fX8_isSameWord_29 v0 v1 v2 h) st) xs) (kR := kRZ)
    (fun xs h st q => jm [0, 0, 0, 0] _ (fun q => apS_ok [] _ (fun st => Ev (d + 0) none mX8_isSameWord (0, 0) 27 [.null, .null, .null, .null] st h (QZ z)) st (fun q => tX8_isSameWord_27 h q) q) q)
    (fun xs h st q => jm [2, 1, 1, 0] _ (fun v0 v1 v2 q => apS_ok [] _ (fun st => Ev (d + 0) none mX8_isSameWord (0, 0) 29 [.ref v0, .int v1, .int v2, .null] st h (QZ z)) st (fun q => tX8_isSameWord_29 v0 v1 v2 h q) q) q)
    kRZ_ok (Or.inr rfl) (by decide +kernel) (by decide +kernel) hf
def gX8_isSameWord (v0 : Nat) (v1 : Int32) (h : aH) : Option (Int32 × aH) := fX8_isSameWord_0 v0 v1 h
theorem zX8_isSameWord {d : Nat} {z : Int32 × aH} {v0 : Nat} {v1 : Int32} {h : aH} (q : gX8_isSameWord v0 v1 h = some z) : CT (d + 0) mX8_isSameWord (0, 0) [.ref v0, .int v1] h (QZ z) :=
  ct_ev (by decide +kernel) (Nat.le_of_ble_eq_true rfl) QZ_r (jm [2, 1, 0, 0] (fun v0 v1 => fX8_isSameWord_0 v0 v1 h) (fun v0 v1 q => tX8_isSameWord_0 v0 v1 h q) q)
def wX8_wordHere_26 : List En := [(.iconst (-1), 0, 0, 0), (.ireturn, 0, 0, 0)]
def fX8_wordHere_26 (h : aH) : Option (Int32 × aH) :=
  some ((kI (-1)), h)
theorem tX8_wordHere_26 {d : Nat} {z : Int32 × aH} (h : aH) (hf : fX8_wordHere_26 h = some z) : Ev (d + 1) none mX8_wordHere (0, 0) 26 [.null, .null] [] h (QI z) := 
  go_ok (X := none) (blk := wX8_wordHere_26) (np := 28) (tt := 0) (kN := fun _ _ _ => none) (kT := fun _ _ _ => none) (kR := kRI)
    (fun _ _ _ q => nos q)
    (fun _ _ _ q => nos q)
    kRI_ok (Or.inr rfl) (by decide +kernel) (by decide +kernel) hf
def wX8_wordHere_20 : List En := [(.iinc 1 1, 0, 0, 0), (.goto (-21), 2, 0, 0)]
def fX8_wordHere_20 (k2 : Nat → Int32 → aH → Option (Int32 × aH)) (v0 : Nat) (v1 : Int32) (h : aH) : Option (Int32 × aH) :=
  k2 v0 (v1 + kI 1) h
theorem tX8_wordHere_20 {d : Nat} {z : Int32 × aH} {k2 : Nat → Int32 → aH → Option (Int32 × aH)} (hk2 : ∀ (v0 : Nat) (v1 : Int32) (h : aH), k2 v0 v1 h = some z → Ev (d + 1) none mX8_wordHere (0, 0) 2 [.ref v0, .int v1] [] h (QI z)) (v0 : Nat) (v1 : Int32) (h : aH) (hf : fX8_wordHere_20 k2 v0 v1 h = some z) : Ev (d + 1) none mX8_wordHere (0, 0) 20 [.ref v0, .int v1] [] h (QI z) := 
  go_ok (X := none) (blk := wX8_wordHere_20) (np := 26) (tt := 2) (kN := fun _ _ _ => none) (kT := fun xs h st => app [2, 1] (fun v0 v1 => apS [] (k2 v0 v1 h) st) xs) (kR := kRI)
    (fun _ _ _ q => nos q)
    (fun xs h st q => jm [2, 1] _ (fun v0 v1 q => apS_ok [] _ (fun st => Ev (d + 1) none mX8_wordHere (0, 0) 2 [.ref v0, .int v1] st h (QI z)) st (fun q => hk2 v0 v1 h q) q) q)
    kRI_ok (Or.inr rfl) (by decide +kernel) (by decide +kernel) hf
def wX8_wordHere_18 : List En := [(.iload_n 1, 0, 0, 0), (.ireturn, 0, 0, 0)]
def fX8_wordHere_18 (v1 : Int32) (h : aH) : Option (Int32 × aH) :=
  some (v1, h)
theorem tX8_wordHere_18 {d : Nat} {z : Int32 × aH} (v1 : Int32) (h : aH) (hf : fX8_wordHere_18 v1 h = some z) : Ev (d + 1) none mX8_wordHere (0, 0) 18 [.null, .int v1] [] h (QI z) := 
  go_ok (X := none) (blk := wX8_wordHere_18) (np := 20) (tt := 0) (kN := fun _ _ _ => none) (kT := fun _ _ _ => none) (kR := kRI)
    (fun _ _ _ q => nos q)
    (fun _ _ _ q => nos q)
    kRI_ok (Or.inr rfl) (by decide +kernel) (by decide +kernel) hf
def wX8_wordHere_15 : List En := [(.ifCond .eq 5, 20, 0, 0)]
def fX8_wordHere_15 (k2 : Nat → Int32 → aH → Option (Int32 × aH)) (v0 : Nat) (v1 : Int32) (s0 : Int32) (h : aH) : Option (Int32 × aH) :=
  if s0 = 0 then fX8_wordHere_20 k2 v0 v1 h else fX8_wordHere_18 v1 h
theorem tX8_wordHere_15 {d : Nat} {z : Int32 × aH} {k2 : Nat → Int32 → aH → Option (Int32 × aH)} (hk2 : ∀ (v0 : Nat) (v1 : Int32) (h : aH), k2 v0 v1 h = some z → Ev (d + 1) none mX8_wordHere (0, 0) 2 [.ref v0, .int v1] [] h (QI z)) (v0 : Nat) (v1 : Int32) (s0 : Int32) (h : aH) (hf : fX8_wordHere_15 k2 v0 v1 s0 h = some z) : Ev (d + 1) none mX8_wordHere (0, 0) 15 [.ref v0, .int v1] [.int s0] h (QI z) := 
  go_ok (X := none) (blk := wX8_wordHere_15) (np := 18) (tt := 20) (kN := fun xs h st => app [0, 1] (fun v1 => apS [] (fX8_wordHere_18 v1 h) st) xs) (kT := fun xs h st => app [2, 1] (fun v0 v1 => apS [] (fX8_wordHere_20 k2 v0 v1 h) st) xs) (kR := kRI)
    (fun xs h st q => jm [0, 1] _ (fun v1 q => apS_ok [] _ (fun st => Ev (d + 1) none mX8_wordHere (0, 0) 18 [.null, .int v1] st h (QI z)) st (fun q => tX8_wordHere_18 v1 h q) q) q)
    (fun xs h st q => jm [2, 1] _ (fun v0 v1 q => apS_ok [] _ (fun st => Ev (d + 1) none mX8_wordHere (0, 0) 20 [.ref v0, .int v1] st h (QI z)) st (fun q => tX8_wordHere_20 hk2 v0 v1 h q) q) q)
    kRI_ok (Or.inr rfl) (by decide +kernel) (by decide +kernel) hf
theorem kqX8_wordHere_12 : okC mX8_wordHere 12 (.invokevirtual 214) 45 29 0 1 = true := by decide +kernel
def fX8_wordHere_12 (k2 : Nat → Int32 → aH → Option (Int32 × aH)) (v0 : Nat) (v1 : Int32) (s0 : Int32) (s1 : Nat) (h : aH) : Option (Int32 × aH) :=
  (isO h 8 s1).bind fun _ =>
  (gX8_isSameWord s1 s0 h).bind fun r =>
  fX8_wordHere_15 k2 v0 v1 r.1 r.2
theorem tX8_wordHere_12 {d : Nat} {z : Int32 × aH} {k2 : Nat → Int32 → aH → Option (Int32 × aH)} (hk2 : ∀ (v0 : Nat) (v1 : Int32) (h : aH), k2 v0 v1 h = some z → Ev (d + 1) none mX8_wordHere (0, 0) 2 [.ref v0, .int v1] [] h (QI z)) (v0 : Nat) (v1 : Int32) (s0 : Int32) (s1 : Nat) (h : aH) (hf : fX8_wordHere_12 k2 v0 v1 s0 s1 h = some z) : Ev (d + 1) none mX8_wordHere (0, 0) 12 [.ref v0, .int v1] [.int s0, .ref s1] h (QI z) := by
  obtain ⟨_, h1, hf⟩ := bnd hf
  obtain ⟨fs, ho⟩ := isO_ok h1
  obtain ⟨r, h2, hf⟩ := bnd hf
  refine ev_V kqX8_wordHere_12 jX8_isSameWord (zX8_isSameWord (d := d + 0) h2) ho rfl rfl (Nat.le_of_ble_eq_true rfl) rfl (as := [.int s0]) (rest := []) rfl (Nat.le_of_ble_eq_true rfl) (fun _ _ hq => ?_)
  obtain ⟨-, rfl, rfl⟩ := hq
  exact jm [2, 1] (fun v0 v1 => fX8_wordHere_15 k2 v0 v1 r.1 r.2) (fun v0 v1 q => tX8_wordHere_15 hk2 v0 v1 r.1 r.2 q) hf
def wX8_wordHere_10 : List En := [(.aload_n 0, 0, 0, 0), (.iload_n 1, 0, 0, 0)]
def fX8_wordHere_10 (k2 : Nat → Int32 → aH → Option (Int32 × aH)) (v0 : Nat) (v1 : Int32) (h : aH) : Option (Int32 × aH) :=
  fX8_wordHere_12 k2 v0 v1 v1 v0 h
theorem tX8_wordHere_10 {d : Nat} {z : Int32 × aH} {k2 : Nat → Int32 → aH → Option (Int32 × aH)} (hk2 : ∀ (v0 : Nat) (v1 : Int32) (h : aH), k2 v0 v1 h = some z → Ev (d + 1) none mX8_wordHere (0, 0) 2 [.ref v0, .int v1] [] h (QI z)) (v0 : Nat) (v1 : Int32) (h : aH) (hf : fX8_wordHere_10 k2 v0 v1 h = some z) : Ev (d + 1) none mX8_wordHere (0, 0) 10 [.ref v0, .int v1] [] h (QI z) := 
  go_ok (X := none) (blk := wX8_wordHere_10) (np := 12) (tt := 0) (kN := fun xs h st => app [2, 1] (fun v0 v1 => apS [1, 2] (fun s0 s1 => fX8_wordHere_12 k2 v0 v1 s0 s1 h) st) xs) (kT := fun _ _ _ => none) (kR := kRI)
    (fun xs h st q => jm [2, 1] _ (fun v0 v1 q => apS_ok [1, 2] _ (fun st => Ev (d + 1) none mX8_wordHere (0, 0) 12 [.ref v0, .int v1] st h (QI z)) st (fun s0 s1 q => tX8_wordHere_12 hk2 v0 v1 s0 s1 h q) q) q)
    (fun _ _ _ q => nos q)
    kRI_ok (Or.inr rfl) (by decide +kernel) (by decide +kernel) hf
def wX8_wordHere_2 : List En := [(.iload_n 1, 0, 0, 0), (.aload_n 0, 0, 0, 0), (.getfield 50, 11, 8, 8), (.if_icmp .ge 19, 26, 0, 0)]
def fX8_wordHere_2 (k2 : Nat → Int32 → aH → Option (Int32 × aH)) (v0 : Nat) (v1 : Int32) (h : aH) : Option (Int32 × aH) :=
  (gFI h 8 v0 8).bind fun t1 =>
  if v1 < t1 then fX8_wordHere_10 k2 v0 v1 h else fX8_wordHere_26 h
theorem tX8_wordHere_2 {d : Nat} {z : Int32 × aH} {k2 : Nat → Int32 → aH → Option (Int32 × aH)} (hk2 : ∀ (v0 : Nat) (v1 : Int32) (h : aH), k2 v0 v1 h = some z → Ev (d + 1) none mX8_wordHere (0, 0) 2 [.ref v0, .int v1] [] h (QI z)) (v0 : Nat) (v1 : Int32) (h : aH) (hf : fX8_wordHere_2 k2 v0 v1 h = some z) : Ev (d + 1) none mX8_wordHere (0, 0) 2 [.ref v0, .int v1] [] h (QI z) := 
  go_ok (X := none) (blk := wX8_wordHere_2) (np := 10) (tt := 26) (kN := fun xs h st => app [2, 1] (fun v0 v1 => apS [] (fX8_wordHere_10 k2 v0 v1 h) st) xs) (kT := fun xs h st => app [0, 0] (apS [] (fX8_wordHere_26 h) st) xs) (kR := kRI)
    (fun xs h st q => jm [2, 1] _ (fun v0 v1 q => apS_ok [] _ (fun st => Ev (d + 1) none mX8_wordHere (0, 0) 10 [.ref v0, .int v1] st h (QI z)) st (fun q => tX8_wordHere_10 hk2 v0 v1 h q) q) q)
    (fun xs h st q => jm [0, 0] _ (fun q => apS_ok [] _ (fun st => Ev (d + 1) none mX8_wordHere (0, 0) 26 [.null, .null] st h (QI z)) st (fun q => tX8_wordHere_26 h q) q) q)
    kRI_ok (Or.inr rfl) (by decide +kernel) (by decide +kernel) hf
def lX8_wordHere_2 : Nat → Nat → Int32 → aH → Option (Int32 × aH)
  | 0, _, _, _ => none
  | n + 1, v0, v1, h => fX8_wordHere_2 (lX8_wordHere_2 n) v0 v1 h
theorem uX8_wordHere_2 {d : Nat} {z : Int32 × aH} : ∀ (n : Nat) (v0 : Nat) (v1 : Int32) (h : aH), lX8_wordHere_2 n v0 v1 h = some z → Ev (d + 1) none mX8_wordHere (0, 0) 2 [.ref v0, .int v1] [] h (QI z) := by
  intro n
  induction n with
  | zero => intro _ _ _ q; exact nos (show (none : Option (Int32 × aH)) = some z from q)
  | succ n ih => intro v0 v1 h q; exact tX8_wordHere_2 ih v0 v1 h q
def wX8_wordHere_0 : List En := [(.iconst 0, 0, 0, 0), (.istore_n 1, 0, 0, 0)]
def fX8_wordHere_0 (v0 : Nat) (h : aH) : Option (Int32 × aH) :=
  lX8_wordHere_2 FU v0 (kI 0) h
theorem tX8_wordHere_0 {d : Nat} {z : Int32 × aH} (v0 : Nat) (h : aH) (hf : fX8_wordHere_0 v0 h = some z) : Ev (d + 1) none mX8_wordHere (0, 0) 0 [.ref v0, .null] [] h (QI z) := 
  go_ok (X := none) (blk := wX8_wordHere_0) (np := 2) (tt := 0) (kN := fun xs h st => app [2, 1] (fun v0 v1 => apS [] (lX8_wordHere_2 FU v0 v1 h) st) xs) (kT := fun _ _ _ => none) (kR := kRI)
    (fun xs h st q => jm [2, 1] _ (fun v0 v1 q => apS_ok [] _ (fun st => Ev (d + 1) none mX8_wordHere (0, 0) 2 [.ref v0, .int v1] st h (QI z)) st (fun q => uX8_wordHere_2 FU v0 v1 h q) q) q)
    (fun _ _ _ q => nos q)
    kRI_ok (Or.inr rfl) (by decide +kernel) (by decide +kernel) hf
def gX8_wordHere (v0 : Nat) (h : aH) : Option (Int32 × aH) := fX8_wordHere_0 v0 h
theorem zX8_wordHere {d : Nat} {z : Int32 × aH} {v0 : Nat} {h : aH} (q : gX8_wordHere v0 h = some z) : CT (d + 1) mX8_wordHere (0, 0) [.ref v0] h (QI z) :=
  ct_ev (by decide +kernel) (Nat.le_of_ble_eq_true rfl) QI_r (jm [2, 0] (fun v0 => fX8_wordHere_0 v0 h) (fun v0 q => tX8_wordHere_0 v0 h q) q)
def wX9_fastingOn_39 : List En := [(.iload_n 2, 0, 0, 0), (.ireturn, 0, 0, 0)]
def fX9_fastingOn_39 (v2 : Int32) (h : aH) : Option (Int32 × aH) :=
  some (v2, h)
theorem tX9_fastingOn_39 {d : Nat} {z : Int32 × aH} (v2 : Int32) (h : aH) (hf : fX9_fastingOn_39 v2 h = some z) : Ev (d + 0) none mX9_fastingOn (0, 0) 39 [.null, .null, .int v2, .null] [] h (QI z) := 
  go_ok (X := none) (blk := wX9_fastingOn_39) (np := 41) (tt := 0) (kN := fun _ _ _ => none) (kT := fun _ _ _ => none) (kR := kRI)
    (fun _ _ _ q => nos q)
    (fun _ _ _ q => nos q)
    kRI_ok (Or.inr rfl) (by decide +kernel) (by decide +kernel) hf
def wX9_fastingOn_33 : List En := [(.iinc 3 1, 0, 0, 0), (.goto (-32), 4, 0, 0)]
def fX9_fastingOn_33 (k4 : Nat → Int32 → Int32 → Int32 → aH → Option (Int32 × aH)) (v0 : Nat) (v1 : Int32) (v2 : Int32) (v3 : Int32) (h : aH) : Option (Int32 × aH) :=
  k4 v0 v1 v2 (v3 + kI 1) h
theorem tX9_fastingOn_33 {d : Nat} {z : Int32 × aH} {k4 : Nat → Int32 → Int32 → Int32 → aH → Option (Int32 × aH)} (hk4 : ∀ (v0 : Nat) (v1 : Int32) (v2 : Int32) (v3 : Int32) (h : aH), k4 v0 v1 v2 v3 h = some z → Ev (d + 0) none mX9_fastingOn (0, 0) 4 [.ref v0, .int v1, .int v2, .int v3] [] h (QI z)) (v0 : Nat) (v1 : Int32) (v2 : Int32) (v3 : Int32) (h : aH) (hf : fX9_fastingOn_33 k4 v0 v1 v2 v3 h = some z) : Ev (d + 0) none mX9_fastingOn (0, 0) 33 [.ref v0, .int v1, .int v2, .int v3] [] h (QI z) := 
  go_ok (X := none) (blk := wX9_fastingOn_33) (np := 39) (tt := 4) (kN := fun _ _ _ => none) (kT := fun xs h st => app [2, 1, 1, 1] (fun v0 v1 v2 v3 => apS [] (k4 v0 v1 v2 v3 h) st) xs) (kR := kRI)
    (fun _ _ _ q => nos q)
    (fun xs h st q => jm [2, 1, 1, 1] _ (fun v0 v1 v2 v3 q => apS_ok [] _ (fun st => Ev (d + 0) none mX9_fastingOn (0, 0) 4 [.ref v0, .int v1, .int v2, .int v3] st h (QI z)) st (fun q => hk4 v0 v1 v2 v3 h q) q) q)
    kRI_ok (Or.inr rfl) (by decide +kernel) (by decide +kernel) hf
def wX9_fastingOn_22 : List En := [(.iload_n 2, 0, 0, 0), (.iconst 1, 0, 0, 0), (.aload_n 0, 0, 0, 0), (.getfield 27, 146, 9, 13), (.iload_n 3, 0, 0, 0), (.iaload, 0, 0, 0), (.ishl, 0, 0, 0), (.ior, 0, 0, 0), (.istore_n 2, 0, 0, 0)]
def fX9_fastingOn_22 (k4 : Nat → Int32 → Int32 → Int32 → aH → Option (Int32 × aH)) (v0 : Nat) (v1 : Int32) (v2 : Int32) (v3 : Int32) (h : aH) : Option (Int32 × aH) :=
  (gFR h 9 v0 13).bind fun t1 =>
  (aRI (h[t1]?) v3).bind fun t2 =>
  fX9_fastingOn_33 k4 v0 v1 (v2 ||| ((kI 1) <<< (t2 &&& 31))) v3 h
theorem tX9_fastingOn_22 {d : Nat} {z : Int32 × aH} {k4 : Nat → Int32 → Int32 → Int32 → aH → Option (Int32 × aH)} (hk4 : ∀ (v0 : Nat) (v1 : Int32) (v2 : Int32) (v3 : Int32) (h : aH), k4 v0 v1 v2 v3 h = some z → Ev (d + 0) none mX9_fastingOn (0, 0) 4 [.ref v0, .int v1, .int v2, .int v3] [] h (QI z)) (v0 : Nat) (v1 : Int32) (v2 : Int32) (v3 : Int32) (h : aH) (hf : fX9_fastingOn_22 k4 v0 v1 v2 v3 h = some z) : Ev (d + 0) none mX9_fastingOn (0, 0) 22 [.ref v0, .int v1, .int v2, .int v3] [] h (QI z) := 
  go_ok (X := none) (blk := wX9_fastingOn_22) (np := 33) (tt := 0) (kN := fun xs h st => app [2, 1, 1, 1] (fun v0 v1 v2 v3 => apS [] (fX9_fastingOn_33 k4 v0 v1 v2 v3 h) st) xs) (kT := fun _ _ _ => none) (kR := kRI)
    (fun xs h st q => jm [2, 1, 1, 1] _ (fun v0 v1 v2 v3 q => apS_ok [] _ (fun st => Ev (d + 0) none mX9_fastingOn (0, 0) 33 [.ref v0, .int v1, .int v2, .int v3] st h (QI z)) st (fun q => tX9_fastingOn_33 hk4 v0 v1 v2 v3 h q) q) q)
    (fun _ _ _ q => nos q)
    kRI_ok (Or.inr rfl) (by decide +kernel) (by decide +kernel) hf
def wX9_fastingOn_12 : List En := [(.aload_n 0, 0, 0, 0), (.getfield 30, 148, 9, 14), (.iload_n 3, 0, 0, 0), (.iaload, 0, 0, 0), (.iload_n 1, 0, 0, 0), (.if_icmp .ne 14, 33, 0, 0)]
def fX9_fastingOn_12 (k4 : Nat → Int32 → Int32 → Int32 → aH → Option (Int32 × aH)) (v0 : Nat) (v1 : Int32) (v2 : Int32) (v3 : Int32) (h : aH) : Option (Int32 × aH) :=
  (gFR h 9 v0 14).bind fun t1 =>
  (aRI (h[t1]?) v3).bind fun t2 =>
  if t2 = v1 then fX9_fastingOn_22 k4 v0 v1 v2 v3 h else fX9_fastingOn_33 k4 v0 v1 v2 v3 h
theorem tX9_fastingOn_12 {d : Nat} {z : Int32 × aH} {k4 : Nat → Int32 → Int32 → Int32 → aH → Option (Int32 × aH)} (hk4 : ∀ (v0 : Nat) (v1 : Int32) (v2 : Int32) (v3 : Int32) (h : aH), k4 v0 v1 v2 v3 h = some z → Ev (d + 0) none mX9_fastingOn (0, 0) 4 [.ref v0, .int v1, .int v2, .int v3] [] h (QI z)) (v0 : Nat) (v1 : Int32) (v2 : Int32) (v3 : Int32) (h : aH) (hf : fX9_fastingOn_12 k4 v0 v1 v2 v3 h = some z) : Ev (d + 0) none mX9_fastingOn (0, 0) 12 [.ref v0, .int v1, .int v2, .int v3] [] h (QI z) := 
  go_ok (X := none) (blk := wX9_fastingOn_12) (np := 22) (tt := 33) (kN := fun xs h st => app [2, 1, 1, 1] (fun v0 v1 v2 v3 => apS [] (fX9_fastingOn_22 k4 v0 v1 v2 v3 h) st) xs) (kT := fun xs h st => app [2, 1, 1, 1] (fun v0 v1 v2 v3 => apS [] (fX9_fastingOn_33 k4 v0 v1 v2 v3 h) st) xs) (kR := kRI)
    (fun xs h st q => jm [2, 1, 1, 1] _ (fun v0 v1 v2 v3 q => apS_ok [] _ (fun st => Ev (d + 0) none mX9_fastingOn (0, 0) 22 [.ref v0, .int v1, .int v2, .int v3] st h (QI z)) st (fun q => tX9_fastingOn_22 hk4 v0 v1 v2 v3 h q) q) q)
    (fun xs h st q => jm [2, 1, 1, 1] _ (fun v0 v1 v2 v3 q => apS_ok [] _ (fun st => Ev (d + 0) none mX9_fastingOn (0, 0) 33 [.ref v0, .int v1, .int v2, .int v3] st h (QI z)) st (fun q => tX9_fastingOn_33 hk4 v0 v1 v2 v3 h q) q) q)
    kRI_ok (Or.inr rfl) (by decide +kernel) (by decide +kernel) hf
def wX9_fastingOn_4 : List En := [(.iload_n 3, 0, 0, 0), (.aload_n 0, 0, 0, 0), (.getfield 61, 117, 9, 5), (.if_icmp .ge 30, 39, 0, 0)]
def fX9_fastingOn_4 (k4 : Nat → Int32 → Int32 → Int32 → aH → Option (Int32 × aH)) (v0 : Nat) (v1 : Int32) (v2 : Int32) (v3 : Int32) (h : aH) : Option (Int32 × aH) :=
  (gFI h 9 v0 5).bind fun t1 =>
  if v3 < t1 then fX9_fastingOn_12 k4 v0 v1 v2 v3 h else fX9_fastingOn_39 v2 h
theorem tX9_fastingOn_4 {d : Nat} {z : Int32 × aH} {k4 : Nat → Int32 → Int32 → Int32 → aH → Option (Int32 × aH)} (hk4 : ∀ (v0 : Nat) (v1 : Int32) (v2 : Int32) (v3 : Int32) (h : aH), k4 v0 v1 v2 v3 h = some z → Ev (d + 0) none mX9_fastingOn (0, 0) 4 [.ref v0, .int v1, .int v2, .int v3] [] h (QI z)) (v0 : Nat) (v1 : Int32) (v2 : Int32) (v3 : Int32) (h : aH) (hf : fX9_fastingOn_4 k4 v0 v1 v2 v3 h = some z) : Ev (d + 0) none mX9_fastingOn (0, 0) 4 [.ref v0, .int v1, .int v2, .int v3] [] h (QI z) := 
  go_ok (X := none) (blk := wX9_fastingOn_4) (np := 12) (tt := 39) (kN := fun xs h st => app [2, 1, 1, 1] (fun v0 v1 v2 v3 => apS [] (fX9_fastingOn_12 k4 v0 v1 v2 v3 h) st) xs) (kT := fun xs h st => app [0, 0, 1, 0] (fun v2 => apS [] (fX9_fastingOn_39 v2 h) st) xs) (kR := kRI)
    (fun xs h st q => jm [2, 1, 1, 1] _ (fun v0 v1 v2 v3 q => apS_ok [] _ (fun st => Ev (d + 0) none mX9_fastingOn (0, 0) 12 [.ref v0, .int v1, .int v2, .int v3] st h (QI z)) st (fun q => tX9_fastingOn_12 hk4 v0 v1 v2 v3 h q) q) q)
    (fun xs h st q => jm [0, 0, 1, 0] _ (fun v2 q => apS_ok [] _ (fun st => Ev (d + 0) none mX9_fastingOn (0, 0) 39 [.null, .null, .int v2, .null] st h (QI z)) st (fun q => tX9_fastingOn_39 v2 h q) q) q)
    kRI_ok (Or.inr rfl) (by decide +kernel) (by decide +kernel) hf
def lX9_fastingOn_4 : Nat → Nat → Int32 → Int32 → Int32 → aH → Option (Int32 × aH)
  | 0, _, _, _, _, _ => none
  | n + 1, v0, v1, v2, v3, h => fX9_fastingOn_4 (lX9_fastingOn_4 n) v0 v1 v2 v3 h
theorem uX9_fastingOn_4 {d : Nat} {z : Int32 × aH} : ∀ (n : Nat) (v0 : Nat) (v1 : Int32) (v2 : Int32) (v3 : Int32) (h : aH), lX9_fastingOn_4 n v0 v1 v2 v3 h = some z → Ev (d + 0) none mX9_fastingOn (0, 0) 4 [.ref v0, .int v1, .int v2, .int v3] [] h (QI z) := by
  intro n
  induction n with
  | zero => intro _ _ _ _ _ q; exact nos (show (none : Option (Int32 × aH)) = some z from q)
  | succ n ih => intro v0 v1 v2 v3 h q; exact tX9_fastingOn_4 ih v0 v1 v2 v3 h q
def wX9_fastingOn_0 : List En := [(.iconst 0, 0, 0, 0), (.istore_n 2, 0, 0, 0), (.iconst 0, 0, 0, 0), (.istore_n 3, 0, 0, 0)]
def fX9_fastingOn_0 (v0 : Nat) (v1 : Int32) (h : aH) : Option (Int32 × aH) :=
  lX9_fastingOn_4 FU v0 v1 (kI 0) (kI 0) h
theorem tX9_fastingOn_0 {d : Nat} {z : Int32 × aH} (v0 : Nat) (v1 : Int32) (h : aH) (hf : fX9_fastingOn_0 v0 v1 h = some z) : Ev (d + 0) none mX9_fastingOn (0, 0) 0 [.ref v0, .int v1, .null, .null] [] h (QI z) := 
  go_ok (X := none) (blk := wX9_fastingOn_0) (np := 4) (tt := 0) (kN := fun xs h st => app [2, 1, 1, 1] (fun v0 v1 v2 v3 => apS [] (lX9_fastingOn_4 FU v0 v1 v2 v3 h) st) xs) (kT := fun _ _ _ => none) (kR := kRI)
    (fun xs h st q => jm [2, 1, 1, 1] _ (fun v0 v1 v2 v3 q => apS_ok [] _ (fun st => Ev (d + 0) none mX9_fastingOn (0, 0) 4 [.ref v0, .int v1, .int v2, .int v3] st h (QI z)) st (fun q => uX9_fastingOn_4 FU v0 v1 v2 v3 h q) q) q)
    (fun _ _ _ q => nos q)
    kRI_ok (Or.inr rfl) (by decide +kernel) (by decide +kernel) hf
def gX9_fastingOn (v0 : Nat) (v1 : Int32) (h : aH) : Option (Int32 × aH) := fX9_fastingOn_0 v0 v1 h
theorem zX9_fastingOn {d : Nat} {z : Int32 × aH} {v0 : Nat} {v1 : Int32} {h : aH} (q : gX9_fastingOn v0 v1 h = some z) : CT (d + 0) mX9_fastingOn (0, 0) [.ref v0, .int v1] h (QI z) :=
  ct_ev (by decide +kernel) (Nat.le_of_ble_eq_true rfl) QI_r (jm [2, 1, 0, 0] (fun v0 v1 => fX9_fastingOn_0 v0 v1 h) (fun v0 v1 q => tX9_fastingOn_0 v0 v1 h q) q)
def wX9_isHeardOn_28 : List En := [(.iconst 0, 0, 0, 0), (.ireturn, 0, 0, 0)]
def fX9_isHeardOn_28 (h : aH) : Option (Int32 × aH) :=
  if (kI 0) = 0 ∨ (kI 0) = 1 then some ((kI 0), h) else none
theorem tX9_isHeardOn_28 {d : Nat} {z : Int32 × aH} (h : aH) (hf : fX9_isHeardOn_28 h = some z) : Ev (d + 0) none mX9_isHeardOn (0, 0) 28 [.null, .null, .null] [] h (QZ z) := 
  go_ok (X := none) (blk := wX9_isHeardOn_28) (np := 30) (tt := 0) (kN := fun _ _ _ => none) (kT := fun _ _ _ => none) (kR := kRZ)
    (fun _ _ _ q => nos q)
    (fun _ _ _ q => nos q)
    kRZ_ok (Or.inr rfl) (by decide +kernel) (by decide +kernel) hf
def wX9_isHeardOn_22 : List En := [(.iinc 2 1, 0, 0, 0), (.goto (-23), 2, 0, 0)]
def fX9_isHeardOn_22 (k2 : Nat → Int32 → Int32 → aH → Option (Int32 × aH)) (v0 : Nat) (v1 : Int32) (v2 : Int32) (h : aH) : Option (Int32 × aH) :=
  k2 v0 v1 (v2 + kI 1) h
theorem tX9_isHeardOn_22 {d : Nat} {z : Int32 × aH} {k2 : Nat → Int32 → Int32 → aH → Option (Int32 × aH)} (hk2 : ∀ (v0 : Nat) (v1 : Int32) (v2 : Int32) (h : aH), k2 v0 v1 v2 h = some z → Ev (d + 0) none mX9_isHeardOn (0, 0) 2 [.ref v0, .int v1, .int v2] [] h (QZ z)) (v0 : Nat) (v1 : Int32) (v2 : Int32) (h : aH) (hf : fX9_isHeardOn_22 k2 v0 v1 v2 h = some z) : Ev (d + 0) none mX9_isHeardOn (0, 0) 22 [.ref v0, .int v1, .int v2] [] h (QZ z) := 
  go_ok (X := none) (blk := wX9_isHeardOn_22) (np := 28) (tt := 2) (kN := fun _ _ _ => none) (kT := fun xs h st => app [2, 1, 1] (fun v0 v1 v2 => apS [] (k2 v0 v1 v2 h) st) xs) (kR := kRZ)
    (fun _ _ _ q => nos q)
    (fun xs h st q => jm [2, 1, 1] _ (fun v0 v1 v2 q => apS_ok [] _ (fun st => Ev (d + 0) none mX9_isHeardOn (0, 0) 2 [.ref v0, .int v1, .int v2] st h (QZ z)) st (fun q => hk2 v0 v1 v2 h q) q) q)
    kRZ_ok (Or.inr rfl) (by decide +kernel) (by decide +kernel) hf
def wX9_isHeardOn_20 : List En := [(.iconst 1, 0, 0, 0), (.ireturn, 0, 0, 0)]
def fX9_isHeardOn_20 (h : aH) : Option (Int32 × aH) :=
  if (kI 1) = 0 ∨ (kI 1) = 1 then some ((kI 1), h) else none
theorem tX9_isHeardOn_20 {d : Nat} {z : Int32 × aH} (h : aH) (hf : fX9_isHeardOn_20 h = some z) : Ev (d + 0) none mX9_isHeardOn (0, 0) 20 [.null, .null, .null] [] h (QZ z) := 
  go_ok (X := none) (blk := wX9_isHeardOn_20) (np := 22) (tt := 0) (kN := fun _ _ _ => none) (kT := fun _ _ _ => none) (kR := kRZ)
    (fun _ _ _ q => nos q)
    (fun _ _ _ q => nos q)
    kRZ_ok (Or.inr rfl) (by decide +kernel) (by decide +kernel) hf
def wX9_isHeardOn_10 : List En := [(.aload_n 0, 0, 0, 0), (.getfield 42, 159, 9, 18), (.iload_n 2, 0, 0, 0), (.iaload, 0, 0, 0), (.iload_n 1, 0, 0, 0), (.if_icmp .ne 5, 22, 0, 0)]
def fX9_isHeardOn_10 (k2 : Nat → Int32 → Int32 → aH → Option (Int32 × aH)) (v0 : Nat) (v1 : Int32) (v2 : Int32) (h : aH) : Option (Int32 × aH) :=
  (gFR h 9 v0 18).bind fun t1 =>
  (aRI (h[t1]?) v2).bind fun t2 =>
  if t2 = v1 then fX9_isHeardOn_20 h else fX9_isHeardOn_22 k2 v0 v1 v2 h
theorem tX9_isHeardOn_10 {d : Nat} {z : Int32 × aH} {k2 : Nat → Int32 → Int32 → aH → Option (Int32 × aH)} (hk2 : ∀ (v0 : Nat) (v1 : Int32) (v2 : Int32) (h : aH), k2 v0 v1 v2 h = some z → Ev (d + 0) none mX9_isHeardOn (0, 0) 2 [.ref v0, .int v1, .int v2] [] h (QZ z)) (v0 : Nat) (v1 : Int32) (v2 : Int32) (h : aH) (hf : fX9_isHeardOn_10 k2 v0 v1 v2 h = some z) : Ev (d + 0) none mX9_isHeardOn (0, 0) 10 [.ref v0, .int v1, .int v2] [] h (QZ z) := 
  go_ok (X := none) (blk := wX9_isHeardOn_10) (np := 20) (tt := 22) (kN := fun xs h st => app [0, 0, 0] (apS [] (fX9_isHeardOn_20 h) st) xs) (kT := fun xs h st => app [2, 1, 1] (fun v0 v1 v2 => apS [] (fX9_isHeardOn_22 k2 v0 v1 v2 h) st) xs) (kR := kRZ)
    (fun xs h st q => jm [0, 0, 0] _ (fun q => apS_ok [] _ (fun st => Ev (d + 0) none mX9_isHeardOn (0, 0) 20 [.null, .null, .null] st h (QZ z)) st (fun q => tX9_isHeardOn_20 h q) q) q)
    (fun xs h st q => jm [2, 1, 1] _ (fun v0 v1 v2 q => apS_ok [] _ (fun st => Ev (d + 0) none mX9_isHeardOn (0, 0) 22 [.ref v0, .int v1, .int v2] st h (QZ z)) st (fun q => tX9_isHeardOn_22 hk2 v0 v1 v2 h q) q) q)
    kRZ_ok (Or.inr rfl) (by decide +kernel) (by decide +kernel) hf
def wX9_isHeardOn_2 : List En := [(.iload_n 2, 0, 0, 0), (.aload_n 0, 0, 0, 0), (.getfield 67, 125, 9, 7), (.if_icmp .ge 21, 28, 0, 0)]
def fX9_isHeardOn_2 (k2 : Nat → Int32 → Int32 → aH → Option (Int32 × aH)) (v0 : Nat) (v1 : Int32) (v2 : Int32) (h : aH) : Option (Int32 × aH) :=
  (gFI h 9 v0 7).bind fun t1 =>
  if v2 < t1 then fX9_isHeardOn_10 k2 v0 v1 v2 h else fX9_isHeardOn_28 h
theorem tX9_isHeardOn_2 {d : Nat} {z : Int32 × aH} {k2 : Nat → Int32 → Int32 → aH → Option (Int32 × aH)} (hk2 : ∀ (v0 : Nat) (v1 : Int32) (v2 : Int32) (h : aH), k2 v0 v1 v2 h = some z → Ev (d + 0) none mX9_isHeardOn (0, 0) 2 [.ref v0, .int v1, .int v2] [] h (QZ z)) (v0 : Nat) (v1 : Int32) (v2 : Int32) (h : aH) (hf : fX9_isHeardOn_2 k2 v0 v1 v2 h = some z) : Ev (d + 0) none mX9_isHeardOn (0, 0) 2 [.ref v0, .int v1, .int v2] [] h (QZ z) := 
  go_ok (X := none) (blk := wX9_isHeardOn_2) (np := 10) (tt := 28) (kN := fun xs h st => app [2, 1, 1] (fun v0 v1 v2 => apS [] (fX9_isHeardOn_10 k2 v0 v1 v2 h) st) xs) (kT := fun xs h st => app [0, 0, 0] (apS [] (fX9_isHeardOn_28 h) st) xs) (kR := kRZ)
    (fun xs h st q => jm [2, 1, 1] _ (fun v0 v1 v2 q => apS_ok [] _ (fun st => Ev (d + 0) none mX9_isHeardOn (0, 0) 10 [.ref v0, .int v1, .int v2] st h (QZ z)) st (fun q => tX9_isHeardOn_10 hk2 v0 v1 v2 h q) q) q)
    (fun xs h st q => jm [0, 0, 0] _ (fun q => apS_ok [] _ (fun st => Ev (d + 0) none mX9_isHeardOn (0, 0) 28 [.null, .null, .null] st h (QZ z)) st (fun q => tX9_isHeardOn_28 h q) q) q)
    kRZ_ok (Or.inr rfl) (by decide +kernel) (by decide +kernel) hf
def lX9_isHeardOn_2 : Nat → Nat → Int32 → Int32 → aH → Option (Int32 × aH)
  | 0, _, _, _, _ => none
  | n + 1, v0, v1, v2, h => fX9_isHeardOn_2 (lX9_isHeardOn_2 n) v0 v1 v2 h
theorem uX9_isHeardOn_2 {d : Nat} {z : Int32 × aH} : ∀ (n : Nat) (v0 : Nat) (v1 : Int32) (v2 : Int32) (h : aH), lX9_isHeardOn_2 n v0 v1 v2 h = some z → Ev (d + 0) none mX9_isHeardOn (0, 0) 2 [.ref v0, .int v1, .int v2] [] h (QZ z) := by
  intro n
  induction n with
  | zero => intro _ _ _ _ q; exact nos (show (none : Option (Int32 × aH)) = some z from q)
  | succ n ih => intro v0 v1 v2 h q; exact tX9_isHeardOn_2 ih v0 v1 v2 h q
def wX9_isHeardOn_0 : List En := [(.iconst 0, 0, 0, 0), (.istore_n 2, 0, 0, 0)]
def fX9_isHeardOn_0 (v0 : Nat) (v1 : Int32) (h : aH) : Option (Int32 × aH) :=
  lX9_isHeardOn_2 FU v0 v1 (kI 0) h
theorem tX9_isHeardOn_0 {d : Nat} {z : Int32 × aH} (v0 : Nat) (v1 : Int32) (h : aH) (hf : fX9_isHeardOn_0 v0 v1 h = some z) : Ev (d + 0) none mX9_isHeardOn (0, 0) 0 [.ref v0, .int v1, .null] [] h (QZ z) := 
  go_ok (X := none) (blk := wX9_isHeardOn_0) (np := 2) (tt := 0) (kN := fun xs h st => app [2, 1, 1] (fun v0 v1 v2 => apS [] (lX9_isHeardOn_2 FU v0 v1 v2 h) st) xs) (kT := fun _ _ _ => none) (kR := kRZ)
    (fun xs h st q => jm [2, 1, 1] _ (fun v0 v1 v2 q => apS_ok [] _ (fun st => Ev (d + 0) none mX9_isHeardOn (0, 0) 2 [.ref v0, .int v1, .int v2] st h (QZ z)) st (fun q => uX9_isHeardOn_2 FU v0 v1 v2 h q) q) q)
    (fun _ _ _ q => nos q)
    kRZ_ok (Or.inr rfl) (by decide +kernel) (by decide +kernel) hf
def gX9_isHeardOn (v0 : Nat) (v1 : Int32) (h : aH) : Option (Int32 × aH) := fX9_isHeardOn_0 v0 v1 h
theorem zX9_isHeardOn {d : Nat} {z : Int32 × aH} {v0 : Nat} {v1 : Int32} {h : aH} (q : gX9_isHeardOn v0 v1 h = some z) : CT (d + 0) mX9_isHeardOn (0, 0) [.ref v0, .int v1] h (QZ z) :=
  ct_ev (by decide +kernel) (Nat.le_of_ble_eq_true rfl) QZ_r (jm [2, 1, 0] (fun v0 v1 => fX9_isHeardOn_0 v0 v1 h) (fun v0 v1 q => tX9_isHeardOn_0 v0 v1 h q) q)
def wX9_hasFrom_28 : List En := [(.iconst 0, 0, 0, 0), (.ireturn, 0, 0, 0)]
def fX9_hasFrom_28 (h : aH) : Option (Int32 × aH) :=
  if (kI 0) = 0 ∨ (kI 0) = 1 then some ((kI 0), h) else none
theorem tX9_hasFrom_28 {d : Nat} {z : Int32 × aH} (h : aH) (hf : fX9_hasFrom_28 h = some z) : Ev (d + 0) none mX9_hasFrom (0, 0) 28 [.null, .null, .null] [] h (QZ z) := 
  go_ok (X := none) (blk := wX9_hasFrom_28) (np := 30) (tt := 0) (kN := fun _ _ _ => none) (kT := fun _ _ _ => none) (kR := kRZ)
    (fun _ _ _ q => nos q)
    (fun _ _ _ q => nos q)
    kRZ_ok (Or.inr rfl) (by decide +kernel) (by decide +kernel) hf
def wX9_hasFrom_22 : List En := [(.iinc 2 1, 0, 0, 0), (.goto (-23), 2, 0, 0)]
def fX9_hasFrom_22 (k2 : Nat → Int32 → Int32 → aH → Option (Int32 × aH)) (v0 : Nat) (v1 : Int32) (v2 : Int32) (h : aH) : Option (Int32 × aH) :=
  k2 v0 v1 (v2 + kI 1) h
theorem tX9_hasFrom_22 {d : Nat} {z : Int32 × aH} {k2 : Nat → Int32 → Int32 → aH → Option (Int32 × aH)} (hk2 : ∀ (v0 : Nat) (v1 : Int32) (v2 : Int32) (h : aH), k2 v0 v1 v2 h = some z → Ev (d + 0) none mX9_hasFrom (0, 0) 2 [.ref v0, .int v1, .int v2] [] h (QZ z)) (v0 : Nat) (v1 : Int32) (v2 : Int32) (h : aH) (hf : fX9_hasFrom_22 k2 v0 v1 v2 h = some z) : Ev (d + 0) none mX9_hasFrom (0, 0) 22 [.ref v0, .int v1, .int v2] [] h (QZ z) := 
  go_ok (X := none) (blk := wX9_hasFrom_22) (np := 28) (tt := 2) (kN := fun _ _ _ => none) (kT := fun xs h st => app [2, 1, 1] (fun v0 v1 v2 => apS [] (k2 v0 v1 v2 h) st) xs) (kR := kRZ)
    (fun _ _ _ q => nos q)
    (fun xs h st q => jm [2, 1, 1] _ (fun v0 v1 v2 q => apS_ok [] _ (fun st => Ev (d + 0) none mX9_hasFrom (0, 0) 2 [.ref v0, .int v1, .int v2] st h (QZ z)) st (fun q => hk2 v0 v1 v2 h q) q) q)
    kRZ_ok (Or.inr rfl) (by decide +kernel) (by decide +kernel) hf
def wX9_hasFrom_20 : List En := [(.iconst 1, 0, 0, 0), (.ireturn, 0, 0, 0)]
def fX9_hasFrom_20 (h : aH) : Option (Int32 × aH) :=
  if (kI 1) = 0 ∨ (kI 1) = 1 then some ((kI 1), h) else none
theorem tX9_hasFrom_20 {d : Nat} {z : Int32 × aH} (h : aH) (hf : fX9_hasFrom_20 h = some z) : Ev (d + 0) none mX9_hasFrom (0, 0) 20 [.null, .null, .null] [] h (QZ z) := 
  go_ok (X := none) (blk := wX9_hasFrom_20) (np := 22) (tt := 0) (kN := fun _ _ _ => none) (kT := fun _ _ _ => none) (kR := kRZ)
    (fun _ _ _ q => nos q)
    (fun _ _ _ q => nos q)
    kRZ_ok (Or.inr rfl) (by decide +kernel) (by decide +kernel) hf
def wX9_hasFrom_10 : List En := [(.aload_n 0, 0, 0, 0), (.getfield 21, 140, 9, 11), (.iload_n 2, 0, 0, 0), (.iaload, 0, 0, 0), (.iload_n 1, 0, 0, 0), (.if_icmp .ne 5, 22, 0, 0)]
def fX9_hasFrom_10 (k2 : Nat → Int32 → Int32 → aH → Option (Int32 × aH)) (v0 : Nat) (v1 : Int32) (v2 : Int32) (h : aH) : Option (Int32 × aH) :=
  (gFR h 9 v0 11).bind fun t1 =>
  (aRI (h[t1]?) v2).bind fun t2 =>
  if t2 = v1 then fX9_hasFrom_20 h else fX9_hasFrom_22 k2 v0 v1 v2 h
theorem tX9_hasFrom_10 {d : Nat} {z : Int32 × aH} {k2 : Nat → Int32 → Int32 → aH → Option (Int32 × aH)} (hk2 : ∀ (v0 : Nat) (v1 : Int32) (v2 : Int32) (h : aH), k2 v0 v1 v2 h = some z → Ev (d + 0) none mX9_hasFrom (0, 0) 2 [.ref v0, .int v1, .int v2] [] h (QZ z)) (v0 : Nat) (v1 : Int32) (v2 : Int32) (h : aH) (hf : fX9_hasFrom_10 k2 v0 v1 v2 h = some z) : Ev (d + 0) none mX9_hasFrom (0, 0) 10 [.ref v0, .int v1, .int v2] [] h (QZ z) := 
  go_ok (X := none) (blk := wX9_hasFrom_10) (np := 20) (tt := 22) (kN := fun xs h st => app [0, 0, 0] (apS [] (fX9_hasFrom_20 h) st) xs) (kT := fun xs h st => app [2, 1, 1] (fun v0 v1 v2 => apS [] (fX9_hasFrom_22 k2 v0 v1 v2 h) st) xs) (kR := kRZ)
    (fun xs h st q => jm [0, 0, 0] _ (fun q => apS_ok [] _ (fun st => Ev (d + 0) none mX9_hasFrom (0, 0) 20 [.null, .null, .null] st h (QZ z)) st (fun q => tX9_hasFrom_20 h q) q) q)
    (fun xs h st q => jm [2, 1, 1] _ (fun v0 v1 v2 q => apS_ok [] _ (fun st => Ev (d + 0) none mX9_hasFrom (0, 0) 22 [.ref v0, .int v1, .int v2] st h (QZ z)) st (fun q => tX9_hasFrom_22 hk2 v0 v1 v2 h q) q) q)
    kRZ_ok (Or.inr rfl) (by decide +kernel) (by decide +kernel) hf
def wX9_hasFrom_2 : List En := [(.iload_n 2, 0, 0, 0), (.aload_n 0, 0, 0, 0), (.getfield 58, 113, 9, 4), (.if_icmp .ge 21, 28, 0, 0)]
def fX9_hasFrom_2 (k2 : Nat → Int32 → Int32 → aH → Option (Int32 × aH)) (v0 : Nat) (v1 : Int32) (v2 : Int32) (h : aH) : Option (Int32 × aH) :=
  (gFI h 9 v0 4).bind fun t1 =>
  if v2 < t1 then fX9_hasFrom_10 k2 v0 v1 v2 h else fX9_hasFrom_28 h
theorem tX9_hasFrom_2 {d : Nat} {z : Int32 × aH} {k2 : Nat → Int32 → Int32 → aH → Option (Int32 × aH)} (hk2 : ∀ (v0 : Nat) (v1 : Int32) (v2 : Int32) (h : aH), k2 v0 v1 v2 h = some z → Ev (d + 0) none mX9_hasFrom (0, 0) 2 [.ref v0, .int v1, .int v2] [] h (QZ z)) (v0 : Nat) (v1 : Int32) (v2 : Int32) (h : aH) (hf : fX9_hasFrom_2 k2 v0 v1 v2 h = some z) : Ev (d + 0) none mX9_hasFrom (0, 0) 2 [.ref v0, .int v1, .int v2] [] h (QZ z) := 
  go_ok (X := none) (blk := wX9_hasFrom_2) (np := 10) (tt := 28) (kN := fun xs h st => app [2, 1, 1] (fun v0 v1 v2 => apS [] (fX9_hasFrom_10 k2 v0 v1 v2 h) st) xs) (kT := fun xs h st => app [0, 0, 0] (apS [] (fX9_hasFrom_28 h) st) xs) (kR := kRZ)
    (fun xs h st q => jm [2, 1, 1] _ (fun v0 v1 v2 q => apS_ok [] _ (fun st => Ev (d + 0) none mX9_hasFrom (0, 0) 10 [.ref v0, .int v1, .int v2] st h (QZ z)) st (fun q => tX9_hasFrom_10 hk2 v0 v1 v2 h q) q) q)
    (fun xs h st q => jm [0, 0, 0] _ (fun q => apS_ok [] _ (fun st => Ev (d + 0) none mX9_hasFrom (0, 0) 28 [.null, .null, .null] st h (QZ z)) st (fun q => tX9_hasFrom_28 h q) q) q)
    kRZ_ok (Or.inr rfl) (by decide +kernel) (by decide +kernel) hf
def lX9_hasFrom_2 : Nat → Nat → Int32 → Int32 → aH → Option (Int32 × aH)
  | 0, _, _, _, _ => none
  | n + 1, v0, v1, v2, h => fX9_hasFrom_2 (lX9_hasFrom_2 n) v0 v1 v2 h
theorem uX9_hasFrom_2 {d : Nat} {z : Int32 × aH} : ∀ (n : Nat) (v0 : Nat) (v1 : Int32) (v2 : Int32) (h : aH), lX9_hasFrom_2 n v0 v1 v2 h = some z → Ev (d + 0) none mX9_hasFrom (0, 0) 2 [.ref v0, .int v1, .int v2] [] h (QZ z) := by
  intro n
  induction n with
  | zero => intro _ _ _ _ q; exact nos (show (none : Option (Int32 × aH)) = some z from q)
  | succ n ih => intro v0 v1 v2 h q; exact tX9_hasFrom_2 ih v0 v1 v2 h q
def wX9_hasFrom_0 : List En := [(.iconst 0, 0, 0, 0), (.istore_n 2, 0, 0, 0)]
def fX9_hasFrom_0 (v0 : Nat) (v1 : Int32) (h : aH) : Option (Int32 × aH) :=
  lX9_hasFrom_2 FU v0 v1 (kI 0) h
theorem tX9_hasFrom_0 {d : Nat} {z : Int32 × aH} (v0 : Nat) (v1 : Int32) (h : aH) (hf : fX9_hasFrom_0 v0 v1 h = some z) : Ev (d + 0) none mX9_hasFrom (0, 0) 0 [.ref v0, .int v1, .null] [] h (QZ z) := 
  go_ok (X := none) (blk := wX9_hasFrom_0) (np := 2) (tt := 0) (kN := fun xs h st => app [2, 1, 1] (fun v0 v1 v2 => apS [] (lX9_hasFrom_2 FU v0 v1 v2 h) st) xs) (kT := fun _ _ _ => none) (kR := kRZ)
    (fun xs h st q => jm [2, 1, 1] _ (fun v0 v1 v2 q => apS_ok [] _ (fun st => Ev (d + 0) none mX9_hasFrom (0, 0) 2 [.ref v0, .int v1, .int v2] st h (QZ z)) st (fun q => uX9_hasFrom_2 FU v0 v1 v2 h q) q) q)
    (fun _ _ _ q => nos q)
    kRZ_ok (Or.inr rfl) (by decide +kernel) (by decide +kernel) hf
def gX9_hasFrom (v0 : Nat) (v1 : Int32) (h : aH) : Option (Int32 × aH) := fX9_hasFrom_0 v0 v1 h
theorem zX9_hasFrom {d : Nat} {z : Int32 × aH} {v0 : Nat} {v1 : Int32} {h : aH} (q : gX9_hasFrom v0 v1 h = some z) : CT (d + 0) mX9_hasFrom (0, 0) [.ref v0, .int v1] h (QZ z) :=
  ct_ev (by decide +kernel) (Nat.le_of_ble_eq_true rfl) QZ_r (jm [2, 1, 0] (fun v0 v1 => fX9_hasFrom_0 v0 v1 h) (fun v0 v1 q => tX9_hasFrom_0 v0 v1 h q) q)
def wX9_isUnsure_28 : List En := [(.iconst 0, 0, 0, 0), (.ireturn, 0, 0, 0)]
def fX9_isUnsure_28 (h : aH) : Option (Int32 × aH) :=
  if (kI 0) = 0 ∨ (kI 0) = 1 then some ((kI 0), h) else none
theorem tX9_isUnsure_28 {d : Nat} {z : Int32 × aH} (h : aH) (hf : fX9_isUnsure_28 h = some z) : Ev (d + 0) none mX9_isUnsure (0, 0) 28 [.null, .null, .null] [] h (QZ z) := 
  go_ok (X := none) (blk := wX9_isUnsure_28) (np := 30) (tt := 0) (kN := fun _ _ _ => none) (kT := fun _ _ _ => none) (kR := kRZ)
    (fun _ _ _ q => nos q)
    (fun _ _ _ q => nos q)
    kRZ_ok (Or.inr rfl) (by decide +kernel) (by decide +kernel) hf
def wX9_isUnsure_22 : List En := [(.iinc 2 1, 0, 0, 0), (.goto (-23), 2, 0, 0)]
def fX9_isUnsure_22 (k2 : Nat → Int32 → Int32 → aH → Option (Int32 × aH)) (v0 : Nat) (v1 : Int32) (v2 : Int32) (h : aH) : Option (Int32 × aH) :=
  k2 v0 v1 (v2 + kI 1) h
theorem tX9_isUnsure_22 {d : Nat} {z : Int32 × aH} {k2 : Nat → Int32 → Int32 → aH → Option (Int32 × aH)} (hk2 : ∀ (v0 : Nat) (v1 : Int32) (v2 : Int32) (h : aH), k2 v0 v1 v2 h = some z → Ev (d + 0) none mX9_isUnsure (0, 0) 2 [.ref v0, .int v1, .int v2] [] h (QZ z)) (v0 : Nat) (v1 : Int32) (v2 : Int32) (h : aH) (hf : fX9_isUnsure_22 k2 v0 v1 v2 h = some z) : Ev (d + 0) none mX9_isUnsure (0, 0) 22 [.ref v0, .int v1, .int v2] [] h (QZ z) := 
  go_ok (X := none) (blk := wX9_isUnsure_22) (np := 28) (tt := 2) (kN := fun _ _ _ => none) (kT := fun xs h st => app [2, 1, 1] (fun v0 v1 v2 => apS [] (k2 v0 v1 v2 h) st) xs) (kR := kRZ)
    (fun _ _ _ q => nos q)
    (fun xs h st q => jm [2, 1, 1] _ (fun v0 v1 v2 q => apS_ok [] _ (fun st => Ev (d + 0) none mX9_isUnsure (0, 0) 2 [.ref v0, .int v1, .int v2] st h (QZ z)) st (fun q => hk2 v0 v1 v2 h q) q) q)
    kRZ_ok (Or.inr rfl) (by decide +kernel) (by decide +kernel) hf
def wX9_isUnsure_20 : List En := [(.iconst 1, 0, 0, 0), (.ireturn, 0, 0, 0)]
def fX9_isUnsure_20 (h : aH) : Option (Int32 × aH) :=
  if (kI 1) = 0 ∨ (kI 1) = 1 then some ((kI 1), h) else none
theorem tX9_isUnsure_20 {d : Nat} {z : Int32 × aH} (h : aH) (hf : fX9_isUnsure_20 h = some z) : Ev (d + 0) none mX9_isUnsure (0, 0) 20 [.null, .null, .null] [] h (QZ z) := 
  go_ok (X := none) (blk := wX9_isUnsure_20) (np := 22) (tt := 0) (kN := fun _ _ _ => none) (kT := fun _ _ _ => none) (kR := kRZ)
    (fun _ _ _ q => nos q)
    (fun _ _ _ q => nos q)
    kRZ_ok (Or.inr rfl) (by decide +kernel) (by decide +kernel) hf
def wX9_isUnsure_10 : List En := [(.aload_n 0, 0, 0, 0), (.getfield 33, 150, 9, 15), (.iload_n 2, 0, 0, 0), (.iaload, 0, 0, 0), (.iload_n 1, 0, 0, 0), (.if_icmp .ne 5, 22, 0, 0)]
def fX9_isUnsure_10 (k2 : Nat → Int32 → Int32 → aH → Option (Int32 × aH)) (v0 : Nat) (v1 : Int32) (v2 : Int32) (h : aH) : Option (Int32 × aH) :=
  (gFR h 9 v0 15).bind fun t1 =>
  (aRI (h[t1]?) v2).bind fun t2 =>
  if t2 = v1 then fX9_isUnsure_20 h else fX9_isUnsure_22 k2 v0 v1 v2 h
theorem tX9_isUnsure_10 {d : Nat} {z : Int32 × aH} {k2 : Nat → Int32 → Int32 → aH → Option (Int32 × aH)} (hk2 : ∀ (v0 : Nat) (v1 : Int32) (v2 : Int32) (h : aH), k2 v0 v1 v2 h = some z → Ev (d + 0) none mX9_isUnsure (0, 0) 2 [.ref v0, .int v1, .int v2] [] h (QZ z)) (v0 : Nat) (v1 : Int32) (v2 : Int32) (h : aH) (hf : fX9_isUnsure_10 k2 v0 v1 v2 h = some z) : Ev (d + 0) none mX9_isUnsure (0, 0) 10 [.ref v0, .int v1, .int v2] [] h (QZ z) := 
  go_ok (X := none) (blk := wX9_isUnsure_10) (np := 20) (tt := 22) (kN := fun xs h st => app [0, 0, 0] (apS [] (fX9_isUnsure_20 h) st) xs) (kT := fun xs h st => app [2, 1, 1] (fun v0 v1 v2 => apS [] (fX9_isUnsure_22 k2 v0 v1 v2 h) st) xs) (kR := kRZ)
    (fun xs h st q => jm [0, 0, 0] _ (fun q => apS_ok [] _ (fun st => Ev (d + 0) none mX9_isUnsure (0, 0) 20 [.null, .null, .null] st h (QZ z)) st (fun q => tX9_isUnsure_20 h q) q) q)
    (fun xs h st q => jm [2, 1, 1] _ (fun v0 v1 v2 q => apS_ok [] _ (fun st => Ev (d + 0) none mX9_isUnsure (0, 0) 22 [.ref v0, .int v1, .int v2] st h (QZ z)) st (fun q => tX9_isUnsure_22 hk2 v0 v1 v2 h q) q) q)
    kRZ_ok (Or.inr rfl) (by decide +kernel) (by decide +kernel) hf
def wX9_isUnsure_2 : List En := [(.iload_n 2, 0, 0, 0), (.aload_n 0, 0, 0, 0), (.getfield 64, 121, 9, 6), (.if_icmp .ge 21, 28, 0, 0)]
def fX9_isUnsure_2 (k2 : Nat → Int32 → Int32 → aH → Option (Int32 × aH)) (v0 : Nat) (v1 : Int32) (v2 : Int32) (h : aH) : Option (Int32 × aH) :=
  (gFI h 9 v0 6).bind fun t1 =>
  if v2 < t1 then fX9_isUnsure_10 k2 v0 v1 v2 h else fX9_isUnsure_28 h
theorem tX9_isUnsure_2 {d : Nat} {z : Int32 × aH} {k2 : Nat → Int32 → Int32 → aH → Option (Int32 × aH)} (hk2 : ∀ (v0 : Nat) (v1 : Int32) (v2 : Int32) (h : aH), k2 v0 v1 v2 h = some z → Ev (d + 0) none mX9_isUnsure (0, 0) 2 [.ref v0, .int v1, .int v2] [] h (QZ z)) (v0 : Nat) (v1 : Int32) (v2 : Int32) (h : aH) (hf : fX9_isUnsure_2 k2 v0 v1 v2 h = some z) : Ev (d + 0) none mX9_isUnsure (0, 0) 2 [.ref v0, .int v1, .int v2] [] h (QZ z) := 
  go_ok (X := none) (blk := wX9_isUnsure_2) (np := 10) (tt := 28) (kN := fun xs h st => app [2, 1, 1] (fun v0 v1 v2 => apS [] (fX9_isUnsure_10 k2 v0 v1 v2 h) st) xs) (kT := fun xs h st => app [0, 0, 0] (apS [] (fX9_isUnsure_28 h) st) xs) (kR := kRZ)
    (fun xs h st q => jm [2, 1, 1] _ (fun v0 v1 v2 q => apS_ok [] _ (fun st => Ev (d + 0) none mX9_isUnsure (0, 0) 10 [.ref v0, .int v1, .int v2] st h (QZ z)) st (fun q => tX9_isUnsure_10 hk2 v0 v1 v2 h q) q) q)
    (fun xs h st q => jm [0, 0, 0] _ (fun q => apS_ok [] _ (fun st => Ev (d + 0) none mX9_isUnsure (0, 0) 28 [.null, .null, .null] st h (QZ z)) st (fun q => tX9_isUnsure_28 h q) q) q)
    kRZ_ok (Or.inr rfl) (by decide +kernel) (by decide +kernel) hf
def lX9_isUnsure_2 : Nat → Nat → Int32 → Int32 → aH → Option (Int32 × aH)
  | 0, _, _, _, _ => none
  | n + 1, v0, v1, v2, h => fX9_isUnsure_2 (lX9_isUnsure_2 n) v0 v1 v2 h
theorem uX9_isUnsure_2 {d : Nat} {z : Int32 × aH} : ∀ (n : Nat) (v0 : Nat) (v1 : Int32) (v2 : Int32) (h : aH), lX9_isUnsure_2 n v0 v1 v2 h = some z → Ev (d + 0) none mX9_isUnsure (0, 0) 2 [.ref v0, .int v1, .int v2] [] h (QZ z) := by
  intro n
  induction n with
  | zero => intro _ _ _ _ q; exact nos (show (none : Option (Int32 × aH)) = some z from q)
  | succ n ih => intro v0 v1 v2 h q; exact tX9_isUnsure_2 ih v0 v1 v2 h q
def wX9_isUnsure_0 : List En := [(.iconst 0, 0, 0, 0), (.istore_n 2, 0, 0, 0)]
def fX9_isUnsure_0 (v0 : Nat) (v1 : Int32) (h : aH) : Option (Int32 × aH) :=
  lX9_isUnsure_2 FU v0 v1 (kI 0) h
theorem tX9_isUnsure_0 {d : Nat} {z : Int32 × aH} (v0 : Nat) (v1 : Int32) (h : aH) (hf : fX9_isUnsure_0 v0 v1 h = some z) : Ev (d + 0) none mX9_isUnsure (0, 0) 0 [.ref v0, .int v1, .null] [] h (QZ z) := 
  go_ok (X := none) (blk := wX9_isUnsure_0) (np := 2) (tt := 0) (kN := fun xs h st => app [2, 1, 1] (fun v0 v1 v2 => apS [] (lX9_isUnsure_2 FU v0 v1 v2 h) st) xs) (kT := fun _ _ _ => none) (kR := kRZ)
    (fun xs h st q => jm [2, 1, 1] _ (fun v0 v1 v2 q => apS_ok [] _ (fun st => Ev (d + 0) none mX9_isUnsure (0, 0) 2 [.ref v0, .int v1, .int v2] st h (QZ z)) st (fun q => uX9_isUnsure_2 FU v0 v1 v2 h q) q) q)
    (fun _ _ _ q => nos q)
    kRZ_ok (Or.inr rfl) (by decide +kernel) (by decide +kernel) hf
def gX9_isUnsure (v0 : Nat) (v1 : Int32) (h : aH) : Option (Int32 × aH) := fX9_isUnsure_0 v0 v1 h
theorem zX9_isUnsure {d : Nat} {z : Int32 × aH} {v0 : Nat} {v1 : Int32} {h : aH} (q : gX9_isUnsure v0 v1 h = some z) : CT (d + 0) mX9_isUnsure (0, 0) [.ref v0, .int v1] h (QZ z) :=
  ct_ev (by decide +kernel) (Nat.le_of_ble_eq_true rfl) QZ_r (jm [2, 1, 0] (fun v0 v1 => fX9_isUnsure_0 v0 v1 h) (fun v0 v1 q => tX9_isUnsure_0 v0 v1 h q) q)
def wX9_clear_0 : List En := [(.aload_n 0, 0, 0, 0), (.iconst 0, 0, 0, 0), (.putfield 45, 92, 9, 0), (.aload_n 0, 0, 0, 0), (.iconst 0, 0, 0, 0), (.putfield 49, 99, 9, 1), (.aload_n 0, 0, 0, 0), (.iconst 0, 0, 0, 0), (.putfield 52, 103, 9, 2), (.aload_n 0, 0, 0, 0), (.iconst 0, 0, 0, 0), (.putfield 55, 107, 9, 3), (.aload_n 0, 0, 0, 0), (.iconst 0, 0, 0, 0), (.putfield 58, 113, 9, 4), (.aload_n 0, 0, 0, 0), (.iconst 0, 0, 0, 0), (.putfield 61, 117, 9, 5), (.aload_n 0, 0, 0, 0), (.iconst 0, 0, 0, 0), (.putfield 64, 121, 9, 6), (.aload_n 0, 0, 0, 0), (.iconst 0, 0, 0, 0), (.putfield 67, 125, 9, 7), (.return_, 0, 0, 0)]
def fX9_clear_0 (v0 : Nat) (h : aH) : Option (aH) :=
  (pWV h 9 v0 0 (.int (kI 0))).bind fun h1 =>
  (pWV h1 9 v0 1 (.int (kI 0))).bind fun h2 =>
  (pWV h2 9 v0 2 (.int (kI 0))).bind fun h3 =>
  (pWV h3 9 v0 3 (.int (kI 0))).bind fun h4 =>
  (pWV h4 9 v0 4 (.int (kI 0))).bind fun h5 =>
  (pWV h5 9 v0 5 (.int (kI 0))).bind fun h6 =>
  (pWV h6 9 v0 6 (.int (kI 0))).bind fun h7 =>
  (pWV h7 9 v0 7 (.int (kI 0))).bind fun h8 =>
  some h8
theorem tX9_clear_0 {d : Nat} {z : aH} (v0 : Nat) (h : aH) (hf : fX9_clear_0 v0 h = some z) : Ev (d + 0) none mX9_clear (0, 0) 0 [.ref v0] [] h (QV z) := 
  go_ok (X := none) (blk := wX9_clear_0) (np := 41) (tt := 0) (kN := fun _ _ _ => none) (kT := fun _ _ _ => none) (kR := kRV)
    (fun _ _ _ q => nos q)
    (fun _ _ _ q => nos q)
    kRV_ok (Or.inr rfl) (by decide +kernel) (by decide +kernel) hf
def gX9_clear (v0 : Nat) (h : aH) : Option (aH) := fX9_clear_0 v0 h
theorem zX9_clear {d : Nat} {z : aH} {v0 : Nat} {h : aH} (q : gX9_clear v0 h = some z) : CT (d + 0) mX9_clear (0, 0) [.ref v0] h (QV z) :=
  ct_ev (by decide +kernel) (Nat.le_of_ble_eq_true rfl) QV_r (jm [2] (fun v0 => fX9_clear_0 v0 h) (fun v0 q => tX9_clear_0 v0 h q) q)
def wJ2_length_9d52b_0 : List En := [(.aload_n 0, 0, 0, 0), (.arraylength, 0, 0, 0), (.iconst 1, 0, 0, 0), (.ishr, 0, 0, 0), (.ireturn, 0, 0, 0)]
def fJ2_length_9d52b_0 (v0 : Nat) (h : aH) : Option (Int32 × aH) :=
  (aLn (h[v0]?)).bind fun t1 =>
  some ((t1 >>> ((kI 1) &&& 31)), h)
theorem tJ2_length_9d52b_0 {d : Nat} {z : Int32 × aH} (v0 : Nat) (h : aH) (hf : fJ2_length_9d52b_0 v0 h = some z) : Ev (d + 0) none mJ2_length_9d52b (0, 0) 0 [.ref v0] [] h (QI z) := 
  go_ok (X := none) (blk := wJ2_length_9d52b_0) (np := 5) (tt := 0) (kN := fun _ _ _ => none) (kT := fun _ _ _ => none) (kR := kRI)
    (fun _ _ _ q => nos q)
    (fun _ _ _ q => nos q)
    kRI_ok (Or.inl (by decide +kernel)) (by decide +kernel) (by decide +kernel) hf
def gJ2_length_9d52b (v0 : Nat) (h : aH) : Option (Int32 × aH) := fJ2_length_9d52b_0 v0 h
theorem zJ2_length_9d52b {d : Nat} {z : Int32 × aH} {v0 : Nat} {h : aH} (q : gJ2_length_9d52b v0 h = some z) : CT (d + 0) mJ2_length_9d52b (0, 0) [.ref v0] h (QI z) :=
  ct_ev (by decide +kernel) (Nat.le_of_ble_eq_true rfl) QI_r (jm [2] (fun v0 => fJ2_length_9d52b_0 v0 h) (fun v0 q => tJ2_length_9d52b_0 v0 h q) q)
def wX10_fault_0 : List En := [(.aload_n 0, 0, 0, 0), (.getfield 105, 174, 10, 12), (.ireturn, 0, 0, 0)]
def fX10_fault_0 (v0 : Nat) (h : aH) : Option (Int32 × aH) :=
  (gFI h 10 v0 12).bind fun t1 =>
  some (t1, h)
theorem tX10_fault_0 {d : Nat} {z : Int32 × aH} (v0 : Nat) (h : aH) (hf : fX10_fault_0 v0 h = some z) : Ev (d + 0) none mX10_fault (0, 0) 0 [.ref v0] [] h (QI z) := 
  go_ok (X := none) (blk := wX10_fault_0) (np := 5) (tt := 0) (kN := fun _ _ _ => none) (kT := fun _ _ _ => none) (kR := kRI)
    (fun _ _ _ q => nos q)
    (fun _ _ _ q => nos q)
    kRI_ok (Or.inr rfl) (by decide +kernel) (by decide +kernel) hf
def gX10_fault (v0 : Nat) (h : aH) : Option (Int32 × aH) := fX10_fault_0 v0 h
theorem zX10_fault {d : Nat} {z : Int32 × aH} {v0 : Nat} {h : aH} (q : gX10_fault v0 h = some z) : CT (d + 0) mX10_fault (0, 0) [.ref v0] h (QI z) :=
  ct_ev (by decide +kernel) (Nat.le_of_ble_eq_true rfl) QI_r (jm [2] (fun v0 => fX10_fault_0 v0 h) (fun v0 q => tX10_fault_0 v0 h q) q)
def wX10_where_19 : List En := [(.ireturn, 0, 0, 0)]
def fX10_where_19 (s0 : Int32) (h : aH) : Option (Int32 × aH) :=
  some (s0, h)
theorem tX10_where_19 {d : Nat} {z : Int32 × aH} (s0 : Int32) (h : aH) (hf : fX10_where_19 s0 h = some z) : Ev (d + 0) none mX10_where (0, 0) 19 [.null] [.int s0] h (QI z) := 
  go_ok (X := none) (blk := wX10_where_19) (np := 20) (tt := 0) (kN := fun _ _ _ => none) (kT := fun _ _ _ => none) (kR := kRI)
    (fun _ _ _ q => nos q)
    (fun _ _ _ q => nos q)
    kRI_ok (Or.inr rfl) (by decide +kernel) (by decide +kernel) hf
def wX10_where_18 : List En := [(.iconst (-1), 0, 0, 0)]
def fX10_where_18 (h : aH) : Option (Int32 × aH) :=
  fX10_where_19 (kI (-1)) h
theorem tX10_where_18 {d : Nat} {z : Int32 × aH} (h : aH) (hf : fX10_where_18 h = some z) : Ev (d + 0) none mX10_where (0, 0) 18 [.null] [] h (QI z) := 
  go_ok (X := none) (blk := wX10_where_18) (np := 19) (tt := 0) (kN := fun xs h st => app [0] (apS [1] (fun s0 => fX10_where_19 s0 h) st) xs) (kT := fun _ _ _ => none) (kR := kRI)
    (fun xs h st q => jm [0] _ (fun q => apS_ok [1] _ (fun st => Ev (d + 0) none mX10_where (0, 0) 19 [.null] st h (QI z)) st (fun s0 q => tX10_where_19 s0 h q) q) q)
    (fun _ _ _ q => nos q)
    kRI_ok (Or.inr rfl) (by decide +kernel) (by decide +kernel) hf
def wX10_where_8 : List En := [(.aload_n 0, 0, 0, 0), (.getfield 10, 162, 10, 0), (.getfield 125, 5, 8, 2), (.goto 4, 19, 0, 0)]
def fX10_where_8 (v0 : Nat) (h : aH) : Option (Int32 × aH) :=
  (gFR h 10 v0 0).bind fun t1 =>
  (gFI h 8 t1 2).bind fun t2 =>
  fX10_where_19 t2 h
theorem tX10_where_8 {d : Nat} {z : Int32 × aH} (v0 : Nat) (h : aH) (hf : fX10_where_8 v0 h = some z) : Ev (d + 0) none mX10_where (0, 0) 8 [.ref v0] [] h (QI z) := 
  go_ok (X := none) (blk := wX10_where_8) (np := 18) (tt := 19) (kN := fun _ _ _ => none) (kT := fun xs h st => app [0] (apS [1] (fun s0 => fX10_where_19 s0 h) st) xs) (kR := kRI)
    (fun _ _ _ q => nos q)
    (fun xs h st q => jm [0] _ (fun q => apS_ok [1] _ (fun st => Ev (d + 0) none mX10_where (0, 0) 19 [.null] st h (QI z)) st (fun s0 q => tX10_where_19 s0 h q) q) q)
    kRI_ok (Or.inr rfl) (by decide +kernel) (by decide +kernel) hf
def wX10_where_0 : List En := [(.aload_n 0, 0, 0, 0), (.getfield 122, 173, 10, 11), (.iconst 4, 0, 0, 0), (.if_icmp .ne 13, 18, 0, 0)]
def fX10_where_0 (v0 : Nat) (h : aH) : Option (Int32 × aH) :=
  (gFI h 10 v0 11).bind fun t1 =>
  if t1 = (kI 4) then fX10_where_8 v0 h else fX10_where_18 h
theorem tX10_where_0 {d : Nat} {z : Int32 × aH} (v0 : Nat) (h : aH) (hf : fX10_where_0 v0 h = some z) : Ev (d + 0) none mX10_where (0, 0) 0 [.ref v0] [] h (QI z) := 
  go_ok (X := none) (blk := wX10_where_0) (np := 8) (tt := 18) (kN := fun xs h st => app [2] (fun v0 => apS [] (fX10_where_8 v0 h) st) xs) (kT := fun xs h st => app [0] (apS [] (fX10_where_18 h) st) xs) (kR := kRI)
    (fun xs h st q => jm [2] _ (fun v0 q => apS_ok [] _ (fun st => Ev (d + 0) none mX10_where (0, 0) 8 [.ref v0] st h (QI z)) st (fun q => tX10_where_8 v0 h q) q) q)
    (fun xs h st q => jm [0] _ (fun q => apS_ok [] _ (fun st => Ev (d + 0) none mX10_where (0, 0) 18 [.null] st h (QI z)) st (fun q => tX10_where_18 h q) q) q)
    kRI_ok (Or.inr rfl) (by decide +kernel) (by decide +kernel) hf
def gX10_where (v0 : Nat) (h : aH) : Option (Int32 × aH) := fX10_where_0 v0 h
theorem zX10_where {d : Nat} {z : Int32 × aH} {v0 : Nat} {h : aH} (q : gX10_where v0 h = some z) : CT (d + 0) mX10_where (0, 0) [.ref v0] h (QI z) :=
  ct_ev (by decide +kernel) (Nat.le_of_ble_eq_true rfl) QI_r (jm [2] (fun v0 => fX10_where_0 v0 h) (fun v0 q => tX10_where_0 v0 h q) q)
def wX10_lacksPerson_20 : List En := [(.ireturn, 0, 0, 0)]
def fX10_lacksPerson_20 (s0 : Int32) (h : aH) : Option (Int32 × aH) :=
  if s0 = 0 ∨ s0 = 1 then some (s0, h) else none
theorem tX10_lacksPerson_20 {d : Nat} {z : Int32 × aH} (s0 : Int32) (h : aH) (hf : fX10_lacksPerson_20 s0 h = some z) : Ev (d + 0) none mX10_lacksPerson (0, 0) 20 [.null, .null] [.int s0] h (QZ z) := 
  go_ok (X := none) (blk := wX10_lacksPerson_20) (np := 21) (tt := 0) (kN := fun _ _ _ => none) (kT := fun _ _ _ => none) (kR := kRZ)
    (fun _ _ _ q => nos q)
    (fun _ _ _ q => nos q)
    kRZ_ok (Or.inr rfl) (by decide +kernel) (by decide +kernel) hf
def wX10_lacksPerson_15 : List En := [(.iconst 1, 0, 0, 0), (.goto 4, 20, 0, 0)]
def fX10_lacksPerson_15 (h : aH) : Option (Int32 × aH) :=
  fX10_lacksPerson_20 (kI 1) h
theorem tX10_lacksPerson_15 {d : Nat} {z : Int32 × aH} (h : aH) (hf : fX10_lacksPerson_15 h = some z) : Ev (d + 0) none mX10_lacksPerson (0, 0) 15 [.null, .null] [] h (QZ z) := 
  go_ok (X := none) (blk := wX10_lacksPerson_15) (np := 19) (tt := 20) (kN := fun _ _ _ => none) (kT := fun xs h st => app [0, 0] (apS [1] (fun s0 => fX10_lacksPerson_20 s0 h) st) xs) (kR := kRZ)
    (fun _ _ _ q => nos q)
    (fun xs h st q => jm [0, 0] _ (fun q => apS_ok [1] _ (fun st => Ev (d + 0) none mX10_lacksPerson (0, 0) 20 [.null, .null] st h (QZ z)) st (fun s0 q => tX10_lacksPerson_20 s0 h q) q) q)
    kRZ_ok (Or.inr rfl) (by decide +kernel) (by decide +kernel) hf
def wX10_lacksPerson_19 : List En := [(.iconst 0, 0, 0, 0)]
def fX10_lacksPerson_19 (h : aH) : Option (Int32 × aH) :=
  fX10_lacksPerson_20 (kI 0) h
theorem tX10_lacksPerson_19 {d : Nat} {z : Int32 × aH} (h : aH) (hf : fX10_lacksPerson_19 h = some z) : Ev (d + 0) none mX10_lacksPerson (0, 0) 19 [.null, .null] [] h (QZ z) := 
  go_ok (X := none) (blk := wX10_lacksPerson_19) (np := 20) (tt := 0) (kN := fun xs h st => app [0, 0] (apS [1] (fun s0 => fX10_lacksPerson_20 s0 h) st) xs) (kT := fun _ _ _ => none) (kR := kRZ)
    (fun xs h st q => jm [0, 0] _ (fun q => apS_ok [1] _ (fun st => Ev (d + 0) none mX10_lacksPerson (0, 0) 20 [.null, .null] st h (QZ z)) st (fun s0 q => tX10_lacksPerson_20 s0 h q) q) q)
    (fun _ _ _ q => nos q)
    kRZ_ok (Or.inr rfl) (by decide +kernel) (by decide +kernel) hf
def wX10_lacksPerson_4 : List En := [(.iload_n 1, 0, 0, 0), (.aload_n 0, 0, 0, 0), (.getfield 75, 171, 10, 9), (.getfield 116, 110, 9, 3), (.if_icmp .lt 7, 19, 0, 0)]
def fX10_lacksPerson_4 (v0 : Nat) (v1 : Int32) (h : aH) : Option (Int32 × aH) :=
  (gFR h 10 v0 9).bind fun t1 =>
  (gFI h 9 t1 3).bind fun t2 =>
  if v1 < t2 then fX10_lacksPerson_19 h else fX10_lacksPerson_15 h
theorem tX10_lacksPerson_4 {d : Nat} {z : Int32 × aH} (v0 : Nat) (v1 : Int32) (h : aH) (hf : fX10_lacksPerson_4 v0 v1 h = some z) : Ev (d + 0) none mX10_lacksPerson (0, 0) 4 [.ref v0, .int v1] [] h (QZ z) := 
  go_ok (X := none) (blk := wX10_lacksPerson_4) (np := 15) (tt := 19) (kN := fun xs h st => app [0, 0] (apS [] (fX10_lacksPerson_15 h) st) xs) (kT := fun xs h st => app [0, 0] (apS [] (fX10_lacksPerson_19 h) st) xs) (kR := kRZ)
    (fun xs h st q => jm [0, 0] _ (fun q => apS_ok [] _ (fun st => Ev (d + 0) none mX10_lacksPerson (0, 0) 15 [.null, .null] st h (QZ z)) st (fun q => tX10_lacksPerson_15 h q) q) q)
    (fun xs h st q => jm [0, 0] _ (fun q => apS_ok [] _ (fun st => Ev (d + 0) none mX10_lacksPerson (0, 0) 19 [.null, .null] st h (QZ z)) st (fun q => tX10_lacksPerson_19 h q) q) q)
    kRZ_ok (Or.inr rfl) (by decide +kernel) (by decide +kernel) hf
def wX10_lacksPerson_0 : List En := [(.iload_n 1, 0, 0, 0), (.ifCond .lt 14, 15, 0, 0)]
def fX10_lacksPerson_0 (v0 : Nat) (v1 : Int32) (h : aH) : Option (Int32 × aH) :=
  if v1 < 0 then fX10_lacksPerson_15 h else fX10_lacksPerson_4 v0 v1 h
theorem tX10_lacksPerson_0 {d : Nat} {z : Int32 × aH} (v0 : Nat) (v1 : Int32) (h : aH) (hf : fX10_lacksPerson_0 v0 v1 h = some z) : Ev (d + 0) none mX10_lacksPerson (0, 0) 0 [.ref v0, .int v1] [] h (QZ z) := 
  go_ok (X := none) (blk := wX10_lacksPerson_0) (np := 4) (tt := 15) (kN := fun xs h st => app [2, 1] (fun v0 v1 => apS [] (fX10_lacksPerson_4 v0 v1 h) st) xs) (kT := fun xs h st => app [0, 0] (apS [] (fX10_lacksPerson_15 h) st) xs) (kR := kRZ)
    (fun xs h st q => jm [2, 1] _ (fun v0 v1 q => apS_ok [] _ (fun st => Ev (d + 0) none mX10_lacksPerson (0, 0) 4 [.ref v0, .int v1] st h (QZ z)) st (fun q => tX10_lacksPerson_4 v0 v1 h q) q) q)
    (fun xs h st q => jm [0, 0] _ (fun q => apS_ok [] _ (fun st => Ev (d + 0) none mX10_lacksPerson (0, 0) 15 [.null, .null] st h (QZ z)) st (fun q => tX10_lacksPerson_15 h q) q) q)
    kRZ_ok (Or.inr rfl) (by decide +kernel) (by decide +kernel) hf
def gX10_lacksPerson (v0 : Nat) (v1 : Int32) (h : aH) : Option (Int32 × aH) := fX10_lacksPerson_0 v0 v1 h
theorem zX10_lacksPerson {d : Nat} {z : Int32 × aH} {v0 : Nat} {v1 : Int32} {h : aH} (q : gX10_lacksPerson v0 v1 h = some z) : CT (d + 0) mX10_lacksPerson (0, 0) [.ref v0, .int v1] h (QZ z) :=
  ct_ev (by decide +kernel) (Nat.le_of_ble_eq_true rfl) QZ_r (jm [2, 1] (fun v0 v1 => fX10_lacksPerson_0 v0 v1 h) (fun v0 v1 q => tX10_lacksPerson_0 v0 v1 h q) q)
def wX10_person_145 : List En := [(.ireturn, 0, 0, 0)]
def fX10_person_145 (s0 : Int32) (h : aH) : Option (Int32 × aH) :=
  some (s0, h)
theorem tX10_person_145 {d : Nat} {z : Int32 × aH} (s0 : Int32) (h : aH) (hf : fX10_person_145 s0 h = some z) : Ev (d + 1) none mX10_person (0, 0) 145 [.null, .null, .null] [.int s0] h (QI z) := 
  go_ok (X := none) (blk := wX10_person_145) (np := 146) (tt := 0) (kN := fun _ _ _ => none) (kT := fun _ _ _ => none) (kR := kRI)
    (fun _ _ _ q => nos q)
    (fun _ _ _ q => nos q)
    kRI_ok (Or.inr rfl) (by decide +kernel) (by decide +kernel) hf
theorem kqX10_person_142 : okC mX10_person 142 (.invokevirtual 94) 15 8 0 1 = true := by decide +kernel
def fX10_person_142 (s0 : Int32) (s1 : Nat) (h : aH) : Option (Int32 × aH) :=
  (isO h 10 s1).bind fun _ =>
  (gX10_refuse s1 s0 h).bind fun r =>
  fX10_person_145 r.1 r.2
theorem tX10_person_142 {d : Nat} {z : Int32 × aH} (s0 : Int32) (s1 : Nat) (h : aH) (hf : fX10_person_142 s0 s1 h = some z) : Ev (d + 1) none mX10_person (0, 0) 142 [.null, .null, .null] [.int s0, .ref s1] h (QI z) := by
  obtain ⟨_, h1, hf⟩ := bnd hf
  obtain ⟨fs, ho⟩ := isO_ok h1
  obtain ⟨r, h2, hf⟩ := bnd hf
  refine ev_V kqX10_person_142 jX10_refuse (zX10_refuse (d := d + 0) h2) ho rfl rfl (Nat.le_of_ble_eq_true rfl) rfl (as := [.int s0]) (rest := []) rfl (Nat.le_of_ble_eq_true rfl) (fun _ _ hq => ?_)
  obtain ⟨rfl, rfl⟩ := hq
  exact jm [0, 0, 0] (fX10_person_145 r.1 r.2) (fun q => tX10_person_145 r.1 r.2 q) hf
def wX10_person_140 : List En := [(.aload_n 0, 0, 0, 0), (.iconst 1, 0, 0, 0)]
def fX10_person_140 (v0 : Nat) (h : aH) : Option (Int32 × aH) :=
  fX10_person_142 (kI 1) v0 h
theorem tX10_person_140 {d : Nat} {z : Int32 × aH} (v0 : Nat) (h : aH) (hf : fX10_person_140 v0 h = some z) : Ev (d + 1) none mX10_person (0, 0) 140 [.ref v0, .null, .null] [] h (QI z) := 
  go_ok (X := none) (blk := wX10_person_140) (np := 142) (tt := 0) (kN := fun xs h st => app [0, 0, 0] (apS [1, 2] (fun s0 s1 => fX10_person_142 s0 s1 h) st) xs) (kT := fun _ _ _ => none) (kR := kRI)
    (fun xs h st q => jm [0, 0, 0] _ (fun q => apS_ok [1, 2] _ (fun st => Ev (d + 1) none mX10_person (0, 0) 142 [.null, .null, .null] st h (QI z)) st (fun s0 s1 q => tX10_person_142 s0 s1 h q) q) q)
    (fun _ _ _ q => nos q)
    kRI_ok (Or.inr rfl) (by decide +kernel) (by decide +kernel) hf
def wX10_person_65 : List En := [(.ireturn, 0, 0, 0)]
def fX10_person_65 (s0 : Int32) (h : aH) : Option (Int32 × aH) :=
  some (s0, h)
theorem tX10_person_65 {d : Nat} {z : Int32 × aH} (s0 : Int32) (h : aH) (hf : fX10_person_65 s0 h = some z) : Ev (d + 1) none mX10_person (0, 0) 65 [.null, .null, .null] [.int s0] h (QI z) := 
  go_ok (X := none) (blk := wX10_person_65) (np := 66) (tt := 0) (kN := fun _ _ _ => none) (kT := fun _ _ _ => none) (kR := kRI)
    (fun _ _ _ q => nos q)
    (fun _ _ _ q => nos q)
    kRI_ok (Or.inr rfl) (by decide +kernel) (by decide +kernel) hf
theorem kqX10_person_62 : okC mX10_person 62 (.invokevirtual 119) 60 44 0 1 = true := by decide +kernel
def fX10_person_62 (s0 : Int32) (s1 : Nat) (h : aH) : Option (Int32 × aH) :=
  (isO h 10 s1).bind fun _ =>
  (gX10_answer s1 s0 h).bind fun r =>
  fX10_person_65 r.1 r.2
theorem tX10_person_62 {d : Nat} {z : Int32 × aH} (s0 : Int32) (s1 : Nat) (h : aH) (hf : fX10_person_62 s0 s1 h = some z) : Ev (d + 1) none mX10_person (0, 0) 62 [.null, .null, .null] [.int s0, .ref s1] h (QI z) := by
  obtain ⟨_, h1, hf⟩ := bnd hf
  obtain ⟨fs, ho⟩ := isO_ok h1
  obtain ⟨r, h2, hf⟩ := bnd hf
  refine ev_V kqX10_person_62 jX10_answer (zX10_answer (d := d + 0) h2) ho rfl rfl (Nat.le_of_ble_eq_true rfl) rfl (as := [.int s0]) (rest := []) rfl (Nat.le_of_ble_eq_true rfl) (fun _ _ hq => ?_)
  obtain ⟨rfl, rfl⟩ := hq
  exact jm [0, 0, 0] (fX10_person_65 r.1 r.2) (fun q => tX10_person_65 r.1 r.2 q) hf
def wX10_person_52 : List En := [(.aload_n 0, 0, 0, 0), (.aload_n 0, 0, 0, 0), (.getfield 68, 170, 10, 8), (.getfield 131, 20, 7, 0), (.iload_n 1, 0, 0, 0), (.iaload, 0, 0, 0)]
def fX10_person_52 (v0 : Nat) (v1 : Int32) (h : aH) : Option (Int32 × aH) :=
  (gFR h 10 v0 8).bind fun t1 =>
  (gFR h 7 t1 0).bind fun t2 =>
  (aRI (h[t2]?) v1).bind fun t3 =>
  fX10_person_62 t3 v0 h
theorem tX10_person_52 {d : Nat} {z : Int32 × aH} (v0 : Nat) (v1 : Int32) (h : aH) (hf : fX10_person_52 v0 v1 h = some z) : Ev (d + 1) none mX10_person (0, 0) 52 [.ref v0, .int v1, .null] [] h (QI z) := 
  go_ok (X := none) (blk := wX10_person_52) (np := 62) (tt := 0) (kN := fun xs h st => app [0, 0, 0] (apS [1, 2] (fun s0 s1 => fX10_person_62 s0 s1 h) st) xs) (kT := fun _ _ _ => none) (kR := kRI)
    (fun xs h st q => jm [0, 0, 0] _ (fun q => apS_ok [1, 2] _ (fun st => Ev (d + 1) none mX10_person (0, 0) 62 [.null, .null, .null] st h (QI z)) st (fun s0 s1 q => tX10_person_62 s0 s1 h q) q) q)
    (fun _ _ _ q => nos q)
    kRI_ok (Or.inr rfl) (by decide +kernel) (by decide +kernel) hf
def wX10_person_79 : List En := [(.ireturn, 0, 0, 0)]
def fX10_person_79 (s0 : Int32) (h : aH) : Option (Int32 × aH) :=
  some (s0, h)
theorem tX10_person_79 {d : Nat} {z : Int32 × aH} (s0 : Int32) (h : aH) (hf : fX10_person_79 s0 h = some z) : Ev (d + 1) none mX10_person (0, 0) 79 [.null, .null, .null] [.int s0] h (QI z) := 
  go_ok (X := none) (blk := wX10_person_79) (np := 80) (tt := 0) (kN := fun _ _ _ => none) (kT := fun _ _ _ => none) (kR := kRI)
    (fun _ _ _ q => nos q)
    (fun _ _ _ q => nos q)
    kRI_ok (Or.inr rfl) (by decide +kernel) (by decide +kernel) hf
theorem kqX10_person_76 : okC mX10_person 76 (.invokevirtual 119) 60 44 0 1 = true := by decide +kernel
def fX10_person_76 (s0 : Int32) (s1 : Nat) (h : aH) : Option (Int32 × aH) :=
  (isO h 10 s1).bind fun _ =>
  (gX10_answer s1 s0 h).bind fun r =>
  fX10_person_79 r.1 r.2
theorem tX10_person_76 {d : Nat} {z : Int32 × aH} (s0 : Int32) (s1 : Nat) (h : aH) (hf : fX10_person_76 s0 s1 h = some z) : Ev (d + 1) none mX10_person (0, 0) 76 [.null, .null, .null] [.int s0, .ref s1] h (QI z) := by
  obtain ⟨_, h1, hf⟩ := bnd hf
  obtain ⟨fs, ho⟩ := isO_ok h1
  obtain ⟨r, h2, hf⟩ := bnd hf
  refine ev_V kqX10_person_76 jX10_answer (zX10_answer (d := d + 0) h2) ho rfl rfl (Nat.le_of_ble_eq_true rfl) rfl (as := [.int s0]) (rest := []) rfl (Nat.le_of_ble_eq_true rfl) (fun _ _ hq => ?_)
  obtain ⟨rfl, rfl⟩ := hq
  exact jm [0, 0, 0] (fX10_person_79 r.1 r.2) (fun q => tX10_person_79 r.1 r.2 q) hf
def wX10_person_66 : List En := [(.aload_n 0, 0, 0, 0), (.aload_n 0, 0, 0, 0), (.getfield 75, 171, 10, 9), (.getfield 135, 133, 9, 9), (.iload_n 1, 0, 0, 0), (.iaload, 0, 0, 0)]
def fX10_person_66 (v0 : Nat) (v1 : Int32) (h : aH) : Option (Int32 × aH) :=
  (gFR h 10 v0 9).bind fun t1 =>
  (gFR h 9 t1 9).bind fun t2 =>
  (aRI (h[t2]?) v1).bind fun t3 =>
  fX10_person_76 t3 v0 h
theorem tX10_person_66 {d : Nat} {z : Int32 × aH} (v0 : Nat) (v1 : Int32) (h : aH) (hf : fX10_person_66 v0 v1 h = some z) : Ev (d + 1) none mX10_person (0, 0) 66 [.ref v0, .int v1, .null] [] h (QI z) := 
  go_ok (X := none) (blk := wX10_person_66) (np := 76) (tt := 0) (kN := fun xs h st => app [0, 0, 0] (apS [1, 2] (fun s0 s1 => fX10_person_76 s0 s1 h) st) xs) (kT := fun _ _ _ => none) (kR := kRI)
    (fun xs h st q => jm [0, 0, 0] _ (fun q => apS_ok [1, 2] _ (fun st => Ev (d + 1) none mX10_person (0, 0) 76 [.null, .null, .null] st h (QI z)) st (fun s0 s1 q => tX10_person_76 s0 s1 h q) q) q)
    (fun _ _ _ q => nos q)
    kRI_ok (Or.inr rfl) (by decide +kernel) (by decide +kernel) hf
def wX10_person_93 : List En := [(.ireturn, 0, 0, 0)]
def fX10_person_93 (s0 : Int32) (h : aH) : Option (Int32 × aH) :=
  some (s0, h)
theorem tX10_person_93 {d : Nat} {z : Int32 × aH} (s0 : Int32) (h : aH) (hf : fX10_person_93 s0 h = some z) : Ev (d + 1) none mX10_person (0, 0) 93 [.null, .null, .null] [.int s0] h (QI z) := 
  go_ok (X := none) (blk := wX10_person_93) (np := 94) (tt := 0) (kN := fun _ _ _ => none) (kT := fun _ _ _ => none) (kR := kRI)
    (fun _ _ _ q => nos q)
    (fun _ _ _ q => nos q)
    kRI_ok (Or.inr rfl) (by decide +kernel) (by decide +kernel) hf
theorem kqX10_person_90 : okC mX10_person 90 (.invokevirtual 119) 60 44 0 1 = true := by decide +kernel
def fX10_person_90 (s0 : Int32) (s1 : Nat) (h : aH) : Option (Int32 × aH) :=
  (isO h 10 s1).bind fun _ =>
  (gX10_answer s1 s0 h).bind fun r =>
  fX10_person_93 r.1 r.2
theorem tX10_person_90 {d : Nat} {z : Int32 × aH} (s0 : Int32) (s1 : Nat) (h : aH) (hf : fX10_person_90 s0 s1 h = some z) : Ev (d + 1) none mX10_person (0, 0) 90 [.null, .null, .null] [.int s0, .ref s1] h (QI z) := by
  obtain ⟨_, h1, hf⟩ := bnd hf
  obtain ⟨fs, ho⟩ := isO_ok h1
  obtain ⟨r, h2, hf⟩ := bnd hf
  refine ev_V kqX10_person_90 jX10_answer (zX10_answer (d := d + 0) h2) ho rfl rfl (Nat.le_of_ble_eq_true rfl) rfl (as := [.int s0]) (rest := []) rfl (Nat.le_of_ble_eq_true rfl) (fun _ _ hq => ?_)
  obtain ⟨rfl, rfl⟩ := hq
  exact jm [0, 0, 0] (fX10_person_93 r.1 r.2) (fun q => tX10_person_93 r.1 r.2 q) hf
def wX10_person_80 : List En := [(.aload_n 0, 0, 0, 0), (.aload_n 0, 0, 0, 0), (.getfield 75, 171, 10, 9), (.getfield 138, 137, 9, 10), (.iload_n 1, 0, 0, 0), (.iaload, 0, 0, 0)]
def fX10_person_80 (v0 : Nat) (v1 : Int32) (h : aH) : Option (Int32 × aH) :=
  (gFR h 10 v0 9).bind fun t1 =>
  (gFR h 9 t1 10).bind fun t2 =>
  (aRI (h[t2]?) v1).bind fun t3 =>
  fX10_person_90 t3 v0 h
theorem tX10_person_80 {d : Nat} {z : Int32 × aH} (v0 : Nat) (v1 : Int32) (h : aH) (hf : fX10_person_80 v0 v1 h = some z) : Ev (d + 1) none mX10_person (0, 0) 80 [.ref v0, .int v1, .null] [] h (QI z) := 
  go_ok (X := none) (blk := wX10_person_80) (np := 90) (tt := 0) (kN := fun xs h st => app [0, 0, 0] (apS [1, 2] (fun s0 s1 => fX10_person_90 s0 s1 h) st) xs) (kT := fun _ _ _ => none) (kR := kRI)
    (fun xs h st q => jm [0, 0, 0] _ (fun q => apS_ok [1, 2] _ (fun st => Ev (d + 1) none mX10_person (0, 0) 90 [.null, .null, .null] st h (QI z)) st (fun s0 s1 q => tX10_person_90 s0 s1 h q) q) q)
    (fun _ _ _ q => nos q)
    kRI_ok (Or.inr rfl) (by decide +kernel) (by decide +kernel) hf
def wX10_person_107 : List En := [(.ireturn, 0, 0, 0)]
def fX10_person_107 (s0 : Int32) (h : aH) : Option (Int32 × aH) :=
  some (s0, h)
theorem tX10_person_107 {d : Nat} {z : Int32 × aH} (s0 : Int32) (h : aH) (hf : fX10_person_107 s0 h = some z) : Ev (d + 1) none mX10_person (0, 0) 107 [.null, .null, .null] [.int s0] h (QI z) := 
  go_ok (X := none) (blk := wX10_person_107) (np := 108) (tt := 0) (kN := fun _ _ _ => none) (kT := fun _ _ _ => none) (kR := kRI)
    (fun _ _ _ q => nos q)
    (fun _ _ _ q => nos q)
    kRI_ok (Or.inr rfl) (by decide +kernel) (by decide +kernel) hf
theorem kqX10_person_104 : okC mX10_person 104 (.invokevirtual 119) 60 44 0 1 = true := by decide +kernel
def fX10_person_104 (s0 : Int32) (s1 : Nat) (h : aH) : Option (Int32 × aH) :=
  (isO h 10 s1).bind fun _ =>
  (gX10_answer s1 s0 h).bind fun r =>
  fX10_person_107 r.1 r.2
theorem tX10_person_104 {d : Nat} {z : Int32 × aH} (s0 : Int32) (s1 : Nat) (h : aH) (hf : fX10_person_104 s0 s1 h = some z) : Ev (d + 1) none mX10_person (0, 0) 104 [.null, .null, .null] [.int s0, .ref s1] h (QI z) := by
  obtain ⟨_, h1, hf⟩ := bnd hf
  obtain ⟨fs, ho⟩ := isO_ok h1
  obtain ⟨r, h2, hf⟩ := bnd hf
  refine ev_V kqX10_person_104 jX10_answer (zX10_answer (d := d + 0) h2) ho rfl rfl (Nat.le_of_ble_eq_true rfl) rfl (as := [.int s0]) (rest := []) rfl (Nat.le_of_ble_eq_true rfl) (fun _ _ hq => ?_)
  obtain ⟨rfl, rfl⟩ := hq
  exact jm [0, 0, 0] (fX10_person_107 r.1 r.2) (fun q => tX10_person_107 r.1 r.2 q) hf
def wX10_person_94 : List En := [(.aload_n 0, 0, 0, 0), (.aload_n 0, 0, 0, 0), (.getfield 68, 170, 10, 8), (.getfield 141, 22, 7, 1), (.iload_n 1, 0, 0, 0), (.iaload, 0, 0, 0)]
def fX10_person_94 (v0 : Nat) (v1 : Int32) (h : aH) : Option (Int32 × aH) :=
  (gFR h 10 v0 8).bind fun t1 =>
  (gFR h 7 t1 1).bind fun t2 =>
  (aRI (h[t2]?) v1).bind fun t3 =>
  fX10_person_104 t3 v0 h
theorem tX10_person_94 {d : Nat} {z : Int32 × aH} (v0 : Nat) (v1 : Int32) (h : aH) (hf : fX10_person_94 v0 v1 h = some z) : Ev (d + 1) none mX10_person (0, 0) 94 [.ref v0, .int v1, .null] [] h (QI z) := 
  go_ok (X := none) (blk := wX10_person_94) (np := 104) (tt := 0) (kN := fun xs h st => app [0, 0, 0] (apS [1, 2] (fun s0 s1 => fX10_person_104 s0 s1 h) st) xs) (kT := fun _ _ _ => none) (kR := kRI)
    (fun xs h st q => jm [0, 0, 0] _ (fun q => apS_ok [1, 2] _ (fun st => Ev (d + 1) none mX10_person (0, 0) 104 [.null, .null, .null] st h (QI z)) st (fun s0 s1 q => tX10_person_104 s0 s1 h q) q) q)
    (fun _ _ _ q => nos q)
    kRI_ok (Or.inr rfl) (by decide +kernel) (by decide +kernel) hf
def wX10_person_123 : List En := [(.ireturn, 0, 0, 0)]
def fX10_person_123 (s0 : Int32) (h : aH) : Option (Int32 × aH) :=
  some (s0, h)
theorem tX10_person_123 {d : Nat} {z : Int32 × aH} (s0 : Int32) (h : aH) (hf : fX10_person_123 s0 h = some z) : Ev (d + 1) none mX10_person (0, 0) 123 [.null, .null, .null] [.int s0] h (QI z) := 
  go_ok (X := none) (blk := wX10_person_123) (np := 124) (tt := 0) (kN := fun _ _ _ => none) (kT := fun _ _ _ => none) (kR := kRI)
    (fun _ _ _ q => nos q)
    (fun _ _ _ q => nos q)
    kRI_ok (Or.inr rfl) (by decide +kernel) (by decide +kernel) hf
theorem kqX10_person_120 : okC mX10_person 120 (.invokevirtual 119) 60 44 0 1 = true := by decide +kernel
def fX10_person_120 (s0 : Int32) (s1 : Nat) (h : aH) : Option (Int32 × aH) :=
  (isO h 10 s1).bind fun _ =>
  (gX10_answer s1 s0 h).bind fun r =>
  fX10_person_123 r.1 r.2
theorem tX10_person_120 {d : Nat} {z : Int32 × aH} (s0 : Int32) (s1 : Nat) (h : aH) (hf : fX10_person_120 s0 s1 h = some z) : Ev (d + 1) none mX10_person (0, 0) 120 [.null, .null, .null] [.int s0, .ref s1] h (QI z) := by
  obtain ⟨_, h1, hf⟩ := bnd hf
  obtain ⟨fs, ho⟩ := isO_ok h1
  obtain ⟨r, h2, hf⟩ := bnd hf
  refine ev_V kqX10_person_120 jX10_answer (zX10_answer (d := d + 0) h2) ho rfl rfl (Nat.le_of_ble_eq_true rfl) rfl (as := [.int s0]) (rest := []) rfl (Nat.le_of_ble_eq_true rfl) (fun _ _ hq => ?_)
  obtain ⟨rfl, rfl⟩ := hq
  exact jm [0, 0, 0] (fX10_person_123 r.1 r.2) (fun q => tX10_person_123 r.1 r.2 q) hf
def wX10_person_108 : List En := [(.aload_n 0, 0, 0, 0), (.aload_n 0, 0, 0, 0), (.getfield 68, 170, 10, 8), (.getfield 144, 28, 7, 3), (.iload_n 1, 0, 0, 0), (.ishr, 0, 0, 0), (.iconst 1, 0, 0, 0), (.iand, 0, 0, 0)]
def fX10_person_108 (v0 : Nat) (v1 : Int32) (h : aH) : Option (Int32 × aH) :=
  (gFR h 10 v0 8).bind fun t1 =>
  (gFI h 7 t1 3).bind fun t2 =>
  fX10_person_120 ((t2 >>> (v1 &&& 31)) &&& (kI 1)) v0 h
theorem tX10_person_108 {d : Nat} {z : Int32 × aH} (v0 : Nat) (v1 : Int32) (h : aH) (hf : fX10_person_108 v0 v1 h = some z) : Ev (d + 1) none mX10_person (0, 0) 108 [.ref v0, .int v1, .null] [] h (QI z) := 
  go_ok (X := none) (blk := wX10_person_108) (np := 120) (tt := 0) (kN := fun xs h st => app [0, 0, 0] (apS [1, 2] (fun s0 s1 => fX10_person_120 s0 s1 h) st) xs) (kT := fun _ _ _ => none) (kR := kRI)
    (fun xs h st q => jm [0, 0, 0] _ (fun q => apS_ok [1, 2] _ (fun st => Ev (d + 1) none mX10_person (0, 0) 120 [.null, .null, .null] st h (QI z)) st (fun s0 s1 q => tX10_person_120 s0 s1 h q) q) q)
    (fun _ _ _ q => nos q)
    kRI_ok (Or.inr rfl) (by decide +kernel) (by decide +kernel) hf
def wX10_person_139 : List En := [(.ireturn, 0, 0, 0)]
def fX10_person_139 (s0 : Int32) (h : aH) : Option (Int32 × aH) :=
  some (s0, h)
theorem tX10_person_139 {d : Nat} {z : Int32 × aH} (s0 : Int32) (h : aH) (hf : fX10_person_139 s0 h = some z) : Ev (d + 1) none mX10_person (0, 0) 139 [.null, .null, .null] [.int s0] h (QI z) := 
  go_ok (X := none) (blk := wX10_person_139) (np := 140) (tt := 0) (kN := fun _ _ _ => none) (kT := fun _ _ _ => none) (kR := kRI)
    (fun _ _ _ q => nos q)
    (fun _ _ _ q => nos q)
    kRI_ok (Or.inr rfl) (by decide +kernel) (by decide +kernel) hf
theorem kqX10_person_136 : okC mX10_person 136 (.invokevirtual 119) 60 44 0 1 = true := by decide +kernel
def fX10_person_136 (s0 : Int32) (s1 : Nat) (h : aH) : Option (Int32 × aH) :=
  (isO h 10 s1).bind fun _ =>
  (gX10_answer s1 s0 h).bind fun r =>
  fX10_person_139 r.1 r.2
theorem tX10_person_136 {d : Nat} {z : Int32 × aH} (s0 : Int32) (s1 : Nat) (h : aH) (hf : fX10_person_136 s0 s1 h = some z) : Ev (d + 1) none mX10_person (0, 0) 136 [.null, .null, .null] [.int s0, .ref s1] h (QI z) := by
  obtain ⟨_, h1, hf⟩ := bnd hf
  obtain ⟨fs, ho⟩ := isO_ok h1
  obtain ⟨r, h2, hf⟩ := bnd hf
  refine ev_V kqX10_person_136 jX10_answer (zX10_answer (d := d + 0) h2) ho rfl rfl (Nat.le_of_ble_eq_true rfl) rfl (as := [.int s0]) (rest := []) rfl (Nat.le_of_ble_eq_true rfl) (fun _ _ hq => ?_)
  obtain ⟨rfl, rfl⟩ := hq
  exact jm [0, 0, 0] (fX10_person_139 r.1 r.2) (fun q => tX10_person_139 r.1 r.2 q) hf
def wX10_person_124 : List En := [(.aload_n 0, 0, 0, 0), (.aload_n 0, 0, 0, 0), (.getfield 68, 170, 10, 8), (.getfield 147, 30, 7, 4), (.iload_n 1, 0, 0, 0), (.ishr, 0, 0, 0), (.iconst 1, 0, 0, 0), (.iand, 0, 0, 0)]
def fX10_person_124 (v0 : Nat) (v1 : Int32) (h : aH) : Option (Int32 × aH) :=
  (gFR h 10 v0 8).bind fun t1 =>
  (gFI h 7 t1 4).bind fun t2 =>
  fX10_person_136 ((t2 >>> (v1 &&& 31)) &&& (kI 1)) v0 h
theorem tX10_person_124 {d : Nat} {z : Int32 × aH} (v0 : Nat) (v1 : Int32) (h : aH) (hf : fX10_person_124 v0 v1 h = some z) : Ev (d + 1) none mX10_person (0, 0) 124 [.ref v0, .int v1, .null] [] h (QI z) := 
  go_ok (X := none) (blk := wX10_person_124) (np := 136) (tt := 0) (kN := fun xs h st => app [0, 0, 0] (apS [1, 2] (fun s0 s1 => fX10_person_136 s0 s1 h) st) xs) (kT := fun _ _ _ => none) (kR := kRI)
    (fun xs h st q => jm [0, 0, 0] _ (fun q => apS_ok [1, 2] _ (fun st => Ev (d + 1) none mX10_person (0, 0) 136 [.null, .null, .null] st h (QI z)) st (fun s0 s1 q => tX10_person_136 s0 s1 h q) q) q)
    (fun _ _ _ q => nos q)
    kRI_ok (Or.inr rfl) (by decide +kernel) (by decide +kernel) hf
theorem kdX10_person_15 : decode mX10_person.2.2.1 15 = .ok (.tableswitch 125 0 5 #[37, 51, 65, 79, 93, 109], 37) := by decide +kernel
def fX10_person_15 (v0 : Nat) (v1 : Int32) (s0 : Int32) (h : aH) : Option (Int32 × aH) :=
  if s0 = kI 0 then fX10_person_52 v0 v1 h else
  if s0 = kI 1 then fX10_person_66 v0 v1 h else
  if s0 = kI 2 then fX10_person_80 v0 v1 h else
  if s0 = kI 3 then fX10_person_94 v0 v1 h else
  if s0 = kI 4 then fX10_person_108 v0 v1 h else
  if s0 = kI 5 then fX10_person_124 v0 v1 h else
  fX10_person_140 v0 h
theorem tX10_person_15 {d : Nat} {z : Int32 × aH} (v0 : Nat) (v1 : Int32) (s0 : Int32) (h : aH) (hf : fX10_person_15 v0 v1 s0 h = some z) : Ev (d + 1) none mX10_person (0, 0) 15 [.ref v0, .int v1, .null] [.int s0] h (QI z) := by
  unfold fX10_person_15 at hf
  by_cases c0 : s0 = kI 0
  · rw [if_pos c0] at hf
    subst c0
    exact ev_tsI kdX10_person_15 (by decide) rfl rfl (jm [2, 1, 0] (fun v0 v1 => fX10_person_52 v0 v1 h) (fun v0 v1 q => tX10_person_52 v0 v1 h q) hf)
  rw [if_neg c0] at hf
  by_cases c1 : s0 = kI 1
  · rw [if_pos c1] at hf
    subst c1
    exact ev_tsI kdX10_person_15 (by decide) rfl rfl (jm [2, 1, 0] (fun v0 v1 => fX10_person_66 v0 v1 h) (fun v0 v1 q => tX10_person_66 v0 v1 h q) hf)
  rw [if_neg c1] at hf
  by_cases c2 : s0 = kI 2
  · rw [if_pos c2] at hf
    subst c2
    exact ev_tsI kdX10_person_15 (by decide) rfl rfl (jm [2, 1, 0] (fun v0 v1 => fX10_person_80 v0 v1 h) (fun v0 v1 q => tX10_person_80 v0 v1 h q) hf)
  rw [if_neg c2] at hf
  by_cases c3 : s0 = kI 3
  · rw [if_pos c3] at hf
    subst c3
    exact ev_tsI kdX10_person_15 (by decide) rfl rfl (jm [2, 1, 0] (fun v0 v1 => fX10_person_94 v0 v1 h) (fun v0 v1 q => tX10_person_94 v0 v1 h q) hf)
  rw [if_neg c3] at hf
  by_cases c4 : s0 = kI 4
  · rw [if_pos c4] at hf
    subst c4
    exact ev_tsI kdX10_person_15 (by decide) rfl rfl (jm [2, 1, 0] (fun v0 v1 => fX10_person_108 v0 v1 h) (fun v0 v1 q => tX10_person_108 v0 v1 h q) hf)
  rw [if_neg c4] at hf
  by_cases c5 : s0 = kI 5
  · rw [if_pos c5] at hf
    subst c5
    exact ev_tsI kdX10_person_15 (by decide) rfl rfl (jm [2, 1, 0] (fun v0 v1 => fX10_person_124 v0 v1 h) (fun v0 v1 q => tX10_person_124 v0 v1 h q) hf)
  rw [if_neg c5] at hf
  exact ev_tsO kdX10_person_15 (ts_out (fun n h1 h2 => by
    have hn : n = 0 ∨ n = 1 ∨ n = 2 ∨ n = 3 ∨ n = 4 ∨ n = 5 := by omega
    rcases hn with rfl | rfl | rfl | rfl | rfl | rfl <;> assumption)) rfl (jm [2, 0, 0] (fun v0 => fX10_person_140 v0 h) (fun v0 q => tX10_person_140 v0 h q) hf)
def wX10_person_14 : List En := [(.iload_n 2, 0, 0, 0)]
def fX10_person_14 (v0 : Nat) (v1 : Int32) (v2 : Int32) (h : aH) : Option (Int32 × aH) :=
  fX10_person_15 v0 v1 v2 h
theorem tX10_person_14 {d : Nat} {z : Int32 × aH} (v0 : Nat) (v1 : Int32) (v2 : Int32) (h : aH) (hf : fX10_person_14 v0 v1 v2 h = some z) : Ev (d + 1) none mX10_person (0, 0) 14 [.ref v0, .int v1, .int v2] [] h (QI z) := 
  go_ok (X := none) (blk := wX10_person_14) (np := 15) (tt := 0) (kN := fun xs h st => app [2, 1, 0] (fun v0 v1 => apS [1] (fun s0 => fX10_person_15 v0 v1 s0 h) st) xs) (kT := fun _ _ _ => none) (kR := kRI)
    (fun xs h st q => jm [2, 1, 0] _ (fun v0 v1 q => apS_ok [1] _ (fun st => Ev (d + 1) none mX10_person (0, 0) 15 [.ref v0, .int v1, .null] st h (QI z)) st (fun s0 q => tX10_person_15 v0 v1 s0 h q) q) q)
    (fun _ _ _ q => nos q)
    kRI_ok (Or.inr rfl) (by decide +kernel) (by decide +kernel) hf
def wX10_person_13 : List En := [(.ireturn, 0, 0, 0)]
def fX10_person_13 (s0 : Int32) (h : aH) : Option (Int32 × aH) :=
  some (s0, h)
theorem tX10_person_13 {d : Nat} {z : Int32 × aH} (s0 : Int32) (h : aH) (hf : fX10_person_13 s0 h = some z) : Ev (d + 1) none mX10_person (0, 0) 13 [.null, .null, .null] [.int s0] h (QI z) := 
  go_ok (X := none) (blk := wX10_person_13) (np := 14) (tt := 0) (kN := fun _ _ _ => none) (kT := fun _ _ _ => none) (kR := kRI)
    (fun _ _ _ q => nos q)
    (fun _ _ _ q => nos q)
    kRI_ok (Or.inr rfl) (by decide +kernel) (by decide +kernel) hf
theorem kqX10_person_10 : okC mX10_person 10 (.invokevirtual 94) 15 8 0 1 = true := by decide +kernel
def fX10_person_10 (s0 : Int32) (s1 : Nat) (h : aH) : Option (Int32 × aH) :=
  (isO h 10 s1).bind fun _ =>
  (gX10_refuse s1 s0 h).bind fun r =>
  fX10_person_13 r.1 r.2
theorem tX10_person_10 {d : Nat} {z : Int32 × aH} (s0 : Int32) (s1 : Nat) (h : aH) (hf : fX10_person_10 s0 s1 h = some z) : Ev (d + 1) none mX10_person (0, 0) 10 [.null, .null, .null] [.int s0, .ref s1] h (QI z) := by
  obtain ⟨_, h1, hf⟩ := bnd hf
  obtain ⟨fs, ho⟩ := isO_ok h1
  obtain ⟨r, h2, hf⟩ := bnd hf
  refine ev_V kqX10_person_10 jX10_refuse (zX10_refuse (d := d + 0) h2) ho rfl rfl (Nat.le_of_ble_eq_true rfl) rfl (as := [.int s0]) (rest := []) rfl (Nat.le_of_ble_eq_true rfl) (fun _ _ hq => ?_)
  obtain ⟨rfl, rfl⟩ := hq
  exact jm [0, 0, 0] (fX10_person_13 r.1 r.2) (fun q => tX10_person_13 r.1 r.2 q) hf
def wX10_person_8 : List En := [(.aload_n 0, 0, 0, 0), (.iconst 1, 0, 0, 0)]
def fX10_person_8 (v0 : Nat) (h : aH) : Option (Int32 × aH) :=
  fX10_person_10 (kI 1) v0 h
theorem tX10_person_8 {d : Nat} {z : Int32 × aH} (v0 : Nat) (h : aH) (hf : fX10_person_8 v0 h = some z) : Ev (d + 1) none mX10_person (0, 0) 8 [.ref v0, .null, .null] [] h (QI z) := 
  go_ok (X := none) (blk := wX10_person_8) (np := 10) (tt := 0) (kN := fun xs h st => app [0, 0, 0] (apS [1, 2] (fun s0 s1 => fX10_person_10 s0 s1 h) st) xs) (kT := fun _ _ _ => none) (kR := kRI)
    (fun xs h st q => jm [0, 0, 0] _ (fun q => apS_ok [1, 2] _ (fun st => Ev (d + 1) none mX10_person (0, 0) 10 [.null, .null, .null] st h (QI z)) st (fun s0 s1 q => tX10_person_10 s0 s1 h q) q) q)
    (fun _ _ _ q => nos q)
    kRI_ok (Or.inr rfl) (by decide +kernel) (by decide +kernel) hf
def wX10_person_5 : List En := [(.ifCond .eq 9, 14, 0, 0)]
def fX10_person_5 (v0 : Nat) (v1 : Int32) (v2 : Int32) (s0 : Int32) (h : aH) : Option (Int32 × aH) :=
  if s0 = 0 then fX10_person_14 v0 v1 v2 h else fX10_person_8 v0 h
theorem tX10_person_5 {d : Nat} {z : Int32 × aH} (v0 : Nat) (v1 : Int32) (v2 : Int32) (s0 : Int32) (h : aH) (hf : fX10_person_5 v0 v1 v2 s0 h = some z) : Ev (d + 1) none mX10_person (0, 0) 5 [.ref v0, .int v1, .int v2] [.int s0] h (QI z) := 
  go_ok (X := none) (blk := wX10_person_5) (np := 8) (tt := 14) (kN := fun xs h st => app [2, 0, 0] (fun v0 => apS [] (fX10_person_8 v0 h) st) xs) (kT := fun xs h st => app [2, 1, 1] (fun v0 v1 v2 => apS [] (fX10_person_14 v0 v1 v2 h) st) xs) (kR := kRI)
    (fun xs h st q => jm [2, 0, 0] _ (fun v0 q => apS_ok [] _ (fun st => Ev (d + 1) none mX10_person (0, 0) 8 [.ref v0, .null, .null] st h (QI z)) st (fun q => tX10_person_8 v0 h q) q) q)
    (fun xs h st q => jm [2, 1, 1] _ (fun v0 v1 v2 q => apS_ok [] _ (fun st => Ev (d + 1) none mX10_person (0, 0) 14 [.ref v0, .int v1, .int v2] st h (QI z)) st (fun q => tX10_person_14 v0 v1 v2 h q) q) q)
    kRI_ok (Or.inr rfl) (by decide +kernel) (by decide +kernel) hf
theorem kqX10_person_2 : okC mX10_person 2 (.invokevirtual 128) 64 48 0 1 = true := by decide +kernel
def fX10_person_2 (v0 : Nat) (v1 : Int32) (v2 : Int32) (s0 : Int32) (s1 : Nat) (h : aH) : Option (Int32 × aH) :=
  (isO h 10 s1).bind fun _ =>
  (gX10_lacksPerson s1 s0 h).bind fun r =>
  fX10_person_5 v0 v1 v2 r.1 r.2
theorem tX10_person_2 {d : Nat} {z : Int32 × aH} (v0 : Nat) (v1 : Int32) (v2 : Int32) (s0 : Int32) (s1 : Nat) (h : aH) (hf : fX10_person_2 v0 v1 v2 s0 s1 h = some z) : Ev (d + 1) none mX10_person (0, 0) 2 [.ref v0, .int v1, .int v2] [.int s0, .ref s1] h (QI z) := by
  obtain ⟨_, h1, hf⟩ := bnd hf
  obtain ⟨fs, ho⟩ := isO_ok h1
  obtain ⟨r, h2, hf⟩ := bnd hf
  refine ev_V kqX10_person_2 jX10_lacksPerson (zX10_lacksPerson (d := d + 0) h2) ho rfl rfl (Nat.le_of_ble_eq_true rfl) rfl (as := [.int s0]) (rest := []) rfl (Nat.le_of_ble_eq_true rfl) (fun _ _ hq => ?_)
  obtain ⟨-, rfl, rfl⟩ := hq
  exact jm [2, 1, 1] (fun v0 v1 v2 => fX10_person_5 v0 v1 v2 r.1 r.2) (fun v0 v1 v2 q => tX10_person_5 v0 v1 v2 r.1 r.2 q) hf
def wX10_person_0 : List En := [(.aload_n 0, 0, 0, 0), (.iload_n 1, 0, 0, 0)]
def fX10_person_0 (v0 : Nat) (v1 : Int32) (v2 : Int32) (h : aH) : Option (Int32 × aH) :=
  fX10_person_2 v0 v1 v2 v1 v0 h
theorem tX10_person_0 {d : Nat} {z : Int32 × aH} (v0 : Nat) (v1 : Int32) (v2 : Int32) (h : aH) (hf : fX10_person_0 v0 v1 v2 h = some z) : Ev (d + 1) none mX10_person (0, 0) 0 [.ref v0, .int v1, .int v2] [] h (QI z) := 
  go_ok (X := none) (blk := wX10_person_0) (np := 2) (tt := 0) (kN := fun xs h st => app [2, 1, 1] (fun v0 v1 v2 => apS [1, 2] (fun s0 s1 => fX10_person_2 v0 v1 v2 s0 s1 h) st) xs) (kT := fun _ _ _ => none) (kR := kRI)
    (fun xs h st q => jm [2, 1, 1] _ (fun v0 v1 v2 q => apS_ok [1, 2] _ (fun st => Ev (d + 1) none mX10_person (0, 0) 2 [.ref v0, .int v1, .int v2] st h (QI z)) st (fun s0 s1 q => tX10_person_2 v0 v1 v2 s0 s1 h q) q) q)
    (fun _ _ _ q => nos q)
    kRI_ok (Or.inr rfl) (by decide +kernel) (by decide +kernel) hf
def gX10_person (v0 : Nat) (v1 : Int32) (v2 : Int32) (h : aH) : Option (Int32 × aH) := fX10_person_0 v0 v1 v2 h
theorem zX10_person {d : Nat} {z : Int32 × aH} {v0 : Nat} {v1 : Int32} {v2 : Int32} {h : aH} (q : gX10_person v0 v1 v2 h = some z) : CT (d + 1) mX10_person (0, 0) [.ref v0, .int v1, .int v2] h (QI z) :=
  ct_ev (by decide +kernel) (Nat.le_of_ble_eq_true rfl) QI_r (jm [2, 1, 1] (fun v0 v1 v2 => fX10_person_0 v0 v1 v2 h) (fun v0 v1 v2 q => tX10_person_0 v0 v1 v2 h q) q)
def wX10_lacksName_20 : List En := [(.ireturn, 0, 0, 0)]
def fX10_lacksName_20 (s0 : Int32) (h : aH) : Option (Int32 × aH) :=
  if s0 = 0 ∨ s0 = 1 then some (s0, h) else none
theorem tX10_lacksName_20 {d : Nat} {z : Int32 × aH} (s0 : Int32) (h : aH) (hf : fX10_lacksName_20 s0 h = some z) : Ev (d + 0) none mX10_lacksName (0, 0) 20 [.null, .null] [.int s0] h (QZ z) := 
  go_ok (X := none) (blk := wX10_lacksName_20) (np := 21) (tt := 0) (kN := fun _ _ _ => none) (kT := fun _ _ _ => none) (kR := kRZ)
    (fun _ _ _ q => nos q)
    (fun _ _ _ q => nos q)
    kRZ_ok (Or.inr rfl) (by decide +kernel) (by decide +kernel) hf
def wX10_lacksName_15 : List En := [(.iconst 1, 0, 0, 0), (.goto 4, 20, 0, 0)]
def fX10_lacksName_15 (h : aH) : Option (Int32 × aH) :=
  fX10_lacksName_20 (kI 1) h
theorem tX10_lacksName_15 {d : Nat} {z : Int32 × aH} (h : aH) (hf : fX10_lacksName_15 h = some z) : Ev (d + 0) none mX10_lacksName (0, 0) 15 [.null, .null] [] h (QZ z) := 
  go_ok (X := none) (blk := wX10_lacksName_15) (np := 19) (tt := 20) (kN := fun _ _ _ => none) (kT := fun xs h st => app [0, 0] (apS [1] (fun s0 => fX10_lacksName_20 s0 h) st) xs) (kR := kRZ)
    (fun _ _ _ q => nos q)
    (fun xs h st q => jm [0, 0] _ (fun q => apS_ok [1] _ (fun st => Ev (d + 0) none mX10_lacksName (0, 0) 20 [.null, .null] st h (QZ z)) st (fun s0 q => tX10_lacksName_20 s0 h q) q) q)
    kRZ_ok (Or.inr rfl) (by decide +kernel) (by decide +kernel) hf
def wX10_lacksName_19 : List En := [(.iconst 0, 0, 0, 0)]
def fX10_lacksName_19 (h : aH) : Option (Int32 × aH) :=
  fX10_lacksName_20 (kI 0) h
theorem tX10_lacksName_19 {d : Nat} {z : Int32 × aH} (h : aH) (hf : fX10_lacksName_19 h = some z) : Ev (d + 0) none mX10_lacksName (0, 0) 19 [.null, .null] [] h (QZ z) := 
  go_ok (X := none) (blk := wX10_lacksName_19) (np := 20) (tt := 0) (kN := fun xs h st => app [0, 0] (apS [1] (fun s0 => fX10_lacksName_20 s0 h) st) xs) (kT := fun _ _ _ => none) (kR := kRZ)
    (fun xs h st q => jm [0, 0] _ (fun q => apS_ok [1] _ (fun st => Ev (d + 0) none mX10_lacksName (0, 0) 20 [.null, .null] st h (QZ z)) st (fun s0 q => tX10_lacksName_20 s0 h q) q) q)
    (fun _ _ _ q => nos q)
    kRZ_ok (Or.inr rfl) (by decide +kernel) (by decide +kernel) hf
def wX10_lacksName_4 : List En := [(.iload_n 1, 0, 0, 0), (.aload_n 0, 0, 0, 0), (.getfield 75, 171, 10, 9), (.getfield 368, 116, 9, 4), (.if_icmp .lt 7, 19, 0, 0)]
def fX10_lacksName_4 (v0 : Nat) (v1 : Int32) (h : aH) : Option (Int32 × aH) :=
  (gFR h 10 v0 9).bind fun t1 =>
  (gFI h 9 t1 4).bind fun t2 =>
  if v1 < t2 then fX10_lacksName_19 h else fX10_lacksName_15 h
theorem tX10_lacksName_4 {d : Nat} {z : Int32 × aH} (v0 : Nat) (v1 : Int32) (h : aH) (hf : fX10_lacksName_4 v0 v1 h = some z) : Ev (d + 0) none mX10_lacksName (0, 0) 4 [.ref v0, .int v1] [] h (QZ z) := 
  go_ok (X := none) (blk := wX10_lacksName_4) (np := 15) (tt := 19) (kN := fun xs h st => app [0, 0] (apS [] (fX10_lacksName_15 h) st) xs) (kT := fun xs h st => app [0, 0] (apS [] (fX10_lacksName_19 h) st) xs) (kR := kRZ)
    (fun xs h st q => jm [0, 0] _ (fun q => apS_ok [] _ (fun st => Ev (d + 0) none mX10_lacksName (0, 0) 15 [.null, .null] st h (QZ z)) st (fun q => tX10_lacksName_15 h q) q) q)
    (fun xs h st q => jm [0, 0] _ (fun q => apS_ok [] _ (fun st => Ev (d + 0) none mX10_lacksName (0, 0) 19 [.null, .null] st h (QZ z)) st (fun q => tX10_lacksName_19 h q) q) q)
    kRZ_ok (Or.inr rfl) (by decide +kernel) (by decide +kernel) hf
def wX10_lacksName_0 : List En := [(.iload_n 1, 0, 0, 0), (.ifCond .lt 14, 15, 0, 0)]
def fX10_lacksName_0 (v0 : Nat) (v1 : Int32) (h : aH) : Option (Int32 × aH) :=
  if v1 < 0 then fX10_lacksName_15 h else fX10_lacksName_4 v0 v1 h
theorem tX10_lacksName_0 {d : Nat} {z : Int32 × aH} (v0 : Nat) (v1 : Int32) (h : aH) (hf : fX10_lacksName_0 v0 v1 h = some z) : Ev (d + 0) none mX10_lacksName (0, 0) 0 [.ref v0, .int v1] [] h (QZ z) := 
  go_ok (X := none) (blk := wX10_lacksName_0) (np := 4) (tt := 15) (kN := fun xs h st => app [2, 1] (fun v0 v1 => apS [] (fX10_lacksName_4 v0 v1 h) st) xs) (kT := fun xs h st => app [0, 0] (apS [] (fX10_lacksName_15 h) st) xs) (kR := kRZ)
    (fun xs h st q => jm [2, 1] _ (fun v0 v1 q => apS_ok [] _ (fun st => Ev (d + 0) none mX10_lacksName (0, 0) 4 [.ref v0, .int v1] st h (QZ z)) st (fun q => tX10_lacksName_4 v0 v1 h q) q) q)
    (fun xs h st q => jm [0, 0] _ (fun q => apS_ok [] _ (fun st => Ev (d + 0) none mX10_lacksName (0, 0) 15 [.null, .null] st h (QZ z)) st (fun q => tX10_lacksName_15 h q) q) q)
    kRZ_ok (Or.inr rfl) (by decide +kernel) (by decide +kernel) hf
def gX10_lacksName (v0 : Nat) (v1 : Int32) (h : aH) : Option (Int32 × aH) := fX10_lacksName_0 v0 v1 h
theorem zX10_lacksName {d : Nat} {z : Int32 × aH} {v0 : Nat} {v1 : Int32} {h : aH} (q : gX10_lacksName v0 v1 h = some z) : CT (d + 0) mX10_lacksName (0, 0) [.ref v0, .int v1] h (QZ z) :=
  ct_ev (by decide +kernel) (Nat.le_of_ble_eq_true rfl) QZ_r (jm [2, 1] (fun v0 v1 => fX10_lacksName_0 v0 v1 h) (fun v0 v1 q => tX10_lacksName_0 v0 v1 h q) q)
def wX10_name_22 : List En := [(.ireturn, 0, 0, 0)]
def fX10_name_22 (s0 : Int32) (h : aH) : Option (Int32 × aH) :=
  some (s0, h)
theorem tX10_name_22 {d : Nat} {z : Int32 × aH} (s0 : Int32) (h : aH) (hf : fX10_name_22 s0 h = some z) : Ev (d + 1) none mX10_name (0, 0) 22 [.null, .null, .null] [.int s0] h (QI z) := 
  go_ok (X := none) (blk := wX10_name_22) (np := 23) (tt := 0) (kN := fun _ _ _ => none) (kT := fun _ _ _ => none) (kR := kRI)
    (fun _ _ _ q => nos q)
    (fun _ _ _ q => nos q)
    kRI_ok (Or.inr rfl) (by decide +kernel) (by decide +kernel) hf
theorem kqX10_name_19 : okC mX10_name 19 (.invokevirtual 94) 15 8 0 1 = true := by decide +kernel
def fX10_name_19 (s0 : Int32) (s1 : Nat) (h : aH) : Option (Int32 × aH) :=
  (isO h 10 s1).bind fun _ =>
  (gX10_refuse s1 s0 h).bind fun r =>
  fX10_name_22 r.1 r.2
theorem tX10_name_19 {d : Nat} {z : Int32 × aH} (s0 : Int32) (s1 : Nat) (h : aH) (hf : fX10_name_19 s0 s1 h = some z) : Ev (d + 1) none mX10_name (0, 0) 19 [.null, .null, .null] [.int s0, .ref s1] h (QI z) := by
  obtain ⟨_, h1, hf⟩ := bnd hf
  obtain ⟨fs, ho⟩ := isO_ok h1
  obtain ⟨r, h2, hf⟩ := bnd hf
  refine ev_V kqX10_name_19 jX10_refuse (zX10_refuse (d := d + 0) h2) ho rfl rfl (Nat.le_of_ble_eq_true rfl) rfl (as := [.int s0]) (rest := []) rfl (Nat.le_of_ble_eq_true rfl) (fun _ _ hq => ?_)
  obtain ⟨rfl, rfl⟩ := hq
  exact jm [0, 0, 0] (fX10_name_22 r.1 r.2) (fun q => tX10_name_22 r.1 r.2 q) hf
def wX10_name_17 : List En := [(.aload_n 0, 0, 0, 0), (.iconst 1, 0, 0, 0)]
def fX10_name_17 (v0 : Nat) (h : aH) : Option (Int32 × aH) :=
  fX10_name_19 (kI 1) v0 h
theorem tX10_name_17 {d : Nat} {z : Int32 × aH} (v0 : Nat) (h : aH) (hf : fX10_name_17 v0 h = some z) : Ev (d + 1) none mX10_name (0, 0) 17 [.ref v0, .null, .null] [] h (QI z) := 
  go_ok (X := none) (blk := wX10_name_17) (np := 19) (tt := 0) (kN := fun xs h st => app [0, 0, 0] (apS [1, 2] (fun s0 s1 => fX10_name_19 s0 s1 h) st) xs) (kT := fun _ _ _ => none) (kR := kRI)
    (fun xs h st q => jm [0, 0, 0] _ (fun q => apS_ok [1, 2] _ (fun st => Ev (d + 1) none mX10_name (0, 0) 19 [.null, .null, .null] st h (QI z)) st (fun s0 s1 q => tX10_name_19 s0 s1 h q) q) q)
    (fun _ _ _ q => nos q)
    kRI_ok (Or.inr rfl) (by decide +kernel) (by decide +kernel) hf
def wX10_name_52 : List En := [(.ireturn, 0, 0, 0)]
def fX10_name_52 (s0 : Int32) (h : aH) : Option (Int32 × aH) :=
  some (s0, h)
theorem tX10_name_52 {d : Nat} {z : Int32 × aH} (s0 : Int32) (h : aH) (hf : fX10_name_52 s0 h = some z) : Ev (d + 1) none mX10_name (0, 0) 52 [.null, .null, .null] [.int s0] h (QI z) := 
  go_ok (X := none) (blk := wX10_name_52) (np := 53) (tt := 0) (kN := fun _ _ _ => none) (kT := fun _ _ _ => none) (kR := kRI)
    (fun _ _ _ q => nos q)
    (fun _ _ _ q => nos q)
    kRI_ok (Or.inr rfl) (by decide +kernel) (by decide +kernel) hf
theorem kqX10_name_49 : okC mX10_name 49 (.invokevirtual 119) 60 44 0 1 = true := by decide +kernel
def fX10_name_49 (s0 : Int32) (s1 : Nat) (h : aH) : Option (Int32 × aH) :=
  (isO h 10 s1).bind fun _ =>
  (gX10_answer s1 s0 h).bind fun r =>
  fX10_name_52 r.1 r.2
theorem tX10_name_49 {d : Nat} {z : Int32 × aH} (s0 : Int32) (s1 : Nat) (h : aH) (hf : fX10_name_49 s0 s1 h = some z) : Ev (d + 1) none mX10_name (0, 0) 49 [.null, .null, .null] [.int s0, .ref s1] h (QI z) := by
  obtain ⟨_, h1, hf⟩ := bnd hf
  obtain ⟨fs, ho⟩ := isO_ok h1
  obtain ⟨r, h2, hf⟩ := bnd hf
  refine ev_V kqX10_name_49 jX10_answer (zX10_answer (d := d + 0) h2) ho rfl rfl (Nat.le_of_ble_eq_true rfl) rfl (as := [.int s0]) (rest := []) rfl (Nat.le_of_ble_eq_true rfl) (fun _ _ hq => ?_)
  obtain ⟨rfl, rfl⟩ := hq
  exact jm [0, 0, 0] (fX10_name_52 r.1 r.2) (fun q => tX10_name_52 r.1 r.2 q) hf
def wX10_name_40 : List En := [(.aload_n 0, 0, 0, 0), (.getfield 68, 170, 10, 8), (.getfield 156, 25, 7, 2), (.iload_n 1, 0, 0, 0), (.iaload, 0, 0, 0)]
def fX10_name_40 (v0 : Nat) (v1 : Int32) (s0 : Nat) (h : aH) : Option (Int32 × aH) :=
  (gFR h 10 v0 8).bind fun t1 =>
  (gFR h 7 t1 2).bind fun t2 =>
  (aRI (h[t2]?) v1).bind fun t3 =>
  fX10_name_49 t3 s0 h
theorem tX10_name_40 {d : Nat} {z : Int32 × aH} (v0 : Nat) (v1 : Int32) (s0 : Nat) (h : aH) (hf : fX10_name_40 v0 v1 s0 h = some z) : Ev (d + 1) none mX10_name (0, 0) 40 [.ref v0, .int v1, .null] [.ref s0] h (QI z) := 
  go_ok (X := none) (blk := wX10_name_40) (np := 49) (tt := 0) (kN := fun xs h st => app [0, 0, 0] (apS [1, 2] (fun s0 s1 => fX10_name_49 s0 s1 h) st) xs) (kT := fun _ _ _ => none) (kR := kRI)
    (fun xs h st q => jm [0, 0, 0] _ (fun q => apS_ok [1, 2] _ (fun st => Ev (d + 1) none mX10_name (0, 0) 49 [.null, .null, .null] st h (QI z)) st (fun s0 s1 q => tX10_name_49 s0 s1 h q) q) q)
    (fun _ _ _ q => nos q)
    kRI_ok (Or.inr rfl) (by decide +kernel) (by decide +kernel) hf
def wX10_name_28 : List En := [(.aload_n 0, 0, 0, 0), (.getfield 75, 171, 10, 9), (.getfield 153, 141, 9, 11), (.iload_n 1, 0, 0, 0), (.iaload, 0, 0, 0), (.goto 12, 49, 0, 0)]
def fX10_name_28 (v0 : Nat) (v1 : Int32) (s0 : Nat) (h : aH) : Option (Int32 × aH) :=
  (gFR h 10 v0 9).bind fun t1 =>
  (gFR h 9 t1 11).bind fun t2 =>
  (aRI (h[t2]?) v1).bind fun t3 =>
  fX10_name_49 t3 s0 h
theorem tX10_name_28 {d : Nat} {z : Int32 × aH} (v0 : Nat) (v1 : Int32) (s0 : Nat) (h : aH) (hf : fX10_name_28 v0 v1 s0 h = some z) : Ev (d + 1) none mX10_name (0, 0) 28 [.ref v0, .int v1, .null] [.ref s0] h (QI z) := 
  go_ok (X := none) (blk := wX10_name_28) (np := 40) (tt := 49) (kN := fun _ _ _ => none) (kT := fun xs h st => app [0, 0, 0] (apS [1, 2] (fun s0 s1 => fX10_name_49 s0 s1 h) st) xs) (kR := kRI)
    (fun _ _ _ q => nos q)
    (fun xs h st q => jm [0, 0, 0] _ (fun q => apS_ok [1, 2] _ (fun st => Ev (d + 1) none mX10_name (0, 0) 49 [.null, .null, .null] st h (QI z)) st (fun s0 s1 q => tX10_name_49 s0 s1 h q) q) q)
    kRI_ok (Or.inr rfl) (by decide +kernel) (by decide +kernel) hf
def wX10_name_23 : List En := [(.aload_n 0, 0, 0, 0), (.iload_n 2, 0, 0, 0), (.ifCond .ne 15, 40, 0, 0)]
def fX10_name_23 (v0 : Nat) (v1 : Int32) (v2 : Int32) (h : aH) : Option (Int32 × aH) :=
  if v2 = 0 then fX10_name_28 v0 v1 v0 h else fX10_name_40 v0 v1 v0 h
theorem tX10_name_23 {d : Nat} {z : Int32 × aH} (v0 : Nat) (v1 : Int32) (v2 : Int32) (h : aH) (hf : fX10_name_23 v0 v1 v2 h = some z) : Ev (d + 1) none mX10_name (0, 0) 23 [.ref v0, .int v1, .int v2] [] h (QI z) := 
  go_ok (X := none) (blk := wX10_name_23) (np := 28) (tt := 40) (kN := fun xs h st => app [2, 1, 0] (fun v0 v1 => apS [2] (fun s0 => fX10_name_28 v0 v1 s0 h) st) xs) (kT := fun xs h st => app [2, 1, 0] (fun v0 v1 => apS [2] (fun s0 => fX10_name_40 v0 v1 s0 h) st) xs) (kR := kRI)
    (fun xs h st q => jm [2, 1, 0] _ (fun v0 v1 q => apS_ok [2] _ (fun st => Ev (d + 1) none mX10_name (0, 0) 28 [.ref v0, .int v1, .null] st h (QI z)) st (fun s0 q => tX10_name_28 v0 v1 s0 h q) q) q)
    (fun xs h st q => jm [2, 1, 0] _ (fun v0 v1 q => apS_ok [2] _ (fun st => Ev (d + 1) none mX10_name (0, 0) 40 [.ref v0, .int v1, .null] st h (QI z)) st (fun s0 q => tX10_name_40 v0 v1 s0 h q) q) q)
    kRI_ok (Or.inr rfl) (by decide +kernel) (by decide +kernel) hf
def wX10_name_12 : List En := [(.iload_n 2, 0, 0, 0), (.iconst 1, 0, 0, 0), (.if_icmp .le 9, 23, 0, 0)]
def fX10_name_12 (v0 : Nat) (v1 : Int32) (v2 : Int32) (h : aH) : Option (Int32 × aH) :=
  if (kI 1) < v2 then fX10_name_17 v0 h else fX10_name_23 v0 v1 v2 h
theorem tX10_name_12 {d : Nat} {z : Int32 × aH} (v0 : Nat) (v1 : Int32) (v2 : Int32) (h : aH) (hf : fX10_name_12 v0 v1 v2 h = some z) : Ev (d + 1) none mX10_name (0, 0) 12 [.ref v0, .int v1, .int v2] [] h (QI z) := 
  go_ok (X := none) (blk := wX10_name_12) (np := 17) (tt := 23) (kN := fun xs h st => app [2, 0, 0] (fun v0 => apS [] (fX10_name_17 v0 h) st) xs) (kT := fun xs h st => app [2, 1, 1] (fun v0 v1 v2 => apS [] (fX10_name_23 v0 v1 v2 h) st) xs) (kR := kRI)
    (fun xs h st q => jm [2, 0, 0] _ (fun v0 q => apS_ok [] _ (fun st => Ev (d + 1) none mX10_name (0, 0) 17 [.ref v0, .null, .null] st h (QI z)) st (fun q => tX10_name_17 v0 h q) q) q)
    (fun xs h st q => jm [2, 1, 1] _ (fun v0 v1 v2 q => apS_ok [] _ (fun st => Ev (d + 1) none mX10_name (0, 0) 23 [.ref v0, .int v1, .int v2] st h (QI z)) st (fun q => tX10_name_23 v0 v1 v2 h q) q) q)
    kRI_ok (Or.inr rfl) (by decide +kernel) (by decide +kernel) hf
def wX10_name_8 : List En := [(.iload_n 2, 0, 0, 0), (.ifCond .lt 8, 17, 0, 0)]
def fX10_name_8 (v0 : Nat) (v1 : Int32) (v2 : Int32) (h : aH) : Option (Int32 × aH) :=
  if v2 < 0 then fX10_name_17 v0 h else fX10_name_12 v0 v1 v2 h
theorem tX10_name_8 {d : Nat} {z : Int32 × aH} (v0 : Nat) (v1 : Int32) (v2 : Int32) (h : aH) (hf : fX10_name_8 v0 v1 v2 h = some z) : Ev (d + 1) none mX10_name (0, 0) 8 [.ref v0, .int v1, .int v2] [] h (QI z) := 
  go_ok (X := none) (blk := wX10_name_8) (np := 12) (tt := 17) (kN := fun xs h st => app [2, 1, 1] (fun v0 v1 v2 => apS [] (fX10_name_12 v0 v1 v2 h) st) xs) (kT := fun xs h st => app [2, 0, 0] (fun v0 => apS [] (fX10_name_17 v0 h) st) xs) (kR := kRI)
    (fun xs h st q => jm [2, 1, 1] _ (fun v0 v1 v2 q => apS_ok [] _ (fun st => Ev (d + 1) none mX10_name (0, 0) 12 [.ref v0, .int v1, .int v2] st h (QI z)) st (fun q => tX10_name_12 v0 v1 v2 h q) q) q)
    (fun xs h st q => jm [2, 0, 0] _ (fun v0 q => apS_ok [] _ (fun st => Ev (d + 1) none mX10_name (0, 0) 17 [.ref v0, .null, .null] st h (QI z)) st (fun q => tX10_name_17 v0 h q) q) q)
    kRI_ok (Or.inr rfl) (by decide +kernel) (by decide +kernel) hf
def wX10_name_5 : List En := [(.ifCond .ne 12, 17, 0, 0)]
def fX10_name_5 (v0 : Nat) (v1 : Int32) (v2 : Int32) (s0 : Int32) (h : aH) : Option (Int32 × aH) :=
  if s0 = 0 then fX10_name_8 v0 v1 v2 h else fX10_name_17 v0 h
theorem tX10_name_5 {d : Nat} {z : Int32 × aH} (v0 : Nat) (v1 : Int32) (v2 : Int32) (s0 : Int32) (h : aH) (hf : fX10_name_5 v0 v1 v2 s0 h = some z) : Ev (d + 1) none mX10_name (0, 0) 5 [.ref v0, .int v1, .int v2] [.int s0] h (QI z) := 
  go_ok (X := none) (blk := wX10_name_5) (np := 8) (tt := 17) (kN := fun xs h st => app [2, 1, 1] (fun v0 v1 v2 => apS [] (fX10_name_8 v0 v1 v2 h) st) xs) (kT := fun xs h st => app [2, 0, 0] (fun v0 => apS [] (fX10_name_17 v0 h) st) xs) (kR := kRI)
    (fun xs h st q => jm [2, 1, 1] _ (fun v0 v1 v2 q => apS_ok [] _ (fun st => Ev (d + 1) none mX10_name (0, 0) 8 [.ref v0, .int v1, .int v2] st h (QI z)) st (fun q => tX10_name_8 v0 v1 v2 h q) q) q)
    (fun xs h st q => jm [2, 0, 0] _ (fun v0 q => apS_ok [] _ (fun st => Ev (d + 1) none mX10_name (0, 0) 17 [.ref v0, .null, .null] st h (QI z)) st (fun q => tX10_name_17 v0 h q) q) q)
    kRI_ok (Or.inr rfl) (by decide +kernel) (by decide +kernel) hf
theorem kqX10_name_2 : okC mX10_name 2 (.invokevirtual 150) 66 50 0 1 = true := by decide +kernel
def fX10_name_2 (v0 : Nat) (v1 : Int32) (v2 : Int32) (s0 : Int32) (s1 : Nat) (h : aH) : Option (Int32 × aH) :=
  (isO h 10 s1).bind fun _ =>
  (gX10_lacksName s1 s0 h).bind fun r =>
  fX10_name_5 v0 v1 v2 r.1 r.2
theorem tX10_name_2 {d : Nat} {z : Int32 × aH} (v0 : Nat) (v1 : Int32) (v2 : Int32) (s0 : Int32) (s1 : Nat) (h : aH) (hf : fX10_name_2 v0 v1 v2 s0 s1 h = some z) : Ev (d + 1) none mX10_name (0, 0) 2 [.ref v0, .int v1, .int v2] [.int s0, .ref s1] h (QI z) := by
  obtain ⟨_, h1, hf⟩ := bnd hf
  obtain ⟨fs, ho⟩ := isO_ok h1
  obtain ⟨r, h2, hf⟩ := bnd hf
  refine ev_V kqX10_name_2 jX10_lacksName (zX10_lacksName (d := d + 0) h2) ho rfl rfl (Nat.le_of_ble_eq_true rfl) rfl (as := [.int s0]) (rest := []) rfl (Nat.le_of_ble_eq_true rfl) (fun _ _ hq => ?_)
  obtain ⟨-, rfl, rfl⟩ := hq
  exact jm [2, 1, 1] (fun v0 v1 v2 => fX10_name_5 v0 v1 v2 r.1 r.2) (fun v0 v1 v2 q => tX10_name_5 v0 v1 v2 r.1 r.2 q) hf
def wX10_name_0 : List En := [(.aload_n 0, 0, 0, 0), (.iload_n 1, 0, 0, 0)]
def fX10_name_0 (v0 : Nat) (v1 : Int32) (v2 : Int32) (h : aH) : Option (Int32 × aH) :=
  fX10_name_2 v0 v1 v2 v1 v0 h
theorem tX10_name_0 {d : Nat} {z : Int32 × aH} (v0 : Nat) (v1 : Int32) (v2 : Int32) (h : aH) (hf : fX10_name_0 v0 v1 v2 h = some z) : Ev (d + 1) none mX10_name (0, 0) 0 [.ref v0, .int v1, .int v2] [] h (QI z) := 
  go_ok (X := none) (blk := wX10_name_0) (np := 2) (tt := 0) (kN := fun xs h st => app [2, 1, 1] (fun v0 v1 v2 => apS [1, 2] (fun s0 s1 => fX10_name_2 v0 v1 v2 s0 s1 h) st) xs) (kT := fun _ _ _ => none) (kR := kRI)
    (fun xs h st q => jm [2, 1, 1] _ (fun v0 v1 v2 q => apS_ok [1, 2] _ (fun st => Ev (d + 1) none mX10_name (0, 0) 2 [.ref v0, .int v1, .int v2] st h (QI z)) st (fun s0 s1 q => tX10_name_2 v0 v1 v2 s0 s1 h q) q) q)
    (fun _ _ _ q => nos q)
    kRI_ok (Or.inr rfl) (by decide +kernel) (by decide +kernel) hf
def gX10_name (v0 : Nat) (v1 : Int32) (v2 : Int32) (h : aH) : Option (Int32 × aH) := fX10_name_0 v0 v1 v2 h
theorem zX10_name {d : Nat} {z : Int32 × aH} {v0 : Nat} {v1 : Int32} {v2 : Int32} {h : aH} (q : gX10_name v0 v1 v2 h = some z) : CT (d + 1) mX10_name (0, 0) [.ref v0, .int v1, .int v2] h (QI z) :=
  ct_ev (by decide +kernel) (Nat.le_of_ble_eq_true rfl) QI_r (jm [2, 1, 1] (fun v0 v1 v2 => fX10_name_0 v0 v1 v2 h) (fun v0 v1 v2 q => tX10_name_0 v0 v1 v2 h q) q)
def wX10_lacksTable_15 : List En := [(.ireturn, 0, 0, 0)]
def fX10_lacksTable_15 (s0 : Int32) (h : aH) : Option (Int32 × aH) :=
  if s0 = 0 ∨ s0 = 1 then some (s0, h) else none
theorem tX10_lacksTable_15 {d : Nat} {z : Int32 × aH} (s0 : Int32) (h : aH) (hf : fX10_lacksTable_15 s0 h = some z) : Ev (d + 0) none mX10_lacksTable (0, 0) 15 [.null] [.int s0] h (QZ z) := 
  go_ok (X := none) (blk := wX10_lacksTable_15) (np := 16) (tt := 0) (kN := fun _ _ _ => none) (kT := fun _ _ _ => none) (kR := kRZ)
    (fun _ _ _ q => nos q)
    (fun _ _ _ q => nos q)
    kRZ_ok (Or.inr rfl) (by decide +kernel) (by decide +kernel) hf
def wX10_lacksTable_14 : List En := [(.iconst 0, 0, 0, 0)]
def fX10_lacksTable_14 (h : aH) : Option (Int32 × aH) :=
  fX10_lacksTable_15 (kI 0) h
theorem tX10_lacksTable_14 {d : Nat} {z : Int32 × aH} (h : aH) (hf : fX10_lacksTable_14 h = some z) : Ev (d + 0) none mX10_lacksTable (0, 0) 14 [.null] [] h (QZ z) := 
  go_ok (X := none) (blk := wX10_lacksTable_14) (np := 15) (tt := 0) (kN := fun xs h st => app [0] (apS [1] (fun s0 => fX10_lacksTable_15 s0 h) st) xs) (kT := fun _ _ _ => none) (kR := kRZ)
    (fun xs h st q => jm [0] _ (fun q => apS_ok [1] _ (fun st => Ev (d + 0) none mX10_lacksTable (0, 0) 15 [.null] st h (QZ z)) st (fun s0 q => tX10_lacksTable_15 s0 h q) q) q)
    (fun _ _ _ q => nos q)
    kRZ_ok (Or.inr rfl) (by decide +kernel) (by decide +kernel) hf
def wX10_lacksTable_10 : List En := [(.iconst 1, 0, 0, 0), (.goto 4, 15, 0, 0)]
def fX10_lacksTable_10 (h : aH) : Option (Int32 × aH) :=
  fX10_lacksTable_15 (kI 1) h
theorem tX10_lacksTable_10 {d : Nat} {z : Int32 × aH} (h : aH) (hf : fX10_lacksTable_10 h = some z) : Ev (d + 0) none mX10_lacksTable (0, 0) 10 [.null] [] h (QZ z) := 
  go_ok (X := none) (blk := wX10_lacksTable_10) (np := 14) (tt := 15) (kN := fun _ _ _ => none) (kT := fun xs h st => app [0] (apS [1] (fun s0 => fX10_lacksTable_15 s0 h) st) xs) (kR := kRZ)
    (fun _ _ _ q => nos q)
    (fun xs h st q => jm [0] _ (fun q => apS_ok [1] _ (fun st => Ev (d + 0) none mX10_lacksTable (0, 0) 15 [.null] st h (QZ z)) st (fun s0 q => tX10_lacksTable_15 s0 h q) q) q)
    kRZ_ok (Or.inr rfl) (by decide +kernel) (by decide +kernel) hf
def wX10_lacksTable_0 : List En := [(.aload_n 0, 0, 0, 0), (.getfield 75, 171, 10, 9), (.getfield 116, 110, 9, 3), (.ifCond .ne 7, 14, 0, 0)]
def fX10_lacksTable_0 (v0 : Nat) (h : aH) : Option (Int32 × aH) :=
  (gFR h 10 v0 9).bind fun t1 =>
  (gFI h 9 t1 3).bind fun t2 =>
  if t2 = 0 then fX10_lacksTable_10 h else fX10_lacksTable_14 h
theorem tX10_lacksTable_0 {d : Nat} {z : Int32 × aH} (v0 : Nat) (h : aH) (hf : fX10_lacksTable_0 v0 h = some z) : Ev (d + 0) none mX10_lacksTable (0, 0) 0 [.ref v0] [] h (QZ z) := 
  go_ok (X := none) (blk := wX10_lacksTable_0) (np := 10) (tt := 14) (kN := fun xs h st => app [0] (apS [] (fX10_lacksTable_10 h) st) xs) (kT := fun xs h st => app [0] (apS [] (fX10_lacksTable_14 h) st) xs) (kR := kRZ)
    (fun xs h st q => jm [0] _ (fun q => apS_ok [] _ (fun st => Ev (d + 0) none mX10_lacksTable (0, 0) 10 [.null] st h (QZ z)) st (fun q => tX10_lacksTable_10 h q) q) q)
    (fun xs h st q => jm [0] _ (fun q => apS_ok [] _ (fun st => Ev (d + 0) none mX10_lacksTable (0, 0) 14 [.null] st h (QZ z)) st (fun q => tX10_lacksTable_14 h q) q) q)
    kRZ_ok (Or.inr rfl) (by decide +kernel) (by decide +kernel) hf
def gX10_lacksTable (v0 : Nat) (h : aH) : Option (Int32 × aH) := fX10_lacksTable_0 v0 h
theorem zX10_lacksTable {d : Nat} {z : Int32 × aH} {v0 : Nat} {h : aH} (q : gX10_lacksTable v0 h = some z) : CT (d + 0) mX10_lacksTable (0, 0) [.ref v0] h (QZ z) :=
  ct_ev (by decide +kernel) (Nat.le_of_ble_eq_true rfl) QZ_r (jm [2] (fun v0 => fX10_lacksTable_0 v0 h) (fun v0 q => tX10_lacksTable_0 v0 h q) q)
def wX10_left_24 : List En := [(.ireturn, 0, 0, 0)]
def fX10_left_24 (s0 : Int32) (h : aH) : Option (Int32 × aH) :=
  some (s0, h)
theorem tX10_left_24 {d : Nat} {z : Int32 × aH} (s0 : Int32) (h : aH) (hf : fX10_left_24 s0 h = some z) : Ev (d + 1) none mX10_left (0, 0) 24 [.null] [.int s0] h (QI z) := 
  go_ok (X := none) (blk := wX10_left_24) (np := 25) (tt := 0) (kN := fun _ _ _ => none) (kT := fun _ _ _ => none) (kR := kRI)
    (fun _ _ _ q => nos q)
    (fun _ _ _ q => nos q)
    kRI_ok (Or.inr rfl) (by decide +kernel) (by decide +kernel) hf
theorem kqX10_left_21 : okC mX10_left 21 (.invokevirtual 119) 60 44 0 1 = true := by decide +kernel
def fX10_left_21 (s0 : Int32) (s1 : Nat) (h : aH) : Option (Int32 × aH) :=
  (isO h 10 s1).bind fun _ =>
  (gX10_answer s1 s0 h).bind fun r =>
  fX10_left_24 r.1 r.2
theorem tX10_left_21 {d : Nat} {z : Int32 × aH} (s0 : Int32) (s1 : Nat) (h : aH) (hf : fX10_left_21 s0 s1 h = some z) : Ev (d + 1) none mX10_left (0, 0) 21 [.null] [.int s0, .ref s1] h (QI z) := by
  obtain ⟨_, h1, hf⟩ := bnd hf
  obtain ⟨fs, ho⟩ := isO_ok h1
  obtain ⟨r, h2, hf⟩ := bnd hf
  refine ev_V kqX10_left_21 jX10_answer (zX10_answer (d := d + 0) h2) ho rfl rfl (Nat.le_of_ble_eq_true rfl) rfl (as := [.int s0]) (rest := []) rfl (Nat.le_of_ble_eq_true rfl) (fun _ _ hq => ?_)
  obtain ⟨rfl, rfl⟩ := hq
  exact jm [0] (fX10_left_24 r.1 r.2) (fun q => tX10_left_24 r.1 r.2 q) hf
def wX10_left_13 : List En := [(.aload_n 0, 0, 0, 0), (.aload_n 0, 0, 0, 0), (.getfield 68, 170, 10, 8), (.getfield 163, 33, 7, 5)]
def fX10_left_13 (v0 : Nat) (h : aH) : Option (Int32 × aH) :=
  (gFR h 10 v0 8).bind fun t1 =>
  (gFI h 7 t1 5).bind fun t2 =>
  fX10_left_21 t2 v0 h
theorem tX10_left_13 {d : Nat} {z : Int32 × aH} (v0 : Nat) (h : aH) (hf : fX10_left_13 v0 h = some z) : Ev (d + 1) none mX10_left (0, 0) 13 [.ref v0] [] h (QI z) := 
  go_ok (X := none) (blk := wX10_left_13) (np := 21) (tt := 0) (kN := fun xs h st => app [0] (apS [1, 2] (fun s0 s1 => fX10_left_21 s0 s1 h) st) xs) (kT := fun _ _ _ => none) (kR := kRI)
    (fun xs h st q => jm [0] _ (fun q => apS_ok [1, 2] _ (fun st => Ev (d + 1) none mX10_left (0, 0) 21 [.null] st h (QI z)) st (fun s0 s1 q => tX10_left_21 s0 s1 h q) q) q)
    (fun _ _ _ q => nos q)
    kRI_ok (Or.inr rfl) (by decide +kernel) (by decide +kernel) hf
def wX10_left_12 : List En := [(.ireturn, 0, 0, 0)]
def fX10_left_12 (s0 : Int32) (h : aH) : Option (Int32 × aH) :=
  some (s0, h)
theorem tX10_left_12 {d : Nat} {z : Int32 × aH} (s0 : Int32) (h : aH) (hf : fX10_left_12 s0 h = some z) : Ev (d + 1) none mX10_left (0, 0) 12 [.null] [.int s0] h (QI z) := 
  go_ok (X := none) (blk := wX10_left_12) (np := 13) (tt := 0) (kN := fun _ _ _ => none) (kT := fun _ _ _ => none) (kR := kRI)
    (fun _ _ _ q => nos q)
    (fun _ _ _ q => nos q)
    kRI_ok (Or.inr rfl) (by decide +kernel) (by decide +kernel) hf
theorem kqX10_left_9 : okC mX10_left 9 (.invokevirtual 94) 15 8 0 1 = true := by decide +kernel
def fX10_left_9 (s0 : Int32) (s1 : Nat) (h : aH) : Option (Int32 × aH) :=
  (isO h 10 s1).bind fun _ =>
  (gX10_refuse s1 s0 h).bind fun r =>
  fX10_left_12 r.1 r.2
theorem tX10_left_9 {d : Nat} {z : Int32 × aH} (s0 : Int32) (s1 : Nat) (h : aH) (hf : fX10_left_9 s0 s1 h = some z) : Ev (d + 1) none mX10_left (0, 0) 9 [.null] [.int s0, .ref s1] h (QI z) := by
  obtain ⟨_, h1, hf⟩ := bnd hf
  obtain ⟨fs, ho⟩ := isO_ok h1
  obtain ⟨r, h2, hf⟩ := bnd hf
  refine ev_V kqX10_left_9 jX10_refuse (zX10_refuse (d := d + 0) h2) ho rfl rfl (Nat.le_of_ble_eq_true rfl) rfl (as := [.int s0]) (rest := []) rfl (Nat.le_of_ble_eq_true rfl) (fun _ _ hq => ?_)
  obtain ⟨rfl, rfl⟩ := hq
  exact jm [0] (fX10_left_12 r.1 r.2) (fun q => tX10_left_12 r.1 r.2 q) hf
def wX10_left_7 : List En := [(.aload_n 0, 0, 0, 0), (.iconst 1, 0, 0, 0)]
def fX10_left_7 (v0 : Nat) (h : aH) : Option (Int32 × aH) :=
  fX10_left_9 (kI 1) v0 h
theorem tX10_left_7 {d : Nat} {z : Int32 × aH} (v0 : Nat) (h : aH) (hf : fX10_left_7 v0 h = some z) : Ev (d + 1) none mX10_left (0, 0) 7 [.ref v0] [] h (QI z) := 
  go_ok (X := none) (blk := wX10_left_7) (np := 9) (tt := 0) (kN := fun xs h st => app [0] (apS [1, 2] (fun s0 s1 => fX10_left_9 s0 s1 h) st) xs) (kT := fun _ _ _ => none) (kR := kRI)
    (fun xs h st q => jm [0] _ (fun q => apS_ok [1, 2] _ (fun st => Ev (d + 1) none mX10_left (0, 0) 9 [.null] st h (QI z)) st (fun s0 s1 q => tX10_left_9 s0 s1 h q) q) q)
    (fun _ _ _ q => nos q)
    kRI_ok (Or.inr rfl) (by decide +kernel) (by decide +kernel) hf
def wX10_left_4 : List En := [(.ifCond .eq 9, 13, 0, 0)]
def fX10_left_4 (v0 : Nat) (s0 : Int32) (h : aH) : Option (Int32 × aH) :=
  if s0 = 0 then fX10_left_13 v0 h else fX10_left_7 v0 h
theorem tX10_left_4 {d : Nat} {z : Int32 × aH} (v0 : Nat) (s0 : Int32) (h : aH) (hf : fX10_left_4 v0 s0 h = some z) : Ev (d + 1) none mX10_left (0, 0) 4 [.ref v0] [.int s0] h (QI z) := 
  go_ok (X := none) (blk := wX10_left_4) (np := 7) (tt := 13) (kN := fun xs h st => app [2] (fun v0 => apS [] (fX10_left_7 v0 h) st) xs) (kT := fun xs h st => app [2] (fun v0 => apS [] (fX10_left_13 v0 h) st) xs) (kR := kRI)
    (fun xs h st q => jm [2] _ (fun v0 q => apS_ok [] _ (fun st => Ev (d + 1) none mX10_left (0, 0) 7 [.ref v0] st h (QI z)) st (fun q => tX10_left_7 v0 h q) q) q)
    (fun xs h st q => jm [2] _ (fun v0 q => apS_ok [] _ (fun st => Ev (d + 1) none mX10_left (0, 0) 13 [.ref v0] st h (QI z)) st (fun q => tX10_left_13 v0 h q) q) q)
    kRI_ok (Or.inr rfl) (by decide +kernel) (by decide +kernel) hf
theorem kqX10_left_1 : okC mX10_left 1 (.invokevirtual 159) 68 52 0 0 = true := by decide +kernel
def fX10_left_1 (v0 : Nat) (s0 : Nat) (h : aH) : Option (Int32 × aH) :=
  (isO h 10 s0).bind fun _ =>
  (gX10_lacksTable s0 h).bind fun r =>
  fX10_left_4 v0 r.1 r.2
theorem tX10_left_1 {d : Nat} {z : Int32 × aH} (v0 : Nat) (s0 : Nat) (h : aH) (hf : fX10_left_1 v0 s0 h = some z) : Ev (d + 1) none mX10_left (0, 0) 1 [.ref v0] [.ref s0] h (QI z) := by
  obtain ⟨_, h1, hf⟩ := bnd hf
  obtain ⟨fs, ho⟩ := isO_ok h1
  obtain ⟨r, h2, hf⟩ := bnd hf
  refine ev_V kqX10_left_1 jX10_lacksTable (zX10_lacksTable (d := d + 0) h2) ho rfl rfl (Nat.le_of_ble_eq_true rfl) rfl (as := []) (rest := []) rfl (Nat.le_of_ble_eq_true rfl) (fun _ _ hq => ?_)
  obtain ⟨-, rfl, rfl⟩ := hq
  exact jm [2] (fun v0 => fX10_left_4 v0 r.1 r.2) (fun v0 q => tX10_left_4 v0 r.1 r.2 q) hf
def wX10_left_0 : List En := [(.aload_n 0, 0, 0, 0)]
def fX10_left_0 (v0 : Nat) (h : aH) : Option (Int32 × aH) :=
  fX10_left_1 v0 v0 h
theorem tX10_left_0 {d : Nat} {z : Int32 × aH} (v0 : Nat) (h : aH) (hf : fX10_left_0 v0 h = some z) : Ev (d + 1) none mX10_left (0, 0) 0 [.ref v0] [] h (QI z) := 
  go_ok (X := none) (blk := wX10_left_0) (np := 1) (tt := 0) (kN := fun xs h st => app [2] (fun v0 => apS [2] (fun s0 => fX10_left_1 v0 s0 h) st) xs) (kT := fun _ _ _ => none) (kR := kRI)
    (fun xs h st q => jm [2] _ (fun v0 q => apS_ok [2] _ (fun st => Ev (d + 1) none mX10_left (0, 0) 1 [.ref v0] st h (QI z)) st (fun s0 q => tX10_left_1 v0 s0 h q) q) q)
    (fun _ _ _ q => nos q)
    kRI_ok (Or.inr rfl) (by decide +kernel) (by decide +kernel) hf
def gX10_left (v0 : Nat) (h : aH) : Option (Int32 × aH) := fX10_left_0 v0 h
theorem zX10_left {d : Nat} {z : Int32 × aH} {v0 : Nat} {h : aH} (q : gX10_left v0 h = some z) : CT (d + 1) mX10_left (0, 0) [.ref v0] h (QI z) :=
  ct_ev (by decide +kernel) (Nat.le_of_ble_eq_true rfl) QI_r (jm [2] (fun v0 => fX10_left_0 v0 h) (fun v0 q => tX10_left_0 v0 h q) q)
def wX7_isDead_17 : List En := [(.ireturn, 0, 0, 0)]
def fX7_isDead_17 (s0 : Int32) (h : aH) : Option (Int32 × aH) :=
  if s0 = 0 ∨ s0 = 1 then some (s0, h) else none
theorem tX7_isDead_17 {d : Nat} {z : Int32 × aH} (s0 : Int32) (h : aH) (hf : fX7_isDead_17 s0 h = some z) : Ev (d + 0) none mX7_isDead (0, 0) 17 [.null, .null] [.int s0] h (QZ z) := 
  go_ok (X := none) (blk := wX7_isDead_17) (np := 18) (tt := 0) (kN := fun _ _ _ => none) (kT := fun _ _ _ => none) (kR := kRZ)
    (fun _ _ _ q => nos q)
    (fun _ _ _ q => nos q)
    kRZ_ok (Or.inr rfl) (by decide +kernel) (by decide +kernel) hf
def wX7_isDead_16 : List En := [(.iconst 0, 0, 0, 0)]
def fX7_isDead_16 (h : aH) : Option (Int32 × aH) :=
  fX7_isDead_17 (kI 0) h
theorem tX7_isDead_16 {d : Nat} {z : Int32 × aH} (h : aH) (hf : fX7_isDead_16 h = some z) : Ev (d + 0) none mX7_isDead (0, 0) 16 [.null, .null] [] h (QZ z) := 
  go_ok (X := none) (blk := wX7_isDead_16) (np := 17) (tt := 0) (kN := fun xs h st => app [0, 0] (apS [1] (fun s0 => fX7_isDead_17 s0 h) st) xs) (kT := fun _ _ _ => none) (kR := kRZ)
    (fun xs h st q => jm [0, 0] _ (fun q => apS_ok [1] _ (fun st => Ev (d + 0) none mX7_isDead (0, 0) 17 [.null, .null] st h (QZ z)) st (fun s0 q => tX7_isDead_17 s0 h q) q) q)
    (fun _ _ _ q => nos q)
    kRZ_ok (Or.inr rfl) (by decide +kernel) (by decide +kernel) hf
def wX7_isDead_12 : List En := [(.iconst 1, 0, 0, 0), (.goto 4, 17, 0, 0)]
def fX7_isDead_12 (h : aH) : Option (Int32 × aH) :=
  fX7_isDead_17 (kI 1) h
theorem tX7_isDead_12 {d : Nat} {z : Int32 × aH} (h : aH) (hf : fX7_isDead_12 h = some z) : Ev (d + 0) none mX7_isDead (0, 0) 12 [.null, .null] [] h (QZ z) := 
  go_ok (X := none) (blk := wX7_isDead_12) (np := 16) (tt := 17) (kN := fun _ _ _ => none) (kT := fun xs h st => app [0, 0] (apS [1] (fun s0 => fX7_isDead_17 s0 h) st) xs) (kR := kRZ)
    (fun _ _ _ q => nos q)
    (fun xs h st q => jm [0, 0] _ (fun q => apS_ok [1] _ (fun st => Ev (d + 0) none mX7_isDead (0, 0) 17 [.null, .null] st h (QZ z)) st (fun s0 q => tX7_isDead_17 s0 h q) q) q)
    kRZ_ok (Or.inr rfl) (by decide +kernel) (by decide +kernel) hf
def wX7_isDead_0 : List En := [(.aload_n 0, 0, 0, 0), (.getfield 47, 26, 7, 3), (.iload_n 1, 0, 0, 0), (.ishr, 0, 0, 0), (.iconst 1, 0, 0, 0), (.iand, 0, 0, 0), (.iconst 1, 0, 0, 0), (.if_icmp .ne 7, 16, 0, 0)]
def fX7_isDead_0 (v0 : Nat) (v1 : Int32) (h : aH) : Option (Int32 × aH) :=
  (gFI h 7 v0 3).bind fun t1 =>
  if ((t1 >>> (v1 &&& 31)) &&& (kI 1)) = (kI 1) then fX7_isDead_12 h else fX7_isDead_16 h
theorem tX7_isDead_0 {d : Nat} {z : Int32 × aH} (v0 : Nat) (v1 : Int32) (h : aH) (hf : fX7_isDead_0 v0 v1 h = some z) : Ev (d + 0) none mX7_isDead (0, 0) 0 [.ref v0, .int v1] [] h (QZ z) := 
  go_ok (X := none) (blk := wX7_isDead_0) (np := 12) (tt := 16) (kN := fun xs h st => app [0, 0] (apS [] (fX7_isDead_12 h) st) xs) (kT := fun xs h st => app [0, 0] (apS [] (fX7_isDead_16 h) st) xs) (kR := kRZ)
    (fun xs h st q => jm [0, 0] _ (fun q => apS_ok [] _ (fun st => Ev (d + 0) none mX7_isDead (0, 0) 12 [.null, .null] st h (QZ z)) st (fun q => tX7_isDead_12 h q) q) q)
    (fun xs h st q => jm [0, 0] _ (fun q => apS_ok [] _ (fun st => Ev (d + 0) none mX7_isDead (0, 0) 16 [.null, .null] st h (QZ z)) st (fun q => tX7_isDead_16 h q) q) q)
    kRZ_ok (Or.inr rfl) (by decide +kernel) (by decide +kernel) hf
def gX7_isDead (v0 : Nat) (v1 : Int32) (h : aH) : Option (Int32 × aH) := fX7_isDead_0 v0 v1 h
theorem zX7_isDead {d : Nat} {z : Int32 × aH} {v0 : Nat} {v1 : Int32} {h : aH} (q : gX7_isDead v0 v1 h = some z) : CT (d + 0) mX7_isDead (0, 0) [.ref v0, .int v1] h (QZ z) :=
  ct_ev (by decide +kernel) (Nat.le_of_ble_eq_true rfl) QZ_r (jm [2, 1] (fun v0 v1 => fX7_isDead_0 v0 v1 h) (fun v0 v1 q => tX7_isDead_0 v0 v1 h q) q)
def wX7_seenHunger_63 : List En := [(.iload_n 3, 0, 0, 0), (.ireturn, 0, 0, 0)]
def fX7_seenHunger_63 (v3 : Int32) (h : aH) : Option (Int32 × aH) :=
  some (v3, h)
theorem tX7_seenHunger_63 {d : Nat} {z : Int32 × aH} (v3 : Int32) (h : aH) (hf : fX7_seenHunger_63 v3 h = some z) : Ev (d + 0) none mX7_seenHunger (0, 0) 63 [.null, .null, .null, .int v3] [] h (QI z) := 
  go_ok (X := none) (blk := wX7_seenHunger_63) (np := 65) (tt := 0) (kN := fun _ _ _ => none) (kT := fun _ _ _ => none) (kR := kRI)
    (fun _ _ _ q => nos q)
    (fun _ _ _ q => nos q)
    kRI_ok (Or.inr rfl) (by decide +kernel) (by decide +kernel) hf
def wX7_seenHunger_48 : List En := [(.iload_n 3, 0, 0, 0), (.iconst 3, 0, 0, 0), (.aload_n 0, 0, 0, 0), (.getfield 15, 21, 7, 1), (.iload_n 2, 0, 0, 0), (.iaload, 0, 0, 0), (.imul, 0, 0, 0), (.iadd, 0, 0, 0), (.ireturn, 0, 0, 0)]
def fX7_seenHunger_48 (v0 : Nat) (v2 : Int32) (v3 : Int32) (h : aH) : Option (Int32 × aH) :=
  (gFR h 7 v0 1).bind fun t1 =>
  (aRI (h[t1]?) v2).bind fun t2 =>
  some ((v3 + ((kI 3) * t2)), h)
theorem tX7_seenHunger_48 {d : Nat} {z : Int32 × aH} (v0 : Nat) (v2 : Int32) (v3 : Int32) (h : aH) (hf : fX7_seenHunger_48 v0 v2 v3 h = some z) : Ev (d + 0) none mX7_seenHunger (0, 0) 48 [.ref v0, .null, .int v2, .int v3] [] h (QI z) := 
  go_ok (X := none) (blk := wX7_seenHunger_48) (np := 59) (tt := 0) (kN := fun _ _ _ => none) (kT := fun _ _ _ => none) (kR := kRI)
    (fun _ _ _ q => nos q)
    (fun _ _ _ q => nos q)
    kRI_ok (Or.inr rfl) (by decide +kernel) (by decide +kernel) hf
def wX7_seenHunger_59 : List En := [(.iconst 2, 0, 0, 0), (.iload_n 3, 0, 0, 0), (.imul, 0, 0, 0), (.ireturn, 0, 0, 0)]
def fX7_seenHunger_59 (v3 : Int32) (h : aH) : Option (Int32 × aH) :=
  some (((kI 2) * v3), h)
theorem tX7_seenHunger_59 {d : Nat} {z : Int32 × aH} (v3 : Int32) (h : aH) (hf : fX7_seenHunger_59 v3 h = some z) : Ev (d + 0) none mX7_seenHunger (0, 0) 59 [.null, .null, .null, .int v3] [] h (QI z) := 
  go_ok (X := none) (blk := wX7_seenHunger_59) (np := 63) (tt := 0) (kN := fun _ _ _ => none) (kT := fun _ _ _ => none) (kR := kRI)
    (fun _ _ _ q => nos q)
    (fun _ _ _ q => nos q)
    kRI_ok (Or.inr rfl) (by decide +kernel) (by decide +kernel) hf
theorem kdX7_seenHunger_20 : decode mX7_seenHunger.2.2.1 20 = .ok (.lookupswitch 43 #[(1, 28), (2, 39)], 28) := by decide +kernel
def fX7_seenHunger_20 (v0 : Nat) (v2 : Int32) (v3 : Int32) (s0 : Int32) (h : aH) : Option (Int32 × aH) :=
  if s0 = kI 1 then fX7_seenHunger_48 v0 v2 v3 h else
  if s0 = kI 2 then fX7_seenHunger_59 v3 h else
  fX7_seenHunger_63 v3 h
theorem tX7_seenHunger_20 {d : Nat} {z : Int32 × aH} (v0 : Nat) (v2 : Int32) (v3 : Int32) (s0 : Int32) (h : aH) (hf : fX7_seenHunger_20 v0 v2 v3 s0 h = some z) : Ev (d + 0) none mX7_seenHunger (0, 0) 20 [.ref v0, .null, .int v2, .int v3] [.int s0] h (QI z) := by
  unfold fX7_seenHunger_20 at hf
  by_cases c1 : s0 = kI 1
  · rw [if_pos c1] at hf
    subst c1
    exact ev_ls kdX7_seenHunger_20 rfl rfl rfl (jm [2, 0, 1, 1] (fun v0 v2 v3 => fX7_seenHunger_48 v0 v2 v3 h) (fun v0 v2 v3 q => tX7_seenHunger_48 v0 v2 v3 h q) hf)
  rw [if_neg c1] at hf
  by_cases c2 : s0 = kI 2
  · rw [if_pos c2] at hf
    subst c2
    exact ev_ls kdX7_seenHunger_20 rfl rfl rfl (jm [0, 0, 0, 1] (fun v3 => fX7_seenHunger_59 v3 h) (fun v3 q => tX7_seenHunger_59 v3 h q) hf)
  rw [if_neg c2] at hf
  exact ev_ls kdX7_seenHunger_20 rfl (ls_out2 s0 c1 c2) rfl (jm [0, 0, 0, 1] (fun v3 => fX7_seenHunger_63 v3 h) (fun v3 q => tX7_seenHunger_63 v3 h q) hf)
def wX7_seenHunger_0 : List En := [(.aload_n 0, 0, 0, 0), (.getfield 9, 18, 7, 0), (.iload_n 2, 0, 0, 0), (.iaload, 0, 0, 0), (.aload_n 1, 0, 0, 0), (.getfield 77, 134, 9, 9), (.iload_n 2, 0, 0, 0), (.iaload, 0, 0, 0), (.iadd, 0, 0, 0), (.istore_n 3, 0, 0, 0), (.aload_n 1, 0, 0, 0), (.getfield 83, 139, 9, 10), (.iload_n 2, 0, 0, 0), (.iaload, 0, 0, 0)]
def fX7_seenHunger_0 (v0 : Nat) (v1 : Nat) (v2 : Int32) (h : aH) : Option (Int32 × aH) :=
  (gFR h 7 v0 0).bind fun t1 =>
  (aRI (h[t1]?) v2).bind fun t2 =>
  (gFR h 9 v1 9).bind fun t3 =>
  (aRI (h[t3]?) v2).bind fun t4 =>
  (gFR h 9 v1 10).bind fun t5 =>
  (aRI (h[t5]?) v2).bind fun t6 =>
  fX7_seenHunger_20 v0 v2 (t2 + t4) t6 h
theorem tX7_seenHunger_0 {d : Nat} {z : Int32 × aH} (v0 : Nat) (v1 : Nat) (v2 : Int32) (h : aH) (hf : fX7_seenHunger_0 v0 v1 v2 h = some z) : Ev (d + 0) none mX7_seenHunger (0, 0) 0 [.ref v0, .ref v1, .int v2, .null] [] h (QI z) := 
  go_ok (X := none) (blk := wX7_seenHunger_0) (np := 20) (tt := 0) (kN := fun xs h st => app [2, 0, 1, 1] (fun v0 v2 v3 => apS [1] (fun s0 => fX7_seenHunger_20 v0 v2 v3 s0 h) st) xs) (kT := fun _ _ _ => none) (kR := kRI)
    (fun xs h st q => jm [2, 0, 1, 1] _ (fun v0 v2 v3 q => apS_ok [1] _ (fun st => Ev (d + 0) none mX7_seenHunger (0, 0) 20 [.ref v0, .null, .int v2, .int v3] st h (QI z)) st (fun s0 q => tX7_seenHunger_20 v0 v2 v3 s0 h q) q) q)
    (fun _ _ _ q => nos q)
    kRI_ok (Or.inr rfl) (by decide +kernel) (by decide +kernel) hf
def gX7_seenHunger (v0 : Nat) (v1 : Nat) (v2 : Int32) (h : aH) : Option (Int32 × aH) := fX7_seenHunger_0 v0 v1 v2 h
theorem zX7_seenHunger {d : Nat} {z : Int32 × aH} {v0 : Nat} {v1 : Nat} {v2 : Int32} {h : aH} (q : gX7_seenHunger v0 v1 v2 h = some z) : CT (d + 0) mX7_seenHunger (0, 0) [.ref v0, .ref v1, .int v2] h (QI z) :=
  ct_ev (by decide +kernel) (Nat.le_of_ble_eq_true rfl) QI_r (jm [2, 2, 1, 0] (fun v0 v1 v2 => fX7_seenHunger_0 v0 v1 v2 h) (fun v0 v1 v2 q => tX7_seenHunger_0 v0 v1 v2 h q) q)
def wX10_seen_46 : List En := [(.ireturn, 0, 0, 0)]
def fX10_seen_46 (s0 : Int32) (h : aH) : Option (Int32 × aH) :=
  some (s0, h)
theorem tX10_seen_46 {d : Nat} {z : Int32 × aH} (s0 : Int32) (h : aH) (hf : fX10_seen_46 s0 h = some z) : Ev (d + 1) none mX10_seen (0, 0) 46 [.null, .null] [.int s0] h (QI z) := 
  go_ok (X := none) (blk := wX10_seen_46) (np := 47) (tt := 0) (kN := fun _ _ _ => none) (kT := fun _ _ _ => none) (kR := kRI)
    (fun _ _ _ q => nos q)
    (fun _ _ _ q => nos q)
    kRI_ok (Or.inr rfl) (by decide +kernel) (by decide +kernel) hf
theorem kqX10_seen_43 : okC mX10_seen 43 (.invokevirtual 119) 60 44 0 1 = true := by decide +kernel
def fX10_seen_43 (s0 : Int32) (s1 : Nat) (h : aH) : Option (Int32 × aH) :=
  (isO h 10 s1).bind fun _ =>
  (gX10_answer s1 s0 h).bind fun r =>
  fX10_seen_46 r.1 r.2
theorem tX10_seen_43 {d : Nat} {z : Int32 × aH} (s0 : Int32) (s1 : Nat) (h : aH) (hf : fX10_seen_43 s0 s1 h = some z) : Ev (d + 1) none mX10_seen (0, 0) 43 [.null, .null] [.int s0, .ref s1] h (QI z) := by
  obtain ⟨_, h1, hf⟩ := bnd hf
  obtain ⟨fs, ho⟩ := isO_ok h1
  obtain ⟨r, h2, hf⟩ := bnd hf
  refine ev_V kqX10_seen_43 jX10_answer (zX10_answer (d := d + 0) h2) ho rfl rfl (Nat.le_of_ble_eq_true rfl) rfl (as := [.int s0]) (rest := []) rfl (Nat.le_of_ble_eq_true rfl) (fun _ _ hq => ?_)
  obtain ⟨rfl, rfl⟩ := hq
  exact jm [0, 0] (fX10_seen_46 r.1 r.2) (fun q => tX10_seen_46 r.1 r.2 q) hf
theorem kqX10_seen_40 : okC mX10_seen 40 (.invokevirtual 169) 71 55 0 2 = true := by decide +kernel
def fX10_seen_40 (s0 : Int32) (s1 : Nat) (s2 : Nat) (s3 : Nat) (h : aH) : Option (Int32 × aH) :=
  (isO h 7 s2).bind fun _ =>
  (gX7_seenHunger s2 s1 s0 h).bind fun r =>
  fX10_seen_43 r.1 s3 r.2
theorem tX10_seen_40 {d : Nat} {z : Int32 × aH} (s0 : Int32) (s1 : Nat) (s2 : Nat) (s3 : Nat) (h : aH) (hf : fX10_seen_40 s0 s1 s2 s3 h = some z) : Ev (d + 1) none mX10_seen (0, 0) 40 [.null, .null] [.int s0, .ref s1, .ref s2, .ref s3] h (QI z) := by
  obtain ⟨_, h1, hf⟩ := bnd hf
  obtain ⟨fs, ho⟩ := isO_ok h1
  obtain ⟨r, h2, hf⟩ := bnd hf
  refine ev_V kqX10_seen_40 jX7_seenHunger (zX7_seenHunger (d := d + 0) h2) ho rfl rfl (Nat.le_of_ble_eq_true rfl) rfl (as := [.ref s1, .int s0]) (rest := [.ref s3]) rfl (Nat.le_of_ble_eq_true rfl) (fun _ _ hq => ?_)
  obtain ⟨rfl, rfl⟩ := hq
  exact jm [0, 0] (fX10_seen_43 r.1 s3 r.2) (fun q => tX10_seen_43 r.1 s3 r.2 q) hf
def wX10_seen_31 : List En := [(.aload_n 0, 0, 0, 0), (.getfield 68, 170, 10, 8), (.aload_n 0, 0, 0, 0), (.getfield 75, 171, 10, 9), (.iload_n 1, 0, 0, 0)]
def fX10_seen_31 (v0 : Nat) (v1 : Int32) (s0 : Nat) (h : aH) : Option (Int32 × aH) :=
  (gFR h 10 v0 8).bind fun t1 =>
  (gFR h 10 v0 9).bind fun t2 =>
  fX10_seen_40 v1 t2 t1 s0 h
theorem tX10_seen_31 {d : Nat} {z : Int32 × aH} (v0 : Nat) (v1 : Int32) (s0 : Nat) (h : aH) (hf : fX10_seen_31 v0 v1 s0 h = some z) : Ev (d + 1) none mX10_seen (0, 0) 31 [.ref v0, .int v1] [.ref s0] h (QI z) := 
  go_ok (X := none) (blk := wX10_seen_31) (np := 40) (tt := 0) (kN := fun xs h st => app [0, 0] (apS [1, 2, 2, 2] (fun s0 s1 s2 s3 => fX10_seen_40 s0 s1 s2 s3 h) st) xs) (kT := fun _ _ _ => none) (kR := kRI)
    (fun xs h st q => jm [0, 0] _ (fun q => apS_ok [1, 2, 2, 2] _ (fun st => Ev (d + 1) none mX10_seen (0, 0) 40 [.null, .null] st h (QI z)) st (fun s0 s1 s2 s3 q => tX10_seen_40 s0 s1 s2 s3 h q) q) q)
    (fun _ _ _ q => nos q)
    kRI_ok (Or.inr rfl) (by decide +kernel) (by decide +kernel) hf
def wX10_seen_26 : List En := [(.bipush (-2), 0, 0, 0), (.goto 15, 43, 0, 0)]
def fX10_seen_26 (s0 : Nat) (h : aH) : Option (Int32 × aH) :=
  fX10_seen_43 (kB (-2)) s0 h
theorem tX10_seen_26 {d : Nat} {z : Int32 × aH} (s0 : Nat) (h : aH) (hf : fX10_seen_26 s0 h = some z) : Ev (d + 1) none mX10_seen (0, 0) 26 [.null, .null] [.ref s0] h (QI z) := 
  go_ok (X := none) (blk := wX10_seen_26) (np := 31) (tt := 43) (kN := fun _ _ _ => none) (kT := fun xs h st => app [0, 0] (apS [1, 2] (fun s0 s1 => fX10_seen_43 s0 s1 h) st) xs) (kR := kRI)
    (fun _ _ _ q => nos q)
    (fun xs h st q => jm [0, 0] _ (fun q => apS_ok [1, 2] _ (fun st => Ev (d + 1) none mX10_seen (0, 0) 43 [.null, .null] st h (QI z)) st (fun s0 s1 q => tX10_seen_43 s0 s1 h q) q) q)
    kRI_ok (Or.inr rfl) (by decide +kernel) (by decide +kernel) hf
def wX10_seen_23 : List En := [(.ifCond .eq 8, 31, 0, 0)]
def fX10_seen_23 (v0 : Nat) (v1 : Int32) (s0 : Int32) (s1 : Nat) (h : aH) : Option (Int32 × aH) :=
  if s0 = 0 then fX10_seen_31 v0 v1 s1 h else fX10_seen_26 s1 h
theorem tX10_seen_23 {d : Nat} {z : Int32 × aH} (v0 : Nat) (v1 : Int32) (s0 : Int32) (s1 : Nat) (h : aH) (hf : fX10_seen_23 v0 v1 s0 s1 h = some z) : Ev (d + 1) none mX10_seen (0, 0) 23 [.ref v0, .int v1] [.int s0, .ref s1] h (QI z) := 
  go_ok (X := none) (blk := wX10_seen_23) (np := 26) (tt := 31) (kN := fun xs h st => app [0, 0] (apS [2] (fun s0 => fX10_seen_26 s0 h) st) xs) (kT := fun xs h st => app [2, 1] (fun v0 v1 => apS [2] (fun s0 => fX10_seen_31 v0 v1 s0 h) st) xs) (kR := kRI)
    (fun xs h st q => jm [0, 0] _ (fun q => apS_ok [2] _ (fun st => Ev (d + 1) none mX10_seen (0, 0) 26 [.null, .null] st h (QI z)) st (fun s0 q => tX10_seen_26 s0 h q) q) q)
    (fun xs h st q => jm [2, 1] _ (fun v0 v1 q => apS_ok [2] _ (fun st => Ev (d + 1) none mX10_seen (0, 0) 31 [.ref v0, .int v1] st h (QI z)) st (fun s0 q => tX10_seen_31 v0 v1 s0 h q) q) q)
    kRI_ok (Or.inr rfl) (by decide +kernel) (by decide +kernel) hf
theorem kqX10_seen_20 : okC mX10_seen 20 (.invokevirtual 166) 70 54 0 1 = true := by decide +kernel
def fX10_seen_20 (v0 : Nat) (v1 : Int32) (s0 : Int32) (s1 : Nat) (s2 : Nat) (h : aH) : Option (Int32 × aH) :=
  (isO h 7 s1).bind fun _ =>
  (gX7_isDead s1 s0 h).bind fun r =>
  fX10_seen_23 v0 v1 r.1 s2 r.2
theorem tX10_seen_20 {d : Nat} {z : Int32 × aH} (v0 : Nat) (v1 : Int32) (s0 : Int32) (s1 : Nat) (s2 : Nat) (h : aH) (hf : fX10_seen_20 v0 v1 s0 s1 s2 h = some z) : Ev (d + 1) none mX10_seen (0, 0) 20 [.ref v0, .int v1] [.int s0, .ref s1, .ref s2] h (QI z) := by
  obtain ⟨_, h1, hf⟩ := bnd hf
  obtain ⟨fs, ho⟩ := isO_ok h1
  obtain ⟨r, h2, hf⟩ := bnd hf
  refine ev_V kqX10_seen_20 jX7_isDead (zX7_isDead (d := d + 0) h2) ho rfl rfl (Nat.le_of_ble_eq_true rfl) rfl (as := [.int s0]) (rest := [.ref s2]) rfl (Nat.le_of_ble_eq_true rfl) (fun _ _ hq => ?_)
  obtain ⟨-, rfl, rfl⟩ := hq
  exact jm [2, 1] (fun v0 v1 => fX10_seen_23 v0 v1 r.1 s2 r.2) (fun v0 v1 q => tX10_seen_23 v0 v1 r.1 s2 r.2 q) hf
def wX10_seen_14 : List En := [(.aload_n 0, 0, 0, 0), (.aload_n 0, 0, 0, 0), (.getfield 68, 170, 10, 8), (.iload_n 1, 0, 0, 0)]
def fX10_seen_14 (v0 : Nat) (v1 : Int32) (h : aH) : Option (Int32 × aH) :=
  (gFR h 10 v0 8).bind fun t1 =>
  fX10_seen_20 v0 v1 v1 t1 v0 h
theorem tX10_seen_14 {d : Nat} {z : Int32 × aH} (v0 : Nat) (v1 : Int32) (h : aH) (hf : fX10_seen_14 v0 v1 h = some z) : Ev (d + 1) none mX10_seen (0, 0) 14 [.ref v0, .int v1] [] h (QI z) := 
  go_ok (X := none) (blk := wX10_seen_14) (np := 20) (tt := 0) (kN := fun xs h st => app [2, 1] (fun v0 v1 => apS [1, 2, 2] (fun s0 s1 s2 => fX10_seen_20 v0 v1 s0 s1 s2 h) st) xs) (kT := fun _ _ _ => none) (kR := kRI)
    (fun xs h st q => jm [2, 1] _ (fun v0 v1 q => apS_ok [1, 2, 2] _ (fun st => Ev (d + 1) none mX10_seen (0, 0) 20 [.ref v0, .int v1] st h (QI z)) st (fun s0 s1 s2 q => tX10_seen_20 v0 v1 s0 s1 s2 h q) q) q)
    (fun _ _ _ q => nos q)
    kRI_ok (Or.inr rfl) (by decide +kernel) (by decide +kernel) hf
def wX10_seen_13 : List En := [(.ireturn, 0, 0, 0)]
def fX10_seen_13 (s0 : Int32) (h : aH) : Option (Int32 × aH) :=
  some (s0, h)
theorem tX10_seen_13 {d : Nat} {z : Int32 × aH} (s0 : Int32) (h : aH) (hf : fX10_seen_13 s0 h = some z) : Ev (d + 1) none mX10_seen (0, 0) 13 [.null, .null] [.int s0] h (QI z) := 
  go_ok (X := none) (blk := wX10_seen_13) (np := 14) (tt := 0) (kN := fun _ _ _ => none) (kT := fun _ _ _ => none) (kR := kRI)
    (fun _ _ _ q => nos q)
    (fun _ _ _ q => nos q)
    kRI_ok (Or.inr rfl) (by decide +kernel) (by decide +kernel) hf
theorem kqX10_seen_10 : okC mX10_seen 10 (.invokevirtual 94) 15 8 0 1 = true := by decide +kernel
def fX10_seen_10 (s0 : Int32) (s1 : Nat) (h : aH) : Option (Int32 × aH) :=
  (isO h 10 s1).bind fun _ =>
  (gX10_refuse s1 s0 h).bind fun r =>
  fX10_seen_13 r.1 r.2
theorem tX10_seen_10 {d : Nat} {z : Int32 × aH} (s0 : Int32) (s1 : Nat) (h : aH) (hf : fX10_seen_10 s0 s1 h = some z) : Ev (d + 1) none mX10_seen (0, 0) 10 [.null, .null] [.int s0, .ref s1] h (QI z) := by
  obtain ⟨_, h1, hf⟩ := bnd hf
  obtain ⟨fs, ho⟩ := isO_ok h1
  obtain ⟨r, h2, hf⟩ := bnd hf
  refine ev_V kqX10_seen_10 jX10_refuse (zX10_refuse (d := d + 0) h2) ho rfl rfl (Nat.le_of_ble_eq_true rfl) rfl (as := [.int s0]) (rest := []) rfl (Nat.le_of_ble_eq_true rfl) (fun _ _ hq => ?_)
  obtain ⟨rfl, rfl⟩ := hq
  exact jm [0, 0] (fX10_seen_13 r.1 r.2) (fun q => tX10_seen_13 r.1 r.2 q) hf
def wX10_seen_8 : List En := [(.aload_n 0, 0, 0, 0), (.iconst 1, 0, 0, 0)]
def fX10_seen_8 (v0 : Nat) (h : aH) : Option (Int32 × aH) :=
  fX10_seen_10 (kI 1) v0 h
theorem tX10_seen_8 {d : Nat} {z : Int32 × aH} (v0 : Nat) (h : aH) (hf : fX10_seen_8 v0 h = some z) : Ev (d + 1) none mX10_seen (0, 0) 8 [.ref v0, .null] [] h (QI z) := 
  go_ok (X := none) (blk := wX10_seen_8) (np := 10) (tt := 0) (kN := fun xs h st => app [0, 0] (apS [1, 2] (fun s0 s1 => fX10_seen_10 s0 s1 h) st) xs) (kT := fun _ _ _ => none) (kR := kRI)
    (fun xs h st q => jm [0, 0] _ (fun q => apS_ok [1, 2] _ (fun st => Ev (d + 1) none mX10_seen (0, 0) 10 [.null, .null] st h (QI z)) st (fun s0 s1 q => tX10_seen_10 s0 s1 h q) q) q)
    (fun _ _ _ q => nos q)
    kRI_ok (Or.inr rfl) (by decide +kernel) (by decide +kernel) hf
def wX10_seen_5 : List En := [(.ifCond .eq 9, 14, 0, 0)]
def fX10_seen_5 (v0 : Nat) (v1 : Int32) (s0 : Int32) (h : aH) : Option (Int32 × aH) :=
  if s0 = 0 then fX10_seen_14 v0 v1 h else fX10_seen_8 v0 h
theorem tX10_seen_5 {d : Nat} {z : Int32 × aH} (v0 : Nat) (v1 : Int32) (s0 : Int32) (h : aH) (hf : fX10_seen_5 v0 v1 s0 h = some z) : Ev (d + 1) none mX10_seen (0, 0) 5 [.ref v0, .int v1] [.int s0] h (QI z) := 
  go_ok (X := none) (blk := wX10_seen_5) (np := 8) (tt := 14) (kN := fun xs h st => app [2, 0] (fun v0 => apS [] (fX10_seen_8 v0 h) st) xs) (kT := fun xs h st => app [2, 1] (fun v0 v1 => apS [] (fX10_seen_14 v0 v1 h) st) xs) (kR := kRI)
    (fun xs h st q => jm [2, 0] _ (fun v0 q => apS_ok [] _ (fun st => Ev (d + 1) none mX10_seen (0, 0) 8 [.ref v0, .null] st h (QI z)) st (fun q => tX10_seen_8 v0 h q) q) q)
    (fun xs h st q => jm [2, 1] _ (fun v0 v1 q => apS_ok [] _ (fun st => Ev (d + 1) none mX10_seen (0, 0) 14 [.ref v0, .int v1] st h (QI z)) st (fun q => tX10_seen_14 v0 v1 h q) q) q)
    kRI_ok (Or.inr rfl) (by decide +kernel) (by decide +kernel) hf
theorem kqX10_seen_2 : okC mX10_seen 2 (.invokevirtual 128) 64 48 0 1 = true := by decide +kernel
def fX10_seen_2 (v0 : Nat) (v1 : Int32) (s0 : Int32) (s1 : Nat) (h : aH) : Option (Int32 × aH) :=
  (isO h 10 s1).bind fun _ =>
  (gX10_lacksPerson s1 s0 h).bind fun r =>
  fX10_seen_5 v0 v1 r.1 r.2
theorem tX10_seen_2 {d : Nat} {z : Int32 × aH} (v0 : Nat) (v1 : Int32) (s0 : Int32) (s1 : Nat) (h : aH) (hf : fX10_seen_2 v0 v1 s0 s1 h = some z) : Ev (d + 1) none mX10_seen (0, 0) 2 [.ref v0, .int v1] [.int s0, .ref s1] h (QI z) := by
  obtain ⟨_, h1, hf⟩ := bnd hf
  obtain ⟨fs, ho⟩ := isO_ok h1
  obtain ⟨r, h2, hf⟩ := bnd hf
  refine ev_V kqX10_seen_2 jX10_lacksPerson (zX10_lacksPerson (d := d + 0) h2) ho rfl rfl (Nat.le_of_ble_eq_true rfl) rfl (as := [.int s0]) (rest := []) rfl (Nat.le_of_ble_eq_true rfl) (fun _ _ hq => ?_)
  obtain ⟨-, rfl, rfl⟩ := hq
  exact jm [2, 1] (fun v0 v1 => fX10_seen_5 v0 v1 r.1 r.2) (fun v0 v1 q => tX10_seen_5 v0 v1 r.1 r.2 q) hf
def wX10_seen_0 : List En := [(.aload_n 0, 0, 0, 0), (.iload_n 1, 0, 0, 0)]
def fX10_seen_0 (v0 : Nat) (v1 : Int32) (h : aH) : Option (Int32 × aH) :=
  fX10_seen_2 v0 v1 v1 v0 h
theorem tX10_seen_0 {d : Nat} {z : Int32 × aH} (v0 : Nat) (v1 : Int32) (h : aH) (hf : fX10_seen_0 v0 v1 h = some z) : Ev (d + 1) none mX10_seen (0, 0) 0 [.ref v0, .int v1] [] h (QI z) := 
  go_ok (X := none) (blk := wX10_seen_0) (np := 2) (tt := 0) (kN := fun xs h st => app [2, 1] (fun v0 v1 => apS [1, 2] (fun s0 s1 => fX10_seen_2 v0 v1 s0 s1 h) st) xs) (kT := fun _ _ _ => none) (kR := kRI)
    (fun xs h st q => jm [2, 1] _ (fun v0 v1 q => apS_ok [1, 2] _ (fun st => Ev (d + 1) none mX10_seen (0, 0) 2 [.ref v0, .int v1] st h (QI z)) st (fun s0 s1 q => tX10_seen_2 v0 v1 s0 s1 h q) q) q)
    (fun _ _ _ q => nos q)
    kRI_ok (Or.inr rfl) (by decide +kernel) (by decide +kernel) hf
def gX10_seen (v0 : Nat) (v1 : Int32) (h : aH) : Option (Int32 × aH) := fX10_seen_0 v0 v1 h
theorem zX10_seen {d : Nat} {z : Int32 × aH} {v0 : Nat} {v1 : Int32} {h : aH} (q : gX10_seen v0 v1 h = some z) : CT (d + 1) mX10_seen (0, 0) [.ref v0, .int v1] h (QI z) :=
  ct_ev (by decide +kernel) (Nat.le_of_ble_eq_true rfl) QI_r (jm [2, 1] (fun v0 v1 => fX10_seen_0 v0 v1 h) (fun v0 v1 q => tX10_seen_0 v0 v1 h q) q)
def wX9_nameSeen_50 : List En := [(.iload_n 2, 0, 0, 0), (.ireturn, 0, 0, 0)]
def fX9_nameSeen_50 (v2 : Int32) (h : aH) : Option (Int32 × aH) :=
  some (v2, h)
theorem tX9_nameSeen_50 {d : Nat} {z : Int32 × aH} (v2 : Int32) (h : aH) (hf : fX9_nameSeen_50 v2 h = some z) : Ev (d + 0) none mX9_nameSeen (0, 0) 50 [.null, .null, .int v2, .null] [] h (QI z) := 
  go_ok (X := none) (blk := wX9_nameSeen_50) (np := 52) (tt := 0) (kN := fun _ _ _ => none) (kT := fun _ _ _ => none) (kR := kRI)
    (fun _ _ _ q => nos q)
    (fun _ _ _ q => nos q)
    kRI_ok (Or.inr rfl) (by decide +kernel) (by decide +kernel) hf
def wX9_nameSeen_44 : List En := [(.iinc 3 1, 0, 0, 0), (.goto (-42), 5, 0, 0)]
def fX9_nameSeen_44 (k5 : Nat → Int32 → Int32 → Int32 → aH → Option (Int32 × aH)) (v0 : Nat) (v1 : Int32) (v2 : Int32) (v3 : Int32) (h : aH) : Option (Int32 × aH) :=
  k5 v0 v1 v2 (v3 + kI 1) h
theorem tX9_nameSeen_44 {d : Nat} {z : Int32 × aH} {k5 : Nat → Int32 → Int32 → Int32 → aH → Option (Int32 × aH)} (hk5 : ∀ (v0 : Nat) (v1 : Int32) (v2 : Int32) (v3 : Int32) (h : aH), k5 v0 v1 v2 v3 h = some z → Ev (d + 0) none mX9_nameSeen (0, 0) 5 [.ref v0, .int v1, .int v2, .int v3] [] h (QI z)) (v0 : Nat) (v1 : Int32) (v2 : Int32) (v3 : Int32) (h : aH) (hf : fX9_nameSeen_44 k5 v0 v1 v2 v3 h = some z) : Ev (d + 0) none mX9_nameSeen (0, 0) 44 [.ref v0, .int v1, .int v2, .int v3] [] h (QI z) := 
  go_ok (X := none) (blk := wX9_nameSeen_44) (np := 50) (tt := 5) (kN := fun _ _ _ => none) (kT := fun xs h st => app [2, 1, 1, 1] (fun v0 v1 v2 v3 => apS [] (k5 v0 v1 v2 v3 h) st) xs) (kR := kRI)
    (fun _ _ _ q => nos q)
    (fun xs h st q => jm [2, 1, 1, 1] _ (fun v0 v1 v2 v3 q => apS_ok [] _ (fun st => Ev (d + 0) none mX9_nameSeen (0, 0) 5 [.ref v0, .int v1, .int v2, .int v3] st h (QI z)) st (fun q => hk5 v0 v1 v2 v3 h q) q) q)
    kRI_ok (Or.inr rfl) (by decide +kernel) (by decide +kernel) hf
def wX9_nameSeen_42 : List En := [(.iload_n 3, 0, 0, 0), (.istore_n 2, 0, 0, 0)]
def fX9_nameSeen_42 (k5 : Nat → Int32 → Int32 → Int32 → aH → Option (Int32 × aH)) (v0 : Nat) (v1 : Int32) (v3 : Int32) (h : aH) : Option (Int32 × aH) :=
  fX9_nameSeen_44 k5 v0 v1 v3 v3 h
theorem tX9_nameSeen_42 {d : Nat} {z : Int32 × aH} {k5 : Nat → Int32 → Int32 → Int32 → aH → Option (Int32 × aH)} (hk5 : ∀ (v0 : Nat) (v1 : Int32) (v2 : Int32) (v3 : Int32) (h : aH), k5 v0 v1 v2 v3 h = some z → Ev (d + 0) none mX9_nameSeen (0, 0) 5 [.ref v0, .int v1, .int v2, .int v3] [] h (QI z)) (v0 : Nat) (v1 : Int32) (v3 : Int32) (h : aH) (hf : fX9_nameSeen_42 k5 v0 v1 v3 h = some z) : Ev (d + 0) none mX9_nameSeen (0, 0) 42 [.ref v0, .int v1, .null, .int v3] [] h (QI z) := 
  go_ok (X := none) (blk := wX9_nameSeen_42) (np := 44) (tt := 0) (kN := fun xs h st => app [2, 1, 1, 1] (fun v0 v1 v2 v3 => apS [] (fX9_nameSeen_44 k5 v0 v1 v2 v3 h) st) xs) (kT := fun _ _ _ => none) (kR := kRI)
    (fun xs h st q => jm [2, 1, 1, 1] _ (fun v0 v1 v2 v3 q => apS_ok [] _ (fun st => Ev (d + 0) none mX9_nameSeen (0, 0) 44 [.ref v0, .int v1, .int v2, .int v3] st h (QI z)) st (fun q => tX9_nameSeen_44 hk5 v0 v1 v2 v3 h q) q) q)
    (fun _ _ _ q => nos q)
    kRI_ok (Or.inr rfl) (by decide +kernel) (by decide +kernel) hf
def wX9_nameSeen_27 : List En := [(.aload_n 0, 0, 0, 0), (.getfield 21, 140, 9, 11), (.iload_n 3, 0, 0, 0), (.iaload, 0, 0, 0), (.aload_n 0, 0, 0, 0), (.getfield 21, 140, 9, 11), (.iload_n 2, 0, 0, 0), (.iaload, 0, 0, 0), (.if_icmp .le 5, 44, 0, 0)]
def fX9_nameSeen_27 (k5 : Nat → Int32 → Int32 → Int32 → aH → Option (Int32 × aH)) (v0 : Nat) (v1 : Int32) (v2 : Int32) (v3 : Int32) (h : aH) : Option (Int32 × aH) :=
  (gFR h 9 v0 11).bind fun t1 =>
  (aRI (h[t1]?) v3).bind fun t2 =>
  (gFR h 9 v0 11).bind fun t3 =>
  (aRI (h[t3]?) v2).bind fun t4 =>
  if t4 < t2 then fX9_nameSeen_42 k5 v0 v1 v3 h else fX9_nameSeen_44 k5 v0 v1 v2 v3 h
theorem tX9_nameSeen_27 {d : Nat} {z : Int32 × aH} {k5 : Nat → Int32 → Int32 → Int32 → aH → Option (Int32 × aH)} (hk5 : ∀ (v0 : Nat) (v1 : Int32) (v2 : Int32) (v3 : Int32) (h : aH), k5 v0 v1 v2 v3 h = some z → Ev (d + 0) none mX9_nameSeen (0, 0) 5 [.ref v0, .int v1, .int v2, .int v3] [] h (QI z)) (v0 : Nat) (v1 : Int32) (v2 : Int32) (v3 : Int32) (h : aH) (hf : fX9_nameSeen_27 k5 v0 v1 v2 v3 h = some z) : Ev (d + 0) none mX9_nameSeen (0, 0) 27 [.ref v0, .int v1, .int v2, .int v3] [] h (QI z) := 
  go_ok (X := none) (blk := wX9_nameSeen_27) (np := 42) (tt := 44) (kN := fun xs h st => app [2, 1, 0, 1] (fun v0 v1 v3 => apS [] (fX9_nameSeen_42 k5 v0 v1 v3 h) st) xs) (kT := fun xs h st => app [2, 1, 1, 1] (fun v0 v1 v2 v3 => apS [] (fX9_nameSeen_44 k5 v0 v1 v2 v3 h) st) xs) (kR := kRI)
    (fun xs h st q => jm [2, 1, 0, 1] _ (fun v0 v1 v3 q => apS_ok [] _ (fun st => Ev (d + 0) none mX9_nameSeen (0, 0) 42 [.ref v0, .int v1, .null, .int v3] st h (QI z)) st (fun q => tX9_nameSeen_42 hk5 v0 v1 v3 h q) q) q)
    (fun xs h st q => jm [2, 1, 1, 1] _ (fun v0 v1 v2 v3 q => apS_ok [] _ (fun st => Ev (d + 0) none mX9_nameSeen (0, 0) 44 [.ref v0, .int v1, .int v2, .int v3] st h (QI z)) st (fun q => tX9_nameSeen_44 hk5 v0 v1 v2 v3 h q) q) q)
    kRI_ok (Or.inr rfl) (by decide +kernel) (by decide +kernel) hf
def wX9_nameSeen_23 : List En := [(.iload_n 2, 0, 0, 0), (.ifCond .lt 18, 42, 0, 0)]
def fX9_nameSeen_23 (k5 : Nat → Int32 → Int32 → Int32 → aH → Option (Int32 × aH)) (v0 : Nat) (v1 : Int32) (v2 : Int32) (v3 : Int32) (h : aH) : Option (Int32 × aH) :=
  if v2 < 0 then fX9_nameSeen_42 k5 v0 v1 v3 h else fX9_nameSeen_27 k5 v0 v1 v2 v3 h
theorem tX9_nameSeen_23 {d : Nat} {z : Int32 × aH} {k5 : Nat → Int32 → Int32 → Int32 → aH → Option (Int32 × aH)} (hk5 : ∀ (v0 : Nat) (v1 : Int32) (v2 : Int32) (v3 : Int32) (h : aH), k5 v0 v1 v2 v3 h = some z → Ev (d + 0) none mX9_nameSeen (0, 0) 5 [.ref v0, .int v1, .int v2, .int v3] [] h (QI z)) (v0 : Nat) (v1 : Int32) (v2 : Int32) (v3 : Int32) (h : aH) (hf : fX9_nameSeen_23 k5 v0 v1 v2 v3 h = some z) : Ev (d + 0) none mX9_nameSeen (0, 0) 23 [.ref v0, .int v1, .int v2, .int v3] [] h (QI z) := 
  go_ok (X := none) (blk := wX9_nameSeen_23) (np := 27) (tt := 42) (kN := fun xs h st => app [2, 1, 1, 1] (fun v0 v1 v2 v3 => apS [] (fX9_nameSeen_27 k5 v0 v1 v2 v3 h) st) xs) (kT := fun xs h st => app [2, 1, 0, 1] (fun v0 v1 v3 => apS [] (fX9_nameSeen_42 k5 v0 v1 v3 h) st) xs) (kR := kRI)
    (fun xs h st q => jm [2, 1, 1, 1] _ (fun v0 v1 v2 v3 q => apS_ok [] _ (fun st => Ev (d + 0) none mX9_nameSeen (0, 0) 27 [.ref v0, .int v1, .int v2, .int v3] st h (QI z)) st (fun q => tX9_nameSeen_27 hk5 v0 v1 v2 v3 h q) q) q)
    (fun xs h st q => jm [2, 1, 0, 1] _ (fun v0 v1 v3 q => apS_ok [] _ (fun st => Ev (d + 0) none mX9_nameSeen (0, 0) 42 [.ref v0, .int v1, .null, .int v3] st h (QI z)) st (fun q => tX9_nameSeen_42 hk5 v0 v1 v3 h q) q) q)
    kRI_ok (Or.inr rfl) (by decide +kernel) (by decide +kernel) hf
def wX9_nameSeen_13 : List En := [(.aload_n 0, 0, 0, 0), (.getfield 21, 140, 9, 11), (.iload_n 3, 0, 0, 0), (.iaload, 0, 0, 0), (.iload_n 1, 0, 0, 0), (.if_icmp .gt 24, 44, 0, 0)]
def fX9_nameSeen_13 (k5 : Nat → Int32 → Int32 → Int32 → aH → Option (Int32 × aH)) (v0 : Nat) (v1 : Int32) (v2 : Int32) (v3 : Int32) (h : aH) : Option (Int32 × aH) :=
  (gFR h 9 v0 11).bind fun t1 =>
  (aRI (h[t1]?) v3).bind fun t2 =>
  if v1 < t2 then fX9_nameSeen_44 k5 v0 v1 v2 v3 h else fX9_nameSeen_23 k5 v0 v1 v2 v3 h
theorem tX9_nameSeen_13 {d : Nat} {z : Int32 × aH} {k5 : Nat → Int32 → Int32 → Int32 → aH → Option (Int32 × aH)} (hk5 : ∀ (v0 : Nat) (v1 : Int32) (v2 : Int32) (v3 : Int32) (h : aH), k5 v0 v1 v2 v3 h = some z → Ev (d + 0) none mX9_nameSeen (0, 0) 5 [.ref v0, .int v1, .int v2, .int v3] [] h (QI z)) (v0 : Nat) (v1 : Int32) (v2 : Int32) (v3 : Int32) (h : aH) (hf : fX9_nameSeen_13 k5 v0 v1 v2 v3 h = some z) : Ev (d + 0) none mX9_nameSeen (0, 0) 13 [.ref v0, .int v1, .int v2, .int v3] [] h (QI z) := 
  go_ok (X := none) (blk := wX9_nameSeen_13) (np := 23) (tt := 44) (kN := fun xs h st => app [2, 1, 1, 1] (fun v0 v1 v2 v3 => apS [] (fX9_nameSeen_23 k5 v0 v1 v2 v3 h) st) xs) (kT := fun xs h st => app [2, 1, 1, 1] (fun v0 v1 v2 v3 => apS [] (fX9_nameSeen_44 k5 v0 v1 v2 v3 h) st) xs) (kR := kRI)
    (fun xs h st q => jm [2, 1, 1, 1] _ (fun v0 v1 v2 v3 q => apS_ok [] _ (fun st => Ev (d + 0) none mX9_nameSeen (0, 0) 23 [.ref v0, .int v1, .int v2, .int v3] st h (QI z)) st (fun q => tX9_nameSeen_23 hk5 v0 v1 v2 v3 h q) q) q)
    (fun xs h st q => jm [2, 1, 1, 1] _ (fun v0 v1 v2 v3 q => apS_ok [] _ (fun st => Ev (d + 0) none mX9_nameSeen (0, 0) 44 [.ref v0, .int v1, .int v2, .int v3] st h (QI z)) st (fun q => tX9_nameSeen_44 hk5 v0 v1 v2 v3 h q) q) q)
    kRI_ok (Or.inr rfl) (by decide +kernel) (by decide +kernel) hf
def wX9_nameSeen_5 : List En := [(.iload_n 3, 0, 0, 0), (.aload_n 0, 0, 0, 0), (.getfield 58, 113, 9, 4), (.if_icmp .ge 40, 50, 0, 0)]
def fX9_nameSeen_5 (k5 : Nat → Int32 → Int32 → Int32 → aH → Option (Int32 × aH)) (v0 : Nat) (v1 : Int32) (v2 : Int32) (v3 : Int32) (h : aH) : Option (Int32 × aH) :=
  (gFI h 9 v0 4).bind fun t1 =>
  if v3 < t1 then fX9_nameSeen_13 k5 v0 v1 v2 v3 h else fX9_nameSeen_50 v2 h
theorem tX9_nameSeen_5 {d : Nat} {z : Int32 × aH} {k5 : Nat → Int32 → Int32 → Int32 → aH → Option (Int32 × aH)} (hk5 : ∀ (v0 : Nat) (v1 : Int32) (v2 : Int32) (v3 : Int32) (h : aH), k5 v0 v1 v2 v3 h = some z → Ev (d + 0) none mX9_nameSeen (0, 0) 5 [.ref v0, .int v1, .int v2, .int v3] [] h (QI z)) (v0 : Nat) (v1 : Int32) (v2 : Int32) (v3 : Int32) (h : aH) (hf : fX9_nameSeen_5 k5 v0 v1 v2 v3 h = some z) : Ev (d + 0) none mX9_nameSeen (0, 0) 5 [.ref v0, .int v1, .int v2, .int v3] [] h (QI z) := 
  go_ok (X := none) (blk := wX9_nameSeen_5) (np := 13) (tt := 50) (kN := fun xs h st => app [2, 1, 1, 1] (fun v0 v1 v2 v3 => apS [] (fX9_nameSeen_13 k5 v0 v1 v2 v3 h) st) xs) (kT := fun xs h st => app [0, 0, 1, 0] (fun v2 => apS [] (fX9_nameSeen_50 v2 h) st) xs) (kR := kRI)
    (fun xs h st q => jm [2, 1, 1, 1] _ (fun v0 v1 v2 v3 q => apS_ok [] _ (fun st => Ev (d + 0) none mX9_nameSeen (0, 0) 13 [.ref v0, .int v1, .int v2, .int v3] st h (QI z)) st (fun q => tX9_nameSeen_13 hk5 v0 v1 v2 v3 h q) q) q)
    (fun xs h st q => jm [0, 0, 1, 0] _ (fun v2 q => apS_ok [] _ (fun st => Ev (d + 0) none mX9_nameSeen (0, 0) 50 [.null, .null, .int v2, .null] st h (QI z)) st (fun q => tX9_nameSeen_50 v2 h q) q) q)
    kRI_ok (Or.inr rfl) (by decide +kernel) (by decide +kernel) hf
def lX9_nameSeen_5 : Nat → Nat → Int32 → Int32 → Int32 → aH → Option (Int32 × aH)
  | 0, _, _, _, _, _ => none
  | n + 1, v0, v1, v2, v3, h => fX9_nameSeen_5 (lX9_nameSeen_5 n) v0 v1 v2 v3 h
theorem uX9_nameSeen_5 {d : Nat} {z : Int32 × aH} : ∀ (n : Nat) (v0 : Nat) (v1 : Int32) (v2 : Int32) (v3 : Int32) (h : aH), lX9_nameSeen_5 n v0 v1 v2 v3 h = some z → Ev (d + 0) none mX9_nameSeen (0, 0) 5 [.ref v0, .int v1, .int v2, .int v3] [] h (QI z) := by
  intro n
  induction n with
  | zero => intro _ _ _ _ _ q; exact nos (show (none : Option (Int32 × aH)) = some z from q)
  | succ n ih => intro v0 v1 v2 v3 h q; exact tX9_nameSeen_5 ih v0 v1 v2 v3 h q
def wX9_nameSeen_0 : List En := [(.bipush (-2), 0, 0, 0), (.istore_n 2, 0, 0, 0), (.iconst 0, 0, 0, 0), (.istore_n 3, 0, 0, 0)]
def fX9_nameSeen_0 (v0 : Nat) (v1 : Int32) (h : aH) : Option (Int32 × aH) :=
  lX9_nameSeen_5 FU v0 v1 (kB (-2)) (kI 0) h
theorem tX9_nameSeen_0 {d : Nat} {z : Int32 × aH} (v0 : Nat) (v1 : Int32) (h : aH) (hf : fX9_nameSeen_0 v0 v1 h = some z) : Ev (d + 0) none mX9_nameSeen (0, 0) 0 [.ref v0, .int v1, .null, .null] [] h (QI z) := 
  go_ok (X := none) (blk := wX9_nameSeen_0) (np := 5) (tt := 0) (kN := fun xs h st => app [2, 1, 1, 1] (fun v0 v1 v2 v3 => apS [] (lX9_nameSeen_5 FU v0 v1 v2 v3 h) st) xs) (kT := fun _ _ _ => none) (kR := kRI)
    (fun xs h st q => jm [2, 1, 1, 1] _ (fun v0 v1 v2 v3 q => apS_ok [] _ (fun st => Ev (d + 0) none mX9_nameSeen (0, 0) 5 [.ref v0, .int v1, .int v2, .int v3] st h (QI z)) st (fun q => uX9_nameSeen_5 FU v0 v1 v2 v3 h q) q) q)
    (fun _ _ _ q => nos q)
    kRI_ok (Or.inr rfl) (by decide +kernel) (by decide +kernel) hf
def gX9_nameSeen (v0 : Nat) (v1 : Int32) (h : aH) : Option (Int32 × aH) := fX9_nameSeen_0 v0 v1 h
theorem zX9_nameSeen {d : Nat} {z : Int32 × aH} {v0 : Nat} {v1 : Int32} {h : aH} (q : gX9_nameSeen v0 v1 h = some z) : CT (d + 0) mX9_nameSeen (0, 0) [.ref v0, .int v1] h (QI z) :=
  ct_ev (by decide +kernel) (Nat.le_of_ble_eq_true rfl) QI_r (jm [2, 1, 0, 0] (fun v0 v1 => fX9_nameSeen_0 v0 v1 h) (fun v0 v1 q => tX9_nameSeen_0 v0 v1 h q) q)
def wX10_calls_53 : List En := [(.ireturn, 0, 0, 0)]
def fX10_calls_53 (s0 : Int32) (h : aH) : Option (Int32 × aH) :=
  some (s0, h)
theorem tX10_calls_53 {d : Nat} {z : Int32 × aH} (s0 : Int32) (h : aH) (hf : fX10_calls_53 s0 h = some z) : Ev (d + 1) none mX10_calls (0, 0) 53 [.null, .null] [.int s0] h (QI z) := 
  go_ok (X := none) (blk := wX10_calls_53) (np := 54) (tt := 0) (kN := fun _ _ _ => none) (kT := fun _ _ _ => none) (kR := kRI)
    (fun _ _ _ q => nos q)
    (fun _ _ _ q => nos q)
    kRI_ok (Or.inr rfl) (by decide +kernel) (by decide +kernel) hf
theorem kqX10_calls_50 : okC mX10_calls 50 (.invokevirtual 119) 60 44 0 1 = true := by decide +kernel
def fX10_calls_50 (s0 : Int32) (s1 : Nat) (h : aH) : Option (Int32 × aH) :=
  (isO h 10 s1).bind fun _ =>
  (gX10_answer s1 s0 h).bind fun r =>
  fX10_calls_53 r.1 r.2
theorem tX10_calls_50 {d : Nat} {z : Int32 × aH} (s0 : Int32) (s1 : Nat) (h : aH) (hf : fX10_calls_50 s0 s1 h = some z) : Ev (d + 1) none mX10_calls (0, 0) 50 [.null, .null] [.int s0, .ref s1] h (QI z) := by
  obtain ⟨_, h1, hf⟩ := bnd hf
  obtain ⟨fs, ho⟩ := isO_ok h1
  obtain ⟨r, h2, hf⟩ := bnd hf
  refine ev_V kqX10_calls_50 jX10_answer (zX10_answer (d := d + 0) h2) ho rfl rfl (Nat.le_of_ble_eq_true rfl) rfl (as := [.int s0]) (rest := []) rfl (Nat.le_of_ble_eq_true rfl) (fun _ _ hq => ?_)
  obtain ⟨rfl, rfl⟩ := hq
  exact jm [0, 0] (fX10_calls_53 r.1 r.2) (fun q => tX10_calls_53 r.1 r.2 q) hf
theorem kqX10_calls_47 : okC mX10_calls 47 (.invokevirtual 173) 73 57 0 1 = true := by decide +kernel
def fX10_calls_47 (s0 : Int32) (s1 : Nat) (s2 : Nat) (h : aH) : Option (Int32 × aH) :=
  (isO h 9 s1).bind fun _ =>
  (gX9_nameSeen s1 s0 h).bind fun r =>
  fX10_calls_50 r.1 s2 r.2
theorem tX10_calls_47 {d : Nat} {z : Int32 × aH} (s0 : Int32) (s1 : Nat) (s2 : Nat) (h : aH) (hf : fX10_calls_47 s0 s1 s2 h = some z) : Ev (d + 1) none mX10_calls (0, 0) 47 [.null, .null] [.int s0, .ref s1, .ref s2] h (QI z) := by
  obtain ⟨_, h1, hf⟩ := bnd hf
  obtain ⟨fs, ho⟩ := isO_ok h1
  obtain ⟨r, h2, hf⟩ := bnd hf
  refine ev_V kqX10_calls_47 jX9_nameSeen (zX9_nameSeen (d := d + 0) h2) ho rfl rfl (Nat.le_of_ble_eq_true rfl) rfl (as := [.int s0]) (rest := [.ref s2]) rfl (Nat.le_of_ble_eq_true rfl) (fun _ _ hq => ?_)
  obtain ⟨rfl, rfl⟩ := hq
  exact jm [0, 0] (fX10_calls_50 r.1 s2 r.2) (fun q => tX10_calls_50 r.1 s2 r.2 q) hf
theorem kqX10_calls_44 : okC mX10_calls 44 (.invokevirtual 169) 71 55 0 2 = true := by decide +kernel
def fX10_calls_44 (s0 : Int32) (s1 : Nat) (s2 : Nat) (s3 : Nat) (s4 : Nat) (h : aH) : Option (Int32 × aH) :=
  (isO h 7 s2).bind fun _ =>
  (gX7_seenHunger s2 s1 s0 h).bind fun r =>
  fX10_calls_47 r.1 s3 s4 r.2
theorem tX10_calls_44 {d : Nat} {z : Int32 × aH} (s0 : Int32) (s1 : Nat) (s2 : Nat) (s3 : Nat) (s4 : Nat) (h : aH) (hf : fX10_calls_44 s0 s1 s2 s3 s4 h = some z) : Ev (d + 1) none mX10_calls (0, 0) 44 [.null, .null] [.int s0, .ref s1, .ref s2, .ref s3, .ref s4] h (QI z) := by
  obtain ⟨_, h1, hf⟩ := bnd hf
  obtain ⟨fs, ho⟩ := isO_ok h1
  obtain ⟨r, h2, hf⟩ := bnd hf
  refine ev_V kqX10_calls_44 jX7_seenHunger (zX7_seenHunger (d := d + 0) h2) ho rfl rfl (Nat.le_of_ble_eq_true rfl) rfl (as := [.ref s1, .int s0]) (rest := [.ref s3, .ref s4]) rfl (Nat.le_of_ble_eq_true rfl) (fun _ _ hq => ?_)
  obtain ⟨rfl, rfl⟩ := hq
  exact jm [0, 0] (fX10_calls_47 r.1 s3 s4 r.2) (fun q => tX10_calls_47 r.1 s3 s4 r.2 q) hf
def wX10_calls_31 : List En := [(.aload_n 0, 0, 0, 0), (.getfield 75, 171, 10, 9), (.aload_n 0, 0, 0, 0), (.getfield 68, 170, 10, 8), (.aload_n 0, 0, 0, 0), (.getfield 75, 171, 10, 9), (.iload_n 1, 0, 0, 0)]
def fX10_calls_31 (v0 : Nat) (v1 : Int32) (s0 : Nat) (h : aH) : Option (Int32 × aH) :=
  (gFR h 10 v0 9).bind fun t1 =>
  (gFR h 10 v0 8).bind fun t2 =>
  (gFR h 10 v0 9).bind fun t3 =>
  fX10_calls_44 v1 t3 t2 t1 s0 h
theorem tX10_calls_31 {d : Nat} {z : Int32 × aH} (v0 : Nat) (v1 : Int32) (s0 : Nat) (h : aH) (hf : fX10_calls_31 v0 v1 s0 h = some z) : Ev (d + 1) none mX10_calls (0, 0) 31 [.ref v0, .int v1] [.ref s0] h (QI z) := 
  go_ok (X := none) (blk := wX10_calls_31) (np := 44) (tt := 0) (kN := fun xs h st => app [0, 0] (apS [1, 2, 2, 2, 2] (fun s0 s1 s2 s3 s4 => fX10_calls_44 s0 s1 s2 s3 s4 h) st) xs) (kT := fun _ _ _ => none) (kR := kRI)
    (fun xs h st q => jm [0, 0] _ (fun q => apS_ok [1, 2, 2, 2, 2] _ (fun st => Ev (d + 1) none mX10_calls (0, 0) 44 [.null, .null] st h (QI z)) st (fun s0 s1 s2 s3 s4 q => tX10_calls_44 s0 s1 s2 s3 s4 h q) q) q)
    (fun _ _ _ q => nos q)
    kRI_ok (Or.inr rfl) (by decide +kernel) (by decide +kernel) hf
def wX10_calls_26 : List En := [(.bipush (-2), 0, 0, 0), (.goto 22, 50, 0, 0)]
def fX10_calls_26 (s0 : Nat) (h : aH) : Option (Int32 × aH) :=
  fX10_calls_50 (kB (-2)) s0 h
theorem tX10_calls_26 {d : Nat} {z : Int32 × aH} (s0 : Nat) (h : aH) (hf : fX10_calls_26 s0 h = some z) : Ev (d + 1) none mX10_calls (0, 0) 26 [.null, .null] [.ref s0] h (QI z) := 
  go_ok (X := none) (blk := wX10_calls_26) (np := 31) (tt := 50) (kN := fun _ _ _ => none) (kT := fun xs h st => app [0, 0] (apS [1, 2] (fun s0 s1 => fX10_calls_50 s0 s1 h) st) xs) (kR := kRI)
    (fun _ _ _ q => nos q)
    (fun xs h st q => jm [0, 0] _ (fun q => apS_ok [1, 2] _ (fun st => Ev (d + 1) none mX10_calls (0, 0) 50 [.null, .null] st h (QI z)) st (fun s0 s1 q => tX10_calls_50 s0 s1 h q) q) q)
    kRI_ok (Or.inr rfl) (by decide +kernel) (by decide +kernel) hf
def wX10_calls_23 : List En := [(.ifCond .eq 8, 31, 0, 0)]
def fX10_calls_23 (v0 : Nat) (v1 : Int32) (s0 : Int32) (s1 : Nat) (h : aH) : Option (Int32 × aH) :=
  if s0 = 0 then fX10_calls_31 v0 v1 s1 h else fX10_calls_26 s1 h
theorem tX10_calls_23 {d : Nat} {z : Int32 × aH} (v0 : Nat) (v1 : Int32) (s0 : Int32) (s1 : Nat) (h : aH) (hf : fX10_calls_23 v0 v1 s0 s1 h = some z) : Ev (d + 1) none mX10_calls (0, 0) 23 [.ref v0, .int v1] [.int s0, .ref s1] h (QI z) := 
  go_ok (X := none) (blk := wX10_calls_23) (np := 26) (tt := 31) (kN := fun xs h st => app [0, 0] (apS [2] (fun s0 => fX10_calls_26 s0 h) st) xs) (kT := fun xs h st => app [2, 1] (fun v0 v1 => apS [2] (fun s0 => fX10_calls_31 v0 v1 s0 h) st) xs) (kR := kRI)
    (fun xs h st q => jm [0, 0] _ (fun q => apS_ok [2] _ (fun st => Ev (d + 1) none mX10_calls (0, 0) 26 [.null, .null] st h (QI z)) st (fun s0 q => tX10_calls_26 s0 h q) q) q)
    (fun xs h st q => jm [2, 1] _ (fun v0 v1 q => apS_ok [2] _ (fun st => Ev (d + 1) none mX10_calls (0, 0) 31 [.ref v0, .int v1] st h (QI z)) st (fun s0 q => tX10_calls_31 v0 v1 s0 h q) q) q)
    kRI_ok (Or.inr rfl) (by decide +kernel) (by decide +kernel) hf
theorem kqX10_calls_20 : okC mX10_calls 20 (.invokevirtual 166) 70 54 0 1 = true := by decide +kernel
def fX10_calls_20 (v0 : Nat) (v1 : Int32) (s0 : Int32) (s1 : Nat) (s2 : Nat) (h : aH) : Option (Int32 × aH) :=
  (isO h 7 s1).bind fun _ =>
  (gX7_isDead s1 s0 h).bind fun r =>
  fX10_calls_23 v0 v1 r.1 s2 r.2
theorem tX10_calls_20 {d : Nat} {z : Int32 × aH} (v0 : Nat) (v1 : Int32) (s0 : Int32) (s1 : Nat) (s2 : Nat) (h : aH) (hf : fX10_calls_20 v0 v1 s0 s1 s2 h = some z) : Ev (d + 1) none mX10_calls (0, 0) 20 [.ref v0, .int v1] [.int s0, .ref s1, .ref s2] h (QI z) := by
  obtain ⟨_, h1, hf⟩ := bnd hf
  obtain ⟨fs, ho⟩ := isO_ok h1
  obtain ⟨r, h2, hf⟩ := bnd hf
  refine ev_V kqX10_calls_20 jX7_isDead (zX7_isDead (d := d + 0) h2) ho rfl rfl (Nat.le_of_ble_eq_true rfl) rfl (as := [.int s0]) (rest := [.ref s2]) rfl (Nat.le_of_ble_eq_true rfl) (fun _ _ hq => ?_)
  obtain ⟨-, rfl, rfl⟩ := hq
  exact jm [2, 1] (fun v0 v1 => fX10_calls_23 v0 v1 r.1 s2 r.2) (fun v0 v1 q => tX10_calls_23 v0 v1 r.1 s2 r.2 q) hf
def wX10_calls_14 : List En := [(.aload_n 0, 0, 0, 0), (.aload_n 0, 0, 0, 0), (.getfield 68, 170, 10, 8), (.iload_n 1, 0, 0, 0)]
def fX10_calls_14 (v0 : Nat) (v1 : Int32) (h : aH) : Option (Int32 × aH) :=
  (gFR h 10 v0 8).bind fun t1 =>
  fX10_calls_20 v0 v1 v1 t1 v0 h
theorem tX10_calls_14 {d : Nat} {z : Int32 × aH} (v0 : Nat) (v1 : Int32) (h : aH) (hf : fX10_calls_14 v0 v1 h = some z) : Ev (d + 1) none mX10_calls (0, 0) 14 [.ref v0, .int v1] [] h (QI z) := 
  go_ok (X := none) (blk := wX10_calls_14) (np := 20) (tt := 0) (kN := fun xs h st => app [2, 1] (fun v0 v1 => apS [1, 2, 2] (fun s0 s1 s2 => fX10_calls_20 v0 v1 s0 s1 s2 h) st) xs) (kT := fun _ _ _ => none) (kR := kRI)
    (fun xs h st q => jm [2, 1] _ (fun v0 v1 q => apS_ok [1, 2, 2] _ (fun st => Ev (d + 1) none mX10_calls (0, 0) 20 [.ref v0, .int v1] st h (QI z)) st (fun s0 s1 s2 q => tX10_calls_20 v0 v1 s0 s1 s2 h q) q) q)
    (fun _ _ _ q => nos q)
    kRI_ok (Or.inr rfl) (by decide +kernel) (by decide +kernel) hf
def wX10_calls_13 : List En := [(.ireturn, 0, 0, 0)]
def fX10_calls_13 (s0 : Int32) (h : aH) : Option (Int32 × aH) :=
  some (s0, h)
theorem tX10_calls_13 {d : Nat} {z : Int32 × aH} (s0 : Int32) (h : aH) (hf : fX10_calls_13 s0 h = some z) : Ev (d + 1) none mX10_calls (0, 0) 13 [.null, .null] [.int s0] h (QI z) := 
  go_ok (X := none) (blk := wX10_calls_13) (np := 14) (tt := 0) (kN := fun _ _ _ => none) (kT := fun _ _ _ => none) (kR := kRI)
    (fun _ _ _ q => nos q)
    (fun _ _ _ q => nos q)
    kRI_ok (Or.inr rfl) (by decide +kernel) (by decide +kernel) hf
theorem kqX10_calls_10 : okC mX10_calls 10 (.invokevirtual 94) 15 8 0 1 = true := by decide +kernel
def fX10_calls_10 (s0 : Int32) (s1 : Nat) (h : aH) : Option (Int32 × aH) :=
  (isO h 10 s1).bind fun _ =>
  (gX10_refuse s1 s0 h).bind fun r =>
  fX10_calls_13 r.1 r.2
theorem tX10_calls_10 {d : Nat} {z : Int32 × aH} (s0 : Int32) (s1 : Nat) (h : aH) (hf : fX10_calls_10 s0 s1 h = some z) : Ev (d + 1) none mX10_calls (0, 0) 10 [.null, .null] [.int s0, .ref s1] h (QI z) := by
  obtain ⟨_, h1, hf⟩ := bnd hf
  obtain ⟨fs, ho⟩ := isO_ok h1
  obtain ⟨r, h2, hf⟩ := bnd hf
  refine ev_V kqX10_calls_10 jX10_refuse (zX10_refuse (d := d + 0) h2) ho rfl rfl (Nat.le_of_ble_eq_true rfl) rfl (as := [.int s0]) (rest := []) rfl (Nat.le_of_ble_eq_true rfl) (fun _ _ hq => ?_)
  obtain ⟨rfl, rfl⟩ := hq
  exact jm [0, 0] (fX10_calls_13 r.1 r.2) (fun q => tX10_calls_13 r.1 r.2 q) hf
def wX10_calls_8 : List En := [(.aload_n 0, 0, 0, 0), (.iconst 1, 0, 0, 0)]
def fX10_calls_8 (v0 : Nat) (h : aH) : Option (Int32 × aH) :=
  fX10_calls_10 (kI 1) v0 h
theorem tX10_calls_8 {d : Nat} {z : Int32 × aH} (v0 : Nat) (h : aH) (hf : fX10_calls_8 v0 h = some z) : Ev (d + 1) none mX10_calls (0, 0) 8 [.ref v0, .null] [] h (QI z) := 
  go_ok (X := none) (blk := wX10_calls_8) (np := 10) (tt := 0) (kN := fun xs h st => app [0, 0] (apS [1, 2] (fun s0 s1 => fX10_calls_10 s0 s1 h) st) xs) (kT := fun _ _ _ => none) (kR := kRI)
    (fun xs h st q => jm [0, 0] _ (fun q => apS_ok [1, 2] _ (fun st => Ev (d + 1) none mX10_calls (0, 0) 10 [.null, .null] st h (QI z)) st (fun s0 s1 q => tX10_calls_10 s0 s1 h q) q) q)
    (fun _ _ _ q => nos q)
    kRI_ok (Or.inr rfl) (by decide +kernel) (by decide +kernel) hf
def wX10_calls_5 : List En := [(.ifCond .eq 9, 14, 0, 0)]
def fX10_calls_5 (v0 : Nat) (v1 : Int32) (s0 : Int32) (h : aH) : Option (Int32 × aH) :=
  if s0 = 0 then fX10_calls_14 v0 v1 h else fX10_calls_8 v0 h
theorem tX10_calls_5 {d : Nat} {z : Int32 × aH} (v0 : Nat) (v1 : Int32) (s0 : Int32) (h : aH) (hf : fX10_calls_5 v0 v1 s0 h = some z) : Ev (d + 1) none mX10_calls (0, 0) 5 [.ref v0, .int v1] [.int s0] h (QI z) := 
  go_ok (X := none) (blk := wX10_calls_5) (np := 8) (tt := 14) (kN := fun xs h st => app [2, 0] (fun v0 => apS [] (fX10_calls_8 v0 h) st) xs) (kT := fun xs h st => app [2, 1] (fun v0 v1 => apS [] (fX10_calls_14 v0 v1 h) st) xs) (kR := kRI)
    (fun xs h st q => jm [2, 0] _ (fun v0 q => apS_ok [] _ (fun st => Ev (d + 1) none mX10_calls (0, 0) 8 [.ref v0, .null] st h (QI z)) st (fun q => tX10_calls_8 v0 h q) q) q)
    (fun xs h st q => jm [2, 1] _ (fun v0 v1 q => apS_ok [] _ (fun st => Ev (d + 1) none mX10_calls (0, 0) 14 [.ref v0, .int v1] st h (QI z)) st (fun q => tX10_calls_14 v0 v1 h q) q) q)
    kRI_ok (Or.inr rfl) (by decide +kernel) (by decide +kernel) hf
theorem kqX10_calls_2 : okC mX10_calls 2 (.invokevirtual 128) 64 48 0 1 = true := by decide +kernel
def fX10_calls_2 (v0 : Nat) (v1 : Int32) (s0 : Int32) (s1 : Nat) (h : aH) : Option (Int32 × aH) :=
  (isO h 10 s1).bind fun _ =>
  (gX10_lacksPerson s1 s0 h).bind fun r =>
  fX10_calls_5 v0 v1 r.1 r.2
theorem tX10_calls_2 {d : Nat} {z : Int32 × aH} (v0 : Nat) (v1 : Int32) (s0 : Int32) (s1 : Nat) (h : aH) (hf : fX10_calls_2 v0 v1 s0 s1 h = some z) : Ev (d + 1) none mX10_calls (0, 0) 2 [.ref v0, .int v1] [.int s0, .ref s1] h (QI z) := by
  obtain ⟨_, h1, hf⟩ := bnd hf
  obtain ⟨fs, ho⟩ := isO_ok h1
  obtain ⟨r, h2, hf⟩ := bnd hf
  refine ev_V kqX10_calls_2 jX10_lacksPerson (zX10_lacksPerson (d := d + 0) h2) ho rfl rfl (Nat.le_of_ble_eq_true rfl) rfl (as := [.int s0]) (rest := []) rfl (Nat.le_of_ble_eq_true rfl) (fun _ _ hq => ?_)
  obtain ⟨-, rfl, rfl⟩ := hq
  exact jm [2, 1] (fun v0 v1 => fX10_calls_5 v0 v1 r.1 r.2) (fun v0 v1 q => tX10_calls_5 v0 v1 r.1 r.2 q) hf
def wX10_calls_0 : List En := [(.aload_n 0, 0, 0, 0), (.iload_n 1, 0, 0, 0)]
def fX10_calls_0 (v0 : Nat) (v1 : Int32) (h : aH) : Option (Int32 × aH) :=
  fX10_calls_2 v0 v1 v1 v0 h
theorem tX10_calls_0 {d : Nat} {z : Int32 × aH} (v0 : Nat) (v1 : Int32) (h : aH) (hf : fX10_calls_0 v0 v1 h = some z) : Ev (d + 1) none mX10_calls (0, 0) 0 [.ref v0, .int v1] [] h (QI z) := 
  go_ok (X := none) (blk := wX10_calls_0) (np := 2) (tt := 0) (kN := fun xs h st => app [2, 1] (fun v0 v1 => apS [1, 2] (fun s0 s1 => fX10_calls_2 v0 v1 s0 s1 h) st) xs) (kT := fun _ _ _ => none) (kR := kRI)
    (fun xs h st q => jm [2, 1] _ (fun v0 v1 q => apS_ok [1, 2] _ (fun st => Ev (d + 1) none mX10_calls (0, 0) 2 [.ref v0, .int v1] st h (QI z)) st (fun s0 s1 q => tX10_calls_2 v0 v1 s0 s1 h q) q) q)
    (fun _ _ _ q => nos q)
    kRI_ok (Or.inr rfl) (by decide +kernel) (by decide +kernel) hf
def gX10_calls (v0 : Nat) (v1 : Int32) (h : aH) : Option (Int32 × aH) := fX10_calls_0 v0 v1 h
theorem zX10_calls {d : Nat} {z : Int32 × aH} {v0 : Nat} {v1 : Int32} {h : aH} (q : gX10_calls v0 v1 h = some z) : CT (d + 1) mX10_calls (0, 0) [.ref v0, .int v1] h (QI z) :=
  ct_ev (by decide +kernel) (Nat.le_of_ble_eq_true rfl) QI_r (jm [2, 1] (fun v0 v1 => fX10_calls_0 v0 v1 h) (fun v0 v1 q => tX10_calls_0 v0 v1 h q) q)
def wX7_whoNames_106 : List En := [(.ireturn, 0, 0, 0)]
def fX7_whoNames_106 (s0 : Int32) (h : aH) : Option (Int32 × aH) :=
  some (s0, h)
theorem tX7_whoNames_106 {d : Nat} {z : Int32 × aH} (s0 : Int32) (h : aH) (hf : fX7_whoNames_106 s0 h = some z) : Ev (d + 1) none mX7_whoNames (0, 0) 106 [.null, .null, .null, .null, .null, .null, .null] [.int s0] h (QI z) := 
  go_ok (X := none) (blk := wX7_whoNames_106) (np := 107) (tt := 0) (kN := fun _ _ _ => none) (kT := fun _ _ _ => none) (kR := kRI)
    (fun _ _ _ q => nos q)
    (fun _ _ _ q => nos q)
    kRI_ok (Or.inr rfl) (by decide +kernel) (by decide +kernel) hf
def wX7_whoNames_105 : List En := [(.iload_n 3, 0, 0, 0)]
def fX7_whoNames_105 (v3 : Int32) (h : aH) : Option (Int32 × aH) :=
  fX7_whoNames_106 v3 h
theorem tX7_whoNames_105 {d : Nat} {z : Int32 × aH} (v3 : Int32) (h : aH) (hf : fX7_whoNames_105 v3 h = some z) : Ev (d + 1) none mX7_whoNames (0, 0) 105 [.null, .null, .null, .int v3, .null, .null, .null] [] h (QI z) := 
  go_ok (X := none) (blk := wX7_whoNames_105) (np := 106) (tt := 0) (kN := fun xs h st => app [0, 0, 0, 0, 0, 0, 0] (apS [1] (fun s0 => fX7_whoNames_106 s0 h) st) xs) (kT := fun _ _ _ => none) (kR := kRI)
    (fun xs h st q => jm [0, 0, 0, 0, 0, 0, 0] _ (fun q => apS_ok [1] _ (fun st => Ev (d + 1) none mX7_whoNames (0, 0) 106 [.null, .null, .null, .null, .null, .null, .null] st h (QI z)) st (fun s0 q => tX7_whoNames_106 s0 h q) q) q)
    (fun _ _ _ q => nos q)
    kRI_ok (Or.inr rfl) (by decide +kernel) (by decide +kernel) hf
def wX7_whoNames_100 : List En := [(.iload 4, 0, 0, 0), (.goto 4, 106, 0, 0)]
def fX7_whoNames_100 (v4 : Int32) (h : aH) : Option (Int32 × aH) :=
  fX7_whoNames_106 v4 h
theorem tX7_whoNames_100 {d : Nat} {z : Int32 × aH} (v4 : Int32) (h : aH) (hf : fX7_whoNames_100 v4 h = some z) : Ev (d + 1) none mX7_whoNames (0, 0) 100 [.null, .null, .null, .null, .int v4, .null, .null] [] h (QI z) := 
  go_ok (X := none) (blk := wX7_whoNames_100) (np := 105) (tt := 106) (kN := fun _ _ _ => none) (kT := fun xs h st => app [0, 0, 0, 0, 0, 0, 0] (apS [1] (fun s0 => fX7_whoNames_106 s0 h) st) xs) (kR := kRI)
    (fun _ _ _ q => nos q)
    (fun xs h st q => jm [0, 0, 0, 0, 0, 0, 0] _ (fun q => apS_ok [1] _ (fun st => Ev (d + 1) none mX7_whoNames (0, 0) 106 [.null, .null, .null, .null, .null, .null, .null] st h (QI z)) st (fun s0 q => tX7_whoNames_106 s0 h q) q) q)
    kRI_ok (Or.inr rfl) (by decide +kernel) (by decide +kernel) hf
def wX7_whoNames_95 : List En := [(.iload 4, 0, 0, 0), (.ifCond .lt 8, 105, 0, 0)]
def fX7_whoNames_95 (v3 : Int32) (v4 : Int32) (h : aH) : Option (Int32 × aH) :=
  if v4 < 0 then fX7_whoNames_105 v3 h else fX7_whoNames_100 v4 h
theorem tX7_whoNames_95 {d : Nat} {z : Int32 × aH} (v3 : Int32) (v4 : Int32) (h : aH) (hf : fX7_whoNames_95 v3 v4 h = some z) : Ev (d + 1) none mX7_whoNames (0, 0) 95 [.null, .null, .null, .int v3, .int v4, .null, .null] [] h (QI z) := 
  go_ok (X := none) (blk := wX7_whoNames_95) (np := 100) (tt := 105) (kN := fun xs h st => app [0, 0, 0, 0, 1, 0, 0] (fun v4 => apS [] (fX7_whoNames_100 v4 h) st) xs) (kT := fun xs h st => app [0, 0, 0, 1, 0, 0, 0] (fun v3 => apS [] (fX7_whoNames_105 v3 h) st) xs) (kR := kRI)
    (fun xs h st q => jm [0, 0, 0, 0, 1, 0, 0] _ (fun v4 q => apS_ok [] _ (fun st => Ev (d + 1) none mX7_whoNames (0, 0) 100 [.null, .null, .null, .null, .int v4, .null, .null] st h (QI z)) st (fun q => tX7_whoNames_100 v4 h q) q) q)
    (fun xs h st q => jm [0, 0, 0, 1, 0, 0, 0] _ (fun v3 q => apS_ok [] _ (fun st => Ev (d + 1) none mX7_whoNames (0, 0) 105 [.null, .null, .null, .int v3, .null, .null, .null] st h (QI z)) st (fun q => tX7_whoNames_105 v3 h q) q) q)
    kRI_ok (Or.inr rfl) (by decide +kernel) (by decide +kernel) hf
def wX7_whoNames_91 : List En := [(.iload_n 2, 0, 0, 0), (.ifCond .eq 13, 105, 0, 0)]
def fX7_whoNames_91 (v2 : Int32) (v3 : Int32) (v4 : Int32) (h : aH) : Option (Int32 × aH) :=
  if v2 = 0 then fX7_whoNames_105 v3 h else fX7_whoNames_95 v3 v4 h
theorem tX7_whoNames_91 {d : Nat} {z : Int32 × aH} (v2 : Int32) (v3 : Int32) (v4 : Int32) (h : aH) (hf : fX7_whoNames_91 v2 v3 v4 h = some z) : Ev (d + 1) none mX7_whoNames (0, 0) 91 [.null, .null, .int v2, .int v3, .int v4, .null, .null] [] h (QI z) := 
  go_ok (X := none) (blk := wX7_whoNames_91) (np := 95) (tt := 105) (kN := fun xs h st => app [0, 0, 0, 1, 1, 0, 0] (fun v3 v4 => apS [] (fX7_whoNames_95 v3 v4 h) st) xs) (kT := fun xs h st => app [0, 0, 0, 1, 0, 0, 0] (fun v3 => apS [] (fX7_whoNames_105 v3 h) st) xs) (kR := kRI)
    (fun xs h st q => jm [0, 0, 0, 1, 1, 0, 0] _ (fun v3 v4 q => apS_ok [] _ (fun st => Ev (d + 1) none mX7_whoNames (0, 0) 95 [.null, .null, .null, .int v3, .int v4, .null, .null] st h (QI z)) st (fun q => tX7_whoNames_95 v3 v4 h q) q) q)
    (fun xs h st q => jm [0, 0, 0, 1, 0, 0, 0] _ (fun v3 q => apS_ok [] _ (fun st => Ev (d + 1) none mX7_whoNames (0, 0) 105 [.null, .null, .null, .int v3, .null, .null, .null] st h (QI z)) st (fun q => tX7_whoNames_105 v3 h q) q) q)
    kRI_ok (Or.inr rfl) (by decide +kernel) (by decide +kernel) hf
def wX7_whoNames_85 : List En := [(.iinc 5 1, 0, 0, 0), (.goto (-78), 10, 0, 0)]
def fX7_whoNames_85 (k10 : Nat → Nat → Int32 → Int32 → Int32 → Int32 → aH → Option (Int32 × aH)) (v0 : Nat) (v1 : Nat) (v2 : Int32) (v3 : Int32) (v4 : Int32) (v5 : Int32) (h : aH) : Option (Int32 × aH) :=
  k10 v0 v1 v2 v3 v4 (v5 + kI 1) h
theorem tX7_whoNames_85 {d : Nat} {z : Int32 × aH} {k10 : Nat → Nat → Int32 → Int32 → Int32 → Int32 → aH → Option (Int32 × aH)} (hk10 : ∀ (v0 : Nat) (v1 : Nat) (v2 : Int32) (v3 : Int32) (v4 : Int32) (v5 : Int32) (h : aH), k10 v0 v1 v2 v3 v4 v5 h = some z → Ev (d + 1) none mX7_whoNames (0, 0) 10 [.ref v0, .ref v1, .int v2, .int v3, .int v4, .int v5, .null] [] h (QI z)) (v0 : Nat) (v1 : Nat) (v2 : Int32) (v3 : Int32) (v4 : Int32) (v5 : Int32) (h : aH) (hf : fX7_whoNames_85 k10 v0 v1 v2 v3 v4 v5 h = some z) : Ev (d + 1) none mX7_whoNames (0, 0) 85 [.ref v0, .ref v1, .int v2, .int v3, .int v4, .int v5, .null] [] h (QI z) := 
  go_ok (X := none) (blk := wX7_whoNames_85) (np := 91) (tt := 10) (kN := fun _ _ _ => none) (kT := fun xs h st => app [2, 2, 1, 1, 1, 1, 0] (fun v0 v1 v2 v3 v4 v5 => apS [] (k10 v0 v1 v2 v3 v4 v5 h) st) xs) (kR := kRI)
    (fun _ _ _ q => nos q)
    (fun xs h st q => jm [2, 2, 1, 1, 1, 1, 0] _ (fun v0 v1 v2 v3 v4 v5 q => apS_ok [] _ (fun st => Ev (d + 1) none mX7_whoNames (0, 0) 10 [.ref v0, .ref v1, .int v2, .int v3, .int v4, .int v5, .null] st h (QI z)) st (fun q => hk10 v0 v1 v2 v3 v4 v5 h q) q) q)
    kRI_ok (Or.inr rfl) (by decide +kernel) (by decide +kernel) hf
def wX7_whoNames_55 : List En := [(.iload_n 3, 0, 0, 0), (.istore 4, 0, 0, 0), (.iload 5, 0, 0, 0), (.istore_n 3, 0, 0, 0), (.goto 24, 85, 0, 0)]
def fX7_whoNames_55 (k10 : Nat → Nat → Int32 → Int32 → Int32 → Int32 → aH → Option (Int32 × aH)) (v0 : Nat) (v1 : Nat) (v2 : Int32) (v3 : Int32) (v5 : Int32) (h : aH) : Option (Int32 × aH) :=
  fX7_whoNames_85 k10 v0 v1 v2 v5 v3 v5 h
theorem tX7_whoNames_55 {d : Nat} {z : Int32 × aH} {k10 : Nat → Nat → Int32 → Int32 → Int32 → Int32 → aH → Option (Int32 × aH)} (hk10 : ∀ (v0 : Nat) (v1 : Nat) (v2 : Int32) (v3 : Int32) (v4 : Int32) (v5 : Int32) (h : aH), k10 v0 v1 v2 v3 v4 v5 h = some z → Ev (d + 1) none mX7_whoNames (0, 0) 10 [.ref v0, .ref v1, .int v2, .int v3, .int v4, .int v5, .null] [] h (QI z)) (v0 : Nat) (v1 : Nat) (v2 : Int32) (v3 : Int32) (v5 : Int32) (h : aH) (hf : fX7_whoNames_55 k10 v0 v1 v2 v3 v5 h = some z) : Ev (d + 1) none mX7_whoNames (0, 0) 55 [.ref v0, .ref v1, .int v2, .int v3, .null, .int v5, .null] [] h (QI z) := 
  go_ok (X := none) (blk := wX7_whoNames_55) (np := 64) (tt := 85) (kN := fun _ _ _ => none) (kT := fun xs h st => app [2, 2, 1, 1, 1, 1, 0] (fun v0 v1 v2 v3 v4 v5 => apS [] (fX7_whoNames_85 k10 v0 v1 v2 v3 v4 v5 h) st) xs) (kR := kRI)
    (fun _ _ _ q => nos q)
    (fun xs h st q => jm [2, 2, 1, 1, 1, 1, 0] _ (fun v0 v1 v2 v3 v4 v5 q => apS_ok [] _ (fun st => Ev (d + 1) none mX7_whoNames (0, 0) 85 [.ref v0, .ref v1, .int v2, .int v3, .int v4, .int v5, .null] st h (QI z)) st (fun q => tX7_whoNames_85 hk10 v0 v1 v2 v3 v4 v5 h q) q) q)
    kRI_ok (Or.inr rfl) (by decide +kernel) (by decide +kernel) hf
def wX7_whoNames_81 : List En := [(.iload 5, 0, 0, 0), (.istore 4, 0, 0, 0)]
def fX7_whoNames_81 (k10 : Nat → Nat → Int32 → Int32 → Int32 → Int32 → aH → Option (Int32 × aH)) (v0 : Nat) (v1 : Nat) (v2 : Int32) (v3 : Int32) (v5 : Int32) (h : aH) : Option (Int32 × aH) :=
  fX7_whoNames_85 k10 v0 v1 v2 v3 v5 v5 h
theorem tX7_whoNames_81 {d : Nat} {z : Int32 × aH} {k10 : Nat → Nat → Int32 → Int32 → Int32 → Int32 → aH → Option (Int32 × aH)} (hk10 : ∀ (v0 : Nat) (v1 : Nat) (v2 : Int32) (v3 : Int32) (v4 : Int32) (v5 : Int32) (h : aH), k10 v0 v1 v2 v3 v4 v5 h = some z → Ev (d + 1) none mX7_whoNames (0, 0) 10 [.ref v0, .ref v1, .int v2, .int v3, .int v4, .int v5, .null] [] h (QI z)) (v0 : Nat) (v1 : Nat) (v2 : Int32) (v3 : Int32) (v5 : Int32) (h : aH) (hf : fX7_whoNames_81 k10 v0 v1 v2 v3 v5 h = some z) : Ev (d + 1) none mX7_whoNames (0, 0) 81 [.ref v0, .ref v1, .int v2, .int v3, .null, .int v5, .null] [] h (QI z) := 
  go_ok (X := none) (blk := wX7_whoNames_81) (np := 85) (tt := 0) (kN := fun xs h st => app [2, 2, 1, 1, 1, 1, 0] (fun v0 v1 v2 v3 v4 v5 => apS [] (fX7_whoNames_85 k10 v0 v1 v2 v3 v4 v5 h) st) xs) (kT := fun _ _ _ => none) (kR := kRI)
    (fun xs h st q => jm [2, 2, 1, 1, 1, 1, 0] _ (fun v0 v1 v2 v3 v4 v5 q => apS_ok [] _ (fun st => Ev (d + 1) none mX7_whoNames (0, 0) 85 [.ref v0, .ref v1, .int v2, .int v3, .int v4, .int v5, .null] st h (QI z)) st (fun q => tX7_whoNames_85 hk10 v0 v1 v2 v3 v4 v5 h q) q) q)
    (fun _ _ _ q => nos q)
    kRI_ok (Or.inr rfl) (by decide +kernel) (by decide +kernel) hf
def wX7_whoNames_78 : List En := [(.if_icmp .le 7, 85, 0, 0)]
def fX7_whoNames_78 (k10 : Nat → Nat → Int32 → Int32 → Int32 → Int32 → aH → Option (Int32 × aH)) (v0 : Nat) (v1 : Nat) (v2 : Int32) (v3 : Int32) (v4 : Int32) (v5 : Int32) (s0 : Int32) (s1 : Int32) (h : aH) : Option (Int32 × aH) :=
  if s0 < s1 then fX7_whoNames_81 k10 v0 v1 v2 v3 v5 h else fX7_whoNames_85 k10 v0 v1 v2 v3 v4 v5 h
theorem tX7_whoNames_78 {d : Nat} {z : Int32 × aH} {k10 : Nat → Nat → Int32 → Int32 → Int32 → Int32 → aH → Option (Int32 × aH)} (hk10 : ∀ (v0 : Nat) (v1 : Nat) (v2 : Int32) (v3 : Int32) (v4 : Int32) (v5 : Int32) (h : aH), k10 v0 v1 v2 v3 v4 v5 h = some z → Ev (d + 1) none mX7_whoNames (0, 0) 10 [.ref v0, .ref v1, .int v2, .int v3, .int v4, .int v5, .null] [] h (QI z)) (v0 : Nat) (v1 : Nat) (v2 : Int32) (v3 : Int32) (v4 : Int32) (v5 : Int32) (s0 : Int32) (s1 : Int32) (h : aH) (hf : fX7_whoNames_78 k10 v0 v1 v2 v3 v4 v5 s0 s1 h = some z) : Ev (d + 1) none mX7_whoNames (0, 0) 78 [.ref v0, .ref v1, .int v2, .int v3, .int v4, .int v5, .null] [.int s0, .int s1] h (QI z) := 
  go_ok (X := none) (blk := wX7_whoNames_78) (np := 81) (tt := 85) (kN := fun xs h st => app [2, 2, 1, 1, 0, 1, 0] (fun v0 v1 v2 v3 v5 => apS [] (fX7_whoNames_81 k10 v0 v1 v2 v3 v5 h) st) xs) (kT := fun xs h st => app [2, 2, 1, 1, 1, 1, 0] (fun v0 v1 v2 v3 v4 v5 => apS [] (fX7_whoNames_85 k10 v0 v1 v2 v3 v4 v5 h) st) xs) (kR := kRI)
    (fun xs h st q => jm [2, 2, 1, 1, 0, 1, 0] _ (fun v0 v1 v2 v3 v5 q => apS_ok [] _ (fun st => Ev (d + 1) none mX7_whoNames (0, 0) 81 [.ref v0, .ref v1, .int v2, .int v3, .null, .int v5, .null] st h (QI z)) st (fun q => tX7_whoNames_81 hk10 v0 v1 v2 v3 v5 h q) q) q)
    (fun xs h st q => jm [2, 2, 1, 1, 1, 1, 0] _ (fun v0 v1 v2 v3 v4 v5 q => apS_ok [] _ (fun st => Ev (d + 1) none mX7_whoNames (0, 0) 85 [.ref v0, .ref v1, .int v2, .int v3, .int v4, .int v5, .null] st h (QI z)) st (fun q => tX7_whoNames_85 hk10 v0 v1 v2 v3 v4 v5 h q) q) q)
    kRI_ok (Or.inr rfl) (by decide +kernel) (by decide +kernel) hf
theorem kqX7_whoNames_75 : okC mX7_whoNames 75 (.invokevirtual 86) 71 61 0 2 = true := by decide +kernel
def fX7_whoNames_75 (k10 : Nat → Nat → Int32 → Int32 → Int32 → Int32 → aH → Option (Int32 × aH)) (v0 : Nat) (v1 : Nat) (v2 : Int32) (v3 : Int32) (v4 : Int32) (v5 : Int32) (s0 : Int32) (s1 : Nat) (s2 : Nat) (s3 : Int32) (h : aH) : Option (Int32 × aH) :=
  (isO h 7 s2).bind fun _ =>
  (gX7_seenHunger s2 s1 s0 h).bind fun r =>
  fX7_whoNames_78 k10 v0 v1 v2 v3 v4 v5 r.1 s3 r.2
theorem tX7_whoNames_75 {d : Nat} {z : Int32 × aH} {k10 : Nat → Nat → Int32 → Int32 → Int32 → Int32 → aH → Option (Int32 × aH)} (hk10 : ∀ (v0 : Nat) (v1 : Nat) (v2 : Int32) (v3 : Int32) (v4 : Int32) (v5 : Int32) (h : aH), k10 v0 v1 v2 v3 v4 v5 h = some z → Ev (d + 1) none mX7_whoNames (0, 0) 10 [.ref v0, .ref v1, .int v2, .int v3, .int v4, .int v5, .null] [] h (QI z)) (v0 : Nat) (v1 : Nat) (v2 : Int32) (v3 : Int32) (v4 : Int32) (v5 : Int32) (s0 : Int32) (s1 : Nat) (s2 : Nat) (s3 : Int32) (h : aH) (hf : fX7_whoNames_75 k10 v0 v1 v2 v3 v4 v5 s0 s1 s2 s3 h = some z) : Ev (d + 1) none mX7_whoNames (0, 0) 75 [.ref v0, .ref v1, .int v2, .int v3, .int v4, .int v5, .null] [.int s0, .ref s1, .ref s2, .int s3] h (QI z) := by
  obtain ⟨_, h1, hf⟩ := bnd hf
  obtain ⟨fs, ho⟩ := isO_ok h1
  obtain ⟨r, h2, hf⟩ := bnd hf
  refine ev_V kqX7_whoNames_75 jX7_seenHunger (zX7_seenHunger (d := d + 0) h2) ho rfl rfl (Nat.le_of_ble_eq_true rfl) rfl (as := [.ref s1, .int s0]) (rest := [.int s3]) rfl (Nat.le_of_ble_eq_true rfl) (fun _ _ hq => ?_)
  obtain ⟨rfl, rfl⟩ := hq
  exact jm [2, 2, 1, 1, 1, 1, 0] (fun v0 v1 v2 v3 v4 v5 => fX7_whoNames_78 k10 v0 v1 v2 v3 v4 v5 r.1 s3 r.2) (fun v0 v1 v2 v3 v4 v5 q => tX7_whoNames_78 hk10 v0 v1 v2 v3 v4 v5 r.1 s3 r.2 q) hf
def wX7_whoNames_69 : List En := [(.iload 6, 0, 0, 0), (.aload_n 0, 0, 0, 0), (.aload_n 1, 0, 0, 0), (.iload 4, 0, 0, 0)]
def fX7_whoNames_69 (k10 : Nat → Nat → Int32 → Int32 → Int32 → Int32 → aH → Option (Int32 × aH)) (v0 : Nat) (v1 : Nat) (v2 : Int32) (v3 : Int32) (v4 : Int32) (v5 : Int32) (v6 : Int32) (h : aH) : Option (Int32 × aH) :=
  fX7_whoNames_75 k10 v0 v1 v2 v3 v4 v5 v4 v1 v0 v6 h
theorem tX7_whoNames_69 {d : Nat} {z : Int32 × aH} {k10 : Nat → Nat → Int32 → Int32 → Int32 → Int32 → aH → Option (Int32 × aH)} (hk10 : ∀ (v0 : Nat) (v1 : Nat) (v2 : Int32) (v3 : Int32) (v4 : Int32) (v5 : Int32) (h : aH), k10 v0 v1 v2 v3 v4 v5 h = some z → Ev (d + 1) none mX7_whoNames (0, 0) 10 [.ref v0, .ref v1, .int v2, .int v3, .int v4, .int v5, .null] [] h (QI z)) (v0 : Nat) (v1 : Nat) (v2 : Int32) (v3 : Int32) (v4 : Int32) (v5 : Int32) (v6 : Int32) (h : aH) (hf : fX7_whoNames_69 k10 v0 v1 v2 v3 v4 v5 v6 h = some z) : Ev (d + 1) none mX7_whoNames (0, 0) 69 [.ref v0, .ref v1, .int v2, .int v3, .int v4, .int v5, .int v6] [] h (QI z) := 
  go_ok (X := none) (blk := wX7_whoNames_69) (np := 75) (tt := 0) (kN := fun xs h st => app [2, 2, 1, 1, 1, 1, 0] (fun v0 v1 v2 v3 v4 v5 => apS [1, 2, 2, 1] (fun s0 s1 s2 s3 => fX7_whoNames_75 k10 v0 v1 v2 v3 v4 v5 s0 s1 s2 s3 h) st) xs) (kT := fun _ _ _ => none) (kR := kRI)
    (fun xs h st q => jm [2, 2, 1, 1, 1, 1, 0] _ (fun v0 v1 v2 v3 v4 v5 q => apS_ok [1, 2, 2, 1] _ (fun st => Ev (d + 1) none mX7_whoNames (0, 0) 75 [.ref v0, .ref v1, .int v2, .int v3, .int v4, .int v5, .null] st h (QI z)) st (fun s0 s1 s2 s3 q => tX7_whoNames_75 hk10 v0 v1 v2 v3 v4 v5 s0 s1 s2 s3 h q) q) q)
    (fun _ _ _ q => nos q)
    kRI_ok (Or.inr rfl) (by decide +kernel) (by decide +kernel) hf
def wX7_whoNames_64 : List En := [(.iload 4, 0, 0, 0), (.ifCond .lt 15, 81, 0, 0)]
def fX7_whoNames_64 (k10 : Nat → Nat → Int32 → Int32 → Int32 → Int32 → aH → Option (Int32 × aH)) (v0 : Nat) (v1 : Nat) (v2 : Int32) (v3 : Int32) (v4 : Int32) (v5 : Int32) (v6 : Int32) (h : aH) : Option (Int32 × aH) :=
  if v4 < 0 then fX7_whoNames_81 k10 v0 v1 v2 v3 v5 h else fX7_whoNames_69 k10 v0 v1 v2 v3 v4 v5 v6 h
theorem tX7_whoNames_64 {d : Nat} {z : Int32 × aH} {k10 : Nat → Nat → Int32 → Int32 → Int32 → Int32 → aH → Option (Int32 × aH)} (hk10 : ∀ (v0 : Nat) (v1 : Nat) (v2 : Int32) (v3 : Int32) (v4 : Int32) (v5 : Int32) (h : aH), k10 v0 v1 v2 v3 v4 v5 h = some z → Ev (d + 1) none mX7_whoNames (0, 0) 10 [.ref v0, .ref v1, .int v2, .int v3, .int v4, .int v5, .null] [] h (QI z)) (v0 : Nat) (v1 : Nat) (v2 : Int32) (v3 : Int32) (v4 : Int32) (v5 : Int32) (v6 : Int32) (h : aH) (hf : fX7_whoNames_64 k10 v0 v1 v2 v3 v4 v5 v6 h = some z) : Ev (d + 1) none mX7_whoNames (0, 0) 64 [.ref v0, .ref v1, .int v2, .int v3, .int v4, .int v5, .int v6] [] h (QI z) := 
  go_ok (X := none) (blk := wX7_whoNames_64) (np := 69) (tt := 81) (kN := fun xs h st => app [2, 2, 1, 1, 1, 1, 1] (fun v0 v1 v2 v3 v4 v5 v6 => apS [] (fX7_whoNames_69 k10 v0 v1 v2 v3 v4 v5 v6 h) st) xs) (kT := fun xs h st => app [2, 2, 1, 1, 0, 1, 0] (fun v0 v1 v2 v3 v5 => apS [] (fX7_whoNames_81 k10 v0 v1 v2 v3 v5 h) st) xs) (kR := kRI)
    (fun xs h st q => jm [2, 2, 1, 1, 1, 1, 1] _ (fun v0 v1 v2 v3 v4 v5 v6 q => apS_ok [] _ (fun st => Ev (d + 1) none mX7_whoNames (0, 0) 69 [.ref v0, .ref v1, .int v2, .int v3, .int v4, .int v5, .int v6] st h (QI z)) st (fun q => tX7_whoNames_69 hk10 v0 v1 v2 v3 v4 v5 v6 h q) q) q)
    (fun xs h st q => jm [2, 2, 1, 1, 0, 1, 0] _ (fun v0 v1 v2 v3 v5 q => apS_ok [] _ (fun st => Ev (d + 1) none mX7_whoNames (0, 0) 81 [.ref v0, .ref v1, .int v2, .int v3, .null, .int v5, .null] st h (QI z)) st (fun q => tX7_whoNames_81 hk10 v0 v1 v2 v3 v5 h q) q) q)
    kRI_ok (Or.inr rfl) (by decide +kernel) (by decide +kernel) hf
def wX7_whoNames_52 : List En := [(.if_icmp .le 12, 64, 0, 0)]
def fX7_whoNames_52 (k10 : Nat → Nat → Int32 → Int32 → Int32 → Int32 → aH → Option (Int32 × aH)) (v0 : Nat) (v1 : Nat) (v2 : Int32) (v3 : Int32) (v4 : Int32) (v5 : Int32) (v6 : Int32) (s0 : Int32) (s1 : Int32) (h : aH) : Option (Int32 × aH) :=
  if s0 < s1 then fX7_whoNames_55 k10 v0 v1 v2 v3 v5 h else fX7_whoNames_64 k10 v0 v1 v2 v3 v4 v5 v6 h
theorem tX7_whoNames_52 {d : Nat} {z : Int32 × aH} {k10 : Nat → Nat → Int32 → Int32 → Int32 → Int32 → aH → Option (Int32 × aH)} (hk10 : ∀ (v0 : Nat) (v1 : Nat) (v2 : Int32) (v3 : Int32) (v4 : Int32) (v5 : Int32) (h : aH), k10 v0 v1 v2 v3 v4 v5 h = some z → Ev (d + 1) none mX7_whoNames (0, 0) 10 [.ref v0, .ref v1, .int v2, .int v3, .int v4, .int v5, .null] [] h (QI z)) (v0 : Nat) (v1 : Nat) (v2 : Int32) (v3 : Int32) (v4 : Int32) (v5 : Int32) (v6 : Int32) (s0 : Int32) (s1 : Int32) (h : aH) (hf : fX7_whoNames_52 k10 v0 v1 v2 v3 v4 v5 v6 s0 s1 h = some z) : Ev (d + 1) none mX7_whoNames (0, 0) 52 [.ref v0, .ref v1, .int v2, .int v3, .int v4, .int v5, .int v6] [.int s0, .int s1] h (QI z) := 
  go_ok (X := none) (blk := wX7_whoNames_52) (np := 55) (tt := 64) (kN := fun xs h st => app [2, 2, 1, 1, 0, 1, 0] (fun v0 v1 v2 v3 v5 => apS [] (fX7_whoNames_55 k10 v0 v1 v2 v3 v5 h) st) xs) (kT := fun xs h st => app [2, 2, 1, 1, 1, 1, 1] (fun v0 v1 v2 v3 v4 v5 v6 => apS [] (fX7_whoNames_64 k10 v0 v1 v2 v3 v4 v5 v6 h) st) xs) (kR := kRI)
    (fun xs h st q => jm [2, 2, 1, 1, 0, 1, 0] _ (fun v0 v1 v2 v3 v5 q => apS_ok [] _ (fun st => Ev (d + 1) none mX7_whoNames (0, 0) 55 [.ref v0, .ref v1, .int v2, .int v3, .null, .int v5, .null] st h (QI z)) st (fun q => tX7_whoNames_55 hk10 v0 v1 v2 v3 v5 h q) q) q)
    (fun xs h st q => jm [2, 2, 1, 1, 1, 1, 1] _ (fun v0 v1 v2 v3 v4 v5 v6 q => apS_ok [] _ (fun st => Ev (d + 1) none mX7_whoNames (0, 0) 64 [.ref v0, .ref v1, .int v2, .int v3, .int v4, .int v5, .int v6] st h (QI z)) st (fun q => tX7_whoNames_64 hk10 v0 v1 v2 v3 v4 v5 v6 h q) q) q)
    kRI_ok (Or.inr rfl) (by decide +kernel) (by decide +kernel) hf
theorem kqX7_whoNames_49 : okC mX7_whoNames 49 (.invokevirtual 86) 71 61 0 2 = true := by decide +kernel
def fX7_whoNames_49 (k10 : Nat → Nat → Int32 → Int32 → Int32 → Int32 → aH → Option (Int32 × aH)) (v0 : Nat) (v1 : Nat) (v2 : Int32) (v3 : Int32) (v4 : Int32) (v5 : Int32) (v6 : Int32) (s0 : Int32) (s1 : Nat) (s2 : Nat) (s3 : Int32) (h : aH) : Option (Int32 × aH) :=
  (isO h 7 s2).bind fun _ =>
  (gX7_seenHunger s2 s1 s0 h).bind fun r =>
  fX7_whoNames_52 k10 v0 v1 v2 v3 v4 v5 v6 r.1 s3 r.2
theorem tX7_whoNames_49 {d : Nat} {z : Int32 × aH} {k10 : Nat → Nat → Int32 → Int32 → Int32 → Int32 → aH → Option (Int32 × aH)} (hk10 : ∀ (v0 : Nat) (v1 : Nat) (v2 : Int32) (v3 : Int32) (v4 : Int32) (v5 : Int32) (h : aH), k10 v0 v1 v2 v3 v4 v5 h = some z → Ev (d + 1) none mX7_whoNames (0, 0) 10 [.ref v0, .ref v1, .int v2, .int v3, .int v4, .int v5, .null] [] h (QI z)) (v0 : Nat) (v1 : Nat) (v2 : Int32) (v3 : Int32) (v4 : Int32) (v5 : Int32) (v6 : Int32) (s0 : Int32) (s1 : Nat) (s2 : Nat) (s3 : Int32) (h : aH) (hf : fX7_whoNames_49 k10 v0 v1 v2 v3 v4 v5 v6 s0 s1 s2 s3 h = some z) : Ev (d + 1) none mX7_whoNames (0, 0) 49 [.ref v0, .ref v1, .int v2, .int v3, .int v4, .int v5, .int v6] [.int s0, .ref s1, .ref s2, .int s3] h (QI z) := by
  obtain ⟨_, h1, hf⟩ := bnd hf
  obtain ⟨fs, ho⟩ := isO_ok h1
  obtain ⟨r, h2, hf⟩ := bnd hf
  refine ev_V kqX7_whoNames_49 jX7_seenHunger (zX7_seenHunger (d := d + 0) h2) ho rfl rfl (Nat.le_of_ble_eq_true rfl) rfl (as := [.ref s1, .int s0]) (rest := [.int s3]) rfl (Nat.le_of_ble_eq_true rfl) (fun _ _ hq => ?_)
  obtain ⟨rfl, rfl⟩ := hq
  exact jm [2, 2, 1, 1, 1, 1, 1] (fun v0 v1 v2 v3 v4 v5 v6 => fX7_whoNames_52 k10 v0 v1 v2 v3 v4 v5 v6 r.1 s3 r.2) (fun v0 v1 v2 v3 v4 v5 v6 q => tX7_whoNames_52 hk10 v0 v1 v2 v3 v4 v5 v6 r.1 s3 r.2 q) hf
def wX7_whoNames_44 : List En := [(.iload 6, 0, 0, 0), (.aload_n 0, 0, 0, 0), (.aload_n 1, 0, 0, 0), (.iload_n 3, 0, 0, 0)]
def fX7_whoNames_44 (k10 : Nat → Nat → Int32 → Int32 → Int32 → Int32 → aH → Option (Int32 × aH)) (v0 : Nat) (v1 : Nat) (v2 : Int32) (v3 : Int32) (v4 : Int32) (v5 : Int32) (v6 : Int32) (h : aH) : Option (Int32 × aH) :=
  fX7_whoNames_49 k10 v0 v1 v2 v3 v4 v5 v6 v3 v1 v0 v6 h
theorem tX7_whoNames_44 {d : Nat} {z : Int32 × aH} {k10 : Nat → Nat → Int32 → Int32 → Int32 → Int32 → aH → Option (Int32 × aH)} (hk10 : ∀ (v0 : Nat) (v1 : Nat) (v2 : Int32) (v3 : Int32) (v4 : Int32) (v5 : Int32) (h : aH), k10 v0 v1 v2 v3 v4 v5 h = some z → Ev (d + 1) none mX7_whoNames (0, 0) 10 [.ref v0, .ref v1, .int v2, .int v3, .int v4, .int v5, .null] [] h (QI z)) (v0 : Nat) (v1 : Nat) (v2 : Int32) (v3 : Int32) (v4 : Int32) (v5 : Int32) (v6 : Int32) (h : aH) (hf : fX7_whoNames_44 k10 v0 v1 v2 v3 v4 v5 v6 h = some z) : Ev (d + 1) none mX7_whoNames (0, 0) 44 [.ref v0, .ref v1, .int v2, .int v3, .int v4, .int v5, .int v6] [] h (QI z) := 
  go_ok (X := none) (blk := wX7_whoNames_44) (np := 49) (tt := 0) (kN := fun xs h st => app [2, 2, 1, 1, 1, 1, 1] (fun v0 v1 v2 v3 v4 v5 v6 => apS [1, 2, 2, 1] (fun s0 s1 s2 s3 => fX7_whoNames_49 k10 v0 v1 v2 v3 v4 v5 v6 s0 s1 s2 s3 h) st) xs) (kT := fun _ _ _ => none) (kR := kRI)
    (fun xs h st q => jm [2, 2, 1, 1, 1, 1, 1] _ (fun v0 v1 v2 v3 v4 v5 v6 q => apS_ok [1, 2, 2, 1] _ (fun st => Ev (d + 1) none mX7_whoNames (0, 0) 49 [.ref v0, .ref v1, .int v2, .int v3, .int v4, .int v5, .int v6] st h (QI z)) st (fun s0 s1 s2 s3 q => tX7_whoNames_49 hk10 v0 v1 v2 v3 v4 v5 v6 s0 s1 s2 s3 h q) q) q)
    (fun _ _ _ q => nos q)
    kRI_ok (Or.inr rfl) (by decide +kernel) (by decide +kernel) hf
def wX7_whoNames_38 : List En := [(.istore 6, 0, 0, 0), (.iload_n 3, 0, 0, 0), (.ifCond .lt 14, 55, 0, 0)]
def fX7_whoNames_38 (k10 : Nat → Nat → Int32 → Int32 → Int32 → Int32 → aH → Option (Int32 × aH)) (v0 : Nat) (v1 : Nat) (v2 : Int32) (v3 : Int32) (v4 : Int32) (v5 : Int32) (s0 : Int32) (h : aH) : Option (Int32 × aH) :=
  if v3 < 0 then fX7_whoNames_55 k10 v0 v1 v2 v3 v5 h else fX7_whoNames_44 k10 v0 v1 v2 v3 v4 v5 s0 h
theorem tX7_whoNames_38 {d : Nat} {z : Int32 × aH} {k10 : Nat → Nat → Int32 → Int32 → Int32 → Int32 → aH → Option (Int32 × aH)} (hk10 : ∀ (v0 : Nat) (v1 : Nat) (v2 : Int32) (v3 : Int32) (v4 : Int32) (v5 : Int32) (h : aH), k10 v0 v1 v2 v3 v4 v5 h = some z → Ev (d + 1) none mX7_whoNames (0, 0) 10 [.ref v0, .ref v1, .int v2, .int v3, .int v4, .int v5, .null] [] h (QI z)) (v0 : Nat) (v1 : Nat) (v2 : Int32) (v3 : Int32) (v4 : Int32) (v5 : Int32) (s0 : Int32) (h : aH) (hf : fX7_whoNames_38 k10 v0 v1 v2 v3 v4 v5 s0 h = some z) : Ev (d + 1) none mX7_whoNames (0, 0) 38 [.ref v0, .ref v1, .int v2, .int v3, .int v4, .int v5, .null] [.int s0] h (QI z) := 
  go_ok (X := none) (blk := wX7_whoNames_38) (np := 44) (tt := 55) (kN := fun xs h st => app [2, 2, 1, 1, 1, 1, 1] (fun v0 v1 v2 v3 v4 v5 v6 => apS [] (fX7_whoNames_44 k10 v0 v1 v2 v3 v4 v5 v6 h) st) xs) (kT := fun xs h st => app [2, 2, 1, 1, 0, 1, 0] (fun v0 v1 v2 v3 v5 => apS [] (fX7_whoNames_55 k10 v0 v1 v2 v3 v5 h) st) xs) (kR := kRI)
    (fun xs h st q => jm [2, 2, 1, 1, 1, 1, 1] _ (fun v0 v1 v2 v3 v4 v5 v6 q => apS_ok [] _ (fun st => Ev (d + 1) none mX7_whoNames (0, 0) 44 [.ref v0, .ref v1, .int v2, .int v3, .int v4, .int v5, .int v6] st h (QI z)) st (fun q => tX7_whoNames_44 hk10 v0 v1 v2 v3 v4 v5 v6 h q) q) q)
    (fun xs h st q => jm [2, 2, 1, 1, 0, 1, 0] _ (fun v0 v1 v2 v3 v5 q => apS_ok [] _ (fun st => Ev (d + 1) none mX7_whoNames (0, 0) 55 [.ref v0, .ref v1, .int v2, .int v3, .null, .int v5, .null] st h (QI z)) st (fun q => tX7_whoNames_55 hk10 v0 v1 v2 v3 v5 h q) q) q)
    kRI_ok (Or.inr rfl) (by decide +kernel) (by decide +kernel) hf
theorem kqX7_whoNames_35 : okC mX7_whoNames 35 (.invokevirtual 86) 71 61 0 2 = true := by decide +kernel
def fX7_whoNames_35 (k10 : Nat → Nat → Int32 → Int32 → Int32 → Int32 → aH → Option (Int32 × aH)) (v0 : Nat) (v1 : Nat) (v2 : Int32) (v3 : Int32) (v4 : Int32) (v5 : Int32) (s0 : Int32) (s1 : Nat) (s2 : Nat) (h : aH) : Option (Int32 × aH) :=
  (isO h 7 s2).bind fun _ =>
  (gX7_seenHunger s2 s1 s0 h).bind fun r =>
  fX7_whoNames_38 k10 v0 v1 v2 v3 v4 v5 r.1 r.2
theorem tX7_whoNames_35 {d : Nat} {z : Int32 × aH} {k10 : Nat → Nat → Int32 → Int32 → Int32 → Int32 → aH → Option (Int32 × aH)} (hk10 : ∀ (v0 : Nat) (v1 : Nat) (v2 : Int32) (v3 : Int32) (v4 : Int32) (v5 : Int32) (h : aH), k10 v0 v1 v2 v3 v4 v5 h = some z → Ev (d + 1) none mX7_whoNames (0, 0) 10 [.ref v0, .ref v1, .int v2, .int v3, .int v4, .int v5, .null] [] h (QI z)) (v0 : Nat) (v1 : Nat) (v2 : Int32) (v3 : Int32) (v4 : Int32) (v5 : Int32) (s0 : Int32) (s1 : Nat) (s2 : Nat) (h : aH) (hf : fX7_whoNames_35 k10 v0 v1 v2 v3 v4 v5 s0 s1 s2 h = some z) : Ev (d + 1) none mX7_whoNames (0, 0) 35 [.ref v0, .ref v1, .int v2, .int v3, .int v4, .int v5, .null] [.int s0, .ref s1, .ref s2] h (QI z) := by
  obtain ⟨_, h1, hf⟩ := bnd hf
  obtain ⟨fs, ho⟩ := isO_ok h1
  obtain ⟨r, h2, hf⟩ := bnd hf
  refine ev_V kqX7_whoNames_35 jX7_seenHunger (zX7_seenHunger (d := d + 0) h2) ho rfl rfl (Nat.le_of_ble_eq_true rfl) rfl (as := [.ref s1, .int s0]) (rest := []) rfl (Nat.le_of_ble_eq_true rfl) (fun _ _ hq => ?_)
  obtain ⟨rfl, rfl⟩ := hq
  exact jm [2, 2, 1, 1, 1, 1, 0] (fun v0 v1 v2 v3 v4 v5 => fX7_whoNames_38 k10 v0 v1 v2 v3 v4 v5 r.1 r.2) (fun v0 v1 v2 v3 v4 v5 q => tX7_whoNames_38 hk10 v0 v1 v2 v3 v4 v5 r.1 r.2 q) hf
def wX7_whoNames_31 : List En := [(.aload_n 0, 0, 0, 0), (.aload_n 1, 0, 0, 0), (.iload 5, 0, 0, 0)]
def fX7_whoNames_31 (k10 : Nat → Nat → Int32 → Int32 → Int32 → Int32 → aH → Option (Int32 × aH)) (v0 : Nat) (v1 : Nat) (v2 : Int32) (v3 : Int32) (v4 : Int32) (v5 : Int32) (h : aH) : Option (Int32 × aH) :=
  fX7_whoNames_35 k10 v0 v1 v2 v3 v4 v5 v5 v1 v0 h
theorem tX7_whoNames_31 {d : Nat} {z : Int32 × aH} {k10 : Nat → Nat → Int32 → Int32 → Int32 → Int32 → aH → Option (Int32 × aH)} (hk10 : ∀ (v0 : Nat) (v1 : Nat) (v2 : Int32) (v3 : Int32) (v4 : Int32) (v5 : Int32) (h : aH), k10 v0 v1 v2 v3 v4 v5 h = some z → Ev (d + 1) none mX7_whoNames (0, 0) 10 [.ref v0, .ref v1, .int v2, .int v3, .int v4, .int v5, .null] [] h (QI z)) (v0 : Nat) (v1 : Nat) (v2 : Int32) (v3 : Int32) (v4 : Int32) (v5 : Int32) (h : aH) (hf : fX7_whoNames_31 k10 v0 v1 v2 v3 v4 v5 h = some z) : Ev (d + 1) none mX7_whoNames (0, 0) 31 [.ref v0, .ref v1, .int v2, .int v3, .int v4, .int v5, .null] [] h (QI z) := 
  go_ok (X := none) (blk := wX7_whoNames_31) (np := 35) (tt := 0) (kN := fun xs h st => app [2, 2, 1, 1, 1, 1, 0] (fun v0 v1 v2 v3 v4 v5 => apS [1, 2, 2] (fun s0 s1 s2 => fX7_whoNames_35 k10 v0 v1 v2 v3 v4 v5 s0 s1 s2 h) st) xs) (kT := fun _ _ _ => none) (kR := kRI)
    (fun xs h st q => jm [2, 2, 1, 1, 1, 1, 0] _ (fun v0 v1 v2 v3 v4 v5 q => apS_ok [1, 2, 2] _ (fun st => Ev (d + 1) none mX7_whoNames (0, 0) 35 [.ref v0, .ref v1, .int v2, .int v3, .int v4, .int v5, .null] st h (QI z)) st (fun s0 s1 s2 q => tX7_whoNames_35 hk10 v0 v1 v2 v3 v4 v5 s0 s1 s2 h q) q) q)
    (fun _ _ _ q => nos q)
    kRI_ok (Or.inr rfl) (by decide +kernel) (by decide +kernel) hf
def wX7_whoNames_28 : List En := [(.goto 57, 85, 0, 0)]
def fX7_whoNames_28 (k10 : Nat → Nat → Int32 → Int32 → Int32 → Int32 → aH → Option (Int32 × aH)) (v0 : Nat) (v1 : Nat) (v2 : Int32) (v3 : Int32) (v4 : Int32) (v5 : Int32) (h : aH) : Option (Int32 × aH) :=
  fX7_whoNames_85 k10 v0 v1 v2 v3 v4 v5 h
theorem tX7_whoNames_28 {d : Nat} {z : Int32 × aH} {k10 : Nat → Nat → Int32 → Int32 → Int32 → Int32 → aH → Option (Int32 × aH)} (hk10 : ∀ (v0 : Nat) (v1 : Nat) (v2 : Int32) (v3 : Int32) (v4 : Int32) (v5 : Int32) (h : aH), k10 v0 v1 v2 v3 v4 v5 h = some z → Ev (d + 1) none mX7_whoNames (0, 0) 10 [.ref v0, .ref v1, .int v2, .int v3, .int v4, .int v5, .null] [] h (QI z)) (v0 : Nat) (v1 : Nat) (v2 : Int32) (v3 : Int32) (v4 : Int32) (v5 : Int32) (h : aH) (hf : fX7_whoNames_28 k10 v0 v1 v2 v3 v4 v5 h = some z) : Ev (d + 1) none mX7_whoNames (0, 0) 28 [.ref v0, .ref v1, .int v2, .int v3, .int v4, .int v5, .null] [] h (QI z) := 
  go_ok (X := none) (blk := wX7_whoNames_28) (np := 31) (tt := 85) (kN := fun _ _ _ => none) (kT := fun xs h st => app [2, 2, 1, 1, 1, 1, 0] (fun v0 v1 v2 v3 v4 v5 => apS [] (fX7_whoNames_85 k10 v0 v1 v2 v3 v4 v5 h) st) xs) (kR := kRI)
    (fun _ _ _ q => nos q)
    (fun xs h st q => jm [2, 2, 1, 1, 1, 1, 0] _ (fun v0 v1 v2 v3 v4 v5 q => apS_ok [] _ (fun st => Ev (d + 1) none mX7_whoNames (0, 0) 85 [.ref v0, .ref v1, .int v2, .int v3, .int v4, .int v5, .null] st h (QI z)) st (fun q => tX7_whoNames_85 hk10 v0 v1 v2 v3 v4 v5 h q) q) q)
    kRI_ok (Or.inr rfl) (by decide +kernel) (by decide +kernel) hf
def wX7_whoNames_25 : List En := [(.ifCond .eq 6, 31, 0, 0)]
def fX7_whoNames_25 (k10 : Nat → Nat → Int32 → Int32 → Int32 → Int32 → aH → Option (Int32 × aH)) (v0 : Nat) (v1 : Nat) (v2 : Int32) (v3 : Int32) (v4 : Int32) (v5 : Int32) (s0 : Int32) (h : aH) : Option (Int32 × aH) :=
  if s0 = 0 then fX7_whoNames_31 k10 v0 v1 v2 v3 v4 v5 h else fX7_whoNames_28 k10 v0 v1 v2 v3 v4 v5 h
theorem tX7_whoNames_25 {d : Nat} {z : Int32 × aH} {k10 : Nat → Nat → Int32 → Int32 → Int32 → Int32 → aH → Option (Int32 × aH)} (hk10 : ∀ (v0 : Nat) (v1 : Nat) (v2 : Int32) (v3 : Int32) (v4 : Int32) (v5 : Int32) (h : aH), k10 v0 v1 v2 v3 v4 v5 h = some z → Ev (d + 1) none mX7_whoNames (0, 0) 10 [.ref v0, .ref v1, .int v2, .int v3, .int v4, .int v5, .null] [] h (QI z)) (v0 : Nat) (v1 : Nat) (v2 : Int32) (v3 : Int32) (v4 : Int32) (v5 : Int32) (s0 : Int32) (h : aH) (hf : fX7_whoNames_25 k10 v0 v1 v2 v3 v4 v5 s0 h = some z) : Ev (d + 1) none mX7_whoNames (0, 0) 25 [.ref v0, .ref v1, .int v2, .int v3, .int v4, .int v5, .null] [.int s0] h (QI z) := 
  go_ok (X := none) (blk := wX7_whoNames_25) (np := 28) (tt := 31) (kN := fun xs h st => app [2, 2, 1, 1, 1, 1, 0] (fun v0 v1 v2 v3 v4 v5 => apS [] (fX7_whoNames_28 k10 v0 v1 v2 v3 v4 v5 h) st) xs) (kT := fun xs h st => app [2, 2, 1, 1, 1, 1, 0] (fun v0 v1 v2 v3 v4 v5 => apS [] (fX7_whoNames_31 k10 v0 v1 v2 v3 v4 v5 h) st) xs) (kR := kRI)
    (fun xs h st q => jm [2, 2, 1, 1, 1, 1, 0] _ (fun v0 v1 v2 v3 v4 v5 q => apS_ok [] _ (fun st => Ev (d + 1) none mX7_whoNames (0, 0) 28 [.ref v0, .ref v1, .int v2, .int v3, .int v4, .int v5, .null] st h (QI z)) st (fun q => tX7_whoNames_28 hk10 v0 v1 v2 v3 v4 v5 h q) q) q)
    (fun xs h st q => jm [2, 2, 1, 1, 1, 1, 0] _ (fun v0 v1 v2 v3 v4 v5 q => apS_ok [] _ (fun st => Ev (d + 1) none mX7_whoNames (0, 0) 31 [.ref v0, .ref v1, .int v2, .int v3, .int v4, .int v5, .null] st h (QI z)) st (fun q => tX7_whoNames_31 hk10 v0 v1 v2 v3 v4 v5 h q) q) q)
    kRI_ok (Or.inr rfl) (by decide +kernel) (by decide +kernel) hf
theorem kqX7_whoNames_22 : okC mX7_whoNames 22 (.invokevirtual 73) 70 60 0 1 = true := by decide +kernel
def fX7_whoNames_22 (k10 : Nat → Nat → Int32 → Int32 → Int32 → Int32 → aH → Option (Int32 × aH)) (v0 : Nat) (v1 : Nat) (v2 : Int32) (v3 : Int32) (v4 : Int32) (v5 : Int32) (s0 : Int32) (s1 : Nat) (h : aH) : Option (Int32 × aH) :=
  (isO h 7 s1).bind fun _ =>
  (gX7_isDead s1 s0 h).bind fun r =>
  fX7_whoNames_25 k10 v0 v1 v2 v3 v4 v5 r.1 r.2
theorem tX7_whoNames_22 {d : Nat} {z : Int32 × aH} {k10 : Nat → Nat → Int32 → Int32 → Int32 → Int32 → aH → Option (Int32 × aH)} (hk10 : ∀ (v0 : Nat) (v1 : Nat) (v2 : Int32) (v3 : Int32) (v4 : Int32) (v5 : Int32) (h : aH), k10 v0 v1 v2 v3 v4 v5 h = some z → Ev (d + 1) none mX7_whoNames (0, 0) 10 [.ref v0, .ref v1, .int v2, .int v3, .int v4, .int v5, .null] [] h (QI z)) (v0 : Nat) (v1 : Nat) (v2 : Int32) (v3 : Int32) (v4 : Int32) (v5 : Int32) (s0 : Int32) (s1 : Nat) (h : aH) (hf : fX7_whoNames_22 k10 v0 v1 v2 v3 v4 v5 s0 s1 h = some z) : Ev (d + 1) none mX7_whoNames (0, 0) 22 [.ref v0, .ref v1, .int v2, .int v3, .int v4, .int v5, .null] [.int s0, .ref s1] h (QI z) := by
  obtain ⟨_, h1, hf⟩ := bnd hf
  obtain ⟨fs, ho⟩ := isO_ok h1
  obtain ⟨r, h2, hf⟩ := bnd hf
  refine ev_V kqX7_whoNames_22 jX7_isDead (zX7_isDead (d := d + 0) h2) ho rfl rfl (Nat.le_of_ble_eq_true rfl) rfl (as := [.int s0]) (rest := []) rfl (Nat.le_of_ble_eq_true rfl) (fun _ _ hq => ?_)
  obtain ⟨-, rfl, rfl⟩ := hq
  exact jm [2, 2, 1, 1, 1, 1, 0] (fun v0 v1 v2 v3 v4 v5 => fX7_whoNames_25 k10 v0 v1 v2 v3 v4 v5 r.1 r.2) (fun v0 v1 v2 v3 v4 v5 q => tX7_whoNames_25 hk10 v0 v1 v2 v3 v4 v5 r.1 r.2 q) hf
def wX7_whoNames_19 : List En := [(.aload_n 0, 0, 0, 0), (.iload 5, 0, 0, 0)]
def fX7_whoNames_19 (k10 : Nat → Nat → Int32 → Int32 → Int32 → Int32 → aH → Option (Int32 × aH)) (v0 : Nat) (v1 : Nat) (v2 : Int32) (v3 : Int32) (v4 : Int32) (v5 : Int32) (h : aH) : Option (Int32 × aH) :=
  fX7_whoNames_22 k10 v0 v1 v2 v3 v4 v5 v5 v0 h
theorem tX7_whoNames_19 {d : Nat} {z : Int32 × aH} {k10 : Nat → Nat → Int32 → Int32 → Int32 → Int32 → aH → Option (Int32 × aH)} (hk10 : ∀ (v0 : Nat) (v1 : Nat) (v2 : Int32) (v3 : Int32) (v4 : Int32) (v5 : Int32) (h : aH), k10 v0 v1 v2 v3 v4 v5 h = some z → Ev (d + 1) none mX7_whoNames (0, 0) 10 [.ref v0, .ref v1, .int v2, .int v3, .int v4, .int v5, .null] [] h (QI z)) (v0 : Nat) (v1 : Nat) (v2 : Int32) (v3 : Int32) (v4 : Int32) (v5 : Int32) (h : aH) (hf : fX7_whoNames_19 k10 v0 v1 v2 v3 v4 v5 h = some z) : Ev (d + 1) none mX7_whoNames (0, 0) 19 [.ref v0, .ref v1, .int v2, .int v3, .int v4, .int v5, .null] [] h (QI z) := 
  go_ok (X := none) (blk := wX7_whoNames_19) (np := 22) (tt := 0) (kN := fun xs h st => app [2, 2, 1, 1, 1, 1, 0] (fun v0 v1 v2 v3 v4 v5 => apS [1, 2] (fun s0 s1 => fX7_whoNames_22 k10 v0 v1 v2 v3 v4 v5 s0 s1 h) st) xs) (kT := fun _ _ _ => none) (kR := kRI)
    (fun xs h st q => jm [2, 2, 1, 1, 1, 1, 0] _ (fun v0 v1 v2 v3 v4 v5 q => apS_ok [1, 2] _ (fun st => Ev (d + 1) none mX7_whoNames (0, 0) 22 [.ref v0, .ref v1, .int v2, .int v3, .int v4, .int v5, .null] st h (QI z)) st (fun s0 s1 q => tX7_whoNames_22 hk10 v0 v1 v2 v3 v4 v5 s0 s1 h q) q) q)
    (fun _ _ _ q => nos q)
    kRI_ok (Or.inr rfl) (by decide +kernel) (by decide +kernel) hf
def wX7_whoNames_10 : List En := [(.iload 5, 0, 0, 0), (.aload_n 1, 0, 0, 0), (.getfield 59, 112, 9, 3), (.if_icmp .ge 75, 91, 0, 0)]
def fX7_whoNames_10 (k10 : Nat → Nat → Int32 → Int32 → Int32 → Int32 → aH → Option (Int32 × aH)) (v0 : Nat) (v1 : Nat) (v2 : Int32) (v3 : Int32) (v4 : Int32) (v5 : Int32) (h : aH) : Option (Int32 × aH) :=
  (gFI h 9 v1 3).bind fun t1 =>
  if v5 < t1 then fX7_whoNames_19 k10 v0 v1 v2 v3 v4 v5 h else fX7_whoNames_91 v2 v3 v4 h
theorem tX7_whoNames_10 {d : Nat} {z : Int32 × aH} {k10 : Nat → Nat → Int32 → Int32 → Int32 → Int32 → aH → Option (Int32 × aH)} (hk10 : ∀ (v0 : Nat) (v1 : Nat) (v2 : Int32) (v3 : Int32) (v4 : Int32) (v5 : Int32) (h : aH), k10 v0 v1 v2 v3 v4 v5 h = some z → Ev (d + 1) none mX7_whoNames (0, 0) 10 [.ref v0, .ref v1, .int v2, .int v3, .int v4, .int v5, .null] [] h (QI z)) (v0 : Nat) (v1 : Nat) (v2 : Int32) (v3 : Int32) (v4 : Int32) (v5 : Int32) (h : aH) (hf : fX7_whoNames_10 k10 v0 v1 v2 v3 v4 v5 h = some z) : Ev (d + 1) none mX7_whoNames (0, 0) 10 [.ref v0, .ref v1, .int v2, .int v3, .int v4, .int v5, .null] [] h (QI z) := 
  go_ok (X := none) (blk := wX7_whoNames_10) (np := 19) (tt := 91) (kN := fun xs h st => app [2, 2, 1, 1, 1, 1, 0] (fun v0 v1 v2 v3 v4 v5 => apS [] (fX7_whoNames_19 k10 v0 v1 v2 v3 v4 v5 h) st) xs) (kT := fun xs h st => app [0, 0, 1, 1, 1, 0, 0] (fun v2 v3 v4 => apS [] (fX7_whoNames_91 v2 v3 v4 h) st) xs) (kR := kRI)
    (fun xs h st q => jm [2, 2, 1, 1, 1, 1, 0] _ (fun v0 v1 v2 v3 v4 v5 q => apS_ok [] _ (fun st => Ev (d + 1) none mX7_whoNames (0, 0) 19 [.ref v0, .ref v1, .int v2, .int v3, .int v4, .int v5, .null] st h (QI z)) st (fun q => tX7_whoNames_19 hk10 v0 v1 v2 v3 v4 v5 h q) q) q)
    (fun xs h st q => jm [0, 0, 1, 1, 1, 0, 0] _ (fun v2 v3 v4 q => apS_ok [] _ (fun st => Ev (d + 1) none mX7_whoNames (0, 0) 91 [.null, .null, .int v2, .int v3, .int v4, .null, .null] st h (QI z)) st (fun q => tX7_whoNames_91 v2 v3 v4 h q) q) q)
    kRI_ok (Or.inr rfl) (by decide +kernel) (by decide +kernel) hf
def lX7_whoNames_10 : Nat → Nat → Nat → Int32 → Int32 → Int32 → Int32 → aH → Option (Int32 × aH)
  | 0, _, _, _, _, _, _, _ => none
  | n + 1, v0, v1, v2, v3, v4, v5, h => fX7_whoNames_10 (lX7_whoNames_10 n) v0 v1 v2 v3 v4 v5 h
theorem uX7_whoNames_10 {d : Nat} {z : Int32 × aH} : ∀ (n : Nat) (v0 : Nat) (v1 : Nat) (v2 : Int32) (v3 : Int32) (v4 : Int32) (v5 : Int32) (h : aH), lX7_whoNames_10 n v0 v1 v2 v3 v4 v5 h = some z → Ev (d + 1) none mX7_whoNames (0, 0) 10 [.ref v0, .ref v1, .int v2, .int v3, .int v4, .int v5, .null] [] h (QI z) := by
  intro n
  induction n with
  | zero => intro _ _ _ _ _ _ _ q; exact nos (show (none : Option (Int32 × aH)) = some z from q)
  | succ n ih => intro v0 v1 v2 v3 v4 v5 h q; exact tX7_whoNames_10 ih v0 v1 v2 v3 v4 v5 h q
def wX7_whoNames_0 : List En := [(.bipush (-2), 0, 0, 0), (.istore_n 3, 0, 0, 0), (.bipush (-2), 0, 0, 0), (.istore 4, 0, 0, 0), (.iconst 0, 0, 0, 0), (.istore 5, 0, 0, 0)]
def fX7_whoNames_0 (v0 : Nat) (v1 : Nat) (v2 : Int32) (h : aH) : Option (Int32 × aH) :=
  lX7_whoNames_10 FU v0 v1 v2 (kB (-2)) (kB (-2)) (kI 0) h
theorem tX7_whoNames_0 {d : Nat} {z : Int32 × aH} (v0 : Nat) (v1 : Nat) (v2 : Int32) (h : aH) (hf : fX7_whoNames_0 v0 v1 v2 h = some z) : Ev (d + 1) none mX7_whoNames (0, 0) 0 [.ref v0, .ref v1, .int v2, .null, .null, .null, .null] [] h (QI z) := 
  go_ok (X := none) (blk := wX7_whoNames_0) (np := 10) (tt := 0) (kN := fun xs h st => app [2, 2, 1, 1, 1, 1, 0] (fun v0 v1 v2 v3 v4 v5 => apS [] (lX7_whoNames_10 FU v0 v1 v2 v3 v4 v5 h) st) xs) (kT := fun _ _ _ => none) (kR := kRI)
    (fun xs h st q => jm [2, 2, 1, 1, 1, 1, 0] _ (fun v0 v1 v2 v3 v4 v5 q => apS_ok [] _ (fun st => Ev (d + 1) none mX7_whoNames (0, 0) 10 [.ref v0, .ref v1, .int v2, .int v3, .int v4, .int v5, .null] st h (QI z)) st (fun q => uX7_whoNames_10 FU v0 v1 v2 v3 v4 v5 h q) q) q)
    (fun _ _ _ q => nos q)
    kRI_ok (Or.inr rfl) (by decide +kernel) (by decide +kernel) hf
def gX7_whoNames (v0 : Nat) (v1 : Nat) (v2 : Int32) (h : aH) : Option (Int32 × aH) := fX7_whoNames_0 v0 v1 v2 h
theorem zX7_whoNames {d : Nat} {z : Int32 × aH} {v0 : Nat} {v1 : Nat} {v2 : Int32} {h : aH} (q : gX7_whoNames v0 v1 v2 h = some z) : CT (d + 1) mX7_whoNames (0, 0) [.ref v0, .ref v1, .int v2] h (QI z) :=
  ct_ev (by decide +kernel) (Nat.le_of_ble_eq_true rfl) QI_r (jm [2, 2, 1, 0, 0, 0, 0] (fun v0 v1 v2 => fX7_whoNames_0 v0 v1 v2 h) (fun v0 v1 v2 q => tX7_whoNames_0 v0 v1 v2 h q) q)
def wX10_namer_29 : List En := [(.ireturn, 0, 0, 0)]
def fX10_namer_29 (s0 : Int32) (h : aH) : Option (Int32 × aH) :=
  some (s0, h)
theorem tX10_namer_29 {d : Nat} {z : Int32 × aH} (s0 : Int32) (h : aH) (hf : fX10_namer_29 s0 h = some z) : Ev (d + 2) none mX10_namer (0, 0) 29 [.null] [.int s0] h (QI z) := 
  go_ok (X := none) (blk := wX10_namer_29) (np := 30) (tt := 0) (kN := fun _ _ _ => none) (kT := fun _ _ _ => none) (kR := kRI)
    (fun _ _ _ q => nos q)
    (fun _ _ _ q => nos q)
    kRI_ok (Or.inr rfl) (by decide +kernel) (by decide +kernel) hf
theorem kqX10_namer_26 : okC mX10_namer 26 (.invokevirtual 119) 60 44 0 1 = true := by decide +kernel
def fX10_namer_26 (s0 : Int32) (s1 : Nat) (h : aH) : Option (Int32 × aH) :=
  (isO h 10 s1).bind fun _ =>
  (gX10_answer s1 s0 h).bind fun r =>
  fX10_namer_29 r.1 r.2
theorem tX10_namer_26 {d : Nat} {z : Int32 × aH} (s0 : Int32) (s1 : Nat) (h : aH) (hf : fX10_namer_26 s0 s1 h = some z) : Ev (d + 2) none mX10_namer (0, 0) 26 [.null] [.int s0, .ref s1] h (QI z) := by
  obtain ⟨_, h1, hf⟩ := bnd hf
  obtain ⟨fs, ho⟩ := isO_ok h1
  obtain ⟨r, h2, hf⟩ := bnd hf
  refine ev_V kqX10_namer_26 jX10_answer (zX10_answer (d := d + 1) h2) ho rfl rfl (Nat.le_of_ble_eq_true rfl) rfl (as := [.int s0]) (rest := []) rfl (Nat.le_of_ble_eq_true rfl) (fun _ _ hq => ?_)
  obtain ⟨rfl, rfl⟩ := hq
  exact jm [0] (fX10_namer_29 r.1 r.2) (fun q => tX10_namer_29 r.1 r.2 q) hf
theorem kqX10_namer_23 : okC mX10_namer 23 (.invokevirtual 176) 75 59 0 2 = true := by decide +kernel
def fX10_namer_23 (s0 : Int32) (s1 : Nat) (s2 : Nat) (s3 : Nat) (h : aH) : Option (Int32 × aH) :=
  (isO h 7 s2).bind fun _ =>
  (gX7_whoNames s2 s1 s0 h).bind fun r =>
  fX10_namer_26 r.1 s3 r.2
theorem tX10_namer_23 {d : Nat} {z : Int32 × aH} (s0 : Int32) (s1 : Nat) (s2 : Nat) (s3 : Nat) (h : aH) (hf : fX10_namer_23 s0 s1 s2 s3 h = some z) : Ev (d + 2) none mX10_namer (0, 0) 23 [.null] [.int s0, .ref s1, .ref s2, .ref s3] h (QI z) := by
  obtain ⟨_, h1, hf⟩ := bnd hf
  obtain ⟨fs, ho⟩ := isO_ok h1
  obtain ⟨r, h2, hf⟩ := bnd hf
  refine ev_V kqX10_namer_23 jX7_whoNames (zX7_whoNames (d := d + 0) h2) ho rfl rfl (Nat.le_of_ble_eq_true rfl) rfl (as := [.ref s1, .int s0]) (rest := [.ref s3]) rfl (Nat.le_of_ble_eq_true rfl) (fun _ _ hq => ?_)
  obtain ⟨rfl, rfl⟩ := hq
  exact jm [0] (fX10_namer_26 r.1 s3 r.2) (fun q => tX10_namer_26 r.1 s3 r.2 q) hf
def wX10_namer_13 : List En := [(.aload_n 0, 0, 0, 0), (.aload_n 0, 0, 0, 0), (.getfield 68, 170, 10, 8), (.aload_n 0, 0, 0, 0), (.getfield 75, 171, 10, 9), (.iconst 0, 0, 0, 0)]
def fX10_namer_13 (v0 : Nat) (h : aH) : Option (Int32 × aH) :=
  (gFR h 10 v0 8).bind fun t1 =>
  (gFR h 10 v0 9).bind fun t2 =>
  fX10_namer_23 (kI 0) t2 t1 v0 h
theorem tX10_namer_13 {d : Nat} {z : Int32 × aH} (v0 : Nat) (h : aH) (hf : fX10_namer_13 v0 h = some z) : Ev (d + 2) none mX10_namer (0, 0) 13 [.ref v0] [] h (QI z) := 
  go_ok (X := none) (blk := wX10_namer_13) (np := 23) (tt := 0) (kN := fun xs h st => app [0] (apS [1, 2, 2, 2] (fun s0 s1 s2 s3 => fX10_namer_23 s0 s1 s2 s3 h) st) xs) (kT := fun _ _ _ => none) (kR := kRI)
    (fun xs h st q => jm [0] _ (fun q => apS_ok [1, 2, 2, 2] _ (fun st => Ev (d + 2) none mX10_namer (0, 0) 23 [.null] st h (QI z)) st (fun s0 s1 s2 s3 q => tX10_namer_23 s0 s1 s2 s3 h q) q) q)
    (fun _ _ _ q => nos q)
    kRI_ok (Or.inr rfl) (by decide +kernel) (by decide +kernel) hf
def wX10_namer_12 : List En := [(.ireturn, 0, 0, 0)]
def fX10_namer_12 (s0 : Int32) (h : aH) : Option (Int32 × aH) :=
  some (s0, h)
theorem tX10_namer_12 {d : Nat} {z : Int32 × aH} (s0 : Int32) (h : aH) (hf : fX10_namer_12 s0 h = some z) : Ev (d + 2) none mX10_namer (0, 0) 12 [.null] [.int s0] h (QI z) := 
  go_ok (X := none) (blk := wX10_namer_12) (np := 13) (tt := 0) (kN := fun _ _ _ => none) (kT := fun _ _ _ => none) (kR := kRI)
    (fun _ _ _ q => nos q)
    (fun _ _ _ q => nos q)
    kRI_ok (Or.inr rfl) (by decide +kernel) (by decide +kernel) hf
theorem kqX10_namer_9 : okC mX10_namer 9 (.invokevirtual 94) 15 8 0 1 = true := by decide +kernel
def fX10_namer_9 (s0 : Int32) (s1 : Nat) (h : aH) : Option (Int32 × aH) :=
  (isO h 10 s1).bind fun _ =>
  (gX10_refuse s1 s0 h).bind fun r =>
  fX10_namer_12 r.1 r.2
theorem tX10_namer_9 {d : Nat} {z : Int32 × aH} (s0 : Int32) (s1 : Nat) (h : aH) (hf : fX10_namer_9 s0 s1 h = some z) : Ev (d + 2) none mX10_namer (0, 0) 9 [.null] [.int s0, .ref s1] h (QI z) := by
  obtain ⟨_, h1, hf⟩ := bnd hf
  obtain ⟨fs, ho⟩ := isO_ok h1
  obtain ⟨r, h2, hf⟩ := bnd hf
  refine ev_V kqX10_namer_9 jX10_refuse (zX10_refuse (d := d + 1) h2) ho rfl rfl (Nat.le_of_ble_eq_true rfl) rfl (as := [.int s0]) (rest := []) rfl (Nat.le_of_ble_eq_true rfl) (fun _ _ hq => ?_)
  obtain ⟨rfl, rfl⟩ := hq
  exact jm [0] (fX10_namer_12 r.1 r.2) (fun q => tX10_namer_12 r.1 r.2 q) hf
def wX10_namer_7 : List En := [(.aload_n 0, 0, 0, 0), (.iconst 1, 0, 0, 0)]
def fX10_namer_7 (v0 : Nat) (h : aH) : Option (Int32 × aH) :=
  fX10_namer_9 (kI 1) v0 h
theorem tX10_namer_7 {d : Nat} {z : Int32 × aH} (v0 : Nat) (h : aH) (hf : fX10_namer_7 v0 h = some z) : Ev (d + 2) none mX10_namer (0, 0) 7 [.ref v0] [] h (QI z) := 
  go_ok (X := none) (blk := wX10_namer_7) (np := 9) (tt := 0) (kN := fun xs h st => app [0] (apS [1, 2] (fun s0 s1 => fX10_namer_9 s0 s1 h) st) xs) (kT := fun _ _ _ => none) (kR := kRI)
    (fun xs h st q => jm [0] _ (fun q => apS_ok [1, 2] _ (fun st => Ev (d + 2) none mX10_namer (0, 0) 9 [.null] st h (QI z)) st (fun s0 s1 q => tX10_namer_9 s0 s1 h q) q) q)
    (fun _ _ _ q => nos q)
    kRI_ok (Or.inr rfl) (by decide +kernel) (by decide +kernel) hf
def wX10_namer_4 : List En := [(.ifCond .eq 9, 13, 0, 0)]
def fX10_namer_4 (v0 : Nat) (s0 : Int32) (h : aH) : Option (Int32 × aH) :=
  if s0 = 0 then fX10_namer_13 v0 h else fX10_namer_7 v0 h
theorem tX10_namer_4 {d : Nat} {z : Int32 × aH} (v0 : Nat) (s0 : Int32) (h : aH) (hf : fX10_namer_4 v0 s0 h = some z) : Ev (d + 2) none mX10_namer (0, 0) 4 [.ref v0] [.int s0] h (QI z) := 
  go_ok (X := none) (blk := wX10_namer_4) (np := 7) (tt := 13) (kN := fun xs h st => app [2] (fun v0 => apS [] (fX10_namer_7 v0 h) st) xs) (kT := fun xs h st => app [2] (fun v0 => apS [] (fX10_namer_13 v0 h) st) xs) (kR := kRI)
    (fun xs h st q => jm [2] _ (fun v0 q => apS_ok [] _ (fun st => Ev (d + 2) none mX10_namer (0, 0) 7 [.ref v0] st h (QI z)) st (fun q => tX10_namer_7 v0 h q) q) q)
    (fun xs h st q => jm [2] _ (fun v0 q => apS_ok [] _ (fun st => Ev (d + 2) none mX10_namer (0, 0) 13 [.ref v0] st h (QI z)) st (fun q => tX10_namer_13 v0 h q) q) q)
    kRI_ok (Or.inr rfl) (by decide +kernel) (by decide +kernel) hf
theorem kqX10_namer_1 : okC mX10_namer 1 (.invokevirtual 159) 68 52 0 0 = true := by decide +kernel
def fX10_namer_1 (v0 : Nat) (s0 : Nat) (h : aH) : Option (Int32 × aH) :=
  (isO h 10 s0).bind fun _ =>
  (gX10_lacksTable s0 h).bind fun r =>
  fX10_namer_4 v0 r.1 r.2
theorem tX10_namer_1 {d : Nat} {z : Int32 × aH} (v0 : Nat) (s0 : Nat) (h : aH) (hf : fX10_namer_1 v0 s0 h = some z) : Ev (d + 2) none mX10_namer (0, 0) 1 [.ref v0] [.ref s0] h (QI z) := by
  obtain ⟨_, h1, hf⟩ := bnd hf
  obtain ⟨fs, ho⟩ := isO_ok h1
  obtain ⟨r, h2, hf⟩ := bnd hf
  refine ev_V kqX10_namer_1 jX10_lacksTable (zX10_lacksTable (d := d + 1) h2) ho rfl rfl (Nat.le_of_ble_eq_true rfl) rfl (as := []) (rest := []) rfl (Nat.le_of_ble_eq_true rfl) (fun _ _ hq => ?_)
  obtain ⟨-, rfl, rfl⟩ := hq
  exact jm [2] (fun v0 => fX10_namer_4 v0 r.1 r.2) (fun v0 q => tX10_namer_4 v0 r.1 r.2 q) hf
def wX10_namer_0 : List En := [(.aload_n 0, 0, 0, 0)]
def fX10_namer_0 (v0 : Nat) (h : aH) : Option (Int32 × aH) :=
  fX10_namer_1 v0 v0 h
theorem tX10_namer_0 {d : Nat} {z : Int32 × aH} (v0 : Nat) (h : aH) (hf : fX10_namer_0 v0 h = some z) : Ev (d + 2) none mX10_namer (0, 0) 0 [.ref v0] [] h (QI z) := 
  go_ok (X := none) (blk := wX10_namer_0) (np := 1) (tt := 0) (kN := fun xs h st => app [2] (fun v0 => apS [2] (fun s0 => fX10_namer_1 v0 s0 h) st) xs) (kT := fun _ _ _ => none) (kR := kRI)
    (fun xs h st q => jm [2] _ (fun v0 q => apS_ok [2] _ (fun st => Ev (d + 2) none mX10_namer (0, 0) 1 [.ref v0] st h (QI z)) st (fun s0 q => tX10_namer_1 v0 s0 h q) q) q)
    (fun _ _ _ q => nos q)
    kRI_ok (Or.inr rfl) (by decide +kernel) (by decide +kernel) hf
def gX10_namer (v0 : Nat) (h : aH) : Option (Int32 × aH) := fX10_namer_0 v0 h
theorem zX10_namer {d : Nat} {z : Int32 × aH} {v0 : Nat} {h : aH} (q : gX10_namer v0 h = some z) : CT (d + 2) mX10_namer (0, 0) [.ref v0] h (QI z) :=
  ct_ev (by decide +kernel) (Nat.le_of_ble_eq_true rfl) QI_r (jm [2] (fun v0 => fX10_namer_0 v0 h) (fun v0 q => tX10_namer_0 v0 h q) q)
def wX7_nextDish_26 : List En := [(.ireturn, 0, 0, 0)]
def fX7_nextDish_26 (s0 : Int32) (h : aH) : Option (Int32 × aH) :=
  some (s0, h)
theorem tX7_nextDish_26 {d : Nat} {z : Int32 × aH} (s0 : Int32) (h : aH) (hf : fX7_nextDish_26 s0 h = some z) : Ev (d + 2) none mX7_nextDish (0, 0) 26 [.null, .null, .null, .null] [.int s0] h (QI z) := 
  go_ok (X := none) (blk := wX7_nextDish_26) (np := 27) (tt := 0) (kN := fun _ _ _ => none) (kT := fun _ _ _ => none) (kR := kRI)
    (fun _ _ _ q => nos q)
    (fun _ _ _ q => nos q)
    kRI_ok (Or.inr rfl) (by decide +kernel) (by decide +kernel) hf
theorem kqX7_nextDish_23 : okC mX7_nextDish 23 (.invokevirtual 94) 73 65 0 1 = true := by decide +kernel
def fX7_nextDish_23 (s0 : Int32) (s1 : Nat) (h : aH) : Option (Int32 × aH) :=
  (isO h 9 s1).bind fun _ =>
  (gX9_nameSeen s1 s0 h).bind fun r =>
  fX7_nextDish_26 r.1 r.2
theorem tX7_nextDish_23 {d : Nat} {z : Int32 × aH} (s0 : Int32) (s1 : Nat) (h : aH) (hf : fX7_nextDish_23 s0 s1 h = some z) : Ev (d + 2) none mX7_nextDish (0, 0) 23 [.null, .null, .null, .null] [.int s0, .ref s1] h (QI z) := by
  obtain ⟨_, h1, hf⟩ := bnd hf
  obtain ⟨fs, ho⟩ := isO_ok h1
  obtain ⟨r, h2, hf⟩ := bnd hf
  refine ev_V kqX7_nextDish_23 jX9_nameSeen (zX9_nameSeen (d := d + 1) h2) ho rfl rfl (Nat.le_of_ble_eq_true rfl) rfl (as := [.int s0]) (rest := []) rfl (Nat.le_of_ble_eq_true rfl) (fun _ _ hq => ?_)
  obtain ⟨rfl, rfl⟩ := hq
  exact jm [0, 0, 0, 0] (fX7_nextDish_26 r.1 r.2) (fun q => tX7_nextDish_26 r.1 r.2 q) hf
theorem kqX7_nextDish_20 : okC mX7_nextDish 20 (.invokevirtual 86) 71 61 0 2 = true := by decide +kernel
def fX7_nextDish_20 (s0 : Int32) (s1 : Nat) (s2 : Nat) (s3 : Nat) (h : aH) : Option (Int32 × aH) :=
  (isO h 7 s2).bind fun _ =>
  (gX7_seenHunger s2 s1 s0 h).bind fun r =>
  fX7_nextDish_23 r.1 s3 r.2
theorem tX7_nextDish_20 {d : Nat} {z : Int32 × aH} (s0 : Int32) (s1 : Nat) (s2 : Nat) (s3 : Nat) (h : aH) (hf : fX7_nextDish_20 s0 s1 s2 s3 h = some z) : Ev (d + 2) none mX7_nextDish (0, 0) 20 [.null, .null, .null, .null] [.int s0, .ref s1, .ref s2, .ref s3] h (QI z) := by
  obtain ⟨_, h1, hf⟩ := bnd hf
  obtain ⟨fs, ho⟩ := isO_ok h1
  obtain ⟨r, h2, hf⟩ := bnd hf
  refine ev_V kqX7_nextDish_20 jX7_seenHunger (zX7_seenHunger (d := d + 1) h2) ho rfl rfl (Nat.le_of_ble_eq_true rfl) rfl (as := [.ref s1, .int s0]) (rest := [.ref s3]) rfl (Nat.le_of_ble_eq_true rfl) (fun _ _ hq => ?_)
  obtain ⟨rfl, rfl⟩ := hq
  exact jm [0, 0, 0, 0] (fX7_nextDish_23 r.1 s3 r.2) (fun q => tX7_nextDish_23 r.1 s3 r.2 q) hf
def wX7_nextDish_16 : List En := [(.aload_n 1, 0, 0, 0), (.aload_n 0, 0, 0, 0), (.aload_n 1, 0, 0, 0), (.iload_n 3, 0, 0, 0)]
def fX7_nextDish_16 (v0 : Nat) (v1 : Nat) (v3 : Int32) (h : aH) : Option (Int32 × aH) :=
  fX7_nextDish_20 v3 v1 v0 v1 h
theorem tX7_nextDish_16 {d : Nat} {z : Int32 × aH} (v0 : Nat) (v1 : Nat) (v3 : Int32) (h : aH) (hf : fX7_nextDish_16 v0 v1 v3 h = some z) : Ev (d + 2) none mX7_nextDish (0, 0) 16 [.ref v0, .ref v1, .null, .int v3] [] h (QI z) := 
  go_ok (X := none) (blk := wX7_nextDish_16) (np := 20) (tt := 0) (kN := fun xs h st => app [0, 0, 0, 0] (apS [1, 2, 2, 2] (fun s0 s1 s2 s3 => fX7_nextDish_20 s0 s1 s2 s3 h) st) xs) (kT := fun _ _ _ => none) (kR := kRI)
    (fun xs h st q => jm [0, 0, 0, 0] _ (fun q => apS_ok [1, 2, 2, 2] _ (fun st => Ev (d + 2) none mX7_nextDish (0, 0) 20 [.null, .null, .null, .null] st h (QI z)) st (fun s0 s1 s2 s3 q => tX7_nextDish_20 s0 s1 s2 s3 h q) q) q)
    (fun _ _ _ q => nos q)
    kRI_ok (Or.inr rfl) (by decide +kernel) (by decide +kernel) hf
def wX7_nextDish_11 : List En := [(.bipush (-2), 0, 0, 0), (.goto 13, 26, 0, 0)]
def fX7_nextDish_11 (h : aH) : Option (Int32 × aH) :=
  fX7_nextDish_26 (kB (-2)) h
theorem tX7_nextDish_11 {d : Nat} {z : Int32 × aH} (h : aH) (hf : fX7_nextDish_11 h = some z) : Ev (d + 2) none mX7_nextDish (0, 0) 11 [.null, .null, .null, .null] [] h (QI z) := 
  go_ok (X := none) (blk := wX7_nextDish_11) (np := 16) (tt := 26) (kN := fun _ _ _ => none) (kT := fun xs h st => app [0, 0, 0, 0] (apS [1] (fun s0 => fX7_nextDish_26 s0 h) st) xs) (kR := kRI)
    (fun _ _ _ q => nos q)
    (fun xs h st q => jm [0, 0, 0, 0] _ (fun q => apS_ok [1] _ (fun st => Ev (d + 2) none mX7_nextDish (0, 0) 26 [.null, .null, .null, .null] st h (QI z)) st (fun s0 q => tX7_nextDish_26 s0 h q) q) q)
    kRI_ok (Or.inr rfl) (by decide +kernel) (by decide +kernel) hf
def wX7_nextDish_6 : List En := [(.istore_n 3, 0, 0, 0), (.iload_n 3, 0, 0, 0), (.ifCond .ge 8, 16, 0, 0)]
def fX7_nextDish_6 (v0 : Nat) (v1 : Nat) (s0 : Int32) (h : aH) : Option (Int32 × aH) :=
  if s0 < 0 then fX7_nextDish_11 h else fX7_nextDish_16 v0 v1 s0 h
theorem tX7_nextDish_6 {d : Nat} {z : Int32 × aH} (v0 : Nat) (v1 : Nat) (s0 : Int32) (h : aH) (hf : fX7_nextDish_6 v0 v1 s0 h = some z) : Ev (d + 2) none mX7_nextDish (0, 0) 6 [.ref v0, .ref v1, .null, .null] [.int s0] h (QI z) := 
  go_ok (X := none) (blk := wX7_nextDish_6) (np := 11) (tt := 16) (kN := fun xs h st => app [0, 0, 0, 0] (apS [] (fX7_nextDish_11 h) st) xs) (kT := fun xs h st => app [2, 2, 0, 1] (fun v0 v1 v3 => apS [] (fX7_nextDish_16 v0 v1 v3 h) st) xs) (kR := kRI)
    (fun xs h st q => jm [0, 0, 0, 0] _ (fun q => apS_ok [] _ (fun st => Ev (d + 2) none mX7_nextDish (0, 0) 11 [.null, .null, .null, .null] st h (QI z)) st (fun q => tX7_nextDish_11 h q) q) q)
    (fun xs h st q => jm [2, 2, 0, 1] _ (fun v0 v1 v3 q => apS_ok [] _ (fun st => Ev (d + 2) none mX7_nextDish (0, 0) 16 [.ref v0, .ref v1, .null, .int v3] st h (QI z)) st (fun q => tX7_nextDish_16 v0 v1 v3 h q) q) q)
    kRI_ok (Or.inr rfl) (by decide +kernel) (by decide +kernel) hf
theorem kqX7_nextDish_3 : okC mX7_nextDish 3 (.invokevirtual 90) 75 64 0 2 = true := by decide +kernel
def fX7_nextDish_3 (v0 : Nat) (v1 : Nat) (s0 : Int32) (s1 : Nat) (s2 : Nat) (h : aH) : Option (Int32 × aH) :=
  (isO h 7 s2).bind fun _ =>
  (gX7_whoNames s2 s1 s0 h).bind fun r =>
  fX7_nextDish_6 v0 v1 r.1 r.2
theorem tX7_nextDish_3 {d : Nat} {z : Int32 × aH} (v0 : Nat) (v1 : Nat) (s0 : Int32) (s1 : Nat) (s2 : Nat) (h : aH) (hf : fX7_nextDish_3 v0 v1 s0 s1 s2 h = some z) : Ev (d + 2) none mX7_nextDish (0, 0) 3 [.ref v0, .ref v1, .null, .null] [.int s0, .ref s1, .ref s2] h (QI z) := by
  obtain ⟨_, h1, hf⟩ := bnd hf
  obtain ⟨fs, ho⟩ := isO_ok h1
  obtain ⟨r, h2, hf⟩ := bnd hf
  refine ev_V kqX7_nextDish_3 jX7_whoNames (zX7_whoNames (d := d + 0) h2) ho rfl rfl (Nat.le_of_ble_eq_true rfl) rfl (as := [.ref s1, .int s0]) (rest := []) rfl (Nat.le_of_ble_eq_true rfl) (fun _ _ hq => ?_)
  obtain ⟨rfl, rfl⟩ := hq
  exact jm [2, 2, 0, 0] (fun v0 v1 => fX7_nextDish_6 v0 v1 r.1 r.2) (fun v0 v1 q => tX7_nextDish_6 v0 v1 r.1 r.2 q) hf
def wX7_nextDish_0 : List En := [(.aload_n 0, 0, 0, 0), (.aload_n 1, 0, 0, 0), (.iload_n 2, 0, 0, 0)]
def fX7_nextDish_0 (v0 : Nat) (v1 : Nat) (v2 : Int32) (h : aH) : Option (Int32 × aH) :=
  fX7_nextDish_3 v0 v1 v2 v1 v0 h
theorem tX7_nextDish_0 {d : Nat} {z : Int32 × aH} (v0 : Nat) (v1 : Nat) (v2 : Int32) (h : aH) (hf : fX7_nextDish_0 v0 v1 v2 h = some z) : Ev (d + 2) none mX7_nextDish (0, 0) 0 [.ref v0, .ref v1, .int v2, .null] [] h (QI z) := 
  go_ok (X := none) (blk := wX7_nextDish_0) (np := 3) (tt := 0) (kN := fun xs h st => app [2, 2, 0, 0] (fun v0 v1 => apS [1, 2, 2] (fun s0 s1 s2 => fX7_nextDish_3 v0 v1 s0 s1 s2 h) st) xs) (kT := fun _ _ _ => none) (kR := kRI)
    (fun xs h st q => jm [2, 2, 0, 0] _ (fun v0 v1 q => apS_ok [1, 2, 2] _ (fun st => Ev (d + 2) none mX7_nextDish (0, 0) 3 [.ref v0, .ref v1, .null, .null] st h (QI z)) st (fun s0 s1 s2 q => tX7_nextDish_3 v0 v1 s0 s1 s2 h q) q) q)
    (fun _ _ _ q => nos q)
    kRI_ok (Or.inr rfl) (by decide +kernel) (by decide +kernel) hf
def gX7_nextDish (v0 : Nat) (v1 : Nat) (v2 : Int32) (h : aH) : Option (Int32 × aH) := fX7_nextDish_0 v0 v1 v2 h
theorem zX7_nextDish {d : Nat} {z : Int32 × aH} {v0 : Nat} {v1 : Nat} {v2 : Int32} {h : aH} (q : gX7_nextDish v0 v1 v2 h = some z) : CT (d + 2) mX7_nextDish (0, 0) [.ref v0, .ref v1, .int v2] h (QI z) :=
  ct_ev (by decide +kernel) (Nat.le_of_ble_eq_true rfl) QI_r (jm [2, 2, 1, 0] (fun v0 v1 v2 => fX7_nextDish_0 v0 v1 v2 h) (fun v0 v1 v2 q => tX7_nextDish_0 v0 v1 v2 h q) q)
def wX10_dish_29 : List En := [(.ireturn, 0, 0, 0)]
def fX10_dish_29 (s0 : Int32) (h : aH) : Option (Int32 × aH) :=
  some (s0, h)
theorem tX10_dish_29 {d : Nat} {z : Int32 × aH} (s0 : Int32) (h : aH) (hf : fX10_dish_29 s0 h = some z) : Ev (d + 3) none mX10_dish (0, 0) 29 [.null] [.int s0] h (QI z) := 
  go_ok (X := none) (blk := wX10_dish_29) (np := 30) (tt := 0) (kN := fun _ _ _ => none) (kT := fun _ _ _ => none) (kR := kRI)
    (fun _ _ _ q => nos q)
    (fun _ _ _ q => nos q)
    kRI_ok (Or.inr rfl) (by decide +kernel) (by decide +kernel) hf
theorem kqX10_dish_26 : okC mX10_dish 26 (.invokevirtual 119) 60 44 0 1 = true := by decide +kernel
def fX10_dish_26 (s0 : Int32) (s1 : Nat) (h : aH) : Option (Int32 × aH) :=
  (isO h 10 s1).bind fun _ =>
  (gX10_answer s1 s0 h).bind fun r =>
  fX10_dish_29 r.1 r.2
theorem tX10_dish_26 {d : Nat} {z : Int32 × aH} (s0 : Int32) (s1 : Nat) (h : aH) (hf : fX10_dish_26 s0 s1 h = some z) : Ev (d + 3) none mX10_dish (0, 0) 26 [.null] [.int s0, .ref s1] h (QI z) := by
  obtain ⟨_, h1, hf⟩ := bnd hf
  obtain ⟨fs, ho⟩ := isO_ok h1
  obtain ⟨r, h2, hf⟩ := bnd hf
  refine ev_V kqX10_dish_26 jX10_answer (zX10_answer (d := d + 2) h2) ho rfl rfl (Nat.le_of_ble_eq_true rfl) rfl (as := [.int s0]) (rest := []) rfl (Nat.le_of_ble_eq_true rfl) (fun _ _ hq => ?_)
  obtain ⟨rfl, rfl⟩ := hq
  exact jm [0] (fX10_dish_29 r.1 r.2) (fun q => tX10_dish_29 r.1 r.2 q) hf
theorem kqX10_dish_23 : okC mX10_dish 23 (.invokevirtual 180) 77 63 0 2 = true := by decide +kernel
def fX10_dish_23 (s0 : Int32) (s1 : Nat) (s2 : Nat) (s3 : Nat) (h : aH) : Option (Int32 × aH) :=
  (isO h 7 s2).bind fun _ =>
  (gX7_nextDish s2 s1 s0 h).bind fun r =>
  fX10_dish_26 r.1 s3 r.2
theorem tX10_dish_23 {d : Nat} {z : Int32 × aH} (s0 : Int32) (s1 : Nat) (s2 : Nat) (s3 : Nat) (h : aH) (hf : fX10_dish_23 s0 s1 s2 s3 h = some z) : Ev (d + 3) none mX10_dish (0, 0) 23 [.null] [.int s0, .ref s1, .ref s2, .ref s3] h (QI z) := by
  obtain ⟨_, h1, hf⟩ := bnd hf
  obtain ⟨fs, ho⟩ := isO_ok h1
  obtain ⟨r, h2, hf⟩ := bnd hf
  refine ev_V kqX10_dish_23 jX7_nextDish (zX7_nextDish (d := d + 0) h2) ho rfl rfl (Nat.le_of_ble_eq_true rfl) rfl (as := [.ref s1, .int s0]) (rest := [.ref s3]) rfl (Nat.le_of_ble_eq_true rfl) (fun _ _ hq => ?_)
  obtain ⟨rfl, rfl⟩ := hq
  exact jm [0] (fX10_dish_26 r.1 s3 r.2) (fun q => tX10_dish_26 r.1 s3 r.2 q) hf
def wX10_dish_13 : List En := [(.aload_n 0, 0, 0, 0), (.aload_n 0, 0, 0, 0), (.getfield 68, 170, 10, 8), (.aload_n 0, 0, 0, 0), (.getfield 75, 171, 10, 9), (.iconst 0, 0, 0, 0)]
def fX10_dish_13 (v0 : Nat) (h : aH) : Option (Int32 × aH) :=
  (gFR h 10 v0 8).bind fun t1 =>
  (gFR h 10 v0 9).bind fun t2 =>
  fX10_dish_23 (kI 0) t2 t1 v0 h
theorem tX10_dish_13 {d : Nat} {z : Int32 × aH} (v0 : Nat) (h : aH) (hf : fX10_dish_13 v0 h = some z) : Ev (d + 3) none mX10_dish (0, 0) 13 [.ref v0] [] h (QI z) := 
  go_ok (X := none) (blk := wX10_dish_13) (np := 23) (tt := 0) (kN := fun xs h st => app [0] (apS [1, 2, 2, 2] (fun s0 s1 s2 s3 => fX10_dish_23 s0 s1 s2 s3 h) st) xs) (kT := fun _ _ _ => none) (kR := kRI)
    (fun xs h st q => jm [0] _ (fun q => apS_ok [1, 2, 2, 2] _ (fun st => Ev (d + 3) none mX10_dish (0, 0) 23 [.null] st h (QI z)) st (fun s0 s1 s2 s3 q => tX10_dish_23 s0 s1 s2 s3 h q) q) q)
    (fun _ _ _ q => nos q)
    kRI_ok (Or.inr rfl) (by decide +kernel) (by decide +kernel) hf
def wX10_dish_12 : List En := [(.ireturn, 0, 0, 0)]
def fX10_dish_12 (s0 : Int32) (h : aH) : Option (Int32 × aH) :=
  some (s0, h)
theorem tX10_dish_12 {d : Nat} {z : Int32 × aH} (s0 : Int32) (h : aH) (hf : fX10_dish_12 s0 h = some z) : Ev (d + 3) none mX10_dish (0, 0) 12 [.null] [.int s0] h (QI z) := 
  go_ok (X := none) (blk := wX10_dish_12) (np := 13) (tt := 0) (kN := fun _ _ _ => none) (kT := fun _ _ _ => none) (kR := kRI)
    (fun _ _ _ q => nos q)
    (fun _ _ _ q => nos q)
    kRI_ok (Or.inr rfl) (by decide +kernel) (by decide +kernel) hf
theorem kqX10_dish_9 : okC mX10_dish 9 (.invokevirtual 94) 15 8 0 1 = true := by decide +kernel
def fX10_dish_9 (s0 : Int32) (s1 : Nat) (h : aH) : Option (Int32 × aH) :=
  (isO h 10 s1).bind fun _ =>
  (gX10_refuse s1 s0 h).bind fun r =>
  fX10_dish_12 r.1 r.2
theorem tX10_dish_9 {d : Nat} {z : Int32 × aH} (s0 : Int32) (s1 : Nat) (h : aH) (hf : fX10_dish_9 s0 s1 h = some z) : Ev (d + 3) none mX10_dish (0, 0) 9 [.null] [.int s0, .ref s1] h (QI z) := by
  obtain ⟨_, h1, hf⟩ := bnd hf
  obtain ⟨fs, ho⟩ := isO_ok h1
  obtain ⟨r, h2, hf⟩ := bnd hf
  refine ev_V kqX10_dish_9 jX10_refuse (zX10_refuse (d := d + 2) h2) ho rfl rfl (Nat.le_of_ble_eq_true rfl) rfl (as := [.int s0]) (rest := []) rfl (Nat.le_of_ble_eq_true rfl) (fun _ _ hq => ?_)
  obtain ⟨rfl, rfl⟩ := hq
  exact jm [0] (fX10_dish_12 r.1 r.2) (fun q => tX10_dish_12 r.1 r.2 q) hf
def wX10_dish_7 : List En := [(.aload_n 0, 0, 0, 0), (.iconst 1, 0, 0, 0)]
def fX10_dish_7 (v0 : Nat) (h : aH) : Option (Int32 × aH) :=
  fX10_dish_9 (kI 1) v0 h
theorem tX10_dish_7 {d : Nat} {z : Int32 × aH} (v0 : Nat) (h : aH) (hf : fX10_dish_7 v0 h = some z) : Ev (d + 3) none mX10_dish (0, 0) 7 [.ref v0] [] h (QI z) := 
  go_ok (X := none) (blk := wX10_dish_7) (np := 9) (tt := 0) (kN := fun xs h st => app [0] (apS [1, 2] (fun s0 s1 => fX10_dish_9 s0 s1 h) st) xs) (kT := fun _ _ _ => none) (kR := kRI)
    (fun xs h st q => jm [0] _ (fun q => apS_ok [1, 2] _ (fun st => Ev (d + 3) none mX10_dish (0, 0) 9 [.null] st h (QI z)) st (fun s0 s1 q => tX10_dish_9 s0 s1 h q) q) q)
    (fun _ _ _ q => nos q)
    kRI_ok (Or.inr rfl) (by decide +kernel) (by decide +kernel) hf
def wX10_dish_4 : List En := [(.ifCond .eq 9, 13, 0, 0)]
def fX10_dish_4 (v0 : Nat) (s0 : Int32) (h : aH) : Option (Int32 × aH) :=
  if s0 = 0 then fX10_dish_13 v0 h else fX10_dish_7 v0 h
theorem tX10_dish_4 {d : Nat} {z : Int32 × aH} (v0 : Nat) (s0 : Int32) (h : aH) (hf : fX10_dish_4 v0 s0 h = some z) : Ev (d + 3) none mX10_dish (0, 0) 4 [.ref v0] [.int s0] h (QI z) := 
  go_ok (X := none) (blk := wX10_dish_4) (np := 7) (tt := 13) (kN := fun xs h st => app [2] (fun v0 => apS [] (fX10_dish_7 v0 h) st) xs) (kT := fun xs h st => app [2] (fun v0 => apS [] (fX10_dish_13 v0 h) st) xs) (kR := kRI)
    (fun xs h st q => jm [2] _ (fun v0 q => apS_ok [] _ (fun st => Ev (d + 3) none mX10_dish (0, 0) 7 [.ref v0] st h (QI z)) st (fun q => tX10_dish_7 v0 h q) q) q)
    (fun xs h st q => jm [2] _ (fun v0 q => apS_ok [] _ (fun st => Ev (d + 3) none mX10_dish (0, 0) 13 [.ref v0] st h (QI z)) st (fun q => tX10_dish_13 v0 h q) q) q)
    kRI_ok (Or.inr rfl) (by decide +kernel) (by decide +kernel) hf
theorem kqX10_dish_1 : okC mX10_dish 1 (.invokevirtual 159) 68 52 0 0 = true := by decide +kernel
def fX10_dish_1 (v0 : Nat) (s0 : Nat) (h : aH) : Option (Int32 × aH) :=
  (isO h 10 s0).bind fun _ =>
  (gX10_lacksTable s0 h).bind fun r =>
  fX10_dish_4 v0 r.1 r.2
theorem tX10_dish_1 {d : Nat} {z : Int32 × aH} (v0 : Nat) (s0 : Nat) (h : aH) (hf : fX10_dish_1 v0 s0 h = some z) : Ev (d + 3) none mX10_dish (0, 0) 1 [.ref v0] [.ref s0] h (QI z) := by
  obtain ⟨_, h1, hf⟩ := bnd hf
  obtain ⟨fs, ho⟩ := isO_ok h1
  obtain ⟨r, h2, hf⟩ := bnd hf
  refine ev_V kqX10_dish_1 jX10_lacksTable (zX10_lacksTable (d := d + 2) h2) ho rfl rfl (Nat.le_of_ble_eq_true rfl) rfl (as := []) (rest := []) rfl (Nat.le_of_ble_eq_true rfl) (fun _ _ hq => ?_)
  obtain ⟨-, rfl, rfl⟩ := hq
  exact jm [2] (fun v0 => fX10_dish_4 v0 r.1 r.2) (fun v0 q => tX10_dish_4 v0 r.1 r.2 q) hf
def wX10_dish_0 : List En := [(.aload_n 0, 0, 0, 0)]
def fX10_dish_0 (v0 : Nat) (h : aH) : Option (Int32 × aH) :=
  fX10_dish_1 v0 v0 h
theorem tX10_dish_0 {d : Nat} {z : Int32 × aH} (v0 : Nat) (h : aH) (hf : fX10_dish_0 v0 h = some z) : Ev (d + 3) none mX10_dish (0, 0) 0 [.ref v0] [] h (QI z) := 
  go_ok (X := none) (blk := wX10_dish_0) (np := 1) (tt := 0) (kN := fun xs h st => app [2] (fun v0 => apS [2] (fun s0 => fX10_dish_1 v0 s0 h) st) xs) (kT := fun _ _ _ => none) (kR := kRI)
    (fun xs h st q => jm [2] _ (fun v0 q => apS_ok [2] _ (fun st => Ev (d + 3) none mX10_dish (0, 0) 1 [.ref v0] st h (QI z)) st (fun s0 q => tX10_dish_1 v0 s0 h q) q) q)
    (fun _ _ _ q => nos q)
    kRI_ok (Or.inr rfl) (by decide +kernel) (by decide +kernel) hf
def gX10_dish (v0 : Nat) (h : aH) : Option (Int32 × aH) := fX10_dish_0 v0 h
theorem zX10_dish {d : Nat} {z : Int32 × aH} {v0 : Nat} {h : aH} (q : gX10_dish v0 h = some z) : CT (d + 3) mX10_dish (0, 0) [.ref v0] h (QI z) :=
  ct_ev (by decide +kernel) (Nat.le_of_ble_eq_true rfl) QI_r (jm [2] (fun v0 => fX10_dish_0 v0 h) (fun v0 q => tX10_dish_0 v0 h q) q)
def wX6_seat_98 : List En := [(.iload 4, 0, 0, 0), (.ireturn, 0, 0, 0)]
def fX6_seat_98 (v4 : Int32) (h : aH) : Option (Int32 × aH) :=
  some (v4, h)
theorem tX6_seat_98 {d : Nat} {z : Int32 × aH} (v4 : Int32) (h : aH) (hf : fX6_seat_98 v4 h = some z) : Ev (d + 0) none mX6_seat (0, 0) 98 [.null, .null, .null, .null, .int v4, .null, .null] [] h (QI z) := 
  go_ok (X := none) (blk := wX6_seat_98) (np := 101) (tt := 0) (kN := fun _ _ _ => none) (kT := fun _ _ _ => none) (kR := kRI)
    (fun _ _ _ q => nos q)
    (fun _ _ _ q => nos q)
    kRI_ok (Or.inr rfl) (by decide +kernel) (by decide +kernel) hf
def wX6_seat_92 : List En := [(.iinc 5 1, 0, 0, 0), (.goto (-89), 6, 0, 0)]
def fX6_seat_92 (k6 : Nat → Nat → Nat → Int32 → Int32 → Int32 → aH → Option (Int32 × aH)) (v0 : Nat) (v1 : Nat) (v2 : Nat) (v3 : Int32) (v4 : Int32) (v5 : Int32) (h : aH) : Option (Int32 × aH) :=
  k6 v0 v1 v2 v3 v4 (v5 + kI 1) h
theorem tX6_seat_92 {d : Nat} {z : Int32 × aH} {k6 : Nat → Nat → Nat → Int32 → Int32 → Int32 → aH → Option (Int32 × aH)} (hk6 : ∀ (v0 : Nat) (v1 : Nat) (v2 : Nat) (v3 : Int32) (v4 : Int32) (v5 : Int32) (h : aH), k6 v0 v1 v2 v3 v4 v5 h = some z → Ev (d + 0) none mX6_seat (0, 0) 6 [.ref v0, .ref v1, .ref v2, .int v3, .int v4, .int v5, .null] [] h (QI z)) (v0 : Nat) (v1 : Nat) (v2 : Nat) (v3 : Int32) (v4 : Int32) (v5 : Int32) (h : aH) (hf : fX6_seat_92 k6 v0 v1 v2 v3 v4 v5 h = some z) : Ev (d + 0) none mX6_seat (0, 0) 92 [.ref v0, .ref v1, .ref v2, .int v3, .int v4, .int v5, .null] [] h (QI z) := 
  go_ok (X := none) (blk := wX6_seat_92) (np := 98) (tt := 6) (kN := fun _ _ _ => none) (kT := fun xs h st => app [2, 2, 2, 1, 1, 1, 0] (fun v0 v1 v2 v3 v4 v5 => apS [] (k6 v0 v1 v2 v3 v4 v5 h) st) xs) (kR := kRI)
    (fun _ _ _ q => nos q)
    (fun xs h st q => jm [2, 2, 2, 1, 1, 1, 0] _ (fun v0 v1 v2 v3 v4 v5 q => apS_ok [] _ (fun st => Ev (d + 0) none mX6_seat (0, 0) 6 [.ref v0, .ref v1, .ref v2, .int v3, .int v4, .int v5, .null] st h (QI z)) st (fun q => hk6 v0 v1 v2 v3 v4 v5 h q) q) q)
    kRI_ok (Or.inr rfl) (by decide +kernel) (by decide +kernel) hf
def wX6_seat_80 : List En := [(.aload_n 0, 0, 0, 0), (.getfield 22, 46, 6, 3), (.iload 6, 0, 0, 0), (.iload 5, 0, 0, 0), (.iastore, 0, 0, 0), (.iinc 4 1, 0, 0, 0)]
def fX6_seat_80 (k6 : Nat → Nat → Nat → Int32 → Int32 → Int32 → aH → Option (Int32 × aH)) (v0 : Nat) (v1 : Nat) (v2 : Nat) (v3 : Int32) (v4 : Int32) (v5 : Int32) (v6 : Int32) (h : aH) : Option (Int32 × aH) :=
  (gFR h 6 v0 3).bind fun t1 =>
  (aWI h t1 v6 v5).bind fun h2 =>
  fX6_seat_92 k6 v0 v1 v2 v3 (v4 + kI 1) v5 h2
theorem tX6_seat_80 {d : Nat} {z : Int32 × aH} {k6 : Nat → Nat → Nat → Int32 → Int32 → Int32 → aH → Option (Int32 × aH)} (hk6 : ∀ (v0 : Nat) (v1 : Nat) (v2 : Nat) (v3 : Int32) (v4 : Int32) (v5 : Int32) (h : aH), k6 v0 v1 v2 v3 v4 v5 h = some z → Ev (d + 0) none mX6_seat (0, 0) 6 [.ref v0, .ref v1, .ref v2, .int v3, .int v4, .int v5, .null] [] h (QI z)) (v0 : Nat) (v1 : Nat) (v2 : Nat) (v3 : Int32) (v4 : Int32) (v5 : Int32) (v6 : Int32) (h : aH) (hf : fX6_seat_80 k6 v0 v1 v2 v3 v4 v5 v6 h = some z) : Ev (d + 0) none mX6_seat (0, 0) 80 [.ref v0, .ref v1, .ref v2, .int v3, .int v4, .int v5, .int v6] [] h (QI z) := 
  go_ok (X := none) (blk := wX6_seat_80) (np := 92) (tt := 0) (kN := fun xs h st => app [2, 2, 2, 1, 1, 1, 0] (fun v0 v1 v2 v3 v4 v5 => apS [] (fX6_seat_92 k6 v0 v1 v2 v3 v4 v5 h) st) xs) (kT := fun _ _ _ => none) (kR := kRI)
    (fun xs h st q => jm [2, 2, 2, 1, 1, 1, 0] _ (fun v0 v1 v2 v3 v4 v5 q => apS_ok [] _ (fun st => Ev (d + 0) none mX6_seat (0, 0) 92 [.ref v0, .ref v1, .ref v2, .int v3, .int v4, .int v5, .null] st h (QI z)) st (fun q => tX6_seat_92 hk6 v0 v1 v2 v3 v4 v5 h q) q) q)
    (fun _ _ _ q => nos q)
    kRI_ok (Or.inr rfl) (by decide +kernel) (by decide +kernel) hf
def wX6_seat_58 : List En := [(.aload_n 0, 0, 0, 0), (.getfield 22, 46, 6, 3), (.iload 6, 0, 0, 0), (.aload_n 0, 0, 0, 0), (.getfield 22, 46, 6, 3), (.iload 6, 0, 0, 0), (.iconst 1, 0, 0, 0), (.isub, 0, 0, 0), (.iaload, 0, 0, 0), (.iastore, 0, 0, 0), (.iinc 6 (-1), 0, 0, 0), (.goto (-48), 29, 0, 0)]
def fX6_seat_58 (k6 : Nat → Nat → Nat → Int32 → Int32 → Int32 → aH → Option (Int32 × aH)) (k29 : Nat → Nat → Nat → Int32 → Int32 → Int32 → Int32 → aH → Option (Int32 × aH)) (v0 : Nat) (v1 : Nat) (v2 : Nat) (v3 : Int32) (v4 : Int32) (v5 : Int32) (v6 : Int32) (h : aH) : Option (Int32 × aH) :=
  (gFR h 6 v0 3).bind fun t1 =>
  (gFR h 6 v0 3).bind fun t2 =>
  (aRI (h[t2]?) (v6 - (kI 1))).bind fun t3 =>
  (aWI h t1 v6 t3).bind fun h4 =>
  k29 v0 v1 v2 v3 v4 v5 (v6 + kI (-1)) h4
theorem tX6_seat_58 {d : Nat} {z : Int32 × aH} {k6 : Nat → Nat → Nat → Int32 → Int32 → Int32 → aH → Option (Int32 × aH)} {k29 : Nat → Nat → Nat → Int32 → Int32 → Int32 → Int32 → aH → Option (Int32 × aH)} (hk6 : ∀ (v0 : Nat) (v1 : Nat) (v2 : Nat) (v3 : Int32) (v4 : Int32) (v5 : Int32) (h : aH), k6 v0 v1 v2 v3 v4 v5 h = some z → Ev (d + 0) none mX6_seat (0, 0) 6 [.ref v0, .ref v1, .ref v2, .int v3, .int v4, .int v5, .null] [] h (QI z)) (hk29 : ∀ (v0 : Nat) (v1 : Nat) (v2 : Nat) (v3 : Int32) (v4 : Int32) (v5 : Int32) (v6 : Int32) (h : aH), k29 v0 v1 v2 v3 v4 v5 v6 h = some z → Ev (d + 0) none mX6_seat (0, 0) 29 [.ref v0, .ref v1, .ref v2, .int v3, .int v4, .int v5, .int v6] [] h (QI z)) (v0 : Nat) (v1 : Nat) (v2 : Nat) (v3 : Int32) (v4 : Int32) (v5 : Int32) (v6 : Int32) (h : aH) (hf : fX6_seat_58 k6 k29 v0 v1 v2 v3 v4 v5 v6 h = some z) : Ev (d + 0) none mX6_seat (0, 0) 58 [.ref v0, .ref v1, .ref v2, .int v3, .int v4, .int v5, .int v6] [] h (QI z) := 
  go_ok (X := none) (blk := wX6_seat_58) (np := 80) (tt := 29) (kN := fun _ _ _ => none) (kT := fun xs h st => app [2, 2, 2, 1, 1, 1, 1] (fun v0 v1 v2 v3 v4 v5 v6 => apS [] (k29 v0 v1 v2 v3 v4 v5 v6 h) st) xs) (kR := kRI)
    (fun _ _ _ q => nos q)
    (fun xs h st q => jm [2, 2, 2, 1, 1, 1, 1] _ (fun v0 v1 v2 v3 v4 v5 v6 q => apS_ok [] _ (fun st => Ev (d + 0) none mX6_seat (0, 0) 29 [.ref v0, .ref v1, .ref v2, .int v3, .int v4, .int v5, .int v6] st h (QI z)) st (fun q => hk29 v0 v1 v2 v3 v4 v5 v6 h q) q) q)
    kRI_ok (Or.inr rfl) (by decide +kernel) (by decide +kernel) hf
def wX6_seat_34 : List En := [(.aload_n 2, 0, 0, 0), (.getfield 76, 19, 7, 0), (.aload_n 0, 0, 0, 0), (.getfield 22, 46, 6, 3), (.iload 6, 0, 0, 0), (.iconst 1, 0, 0, 0), (.isub, 0, 0, 0), (.iaload, 0, 0, 0), (.iaload, 0, 0, 0), (.aload_n 2, 0, 0, 0), (.getfield 76, 19, 7, 0), (.iload 5, 0, 0, 0), (.iaload, 0, 0, 0), (.if_icmp .ge 25, 80, 0, 0)]
def fX6_seat_34 (k6 : Nat → Nat → Nat → Int32 → Int32 → Int32 → aH → Option (Int32 × aH)) (k29 : Nat → Nat → Nat → Int32 → Int32 → Int32 → Int32 → aH → Option (Int32 × aH)) (v0 : Nat) (v1 : Nat) (v2 : Nat) (v3 : Int32) (v4 : Int32) (v5 : Int32) (v6 : Int32) (h : aH) : Option (Int32 × aH) :=
  (gFR h 7 v2 0).bind fun t1 =>
  (gFR h 6 v0 3).bind fun t2 =>
  (aRI (h[t2]?) (v6 - (kI 1))).bind fun t3 =>
  (aRI (h[t1]?) t3).bind fun t4 =>
  (gFR h 7 v2 0).bind fun t5 =>
  (aRI (h[t5]?) v5).bind fun t6 =>
  if t4 < t6 then fX6_seat_58 k6 k29 v0 v1 v2 v3 v4 v5 v6 h else fX6_seat_80 k6 v0 v1 v2 v3 v4 v5 v6 h
theorem tX6_seat_34 {d : Nat} {z : Int32 × aH} {k6 : Nat → Nat → Nat → Int32 → Int32 → Int32 → aH → Option (Int32 × aH)} {k29 : Nat → Nat → Nat → Int32 → Int32 → Int32 → Int32 → aH → Option (Int32 × aH)} (hk6 : ∀ (v0 : Nat) (v1 : Nat) (v2 : Nat) (v3 : Int32) (v4 : Int32) (v5 : Int32) (h : aH), k6 v0 v1 v2 v3 v4 v5 h = some z → Ev (d + 0) none mX6_seat (0, 0) 6 [.ref v0, .ref v1, .ref v2, .int v3, .int v4, .int v5, .null] [] h (QI z)) (hk29 : ∀ (v0 : Nat) (v1 : Nat) (v2 : Nat) (v3 : Int32) (v4 : Int32) (v5 : Int32) (v6 : Int32) (h : aH), k29 v0 v1 v2 v3 v4 v5 v6 h = some z → Ev (d + 0) none mX6_seat (0, 0) 29 [.ref v0, .ref v1, .ref v2, .int v3, .int v4, .int v5, .int v6] [] h (QI z)) (v0 : Nat) (v1 : Nat) (v2 : Nat) (v3 : Int32) (v4 : Int32) (v5 : Int32) (v6 : Int32) (h : aH) (hf : fX6_seat_34 k6 k29 v0 v1 v2 v3 v4 v5 v6 h = some z) : Ev (d + 0) none mX6_seat (0, 0) 34 [.ref v0, .ref v1, .ref v2, .int v3, .int v4, .int v5, .int v6] [] h (QI z) := 
  go_ok (X := none) (blk := wX6_seat_34) (np := 58) (tt := 80) (kN := fun xs h st => app [2, 2, 2, 1, 1, 1, 1] (fun v0 v1 v2 v3 v4 v5 v6 => apS [] (fX6_seat_58 k6 k29 v0 v1 v2 v3 v4 v5 v6 h) st) xs) (kT := fun xs h st => app [2, 2, 2, 1, 1, 1, 1] (fun v0 v1 v2 v3 v4 v5 v6 => apS [] (fX6_seat_80 k6 v0 v1 v2 v3 v4 v5 v6 h) st) xs) (kR := kRI)
    (fun xs h st q => jm [2, 2, 2, 1, 1, 1, 1] _ (fun v0 v1 v2 v3 v4 v5 v6 q => apS_ok [] _ (fun st => Ev (d + 0) none mX6_seat (0, 0) 58 [.ref v0, .ref v1, .ref v2, .int v3, .int v4, .int v5, .int v6] st h (QI z)) st (fun q => tX6_seat_58 hk6 hk29 v0 v1 v2 v3 v4 v5 v6 h q) q) q)
    (fun xs h st q => jm [2, 2, 2, 1, 1, 1, 1] _ (fun v0 v1 v2 v3 v4 v5 v6 q => apS_ok [] _ (fun st => Ev (d + 0) none mX6_seat (0, 0) 80 [.ref v0, .ref v1, .ref v2, .int v3, .int v4, .int v5, .int v6] st h (QI z)) st (fun q => tX6_seat_80 hk6 v0 v1 v2 v3 v4 v5 v6 h q) q) q)
    kRI_ok (Or.inr rfl) (by decide +kernel) (by decide +kernel) hf
def wX6_seat_29 : List En := [(.iload 6, 0, 0, 0), (.ifCond .le 49, 80, 0, 0)]
def fX6_seat_29 (k6 : Nat → Nat → Nat → Int32 → Int32 → Int32 → aH → Option (Int32 × aH)) (k29 : Nat → Nat → Nat → Int32 → Int32 → Int32 → Int32 → aH → Option (Int32 × aH)) (v0 : Nat) (v1 : Nat) (v2 : Nat) (v3 : Int32) (v4 : Int32) (v5 : Int32) (v6 : Int32) (h : aH) : Option (Int32 × aH) :=
  if 0 < v6 then fX6_seat_34 k6 k29 v0 v1 v2 v3 v4 v5 v6 h else fX6_seat_80 k6 v0 v1 v2 v3 v4 v5 v6 h
theorem tX6_seat_29 {d : Nat} {z : Int32 × aH} {k6 : Nat → Nat → Nat → Int32 → Int32 → Int32 → aH → Option (Int32 × aH)} {k29 : Nat → Nat → Nat → Int32 → Int32 → Int32 → Int32 → aH → Option (Int32 × aH)} (hk6 : ∀ (v0 : Nat) (v1 : Nat) (v2 : Nat) (v3 : Int32) (v4 : Int32) (v5 : Int32) (h : aH), k6 v0 v1 v2 v3 v4 v5 h = some z → Ev (d + 0) none mX6_seat (0, 0) 6 [.ref v0, .ref v1, .ref v2, .int v3, .int v4, .int v5, .null] [] h (QI z)) (hk29 : ∀ (v0 : Nat) (v1 : Nat) (v2 : Nat) (v3 : Int32) (v4 : Int32) (v5 : Int32) (v6 : Int32) (h : aH), k29 v0 v1 v2 v3 v4 v5 v6 h = some z → Ev (d + 0) none mX6_seat (0, 0) 29 [.ref v0, .ref v1, .ref v2, .int v3, .int v4, .int v5, .int v6] [] h (QI z)) (v0 : Nat) (v1 : Nat) (v2 : Nat) (v3 : Int32) (v4 : Int32) (v5 : Int32) (v6 : Int32) (h : aH) (hf : fX6_seat_29 k6 k29 v0 v1 v2 v3 v4 v5 v6 h = some z) : Ev (d + 0) none mX6_seat (0, 0) 29 [.ref v0, .ref v1, .ref v2, .int v3, .int v4, .int v5, .int v6] [] h (QI z) := 
  go_ok (X := none) (blk := wX6_seat_29) (np := 34) (tt := 80) (kN := fun xs h st => app [2, 2, 2, 1, 1, 1, 1] (fun v0 v1 v2 v3 v4 v5 v6 => apS [] (fX6_seat_34 k6 k29 v0 v1 v2 v3 v4 v5 v6 h) st) xs) (kT := fun xs h st => app [2, 2, 2, 1, 1, 1, 1] (fun v0 v1 v2 v3 v4 v5 v6 => apS [] (fX6_seat_80 k6 v0 v1 v2 v3 v4 v5 v6 h) st) xs) (kR := kRI)
    (fun xs h st q => jm [2, 2, 2, 1, 1, 1, 1] _ (fun v0 v1 v2 v3 v4 v5 v6 q => apS_ok [] _ (fun st => Ev (d + 0) none mX6_seat (0, 0) 34 [.ref v0, .ref v1, .ref v2, .int v3, .int v4, .int v5, .int v6] st h (QI z)) st (fun q => tX6_seat_34 hk6 hk29 v0 v1 v2 v3 v4 v5 v6 h q) q) q)
    (fun xs h st q => jm [2, 2, 2, 1, 1, 1, 1] _ (fun v0 v1 v2 v3 v4 v5 v6 q => apS_ok [] _ (fun st => Ev (d + 0) none mX6_seat (0, 0) 80 [.ref v0, .ref v1, .ref v2, .int v3, .int v4, .int v5, .int v6] st h (QI z)) st (fun q => tX6_seat_80 hk6 v0 v1 v2 v3 v4 v5 v6 h q) q) q)
    kRI_ok (Or.inr rfl) (by decide +kernel) (by decide +kernel) hf
def lX6_seat_29 (k6 : Nat → Nat → Nat → Int32 → Int32 → Int32 → aH → Option (Int32 × aH)) : Nat → Nat → Nat → Nat → Int32 → Int32 → Int32 → Int32 → aH → Option (Int32 × aH)
  | 0, _, _, _, _, _, _, _, _ => none
  | n + 1, v0, v1, v2, v3, v4, v5, v6, h => fX6_seat_29 k6 (lX6_seat_29 k6 n) v0 v1 v2 v3 v4 v5 v6 h
theorem uX6_seat_29 {d : Nat} {z : Int32 × aH} {k6 : Nat → Nat → Nat → Int32 → Int32 → Int32 → aH → Option (Int32 × aH)} (hk6 : ∀ (v0 : Nat) (v1 : Nat) (v2 : Nat) (v3 : Int32) (v4 : Int32) (v5 : Int32) (h : aH), k6 v0 v1 v2 v3 v4 v5 h = some z → Ev (d + 0) none mX6_seat (0, 0) 6 [.ref v0, .ref v1, .ref v2, .int v3, .int v4, .int v5, .null] [] h (QI z)) : ∀ (n : Nat) (v0 : Nat) (v1 : Nat) (v2 : Nat) (v3 : Int32) (v4 : Int32) (v5 : Int32) (v6 : Int32) (h : aH), lX6_seat_29 k6 n v0 v1 v2 v3 v4 v5 v6 h = some z → Ev (d + 0) none mX6_seat (0, 0) 29 [.ref v0, .ref v1, .ref v2, .int v3, .int v4, .int v5, .int v6] [] h (QI z) := by
  intro n
  induction n with
  | zero => intro _ _ _ _ _ _ _ _ q; exact nos (show (none : Option (Int32 × aH)) = some z from q)
  | succ n ih => intro v0 v1 v2 v3 v4 v5 v6 h q; exact tX6_seat_29 hk6 ih v0 v1 v2 v3 v4 v5 v6 h q
def wX6_seat_25 : List En := [(.iload 4, 0, 0, 0), (.istore 6, 0, 0, 0)]
def fX6_seat_25 (k6 : Nat → Nat → Nat → Int32 → Int32 → Int32 → aH → Option (Int32 × aH)) (v0 : Nat) (v1 : Nat) (v2 : Nat) (v3 : Int32) (v4 : Int32) (v5 : Int32) (h : aH) : Option (Int32 × aH) :=
  lX6_seat_29 k6 FU v0 v1 v2 v3 v4 v5 v4 h
theorem tX6_seat_25 {d : Nat} {z : Int32 × aH} {k6 : Nat → Nat → Nat → Int32 → Int32 → Int32 → aH → Option (Int32 × aH)} (hk6 : ∀ (v0 : Nat) (v1 : Nat) (v2 : Nat) (v3 : Int32) (v4 : Int32) (v5 : Int32) (h : aH), k6 v0 v1 v2 v3 v4 v5 h = some z → Ev (d + 0) none mX6_seat (0, 0) 6 [.ref v0, .ref v1, .ref v2, .int v3, .int v4, .int v5, .null] [] h (QI z)) (v0 : Nat) (v1 : Nat) (v2 : Nat) (v3 : Int32) (v4 : Int32) (v5 : Int32) (h : aH) (hf : fX6_seat_25 k6 v0 v1 v2 v3 v4 v5 h = some z) : Ev (d + 0) none mX6_seat (0, 0) 25 [.ref v0, .ref v1, .ref v2, .int v3, .int v4, .int v5, .null] [] h (QI z) := 
  go_ok (X := none) (blk := wX6_seat_25) (np := 29) (tt := 0) (kN := fun xs h st => app [2, 2, 2, 1, 1, 1, 1] (fun v0 v1 v2 v3 v4 v5 v6 => apS [] (lX6_seat_29 k6 FU v0 v1 v2 v3 v4 v5 v6 h) st) xs) (kT := fun _ _ _ => none) (kR := kRI)
    (fun xs h st q => jm [2, 2, 2, 1, 1, 1, 1] _ (fun v0 v1 v2 v3 v4 v5 v6 q => apS_ok [] _ (fun st => Ev (d + 0) none mX6_seat (0, 0) 29 [.ref v0, .ref v1, .ref v2, .int v3, .int v4, .int v5, .int v6] st h (QI z)) st (fun q => uX6_seat_29 hk6 FU v0 v1 v2 v3 v4 v5 v6 h q) q) q)
    (fun _ _ _ q => nos q)
    kRI_ok (Or.inr rfl) (by decide +kernel) (by decide +kernel) hf
def wX6_seat_15 : List En := [(.iload_n 3, 0, 0, 0), (.iload 5, 0, 0, 0), (.ishr, 0, 0, 0), (.iconst 1, 0, 0, 0), (.iand, 0, 0, 0), (.iconst 1, 0, 0, 0), (.if_icmp .ne 70, 92, 0, 0)]
def fX6_seat_15 (k6 : Nat → Nat → Nat → Int32 → Int32 → Int32 → aH → Option (Int32 × aH)) (v0 : Nat) (v1 : Nat) (v2 : Nat) (v3 : Int32) (v4 : Int32) (v5 : Int32) (h : aH) : Option (Int32 × aH) :=
  if ((v3 >>> (v5 &&& 31)) &&& (kI 1)) = (kI 1) then fX6_seat_25 k6 v0 v1 v2 v3 v4 v5 h else fX6_seat_92 k6 v0 v1 v2 v3 v4 v5 h
theorem tX6_seat_15 {d : Nat} {z : Int32 × aH} {k6 : Nat → Nat → Nat → Int32 → Int32 → Int32 → aH → Option (Int32 × aH)} (hk6 : ∀ (v0 : Nat) (v1 : Nat) (v2 : Nat) (v3 : Int32) (v4 : Int32) (v5 : Int32) (h : aH), k6 v0 v1 v2 v3 v4 v5 h = some z → Ev (d + 0) none mX6_seat (0, 0) 6 [.ref v0, .ref v1, .ref v2, .int v3, .int v4, .int v5, .null] [] h (QI z)) (v0 : Nat) (v1 : Nat) (v2 : Nat) (v3 : Int32) (v4 : Int32) (v5 : Int32) (h : aH) (hf : fX6_seat_15 k6 v0 v1 v2 v3 v4 v5 h = some z) : Ev (d + 0) none mX6_seat (0, 0) 15 [.ref v0, .ref v1, .ref v2, .int v3, .int v4, .int v5, .null] [] h (QI z) := 
  go_ok (X := none) (blk := wX6_seat_15) (np := 25) (tt := 92) (kN := fun xs h st => app [2, 2, 2, 1, 1, 1, 0] (fun v0 v1 v2 v3 v4 v5 => apS [] (fX6_seat_25 k6 v0 v1 v2 v3 v4 v5 h) st) xs) (kT := fun xs h st => app [2, 2, 2, 1, 1, 1, 0] (fun v0 v1 v2 v3 v4 v5 => apS [] (fX6_seat_92 k6 v0 v1 v2 v3 v4 v5 h) st) xs) (kR := kRI)
    (fun xs h st q => jm [2, 2, 2, 1, 1, 1, 0] _ (fun v0 v1 v2 v3 v4 v5 q => apS_ok [] _ (fun st => Ev (d + 0) none mX6_seat (0, 0) 25 [.ref v0, .ref v1, .ref v2, .int v3, .int v4, .int v5, .null] st h (QI z)) st (fun q => tX6_seat_25 hk6 v0 v1 v2 v3 v4 v5 h q) q) q)
    (fun xs h st q => jm [2, 2, 2, 1, 1, 1, 0] _ (fun v0 v1 v2 v3 v4 v5 q => apS_ok [] _ (fun st => Ev (d + 0) none mX6_seat (0, 0) 92 [.ref v0, .ref v1, .ref v2, .int v3, .int v4, .int v5, .null] st h (QI z)) st (fun q => tX6_seat_92 hk6 v0 v1 v2 v3 v4 v5 h q) q) q)
    kRI_ok (Or.inr rfl) (by decide +kernel) (by decide +kernel) hf
def wX6_seat_6 : List En := [(.iload 5, 0, 0, 0), (.aload_n 1, 0, 0, 0), (.getfield 73, 108, 9, 3), (.if_icmp .ge 86, 98, 0, 0)]
def fX6_seat_6 (k6 : Nat → Nat → Nat → Int32 → Int32 → Int32 → aH → Option (Int32 × aH)) (v0 : Nat) (v1 : Nat) (v2 : Nat) (v3 : Int32) (v4 : Int32) (v5 : Int32) (h : aH) : Option (Int32 × aH) :=
  (gFI h 9 v1 3).bind fun t1 =>
  if v5 < t1 then fX6_seat_15 k6 v0 v1 v2 v3 v4 v5 h else fX6_seat_98 v4 h
theorem tX6_seat_6 {d : Nat} {z : Int32 × aH} {k6 : Nat → Nat → Nat → Int32 → Int32 → Int32 → aH → Option (Int32 × aH)} (hk6 : ∀ (v0 : Nat) (v1 : Nat) (v2 : Nat) (v3 : Int32) (v4 : Int32) (v5 : Int32) (h : aH), k6 v0 v1 v2 v3 v4 v5 h = some z → Ev (d + 0) none mX6_seat (0, 0) 6 [.ref v0, .ref v1, .ref v2, .int v3, .int v4, .int v5, .null] [] h (QI z)) (v0 : Nat) (v1 : Nat) (v2 : Nat) (v3 : Int32) (v4 : Int32) (v5 : Int32) (h : aH) (hf : fX6_seat_6 k6 v0 v1 v2 v3 v4 v5 h = some z) : Ev (d + 0) none mX6_seat (0, 0) 6 [.ref v0, .ref v1, .ref v2, .int v3, .int v4, .int v5, .null] [] h (QI z) := 
  go_ok (X := none) (blk := wX6_seat_6) (np := 15) (tt := 98) (kN := fun xs h st => app [2, 2, 2, 1, 1, 1, 0] (fun v0 v1 v2 v3 v4 v5 => apS [] (fX6_seat_15 k6 v0 v1 v2 v3 v4 v5 h) st) xs) (kT := fun xs h st => app [0, 0, 0, 0, 1, 0, 0] (fun v4 => apS [] (fX6_seat_98 v4 h) st) xs) (kR := kRI)
    (fun xs h st q => jm [2, 2, 2, 1, 1, 1, 0] _ (fun v0 v1 v2 v3 v4 v5 q => apS_ok [] _ (fun st => Ev (d + 0) none mX6_seat (0, 0) 15 [.ref v0, .ref v1, .ref v2, .int v3, .int v4, .int v5, .null] st h (QI z)) st (fun q => tX6_seat_15 hk6 v0 v1 v2 v3 v4 v5 h q) q) q)
    (fun xs h st q => jm [0, 0, 0, 0, 1, 0, 0] _ (fun v4 q => apS_ok [] _ (fun st => Ev (d + 0) none mX6_seat (0, 0) 98 [.null, .null, .null, .null, .int v4, .null, .null] st h (QI z)) st (fun q => tX6_seat_98 v4 h q) q) q)
    kRI_ok (Or.inr rfl) (by decide +kernel) (by decide +kernel) hf
def lX6_seat_6 : Nat → Nat → Nat → Nat → Int32 → Int32 → Int32 → aH → Option (Int32 × aH)
  | 0, _, _, _, _, _, _, _ => none
  | n + 1, v0, v1, v2, v3, v4, v5, h => fX6_seat_6 (lX6_seat_6 n) v0 v1 v2 v3 v4 v5 h
theorem uX6_seat_6 {d : Nat} {z : Int32 × aH} : ∀ (n : Nat) (v0 : Nat) (v1 : Nat) (v2 : Nat) (v3 : Int32) (v4 : Int32) (v5 : Int32) (h : aH), lX6_seat_6 n v0 v1 v2 v3 v4 v5 h = some z → Ev (d + 0) none mX6_seat (0, 0) 6 [.ref v0, .ref v1, .ref v2, .int v3, .int v4, .int v5, .null] [] h (QI z) := by
  intro n
  induction n with
  | zero => intro _ _ _ _ _ _ _ q; exact nos (show (none : Option (Int32 × aH)) = some z from q)
  | succ n ih => intro v0 v1 v2 v3 v4 v5 h q; exact tX6_seat_6 ih v0 v1 v2 v3 v4 v5 h q
def wX6_seat_0 : List En := [(.iconst 0, 0, 0, 0), (.istore 4, 0, 0, 0), (.iconst 0, 0, 0, 0), (.istore 5, 0, 0, 0)]
def fX6_seat_0 (v0 : Nat) (v1 : Nat) (v2 : Nat) (v3 : Int32) (h : aH) : Option (Int32 × aH) :=
  lX6_seat_6 FU v0 v1 v2 v3 (kI 0) (kI 0) h
theorem tX6_seat_0 {d : Nat} {z : Int32 × aH} (v0 : Nat) (v1 : Nat) (v2 : Nat) (v3 : Int32) (h : aH) (hf : fX6_seat_0 v0 v1 v2 v3 h = some z) : Ev (d + 0) none mX6_seat (0, 0) 0 [.ref v0, .ref v1, .ref v2, .int v3, .null, .null, .null] [] h (QI z) := 
  go_ok (X := none) (blk := wX6_seat_0) (np := 6) (tt := 0) (kN := fun xs h st => app [2, 2, 2, 1, 1, 1, 0] (fun v0 v1 v2 v3 v4 v5 => apS [] (lX6_seat_6 FU v0 v1 v2 v3 v4 v5 h) st) xs) (kT := fun _ _ _ => none) (kR := kRI)
    (fun xs h st q => jm [2, 2, 2, 1, 1, 1, 0] _ (fun v0 v1 v2 v3 v4 v5 q => apS_ok [] _ (fun st => Ev (d + 0) none mX6_seat (0, 0) 6 [.ref v0, .ref v1, .ref v2, .int v3, .int v4, .int v5, .null] st h (QI z)) st (fun q => uX6_seat_6 FU v0 v1 v2 v3 v4 v5 h q) q) q)
    (fun _ _ _ q => nos q)
    kRI_ok (Or.inr rfl) (by decide +kernel) (by decide +kernel) hf
def gX6_seat (v0 : Nat) (v1 : Nat) (v2 : Nat) (v3 : Int32) (h : aH) : Option (Int32 × aH) := fX6_seat_0 v0 v1 v2 v3 h
theorem zX6_seat {d : Nat} {z : Int32 × aH} {v0 : Nat} {v1 : Nat} {v2 : Nat} {v3 : Int32} {h : aH} (q : gX6_seat v0 v1 v2 v3 h = some z) : CT (d + 0) mX6_seat (0, 0) [.ref v0, .ref v1, .ref v2, .int v3] h (QI z) :=
  ct_ev (by decide +kernel) (Nat.le_of_ble_eq_true rfl) QI_r (jm [2, 2, 2, 1, 0, 0, 0] (fun v0 v1 v2 v3 => fX6_seat_0 v0 v1 v2 v3 h) (fun v0 v1 v2 v3 q => tX6_seat_0 v0 v1 v2 v3 h q) q)
end
