-- HEARSAY: the reference counts with whom
def wiS (s u : Nat) (X : Row) : Row := up X u (X u + ((nI s >>> (nI u &&& 31)) &&& nI 1))
section HE9
variable {S : Mem} {J : MeJ} {T : Nat → Nat} {U : Nat}
set_option maxRecDepth 100000 in
set_option maxHeartbeats 400000 in
theorem l_s118 (hU : S 170 6 = nI U) (hU4 : U ≤ 4) {s : Nat} {v1 v2 : Int32} (K : Nat → Int32 → Int32 → Int32 → aH → Option (Int32 × aH)) : lX11_seekSets_118 K FU 167 v1 v2 (nI s) (nI 0) (hp S J T) = fX11_seekSets_152 K 167 v1 v2 (nI s) (hp (stR S 180 (itr (wiS s) U 0 (S 180))) J T) := by
  have hz : hp S J T = hp (stR S 180 (S 180)) J T := by rw [stR_id]
  conv => lhs; rw [hz]
  refine for_loop (lX11_seekSets_118 K) (fX11_seekSets_118 K) (fun _ => rfl) (fun K' k X => K' 167 v1 v2 (nI s) (nI k) (hp (stR S 180 X) J T)) (fun _ _ => True) U (wiS s) (fun X => fX11_seekSets_152 K 167 v1 v2 (nI s) (hp (stR S 180 X) J T)) (fun K' k X hk _ => ?_) (fun _ _ _ _ => trivial) (fun K' X _ => ?_) U 0 FU (S 180) (by omega) (FU_lt (by omega)) trivial
  · unfold wiS
    simp (disch := omega) only [fX11_seekSets_118, fX11_seekSets_130, mo_f15, mo_r15, mo_f36, mo_r36, mo_w36, kB_6, kI_1, stR_ne (show 170 ≠ 180 by omega), hU, lt_eq, hk, Option.bind_some, ↓reduceIte, stS_R, stR_stR, stR_eq, nI_add]
  · simp (disch := omega) only [fX11_seekSets_118, mo_f15, mo_r15, kB_6, stR_ne (show 170 ≠ 180 by omega), hU, lt_eq, Nat.lt_irrefl, Option.bind_some, ↓reduceIte]
end HE9
