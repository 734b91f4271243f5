/-! THE REFERENCE'S OBJECT: number 167, its rows 168 .. 180; F: its int fields by their places, G: its three longs, B: its rows -/
def mF (F : Nat → Int32) (G : Nat → Int64) : List Value := [.int (F 0), .ref 168, .int (F 2), .int (F 3), .int (F 4), .int (F 5), .int (F 6), .int (F 7), .int (F 8), .int (F 9), .int (F 10), .int (F 11), .ref 169, .int (F 13), .int (F 14), .ref 170, .ref 171, .ref 172, .ref 173, .ref 174, .ref 175, .ref 176, .ref 177, .int (F 23), .int (F 24), .int (F 25), .int (F 26), .ref 178, .ref 179, .int (F 29), .int (F 30), .int (F 31), .int (F 32), .int (F 33), .int (F 34), .int (F 35), .ref 180, .int (F 37), .int (F 38), .int (F 39), .int (F 40), .long (G 0), .long (G 1), .long (G 2)]
def mC (F : Nat → Int32) (G : Nat → Int64) (B : Nat → List Int32) : List aC := [.inr (11, mF F G), .inl (0, .inl (B 0)), .inl (0, .inl (B 1)), .inl (0, .inl (B 2)), .inl (0, .inl (B 3)), .inl (0, .inl (B 4)), .inl (0, .inl (B 5)), .inl (0, .inl (B 6)), .inl (0, .inl (B 7)), .inl (0, .inl (B 8)), .inl (0, .inl (B 9)), .inl (0, .inl (B 10)), .inl (0, .inl (B 11)), .inl (0, .inl (B 12))]
def MH (h : aH) (F : Nat → Int32) (G : Nat → Int64) (B : Nat → List Int32) : aH := h.take 167 ++ (mC F G B ++ h.drop 181)
def fu (F : Nat → Int32) (k : Nat) (v : Int32) : Nat → Int32 := fun j => if j = k then v else F j
def gu (G : Nat → Int64) (k : Nat) (v : Int64) : Nat → Int64 := fun j => if j = k then v else G j
def bu (B : Nat → List Int32) (k : Nat) (v : List Int32) : Nat → List Int32 := fun j => if j = k then v else B j
section MHS
variable {h : aH} {F F' : Nat → Int32} {G G' : Nat → Int64} {B : Nat → List Int32}
theorem MH_in (hl : 181 ≤ h.length) (i : Nat) (hi : i < 14) : (MH h F G B)[167 + i]? = (mC F G B)[i]? := by
  unfold MH
  rw [List.getElem?_append_right (by simp; omega)]
  have e : (h.take 167).length = 167 := by simp; omega
  rw [e, Nat.add_sub_cancel_left, List.getElem?_append_left (by show i < 14; exact hi)]
theorem MH_lo (hl : 181 ≤ h.length) {k : Nat} (hk : k < 167) : (MH h F G B)[k]? = h[k]? := by
  unfold MH
  rw [List.getElem?_append_left (by simp; omega), List.getElem?_take, if_pos hk]
theorem MH_hi (hl : 181 ≤ h.length) {k : Nat} (hk : 181 ≤ k) : (MH h F G B)[k]? = h[k]? := by
  unfold MH
  have e : (h.take 167).length = 167 := by simp; omega
  rw [List.getElem?_append_right (by omega), e, List.getElem?_append_right (by show 14 ≤ k - 167; omega), List.getElem?_drop]
  have e2 : 181 + (k - 167 - (mC F G B).length) = k := by
    show 181 + (k - 167 - 14) = k
    omega
  rw [e2]
theorem MH_len (hl : 181 ≤ h.length) : (MH h F G B).length = h.length := by
  unfold MH
  simp [mC]
  omega
theorem MH_set (hl : 181 ≤ h.length) (i : Nat) (hi : i < 14) (c : aC) : (MH h F G B).set (167 + i) c = h.take 167 ++ ((mC F G B).set i c ++ h.drop 181) := by
  unfold MH
  have e : (h.take 167).length = 167 := by simp; omega
  rw [List.set_append_right _ _ (by omega), e, Nat.add_sub_cancel_left, List.set_append_left _ _ (by show i < 14; exact hi)]
theorem MH_o (hl : 181 ≤ h.length) : (MH h F G B)[167]? = some (.inr (11, mF F G)) := MH_in hl 0 (by omega)
theorem MH_0 (hl : 181 ≤ h.length) : (MH h F G B)[168]? = some (.inl (0, .inl (B 0))) := MH_in hl 1 (by omega)
theorem MH_1 (hl : 181 ≤ h.length) : (MH h F G B)[169]? = some (.inl (0, .inl (B 1))) := MH_in hl 2 (by omega)
theorem MH_2 (hl : 181 ≤ h.length) : (MH h F G B)[170]? = some (.inl (0, .inl (B 2))) := MH_in hl 3 (by omega)
theorem MH_3 (hl : 181 ≤ h.length) : (MH h F G B)[171]? = some (.inl (0, .inl (B 3))) := MH_in hl 4 (by omega)
theorem MH_4 (hl : 181 ≤ h.length) : (MH h F G B)[172]? = some (.inl (0, .inl (B 4))) := MH_in hl 5 (by omega)
theorem MH_5 (hl : 181 ≤ h.length) : (MH h F G B)[173]? = some (.inl (0, .inl (B 5))) := MH_in hl 6 (by omega)
theorem MH_6 (hl : 181 ≤ h.length) : (MH h F G B)[174]? = some (.inl (0, .inl (B 6))) := MH_in hl 7 (by omega)
theorem MH_7 (hl : 181 ≤ h.length) : (MH h F G B)[175]? = some (.inl (0, .inl (B 7))) := MH_in hl 8 (by omega)
theorem MH_8 (hl : 181 ≤ h.length) : (MH h F G B)[176]? = some (.inl (0, .inl (B 8))) := MH_in hl 9 (by omega)
theorem MH_9 (hl : 181 ≤ h.length) : (MH h F G B)[177]? = some (.inl (0, .inl (B 9))) := MH_in hl 10 (by omega)
theorem MH_10 (hl : 181 ≤ h.length) : (MH h F G B)[178]? = some (.inl (0, .inl (B 10))) := MH_in hl 11 (by omega)
theorem MH_11 (hl : 181 ≤ h.length) : (MH h F G B)[179]? = some (.inl (0, .inl (B 11))) := MH_in hl 12 (by omega)
theorem MH_12 (hl : 181 ≤ h.length) : (MH h F G B)[180]? = some (.inl (0, .inl (B 12))) := MH_in hl 13 (by omega)
theorem MH_so (hl : 181 ≤ h.length) : (MH h F G B).set 167 (.inr (11, mF F' G')) = MH h F' G' B := MH_set hl 0 (by omega) _
theorem MH_s0 (hl : 181 ≤ h.length) (ys : List Int32) : (MH h F G B).set 168 (.inl (0, .inl ys)) = MH h F G (bu B 0 ys) := MH_set hl 1 (by omega) _
theorem MH_s1 (hl : 181 ≤ h.length) (ys : List Int32) : (MH h F G B).set 169 (.inl (0, .inl ys)) = MH h F G (bu B 1 ys) := MH_set hl 2 (by omega) _
theorem MH_s2 (hl : 181 ≤ h.length) (ys : List Int32) : (MH h F G B).set 170 (.inl (0, .inl ys)) = MH h F G (bu B 2 ys) := MH_set hl 3 (by omega) _
theorem MH_s3 (hl : 181 ≤ h.length) (ys : List Int32) : (MH h F G B).set 171 (.inl (0, .inl ys)) = MH h F G (bu B 3 ys) := MH_set hl 4 (by omega) _
theorem MH_s4 (hl : 181 ≤ h.length) (ys : List Int32) : (MH h F G B).set 172 (.inl (0, .inl ys)) = MH h F G (bu B 4 ys) := MH_set hl 5 (by omega) _
theorem MH_s5 (hl : 181 ≤ h.length) (ys : List Int32) : (MH h F G B).set 173 (.inl (0, .inl ys)) = MH h F G (bu B 5 ys) := MH_set hl 6 (by omega) _
theorem MH_s6 (hl : 181 ≤ h.length) (ys : List Int32) : (MH h F G B).set 174 (.inl (0, .inl ys)) = MH h F G (bu B 6 ys) := MH_set hl 7 (by omega) _
theorem MH_s7 (hl : 181 ≤ h.length) (ys : List Int32) : (MH h F G B).set 175 (.inl (0, .inl ys)) = MH h F G (bu B 7 ys) := MH_set hl 8 (by omega) _
theorem MH_s8 (hl : 181 ≤ h.length) (ys : List Int32) : (MH h F G B).set 176 (.inl (0, .inl ys)) = MH h F G (bu B 8 ys) := MH_set hl 9 (by omega) _
theorem MH_s9 (hl : 181 ≤ h.length) (ys : List Int32) : (MH h F G B).set 177 (.inl (0, .inl ys)) = MH h F G (bu B 9 ys) := MH_set hl 10 (by omega) _
theorem MH_s10 (hl : 181 ≤ h.length) (ys : List Int32) : (MH h F G B).set 178 (.inl (0, .inl ys)) = MH h F G (bu B 10 ys) := MH_set hl 11 (by omega) _
theorem MH_s11 (hl : 181 ≤ h.length) (ys : List Int32) : (MH h F G B).set 179 (.inl (0, .inl ys)) = MH h F G (bu B 11 ys) := MH_set hl 12 (by omega) _
theorem MH_s12 (hl : 181 ≤ h.length) (ys : List Int32) : (MH h F G B).set 180 (.inl (0, .inl ys)) = MH h F G (bu B 12 ys) := MH_set hl 13 (by omega) _
theorem mF_0 : (mF F G)[0]? = some (.int (F 0)) := rfl
theorem mF_1 : (mF F G)[1]? = some (.ref 168) := rfl
theorem mF_2 : (mF F G)[2]? = some (.int (F 2)) := rfl
theorem mF_3 : (mF F G)[3]? = some (.int (F 3)) := rfl
theorem mF_4 : (mF F G)[4]? = some (.int (F 4)) := rfl
theorem mF_5 : (mF F G)[5]? = some (.int (F 5)) := rfl
theorem mF_6 : (mF F G)[6]? = some (.int (F 6)) := rfl
theorem mF_7 : (mF F G)[7]? = some (.int (F 7)) := rfl
theorem mF_8 : (mF F G)[8]? = some (.int (F 8)) := rfl
theorem mF_9 : (mF F G)[9]? = some (.int (F 9)) := rfl
theorem mF_10 : (mF F G)[10]? = some (.int (F 10)) := rfl
theorem mF_11 : (mF F G)[11]? = some (.int (F 11)) := rfl
theorem mF_12 : (mF F G)[12]? = some (.ref 169) := rfl
theorem mF_13 : (mF F G)[13]? = some (.int (F 13)) := rfl
theorem mF_14 : (mF F G)[14]? = some (.int (F 14)) := rfl
theorem mF_15 : (mF F G)[15]? = some (.ref 170) := rfl
theorem mF_16 : (mF F G)[16]? = some (.ref 171) := rfl
theorem mF_17 : (mF F G)[17]? = some (.ref 172) := rfl
theorem mF_18 : (mF F G)[18]? = some (.ref 173) := rfl
theorem mF_19 : (mF F G)[19]? = some (.ref 174) := rfl
theorem mF_20 : (mF F G)[20]? = some (.ref 175) := rfl
theorem mF_21 : (mF F G)[21]? = some (.ref 176) := rfl
theorem mF_22 : (mF F G)[22]? = some (.ref 177) := rfl
theorem mF_23 : (mF F G)[23]? = some (.int (F 23)) := rfl
theorem mF_24 : (mF F G)[24]? = some (.int (F 24)) := rfl
theorem mF_25 : (mF F G)[25]? = some (.int (F 25)) := rfl
theorem mF_26 : (mF F G)[26]? = some (.int (F 26)) := rfl
theorem mF_27 : (mF F G)[27]? = some (.ref 178) := rfl
theorem mF_28 : (mF F G)[28]? = some (.ref 179) := rfl
theorem mF_29 : (mF F G)[29]? = some (.int (F 29)) := rfl
theorem mF_30 : (mF F G)[30]? = some (.int (F 30)) := rfl
theorem mF_31 : (mF F G)[31]? = some (.int (F 31)) := rfl
theorem mF_32 : (mF F G)[32]? = some (.int (F 32)) := rfl
theorem mF_33 : (mF F G)[33]? = some (.int (F 33)) := rfl
theorem mF_34 : (mF F G)[34]? = some (.int (F 34)) := rfl
theorem mF_35 : (mF F G)[35]? = some (.int (F 35)) := rfl
theorem mF_36 : (mF F G)[36]? = some (.ref 180) := rfl
theorem mF_37 : (mF F G)[37]? = some (.int (F 37)) := rfl
theorem mF_38 : (mF F G)[38]? = some (.int (F 38)) := rfl
theorem mF_39 : (mF F G)[39]? = some (.int (F 39)) := rfl
theorem mF_40 : (mF F G)[40]? = some (.int (F 40)) := rfl
theorem mF_41 : (mF F G)[41]? = some (.long (G 0)) := rfl
theorem mF_42 : (mF F G)[42]? = some (.long (G 1)) := rfl
theorem mF_43 : (mF F G)[43]? = some (.long (G 2)) := rfl
theorem mF_s0 (v : Int32) : (mF F G).set 0 (.int v) = mF (fu F 0 v) G := rfl
theorem mF_s2 (v : Int32) : (mF F G).set 2 (.int v) = mF (fu F 2 v) G := rfl
theorem mF_s3 (v : Int32) : (mF F G).set 3 (.int v) = mF (fu F 3 v) G := rfl
theorem mF_s4 (v : Int32) : (mF F G).set 4 (.int v) = mF (fu F 4 v) G := rfl
theorem mF_s5 (v : Int32) : (mF F G).set 5 (.int v) = mF (fu F 5 v) G := rfl
theorem mF_s6 (v : Int32) : (mF F G).set 6 (.int v) = mF (fu F 6 v) G := rfl
theorem mF_s7 (v : Int32) : (mF F G).set 7 (.int v) = mF (fu F 7 v) G := rfl
theorem mF_s8 (v : Int32) : (mF F G).set 8 (.int v) = mF (fu F 8 v) G := rfl
theorem mF_s9 (v : Int32) : (mF F G).set 9 (.int v) = mF (fu F 9 v) G := rfl
theorem mF_s10 (v : Int32) : (mF F G).set 10 (.int v) = mF (fu F 10 v) G := rfl
theorem mF_s11 (v : Int32) : (mF F G).set 11 (.int v) = mF (fu F 11 v) G := rfl
theorem mF_s13 (v : Int32) : (mF F G).set 13 (.int v) = mF (fu F 13 v) G := rfl
theorem mF_s14 (v : Int32) : (mF F G).set 14 (.int v) = mF (fu F 14 v) G := rfl
theorem mF_s23 (v : Int32) : (mF F G).set 23 (.int v) = mF (fu F 23 v) G := rfl
theorem mF_s24 (v : Int32) : (mF F G).set 24 (.int v) = mF (fu F 24 v) G := rfl
theorem mF_s25 (v : Int32) : (mF F G).set 25 (.int v) = mF (fu F 25 v) G := rfl
theorem mF_s26 (v : Int32) : (mF F G).set 26 (.int v) = mF (fu F 26 v) G := rfl
theorem mF_s29 (v : Int32) : (mF F G).set 29 (.int v) = mF (fu F 29 v) G := rfl
theorem mF_s30 (v : Int32) : (mF F G).set 30 (.int v) = mF (fu F 30 v) G := rfl
theorem mF_s31 (v : Int32) : (mF F G).set 31 (.int v) = mF (fu F 31 v) G := rfl
theorem mF_s32 (v : Int32) : (mF F G).set 32 (.int v) = mF (fu F 32 v) G := rfl
theorem mF_s33 (v : Int32) : (mF F G).set 33 (.int v) = mF (fu F 33 v) G := rfl
theorem mF_s34 (v : Int32) : (mF F G).set 34 (.int v) = mF (fu F 34 v) G := rfl
theorem mF_s35 (v : Int32) : (mF F G).set 35 (.int v) = mF (fu F 35 v) G := rfl
theorem mF_s37 (v : Int32) : (mF F G).set 37 (.int v) = mF (fu F 37 v) G := rfl
theorem mF_s38 (v : Int32) : (mF F G).set 38 (.int v) = mF (fu F 38 v) G := rfl
theorem mF_s39 (v : Int32) : (mF F G).set 39 (.int v) = mF (fu F 39 v) G := rfl
theorem mF_s40 (v : Int32) : (mF F G).set 40 (.int v) = mF (fu F 40 v) G := rfl
theorem mF_s41 (v : Int64) : (mF F G).set 41 (.long v) = mF F (gu G 0 v) := rfl
theorem mF_s42 (v : Int64) : (mF F G).set 42 (.long v) = mF F (gu G 1 v) := rfl
theorem mF_s43 (v : Int64) : (mF F G).set 43 (.long v) = mF F (gu G 2 v) := rfl
theorem mF_len : (mF F G).length = 44 := rfl
end MHS
theorem tM_0 : tyC 11 0 = .int := rfl
theorem tM_2 : tyC 11 2 = .int := rfl
theorem tM_3 : tyC 11 3 = .int := rfl
theorem tM_4 : tyC 11 4 = .int := rfl
theorem tM_5 : tyC 11 5 = .int := rfl
theorem tM_6 : tyC 11 6 = .int := rfl
theorem tM_7 : tyC 11 7 = .int := rfl
theorem tM_8 : tyC 11 8 = .int := rfl
theorem tM_9 : tyC 11 9 = .int := rfl
theorem tM_10 : tyC 11 10 = .int := rfl
theorem tM_11 : tyC 11 11 = .int := rfl
theorem tM_13 : tyC 11 13 = .boolean := rfl
theorem tM_14 : tyC 11 14 = .boolean := rfl
theorem tM_23 : tyC 11 23 = .int := rfl
theorem tM_24 : tyC 11 24 = .int := rfl
theorem tM_25 : tyC 11 25 = .int := rfl
theorem tM_26 : tyC 11 26 = .int := rfl
theorem tM_29 : tyC 11 29 = .int := rfl
theorem tM_30 : tyC 11 30 = .int := rfl
theorem tM_31 : tyC 11 31 = .int := rfl
theorem tM_32 : tyC 11 32 = .int := rfl
theorem tM_33 : tyC 11 33 = .int := rfl
theorem tM_34 : tyC 11 34 = .int := rfl
theorem tM_35 : tyC 11 35 = .int := rfl
theorem tM_37 : tyC 11 37 = .int := rfl
theorem tM_38 : tyC 11 38 = .int := rfl
theorem tM_39 : tyC 11 39 = .int := rfl
theorem tM_40 : tyC 11 40 = .int := rfl
theorem tM_41 : tyC 11 41 = .long := rfl
theorem tM_42 : tyC 11 42 = .long := rfl
theorem tM_43 : tyC 11 43 = .long := rfl
