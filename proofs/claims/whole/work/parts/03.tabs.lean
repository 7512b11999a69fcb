/-! static tables of the pure machine: fields, methods, classes, constants by class number and constant pool index; each entry's word stands in the claim's tables (lw_tbl), which a program decides -/
abbrev pz_G : List Cond := lw_tbl.filter goodWord
theorem pz_Gin {i : Nat} {w : Cond} (h : lw_tbl[i]? = some w) (g : goodWord w = true) : w ∈ pz_G := List.mem_filter.mpr ⟨List.mem_of_getElem? h, g⟩
def pz_R : Nat → String := fun n => match n with
  | 0 => RX0
  | 1 => RX1
  | 2 => RX2
  | 3 => RX3
  | 4 => RX4
  | 5 => RX5
  | 6 => RX6
  | 7 => RX7
  | 8 => RL
  | _ => RJ6
def pz_T : Nat → u_T := fun n => match n with
  | 0 => TX0
  | 1 => TX1
  | 2 => TX2
  | 3 => TX3
  | 4 => TX4
  | 5 => TX5
  | 6 => TX6
  | _ => TX7
def pz_N : Nat → Nat := fun n => match n with
  | 0 => 8
  | 1 => 7
  | 2 => 3
  | 3 => 5
  | 4 => 9
  | 5 => 2
  | 6 => 7
  | _ => 17
def pz_ty : Nat → Nat → FieldType := fun n => match n with
  | 0 => tyX0
  | 1 => tyX1
  | 2 => tyX2
  | 3 => tyX3
  | 4 => tyX4
  | 5 => tyX5
  | 6 => tyX6
  | _ => tyX7
def pz_blank (ci : Nat) : List Value := (List.range (pz_N ci)).map (fun k => defaultValue (pz_ty ci k))
theorem pz_cl (ci : Nat) (h : ci < 8) : vwCl[ci]? = some (pz_R ci, pz_T ci, pz_N ci) := by
  rcases (show ci = 0 ∨ ci = 1 ∨ ci = 2 ∨ ci = 3 ∨ ci = 4 ∨ ci = 5 ∨ ci = 6 ∨ ci = 7 by omega) with rfl | rfl | rfl | rfl | rfl | rfl | rfl | rfl <;> rfl
theorem pz_ty_ok (ci : Nat) (h : ci < 8) : ∀ k, k < pz_N ci → parseFieldDescriptor (pz_T ci k).2.2.1 = some (pz_ty ci k) := by
  rcases (show ci = 0 ∨ ci = 1 ∨ ci = 2 ∨ ci = 3 ∨ ci = 4 ∨ ci = 5 ∨ ci = 6 ∨ ci = 7 by omega) with rfl | rfl | rfl | rfl | rfl | rfl | rfl | rfl
  · exact tyX0_ok
  · exact tyX1_ok
  · exact tyX2_ok
  · exact tyX3_ok
  · exact tyX4_ok
  · exact tyX5_ok
  · exact tyX6_ok
  · exact tyX7_ok
theorem pz_nm (ci : Nat) (h : ci < 8) : ∀ a, a < pz_N ci → ∀ b, b < pz_N ci → a ≠ b → (pz_T ci a).2.1 ≠ (pz_T ci b).2.1 := by
  rcases (show ci = 0 ∨ ci = 1 ∨ ci = 2 ∨ ci = 3 ∨ ci = 4 ∨ ci = 5 ∨ ci = 6 ∨ ci = 7 by omega) with rfl | rfl | rfl | rfl | rfl | rfl | rfl | rfl
  · exact nmX0
  · exact nmX1
  · exact nmX2
  · exact nmX3
  · exact nmX4
  · exact nmX5
  · exact nmX6
  · exact nmX7

theorem pz_lay0 : ∀ w ∈ u_ws RX0 TX0 8, w ∈ pz_G := fun w h => ⟨(goodIn_r (big := lw_tbl) _ [142, 144, 146, 148, 150, 152, 154, 156] (by decide +kernel) (by decide +kernel) w h).1, (List.all_eq_true.mp (show (u_ws RX0 TX0 8).all goodWord = true by decide +kernel) w h)⟩ |> fun q => List.mem_filter.mpr q
theorem pz_lay1 : ∀ w ∈ u_ws RX1 TX1 7, w ∈ pz_G := fun w h => ⟨(goodIn_r (big := lw_tbl) _ [175, 177, 179, 181, 183, 185, 187] (by decide +kernel) (by decide +kernel) w h).1, (List.all_eq_true.mp (show (u_ws RX1 TX1 7).all goodWord = true by decide +kernel) w h)⟩ |> fun q => List.mem_filter.mpr q
theorem pz_lay2 : ∀ w ∈ u_ws RX2 TX2 3, w ∈ pz_G := fun w h => ⟨(goodIn_r (big := lw_tbl) _ [250, 252, 254] (by decide +kernel) (by decide +kernel) w h).1, (List.all_eq_true.mp (show (u_ws RX2 TX2 3).all goodWord = true by decide +kernel) w h)⟩ |> fun q => List.mem_filter.mpr q
theorem pz_lay3 : ∀ w ∈ u_ws RX3 TX3 5, w ∈ pz_G := fun w h => ⟨(goodIn_r (big := lw_tbl) _ [273, 275, 277, 279, 281] (by decide +kernel) (by decide +kernel) w h).1, (List.all_eq_true.mp (show (u_ws RX3 TX3 5).all goodWord = true by decide +kernel) w h)⟩ |> fun q => List.mem_filter.mpr q
theorem pz_lay4 : ∀ w ∈ u_ws RX4 TX4 9, w ∈ pz_G := fun w h => ⟨(goodIn_r (big := lw_tbl) _ [209, 211, 213, 215, 217, 219, 221, 223, 225] (by decide +kernel) (by decide +kernel) w h).1, (List.all_eq_true.mp (show (u_ws RX4 TX4 9).all goodWord = true by decide +kernel) w h)⟩ |> fun q => List.mem_filter.mpr q
theorem pz_lay5 : ∀ w ∈ u_ws RX5 TX5 2, w ∈ pz_G := fun w h => ⟨(goodIn_r (big := lw_tbl) _ [232, 234] (by decide +kernel) (by decide +kernel) w h).1, (List.all_eq_true.mp (show (u_ws RX5 TX5 2).all goodWord = true by decide +kernel) w h)⟩ |> fun q => List.mem_filter.mpr q
theorem pz_lay6 : ∀ w ∈ u_ws RX6 TX6 7, w ∈ pz_G := fun w h => ⟨(goodIn_r (big := lw_tbl) _ [292, 294, 296, 298, 300, 302, 304] (by decide +kernel) (by decide +kernel) w h).1, (List.all_eq_true.mp (show (u_ws RX6 TX6 7).all goodWord = true by decide +kernel) w h)⟩ |> fun q => List.mem_filter.mpr q
theorem pz_lay7 : ∀ w ∈ u_ws RX7 TX7 17, w ∈ pz_G := fun w h => ⟨(goodIn_r (big := lw_tbl) _ [1110, 1112, 1114, 1116, 1118, 1120, 1122, 1124, 1126, 1128, 1130, 1132, 1134, 1136, 1138, 1140, 1142] (by decide +kernel) (by decide +kernel) w h).1, (List.all_eq_true.mp (show (u_ws RX7 TX7 17).all goodWord = true by decide +kernel) w h)⟩ |> fun q => List.mem_filter.mpr q
theorem pz_lay (ci : Nat) (h : ci < 8) : ∀ w ∈ u_ws (pz_R ci) (pz_T ci) (pz_N ci), w ∈ pz_G := by
  rcases (show ci = 0 ∨ ci = 1 ∨ ci = 2 ∨ ci = 3 ∨ ci = 4 ∨ ci = 5 ∨ ci = 6 ∨ ci = 7 by omega) with rfl | rfl | rfl | rfl | rfl | rfl | rfl | rfl
  · exact pz_lay0
  · exact pz_lay1
  · exact pz_lay2
  · exact pz_lay3
  · exact pz_lay4
  · exact pz_lay5
  · exact pz_lay6
  · exact pz_lay7
def pz_fldP (e : Nat × Nat × Nat × Nat × Nat) : Prop := e.2.2.1 < 8 ∧ e.2.2.2.1 < pz_N e.2.2.1 ∧ (pz_T e.2.2.1 e.2.2.2.1).1 = pz_R e.2.2.1 ∧ lw_tbl[e.2.2.2.2]? = some (.fieldLink (pz_R e.1) e.2.1 (pz_T e.2.2.1 e.2.2.2.1).1 (pz_T e.2.2.1 e.2.2.2.1).2.1 (pz_T e.2.2.1 e.2.2.2.1).2.2.1)
def pz_fldL_0 : List (Nat × Nat × Nat × Nat × Nat) := [(0, 9, 0, 4, 132), (0, 15, 0, 5, 135), (0, 18, 0, 6, 138), (0, 21, 0, 7, 140), (0, 24, 0, 0, 118), (0, 28, 0, 1, 122), (0, 31, 0, 2, 126), (0, 35, 0, 3, 129), (1, 11, 1, 0, 160), (1, 17, 1, 2, 166), (1, 21, 1, 3, 168), (1, 24, 1, 4, 170), (1, 27, 1, 6, 174), (1, 31, 1, 1, 163), (1, 35, 1, 5, 172), (1, 48, 0, 0, 119), (1, 55, 0, 6, 139), (1, 65, 0, 2, 127), (1, 80, 0, 4, 133), (1, 83, 0, 5, 136), (1, 91, 0, 1, 124), (1, 97, 0, 7, 141), (1, 100, 0, 3, 131), (2, 13, 2, 0, 246)]
theorem pz_fldL_ok0 : ∀ e ∈ pz_fldL_0, pz_fldP e := by unfold pz_fldP; decide +kernel
def pz_fldL_1 : List (Nat × Nat × Nat × Nat × Nat) := [(2, 25, 2, 1, 247), (2, 32, 2, 2, 248), (3, 9, 3, 0, 263), (3, 15, 3, 4, 271), (3, 19, 3, 2, 267), (3, 27, 3, 1, 265), (3, 30, 3, 3, 269), (4, 9, 4, 0, 196), (4, 15, 4, 1, 197), (4, 18, 4, 2, 199), (4, 21, 4, 3, 200), (4, 24, 4, 4, 201), (4, 27, 4, 5, 202), (4, 31, 4, 6, 204), (4, 34, 4, 7, 205), (4, 37, 4, 8, 207), (4, 54, 1, 1, 165), (4, 59, 1, 0, 162), (4, 63, 0, 0, 121), (4, 75, 0, 1, 125), (4, 94, 0, 4, 134), (4, 95, 0, 5, 137), (5, 10, 5, 0, 228), (5, 19, 5, 1, 230)]
theorem pz_fldL_ok1 : ∀ e ∈ pz_fldL_1, pz_fldP e := by unfold pz_fldP; decide +kernel
def pz_fldL_2 : List (Nat × Nat × Nat × Nat × Nat) := [(6, 10, 6, 0, 285), (6, 16, 6, 1, 286), (6, 22, 6, 2, 287), (6, 29, 6, 3, 288), (6, 33, 6, 5, 290), (6, 37, 6, 6, 291), (6, 40, 5, 0, 229), (6, 44, 1, 1, 164), (6, 108, 1, 0, 161), (6, 112, 0, 0, 120), (6, 123, 0, 1, 123), (6, 129, 0, 3, 130), (6, 144, 0, 2, 128), (6, 169, 1, 2, 167), (6, 192, 1, 5, 173), (6, 195, 1, 3, 169), (6, 198, 1, 4, 171), (6, 223, 5, 1, 231), (6, 255, 4, 1, 198), (6, 258, 4, 5, 203), (6, 289, 4, 7, 206), (6, 292, 4, 8, 208), (6, 313, 3, 1, 266), (6, 318, 3, 0, 264)]
theorem pz_fldL_ok2 : ∀ e ∈ pz_fldL_2, pz_fldP e := by unfold pz_fldP; decide +kernel
def pz_fldL_3 : List (Nat × Nat × Nat × Nat × Nat) := [(6, 325, 3, 2, 268), (6, 350, 2, 2, 249), (6, 361, 6, 4, 289), (6, 366, 3, 4, 272), (6, 369, 3, 3, 270), (7, 9, 7, 0, 1093), (7, 13, 7, 1, 1094), (7, 16, 7, 2, 1095), (7, 19, 7, 4, 1097), (7, 22, 7, 8, 1101), (7, 25, 7, 9, 1102), (7, 29, 7, 13, 1106), (7, 33, 7, 14, 1107), (7, 36, 7, 15, 1108), (7, 42, 7, 7, 1100), (7, 45, 7, 5, 1098), (7, 60, 7, 6, 1099), (7, 207, 7, 10, 1103), (7, 210, 7, 12, 1105), (7, 214, 7, 11, 1104), (7, 228, 7, 16, 1109), (7, 251, 7, 3, 1096)]
theorem pz_fldL_ok3 : ∀ e ∈ pz_fldL_3, pz_fldP e := by unfold pz_fldP; decide +kernel
def pz_fldL : List (Nat × Nat × Nat × Nat × Nat) := pz_fldL_0 ++ pz_fldL_1 ++ pz_fldL_2 ++ pz_fldL_3
theorem pz_fldL_ok : ∀ e ∈ pz_fldL, pz_fldP e := by
  intro e h
  simp only [pz_fldL, List.mem_append, or_assoc] at h
  rcases h with h | h | h | h
  · exact pz_fldL_ok0 e h
  · exact pz_fldL_ok1 e h
  · exact pz_fldL_ok2 e h
  · exact pz_fldL_ok3 e h
def pz_fld (own idx : Nat) : Option (Nat × Nat) := (pz_fldL.find? (fun e => e.1 == own && e.2.1 == idx)).map (fun e => (e.2.2.1, e.2.2.2.1))
theorem pzf_0_9 : pz_fld 0 9 = some (0, 4) := by decide +kernel
theorem pzf_0_15 : pz_fld 0 15 = some (0, 5) := by decide +kernel
theorem pzf_0_18 : pz_fld 0 18 = some (0, 6) := by decide +kernel
theorem pzf_0_21 : pz_fld 0 21 = some (0, 7) := by decide +kernel
theorem pzf_0_24 : pz_fld 0 24 = some (0, 0) := by decide +kernel
theorem pzf_0_28 : pz_fld 0 28 = some (0, 1) := by decide +kernel
theorem pzf_0_31 : pz_fld 0 31 = some (0, 2) := by decide +kernel
theorem pzf_0_35 : pz_fld 0 35 = some (0, 3) := by decide +kernel
theorem pzf_1_11 : pz_fld 1 11 = some (1, 0) := by decide +kernel
theorem pzf_1_17 : pz_fld 1 17 = some (1, 2) := by decide +kernel
theorem pzf_1_21 : pz_fld 1 21 = some (1, 3) := by decide +kernel
theorem pzf_1_24 : pz_fld 1 24 = some (1, 4) := by decide +kernel
theorem pzf_1_27 : pz_fld 1 27 = some (1, 6) := by decide +kernel
theorem pzf_1_31 : pz_fld 1 31 = some (1, 1) := by decide +kernel
theorem pzf_1_35 : pz_fld 1 35 = some (1, 5) := by decide +kernel
theorem pzf_1_48 : pz_fld 1 48 = some (0, 0) := by decide +kernel
theorem pzf_1_55 : pz_fld 1 55 = some (0, 6) := by decide +kernel
theorem pzf_1_65 : pz_fld 1 65 = some (0, 2) := by decide +kernel
theorem pzf_1_80 : pz_fld 1 80 = some (0, 4) := by decide +kernel
theorem pzf_1_83 : pz_fld 1 83 = some (0, 5) := by decide +kernel
theorem pzf_1_91 : pz_fld 1 91 = some (0, 1) := by decide +kernel
theorem pzf_1_97 : pz_fld 1 97 = some (0, 7) := by decide +kernel
theorem pzf_1_100 : pz_fld 1 100 = some (0, 3) := by decide +kernel
theorem pzf_2_13 : pz_fld 2 13 = some (2, 0) := by decide +kernel
theorem pzf_2_25 : pz_fld 2 25 = some (2, 1) := by decide +kernel
theorem pzf_2_32 : pz_fld 2 32 = some (2, 2) := by decide +kernel
theorem pzf_3_9 : pz_fld 3 9 = some (3, 0) := by decide +kernel
theorem pzf_3_15 : pz_fld 3 15 = some (3, 4) := by decide +kernel
theorem pzf_3_19 : pz_fld 3 19 = some (3, 2) := by decide +kernel
theorem pzf_3_27 : pz_fld 3 27 = some (3, 1) := by decide +kernel
theorem pzf_3_30 : pz_fld 3 30 = some (3, 3) := by decide +kernel
theorem pzf_4_9 : pz_fld 4 9 = some (4, 0) := by decide +kernel
theorem pzf_4_15 : pz_fld 4 15 = some (4, 1) := by decide +kernel
theorem pzf_4_18 : pz_fld 4 18 = some (4, 2) := by decide +kernel
theorem pzf_4_21 : pz_fld 4 21 = some (4, 3) := by decide +kernel
theorem pzf_4_24 : pz_fld 4 24 = some (4, 4) := by decide +kernel
theorem pzf_4_27 : pz_fld 4 27 = some (4, 5) := by decide +kernel
theorem pzf_4_31 : pz_fld 4 31 = some (4, 6) := by decide +kernel
theorem pzf_4_34 : pz_fld 4 34 = some (4, 7) := by decide +kernel
theorem pzf_4_37 : pz_fld 4 37 = some (4, 8) := by decide +kernel
theorem pzf_4_54 : pz_fld 4 54 = some (1, 1) := by decide +kernel
theorem pzf_4_59 : pz_fld 4 59 = some (1, 0) := by decide +kernel
theorem pzf_4_63 : pz_fld 4 63 = some (0, 0) := by decide +kernel
theorem pzf_4_75 : pz_fld 4 75 = some (0, 1) := by decide +kernel
theorem pzf_4_94 : pz_fld 4 94 = some (0, 4) := by decide +kernel
theorem pzf_4_95 : pz_fld 4 95 = some (0, 5) := by decide +kernel
theorem pzf_5_10 : pz_fld 5 10 = some (5, 0) := by decide +kernel
theorem pzf_5_19 : pz_fld 5 19 = some (5, 1) := by decide +kernel
theorem pzf_6_10 : pz_fld 6 10 = some (6, 0) := by decide +kernel
theorem pzf_6_16 : pz_fld 6 16 = some (6, 1) := by decide +kernel
theorem pzf_6_22 : pz_fld 6 22 = some (6, 2) := by decide +kernel
theorem pzf_6_29 : pz_fld 6 29 = some (6, 3) := by decide +kernel
theorem pzf_6_33 : pz_fld 6 33 = some (6, 5) := by decide +kernel
theorem pzf_6_37 : pz_fld 6 37 = some (6, 6) := by decide +kernel
theorem pzf_6_40 : pz_fld 6 40 = some (5, 0) := by decide +kernel
theorem pzf_6_44 : pz_fld 6 44 = some (1, 1) := by decide +kernel
theorem pzf_6_108 : pz_fld 6 108 = some (1, 0) := by decide +kernel
theorem pzf_6_112 : pz_fld 6 112 = some (0, 0) := by decide +kernel
theorem pzf_6_123 : pz_fld 6 123 = some (0, 1) := by decide +kernel
theorem pzf_6_129 : pz_fld 6 129 = some (0, 3) := by decide +kernel
theorem pzf_6_144 : pz_fld 6 144 = some (0, 2) := by decide +kernel
theorem pzf_6_169 : pz_fld 6 169 = some (1, 2) := by decide +kernel
theorem pzf_6_192 : pz_fld 6 192 = some (1, 5) := by decide +kernel
theorem pzf_6_195 : pz_fld 6 195 = some (1, 3) := by decide +kernel
theorem pzf_6_198 : pz_fld 6 198 = some (1, 4) := by decide +kernel
theorem pzf_6_223 : pz_fld 6 223 = some (5, 1) := by decide +kernel
theorem pzf_6_255 : pz_fld 6 255 = some (4, 1) := by decide +kernel
theorem pzf_6_258 : pz_fld 6 258 = some (4, 5) := by decide +kernel
theorem pzf_6_289 : pz_fld 6 289 = some (4, 7) := by decide +kernel
theorem pzf_6_292 : pz_fld 6 292 = some (4, 8) := by decide +kernel
theorem pzf_6_313 : pz_fld 6 313 = some (3, 1) := by decide +kernel
theorem pzf_6_318 : pz_fld 6 318 = some (3, 0) := by decide +kernel
theorem pzf_6_325 : pz_fld 6 325 = some (3, 2) := by decide +kernel
theorem pzf_6_350 : pz_fld 6 350 = some (2, 2) := by decide +kernel
theorem pzf_6_361 : pz_fld 6 361 = some (6, 4) := by decide +kernel
theorem pzf_6_366 : pz_fld 6 366 = some (3, 4) := by decide +kernel
theorem pzf_6_369 : pz_fld 6 369 = some (3, 3) := by decide +kernel
theorem pzf_7_9 : pz_fld 7 9 = some (7, 0) := by decide +kernel
theorem pzf_7_13 : pz_fld 7 13 = some (7, 1) := by decide +kernel
theorem pzf_7_16 : pz_fld 7 16 = some (7, 2) := by decide +kernel
theorem pzf_7_19 : pz_fld 7 19 = some (7, 4) := by decide +kernel
theorem pzf_7_22 : pz_fld 7 22 = some (7, 8) := by decide +kernel
theorem pzf_7_25 : pz_fld 7 25 = some (7, 9) := by decide +kernel
theorem pzf_7_29 : pz_fld 7 29 = some (7, 13) := by decide +kernel
theorem pzf_7_33 : pz_fld 7 33 = some (7, 14) := by decide +kernel
theorem pzf_7_36 : pz_fld 7 36 = some (7, 15) := by decide +kernel
theorem pzf_7_42 : pz_fld 7 42 = some (7, 7) := by decide +kernel
theorem pzf_7_45 : pz_fld 7 45 = some (7, 5) := by decide +kernel
theorem pzf_7_60 : pz_fld 7 60 = some (7, 6) := by decide +kernel
theorem pzf_7_207 : pz_fld 7 207 = some (7, 10) := by decide +kernel
theorem pzf_7_210 : pz_fld 7 210 = some (7, 12) := by decide +kernel
theorem pzf_7_214 : pz_fld 7 214 = some (7, 11) := by decide +kernel
theorem pzf_7_228 : pz_fld 7 228 = some (7, 16) := by decide +kernel
theorem pzf_7_251 : pz_fld 7 251 = some (7, 3) := by decide +kernel
abbrev pz_ME : Type := MethodName × ByteArray × Nat × Option FieldType × Nat × Nat × Nat × List (Nat × Nat × Nat × Nat) × List Nat
def pz_word (e : pz_ME) : Cond := match e with
  | (y, cc, nL, rt, _, _, _, [], _) => .code y cc nL rt
  | (y, cc, nL, rt, _, _, _, hh, _) => .codeWith y cc nL rt hh
def pz_mP (e : pz_ME) : Prop := plainName e.1.cls = true ∧ e.2.2.1 ≤ 17 ∧ e.1.cls = pz_R e.2.2.2.2.1 ∧ (parseMethodDescriptor e.1.desc).map (fun d => d.parameters.length) = some e.2.2.2.2.2.1 ∧ e.1.cls ≠ "java/lang/invoke/MethodHandle" ∧ e.1.cls ≠ "java/lang/invoke/VarHandle" ∧ (e.2.2.2.2.2.2.1 = 2 ↔ e.1.name = "<init>") ∧ (e.2.2.2.2.2.2.1 = 2 → e.2.2.2.1 = none ∧ e.2.2.2.2.2.2.2.1 = []) ∧ lw_tbl[e.2.2.2.2.2.2.2.2.getD 0 0]? = some (pz_word e) ∧ goodWord (pz_word e) = true ∧ lw_tbl[e.2.2.2.2.2.2.2.2.getD 1 0]? = some (if e.2.2.2.2.2.2.1 = 0 then .static e.1 else .instanceMethod e.1) ∧ (e.2.2.2.2.2.2.1 = 1 → lw_tbl[e.2.2.2.2.2.2.2.2.getD 2 0]? = some (.selects e.1.cls e.1 e.1)) ∧ lw_tbl[e.2.2.2.2.2.2.2.2.getD 3 0]? = some (.initialized e.1.cls)
def pz_tabL_0 : List (pz_ME) := [(yX0_init, cX0_init, 1, none, 0, 0, 2, [], [116, 115, 70, 70]), (yX0_makeNew, cX0_makeNew, 3, none, 0, 1, 1, [], [494, 492, 493, 70]), (yX0_copyFrom, cX0_copyFrom, 2, none, 0, 1, 1, [], [355, 353, 354, 70]), (yX0_partRow, cX0_partRow, 2, (some (.array .int)), 0, 1, 1, [], [653, 651, 652, 70]), (yX0_isTracking, cX0_isTracking, 2, (some .boolean), 0, 1, 1, [], [535, 533, 534, 70]), (yX0_instructionCount, cX0_instructionCount, 3, (some .int), 0, 0, 1, [], [547, 545, 546, 70]), (yX0_partFor, cX0_partFor, 2, (some .int), 0, 1, 1, [], [677, 675, 676, 70]), (yX1_isMoving, cX1_isMoving, 3, (some .boolean), 1, 2, 1, [], [669, 667, 668, 69]), (yX1_movingSet, cX1_movingSet, 4, (some .int), 1, 1, 1, [], [665, 663, 664, 69]), (yX1_lengthOf, cX1_lengthOf, 6, (some .int), 1, 1, 1, [], [673, 671, 672, 69]), (yX1_chainFrom, cX1_chainFrom, 4, (some .int), 1, 1, 1, [], [938, 936, 937, 69]), (yX1_listedLevel, cX1_listedLevel, 3, (some .int), 1, 1, 1, [], [761, 759, 760, 69])]
theorem pz_tabL_ok0 : ∀ e ∈ pz_tabL_0, pz_mP e := by unfold pz_mP; decide +kernel
def pz_tabL_1 : List (pz_ME) := [(yX1_listedPart, cX1_listedPart, 3, (some .int), 1, 1, 1, [], [766, 764, 765, 69]), (yX1_putInstruction, cX1_putInstruction, 6, none, 1, 4, 1, [], [587, 586, 7, 69]), (yX1_deleteInstruction, cX1_deleteInstruction, 6, none, 1, 2, 1, [], [583, 582, 6, 69]), (yX1_needsHold, cX1_needsHold, 4, (some .boolean), 1, 3, 1, [], [543, 542, 2, 69]), (yX1_levelWithoutInstruction, cX1_levelWithoutInstruction, 3, (some .int), 1, 2, 1, [], [746, 745, 9, 69]), (yX1_init, cX1_init, 2, none, 1, 0, 2, [], [109, 108, 69, 69]), (yX1_refusal, cX1_refusal, 4, (some .int), 1, 3, 1, [], [551, 550, 3, 69]), (yX1_refusalToGive, cX1_refusalToGive, 7, (some .int), 1, 4, 1, [], [715, 713, 714, 69]), (yX1_refusalToTake, cX1_refusalToTake, 8, (some .int), 1, 3, 1, [], [742, 740, 741, 69]), (yX1_refusalToDrop, cX1_refusalToDrop, 5, (some .int), 1, 2, 1, [], [523, 521, 522, 69]), (yX1_give, cX1_give, 8, (some .int), 1, 5, 1, [], [719, 717, 718, 69]), (yX1_take, cX1_take, 7, (some .int), 1, 3, 1, [], [750, 748, 749, 69])]
theorem pz_tabL_ok1 : ∀ e ∈ pz_tabL_1, pz_mP e := by unfold pz_mP; decide +kernel
def pz_tabL_2 : List (pz_ME) := [(yX1_changedFrom, cX1_changedFrom, 6, (some .int), 1, 3, 1, [], [723, 722, 8, 69]), (yX1_makeBlock, cX1_makeBlock, 6, (some .int), 1, 2, 1, [], [630, 628, 629, 69]), (yX1_insertCue, cX1_insertCue, 4, none, 1, 1, 1, [], [490, 488, 489, 69]), (yX1_dropCue, cX1_dropCue, 5, (some .int), 1, 2, 1, [], [575, 573, 574, 69]), (yX1_makeNew, cX1_makeNew, 2, none, 1, 0, 1, [], [318, 316, 317, 69]), (yX1_deleteCue, cX1_deleteCue, 5, (some .int), 1, 1, 1, [], [579, 578, 5, 69]), (yX1_sumOfMoving, cX1_sumOfMoving, 3, (some .int), 1, 0, 1, [], [959, 957, 958, 69]), (yX1_protectedCount, cX1_protectedCount, 3, (some .int), 1, 0, 1, [], [965, 963, 964, 69]), (yX1_blockCount, cX1_blockCount, 3, (some .int), 1, 0, 1, [], [969, 967, 968, 69]), (yX1_releaseCount, cX1_releaseCount, 3, (some .int), 1, 0, 1, [], [973, 971, 972, 69]), (yX1_copyFrom, cX1_copyFrom, 3, none, 1, 1, 1, [], [351, 349, 350, 69]), (yX1_indexOf, cX1_indexOf, 3, (some .int), 1, 1, 1, [], [384, 382, 383, 69])]
theorem pz_tabL_ok2 : ∀ e ∈ pz_tabL_2, pz_mP e := by unfold pz_mP; decide +kernel
def pz_tabL_3 : List (pz_ME) := [(yX1_levelMeant, cX1_levelMeant, 3, (some .int), 1, 2, 1, [], [539, 537, 538, 69]), (yX1_levelIn, cX1_levelIn, 4, (some .int), 1, 2, 1, [], [531, 529, 530, 69]), (yX1_levelBefore, cX1_levelBefore, 3, (some .int), 1, 2, 1, [], [527, 525, 526, 69]), (yX1_levelFromFirst, cX1_levelFromFirst, 6, (some .int), 1, 2, 1, [], [786, 784, 785, 69]), (yX1_sourceIndex, cX1_sourceIndex, 4, (some .int), 1, 2, 1, [], [797, 795, 796, 69]), (yX2_init, cX2_init, 2, none, 2, 0, 2, [], [241, 240, 72, 72]), (yX2_remember, cX2_remember, 2, none, 2, 1, 1, [], [474, 472, 473, 72]), (yX2_prepare, cX2_prepare, 2, none, 2, 1, 1, [], [478, 476, 477, 72]), (yX2_takePrepared, cX2_takePrepared, 2, none, 2, 1, 1, [], [1052, 1050, 1051, 72]), (yX2_countPrepared, cX2_countPrepared, 1, none, 2, 0, 1, [], [483, 481, 482, 72]), (yX2_takeLatest, cX2_takeLatest, 2, none, 2, 1, 1, [], [1074, 1072, 1073, 72]), (yX2_forgetAll, cX2_forgetAll, 1, none, 2, 0, 1, [], [326, 324, 325, 72])]
theorem pz_tabL_ok3 : ∀ e ∈ pz_tabL_3, pz_mP e := by unfold pz_mP; decide +kernel
def pz_tabL_4 : List (pz_ME) := [(yX3_init, cX3_init, 1, none, 3, 0, 2, [], [261, 260, 73, 73]), (yX3_countEntries, cX3_countEntries, 2, (some .int), 3, 0, 1, [], [995, 993, 994, 73]), (yX3_readEntry, cX3_readEntry, 3, (some .boolean), 3, 0, 1, [], [999, 997, 998, 73]), (yX3_numberCount, cX3_numberCount, 1, (some .int), 3, 1, 0, [], [1002, 1001, 73, 73]), (yX3_mostDigits, cX3_mostDigits, 2, (some .int), 3, 1, 1, [], [1014, 1013, 13, 73]), (yX3_readSign, cX3_readSign, 2, (some .boolean), 3, 1, 1, [], [1006, 1005, 11, 73]), (yX3_readNumber, cX3_readNumber, 4, (some .boolean), 3, 1, 1, [], [1010, 1009, 12, 73]), (yX3_isDigit, cX3_isDigit, 1, (some .boolean), 3, 1, 0, [], [1017, 1016, 73, 73]), (yX4_nextNumber, cX4_nextNumber, 3, (some .int), 4, 1, 1, [], [917, 915, 916, 71]), (yX4_lowerIndex, cX4_lowerIndex, 3, (some .int), 4, 1, 1, [], [853, 851, 852, 71]), (yX4_tenthsSinceLast, cX4_tenthsSinceLast, 1, (some .int), 4, 0, 1, [], [887, 885, 886, 71]), (yX4_tenthsToFollow, cX4_tenthsToFollow, 4, (some .int), 4, 1, 1, [], [882, 880, 881, 71])]
theorem pz_tabL_ok4 : ∀ e ∈ pz_tabL_4, pz_mP e := by unfold pz_mP; decide +kernel
def pz_tabL_5 : List (pz_ME) := [(yX4_letGo, cX4_letGo, 8, (some .int), 4, 2, 1, [], [836, 834, 835, 71]), (yX4_beginFade, cX4_beginFade, 5, none, 4, 4, 1, [], [842, 841, 10, 71]), (yX4_hasTimeFor, cX4_hasTimeFor, 2, (some .boolean), 4, 1, 1, [], [872, 870, 871, 71]), (yX4_letPass, cX4_letPass, 7, (some .int), 4, 2, 1, [], [878, 876, 877, 71]), (yX4_init, cX4_init, 1, none, 4, 0, 2, [], [194, 193, 71, 71]), (yX4_makeNew, cX4_makeNew, 2, none, 4, 0, 1, [], [322, 320, 321, 71]), (yX4_copyFrom, cX4_copyFrom, 2, none, 4, 1, 1, [], [363, 361, 362, 71]), (yX4_presentLevel, cX4_presentLevel, 4, (some .int), 4, 1, 1, [], [338, 336, 337, 71]), (yX4_isFading, cX4_isFading, 2, (some .boolean), 4, 1, 1, [], [925, 923, 924, 71]), (yX4_fadingSet, cX4_fadingSet, 3, (some .int), 4, 0, 1, [], [921, 919, 920, 71]), (yX4_sumOfPresent, cX4_sumOfPresent, 3, (some .int), 4, 0, 1, [], [334, 332, 333, 71]), (yX4_sumOfTargets, cX4_sumOfTargets, 3, (some .int), 4, 0, 1, [], [949, 947, 948, 71])]
theorem pz_tabL_ok5 : ∀ e ∈ pz_tabL_5, pz_mP e := by unfold pz_mP; decide +kernel
def pz_tabL_6 : List (pz_ME) := [(yX4_nextIndex, cX4_nextIndex, 3, (some .int), 4, 1, 1, [], [831, 829, 830, 71]), (yX5_init, cX5_init, 1, none, 5, 0, 2, [], [103, 102, 68, 68]), (yX5_makeNew, cX5_makeNew, 1, none, 5, 0, 1, [], [314, 312, 313, 68]), (yX5_copyFrom, cX5_copyFrom, 2, none, 5, 1, 1, [], [347, 345, 346, 68]), (yX6_cue, cX6_cue, 5, (some .int), 6, 2, 1, [], [660, 658, 659, 67]), (yX6_part, cX6_part, 5, (some .int), 6, 3, 1, [], [688, 686, 687, 67]), (yX6_setHome, cX6_setHome, 4, (some .int), 6, 2, 1, [], [695, 693, 694, 67]), (yX6_set, cX6_set, 7, (some .int), 6, 5, 1, [], [710, 708, 709, 67]), (yX6_release, cX6_release, 6, (some .int), 6, 4, 1, [], [730, 728, 729, 67]), (yX6_unset, cX6_unset, 5, (some .int), 6, 3, 1, [], [737, 735, 736, 67]), (yX6_instruction, cX6_instruction, 3, (some .int), 6, 2, 1, [], [757, 755, 756, 67]), (yX6_level, cX6_level, 4, (some .int), 6, 2, 1, [], [774, 772, 773, 67])]
theorem pz_tabL_ok6 : ∀ e ∈ pz_tabL_6, pz_mP e := by unfold pz_mP; decide +kernel
def pz_tabL_7 : List (pz_ME) := [(yX6_levelAgain, cX6_levelAgain, 4, (some .int), 6, 2, 1, [], [782, 780, 781, 67]), (yX6_source, cX6_source, 4, (some .int), 6, 2, 1, [], [793, 791, 792, 67]), (yX6_init, cX6_init, 1, none, 6, 0, 2, [], [95, 94, 67, 67]), (yX6_sum, cX6_sum, 5, (some .int), 6, 1, 1, [], [804, 802, 803, 67]), (yX6_apart, cX6_apart, 7, (some .int), 6, 2, 1, [], [811, 809, 810, 67]), (yX6_reason, cX6_reason, 1, (some .int), 6, 0, 1, [], [819, 817, 818, 67]), (yX6_go, cX6_go, 2, (some .int), 6, 0, 1, [], [827, 825, 826, 67]), (yX6_back, cX6_back, 2, (some .int), 6, 0, 1, [], [849, 847, 848, 67]), (yX6_jump, cX6_jump, 3, (some .int), 6, 1, 1, [], [861, 859, 860, 67]), (yX6_pass, cX6_pass, 2, (some .int), 6, 1, 1, [], [868, 866, 867, 67]), (yX6_now, cX6_now, 2, (some .int), 6, 1, 1, [], [897, 895, 896, 67]), (yX6_target, cX6_target, 2, (some .int), 6, 1, 1, [], [905, 903, 904, 67])]
theorem pz_tabL_ok7 : ∀ e ∈ pz_tabL_7, pz_mP e := by unfold pz_mP; decide +kernel
def pz_tabL_8 : List (pz_ME) := [(yX6_playing, cX6_playing, 2, (some .int), 6, 1, 1, [], [912, 910, 911, 67]), (yX6_clear, cX6_clear, 2, (some .int), 6, 0, 1, [], [310, 308, 309, 67]), (yX6_chain, cX6_chain, 3, (some .int), 6, 1, 1, [], [934, 932, 933, 67]), (yX6_account, cX6_account, 2, (some .int), 6, 1, 1, [], [945, 943, 944, 67]), (yX6_meanLevel, cX6_meanLevel, 1, (some .double), 6, 0, 1, [], [330, 328, 329, 67]), (yX6_append, cX6_append, 2, (some .int), 6, 1, 1, [], [982, 980, 981, 67]), (yX6_read, cX6_read, 4, (some .int), 6, 0, 1, [], [991, 989, 990, 67]), (yX6_errorPosition, cX6_errorPosition, 1, (some .int), 6, 0, 1, [], [1061, 1059, 1060, 67]), (yX6_undo, cX6_undo, 1, (some .int), 6, 0, 1, [], [1069, 1067, 1068, 67]), (yX6_save, cX6_save, 1, (some .int), 6, 0, 1, [], [343, 341, 342, 67]), (yX6_restore, cX6_restore, 1, (some .int), 6, 0, 1, [], [1081, 1079, 1080, 67]), (yX6_isWithin, cX6_isWithin, 3, (some .boolean), 6, 3, 0, [], [380, 379, 67, 67])]
theorem pz_tabL_ok8 : ∀ e ∈ pz_tabL_8, pz_mP e := by unfold pz_mP; decide +kernel
def pz_tabL_9 : List (pz_ME) := [(yX6_addCue, cX6_addCue, 2, (some .int), 6, 1, 1, [], [373, 371, 372, 67]), (yX6_isChannel, cX6_isChannel, 1, (some .boolean), 6, 1, 0, [], [698, 697, 67, 67]), (yX6_isLevel, cX6_isLevel, 1, (some .boolean), 6, 1, 0, [], [702, 701, 67, 67]), (yX6_isPart, cX6_isPart, 1, (some .boolean), 6, 1, 0, [], [647, 646, 67, 67]), (yX6_isFreeNumber, cX6_isFreeNumber, 2, (some .boolean), 6, 1, 1, [], [377, 376, 0, 67]), (yX6_keepIfRefused, cX6_keepIfRefused, 2, (some .boolean), 6, 1, 1, [], [555, 554, 4, 67]), (yX6_performEntry, cX6_performEntry, 3, (some .boolean), 6, 0, 1, [], [1024, 1023, 14, 67]), (yX6_performAdd, cX6_performAdd, 2, (some .boolean), 6, 1, 1, [], [1028, 1027, 15, 67]), (yX6_performRemove, cX6_performRemove, 2, (some .boolean), 6, 1, 1, [], [1032, 1031, 16, 67]), (yX6_performGive, cX6_performGive, 4, (some .boolean), 6, 3, 1, [], [1036, 1035, 17, 67]), (yX6_performGo, cX6_performGo, 2, (some .boolean), 6, 0, 1, [], [1040, 1039, 18, 67]), (yX6_removeCue, cX6_removeCue, 4, (some .int), 6, 2, 1, [], [503, 501, 502, 67])]
theorem pz_tabL_ok9 : ∀ e ∈ pz_tabL_9, pz_mP e := by unfold pz_mP; decide +kernel
def pz_tabL_10 : List (pz_ME) := [(yX6_performJump, cX6_performJump, 2, (some .boolean), 6, 1, 1, [], [1044, 1043, 19, 67]), (yX6_performPass, cX6_performPass, 2, (some .boolean), 6, 1, 1, [], [1048, 1047, 20, 67]), (yX6_cueAt, cX6_cueAt, 2, (some .int), 6, 1, 1, [], [595, 593, 594, 67]), (yX6_setFollow, cX6_setFollow, 6, (some .int), 6, 2, 1, [], [618, 616, 617, 67]), (yX6_setBlock, cX6_setBlock, 4, (some .int), 6, 2, 1, [], [626, 624, 625, 67]), (yX6_setProtected, cX6_setProtected, 6, (some .boolean), 6, 2, 1, [], [637, 635, 636, 67]), (yX6_setPart, cX6_setPart, 8, (some .int), 6, 4, 1, [], [644, 642, 643, 67]), (yX7_at, cX7_at, 1, (some .int), 7, 1, 0, [], [1179, 1178, 74, 74]), (yX7_placeOf, cX7_placeOf, 3, (some .int), 7, 1, 1, [], [1176, 1175, 25, 74]), (yX7_isCue, cX7_isCue, 2, (some .boolean), 7, 1, 1, [], [1172, 1171, 24, 74]), (yX7_isBlock, cX7_isBlock, 2, (some .boolean), 7, 1, 1, [], [1215, 1214, 31, 74]), (yX7_isChannel, cX7_isChannel, 1, (some .boolean), 7, 1, 0, [], [1262, 1261, 74, 74])]
theorem pz_tabL_ok10 : ∀ e ∈ pz_tabL_10, pz_mP e := by unfold pz_mP; decide +kernel
def pz_tabL_11 : List (pz_ME) := [(yX7_isPart, cX7_isPart, 1, (some .boolean), 7, 1, 0, [], [1226, 1225, 74, 74]), (yX7_doAdd, cX7_doAdd, 4, (some .int), 7, 1, 1, [], [1165, 1164, 23, 74]), (yX7_addCue, cX7_addCue, 2, (some .int), 7, 1, 1, [], [1156, 1154, 1155, 74]), (yX7_cueAt, cX7_cueAt, 2, (some .int), 7, 1, 1, [], [1187, 1185, 1186, 74]), (yX7_setFollow, cX7_setFollow, 4, (some .int), 7, 2, 1, [], [1191, 1189, 1190, 74]), (yX7_init, cX7_init, 1, none, 7, 0, 2, [], [1087, 1086, 74, 74]), (yX7_keepLevels, cX7_keepLevels, 3, none, 7, 0, 1, [], [1203, 1202, 28, 74]), (yX7_setBlock, cX7_setBlock, 6, (some .int), 7, 2, 1, [], [1199, 1197, 1198, 74]), (yX7_setProtected, cX7_setProtected, 5, (some .boolean), 7, 2, 1, [], [1219, 1217, 1218, 74]), (yX7_partAt, cX7_partAt, 4, (some .int), 7, 3, 1, [], [1230, 1229, 32, 74]), (yX7_setPart, cX7_setPart, 7, (some .int), 7, 4, 1, [], [1223, 1221, 1222, 74]), (yX7_part, cX7_part, 4, (some .int), 7, 3, 1, [], [1234, 1232, 1233, 74])]
theorem pz_tabL_ok11 : ∀ e ∈ pz_tabL_11, pz_mP e := by unfold pz_mP; decide +kernel
def pz_tabL_12 : List (pz_ME) := [(yX7_given, cX7_given, 4, (some .int), 7, 2, 1, [], [1211, 1210, 30, 74]), (yX7_give, cX7_give, 7, none, 7, 4, 1, [], [1282, 1281, 40, 74]), (yX7_takeAway, cX7_takeAway, 2, none, 7, 1, 1, [], [1310, 1309, 45, 74]), (yX7_levelIn, cX7_levelIn, 6, (some .int), 7, 2, 1, [], [1207, 1206, 29, 74]), (yX7_thrown, cX7_thrown, 1, (some .int), 7, 0, 1, [], [1148, 1146, 1147, 74]), (yX7_moves, cX7_moves, 4, (some .boolean), 7, 2, 1, [], [1246, 1245, 34, 74]), (yX7_partOf, cX7_partOf, 4, (some .int), 7, 2, 1, [], [1254, 1253, 36, 74]), (yX7_lengthOf, cX7_lengthOf, 4, (some .int), 7, 2, 1, [], [1250, 1249, 35, 74]), (yX7_countOf, cX7_countOf, 4, (some .int), 7, 1, 1, [], [1242, 1241, 33, 74]), (yX7_cue, cX7_cue, 7, (some .int), 7, 2, 1, [], [1238, 1236, 1237, 74]), (yX7_setHome, cX7_setHome, 4, (some .int), 7, 2, 1, [], [1259, 1257, 1258, 74]), (yX7_hold, cX7_hold, 5, (some .int), 7, 2, 1, [], [1286, 1285, 41, 74])]
theorem pz_tabL_ok12 : ∀ e ∈ pz_tabL_12, pz_mP e := by unfold pz_mP; decide +kernel
def pz_tabL_13 : List (pz_ME) := [(yX7_changed, cX7_changed, 4, (some .int), 7, 1, 1, [], [1294, 1293, 43, 74]), (yX7_giveHeld, cX7_giveHeld, 8, (some .int), 7, 5, 1, [], [1274, 1273, 38, 74]), (yX7_wouldHoldProtected, cX7_wouldHoldProtected, 7, (some .boolean), 7, 3, 1, [], [1278, 1277, 39, 74]), (yX7_in, cX7_in, 3, (some .boolean), 7, 3, 0, [], [1168, 1167, 74, 74]), (yX7_doGive, cX7_doGive, 7, (some .int), 7, 5, 1, [], [1270, 1269, 37, 74]), (yX7_set, cX7_set, 6, (some .int), 7, 5, 1, [], [1266, 1264, 1265, 74]), (yX7_release, cX7_release, 5, (some .int), 7, 4, 1, [], [1298, 1296, 1297, 74]), (yX7_takeHeld, cX7_takeHeld, 6, (some .int), 7, 3, 1, [], [1306, 1305, 44, 74]), (yX7_unset, cX7_unset, 5, (some .int), 7, 3, 1, [], [1302, 1300, 1301, 74]), (yX7_doRemove, cX7_doRemove, 5, (some .int), 7, 2, 1, [], [1318, 1317, 46, 74]), (yX7_removeCue, cX7_removeCue, 4, (some .int), 7, 2, 1, [], [1314, 1312, 1313, 74]), (yX7_instruction, cX7_instruction, 3, (some .int), 7, 2, 1, [], [1322, 1320, 1321, 74])]
theorem pz_tabL_ok13 : ∀ e ∈ pz_tabL_13, pz_mP e := by unfold pz_mP; decide +kernel
def pz_tabL_14 : List (pz_ME) := [(yX7_level, cX7_level, 3, (some .int), 7, 2, 1, [], [1326, 1324, 1325, 74]), (yX7_levelAgain, cX7_levelAgain, 3, (some .int), 7, 2, 1, [], [1330, 1328, 1329, 74]), (yX7_begin, cX7_begin, 2, none, 7, 0, 1, [], [1092, 1091, 21, 74]), (yX7_source, cX7_source, 4, (some .int), 7, 2, 1, [], [1335, 1333, 1334, 74]), (yX7_sum, cX7_sum, 4, (some .int), 7, 1, 1, [], [1339, 1337, 1338, 74]), (yX7_apart, cX7_apart, 5, (some .int), 7, 2, 1, [], [1343, 1341, 1342, 74]), (yX7_reason, cX7_reason, 1, (some .int), 7, 0, 1, [], [1347, 1345, 1346, 74]), (yX7_fade, cX7_fade, 1, (some .int), 7, 1, 0, [], [1374, 1373, 74, 74]), (yX7_nowOf, cX7_nowOf, 8, (some .int), 7, 1, 1, [], [1378, 1377, 52, 74]), (yX7_isFading, cX7_isFading, 3, (some .boolean), 7, 1, 1, [], [1419, 1418, 56, 74]), (yX7_goes, cX7_goes, 8, (some .int), 7, 1, 1, [], [1371, 1370, 51, 74]), (yX7_nextCue, cX7_nextCue, 3, (some .int), 7, 1, 1, [], [1367, 1366, 50, 74])]
theorem pz_tabL_ok14 : ∀ e ∈ pz_tabL_14, pz_mP e := by unfold pz_mP; decide +kernel
def pz_tabL_15 : List (pz_ME) := [(yX7_cueAhead, cX7_cueAhead, 4, (some .int), 7, 1, 1, [], [1363, 1362, 49, 74]), (yX7_keepState, cX7_keepState, 1, none, 7, 0, 1, [], [1160, 1159, 22, 74]), (yX7_doGo, cX7_doGo, 3, (some .int), 7, 1, 1, [], [1359, 1358, 48, 74]), (yX7_steps, cX7_steps, 2, (some .int), 7, 1, 1, [], [1355, 1354, 47, 74]), (yX7_go, cX7_go, 1, (some .int), 7, 0, 1, [], [1351, 1349, 1350, 74]), (yX7_back, cX7_back, 1, (some .int), 7, 0, 1, [], [1382, 1380, 1381, 74]), (yX7_jump, cX7_jump, 2, (some .int), 7, 1, 1, [], [1386, 1384, 1385, 74]), (yX7_follows, cX7_follows, 2, (some .boolean), 7, 0, 1, [], [1399, 1398, 54, 74]), (yX7_doPass, cX7_doPass, 4, (some .int), 7, 1, 1, [], [1394, 1393, 53, 74]), (yX7_pass, cX7_pass, 3, (some .int), 7, 1, 1, [], [1390, 1388, 1389, 74]), (yX7_now, cX7_now, 2, (some .int), 7, 1, 1, [], [1403, 1401, 1402, 74]), (yX7_target, cX7_target, 2, (some .int), 7, 1, 1, [], [1407, 1405, 1406, 74])]
theorem pz_tabL_ok15 : ∀ e ∈ pz_tabL_15, pz_mP e := by unfold pz_mP; decide +kernel
def pz_tabL_16 : List (pz_ME) := [(yX7_change, cX7_change, 1, none, 7, 0, 1, [], [1183, 1182, 26, 74]), (yX7_fading, cX7_fading, 3, (some .int), 7, 0, 1, [], [1415, 1414, 55, 74]), (yX7_playing, cX7_playing, 2, (some .int), 7, 1, 1, [], [1411, 1409, 1410, 74]), (yX7_chain, cX7_chain, 4, (some .int), 7, 1, 1, [], [1423, 1421, 1422, 74]), (yX7_overChannels, cX7_overChannels, 4, (some .int), 7, 1, 1, [], [1431, 1430, 57, 74]), (yX7_overCues, cX7_overCues, 5, (some .int), 7, 1, 1, [], [1435, 1434, 58, 74]), (yX7_account, cX7_account, 4, (some .int), 7, 1, 1, [], [1427, 1425, 1426, 74]), (yX7_meanLevel, cX7_meanLevel, 1, (some .double), 7, 0, 1, [], [1439, 1437, 1438, 74]), (yX7_append, cX7_append, 2, (some .int), 7, 1, 1, [], [1444, 1442, 1443, 74]), (yX7_isHere, cX7_isHere, 3, (some .boolean), 7, 2, 1, [], [1543, 1542, 61, 74]), (yX7_sign, cX7_sign, 2, none, 7, 1, 1, [], [1551, 1550, 63, 74]), (yX7_changes, cX7_changes, 1, none, 7, 0, 1, [], [1195, 1194, 27, 74])]
theorem pz_tabL_ok16 : ∀ e ∈ pz_tabL_16, pz_mP e := by unfold pz_mP; decide +kernel
def pz_tabL_17 : List (pz_ME) := [(yX7_number, cX7_number, 4, (some .int), 7, 1, 1, [], [1539, 1538, 60, 74]), (yX7_behind, cX7_behind, 3, (some .int), 7, 2, 1, [], [1547, 1546, 62, 74]), (yX7_readEntry, cX7_readEntry, 3, none, 7, 0, 1, [], [1452, 1451, 59, 74]), (yX7_isTold, cX7_isTold, 2, (some .boolean), 7, 1, 1, [], [1559, 1558, 65, 74]), (yX7_fails, cX7_fails, 5, (some .boolean), 7, 1, 1, [], [1555, 1554, 64, 74]), (yX7_read, cX7_read, 2, (some .int), 7, 0, 1, [], [1448, 1446, 1447, 74]), (yX7_errorPosition, cX7_errorPosition, 1, (some .int), 7, 0, 1, [], [1563, 1561, 1562, 74]), (yX7_undo, cX7_undo, 1, (some .int), 7, 0, 1, [], [1567, 1565, 1566, 74]), (yX7_save, cX7_save, 1, (some .int), 7, 0, 1, [], [1571, 1569, 1570, 74]), (yX7_restore, cX7_restore, 1, (some .int), 7, 0, 1, [], [1575, 1573, 1574, 74]), (yX7_refuse, cX7_refuse, 2, (some .int), 7, 1, 1, [], [1290, 1289, 42, 74]), (yX7_clear, cX7_clear, 2, (some .int), 7, 0, 1, [], [1152, 1150, 1151, 74])]
theorem pz_tabL_ok17 : ∀ e ∈ pz_tabL_17, pz_mP e := by unfold pz_mP; decide +kernel
def pz_tabL_18 : List (pz_ME) := [(yL_cue, cL_cue, 5, (some .int), 8, 4, 0, [(0, 10, 13, 21), (0, 10, 17, 13)], [656, 655, 66, 66]), (yL_part, cL_part, 6, (some .int), 8, 5, 0, [(0, 12, 15, 21)], [684, 683, 66, 66]), (yL_setHome, cL_setHome, 5, (some .int), 8, 4, 0, [(0, 10, 13, 21), (0, 10, 17, 13)], [691, 690, 66, 66]), (yL_set, cL_set, 8, (some .int), 8, 7, 0, [(0, 16, 19, 21), (0, 16, 23, 13), (0, 16, 27, 23)], [706, 705, 66, 66]), (yL_release, cL_release, 7, (some .int), 8, 6, 0, [(0, 14, 17, 21), (0, 14, 21, 23)], [726, 725, 66, 66]), (yL_unset, cL_unset, 6, (some .int), 8, 5, 0, [(0, 12, 15, 21), (0, 12, 19, 23)], [733, 732, 66, 66]), (yL_instruction, cL_instruction, 5, (some .int), 8, 4, 0, [(0, 10, 13, 28), (0, 10, 17, 13)], [753, 752, 66, 66]), (yL_level, cL_level, 5, (some .int), 8, 4, 0, [(0, 10, 13, 21)], [770, 769, 66, 66]), (yL_levelAgain, cL_levelAgain, 5, (some .int), 8, 4, 0, [(0, 10, 13, 21)], [778, 777, 66, 66]), (yL_source, cL_source, 5, (some .int), 8, 4, 0, [(0, 10, 13, 21)], [789, 788, 66, 66]), (yL_sum, cL_sum, 4, (some .int), 8, 3, 0, [(0, 9, 12, 21)], [800, 799, 66, 66]), (yL_apart, cL_apart, 5, (some .int), 8, 4, 0, [(0, 10, 13, 21)], [807, 806, 66, 66])]
theorem pz_tabL_ok18 : ∀ e ∈ pz_tabL_18, pz_mP e := by unfold pz_mP; decide +kernel
def pz_tabL_19 : List (pz_ME) := [(yL_reason, cL_reason, 3, (some .int), 8, 2, 0, [(0, 8, 11, 28)], [815, 814, 66, 66]), (yL_go, cL_go, 3, (some .int), 8, 2, 0, [(0, 8, 11, 23)], [823, 822, 66, 66]), (yL_back, cL_back, 3, (some .int), 8, 2, 0, [(0, 8, 11, 23)], [845, 844, 66, 66]), (yL_jump, cL_jump, 4, (some .int), 8, 3, 0, [(0, 9, 12, 21)], [857, 856, 66, 66]), (yL_pass, cL_pass, 4, (some .int), 8, 3, 0, [(0, 9, 12, 13), (0, 9, 15, 15)], [864, 863, 66, 66]), (yL_now, cL_now, 4, (some .int), 8, 3, 0, [(0, 9, 12, 21)], [893, 892, 66, 66]), (yL_target, cL_target, 4, (some .int), 8, 3, 0, [(0, 9, 12, 21)], [901, 900, 66, 66]), (yL_playing, cL_playing, 4, (some .int), 8, 3, 0, [(0, 9, 12, 13)], [908, 907, 66, 66]), (yL_chain, cL_chain, 4, (some .int), 8, 3, 0, [(0, 9, 12, 21)], [930, 929, 66, 66]), (yL_account, cL_account, 4, (some .int), 8, 3, 0, [(0, 9, 12, 13)], [941, 940, 66, 66]), (yL_append, cL_append, 4, (some .int), 8, 3, 0, [(0, 9, 12, 13), (0, 9, 15, 15)], [978, 977, 66, 66]), (yL_read, cL_read, 3, (some .int), 8, 2, 0, [(0, 8, 11, 13), (0, 8, 14, 15)], [987, 986, 66, 66])]
theorem pz_tabL_ok19 : ∀ e ∈ pz_tabL_19, pz_mP e := by unfold pz_mP; decide +kernel
def pz_tabL_20 : List (pz_ME) := [(yL_errorPosition, cL_errorPosition, 3, (some .int), 8, 2, 0, [(0, 8, 11, 28)], [1057, 1056, 66, 66]), (yL_undo, cL_undo, 3, (some .int), 8, 2, 0, [(0, 8, 11, 28)], [1065, 1064, 66, 66]), (yL_restore, cL_restore, 3, (some .int), 8, 2, 0, [(0, 8, 11, 15)], [1077, 1076, 66, 66]), (yL_addCue, cL_addCue, 4, (some .int), 8, 3, 0, [(0, 9, 12, 13), (0, 9, 15, 15)], [367, 366, 66, 66]), (yL_removeCue, cL_removeCue, 5, (some .int), 8, 4, 0, [(0, 10, 13, 21), (0, 10, 17, 23)], [497, 496, 66, 66]), (yL_cueAt, cL_cueAt, 4, (some .int), 8, 3, 0, [(0, 9, 12, 28)], [590, 589, 66, 66]), (yL_setFollow, cL_setFollow, 5, (some .int), 8, 4, 0, [(0, 10, 13, 21), (0, 10, 17, 13)], [614, 613, 66, 66]), (yL_setBlock, cL_setBlock, 5, (some .int), 8, 4, 0, [(0, 10, 13, 21)], [622, 621, 66, 66]), (yL_setProtected, cL_setProtected, 5, (some .int), 8, 4, 0, [(0, 17, 20, 21)], [633, 632, 66, 66]), (yL_setPart, cL_setPart, 7, (some .int), 8, 6, 0, [(0, 14, 17, 21), (0, 14, 21, 13)], [640, 639, 66, 66]), (yJ6_bitCount_0f7a4, cJ6_bitCount_0f7a4, 1, (some .int), 9, 1, 0, [], [952, 951, 85, 85])]
theorem pz_tabL_ok20 : ∀ e ∈ pz_tabL_20, pz_mP e := by unfold pz_mP; decide +kernel
def pz_tabL : List (pz_ME) := pz_tabL_0 ++ pz_tabL_1 ++ pz_tabL_2 ++ pz_tabL_3 ++ pz_tabL_4 ++ pz_tabL_5 ++ pz_tabL_6 ++ pz_tabL_7 ++ pz_tabL_8 ++ pz_tabL_9 ++ pz_tabL_10 ++ pz_tabL_11 ++ pz_tabL_12 ++ pz_tabL_13 ++ pz_tabL_14 ++ pz_tabL_15 ++ pz_tabL_16 ++ pz_tabL_17 ++ pz_tabL_18 ++ pz_tabL_19 ++ pz_tabL_20
theorem pz_tabL_ok : ∀ e ∈ pz_tabL, pz_mP e := by
  intro e h
  simp only [pz_tabL, List.mem_append, or_assoc] at h
  rcases h with h | h | h | h | h | h | h | h | h | h | h | h | h | h | h | h | h | h | h | h | h
  · exact pz_tabL_ok0 e h
  · exact pz_tabL_ok1 e h
  · exact pz_tabL_ok2 e h
  · exact pz_tabL_ok3 e h
  · exact pz_tabL_ok4 e h
  · exact pz_tabL_ok5 e h
  · exact pz_tabL_ok6 e h
  · exact pz_tabL_ok7 e h
  · exact pz_tabL_ok8 e h
  · exact pz_tabL_ok9 e h
  · exact pz_tabL_ok10 e h
  · exact pz_tabL_ok11 e h
  · exact pz_tabL_ok12 e h
  · exact pz_tabL_ok13 e h
  · exact pz_tabL_ok14 e h
  · exact pz_tabL_ok15 e h
  · exact pz_tabL_ok16 e h
  · exact pz_tabL_ok17 e h
  · exact pz_tabL_ok18 e h
  · exact pz_tabL_ok19 e h
  · exact pz_tabL_ok20 e h
def pz_tab (y : Nat) : Option pz_ME := pz_tabL[y]?
theorem pzt_X0_init : pz_tab 0 = some (yX0_init, cX0_init, 1, none, 0, 0, 2, [], [116, 115, 70, 70]) := by with_unfolding_all rfl
theorem pzt_X0_makeNew : pz_tab 1 = some (yX0_makeNew, cX0_makeNew, 3, none, 0, 1, 1, [], [494, 492, 493, 70]) := by with_unfolding_all rfl
theorem pzt_X0_copyFrom : pz_tab 2 = some (yX0_copyFrom, cX0_copyFrom, 2, none, 0, 1, 1, [], [355, 353, 354, 70]) := by with_unfolding_all rfl
theorem pzt_X0_partRow : pz_tab 3 = some (yX0_partRow, cX0_partRow, 2, (some (.array .int)), 0, 1, 1, [], [653, 651, 652, 70]) := by with_unfolding_all rfl
theorem pzt_X0_isTracking : pz_tab 4 = some (yX0_isTracking, cX0_isTracking, 2, (some .boolean), 0, 1, 1, [], [535, 533, 534, 70]) := by with_unfolding_all rfl
theorem pzt_X0_instructionCount : pz_tab 5 = some (yX0_instructionCount, cX0_instructionCount, 3, (some .int), 0, 0, 1, [], [547, 545, 546, 70]) := by with_unfolding_all rfl
theorem pzt_X0_partFor : pz_tab 6 = some (yX0_partFor, cX0_partFor, 2, (some .int), 0, 1, 1, [], [677, 675, 676, 70]) := by with_unfolding_all rfl
theorem pzt_X1_isMoving : pz_tab 7 = some (yX1_isMoving, cX1_isMoving, 3, (some .boolean), 1, 2, 1, [], [669, 667, 668, 69]) := by with_unfolding_all rfl
theorem pzt_X1_movingSet : pz_tab 8 = some (yX1_movingSet, cX1_movingSet, 4, (some .int), 1, 1, 1, [], [665, 663, 664, 69]) := by with_unfolding_all rfl
theorem pzt_X1_lengthOf : pz_tab 9 = some (yX1_lengthOf, cX1_lengthOf, 6, (some .int), 1, 1, 1, [], [673, 671, 672, 69]) := by with_unfolding_all rfl
theorem pzt_X1_chainFrom : pz_tab 10 = some (yX1_chainFrom, cX1_chainFrom, 4, (some .int), 1, 1, 1, [], [938, 936, 937, 69]) := by with_unfolding_all rfl
theorem pzt_X1_listedLevel : pz_tab 11 = some (yX1_listedLevel, cX1_listedLevel, 3, (some .int), 1, 1, 1, [], [761, 759, 760, 69]) := by with_unfolding_all rfl
theorem pzt_X1_listedPart : pz_tab 12 = some (yX1_listedPart, cX1_listedPart, 3, (some .int), 1, 1, 1, [], [766, 764, 765, 69]) := by with_unfolding_all rfl
theorem pzt_X1_putInstruction : pz_tab 13 = some (yX1_putInstruction, cX1_putInstruction, 6, none, 1, 4, 1, [], [587, 586, 7, 69]) := by with_unfolding_all rfl
theorem pzt_X1_deleteInstruction : pz_tab 14 = some (yX1_deleteInstruction, cX1_deleteInstruction, 6, none, 1, 2, 1, [], [583, 582, 6, 69]) := by with_unfolding_all rfl
theorem pzt_X1_needsHold : pz_tab 15 = some (yX1_needsHold, cX1_needsHold, 4, (some .boolean), 1, 3, 1, [], [543, 542, 2, 69]) := by with_unfolding_all rfl
theorem pzt_X1_levelWithoutInstruction : pz_tab 16 = some (yX1_levelWithoutInstruction, cX1_levelWithoutInstruction, 3, (some .int), 1, 2, 1, [], [746, 745, 9, 69]) := by with_unfolding_all rfl
theorem pzt_X1_init : pz_tab 17 = some (yX1_init, cX1_init, 2, none, 1, 0, 2, [], [109, 108, 69, 69]) := by with_unfolding_all rfl
theorem pzt_X1_refusal : pz_tab 18 = some (yX1_refusal, cX1_refusal, 4, (some .int), 1, 3, 1, [], [551, 550, 3, 69]) := by with_unfolding_all rfl
theorem pzt_X1_refusalToGive : pz_tab 19 = some (yX1_refusalToGive, cX1_refusalToGive, 7, (some .int), 1, 4, 1, [], [715, 713, 714, 69]) := by with_unfolding_all rfl
theorem pzt_X1_refusalToTake : pz_tab 20 = some (yX1_refusalToTake, cX1_refusalToTake, 8, (some .int), 1, 3, 1, [], [742, 740, 741, 69]) := by with_unfolding_all rfl
theorem pzt_X1_refusalToDrop : pz_tab 21 = some (yX1_refusalToDrop, cX1_refusalToDrop, 5, (some .int), 1, 2, 1, [], [523, 521, 522, 69]) := by with_unfolding_all rfl
theorem pzt_X1_give : pz_tab 22 = some (yX1_give, cX1_give, 8, (some .int), 1, 5, 1, [], [719, 717, 718, 69]) := by with_unfolding_all rfl
theorem pzt_X1_take : pz_tab 23 = some (yX1_take, cX1_take, 7, (some .int), 1, 3, 1, [], [750, 748, 749, 69]) := by with_unfolding_all rfl
theorem pzt_X1_changedFrom : pz_tab 24 = some (yX1_changedFrom, cX1_changedFrom, 6, (some .int), 1, 3, 1, [], [723, 722, 8, 69]) := by with_unfolding_all rfl
theorem pzt_X1_makeBlock : pz_tab 25 = some (yX1_makeBlock, cX1_makeBlock, 6, (some .int), 1, 2, 1, [], [630, 628, 629, 69]) := by with_unfolding_all rfl
theorem pzt_X1_insertCue : pz_tab 26 = some (yX1_insertCue, cX1_insertCue, 4, none, 1, 1, 1, [], [490, 488, 489, 69]) := by with_unfolding_all rfl
theorem pzt_X1_dropCue : pz_tab 27 = some (yX1_dropCue, cX1_dropCue, 5, (some .int), 1, 2, 1, [], [575, 573, 574, 69]) := by with_unfolding_all rfl
theorem pzt_X1_makeNew : pz_tab 28 = some (yX1_makeNew, cX1_makeNew, 2, none, 1, 0, 1, [], [318, 316, 317, 69]) := by with_unfolding_all rfl
theorem pzt_X1_deleteCue : pz_tab 29 = some (yX1_deleteCue, cX1_deleteCue, 5, (some .int), 1, 1, 1, [], [579, 578, 5, 69]) := by with_unfolding_all rfl
theorem pzt_X1_sumOfMoving : pz_tab 30 = some (yX1_sumOfMoving, cX1_sumOfMoving, 3, (some .int), 1, 0, 1, [], [959, 957, 958, 69]) := by with_unfolding_all rfl
theorem pzt_X1_protectedCount : pz_tab 31 = some (yX1_protectedCount, cX1_protectedCount, 3, (some .int), 1, 0, 1, [], [965, 963, 964, 69]) := by with_unfolding_all rfl
theorem pzt_X1_blockCount : pz_tab 32 = some (yX1_blockCount, cX1_blockCount, 3, (some .int), 1, 0, 1, [], [969, 967, 968, 69]) := by with_unfolding_all rfl
theorem pzt_X1_releaseCount : pz_tab 33 = some (yX1_releaseCount, cX1_releaseCount, 3, (some .int), 1, 0, 1, [], [973, 971, 972, 69]) := by with_unfolding_all rfl
theorem pzt_X1_copyFrom : pz_tab 34 = some (yX1_copyFrom, cX1_copyFrom, 3, none, 1, 1, 1, [], [351, 349, 350, 69]) := by with_unfolding_all rfl
theorem pzt_X1_indexOf : pz_tab 35 = some (yX1_indexOf, cX1_indexOf, 3, (some .int), 1, 1, 1, [], [384, 382, 383, 69]) := by with_unfolding_all rfl
theorem pzt_X1_levelMeant : pz_tab 36 = some (yX1_levelMeant, cX1_levelMeant, 3, (some .int), 1, 2, 1, [], [539, 537, 538, 69]) := by with_unfolding_all rfl
theorem pzt_X1_levelIn : pz_tab 37 = some (yX1_levelIn, cX1_levelIn, 4, (some .int), 1, 2, 1, [], [531, 529, 530, 69]) := by with_unfolding_all rfl
theorem pzt_X1_levelBefore : pz_tab 38 = some (yX1_levelBefore, cX1_levelBefore, 3, (some .int), 1, 2, 1, [], [527, 525, 526, 69]) := by with_unfolding_all rfl
theorem pzt_X1_levelFromFirst : pz_tab 39 = some (yX1_levelFromFirst, cX1_levelFromFirst, 6, (some .int), 1, 2, 1, [], [786, 784, 785, 69]) := by with_unfolding_all rfl
theorem pzt_X1_sourceIndex : pz_tab 40 = some (yX1_sourceIndex, cX1_sourceIndex, 4, (some .int), 1, 2, 1, [], [797, 795, 796, 69]) := by with_unfolding_all rfl
theorem pzt_X2_init : pz_tab 41 = some (yX2_init, cX2_init, 2, none, 2, 0, 2, [], [241, 240, 72, 72]) := by with_unfolding_all rfl
theorem pzt_X2_remember : pz_tab 42 = some (yX2_remember, cX2_remember, 2, none, 2, 1, 1, [], [474, 472, 473, 72]) := by with_unfolding_all rfl
theorem pzt_X2_prepare : pz_tab 43 = some (yX2_prepare, cX2_prepare, 2, none, 2, 1, 1, [], [478, 476, 477, 72]) := by with_unfolding_all rfl
theorem pzt_X2_takePrepared : pz_tab 44 = some (yX2_takePrepared, cX2_takePrepared, 2, none, 2, 1, 1, [], [1052, 1050, 1051, 72]) := by with_unfolding_all rfl
theorem pzt_X2_countPrepared : pz_tab 45 = some (yX2_countPrepared, cX2_countPrepared, 1, none, 2, 0, 1, [], [483, 481, 482, 72]) := by with_unfolding_all rfl
theorem pzt_X2_takeLatest : pz_tab 46 = some (yX2_takeLatest, cX2_takeLatest, 2, none, 2, 1, 1, [], [1074, 1072, 1073, 72]) := by with_unfolding_all rfl
theorem pzt_X2_forgetAll : pz_tab 47 = some (yX2_forgetAll, cX2_forgetAll, 1, none, 2, 0, 1, [], [326, 324, 325, 72]) := by with_unfolding_all rfl
theorem pzt_X3_init : pz_tab 48 = some (yX3_init, cX3_init, 1, none, 3, 0, 2, [], [261, 260, 73, 73]) := by with_unfolding_all rfl
theorem pzt_X3_countEntries : pz_tab 49 = some (yX3_countEntries, cX3_countEntries, 2, (some .int), 3, 0, 1, [], [995, 993, 994, 73]) := by with_unfolding_all rfl
theorem pzt_X3_readEntry : pz_tab 50 = some (yX3_readEntry, cX3_readEntry, 3, (some .boolean), 3, 0, 1, [], [999, 997, 998, 73]) := by with_unfolding_all rfl
theorem pzt_X3_numberCount : pz_tab 51 = some (yX3_numberCount, cX3_numberCount, 1, (some .int), 3, 1, 0, [], [1002, 1001, 73, 73]) := by with_unfolding_all rfl
theorem pzt_X3_mostDigits : pz_tab 52 = some (yX3_mostDigits, cX3_mostDigits, 2, (some .int), 3, 1, 1, [], [1014, 1013, 13, 73]) := by with_unfolding_all rfl
theorem pzt_X3_readSign : pz_tab 53 = some (yX3_readSign, cX3_readSign, 2, (some .boolean), 3, 1, 1, [], [1006, 1005, 11, 73]) := by with_unfolding_all rfl
theorem pzt_X3_readNumber : pz_tab 54 = some (yX3_readNumber, cX3_readNumber, 4, (some .boolean), 3, 1, 1, [], [1010, 1009, 12, 73]) := by with_unfolding_all rfl
theorem pzt_X3_isDigit : pz_tab 55 = some (yX3_isDigit, cX3_isDigit, 1, (some .boolean), 3, 1, 0, [], [1017, 1016, 73, 73]) := by with_unfolding_all rfl
theorem pzt_X4_nextNumber : pz_tab 56 = some (yX4_nextNumber, cX4_nextNumber, 3, (some .int), 4, 1, 1, [], [917, 915, 916, 71]) := by with_unfolding_all rfl
theorem pzt_X4_lowerIndex : pz_tab 57 = some (yX4_lowerIndex, cX4_lowerIndex, 3, (some .int), 4, 1, 1, [], [853, 851, 852, 71]) := by with_unfolding_all rfl
theorem pzt_X4_tenthsSinceLast : pz_tab 58 = some (yX4_tenthsSinceLast, cX4_tenthsSinceLast, 1, (some .int), 4, 0, 1, [], [887, 885, 886, 71]) := by with_unfolding_all rfl
theorem pzt_X4_tenthsToFollow : pz_tab 59 = some (yX4_tenthsToFollow, cX4_tenthsToFollow, 4, (some .int), 4, 1, 1, [], [882, 880, 881, 71]) := by with_unfolding_all rfl
theorem pzt_X4_letGo : pz_tab 60 = some (yX4_letGo, cX4_letGo, 8, (some .int), 4, 2, 1, [], [836, 834, 835, 71]) := by with_unfolding_all rfl
theorem pzt_X4_beginFade : pz_tab 61 = some (yX4_beginFade, cX4_beginFade, 5, none, 4, 4, 1, [], [842, 841, 10, 71]) := by with_unfolding_all rfl
theorem pzt_X4_hasTimeFor : pz_tab 62 = some (yX4_hasTimeFor, cX4_hasTimeFor, 2, (some .boolean), 4, 1, 1, [], [872, 870, 871, 71]) := by with_unfolding_all rfl
theorem pzt_X4_letPass : pz_tab 63 = some (yX4_letPass, cX4_letPass, 7, (some .int), 4, 2, 1, [], [878, 876, 877, 71]) := by with_unfolding_all rfl
theorem pzt_X4_init : pz_tab 64 = some (yX4_init, cX4_init, 1, none, 4, 0, 2, [], [194, 193, 71, 71]) := by with_unfolding_all rfl
theorem pzt_X4_makeNew : pz_tab 65 = some (yX4_makeNew, cX4_makeNew, 2, none, 4, 0, 1, [], [322, 320, 321, 71]) := by with_unfolding_all rfl
theorem pzt_X4_copyFrom : pz_tab 66 = some (yX4_copyFrom, cX4_copyFrom, 2, none, 4, 1, 1, [], [363, 361, 362, 71]) := by with_unfolding_all rfl
theorem pzt_X4_presentLevel : pz_tab 67 = some (yX4_presentLevel, cX4_presentLevel, 4, (some .int), 4, 1, 1, [], [338, 336, 337, 71]) := by with_unfolding_all rfl
theorem pzt_X4_isFading : pz_tab 68 = some (yX4_isFading, cX4_isFading, 2, (some .boolean), 4, 1, 1, [], [925, 923, 924, 71]) := by with_unfolding_all rfl
theorem pzt_X4_fadingSet : pz_tab 69 = some (yX4_fadingSet, cX4_fadingSet, 3, (some .int), 4, 0, 1, [], [921, 919, 920, 71]) := by with_unfolding_all rfl
theorem pzt_X4_sumOfPresent : pz_tab 70 = some (yX4_sumOfPresent, cX4_sumOfPresent, 3, (some .int), 4, 0, 1, [], [334, 332, 333, 71]) := by with_unfolding_all rfl
theorem pzt_X4_sumOfTargets : pz_tab 71 = some (yX4_sumOfTargets, cX4_sumOfTargets, 3, (some .int), 4, 0, 1, [], [949, 947, 948, 71]) := by with_unfolding_all rfl
theorem pzt_X4_nextIndex : pz_tab 72 = some (yX4_nextIndex, cX4_nextIndex, 3, (some .int), 4, 1, 1, [], [831, 829, 830, 71]) := by with_unfolding_all rfl
theorem pzt_X5_init : pz_tab 73 = some (yX5_init, cX5_init, 1, none, 5, 0, 2, [], [103, 102, 68, 68]) := by with_unfolding_all rfl
theorem pzt_X5_makeNew : pz_tab 74 = some (yX5_makeNew, cX5_makeNew, 1, none, 5, 0, 1, [], [314, 312, 313, 68]) := by with_unfolding_all rfl
theorem pzt_X5_copyFrom : pz_tab 75 = some (yX5_copyFrom, cX5_copyFrom, 2, none, 5, 1, 1, [], [347, 345, 346, 68]) := by with_unfolding_all rfl
theorem pzt_X6_cue : pz_tab 76 = some (yX6_cue, cX6_cue, 5, (some .int), 6, 2, 1, [], [660, 658, 659, 67]) := by with_unfolding_all rfl
theorem pzt_X6_part : pz_tab 77 = some (yX6_part, cX6_part, 5, (some .int), 6, 3, 1, [], [688, 686, 687, 67]) := by with_unfolding_all rfl
theorem pzt_X6_setHome : pz_tab 78 = some (yX6_setHome, cX6_setHome, 4, (some .int), 6, 2, 1, [], [695, 693, 694, 67]) := by with_unfolding_all rfl
theorem pzt_X6_set : pz_tab 79 = some (yX6_set, cX6_set, 7, (some .int), 6, 5, 1, [], [710, 708, 709, 67]) := by with_unfolding_all rfl
theorem pzt_X6_release : pz_tab 80 = some (yX6_release, cX6_release, 6, (some .int), 6, 4, 1, [], [730, 728, 729, 67]) := by with_unfolding_all rfl
theorem pzt_X6_unset : pz_tab 81 = some (yX6_unset, cX6_unset, 5, (some .int), 6, 3, 1, [], [737, 735, 736, 67]) := by with_unfolding_all rfl
theorem pzt_X6_instruction : pz_tab 82 = some (yX6_instruction, cX6_instruction, 3, (some .int), 6, 2, 1, [], [757, 755, 756, 67]) := by with_unfolding_all rfl
theorem pzt_X6_level : pz_tab 83 = some (yX6_level, cX6_level, 4, (some .int), 6, 2, 1, [], [774, 772, 773, 67]) := by with_unfolding_all rfl
theorem pzt_X6_levelAgain : pz_tab 84 = some (yX6_levelAgain, cX6_levelAgain, 4, (some .int), 6, 2, 1, [], [782, 780, 781, 67]) := by with_unfolding_all rfl
theorem pzt_X6_source : pz_tab 85 = some (yX6_source, cX6_source, 4, (some .int), 6, 2, 1, [], [793, 791, 792, 67]) := by with_unfolding_all rfl
theorem pzt_X6_init : pz_tab 86 = some (yX6_init, cX6_init, 1, none, 6, 0, 2, [], [95, 94, 67, 67]) := by with_unfolding_all rfl
theorem pzt_X6_sum : pz_tab 87 = some (yX6_sum, cX6_sum, 5, (some .int), 6, 1, 1, [], [804, 802, 803, 67]) := by with_unfolding_all rfl
theorem pzt_X6_apart : pz_tab 88 = some (yX6_apart, cX6_apart, 7, (some .int), 6, 2, 1, [], [811, 809, 810, 67]) := by with_unfolding_all rfl
theorem pzt_X6_reason : pz_tab 89 = some (yX6_reason, cX6_reason, 1, (some .int), 6, 0, 1, [], [819, 817, 818, 67]) := by with_unfolding_all rfl
theorem pzt_X6_go : pz_tab 90 = some (yX6_go, cX6_go, 2, (some .int), 6, 0, 1, [], [827, 825, 826, 67]) := by with_unfolding_all rfl
theorem pzt_X6_back : pz_tab 91 = some (yX6_back, cX6_back, 2, (some .int), 6, 0, 1, [], [849, 847, 848, 67]) := by with_unfolding_all rfl
theorem pzt_X6_jump : pz_tab 92 = some (yX6_jump, cX6_jump, 3, (some .int), 6, 1, 1, [], [861, 859, 860, 67]) := by with_unfolding_all rfl
theorem pzt_X6_pass : pz_tab 93 = some (yX6_pass, cX6_pass, 2, (some .int), 6, 1, 1, [], [868, 866, 867, 67]) := by with_unfolding_all rfl
theorem pzt_X6_now : pz_tab 94 = some (yX6_now, cX6_now, 2, (some .int), 6, 1, 1, [], [897, 895, 896, 67]) := by with_unfolding_all rfl
theorem pzt_X6_target : pz_tab 95 = some (yX6_target, cX6_target, 2, (some .int), 6, 1, 1, [], [905, 903, 904, 67]) := by with_unfolding_all rfl
theorem pzt_X6_playing : pz_tab 96 = some (yX6_playing, cX6_playing, 2, (some .int), 6, 1, 1, [], [912, 910, 911, 67]) := by with_unfolding_all rfl
theorem pzt_X6_clear : pz_tab 97 = some (yX6_clear, cX6_clear, 2, (some .int), 6, 0, 1, [], [310, 308, 309, 67]) := by with_unfolding_all rfl
theorem pzt_X6_chain : pz_tab 98 = some (yX6_chain, cX6_chain, 3, (some .int), 6, 1, 1, [], [934, 932, 933, 67]) := by with_unfolding_all rfl
theorem pzt_X6_account : pz_tab 99 = some (yX6_account, cX6_account, 2, (some .int), 6, 1, 1, [], [945, 943, 944, 67]) := by with_unfolding_all rfl
theorem pzt_X6_meanLevel : pz_tab 100 = some (yX6_meanLevel, cX6_meanLevel, 1, (some .double), 6, 0, 1, [], [330, 328, 329, 67]) := by with_unfolding_all rfl
theorem pzt_X6_append : pz_tab 101 = some (yX6_append, cX6_append, 2, (some .int), 6, 1, 1, [], [982, 980, 981, 67]) := by with_unfolding_all rfl
theorem pzt_X6_read : pz_tab 102 = some (yX6_read, cX6_read, 4, (some .int), 6, 0, 1, [], [991, 989, 990, 67]) := by with_unfolding_all rfl
theorem pzt_X6_errorPosition : pz_tab 103 = some (yX6_errorPosition, cX6_errorPosition, 1, (some .int), 6, 0, 1, [], [1061, 1059, 1060, 67]) := by with_unfolding_all rfl
theorem pzt_X6_undo : pz_tab 104 = some (yX6_undo, cX6_undo, 1, (some .int), 6, 0, 1, [], [1069, 1067, 1068, 67]) := by with_unfolding_all rfl
theorem pzt_X6_save : pz_tab 105 = some (yX6_save, cX6_save, 1, (some .int), 6, 0, 1, [], [343, 341, 342, 67]) := by with_unfolding_all rfl
theorem pzt_X6_restore : pz_tab 106 = some (yX6_restore, cX6_restore, 1, (some .int), 6, 0, 1, [], [1081, 1079, 1080, 67]) := by with_unfolding_all rfl
theorem pzt_X6_isWithin : pz_tab 107 = some (yX6_isWithin, cX6_isWithin, 3, (some .boolean), 6, 3, 0, [], [380, 379, 67, 67]) := by with_unfolding_all rfl
theorem pzt_X6_addCue : pz_tab 108 = some (yX6_addCue, cX6_addCue, 2, (some .int), 6, 1, 1, [], [373, 371, 372, 67]) := by with_unfolding_all rfl
theorem pzt_X6_isChannel : pz_tab 109 = some (yX6_isChannel, cX6_isChannel, 1, (some .boolean), 6, 1, 0, [], [698, 697, 67, 67]) := by with_unfolding_all rfl
theorem pzt_X6_isLevel : pz_tab 110 = some (yX6_isLevel, cX6_isLevel, 1, (some .boolean), 6, 1, 0, [], [702, 701, 67, 67]) := by with_unfolding_all rfl
theorem pzt_X6_isPart : pz_tab 111 = some (yX6_isPart, cX6_isPart, 1, (some .boolean), 6, 1, 0, [], [647, 646, 67, 67]) := by with_unfolding_all rfl
theorem pzt_X6_isFreeNumber : pz_tab 112 = some (yX6_isFreeNumber, cX6_isFreeNumber, 2, (some .boolean), 6, 1, 1, [], [377, 376, 0, 67]) := by with_unfolding_all rfl
theorem pzt_X6_keepIfRefused : pz_tab 113 = some (yX6_keepIfRefused, cX6_keepIfRefused, 2, (some .boolean), 6, 1, 1, [], [555, 554, 4, 67]) := by with_unfolding_all rfl
theorem pzt_X6_performEntry : pz_tab 114 = some (yX6_performEntry, cX6_performEntry, 3, (some .boolean), 6, 0, 1, [], [1024, 1023, 14, 67]) := by with_unfolding_all rfl
theorem pzt_X6_performAdd : pz_tab 115 = some (yX6_performAdd, cX6_performAdd, 2, (some .boolean), 6, 1, 1, [], [1028, 1027, 15, 67]) := by with_unfolding_all rfl
theorem pzt_X6_performRemove : pz_tab 116 = some (yX6_performRemove, cX6_performRemove, 2, (some .boolean), 6, 1, 1, [], [1032, 1031, 16, 67]) := by with_unfolding_all rfl
theorem pzt_X6_performGive : pz_tab 117 = some (yX6_performGive, cX6_performGive, 4, (some .boolean), 6, 3, 1, [], [1036, 1035, 17, 67]) := by with_unfolding_all rfl
theorem pzt_X6_performGo : pz_tab 118 = some (yX6_performGo, cX6_performGo, 2, (some .boolean), 6, 0, 1, [], [1040, 1039, 18, 67]) := by with_unfolding_all rfl
theorem pzt_X6_removeCue : pz_tab 119 = some (yX6_removeCue, cX6_removeCue, 4, (some .int), 6, 2, 1, [], [503, 501, 502, 67]) := by with_unfolding_all rfl
theorem pzt_X6_performJump : pz_tab 120 = some (yX6_performJump, cX6_performJump, 2, (some .boolean), 6, 1, 1, [], [1044, 1043, 19, 67]) := by with_unfolding_all rfl
theorem pzt_X6_performPass : pz_tab 121 = some (yX6_performPass, cX6_performPass, 2, (some .boolean), 6, 1, 1, [], [1048, 1047, 20, 67]) := by with_unfolding_all rfl
theorem pzt_X6_cueAt : pz_tab 122 = some (yX6_cueAt, cX6_cueAt, 2, (some .int), 6, 1, 1, [], [595, 593, 594, 67]) := by with_unfolding_all rfl
theorem pzt_X6_setFollow : pz_tab 123 = some (yX6_setFollow, cX6_setFollow, 6, (some .int), 6, 2, 1, [], [618, 616, 617, 67]) := by with_unfolding_all rfl
theorem pzt_X6_setBlock : pz_tab 124 = some (yX6_setBlock, cX6_setBlock, 4, (some .int), 6, 2, 1, [], [626, 624, 625, 67]) := by with_unfolding_all rfl
theorem pzt_X6_setProtected : pz_tab 125 = some (yX6_setProtected, cX6_setProtected, 6, (some .boolean), 6, 2, 1, [], [637, 635, 636, 67]) := by with_unfolding_all rfl
theorem pzt_X6_setPart : pz_tab 126 = some (yX6_setPart, cX6_setPart, 8, (some .int), 6, 4, 1, [], [644, 642, 643, 67]) := by with_unfolding_all rfl
theorem pzt_X7_at : pz_tab 127 = some (yX7_at, cX7_at, 1, (some .int), 7, 1, 0, [], [1179, 1178, 74, 74]) := by with_unfolding_all rfl
theorem pzt_X7_placeOf : pz_tab 128 = some (yX7_placeOf, cX7_placeOf, 3, (some .int), 7, 1, 1, [], [1176, 1175, 25, 74]) := by with_unfolding_all rfl
theorem pzt_X7_isCue : pz_tab 129 = some (yX7_isCue, cX7_isCue, 2, (some .boolean), 7, 1, 1, [], [1172, 1171, 24, 74]) := by with_unfolding_all rfl
theorem pzt_X7_isBlock : pz_tab 130 = some (yX7_isBlock, cX7_isBlock, 2, (some .boolean), 7, 1, 1, [], [1215, 1214, 31, 74]) := by with_unfolding_all rfl
theorem pzt_X7_isChannel : pz_tab 131 = some (yX7_isChannel, cX7_isChannel, 1, (some .boolean), 7, 1, 0, [], [1262, 1261, 74, 74]) := by with_unfolding_all rfl
theorem pzt_X7_isPart : pz_tab 132 = some (yX7_isPart, cX7_isPart, 1, (some .boolean), 7, 1, 0, [], [1226, 1225, 74, 74]) := by with_unfolding_all rfl
theorem pzt_X7_doAdd : pz_tab 133 = some (yX7_doAdd, cX7_doAdd, 4, (some .int), 7, 1, 1, [], [1165, 1164, 23, 74]) := by with_unfolding_all rfl
theorem pzt_X7_addCue : pz_tab 134 = some (yX7_addCue, cX7_addCue, 2, (some .int), 7, 1, 1, [], [1156, 1154, 1155, 74]) := by with_unfolding_all rfl
theorem pzt_X7_cueAt : pz_tab 135 = some (yX7_cueAt, cX7_cueAt, 2, (some .int), 7, 1, 1, [], [1187, 1185, 1186, 74]) := by with_unfolding_all rfl
theorem pzt_X7_setFollow : pz_tab 136 = some (yX7_setFollow, cX7_setFollow, 4, (some .int), 7, 2, 1, [], [1191, 1189, 1190, 74]) := by with_unfolding_all rfl
theorem pzt_X7_init : pz_tab 137 = some (yX7_init, cX7_init, 1, none, 7, 0, 2, [], [1087, 1086, 74, 74]) := by with_unfolding_all rfl
theorem pzt_X7_keepLevels : pz_tab 138 = some (yX7_keepLevels, cX7_keepLevels, 3, none, 7, 0, 1, [], [1203, 1202, 28, 74]) := by with_unfolding_all rfl
theorem pzt_X7_setBlock : pz_tab 139 = some (yX7_setBlock, cX7_setBlock, 6, (some .int), 7, 2, 1, [], [1199, 1197, 1198, 74]) := by with_unfolding_all rfl
theorem pzt_X7_setProtected : pz_tab 140 = some (yX7_setProtected, cX7_setProtected, 5, (some .boolean), 7, 2, 1, [], [1219, 1217, 1218, 74]) := by with_unfolding_all rfl
theorem pzt_X7_partAt : pz_tab 141 = some (yX7_partAt, cX7_partAt, 4, (some .int), 7, 3, 1, [], [1230, 1229, 32, 74]) := by with_unfolding_all rfl
theorem pzt_X7_setPart : pz_tab 142 = some (yX7_setPart, cX7_setPart, 7, (some .int), 7, 4, 1, [], [1223, 1221, 1222, 74]) := by with_unfolding_all rfl
theorem pzt_X7_part : pz_tab 143 = some (yX7_part, cX7_part, 4, (some .int), 7, 3, 1, [], [1234, 1232, 1233, 74]) := by with_unfolding_all rfl
theorem pzt_X7_given : pz_tab 144 = some (yX7_given, cX7_given, 4, (some .int), 7, 2, 1, [], [1211, 1210, 30, 74]) := by with_unfolding_all rfl
theorem pzt_X7_give : pz_tab 145 = some (yX7_give, cX7_give, 7, none, 7, 4, 1, [], [1282, 1281, 40, 74]) := by with_unfolding_all rfl
theorem pzt_X7_takeAway : pz_tab 146 = some (yX7_takeAway, cX7_takeAway, 2, none, 7, 1, 1, [], [1310, 1309, 45, 74]) := by with_unfolding_all rfl
theorem pzt_X7_levelIn : pz_tab 147 = some (yX7_levelIn, cX7_levelIn, 6, (some .int), 7, 2, 1, [], [1207, 1206, 29, 74]) := by with_unfolding_all rfl
theorem pzt_X7_thrown : pz_tab 148 = some (yX7_thrown, cX7_thrown, 1, (some .int), 7, 0, 1, [], [1148, 1146, 1147, 74]) := by with_unfolding_all rfl
theorem pzt_X7_moves : pz_tab 149 = some (yX7_moves, cX7_moves, 4, (some .boolean), 7, 2, 1, [], [1246, 1245, 34, 74]) := by with_unfolding_all rfl
theorem pzt_X7_partOf : pz_tab 150 = some (yX7_partOf, cX7_partOf, 4, (some .int), 7, 2, 1, [], [1254, 1253, 36, 74]) := by with_unfolding_all rfl
theorem pzt_X7_lengthOf : pz_tab 151 = some (yX7_lengthOf, cX7_lengthOf, 4, (some .int), 7, 2, 1, [], [1250, 1249, 35, 74]) := by with_unfolding_all rfl
theorem pzt_X7_countOf : pz_tab 152 = some (yX7_countOf, cX7_countOf, 4, (some .int), 7, 1, 1, [], [1242, 1241, 33, 74]) := by with_unfolding_all rfl
theorem pzt_X7_cue : pz_tab 153 = some (yX7_cue, cX7_cue, 7, (some .int), 7, 2, 1, [], [1238, 1236, 1237, 74]) := by with_unfolding_all rfl
theorem pzt_X7_setHome : pz_tab 154 = some (yX7_setHome, cX7_setHome, 4, (some .int), 7, 2, 1, [], [1259, 1257, 1258, 74]) := by with_unfolding_all rfl
theorem pzt_X7_hold : pz_tab 155 = some (yX7_hold, cX7_hold, 5, (some .int), 7, 2, 1, [], [1286, 1285, 41, 74]) := by with_unfolding_all rfl
theorem pzt_X7_changed : pz_tab 156 = some (yX7_changed, cX7_changed, 4, (some .int), 7, 1, 1, [], [1294, 1293, 43, 74]) := by with_unfolding_all rfl
theorem pzt_X7_giveHeld : pz_tab 157 = some (yX7_giveHeld, cX7_giveHeld, 8, (some .int), 7, 5, 1, [], [1274, 1273, 38, 74]) := by with_unfolding_all rfl
theorem pzt_X7_wouldHoldProtected : pz_tab 158 = some (yX7_wouldHoldProtected, cX7_wouldHoldProtected, 7, (some .boolean), 7, 3, 1, [], [1278, 1277, 39, 74]) := by with_unfolding_all rfl
theorem pzt_X7_in : pz_tab 159 = some (yX7_in, cX7_in, 3, (some .boolean), 7, 3, 0, [], [1168, 1167, 74, 74]) := by with_unfolding_all rfl
theorem pzt_X7_doGive : pz_tab 160 = some (yX7_doGive, cX7_doGive, 7, (some .int), 7, 5, 1, [], [1270, 1269, 37, 74]) := by with_unfolding_all rfl
theorem pzt_X7_set : pz_tab 161 = some (yX7_set, cX7_set, 6, (some .int), 7, 5, 1, [], [1266, 1264, 1265, 74]) := by with_unfolding_all rfl
theorem pzt_X7_release : pz_tab 162 = some (yX7_release, cX7_release, 5, (some .int), 7, 4, 1, [], [1298, 1296, 1297, 74]) := by with_unfolding_all rfl
theorem pzt_X7_takeHeld : pz_tab 163 = some (yX7_takeHeld, cX7_takeHeld, 6, (some .int), 7, 3, 1, [], [1306, 1305, 44, 74]) := by with_unfolding_all rfl
theorem pzt_X7_unset : pz_tab 164 = some (yX7_unset, cX7_unset, 5, (some .int), 7, 3, 1, [], [1302, 1300, 1301, 74]) := by with_unfolding_all rfl
theorem pzt_X7_doRemove : pz_tab 165 = some (yX7_doRemove, cX7_doRemove, 5, (some .int), 7, 2, 1, [], [1318, 1317, 46, 74]) := by with_unfolding_all rfl
theorem pzt_X7_removeCue : pz_tab 166 = some (yX7_removeCue, cX7_removeCue, 4, (some .int), 7, 2, 1, [], [1314, 1312, 1313, 74]) := by with_unfolding_all rfl
theorem pzt_X7_instruction : pz_tab 167 = some (yX7_instruction, cX7_instruction, 3, (some .int), 7, 2, 1, [], [1322, 1320, 1321, 74]) := by with_unfolding_all rfl
theorem pzt_X7_level : pz_tab 168 = some (yX7_level, cX7_level, 3, (some .int), 7, 2, 1, [], [1326, 1324, 1325, 74]) := by with_unfolding_all rfl
theorem pzt_X7_levelAgain : pz_tab 169 = some (yX7_levelAgain, cX7_levelAgain, 3, (some .int), 7, 2, 1, [], [1330, 1328, 1329, 74]) := by with_unfolding_all rfl
theorem pzt_X7_begin : pz_tab 170 = some (yX7_begin, cX7_begin, 2, none, 7, 0, 1, [], [1092, 1091, 21, 74]) := by with_unfolding_all rfl
theorem pzt_X7_source : pz_tab 171 = some (yX7_source, cX7_source, 4, (some .int), 7, 2, 1, [], [1335, 1333, 1334, 74]) := by with_unfolding_all rfl
theorem pzt_X7_sum : pz_tab 172 = some (yX7_sum, cX7_sum, 4, (some .int), 7, 1, 1, [], [1339, 1337, 1338, 74]) := by with_unfolding_all rfl
theorem pzt_X7_apart : pz_tab 173 = some (yX7_apart, cX7_apart, 5, (some .int), 7, 2, 1, [], [1343, 1341, 1342, 74]) := by with_unfolding_all rfl
theorem pzt_X7_reason : pz_tab 174 = some (yX7_reason, cX7_reason, 1, (some .int), 7, 0, 1, [], [1347, 1345, 1346, 74]) := by with_unfolding_all rfl
theorem pzt_X7_fade : pz_tab 175 = some (yX7_fade, cX7_fade, 1, (some .int), 7, 1, 0, [], [1374, 1373, 74, 74]) := by with_unfolding_all rfl
theorem pzt_X7_nowOf : pz_tab 176 = some (yX7_nowOf, cX7_nowOf, 8, (some .int), 7, 1, 1, [], [1378, 1377, 52, 74]) := by with_unfolding_all rfl
theorem pzt_X7_isFading : pz_tab 177 = some (yX7_isFading, cX7_isFading, 3, (some .boolean), 7, 1, 1, [], [1419, 1418, 56, 74]) := by with_unfolding_all rfl
theorem pzt_X7_goes : pz_tab 178 = some (yX7_goes, cX7_goes, 8, (some .int), 7, 1, 1, [], [1371, 1370, 51, 74]) := by with_unfolding_all rfl
theorem pzt_X7_nextCue : pz_tab 179 = some (yX7_nextCue, cX7_nextCue, 3, (some .int), 7, 1, 1, [], [1367, 1366, 50, 74]) := by with_unfolding_all rfl
theorem pzt_X7_cueAhead : pz_tab 180 = some (yX7_cueAhead, cX7_cueAhead, 4, (some .int), 7, 1, 1, [], [1363, 1362, 49, 74]) := by with_unfolding_all rfl
theorem pzt_X7_keepState : pz_tab 181 = some (yX7_keepState, cX7_keepState, 1, none, 7, 0, 1, [], [1160, 1159, 22, 74]) := by with_unfolding_all rfl
theorem pzt_X7_doGo : pz_tab 182 = some (yX7_doGo, cX7_doGo, 3, (some .int), 7, 1, 1, [], [1359, 1358, 48, 74]) := by with_unfolding_all rfl
theorem pzt_X7_steps : pz_tab 183 = some (yX7_steps, cX7_steps, 2, (some .int), 7, 1, 1, [], [1355, 1354, 47, 74]) := by with_unfolding_all rfl
theorem pzt_X7_go : pz_tab 184 = some (yX7_go, cX7_go, 1, (some .int), 7, 0, 1, [], [1351, 1349, 1350, 74]) := by with_unfolding_all rfl
theorem pzt_X7_back : pz_tab 185 = some (yX7_back, cX7_back, 1, (some .int), 7, 0, 1, [], [1382, 1380, 1381, 74]) := by with_unfolding_all rfl
theorem pzt_X7_jump : pz_tab 186 = some (yX7_jump, cX7_jump, 2, (some .int), 7, 1, 1, [], [1386, 1384, 1385, 74]) := by with_unfolding_all rfl
theorem pzt_X7_follows : pz_tab 187 = some (yX7_follows, cX7_follows, 2, (some .boolean), 7, 0, 1, [], [1399, 1398, 54, 74]) := by with_unfolding_all rfl
theorem pzt_X7_doPass : pz_tab 188 = some (yX7_doPass, cX7_doPass, 4, (some .int), 7, 1, 1, [], [1394, 1393, 53, 74]) := by with_unfolding_all rfl
theorem pzt_X7_pass : pz_tab 189 = some (yX7_pass, cX7_pass, 3, (some .int), 7, 1, 1, [], [1390, 1388, 1389, 74]) := by with_unfolding_all rfl
theorem pzt_X7_now : pz_tab 190 = some (yX7_now, cX7_now, 2, (some .int), 7, 1, 1, [], [1403, 1401, 1402, 74]) := by with_unfolding_all rfl
theorem pzt_X7_target : pz_tab 191 = some (yX7_target, cX7_target, 2, (some .int), 7, 1, 1, [], [1407, 1405, 1406, 74]) := by with_unfolding_all rfl
theorem pzt_X7_change : pz_tab 192 = some (yX7_change, cX7_change, 1, none, 7, 0, 1, [], [1183, 1182, 26, 74]) := by with_unfolding_all rfl
theorem pzt_X7_fading : pz_tab 193 = some (yX7_fading, cX7_fading, 3, (some .int), 7, 0, 1, [], [1415, 1414, 55, 74]) := by with_unfolding_all rfl
theorem pzt_X7_playing : pz_tab 194 = some (yX7_playing, cX7_playing, 2, (some .int), 7, 1, 1, [], [1411, 1409, 1410, 74]) := by with_unfolding_all rfl
theorem pzt_X7_chain : pz_tab 195 = some (yX7_chain, cX7_chain, 4, (some .int), 7, 1, 1, [], [1423, 1421, 1422, 74]) := by with_unfolding_all rfl
theorem pzt_X7_overChannels : pz_tab 196 = some (yX7_overChannels, cX7_overChannels, 4, (some .int), 7, 1, 1, [], [1431, 1430, 57, 74]) := by with_unfolding_all rfl
theorem pzt_X7_overCues : pz_tab 197 = some (yX7_overCues, cX7_overCues, 5, (some .int), 7, 1, 1, [], [1435, 1434, 58, 74]) := by with_unfolding_all rfl
theorem pzt_X7_account : pz_tab 198 = some (yX7_account, cX7_account, 4, (some .int), 7, 1, 1, [], [1427, 1425, 1426, 74]) := by with_unfolding_all rfl
theorem pzt_X7_meanLevel : pz_tab 199 = some (yX7_meanLevel, cX7_meanLevel, 1, (some .double), 7, 0, 1, [], [1439, 1437, 1438, 74]) := by with_unfolding_all rfl
theorem pzt_X7_append : pz_tab 200 = some (yX7_append, cX7_append, 2, (some .int), 7, 1, 1, [], [1444, 1442, 1443, 74]) := by with_unfolding_all rfl
theorem pzt_X7_isHere : pz_tab 201 = some (yX7_isHere, cX7_isHere, 3, (some .boolean), 7, 2, 1, [], [1543, 1542, 61, 74]) := by with_unfolding_all rfl
theorem pzt_X7_sign : pz_tab 202 = some (yX7_sign, cX7_sign, 2, none, 7, 1, 1, [], [1551, 1550, 63, 74]) := by with_unfolding_all rfl
theorem pzt_X7_changes : pz_tab 203 = some (yX7_changes, cX7_changes, 1, none, 7, 0, 1, [], [1195, 1194, 27, 74]) := by with_unfolding_all rfl
theorem pzt_X7_number : pz_tab 204 = some (yX7_number, cX7_number, 4, (some .int), 7, 1, 1, [], [1539, 1538, 60, 74]) := by with_unfolding_all rfl
theorem pzt_X7_behind : pz_tab 205 = some (yX7_behind, cX7_behind, 3, (some .int), 7, 2, 1, [], [1547, 1546, 62, 74]) := by with_unfolding_all rfl
theorem pzt_X7_readEntry : pz_tab 206 = some (yX7_readEntry, cX7_readEntry, 3, none, 7, 0, 1, [], [1452, 1451, 59, 74]) := by with_unfolding_all rfl
theorem pzt_X7_isTold : pz_tab 207 = some (yX7_isTold, cX7_isTold, 2, (some .boolean), 7, 1, 1, [], [1559, 1558, 65, 74]) := by with_unfolding_all rfl
theorem pzt_X7_fails : pz_tab 208 = some (yX7_fails, cX7_fails, 5, (some .boolean), 7, 1, 1, [], [1555, 1554, 64, 74]) := by with_unfolding_all rfl
theorem pzt_X7_read : pz_tab 209 = some (yX7_read, cX7_read, 2, (some .int), 7, 0, 1, [], [1448, 1446, 1447, 74]) := by with_unfolding_all rfl
theorem pzt_X7_errorPosition : pz_tab 210 = some (yX7_errorPosition, cX7_errorPosition, 1, (some .int), 7, 0, 1, [], [1563, 1561, 1562, 74]) := by with_unfolding_all rfl
theorem pzt_X7_undo : pz_tab 211 = some (yX7_undo, cX7_undo, 1, (some .int), 7, 0, 1, [], [1567, 1565, 1566, 74]) := by with_unfolding_all rfl
theorem pzt_X7_save : pz_tab 212 = some (yX7_save, cX7_save, 1, (some .int), 7, 0, 1, [], [1571, 1569, 1570, 74]) := by with_unfolding_all rfl
theorem pzt_X7_restore : pz_tab 213 = some (yX7_restore, cX7_restore, 1, (some .int), 7, 0, 1, [], [1575, 1573, 1574, 74]) := by with_unfolding_all rfl
theorem pzt_X7_refuse : pz_tab 214 = some (yX7_refuse, cX7_refuse, 2, (some .int), 7, 1, 1, [], [1290, 1289, 42, 74]) := by with_unfolding_all rfl
theorem pzt_X7_clear : pz_tab 215 = some (yX7_clear, cX7_clear, 2, (some .int), 7, 0, 1, [], [1152, 1150, 1151, 74]) := by with_unfolding_all rfl
theorem pzt_L_cue : pz_tab 216 = some (yL_cue, cL_cue, 5, (some .int), 8, 4, 0, [(0, 10, 13, 21), (0, 10, 17, 13)], [656, 655, 66, 66]) := by with_unfolding_all rfl
theorem pzt_L_part : pz_tab 217 = some (yL_part, cL_part, 6, (some .int), 8, 5, 0, [(0, 12, 15, 21)], [684, 683, 66, 66]) := by with_unfolding_all rfl
theorem pzt_L_setHome : pz_tab 218 = some (yL_setHome, cL_setHome, 5, (some .int), 8, 4, 0, [(0, 10, 13, 21), (0, 10, 17, 13)], [691, 690, 66, 66]) := by with_unfolding_all rfl
theorem pzt_L_set : pz_tab 219 = some (yL_set, cL_set, 8, (some .int), 8, 7, 0, [(0, 16, 19, 21), (0, 16, 23, 13), (0, 16, 27, 23)], [706, 705, 66, 66]) := by with_unfolding_all rfl
theorem pzt_L_release : pz_tab 220 = some (yL_release, cL_release, 7, (some .int), 8, 6, 0, [(0, 14, 17, 21), (0, 14, 21, 23)], [726, 725, 66, 66]) := by with_unfolding_all rfl
theorem pzt_L_unset : pz_tab 221 = some (yL_unset, cL_unset, 6, (some .int), 8, 5, 0, [(0, 12, 15, 21), (0, 12, 19, 23)], [733, 732, 66, 66]) := by with_unfolding_all rfl
theorem pzt_L_instruction : pz_tab 222 = some (yL_instruction, cL_instruction, 5, (some .int), 8, 4, 0, [(0, 10, 13, 28), (0, 10, 17, 13)], [753, 752, 66, 66]) := by with_unfolding_all rfl
theorem pzt_L_level : pz_tab 223 = some (yL_level, cL_level, 5, (some .int), 8, 4, 0, [(0, 10, 13, 21)], [770, 769, 66, 66]) := by with_unfolding_all rfl
theorem pzt_L_levelAgain : pz_tab 224 = some (yL_levelAgain, cL_levelAgain, 5, (some .int), 8, 4, 0, [(0, 10, 13, 21)], [778, 777, 66, 66]) := by with_unfolding_all rfl
theorem pzt_L_source : pz_tab 225 = some (yL_source, cL_source, 5, (some .int), 8, 4, 0, [(0, 10, 13, 21)], [789, 788, 66, 66]) := by with_unfolding_all rfl
theorem pzt_L_sum : pz_tab 226 = some (yL_sum, cL_sum, 4, (some .int), 8, 3, 0, [(0, 9, 12, 21)], [800, 799, 66, 66]) := by with_unfolding_all rfl
theorem pzt_L_apart : pz_tab 227 = some (yL_apart, cL_apart, 5, (some .int), 8, 4, 0, [(0, 10, 13, 21)], [807, 806, 66, 66]) := by with_unfolding_all rfl
theorem pzt_L_reason : pz_tab 228 = some (yL_reason, cL_reason, 3, (some .int), 8, 2, 0, [(0, 8, 11, 28)], [815, 814, 66, 66]) := by with_unfolding_all rfl
theorem pzt_L_go : pz_tab 229 = some (yL_go, cL_go, 3, (some .int), 8, 2, 0, [(0, 8, 11, 23)], [823, 822, 66, 66]) := by with_unfolding_all rfl
theorem pzt_L_back : pz_tab 230 = some (yL_back, cL_back, 3, (some .int), 8, 2, 0, [(0, 8, 11, 23)], [845, 844, 66, 66]) := by with_unfolding_all rfl
theorem pzt_L_jump : pz_tab 231 = some (yL_jump, cL_jump, 4, (some .int), 8, 3, 0, [(0, 9, 12, 21)], [857, 856, 66, 66]) := by with_unfolding_all rfl
theorem pzt_L_pass : pz_tab 232 = some (yL_pass, cL_pass, 4, (some .int), 8, 3, 0, [(0, 9, 12, 13), (0, 9, 15, 15)], [864, 863, 66, 66]) := by with_unfolding_all rfl
theorem pzt_L_now : pz_tab 233 = some (yL_now, cL_now, 4, (some .int), 8, 3, 0, [(0, 9, 12, 21)], [893, 892, 66, 66]) := by with_unfolding_all rfl
theorem pzt_L_target : pz_tab 234 = some (yL_target, cL_target, 4, (some .int), 8, 3, 0, [(0, 9, 12, 21)], [901, 900, 66, 66]) := by with_unfolding_all rfl
theorem pzt_L_playing : pz_tab 235 = some (yL_playing, cL_playing, 4, (some .int), 8, 3, 0, [(0, 9, 12, 13)], [908, 907, 66, 66]) := by with_unfolding_all rfl
theorem pzt_L_chain : pz_tab 236 = some (yL_chain, cL_chain, 4, (some .int), 8, 3, 0, [(0, 9, 12, 21)], [930, 929, 66, 66]) := by with_unfolding_all rfl
theorem pzt_L_account : pz_tab 237 = some (yL_account, cL_account, 4, (some .int), 8, 3, 0, [(0, 9, 12, 13)], [941, 940, 66, 66]) := by with_unfolding_all rfl
theorem pzt_L_append : pz_tab 238 = some (yL_append, cL_append, 4, (some .int), 8, 3, 0, [(0, 9, 12, 13), (0, 9, 15, 15)], [978, 977, 66, 66]) := by with_unfolding_all rfl
theorem pzt_L_read : pz_tab 239 = some (yL_read, cL_read, 3, (some .int), 8, 2, 0, [(0, 8, 11, 13), (0, 8, 14, 15)], [987, 986, 66, 66]) := by with_unfolding_all rfl
theorem pzt_L_errorPosition : pz_tab 240 = some (yL_errorPosition, cL_errorPosition, 3, (some .int), 8, 2, 0, [(0, 8, 11, 28)], [1057, 1056, 66, 66]) := by with_unfolding_all rfl
theorem pzt_L_undo : pz_tab 241 = some (yL_undo, cL_undo, 3, (some .int), 8, 2, 0, [(0, 8, 11, 28)], [1065, 1064, 66, 66]) := by with_unfolding_all rfl
theorem pzt_L_restore : pz_tab 242 = some (yL_restore, cL_restore, 3, (some .int), 8, 2, 0, [(0, 8, 11, 15)], [1077, 1076, 66, 66]) := by with_unfolding_all rfl
theorem pzt_L_addCue : pz_tab 243 = some (yL_addCue, cL_addCue, 4, (some .int), 8, 3, 0, [(0, 9, 12, 13), (0, 9, 15, 15)], [367, 366, 66, 66]) := by with_unfolding_all rfl
theorem pzt_L_removeCue : pz_tab 244 = some (yL_removeCue, cL_removeCue, 5, (some .int), 8, 4, 0, [(0, 10, 13, 21), (0, 10, 17, 23)], [497, 496, 66, 66]) := by with_unfolding_all rfl
theorem pzt_L_cueAt : pz_tab 245 = some (yL_cueAt, cL_cueAt, 4, (some .int), 8, 3, 0, [(0, 9, 12, 28)], [590, 589, 66, 66]) := by with_unfolding_all rfl
theorem pzt_L_setFollow : pz_tab 246 = some (yL_setFollow, cL_setFollow, 5, (some .int), 8, 4, 0, [(0, 10, 13, 21), (0, 10, 17, 13)], [614, 613, 66, 66]) := by with_unfolding_all rfl
theorem pzt_L_setBlock : pz_tab 247 = some (yL_setBlock, cL_setBlock, 5, (some .int), 8, 4, 0, [(0, 10, 13, 21)], [622, 621, 66, 66]) := by with_unfolding_all rfl
theorem pzt_L_setProtected : pz_tab 248 = some (yL_setProtected, cL_setProtected, 5, (some .int), 8, 4, 0, [(0, 17, 20, 21)], [633, 632, 66, 66]) := by with_unfolding_all rfl
theorem pzt_L_setPart : pz_tab 249 = some (yL_setPart, cL_setPart, 7, (some .int), 8, 6, 0, [(0, 14, 17, 21), (0, 14, 21, 13)], [640, 639, 66, 66]) := by with_unfolding_all rfl
theorem pzt_J6_bitCount_0f7a4 : pz_tab 250 = some (yJ6_bitCount_0f7a4, cJ6_bitCount_0f7a4, 1, (some .int), 9, 1, 0, [], [952, 951, 85, 85]) := by with_unfolding_all rfl
def pz_mthP (e : Nat × Nat × Nat × Nat) : Prop := ∃ m, pz_tab e.2.2.1 = some m ∧ lw_tbl[e.2.2.2]? = some (.methodLink (pz_R e.1) e.2.1 m.1)
def pz_mthQ (e : Nat × Nat × Nat × Nat) : Bool := match pz_tab e.2.2.1 with
  | some m => decide (lw_tbl[e.2.2.2]? = some (.methodLink (pz_R e.1) e.2.1 m.1))
  | none => false
def pz_nestQ (e : Nat × Nat × Nat × Nat) : Bool := match pz_tab e.2.2.1 with
  | some m => decide (lw_tbl[e.2.2.2]? = some (.methodLinkNest (pz_R e.1) e.2.1 m.1 "CueStack"))
  | none => false
def pz_mthL_0 : List (Nat × Nat × Nat × Nat) := [(1, 38, 2, 352), (1, 51, 4, 532), (1, 58, 36, 536), (1, 62, 37, 528), (1, 69, 38, 524), (1, 72, 7, 666), (1, 76, 6, 674), (1, 94, 35, 762), (1, 103, 15, 540), (1, 107, 18, 548), (1, 111, 16, 743), (1, 114, 5, 544), (1, 118, 13, 584), (1, 122, 24, 720), (1, 125, 14, 580), (1, 129, 1, 491), (1, 133, 29, 576), (1, 136, 8, 960), (1, 139, 250, 961), (1, 144, 11, 974), (2, 18, 43, 475), (2, 22, 45, 480), (2, 29, 75, 479), (3, 23, 50, 996)]
theorem pz_mthL_ok0 : ∀ e ∈ pz_mthL_0, (fun e => pz_mthQ e = true) e := by decide +kernel
def pz_mthL_1 : List (Nat × Nat × Nat × Nat) := [(3, 34, 51, 1000), (3, 38, 53, 1003), (3, 42, 54, 1007), (3, 46, 52, 1011), (3, 50, 55, 1015), (4, 46, 68, 922), (4, 50, 67, 335), (4, 68, 72, 889), (4, 72, 35, 883), (4, 78, 58, 884), (4, 88, 37, 837), (4, 91, 6, 838), (4, 96, 61, 839), (4, 101, 59, 879), (4, 104, 60, 890), (5, 9, 17, 107), (5, 23, 28, 315), (5, 26, 65, 319), (5, 27, 34, 348), (5, 31, 66, 360), (6, 21, 41, 239), (6, 49, 74, 311), (6, 52, 47, 323), (6, 55, 112, 374)]
theorem pz_mthL_ok1 : ∀ e ∈ pz_mthL_1, (fun e => pz_mthQ e = true) e := by decide +kernel
def pz_mthL_2 : List (Nat × Nat × Nat × Nat) := [(6, 71, 42, 471), (6, 75, 26, 487), (6, 79, 35, 381), (6, 88, 21, 520), (6, 92, 113, 552), (6, 100, 27, 572), (6, 117, 107, 378), (6, 126, 25, 627), (6, 133, 111, 645), (6, 140, 3, 650), (6, 147, 5, 661), (6, 151, 8, 662), (6, 154, 9, 670), (6, 159, 109, 696), (6, 164, 110, 700), (6, 175, 19, 712), (6, 179, 22, 716), (6, 185, 20, 739), (6, 189, 23, 747), (6, 201, 11, 758), (6, 204, 12, 763), (6, 209, 37, 775), (6, 213, 39, 783), (6, 216, 40, 794)]
theorem pz_mthL_ok2 : ∀ e ∈ pz_mthL_2, (fun e => pz_mthQ e = true) e := by decide +kernel
def pz_mthL_3 : List (Nat × Nat × Nat × Nat) := [(6, 227, 72, 828), (6, 235, 60, 833), (6, 239, 57, 850), (6, 244, 62, 869), (6, 249, 63, 875), (6, 252, 67, 898), (6, 261, 58, 913), (6, 264, 56, 914), (6, 267, 69, 918), (6, 270, 59, 926), (6, 275, 10, 935), (6, 278, 70, 331), (6, 281, 71, 946), (6, 284, 250, 950), (6, 295, 30, 956), (6, 298, 31, 962), (6, 301, 32, 966), (6, 304, 33, 970), (6, 322, 49, 992), (6, 330, 43, 1019), (6, 333, 50, 1020), (6, 337, 114, 1021), (6, 340, 44, 1049), (6, 345, 45, 1054)]
theorem pz_mthL_ok3 : ∀ e ∈ pz_mthL_3, (fun e => pz_mthQ e = true) e := by decide +kernel
def pz_mthL_4 : List (Nat × Nat × Nat × Nat) := [(6, 355, 46, 1071), (6, 358, 75, 344), (6, 373, 115, 1025), (6, 376, 116, 1029), (6, 379, 117, 1033), (6, 382, 118, 1037), (6, 385, 120, 1041), (6, 388, 121, 1045), (7, 39, 170, 1089), (7, 54, 181, 1157), (7, 57, 192, 1180), (7, 63, 127, 1177), (7, 67, 128, 1173), (7, 70, 159, 1166), (7, 74, 129, 1169), (7, 78, 133, 1162), (7, 81, 203, 1192), (7, 84, 147, 1204), (7, 88, 138, 1200), (7, 91, 132, 1224), (7, 94, 141, 1227), (7, 98, 144, 1208), (7, 101, 130, 1212), (7, 104, 150, 1251)]
theorem pz_mthL_ok4 : ∀ e ∈ pz_mthL_4, (fun e => pz_mthQ e = true) e := by decide +kernel
def pz_mthL_5 : List (Nat × Nat × Nat × Nat) := [(7, 107, 152, 1239), (7, 110, 149, 1243), (7, 114, 151, 1247), (7, 122, 131, 1260), (7, 125, 145, 1279), (7, 129, 158, 1275), (7, 132, 155, 1283), (7, 135, 157, 1271), (7, 139, 214, 1287), (7, 142, 160, 1267), (7, 145, 156, 1291), (7, 148, 146, 1307), (7, 152, 163, 1303), (7, 155, 165, 1315), (7, 159, 168, 1331), (7, 162, 175, 1372), (7, 165, 176, 1375), (7, 168, 180, 1360), (7, 171, 179, 1364), (7, 174, 178, 1368), (7, 177, 182, 1356), (7, 181, 183, 1352), (7, 185, 187, 1396), (7, 189, 188, 1391)]
theorem pz_mthL_ok5 : ∀ e ∈ pz_mthL_5, (fun e => pz_mthQ e = true) e := by decide +kernel
def pz_mthL_6 : List (Nat × Nat × Nat × Nat) := [(7, 192, 177, 1416), (7, 195, 193, 1412), (7, 199, 196, 1428), (7, 202, 197, 1432), (7, 217, 201, 1540), (7, 221, 202, 1548), (7, 225, 204, 1536), (7, 238, 205, 1544), (7, 242, 207, 1556), (7, 245, 206, 1449), (7, 248, 208, 1552), (8, 7, 108, 370), (8, 17, 119, 500), (8, 25, 122, 592), (8, 30, 123, 615), (8, 34, 124, 623), (8, 37, 125, 634), (8, 41, 126, 641), (8, 45, 76, 657), (8, 48, 77, 685), (8, 52, 78, 692), (8, 55, 79, 707), (8, 59, 80, 727), (8, 63, 81, 734)]
theorem pz_mthL_ok6 : ∀ e ∈ pz_mthL_6, (fun e => pz_mthQ e = true) e := by decide +kernel
def pz_mthL_7 : List (Nat × Nat × Nat × Nat) := [(8, 66, 82, 754), (8, 69, 83, 771), (8, 72, 84, 779), (8, 75, 85, 790), (8, 78, 87, 801), (8, 81, 88, 808), (8, 84, 89, 816), (8, 88, 90, 824), (8, 91, 91, 846), (8, 94, 92, 858), (8, 97, 93, 865), (8, 100, 94, 894), (8, 103, 95, 902), (8, 106, 96, 909), (8, 109, 98, 931), (8, 112, 99, 942), (8, 115, 101, 979), (8, 119, 102, 988), (8, 122, 103, 1058), (8, 125, 104, 1066), (8, 128, 106, 1078), (8, 131, 86, 93), (8, 134, 137, 1085), (8, 135, 97, 307)]
theorem pz_mthL_ok7 : ∀ e ∈ pz_mthL_7, (fun e => pz_mthQ e = true) e := by decide +kernel
def pz_mthL_8 : List (Nat × Nat × Nat × Nat) := [(8, 138, 215, 1149), (8, 139, 243, 365), (8, 144, 134, 1153), (8, 145, 148, 1145), (8, 148, 244, 495), (8, 151, 166, 1311), (8, 152, 245, 588), (8, 154, 135, 1184), (8, 155, 246, 612), (8, 158, 136, 1188), (8, 159, 247, 620), (8, 161, 139, 1196), (8, 162, 248, 631), (8, 164, 140, 1216), (8, 165, 249, 638), (8, 168, 142, 1220), (8, 169, 216, 654), (8, 171, 153, 1235), (8, 172, 217, 682), (8, 175, 143, 1231), (8, 176, 218, 689), (8, 178, 154, 1256), (8, 179, 219, 704), (8, 182, 161, 1263)]
theorem pz_mthL_ok8 : ∀ e ∈ pz_mthL_8, (fun e => pz_mthQ e = true) e := by decide +kernel
def pz_mthL_9 : List (Nat × Nat × Nat × Nat) := [(8, 183, 220, 724), (8, 186, 162, 1295), (8, 187, 221, 731), (8, 189, 164, 1299), (8, 190, 222, 751), (8, 192, 167, 1319), (8, 193, 223, 768), (8, 195, 168, 1323), (8, 196, 224, 776), (8, 198, 169, 1327), (8, 199, 225, 787), (8, 201, 171, 1332), (8, 202, 226, 798), (8, 204, 172, 1336), (8, 205, 227, 805), (8, 207, 173, 1340), (8, 208, 228, 813), (8, 211, 174, 1344), (8, 212, 229, 821), (8, 214, 184, 1348), (8, 215, 230, 843), (8, 217, 185, 1379), (8, 218, 231, 855), (8, 220, 186, 1383)]
theorem pz_mthL_ok9 : ∀ e ∈ pz_mthL_9, (fun e => pz_mthQ e = true) e := by decide +kernel
def pz_mthL_10 : List (Nat × Nat × Nat × Nat) := [(8, 221, 232, 862), (8, 223, 189, 1387), (8, 224, 233, 891), (8, 226, 190, 1400), (8, 227, 234, 899), (8, 229, 191, 1404), (8, 230, 235, 906), (8, 232, 194, 1408), (8, 233, 236, 928), (8, 235, 195, 1420), (8, 236, 237, 939), (8, 238, 198, 1424), (8, 239, 100, 327), (8, 243, 199, 1436), (8, 244, 238, 976), (8, 247, 200, 1441), (8, 248, 239, 985), (8, 250, 209, 1445), (8, 251, 240, 1055), (8, 253, 210, 1560), (8, 254, 241, 1063), (8, 256, 211, 1564), (8, 257, 105, 340), (8, 260, 212, 1568)]
theorem pz_mthL_ok10 : ∀ e ∈ pz_mthL_10, (fun e => pz_mthQ e = true) e := by decide +kernel
def pz_mthL_11 : List (Nat × Nat × Nat × Nat) := [(8, 261, 242, 1075), (8, 263, 213, 1572)]
theorem pz_mthL_ok11 : ∀ e ∈ pz_mthL_11, (fun e => pz_mthQ e = true) e := by decide +kernel
def pz_mthL : List (Nat × Nat × Nat × Nat) := pz_mthL_0 ++ pz_mthL_1 ++ pz_mthL_2 ++ pz_mthL_3 ++ pz_mthL_4 ++ pz_mthL_5 ++ pz_mthL_6 ++ pz_mthL_7 ++ pz_mthL_8 ++ pz_mthL_9 ++ pz_mthL_10 ++ pz_mthL_11
theorem pz_mthL_ok : ∀ e ∈ pz_mthL, (fun e => pz_mthQ e = true) e := by
  intro e h
  simp only [pz_mthL, List.mem_append, or_assoc] at h
  rcases h with h | h | h | h | h | h | h | h | h | h | h | h
  · exact pz_mthL_ok0 e h
  · exact pz_mthL_ok1 e h
  · exact pz_mthL_ok2 e h
  · exact pz_mthL_ok3 e h
  · exact pz_mthL_ok4 e h
  · exact pz_mthL_ok5 e h
  · exact pz_mthL_ok6 e h
  · exact pz_mthL_ok7 e h
  · exact pz_mthL_ok8 e h
  · exact pz_mthL_ok9 e h
  · exact pz_mthL_ok10 e h
  · exact pz_mthL_ok11 e h
theorem pz_mthL_in (e : Nat × Nat × Nat × Nat) (h : e ∈ pz_mthL) : pz_mthP e := by
  have h1 := pz_mthL_ok e h
  simp only [pz_mthQ] at h1
  unfold pz_mthP
  split at h1
  · next m hm => exact ⟨m, hm, of_decide_eq_true h1⟩
  · cases h1
def pz_mth (own idx : Nat) : Option Nat := (pz_mthL.find? (fun e => e.1 == own && e.2.1 == idx)).map (fun e => e.2.2.1)
theorem pzm_1_38 : pz_mth 1 38 = some 2 := by decide +kernel
theorem pzm_1_51 : pz_mth 1 51 = some 4 := by decide +kernel
theorem pzm_1_58 : pz_mth 1 58 = some 36 := by decide +kernel
theorem pzm_1_62 : pz_mth 1 62 = some 37 := by decide +kernel
theorem pzm_1_69 : pz_mth 1 69 = some 38 := by decide +kernel
theorem pzm_1_72 : pz_mth 1 72 = some 7 := by decide +kernel
theorem pzm_1_76 : pz_mth 1 76 = some 6 := by decide +kernel
theorem pzm_1_94 : pz_mth 1 94 = some 35 := by decide +kernel
theorem pzm_1_103 : pz_mth 1 103 = some 15 := by decide +kernel
theorem pzm_1_107 : pz_mth 1 107 = some 18 := by decide +kernel
theorem pzm_1_111 : pz_mth 1 111 = some 16 := by decide +kernel
theorem pzm_1_114 : pz_mth 1 114 = some 5 := by decide +kernel
theorem pzm_1_118 : pz_mth 1 118 = some 13 := by decide +kernel
theorem pzm_1_122 : pz_mth 1 122 = some 24 := by decide +kernel
theorem pzm_1_125 : pz_mth 1 125 = some 14 := by decide +kernel
theorem pzm_1_129 : pz_mth 1 129 = some 1 := by decide +kernel
theorem pzm_1_133 : pz_mth 1 133 = some 29 := by decide +kernel
theorem pzm_1_136 : pz_mth 1 136 = some 8 := by decide +kernel
theorem pzm_1_139 : pz_mth 1 139 = some 250 := by decide +kernel
theorem pzm_1_144 : pz_mth 1 144 = some 11 := by decide +kernel
theorem pzm_2_18 : pz_mth 2 18 = some 43 := by decide +kernel
theorem pzm_2_22 : pz_mth 2 22 = some 45 := by decide +kernel
theorem pzm_2_29 : pz_mth 2 29 = some 75 := by decide +kernel
theorem pzm_3_23 : pz_mth 3 23 = some 50 := by decide +kernel
theorem pzm_3_34 : pz_mth 3 34 = some 51 := by decide +kernel
theorem pzm_3_38 : pz_mth 3 38 = some 53 := by decide +kernel
theorem pzm_3_42 : pz_mth 3 42 = some 54 := by decide +kernel
theorem pzm_3_46 : pz_mth 3 46 = some 52 := by decide +kernel
theorem pzm_3_50 : pz_mth 3 50 = some 55 := by decide +kernel
theorem pzm_4_46 : pz_mth 4 46 = some 68 := by decide +kernel
theorem pzm_4_50 : pz_mth 4 50 = some 67 := by decide +kernel
theorem pzm_4_68 : pz_mth 4 68 = some 72 := by decide +kernel
theorem pzm_4_72 : pz_mth 4 72 = some 35 := by decide +kernel
theorem pzm_4_78 : pz_mth 4 78 = some 58 := by decide +kernel
theorem pzm_4_88 : pz_mth 4 88 = some 37 := by decide +kernel
theorem pzm_4_91 : pz_mth 4 91 = some 6 := by decide +kernel
theorem pzm_4_96 : pz_mth 4 96 = some 61 := by decide +kernel
theorem pzm_4_101 : pz_mth 4 101 = some 59 := by decide +kernel
theorem pzm_4_104 : pz_mth 4 104 = some 60 := by decide +kernel
theorem pzm_5_9 : pz_mth 5 9 = some 17 := by decide +kernel
theorem pzm_5_23 : pz_mth 5 23 = some 28 := by decide +kernel
theorem pzm_5_26 : pz_mth 5 26 = some 65 := by decide +kernel
theorem pzm_5_27 : pz_mth 5 27 = some 34 := by decide +kernel
theorem pzm_5_31 : pz_mth 5 31 = some 66 := by decide +kernel
theorem pzm_6_21 : pz_mth 6 21 = some 41 := by decide +kernel
theorem pzm_6_49 : pz_mth 6 49 = some 74 := by decide +kernel
theorem pzm_6_52 : pz_mth 6 52 = some 47 := by decide +kernel
theorem pzm_6_55 : pz_mth 6 55 = some 112 := by decide +kernel
theorem pzm_6_71 : pz_mth 6 71 = some 42 := by decide +kernel
theorem pzm_6_75 : pz_mth 6 75 = some 26 := by decide +kernel
theorem pzm_6_79 : pz_mth 6 79 = some 35 := by decide +kernel
theorem pzm_6_88 : pz_mth 6 88 = some 21 := by decide +kernel
theorem pzm_6_92 : pz_mth 6 92 = some 113 := by decide +kernel
theorem pzm_6_100 : pz_mth 6 100 = some 27 := by decide +kernel
theorem pzm_6_117 : pz_mth 6 117 = some 107 := by decide +kernel
theorem pzm_6_126 : pz_mth 6 126 = some 25 := by decide +kernel
theorem pzm_6_133 : pz_mth 6 133 = some 111 := by decide +kernel
theorem pzm_6_140 : pz_mth 6 140 = some 3 := by decide +kernel
theorem pzm_6_147 : pz_mth 6 147 = some 5 := by decide +kernel
theorem pzm_6_151 : pz_mth 6 151 = some 8 := by decide +kernel
theorem pzm_6_154 : pz_mth 6 154 = some 9 := by decide +kernel
theorem pzm_6_159 : pz_mth 6 159 = some 109 := by decide +kernel
theorem pzm_6_164 : pz_mth 6 164 = some 110 := by decide +kernel
theorem pzm_6_175 : pz_mth 6 175 = some 19 := by decide +kernel
theorem pzm_6_179 : pz_mth 6 179 = some 22 := by decide +kernel
theorem pzm_6_185 : pz_mth 6 185 = some 20 := by decide +kernel
theorem pzm_6_189 : pz_mth 6 189 = some 23 := by decide +kernel
theorem pzm_6_201 : pz_mth 6 201 = some 11 := by decide +kernel
theorem pzm_6_204 : pz_mth 6 204 = some 12 := by decide +kernel
theorem pzm_6_209 : pz_mth 6 209 = some 37 := by decide +kernel
theorem pzm_6_213 : pz_mth 6 213 = some 39 := by decide +kernel
theorem pzm_6_216 : pz_mth 6 216 = some 40 := by decide +kernel
theorem pzm_6_227 : pz_mth 6 227 = some 72 := by decide +kernel
theorem pzm_6_235 : pz_mth 6 235 = some 60 := by decide +kernel
theorem pzm_6_239 : pz_mth 6 239 = some 57 := by decide +kernel
theorem pzm_6_244 : pz_mth 6 244 = some 62 := by decide +kernel
theorem pzm_6_249 : pz_mth 6 249 = some 63 := by decide +kernel
theorem pzm_6_252 : pz_mth 6 252 = some 67 := by decide +kernel
theorem pzm_6_261 : pz_mth 6 261 = some 58 := by decide +kernel
theorem pzm_6_264 : pz_mth 6 264 = some 56 := by decide +kernel
theorem pzm_6_267 : pz_mth 6 267 = some 69 := by decide +kernel
theorem pzm_6_270 : pz_mth 6 270 = some 59 := by decide +kernel
theorem pzm_6_275 : pz_mth 6 275 = some 10 := by decide +kernel
theorem pzm_6_278 : pz_mth 6 278 = some 70 := by decide +kernel
theorem pzm_6_281 : pz_mth 6 281 = some 71 := by decide +kernel
theorem pzm_6_284 : pz_mth 6 284 = some 250 := by decide +kernel
theorem pzm_6_295 : pz_mth 6 295 = some 30 := by decide +kernel
theorem pzm_6_298 : pz_mth 6 298 = some 31 := by decide +kernel
theorem pzm_6_301 : pz_mth 6 301 = some 32 := by decide +kernel
theorem pzm_6_304 : pz_mth 6 304 = some 33 := by decide +kernel
theorem pzm_6_322 : pz_mth 6 322 = some 49 := by decide +kernel
theorem pzm_6_330 : pz_mth 6 330 = some 43 := by decide +kernel
theorem pzm_6_333 : pz_mth 6 333 = some 50 := by decide +kernel
theorem pzm_6_337 : pz_mth 6 337 = some 114 := by decide +kernel
theorem pzm_6_340 : pz_mth 6 340 = some 44 := by decide +kernel
theorem pzm_6_345 : pz_mth 6 345 = some 45 := by decide +kernel
theorem pzm_6_355 : pz_mth 6 355 = some 46 := by decide +kernel
theorem pzm_6_358 : pz_mth 6 358 = some 75 := by decide +kernel
theorem pzm_6_373 : pz_mth 6 373 = some 115 := by decide +kernel
theorem pzm_6_376 : pz_mth 6 376 = some 116 := by decide +kernel
theorem pzm_6_379 : pz_mth 6 379 = some 117 := by decide +kernel
theorem pzm_6_382 : pz_mth 6 382 = some 118 := by decide +kernel
theorem pzm_6_385 : pz_mth 6 385 = some 120 := by decide +kernel
theorem pzm_6_388 : pz_mth 6 388 = some 121 := by decide +kernel
theorem pzm_7_39 : pz_mth 7 39 = some 170 := by decide +kernel
theorem pzm_7_54 : pz_mth 7 54 = some 181 := by decide +kernel
theorem pzm_7_57 : pz_mth 7 57 = some 192 := by decide +kernel
theorem pzm_7_63 : pz_mth 7 63 = some 127 := by decide +kernel
theorem pzm_7_67 : pz_mth 7 67 = some 128 := by decide +kernel
theorem pzm_7_70 : pz_mth 7 70 = some 159 := by decide +kernel
theorem pzm_7_74 : pz_mth 7 74 = some 129 := by decide +kernel
theorem pzm_7_78 : pz_mth 7 78 = some 133 := by decide +kernel
theorem pzm_7_81 : pz_mth 7 81 = some 203 := by decide +kernel
theorem pzm_7_84 : pz_mth 7 84 = some 147 := by decide +kernel
theorem pzm_7_88 : pz_mth 7 88 = some 138 := by decide +kernel
theorem pzm_7_91 : pz_mth 7 91 = some 132 := by decide +kernel
theorem pzm_7_94 : pz_mth 7 94 = some 141 := by decide +kernel
theorem pzm_7_98 : pz_mth 7 98 = some 144 := by decide +kernel
theorem pzm_7_101 : pz_mth 7 101 = some 130 := by decide +kernel
theorem pzm_7_104 : pz_mth 7 104 = some 150 := by decide +kernel
theorem pzm_7_107 : pz_mth 7 107 = some 152 := by decide +kernel
theorem pzm_7_110 : pz_mth 7 110 = some 149 := by decide +kernel
theorem pzm_7_114 : pz_mth 7 114 = some 151 := by decide +kernel
theorem pzm_7_122 : pz_mth 7 122 = some 131 := by decide +kernel
theorem pzm_7_125 : pz_mth 7 125 = some 145 := by decide +kernel
theorem pzm_7_129 : pz_mth 7 129 = some 158 := by decide +kernel
theorem pzm_7_132 : pz_mth 7 132 = some 155 := by decide +kernel
theorem pzm_7_135 : pz_mth 7 135 = some 157 := by decide +kernel
theorem pzm_7_139 : pz_mth 7 139 = some 214 := by decide +kernel
theorem pzm_7_142 : pz_mth 7 142 = some 160 := by decide +kernel
theorem pzm_7_145 : pz_mth 7 145 = some 156 := by decide +kernel
theorem pzm_7_148 : pz_mth 7 148 = some 146 := by decide +kernel
theorem pzm_7_152 : pz_mth 7 152 = some 163 := by decide +kernel
theorem pzm_7_155 : pz_mth 7 155 = some 165 := by decide +kernel
theorem pzm_7_159 : pz_mth 7 159 = some 168 := by decide +kernel
theorem pzm_7_162 : pz_mth 7 162 = some 175 := by decide +kernel
theorem pzm_7_165 : pz_mth 7 165 = some 176 := by decide +kernel
theorem pzm_7_168 : pz_mth 7 168 = some 180 := by decide +kernel
theorem pzm_7_171 : pz_mth 7 171 = some 179 := by decide +kernel
theorem pzm_7_174 : pz_mth 7 174 = some 178 := by decide +kernel
theorem pzm_7_177 : pz_mth 7 177 = some 182 := by decide +kernel
theorem pzm_7_181 : pz_mth 7 181 = some 183 := by decide +kernel
theorem pzm_7_185 : pz_mth 7 185 = some 187 := by decide +kernel
theorem pzm_7_189 : pz_mth 7 189 = some 188 := by decide +kernel
theorem pzm_7_192 : pz_mth 7 192 = some 177 := by decide +kernel
theorem pzm_7_195 : pz_mth 7 195 = some 193 := by decide +kernel
theorem pzm_7_199 : pz_mth 7 199 = some 196 := by decide +kernel
theorem pzm_7_202 : pz_mth 7 202 = some 197 := by decide +kernel
theorem pzm_7_217 : pz_mth 7 217 = some 201 := by decide +kernel
theorem pzm_7_221 : pz_mth 7 221 = some 202 := by decide +kernel
theorem pzm_7_225 : pz_mth 7 225 = some 204 := by decide +kernel
theorem pzm_7_238 : pz_mth 7 238 = some 205 := by decide +kernel
theorem pzm_7_242 : pz_mth 7 242 = some 207 := by decide +kernel
theorem pzm_7_245 : pz_mth 7 245 = some 206 := by decide +kernel
theorem pzm_7_248 : pz_mth 7 248 = some 208 := by decide +kernel
theorem pzm_8_7 : pz_mth 8 7 = some 108 := by decide +kernel
theorem pzm_8_17 : pz_mth 8 17 = some 119 := by decide +kernel
theorem pzm_8_25 : pz_mth 8 25 = some 122 := by decide +kernel
theorem pzm_8_30 : pz_mth 8 30 = some 123 := by decide +kernel
theorem pzm_8_34 : pz_mth 8 34 = some 124 := by decide +kernel
theorem pzm_8_37 : pz_mth 8 37 = some 125 := by decide +kernel
theorem pzm_8_41 : pz_mth 8 41 = some 126 := by decide +kernel
theorem pzm_8_45 : pz_mth 8 45 = some 76 := by decide +kernel
theorem pzm_8_48 : pz_mth 8 48 = some 77 := by decide +kernel
theorem pzm_8_52 : pz_mth 8 52 = some 78 := by decide +kernel
theorem pzm_8_55 : pz_mth 8 55 = some 79 := by decide +kernel
theorem pzm_8_59 : pz_mth 8 59 = some 80 := by decide +kernel
theorem pzm_8_63 : pz_mth 8 63 = some 81 := by decide +kernel
theorem pzm_8_66 : pz_mth 8 66 = some 82 := by decide +kernel
theorem pzm_8_69 : pz_mth 8 69 = some 83 := by decide +kernel
theorem pzm_8_72 : pz_mth 8 72 = some 84 := by decide +kernel
theorem pzm_8_75 : pz_mth 8 75 = some 85 := by decide +kernel
theorem pzm_8_78 : pz_mth 8 78 = some 87 := by decide +kernel
theorem pzm_8_81 : pz_mth 8 81 = some 88 := by decide +kernel
theorem pzm_8_84 : pz_mth 8 84 = some 89 := by decide +kernel
theorem pzm_8_88 : pz_mth 8 88 = some 90 := by decide +kernel
theorem pzm_8_91 : pz_mth 8 91 = some 91 := by decide +kernel
theorem pzm_8_94 : pz_mth 8 94 = some 92 := by decide +kernel
theorem pzm_8_97 : pz_mth 8 97 = some 93 := by decide +kernel
theorem pzm_8_100 : pz_mth 8 100 = some 94 := by decide +kernel
theorem pzm_8_103 : pz_mth 8 103 = some 95 := by decide +kernel
theorem pzm_8_106 : pz_mth 8 106 = some 96 := by decide +kernel
theorem pzm_8_109 : pz_mth 8 109 = some 98 := by decide +kernel
theorem pzm_8_112 : pz_mth 8 112 = some 99 := by decide +kernel
theorem pzm_8_115 : pz_mth 8 115 = some 101 := by decide +kernel
theorem pzm_8_119 : pz_mth 8 119 = some 102 := by decide +kernel
theorem pzm_8_122 : pz_mth 8 122 = some 103 := by decide +kernel
theorem pzm_8_125 : pz_mth 8 125 = some 104 := by decide +kernel
theorem pzm_8_128 : pz_mth 8 128 = some 106 := by decide +kernel
theorem pzm_8_131 : pz_mth 8 131 = some 86 := by decide +kernel
theorem pzm_8_134 : pz_mth 8 134 = some 137 := by decide +kernel
theorem pzm_8_135 : pz_mth 8 135 = some 97 := by decide +kernel
theorem pzm_8_138 : pz_mth 8 138 = some 215 := by decide +kernel
theorem pzm_8_139 : pz_mth 8 139 = some 243 := by decide +kernel
theorem pzm_8_144 : pz_mth 8 144 = some 134 := by decide +kernel
theorem pzm_8_145 : pz_mth 8 145 = some 148 := by decide +kernel
theorem pzm_8_148 : pz_mth 8 148 = some 244 := by decide +kernel
theorem pzm_8_151 : pz_mth 8 151 = some 166 := by decide +kernel
theorem pzm_8_152 : pz_mth 8 152 = some 245 := by decide +kernel
theorem pzm_8_154 : pz_mth 8 154 = some 135 := by decide +kernel
theorem pzm_8_155 : pz_mth 8 155 = some 246 := by decide +kernel
theorem pzm_8_158 : pz_mth 8 158 = some 136 := by decide +kernel
theorem pzm_8_159 : pz_mth 8 159 = some 247 := by decide +kernel
theorem pzm_8_161 : pz_mth 8 161 = some 139 := by decide +kernel
theorem pzm_8_162 : pz_mth 8 162 = some 248 := by decide +kernel
theorem pzm_8_164 : pz_mth 8 164 = some 140 := by decide +kernel
theorem pzm_8_165 : pz_mth 8 165 = some 249 := by decide +kernel
theorem pzm_8_168 : pz_mth 8 168 = some 142 := by decide +kernel
theorem pzm_8_169 : pz_mth 8 169 = some 216 := by decide +kernel
theorem pzm_8_171 : pz_mth 8 171 = some 153 := by decide +kernel
theorem pzm_8_172 : pz_mth 8 172 = some 217 := by decide +kernel
theorem pzm_8_175 : pz_mth 8 175 = some 143 := by decide +kernel
theorem pzm_8_176 : pz_mth 8 176 = some 218 := by decide +kernel
theorem pzm_8_178 : pz_mth 8 178 = some 154 := by decide +kernel
theorem pzm_8_179 : pz_mth 8 179 = some 219 := by decide +kernel
theorem pzm_8_182 : pz_mth 8 182 = some 161 := by decide +kernel
theorem pzm_8_183 : pz_mth 8 183 = some 220 := by decide +kernel
theorem pzm_8_186 : pz_mth 8 186 = some 162 := by decide +kernel
theorem pzm_8_187 : pz_mth 8 187 = some 221 := by decide +kernel
theorem pzm_8_189 : pz_mth 8 189 = some 164 := by decide +kernel
theorem pzm_8_190 : pz_mth 8 190 = some 222 := by decide +kernel
theorem pzm_8_192 : pz_mth 8 192 = some 167 := by decide +kernel
theorem pzm_8_193 : pz_mth 8 193 = some 223 := by decide +kernel
theorem pzm_8_195 : pz_mth 8 195 = some 168 := by decide +kernel
theorem pzm_8_196 : pz_mth 8 196 = some 224 := by decide +kernel
theorem pzm_8_198 : pz_mth 8 198 = some 169 := by decide +kernel
theorem pzm_8_199 : pz_mth 8 199 = some 225 := by decide +kernel
theorem pzm_8_201 : pz_mth 8 201 = some 171 := by decide +kernel
theorem pzm_8_202 : pz_mth 8 202 = some 226 := by decide +kernel
theorem pzm_8_204 : pz_mth 8 204 = some 172 := by decide +kernel
theorem pzm_8_205 : pz_mth 8 205 = some 227 := by decide +kernel
theorem pzm_8_207 : pz_mth 8 207 = some 173 := by decide +kernel
theorem pzm_8_208 : pz_mth 8 208 = some 228 := by decide +kernel
theorem pzm_8_211 : pz_mth 8 211 = some 174 := by decide +kernel
theorem pzm_8_212 : pz_mth 8 212 = some 229 := by decide +kernel
theorem pzm_8_214 : pz_mth 8 214 = some 184 := by decide +kernel
theorem pzm_8_215 : pz_mth 8 215 = some 230 := by decide +kernel
theorem pzm_8_217 : pz_mth 8 217 = some 185 := by decide +kernel
theorem pzm_8_218 : pz_mth 8 218 = some 231 := by decide +kernel
theorem pzm_8_220 : pz_mth 8 220 = some 186 := by decide +kernel
theorem pzm_8_221 : pz_mth 8 221 = some 232 := by decide +kernel
theorem pzm_8_223 : pz_mth 8 223 = some 189 := by decide +kernel
theorem pzm_8_224 : pz_mth 8 224 = some 233 := by decide +kernel
theorem pzm_8_226 : pz_mth 8 226 = some 190 := by decide +kernel
theorem pzm_8_227 : pz_mth 8 227 = some 234 := by decide +kernel
theorem pzm_8_229 : pz_mth 8 229 = some 191 := by decide +kernel
theorem pzm_8_230 : pz_mth 8 230 = some 235 := by decide +kernel
theorem pzm_8_232 : pz_mth 8 232 = some 194 := by decide +kernel
theorem pzm_8_233 : pz_mth 8 233 = some 236 := by decide +kernel
theorem pzm_8_235 : pz_mth 8 235 = some 195 := by decide +kernel
theorem pzm_8_236 : pz_mth 8 236 = some 237 := by decide +kernel
theorem pzm_8_238 : pz_mth 8 238 = some 198 := by decide +kernel
theorem pzm_8_239 : pz_mth 8 239 = some 100 := by decide +kernel
theorem pzm_8_243 : pz_mth 8 243 = some 199 := by decide +kernel
theorem pzm_8_244 : pz_mth 8 244 = some 238 := by decide +kernel
theorem pzm_8_247 : pz_mth 8 247 = some 200 := by decide +kernel
theorem pzm_8_248 : pz_mth 8 248 = some 239 := by decide +kernel
theorem pzm_8_250 : pz_mth 8 250 = some 209 := by decide +kernel
theorem pzm_8_251 : pz_mth 8 251 = some 240 := by decide +kernel
theorem pzm_8_253 : pz_mth 8 253 = some 210 := by decide +kernel
theorem pzm_8_254 : pz_mth 8 254 = some 241 := by decide +kernel
theorem pzm_8_256 : pz_mth 8 256 = some 211 := by decide +kernel
theorem pzm_8_257 : pz_mth 8 257 = some 105 := by decide +kernel
theorem pzm_8_260 : pz_mth 8 260 = some 212 := by decide +kernel
theorem pzm_8_261 : pz_mth 8 261 = some 242 := by decide +kernel
theorem pzm_8_263 : pz_mth 8 263 = some 213 := by decide +kernel
def pz_nestL_0 : List (Nat × Nat × Nat × Nat) := [(1, 30, 0, 114), (2, 17, 73, 245), (5, 18, 64, 192), (6, 9, 73, 101), (6, 28, 48, 259)]
theorem pz_nestL_ok0 : ∀ e ∈ pz_nestL_0, (fun e => pz_nestQ e = true) e := by decide +kernel
def pz_nestL : List (Nat × Nat × Nat × Nat) := pz_nestL_0
theorem pz_nestL_ok : ∀ e ∈ pz_nestL, (fun e => pz_nestQ e = true) e := by
  intro e h
  simp only [pz_nestL, List.mem_append, or_assoc] at h
  rcases h with h
  exact pz_nestL_ok0 e h
def pz_nest (own idx : Nat) : Option Nat := (pz_nestL.find? (fun e => e.1 == own && e.2.1 == idx)).map (fun e => e.2.2.1)
theorem pzn_1_30 : pz_nest 1 30 = some 0 := by decide +kernel
theorem pzn_2_17 : pz_nest 2 17 = some 73 := by decide +kernel
theorem pzn_5_18 : pz_nest 5 18 = some 64 := by decide +kernel
theorem pzn_6_9 : pz_nest 6 9 = some 73 := by decide +kernel
theorem pzn_6_28 : pz_nest 6 28 = some 48 := by decide +kernel
def pz_objP (e : Nat × Nat × Nat) : Prop := lw_tbl[e.2.2]? = some (.methodLink (pz_R e.1) e.2.1 objectInit)
def pz_objL_0 : List (Nat × Nat × Nat) := [(0, 3, 117), (1, 3, 110), (2, 3, 242), (3, 3, 262), (4, 3, 195), (5, 1, 104), (6, 1, 96), (7, 3, 1088)]
theorem pz_objL_ok0 : ∀ e ∈ pz_objL_0, pz_objP e := by unfold pz_objP; decide +kernel
def pz_objL : List (Nat × Nat × Nat) := pz_objL_0
theorem pz_objL_ok : ∀ e ∈ pz_objL, pz_objP e := by
  intro e h
  simp only [pz_objL, List.mem_append, or_assoc] at h
  rcases h with h
  exact pz_objL_ok0 e h
def pz_obj (own idx : Nat) : Bool := (pz_objL.find? (fun e => e.1 == own && e.2.1 == idx)).isSome
theorem pzo_0_3 : pz_obj 0 3 = true := by decide +kernel
theorem pzo_1_3 : pz_obj 1 3 = true := by decide +kernel
theorem pzo_2_3 : pz_obj 2 3 = true := by decide +kernel
theorem pzo_3_3 : pz_obj 3 3 = true := by decide +kernel
theorem pzo_4_3 : pz_obj 4 3 = true := by decide +kernel
theorem pzo_5_1 : pz_obj 5 1 = true := by decide +kernel
theorem pzo_6_1 : pz_obj 6 1 = true := by decide +kernel
theorem pzo_7_3 : pz_obj 7 3 = true := by decide +kernel
def pz_natN : Nat → MethodName := fun n => match n with
  | 0 => Lib.Math.max.name
  | 1 => Lib.Math.min.name
  | _ => arraycopyName
def pz_natP (e : Nat × Nat × Nat × Nat) : Prop := lw_tbl[e.2.2.2]? = some (.methodLink (pz_R e.1) e.2.1 (pz_natN e.2.2.1))
def pz_natL_0 : List (Nat × Nat × Nat × Nat) := [(0, 38, 2, 356), (1, 42, 2, 359), (1, 86, 0, 678), (2, 35, 1, 484), (4, 40, 2, 364), (4, 82, 0, 888), (7, 48, 2, 1161), (7, 117, 0, 1255)]
theorem pz_natL_ok0 : ∀ e ∈ pz_natL_0, pz_natP e := by unfold pz_natP; decide +kernel
def pz_natL : List (Nat × Nat × Nat × Nat) := pz_natL_0
theorem pz_natL_ok : ∀ e ∈ pz_natL, pz_natP e := by
  intro e h
  simp only [pz_natL, List.mem_append, or_assoc] at h
  rcases h with h
  exact pz_natL_ok0 e h
def pz_nat (own idx : Nat) : Option Nat := (pz_natL.find? (fun e => e.1 == own && e.2.1 == idx)).map (fun e => e.2.2.1)
theorem pzx_0_38 : pz_nat 0 38 = some 2 := by decide +kernel
theorem pzx_1_42 : pz_nat 1 42 = some 2 := by decide +kernel
theorem pzx_1_86 : pz_nat 1 86 = some 0 := by decide +kernel
theorem pzx_2_35 : pz_nat 2 35 = some 1 := by decide +kernel
theorem pzx_4_40 : pz_nat 4 40 = some 2 := by decide +kernel
theorem pzx_4_82 : pz_nat 4 82 = some 0 := by decide +kernel
theorem pzx_7_48 : pz_nat 7 48 = some 2 := by decide +kernel
theorem pzx_7_117 : pz_nat 7 117 = some 0 := by decide +kernel
theorem pz_natW : lw_tbl[358]? = some (.native arraycopyName) ∧ lw_tbl[357]? = some (.static arraycopyName) ∧ lw_tbl[80]? = some (.initialized "java/lang/System") := by decide +kernel
theorem pz_maxW : lw_tbl[679]? = some (.static Lib.Math.max.name) ∧ lw_tbl[81]? = some (.initialized "java/lang/Math") ∧ lw_tbl[680]? = some (.code Lib.Math.max.name Lib.Math.max.code 2 (some .int)) := by decide +kernel
theorem pz_minW : lw_tbl[485]? = some (.static Lib.Math.min.name) ∧ lw_tbl[81]? = some (.initialized "java/lang/Math") ∧ lw_tbl[486]? = some (.code Lib.Math.min.name Lib.Math.min.code 2 (some .int)) := by decide +kernel
theorem pz_objW : lw_tbl[97]? = some (.instanceMethod objectInit) ∧ lw_tbl[98]? = some (.code objectInit ⟨#[0xb1]⟩ 1 none) := by decide +kernel
def pz_clsP (e : Nat × Nat × Nat × Nat) : Prop := e.2.2.1 < 8 ∧ lw_tbl[e.2.2.2]? = some (.classLink (pz_R e.1) e.2.1 (pz_R e.2.2.1))
def pz_clsL_0 : List (Nat × Nat × Nat × Nat) := [(1, 9, 0, 111), (2, 11, 5, 243), (5, 7, 1, 105), (5, 16, 4, 190), (6, 7, 5, 99), (6, 19, 2, 237), (6, 26, 3, 257), (8, 8, 6, 91), (8, 132, 7, 1083)]
theorem pz_clsL_ok0 : ∀ e ∈ pz_clsL_0, pz_clsP e := by unfold pz_clsP; decide +kernel
def pz_clsL : List (Nat × Nat × Nat × Nat) := pz_clsL_0
theorem pz_clsL_ok : ∀ e ∈ pz_clsL, pz_clsP e := by
  intro e h
  simp only [pz_clsL, List.mem_append, or_assoc] at h
  rcases h with h
  exact pz_clsL_ok0 e h
def pz_cls (own idx : Nat) : Option Nat := (pz_clsL.find? (fun e => e.1 == own && e.2.1 == idx)).map (fun e => e.2.2.1)
theorem pzc_1_9 : pz_cls 1 9 = some 0 := by decide +kernel
theorem pzc_2_11 : pz_cls 2 11 = some 5 := by decide +kernel
theorem pzc_5_7 : pz_cls 5 7 = some 1 := by decide +kernel
theorem pzc_5_16 : pz_cls 5 16 = some 4 := by decide +kernel
theorem pzc_6_7 : pz_cls 6 7 = some 5 := by decide +kernel
theorem pzc_6_19 : pz_cls 6 19 = some 2 := by decide +kernel
theorem pzc_6_26 : pz_cls 6 26 = some 3 := by decide +kernel
theorem pzc_8_8 : pz_cls 8 8 = some 6 := by decide +kernel
theorem pzc_8_132 : pz_cls 8 132 = some 7 := by decide +kernel
def pz_instPl : Nat → Nat × Nat := fun n => match n with
  | 0 => (113, 70)
  | 1 => (106, 69)
  | 2 => (238, 72)
  | 3 => (258, 73)
  | 4 => (191, 71)
  | 5 => (100, 68)
  | 6 => (92, 67)
  | _ => (1084, 74)
theorem pz_inst (ci : Nat) (h : ci < 8) : lw_tbl[(pz_instPl ci).1]? = some (.instantiable (pz_R ci) (pz_N ci)) ∧ lw_tbl[(pz_instPl ci).2]? = some (.initialized (pz_R ci)) := by
  rcases (show ci = 0 ∨ ci = 1 ∨ ci = 2 ∨ ci = 3 ∨ ci = 4 ∨ ci = 5 ∨ ci = 6 ∨ ci = 7 by omega) with rfl | rfl | rfl | rfl | rfl | rfl | rfl | rfl <;> decide +kernel
theorem pz_arrW : lw_tbl[159]? = some (.arrayClass .int) ∧ lw_tbl[284]? = some (.arrayClass .char) ∧ lw_tbl[1576]? = some (.arrayClass .long) := by decide +kernel
def pz_excL : List (Nat × Nat × String × Nat × Nat) := [(6, 59, "java/lang/IllegalArgumentException", 63, 385), (6, 66, "java/lang/IllegalStateException", 70, 455), (6, 83, "java/lang/IndexOutOfBoundsException", 87, 504), (6, 95, "java/lang/UnsupportedOperationException", 99, 556), (6, 103, "java/util/NoSuchElementException", 107, 596)]
def pz_exc (own idx : Nat) : Option (String × Nat) := (pz_excL.find? (fun e => e.1 == own && e.2.1 == idx)).map (fun e => (e.2.2.1, e.2.2.2.1))
theorem pze_6_59 : pz_exc 6 59 = some ("java/lang/IllegalArgumentException", 63) := by decide +kernel
theorem pze_6_66 : pz_exc 6 66 = some ("java/lang/IllegalStateException", 70) := by decide +kernel
theorem pze_6_83 : pz_exc 6 83 = some ("java/lang/IndexOutOfBoundsException", 87) := by decide +kernel
theorem pze_6_95 : pz_exc 6 95 = some ("java/lang/UnsupportedOperationException", 99) := by decide +kernel
theorem pze_6_103 : pz_exc 6 103 = some ("java/util/NoSuchElementException", 107) := by decide +kernel
def pz_cstP (e : Nat × Nat × Int32 × Nat) : Prop := lw_tbl[e.2.2.2]? = some (.constant (pz_R e.1) e.2.1 e.2.2.1)
def pz_cstL_0 : List (Nat × Nat × Int32 × Nat) := [(4, 100, 100000, 873), (7, 184, 100000, 1395), (9, 265, 1431655765, 953), (9, 266, 858993459, 954), (9, 267, 252645135, 955)]
theorem pz_cstL_ok0 : ∀ e ∈ pz_cstL_0, pz_cstP e := by unfold pz_cstP; decide +kernel
def pz_cstL : List (Nat × Nat × Int32 × Nat) := pz_cstL_0
theorem pz_cstL_ok : ∀ e ∈ pz_cstL, pz_cstP e := by
  intro e h
  simp only [pz_cstL, List.mem_append, or_assoc] at h
  rcases h with h
  exact pz_cstL_ok0 e h
def pz_cst (own idx : Nat) : Option Int32 := (pz_cstL.find? (fun e => e.1 == own && e.2.1 == idx)).map (fun e => e.2.2.1)
theorem pzk_4_100 : pz_cst 4 100 = some 100000 := by decide +kernel
theorem pzk_7_184 : pz_cst 7 184 = some 100000 := by decide +kernel
theorem pzk_9_265 : pz_cst 9 265 = some 1431655765 := by decide +kernel
theorem pzk_9_266 : pz_cst 9 266 = some 858993459 := by decide +kernel
theorem pzk_9_267 : pz_cst 9 267 = some 252645135 := by decide +kernel
def pz_dblP (e : Nat × Nat × UInt64 × Nat) : Prop := lw_tbl[e.2.2.2]? = some (.constantDouble (pz_R e.1) e.2.1 e.2.2.1)
def pz_dblL_0 : List (Nat × Nat × UInt64 × Nat) := [(6, 309, 4622945017495814144, 339), (7, 205, 4622945017495814144, 1440)]
theorem pz_dblL_ok0 : ∀ e ∈ pz_dblL_0, pz_dblP e := by unfold pz_dblP; decide +kernel
def pz_dblL : List (Nat × Nat × UInt64 × Nat) := pz_dblL_0
theorem pz_dblL_ok : ∀ e ∈ pz_dblL, pz_dblP e := by
  intro e h
  simp only [pz_dblL, List.mem_append, or_assoc] at h
  rcases h with h
  exact pz_dblL_ok0 e h
def pz_dbl (own idx : Nat) : Option UInt64 := (pz_dblL.find? (fun e => e.1 == own && e.2.1 == idx)).map (fun e => e.2.2.1)
theorem pzd_6_309 : pz_dbl 6 309 = some 4622945017495814144 := by decide +kernel
theorem pzd_7_205 : pz_dbl 7 205 = some 4622945017495814144 := by decide +kernel
def pz_strL : List (Nat × String) := [(61, "the number is out of range or used"), (68, "there are 12 cues"), (85, "no such cue"), (97, "refused"), (105, "no such index"), (121, "not a follow time"), (136, "no such cue or part"), (138, "the tenths are out of range"), (157, "what is not 0 to 6"), (162, "no such channel"), (167, "the level is out of range"), (173, "no such cue, channel or part"), (183, "no such cue or channel"), (207, "what is not 0 to 3"), (219, "one of the cues does not exist"), (221, "no reason was kept"), (233, "there is no next cue"), (242, "there is no cue with a lower number"), (247, "more than 100000 tenths would have passed"), (273, "what is not 0 to 4"), (307, "account is not 0 to 10"), (311, "the character code is out of range"), (316, "the input has 60 characters"), (328, "the input is not a text"), (343, "an entry cannot be done"), (348, "no error position was kept"), (353, "no change is remembered"), (364, "nothing was saved")]
def pz_str (idx : Nat) : Option String := (pz_strL.find? (fun e => e.1 == idx)).map (fun e => e.2)
theorem pzs_61 : pz_str 61 = some "the number is out of range or used" := by decide +kernel
theorem pzs_68 : pz_str 68 = some "there are 12 cues" := by decide +kernel
theorem pzs_85 : pz_str 85 = some "no such cue" := by decide +kernel
theorem pzs_97 : pz_str 97 = some "refused" := by decide +kernel
theorem pzs_105 : pz_str 105 = some "no such index" := by decide +kernel
theorem pzs_121 : pz_str 121 = some "not a follow time" := by decide +kernel
theorem pzs_136 : pz_str 136 = some "no such cue or part" := by decide +kernel
theorem pzs_138 : pz_str 138 = some "the tenths are out of range" := by decide +kernel
theorem pzs_157 : pz_str 157 = some "what is not 0 to 6" := by decide +kernel
theorem pzs_162 : pz_str 162 = some "no such channel" := by decide +kernel
theorem pzs_167 : pz_str 167 = some "the level is out of range" := by decide +kernel
theorem pzs_173 : pz_str 173 = some "no such cue, channel or part" := by decide +kernel
theorem pzs_183 : pz_str 183 = some "no such cue or channel" := by decide +kernel
theorem pzs_207 : pz_str 207 = some "what is not 0 to 3" := by decide +kernel
theorem pzs_219 : pz_str 219 = some "one of the cues does not exist" := by decide +kernel
theorem pzs_221 : pz_str 221 = some "no reason was kept" := by decide +kernel
theorem pzs_233 : pz_str 233 = some "there is no next cue" := by decide +kernel
theorem pzs_242 : pz_str 242 = some "there is no cue with a lower number" := by decide +kernel
theorem pzs_247 : pz_str 247 = some "more than 100000 tenths would have passed" := by decide +kernel
theorem pzs_273 : pz_str 273 = some "what is not 0 to 4" := by decide +kernel
theorem pzs_307 : pz_str 307 = some "account is not 0 to 10" := by decide +kernel
theorem pzs_311 : pz_str 311 = some "the character code is out of range" := by decide +kernel
theorem pzs_316 : pz_str 316 = some "the input has 60 characters" := by decide +kernel
theorem pzs_328 : pz_str 328 = some "the input is not a text" := by decide +kernel
theorem pzs_343 : pz_str 343 = some "an entry cannot be done" := by decide +kernel
theorem pzs_348 : pz_str 348 = some "no error position was kept" := by decide +kernel
theorem pzs_353 : pz_str 353 = some "no change is remembered" := by decide +kernel
theorem pzs_364 : pz_str 364 = some "nothing was saved" := by decide +kernel
def pz_key : Nat × Nat := (231, 233)
