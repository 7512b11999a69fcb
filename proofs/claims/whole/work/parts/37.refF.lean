/-! the reference: its face -/
section ref
variable {en : pz_Env} {h0 : pz_H} {a : Nat → Nat} {s lv : Int → Int} {A : Nat → Int → Int} {F : Nat → Int}
set_option maxRecDepth 100000 in
set_option maxHeartbeats 4000000 in
theorem kX7_thrown (hj : oj 9 a)  : pz_Cd en 1 148 [.ref (a 0)] (rH h0 a s lv A F) 0 0 (pz_ret (some (.int (zI (F 7)))) (rH h0 a s lv A F)) := by
  refine pz_in pzt_X7_thrown ?_
  refine pr_aload_n dX7_thrown_0 rfl ?_
  refine pr_getf dX7_thrown_1 pzf_7_42 (rH_0 hj) rfl ?_
  exact pr_iret dX7_thrown_4 rfl rfl (by first | exact zret rfl rfl | (exfalso; omega))
set_option maxRecDepth 100000 in
set_option maxHeartbeats 4000000 in
theorem kX7_clear (hj : oj 9 a) (hi : rI s)  : pz_Cd en 2 215 [.ref (a 0)] (rH h0 a s lv A F) 0 0 (pz_ret (some (.int (zI (s 0)))) (rH h0 a (zfil s 0 462 0) lv A (va_up (va_up F 7 0) 5 0))) := by
  refine pz_in pzt_X7_clear ?_
  have hs := rI_B hi
  obtain ⟨hR, hs0, hs1, hs2, hs3⟩ := id hs
  obtain ⟨-, hq1, hq2, hq3, hq4, hq5, hq6, hq7, hq8, hq9, hq10, hq11, hq12, hq13⟩ := id hi
  refine pr_aload_n dX7_clear_0 rfl ?_
  refine zr_iconst dX7_clear_1 ?_
  refine pr_putf dX7_clear_2 pzf_7_42 (Or.inl rfl) (rH_0 hj) (Nat.le_of_ble_eq_true rfl) rfl rfl (rH_p7 hj) ?_
  refine pr_aload_n dX7_clear_5 rfl ?_
  refine pr_getf dX7_clear_6 pzf_7_9 (rH_0 hj) rfl ?_
  refine zr_iconst dX7_clear_9 ?_
  refine zr_iald dX7_clear_10 (rH_1 hj) (by omega) (by decide) ?_
  refine pr_istore_n dX7_clear_11 (by decide) rfl ?_
  refine pr_aload_n dX7_clear_12 rfl ?_
  refine zcv0u dX7_clear_13 pzm_7_39 pzt_X7_begin (rH_0 hj) (kX7_begin hj) (by decide) (Nat.le_of_ble_eq_true rfl) (by decide) ?_
  refine pr_iload_n dX7_clear_16 rfl ?_
  exact pr_iret dX7_clear_17 rfl rfl (by first | exact zret rfl rfl | (exfalso; omega))
set_option maxRecDepth 100000 in
set_option maxHeartbeats 4000000 in
theorem kX7_cueAt_k (hj : oj 9 a) (hi : rI s) {i : Int} (h1 : zR i) (h2 : 0 ≤ i) (h3 : i < s 0) : pz_Cd en 2 135 [.ref (a 0), .int (zI i)] (rH h0 a s lv A F) 0 0 (pz_ret (some (.int (zI (s (18 + 12 * i))))) (rH h0 a s lv A (va_up F 7 0))) := by
  refine pz_in pzt_X7_cueAt ?_
  have hs := rI_B hi
  obtain ⟨hR, hs0, hs1, hs2, hs3⟩ := id hs
  obtain ⟨-, hq1, hq2, hq3, hq4, hq5, hq6, hq7, hq8, hq9, hq10, hq11, hq12, hq13⟩ := id hi
  refine pr_aload_n dX7_cueAt_0 rfl ?_
  refine pr_iload_n dX7_cueAt_1 rfl ?_
  refine zr_iconst dX7_cueAt_2 ?_
  refine pr_aload_n dX7_cueAt_3 rfl ?_
  refine pr_getf dX7_cueAt_4 pzf_7_9 (rH_0 hj) rfl ?_
  refine zr_iconst dX7_cueAt_7 ?_
  refine zr_iald dX7_cueAt_8 (rH_1 hj) (by omega) (by decide) ?_
  refine zr_iconst dX7_cueAt_9 ?_
  refine zr_isub dX7_cueAt_10 ?_
  refine zcs3i dX7_cueAt_11 pzm_7_70 pzt_X7_in (kX7_in (by omega) (by omega) (by omega)) (by decide) (Nat.le_of_ble_eq_true rfl) ?_
  refine zr_if_eq (tgt := 21) dX7_cueAt_14 (by decide) (bI_R _) (fun c14 => by exfalso; have bb := bI_0 c14; omega) (fun c14 => ?_)
  have b14 := bI_ne c14
  refine zr_iconst dX7_cueAt_17 ?_
  refine pr_goto (tgt := 22) dX7_cueAt_18 (by decide) ?_
  refine pr_putf dX7_cueAt_22 pzf_7_42 (Or.inl rfl) (rH_0 hj) (Nat.le_of_ble_eq_true rfl) rfl rfl (rH_p7 hj) ?_
  refine pr_aload_n dX7_cueAt_25 rfl ?_
  refine pr_getf dX7_cueAt_26 pzf_7_42 (rH_0 hj) rfl ?_
  refine zr_if_le (tgt := 36) dX7_cueAt_29 (by decide) (show zR 0 by decide) (fun c29 => ?_) (fun c29 => absurd (show (0 : Int) ≤ 0 by decide) c29)
  refine pr_aload_n dX7_cueAt_36 rfl ?_
  refine pr_getf dX7_cueAt_37 pzf_7_9 (rH_0 hj) rfl ?_
  refine pr_iload_n dX7_cueAt_40 rfl ?_
  refine zcs1i dX7_cueAt_41 pzm_7_63 pzt_X7_at kX7_at (by decide) (Nat.le_of_ble_eq_true rfl) ?_
  refine zr_iald dX7_cueAt_44 (rH_1 hj) (by omega) (by decide) ?_
  exact pr_iret dX7_cueAt_45 rfl rfl (by first | exact zret rfl rfl | (exfalso; omega))
set_option maxRecDepth 100000 in
set_option maxHeartbeats 4000000 in
theorem kX7_cueAt_t (hj : oj 9 a) (hi : rI s) {i : Int} (h1 : zR i) (h2 : ¬ (0 ≤ i ∧ i < s 0)) : pz_Cd en 2 135 [.ref (a 0), .int (zI i)] (rH h0 a s lv A F) 0 0 (pz_ret (some (.int (zI 0))) (rH h0 a s lv A (va_up F 7 1))) := by
  refine pz_in pzt_X7_cueAt ?_
  have hs := rI_B hi
  obtain ⟨hR, hs0, hs1, hs2, hs3⟩ := id hs
  obtain ⟨-, hq1, hq2, hq3, hq4, hq5, hq6, hq7, hq8, hq9, hq10, hq11, hq12, hq13⟩ := id hi
  refine pr_aload_n dX7_cueAt_0 rfl ?_
  refine pr_iload_n dX7_cueAt_1 rfl ?_
  refine zr_iconst dX7_cueAt_2 ?_
  refine pr_aload_n dX7_cueAt_3 rfl ?_
  refine pr_getf dX7_cueAt_4 pzf_7_9 (rH_0 hj) rfl ?_
  refine zr_iconst dX7_cueAt_7 ?_
  refine zr_iald dX7_cueAt_8 (rH_1 hj) (by omega) (by decide) ?_
  refine zr_iconst dX7_cueAt_9 ?_
  refine zr_isub dX7_cueAt_10 ?_
  refine zcs3i dX7_cueAt_11 pzm_7_70 pzt_X7_in (kX7_in (by omega) (by omega) (by omega)) (by decide) (Nat.le_of_ble_eq_true rfl) ?_
  refine zr_if_eq (tgt := 21) dX7_cueAt_14 (by decide) (bI_R _) (fun c14 => ?_) (fun c14 => by exfalso; have bb := bI_ne c14; omega)
  have b14 := bI_0 c14
  refine zr_iconst dX7_cueAt_21 ?_
  refine pr_putf dX7_cueAt_22 pzf_7_42 (Or.inl rfl) (rH_0 hj) (Nat.le_of_ble_eq_true rfl) rfl rfl (rH_p7 hj) ?_
  refine pr_aload_n dX7_cueAt_25 rfl ?_
  refine pr_getf dX7_cueAt_26 pzf_7_42 (rH_0 hj) rfl ?_
  refine zr_if_le (tgt := 36) dX7_cueAt_29 (by decide) (show zR 1 by decide) (fun c29 => absurd c29 (show ¬ ((1 : Int) ≤ 0) by decide)) (fun c29 => ?_)
  refine zr_iconst dX7_cueAt_32 ?_
  refine pr_goto (tgt := 45) dX7_cueAt_33 (by decide) ?_
  exact pr_iret dX7_cueAt_45 rfl rfl (by first | exact zret rfl rfl | (exfalso; omega))
set_option maxRecDepth 100000 in
set_option maxHeartbeats 4000000 in
theorem kX7_part_k (hj : oj 9 a) (hi : rI s) {cue ch : Int} (h1 : zR cue) (h2 : zR ch) {dl : Prop} [dd : Decidable dl] (g1 : 0 ≤ rpl s cue) (g2 : 0 ≤ ch) (g3 : ch ≤ 3) : pz_Cd en 4 143 [.ref (a 0), .int (zI cue), .int (zI ch), .int (zI (bI dl))] (rH h0 a s lv A F) 0 0 (pz_ret (some (.int (zI (s (18 + 12 * rpl s cue + 4 + 2 * ch + (if dl then 0 else 1)))))) (rH h0 a s lv A (va_up F 7 0))) := by
  refine pz_in pzt_X7_part ?_
  have hs := rI_B hi
  obtain ⟨hR, hs0, hs1, hs2, hs3⟩ := id hs
  obtain ⟨-, hq1, hq2, hq3, hq4, hq5, hq6, hq7, hq8, hq9, hq10, hq11, hq12, hq13⟩ := id hi
  have hp := rpl_R hs cue
  refine pr_aload_n dX7_part_0 rfl ?_
  refine pr_aload_n dX7_part_1 rfl ?_
  refine pr_iload_n dX7_part_2 rfl ?_
  refine zcv1i dX7_part_3 pzm_7_74 pzt_X7_isCue (rH_0 hj) (kX7_isCue hj hs h1) (by decide) (Nat.le_of_ble_eq_true rfl) (by decide) ?_
  refine zr_if_eq (tgt := 20) dX7_part_6 (by decide) (bI_R _) (fun c6 => by exfalso; have bb := bI_0 c6; omega) (fun c6 => ?_)
  have b6 := bI_ne c6
  refine pr_iload_n dX7_part_9 rfl ?_
  refine zcs1i dX7_part_10 pzm_7_91 pzt_X7_isPart (kX7_isPart h2) (by decide) (Nat.le_of_ble_eq_true rfl) ?_
  refine zr_if_eq (tgt := 20) dX7_part_13 (by decide) (bI_R _) (fun c13 => by exfalso; have bb := bI_0 c13; omega) (fun c13 => ?_)
  have b13 := bI_ne c13
  refine zr_iconst dX7_part_16 ?_
  refine pr_goto (tgt := 21) dX7_part_17 (by decide) ?_
  refine pr_putf dX7_part_21 pzf_7_42 (Or.inl rfl) (rH_0 hj) (Nat.le_of_ble_eq_true rfl) rfl rfl (rH_p7 hj) ?_
  refine pr_aload_n dX7_part_24 rfl ?_
  refine pr_getf dX7_part_25 pzf_7_42 (rH_0 hj) rfl ?_
  refine zr_if_le (tgt := 35) dX7_part_28 (by decide) (show zR 0 by decide) (fun c28 => ?_) (fun c28 => absurd (show (0 : Int) ≤ 0 by decide) c28)
  refine pr_aload_n dX7_part_35 rfl ?_
  refine pr_getf dX7_part_36 pzf_7_9 (rH_0 hj) rfl ?_
  refine pr_aload_n dX7_part_39 rfl ?_
  refine pr_iload_n dX7_part_40 rfl ?_
  refine pr_iload_n dX7_part_41 rfl ?_
  refine pr_iload_n dX7_part_42 rfl ?_
  refine zcv3i dX7_part_43 pzm_7_94 pzt_X7_partAt (rH_0 hj) (kX7_partAt hj hs h1) (by decide) (Nat.le_of_ble_eq_true rfl) (by decide) ?_
  have hd : 0 ≤ (if dl then (0 : Int) else 1) ∧ (if dl then (0 : Int) else 1) ≤ 1 := by split <;> decide
  refine zr_iald dX7_part_46 (rH_1 hj) (by omega) (by decide) ?_
  exact pr_iret dX7_part_47 rfl rfl (by first | exact zret rfl rfl | (exfalso; omega))
set_option maxRecDepth 100000 in
set_option maxHeartbeats 4000000 in
theorem kX7_part_t (hj : oj 9 a) (hi : rI s) {cue ch : Int} (h1 : zR cue) (h2 : zR ch) {dl : Prop} [dd : Decidable dl] (g1 : ¬ (0 ≤ rpl s cue ∧ 0 ≤ ch ∧ ch ≤ 3)) : pz_Cd en 4 143 [.ref (a 0), .int (zI cue), .int (zI ch), .int (zI (bI dl))] (rH h0 a s lv A F) 0 0 (pz_ret (some (.int (zI 0))) (rH h0 a s lv A (va_up F 7 1))) := by
  refine pz_in pzt_X7_part ?_
  have hs := rI_B hi
  obtain ⟨hR, hs0, hs1, hs2, hs3⟩ := id hs
  obtain ⟨-, hq1, hq2, hq3, hq4, hq5, hq6, hq7, hq8, hq9, hq10, hq11, hq12, hq13⟩ := id hi
  refine pr_aload_n dX7_part_0 rfl ?_
  refine pr_aload_n dX7_part_1 rfl ?_
  refine pr_iload_n dX7_part_2 rfl ?_
  refine zcv1i dX7_part_3 pzm_7_74 pzt_X7_isCue (rH_0 hj) (kX7_isCue hj hs h1) (by decide) (Nat.le_of_ble_eq_true rfl) (by decide) ?_
  refine zr_if_eq (tgt := 20) dX7_part_6 (by decide) (bI_R _) (fun c6 => ?_) (fun c6 => ?_)
  · have b6 := bI_0 c6
    refine zr_iconst dX7_part_20 ?_
    refine pr_putf dX7_part_21 pzf_7_42 (Or.inl rfl) (rH_0 hj) (Nat.le_of_ble_eq_true rfl) rfl rfl (rH_p7 hj) ?_
    refine pr_aload_n dX7_part_24 rfl ?_
    refine pr_getf dX7_part_25 pzf_7_42 (rH_0 hj) rfl ?_
    refine zr_if_le (tgt := 35) dX7_part_28 (by decide) (show zR 1 by decide) (fun c28 => absurd c28 (show ¬ ((1 : Int) ≤ 0) by decide)) (fun c28 => ?_)
    refine zr_iconst dX7_part_31 ?_
    refine pr_goto (tgt := 47) dX7_part_32 (by decide) ?_
    exact pr_iret dX7_part_47 rfl rfl (by first | exact zret rfl rfl | (exfalso; omega))
  · have b6 := bI_ne c6
    refine pr_iload_n dX7_part_9 rfl ?_
    refine zcs1i dX7_part_10 pzm_7_91 pzt_X7_isPart (kX7_isPart h2) (by decide) (Nat.le_of_ble_eq_true rfl) ?_
    refine zr_if_eq (tgt := 20) dX7_part_13 (by decide) (bI_R _) (fun c13 => ?_) (fun c13 => by exfalso; have bb := bI_ne c13; omega)
    have b13 := bI_0 c13
    refine zr_iconst dX7_part_20 ?_
    refine pr_putf dX7_part_21 pzf_7_42 (Or.inl rfl) (rH_0 hj) (Nat.le_of_ble_eq_true rfl) rfl rfl (rH_p7 hj) ?_
    refine pr_aload_n dX7_part_24 rfl ?_
    refine pr_getf dX7_part_25 pzf_7_42 (rH_0 hj) rfl ?_
    refine zr_if_le (tgt := 35) dX7_part_28 (by decide) (show zR 1 by decide) (fun c28 => absurd c28 (show ¬ ((1 : Int) ≤ 0) by decide)) (fun c28 => ?_)
    refine zr_iconst dX7_part_31 ?_
    refine pr_goto (tgt := 47) dX7_part_32 (by decide) ?_
    exact pr_iret dX7_part_47 rfl rfl (by first | exact zret rfl rfl | (exfalso; omega))
set_option maxRecDepth 100000 in
set_option maxHeartbeats 4000000 in
theorem kX7_level_k (hj : oj 9 a) (hi : rI s) {cue ch : Int} (h1 : zR cue) (h2 : zR ch) (g1 : 0 ≤ rpl s cue) (g2 : 0 ≤ ch) (g3 : ch ≤ 11) : pz_Cd en 4 168 [.ref (a 0), .int (zI cue), .int (zI ch)] (rH h0 a s lv A F) 0 0 (pz_ret (some (.int (zI (rlv s (rpl s cue) ch)))) (rH h0 a s lv A (va_up F 7 0))) := by
  refine pz_in pzt_X7_level ?_
  have hs := rI_B hi
  obtain ⟨hR, hs0, hs1, hs2, hs3⟩ := id hs
  obtain ⟨-, hq1, hq2, hq3, hq4, hq5, hq6, hq7, hq8, hq9, hq10, hq11, hq12, hq13⟩ := id hi
  have hp := rpl_R hs cue
  refine pr_aload_n dX7_level_0 rfl ?_
  refine pr_aload_n dX7_level_1 rfl ?_
  refine pr_iload_n dX7_level_2 rfl ?_
  refine zcv1i dX7_level_3 pzm_7_74 pzt_X7_isCue (rH_0 hj) (kX7_isCue hj hs h1) (by decide) (Nat.le_of_ble_eq_true rfl) (by decide) ?_
  refine zr_if_eq (tgt := 20) dX7_level_6 (by decide) (bI_R _) (fun c6 => by exfalso; have bb := bI_0 c6; omega) (fun c6 => ?_)
  have b6 := bI_ne c6
  refine pr_iload_n dX7_level_9 rfl ?_
  refine zcs1i dX7_level_10 pzm_7_122 pzt_X7_isChannel (kX7_isChannel h2) (by decide) (Nat.le_of_ble_eq_true rfl) ?_
  refine zr_if_eq (tgt := 20) dX7_level_13 (by decide) (bI_R _) (fun c13 => by exfalso; have bb := bI_0 c13; omega) (fun c13 => ?_)
  have b13 := bI_ne c13
  refine zr_iconst dX7_level_16 ?_
  refine pr_goto (tgt := 21) dX7_level_17 (by decide) ?_
  refine pr_putf dX7_level_21 pzf_7_42 (Or.inl rfl) (rH_0 hj) (Nat.le_of_ble_eq_true rfl) rfl rfl (rH_p7 hj) ?_
  refine pr_aload_n dX7_level_24 rfl ?_
  refine pr_getf dX7_level_25 pzf_7_42 (rH_0 hj) rfl ?_
  refine zr_if_le (tgt := 35) dX7_level_28 (by decide) (show zR 0 by decide) (fun c28 => ?_) (fun c28 => absurd (show (0 : Int) ≤ 0 by decide) c28)
  refine pr_aload_n dX7_level_35 rfl ?_
  refine pr_aload_n dX7_level_36 rfl ?_
  refine pr_iload_n dX7_level_37 rfl ?_
  refine zcv1i dX7_level_38 pzm_7_67 pzt_X7_placeOf (rH_0 hj) (kX7_placeOf hj hs h1) (by decide) (Nat.le_of_ble_eq_true rfl) (by decide) ?_
  refine pr_iload_n dX7_level_41 rfl ?_
  refine zcv2i dX7_level_42 pzm_7_84 pzt_X7_levelIn (rH_0 hj) (kX7_levelIn hj hs (by omega) (by omega) g2 g3) (by decide) (Nat.le_of_ble_eq_true rfl) (by decide) ?_
  exact pr_iret dX7_level_45 rfl rfl (by first | exact zret rfl rfl | (exfalso; omega))
set_option maxRecDepth 100000 in
set_option maxHeartbeats 4000000 in
theorem kX7_level_t (hj : oj 9 a) (hi : rI s) {cue ch : Int} (h1 : zR cue) (h2 : zR ch) (g1 : ¬ (0 ≤ rpl s cue ∧ 0 ≤ ch ∧ ch ≤ 11)) : pz_Cd en 4 168 [.ref (a 0), .int (zI cue), .int (zI ch)] (rH h0 a s lv A F) 0 0 (pz_ret (some (.int (zI 0))) (rH h0 a s lv A (va_up F 7 1))) := by
  refine pz_in pzt_X7_level ?_
  have hs := rI_B hi
  obtain ⟨hR, hs0, hs1, hs2, hs3⟩ := id hs
  obtain ⟨-, hq1, hq2, hq3, hq4, hq5, hq6, hq7, hq8, hq9, hq10, hq11, hq12, hq13⟩ := id hi
  refine pr_aload_n dX7_level_0 rfl ?_
  refine pr_aload_n dX7_level_1 rfl ?_
  refine pr_iload_n dX7_level_2 rfl ?_
  refine zcv1i dX7_level_3 pzm_7_74 pzt_X7_isCue (rH_0 hj) (kX7_isCue hj hs h1) (by decide) (Nat.le_of_ble_eq_true rfl) (by decide) ?_
  refine zr_if_eq (tgt := 20) dX7_level_6 (by decide) (bI_R _) (fun c6 => ?_) (fun c6 => ?_)
  · have b6 := bI_0 c6
    refine zr_iconst dX7_level_20 ?_
    refine pr_putf dX7_level_21 pzf_7_42 (Or.inl rfl) (rH_0 hj) (Nat.le_of_ble_eq_true rfl) rfl rfl (rH_p7 hj) ?_
    refine pr_aload_n dX7_level_24 rfl ?_
    refine pr_getf dX7_level_25 pzf_7_42 (rH_0 hj) rfl ?_
    refine zr_if_le (tgt := 35) dX7_level_28 (by decide) (show zR 1 by decide) (fun c28 => absurd c28 (show ¬ ((1 : Int) ≤ 0) by decide)) (fun c28 => ?_)
    refine zr_iconst dX7_level_31 ?_
    refine pr_goto (tgt := 45) dX7_level_32 (by decide) ?_
    exact pr_iret dX7_level_45 rfl rfl (by first | exact zret rfl rfl | (exfalso; omega))
  · have b6 := bI_ne c6
    refine pr_iload_n dX7_level_9 rfl ?_
    refine zcs1i dX7_level_10 pzm_7_122 pzt_X7_isChannel (kX7_isChannel h2) (by decide) (Nat.le_of_ble_eq_true rfl) ?_
    refine zr_if_eq (tgt := 20) dX7_level_13 (by decide) (bI_R _) (fun c13 => ?_) (fun c13 => by exfalso; have bb := bI_ne c13; omega)
    have b13 := bI_0 c13
    refine zr_iconst dX7_level_20 ?_
    refine pr_putf dX7_level_21 pzf_7_42 (Or.inl rfl) (rH_0 hj) (Nat.le_of_ble_eq_true rfl) rfl rfl (rH_p7 hj) ?_
    refine pr_aload_n dX7_level_24 rfl ?_
    refine pr_getf dX7_level_25 pzf_7_42 (rH_0 hj) rfl ?_
    refine zr_if_le (tgt := 35) dX7_level_28 (by decide) (show zR 1 by decide) (fun c28 => absurd c28 (show ¬ ((1 : Int) ≤ 0) by decide)) (fun c28 => ?_)
    refine zr_iconst dX7_level_31 ?_
    refine pr_goto (tgt := 45) dX7_level_32 (by decide) ?_
    exact pr_iret dX7_level_45 rfl rfl (by first | exact zret rfl rfl | (exfalso; omega))
set_option maxRecDepth 100000 in
set_option maxHeartbeats 4000000 in
theorem kX7_levelAgain_k (hj : oj 9 a) (hi : rI s) {cue ch : Int} (h1 : zR cue) (h2 : zR ch) (g1 : 0 ≤ rpl s cue) (g2 : 0 ≤ ch) (g3 : ch ≤ 11) : pz_Cd en 5 169 [.ref (a 0), .int (zI cue), .int (zI ch)] (rH h0 a s lv A F) 0 0 (pz_ret (some (.int (zI (rlv s (rpl s cue) ch)))) (rH h0 a s lv A (va_up F 7 0))) := by
  refine pz_in pzt_X7_levelAgain ?_
  have hs := rI_B hi
  obtain ⟨hR, hs0, hs1, hs2, hs3⟩ := id hs
  obtain ⟨-, hq1, hq2, hq3, hq4, hq5, hq6, hq7, hq8, hq9, hq10, hq11, hq12, hq13⟩ := id hi
  refine pr_aload_n dX7_levelAgain_0 rfl ?_
  refine pr_iload_n dX7_levelAgain_1 rfl ?_
  refine pr_iload_n dX7_levelAgain_2 rfl ?_
  refine zcv2i dX7_levelAgain_3 pzm_7_159 pzt_X7_level (rH_0 hj) (kX7_level_k hj hi h1 h2 g1 g2 g3) (by decide) (Nat.le_of_ble_eq_true rfl) (by decide) ?_
  exact pr_iret dX7_levelAgain_6 rfl rfl (by first | exact zret rfl rfl | (exfalso; omega))
set_option maxRecDepth 100000 in
set_option maxHeartbeats 4000000 in
theorem kX7_levelAgain_t (hj : oj 9 a) (hi : rI s) {cue ch : Int} (h1 : zR cue) (h2 : zR ch) (g1 : ¬ (0 ≤ rpl s cue ∧ 0 ≤ ch ∧ ch ≤ 11)) : pz_Cd en 5 169 [.ref (a 0), .int (zI cue), .int (zI ch)] (rH h0 a s lv A F) 0 0 (pz_ret (some (.int (zI 0))) (rH h0 a s lv A (va_up F 7 1))) := by
  refine pz_in pzt_X7_levelAgain ?_
  have hs := rI_B hi
  obtain ⟨hR, hs0, hs1, hs2, hs3⟩ := id hs
  obtain ⟨-, hq1, hq2, hq3, hq4, hq5, hq6, hq7, hq8, hq9, hq10, hq11, hq12, hq13⟩ := id hi
  refine pr_aload_n dX7_levelAgain_0 rfl ?_
  refine pr_iload_n dX7_levelAgain_1 rfl ?_
  refine pr_iload_n dX7_levelAgain_2 rfl ?_
  refine zcv2i dX7_levelAgain_3 pzm_7_159 pzt_X7_level (rH_0 hj) (kX7_level_t hj hi h1 h2 g1) (by decide) (Nat.le_of_ble_eq_true rfl) (by decide) ?_
  exact pr_iret dX7_levelAgain_6 rfl rfl (by first | exact zret rfl rfl | (exfalso; omega))
set_option maxRecDepth 100000 in
set_option maxHeartbeats 4000000 in
theorem kX7_instruction_k (hj : oj 9 a) (hi : rI s) {i q : Int} (h1 : zR i) (h2 : zR q) (g1 : 0 ≤ i ∧ i < s 1) (g2 : 0 ≤ q ∧ q ≤ 3) : pz_Cd en 2 167 [.ref (a 0), .int (zI i), .int (zI q)] (rH h0 a s lv A F) 0 0 (pz_ret (some (.int (zI (s (162 + 4 * i + q))))) (rH h0 a s lv A (va_up F 7 0))) := by
  refine pz_in pzt_X7_instruction ?_
  have hs := rI_B hi
  obtain ⟨hR, hs0, hs1, hs2, hs3⟩ := id hs
  obtain ⟨-, hq1, hq2, hq3, hq4, hq5, hq6, hq7, hq8, hq9, hq10, hq11, hq12, hq13⟩ := id hi
  refine pr_aload_n dX7_instruction_0 rfl ?_
  refine pr_iload_n dX7_instruction_1 rfl ?_
  refine zr_iconst dX7_instruction_2 ?_
  refine pr_aload_n dX7_instruction_3 rfl ?_
  refine pr_getf dX7_instruction_4 pzf_7_9 (rH_0 hj) rfl ?_
  refine zr_iconst dX7_instruction_7 ?_
  refine zr_iald dX7_instruction_8 (rH_1 hj) (by omega) (by decide) ?_
  refine zr_iconst dX7_instruction_9 ?_
  refine zr_isub dX7_instruction_10 ?_
  refine zcs3i dX7_instruction_11 pzm_7_70 pzt_X7_in (kX7_in (by omega) (by omega) (by omega)) (by decide) (Nat.le_of_ble_eq_true rfl) ?_
  refine zr_if_ne (tgt := 21) dX7_instruction_14 (by decide) (bI_R _) (fun c14 => ?_) (fun c14 => by exfalso; have bb := bI_0 c14; omega)
  have b14 := bI_ne c14
  refine pr_iload_n dX7_instruction_21 rfl ?_
  refine zr_iconst dX7_instruction_22 ?_
  refine zr_iconst dX7_instruction_23 ?_
  refine zcs3i dX7_instruction_24 pzm_7_70 pzt_X7_in (kX7_in (by omega) (by omega) (by omega)) (by decide) (Nat.le_of_ble_eq_true rfl) ?_
  refine zr_if_ne (tgt := 34) dX7_instruction_27 (by decide) (bI_R _) (fun c27 => ?_) (fun c27 => by exfalso; have bb := bI_0 c27; omega)
  have b27 := bI_ne c27
  refine zr_iconst dX7_instruction_34 ?_
  refine pr_putf dX7_instruction_35 pzf_7_42 (Or.inl rfl) (rH_0 hj) (Nat.le_of_ble_eq_true rfl) rfl rfl (rH_p7 hj) ?_
  refine pr_aload_n dX7_instruction_38 rfl ?_
  refine pr_getf dX7_instruction_39 pzf_7_42 (rH_0 hj) rfl ?_
  refine zr_if_le (tgt := 49) dX7_instruction_42 (by decide) (show zR 0 by decide) (fun c42 => ?_) (fun c42 => absurd (show (0 : Int) ≤ 0 by decide) c42)
  refine pr_aload_n dX7_instruction_49 rfl ?_
  refine pr_getf dX7_instruction_50 pzf_7_9 (rH_0 hj) rfl ?_
  refine zr_sipush dX7_instruction_53 (by decide) ?_
  refine zr_iconst dX7_instruction_56 ?_
  refine pr_iload_n dX7_instruction_57 rfl ?_
  refine zr_imul dX7_instruction_58 ?_
  refine zr_iadd dX7_instruction_59 ?_
  refine pr_iload_n dX7_instruction_60 rfl ?_
  refine zr_iadd dX7_instruction_61 ?_
  refine zr_iald dX7_instruction_62 (rH_1 hj) (by omega) (by decide) ?_
  exact pr_iret dX7_instruction_63 rfl rfl (by first | exact zret rfl rfl | (exfalso; omega))
set_option maxRecDepth 100000 in
set_option maxHeartbeats 4000000 in
theorem kX7_instruction_t1 (hj : oj 9 a) (hi : rI s) {i q : Int} (h1 : zR i) (h2 : zR q) (g1 : ¬ (0 ≤ i ∧ i < s 1)) : pz_Cd en 2 167 [.ref (a 0), .int (zI i), .int (zI q)] (rH h0 a s lv A F) 0 0 (pz_ret (some (.int (zI 0))) (rH h0 a s lv A (va_up F 7 1))) := by
  refine pz_in pzt_X7_instruction ?_
  have hs := rI_B hi
  obtain ⟨hR, hs0, hs1, hs2, hs3⟩ := id hs
  obtain ⟨-, hq1, hq2, hq3, hq4, hq5, hq6, hq7, hq8, hq9, hq10, hq11, hq12, hq13⟩ := id hi
  refine pr_aload_n dX7_instruction_0 rfl ?_
  refine pr_iload_n dX7_instruction_1 rfl ?_
  refine zr_iconst dX7_instruction_2 ?_
  refine pr_aload_n dX7_instruction_3 rfl ?_
  refine pr_getf dX7_instruction_4 pzf_7_9 (rH_0 hj) rfl ?_
  refine zr_iconst dX7_instruction_7 ?_
  refine zr_iald dX7_instruction_8 (rH_1 hj) (by omega) (by decide) ?_
  refine zr_iconst dX7_instruction_9 ?_
  refine zr_isub dX7_instruction_10 ?_
  refine zcs3i dX7_instruction_11 pzm_7_70 pzt_X7_in (kX7_in (by omega) (by omega) (by omega)) (by decide) (Nat.le_of_ble_eq_true rfl) ?_
  refine zr_if_ne (tgt := 21) dX7_instruction_14 (by decide) (bI_R _) (fun c14 => by exfalso; have bb := bI_ne c14; omega) (fun c14 => ?_)
  have b14 := bI_0 c14
  refine zr_iconst dX7_instruction_17 ?_
  refine pr_goto (tgt := 35) dX7_instruction_18 (by decide) ?_
  refine pr_putf dX7_instruction_35 pzf_7_42 (Or.inl rfl) (rH_0 hj) (Nat.le_of_ble_eq_true rfl) rfl rfl (rH_p7 hj) ?_
  refine pr_aload_n dX7_instruction_38 rfl ?_
  refine pr_getf dX7_instruction_39 pzf_7_42 (rH_0 hj) rfl ?_
  refine zr_if_le (tgt := 49) dX7_instruction_42 (by decide) (show zR 1 by decide) (fun c42 => absurd c42 (show ¬ ((1 : Int) ≤ 0) by decide)) (fun c42 => ?_)
  refine zr_iconst dX7_instruction_45 ?_
  refine pr_goto (tgt := 63) dX7_instruction_46 (by decide) ?_
  exact pr_iret dX7_instruction_63 rfl rfl (by first | exact zret rfl rfl | (exfalso; omega))
set_option maxRecDepth 100000 in
set_option maxHeartbeats 4000000 in
theorem kX7_instruction_t2 (hj : oj 9 a) (hi : rI s) {i q : Int} (h1 : zR i) (h2 : zR q) (g1 : 0 ≤ i ∧ i < s 1) (g2 : ¬ (0 ≤ q ∧ q ≤ 3)) : pz_Cd en 2 167 [.ref (a 0), .int (zI i), .int (zI q)] (rH h0 a s lv A F) 0 0 (pz_ret (some (.int (zI 0))) (rH h0 a s lv A (va_up F 7 2))) := by
  refine pz_in pzt_X7_instruction ?_
  have hs := rI_B hi
  obtain ⟨hR, hs0, hs1, hs2, hs3⟩ := id hs
  obtain ⟨-, hq1, hq2, hq3, hq4, hq5, hq6, hq7, hq8, hq9, hq10, hq11, hq12, hq13⟩ := id hi
  refine pr_aload_n dX7_instruction_0 rfl ?_
  refine pr_iload_n dX7_instruction_1 rfl ?_
  refine zr_iconst dX7_instruction_2 ?_
  refine pr_aload_n dX7_instruction_3 rfl ?_
  refine pr_getf dX7_instruction_4 pzf_7_9 (rH_0 hj) rfl ?_
  refine zr_iconst dX7_instruction_7 ?_
  refine zr_iald dX7_instruction_8 (rH_1 hj) (by omega) (by decide) ?_
  refine zr_iconst dX7_instruction_9 ?_
  refine zr_isub dX7_instruction_10 ?_
  refine zcs3i dX7_instruction_11 pzm_7_70 pzt_X7_in (kX7_in (by omega) (by omega) (by omega)) (by decide) (Nat.le_of_ble_eq_true rfl) ?_
  refine zr_if_ne (tgt := 21) dX7_instruction_14 (by decide) (bI_R _) (fun c14 => ?_) (fun c14 => by exfalso; have bb := bI_0 c14; omega)
  have b14 := bI_ne c14
  refine pr_iload_n dX7_instruction_21 rfl ?_
  refine zr_iconst dX7_instruction_22 ?_
  refine zr_iconst dX7_instruction_23 ?_
  refine zcs3i dX7_instruction_24 pzm_7_70 pzt_X7_in (kX7_in (by omega) (by omega) (by omega)) (by decide) (Nat.le_of_ble_eq_true rfl) ?_
  refine zr_if_ne (tgt := 34) dX7_instruction_27 (by decide) (bI_R _) (fun c27 => by exfalso; have bb := bI_ne c27; omega) (fun c27 => ?_)
  have b27 := bI_0 c27
  refine zr_iconst dX7_instruction_30 ?_
  refine pr_goto (tgt := 35) dX7_instruction_31 (by decide) ?_
  refine pr_putf dX7_instruction_35 pzf_7_42 (Or.inl rfl) (rH_0 hj) (Nat.le_of_ble_eq_true rfl) rfl rfl (rH_p7 hj) ?_
  refine pr_aload_n dX7_instruction_38 rfl ?_
  refine pr_getf dX7_instruction_39 pzf_7_42 (rH_0 hj) rfl ?_
  refine zr_if_le (tgt := 49) dX7_instruction_42 (by decide) (show zR 2 by decide) (fun c42 => absurd c42 (show ¬ ((2 : Int) ≤ 0) by decide)) (fun c42 => ?_)
  refine zr_iconst dX7_instruction_45 ?_
  refine pr_goto (tgt := 63) dX7_instruction_46 (by decide) ?_
  exact pr_iret dX7_instruction_63 rfl rfl (by first | exact zret rfl rfl | (exfalso; omega))
set_option maxRecDepth 100000 in
set_option maxHeartbeats 4000000 in
theorem kX7_reason_k (hj : oj 9 a) (hi : rI s) (g0 : zR (F 6)) (g1 : ¬ F 6 = 0) : pz_Cd en 1 174 [.ref (a 0)] (rH h0 a s lv A F) 0 0 (pz_ret (some (.int (zI (F 6)))) (rH h0 a s lv A (va_up F 7 0))) := by
  refine pz_in pzt_X7_reason ?_
  have hs := rI_B hi
  obtain ⟨hR, hs0, hs1, hs2, hs3⟩ := id hs
  obtain ⟨-, hq1, hq2, hq3, hq4, hq5, hq6, hq7, hq8, hq9, hq10, hq11, hq12, hq13⟩ := id hi
  refine pr_aload_n dX7_reason_0 rfl ?_
  refine pr_aload_n dX7_reason_1 rfl ?_
  refine pr_getf dX7_reason_2 pzf_7_60 (rH_0 hj) rfl ?_
  refine zr_if_ne (tgt := 12) dX7_reason_5 (by decide) (by first | exact hR _ | omega) (fun c5 => ?_) (fun c5 => by exfalso; omega)
  refine zr_iconst dX7_reason_12 ?_
  refine pr_putf dX7_reason_13 pzf_7_42 (Or.inl rfl) (rH_0 hj) (Nat.le_of_ble_eq_true rfl) rfl rfl (rH_p7 hj) ?_
  refine pr_aload_n dX7_reason_16 rfl ?_
  refine pr_getf dX7_reason_17 pzf_7_60 (rH_0 hj) rfl ?_
  exact pr_iret dX7_reason_20 rfl rfl (by first | exact zret rfl rfl | (exfalso; omega))
set_option maxRecDepth 100000 in
set_option maxHeartbeats 4000000 in
theorem kX7_reason_t (hj : oj 9 a) (hi : rI s) (g1 : F 6 = 0) : pz_Cd en 1 174 [.ref (a 0)] (rH h0 a s lv A F) 0 0 (pz_ret (some (.int (zI (F 6)))) (rH h0 a s lv A (va_up F 7 1))) := by
  refine pz_in pzt_X7_reason ?_
  have hs := rI_B hi
  obtain ⟨hR, hs0, hs1, hs2, hs3⟩ := id hs
  obtain ⟨-, hq1, hq2, hq3, hq4, hq5, hq6, hq7, hq8, hq9, hq10, hq11, hq12, hq13⟩ := id hi
  refine pr_aload_n dX7_reason_0 rfl ?_
  refine pr_aload_n dX7_reason_1 rfl ?_
  refine pr_getf dX7_reason_2 pzf_7_60 (rH_0 hj) rfl ?_
  refine zr_if_ne (tgt := 12) dX7_reason_5 (by decide) (by first | exact hR _ | omega) (fun c5 => by exfalso; omega) (fun c5 => ?_)
  refine zr_iconst dX7_reason_8 ?_
  refine pr_goto (tgt := 13) dX7_reason_9 (by decide) ?_
  refine pr_putf dX7_reason_13 pzf_7_42 (Or.inl rfl) (rH_0 hj) (Nat.le_of_ble_eq_true rfl) rfl rfl (rH_p7 hj) ?_
  refine pr_aload_n dX7_reason_16 rfl ?_
  refine pr_getf dX7_reason_17 pzf_7_60 (rH_0 hj) rfl ?_
  exact pr_iret dX7_reason_20 rfl rfl (by first | exact zret rfl rfl | (exfalso; omega))
set_option maxRecDepth 100000 in
set_option maxHeartbeats 4000000 in
theorem kX7_now_k (hj : oj 9 a) (hi : rI s) {ch : Int} (h2 : zR ch) (g2 : 0 ≤ ch) (g3 : ch ≤ 11) : pz_Cd en 3 190 [.ref (a 0), .int (zI ch)] (rH h0 a s lv A F) 0 0 (pz_ret (some (.int (zI (rnow s ch)))) (rH h0 a s lv A (va_up F 7 0))) := by
  refine pz_in pzt_X7_now ?_
  have hs := rI_B hi
  obtain ⟨hR, hs0, hs1, hs2, hs3⟩ := id hs
  obtain ⟨-, hq1, hq2, hq3, hq4, hq5, hq6, hq7, hq8, hq9, hq10, hq11, hq12, hq13⟩ := id hi
  refine pr_aload_n dX7_now_0 rfl ?_
  refine pr_iload_n dX7_now_1 rfl ?_
  refine zcs1i dX7_now_2 pzm_7_122 pzt_X7_isChannel (kX7_isChannel h2) (by decide) (Nat.le_of_ble_eq_true rfl) ?_
  refine zr_if_eq (tgt := 12) dX7_now_5 (by decide) (bI_R _) (fun c5 => by exfalso; have bb := bI_0 c5; omega) (fun c5 => ?_)
  have b5 := bI_ne c5
  refine zr_iconst dX7_now_8 ?_
  refine pr_goto (tgt := 13) dX7_now_9 (by decide) ?_
  refine pr_putf dX7_now_13 pzf_7_42 (Or.inl rfl) (rH_0 hj) (Nat.le_of_ble_eq_true rfl) rfl rfl (rH_p7 hj) ?_
  refine pr_aload_n dX7_now_16 rfl ?_
  refine pr_getf dX7_now_17 pzf_7_42 (rH_0 hj) rfl ?_
  refine zr_if_le (tgt := 27) dX7_now_20 (by decide) (show zR 0 by decide) (fun c20 => ?_) (fun c20 => absurd (show (0 : Int) ≤ 0 by decide) c20)
  refine pr_aload_n dX7_now_27 rfl ?_
  refine pr_iload_n dX7_now_28 rfl ?_
  refine zcv1i dX7_now_29 pzm_7_165 pzt_X7_nowOf (rH_0 hj) (kX7_nowOf hj hi g2 g3) (by decide) (Nat.le_of_ble_eq_true rfl) (by decide) ?_
  exact pr_iret dX7_now_32 rfl rfl (by first | exact zret rfl rfl | (exfalso; omega))
set_option maxRecDepth 100000 in
set_option maxHeartbeats 4000000 in
theorem kX7_now_t (hj : oj 9 a) (hi : rI s) {ch : Int} (h2 : zR ch) (g2 : ¬ (0 ≤ ch ∧ ch ≤ 11)) : pz_Cd en 3 190 [.ref (a 0), .int (zI ch)] (rH h0 a s lv A F) 0 0 (pz_ret (some (.int (zI 0))) (rH h0 a s lv A (va_up F 7 1))) := by
  refine pz_in pzt_X7_now ?_
  have hs := rI_B hi
  obtain ⟨hR, hs0, hs1, hs2, hs3⟩ := id hs
  obtain ⟨-, hq1, hq2, hq3, hq4, hq5, hq6, hq7, hq8, hq9, hq10, hq11, hq12, hq13⟩ := id hi
  refine pr_aload_n dX7_now_0 rfl ?_
  refine pr_iload_n dX7_now_1 rfl ?_
  refine zcs1i dX7_now_2 pzm_7_122 pzt_X7_isChannel (kX7_isChannel h2) (by decide) (Nat.le_of_ble_eq_true rfl) ?_
  refine zr_if_eq (tgt := 12) dX7_now_5 (by decide) (bI_R _) (fun c5 => ?_) (fun c5 => by exfalso; have bb := bI_ne c5; omega)
  have b5 := bI_0 c5
  refine zr_iconst dX7_now_12 ?_
  refine pr_putf dX7_now_13 pzf_7_42 (Or.inl rfl) (rH_0 hj) (Nat.le_of_ble_eq_true rfl) rfl rfl (rH_p7 hj) ?_
  refine pr_aload_n dX7_now_16 rfl ?_
  refine pr_getf dX7_now_17 pzf_7_42 (rH_0 hj) rfl ?_
  refine zr_if_le (tgt := 27) dX7_now_20 (by decide) (show zR 1 by decide) (fun c20 => absurd c20 (show ¬ ((1 : Int) ≤ 0) by decide)) (fun c20 => ?_)
  refine zr_iconst dX7_now_23 ?_
  refine pr_goto (tgt := 32) dX7_now_24 (by decide) ?_
  exact pr_iret dX7_now_32 rfl rfl (by first | exact zret rfl rfl | (exfalso; omega))
set_option maxRecDepth 100000 in
set_option maxHeartbeats 4000000 in
theorem kX7_target_k (hj : oj 9 a) (hi : rI s) {ch : Int} (h2 : zR ch) (g2 : 0 ≤ ch) (g3 : ch ≤ 11) : pz_Cd en 3 191 [.ref (a 0), .int (zI ch)] (rH h0 a s lv A F) 0 0 (pz_ret (some (.int (zI (s (402 + 5 * ch + 1))))) (rH h0 a s lv A (va_up F 7 0))) := by
  refine pz_in pzt_X7_target ?_
  have hs := rI_B hi
  obtain ⟨hR, hs0, hs1, hs2, hs3⟩ := id hs
  obtain ⟨-, hq1, hq2, hq3, hq4, hq5, hq6, hq7, hq8, hq9, hq10, hq11, hq12, hq13⟩ := id hi
  refine pr_aload_n dX7_target_0 rfl ?_
  refine pr_iload_n dX7_target_1 rfl ?_
  refine zcs1i dX7_target_2 pzm_7_122 pzt_X7_isChannel (kX7_isChannel h2) (by decide) (Nat.le_of_ble_eq_true rfl) ?_
  refine zr_if_eq (tgt := 12) dX7_target_5 (by decide) (bI_R _) (fun c5 => by exfalso; have bb := bI_0 c5; omega) (fun c5 => ?_)
  have b5 := bI_ne c5
  refine zr_iconst dX7_target_8 ?_
  refine pr_goto (tgt := 13) dX7_target_9 (by decide) ?_
  refine pr_putf dX7_target_13 pzf_7_42 (Or.inl rfl) (rH_0 hj) (Nat.le_of_ble_eq_true rfl) rfl rfl (rH_p7 hj) ?_
  refine pr_aload_n dX7_target_16 rfl ?_
  refine pr_getf dX7_target_17 pzf_7_42 (rH_0 hj) rfl ?_
  refine zr_if_le (tgt := 27) dX7_target_20 (by decide) (show zR 0 by decide) (fun c20 => ?_) (fun c20 => absurd (show (0 : Int) ≤ 0 by decide) c20)
  refine pr_aload_n dX7_target_27 rfl ?_
  refine pr_getf dX7_target_28 pzf_7_9 (rH_0 hj) rfl ?_
  refine pr_iload_n dX7_target_31 rfl ?_
  refine zcs1i dX7_target_32 pzm_7_162 pzt_X7_fade kX7_fade (by decide) (Nat.le_of_ble_eq_true rfl) ?_
  refine zr_iconst dX7_target_35 ?_
  refine zr_iadd dX7_target_36 ?_
  refine zr_iald dX7_target_37 (rH_1 hj) (by omega) (by decide) ?_
  exact pr_iret dX7_target_38 rfl rfl (by first | exact zret rfl rfl | (exfalso; omega))
set_option maxRecDepth 100000 in
set_option maxHeartbeats 4000000 in
theorem kX7_target_t (hj : oj 9 a) (hi : rI s) {ch : Int} (h2 : zR ch) (g2 : ¬ (0 ≤ ch ∧ ch ≤ 11)) : pz_Cd en 3 191 [.ref (a 0), .int (zI ch)] (rH h0 a s lv A F) 0 0 (pz_ret (some (.int (zI 0))) (rH h0 a s lv A (va_up F 7 1))) := by
  refine pz_in pzt_X7_target ?_
  have hs := rI_B hi
  obtain ⟨hR, hs0, hs1, hs2, hs3⟩ := id hs
  obtain ⟨-, hq1, hq2, hq3, hq4, hq5, hq6, hq7, hq8, hq9, hq10, hq11, hq12, hq13⟩ := id hi
  refine pr_aload_n dX7_target_0 rfl ?_
  refine pr_iload_n dX7_target_1 rfl ?_
  refine zcs1i dX7_target_2 pzm_7_122 pzt_X7_isChannel (kX7_isChannel h2) (by decide) (Nat.le_of_ble_eq_true rfl) ?_
  refine zr_if_eq (tgt := 12) dX7_target_5 (by decide) (bI_R _) (fun c5 => ?_) (fun c5 => by exfalso; have bb := bI_ne c5; omega)
  have b5 := bI_0 c5
  refine zr_iconst dX7_target_12 ?_
  refine pr_putf dX7_target_13 pzf_7_42 (Or.inl rfl) (rH_0 hj) (Nat.le_of_ble_eq_true rfl) rfl rfl (rH_p7 hj) ?_
  refine pr_aload_n dX7_target_16 rfl ?_
  refine pr_getf dX7_target_17 pzf_7_42 (rH_0 hj) rfl ?_
  refine zr_if_le (tgt := 27) dX7_target_20 (by decide) (show zR 1 by decide) (fun c20 => absurd c20 (show ¬ ((1 : Int) ≤ 0) by decide)) (fun c20 => ?_)
  refine zr_iconst dX7_target_23 ?_
  refine pr_goto (tgt := 38) dX7_target_24 (by decide) ?_
  exact pr_iret dX7_target_38 rfl rfl (by first | exact zret rfl rfl | (exfalso; omega))
set_option maxRecDepth 100000 in
set_option maxHeartbeats 4000000 in
theorem kX7_errorPosition_k (hj : oj 9 a) (hi : rI s) (g0 : zR (F 13)) (g1 : 0 ≤ F 13) : pz_Cd en 1 210 [.ref (a 0)] (rH h0 a s lv A F) 0 0 (pz_ret (some (.int (zI (F 13)))) (rH h0 a s lv A (va_up F 7 0))) := by
  refine pz_in pzt_X7_errorPosition ?_
  have hs := rI_B hi
  obtain ⟨hR, hs0, hs1, hs2, hs3⟩ := id hs
  obtain ⟨-, hq1, hq2, hq3, hq4, hq5, hq6, hq7, hq8, hq9, hq10, hq11, hq12, hq13⟩ := id hi
  refine pr_aload_n dX7_errorPosition_0 rfl ?_
  refine pr_aload_n dX7_errorPosition_1 rfl ?_
  refine pr_getf dX7_errorPosition_2 pzf_7_29 (rH_0 hj) rfl ?_
  refine zr_if_ge (tgt := 12) dX7_errorPosition_5 (by decide) (by first | exact hR _ | omega) (fun c5 => ?_) (fun c5 => by exfalso; omega)
  refine zr_iconst dX7_errorPosition_12 ?_
  refine pr_putf dX7_errorPosition_13 pzf_7_42 (Or.inl rfl) (rH_0 hj) (Nat.le_of_ble_eq_true rfl) rfl rfl (rH_p7 hj) ?_
  refine pr_aload_n dX7_errorPosition_16 rfl ?_
  refine pr_getf dX7_errorPosition_17 pzf_7_42 (rH_0 hj) rfl ?_
  refine zr_if_le (tgt := 27) dX7_errorPosition_20 (by decide) (show zR 0 by decide) (fun c20 => ?_) (fun c20 => absurd (show (0 : Int) ≤ 0 by decide) c20)
  refine pr_aload_n dX7_errorPosition_27 rfl ?_
  refine pr_getf dX7_errorPosition_28 pzf_7_29 (rH_0 hj) rfl ?_
  exact pr_iret dX7_errorPosition_31 rfl rfl (by first | exact zret rfl rfl | (exfalso; omega))
set_option maxRecDepth 100000 in
set_option maxHeartbeats 4000000 in
theorem kX7_errorPosition_t (hj : oj 9 a) (hi : rI s) (g0 : zR (F 13)) (g1 : F 13 < 0) : pz_Cd en 1 210 [.ref (a 0)] (rH h0 a s lv A F) 0 0 (pz_ret (some (.int (zI 0))) (rH h0 a s lv A (va_up F 7 1))) := by
  refine pz_in pzt_X7_errorPosition ?_
  have hs := rI_B hi
  obtain ⟨hR, hs0, hs1, hs2, hs3⟩ := id hs
  obtain ⟨-, hq1, hq2, hq3, hq4, hq5, hq6, hq7, hq8, hq9, hq10, hq11, hq12, hq13⟩ := id hi
  refine pr_aload_n dX7_errorPosition_0 rfl ?_
  refine pr_aload_n dX7_errorPosition_1 rfl ?_
  refine pr_getf dX7_errorPosition_2 pzf_7_29 (rH_0 hj) rfl ?_
  refine zr_if_ge (tgt := 12) dX7_errorPosition_5 (by decide) (by first | exact hR _ | omega) (fun c5 => by exfalso; omega) (fun c5 => ?_)
  refine zr_iconst dX7_errorPosition_8 ?_
  refine pr_goto (tgt := 13) dX7_errorPosition_9 (by decide) ?_
  refine pr_putf dX7_errorPosition_13 pzf_7_42 (Or.inl rfl) (rH_0 hj) (Nat.le_of_ble_eq_true rfl) rfl rfl (rH_p7 hj) ?_
  refine pr_aload_n dX7_errorPosition_16 rfl ?_
  refine pr_getf dX7_errorPosition_17 pzf_7_42 (rH_0 hj) rfl ?_
  refine zr_if_le (tgt := 27) dX7_errorPosition_20 (by decide) (show zR 1 by decide) (fun c20 => absurd c20 (show ¬ ((1 : Int) ≤ 0) by decide)) (fun c20 => ?_)
  refine zr_iconst dX7_errorPosition_23 ?_
  refine pr_goto (tgt := 31) dX7_errorPosition_24 (by decide) ?_
  exact pr_iret dX7_errorPosition_31 rfl rfl (by first | exact zret rfl rfl | (exfalso; omega))
set_option maxRecDepth 100000 in
set_option maxHeartbeats 4000000 in
theorem kX7_undo_k (hj : oj 9 a) (hi : rI s) (g0 : F 5 ≤ 6) (g1 : 0 < F 5) : pz_Cd en 1 211 [.ref (a 0)] (rH h0 a s lv A F) 0 0 (pz_ret (some (.int (zI (F 5 - 1)))) (rH h0 a (zcpy (A 4) s (462 * (F 5 - 1)) 0 462) lv A (va_up (va_up F 7 0) 5 (F 5 - 1)))) := by
  refine pz_in pzt_X7_undo ?_
  have hs := rI_B hi
  obtain ⟨hR, hs0, hs1, hs2, hs3⟩ := id hs
  obtain ⟨-, hq1, hq2, hq3, hq4, hq5, hq6, hq7, hq8, hq9, hq10, hq11, hq12, hq13⟩ := id hi
  refine pr_aload_n dX7_undo_0 rfl ?_
  refine pr_aload_n dX7_undo_1 rfl ?_
  refine pr_getf dX7_undo_2 pzf_7_45 (rH_0 hj) rfl ?_
  refine zr_if_ne (tgt := 12) dX7_undo_5 (by decide) (by first | exact hR _ | omega) (fun c5 => ?_) (fun c5 => by exfalso; omega)
  refine zr_iconst dX7_undo_12 ?_
  refine pr_putf dX7_undo_13 pzf_7_42 (Or.inl rfl) (rH_0 hj) (Nat.le_of_ble_eq_true rfl) rfl rfl (rH_p7 hj) ?_
  refine pr_aload_n dX7_undo_16 rfl ?_
  refine pr_getf dX7_undo_17 pzf_7_42 (rH_0 hj) rfl ?_
  refine zr_if_le (tgt := 25) dX7_undo_20 (by decide) (show zR 0 by decide) (fun c20 => ?_) (fun c20 => absurd (show (0 : Int) ≤ 0 by decide) c20)
  refine pr_aload_n dX7_undo_25 rfl ?_
  refine pr_dup dX7_undo_26 rfl ?_
  refine pr_getf dX7_undo_27 pzf_7_45 (rH_0 hj) rfl ?_
  refine zr_iconst dX7_undo_30 ?_
  refine zr_isub dX7_undo_31 ?_
  refine pr_putf dX7_undo_32 pzf_7_45 (Or.inl rfl) (rH_0 hj) (Nat.le_of_ble_eq_true rfl) rfl rfl (rH_p5 hj) ?_
  refine pr_aload_n dX7_undo_35 rfl ?_
  refine pr_getf dX7_undo_36 pzf_7_19 (rH_0 hj) rfl ?_
  refine zr_sipush dX7_undo_39 (by decide) ?_
  refine pr_aload_n dX7_undo_42 rfl ?_
  refine pr_getf dX7_undo_43 pzf_7_45 (rH_0 hj) rfl ?_
  rw [vu_self]
  rw [show va_up F 7 0 5 = F 5 from rfl]
  refine zr_imul dX7_undo_46 ?_
  refine pr_aload_n dX7_undo_47 rfl ?_
  refine pr_getf dX7_undo_48 pzf_7_9 (rH_0 hj) rfl ?_
  refine zr_iconst dX7_undo_51 ?_
  refine zr_sipush dX7_undo_52 (by decide) ?_
  refine zr_copy dX7_undo_55 pzx_7_48 (by decide) (rH_4 hj) (rH_1 hj) (by omega) (by omega) (by omega) (by decide) (Nat.le_of_ble_eq_true rfl) (rH_u1 hj) ?_
  refine pr_aload_n dX7_undo_58 rfl ?_
  refine pr_getf dX7_undo_59 pzf_7_45 (rH_0 hj) rfl ?_
  exact pr_iret dX7_undo_62 rfl rfl (by first | exact zret rfl rfl | (exfalso; omega))
set_option maxRecDepth 100000 in
set_option maxHeartbeats 4000000 in
theorem kX7_undo_t (hj : oj 9 a) (hi : rI s) (g1 : F 5 = 0) : pz_Cd en 1 211 [.ref (a 0)] (rH h0 a s lv A F) 0 0 (pz_ret (some (.int (zI 0))) (rH h0 a s lv A (va_up F 7 1))) := by
  refine pz_in pzt_X7_undo ?_
  have hs := rI_B hi
  obtain ⟨hR, hs0, hs1, hs2, hs3⟩ := id hs
  obtain ⟨-, hq1, hq2, hq3, hq4, hq5, hq6, hq7, hq8, hq9, hq10, hq11, hq12, hq13⟩ := id hi
  refine pr_aload_n dX7_undo_0 rfl ?_
  refine pr_aload_n dX7_undo_1 rfl ?_
  refine pr_getf dX7_undo_2 pzf_7_45 (rH_0 hj) rfl ?_
  refine zr_if_ne (tgt := 12) dX7_undo_5 (by decide) (by first | exact hR _ | omega) (fun c5 => by exfalso; omega) (fun c5 => ?_)
  refine zr_iconst dX7_undo_8 ?_
  refine pr_goto (tgt := 13) dX7_undo_9 (by decide) ?_
  refine pr_putf dX7_undo_13 pzf_7_42 (Or.inl rfl) (rH_0 hj) (Nat.le_of_ble_eq_true rfl) rfl rfl (rH_p7 hj) ?_
  refine pr_aload_n dX7_undo_16 rfl ?_
  refine pr_getf dX7_undo_17 pzf_7_42 (rH_0 hj) rfl ?_
  refine zr_if_le (tgt := 25) dX7_undo_20 (by decide) (show zR 1 by decide) (fun c20 => absurd c20 (show ¬ ((1 : Int) ≤ 0) by decide)) (fun c20 => ?_)
  refine zr_iconst dX7_undo_23 ?_
  exact pr_iret dX7_undo_24 rfl rfl (by first | exact zret rfl rfl | (exfalso; omega))
set_option maxRecDepth 100000 in
set_option maxHeartbeats 4000000 in
theorem kX7_save (hj : oj 9 a) (hi : rI s)  : pz_Cd en 1 212 [.ref (a 0)] (rH h0 a s lv A F) 0 0 (pz_ret (some (.int (zI (s 0)))) (rH h0 a s lv (va_up A 3 (zcpy s (A 3) 0 0 462)) (va_up (va_up F 7 0) 3 1))) := by
  refine pz_in pzt_X7_save ?_
  have hs := rI_B hi
  obtain ⟨hR, hs0, hs1, hs2, hs3⟩ := id hs
  obtain ⟨-, hq1, hq2, hq3, hq4, hq5, hq6, hq7, hq8, hq9, hq10, hq11, hq12, hq13⟩ := id hi
  refine pr_aload_n dX7_save_0 rfl ?_
  refine zr_iconst dX7_save_1 ?_
  refine pr_putf dX7_save_2 pzf_7_42 (Or.inl rfl) (rH_0 hj) (Nat.le_of_ble_eq_true rfl) rfl rfl (rH_p7 hj) ?_
  refine pr_aload_n dX7_save_5 rfl ?_
  refine pr_getf dX7_save_6 pzf_7_9 (rH_0 hj) rfl ?_
  refine zr_iconst dX7_save_9 ?_
  refine pr_aload_n dX7_save_10 rfl ?_
  refine pr_getf dX7_save_11 pzf_7_16 (rH_0 hj) rfl ?_
  refine zr_iconst dX7_save_14 ?_
  refine zr_sipush dX7_save_15 (by decide) ?_
  refine zr_copy dX7_save_18 pzx_7_48 (by decide) (rH_1 hj) (rH_3 hj) (by omega) (by omega) (by omega) (by decide) (Nat.le_of_ble_eq_true rfl) (rH_u3 hj) ?_
  refine pr_aload_n dX7_save_21 rfl ?_
  refine zr_iconst dX7_save_22 ?_
  refine pr_putf dX7_save_23 pzf_7_251 (Or.inl rfl) (rH_0 hj) (Nat.le_of_ble_eq_true rfl) rfl rfl (rH_p3 hj) ?_
  refine pr_aload_n dX7_save_26 rfl ?_
  refine pr_getf dX7_save_27 pzf_7_9 (rH_0 hj) rfl ?_
  refine zr_iconst dX7_save_30 ?_
  refine zr_iald dX7_save_31 (rH_1 hj) (by omega) (by decide) ?_
  exact pr_iret dX7_save_32 rfl rfl (by first | exact zret rfl rfl | (exfalso; omega))
set_option maxRecDepth 100000 in
set_option maxHeartbeats 4000000 in
theorem kX7_restore_k (hj : oj 9 a) (hi : rI s) (g1 : F 3 = 1) (g2 : zR (A 3 0)) : pz_Cd en 1 213 [.ref (a 0)] (rH h0 a s lv A F) 0 0 (pz_ret (some (.int (zI (A 3 0)))) (rH h0 a (zcpy (A 3) s 0 0 462) lv A (va_up (va_up F 7 0) 5 0))) := by
  refine pz_in pzt_X7_restore ?_
  have hs := rI_B hi
  obtain ⟨hR, hs0, hs1, hs2, hs3⟩ := id hs
  obtain ⟨-, hq1, hq2, hq3, hq4, hq5, hq6, hq7, hq8, hq9, hq10, hq11, hq12, hq13⟩ := id hi
  refine pr_aload_n dX7_restore_0 rfl ?_
  refine pr_aload_n dX7_restore_1 rfl ?_
  refine pr_getf dX7_restore_2 pzf_7_251 (rH_0 hj) rfl ?_
  refine zr_if_eq (tgt := 12) dX7_restore_5 (by decide) (by first | exact hR _ | omega) (fun c5 => by exfalso; omega) (fun c5 => ?_)
  refine zr_iconst dX7_restore_8 ?_
  refine pr_goto (tgt := 13) dX7_restore_9 (by decide) ?_
  refine pr_putf dX7_restore_13 pzf_7_42 (Or.inl rfl) (rH_0 hj) (Nat.le_of_ble_eq_true rfl) rfl rfl (rH_p7 hj) ?_
  refine pr_aload_n dX7_restore_16 rfl ?_
  refine pr_getf dX7_restore_17 pzf_7_42 (rH_0 hj) rfl ?_
  refine zr_if_le (tgt := 25) dX7_restore_20 (by decide) (show zR 0 by decide) (fun c20 => ?_) (fun c20 => absurd (show (0 : Int) ≤ 0 by decide) c20)
  refine pr_aload_n dX7_restore_25 rfl ?_
  refine pr_getf dX7_restore_26 pzf_7_16 (rH_0 hj) rfl ?_
  refine zr_iconst dX7_restore_29 ?_
  refine pr_aload_n dX7_restore_30 rfl ?_
  refine pr_getf dX7_restore_31 pzf_7_9 (rH_0 hj) rfl ?_
  refine zr_iconst dX7_restore_34 ?_
  refine zr_sipush dX7_restore_35 (by decide) ?_
  refine zr_copy dX7_restore_38 pzx_7_48 (by decide) (rH_3 hj) (rH_1 hj) (by omega) (by omega) (by omega) (by decide) (Nat.le_of_ble_eq_true rfl) (rH_u1 hj) ?_
  refine pr_aload_n dX7_restore_41 rfl ?_
  refine zr_iconst dX7_restore_42 ?_
  refine pr_putf dX7_restore_43 pzf_7_45 (Or.inl rfl) (rH_0 hj) (Nat.le_of_ble_eq_true rfl) rfl rfl (rH_p5 hj) ?_
  refine pr_aload_n dX7_restore_46 rfl ?_
  refine pr_getf dX7_restore_47 pzf_7_9 (rH_0 hj) rfl ?_
  refine zr_iconst dX7_restore_50 ?_
  refine zr_iald dX7_restore_51 (rH_1 hj) (by omega) (by decide) ?_
  exact pr_iret dX7_restore_52 rfl rfl (by first | exact zret rfl rfl | (exfalso; omega))
set_option maxRecDepth 100000 in
set_option maxHeartbeats 4000000 in
theorem kX7_restore_t (hj : oj 9 a) (hi : rI s) (g1 : F 3 = 0) : pz_Cd en 1 213 [.ref (a 0)] (rH h0 a s lv A F) 0 0 (pz_ret (some (.int (zI 0))) (rH h0 a s lv A (va_up F 7 1))) := by
  refine pz_in pzt_X7_restore ?_
  have hs := rI_B hi
  obtain ⟨hR, hs0, hs1, hs2, hs3⟩ := id hs
  obtain ⟨-, hq1, hq2, hq3, hq4, hq5, hq6, hq7, hq8, hq9, hq10, hq11, hq12, hq13⟩ := id hi
  refine pr_aload_n dX7_restore_0 rfl ?_
  refine pr_aload_n dX7_restore_1 rfl ?_
  refine pr_getf dX7_restore_2 pzf_7_251 (rH_0 hj) rfl ?_
  refine zr_if_eq (tgt := 12) dX7_restore_5 (by decide) (by first | exact hR _ | omega) (fun c5 => ?_) (fun c5 => by exfalso; omega)
  refine zr_iconst dX7_restore_12 ?_
  refine pr_putf dX7_restore_13 pzf_7_42 (Or.inl rfl) (rH_0 hj) (Nat.le_of_ble_eq_true rfl) rfl rfl (rH_p7 hj) ?_
  refine pr_aload_n dX7_restore_16 rfl ?_
  refine pr_getf dX7_restore_17 pzf_7_42 (rH_0 hj) rfl ?_
  refine zr_if_le (tgt := 25) dX7_restore_20 (by decide) (show zR 1 by decide) (fun c20 => absurd c20 (show ¬ ((1 : Int) ≤ 0) by decide)) (fun c20 => ?_)
  refine zr_iconst dX7_restore_23 ?_
  exact pr_iret dX7_restore_24 rfl rfl (by first | exact zret rfl rfl | (exfalso; omega))
set_option maxRecDepth 100000 in
set_option maxHeartbeats 4000000 in
theorem kX7_append_k (hj : oj 9 a) (hi : rI s) {c : Int} (h1 : 0 ≤ c) (h2 : c < 65536) (g0 : 0 ≤ F 10) (g5 : F 10 ≤ 60) (g1 : 32 ≤ c) (g2 : c ≤ 126) (g3 : ¬ F 10 = 60) : pz_Cd en 2 200 [.ref (a 0), .int (zI c)] (rH h0 a s lv A F) 0 0 (pz_ret (some (.int (zI (F 10 + 1)))) (rH h0 a s lv (va_up A 6 (zu (A 6) (F 10) c)) (va_up (va_up F 7 0) 10 (F 10 + 1)))) := by
  refine pz_in pzt_X7_append ?_
  have hs := rI_B hi
  obtain ⟨hR, hs0, hs1, hs2, hs3⟩ := id hs
  obtain ⟨-, hq1, hq2, hq3, hq4, hq5, hq6, hq7, hq8, hq9, hq10, hq11, hq12, hq13⟩ := id hi
  refine pr_aload_n dX7_append_0 rfl ?_
  refine pr_iload_n dX7_append_1 rfl ?_
  refine zr_bipush dX7_append_2 (by decide) ?_
  refine zr_bipush dX7_append_4 (by decide) ?_
  refine zcs3i dX7_append_6 pzm_7_70 pzt_X7_in (kX7_in (by omega) (by omega) (by omega)) (by decide) (Nat.le_of_ble_eq_true rfl) ?_
  refine zr_if_ne (tgt := 16) dX7_append_9 (by decide) (bI_R _) (fun c9 => ?_) (fun c9 => by exfalso; have bb := bI_0 c9; omega)
  have b9 := bI_ne c9
  refine pr_aload_n dX7_append_16 rfl ?_
  refine pr_getf dX7_append_17 pzf_7_207 (rH_0 hj) rfl ?_
  refine zr_bipush dX7_append_20 (by decide) ?_
  refine zr_icmp_ne (tgt := 29) dX7_append_22 (by decide) (by first | exact hR _ | omega) (by first | exact hR _ | omega) (fun c22 => ?_) (fun c22 => by exfalso; omega)
  refine zr_iconst dX7_append_29 ?_
  refine pr_putf dX7_append_30 pzf_7_42 (Or.inl rfl) (rH_0 hj) (Nat.le_of_ble_eq_true rfl) rfl rfl (rH_p7 hj) ?_
  refine pr_aload_n dX7_append_33 rfl ?_
  refine pr_getf dX7_append_34 pzf_7_42 (rH_0 hj) rfl ?_
  refine zr_if_le (tgt := 42) dX7_append_37 (by decide) (show zR 0 by decide) (fun c37 => ?_) (fun c37 => absurd (show (0 : Int) ≤ 0 by decide) c37)
  refine pr_aload_n dX7_append_42 rfl ?_
  refine pr_getf dX7_append_43 pzf_7_25 (rH_0 hj) rfl ?_
  refine pr_aload_n dX7_append_46 rfl ?_
  refine pr_getf dX7_append_47 pzf_7_207 (rH_0 hj) rfl ?_
  refine pr_iload_n dX7_append_50 rfl ?_
  rw [show va_up F 7 0 10 = F 10 from rfl]
  refine zr_cast dX7_append_51 (rH_6 hj) (by omega) (by decide) (nar_char ⟨h1, h2⟩) (rH_u6 hj) ?_
  refine pr_aload_n dX7_append_52 rfl ?_
  refine pr_dup dX7_append_53 rfl ?_
  refine pr_getf dX7_append_54 pzf_7_207 (rH_0 hj) rfl ?_
  refine zr_iconst dX7_append_57 ?_
  refine zr_iadd dX7_append_58 ?_
  refine pr_putf dX7_append_59 pzf_7_207 (Or.inl rfl) (rH_0 hj) (Nat.le_of_ble_eq_true rfl) rfl rfl (rH_p10 hj) ?_
  refine pr_aload_n dX7_append_62 rfl ?_
  refine pr_getf dX7_append_63 pzf_7_207 (rH_0 hj) rfl ?_
  exact pr_iret dX7_append_66 rfl rfl (by first | exact zret rfl rfl | (exfalso; omega))
set_option maxRecDepth 100000 in
set_option maxHeartbeats 4000000 in
theorem kX7_append_t1 (hj : oj 9 a) (hi : rI s) {c : Int} (h1 : 0 ≤ c) (h2 : c < 65536) (g0 : 0 ≤ F 10) (g5 : F 10 ≤ 60) (g1 : ¬ (32 ≤ c ∧ c ≤ 126)) : pz_Cd en 2 200 [.ref (a 0), .int (zI c)] (rH h0 a s lv A F) 0 0 (pz_ret (some (.int (zI 0))) (rH h0 a s lv A (va_up F 7 1))) := by
  refine pz_in pzt_X7_append ?_
  have hs := rI_B hi
  obtain ⟨hR, hs0, hs1, hs2, hs3⟩ := id hs
  obtain ⟨-, hq1, hq2, hq3, hq4, hq5, hq6, hq7, hq8, hq9, hq10, hq11, hq12, hq13⟩ := id hi
  refine pr_aload_n dX7_append_0 rfl ?_
  refine pr_iload_n dX7_append_1 rfl ?_
  refine zr_bipush dX7_append_2 (by decide) ?_
  refine zr_bipush dX7_append_4 (by decide) ?_
  refine zcs3i dX7_append_6 pzm_7_70 pzt_X7_in (kX7_in (by omega) (by omega) (by omega)) (by decide) (Nat.le_of_ble_eq_true rfl) ?_
  refine zr_if_ne (tgt := 16) dX7_append_9 (by decide) (bI_R _) (fun c9 => by exfalso; have bb := bI_ne c9; omega) (fun c9 => ?_)
  have b9 := bI_0 c9
  refine zr_iconst dX7_append_12 ?_
  refine pr_goto (tgt := 30) dX7_append_13 (by decide) ?_
  refine pr_putf dX7_append_30 pzf_7_42 (Or.inl rfl) (rH_0 hj) (Nat.le_of_ble_eq_true rfl) rfl rfl (rH_p7 hj) ?_
  refine pr_aload_n dX7_append_33 rfl ?_
  refine pr_getf dX7_append_34 pzf_7_42 (rH_0 hj) rfl ?_
  refine zr_if_le (tgt := 42) dX7_append_37 (by decide) (show zR 1 by decide) (fun c37 => absurd c37 (show ¬ ((1 : Int) ≤ 0) by decide)) (fun c37 => ?_)
  refine zr_iconst dX7_append_40 ?_
  exact pr_iret dX7_append_41 rfl rfl (by first | exact zret rfl rfl | (exfalso; omega))
set_option maxRecDepth 100000 in
set_option maxHeartbeats 4000000 in
theorem kX7_append_t2 (hj : oj 9 a) (hi : rI s) {c : Int} (h1 : 0 ≤ c) (h2 : c < 65536) (g0 : 0 ≤ F 10) (g5 : F 10 ≤ 60) (g1 : 32 ≤ c) (g2 : c ≤ 126) (g3 : F 10 = 60) : pz_Cd en 2 200 [.ref (a 0), .int (zI c)] (rH h0 a s lv A F) 0 0 (pz_ret (some (.int (zI 0))) (rH h0 a s lv A (va_up F 7 2))) := by
  refine pz_in pzt_X7_append ?_
  have hs := rI_B hi
  obtain ⟨hR, hs0, hs1, hs2, hs3⟩ := id hs
  obtain ⟨-, hq1, hq2, hq3, hq4, hq5, hq6, hq7, hq8, hq9, hq10, hq11, hq12, hq13⟩ := id hi
  refine pr_aload_n dX7_append_0 rfl ?_
  refine pr_iload_n dX7_append_1 rfl ?_
  refine zr_bipush dX7_append_2 (by decide) ?_
  refine zr_bipush dX7_append_4 (by decide) ?_
  refine zcs3i dX7_append_6 pzm_7_70 pzt_X7_in (kX7_in (by omega) (by omega) (by omega)) (by decide) (Nat.le_of_ble_eq_true rfl) ?_
  refine zr_if_ne (tgt := 16) dX7_append_9 (by decide) (bI_R _) (fun c9 => ?_) (fun c9 => by exfalso; have bb := bI_0 c9; omega)
  have b9 := bI_ne c9
  refine pr_aload_n dX7_append_16 rfl ?_
  refine pr_getf dX7_append_17 pzf_7_207 (rH_0 hj) rfl ?_
  refine zr_bipush dX7_append_20 (by decide) ?_
  refine zr_icmp_ne (tgt := 29) dX7_append_22 (by decide) (by first | exact hR _ | omega) (by first | exact hR _ | omega) (fun c22 => by exfalso; omega) (fun c22 => ?_)
  refine zr_iconst dX7_append_25 ?_
  refine pr_goto (tgt := 30) dX7_append_26 (by decide) ?_
  refine pr_putf dX7_append_30 pzf_7_42 (Or.inl rfl) (rH_0 hj) (Nat.le_of_ble_eq_true rfl) rfl rfl (rH_p7 hj) ?_
  refine pr_aload_n dX7_append_33 rfl ?_
  refine pr_getf dX7_append_34 pzf_7_42 (rH_0 hj) rfl ?_
  refine zr_if_le (tgt := 42) dX7_append_37 (by decide) (show zR 2 by decide) (fun c37 => absurd c37 (show ¬ ((2 : Int) ≤ 0) by decide)) (fun c37 => ?_)
  refine zr_iconst dX7_append_40 ?_
  exact pr_iret dX7_append_41 rfl rfl (by first | exact zret rfl rfl | (exfalso; omega))
end ref
