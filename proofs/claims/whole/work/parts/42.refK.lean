/-! the reference: its face, what changes -/
section ref
variable {en : pz_Env} {h0 : pz_H} {a : Nat → Nat} {s lv : Int → Int} {A : Nat → Int → Int} {F : Nat → Int}
set_option maxRecDepth 100000 in
set_option maxHeartbeats 4000000 in
theorem kX7_account_0 (hj : oj 9 a) (hi : rI s)  : pz_Cd en 6 198 [.ref (a 0), .int (zI 0)] (rH h0 a s lv A F) 0 0 (pz_ret (some (.int (zI (s 0)))) (rH h0 a s lv A (va_up F 7 0))) := by
  refine pz_in pzt_X7_account ?_
  have hs := rI_B hi
  obtain ⟨hR, hs0, hs1, hs2, hs3⟩ := id hs
  obtain ⟨-, hq1, hq2, hq3, hq4, hq5, hq6, hq7, hq8, hq9, hq10, hq11, hq12, hq13⟩ := id hi
  refine pr_aload_n dX7_account_0 rfl ?_
  refine pr_iload_n dX7_account_1 rfl ?_
  refine zr_iconst dX7_account_2 ?_
  refine zr_bipush dX7_account_3 (by decide) ?_
  refine zcs3i dX7_account_5 pzm_7_70 pzt_X7_in (kX7_in (by decide) (by decide) (by decide)) (by decide) (Nat.le_of_ble_eq_true rfl) ?_
  refine zr_if_eq (tgt := 15) dX7_account_8 (by decide) (bI_R _) (fun c8 => by exfalso; have bb := bI_0 c8; omega) (fun c8 => ?_)
  refine zr_iconst dX7_account_11 ?_
  refine pr_goto (tgt := 16) dX7_account_12 (by decide) ?_
  refine pr_putf dX7_account_16 pzf_7_42 (Or.inl rfl) (rH_0 hj) (Nat.le_of_ble_eq_true rfl) rfl rfl (rH_p7 hj) ?_
  refine pr_aload_n dX7_account_19 rfl ?_
  refine pr_getf dX7_account_20 pzf_7_42 (rH_0 hj) rfl ?_
  refine zr_if_le (tgt := 28) dX7_account_23 (by decide) (show zR 0 by decide) (fun c23 => ?_) (fun c23 => absurd (show (0 : Int) ≤ 0 by decide) c23)
  refine pr_iload_n dX7_account_28 rfl ?_
  refine pr_tsin (off := 59) (tgt := 88) dX7_account_29 (by decide) (by decide) (by decide) (by decide) ?_
  refine pr_aload_n dX7_account_88 rfl ?_
  refine pr_getf dX7_account_89 pzf_7_9 (rH_0 hj) rfl ?_
  refine zr_iconst dX7_account_92 ?_
  refine zr_iald dX7_account_93 (rH_1 hj) (by omega) (by decide) ?_
  exact pr_iret dX7_account_94 rfl rfl (by first | exact zret rfl rfl | (exfalso; omega))
set_option maxRecDepth 100000 in
set_option maxHeartbeats 4000000 in
theorem kX7_account_1 (hj : oj 9 a) (hi : rI s)  : pz_Cd en 6 198 [.ref (a 0), .int (zI 1)] (rH h0 a s lv A F) 0 0 (pz_ret (some (.int (zI (s 1)))) (rH h0 a s lv A (va_up F 7 0))) := by
  refine pz_in pzt_X7_account ?_
  have hs := rI_B hi
  obtain ⟨hR, hs0, hs1, hs2, hs3⟩ := id hs
  obtain ⟨-, hq1, hq2, hq3, hq4, hq5, hq6, hq7, hq8, hq9, hq10, hq11, hq12, hq13⟩ := id hi
  refine pr_aload_n dX7_account_0 rfl ?_
  refine pr_iload_n dX7_account_1 rfl ?_
  refine zr_iconst dX7_account_2 ?_
  refine zr_bipush dX7_account_3 (by decide) ?_
  refine zcs3i dX7_account_5 pzm_7_70 pzt_X7_in (kX7_in (by decide) (by decide) (by decide)) (by decide) (Nat.le_of_ble_eq_true rfl) ?_
  refine zr_if_eq (tgt := 15) dX7_account_8 (by decide) (bI_R _) (fun c8 => by exfalso; have bb := bI_0 c8; omega) (fun c8 => ?_)
  refine zr_iconst dX7_account_11 ?_
  refine pr_goto (tgt := 16) dX7_account_12 (by decide) ?_
  refine pr_putf dX7_account_16 pzf_7_42 (Or.inl rfl) (rH_0 hj) (Nat.le_of_ble_eq_true rfl) rfl rfl (rH_p7 hj) ?_
  refine pr_aload_n dX7_account_19 rfl ?_
  refine pr_getf dX7_account_20 pzf_7_42 (rH_0 hj) rfl ?_
  refine zr_if_le (tgt := 28) dX7_account_23 (by decide) (show zR 0 by decide) (fun c23 => ?_) (fun c23 => absurd (show (0 : Int) ≤ 0 by decide) c23)
  refine pr_iload_n dX7_account_28 rfl ?_
  refine pr_tsin (off := 66) (tgt := 95) dX7_account_29 (by decide) (by decide) (by decide) (by decide) ?_
  refine pr_aload_n dX7_account_95 rfl ?_
  refine pr_getf dX7_account_96 pzf_7_9 (rH_0 hj) rfl ?_
  refine zr_iconst dX7_account_99 ?_
  refine zr_iald dX7_account_100 (rH_1 hj) (by omega) (by decide) ?_
  exact pr_iret dX7_account_101 rfl rfl (by first | exact zret rfl rfl | (exfalso; omega))
set_option maxRecDepth 100000 in
set_option maxHeartbeats 4000000 in
theorem kX7_account_5 (hj : oj 9 a) (hi : rI s)  : pz_Cd en 6 198 [.ref (a 0), .int (zI 5)] (rH h0 a s lv A F) 0 0 (pz_ret (some (.int (zI (s 4)))) (rH h0 a s lv A (va_up F 7 0))) := by
  refine pz_in pzt_X7_account ?_
  have hs := rI_B hi
  obtain ⟨hR, hs0, hs1, hs2, hs3⟩ := id hs
  obtain ⟨-, hq1, hq2, hq3, hq4, hq5, hq6, hq7, hq8, hq9, hq10, hq11, hq12, hq13⟩ := id hi
  refine pr_aload_n dX7_account_0 rfl ?_
  refine pr_iload_n dX7_account_1 rfl ?_
  refine zr_iconst dX7_account_2 ?_
  refine zr_bipush dX7_account_3 (by decide) ?_
  refine zcs3i dX7_account_5 pzm_7_70 pzt_X7_in (kX7_in (by decide) (by decide) (by decide)) (by decide) (Nat.le_of_ble_eq_true rfl) ?_
  refine zr_if_eq (tgt := 15) dX7_account_8 (by decide) (bI_R _) (fun c8 => by exfalso; have bb := bI_0 c8; omega) (fun c8 => ?_)
  refine zr_iconst dX7_account_11 ?_
  refine pr_goto (tgt := 16) dX7_account_12 (by decide) ?_
  refine pr_putf dX7_account_16 pzf_7_42 (Or.inl rfl) (rH_0 hj) (Nat.le_of_ble_eq_true rfl) rfl rfl (rH_p7 hj) ?_
  refine pr_aload_n dX7_account_19 rfl ?_
  refine pr_getf dX7_account_20 pzf_7_42 (rH_0 hj) rfl ?_
  refine zr_if_le (tgt := 28) dX7_account_23 (by decide) (show zR 0 by decide) (fun c23 => ?_) (fun c23 => absurd (show (0 : Int) ≤ 0 by decide) c23)
  refine pr_iload_n dX7_account_28 rfl ?_
  refine pr_tsin (off := 79) (tgt := 108) dX7_account_29 (by decide) (by decide) (by decide) (by decide) ?_
  refine pr_aload_n dX7_account_108 rfl ?_
  refine pr_getf dX7_account_109 pzf_7_9 (rH_0 hj) rfl ?_
  refine zr_iconst dX7_account_112 ?_
  refine zr_iald dX7_account_113 (rH_1 hj) (by omega) (by decide) ?_
  exact pr_iret dX7_account_114 rfl rfl (by first | exact zret rfl rfl | (exfalso; omega))
set_option maxRecDepth 100000 in
set_option maxHeartbeats 4000000 in
theorem kX7_account_6 (hj : oj 9 a) (hi : rI s)  : pz_Cd en 6 198 [.ref (a 0), .int (zI 6)] (rH h0 a s lv A F) 0 0 (pz_ret (some (.int (zI (s 5)))) (rH h0 a s lv A (va_up F 7 0))) := by
  refine pz_in pzt_X7_account ?_
  have hs := rI_B hi
  obtain ⟨hR, hs0, hs1, hs2, hs3⟩ := id hs
  obtain ⟨-, hq1, hq2, hq3, hq4, hq5, hq6, hq7, hq8, hq9, hq10, hq11, hq12, hq13⟩ := id hi
  refine pr_aload_n dX7_account_0 rfl ?_
  refine pr_iload_n dX7_account_1 rfl ?_
  refine zr_iconst dX7_account_2 ?_
  refine zr_bipush dX7_account_3 (by decide) ?_
  refine zcs3i dX7_account_5 pzm_7_70 pzt_X7_in (kX7_in (by decide) (by decide) (by decide)) (by decide) (Nat.le_of_ble_eq_true rfl) ?_
  refine zr_if_eq (tgt := 15) dX7_account_8 (by decide) (bI_R _) (fun c8 => by exfalso; have bb := bI_0 c8; omega) (fun c8 => ?_)
  refine zr_iconst dX7_account_11 ?_
  refine pr_goto (tgt := 16) dX7_account_12 (by decide) ?_
  refine pr_putf dX7_account_16 pzf_7_42 (Or.inl rfl) (rH_0 hj) (Nat.le_of_ble_eq_true rfl) rfl rfl (rH_p7 hj) ?_
  refine pr_aload_n dX7_account_19 rfl ?_
  refine pr_getf dX7_account_20 pzf_7_42 (rH_0 hj) rfl ?_
  refine zr_if_le (tgt := 28) dX7_account_23 (by decide) (show zR 0 by decide) (fun c23 => ?_) (fun c23 => absurd (show (0 : Int) ≤ 0 by decide) c23)
  refine pr_iload_n dX7_account_28 rfl ?_
  refine pr_tsin (off := 86) (tgt := 115) dX7_account_29 (by decide) (by decide) (by decide) (by decide) ?_
  refine pr_aload_n dX7_account_115 rfl ?_
  refine pr_getf dX7_account_116 pzf_7_9 (rH_0 hj) rfl ?_
  refine zr_iconst dX7_account_119 ?_
  refine zr_iald dX7_account_120 (rH_1 hj) (by omega) (by decide) ?_
  exact pr_iret dX7_account_121 rfl rfl (by first | exact zret rfl rfl | (exfalso; omega))
set_option maxRecDepth 100000 in
set_option maxHeartbeats 4000000 in
theorem kX7_account_2 (hj : oj 9 a) (hi : rI s)  : pz_Cd en 6 198 [.ref (a 0), .int (zI 2)] (rH h0 a s lv A F) 0 0 (pz_ret (some (.int (zI (zsum (fun c => rnow s c) 12)))) (rH h0 a s lv A (va_up F 7 0))) := by
  refine pz_in pzt_X7_account ?_
  have hs := rI_B hi
  obtain ⟨hR, hs0, hs1, hs2, hs3⟩ := id hs
  obtain ⟨-, hq1, hq2, hq3, hq4, hq5, hq6, hq7, hq8, hq9, hq10, hq11, hq12, hq13⟩ := id hi
  refine pr_aload_n dX7_account_0 rfl ?_
  refine pr_iload_n dX7_account_1 rfl ?_
  refine zr_iconst dX7_account_2 ?_
  refine zr_bipush dX7_account_3 (by decide) ?_
  refine zcs3i dX7_account_5 pzm_7_70 pzt_X7_in (kX7_in (by decide) (by decide) (by decide)) (by decide) (Nat.le_of_ble_eq_true rfl) ?_
  refine zr_if_eq (tgt := 15) dX7_account_8 (by decide) (bI_R _) (fun c8 => by exfalso; have bb := bI_0 c8; omega) (fun c8 => ?_)
  refine zr_iconst dX7_account_11 ?_
  refine pr_goto (tgt := 16) dX7_account_12 (by decide) ?_
  refine pr_putf dX7_account_16 pzf_7_42 (Or.inl rfl) (rH_0 hj) (Nat.le_of_ble_eq_true rfl) rfl rfl (rH_p7 hj) ?_
  refine pr_aload_n dX7_account_19 rfl ?_
  refine pr_getf dX7_account_20 pzf_7_42 (rH_0 hj) rfl ?_
  refine zr_if_le (tgt := 28) dX7_account_23 (by decide) (show zR 0 by decide) (fun c23 => ?_) (fun c23 => absurd (show (0 : Int) ≤ 0 by decide) c23)
  refine pr_iload_n dX7_account_28 rfl ?_
  refine pr_tsin (off := 73) (tgt := 102) dX7_account_29 (by decide) (by decide) (by decide) (by decide) ?_
  refine pr_aload_n dX7_account_102 rfl ?_
  refine pr_iload_n dX7_account_103 rfl ?_
  refine zcv1i dX7_account_104 pzm_7_199 pzt_X7_overChannels (rH_0 hj) (kX7_overChannels_2 hj hi) (by decide) (Nat.le_of_ble_eq_true rfl) (by decide) ?_
  exact pr_iret dX7_account_107 rfl rfl (by first | exact zret rfl rfl | (exfalso; omega))
set_option maxRecDepth 100000 in
set_option maxHeartbeats 4000000 in
theorem kX7_account_3 (hj : oj 9 a) (hi : rI s)  : pz_Cd en 6 198 [.ref (a 0), .int (zI 3)] (rH h0 a s lv A F) 0 0 (pz_ret (some (.int (zI (zsum (fun c => s (402 + 5 * c + 1)) 12)))) (rH h0 a s lv A (va_up F 7 0))) := by
  refine pz_in pzt_X7_account ?_
  have hs := rI_B hi
  obtain ⟨hR, hs0, hs1, hs2, hs3⟩ := id hs
  obtain ⟨-, hq1, hq2, hq3, hq4, hq5, hq6, hq7, hq8, hq9, hq10, hq11, hq12, hq13⟩ := id hi
  refine pr_aload_n dX7_account_0 rfl ?_
  refine pr_iload_n dX7_account_1 rfl ?_
  refine zr_iconst dX7_account_2 ?_
  refine zr_bipush dX7_account_3 (by decide) ?_
  refine zcs3i dX7_account_5 pzm_7_70 pzt_X7_in (kX7_in (by decide) (by decide) (by decide)) (by decide) (Nat.le_of_ble_eq_true rfl) ?_
  refine zr_if_eq (tgt := 15) dX7_account_8 (by decide) (bI_R _) (fun c8 => by exfalso; have bb := bI_0 c8; omega) (fun c8 => ?_)
  refine zr_iconst dX7_account_11 ?_
  refine pr_goto (tgt := 16) dX7_account_12 (by decide) ?_
  refine pr_putf dX7_account_16 pzf_7_42 (Or.inl rfl) (rH_0 hj) (Nat.le_of_ble_eq_true rfl) rfl rfl (rH_p7 hj) ?_
  refine pr_aload_n dX7_account_19 rfl ?_
  refine pr_getf dX7_account_20 pzf_7_42 (rH_0 hj) rfl ?_
  refine zr_if_le (tgt := 28) dX7_account_23 (by decide) (show zR 0 by decide) (fun c23 => ?_) (fun c23 => absurd (show (0 : Int) ≤ 0 by decide) c23)
  refine pr_iload_n dX7_account_28 rfl ?_
  refine pr_tsin (off := 73) (tgt := 102) dX7_account_29 (by decide) (by decide) (by decide) (by decide) ?_
  refine pr_aload_n dX7_account_102 rfl ?_
  refine pr_iload_n dX7_account_103 rfl ?_
  refine zcv1i dX7_account_104 pzm_7_199 pzt_X7_overChannels (rH_0 hj) (kX7_overChannels_3 hj hi) (by decide) (Nat.le_of_ble_eq_true rfl) (by decide) ?_
  exact pr_iret dX7_account_107 rfl rfl (by first | exact zret rfl rfl | (exfalso; omega))
set_option maxRecDepth 100000 in
set_option maxHeartbeats 4000000 in
theorem kX7_account_4 (hj : oj 9 a) (hi : rI s)  : pz_Cd en 6 198 [.ref (a 0), .int (zI 4)] (rH h0 a s lv A F) 0 0 (pz_ret (some (.int (zI (zsum (fun c => bI (rfa s c)) 12)))) (rH h0 a s lv A (va_up F 7 0))) := by
  refine pz_in pzt_X7_account ?_
  have hs := rI_B hi
  obtain ⟨hR, hs0, hs1, hs2, hs3⟩ := id hs
  obtain ⟨-, hq1, hq2, hq3, hq4, hq5, hq6, hq7, hq8, hq9, hq10, hq11, hq12, hq13⟩ := id hi
  refine pr_aload_n dX7_account_0 rfl ?_
  refine pr_iload_n dX7_account_1 rfl ?_
  refine zr_iconst dX7_account_2 ?_
  refine zr_bipush dX7_account_3 (by decide) ?_
  refine zcs3i dX7_account_5 pzm_7_70 pzt_X7_in (kX7_in (by decide) (by decide) (by decide)) (by decide) (Nat.le_of_ble_eq_true rfl) ?_
  refine zr_if_eq (tgt := 15) dX7_account_8 (by decide) (bI_R _) (fun c8 => by exfalso; have bb := bI_0 c8; omega) (fun c8 => ?_)
  refine zr_iconst dX7_account_11 ?_
  refine pr_goto (tgt := 16) dX7_account_12 (by decide) ?_
  refine pr_putf dX7_account_16 pzf_7_42 (Or.inl rfl) (rH_0 hj) (Nat.le_of_ble_eq_true rfl) rfl rfl (rH_p7 hj) ?_
  refine pr_aload_n dX7_account_19 rfl ?_
  refine pr_getf dX7_account_20 pzf_7_42 (rH_0 hj) rfl ?_
  refine zr_if_le (tgt := 28) dX7_account_23 (by decide) (show zR 0 by decide) (fun c23 => ?_) (fun c23 => absurd (show (0 : Int) ≤ 0 by decide) c23)
  refine pr_iload_n dX7_account_28 rfl ?_
  refine pr_tsin (off := 73) (tgt := 102) dX7_account_29 (by decide) (by decide) (by decide) (by decide) ?_
  refine pr_aload_n dX7_account_102 rfl ?_
  refine pr_iload_n dX7_account_103 rfl ?_
  refine zcv1i dX7_account_104 pzm_7_199 pzt_X7_overChannels (rH_0 hj) (kX7_overChannels_4 hj hi) (by decide) (Nat.le_of_ble_eq_true rfl) (by decide) ?_
  exact pr_iret dX7_account_107 rfl rfl (by first | exact zret rfl rfl | (exfalso; omega))
set_option maxRecDepth 100000 in
set_option maxHeartbeats 4000000 in
theorem kX7_account_7 (hj : oj 9 a) (hi : rI s)  : pz_Cd en 6 198 [.ref (a 0), .int (zI 7)] (rH h0 a s lv A F) 0 0 (pz_ret (some (.int (zI (zsum (fun k => rmc s k) (s 0).toNat)))) (rH h0 a s lv A (va_up F 7 0))) := by
  refine pz_in pzt_X7_account ?_
  have hs := rI_B hi
  obtain ⟨hR, hs0, hs1, hs2, hs3⟩ := id hs
  obtain ⟨-, hq1, hq2, hq3, hq4, hq5, hq6, hq7, hq8, hq9, hq10, hq11, hq12, hq13⟩ := id hi
  refine pr_aload_n dX7_account_0 rfl ?_
  refine pr_iload_n dX7_account_1 rfl ?_
  refine zr_iconst dX7_account_2 ?_
  refine zr_bipush dX7_account_3 (by decide) ?_
  refine zcs3i dX7_account_5 pzm_7_70 pzt_X7_in (kX7_in (by decide) (by decide) (by decide)) (by decide) (Nat.le_of_ble_eq_true rfl) ?_
  refine zr_if_eq (tgt := 15) dX7_account_8 (by decide) (bI_R _) (fun c8 => by exfalso; have bb := bI_0 c8; omega) (fun c8 => ?_)
  refine zr_iconst dX7_account_11 ?_
  refine pr_goto (tgt := 16) dX7_account_12 (by decide) ?_
  refine pr_putf dX7_account_16 pzf_7_42 (Or.inl rfl) (rH_0 hj) (Nat.le_of_ble_eq_true rfl) rfl rfl (rH_p7 hj) ?_
  refine pr_aload_n dX7_account_19 rfl ?_
  refine pr_getf dX7_account_20 pzf_7_42 (rH_0 hj) rfl ?_
  refine zr_if_le (tgt := 28) dX7_account_23 (by decide) (show zR 0 by decide) (fun c23 => ?_) (fun c23 => absurd (show (0 : Int) ≤ 0 by decide) c23)
  refine pr_iload_n dX7_account_28 rfl ?_
  refine pr_tsin (off := 141) (tgt := 170) dX7_account_29 (by decide) (by decide) (by decide) (by decide) ?_
  refine pr_aload_n dX7_account_170 rfl ?_
  refine pr_iload_n dX7_account_171 rfl ?_
  refine zcv1i dX7_account_172 pzm_7_202 pzt_X7_overCues (rH_0 hj) (kX7_overCues_7 hj hs) (by decide) (Nat.le_of_ble_eq_true rfl) (by decide) ?_
  exact pr_iret dX7_account_175 rfl rfl (by first | exact zret rfl rfl | (exfalso; omega))
set_option maxRecDepth 100000 in
set_option maxHeartbeats 4000000 in
theorem kX7_account_8 (hj : oj 9 a) (hi : rI s)  : pz_Cd en 6 198 [.ref (a 0), .int (zI 8)] (rH h0 a s lv A F) 0 0 (pz_ret (some (.int (zI (zsum (fun k => s (18 + 12 * k + 3)) (s 0).toNat)))) (rH h0 a s lv A (va_up F 7 0))) := by
  refine pz_in pzt_X7_account ?_
  have hs := rI_B hi
  obtain ⟨hR, hs0, hs1, hs2, hs3⟩ := id hs
  obtain ⟨-, hq1, hq2, hq3, hq4, hq5, hq6, hq7, hq8, hq9, hq10, hq11, hq12, hq13⟩ := id hi
  refine pr_aload_n dX7_account_0 rfl ?_
  refine pr_iload_n dX7_account_1 rfl ?_
  refine zr_iconst dX7_account_2 ?_
  refine zr_bipush dX7_account_3 (by decide) ?_
  refine zcs3i dX7_account_5 pzm_7_70 pzt_X7_in (kX7_in (by decide) (by decide) (by decide)) (by decide) (Nat.le_of_ble_eq_true rfl) ?_
  refine zr_if_eq (tgt := 15) dX7_account_8 (by decide) (bI_R _) (fun c8 => by exfalso; have bb := bI_0 c8; omega) (fun c8 => ?_)
  refine zr_iconst dX7_account_11 ?_
  refine pr_goto (tgt := 16) dX7_account_12 (by decide) ?_
  refine pr_putf dX7_account_16 pzf_7_42 (Or.inl rfl) (rH_0 hj) (Nat.le_of_ble_eq_true rfl) rfl rfl (rH_p7 hj) ?_
  refine pr_aload_n dX7_account_19 rfl ?_
  refine pr_getf dX7_account_20 pzf_7_42 (rH_0 hj) rfl ?_
  refine zr_if_le (tgt := 28) dX7_account_23 (by decide) (show zR 0 by decide) (fun c23 => ?_) (fun c23 => absurd (show (0 : Int) ≤ 0 by decide) c23)
  refine pr_iload_n dX7_account_28 rfl ?_
  refine pr_tsin (off := 141) (tgt := 170) dX7_account_29 (by decide) (by decide) (by decide) (by decide) ?_
  refine pr_aload_n dX7_account_170 rfl ?_
  refine pr_iload_n dX7_account_171 rfl ?_
  refine zcv1i dX7_account_172 pzm_7_202 pzt_X7_overCues (rH_0 hj) (kX7_overCues_8 hj hs) (by decide) (Nat.le_of_ble_eq_true rfl) (by decide) ?_
  exact pr_iret dX7_account_175 rfl rfl (by first | exact zret rfl rfl | (exfalso; omega))
set_option maxRecDepth 100000 in
set_option maxHeartbeats 4000000 in
theorem kX7_account_9 (hj : oj 9 a) (hi : rI s)  : pz_Cd en 6 198 [.ref (a 0), .int (zI 9)] (rH h0 a s lv A F) 0 0 (pz_ret (some (.int (zI (zsum (fun k => s (18 + 12 * k + 2)) (s 0).toNat)))) (rH h0 a s lv A (va_up F 7 0))) := by
  refine pz_in pzt_X7_account ?_
  have hs := rI_B hi
  obtain ⟨hR, hs0, hs1, hs2, hs3⟩ := id hs
  obtain ⟨-, hq1, hq2, hq3, hq4, hq5, hq6, hq7, hq8, hq9, hq10, hq11, hq12, hq13⟩ := id hi
  refine pr_aload_n dX7_account_0 rfl ?_
  refine pr_iload_n dX7_account_1 rfl ?_
  refine zr_iconst dX7_account_2 ?_
  refine zr_bipush dX7_account_3 (by decide) ?_
  refine zcs3i dX7_account_5 pzm_7_70 pzt_X7_in (kX7_in (by decide) (by decide) (by decide)) (by decide) (Nat.le_of_ble_eq_true rfl) ?_
  refine zr_if_eq (tgt := 15) dX7_account_8 (by decide) (bI_R _) (fun c8 => by exfalso; have bb := bI_0 c8; omega) (fun c8 => ?_)
  refine zr_iconst dX7_account_11 ?_
  refine pr_goto (tgt := 16) dX7_account_12 (by decide) ?_
  refine pr_putf dX7_account_16 pzf_7_42 (Or.inl rfl) (rH_0 hj) (Nat.le_of_ble_eq_true rfl) rfl rfl (rH_p7 hj) ?_
  refine pr_aload_n dX7_account_19 rfl ?_
  refine pr_getf dX7_account_20 pzf_7_42 (rH_0 hj) rfl ?_
  refine zr_if_le (tgt := 28) dX7_account_23 (by decide) (show zR 0 by decide) (fun c23 => ?_) (fun c23 => absurd (show (0 : Int) ≤ 0 by decide) c23)
  refine pr_iload_n dX7_account_28 rfl ?_
  refine pr_tsin (off := 141) (tgt := 170) dX7_account_29 (by decide) (by decide) (by decide) (by decide) ?_
  refine pr_aload_n dX7_account_170 rfl ?_
  refine pr_iload_n dX7_account_171 rfl ?_
  refine zcv1i dX7_account_172 pzm_7_202 pzt_X7_overCues (rH_0 hj) (kX7_overCues_9 hj hs) (by decide) (Nat.le_of_ble_eq_true rfl) (by decide) ?_
  exact pr_iret dX7_account_175 rfl rfl (by first | exact zret rfl rfl | (exfalso; omega))
set_option maxRecDepth 100000 in
set_option maxHeartbeats 4000000 in
theorem kX7_account_10 (hj : oj 9 a) (hi : rI s)  : pz_Cd en 6 198 [.ref (a 0), .int (zI 10)] (rH h0 a s lv A F) 0 0 (pz_ret (some (.int (zI (zsum (fun k => bI (s (162 + 4 * k + 2) = -1)) (s 1).toNat)))) (rH h0 a s lv A (va_up F 7 0))) := by
  refine pz_in pzt_X7_account ?_
  have hs := rI_B hi
  obtain ⟨hR, hs0, hs1, hs2, hs3⟩ := id hs
  obtain ⟨-, hq1, hq2, hq3, hq4, hq5, hq6, hq7, hq8, hq9, hq10, hq11, hq12, hq13⟩ := id hi
  have loop : pz_WP 6 en (pz_Cd en (6 - 1)) 7 cX7_account 4 (some .int) [] false (pz_ret (some (.int (zI (zsum (fun k => bI (s (162 + 4 * k + 2) = -1)) (s 1).toNat)))) (rH h0 a s lv A (va_up F 7 0))) 126 [some (.ref (a 0)), some (.int (zI 10)), some (.int (zI (zsum (fun k => bI (s (162 + 4 * k + 2) = -1)) (0 : Int).toNat))), some (.int (zI 0))] [] (rH h0 a s lv A (va_up F 7 0)) 0 0 := by
    refine zup (P := fun k => pz_WP 6 en (pz_Cd en (6 - 1)) 7 cX7_account 4 (some .int) [] false (pz_ret (some (.int (zI (zsum (fun k => bI (s (162 + 4 * k + 2) = -1)) (s 1).toNat)))) (rH h0 a s lv A (va_up F 7 0))) 126 [some (.ref (a 0)), some (.int (zI 10)), some (.int (zI (zsum (fun k => bI (s (162 + 4 * k + 2) = -1)) (k : Int).toNat))), some (.int (zI k))] [] (rH h0 a s lv A (va_up F 7 0)) 0 0) (lo := 0) (hi := s 1) hs2 ?_ ?_
    · skip
      refine pr_iload_n dX7_account_126 rfl ?_
      refine pr_aload_n dX7_account_127 rfl ?_
      refine pr_getf dX7_account_128 pzf_7_9 (rH_0 hj) rfl ?_
      refine zr_iconst dX7_account_131 ?_
      refine zr_iald dX7_account_132 (rH_1 hj) (by omega) (by decide) ?_
      refine zr_icmp_ge (tgt := 168) dX7_account_133 (by decide) (by first | exact hR _ | omega) (by first | exact hR _ | omega) (fun c133 => ?_) (fun c133 => by exfalso; omega)
      refine pr_iload_n dX7_account_168 rfl ?_
      exact pr_iret dX7_account_169 rfl rfl (zret (by rfl))
    · intro k hk1 hk2 ih
      rw [zsum_s hk1] at ih
      refine pr_iload_n dX7_account_126 rfl ?_
      refine pr_aload_n dX7_account_127 rfl ?_
      refine pr_getf dX7_account_128 pzf_7_9 (rH_0 hj) rfl ?_
      refine zr_iconst dX7_account_131 ?_
      refine zr_iald dX7_account_132 (rH_1 hj) (by omega) (by decide) ?_
      refine zr_icmp_ge (tgt := 168) dX7_account_133 (by decide) (by first | exact hR _ | omega) (by first | exact hR _ | omega) (fun c133 => by exfalso; omega) (fun c133 => ?_)
      refine pr_iload_n dX7_account_136 rfl ?_
      refine pr_aload_n dX7_account_137 rfl ?_
      refine pr_getf dX7_account_138 pzf_7_9 (rH_0 hj) rfl ?_
      refine zr_sipush dX7_account_141 (by decide) ?_
      refine zr_iconst dX7_account_144 ?_
      refine pr_iload_n dX7_account_145 rfl ?_
      refine zr_imul dX7_account_146 ?_
      refine zr_iadd dX7_account_147 ?_
      refine zr_iconst dX7_account_148 ?_
      refine zr_iadd dX7_account_149 ?_
      refine zr_iald dX7_account_150 (rH_1 hj) (by omega) (by decide) ?_
      refine zr_iconst dX7_account_151 ?_
      refine zr_icmp_ne (tgt := 159) dX7_account_152 (by decide) (by first | exact hR _ | omega) (by first | exact hR _ | omega) (fun c152 => ?_) (fun c152 => ?_)
      · rw [show bI (s (162 + 4 * k + 2) = -1) = 0 from bI_f c152] at ih
        refine zr_iconst dX7_account_159 ?_
        refine zr_iadd dX7_account_160 ?_
        refine pr_istore_n dX7_account_161 (by decide) rfl ?_
        refine zr_iinc dX7_account_162 rfl (by decide) rfl ?_
        refine pr_goto (tgt := 126) dX7_account_165 (by decide) ?_
        exact ih
      · rw [show bI (s (162 + 4 * k + 2) = -1) = 1 from bI_t (by omega)] at ih
        refine zr_iconst dX7_account_155 ?_
        refine pr_goto (tgt := 160) dX7_account_156 (by decide) ?_
        refine zr_iadd dX7_account_160 ?_
        refine pr_istore_n dX7_account_161 (by decide) rfl ?_
        refine zr_iinc dX7_account_162 rfl (by decide) rfl ?_
        refine pr_goto (tgt := 126) dX7_account_165 (by decide) ?_
        exact ih
  refine pr_aload_n dX7_account_0 rfl ?_
  refine pr_iload_n dX7_account_1 rfl ?_
  refine zr_iconst dX7_account_2 ?_
  refine zr_bipush dX7_account_3 (by decide) ?_
  refine zcs3i dX7_account_5 pzm_7_70 pzt_X7_in (kX7_in (by decide) (by decide) (by decide)) (by decide) (Nat.le_of_ble_eq_true rfl) ?_
  refine zr_if_eq (tgt := 15) dX7_account_8 (by decide) (bI_R _) (fun c8 => by exfalso; have bb := bI_0 c8; omega) (fun c8 => ?_)
  refine zr_iconst dX7_account_11 ?_
  refine pr_goto (tgt := 16) dX7_account_12 (by decide) ?_
  refine pr_putf dX7_account_16 pzf_7_42 (Or.inl rfl) (rH_0 hj) (Nat.le_of_ble_eq_true rfl) rfl rfl (rH_p7 hj) ?_
  refine pr_aload_n dX7_account_19 rfl ?_
  refine pr_getf dX7_account_20 pzf_7_42 (rH_0 hj) rfl ?_
  refine zr_if_le (tgt := 28) dX7_account_23 (by decide) (show zR 0 by decide) (fun c23 => ?_) (fun c23 => absurd (show (0 : Int) ≤ 0 by decide) c23)
  refine pr_iload_n dX7_account_28 rfl ?_
  refine pr_tsin (off := 93) (tgt := 122) dX7_account_29 (by decide) (by decide) (by decide) (by decide) ?_
  refine zr_iconst dX7_account_122 ?_
  refine pr_istore_n dX7_account_123 (by decide) rfl ?_
  refine zr_iconst dX7_account_124 ?_
  refine pr_istore_n dX7_account_125 (by decide) rfl ?_
  exact loop
set_option maxRecDepth 100000 in
set_option maxHeartbeats 4000000 in
theorem kX7_account_t (hj : oj 9 a) (hi : rI s) {q : Int} (h1 : zR q) (g1 : ¬ (0 ≤ q ∧ q ≤ 10)) : pz_Cd en 6 198 [.ref (a 0), .int (zI q)] (rH h0 a s lv A F) 0 0 (pz_ret (some (.int (zI 0))) (rH h0 a s lv A (va_up F 7 1))) := by
  refine pz_in pzt_X7_account ?_
  have hs := rI_B hi
  obtain ⟨hR, hs0, hs1, hs2, hs3⟩ := id hs
  obtain ⟨-, hq1, hq2, hq3, hq4, hq5, hq6, hq7, hq8, hq9, hq10, hq11, hq12, hq13⟩ := id hi
  refine pr_aload_n dX7_account_0 rfl ?_
  refine pr_iload_n dX7_account_1 rfl ?_
  refine zr_iconst dX7_account_2 ?_
  refine zr_bipush dX7_account_3 (by decide) ?_
  refine zcs3i dX7_account_5 pzm_7_70 pzt_X7_in (kX7_in (by omega) (by omega) (by omega)) (by decide) (Nat.le_of_ble_eq_true rfl) ?_
  refine zr_if_eq (tgt := 15) dX7_account_8 (by decide) (bI_R _) (fun c8 => ?_) (fun c8 => by exfalso; have bb := bI_ne c8; omega)
  have b8 := bI_0 c8
  refine zr_iconst dX7_account_15 ?_
  refine pr_putf dX7_account_16 pzf_7_42 (Or.inl rfl) (rH_0 hj) (Nat.le_of_ble_eq_true rfl) rfl rfl (rH_p7 hj) ?_
  refine pr_aload_n dX7_account_19 rfl ?_
  refine pr_getf dX7_account_20 pzf_7_42 (rH_0 hj) rfl ?_
  refine zr_if_le (tgt := 28) dX7_account_23 (by decide) (show zR 1 by decide) (fun c23 => absurd c23 (show ¬ ((1 : Int) ≤ 0) by decide)) (fun c23 => ?_)
  refine zr_iconst dX7_account_26 ?_
  exact pr_iret dX7_account_27 rfl rfl (by first | exact zret rfl rfl | (exfalso; omega))
set_option maxRecDepth 100000 in
set_option maxHeartbeats 4000000 in
theorem kX7_playing_0 (hj : oj 9 a) (hi : rI s)  : pz_Cd en 4 194 [.ref (a 0), .int (zI 0)] (rH h0 a s lv A F) 0 0 (pz_ret (some (.int (zI (s 2)))) (rH h0 a s lv A (va_up F 7 0))) := by
  refine pz_in pzt_X7_playing ?_
  have hs := rI_B hi
  obtain ⟨hR, hs0, hs1, hs2, hs3⟩ := id hs
  obtain ⟨-, hq1, hq2, hq3, hq4, hq5, hq6, hq7, hq8, hq9, hq10, hq11, hq12, hq13⟩ := id hi
  refine pr_aload_n dX7_playing_0 rfl ?_
  refine pr_iload_n dX7_playing_1 rfl ?_
  refine zr_iconst dX7_playing_2 ?_
  refine zr_iconst dX7_playing_3 ?_
  refine zcs3i dX7_playing_4 pzm_7_70 pzt_X7_in (kX7_in (by decide) (by decide) (by decide)) (by decide) (Nat.le_of_ble_eq_true rfl) ?_
  refine zr_if_eq (tgt := 14) dX7_playing_7 (by decide) (bI_R _) (fun c7 => by exfalso; have bb := bI_0 c7; omega) (fun c7 => ?_)
  refine zr_iconst dX7_playing_10 ?_
  refine pr_goto (tgt := 15) dX7_playing_11 (by decide) ?_
  refine pr_putf dX7_playing_15 pzf_7_42 (Or.inl rfl) (rH_0 hj) (Nat.le_of_ble_eq_true rfl) rfl rfl (rH_p7 hj) ?_
  refine pr_aload_n dX7_playing_18 rfl ?_
  refine pr_getf dX7_playing_19 pzf_7_42 (rH_0 hj) rfl ?_
  refine zr_if_le (tgt := 27) dX7_playing_22 (by decide) (show zR 0 by decide) (fun c22 => ?_) (fun c22 => absurd (show (0 : Int) ≤ 0 by decide) c22)
  refine pr_iload_n dX7_playing_27 rfl ?_
  refine pr_tsin (off := 32) (tgt := 60) dX7_playing_28 (by decide) (by decide) (by decide) (by decide) ?_
  refine pr_aload_n dX7_playing_60 rfl ?_
  refine pr_getf dX7_playing_61 pzf_7_9 (rH_0 hj) rfl ?_
  refine zr_iconst dX7_playing_64 ?_
  refine zr_iald dX7_playing_65 (rH_1 hj) (by omega) (by decide) ?_
  exact pr_iret dX7_playing_66 rfl rfl (by first | exact zret rfl rfl | (exfalso; omega))
set_option maxRecDepth 100000 in
set_option maxHeartbeats 4000000 in
theorem kX7_playing_1 (hj : oj 9 a) (hi : rI s)  : pz_Cd en 4 194 [.ref (a 0), .int (zI 1)] (rH h0 a s lv A F) 0 0 (pz_ret (some (.int (zI (s 3)))) (rH h0 a s lv A (va_up F 7 0))) := by
  refine pz_in pzt_X7_playing ?_
  have hs := rI_B hi
  obtain ⟨hR, hs0, hs1, hs2, hs3⟩ := id hs
  obtain ⟨-, hq1, hq2, hq3, hq4, hq5, hq6, hq7, hq8, hq9, hq10, hq11, hq12, hq13⟩ := id hi
  refine pr_aload_n dX7_playing_0 rfl ?_
  refine pr_iload_n dX7_playing_1 rfl ?_
  refine zr_iconst dX7_playing_2 ?_
  refine zr_iconst dX7_playing_3 ?_
  refine zcs3i dX7_playing_4 pzm_7_70 pzt_X7_in (kX7_in (by decide) (by decide) (by decide)) (by decide) (Nat.le_of_ble_eq_true rfl) ?_
  refine zr_if_eq (tgt := 14) dX7_playing_7 (by decide) (bI_R _) (fun c7 => by exfalso; have bb := bI_0 c7; omega) (fun c7 => ?_)
  refine zr_iconst dX7_playing_10 ?_
  refine pr_goto (tgt := 15) dX7_playing_11 (by decide) ?_
  refine pr_putf dX7_playing_15 pzf_7_42 (Or.inl rfl) (rH_0 hj) (Nat.le_of_ble_eq_true rfl) rfl rfl (rH_p7 hj) ?_
  refine pr_aload_n dX7_playing_18 rfl ?_
  refine pr_getf dX7_playing_19 pzf_7_42 (rH_0 hj) rfl ?_
  refine zr_if_le (tgt := 27) dX7_playing_22 (by decide) (show zR 0 by decide) (fun c22 => ?_) (fun c22 => absurd (show (0 : Int) ≤ 0 by decide) c22)
  refine pr_iload_n dX7_playing_27 rfl ?_
  refine pr_tsin (off := 39) (tgt := 67) dX7_playing_28 (by decide) (by decide) (by decide) (by decide) ?_
  refine pr_aload_n dX7_playing_67 rfl ?_
  refine pr_getf dX7_playing_68 pzf_7_9 (rH_0 hj) rfl ?_
  refine zr_iconst dX7_playing_71 ?_
  refine zr_iald dX7_playing_72 (rH_1 hj) (by omega) (by decide) ?_
  exact pr_iret dX7_playing_73 rfl rfl (by first | exact zret rfl rfl | (exfalso; omega))
set_option maxRecDepth 100000 in
set_option maxHeartbeats 4000000 in
theorem kX7_playing_2 (hj : oj 9 a) (hi : rI s)  : pz_Cd en 4 194 [.ref (a 0), .int (zI 2)] (rH h0 a s lv A F) 0 0 (pz_ret (some (.int (zI (rnx s (s 2))))) (rH h0 a s lv A (va_up F 7 0))) := by
  refine pz_in pzt_X7_playing ?_
  have hs := rI_B hi
  obtain ⟨hR, hs0, hs1, hs2, hs3⟩ := id hs
  obtain ⟨-, hq1, hq2, hq3, hq4, hq5, hq6, hq7, hq8, hq9, hq10, hq11, hq12, hq13⟩ := id hi
  refine pr_aload_n dX7_playing_0 rfl ?_
  refine pr_iload_n dX7_playing_1 rfl ?_
  refine zr_iconst dX7_playing_2 ?_
  refine zr_iconst dX7_playing_3 ?_
  refine zcs3i dX7_playing_4 pzm_7_70 pzt_X7_in (kX7_in (by decide) (by decide) (by decide)) (by decide) (Nat.le_of_ble_eq_true rfl) ?_
  refine zr_if_eq (tgt := 14) dX7_playing_7 (by decide) (bI_R _) (fun c7 => by exfalso; have bb := bI_0 c7; omega) (fun c7 => ?_)
  refine zr_iconst dX7_playing_10 ?_
  refine pr_goto (tgt := 15) dX7_playing_11 (by decide) ?_
  refine pr_putf dX7_playing_15 pzf_7_42 (Or.inl rfl) (rH_0 hj) (Nat.le_of_ble_eq_true rfl) rfl rfl (rH_p7 hj) ?_
  refine pr_aload_n dX7_playing_18 rfl ?_
  refine pr_getf dX7_playing_19 pzf_7_42 (rH_0 hj) rfl ?_
  refine zr_if_le (tgt := 27) dX7_playing_22 (by decide) (show zR 0 by decide) (fun c22 => ?_) (fun c22 => absurd (show (0 : Int) ≤ 0 by decide) c22)
  refine pr_iload_n dX7_playing_27 rfl ?_
  refine pr_tsin (off := 46) (tgt := 74) dX7_playing_28 (by decide) (by decide) (by decide) (by decide) ?_
  refine pr_aload_n dX7_playing_74 rfl ?_
  refine pr_aload_n dX7_playing_75 rfl ?_
  refine pr_getf dX7_playing_76 pzf_7_9 (rH_0 hj) rfl ?_
  refine zr_iconst dX7_playing_79 ?_
  refine zr_iald dX7_playing_80 (rH_1 hj) (by omega) (by decide) ?_
  refine zcv1i dX7_playing_81 pzm_7_171 pzt_X7_nextCue (rH_0 hj) (kX7_nextCue hj hs (hR _)) (by decide) (Nat.le_of_ble_eq_true rfl) (by decide) ?_
  exact pr_iret dX7_playing_84 rfl rfl (by first | exact zret rfl rfl | (exfalso; omega))
set_option maxRecDepth 100000 in
set_option maxHeartbeats 4000000 in
theorem kX7_playing_4 (hj : oj 9 a) (hi : rI s)  : pz_Cd en 4 194 [.ref (a 0), .int (zI 4)] (rH h0 a s lv A F) 0 0 (pz_ret (some (.int (zI (if rfo s then (if 1 < (s (18 + 12 * rpl s (s 2) + 1) - s 3) then (s (18 + 12 * rpl s (s 2) + 1) - s 3) else 1) else -1)))) (rH h0 a s lv A (va_up F 7 0))) := by
  refine pz_in pzt_X7_playing ?_
  have hs := rI_B hi
  obtain ⟨hR, hs0, hs1, hs2, hs3⟩ := id hs
  obtain ⟨-, hq1, hq2, hq3, hq4, hq5, hq6, hq7, hq8, hq9, hq10, hq11, hq12, hq13⟩ := id hi
  have hpl := rpl_R hs (s 2)
  refine pr_aload_n dX7_playing_0 rfl ?_
  refine pr_iload_n dX7_playing_1 rfl ?_
  refine zr_iconst dX7_playing_2 ?_
  refine zr_iconst dX7_playing_3 ?_
  refine zcs3i dX7_playing_4 pzm_7_70 pzt_X7_in (kX7_in (by decide) (by decide) (by decide)) (by decide) (Nat.le_of_ble_eq_true rfl) ?_
  refine zr_if_eq (tgt := 14) dX7_playing_7 (by decide) (bI_R _) (fun c7 => by exfalso; have bb := bI_0 c7; omega) (fun c7 => ?_)
  refine zr_iconst dX7_playing_10 ?_
  refine pr_goto (tgt := 15) dX7_playing_11 (by decide) ?_
  refine pr_putf dX7_playing_15 pzf_7_42 (Or.inl rfl) (rH_0 hj) (Nat.le_of_ble_eq_true rfl) rfl rfl (rH_p7 hj) ?_
  refine pr_aload_n dX7_playing_18 rfl ?_
  refine pr_getf dX7_playing_19 pzf_7_42 (rH_0 hj) rfl ?_
  refine zr_if_le (tgt := 27) dX7_playing_22 (by decide) (show zR 0 by decide) (fun c22 => ?_) (fun c22 => absurd (show (0 : Int) ≤ 0 by decide) c22)
  refine pr_iload_n dX7_playing_27 rfl ?_
  refine pr_tsout (tgt := 90) dX7_playing_28 (by decide) (by decide) ?_
  refine pr_aload_n dX7_playing_90 rfl ?_
  refine zcv0i dX7_playing_91 pzm_7_185 pzt_X7_follows (rH_0 hj) (kX7_follows hj hs) (by decide) (Nat.le_of_ble_eq_true rfl) (by decide) ?_
  refine zr_if_eq (tgt := 131) dX7_playing_94 (by decide) (bI_R _) (fun c94 => ?_) (fun c94 => ?_)
  · have b94 := bI_0 c94
    rw [if_neg b94]
    refine zr_iconst dX7_playing_131 ?_
    exact pr_iret dX7_playing_132 rfl rfl (by first | exact zret rfl rfl | (exfalso; omega))
  · have b94 := bI_ne c94
    rw [if_pos b94]
    have hrp : 0 ≤ rpl s (s 2) := by
      have z1 := b94.1
      unfold rfp at z1
      split at z1 <;> omega
    have hf := hq1 (rpl s (s 2)) hrp (by omega)
    refine zr_iconst dX7_playing_97 ?_
    refine pr_aload_n dX7_playing_98 rfl ?_
    refine pr_getf dX7_playing_99 pzf_7_9 (rH_0 hj) rfl ?_
    refine pr_aload_n dX7_playing_102 rfl ?_
    refine pr_aload_n dX7_playing_103 rfl ?_
    refine pr_getf dX7_playing_104 pzf_7_9 (rH_0 hj) rfl ?_
    refine zr_iconst dX7_playing_107 ?_
    refine zr_iald dX7_playing_108 (rH_1 hj) (by omega) (by decide) ?_
    refine zcv1i dX7_playing_109 pzm_7_67 pzt_X7_placeOf (rH_0 hj) (kX7_placeOf hj hs (hR _)) (by decide) (Nat.le_of_ble_eq_true rfl) (by decide) ?_
    refine zcs1i dX7_playing_112 pzm_7_63 pzt_X7_at kX7_at (by decide) (Nat.le_of_ble_eq_true rfl) ?_
    refine zr_iconst dX7_playing_115 ?_
    refine zr_iadd dX7_playing_116 ?_
    refine zr_iald dX7_playing_117 (rH_1 hj) (by omega) (by decide) ?_
    refine pr_aload_n dX7_playing_118 rfl ?_
    refine pr_getf dX7_playing_119 pzf_7_9 (rH_0 hj) rfl ?_
    refine zr_iconst dX7_playing_122 ?_
    refine zr_iald dX7_playing_123 (rH_1 hj) (by omega) (by decide) ?_
    refine zr_isub dX7_playing_124 ?_
    refine zr_max dX7_playing_125 pzx_7_117 (by decide) (Nat.le_of_ble_eq_true rfl) (by decide) (by omega) ?_
    refine pr_goto (tgt := 132) dX7_playing_128 (by decide) ?_
    exact pr_iret dX7_playing_132 rfl rfl (by first | exact zret rfl rfl | (exfalso; omega))
set_option maxRecDepth 100000 in
set_option maxHeartbeats 4000000 in
theorem kX7_playing_t (hj : oj 9 a) (hi : rI s) {q : Int} (h1 : zR q) (g1 : ¬ (0 ≤ q ∧ q ≤ 4)) : pz_Cd en 4 194 [.ref (a 0), .int (zI q)] (rH h0 a s lv A F) 0 0 (pz_ret (some (.int (zI 0))) (rH h0 a s lv A (va_up F 7 1))) := by
  refine pz_in pzt_X7_playing ?_
  have hs := rI_B hi
  obtain ⟨hR, hs0, hs1, hs2, hs3⟩ := id hs
  obtain ⟨-, hq1, hq2, hq3, hq4, hq5, hq6, hq7, hq8, hq9, hq10, hq11, hq12, hq13⟩ := id hi
  refine pr_aload_n dX7_playing_0 rfl ?_
  refine pr_iload_n dX7_playing_1 rfl ?_
  refine zr_iconst dX7_playing_2 ?_
  refine zr_iconst dX7_playing_3 ?_
  refine zcs3i dX7_playing_4 pzm_7_70 pzt_X7_in (kX7_in (by omega) (by omega) (by omega)) (by decide) (Nat.le_of_ble_eq_true rfl) ?_
  refine zr_if_eq (tgt := 14) dX7_playing_7 (by decide) (bI_R _) (fun c7 => ?_) (fun c7 => by exfalso; have bb := bI_ne c7; omega)
  have b7 := bI_0 c7
  refine zr_iconst dX7_playing_14 ?_
  refine pr_putf dX7_playing_15 pzf_7_42 (Or.inl rfl) (rH_0 hj) (Nat.le_of_ble_eq_true rfl) rfl rfl (rH_p7 hj) ?_
  refine pr_aload_n dX7_playing_18 rfl ?_
  refine pr_getf dX7_playing_19 pzf_7_42 (rH_0 hj) rfl ?_
  refine zr_if_le (tgt := 27) dX7_playing_22 (by decide) (show zR 1 by decide) (fun c22 => absurd c22 (show ¬ ((1 : Int) ≤ 0) by decide)) (fun c22 => ?_)
  refine zr_iconst dX7_playing_25 ?_
  exact pr_iret dX7_playing_26 rfl rfl (by first | exact zret rfl rfl | (exfalso; omega))
end ref
