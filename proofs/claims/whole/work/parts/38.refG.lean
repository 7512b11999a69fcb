/-! the reference: its face, what changes -/
def rcB (s : Int → Int) (A : Nat → Int → Int) : Int → Int := zcpy s (A 2) 0 0 462
def rcA (s : Int → Int) (A : Nat → Int → Int) (F : Nat → Int) : Nat → Int → Int := va_up (va_up A 2 (rcB s A)) 4 (hPs (A 4) (rcB s A) (F 5))
section ref
variable {en : pz_Env} {h0 : pz_H} {a : Nat → Nat} {s lv : Int → Int} {A : Nat → Int → Int} {F : Nat → Int}
set_option maxRecDepth 100000 in
set_option maxHeartbeats 4000000 in
theorem kX7_addCue_k (hj : oj 9 a) (hi : rI s) {n : Int} (h1 : zR n) (g1 : (1 ≤ n ∧ n ≤ 99) ∧ ¬ 0 ≤ rpl s n) (g2 : ¬ s 0 = 12) (p0 : 0 ≤ F 5) (p1 : F 5 ≤ 6) : pz_Cd en 5 134 [.ref (a 0), .int (zI n)] (rH h0 a s lv A F) 0 0 (pz_ret (some (.int (zI (s 0 + 1)))) (rH h0 a (rAs s n) lv (rcA s A F) (va_up (va_up F 7 0) 5 (hPn (F 5))))) := by
  refine pz_in pzt_X7_addCue ?_
  have hs := rI_B hi
  obtain ⟨hR, hs0, hs1, hs2, hs3⟩ := id hs
  obtain ⟨-, hq1, hq2, hq3, hq4, hq5, hq6, hq7, hq8, hq9, hq10, hq11, hq12, hq13⟩ := id hi
  refine pr_aload_n dX7_addCue_0 rfl ?_
  refine zcv0u dX7_addCue_1 pzm_7_54 pzt_X7_keepState (rH_0 hj) (kX7_keepState hj) (by decide) (Nat.le_of_ble_eq_true rfl) (by decide) ?_
  refine pr_aload_n dX7_addCue_4 rfl ?_
  refine pr_aload_n dX7_addCue_5 rfl ?_
  refine pr_iload_n dX7_addCue_6 rfl ?_
  refine zcv1i dX7_addCue_7 pzm_7_78 pzt_X7_doAdd (rH_0 hj) (kX7_doAdd hj hs h1) (by decide) (Nat.le_of_ble_eq_true rfl) (by decide) ?_
  rw [show rAd s n = (0, rAs s n) by unfold rAd; rw [if_pos g1, if_neg g2]]
  refine pr_putf dX7_addCue_10 pzf_7_42 (Or.inl rfl) (rH_0 hj) (Nat.le_of_ble_eq_true rfl) rfl rfl (rH_p7 hj) ?_
  refine pr_aload_n dX7_addCue_13 rfl ?_
  refine pr_getf dX7_addCue_14 pzf_7_42 (rH_0 hj) rfl ?_
  refine zr_if_le (tgt := 22) dX7_addCue_17 (by decide) (show zR 0 by decide) (fun c17 => ?_) (fun c17 => absurd (show (0 : Int) ≤ 0 by decide) c17)
  refine pr_aload_n dX7_addCue_22 rfl ?_
  refine zcv0u dX7_addCue_23 pzm_7_57 pzt_X7_change (rH_0 hj) (kX7_change hj (by exact p0) (by exact p1)) (by decide) (Nat.le_of_ble_eq_true rfl) (by decide) ?_
  refine pr_aload_n dX7_addCue_26 rfl ?_
  refine pr_getf dX7_addCue_27 pzf_7_9 (rH_0 hj) rfl ?_
  refine zr_iconst dX7_addCue_30 ?_
  refine zr_iald dX7_addCue_31 (rH_1 hj) (by omega) (by decide) ?_
  exact pr_iret dX7_addCue_32 rfl rfl (zret (rAs_0 (s := s) (n := n)) rfl)
set_option maxRecDepth 100000 in
set_option maxHeartbeats 4000000 in
theorem kX7_addCue_t1 (hj : oj 9 a) (hi : rI s) {n : Int} (h1 : zR n) (g1 : ¬ ((1 ≤ n ∧ n ≤ 99) ∧ ¬ 0 ≤ rpl s n)) : pz_Cd en 5 134 [.ref (a 0), .int (zI n)] (rH h0 a s lv A F) 0 0 (pz_ret (some (.int (zI 0))) (rH h0 a s lv (va_up A 2 (rcB s A)) (va_up F 7 1))) := by
  refine pz_in pzt_X7_addCue ?_
  have hs := rI_B hi
  obtain ⟨hR, hs0, hs1, hs2, hs3⟩ := id hs
  obtain ⟨-, hq1, hq2, hq3, hq4, hq5, hq6, hq7, hq8, hq9, hq10, hq11, hq12, hq13⟩ := id hi
  refine pr_aload_n dX7_addCue_0 rfl ?_
  refine zcv0u dX7_addCue_1 pzm_7_54 pzt_X7_keepState (rH_0 hj) (kX7_keepState hj) (by decide) (Nat.le_of_ble_eq_true rfl) (by decide) ?_
  refine pr_aload_n dX7_addCue_4 rfl ?_
  refine pr_aload_n dX7_addCue_5 rfl ?_
  refine pr_iload_n dX7_addCue_6 rfl ?_
  refine zcv1i dX7_addCue_7 pzm_7_78 pzt_X7_doAdd (rH_0 hj) (kX7_doAdd hj hs h1) (by decide) (Nat.le_of_ble_eq_true rfl) (by decide) ?_
  rw [show rAd s n = (1, s) by unfold rAd; rw [if_neg g1]]
  refine pr_putf dX7_addCue_10 pzf_7_42 (Or.inl rfl) (rH_0 hj) (Nat.le_of_ble_eq_true rfl) rfl rfl (rH_p7 hj) ?_
  refine pr_aload_n dX7_addCue_13 rfl ?_
  refine pr_getf dX7_addCue_14 pzf_7_42 (rH_0 hj) rfl ?_
  refine zr_if_le (tgt := 22) dX7_addCue_17 (by decide) (show zR 1 by decide) (fun c17 => absurd c17 (show ¬ (1 : Int) ≤ 0 by decide)) (fun c17 => ?_)
  refine zr_iconst dX7_addCue_20 ?_
  exact pr_iret dX7_addCue_21 rfl rfl (by first | exact zret rfl rfl | (exfalso; omega))
set_option maxRecDepth 100000 in
set_option maxHeartbeats 4000000 in
theorem kX7_addCue_t2 (hj : oj 9 a) (hi : rI s) {n : Int} (h1 : zR n) (g1 : (1 ≤ n ∧ n ≤ 99) ∧ ¬ 0 ≤ rpl s n) (g2 : s 0 = 12) : pz_Cd en 5 134 [.ref (a 0), .int (zI n)] (rH h0 a s lv A F) 0 0 (pz_ret (some (.int (zI 0))) (rH h0 a s lv (va_up A 2 (rcB s A)) (va_up F 7 2))) := by
  refine pz_in pzt_X7_addCue ?_
  have hs := rI_B hi
  obtain ⟨hR, hs0, hs1, hs2, hs3⟩ := id hs
  obtain ⟨-, hq1, hq2, hq3, hq4, hq5, hq6, hq7, hq8, hq9, hq10, hq11, hq12, hq13⟩ := id hi
  refine pr_aload_n dX7_addCue_0 rfl ?_
  refine zcv0u dX7_addCue_1 pzm_7_54 pzt_X7_keepState (rH_0 hj) (kX7_keepState hj) (by decide) (Nat.le_of_ble_eq_true rfl) (by decide) ?_
  refine pr_aload_n dX7_addCue_4 rfl ?_
  refine pr_aload_n dX7_addCue_5 rfl ?_
  refine pr_iload_n dX7_addCue_6 rfl ?_
  refine zcv1i dX7_addCue_7 pzm_7_78 pzt_X7_doAdd (rH_0 hj) (kX7_doAdd hj hs h1) (by decide) (Nat.le_of_ble_eq_true rfl) (by decide) ?_
  rw [show rAd s n = (2, s) by unfold rAd; rw [if_pos g1, if_pos g2]]
  refine pr_putf dX7_addCue_10 pzf_7_42 (Or.inl rfl) (rH_0 hj) (Nat.le_of_ble_eq_true rfl) rfl rfl (rH_p7 hj) ?_
  refine pr_aload_n dX7_addCue_13 rfl ?_
  refine pr_getf dX7_addCue_14 pzf_7_42 (rH_0 hj) rfl ?_
  refine zr_if_le (tgt := 22) dX7_addCue_17 (by decide) (show zR 2 by decide) (fun c17 => absurd c17 (show ¬ (2 : Int) ≤ 0 by decide)) (fun c17 => ?_)
  refine zr_iconst dX7_addCue_20 ?_
  exact pr_iret dX7_addCue_21 rfl rfl (by first | exact zret rfl rfl | (exfalso; omega))
set_option maxRecDepth 100000 in
set_option maxHeartbeats 4000000 in
theorem kX7_setFollow_k (hj : oj 9 a) (hi : rI s) {cue t : Int} (h1 : zR cue) (h3 : zR t) (g1 : 0 ≤ rpl s cue) (g2 : t = -1 ∨ (1 ≤ t ∧ t ≤ 6000)) (p0 : 0 ≤ F 5) (p1 : F 5 ≤ 6) : pz_Cd en 4 136 [.ref (a 0), .int (zI cue), .int (zI t)] (rH h0 a s lv A F) 0 0 (pz_ret (some (.int (zI (s (18 + 12 * rpl s cue + 1))))) (rH h0 a (zu s (18 + 12 * rpl s cue + 1) t) lv (rcA s A F) (va_up (va_up F 7 0) 5 (hPn (F 5))))) := by
  refine pz_in pzt_X7_setFollow ?_
  have hs := rI_B hi
  obtain ⟨hR, hs0, hs1, hs2, hs3⟩ := id hs
  obtain ⟨-, hq1, hq2, hq3, hq4, hq5, hq6, hq7, hq8, hq9, hq10, hq11, hq12, hq13⟩ := id hi
  have hp := rpl_R hs cue
  refine pr_aload_n dX7_setFollow_0 rfl ?_
  refine pr_aload_n dX7_setFollow_1 rfl ?_
  refine pr_iload_n dX7_setFollow_2 rfl ?_
  refine zcv1i dX7_setFollow_3 pzm_7_74 pzt_X7_isCue (rH_0 hj) (kX7_isCue hj hs h1) (by decide) (Nat.le_of_ble_eq_true rfl) (by decide) ?_
  refine zr_if_ne (tgt := 13) dX7_setFollow_6 (by decide) (bI_R _) (fun c6 => ?_) (fun c6 => by exfalso; have bb := bI_0 c6; omega)
  have b6 := bI_ne c6
  refine pr_iload_n dX7_setFollow_13 rfl ?_
  refine zr_iconst dX7_setFollow_14 ?_
  refine zr_icmp_eq (tgt := 33) dX7_setFollow_15 (by decide) (by first | exact hR _ | omega) (by first | exact hR _ | omega) (fun c15 => ?_) (fun c15 => ?_)
  · refine zr_iconst dX7_setFollow_33 ?_
    refine pr_putf dX7_setFollow_34 pzf_7_42 (Or.inl rfl) (rH_0 hj) (Nat.le_of_ble_eq_true rfl) rfl rfl (rH_p7 hj) ?_
    refine pr_aload_n dX7_setFollow_37 rfl ?_
    refine pr_getf dX7_setFollow_38 pzf_7_42 (rH_0 hj) rfl ?_
    refine zr_if_le (tgt := 46) dX7_setFollow_41 (by decide) (show zR 0 by decide) (fun c41 => ?_) (fun c41 => absurd (show (0 : Int) ≤ 0 by decide) c41)
    refine pr_aload_n dX7_setFollow_46 rfl ?_
    refine zcv0u dX7_setFollow_47 pzm_7_81 pzt_X7_changes (rH_0 hj) (kX7_changes hj (by exact p0) (by exact p1)) (by decide) (Nat.le_of_ble_eq_true rfl) (by decide) ?_
    refine pr_aload_n dX7_setFollow_50 rfl ?_
    refine pr_getf dX7_setFollow_51 pzf_7_9 (rH_0 hj) rfl ?_
    refine pr_aload_n dX7_setFollow_54 rfl ?_
    refine pr_iload_n dX7_setFollow_55 rfl ?_
    refine zcv1i dX7_setFollow_56 pzm_7_67 pzt_X7_placeOf (rH_0 hj) (kX7_placeOf hj hs h1) (by decide) (Nat.le_of_ble_eq_true rfl) (by decide) ?_
    refine zcs1i dX7_setFollow_59 pzm_7_63 pzt_X7_at kX7_at (by decide) (Nat.le_of_ble_eq_true rfl) ?_
    refine zr_iconst dX7_setFollow_62 ?_
    refine zr_iadd dX7_setFollow_63 ?_
    refine zr_iald dX7_setFollow_64 (rH_1 hj) (by omega) (by decide) ?_
    refine pr_istore_n dX7_setFollow_65 (by decide) rfl ?_
    refine pr_aload_n dX7_setFollow_66 rfl ?_
    refine pr_getf dX7_setFollow_67 pzf_7_9 (rH_0 hj) rfl ?_
    refine pr_aload_n dX7_setFollow_70 rfl ?_
    refine pr_iload_n dX7_setFollow_71 rfl ?_
    refine zcv1i dX7_setFollow_72 pzm_7_67 pzt_X7_placeOf (rH_0 hj) (kX7_placeOf hj hs h1) (by decide) (Nat.le_of_ble_eq_true rfl) (by decide) ?_
    refine zcs1i dX7_setFollow_75 pzm_7_63 pzt_X7_at kX7_at (by decide) (Nat.le_of_ble_eq_true rfl) ?_
    refine zr_iconst dX7_setFollow_78 ?_
    refine zr_iadd dX7_setFollow_79 ?_
    refine pr_iload_n dX7_setFollow_80 rfl ?_
    refine zr_iast dX7_setFollow_81 (rH_1 hj) (by omega) (by decide) (rH_u1 hj) ?_
    refine pr_iload_n dX7_setFollow_82 rfl ?_
    exact pr_iret dX7_setFollow_83 rfl rfl (by first | exact zret rfl rfl | (exfalso; omega))
  · refine pr_iload_n dX7_setFollow_18 rfl ?_
    refine zr_iconst dX7_setFollow_19 ?_
    refine zr_sipush dX7_setFollow_20 (by decide) ?_
    refine zcs3i dX7_setFollow_23 pzm_7_70 pzt_X7_in (kX7_in (by omega) (by omega) (by omega)) (by decide) (Nat.le_of_ble_eq_true rfl) ?_
    refine zr_if_ne (tgt := 33) dX7_setFollow_26 (by decide) (bI_R _) (fun c26 => ?_) (fun c26 => by exfalso; have bb := bI_0 c26; omega)
    have b26 := bI_ne c26
    refine zr_iconst dX7_setFollow_33 ?_
    refine pr_putf dX7_setFollow_34 pzf_7_42 (Or.inl rfl) (rH_0 hj) (Nat.le_of_ble_eq_true rfl) rfl rfl (rH_p7 hj) ?_
    refine pr_aload_n dX7_setFollow_37 rfl ?_
    refine pr_getf dX7_setFollow_38 pzf_7_42 (rH_0 hj) rfl ?_
    refine zr_if_le (tgt := 46) dX7_setFollow_41 (by decide) (show zR 0 by decide) (fun c41 => ?_) (fun c41 => absurd (show (0 : Int) ≤ 0 by decide) c41)
    refine pr_aload_n dX7_setFollow_46 rfl ?_
    refine zcv0u dX7_setFollow_47 pzm_7_81 pzt_X7_changes (rH_0 hj) (kX7_changes hj (by exact p0) (by exact p1)) (by decide) (Nat.le_of_ble_eq_true rfl) (by decide) ?_
    refine pr_aload_n dX7_setFollow_50 rfl ?_
    refine pr_getf dX7_setFollow_51 pzf_7_9 (rH_0 hj) rfl ?_
    refine pr_aload_n dX7_setFollow_54 rfl ?_
    refine pr_iload_n dX7_setFollow_55 rfl ?_
    refine zcv1i dX7_setFollow_56 pzm_7_67 pzt_X7_placeOf (rH_0 hj) (kX7_placeOf hj hs h1) (by decide) (Nat.le_of_ble_eq_true rfl) (by decide) ?_
    refine zcs1i dX7_setFollow_59 pzm_7_63 pzt_X7_at kX7_at (by decide) (Nat.le_of_ble_eq_true rfl) ?_
    refine zr_iconst dX7_setFollow_62 ?_
    refine zr_iadd dX7_setFollow_63 ?_
    refine zr_iald dX7_setFollow_64 (rH_1 hj) (by omega) (by decide) ?_
    refine pr_istore_n dX7_setFollow_65 (by decide) rfl ?_
    refine pr_aload_n dX7_setFollow_66 rfl ?_
    refine pr_getf dX7_setFollow_67 pzf_7_9 (rH_0 hj) rfl ?_
    refine pr_aload_n dX7_setFollow_70 rfl ?_
    refine pr_iload_n dX7_setFollow_71 rfl ?_
    refine zcv1i dX7_setFollow_72 pzm_7_67 pzt_X7_placeOf (rH_0 hj) (kX7_placeOf hj hs h1) (by decide) (Nat.le_of_ble_eq_true rfl) (by decide) ?_
    refine zcs1i dX7_setFollow_75 pzm_7_63 pzt_X7_at kX7_at (by decide) (Nat.le_of_ble_eq_true rfl) ?_
    refine zr_iconst dX7_setFollow_78 ?_
    refine zr_iadd dX7_setFollow_79 ?_
    refine pr_iload_n dX7_setFollow_80 rfl ?_
    refine zr_iast dX7_setFollow_81 (rH_1 hj) (by omega) (by decide) (rH_u1 hj) ?_
    refine pr_iload_n dX7_setFollow_82 rfl ?_
    exact pr_iret dX7_setFollow_83 rfl rfl (by first | exact zret rfl rfl | (exfalso; omega))
set_option maxRecDepth 100000 in
set_option maxHeartbeats 4000000 in
theorem kX7_setFollow_t1 (hj : oj 9 a) (hi : rI s) {cue t : Int} (h1 : zR cue) (h3 : zR t) (g1 : ¬ 0 ≤ rpl s cue) : pz_Cd en 4 136 [.ref (a 0), .int (zI cue), .int (zI t)] (rH h0 a s lv A F) 0 0 (pz_ret (some (.int (zI 0))) (rH h0 a s lv A (va_up F 7 1))) := by
  refine pz_in pzt_X7_setFollow ?_
  have hs := rI_B hi
  obtain ⟨hR, hs0, hs1, hs2, hs3⟩ := id hs
  obtain ⟨-, hq1, hq2, hq3, hq4, hq5, hq6, hq7, hq8, hq9, hq10, hq11, hq12, hq13⟩ := id hi
  refine pr_aload_n dX7_setFollow_0 rfl ?_
  refine pr_aload_n dX7_setFollow_1 rfl ?_
  refine pr_iload_n dX7_setFollow_2 rfl ?_
  refine zcv1i dX7_setFollow_3 pzm_7_74 pzt_X7_isCue (rH_0 hj) (kX7_isCue hj hs h1) (by decide) (Nat.le_of_ble_eq_true rfl) (by decide) ?_
  refine zr_if_ne (tgt := 13) dX7_setFollow_6 (by decide) (bI_R _) (fun c6 => by exfalso; have bb := bI_ne c6; omega) (fun c6 => ?_)
  have b6 := bI_0 c6
  refine zr_iconst dX7_setFollow_9 ?_
  refine pr_goto (tgt := 34) dX7_setFollow_10 (by decide) ?_
  refine pr_putf dX7_setFollow_34 pzf_7_42 (Or.inl rfl) (rH_0 hj) (Nat.le_of_ble_eq_true rfl) rfl rfl (rH_p7 hj) ?_
  refine pr_aload_n dX7_setFollow_37 rfl ?_
  refine pr_getf dX7_setFollow_38 pzf_7_42 (rH_0 hj) rfl ?_
  refine zr_if_le (tgt := 46) dX7_setFollow_41 (by decide) (show zR 1 by decide) (fun c41 => absurd c41 (show ¬ ((1 : Int) ≤ 0) by decide)) (fun c41 => ?_)
  refine zr_iconst dX7_setFollow_44 ?_
  exact pr_iret dX7_setFollow_45 rfl rfl (by first | exact zret rfl rfl | (exfalso; omega))
set_option maxRecDepth 100000 in
set_option maxHeartbeats 4000000 in
theorem kX7_setFollow_t2 (hj : oj 9 a) (hi : rI s) {cue t : Int} (h1 : zR cue) (h3 : zR t) (g1 : 0 ≤ rpl s cue) (g2 : ¬ (t = -1 ∨ (1 ≤ t ∧ t ≤ 6000))) : pz_Cd en 4 136 [.ref (a 0), .int (zI cue), .int (zI t)] (rH h0 a s lv A F) 0 0 (pz_ret (some (.int (zI 0))) (rH h0 a s lv A (va_up F 7 2))) := by
  refine pz_in pzt_X7_setFollow ?_
  have hs := rI_B hi
  obtain ⟨hR, hs0, hs1, hs2, hs3⟩ := id hs
  obtain ⟨-, hq1, hq2, hq3, hq4, hq5, hq6, hq7, hq8, hq9, hq10, hq11, hq12, hq13⟩ := id hi
  refine pr_aload_n dX7_setFollow_0 rfl ?_
  refine pr_aload_n dX7_setFollow_1 rfl ?_
  refine pr_iload_n dX7_setFollow_2 rfl ?_
  refine zcv1i dX7_setFollow_3 pzm_7_74 pzt_X7_isCue (rH_0 hj) (kX7_isCue hj hs h1) (by decide) (Nat.le_of_ble_eq_true rfl) (by decide) ?_
  refine zr_if_ne (tgt := 13) dX7_setFollow_6 (by decide) (bI_R _) (fun c6 => ?_) (fun c6 => by exfalso; have bb := bI_0 c6; omega)
  have b6 := bI_ne c6
  refine pr_iload_n dX7_setFollow_13 rfl ?_
  refine zr_iconst dX7_setFollow_14 ?_
  refine zr_icmp_eq (tgt := 33) dX7_setFollow_15 (by decide) (by first | exact hR _ | omega) (by first | exact hR _ | omega) (fun c15 => by exfalso; omega) (fun c15 => ?_)
  refine pr_iload_n dX7_setFollow_18 rfl ?_
  refine zr_iconst dX7_setFollow_19 ?_
  refine zr_sipush dX7_setFollow_20 (by decide) ?_
  refine zcs3i dX7_setFollow_23 pzm_7_70 pzt_X7_in (kX7_in (by omega) (by omega) (by omega)) (by decide) (Nat.le_of_ble_eq_true rfl) ?_
  refine zr_if_ne (tgt := 33) dX7_setFollow_26 (by decide) (bI_R _) (fun c26 => by exfalso; have bb := bI_ne c26; omega) (fun c26 => ?_)
  have b26 := bI_0 c26
  refine zr_iconst dX7_setFollow_29 ?_
  refine pr_goto (tgt := 34) dX7_setFollow_30 (by decide) ?_
  refine pr_putf dX7_setFollow_34 pzf_7_42 (Or.inl rfl) (rH_0 hj) (Nat.le_of_ble_eq_true rfl) rfl rfl (rH_p7 hj) ?_
  refine pr_aload_n dX7_setFollow_37 rfl ?_
  refine pr_getf dX7_setFollow_38 pzf_7_42 (rH_0 hj) rfl ?_
  refine zr_if_le (tgt := 46) dX7_setFollow_41 (by decide) (show zR 2 by decide) (fun c41 => absurd c41 (show ¬ ((2 : Int) ≤ 0) by decide)) (fun c41 => ?_)
  refine zr_iconst dX7_setFollow_44 ?_
  exact pr_iret dX7_setFollow_45 rfl rfl (by first | exact zret rfl rfl | (exfalso; omega))
set_option maxRecDepth 100000 in
set_option maxHeartbeats 4000000 in
theorem kX7_setProtected_k (hj : oj 9 a) (hi : rI s) {cue : Int} (h1 : zR cue) {v : Prop} [dv : Decidable v] (g1 : 0 ≤ rpl s cue) (p0 : 0 ≤ F 5) (p1 : F 5 ≤ 6) : pz_Cd en 4 140 [.ref (a 0), .int (zI cue), .int (zI (bI v))] (rH h0 a s lv A F) 0 0 (pz_ret (some (.int (zI (bI (s (18 + 12 * rpl s cue + 3) = 1))))) (rH h0 a (zu s (18 + 12 * rpl s cue + 3) (bI v)) lv (rcA s A F) (va_up (va_up F 7 0) 5 (hPn (F 5))))) := by
  refine pz_in pzt_X7_setProtected ?_
  have hs := rI_B hi
  obtain ⟨hR, hs0, hs1, hs2, hs3⟩ := id hs
  obtain ⟨-, hq1, hq2, hq3, hq4, hq5, hq6, hq7, hq8, hq9, hq10, hq11, hq12, hq13⟩ := id hi
  have hp := rpl_R hs cue
  refine pr_aload_n dX7_setProtected_0 rfl ?_
  refine pr_aload_n dX7_setProtected_1 rfl ?_
  refine pr_iload_n dX7_setProtected_2 rfl ?_
  refine zcv1i dX7_setProtected_3 pzm_7_74 pzt_X7_isCue (rH_0 hj) (kX7_isCue hj hs h1) (by decide) (Nat.le_of_ble_eq_true rfl) (by decide) ?_
  refine zr_if_eq (tgt := 13) dX7_setProtected_6 (by decide) (bI_R _) (fun c6 => by exfalso; have bb := bI_0 c6; omega) (fun c6 => ?_)
  have b6 := bI_ne c6
  refine zr_iconst dX7_setProtected_9 ?_
  refine pr_goto (tgt := 14) dX7_setProtected_10 (by decide) ?_
  refine pr_putf dX7_setProtected_14 pzf_7_42 (Or.inl rfl) (rH_0 hj) (Nat.le_of_ble_eq_true rfl) rfl rfl (rH_p7 hj) ?_
  refine pr_aload_n dX7_setProtected_17 rfl ?_
  refine pr_getf dX7_setProtected_18 pzf_7_42 (rH_0 hj) rfl ?_
  refine zr_if_le (tgt := 26) dX7_setProtected_21 (by decide) (show zR 0 by decide) (fun c21 => ?_) (fun c21 => absurd (show (0 : Int) ≤ 0 by decide) c21)
  refine pr_aload_n dX7_setProtected_26 rfl ?_
  refine zcv0u dX7_setProtected_27 pzm_7_81 pzt_X7_changes (rH_0 hj) (kX7_changes hj (by exact p0) (by exact p1)) (by decide) (Nat.le_of_ble_eq_true rfl) (by decide) ?_
  refine pr_aload_n dX7_setProtected_30 rfl ?_
  refine pr_iload_n dX7_setProtected_31 rfl ?_
  refine zcv1i dX7_setProtected_32 pzm_7_67 pzt_X7_placeOf (rH_0 hj) (kX7_placeOf hj hs h1) (by decide) (Nat.le_of_ble_eq_true rfl) (by decide) ?_
  refine zcs1i dX7_setProtected_35 pzm_7_63 pzt_X7_at kX7_at (by decide) (Nat.le_of_ble_eq_true rfl) ?_
  refine zr_iconst dX7_setProtected_38 ?_
  refine zr_iadd dX7_setProtected_39 ?_
  refine pr_istore_n dX7_setProtected_40 (by decide) rfl ?_
  refine pr_aload_n dX7_setProtected_41 rfl ?_
  refine pr_getf dX7_setProtected_42 pzf_7_9 (rH_0 hj) rfl ?_
  refine pr_iload_n dX7_setProtected_45 rfl ?_
  refine zr_iald dX7_setProtected_46 (rH_1 hj) (by omega) (by decide) ?_
  refine zr_iconst dX7_setProtected_47 ?_
  refine zr_icmp_ne (tgt := 55) dX7_setProtected_48 (by decide) (by first | exact hR _ | omega) (by first | exact hR _ | omega) (fun c48 => ?_) (fun c48 => ?_)
  · rw [show bI (s (18 + 12 * rpl s cue + 3) = 1) = 0 from bI_f c48]
    refine zr_iconst dX7_setProtected_55 ?_
    refine pr_istore dX7_setProtected_56 (by decide) rfl ?_
    refine pr_aload_n dX7_setProtected_58 rfl ?_
    refine pr_getf dX7_setProtected_59 pzf_7_9 (rH_0 hj) rfl ?_
    refine pr_iload_n dX7_setProtected_62 rfl ?_
    refine pr_iload_n dX7_setProtected_63 rfl ?_
    refine zr_if_eq (tgt := 71) dX7_setProtected_64 (by decide) (bI_R _) (fun c64 => ?_) (fun c64 => ?_)
    · rw [c64]
      refine zr_iconst dX7_setProtected_71 ?_
      refine zr_iast dX7_setProtected_72 (rH_1 hj) (by omega) (by decide) (rH_u1 hj) ?_
      refine pr_iload dX7_setProtected_73 rfl ?_
      exact pr_iret dX7_setProtected_75 rfl rfl (by first | exact zret rfl rfl | (exfalso; omega))
    · rw [show bI v = 1 from (bI_01 v).resolve_left c64]
      refine zr_iconst dX7_setProtected_67 ?_
      refine pr_goto (tgt := 72) dX7_setProtected_68 (by decide) ?_
      refine zr_iast dX7_setProtected_72 (rH_1 hj) (by omega) (by decide) (rH_u1 hj) ?_
      refine pr_iload dX7_setProtected_73 rfl ?_
      exact pr_iret dX7_setProtected_75 rfl rfl (by first | exact zret rfl rfl | (exfalso; omega))
  · rw [show bI (s (18 + 12 * rpl s cue + 3) = 1) = 1 from bI_t (by omega)]
    refine zr_iconst dX7_setProtected_51 ?_
    refine pr_goto (tgt := 56) dX7_setProtected_52 (by decide) ?_
    refine pr_istore dX7_setProtected_56 (by decide) rfl ?_
    refine pr_aload_n dX7_setProtected_58 rfl ?_
    refine pr_getf dX7_setProtected_59 pzf_7_9 (rH_0 hj) rfl ?_
    refine pr_iload_n dX7_setProtected_62 rfl ?_
    refine pr_iload_n dX7_setProtected_63 rfl ?_
    refine zr_if_eq (tgt := 71) dX7_setProtected_64 (by decide) (bI_R _) (fun c64 => ?_) (fun c64 => ?_)
    · rw [c64]
      refine zr_iconst dX7_setProtected_71 ?_
      refine zr_iast dX7_setProtected_72 (rH_1 hj) (by omega) (by decide) (rH_u1 hj) ?_
      refine pr_iload dX7_setProtected_73 rfl ?_
      exact pr_iret dX7_setProtected_75 rfl rfl (by first | exact zret rfl rfl | (exfalso; omega))
    · rw [show bI v = 1 from (bI_01 v).resolve_left c64]
      refine zr_iconst dX7_setProtected_67 ?_
      refine pr_goto (tgt := 72) dX7_setProtected_68 (by decide) ?_
      refine zr_iast dX7_setProtected_72 (rH_1 hj) (by omega) (by decide) (rH_u1 hj) ?_
      refine pr_iload dX7_setProtected_73 rfl ?_
      exact pr_iret dX7_setProtected_75 rfl rfl (by first | exact zret rfl rfl | (exfalso; omega))
set_option maxRecDepth 100000 in
set_option maxHeartbeats 4000000 in
theorem kX7_setProtected_t (hj : oj 9 a) (hi : rI s) {cue : Int} (h1 : zR cue) {v : Prop} [dv : Decidable v] (g1 : ¬ 0 ≤ rpl s cue) : pz_Cd en 4 140 [.ref (a 0), .int (zI cue), .int (zI (bI v))] (rH h0 a s lv A F) 0 0 (pz_ret (some (.int (zI 0))) (rH h0 a s lv A (va_up F 7 1))) := by
  refine pz_in pzt_X7_setProtected ?_
  have hs := rI_B hi
  obtain ⟨hR, hs0, hs1, hs2, hs3⟩ := id hs
  obtain ⟨-, hq1, hq2, hq3, hq4, hq5, hq6, hq7, hq8, hq9, hq10, hq11, hq12, hq13⟩ := id hi
  refine pr_aload_n dX7_setProtected_0 rfl ?_
  refine pr_aload_n dX7_setProtected_1 rfl ?_
  refine pr_iload_n dX7_setProtected_2 rfl ?_
  refine zcv1i dX7_setProtected_3 pzm_7_74 pzt_X7_isCue (rH_0 hj) (kX7_isCue hj hs h1) (by decide) (Nat.le_of_ble_eq_true rfl) (by decide) ?_
  refine zr_if_eq (tgt := 13) dX7_setProtected_6 (by decide) (bI_R _) (fun c6 => ?_) (fun c6 => by exfalso; have bb := bI_ne c6; omega)
  have b6 := bI_0 c6
  refine zr_iconst dX7_setProtected_13 ?_
  refine pr_putf dX7_setProtected_14 pzf_7_42 (Or.inl rfl) (rH_0 hj) (Nat.le_of_ble_eq_true rfl) rfl rfl (rH_p7 hj) ?_
  refine pr_aload_n dX7_setProtected_17 rfl ?_
  refine pr_getf dX7_setProtected_18 pzf_7_42 (rH_0 hj) rfl ?_
  refine zr_if_le (tgt := 26) dX7_setProtected_21 (by decide) (show zR 1 by decide) (fun c21 => absurd c21 (show ¬ ((1 : Int) ≤ 0) by decide)) (fun c21 => ?_)
  refine zr_iconst dX7_setProtected_24 ?_
  exact pr_iret dX7_setProtected_25 rfl rfl (by first | exact zret rfl rfl | (exfalso; omega))
set_option maxRecDepth 100000 in
set_option maxHeartbeats 4000000 in
theorem kX7_setHome_k (hj : oj 9 a) (hi : rI s) {ch v : Int} (h2 : zR ch) (h3 : zR v) (g1 : 0 ≤ ch ∧ ch ≤ 11) (g2 : 0 ≤ v ∧ v ≤ 100) (p0 : 0 ≤ F 5) (p1 : F 5 ≤ 6) : pz_Cd en 3 154 [.ref (a 0), .int (zI ch), .int (zI v)] (rH h0 a s lv A F) 0 0 (pz_ret (some (.int (zI (s (6 + ch))))) (rH h0 a (zu s (6 + ch) v) lv (rcA s A F) (va_up (va_up F 7 0) 5 (hPn (F 5))))) := by
  refine pz_in pzt_X7_setHome ?_
  have hs := rI_B hi
  obtain ⟨hR, hs0, hs1, hs2, hs3⟩ := id hs
  obtain ⟨-, hq1, hq2, hq3, hq4, hq5, hq6, hq7, hq8, hq9, hq10, hq11, hq12, hq13⟩ := id hi
  refine pr_aload_n dX7_setHome_0 rfl ?_
  refine pr_iload_n dX7_setHome_1 rfl ?_
  refine zcs1i dX7_setHome_2 pzm_7_122 pzt_X7_isChannel (kX7_isChannel h2) (by decide) (Nat.le_of_ble_eq_true rfl) ?_
  refine zr_if_ne (tgt := 12) dX7_setHome_5 (by decide) (bI_R _) (fun c5 => ?_) (fun c5 => by exfalso; have bb := bI_0 c5; omega)
  have b5 := bI_ne c5
  refine pr_iload_n dX7_setHome_12 rfl ?_
  refine zr_iconst dX7_setHome_13 ?_
  refine zr_bipush dX7_setHome_14 (by decide) ?_
  refine zcs3i dX7_setHome_16 pzm_7_70 pzt_X7_in (kX7_in (by omega) (by omega) (by omega)) (by decide) (Nat.le_of_ble_eq_true rfl) ?_
  refine zr_if_ne (tgt := 26) dX7_setHome_19 (by decide) (bI_R _) (fun c19 => ?_) (fun c19 => by exfalso; have bb := bI_0 c19; omega)
  have b19 := bI_ne c19
  refine zr_iconst dX7_setHome_26 ?_
  refine pr_putf dX7_setHome_27 pzf_7_42 (Or.inl rfl) (rH_0 hj) (Nat.le_of_ble_eq_true rfl) rfl rfl (rH_p7 hj) ?_
  refine pr_aload_n dX7_setHome_30 rfl ?_
  refine pr_getf dX7_setHome_31 pzf_7_42 (rH_0 hj) rfl ?_
  refine zr_if_le (tgt := 39) dX7_setHome_34 (by decide) (show zR 0 by decide) (fun c34 => ?_) (fun c34 => absurd (show (0 : Int) ≤ 0 by decide) c34)
  refine pr_aload_n dX7_setHome_39 rfl ?_
  refine zcv0u dX7_setHome_40 pzm_7_81 pzt_X7_changes (rH_0 hj) (kX7_changes hj (by exact p0) (by exact p1)) (by decide) (Nat.le_of_ble_eq_true rfl) (by decide) ?_
  refine pr_aload_n dX7_setHome_43 rfl ?_
  refine pr_getf dX7_setHome_44 pzf_7_9 (rH_0 hj) rfl ?_
  refine zr_bipush dX7_setHome_47 (by decide) ?_
  refine pr_iload_n dX7_setHome_49 rfl ?_
  refine zr_iadd dX7_setHome_50 ?_
  refine zr_iald dX7_setHome_51 (rH_1 hj) (by omega) (by decide) ?_
  refine pr_istore_n dX7_setHome_52 (by decide) rfl ?_
  refine pr_aload_n dX7_setHome_53 rfl ?_
  refine pr_getf dX7_setHome_54 pzf_7_9 (rH_0 hj) rfl ?_
  refine zr_bipush dX7_setHome_57 (by decide) ?_
  refine pr_iload_n dX7_setHome_59 rfl ?_
  refine zr_iadd dX7_setHome_60 ?_
  refine pr_iload_n dX7_setHome_61 rfl ?_
  refine zr_iast dX7_setHome_62 (rH_1 hj) (by omega) (by decide) (rH_u1 hj) ?_
  refine pr_iload_n dX7_setHome_63 rfl ?_
  exact pr_iret dX7_setHome_64 rfl rfl (by first | exact zret rfl rfl | (exfalso; omega))
set_option maxRecDepth 100000 in
set_option maxHeartbeats 4000000 in
theorem kX7_setHome_t1 (hj : oj 9 a) (hi : rI s) {ch v : Int} (h2 : zR ch) (h3 : zR v) (g1 : ¬ (0 ≤ ch ∧ ch ≤ 11)) : pz_Cd en 3 154 [.ref (a 0), .int (zI ch), .int (zI v)] (rH h0 a s lv A F) 0 0 (pz_ret (some (.int (zI 0))) (rH h0 a s lv A (va_up F 7 1))) := by
  refine pz_in pzt_X7_setHome ?_
  have hs := rI_B hi
  obtain ⟨hR, hs0, hs1, hs2, hs3⟩ := id hs
  obtain ⟨-, hq1, hq2, hq3, hq4, hq5, hq6, hq7, hq8, hq9, hq10, hq11, hq12, hq13⟩ := id hi
  refine pr_aload_n dX7_setHome_0 rfl ?_
  refine pr_iload_n dX7_setHome_1 rfl ?_
  refine zcs1i dX7_setHome_2 pzm_7_122 pzt_X7_isChannel (kX7_isChannel h2) (by decide) (Nat.le_of_ble_eq_true rfl) ?_
  refine zr_if_ne (tgt := 12) dX7_setHome_5 (by decide) (bI_R _) (fun c5 => by exfalso; have bb := bI_ne c5; omega) (fun c5 => ?_)
  have b5 := bI_0 c5
  refine zr_iconst dX7_setHome_8 ?_
  refine pr_goto (tgt := 27) dX7_setHome_9 (by decide) ?_
  refine pr_putf dX7_setHome_27 pzf_7_42 (Or.inl rfl) (rH_0 hj) (Nat.le_of_ble_eq_true rfl) rfl rfl (rH_p7 hj) ?_
  refine pr_aload_n dX7_setHome_30 rfl ?_
  refine pr_getf dX7_setHome_31 pzf_7_42 (rH_0 hj) rfl ?_
  refine zr_if_le (tgt := 39) dX7_setHome_34 (by decide) (show zR 1 by decide) (fun c34 => absurd c34 (show ¬ ((1 : Int) ≤ 0) by decide)) (fun c34 => ?_)
  refine zr_iconst dX7_setHome_37 ?_
  exact pr_iret dX7_setHome_38 rfl rfl (by first | exact zret rfl rfl | (exfalso; omega))
set_option maxRecDepth 100000 in
set_option maxHeartbeats 4000000 in
theorem kX7_setHome_t2 (hj : oj 9 a) (hi : rI s) {ch v : Int} (h2 : zR ch) (h3 : zR v) (g1 : 0 ≤ ch ∧ ch ≤ 11) (g2 : ¬ (0 ≤ v ∧ v ≤ 100)) : pz_Cd en 3 154 [.ref (a 0), .int (zI ch), .int (zI v)] (rH h0 a s lv A F) 0 0 (pz_ret (some (.int (zI 0))) (rH h0 a s lv A (va_up F 7 2))) := by
  refine pz_in pzt_X7_setHome ?_
  have hs := rI_B hi
  obtain ⟨hR, hs0, hs1, hs2, hs3⟩ := id hs
  obtain ⟨-, hq1, hq2, hq3, hq4, hq5, hq6, hq7, hq8, hq9, hq10, hq11, hq12, hq13⟩ := id hi
  refine pr_aload_n dX7_setHome_0 rfl ?_
  refine pr_iload_n dX7_setHome_1 rfl ?_
  refine zcs1i dX7_setHome_2 pzm_7_122 pzt_X7_isChannel (kX7_isChannel h2) (by decide) (Nat.le_of_ble_eq_true rfl) ?_
  refine zr_if_ne (tgt := 12) dX7_setHome_5 (by decide) (bI_R _) (fun c5 => ?_) (fun c5 => by exfalso; have bb := bI_0 c5; omega)
  have b5 := bI_ne c5
  refine pr_iload_n dX7_setHome_12 rfl ?_
  refine zr_iconst dX7_setHome_13 ?_
  refine zr_bipush dX7_setHome_14 (by decide) ?_
  refine zcs3i dX7_setHome_16 pzm_7_70 pzt_X7_in (kX7_in (by omega) (by omega) (by omega)) (by decide) (Nat.le_of_ble_eq_true rfl) ?_
  refine zr_if_ne (tgt := 26) dX7_setHome_19 (by decide) (bI_R _) (fun c19 => by exfalso; have bb := bI_ne c19; omega) (fun c19 => ?_)
  have b19 := bI_0 c19
  refine zr_iconst dX7_setHome_22 ?_
  refine pr_goto (tgt := 27) dX7_setHome_23 (by decide) ?_
  refine pr_putf dX7_setHome_27 pzf_7_42 (Or.inl rfl) (rH_0 hj) (Nat.le_of_ble_eq_true rfl) rfl rfl (rH_p7 hj) ?_
  refine pr_aload_n dX7_setHome_30 rfl ?_
  refine pr_getf dX7_setHome_31 pzf_7_42 (rH_0 hj) rfl ?_
  refine zr_if_le (tgt := 39) dX7_setHome_34 (by decide) (show zR 2 by decide) (fun c34 => absurd c34 (show ¬ ((2 : Int) ≤ 0) by decide)) (fun c34 => ?_)
  refine zr_iconst dX7_setHome_37 ?_
  exact pr_iret dX7_setHome_38 rfl rfl (by first | exact zret rfl rfl | (exfalso; omega))
set_option maxRecDepth 100000 in
set_option maxHeartbeats 4000000 in
theorem kX7_setPart_k (hj : oj 9 a) (hi : rI s) {cue pt v : Int} (h1 : zR cue) (h2 : zR pt) (h3 : zR v) {dl : Prop} [dd : Decidable dl] (g1 : 0 ≤ rpl s cue ∧ 0 ≤ pt ∧ pt ≤ 3) (g2 : 0 ≤ v ∧ v ≤ 600) (p0 : 0 ≤ F 5) (p1 : F 5 ≤ 6) : pz_Cd en 4 142 [.ref (a 0), .int (zI cue), .int (zI pt), .int (zI (bI dl)), .int (zI v)] (rH h0 a s lv A F) 0 0 (pz_ret (some (.int (zI (s (18 + 12 * rpl s cue + 4 + 2 * pt + (if dl then 0 else 1)))))) (rH h0 a (zu s (18 + 12 * rpl s cue + 4 + 2 * pt + (if dl then 0 else 1)) v) lv (rcA s A F) (va_up (va_up F 7 0) 5 (hPn (F 5))))) := by
  refine pz_in pzt_X7_setPart ?_
  have hs := rI_B hi
  obtain ⟨hR, hs0, hs1, hs2, hs3⟩ := id hs
  obtain ⟨-, hq1, hq2, hq3, hq4, hq5, hq6, hq7, hq8, hq9, hq10, hq11, hq12, hq13⟩ := id hi
  have hp := rpl_R hs cue
  have hd : 0 ≤ (if dl then (0 : Int) else 1) ∧ (if dl then (0 : Int) else 1) ≤ 1 := by split <;> decide
  refine pr_aload_n dX7_setPart_0 rfl ?_
  refine pr_aload_n dX7_setPart_1 rfl ?_
  refine pr_iload_n dX7_setPart_2 rfl ?_
  refine zcv1i dX7_setPart_3 pzm_7_74 pzt_X7_isCue (rH_0 hj) (kX7_isCue hj hs h1) (by decide) (Nat.le_of_ble_eq_true rfl) (by decide) ?_
  refine zr_if_eq (tgt := 16) dX7_setPart_6 (by decide) (bI_R _) (fun c6 => by exfalso; have bb := bI_0 c6; omega) (fun c6 => ?_)
  have b6 := bI_ne c6
  refine pr_iload_n dX7_setPart_9 rfl ?_
  refine zcs1i dX7_setPart_10 pzm_7_91 pzt_X7_isPart (kX7_isPart h2) (by decide) (Nat.le_of_ble_eq_true rfl) ?_
  refine zr_if_ne (tgt := 20) dX7_setPart_13 (by decide) (bI_R _) (fun c13 => ?_) (fun c13 => by exfalso; have bb := bI_0 c13; omega)
  have b13 := bI_ne c13
  refine pr_iload dX7_setPart_20 rfl ?_
  refine zr_iconst dX7_setPart_22 ?_
  refine zr_sipush dX7_setPart_23 (by decide) ?_
  refine zcs3i dX7_setPart_26 pzm_7_70 pzt_X7_in (kX7_in (by omega) (by omega) (by omega)) (by decide) (Nat.le_of_ble_eq_true rfl) ?_
  refine zr_if_ne (tgt := 36) dX7_setPart_29 (by decide) (bI_R _) (fun c29 => ?_) (fun c29 => by exfalso; have bb := bI_0 c29; omega)
  have b29 := bI_ne c29
  refine zr_iconst dX7_setPart_36 ?_
  refine pr_putf dX7_setPart_37 pzf_7_42 (Or.inl rfl) (rH_0 hj) (Nat.le_of_ble_eq_true rfl) rfl rfl (rH_p7 hj) ?_
  refine pr_aload_n dX7_setPart_40 rfl ?_
  refine pr_getf dX7_setPart_41 pzf_7_42 (rH_0 hj) rfl ?_
  refine zr_if_le (tgt := 49) dX7_setPart_44 (by decide) (show zR 0 by decide) (fun c44 => ?_) (fun c44 => absurd (show (0 : Int) ≤ 0 by decide) c44)
  refine pr_aload_n dX7_setPart_49 rfl ?_
  refine zcv0u dX7_setPart_50 pzm_7_81 pzt_X7_changes (rH_0 hj) (kX7_changes hj (by exact p0) (by exact p1)) (by decide) (Nat.le_of_ble_eq_true rfl) (by decide) ?_
  refine pr_aload_n dX7_setPart_53 rfl ?_
  refine pr_iload_n dX7_setPart_54 rfl ?_
  refine pr_iload_n dX7_setPart_55 rfl ?_
  refine pr_iload_n dX7_setPart_56 rfl ?_
  refine zcv3i dX7_setPart_57 pzm_7_94 pzt_X7_partAt (rH_0 hj) (kX7_partAt hj hs h1) (by decide) (Nat.le_of_ble_eq_true rfl) (by decide) ?_
  refine pr_istore dX7_setPart_60 (by decide) rfl ?_
  refine pr_aload_n dX7_setPart_62 rfl ?_
  refine pr_getf dX7_setPart_63 pzf_7_9 (rH_0 hj) rfl ?_
  refine pr_iload dX7_setPart_66 rfl ?_
  refine zr_iald dX7_setPart_68 (rH_1 hj) (by omega) (by decide) ?_
  refine pr_istore dX7_setPart_69 (by decide) rfl ?_
  refine pr_aload_n dX7_setPart_71 rfl ?_
  refine pr_getf dX7_setPart_72 pzf_7_9 (rH_0 hj) rfl ?_
  refine pr_iload dX7_setPart_75 rfl ?_
  refine pr_iload dX7_setPart_77 rfl ?_
  refine zr_iast dX7_setPart_79 (rH_1 hj) (by omega) (by decide) (rH_u1 hj) ?_
  refine pr_iload dX7_setPart_80 rfl ?_
  exact pr_iret dX7_setPart_82 rfl rfl (by first | exact zret rfl rfl | (exfalso; omega))
set_option maxRecDepth 100000 in
set_option maxHeartbeats 4000000 in
theorem kX7_setPart_t1 (hj : oj 9 a) (hi : rI s) {cue pt v : Int} (h1 : zR cue) (h2 : zR pt) (h3 : zR v) {dl : Prop} [dd : Decidable dl] (g1 : ¬ (0 ≤ rpl s cue ∧ 0 ≤ pt ∧ pt ≤ 3)) : pz_Cd en 4 142 [.ref (a 0), .int (zI cue), .int (zI pt), .int (zI (bI dl)), .int (zI v)] (rH h0 a s lv A F) 0 0 (pz_ret (some (.int (zI 0))) (rH h0 a s lv A (va_up F 7 1))) := by
  refine pz_in pzt_X7_setPart ?_
  have hs := rI_B hi
  obtain ⟨hR, hs0, hs1, hs2, hs3⟩ := id hs
  obtain ⟨-, hq1, hq2, hq3, hq4, hq5, hq6, hq7, hq8, hq9, hq10, hq11, hq12, hq13⟩ := id hi
  refine pr_aload_n dX7_setPart_0 rfl ?_
  refine pr_aload_n dX7_setPart_1 rfl ?_
  refine pr_iload_n dX7_setPart_2 rfl ?_
  refine zcv1i dX7_setPart_3 pzm_7_74 pzt_X7_isCue (rH_0 hj) (kX7_isCue hj hs h1) (by decide) (Nat.le_of_ble_eq_true rfl) (by decide) ?_
  refine zr_if_eq (tgt := 16) dX7_setPart_6 (by decide) (bI_R _) (fun c6 => ?_) (fun c6 => ?_)
  · have b6 := bI_0 c6
    refine zr_iconst dX7_setPart_16 ?_
    refine pr_goto (tgt := 37) dX7_setPart_17 (by decide) ?_
    refine pr_putf dX7_setPart_37 pzf_7_42 (Or.inl rfl) (rH_0 hj) (Nat.le_of_ble_eq_true rfl) rfl rfl (rH_p7 hj) ?_
    refine pr_aload_n dX7_setPart_40 rfl ?_
    refine pr_getf dX7_setPart_41 pzf_7_42 (rH_0 hj) rfl ?_
    refine zr_if_le (tgt := 49) dX7_setPart_44 (by decide) (show zR 1 by decide) (fun c44 => absurd c44 (show ¬ ((1 : Int) ≤ 0) by decide)) (fun c44 => ?_)
    refine zr_iconst dX7_setPart_47 ?_
    exact pr_iret dX7_setPart_48 rfl rfl (by first | exact zret rfl rfl | (exfalso; omega))
  · have b6 := bI_ne c6
    refine pr_iload_n dX7_setPart_9 rfl ?_
    refine zcs1i dX7_setPart_10 pzm_7_91 pzt_X7_isPart (kX7_isPart h2) (by decide) (Nat.le_of_ble_eq_true rfl) ?_
    refine zr_if_ne (tgt := 20) dX7_setPart_13 (by decide) (bI_R _) (fun c13 => by exfalso; have bb := bI_ne c13; omega) (fun c13 => ?_)
    have b13 := bI_0 c13
    refine zr_iconst dX7_setPart_16 ?_
    refine pr_goto (tgt := 37) dX7_setPart_17 (by decide) ?_
    refine pr_putf dX7_setPart_37 pzf_7_42 (Or.inl rfl) (rH_0 hj) (Nat.le_of_ble_eq_true rfl) rfl rfl (rH_p7 hj) ?_
    refine pr_aload_n dX7_setPart_40 rfl ?_
    refine pr_getf dX7_setPart_41 pzf_7_42 (rH_0 hj) rfl ?_
    refine zr_if_le (tgt := 49) dX7_setPart_44 (by decide) (show zR 1 by decide) (fun c44 => absurd c44 (show ¬ ((1 : Int) ≤ 0) by decide)) (fun c44 => ?_)
    refine zr_iconst dX7_setPart_47 ?_
    exact pr_iret dX7_setPart_48 rfl rfl (by first | exact zret rfl rfl | (exfalso; omega))
set_option maxRecDepth 100000 in
set_option maxHeartbeats 4000000 in
theorem kX7_setPart_t2 (hj : oj 9 a) (hi : rI s) {cue pt v : Int} (h1 : zR cue) (h2 : zR pt) (h3 : zR v) {dl : Prop} [dd : Decidable dl] (g1 : 0 ≤ rpl s cue ∧ 0 ≤ pt ∧ pt ≤ 3) (g2 : ¬ (0 ≤ v ∧ v ≤ 600)) : pz_Cd en 4 142 [.ref (a 0), .int (zI cue), .int (zI pt), .int (zI (bI dl)), .int (zI v)] (rH h0 a s lv A F) 0 0 (pz_ret (some (.int (zI 0))) (rH h0 a s lv A (va_up F 7 2))) := by
  refine pz_in pzt_X7_setPart ?_
  have hs := rI_B hi
  obtain ⟨hR, hs0, hs1, hs2, hs3⟩ := id hs
  obtain ⟨-, hq1, hq2, hq3, hq4, hq5, hq6, hq7, hq8, hq9, hq10, hq11, hq12, hq13⟩ := id hi
  refine pr_aload_n dX7_setPart_0 rfl ?_
  refine pr_aload_n dX7_setPart_1 rfl ?_
  refine pr_iload_n dX7_setPart_2 rfl ?_
  refine zcv1i dX7_setPart_3 pzm_7_74 pzt_X7_isCue (rH_0 hj) (kX7_isCue hj hs h1) (by decide) (Nat.le_of_ble_eq_true rfl) (by decide) ?_
  refine zr_if_eq (tgt := 16) dX7_setPart_6 (by decide) (bI_R _) (fun c6 => by exfalso; have bb := bI_0 c6; omega) (fun c6 => ?_)
  have b6 := bI_ne c6
  refine pr_iload_n dX7_setPart_9 rfl ?_
  refine zcs1i dX7_setPart_10 pzm_7_91 pzt_X7_isPart (kX7_isPart h2) (by decide) (Nat.le_of_ble_eq_true rfl) ?_
  refine zr_if_ne (tgt := 20) dX7_setPart_13 (by decide) (bI_R _) (fun c13 => ?_) (fun c13 => by exfalso; have bb := bI_0 c13; omega)
  have b13 := bI_ne c13
  refine pr_iload dX7_setPart_20 rfl ?_
  refine zr_iconst dX7_setPart_22 ?_
  refine zr_sipush dX7_setPart_23 (by decide) ?_
  refine zcs3i dX7_setPart_26 pzm_7_70 pzt_X7_in (kX7_in (by omega) (by omega) (by omega)) (by decide) (Nat.le_of_ble_eq_true rfl) ?_
  refine zr_if_ne (tgt := 36) dX7_setPart_29 (by decide) (bI_R _) (fun c29 => by exfalso; have bb := bI_ne c29; omega) (fun c29 => ?_)
  have b29 := bI_0 c29
  refine zr_iconst dX7_setPart_32 ?_
  refine pr_goto (tgt := 37) dX7_setPart_33 (by decide) ?_
  refine pr_putf dX7_setPart_37 pzf_7_42 (Or.inl rfl) (rH_0 hj) (Nat.le_of_ble_eq_true rfl) rfl rfl (rH_p7 hj) ?_
  refine pr_aload_n dX7_setPart_40 rfl ?_
  refine pr_getf dX7_setPart_41 pzf_7_42 (rH_0 hj) rfl ?_
  refine zr_if_le (tgt := 49) dX7_setPart_44 (by decide) (show zR 2 by decide) (fun c44 => absurd c44 (show ¬ ((2 : Int) ≤ 0) by decide)) (fun c44 => ?_)
  refine zr_iconst dX7_setPart_47 ?_
  exact pr_iret dX7_setPart_48 rfl rfl (by first | exact zret rfl rfl | (exfalso; omega))
end ref
