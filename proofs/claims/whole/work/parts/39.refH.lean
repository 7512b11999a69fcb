/-! the reference: its face, what changes -/
theorem rGh_B {s lv : Int → Int} (hs : rB s) (hL : ∀ i, zR (lv i)) {cue ch lev part : Int} (h1 : zR cue) (h2 : zR ch) (h3 : zR lev) (h4 : zR part) (hd : Prop) [Decidable hd] : rB (rGh s lv cue ch lev part hd).2.1 ∧ ∀ i, zR ((rGh s lv cue ch lev part hd).2.2 i) := by
  have hK := rkl_R hs hL (12 * s 0)
  unfold rGh
  split
  · exact ⟨hs, hL⟩
  · split
    · split
      · exact ⟨hs, hK⟩
      · exact ⟨hs, hK⟩
    · rename_i g
      have hB := rgi_B hs (cue := cue) (ch := ch) (lev := lev) (part := part) h1 h2 h3 h4 (by have := hs.2.2.2.2; omega)
      split
      · exact ⟨(rhd_B hB hK _ _).1, hK⟩
      · exact ⟨hB, hK⟩
theorem rTh_B {s lv : Int → Int} (hs : rB s) (hL : ∀ i, zR (lv i)) (cue ch : Int) (hd : Prop) [Decidable hd] : rB (rTh s lv cue ch hd).2.1 ∧ ∀ i, zR ((rTh s lv cue ch hd).2.2 i) := by
  have hK := rkl_R hs hL (12 * s 0)
  have hg := rgv_R hs cue ch
  unfold rTh
  split
  · exact ⟨hs, hL⟩
  · split
    · exact ⟨hs, hL⟩
    · have hB := rta_B hs (k := rgv s cue ch) (by omega) (by omega)
      split
      · exact ⟨(rhd_B hB hK _ _).1, hK⟩
      · exact ⟨hB, hK⟩
theorem rTh_c (s lv : Int → Int) (cue ch : Int) (hd : Prop) [Decidable hd] : 0 ≤ (rTh s lv cue ch hd).1 ∧ (rTh s lv cue ch hd).1 ≤ 3 := by
  unfold rTh
  split
  · simp
  · split
    · simp
    · split
      · have := rhd_c (rta s (rgv s cue ch)) (rkl s lv (12 * s 0)) (rpl s cue + 1) (rpl s cue + 1)
        exact ⟨this.1, by show (rhd _ _ _ _).1 ≤ 3; omega⟩
      · simp
section ref
variable {en : pz_Env} {h0 : pz_H} {a : Nat → Nat} {s lv : Int → Int} {A : Nat → Int → Int} {F : Nat → Int}
set_option maxRecDepth 100000 in
set_option maxHeartbeats 4000000 in
theorem kX7_set_k (hj : oj 9 a) (hi : rI s) (hL : ∀ i, zR (lv i)) {cue ch lev part : Int} (h1 : zR cue) (h2 : zR ch) (h3 : zR lev) (h4 : zR part) {hd : Prop} [dd : Decidable hd] (g1 : 0 ≤ rpl s cue) (g2 : 0 ≤ ch ∧ ch ≤ 11) (g3 : 0 ≤ part ∧ part ≤ 3) (g4 : 0 ≤ lev ∧ lev ≤ 100) (hz : (rGh s lv cue ch lev part hd).1 = 0) (p0 : 0 ≤ F 5) (p1 : F 5 ≤ 6) : pz_Cd en 8 161 [.ref (a 0), .int (zI cue), .int (zI ch), .int (zI lev), .int (zI part), .int (zI (bI hd))] (rH h0 a s lv A F) 0 0 (pz_ret (some (.int (zI (zsum (fun k => bI (¬ rlv (rGh s lv cue ch lev part hd).2.1 k ch = (rGh s lv cue ch lev part hd).2.2 (12 * k + ch))) ((rGh s lv cue ch lev part hd).2.1 0).toNat)))) (rH h0 a (rGh s lv cue ch lev part hd).2.1 (rGh s lv cue ch lev part hd).2.2 (rcA s A F) (va_up (va_up F 7 0) 5 (hPn (F 5))))) := by
  refine pz_in pzt_X7_set ?_
  have hs := rI_B hi
  obtain ⟨hR, hs0, hs1, hs2, hs3⟩ := id hs
  obtain ⟨-, hq1, hq2, hq3, hq4, hq5, hq6, hq7, hq8, hq9, hq10, hq11, hq12, hq13⟩ := id hi
  have hB := rGh_B hs hL h1 h2 h3 h4 hd
  have hc := rGh_c s lv cue ch lev part hd
  refine pr_aload_n dX7_set_0 rfl ?_
  refine pr_aload_n dX7_set_1 rfl ?_
  refine pr_iload_n dX7_set_2 rfl ?_
  refine zcv1i dX7_set_3 pzm_7_74 pzt_X7_isCue (rH_0 hj) (kX7_isCue hj hs h1) (by decide) (Nat.le_of_ble_eq_true rfl) (by decide) ?_
  refine zr_if_eq (tgt := 24) dX7_set_6 (by decide) (bI_R _) (fun c6 => by exfalso; have bb := bI_0 c6; omega) (fun c6 => ?_)
  have b6 := bI_ne c6
  refine pr_iload_n dX7_set_9 rfl ?_
  refine zcs1i dX7_set_10 pzm_7_122 pzt_X7_isChannel (kX7_isChannel h2) (by decide) (Nat.le_of_ble_eq_true rfl) ?_
  refine zr_if_eq (tgt := 24) dX7_set_13 (by decide) (bI_R _) (fun c13 => by exfalso; have bb := bI_0 c13; omega) (fun c13 => ?_)
  have b13 := bI_ne c13
  refine pr_iload dX7_set_16 rfl ?_
  refine zcs1i dX7_set_18 pzm_7_91 pzt_X7_isPart (kX7_isPart h4) (by decide) (Nat.le_of_ble_eq_true rfl) ?_
  refine zr_if_ne (tgt := 28) dX7_set_21 (by decide) (bI_R _) (fun c21 => ?_) (fun c21 => by exfalso; have bb := bI_0 c21; omega)
  have b21 := bI_ne c21
  refine pr_iload_n dX7_set_28 rfl ?_
  refine zr_iconst dX7_set_29 ?_
  refine zr_bipush dX7_set_30 (by decide) ?_
  refine zcs3i dX7_set_32 pzm_7_70 pzt_X7_in (kX7_in (by omega) (by omega) (by omega)) (by decide) (Nat.le_of_ble_eq_true rfl) ?_
  refine zr_if_ne (tgt := 42) dX7_set_35 (by decide) (bI_R _) (fun c35 => ?_) (fun c35 => by exfalso; have bb := bI_0 c35; omega)
  have b35 := bI_ne c35
  refine zr_iconst dX7_set_42 ?_
  refine pr_putf dX7_set_43 pzf_7_42 (Or.inl rfl) (rH_0 hj) (Nat.le_of_ble_eq_true rfl) rfl rfl (rH_p7 hj) ?_
  refine pr_aload_n dX7_set_46 rfl ?_
  refine pr_getf dX7_set_47 pzf_7_42 (rH_0 hj) rfl ?_
  refine zr_if_le (tgt := 55) dX7_set_50 (by decide) (show zR 0 by decide) (fun c50 => ?_) (fun c50 => absurd (show (0 : Int) ≤ 0 by decide) c50)
  refine pr_aload_n dX7_set_55 rfl ?_
  refine zcv0u dX7_set_56 pzm_7_54 pzt_X7_keepState (rH_0 hj) (kX7_keepState hj) (by decide) (Nat.le_of_ble_eq_true rfl) (by decide) ?_
  refine pr_aload_n dX7_set_59 rfl ?_
  refine pr_iload_n dX7_set_60 rfl ?_
  refine pr_iload_n dX7_set_61 rfl ?_
  refine pr_iload_n dX7_set_62 rfl ?_
  refine pr_iload dX7_set_63 rfl ?_
  refine pr_iload dX7_set_65 rfl ?_
  refine zcv5i dX7_set_67 pzm_7_142 pzt_X7_doGive (rH_0 hj) (kX7_doGive hj hs hL h1 g1 g2.1 g2.2 h3 h4) (by decide) (Nat.le_of_ble_eq_true rfl) (by decide) ?_
  first | rw [if_neg (by omega), if_neg (by omega)] | skip
  refine zr_if_le (tgt := 80) dX7_set_70 (by decide) (by omega) (fun c70 => ?_) (fun c70 => by exfalso; omega)
  refine pr_aload_n dX7_set_80 rfl ?_
  refine zcv0u dX7_set_81 pzm_7_57 pzt_X7_change (rH_0 hj) (kX7_change hj (by exact p0) (by exact p1)) (by decide) (Nat.le_of_ble_eq_true rfl) (by decide) ?_
  refine pr_aload_n dX7_set_84 rfl ?_
  refine pr_iload_n dX7_set_85 rfl ?_
  refine zcv1i dX7_set_86 pzm_7_145 pzt_X7_changed (rH_0 hj) (kX7_changed hj hB.1 hB.2 (by omega) (by omega)) (by decide) (Nat.le_of_ble_eq_true rfl) (by decide) ?_
  exact pr_iret dX7_set_89 rfl rfl (by first | exact zret rfl rfl | (exfalso; omega))
set_option maxRecDepth 100000 in
set_option maxHeartbeats 4000000 in
theorem kX7_set_r (hj : oj 9 a) (hi : rI s) (hL : ∀ i, zR (lv i)) {cue ch lev part : Int} (h1 : zR cue) (h2 : zR ch) (h3 : zR lev) (h4 : zR part) {hd : Prop} [dd : Decidable hd] (g1 : 0 ≤ rpl s cue) (g2 : 0 ≤ ch ∧ ch ≤ 11) (g3 : 0 ≤ part ∧ part ≤ 3) (g4 : 0 ≤ lev ∧ lev ≤ 100) (hz : 0 < (rGh s lv cue ch lev part hd).1) : pz_Cd en 8 161 [.ref (a 0), .int (zI cue), .int (zI ch), .int (zI lev), .int (zI part), .int (zI (bI hd))] (rH h0 a s lv A F) 0 0 (pz_ret (some (.int (zI 0))) (rH h0 a (zcpy (rcB s A) (rGh s lv cue ch lev part hd).2.1 0 0 462) (rGh s lv cue ch lev part hd).2.2 (va_up A 2 (rcB s A)) (va_up (va_up (va_up F 7 0) 6 (rGh s lv cue ch lev part hd).1) 7 3))) := by
  refine pz_in pzt_X7_set ?_
  have hs := rI_B hi
  obtain ⟨hR, hs0, hs1, hs2, hs3⟩ := id hs
  obtain ⟨-, hq1, hq2, hq3, hq4, hq5, hq6, hq7, hq8, hq9, hq10, hq11, hq12, hq13⟩ := id hi
  have hB := rGh_B hs hL h1 h2 h3 h4 hd
  have hc := rGh_c s lv cue ch lev part hd
  refine pr_aload_n dX7_set_0 rfl ?_
  refine pr_aload_n dX7_set_1 rfl ?_
  refine pr_iload_n dX7_set_2 rfl ?_
  refine zcv1i dX7_set_3 pzm_7_74 pzt_X7_isCue (rH_0 hj) (kX7_isCue hj hs h1) (by decide) (Nat.le_of_ble_eq_true rfl) (by decide) ?_
  refine zr_if_eq (tgt := 24) dX7_set_6 (by decide) (bI_R _) (fun c6 => by exfalso; have bb := bI_0 c6; omega) (fun c6 => ?_)
  have b6 := bI_ne c6
  refine pr_iload_n dX7_set_9 rfl ?_
  refine zcs1i dX7_set_10 pzm_7_122 pzt_X7_isChannel (kX7_isChannel h2) (by decide) (Nat.le_of_ble_eq_true rfl) ?_
  refine zr_if_eq (tgt := 24) dX7_set_13 (by decide) (bI_R _) (fun c13 => by exfalso; have bb := bI_0 c13; omega) (fun c13 => ?_)
  have b13 := bI_ne c13
  refine pr_iload dX7_set_16 rfl ?_
  refine zcs1i dX7_set_18 pzm_7_91 pzt_X7_isPart (kX7_isPart h4) (by decide) (Nat.le_of_ble_eq_true rfl) ?_
  refine zr_if_ne (tgt := 28) dX7_set_21 (by decide) (bI_R _) (fun c21 => ?_) (fun c21 => by exfalso; have bb := bI_0 c21; omega)
  have b21 := bI_ne c21
  refine pr_iload_n dX7_set_28 rfl ?_
  refine zr_iconst dX7_set_29 ?_
  refine zr_bipush dX7_set_30 (by decide) ?_
  refine zcs3i dX7_set_32 pzm_7_70 pzt_X7_in (kX7_in (by omega) (by omega) (by omega)) (by decide) (Nat.le_of_ble_eq_true rfl) ?_
  refine zr_if_ne (tgt := 42) dX7_set_35 (by decide) (bI_R _) (fun c35 => ?_) (fun c35 => by exfalso; have bb := bI_0 c35; omega)
  have b35 := bI_ne c35
  refine zr_iconst dX7_set_42 ?_
  refine pr_putf dX7_set_43 pzf_7_42 (Or.inl rfl) (rH_0 hj) (Nat.le_of_ble_eq_true rfl) rfl rfl (rH_p7 hj) ?_
  refine pr_aload_n dX7_set_46 rfl ?_
  refine pr_getf dX7_set_47 pzf_7_42 (rH_0 hj) rfl ?_
  refine zr_if_le (tgt := 55) dX7_set_50 (by decide) (show zR 0 by decide) (fun c50 => ?_) (fun c50 => absurd (show (0 : Int) ≤ 0 by decide) c50)
  refine pr_aload_n dX7_set_55 rfl ?_
  refine zcv0u dX7_set_56 pzm_7_54 pzt_X7_keepState (rH_0 hj) (kX7_keepState hj) (by decide) (Nat.le_of_ble_eq_true rfl) (by decide) ?_
  refine pr_aload_n dX7_set_59 rfl ?_
  refine pr_iload_n dX7_set_60 rfl ?_
  refine pr_iload_n dX7_set_61 rfl ?_
  refine pr_iload_n dX7_set_62 rfl ?_
  refine pr_iload dX7_set_63 rfl ?_
  refine pr_iload dX7_set_65 rfl ?_
  refine zcv5i dX7_set_67 pzm_7_142 pzt_X7_doGive (rH_0 hj) (kX7_doGive hj hs hL h1 g1 g2.1 g2.2 h3 h4) (by decide) (Nat.le_of_ble_eq_true rfl) (by decide) ?_
  rw [if_pos hz, if_pos hz]
  refine zr_if_le (tgt := 80) dX7_set_70 (by decide) (by omega) (fun c70 => by exfalso; omega) (fun c70 => ?_)
  refine pr_aload_n dX7_set_73 rfl ?_
  refine zr_iconst dX7_set_74 ?_
  refine pr_putf dX7_set_75 pzf_7_42 (Or.inl rfl) (rH_0 hj) (Nat.le_of_ble_eq_true rfl) rfl rfl (rH_p7 hj) ?_
  refine zr_iconst dX7_set_78 ?_
  exact pr_iret dX7_set_79 rfl rfl (by first | exact zret rfl rfl | (exfalso; omega))
set_option maxRecDepth 100000 in
set_option maxHeartbeats 4000000 in
theorem kX7_set_t1 (hj : oj 9 a) (hi : rI s) (hL : ∀ i, zR (lv i)) {cue ch lev part : Int} (h1 : zR cue) (h2 : zR ch) (h3 : zR lev) (h4 : zR part) {hd : Prop} [dd : Decidable hd] (g1 : ¬ (0 ≤ rpl s cue ∧ (0 ≤ ch ∧ ch ≤ 11) ∧ 0 ≤ part ∧ part ≤ 3)) : pz_Cd en 8 161 [.ref (a 0), .int (zI cue), .int (zI ch), .int (zI lev), .int (zI part), .int (zI (bI hd))] (rH h0 a s lv A F) 0 0 (pz_ret (some (.int (zI 0))) (rH h0 a s lv A (va_up F 7 1))) := by
  refine pz_in pzt_X7_set ?_
  have hs := rI_B hi
  obtain ⟨hR, hs0, hs1, hs2, hs3⟩ := id hs
  obtain ⟨-, hq1, hq2, hq3, hq4, hq5, hq6, hq7, hq8, hq9, hq10, hq11, hq12, hq13⟩ := id hi
  refine pr_aload_n dX7_set_0 rfl ?_
  refine pr_aload_n dX7_set_1 rfl ?_
  refine pr_iload_n dX7_set_2 rfl ?_
  refine zcv1i dX7_set_3 pzm_7_74 pzt_X7_isCue (rH_0 hj) (kX7_isCue hj hs h1) (by decide) (Nat.le_of_ble_eq_true rfl) (by decide) ?_
  refine zr_if_eq (tgt := 24) dX7_set_6 (by decide) (bI_R _) (fun c6 => ?_) (fun c6 => ?_)
  · have b6 := bI_0 c6
    refine zr_iconst dX7_set_24 ?_
    refine pr_goto (tgt := 43) dX7_set_25 (by decide) ?_
    refine pr_putf dX7_set_43 pzf_7_42 (Or.inl rfl) (rH_0 hj) (Nat.le_of_ble_eq_true rfl) rfl rfl (rH_p7 hj) ?_
    refine pr_aload_n dX7_set_46 rfl ?_
    refine pr_getf dX7_set_47 pzf_7_42 (rH_0 hj) rfl ?_
    refine zr_if_le (tgt := 55) dX7_set_50 (by decide) (show zR 1 by decide) (fun c50 => absurd c50 (show ¬ ((1 : Int) ≤ 0) by decide)) (fun c50 => ?_)
    refine zr_iconst dX7_set_53 ?_
    exact pr_iret dX7_set_54 rfl rfl (by first | exact zret rfl rfl | (exfalso; omega))
  · have b6 := bI_ne c6
    refine pr_iload_n dX7_set_9 rfl ?_
    refine zcs1i dX7_set_10 pzm_7_122 pzt_X7_isChannel (kX7_isChannel h2) (by decide) (Nat.le_of_ble_eq_true rfl) ?_
    refine zr_if_eq (tgt := 24) dX7_set_13 (by decide) (bI_R _) (fun c13 => ?_) (fun c13 => ?_)
    · have b13 := bI_0 c13
      refine zr_iconst dX7_set_24 ?_
      refine pr_goto (tgt := 43) dX7_set_25 (by decide) ?_
      refine pr_putf dX7_set_43 pzf_7_42 (Or.inl rfl) (rH_0 hj) (Nat.le_of_ble_eq_true rfl) rfl rfl (rH_p7 hj) ?_
      refine pr_aload_n dX7_set_46 rfl ?_
      refine pr_getf dX7_set_47 pzf_7_42 (rH_0 hj) rfl ?_
      refine zr_if_le (tgt := 55) dX7_set_50 (by decide) (show zR 1 by decide) (fun c50 => absurd c50 (show ¬ ((1 : Int) ≤ 0) by decide)) (fun c50 => ?_)
      refine zr_iconst dX7_set_53 ?_
      exact pr_iret dX7_set_54 rfl rfl (by first | exact zret rfl rfl | (exfalso; omega))
    · have b13 := bI_ne c13
      refine pr_iload dX7_set_16 rfl ?_
      refine zcs1i dX7_set_18 pzm_7_91 pzt_X7_isPart (kX7_isPart h4) (by decide) (Nat.le_of_ble_eq_true rfl) ?_
      refine zr_if_ne (tgt := 28) dX7_set_21 (by decide) (bI_R _) (fun c21 => by exfalso; have bb := bI_ne c21; omega) (fun c21 => ?_)
      have b21 := bI_0 c21
      refine zr_iconst dX7_set_24 ?_
      refine pr_goto (tgt := 43) dX7_set_25 (by decide) ?_
      refine pr_putf dX7_set_43 pzf_7_42 (Or.inl rfl) (rH_0 hj) (Nat.le_of_ble_eq_true rfl) rfl rfl (rH_p7 hj) ?_
      refine pr_aload_n dX7_set_46 rfl ?_
      refine pr_getf dX7_set_47 pzf_7_42 (rH_0 hj) rfl ?_
      refine zr_if_le (tgt := 55) dX7_set_50 (by decide) (show zR 1 by decide) (fun c50 => absurd c50 (show ¬ ((1 : Int) ≤ 0) by decide)) (fun c50 => ?_)
      refine zr_iconst dX7_set_53 ?_
      exact pr_iret dX7_set_54 rfl rfl (by first | exact zret rfl rfl | (exfalso; omega))
set_option maxRecDepth 100000 in
set_option maxHeartbeats 4000000 in
theorem kX7_set_t2 (hj : oj 9 a) (hi : rI s) (hL : ∀ i, zR (lv i)) {cue ch lev part : Int} (h1 : zR cue) (h2 : zR ch) (h3 : zR lev) (h4 : zR part) {hd : Prop} [dd : Decidable hd] (g1 : 0 ≤ rpl s cue ∧ (0 ≤ ch ∧ ch ≤ 11) ∧ 0 ≤ part ∧ part ≤ 3) (g2 : ¬ (0 ≤ lev ∧ lev ≤ 100)) : pz_Cd en 8 161 [.ref (a 0), .int (zI cue), .int (zI ch), .int (zI lev), .int (zI part), .int (zI (bI hd))] (rH h0 a s lv A F) 0 0 (pz_ret (some (.int (zI 0))) (rH h0 a s lv A (va_up F 7 2))) := by
  refine pz_in pzt_X7_set ?_
  have hs := rI_B hi
  obtain ⟨hR, hs0, hs1, hs2, hs3⟩ := id hs
  obtain ⟨-, hq1, hq2, hq3, hq4, hq5, hq6, hq7, hq8, hq9, hq10, hq11, hq12, hq13⟩ := id hi
  refine pr_aload_n dX7_set_0 rfl ?_
  refine pr_aload_n dX7_set_1 rfl ?_
  refine pr_iload_n dX7_set_2 rfl ?_
  refine zcv1i dX7_set_3 pzm_7_74 pzt_X7_isCue (rH_0 hj) (kX7_isCue hj hs h1) (by decide) (Nat.le_of_ble_eq_true rfl) (by decide) ?_
  refine zr_if_eq (tgt := 24) dX7_set_6 (by decide) (bI_R _) (fun c6 => by exfalso; have bb := bI_0 c6; omega) (fun c6 => ?_)
  have b6 := bI_ne c6
  refine pr_iload_n dX7_set_9 rfl ?_
  refine zcs1i dX7_set_10 pzm_7_122 pzt_X7_isChannel (kX7_isChannel h2) (by decide) (Nat.le_of_ble_eq_true rfl) ?_
  refine zr_if_eq (tgt := 24) dX7_set_13 (by decide) (bI_R _) (fun c13 => by exfalso; have bb := bI_0 c13; omega) (fun c13 => ?_)
  have b13 := bI_ne c13
  refine pr_iload dX7_set_16 rfl ?_
  refine zcs1i dX7_set_18 pzm_7_91 pzt_X7_isPart (kX7_isPart h4) (by decide) (Nat.le_of_ble_eq_true rfl) ?_
  refine zr_if_ne (tgt := 28) dX7_set_21 (by decide) (bI_R _) (fun c21 => ?_) (fun c21 => by exfalso; have bb := bI_0 c21; omega)
  have b21 := bI_ne c21
  refine pr_iload_n dX7_set_28 rfl ?_
  refine zr_iconst dX7_set_29 ?_
  refine zr_bipush dX7_set_30 (by decide) ?_
  refine zcs3i dX7_set_32 pzm_7_70 pzt_X7_in (kX7_in (by omega) (by omega) (by omega)) (by decide) (Nat.le_of_ble_eq_true rfl) ?_
  refine zr_if_ne (tgt := 42) dX7_set_35 (by decide) (bI_R _) (fun c35 => by exfalso; have bb := bI_ne c35; omega) (fun c35 => ?_)
  have b35 := bI_0 c35
  refine zr_iconst dX7_set_38 ?_
  refine pr_goto (tgt := 43) dX7_set_39 (by decide) ?_
  refine pr_putf dX7_set_43 pzf_7_42 (Or.inl rfl) (rH_0 hj) (Nat.le_of_ble_eq_true rfl) rfl rfl (rH_p7 hj) ?_
  refine pr_aload_n dX7_set_46 rfl ?_
  refine pr_getf dX7_set_47 pzf_7_42 (rH_0 hj) rfl ?_
  refine zr_if_le (tgt := 55) dX7_set_50 (by decide) (show zR 2 by decide) (fun c50 => absurd c50 (show ¬ ((2 : Int) ≤ 0) by decide)) (fun c50 => ?_)
  refine zr_iconst dX7_set_53 ?_
  exact pr_iret dX7_set_54 rfl rfl (by first | exact zret rfl rfl | (exfalso; omega))
set_option maxRecDepth 100000 in
set_option maxHeartbeats 4000000 in
theorem kX7_release_k (hj : oj 9 a) (hi : rI s) (hL : ∀ i, zR (lv i)) {cue ch part : Int} (h1 : zR cue) (h2 : zR ch) (h4 : zR part) {hd : Prop} [dd : Decidable hd] (g1 : 0 ≤ rpl s cue) (g2 : 0 ≤ ch ∧ ch ≤ 11) (g3 : 0 ≤ part ∧ part ≤ 3) (hz : (rGh s lv cue ch (-1) part hd).1 = 0) (p0 : 0 ≤ F 5) (p1 : F 5 ≤ 6) : pz_Cd en 8 162 [.ref (a 0), .int (zI cue), .int (zI ch), .int (zI part), .int (zI (bI hd))] (rH h0 a s lv A F) 0 0 (pz_ret (some (.int (zI (zsum (fun k => bI (¬ rlv (rGh s lv cue ch (-1) part hd).2.1 k ch = (rGh s lv cue ch (-1) part hd).2.2 (12 * k + ch))) ((rGh s lv cue ch (-1) part hd).2.1 0).toNat)))) (rH h0 a (rGh s lv cue ch (-1) part hd).2.1 (rGh s lv cue ch (-1) part hd).2.2 (rcA s A F) (va_up (va_up F 7 0) 5 (hPn (F 5))))) := by
  refine pz_in pzt_X7_release ?_
  have hs := rI_B hi
  obtain ⟨hR, hs0, hs1, hs2, hs3⟩ := id hs
  obtain ⟨-, hq1, hq2, hq3, hq4, hq5, hq6, hq7, hq8, hq9, hq10, hq11, hq12, hq13⟩ := id hi
  have hB := rGh_B hs hL h1 h2 (show zR (-1) by decide) h4 hd
  have hc := rGh_c s lv cue ch (-1) part hd
  refine pr_aload_n dX7_release_0 rfl ?_
  refine pr_aload_n dX7_release_1 rfl ?_
  refine pr_iload_n dX7_release_2 rfl ?_
  refine zcv1i dX7_release_3 pzm_7_74 pzt_X7_isCue (rH_0 hj) (kX7_isCue hj hs h1) (by decide) (Nat.le_of_ble_eq_true rfl) (by decide) ?_
  refine zr_if_eq (tgt := 27) dX7_release_6 (by decide) (bI_R _) (fun c6 => by exfalso; have bb := bI_0 c6; omega) (fun c6 => ?_)
  have b6 := bI_ne c6
  refine pr_iload_n dX7_release_9 rfl ?_
  refine zcs1i dX7_release_10 pzm_7_122 pzt_X7_isChannel (kX7_isChannel h2) (by decide) (Nat.le_of_ble_eq_true rfl) ?_
  refine zr_if_eq (tgt := 27) dX7_release_13 (by decide) (bI_R _) (fun c13 => by exfalso; have bb := bI_0 c13; omega) (fun c13 => ?_)
  have b13 := bI_ne c13
  refine pr_iload_n dX7_release_16 rfl ?_
  refine zcs1i dX7_release_17 pzm_7_91 pzt_X7_isPart (kX7_isPart h4) (by decide) (Nat.le_of_ble_eq_true rfl) ?_
  refine zr_if_eq (tgt := 27) dX7_release_20 (by decide) (bI_R _) (fun c20 => by exfalso; have bb := bI_0 c20; omega) (fun c20 => ?_)
  have b20 := bI_ne c20
  refine zr_iconst dX7_release_23 ?_
  refine pr_goto (tgt := 28) dX7_release_24 (by decide) ?_
  refine pr_putf dX7_release_28 pzf_7_42 (Or.inl rfl) (rH_0 hj) (Nat.le_of_ble_eq_true rfl) rfl rfl (rH_p7 hj) ?_
  refine pr_aload_n dX7_release_31 rfl ?_
  refine pr_getf dX7_release_32 pzf_7_42 (rH_0 hj) rfl ?_
  refine zr_if_le (tgt := 40) dX7_release_35 (by decide) (show zR 0 by decide) (fun c35 => ?_) (fun c35 => absurd (show (0 : Int) ≤ 0 by decide) c35)
  refine pr_aload_n dX7_release_40 rfl ?_
  refine zcv0u dX7_release_41 pzm_7_54 pzt_X7_keepState (rH_0 hj) (kX7_keepState hj) (by decide) (Nat.le_of_ble_eq_true rfl) (by decide) ?_
  refine pr_aload_n dX7_release_44 rfl ?_
  refine pr_iload_n dX7_release_45 rfl ?_
  refine pr_iload_n dX7_release_46 rfl ?_
  refine zr_iconst dX7_release_47 ?_
  refine pr_iload_n dX7_release_48 rfl ?_
  refine pr_iload dX7_release_49 rfl ?_
  refine zcv5i dX7_release_51 pzm_7_142 pzt_X7_doGive (rH_0 hj) (kX7_doGive hj hs hL h1 g1 g2.1 g2.2 (by decide) h4) (by decide) (Nat.le_of_ble_eq_true rfl) (by decide) ?_
  first | rw [if_neg (by omega), if_neg (by omega)] | skip
  refine zr_if_le (tgt := 64) dX7_release_54 (by decide) (by omega) (fun c54 => ?_) (fun c54 => by exfalso; omega)
  refine pr_aload_n dX7_release_64 rfl ?_
  refine zcv0u dX7_release_65 pzm_7_57 pzt_X7_change (rH_0 hj) (kX7_change hj (by exact p0) (by exact p1)) (by decide) (Nat.le_of_ble_eq_true rfl) (by decide) ?_
  refine pr_aload_n dX7_release_68 rfl ?_
  refine pr_iload_n dX7_release_69 rfl ?_
  refine zcv1i dX7_release_70 pzm_7_145 pzt_X7_changed (rH_0 hj) (kX7_changed hj hB.1 hB.2 (by omega) (by omega)) (by decide) (Nat.le_of_ble_eq_true rfl) (by decide) ?_
  exact pr_iret dX7_release_73 rfl rfl (by first | exact zret rfl rfl | (exfalso; omega))
set_option maxRecDepth 100000 in
set_option maxHeartbeats 4000000 in
theorem kX7_release_r (hj : oj 9 a) (hi : rI s) (hL : ∀ i, zR (lv i)) {cue ch part : Int} (h1 : zR cue) (h2 : zR ch) (h4 : zR part) {hd : Prop} [dd : Decidable hd] (g1 : 0 ≤ rpl s cue) (g2 : 0 ≤ ch ∧ ch ≤ 11) (g3 : 0 ≤ part ∧ part ≤ 3) (hz : 0 < (rGh s lv cue ch (-1) part hd).1) : pz_Cd en 8 162 [.ref (a 0), .int (zI cue), .int (zI ch), .int (zI part), .int (zI (bI hd))] (rH h0 a s lv A F) 0 0 (pz_ret (some (.int (zI 0))) (rH h0 a (zcpy (rcB s A) (rGh s lv cue ch (-1) part hd).2.1 0 0 462) (rGh s lv cue ch (-1) part hd).2.2 (va_up A 2 (rcB s A)) (va_up (va_up (va_up F 7 0) 6 (rGh s lv cue ch (-1) part hd).1) 7 2))) := by
  refine pz_in pzt_X7_release ?_
  have hs := rI_B hi
  obtain ⟨hR, hs0, hs1, hs2, hs3⟩ := id hs
  obtain ⟨-, hq1, hq2, hq3, hq4, hq5, hq6, hq7, hq8, hq9, hq10, hq11, hq12, hq13⟩ := id hi
  have hB := rGh_B hs hL h1 h2 (show zR (-1) by decide) h4 hd
  have hc := rGh_c s lv cue ch (-1) part hd
  refine pr_aload_n dX7_release_0 rfl ?_
  refine pr_aload_n dX7_release_1 rfl ?_
  refine pr_iload_n dX7_release_2 rfl ?_
  refine zcv1i dX7_release_3 pzm_7_74 pzt_X7_isCue (rH_0 hj) (kX7_isCue hj hs h1) (by decide) (Nat.le_of_ble_eq_true rfl) (by decide) ?_
  refine zr_if_eq (tgt := 27) dX7_release_6 (by decide) (bI_R _) (fun c6 => by exfalso; have bb := bI_0 c6; omega) (fun c6 => ?_)
  have b6 := bI_ne c6
  refine pr_iload_n dX7_release_9 rfl ?_
  refine zcs1i dX7_release_10 pzm_7_122 pzt_X7_isChannel (kX7_isChannel h2) (by decide) (Nat.le_of_ble_eq_true rfl) ?_
  refine zr_if_eq (tgt := 27) dX7_release_13 (by decide) (bI_R _) (fun c13 => by exfalso; have bb := bI_0 c13; omega) (fun c13 => ?_)
  have b13 := bI_ne c13
  refine pr_iload_n dX7_release_16 rfl ?_
  refine zcs1i dX7_release_17 pzm_7_91 pzt_X7_isPart (kX7_isPart h4) (by decide) (Nat.le_of_ble_eq_true rfl) ?_
  refine zr_if_eq (tgt := 27) dX7_release_20 (by decide) (bI_R _) (fun c20 => by exfalso; have bb := bI_0 c20; omega) (fun c20 => ?_)
  have b20 := bI_ne c20
  refine zr_iconst dX7_release_23 ?_
  refine pr_goto (tgt := 28) dX7_release_24 (by decide) ?_
  refine pr_putf dX7_release_28 pzf_7_42 (Or.inl rfl) (rH_0 hj) (Nat.le_of_ble_eq_true rfl) rfl rfl (rH_p7 hj) ?_
  refine pr_aload_n dX7_release_31 rfl ?_
  refine pr_getf dX7_release_32 pzf_7_42 (rH_0 hj) rfl ?_
  refine zr_if_le (tgt := 40) dX7_release_35 (by decide) (show zR 0 by decide) (fun c35 => ?_) (fun c35 => absurd (show (0 : Int) ≤ 0 by decide) c35)
  refine pr_aload_n dX7_release_40 rfl ?_
  refine zcv0u dX7_release_41 pzm_7_54 pzt_X7_keepState (rH_0 hj) (kX7_keepState hj) (by decide) (Nat.le_of_ble_eq_true rfl) (by decide) ?_
  refine pr_aload_n dX7_release_44 rfl ?_
  refine pr_iload_n dX7_release_45 rfl ?_
  refine pr_iload_n dX7_release_46 rfl ?_
  refine zr_iconst dX7_release_47 ?_
  refine pr_iload_n dX7_release_48 rfl ?_
  refine pr_iload dX7_release_49 rfl ?_
  refine zcv5i dX7_release_51 pzm_7_142 pzt_X7_doGive (rH_0 hj) (kX7_doGive hj hs hL h1 g1 g2.1 g2.2 (by decide) h4) (by decide) (Nat.le_of_ble_eq_true rfl) (by decide) ?_
  rw [if_pos hz, if_pos hz]
  refine zr_if_le (tgt := 64) dX7_release_54 (by decide) (by omega) (fun c54 => by exfalso; omega) (fun c54 => ?_)
  refine pr_aload_n dX7_release_57 rfl ?_
  refine zr_iconst dX7_release_58 ?_
  refine pr_putf dX7_release_59 pzf_7_42 (Or.inl rfl) (rH_0 hj) (Nat.le_of_ble_eq_true rfl) rfl rfl (rH_p7 hj) ?_
  refine zr_iconst dX7_release_62 ?_
  exact pr_iret dX7_release_63 rfl rfl (by first | exact zret rfl rfl | (exfalso; omega))
set_option maxRecDepth 100000 in
set_option maxHeartbeats 4000000 in
theorem kX7_release_t (hj : oj 9 a) (hi : rI s) (hL : ∀ i, zR (lv i)) {cue ch part : Int} (h1 : zR cue) (h2 : zR ch) (h4 : zR part) {hd : Prop} [dd : Decidable hd] (g1 : ¬ (0 ≤ rpl s cue ∧ (0 ≤ ch ∧ ch ≤ 11) ∧ 0 ≤ part ∧ part ≤ 3)) : pz_Cd en 8 162 [.ref (a 0), .int (zI cue), .int (zI ch), .int (zI part), .int (zI (bI hd))] (rH h0 a s lv A F) 0 0 (pz_ret (some (.int (zI 0))) (rH h0 a s lv A (va_up F 7 1))) := by
  refine pz_in pzt_X7_release ?_
  have hs := rI_B hi
  obtain ⟨hR, hs0, hs1, hs2, hs3⟩ := id hs
  obtain ⟨-, hq1, hq2, hq3, hq4, hq5, hq6, hq7, hq8, hq9, hq10, hq11, hq12, hq13⟩ := id hi
  refine pr_aload_n dX7_release_0 rfl ?_
  refine pr_aload_n dX7_release_1 rfl ?_
  refine pr_iload_n dX7_release_2 rfl ?_
  refine zcv1i dX7_release_3 pzm_7_74 pzt_X7_isCue (rH_0 hj) (kX7_isCue hj hs h1) (by decide) (Nat.le_of_ble_eq_true rfl) (by decide) ?_
  refine zr_if_eq (tgt := 27) dX7_release_6 (by decide) (bI_R _) (fun c6 => ?_) (fun c6 => ?_)
  · have b6 := bI_0 c6
    refine zr_iconst dX7_release_27 ?_
    refine pr_putf dX7_release_28 pzf_7_42 (Or.inl rfl) (rH_0 hj) (Nat.le_of_ble_eq_true rfl) rfl rfl (rH_p7 hj) ?_
    refine pr_aload_n dX7_release_31 rfl ?_
    refine pr_getf dX7_release_32 pzf_7_42 (rH_0 hj) rfl ?_
    refine zr_if_le (tgt := 40) dX7_release_35 (by decide) (show zR 1 by decide) (fun c35 => absurd c35 (show ¬ ((1 : Int) ≤ 0) by decide)) (fun c35 => ?_)
    refine zr_iconst dX7_release_38 ?_
    exact pr_iret dX7_release_39 rfl rfl (by first | exact zret rfl rfl | (exfalso; omega))
  · have b6 := bI_ne c6
    refine pr_iload_n dX7_release_9 rfl ?_
    refine zcs1i dX7_release_10 pzm_7_122 pzt_X7_isChannel (kX7_isChannel h2) (by decide) (Nat.le_of_ble_eq_true rfl) ?_
    refine zr_if_eq (tgt := 27) dX7_release_13 (by decide) (bI_R _) (fun c13 => ?_) (fun c13 => ?_)
    · have b13 := bI_0 c13
      refine zr_iconst dX7_release_27 ?_
      refine pr_putf dX7_release_28 pzf_7_42 (Or.inl rfl) (rH_0 hj) (Nat.le_of_ble_eq_true rfl) rfl rfl (rH_p7 hj) ?_
      refine pr_aload_n dX7_release_31 rfl ?_
      refine pr_getf dX7_release_32 pzf_7_42 (rH_0 hj) rfl ?_
      refine zr_if_le (tgt := 40) dX7_release_35 (by decide) (show zR 1 by decide) (fun c35 => absurd c35 (show ¬ ((1 : Int) ≤ 0) by decide)) (fun c35 => ?_)
      refine zr_iconst dX7_release_38 ?_
      exact pr_iret dX7_release_39 rfl rfl (by first | exact zret rfl rfl | (exfalso; omega))
    · have b13 := bI_ne c13
      refine pr_iload_n dX7_release_16 rfl ?_
      refine zcs1i dX7_release_17 pzm_7_91 pzt_X7_isPart (kX7_isPart h4) (by decide) (Nat.le_of_ble_eq_true rfl) ?_
      refine zr_if_eq (tgt := 27) dX7_release_20 (by decide) (bI_R _) (fun c20 => ?_) (fun c20 => by exfalso; have bb := bI_ne c20; omega)
      have b20 := bI_0 c20
      refine zr_iconst dX7_release_27 ?_
      refine pr_putf dX7_release_28 pzf_7_42 (Or.inl rfl) (rH_0 hj) (Nat.le_of_ble_eq_true rfl) rfl rfl (rH_p7 hj) ?_
      refine pr_aload_n dX7_release_31 rfl ?_
      refine pr_getf dX7_release_32 pzf_7_42 (rH_0 hj) rfl ?_
      refine zr_if_le (tgt := 40) dX7_release_35 (by decide) (show zR 1 by decide) (fun c35 => absurd c35 (show ¬ ((1 : Int) ≤ 0) by decide)) (fun c35 => ?_)
      refine zr_iconst dX7_release_38 ?_
      exact pr_iret dX7_release_39 rfl rfl (by first | exact zret rfl rfl | (exfalso; omega))
set_option maxRecDepth 100000 in
set_option maxHeartbeats 4000000 in
theorem kX7_unset_k (hj : oj 9 a) (hi : rI s) (hL : ∀ i, zR (lv i)) {cue ch : Int} (h1 : zR cue) (h2 : zR ch) {hd : Prop} [dd : Decidable hd] (g1 : 0 ≤ rpl s cue) (g2 : 0 ≤ ch ∧ ch ≤ 11) (hz : (rTh s lv cue ch hd).1 = 0) (p0 : 0 ≤ F 5) (p1 : F 5 ≤ 6) : pz_Cd en 8 164 [.ref (a 0), .int (zI cue), .int (zI ch), .int (zI (bI hd))] (rH h0 a s lv A F) 0 0 (pz_ret (some (.int (zI (zsum (fun k => bI (¬ rlv (rTh s lv cue ch hd).2.1 k ch = (rTh s lv cue ch hd).2.2 (12 * k + ch))) ((rTh s lv cue ch hd).2.1 0).toNat)))) (rH h0 a (rTh s lv cue ch hd).2.1 (rTh s lv cue ch hd).2.2 (rcA s A F) (va_up (va_up F 7 0) 5 (hPn (F 5))))) := by
  refine pz_in pzt_X7_unset ?_
  have hs := rI_B hi
  obtain ⟨hR, hs0, hs1, hs2, hs3⟩ := id hs
  obtain ⟨-, hq1, hq2, hq3, hq4, hq5, hq6, hq7, hq8, hq9, hq10, hq11, hq12, hq13⟩ := id hi
  have hB := rTh_B hs hL cue ch hd
  have hc := rTh_c s lv cue ch hd
  refine pr_aload_n dX7_unset_0 rfl ?_
  refine pr_aload_n dX7_unset_1 rfl ?_
  refine pr_iload_n dX7_unset_2 rfl ?_
  refine zcv1i dX7_unset_3 pzm_7_74 pzt_X7_isCue (rH_0 hj) (kX7_isCue hj hs h1) (by decide) (Nat.le_of_ble_eq_true rfl) (by decide) ?_
  refine zr_if_eq (tgt := 20) dX7_unset_6 (by decide) (bI_R _) (fun c6 => by exfalso; have bb := bI_0 c6; omega) (fun c6 => ?_)
  have b6 := bI_ne c6
  refine pr_iload_n dX7_unset_9 rfl ?_
  refine zcs1i dX7_unset_10 pzm_7_122 pzt_X7_isChannel (kX7_isChannel h2) (by decide) (Nat.le_of_ble_eq_true rfl) ?_
  refine zr_if_eq (tgt := 20) dX7_unset_13 (by decide) (bI_R _) (fun c13 => by exfalso; have bb := bI_0 c13; omega) (fun c13 => ?_)
  have b13 := bI_ne c13
  refine zr_iconst dX7_unset_16 ?_
  refine pr_goto (tgt := 21) dX7_unset_17 (by decide) ?_
  refine pr_putf dX7_unset_21 pzf_7_42 (Or.inl rfl) (rH_0 hj) (Nat.le_of_ble_eq_true rfl) rfl rfl (rH_p7 hj) ?_
  refine pr_aload_n dX7_unset_24 rfl ?_
  refine pr_getf dX7_unset_25 pzf_7_42 (rH_0 hj) rfl ?_
  refine zr_if_le (tgt := 33) dX7_unset_28 (by decide) (show zR 0 by decide) (fun c28 => ?_) (fun c28 => absurd (show (0 : Int) ≤ 0 by decide) c28)
  refine pr_aload_n dX7_unset_33 rfl ?_
  refine zcv0u dX7_unset_34 pzm_7_54 pzt_X7_keepState (rH_0 hj) (kX7_keepState hj) (by decide) (Nat.le_of_ble_eq_true rfl) (by decide) ?_
  refine pr_aload_n dX7_unset_37 rfl ?_
  refine pr_iload_n dX7_unset_38 rfl ?_
  refine pr_iload_n dX7_unset_39 rfl ?_
  refine pr_iload_n dX7_unset_40 rfl ?_
  refine zcv3i dX7_unset_41 pzm_7_152 pzt_X7_takeHeld (rH_0 hj) (kX7_takeHeld hj hs hL h1 g1 g2.1 g2.2) (by decide) (Nat.le_of_ble_eq_true rfl) (by decide) ?_
  
  refine pr_istore dX7_unset_44 (by decide) rfl ?_
  refine pr_iload dX7_unset_46 rfl ?_
  refine zr_if_le (tgt := 65) dX7_unset_48 (by decide) (by omega) (fun c48 => ?_) (fun c48 => by exfalso; omega)
  refine pr_aload_n dX7_unset_65 rfl ?_
  refine zcv0u dX7_unset_66 pzm_7_57 pzt_X7_change (rH_0 hj) (kX7_change hj (by exact p0) (by exact p1)) (by decide) (Nat.le_of_ble_eq_true rfl) (by decide) ?_
  refine pr_aload_n dX7_unset_69 rfl ?_
  refine pr_iload_n dX7_unset_70 rfl ?_
  refine zcv1i dX7_unset_71 pzm_7_145 pzt_X7_changed (rH_0 hj) (kX7_changed hj hB.1 hB.2 (by omega) (by omega)) (by decide) (Nat.le_of_ble_eq_true rfl) (by decide) ?_
  exact pr_iret dX7_unset_74 rfl rfl (by first | exact zret rfl rfl | (exfalso; omega))
set_option maxRecDepth 100000 in
set_option maxHeartbeats 4000000 in
theorem kX7_unset_r (hj : oj 9 a) (hi : rI s) (hL : ∀ i, zR (lv i)) {cue ch : Int} (h1 : zR cue) (h2 : zR ch) {hd : Prop} [dd : Decidable hd] (g1 : 0 ≤ rpl s cue) (g2 : 0 ≤ ch ∧ ch ≤ 11) (hz : 0 < (rTh s lv cue ch hd).1) : pz_Cd en 8 164 [.ref (a 0), .int (zI cue), .int (zI ch), .int (zI (bI hd))] (rH h0 a s lv A F) 0 0 (pz_ret (some (.int (zI 0))) (rH h0 a (zcpy (rcB s A) (rTh s lv cue ch hd).2.1 0 0 462) (rTh s lv cue ch hd).2.2 (va_up A 2 (rcB s A)) (va_up (va_up (va_up F 7 0) 6 (rTh s lv cue ch hd).1) 7 2))) := by
  refine pz_in pzt_X7_unset ?_
  have hs := rI_B hi
  obtain ⟨hR, hs0, hs1, hs2, hs3⟩ := id hs
  obtain ⟨-, hq1, hq2, hq3, hq4, hq5, hq6, hq7, hq8, hq9, hq10, hq11, hq12, hq13⟩ := id hi
  have hB := rTh_B hs hL cue ch hd
  have hc := rTh_c s lv cue ch hd
  refine pr_aload_n dX7_unset_0 rfl ?_
  refine pr_aload_n dX7_unset_1 rfl ?_
  refine pr_iload_n dX7_unset_2 rfl ?_
  refine zcv1i dX7_unset_3 pzm_7_74 pzt_X7_isCue (rH_0 hj) (kX7_isCue hj hs h1) (by decide) (Nat.le_of_ble_eq_true rfl) (by decide) ?_
  refine zr_if_eq (tgt := 20) dX7_unset_6 (by decide) (bI_R _) (fun c6 => by exfalso; have bb := bI_0 c6; omega) (fun c6 => ?_)
  have b6 := bI_ne c6
  refine pr_iload_n dX7_unset_9 rfl ?_
  refine zcs1i dX7_unset_10 pzm_7_122 pzt_X7_isChannel (kX7_isChannel h2) (by decide) (Nat.le_of_ble_eq_true rfl) ?_
  refine zr_if_eq (tgt := 20) dX7_unset_13 (by decide) (bI_R _) (fun c13 => by exfalso; have bb := bI_0 c13; omega) (fun c13 => ?_)
  have b13 := bI_ne c13
  refine zr_iconst dX7_unset_16 ?_
  refine pr_goto (tgt := 21) dX7_unset_17 (by decide) ?_
  refine pr_putf dX7_unset_21 pzf_7_42 (Or.inl rfl) (rH_0 hj) (Nat.le_of_ble_eq_true rfl) rfl rfl (rH_p7 hj) ?_
  refine pr_aload_n dX7_unset_24 rfl ?_
  refine pr_getf dX7_unset_25 pzf_7_42 (rH_0 hj) rfl ?_
  refine zr_if_le (tgt := 33) dX7_unset_28 (by decide) (show zR 0 by decide) (fun c28 => ?_) (fun c28 => absurd (show (0 : Int) ≤ 0 by decide) c28)
  refine pr_aload_n dX7_unset_33 rfl ?_
  refine zcv0u dX7_unset_34 pzm_7_54 pzt_X7_keepState (rH_0 hj) (kX7_keepState hj) (by decide) (Nat.le_of_ble_eq_true rfl) (by decide) ?_
  refine pr_aload_n dX7_unset_37 rfl ?_
  refine pr_iload_n dX7_unset_38 rfl ?_
  refine pr_iload_n dX7_unset_39 rfl ?_
  refine pr_iload_n dX7_unset_40 rfl ?_
  refine zcv3i dX7_unset_41 pzm_7_152 pzt_X7_takeHeld (rH_0 hj) (kX7_takeHeld hj hs hL h1 g1 g2.1 g2.2) (by decide) (Nat.le_of_ble_eq_true rfl) (by decide) ?_
  
  refine pr_istore dX7_unset_44 (by decide) rfl ?_
  refine pr_iload dX7_unset_46 rfl ?_
  refine zr_if_le (tgt := 65) dX7_unset_48 (by decide) (by omega) (fun c48 => by exfalso; omega) (fun c48 => ?_)
  refine pr_aload_n dX7_unset_51 rfl ?_
  refine pr_iload dX7_unset_52 rfl ?_
  refine zcv1i dX7_unset_54 pzm_7_139 pzt_X7_refuse (rH_0 hj) (kX7_refuse hj) (by decide) (Nat.le_of_ble_eq_true rfl) (by decide) ?_
  refine pr_pop dX7_unset_57 rfl ?_
  refine pr_aload_n dX7_unset_58 rfl ?_
  refine zr_iconst dX7_unset_59 ?_
  refine pr_putf dX7_unset_60 pzf_7_42 (Or.inl rfl) (rH_0 hj) (Nat.le_of_ble_eq_true rfl) rfl rfl (rH_p7 hj) ?_
  refine zr_iconst dX7_unset_63 ?_
  exact pr_iret dX7_unset_64 rfl rfl (by first | exact zret rfl rfl | (exfalso; omega))
set_option maxRecDepth 100000 in
set_option maxHeartbeats 4000000 in
theorem kX7_unset_t (hj : oj 9 a) (hi : rI s) (hL : ∀ i, zR (lv i)) {cue ch : Int} (h1 : zR cue) (h2 : zR ch) {hd : Prop} [dd : Decidable hd] (g1 : ¬ (0 ≤ rpl s cue ∧ 0 ≤ ch ∧ ch ≤ 11)) : pz_Cd en 8 164 [.ref (a 0), .int (zI cue), .int (zI ch), .int (zI (bI hd))] (rH h0 a s lv A F) 0 0 (pz_ret (some (.int (zI 0))) (rH h0 a s lv A (va_up F 7 1))) := by
  refine pz_in pzt_X7_unset ?_
  have hs := rI_B hi
  obtain ⟨hR, hs0, hs1, hs2, hs3⟩ := id hs
  obtain ⟨-, hq1, hq2, hq3, hq4, hq5, hq6, hq7, hq8, hq9, hq10, hq11, hq12, hq13⟩ := id hi
  refine pr_aload_n dX7_unset_0 rfl ?_
  refine pr_aload_n dX7_unset_1 rfl ?_
  refine pr_iload_n dX7_unset_2 rfl ?_
  refine zcv1i dX7_unset_3 pzm_7_74 pzt_X7_isCue (rH_0 hj) (kX7_isCue hj hs h1) (by decide) (Nat.le_of_ble_eq_true rfl) (by decide) ?_
  refine zr_if_eq (tgt := 20) dX7_unset_6 (by decide) (bI_R _) (fun c6 => ?_) (fun c6 => ?_)
  · have b6 := bI_0 c6
    refine zr_iconst dX7_unset_20 ?_
    refine pr_putf dX7_unset_21 pzf_7_42 (Or.inl rfl) (rH_0 hj) (Nat.le_of_ble_eq_true rfl) rfl rfl (rH_p7 hj) ?_
    refine pr_aload_n dX7_unset_24 rfl ?_
    refine pr_getf dX7_unset_25 pzf_7_42 (rH_0 hj) rfl ?_
    refine zr_if_le (tgt := 33) dX7_unset_28 (by decide) (show zR 1 by decide) (fun c28 => absurd c28 (show ¬ ((1 : Int) ≤ 0) by decide)) (fun c28 => ?_)
    refine zr_iconst dX7_unset_31 ?_
    exact pr_iret dX7_unset_32 rfl rfl (by first | exact zret rfl rfl | (exfalso; omega))
  · have b6 := bI_ne c6
    refine pr_iload_n dX7_unset_9 rfl ?_
    refine zcs1i dX7_unset_10 pzm_7_122 pzt_X7_isChannel (kX7_isChannel h2) (by decide) (Nat.le_of_ble_eq_true rfl) ?_
    refine zr_if_eq (tgt := 20) dX7_unset_13 (by decide) (bI_R _) (fun c13 => ?_) (fun c13 => by exfalso; have bb := bI_ne c13; omega)
    have b13 := bI_0 c13
    refine zr_iconst dX7_unset_20 ?_
    refine pr_putf dX7_unset_21 pzf_7_42 (Or.inl rfl) (rH_0 hj) (Nat.le_of_ble_eq_true rfl) rfl rfl (rH_p7 hj) ?_
    refine pr_aload_n dX7_unset_24 rfl ?_
    refine pr_getf dX7_unset_25 pzf_7_42 (rH_0 hj) rfl ?_
    refine zr_if_le (tgt := 33) dX7_unset_28 (by decide) (show zR 1 by decide) (fun c28 => absurd c28 (show ¬ ((1 : Int) ≤ 0) by decide)) (fun c28 => ?_)
    refine zr_iconst dX7_unset_31 ?_
    exact pr_iret dX7_unset_32 rfl rfl (by first | exact zret rfl rfl | (exfalso; omega))
end ref
