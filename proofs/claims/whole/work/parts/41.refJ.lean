/-! the reference: its face, what changes -/
def rsrF (s : Int → Int) (ch : Int) : Nat → Int
  | 0 => s 18
  | n + 1 => if rgv s (s (18 + 12 * ((n + 1 : Nat) : Int))) ch < 0 ∧ ¬ s (18 + 12 * ((n + 1 : Nat) : Int) + 2) = 1 then rsrF s ch n else s (18 + 12 * ((n + 1 : Nat) : Int))
theorem rsrF_s {s : Int → Int} {ch k : Int} (h : 0 < k) : rsrF s ch k.toNat = if rgv s (s (18 + 12 * k)) ch < 0 ∧ ¬ s (18 + 12 * k + 2) = 1 then rsrF s ch (k - 1).toNat else s (18 + 12 * k) := by
  rw [show k.toNat = (k - 1).toNat + 1 by omega]
  show (if rgv s (s (18 + 12 * (((k - 1).toNat + 1 : Nat) : Int))) ch < 0 ∧ ¬ s (18 + 12 * (((k - 1).toNat + 1 : Nat) : Int) + 2) = 1 then rsrF s ch (k - 1).toNat else s (18 + 12 * (((k - 1).toNat + 1 : Nat) : Int))) = _
  rw [show (((k - 1).toNat + 1 : Nat) : Int) = k by omega]
section ref
variable {en : pz_Env} {h0 : pz_H} {a : Nat → Nat} {s lv : Int → Int} {A : Nat → Int → Int} {F : Nat → Int}
set_option maxRecDepth 100000 in
set_option maxHeartbeats 4000000 in
theorem kX7_sum_k (hj : oj 9 a) (hi : rI s) {cue : Int} (h1 : zR cue) (g1 : 0 ≤ rpl s cue) : pz_Cd en 5 172 [.ref (a 0), .int (zI cue)] (rH h0 a s lv A F) 0 0 (pz_ret (some (.int (zI (zsum (fun c => rlv s (rpl s cue) c) 12)))) (rH h0 a s lv A (va_up F 7 0))) := by
  refine pz_in pzt_X7_sum ?_
  have hs := rI_B hi
  obtain ⟨hR, hs0, hs1, hs2, hs3⟩ := id hs
  obtain ⟨-, hq1, hq2, hq3, hq4, hq5, hq6, hq7, hq8, hq9, hq10, hq11, hq12, hq13⟩ := id hi
  have hp := rpl_R hs cue
  have loop : pz_WP 5 en (pz_Cd en (5 - 1)) 7 cX7_sum 4 (some .int) [] false (pz_ret (some (.int (zI (zsum (fun c => rlv s (rpl s cue) c) 12)))) (rH h0 a s lv A (va_up F 7 0))) 21 [some (.ref (a 0)), some (.int (zI cue)), some (.int (zI (zsum (fun c => rlv s (rpl s cue) c) (0 : Int).toNat))), some (.int (zI 0))] [] (rH h0 a s lv A (va_up F 7 0)) 0 0 := by
    refine zup (P := fun k => pz_WP 5 en (pz_Cd en (5 - 1)) 7 cX7_sum 4 (some .int) [] false (pz_ret (some (.int (zI (zsum (fun c => rlv s (rpl s cue) c) 12)))) (rH h0 a s lv A (va_up F 7 0))) 21 [some (.ref (a 0)), some (.int (zI cue)), some (.int (zI (zsum (fun c => rlv s (rpl s cue) c) (k : Int).toNat))), some (.int (zI k))] [] (rH h0 a s lv A (va_up F 7 0)) 0 0) (lo := 0) (hi := 12) (by decide) ?_ ?_
    · skip
      refine pr_iload_n dX7_sum_21 rfl ?_
      refine zr_bipush dX7_sum_22 (by decide) ?_
      refine zr_icmp_ge (tgt := 53) dX7_sum_24 (by decide) (by first | exact hR _ | omega) (by first | exact hR _ | omega) (fun c24 => ?_) (fun c24 => by exfalso; omega)
      refine pr_iload_n dX7_sum_53 rfl ?_
      exact pr_iret dX7_sum_54 rfl rfl (zret (by rfl))
    · intro k hk1 hk2 ih
      rw [zsum_s hk1] at ih
      refine pr_iload_n dX7_sum_21 rfl ?_
      refine zr_bipush dX7_sum_22 (by decide) ?_
      refine zr_icmp_ge (tgt := 53) dX7_sum_24 (by decide) (by first | exact hR _ | omega) (by first | exact hR _ | omega) (fun c24 => by exfalso; omega) (fun c24 => ?_)
      refine pr_aload_n dX7_sum_27 rfl ?_
      refine pr_getf dX7_sum_28 pzf_7_42 (rH_0 hj) rfl ?_
      refine zr_if_ne (tgt := 53) dX7_sum_31 (by decide) (show zR 0 by decide) (fun c31 => absurd c31 (show ¬ (¬ (0 : Int) = 0) by decide)) (fun c31 => ?_)
      refine pr_iload_n dX7_sum_34 rfl ?_
      refine pr_aload_n dX7_sum_35 rfl ?_
      refine pr_aload_n dX7_sum_36 rfl ?_
      refine pr_iload_n dX7_sum_37 rfl ?_
      refine zcv1i dX7_sum_38 pzm_7_67 pzt_X7_placeOf (rH_0 hj) (kX7_placeOf hj hs h1) (by decide) (Nat.le_of_ble_eq_true rfl) (by decide) ?_
      refine pr_iload_n dX7_sum_41 rfl ?_
      refine zcv2i dX7_sum_42 pzm_7_84 pzt_X7_levelIn (rH_0 hj) (kX7_levelIn hj hs (by omega) (by omega) (by omega) (by omega)) (by decide) (Nat.le_of_ble_eq_true rfl) (by decide) ?_
      refine zr_iadd dX7_sum_45 ?_
      refine pr_istore_n dX7_sum_46 (by decide) rfl ?_
      refine zr_iinc dX7_sum_47 rfl (by decide) rfl ?_
      refine pr_goto (tgt := 21) dX7_sum_50 (by decide) ?_
      exact ih
  refine pr_aload_n dX7_sum_0 rfl ?_
  refine pr_aload_n dX7_sum_1 rfl ?_
  refine pr_iload_n dX7_sum_2 rfl ?_
  refine zcv1i dX7_sum_3 pzm_7_74 pzt_X7_isCue (rH_0 hj) (kX7_isCue hj hs h1) (by decide) (Nat.le_of_ble_eq_true rfl) (by decide) ?_
  refine zr_if_eq (tgt := 13) dX7_sum_6 (by decide) (bI_R _) (fun c6 => by exfalso; have bb := bI_0 c6; omega) (fun c6 => ?_)
  have b6 := bI_ne c6
  refine zr_iconst dX7_sum_9 ?_
  refine pr_goto (tgt := 14) dX7_sum_10 (by decide) ?_
  refine pr_putf dX7_sum_14 pzf_7_42 (Or.inl rfl) (rH_0 hj) (Nat.le_of_ble_eq_true rfl) rfl rfl (rH_p7 hj) ?_
  refine zr_iconst dX7_sum_17 ?_
  refine pr_istore_n dX7_sum_18 (by decide) rfl ?_
  refine zr_iconst dX7_sum_19 ?_
  refine pr_istore_n dX7_sum_20 (by decide) rfl ?_
  exact loop
set_option maxRecDepth 100000 in
set_option maxHeartbeats 4000000 in
theorem kX7_sum_t (hj : oj 9 a) (hi : rI s) {cue : Int} (h1 : zR cue) (g1 : ¬ 0 ≤ rpl s cue) : pz_Cd en 5 172 [.ref (a 0), .int (zI cue)] (rH h0 a s lv A F) 0 0 (pz_ret (some (.int (zI 0))) (rH h0 a s lv A (va_up F 7 1))) := by
  refine pz_in pzt_X7_sum ?_
  have hs := rI_B hi
  obtain ⟨hR, hs0, hs1, hs2, hs3⟩ := id hs
  obtain ⟨-, hq1, hq2, hq3, hq4, hq5, hq6, hq7, hq8, hq9, hq10, hq11, hq12, hq13⟩ := id hi
  refine pr_aload_n dX7_sum_0 rfl ?_
  refine pr_aload_n dX7_sum_1 rfl ?_
  refine pr_iload_n dX7_sum_2 rfl ?_
  refine zcv1i dX7_sum_3 pzm_7_74 pzt_X7_isCue (rH_0 hj) (kX7_isCue hj hs h1) (by decide) (Nat.le_of_ble_eq_true rfl) (by decide) ?_
  refine zr_if_eq (tgt := 13) dX7_sum_6 (by decide) (bI_R _) (fun c6 => ?_) (fun c6 => by exfalso; have bb := bI_ne c6; omega)
  have b6 := bI_0 c6
  refine zr_iconst dX7_sum_13 ?_
  refine pr_putf dX7_sum_14 pzf_7_42 (Or.inl rfl) (rH_0 hj) (Nat.le_of_ble_eq_true rfl) rfl rfl (rH_p7 hj) ?_
  refine zr_iconst dX7_sum_17 ?_
  refine pr_istore_n dX7_sum_18 (by decide) rfl ?_
  refine zr_iconst dX7_sum_19 ?_
  refine pr_istore_n dX7_sum_20 (by decide) rfl ?_
  refine pr_iload_n dX7_sum_21 rfl ?_
  refine zr_bipush dX7_sum_22 (by decide) ?_
  refine zr_icmp_ge (tgt := 53) dX7_sum_24 (by decide) (by first | exact hR _ | omega) (by first | exact hR _ | omega) (fun c24 => by exfalso; omega) (fun c24 => ?_)
  refine pr_aload_n dX7_sum_27 rfl ?_
  refine pr_getf dX7_sum_28 pzf_7_42 (rH_0 hj) rfl ?_
  refine zr_if_ne (tgt := 53) dX7_sum_31 (by decide) (show zR 1 by decide) (fun c31 => ?_) (fun c31 => absurd c31 (show ¬ (1 : Int) = 0 by decide))
  refine pr_iload_n dX7_sum_53 rfl ?_
  exact pr_iret dX7_sum_54 rfl rfl (by first | exact zret rfl rfl | (exfalso; omega))
set_option maxRecDepth 100000 in
set_option maxHeartbeats 4000000 in
theorem kX7_apart_k (hj : oj 9 a) (hi : rI s) {cue oth : Int} (h1 : zR cue) (h2 : zR oth) (g1 : 0 ≤ rpl s cue) (g2 : 0 ≤ rpl s oth) : pz_Cd en 5 173 [.ref (a 0), .int (zI cue), .int (zI oth)] (rH h0 a s lv A F) 0 0 (pz_ret (some (.int (zI (zsum (fun c => bI (¬ rlv s (rpl s cue) c = rlv s (rpl s oth) c)) 12)))) (rH h0 a s lv A (va_up F 7 0))) := by
  refine pz_in pzt_X7_apart ?_
  have hs := rI_B hi
  obtain ⟨hR, hs0, hs1, hs2, hs3⟩ := id hs
  obtain ⟨-, hq1, hq2, hq3, hq4, hq5, hq6, hq7, hq8, hq9, hq10, hq11, hq12, hq13⟩ := id hi
  have hp := rpl_R hs cue
  have hp2 := rpl_R hs oth
  have loop : pz_WP 5 en (pz_Cd en (5 - 1)) 7 cX7_apart 5 (some .int) [] false (pz_ret (some (.int (zI (zsum (fun c => bI (¬ rlv s (rpl s cue) c = rlv s (rpl s oth) c)) 12)))) (rH h0 a s lv A (va_up F 7 0))) 30 [some (.ref (a 0)), some (.int (zI cue)), some (.int (zI oth)), some (.int (zI (zsum (fun c => bI (¬ rlv s (rpl s cue) c = rlv s (rpl s oth) c)) (0 : Int).toNat))), some (.int (zI 0))] [] (rH h0 a s lv A (va_up F 7 0)) 0 0 := by
    refine zup (P := fun k => pz_WP 5 en (pz_Cd en (5 - 1)) 7 cX7_apart 5 (some .int) [] false (pz_ret (some (.int (zI (zsum (fun c => bI (¬ rlv s (rpl s cue) c = rlv s (rpl s oth) c)) 12)))) (rH h0 a s lv A (va_up F 7 0))) 30 [some (.ref (a 0)), some (.int (zI cue)), some (.int (zI oth)), some (.int (zI (zsum (fun c => bI (¬ rlv s (rpl s cue) c = rlv s (rpl s oth) c)) (k : Int).toNat))), some (.int (zI k))] [] (rH h0 a s lv A (va_up F 7 0)) 0 0) (lo := 0) (hi := 12) (by decide) ?_ ?_
    · skip
      refine pr_iload dX7_apart_30 rfl ?_
      refine zr_bipush dX7_apart_32 (by decide) ?_
      refine zr_icmp_ge (tgt := 83) dX7_apart_34 (by decide) (by first | exact hR _ | omega) (by first | exact hR _ | omega) (fun c34 => ?_) (fun c34 => by exfalso; omega)
      refine pr_iload_n dX7_apart_83 rfl ?_
      exact pr_iret dX7_apart_84 rfl rfl (zret (by rfl))
    · intro k hk1 hk2 ih
      rw [zsum_s hk1] at ih
      refine pr_iload dX7_apart_30 rfl ?_
      refine zr_bipush dX7_apart_32 (by decide) ?_
      refine zr_icmp_ge (tgt := 83) dX7_apart_34 (by decide) (by first | exact hR _ | omega) (by first | exact hR _ | omega) (fun c34 => by exfalso; omega) (fun c34 => ?_)
      refine pr_aload_n dX7_apart_37 rfl ?_
      refine pr_getf dX7_apart_38 pzf_7_42 (rH_0 hj) rfl ?_
      refine zr_if_ne (tgt := 83) dX7_apart_41 (by decide) (show zR 0 by decide) (fun c41 => absurd c41 (show ¬ (¬ (0 : Int) = 0) by decide)) (fun c41 => ?_)
      refine pr_iload_n dX7_apart_44 rfl ?_
      refine pr_aload_n dX7_apart_45 rfl ?_
      refine pr_aload_n dX7_apart_46 rfl ?_
      refine pr_iload_n dX7_apart_47 rfl ?_
      refine zcv1i dX7_apart_48 pzm_7_67 pzt_X7_placeOf (rH_0 hj) (kX7_placeOf hj hs (by assumption)) (by decide) (Nat.le_of_ble_eq_true rfl) (by decide) ?_
      refine pr_iload dX7_apart_51 rfl ?_
      refine zcv2i dX7_apart_53 pzm_7_84 pzt_X7_levelIn (rH_0 hj) (kX7_levelIn hj hs (by omega) (by omega) (by omega) (by omega)) (by decide) (Nat.le_of_ble_eq_true rfl) (by decide) ?_
      refine pr_aload_n dX7_apart_56 rfl ?_
      refine pr_aload_n dX7_apart_57 rfl ?_
      refine pr_iload_n dX7_apart_58 rfl ?_
      refine zcv1i dX7_apart_59 pzm_7_67 pzt_X7_placeOf (rH_0 hj) (kX7_placeOf hj hs (by assumption)) (by decide) (Nat.le_of_ble_eq_true rfl) (by decide) ?_
      refine pr_iload dX7_apart_62 rfl ?_
      refine zcv2i dX7_apart_64 pzm_7_84 pzt_X7_levelIn (rH_0 hj) (kX7_levelIn hj hs (by omega) (by omega) (by omega) (by omega)) (by decide) (Nat.le_of_ble_eq_true rfl) (by decide) ?_
      refine zr_icmp_eq (tgt := 74) dX7_apart_67 (by decide) (rlv_R hs _ _) (rlv_R hs _ _) (fun c67 => ?_) (fun c67 => ?_)
      · rw [show bI (¬ rlv s (rpl s cue) k = rlv s (rpl s oth) k) = 0 from bI_f (not_not_intro c67)] at ih
        refine zr_iconst dX7_apart_74 ?_
        refine zr_iadd dX7_apart_75 ?_
        refine pr_istore_n dX7_apart_76 (by decide) rfl ?_
        refine zr_iinc dX7_apart_77 rfl (by decide) rfl ?_
        refine pr_goto (tgt := 30) dX7_apart_80 (by decide) ?_
        exact ih
      · rw [show bI (¬ rlv s (rpl s cue) k = rlv s (rpl s oth) k) = 1 from bI_t c67] at ih
        refine zr_iconst dX7_apart_70 ?_
        refine pr_goto (tgt := 75) dX7_apart_71 (by decide) ?_
        refine zr_iadd dX7_apart_75 ?_
        refine pr_istore_n dX7_apart_76 (by decide) rfl ?_
        refine zr_iinc dX7_apart_77 rfl (by decide) rfl ?_
        refine pr_goto (tgt := 30) dX7_apart_80 (by decide) ?_
        exact ih
  refine pr_aload_n dX7_apart_0 rfl ?_
  refine pr_aload_n dX7_apart_1 rfl ?_
  refine pr_iload_n dX7_apart_2 rfl ?_
  refine zcv1i dX7_apart_3 pzm_7_74 pzt_X7_isCue (rH_0 hj) (kX7_isCue hj hs (by assumption)) (by decide) (Nat.le_of_ble_eq_true rfl) (by decide) ?_
  refine zr_if_eq (tgt := 21) dX7_apart_6 (by decide) (bI_R _) (fun c6 => by exfalso; have bb := bI_0 c6; omega) (fun c6 => ?_)
  have b6 := bI_ne c6
  refine pr_aload_n dX7_apart_9 rfl ?_
  refine pr_iload_n dX7_apart_10 rfl ?_
  refine zcv1i dX7_apart_11 pzm_7_74 pzt_X7_isCue (rH_0 hj) (kX7_isCue hj hs (by assumption)) (by decide) (Nat.le_of_ble_eq_true rfl) (by decide) ?_
  refine zr_if_eq (tgt := 21) dX7_apart_14 (by decide) (bI_R _) (fun c14 => by exfalso; have bb := bI_0 c14; omega) (fun c14 => ?_)
  have b14 := bI_ne c14
  refine zr_iconst dX7_apart_17 ?_
  refine pr_goto (tgt := 22) dX7_apart_18 (by decide) ?_
  refine pr_putf dX7_apart_22 pzf_7_42 (Or.inl rfl) (rH_0 hj) (Nat.le_of_ble_eq_true rfl) rfl rfl (rH_p7 hj) ?_
  refine zr_iconst dX7_apart_25 ?_
  refine pr_istore_n dX7_apart_26 (by decide) rfl ?_
  refine zr_iconst dX7_apart_27 ?_
  refine pr_istore dX7_apart_28 (by decide) rfl ?_
  exact loop
set_option maxRecDepth 100000 in
set_option maxHeartbeats 4000000 in
theorem kX7_apart_t (hj : oj 9 a) (hi : rI s) {cue oth : Int} (h1 : zR cue) (h2 : zR oth) (g1 : ¬ (0 ≤ rpl s cue ∧ 0 ≤ rpl s oth)) : pz_Cd en 5 173 [.ref (a 0), .int (zI cue), .int (zI oth)] (rH h0 a s lv A F) 0 0 (pz_ret (some (.int (zI 0))) (rH h0 a s lv A (va_up F 7 1))) := by
  refine pz_in pzt_X7_apart ?_
  have hs := rI_B hi
  obtain ⟨hR, hs0, hs1, hs2, hs3⟩ := id hs
  obtain ⟨-, hq1, hq2, hq3, hq4, hq5, hq6, hq7, hq8, hq9, hq10, hq11, hq12, hq13⟩ := id hi
  refine pr_aload_n dX7_apart_0 rfl ?_
  refine pr_aload_n dX7_apart_1 rfl ?_
  refine pr_iload_n dX7_apart_2 rfl ?_
  refine zcv1i dX7_apart_3 pzm_7_74 pzt_X7_isCue (rH_0 hj) (kX7_isCue hj hs (by assumption)) (by decide) (Nat.le_of_ble_eq_true rfl) (by decide) ?_
  refine zr_if_eq (tgt := 21) dX7_apart_6 (by decide) (bI_R _) (fun c6 => ?_) (fun c6 => ?_)
  · have b6 := bI_0 c6
    refine zr_iconst dX7_apart_21 ?_
    refine pr_putf dX7_apart_22 pzf_7_42 (Or.inl rfl) (rH_0 hj) (Nat.le_of_ble_eq_true rfl) rfl rfl (rH_p7 hj) ?_
    refine zr_iconst dX7_apart_25 ?_
    refine pr_istore_n dX7_apart_26 (by decide) rfl ?_
    refine zr_iconst dX7_apart_27 ?_
    refine pr_istore dX7_apart_28 (by decide) rfl ?_
    refine pr_iload dX7_apart_30 rfl ?_
    refine zr_bipush dX7_apart_32 (by decide) ?_
    refine zr_icmp_ge (tgt := 83) dX7_apart_34 (by decide) (by first | exact hR _ | omega) (by first | exact hR _ | omega) (fun c34 => by exfalso; omega) (fun c34 => ?_)
    refine pr_aload_n dX7_apart_37 rfl ?_
    refine pr_getf dX7_apart_38 pzf_7_42 (rH_0 hj) rfl ?_
    refine zr_if_ne (tgt := 83) dX7_apart_41 (by decide) (show zR 1 by decide) (fun c41 => ?_) (fun c41 => absurd c41 (show ¬ (1 : Int) = 0 by decide))
    refine pr_iload_n dX7_apart_83 rfl ?_
    exact pr_iret dX7_apart_84 rfl rfl (by first | exact zret rfl rfl | (exfalso; omega))
  · have b6 := bI_ne c6
    refine pr_aload_n dX7_apart_9 rfl ?_
    refine pr_iload_n dX7_apart_10 rfl ?_
    refine zcv1i dX7_apart_11 pzm_7_74 pzt_X7_isCue (rH_0 hj) (kX7_isCue hj hs (by assumption)) (by decide) (Nat.le_of_ble_eq_true rfl) (by decide) ?_
    refine zr_if_eq (tgt := 21) dX7_apart_14 (by decide) (bI_R _) (fun c14 => ?_) (fun c14 => by exfalso; have bb := bI_ne c14; omega)
    have b14 := bI_0 c14
    refine zr_iconst dX7_apart_21 ?_
    refine pr_putf dX7_apart_22 pzf_7_42 (Or.inl rfl) (rH_0 hj) (Nat.le_of_ble_eq_true rfl) rfl rfl (rH_p7 hj) ?_
    refine zr_iconst dX7_apart_25 ?_
    refine pr_istore_n dX7_apart_26 (by decide) rfl ?_
    refine zr_iconst dX7_apart_27 ?_
    refine pr_istore dX7_apart_28 (by decide) rfl ?_
    refine pr_iload dX7_apart_30 rfl ?_
    refine zr_bipush dX7_apart_32 (by decide) ?_
    refine zr_icmp_ge (tgt := 83) dX7_apart_34 (by decide) (by first | exact hR _ | omega) (by first | exact hR _ | omega) (fun c34 => by exfalso; omega) (fun c34 => ?_)
    refine pr_aload_n dX7_apart_37 rfl ?_
    refine pr_getf dX7_apart_38 pzf_7_42 (rH_0 hj) rfl ?_
    refine zr_if_ne (tgt := 83) dX7_apart_41 (by decide) (show zR 1 by decide) (fun c41 => ?_) (fun c41 => absurd c41 (show ¬ (1 : Int) = 0 by decide))
    refine pr_iload_n dX7_apart_83 rfl ?_
    exact pr_iret dX7_apart_84 rfl rfl (by first | exact zret rfl rfl | (exfalso; omega))
set_option maxRecDepth 100000 in
set_option maxHeartbeats 4000000 in
theorem kX7_source_k (hj : oj 9 a) (hi : rI s) {cue ch : Int} (h1 : zR cue) (h2 : zR ch) (g1 : 0 ≤ rpl s cue) (g2 : 0 ≤ ch ∧ ch ≤ 11) : pz_Cd en 4 171 [.ref (a 0), .int (zI cue), .int (zI ch)] (rH h0 a s lv A F) 0 0 (pz_ret (some (.int (zI (rsrF s ch (rpl s cue).toNat)))) (rH h0 a s lv A (va_up F 7 0))) := by
  refine pz_in pzt_X7_source ?_
  have hs := rI_B hi
  obtain ⟨hR, hs0, hs1, hs2, hs3⟩ := id hs
  obtain ⟨-, hq1, hq2, hq3, hq4, hq5, hq6, hq7, hq8, hq9, hq10, hq11, hq12, hq13⟩ := id hi
  have hp := rpl_R hs cue
  have loop : pz_WP 4 en (pz_Cd en (4 - 1)) 7 cX7_source 4 (some .int) [] false (pz_ret (some (.int (zI (rsrF s ch ((rpl s cue) : Int).toNat)))) (rH h0 a s lv A (va_up F 7 0))) 39 [some (.ref (a 0)), some (.int (zI cue)), some (.int (zI ch)), some (.int (zI (rpl s cue)))] [] (rH h0 a s lv A (va_up F 7 0)) 0 0 := by
    have hz : ∀ k : Int, k ≤ rpl s cue → 0 ≤ k → k < 12 := fun k _ _ => by omega
    refine zdown (P := fun k => k < 12 → pz_WP 4 en (pz_Cd en (4 - 1)) 7 cX7_source 4 (some .int) [] false (pz_ret (some (.int (zI (rsrF s ch (k : Int).toNat)))) (rH h0 a s lv A (va_up F 7 0))) 39 [some (.ref (a 0)), some (.int (zI cue)), some (.int (zI ch)), some (.int (zI k))] [] (rH h0 a s lv A (va_up F 7 0)) 0 0) (lo := 0) (hi := rpl s cue) g1 ?_ ?_ (by omega)
    · intro _
      refine pr_iload_n dX7_source_39 rfl ?_
      refine zr_if_le (tgt := 74) dX7_source_40 (by decide) (by first | exact hR _ | omega) (fun c40 => ?_) (fun c40 => by exfalso; omega)
      refine pr_aload_n dX7_source_74 rfl ?_
      refine pr_getf dX7_source_75 pzf_7_9 (rH_0 hj) rfl ?_
      refine pr_iload_n dX7_source_78 rfl ?_
      refine zcs1i dX7_source_79 pzm_7_63 pzt_X7_at kX7_at (by decide) (Nat.le_of_ble_eq_true rfl) ?_
      refine zr_iald dX7_source_82 (rH_1 hj) (by omega) (by decide) ?_
      exact pr_iret dX7_source_83 rfl rfl (zret rfl rfl)
    · intro k hk1 hk2 ih k12
      rw [rsrF_s hk1]
      have hgv := rgv_R hs (s (18 + 12 * k)) ch
      refine pr_iload_n dX7_source_39 rfl ?_
      refine zr_if_le (tgt := 74) dX7_source_40 (by decide) (by first | exact hR _ | omega) (fun c40 => by exfalso; omega) (fun c40 => ?_)
      refine pr_aload_n dX7_source_43 rfl ?_
      refine pr_aload_n dX7_source_44 rfl ?_
      refine pr_getf dX7_source_45 pzf_7_9 (rH_0 hj) rfl ?_
      refine pr_iload_n dX7_source_48 rfl ?_
      refine zcs1i dX7_source_49 pzm_7_63 pzt_X7_at kX7_at (by decide) (Nat.le_of_ble_eq_true rfl) ?_
      refine zr_iald dX7_source_52 (rH_1 hj) (by omega) (by decide) ?_
      refine pr_iload_n dX7_source_53 rfl ?_
      refine zcv2i dX7_source_54 pzm_7_98 pzt_X7_given (rH_0 hj) (kX7_given hj hs (hR _) h2) (by decide) (Nat.le_of_ble_eq_true rfl) (by decide) ?_
      refine zr_if_ge (tgt := 74) dX7_source_57 (by decide) (by first | exact hR _ | omega) (fun c57 => ?_) (fun c57 => ?_)
      · rw [if_neg (fun z => absurd z.1 (by omega))]
        refine pr_aload_n dX7_source_74 rfl ?_
        refine pr_getf dX7_source_75 pzf_7_9 (rH_0 hj) rfl ?_
        refine pr_iload_n dX7_source_78 rfl ?_
        refine zcs1i dX7_source_79 pzm_7_63 pzt_X7_at kX7_at (by decide) (Nat.le_of_ble_eq_true rfl) ?_
        refine zr_iald dX7_source_82 (rH_1 hj) (by omega) (by decide) ?_
        exact pr_iret dX7_source_83 rfl rfl (zret rfl rfl)
      · refine pr_aload_n dX7_source_60 rfl ?_
        refine pr_iload_n dX7_source_61 rfl ?_
        refine zcv1i dX7_source_62 pzm_7_101 pzt_X7_isBlock (rH_0 hj) (kX7_isBlock hj hs (by omega) (by omega)) (by decide) (Nat.le_of_ble_eq_true rfl) (by decide) ?_
        refine zr_if_ne (tgt := 74) dX7_source_65 (by decide) (bI_R _) (fun c65 => ?_) (fun c65 => ?_)
        · have b65 := bI_ne c65
          rw [if_neg (fun z => z.2 b65)]
          refine pr_aload_n dX7_source_74 rfl ?_
          refine pr_getf dX7_source_75 pzf_7_9 (rH_0 hj) rfl ?_
          refine pr_iload_n dX7_source_78 rfl ?_
          refine zcs1i dX7_source_79 pzm_7_63 pzt_X7_at kX7_at (by decide) (Nat.le_of_ble_eq_true rfl) ?_
          refine zr_iald dX7_source_82 (rH_1 hj) (by omega) (by decide) ?_
          exact pr_iret dX7_source_83 rfl rfl (zret rfl rfl)
        · have b65 := bI_0 c65
          rw [if_pos ⟨by omega, b65⟩]
          refine zr_iinc dX7_source_68 rfl (by decide) rfl ?_
          refine pr_goto (tgt := 39) dX7_source_71 (by decide) ?_
          exact ih (by omega)
  refine pr_aload_n dX7_source_0 rfl ?_
  refine pr_aload_n dX7_source_1 rfl ?_
  refine pr_iload_n dX7_source_2 rfl ?_
  refine zcv1i dX7_source_3 pzm_7_74 pzt_X7_isCue (rH_0 hj) (kX7_isCue hj hs h1) (by decide) (Nat.le_of_ble_eq_true rfl) (by decide) ?_
  refine zr_if_eq (tgt := 20) dX7_source_6 (by decide) (bI_R _) (fun c6 => by exfalso; have bb := bI_0 c6; omega) (fun c6 => ?_)
  have b6 := bI_ne c6
  refine pr_iload_n dX7_source_9 rfl ?_
  refine zcs1i dX7_source_10 pzm_7_122 pzt_X7_isChannel (kX7_isChannel h2) (by decide) (Nat.le_of_ble_eq_true rfl) ?_
  refine zr_if_eq (tgt := 20) dX7_source_13 (by decide) (bI_R _) (fun c13 => by exfalso; have bb := bI_0 c13; omega) (fun c13 => ?_)
  have b13 := bI_ne c13
  refine zr_iconst dX7_source_16 ?_
  refine pr_goto (tgt := 21) dX7_source_17 (by decide) ?_
  refine pr_putf dX7_source_21 pzf_7_42 (Or.inl rfl) (rH_0 hj) (Nat.le_of_ble_eq_true rfl) rfl rfl (rH_p7 hj) ?_
  refine pr_aload_n dX7_source_24 rfl ?_
  refine pr_getf dX7_source_25 pzf_7_42 (rH_0 hj) rfl ?_
  refine zr_if_le (tgt := 33) dX7_source_28 (by decide) (show zR 0 by decide) (fun c28 => ?_) (fun c28 => absurd (show (0 : Int) ≤ 0 by decide) c28)
  refine pr_aload_n dX7_source_33 rfl ?_
  refine pr_iload_n dX7_source_34 rfl ?_
  refine zcv1i dX7_source_35 pzm_7_67 pzt_X7_placeOf (rH_0 hj) (kX7_placeOf hj hs h1) (by decide) (Nat.le_of_ble_eq_true rfl) (by decide) ?_
  refine pr_istore_n dX7_source_38 (by decide) rfl ?_
  exact loop
set_option maxRecDepth 100000 in
set_option maxHeartbeats 4000000 in
theorem kX7_source_t (hj : oj 9 a) (hi : rI s) {cue ch : Int} (h1 : zR cue) (h2 : zR ch) (g1 : ¬ (0 ≤ rpl s cue ∧ 0 ≤ ch ∧ ch ≤ 11)) : pz_Cd en 4 171 [.ref (a 0), .int (zI cue), .int (zI ch)] (rH h0 a s lv A F) 0 0 (pz_ret (some (.int (zI 0))) (rH h0 a s lv A (va_up F 7 1))) := by
  refine pz_in pzt_X7_source ?_
  have hs := rI_B hi
  obtain ⟨hR, hs0, hs1, hs2, hs3⟩ := id hs
  obtain ⟨-, hq1, hq2, hq3, hq4, hq5, hq6, hq7, hq8, hq9, hq10, hq11, hq12, hq13⟩ := id hi
  refine pr_aload_n dX7_source_0 rfl ?_
  refine pr_aload_n dX7_source_1 rfl ?_
  refine pr_iload_n dX7_source_2 rfl ?_
  refine zcv1i dX7_source_3 pzm_7_74 pzt_X7_isCue (rH_0 hj) (kX7_isCue hj hs h1) (by decide) (Nat.le_of_ble_eq_true rfl) (by decide) ?_
  refine zr_if_eq (tgt := 20) dX7_source_6 (by decide) (bI_R _) (fun c6 => ?_) (fun c6 => ?_)
  · have b6 := bI_0 c6
    refine zr_iconst dX7_source_20 ?_
    refine pr_putf dX7_source_21 pzf_7_42 (Or.inl rfl) (rH_0 hj) (Nat.le_of_ble_eq_true rfl) rfl rfl (rH_p7 hj) ?_
    refine pr_aload_n dX7_source_24 rfl ?_
    refine pr_getf dX7_source_25 pzf_7_42 (rH_0 hj) rfl ?_
    refine zr_if_le (tgt := 33) dX7_source_28 (by decide) (show zR 1 by decide) (fun c28 => absurd c28 (show ¬ ((1 : Int) ≤ 0) by decide)) (fun c28 => ?_)
    refine zr_iconst dX7_source_31 ?_
    exact pr_iret dX7_source_32 rfl rfl (by first | exact zret rfl rfl | (exfalso; omega))
  · have b6 := bI_ne c6
    refine pr_iload_n dX7_source_9 rfl ?_
    refine zcs1i dX7_source_10 pzm_7_122 pzt_X7_isChannel (kX7_isChannel h2) (by decide) (Nat.le_of_ble_eq_true rfl) ?_
    refine zr_if_eq (tgt := 20) dX7_source_13 (by decide) (bI_R _) (fun c13 => ?_) (fun c13 => by exfalso; have bb := bI_ne c13; omega)
    have b13 := bI_0 c13
    refine zr_iconst dX7_source_20 ?_
    refine pr_putf dX7_source_21 pzf_7_42 (Or.inl rfl) (rH_0 hj) (Nat.le_of_ble_eq_true rfl) rfl rfl (rH_p7 hj) ?_
    refine pr_aload_n dX7_source_24 rfl ?_
    refine pr_getf dX7_source_25 pzf_7_42 (rH_0 hj) rfl ?_
    refine zr_if_le (tgt := 33) dX7_source_28 (by decide) (show zR 1 by decide) (fun c28 => absurd c28 (show ¬ ((1 : Int) ≤ 0) by decide)) (fun c28 => ?_)
    refine zr_iconst dX7_source_31 ?_
    exact pr_iret dX7_source_32 rfl rfl (by first | exact zret rfl rfl | (exfalso; omega))
set_option maxRecDepth 100000 in
set_option maxHeartbeats 4000000 in
theorem kX7_setBlock_k (hj : oj 9 a) (hi : rI s) (hL : ∀ i, zR (lv i)) {cue : Int} (h1 : zR cue) {v : Prop} [dv : Decidable v] (g1 : 0 ≤ rpl s cue) (p0 : 0 ≤ F 5) (p1 : F 5 ≤ 6) : pz_Cd en 6 139 [.ref (a 0), .int (zI cue), .int (zI (bI v))] (rH h0 a s lv A F) 0 0 (pz_ret (some (.int (zI (zsum (fun c => bI (¬ rlv (zu s (18 + 12 * rpl s cue + 2) (bI v)) (rpl s cue) c = (rkl s lv (12 * s 0)) (12 * rpl s cue + c))) 12)))) (rH h0 a (zu s (18 + 12 * rpl s cue + 2) (bI v)) (rkl s lv (12 * s 0)) (rcA s A F) (va_up (va_up F 7 0) 5 (hPn (F 5))))) := by
  refine pz_in pzt_X7_setBlock ?_
  have hs := rI_B hi
  obtain ⟨hR, hs0, hs1, hs2, hs3⟩ := id hs
  obtain ⟨-, hq1, hq2, hq3, hq4, hq5, hq6, hq7, hq8, hq9, hq10, hq11, hq12, hq13⟩ := id hi
  have hp := rpl_R hs cue
  have hv := bI_01 v
  have hI2 := rI_set hi (k := rpl s cue) (m := 2) (v := bI v) g1 (by omega) (by decide) (by decide) (Or.inr (Or.inl ⟨Or.inl rfl, hv⟩))
  have hs2b := rI_B hI2
  have e20 : (zu s (18 + 12 * rpl s cue + 2) (bI v)) 0 = s 0 := zu_ne _ (by omega)
  have loop : pz_WP 6 en (pz_Cd en (6 - 1)) 7 cX7_setBlock 6 (some .int) [] false (pz_ret (some (.int (zI (zsum (fun c => bI (¬ rlv (zu s (18 + 12 * rpl s cue + 2) (bI v)) (rpl s cue) c = (rkl s lv (12 * s 0)) (12 * rpl s cue + c))) 12)))) (rH h0 a (zu s (18 + 12 * rpl s cue + 2) (bI v)) (rkl s lv (12 * s 0)) (rcA s A F) (va_up (va_up F 7 0) 5 (hPn (F 5))))) 66 [some (.ref (a 0)), some (.int (zI cue)), some (.int (zI (bI v))), some (.int (zI (rpl s cue))), some (.int (zI (zsum (fun c => bI (¬ rlv (zu s (18 + 12 * rpl s cue + 2) (bI v)) (rpl s cue) c = (rkl s lv (12 * s 0)) (12 * rpl s cue + c))) (0 : Int).toNat))), some (.int (zI 0))] [] (rH h0 a (zu s (18 + 12 * rpl s cue + 2) (bI v)) (rkl s lv (12 * s 0)) (rcA s A F) (va_up (va_up F 7 0) 5 (hPn (F 5)))) 0 0 := by
    refine zup (P := fun k => pz_WP 6 en (pz_Cd en (6 - 1)) 7 cX7_setBlock 6 (some .int) [] false (pz_ret (some (.int (zI (zsum (fun c => bI (¬ rlv (zu s (18 + 12 * rpl s cue + 2) (bI v)) (rpl s cue) c = (rkl s lv (12 * s 0)) (12 * rpl s cue + c))) 12)))) (rH h0 a (zu s (18 + 12 * rpl s cue + 2) (bI v)) (rkl s lv (12 * s 0)) (rcA s A F) (va_up (va_up F 7 0) 5 (hPn (F 5))))) 66 [some (.ref (a 0)), some (.int (zI cue)), some (.int (zI (bI v))), some (.int (zI (rpl s cue))), some (.int (zI (zsum (fun c => bI (¬ rlv (zu s (18 + 12 * rpl s cue + 2) (bI v)) (rpl s cue) c = (rkl s lv (12 * s 0)) (12 * rpl s cue + c))) (k : Int).toNat))), some (.int (zI k))] [] (rH h0 a (zu s (18 + 12 * rpl s cue + 2) (bI v)) (rkl s lv (12 * s 0)) (rcA s A F) (va_up (va_up F 7 0) 5 (hPn (F 5)))) 0 0) (lo := 0) (hi := 12) (by decide) ?_ ?_
    · skip
      refine pr_iload dX7_setBlock_66 rfl ?_
      refine zr_bipush dX7_setBlock_68 (by decide) ?_
      refine zr_icmp_ge (tgt := 111) dX7_setBlock_70 (by decide) (by first | exact hR _ | omega) (by first | exact hR _ | omega) (fun c70 => ?_) (fun c70 => by exfalso; omega)
      refine pr_iload dX7_setBlock_111 rfl ?_
      exact pr_iret dX7_setBlock_113 rfl rfl (zret (by rfl))
    · intro k hk1 hk2 ih
      rw [zsum_s hk1] at ih
      refine pr_iload dX7_setBlock_66 rfl ?_
      refine zr_bipush dX7_setBlock_68 (by decide) ?_
      refine zr_icmp_ge (tgt := 111) dX7_setBlock_70 (by decide) (by first | exact hR _ | omega) (by first | exact hR _ | omega) (fun c70 => by exfalso; omega) (fun c70 => ?_)
      refine pr_iload dX7_setBlock_73 rfl ?_
      refine pr_aload_n dX7_setBlock_75 rfl ?_
      refine pr_iload_n dX7_setBlock_76 rfl ?_
      refine pr_iload dX7_setBlock_77 rfl ?_
      refine zcv2i dX7_setBlock_79 pzm_7_84 pzt_X7_levelIn (rH_0 hj) (kX7_levelIn hj hs2b (by omega) (by rw [e20]; omega) (by omega) (by omega)) (by decide) (Nat.le_of_ble_eq_true rfl) (by decide) ?_
      refine pr_aload_n dX7_setBlock_82 rfl ?_
      refine pr_getf dX7_setBlock_83 pzf_7_22 (rH_0 hj) rfl ?_
      refine zr_bipush dX7_setBlock_86 (by decide) ?_
      refine pr_iload_n dX7_setBlock_88 rfl ?_
      refine zr_imul dX7_setBlock_89 ?_
      refine pr_iload dX7_setBlock_90 rfl ?_
      refine zr_iadd dX7_setBlock_92 ?_
      refine zr_iald dX7_setBlock_93 (rH_5 hj) (by omega) (by decide) ?_
      refine zr_icmp_eq (tgt := 101) dX7_setBlock_94 (by decide) (rlv_R hs2b _ _) (rkl_R hs hL _ _) (fun c94 => ?_) (fun c94 => ?_)
      · rw [show bI (¬ rlv (zu s (18 + 12 * rpl s cue + 2) (bI v)) (rpl s cue) k = (rkl s lv (12 * s 0)) (12 * rpl s cue + k)) = 0 from bI_f (not_not_intro c94)] at ih
        refine zr_iconst dX7_setBlock_101 ?_
        refine zr_iadd dX7_setBlock_102 ?_
        refine pr_istore dX7_setBlock_103 (by decide) rfl ?_
        refine zr_iinc dX7_setBlock_105 rfl (by decide) rfl ?_
        refine pr_goto (tgt := 66) dX7_setBlock_108 (by decide) ?_
        exact ih
      · rw [show bI (¬ rlv (zu s (18 + 12 * rpl s cue + 2) (bI v)) (rpl s cue) k = (rkl s lv (12 * s 0)) (12 * rpl s cue + k)) = 1 from bI_t c94] at ih
        refine zr_iconst dX7_setBlock_97 ?_
        refine pr_goto (tgt := 102) dX7_setBlock_98 (by decide) ?_
        refine zr_iadd dX7_setBlock_102 ?_
        refine pr_istore dX7_setBlock_103 (by decide) rfl ?_
        refine zr_iinc dX7_setBlock_105 rfl (by decide) rfl ?_
        refine pr_goto (tgt := 66) dX7_setBlock_108 (by decide) ?_
        exact ih
  refine pr_aload_n dX7_setBlock_0 rfl ?_
  refine pr_aload_n dX7_setBlock_1 rfl ?_
  refine pr_iload_n dX7_setBlock_2 rfl ?_
  refine zcv1i dX7_setBlock_3 pzm_7_74 pzt_X7_isCue (rH_0 hj) (kX7_isCue hj hs h1) (by decide) (Nat.le_of_ble_eq_true rfl) (by decide) ?_
  refine zr_if_eq (tgt := 13) dX7_setBlock_6 (by decide) (bI_R _) (fun c6 => by exfalso; have bb := bI_0 c6; omega) (fun c6 => ?_)
  have b6 := bI_ne c6
  refine zr_iconst dX7_setBlock_9 ?_
  refine pr_goto (tgt := 14) dX7_setBlock_10 (by decide) ?_
  refine pr_putf dX7_setBlock_14 pzf_7_42 (Or.inl rfl) (rH_0 hj) (Nat.le_of_ble_eq_true rfl) rfl rfl (rH_p7 hj) ?_
  refine pr_aload_n dX7_setBlock_17 rfl ?_
  refine pr_getf dX7_setBlock_18 pzf_7_42 (rH_0 hj) rfl ?_
  refine zr_if_le (tgt := 26) dX7_setBlock_21 (by decide) (show zR 0 by decide) (fun c21 => ?_) (fun c21 => absurd (show (0 : Int) ≤ 0 by decide) c21)
  refine pr_aload_n dX7_setBlock_26 rfl ?_
  refine zcv0u dX7_setBlock_27 pzm_7_81 pzt_X7_changes (rH_0 hj) (kX7_changes hj (by exact p0) (by exact p1)) (by decide) (Nat.le_of_ble_eq_true rfl) (by decide) ?_
  refine pr_aload_n dX7_setBlock_30 rfl ?_
  refine zcv0u dX7_setBlock_31 pzm_7_88 pzt_X7_keepLevels (rH_0 hj) (kX7_keepLevels hj hs) (by decide) (Nat.le_of_ble_eq_true rfl) (by decide) ?_
  refine pr_aload_n dX7_setBlock_34 rfl ?_
  refine pr_iload_n dX7_setBlock_35 rfl ?_
  refine zcv1i dX7_setBlock_36 pzm_7_67 pzt_X7_placeOf (rH_0 hj) (kX7_placeOf hj hs h1) (by decide) (Nat.le_of_ble_eq_true rfl) (by decide) ?_
  refine pr_istore_n dX7_setBlock_39 (by decide) rfl ?_
  refine pr_aload_n dX7_setBlock_40 rfl ?_
  refine pr_getf dX7_setBlock_41 pzf_7_9 (rH_0 hj) rfl ?_
  refine pr_iload_n dX7_setBlock_44 rfl ?_
  refine zcs1i dX7_setBlock_45 pzm_7_63 pzt_X7_at kX7_at (by decide) (Nat.le_of_ble_eq_true rfl) ?_
  refine zr_iconst dX7_setBlock_48 ?_
  refine zr_iadd dX7_setBlock_49 ?_
  refine pr_iload_n dX7_setBlock_50 rfl ?_
  refine zr_if_eq (tgt := 58) dX7_setBlock_51 (by decide) (bI_R _) (fun c51 => ?_) (fun c51 => ?_)
  · have h51 : bI v = 0 := c51
    refine zr_iconst dX7_setBlock_58 ?_
    refine zr_iast dX7_setBlock_59 (rH_1 hj) (by omega) (by decide) (rH_u1 hj) ?_
    refine zr_iconst dX7_setBlock_60 ?_
    refine pr_istore dX7_setBlock_61 (by decide) rfl ?_
    refine zr_iconst dX7_setBlock_63 ?_
    refine pr_istore dX7_setBlock_64 (by decide) rfl ?_
    rw [h51] at loop ⊢
    exact loop
  · have h51 : bI v = 1 := hv.resolve_left c51
    refine zr_iconst dX7_setBlock_54 ?_
    refine pr_goto (tgt := 59) dX7_setBlock_55 (by decide) ?_
    refine zr_iast dX7_setBlock_59 (rH_1 hj) (by omega) (by decide) (rH_u1 hj) ?_
    refine zr_iconst dX7_setBlock_60 ?_
    refine pr_istore dX7_setBlock_61 (by decide) rfl ?_
    refine zr_iconst dX7_setBlock_63 ?_
    refine pr_istore dX7_setBlock_64 (by decide) rfl ?_
    rw [h51] at loop ⊢
    exact loop
set_option maxRecDepth 100000 in
set_option maxHeartbeats 4000000 in
theorem kX7_setBlock_t (hj : oj 9 a) (hi : rI s) {cue : Int} (h1 : zR cue) {v : Prop} [dv : Decidable v] (g1 : ¬ 0 ≤ rpl s cue) : pz_Cd en 6 139 [.ref (a 0), .int (zI cue), .int (zI (bI v))] (rH h0 a s lv A F) 0 0 (pz_ret (some (.int (zI 0))) (rH h0 a s lv A (va_up F 7 1))) := by
  refine pz_in pzt_X7_setBlock ?_
  have hs := rI_B hi
  obtain ⟨hR, hs0, hs1, hs2, hs3⟩ := id hs
  obtain ⟨-, hq1, hq2, hq3, hq4, hq5, hq6, hq7, hq8, hq9, hq10, hq11, hq12, hq13⟩ := id hi
  refine pr_aload_n dX7_setBlock_0 rfl ?_
  refine pr_aload_n dX7_setBlock_1 rfl ?_
  refine pr_iload_n dX7_setBlock_2 rfl ?_
  refine zcv1i dX7_setBlock_3 pzm_7_74 pzt_X7_isCue (rH_0 hj) (kX7_isCue hj hs h1) (by decide) (Nat.le_of_ble_eq_true rfl) (by decide) ?_
  refine zr_if_eq (tgt := 13) dX7_setBlock_6 (by decide) (bI_R _) (fun c6 => ?_) (fun c6 => by exfalso; have bb := bI_ne c6; omega)
  have b6 := bI_0 c6
  refine zr_iconst dX7_setBlock_13 ?_
  refine pr_putf dX7_setBlock_14 pzf_7_42 (Or.inl rfl) (rH_0 hj) (Nat.le_of_ble_eq_true rfl) rfl rfl (rH_p7 hj) ?_
  refine pr_aload_n dX7_setBlock_17 rfl ?_
  refine pr_getf dX7_setBlock_18 pzf_7_42 (rH_0 hj) rfl ?_
  refine zr_if_le (tgt := 26) dX7_setBlock_21 (by decide) (show zR 1 by decide) (fun c21 => absurd c21 (show ¬ ((1 : Int) ≤ 0) by decide)) (fun c21 => ?_)
  refine zr_iconst dX7_setBlock_24 ?_
  exact pr_iret dX7_setBlock_25 rfl rfl (by first | exact zret rfl rfl | (exfalso; omega))
end ref
