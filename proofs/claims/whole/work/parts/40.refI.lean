/-! the reference: its face, what changes -/
theorem rRX_F (s lv b : Int → Int) (F : Nat → Int) (cue : Int) (hd : Prop) [Decidable hd] {j : Nat} (h : j ≠ 6) : (rRX s lv b F cue hd).2.2.2 j = F j := by
  unfold rRX
  split
  · split
    · exact vu_ne _ _ h
    · split
      · exact vu_ne _ _ h
      · rfl
  · rfl
section ref
variable {en : pz_Env} {h0 : pz_H} {a : Nat → Nat} {s lv : Int → Int} {A : Nat → Int → Int} {F : Nat → Int}
set_option maxRecDepth 100000 in
set_option maxHeartbeats 4000000 in
theorem kX7_removeCue_k (hj : oj 9 a) (hi : rI s) (hL : ∀ i, zR (lv i)) {cue : Int} (h1 : zR cue) {hd : Prop} [dd : Decidable hd] (hz : (rRX s lv (rcB s A) F cue hd).1 = 0) (p0 : 0 ≤ F 5) (p1 : F 5 ≤ 6) : pz_Cd en 8 166 [.ref (a 0), .int (zI cue), .int (zI (bI hd))] (rH h0 a s lv A F) 0 0 (pz_ret (some (.int (zI (rco s cue)))) (rH h0 a (rRX s lv (rcB s A) F cue hd).2.1 (rRX s lv (rcB s A) F cue hd).2.2.1 (rcA s A F) (va_up (va_up (rRX s lv (rcB s A) F cue hd).2.2.2 7 0) 5 (hPn (F 5))))) := by
  refine pz_in pzt_X7_removeCue ?_
  have hs := rI_B hi
  obtain ⟨hR, hs0, hs1, hs2, hs3⟩ := id hs
  obtain ⟨-, hq1, hq2, hq3, hq4, hq5, hq6, hq7, hq8, hq9, hq10, hq11, hq12, hq13⟩ := id hi
  have e5 := rRX_F s lv (rcB s A) F cue hd (j := 5) (by decide)
  refine pr_aload_n dX7_removeCue_0 rfl ?_
  refine pr_iload_n dX7_removeCue_1 rfl ?_
  refine zcv1i dX7_removeCue_2 pzm_7_107 pzt_X7_countOf (rH_0 hj) (kX7_countOf hj hs h1) (by decide) (Nat.le_of_ble_eq_true rfl) (by decide) ?_
  refine pr_istore_n dX7_removeCue_5 (by decide) rfl ?_
  refine pr_aload_n dX7_removeCue_6 rfl ?_
  refine zcv0u dX7_removeCue_7 pzm_7_54 pzt_X7_keepState (rH_0 hj) (kX7_keepState hj) (by decide) (Nat.le_of_ble_eq_true rfl) (by decide) ?_
  refine pr_aload_n dX7_removeCue_10 rfl ?_
  refine pr_aload_n dX7_removeCue_11 rfl ?_
  refine pr_iload_n dX7_removeCue_12 rfl ?_
  refine pr_iload_n dX7_removeCue_13 rfl ?_
  refine zcv2i dX7_removeCue_14 pzm_7_155 pzt_X7_doRemove (rH_0 hj) (kX7_doRemove hj hs hL h1) (by decide) (Nat.le_of_ble_eq_true rfl) (by decide) ?_
  rw [show (rRX s lv (va_up A 2 (zcpy s (A 2) 0 0 462) 2) F cue hd).1 = 0 from hz]
  refine pr_putf dX7_removeCue_17 pzf_7_42 (Or.inl rfl) (rH_0 hj) (Nat.le_of_ble_eq_true rfl) rfl rfl (rH_p7 hj) ?_
  refine pr_aload_n dX7_removeCue_20 rfl ?_
  refine pr_getf dX7_removeCue_21 pzf_7_42 (rH_0 hj) rfl ?_
  refine zr_if_le (tgt := 29) dX7_removeCue_24 (by decide) (show zR 0 by decide) (fun c24 => ?_) (fun c24 => absurd (show (0 : Int) ≤ 0 by decide) c24)
  refine pr_aload_n dX7_removeCue_29 rfl ?_
  refine zcv0u dX7_removeCue_30 pzm_7_57 pzt_X7_change (rH_0 hj) (kX7_change hj (show 0 ≤ (rRX s lv (rcB s A) F cue hd).2.2.2 5 by rw [e5]; exact p0) (show (rRX s lv (rcB s A) F cue hd).2.2.2 5 ≤ 6 by rw [e5]; exact p1)) (by decide) (Nat.le_of_ble_eq_true rfl) (by decide) ?_
  refine pr_iload_n dX7_removeCue_33 rfl ?_
  exact pr_iret dX7_removeCue_34 rfl rfl (zret rfl (by rw [show va_up (rRX s lv (va_up A 2 (zcpy s (A 2) 0 0 462) 2) F cue hd).2.2.2 7 0 5 = F 5 from e5]; rfl))
set_option maxRecDepth 100000 in
set_option maxHeartbeats 4000000 in
theorem kX7_removeCue_r (hj : oj 9 a) (hi : rI s) (hL : ∀ i, zR (lv i)) {cue : Int} (h1 : zR cue) {hd : Prop} [dd : Decidable hd] (hz : 0 < (rRX s lv (rcB s A) F cue hd).1) : pz_Cd en 8 166 [.ref (a 0), .int (zI cue), .int (zI (bI hd))] (rH h0 a s lv A F) 0 0 (pz_ret (some (.int (zI 0))) (rH h0 a (rRX s lv (rcB s A) F cue hd).2.1 (rRX s lv (rcB s A) F cue hd).2.2.1 (va_up A 2 (rcB s A)) (va_up (rRX s lv (rcB s A) F cue hd).2.2.2 7 (rRX s lv (rcB s A) F cue hd).1))) := by
  refine pz_in pzt_X7_removeCue ?_
  have hs := rI_B hi
  obtain ⟨hR, hs0, hs1, hs2, hs3⟩ := id hs
  obtain ⟨-, hq1, hq2, hq3, hq4, hq5, hq6, hq7, hq8, hq9, hq10, hq11, hq12, hq13⟩ := id hi
  have hc := rRX_c s lv (rcB s A) F cue hd
  refine pr_aload_n dX7_removeCue_0 rfl ?_
  refine pr_iload_n dX7_removeCue_1 rfl ?_
  refine zcv1i dX7_removeCue_2 pzm_7_107 pzt_X7_countOf (rH_0 hj) (kX7_countOf hj hs h1) (by decide) (Nat.le_of_ble_eq_true rfl) (by decide) ?_
  refine pr_istore_n dX7_removeCue_5 (by decide) rfl ?_
  refine pr_aload_n dX7_removeCue_6 rfl ?_
  refine zcv0u dX7_removeCue_7 pzm_7_54 pzt_X7_keepState (rH_0 hj) (kX7_keepState hj) (by decide) (Nat.le_of_ble_eq_true rfl) (by decide) ?_
  refine pr_aload_n dX7_removeCue_10 rfl ?_
  refine pr_aload_n dX7_removeCue_11 rfl ?_
  refine pr_iload_n dX7_removeCue_12 rfl ?_
  refine pr_iload_n dX7_removeCue_13 rfl ?_
  refine zcv2i dX7_removeCue_14 pzm_7_155 pzt_X7_doRemove (rH_0 hj) (kX7_doRemove hj hs hL h1) (by decide) (Nat.le_of_ble_eq_true rfl) (by decide) ?_
  refine pr_putf dX7_removeCue_17 pzf_7_42 (Or.inl rfl) (rH_0 hj) (Nat.le_of_ble_eq_true rfl) rfl rfl (rH_p7 hj) ?_
  refine pr_aload_n dX7_removeCue_20 rfl ?_
  refine pr_getf dX7_removeCue_21 pzf_7_42 (rH_0 hj) rfl ?_
  refine zr_if_le (tgt := 29) dX7_removeCue_24 (by decide) (show zR (rRX s lv (rcB s A) F cue hd).1 by omega) (fun c24 => absurd (show (rRX s lv (rcB s A) F cue hd).1 ≤ 0 from c24) (by omega)) (fun c24 => ?_)
  refine zr_iconst dX7_removeCue_27 ?_
  exact pr_iret dX7_removeCue_28 rfl rfl (by first | exact zret rfl rfl | (exfalso; omega))
set_option maxRecDepth 100000 in
set_option maxHeartbeats 4000000 in
theorem kX7_steps_n1 (hj : oj 9 a) (hi : rI s) (g1 : ¬ (rnx s (s 2)) = 0) (p0 : 0 ≤ F 5) (p1 : F 5 ≤ 6) : pz_Cd en 7 183 [.ref (a 0), .int (zI 0)] (rH h0 a s lv A F) 0 0 (pz_ret (some (.int (zI (rnx s (s 2))))) (rH h0 a (rgo s (rnx s (s 2))) lv (rcA s A F) (va_up (va_up F 7 0) 5 (hPn (F 5))))) := by
  refine pz_in pzt_X7_steps ?_
  have hs := rI_B hi
  obtain ⟨hR, hs0, hs1, hs2, hs3⟩ := id hs
  obtain ⟨-, hq1, hq2, hq3, hq4, hq5, hq6, hq7, hq8, hq9, hq10, hq11, hq12, hq13⟩ := id hi
  refine pr_aload_n dX7_steps_0 rfl ?_
  refine zcv0u dX7_steps_1 pzm_7_54 pzt_X7_keepState (rH_0 hj) (kX7_keepState hj) (by decide) (Nat.le_of_ble_eq_true rfl) (by decide) ?_
  refine pr_aload_n dX7_steps_4 rfl ?_
  refine pr_aload_n dX7_steps_5 rfl ?_
  refine pr_iload_n dX7_steps_6 rfl ?_
  refine zcv1i dX7_steps_7 pzm_7_177 pzt_X7_doGo (rH_0 hj) (kX7_doGo_n1 hj hi g1) (by decide) (Nat.le_of_ble_eq_true rfl) (by decide) ?_
  refine zr_if_le (tgt := 17) dX7_steps_10 (by decide) (by decide) (fun c10 => ?_) (fun c10 => by exfalso; omega)
  refine zr_iconst dX7_steps_17 ?_
  refine pr_putf dX7_steps_18 pzf_7_42 (Or.inl rfl) (rH_0 hj) (Nat.le_of_ble_eq_true rfl) rfl rfl (rH_p7 hj) ?_
  refine pr_aload_n dX7_steps_21 rfl ?_
  refine pr_getf dX7_steps_22 pzf_7_42 (rH_0 hj) rfl ?_
  refine zr_if_le (tgt := 30) dX7_steps_25 (by decide) (show zR 0 by decide) (fun c25 => ?_) (fun c25 => absurd (show (0 : Int) ≤ 0 by decide) c25)
  refine pr_aload_n dX7_steps_30 rfl ?_
  refine zcv0u dX7_steps_31 pzm_7_57 pzt_X7_change (rH_0 hj) (kX7_change hj (by exact p0) (by exact p1)) (by decide) (Nat.le_of_ble_eq_true rfl) (by decide) ?_
  refine pr_aload_n dX7_steps_34 rfl ?_
  refine pr_getf dX7_steps_35 pzf_7_9 (rH_0 hj) rfl ?_
  refine zr_iconst dX7_steps_38 ?_
  refine zr_iald dX7_steps_39 (rH_1 hj) (by omega) (by decide) ?_
  exact pr_iret dX7_steps_40 rfl rfl (zret (rgo_2 s (rnx s (s 2))) rfl)
set_option maxRecDepth 100000 in
set_option maxHeartbeats 4000000 in
theorem kX7_go_k (hj : oj 9 a) (hi : rI s) (g1 : ¬ (rnx s (s 2)) = 0) (p0 : 0 ≤ F 5) (p1 : F 5 ≤ 6) : pz_Cd en 8 184 [.ref (a 0)] (rH h0 a s lv A F) 0 0 (pz_ret (some (.int (zI (rnx s (s 2))))) (rH h0 a (rgo s (rnx s (s 2))) lv (rcA s A F) (va_up (va_up F 7 0) 5 (hPn (F 5))))) := by
  refine pz_in pzt_X7_go ?_
  have hs := rI_B hi
  obtain ⟨hR, hs0, hs1, hs2, hs3⟩ := id hs
  obtain ⟨-, hq1, hq2, hq3, hq4, hq5, hq6, hq7, hq8, hq9, hq10, hq11, hq12, hq13⟩ := id hi
  refine pr_aload_n dX7_go_0 rfl ?_
  refine zr_iconst dX7_go_1 ?_
  refine zcv1i dX7_go_2 pzm_7_181 pzt_X7_steps (rH_0 hj) (kX7_steps_n1 hj hi g1 p0 p1) (by decide) (Nat.le_of_ble_eq_true rfl) (by decide) ?_
  exact pr_iret dX7_go_5 rfl rfl (by first | exact zret rfl rfl | (exfalso; omega))
set_option maxRecDepth 100000 in
set_option maxHeartbeats 4000000 in
theorem kX7_steps_n0 (hj : oj 9 a) (hi : rI s) (g1 :  (rnx s (s 2)) = 0) : pz_Cd en 7 183 [.ref (a 0), .int (zI 0)] (rH h0 a s lv A F) 0 0 (pz_ret (some (.int (zI 0))) (rH h0 a (zcpy (rcB s A) s 0 0 462) lv (va_up A 2 (rcB s A)) (va_up (va_up F 6 4) 7 1))) := by
  refine pz_in pzt_X7_steps ?_
  have hs := rI_B hi
  obtain ⟨hR, hs0, hs1, hs2, hs3⟩ := id hs
  obtain ⟨-, hq1, hq2, hq3, hq4, hq5, hq6, hq7, hq8, hq9, hq10, hq11, hq12, hq13⟩ := id hi
  refine pr_aload_n dX7_steps_0 rfl ?_
  refine zcv0u dX7_steps_1 pzm_7_54 pzt_X7_keepState (rH_0 hj) (kX7_keepState hj) (by decide) (Nat.le_of_ble_eq_true rfl) (by decide) ?_
  refine pr_aload_n dX7_steps_4 rfl ?_
  refine pr_aload_n dX7_steps_5 rfl ?_
  refine pr_iload_n dX7_steps_6 rfl ?_
  refine zcv1i dX7_steps_7 pzm_7_177 pzt_X7_doGo (rH_0 hj) (kX7_doGo_n0 hj hi g1) (by decide) (Nat.le_of_ble_eq_true rfl) (by decide) ?_
  refine zr_if_le (tgt := 17) dX7_steps_10 (by decide) (by decide) (fun c10 => by exfalso; omega) (fun c10 => ?_)
  refine zr_iconst dX7_steps_13 ?_
  refine pr_goto (tgt := 18) dX7_steps_14 (by decide) ?_
  refine pr_putf dX7_steps_18 pzf_7_42 (Or.inl rfl) (rH_0 hj) (Nat.le_of_ble_eq_true rfl) rfl rfl (rH_p7 hj) ?_
  refine pr_aload_n dX7_steps_21 rfl ?_
  refine pr_getf dX7_steps_22 pzf_7_42 (rH_0 hj) rfl ?_
  refine zr_if_le (tgt := 30) dX7_steps_25 (by decide) (show zR 1 by decide) (fun c25 => absurd c25 (show ¬ ((1 : Int) ≤ 0) by decide)) (fun c25 => ?_)
  refine zr_iconst dX7_steps_28 ?_
  exact pr_iret dX7_steps_29 rfl rfl (by first | exact zret rfl rfl | (exfalso; omega))
set_option maxRecDepth 100000 in
set_option maxHeartbeats 4000000 in
theorem kX7_go_t (hj : oj 9 a) (hi : rI s) (g1 :  (rnx s (s 2)) = 0) : pz_Cd en 8 184 [.ref (a 0)] (rH h0 a s lv A F) 0 0 (pz_ret (some (.int (zI 0))) (rH h0 a (zcpy (rcB s A) s 0 0 462) lv (va_up A 2 (rcB s A)) (va_up (va_up F 6 4) 7 1))) := by
  refine pz_in pzt_X7_go ?_
  have hs := rI_B hi
  obtain ⟨hR, hs0, hs1, hs2, hs3⟩ := id hs
  obtain ⟨-, hq1, hq2, hq3, hq4, hq5, hq6, hq7, hq8, hq9, hq10, hq11, hq12, hq13⟩ := id hi
  refine pr_aload_n dX7_go_0 rfl ?_
  refine zr_iconst dX7_go_1 ?_
  refine zcv1i dX7_go_2 pzm_7_181 pzt_X7_steps (rH_0 hj) (kX7_steps_n0 hj hi g1) (by decide) (Nat.le_of_ble_eq_true rfl) (by decide) ?_
  exact pr_iret dX7_go_5 rfl rfl (by first | exact zret rfl rfl | (exfalso; omega))
set_option maxRecDepth 100000 in
set_option maxHeartbeats 4000000 in
theorem kX7_steps_b1 (hj : oj 9 a) (hi : rI s) (g1 : ¬ (rah s (s 2)) = 0) (p0 : 0 ≤ F 5) (p1 : F 5 ≤ 6) : pz_Cd en 7 183 [.ref (a 0), .int (zI 1)] (rH h0 a s lv A F) 0 0 (pz_ret (some (.int (zI (rah s (s 2))))) (rH h0 a (rgo s (rah s (s 2))) lv (rcA s A F) (va_up (va_up F 7 0) 5 (hPn (F 5))))) := by
  refine pz_in pzt_X7_steps ?_
  have hs := rI_B hi
  obtain ⟨hR, hs0, hs1, hs2, hs3⟩ := id hs
  obtain ⟨-, hq1, hq2, hq3, hq4, hq5, hq6, hq7, hq8, hq9, hq10, hq11, hq12, hq13⟩ := id hi
  refine pr_aload_n dX7_steps_0 rfl ?_
  refine zcv0u dX7_steps_1 pzm_7_54 pzt_X7_keepState (rH_0 hj) (kX7_keepState hj) (by decide) (Nat.le_of_ble_eq_true rfl) (by decide) ?_
  refine pr_aload_n dX7_steps_4 rfl ?_
  refine pr_aload_n dX7_steps_5 rfl ?_
  refine pr_iload_n dX7_steps_6 rfl ?_
  refine zcv1i dX7_steps_7 pzm_7_177 pzt_X7_doGo (rH_0 hj) (kX7_doGo_b1 hj hi g1) (by decide) (Nat.le_of_ble_eq_true rfl) (by decide) ?_
  refine zr_if_le (tgt := 17) dX7_steps_10 (by decide) (by decide) (fun c10 => ?_) (fun c10 => by exfalso; omega)
  refine zr_iconst dX7_steps_17 ?_
  refine pr_putf dX7_steps_18 pzf_7_42 (Or.inl rfl) (rH_0 hj) (Nat.le_of_ble_eq_true rfl) rfl rfl (rH_p7 hj) ?_
  refine pr_aload_n dX7_steps_21 rfl ?_
  refine pr_getf dX7_steps_22 pzf_7_42 (rH_0 hj) rfl ?_
  refine zr_if_le (tgt := 30) dX7_steps_25 (by decide) (show zR 0 by decide) (fun c25 => ?_) (fun c25 => absurd (show (0 : Int) ≤ 0 by decide) c25)
  refine pr_aload_n dX7_steps_30 rfl ?_
  refine zcv0u dX7_steps_31 pzm_7_57 pzt_X7_change (rH_0 hj) (kX7_change hj (by exact p0) (by exact p1)) (by decide) (Nat.le_of_ble_eq_true rfl) (by decide) ?_
  refine pr_aload_n dX7_steps_34 rfl ?_
  refine pr_getf dX7_steps_35 pzf_7_9 (rH_0 hj) rfl ?_
  refine zr_iconst dX7_steps_38 ?_
  refine zr_iald dX7_steps_39 (rH_1 hj) (by omega) (by decide) ?_
  exact pr_iret dX7_steps_40 rfl rfl (zret (rgo_2 s (rah s (s 2))) rfl)
set_option maxRecDepth 100000 in
set_option maxHeartbeats 4000000 in
theorem kX7_back_k (hj : oj 9 a) (hi : rI s) (g1 : ¬ (rah s (s 2)) = 0) (p0 : 0 ≤ F 5) (p1 : F 5 ≤ 6) : pz_Cd en 8 185 [.ref (a 0)] (rH h0 a s lv A F) 0 0 (pz_ret (some (.int (zI (rah s (s 2))))) (rH h0 a (rgo s (rah s (s 2))) lv (rcA s A F) (va_up (va_up F 7 0) 5 (hPn (F 5))))) := by
  refine pz_in pzt_X7_back ?_
  have hs := rI_B hi
  obtain ⟨hR, hs0, hs1, hs2, hs3⟩ := id hs
  obtain ⟨-, hq1, hq2, hq3, hq4, hq5, hq6, hq7, hq8, hq9, hq10, hq11, hq12, hq13⟩ := id hi
  refine pr_aload_n dX7_back_0 rfl ?_
  refine zr_iconst dX7_back_1 ?_
  refine zcv1i dX7_back_2 pzm_7_181 pzt_X7_steps (rH_0 hj) (kX7_steps_b1 hj hi g1 p0 p1) (by decide) (Nat.le_of_ble_eq_true rfl) (by decide) ?_
  exact pr_iret dX7_back_5 rfl rfl (by first | exact zret rfl rfl | (exfalso; omega))
set_option maxRecDepth 100000 in
set_option maxHeartbeats 4000000 in
theorem kX7_steps_b0 (hj : oj 9 a) (hi : rI s) (g1 :  (rah s (s 2)) = 0) : pz_Cd en 7 183 [.ref (a 0), .int (zI 1)] (rH h0 a s lv A F) 0 0 (pz_ret (some (.int (zI 0))) (rH h0 a (zcpy (rcB s A) s 0 0 462) lv (va_up A 2 (rcB s A)) (va_up (va_up F 6 5) 7 1))) := by
  refine pz_in pzt_X7_steps ?_
  have hs := rI_B hi
  obtain ⟨hR, hs0, hs1, hs2, hs3⟩ := id hs
  obtain ⟨-, hq1, hq2, hq3, hq4, hq5, hq6, hq7, hq8, hq9, hq10, hq11, hq12, hq13⟩ := id hi
  refine pr_aload_n dX7_steps_0 rfl ?_
  refine zcv0u dX7_steps_1 pzm_7_54 pzt_X7_keepState (rH_0 hj) (kX7_keepState hj) (by decide) (Nat.le_of_ble_eq_true rfl) (by decide) ?_
  refine pr_aload_n dX7_steps_4 rfl ?_
  refine pr_aload_n dX7_steps_5 rfl ?_
  refine pr_iload_n dX7_steps_6 rfl ?_
  refine zcv1i dX7_steps_7 pzm_7_177 pzt_X7_doGo (rH_0 hj) (kX7_doGo_b0 hj hi g1) (by decide) (Nat.le_of_ble_eq_true rfl) (by decide) ?_
  refine zr_if_le (tgt := 17) dX7_steps_10 (by decide) (by decide) (fun c10 => by exfalso; omega) (fun c10 => ?_)
  refine zr_iconst dX7_steps_13 ?_
  refine pr_goto (tgt := 18) dX7_steps_14 (by decide) ?_
  refine pr_putf dX7_steps_18 pzf_7_42 (Or.inl rfl) (rH_0 hj) (Nat.le_of_ble_eq_true rfl) rfl rfl (rH_p7 hj) ?_
  refine pr_aload_n dX7_steps_21 rfl ?_
  refine pr_getf dX7_steps_22 pzf_7_42 (rH_0 hj) rfl ?_
  refine zr_if_le (tgt := 30) dX7_steps_25 (by decide) (show zR 1 by decide) (fun c25 => absurd c25 (show ¬ ((1 : Int) ≤ 0) by decide)) (fun c25 => ?_)
  refine zr_iconst dX7_steps_28 ?_
  exact pr_iret dX7_steps_29 rfl rfl (by first | exact zret rfl rfl | (exfalso; omega))
set_option maxRecDepth 100000 in
set_option maxHeartbeats 4000000 in
theorem kX7_back_t (hj : oj 9 a) (hi : rI s) (g1 :  (rah s (s 2)) = 0) : pz_Cd en 8 185 [.ref (a 0)] (rH h0 a s lv A F) 0 0 (pz_ret (some (.int (zI 0))) (rH h0 a (zcpy (rcB s A) s 0 0 462) lv (va_up A 2 (rcB s A)) (va_up (va_up F 6 5) 7 1))) := by
  refine pz_in pzt_X7_back ?_
  have hs := rI_B hi
  obtain ⟨hR, hs0, hs1, hs2, hs3⟩ := id hs
  obtain ⟨-, hq1, hq2, hq3, hq4, hq5, hq6, hq7, hq8, hq9, hq10, hq11, hq12, hq13⟩ := id hi
  refine pr_aload_n dX7_back_0 rfl ?_
  refine zr_iconst dX7_back_1 ?_
  refine zcv1i dX7_back_2 pzm_7_181 pzt_X7_steps (rH_0 hj) (kX7_steps_b0 hj hi g1) (by decide) (Nat.le_of_ble_eq_true rfl) (by decide) ?_
  exact pr_iret dX7_back_5 rfl rfl (by first | exact zret rfl rfl | (exfalso; omega))
set_option maxRecDepth 100000 in
set_option maxHeartbeats 4000000 in
theorem kX7_jump_k (hj : oj 9 a) (hi : rI s) {cue : Int} (h1 : zR cue) (g1 : 0 ≤ rpl s cue) (p0 : 0 ≤ F 5) (p1 : F 5 ≤ 6) : pz_Cd en 6 186 [.ref (a 0), .int (zI cue)] (rH h0 a s lv A F) 0 0 (pz_ret (some (.int (zI (rgn s cue)))) (rH h0 a (rgo s cue) lv (rcA s A F) (va_up (va_up F 7 0) 5 (hPn (F 5))))) := by
  refine pz_in pzt_X7_jump ?_
  have hs := rI_B hi
  obtain ⟨hR, hs0, hs1, hs2, hs3⟩ := id hs
  obtain ⟨-, hq1, hq2, hq3, hq4, hq5, hq6, hq7, hq8, hq9, hq10, hq11, hq12, hq13⟩ := id hi
  refine pr_aload_n dX7_jump_0 rfl ?_
  refine pr_aload_n dX7_jump_1 rfl ?_
  refine pr_iload_n dX7_jump_2 rfl ?_
  refine zcv1i dX7_jump_3 pzm_7_74 pzt_X7_isCue (rH_0 hj) (kX7_isCue hj hs h1) (by decide) (Nat.le_of_ble_eq_true rfl) (by decide) ?_
  refine zr_if_eq (tgt := 13) dX7_jump_6 (by decide) (bI_R _) (fun c6 => by exfalso; have bb := bI_0 c6; omega) (fun c6 => ?_)
  have b6 := bI_ne c6
  refine zr_iconst dX7_jump_9 ?_
  refine pr_goto (tgt := 14) dX7_jump_10 (by decide) ?_
  refine pr_putf dX7_jump_14 pzf_7_42 (Or.inl rfl) (rH_0 hj) (Nat.le_of_ble_eq_true rfl) rfl rfl (rH_p7 hj) ?_
  refine pr_aload_n dX7_jump_17 rfl ?_
  refine pr_getf dX7_jump_18 pzf_7_42 (rH_0 hj) rfl ?_
  refine zr_if_le (tgt := 26) dX7_jump_21 (by decide) (show zR 0 by decide) (fun c21 => ?_) (fun c21 => absurd (show (0 : Int) ≤ 0 by decide) c21)
  refine pr_aload_n dX7_jump_26 rfl ?_
  refine zcv0u dX7_jump_27 pzm_7_81 pzt_X7_changes (rH_0 hj) (kX7_changes hj (by exact p0) (by exact p1)) (by decide) (Nat.le_of_ble_eq_true rfl) (by decide) ?_
  refine pr_aload_n dX7_jump_30 rfl ?_
  refine pr_iload_n dX7_jump_31 rfl ?_
  refine zcv1i dX7_jump_32 pzm_7_174 pzt_X7_goes (rH_0 hj) (kX7_goes hj hi h1 g1) (by decide) (Nat.le_of_ble_eq_true rfl) (by decide) ?_
  exact pr_iret dX7_jump_35 rfl rfl (by first | exact zret rfl rfl | (exfalso; omega))
set_option maxRecDepth 100000 in
set_option maxHeartbeats 4000000 in
theorem kX7_jump_t (hj : oj 9 a) (hi : rI s) {cue : Int} (h1 : zR cue) (g1 : ¬ 0 ≤ rpl s cue) : pz_Cd en 6 186 [.ref (a 0), .int (zI cue)] (rH h0 a s lv A F) 0 0 (pz_ret (some (.int (zI 0))) (rH h0 a s lv A (va_up F 7 1))) := by
  refine pz_in pzt_X7_jump ?_
  have hs := rI_B hi
  obtain ⟨hR, hs0, hs1, hs2, hs3⟩ := id hs
  obtain ⟨-, hq1, hq2, hq3, hq4, hq5, hq6, hq7, hq8, hq9, hq10, hq11, hq12, hq13⟩ := id hi
  refine pr_aload_n dX7_jump_0 rfl ?_
  refine pr_aload_n dX7_jump_1 rfl ?_
  refine pr_iload_n dX7_jump_2 rfl ?_
  refine zcv1i dX7_jump_3 pzm_7_74 pzt_X7_isCue (rH_0 hj) (kX7_isCue hj hs h1) (by decide) (Nat.le_of_ble_eq_true rfl) (by decide) ?_
  refine zr_if_eq (tgt := 13) dX7_jump_6 (by decide) (bI_R _) (fun c6 => ?_) (fun c6 => by exfalso; have bb := bI_ne c6; omega)
  have b6 := bI_0 c6
  refine zr_iconst dX7_jump_13 ?_
  refine pr_putf dX7_jump_14 pzf_7_42 (Or.inl rfl) (rH_0 hj) (Nat.le_of_ble_eq_true rfl) rfl rfl (rH_p7 hj) ?_
  refine pr_aload_n dX7_jump_17 rfl ?_
  refine pr_getf dX7_jump_18 pzf_7_42 (rH_0 hj) rfl ?_
  refine zr_if_le (tgt := 26) dX7_jump_21 (by decide) (show zR 1 by decide) (fun c21 => absurd c21 (show ¬ ((1 : Int) ≤ 0) by decide)) (fun c21 => ?_)
  refine zr_iconst dX7_jump_24 ?_
  exact pr_iret dX7_jump_25 rfl rfl (by first | exact zret rfl rfl | (exfalso; omega))
set_option maxRecDepth 100000 in
set_option maxHeartbeats 4000000 in
theorem kX7_pass_k (hj : oj 9 a) (hi : rI s) {t : Int} (h1 : zR t) (hz : (rPs s t).1 = 0) (p0 : 0 ≤ F 5) (p1 : F 5 ≤ 6) : pz_Cd en 7 189 [.ref (a 0), .int (zI t)] (rH h0 a s lv A F) 0 0 (pz_ret (some (.int (zI ((rPs s t).2 4 - s 4)))) (rH h0 a (rPs s t).2 lv (rcA s A F) (va_up (va_up F 7 0) 5 (hPn (F 5))))) := by
  refine pz_in pzt_X7_pass ?_
  have hs := rI_B hi
  obtain ⟨hR, hs0, hs1, hs2, hs3⟩ := id hs
  obtain ⟨-, hq1, hq2, hq3, hq4, hq5, hq6, hq7, hq8, hq9, hq10, hq11, hq12, hq13⟩ := id hi
  refine pr_aload_n dX7_pass_0 rfl ?_
  refine pr_getf dX7_pass_1 pzf_7_9 (rH_0 hj) rfl ?_
  refine zr_iconst dX7_pass_4 ?_
  refine zr_iald dX7_pass_5 (rH_1 hj) (by omega) (by decide) ?_
  refine pr_istore_n dX7_pass_6 (by decide) rfl ?_
  refine pr_aload_n dX7_pass_7 rfl ?_
  refine zcv0u dX7_pass_8 pzm_7_54 pzt_X7_keepState (rH_0 hj) (kX7_keepState hj) (by decide) (Nat.le_of_ble_eq_true rfl) (by decide) ?_
  refine pr_aload_n dX7_pass_11 rfl ?_
  refine pr_aload_n dX7_pass_12 rfl ?_
  refine pr_iload_n dX7_pass_13 rfl ?_
  refine zcv1i dX7_pass_14 pzm_7_189 pzt_X7_doPass (rH_0 hj) (kX7_doPass hj hi h1) (by decide) (Nat.le_of_ble_eq_true rfl) (by decide) ?_
  rw [hz]
  refine pr_putf dX7_pass_17 pzf_7_42 (Or.inl rfl) (rH_0 hj) (Nat.le_of_ble_eq_true rfl) rfl rfl (rH_p7 hj) ?_
  refine pr_aload_n dX7_pass_20 rfl ?_
  refine pr_getf dX7_pass_21 pzf_7_42 (rH_0 hj) rfl ?_
  refine zr_if_le (tgt := 29) dX7_pass_24 (by decide) (show zR 0 by decide) (fun c24 => ?_) (fun c24 => absurd (show (0 : Int) ≤ 0 by decide) c24)
  refine pr_aload_n dX7_pass_29 rfl ?_
  refine zcv0u dX7_pass_30 pzm_7_57 pzt_X7_change (rH_0 hj) (kX7_change hj (by exact p0) (by exact p1)) (by decide) (Nat.le_of_ble_eq_true rfl) (by decide) ?_
  refine pr_aload_n dX7_pass_33 rfl ?_
  refine pr_getf dX7_pass_34 pzf_7_9 (rH_0 hj) rfl ?_
  refine zr_iconst dX7_pass_37 ?_
  refine zr_iald dX7_pass_38 (rH_1 hj) (by omega) (by decide) ?_
  refine pr_iload_n dX7_pass_39 rfl ?_
  refine zr_isub dX7_pass_40 ?_
  exact pr_iret dX7_pass_41 rfl rfl (by first | exact zret rfl rfl | (exfalso; omega))
set_option maxRecDepth 100000 in
set_option maxHeartbeats 4000000 in
theorem kX7_pass_r (hj : oj 9 a) (hi : rI s) {t : Int} (h1 : zR t) (hz : 0 < (rPs s t).1) : pz_Cd en 7 189 [.ref (a 0), .int (zI t)] (rH h0 a s lv A F) 0 0 (pz_ret (some (.int (zI 0))) (rH h0 a (rPs s t).2 lv (va_up A 2 (rcB s A)) (va_up F 7 (rPs s t).1))) := by
  refine pz_in pzt_X7_pass ?_
  have hs := rI_B hi
  obtain ⟨hR, hs0, hs1, hs2, hs3⟩ := id hs
  obtain ⟨-, hq1, hq2, hq3, hq4, hq5, hq6, hq7, hq8, hq9, hq10, hq11, hq12, hq13⟩ := id hi
  have hc := rPs_c s t
  refine pr_aload_n dX7_pass_0 rfl ?_
  refine pr_getf dX7_pass_1 pzf_7_9 (rH_0 hj) rfl ?_
  refine zr_iconst dX7_pass_4 ?_
  refine zr_iald dX7_pass_5 (rH_1 hj) (by omega) (by decide) ?_
  refine pr_istore_n dX7_pass_6 (by decide) rfl ?_
  refine pr_aload_n dX7_pass_7 rfl ?_
  refine zcv0u dX7_pass_8 pzm_7_54 pzt_X7_keepState (rH_0 hj) (kX7_keepState hj) (by decide) (Nat.le_of_ble_eq_true rfl) (by decide) ?_
  refine pr_aload_n dX7_pass_11 rfl ?_
  refine pr_aload_n dX7_pass_12 rfl ?_
  refine pr_iload_n dX7_pass_13 rfl ?_
  refine zcv1i dX7_pass_14 pzm_7_189 pzt_X7_doPass (rH_0 hj) (kX7_doPass hj hi h1) (by decide) (Nat.le_of_ble_eq_true rfl) (by decide) ?_
  refine pr_putf dX7_pass_17 pzf_7_42 (Or.inl rfl) (rH_0 hj) (Nat.le_of_ble_eq_true rfl) rfl rfl (rH_p7 hj) ?_
  refine pr_aload_n dX7_pass_20 rfl ?_
  refine pr_getf dX7_pass_21 pzf_7_42 (rH_0 hj) rfl ?_
  refine zr_if_le (tgt := 29) dX7_pass_24 (by decide) (show zR (rPs s t).1 by omega) (fun c24 => absurd (show (rPs s t).1 ≤ 0 from c24) (by omega)) (fun c24 => ?_)
  refine zr_iconst dX7_pass_27 ?_
  exact pr_iret dX7_pass_28 rfl rfl (by first | exact zret rfl rfl | (exfalso; omega))
end ref
