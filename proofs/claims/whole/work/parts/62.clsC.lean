/-! the class: entries of the input -/
def cM (inp M : Int → Int) (ln pl : Int) : Int → Int := if pl < ln then if inp pl = 103 then M else if inp pl = 99 ∨ inp pl = 120 ∨ inp pl = 106 then (zu M 0 (pNo inp ln 2 (pl + 1, 0)).1) else if inp pl = 116 then (zu M 0 (pNo inp ln 4 (pl + 1, 0)).1) else if inp pl = 114 then (if (pSg inp ln 47 (pNo inp ln 2 (pl + 1, 0)).2).2 = 0 then zu (zu M 0 (pNo inp ln 2 (pl + 1, 0)).1) 1 (pNo inp ln 2 (pSg inp ln 47 (pNo inp ln 2 (pl + 1, 0)).2)).1 else zu M 0 (pNo inp ln 2 (pl + 1, 0)).1) else if inp pl = 115 then (if (pSg inp ln 64 (pNo inp ln 2 (pSg inp ln 47 (pNo inp ln 2 (pl + 1, 0)).2)).2).2 = 0 then zu (zu (zu M 0 (pNo inp ln 2 (pl + 1, 0)).1) 1 (pNo inp ln 2 (pSg inp ln 47 (pNo inp ln 2 (pl + 1, 0)).2)).1) 2 (pNo inp ln 3 (pSg inp ln 64 (pNo inp ln 2 (pSg inp ln 47 (pNo inp ln 2 (pl + 1, 0)).2)).2)).1 else if (pSg inp ln 47 (pNo inp ln 2 (pl + 1, 0)).2).2 = 0 then zu (zu M 0 (pNo inp ln 2 (pl + 1, 0)).1) 1 (pNo inp ln 2 (pSg inp ln 47 (pNo inp ln 2 (pl + 1, 0)).2)).1 else zu M 0 (pNo inp ln 2 (pl + 1, 0)).1) else M else M
def cEn (inp M : Int → Int) (ln pl : Int) : (Int × Int) × (Int → Int) := ((pEn inp M ln pl 0).1, cM inp M ln pl)
theorem cEn_g {inp M : Int → Int} {ln pl : Int} (hc : pl < ln) (hk : inp pl = 103) : cEn inp M ln pl = ((pSg inp ln 59 (pl + 1, 0)), M) := by
  unfold cEn pEn cM
  rw [if_pos hc, if_pos hc]
  rw [if_pos hk, if_pos hk]
theorem cEn_1 {inp M : Int → Int} {ln pl : Int} (hc : pl < ln) (hk : inp pl = 99 ∨ inp pl = 120 ∨ inp pl = 106) : cEn inp M ln pl = ((pSg inp ln 59 (pNo inp ln 2 (pl + 1, 0)).2), (zu M 0 (pNo inp ln 2 (pl + 1, 0)).1)) := by
  unfold cEn pEn cM
  rw [if_pos hc, if_pos hc]
  repeat (first | rw [if_pos hk] | rw [if_neg (by omega)])
theorem cEn_t {inp M : Int → Int} {ln pl : Int} (hc : pl < ln) (hk : inp pl = 116) : cEn inp M ln pl = ((pSg inp ln 59 (pNo inp ln 4 (pl + 1, 0)).2), (zu M 0 (pNo inp ln 4 (pl + 1, 0)).1)) := by
  unfold cEn pEn cM
  rw [if_pos hc, if_pos hc]
  repeat (first | rw [if_pos hk] | rw [if_neg (by omega)])
theorem cEn_r {inp M : Int → Int} {ln pl : Int} (hc : pl < ln) (hk : inp pl = 114) : cEn inp M ln pl = ((pSg inp ln 59 (pNo inp ln 2 (pSg inp ln 47 (pNo inp ln 2 (pl + 1, 0)).2)).2), (if (pSg inp ln 47 (pNo inp ln 2 (pl + 1, 0)).2).2 = 0 then zu (zu M 0 (pNo inp ln 2 (pl + 1, 0)).1) 1 (pNo inp ln 2 (pSg inp ln 47 (pNo inp ln 2 (pl + 1, 0)).2)).1 else zu M 0 (pNo inp ln 2 (pl + 1, 0)).1)) := by
  unfold cEn pEn cM
  rw [if_pos hc, if_pos hc]
  repeat (first | rw [if_pos hk] | rw [if_neg (by omega)])
theorem cEn_s {inp M : Int → Int} {ln pl : Int} (hc : pl < ln) (hk : inp pl = 115) : cEn inp M ln pl = ((pSg inp ln 59 (pNo inp ln 3 (pSg inp ln 64 (pNo inp ln 2 (pSg inp ln 47 (pNo inp ln 2 (pl + 1, 0)).2)).2)).2), (if (pSg inp ln 64 (pNo inp ln 2 (pSg inp ln 47 (pNo inp ln 2 (pl + 1, 0)).2)).2).2 = 0 then zu (zu (zu M 0 (pNo inp ln 2 (pl + 1, 0)).1) 1 (pNo inp ln 2 (pSg inp ln 47 (pNo inp ln 2 (pl + 1, 0)).2)).1) 2 (pNo inp ln 3 (pSg inp ln 64 (pNo inp ln 2 (pSg inp ln 47 (pNo inp ln 2 (pl + 1, 0)).2)).2)).1 else if (pSg inp ln 47 (pNo inp ln 2 (pl + 1, 0)).2).2 = 0 then zu (zu M 0 (pNo inp ln 2 (pl + 1, 0)).1) 1 (pNo inp ln 2 (pSg inp ln 47 (pNo inp ln 2 (pl + 1, 0)).2)).1 else zu M 0 (pNo inp ln 2 (pl + 1, 0)).1)) := by
  unfold cEn pEn cM
  rw [if_pos hc, if_pos hc]
  repeat (first | rw [if_pos hk] | rw [if_neg (by omega)])
theorem fit_char {x : Int} (h : 0 ≤ x ∧ x < 65536) : fits .char (.int (zI x)) = true := by
  show (decide ((0 : Int32) ≤ zI x) && decide (zI x ≤ (65535 : Int32))) = true
  have h1 : zI 0 ≤ zI x := (zI_le ⟨by decide, by decide⟩ ⟨by omega, by omega⟩).mpr h.1
  have h2 : zI x ≤ zI 65535 := (zI_le ⟨by omega, by omega⟩ ⟨by decide, by decide⟩).mpr (by omega)
  rw [Bool.and_eq_true]
  exact ⟨decide_eq_true h1, decide_eq_true h2⟩
theorem cEn_x {inp M : Int → Int} {ln pl : Int} (hc : pl < ln) (hk : pNc (inp pl) = -1) : cEn inp M ln pl = ((pl, 1), M) := by
  have h : ¬ inp pl = 103 ∧ ¬ (inp pl = 99 ∨ inp pl = 120 ∨ inp pl = 106) ∧ ¬ inp pl = 116 ∧ ¬ inp pl = 114 ∧ ¬ inp pl = 115 := by
    unfold pNc at hk
    refine ⟨fun e => ?_, fun e => ?_, fun e => ?_, fun e => ?_, fun e => ?_⟩
    · rw [if_pos e] at hk; omega
    · rw [if_neg (by omega), if_pos (by omega)] at hk; omega
    · rw [if_neg (by omega), if_pos (by omega)] at hk; omega
    · rw [if_neg (by omega), if_neg (by omega), if_pos e] at hk; omega
    · rw [if_neg (by omega), if_neg (by omega), if_neg (by omega), if_pos e] at hk; omega
  unfold cEn pEn cM
  rw [if_pos hc, if_pos hc, if_neg h.1, if_neg h.1, if_neg h.2.1, if_neg h.2.1, if_neg h.2.2.1, if_neg h.2.2.1, if_neg h.2.2.2.1, if_neg h.2.2.2.1, if_neg h.2.2.2.2, if_neg h.2.2.2.2]
theorem cEn_o {inp M : Int → Int} {ln pl : Int} (hc : ¬ pl < ln) : cEn inp M ln pl = ((pl, 1), M) := by
  unfold cEn pEn cM
  rw [if_neg hc, if_neg hc]
theorem pSg_f {inp : Int → Int} {ln c : Int} {x : Int × Int} (h : ¬ x.2 = 0) : pSg inp ln c x = (x.1, 1) := if_neg (fun z => h z.1)
theorem pNo_f {inp : Int → Int} {ln d : Int} {x : Int × Int} (h : ¬ x.2 = 0) : pNo inp ln d x = (0, x.1, 1) := if_neg (fun z => h z.1)
theorem pr_et {x : Int × Int} (h : x.2 = 0) : (x.1, (0 : Int)) = x := Prod.ext rfl h.symm
section cls
variable {en : pz_Env} {h : pz_H} {t u : Int → Nat} {K : Int → Int → Int} {pl kd : Int} {M : Int → Int}
theorem kX3_numberCount {c : Int} (c1 : zR c) : pz_Cd en 1 51 [.int (zI c)] h 0 0 (pz_ret (some (.int (zI (pNc c)))) h) := by
  refine pz_in pzt_X3_numberCount ?_
  refine pr_iload_n dX3_numberCount_0 rfl ?_
  by_cases g : c < 99 ∨ 120 < c
  · refine pr_tsout (tgt := 118) dX3_numberCount_1 (by rw [zI_toInt c1]; exact g) (by decide) ?_
    refine zr_iconst dX3_numberCount_118 ?_
    exact pr_iret dX3_numberCount_119 rfl rfl (zret (by unfold pNc; rw [if_neg (by omega), if_neg (by omega), if_neg (by omega), if_neg (by omega)]))
  · rcases (show c = 99 ∨ c = 100 ∨ c = 101 ∨ c = 102 ∨ c = 103 ∨ c = 104 ∨ c = 105 ∨ c = 106 ∨ c = 107 ∨ c = 108 ∨ c = 109 ∨ c = 110 ∨ c = 111 ∨ c = 112 ∨ c = 113 ∨ c = 114 ∨ c = 115 ∨ c = 116 ∨ c = 117 ∨ c = 118 ∨ c = 119 ∨ c = 120 by omega) with rfl | rfl | rfl | rfl | rfl | rfl | rfl | rfl | rfl | rfl | rfl | rfl | rfl | rfl | rfl | rfl | rfl | rfl | rfl | rfl | rfl | rfl
    · refine pr_tsin (off := 105) (tgt := 106) dX3_numberCount_1 (by decide) (by decide) (by decide) (by decide) ?_
      refine zr_iconst dX3_numberCount_106 ?_
      exact pr_iret dX3_numberCount_107 rfl rfl (zret (by decide))
    · refine pr_tsin (off := 117) (tgt := 118) dX3_numberCount_1 (by decide) (by decide) (by decide) (by decide) ?_
      refine zr_iconst dX3_numberCount_118 ?_
      exact pr_iret dX3_numberCount_119 rfl rfl (zret (by decide))
    · refine pr_tsin (off := 117) (tgt := 118) dX3_numberCount_1 (by decide) (by decide) (by decide) (by decide) ?_
      refine zr_iconst dX3_numberCount_118 ?_
      exact pr_iret dX3_numberCount_119 rfl rfl (zret (by decide))
    · refine pr_tsin (off := 117) (tgt := 118) dX3_numberCount_1 (by decide) (by decide) (by decide) (by decide) ?_
      refine zr_iconst dX3_numberCount_118 ?_
      exact pr_iret dX3_numberCount_119 rfl rfl (zret (by decide))
    · refine pr_tsin (off := 103) (tgt := 104) dX3_numberCount_1 (by decide) (by decide) (by decide) (by decide) ?_
      refine zr_iconst dX3_numberCount_104 ?_
      exact pr_iret dX3_numberCount_105 rfl rfl (zret (by decide))
    · refine pr_tsin (off := 117) (tgt := 118) dX3_numberCount_1 (by decide) (by decide) (by decide) (by decide) ?_
      refine zr_iconst dX3_numberCount_118 ?_
      exact pr_iret dX3_numberCount_119 rfl rfl (zret (by decide))
    · refine pr_tsin (off := 117) (tgt := 118) dX3_numberCount_1 (by decide) (by decide) (by decide) (by decide) ?_
      refine zr_iconst dX3_numberCount_118 ?_
      exact pr_iret dX3_numberCount_119 rfl rfl (zret (by decide))
    · refine pr_tsin (off := 109) (tgt := 110) dX3_numberCount_1 (by decide) (by decide) (by decide) (by decide) ?_
      refine zr_iconst dX3_numberCount_110 ?_
      exact pr_iret dX3_numberCount_111 rfl rfl (zret (by decide))
    · refine pr_tsin (off := 117) (tgt := 118) dX3_numberCount_1 (by decide) (by decide) (by decide) (by decide) ?_
      refine zr_iconst dX3_numberCount_118 ?_
      exact pr_iret dX3_numberCount_119 rfl rfl (zret (by decide))
    · refine pr_tsin (off := 117) (tgt := 118) dX3_numberCount_1 (by decide) (by decide) (by decide) (by decide) ?_
      refine zr_iconst dX3_numberCount_118 ?_
      exact pr_iret dX3_numberCount_119 rfl rfl (zret (by decide))
    · refine pr_tsin (off := 117) (tgt := 118) dX3_numberCount_1 (by decide) (by decide) (by decide) (by decide) ?_
      refine zr_iconst dX3_numberCount_118 ?_
      exact pr_iret dX3_numberCount_119 rfl rfl (zret (by decide))
    · refine pr_tsin (off := 117) (tgt := 118) dX3_numberCount_1 (by decide) (by decide) (by decide) (by decide) ?_
      refine zr_iconst dX3_numberCount_118 ?_
      exact pr_iret dX3_numberCount_119 rfl rfl (zret (by decide))
    · refine pr_tsin (off := 117) (tgt := 118) dX3_numberCount_1 (by decide) (by decide) (by decide) (by decide) ?_
      refine zr_iconst dX3_numberCount_118 ?_
      exact pr_iret dX3_numberCount_119 rfl rfl (zret (by decide))
    · refine pr_tsin (off := 117) (tgt := 118) dX3_numberCount_1 (by decide) (by decide) (by decide) (by decide) ?_
      refine zr_iconst dX3_numberCount_118 ?_
      exact pr_iret dX3_numberCount_119 rfl rfl (zret (by decide))
    · refine pr_tsin (off := 117) (tgt := 118) dX3_numberCount_1 (by decide) (by decide) (by decide) (by decide) ?_
      refine zr_iconst dX3_numberCount_118 ?_
      exact pr_iret dX3_numberCount_119 rfl rfl (zret (by decide))
    · refine pr_tsin (off := 113) (tgt := 114) dX3_numberCount_1 (by decide) (by decide) (by decide) (by decide) ?_
      refine zr_iconst dX3_numberCount_114 ?_
      exact pr_iret dX3_numberCount_115 rfl rfl (zret (by decide))
    · refine pr_tsin (off := 115) (tgt := 116) dX3_numberCount_1 (by decide) (by decide) (by decide) (by decide) ?_
      refine zr_iconst dX3_numberCount_116 ?_
      exact pr_iret dX3_numberCount_117 rfl rfl (zret (by decide))
    · refine pr_tsin (off := 111) (tgt := 112) dX3_numberCount_1 (by decide) (by decide) (by decide) (by decide) ?_
      refine zr_iconst dX3_numberCount_112 ?_
      exact pr_iret dX3_numberCount_113 rfl rfl (zret (by decide))
    · refine pr_tsin (off := 117) (tgt := 118) dX3_numberCount_1 (by decide) (by decide) (by decide) (by decide) ?_
      refine zr_iconst dX3_numberCount_118 ?_
      exact pr_iret dX3_numberCount_119 rfl rfl (zret (by decide))
    · refine pr_tsin (off := 117) (tgt := 118) dX3_numberCount_1 (by decide) (by decide) (by decide) (by decide) ?_
      refine zr_iconst dX3_numberCount_118 ?_
      exact pr_iret dX3_numberCount_119 rfl rfl (zret (by decide))
    · refine pr_tsin (off := 117) (tgt := 118) dX3_numberCount_1 (by decide) (by decide) (by decide) (by decide) ?_
      refine zr_iconst dX3_numberCount_118 ?_
      exact pr_iret dX3_numberCount_119 rfl rfl (zret (by decide))
    · refine pr_tsin (off := 107) (tgt := 108) dX3_numberCount_1 (by decide) (by decide) (by decide) (by decide) ?_
      refine zr_iconst dX3_numberCount_108 ?_
      exact pr_iret dX3_numberCount_109 rfl rfl (zret (by decide))
set_option maxRecDepth 100000 in
set_option maxHeartbeats 4000000 in
theorem kX3_readEntry_o (hj : tj t) (hA : ∀ i, 0 ≤ K 4 i ∧ K 4 i < 65536) (l1 : 0 ≤ pl) (l2 : pl ≤ K 3 1) (l3 : K 3 1 ≤ 60) (hc : ¬ pl < K 3 1) : pz_Cd en 3 50 [.ref (t 3)] (tH h t u (kS K pl kd M)) 0 0 (pz_ret (some (.int (zI (bI ((cEn (K 4) M (K 3 1) pl).1.2 = 0))))) (tH h t u (kS K (cEn (K 4) M (K 3 1) pl).1.1 (if pl < K 3 1 then K 4 pl else kd) (cEn (K 4) M (K 3 1) pl).2))) := by
  refine pz_in pzt_X3_readEntry ?_
  rw [cEn_o hc, if_neg hc]
  refine pr_aload_n dX3_readEntry_0 rfl ?_
  refine pr_getf dX3_readEntry_1 pzf_3_19 (tH_3 hj) rfl ?_
  refine pr_aload_n dX3_readEntry_4 rfl ?_
  refine pr_getf dX3_readEntry_5 pzf_3_27 (tH_3 hj) rfl ?_
  simp only [kS_1, kS_2, kS_3, kS_4, kS_5]
  refine zr_icmp_lt (tgt := 13) dX3_readEntry_8 (by decide) (by omega) (by omega) (fun c8 => by exfalso; omega) (fun c8 => ?_)
  refine zr_iconst dX3_readEntry_11 ?_
  exact pr_iret dX3_readEntry_12 rfl rfl (zret (bI_f (show ¬ (1 : Int) = 0 by decide)).symm)
set_option maxRecDepth 100000 in
set_option maxHeartbeats 4000000 in
theorem kX3_readEntry_x (hj : tj t) (hA : ∀ i, 0 ≤ K 4 i ∧ K 4 i < 65536) (l1 : 0 ≤ pl) (l2 : pl ≤ K 3 1) (l3 : K 3 1 ≤ 60) (hc : pl < K 3 1) (hk : pNc (K 4 pl) = -1) : pz_Cd en 3 50 [.ref (t 3)] (tH h t u (kS K pl kd M)) 0 0 (pz_ret (some (.int (zI (bI ((cEn (K 4) M (K 3 1) pl).1.2 = 0))))) (tH h t u (kS K (cEn (K 4) M (K 3 1) pl).1.1 (if pl < K 3 1 then K 4 pl else kd) (cEn (K 4) M (K 3 1) pl).2))) := by
  refine pz_in pzt_X3_readEntry ?_
  have hcc := hA pl
  rw [cEn_x hc hk, if_pos hc]
  refine pr_aload_n dX3_readEntry_0 rfl ?_
  refine pr_getf dX3_readEntry_1 pzf_3_19 (tH_3 hj) rfl ?_
  refine pr_aload_n dX3_readEntry_4 rfl ?_
  refine pr_getf dX3_readEntry_5 pzf_3_27 (tH_3 hj) rfl ?_
  simp only [kS_1, kS_2, kS_3, kS_4, kS_5]
  refine zr_icmp_lt (tgt := 13) dX3_readEntry_8 (by decide) (by omega) (by omega) (fun c8 => ?_) (fun c8 => by exfalso; omega)
  refine pr_aload_n dX3_readEntry_13 rfl ?_
  refine pr_aload_n dX3_readEntry_14 rfl ?_
  refine pr_getf dX3_readEntry_15 pzf_3_9 (tH_3 hj) rfl ?_
  refine pr_aload_n dX3_readEntry_18 rfl ?_
  refine pr_getf dX3_readEntry_19 pzf_3_19 (tH_3 hj) rfl ?_
  simp only [kS_1, kS_2, kS_3, kS_4, kS_5]
  refine zr_cald dX3_readEntry_22 (tH_4 hj) (by omega) (by decide) ?_
  refine pr_putf dX3_readEntry_23 pzf_3_30 (Or.inl rfl) (tH_3 hj) (Nat.le_of_ble_eq_true rfl) (congrArg Value.int (nar_char (hA pl))) (fit_char (hA pl)) ((tH_p3_3 hj).trans (tH_eq kS_k)) ?_
  refine pr_aload_n dX3_readEntry_26 rfl ?_
  refine pr_getf dX3_readEntry_27 pzf_3_30 (tH_3 hj) rfl ?_
  simp only [kS_1, kS_2, kS_3, kS_4, kS_5]
  refine zcs1i dX3_readEntry_30 pzm_3_34 pzt_X3_numberCount (kX3_numberCount (by omega)) (by decide) (Nat.le_of_ble_eq_true rfl) ?_
  refine pr_istore_n dX3_readEntry_33 (by decide) rfl ?_
  refine pr_iload_n dX3_readEntry_34 rfl ?_
  refine zr_if_ge (tgt := 40) dX3_readEntry_35 (by decide) (by omega) (fun c35 => by exfalso; omega) (fun c35 => ?_)
  refine zr_iconst dX3_readEntry_38 ?_
  exact pr_iret dX3_readEntry_39 rfl rfl (zret (bI_f (show ¬ (1 : Int) = 0 by decide)).symm)
set_option maxRecDepth 100000 in
set_option maxHeartbeats 4000000 in
theorem kX3_readEntry_g (hj : tj t) (hA : ∀ i, 0 ≤ K 4 i ∧ K 4 i < 65536) (l1 : 0 ≤ pl) (l2 : pl ≤ K 3 1) (l3 : K 3 1 ≤ 60) (hc : pl < K 3 1) (hk : K 4 pl = 103) : pz_Cd en 3 50 [.ref (t 3)] (tH h t u (kS K pl kd M)) 0 0 (pz_ret (some (.int (zI (bI ((cEn (K 4) M (K 3 1) pl).1.2 = 0))))) (tH h t u (kS K (cEn (K 4) M (K 3 1) pl).1.1 (if pl < K 3 1 then K 4 pl else kd) (cEn (K 4) M (K 3 1) pl).2))) := by
  refine pz_in pzt_X3_readEntry ?_
  have hcc := hA pl
  rw [cEn_g hc hk, if_pos hc]
  have nc : pNc (K 4 pl) = 0 := by
    unfold pNc
    repeat (first | rw [if_pos (by omega)] | rw [if_neg (by omega)])
  have d0 : pDg (K 4 pl) 0 = 2 := by
    unfold pDg
    repeat (first | rw [if_pos (by omega)] | rw [if_neg (by omega)])
  have b1 := pNo_R (inp := K 4) (ln := K 3 1) (d := 2) (x := (pl + 1, 0)) (show pl + 1 ≤ K 3 1 by omega)
  have b1a : pl + 1 ≤ (pNo (K 4) (K 3 1) 2 (pl + 1, 0)).2.1 := b1.1
  refine pr_aload_n dX3_readEntry_0 rfl ?_
  refine pr_getf dX3_readEntry_1 pzf_3_19 (tH_3 hj) rfl ?_
  refine pr_aload_n dX3_readEntry_4 rfl ?_
  refine pr_getf dX3_readEntry_5 pzf_3_27 (tH_3 hj) rfl ?_
  simp only [kS_1, kS_2, kS_3, kS_4, kS_5]
  refine zr_icmp_lt (tgt := 13) dX3_readEntry_8 (by decide) (by omega) (by omega) (fun c8 => ?_) (fun c8 => by exfalso; omega)
  refine pr_aload_n dX3_readEntry_13 rfl ?_
  refine pr_aload_n dX3_readEntry_14 rfl ?_
  refine pr_getf dX3_readEntry_15 pzf_3_9 (tH_3 hj) rfl ?_
  refine pr_aload_n dX3_readEntry_18 rfl ?_
  refine pr_getf dX3_readEntry_19 pzf_3_19 (tH_3 hj) rfl ?_
  simp only [kS_1, kS_2, kS_3, kS_4, kS_5]
  refine zr_cald dX3_readEntry_22 (tH_4 hj) (by omega) (by decide) ?_
  refine pr_putf dX3_readEntry_23 pzf_3_30 (Or.inl rfl) (tH_3 hj) (Nat.le_of_ble_eq_true rfl) (congrArg Value.int (nar_char (hA pl))) (fit_char (hA pl)) ((tH_p3_3 hj).trans (tH_eq kS_k)) ?_
  refine pr_aload_n dX3_readEntry_26 rfl ?_
  refine pr_getf dX3_readEntry_27 pzf_3_30 (tH_3 hj) rfl ?_
  simp only [kS_1, kS_2, kS_3, kS_4, kS_5]
  refine zcs1i dX3_readEntry_30 pzm_3_34 pzt_X3_numberCount (kX3_numberCount (by omega)) (by decide) (Nat.le_of_ble_eq_true rfl) ?_
  rw [nc]
  refine pr_istore_n dX3_readEntry_33 (by decide) rfl ?_
  refine pr_iload_n dX3_readEntry_34 rfl ?_
  refine zr_if_ge (tgt := 40) dX3_readEntry_35 (by decide) (by omega) (fun c35 => ?_) (fun c35 => by exfalso; omega)
  refine pr_aload_n dX3_readEntry_40 rfl ?_
  refine pr_dup dX3_readEntry_41 rfl ?_
  refine pr_getf dX3_readEntry_42 pzf_3_19 (tH_3 hj) rfl ?_
  refine zr_iconst dX3_readEntry_45 ?_
  refine zr_iadd dX3_readEntry_46 ?_
  simp only [kS_1, kS_2, kS_3, kS_4, kS_5]
  refine pr_putf dX3_readEntry_47 pzf_3_19 (Or.inl rfl) (tH_3 hj) (Nat.le_of_ble_eq_true rfl) rfl rfl ((tH_p3_2 hj).trans (tH_eq kS_p)) ?_
  refine zr_iconst dX3_readEntry_50 ?_
  refine pr_istore_n dX3_readEntry_51 (by decide) rfl ?_
  refine pr_iload_n dX3_readEntry_52 rfl ?_
  refine pr_iload_n dX3_readEntry_53 rfl ?_
  refine zr_icmp_ge (tgt := 98) dX3_readEntry_54 (by decide) (by omega) (by omega) (fun c54 => ?_) (fun c54 => by exfalso; omega)
  refine pr_aload_n dX3_readEntry_98 rfl ?_
  refine zr_bipush dX3_readEntry_99 (by decide) ?_
  refine zcv1i dX3_readEntry_101 pzm_3_38 pzt_X3_readSign (tH_3 hj) (kX3_readSign hj hA (by omega) (by omega) l3 (by omega)) (by decide) (Nat.le_of_ble_eq_true rfl) (by decide) ?_
  exact pr_iret dX3_readEntry_104 rfl (nar_bI _) (zret (by rfl))
set_option maxRecDepth 100000 in
set_option maxHeartbeats 4000000 in
theorem kX3_readEntry_1 (hj : tj t) (hA : ∀ i, 0 ≤ K 4 i ∧ K 4 i < 65536) (l1 : 0 ≤ pl) (l2 : pl ≤ K 3 1) (l3 : K 3 1 ≤ 60) (hc : pl < K 3 1) (hk : K 4 pl = 99 ∨ K 4 pl = 120 ∨ K 4 pl = 106) : pz_Cd en 3 50 [.ref (t 3)] (tH h t u (kS K pl kd M)) 0 0 (pz_ret (some (.int (zI (bI ((cEn (K 4) M (K 3 1) pl).1.2 = 0))))) (tH h t u (kS K (cEn (K 4) M (K 3 1) pl).1.1 (if pl < K 3 1 then K 4 pl else kd) (cEn (K 4) M (K 3 1) pl).2))) := by
  refine pz_in pzt_X3_readEntry ?_
  have hcc := hA pl
  rw [cEn_1 hc hk, if_pos hc]
  have nc : pNc (K 4 pl) = 1 := by
    unfold pNc
    repeat (first | rw [if_pos (by omega)] | rw [if_neg (by omega)])
  have d0 : pDg (K 4 pl) 0 = 2 := by
    unfold pDg
    repeat (first | rw [if_pos (by omega)] | rw [if_neg (by omega)])
  have b1 := pNo_R (inp := K 4) (ln := K 3 1) (d := 2) (x := (pl + 1, 0)) (show pl + 1 ≤ K 3 1 by omega)
  have b1a : pl + 1 ≤ (pNo (K 4) (K 3 1) 2 (pl + 1, 0)).2.1 := b1.1
  refine pr_aload_n dX3_readEntry_0 rfl ?_
  refine pr_getf dX3_readEntry_1 pzf_3_19 (tH_3 hj) rfl ?_
  refine pr_aload_n dX3_readEntry_4 rfl ?_
  refine pr_getf dX3_readEntry_5 pzf_3_27 (tH_3 hj) rfl ?_
  simp only [kS_1, kS_2, kS_3, kS_4, kS_5]
  refine zr_icmp_lt (tgt := 13) dX3_readEntry_8 (by decide) (by omega) (by omega) (fun c8 => ?_) (fun c8 => by exfalso; omega)
  refine pr_aload_n dX3_readEntry_13 rfl ?_
  refine pr_aload_n dX3_readEntry_14 rfl ?_
  refine pr_getf dX3_readEntry_15 pzf_3_9 (tH_3 hj) rfl ?_
  refine pr_aload_n dX3_readEntry_18 rfl ?_
  refine pr_getf dX3_readEntry_19 pzf_3_19 (tH_3 hj) rfl ?_
  simp only [kS_1, kS_2, kS_3, kS_4, kS_5]
  refine zr_cald dX3_readEntry_22 (tH_4 hj) (by omega) (by decide) ?_
  refine pr_putf dX3_readEntry_23 pzf_3_30 (Or.inl rfl) (tH_3 hj) (Nat.le_of_ble_eq_true rfl) (congrArg Value.int (nar_char (hA pl))) (fit_char (hA pl)) ((tH_p3_3 hj).trans (tH_eq kS_k)) ?_
  refine pr_aload_n dX3_readEntry_26 rfl ?_
  refine pr_getf dX3_readEntry_27 pzf_3_30 (tH_3 hj) rfl ?_
  simp only [kS_1, kS_2, kS_3, kS_4, kS_5]
  refine zcs1i dX3_readEntry_30 pzm_3_34 pzt_X3_numberCount (kX3_numberCount (by omega)) (by decide) (Nat.le_of_ble_eq_true rfl) ?_
  rw [nc]
  refine pr_istore_n dX3_readEntry_33 (by decide) rfl ?_
  refine pr_iload_n dX3_readEntry_34 rfl ?_
  refine zr_if_ge (tgt := 40) dX3_readEntry_35 (by decide) (by omega) (fun c35 => ?_) (fun c35 => by exfalso; omega)
  refine pr_aload_n dX3_readEntry_40 rfl ?_
  refine pr_dup dX3_readEntry_41 rfl ?_
  refine pr_getf dX3_readEntry_42 pzf_3_19 (tH_3 hj) rfl ?_
  refine zr_iconst dX3_readEntry_45 ?_
  refine zr_iadd dX3_readEntry_46 ?_
  simp only [kS_1, kS_2, kS_3, kS_4, kS_5]
  refine pr_putf dX3_readEntry_47 pzf_3_19 (Or.inl rfl) (tH_3 hj) (Nat.le_of_ble_eq_true rfl) rfl rfl ((tH_p3_2 hj).trans (tH_eq kS_p)) ?_
  refine zr_iconst dX3_readEntry_50 ?_
  refine pr_istore_n dX3_readEntry_51 (by decide) rfl ?_
  refine pr_iload_n dX3_readEntry_52 rfl ?_
  refine pr_iload_n dX3_readEntry_53 rfl ?_
  refine zr_icmp_ge (tgt := 98) dX3_readEntry_54 (by decide) (by omega) (by omega) (fun c54 => by exfalso; omega) (fun c54 => ?_)
  refine pr_iload_n dX3_readEntry_57 rfl ?_
  refine zr_if_le (tgt := 82) dX3_readEntry_58 (by decide) (by omega) (fun c58 => ?_) (fun c58 => by exfalso; omega)
  refine pr_aload_n dX3_readEntry_82 rfl ?_
  refine pr_iload_n dX3_readEntry_83 rfl ?_
  refine zcv1i dX3_readEntry_84 pzm_3_42 pzt_X3_readNumber (tH_3 hj) (kX3_readNumber hj hA (by omega) (by omega) l3 (by omega) (by omega) (show zR (K 4 pl) by omega)) (by decide) (Nat.le_of_ble_eq_true rfl) (by decide) ?_
  rw [d0]
  refine zr_if_ne (tgt := 92) dX3_readEntry_87 (by decide) (bI_R _) (fun c87 => ?_) (fun c87 => ?_)
  · have b87 := bI_ne c87
    have q0 := pr_et (x := (pNo (K 4) (K 3 1) 2 (pl + 1, 0)).2) b87
    have g0 : (pNo (K 4) (K 3 1) 2 (pl + 1, 0)).2.2 = 0 := b87
    refine zr_iinc dX3_readEntry_92 rfl (by decide) rfl ?_
    try rw [show (0 : Int) + 1 = 1 from rfl]
    try rw [show (1 : Int) + 1 = 2 from rfl]
    try rw [show (2 : Int) + 1 = 3 from rfl]
    refine pr_goto (tgt := 52) dX3_readEntry_95 (by decide) ?_
    refine pr_iload_n dX3_readEntry_52 rfl ?_
    refine pr_iload_n dX3_readEntry_53 rfl ?_
    refine zr_icmp_ge (tgt := 98) dX3_readEntry_54 (by decide) (by omega) (by omega) (fun c54 => ?_) (fun c54 => by exfalso; omega)
    refine pr_aload_n dX3_readEntry_98 rfl ?_
    refine zr_bipush dX3_readEntry_99 (by decide) ?_
    refine zcv1i dX3_readEntry_101 pzm_3_38 pzt_X3_readSign (tH_3 hj) (kX3_readSign hj hA (by omega) (by omega) l3 (by omega)) (by decide) (Nat.le_of_ble_eq_true rfl) (by decide) ?_
    rw [q0]
    exact pr_iret dX3_readEntry_104 rfl (nar_bI _) (zret (by rfl))
  · have b87 := bI_0 c87
    have f0 : ¬ (pNo (K 4) (K 3 1) 2 (pl + 1, 0)).2.2 = 0 := b87
    have w0 : (pNo (K 4) (K 3 1) 2 (pl + 1, 0)).2.2 = 1 := by omega
    have ee : (pSg (K 4) (K 3 1) 59 (pNo (K 4) (K 3 1) 2 (pl + 1, 0)).2) = ((pNo (K 4) (K 3 1) 2 (pl + 1, 0)).2.1, 1) := pSg_f f0
    rw [ee]
    refine zr_iconst dX3_readEntry_90 ?_
    exact pr_iret dX3_readEntry_91 rfl rfl (zret (bI_f (show ¬ (1 : Int) = 0 by decide)).symm)
set_option maxRecDepth 100000 in
set_option maxHeartbeats 4000000 in
theorem kX3_readEntry_t (hj : tj t) (hA : ∀ i, 0 ≤ K 4 i ∧ K 4 i < 65536) (l1 : 0 ≤ pl) (l2 : pl ≤ K 3 1) (l3 : K 3 1 ≤ 60) (hc : pl < K 3 1) (hk : K 4 pl = 116) : pz_Cd en 3 50 [.ref (t 3)] (tH h t u (kS K pl kd M)) 0 0 (pz_ret (some (.int (zI (bI ((cEn (K 4) M (K 3 1) pl).1.2 = 0))))) (tH h t u (kS K (cEn (K 4) M (K 3 1) pl).1.1 (if pl < K 3 1 then K 4 pl else kd) (cEn (K 4) M (K 3 1) pl).2))) := by
  refine pz_in pzt_X3_readEntry ?_
  have hcc := hA pl
  rw [cEn_t hc hk, if_pos hc]
  have nc : pNc (K 4 pl) = 1 := by
    unfold pNc
    repeat (first | rw [if_pos (by omega)] | rw [if_neg (by omega)])
  have d0 : pDg (K 4 pl) 0 = 4 := by
    unfold pDg
    repeat (first | rw [if_pos (by omega)] | rw [if_neg (by omega)])
  have b1 := pNo_R (inp := K 4) (ln := K 3 1) (d := 4) (x := (pl + 1, 0)) (show pl + 1 ≤ K 3 1 by omega)
  have b1a : pl + 1 ≤ (pNo (K 4) (K 3 1) 4 (pl + 1, 0)).2.1 := b1.1
  refine pr_aload_n dX3_readEntry_0 rfl ?_
  refine pr_getf dX3_readEntry_1 pzf_3_19 (tH_3 hj) rfl ?_
  refine pr_aload_n dX3_readEntry_4 rfl ?_
  refine pr_getf dX3_readEntry_5 pzf_3_27 (tH_3 hj) rfl ?_
  simp only [kS_1, kS_2, kS_3, kS_4, kS_5]
  refine zr_icmp_lt (tgt := 13) dX3_readEntry_8 (by decide) (by omega) (by omega) (fun c8 => ?_) (fun c8 => by exfalso; omega)
  refine pr_aload_n dX3_readEntry_13 rfl ?_
  refine pr_aload_n dX3_readEntry_14 rfl ?_
  refine pr_getf dX3_readEntry_15 pzf_3_9 (tH_3 hj) rfl ?_
  refine pr_aload_n dX3_readEntry_18 rfl ?_
  refine pr_getf dX3_readEntry_19 pzf_3_19 (tH_3 hj) rfl ?_
  simp only [kS_1, kS_2, kS_3, kS_4, kS_5]
  refine zr_cald dX3_readEntry_22 (tH_4 hj) (by omega) (by decide) ?_
  refine pr_putf dX3_readEntry_23 pzf_3_30 (Or.inl rfl) (tH_3 hj) (Nat.le_of_ble_eq_true rfl) (congrArg Value.int (nar_char (hA pl))) (fit_char (hA pl)) ((tH_p3_3 hj).trans (tH_eq kS_k)) ?_
  refine pr_aload_n dX3_readEntry_26 rfl ?_
  refine pr_getf dX3_readEntry_27 pzf_3_30 (tH_3 hj) rfl ?_
  simp only [kS_1, kS_2, kS_3, kS_4, kS_5]
  refine zcs1i dX3_readEntry_30 pzm_3_34 pzt_X3_numberCount (kX3_numberCount (by omega)) (by decide) (Nat.le_of_ble_eq_true rfl) ?_
  rw [nc]
  refine pr_istore_n dX3_readEntry_33 (by decide) rfl ?_
  refine pr_iload_n dX3_readEntry_34 rfl ?_
  refine zr_if_ge (tgt := 40) dX3_readEntry_35 (by decide) (by omega) (fun c35 => ?_) (fun c35 => by exfalso; omega)
  refine pr_aload_n dX3_readEntry_40 rfl ?_
  refine pr_dup dX3_readEntry_41 rfl ?_
  refine pr_getf dX3_readEntry_42 pzf_3_19 (tH_3 hj) rfl ?_
  refine zr_iconst dX3_readEntry_45 ?_
  refine zr_iadd dX3_readEntry_46 ?_
  simp only [kS_1, kS_2, kS_3, kS_4, kS_5]
  refine pr_putf dX3_readEntry_47 pzf_3_19 (Or.inl rfl) (tH_3 hj) (Nat.le_of_ble_eq_true rfl) rfl rfl ((tH_p3_2 hj).trans (tH_eq kS_p)) ?_
  refine zr_iconst dX3_readEntry_50 ?_
  refine pr_istore_n dX3_readEntry_51 (by decide) rfl ?_
  refine pr_iload_n dX3_readEntry_52 rfl ?_
  refine pr_iload_n dX3_readEntry_53 rfl ?_
  refine zr_icmp_ge (tgt := 98) dX3_readEntry_54 (by decide) (by omega) (by omega) (fun c54 => by exfalso; omega) (fun c54 => ?_)
  refine pr_iload_n dX3_readEntry_57 rfl ?_
  refine zr_if_le (tgt := 82) dX3_readEntry_58 (by decide) (by omega) (fun c58 => ?_) (fun c58 => by exfalso; omega)
  refine pr_aload_n dX3_readEntry_82 rfl ?_
  refine pr_iload_n dX3_readEntry_83 rfl ?_
  refine zcv1i dX3_readEntry_84 pzm_3_42 pzt_X3_readNumber (tH_3 hj) (kX3_readNumber hj hA (by omega) (by omega) l3 (by omega) (by omega) (show zR (K 4 pl) by omega)) (by decide) (Nat.le_of_ble_eq_true rfl) (by decide) ?_
  rw [d0]
  refine zr_if_ne (tgt := 92) dX3_readEntry_87 (by decide) (bI_R _) (fun c87 => ?_) (fun c87 => ?_)
  · have b87 := bI_ne c87
    have q0 := pr_et (x := (pNo (K 4) (K 3 1) 4 (pl + 1, 0)).2) b87
    have g0 : (pNo (K 4) (K 3 1) 4 (pl + 1, 0)).2.2 = 0 := b87
    refine zr_iinc dX3_readEntry_92 rfl (by decide) rfl ?_
    try rw [show (0 : Int) + 1 = 1 from rfl]
    try rw [show (1 : Int) + 1 = 2 from rfl]
    try rw [show (2 : Int) + 1 = 3 from rfl]
    refine pr_goto (tgt := 52) dX3_readEntry_95 (by decide) ?_
    refine pr_iload_n dX3_readEntry_52 rfl ?_
    refine pr_iload_n dX3_readEntry_53 rfl ?_
    refine zr_icmp_ge (tgt := 98) dX3_readEntry_54 (by decide) (by omega) (by omega) (fun c54 => ?_) (fun c54 => by exfalso; omega)
    refine pr_aload_n dX3_readEntry_98 rfl ?_
    refine zr_bipush dX3_readEntry_99 (by decide) ?_
    refine zcv1i dX3_readEntry_101 pzm_3_38 pzt_X3_readSign (tH_3 hj) (kX3_readSign hj hA (by omega) (by omega) l3 (by omega)) (by decide) (Nat.le_of_ble_eq_true rfl) (by decide) ?_
    rw [q0]
    exact pr_iret dX3_readEntry_104 rfl (nar_bI _) (zret (by rfl))
  · have b87 := bI_0 c87
    have f0 : ¬ (pNo (K 4) (K 3 1) 4 (pl + 1, 0)).2.2 = 0 := b87
    have w0 : (pNo (K 4) (K 3 1) 4 (pl + 1, 0)).2.2 = 1 := by omega
    have ee : (pSg (K 4) (K 3 1) 59 (pNo (K 4) (K 3 1) 4 (pl + 1, 0)).2) = ((pNo (K 4) (K 3 1) 4 (pl + 1, 0)).2.1, 1) := pSg_f f0
    rw [ee]
    refine zr_iconst dX3_readEntry_90 ?_
    exact pr_iret dX3_readEntry_91 rfl rfl (zret (bI_f (show ¬ (1 : Int) = 0 by decide)).symm)
set_option maxRecDepth 100000 in
set_option maxHeartbeats 4000000 in
theorem kX3_readEntry_r (hj : tj t) (hA : ∀ i, 0 ≤ K 4 i ∧ K 4 i < 65536) (l1 : 0 ≤ pl) (l2 : pl ≤ K 3 1) (l3 : K 3 1 ≤ 60) (hc : pl < K 3 1) (hk : K 4 pl = 114) : pz_Cd en 3 50 [.ref (t 3)] (tH h t u (kS K pl kd M)) 0 0 (pz_ret (some (.int (zI (bI ((cEn (K 4) M (K 3 1) pl).1.2 = 0))))) (tH h t u (kS K (cEn (K 4) M (K 3 1) pl).1.1 (if pl < K 3 1 then K 4 pl else kd) (cEn (K 4) M (K 3 1) pl).2))) := by
  refine pz_in pzt_X3_readEntry ?_
  have hcc := hA pl
  rw [cEn_r hc hk, if_pos hc]
  have nc : pNc (K 4 pl) = 2 := by
    unfold pNc
    repeat (first | rw [if_pos (by omega)] | rw [if_neg (by omega)])
  have d0 : pDg (K 4 pl) 0 = 2 := by
    unfold pDg
    repeat (first | rw [if_pos (by omega)] | rw [if_neg (by omega)])
  have d1 : pDg (K 4 pl) 1 = 2 := by
    unfold pDg
    rw [if_neg (by omega), if_neg (by decide)]
  have b1 := pNo_R (inp := K 4) (ln := K 3 1) (d := 2) (x := (pl + 1, 0)) (show pl + 1 ≤ K 3 1 by omega)
  have b1a : pl + 1 ≤ (pNo (K 4) (K 3 1) 2 (pl + 1, 0)).2.1 := b1.1
  have b2 := pSg_R (inp := K 4) (ln := K 3 1) (c := 47) (x := (pNo (K 4) (K 3 1) 2 (pl + 1, 0)).2) b1.2.1
  have b3 := pNo_R (inp := K 4) (ln := K 3 1) (d := 2) (x := (pSg (K 4) (K 3 1) 47 (pNo (K 4) (K 3 1) 2 (pl + 1, 0)).2)) b2.2.1
  refine pr_aload_n dX3_readEntry_0 rfl ?_
  refine pr_getf dX3_readEntry_1 pzf_3_19 (tH_3 hj) rfl ?_
  refine pr_aload_n dX3_readEntry_4 rfl ?_
  refine pr_getf dX3_readEntry_5 pzf_3_27 (tH_3 hj) rfl ?_
  simp only [kS_1, kS_2, kS_3, kS_4, kS_5]
  refine zr_icmp_lt (tgt := 13) dX3_readEntry_8 (by decide) (by omega) (by omega) (fun c8 => ?_) (fun c8 => by exfalso; omega)
  refine pr_aload_n dX3_readEntry_13 rfl ?_
  refine pr_aload_n dX3_readEntry_14 rfl ?_
  refine pr_getf dX3_readEntry_15 pzf_3_9 (tH_3 hj) rfl ?_
  refine pr_aload_n dX3_readEntry_18 rfl ?_
  refine pr_getf dX3_readEntry_19 pzf_3_19 (tH_3 hj) rfl ?_
  simp only [kS_1, kS_2, kS_3, kS_4, kS_5]
  refine zr_cald dX3_readEntry_22 (tH_4 hj) (by omega) (by decide) ?_
  refine pr_putf dX3_readEntry_23 pzf_3_30 (Or.inl rfl) (tH_3 hj) (Nat.le_of_ble_eq_true rfl) (congrArg Value.int (nar_char (hA pl))) (fit_char (hA pl)) ((tH_p3_3 hj).trans (tH_eq kS_k)) ?_
  refine pr_aload_n dX3_readEntry_26 rfl ?_
  refine pr_getf dX3_readEntry_27 pzf_3_30 (tH_3 hj) rfl ?_
  simp only [kS_1, kS_2, kS_3, kS_4, kS_5]
  refine zcs1i dX3_readEntry_30 pzm_3_34 pzt_X3_numberCount (kX3_numberCount (by omega)) (by decide) (Nat.le_of_ble_eq_true rfl) ?_
  rw [nc]
  refine pr_istore_n dX3_readEntry_33 (by decide) rfl ?_
  refine pr_iload_n dX3_readEntry_34 rfl ?_
  refine zr_if_ge (tgt := 40) dX3_readEntry_35 (by decide) (by omega) (fun c35 => ?_) (fun c35 => by exfalso; omega)
  refine pr_aload_n dX3_readEntry_40 rfl ?_
  refine pr_dup dX3_readEntry_41 rfl ?_
  refine pr_getf dX3_readEntry_42 pzf_3_19 (tH_3 hj) rfl ?_
  refine zr_iconst dX3_readEntry_45 ?_
  refine zr_iadd dX3_readEntry_46 ?_
  simp only [kS_1, kS_2, kS_3, kS_4, kS_5]
  refine pr_putf dX3_readEntry_47 pzf_3_19 (Or.inl rfl) (tH_3 hj) (Nat.le_of_ble_eq_true rfl) rfl rfl ((tH_p3_2 hj).trans (tH_eq kS_p)) ?_
  refine zr_iconst dX3_readEntry_50 ?_
  refine pr_istore_n dX3_readEntry_51 (by decide) rfl ?_
  refine pr_iload_n dX3_readEntry_52 rfl ?_
  refine pr_iload_n dX3_readEntry_53 rfl ?_
  refine zr_icmp_ge (tgt := 98) dX3_readEntry_54 (by decide) (by omega) (by omega) (fun c54 => by exfalso; omega) (fun c54 => ?_)
  refine pr_iload_n dX3_readEntry_57 rfl ?_
  refine zr_if_le (tgt := 82) dX3_readEntry_58 (by decide) (by omega) (fun c58 => ?_) (fun c58 => by exfalso; omega)
  refine pr_aload_n dX3_readEntry_82 rfl ?_
  refine pr_iload_n dX3_readEntry_83 rfl ?_
  refine zcv1i dX3_readEntry_84 pzm_3_42 pzt_X3_readNumber (tH_3 hj) (kX3_readNumber hj hA (by omega) (by omega) l3 (by omega) (by omega) (show zR (K 4 pl) by omega)) (by decide) (Nat.le_of_ble_eq_true rfl) (by decide) ?_
  rw [d0]
  refine zr_if_ne (tgt := 92) dX3_readEntry_87 (by decide) (bI_R _) (fun c87 => ?_) (fun c87 => ?_)
  · have b87 := bI_ne c87
    have q0 := pr_et (x := (pNo (K 4) (K 3 1) 2 (pl + 1, 0)).2) b87
    have g0 : (pNo (K 4) (K 3 1) 2 (pl + 1, 0)).2.2 = 0 := b87
    refine zr_iinc dX3_readEntry_92 rfl (by decide) rfl ?_
    try rw [show (0 : Int) + 1 = 1 from rfl]
    try rw [show (1 : Int) + 1 = 2 from rfl]
    try rw [show (2 : Int) + 1 = 3 from rfl]
    refine pr_goto (tgt := 52) dX3_readEntry_95 (by decide) ?_
    refine pr_iload_n dX3_readEntry_52 rfl ?_
    refine pr_iload_n dX3_readEntry_53 rfl ?_
    refine zr_icmp_ge (tgt := 98) dX3_readEntry_54 (by decide) (by omega) (by omega) (fun c54 => by exfalso; omega) (fun c54 => ?_)
    refine pr_iload_n dX3_readEntry_57 rfl ?_
    refine zr_if_le (tgt := 82) dX3_readEntry_58 (by decide) (by omega) (fun c58 => by exfalso; omega) (fun c58 => ?_)
    refine pr_aload_n dX3_readEntry_61 rfl ?_
    refine pr_iload_n dX3_readEntry_62 rfl ?_
    refine zr_iconst dX3_readEntry_63 ?_
    refine zr_icmp_ne (tgt := 72) dX3_readEntry_64 (by decide) (by omega) (by omega) (fun c64 => by exfalso; omega) (fun c64 => ?_)
    refine zr_bipush dX3_readEntry_67 (by decide) ?_
    refine pr_goto (tgt := 74) dX3_readEntry_69 (by decide) ?_
    refine zcv1i dX3_readEntry_74 pzm_3_38 pzt_X3_readSign (tH_3 hj) (kX3_readSign hj hA (by omega) (by omega) l3 (by omega)) (by decide) (Nat.le_of_ble_eq_true rfl) (by decide) ?_
    skip
    rw [q0]
    refine zr_if_ne (tgt := 82) dX3_readEntry_77 (by decide) (bI_R _) (fun c77 => ?_) (fun c77 => ?_)
    · have b77 := bI_ne c77
      have q1 := pr_et (x := (pSg (K 4) (K 3 1) 47 (pNo (K 4) (K 3 1) 2 (pl + 1, 0)).2)) b77
      have g1 : (pSg (K 4) (K 3 1) 47 (pNo (K 4) (K 3 1) 2 (pl + 1, 0)).2).2 = 0 := b77
      refine pr_aload_n dX3_readEntry_82 rfl ?_
      refine pr_iload_n dX3_readEntry_83 rfl ?_
      refine zcv1i dX3_readEntry_84 pzm_3_42 pzt_X3_readNumber (tH_3 hj) (kX3_readNumber hj hA (by omega) (by omega) l3 (by omega) (by omega) (show zR (K 4 pl) by omega)) (by decide) (Nat.le_of_ble_eq_true rfl) (by decide) ?_
      rw [d1]
      rw [q1]
      refine zr_if_ne (tgt := 92) dX3_readEntry_87 (by decide) (bI_R _) (fun c87 => ?_) (fun c87 => ?_)
      · have b87 := bI_ne c87
        have q2 := pr_et (x := (pNo (K 4) (K 3 1) 2 (pSg (K 4) (K 3 1) 47 (pNo (K 4) (K 3 1) 2 (pl + 1, 0)).2)).2) b87
        have g2 : (pNo (K 4) (K 3 1) 2 (pSg (K 4) (K 3 1) 47 (pNo (K 4) (K 3 1) 2 (pl + 1, 0)).2)).2.2 = 0 := b87
        refine zr_iinc dX3_readEntry_92 rfl (by decide) rfl ?_
        try rw [show (0 : Int) + 1 = 1 from rfl]
        try rw [show (1 : Int) + 1 = 2 from rfl]
        try rw [show (2 : Int) + 1 = 3 from rfl]
        refine pr_goto (tgt := 52) dX3_readEntry_95 (by decide) ?_
        refine pr_iload_n dX3_readEntry_52 rfl ?_
        refine pr_iload_n dX3_readEntry_53 rfl ?_
        refine zr_icmp_ge (tgt := 98) dX3_readEntry_54 (by decide) (by omega) (by omega) (fun c54 => ?_) (fun c54 => by exfalso; omega)
        refine pr_aload_n dX3_readEntry_98 rfl ?_
        refine zr_bipush dX3_readEntry_99 (by decide) ?_
        refine zcv1i dX3_readEntry_101 pzm_3_38 pzt_X3_readSign (tH_3 hj) (kX3_readSign hj hA (by omega) (by omega) l3 (by omega)) (by decide) (Nat.le_of_ble_eq_true rfl) (by decide) ?_
        rw [q2]
        rw [if_pos g1]
        exact pr_iret dX3_readEntry_104 rfl (nar_bI _) (zret (by rfl))
      · have b87 := bI_0 c87
        have f2 : ¬ (pNo (K 4) (K 3 1) 2 (pSg (K 4) (K 3 1) 47 (pNo (K 4) (K 3 1) 2 (pl + 1, 0)).2)).2.2 = 0 := b87
        have w2 : (pNo (K 4) (K 3 1) 2 (pSg (K 4) (K 3 1) 47 (pNo (K 4) (K 3 1) 2 (pl + 1, 0)).2)).2.2 = 1 := by omega
        have ee : (pSg (K 4) (K 3 1) 59 (pNo (K 4) (K 3 1) 2 (pSg (K 4) (K 3 1) 47 (pNo (K 4) (K 3 1) 2 (pl + 1, 0)).2)).2) = ((pNo (K 4) (K 3 1) 2 (pSg (K 4) (K 3 1) 47 (pNo (K 4) (K 3 1) 2 (pl + 1, 0)).2)).2.1, 1) := pSg_f f2
        rw [ee]
        try rw [if_pos g1]
        refine zr_iconst dX3_readEntry_90 ?_
        exact pr_iret dX3_readEntry_91 rfl rfl (zret (bI_f (show ¬ (1 : Int) = 0 by decide)).symm)
    · have b77 := bI_0 c77
      have f1 : ¬ (pSg (K 4) (K 3 1) 47 (pNo (K 4) (K 3 1) 2 (pl + 1, 0)).2).2 = 0 := b77
      have w1 : (pSg (K 4) (K 3 1) 47 (pNo (K 4) (K 3 1) 2 (pl + 1, 0)).2).2 = 1 := by omega
      have e2 : (pNo (K 4) (K 3 1) 2 (pSg (K 4) (K 3 1) 47 (pNo (K 4) (K 3 1) 2 (pl + 1, 0)).2)) = (0, (pSg (K 4) (K 3 1) 47 (pNo (K 4) (K 3 1) 2 (pl + 1, 0)).2).1, 1) := pNo_f f1
      have f2 : ¬ (pNo (K 4) (K 3 1) 2 (pSg (K 4) (K 3 1) 47 (pNo (K 4) (K 3 1) 2 (pl + 1, 0)).2)).2.2 = 0 := by rw [e2]; exact (by decide : ¬ (1 : Int) = 0)
      have ee : (pSg (K 4) (K 3 1) 59 (pNo (K 4) (K 3 1) 2 (pSg (K 4) (K 3 1) 47 (pNo (K 4) (K 3 1) 2 (pl + 1, 0)).2)).2) = ((pNo (K 4) (K 3 1) 2 (pSg (K 4) (K 3 1) 47 (pNo (K 4) (K 3 1) 2 (pl + 1, 0)).2)).2.1, 1) := pSg_f f2
      rw [ee]
      rw [if_neg f1]
      try rw [e2]
      refine zr_iconst dX3_readEntry_80 ?_
      exact pr_iret dX3_readEntry_81 rfl rfl (zret (bI_f (show ¬ (1 : Int) = 0 by decide)).symm)
  · have b87 := bI_0 c87
    have f0 : ¬ (pNo (K 4) (K 3 1) 2 (pl + 1, 0)).2.2 = 0 := b87
    have w0 : (pNo (K 4) (K 3 1) 2 (pl + 1, 0)).2.2 = 1 := by omega
    have e1 : (pSg (K 4) (K 3 1) 47 (pNo (K 4) (K 3 1) 2 (pl + 1, 0)).2) = ((pNo (K 4) (K 3 1) 2 (pl + 1, 0)).2.1, 1) := pSg_f f0
    have f1 : ¬ (pSg (K 4) (K 3 1) 47 (pNo (K 4) (K 3 1) 2 (pl + 1, 0)).2).2 = 0 := by rw [e1]; exact (by decide : ¬ (1 : Int) = 0)
    have e2 : (pNo (K 4) (K 3 1) 2 (pSg (K 4) (K 3 1) 47 (pNo (K 4) (K 3 1) 2 (pl + 1, 0)).2)) = (0, (pSg (K 4) (K 3 1) 47 (pNo (K 4) (K 3 1) 2 (pl + 1, 0)).2).1, 1) := pNo_f f1
    have f2 : ¬ (pNo (K 4) (K 3 1) 2 (pSg (K 4) (K 3 1) 47 (pNo (K 4) (K 3 1) 2 (pl + 1, 0)).2)).2.2 = 0 := by rw [e2]; exact (by decide : ¬ (1 : Int) = 0)
    have ee : (pSg (K 4) (K 3 1) 59 (pNo (K 4) (K 3 1) 2 (pSg (K 4) (K 3 1) 47 (pNo (K 4) (K 3 1) 2 (pl + 1, 0)).2)).2) = ((pNo (K 4) (K 3 1) 2 (pSg (K 4) (K 3 1) 47 (pNo (K 4) (K 3 1) 2 (pl + 1, 0)).2)).2.1, 1) := pSg_f f2
    rw [ee]
    rw [if_neg f1]
    try rw [e2]
    try rw [e1]
    refine zr_iconst dX3_readEntry_90 ?_
    exact pr_iret dX3_readEntry_91 rfl rfl (zret (bI_f (show ¬ (1 : Int) = 0 by decide)).symm)
set_option maxRecDepth 100000 in
set_option maxHeartbeats 4000000 in
theorem kX3_readEntry_s (hj : tj t) (hA : ∀ i, 0 ≤ K 4 i ∧ K 4 i < 65536) (l1 : 0 ≤ pl) (l2 : pl ≤ K 3 1) (l3 : K 3 1 ≤ 60) (hc : pl < K 3 1) (hk : K 4 pl = 115) : pz_Cd en 3 50 [.ref (t 3)] (tH h t u (kS K pl kd M)) 0 0 (pz_ret (some (.int (zI (bI ((cEn (K 4) M (K 3 1) pl).1.2 = 0))))) (tH h t u (kS K (cEn (K 4) M (K 3 1) pl).1.1 (if pl < K 3 1 then K 4 pl else kd) (cEn (K 4) M (K 3 1) pl).2))) := by
  refine pz_in pzt_X3_readEntry ?_
  have hcc := hA pl
  rw [cEn_s hc hk, if_pos hc]
  have nc : pNc (K 4 pl) = 3 := by
    unfold pNc
    repeat (first | rw [if_pos (by omega)] | rw [if_neg (by omega)])
  have d0 : pDg (K 4 pl) 0 = 2 := by
    unfold pDg
    repeat (first | rw [if_pos (by omega)] | rw [if_neg (by omega)])
  have d1 : pDg (K 4 pl) 1 = 2 := by
    unfold pDg
    rw [if_neg (by omega), if_neg (by decide)]
  have d2 : pDg (K 4 pl) 2 = 3 := by
    unfold pDg
    rw [if_neg (by omega), if_pos rfl]
  have b1 := pNo_R (inp := K 4) (ln := K 3 1) (d := 2) (x := (pl + 1, 0)) (show pl + 1 ≤ K 3 1 by omega)
  have b1a : pl + 1 ≤ (pNo (K 4) (K 3 1) 2 (pl + 1, 0)).2.1 := b1.1
  have b2 := pSg_R (inp := K 4) (ln := K 3 1) (c := 47) (x := (pNo (K 4) (K 3 1) 2 (pl + 1, 0)).2) b1.2.1
  have b3 := pNo_R (inp := K 4) (ln := K 3 1) (d := 2) (x := (pSg (K 4) (K 3 1) 47 (pNo (K 4) (K 3 1) 2 (pl + 1, 0)).2)) b2.2.1
  have b4 := pSg_R (inp := K 4) (ln := K 3 1) (c := 64) (x := (pNo (K 4) (K 3 1) 2 (pSg (K 4) (K 3 1) 47 (pNo (K 4) (K 3 1) 2 (pl + 1, 0)).2)).2) b3.2.1
  have b5 := pNo_R (inp := K 4) (ln := K 3 1) (d := 3) (x := (pSg (K 4) (K 3 1) 64 (pNo (K 4) (K 3 1) 2 (pSg (K 4) (K 3 1) 47 (pNo (K 4) (K 3 1) 2 (pl + 1, 0)).2)).2)) b4.2.1
  refine pr_aload_n dX3_readEntry_0 rfl ?_
  refine pr_getf dX3_readEntry_1 pzf_3_19 (tH_3 hj) rfl ?_
  refine pr_aload_n dX3_readEntry_4 rfl ?_
  refine pr_getf dX3_readEntry_5 pzf_3_27 (tH_3 hj) rfl ?_
  simp only [kS_1, kS_2, kS_3, kS_4, kS_5]
  refine zr_icmp_lt (tgt := 13) dX3_readEntry_8 (by decide) (by omega) (by omega) (fun c8 => ?_) (fun c8 => by exfalso; omega)
  refine pr_aload_n dX3_readEntry_13 rfl ?_
  refine pr_aload_n dX3_readEntry_14 rfl ?_
  refine pr_getf dX3_readEntry_15 pzf_3_9 (tH_3 hj) rfl ?_
  refine pr_aload_n dX3_readEntry_18 rfl ?_
  refine pr_getf dX3_readEntry_19 pzf_3_19 (tH_3 hj) rfl ?_
  simp only [kS_1, kS_2, kS_3, kS_4, kS_5]
  refine zr_cald dX3_readEntry_22 (tH_4 hj) (by omega) (by decide) ?_
  refine pr_putf dX3_readEntry_23 pzf_3_30 (Or.inl rfl) (tH_3 hj) (Nat.le_of_ble_eq_true rfl) (congrArg Value.int (nar_char (hA pl))) (fit_char (hA pl)) ((tH_p3_3 hj).trans (tH_eq kS_k)) ?_
  refine pr_aload_n dX3_readEntry_26 rfl ?_
  refine pr_getf dX3_readEntry_27 pzf_3_30 (tH_3 hj) rfl ?_
  simp only [kS_1, kS_2, kS_3, kS_4, kS_5]
  refine zcs1i dX3_readEntry_30 pzm_3_34 pzt_X3_numberCount (kX3_numberCount (by omega)) (by decide) (Nat.le_of_ble_eq_true rfl) ?_
  rw [nc]
  refine pr_istore_n dX3_readEntry_33 (by decide) rfl ?_
  refine pr_iload_n dX3_readEntry_34 rfl ?_
  refine zr_if_ge (tgt := 40) dX3_readEntry_35 (by decide) (by omega) (fun c35 => ?_) (fun c35 => by exfalso; omega)
  refine pr_aload_n dX3_readEntry_40 rfl ?_
  refine pr_dup dX3_readEntry_41 rfl ?_
  refine pr_getf dX3_readEntry_42 pzf_3_19 (tH_3 hj) rfl ?_
  refine zr_iconst dX3_readEntry_45 ?_
  refine zr_iadd dX3_readEntry_46 ?_
  simp only [kS_1, kS_2, kS_3, kS_4, kS_5]
  refine pr_putf dX3_readEntry_47 pzf_3_19 (Or.inl rfl) (tH_3 hj) (Nat.le_of_ble_eq_true rfl) rfl rfl ((tH_p3_2 hj).trans (tH_eq kS_p)) ?_
  refine zr_iconst dX3_readEntry_50 ?_
  refine pr_istore_n dX3_readEntry_51 (by decide) rfl ?_
  refine pr_iload_n dX3_readEntry_52 rfl ?_
  refine pr_iload_n dX3_readEntry_53 rfl ?_
  refine zr_icmp_ge (tgt := 98) dX3_readEntry_54 (by decide) (by omega) (by omega) (fun c54 => by exfalso; omega) (fun c54 => ?_)
  refine pr_iload_n dX3_readEntry_57 rfl ?_
  refine zr_if_le (tgt := 82) dX3_readEntry_58 (by decide) (by omega) (fun c58 => ?_) (fun c58 => by exfalso; omega)
  refine pr_aload_n dX3_readEntry_82 rfl ?_
  refine pr_iload_n dX3_readEntry_83 rfl ?_
  refine zcv1i dX3_readEntry_84 pzm_3_42 pzt_X3_readNumber (tH_3 hj) (kX3_readNumber hj hA (by omega) (by omega) l3 (by omega) (by omega) (show zR (K 4 pl) by omega)) (by decide) (Nat.le_of_ble_eq_true rfl) (by decide) ?_
  rw [d0]
  refine zr_if_ne (tgt := 92) dX3_readEntry_87 (by decide) (bI_R _) (fun c87 => ?_) (fun c87 => ?_)
  · have b87 := bI_ne c87
    have q0 := pr_et (x := (pNo (K 4) (K 3 1) 2 (pl + 1, 0)).2) b87
    have g0 : (pNo (K 4) (K 3 1) 2 (pl + 1, 0)).2.2 = 0 := b87
    refine zr_iinc dX3_readEntry_92 rfl (by decide) rfl ?_
    try rw [show (0 : Int) + 1 = 1 from rfl]
    try rw [show (1 : Int) + 1 = 2 from rfl]
    try rw [show (2 : Int) + 1 = 3 from rfl]
    refine pr_goto (tgt := 52) dX3_readEntry_95 (by decide) ?_
    refine pr_iload_n dX3_readEntry_52 rfl ?_
    refine pr_iload_n dX3_readEntry_53 rfl ?_
    refine zr_icmp_ge (tgt := 98) dX3_readEntry_54 (by decide) (by omega) (by omega) (fun c54 => by exfalso; omega) (fun c54 => ?_)
    refine pr_iload_n dX3_readEntry_57 rfl ?_
    refine zr_if_le (tgt := 82) dX3_readEntry_58 (by decide) (by omega) (fun c58 => by exfalso; omega) (fun c58 => ?_)
    refine pr_aload_n dX3_readEntry_61 rfl ?_
    refine pr_iload_n dX3_readEntry_62 rfl ?_
    refine zr_iconst dX3_readEntry_63 ?_
    refine zr_icmp_ne (tgt := 72) dX3_readEntry_64 (by decide) (by omega) (by omega) (fun c64 => by exfalso; omega) (fun c64 => ?_)
    refine zr_bipush dX3_readEntry_67 (by decide) ?_
    refine pr_goto (tgt := 74) dX3_readEntry_69 (by decide) ?_
    refine zcv1i dX3_readEntry_74 pzm_3_38 pzt_X3_readSign (tH_3 hj) (kX3_readSign hj hA (by omega) (by omega) l3 (by omega)) (by decide) (Nat.le_of_ble_eq_true rfl) (by decide) ?_
    skip
    rw [q0]
    refine zr_if_ne (tgt := 82) dX3_readEntry_77 (by decide) (bI_R _) (fun c77 => ?_) (fun c77 => ?_)
    · have b77 := bI_ne c77
      have q1 := pr_et (x := (pSg (K 4) (K 3 1) 47 (pNo (K 4) (K 3 1) 2 (pl + 1, 0)).2)) b77
      have g1 : (pSg (K 4) (K 3 1) 47 (pNo (K 4) (K 3 1) 2 (pl + 1, 0)).2).2 = 0 := b77
      refine pr_aload_n dX3_readEntry_82 rfl ?_
      refine pr_iload_n dX3_readEntry_83 rfl ?_
      refine zcv1i dX3_readEntry_84 pzm_3_42 pzt_X3_readNumber (tH_3 hj) (kX3_readNumber hj hA (by omega) (by omega) l3 (by omega) (by omega) (show zR (K 4 pl) by omega)) (by decide) (Nat.le_of_ble_eq_true rfl) (by decide) ?_
      rw [d1]
      rw [q1]
      refine zr_if_ne (tgt := 92) dX3_readEntry_87 (by decide) (bI_R _) (fun c87 => ?_) (fun c87 => ?_)
      · have b87 := bI_ne c87
        have q2 := pr_et (x := (pNo (K 4) (K 3 1) 2 (pSg (K 4) (K 3 1) 47 (pNo (K 4) (K 3 1) 2 (pl + 1, 0)).2)).2) b87
        have g2 : (pNo (K 4) (K 3 1) 2 (pSg (K 4) (K 3 1) 47 (pNo (K 4) (K 3 1) 2 (pl + 1, 0)).2)).2.2 = 0 := b87
        refine zr_iinc dX3_readEntry_92 rfl (by decide) rfl ?_
        try rw [show (0 : Int) + 1 = 1 from rfl]
        try rw [show (1 : Int) + 1 = 2 from rfl]
        try rw [show (2 : Int) + 1 = 3 from rfl]
        refine pr_goto (tgt := 52) dX3_readEntry_95 (by decide) ?_
        refine pr_iload_n dX3_readEntry_52 rfl ?_
        refine pr_iload_n dX3_readEntry_53 rfl ?_
        refine zr_icmp_ge (tgt := 98) dX3_readEntry_54 (by decide) (by omega) (by omega) (fun c54 => by exfalso; omega) (fun c54 => ?_)
        refine pr_iload_n dX3_readEntry_57 rfl ?_
        refine zr_if_le (tgt := 82) dX3_readEntry_58 (by decide) (by omega) (fun c58 => by exfalso; omega) (fun c58 => ?_)
        refine pr_aload_n dX3_readEntry_61 rfl ?_
        refine pr_iload_n dX3_readEntry_62 rfl ?_
        refine zr_iconst dX3_readEntry_63 ?_
        refine zr_icmp_ne (tgt := 72) dX3_readEntry_64 (by decide) (by omega) (by omega) (fun c64 => ?_) (fun c64 => by exfalso; omega)
        refine zr_bipush dX3_readEntry_72 (by decide) ?_
        refine zcv1i dX3_readEntry_74 pzm_3_38 pzt_X3_readSign (tH_3 hj) (kX3_readSign hj hA (by omega) (by omega) l3 (by omega)) (by decide) (Nat.le_of_ble_eq_true rfl) (by decide) ?_
        skip
        rw [q2]
        refine zr_if_ne (tgt := 82) dX3_readEntry_77 (by decide) (bI_R _) (fun c77 => ?_) (fun c77 => ?_)
        · have b77 := bI_ne c77
          have q3 := pr_et (x := (pSg (K 4) (K 3 1) 64 (pNo (K 4) (K 3 1) 2 (pSg (K 4) (K 3 1) 47 (pNo (K 4) (K 3 1) 2 (pl + 1, 0)).2)).2)) b77
          have g3 : (pSg (K 4) (K 3 1) 64 (pNo (K 4) (K 3 1) 2 (pSg (K 4) (K 3 1) 47 (pNo (K 4) (K 3 1) 2 (pl + 1, 0)).2)).2).2 = 0 := b77
          refine pr_aload_n dX3_readEntry_82 rfl ?_
          refine pr_iload_n dX3_readEntry_83 rfl ?_
          refine zcv1i dX3_readEntry_84 pzm_3_42 pzt_X3_readNumber (tH_3 hj) (kX3_readNumber hj hA (by omega) (by omega) l3 (by omega) (by omega) (show zR (K 4 pl) by omega)) (by decide) (Nat.le_of_ble_eq_true rfl) (by decide) ?_
          rw [d2]
          rw [q3]
          refine zr_if_ne (tgt := 92) dX3_readEntry_87 (by decide) (bI_R _) (fun c87 => ?_) (fun c87 => ?_)
          · have b87 := bI_ne c87
            have q4 := pr_et (x := (pNo (K 4) (K 3 1) 3 (pSg (K 4) (K 3 1) 64 (pNo (K 4) (K 3 1) 2 (pSg (K 4) (K 3 1) 47 (pNo (K 4) (K 3 1) 2 (pl + 1, 0)).2)).2)).2) b87
            have g4 : (pNo (K 4) (K 3 1) 3 (pSg (K 4) (K 3 1) 64 (pNo (K 4) (K 3 1) 2 (pSg (K 4) (K 3 1) 47 (pNo (K 4) (K 3 1) 2 (pl + 1, 0)).2)).2)).2.2 = 0 := b87
            refine zr_iinc dX3_readEntry_92 rfl (by decide) rfl ?_
            try rw [show (0 : Int) + 1 = 1 from rfl]
            try rw [show (1 : Int) + 1 = 2 from rfl]
            try rw [show (2 : Int) + 1 = 3 from rfl]
            refine pr_goto (tgt := 52) dX3_readEntry_95 (by decide) ?_
            refine pr_iload_n dX3_readEntry_52 rfl ?_
            refine pr_iload_n dX3_readEntry_53 rfl ?_
            refine zr_icmp_ge (tgt := 98) dX3_readEntry_54 (by decide) (by omega) (by omega) (fun c54 => ?_) (fun c54 => by exfalso; omega)
            refine pr_aload_n dX3_readEntry_98 rfl ?_
            refine zr_bipush dX3_readEntry_99 (by decide) ?_
            refine zcv1i dX3_readEntry_101 pzm_3_38 pzt_X3_readSign (tH_3 hj) (kX3_readSign hj hA (by omega) (by omega) l3 (by omega)) (by decide) (Nat.le_of_ble_eq_true rfl) (by decide) ?_
            rw [q4]
            rw [if_pos g3]
            exact pr_iret dX3_readEntry_104 rfl (nar_bI _) (zret (by rfl))
          · have b87 := bI_0 c87
            have f4 : ¬ (pNo (K 4) (K 3 1) 3 (pSg (K 4) (K 3 1) 64 (pNo (K 4) (K 3 1) 2 (pSg (K 4) (K 3 1) 47 (pNo (K 4) (K 3 1) 2 (pl + 1, 0)).2)).2)).2.2 = 0 := b87
            have w4 : (pNo (K 4) (K 3 1) 3 (pSg (K 4) (K 3 1) 64 (pNo (K 4) (K 3 1) 2 (pSg (K 4) (K 3 1) 47 (pNo (K 4) (K 3 1) 2 (pl + 1, 0)).2)).2)).2.2 = 1 := by omega
            have ee : (pSg (K 4) (K 3 1) 59 (pNo (K 4) (K 3 1) 3 (pSg (K 4) (K 3 1) 64 (pNo (K 4) (K 3 1) 2 (pSg (K 4) (K 3 1) 47 (pNo (K 4) (K 3 1) 2 (pl + 1, 0)).2)).2)).2) = ((pNo (K 4) (K 3 1) 3 (pSg (K 4) (K 3 1) 64 (pNo (K 4) (K 3 1) 2 (pSg (K 4) (K 3 1) 47 (pNo (K 4) (K 3 1) 2 (pl + 1, 0)).2)).2)).2.1, 1) := pSg_f f4
            rw [ee]
            try rw [if_pos g3]
            try rw [if_pos g1]
            refine zr_iconst dX3_readEntry_90 ?_
            exact pr_iret dX3_readEntry_91 rfl rfl (zret (bI_f (show ¬ (1 : Int) = 0 by decide)).symm)
        · have b77 := bI_0 c77
          have f3 : ¬ (pSg (K 4) (K 3 1) 64 (pNo (K 4) (K 3 1) 2 (pSg (K 4) (K 3 1) 47 (pNo (K 4) (K 3 1) 2 (pl + 1, 0)).2)).2).2 = 0 := b77
          have w3 : (pSg (K 4) (K 3 1) 64 (pNo (K 4) (K 3 1) 2 (pSg (K 4) (K 3 1) 47 (pNo (K 4) (K 3 1) 2 (pl + 1, 0)).2)).2).2 = 1 := by omega
          have e4 : (pNo (K 4) (K 3 1) 3 (pSg (K 4) (K 3 1) 64 (pNo (K 4) (K 3 1) 2 (pSg (K 4) (K 3 1) 47 (pNo (K 4) (K 3 1) 2 (pl + 1, 0)).2)).2)) = (0, (pSg (K 4) (K 3 1) 64 (pNo (K 4) (K 3 1) 2 (pSg (K 4) (K 3 1) 47 (pNo (K 4) (K 3 1) 2 (pl + 1, 0)).2)).2).1, 1) := pNo_f f3
          have f4 : ¬ (pNo (K 4) (K 3 1) 3 (pSg (K 4) (K 3 1) 64 (pNo (K 4) (K 3 1) 2 (pSg (K 4) (K 3 1) 47 (pNo (K 4) (K 3 1) 2 (pl + 1, 0)).2)).2)).2.2 = 0 := by rw [e4]; exact (by decide : ¬ (1 : Int) = 0)
          have ee : (pSg (K 4) (K 3 1) 59 (pNo (K 4) (K 3 1) 3 (pSg (K 4) (K 3 1) 64 (pNo (K 4) (K 3 1) 2 (pSg (K 4) (K 3 1) 47 (pNo (K 4) (K 3 1) 2 (pl + 1, 0)).2)).2)).2) = ((pNo (K 4) (K 3 1) 3 (pSg (K 4) (K 3 1) 64 (pNo (K 4) (K 3 1) 2 (pSg (K 4) (K 3 1) 47 (pNo (K 4) (K 3 1) 2 (pl + 1, 0)).2)).2)).2.1, 1) := pSg_f f4
          rw [ee]
          rw [if_neg f3]
          try rw [if_pos g1]
          try rw [e4]
          refine zr_iconst dX3_readEntry_80 ?_
          exact pr_iret dX3_readEntry_81 rfl rfl (zret (bI_f (show ¬ (1 : Int) = 0 by decide)).symm)
      · have b87 := bI_0 c87
        have f2 : ¬ (pNo (K 4) (K 3 1) 2 (pSg (K 4) (K 3 1) 47 (pNo (K 4) (K 3 1) 2 (pl + 1, 0)).2)).2.2 = 0 := b87
        have w2 : (pNo (K 4) (K 3 1) 2 (pSg (K 4) (K 3 1) 47 (pNo (K 4) (K 3 1) 2 (pl + 1, 0)).2)).2.2 = 1 := by omega
        have e3 : (pSg (K 4) (K 3 1) 64 (pNo (K 4) (K 3 1) 2 (pSg (K 4) (K 3 1) 47 (pNo (K 4) (K 3 1) 2 (pl + 1, 0)).2)).2) = ((pNo (K 4) (K 3 1) 2 (pSg (K 4) (K 3 1) 47 (pNo (K 4) (K 3 1) 2 (pl + 1, 0)).2)).2.1, 1) := pSg_f f2
        have f3 : ¬ (pSg (K 4) (K 3 1) 64 (pNo (K 4) (K 3 1) 2 (pSg (K 4) (K 3 1) 47 (pNo (K 4) (K 3 1) 2 (pl + 1, 0)).2)).2).2 = 0 := by rw [e3]; exact (by decide : ¬ (1 : Int) = 0)
        have e4 : (pNo (K 4) (K 3 1) 3 (pSg (K 4) (K 3 1) 64 (pNo (K 4) (K 3 1) 2 (pSg (K 4) (K 3 1) 47 (pNo (K 4) (K 3 1) 2 (pl + 1, 0)).2)).2)) = (0, (pSg (K 4) (K 3 1) 64 (pNo (K 4) (K 3 1) 2 (pSg (K 4) (K 3 1) 47 (pNo (K 4) (K 3 1) 2 (pl + 1, 0)).2)).2).1, 1) := pNo_f f3
        have f4 : ¬ (pNo (K 4) (K 3 1) 3 (pSg (K 4) (K 3 1) 64 (pNo (K 4) (K 3 1) 2 (pSg (K 4) (K 3 1) 47 (pNo (K 4) (K 3 1) 2 (pl + 1, 0)).2)).2)).2.2 = 0 := by rw [e4]; exact (by decide : ¬ (1 : Int) = 0)
        have ee : (pSg (K 4) (K 3 1) 59 (pNo (K 4) (K 3 1) 3 (pSg (K 4) (K 3 1) 64 (pNo (K 4) (K 3 1) 2 (pSg (K 4) (K 3 1) 47 (pNo (K 4) (K 3 1) 2 (pl + 1, 0)).2)).2)).2) = ((pNo (K 4) (K 3 1) 3 (pSg (K 4) (K 3 1) 64 (pNo (K 4) (K 3 1) 2 (pSg (K 4) (K 3 1) 47 (pNo (K 4) (K 3 1) 2 (pl + 1, 0)).2)).2)).2.1, 1) := pSg_f f4
        rw [ee]
        rw [if_neg f3]
        try rw [if_pos g1]
        try rw [e4]
        try rw [e3]
        refine zr_iconst dX3_readEntry_90 ?_
        exact pr_iret dX3_readEntry_91 rfl rfl (zret (bI_f (show ¬ (1 : Int) = 0 by decide)).symm)
    · have b77 := bI_0 c77
      have f1 : ¬ (pSg (K 4) (K 3 1) 47 (pNo (K 4) (K 3 1) 2 (pl + 1, 0)).2).2 = 0 := b77
      have w1 : (pSg (K 4) (K 3 1) 47 (pNo (K 4) (K 3 1) 2 (pl + 1, 0)).2).2 = 1 := by omega
      have e2 : (pNo (K 4) (K 3 1) 2 (pSg (K 4) (K 3 1) 47 (pNo (K 4) (K 3 1) 2 (pl + 1, 0)).2)) = (0, (pSg (K 4) (K 3 1) 47 (pNo (K 4) (K 3 1) 2 (pl + 1, 0)).2).1, 1) := pNo_f f1
      have f2 : ¬ (pNo (K 4) (K 3 1) 2 (pSg (K 4) (K 3 1) 47 (pNo (K 4) (K 3 1) 2 (pl + 1, 0)).2)).2.2 = 0 := by rw [e2]; exact (by decide : ¬ (1 : Int) = 0)
      have e3 : (pSg (K 4) (K 3 1) 64 (pNo (K 4) (K 3 1) 2 (pSg (K 4) (K 3 1) 47 (pNo (K 4) (K 3 1) 2 (pl + 1, 0)).2)).2) = ((pNo (K 4) (K 3 1) 2 (pSg (K 4) (K 3 1) 47 (pNo (K 4) (K 3 1) 2 (pl + 1, 0)).2)).2.1, 1) := pSg_f f2
      have f3 : ¬ (pSg (K 4) (K 3 1) 64 (pNo (K 4) (K 3 1) 2 (pSg (K 4) (K 3 1) 47 (pNo (K 4) (K 3 1) 2 (pl + 1, 0)).2)).2).2 = 0 := by rw [e3]; exact (by decide : ¬ (1 : Int) = 0)
      have e4 : (pNo (K 4) (K 3 1) 3 (pSg (K 4) (K 3 1) 64 (pNo (K 4) (K 3 1) 2 (pSg (K 4) (K 3 1) 47 (pNo (K 4) (K 3 1) 2 (pl + 1, 0)).2)).2)) = (0, (pSg (K 4) (K 3 1) 64 (pNo (K 4) (K 3 1) 2 (pSg (K 4) (K 3 1) 47 (pNo (K 4) (K 3 1) 2 (pl + 1, 0)).2)).2).1, 1) := pNo_f f3
      have f4 : ¬ (pNo (K 4) (K 3 1) 3 (pSg (K 4) (K 3 1) 64 (pNo (K 4) (K 3 1) 2 (pSg (K 4) (K 3 1) 47 (pNo (K 4) (K 3 1) 2 (pl + 1, 0)).2)).2)).2.2 = 0 := by rw [e4]; exact (by decide : ¬ (1 : Int) = 0)
      have ee : (pSg (K 4) (K 3 1) 59 (pNo (K 4) (K 3 1) 3 (pSg (K 4) (K 3 1) 64 (pNo (K 4) (K 3 1) 2 (pSg (K 4) (K 3 1) 47 (pNo (K 4) (K 3 1) 2 (pl + 1, 0)).2)).2)).2) = ((pNo (K 4) (K 3 1) 3 (pSg (K 4) (K 3 1) 64 (pNo (K 4) (K 3 1) 2 (pSg (K 4) (K 3 1) 47 (pNo (K 4) (K 3 1) 2 (pl + 1, 0)).2)).2)).2.1, 1) := pSg_f f4
      rw [ee]
      rw [if_neg f3]
      rw [if_neg f1]
      try rw [e4]
      try rw [e3]
      try rw [e2]
      refine zr_iconst dX3_readEntry_80 ?_
      exact pr_iret dX3_readEntry_81 rfl rfl (zret (bI_f (show ¬ (1 : Int) = 0 by decide)).symm)
  · have b87 := bI_0 c87
    have f0 : ¬ (pNo (K 4) (K 3 1) 2 (pl + 1, 0)).2.2 = 0 := b87
    have w0 : (pNo (K 4) (K 3 1) 2 (pl + 1, 0)).2.2 = 1 := by omega
    have e1 : (pSg (K 4) (K 3 1) 47 (pNo (K 4) (K 3 1) 2 (pl + 1, 0)).2) = ((pNo (K 4) (K 3 1) 2 (pl + 1, 0)).2.1, 1) := pSg_f f0
    have f1 : ¬ (pSg (K 4) (K 3 1) 47 (pNo (K 4) (K 3 1) 2 (pl + 1, 0)).2).2 = 0 := by rw [e1]; exact (by decide : ¬ (1 : Int) = 0)
    have e2 : (pNo (K 4) (K 3 1) 2 (pSg (K 4) (K 3 1) 47 (pNo (K 4) (K 3 1) 2 (pl + 1, 0)).2)) = (0, (pSg (K 4) (K 3 1) 47 (pNo (K 4) (K 3 1) 2 (pl + 1, 0)).2).1, 1) := pNo_f f1
    have f2 : ¬ (pNo (K 4) (K 3 1) 2 (pSg (K 4) (K 3 1) 47 (pNo (K 4) (K 3 1) 2 (pl + 1, 0)).2)).2.2 = 0 := by rw [e2]; exact (by decide : ¬ (1 : Int) = 0)
    have e3 : (pSg (K 4) (K 3 1) 64 (pNo (K 4) (K 3 1) 2 (pSg (K 4) (K 3 1) 47 (pNo (K 4) (K 3 1) 2 (pl + 1, 0)).2)).2) = ((pNo (K 4) (K 3 1) 2 (pSg (K 4) (K 3 1) 47 (pNo (K 4) (K 3 1) 2 (pl + 1, 0)).2)).2.1, 1) := pSg_f f2
    have f3 : ¬ (pSg (K 4) (K 3 1) 64 (pNo (K 4) (K 3 1) 2 (pSg (K 4) (K 3 1) 47 (pNo (K 4) (K 3 1) 2 (pl + 1, 0)).2)).2).2 = 0 := by rw [e3]; exact (by decide : ¬ (1 : Int) = 0)
    have e4 : (pNo (K 4) (K 3 1) 3 (pSg (K 4) (K 3 1) 64 (pNo (K 4) (K 3 1) 2 (pSg (K 4) (K 3 1) 47 (pNo (K 4) (K 3 1) 2 (pl + 1, 0)).2)).2)) = (0, (pSg (K 4) (K 3 1) 64 (pNo (K 4) (K 3 1) 2 (pSg (K 4) (K 3 1) 47 (pNo (K 4) (K 3 1) 2 (pl + 1, 0)).2)).2).1, 1) := pNo_f f3
    have f4 : ¬ (pNo (K 4) (K 3 1) 3 (pSg (K 4) (K 3 1) 64 (pNo (K 4) (K 3 1) 2 (pSg (K 4) (K 3 1) 47 (pNo (K 4) (K 3 1) 2 (pl + 1, 0)).2)).2)).2.2 = 0 := by rw [e4]; exact (by decide : ¬ (1 : Int) = 0)
    have ee : (pSg (K 4) (K 3 1) 59 (pNo (K 4) (K 3 1) 3 (pSg (K 4) (K 3 1) 64 (pNo (K 4) (K 3 1) 2 (pSg (K 4) (K 3 1) 47 (pNo (K 4) (K 3 1) 2 (pl + 1, 0)).2)).2)).2) = ((pNo (K 4) (K 3 1) 3 (pSg (K 4) (K 3 1) 64 (pNo (K 4) (K 3 1) 2 (pSg (K 4) (K 3 1) 47 (pNo (K 4) (K 3 1) 2 (pl + 1, 0)).2)).2)).2.1, 1) := pSg_f f4
    rw [ee]
    rw [if_neg f3]
    rw [if_neg f1]
    try rw [e4]
    try rw [e3]
    try rw [e2]
    try rw [e1]
    refine zr_iconst dX3_readEntry_90 ?_
    exact pr_iret dX3_readEntry_91 rfl rfl (zret (bI_f (show ¬ (1 : Int) = 0 by decide)).symm)
theorem pNc_c (c : Int) : pNc c = -1 ∨ c = 103 ∨ (c = 99 ∨ c = 120 ∨ c = 106) ∨ c = 116 ∨ c = 114 ∨ c = 115 := by
  unfold pNc
  by_cases h1 : c = 103
  · exact Or.inr (Or.inl h1)
  · by_cases h2 : c = 99 ∨ c = 120 ∨ c = 106 ∨ c = 116
    · rcases h2 with h | h | h | h <;> simp [h]
    · by_cases h3 : c = 114
      · simp [h3]
      · by_cases h4 : c = 115
        · simp [h4]
        · left
          rw [if_neg h1, if_neg h2, if_neg h3, if_neg h4]
theorem kX3_readEntry (hj : tj t) (hA : ∀ i, 0 ≤ K 4 i ∧ K 4 i < 65536) (l1 : 0 ≤ pl) (l2 : pl ≤ K 3 1) (l3 : K 3 1 ≤ 60) : pz_Cd en 3 50 [.ref (t 3)] (tH h t u (kS K pl kd M)) 0 0 (pz_ret (some (.int (zI (bI ((cEn (K 4) M (K 3 1) pl).1.2 = 0))))) (tH h t u (kS K (cEn (K 4) M (K 3 1) pl).1.1 (if pl < K 3 1 then K 4 pl else kd) (cEn (K 4) M (K 3 1) pl).2))) := by
  by_cases hc : pl < K 3 1
  · rcases pNc_c (K 4 pl) with e | e | e | e | e | e
    · exact kX3_readEntry_x hj hA l1 l2 l3 hc e
    · exact kX3_readEntry_g hj hA l1 l2 l3 hc e
    · exact kX3_readEntry_1 hj hA l1 l2 l3 hc e
    · exact kX3_readEntry_t hj hA l1 l2 l3 hc e
    · exact kX3_readEntry_r hj hA l1 l2 l3 hc e
    · exact kX3_readEntry_s hj hA l1 l2 l3 hc e
  · exact kX3_readEntry_o hj hA l1 l2 l3 hc
theorem cEn_R {inp M : Int → Int} {ln pl : Int} (h : pl ≤ ln) : pl ≤ (cEn inp M ln pl).1.1 ∧ (cEn inp M ln pl).1.1 ≤ ln ∧ ((cEn inp M ln pl).1.2 = 0 ∨ (cEn inp M ln pl).1.2 = 1) ∧ ((cEn inp M ln pl).1.2 = 0 → pl + 1 ≤ (cEn inp M ln pl).1.1) := pEn_R h
def kCt (inp : Int → Int) (ln : Int) : Nat → Int → Int → Int → (Int → Int) → Int × Int × Int × (Int → Int)
  | 0, _, pl, kd, M => (-1, pl, kd, M)
  | n + 1, e, pl, kd, M => if ¬ (cEn inp M ln pl).1.2 = 0 then (-1, (cEn inp M ln pl).1.1, (if pl < ln then inp pl else kd), (cEn inp M ln pl).2) else if ln ≤ (cEn inp M ln pl).1.1 then (e, (cEn inp M ln pl).1.1, (if pl < ln then inp pl else kd), (cEn inp M ln pl).2) else kCt inp ln n (e + 1) (cEn inp M ln pl).1.1 (if pl < ln then inp pl else kd) (cEn inp M ln pl).2
theorem kCt_s {inp : Int → Int} {ln x e pl kd : Int} {M : Int → Int} (h : 0 < x) : kCt inp ln x.toNat e pl kd M = if ¬ (cEn inp M ln pl).1.2 = 0 then (-1, (cEn inp M ln pl).1.1, (if pl < ln then inp pl else kd), (cEn inp M ln pl).2) else if ln ≤ (cEn inp M ln pl).1.1 then (e, (cEn inp M ln pl).1.1, (if pl < ln then inp pl else kd), (cEn inp M ln pl).2) else kCt inp ln (x - 1).toNat (e + 1) (cEn inp M ln pl).1.1 (if pl < ln then inp pl else kd) (cEn inp M ln pl).2 := by
  obtain ⟨k, rfl⟩ : ∃ k : Nat, x = (k : Int) + 1 := ⟨(x - 1).toNat, by omega⟩
  rw [show ((k : Int) + 1).toNat = k + 1 by omega, show ((k : Int) + 1 - 1).toNat = k by omega]
  rfl
set_option maxRecDepth 100000 in
set_option maxHeartbeats 4000000 in
theorem kX3_countEntries (hj : tj t) (hA : ∀ i, 0 ≤ K 4 i ∧ K 4 i < 65536) (l0 : 0 ≤ K 3 1) (l3 : K 3 1 ≤ 60)  : pz_Cd en 4 49 [.ref (t 3)] (tH h t u (kS K pl kd M)) 0 0 (pz_ret (some (.int (zI (kCt (K 4) (K 3 1) 60 1 0 kd M).1))) (tH h t u (kS K (kCt (K 4) (K 3 1) 60 1 0 kd M).2.1 (kCt (K 4) (K 3 1) 60 1 0 kd M).2.2.1 (kCt (K 4) (K 3 1) 60 1 0 kd M).2.2.2))) := by
  refine pz_in pzt_X3_countEntries ?_
  have loop : ∀ (pl kd : Int) (M : Int → Int), 0 ≤ pl → pl ≤ K 3 1 → pz_WP 4 en (pz_Cd en (4 - 1)) 3 cX3_countEntries 2 (some .int) [] false (pz_ret (some (.int (zI (kCt (K 4) (K 3 1) (61 - 1 : Int).toNat 1 pl kd M).1))) (tH h t u (kS K (kCt (K 4) (K 3 1) (61 - 1 : Int).toNat 1 pl kd M).2.1 (kCt (K 4) (K 3 1) (61 - 1 : Int).toNat 1 pl kd M).2.2.1 (kCt (K 4) (K 3 1) (61 - 1 : Int).toNat 1 pl kd M).2.2.2))) 7 [some (.ref (t 3)), some (.int (zI 1))] [] (tH h t u (kS K pl kd M)) 0 0 := by
    refine zup (P := fun e => ∀ (pl kd : Int) (M : Int → Int), 0 ≤ pl → pl ≤ K 3 1 → pz_WP 4 en (pz_Cd en (4 - 1)) 3 cX3_countEntries 2 (some .int) [] false (pz_ret (some (.int (zI (kCt (K 4) (K 3 1) (61 - e : Int).toNat e pl kd M).1))) (tH h t u (kS K (kCt (K 4) (K 3 1) (61 - e : Int).toNat e pl kd M).2.1 (kCt (K 4) (K 3 1) (61 - e : Int).toNat e pl kd M).2.2.1 (kCt (K 4) (K 3 1) (61 - e : Int).toNat e pl kd M).2.2.2))) 7 [some (.ref (t 3)), some (.int (zI e))] [] (tH h t u (kS K pl kd M)) 0 0) (lo := 1) (hi := 61) (by decide) ?_ ?_
    · intro pl kd M l1 l2
      refine pr_iload_n dX3_countEntries_7 rfl ?_
      refine zr_bipush dX3_countEntries_8 (by decide) ?_
      refine zr_icmp_gt (tgt := 41) dX3_countEntries_10 (by decide) (by omega) (by omega) (fun c10 => ?_) (fun c10 => by exfalso; omega)
      refine zr_iconst dX3_countEntries_41 ?_
      exact pr_iret dX3_countEntries_42 rfl rfl (zret (by rfl))
    · intro e hk1 hk2 ih pl kd M l1 l2
      have hr := cEn_R (inp := K 4) (M := M) l2
      rw [kCt_s (show 0 < 61 - e by omega), show 61 - e - 1 = 61 - (e + 1) by omega]
      refine pr_iload_n dX3_countEntries_7 rfl ?_
      refine zr_bipush dX3_countEntries_8 (by decide) ?_
      refine zr_icmp_gt (tgt := 41) dX3_countEntries_10 (by decide) (by omega) (by omega) (fun c10 => by exfalso; omega) (fun c10 => ?_)
      refine pr_aload_n dX3_countEntries_13 rfl ?_
      refine zcv0i dX3_countEntries_14 pzm_3_23 pzt_X3_readEntry (tH_3 hj) (kX3_readEntry hj hA l1 l2 l3) (by decide) (Nat.le_of_ble_eq_true rfl) (by decide) ?_
      refine zr_if_ne (tgt := 22) dX3_countEntries_17 (by decide) (bI_R _) (fun c17 => ?_) (fun c17 => ?_)
      · have b17 := bI_ne c17
        rw [if_neg (fun z => z b17)]
        refine pr_aload_n dX3_countEntries_22 rfl ?_
        refine pr_getf dX3_countEntries_23 pzf_3_19 (tH_3 hj) rfl ?_
        refine pr_aload_n dX3_countEntries_26 rfl ?_
        refine pr_getf dX3_countEntries_27 pzf_3_27 (tH_3 hj) rfl ?_
        simp only [kS_1, kS_2, kS_3, kS_4, kS_5]
        refine zr_icmp_lt (tgt := 35) dX3_countEntries_30 (by decide) (by omega) (by omega) (fun c30 => ?_) (fun c30 => ?_)
        · rw [if_neg (by omega)]
          refine zr_iinc dX3_countEntries_35 rfl (by decide) rfl ?_
          refine pr_goto (tgt := 7) dX3_countEntries_38 (by decide) ?_
          exact ih _ _ _ (by omega) hr.2.1
        · rw [if_pos (by omega)]
          refine pr_iload_n dX3_countEntries_33 rfl ?_
          exact pr_iret dX3_countEntries_34 rfl rfl (zret (by rfl))
      · have b17 := bI_0 c17
        rw [if_pos b17]
        refine zr_iconst dX3_countEntries_20 ?_
        exact pr_iret dX3_countEntries_21 rfl rfl (zret (by rfl))
  refine pr_aload_n dX3_countEntries_0 rfl ?_
  refine zr_iconst dX3_countEntries_1 ?_
  refine pr_putf dX3_countEntries_2 pzf_3_19 (Or.inl rfl) (tH_3 hj) (Nat.le_of_ble_eq_true rfl) rfl rfl ((tH_p3_2 hj).trans (tH_eq kS_p)) ?_
  refine zr_iconst dX3_countEntries_5 ?_
  refine pr_istore_n dX3_countEntries_6 (by decide) rfl ?_
  exact loop 0 kd M (Int.le_refl _) l0
end cls
