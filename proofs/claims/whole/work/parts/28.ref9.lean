/-! the reference: entries -/
theorem pSg_w {inp : Int → Int} {ln c pl : Int} : pSg inp ln c (pl, 1) = (pl, 1) := if_neg (fun z => absurd z.1 (by simp))
section ref
variable {en : pz_Env} {h0 : pz_H} {a : Nat → Nat} {s lv : Int → Int} {A : Nat → Int → Int} {F : Nat → Int}
set_option maxRecDepth 100000 in
set_option maxHeartbeats 4000000 in
theorem kX7_behind (hj : oj 9 a) (hA : ∀ i, 0 ≤ A 6 i ∧ A 6 i < 65536) {ln pl w : Int} (e10 : F 10 = ln) (e11 : F 11 = pl) (e12 : F 12 = w) (l1 : 0 ≤ pl) (l2 : pl ≤ ln) (l3 : ln ≤ 60) (hw : w = 0 ∨ w = 1) {c d : Int} (h1 : zR c) (h2 : 1 ≤ d) (h3 : d ≤ 4) : pz_Cd en 4 205 [.ref (a 0), .int (zI c), .int (zI d)] (rH h0 a s lv A F) 0 0 (pz_ret (some (.int (zI (pNo (A 6) ln d (pSg (A 6) ln c (pl, w))).1))) (rH h0 a s lv A (va_up (va_up F 12 (pNo (A 6) ln d (pSg (A 6) ln c (pl, w))).2.2) 11 (pNo (A 6) ln d (pSg (A 6) ln c (pl, w))).2.1))) := by
  refine pz_in pzt_X7_behind ?_
  subst e10 e11 e12
  have g := pSg_R (inp := A 6) (c := c) (x := (F 11, F 12)) l2
  refine pr_aload_n dX7_behind_0 rfl ?_
  refine pr_iload_n dX7_behind_1 rfl ?_
  refine zcv1u dX7_behind_2 pzm_7_221 pzt_X7_sign (rH_0 hj) (kX7_sign (F := F) (ln := F 10) (pl := F 11) (w := F 12) hj (by exact hA) rfl rfl rfl (by omega) (by omega) (by omega) (by omega) h1) (by decide) (Nat.le_of_ble_eq_true rfl) (by decide) ?_
  refine pr_aload_n dX7_behind_5 rfl ?_
  refine pr_iload_n dX7_behind_6 rfl ?_
  refine zcv1i dX7_behind_7 pzm_7_225 pzt_X7_number (rH_0 hj) (kX7_number (F := (va_up (va_up F 12 (pSg (A 6) (F 10) c (F 11, F 12)).2) 11 (pSg (A 6) (F 10) c (F 11, F 12)).1)) (ln := F 10) (pl := (pSg (A 6) (F 10) c (F 11, F 12)).1) (w := (pSg (A 6) (F 10) c (F 11, F 12)).2) hj (by exact hA) rfl rfl rfl (by omega) (by omega) (by omega) (by omega) h2 h3) (by decide) (Nat.le_of_ble_eq_true rfl) (by decide) ?_
  rw [vu_1211]
  exact pr_iret dX7_behind_10 rfl rfl (zret (by rfl))
set_option maxRecDepth 100000 in
set_option maxHeartbeats 4000000 in
theorem kX7_readEntry_g (hj : oj 9 a) (hA : ∀ i, 0 ≤ A 6 i ∧ A 6 i < 65536) (l1 : 0 ≤ F 11) (l2 : F 11 ≤ F 10) (l3 : F 10 ≤ 60) (f1 : 0 ≤ F 16) (f2 : F 16 < 60) (hc : F 11 < F 10) (hk : A 6 (F 11) = 103) : pz_Cd en 6 206 [.ref (a 0)] (rH h0 a s lv A F) 0 0 (pz_ret (none) (rH h0 a s lv (va_up A 7 (zu (A 7) (F 16) (A 6 (F 11)))) (va_up (va_up (va_up F 12 (pSg (A 6) (F 10) 59 (F 11 + 1, 0)).2) 11 (pSg (A 6) (F 10) 59 (F 11 + 1, 0)).1) 16 (F 16 + 1)))) := by
  refine pz_in pzt_X7_readEntry ?_
  have hp := hA (F 11)
  have hix : 0 ≤ pz_ix (zI (A 6 (F 11))) := by
    rw [hk]; decide
  have g0 : F 11 + 1 ≤ F 10 := by omega
  refine zr_iconst dX7_readEntry_0 ?_
  refine pr_aload_n dX7_readEntry_1 rfl ?_
  refine pr_getf dX7_readEntry_2 pzf_7_228 (rH_0 hj) rfl ?_
  refine zr_imul dX7_readEntry_5 ?_
  refine pr_istore_n dX7_readEntry_6 (by decide) rfl ?_
  refine pr_aload_n dX7_readEntry_7 rfl ?_
  refine pr_getf dX7_readEntry_8 pzf_7_214 (rH_0 hj) rfl ?_
  refine pr_aload_n dX7_readEntry_11 rfl ?_
  refine pr_getf dX7_readEntry_12 pzf_7_207 (rH_0 hj) rfl ?_
  refine zr_icmp_ge (tgt := 30) dX7_readEntry_15 (by decide) (by first | exact hR _ | omega) (by first | exact hR _ | omega) (fun c15 => by exfalso; omega) (fun c15 => ?_)
  refine pr_aload_n dX7_readEntry_18 rfl ?_
  refine pr_getf dX7_readEntry_19 pzf_7_25 (rH_0 hj) rfl ?_
  refine pr_aload_n dX7_readEntry_22 rfl ?_
  refine pr_getf dX7_readEntry_23 pzf_7_214 (rH_0 hj) rfl ?_
  refine zr_cald dX7_readEntry_26 (rH_6 hj) (by omega) (by decide) ?_
  refine pr_goto (tgt := 32) dX7_readEntry_27 (by decide) ?_
  refine pr_istore_n dX7_readEntry_32 (by decide) rfl ?_
  refine pr_aload_n dX7_readEntry_33 rfl ?_
  refine pr_getf dX7_readEntry_34 pzf_7_33 (rH_0 hj) rfl ?_
  refine pr_aload_n dX7_readEntry_37 rfl ?_
  refine pr_getf dX7_readEntry_38 pzf_7_228 (rH_0 hj) rfl ?_
  refine pr_iload_n dX7_readEntry_41 rfl ?_
  refine zr_cast dX7_readEntry_42 (rH_7 hj) (by omega) (by decide) (by rw [hk]; rfl) (rH_u7 hj) ?_
  refine pr_aload_n dX7_readEntry_43 rfl ?_
  refine pr_ldcs dX7_readEntry_44 rfl ?_
  refine pr_iload_n dX7_readEntry_46 rfl ?_
  refine pr_idx dX7_readEntry_47 rfl (by decide) (by rw [zI_toInt (by omega)]; exact hp) (Nat.le_of_ble_eq_true rfl) ?_
  refine pr_if_ge (tgt := 57) dX7_readEntry_50 (by decide) (fun c50 => ?_) (fun c50 => absurd hix c50)
  refine zr_iconst dX7_readEntry_57 ?_
  refine pr_putf dX7_readEntry_58 pzf_7_210 (Or.inl rfl) (rH_0 hj) (Nat.le_of_ble_eq_true rfl) rfl rfl (rH_p12 hj) ?_
  refine pr_aload_n dX7_readEntry_61 rfl ?_
  refine pr_dup dX7_readEntry_62 rfl ?_
  refine pr_getf dX7_readEntry_63 pzf_7_214 (rH_0 hj) rfl ?_
  refine pr_aload_n dX7_readEntry_66 rfl ?_
  refine pr_getf dX7_readEntry_67 pzf_7_210 (rH_0 hj) rfl ?_
  rw [vu_self]
  refine zr_if_eq (tgt := 77) dX7_readEntry_70 (by decide) (by decide) (fun c70 => ?_) (fun c70 => by exfalso; omega)
  refine zr_iconst dX7_readEntry_77 ?_
  refine zr_iadd dX7_readEntry_78 ?_
  refine pr_putf dX7_readEntry_79 pzf_7_214 (Or.inl rfl) (rH_0 hj) (Nat.le_of_ble_eq_true rfl) rfl rfl (rH_p11 hj) ?_
  refine pr_aload_n dX7_readEntry_82 rfl ?_
  refine pr_getf dX7_readEntry_83 pzf_7_210 (rH_0 hj) rfl ?_
  rw [vu_ne _ _ (by decide), vu_self]
  refine zr_if_ne (tgt := 116) dX7_readEntry_86 (by decide) (by decide) (fun c86 => by exfalso; omega) (fun c86 => ?_)
  refine pr_iload_n dX7_readEntry_89 rfl ?_
  refine zr_bipush dX7_readEntry_90 (by decide) ?_
  refine zr_icmp_eq (tgt := 116) dX7_readEntry_92 (by decide) (by first | exact hR _ | omega) (by first | exact hR _ | omega) (fun c92 => ?_) (fun c92 => by exfalso; omega)
  refine pr_iload_n dX7_readEntry_116 rfl ?_
  refine zr_bipush dX7_readEntry_117 (by decide) ?_
  refine zr_icmp_eq (tgt := 128) dX7_readEntry_119 (by decide) (by first | exact hR _ | omega) (by first | exact hR _ | omega) (fun c119 => by exfalso; omega) (fun c119 => ?_)
  refine pr_iload_n dX7_readEntry_122 rfl ?_
  refine zr_bipush dX7_readEntry_123 (by decide) ?_
  refine zr_icmp_ne (tgt := 143) dX7_readEntry_125 (by decide) (by first | exact hR _ | omega) (by first | exact hR _ | omega) (fun c125 => ?_) (fun c125 => by exfalso; omega)
  refine pr_iload_n dX7_readEntry_143 rfl ?_
  refine zr_bipush dX7_readEntry_144 (by decide) ?_
  refine zr_icmp_ne (tgt := 164) dX7_readEntry_146 (by decide) (by first | exact hR _ | omega) (by first | exact hR _ | omega) (fun c146 => ?_) (fun c146 => by exfalso; omega)
  refine pr_aload_n dX7_readEntry_164 rfl ?_
  refine zr_bipush dX7_readEntry_165 (by decide) ?_
  refine zcv1u dX7_readEntry_167 pzm_7_221 pzt_X7_sign (rH_0 hj) (kX7_sign (F := (va_up (va_up F 12 0) 11 (F 11 + 1))) (ln := F 10) (pl := F 11 + 1) (w := 0) hj (by exact hA) rfl rfl rfl (by omega) (by omega) (by omega) (by omega) (by decide)) (by decide) (Nat.le_of_ble_eq_true rfl) (by decide) ?_
  rw [vu_1211]
  refine pr_aload_n dX7_readEntry_170 rfl ?_
  refine pr_dup dX7_readEntry_171 rfl ?_
  refine pr_getf dX7_readEntry_172 pzf_7_228 (rH_0 hj) rfl ?_
  refine zr_iconst dX7_readEntry_175 ?_
  refine zr_iadd dX7_readEntry_176 ?_
  refine pr_putf dX7_readEntry_177 pzf_7_228 (Or.inl rfl) (rH_0 hj) (Nat.le_of_ble_eq_true rfl) rfl rfl (rH_p16 hj) ?_
  exact pr_vret dX7_readEntry_180 rfl (zretv (by first | rfl | (rw [vu_up]; rfl) | (rw [vu_up, vu_up]; rfl)))
set_option maxRecDepth 100000 in
set_option maxHeartbeats 4000000 in
theorem kX7_readEntry_n (hj : oj 9 a) (hA : ∀ i, 0 ≤ A 6 i ∧ A 6 i < 65536) (l1 : 0 ≤ F 11) (l2 : F 11 ≤ F 10) (l3 : F 10 ≤ 60) (f1 : 0 ≤ F 16) (f2 : F 16 < 60) (hc : F 11 < F 10) (hk : A 6 (F 11) = 99 ∨ A 6 (F 11) = 120 ∨ A 6 (F 11) = 106) : pz_Cd en 6 206 [.ref (a 0)] (rH h0 a s lv A F) 0 0 (pz_ret (none) (rH h0 a s lv (va_up (va_up A 7 (zu (A 7) (F 16) (A 6 (F 11)))) 8 (zu (A 8) (3 * F 16) (pNo (A 6) (F 10) 2 (F 11 + 1, 0)).1)) (va_up (va_up (va_up F 12 (pSg (A 6) (F 10) 59 (pNo (A 6) (F 10) 2 (F 11 + 1, 0)).2).2) 11 (pSg (A 6) (F 10) 59 (pNo (A 6) (F 10) 2 (F 11 + 1, 0)).2).1) 16 (F 16 + 1)))) := by
  refine pz_in pzt_X7_readEntry ?_
  have hp := hA (F 11)
  have hix : 0 ≤ pz_ix (zI (A 6 (F 11))) := by
    rcases hk with hk | hk | hk <;> (rw [hk]; decide)
  have g0 : F 11 + 1 ≤ F 10 := by omega
  have g1 := pNo_R (inp := A 6) (d := 2) (x := (F 11 + 1, 0)) g0
  refine zr_iconst dX7_readEntry_0 ?_
  refine pr_aload_n dX7_readEntry_1 rfl ?_
  refine pr_getf dX7_readEntry_2 pzf_7_228 (rH_0 hj) rfl ?_
  refine zr_imul dX7_readEntry_5 ?_
  refine pr_istore_n dX7_readEntry_6 (by decide) rfl ?_
  refine pr_aload_n dX7_readEntry_7 rfl ?_
  refine pr_getf dX7_readEntry_8 pzf_7_214 (rH_0 hj) rfl ?_
  refine pr_aload_n dX7_readEntry_11 rfl ?_
  refine pr_getf dX7_readEntry_12 pzf_7_207 (rH_0 hj) rfl ?_
  refine zr_icmp_ge (tgt := 30) dX7_readEntry_15 (by decide) (by first | exact hR _ | omega) (by first | exact hR _ | omega) (fun c15 => by exfalso; omega) (fun c15 => ?_)
  refine pr_aload_n dX7_readEntry_18 rfl ?_
  refine pr_getf dX7_readEntry_19 pzf_7_25 (rH_0 hj) rfl ?_
  refine pr_aload_n dX7_readEntry_22 rfl ?_
  refine pr_getf dX7_readEntry_23 pzf_7_214 (rH_0 hj) rfl ?_
  refine zr_cald dX7_readEntry_26 (rH_6 hj) (by omega) (by decide) ?_
  refine pr_goto (tgt := 32) dX7_readEntry_27 (by decide) ?_
  refine pr_istore_n dX7_readEntry_32 (by decide) rfl ?_
  refine pr_aload_n dX7_readEntry_33 rfl ?_
  refine pr_getf dX7_readEntry_34 pzf_7_33 (rH_0 hj) rfl ?_
  refine pr_aload_n dX7_readEntry_37 rfl ?_
  refine pr_getf dX7_readEntry_38 pzf_7_228 (rH_0 hj) rfl ?_
  refine pr_iload_n dX7_readEntry_41 rfl ?_
  refine zr_cast dX7_readEntry_42 (rH_7 hj) (by omega) (by decide) (by rcases hk with hk | hk | hk <;> (rw [hk]; rfl)) (rH_u7 hj) ?_
  refine pr_aload_n dX7_readEntry_43 rfl ?_
  refine pr_ldcs dX7_readEntry_44 rfl ?_
  refine pr_iload_n dX7_readEntry_46 rfl ?_
  refine pr_idx dX7_readEntry_47 rfl (by decide) (by rw [zI_toInt (by omega)]; exact hp) (Nat.le_of_ble_eq_true rfl) ?_
  refine pr_if_ge (tgt := 57) dX7_readEntry_50 (by decide) (fun c50 => ?_) (fun c50 => absurd hix c50)
  refine zr_iconst dX7_readEntry_57 ?_
  refine pr_putf dX7_readEntry_58 pzf_7_210 (Or.inl rfl) (rH_0 hj) (Nat.le_of_ble_eq_true rfl) rfl rfl (rH_p12 hj) ?_
  refine pr_aload_n dX7_readEntry_61 rfl ?_
  refine pr_dup dX7_readEntry_62 rfl ?_
  refine pr_getf dX7_readEntry_63 pzf_7_214 (rH_0 hj) rfl ?_
  refine pr_aload_n dX7_readEntry_66 rfl ?_
  refine pr_getf dX7_readEntry_67 pzf_7_210 (rH_0 hj) rfl ?_
  rw [vu_self]
  refine zr_if_eq (tgt := 77) dX7_readEntry_70 (by decide) (by decide) (fun c70 => ?_) (fun c70 => by exfalso; omega)
  refine zr_iconst dX7_readEntry_77 ?_
  refine zr_iadd dX7_readEntry_78 ?_
  refine pr_putf dX7_readEntry_79 pzf_7_214 (Or.inl rfl) (rH_0 hj) (Nat.le_of_ble_eq_true rfl) rfl rfl (rH_p11 hj) ?_
  refine pr_aload_n dX7_readEntry_82 rfl ?_
  refine pr_getf dX7_readEntry_83 pzf_7_210 (rH_0 hj) rfl ?_
  rw [vu_ne _ _ (by decide), vu_self]
  refine zr_if_ne (tgt := 116) dX7_readEntry_86 (by decide) (by decide) (fun c86 => by exfalso; omega) (fun c86 => ?_)
  refine pr_iload_n dX7_readEntry_89 rfl ?_
  refine zr_bipush dX7_readEntry_90 (by decide) ?_
  refine zr_icmp_eq (tgt := 116) dX7_readEntry_92 (by decide) (by first | exact hR _ | omega) (by first | exact hR _ | omega) (fun c92 => by exfalso; omega) (fun c92 => ?_)
  refine pr_aload_n dX7_readEntry_95 rfl ?_
  refine pr_getf dX7_readEntry_96 pzf_7_36 (rH_0 hj) rfl ?_
  refine pr_iload_n dX7_readEntry_99 rfl ?_
  refine pr_aload_n dX7_readEntry_100 rfl ?_
  refine pr_iload_n dX7_readEntry_101 rfl ?_
  refine zr_bipush dX7_readEntry_102 (by decide) ?_
  refine zr_icmp_ne (tgt := 111) dX7_readEntry_104 (by decide) (by first | exact hR _ | omega) (by first | exact hR _ | omega) (fun c104 => ?_) (fun c104 => by exfalso; omega)
  refine zr_iconst dX7_readEntry_111 ?_
  refine zcv1i dX7_readEntry_112 pzm_7_225 pzt_X7_number (rH_0 hj) (kX7_number (F := (va_up (va_up F 12 0) 11 (F 11 + 1))) (ln := F 10) (pl := F 11 + 1) (w := 0) hj (by exact hA) rfl rfl rfl (by omega) (by omega) (by omega) (by omega) (by decide) (by decide)) (by decide) (Nat.le_of_ble_eq_true rfl) (by decide) ?_
  rw [vu_1211]
  refine zr_iast dX7_readEntry_115 (rH_8 hj) (by omega) (by decide) (rH_u8 hj) ?_
  refine pr_iload_n dX7_readEntry_116 rfl ?_
  refine zr_bipush dX7_readEntry_117 (by decide) ?_
  refine zr_icmp_eq (tgt := 128) dX7_readEntry_119 (by decide) (by first | exact hR _ | omega) (by first | exact hR _ | omega) (fun c119 => by exfalso; omega) (fun c119 => ?_)
  refine pr_iload_n dX7_readEntry_122 rfl ?_
  refine zr_bipush dX7_readEntry_123 (by decide) ?_
  refine zr_icmp_ne (tgt := 143) dX7_readEntry_125 (by decide) (by first | exact hR _ | omega) (by first | exact hR _ | omega) (fun c125 => ?_) (fun c125 => by exfalso; omega)
  refine pr_iload_n dX7_readEntry_143 rfl ?_
  refine zr_bipush dX7_readEntry_144 (by decide) ?_
  refine zr_icmp_ne (tgt := 164) dX7_readEntry_146 (by decide) (by first | exact hR _ | omega) (by first | exact hR _ | omega) (fun c146 => ?_) (fun c146 => by exfalso; omega)
  refine pr_aload_n dX7_readEntry_164 rfl ?_
  refine zr_bipush dX7_readEntry_165 (by decide) ?_
  refine zcv1u dX7_readEntry_167 pzm_7_221 pzt_X7_sign (rH_0 hj) (kX7_sign (F := (va_up (va_up F 12 (pNo (A 6) (F 10) 2 (F 11 + 1, 0)).2.2) 11 (pNo (A 6) (F 10) 2 (F 11 + 1, 0)).2.1)) (ln := F 10) (pl := (pNo (A 6) (F 10) 2 (F 11 + 1, 0)).2.1) (w := (pNo (A 6) (F 10) 2 (F 11 + 1, 0)).2.2) hj (by exact hA) rfl rfl rfl (by omega) (by omega) (by omega) (by omega) (by decide)) (by decide) (Nat.le_of_ble_eq_true rfl) (by decide) ?_
  rw [vu_1211]
  refine pr_aload_n dX7_readEntry_170 rfl ?_
  refine pr_dup dX7_readEntry_171 rfl ?_
  refine pr_getf dX7_readEntry_172 pzf_7_228 (rH_0 hj) rfl ?_
  refine zr_iconst dX7_readEntry_175 ?_
  refine zr_iadd dX7_readEntry_176 ?_
  refine pr_putf dX7_readEntry_177 pzf_7_228 (Or.inl rfl) (rH_0 hj) (Nat.le_of_ble_eq_true rfl) rfl rfl (rH_p16 hj) ?_
  exact pr_vret dX7_readEntry_180 rfl (zretv (by first | rfl | (rw [vu_up]; rfl) | (rw [vu_up, vu_up]; rfl)))
set_option maxRecDepth 100000 in
set_option maxHeartbeats 4000000 in
theorem kX7_readEntry_t (hj : oj 9 a) (hA : ∀ i, 0 ≤ A 6 i ∧ A 6 i < 65536) (l1 : 0 ≤ F 11) (l2 : F 11 ≤ F 10) (l3 : F 10 ≤ 60) (f1 : 0 ≤ F 16) (f2 : F 16 < 60) (hc : F 11 < F 10) (hk : A 6 (F 11) = 116) : pz_Cd en 6 206 [.ref (a 0)] (rH h0 a s lv A F) 0 0 (pz_ret (none) (rH h0 a s lv (va_up (va_up A 7 (zu (A 7) (F 16) (A 6 (F 11)))) 8 (zu (A 8) (3 * F 16) (pNo (A 6) (F 10) 4 (F 11 + 1, 0)).1)) (va_up (va_up (va_up F 12 (pSg (A 6) (F 10) 59 (pNo (A 6) (F 10) 4 (F 11 + 1, 0)).2).2) 11 (pSg (A 6) (F 10) 59 (pNo (A 6) (F 10) 4 (F 11 + 1, 0)).2).1) 16 (F 16 + 1)))) := by
  refine pz_in pzt_X7_readEntry ?_
  have hp := hA (F 11)
  have hix : 0 ≤ pz_ix (zI (A 6 (F 11))) := by
    rw [hk]; decide
  have g0 : F 11 + 1 ≤ F 10 := by omega
  have g1 := pNo_R (inp := A 6) (d := 4) (x := (F 11 + 1, 0)) g0
  refine zr_iconst dX7_readEntry_0 ?_
  refine pr_aload_n dX7_readEntry_1 rfl ?_
  refine pr_getf dX7_readEntry_2 pzf_7_228 (rH_0 hj) rfl ?_
  refine zr_imul dX7_readEntry_5 ?_
  refine pr_istore_n dX7_readEntry_6 (by decide) rfl ?_
  refine pr_aload_n dX7_readEntry_7 rfl ?_
  refine pr_getf dX7_readEntry_8 pzf_7_214 (rH_0 hj) rfl ?_
  refine pr_aload_n dX7_readEntry_11 rfl ?_
  refine pr_getf dX7_readEntry_12 pzf_7_207 (rH_0 hj) rfl ?_
  refine zr_icmp_ge (tgt := 30) dX7_readEntry_15 (by decide) (by first | exact hR _ | omega) (by first | exact hR _ | omega) (fun c15 => by exfalso; omega) (fun c15 => ?_)
  refine pr_aload_n dX7_readEntry_18 rfl ?_
  refine pr_getf dX7_readEntry_19 pzf_7_25 (rH_0 hj) rfl ?_
  refine pr_aload_n dX7_readEntry_22 rfl ?_
  refine pr_getf dX7_readEntry_23 pzf_7_214 (rH_0 hj) rfl ?_
  refine zr_cald dX7_readEntry_26 (rH_6 hj) (by omega) (by decide) ?_
  refine pr_goto (tgt := 32) dX7_readEntry_27 (by decide) ?_
  refine pr_istore_n dX7_readEntry_32 (by decide) rfl ?_
  refine pr_aload_n dX7_readEntry_33 rfl ?_
  refine pr_getf dX7_readEntry_34 pzf_7_33 (rH_0 hj) rfl ?_
  refine pr_aload_n dX7_readEntry_37 rfl ?_
  refine pr_getf dX7_readEntry_38 pzf_7_228 (rH_0 hj) rfl ?_
  refine pr_iload_n dX7_readEntry_41 rfl ?_
  refine zr_cast dX7_readEntry_42 (rH_7 hj) (by omega) (by decide) (by rw [hk]; rfl) (rH_u7 hj) ?_
  refine pr_aload_n dX7_readEntry_43 rfl ?_
  refine pr_ldcs dX7_readEntry_44 rfl ?_
  refine pr_iload_n dX7_readEntry_46 rfl ?_
  refine pr_idx dX7_readEntry_47 rfl (by decide) (by rw [zI_toInt (by omega)]; exact hp) (Nat.le_of_ble_eq_true rfl) ?_
  refine pr_if_ge (tgt := 57) dX7_readEntry_50 (by decide) (fun c50 => ?_) (fun c50 => absurd hix c50)
  refine zr_iconst dX7_readEntry_57 ?_
  refine pr_putf dX7_readEntry_58 pzf_7_210 (Or.inl rfl) (rH_0 hj) (Nat.le_of_ble_eq_true rfl) rfl rfl (rH_p12 hj) ?_
  refine pr_aload_n dX7_readEntry_61 rfl ?_
  refine pr_dup dX7_readEntry_62 rfl ?_
  refine pr_getf dX7_readEntry_63 pzf_7_214 (rH_0 hj) rfl ?_
  refine pr_aload_n dX7_readEntry_66 rfl ?_
  refine pr_getf dX7_readEntry_67 pzf_7_210 (rH_0 hj) rfl ?_
  rw [vu_self]
  refine zr_if_eq (tgt := 77) dX7_readEntry_70 (by decide) (by decide) (fun c70 => ?_) (fun c70 => by exfalso; omega)
  refine zr_iconst dX7_readEntry_77 ?_
  refine zr_iadd dX7_readEntry_78 ?_
  refine pr_putf dX7_readEntry_79 pzf_7_214 (Or.inl rfl) (rH_0 hj) (Nat.le_of_ble_eq_true rfl) rfl rfl (rH_p11 hj) ?_
  refine pr_aload_n dX7_readEntry_82 rfl ?_
  refine pr_getf dX7_readEntry_83 pzf_7_210 (rH_0 hj) rfl ?_
  rw [vu_ne _ _ (by decide), vu_self]
  refine zr_if_ne (tgt := 116) dX7_readEntry_86 (by decide) (by decide) (fun c86 => by exfalso; omega) (fun c86 => ?_)
  refine pr_iload_n dX7_readEntry_89 rfl ?_
  refine zr_bipush dX7_readEntry_90 (by decide) ?_
  refine zr_icmp_eq (tgt := 116) dX7_readEntry_92 (by decide) (by first | exact hR _ | omega) (by first | exact hR _ | omega) (fun c92 => by exfalso; omega) (fun c92 => ?_)
  refine pr_aload_n dX7_readEntry_95 rfl ?_
  refine pr_getf dX7_readEntry_96 pzf_7_36 (rH_0 hj) rfl ?_
  refine pr_iload_n dX7_readEntry_99 rfl ?_
  refine pr_aload_n dX7_readEntry_100 rfl ?_
  refine pr_iload_n dX7_readEntry_101 rfl ?_
  refine zr_bipush dX7_readEntry_102 (by decide) ?_
  refine zr_icmp_ne (tgt := 111) dX7_readEntry_104 (by decide) (by first | exact hR _ | omega) (by first | exact hR _ | omega) (fun c104 => by exfalso; omega) (fun c104 => ?_)
  refine zr_iconst dX7_readEntry_107 ?_
  refine pr_goto (tgt := 112) dX7_readEntry_108 (by decide) ?_
  refine zcv1i dX7_readEntry_112 pzm_7_225 pzt_X7_number (rH_0 hj) (kX7_number (F := (va_up (va_up F 12 0) 11 (F 11 + 1))) (ln := F 10) (pl := F 11 + 1) (w := 0) hj (by exact hA) rfl rfl rfl (by omega) (by omega) (by omega) (by omega) (by decide) (by decide)) (by decide) (Nat.le_of_ble_eq_true rfl) (by decide) ?_
  rw [vu_1211]
  refine zr_iast dX7_readEntry_115 (rH_8 hj) (by omega) (by decide) (rH_u8 hj) ?_
  refine pr_iload_n dX7_readEntry_116 rfl ?_
  refine zr_bipush dX7_readEntry_117 (by decide) ?_
  refine zr_icmp_eq (tgt := 128) dX7_readEntry_119 (by decide) (by first | exact hR _ | omega) (by first | exact hR _ | omega) (fun c119 => by exfalso; omega) (fun c119 => ?_)
  refine pr_iload_n dX7_readEntry_122 rfl ?_
  refine zr_bipush dX7_readEntry_123 (by decide) ?_
  refine zr_icmp_ne (tgt := 143) dX7_readEntry_125 (by decide) (by first | exact hR _ | omega) (by first | exact hR _ | omega) (fun c125 => ?_) (fun c125 => by exfalso; omega)
  refine pr_iload_n dX7_readEntry_143 rfl ?_
  refine zr_bipush dX7_readEntry_144 (by decide) ?_
  refine zr_icmp_ne (tgt := 164) dX7_readEntry_146 (by decide) (by first | exact hR _ | omega) (by first | exact hR _ | omega) (fun c146 => ?_) (fun c146 => by exfalso; omega)
  refine pr_aload_n dX7_readEntry_164 rfl ?_
  refine zr_bipush dX7_readEntry_165 (by decide) ?_
  refine zcv1u dX7_readEntry_167 pzm_7_221 pzt_X7_sign (rH_0 hj) (kX7_sign (F := (va_up (va_up F 12 (pNo (A 6) (F 10) 4 (F 11 + 1, 0)).2.2) 11 (pNo (A 6) (F 10) 4 (F 11 + 1, 0)).2.1)) (ln := F 10) (pl := (pNo (A 6) (F 10) 4 (F 11 + 1, 0)).2.1) (w := (pNo (A 6) (F 10) 4 (F 11 + 1, 0)).2.2) hj (by exact hA) rfl rfl rfl (by omega) (by omega) (by omega) (by omega) (by decide)) (by decide) (Nat.le_of_ble_eq_true rfl) (by decide) ?_
  rw [vu_1211]
  refine pr_aload_n dX7_readEntry_170 rfl ?_
  refine pr_dup dX7_readEntry_171 rfl ?_
  refine pr_getf dX7_readEntry_172 pzf_7_228 (rH_0 hj) rfl ?_
  refine zr_iconst dX7_readEntry_175 ?_
  refine zr_iadd dX7_readEntry_176 ?_
  refine pr_putf dX7_readEntry_177 pzf_7_228 (Or.inl rfl) (rH_0 hj) (Nat.le_of_ble_eq_true rfl) rfl rfl (rH_p16 hj) ?_
  exact pr_vret dX7_readEntry_180 rfl (zretv (by first | rfl | (rw [vu_up]; rfl) | (rw [vu_up, vu_up]; rfl)))
set_option maxRecDepth 100000 in
set_option maxHeartbeats 4000000 in
theorem kX7_readEntry_r (hj : oj 9 a) (hA : ∀ i, 0 ≤ A 6 i ∧ A 6 i < 65536) (l1 : 0 ≤ F 11) (l2 : F 11 ≤ F 10) (l3 : F 10 ≤ 60) (f1 : 0 ≤ F 16) (f2 : F 16 < 60) (hc : F 11 < F 10) (hk : A 6 (F 11) = 114) : pz_Cd en 6 206 [.ref (a 0)] (rH h0 a s lv A F) 0 0 (pz_ret (none) (rH h0 a s lv (va_up (va_up A 7 (zu (A 7) (F 16) (A 6 (F 11)))) 8 (zu (zu (A 8) (3 * F 16) (pNo (A 6) (F 10) 2 (F 11 + 1, 0)).1) (3 * F 16 + 1) (pNo (A 6) (F 10) 2 (pSg (A 6) (F 10) 47 (pNo (A 6) (F 10) 2 (F 11 + 1, 0)).2)).1)) (va_up (va_up (va_up F 12 (pSg (A 6) (F 10) 59 (pNo (A 6) (F 10) 2 (pSg (A 6) (F 10) 47 (pNo (A 6) (F 10) 2 (F 11 + 1, 0)).2)).2).2) 11 (pSg (A 6) (F 10) 59 (pNo (A 6) (F 10) 2 (pSg (A 6) (F 10) 47 (pNo (A 6) (F 10) 2 (F 11 + 1, 0)).2)).2).1) 16 (F 16 + 1)))) := by
  refine pz_in pzt_X7_readEntry ?_
  have hp := hA (F 11)
  have hix : 0 ≤ pz_ix (zI (A 6 (F 11))) := by
    rw [hk]; decide
  have g0 : F 11 + 1 ≤ F 10 := by omega
  have g1 := pNo_R (inp := A 6) (d := 2) (x := (F 11 + 1, 0)) g0
  have g2 := pSg_R (inp := A 6) (c := 47) (x := (pNo (A 6) (F 10) 2 (F 11 + 1, 0)).2) g1.2.1
  have g3 := pNo_R (inp := A 6) (d := 2) (x := (pSg (A 6) (F 10) 47 (pNo (A 6) (F 10) 2 (F 11 + 1, 0)).2)) g2.2.1
  refine zr_iconst dX7_readEntry_0 ?_
  refine pr_aload_n dX7_readEntry_1 rfl ?_
  refine pr_getf dX7_readEntry_2 pzf_7_228 (rH_0 hj) rfl ?_
  refine zr_imul dX7_readEntry_5 ?_
  refine pr_istore_n dX7_readEntry_6 (by decide) rfl ?_
  refine pr_aload_n dX7_readEntry_7 rfl ?_
  refine pr_getf dX7_readEntry_8 pzf_7_214 (rH_0 hj) rfl ?_
  refine pr_aload_n dX7_readEntry_11 rfl ?_
  refine pr_getf dX7_readEntry_12 pzf_7_207 (rH_0 hj) rfl ?_
  refine zr_icmp_ge (tgt := 30) dX7_readEntry_15 (by decide) (by first | exact hR _ | omega) (by first | exact hR _ | omega) (fun c15 => by exfalso; omega) (fun c15 => ?_)
  refine pr_aload_n dX7_readEntry_18 rfl ?_
  refine pr_getf dX7_readEntry_19 pzf_7_25 (rH_0 hj) rfl ?_
  refine pr_aload_n dX7_readEntry_22 rfl ?_
  refine pr_getf dX7_readEntry_23 pzf_7_214 (rH_0 hj) rfl ?_
  refine zr_cald dX7_readEntry_26 (rH_6 hj) (by omega) (by decide) ?_
  refine pr_goto (tgt := 32) dX7_readEntry_27 (by decide) ?_
  refine pr_istore_n dX7_readEntry_32 (by decide) rfl ?_
  refine pr_aload_n dX7_readEntry_33 rfl ?_
  refine pr_getf dX7_readEntry_34 pzf_7_33 (rH_0 hj) rfl ?_
  refine pr_aload_n dX7_readEntry_37 rfl ?_
  refine pr_getf dX7_readEntry_38 pzf_7_228 (rH_0 hj) rfl ?_
  refine pr_iload_n dX7_readEntry_41 rfl ?_
  refine zr_cast dX7_readEntry_42 (rH_7 hj) (by omega) (by decide) (by rw [hk]; rfl) (rH_u7 hj) ?_
  refine pr_aload_n dX7_readEntry_43 rfl ?_
  refine pr_ldcs dX7_readEntry_44 rfl ?_
  refine pr_iload_n dX7_readEntry_46 rfl ?_
  refine pr_idx dX7_readEntry_47 rfl (by decide) (by rw [zI_toInt (by omega)]; exact hp) (Nat.le_of_ble_eq_true rfl) ?_
  refine pr_if_ge (tgt := 57) dX7_readEntry_50 (by decide) (fun c50 => ?_) (fun c50 => absurd hix c50)
  refine zr_iconst dX7_readEntry_57 ?_
  refine pr_putf dX7_readEntry_58 pzf_7_210 (Or.inl rfl) (rH_0 hj) (Nat.le_of_ble_eq_true rfl) rfl rfl (rH_p12 hj) ?_
  refine pr_aload_n dX7_readEntry_61 rfl ?_
  refine pr_dup dX7_readEntry_62 rfl ?_
  refine pr_getf dX7_readEntry_63 pzf_7_214 (rH_0 hj) rfl ?_
  refine pr_aload_n dX7_readEntry_66 rfl ?_
  refine pr_getf dX7_readEntry_67 pzf_7_210 (rH_0 hj) rfl ?_
  rw [vu_self]
  refine zr_if_eq (tgt := 77) dX7_readEntry_70 (by decide) (by decide) (fun c70 => ?_) (fun c70 => by exfalso; omega)
  refine zr_iconst dX7_readEntry_77 ?_
  refine zr_iadd dX7_readEntry_78 ?_
  refine pr_putf dX7_readEntry_79 pzf_7_214 (Or.inl rfl) (rH_0 hj) (Nat.le_of_ble_eq_true rfl) rfl rfl (rH_p11 hj) ?_
  refine pr_aload_n dX7_readEntry_82 rfl ?_
  refine pr_getf dX7_readEntry_83 pzf_7_210 (rH_0 hj) rfl ?_
  rw [vu_ne _ _ (by decide), vu_self]
  refine zr_if_ne (tgt := 116) dX7_readEntry_86 (by decide) (by decide) (fun c86 => by exfalso; omega) (fun c86 => ?_)
  refine pr_iload_n dX7_readEntry_89 rfl ?_
  refine zr_bipush dX7_readEntry_90 (by decide) ?_
  refine zr_icmp_eq (tgt := 116) dX7_readEntry_92 (by decide) (by first | exact hR _ | omega) (by first | exact hR _ | omega) (fun c92 => by exfalso; omega) (fun c92 => ?_)
  refine pr_aload_n dX7_readEntry_95 rfl ?_
  refine pr_getf dX7_readEntry_96 pzf_7_36 (rH_0 hj) rfl ?_
  refine pr_iload_n dX7_readEntry_99 rfl ?_
  refine pr_aload_n dX7_readEntry_100 rfl ?_
  refine pr_iload_n dX7_readEntry_101 rfl ?_
  refine zr_bipush dX7_readEntry_102 (by decide) ?_
  refine zr_icmp_ne (tgt := 111) dX7_readEntry_104 (by decide) (by first | exact hR _ | omega) (by first | exact hR _ | omega) (fun c104 => ?_) (fun c104 => by exfalso; omega)
  refine zr_iconst dX7_readEntry_111 ?_
  refine zcv1i dX7_readEntry_112 pzm_7_225 pzt_X7_number (rH_0 hj) (kX7_number (F := (va_up (va_up F 12 0) 11 (F 11 + 1))) (ln := F 10) (pl := F 11 + 1) (w := 0) hj (by exact hA) rfl rfl rfl (by omega) (by omega) (by omega) (by omega) (by decide) (by decide)) (by decide) (Nat.le_of_ble_eq_true rfl) (by decide) ?_
  rw [vu_1211]
  refine zr_iast dX7_readEntry_115 (rH_8 hj) (by omega) (by decide) (rH_u8 hj) ?_
  refine pr_iload_n dX7_readEntry_116 rfl ?_
  refine zr_bipush dX7_readEntry_117 (by decide) ?_
  refine zr_icmp_eq (tgt := 128) dX7_readEntry_119 (by decide) (by first | exact hR _ | omega) (by first | exact hR _ | omega) (fun c119 => by exfalso; omega) (fun c119 => ?_)
  refine pr_iload_n dX7_readEntry_122 rfl ?_
  refine zr_bipush dX7_readEntry_123 (by decide) ?_
  refine zr_icmp_ne (tgt := 143) dX7_readEntry_125 (by decide) (by first | exact hR _ | omega) (by first | exact hR _ | omega) (fun c125 => by exfalso; omega) (fun c125 => ?_)
  refine pr_aload_n dX7_readEntry_128 rfl ?_
  refine pr_getf dX7_readEntry_129 pzf_7_36 (rH_0 hj) rfl ?_
  refine pr_iload_n dX7_readEntry_132 rfl ?_
  refine zr_iconst dX7_readEntry_133 ?_
  refine zr_iadd dX7_readEntry_134 ?_
  refine pr_aload_n dX7_readEntry_135 rfl ?_
  refine zr_bipush dX7_readEntry_136 (by decide) ?_
  refine zr_iconst dX7_readEntry_138 ?_
  refine zcv2i dX7_readEntry_139 pzm_7_238 pzt_X7_behind (rH_0 hj) (kX7_behind (F := (va_up (va_up F 12 (pNo (A 6) (F 10) 2 (F 11 + 1, 0)).2.2) 11 (pNo (A 6) (F 10) 2 (F 11 + 1, 0)).2.1)) (ln := F 10) (pl := (pNo (A 6) (F 10) 2 (F 11 + 1, 0)).2.1) (w := (pNo (A 6) (F 10) 2 (F 11 + 1, 0)).2.2) hj (by exact hA) rfl rfl rfl (by omega) (by omega) (by omega) (by omega) (by decide) (by decide) (by decide)) (by decide) (Nat.le_of_ble_eq_true rfl) (by decide) ?_
  rw [vu_1211]
  refine zr_iast dX7_readEntry_142 (rH_8 hj) (by omega) (by decide) (rH_u8 hj) ?_
  refine pr_iload_n dX7_readEntry_143 rfl ?_
  refine zr_bipush dX7_readEntry_144 (by decide) ?_
  refine zr_icmp_ne (tgt := 164) dX7_readEntry_146 (by decide) (by first | exact hR _ | omega) (by first | exact hR _ | omega) (fun c146 => ?_) (fun c146 => by exfalso; omega)
  refine pr_aload_n dX7_readEntry_164 rfl ?_
  refine zr_bipush dX7_readEntry_165 (by decide) ?_
  refine zcv1u dX7_readEntry_167 pzm_7_221 pzt_X7_sign (rH_0 hj) (kX7_sign (F := (va_up (va_up F 12 (pNo (A 6) (F 10) 2 (pSg (A 6) (F 10) 47 (pNo (A 6) (F 10) 2 (F 11 + 1, 0)).2)).2.2) 11 (pNo (A 6) (F 10) 2 (pSg (A 6) (F 10) 47 (pNo (A 6) (F 10) 2 (F 11 + 1, 0)).2)).2.1)) (ln := F 10) (pl := (pNo (A 6) (F 10) 2 (pSg (A 6) (F 10) 47 (pNo (A 6) (F 10) 2 (F 11 + 1, 0)).2)).2.1) (w := (pNo (A 6) (F 10) 2 (pSg (A 6) (F 10) 47 (pNo (A 6) (F 10) 2 (F 11 + 1, 0)).2)).2.2) hj (by exact hA) rfl rfl rfl (by omega) (by omega) (by omega) (by omega) (by decide)) (by decide) (Nat.le_of_ble_eq_true rfl) (by decide) ?_
  rw [vu_1211]
  refine pr_aload_n dX7_readEntry_170 rfl ?_
  refine pr_dup dX7_readEntry_171 rfl ?_
  refine pr_getf dX7_readEntry_172 pzf_7_228 (rH_0 hj) rfl ?_
  refine zr_iconst dX7_readEntry_175 ?_
  refine zr_iadd dX7_readEntry_176 ?_
  refine pr_putf dX7_readEntry_177 pzf_7_228 (Or.inl rfl) (rH_0 hj) (Nat.le_of_ble_eq_true rfl) rfl rfl (rH_p16 hj) ?_
  exact pr_vret dX7_readEntry_180 rfl (zretv (by first | rfl | (rw [vu_up]; rfl) | (rw [vu_up, vu_up]; rfl)))
set_option maxRecDepth 100000 in
set_option maxHeartbeats 4000000 in
theorem kX7_readEntry_s (hj : oj 9 a) (hA : ∀ i, 0 ≤ A 6 i ∧ A 6 i < 65536) (l1 : 0 ≤ F 11) (l2 : F 11 ≤ F 10) (l3 : F 10 ≤ 60) (f1 : 0 ≤ F 16) (f2 : F 16 < 60) (hc : F 11 < F 10) (hk : A 6 (F 11) = 115) : pz_Cd en 6 206 [.ref (a 0)] (rH h0 a s lv A F) 0 0 (pz_ret (none) (rH h0 a s lv (va_up (va_up A 7 (zu (A 7) (F 16) (A 6 (F 11)))) 8 (zu (zu (zu (A 8) (3 * F 16) (pNo (A 6) (F 10) 2 (F 11 + 1, 0)).1) (3 * F 16 + 1) (pNo (A 6) (F 10) 2 (pSg (A 6) (F 10) 47 (pNo (A 6) (F 10) 2 (F 11 + 1, 0)).2)).1) (3 * F 16 + 2) (pNo (A 6) (F 10) 3 (pSg (A 6) (F 10) 64 (pNo (A 6) (F 10) 2 (pSg (A 6) (F 10) 47 (pNo (A 6) (F 10) 2 (F 11 + 1, 0)).2)).2)).1)) (va_up (va_up (va_up F 12 (pSg (A 6) (F 10) 59 (pNo (A 6) (F 10) 3 (pSg (A 6) (F 10) 64 (pNo (A 6) (F 10) 2 (pSg (A 6) (F 10) 47 (pNo (A 6) (F 10) 2 (F 11 + 1, 0)).2)).2)).2).2) 11 (pSg (A 6) (F 10) 59 (pNo (A 6) (F 10) 3 (pSg (A 6) (F 10) 64 (pNo (A 6) (F 10) 2 (pSg (A 6) (F 10) 47 (pNo (A 6) (F 10) 2 (F 11 + 1, 0)).2)).2)).2).1) 16 (F 16 + 1)))) := by
  refine pz_in pzt_X7_readEntry ?_
  have hp := hA (F 11)
  have hix : 0 ≤ pz_ix (zI (A 6 (F 11))) := by
    rw [hk]; decide
  have g0 : F 11 + 1 ≤ F 10 := by omega
  have g1 := pNo_R (inp := A 6) (d := 2) (x := (F 11 + 1, 0)) g0
  have g2 := pSg_R (inp := A 6) (c := 47) (x := (pNo (A 6) (F 10) 2 (F 11 + 1, 0)).2) g1.2.1
  have g3 := pNo_R (inp := A 6) (d := 2) (x := (pSg (A 6) (F 10) 47 (pNo (A 6) (F 10) 2 (F 11 + 1, 0)).2)) g2.2.1
  have g4 := pSg_R (inp := A 6) (c := 64) (x := (pNo (A 6) (F 10) 2 (pSg (A 6) (F 10) 47 (pNo (A 6) (F 10) 2 (F 11 + 1, 0)).2)).2) g3.2.1
  have g5 := pNo_R (inp := A 6) (d := 3) (x := (pSg (A 6) (F 10) 64 (pNo (A 6) (F 10) 2 (pSg (A 6) (F 10) 47 (pNo (A 6) (F 10) 2 (F 11 + 1, 0)).2)).2)) g4.2.1
  refine zr_iconst dX7_readEntry_0 ?_
  refine pr_aload_n dX7_readEntry_1 rfl ?_
  refine pr_getf dX7_readEntry_2 pzf_7_228 (rH_0 hj) rfl ?_
  refine zr_imul dX7_readEntry_5 ?_
  refine pr_istore_n dX7_readEntry_6 (by decide) rfl ?_
  refine pr_aload_n dX7_readEntry_7 rfl ?_
  refine pr_getf dX7_readEntry_8 pzf_7_214 (rH_0 hj) rfl ?_
  refine pr_aload_n dX7_readEntry_11 rfl ?_
  refine pr_getf dX7_readEntry_12 pzf_7_207 (rH_0 hj) rfl ?_
  refine zr_icmp_ge (tgt := 30) dX7_readEntry_15 (by decide) (by first | exact hR _ | omega) (by first | exact hR _ | omega) (fun c15 => by exfalso; omega) (fun c15 => ?_)
  refine pr_aload_n dX7_readEntry_18 rfl ?_
  refine pr_getf dX7_readEntry_19 pzf_7_25 (rH_0 hj) rfl ?_
  refine pr_aload_n dX7_readEntry_22 rfl ?_
  refine pr_getf dX7_readEntry_23 pzf_7_214 (rH_0 hj) rfl ?_
  refine zr_cald dX7_readEntry_26 (rH_6 hj) (by omega) (by decide) ?_
  refine pr_goto (tgt := 32) dX7_readEntry_27 (by decide) ?_
  refine pr_istore_n dX7_readEntry_32 (by decide) rfl ?_
  refine pr_aload_n dX7_readEntry_33 rfl ?_
  refine pr_getf dX7_readEntry_34 pzf_7_33 (rH_0 hj) rfl ?_
  refine pr_aload_n dX7_readEntry_37 rfl ?_
  refine pr_getf dX7_readEntry_38 pzf_7_228 (rH_0 hj) rfl ?_
  refine pr_iload_n dX7_readEntry_41 rfl ?_
  refine zr_cast dX7_readEntry_42 (rH_7 hj) (by omega) (by decide) (by rw [hk]; rfl) (rH_u7 hj) ?_
  refine pr_aload_n dX7_readEntry_43 rfl ?_
  refine pr_ldcs dX7_readEntry_44 rfl ?_
  refine pr_iload_n dX7_readEntry_46 rfl ?_
  refine pr_idx dX7_readEntry_47 rfl (by decide) (by rw [zI_toInt (by omega)]; exact hp) (Nat.le_of_ble_eq_true rfl) ?_
  refine pr_if_ge (tgt := 57) dX7_readEntry_50 (by decide) (fun c50 => ?_) (fun c50 => absurd hix c50)
  refine zr_iconst dX7_readEntry_57 ?_
  refine pr_putf dX7_readEntry_58 pzf_7_210 (Or.inl rfl) (rH_0 hj) (Nat.le_of_ble_eq_true rfl) rfl rfl (rH_p12 hj) ?_
  refine pr_aload_n dX7_readEntry_61 rfl ?_
  refine pr_dup dX7_readEntry_62 rfl ?_
  refine pr_getf dX7_readEntry_63 pzf_7_214 (rH_0 hj) rfl ?_
  refine pr_aload_n dX7_readEntry_66 rfl ?_
  refine pr_getf dX7_readEntry_67 pzf_7_210 (rH_0 hj) rfl ?_
  rw [vu_self]
  refine zr_if_eq (tgt := 77) dX7_readEntry_70 (by decide) (by decide) (fun c70 => ?_) (fun c70 => by exfalso; omega)
  refine zr_iconst dX7_readEntry_77 ?_
  refine zr_iadd dX7_readEntry_78 ?_
  refine pr_putf dX7_readEntry_79 pzf_7_214 (Or.inl rfl) (rH_0 hj) (Nat.le_of_ble_eq_true rfl) rfl rfl (rH_p11 hj) ?_
  refine pr_aload_n dX7_readEntry_82 rfl ?_
  refine pr_getf dX7_readEntry_83 pzf_7_210 (rH_0 hj) rfl ?_
  rw [vu_ne _ _ (by decide), vu_self]
  refine zr_if_ne (tgt := 116) dX7_readEntry_86 (by decide) (by decide) (fun c86 => by exfalso; omega) (fun c86 => ?_)
  refine pr_iload_n dX7_readEntry_89 rfl ?_
  refine zr_bipush dX7_readEntry_90 (by decide) ?_
  refine zr_icmp_eq (tgt := 116) dX7_readEntry_92 (by decide) (by first | exact hR _ | omega) (by first | exact hR _ | omega) (fun c92 => by exfalso; omega) (fun c92 => ?_)
  refine pr_aload_n dX7_readEntry_95 rfl ?_
  refine pr_getf dX7_readEntry_96 pzf_7_36 (rH_0 hj) rfl ?_
  refine pr_iload_n dX7_readEntry_99 rfl ?_
  refine pr_aload_n dX7_readEntry_100 rfl ?_
  refine pr_iload_n dX7_readEntry_101 rfl ?_
  refine zr_bipush dX7_readEntry_102 (by decide) ?_
  refine zr_icmp_ne (tgt := 111) dX7_readEntry_104 (by decide) (by first | exact hR _ | omega) (by first | exact hR _ | omega) (fun c104 => ?_) (fun c104 => by exfalso; omega)
  refine zr_iconst dX7_readEntry_111 ?_
  refine zcv1i dX7_readEntry_112 pzm_7_225 pzt_X7_number (rH_0 hj) (kX7_number (F := (va_up (va_up F 12 0) 11 (F 11 + 1))) (ln := F 10) (pl := F 11 + 1) (w := 0) hj (by exact hA) rfl rfl rfl (by omega) (by omega) (by omega) (by omega) (by decide) (by decide)) (by decide) (Nat.le_of_ble_eq_true rfl) (by decide) ?_
  rw [vu_1211]
  refine zr_iast dX7_readEntry_115 (rH_8 hj) (by omega) (by decide) (rH_u8 hj) ?_
  refine pr_iload_n dX7_readEntry_116 rfl ?_
  refine zr_bipush dX7_readEntry_117 (by decide) ?_
  refine zr_icmp_eq (tgt := 128) dX7_readEntry_119 (by decide) (by first | exact hR _ | omega) (by first | exact hR _ | omega) (fun c119 => ?_) (fun c119 => by exfalso; omega)
  refine pr_aload_n dX7_readEntry_128 rfl ?_
  refine pr_getf dX7_readEntry_129 pzf_7_36 (rH_0 hj) rfl ?_
  refine pr_iload_n dX7_readEntry_132 rfl ?_
  refine zr_iconst dX7_readEntry_133 ?_
  refine zr_iadd dX7_readEntry_134 ?_
  refine pr_aload_n dX7_readEntry_135 rfl ?_
  refine zr_bipush dX7_readEntry_136 (by decide) ?_
  refine zr_iconst dX7_readEntry_138 ?_
  refine zcv2i dX7_readEntry_139 pzm_7_238 pzt_X7_behind (rH_0 hj) (kX7_behind (F := (va_up (va_up F 12 (pNo (A 6) (F 10) 2 (F 11 + 1, 0)).2.2) 11 (pNo (A 6) (F 10) 2 (F 11 + 1, 0)).2.1)) (ln := F 10) (pl := (pNo (A 6) (F 10) 2 (F 11 + 1, 0)).2.1) (w := (pNo (A 6) (F 10) 2 (F 11 + 1, 0)).2.2) hj (by exact hA) rfl rfl rfl (by omega) (by omega) (by omega) (by omega) (by decide) (by decide) (by decide)) (by decide) (Nat.le_of_ble_eq_true rfl) (by decide) ?_
  rw [vu_1211]
  refine zr_iast dX7_readEntry_142 (rH_8 hj) (by omega) (by decide) (rH_u8 hj) ?_
  refine pr_iload_n dX7_readEntry_143 rfl ?_
  refine zr_bipush dX7_readEntry_144 (by decide) ?_
  refine zr_icmp_ne (tgt := 164) dX7_readEntry_146 (by decide) (by first | exact hR _ | omega) (by first | exact hR _ | omega) (fun c146 => by exfalso; omega) (fun c146 => ?_)
  refine pr_aload_n dX7_readEntry_149 rfl ?_
  refine pr_getf dX7_readEntry_150 pzf_7_36 (rH_0 hj) rfl ?_
  refine pr_iload_n dX7_readEntry_153 rfl ?_
  refine zr_iconst dX7_readEntry_154 ?_
  refine zr_iadd dX7_readEntry_155 ?_
  refine pr_aload_n dX7_readEntry_156 rfl ?_
  refine zr_bipush dX7_readEntry_157 (by decide) ?_
  refine zr_iconst dX7_readEntry_159 ?_
  refine zcv2i dX7_readEntry_160 pzm_7_238 pzt_X7_behind (rH_0 hj) (kX7_behind (F := (va_up (va_up F 12 (pNo (A 6) (F 10) 2 (pSg (A 6) (F 10) 47 (pNo (A 6) (F 10) 2 (F 11 + 1, 0)).2)).2.2) 11 (pNo (A 6) (F 10) 2 (pSg (A 6) (F 10) 47 (pNo (A 6) (F 10) 2 (F 11 + 1, 0)).2)).2.1)) (ln := F 10) (pl := (pNo (A 6) (F 10) 2 (pSg (A 6) (F 10) 47 (pNo (A 6) (F 10) 2 (F 11 + 1, 0)).2)).2.1) (w := (pNo (A 6) (F 10) 2 (pSg (A 6) (F 10) 47 (pNo (A 6) (F 10) 2 (F 11 + 1, 0)).2)).2.2) hj (by exact hA) rfl rfl rfl (by omega) (by omega) (by omega) (by omega) (by decide) (by decide) (by decide)) (by decide) (Nat.le_of_ble_eq_true rfl) (by decide) ?_
  rw [vu_1211]
  refine zr_iast dX7_readEntry_163 (rH_8 hj) (by omega) (by decide) (rH_u8 hj) ?_
  refine pr_aload_n dX7_readEntry_164 rfl ?_
  refine zr_bipush dX7_readEntry_165 (by decide) ?_
  refine zcv1u dX7_readEntry_167 pzm_7_221 pzt_X7_sign (rH_0 hj) (kX7_sign (F := (va_up (va_up F 12 (pNo (A 6) (F 10) 3 (pSg (A 6) (F 10) 64 (pNo (A 6) (F 10) 2 (pSg (A 6) (F 10) 47 (pNo (A 6) (F 10) 2 (F 11 + 1, 0)).2)).2)).2.2) 11 (pNo (A 6) (F 10) 3 (pSg (A 6) (F 10) 64 (pNo (A 6) (F 10) 2 (pSg (A 6) (F 10) 47 (pNo (A 6) (F 10) 2 (F 11 + 1, 0)).2)).2)).2.1)) (ln := F 10) (pl := (pNo (A 6) (F 10) 3 (pSg (A 6) (F 10) 64 (pNo (A 6) (F 10) 2 (pSg (A 6) (F 10) 47 (pNo (A 6) (F 10) 2 (F 11 + 1, 0)).2)).2)).2.1) (w := (pNo (A 6) (F 10) 3 (pSg (A 6) (F 10) 64 (pNo (A 6) (F 10) 2 (pSg (A 6) (F 10) 47 (pNo (A 6) (F 10) 2 (F 11 + 1, 0)).2)).2)).2.2) hj (by exact hA) rfl rfl rfl (by omega) (by omega) (by omega) (by omega) (by decide)) (by decide) (Nat.le_of_ble_eq_true rfl) (by decide) ?_
  rw [vu_1211]
  refine pr_aload_n dX7_readEntry_170 rfl ?_
  refine pr_dup dX7_readEntry_171 rfl ?_
  refine pr_getf dX7_readEntry_172 pzf_7_228 (rH_0 hj) rfl ?_
  refine zr_iconst dX7_readEntry_175 ?_
  refine zr_iadd dX7_readEntry_176 ?_
  refine pr_putf dX7_readEntry_177 pzf_7_228 (Or.inl rfl) (rH_0 hj) (Nat.le_of_ble_eq_true rfl) rfl rfl (rH_p16 hj) ?_
  exact pr_vret dX7_readEntry_180 rfl (zretv (by first | rfl | (rw [vu_up]; rfl) | (rw [vu_up, vu_up]; rfl)))
end ref
