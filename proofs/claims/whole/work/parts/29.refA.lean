/-! the reference: every entry -/
theorem nar_char {x : Int} (h : 0 ≤ x ∧ x < 65536) : vp_nar .char (zI x) = zI x := by
  have e : (zI x).toInt = x := zI_toInt (by omega)
  have e2 : (zI x).toBitVec.toInt = x := e
  rw [BitVec.toInt_eq_toNat_cond] at e2
  have hn : (zI x).toUInt32.toNat < 65536 := by
    show (zI x).toBitVec.toNat < 65536
    have hlt := (zI x).toBitVec.isLt
    split at e2 <;> omega
  have e3 : (zI x).toUInt32.toUInt16.toUInt32 = (zI x).toUInt32 := by
    apply UInt32.toNat_inj.mp
    rw [UInt16.toNat_toUInt32, UInt32.toNat_toUInt16]
    exact Nat.mod_eq_of_lt hn
  show (zI x).toUInt32.toUInt16.toUInt32.toInt32 = zI x
  rw [e3]
  rfl
def pKd (inp : Int → Int) (ln pl : Int) : Int := if pl < ln then inp pl else 32
def pEn (inp N : Int → Int) (ln pl to : Int) : (Int × Int) × (Int → Int) :=
  if pl < ln then
    if inp pl = 103 then (pSg inp ln 59 (pl + 1, 0), N)
    else if inp pl = 99 ∨ inp pl = 120 ∨ inp pl = 106 then (pSg inp ln 59 (pNo inp ln 2 (pl + 1, 0)).2, zu N to (pNo inp ln 2 (pl + 1, 0)).1)
    else if inp pl = 116 then (pSg inp ln 59 (pNo inp ln 4 (pl + 1, 0)).2, zu N to (pNo inp ln 4 (pl + 1, 0)).1)
    else if inp pl = 114 then (pSg inp ln 59 (pNo inp ln 2 (pSg inp ln 47 (pNo inp ln 2 (pl + 1, 0)).2)).2, zu (zu N to (pNo inp ln 2 (pl + 1, 0)).1) (to + 1) (pNo inp ln 2 (pSg inp ln 47 (pNo inp ln 2 (pl + 1, 0)).2)).1)
    else if inp pl = 115 then (pSg inp ln 59 (pNo inp ln 3 (pSg inp ln 64 (pNo inp ln 2 (pSg inp ln 47 (pNo inp ln 2 (pl + 1, 0)).2)).2)).2, zu (zu (zu N to (pNo inp ln 2 (pl + 1, 0)).1) (to + 1) (pNo inp ln 2 (pSg inp ln 47 (pNo inp ln 2 (pl + 1, 0)).2)).1) (to + 2) (pNo inp ln 3 (pSg inp ln 64 (pNo inp ln 2 (pSg inp ln 47 (pNo inp ln 2 (pl + 1, 0)).2)).2)).1)
    else ((pl, 1), N)
  else ((pl, 1), N)
theorem pEn_R {inp N : Int → Int} {ln pl to : Int} (h : pl ≤ ln) : pl ≤ (pEn inp N ln pl to).1.1 ∧ (pEn inp N ln pl to).1.1 ≤ ln ∧ ((pEn inp N ln pl to).1.2 = 0 ∨ (pEn inp N ln pl to).1.2 = 1) ∧ ((pEn inp N ln pl to).1.2 = 0 → pl + 1 ≤ (pEn inp N ln pl to).1.1) := by
  unfold pEn
  split <;> rename_i g
  · have g0 : pl + 1 ≤ ln := by omega
    have n2 := pNo_R (inp := inp) (d := 2) (x := (pl + 1, 0)) g0
    have n4 := pNo_R (inp := inp) (d := 4) (x := (pl + 1, 0)) g0
    have s2 := pSg_R (inp := inp) (c := 47) (x := (pNo inp ln 2 (pl + 1, 0)).2) n2.2.1
    have m2 := pNo_R (inp := inp) (d := 2) (x := pSg inp ln 47 (pNo inp ln 2 (pl + 1, 0)).2) s2.2.1
    have s3 := pSg_R (inp := inp) (c := 64) (x := (pNo inp ln 2 (pSg inp ln 47 (pNo inp ln 2 (pl + 1, 0)).2)).2) m2.2.1
    have m3 := pNo_R (inp := inp) (d := 3) (x := pSg inp ln 64 (pNo inp ln 2 (pSg inp ln 47 (pNo inp ln 2 (pl + 1, 0)).2)).2) s3.2.1
    have e0 := pSg_R (inp := inp) (c := 59) (x := (pl + 1, 0)) g0
    have e1 := pSg_R (inp := inp) (c := 59) (x := (pNo inp ln 2 (pl + 1, 0)).2) n2.2.1
    have e2 := pSg_R (inp := inp) (c := 59) (x := (pNo inp ln 4 (pl + 1, 0)).2) n4.2.1
    have e3 := pSg_R (inp := inp) (c := 59) (x := (pNo inp ln 2 (pSg inp ln 47 (pNo inp ln 2 (pl + 1, 0)).2)).2) m2.2.1
    have e4 := pSg_R (inp := inp) (c := 59) (x := (pNo inp ln 3 (pSg inp ln 64 (pNo inp ln 2 (pSg inp ln 47 (pNo inp ln 2 (pl + 1, 0)).2)).2)).2) m3.2.1
    simp only at n2 n4 e0
    split
    · simp only; omega
    · split
      · simp only; omega
      · split
        · simp only; omega
        · split
          · simp only; omega
          · split
            · simp only; omega
            · exact ⟨Int.le_refl _, h, Or.inr rfl, fun z => absurd z (by simp)⟩
  · exact ⟨Int.le_refl _, h, Or.inr rfl, fun z => absurd z (by simp)⟩
section ref
variable {en : pz_Env} {h0 : pz_H} {a : Nat → Nat} {s lv : Int → Int} {A : Nat → Int → Int} {F : Nat → Int}
set_option maxRecDepth 100000 in
set_option maxHeartbeats 4000000 in
theorem kX7_readEntry_w1 (hj : oj 9 a) (hA : ∀ i, 0 ≤ A 6 i ∧ A 6 i < 65536) (l1 : 0 ≤ F 11) (l2 : F 11 ≤ F 10) (l3 : F 10 ≤ 60) (f1 : 0 ≤ F 16) (f2 : F 16 < 60) (hc : F 10 ≤ F 11) : pz_Cd en 6 206 [.ref (a 0)] (rH h0 a s lv A F) 0 0 (pz_ret (none) (rH h0 a s lv (va_up A 7 (zu (A 7) (F 16) 32)) (va_up (va_up (va_up F 12 1) 11 (F 11)) 16 (F 16 + 1)))) := by
  refine pz_in pzt_X7_readEntry ?_
  have hp := hA (F 11)
  have hix : ¬ 0 ≤ pz_ix (zI 32) := by decide
  refine zr_iconst dX7_readEntry_0 ?_
  refine pr_aload_n dX7_readEntry_1 rfl ?_
  refine pr_getf dX7_readEntry_2 pzf_7_228 (rH_0 hj) rfl ?_
  refine zr_imul dX7_readEntry_5 ?_
  refine pr_istore_n dX7_readEntry_6 (by decide) rfl ?_
  refine pr_aload_n dX7_readEntry_7 rfl ?_
  refine pr_getf dX7_readEntry_8 pzf_7_214 (rH_0 hj) rfl ?_
  refine pr_aload_n dX7_readEntry_11 rfl ?_
  refine pr_getf dX7_readEntry_12 pzf_7_207 (rH_0 hj) rfl ?_
  refine zr_icmp_ge (tgt := 30) dX7_readEntry_15 (by decide) (by first | exact hR _ | omega) (by first | exact hR _ | omega) (fun c15 => ?_) (fun c15 => by exfalso; omega)
  refine zr_bipush dX7_readEntry_30 (by decide) ?_
  refine pr_istore_n dX7_readEntry_32 (by decide) rfl ?_
  refine pr_aload_n dX7_readEntry_33 rfl ?_
  refine pr_getf dX7_readEntry_34 pzf_7_33 (rH_0 hj) rfl ?_
  refine pr_aload_n dX7_readEntry_37 rfl ?_
  refine pr_getf dX7_readEntry_38 pzf_7_228 (rH_0 hj) rfl ?_
  refine pr_iload_n dX7_readEntry_41 rfl ?_
  refine zr_cast dX7_readEntry_42 (rH_7 hj) (by omega) (by decide) (by rfl) (rH_u7 hj) ?_
  refine pr_aload_n dX7_readEntry_43 rfl ?_
  refine pr_ldcs dX7_readEntry_44 rfl ?_
  refine pr_iload_n dX7_readEntry_46 rfl ?_
  refine pr_idx dX7_readEntry_47 rfl (by decide) (by rw [zI_toInt (by omega)]; omega) (Nat.le_of_ble_eq_true rfl) ?_
  refine pr_if_ge (tgt := 57) dX7_readEntry_50 (by decide) (fun c50 => absurd c50 hix) (fun c50 => ?_)
  refine zr_iconst dX7_readEntry_53 ?_
  refine pr_goto (tgt := 58) dX7_readEntry_54 (by decide) ?_
  refine pr_putf dX7_readEntry_58 pzf_7_210 (Or.inl rfl) (rH_0 hj) (Nat.le_of_ble_eq_true rfl) rfl rfl (rH_p12 hj) ?_
  refine pr_aload_n dX7_readEntry_61 rfl ?_
  refine pr_dup dX7_readEntry_62 rfl ?_
  refine pr_getf dX7_readEntry_63 pzf_7_214 (rH_0 hj) rfl ?_
  refine pr_aload_n dX7_readEntry_66 rfl ?_
  refine pr_getf dX7_readEntry_67 pzf_7_210 (rH_0 hj) rfl ?_
  rw [vu_self]
  refine zr_if_eq (tgt := 77) dX7_readEntry_70 (by decide) (by decide) (fun c70 => by exfalso; omega) (fun c70 => ?_)
  refine zr_iconst dX7_readEntry_73 ?_
  refine pr_goto (tgt := 78) dX7_readEntry_74 (by decide) ?_
  refine zr_iadd dX7_readEntry_78 ?_
  rw [Int.add_zero]
  refine pr_putf dX7_readEntry_79 pzf_7_214 (Or.inl rfl) (rH_0 hj) (Nat.le_of_ble_eq_true rfl) rfl rfl (rH_p11 hj) ?_
  refine pr_aload_n dX7_readEntry_82 rfl ?_
  refine pr_getf dX7_readEntry_83 pzf_7_210 (rH_0 hj) rfl ?_
  rw [vu_ne _ _ (by decide), vu_self]
  refine zr_if_ne (tgt := 116) dX7_readEntry_86 (by decide) (by decide) (fun c86 => ?_) (fun c86 => by exfalso; omega)
  refine pr_iload_n dX7_readEntry_116 rfl ?_
  refine zr_bipush dX7_readEntry_117 (by decide) ?_
  refine zr_icmp_eq (tgt := 128) dX7_readEntry_119 (by decide) (by first | exact hR _ | omega) (by first | exact hR _ | omega) (fun c119 => by exfalso; omega) (fun c119 => ?_)
  refine pr_iload_n dX7_readEntry_122 rfl ?_
  refine zr_bipush dX7_readEntry_123 (by decide) ?_
  refine zr_icmp_ne (tgt := 143) dX7_readEntry_125 (by decide) (by first | exact hR _ | omega) (by first | exact hR _ | omega) (fun c125 => ?_) (fun c125 => by exfalso; omega)
  refine pr_iload_n dX7_readEntry_143 rfl ?_
  refine zr_bipush dX7_readEntry_144 (by decide) ?_
  refine zr_icmp_ne (tgt := 164) dX7_readEntry_146 (by decide) (by first | exact hR _ | omega) (by first | exact hR _ | omega) (fun c146 => ?_) (fun c146 => by exfalso; omega)
  refine pr_aload_n dX7_readEntry_164 rfl ?_
  refine zr_bipush dX7_readEntry_165 (by decide) ?_
  refine zcv1u dX7_readEntry_167 pzm_7_221 pzt_X7_sign (rH_0 hj) (kX7_sign (F := (va_up (va_up F 12 1) 11 (F 11))) (ln := F 10) (pl := F 11) (w := 1) hj (by exact hA) rfl rfl rfl (by omega) (by omega) (by omega) (by omega) (by decide)) (by decide) (Nat.le_of_ble_eq_true rfl) (by decide) ?_
  rw [vu_1211, pSg_w]
  refine pr_aload_n dX7_readEntry_170 rfl ?_
  refine pr_dup dX7_readEntry_171 rfl ?_
  refine pr_getf dX7_readEntry_172 pzf_7_228 (rH_0 hj) rfl ?_
  refine zr_iconst dX7_readEntry_175 ?_
  refine zr_iadd dX7_readEntry_176 ?_
  refine pr_putf dX7_readEntry_177 pzf_7_228 (Or.inl rfl) (rH_0 hj) (Nat.le_of_ble_eq_true rfl) rfl rfl (rH_p16 hj) ?_
  exact pr_vret dX7_readEntry_180 rfl (zretv (by rfl))
set_option maxRecDepth 100000 in
set_option maxHeartbeats 4000000 in
theorem kX7_readEntry_w2 (hj : oj 9 a) (hA : ∀ i, 0 ≤ A 6 i ∧ A 6 i < 65536) (l1 : 0 ≤ F 11) (l2 : F 11 ≤ F 10) (l3 : F 10 ≤ 60) (f1 : 0 ≤ F 16) (f2 : F 16 < 60) (hc : F 11 < F 10) (hk : ¬ A 6 (F 11) = 99 ∧ ¬ A 6 (F 11) = 120 ∧ ¬ A 6 (F 11) = 115 ∧ ¬ A 6 (F 11) = 114 ∧ ¬ A 6 (F 11) = 103 ∧ ¬ A 6 (F 11) = 106 ∧ ¬ A 6 (F 11) = 116) : pz_Cd en 6 206 [.ref (a 0)] (rH h0 a s lv A F) 0 0 (pz_ret (none) (rH h0 a s lv (va_up A 7 (zu (A 7) (F 16) (A 6 (F 11)))) (va_up (va_up (va_up F 12 1) 11 (F 11)) 16 (F 16 + 1)))) := by
  refine pz_in pzt_X7_readEntry ?_
  have hp := hA (F 11)
  have hix : ¬ 0 ≤ pz_ix (zI (A 6 (F 11))) := by
    unfold pz_ix
    rw [if_neg (fun z => absurd ((zI_inj (by omega) (by decide)).mp (z.trans (show (99 : Int32) = zI 99 from rfl))) (by omega)), if_neg (fun z => absurd ((zI_inj (by omega) (by decide)).mp (z.trans (show (120 : Int32) = zI 120 from rfl))) (by omega)), if_neg (fun z => absurd ((zI_inj (by omega) (by decide)).mp (z.trans (show (115 : Int32) = zI 115 from rfl))) (by omega)), if_neg (fun z => absurd ((zI_inj (by omega) (by decide)).mp (z.trans (show (114 : Int32) = zI 114 from rfl))) (by omega)), if_neg (fun z => absurd ((zI_inj (by omega) (by decide)).mp (z.trans (show (103 : Int32) = zI 103 from rfl))) (by omega)), if_neg (fun z => absurd ((zI_inj (by omega) (by decide)).mp (z.trans (show (106 : Int32) = zI 106 from rfl))) (by omega)), if_neg (fun z => absurd ((zI_inj (by omega) (by decide)).mp (z.trans (show (116 : Int32) = zI 116 from rfl))) (by omega))]
    decide
  refine zr_iconst dX7_readEntry_0 ?_
  refine pr_aload_n dX7_readEntry_1 rfl ?_
  refine pr_getf dX7_readEntry_2 pzf_7_228 (rH_0 hj) rfl ?_
  refine zr_imul dX7_readEntry_5 ?_
  refine pr_istore_n dX7_readEntry_6 (by decide) rfl ?_
  refine pr_aload_n dX7_readEntry_7 rfl ?_
  refine pr_getf dX7_readEntry_8 pzf_7_214 (rH_0 hj) rfl ?_
  refine pr_aload_n dX7_readEntry_11 rfl ?_
  refine pr_getf dX7_readEntry_12 pzf_7_207 (rH_0 hj) rfl ?_
  refine zr_icmp_ge (tgt := 30) dX7_readEntry_15 (by decide) (by first | exact hR _ | omega) (by first | exact hR _ | omega) (fun c15 => by exfalso; omega) (fun c15 => ?_)
  refine pr_aload_n dX7_readEntry_18 rfl ?_
  refine pr_getf dX7_readEntry_19 pzf_7_25 (rH_0 hj) rfl ?_
  refine pr_aload_n dX7_readEntry_22 rfl ?_
  refine pr_getf dX7_readEntry_23 pzf_7_214 (rH_0 hj) rfl ?_
  refine zr_cald dX7_readEntry_26 (rH_6 hj) (by omega) (by decide) ?_
  refine pr_goto (tgt := 32) dX7_readEntry_27 (by decide) ?_
  refine pr_istore_n dX7_readEntry_32 (by decide) rfl ?_
  refine pr_aload_n dX7_readEntry_33 rfl ?_
  refine pr_getf dX7_readEntry_34 pzf_7_33 (rH_0 hj) rfl ?_
  refine pr_aload_n dX7_readEntry_37 rfl ?_
  refine pr_getf dX7_readEntry_38 pzf_7_228 (rH_0 hj) rfl ?_
  refine pr_iload_n dX7_readEntry_41 rfl ?_
  refine zr_cast dX7_readEntry_42 (rH_7 hj) (by omega) (by decide) (nar_char hp) (rH_u7 hj) ?_
  refine pr_aload_n dX7_readEntry_43 rfl ?_
  refine pr_ldcs dX7_readEntry_44 rfl ?_
  refine pr_iload_n dX7_readEntry_46 rfl ?_
  refine pr_idx dX7_readEntry_47 rfl (by decide) (by rw [zI_toInt (by omega)]; omega) (Nat.le_of_ble_eq_true rfl) ?_
  refine pr_if_ge (tgt := 57) dX7_readEntry_50 (by decide) (fun c50 => absurd c50 hix) (fun c50 => ?_)
  refine zr_iconst dX7_readEntry_53 ?_
  refine pr_goto (tgt := 58) dX7_readEntry_54 (by decide) ?_
  refine pr_putf dX7_readEntry_58 pzf_7_210 (Or.inl rfl) (rH_0 hj) (Nat.le_of_ble_eq_true rfl) rfl rfl (rH_p12 hj) ?_
  refine pr_aload_n dX7_readEntry_61 rfl ?_
  refine pr_dup dX7_readEntry_62 rfl ?_
  refine pr_getf dX7_readEntry_63 pzf_7_214 (rH_0 hj) rfl ?_
  refine pr_aload_n dX7_readEntry_66 rfl ?_
  refine pr_getf dX7_readEntry_67 pzf_7_210 (rH_0 hj) rfl ?_
  rw [vu_self]
  refine zr_if_eq (tgt := 77) dX7_readEntry_70 (by decide) (by decide) (fun c70 => by exfalso; omega) (fun c70 => ?_)
  refine zr_iconst dX7_readEntry_73 ?_
  refine pr_goto (tgt := 78) dX7_readEntry_74 (by decide) ?_
  refine zr_iadd dX7_readEntry_78 ?_
  rw [Int.add_zero]
  refine pr_putf dX7_readEntry_79 pzf_7_214 (Or.inl rfl) (rH_0 hj) (Nat.le_of_ble_eq_true rfl) rfl rfl (rH_p11 hj) ?_
  refine pr_aload_n dX7_readEntry_82 rfl ?_
  refine pr_getf dX7_readEntry_83 pzf_7_210 (rH_0 hj) rfl ?_
  rw [vu_ne _ _ (by decide), vu_self]
  refine zr_if_ne (tgt := 116) dX7_readEntry_86 (by decide) (by decide) (fun c86 => ?_) (fun c86 => by exfalso; omega)
  refine pr_iload_n dX7_readEntry_116 rfl ?_
  refine zr_bipush dX7_readEntry_117 (by decide) ?_
  refine zr_icmp_eq (tgt := 128) dX7_readEntry_119 (by decide) (by first | exact hR _ | omega) (by first | exact hR _ | omega) (fun c119 => by exfalso; omega) (fun c119 => ?_)
  refine pr_iload_n dX7_readEntry_122 rfl ?_
  refine zr_bipush dX7_readEntry_123 (by decide) ?_
  refine zr_icmp_ne (tgt := 143) dX7_readEntry_125 (by decide) (by first | exact hR _ | omega) (by first | exact hR _ | omega) (fun c125 => ?_) (fun c125 => by exfalso; omega)
  refine pr_iload_n dX7_readEntry_143 rfl ?_
  refine zr_bipush dX7_readEntry_144 (by decide) ?_
  refine zr_icmp_ne (tgt := 164) dX7_readEntry_146 (by decide) (by first | exact hR _ | omega) (by first | exact hR _ | omega) (fun c146 => ?_) (fun c146 => by exfalso; omega)
  refine pr_aload_n dX7_readEntry_164 rfl ?_
  refine zr_bipush dX7_readEntry_165 (by decide) ?_
  refine zcv1u dX7_readEntry_167 pzm_7_221 pzt_X7_sign (rH_0 hj) (kX7_sign (F := (va_up (va_up F 12 1) 11 (F 11))) (ln := F 10) (pl := F 11) (w := 1) hj (by exact hA) rfl rfl rfl (by omega) (by omega) (by omega) (by omega) (by decide)) (by decide) (Nat.le_of_ble_eq_true rfl) (by decide) ?_
  rw [vu_1211, pSg_w]
  refine pr_aload_n dX7_readEntry_170 rfl ?_
  refine pr_dup dX7_readEntry_171 rfl ?_
  refine pr_getf dX7_readEntry_172 pzf_7_228 (rH_0 hj) rfl ?_
  refine zr_iconst dX7_readEntry_175 ?_
  refine zr_iadd dX7_readEntry_176 ?_
  refine pr_putf dX7_readEntry_177 pzf_7_228 (Or.inl rfl) (rH_0 hj) (Nat.le_of_ble_eq_true rfl) rfl rfl (rH_p16 hj) ?_
  exact pr_vret dX7_readEntry_180 rfl (zretv (by rfl))
theorem kX7_readEntry (hj : oj 9 a) (hA : ∀ i, 0 ≤ A 6 i ∧ A 6 i < 65536) (l1 : 0 ≤ F 11) (l2 : F 11 ≤ F 10) (l3 : F 10 ≤ 60) (f1 : 0 ≤ F 16) (f2 : F 16 < 60) : pz_Cd en 6 206 [.ref (a 0)] (rH h0 a s lv A F) 0 0 (pz_ret none (rH h0 a s lv (va_up (va_up A 7 (zu (A 7) (F 16) (pKd (A 6) (F 10) (F 11)))) 8 (pEn (A 6) (A 8) (F 10) (F 11) (3 * F 16)).2) (va_up (va_up (va_up F 12 (pEn (A 6) (A 8) (F 10) (F 11) (3 * F 16)).1.2) 11 (pEn (A 6) (A 8) (F 10) (F 11) (3 * F 16)).1.1) 16 (F 16 + 1)))) := by
  have ev : ∀ f : Int → Int, va_up (va_up A 7 f) 8 (A 8) = va_up A 7 f := fun f => vu_id (va_up A 7 f) 8
  unfold pEn pKd
  by_cases hc : F 11 < F 10
  · rw [if_pos hc, if_pos hc]
    by_cases k1 : A 6 (F 11) = 103
    · rw [if_pos k1, ev]
      exact kX7_readEntry_g hj hA l1 l2 l3 f1 f2 hc k1
    · rw [if_neg k1]
      by_cases k2 : A 6 (F 11) = 99 ∨ A 6 (F 11) = 120 ∨ A 6 (F 11) = 106
      · rw [if_pos k2]
        exact kX7_readEntry_n hj hA l1 l2 l3 f1 f2 hc k2
      · rw [if_neg k2]
        by_cases k3 : A 6 (F 11) = 116
        · rw [if_pos k3]
          exact kX7_readEntry_t hj hA l1 l2 l3 f1 f2 hc k3
        · rw [if_neg k3]
          by_cases k4 : A 6 (F 11) = 114
          · rw [if_pos k4]
            exact kX7_readEntry_r hj hA l1 l2 l3 f1 f2 hc k4
          · rw [if_neg k4]
            by_cases k5 : A 6 (F 11) = 115
            · rw [if_pos k5]
              exact kX7_readEntry_s hj hA l1 l2 l3 f1 f2 hc k5
            · rw [if_neg k5, ev]
              exact kX7_readEntry_w2 hj hA l1 l2 l3 f1 f2 hc (by omega)
  · rw [if_neg hc, if_neg hc, ev]
    exact kX7_readEntry_w1 hj hA l1 l2 l3 f1 f2 (by omega)
set_option maxRecDepth 100000 in
set_option maxHeartbeats 4000000 in
theorem kX7_isTold (hj : oj 9 a) (hs : rB s) {e : Int} (h1 : 0 ≤ e) (h2 : e < 60) (hN : ∀ i, zR (A 8 i)) : pz_Cd en 4 207 [.ref (a 0), .int (zI e)] (rH h0 a s lv A F) 0 0 (pz_ret (some (.int (zI (bI (0 ≤ rpl s (A 8 (3 * e)) ∧ 0 ≤ A 8 (3 * e + 1) ∧ A 8 (3 * e + 1) ≤ 11))))) (rH h0 a s lv A F)) := by
  refine pz_in pzt_X7_isTold ?_
  obtain ⟨hR, hs0, hs1, hs2, hs3⟩ := id hs
  refine pr_aload_n dX7_isTold_0 rfl ?_
  refine pr_aload_n dX7_isTold_1 rfl ?_
  refine pr_getf dX7_isTold_2 pzf_7_36 (rH_0 hj) rfl ?_
  refine zr_iconst dX7_isTold_5 ?_
  refine pr_iload_n dX7_isTold_6 rfl ?_
  refine zr_imul dX7_isTold_7 ?_
  refine zr_iald dX7_isTold_8 (rH_8 hj) (by omega) (by decide) ?_
  refine zcv1i dX7_isTold_9 pzm_7_74 pzt_X7_isCue (rH_0 hj) (kX7_isCue hj hs (hN _)) (by decide) (Nat.le_of_ble_eq_true rfl) (by decide) ?_
  refine zr_if_eq (tgt := 35) dX7_isTold_12 (by decide) (bI_R _) (fun c12 => ?_) (fun c12 => ?_)
  · have b12 := bI_0 c12
    refine zr_iconst dX7_isTold_35 ?_
    exact pr_iret dX7_isTold_36 rfl rfl (zret (by first | exact (bI_t (by omega)).symm | exact (bI_f (by omega)).symm))
  · have b12 := bI_ne c12
    refine pr_aload_n dX7_isTold_15 rfl ?_
    refine pr_getf dX7_isTold_16 pzf_7_36 (rH_0 hj) rfl ?_
    refine zr_iconst dX7_isTold_19 ?_
    refine pr_iload_n dX7_isTold_20 rfl ?_
    refine zr_imul dX7_isTold_21 ?_
    refine zr_iconst dX7_isTold_22 ?_
    refine zr_iadd dX7_isTold_23 ?_
    refine zr_iald dX7_isTold_24 (rH_8 hj) (by omega) (by decide) ?_
    refine zcs1i dX7_isTold_25 pzm_7_122 pzt_X7_isChannel (kX7_isChannel (hN _)) (by decide) (Nat.le_of_ble_eq_true rfl) ?_
    refine zr_if_eq (tgt := 35) dX7_isTold_28 (by decide) (bI_R _) (fun c28 => ?_) (fun c28 => ?_)
    · have b28 := bI_0 c28
      refine zr_iconst dX7_isTold_35 ?_
      exact pr_iret dX7_isTold_36 rfl rfl (zret (by first | exact (bI_t (by omega)).symm | exact (bI_f (by omega)).symm))
    · have b28 := bI_ne c28
      refine zr_iconst dX7_isTold_31 ?_
      refine pr_goto (tgt := 36) dX7_isTold_32 (by decide) ?_
      exact pr_iret dX7_isTold_36 rfl rfl (zret (by first | exact (bI_t (by omega)).symm | exact (bI_f (by omega)).symm))
end ref
