/-! the reference: read -/
def rdR (inp : Int → Int) (ln : Int) (K N : Int → Int) : Int × (Int × Int) × (Int → Int) × (Int → Int) := pRd inp ln 60 1 (pEn inp N ln 0 (3 * 0)).1 (zu K 0 (pKd inp ln 0)) (pEn inp N ln 0 (3 * 0)).2
theorem rdR_0 {inp : Int → Int} {ln : Int} {K N : Int → Int} (l0 : 0 ≤ ln) (hN : ∀ i, 0 ≤ N i ∧ N i < 10000) : pRo inp ln 1 (pEn inp N ln 0 (3 * 0)).1 (zu K 0 (pKd inp ln 0)) (pEn inp N ln 0 (3 * 0)).2 := by
  have g := pEn_R (inp := inp) (N := N) (to := 3 * 0) l0
  refine ⟨by decide, by decide, by omega, g.2.1, g.2.2.1, fun z => by have := g.2.2.2 z; omega, fun z j j1 j2 => ?_, pEn_b hN⟩
  rw [show j = 0 by omega, zu_at]
  exact (pEn_k z).2
theorem rdR_o {inp : Int → Int} {ln : Int} {K N : Int → Int} (l0 : 0 ≤ ln) (l3 : ln ≤ 60) (hN : ∀ i, 0 ≤ N i ∧ N i < 10000) : pRo inp ln (rdR inp ln K N).1 (rdR inp ln K N).2.1 (rdR inp ln K N).2.2.1 (rdR inp ln K N).2.2.2 := pRd_o l3 60 _ _ _ _ (rdR_0 l0 hN)
theorem rEx_ok {K N b : Int → Int} (hN : ∀ i, 0 ≤ N i ∧ N i < 10000) (hb : ∀ i, zR (b i)) : ∀ (n : Nat) (k : Int) (s lv : Int → Int) (F : Nat → Int), rI s → (∀ i, zR (lv i)) → F 7 = 0 →
    (∀ i, zR ((rEx K N b n k s lv F).1 i)) ∧ (∀ i, zR ((rEx K N b n k s lv F).2.1 i)) ∧ ((rEx K N b n k s lv F).2.2 7 = 0 ∧ rI (rEx K N b n k s lv F).1 ∨ (rEx K N b n k s lv F).2.2 7 = 2 ∧ ∀ i : Int, 0 ≤ i → i < 462 → (rEx K N b n k s lv F).1 i = b i) ∧ ∀ j, j ≠ 6 → j ≠ 7 → (rEx K N b n k s lv F).2.2 j = F j
  | 0, _, _, _, _ => fun hi hL h7 => ⟨(rI_B hi).1, hL, Or.inl ⟨h7, hi⟩, fun _ _ _ => rfl⟩
  | n + 1, k, s, lv, F => fun hi hL h7 => by
    have n0 := hN (3 * k)
    have n1 := hN (3 * k + 1)
    have n2 := hN (3 * k + 2)
    have ok := rFl_ok (F := F) (k := K k) hi hL hb n0.1 n0.2 (show zR (N (3 * k + 1)) by omega) n2.1 n2.2
    unfold rEx
    split <;> rename_i g
    · have ih := rEx_ok (K := K) hN hb n (k + 1) _ _ _ (ok.2.2.2.1 g) ok.2.1 ((ok.2.2.2.2 7 (by decide)).trans h7)
      exact ⟨ih.1, ih.2.1, ih.2.2.1, fun j j6 j7 => (ih.2.2.2 j j6 j7).trans (ok.2.2.2.2 j j6)⟩
    · exact ⟨fun i => zcpy_R hb ok.1 i, ok.2.1, Or.inr ⟨rfl, fun i i1 i2 => (zcpy_in (by omega)).trans (congrArg b (by omega))⟩, fun j j6 j7 => (vu_ne _ _ j7).trans (ok.2.2.2.2 j j6)⟩
section ref
variable {en : pz_Env} {h0 : pz_H} {a : Nat → Nat} {s lv : Int → Int} {A : Nat → Int → Int} {F : Nat → Int}
set_option maxRecDepth 100000 in
set_option maxHeartbeats 4000000 in
theorem kX7_read_w (hj : oj 9 a) (hi : rI s) (hL : ∀ i, zR (lv i)) (hA : ∀ i, 0 ≤ A 6 i ∧ A 6 i < 65536) (hN : ∀ i, 0 ≤ A 8 i ∧ A 8 i < 10000) (hB : ∀ i, zR (A 2 i)) (l0 : 0 ≤ F 10) (l3 : F 10 ≤ 60) (hw : (rdR (A 6) (F 10) (A 7) (A 8)).2.1.2 = 1) : pz_Cd en 9 209 [.ref (a 0)] (rH h0 a s lv A F) 0 0 (pz_ret (some (.int (zI 0))) (rH h0 a s lv (va_up (aN A (rdR (A 6) (F 10) (A 7) (A 8)).2.2.1 (rdR (A 6) (F 10) (A 7) (A 8)).2.2.2) 2 (zcpy s (A 2) 0 0 462)) (va_up (va_up (va_up (fN F (rdR (A 6) (F 10) (A 7) (A 8)).2.1.2 (rdR (A 6) (F 10) (A 7) (A 8)).2.1.1 (rdR (A 6) (F 10) (A 7) (A 8)).1) 10 0) 13 (rdR (A 6) (F 10) (A 7) (A 8)).2.1.1) 7 1))) := by
  refine pz_in pzt_X7_read ?_
  have ho := rdR_o (K := A 7) l0 l3 hN (inp := A 6)
  have ho1 := ho.1
  have ho2 := ho.2.1
  have ho3 := ho.2.2.1
  have ho4 := ho.2.2.2.1
  have hs := rI_B hi
  have r0 := kX7_readEntry_f (en := en) (h0 := h0) (s := s) (lv := lv) (A := A) (F := F) (w := 0) (K := A 7) (N := A 8) hj hA (Int.le_refl 0) l0 l3 (Int.le_refl 0) (by decide)
  rw [aN_id] at r0
  
  have tail : pz_WP 9 en (pz_Cd en (9 - 1)) 7 cX7_read 2 (some .int) [] false (pz_ret (some (.int (zI 0))) (rH h0 a s lv (va_up (aN A (rdR (A 6) (F 10) (A 7) (A 8)).2.2.1 (rdR (A 6) (F 10) (A 7) (A 8)).2.2.2) 2 (zcpy s (A 2) 0 0 462)) (va_up (va_up (va_up (fN F (rdR (A 6) (F 10) (A 7) (A 8)).2.1.2 (rdR (A 6) (F 10) (A 7) (A 8)).2.1.1 (rdR (A 6) (F 10) (A 7) (A 8)).1) 10 0) 13 (rdR (A 6) (F 10) (A 7) (A 8)).2.1.1) 7 1))) 44 [some (.ref (a 0)), none] [] (rH h0 a s lv (aN A (rdR (A 6) (F 10) (A 7) (A 8)).2.2.1 (rdR (A 6) (F 10) (A 7) (A 8)).2.2.2) (fN F (rdR (A 6) (F 10) (A 7) (A 8)).2.1.2 (rdR (A 6) (F 10) (A 7) (A 8)).2.1.1 (rdR (A 6) (F 10) (A 7) (A 8)).1)) 0 0 := by
    refine pr_aload_n dX7_read_44 rfl ?_
    refine zr_iconst dX7_read_45 ?_
    refine pr_putf dX7_read_46 pzf_7_207 (Or.inl rfl) (rH_0 hj) (Nat.le_of_ble_eq_true rfl) rfl rfl (rH_p10 hj) ?_
    refine pr_aload_n dX7_read_49 rfl ?_
    refine pr_aload_n dX7_read_50 rfl ?_
    refine pr_getf dX7_read_51 pzf_7_210 (rH_0 hj) rfl ?_
    refine zr_if_eq (tgt := 64) dX7_read_54 (by decide) (show zR (rdR (A 6) (F 10) (A 7) (A 8)).2.1.2 by omega) (fun c54 => absurd (hw.symm.trans c54) (by decide)) (fun c54 => ?_)
    refine pr_aload_n dX7_read_57 rfl ?_
    refine pr_getf dX7_read_58 pzf_7_214 (rH_0 hj) rfl ?_
    refine pr_goto (tgt := 68) dX7_read_61 (by decide) ?_
    refine pr_putf dX7_read_68 pzf_7_29 (Or.inl rfl) (rH_0 hj) (Nat.le_of_ble_eq_true rfl) rfl rfl (rH_p13 hj) ?_
    refine pr_aload_n dX7_read_71 rfl ?_
    refine pr_aload_n dX7_read_72 rfl ?_
    refine pr_getf dX7_read_73 pzf_7_210 (rH_0 hj) rfl ?_
    refine zr_if_eq (tgt := 83) dX7_read_76 (by decide) (show zR (rdR (A 6) (F 10) (A 7) (A 8)).2.1.2 by omega) (fun c76 => absurd (hw.symm.trans c76) (by decide)) (fun c76 => ?_)
    refine zr_iconst dX7_read_79 ?_
    refine pr_goto (tgt := 84) dX7_read_80 (by decide) ?_
    refine pr_putf dX7_read_84 pzf_7_42 (Or.inl rfl) (rH_0 hj) (Nat.le_of_ble_eq_true rfl) rfl rfl (rH_p7 hj) ?_
    refine pr_aload_n dX7_read_87 rfl ?_
    refine zcv0u dX7_read_88 pzm_7_54 pzt_X7_keepState (rH_0 hj) (kX7_keepState hj) (by decide) (Nat.le_of_ble_eq_true rfl) (by decide) ?_
    refine zr_iconst dX7_read_91 ?_
    refine pr_istore_n dX7_read_92 (by decide) rfl ?_
    refine pr_iload_n dX7_read_93 rfl ?_
    refine pr_aload_n dX7_read_94 rfl ?_
    refine pr_getf dX7_read_95 pzf_7_228 (rH_0 hj) rfl ?_
    refine zr_icmp_ge (tgt := 143) dX7_read_98 (by decide) (by decide) (show zR (rdR (A 6) (F 10) (A 7) (A 8)).1 by omega) (fun c98 => ?_) (fun c98 => ?_)
    · refine pr_aload_n dX7_read_143 rfl ?_
      refine pr_getf dX7_read_144 pzf_7_42 (rH_0 hj) rfl ?_
      refine zr_if_le (tgt := 152) dX7_read_147 (by decide) (show zR 1 by decide) (fun c147 => absurd c147 (show ¬ (1 : Int) ≤ 0 by decide)) (fun c147 => ?_)
      refine zr_iconst dX7_read_150 ?_
      exact pr_iret dX7_read_151 rfl rfl (zret rfl rfl)
    · refine pr_aload_n dX7_read_101 rfl ?_
      refine pr_getf dX7_read_102 pzf_7_42 (rH_0 hj) rfl ?_
      refine zr_if_ne (tgt := 143) dX7_read_105 (by decide) (show zR 1 by decide) (fun c105 => ?_) (fun c105 => absurd c105 (show ¬ (1 : Int) = 0 by decide))
      refine pr_aload_n dX7_read_143 rfl ?_
      refine pr_getf dX7_read_144 pzf_7_42 (rH_0 hj) rfl ?_
      refine zr_if_le (tgt := 152) dX7_read_147 (by decide) (show zR 1 by decide) (fun c147 => absurd c147 (show ¬ (1 : Int) ≤ 0 by decide)) (fun c147 => ?_)
      refine zr_iconst dX7_read_150 ?_
      exact pr_iret dX7_read_151 rfl rfl (zret rfl rfl)
  refine pr_aload_n dX7_read_0 rfl ?_
  refine zr_iconst dX7_read_1 ?_
  refine pr_putf dX7_read_2 pzf_7_214 (Or.inl rfl) (rH_0 hj) (Nat.le_of_ble_eq_true rfl) rfl rfl (rH_p11 hj) ?_
  refine pr_aload_n dX7_read_5 rfl ?_
  refine zr_iconst dX7_read_6 ?_
  refine pr_putf dX7_read_7 pzf_7_210 (Or.inl rfl) (rH_0 hj) (Nat.le_of_ble_eq_true rfl) rfl rfl (rH_p12 hj) ?_
  refine pr_aload_n dX7_read_10 rfl ?_
  refine zr_iconst dX7_read_11 ?_
  refine pr_putf dX7_read_12 pzf_7_228 (Or.inl rfl) (rH_0 hj) (Nat.le_of_ble_eq_true rfl) rfl rfl (rH_p16 hj) ?_
  rw [fN_0]
  refine pr_aload_n dX7_read_15 rfl ?_
  refine zcv0u dX7_read_16 pzm_7_245 pzt_X7_readEntry (rH_0 hj) r0 (by decide) (Nat.le_of_ble_eq_true rfl) (by decide) ?_
  exact read_loop hj hA l3 60 1 _ _ _ (rdR_0 l0 hN) (fun _ => by have := (rdR_0 (K := A 7) l0 hN (inp := A 6)).2.2.1; omega) tail
set_option maxRecDepth 100000 in
set_option maxHeartbeats 4000000 in
theorem kX7_read_f (hj : oj 9 a) (hi : rI s) (hL : ∀ i, zR (lv i)) (hA : ∀ i, 0 ≤ A 6 i ∧ A 6 i < 65536) (hN : ∀ i, 0 ≤ A 8 i ∧ A 8 i < 10000) (hB : ∀ i, zR (A 2 i)) (l0 : 0 ≤ F 10) (l3 : F 10 ≤ 60) (hw : (rdR (A 6) (F 10) (A 7) (A 8)).2.1.2 = 0) (hf : (rEx (rdR (A 6) (F 10) (A 7) (A 8)).2.2.1 (rdR (A 6) (F 10) (A 7) (A 8)).2.2.2 (zcpy s (A 2) 0 0 462) ((rdR (A 6) (F 10) (A 7) (A 8)).1 - 0).toNat 0 s lv (va_up (va_up (va_up (fN F (rdR (A 6) (F 10) (A 7) (A 8)).2.1.2 (rdR (A 6) (F 10) (A 7) (A 8)).2.1.1 (rdR (A 6) (F 10) (A 7) (A 8)).1) 10 0) 13 (F 13)) 7 0)).2.2 7 = 2) : pz_Cd en 9 209 [.ref (a 0)] (rH h0 a s lv A F) 0 0 (pz_ret (some (.int (zI 0))) (rH h0 a (rEx (rdR (A 6) (F 10) (A 7) (A 8)).2.2.1 (rdR (A 6) (F 10) (A 7) (A 8)).2.2.2 (zcpy s (A 2) 0 0 462) ((rdR (A 6) (F 10) (A 7) (A 8)).1 - 0).toNat 0 s lv (va_up (va_up (va_up (fN F (rdR (A 6) (F 10) (A 7) (A 8)).2.1.2 (rdR (A 6) (F 10) (A 7) (A 8)).2.1.1 (rdR (A 6) (F 10) (A 7) (A 8)).1) 10 0) 13 (F 13)) 7 0)).1 (rEx (rdR (A 6) (F 10) (A 7) (A 8)).2.2.1 (rdR (A 6) (F 10) (A 7) (A 8)).2.2.2 (zcpy s (A 2) 0 0 462) ((rdR (A 6) (F 10) (A 7) (A 8)).1 - 0).toNat 0 s lv (va_up (va_up (va_up (fN F (rdR (A 6) (F 10) (A 7) (A 8)).2.1.2 (rdR (A 6) (F 10) (A 7) (A 8)).2.1.1 (rdR (A 6) (F 10) (A 7) (A 8)).1) 10 0) 13 (F 13)) 7 0)).2.1 (va_up (aN A (rdR (A 6) (F 10) (A 7) (A 8)).2.2.1 (rdR (A 6) (F 10) (A 7) (A 8)).2.2.2) 2 (zcpy s (A 2) 0 0 462)) (rEx (rdR (A 6) (F 10) (A 7) (A 8)).2.2.1 (rdR (A 6) (F 10) (A 7) (A 8)).2.2.2 (zcpy s (A 2) 0 0 462) ((rdR (A 6) (F 10) (A 7) (A 8)).1 - 0).toNat 0 s lv (va_up (va_up (va_up (fN F (rdR (A 6) (F 10) (A 7) (A 8)).2.1.2 (rdR (A 6) (F 10) (A 7) (A 8)).2.1.1 (rdR (A 6) (F 10) (A 7) (A 8)).1) 10 0) 13 (F 13)) 7 0)).2.2)) := by
  refine pz_in pzt_X7_read ?_
  have ho := rdR_o (K := A 7) l0 l3 hN (inp := A 6)
  have ho1 := ho.1
  have ho2 := ho.2.1
  have ho3 := ho.2.2.1
  have ho4 := ho.2.2.2.1
  have hs := rI_B hi
  have r0 := kX7_readEntry_f (en := en) (h0 := h0) (s := s) (lv := lv) (A := A) (F := F) (w := 0) (K := A 7) (N := A 8) hj hA (Int.le_refl 0) l0 l3 (Int.le_refl 0) (by decide)
  rw [aN_id] at r0
  have ok := rEx_ok (K := (rdR (A 6) (F 10) (A 7) (A 8)).2.2.1) (N := (rdR (A 6) (F 10) (A 7) (A 8)).2.2.2) (b := zcpy s (A 2) 0 0 462) ho.2.2.2.2.2.2.2 (zcpy_R hs.1 hB) ((rdR (A 6) (F 10) (A 7) (A 8)).1 - 0).toNat 0 s lv (va_up (va_up (va_up (fN F (rdR (A 6) (F 10) (A 7) (A 8)).2.1.2 (rdR (A 6) (F 10) (A 7) (A 8)).2.1.1 (rdR (A 6) (F 10) (A 7) (A 8)).1) 10 0) 13 (F 13)) 7 0) hi hL rfl
  have e5 : (rEx (rdR (A 6) (F 10) (A 7) (A 8)).2.2.1 (rdR (A 6) (F 10) (A 7) (A 8)).2.2.2 (zcpy s (A 2) 0 0 462) ((rdR (A 6) (F 10) (A 7) (A 8)).1 - 0).toNat 0 s lv (va_up (va_up (va_up (fN F (rdR (A 6) (F 10) (A 7) (A 8)).2.1.2 (rdR (A 6) (F 10) (A 7) (A 8)).2.1.1 (rdR (A 6) (F 10) (A 7) (A 8)).1) 10 0) 13 (F 13)) 7 0)).2.2 5 = F 5 := ok.2.2.2 5 (by decide) (by decide)
  have e16 : (rEx (rdR (A 6) (F 10) (A 7) (A 8)).2.2.1 (rdR (A 6) (F 10) (A 7) (A 8)).2.2.2 (zcpy s (A 2) 0 0 462) ((rdR (A 6) (F 10) (A 7) (A 8)).1 - 0).toNat 0 s lv (va_up (va_up (va_up (fN F (rdR (A 6) (F 10) (A 7) (A 8)).2.1.2 (rdR (A 6) (F 10) (A 7) (A 8)).2.1.1 (rdR (A 6) (F 10) (A 7) (A 8)).1) 10 0) 13 (F 13)) 7 0)).2.2 16 = (rdR (A 6) (F 10) (A 7) (A 8)).1 := ok.2.2.2 16 (by decide) (by decide)
  have fin : ∀ t : Option Value, pz_WP 9 en (pz_Cd en (9 - 1)) 7 cX7_read 2 (some .int) [] false (pz_ret (some (.int (zI 0))) (rH h0 a (rEx (rdR (A 6) (F 10) (A 7) (A 8)).2.2.1 (rdR (A 6) (F 10) (A 7) (A 8)).2.2.2 (zcpy s (A 2) 0 0 462) ((rdR (A 6) (F 10) (A 7) (A 8)).1 - 0).toNat 0 s lv (va_up (va_up (va_up (fN F (rdR (A 6) (F 10) (A 7) (A 8)).2.1.2 (rdR (A 6) (F 10) (A 7) (A 8)).2.1.1 (rdR (A 6) (F 10) (A 7) (A 8)).1) 10 0) 13 (F 13)) 7 0)).1 (rEx (rdR (A 6) (F 10) (A 7) (A 8)).2.2.1 (rdR (A 6) (F 10) (A 7) (A 8)).2.2.2 (zcpy s (A 2) 0 0 462) ((rdR (A 6) (F 10) (A 7) (A 8)).1 - 0).toNat 0 s lv (va_up (va_up (va_up (fN F (rdR (A 6) (F 10) (A 7) (A 8)).2.1.2 (rdR (A 6) (F 10) (A 7) (A 8)).2.1.1 (rdR (A 6) (F 10) (A 7) (A 8)).1) 10 0) 13 (F 13)) 7 0)).2.1 (va_up (aN A (rdR (A 6) (F 10) (A 7) (A 8)).2.2.1 (rdR (A 6) (F 10) (A 7) (A 8)).2.2.2) 2 (zcpy s (A 2) 0 0 462)) (rEx (rdR (A 6) (F 10) (A 7) (A 8)).2.2.1 (rdR (A 6) (F 10) (A 7) (A 8)).2.2.2 (zcpy s (A 2) 0 0 462) ((rdR (A 6) (F 10) (A 7) (A 8)).1 - 0).toNat 0 s lv (va_up (va_up (va_up (fN F (rdR (A 6) (F 10) (A 7) (A 8)).2.1.2 (rdR (A 6) (F 10) (A 7) (A 8)).2.1.1 (rdR (A 6) (F 10) (A 7) (A 8)).1) 10 0) 13 (F 13)) 7 0)).2.2)) 143 [some (.ref (a 0)), t] [] (rH h0 a (rEx (rdR (A 6) (F 10) (A 7) (A 8)).2.2.1 (rdR (A 6) (F 10) (A 7) (A 8)).2.2.2 (zcpy s (A 2) 0 0 462) ((rdR (A 6) (F 10) (A 7) (A 8)).1 - 0).toNat 0 s lv (va_up (va_up (va_up (fN F (rdR (A 6) (F 10) (A 7) (A 8)).2.1.2 (rdR (A 6) (F 10) (A 7) (A 8)).2.1.1 (rdR (A 6) (F 10) (A 7) (A 8)).1) 10 0) 13 (F 13)) 7 0)).1 (rEx (rdR (A 6) (F 10) (A 7) (A 8)).2.2.1 (rdR (A 6) (F 10) (A 7) (A 8)).2.2.2 (zcpy s (A 2) 0 0 462) ((rdR (A 6) (F 10) (A 7) (A 8)).1 - 0).toNat 0 s lv (va_up (va_up (va_up (fN F (rdR (A 6) (F 10) (A 7) (A 8)).2.1.2 (rdR (A 6) (F 10) (A 7) (A 8)).2.1.1 (rdR (A 6) (F 10) (A 7) (A 8)).1) 10 0) 13 (F 13)) 7 0)).2.1 (va_up (aN A (rdR (A 6) (F 10) (A 7) (A 8)).2.2.1 (rdR (A 6) (F 10) (A 7) (A 8)).2.2.2) 2 (zcpy s (A 2) 0 0 462)) (rEx (rdR (A 6) (F 10) (A 7) (A 8)).2.2.1 (rdR (A 6) (F 10) (A 7) (A 8)).2.2.2 (zcpy s (A 2) 0 0 462) ((rdR (A 6) (F 10) (A 7) (A 8)).1 - 0).toNat 0 s lv (va_up (va_up (va_up (fN F (rdR (A 6) (F 10) (A 7) (A 8)).2.1.2 (rdR (A 6) (F 10) (A 7) (A 8)).2.1.1 (rdR (A 6) (F 10) (A 7) (A 8)).1) 10 0) 13 (F 13)) 7 0)).2.2) 0 0 := by
    intro t
    refine pr_aload_n dX7_read_143 rfl ?_
    refine pr_getf dX7_read_144 pzf_7_42 (rH_0 hj) rfl ?_
    refine zr_if_le (tgt := 152) dX7_read_147 (by decide) (by rw [hf]; decide) (fun c147 => by rw [hf] at c147; exact absurd c147 (by decide)) (fun c147 => ?_)
    refine zr_iconst dX7_read_150 ?_
    exact pr_iret dX7_read_151 rfl rfl (zret (by rfl))
  have tail : pz_WP 9 en (pz_Cd en (9 - 1)) 7 cX7_read 2 (some .int) [] false (pz_ret (some (.int (zI 0))) (rH h0 a (rEx (rdR (A 6) (F 10) (A 7) (A 8)).2.2.1 (rdR (A 6) (F 10) (A 7) (A 8)).2.2.2 (zcpy s (A 2) 0 0 462) ((rdR (A 6) (F 10) (A 7) (A 8)).1 - 0).toNat 0 s lv (va_up (va_up (va_up (fN F (rdR (A 6) (F 10) (A 7) (A 8)).2.1.2 (rdR (A 6) (F 10) (A 7) (A 8)).2.1.1 (rdR (A 6) (F 10) (A 7) (A 8)).1) 10 0) 13 (F 13)) 7 0)).1 (rEx (rdR (A 6) (F 10) (A 7) (A 8)).2.2.1 (rdR (A 6) (F 10) (A 7) (A 8)).2.2.2 (zcpy s (A 2) 0 0 462) ((rdR (A 6) (F 10) (A 7) (A 8)).1 - 0).toNat 0 s lv (va_up (va_up (va_up (fN F (rdR (A 6) (F 10) (A 7) (A 8)).2.1.2 (rdR (A 6) (F 10) (A 7) (A 8)).2.1.1 (rdR (A 6) (F 10) (A 7) (A 8)).1) 10 0) 13 (F 13)) 7 0)).2.1 (va_up (aN A (rdR (A 6) (F 10) (A 7) (A 8)).2.2.1 (rdR (A 6) (F 10) (A 7) (A 8)).2.2.2) 2 (zcpy s (A 2) 0 0 462)) (rEx (rdR (A 6) (F 10) (A 7) (A 8)).2.2.1 (rdR (A 6) (F 10) (A 7) (A 8)).2.2.2 (zcpy s (A 2) 0 0 462) ((rdR (A 6) (F 10) (A 7) (A 8)).1 - 0).toNat 0 s lv (va_up (va_up (va_up (fN F (rdR (A 6) (F 10) (A 7) (A 8)).2.1.2 (rdR (A 6) (F 10) (A 7) (A 8)).2.1.1 (rdR (A 6) (F 10) (A 7) (A 8)).1) 10 0) 13 (F 13)) 7 0)).2.2)) 44 [some (.ref (a 0)), none] [] (rH h0 a s lv (aN A (rdR (A 6) (F 10) (A 7) (A 8)).2.2.1 (rdR (A 6) (F 10) (A 7) (A 8)).2.2.2) (fN F (rdR (A 6) (F 10) (A 7) (A 8)).2.1.2 (rdR (A 6) (F 10) (A 7) (A 8)).2.1.1 (rdR (A 6) (F 10) (A 7) (A 8)).1)) 0 0 := by
    refine pr_aload_n dX7_read_44 rfl ?_
    refine zr_iconst dX7_read_45 ?_
    refine pr_putf dX7_read_46 pzf_7_207 (Or.inl rfl) (rH_0 hj) (Nat.le_of_ble_eq_true rfl) rfl rfl (rH_p10 hj) ?_
    refine pr_aload_n dX7_read_49 rfl ?_
    refine pr_aload_n dX7_read_50 rfl ?_
    refine pr_getf dX7_read_51 pzf_7_210 (rH_0 hj) rfl ?_
    refine zr_if_eq (tgt := 64) dX7_read_54 (by decide) (show zR (rdR (A 6) (F 10) (A 7) (A 8)).2.1.2 by omega) (fun c54 => ?_) (fun c54 => absurd hw c54)
    refine pr_aload_n dX7_read_64 rfl ?_
    refine pr_getf dX7_read_65 pzf_7_29 (rH_0 hj) rfl ?_
    rw [show va_up (fN F (rdR (A 6) (F 10) (A 7) (A 8)).2.1.2 (rdR (A 6) (F 10) (A 7) (A 8)).2.1.1 (rdR (A 6) (F 10) (A 7) (A 8)).1) 10 0 13 = F 13 from rfl]
    refine pr_putf dX7_read_68 pzf_7_29 (Or.inl rfl) (rH_0 hj) (Nat.le_of_ble_eq_true rfl) rfl rfl (rH_p13 hj) ?_
    refine pr_aload_n dX7_read_71 rfl ?_
    refine pr_aload_n dX7_read_72 rfl ?_
    refine pr_getf dX7_read_73 pzf_7_210 (rH_0 hj) rfl ?_
    refine zr_if_eq (tgt := 83) dX7_read_76 (by decide) (show zR (rdR (A 6) (F 10) (A 7) (A 8)).2.1.2 by omega) (fun c76 => ?_) (fun c76 => absurd hw c76)
    refine zr_iconst dX7_read_83 ?_
    refine pr_putf dX7_read_84 pzf_7_42 (Or.inl rfl) (rH_0 hj) (Nat.le_of_ble_eq_true rfl) rfl rfl (rH_p7 hj) ?_
    refine pr_aload_n dX7_read_87 rfl ?_
    refine zcv0u dX7_read_88 pzm_7_54 pzt_X7_keepState (rH_0 hj) (kX7_keepState hj) (by decide) (Nat.le_of_ble_eq_true rfl) (by decide) ?_
    refine zr_iconst dX7_read_91 ?_
    refine pr_istore_n dX7_read_92 (by decide) rfl ?_
    exact exec_loop (A := (va_up (aN A (rdR (A 6) (F 10) (A 7) (A 8)).2.2.1 (rdR (A 6) (F 10) (A 7) (A 8)).2.2.2) 2 (zcpy s (A 2) 0 0 462))) hj ho1 ho2 (ho.2.2.2.2.2.2.1 hw) ho.2.2.2.2.2.2.2 (zcpy_R hs.1 hB) s lv (va_up (va_up (va_up (fN F (rdR (A 6) (F 10) (A 7) (A 8)).2.1.2 (rdR (A 6) (F 10) (A 7) (A 8)).2.1.1 (rdR (A 6) (F 10) (A 7) (A 8)).1) 10 0) 13 (F 13)) 7 0) hi hL rfl rfl fin
  refine pr_aload_n dX7_read_0 rfl ?_
  refine zr_iconst dX7_read_1 ?_
  refine pr_putf dX7_read_2 pzf_7_214 (Or.inl rfl) (rH_0 hj) (Nat.le_of_ble_eq_true rfl) rfl rfl (rH_p11 hj) ?_
  refine pr_aload_n dX7_read_5 rfl ?_
  refine zr_iconst dX7_read_6 ?_
  refine pr_putf dX7_read_7 pzf_7_210 (Or.inl rfl) (rH_0 hj) (Nat.le_of_ble_eq_true rfl) rfl rfl (rH_p12 hj) ?_
  refine pr_aload_n dX7_read_10 rfl ?_
  refine zr_iconst dX7_read_11 ?_
  refine pr_putf dX7_read_12 pzf_7_228 (Or.inl rfl) (rH_0 hj) (Nat.le_of_ble_eq_true rfl) rfl rfl (rH_p16 hj) ?_
  rw [fN_0]
  refine pr_aload_n dX7_read_15 rfl ?_
  refine zcv0u dX7_read_16 pzm_7_245 pzt_X7_readEntry (rH_0 hj) r0 (by decide) (Nat.le_of_ble_eq_true rfl) (by decide) ?_
  exact read_loop hj hA l3 60 1 _ _ _ (rdR_0 l0 hN) (fun _ => by have := (rdR_0 (K := A 7) l0 hN (inp := A 6)).2.2.1; omega) tail
set_option maxRecDepth 100000 in
set_option maxHeartbeats 4000000 in
theorem kX7_read_k (hj : oj 9 a) (hi : rI s) (hL : ∀ i, zR (lv i)) (hA : ∀ i, 0 ≤ A 6 i ∧ A 6 i < 65536) (hN : ∀ i, 0 ≤ A 8 i ∧ A 8 i < 10000) (hB : ∀ i, zR (A 2 i)) (l0 : 0 ≤ F 10) (l3 : F 10 ≤ 60) (hw : (rdR (A 6) (F 10) (A 7) (A 8)).2.1.2 = 0) (hf : (rEx (rdR (A 6) (F 10) (A 7) (A 8)).2.2.1 (rdR (A 6) (F 10) (A 7) (A 8)).2.2.2 (zcpy s (A 2) 0 0 462) ((rdR (A 6) (F 10) (A 7) (A 8)).1 - 0).toNat 0 s lv (va_up (va_up (va_up (fN F (rdR (A 6) (F 10) (A 7) (A 8)).2.1.2 (rdR (A 6) (F 10) (A 7) (A 8)).2.1.1 (rdR (A 6) (F 10) (A 7) (A 8)).1) 10 0) 13 (F 13)) 7 0)).2.2 7 = 0) (p0 : 0 ≤ F 5) (p1 : F 5 ≤ 6) : pz_Cd en 9 209 [.ref (a 0)] (rH h0 a s lv A F) 0 0 (pz_ret (some (.int (zI (rdR (A 6) (F 10) (A 7) (A 8)).1))) (rH h0 a (rEx (rdR (A 6) (F 10) (A 7) (A 8)).2.2.1 (rdR (A 6) (F 10) (A 7) (A 8)).2.2.2 (zcpy s (A 2) 0 0 462) ((rdR (A 6) (F 10) (A 7) (A 8)).1 - 0).toNat 0 s lv (va_up (va_up (va_up (fN F (rdR (A 6) (F 10) (A 7) (A 8)).2.1.2 (rdR (A 6) (F 10) (A 7) (A 8)).2.1.1 (rdR (A 6) (F 10) (A 7) (A 8)).1) 10 0) 13 (F 13)) 7 0)).1 (rEx (rdR (A 6) (F 10) (A 7) (A 8)).2.2.1 (rdR (A 6) (F 10) (A 7) (A 8)).2.2.2 (zcpy s (A 2) 0 0 462) ((rdR (A 6) (F 10) (A 7) (A 8)).1 - 0).toNat 0 s lv (va_up (va_up (va_up (fN F (rdR (A 6) (F 10) (A 7) (A 8)).2.1.2 (rdR (A 6) (F 10) (A 7) (A 8)).2.1.1 (rdR (A 6) (F 10) (A 7) (A 8)).1) 10 0) 13 (F 13)) 7 0)).2.1 (va_up (va_up (aN A (rdR (A 6) (F 10) (A 7) (A 8)).2.2.1 (rdR (A 6) (F 10) (A 7) (A 8)).2.2.2) 2 (zcpy s (A 2) 0 0 462)) 4 (hPs (A 4) (zcpy s (A 2) 0 0 462) (F 5))) (va_up (rEx (rdR (A 6) (F 10) (A 7) (A 8)).2.2.1 (rdR (A 6) (F 10) (A 7) (A 8)).2.2.2 (zcpy s (A 2) 0 0 462) ((rdR (A 6) (F 10) (A 7) (A 8)).1 - 0).toNat 0 s lv (va_up (va_up (va_up (fN F (rdR (A 6) (F 10) (A 7) (A 8)).2.1.2 (rdR (A 6) (F 10) (A 7) (A 8)).2.1.1 (rdR (A 6) (F 10) (A 7) (A 8)).1) 10 0) 13 (F 13)) 7 0)).2.2 5 (hPn (F 5))))) := by
  refine pz_in pzt_X7_read ?_
  have ho := rdR_o (K := A 7) l0 l3 hN (inp := A 6)
  have ho1 := ho.1
  have ho2 := ho.2.1
  have ho3 := ho.2.2.1
  have ho4 := ho.2.2.2.1
  have hs := rI_B hi
  have r0 := kX7_readEntry_f (en := en) (h0 := h0) (s := s) (lv := lv) (A := A) (F := F) (w := 0) (K := A 7) (N := A 8) hj hA (Int.le_refl 0) l0 l3 (Int.le_refl 0) (by decide)
  rw [aN_id] at r0
  have ok := rEx_ok (K := (rdR (A 6) (F 10) (A 7) (A 8)).2.2.1) (N := (rdR (A 6) (F 10) (A 7) (A 8)).2.2.2) (b := zcpy s (A 2) 0 0 462) ho.2.2.2.2.2.2.2 (zcpy_R hs.1 hB) ((rdR (A 6) (F 10) (A 7) (A 8)).1 - 0).toNat 0 s lv (va_up (va_up (va_up (fN F (rdR (A 6) (F 10) (A 7) (A 8)).2.1.2 (rdR (A 6) (F 10) (A 7) (A 8)).2.1.1 (rdR (A 6) (F 10) (A 7) (A 8)).1) 10 0) 13 (F 13)) 7 0) hi hL rfl
  have e5 : (rEx (rdR (A 6) (F 10) (A 7) (A 8)).2.2.1 (rdR (A 6) (F 10) (A 7) (A 8)).2.2.2 (zcpy s (A 2) 0 0 462) ((rdR (A 6) (F 10) (A 7) (A 8)).1 - 0).toNat 0 s lv (va_up (va_up (va_up (fN F (rdR (A 6) (F 10) (A 7) (A 8)).2.1.2 (rdR (A 6) (F 10) (A 7) (A 8)).2.1.1 (rdR (A 6) (F 10) (A 7) (A 8)).1) 10 0) 13 (F 13)) 7 0)).2.2 5 = F 5 := ok.2.2.2 5 (by decide) (by decide)
  have e16 : (rEx (rdR (A 6) (F 10) (A 7) (A 8)).2.2.1 (rdR (A 6) (F 10) (A 7) (A 8)).2.2.2 (zcpy s (A 2) 0 0 462) ((rdR (A 6) (F 10) (A 7) (A 8)).1 - 0).toNat 0 s lv (va_up (va_up (va_up (fN F (rdR (A 6) (F 10) (A 7) (A 8)).2.1.2 (rdR (A 6) (F 10) (A 7) (A 8)).2.1.1 (rdR (A 6) (F 10) (A 7) (A 8)).1) 10 0) 13 (F 13)) 7 0)).2.2 16 = (rdR (A 6) (F 10) (A 7) (A 8)).1 := ok.2.2.2 16 (by decide) (by decide)
  have fin : ∀ t : Option Value, pz_WP 9 en (pz_Cd en (9 - 1)) 7 cX7_read 2 (some .int) [] false (pz_ret (some (.int (zI (rdR (A 6) (F 10) (A 7) (A 8)).1))) (rH h0 a (rEx (rdR (A 6) (F 10) (A 7) (A 8)).2.2.1 (rdR (A 6) (F 10) (A 7) (A 8)).2.2.2 (zcpy s (A 2) 0 0 462) ((rdR (A 6) (F 10) (A 7) (A 8)).1 - 0).toNat 0 s lv (va_up (va_up (va_up (fN F (rdR (A 6) (F 10) (A 7) (A 8)).2.1.2 (rdR (A 6) (F 10) (A 7) (A 8)).2.1.1 (rdR (A 6) (F 10) (A 7) (A 8)).1) 10 0) 13 (F 13)) 7 0)).1 (rEx (rdR (A 6) (F 10) (A 7) (A 8)).2.2.1 (rdR (A 6) (F 10) (A 7) (A 8)).2.2.2 (zcpy s (A 2) 0 0 462) ((rdR (A 6) (F 10) (A 7) (A 8)).1 - 0).toNat 0 s lv (va_up (va_up (va_up (fN F (rdR (A 6) (F 10) (A 7) (A 8)).2.1.2 (rdR (A 6) (F 10) (A 7) (A 8)).2.1.1 (rdR (A 6) (F 10) (A 7) (A 8)).1) 10 0) 13 (F 13)) 7 0)).2.1 (va_up (va_up (aN A (rdR (A 6) (F 10) (A 7) (A 8)).2.2.1 (rdR (A 6) (F 10) (A 7) (A 8)).2.2.2) 2 (zcpy s (A 2) 0 0 462)) 4 (hPs (A 4) (zcpy s (A 2) 0 0 462) (F 5))) (va_up (rEx (rdR (A 6) (F 10) (A 7) (A 8)).2.2.1 (rdR (A 6) (F 10) (A 7) (A 8)).2.2.2 (zcpy s (A 2) 0 0 462) ((rdR (A 6) (F 10) (A 7) (A 8)).1 - 0).toNat 0 s lv (va_up (va_up (va_up (fN F (rdR (A 6) (F 10) (A 7) (A 8)).2.1.2 (rdR (A 6) (F 10) (A 7) (A 8)).2.1.1 (rdR (A 6) (F 10) (A 7) (A 8)).1) 10 0) 13 (F 13)) 7 0)).2.2 5 (hPn (F 5))))) 143 [some (.ref (a 0)), t] [] (rH h0 a (rEx (rdR (A 6) (F 10) (A 7) (A 8)).2.2.1 (rdR (A 6) (F 10) (A 7) (A 8)).2.2.2 (zcpy s (A 2) 0 0 462) ((rdR (A 6) (F 10) (A 7) (A 8)).1 - 0).toNat 0 s lv (va_up (va_up (va_up (fN F (rdR (A 6) (F 10) (A 7) (A 8)).2.1.2 (rdR (A 6) (F 10) (A 7) (A 8)).2.1.1 (rdR (A 6) (F 10) (A 7) (A 8)).1) 10 0) 13 (F 13)) 7 0)).1 (rEx (rdR (A 6) (F 10) (A 7) (A 8)).2.2.1 (rdR (A 6) (F 10) (A 7) (A 8)).2.2.2 (zcpy s (A 2) 0 0 462) ((rdR (A 6) (F 10) (A 7) (A 8)).1 - 0).toNat 0 s lv (va_up (va_up (va_up (fN F (rdR (A 6) (F 10) (A 7) (A 8)).2.1.2 (rdR (A 6) (F 10) (A 7) (A 8)).2.1.1 (rdR (A 6) (F 10) (A 7) (A 8)).1) 10 0) 13 (F 13)) 7 0)).2.1 (va_up (aN A (rdR (A 6) (F 10) (A 7) (A 8)).2.2.1 (rdR (A 6) (F 10) (A 7) (A 8)).2.2.2) 2 (zcpy s (A 2) 0 0 462)) (rEx (rdR (A 6) (F 10) (A 7) (A 8)).2.2.1 (rdR (A 6) (F 10) (A 7) (A 8)).2.2.2 (zcpy s (A 2) 0 0 462) ((rdR (A 6) (F 10) (A 7) (A 8)).1 - 0).toNat 0 s lv (va_up (va_up (va_up (fN F (rdR (A 6) (F 10) (A 7) (A 8)).2.1.2 (rdR (A 6) (F 10) (A 7) (A 8)).2.1.1 (rdR (A 6) (F 10) (A 7) (A 8)).1) 10 0) 13 (F 13)) 7 0)).2.2) 0 0 := by
    intro t
    refine pr_aload_n dX7_read_143 rfl ?_
    refine pr_getf dX7_read_144 pzf_7_42 (rH_0 hj) rfl ?_
    refine zr_if_le (tgt := 152) dX7_read_147 (by decide) (by rw [hf]; decide) (fun c147 => ?_) (fun c147 => by rw [hf] at c147; exact absurd c147 (by decide))
    refine pr_aload_n dX7_read_152 rfl ?_
    refine zcv0u dX7_read_153 pzm_7_57 pzt_X7_change (rH_0 hj) (kX7_change hj (show 0 ≤ (rEx (rdR (A 6) (F 10) (A 7) (A 8)).2.2.1 (rdR (A 6) (F 10) (A 7) (A 8)).2.2.2 (zcpy s (A 2) 0 0 462) ((rdR (A 6) (F 10) (A 7) (A 8)).1 - 0).toNat 0 s lv (va_up (va_up (va_up (fN F (rdR (A 6) (F 10) (A 7) (A 8)).2.1.2 (rdR (A 6) (F 10) (A 7) (A 8)).2.1.1 (rdR (A 6) (F 10) (A 7) (A 8)).1) 10 0) 13 (F 13)) 7 0)).2.2 5 by rw [e5]; exact p0) (show (rEx (rdR (A 6) (F 10) (A 7) (A 8)).2.2.1 (rdR (A 6) (F 10) (A 7) (A 8)).2.2.2 (zcpy s (A 2) 0 0 462) ((rdR (A 6) (F 10) (A 7) (A 8)).1 - 0).toNat 0 s lv (va_up (va_up (va_up (fN F (rdR (A 6) (F 10) (A 7) (A 8)).2.1.2 (rdR (A 6) (F 10) (A 7) (A 8)).2.1.1 (rdR (A 6) (F 10) (A 7) (A 8)).1) 10 0) 13 (F 13)) 7 0)).2.2 5 ≤ 6 by rw [e5]; exact p1)) (by decide) (Nat.le_of_ble_eq_true rfl) (by decide) ?_
    refine pr_aload_n dX7_read_156 rfl ?_
    refine pr_getf dX7_read_157 pzf_7_228 (rH_0 hj) rfl ?_
    exact pr_iret dX7_read_160 rfl rfl (zret (show va_up (rEx (rdR (A 6) (F 10) (A 7) (A 8)).2.2.1 (rdR (A 6) (F 10) (A 7) (A 8)).2.2.2 (zcpy s (A 2) 0 0 462) ((rdR (A 6) (F 10) (A 7) (A 8)).1 - 0).toNat 0 s lv (va_up (va_up (va_up (fN F (rdR (A 6) (F 10) (A 7) (A 8)).2.1.2 (rdR (A 6) (F 10) (A 7) (A 8)).2.1.1 (rdR (A 6) (F 10) (A 7) (A 8)).1) 10 0) 13 (F 13)) 7 0)).2.2 5 _ 16 = _ from e16) (by rw [e5]; rfl))
  have tail : pz_WP 9 en (pz_Cd en (9 - 1)) 7 cX7_read 2 (some .int) [] false (pz_ret (some (.int (zI (rdR (A 6) (F 10) (A 7) (A 8)).1))) (rH h0 a (rEx (rdR (A 6) (F 10) (A 7) (A 8)).2.2.1 (rdR (A 6) (F 10) (A 7) (A 8)).2.2.2 (zcpy s (A 2) 0 0 462) ((rdR (A 6) (F 10) (A 7) (A 8)).1 - 0).toNat 0 s lv (va_up (va_up (va_up (fN F (rdR (A 6) (F 10) (A 7) (A 8)).2.1.2 (rdR (A 6) (F 10) (A 7) (A 8)).2.1.1 (rdR (A 6) (F 10) (A 7) (A 8)).1) 10 0) 13 (F 13)) 7 0)).1 (rEx (rdR (A 6) (F 10) (A 7) (A 8)).2.2.1 (rdR (A 6) (F 10) (A 7) (A 8)).2.2.2 (zcpy s (A 2) 0 0 462) ((rdR (A 6) (F 10) (A 7) (A 8)).1 - 0).toNat 0 s lv (va_up (va_up (va_up (fN F (rdR (A 6) (F 10) (A 7) (A 8)).2.1.2 (rdR (A 6) (F 10) (A 7) (A 8)).2.1.1 (rdR (A 6) (F 10) (A 7) (A 8)).1) 10 0) 13 (F 13)) 7 0)).2.1 (va_up (va_up (aN A (rdR (A 6) (F 10) (A 7) (A 8)).2.2.1 (rdR (A 6) (F 10) (A 7) (A 8)).2.2.2) 2 (zcpy s (A 2) 0 0 462)) 4 (hPs (A 4) (zcpy s (A 2) 0 0 462) (F 5))) (va_up (rEx (rdR (A 6) (F 10) (A 7) (A 8)).2.2.1 (rdR (A 6) (F 10) (A 7) (A 8)).2.2.2 (zcpy s (A 2) 0 0 462) ((rdR (A 6) (F 10) (A 7) (A 8)).1 - 0).toNat 0 s lv (va_up (va_up (va_up (fN F (rdR (A 6) (F 10) (A 7) (A 8)).2.1.2 (rdR (A 6) (F 10) (A 7) (A 8)).2.1.1 (rdR (A 6) (F 10) (A 7) (A 8)).1) 10 0) 13 (F 13)) 7 0)).2.2 5 (hPn (F 5))))) 44 [some (.ref (a 0)), none] [] (rH h0 a s lv (aN A (rdR (A 6) (F 10) (A 7) (A 8)).2.2.1 (rdR (A 6) (F 10) (A 7) (A 8)).2.2.2) (fN F (rdR (A 6) (F 10) (A 7) (A 8)).2.1.2 (rdR (A 6) (F 10) (A 7) (A 8)).2.1.1 (rdR (A 6) (F 10) (A 7) (A 8)).1)) 0 0 := by
    refine pr_aload_n dX7_read_44 rfl ?_
    refine zr_iconst dX7_read_45 ?_
    refine pr_putf dX7_read_46 pzf_7_207 (Or.inl rfl) (rH_0 hj) (Nat.le_of_ble_eq_true rfl) rfl rfl (rH_p10 hj) ?_
    refine pr_aload_n dX7_read_49 rfl ?_
    refine pr_aload_n dX7_read_50 rfl ?_
    refine pr_getf dX7_read_51 pzf_7_210 (rH_0 hj) rfl ?_
    refine zr_if_eq (tgt := 64) dX7_read_54 (by decide) (show zR (rdR (A 6) (F 10) (A 7) (A 8)).2.1.2 by omega) (fun c54 => ?_) (fun c54 => absurd hw c54)
    refine pr_aload_n dX7_read_64 rfl ?_
    refine pr_getf dX7_read_65 pzf_7_29 (rH_0 hj) rfl ?_
    rw [show va_up (fN F (rdR (A 6) (F 10) (A 7) (A 8)).2.1.2 (rdR (A 6) (F 10) (A 7) (A 8)).2.1.1 (rdR (A 6) (F 10) (A 7) (A 8)).1) 10 0 13 = F 13 from rfl]
    refine pr_putf dX7_read_68 pzf_7_29 (Or.inl rfl) (rH_0 hj) (Nat.le_of_ble_eq_true rfl) rfl rfl (rH_p13 hj) ?_
    refine pr_aload_n dX7_read_71 rfl ?_
    refine pr_aload_n dX7_read_72 rfl ?_
    refine pr_getf dX7_read_73 pzf_7_210 (rH_0 hj) rfl ?_
    refine zr_if_eq (tgt := 83) dX7_read_76 (by decide) (show zR (rdR (A 6) (F 10) (A 7) (A 8)).2.1.2 by omega) (fun c76 => ?_) (fun c76 => absurd hw c76)
    refine zr_iconst dX7_read_83 ?_
    refine pr_putf dX7_read_84 pzf_7_42 (Or.inl rfl) (rH_0 hj) (Nat.le_of_ble_eq_true rfl) rfl rfl (rH_p7 hj) ?_
    refine pr_aload_n dX7_read_87 rfl ?_
    refine zcv0u dX7_read_88 pzm_7_54 pzt_X7_keepState (rH_0 hj) (kX7_keepState hj) (by decide) (Nat.le_of_ble_eq_true rfl) (by decide) ?_
    refine zr_iconst dX7_read_91 ?_
    refine pr_istore_n dX7_read_92 (by decide) rfl ?_
    exact exec_loop (A := (va_up (aN A (rdR (A 6) (F 10) (A 7) (A 8)).2.2.1 (rdR (A 6) (F 10) (A 7) (A 8)).2.2.2) 2 (zcpy s (A 2) 0 0 462))) hj ho1 ho2 (ho.2.2.2.2.2.2.1 hw) ho.2.2.2.2.2.2.2 (zcpy_R hs.1 hB) s lv (va_up (va_up (va_up (fN F (rdR (A 6) (F 10) (A 7) (A 8)).2.1.2 (rdR (A 6) (F 10) (A 7) (A 8)).2.1.1 (rdR (A 6) (F 10) (A 7) (A 8)).1) 10 0) 13 (F 13)) 7 0) hi hL rfl rfl fin
  refine pr_aload_n dX7_read_0 rfl ?_
  refine zr_iconst dX7_read_1 ?_
  refine pr_putf dX7_read_2 pzf_7_214 (Or.inl rfl) (rH_0 hj) (Nat.le_of_ble_eq_true rfl) rfl rfl (rH_p11 hj) ?_
  refine pr_aload_n dX7_read_5 rfl ?_
  refine zr_iconst dX7_read_6 ?_
  refine pr_putf dX7_read_7 pzf_7_210 (Or.inl rfl) (rH_0 hj) (Nat.le_of_ble_eq_true rfl) rfl rfl (rH_p12 hj) ?_
  refine pr_aload_n dX7_read_10 rfl ?_
  refine zr_iconst dX7_read_11 ?_
  refine pr_putf dX7_read_12 pzf_7_228 (Or.inl rfl) (rH_0 hj) (Nat.le_of_ble_eq_true rfl) rfl rfl (rH_p16 hj) ?_
  rw [fN_0]
  refine pr_aload_n dX7_read_15 rfl ?_
  refine zcv0u dX7_read_16 pzm_7_245 pzt_X7_readEntry (rH_0 hj) r0 (by decide) (Nat.le_of_ble_eq_true rfl) (by decide) ?_
  exact read_loop hj hA l3 60 1 _ _ _ (rdR_0 l0 hN) (fun _ => by have := (rdR_0 (K := A 7) l0 hN (inp := A 6)).2.2.1; omega) tail
end ref
