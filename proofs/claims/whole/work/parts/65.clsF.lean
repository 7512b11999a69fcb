/-! the class: its own methods that change -/
def xrG (X : Int → Int → Int) (i c t : Int) (hd : Prop) [Decidable hd] : Int := xrf X i (bI (hd ∧ xnh X (i + 1) c (xlm X t c))) (bI (X (7 + 5 * i + 3) c = -2))
def xrD (X : Int → Int → Int) (i : Int) (hd : Prop) [Decidable hd] : Int := xrf X i (xhs X i hd 12) (-(xic X i))
theorem xrT_R {X : Int → Int → Int} {i c : Int} {hd : Prop} [Decidable hd] : 0 ≤ xrT X i c hd ∧ xrT X i c hd ≤ 3 := by
  unfold xrT
  have h0 := xrf_R (X := X) i (bI (hd ∧ xnh X (i + 1) c (xlw X i c))) 0
  have h1 := xrf_R (X := X) i (bI (hd ∧ xnh X (i + 1) c (xlw X i c))) (-1)
  repeat' split
  all_goals omega
theorem xinA_1 {X : Int → Int → Int} {n : Int} : xinA X n 1 = zu (X 1) 1 (X 1 1 + 1) := by
  unfold xinA
  rw [zv_at]
theorem xin_1 {X : Int → Int → Int} {n q : Int} : xin X n q 1 1 = X 1 1 + 1 := by
  unfold xin zs
  rw [zp_lo (by omega), xinA_1, zu_at]
theorem fin_p {X : Int → Int → Int} (hX : xB X) {n : Int} : 0 ≤ xip X n (X 1 1).toNat ∧ xip X n (X 1 1).toNat ≤ X 1 1 := by
  have := xip_R (X := X) (n := n) (X 1 1).toNat
  obtain ⟨-, h0, -⟩ := hX
  omega
section cls
variable {en : pz_Env} {h : pz_H} {t u a b : Int → Nat} {K X Y : Int → Int → Int}
set_option maxRecDepth 100000 in
set_option maxHeartbeats 4000000 in
theorem kX6_clear (hV : cV t u a K X)  : pz_Cd en 9 97 [.ref (t 0)] (sH (tH h t u K) a (sq a) X) 0 0 (pz_ret (some (.int (zI (X 1 1)))) (sH (tH h t u (kF K)) a (sq a) (xmQ (xmL X 12)))) := by
  refine pz_in pzt_X6_clear ?_
  obtain ⟨hj, ht, hD, hu0, hI, hK, ⟨f0, f1⟩, ⟨r0, r1⟩, ⟨q0, q1⟩, hA⟩ := id hV
  have hX := hI.1
  obtain ⟨hR, hn0, hn1, hm0, hm1⟩ := id hX
  refine pr_aload_n dX6_clear_0 rfl ?_
  refine pr_getf dX6_clear_1 pzf_6_10 (gS_0 ht hD hu0) rfl ?_
  refine pr_getf dX6_clear_4 pzf_6_40 (sH_0 hj) rfl ?_
  refine pr_getf dX6_clear_7 pzf_6_44 (sH_1 hj) rfl ?_
  refine pr_istore_n dX6_clear_10 (by decide) rfl ?_
  refine pr_aload_n dX6_clear_11 rfl ?_
  refine pr_getf dX6_clear_12 pzf_6_10 (gS_0 ht hD hu0) rfl ?_
  refine zcv0u dX6_clear_15 pzm_6_49 pzt_X5_makeNew (sH_0 hj) (kX5_makeNew hj) (by decide) (Nat.le_of_ble_eq_true rfl) (by decide) ?_
  refine pr_aload_n dX6_clear_18 rfl ?_
  refine pr_getf dX6_clear_19 pzf_6_22 (gS_0 ht hD hu0) rfl ?_
  refine zcv0u dX6_clear_22 pzm_6_52 pzt_X2_forgetAll (gH_1 ht hD) (kX2_forgetAll hj ht hD) (by decide) (Nat.le_of_ble_eq_true rfl) (by decide) ?_
  refine pr_iload_n dX6_clear_25 rfl ?_
  exact pr_iret dX6_clear_26 rfl rfl (zret (by rfl))
set_option maxRecDepth 100000 in
set_option maxHeartbeats 4000000 in
theorem kX6_addCue_k (hV : cV t u a K X) {n : Int} (h1 : zR n) (g1 : (1 ≤ n ∧ n ≤ 99) ∧ xix X n < 0) (g2 : X 1 1 < 12) (hb : bO h t a b Y) (hub : u (2 + K 1 1) = b 0) : pz_Cd en 9 108 [.ref (t 0), .int (zI n)] (sH (tH h t u K) a (sq a) X) 0 0 (pz_ret (some (.int (zI (X 1 1 + 1)))) (sH (tH (sH h b (sq b) (xcp Y X)) t u (kR K)) (zs (pI (xip X n (X 1 1).toNat) (X 1 1)) a) (sq (zs (pI (xip X n (X 1 1).toNat) (X 1 1)) a)) (xin X n (xip X n (X 1 1).toNat)))) := by
  refine pz_in pzt_X6_addCue ?_
  obtain ⟨hj, ht, hD, hu0, hI, hK, ⟨f0, f1⟩, ⟨r0, r1⟩, ⟨q0, q1⟩, hA⟩ := id hV
  have hX := hI.1
  obtain ⟨hR, hn0, hn1, hm0, hm1⟩ := id hX
  refine pr_aload_n dX6_addCue_0 rfl ?_
  refine pr_iload_n dX6_addCue_1 rfl ?_
  refine zcv1i dX6_addCue_2 pzm_6_55 pzt_X6_isFreeNumber (gS_0 ht hD hu0) (kX6_isFreeNumber hV h1) (by decide) (Nat.le_of_ble_eq_true rfl) (by decide) ?_
  refine zr_if_ne (tgt := 18) dX6_addCue_5 (by decide) (bI_R _) (fun c5 => ?_) (fun c5 => by exfalso; have bb := bI_0 c5; omega)
  have b5 := bI_ne c5
  refine pr_aload_n dX6_addCue_18 rfl ?_
  refine pr_getf dX6_addCue_19 pzf_6_10 (gS_0 ht hD hu0) rfl ?_
  refine pr_getf dX6_addCue_22 pzf_6_40 (sH_0 hj) rfl ?_
  refine pr_getf dX6_addCue_25 pzf_6_44 (sH_1 hj) rfl ?_
  refine zr_bipush dX6_addCue_28 (by decide) ?_
  refine zr_icmp_lt (tgt := 43) dX6_addCue_30 (by decide) (by omega) (by omega) (fun c30 => ?_) (fun c30 => by exfalso; omega)
  refine pr_aload_n dX6_addCue_43 rfl ?_
  refine pr_getf dX6_addCue_44 pzf_6_22 (gS_0 ht hD hu0) rfl ?_
  refine pr_aload_n dX6_addCue_47 rfl ?_
  refine pr_getf dX6_addCue_48 pzf_6_10 (gS_0 ht hD hu0) rfl ?_
  refine zcv1u dX6_addCue_51 pzm_6_71 pzt_X2_remember (gH_1 ht hD) (kX2_remember hj ht hD hI hb hub f0 f1 r0 r1) (by decide) (Nat.le_of_ble_eq_true rfl) (by decide) ?_
  refine pr_aload_n dX6_addCue_54 rfl ?_
  refine pr_getf dX6_addCue_55 pzf_6_10 (gS_0 ht hD hu0) rfl ?_
  refine pr_getf dX6_addCue_58 pzf_6_40 (sH_0 hj) rfl ?_
  refine pr_iload_n dX6_addCue_61 rfl ?_
  refine zcv1u dX6_addCue_62 pzm_6_75 pzt_X1_insertCue (sH_1 hj) (kX1_insertCue hj hX h1 (by omega)) (by decide) (Nat.le_of_ble_eq_true rfl) (by decide) ?_
  have hz := fin_p hX (n := n)
  have hj := zs_sj (zpI_I hz.1 hz.2 (by omega)) hj
  have hD := tD_zs (zpI_I hz.1 hz.2 (show X 1 1 < 12 by omega)) hD
  have hu0 : u 0 = (zs (pI (xip X n (X 1 1).toNat) (X 1 1)) a) 0 := by rw [zs_0]; exact hu0
  refine pr_aload_n dX6_addCue_65 rfl ?_
  refine pr_getf dX6_addCue_66 pzf_6_10 (gS_0 ht hD hu0) rfl ?_
  refine pr_getf dX6_addCue_69 pzf_6_40 (sH_0 hj) rfl ?_
  refine pr_getf dX6_addCue_72 pzf_6_44 (sH_1 hj) rfl ?_
  exact pr_iret dX6_addCue_75 rfl rfl (zret (xin_1))
set_option maxRecDepth 100000 in
set_option maxHeartbeats 4000000 in
theorem kX6_addCue_t1 (hV : cV t u a K X) {n : Int} (h1 : zR n) (g1 : ¬ ((1 ≤ n ∧ n ≤ 99) ∧ xix X n < 0)) : pz_Cd en 9 108 [.ref (t 0), .int (zI n)] (sH (tH h t u K) a (sq a) X) 1 6 (pz_thr "java/lang/IllegalArgumentException" (sH (tH h t u K) a (sq a) X)) := by
  refine pz_in pzt_X6_addCue ?_
  obtain ⟨hj, ht, hD, hu0, hI, hK, ⟨f0, f1⟩, ⟨r0, r1⟩, ⟨q0, q1⟩, hA⟩ := id hV
  have hX := hI.1
  obtain ⟨hR, hn0, hn1, hm0, hm1⟩ := id hX
  refine pr_aload_n dX6_addCue_0 rfl ?_
  refine pr_iload_n dX6_addCue_1 rfl ?_
  refine zcv1i dX6_addCue_2 pzm_6_55 pzt_X6_isFreeNumber (gS_0 ht hD hu0) (kX6_isFreeNumber hV h1) (by decide) (Nat.le_of_ble_eq_true rfl) (by decide) ?_
  refine zr_if_ne (tgt := 18) dX6_addCue_5 (by decide) (bI_R _) (fun c5 => by exfalso; have bb := bI_ne c5; omega) (fun c5 => ?_)
  have b5 := bI_0 c5
  exact pr_thr dX6_addCue_8 dX6_addCue_11 dX6_addCue_12 dX6_addCue_14 dX6_addCue_17 pze_6_59 pzs_61 rfl (by decide) rfl ⟨rfl, rfl⟩
set_option maxRecDepth 100000 in
set_option maxHeartbeats 4000000 in
theorem kX6_addCue_t2 (hV : cV t u a K X) {n : Int} (h1 : zR n) (g1 : (1 ≤ n ∧ n ≤ 99) ∧ xix X n < 0) (g2 : X 1 1 = 12) : pz_Cd en 9 108 [.ref (t 0), .int (zI n)] (sH (tH h t u K) a (sq a) X) 1 6 (pz_thr "java/lang/IllegalStateException" (sH (tH h t u K) a (sq a) X)) := by
  refine pz_in pzt_X6_addCue ?_
  obtain ⟨hj, ht, hD, hu0, hI, hK, ⟨f0, f1⟩, ⟨r0, r1⟩, ⟨q0, q1⟩, hA⟩ := id hV
  have hX := hI.1
  obtain ⟨hR, hn0, hn1, hm0, hm1⟩ := id hX
  refine pr_aload_n dX6_addCue_0 rfl ?_
  refine pr_iload_n dX6_addCue_1 rfl ?_
  refine zcv1i dX6_addCue_2 pzm_6_55 pzt_X6_isFreeNumber (gS_0 ht hD hu0) (kX6_isFreeNumber hV h1) (by decide) (Nat.le_of_ble_eq_true rfl) (by decide) ?_
  refine zr_if_ne (tgt := 18) dX6_addCue_5 (by decide) (bI_R _) (fun c5 => ?_) (fun c5 => by exfalso; have bb := bI_0 c5; omega)
  have b5 := bI_ne c5
  refine pr_aload_n dX6_addCue_18 rfl ?_
  refine pr_getf dX6_addCue_19 pzf_6_10 (gS_0 ht hD hu0) rfl ?_
  refine pr_getf dX6_addCue_22 pzf_6_40 (sH_0 hj) rfl ?_
  refine pr_getf dX6_addCue_25 pzf_6_44 (sH_1 hj) rfl ?_
  refine zr_bipush dX6_addCue_28 (by decide) ?_
  refine zr_icmp_lt (tgt := 43) dX6_addCue_30 (by decide) (by omega) (by omega) (fun c30 => by exfalso; omega) (fun c30 => ?_)
  exact pr_thr dX6_addCue_33 dX6_addCue_36 dX6_addCue_37 dX6_addCue_39 dX6_addCue_42 pze_6_66 pzs_68 rfl (by decide) rfl ⟨rfl, rfl⟩
set_option maxRecDepth 100000 in
set_option maxHeartbeats 4000000 in
theorem kX6_removeCue_k (hV : cV t u a K X) {n : Int} (h1 : zR n) {hd : Prop} [dd : Decidable hd] (g1 : 0 ≤ xix X n) (g9 : (xrD X (xix X n) hd) = 0) (hb : bO h t a b Y) (hub : u (2 + K 1 1) = b 0) : pz_Cd en 9 119 [.ref (t 0), .int (zI n), .int (zI (bI hd))] (sH (tH h t u K) a (sq a) X) 0 0 (pz_ret (some (.int (zI (xic X (xix X n))))) (sH (tH (sH h b (sq b) (xcp Y X)) t u (kR K)) (zs (pD (xix X n) (X 1 1 - 1)) a) (sq (zs (pD (xix X n) (X 1 1 - 1)) a)) (xdp (xdD (xhl X (xix X n) hd 12) (xix X n)) (xix X n) 12))) := by
  refine pz_in pzt_X6_removeCue ?_
  obtain ⟨hj, ht, hD, hu0, hI, hK, ⟨f0, f1⟩, ⟨r0, r1⟩, ⟨q0, q1⟩, hA⟩ := id hV
  have hX := hI.1
  obtain ⟨hR, hn0, hn1, hm0, hm1⟩ := id hX
  have hp := xix_R hX n
  have hr9 := xrf_R (X := X) (xix X n) (xhs X (xix X n) hd 12) (-(xic X (xix X n)))
  have hr9 : 0 ≤ xrD X (xix X n) hd ∧ xrD X (xix X n) hd ≤ 2 := hr9
  refine pr_aload_n dX6_removeCue_0 rfl ?_
  refine pr_getf dX6_removeCue_1 pzf_6_10 (gS_0 ht hD hu0) rfl ?_
  refine pr_getf dX6_removeCue_4 pzf_6_40 (sH_0 hj) rfl ?_
  refine pr_iload_n dX6_removeCue_7 rfl ?_
  refine zcv1i dX6_removeCue_8 pzm_6_79 pzt_X1_indexOf (sH_1 hj) (kX1_indexOf hj hX (by omega)) (by decide) (Nat.le_of_ble_eq_true rfl) (by decide) ?_
  refine pr_istore_n dX6_removeCue_11 (by decide) rfl ?_
  refine pr_iload_n dX6_removeCue_12 rfl ?_
  refine zr_if_ge (tgt := 26) dX6_removeCue_13 (by decide) (by omega) (fun c13 => ?_) (fun c13 => by exfalso; omega)
  refine pr_aload_n dX6_removeCue_26 rfl ?_
  refine pr_aload_n dX6_removeCue_27 rfl ?_
  refine pr_getf dX6_removeCue_28 pzf_6_10 (gS_0 ht hD hu0) rfl ?_
  refine pr_getf dX6_removeCue_31 pzf_6_40 (sH_0 hj) rfl ?_
  refine pr_iload_n dX6_removeCue_34 rfl ?_
  refine pr_iload_n dX6_removeCue_35 rfl ?_
  refine zcv2i dX6_removeCue_36 pzm_6_88 pzt_X1_refusalToDrop (sH_1 hj) (kX1_refusalToDrop hj hX g1 (by omega)) (by decide) (Nat.le_of_ble_eq_true rfl) (by decide) ?_
  have e9 : xrf X (xix X n) (xhs X (xix X n) hd 12) (-(xic X (xix X n))) = (xrD X (xix X n) hd) := rfl
  rw [e9, g9]
  refine zcv1i dX6_removeCue_39 pzm_6_92 pzt_X6_keepIfRefused (gS_0 ht hD hu0) (kX6_keepIfRefused_0 hV) (by decide) (Nat.le_of_ble_eq_true rfl) (by decide) ?_
  refine zr_if_eq (tgt := 55) dX6_removeCue_42 (by decide) (by decide) (fun c42 => ?_) (fun c42 => by exfalso; omega)
  refine pr_aload_n dX6_removeCue_55 rfl ?_
  refine pr_getf dX6_removeCue_56 pzf_6_22 (gS_0 ht hD hu0) rfl ?_
  refine pr_aload_n dX6_removeCue_59 rfl ?_
  refine pr_getf dX6_removeCue_60 pzf_6_10 (gS_0 ht hD hu0) rfl ?_
  refine zcv1u dX6_removeCue_63 pzm_6_71 pzt_X2_remember (gH_1 ht hD) (kX2_remember hj ht hD hI hb hub f0 f1 r0 r1) (by decide) (Nat.le_of_ble_eq_true rfl) (by decide) ?_
  refine pr_aload_n dX6_removeCue_66 rfl ?_
  refine pr_getf dX6_removeCue_67 pzf_6_10 (gS_0 ht hD hu0) rfl ?_
  refine pr_getf dX6_removeCue_70 pzf_6_40 (sH_0 hj) rfl ?_
  refine pr_iload_n dX6_removeCue_73 rfl ?_
  refine pr_iload_n dX6_removeCue_74 rfl ?_
  refine zcv2i dX6_removeCue_75 pzm_6_100 pzt_X1_dropCue (sH_1 hj) (kX1_dropCue hj hX g1 (by omega)) (by decide) (Nat.le_of_ble_eq_true rfl) (by decide) ?_
  exact pr_iret dX6_removeCue_78 rfl rfl (zret (by rfl))
set_option maxRecDepth 100000 in
set_option maxHeartbeats 4000000 in
theorem kX6_removeCue_r (hV : cV t u a K X) {n : Int} (h1 : zR n) {hd : Prop} [dd : Decidable hd] (g1 : 0 ≤ xix X n) (g9 : ¬ (xrD X (xix X n) hd) = 0) : pz_Cd en 9 119 [.ref (t 0), .int (zI n), .int (zI (bI hd))] (sH (tH h t u K) a (sq a) X) 1 6 (pz_thr "java/lang/UnsupportedOperationException" (sH (tH h t u (zv K 0 (zu (K 0) 5 (xrD X (xix X n) hd)))) a (sq a) X)) := by
  refine pz_in pzt_X6_removeCue ?_
  obtain ⟨hj, ht, hD, hu0, hI, hK, ⟨f0, f1⟩, ⟨r0, r1⟩, ⟨q0, q1⟩, hA⟩ := id hV
  have hX := hI.1
  obtain ⟨hR, hn0, hn1, hm0, hm1⟩ := id hX
  have hp := xix_R hX n
  have hr9 := xrf_R (X := X) (xix X n) (xhs X (xix X n) hd 12) (-(xic X (xix X n)))
  have hr9 : 0 ≤ xrD X (xix X n) hd ∧ xrD X (xix X n) hd ≤ 2 := hr9
  refine pr_aload_n dX6_removeCue_0 rfl ?_
  refine pr_getf dX6_removeCue_1 pzf_6_10 (gS_0 ht hD hu0) rfl ?_
  refine pr_getf dX6_removeCue_4 pzf_6_40 (sH_0 hj) rfl ?_
  refine pr_iload_n dX6_removeCue_7 rfl ?_
  refine zcv1i dX6_removeCue_8 pzm_6_79 pzt_X1_indexOf (sH_1 hj) (kX1_indexOf hj hX (by omega)) (by decide) (Nat.le_of_ble_eq_true rfl) (by decide) ?_
  refine pr_istore_n dX6_removeCue_11 (by decide) rfl ?_
  refine pr_iload_n dX6_removeCue_12 rfl ?_
  refine zr_if_ge (tgt := 26) dX6_removeCue_13 (by decide) (by omega) (fun c13 => ?_) (fun c13 => by exfalso; omega)
  refine pr_aload_n dX6_removeCue_26 rfl ?_
  refine pr_aload_n dX6_removeCue_27 rfl ?_
  refine pr_getf dX6_removeCue_28 pzf_6_10 (gS_0 ht hD hu0) rfl ?_
  refine pr_getf dX6_removeCue_31 pzf_6_40 (sH_0 hj) rfl ?_
  refine pr_iload_n dX6_removeCue_34 rfl ?_
  refine pr_iload_n dX6_removeCue_35 rfl ?_
  refine zcv2i dX6_removeCue_36 pzm_6_88 pzt_X1_refusalToDrop (sH_1 hj) (kX1_refusalToDrop hj hX g1 (by omega)) (by decide) (Nat.le_of_ble_eq_true rfl) (by decide) ?_
  have e9 : xrf X (xix X n) (xhs X (xix X n) hd 12) (-(xic X (xix X n))) = (xrD X (xix X n) hd) := rfl
  rw [e9]
  refine zcv1i dX6_removeCue_39 pzm_6_92 pzt_X6_keepIfRefused (gS_0 ht hD hu0) (kX6_keepIfRefused_1 hV (by omega) g9) (by decide) (Nat.le_of_ble_eq_true rfl) (by decide) ?_
  refine zr_if_eq (tgt := 55) dX6_removeCue_42 (by decide) (by decide) (fun c42 => by exfalso; omega) (fun c42 => ?_)
  exact pr_thr dX6_removeCue_45 dX6_removeCue_48 dX6_removeCue_49 dX6_removeCue_51 dX6_removeCue_54 pze_6_95 pzs_97 rfl (by decide) rfl ⟨rfl, rfl⟩
set_option maxRecDepth 100000 in
set_option maxHeartbeats 4000000 in
theorem kX6_removeCue_t (hV : cV t u a K X) {n : Int} (h1 : zR n) {hd : Prop} [dd : Decidable hd] (g1 : ¬ 0 ≤ xix X n) : pz_Cd en 9 119 [.ref (t 0), .int (zI n), .int (zI (bI hd))] (sH (tH h t u K) a (sq a) X) 1 6 (pz_thr "java/lang/IndexOutOfBoundsException" (sH (tH h t u K) a (sq a) X)) := by
  refine pz_in pzt_X6_removeCue ?_
  obtain ⟨hj, ht, hD, hu0, hI, hK, ⟨f0, f1⟩, ⟨r0, r1⟩, ⟨q0, q1⟩, hA⟩ := id hV
  have hX := hI.1
  obtain ⟨hR, hn0, hn1, hm0, hm1⟩ := id hX
  have hp := xix_R hX n
  refine pr_aload_n dX6_removeCue_0 rfl ?_
  refine pr_getf dX6_removeCue_1 pzf_6_10 (gS_0 ht hD hu0) rfl ?_
  refine pr_getf dX6_removeCue_4 pzf_6_40 (sH_0 hj) rfl ?_
  refine pr_iload_n dX6_removeCue_7 rfl ?_
  refine zcv1i dX6_removeCue_8 pzm_6_79 pzt_X1_indexOf (sH_1 hj) (kX1_indexOf hj hX (by omega)) (by decide) (Nat.le_of_ble_eq_true rfl) (by decide) ?_
  refine pr_istore_n dX6_removeCue_11 (by decide) rfl ?_
  refine pr_iload_n dX6_removeCue_12 rfl ?_
  refine zr_if_ge (tgt := 26) dX6_removeCue_13 (by decide) (by omega) (fun c13 => by exfalso; omega) (fun c13 => ?_)
  exact pr_thr dX6_removeCue_16 dX6_removeCue_19 dX6_removeCue_20 dX6_removeCue_22 dX6_removeCue_25 pze_6_83 pzs_85 rfl (by decide) rfl ⟨rfl, rfl⟩
set_option maxRecDepth 100000 in
set_option maxHeartbeats 4000000 in
theorem kX6_setFollow_k (hV : cV t u a K X) {n q : Int} (h1 : zR n) (h2 : zR q) (g1 : 0 ≤ xix X n) (g2 : q = -1 ∨ (1 ≤ q ∧ q ≤ 6000)) (hb : bO h t a b Y) (hub : u (2 + K 1 1) = b 0) : pz_Cd en 9 123 [.ref (t 0), .int (zI n), .int (zI q)] (sH (tH h t u K) a (sq a) X) 0 0 (pz_ret (some (.int (zI (X (7 + 5 * xix X n) 1)))) (sH (tH (sH h b (sq b) (xcp Y X)) t u (kR K)) a (sq a) (zv X (7 + 5 * xix X n) (zu (X (7 + 5 * xix X n)) 1 q)))) := by
  refine pz_in pzt_X6_setFollow ?_
  obtain ⟨hj, ht, hD, hu0, hI, hK, ⟨f0, f1⟩, ⟨r0, r1⟩, ⟨q0, q1⟩, hA⟩ := id hV
  have hX := hI.1
  obtain ⟨hR, hn0, hn1, hm0, hm1⟩ := id hX
  have hp := xix_R hX n
  refine pr_aload_n dX6_setFollow_0 rfl ?_
  refine pr_getf dX6_setFollow_1 pzf_6_10 (gS_0 ht hD hu0) rfl ?_
  refine pr_getf dX6_setFollow_4 pzf_6_40 (sH_0 hj) rfl ?_
  refine pr_iload_n dX6_setFollow_7 rfl ?_
  refine zcv1i dX6_setFollow_8 pzm_6_79 pzt_X1_indexOf (sH_1 hj) (kX1_indexOf hj hX (by omega)) (by decide) (Nat.le_of_ble_eq_true rfl) (by decide) ?_
  refine pr_istore_n dX6_setFollow_11 (by decide) rfl ?_
  refine pr_iload_n dX6_setFollow_12 rfl ?_
  refine zr_if_ge (tgt := 26) dX6_setFollow_13 (by decide) (by omega) (fun c13 => ?_) (fun c13 => by exfalso; omega)
  refine pr_iload_n dX6_setFollow_26 rfl ?_
  refine zr_iconst dX6_setFollow_27 ?_
  refine zr_icmp_eq (tgt := 52) dX6_setFollow_28 (by decide) (by omega) (by omega) (fun c28 => ?_) (fun c28 => ?_)
  · refine pr_aload_n dX6_setFollow_52 rfl ?_
    refine pr_getf dX6_setFollow_53 pzf_6_22 (gS_0 ht hD hu0) rfl ?_
    refine pr_aload_n dX6_setFollow_56 rfl ?_
    refine pr_getf dX6_setFollow_57 pzf_6_10 (gS_0 ht hD hu0) rfl ?_
    refine zcv1u dX6_setFollow_60 pzm_6_71 pzt_X2_remember (gH_1 ht hD) (kX2_remember hj ht hD hI hb hub f0 f1 r0 r1) (by decide) (Nat.le_of_ble_eq_true rfl) (by decide) ?_
    refine pr_aload_n dX6_setFollow_63 rfl ?_
    refine pr_getf dX6_setFollow_64 pzf_6_10 (gS_0 ht hD hu0) rfl ?_
    refine pr_getf dX6_setFollow_67 pzf_6_40 (sH_0 hj) rfl ?_
    refine pr_getf dX6_setFollow_70 pzf_6_108 (sH_1 hj) rfl ?_
    refine pr_iload_n dX6_setFollow_73 rfl ?_
    refine zr_crow hj dX6_setFollow_74 (by omega) (by omega) ?_
    refine pr_astore dX6_setFollow_75 (by decide) rfl ?_
    refine pr_aload dX6_setFollow_77 rfl ?_
    refine pr_getf dX6_setFollow_79 pzf_6_123 (sH_C hj (by omega) (by omega)) rfl ?_
    refine pr_istore dX6_setFollow_82 (by decide) rfl ?_
    refine pr_aload dX6_setFollow_84 rfl ?_
    refine pr_iload_n dX6_setFollow_86 rfl ?_
    refine pr_putf dX6_setFollow_87 pzf_6_123 (Or.inl rfl) (sH_C hj (by omega) (by omega)) (Nat.le_of_ble_eq_true rfl) rfl rfl (sH_pC_1 hj (by omega) (by omega)) ?_
    refine pr_iload dX6_setFollow_90 rfl ?_
    exact pr_iret dX6_setFollow_92 rfl rfl (zret (by rfl))
  · refine pr_iload_n dX6_setFollow_31 rfl ?_
    refine zr_iconst dX6_setFollow_32 ?_
    refine zr_sipush dX6_setFollow_33 (by decide) ?_
    refine zcs3i dX6_setFollow_36 pzm_6_117 pzt_X6_isWithin (kX6_isWithin (by omega) (by omega) (by omega)) (by decide) (Nat.le_of_ble_eq_true rfl) ?_
    refine zr_if_ne (tgt := 52) dX6_setFollow_39 (by decide) (bI_R _) (fun c39 => ?_) (fun c39 => by exfalso; have bb := bI_0 c39; omega)
    have b39 := bI_ne c39
    refine pr_aload_n dX6_setFollow_52 rfl ?_
    refine pr_getf dX6_setFollow_53 pzf_6_22 (gS_0 ht hD hu0) rfl ?_
    refine pr_aload_n dX6_setFollow_56 rfl ?_
    refine pr_getf dX6_setFollow_57 pzf_6_10 (gS_0 ht hD hu0) rfl ?_
    refine zcv1u dX6_setFollow_60 pzm_6_71 pzt_X2_remember (gH_1 ht hD) (kX2_remember hj ht hD hI hb hub f0 f1 r0 r1) (by decide) (Nat.le_of_ble_eq_true rfl) (by decide) ?_
    refine pr_aload_n dX6_setFollow_63 rfl ?_
    refine pr_getf dX6_setFollow_64 pzf_6_10 (gS_0 ht hD hu0) rfl ?_
    refine pr_getf dX6_setFollow_67 pzf_6_40 (sH_0 hj) rfl ?_
    refine pr_getf dX6_setFollow_70 pzf_6_108 (sH_1 hj) rfl ?_
    refine pr_iload_n dX6_setFollow_73 rfl ?_
    refine zr_crow hj dX6_setFollow_74 (by omega) (by omega) ?_
    refine pr_astore dX6_setFollow_75 (by decide) rfl ?_
    refine pr_aload dX6_setFollow_77 rfl ?_
    refine pr_getf dX6_setFollow_79 pzf_6_123 (sH_C hj (by omega) (by omega)) rfl ?_
    refine pr_istore dX6_setFollow_82 (by decide) rfl ?_
    refine pr_aload dX6_setFollow_84 rfl ?_
    refine pr_iload_n dX6_setFollow_86 rfl ?_
    refine pr_putf dX6_setFollow_87 pzf_6_123 (Or.inl rfl) (sH_C hj (by omega) (by omega)) (Nat.le_of_ble_eq_true rfl) rfl rfl (sH_pC_1 hj (by omega) (by omega)) ?_
    refine pr_iload dX6_setFollow_90 rfl ?_
    exact pr_iret dX6_setFollow_92 rfl rfl (zret (by rfl))
set_option maxRecDepth 100000 in
set_option maxHeartbeats 4000000 in
theorem kX6_setFollow_t1 (hV : cV t u a K X) {n q : Int} (h1 : zR n) (h2 : zR q) (g1 : ¬ 0 ≤ xix X n) : pz_Cd en 9 123 [.ref (t 0), .int (zI n), .int (zI q)] (sH (tH h t u K) a (sq a) X) 1 6 (pz_thr "java/lang/IndexOutOfBoundsException" (sH (tH h t u K) a (sq a) X)) := by
  refine pz_in pzt_X6_setFollow ?_
  obtain ⟨hj, ht, hD, hu0, hI, hK, ⟨f0, f1⟩, ⟨r0, r1⟩, ⟨q0, q1⟩, hA⟩ := id hV
  have hX := hI.1
  obtain ⟨hR, hn0, hn1, hm0, hm1⟩ := id hX
  have hp := xix_R hX n
  refine pr_aload_n dX6_setFollow_0 rfl ?_
  refine pr_getf dX6_setFollow_1 pzf_6_10 (gS_0 ht hD hu0) rfl ?_
  refine pr_getf dX6_setFollow_4 pzf_6_40 (sH_0 hj) rfl ?_
  refine pr_iload_n dX6_setFollow_7 rfl ?_
  refine zcv1i dX6_setFollow_8 pzm_6_79 pzt_X1_indexOf (sH_1 hj) (kX1_indexOf hj hX (by omega)) (by decide) (Nat.le_of_ble_eq_true rfl) (by decide) ?_
  refine pr_istore_n dX6_setFollow_11 (by decide) rfl ?_
  refine pr_iload_n dX6_setFollow_12 rfl ?_
  refine zr_if_ge (tgt := 26) dX6_setFollow_13 (by decide) (by omega) (fun c13 => by exfalso; omega) (fun c13 => ?_)
  exact pr_thr dX6_setFollow_16 dX6_setFollow_19 dX6_setFollow_20 dX6_setFollow_22 dX6_setFollow_25 pze_6_83 pzs_85 rfl (by decide) rfl ⟨rfl, rfl⟩
set_option maxRecDepth 100000 in
set_option maxHeartbeats 4000000 in
theorem kX6_setFollow_t2 (hV : cV t u a K X) {n q : Int} (h1 : zR n) (h2 : zR q) (g1 : 0 ≤ xix X n) (g2 : ¬ (q = -1 ∨ (1 ≤ q ∧ q ≤ 6000))) : pz_Cd en 9 123 [.ref (t 0), .int (zI n), .int (zI q)] (sH (tH h t u K) a (sq a) X) 1 6 (pz_thr "java/lang/IllegalArgumentException" (sH (tH h t u K) a (sq a) X)) := by
  refine pz_in pzt_X6_setFollow ?_
  obtain ⟨hj, ht, hD, hu0, hI, hK, ⟨f0, f1⟩, ⟨r0, r1⟩, ⟨q0, q1⟩, hA⟩ := id hV
  have hX := hI.1
  obtain ⟨hR, hn0, hn1, hm0, hm1⟩ := id hX
  have hp := xix_R hX n
  refine pr_aload_n dX6_setFollow_0 rfl ?_
  refine pr_getf dX6_setFollow_1 pzf_6_10 (gS_0 ht hD hu0) rfl ?_
  refine pr_getf dX6_setFollow_4 pzf_6_40 (sH_0 hj) rfl ?_
  refine pr_iload_n dX6_setFollow_7 rfl ?_
  refine zcv1i dX6_setFollow_8 pzm_6_79 pzt_X1_indexOf (sH_1 hj) (kX1_indexOf hj hX (by omega)) (by decide) (Nat.le_of_ble_eq_true rfl) (by decide) ?_
  refine pr_istore_n dX6_setFollow_11 (by decide) rfl ?_
  refine pr_iload_n dX6_setFollow_12 rfl ?_
  refine zr_if_ge (tgt := 26) dX6_setFollow_13 (by decide) (by omega) (fun c13 => ?_) (fun c13 => by exfalso; omega)
  refine pr_iload_n dX6_setFollow_26 rfl ?_
  refine zr_iconst dX6_setFollow_27 ?_
  refine zr_icmp_eq (tgt := 52) dX6_setFollow_28 (by decide) (by omega) (by omega) (fun c28 => by exfalso; omega) (fun c28 => ?_)
  refine pr_iload_n dX6_setFollow_31 rfl ?_
  refine zr_iconst dX6_setFollow_32 ?_
  refine zr_sipush dX6_setFollow_33 (by decide) ?_
  refine zcs3i dX6_setFollow_36 pzm_6_117 pzt_X6_isWithin (kX6_isWithin (by omega) (by omega) (by omega)) (by decide) (Nat.le_of_ble_eq_true rfl) ?_
  refine zr_if_ne (tgt := 52) dX6_setFollow_39 (by decide) (bI_R _) (fun c39 => by exfalso; have bb := bI_ne c39; omega) (fun c39 => ?_)
  have b39 := bI_0 c39
  exact pr_thr dX6_setFollow_42 dX6_setFollow_45 dX6_setFollow_46 dX6_setFollow_48 dX6_setFollow_51 pze_6_59 pzs_121 rfl (by decide) rfl ⟨rfl, rfl⟩
set_option maxRecDepth 100000 in
set_option maxHeartbeats 4000000 in
theorem kX6_setBlock_0 (hV : cV t u a K X) {n : Int} (h1 : zR n) {v : Prop} [dv : Decidable v] (g1 : 0 ≤ xix X n) (g2 : X (7 + 5 * xix X n) 2 = bI v) (hb : bO h t a b Y) (hub : u (2 + K 1 1) = b 0) : pz_Cd en 9 124 [.ref (t 0), .int (zI n), .int (zI (bI v))] (sH (tH h t u K) a (sq a) X) 0 0 (pz_ret (some (.int (zI 0))) (sH (tH (sH h b (sq b) (xcp Y X)) t u (kR K)) a (sq a) X)) := by
  refine pz_in pzt_X6_setBlock ?_
  obtain ⟨hj, ht, hD, hu0, hI, hK, ⟨f0, f1⟩, ⟨r0, r1⟩, ⟨q0, q1⟩, hA⟩ := id hV
  have hX := hI.1
  obtain ⟨hR, hn0, hn1, hm0, hm1⟩ := id hX
  have hp := xix_R hX n
  refine pr_aload_n dX6_setBlock_0 rfl ?_
  refine pr_getf dX6_setBlock_1 pzf_6_10 (gS_0 ht hD hu0) rfl ?_
  refine pr_getf dX6_setBlock_4 pzf_6_40 (sH_0 hj) rfl ?_
  refine pr_iload_n dX6_setBlock_7 rfl ?_
  refine zcv1i dX6_setBlock_8 pzm_6_79 pzt_X1_indexOf (sH_1 hj) (kX1_indexOf hj hX (by omega)) (by decide) (Nat.le_of_ble_eq_true rfl) (by decide) ?_
  refine pr_istore_n dX6_setBlock_11 (by decide) rfl ?_
  refine pr_iload_n dX6_setBlock_12 rfl ?_
  refine zr_if_ge (tgt := 26) dX6_setBlock_13 (by decide) (by omega) (fun c13 => ?_) (fun c13 => by exfalso; omega)
  refine pr_aload_n dX6_setBlock_26 rfl ?_
  refine pr_getf dX6_setBlock_27 pzf_6_22 (gS_0 ht hD hu0) rfl ?_
  refine pr_aload_n dX6_setBlock_30 rfl ?_
  refine pr_getf dX6_setBlock_31 pzf_6_10 (gS_0 ht hD hu0) rfl ?_
  refine zcv1u dX6_setBlock_34 pzm_6_71 pzt_X2_remember (gH_1 ht hD) (kX2_remember hj ht hD hI hb hub f0 f1 r0 r1) (by decide) (Nat.le_of_ble_eq_true rfl) (by decide) ?_
  refine pr_aload_n dX6_setBlock_37 rfl ?_
  refine pr_getf dX6_setBlock_38 pzf_6_10 (gS_0 ht hD hu0) rfl ?_
  refine pr_getf dX6_setBlock_41 pzf_6_40 (sH_0 hj) rfl ?_
  refine pr_iload_n dX6_setBlock_44 rfl ?_
  refine pr_iload_n dX6_setBlock_45 rfl ?_
  refine zcv2i dX6_setBlock_46 pzm_6_126 pzt_X1_makeBlock (sH_1 hj) (kX1_makeBlock_0 hj hX g1 (by omega) g2) (by decide) (Nat.le_of_ble_eq_true rfl) (by decide) ?_
  exact pr_iret dX6_setBlock_49 rfl rfl (zret (by rfl))
set_option maxRecDepth 100000 in
set_option maxHeartbeats 4000000 in
theorem kX6_setBlock_1 (hV : cV t u a K X) {n : Int} (h1 : zR n) {v : Prop} [dv : Decidable v] (g1 : 0 ≤ xix X n) (g2 : ¬ X (7 + 5 * xix X n) 2 = bI v) (hb : bO h t a b Y) (hub : u (2 + K 1 1) = b 0) : pz_Cd en 9 124 [.ref (t 0), .int (zI n), .int (zI (bI v))] (sH (tH h t u K) a (sq a) X) 0 0 (pz_ret (some (.int (zI (zsum (xmbF X (xix X n)) 12)))) (sH (tH (sH h b (sq b) (xcp Y X)) t u (kR K)) a (sq a) (xmb X (xix X n) (bI v)))) := by
  refine pz_in pzt_X6_setBlock ?_
  obtain ⟨hj, ht, hD, hu0, hI, hK, ⟨f0, f1⟩, ⟨r0, r1⟩, ⟨q0, q1⟩, hA⟩ := id hV
  have hX := hI.1
  obtain ⟨hR, hn0, hn1, hm0, hm1⟩ := id hX
  have hp := xix_R hX n
  refine pr_aload_n dX6_setBlock_0 rfl ?_
  refine pr_getf dX6_setBlock_1 pzf_6_10 (gS_0 ht hD hu0) rfl ?_
  refine pr_getf dX6_setBlock_4 pzf_6_40 (sH_0 hj) rfl ?_
  refine pr_iload_n dX6_setBlock_7 rfl ?_
  refine zcv1i dX6_setBlock_8 pzm_6_79 pzt_X1_indexOf (sH_1 hj) (kX1_indexOf hj hX (by omega)) (by decide) (Nat.le_of_ble_eq_true rfl) (by decide) ?_
  refine pr_istore_n dX6_setBlock_11 (by decide) rfl ?_
  refine pr_iload_n dX6_setBlock_12 rfl ?_
  refine zr_if_ge (tgt := 26) dX6_setBlock_13 (by decide) (by omega) (fun c13 => ?_) (fun c13 => by exfalso; omega)
  refine pr_aload_n dX6_setBlock_26 rfl ?_
  refine pr_getf dX6_setBlock_27 pzf_6_22 (gS_0 ht hD hu0) rfl ?_
  refine pr_aload_n dX6_setBlock_30 rfl ?_
  refine pr_getf dX6_setBlock_31 pzf_6_10 (gS_0 ht hD hu0) rfl ?_
  refine zcv1u dX6_setBlock_34 pzm_6_71 pzt_X2_remember (gH_1 ht hD) (kX2_remember hj ht hD hI hb hub f0 f1 r0 r1) (by decide) (Nat.le_of_ble_eq_true rfl) (by decide) ?_
  refine pr_aload_n dX6_setBlock_37 rfl ?_
  refine pr_getf dX6_setBlock_38 pzf_6_10 (gS_0 ht hD hu0) rfl ?_
  refine pr_getf dX6_setBlock_41 pzf_6_40 (sH_0 hj) rfl ?_
  refine pr_iload_n dX6_setBlock_44 rfl ?_
  refine pr_iload_n dX6_setBlock_45 rfl ?_
  refine zcv2i dX6_setBlock_46 pzm_6_126 pzt_X1_makeBlock (sH_1 hj) (kX1_makeBlock_1 hj hX g1 (by omega) g2) (by decide) (Nat.le_of_ble_eq_true rfl) (by decide) ?_
  exact pr_iret dX6_setBlock_49 rfl rfl (zret (by rfl))
set_option maxRecDepth 100000 in
set_option maxHeartbeats 4000000 in
theorem kX6_setProtected_k (hV : cV t u a K X) {n : Int} (h1 : zR n) {v : Prop} [dv : Decidable v] (g1 : 0 ≤ xix X n) (hb : bO h t a b Y) (hub : u (2 + K 1 1) = b 0) : pz_Cd en 9 125 [.ref (t 0), .int (zI n), .int (zI (bI v))] (sH (tH h t u K) a (sq a) X) 0 0 (pz_ret (some (.int (zI (X (7 + 5 * xix X n) 3)))) (sH (tH (sH h b (sq b) (xcp Y X)) t u (kR K)) a (sq a) (zv X (7 + 5 * xix X n) (zu (X (7 + 5 * xix X n)) 3 (bI v))))) := by
  refine pz_in pzt_X6_setProtected ?_
  obtain ⟨hj, ht, hD, hu0, hI, hK, ⟨f0, f1⟩, ⟨r0, r1⟩, ⟨q0, q1⟩, hA⟩ := id hV
  have hX := hI.1
  obtain ⟨hR, hn0, hn1, hm0, hm1⟩ := id hX
  have hp := xix_R hX n
  refine pr_aload_n dX6_setProtected_0 rfl ?_
  refine pr_getf dX6_setProtected_1 pzf_6_10 (gS_0 ht hD hu0) rfl ?_
  refine pr_getf dX6_setProtected_4 pzf_6_40 (sH_0 hj) rfl ?_
  refine pr_iload_n dX6_setProtected_7 rfl ?_
  refine zcv1i dX6_setProtected_8 pzm_6_79 pzt_X1_indexOf (sH_1 hj) (kX1_indexOf hj hX (by omega)) (by decide) (Nat.le_of_ble_eq_true rfl) (by decide) ?_
  refine pr_istore_n dX6_setProtected_11 (by decide) rfl ?_
  refine pr_iload_n dX6_setProtected_12 rfl ?_
  refine zr_if_ge (tgt := 26) dX6_setProtected_13 (by decide) (by omega) (fun c13 => ?_) (fun c13 => by exfalso; omega)
  refine pr_aload_n dX6_setProtected_26 rfl ?_
  refine pr_getf dX6_setProtected_27 pzf_6_22 (gS_0 ht hD hu0) rfl ?_
  refine pr_aload_n dX6_setProtected_30 rfl ?_
  refine pr_getf dX6_setProtected_31 pzf_6_10 (gS_0 ht hD hu0) rfl ?_
  refine zcv1u dX6_setProtected_34 pzm_6_71 pzt_X2_remember (gH_1 ht hD) (kX2_remember hj ht hD hI hb hub f0 f1 r0 r1) (by decide) (Nat.le_of_ble_eq_true rfl) (by decide) ?_
  refine pr_aload_n dX6_setProtected_37 rfl ?_
  refine pr_getf dX6_setProtected_38 pzf_6_10 (gS_0 ht hD hu0) rfl ?_
  refine pr_getf dX6_setProtected_41 pzf_6_40 (sH_0 hj) rfl ?_
  refine pr_getf dX6_setProtected_44 pzf_6_108 (sH_1 hj) rfl ?_
  refine pr_iload_n dX6_setProtected_47 rfl ?_
  refine zr_crow hj dX6_setProtected_48 (by omega) (by omega) ?_
  refine pr_astore dX6_setProtected_49 (by decide) rfl ?_
  refine pr_aload dX6_setProtected_51 rfl ?_
  refine pr_getf dX6_setProtected_53 pzf_6_129 (sH_C hj (by omega) (by omega)) rfl ?_
  refine pr_istore dX6_setProtected_56 (by decide) rfl ?_
  refine pr_aload dX6_setProtected_58 rfl ?_
  refine pr_iload_n dX6_setProtected_60 rfl ?_
  refine pr_putf dX6_setProtected_61 pzf_6_129 (Or.inl rfl) (sH_C hj (by omega) (by omega)) (Nat.le_of_ble_eq_true rfl) (nar_bI _) (by unfold bI; split <;> rfl) (sH_pC_3 hj (by omega) (by omega)) ?_
  refine pr_iload dX6_setProtected_64 rfl ?_
  exact pr_iret dX6_setProtected_66 rfl (nar01 (hI.2.1 _ g1 (by omega)).2.2.2) (zret (by rfl))
set_option maxRecDepth 100000 in
set_option maxHeartbeats 4000000 in
theorem kX6_setBlock_t (hV : cV t u a K X) {n : Int} (h1 : zR n) {v : Prop} [dv : Decidable v] (g1 : ¬ 0 ≤ xix X n) : pz_Cd en 9 124 [.ref (t 0), .int (zI n), .int (zI (bI v))] (sH (tH h t u K) a (sq a) X) 1 6 (pz_thr "java/lang/IndexOutOfBoundsException" (sH (tH h t u K) a (sq a) X)) := by
  refine pz_in pzt_X6_setBlock ?_
  obtain ⟨hj, ht, hD, hu0, hI, hK, ⟨f0, f1⟩, ⟨r0, r1⟩, ⟨q0, q1⟩, hA⟩ := id hV
  have hX := hI.1
  obtain ⟨hR, hn0, hn1, hm0, hm1⟩ := id hX
  have hp := xix_R hX n
  refine pr_aload_n dX6_setBlock_0 rfl ?_
  refine pr_getf dX6_setBlock_1 pzf_6_10 (gS_0 ht hD hu0) rfl ?_
  refine pr_getf dX6_setBlock_4 pzf_6_40 (sH_0 hj) rfl ?_
  refine pr_iload_n dX6_setBlock_7 rfl ?_
  refine zcv1i dX6_setBlock_8 pzm_6_79 pzt_X1_indexOf (sH_1 hj) (kX1_indexOf hj hX (by omega)) (by decide) (Nat.le_of_ble_eq_true rfl) (by decide) ?_
  refine pr_istore_n dX6_setBlock_11 (by decide) rfl ?_
  refine pr_iload_n dX6_setBlock_12 rfl ?_
  refine zr_if_ge (tgt := 26) dX6_setBlock_13 (by decide) (by omega) (fun c13 => by exfalso; omega) (fun c13 => ?_)
  exact pr_thr dX6_setBlock_16 dX6_setBlock_19 dX6_setBlock_20 dX6_setBlock_22 dX6_setBlock_25 pze_6_83 pzs_85 rfl (by decide) rfl ⟨rfl, rfl⟩
set_option maxRecDepth 100000 in
set_option maxHeartbeats 4000000 in
theorem kX6_setProtected_t (hV : cV t u a K X) {n : Int} (h1 : zR n) {v : Prop} [dv : Decidable v] (g1 : ¬ 0 ≤ xix X n) : pz_Cd en 9 125 [.ref (t 0), .int (zI n), .int (zI (bI v))] (sH (tH h t u K) a (sq a) X) 1 6 (pz_thr "java/lang/IndexOutOfBoundsException" (sH (tH h t u K) a (sq a) X)) := by
  refine pz_in pzt_X6_setProtected ?_
  obtain ⟨hj, ht, hD, hu0, hI, hK, ⟨f0, f1⟩, ⟨r0, r1⟩, ⟨q0, q1⟩, hA⟩ := id hV
  have hX := hI.1
  obtain ⟨hR, hn0, hn1, hm0, hm1⟩ := id hX
  have hp := xix_R hX n
  refine pr_aload_n dX6_setProtected_0 rfl ?_
  refine pr_getf dX6_setProtected_1 pzf_6_10 (gS_0 ht hD hu0) rfl ?_
  refine pr_getf dX6_setProtected_4 pzf_6_40 (sH_0 hj) rfl ?_
  refine pr_iload_n dX6_setProtected_7 rfl ?_
  refine zcv1i dX6_setProtected_8 pzm_6_79 pzt_X1_indexOf (sH_1 hj) (kX1_indexOf hj hX (by omega)) (by decide) (Nat.le_of_ble_eq_true rfl) (by decide) ?_
  refine pr_istore_n dX6_setProtected_11 (by decide) rfl ?_
  refine pr_iload_n dX6_setProtected_12 rfl ?_
  refine zr_if_ge (tgt := 26) dX6_setProtected_13 (by decide) (by omega) (fun c13 => by exfalso; omega) (fun c13 => ?_)
  exact pr_thr dX6_setProtected_16 dX6_setProtected_19 dX6_setProtected_20 dX6_setProtected_22 dX6_setProtected_25 pze_6_83 pzs_85 rfl (by decide) rfl ⟨rfl, rfl⟩
set_option maxRecDepth 100000 in
set_option maxHeartbeats 4000000 in
theorem kX6_setPart_k (hV : cV t u a K X) {n c q : Int} (h1 : zR n) (h2 : zR c) (h3 : zR q) {dl : Prop} [dd : Decidable dl] (g1 : 0 ≤ xix X n) (g2 : 0 ≤ c ∧ c ≤ 3) (g3 : 0 ≤ q ∧ q ≤ 600) (hb : bO h t a b Y) (hub : u (2 + K 1 1) = b 0) : pz_Cd en 9 126 [.ref (t 0), .int (zI n), .int (zI c), .int (zI (bI dl)), .int (zI q)] (sH (tH h t u K) a (sq a) X) 0 0 (pz_ret (some (.int (zI (X (7 + 5 * xix X n + (if dl then 1 else 2)) c)))) (sH (tH (sH h b (sq b) (xcp Y X)) t u (kR K)) a (sq a) (zv X (7 + 5 * xix X n + (if dl then 1 else 2)) (zu (X (7 + 5 * xix X n + (if dl then 1 else 2))) c q)))) := by
  refine pz_in pzt_X6_setPart ?_
  obtain ⟨hj, ht, hD, hu0, hI, hK, ⟨f0, f1⟩, ⟨r0, r1⟩, ⟨q0, q1⟩, hA⟩ := id hV
  have hX := hI.1
  obtain ⟨hR, hn0, hn1, hm0, hm1⟩ := id hX
  have hp := xix_R hX n
  refine pr_aload_n dX6_setPart_0 rfl ?_
  refine pr_getf dX6_setPart_1 pzf_6_10 (gS_0 ht hD hu0) rfl ?_
  refine pr_getf dX6_setPart_4 pzf_6_40 (sH_0 hj) rfl ?_
  refine pr_iload_n dX6_setPart_7 rfl ?_
  refine zcv1i dX6_setPart_8 pzm_6_79 pzt_X1_indexOf (sH_1 hj) (kX1_indexOf hj hX (by omega)) (by decide) (Nat.le_of_ble_eq_true rfl) (by decide) ?_
  refine pr_istore dX6_setPart_11 (by decide) rfl ?_
  refine pr_iload dX6_setPart_13 rfl ?_
  refine zr_if_lt (tgt := 25) dX6_setPart_15 (by decide) (by omega) (fun c15 => by exfalso; omega) (fun c15 => ?_)
  refine pr_iload_n dX6_setPart_18 rfl ?_
  refine zcs1i dX6_setPart_19 pzm_6_133 pzt_X6_isPart (kX6_isPart (by omega)) (by decide) (Nat.le_of_ble_eq_true rfl) ?_
  refine zr_if_ne (tgt := 35) dX6_setPart_22 (by decide) (bI_R _) (fun c22 => ?_) (fun c22 => by exfalso; have bb := bI_0 c22; omega)
  have b22 := bI_ne c22
  refine pr_iload dX6_setPart_35 rfl ?_
  refine zr_iconst dX6_setPart_37 ?_
  refine zr_sipush dX6_setPart_38 (by decide) ?_
  refine zcs3i dX6_setPart_41 pzm_6_117 pzt_X6_isWithin (kX6_isWithin (by omega) (by omega) (by omega)) (by decide) (Nat.le_of_ble_eq_true rfl) ?_
  refine zr_if_ne (tgt := 57) dX6_setPart_44 (by decide) (bI_R _) (fun c44 => ?_) (fun c44 => by exfalso; have bb := bI_0 c44; omega)
  have b44 := bI_ne c44
  refine pr_aload_n dX6_setPart_57 rfl ?_
  refine pr_getf dX6_setPart_58 pzf_6_22 (gS_0 ht hD hu0) rfl ?_
  refine pr_aload_n dX6_setPart_61 rfl ?_
  refine pr_getf dX6_setPart_62 pzf_6_10 (gS_0 ht hD hu0) rfl ?_
  refine zcv1u dX6_setPart_65 pzm_6_71 pzt_X2_remember (gH_1 ht hD) (kX2_remember hj ht hD hI hb hub f0 f1 r0 r1) (by decide) (Nat.le_of_ble_eq_true rfl) (by decide) ?_
  refine pr_aload_n dX6_setPart_68 rfl ?_
  refine pr_getf dX6_setPart_69 pzf_6_10 (gS_0 ht hD hu0) rfl ?_
  refine pr_getf dX6_setPart_72 pzf_6_40 (sH_0 hj) rfl ?_
  refine pr_getf dX6_setPart_75 pzf_6_108 (sH_1 hj) rfl ?_
  refine pr_iload dX6_setPart_78 rfl ?_
  refine zr_crow hj dX6_setPart_80 (by omega) (by omega) ?_
  refine pr_iload_n dX6_setPart_81 rfl ?_
  refine zcv1a dX6_setPart_82 pzm_6_140 pzt_X0_partRow (sH_C hj (by omega) (by omega)) (kX0_partRow hj hX g1 (by omega)) (by decide) (Nat.le_of_ble_eq_true rfl) (by decide) ?_
  refine pr_astore dX6_setPart_85 (by decide) rfl ?_
  refine pr_aload dX6_setPart_87 rfl ?_
  refine pr_iload_n dX6_setPart_89 rfl ?_
  refine zr_iald dX6_setPart_90 (sH_Cp hj g1 (by omega)) (by omega) (by decide) ?_
  refine pr_istore dX6_setPart_91 (by decide) rfl ?_
  refine pr_aload dX6_setPart_93 rfl ?_
  refine pr_iload_n dX6_setPart_95 rfl ?_
  refine pr_iload dX6_setPart_96 rfl ?_
  refine zr_iast dX6_setPart_98 (sH_Cp hj g1 (by omega)) (by omega) (by decide) (sH_uCp hj g1 (by omega)) ?_
  refine pr_iload dX6_setPart_99 rfl ?_
  exact pr_iret dX6_setPart_101 rfl rfl (zret (by rfl))
set_option maxRecDepth 100000 in
set_option maxHeartbeats 4000000 in
theorem kX6_setPart_t1 (hV : cV t u a K X) {n c q : Int} (h1 : zR n) (h2 : zR c) (h3 : zR q) {dl : Prop} [dd : Decidable dl] (g1 : ¬ (0 ≤ xix X n ∧ 0 ≤ c ∧ c ≤ 3)) : pz_Cd en 9 126 [.ref (t 0), .int (zI n), .int (zI c), .int (zI (bI dl)), .int (zI q)] (sH (tH h t u K) a (sq a) X) 1 6 (pz_thr "java/lang/IndexOutOfBoundsException" (sH (tH h t u K) a (sq a) X)) := by
  refine pz_in pzt_X6_setPart ?_
  obtain ⟨hj, ht, hD, hu0, hI, hK, ⟨f0, f1⟩, ⟨r0, r1⟩, ⟨q0, q1⟩, hA⟩ := id hV
  have hX := hI.1
  obtain ⟨hR, hn0, hn1, hm0, hm1⟩ := id hX
  have hp := xix_R hX n
  refine pr_aload_n dX6_setPart_0 rfl ?_
  refine pr_getf dX6_setPart_1 pzf_6_10 (gS_0 ht hD hu0) rfl ?_
  refine pr_getf dX6_setPart_4 pzf_6_40 (sH_0 hj) rfl ?_
  refine pr_iload_n dX6_setPart_7 rfl ?_
  refine zcv1i dX6_setPart_8 pzm_6_79 pzt_X1_indexOf (sH_1 hj) (kX1_indexOf hj hX (by omega)) (by decide) (Nat.le_of_ble_eq_true rfl) (by decide) ?_
  refine pr_istore dX6_setPart_11 (by decide) rfl ?_
  refine pr_iload dX6_setPart_13 rfl ?_
  refine zr_if_lt (tgt := 25) dX6_setPart_15 (by decide) (by omega) (fun c15 => ?_) (fun c15 => ?_)
  · exact pr_thr dX6_setPart_25 dX6_setPart_28 dX6_setPart_29 dX6_setPart_31 dX6_setPart_34 pze_6_83 pzs_136 rfl (by decide) rfl ⟨rfl, rfl⟩
  · refine pr_iload_n dX6_setPart_18 rfl ?_
    refine zcs1i dX6_setPart_19 pzm_6_133 pzt_X6_isPart (kX6_isPart (by omega)) (by decide) (Nat.le_of_ble_eq_true rfl) ?_
    refine zr_if_ne (tgt := 35) dX6_setPart_22 (by decide) (bI_R _) (fun c22 => by exfalso; have bb := bI_ne c22; omega) (fun c22 => ?_)
    have b22 := bI_0 c22
    exact pr_thr dX6_setPart_25 dX6_setPart_28 dX6_setPart_29 dX6_setPart_31 dX6_setPart_34 pze_6_83 pzs_136 rfl (by decide) rfl ⟨rfl, rfl⟩
set_option maxRecDepth 100000 in
set_option maxHeartbeats 4000000 in
theorem kX6_setPart_t2 (hV : cV t u a K X) {n c q : Int} (h1 : zR n) (h2 : zR c) (h3 : zR q) {dl : Prop} [dd : Decidable dl] (g1 : 0 ≤ xix X n) (g2 : 0 ≤ c ∧ c ≤ 3) (g3 : ¬ (0 ≤ q ∧ q ≤ 600)) : pz_Cd en 9 126 [.ref (t 0), .int (zI n), .int (zI c), .int (zI (bI dl)), .int (zI q)] (sH (tH h t u K) a (sq a) X) 1 6 (pz_thr "java/lang/IllegalArgumentException" (sH (tH h t u K) a (sq a) X)) := by
  refine pz_in pzt_X6_setPart ?_
  obtain ⟨hj, ht, hD, hu0, hI, hK, ⟨f0, f1⟩, ⟨r0, r1⟩, ⟨q0, q1⟩, hA⟩ := id hV
  have hX := hI.1
  obtain ⟨hR, hn0, hn1, hm0, hm1⟩ := id hX
  have hp := xix_R hX n
  refine pr_aload_n dX6_setPart_0 rfl ?_
  refine pr_getf dX6_setPart_1 pzf_6_10 (gS_0 ht hD hu0) rfl ?_
  refine pr_getf dX6_setPart_4 pzf_6_40 (sH_0 hj) rfl ?_
  refine pr_iload_n dX6_setPart_7 rfl ?_
  refine zcv1i dX6_setPart_8 pzm_6_79 pzt_X1_indexOf (sH_1 hj) (kX1_indexOf hj hX (by omega)) (by decide) (Nat.le_of_ble_eq_true rfl) (by decide) ?_
  refine pr_istore dX6_setPart_11 (by decide) rfl ?_
  refine pr_iload dX6_setPart_13 rfl ?_
  refine zr_if_lt (tgt := 25) dX6_setPart_15 (by decide) (by omega) (fun c15 => by exfalso; omega) (fun c15 => ?_)
  refine pr_iload_n dX6_setPart_18 rfl ?_
  refine zcs1i dX6_setPart_19 pzm_6_133 pzt_X6_isPart (kX6_isPart (by omega)) (by decide) (Nat.le_of_ble_eq_true rfl) ?_
  refine zr_if_ne (tgt := 35) dX6_setPart_22 (by decide) (bI_R _) (fun c22 => ?_) (fun c22 => by exfalso; have bb := bI_0 c22; omega)
  have b22 := bI_ne c22
  refine pr_iload dX6_setPart_35 rfl ?_
  refine zr_iconst dX6_setPart_37 ?_
  refine zr_sipush dX6_setPart_38 (by decide) ?_
  refine zcs3i dX6_setPart_41 pzm_6_117 pzt_X6_isWithin (kX6_isWithin (by omega) (by omega) (by omega)) (by decide) (Nat.le_of_ble_eq_true rfl) ?_
  refine zr_if_ne (tgt := 57) dX6_setPart_44 (by decide) (bI_R _) (fun c44 => by exfalso; have bb := bI_ne c44; omega) (fun c44 => ?_)
  have b44 := bI_0 c44
  exact pr_thr dX6_setPart_47 dX6_setPart_50 dX6_setPart_51 dX6_setPart_53 dX6_setPart_56 pze_6_59 pzs_138 rfl (by decide) rfl ⟨rfl, rfl⟩
set_option maxRecDepth 100000 in
set_option maxHeartbeats 4000000 in
theorem kX6_setHome_k (hV : cV t u a K X) {c q : Int} (h1 : zR c) (h2 : zR q) (g1 : 0 ≤ c ∧ c ≤ 11) (g2 : 0 ≤ q ∧ q ≤ 100) (hb : bO h t a b Y) (hub : u (2 + K 1 1) = b 0) : pz_Cd en 9 78 [.ref (t 0), .int (zI c), .int (zI q)] (sH (tH h t u K) a (sq a) X) 0 0 (pz_ret (some (.int (zI (X 3 c)))) (sH (tH (sH h b (sq b) (xcp Y X)) t u (kR K)) a (sq a) (zv X 3 (zu (X 3) c q)))) := by
  refine pz_in pzt_X6_setHome ?_
  obtain ⟨hj, ht, hD, hu0, hI, hK, ⟨f0, f1⟩, ⟨r0, r1⟩, ⟨q0, q1⟩, hA⟩ := id hV
  have hX := hI.1
  obtain ⟨hR, hn0, hn1, hm0, hm1⟩ := id hX
  refine pr_iload_n dX6_setHome_0 rfl ?_
  refine zcs1i dX6_setHome_1 pzm_6_159 pzt_X6_isChannel (kX6_isChannel (by omega)) (by decide) (Nat.le_of_ble_eq_true rfl) ?_
  refine zr_if_ne (tgt := 17) dX6_setHome_4 (by decide) (bI_R _) (fun c4 => ?_) (fun c4 => by exfalso; have bb := bI_0 c4; omega)
  have b4 := bI_ne c4
  refine pr_iload_n dX6_setHome_17 rfl ?_
  refine zcs1i dX6_setHome_18 pzm_6_164 pzt_X6_isLevel (kX6_isLevel (by omega)) (by decide) (Nat.le_of_ble_eq_true rfl) ?_
  refine zr_if_ne (tgt := 34) dX6_setHome_21 (by decide) (bI_R _) (fun c21 => ?_) (fun c21 => by exfalso; have bb := bI_0 c21; omega)
  have b21 := bI_ne c21
  refine pr_aload_n dX6_setHome_34 rfl ?_
  refine pr_getf dX6_setHome_35 pzf_6_22 (gS_0 ht hD hu0) rfl ?_
  refine pr_aload_n dX6_setHome_38 rfl ?_
  refine pr_getf dX6_setHome_39 pzf_6_10 (gS_0 ht hD hu0) rfl ?_
  refine zcv1u dX6_setHome_42 pzm_6_71 pzt_X2_remember (gH_1 ht hD) (kX2_remember hj ht hD hI hb hub f0 f1 r0 r1) (by decide) (Nat.le_of_ble_eq_true rfl) (by decide) ?_
  refine pr_aload_n dX6_setHome_45 rfl ?_
  refine pr_getf dX6_setHome_46 pzf_6_10 (gS_0 ht hD hu0) rfl ?_
  refine pr_getf dX6_setHome_49 pzf_6_40 (sH_0 hj) rfl ?_
  refine pr_getf dX6_setHome_52 pzf_6_169 (sH_1 hj) rfl ?_
  refine pr_iload_n dX6_setHome_55 rfl ?_
  refine zr_iald dX6_setHome_56 (sH_3 hj) (by omega) (by decide) ?_
  refine pr_istore_n dX6_setHome_57 (by decide) rfl ?_
  refine pr_aload_n dX6_setHome_58 rfl ?_
  refine pr_getf dX6_setHome_59 pzf_6_10 (gS_0 ht hD hu0) rfl ?_
  refine pr_getf dX6_setHome_62 pzf_6_40 (sH_0 hj) rfl ?_
  refine pr_getf dX6_setHome_65 pzf_6_169 (sH_1 hj) rfl ?_
  refine pr_iload_n dX6_setHome_68 rfl ?_
  refine pr_iload_n dX6_setHome_69 rfl ?_
  refine zr_iast dX6_setHome_70 (sH_3 hj) (by omega) (by decide) (sH_u3 hj) ?_
  refine pr_iload_n dX6_setHome_71 rfl ?_
  exact pr_iret dX6_setHome_72 rfl rfl (zret (by rfl))
set_option maxRecDepth 100000 in
set_option maxHeartbeats 4000000 in
theorem kX6_setHome_t1 (hV : cV t u a K X) {c q : Int} (h1 : zR c) (h2 : zR q) (g1 : ¬ (0 ≤ c ∧ c ≤ 11)) : pz_Cd en 9 78 [.ref (t 0), .int (zI c), .int (zI q)] (sH (tH h t u K) a (sq a) X) 1 6 (pz_thr "java/lang/IndexOutOfBoundsException" (sH (tH h t u K) a (sq a) X)) := by
  refine pz_in pzt_X6_setHome ?_
  obtain ⟨hj, ht, hD, hu0, hI, hK, ⟨f0, f1⟩, ⟨r0, r1⟩, ⟨q0, q1⟩, hA⟩ := id hV
  have hX := hI.1
  obtain ⟨hR, hn0, hn1, hm0, hm1⟩ := id hX
  refine pr_iload_n dX6_setHome_0 rfl ?_
  refine zcs1i dX6_setHome_1 pzm_6_159 pzt_X6_isChannel (kX6_isChannel (by omega)) (by decide) (Nat.le_of_ble_eq_true rfl) ?_
  refine zr_if_ne (tgt := 17) dX6_setHome_4 (by decide) (bI_R _) (fun c4 => by exfalso; have bb := bI_ne c4; omega) (fun c4 => ?_)
  have b4 := bI_0 c4
  exact pr_thr dX6_setHome_7 dX6_setHome_10 dX6_setHome_11 dX6_setHome_13 dX6_setHome_16 pze_6_83 pzs_162 rfl (by decide) rfl ⟨rfl, rfl⟩
set_option maxRecDepth 100000 in
set_option maxHeartbeats 4000000 in
theorem kX6_setHome_t2 (hV : cV t u a K X) {c q : Int} (h1 : zR c) (h2 : zR q) (g1 : 0 ≤ c ∧ c ≤ 11) (g2 : ¬ (0 ≤ q ∧ q ≤ 100)) : pz_Cd en 9 78 [.ref (t 0), .int (zI c), .int (zI q)] (sH (tH h t u K) a (sq a) X) 1 6 (pz_thr "java/lang/IllegalArgumentException" (sH (tH h t u K) a (sq a) X)) := by
  refine pz_in pzt_X6_setHome ?_
  obtain ⟨hj, ht, hD, hu0, hI, hK, ⟨f0, f1⟩, ⟨r0, r1⟩, ⟨q0, q1⟩, hA⟩ := id hV
  have hX := hI.1
  obtain ⟨hR, hn0, hn1, hm0, hm1⟩ := id hX
  refine pr_iload_n dX6_setHome_0 rfl ?_
  refine zcs1i dX6_setHome_1 pzm_6_159 pzt_X6_isChannel (kX6_isChannel (by omega)) (by decide) (Nat.le_of_ble_eq_true rfl) ?_
  refine zr_if_ne (tgt := 17) dX6_setHome_4 (by decide) (bI_R _) (fun c4 => ?_) (fun c4 => by exfalso; have bb := bI_0 c4; omega)
  have b4 := bI_ne c4
  refine pr_iload_n dX6_setHome_17 rfl ?_
  refine zcs1i dX6_setHome_18 pzm_6_164 pzt_X6_isLevel (kX6_isLevel (by omega)) (by decide) (Nat.le_of_ble_eq_true rfl) ?_
  refine zr_if_ne (tgt := 34) dX6_setHome_21 (by decide) (bI_R _) (fun c21 => by exfalso; have bb := bI_ne c21; omega) (fun c21 => ?_)
  have b21 := bI_0 c21
  exact pr_thr dX6_setHome_24 dX6_setHome_27 dX6_setHome_28 dX6_setHome_30 dX6_setHome_33 pze_6_59 pzs_167 rfl (by decide) rfl ⟨rfl, rfl⟩
set_option maxRecDepth 100000 in
set_option maxHeartbeats 4000000 in
theorem kX6_set_k (hV : cV t u a K X) {n c v q : Int} (h1 : zR n) (h2 : zR c) (h3 : zR v) (h4 : zR q) {hd : Prop} [dd : Decidable hd] (g1 : 0 ≤ xix X n) (g2 : 0 ≤ c ∧ c ≤ 11) (g3 : 0 ≤ q ∧ q ≤ 3) (g4 : 0 ≤ v ∧ v ≤ 100) (g9 : (xrG X (xix X n) c v hd) = 0) (hb : bO h t a b Y) (hub : u (2 + K 1 1) = b 0) : pz_Cd en 9 79 [.ref (t 0), .int (zI n), .int (zI c), .int (zI v), .int (zI q), .int (zI (bI hd))] (sH (tH h t u K) a (sq a) X) 0 0 (pz_ret (some (.int (zI (xcf (xgi X (xix X n) c v q hd) (xlv X (xix X n) c) (xix X n) c)))) (sH (tH (sH h b (sq b) (xcp Y X)) t u (kR K)) a (sq a) (xgi X (xix X n) c v q hd))) := by
  refine pz_in pzt_X6_set ?_
  obtain ⟨hj, ht, hD, hu0, hI, hK, ⟨f0, f1⟩, ⟨r0, r1⟩, ⟨q0, q1⟩, hA⟩ := id hV
  have hX := hI.1
  obtain ⟨hR, hn0, hn1, hm0, hm1⟩ := id hX
  have hp := xix_R hX n
  have hr9 : 0 ≤ (xrG X (xix X n) c v hd) ∧ (xrG X (xix X n) c v hd) ≤ 2 := xrf_R (X := X) (xix X n) _ _
  refine pr_aload_n dX6_set_0 rfl ?_
  refine pr_getf dX6_set_1 pzf_6_10 (gS_0 ht hD hu0) rfl ?_
  refine pr_getf dX6_set_4 pzf_6_40 (sH_0 hj) rfl ?_
  refine pr_iload_n dX6_set_7 rfl ?_
  refine zcv1i dX6_set_8 pzm_6_79 pzt_X1_indexOf (sH_1 hj) (kX1_indexOf hj hX (by omega)) (by decide) (Nat.le_of_ble_eq_true rfl) (by decide) ?_
  refine pr_istore dX6_set_11 (by decide) rfl ?_
  refine pr_iload dX6_set_13 rfl ?_
  refine zr_if_lt (tgt := 33) dX6_set_15 (by decide) (by omega) (fun c15 => by exfalso; omega) (fun c15 => ?_)
  refine pr_iload_n dX6_set_18 rfl ?_
  refine zcs1i dX6_set_19 pzm_6_159 pzt_X6_isChannel (kX6_isChannel (by omega)) (by decide) (Nat.le_of_ble_eq_true rfl) ?_
  refine zr_if_eq (tgt := 33) dX6_set_22 (by decide) (bI_R _) (fun c22 => by exfalso; have bb := bI_0 c22; omega) (fun c22 => ?_)
  have b22 := bI_ne c22
  refine pr_iload dX6_set_25 rfl ?_
  refine zcs1i dX6_set_27 pzm_6_133 pzt_X6_isPart (kX6_isPart (by omega)) (by decide) (Nat.le_of_ble_eq_true rfl) ?_
  refine zr_if_ne (tgt := 43) dX6_set_30 (by decide) (bI_R _) (fun c30 => ?_) (fun c30 => by exfalso; have bb := bI_0 c30; omega)
  have b30 := bI_ne c30
  refine pr_iload_n dX6_set_43 rfl ?_
  refine zcs1i dX6_set_44 pzm_6_164 pzt_X6_isLevel (kX6_isLevel (by omega)) (by decide) (Nat.le_of_ble_eq_true rfl) ?_
  refine zr_if_ne (tgt := 60) dX6_set_47 (by decide) (bI_R _) (fun c47 => ?_) (fun c47 => by exfalso; have bb := bI_0 c47; omega)
  have b47 := bI_ne c47
  refine pr_aload_n dX6_set_60 rfl ?_
  refine pr_aload_n dX6_set_61 rfl ?_
  refine pr_getf dX6_set_62 pzf_6_10 (gS_0 ht hD hu0) rfl ?_
  refine pr_getf dX6_set_65 pzf_6_40 (sH_0 hj) rfl ?_
  refine pr_iload dX6_set_68 rfl ?_
  refine pr_iload_n dX6_set_70 rfl ?_
  refine pr_iload_n dX6_set_71 rfl ?_
  refine pr_iload dX6_set_72 rfl ?_
  refine zcv4i dX6_set_74 pzm_6_175 pzt_X1_refusalToGive (sH_1 hj) (kX1_refusalToGive hj hX g1 (by omega) g2.1 g2.2 (by omega)) (by decide) (Nat.le_of_ble_eq_true rfl) (by decide) ?_
  have e9 : xrf X (xix X n) (bI (hd ∧ xnh X (xix X n + 1) c (xlm X v c))) (bI (X (7 + 5 * xix X n + 3) c = -2)) = (xrG X (xix X n) c v hd) := rfl
  rw [e9, g9]
  refine zcv1i dX6_set_77 pzm_6_92 pzt_X6_keepIfRefused (gS_0 ht hD hu0) (kX6_keepIfRefused_0 hV) (by decide) (Nat.le_of_ble_eq_true rfl) (by decide) ?_
  refine zr_if_eq (tgt := 93) dX6_set_80 (by decide) (by decide) (fun c80 => ?_) (fun c80 => by exfalso; omega)
  refine pr_aload_n dX6_set_93 rfl ?_
  refine pr_getf dX6_set_94 pzf_6_22 (gS_0 ht hD hu0) rfl ?_
  refine pr_aload_n dX6_set_97 rfl ?_
  refine pr_getf dX6_set_98 pzf_6_10 (gS_0 ht hD hu0) rfl ?_
  refine zcv1u dX6_set_101 pzm_6_71 pzt_X2_remember (gH_1 ht hD) (kX2_remember hj ht hD hI hb hub f0 f1 r0 r1) (by decide) (Nat.le_of_ble_eq_true rfl) (by decide) ?_
  refine pr_aload_n dX6_set_104 rfl ?_
  refine pr_getf dX6_set_105 pzf_6_10 (gS_0 ht hD hu0) rfl ?_
  refine pr_getf dX6_set_108 pzf_6_40 (sH_0 hj) rfl ?_
  refine pr_iload dX6_set_111 rfl ?_
  refine pr_iload_n dX6_set_113 rfl ?_
  refine pr_iload_n dX6_set_114 rfl ?_
  refine pr_iload dX6_set_115 rfl ?_
  refine pr_iload dX6_set_117 rfl ?_
  refine zcv5i dX6_set_119 pzm_6_179 pzt_X1_give (sH_1 hj) (kX1_give hj hX g1 (by omega) g2.1 g2.2 (by omega) (by omega)) (by decide) (Nat.le_of_ble_eq_true rfl) (by decide) ?_
  exact pr_iret dX6_set_122 rfl rfl (zret (by rfl))
set_option maxRecDepth 100000 in
set_option maxHeartbeats 4000000 in
theorem kX6_set_r (hV : cV t u a K X) {n c v q : Int} (h1 : zR n) (h2 : zR c) (h3 : zR v) (h4 : zR q) {hd : Prop} [dd : Decidable hd] (g1 : 0 ≤ xix X n) (g2 : 0 ≤ c ∧ c ≤ 11) (g3 : 0 ≤ q ∧ q ≤ 3) (g4 : 0 ≤ v ∧ v ≤ 100) (g9 : ¬ (xrG X (xix X n) c v hd) = 0) : pz_Cd en 9 79 [.ref (t 0), .int (zI n), .int (zI c), .int (zI v), .int (zI q), .int (zI (bI hd))] (sH (tH h t u K) a (sq a) X) 1 6 (pz_thr "java/lang/UnsupportedOperationException" (sH (tH h t u (zv K 0 (zu (K 0) 5 (xrG X (xix X n) c v hd)))) a (sq a) X)) := by
  refine pz_in pzt_X6_set ?_
  obtain ⟨hj, ht, hD, hu0, hI, hK, ⟨f0, f1⟩, ⟨r0, r1⟩, ⟨q0, q1⟩, hA⟩ := id hV
  have hX := hI.1
  obtain ⟨hR, hn0, hn1, hm0, hm1⟩ := id hX
  have hp := xix_R hX n
  have hr9 : 0 ≤ (xrG X (xix X n) c v hd) ∧ (xrG X (xix X n) c v hd) ≤ 2 := xrf_R (X := X) (xix X n) _ _
  refine pr_aload_n dX6_set_0 rfl ?_
  refine pr_getf dX6_set_1 pzf_6_10 (gS_0 ht hD hu0) rfl ?_
  refine pr_getf dX6_set_4 pzf_6_40 (sH_0 hj) rfl ?_
  refine pr_iload_n dX6_set_7 rfl ?_
  refine zcv1i dX6_set_8 pzm_6_79 pzt_X1_indexOf (sH_1 hj) (kX1_indexOf hj hX (by omega)) (by decide) (Nat.le_of_ble_eq_true rfl) (by decide) ?_
  refine pr_istore dX6_set_11 (by decide) rfl ?_
  refine pr_iload dX6_set_13 rfl ?_
  refine zr_if_lt (tgt := 33) dX6_set_15 (by decide) (by omega) (fun c15 => by exfalso; omega) (fun c15 => ?_)
  refine pr_iload_n dX6_set_18 rfl ?_
  refine zcs1i dX6_set_19 pzm_6_159 pzt_X6_isChannel (kX6_isChannel (by omega)) (by decide) (Nat.le_of_ble_eq_true rfl) ?_
  refine zr_if_eq (tgt := 33) dX6_set_22 (by decide) (bI_R _) (fun c22 => by exfalso; have bb := bI_0 c22; omega) (fun c22 => ?_)
  have b22 := bI_ne c22
  refine pr_iload dX6_set_25 rfl ?_
  refine zcs1i dX6_set_27 pzm_6_133 pzt_X6_isPart (kX6_isPart (by omega)) (by decide) (Nat.le_of_ble_eq_true rfl) ?_
  refine zr_if_ne (tgt := 43) dX6_set_30 (by decide) (bI_R _) (fun c30 => ?_) (fun c30 => by exfalso; have bb := bI_0 c30; omega)
  have b30 := bI_ne c30
  refine pr_iload_n dX6_set_43 rfl ?_
  refine zcs1i dX6_set_44 pzm_6_164 pzt_X6_isLevel (kX6_isLevel (by omega)) (by decide) (Nat.le_of_ble_eq_true rfl) ?_
  refine zr_if_ne (tgt := 60) dX6_set_47 (by decide) (bI_R _) (fun c47 => ?_) (fun c47 => by exfalso; have bb := bI_0 c47; omega)
  have b47 := bI_ne c47
  refine pr_aload_n dX6_set_60 rfl ?_
  refine pr_aload_n dX6_set_61 rfl ?_
  refine pr_getf dX6_set_62 pzf_6_10 (gS_0 ht hD hu0) rfl ?_
  refine pr_getf dX6_set_65 pzf_6_40 (sH_0 hj) rfl ?_
  refine pr_iload dX6_set_68 rfl ?_
  refine pr_iload_n dX6_set_70 rfl ?_
  refine pr_iload_n dX6_set_71 rfl ?_
  refine pr_iload dX6_set_72 rfl ?_
  refine zcv4i dX6_set_74 pzm_6_175 pzt_X1_refusalToGive (sH_1 hj) (kX1_refusalToGive hj hX g1 (by omega) g2.1 g2.2 (by omega)) (by decide) (Nat.le_of_ble_eq_true rfl) (by decide) ?_
  have e9 : xrf X (xix X n) (bI (hd ∧ xnh X (xix X n + 1) c (xlm X v c))) (bI (X (7 + 5 * xix X n + 3) c = -2)) = (xrG X (xix X n) c v hd) := rfl
  rw [e9]
  refine zcv1i dX6_set_77 pzm_6_92 pzt_X6_keepIfRefused (gS_0 ht hD hu0) (kX6_keepIfRefused_1 hV (by omega) g9) (by decide) (Nat.le_of_ble_eq_true rfl) (by decide) ?_
  refine zr_if_eq (tgt := 93) dX6_set_80 (by decide) (by decide) (fun c80 => by exfalso; omega) (fun c80 => ?_)
  exact pr_thr dX6_set_83 dX6_set_86 dX6_set_87 dX6_set_89 dX6_set_92 pze_6_95 pzs_97 rfl (by decide) rfl ⟨rfl, rfl⟩
set_option maxRecDepth 100000 in
set_option maxHeartbeats 4000000 in
theorem kX6_set_t1 (hV : cV t u a K X) {n c v q : Int} (h1 : zR n) (h2 : zR c) (h3 : zR v) (h4 : zR q) {hd : Prop} [dd : Decidable hd] (g1 : ¬ (0 ≤ xix X n ∧ (0 ≤ c ∧ c ≤ 11) ∧ 0 ≤ q ∧ q ≤ 3)) : pz_Cd en 9 79 [.ref (t 0), .int (zI n), .int (zI c), .int (zI v), .int (zI q), .int (zI (bI hd))] (sH (tH h t u K) a (sq a) X) 1 6 (pz_thr "java/lang/IndexOutOfBoundsException" (sH (tH h t u K) a (sq a) X)) := by
  refine pz_in pzt_X6_set ?_
  obtain ⟨hj, ht, hD, hu0, hI, hK, ⟨f0, f1⟩, ⟨r0, r1⟩, ⟨q0, q1⟩, hA⟩ := id hV
  have hX := hI.1
  obtain ⟨hR, hn0, hn1, hm0, hm1⟩ := id hX
  have hp := xix_R hX n
  refine pr_aload_n dX6_set_0 rfl ?_
  refine pr_getf dX6_set_1 pzf_6_10 (gS_0 ht hD hu0) rfl ?_
  refine pr_getf dX6_set_4 pzf_6_40 (sH_0 hj) rfl ?_
  refine pr_iload_n dX6_set_7 rfl ?_
  refine zcv1i dX6_set_8 pzm_6_79 pzt_X1_indexOf (sH_1 hj) (kX1_indexOf hj hX (by omega)) (by decide) (Nat.le_of_ble_eq_true rfl) (by decide) ?_
  refine pr_istore dX6_set_11 (by decide) rfl ?_
  refine pr_iload dX6_set_13 rfl ?_
  refine zr_if_lt (tgt := 33) dX6_set_15 (by decide) (by omega) (fun c15 => ?_) (fun c15 => ?_)
  · exact pr_thr dX6_set_33 dX6_set_36 dX6_set_37 dX6_set_39 dX6_set_42 pze_6_83 pzs_173 rfl (by decide) rfl ⟨rfl, rfl⟩
  · refine pr_iload_n dX6_set_18 rfl ?_
    refine zcs1i dX6_set_19 pzm_6_159 pzt_X6_isChannel (kX6_isChannel (by omega)) (by decide) (Nat.le_of_ble_eq_true rfl) ?_
    refine zr_if_eq (tgt := 33) dX6_set_22 (by decide) (bI_R _) (fun c22 => ?_) (fun c22 => ?_)
    · have b22 := bI_0 c22
      exact pr_thr dX6_set_33 dX6_set_36 dX6_set_37 dX6_set_39 dX6_set_42 pze_6_83 pzs_173 rfl (by decide) rfl ⟨rfl, rfl⟩
    · have b22 := bI_ne c22
      refine pr_iload dX6_set_25 rfl ?_
      refine zcs1i dX6_set_27 pzm_6_133 pzt_X6_isPart (kX6_isPart (by omega)) (by decide) (Nat.le_of_ble_eq_true rfl) ?_
      refine zr_if_ne (tgt := 43) dX6_set_30 (by decide) (bI_R _) (fun c30 => by exfalso; have bb := bI_ne c30; omega) (fun c30 => ?_)
      have b30 := bI_0 c30
      exact pr_thr dX6_set_33 dX6_set_36 dX6_set_37 dX6_set_39 dX6_set_42 pze_6_83 pzs_173 rfl (by decide) rfl ⟨rfl, rfl⟩
set_option maxRecDepth 100000 in
set_option maxHeartbeats 4000000 in
theorem kX6_set_t2 (hV : cV t u a K X) {n c v q : Int} (h1 : zR n) (h2 : zR c) (h3 : zR v) (h4 : zR q) {hd : Prop} [dd : Decidable hd] (g1 : 0 ≤ xix X n) (g2 : 0 ≤ c ∧ c ≤ 11) (g3 : 0 ≤ q ∧ q ≤ 3) (g4 : ¬ (0 ≤ v ∧ v ≤ 100)) : pz_Cd en 9 79 [.ref (t 0), .int (zI n), .int (zI c), .int (zI v), .int (zI q), .int (zI (bI hd))] (sH (tH h t u K) a (sq a) X) 1 6 (pz_thr "java/lang/IllegalArgumentException" (sH (tH h t u K) a (sq a) X)) := by
  refine pz_in pzt_X6_set ?_
  obtain ⟨hj, ht, hD, hu0, hI, hK, ⟨f0, f1⟩, ⟨r0, r1⟩, ⟨q0, q1⟩, hA⟩ := id hV
  have hX := hI.1
  obtain ⟨hR, hn0, hn1, hm0, hm1⟩ := id hX
  have hp := xix_R hX n
  refine pr_aload_n dX6_set_0 rfl ?_
  refine pr_getf dX6_set_1 pzf_6_10 (gS_0 ht hD hu0) rfl ?_
  refine pr_getf dX6_set_4 pzf_6_40 (sH_0 hj) rfl ?_
  refine pr_iload_n dX6_set_7 rfl ?_
  refine zcv1i dX6_set_8 pzm_6_79 pzt_X1_indexOf (sH_1 hj) (kX1_indexOf hj hX (by omega)) (by decide) (Nat.le_of_ble_eq_true rfl) (by decide) ?_
  refine pr_istore dX6_set_11 (by decide) rfl ?_
  refine pr_iload dX6_set_13 rfl ?_
  refine zr_if_lt (tgt := 33) dX6_set_15 (by decide) (by omega) (fun c15 => by exfalso; omega) (fun c15 => ?_)
  refine pr_iload_n dX6_set_18 rfl ?_
  refine zcs1i dX6_set_19 pzm_6_159 pzt_X6_isChannel (kX6_isChannel (by omega)) (by decide) (Nat.le_of_ble_eq_true rfl) ?_
  refine zr_if_eq (tgt := 33) dX6_set_22 (by decide) (bI_R _) (fun c22 => by exfalso; have bb := bI_0 c22; omega) (fun c22 => ?_)
  have b22 := bI_ne c22
  refine pr_iload dX6_set_25 rfl ?_
  refine zcs1i dX6_set_27 pzm_6_133 pzt_X6_isPart (kX6_isPart (by omega)) (by decide) (Nat.le_of_ble_eq_true rfl) ?_
  refine zr_if_ne (tgt := 43) dX6_set_30 (by decide) (bI_R _) (fun c30 => ?_) (fun c30 => by exfalso; have bb := bI_0 c30; omega)
  have b30 := bI_ne c30
  refine pr_iload_n dX6_set_43 rfl ?_
  refine zcs1i dX6_set_44 pzm_6_164 pzt_X6_isLevel (kX6_isLevel (by omega)) (by decide) (Nat.le_of_ble_eq_true rfl) ?_
  refine zr_if_ne (tgt := 60) dX6_set_47 (by decide) (bI_R _) (fun c47 => by exfalso; have bb := bI_ne c47; omega) (fun c47 => ?_)
  have b47 := bI_0 c47
  exact pr_thr dX6_set_50 dX6_set_53 dX6_set_54 dX6_set_56 dX6_set_59 pze_6_59 pzs_167 rfl (by decide) rfl ⟨rfl, rfl⟩
set_option maxRecDepth 100000 in
set_option maxHeartbeats 4000000 in
theorem kX6_release_k (hV : cV t u a K X) {n c q : Int} (h1 : zR n) (h2 : zR c) (h4 : zR q) {hd : Prop} [dd : Decidable hd] (g1 : 0 ≤ xix X n) (g2 : 0 ≤ c ∧ c ≤ 11) (g3 : 0 ≤ q ∧ q ≤ 3) (g9 : (xrG X (xix X n) c (-1) hd) = 0) (hb : bO h t a b Y) (hub : u (2 + K 1 1) = b 0) : pz_Cd en 9 80 [.ref (t 0), .int (zI n), .int (zI c), .int (zI q), .int (zI (bI hd))] (sH (tH h t u K) a (sq a) X) 0 0 (pz_ret (some (.int (zI (xcf (xgi X (xix X n) c (-1) q hd) (xlv X (xix X n) c) (xix X n) c)))) (sH (tH (sH h b (sq b) (xcp Y X)) t u (kR K)) a (sq a) (xgi X (xix X n) c (-1) q hd))) := by
  refine pz_in pzt_X6_release ?_
  obtain ⟨hj, ht, hD, hu0, hI, hK, ⟨f0, f1⟩, ⟨r0, r1⟩, ⟨q0, q1⟩, hA⟩ := id hV
  have hX := hI.1
  obtain ⟨hR, hn0, hn1, hm0, hm1⟩ := id hX
  have hp := xix_R hX n
  have hr9 : 0 ≤ (xrG X (xix X n) c (-1) hd) ∧ (xrG X (xix X n) c (-1) hd) ≤ 2 := xrf_R (X := X) (xix X n) _ _
  refine pr_aload_n dX6_release_0 rfl ?_
  refine pr_getf dX6_release_1 pzf_6_10 (gS_0 ht hD hu0) rfl ?_
  refine pr_getf dX6_release_4 pzf_6_40 (sH_0 hj) rfl ?_
  refine pr_iload_n dX6_release_7 rfl ?_
  refine zcv1i dX6_release_8 pzm_6_79 pzt_X1_indexOf (sH_1 hj) (kX1_indexOf hj hX (by omega)) (by decide) (Nat.le_of_ble_eq_true rfl) (by decide) ?_
  refine pr_istore dX6_release_11 (by decide) rfl ?_
  refine pr_iload dX6_release_13 rfl ?_
  refine zr_if_lt (tgt := 32) dX6_release_15 (by decide) (by omega) (fun c15 => by exfalso; omega) (fun c15 => ?_)
  refine pr_iload_n dX6_release_18 rfl ?_
  refine zcs1i dX6_release_19 pzm_6_159 pzt_X6_isChannel (kX6_isChannel (by omega)) (by decide) (Nat.le_of_ble_eq_true rfl) ?_
  refine zr_if_eq (tgt := 32) dX6_release_22 (by decide) (bI_R _) (fun c22 => by exfalso; have bb := bI_0 c22; omega) (fun c22 => ?_)
  have b22 := bI_ne c22
  refine pr_iload_n dX6_release_25 rfl ?_
  refine zcs1i dX6_release_26 pzm_6_133 pzt_X6_isPart (kX6_isPart (by omega)) (by decide) (Nat.le_of_ble_eq_true rfl) ?_
  refine zr_if_ne (tgt := 42) dX6_release_29 (by decide) (bI_R _) (fun c29 => ?_) (fun c29 => by exfalso; have bb := bI_0 c29; omega)
  have b29 := bI_ne c29
  refine pr_aload_n dX6_release_42 rfl ?_
  refine pr_aload_n dX6_release_43 rfl ?_
  refine pr_getf dX6_release_44 pzf_6_10 (gS_0 ht hD hu0) rfl ?_
  refine pr_getf dX6_release_47 pzf_6_40 (sH_0 hj) rfl ?_
  refine pr_iload dX6_release_50 rfl ?_
  refine pr_iload_n dX6_release_52 rfl ?_
  refine zr_iconst dX6_release_53 ?_
  refine pr_iload dX6_release_54 rfl ?_
  refine zcv4i dX6_release_56 pzm_6_175 pzt_X1_refusalToGive (sH_1 hj) (kX1_refusalToGive hj hX g1 (by omega) g2.1 g2.2 (by omega)) (by decide) (Nat.le_of_ble_eq_true rfl) (by decide) ?_
  have e9 : xrf X (xix X n) (bI (hd ∧ xnh X (xix X n + 1) c (xlm X (-1) c))) (bI (X (7 + 5 * xix X n + 3) c = -2)) = (xrG X (xix X n) c (-1) hd) := rfl
  rw [e9, g9]
  refine zcv1i dX6_release_59 pzm_6_92 pzt_X6_keepIfRefused (gS_0 ht hD hu0) (kX6_keepIfRefused_0 hV) (by decide) (Nat.le_of_ble_eq_true rfl) (by decide) ?_
  refine zr_if_eq (tgt := 75) dX6_release_62 (by decide) (by decide) (fun c62 => ?_) (fun c62 => by exfalso; omega)
  refine pr_aload_n dX6_release_75 rfl ?_
  refine pr_getf dX6_release_76 pzf_6_22 (gS_0 ht hD hu0) rfl ?_
  refine pr_aload_n dX6_release_79 rfl ?_
  refine pr_getf dX6_release_80 pzf_6_10 (gS_0 ht hD hu0) rfl ?_
  refine zcv1u dX6_release_83 pzm_6_71 pzt_X2_remember (gH_1 ht hD) (kX2_remember hj ht hD hI hb hub f0 f1 r0 r1) (by decide) (Nat.le_of_ble_eq_true rfl) (by decide) ?_
  refine pr_aload_n dX6_release_86 rfl ?_
  refine pr_getf dX6_release_87 pzf_6_10 (gS_0 ht hD hu0) rfl ?_
  refine pr_getf dX6_release_90 pzf_6_40 (sH_0 hj) rfl ?_
  refine pr_iload dX6_release_93 rfl ?_
  refine pr_iload_n dX6_release_95 rfl ?_
  refine zr_iconst dX6_release_96 ?_
  refine pr_iload_n dX6_release_97 rfl ?_
  refine pr_iload dX6_release_98 rfl ?_
  refine zcv5i dX6_release_100 pzm_6_179 pzt_X1_give (sH_1 hj) (kX1_give hj hX g1 (by omega) g2.1 g2.2 (by omega) (by omega)) (by decide) (Nat.le_of_ble_eq_true rfl) (by decide) ?_
  exact pr_iret dX6_release_103 rfl rfl (zret (by rfl))
set_option maxRecDepth 100000 in
set_option maxHeartbeats 4000000 in
theorem kX6_release_r (hV : cV t u a K X) {n c q : Int} (h1 : zR n) (h2 : zR c) (h4 : zR q) {hd : Prop} [dd : Decidable hd] (g1 : 0 ≤ xix X n) (g2 : 0 ≤ c ∧ c ≤ 11) (g3 : 0 ≤ q ∧ q ≤ 3) (g9 : ¬ (xrG X (xix X n) c (-1) hd) = 0) : pz_Cd en 9 80 [.ref (t 0), .int (zI n), .int (zI c), .int (zI q), .int (zI (bI hd))] (sH (tH h t u K) a (sq a) X) 1 6 (pz_thr "java/lang/UnsupportedOperationException" (sH (tH h t u (zv K 0 (zu (K 0) 5 (xrG X (xix X n) c (-1) hd)))) a (sq a) X)) := by
  refine pz_in pzt_X6_release ?_
  obtain ⟨hj, ht, hD, hu0, hI, hK, ⟨f0, f1⟩, ⟨r0, r1⟩, ⟨q0, q1⟩, hA⟩ := id hV
  have hX := hI.1
  obtain ⟨hR, hn0, hn1, hm0, hm1⟩ := id hX
  have hp := xix_R hX n
  have hr9 : 0 ≤ (xrG X (xix X n) c (-1) hd) ∧ (xrG X (xix X n) c (-1) hd) ≤ 2 := xrf_R (X := X) (xix X n) _ _
  refine pr_aload_n dX6_release_0 rfl ?_
  refine pr_getf dX6_release_1 pzf_6_10 (gS_0 ht hD hu0) rfl ?_
  refine pr_getf dX6_release_4 pzf_6_40 (sH_0 hj) rfl ?_
  refine pr_iload_n dX6_release_7 rfl ?_
  refine zcv1i dX6_release_8 pzm_6_79 pzt_X1_indexOf (sH_1 hj) (kX1_indexOf hj hX (by omega)) (by decide) (Nat.le_of_ble_eq_true rfl) (by decide) ?_
  refine pr_istore dX6_release_11 (by decide) rfl ?_
  refine pr_iload dX6_release_13 rfl ?_
  refine zr_if_lt (tgt := 32) dX6_release_15 (by decide) (by omega) (fun c15 => by exfalso; omega) (fun c15 => ?_)
  refine pr_iload_n dX6_release_18 rfl ?_
  refine zcs1i dX6_release_19 pzm_6_159 pzt_X6_isChannel (kX6_isChannel (by omega)) (by decide) (Nat.le_of_ble_eq_true rfl) ?_
  refine zr_if_eq (tgt := 32) dX6_release_22 (by decide) (bI_R _) (fun c22 => by exfalso; have bb := bI_0 c22; omega) (fun c22 => ?_)
  have b22 := bI_ne c22
  refine pr_iload_n dX6_release_25 rfl ?_
  refine zcs1i dX6_release_26 pzm_6_133 pzt_X6_isPart (kX6_isPart (by omega)) (by decide) (Nat.le_of_ble_eq_true rfl) ?_
  refine zr_if_ne (tgt := 42) dX6_release_29 (by decide) (bI_R _) (fun c29 => ?_) (fun c29 => by exfalso; have bb := bI_0 c29; omega)
  have b29 := bI_ne c29
  refine pr_aload_n dX6_release_42 rfl ?_
  refine pr_aload_n dX6_release_43 rfl ?_
  refine pr_getf dX6_release_44 pzf_6_10 (gS_0 ht hD hu0) rfl ?_
  refine pr_getf dX6_release_47 pzf_6_40 (sH_0 hj) rfl ?_
  refine pr_iload dX6_release_50 rfl ?_
  refine pr_iload_n dX6_release_52 rfl ?_
  refine zr_iconst dX6_release_53 ?_
  refine pr_iload dX6_release_54 rfl ?_
  refine zcv4i dX6_release_56 pzm_6_175 pzt_X1_refusalToGive (sH_1 hj) (kX1_refusalToGive hj hX g1 (by omega) g2.1 g2.2 (by omega)) (by decide) (Nat.le_of_ble_eq_true rfl) (by decide) ?_
  have e9 : xrf X (xix X n) (bI (hd ∧ xnh X (xix X n + 1) c (xlm X (-1) c))) (bI (X (7 + 5 * xix X n + 3) c = -2)) = (xrG X (xix X n) c (-1) hd) := rfl
  rw [e9]
  refine zcv1i dX6_release_59 pzm_6_92 pzt_X6_keepIfRefused (gS_0 ht hD hu0) (kX6_keepIfRefused_1 hV (by omega) g9) (by decide) (Nat.le_of_ble_eq_true rfl) (by decide) ?_
  refine zr_if_eq (tgt := 75) dX6_release_62 (by decide) (by decide) (fun c62 => by exfalso; omega) (fun c62 => ?_)
  exact pr_thr dX6_release_65 dX6_release_68 dX6_release_69 dX6_release_71 dX6_release_74 pze_6_95 pzs_97 rfl (by decide) rfl ⟨rfl, rfl⟩
set_option maxRecDepth 100000 in
set_option maxHeartbeats 4000000 in
theorem kX6_release_t (hV : cV t u a K X) {n c q : Int} (h1 : zR n) (h2 : zR c) (h4 : zR q) {hd : Prop} [dd : Decidable hd] (g1 : ¬ (0 ≤ xix X n ∧ (0 ≤ c ∧ c ≤ 11) ∧ 0 ≤ q ∧ q ≤ 3)) : pz_Cd en 9 80 [.ref (t 0), .int (zI n), .int (zI c), .int (zI q), .int (zI (bI hd))] (sH (tH h t u K) a (sq a) X) 1 6 (pz_thr "java/lang/IndexOutOfBoundsException" (sH (tH h t u K) a (sq a) X)) := by
  refine pz_in pzt_X6_release ?_
  obtain ⟨hj, ht, hD, hu0, hI, hK, ⟨f0, f1⟩, ⟨r0, r1⟩, ⟨q0, q1⟩, hA⟩ := id hV
  have hX := hI.1
  obtain ⟨hR, hn0, hn1, hm0, hm1⟩ := id hX
  have hp := xix_R hX n
  refine pr_aload_n dX6_release_0 rfl ?_
  refine pr_getf dX6_release_1 pzf_6_10 (gS_0 ht hD hu0) rfl ?_
  refine pr_getf dX6_release_4 pzf_6_40 (sH_0 hj) rfl ?_
  refine pr_iload_n dX6_release_7 rfl ?_
  refine zcv1i dX6_release_8 pzm_6_79 pzt_X1_indexOf (sH_1 hj) (kX1_indexOf hj hX (by omega)) (by decide) (Nat.le_of_ble_eq_true rfl) (by decide) ?_
  refine pr_istore dX6_release_11 (by decide) rfl ?_
  refine pr_iload dX6_release_13 rfl ?_
  refine zr_if_lt (tgt := 32) dX6_release_15 (by decide) (by omega) (fun c15 => ?_) (fun c15 => ?_)
  · exact pr_thr dX6_release_32 dX6_release_35 dX6_release_36 dX6_release_38 dX6_release_41 pze_6_83 pzs_173 rfl (by decide) rfl ⟨rfl, rfl⟩
  · refine pr_iload_n dX6_release_18 rfl ?_
    refine zcs1i dX6_release_19 pzm_6_159 pzt_X6_isChannel (kX6_isChannel (by omega)) (by decide) (Nat.le_of_ble_eq_true rfl) ?_
    refine zr_if_eq (tgt := 32) dX6_release_22 (by decide) (bI_R _) (fun c22 => ?_) (fun c22 => ?_)
    · have b22 := bI_0 c22
      exact pr_thr dX6_release_32 dX6_release_35 dX6_release_36 dX6_release_38 dX6_release_41 pze_6_83 pzs_173 rfl (by decide) rfl ⟨rfl, rfl⟩
    · have b22 := bI_ne c22
      refine pr_iload_n dX6_release_25 rfl ?_
      refine zcs1i dX6_release_26 pzm_6_133 pzt_X6_isPart (kX6_isPart (by omega)) (by decide) (Nat.le_of_ble_eq_true rfl) ?_
      refine zr_if_ne (tgt := 42) dX6_release_29 (by decide) (bI_R _) (fun c29 => by exfalso; have bb := bI_ne c29; omega) (fun c29 => ?_)
      have b29 := bI_0 c29
      exact pr_thr dX6_release_32 dX6_release_35 dX6_release_36 dX6_release_38 dX6_release_41 pze_6_83 pzs_173 rfl (by decide) rfl ⟨rfl, rfl⟩
set_option maxRecDepth 100000 in
set_option maxHeartbeats 4000000 in
theorem kX6_unset_k (hV : cV t u a K X) {n c : Int} (h1 : zR n) (h2 : zR c) {hd : Prop} [dd : Decidable hd] (g1 : 0 ≤ xix X n) (g2 : 0 ≤ c ∧ c ≤ 11) (g9 : (xrT X (xix X n) c hd) = 0) (hb : bO h t a b Y) (hub : u (2 + K 1 1) = b 0) : pz_Cd en 9 81 [.ref (t 0), .int (zI n), .int (zI c), .int (zI (bI hd))] (sH (tH h t u K) a (sq a) X) 0 0 (pz_ret (some (.int (zI (xcf (xta X (xix X n) c hd) (xlv X (xix X n) c) (xix X n) c)))) (sH (tH (sH h b (sq b) (xcp Y X)) t u (kR K)) a (sq a) (xta X (xix X n) c hd))) := by
  refine pz_in pzt_X6_unset ?_
  obtain ⟨hj, ht, hD, hu0, hI, hK, ⟨f0, f1⟩, ⟨r0, r1⟩, ⟨q0, q1⟩, hA⟩ := id hV
  have hX := hI.1
  obtain ⟨hR, hn0, hn1, hm0, hm1⟩ := id hX
  have hp := xix_R hX n
  have hr9 := xrT_R (X := X) (i := xix X n) (c := c) (hd := hd)
  refine pr_aload_n dX6_unset_0 rfl ?_
  refine pr_getf dX6_unset_1 pzf_6_10 (gS_0 ht hD hu0) rfl ?_
  refine pr_getf dX6_unset_4 pzf_6_40 (sH_0 hj) rfl ?_
  refine pr_iload_n dX6_unset_7 rfl ?_
  refine zcv1i dX6_unset_8 pzm_6_79 pzt_X1_indexOf (sH_1 hj) (kX1_indexOf hj hX (by omega)) (by decide) (Nat.le_of_ble_eq_true rfl) (by decide) ?_
  refine pr_istore dX6_unset_11 (by decide) rfl ?_
  refine pr_iload dX6_unset_13 rfl ?_
  refine zr_if_lt (tgt := 25) dX6_unset_15 (by decide) (by omega) (fun c15 => by exfalso; omega) (fun c15 => ?_)
  refine pr_iload_n dX6_unset_18 rfl ?_
  refine zcs1i dX6_unset_19 pzm_6_159 pzt_X6_isChannel (kX6_isChannel (by omega)) (by decide) (Nat.le_of_ble_eq_true rfl) ?_
  refine zr_if_ne (tgt := 35) dX6_unset_22 (by decide) (bI_R _) (fun c22 => ?_) (fun c22 => by exfalso; have bb := bI_0 c22; omega)
  have b22 := bI_ne c22
  refine pr_aload_n dX6_unset_35 rfl ?_
  refine pr_aload_n dX6_unset_36 rfl ?_
  refine pr_getf dX6_unset_37 pzf_6_10 (gS_0 ht hD hu0) rfl ?_
  refine pr_getf dX6_unset_40 pzf_6_40 (sH_0 hj) rfl ?_
  refine pr_iload dX6_unset_43 rfl ?_
  refine pr_iload_n dX6_unset_45 rfl ?_
  refine pr_iload_n dX6_unset_46 rfl ?_
  refine zcv3i dX6_unset_47 pzm_6_185 pzt_X1_refusalToTake (sH_1 hj) (kX1_refusalToTake hj hX g1 (by omega) g2.1 g2.2) (by decide) (Nat.le_of_ble_eq_true rfl) (by decide) ?_
  have e9 : (xrT X (xix X n) c hd) = (xrT X (xix X n) c hd) := rfl
  rw [e9, g9]
  refine zcv1i dX6_unset_50 pzm_6_92 pzt_X6_keepIfRefused (gS_0 ht hD hu0) (kX6_keepIfRefused_0 hV) (by decide) (Nat.le_of_ble_eq_true rfl) (by decide) ?_
  refine zr_if_eq (tgt := 66) dX6_unset_53 (by decide) (by decide) (fun c53 => ?_) (fun c53 => by exfalso; omega)
  refine pr_aload_n dX6_unset_66 rfl ?_
  refine pr_getf dX6_unset_67 pzf_6_22 (gS_0 ht hD hu0) rfl ?_
  refine pr_aload_n dX6_unset_70 rfl ?_
  refine pr_getf dX6_unset_71 pzf_6_10 (gS_0 ht hD hu0) rfl ?_
  refine zcv1u dX6_unset_74 pzm_6_71 pzt_X2_remember (gH_1 ht hD) (kX2_remember hj ht hD hI hb hub f0 f1 r0 r1) (by decide) (Nat.le_of_ble_eq_true rfl) (by decide) ?_
  refine pr_aload_n dX6_unset_77 rfl ?_
  refine pr_getf dX6_unset_78 pzf_6_10 (gS_0 ht hD hu0) rfl ?_
  refine pr_getf dX6_unset_81 pzf_6_40 (sH_0 hj) rfl ?_
  refine pr_iload dX6_unset_84 rfl ?_
  refine pr_iload_n dX6_unset_86 rfl ?_
  refine pr_iload_n dX6_unset_87 rfl ?_
  refine zcv3i dX6_unset_88 pzm_6_189 pzt_X1_take (sH_1 hj) (kX1_take hj hX g1 (by omega) g2.1 g2.2) (by decide) (Nat.le_of_ble_eq_true rfl) (by decide) ?_
  exact pr_iret dX6_unset_91 rfl rfl (zret (by rfl))
set_option maxRecDepth 100000 in
set_option maxHeartbeats 4000000 in
theorem kX6_unset_r (hV : cV t u a K X) {n c : Int} (h1 : zR n) (h2 : zR c) {hd : Prop} [dd : Decidable hd] (g1 : 0 ≤ xix X n) (g2 : 0 ≤ c ∧ c ≤ 11) (g9 : ¬ (xrT X (xix X n) c hd) = 0) : pz_Cd en 9 81 [.ref (t 0), .int (zI n), .int (zI c), .int (zI (bI hd))] (sH (tH h t u K) a (sq a) X) 1 6 (pz_thr "java/lang/UnsupportedOperationException" (sH (tH h t u (zv K 0 (zu (K 0) 5 (xrT X (xix X n) c hd)))) a (sq a) X)) := by
  refine pz_in pzt_X6_unset ?_
  obtain ⟨hj, ht, hD, hu0, hI, hK, ⟨f0, f1⟩, ⟨r0, r1⟩, ⟨q0, q1⟩, hA⟩ := id hV
  have hX := hI.1
  obtain ⟨hR, hn0, hn1, hm0, hm1⟩ := id hX
  have hp := xix_R hX n
  have hr9 := xrT_R (X := X) (i := xix X n) (c := c) (hd := hd)
  refine pr_aload_n dX6_unset_0 rfl ?_
  refine pr_getf dX6_unset_1 pzf_6_10 (gS_0 ht hD hu0) rfl ?_
  refine pr_getf dX6_unset_4 pzf_6_40 (sH_0 hj) rfl ?_
  refine pr_iload_n dX6_unset_7 rfl ?_
  refine zcv1i dX6_unset_8 pzm_6_79 pzt_X1_indexOf (sH_1 hj) (kX1_indexOf hj hX (by omega)) (by decide) (Nat.le_of_ble_eq_true rfl) (by decide) ?_
  refine pr_istore dX6_unset_11 (by decide) rfl ?_
  refine pr_iload dX6_unset_13 rfl ?_
  refine zr_if_lt (tgt := 25) dX6_unset_15 (by decide) (by omega) (fun c15 => by exfalso; omega) (fun c15 => ?_)
  refine pr_iload_n dX6_unset_18 rfl ?_
  refine zcs1i dX6_unset_19 pzm_6_159 pzt_X6_isChannel (kX6_isChannel (by omega)) (by decide) (Nat.le_of_ble_eq_true rfl) ?_
  refine zr_if_ne (tgt := 35) dX6_unset_22 (by decide) (bI_R _) (fun c22 => ?_) (fun c22 => by exfalso; have bb := bI_0 c22; omega)
  have b22 := bI_ne c22
  refine pr_aload_n dX6_unset_35 rfl ?_
  refine pr_aload_n dX6_unset_36 rfl ?_
  refine pr_getf dX6_unset_37 pzf_6_10 (gS_0 ht hD hu0) rfl ?_
  refine pr_getf dX6_unset_40 pzf_6_40 (sH_0 hj) rfl ?_
  refine pr_iload dX6_unset_43 rfl ?_
  refine pr_iload_n dX6_unset_45 rfl ?_
  refine pr_iload_n dX6_unset_46 rfl ?_
  refine zcv3i dX6_unset_47 pzm_6_185 pzt_X1_refusalToTake (sH_1 hj) (kX1_refusalToTake hj hX g1 (by omega) g2.1 g2.2) (by decide) (Nat.le_of_ble_eq_true rfl) (by decide) ?_
  have e9 : (xrT X (xix X n) c hd) = (xrT X (xix X n) c hd) := rfl
  rw [e9]
  refine zcv1i dX6_unset_50 pzm_6_92 pzt_X6_keepIfRefused (gS_0 ht hD hu0) (kX6_keepIfRefused_1 hV (by omega) g9) (by decide) (Nat.le_of_ble_eq_true rfl) (by decide) ?_
  refine zr_if_eq (tgt := 66) dX6_unset_53 (by decide) (by decide) (fun c53 => by exfalso; omega) (fun c53 => ?_)
  exact pr_thr dX6_unset_56 dX6_unset_59 dX6_unset_60 dX6_unset_62 dX6_unset_65 pze_6_95 pzs_97 rfl (by decide) rfl ⟨rfl, rfl⟩
set_option maxRecDepth 100000 in
set_option maxHeartbeats 4000000 in
theorem kX6_unset_t (hV : cV t u a K X) {n c : Int} (h1 : zR n) (h2 : zR c) {hd : Prop} [dd : Decidable hd] (g1 : ¬ (0 ≤ xix X n ∧ 0 ≤ c ∧ c ≤ 11)) : pz_Cd en 9 81 [.ref (t 0), .int (zI n), .int (zI c), .int (zI (bI hd))] (sH (tH h t u K) a (sq a) X) 1 6 (pz_thr "java/lang/IndexOutOfBoundsException" (sH (tH h t u K) a (sq a) X)) := by
  refine pz_in pzt_X6_unset ?_
  obtain ⟨hj, ht, hD, hu0, hI, hK, ⟨f0, f1⟩, ⟨r0, r1⟩, ⟨q0, q1⟩, hA⟩ := id hV
  have hX := hI.1
  obtain ⟨hR, hn0, hn1, hm0, hm1⟩ := id hX
  have hp := xix_R hX n
  refine pr_aload_n dX6_unset_0 rfl ?_
  refine pr_getf dX6_unset_1 pzf_6_10 (gS_0 ht hD hu0) rfl ?_
  refine pr_getf dX6_unset_4 pzf_6_40 (sH_0 hj) rfl ?_
  refine pr_iload_n dX6_unset_7 rfl ?_
  refine zcv1i dX6_unset_8 pzm_6_79 pzt_X1_indexOf (sH_1 hj) (kX1_indexOf hj hX (by omega)) (by decide) (Nat.le_of_ble_eq_true rfl) (by decide) ?_
  refine pr_istore dX6_unset_11 (by decide) rfl ?_
  refine pr_iload dX6_unset_13 rfl ?_
  refine zr_if_lt (tgt := 25) dX6_unset_15 (by decide) (by omega) (fun c15 => ?_) (fun c15 => ?_)
  · exact pr_thr dX6_unset_25 dX6_unset_28 dX6_unset_29 dX6_unset_31 dX6_unset_34 pze_6_83 pzs_183 rfl (by decide) rfl ⟨rfl, rfl⟩
  · refine pr_iload_n dX6_unset_18 rfl ?_
    refine zcs1i dX6_unset_19 pzm_6_159 pzt_X6_isChannel (kX6_isChannel (by omega)) (by decide) (Nat.le_of_ble_eq_true rfl) ?_
    refine zr_if_ne (tgt := 35) dX6_unset_22 (by decide) (bI_R _) (fun c22 => by exfalso; have bb := bI_ne c22; omega) (fun c22 => ?_)
    have b22 := bI_0 c22
    exact pr_thr dX6_unset_25 dX6_unset_28 dX6_unset_29 dX6_unset_31 dX6_unset_34 pze_6_83 pzs_183 rfl (by decide) rfl ⟨rfl, rfl⟩
set_option maxRecDepth 100000 in
set_option maxHeartbeats 4000000 in
theorem kX6_go_k (hV : cV t u a K X) (g1 : 0 ≤ xnk X) (hb : bO h t a b Y) (hub : u (2 + K 1 1) = b 0) : pz_Cd en 9 90 [.ref (t 0)] (sH (tH h t u K) a (sq a) X) 0 0 (pz_ret (some (.int (zI (X (7 + 5 * xnk X) 0)))) (sH (tH (sH h b (sq b) (xcp Y X)) t u (kR K)) a (sq a) (xgo X (xnk X)))) := by
  refine pz_in pzt_X6_go ?_
  obtain ⟨hj, ht, hD, hu0, hI, hK, ⟨f0, f1⟩, ⟨r0, r1⟩, ⟨q0, q1⟩, hA⟩ := id hV
  have hX := hI.1
  obtain ⟨hR, hn0, hn1, hm0, hm1⟩ := id hX
  have hp := xnk_R hX
  refine pr_aload_n dX6_go_0 rfl ?_
  refine pr_getf dX6_go_1 pzf_6_10 (gS_0 ht hD hu0) rfl ?_
  refine pr_getf dX6_go_4 pzf_6_223 (sH_0 hj) rfl ?_
  refine pr_aload_n dX6_go_7 rfl ?_
  refine pr_getf dX6_go_8 pzf_6_10 (gS_0 ht hD hu0) rfl ?_
  refine pr_getf dX6_go_11 pzf_6_40 (sH_0 hj) rfl ?_
  refine zcv1i dX6_go_14 pzm_6_227 pzt_X4_nextIndex (sH_67 hj) (kX4_nextIndex hj hX) (by decide) (Nat.le_of_ble_eq_true rfl) (by decide) ?_
  refine pr_istore_n dX6_go_17 (by decide) rfl ?_
  refine pr_iload_n dX6_go_18 rfl ?_
  refine zr_if_ge (tgt := 37) dX6_go_19 (by decide) (by omega) (fun c19 => ?_) (fun c19 => by exfalso; omega)
  refine pr_aload_n dX6_go_37 rfl ?_
  refine pr_getf dX6_go_38 pzf_6_22 (gS_0 ht hD hu0) rfl ?_
  refine pr_aload_n dX6_go_41 rfl ?_
  refine pr_getf dX6_go_42 pzf_6_10 (gS_0 ht hD hu0) rfl ?_
  refine zcv1u dX6_go_45 pzm_6_71 pzt_X2_remember (gH_1 ht hD) (kX2_remember hj ht hD hI hb hub f0 f1 r0 r1) (by decide) (Nat.le_of_ble_eq_true rfl) (by decide) ?_
  refine pr_aload_n dX6_go_48 rfl ?_
  refine pr_getf dX6_go_49 pzf_6_10 (gS_0 ht hD hu0) rfl ?_
  refine pr_getf dX6_go_52 pzf_6_223 (sH_0 hj) rfl ?_
  refine pr_aload_n dX6_go_55 rfl ?_
  refine pr_getf dX6_go_56 pzf_6_10 (gS_0 ht hD hu0) rfl ?_
  refine pr_getf dX6_go_59 pzf_6_40 (sH_0 hj) rfl ?_
  refine pr_iload_n dX6_go_62 rfl ?_
  refine zcv2i dX6_go_63 pzm_6_235 pzt_X4_letGo (sH_67 hj) (kX4_letGo hj hI g1 (by omega)) (by decide) (Nat.le_of_ble_eq_true rfl) (by decide) ?_
  refine pr_pop dX6_go_66 rfl ?_
  refine pr_aload_n dX6_go_67 rfl ?_
  refine pr_getf dX6_go_68 pzf_6_10 (gS_0 ht hD hu0) rfl ?_
  refine pr_getf dX6_go_71 pzf_6_40 (sH_0 hj) rfl ?_
  refine pr_getf dX6_go_74 pzf_6_108 (sH_1 hj) rfl ?_
  refine pr_iload_n dX6_go_77 rfl ?_
  refine zr_crow hj dX6_go_78 (by omega) (by omega) ?_
  refine pr_getf dX6_go_79 pzf_6_112 (sH_C hj (by omega) (by omega)) rfl ?_
  exact pr_iret dX6_go_82 rfl rfl (zret (by rw [xgo_lo (by omega)]))
set_option maxRecDepth 100000 in
set_option maxHeartbeats 4000000 in
theorem kX6_go_r (hV : cV t u a K X) (g1 : ¬ 0 ≤ xnk X) : pz_Cd en 9 90 [.ref (t 0)] (sH (tH h t u K) a (sq a) X) 1 6 (pz_thr "java/lang/UnsupportedOperationException" (sH (tH h t u (zv K 0 (zu (K 0) 5 4))) a (sq a) X)) := by
  refine pz_in pzt_X6_go ?_
  obtain ⟨hj, ht, hD, hu0, hI, hK, ⟨f0, f1⟩, ⟨r0, r1⟩, ⟨q0, q1⟩, hA⟩ := id hV
  have hX := hI.1
  obtain ⟨hR, hn0, hn1, hm0, hm1⟩ := id hX
  have hp := xnk_R hX
  refine pr_aload_n dX6_go_0 rfl ?_
  refine pr_getf dX6_go_1 pzf_6_10 (gS_0 ht hD hu0) rfl ?_
  refine pr_getf dX6_go_4 pzf_6_223 (sH_0 hj) rfl ?_
  refine pr_aload_n dX6_go_7 rfl ?_
  refine pr_getf dX6_go_8 pzf_6_10 (gS_0 ht hD hu0) rfl ?_
  refine pr_getf dX6_go_11 pzf_6_40 (sH_0 hj) rfl ?_
  refine zcv1i dX6_go_14 pzm_6_227 pzt_X4_nextIndex (sH_67 hj) (kX4_nextIndex hj hX) (by decide) (Nat.le_of_ble_eq_true rfl) (by decide) ?_
  refine pr_istore_n dX6_go_17 (by decide) rfl ?_
  refine pr_iload_n dX6_go_18 rfl ?_
  refine zr_if_ge (tgt := 37) dX6_go_19 (by decide) (by omega) (fun c19 => by exfalso; omega) (fun c19 => ?_)
  refine pr_aload_n dX6_go_22 rfl ?_
  refine zr_iconst dX6_go_23 ?_
  refine pr_putf dX6_go_24 pzf_6_33 (Or.inl rfl) (gS_0 ht hD hu0) (Nat.le_of_ble_eq_true rfl) rfl rfl (gS_p0_5 hj ht hD hu0) ?_
  exact pr_thr dX6_go_27 dX6_go_30 dX6_go_31 dX6_go_33 dX6_go_36 pze_6_95 pzs_233 rfl (by decide) rfl ⟨rfl, rfl⟩
set_option maxRecDepth 100000 in
set_option maxHeartbeats 4000000 in
theorem kX6_back_k (hV : cV t u a K X) (g1 : 0 ≤ (xlkF X (X 1 1 - 1 + 1).toNat)) (hb : bO h t a b Y) (hub : u (2 + K 1 1) = b 0) : pz_Cd en 9 91 [.ref (t 0)] (sH (tH h t u K) a (sq a) X) 0 0 (pz_ret (some (.int (zI (X (7 + 5 * (xlkF X (X 1 1 - 1 + 1).toNat)) 0)))) (sH (tH (sH h b (sq b) (xcp Y X)) t u (kR K)) a (sq a) (xgo X (xlkF X (X 1 1 - 1 + 1).toNat)))) := by
  refine pz_in pzt_X6_back ?_
  obtain ⟨hj, ht, hD, hu0, hI, hK, ⟨f0, f1⟩, ⟨r0, r1⟩, ⟨q0, q1⟩, hA⟩ := id hV
  have hX := hI.1
  obtain ⟨hR, hn0, hn1, hm0, hm1⟩ := id hX
  have hp := xlkF_R (X := X) (X 1 1 - 1 + 1).toNat
  refine pr_aload_n dX6_back_0 rfl ?_
  refine pr_getf dX6_back_1 pzf_6_10 (gS_0 ht hD hu0) rfl ?_
  refine pr_getf dX6_back_4 pzf_6_223 (sH_0 hj) rfl ?_
  refine pr_aload_n dX6_back_7 rfl ?_
  refine pr_getf dX6_back_8 pzf_6_10 (gS_0 ht hD hu0) rfl ?_
  refine pr_getf dX6_back_11 pzf_6_40 (sH_0 hj) rfl ?_
  refine zcv1i dX6_back_14 pzm_6_239 pzt_X4_lowerIndex (sH_67 hj) (kX4_lowerIndex hj hX) (by decide) (Nat.le_of_ble_eq_true rfl) (by decide) ?_
  refine pr_istore_n dX6_back_17 (by decide) rfl ?_
  refine pr_iload_n dX6_back_18 rfl ?_
  refine zr_if_ge (tgt := 37) dX6_back_19 (by decide) (by omega) (fun c19 => ?_) (fun c19 => by exfalso; omega)
  refine pr_aload_n dX6_back_37 rfl ?_
  refine pr_getf dX6_back_38 pzf_6_22 (gS_0 ht hD hu0) rfl ?_
  refine pr_aload_n dX6_back_41 rfl ?_
  refine pr_getf dX6_back_42 pzf_6_10 (gS_0 ht hD hu0) rfl ?_
  refine zcv1u dX6_back_45 pzm_6_71 pzt_X2_remember (gH_1 ht hD) (kX2_remember hj ht hD hI hb hub f0 f1 r0 r1) (by decide) (Nat.le_of_ble_eq_true rfl) (by decide) ?_
  refine pr_aload_n dX6_back_48 rfl ?_
  refine pr_getf dX6_back_49 pzf_6_10 (gS_0 ht hD hu0) rfl ?_
  refine pr_getf dX6_back_52 pzf_6_223 (sH_0 hj) rfl ?_
  refine pr_aload_n dX6_back_55 rfl ?_
  refine pr_getf dX6_back_56 pzf_6_10 (gS_0 ht hD hu0) rfl ?_
  refine pr_getf dX6_back_59 pzf_6_40 (sH_0 hj) rfl ?_
  refine pr_iload_n dX6_back_62 rfl ?_
  refine zcv2i dX6_back_63 pzm_6_235 pzt_X4_letGo (sH_67 hj) (kX4_letGo hj hI g1 (by omega)) (by decide) (Nat.le_of_ble_eq_true rfl) (by decide) ?_
  refine pr_pop dX6_back_66 rfl ?_
  refine pr_aload_n dX6_back_67 rfl ?_
  refine pr_getf dX6_back_68 pzf_6_10 (gS_0 ht hD hu0) rfl ?_
  refine pr_getf dX6_back_71 pzf_6_40 (sH_0 hj) rfl ?_
  refine pr_getf dX6_back_74 pzf_6_108 (sH_1 hj) rfl ?_
  refine pr_iload_n dX6_back_77 rfl ?_
  refine zr_crow hj dX6_back_78 (by omega) (by omega) ?_
  refine pr_getf dX6_back_79 pzf_6_112 (sH_C hj (by omega) (by omega)) rfl ?_
  exact pr_iret dX6_back_82 rfl rfl (zret (by rw [xgo_lo (by omega)]))
set_option maxRecDepth 100000 in
set_option maxHeartbeats 4000000 in
theorem kX6_back_r (hV : cV t u a K X) (g1 : ¬ 0 ≤ (xlkF X (X 1 1 - 1 + 1).toNat)) : pz_Cd en 9 91 [.ref (t 0)] (sH (tH h t u K) a (sq a) X) 1 6 (pz_thr "java/lang/UnsupportedOperationException" (sH (tH h t u (zv K 0 (zu (K 0) 5 5))) a (sq a) X)) := by
  refine pz_in pzt_X6_back ?_
  obtain ⟨hj, ht, hD, hu0, hI, hK, ⟨f0, f1⟩, ⟨r0, r1⟩, ⟨q0, q1⟩, hA⟩ := id hV
  have hX := hI.1
  obtain ⟨hR, hn0, hn1, hm0, hm1⟩ := id hX
  have hp := xlkF_R (X := X) (X 1 1 - 1 + 1).toNat
  refine pr_aload_n dX6_back_0 rfl ?_
  refine pr_getf dX6_back_1 pzf_6_10 (gS_0 ht hD hu0) rfl ?_
  refine pr_getf dX6_back_4 pzf_6_223 (sH_0 hj) rfl ?_
  refine pr_aload_n dX6_back_7 rfl ?_
  refine pr_getf dX6_back_8 pzf_6_10 (gS_0 ht hD hu0) rfl ?_
  refine pr_getf dX6_back_11 pzf_6_40 (sH_0 hj) rfl ?_
  refine zcv1i dX6_back_14 pzm_6_239 pzt_X4_lowerIndex (sH_67 hj) (kX4_lowerIndex hj hX) (by decide) (Nat.le_of_ble_eq_true rfl) (by decide) ?_
  refine pr_istore_n dX6_back_17 (by decide) rfl ?_
  refine pr_iload_n dX6_back_18 rfl ?_
  refine zr_if_ge (tgt := 37) dX6_back_19 (by decide) (by omega) (fun c19 => by exfalso; omega) (fun c19 => ?_)
  refine pr_aload_n dX6_back_22 rfl ?_
  refine zr_iconst dX6_back_23 ?_
  refine pr_putf dX6_back_24 pzf_6_33 (Or.inl rfl) (gS_0 ht hD hu0) (Nat.le_of_ble_eq_true rfl) rfl rfl (gS_p0_5 hj ht hD hu0) ?_
  exact pr_thr dX6_back_27 dX6_back_30 dX6_back_31 dX6_back_33 dX6_back_36 pze_6_95 pzs_242 rfl (by decide) rfl ⟨rfl, rfl⟩
set_option maxRecDepth 100000 in
set_option maxHeartbeats 4000000 in
theorem kX6_jump_k (hV : cV t u a K X) {n : Int} (h1 : zR n) (g1 : 0 ≤ xix X n) (hb : bO h t a b Y) (hub : u (2 + K 1 1) = b 0) : pz_Cd en 9 92 [.ref (t 0), .int (zI n)] (sH (tH h t u K) a (sq a) X) 0 0 (pz_ret (some (.int (zI (xgn X (xix X n))))) (sH (tH (sH h b (sq b) (xcp Y X)) t u (kR K)) a (sq a) (xgo X (xix X n)))) := by
  refine pz_in pzt_X6_jump ?_
  obtain ⟨hj, ht, hD, hu0, hI, hK, ⟨f0, f1⟩, ⟨r0, r1⟩, ⟨q0, q1⟩, hA⟩ := id hV
  have hX := hI.1
  obtain ⟨hR, hn0, hn1, hm0, hm1⟩ := id hX
  have hp := xix_R hX n
  refine pr_aload_n dX6_jump_0 rfl ?_
  refine pr_getf dX6_jump_1 pzf_6_10 (gS_0 ht hD hu0) rfl ?_
  refine pr_getf dX6_jump_4 pzf_6_40 (sH_0 hj) rfl ?_
  refine pr_iload_n dX6_jump_7 rfl ?_
  refine zcv1i dX6_jump_8 pzm_6_79 pzt_X1_indexOf (sH_1 hj) (kX1_indexOf hj hX (by omega)) (by decide) (Nat.le_of_ble_eq_true rfl) (by decide) ?_
  refine pr_istore_n dX6_jump_11 (by decide) rfl ?_
  refine pr_iload_n dX6_jump_12 rfl ?_
  refine zr_if_ge (tgt := 26) dX6_jump_13 (by decide) (by omega) (fun c13 => ?_) (fun c13 => by exfalso; omega)
  refine pr_aload_n dX6_jump_26 rfl ?_
  refine pr_getf dX6_jump_27 pzf_6_22 (gS_0 ht hD hu0) rfl ?_
  refine pr_aload_n dX6_jump_30 rfl ?_
  refine pr_getf dX6_jump_31 pzf_6_10 (gS_0 ht hD hu0) rfl ?_
  refine zcv1u dX6_jump_34 pzm_6_71 pzt_X2_remember (gH_1 ht hD) (kX2_remember hj ht hD hI hb hub f0 f1 r0 r1) (by decide) (Nat.le_of_ble_eq_true rfl) (by decide) ?_
  refine pr_aload_n dX6_jump_37 rfl ?_
  refine pr_getf dX6_jump_38 pzf_6_10 (gS_0 ht hD hu0) rfl ?_
  refine pr_getf dX6_jump_41 pzf_6_223 (sH_0 hj) rfl ?_
  refine pr_aload_n dX6_jump_44 rfl ?_
  refine pr_getf dX6_jump_45 pzf_6_10 (gS_0 ht hD hu0) rfl ?_
  refine pr_getf dX6_jump_48 pzf_6_40 (sH_0 hj) rfl ?_
  refine pr_iload_n dX6_jump_51 rfl ?_
  refine zcv2i dX6_jump_52 pzm_6_235 pzt_X4_letGo (sH_67 hj) (kX4_letGo hj hI g1 (by omega)) (by decide) (Nat.le_of_ble_eq_true rfl) (by decide) ?_
  exact pr_iret dX6_jump_55 rfl rfl (zret (by rfl))
set_option maxRecDepth 100000 in
set_option maxHeartbeats 4000000 in
theorem kX6_jump_t (hV : cV t u a K X) {n : Int} (h1 : zR n) (g1 : ¬ 0 ≤ xix X n) : pz_Cd en 9 92 [.ref (t 0), .int (zI n)] (sH (tH h t u K) a (sq a) X) 1 6 (pz_thr "java/lang/IndexOutOfBoundsException" (sH (tH h t u K) a (sq a) X)) := by
  refine pz_in pzt_X6_jump ?_
  obtain ⟨hj, ht, hD, hu0, hI, hK, ⟨f0, f1⟩, ⟨r0, r1⟩, ⟨q0, q1⟩, hA⟩ := id hV
  have hX := hI.1
  obtain ⟨hR, hn0, hn1, hm0, hm1⟩ := id hX
  have hp := xix_R hX n
  refine pr_aload_n dX6_jump_0 rfl ?_
  refine pr_getf dX6_jump_1 pzf_6_10 (gS_0 ht hD hu0) rfl ?_
  refine pr_getf dX6_jump_4 pzf_6_40 (sH_0 hj) rfl ?_
  refine pr_iload_n dX6_jump_7 rfl ?_
  refine zcv1i dX6_jump_8 pzm_6_79 pzt_X1_indexOf (sH_1 hj) (kX1_indexOf hj hX (by omega)) (by decide) (Nat.le_of_ble_eq_true rfl) (by decide) ?_
  refine pr_istore_n dX6_jump_11 (by decide) rfl ?_
  refine pr_iload_n dX6_jump_12 rfl ?_
  refine zr_if_ge (tgt := 26) dX6_jump_13 (by decide) (by omega) (fun c13 => by exfalso; omega) (fun c13 => ?_)
  exact pr_thr dX6_jump_16 dX6_jump_19 dX6_jump_20 dX6_jump_22 dX6_jump_25 pze_6_83 pzs_85 rfl (by decide) rfl ⟨rfl, rfl⟩
set_option maxRecDepth 100000 in
set_option maxHeartbeats 4000000 in
theorem kX6_pass_k (hV : cV t u a K X) {q : Int} (h1 : zR q) (g1 : 0 ≤ q ∧ q ≤ 6000) (g2 : X 67 8 + q ≤ 100000) (hb : bO h t a b Y) (hub : u (2 + K 1 1) = b 0) : pz_Cd en 9 93 [.ref (t 0), .int (zI q)] (sH (tH h t u K) a (sq a) X) 0 0 (pz_ret (some (.int (zI (xpsF q.toNat X q).1))) (sH (tH (sH h b (sq b) (xcp Y X)) t u (kR K)) a (sq a) (xpsF q.toNat X q).2)) := by
  refine pz_in pzt_X6_pass ?_
  obtain ⟨hj, ht, hD, hu0, hI, hK, ⟨f0, f1⟩, ⟨r0, r1⟩, ⟨q0, q1⟩, hA⟩ := id hV
  have hX := hI.1
  obtain ⟨hR, hn0, hn1, hm0, hm1⟩ := id hX
  have hl := hI.2.2.2.2.2.2.2.2
  refine pr_iload_n dX6_pass_0 rfl ?_
  refine zr_iconst dX6_pass_1 ?_
  refine zr_sipush dX6_pass_2 (by decide) ?_
  refine zcs3i dX6_pass_5 pzm_6_117 pzt_X6_isWithin (kX6_isWithin (by omega) (by omega) (by omega)) (by decide) (Nat.le_of_ble_eq_true rfl) ?_
  refine zr_if_ne (tgt := 21) dX6_pass_8 (by decide) (bI_R _) (fun c8 => ?_) (fun c8 => by exfalso; have bb := bI_0 c8; omega)
  have b8 := bI_ne c8
  refine pr_aload_n dX6_pass_21 rfl ?_
  refine pr_getf dX6_pass_22 pzf_6_10 (gS_0 ht hD hu0) rfl ?_
  refine pr_getf dX6_pass_25 pzf_6_223 (sH_0 hj) rfl ?_
  refine pr_iload_n dX6_pass_28 rfl ?_
  refine zcv1i dX6_pass_29 pzm_6_244 pzt_X4_hasTimeFor (sH_67 hj) (kX4_hasTimeFor hj hX (by omega) hl.2.2.2.2) (by decide) (Nat.le_of_ble_eq_true rfl) (by decide) ?_
  refine zr_if_ne (tgt := 45) dX6_pass_32 (by decide) (bI_R _) (fun c32 => ?_) (fun c32 => by exfalso; have bb := bI_0 c32; omega)
  have b32 := bI_ne c32
  refine pr_aload_n dX6_pass_45 rfl ?_
  refine pr_getf dX6_pass_46 pzf_6_22 (gS_0 ht hD hu0) rfl ?_
  refine pr_aload_n dX6_pass_49 rfl ?_
  refine pr_getf dX6_pass_50 pzf_6_10 (gS_0 ht hD hu0) rfl ?_
  refine zcv1u dX6_pass_53 pzm_6_71 pzt_X2_remember (gH_1 ht hD) (kX2_remember hj ht hD hI hb hub f0 f1 r0 r1) (by decide) (Nat.le_of_ble_eq_true rfl) (by decide) ?_
  refine pr_aload_n dX6_pass_56 rfl ?_
  refine pr_getf dX6_pass_57 pzf_6_10 (gS_0 ht hD hu0) rfl ?_
  refine pr_getf dX6_pass_60 pzf_6_223 (sH_0 hj) rfl ?_
  refine pr_aload_n dX6_pass_63 rfl ?_
  refine pr_getf dX6_pass_64 pzf_6_10 (gS_0 ht hD hu0) rfl ?_
  refine pr_getf dX6_pass_67 pzf_6_40 (sH_0 hj) rfl ?_
  refine pr_iload_n dX6_pass_70 rfl ?_
  refine zcv2i dX6_pass_71 pzm_6_249 pzt_X4_letPass (sH_67 hj) (kX4_letPass hj hI g1.1 (by omega) g2) (by decide) (Nat.le_of_ble_eq_true rfl) (by decide) ?_
  exact pr_iret dX6_pass_74 rfl rfl (zret (by rfl))
set_option maxRecDepth 100000 in
set_option maxHeartbeats 4000000 in
theorem kX6_pass_t1 (hV : cV t u a K X) {q : Int} (h1 : zR q) (g1 : ¬ (0 ≤ q ∧ q ≤ 6000)) : pz_Cd en 9 93 [.ref (t 0), .int (zI q)] (sH (tH h t u K) a (sq a) X) 1 6 (pz_thr "java/lang/IllegalArgumentException" (sH (tH h t u K) a (sq a) X)) := by
  refine pz_in pzt_X6_pass ?_
  obtain ⟨hj, ht, hD, hu0, hI, hK, ⟨f0, f1⟩, ⟨r0, r1⟩, ⟨q0, q1⟩, hA⟩ := id hV
  have hX := hI.1
  obtain ⟨hR, hn0, hn1, hm0, hm1⟩ := id hX
  refine pr_iload_n dX6_pass_0 rfl ?_
  refine zr_iconst dX6_pass_1 ?_
  refine zr_sipush dX6_pass_2 (by decide) ?_
  refine zcs3i dX6_pass_5 pzm_6_117 pzt_X6_isWithin (kX6_isWithin (by omega) (by omega) (by omega)) (by decide) (Nat.le_of_ble_eq_true rfl) ?_
  refine zr_if_ne (tgt := 21) dX6_pass_8 (by decide) (bI_R _) (fun c8 => by exfalso; have bb := bI_ne c8; omega) (fun c8 => ?_)
  have b8 := bI_0 c8
  exact pr_thr dX6_pass_11 dX6_pass_14 dX6_pass_15 dX6_pass_17 dX6_pass_20 pze_6_59 pzs_138 rfl (by decide) rfl ⟨rfl, rfl⟩
set_option maxRecDepth 100000 in
set_option maxHeartbeats 4000000 in
theorem kX6_pass_t2 (hV : cV t u a K X) {q : Int} (h1 : zR q) (g1 : 0 ≤ q ∧ q ≤ 6000) (g2 : ¬ X 67 8 + q ≤ 100000) : pz_Cd en 9 93 [.ref (t 0), .int (zI q)] (sH (tH h t u K) a (sq a) X) 1 6 (pz_thr "java/lang/IllegalStateException" (sH (tH h t u K) a (sq a) X)) := by
  refine pz_in pzt_X6_pass ?_
  obtain ⟨hj, ht, hD, hu0, hI, hK, ⟨f0, f1⟩, ⟨r0, r1⟩, ⟨q0, q1⟩, hA⟩ := id hV
  have hX := hI.1
  obtain ⟨hR, hn0, hn1, hm0, hm1⟩ := id hX
  have hl := hI.2.2.2.2.2.2.2.2
  refine pr_iload_n dX6_pass_0 rfl ?_
  refine zr_iconst dX6_pass_1 ?_
  refine zr_sipush dX6_pass_2 (by decide) ?_
  refine zcs3i dX6_pass_5 pzm_6_117 pzt_X6_isWithin (kX6_isWithin (by omega) (by omega) (by omega)) (by decide) (Nat.le_of_ble_eq_true rfl) ?_
  refine zr_if_ne (tgt := 21) dX6_pass_8 (by decide) (bI_R _) (fun c8 => ?_) (fun c8 => by exfalso; have bb := bI_0 c8; omega)
  have b8 := bI_ne c8
  refine pr_aload_n dX6_pass_21 rfl ?_
  refine pr_getf dX6_pass_22 pzf_6_10 (gS_0 ht hD hu0) rfl ?_
  refine pr_getf dX6_pass_25 pzf_6_223 (sH_0 hj) rfl ?_
  refine pr_iload_n dX6_pass_28 rfl ?_
  refine zcv1i dX6_pass_29 pzm_6_244 pzt_X4_hasTimeFor (sH_67 hj) (kX4_hasTimeFor hj hX (by omega) hl.2.2.2.2) (by decide) (Nat.le_of_ble_eq_true rfl) (by decide) ?_
  refine zr_if_ne (tgt := 45) dX6_pass_32 (by decide) (bI_R _) (fun c32 => by exfalso; have bb := bI_ne c32; omega) (fun c32 => ?_)
  have b32 := bI_0 c32
  exact pr_thr dX6_pass_35 dX6_pass_38 dX6_pass_39 dX6_pass_41 dX6_pass_44 pze_6_66 pzs_247 rfl (by decide) rfl ⟨rfl, rfl⟩
set_option maxRecDepth 100000 in
set_option maxHeartbeats 4000000 in
theorem kX6_append_k (hV : cV t u a K X) {c : Int} (h1 : 0 ≤ c ∧ c < 65536) (g1 : 32 ≤ c ∧ c ≤ 126) (g2 : K 3 1 < 60) : pz_Cd en 9 101 [.ref (t 0), .int (zI c)] (sH (tH h t u K) a (sq a) X) 0 0 (pz_ret (some (.int (zI (K 3 1 + 1)))) (sH (tH h t u (zv (zv K 4 (zu (K 4) (K 3 1) c)) 3 (zu (K 3) 1 (K 3 1 + 1)))) a (sq a) X)) := by
  refine pz_in pzt_X6_append ?_
  obtain ⟨hj, ht, hD, hu0, hI, hK, ⟨f0, f1⟩, ⟨r0, r1⟩, ⟨q0, q1⟩, hA⟩ := id hV
  have hX := hI.1
  obtain ⟨hR, hn0, hn1, hm0, hm1⟩ := id hX
  refine pr_iload_n dX6_append_0 rfl ?_
  refine zr_bipush dX6_append_1 (by decide) ?_
  refine zr_icmp_lt (tgt := 12) dX6_append_3 (by decide) (by omega) (by omega) (fun c3 => by exfalso; omega) (fun c3 => ?_)
  refine pr_iload_n dX6_append_6 rfl ?_
  refine zr_bipush dX6_append_7 (by decide) ?_
  refine zr_icmp_le (tgt := 23) dX6_append_9 (by decide) (by omega) (by omega) (fun c9 => ?_) (fun c9 => by exfalso; omega)
  refine pr_aload_n dX6_append_23 rfl ?_
  refine pr_getf dX6_append_24 pzf_6_29 (gS_0 ht hD hu0) rfl ?_
  refine pr_getf dX6_append_27 pzf_6_313 (gH_3 ht hD) rfl ?_
  refine zr_bipush dX6_append_30 (by decide) ?_
  refine zr_icmp_lt (tgt := 46) dX6_append_32 (by decide) (by omega) (by omega) (fun c32 => ?_) (fun c32 => by exfalso; omega)
  refine pr_aload_n dX6_append_46 rfl ?_
  refine pr_getf dX6_append_47 pzf_6_29 (gS_0 ht hD hu0) rfl ?_
  refine pr_getf dX6_append_50 pzf_6_318 (gH_3 ht hD) rfl ?_
  refine pr_aload_n dX6_append_53 rfl ?_
  refine pr_getf dX6_append_54 pzf_6_29 (gS_0 ht hD hu0) rfl ?_
  refine pr_getf dX6_append_57 pzf_6_313 (gH_3 ht hD) rfl ?_
  refine pr_iload_n dX6_append_60 rfl ?_
  refine zr_cast dX6_append_61 (gH_4 ht hD) (by omega) (by decide) (nar_char h1) (gH_u4 hj ht hD) ?_
  refine pr_aload_n dX6_append_62 rfl ?_
  refine pr_getf dX6_append_63 pzf_6_29 (gS_0 ht hD hu0) rfl ?_
  refine pr_dup dX6_append_66 rfl ?_
  refine pr_getf dX6_append_67 pzf_6_313 (gH_3 ht hD) rfl ?_
  refine zr_iconst dX6_append_70 ?_
  refine zr_iadd dX6_append_71 ?_
  refine pr_putf dX6_append_72 pzf_6_313 (Or.inl rfl) (gH_3 ht hD) (Nat.le_of_ble_eq_true rfl) rfl rfl (gH_p3_1 hj ht hD) ?_
  refine pr_aload_n dX6_append_75 rfl ?_
  refine pr_getf dX6_append_76 pzf_6_29 (gS_0 ht hD hu0) rfl ?_
  refine pr_getf dX6_append_79 pzf_6_313 (gH_3 ht hD) rfl ?_
  exact pr_iret dX6_append_82 rfl rfl (zret (by rfl))
set_option maxRecDepth 100000 in
set_option maxHeartbeats 4000000 in
theorem kX6_append_t1 (hV : cV t u a K X) {c : Int} (h1 : 0 ≤ c ∧ c < 65536) (g1 : ¬ (32 ≤ c ∧ c ≤ 126)) : pz_Cd en 9 101 [.ref (t 0), .int (zI c)] (sH (tH h t u K) a (sq a) X) 1 6 (pz_thr "java/lang/IllegalArgumentException" (sH (tH h t u K) a (sq a) X)) := by
  refine pz_in pzt_X6_append ?_
  obtain ⟨hj, ht, hD, hu0, hI, hK, ⟨f0, f1⟩, ⟨r0, r1⟩, ⟨q0, q1⟩, hA⟩ := id hV
  have hX := hI.1
  obtain ⟨hR, hn0, hn1, hm0, hm1⟩ := id hX
  refine pr_iload_n dX6_append_0 rfl ?_
  refine zr_bipush dX6_append_1 (by decide) ?_
  refine zr_icmp_lt (tgt := 12) dX6_append_3 (by decide) (by omega) (by omega) (fun c3 => ?_) (fun c3 => ?_)
  · exact pr_thrw dX6_append_12 dX6_append_15 dX6_append_16 dX6_append_19 dX6_append_22 pze_6_59 pzs_311 rfl (by decide) rfl ⟨rfl, rfl⟩
  · refine pr_iload_n dX6_append_6 rfl ?_
    refine zr_bipush dX6_append_7 (by decide) ?_
    refine zr_icmp_le (tgt := 23) dX6_append_9 (by decide) (by omega) (by omega) (fun c9 => by exfalso; omega) (fun c9 => ?_)
    exact pr_thrw dX6_append_12 dX6_append_15 dX6_append_16 dX6_append_19 dX6_append_22 pze_6_59 pzs_311 rfl (by decide) rfl ⟨rfl, rfl⟩
set_option maxRecDepth 100000 in
set_option maxHeartbeats 4000000 in
theorem kX6_append_t2 (hV : cV t u a K X) {c : Int} (h1 : 0 ≤ c ∧ c < 65536) (g1 : 32 ≤ c ∧ c ≤ 126) (g2 : ¬ K 3 1 < 60) : pz_Cd en 9 101 [.ref (t 0), .int (zI c)] (sH (tH h t u K) a (sq a) X) 1 6 (pz_thr "java/lang/IllegalStateException" (sH (tH h t u K) a (sq a) X)) := by
  refine pz_in pzt_X6_append ?_
  obtain ⟨hj, ht, hD, hu0, hI, hK, ⟨f0, f1⟩, ⟨r0, r1⟩, ⟨q0, q1⟩, hA⟩ := id hV
  have hX := hI.1
  obtain ⟨hR, hn0, hn1, hm0, hm1⟩ := id hX
  refine pr_iload_n dX6_append_0 rfl ?_
  refine zr_bipush dX6_append_1 (by decide) ?_
  refine zr_icmp_lt (tgt := 12) dX6_append_3 (by decide) (by omega) (by omega) (fun c3 => by exfalso; omega) (fun c3 => ?_)
  refine pr_iload_n dX6_append_6 rfl ?_
  refine zr_bipush dX6_append_7 (by decide) ?_
  refine zr_icmp_le (tgt := 23) dX6_append_9 (by decide) (by omega) (by omega) (fun c9 => ?_) (fun c9 => by exfalso; omega)
  refine pr_aload_n dX6_append_23 rfl ?_
  refine pr_getf dX6_append_24 pzf_6_29 (gS_0 ht hD hu0) rfl ?_
  refine pr_getf dX6_append_27 pzf_6_313 (gH_3 ht hD) rfl ?_
  refine zr_bipush dX6_append_30 (by decide) ?_
  refine zr_icmp_lt (tgt := 46) dX6_append_32 (by decide) (by omega) (by omega) (fun c32 => by exfalso; omega) (fun c32 => ?_)
  exact pr_thrw dX6_append_35 dX6_append_38 dX6_append_39 dX6_append_42 dX6_append_45 pze_6_66 pzs_316 rfl (by decide) rfl ⟨rfl, rfl⟩
set_option maxRecDepth 100000 in
set_option maxHeartbeats 4000000 in
theorem kX6_undo_k (hV : cV t u a K X) (g1 : ¬ K 1 2 = 0) (hY : xI Y) (hb : bO h t a b Y) (hub : u (2 + (K 1 1 + 7 - 1) % 7) = b 0) : pz_Cd en 9 104 [.ref (t 0)] (sH (tH h t u K) a (sq a) X) 0 0 (pz_ret (some (.int (zI (K 1 2 - 1)))) (sH (tH h t u (kT K)) a (sq a) (xcp X Y))) := by
  refine pz_in pzt_X6_undo ?_
  obtain ⟨hj, ht, hD, hu0, hI, hK, ⟨f0, f1⟩, ⟨r0, r1⟩, ⟨q0, q1⟩, hA⟩ := id hV
  have hX := hI.1
  obtain ⟨hR, hn0, hn1, hm0, hm1⟩ := id hX
  refine pr_aload_n dX6_undo_0 rfl ?_
  refine pr_getf dX6_undo_1 pzf_6_22 (gS_0 ht hD hu0) rfl ?_
  refine pr_getf dX6_undo_4 pzf_6_350 (gH_1 ht hD) rfl ?_
  refine zr_if_ne (tgt := 21) dX6_undo_7 (by decide) (by omega) (fun c7 => ?_) (fun c7 => by exfalso; omega)
  refine pr_aload_n dX6_undo_21 rfl ?_
  refine pr_getf dX6_undo_22 pzf_6_22 (gS_0 ht hD hu0) rfl ?_
  refine pr_aload_n dX6_undo_25 rfl ?_
  refine pr_getf dX6_undo_26 pzf_6_10 (gS_0 ht hD hu0) rfl ?_
  refine zcv1u dX6_undo_29 pzm_6_355 pzt_X2_takeLatest (gH_1 ht hD) (kX2_takeLatest hj ht hD hb hY f0 f1 hub) (by decide) (Nat.le_of_ble_eq_true rfl) (by decide) ?_
  refine pr_aload_n dX6_undo_32 rfl ?_
  refine pr_getf dX6_undo_33 pzf_6_22 (gS_0 ht hD hu0) rfl ?_
  refine pr_getf dX6_undo_36 pzf_6_350 (gH_1 ht hD) rfl ?_
  exact pr_iret dX6_undo_39 rfl rfl (zret (by rfl))
set_option maxRecDepth 100000 in
set_option maxHeartbeats 4000000 in
theorem kX6_undo_t (hV : cV t u a K X) (g1 : K 1 2 = 0) : pz_Cd en 9 104 [.ref (t 0)] (sH (tH h t u K) a (sq a) X) 1 6 (pz_thr "java/util/NoSuchElementException" (sH (tH h t u K) a (sq a) X)) := by
  refine pz_in pzt_X6_undo ?_
  obtain ⟨hj, ht, hD, hu0, hI, hK, ⟨f0, f1⟩, ⟨r0, r1⟩, ⟨q0, q1⟩, hA⟩ := id hV
  have hX := hI.1
  obtain ⟨hR, hn0, hn1, hm0, hm1⟩ := id hX
  refine pr_aload_n dX6_undo_0 rfl ?_
  refine pr_getf dX6_undo_1 pzf_6_22 (gS_0 ht hD hu0) rfl ?_
  refine pr_getf dX6_undo_4 pzf_6_350 (gH_1 ht hD) rfl ?_
  refine zr_if_ne (tgt := 21) dX6_undo_7 (by decide) (by omega) (fun c7 => by exfalso; omega) (fun c7 => ?_)
  exact pr_thrw dX6_undo_10 dX6_undo_13 dX6_undo_14 dX6_undo_17 dX6_undo_20 pze_6_103 pzs_353 rfl (by decide) rfl ⟨rfl, rfl⟩
set_option maxRecDepth 100000 in
set_option maxHeartbeats 4000000 in
theorem kX6_save (hV : cV t u a K X) (hb : bO h t a b Y) (hub : u 1 = b 0) : pz_Cd en 9 105 [.ref (t 0)] (sH (tH h t u K) a (sq a) X) 0 0 (pz_ret (some (.int (zI (X 1 1)))) (sH (tH (sH h b (sq b) (xcp Y X)) t u (zv K 0 (zu (K 0) 4 1))) a (sq a) X)) := by
  refine pz_in pzt_X6_save ?_
  obtain ⟨hj, ht, hD, hu0, hI, hK, ⟨f0, f1⟩, ⟨r0, r1⟩, ⟨q0, q1⟩, hA⟩ := id hV
  have hX := hI.1
  obtain ⟨hR, hn0, hn1, hm0, hm1⟩ := id hX
  refine pr_aload_n dX6_save_0 rfl ?_
  refine pr_getf dX6_save_1 pzf_6_16 (gS_0 ht hD hu0) rfl ?_
  refine pr_aload_n dX6_save_4 rfl ?_
  refine pr_getf dX6_save_5 pzf_6_10 (gS_0 ht hD hu0) rfl ?_
  rw [hub]
  have e0 : (sH (tH h t u K) a (sq a) X) = sH (sH (tH h t u K) a (sq a) X) b (sq b) Y := by rw [prep_eq hj ht hD hb, sH_id hb.1 hb.2.2.2]
  rw [e0]
  refine zcv1u dX6_save_8 pzm_6_358 pzt_X5_copyFrom (sH_0 hb.1) (kX5_copyFrom hb.1 ⟨fun i j g1 g2 g3 g4 e => hb.2.2.1 j i g3 g4 g1 g2 e.symm, fun j g1 g2 => sH_at hj g1 g2⟩ hn0 hn1 (fun k g1 g2 => ⟨(hI.2.1 k g1 g2).2.2.1, (hI.2.1 k g1 g2).2.2.2⟩)) (by decide) (Nat.le_of_ble_eq_true rfl) (by decide) ?_
  rw [prep_eq hj ht hD hb]
  refine pr_aload_n dX6_save_11 rfl ?_
  refine zr_iconst dX6_save_12 ?_
  refine pr_putf dX6_save_13 pzf_6_361 (Or.inl rfl) (gS_0 ht hD hu0) (Nat.le_of_ble_eq_true rfl) rfl rfl (gS_p0_4 hj ht hD hu0) ?_
  refine pr_aload_n dX6_save_16 rfl ?_
  refine pr_getf dX6_save_17 pzf_6_10 (gS_0 ht hD hu0) rfl ?_
  refine pr_getf dX6_save_20 pzf_6_40 (sH_0 hj) rfl ?_
  refine pr_getf dX6_save_23 pzf_6_44 (sH_1 hj) rfl ?_
  exact pr_iret dX6_save_26 rfl rfl (zret (by rfl))
set_option maxRecDepth 100000 in
set_option maxHeartbeats 4000000 in
theorem kX6_restore_k (hV : cV t u a K X) (g1 : K 0 4 = 1) (hb : bO h t a b Y) (hY : xI Y) (hub : u 1 = b 0) : pz_Cd en 9 106 [.ref (t 0)] (sH (tH h t u K) a (sq a) X) 0 0 (pz_ret (some (.int (zI (Y 1 1)))) (sH (tH h t u (kF K)) a (sq a) (xcp X Y))) := by
  refine pz_in pzt_X6_restore ?_
  obtain ⟨hj, ht, hD, hu0, hI, hK, ⟨f0, f1⟩, ⟨r0, r1⟩, ⟨q0, q1⟩, hA⟩ := id hV
  have hX := hI.1
  obtain ⟨hR, hn0, hn1, hm0, hm1⟩ := id hX
  refine pr_aload_n dX6_restore_0 rfl ?_
  refine pr_getf dX6_restore_1 pzf_6_361 (gS_0 ht hD hu0) rfl ?_
  refine zr_if_ne (tgt := 18) dX6_restore_4 (by decide) (by omega) (fun c4 => ?_) (fun c4 => by exfalso; omega)
  refine pr_aload_n dX6_restore_18 rfl ?_
  refine pr_getf dX6_restore_19 pzf_6_10 (gS_0 ht hD hu0) rfl ?_
  refine pr_aload_n dX6_restore_22 rfl ?_
  refine pr_getf dX6_restore_23 pzf_6_16 (gS_0 ht hD hu0) rfl ?_
  rw [hub]
  refine zcv1u dX6_restore_26 pzm_6_358 pzt_X5_copyFrom (sH_0 hj) (kX5_copyFrom hj (bO_sO hb) hY.1.2.1 hY.1.2.2.1 (fun k g1 g2 => ⟨(hY.2.1 k g1 g2).2.2.1, (hY.2.1 k g1 g2).2.2.2⟩)) (by decide) (Nat.le_of_ble_eq_true rfl) (by decide) ?_
  refine pr_aload_n dX6_restore_29 rfl ?_
  refine pr_getf dX6_restore_30 pzf_6_22 (gS_0 ht hD hu0) rfl ?_
  refine zcv0u dX6_restore_33 pzm_6_52 pzt_X2_forgetAll (gH_1 ht hD) (kX2_forgetAll hj ht hD) (by decide) (Nat.le_of_ble_eq_true rfl) (by decide) ?_
  refine pr_aload_n dX6_restore_36 rfl ?_
  refine pr_getf dX6_restore_37 pzf_6_10 (gS_0 ht hD hu0) rfl ?_
  refine pr_getf dX6_restore_40 pzf_6_40 (sH_0 hj) rfl ?_
  refine pr_getf dX6_restore_43 pzf_6_44 (sH_1 hj) rfl ?_
  exact pr_iret dX6_restore_46 rfl rfl (zret (by exact if_pos (Or.inr (Or.inl ⟨rfl, Or.inl rfl⟩))))
set_option maxRecDepth 100000 in
set_option maxHeartbeats 4000000 in
theorem kX6_restore_t (hV : cV t u a K X) (g1 : K 0 4 = 0) : pz_Cd en 9 106 [.ref (t 0)] (sH (tH h t u K) a (sq a) X) 1 6 (pz_thr "java/lang/IllegalStateException" (sH (tH h t u K) a (sq a) X)) := by
  refine pz_in pzt_X6_restore ?_
  obtain ⟨hj, ht, hD, hu0, hI, hK, ⟨f0, f1⟩, ⟨r0, r1⟩, ⟨q0, q1⟩, hA⟩ := id hV
  have hX := hI.1
  obtain ⟨hR, hn0, hn1, hm0, hm1⟩ := id hX
  refine pr_aload_n dX6_restore_0 rfl ?_
  refine pr_getf dX6_restore_1 pzf_6_361 (gS_0 ht hD hu0) rfl ?_
  refine zr_if_ne (tgt := 18) dX6_restore_4 (by decide) (by omega) (fun c4 => by exfalso; omega) (fun c4 => ?_)
  exact pr_thrw dX6_restore_7 dX6_restore_10 dX6_restore_11 dX6_restore_14 dX6_restore_17 pze_6_66 pzs_364 rfl (by decide) rfl ⟨rfl, rfl⟩
end cls
