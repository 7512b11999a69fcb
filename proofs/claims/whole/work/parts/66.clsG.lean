/-! the class: what an entry does -/
section cls
variable {en : pz_Env} {h : pz_H} {t u a b : Int → Nat} {K X Y : Int → Int → Int}
set_option maxRecDepth 100000 in
set_option maxHeartbeats 4000000 in
theorem kX6_performAdd_k (hV : cV t u a K X) {n : Int} (h1 : zR n) (g1 : (1 ≤ n ∧ n ≤ 99) ∧ xix X n < 0) (g2 : X 1 1 < 12) : pz_Cd en 7 115 [.ref (t 0), .int (zI n)] (sH (tH h t u K) a (sq a) X) 0 0 (pz_ret (some (.int (zI 1))) (sH (tH h t u K) (zs (pI (xip X n (X 1 1).toNat) (X 1 1)) a) (sq (zs (pI (xip X n (X 1 1).toNat) (X 1 1)) a)) (xin X n (xip X n (X 1 1).toNat)))) := by
  refine pz_in pzt_X6_performAdd ?_
  obtain ⟨hj, ht, hD, hu0, hI, hK, ⟨f0, f1⟩, ⟨r0, r1⟩, ⟨q0, q1⟩, hA⟩ := id hV
  have hX := hI.1
  obtain ⟨hR, hn0, hn1, hm0, hm1⟩ := id hX
  refine pr_aload_n dX6_performAdd_0 rfl ?_
  refine pr_iload_n dX6_performAdd_1 rfl ?_
  refine zcv1i dX6_performAdd_2 pzm_6_55 pzt_X6_isFreeNumber (gS_0 ht hD hu0) (kX6_isFreeNumber hV h1) (by decide) (Nat.le_of_ble_eq_true rfl) (by decide) ?_
  refine zr_if_eq (tgt := 23) dX6_performAdd_5 (by decide) (bI_R _) (fun c5 => by exfalso; have bb := bI_0 c5; omega) (fun c5 => ?_)
  have b5 := bI_ne c5
  refine pr_aload_n dX6_performAdd_8 rfl ?_
  refine pr_getf dX6_performAdd_9 pzf_6_10 (gS_0 ht hD hu0) rfl ?_
  refine pr_getf dX6_performAdd_12 pzf_6_40 (sH_0 hj) rfl ?_
  refine pr_getf dX6_performAdd_15 pzf_6_44 (sH_1 hj) rfl ?_
  refine zr_bipush dX6_performAdd_18 (by decide) ?_
  refine zr_icmp_lt (tgt := 25) dX6_performAdd_20 (by decide) (by omega) (by omega) (fun c20 => ?_) (fun c20 => by exfalso; omega)
  refine pr_aload_n dX6_performAdd_25 rfl ?_
  refine pr_getf dX6_performAdd_26 pzf_6_10 (gS_0 ht hD hu0) rfl ?_
  refine pr_getf dX6_performAdd_29 pzf_6_40 (sH_0 hj) rfl ?_
  refine pr_iload_n dX6_performAdd_32 rfl ?_
  refine zcv1u dX6_performAdd_33 pzm_6_75 pzt_X1_insertCue (sH_1 hj) (kX1_insertCue hj hX h1 (by omega)) (by decide) (Nat.le_of_ble_eq_true rfl) (by decide) ?_
  refine zr_iconst dX6_performAdd_36 ?_
  exact pr_iret dX6_performAdd_37 rfl rfl (zret (by rfl))
set_option maxRecDepth 100000 in
set_option maxHeartbeats 4000000 in
theorem kX6_performAdd_t (hV : cV t u a K X) {n : Int} (h1 : zR n) (g1 : ¬ (((1 ≤ n ∧ n ≤ 99) ∧ xix X n < 0) ∧ X 1 1 < 12)) : pz_Cd en 7 115 [.ref (t 0), .int (zI n)] (sH (tH h t u K) a (sq a) X) 0 0 (pz_ret (some (.int (zI 0))) (sH (tH h t u K) a (sq a) X)) := by
  refine pz_in pzt_X6_performAdd ?_
  obtain ⟨hj, ht, hD, hu0, hI, hK, ⟨f0, f1⟩, ⟨r0, r1⟩, ⟨q0, q1⟩, hA⟩ := id hV
  have hX := hI.1
  obtain ⟨hR, hn0, hn1, hm0, hm1⟩ := id hX
  refine pr_aload_n dX6_performAdd_0 rfl ?_
  refine pr_iload_n dX6_performAdd_1 rfl ?_
  refine zcv1i dX6_performAdd_2 pzm_6_55 pzt_X6_isFreeNumber (gS_0 ht hD hu0) (kX6_isFreeNumber hV h1) (by decide) (Nat.le_of_ble_eq_true rfl) (by decide) ?_
  refine zr_if_eq (tgt := 23) dX6_performAdd_5 (by decide) (bI_R _) (fun c5 => ?_) (fun c5 => ?_)
  · have b5 := bI_0 c5
    refine zr_iconst dX6_performAdd_23 ?_
    exact pr_iret dX6_performAdd_24 rfl rfl (zret (by rfl))
  · have b5 := bI_ne c5
    refine pr_aload_n dX6_performAdd_8 rfl ?_
    refine pr_getf dX6_performAdd_9 pzf_6_10 (gS_0 ht hD hu0) rfl ?_
    refine pr_getf dX6_performAdd_12 pzf_6_40 (sH_0 hj) rfl ?_
    refine pr_getf dX6_performAdd_15 pzf_6_44 (sH_1 hj) rfl ?_
    refine zr_bipush dX6_performAdd_18 (by decide) ?_
    refine zr_icmp_lt (tgt := 25) dX6_performAdd_20 (by decide) (by omega) (by omega) (fun c20 => by exfalso; omega) (fun c20 => ?_)
    refine zr_iconst dX6_performAdd_23 ?_
    exact pr_iret dX6_performAdd_24 rfl rfl (zret (by rfl))
set_option maxRecDepth 100000 in
set_option maxHeartbeats 4000000 in
theorem kX6_performRemove_k (hV : cV t u a K X) {i : Int} (i1 : 0 ≤ i) (i2 : i < X 1 1) (g9 : (xrD X i False) = 0) : pz_Cd en 7 116 [.ref (t 0), .int (zI i)] (sH (tH h t u K) a (sq a) X) 0 0 (pz_ret (some (.int (zI 1))) (sH (tH h t u K) (zs (pD i (X 1 1 - 1)) a) (sq (zs (pD i (X 1 1 - 1)) a)) (xdp (xdD (xhl X i False 12) i) i 12))) := by
  refine pz_in pzt_X6_performRemove ?_
  obtain ⟨hj, ht, hD, hu0, hI, hK, ⟨f0, f1⟩, ⟨r0, r1⟩, ⟨q0, q1⟩, hA⟩ := id hV
  have hX := hI.1
  obtain ⟨hR, hn0, hn1, hm0, hm1⟩ := id hX
  have hr9 : 0 ≤ (xrD X i False) ∧ (xrD X i False) ≤ 2 := xrf_R _ _ _
  refine pr_aload_n dX6_performRemove_0 rfl ?_
  refine pr_aload_n dX6_performRemove_1 rfl ?_
  refine pr_getf dX6_performRemove_2 pzf_6_10 (gS_0 ht hD hu0) rfl ?_
  refine pr_getf dX6_performRemove_5 pzf_6_40 (sH_0 hj) rfl ?_
  refine pr_iload_n dX6_performRemove_8 rfl ?_
  refine zr_iconst dX6_performRemove_9 ?_
  refine zcv2i dX6_performRemove_10 pzm_6_88 pzt_X1_refusalToDrop (sH_1 hj) (kX1_refusalToDrop (hd := False) hj hX i1 (by omega)) (by decide) (Nat.le_of_ble_eq_true rfl) (by decide) ?_
  have e9 : xrf X i (xhs X i False 12) (-(xic X i)) = (xrD X i False) := rfl
  rw [e9, g9]
  refine zcv1i dX6_performRemove_13 pzm_6_92 pzt_X6_keepIfRefused (gS_0 ht hD hu0) (kX6_keepIfRefused_0 hV) (by decide) (Nat.le_of_ble_eq_true rfl) (by decide) ?_
  refine zr_if_eq (tgt := 21) dX6_performRemove_16 (by decide) (by decide) (fun c16 => ?_) (fun c16 => by exfalso; omega)
  refine pr_aload_n dX6_performRemove_21 rfl ?_
  refine pr_getf dX6_performRemove_22 pzf_6_10 (gS_0 ht hD hu0) rfl ?_
  refine pr_getf dX6_performRemove_25 pzf_6_40 (sH_0 hj) rfl ?_
  refine pr_iload_n dX6_performRemove_28 rfl ?_
  refine zr_iconst dX6_performRemove_29 ?_
  refine zcv2i dX6_performRemove_30 pzm_6_100 pzt_X1_dropCue (sH_1 hj) (kX1_dropCue (hd := False) hj hX i1 i2) (by decide) (Nat.le_of_ble_eq_true rfl) (by decide) ?_
  refine pr_pop dX6_performRemove_33 rfl ?_
  refine zr_iconst dX6_performRemove_34 ?_
  exact pr_iret dX6_performRemove_35 rfl rfl (zret (by rfl))
set_option maxRecDepth 100000 in
set_option maxHeartbeats 4000000 in
theorem kX6_performRemove_r (hV : cV t u a K X) {i : Int} (i1 : 0 ≤ i) (i2 : i < X 1 1) (g9 : ¬ (xrD X i False) = 0) : pz_Cd en 7 116 [.ref (t 0), .int (zI i)] (sH (tH h t u K) a (sq a) X) 0 0 (pz_ret (some (.int (zI 0))) (sH (tH h t u (zv K 0 (zu (K 0) 5 (xrD X i False)))) a (sq a) X)) := by
  refine pz_in pzt_X6_performRemove ?_
  obtain ⟨hj, ht, hD, hu0, hI, hK, ⟨f0, f1⟩, ⟨r0, r1⟩, ⟨q0, q1⟩, hA⟩ := id hV
  have hX := hI.1
  obtain ⟨hR, hn0, hn1, hm0, hm1⟩ := id hX
  have hr9 : 0 ≤ (xrD X i False) ∧ (xrD X i False) ≤ 2 := xrf_R _ _ _
  refine pr_aload_n dX6_performRemove_0 rfl ?_
  refine pr_aload_n dX6_performRemove_1 rfl ?_
  refine pr_getf dX6_performRemove_2 pzf_6_10 (gS_0 ht hD hu0) rfl ?_
  refine pr_getf dX6_performRemove_5 pzf_6_40 (sH_0 hj) rfl ?_
  refine pr_iload_n dX6_performRemove_8 rfl ?_
  refine zr_iconst dX6_performRemove_9 ?_
  refine zcv2i dX6_performRemove_10 pzm_6_88 pzt_X1_refusalToDrop (sH_1 hj) (kX1_refusalToDrop (hd := False) hj hX i1 (by omega)) (by decide) (Nat.le_of_ble_eq_true rfl) (by decide) ?_
  have e9 : xrf X i (xhs X i False 12) (-(xic X i)) = (xrD X i False) := rfl
  rw [e9]
  refine zcv1i dX6_performRemove_13 pzm_6_92 pzt_X6_keepIfRefused (gS_0 ht hD hu0) (kX6_keepIfRefused_1 hV (by omega) g9) (by decide) (Nat.le_of_ble_eq_true rfl) (by decide) ?_
  refine zr_if_eq (tgt := 21) dX6_performRemove_16 (by decide) (by decide) (fun c16 => by exfalso; omega) (fun c16 => ?_)
  refine zr_iconst dX6_performRemove_19 ?_
  exact pr_iret dX6_performRemove_20 rfl rfl (zret (by rfl))
set_option maxRecDepth 100000 in
set_option maxHeartbeats 4000000 in
theorem kX6_performGive_k (hV : cV t u a K X) {i c v : Int} (i1 : 0 ≤ i) (i2 : i < X 1 1) (c1 : 0 ≤ c) (c2 : c ≤ 11) (h3 : zR v) (g9 : (xrG X i c v False) = 0) : pz_Cd en 7 117 [.ref (t 0), .int (zI i), .int (zI c), .int (zI v)] (sH (tH h t u K) a (sq a) X) 0 0 (pz_ret (some (.int (zI 1))) (sH (tH h t u K) a (sq a) (xgi X i c v 0 False))) := by
  refine pz_in pzt_X6_performGive ?_
  obtain ⟨hj, ht, hD, hu0, hI, hK, ⟨f0, f1⟩, ⟨r0, r1⟩, ⟨q0, q1⟩, hA⟩ := id hV
  have hX := hI.1
  obtain ⟨hR, hn0, hn1, hm0, hm1⟩ := id hX
  have hr9 : 0 ≤ (xrG X i c v False) ∧ (xrG X i c v False) ≤ 2 := xrf_R _ _ _
  refine pr_aload_n dX6_performGive_0 rfl ?_
  refine pr_aload_n dX6_performGive_1 rfl ?_
  refine pr_getf dX6_performGive_2 pzf_6_10 (gS_0 ht hD hu0) rfl ?_
  refine pr_getf dX6_performGive_5 pzf_6_40 (sH_0 hj) rfl ?_
  refine pr_iload_n dX6_performGive_8 rfl ?_
  refine pr_iload_n dX6_performGive_9 rfl ?_
  refine pr_iload_n dX6_performGive_10 rfl ?_
  refine zr_iconst dX6_performGive_11 ?_
  refine zcv4i dX6_performGive_12 pzm_6_175 pzt_X1_refusalToGive (sH_1 hj) (kX1_refusalToGive (hd := False) hj hX i1 (by omega) c1 c2 h3) (by decide) (Nat.le_of_ble_eq_true rfl) (by decide) ?_
  have e9 : xrf X i (bI (False ∧ xnh X (i + 1) c (xlm X v c))) (bI (X (7 + 5 * i + 3) c = -2)) = (xrG X i c v False) := rfl
  rw [e9, g9]
  refine zcv1i dX6_performGive_15 pzm_6_92 pzt_X6_keepIfRefused (gS_0 ht hD hu0) (kX6_keepIfRefused_0 hV) (by decide) (Nat.le_of_ble_eq_true rfl) (by decide) ?_
  refine zr_if_eq (tgt := 23) dX6_performGive_18 (by decide) (by decide) (fun c18 => ?_) (fun c18 => by exfalso; omega)
  refine pr_aload_n dX6_performGive_23 rfl ?_
  refine pr_getf dX6_performGive_24 pzf_6_10 (gS_0 ht hD hu0) rfl ?_
  refine pr_getf dX6_performGive_27 pzf_6_40 (sH_0 hj) rfl ?_
  refine pr_iload_n dX6_performGive_30 rfl ?_
  refine pr_iload_n dX6_performGive_31 rfl ?_
  refine pr_iload_n dX6_performGive_32 rfl ?_
  refine zr_iconst dX6_performGive_33 ?_
  refine zr_iconst dX6_performGive_34 ?_
  refine zcv5i dX6_performGive_35 pzm_6_179 pzt_X1_give (sH_1 hj) (kX1_give (hd := False) hj hX i1 i2 c1 c2 h3 (by decide)) (by decide) (Nat.le_of_ble_eq_true rfl) (by decide) ?_
  refine pr_pop dX6_performGive_38 rfl ?_
  refine zr_iconst dX6_performGive_39 ?_
  exact pr_iret dX6_performGive_40 rfl rfl (zret (by rfl))
set_option maxRecDepth 100000 in
set_option maxHeartbeats 4000000 in
theorem kX6_performGive_r (hV : cV t u a K X) {i c v : Int} (i1 : 0 ≤ i) (i2 : i < X 1 1) (c1 : 0 ≤ c) (c2 : c ≤ 11) (h3 : zR v) (g9 : ¬ (xrG X i c v False) = 0) : pz_Cd en 7 117 [.ref (t 0), .int (zI i), .int (zI c), .int (zI v)] (sH (tH h t u K) a (sq a) X) 0 0 (pz_ret (some (.int (zI 0))) (sH (tH h t u (zv K 0 (zu (K 0) 5 (xrG X i c v False)))) a (sq a) X)) := by
  refine pz_in pzt_X6_performGive ?_
  obtain ⟨hj, ht, hD, hu0, hI, hK, ⟨f0, f1⟩, ⟨r0, r1⟩, ⟨q0, q1⟩, hA⟩ := id hV
  have hX := hI.1
  obtain ⟨hR, hn0, hn1, hm0, hm1⟩ := id hX
  have hr9 : 0 ≤ (xrG X i c v False) ∧ (xrG X i c v False) ≤ 2 := xrf_R _ _ _
  refine pr_aload_n dX6_performGive_0 rfl ?_
  refine pr_aload_n dX6_performGive_1 rfl ?_
  refine pr_getf dX6_performGive_2 pzf_6_10 (gS_0 ht hD hu0) rfl ?_
  refine pr_getf dX6_performGive_5 pzf_6_40 (sH_0 hj) rfl ?_
  refine pr_iload_n dX6_performGive_8 rfl ?_
  refine pr_iload_n dX6_performGive_9 rfl ?_
  refine pr_iload_n dX6_performGive_10 rfl ?_
  refine zr_iconst dX6_performGive_11 ?_
  refine zcv4i dX6_performGive_12 pzm_6_175 pzt_X1_refusalToGive (sH_1 hj) (kX1_refusalToGive (hd := False) hj hX i1 (by omega) c1 c2 h3) (by decide) (Nat.le_of_ble_eq_true rfl) (by decide) ?_
  have e9 : xrf X i (bI (False ∧ xnh X (i + 1) c (xlm X v c))) (bI (X (7 + 5 * i + 3) c = -2)) = (xrG X i c v False) := rfl
  rw [e9]
  refine zcv1i dX6_performGive_15 pzm_6_92 pzt_X6_keepIfRefused (gS_0 ht hD hu0) (kX6_keepIfRefused_1 hV (by omega) g9) (by decide) (Nat.le_of_ble_eq_true rfl) (by decide) ?_
  refine zr_if_eq (tgt := 23) dX6_performGive_18 (by decide) (by decide) (fun c18 => by exfalso; omega) (fun c18 => ?_)
  refine zr_iconst dX6_performGive_21 ?_
  exact pr_iret dX6_performGive_22 rfl rfl (zret (by rfl))
set_option maxRecDepth 100000 in
set_option maxHeartbeats 4000000 in
theorem kX6_performGo_k (hV : cV t u a K X) (g1 : 0 ≤ xnk X) : pz_Cd en 7 118 [.ref (t 0)] (sH (tH h t u K) a (sq a) X) 0 0 (pz_ret (some (.int (zI 1))) (sH (tH h t u K) a (sq a) (xgo X (xnk X)))) := by
  refine pz_in pzt_X6_performGo ?_
  obtain ⟨hj, ht, hD, hu0, hI, hK, ⟨f0, f1⟩, ⟨r0, r1⟩, ⟨q0, q1⟩, hA⟩ := id hV
  have hX := hI.1
  obtain ⟨hR, hn0, hn1, hm0, hm1⟩ := id hX
  have hp := xnk_R hX
  refine pr_aload_n dX6_performGo_0 rfl ?_
  refine pr_getf dX6_performGo_1 pzf_6_10 (gS_0 ht hD hu0) rfl ?_
  refine pr_getf dX6_performGo_4 pzf_6_223 (sH_0 hj) rfl ?_
  refine pr_aload_n dX6_performGo_7 rfl ?_
  refine pr_getf dX6_performGo_8 pzf_6_10 (gS_0 ht hD hu0) rfl ?_
  refine pr_getf dX6_performGo_11 pzf_6_40 (sH_0 hj) rfl ?_
  refine zcv1i dX6_performGo_14 pzm_6_227 pzt_X4_nextIndex (sH_67 hj) (kX4_nextIndex hj hX) (by decide) (Nat.le_of_ble_eq_true rfl) (by decide) ?_
  refine pr_istore_n dX6_performGo_17 (by decide) rfl ?_
  refine pr_iload_n dX6_performGo_18 rfl ?_
  refine zr_if_ge (tgt := 29) dX6_performGo_19 (by decide) (by omega) (fun c19 => ?_) (fun c19 => by exfalso; omega)
  refine pr_aload_n dX6_performGo_29 rfl ?_
  refine pr_getf dX6_performGo_30 pzf_6_10 (gS_0 ht hD hu0) rfl ?_
  refine pr_getf dX6_performGo_33 pzf_6_223 (sH_0 hj) rfl ?_
  refine pr_aload_n dX6_performGo_36 rfl ?_
  refine pr_getf dX6_performGo_37 pzf_6_10 (gS_0 ht hD hu0) rfl ?_
  refine pr_getf dX6_performGo_40 pzf_6_40 (sH_0 hj) rfl ?_
  refine pr_iload_n dX6_performGo_43 rfl ?_
  refine zcv2i dX6_performGo_44 pzm_6_235 pzt_X4_letGo (sH_67 hj) (kX4_letGo hj hI g1 (by omega)) (by decide) (Nat.le_of_ble_eq_true rfl) (by decide) ?_
  refine pr_pop dX6_performGo_47 rfl ?_
  refine zr_iconst dX6_performGo_48 ?_
  exact pr_iret dX6_performGo_49 rfl rfl (zret (by rfl))
set_option maxRecDepth 100000 in
set_option maxHeartbeats 4000000 in
theorem kX6_performGo_r (hV : cV t u a K X) (g1 : ¬ 0 ≤ xnk X) : pz_Cd en 7 118 [.ref (t 0)] (sH (tH h t u K) a (sq a) X) 0 0 (pz_ret (some (.int (zI 0))) (sH (tH h t u (zv K 0 (zu (K 0) 5 4))) a (sq a) X)) := by
  refine pz_in pzt_X6_performGo ?_
  obtain ⟨hj, ht, hD, hu0, hI, hK, ⟨f0, f1⟩, ⟨r0, r1⟩, ⟨q0, q1⟩, hA⟩ := id hV
  have hX := hI.1
  obtain ⟨hR, hn0, hn1, hm0, hm1⟩ := id hX
  have hp := xnk_R hX
  refine pr_aload_n dX6_performGo_0 rfl ?_
  refine pr_getf dX6_performGo_1 pzf_6_10 (gS_0 ht hD hu0) rfl ?_
  refine pr_getf dX6_performGo_4 pzf_6_223 (sH_0 hj) rfl ?_
  refine pr_aload_n dX6_performGo_7 rfl ?_
  refine pr_getf dX6_performGo_8 pzf_6_10 (gS_0 ht hD hu0) rfl ?_
  refine pr_getf dX6_performGo_11 pzf_6_40 (sH_0 hj) rfl ?_
  refine zcv1i dX6_performGo_14 pzm_6_227 pzt_X4_nextIndex (sH_67 hj) (kX4_nextIndex hj hX) (by decide) (Nat.le_of_ble_eq_true rfl) (by decide) ?_
  refine pr_istore_n dX6_performGo_17 (by decide) rfl ?_
  refine pr_iload_n dX6_performGo_18 rfl ?_
  refine zr_if_ge (tgt := 29) dX6_performGo_19 (by decide) (by omega) (fun c19 => by exfalso; omega) (fun c19 => ?_)
  refine pr_aload_n dX6_performGo_22 rfl ?_
  refine zr_iconst dX6_performGo_23 ?_
  refine pr_putf dX6_performGo_24 pzf_6_33 (Or.inl rfl) (gS_0 ht hD hu0) (Nat.le_of_ble_eq_true rfl) rfl rfl (gS_p0_5 hj ht hD hu0) ?_
  refine zr_iconst dX6_performGo_27 ?_
  exact pr_iret dX6_performGo_28 rfl rfl (zret (by rfl))
set_option maxRecDepth 100000 in
set_option maxHeartbeats 4000000 in
theorem kX6_performJump (hV : cV t u a K X) {i : Int} (i1 : 0 ≤ i) (i2 : i < X 1 1) : pz_Cd en 7 120 [.ref (t 0), .int (zI i)] (sH (tH h t u K) a (sq a) X) 0 0 (pz_ret (some (.int (zI 1))) (sH (tH h t u K) a (sq a) (xgo X i))) := by
  refine pz_in pzt_X6_performJump ?_
  obtain ⟨hj, ht, hD, hu0, hI, hK, ⟨f0, f1⟩, ⟨r0, r1⟩, ⟨q0, q1⟩, hA⟩ := id hV
  have hX := hI.1
  obtain ⟨hR, hn0, hn1, hm0, hm1⟩ := id hX
  refine pr_aload_n dX6_performJump_0 rfl ?_
  refine pr_getf dX6_performJump_1 pzf_6_10 (gS_0 ht hD hu0) rfl ?_
  refine pr_getf dX6_performJump_4 pzf_6_223 (sH_0 hj) rfl ?_
  refine pr_aload_n dX6_performJump_7 rfl ?_
  refine pr_getf dX6_performJump_8 pzf_6_10 (gS_0 ht hD hu0) rfl ?_
  refine pr_getf dX6_performJump_11 pzf_6_40 (sH_0 hj) rfl ?_
  refine pr_iload_n dX6_performJump_14 rfl ?_
  refine zcv2i dX6_performJump_15 pzm_6_235 pzt_X4_letGo (sH_67 hj) (kX4_letGo hj hI i1 i2) (by decide) (Nat.le_of_ble_eq_true rfl) (by decide) ?_
  refine pr_pop dX6_performJump_18 rfl ?_
  refine zr_iconst dX6_performJump_19 ?_
  exact pr_iret dX6_performJump_20 rfl rfl (zret (by rfl))
set_option maxRecDepth 100000 in
set_option maxHeartbeats 4000000 in
theorem kX6_performPass_k (hV : cV t u a K X) {q : Int} (h1 : zR q) (g1 : 0 ≤ q ∧ q ≤ 6000) (g2 : X 67 8 + q ≤ 100000) : pz_Cd en 7 121 [.ref (t 0), .int (zI q)] (sH (tH h t u K) a (sq a) X) 0 0 (pz_ret (some (.int (zI 1))) (sH (tH h t u K) a (sq a) (xpsF q.toNat X q).2)) := by
  refine pz_in pzt_X6_performPass ?_
  obtain ⟨hj, ht, hD, hu0, hI, hK, ⟨f0, f1⟩, ⟨r0, r1⟩, ⟨q0, q1⟩, hA⟩ := id hV
  have hX := hI.1
  obtain ⟨hR, hn0, hn1, hm0, hm1⟩ := id hX
  have hl := hI.2.2.2.2.2.2.2.2
  refine pr_iload_n dX6_performPass_0 rfl ?_
  refine zr_iconst dX6_performPass_1 ?_
  refine zr_sipush dX6_performPass_2 (by decide) ?_
  refine zcs3i dX6_performPass_5 pzm_6_117 pzt_X6_isWithin (kX6_isWithin (by omega) (by omega) (by omega)) (by decide) (Nat.le_of_ble_eq_true rfl) ?_
  refine zr_if_eq (tgt := 25) dX6_performPass_8 (by decide) (bI_R _) (fun c8 => by exfalso; have bb := bI_0 c8; omega) (fun c8 => ?_)
  have b8 := bI_ne c8
  refine pr_aload_n dX6_performPass_11 rfl ?_
  refine pr_getf dX6_performPass_12 pzf_6_10 (gS_0 ht hD hu0) rfl ?_
  refine pr_getf dX6_performPass_15 pzf_6_223 (sH_0 hj) rfl ?_
  refine pr_iload_n dX6_performPass_18 rfl ?_
  refine zcv1i dX6_performPass_19 pzm_6_244 pzt_X4_hasTimeFor (sH_67 hj) (kX4_hasTimeFor hj hX (by omega) hl.2.2.2.2) (by decide) (Nat.le_of_ble_eq_true rfl) (by decide) ?_
  refine zr_if_ne (tgt := 27) dX6_performPass_22 (by decide) (bI_R _) (fun c22 => ?_) (fun c22 => by exfalso; have bb := bI_0 c22; omega)
  have b22 := bI_ne c22
  refine pr_aload_n dX6_performPass_27 rfl ?_
  refine pr_getf dX6_performPass_28 pzf_6_10 (gS_0 ht hD hu0) rfl ?_
  refine pr_getf dX6_performPass_31 pzf_6_223 (sH_0 hj) rfl ?_
  refine pr_aload_n dX6_performPass_34 rfl ?_
  refine pr_getf dX6_performPass_35 pzf_6_10 (gS_0 ht hD hu0) rfl ?_
  refine pr_getf dX6_performPass_38 pzf_6_40 (sH_0 hj) rfl ?_
  refine pr_iload_n dX6_performPass_41 rfl ?_
  refine zcv2i dX6_performPass_42 pzm_6_249 pzt_X4_letPass (sH_67 hj) (kX4_letPass hj hI g1.1 (by omega) g2) (by decide) (Nat.le_of_ble_eq_true rfl) (by decide) ?_
  refine pr_pop dX6_performPass_45 rfl ?_
  refine zr_iconst dX6_performPass_46 ?_
  exact pr_iret dX6_performPass_47 rfl rfl (zret (by rfl))
set_option maxRecDepth 100000 in
set_option maxHeartbeats 4000000 in
theorem kX6_performPass_t (hV : cV t u a K X) {q : Int} (h1 : zR q) (g1 : ¬ ((0 ≤ q ∧ q ≤ 6000) ∧ X 67 8 + q ≤ 100000)) : pz_Cd en 7 121 [.ref (t 0), .int (zI q)] (sH (tH h t u K) a (sq a) X) 0 0 (pz_ret (some (.int (zI 0))) (sH (tH h t u K) a (sq a) X)) := by
  refine pz_in pzt_X6_performPass ?_
  obtain ⟨hj, ht, hD, hu0, hI, hK, ⟨f0, f1⟩, ⟨r0, r1⟩, ⟨q0, q1⟩, hA⟩ := id hV
  have hX := hI.1
  obtain ⟨hR, hn0, hn1, hm0, hm1⟩ := id hX
  have hl := hI.2.2.2.2.2.2.2.2
  refine pr_iload_n dX6_performPass_0 rfl ?_
  refine zr_iconst dX6_performPass_1 ?_
  refine zr_sipush dX6_performPass_2 (by decide) ?_
  refine zcs3i dX6_performPass_5 pzm_6_117 pzt_X6_isWithin (kX6_isWithin (by omega) (by omega) (by omega)) (by decide) (Nat.le_of_ble_eq_true rfl) ?_
  refine zr_if_eq (tgt := 25) dX6_performPass_8 (by decide) (bI_R _) (fun c8 => ?_) (fun c8 => ?_)
  · have b8 := bI_0 c8
    refine zr_iconst dX6_performPass_25 ?_
    exact pr_iret dX6_performPass_26 rfl rfl (zret (by rfl))
  · have b8 := bI_ne c8
    refine pr_aload_n dX6_performPass_11 rfl ?_
    refine pr_getf dX6_performPass_12 pzf_6_10 (gS_0 ht hD hu0) rfl ?_
    refine pr_getf dX6_performPass_15 pzf_6_223 (sH_0 hj) rfl ?_
    refine pr_iload_n dX6_performPass_18 rfl ?_
    refine zcv1i dX6_performPass_19 pzm_6_244 pzt_X4_hasTimeFor (sH_67 hj) (kX4_hasTimeFor hj hX (by omega) hl.2.2.2.2) (by decide) (Nat.le_of_ble_eq_true rfl) (by decide) ?_
    refine zr_if_ne (tgt := 27) dX6_performPass_22 (by decide) (bI_R _) (fun c22 => by exfalso; have bb := bI_ne c22; omega) (fun c22 => ?_)
    have b22 := bI_0 c22
    refine zr_iconst dX6_performPass_25 ?_
    exact pr_iret dX6_performPass_26 rfl rfl (zret (by rfl))
set_option maxRecDepth 100000 in
set_option maxHeartbeats 4000000 in
theorem kX6_performEntry_ck (hV : cV t u a K X) (e3 : K 3 3 = 99) (g1 : (1 ≤ K 5 0 ∧ K 5 0 ≤ 99) ∧ xix X (K 5 0) < 0) (g2 : X 1 1 < 12) : pz_Cd en 8 114 [.ref (t 0)] (sH (tH h t u K) a (sq a) X) 0 0 (pz_ret (some (.int (zI 1))) (sH (tH h t u K) (zs (pI (xip X (K 5 0) (X 1 1).toNat) (X 1 1)) a) (sq (zs (pI (xip X (K 5 0) (X 1 1).toNat) (X 1 1)) a)) (xin X (K 5 0) (xip X (K 5 0) (X 1 1).toNat)))) := by
  refine pz_in pzt_X6_performEntry ?_
  obtain ⟨hj, ht, hD, hu0, hI, hK, ⟨f0, f1⟩, ⟨r0, r1⟩, ⟨q0, q1⟩, hA⟩ := id hV
  have hX := hI.1
  obtain ⟨hR, hn0, hn1, hm0, hm1⟩ := id hX
  have hp := xix_R hX (K 5 0)
  have k50 := hK 5 0
  have k51 := hK 5 1
  have k52 := hK 5 2
  refine pr_aload_n dX6_performEntry_0 rfl ?_
  refine pr_getf dX6_performEntry_1 pzf_6_29 (gS_0 ht hD hu0) rfl ?_
  refine pr_getf dX6_performEntry_4 pzf_6_366 (gH_3 ht hD) rfl ?_
  refine zr_iconst dX6_performEntry_7 ?_
  refine zr_iald dX6_performEntry_8 (gH_5 ht hD) (by omega) (by decide) ?_
  refine pr_istore_n dX6_performEntry_9 (by decide) rfl ?_
  refine pr_aload_n dX6_performEntry_10 rfl ?_
  refine pr_getf dX6_performEntry_11 pzf_6_10 (gS_0 ht hD hu0) rfl ?_
  refine pr_getf dX6_performEntry_14 pzf_6_40 (sH_0 hj) rfl ?_
  refine pr_iload_n dX6_performEntry_17 rfl ?_
  refine zcv1i dX6_performEntry_18 pzm_6_79 pzt_X1_indexOf (sH_1 hj) (kX1_indexOf hj hX (by omega)) (by decide) (Nat.le_of_ble_eq_true rfl) (by decide) ?_
  refine pr_istore_n dX6_performEntry_21 (by decide) rfl ?_
  refine pr_aload_n dX6_performEntry_22 rfl ?_
  refine pr_getf dX6_performEntry_23 pzf_6_29 (gS_0 ht hD hu0) rfl ?_
  refine pr_getf dX6_performEntry_26 pzf_6_369 (gH_3 ht hD) rfl ?_
  rw [e3]
  refine pr_tsin (off := 103) (tgt := 132) dX6_performEntry_29 (by decide) (by decide) (by decide) (by decide) ?_
  refine pr_aload_n dX6_performEntry_132 rfl ?_
  refine pr_iload_n dX6_performEntry_133 rfl ?_
  refine zcv1i dX6_performEntry_134 pzm_6_373 pzt_X6_performAdd (gS_0 ht hD hu0) (kX6_performAdd_k hV k50 g1 g2) (by decide) (Nat.le_of_ble_eq_true rfl) (by decide) ?_
  exact pr_iret dX6_performEntry_137 rfl rfl (zret (by rfl))
set_option maxRecDepth 100000 in
set_option maxHeartbeats 4000000 in
theorem kX6_performEntry_ct (hV : cV t u a K X) (e3 : K 3 3 = 99) (g1 : ¬ (((1 ≤ K 5 0 ∧ K 5 0 ≤ 99) ∧ xix X (K 5 0) < 0) ∧ X 1 1 < 12)) : pz_Cd en 8 114 [.ref (t 0)] (sH (tH h t u K) a (sq a) X) 0 0 (pz_ret (some (.int (zI 0))) (sH (tH h t u K) a (sq a) X)) := by
  refine pz_in pzt_X6_performEntry ?_
  obtain ⟨hj, ht, hD, hu0, hI, hK, ⟨f0, f1⟩, ⟨r0, r1⟩, ⟨q0, q1⟩, hA⟩ := id hV
  have hX := hI.1
  obtain ⟨hR, hn0, hn1, hm0, hm1⟩ := id hX
  have hp := xix_R hX (K 5 0)
  have k50 := hK 5 0
  have k51 := hK 5 1
  have k52 := hK 5 2
  refine pr_aload_n dX6_performEntry_0 rfl ?_
  refine pr_getf dX6_performEntry_1 pzf_6_29 (gS_0 ht hD hu0) rfl ?_
  refine pr_getf dX6_performEntry_4 pzf_6_366 (gH_3 ht hD) rfl ?_
  refine zr_iconst dX6_performEntry_7 ?_
  refine zr_iald dX6_performEntry_8 (gH_5 ht hD) (by omega) (by decide) ?_
  refine pr_istore_n dX6_performEntry_9 (by decide) rfl ?_
  refine pr_aload_n dX6_performEntry_10 rfl ?_
  refine pr_getf dX6_performEntry_11 pzf_6_10 (gS_0 ht hD hu0) rfl ?_
  refine pr_getf dX6_performEntry_14 pzf_6_40 (sH_0 hj) rfl ?_
  refine pr_iload_n dX6_performEntry_17 rfl ?_
  refine zcv1i dX6_performEntry_18 pzm_6_79 pzt_X1_indexOf (sH_1 hj) (kX1_indexOf hj hX (by omega)) (by decide) (Nat.le_of_ble_eq_true rfl) (by decide) ?_
  refine pr_istore_n dX6_performEntry_21 (by decide) rfl ?_
  refine pr_aload_n dX6_performEntry_22 rfl ?_
  refine pr_getf dX6_performEntry_23 pzf_6_29 (gS_0 ht hD hu0) rfl ?_
  refine pr_getf dX6_performEntry_26 pzf_6_369 (gH_3 ht hD) rfl ?_
  rw [e3]
  refine pr_tsin (off := 103) (tgt := 132) dX6_performEntry_29 (by decide) (by decide) (by decide) (by decide) ?_
  refine pr_aload_n dX6_performEntry_132 rfl ?_
  refine pr_iload_n dX6_performEntry_133 rfl ?_
  refine zcv1i dX6_performEntry_134 pzm_6_373 pzt_X6_performAdd (gS_0 ht hD hu0) (kX6_performAdd_t hV k50 g1) (by decide) (Nat.le_of_ble_eq_true rfl) (by decide) ?_
  exact pr_iret dX6_performEntry_137 rfl rfl (zret (by rfl))
set_option maxRecDepth 100000 in
set_option maxHeartbeats 4000000 in
theorem kX6_performEntry_xk (hV : cV t u a K X) (e3 : K 3 3 = 120) (g1 : 0 ≤ xix X (K 5 0)) (g9 : (xrD X (xix X (K 5 0)) False) = 0) : pz_Cd en 8 114 [.ref (t 0)] (sH (tH h t u K) a (sq a) X) 0 0 (pz_ret (some (.int (zI 1))) (sH (tH h t u K) (zs (pD (xix X (K 5 0)) (X 1 1 - 1)) a) (sq (zs (pD (xix X (K 5 0)) (X 1 1 - 1)) a)) (xdp (xdD (xhl X (xix X (K 5 0)) False 12) (xix X (K 5 0))) (xix X (K 5 0)) 12))) := by
  refine pz_in pzt_X6_performEntry ?_
  obtain ⟨hj, ht, hD, hu0, hI, hK, ⟨f0, f1⟩, ⟨r0, r1⟩, ⟨q0, q1⟩, hA⟩ := id hV
  have hX := hI.1
  obtain ⟨hR, hn0, hn1, hm0, hm1⟩ := id hX
  have hp := xix_R hX (K 5 0)
  have k50 := hK 5 0
  have k51 := hK 5 1
  have k52 := hK 5 2
  refine pr_aload_n dX6_performEntry_0 rfl ?_
  refine pr_getf dX6_performEntry_1 pzf_6_29 (gS_0 ht hD hu0) rfl ?_
  refine pr_getf dX6_performEntry_4 pzf_6_366 (gH_3 ht hD) rfl ?_
  refine zr_iconst dX6_performEntry_7 ?_
  refine zr_iald dX6_performEntry_8 (gH_5 ht hD) (by omega) (by decide) ?_
  refine pr_istore_n dX6_performEntry_9 (by decide) rfl ?_
  refine pr_aload_n dX6_performEntry_10 rfl ?_
  refine pr_getf dX6_performEntry_11 pzf_6_10 (gS_0 ht hD hu0) rfl ?_
  refine pr_getf dX6_performEntry_14 pzf_6_40 (sH_0 hj) rfl ?_
  refine pr_iload_n dX6_performEntry_17 rfl ?_
  refine zcv1i dX6_performEntry_18 pzm_6_79 pzt_X1_indexOf (sH_1 hj) (kX1_indexOf hj hX (by omega)) (by decide) (Nat.le_of_ble_eq_true rfl) (by decide) ?_
  refine pr_istore_n dX6_performEntry_21 (by decide) rfl ?_
  refine pr_aload_n dX6_performEntry_22 rfl ?_
  refine pr_getf dX6_performEntry_23 pzf_6_29 (gS_0 ht hD hu0) rfl ?_
  refine pr_getf dX6_performEntry_26 pzf_6_369 (gH_3 ht hD) rfl ?_
  rw [e3]
  refine pr_tsin (off := 109) (tgt := 138) dX6_performEntry_29 (by decide) (by decide) (by decide) (by decide) ?_
  refine pr_iload_n dX6_performEntry_138 rfl ?_
  refine zr_if_lt (tgt := 154) dX6_performEntry_139 (by decide) (by omega) (fun c139 => by exfalso; omega) (fun c139 => ?_)
  refine pr_aload_n dX6_performEntry_142 rfl ?_
  refine pr_iload_n dX6_performEntry_143 rfl ?_
  refine zcv1i dX6_performEntry_144 pzm_6_376 pzt_X6_performRemove (gS_0 ht hD hu0) (kX6_performRemove_k hV g1 (by omega) g9) (by decide) (Nat.le_of_ble_eq_true rfl) (by decide) ?_
  refine zr_if_eq (tgt := 154) dX6_performEntry_147 (by decide) (by decide) (fun c147 => by exfalso; omega) (fun c147 => ?_)
  refine zr_iconst dX6_performEntry_150 ?_
  refine pr_goto (tgt := 155) dX6_performEntry_151 (by decide) ?_
  exact pr_iret dX6_performEntry_155 rfl rfl (zret (by rfl))
set_option maxRecDepth 100000 in
set_option maxHeartbeats 4000000 in
theorem kX6_performEntry_xr (hV : cV t u a K X) (e3 : K 3 3 = 120) (g1 : 0 ≤ xix X (K 5 0)) (g9 : ¬ (xrD X (xix X (K 5 0)) False) = 0) : pz_Cd en 8 114 [.ref (t 0)] (sH (tH h t u K) a (sq a) X) 0 0 (pz_ret (some (.int (zI 0))) (sH (tH h t u (zv K 0 (zu (K 0) 5 (xrD X (xix X (K 5 0)) False)))) a (sq a) X)) := by
  refine pz_in pzt_X6_performEntry ?_
  obtain ⟨hj, ht, hD, hu0, hI, hK, ⟨f0, f1⟩, ⟨r0, r1⟩, ⟨q0, q1⟩, hA⟩ := id hV
  have hX := hI.1
  obtain ⟨hR, hn0, hn1, hm0, hm1⟩ := id hX
  have hp := xix_R hX (K 5 0)
  have k50 := hK 5 0
  have k51 := hK 5 1
  have k52 := hK 5 2
  refine pr_aload_n dX6_performEntry_0 rfl ?_
  refine pr_getf dX6_performEntry_1 pzf_6_29 (gS_0 ht hD hu0) rfl ?_
  refine pr_getf dX6_performEntry_4 pzf_6_366 (gH_3 ht hD) rfl ?_
  refine zr_iconst dX6_performEntry_7 ?_
  refine zr_iald dX6_performEntry_8 (gH_5 ht hD) (by omega) (by decide) ?_
  refine pr_istore_n dX6_performEntry_9 (by decide) rfl ?_
  refine pr_aload_n dX6_performEntry_10 rfl ?_
  refine pr_getf dX6_performEntry_11 pzf_6_10 (gS_0 ht hD hu0) rfl ?_
  refine pr_getf dX6_performEntry_14 pzf_6_40 (sH_0 hj) rfl ?_
  refine pr_iload_n dX6_performEntry_17 rfl ?_
  refine zcv1i dX6_performEntry_18 pzm_6_79 pzt_X1_indexOf (sH_1 hj) (kX1_indexOf hj hX (by omega)) (by decide) (Nat.le_of_ble_eq_true rfl) (by decide) ?_
  refine pr_istore_n dX6_performEntry_21 (by decide) rfl ?_
  refine pr_aload_n dX6_performEntry_22 rfl ?_
  refine pr_getf dX6_performEntry_23 pzf_6_29 (gS_0 ht hD hu0) rfl ?_
  refine pr_getf dX6_performEntry_26 pzf_6_369 (gH_3 ht hD) rfl ?_
  rw [e3]
  refine pr_tsin (off := 109) (tgt := 138) dX6_performEntry_29 (by decide) (by decide) (by decide) (by decide) ?_
  refine pr_iload_n dX6_performEntry_138 rfl ?_
  refine zr_if_lt (tgt := 154) dX6_performEntry_139 (by decide) (by omega) (fun c139 => by exfalso; omega) (fun c139 => ?_)
  refine pr_aload_n dX6_performEntry_142 rfl ?_
  refine pr_iload_n dX6_performEntry_143 rfl ?_
  refine zcv1i dX6_performEntry_144 pzm_6_376 pzt_X6_performRemove (gS_0 ht hD hu0) (kX6_performRemove_r hV g1 (by omega) g9) (by decide) (Nat.le_of_ble_eq_true rfl) (by decide) ?_
  refine zr_if_eq (tgt := 154) dX6_performEntry_147 (by decide) (by decide) (fun c147 => ?_) (fun c147 => by exfalso; omega)
  refine zr_iconst dX6_performEntry_154 ?_
  exact pr_iret dX6_performEntry_155 rfl rfl (zret (by rfl))
set_option maxRecDepth 100000 in
set_option maxHeartbeats 4000000 in
theorem kX6_performEntry_xt (hV : cV t u a K X) (e3 : K 3 3 = 120) (g1 : ¬ 0 ≤ xix X (K 5 0)) : pz_Cd en 8 114 [.ref (t 0)] (sH (tH h t u K) a (sq a) X) 0 0 (pz_ret (some (.int (zI 0))) (sH (tH h t u K) a (sq a) X)) := by
  refine pz_in pzt_X6_performEntry ?_
  obtain ⟨hj, ht, hD, hu0, hI, hK, ⟨f0, f1⟩, ⟨r0, r1⟩, ⟨q0, q1⟩, hA⟩ := id hV
  have hX := hI.1
  obtain ⟨hR, hn0, hn1, hm0, hm1⟩ := id hX
  have hp := xix_R hX (K 5 0)
  have k50 := hK 5 0
  have k51 := hK 5 1
  have k52 := hK 5 2
  refine pr_aload_n dX6_performEntry_0 rfl ?_
  refine pr_getf dX6_performEntry_1 pzf_6_29 (gS_0 ht hD hu0) rfl ?_
  refine pr_getf dX6_performEntry_4 pzf_6_366 (gH_3 ht hD) rfl ?_
  refine zr_iconst dX6_performEntry_7 ?_
  refine zr_iald dX6_performEntry_8 (gH_5 ht hD) (by omega) (by decide) ?_
  refine pr_istore_n dX6_performEntry_9 (by decide) rfl ?_
  refine pr_aload_n dX6_performEntry_10 rfl ?_
  refine pr_getf dX6_performEntry_11 pzf_6_10 (gS_0 ht hD hu0) rfl ?_
  refine pr_getf dX6_performEntry_14 pzf_6_40 (sH_0 hj) rfl ?_
  refine pr_iload_n dX6_performEntry_17 rfl ?_
  refine zcv1i dX6_performEntry_18 pzm_6_79 pzt_X1_indexOf (sH_1 hj) (kX1_indexOf hj hX (by omega)) (by decide) (Nat.le_of_ble_eq_true rfl) (by decide) ?_
  refine pr_istore_n dX6_performEntry_21 (by decide) rfl ?_
  refine pr_aload_n dX6_performEntry_22 rfl ?_
  refine pr_getf dX6_performEntry_23 pzf_6_29 (gS_0 ht hD hu0) rfl ?_
  refine pr_getf dX6_performEntry_26 pzf_6_369 (gH_3 ht hD) rfl ?_
  rw [e3]
  refine pr_tsin (off := 109) (tgt := 138) dX6_performEntry_29 (by decide) (by decide) (by decide) (by decide) ?_
  refine pr_iload_n dX6_performEntry_138 rfl ?_
  refine zr_if_lt (tgt := 154) dX6_performEntry_139 (by decide) (by omega) (fun c139 => ?_) (fun c139 => by exfalso; omega)
  refine zr_iconst dX6_performEntry_154 ?_
  exact pr_iret dX6_performEntry_155 rfl rfl (zret (by rfl))
set_option maxRecDepth 100000 in
set_option maxHeartbeats 4000000 in
theorem kX6_performEntry_sk (hV : cV t u a K X) (e3 : K 3 3 = 115) (g1 : 0 ≤ xix X (K 5 0)) (g2 : 0 ≤ K 5 1 ∧ K 5 1 ≤ 11) (g3 : 0 ≤ K 5 2 ∧ K 5 2 ≤ 100) (g9 : (xrG X (xix X (K 5 0)) (K 5 1) (K 5 2) False) = 0) : pz_Cd en 8 114 [.ref (t 0)] (sH (tH h t u K) a (sq a) X) 0 0 (pz_ret (some (.int (zI 1))) (sH (tH h t u K) a (sq a) (xgi X (xix X (K 5 0)) (K 5 1) (K 5 2) 0 False))) := by
  refine pz_in pzt_X6_performEntry ?_
  obtain ⟨hj, ht, hD, hu0, hI, hK, ⟨f0, f1⟩, ⟨r0, r1⟩, ⟨q0, q1⟩, hA⟩ := id hV
  have hX := hI.1
  obtain ⟨hR, hn0, hn1, hm0, hm1⟩ := id hX
  have hp := xix_R hX (K 5 0)
  have k50 := hK 5 0
  have k51 := hK 5 1
  have k52 := hK 5 2
  refine pr_aload_n dX6_performEntry_0 rfl ?_
  refine pr_getf dX6_performEntry_1 pzf_6_29 (gS_0 ht hD hu0) rfl ?_
  refine pr_getf dX6_performEntry_4 pzf_6_366 (gH_3 ht hD) rfl ?_
  refine zr_iconst dX6_performEntry_7 ?_
  refine zr_iald dX6_performEntry_8 (gH_5 ht hD) (by omega) (by decide) ?_
  refine pr_istore_n dX6_performEntry_9 (by decide) rfl ?_
  refine pr_aload_n dX6_performEntry_10 rfl ?_
  refine pr_getf dX6_performEntry_11 pzf_6_10 (gS_0 ht hD hu0) rfl ?_
  refine pr_getf dX6_performEntry_14 pzf_6_40 (sH_0 hj) rfl ?_
  refine pr_iload_n dX6_performEntry_17 rfl ?_
  refine zcv1i dX6_performEntry_18 pzm_6_79 pzt_X1_indexOf (sH_1 hj) (kX1_indexOf hj hX (by omega)) (by decide) (Nat.le_of_ble_eq_true rfl) (by decide) ?_
  refine pr_istore_n dX6_performEntry_21 (by decide) rfl ?_
  refine pr_aload_n dX6_performEntry_22 rfl ?_
  refine pr_getf dX6_performEntry_23 pzf_6_29 (gS_0 ht hD hu0) rfl ?_
  refine pr_getf dX6_performEntry_26 pzf_6_369 (gH_3 ht hD) rfl ?_
  rw [e3]
  refine pr_tsin (off := 127) (tgt := 156) dX6_performEntry_29 (by decide) (by decide) (by decide) (by decide) ?_
  refine pr_iload_n dX6_performEntry_156 rfl ?_
  refine zr_if_lt (tgt := 220) dX6_performEntry_157 (by decide) (by omega) (fun c157 => by exfalso; omega) (fun c157 => ?_)
  refine pr_aload_n dX6_performEntry_160 rfl ?_
  refine pr_getf dX6_performEntry_161 pzf_6_29 (gS_0 ht hD hu0) rfl ?_
  refine pr_getf dX6_performEntry_164 pzf_6_366 (gH_3 ht hD) rfl ?_
  refine zr_iconst dX6_performEntry_167 ?_
  refine zr_iald dX6_performEntry_168 (gH_5 ht hD) (by omega) (by decide) ?_
  refine zcs1i dX6_performEntry_169 pzm_6_159 pzt_X6_isChannel (kX6_isChannel (by omega)) (by decide) (Nat.le_of_ble_eq_true rfl) ?_
  refine zr_if_eq (tgt := 220) dX6_performEntry_172 (by decide) (bI_R _) (fun c172 => by exfalso; have bb := bI_0 c172; omega) (fun c172 => ?_)
  have b172 := bI_ne c172
  refine pr_aload_n dX6_performEntry_175 rfl ?_
  refine pr_getf dX6_performEntry_176 pzf_6_29 (gS_0 ht hD hu0) rfl ?_
  refine pr_getf dX6_performEntry_179 pzf_6_366 (gH_3 ht hD) rfl ?_
  refine zr_iconst dX6_performEntry_182 ?_
  refine zr_iald dX6_performEntry_183 (gH_5 ht hD) (by omega) (by decide) ?_
  refine zcs1i dX6_performEntry_184 pzm_6_164 pzt_X6_isLevel (kX6_isLevel (by omega)) (by decide) (Nat.le_of_ble_eq_true rfl) ?_
  refine zr_if_eq (tgt := 220) dX6_performEntry_187 (by decide) (bI_R _) (fun c187 => by exfalso; have bb := bI_0 c187; omega) (fun c187 => ?_)
  have b187 := bI_ne c187
  refine pr_aload_n dX6_performEntry_190 rfl ?_
  refine pr_iload_n dX6_performEntry_191 rfl ?_
  refine pr_aload_n dX6_performEntry_192 rfl ?_
  refine pr_getf dX6_performEntry_193 pzf_6_29 (gS_0 ht hD hu0) rfl ?_
  refine pr_getf dX6_performEntry_196 pzf_6_366 (gH_3 ht hD) rfl ?_
  refine zr_iconst dX6_performEntry_199 ?_
  refine zr_iald dX6_performEntry_200 (gH_5 ht hD) (by omega) (by decide) ?_
  refine pr_aload_n dX6_performEntry_201 rfl ?_
  refine pr_getf dX6_performEntry_202 pzf_6_29 (gS_0 ht hD hu0) rfl ?_
  refine pr_getf dX6_performEntry_205 pzf_6_366 (gH_3 ht hD) rfl ?_
  refine zr_iconst dX6_performEntry_208 ?_
  refine zr_iald dX6_performEntry_209 (gH_5 ht hD) (by omega) (by decide) ?_
  refine zcv3i dX6_performEntry_210 pzm_6_379 pzt_X6_performGive (gS_0 ht hD hu0) (kX6_performGive_k hV g1 (by omega) g2.1 g2.2 k52 g9) (by decide) (Nat.le_of_ble_eq_true rfl) (by decide) ?_
  refine zr_if_eq (tgt := 220) dX6_performEntry_213 (by decide) (by decide) (fun c213 => by exfalso; omega) (fun c213 => ?_)
  refine zr_iconst dX6_performEntry_216 ?_
  refine pr_goto (tgt := 221) dX6_performEntry_217 (by decide) ?_
  exact pr_iret dX6_performEntry_221 rfl rfl (zret (by rfl))
set_option maxRecDepth 100000 in
set_option maxHeartbeats 4000000 in
theorem kX6_performEntry_sr (hV : cV t u a K X) (e3 : K 3 3 = 115) (g1 : 0 ≤ xix X (K 5 0)) (g2 : 0 ≤ K 5 1 ∧ K 5 1 ≤ 11) (g3 : 0 ≤ K 5 2 ∧ K 5 2 ≤ 100) (g9 : ¬ (xrG X (xix X (K 5 0)) (K 5 1) (K 5 2) False) = 0) : pz_Cd en 8 114 [.ref (t 0)] (sH (tH h t u K) a (sq a) X) 0 0 (pz_ret (some (.int (zI 0))) (sH (tH h t u (zv K 0 (zu (K 0) 5 (xrG X (xix X (K 5 0)) (K 5 1) (K 5 2) False)))) a (sq a) X)) := by
  refine pz_in pzt_X6_performEntry ?_
  obtain ⟨hj, ht, hD, hu0, hI, hK, ⟨f0, f1⟩, ⟨r0, r1⟩, ⟨q0, q1⟩, hA⟩ := id hV
  have hX := hI.1
  obtain ⟨hR, hn0, hn1, hm0, hm1⟩ := id hX
  have hp := xix_R hX (K 5 0)
  have k50 := hK 5 0
  have k51 := hK 5 1
  have k52 := hK 5 2
  refine pr_aload_n dX6_performEntry_0 rfl ?_
  refine pr_getf dX6_performEntry_1 pzf_6_29 (gS_0 ht hD hu0) rfl ?_
  refine pr_getf dX6_performEntry_4 pzf_6_366 (gH_3 ht hD) rfl ?_
  refine zr_iconst dX6_performEntry_7 ?_
  refine zr_iald dX6_performEntry_8 (gH_5 ht hD) (by omega) (by decide) ?_
  refine pr_istore_n dX6_performEntry_9 (by decide) rfl ?_
  refine pr_aload_n dX6_performEntry_10 rfl ?_
  refine pr_getf dX6_performEntry_11 pzf_6_10 (gS_0 ht hD hu0) rfl ?_
  refine pr_getf dX6_performEntry_14 pzf_6_40 (sH_0 hj) rfl ?_
  refine pr_iload_n dX6_performEntry_17 rfl ?_
  refine zcv1i dX6_performEntry_18 pzm_6_79 pzt_X1_indexOf (sH_1 hj) (kX1_indexOf hj hX (by omega)) (by decide) (Nat.le_of_ble_eq_true rfl) (by decide) ?_
  refine pr_istore_n dX6_performEntry_21 (by decide) rfl ?_
  refine pr_aload_n dX6_performEntry_22 rfl ?_
  refine pr_getf dX6_performEntry_23 pzf_6_29 (gS_0 ht hD hu0) rfl ?_
  refine pr_getf dX6_performEntry_26 pzf_6_369 (gH_3 ht hD) rfl ?_
  rw [e3]
  refine pr_tsin (off := 127) (tgt := 156) dX6_performEntry_29 (by decide) (by decide) (by decide) (by decide) ?_
  refine pr_iload_n dX6_performEntry_156 rfl ?_
  refine zr_if_lt (tgt := 220) dX6_performEntry_157 (by decide) (by omega) (fun c157 => by exfalso; omega) (fun c157 => ?_)
  refine pr_aload_n dX6_performEntry_160 rfl ?_
  refine pr_getf dX6_performEntry_161 pzf_6_29 (gS_0 ht hD hu0) rfl ?_
  refine pr_getf dX6_performEntry_164 pzf_6_366 (gH_3 ht hD) rfl ?_
  refine zr_iconst dX6_performEntry_167 ?_
  refine zr_iald dX6_performEntry_168 (gH_5 ht hD) (by omega) (by decide) ?_
  refine zcs1i dX6_performEntry_169 pzm_6_159 pzt_X6_isChannel (kX6_isChannel (by omega)) (by decide) (Nat.le_of_ble_eq_true rfl) ?_
  refine zr_if_eq (tgt := 220) dX6_performEntry_172 (by decide) (bI_R _) (fun c172 => by exfalso; have bb := bI_0 c172; omega) (fun c172 => ?_)
  have b172 := bI_ne c172
  refine pr_aload_n dX6_performEntry_175 rfl ?_
  refine pr_getf dX6_performEntry_176 pzf_6_29 (gS_0 ht hD hu0) rfl ?_
  refine pr_getf dX6_performEntry_179 pzf_6_366 (gH_3 ht hD) rfl ?_
  refine zr_iconst dX6_performEntry_182 ?_
  refine zr_iald dX6_performEntry_183 (gH_5 ht hD) (by omega) (by decide) ?_
  refine zcs1i dX6_performEntry_184 pzm_6_164 pzt_X6_isLevel (kX6_isLevel (by omega)) (by decide) (Nat.le_of_ble_eq_true rfl) ?_
  refine zr_if_eq (tgt := 220) dX6_performEntry_187 (by decide) (bI_R _) (fun c187 => by exfalso; have bb := bI_0 c187; omega) (fun c187 => ?_)
  have b187 := bI_ne c187
  refine pr_aload_n dX6_performEntry_190 rfl ?_
  refine pr_iload_n dX6_performEntry_191 rfl ?_
  refine pr_aload_n dX6_performEntry_192 rfl ?_
  refine pr_getf dX6_performEntry_193 pzf_6_29 (gS_0 ht hD hu0) rfl ?_
  refine pr_getf dX6_performEntry_196 pzf_6_366 (gH_3 ht hD) rfl ?_
  refine zr_iconst dX6_performEntry_199 ?_
  refine zr_iald dX6_performEntry_200 (gH_5 ht hD) (by omega) (by decide) ?_
  refine pr_aload_n dX6_performEntry_201 rfl ?_
  refine pr_getf dX6_performEntry_202 pzf_6_29 (gS_0 ht hD hu0) rfl ?_
  refine pr_getf dX6_performEntry_205 pzf_6_366 (gH_3 ht hD) rfl ?_
  refine zr_iconst dX6_performEntry_208 ?_
  refine zr_iald dX6_performEntry_209 (gH_5 ht hD) (by omega) (by decide) ?_
  refine zcv3i dX6_performEntry_210 pzm_6_379 pzt_X6_performGive (gS_0 ht hD hu0) (kX6_performGive_r hV g1 (by omega) g2.1 g2.2 k52 g9) (by decide) (Nat.le_of_ble_eq_true rfl) (by decide) ?_
  refine zr_if_eq (tgt := 220) dX6_performEntry_213 (by decide) (by decide) (fun c213 => ?_) (fun c213 => by exfalso; omega)
  refine zr_iconst dX6_performEntry_220 ?_
  exact pr_iret dX6_performEntry_221 rfl rfl (zret (by rfl))
set_option maxRecDepth 100000 in
set_option maxHeartbeats 4000000 in
theorem kX6_performEntry_st (hV : cV t u a K X) (e3 : K 3 3 = 115) (g1 : ¬ (0 ≤ xix X (K 5 0) ∧ (0 ≤ K 5 1 ∧ K 5 1 ≤ 11) ∧ (0 ≤ K 5 2 ∧ K 5 2 ≤ 100))) : pz_Cd en 8 114 [.ref (t 0)] (sH (tH h t u K) a (sq a) X) 0 0 (pz_ret (some (.int (zI 0))) (sH (tH h t u K) a (sq a) X)) := by
  refine pz_in pzt_X6_performEntry ?_
  obtain ⟨hj, ht, hD, hu0, hI, hK, ⟨f0, f1⟩, ⟨r0, r1⟩, ⟨q0, q1⟩, hA⟩ := id hV
  have hX := hI.1
  obtain ⟨hR, hn0, hn1, hm0, hm1⟩ := id hX
  have hp := xix_R hX (K 5 0)
  have k50 := hK 5 0
  have k51 := hK 5 1
  have k52 := hK 5 2
  refine pr_aload_n dX6_performEntry_0 rfl ?_
  refine pr_getf dX6_performEntry_1 pzf_6_29 (gS_0 ht hD hu0) rfl ?_
  refine pr_getf dX6_performEntry_4 pzf_6_366 (gH_3 ht hD) rfl ?_
  refine zr_iconst dX6_performEntry_7 ?_
  refine zr_iald dX6_performEntry_8 (gH_5 ht hD) (by omega) (by decide) ?_
  refine pr_istore_n dX6_performEntry_9 (by decide) rfl ?_
  refine pr_aload_n dX6_performEntry_10 rfl ?_
  refine pr_getf dX6_performEntry_11 pzf_6_10 (gS_0 ht hD hu0) rfl ?_
  refine pr_getf dX6_performEntry_14 pzf_6_40 (sH_0 hj) rfl ?_
  refine pr_iload_n dX6_performEntry_17 rfl ?_
  refine zcv1i dX6_performEntry_18 pzm_6_79 pzt_X1_indexOf (sH_1 hj) (kX1_indexOf hj hX (by omega)) (by decide) (Nat.le_of_ble_eq_true rfl) (by decide) ?_
  refine pr_istore_n dX6_performEntry_21 (by decide) rfl ?_
  refine pr_aload_n dX6_performEntry_22 rfl ?_
  refine pr_getf dX6_performEntry_23 pzf_6_29 (gS_0 ht hD hu0) rfl ?_
  refine pr_getf dX6_performEntry_26 pzf_6_369 (gH_3 ht hD) rfl ?_
  rw [e3]
  refine pr_tsin (off := 127) (tgt := 156) dX6_performEntry_29 (by decide) (by decide) (by decide) (by decide) ?_
  refine pr_iload_n dX6_performEntry_156 rfl ?_
  refine zr_if_lt (tgt := 220) dX6_performEntry_157 (by decide) (by omega) (fun c157 => ?_) (fun c157 => ?_)
  · refine zr_iconst dX6_performEntry_220 ?_
    exact pr_iret dX6_performEntry_221 rfl rfl (zret (by rfl))
  · refine pr_aload_n dX6_performEntry_160 rfl ?_
    refine pr_getf dX6_performEntry_161 pzf_6_29 (gS_0 ht hD hu0) rfl ?_
    refine pr_getf dX6_performEntry_164 pzf_6_366 (gH_3 ht hD) rfl ?_
    refine zr_iconst dX6_performEntry_167 ?_
    refine zr_iald dX6_performEntry_168 (gH_5 ht hD) (by omega) (by decide) ?_
    refine zcs1i dX6_performEntry_169 pzm_6_159 pzt_X6_isChannel (kX6_isChannel (by omega)) (by decide) (Nat.le_of_ble_eq_true rfl) ?_
    refine zr_if_eq (tgt := 220) dX6_performEntry_172 (by decide) (bI_R _) (fun c172 => ?_) (fun c172 => ?_)
    · have b172 := bI_0 c172
      refine zr_iconst dX6_performEntry_220 ?_
      exact pr_iret dX6_performEntry_221 rfl rfl (zret (by rfl))
    · have b172 := bI_ne c172
      refine pr_aload_n dX6_performEntry_175 rfl ?_
      refine pr_getf dX6_performEntry_176 pzf_6_29 (gS_0 ht hD hu0) rfl ?_
      refine pr_getf dX6_performEntry_179 pzf_6_366 (gH_3 ht hD) rfl ?_
      refine zr_iconst dX6_performEntry_182 ?_
      refine zr_iald dX6_performEntry_183 (gH_5 ht hD) (by omega) (by decide) ?_
      refine zcs1i dX6_performEntry_184 pzm_6_164 pzt_X6_isLevel (kX6_isLevel (by omega)) (by decide) (Nat.le_of_ble_eq_true rfl) ?_
      refine zr_if_eq (tgt := 220) dX6_performEntry_187 (by decide) (bI_R _) (fun c187 => ?_) (fun c187 => by exfalso; have bb := bI_ne c187; omega)
      have b187 := bI_0 c187
      refine zr_iconst dX6_performEntry_220 ?_
      exact pr_iret dX6_performEntry_221 rfl rfl (zret (by rfl))
set_option maxRecDepth 100000 in
set_option maxHeartbeats 4000000 in
theorem kX6_performEntry_rk (hV : cV t u a K X) (e3 : K 3 3 = 114) (g1 : 0 ≤ xix X (K 5 0)) (g2 : 0 ≤ K 5 1 ∧ K 5 1 ≤ 11) (g9 : (xrG X (xix X (K 5 0)) (K 5 1) (-1) False) = 0) : pz_Cd en 8 114 [.ref (t 0)] (sH (tH h t u K) a (sq a) X) 0 0 (pz_ret (some (.int (zI 1))) (sH (tH h t u K) a (sq a) (xgi X (xix X (K 5 0)) (K 5 1) (-1) 0 False))) := by
  refine pz_in pzt_X6_performEntry ?_
  obtain ⟨hj, ht, hD, hu0, hI, hK, ⟨f0, f1⟩, ⟨r0, r1⟩, ⟨q0, q1⟩, hA⟩ := id hV
  have hX := hI.1
  obtain ⟨hR, hn0, hn1, hm0, hm1⟩ := id hX
  have hp := xix_R hX (K 5 0)
  have k50 := hK 5 0
  have k51 := hK 5 1
  have k52 := hK 5 2
  refine pr_aload_n dX6_performEntry_0 rfl ?_
  refine pr_getf dX6_performEntry_1 pzf_6_29 (gS_0 ht hD hu0) rfl ?_
  refine pr_getf dX6_performEntry_4 pzf_6_366 (gH_3 ht hD) rfl ?_
  refine zr_iconst dX6_performEntry_7 ?_
  refine zr_iald dX6_performEntry_8 (gH_5 ht hD) (by omega) (by decide) ?_
  refine pr_istore_n dX6_performEntry_9 (by decide) rfl ?_
  refine pr_aload_n dX6_performEntry_10 rfl ?_
  refine pr_getf dX6_performEntry_11 pzf_6_10 (gS_0 ht hD hu0) rfl ?_
  refine pr_getf dX6_performEntry_14 pzf_6_40 (sH_0 hj) rfl ?_
  refine pr_iload_n dX6_performEntry_17 rfl ?_
  refine zcv1i dX6_performEntry_18 pzm_6_79 pzt_X1_indexOf (sH_1 hj) (kX1_indexOf hj hX (by omega)) (by decide) (Nat.le_of_ble_eq_true rfl) (by decide) ?_
  refine pr_istore_n dX6_performEntry_21 (by decide) rfl ?_
  refine pr_aload_n dX6_performEntry_22 rfl ?_
  refine pr_getf dX6_performEntry_23 pzf_6_29 (gS_0 ht hD hu0) rfl ?_
  refine pr_getf dX6_performEntry_26 pzf_6_369 (gH_3 ht hD) rfl ?_
  rw [e3]
  refine pr_tsin (off := 193) (tgt := 222) dX6_performEntry_29 (by decide) (by decide) (by decide) (by decide) ?_
  refine pr_iload_n dX6_performEntry_222 rfl ?_
  refine zr_if_lt (tgt := 263) dX6_performEntry_223 (by decide) (by omega) (fun c223 => by exfalso; omega) (fun c223 => ?_)
  refine pr_aload_n dX6_performEntry_226 rfl ?_
  refine pr_getf dX6_performEntry_227 pzf_6_29 (gS_0 ht hD hu0) rfl ?_
  refine pr_getf dX6_performEntry_230 pzf_6_366 (gH_3 ht hD) rfl ?_
  refine zr_iconst dX6_performEntry_233 ?_
  refine zr_iald dX6_performEntry_234 (gH_5 ht hD) (by omega) (by decide) ?_
  refine zcs1i dX6_performEntry_235 pzm_6_159 pzt_X6_isChannel (kX6_isChannel (by omega)) (by decide) (Nat.le_of_ble_eq_true rfl) ?_
  refine zr_if_eq (tgt := 263) dX6_performEntry_238 (by decide) (bI_R _) (fun c238 => by exfalso; have bb := bI_0 c238; omega) (fun c238 => ?_)
  have b238 := bI_ne c238
  refine pr_aload_n dX6_performEntry_241 rfl ?_
  refine pr_iload_n dX6_performEntry_242 rfl ?_
  refine pr_aload_n dX6_performEntry_243 rfl ?_
  refine pr_getf dX6_performEntry_244 pzf_6_29 (gS_0 ht hD hu0) rfl ?_
  refine pr_getf dX6_performEntry_247 pzf_6_366 (gH_3 ht hD) rfl ?_
  refine zr_iconst dX6_performEntry_250 ?_
  refine zr_iald dX6_performEntry_251 (gH_5 ht hD) (by omega) (by decide) ?_
  refine zr_iconst dX6_performEntry_252 ?_
  refine zcv3i dX6_performEntry_253 pzm_6_379 pzt_X6_performGive (gS_0 ht hD hu0) (kX6_performGive_k hV g1 (by omega) g2.1 g2.2 (by decide) g9) (by decide) (Nat.le_of_ble_eq_true rfl) (by decide) ?_
  refine zr_if_eq (tgt := 263) dX6_performEntry_256 (by decide) (by decide) (fun c256 => by exfalso; omega) (fun c256 => ?_)
  refine zr_iconst dX6_performEntry_259 ?_
  refine pr_goto (tgt := 264) dX6_performEntry_260 (by decide) ?_
  exact pr_iret dX6_performEntry_264 rfl rfl (zret (by rfl))
set_option maxRecDepth 100000 in
set_option maxHeartbeats 4000000 in
theorem kX6_performEntry_rr (hV : cV t u a K X) (e3 : K 3 3 = 114) (g1 : 0 ≤ xix X (K 5 0)) (g2 : 0 ≤ K 5 1 ∧ K 5 1 ≤ 11) (g9 : ¬ (xrG X (xix X (K 5 0)) (K 5 1) (-1) False) = 0) : pz_Cd en 8 114 [.ref (t 0)] (sH (tH h t u K) a (sq a) X) 0 0 (pz_ret (some (.int (zI 0))) (sH (tH h t u (zv K 0 (zu (K 0) 5 (xrG X (xix X (K 5 0)) (K 5 1) (-1) False)))) a (sq a) X)) := by
  refine pz_in pzt_X6_performEntry ?_
  obtain ⟨hj, ht, hD, hu0, hI, hK, ⟨f0, f1⟩, ⟨r0, r1⟩, ⟨q0, q1⟩, hA⟩ := id hV
  have hX := hI.1
  obtain ⟨hR, hn0, hn1, hm0, hm1⟩ := id hX
  have hp := xix_R hX (K 5 0)
  have k50 := hK 5 0
  have k51 := hK 5 1
  have k52 := hK 5 2
  refine pr_aload_n dX6_performEntry_0 rfl ?_
  refine pr_getf dX6_performEntry_1 pzf_6_29 (gS_0 ht hD hu0) rfl ?_
  refine pr_getf dX6_performEntry_4 pzf_6_366 (gH_3 ht hD) rfl ?_
  refine zr_iconst dX6_performEntry_7 ?_
  refine zr_iald dX6_performEntry_8 (gH_5 ht hD) (by omega) (by decide) ?_
  refine pr_istore_n dX6_performEntry_9 (by decide) rfl ?_
  refine pr_aload_n dX6_performEntry_10 rfl ?_
  refine pr_getf dX6_performEntry_11 pzf_6_10 (gS_0 ht hD hu0) rfl ?_
  refine pr_getf dX6_performEntry_14 pzf_6_40 (sH_0 hj) rfl ?_
  refine pr_iload_n dX6_performEntry_17 rfl ?_
  refine zcv1i dX6_performEntry_18 pzm_6_79 pzt_X1_indexOf (sH_1 hj) (kX1_indexOf hj hX (by omega)) (by decide) (Nat.le_of_ble_eq_true rfl) (by decide) ?_
  refine pr_istore_n dX6_performEntry_21 (by decide) rfl ?_
  refine pr_aload_n dX6_performEntry_22 rfl ?_
  refine pr_getf dX6_performEntry_23 pzf_6_29 (gS_0 ht hD hu0) rfl ?_
  refine pr_getf dX6_performEntry_26 pzf_6_369 (gH_3 ht hD) rfl ?_
  rw [e3]
  refine pr_tsin (off := 193) (tgt := 222) dX6_performEntry_29 (by decide) (by decide) (by decide) (by decide) ?_
  refine pr_iload_n dX6_performEntry_222 rfl ?_
  refine zr_if_lt (tgt := 263) dX6_performEntry_223 (by decide) (by omega) (fun c223 => by exfalso; omega) (fun c223 => ?_)
  refine pr_aload_n dX6_performEntry_226 rfl ?_
  refine pr_getf dX6_performEntry_227 pzf_6_29 (gS_0 ht hD hu0) rfl ?_
  refine pr_getf dX6_performEntry_230 pzf_6_366 (gH_3 ht hD) rfl ?_
  refine zr_iconst dX6_performEntry_233 ?_
  refine zr_iald dX6_performEntry_234 (gH_5 ht hD) (by omega) (by decide) ?_
  refine zcs1i dX6_performEntry_235 pzm_6_159 pzt_X6_isChannel (kX6_isChannel (by omega)) (by decide) (Nat.le_of_ble_eq_true rfl) ?_
  refine zr_if_eq (tgt := 263) dX6_performEntry_238 (by decide) (bI_R _) (fun c238 => by exfalso; have bb := bI_0 c238; omega) (fun c238 => ?_)
  have b238 := bI_ne c238
  refine pr_aload_n dX6_performEntry_241 rfl ?_
  refine pr_iload_n dX6_performEntry_242 rfl ?_
  refine pr_aload_n dX6_performEntry_243 rfl ?_
  refine pr_getf dX6_performEntry_244 pzf_6_29 (gS_0 ht hD hu0) rfl ?_
  refine pr_getf dX6_performEntry_247 pzf_6_366 (gH_3 ht hD) rfl ?_
  refine zr_iconst dX6_performEntry_250 ?_
  refine zr_iald dX6_performEntry_251 (gH_5 ht hD) (by omega) (by decide) ?_
  refine zr_iconst dX6_performEntry_252 ?_
  refine zcv3i dX6_performEntry_253 pzm_6_379 pzt_X6_performGive (gS_0 ht hD hu0) (kX6_performGive_r hV g1 (by omega) g2.1 g2.2 (by decide) g9) (by decide) (Nat.le_of_ble_eq_true rfl) (by decide) ?_
  refine zr_if_eq (tgt := 263) dX6_performEntry_256 (by decide) (by decide) (fun c256 => ?_) (fun c256 => by exfalso; omega)
  refine zr_iconst dX6_performEntry_263 ?_
  exact pr_iret dX6_performEntry_264 rfl rfl (zret (by rfl))
set_option maxRecDepth 100000 in
set_option maxHeartbeats 4000000 in
theorem kX6_performEntry_rt (hV : cV t u a K X) (e3 : K 3 3 = 114) (g1 : ¬ (0 ≤ xix X (K 5 0) ∧ 0 ≤ K 5 1 ∧ K 5 1 ≤ 11)) : pz_Cd en 8 114 [.ref (t 0)] (sH (tH h t u K) a (sq a) X) 0 0 (pz_ret (some (.int (zI 0))) (sH (tH h t u K) a (sq a) X)) := by
  refine pz_in pzt_X6_performEntry ?_
  obtain ⟨hj, ht, hD, hu0, hI, hK, ⟨f0, f1⟩, ⟨r0, r1⟩, ⟨q0, q1⟩, hA⟩ := id hV
  have hX := hI.1
  obtain ⟨hR, hn0, hn1, hm0, hm1⟩ := id hX
  have hp := xix_R hX (K 5 0)
  have k50 := hK 5 0
  have k51 := hK 5 1
  have k52 := hK 5 2
  refine pr_aload_n dX6_performEntry_0 rfl ?_
  refine pr_getf dX6_performEntry_1 pzf_6_29 (gS_0 ht hD hu0) rfl ?_
  refine pr_getf dX6_performEntry_4 pzf_6_366 (gH_3 ht hD) rfl ?_
  refine zr_iconst dX6_performEntry_7 ?_
  refine zr_iald dX6_performEntry_8 (gH_5 ht hD) (by omega) (by decide) ?_
  refine pr_istore_n dX6_performEntry_9 (by decide) rfl ?_
  refine pr_aload_n dX6_performEntry_10 rfl ?_
  refine pr_getf dX6_performEntry_11 pzf_6_10 (gS_0 ht hD hu0) rfl ?_
  refine pr_getf dX6_performEntry_14 pzf_6_40 (sH_0 hj) rfl ?_
  refine pr_iload_n dX6_performEntry_17 rfl ?_
  refine zcv1i dX6_performEntry_18 pzm_6_79 pzt_X1_indexOf (sH_1 hj) (kX1_indexOf hj hX (by omega)) (by decide) (Nat.le_of_ble_eq_true rfl) (by decide) ?_
  refine pr_istore_n dX6_performEntry_21 (by decide) rfl ?_
  refine pr_aload_n dX6_performEntry_22 rfl ?_
  refine pr_getf dX6_performEntry_23 pzf_6_29 (gS_0 ht hD hu0) rfl ?_
  refine pr_getf dX6_performEntry_26 pzf_6_369 (gH_3 ht hD) rfl ?_
  rw [e3]
  refine pr_tsin (off := 193) (tgt := 222) dX6_performEntry_29 (by decide) (by decide) (by decide) (by decide) ?_
  refine pr_iload_n dX6_performEntry_222 rfl ?_
  refine zr_if_lt (tgt := 263) dX6_performEntry_223 (by decide) (by omega) (fun c223 => ?_) (fun c223 => ?_)
  · refine zr_iconst dX6_performEntry_263 ?_
    exact pr_iret dX6_performEntry_264 rfl rfl (zret (by rfl))
  · refine pr_aload_n dX6_performEntry_226 rfl ?_
    refine pr_getf dX6_performEntry_227 pzf_6_29 (gS_0 ht hD hu0) rfl ?_
    refine pr_getf dX6_performEntry_230 pzf_6_366 (gH_3 ht hD) rfl ?_
    refine zr_iconst dX6_performEntry_233 ?_
    refine zr_iald dX6_performEntry_234 (gH_5 ht hD) (by omega) (by decide) ?_
    refine zcs1i dX6_performEntry_235 pzm_6_159 pzt_X6_isChannel (kX6_isChannel (by omega)) (by decide) (Nat.le_of_ble_eq_true rfl) ?_
    refine zr_if_eq (tgt := 263) dX6_performEntry_238 (by decide) (bI_R _) (fun c238 => ?_) (fun c238 => by exfalso; have bb := bI_ne c238; omega)
    have b238 := bI_0 c238
    refine zr_iconst dX6_performEntry_263 ?_
    exact pr_iret dX6_performEntry_264 rfl rfl (zret (by rfl))
set_option maxRecDepth 100000 in
set_option maxHeartbeats 4000000 in
theorem kX6_performEntry_gk (hV : cV t u a K X) (e3 : K 3 3 = 103) (g1 : 0 ≤ xnk X) : pz_Cd en 8 114 [.ref (t 0)] (sH (tH h t u K) a (sq a) X) 0 0 (pz_ret (some (.int (zI 1))) (sH (tH h t u K) a (sq a) (xgo X (xnk X)))) := by
  refine pz_in pzt_X6_performEntry ?_
  obtain ⟨hj, ht, hD, hu0, hI, hK, ⟨f0, f1⟩, ⟨r0, r1⟩, ⟨q0, q1⟩, hA⟩ := id hV
  have hX := hI.1
  obtain ⟨hR, hn0, hn1, hm0, hm1⟩ := id hX
  have hp := xix_R hX (K 5 0)
  have k50 := hK 5 0
  have k51 := hK 5 1
  have k52 := hK 5 2
  refine pr_aload_n dX6_performEntry_0 rfl ?_
  refine pr_getf dX6_performEntry_1 pzf_6_29 (gS_0 ht hD hu0) rfl ?_
  refine pr_getf dX6_performEntry_4 pzf_6_366 (gH_3 ht hD) rfl ?_
  refine zr_iconst dX6_performEntry_7 ?_
  refine zr_iald dX6_performEntry_8 (gH_5 ht hD) (by omega) (by decide) ?_
  refine pr_istore_n dX6_performEntry_9 (by decide) rfl ?_
  refine pr_aload_n dX6_performEntry_10 rfl ?_
  refine pr_getf dX6_performEntry_11 pzf_6_10 (gS_0 ht hD hu0) rfl ?_
  refine pr_getf dX6_performEntry_14 pzf_6_40 (sH_0 hj) rfl ?_
  refine pr_iload_n dX6_performEntry_17 rfl ?_
  refine zcv1i dX6_performEntry_18 pzm_6_79 pzt_X1_indexOf (sH_1 hj) (kX1_indexOf hj hX (by omega)) (by decide) (Nat.le_of_ble_eq_true rfl) (by decide) ?_
  refine pr_istore_n dX6_performEntry_21 (by decide) rfl ?_
  refine pr_aload_n dX6_performEntry_22 rfl ?_
  refine pr_getf dX6_performEntry_23 pzf_6_29 (gS_0 ht hD hu0) rfl ?_
  refine pr_getf dX6_performEntry_26 pzf_6_369 (gH_3 ht hD) rfl ?_
  rw [e3]
  refine pr_tsin (off := 236) (tgt := 265) dX6_performEntry_29 (by decide) (by decide) (by decide) (by decide) ?_
  refine pr_aload_n dX6_performEntry_265 rfl ?_
  refine zcv0i dX6_performEntry_266 pzm_6_382 pzt_X6_performGo (gS_0 ht hD hu0) (kX6_performGo_k hV g1) (by decide) (Nat.le_of_ble_eq_true rfl) (by decide) ?_
  exact pr_iret dX6_performEntry_269 rfl rfl (zret (by rfl))
set_option maxRecDepth 100000 in
set_option maxHeartbeats 4000000 in
theorem kX6_performEntry_gr (hV : cV t u a K X) (e3 : K 3 3 = 103) (g1 : ¬ 0 ≤ xnk X) : pz_Cd en 8 114 [.ref (t 0)] (sH (tH h t u K) a (sq a) X) 0 0 (pz_ret (some (.int (zI 0))) (sH (tH h t u (zv K 0 (zu (K 0) 5 4))) a (sq a) X)) := by
  refine pz_in pzt_X6_performEntry ?_
  obtain ⟨hj, ht, hD, hu0, hI, hK, ⟨f0, f1⟩, ⟨r0, r1⟩, ⟨q0, q1⟩, hA⟩ := id hV
  have hX := hI.1
  obtain ⟨hR, hn0, hn1, hm0, hm1⟩ := id hX
  have hp := xix_R hX (K 5 0)
  have k50 := hK 5 0
  have k51 := hK 5 1
  have k52 := hK 5 2
  refine pr_aload_n dX6_performEntry_0 rfl ?_
  refine pr_getf dX6_performEntry_1 pzf_6_29 (gS_0 ht hD hu0) rfl ?_
  refine pr_getf dX6_performEntry_4 pzf_6_366 (gH_3 ht hD) rfl ?_
  refine zr_iconst dX6_performEntry_7 ?_
  refine zr_iald dX6_performEntry_8 (gH_5 ht hD) (by omega) (by decide) ?_
  refine pr_istore_n dX6_performEntry_9 (by decide) rfl ?_
  refine pr_aload_n dX6_performEntry_10 rfl ?_
  refine pr_getf dX6_performEntry_11 pzf_6_10 (gS_0 ht hD hu0) rfl ?_
  refine pr_getf dX6_performEntry_14 pzf_6_40 (sH_0 hj) rfl ?_
  refine pr_iload_n dX6_performEntry_17 rfl ?_
  refine zcv1i dX6_performEntry_18 pzm_6_79 pzt_X1_indexOf (sH_1 hj) (kX1_indexOf hj hX (by omega)) (by decide) (Nat.le_of_ble_eq_true rfl) (by decide) ?_
  refine pr_istore_n dX6_performEntry_21 (by decide) rfl ?_
  refine pr_aload_n dX6_performEntry_22 rfl ?_
  refine pr_getf dX6_performEntry_23 pzf_6_29 (gS_0 ht hD hu0) rfl ?_
  refine pr_getf dX6_performEntry_26 pzf_6_369 (gH_3 ht hD) rfl ?_
  rw [e3]
  refine pr_tsin (off := 236) (tgt := 265) dX6_performEntry_29 (by decide) (by decide) (by decide) (by decide) ?_
  refine pr_aload_n dX6_performEntry_265 rfl ?_
  refine zcv0i dX6_performEntry_266 pzm_6_382 pzt_X6_performGo (gS_0 ht hD hu0) (kX6_performGo_r hV g1) (by decide) (Nat.le_of_ble_eq_true rfl) (by decide) ?_
  exact pr_iret dX6_performEntry_269 rfl rfl (zret (by rfl))
set_option maxRecDepth 100000 in
set_option maxHeartbeats 4000000 in
theorem kX6_performEntry_jk (hV : cV t u a K X) (e3 : K 3 3 = 106) (g1 : 0 ≤ xix X (K 5 0)) : pz_Cd en 8 114 [.ref (t 0)] (sH (tH h t u K) a (sq a) X) 0 0 (pz_ret (some (.int (zI 1))) (sH (tH h t u K) a (sq a) (xgo X (xix X (K 5 0))))) := by
  refine pz_in pzt_X6_performEntry ?_
  obtain ⟨hj, ht, hD, hu0, hI, hK, ⟨f0, f1⟩, ⟨r0, r1⟩, ⟨q0, q1⟩, hA⟩ := id hV
  have hX := hI.1
  obtain ⟨hR, hn0, hn1, hm0, hm1⟩ := id hX
  have hp := xix_R hX (K 5 0)
  have k50 := hK 5 0
  have k51 := hK 5 1
  have k52 := hK 5 2
  refine pr_aload_n dX6_performEntry_0 rfl ?_
  refine pr_getf dX6_performEntry_1 pzf_6_29 (gS_0 ht hD hu0) rfl ?_
  refine pr_getf dX6_performEntry_4 pzf_6_366 (gH_3 ht hD) rfl ?_
  refine zr_iconst dX6_performEntry_7 ?_
  refine zr_iald dX6_performEntry_8 (gH_5 ht hD) (by omega) (by decide) ?_
  refine pr_istore_n dX6_performEntry_9 (by decide) rfl ?_
  refine pr_aload_n dX6_performEntry_10 rfl ?_
  refine pr_getf dX6_performEntry_11 pzf_6_10 (gS_0 ht hD hu0) rfl ?_
  refine pr_getf dX6_performEntry_14 pzf_6_40 (sH_0 hj) rfl ?_
  refine pr_iload_n dX6_performEntry_17 rfl ?_
  refine zcv1i dX6_performEntry_18 pzm_6_79 pzt_X1_indexOf (sH_1 hj) (kX1_indexOf hj hX (by omega)) (by decide) (Nat.le_of_ble_eq_true rfl) (by decide) ?_
  refine pr_istore_n dX6_performEntry_21 (by decide) rfl ?_
  refine pr_aload_n dX6_performEntry_22 rfl ?_
  refine pr_getf dX6_performEntry_23 pzf_6_29 (gS_0 ht hD hu0) rfl ?_
  refine pr_getf dX6_performEntry_26 pzf_6_369 (gH_3 ht hD) rfl ?_
  rw [e3]
  refine pr_tsin (off := 241) (tgt := 270) dX6_performEntry_29 (by decide) (by decide) (by decide) (by decide) ?_
  refine pr_iload_n dX6_performEntry_270 rfl ?_
  refine zr_if_lt (tgt := 286) dX6_performEntry_271 (by decide) (by omega) (fun c271 => by exfalso; omega) (fun c271 => ?_)
  refine pr_aload_n dX6_performEntry_274 rfl ?_
  refine pr_iload_n dX6_performEntry_275 rfl ?_
  refine zcv1i dX6_performEntry_276 pzm_6_385 pzt_X6_performJump (gS_0 ht hD hu0) (kX6_performJump hV g1 (by omega)) (by decide) (Nat.le_of_ble_eq_true rfl) (by decide) ?_
  refine zr_if_eq (tgt := 286) dX6_performEntry_279 (by decide) (by decide) (fun c279 => by exfalso; omega) (fun c279 => ?_)
  refine zr_iconst dX6_performEntry_282 ?_
  refine pr_goto (tgt := 287) dX6_performEntry_283 (by decide) ?_
  exact pr_iret dX6_performEntry_287 rfl rfl (zret (by rfl))
set_option maxRecDepth 100000 in
set_option maxHeartbeats 4000000 in
theorem kX6_performEntry_jt (hV : cV t u a K X) (e3 : K 3 3 = 106) (g1 : ¬ 0 ≤ xix X (K 5 0)) : pz_Cd en 8 114 [.ref (t 0)] (sH (tH h t u K) a (sq a) X) 0 0 (pz_ret (some (.int (zI 0))) (sH (tH h t u K) a (sq a) X)) := by
  refine pz_in pzt_X6_performEntry ?_
  obtain ⟨hj, ht, hD, hu0, hI, hK, ⟨f0, f1⟩, ⟨r0, r1⟩, ⟨q0, q1⟩, hA⟩ := id hV
  have hX := hI.1
  obtain ⟨hR, hn0, hn1, hm0, hm1⟩ := id hX
  have hp := xix_R hX (K 5 0)
  have k50 := hK 5 0
  have k51 := hK 5 1
  have k52 := hK 5 2
  refine pr_aload_n dX6_performEntry_0 rfl ?_
  refine pr_getf dX6_performEntry_1 pzf_6_29 (gS_0 ht hD hu0) rfl ?_
  refine pr_getf dX6_performEntry_4 pzf_6_366 (gH_3 ht hD) rfl ?_
  refine zr_iconst dX6_performEntry_7 ?_
  refine zr_iald dX6_performEntry_8 (gH_5 ht hD) (by omega) (by decide) ?_
  refine pr_istore_n dX6_performEntry_9 (by decide) rfl ?_
  refine pr_aload_n dX6_performEntry_10 rfl ?_
  refine pr_getf dX6_performEntry_11 pzf_6_10 (gS_0 ht hD hu0) rfl ?_
  refine pr_getf dX6_performEntry_14 pzf_6_40 (sH_0 hj) rfl ?_
  refine pr_iload_n dX6_performEntry_17 rfl ?_
  refine zcv1i dX6_performEntry_18 pzm_6_79 pzt_X1_indexOf (sH_1 hj) (kX1_indexOf hj hX (by omega)) (by decide) (Nat.le_of_ble_eq_true rfl) (by decide) ?_
  refine pr_istore_n dX6_performEntry_21 (by decide) rfl ?_
  refine pr_aload_n dX6_performEntry_22 rfl ?_
  refine pr_getf dX6_performEntry_23 pzf_6_29 (gS_0 ht hD hu0) rfl ?_
  refine pr_getf dX6_performEntry_26 pzf_6_369 (gH_3 ht hD) rfl ?_
  rw [e3]
  refine pr_tsin (off := 241) (tgt := 270) dX6_performEntry_29 (by decide) (by decide) (by decide) (by decide) ?_
  refine pr_iload_n dX6_performEntry_270 rfl ?_
  refine zr_if_lt (tgt := 286) dX6_performEntry_271 (by decide) (by omega) (fun c271 => ?_) (fun c271 => by exfalso; omega)
  refine zr_iconst dX6_performEntry_286 ?_
  exact pr_iret dX6_performEntry_287 rfl rfl (zret (by rfl))
set_option maxRecDepth 100000 in
set_option maxHeartbeats 4000000 in
theorem kX6_performEntry_tk (hV : cV t u a K X) (e3 : K 3 3 = 116) (g1 : 0 ≤ K 5 0 ∧ K 5 0 ≤ 6000) (g2 : X 67 8 + K 5 0 ≤ 100000) : pz_Cd en 8 114 [.ref (t 0)] (sH (tH h t u K) a (sq a) X) 0 0 (pz_ret (some (.int (zI 1))) (sH (tH h t u K) a (sq a) (xpsF (K 5 0).toNat X (K 5 0)).2)) := by
  refine pz_in pzt_X6_performEntry ?_
  obtain ⟨hj, ht, hD, hu0, hI, hK, ⟨f0, f1⟩, ⟨r0, r1⟩, ⟨q0, q1⟩, hA⟩ := id hV
  have hX := hI.1
  obtain ⟨hR, hn0, hn1, hm0, hm1⟩ := id hX
  have hp := xix_R hX (K 5 0)
  have k50 := hK 5 0
  have k51 := hK 5 1
  have k52 := hK 5 2
  refine pr_aload_n dX6_performEntry_0 rfl ?_
  refine pr_getf dX6_performEntry_1 pzf_6_29 (gS_0 ht hD hu0) rfl ?_
  refine pr_getf dX6_performEntry_4 pzf_6_366 (gH_3 ht hD) rfl ?_
  refine zr_iconst dX6_performEntry_7 ?_
  refine zr_iald dX6_performEntry_8 (gH_5 ht hD) (by omega) (by decide) ?_
  refine pr_istore_n dX6_performEntry_9 (by decide) rfl ?_
  refine pr_aload_n dX6_performEntry_10 rfl ?_
  refine pr_getf dX6_performEntry_11 pzf_6_10 (gS_0 ht hD hu0) rfl ?_
  refine pr_getf dX6_performEntry_14 pzf_6_40 (sH_0 hj) rfl ?_
  refine pr_iload_n dX6_performEntry_17 rfl ?_
  refine zcv1i dX6_performEntry_18 pzm_6_79 pzt_X1_indexOf (sH_1 hj) (kX1_indexOf hj hX (by omega)) (by decide) (Nat.le_of_ble_eq_true rfl) (by decide) ?_
  refine pr_istore_n dX6_performEntry_21 (by decide) rfl ?_
  refine pr_aload_n dX6_performEntry_22 rfl ?_
  refine pr_getf dX6_performEntry_23 pzf_6_29 (gS_0 ht hD hu0) rfl ?_
  refine pr_getf dX6_performEntry_26 pzf_6_369 (gH_3 ht hD) rfl ?_
  rw [e3]
  refine pr_tsin (off := 259) (tgt := 288) dX6_performEntry_29 (by decide) (by decide) (by decide) (by decide) ?_
  refine pr_aload_n dX6_performEntry_288 rfl ?_
  refine pr_iload_n dX6_performEntry_289 rfl ?_
  refine zcv1i dX6_performEntry_290 pzm_6_388 pzt_X6_performPass (gS_0 ht hD hu0) (kX6_performPass_k hV k50 g1 g2) (by decide) (Nat.le_of_ble_eq_true rfl) (by decide) ?_
  exact pr_iret dX6_performEntry_293 rfl rfl (zret (by rfl))
set_option maxRecDepth 100000 in
set_option maxHeartbeats 4000000 in
theorem kX6_performEntry_tt (hV : cV t u a K X) (e3 : K 3 3 = 116) (g1 : ¬ ((0 ≤ K 5 0 ∧ K 5 0 ≤ 6000) ∧ X 67 8 + K 5 0 ≤ 100000)) : pz_Cd en 8 114 [.ref (t 0)] (sH (tH h t u K) a (sq a) X) 0 0 (pz_ret (some (.int (zI 0))) (sH (tH h t u K) a (sq a) X)) := by
  refine pz_in pzt_X6_performEntry ?_
  obtain ⟨hj, ht, hD, hu0, hI, hK, ⟨f0, f1⟩, ⟨r0, r1⟩, ⟨q0, q1⟩, hA⟩ := id hV
  have hX := hI.1
  obtain ⟨hR, hn0, hn1, hm0, hm1⟩ := id hX
  have hp := xix_R hX (K 5 0)
  have k50 := hK 5 0
  have k51 := hK 5 1
  have k52 := hK 5 2
  refine pr_aload_n dX6_performEntry_0 rfl ?_
  refine pr_getf dX6_performEntry_1 pzf_6_29 (gS_0 ht hD hu0) rfl ?_
  refine pr_getf dX6_performEntry_4 pzf_6_366 (gH_3 ht hD) rfl ?_
  refine zr_iconst dX6_performEntry_7 ?_
  refine zr_iald dX6_performEntry_8 (gH_5 ht hD) (by omega) (by decide) ?_
  refine pr_istore_n dX6_performEntry_9 (by decide) rfl ?_
  refine pr_aload_n dX6_performEntry_10 rfl ?_
  refine pr_getf dX6_performEntry_11 pzf_6_10 (gS_0 ht hD hu0) rfl ?_
  refine pr_getf dX6_performEntry_14 pzf_6_40 (sH_0 hj) rfl ?_
  refine pr_iload_n dX6_performEntry_17 rfl ?_
  refine zcv1i dX6_performEntry_18 pzm_6_79 pzt_X1_indexOf (sH_1 hj) (kX1_indexOf hj hX (by omega)) (by decide) (Nat.le_of_ble_eq_true rfl) (by decide) ?_
  refine pr_istore_n dX6_performEntry_21 (by decide) rfl ?_
  refine pr_aload_n dX6_performEntry_22 rfl ?_
  refine pr_getf dX6_performEntry_23 pzf_6_29 (gS_0 ht hD hu0) rfl ?_
  refine pr_getf dX6_performEntry_26 pzf_6_369 (gH_3 ht hD) rfl ?_
  rw [e3]
  refine pr_tsin (off := 259) (tgt := 288) dX6_performEntry_29 (by decide) (by decide) (by decide) (by decide) ?_
  refine pr_aload_n dX6_performEntry_288 rfl ?_
  refine pr_iload_n dX6_performEntry_289 rfl ?_
  refine zcv1i dX6_performEntry_290 pzm_6_388 pzt_X6_performPass (gS_0 ht hD hu0) (kX6_performPass_t hV k50 g1) (by decide) (Nat.le_of_ble_eq_true rfl) (by decide) ?_
  exact pr_iret dX6_performEntry_293 rfl rfl (zret (by rfl))
end cls
