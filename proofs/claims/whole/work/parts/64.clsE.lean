/-! the class: its own methods that read -/
abbrev cV (t u a : Int → Nat) (K X : Int → Int → Int) : Prop := sj a ∧ tj t ∧ tD t a ∧ u 0 = a 0 ∧ xI X ∧ (∀ i j, zR (K i j)) ∧ (0 ≤ K 1 1 ∧ K 1 1 < 7) ∧ (0 ≤ K 1 2 ∧ K 1 2 ≤ 6) ∧ (0 ≤ K 3 1 ∧ K 3 1 ≤ 60) ∧ (∀ i, 0 ≤ K 4 i ∧ K 4 i < 65536)
section clsS
variable {h : pz_H} {t u a : Int → Nat} {f : Nat → Option Nat} {K X : Int → Int → Int}
theorem gS_0 (ht : tj t) (hd : tD t a) (hu0 : u 0 = a 0) : sH (tH h t u K) a f X (t 0) = some (.inr (6, [.ref (a 0), .ref (u 1), .ref (t 1), .ref (t 3), .int (zI (K 0 4)), .int (zI (K 0 5)), .int (zI (K 0 6))]) : pz_E) := by
  rw [gH_0 ht hd, hu0]
theorem gS_p0_4 (hj : sj a) (ht : tj t) (hd : tD t a) (hu0 : u 0 = a 0) {v : Int} : va_up (sH (tH h t u K) a f X) (t 0) (some (.inr (6, ([.ref (a 0), .ref (u 1), .ref (t 1), .ref (t 3), .int (zI (K 0 4)), .int (zI (K 0 5)), .int (zI (K 0 6))] : List Value).set 4 (.int (zI v))))) = sH (tH h t u (zv K 0 (zu (K 0) 4 v))) a f X := by
  rw [← hu0]; exact gH_p0_4 hj ht hd
theorem gS_p0_5 (hj : sj a) (ht : tj t) (hd : tD t a) (hu0 : u 0 = a 0) {v : Int} : va_up (sH (tH h t u K) a f X) (t 0) (some (.inr (6, ([.ref (a 0), .ref (u 1), .ref (t 1), .ref (t 3), .int (zI (K 0 4)), .int (zI (K 0 5)), .int (zI (K 0 6))] : List Value).set 5 (.int (zI v))))) = sH (tH h t u (zv K 0 (zu (K 0) 5 v))) a f X := by
  rw [← hu0]; exact gH_p0_5 hj ht hd
theorem gS_p0_6 (hj : sj a) (ht : tj t) (hd : tD t a) (hu0 : u 0 = a 0) {v : Int} : va_up (sH (tH h t u K) a f X) (t 0) (some (.inr (6, ([.ref (a 0), .ref (u 1), .ref (t 1), .ref (t 3), .int (zI (K 0 4)), .int (zI (K 0 5)), .int (zI (K 0 6))] : List Value).set 6 (.int (zI v))))) = sH (tH h t u (zv K 0 (zu (K 0) 6 v))) a f X := by
  rw [← hu0]; exact gH_p0_6 hj ht hd
theorem sH_Cp {g : pz_H} (hj : sj a) {k : Int} {dl : Prop} [Decidable dl] (h1 : 0 ≤ k) (h2 : k < 12) : sH g a f X (a (7 + 5 * k + (if dl then 1 else 2))) = some (.inl (0, 4, .inl (zf (X (7 + 5 * k + (if dl then 1 else 2)))))) := by
  split
  · exact sH_C1 hj h1 h2
  · exact sH_C2 hj h1 h2
theorem sH_uCp {g : pz_H} (hj : sj a) {k : Int} {v : Int → Int} {dl : Prop} [Decidable dl] (h1 : 0 ≤ k) (h2 : k < 12) : va_up (sH g a f X) (a (7 + 5 * k + (if dl then 1 else 2))) (some (.inl (0, 4, .inl (zf v)))) = sH g a f (zv X (7 + 5 * k + (if dl then 1 else 2)) v) := by
  split
  · exact sH_uC1 hj h1 h2
  · exact sH_uC2 hj h1 h2
theorem xsr_R {X : Int → Int → Int} {c : Int} : ∀ n : Nat, 0 ≤ xsr X c n ∧ xsr X c n ≤ n
  | 0 => ⟨Int.le_refl _, Int.le_refl _⟩
  | n + 1 => by
    have ih := xsr_R (X := X) (c := c) n
    unfold xsr
    split <;> omega
theorem xlkF_R {X : Int → Int → Int} : ∀ n : Nat, -1 ≤ xlkF X n ∧ xlkF X n < n
  | 0 => by
    show (-1 : Int) ≤ -1 ∧ (-1 : Int) < 0
    decide
  | n + 1 => by
    have ih := xlkF_R (X := X) n
    have := xlkF_s (X := X) (k := (n : Int)) (by omega)
    rw [show ((n : Int) + 1).toNat = n + 1 by omega, show ((n : Int) - 1 + 1).toNat = n by omega] at this
    rw [this]
    split <;> omega
theorem tD_zs {P R : Int → Int} (hp : zpI P R) (hd : tD t a) : tD t (zs P a) := fun i j g1 g2 g3 g4 => by
  have z := zp_inv hp g3 g4
  exact hd i (zp P j) g1 g2 z.1 z.2.1
theorem zs_0 {P : Int → Int} {α : Type} {g : Int → α} : zs P g 0 = g 0 := by
  unfold zs
  rw [zp_lo (by omega)]
end clsS
section cls
variable {en : pz_Env} {h : pz_H} {t u a b : Int → Nat} {K X Y : Int → Int → Int}
set_option maxRecDepth 100000 in
set_option maxHeartbeats 4000000 in
theorem kX6_isWithin  {v lo hi : Int} (h1 : zR v) (h2 : zR lo) (h3 : zR hi) : pz_Cd en 1 107 [.int (zI v), .int (zI lo), .int (zI hi)] h 0 0 (pz_ret (some (.int (zI (bI (lo ≤ v ∧ v ≤ hi))))) h) := by
  refine pz_in pzt_X6_isWithin ?_
  refine pr_iload_n dX6_isWithin_0 rfl ?_
  refine pr_iload_n dX6_isWithin_1 rfl ?_
  refine zr_icmp_lt (tgt := 14) dX6_isWithin_2 (by decide) (by omega) (by omega) (fun c2 => ?_) (fun c2 => ?_)
  · refine zr_iconst dX6_isWithin_14 ?_
    exact pr_iret dX6_isWithin_15 rfl rfl (zret (by first | exact (bI_t (by omega)).symm | exact (bI_f (by omega)).symm))
  · refine pr_iload_n dX6_isWithin_5 rfl ?_
    refine pr_iload_n dX6_isWithin_6 rfl ?_
    refine zr_icmp_gt (tgt := 14) dX6_isWithin_7 (by decide) (by omega) (by omega) (fun c7 => ?_) (fun c7 => ?_)
    · refine zr_iconst dX6_isWithin_14 ?_
      exact pr_iret dX6_isWithin_15 rfl rfl (zret (by first | exact (bI_t (by omega)).symm | exact (bI_f (by omega)).symm))
    · refine zr_iconst dX6_isWithin_10 ?_
      refine pr_goto (tgt := 15) dX6_isWithin_11 (by decide) ?_
      exact pr_iret dX6_isWithin_15 rfl rfl (zret (by first | exact (bI_t (by omega)).symm | exact (bI_f (by omega)).symm))
set_option maxRecDepth 100000 in
set_option maxHeartbeats 4000000 in
theorem kX6_isChannel  {v : Int} (h1 : zR v) : pz_Cd en 2 109 [.int (zI v)] h 0 0 (pz_ret (some (.int (zI (bI (0 ≤ v ∧ v ≤ 11))))) h) := by
  refine pz_in pzt_X6_isChannel ?_
  refine pr_iload_n dX6_isChannel_0 rfl ?_
  refine zr_iconst dX6_isChannel_1 ?_
  refine zr_bipush dX6_isChannel_2 (by decide) ?_
  refine zcs3i dX6_isChannel_4 pzm_6_117 pzt_X6_isWithin (kX6_isWithin h1 (by decide) (by decide)) (by decide) (Nat.le_of_ble_eq_true rfl) ?_
  exact pr_iret dX6_isChannel_7 rfl (nar_bI _) (zret (by rfl))
set_option maxRecDepth 100000 in
set_option maxHeartbeats 4000000 in
theorem kX6_isLevel  {v : Int} (h1 : zR v) : pz_Cd en 2 110 [.int (zI v)] h 0 0 (pz_ret (some (.int (zI (bI (0 ≤ v ∧ v ≤ 100))))) h) := by
  refine pz_in pzt_X6_isLevel ?_
  refine pr_iload_n dX6_isLevel_0 rfl ?_
  refine zr_iconst dX6_isLevel_1 ?_
  refine zr_bipush dX6_isLevel_2 (by decide) ?_
  refine zcs3i dX6_isLevel_4 pzm_6_117 pzt_X6_isWithin (kX6_isWithin h1 (by decide) (by decide)) (by decide) (Nat.le_of_ble_eq_true rfl) ?_
  exact pr_iret dX6_isLevel_7 rfl (nar_bI _) (zret (by rfl))
set_option maxRecDepth 100000 in
set_option maxHeartbeats 4000000 in
theorem kX6_isPart  {v : Int} (h1 : zR v) : pz_Cd en 2 111 [.int (zI v)] h 0 0 (pz_ret (some (.int (zI (bI (0 ≤ v ∧ v ≤ 3))))) h) := by
  refine pz_in pzt_X6_isPart ?_
  refine pr_iload_n dX6_isPart_0 rfl ?_
  refine zr_iconst dX6_isPart_1 ?_
  refine zr_iconst dX6_isPart_2 ?_
  refine zcs3i dX6_isPart_3 pzm_6_117 pzt_X6_isWithin (kX6_isWithin h1 (by decide) (by decide)) (by decide) (Nat.le_of_ble_eq_true rfl) ?_
  exact pr_iret dX6_isPart_6 rfl (nar_bI _) (zret (by rfl))
set_option maxRecDepth 100000 in
set_option maxHeartbeats 4000000 in
theorem kX6_isFreeNumber (hV : cV t u a K X) {n : Int} (h1 : zR n) : pz_Cd en 2 112 [.ref (t 0), .int (zI n)] (sH (tH h t u K) a (sq a) X) 0 0 (pz_ret (some (.int (zI (bI ((1 ≤ n ∧ n ≤ 99) ∧ xix X n < 0))))) (sH (tH h t u K) a (sq a) X)) := by
  refine pz_in pzt_X6_isFreeNumber ?_
  obtain ⟨hj, ht, hD, hu0, hI, hK, ⟨f0, f1⟩, ⟨r0, r1⟩, ⟨q0, q1⟩, hA⟩ := id hV
  have hX := hI.1
  obtain ⟨hR, hn0, hn1, hm0, hm1⟩ := id hX
  have hp := xix_R hX n
  refine pr_iload_n dX6_isFreeNumber_0 rfl ?_
  refine zr_iconst dX6_isFreeNumber_1 ?_
  refine zr_bipush dX6_isFreeNumber_2 (by decide) ?_
  refine zcs3i dX6_isFreeNumber_4 pzm_6_117 pzt_X6_isWithin (kX6_isWithin (by omega) (by omega) (by omega)) (by decide) (Nat.le_of_ble_eq_true rfl) ?_
  refine zr_if_eq (tgt := 28) dX6_isFreeNumber_7 (by decide) (bI_R _) (fun c7 => ?_) (fun c7 => ?_)
  · have b7 := bI_0 c7
    refine zr_iconst dX6_isFreeNumber_28 ?_
    exact pr_iret dX6_isFreeNumber_29 rfl rfl (zret (by first | exact (bI_t (by omega)).symm | exact (bI_f (by omega)).symm))
  · have b7 := bI_ne c7
    refine pr_aload_n dX6_isFreeNumber_10 rfl ?_
    refine pr_getf dX6_isFreeNumber_11 pzf_6_10 (gS_0 ht hD hu0) rfl ?_
    refine pr_getf dX6_isFreeNumber_14 pzf_6_40 (sH_0 hj) rfl ?_
    refine pr_iload_n dX6_isFreeNumber_17 rfl ?_
    refine zcv1i dX6_isFreeNumber_18 pzm_6_79 pzt_X1_indexOf (sH_1 hj) (kX1_indexOf hj hX (by omega)) (by decide) (Nat.le_of_ble_eq_true rfl) (by decide) ?_
    refine zr_if_ge (tgt := 28) dX6_isFreeNumber_21 (by decide) (by omega) (fun c21 => ?_) (fun c21 => ?_)
    · refine zr_iconst dX6_isFreeNumber_28 ?_
      exact pr_iret dX6_isFreeNumber_29 rfl rfl (zret (by first | exact (bI_t (by omega)).symm | exact (bI_f (by omega)).symm))
    · refine zr_iconst dX6_isFreeNumber_24 ?_
      refine pr_goto (tgt := 29) dX6_isFreeNumber_25 (by decide) ?_
      exact pr_iret dX6_isFreeNumber_29 rfl rfl (zret (by first | exact (bI_t (by omega)).symm | exact (bI_f (by omega)).symm))
set_option maxRecDepth 100000 in
set_option maxHeartbeats 4000000 in
theorem kX6_keepIfRefused_0 (hV : cV t u a K X)  : pz_Cd en 1 113 [.ref (t 0), .int (zI 0)] (sH (tH h t u K) a (sq a) X) 0 0 (pz_ret (some (.int (zI 0))) (sH (tH h t u K) a (sq a) X)) := by
  refine pz_in pzt_X6_keepIfRefused ?_
  obtain ⟨hj, ht, hD, hu0, hI, hK, ⟨f0, f1⟩, ⟨r0, r1⟩, ⟨q0, q1⟩, hA⟩ := id hV
  have hX := hI.1
  obtain ⟨hR, hn0, hn1, hm0, hm1⟩ := id hX
  refine pr_iload_n dX6_keepIfRefused_0 rfl ?_
  refine zr_if_ne (tgt := 6) dX6_keepIfRefused_1 (by decide) (by decide) (fun c1 => by exfalso; omega) (fun c1 => ?_)
  refine zr_iconst dX6_keepIfRefused_4 ?_
  exact pr_iret dX6_keepIfRefused_5 rfl rfl (zret (by rfl))
set_option maxRecDepth 100000 in
set_option maxHeartbeats 4000000 in
theorem kX6_keepIfRefused_1 (hV : cV t u a K X) {r : Int} (h1 : zR r) (h2 : ¬ r = 0) : pz_Cd en 1 113 [.ref (t 0), .int (zI r)] (sH (tH h t u K) a (sq a) X) 0 0 (pz_ret (some (.int (zI 1))) (sH (tH h t u (zv K 0 (zu (K 0) 5 r))) a (sq a) X)) := by
  refine pz_in pzt_X6_keepIfRefused ?_
  obtain ⟨hj, ht, hD, hu0, hI, hK, ⟨f0, f1⟩, ⟨r0, r1⟩, ⟨q0, q1⟩, hA⟩ := id hV
  have hX := hI.1
  obtain ⟨hR, hn0, hn1, hm0, hm1⟩ := id hX
  refine pr_iload_n dX6_keepIfRefused_0 rfl ?_
  refine zr_if_ne (tgt := 6) dX6_keepIfRefused_1 (by decide) (by omega) (fun c1 => ?_) (fun c1 => by exfalso; omega)
  refine pr_aload_n dX6_keepIfRefused_6 rfl ?_
  refine pr_iload_n dX6_keepIfRefused_7 rfl ?_
  refine pr_putf dX6_keepIfRefused_8 pzf_6_33 (Or.inl rfl) (gS_0 ht hD hu0) (Nat.le_of_ble_eq_true rfl) rfl rfl (gS_p0_5 hj ht hD hu0) ?_
  refine zr_iconst dX6_keepIfRefused_11 ?_
  exact pr_iret dX6_keepIfRefused_12 rfl rfl (zret (by rfl))
set_option maxRecDepth 100000 in
set_option maxHeartbeats 4000000 in
theorem kX6_cueAt_k (hV : cV t u a K X) {i : Int} (h1 : zR i) (g1 : 0 ≤ i) (g2 : i < X 1 1) : pz_Cd en 9 122 [.ref (t 0), .int (zI i)] (sH (tH h t u K) a (sq a) X) 0 0 (pz_ret (some (.int (zI (X (7 + 5 * i) 0)))) (sH (tH h t u K) a (sq a) X)) := by
  refine pz_in pzt_X6_cueAt ?_
  obtain ⟨hj, ht, hD, hu0, hI, hK, ⟨f0, f1⟩, ⟨r0, r1⟩, ⟨q0, q1⟩, hA⟩ := id hV
  have hX := hI.1
  obtain ⟨hR, hn0, hn1, hm0, hm1⟩ := id hX
  refine pr_iload_n dX6_cueAt_0 rfl ?_
  refine zr_if_lt (tgt := 18) dX6_cueAt_1 (by decide) (by omega) (fun c1 => by exfalso; omega) (fun c1 => ?_)
  refine pr_iload_n dX6_cueAt_4 rfl ?_
  refine pr_aload_n dX6_cueAt_5 rfl ?_
  refine pr_getf dX6_cueAt_6 pzf_6_10 (gS_0 ht hD hu0) rfl ?_
  refine pr_getf dX6_cueAt_9 pzf_6_40 (sH_0 hj) rfl ?_
  refine pr_getf dX6_cueAt_12 pzf_6_44 (sH_1 hj) rfl ?_
  refine zr_icmp_lt (tgt := 28) dX6_cueAt_15 (by decide) (by omega) (by omega) (fun c15 => ?_) (fun c15 => by exfalso; omega)
  refine pr_aload_n dX6_cueAt_28 rfl ?_
  refine pr_getf dX6_cueAt_29 pzf_6_10 (gS_0 ht hD hu0) rfl ?_
  refine pr_getf dX6_cueAt_32 pzf_6_40 (sH_0 hj) rfl ?_
  refine pr_getf dX6_cueAt_35 pzf_6_108 (sH_1 hj) rfl ?_
  refine pr_iload_n dX6_cueAt_38 rfl ?_
  refine zr_crow hj dX6_cueAt_39 (by omega) (by omega) ?_
  refine pr_getf dX6_cueAt_40 pzf_6_112 (sH_C hj (by omega) (by omega)) rfl ?_
  exact pr_iret dX6_cueAt_43 rfl rfl (zret (by rfl))
set_option maxRecDepth 100000 in
set_option maxHeartbeats 4000000 in
theorem kX6_cueAt_t (hV : cV t u a K X) {i : Int} (h1 : zR i) (g1 : ¬ (0 ≤ i ∧ i < X 1 1)) : pz_Cd en 9 122 [.ref (t 0), .int (zI i)] (sH (tH h t u K) a (sq a) X) 1 6 (pz_thr "java/util/NoSuchElementException" (sH (tH h t u K) a (sq a) X)) := by
  refine pz_in pzt_X6_cueAt ?_
  obtain ⟨hj, ht, hD, hu0, hI, hK, ⟨f0, f1⟩, ⟨r0, r1⟩, ⟨q0, q1⟩, hA⟩ := id hV
  have hX := hI.1
  obtain ⟨hR, hn0, hn1, hm0, hm1⟩ := id hX
  refine pr_iload_n dX6_cueAt_0 rfl ?_
  refine zr_if_lt (tgt := 18) dX6_cueAt_1 (by decide) (by omega) (fun c1 => ?_) (fun c1 => ?_)
  · exact pr_thr dX6_cueAt_18 dX6_cueAt_21 dX6_cueAt_22 dX6_cueAt_24 dX6_cueAt_27 pze_6_103 pzs_105 rfl (by decide) rfl ⟨rfl, rfl⟩
  · refine pr_iload_n dX6_cueAt_4 rfl ?_
    refine pr_aload_n dX6_cueAt_5 rfl ?_
    refine pr_getf dX6_cueAt_6 pzf_6_10 (gS_0 ht hD hu0) rfl ?_
    refine pr_getf dX6_cueAt_9 pzf_6_40 (sH_0 hj) rfl ?_
    refine pr_getf dX6_cueAt_12 pzf_6_44 (sH_1 hj) rfl ?_
    refine zr_icmp_lt (tgt := 28) dX6_cueAt_15 (by decide) (by omega) (by omega) (fun c15 => by exfalso; omega) (fun c15 => ?_)
    exact pr_thr dX6_cueAt_18 dX6_cueAt_21 dX6_cueAt_22 dX6_cueAt_24 dX6_cueAt_27 pze_6_103 pzs_105 rfl (by decide) rfl ⟨rfl, rfl⟩
set_option maxRecDepth 100000 in
set_option maxHeartbeats 4000000 in
theorem kX6_cue_0 (hV : cV t u a K X) {n : Int} (h1 : zR n) (g1 : 0 ≤ xix X n) : pz_Cd en 9 76 [.ref (t 0), .int (zI n), .int (zI 0)] (sH (tH h t u K) a (sq a) X) 0 0 (pz_ret (some (.int (zI (xix X n)))) (sH (tH h t u K) a (sq a) X)) := by
  refine pz_in pzt_X6_cue ?_
  obtain ⟨hj, ht, hD, hu0, hI, hK, ⟨f0, f1⟩, ⟨r0, r1⟩, ⟨q0, q1⟩, hA⟩ := id hV
  have hX := hI.1
  obtain ⟨hR, hn0, hn1, hm0, hm1⟩ := id hX
  have hp := xix_R hX n
  refine pr_aload_n dX6_cue_0 rfl ?_
  refine pr_getf dX6_cue_1 pzf_6_10 (gS_0 ht hD hu0) rfl ?_
  refine pr_getf dX6_cue_4 pzf_6_40 (sH_0 hj) rfl ?_
  refine pr_iload_n dX6_cue_7 rfl ?_
  refine zcv1i dX6_cue_8 pzm_6_79 pzt_X1_indexOf (sH_1 hj) (kX1_indexOf hj hX (by omega)) (by decide) (Nat.le_of_ble_eq_true rfl) (by decide) ?_
  refine pr_istore_n dX6_cue_11 (by decide) rfl ?_
  refine pr_iload_n dX6_cue_12 rfl ?_
  refine zr_if_ge (tgt := 26) dX6_cue_13 (by decide) (by omega) (fun c13 => ?_) (fun c13 => by exfalso; omega)
  refine pr_aload_n dX6_cue_26 rfl ?_
  refine pr_getf dX6_cue_27 pzf_6_10 (gS_0 ht hD hu0) rfl ?_
  refine pr_getf dX6_cue_30 pzf_6_40 (sH_0 hj) rfl ?_
  refine pr_getf dX6_cue_33 pzf_6_108 (sH_1 hj) rfl ?_
  refine pr_iload_n dX6_cue_36 rfl ?_
  refine zr_crow hj dX6_cue_37 (by omega) (by omega) ?_
  refine pr_astore dX6_cue_38 (by decide) rfl ?_
  refine pr_iload_n dX6_cue_40 rfl ?_
  refine pr_tsin (off := 43) (tgt := 84) dX6_cue_41 (by decide) (by decide) (by decide) (by decide) ?_
  refine pr_iload_n dX6_cue_84 rfl ?_
  exact pr_iret dX6_cue_85 rfl rfl (zret (by rfl))
set_option maxRecDepth 100000 in
set_option maxHeartbeats 4000000 in
theorem kX6_cue_1 (hV : cV t u a K X) {n : Int} (h1 : zR n) (g1 : 0 ≤ xix X n) : pz_Cd en 9 76 [.ref (t 0), .int (zI n), .int (zI 1)] (sH (tH h t u K) a (sq a) X) 0 0 (pz_ret (some (.int (zI (X (7 + 5 * xix X n) 1)))) (sH (tH h t u K) a (sq a) X)) := by
  refine pz_in pzt_X6_cue ?_
  obtain ⟨hj, ht, hD, hu0, hI, hK, ⟨f0, f1⟩, ⟨r0, r1⟩, ⟨q0, q1⟩, hA⟩ := id hV
  have hX := hI.1
  obtain ⟨hR, hn0, hn1, hm0, hm1⟩ := id hX
  have hp := xix_R hX n
  refine pr_aload_n dX6_cue_0 rfl ?_
  refine pr_getf dX6_cue_1 pzf_6_10 (gS_0 ht hD hu0) rfl ?_
  refine pr_getf dX6_cue_4 pzf_6_40 (sH_0 hj) rfl ?_
  refine pr_iload_n dX6_cue_7 rfl ?_
  refine zcv1i dX6_cue_8 pzm_6_79 pzt_X1_indexOf (sH_1 hj) (kX1_indexOf hj hX (by omega)) (by decide) (Nat.le_of_ble_eq_true rfl) (by decide) ?_
  refine pr_istore_n dX6_cue_11 (by decide) rfl ?_
  refine pr_iload_n dX6_cue_12 rfl ?_
  refine zr_if_ge (tgt := 26) dX6_cue_13 (by decide) (by omega) (fun c13 => ?_) (fun c13 => by exfalso; omega)
  refine pr_aload_n dX6_cue_26 rfl ?_
  refine pr_getf dX6_cue_27 pzf_6_10 (gS_0 ht hD hu0) rfl ?_
  refine pr_getf dX6_cue_30 pzf_6_40 (sH_0 hj) rfl ?_
  refine pr_getf dX6_cue_33 pzf_6_108 (sH_1 hj) rfl ?_
  refine pr_iload_n dX6_cue_36 rfl ?_
  refine zr_crow hj dX6_cue_37 (by omega) (by omega) ?_
  refine pr_astore dX6_cue_38 (by decide) rfl ?_
  refine pr_iload_n dX6_cue_40 rfl ?_
  refine pr_tsin (off := 45) (tgt := 86) dX6_cue_41 (by decide) (by decide) (by decide) (by decide) ?_
  refine pr_aload dX6_cue_86 rfl ?_
  refine pr_getf dX6_cue_88 pzf_6_123 (sH_C hj (by omega) (by omega)) rfl ?_
  exact pr_iret dX6_cue_91 rfl rfl (zret (by rfl))
set_option maxRecDepth 100000 in
set_option maxHeartbeats 4000000 in
theorem kX6_cue_2 (hV : cV t u a K X) {n : Int} (h1 : zR n) (g1 : 0 ≤ xix X n) : pz_Cd en 9 76 [.ref (t 0), .int (zI n), .int (zI 2)] (sH (tH h t u K) a (sq a) X) 0 0 (pz_ret (some (.int (zI (bI (¬ X (7 + 5 * xix X n) 2 = 0))))) (sH (tH h t u K) a (sq a) X)) := by
  refine pz_in pzt_X6_cue ?_
  obtain ⟨hj, ht, hD, hu0, hI, hK, ⟨f0, f1⟩, ⟨r0, r1⟩, ⟨q0, q1⟩, hA⟩ := id hV
  have hX := hI.1
  obtain ⟨hR, hn0, hn1, hm0, hm1⟩ := id hX
  have hp := xix_R hX n
  refine pr_aload_n dX6_cue_0 rfl ?_
  refine pr_getf dX6_cue_1 pzf_6_10 (gS_0 ht hD hu0) rfl ?_
  refine pr_getf dX6_cue_4 pzf_6_40 (sH_0 hj) rfl ?_
  refine pr_iload_n dX6_cue_7 rfl ?_
  refine zcv1i dX6_cue_8 pzm_6_79 pzt_X1_indexOf (sH_1 hj) (kX1_indexOf hj hX (by omega)) (by decide) (Nat.le_of_ble_eq_true rfl) (by decide) ?_
  refine pr_istore_n dX6_cue_11 (by decide) rfl ?_
  refine pr_iload_n dX6_cue_12 rfl ?_
  refine zr_if_ge (tgt := 26) dX6_cue_13 (by decide) (by omega) (fun c13 => ?_) (fun c13 => by exfalso; omega)
  refine pr_aload_n dX6_cue_26 rfl ?_
  refine pr_getf dX6_cue_27 pzf_6_10 (gS_0 ht hD hu0) rfl ?_
  refine pr_getf dX6_cue_30 pzf_6_40 (sH_0 hj) rfl ?_
  refine pr_getf dX6_cue_33 pzf_6_108 (sH_1 hj) rfl ?_
  refine pr_iload_n dX6_cue_36 rfl ?_
  refine zr_crow hj dX6_cue_37 (by omega) (by omega) ?_
  refine pr_astore dX6_cue_38 (by decide) rfl ?_
  refine pr_iload_n dX6_cue_40 rfl ?_
  refine pr_tsin (off := 51) (tgt := 92) dX6_cue_41 (by decide) (by decide) (by decide) (by decide) ?_
  refine pr_aload dX6_cue_92 rfl ?_
  refine pr_getf dX6_cue_94 pzf_6_144 (sH_C hj (by omega) (by omega)) rfl ?_
  refine zr_if_eq (tgt := 104) dX6_cue_97 (by decide) (hR _ _) (fun c97 => ?_) (fun c97 => ?_)
  · refine zr_iconst dX6_cue_104 ?_
    exact pr_iret dX6_cue_105 rfl rfl (zret (by first | exact (bI_t (by omega)).symm | exact (bI_f (by omega)).symm))
  · refine zr_iconst dX6_cue_100 ?_
    refine pr_goto (tgt := 105) dX6_cue_101 (by decide) ?_
    exact pr_iret dX6_cue_105 rfl rfl (zret (by first | exact (bI_t (by omega)).symm | exact (bI_f (by omega)).symm))
set_option maxRecDepth 100000 in
set_option maxHeartbeats 4000000 in
theorem kX6_cue_3 (hV : cV t u a K X) {n : Int} (h1 : zR n) (g1 : 0 ≤ xix X n) : pz_Cd en 9 76 [.ref (t 0), .int (zI n), .int (zI 3)] (sH (tH h t u K) a (sq a) X) 0 0 (pz_ret (some (.int (zI (bI (¬ X (7 + 5 * xix X n) 3 = 0))))) (sH (tH h t u K) a (sq a) X)) := by
  refine pz_in pzt_X6_cue ?_
  obtain ⟨hj, ht, hD, hu0, hI, hK, ⟨f0, f1⟩, ⟨r0, r1⟩, ⟨q0, q1⟩, hA⟩ := id hV
  have hX := hI.1
  obtain ⟨hR, hn0, hn1, hm0, hm1⟩ := id hX
  have hp := xix_R hX n
  refine pr_aload_n dX6_cue_0 rfl ?_
  refine pr_getf dX6_cue_1 pzf_6_10 (gS_0 ht hD hu0) rfl ?_
  refine pr_getf dX6_cue_4 pzf_6_40 (sH_0 hj) rfl ?_
  refine pr_iload_n dX6_cue_7 rfl ?_
  refine zcv1i dX6_cue_8 pzm_6_79 pzt_X1_indexOf (sH_1 hj) (kX1_indexOf hj hX (by omega)) (by decide) (Nat.le_of_ble_eq_true rfl) (by decide) ?_
  refine pr_istore_n dX6_cue_11 (by decide) rfl ?_
  refine pr_iload_n dX6_cue_12 rfl ?_
  refine zr_if_ge (tgt := 26) dX6_cue_13 (by decide) (by omega) (fun c13 => ?_) (fun c13 => by exfalso; omega)
  refine pr_aload_n dX6_cue_26 rfl ?_
  refine pr_getf dX6_cue_27 pzf_6_10 (gS_0 ht hD hu0) rfl ?_
  refine pr_getf dX6_cue_30 pzf_6_40 (sH_0 hj) rfl ?_
  refine pr_getf dX6_cue_33 pzf_6_108 (sH_1 hj) rfl ?_
  refine pr_iload_n dX6_cue_36 rfl ?_
  refine zr_crow hj dX6_cue_37 (by omega) (by omega) ?_
  refine pr_astore dX6_cue_38 (by decide) rfl ?_
  refine pr_iload_n dX6_cue_40 rfl ?_
  refine pr_tsin (off := 65) (tgt := 106) dX6_cue_41 (by decide) (by decide) (by decide) (by decide) ?_
  refine pr_aload dX6_cue_106 rfl ?_
  refine pr_getf dX6_cue_108 pzf_6_129 (sH_C hj (by omega) (by omega)) rfl ?_
  refine zr_if_eq (tgt := 118) dX6_cue_111 (by decide) (hR _ _) (fun c111 => ?_) (fun c111 => ?_)
  · refine zr_iconst dX6_cue_118 ?_
    exact pr_iret dX6_cue_119 rfl rfl (zret (by first | exact (bI_t (by omega)).symm | exact (bI_f (by omega)).symm))
  · refine zr_iconst dX6_cue_114 ?_
    refine pr_goto (tgt := 119) dX6_cue_115 (by decide) ?_
    exact pr_iret dX6_cue_119 rfl rfl (zret (by first | exact (bI_t (by omega)).symm | exact (bI_f (by omega)).symm))
set_option maxRecDepth 100000 in
set_option maxHeartbeats 4000000 in
theorem kX6_cue_4 (hV : cV t u a K X) {n : Int} (h1 : zR n) (g1 : 0 ≤ xix X n) : pz_Cd en 9 76 [.ref (t 0), .int (zI n), .int (zI 4)] (sH (tH h t u K) a (sq a) X) 0 0 (pz_ret (some (.int (zI (xic X (xix X n))))) (sH (tH h t u K) a (sq a) X)) := by
  refine pz_in pzt_X6_cue ?_
  obtain ⟨hj, ht, hD, hu0, hI, hK, ⟨f0, f1⟩, ⟨r0, r1⟩, ⟨q0, q1⟩, hA⟩ := id hV
  have hX := hI.1
  obtain ⟨hR, hn0, hn1, hm0, hm1⟩ := id hX
  have hp := xix_R hX n
  refine pr_aload_n dX6_cue_0 rfl ?_
  refine pr_getf dX6_cue_1 pzf_6_10 (gS_0 ht hD hu0) rfl ?_
  refine pr_getf dX6_cue_4 pzf_6_40 (sH_0 hj) rfl ?_
  refine pr_iload_n dX6_cue_7 rfl ?_
  refine zcv1i dX6_cue_8 pzm_6_79 pzt_X1_indexOf (sH_1 hj) (kX1_indexOf hj hX (by omega)) (by decide) (Nat.le_of_ble_eq_true rfl) (by decide) ?_
  refine pr_istore_n dX6_cue_11 (by decide) rfl ?_
  refine pr_iload_n dX6_cue_12 rfl ?_
  refine zr_if_ge (tgt := 26) dX6_cue_13 (by decide) (by omega) (fun c13 => ?_) (fun c13 => by exfalso; omega)
  refine pr_aload_n dX6_cue_26 rfl ?_
  refine pr_getf dX6_cue_27 pzf_6_10 (gS_0 ht hD hu0) rfl ?_
  refine pr_getf dX6_cue_30 pzf_6_40 (sH_0 hj) rfl ?_
  refine pr_getf dX6_cue_33 pzf_6_108 (sH_1 hj) rfl ?_
  refine pr_iload_n dX6_cue_36 rfl ?_
  refine zr_crow hj dX6_cue_37 (by omega) (by omega) ?_
  refine pr_astore dX6_cue_38 (by decide) rfl ?_
  refine pr_iload_n dX6_cue_40 rfl ?_
  refine pr_tsin (off := 79) (tgt := 120) dX6_cue_41 (by decide) (by decide) (by decide) (by decide) ?_
  refine pr_aload dX6_cue_120 rfl ?_
  refine zcv0i dX6_cue_122 pzm_6_147 pzt_X0_instructionCount (sH_C hj (by omega) (by omega)) (kX0_instructionCount hj hX g1 (by omega)) (by decide) (Nat.le_of_ble_eq_true rfl) (by decide) ?_
  exact pr_iret dX6_cue_125 rfl rfl (zret (by rfl))
set_option maxRecDepth 100000 in
set_option maxHeartbeats 4000000 in
theorem kX6_cue_6 (hV : cV t u a K X) {n : Int} (h1 : zR n) (g1 : 0 ≤ xix X n) : pz_Cd en 9 76 [.ref (t 0), .int (zI n), .int (zI 6)] (sH (tH h t u K) a (sq a) X) 0 0 (pz_ret (some (.int (zI (xlgF X (xix X n) 12)))) (sH (tH h t u K) a (sq a) X)) := by
  refine pz_in pzt_X6_cue ?_
  obtain ⟨hj, ht, hD, hu0, hI, hK, ⟨f0, f1⟩, ⟨r0, r1⟩, ⟨q0, q1⟩, hA⟩ := id hV
  have hX := hI.1
  obtain ⟨hR, hn0, hn1, hm0, hm1⟩ := id hX
  have hp := xix_R hX n
  refine pr_aload_n dX6_cue_0 rfl ?_
  refine pr_getf dX6_cue_1 pzf_6_10 (gS_0 ht hD hu0) rfl ?_
  refine pr_getf dX6_cue_4 pzf_6_40 (sH_0 hj) rfl ?_
  refine pr_iload_n dX6_cue_7 rfl ?_
  refine zcv1i dX6_cue_8 pzm_6_79 pzt_X1_indexOf (sH_1 hj) (kX1_indexOf hj hX (by omega)) (by decide) (Nat.le_of_ble_eq_true rfl) (by decide) ?_
  refine pr_istore_n dX6_cue_11 (by decide) rfl ?_
  refine pr_iload_n dX6_cue_12 rfl ?_
  refine zr_if_ge (tgt := 26) dX6_cue_13 (by decide) (by omega) (fun c13 => ?_) (fun c13 => by exfalso; omega)
  refine pr_aload_n dX6_cue_26 rfl ?_
  refine pr_getf dX6_cue_27 pzf_6_10 (gS_0 ht hD hu0) rfl ?_
  refine pr_getf dX6_cue_30 pzf_6_40 (sH_0 hj) rfl ?_
  refine pr_getf dX6_cue_33 pzf_6_108 (sH_1 hj) rfl ?_
  refine pr_iload_n dX6_cue_36 rfl ?_
  refine zr_crow hj dX6_cue_37 (by omega) (by omega) ?_
  refine pr_astore dX6_cue_38 (by decide) rfl ?_
  refine pr_iload_n dX6_cue_40 rfl ?_
  refine pr_tsin (off := 97) (tgt := 138) dX6_cue_41 (by decide) (by decide) (by decide) (by decide) ?_
  refine pr_aload_n dX6_cue_138 rfl ?_
  refine pr_getf dX6_cue_139 pzf_6_10 (gS_0 ht hD hu0) rfl ?_
  refine pr_getf dX6_cue_142 pzf_6_40 (sH_0 hj) rfl ?_
  refine pr_iload_n dX6_cue_145 rfl ?_
  refine zcv1i dX6_cue_146 pzm_6_154 pzt_X1_lengthOf (sH_1 hj) (kX1_lengthOf hj hI g1 (by omega)) (by decide) (Nat.le_of_ble_eq_true rfl) (by decide) ?_
  exact pr_iret dX6_cue_149 rfl rfl (zret (by rfl))
set_option maxRecDepth 100000 in
set_option maxHeartbeats 4000000 in
theorem kX6_cue_5 (hV : cV t u a K X) {n : Int} (h1 : zR n) (g1 : 0 ≤ xix X n) : pz_Cd en 9 76 [.ref (t 0), .int (zI n), .int (zI 5)] (sH (tH h t u K) a (sq a) X) 0 0 (pz_ret (some (.int (xmv X (xix X n)))) (sH (tH h t u K) a (sq a) X)) := by
  refine pz_in pzt_X6_cue ?_
  obtain ⟨hj, ht, hD, hu0, hI, hK, ⟨f0, f1⟩, ⟨r0, r1⟩, ⟨q0, q1⟩, hA⟩ := id hV
  have hX := hI.1
  obtain ⟨hR, hn0, hn1, hm0, hm1⟩ := id hX
  have hp := xix_R hX n
  refine pr_aload_n dX6_cue_0 rfl ?_
  refine pr_getf dX6_cue_1 pzf_6_10 (gS_0 ht hD hu0) rfl ?_
  refine pr_getf dX6_cue_4 pzf_6_40 (sH_0 hj) rfl ?_
  refine pr_iload_n dX6_cue_7 rfl ?_
  refine zcv1i dX6_cue_8 pzm_6_79 pzt_X1_indexOf (sH_1 hj) (kX1_indexOf hj hX (by omega)) (by decide) (Nat.le_of_ble_eq_true rfl) (by decide) ?_
  refine pr_istore_n dX6_cue_11 (by decide) rfl ?_
  refine pr_iload_n dX6_cue_12 rfl ?_
  refine zr_if_ge (tgt := 26) dX6_cue_13 (by decide) (by omega) (fun c13 => ?_) (fun c13 => by exfalso; omega)
  refine pr_aload_n dX6_cue_26 rfl ?_
  refine pr_getf dX6_cue_27 pzf_6_10 (gS_0 ht hD hu0) rfl ?_
  refine pr_getf dX6_cue_30 pzf_6_40 (sH_0 hj) rfl ?_
  refine pr_getf dX6_cue_33 pzf_6_108 (sH_1 hj) rfl ?_
  refine pr_iload_n dX6_cue_36 rfl ?_
  refine zr_crow hj dX6_cue_37 (by omega) (by omega) ?_
  refine pr_astore dX6_cue_38 (by decide) rfl ?_
  refine pr_iload_n dX6_cue_40 rfl ?_
  refine pr_tsin (off := 85) (tgt := 126) dX6_cue_41 (by decide) (by decide) (by decide) (by decide) ?_
  refine pr_aload_n dX6_cue_126 rfl ?_
  refine pr_getf dX6_cue_127 pzf_6_10 (gS_0 ht hD hu0) rfl ?_
  refine pr_getf dX6_cue_130 pzf_6_40 (sH_0 hj) rfl ?_
  refine pr_iload_n dX6_cue_133 rfl ?_
  refine zcv1 dX6_cue_134 pzm_6_151 pzt_X1_movingSet (sH_1 hj) (kX1_movingSet hj hX g1 (by omega)) (by decide) (Nat.le_of_ble_eq_true rfl) (by decide) ?_
  exact pr_iret dX6_cue_137 rfl rfl (⟨rfl, rfl⟩)
set_option maxRecDepth 100000 in
set_option maxHeartbeats 4000000 in
theorem kX6_cue_t1 (hV : cV t u a K X) {n q : Int} (h1 : zR n) (h2 : zR q) (g1 : ¬ 0 ≤ xix X n) : pz_Cd en 9 76 [.ref (t 0), .int (zI n), .int (zI q)] (sH (tH h t u K) a (sq a) X) 1 6 (pz_thr "java/lang/IndexOutOfBoundsException" (sH (tH h t u K) a (sq a) X)) := by
  refine pz_in pzt_X6_cue ?_
  obtain ⟨hj, ht, hD, hu0, hI, hK, ⟨f0, f1⟩, ⟨r0, r1⟩, ⟨q0, q1⟩, hA⟩ := id hV
  have hX := hI.1
  obtain ⟨hR, hn0, hn1, hm0, hm1⟩ := id hX
  have hp := xix_R hX n
  refine pr_aload_n dX6_cue_0 rfl ?_
  refine pr_getf dX6_cue_1 pzf_6_10 (gS_0 ht hD hu0) rfl ?_
  refine pr_getf dX6_cue_4 pzf_6_40 (sH_0 hj) rfl ?_
  refine pr_iload_n dX6_cue_7 rfl ?_
  refine zcv1i dX6_cue_8 pzm_6_79 pzt_X1_indexOf (sH_1 hj) (kX1_indexOf hj hX (by omega)) (by decide) (Nat.le_of_ble_eq_true rfl) (by decide) ?_
  refine pr_istore_n dX6_cue_11 (by decide) rfl ?_
  refine pr_iload_n dX6_cue_12 rfl ?_
  refine zr_if_ge (tgt := 26) dX6_cue_13 (by decide) (by omega) (fun c13 => by exfalso; omega) (fun c13 => ?_)
  exact pr_thr dX6_cue_16 dX6_cue_19 dX6_cue_20 dX6_cue_22 dX6_cue_25 pze_6_83 pzs_85 rfl (by decide) rfl ⟨rfl, rfl⟩
set_option maxRecDepth 100000 in
set_option maxHeartbeats 4000000 in
theorem kX6_cue_t2 (hV : cV t u a K X) {n q : Int} (h1 : zR n) (h2 : zR q) (g1 : 0 ≤ xix X n) (g2 : ¬ (0 ≤ q ∧ q ≤ 6)) : pz_Cd en 9 76 [.ref (t 0), .int (zI n), .int (zI q)] (sH (tH h t u K) a (sq a) X) 1 6 (pz_thr "java/lang/IllegalArgumentException" (sH (tH h t u K) a (sq a) X)) := by
  refine pz_in pzt_X6_cue ?_
  obtain ⟨hj, ht, hD, hu0, hI, hK, ⟨f0, f1⟩, ⟨r0, r1⟩, ⟨q0, q1⟩, hA⟩ := id hV
  have hX := hI.1
  obtain ⟨hR, hn0, hn1, hm0, hm1⟩ := id hX
  have hp := xix_R hX n
  refine pr_aload_n dX6_cue_0 rfl ?_
  refine pr_getf dX6_cue_1 pzf_6_10 (gS_0 ht hD hu0) rfl ?_
  refine pr_getf dX6_cue_4 pzf_6_40 (sH_0 hj) rfl ?_
  refine pr_iload_n dX6_cue_7 rfl ?_
  refine zcv1i dX6_cue_8 pzm_6_79 pzt_X1_indexOf (sH_1 hj) (kX1_indexOf hj hX (by omega)) (by decide) (Nat.le_of_ble_eq_true rfl) (by decide) ?_
  refine pr_istore_n dX6_cue_11 (by decide) rfl ?_
  refine pr_iload_n dX6_cue_12 rfl ?_
  refine zr_if_ge (tgt := 26) dX6_cue_13 (by decide) (by omega) (fun c13 => ?_) (fun c13 => by exfalso; omega)
  refine pr_aload_n dX6_cue_26 rfl ?_
  refine pr_getf dX6_cue_27 pzf_6_10 (gS_0 ht hD hu0) rfl ?_
  refine pr_getf dX6_cue_30 pzf_6_40 (sH_0 hj) rfl ?_
  refine pr_getf dX6_cue_33 pzf_6_108 (sH_1 hj) rfl ?_
  refine pr_iload_n dX6_cue_36 rfl ?_
  refine zr_crow hj dX6_cue_37 (by omega) (by omega) ?_
  refine pr_astore dX6_cue_38 (by decide) rfl ?_
  refine pr_iload_n dX6_cue_40 rfl ?_
  refine pr_tsout (tgt := 150) dX6_cue_41 (by rw [zI_toInt (by omega)]; omega) (by decide) ?_
  exact pr_thr dX6_cue_150 dX6_cue_153 dX6_cue_154 dX6_cue_156 dX6_cue_159 pze_6_59 pzs_157 rfl (by decide) rfl ⟨rfl, rfl⟩
set_option maxRecDepth 100000 in
set_option maxHeartbeats 4000000 in
theorem kX6_part_k (hV : cV t u a K X) {n c : Int} (h1 : zR n) (h2 : zR c) {dl : Prop} [dd : Decidable dl] (g1 : 0 ≤ xix X n) (g2 : 0 ≤ c ∧ c ≤ 3) : pz_Cd en 9 77 [.ref (t 0), .int (zI n), .int (zI c), .int (zI (bI dl))] (sH (tH h t u K) a (sq a) X) 0 0 (pz_ret (some (.int (zI (X (7 + 5 * xix X n + (if dl then 1 else 2)) c)))) (sH (tH h t u K) a (sq a) X)) := by
  refine pz_in pzt_X6_part ?_
  obtain ⟨hj, ht, hD, hu0, hI, hK, ⟨f0, f1⟩, ⟨r0, r1⟩, ⟨q0, q1⟩, hA⟩ := id hV
  have hX := hI.1
  obtain ⟨hR, hn0, hn1, hm0, hm1⟩ := id hX
  have hp := xix_R hX n
  refine pr_aload_n dX6_part_0 rfl ?_
  refine pr_getf dX6_part_1 pzf_6_10 (gS_0 ht hD hu0) rfl ?_
  refine pr_getf dX6_part_4 pzf_6_40 (sH_0 hj) rfl ?_
  refine pr_iload_n dX6_part_7 rfl ?_
  refine zcv1i dX6_part_8 pzm_6_79 pzt_X1_indexOf (sH_1 hj) (kX1_indexOf hj hX (by omega)) (by decide) (Nat.le_of_ble_eq_true rfl) (by decide) ?_
  refine pr_istore dX6_part_11 (by decide) rfl ?_
  refine pr_iload dX6_part_13 rfl ?_
  refine zr_if_lt (tgt := 25) dX6_part_15 (by decide) (by omega) (fun c15 => by exfalso; omega) (fun c15 => ?_)
  refine pr_iload_n dX6_part_18 rfl ?_
  refine zcs1i dX6_part_19 pzm_6_133 pzt_X6_isPart (kX6_isPart (by omega)) (by decide) (Nat.le_of_ble_eq_true rfl) ?_
  refine zr_if_ne (tgt := 35) dX6_part_22 (by decide) (bI_R _) (fun c22 => ?_) (fun c22 => by exfalso; have bb := bI_0 c22; omega)
  have b22 := bI_ne c22
  refine pr_aload_n dX6_part_35 rfl ?_
  refine pr_getf dX6_part_36 pzf_6_10 (gS_0 ht hD hu0) rfl ?_
  refine pr_getf dX6_part_39 pzf_6_40 (sH_0 hj) rfl ?_
  refine pr_getf dX6_part_42 pzf_6_108 (sH_1 hj) rfl ?_
  refine pr_iload dX6_part_45 rfl ?_
  refine zr_crow hj dX6_part_47 (by omega) (by omega) ?_
  refine pr_iload_n dX6_part_48 rfl ?_
  refine zcv1a dX6_part_49 pzm_6_140 pzt_X0_partRow (sH_C hj (by omega) (by omega)) (kX0_partRow hj hX g1 (by omega)) (by decide) (Nat.le_of_ble_eq_true rfl) (by decide) ?_
  refine pr_iload_n dX6_part_52 rfl ?_
  refine zr_iald dX6_part_53 (sH_Cp hj g1 (by omega)) (by omega) (by decide) ?_
  exact pr_iret dX6_part_54 rfl rfl (zret (by rfl))
set_option maxRecDepth 100000 in
set_option maxHeartbeats 4000000 in
theorem kX6_part_t (hV : cV t u a K X) {n c : Int} (h1 : zR n) (h2 : zR c) {dl : Prop} [dd : Decidable dl] (g1 : ¬ (0 ≤ xix X n ∧ 0 ≤ c ∧ c ≤ 3)) : pz_Cd en 9 77 [.ref (t 0), .int (zI n), .int (zI c), .int (zI (bI dl))] (sH (tH h t u K) a (sq a) X) 1 6 (pz_thr "java/lang/IndexOutOfBoundsException" (sH (tH h t u K) a (sq a) X)) := by
  refine pz_in pzt_X6_part ?_
  obtain ⟨hj, ht, hD, hu0, hI, hK, ⟨f0, f1⟩, ⟨r0, r1⟩, ⟨q0, q1⟩, hA⟩ := id hV
  have hX := hI.1
  obtain ⟨hR, hn0, hn1, hm0, hm1⟩ := id hX
  have hp := xix_R hX n
  refine pr_aload_n dX6_part_0 rfl ?_
  refine pr_getf dX6_part_1 pzf_6_10 (gS_0 ht hD hu0) rfl ?_
  refine pr_getf dX6_part_4 pzf_6_40 (sH_0 hj) rfl ?_
  refine pr_iload_n dX6_part_7 rfl ?_
  refine zcv1i dX6_part_8 pzm_6_79 pzt_X1_indexOf (sH_1 hj) (kX1_indexOf hj hX (by omega)) (by decide) (Nat.le_of_ble_eq_true rfl) (by decide) ?_
  refine pr_istore dX6_part_11 (by decide) rfl ?_
  refine pr_iload dX6_part_13 rfl ?_
  refine zr_if_lt (tgt := 25) dX6_part_15 (by decide) (by omega) (fun c15 => ?_) (fun c15 => ?_)
  · exact pr_thr dX6_part_25 dX6_part_28 dX6_part_29 dX6_part_31 dX6_part_34 pze_6_83 pzs_136 rfl (by decide) rfl ⟨rfl, rfl⟩
  · refine pr_iload_n dX6_part_18 rfl ?_
    refine zcs1i dX6_part_19 pzm_6_133 pzt_X6_isPart (kX6_isPart (by omega)) (by decide) (Nat.le_of_ble_eq_true rfl) ?_
    refine zr_if_ne (tgt := 35) dX6_part_22 (by decide) (bI_R _) (fun c22 => by exfalso; have bb := bI_ne c22; omega) (fun c22 => ?_)
    have b22 := bI_0 c22
    exact pr_thr dX6_part_25 dX6_part_28 dX6_part_29 dX6_part_31 dX6_part_34 pze_6_83 pzs_136 rfl (by decide) rfl ⟨rfl, rfl⟩
set_option maxRecDepth 100000 in
set_option maxHeartbeats 4000000 in
theorem kX6_instruction_0 (hV : cV t u a K X) {i : Int} (h1 : zR i) (g1 : 0 ≤ i ∧ i < X 1 5) : pz_Cd en 9 82 [.ref (t 0), .int (zI i), .int (zI 0)] (sH (tH h t u K) a (sq a) X) 0 0 (pz_ret (some (.int (zI (X 4 i)))) (sH (tH h t u K) a (sq a) X)) := by
  refine pz_in pzt_X6_instruction ?_
  obtain ⟨hj, ht, hD, hu0, hI, hK, ⟨f0, f1⟩, ⟨r0, r1⟩, ⟨q0, q1⟩, hA⟩ := id hV
  have hX := hI.1
  obtain ⟨hR, hn0, hn1, hm0, hm1⟩ := id hX
  refine pr_iload_n dX6_instruction_0 rfl ?_
  refine zr_if_lt (tgt := 18) dX6_instruction_1 (by decide) (by omega) (fun c1 => by exfalso; omega) (fun c1 => ?_)
  refine pr_iload_n dX6_instruction_4 rfl ?_
  refine pr_aload_n dX6_instruction_5 rfl ?_
  refine pr_getf dX6_instruction_6 pzf_6_10 (gS_0 ht hD hu0) rfl ?_
  refine pr_getf dX6_instruction_9 pzf_6_40 (sH_0 hj) rfl ?_
  refine pr_getf dX6_instruction_12 pzf_6_192 (sH_1 hj) rfl ?_
  refine zr_icmp_lt (tgt := 28) dX6_instruction_15 (by decide) (by omega) (by omega) (fun c15 => ?_) (fun c15 => by exfalso; omega)
  refine pr_iload_n dX6_instruction_28 rfl ?_
  refine pr_tsin (off := 31) (tgt := 60) dX6_instruction_29 (by decide) (by decide) (by decide) (by decide) ?_
  refine pr_aload_n dX6_instruction_60 rfl ?_
  refine pr_getf dX6_instruction_61 pzf_6_10 (gS_0 ht hD hu0) rfl ?_
  refine pr_getf dX6_instruction_64 pzf_6_40 (sH_0 hj) rfl ?_
  refine pr_getf dX6_instruction_67 pzf_6_195 (sH_1 hj) rfl ?_
  refine pr_iload_n dX6_instruction_70 rfl ?_
  refine zr_iald dX6_instruction_71 (sH_4 hj) (by omega) (by decide) ?_
  exact pr_iret dX6_instruction_72 rfl rfl (zret (by rfl))
set_option maxRecDepth 100000 in
set_option maxHeartbeats 4000000 in
theorem kX6_instruction_1 (hV : cV t u a K X) {i : Int} (h1 : zR i) (g1 : 0 ≤ i ∧ i < X 1 5) : pz_Cd en 9 82 [.ref (t 0), .int (zI i), .int (zI 1)] (sH (tH h t u K) a (sq a) X) 0 0 (pz_ret (some (.int (zI (X 5 i)))) (sH (tH h t u K) a (sq a) X)) := by
  refine pz_in pzt_X6_instruction ?_
  obtain ⟨hj, ht, hD, hu0, hI, hK, ⟨f0, f1⟩, ⟨r0, r1⟩, ⟨q0, q1⟩, hA⟩ := id hV
  have hX := hI.1
  obtain ⟨hR, hn0, hn1, hm0, hm1⟩ := id hX
  refine pr_iload_n dX6_instruction_0 rfl ?_
  refine zr_if_lt (tgt := 18) dX6_instruction_1 (by decide) (by omega) (fun c1 => by exfalso; omega) (fun c1 => ?_)
  refine pr_iload_n dX6_instruction_4 rfl ?_
  refine pr_aload_n dX6_instruction_5 rfl ?_
  refine pr_getf dX6_instruction_6 pzf_6_10 (gS_0 ht hD hu0) rfl ?_
  refine pr_getf dX6_instruction_9 pzf_6_40 (sH_0 hj) rfl ?_
  refine pr_getf dX6_instruction_12 pzf_6_192 (sH_1 hj) rfl ?_
  refine zr_icmp_lt (tgt := 28) dX6_instruction_15 (by decide) (by omega) (by omega) (fun c15 => ?_) (fun c15 => by exfalso; omega)
  refine pr_iload_n dX6_instruction_28 rfl ?_
  refine pr_tsin (off := 44) (tgt := 73) dX6_instruction_29 (by decide) (by decide) (by decide) (by decide) ?_
  refine pr_aload_n dX6_instruction_73 rfl ?_
  refine pr_getf dX6_instruction_74 pzf_6_10 (gS_0 ht hD hu0) rfl ?_
  refine pr_getf dX6_instruction_77 pzf_6_40 (sH_0 hj) rfl ?_
  refine pr_getf dX6_instruction_80 pzf_6_198 (sH_1 hj) rfl ?_
  refine pr_iload_n dX6_instruction_83 rfl ?_
  refine zr_iald dX6_instruction_84 (sH_5 hj) (by omega) (by decide) ?_
  exact pr_iret dX6_instruction_85 rfl rfl (zret (by rfl))
set_option maxRecDepth 100000 in
set_option maxHeartbeats 4000000 in
theorem kX6_instruction_2 (hV : cV t u a K X) {i : Int} (h1 : zR i) (g1 : 0 ≤ i ∧ i < X 1 5) : pz_Cd en 9 82 [.ref (t 0), .int (zI i), .int (zI 2)] (sH (tH h t u K) a (sq a) X) 0 0 (pz_ret (some (.int (zI (xll X i)))) (sH (tH h t u K) a (sq a) X)) := by
  refine pz_in pzt_X6_instruction ?_
  obtain ⟨hj, ht, hD, hu0, hI, hK, ⟨f0, f1⟩, ⟨r0, r1⟩, ⟨q0, q1⟩, hA⟩ := id hV
  have hX := hI.1
  obtain ⟨hR, hn0, hn1, hm0, hm1⟩ := id hX
  refine pr_iload_n dX6_instruction_0 rfl ?_
  refine zr_if_lt (tgt := 18) dX6_instruction_1 (by decide) (by omega) (fun c1 => by exfalso; omega) (fun c1 => ?_)
  refine pr_iload_n dX6_instruction_4 rfl ?_
  refine pr_aload_n dX6_instruction_5 rfl ?_
  refine pr_getf dX6_instruction_6 pzf_6_10 (gS_0 ht hD hu0) rfl ?_
  refine pr_getf dX6_instruction_9 pzf_6_40 (sH_0 hj) rfl ?_
  refine pr_getf dX6_instruction_12 pzf_6_192 (sH_1 hj) rfl ?_
  refine zr_icmp_lt (tgt := 28) dX6_instruction_15 (by decide) (by omega) (by omega) (fun c15 => ?_) (fun c15 => by exfalso; omega)
  refine pr_iload_n dX6_instruction_28 rfl ?_
  refine pr_tsin (off := 57) (tgt := 86) dX6_instruction_29 (by decide) (by decide) (by decide) (by decide) ?_
  refine pr_aload_n dX6_instruction_86 rfl ?_
  refine pr_getf dX6_instruction_87 pzf_6_10 (gS_0 ht hD hu0) rfl ?_
  refine pr_getf dX6_instruction_90 pzf_6_40 (sH_0 hj) rfl ?_
  refine pr_iload_n dX6_instruction_93 rfl ?_
  refine zcv1i dX6_instruction_94 pzm_6_201 pzt_X1_listedLevel (sH_1 hj) (kX1_listedLevel hj hI g1.1 g1.2) (by decide) (Nat.le_of_ble_eq_true rfl) (by decide) ?_
  exact pr_iret dX6_instruction_97 rfl rfl (zret (by rfl))
set_option maxRecDepth 100000 in
set_option maxHeartbeats 4000000 in
theorem kX6_instruction_3 (hV : cV t u a K X) {i : Int} (h1 : zR i) (g1 : 0 ≤ i ∧ i < X 1 5) : pz_Cd en 9 82 [.ref (t 0), .int (zI i), .int (zI 3)] (sH (tH h t u K) a (sq a) X) 0 0 (pz_ret (some (.int (zI (xlp X i)))) (sH (tH h t u K) a (sq a) X)) := by
  refine pz_in pzt_X6_instruction ?_
  obtain ⟨hj, ht, hD, hu0, hI, hK, ⟨f0, f1⟩, ⟨r0, r1⟩, ⟨q0, q1⟩, hA⟩ := id hV
  have hX := hI.1
  obtain ⟨hR, hn0, hn1, hm0, hm1⟩ := id hX
  refine pr_iload_n dX6_instruction_0 rfl ?_
  refine zr_if_lt (tgt := 18) dX6_instruction_1 (by decide) (by omega) (fun c1 => by exfalso; omega) (fun c1 => ?_)
  refine pr_iload_n dX6_instruction_4 rfl ?_
  refine pr_aload_n dX6_instruction_5 rfl ?_
  refine pr_getf dX6_instruction_6 pzf_6_10 (gS_0 ht hD hu0) rfl ?_
  refine pr_getf dX6_instruction_9 pzf_6_40 (sH_0 hj) rfl ?_
  refine pr_getf dX6_instruction_12 pzf_6_192 (sH_1 hj) rfl ?_
  refine zr_icmp_lt (tgt := 28) dX6_instruction_15 (by decide) (by omega) (by omega) (fun c15 => ?_) (fun c15 => by exfalso; omega)
  refine pr_iload_n dX6_instruction_28 rfl ?_
  refine pr_tsin (off := 69) (tgt := 98) dX6_instruction_29 (by decide) (by decide) (by decide) (by decide) ?_
  refine pr_aload_n dX6_instruction_98 rfl ?_
  refine pr_getf dX6_instruction_99 pzf_6_10 (gS_0 ht hD hu0) rfl ?_
  refine pr_getf dX6_instruction_102 pzf_6_40 (sH_0 hj) rfl ?_
  refine pr_iload_n dX6_instruction_105 rfl ?_
  refine zcv1i dX6_instruction_106 pzm_6_204 pzt_X1_listedPart (sH_1 hj) (kX1_listedPart hj hI g1.1 g1.2) (by decide) (Nat.le_of_ble_eq_true rfl) (by decide) ?_
  exact pr_iret dX6_instruction_109 rfl rfl (zret (by rfl))
set_option maxRecDepth 100000 in
set_option maxHeartbeats 4000000 in
theorem kX6_instruction_t1 (hV : cV t u a K X) {i q : Int} (h1 : zR i) (h2 : zR q) (g1 : ¬ (0 ≤ i ∧ i < X 1 5)) : pz_Cd en 9 82 [.ref (t 0), .int (zI i), .int (zI q)] (sH (tH h t u K) a (sq a) X) 1 6 (pz_thr "java/util/NoSuchElementException" (sH (tH h t u K) a (sq a) X)) := by
  refine pz_in pzt_X6_instruction ?_
  obtain ⟨hj, ht, hD, hu0, hI, hK, ⟨f0, f1⟩, ⟨r0, r1⟩, ⟨q0, q1⟩, hA⟩ := id hV
  have hX := hI.1
  obtain ⟨hR, hn0, hn1, hm0, hm1⟩ := id hX
  refine pr_iload_n dX6_instruction_0 rfl ?_
  refine zr_if_lt (tgt := 18) dX6_instruction_1 (by decide) (by omega) (fun c1 => ?_) (fun c1 => ?_)
  · exact pr_thr dX6_instruction_18 dX6_instruction_21 dX6_instruction_22 dX6_instruction_24 dX6_instruction_27 pze_6_103 pzs_105 rfl (by decide) rfl ⟨rfl, rfl⟩
  · refine pr_iload_n dX6_instruction_4 rfl ?_
    refine pr_aload_n dX6_instruction_5 rfl ?_
    refine pr_getf dX6_instruction_6 pzf_6_10 (gS_0 ht hD hu0) rfl ?_
    refine pr_getf dX6_instruction_9 pzf_6_40 (sH_0 hj) rfl ?_
    refine pr_getf dX6_instruction_12 pzf_6_192 (sH_1 hj) rfl ?_
    refine zr_icmp_lt (tgt := 28) dX6_instruction_15 (by decide) (by omega) (by omega) (fun c15 => by exfalso; omega) (fun c15 => ?_)
    exact pr_thr dX6_instruction_18 dX6_instruction_21 dX6_instruction_22 dX6_instruction_24 dX6_instruction_27 pze_6_103 pzs_105 rfl (by decide) rfl ⟨rfl, rfl⟩
set_option maxRecDepth 100000 in
set_option maxHeartbeats 4000000 in
theorem kX6_instruction_t2 (hV : cV t u a K X) {i q : Int} (h1 : zR i) (h2 : zR q) (g1 : 0 ≤ i ∧ i < X 1 5) (g2 : ¬ (0 ≤ q ∧ q ≤ 3)) : pz_Cd en 9 82 [.ref (t 0), .int (zI i), .int (zI q)] (sH (tH h t u K) a (sq a) X) 1 6 (pz_thr "java/lang/IllegalArgumentException" (sH (tH h t u K) a (sq a) X)) := by
  refine pz_in pzt_X6_instruction ?_
  obtain ⟨hj, ht, hD, hu0, hI, hK, ⟨f0, f1⟩, ⟨r0, r1⟩, ⟨q0, q1⟩, hA⟩ := id hV
  have hX := hI.1
  obtain ⟨hR, hn0, hn1, hm0, hm1⟩ := id hX
  refine pr_iload_n dX6_instruction_0 rfl ?_
  refine zr_if_lt (tgt := 18) dX6_instruction_1 (by decide) (by omega) (fun c1 => by exfalso; omega) (fun c1 => ?_)
  refine pr_iload_n dX6_instruction_4 rfl ?_
  refine pr_aload_n dX6_instruction_5 rfl ?_
  refine pr_getf dX6_instruction_6 pzf_6_10 (gS_0 ht hD hu0) rfl ?_
  refine pr_getf dX6_instruction_9 pzf_6_40 (sH_0 hj) rfl ?_
  refine pr_getf dX6_instruction_12 pzf_6_192 (sH_1 hj) rfl ?_
  refine zr_icmp_lt (tgt := 28) dX6_instruction_15 (by decide) (by omega) (by omega) (fun c15 => ?_) (fun c15 => by exfalso; omega)
  refine pr_iload_n dX6_instruction_28 rfl ?_
  refine pr_tsout (tgt := 110) dX6_instruction_29 (by rw [zI_toInt (by omega)]; omega) (by decide) ?_
  exact pr_thr dX6_instruction_110 dX6_instruction_113 dX6_instruction_114 dX6_instruction_116 dX6_instruction_119 pze_6_59 pzs_207 rfl (by decide) rfl ⟨rfl, rfl⟩
set_option maxRecDepth 100000 in
set_option maxHeartbeats 4000000 in
theorem kX6_level_k (hV : cV t u a K X) {n c : Int} (h1 : zR n) (h2 : zR c) (g1 : 0 ≤ xix X n) (g2 : 0 ≤ c ∧ c ≤ 11) : pz_Cd en 9 83 [.ref (t 0), .int (zI n), .int (zI c)] (sH (tH h t u K) a (sq a) X) 0 0 (pz_ret (some (.int (zI (xlv X (xix X n) c)))) (sH (tH h t u K) a (sq a) X)) := by
  refine pz_in pzt_X6_level ?_
  obtain ⟨hj, ht, hD, hu0, hI, hK, ⟨f0, f1⟩, ⟨r0, r1⟩, ⟨q0, q1⟩, hA⟩ := id hV
  have hX := hI.1
  obtain ⟨hR, hn0, hn1, hm0, hm1⟩ := id hX
  have hp := xix_R hX n
  refine pr_aload_n dX6_level_0 rfl ?_
  refine pr_getf dX6_level_1 pzf_6_10 (gS_0 ht hD hu0) rfl ?_
  refine pr_getf dX6_level_4 pzf_6_40 (sH_0 hj) rfl ?_
  refine pr_iload_n dX6_level_7 rfl ?_
  refine zcv1i dX6_level_8 pzm_6_79 pzt_X1_indexOf (sH_1 hj) (kX1_indexOf hj hX (by omega)) (by decide) (Nat.le_of_ble_eq_true rfl) (by decide) ?_
  refine pr_istore_n dX6_level_11 (by decide) rfl ?_
  refine pr_iload_n dX6_level_12 rfl ?_
  refine zr_if_lt (tgt := 23) dX6_level_13 (by decide) (by omega) (fun c13 => by exfalso; omega) (fun c13 => ?_)
  refine pr_iload_n dX6_level_16 rfl ?_
  refine zcs1i dX6_level_17 pzm_6_159 pzt_X6_isChannel (kX6_isChannel (by omega)) (by decide) (Nat.le_of_ble_eq_true rfl) ?_
  refine zr_if_ne (tgt := 33) dX6_level_20 (by decide) (bI_R _) (fun c20 => ?_) (fun c20 => by exfalso; have bb := bI_0 c20; omega)
  have b20 := bI_ne c20
  refine pr_aload_n dX6_level_33 rfl ?_
  refine pr_getf dX6_level_34 pzf_6_10 (gS_0 ht hD hu0) rfl ?_
  refine pr_getf dX6_level_37 pzf_6_40 (sH_0 hj) rfl ?_
  refine pr_iload_n dX6_level_40 rfl ?_
  refine pr_iload_n dX6_level_41 rfl ?_
  refine zcv2i dX6_level_42 pzm_6_209 pzt_X1_levelIn (sH_1 hj) (kX1_levelIn hj hX (by omega) (by omega) g2.1 g2.2) (by decide) (Nat.le_of_ble_eq_true rfl) (by decide) ?_
  exact pr_iret dX6_level_45 rfl rfl (zret (by rfl))
set_option maxRecDepth 100000 in
set_option maxHeartbeats 4000000 in
theorem kX6_levelAgain_k (hV : cV t u a K X) {n c : Int} (h1 : zR n) (h2 : zR c) (g1 : 0 ≤ xix X n) (g2 : 0 ≤ c ∧ c ≤ 11) : pz_Cd en 9 84 [.ref (t 0), .int (zI n), .int (zI c)] (sH (tH h t u K) a (sq a) X) 0 0 (pz_ret (some (.int (zI (xlv X (xix X n) c)))) (sH (tH h t u K) a (sq a) X)) := by
  refine pz_in pzt_X6_levelAgain ?_
  obtain ⟨hj, ht, hD, hu0, hI, hK, ⟨f0, f1⟩, ⟨r0, r1⟩, ⟨q0, q1⟩, hA⟩ := id hV
  have hX := hI.1
  obtain ⟨hR, hn0, hn1, hm0, hm1⟩ := id hX
  have hp := xix_R hX n
  refine pr_aload_n dX6_levelAgain_0 rfl ?_
  refine pr_getf dX6_levelAgain_1 pzf_6_10 (gS_0 ht hD hu0) rfl ?_
  refine pr_getf dX6_levelAgain_4 pzf_6_40 (sH_0 hj) rfl ?_
  refine pr_iload_n dX6_levelAgain_7 rfl ?_
  refine zcv1i dX6_levelAgain_8 pzm_6_79 pzt_X1_indexOf (sH_1 hj) (kX1_indexOf hj hX (by omega)) (by decide) (Nat.le_of_ble_eq_true rfl) (by decide) ?_
  refine pr_istore_n dX6_levelAgain_11 (by decide) rfl ?_
  refine pr_iload_n dX6_levelAgain_12 rfl ?_
  refine zr_if_lt (tgt := 23) dX6_levelAgain_13 (by decide) (by omega) (fun c13 => by exfalso; omega) (fun c13 => ?_)
  refine pr_iload_n dX6_levelAgain_16 rfl ?_
  refine zcs1i dX6_levelAgain_17 pzm_6_159 pzt_X6_isChannel (kX6_isChannel (by omega)) (by decide) (Nat.le_of_ble_eq_true rfl) ?_
  refine zr_if_ne (tgt := 33) dX6_levelAgain_20 (by decide) (bI_R _) (fun c20 => ?_) (fun c20 => by exfalso; have bb := bI_0 c20; omega)
  have b20 := bI_ne c20
  refine pr_aload_n dX6_levelAgain_33 rfl ?_
  refine pr_getf dX6_levelAgain_34 pzf_6_10 (gS_0 ht hD hu0) rfl ?_
  refine pr_getf dX6_levelAgain_37 pzf_6_40 (sH_0 hj) rfl ?_
  refine pr_iload_n dX6_levelAgain_40 rfl ?_
  refine pr_iload_n dX6_levelAgain_41 rfl ?_
  refine zcv2i dX6_levelAgain_42 pzm_6_213 pzt_X1_levelFromFirst (sH_1 hj) (kX1_levelFromFirst hj hX (by omega) (by omega) g2.1 g2.2 (fun k k1 k2 => (hI.2.1 k k1 (by omega)).2.2.1) (fun k k1 k2 => (hI.2.2.2.2.1 k c k1 (by omega) g2.1 g2.2).1.1)) (by decide) (Nat.le_of_ble_eq_true rfl) (by decide) ?_
  exact pr_iret dX6_levelAgain_45 rfl rfl (zret (by rfl))
set_option maxRecDepth 100000 in
set_option maxHeartbeats 4000000 in
theorem kX6_source_k (hV : cV t u a K X) {n c : Int} (h1 : zR n) (h2 : zR c) (g1 : 0 ≤ xix X n) (g2 : 0 ≤ c ∧ c ≤ 11) : pz_Cd en 9 85 [.ref (t 0), .int (zI n), .int (zI c)] (sH (tH h t u K) a (sq a) X) 0 0 (pz_ret (some (.int (zI (X (7 + 5 * xsr X c (xix X n).toNat) 0)))) (sH (tH h t u K) a (sq a) X)) := by
  refine pz_in pzt_X6_source ?_
  obtain ⟨hj, ht, hD, hu0, hI, hK, ⟨f0, f1⟩, ⟨r0, r1⟩, ⟨q0, q1⟩, hA⟩ := id hV
  have hX := hI.1
  obtain ⟨hR, hn0, hn1, hm0, hm1⟩ := id hX
  have hp := xix_R hX n
  refine pr_aload_n dX6_source_0 rfl ?_
  refine pr_getf dX6_source_1 pzf_6_10 (gS_0 ht hD hu0) rfl ?_
  refine pr_getf dX6_source_4 pzf_6_40 (sH_0 hj) rfl ?_
  refine pr_iload_n dX6_source_7 rfl ?_
  refine zcv1i dX6_source_8 pzm_6_79 pzt_X1_indexOf (sH_1 hj) (kX1_indexOf hj hX (by omega)) (by decide) (Nat.le_of_ble_eq_true rfl) (by decide) ?_
  refine pr_istore_n dX6_source_11 (by decide) rfl ?_
  refine pr_iload_n dX6_source_12 rfl ?_
  refine zr_if_lt (tgt := 23) dX6_source_13 (by decide) (by omega) (fun c13 => by exfalso; omega) (fun c13 => ?_)
  refine pr_iload_n dX6_source_16 rfl ?_
  refine zcs1i dX6_source_17 pzm_6_159 pzt_X6_isChannel (kX6_isChannel (by omega)) (by decide) (Nat.le_of_ble_eq_true rfl) ?_
  refine zr_if_ne (tgt := 33) dX6_source_20 (by decide) (bI_R _) (fun c20 => ?_) (fun c20 => by exfalso; have bb := bI_0 c20; omega)
  have b20 := bI_ne c20
  refine pr_aload_n dX6_source_33 rfl ?_
  refine pr_getf dX6_source_34 pzf_6_10 (gS_0 ht hD hu0) rfl ?_
  refine pr_getf dX6_source_37 pzf_6_40 (sH_0 hj) rfl ?_
  refine pr_getf dX6_source_40 pzf_6_108 (sH_1 hj) rfl ?_
  refine pr_aload_n dX6_source_43 rfl ?_
  refine pr_getf dX6_source_44 pzf_6_10 (gS_0 ht hD hu0) rfl ?_
  refine pr_getf dX6_source_47 pzf_6_40 (sH_0 hj) rfl ?_
  refine pr_iload_n dX6_source_50 rfl ?_
  refine pr_iload_n dX6_source_51 rfl ?_
  refine zcv2i dX6_source_52 pzm_6_216 pzt_X1_sourceIndex (sH_1 hj) (kX1_sourceIndex hj hX g1 (by omega) g2.1 g2.2) (by decide) (Nat.le_of_ble_eq_true rfl) (by decide) ?_
  have hs := xsr_R (X := X) (c := c) (xix X n).toNat
  refine zr_crow hj dX6_source_55 (by omega) (by omega) ?_
  refine pr_getf dX6_source_56 pzf_6_112 (sH_C hj (by omega) (by omega)) rfl ?_
  exact pr_iret dX6_source_59 rfl rfl (zret (by rfl))
set_option maxRecDepth 100000 in
set_option maxHeartbeats 4000000 in
theorem kX6_level_t (hV : cV t u a K X) {n c : Int} (h1 : zR n) (h2 : zR c) (g1 : ¬ (0 ≤ xix X n ∧ 0 ≤ c ∧ c ≤ 11)) : pz_Cd en 9 83 [.ref (t 0), .int (zI n), .int (zI c)] (sH (tH h t u K) a (sq a) X) 1 6 (pz_thr "java/lang/IndexOutOfBoundsException" (sH (tH h t u K) a (sq a) X)) := by
  refine pz_in pzt_X6_level ?_
  obtain ⟨hj, ht, hD, hu0, hI, hK, ⟨f0, f1⟩, ⟨r0, r1⟩, ⟨q0, q1⟩, hA⟩ := id hV
  have hX := hI.1
  obtain ⟨hR, hn0, hn1, hm0, hm1⟩ := id hX
  have hp := xix_R hX n
  refine pr_aload_n dX6_level_0 rfl ?_
  refine pr_getf dX6_level_1 pzf_6_10 (gS_0 ht hD hu0) rfl ?_
  refine pr_getf dX6_level_4 pzf_6_40 (sH_0 hj) rfl ?_
  refine pr_iload_n dX6_level_7 rfl ?_
  refine zcv1i dX6_level_8 pzm_6_79 pzt_X1_indexOf (sH_1 hj) (kX1_indexOf hj hX (by omega)) (by decide) (Nat.le_of_ble_eq_true rfl) (by decide) ?_
  refine pr_istore_n dX6_level_11 (by decide) rfl ?_
  refine pr_iload_n dX6_level_12 rfl ?_
  refine zr_if_lt (tgt := 23) dX6_level_13 (by decide) (by omega) (fun c13 => ?_) (fun c13 => ?_)
  · exact pr_thr dX6_level_23 dX6_level_26 dX6_level_27 dX6_level_29 dX6_level_32 pze_6_83 pzs_183 rfl (by decide) rfl ⟨rfl, rfl⟩
  · refine pr_iload_n dX6_level_16 rfl ?_
    refine zcs1i dX6_level_17 pzm_6_159 pzt_X6_isChannel (kX6_isChannel (by omega)) (by decide) (Nat.le_of_ble_eq_true rfl) ?_
    refine zr_if_ne (tgt := 33) dX6_level_20 (by decide) (bI_R _) (fun c20 => by exfalso; have bb := bI_ne c20; omega) (fun c20 => ?_)
    have b20 := bI_0 c20
    exact pr_thr dX6_level_23 dX6_level_26 dX6_level_27 dX6_level_29 dX6_level_32 pze_6_83 pzs_183 rfl (by decide) rfl ⟨rfl, rfl⟩
set_option maxRecDepth 100000 in
set_option maxHeartbeats 4000000 in
theorem kX6_levelAgain_t (hV : cV t u a K X) {n c : Int} (h1 : zR n) (h2 : zR c) (g1 : ¬ (0 ≤ xix X n ∧ 0 ≤ c ∧ c ≤ 11)) : pz_Cd en 9 84 [.ref (t 0), .int (zI n), .int (zI c)] (sH (tH h t u K) a (sq a) X) 1 6 (pz_thr "java/lang/IndexOutOfBoundsException" (sH (tH h t u K) a (sq a) X)) := by
  refine pz_in pzt_X6_levelAgain ?_
  obtain ⟨hj, ht, hD, hu0, hI, hK, ⟨f0, f1⟩, ⟨r0, r1⟩, ⟨q0, q1⟩, hA⟩ := id hV
  have hX := hI.1
  obtain ⟨hR, hn0, hn1, hm0, hm1⟩ := id hX
  have hp := xix_R hX n
  refine pr_aload_n dX6_levelAgain_0 rfl ?_
  refine pr_getf dX6_levelAgain_1 pzf_6_10 (gS_0 ht hD hu0) rfl ?_
  refine pr_getf dX6_levelAgain_4 pzf_6_40 (sH_0 hj) rfl ?_
  refine pr_iload_n dX6_levelAgain_7 rfl ?_
  refine zcv1i dX6_levelAgain_8 pzm_6_79 pzt_X1_indexOf (sH_1 hj) (kX1_indexOf hj hX (by omega)) (by decide) (Nat.le_of_ble_eq_true rfl) (by decide) ?_
  refine pr_istore_n dX6_levelAgain_11 (by decide) rfl ?_
  refine pr_iload_n dX6_levelAgain_12 rfl ?_
  refine zr_if_lt (tgt := 23) dX6_levelAgain_13 (by decide) (by omega) (fun c13 => ?_) (fun c13 => ?_)
  · exact pr_thr dX6_levelAgain_23 dX6_levelAgain_26 dX6_levelAgain_27 dX6_levelAgain_29 dX6_levelAgain_32 pze_6_83 pzs_183 rfl (by decide) rfl ⟨rfl, rfl⟩
  · refine pr_iload_n dX6_levelAgain_16 rfl ?_
    refine zcs1i dX6_levelAgain_17 pzm_6_159 pzt_X6_isChannel (kX6_isChannel (by omega)) (by decide) (Nat.le_of_ble_eq_true rfl) ?_
    refine zr_if_ne (tgt := 33) dX6_levelAgain_20 (by decide) (bI_R _) (fun c20 => by exfalso; have bb := bI_ne c20; omega) (fun c20 => ?_)
    have b20 := bI_0 c20
    exact pr_thr dX6_levelAgain_23 dX6_levelAgain_26 dX6_levelAgain_27 dX6_levelAgain_29 dX6_levelAgain_32 pze_6_83 pzs_183 rfl (by decide) rfl ⟨rfl, rfl⟩
set_option maxRecDepth 100000 in
set_option maxHeartbeats 4000000 in
theorem kX6_source_t (hV : cV t u a K X) {n c : Int} (h1 : zR n) (h2 : zR c) (g1 : ¬ (0 ≤ xix X n ∧ 0 ≤ c ∧ c ≤ 11)) : pz_Cd en 9 85 [.ref (t 0), .int (zI n), .int (zI c)] (sH (tH h t u K) a (sq a) X) 1 6 (pz_thr "java/lang/IndexOutOfBoundsException" (sH (tH h t u K) a (sq a) X)) := by
  refine pz_in pzt_X6_source ?_
  obtain ⟨hj, ht, hD, hu0, hI, hK, ⟨f0, f1⟩, ⟨r0, r1⟩, ⟨q0, q1⟩, hA⟩ := id hV
  have hX := hI.1
  obtain ⟨hR, hn0, hn1, hm0, hm1⟩ := id hX
  have hp := xix_R hX n
  refine pr_aload_n dX6_source_0 rfl ?_
  refine pr_getf dX6_source_1 pzf_6_10 (gS_0 ht hD hu0) rfl ?_
  refine pr_getf dX6_source_4 pzf_6_40 (sH_0 hj) rfl ?_
  refine pr_iload_n dX6_source_7 rfl ?_
  refine zcv1i dX6_source_8 pzm_6_79 pzt_X1_indexOf (sH_1 hj) (kX1_indexOf hj hX (by omega)) (by decide) (Nat.le_of_ble_eq_true rfl) (by decide) ?_
  refine pr_istore_n dX6_source_11 (by decide) rfl ?_
  refine pr_iload_n dX6_source_12 rfl ?_
  refine zr_if_lt (tgt := 23) dX6_source_13 (by decide) (by omega) (fun c13 => ?_) (fun c13 => ?_)
  · exact pr_thr dX6_source_23 dX6_source_26 dX6_source_27 dX6_source_29 dX6_source_32 pze_6_83 pzs_183 rfl (by decide) rfl ⟨rfl, rfl⟩
  · refine pr_iload_n dX6_source_16 rfl ?_
    refine zcs1i dX6_source_17 pzm_6_159 pzt_X6_isChannel (kX6_isChannel (by omega)) (by decide) (Nat.le_of_ble_eq_true rfl) ?_
    refine zr_if_ne (tgt := 33) dX6_source_20 (by decide) (bI_R _) (fun c20 => by exfalso; have bb := bI_ne c20; omega) (fun c20 => ?_)
    have b20 := bI_0 c20
    exact pr_thr dX6_source_23 dX6_source_26 dX6_source_27 dX6_source_29 dX6_source_32 pze_6_83 pzs_183 rfl (by decide) rfl ⟨rfl, rfl⟩
set_option maxRecDepth 100000 in
set_option maxHeartbeats 4000000 in
theorem kX6_sum_k (hV : cV t u a K X) {n : Int} (h1 : zR n) (g1 : 0 ≤ xix X n) : pz_Cd en 9 87 [.ref (t 0), .int (zI n)] (sH (tH h t u K) a (sq a) X) 0 0 (pz_ret (some (.int (zI (zsum (fun c => xlv X (xix X n) c) 12)))) (sH (tH h t u K) a (sq a) X)) := by
  refine pz_in pzt_X6_sum ?_
  obtain ⟨hj, ht, hD, hu0, hI, hK, ⟨f0, f1⟩, ⟨r0, r1⟩, ⟨q0, q1⟩, hA⟩ := id hV
  have hX := hI.1
  obtain ⟨hR, hn0, hn1, hm0, hm1⟩ := id hX
  have hp := xix_R hX n
  have loop : pz_WP 9 en (pz_Cd en (9 - 1)) 6 cX6_sum 5 (some .int) [] false (pz_ret (some (.int (zI (zsum (fun c => xlv X (xix X n) c) 12)))) (sH (tH h t u K) a (sq a) X)) 31 [some (.ref (t 0)), some (.int (zI n)), some (.int (zI (xix X n))), some (.int (zI (zsum (fun c => xlv X (xix X n) c) (0 : Int).toNat))), some (.int (zI 0))] [] (sH (tH h t u K) a (sq a) X) 0 0 := by
    refine zup (P := fun k => pz_WP 9 en (pz_Cd en (9 - 1)) 6 cX6_sum 5 (some .int) [] false (pz_ret (some (.int (zI (zsum (fun c => xlv X (xix X n) c) 12)))) (sH (tH h t u K) a (sq a) X)) 31 [some (.ref (t 0)), some (.int (zI n)), some (.int (zI (xix X n))), some (.int (zI (zsum (fun c => xlv X (xix X n) c) (k : Int).toNat))), some (.int (zI k))] [] (sH (tH h t u K) a (sq a) X) 0 0) (lo := 0) (hi := 12) (by decide) ?_ ?_
    · skip
      refine pr_iload dX6_sum_31 rfl ?_
      refine zr_bipush dX6_sum_33 (by decide) ?_
      refine zr_icmp_ge (tgt := 60) dX6_sum_35 (by decide) (by omega) (by omega) (fun c35 => ?_) (fun c35 => by exfalso; omega)
      refine pr_iload_n dX6_sum_60 rfl ?_
      exact pr_iret dX6_sum_61 rfl rfl (zret (by rfl))
    · intro k hk1 hk2 ih
      rw [zsum_s hk1] at ih
      refine pr_iload dX6_sum_31 rfl ?_
      refine zr_bipush dX6_sum_33 (by decide) ?_
      refine zr_icmp_ge (tgt := 60) dX6_sum_35 (by decide) (by omega) (by omega) (fun c35 => by exfalso; omega) (fun c35 => ?_)
      refine pr_iload_n dX6_sum_38 rfl ?_
      refine pr_aload_n dX6_sum_39 rfl ?_
      refine pr_getf dX6_sum_40 pzf_6_10 (gS_0 ht hD hu0) rfl ?_
      refine pr_getf dX6_sum_43 pzf_6_40 (sH_0 hj) rfl ?_
      refine pr_iload_n dX6_sum_46 rfl ?_
      refine pr_iload dX6_sum_47 rfl ?_
      refine zcv2i dX6_sum_49 pzm_6_209 pzt_X1_levelIn (sH_1 hj) (kX1_levelIn hj hX (by omega) (by omega) hk1 (by omega)) (by decide) (Nat.le_of_ble_eq_true rfl) (by decide) ?_
      refine zr_iadd dX6_sum_52 ?_
      refine pr_istore_n dX6_sum_53 (by decide) rfl ?_
      refine zr_iinc dX6_sum_54 rfl (by decide) rfl ?_
      refine pr_goto (tgt := 31) dX6_sum_57 (by decide) ?_
      exact ih
  refine pr_aload_n dX6_sum_0 rfl ?_
  refine pr_getf dX6_sum_1 pzf_6_10 (gS_0 ht hD hu0) rfl ?_
  refine pr_getf dX6_sum_4 pzf_6_40 (sH_0 hj) rfl ?_
  refine pr_iload_n dX6_sum_7 rfl ?_
  refine zcv1i dX6_sum_8 pzm_6_79 pzt_X1_indexOf (sH_1 hj) (kX1_indexOf hj hX (by omega)) (by decide) (Nat.le_of_ble_eq_true rfl) (by decide) ?_
  refine pr_istore_n dX6_sum_11 (by decide) rfl ?_
  refine pr_iload_n dX6_sum_12 rfl ?_
  refine zr_if_ge (tgt := 26) dX6_sum_13 (by decide) (by omega) (fun c13 => ?_) (fun c13 => by exfalso; omega)
  refine zr_iconst dX6_sum_26 ?_
  refine pr_istore_n dX6_sum_27 (by decide) rfl ?_
  refine zr_iconst dX6_sum_28 ?_
  refine pr_istore dX6_sum_29 (by decide) rfl ?_
  exact loop
set_option maxRecDepth 100000 in
set_option maxHeartbeats 4000000 in
theorem kX6_sum_t (hV : cV t u a K X) {n : Int} (h1 : zR n) (g1 : ¬ 0 ≤ xix X n) : pz_Cd en 9 87 [.ref (t 0), .int (zI n)] (sH (tH h t u K) a (sq a) X) 1 6 (pz_thr "java/lang/IndexOutOfBoundsException" (sH (tH h t u K) a (sq a) X)) := by
  refine pz_in pzt_X6_sum ?_
  obtain ⟨hj, ht, hD, hu0, hI, hK, ⟨f0, f1⟩, ⟨r0, r1⟩, ⟨q0, q1⟩, hA⟩ := id hV
  have hX := hI.1
  obtain ⟨hR, hn0, hn1, hm0, hm1⟩ := id hX
  have hp := xix_R hX n
  refine pr_aload_n dX6_sum_0 rfl ?_
  refine pr_getf dX6_sum_1 pzf_6_10 (gS_0 ht hD hu0) rfl ?_
  refine pr_getf dX6_sum_4 pzf_6_40 (sH_0 hj) rfl ?_
  refine pr_iload_n dX6_sum_7 rfl ?_
  refine zcv1i dX6_sum_8 pzm_6_79 pzt_X1_indexOf (sH_1 hj) (kX1_indexOf hj hX (by omega)) (by decide) (Nat.le_of_ble_eq_true rfl) (by decide) ?_
  refine pr_istore_n dX6_sum_11 (by decide) rfl ?_
  refine pr_iload_n dX6_sum_12 rfl ?_
  refine zr_if_ge (tgt := 26) dX6_sum_13 (by decide) (by omega) (fun c13 => by exfalso; omega) (fun c13 => ?_)
  exact pr_thr dX6_sum_16 dX6_sum_19 dX6_sum_20 dX6_sum_22 dX6_sum_25 pze_6_83 pzs_85 rfl (by decide) rfl ⟨rfl, rfl⟩
set_option maxRecDepth 100000 in
set_option maxHeartbeats 4000000 in
theorem kX6_apart_k (hV : cV t u a K X) {n o : Int} (h1 : zR n) (h2 : zR o) (g1 : 0 ≤ xix X n) (g2 : 0 ≤ xix X o) : pz_Cd en 9 88 [.ref (t 0), .int (zI n), .int (zI o)] (sH (tH h t u K) a (sq a) X) 0 0 (pz_ret (some (.int (zI (zsum (fun c => bI (¬ xlv X (xix X n) c = xlv X (xix X o) c)) 12)))) (sH (tH h t u K) a (sq a) X)) := by
  refine pz_in pzt_X6_apart ?_
  obtain ⟨hj, ht, hD, hu0, hI, hK, ⟨f0, f1⟩, ⟨r0, r1⟩, ⟨q0, q1⟩, hA⟩ := id hV
  have hX := hI.1
  obtain ⟨hR, hn0, hn1, hm0, hm1⟩ := id hX
  have hp := xix_R hX n
  have hp2 := xix_R hX o
  have loop : pz_WP 9 en (pz_Cd en (9 - 1)) 6 cX6_apart 7 (some .int) [] false (pz_ret (some (.int (zI (zsum (fun c => bI (¬ xlv X (xix X n) c = xlv X (xix X o) c)) 12)))) (sH (tH h t u K) a (sq a) X)) 50 [some (.ref (t 0)), some (.int (zI n)), some (.int (zI o)), some (.int (zI (xix X n))), some (.int (zI (xix X o))), some (.int (zI (zsum (fun c => bI (¬ xlv X (xix X n) c = xlv X (xix X o) c)) (0 : Int).toNat))), some (.int (zI 0))] [] (sH (tH h t u K) a (sq a) X) 0 0 := by
    refine zup (P := fun k => pz_WP 9 en (pz_Cd en (9 - 1)) 6 cX6_apart 7 (some .int) [] false (pz_ret (some (.int (zI (zsum (fun c => bI (¬ xlv X (xix X n) c = xlv X (xix X o) c)) 12)))) (sH (tH h t u K) a (sq a) X)) 50 [some (.ref (t 0)), some (.int (zI n)), some (.int (zI o)), some (.int (zI (xix X n))), some (.int (zI (xix X o))), some (.int (zI (zsum (fun c => bI (¬ xlv X (xix X n) c = xlv X (xix X o) c)) (k : Int).toNat))), some (.int (zI k))] [] (sH (tH h t u K) a (sq a) X) 0 0) (lo := 0) (hi := 12) (by decide) ?_ ?_
    · skip
      refine pr_iload dX6_apart_50 rfl ?_
      refine zr_bipush dX6_apart_52 (by decide) ?_
      refine zr_icmp_ge (tgt := 96) dX6_apart_54 (by decide) (by omega) (by omega) (fun c54 => ?_) (fun c54 => by exfalso; omega)
      refine pr_iload dX6_apart_96 rfl ?_
      exact pr_iret dX6_apart_98 rfl rfl (zret (by rfl))
    · intro k hk1 hk2 ih
      rw [zsum_s hk1] at ih
      refine pr_iload dX6_apart_50 rfl ?_
      refine zr_bipush dX6_apart_52 (by decide) ?_
      refine zr_icmp_ge (tgt := 96) dX6_apart_54 (by decide) (by omega) (by omega) (fun c54 => by exfalso; omega) (fun c54 => ?_)
      refine pr_aload_n dX6_apart_57 rfl ?_
      refine pr_getf dX6_apart_58 pzf_6_10 (gS_0 ht hD hu0) rfl ?_
      refine pr_getf dX6_apart_61 pzf_6_40 (sH_0 hj) rfl ?_
      refine pr_iload_n dX6_apart_64 rfl ?_
      refine pr_iload dX6_apart_65 rfl ?_
      refine zcv2i dX6_apart_67 pzm_6_209 pzt_X1_levelIn (sH_1 hj) (kX1_levelIn hj hX (by omega) (by omega) hk1 (by omega)) (by decide) (Nat.le_of_ble_eq_true rfl) (by decide) ?_
      refine pr_aload_n dX6_apart_70 rfl ?_
      refine pr_getf dX6_apart_71 pzf_6_10 (gS_0 ht hD hu0) rfl ?_
      refine pr_getf dX6_apart_74 pzf_6_40 (sH_0 hj) rfl ?_
      refine pr_iload dX6_apart_77 rfl ?_
      refine pr_iload dX6_apart_79 rfl ?_
      refine zcv2i dX6_apart_81 pzm_6_209 pzt_X1_levelIn (sH_1 hj) (kX1_levelIn hj hX (by omega) (by omega) hk1 (by omega)) (by decide) (Nat.le_of_ble_eq_true rfl) (by decide) ?_
      refine zr_icmp_eq (tgt := 90) dX6_apart_84 (by decide) (xlv_R hR _ _) (xlv_R hR _ _) (fun c84 => ?_) (fun c84 => ?_)
      · rw [show bI (¬ xlv X (xix X n) k = xlv X (xix X o) k) = 0 from bI_f (fun z => z c84), Int.add_zero] at ih
        refine zr_iinc dX6_apart_90 rfl (by decide) rfl ?_
        refine pr_goto (tgt := 50) dX6_apart_93 (by decide) ?_
        exact ih
      · rw [show bI (¬ xlv X (xix X n) k = xlv X (xix X o) k) = 1 from bI_t c84] at ih
        refine zr_iinc dX6_apart_87 rfl (by decide) rfl ?_
        refine zr_iinc dX6_apart_90 rfl (by decide) rfl ?_
        refine pr_goto (tgt := 50) dX6_apart_93 (by decide) ?_
        exact ih
  refine pr_aload_n dX6_apart_0 rfl ?_
  refine pr_getf dX6_apart_1 pzf_6_10 (gS_0 ht hD hu0) rfl ?_
  refine pr_getf dX6_apart_4 pzf_6_40 (sH_0 hj) rfl ?_
  refine pr_iload_n dX6_apart_7 rfl ?_
  refine zcv1i dX6_apart_8 pzm_6_79 pzt_X1_indexOf (sH_1 hj) (kX1_indexOf hj hX (by omega)) (by decide) (Nat.le_of_ble_eq_true rfl) (by decide) ?_
  refine pr_istore_n dX6_apart_11 (by decide) rfl ?_
  refine pr_aload_n dX6_apart_12 rfl ?_
  refine pr_getf dX6_apart_13 pzf_6_10 (gS_0 ht hD hu0) rfl ?_
  refine pr_getf dX6_apart_16 pzf_6_40 (sH_0 hj) rfl ?_
  refine pr_iload_n dX6_apart_19 rfl ?_
  refine zcv1i dX6_apart_20 pzm_6_79 pzt_X1_indexOf (sH_1 hj) (kX1_indexOf hj hX (by omega)) (by decide) (Nat.le_of_ble_eq_true rfl) (by decide) ?_
  refine pr_istore dX6_apart_23 (by decide) rfl ?_
  refine pr_iload_n dX6_apart_25 rfl ?_
  refine zr_if_lt (tgt := 34) dX6_apart_26 (by decide) (by omega) (fun c26 => by exfalso; omega) (fun c26 => ?_)
  refine pr_iload dX6_apart_29 rfl ?_
  refine zr_if_ge (tgt := 44) dX6_apart_31 (by decide) (by omega) (fun c31 => ?_) (fun c31 => by exfalso; omega)
  refine zr_iconst dX6_apart_44 ?_
  refine pr_istore dX6_apart_45 (by decide) rfl ?_
  refine zr_iconst dX6_apart_47 ?_
  refine pr_istore dX6_apart_48 (by decide) rfl ?_
  exact loop
set_option maxRecDepth 100000 in
set_option maxHeartbeats 4000000 in
theorem kX6_apart_t (hV : cV t u a K X) {n o : Int} (h1 : zR n) (h2 : zR o) (g1 : ¬ (0 ≤ xix X n ∧ 0 ≤ xix X o)) : pz_Cd en 9 88 [.ref (t 0), .int (zI n), .int (zI o)] (sH (tH h t u K) a (sq a) X) 1 6 (pz_thr "java/lang/IndexOutOfBoundsException" (sH (tH h t u K) a (sq a) X)) := by
  refine pz_in pzt_X6_apart ?_
  obtain ⟨hj, ht, hD, hu0, hI, hK, ⟨f0, f1⟩, ⟨r0, r1⟩, ⟨q0, q1⟩, hA⟩ := id hV
  have hX := hI.1
  obtain ⟨hR, hn0, hn1, hm0, hm1⟩ := id hX
  have hp := xix_R hX n
  have hp2 := xix_R hX o
  refine pr_aload_n dX6_apart_0 rfl ?_
  refine pr_getf dX6_apart_1 pzf_6_10 (gS_0 ht hD hu0) rfl ?_
  refine pr_getf dX6_apart_4 pzf_6_40 (sH_0 hj) rfl ?_
  refine pr_iload_n dX6_apart_7 rfl ?_
  refine zcv1i dX6_apart_8 pzm_6_79 pzt_X1_indexOf (sH_1 hj) (kX1_indexOf hj hX (by omega)) (by decide) (Nat.le_of_ble_eq_true rfl) (by decide) ?_
  refine pr_istore_n dX6_apart_11 (by decide) rfl ?_
  refine pr_aload_n dX6_apart_12 rfl ?_
  refine pr_getf dX6_apart_13 pzf_6_10 (gS_0 ht hD hu0) rfl ?_
  refine pr_getf dX6_apart_16 pzf_6_40 (sH_0 hj) rfl ?_
  refine pr_iload_n dX6_apart_19 rfl ?_
  refine zcv1i dX6_apart_20 pzm_6_79 pzt_X1_indexOf (sH_1 hj) (kX1_indexOf hj hX (by omega)) (by decide) (Nat.le_of_ble_eq_true rfl) (by decide) ?_
  refine pr_istore dX6_apart_23 (by decide) rfl ?_
  refine pr_iload_n dX6_apart_25 rfl ?_
  refine zr_if_lt (tgt := 34) dX6_apart_26 (by decide) (by omega) (fun c26 => ?_) (fun c26 => ?_)
  · exact pr_thr dX6_apart_34 dX6_apart_37 dX6_apart_38 dX6_apart_40 dX6_apart_43 pze_6_83 pzs_219 rfl (by decide) rfl ⟨rfl, rfl⟩
  · refine pr_iload dX6_apart_29 rfl ?_
    refine zr_if_ge (tgt := 44) dX6_apart_31 (by decide) (by omega) (fun c31 => by exfalso; omega) (fun c31 => ?_)
    exact pr_thr dX6_apart_34 dX6_apart_37 dX6_apart_38 dX6_apart_40 dX6_apart_43 pze_6_83 pzs_219 rfl (by decide) rfl ⟨rfl, rfl⟩
set_option maxRecDepth 100000 in
set_option maxHeartbeats 4000000 in
theorem kX6_reason_k (hV : cV t u a K X) (g1 : ¬ K 0 5 = 0) : pz_Cd en 9 89 [.ref (t 0)] (sH (tH h t u K) a (sq a) X) 0 0 (pz_ret (some (.int (zI (K 0 5)))) (sH (tH h t u K) a (sq a) X)) := by
  refine pz_in pzt_X6_reason ?_
  obtain ⟨hj, ht, hD, hu0, hI, hK, ⟨f0, f1⟩, ⟨r0, r1⟩, ⟨q0, q1⟩, hA⟩ := id hV
  have hX := hI.1
  obtain ⟨hR, hn0, hn1, hm0, hm1⟩ := id hX
  refine pr_aload_n dX6_reason_0 rfl ?_
  refine pr_getf dX6_reason_1 pzf_6_33 (gS_0 ht hD hu0) rfl ?_
  refine zr_if_ne (tgt := 17) dX6_reason_4 (by decide) (hK _ _) (fun c4 => ?_) (fun c4 => by exfalso; omega)
  refine pr_aload_n dX6_reason_17 rfl ?_
  refine pr_getf dX6_reason_18 pzf_6_33 (gS_0 ht hD hu0) rfl ?_
  exact pr_iret dX6_reason_21 rfl rfl (zret (by rfl))
set_option maxRecDepth 100000 in
set_option maxHeartbeats 4000000 in
theorem kX6_reason_t (hV : cV t u a K X) (g1 : K 0 5 = 0) : pz_Cd en 9 89 [.ref (t 0)] (sH (tH h t u K) a (sq a) X) 1 6 (pz_thr "java/util/NoSuchElementException" (sH (tH h t u K) a (sq a) X)) := by
  refine pz_in pzt_X6_reason ?_
  obtain ⟨hj, ht, hD, hu0, hI, hK, ⟨f0, f1⟩, ⟨r0, r1⟩, ⟨q0, q1⟩, hA⟩ := id hV
  have hX := hI.1
  obtain ⟨hR, hn0, hn1, hm0, hm1⟩ := id hX
  refine pr_aload_n dX6_reason_0 rfl ?_
  refine pr_getf dX6_reason_1 pzf_6_33 (gS_0 ht hD hu0) rfl ?_
  refine zr_if_ne (tgt := 17) dX6_reason_4 (by decide) (hK _ _) (fun c4 => by exfalso; omega) (fun c4 => ?_)
  exact pr_thr dX6_reason_7 dX6_reason_10 dX6_reason_11 dX6_reason_13 dX6_reason_16 pze_6_103 pzs_221 rfl (by decide) rfl ⟨rfl, rfl⟩
set_option maxRecDepth 100000 in
set_option maxHeartbeats 4000000 in
theorem kX6_errorPosition_k (hV : cV t u a K X) (g1 : ¬ K 0 6 = -1) : pz_Cd en 9 103 [.ref (t 0)] (sH (tH h t u K) a (sq a) X) 0 0 (pz_ret (some (.int (zI (K 0 6)))) (sH (tH h t u K) a (sq a) X)) := by
  refine pz_in pzt_X6_errorPosition ?_
  obtain ⟨hj, ht, hD, hu0, hI, hK, ⟨f0, f1⟩, ⟨r0, r1⟩, ⟨q0, q1⟩, hA⟩ := id hV
  have hX := hI.1
  obtain ⟨hR, hn0, hn1, hm0, hm1⟩ := id hX
  refine pr_aload_n dX6_errorPosition_0 rfl ?_
  refine pr_getf dX6_errorPosition_1 pzf_6_37 (gS_0 ht hD hu0) rfl ?_
  refine zr_iconst dX6_errorPosition_4 ?_
  refine zr_icmp_ne (tgt := 19) dX6_errorPosition_5 (by decide) (hK _ _) (by decide) (fun c5 => ?_) (fun c5 => by exfalso; omega)
  refine pr_aload_n dX6_errorPosition_19 rfl ?_
  refine pr_getf dX6_errorPosition_20 pzf_6_37 (gS_0 ht hD hu0) rfl ?_
  exact pr_iret dX6_errorPosition_23 rfl rfl (zret (by rfl))
set_option maxRecDepth 100000 in
set_option maxHeartbeats 4000000 in
theorem kX6_errorPosition_t (hV : cV t u a K X) (g1 : K 0 6 = -1) : pz_Cd en 9 103 [.ref (t 0)] (sH (tH h t u K) a (sq a) X) 1 6 (pz_thr "java/util/NoSuchElementException" (sH (tH h t u K) a (sq a) X)) := by
  refine pz_in pzt_X6_errorPosition ?_
  obtain ⟨hj, ht, hD, hu0, hI, hK, ⟨f0, f1⟩, ⟨r0, r1⟩, ⟨q0, q1⟩, hA⟩ := id hV
  have hX := hI.1
  obtain ⟨hR, hn0, hn1, hm0, hm1⟩ := id hX
  refine pr_aload_n dX6_errorPosition_0 rfl ?_
  refine pr_getf dX6_errorPosition_1 pzf_6_37 (gS_0 ht hD hu0) rfl ?_
  refine zr_iconst dX6_errorPosition_4 ?_
  refine zr_icmp_ne (tgt := 19) dX6_errorPosition_5 (by decide) (hK _ _) (by decide) (fun c5 => by exfalso; omega) (fun c5 => ?_)
  exact pr_thrw dX6_errorPosition_8 dX6_errorPosition_11 dX6_errorPosition_12 dX6_errorPosition_15 dX6_errorPosition_18 pze_6_103 pzs_348 rfl (by decide) rfl ⟨rfl, rfl⟩
set_option maxRecDepth 100000 in
set_option maxHeartbeats 4000000 in
theorem kX6_now_k (hV : cV t u a K X) {c : Int} (h1 : zR c) (g1 : 0 ≤ c ∧ c ≤ 11) : pz_Cd en 9 94 [.ref (t 0), .int (zI c)] (sH (tH h t u K) a (sq a) X) 0 0 (pz_ret (some (.int (zI (xnow X c)))) (sH (tH h t u K) a (sq a) X)) := by
  refine pz_in pzt_X6_now ?_
  obtain ⟨hj, ht, hD, hu0, hI, hK, ⟨f0, f1⟩, ⟨r0, r1⟩, ⟨q0, q1⟩, hA⟩ := id hV
  have hX := hI.1
  obtain ⟨hR, hn0, hn1, hm0, hm1⟩ := id hX
  refine pr_iload_n dX6_now_0 rfl ?_
  refine zcs1i dX6_now_1 pzm_6_159 pzt_X6_isChannel (kX6_isChannel (by omega)) (by decide) (Nat.le_of_ble_eq_true rfl) ?_
  refine zr_if_ne (tgt := 17) dX6_now_4 (by decide) (bI_R _) (fun c4 => ?_) (fun c4 => by exfalso; have bb := bI_0 c4; omega)
  have b4 := bI_ne c4
  refine pr_aload_n dX6_now_17 rfl ?_
  refine pr_getf dX6_now_18 pzf_6_10 (gS_0 ht hD hu0) rfl ?_
  refine pr_getf dX6_now_21 pzf_6_223 (sH_0 hj) rfl ?_
  refine pr_iload_n dX6_now_24 rfl ?_
  refine zcv1i dX6_now_25 pzm_6_252 pzt_X4_presentLevel (sH_67 hj) (kX4_presentLevel hj hX g1.1 g1.2 (xI_ff hI g1.1 g1.2)) (by decide) (Nat.le_of_ble_eq_true rfl) (by decide) ?_
  exact pr_iret dX6_now_28 rfl rfl (zret (by rfl))
set_option maxRecDepth 100000 in
set_option maxHeartbeats 4000000 in
theorem kX6_target_k (hV : cV t u a K X) {c : Int} (h1 : zR c) (g1 : 0 ≤ c ∧ c ≤ 11) : pz_Cd en 9 95 [.ref (t 0), .int (zI c)] (sH (tH h t u K) a (sq a) X) 0 0 (pz_ret (some (.int (zI (X 69 c)))) (sH (tH h t u K) a (sq a) X)) := by
  refine pz_in pzt_X6_target ?_
  obtain ⟨hj, ht, hD, hu0, hI, hK, ⟨f0, f1⟩, ⟨r0, r1⟩, ⟨q0, q1⟩, hA⟩ := id hV
  have hX := hI.1
  obtain ⟨hR, hn0, hn1, hm0, hm1⟩ := id hX
  refine pr_iload_n dX6_target_0 rfl ?_
  refine zcs1i dX6_target_1 pzm_6_159 pzt_X6_isChannel (kX6_isChannel (by omega)) (by decide) (Nat.le_of_ble_eq_true rfl) ?_
  refine zr_if_ne (tgt := 17) dX6_target_4 (by decide) (bI_R _) (fun c4 => ?_) (fun c4 => by exfalso; have bb := bI_0 c4; omega)
  have b4 := bI_ne c4
  refine pr_aload_n dX6_target_17 rfl ?_
  refine pr_getf dX6_target_18 pzf_6_10 (gS_0 ht hD hu0) rfl ?_
  refine pr_getf dX6_target_21 pzf_6_223 (sH_0 hj) rfl ?_
  refine pr_getf dX6_target_24 pzf_6_255 (sH_67 hj) rfl ?_
  refine pr_iload_n dX6_target_27 rfl ?_
  refine zr_iald dX6_target_28 (sH_69 hj) (by omega) (by decide) ?_
  exact pr_iret dX6_target_29 rfl rfl (zret (by rfl))
set_option maxRecDepth 100000 in
set_option maxHeartbeats 4000000 in
theorem kX6_now_t (hV : cV t u a K X) {c : Int} (h1 : zR c) (g1 : ¬ (0 ≤ c ∧ c ≤ 11)) : pz_Cd en 9 94 [.ref (t 0), .int (zI c)] (sH (tH h t u K) a (sq a) X) 1 6 (pz_thr "java/lang/IndexOutOfBoundsException" (sH (tH h t u K) a (sq a) X)) := by
  refine pz_in pzt_X6_now ?_
  obtain ⟨hj, ht, hD, hu0, hI, hK, ⟨f0, f1⟩, ⟨r0, r1⟩, ⟨q0, q1⟩, hA⟩ := id hV
  have hX := hI.1
  obtain ⟨hR, hn0, hn1, hm0, hm1⟩ := id hX
  refine pr_iload_n dX6_now_0 rfl ?_
  refine zcs1i dX6_now_1 pzm_6_159 pzt_X6_isChannel (kX6_isChannel (by omega)) (by decide) (Nat.le_of_ble_eq_true rfl) ?_
  refine zr_if_ne (tgt := 17) dX6_now_4 (by decide) (bI_R _) (fun c4 => by exfalso; have bb := bI_ne c4; omega) (fun c4 => ?_)
  have b4 := bI_0 c4
  exact pr_thr dX6_now_7 dX6_now_10 dX6_now_11 dX6_now_13 dX6_now_16 pze_6_83 pzs_162 rfl (by decide) rfl ⟨rfl, rfl⟩
set_option maxRecDepth 100000 in
set_option maxHeartbeats 4000000 in
theorem kX6_target_t (hV : cV t u a K X) {c : Int} (h1 : zR c) (g1 : ¬ (0 ≤ c ∧ c ≤ 11)) : pz_Cd en 9 95 [.ref (t 0), .int (zI c)] (sH (tH h t u K) a (sq a) X) 1 6 (pz_thr "java/lang/IndexOutOfBoundsException" (sH (tH h t u K) a (sq a) X)) := by
  refine pz_in pzt_X6_target ?_
  obtain ⟨hj, ht, hD, hu0, hI, hK, ⟨f0, f1⟩, ⟨r0, r1⟩, ⟨q0, q1⟩, hA⟩ := id hV
  have hX := hI.1
  obtain ⟨hR, hn0, hn1, hm0, hm1⟩ := id hX
  refine pr_iload_n dX6_target_0 rfl ?_
  refine zcs1i dX6_target_1 pzm_6_159 pzt_X6_isChannel (kX6_isChannel (by omega)) (by decide) (Nat.le_of_ble_eq_true rfl) ?_
  refine zr_if_ne (tgt := 17) dX6_target_4 (by decide) (bI_R _) (fun c4 => by exfalso; have bb := bI_ne c4; omega) (fun c4 => ?_)
  have b4 := bI_0 c4
  exact pr_thr dX6_target_7 dX6_target_10 dX6_target_11 dX6_target_13 dX6_target_16 pze_6_83 pzs_162 rfl (by decide) rfl ⟨rfl, rfl⟩
set_option maxRecDepth 100000 in
set_option maxHeartbeats 4000000 in
theorem kX6_playing_0 (hV : cV t u a K X)  : pz_Cd en 9 96 [.ref (t 0), .int (zI 0)] (sH (tH h t u K) a (sq a) X) 0 0 (pz_ret (some (.int (zI (X 67 5)))) (sH (tH h t u K) a (sq a) X)) := by
  refine pz_in pzt_X6_playing ?_
  obtain ⟨hj, ht, hD, hu0, hI, hK, ⟨f0, f1⟩, ⟨r0, r1⟩, ⟨q0, q1⟩, hA⟩ := id hV
  have hX := hI.1
  obtain ⟨hR, hn0, hn1, hm0, hm1⟩ := id hX
  refine pr_iload_n dX6_playing_0 rfl ?_
  refine pr_tsin (off := 35) (tgt := 36) dX6_playing_1 (by decide) (by decide) (by decide) (by decide) ?_
  refine pr_aload_n dX6_playing_36 rfl ?_
  refine pr_getf dX6_playing_37 pzf_6_10 (gS_0 ht hD hu0) rfl ?_
  refine pr_getf dX6_playing_40 pzf_6_223 (sH_0 hj) rfl ?_
  refine pr_getf dX6_playing_43 pzf_6_258 (sH_67 hj) rfl ?_
  exact pr_iret dX6_playing_46 rfl rfl (zret (by rfl))
set_option maxRecDepth 100000 in
set_option maxHeartbeats 4000000 in
theorem kX6_playing_1 (hV : cV t u a K X)  : pz_Cd en 9 96 [.ref (t 0), .int (zI 1)] (sH (tH h t u K) a (sq a) X) 0 0 (pz_ret (some (.int (zI (xsi X)))) (sH (tH h t u K) a (sq a) X)) := by
  refine pz_in pzt_X6_playing ?_
  obtain ⟨hj, ht, hD, hu0, hI, hK, ⟨f0, f1⟩, ⟨r0, r1⟩, ⟨q0, q1⟩, hA⟩ := id hV
  have hX := hI.1
  obtain ⟨hR, hn0, hn1, hm0, hm1⟩ := id hX
  refine pr_iload_n dX6_playing_0 rfl ?_
  refine pr_tsin (off := 46) (tgt := 47) dX6_playing_1 (by decide) (by decide) (by decide) (by decide) ?_
  refine pr_aload_n dX6_playing_47 rfl ?_
  refine pr_getf dX6_playing_48 pzf_6_10 (gS_0 ht hD hu0) rfl ?_
  refine pr_getf dX6_playing_51 pzf_6_223 (sH_0 hj) rfl ?_
  refine zcv0i dX6_playing_54 pzm_6_261 pzt_X4_tenthsSinceLast (sH_67 hj) (kX4_tenthsSinceLast hj hX) (by decide) (Nat.le_of_ble_eq_true rfl) (by decide) ?_
  exact pr_iret dX6_playing_57 rfl rfl (zret (by rfl))
set_option maxRecDepth 100000 in
set_option maxHeartbeats 4000000 in
theorem kX6_playing_2 (hV : cV t u a K X)  : pz_Cd en 9 96 [.ref (t 0), .int (zI 2)] (sH (tH h t u K) a (sq a) X) 0 0 (pz_ret (some (.int (zI (xnx X)))) (sH (tH h t u K) a (sq a) X)) := by
  refine pz_in pzt_X6_playing ?_
  obtain ⟨hj, ht, hD, hu0, hI, hK, ⟨f0, f1⟩, ⟨r0, r1⟩, ⟨q0, q1⟩, hA⟩ := id hV
  have hX := hI.1
  obtain ⟨hR, hn0, hn1, hm0, hm1⟩ := id hX
  refine pr_iload_n dX6_playing_0 rfl ?_
  refine pr_tsin (off := 57) (tgt := 58) dX6_playing_1 (by decide) (by decide) (by decide) (by decide) ?_
  refine pr_aload_n dX6_playing_58 rfl ?_
  refine pr_getf dX6_playing_59 pzf_6_10 (gS_0 ht hD hu0) rfl ?_
  refine pr_getf dX6_playing_62 pzf_6_223 (sH_0 hj) rfl ?_
  refine pr_aload_n dX6_playing_65 rfl ?_
  refine pr_getf dX6_playing_66 pzf_6_10 (gS_0 ht hD hu0) rfl ?_
  refine pr_getf dX6_playing_69 pzf_6_40 (sH_0 hj) rfl ?_
  refine zcv1i dX6_playing_72 pzm_6_264 pzt_X4_nextNumber (sH_67 hj) (kX4_nextNumber hj hX) (by decide) (Nat.le_of_ble_eq_true rfl) (by decide) ?_
  exact pr_iret dX6_playing_75 rfl rfl (zret (by rfl))
set_option maxRecDepth 100000 in
set_option maxHeartbeats 4000000 in
theorem kX6_playing_4 (hV : cV t u a K X)  : pz_Cd en 9 96 [.ref (t 0), .int (zI 4)] (sH (tH h t u K) a (sq a) X) 0 0 (pz_ret (some (.int (zI (xtf X)))) (sH (tH h t u K) a (sq a) X)) := by
  refine pz_in pzt_X6_playing ?_
  obtain ⟨hj, ht, hD, hu0, hI, hK, ⟨f0, f1⟩, ⟨r0, r1⟩, ⟨q0, q1⟩, hA⟩ := id hV
  have hX := hI.1
  obtain ⟨hR, hn0, hn1, hm0, hm1⟩ := id hX
  refine pr_iload_n dX6_playing_0 rfl ?_
  refine pr_tsin (off := 86) (tgt := 87) dX6_playing_1 (by decide) (by decide) (by decide) (by decide) ?_
  refine pr_aload_n dX6_playing_87 rfl ?_
  refine pr_getf dX6_playing_88 pzf_6_10 (gS_0 ht hD hu0) rfl ?_
  refine pr_getf dX6_playing_91 pzf_6_223 (sH_0 hj) rfl ?_
  refine pr_aload_n dX6_playing_94 rfl ?_
  refine pr_getf dX6_playing_95 pzf_6_10 (gS_0 ht hD hu0) rfl ?_
  refine pr_getf dX6_playing_98 pzf_6_40 (sH_0 hj) rfl ?_
  refine zcv1i dX6_playing_101 pzm_6_270 pzt_X4_tenthsToFollow (sH_67 hj) (kX4_tenthsToFollow hj hX (xsi_R hI) (fun k k1 k2 => by have := (hI.2.1 k k1 k2).2.1; omega)) (by decide) (Nat.le_of_ble_eq_true rfl) (by decide) ?_
  exact pr_iret dX6_playing_104 rfl rfl (zret (by rfl))
set_option maxRecDepth 100000 in
set_option maxHeartbeats 4000000 in
theorem kX6_playing_3 (hV : cV t u a K X)  : pz_Cd en 9 96 [.ref (t 0), .int (zI 3)] (sH (tH h t u K) a (sq a) X) 0 0 (pz_ret (some (.int (rmk (fun c => decide (xfd X c)) 12))) (sH (tH h t u K) a (sq a) X)) := by
  refine pz_in pzt_X6_playing ?_
  obtain ⟨hj, ht, hD, hu0, hI, hK, ⟨f0, f1⟩, ⟨r0, r1⟩, ⟨q0, q1⟩, hA⟩ := id hV
  have hX := hI.1
  obtain ⟨hR, hn0, hn1, hm0, hm1⟩ := id hX
  refine pr_iload_n dX6_playing_0 rfl ?_
  refine pr_tsin (off := 75) (tgt := 76) dX6_playing_1 (by decide) (by decide) (by decide) (by decide) ?_
  refine pr_aload_n dX6_playing_76 rfl ?_
  refine pr_getf dX6_playing_77 pzf_6_10 (gS_0 ht hD hu0) rfl ?_
  refine pr_getf dX6_playing_80 pzf_6_223 (sH_0 hj) rfl ?_
  refine zcv0 dX6_playing_83 pzm_6_267 pzt_X4_fadingSet (sH_67 hj) (kX4_fadingSet hj hX (fun c c1 c2 => xI_ff hI c1 c2)) (by decide) (Nat.le_of_ble_eq_true rfl) (by decide) ?_
  exact pr_iret dX6_playing_86 rfl rfl (⟨rfl, rfl⟩)
set_option maxRecDepth 100000 in
set_option maxHeartbeats 4000000 in
theorem kX6_playing_t (hV : cV t u a K X) {q : Int} (h1 : zR q) (g1 : ¬ (0 ≤ q ∧ q ≤ 4)) : pz_Cd en 9 96 [.ref (t 0), .int (zI q)] (sH (tH h t u K) a (sq a) X) 1 6 (pz_thr "java/lang/IllegalArgumentException" (sH (tH h t u K) a (sq a) X)) := by
  refine pz_in pzt_X6_playing ?_
  obtain ⟨hj, ht, hD, hu0, hI, hK, ⟨f0, f1⟩, ⟨r0, r1⟩, ⟨q0, q1⟩, hA⟩ := id hV
  have hX := hI.1
  obtain ⟨hR, hn0, hn1, hm0, hm1⟩ := id hX
  refine pr_iload_n dX6_playing_0 rfl ?_
  refine pr_tsout (tgt := 105) dX6_playing_1 (by rw [zI_toInt (by omega)]; omega) (by decide) ?_
  exact pr_thrw dX6_playing_105 dX6_playing_108 dX6_playing_109 dX6_playing_112 dX6_playing_115 pze_6_59 pzs_273 rfl (by decide) rfl ⟨rfl, rfl⟩
set_option maxRecDepth 100000 in
set_option maxHeartbeats 4000000 in
theorem kX6_chain_k (hV : cV t u a K X) {n : Int} (h1 : zR n) (g1 : 0 ≤ xix X n) : pz_Cd en 9 98 [.ref (t 0), .int (zI n)] (sH (tH h t u K) a (sq a) X) 0 0 (pz_ret (some (.int (zI (xchF X (X 1 1 - 1 - xix X n).toNat (xix X n))))) (sH (tH h t u K) a (sq a) X)) := by
  refine pz_in pzt_X6_chain ?_
  obtain ⟨hj, ht, hD, hu0, hI, hK, ⟨f0, f1⟩, ⟨r0, r1⟩, ⟨q0, q1⟩, hA⟩ := id hV
  have hX := hI.1
  obtain ⟨hR, hn0, hn1, hm0, hm1⟩ := id hX
  have hp := xix_R hX n
  refine pr_aload_n dX6_chain_0 rfl ?_
  refine pr_getf dX6_chain_1 pzf_6_10 (gS_0 ht hD hu0) rfl ?_
  refine pr_getf dX6_chain_4 pzf_6_40 (sH_0 hj) rfl ?_
  refine pr_iload_n dX6_chain_7 rfl ?_
  refine zcv1i dX6_chain_8 pzm_6_79 pzt_X1_indexOf (sH_1 hj) (kX1_indexOf hj hX (by omega)) (by decide) (Nat.le_of_ble_eq_true rfl) (by decide) ?_
  refine pr_istore_n dX6_chain_11 (by decide) rfl ?_
  refine pr_iload_n dX6_chain_12 rfl ?_
  refine zr_if_ge (tgt := 26) dX6_chain_13 (by decide) (by omega) (fun c13 => ?_) (fun c13 => by exfalso; omega)
  refine pr_aload_n dX6_chain_26 rfl ?_
  refine pr_getf dX6_chain_27 pzf_6_10 (gS_0 ht hD hu0) rfl ?_
  refine pr_getf dX6_chain_30 pzf_6_40 (sH_0 hj) rfl ?_
  refine pr_iload_n dX6_chain_33 rfl ?_
  refine zcv1i dX6_chain_34 pzm_6_275 pzt_X1_chainFrom (sH_1 hj) (kX1_chainFrom hj hI g1 (by omega)) (by decide) (Nat.le_of_ble_eq_true rfl) (by decide) ?_
  exact pr_iret dX6_chain_37 rfl rfl (zret (by rfl))
set_option maxRecDepth 100000 in
set_option maxHeartbeats 4000000 in
theorem kX6_chain_t (hV : cV t u a K X) {n : Int} (h1 : zR n) (g1 : ¬ 0 ≤ xix X n) : pz_Cd en 9 98 [.ref (t 0), .int (zI n)] (sH (tH h t u K) a (sq a) X) 1 6 (pz_thr "java/lang/IndexOutOfBoundsException" (sH (tH h t u K) a (sq a) X)) := by
  refine pz_in pzt_X6_chain ?_
  obtain ⟨hj, ht, hD, hu0, hI, hK, ⟨f0, f1⟩, ⟨r0, r1⟩, ⟨q0, q1⟩, hA⟩ := id hV
  have hX := hI.1
  obtain ⟨hR, hn0, hn1, hm0, hm1⟩ := id hX
  have hp := xix_R hX n
  refine pr_aload_n dX6_chain_0 rfl ?_
  refine pr_getf dX6_chain_1 pzf_6_10 (gS_0 ht hD hu0) rfl ?_
  refine pr_getf dX6_chain_4 pzf_6_40 (sH_0 hj) rfl ?_
  refine pr_iload_n dX6_chain_7 rfl ?_
  refine zcv1i dX6_chain_8 pzm_6_79 pzt_X1_indexOf (sH_1 hj) (kX1_indexOf hj hX (by omega)) (by decide) (Nat.le_of_ble_eq_true rfl) (by decide) ?_
  refine pr_istore_n dX6_chain_11 (by decide) rfl ?_
  refine pr_iload_n dX6_chain_12 rfl ?_
  refine zr_if_ge (tgt := 26) dX6_chain_13 (by decide) (by omega) (fun c13 => by exfalso; omega) (fun c13 => ?_)
  exact pr_thr dX6_chain_16 dX6_chain_19 dX6_chain_20 dX6_chain_22 dX6_chain_25 pze_6_83 pzs_85 rfl (by decide) rfl ⟨rfl, rfl⟩
set_option maxRecDepth 100000 in
set_option maxHeartbeats 4000000 in
theorem kX6_account_0 (hV : cV t u a K X)  : pz_Cd en 9 99 [.ref (t 0), .int (zI 0)] (sH (tH h t u K) a (sq a) X) 0 0 (pz_ret (some (.int (zI (X 1 1)))) (sH (tH h t u K) a (sq a) X)) := by
  refine pz_in pzt_X6_account ?_
  obtain ⟨hj, ht, hD, hu0, hI, hK, ⟨f0, f1⟩, ⟨r0, r1⟩, ⟨q0, q1⟩, hA⟩ := id hV
  have hX := hI.1
  obtain ⟨hR, hn0, hn1, hm0, hm1⟩ := id hX
  refine pr_iload_n dX6_account_0 rfl ?_
  refine pr_tsin (off := 59) (tgt := 60) dX6_account_1 (by decide) (by decide) (by decide) (by decide) ?_
  refine pr_aload_n dX6_account_60 rfl ?_
  refine pr_getf dX6_account_61 pzf_6_10 (gS_0 ht hD hu0) rfl ?_
  refine pr_getf dX6_account_64 pzf_6_40 (sH_0 hj) rfl ?_
  refine pr_getf dX6_account_67 pzf_6_44 (sH_1 hj) rfl ?_
  exact pr_iret dX6_account_70 rfl rfl (zret (by rfl))
set_option maxRecDepth 100000 in
set_option maxHeartbeats 4000000 in
theorem kX6_account_1 (hV : cV t u a K X)  : pz_Cd en 9 99 [.ref (t 0), .int (zI 1)] (sH (tH h t u K) a (sq a) X) 0 0 (pz_ret (some (.int (zI (X 1 5)))) (sH (tH h t u K) a (sq a) X)) := by
  refine pz_in pzt_X6_account ?_
  obtain ⟨hj, ht, hD, hu0, hI, hK, ⟨f0, f1⟩, ⟨r0, r1⟩, ⟨q0, q1⟩, hA⟩ := id hV
  have hX := hI.1
  obtain ⟨hR, hn0, hn1, hm0, hm1⟩ := id hX
  refine pr_iload_n dX6_account_0 rfl ?_
  refine pr_tsin (off := 70) (tgt := 71) dX6_account_1 (by decide) (by decide) (by decide) (by decide) ?_
  refine pr_aload_n dX6_account_71 rfl ?_
  refine pr_getf dX6_account_72 pzf_6_10 (gS_0 ht hD hu0) rfl ?_
  refine pr_getf dX6_account_75 pzf_6_40 (sH_0 hj) rfl ?_
  refine pr_getf dX6_account_78 pzf_6_192 (sH_1 hj) rfl ?_
  exact pr_iret dX6_account_81 rfl rfl (zret (by rfl))
set_option maxRecDepth 100000 in
set_option maxHeartbeats 4000000 in
theorem kX6_account_2 (hV : cV t u a K X)  : pz_Cd en 9 99 [.ref (t 0), .int (zI 2)] (sH (tH h t u K) a (sq a) X) 0 0 (pz_ret (some (.int (zI (zsum (fun c => xnow X c) 12)))) (sH (tH h t u K) a (sq a) X)) := by
  refine pz_in pzt_X6_account ?_
  obtain ⟨hj, ht, hD, hu0, hI, hK, ⟨f0, f1⟩, ⟨r0, r1⟩, ⟨q0, q1⟩, hA⟩ := id hV
  have hX := hI.1
  obtain ⟨hR, hn0, hn1, hm0, hm1⟩ := id hX
  refine pr_iload_n dX6_account_0 rfl ?_
  refine pr_tsin (off := 81) (tgt := 82) dX6_account_1 (by decide) (by decide) (by decide) (by decide) ?_
  refine pr_aload_n dX6_account_82 rfl ?_
  refine pr_getf dX6_account_83 pzf_6_10 (gS_0 ht hD hu0) rfl ?_
  refine pr_getf dX6_account_86 pzf_6_223 (sH_0 hj) rfl ?_
  refine zcv0i dX6_account_89 pzm_6_278 pzt_X4_sumOfPresent (sH_67 hj) (kX4_sumOfPresent hj hX (fun c c1 c2 => xI_ff hI c1 c2)) (by decide) (Nat.le_of_ble_eq_true rfl) (by decide) ?_
  exact pr_iret dX6_account_92 rfl rfl (zret (by rfl))
set_option maxRecDepth 100000 in
set_option maxHeartbeats 4000000 in
theorem kX6_account_3 (hV : cV t u a K X)  : pz_Cd en 9 99 [.ref (t 0), .int (zI 3)] (sH (tH h t u K) a (sq a) X) 0 0 (pz_ret (some (.int (zI (zsum (fun c => X 69 c) 12)))) (sH (tH h t u K) a (sq a) X)) := by
  refine pz_in pzt_X6_account ?_
  obtain ⟨hj, ht, hD, hu0, hI, hK, ⟨f0, f1⟩, ⟨r0, r1⟩, ⟨q0, q1⟩, hA⟩ := id hV
  have hX := hI.1
  obtain ⟨hR, hn0, hn1, hm0, hm1⟩ := id hX
  refine pr_iload_n dX6_account_0 rfl ?_
  refine pr_tsin (off := 92) (tgt := 93) dX6_account_1 (by decide) (by decide) (by decide) (by decide) ?_
  refine pr_aload_n dX6_account_93 rfl ?_
  refine pr_getf dX6_account_94 pzf_6_10 (gS_0 ht hD hu0) rfl ?_
  refine pr_getf dX6_account_97 pzf_6_223 (sH_0 hj) rfl ?_
  refine zcv0i dX6_account_100 pzm_6_281 pzt_X4_sumOfTargets (sH_67 hj) (kX4_sumOfTargets hj hX) (by decide) (Nat.le_of_ble_eq_true rfl) (by decide) ?_
  exact pr_iret dX6_account_103 rfl rfl (zret (by rfl))
set_option maxRecDepth 100000 in
set_option maxHeartbeats 4000000 in
theorem kX6_account_5 (hV : cV t u a K X)  : pz_Cd en 9 99 [.ref (t 0), .int (zI 5)] (sH (tH h t u K) a (sq a) X) 0 0 (pz_ret (some (.int (zI (X 67 7)))) (sH (tH h t u K) a (sq a) X)) := by
  refine pz_in pzt_X6_account ?_
  obtain ⟨hj, ht, hD, hu0, hI, hK, ⟨f0, f1⟩, ⟨r0, r1⟩, ⟨q0, q1⟩, hA⟩ := id hV
  have hX := hI.1
  obtain ⟨hR, hn0, hn1, hm0, hm1⟩ := id hX
  refine pr_iload_n dX6_account_0 rfl ?_
  refine pr_tsin (off := 117) (tgt := 118) dX6_account_1 (by decide) (by decide) (by decide) (by decide) ?_
  refine pr_aload_n dX6_account_118 rfl ?_
  refine pr_getf dX6_account_119 pzf_6_10 (gS_0 ht hD hu0) rfl ?_
  refine pr_getf dX6_account_122 pzf_6_223 (sH_0 hj) rfl ?_
  refine pr_getf dX6_account_125 pzf_6_289 (sH_67 hj) rfl ?_
  exact pr_iret dX6_account_128 rfl rfl (zret (by rfl))
set_option maxRecDepth 100000 in
set_option maxHeartbeats 4000000 in
theorem kX6_account_6 (hV : cV t u a K X)  : pz_Cd en 9 99 [.ref (t 0), .int (zI 6)] (sH (tH h t u K) a (sq a) X) 0 0 (pz_ret (some (.int (zI (X 67 8)))) (sH (tH h t u K) a (sq a) X)) := by
  refine pz_in pzt_X6_account ?_
  obtain ⟨hj, ht, hD, hu0, hI, hK, ⟨f0, f1⟩, ⟨r0, r1⟩, ⟨q0, q1⟩, hA⟩ := id hV
  have hX := hI.1
  obtain ⟨hR, hn0, hn1, hm0, hm1⟩ := id hX
  refine pr_iload_n dX6_account_0 rfl ?_
  refine pr_tsin (off := 128) (tgt := 129) dX6_account_1 (by decide) (by decide) (by decide) (by decide) ?_
  refine pr_aload_n dX6_account_129 rfl ?_
  refine pr_getf dX6_account_130 pzf_6_10 (gS_0 ht hD hu0) rfl ?_
  refine pr_getf dX6_account_133 pzf_6_223 (sH_0 hj) rfl ?_
  refine pr_getf dX6_account_136 pzf_6_292 (sH_67 hj) rfl ?_
  exact pr_iret dX6_account_139 rfl rfl (zret (by rfl))
set_option maxRecDepth 100000 in
set_option maxHeartbeats 4000000 in
theorem kX6_account_7 (hV : cV t u a K X)  : pz_Cd en 9 99 [.ref (t 0), .int (zI 7)] (sH (tH h t u K) a (sq a) X) 0 0 (pz_ret (some (.int (zI (zsum (fun k => xmc X k) (X 1 1).toNat)))) (sH (tH h t u K) a (sq a) X)) := by
  refine pz_in pzt_X6_account ?_
  obtain ⟨hj, ht, hD, hu0, hI, hK, ⟨f0, f1⟩, ⟨r0, r1⟩, ⟨q0, q1⟩, hA⟩ := id hV
  have hX := hI.1
  obtain ⟨hR, hn0, hn1, hm0, hm1⟩ := id hX
  refine pr_iload_n dX6_account_0 rfl ?_
  refine pr_tsin (off := 139) (tgt := 140) dX6_account_1 (by decide) (by decide) (by decide) (by decide) ?_
  refine pr_aload_n dX6_account_140 rfl ?_
  refine pr_getf dX6_account_141 pzf_6_10 (gS_0 ht hD hu0) rfl ?_
  refine pr_getf dX6_account_144 pzf_6_40 (sH_0 hj) rfl ?_
  refine zcv0i dX6_account_147 pzm_6_295 pzt_X1_sumOfMoving (sH_1 hj) (kX1_sumOfMoving hj hX) (by decide) (Nat.le_of_ble_eq_true rfl) (by decide) ?_
  exact pr_iret dX6_account_150 rfl rfl (zret (by rfl))
set_option maxRecDepth 100000 in
set_option maxHeartbeats 4000000 in
theorem kX6_account_8 (hV : cV t u a K X)  : pz_Cd en 9 99 [.ref (t 0), .int (zI 8)] (sH (tH h t u K) a (sq a) X) 0 0 (pz_ret (some (.int (zI (zsum (fun k => bI (¬ X (7 + 5 * k) 3 = 0)) (X 1 1).toNat)))) (sH (tH h t u K) a (sq a) X)) := by
  refine pz_in pzt_X6_account ?_
  obtain ⟨hj, ht, hD, hu0, hI, hK, ⟨f0, f1⟩, ⟨r0, r1⟩, ⟨q0, q1⟩, hA⟩ := id hV
  have hX := hI.1
  obtain ⟨hR, hn0, hn1, hm0, hm1⟩ := id hX
  refine pr_iload_n dX6_account_0 rfl ?_
  refine pr_tsin (off := 150) (tgt := 151) dX6_account_1 (by decide) (by decide) (by decide) (by decide) ?_
  refine pr_aload_n dX6_account_151 rfl ?_
  refine pr_getf dX6_account_152 pzf_6_10 (gS_0 ht hD hu0) rfl ?_
  refine pr_getf dX6_account_155 pzf_6_40 (sH_0 hj) rfl ?_
  refine zcv0i dX6_account_158 pzm_6_298 pzt_X1_protectedCount (sH_1 hj) (kX1_protectedCount hj hX) (by decide) (Nat.le_of_ble_eq_true rfl) (by decide) ?_
  exact pr_iret dX6_account_161 rfl rfl (zret (by rfl))
set_option maxRecDepth 100000 in
set_option maxHeartbeats 4000000 in
theorem kX6_account_9 (hV : cV t u a K X)  : pz_Cd en 9 99 [.ref (t 0), .int (zI 9)] (sH (tH h t u K) a (sq a) X) 0 0 (pz_ret (some (.int (zI (zsum (fun k => bI (¬ X (7 + 5 * k) 2 = 0)) (X 1 1).toNat)))) (sH (tH h t u K) a (sq a) X)) := by
  refine pz_in pzt_X6_account ?_
  obtain ⟨hj, ht, hD, hu0, hI, hK, ⟨f0, f1⟩, ⟨r0, r1⟩, ⟨q0, q1⟩, hA⟩ := id hV
  have hX := hI.1
  obtain ⟨hR, hn0, hn1, hm0, hm1⟩ := id hX
  refine pr_iload_n dX6_account_0 rfl ?_
  refine pr_tsin (off := 161) (tgt := 162) dX6_account_1 (by decide) (by decide) (by decide) (by decide) ?_
  refine pr_aload_n dX6_account_162 rfl ?_
  refine pr_getf dX6_account_163 pzf_6_10 (gS_0 ht hD hu0) rfl ?_
  refine pr_getf dX6_account_166 pzf_6_40 (sH_0 hj) rfl ?_
  refine zcv0i dX6_account_169 pzm_6_301 pzt_X1_blockCount (sH_1 hj) (kX1_blockCount hj hX) (by decide) (Nat.le_of_ble_eq_true rfl) (by decide) ?_
  exact pr_iret dX6_account_172 rfl rfl (zret (by rfl))
set_option maxRecDepth 100000 in
set_option maxHeartbeats 4000000 in
theorem kX6_account_10 (hV : cV t u a K X)  : pz_Cd en 9 99 [.ref (t 0), .int (zI 10)] (sH (tH h t u K) a (sq a) X) 0 0 (pz_ret (some (.int (zI (zsum (fun k => bI (xll X k = -1)) (X 1 5).toNat)))) (sH (tH h t u K) a (sq a) X)) := by
  refine pz_in pzt_X6_account ?_
  obtain ⟨hj, ht, hD, hu0, hI, hK, ⟨f0, f1⟩, ⟨r0, r1⟩, ⟨q0, q1⟩, hA⟩ := id hV
  have hX := hI.1
  obtain ⟨hR, hn0, hn1, hm0, hm1⟩ := id hX
  refine pr_iload_n dX6_account_0 rfl ?_
  refine pr_tsin (off := 172) (tgt := 173) dX6_account_1 (by decide) (by decide) (by decide) (by decide) ?_
  refine pr_aload_n dX6_account_173 rfl ?_
  refine pr_getf dX6_account_174 pzf_6_10 (gS_0 ht hD hu0) rfl ?_
  refine pr_getf dX6_account_177 pzf_6_40 (sH_0 hj) rfl ?_
  refine zcv0i dX6_account_180 pzm_6_304 pzt_X1_releaseCount (sH_1 hj) (kX1_releaseCount hj hI) (by decide) (Nat.le_of_ble_eq_true rfl) (by decide) ?_
  exact pr_iret dX6_account_183 rfl rfl (zret (by rfl))
set_option maxRecDepth 100000 in
set_option maxHeartbeats 4000000 in
theorem kX6_account_4 (hV : cV t u a K X)  : pz_Cd en 9 99 [.ref (t 0), .int (zI 4)] (sH (tH h t u K) a (sq a) X) 0 0 (pz_ret (some (.int (zI (zsum (fun c => bI (xfd X c)) 12)))) (sH (tH h t u K) a (sq a) X)) := by
  refine pz_in pzt_X6_account ?_
  obtain ⟨hj, ht, hD, hu0, hI, hK, ⟨f0, f1⟩, ⟨r0, r1⟩, ⟨q0, q1⟩, hA⟩ := id hV
  have hX := hI.1
  obtain ⟨hR, hn0, hn1, hm0, hm1⟩ := id hX
  refine pr_iload_n dX6_account_0 rfl ?_
  refine pr_tsin (off := 103) (tgt := 104) dX6_account_1 (by decide) (by decide) (by decide) (by decide) ?_
  refine pr_aload_n dX6_account_104 rfl ?_
  refine pr_getf dX6_account_105 pzf_6_10 (gS_0 ht hD hu0) rfl ?_
  refine pr_getf dX6_account_108 pzf_6_223 (sH_0 hj) rfl ?_
  refine zcv0 dX6_account_111 pzm_6_267 pzt_X4_fadingSet (sH_67 hj) (kX4_fadingSet hj hX (fun c c1 c2 => xI_ff hI c1 c2)) (by decide) (Nat.le_of_ble_eq_true rfl) (by decide) ?_
  refine zcs1 (v := some (.int (bcF (rmk (fun c => decide (xfd X c)) 12)))) dX6_account_114 pzm_6_284 pzt_J6_bitCount_0f7a4 kJ6_bitCount (by decide) (Nat.le_of_ble_eq_true rfl) ?_
  rw [bc_mk, show zsum (fun c => bI (decide (xfd X c) = true)) 12 = zsum (fun c => bI (xfd X c)) 12 by simp only [decide_eq_true_eq]]
  exact pr_iret dX6_account_117 rfl rfl (zret (by rfl))
set_option maxRecDepth 100000 in
set_option maxHeartbeats 4000000 in
theorem kX6_account_t (hV : cV t u a K X) {q : Int} (h1 : zR q) (g1 : ¬ (0 ≤ q ∧ q ≤ 10)) : pz_Cd en 9 99 [.ref (t 0), .int (zI q)] (sH (tH h t u K) a (sq a) X) 1 6 (pz_thr "java/lang/IllegalArgumentException" (sH (tH h t u K) a (sq a) X)) := by
  refine pz_in pzt_X6_account ?_
  obtain ⟨hj, ht, hD, hu0, hI, hK, ⟨f0, f1⟩, ⟨r0, r1⟩, ⟨q0, q1⟩, hA⟩ := id hV
  have hX := hI.1
  obtain ⟨hR, hn0, hn1, hm0, hm1⟩ := id hX
  refine pr_iload_n dX6_account_0 rfl ?_
  refine pr_tsout (tgt := 184) dX6_account_1 (by rw [zI_toInt (by omega)]; omega) (by decide) ?_
  exact pr_thrw dX6_account_184 dX6_account_187 dX6_account_188 dX6_account_191 dX6_account_194 pze_6_59 pzs_307 rfl (by decide) rfl ⟨rfl, rfl⟩
set_option maxRecDepth 100000 in
set_option maxHeartbeats 4000000 in
theorem kX6_meanLevel (hV : cV t u a K X)  : pz_Cd en 9 100 [.ref (t 0)] (sH (tH h t u K) a (sq a) X) 0 0 (pz_ret (some (.double (dMn (zsum (fun c => xnow X c) 12)))) (sH (tH h t u K) a (sq a) X)) := by
  refine pz_in pzt_X6_meanLevel ?_
  obtain ⟨hj, ht, hD, hu0, hI, hK, ⟨f0, f1⟩, ⟨r0, r1⟩, ⟨q0, q1⟩, hA⟩ := id hV
  have hX := hI.1
  obtain ⟨hR, hn0, hn1, hm0, hm1⟩ := id hX
  have hz := zsum_c (f := fun c => xnow X c) (b := 100) 12 (fun k k1 k2 => xnow_b (xI_ff hI k1 (by omega)))
  refine pr_aload_n dX6_meanLevel_0 rfl ?_
  refine pr_getf dX6_meanLevel_1 pzf_6_10 (gS_0 ht hD hu0) rfl ?_
  refine pr_getf dX6_meanLevel_4 pzf_6_223 (sH_0 hj) rfl ?_
  refine zcv0i dX6_meanLevel_7 pzm_6_278 pzt_X4_sumOfPresent (sH_67 hj) (kX4_sumOfPresent hj hX (fun c c1 c2 => xI_ff hI c1 c2)) (by decide) (Nat.le_of_ble_eq_true rfl) (by decide) ?_
  refine pr_i2d dX6_meanLevel_10 ?_
  refine pr_ldc2 dX6_meanLevel_11 pzd_6_309 ?_
  refine pr_ddiv dX6_meanLevel_14 (dMn_ok (by omega)).1 ?_
  exact pr_dret dX6_meanLevel_15 rfl ⟨rfl, rfl⟩
end cls
