/-! each call that changes -/
section doc
variable {en : pz_Env} {g : pz_H} {t : Int → Nat} {r : Nat → Nat} {o : Nat}
theorem do_addCue {n : Int} (h1 : zR n) (hS : gS g t r o) : dO en 243 134 [.int (zI n)] (fun _ => True) g t r o := by
  obtain ⟨u, B, K, Z, s, lv, A, F, hG, hM⟩ := hS
  have hV := gH_cV hG hM
  have hc := hM.2.1
  have hcr := hc.2.2.1
  have hi := hc.2.1
  have hb := hi.1.2
  have hn := cR_n hcr
  have hm := cR_m hcr
  have hX := hV.2.2.2.2.1.1
  have hj9 := hG.1.1.2.2
  have f5 := hM.1.2.2.1
  have k11 := hM.1.2.1
  have hL := hM.2.2.2.2.2.2.2.1
  have hB2 := rcB_R hM
  have hbO := gH_bO hG (k := 2 + K 1 1) (by omega) (by omega)
  have hub := hG.2.1 (2 + K 1 1) (by omega) (by omega)
  have hpA := pA_rf hV.1
  obtain ⟨e4, e31, e05, e06, e04, e12⟩ := hM.2.2.2.1
  have r613 := hM.2.2.2.2.1
  have hq := cR_ix hcr n
  have hp := xix_R hX n
  by_cases g1 : (1 ≤ n ∧ n ≤ 99) ∧ xix (Z 0) n < 0
  · by_cases g2 : Z 0 1 1 < 12
    · have hz := fin_p hX (n := n)
      have hC := kX6_addCue_k (en := en) (h := g) hV h1 g1 g2 hbO hub
      rw [gH_id hG] at hC
      exact dO_k hG wr_addCue_k (Or.inl ⟨rfl, rfl⟩) hC (gH_c hG (pA_zs (zpI_I hz.1 hz.2 g2) hV.1) (by omega) (by omega)) (fun h0 => kX7_addCue_k (en := en) (h0 := h0) (lv := lv) (A := A) (F := F) hj9 hi h1 ⟨g1.1, by omega⟩ (by omega) f5.1 f5.2) (by decide) (by rw [hn]) rfl (gM_chg hM (cS_in hc g1.1.1 g1.1.2 (by omega) (by omega)) (hL) ⟨rfl, rfl, rfl, rfl, rfl⟩) trivial
    · skip
      have hC := kX6_addCue_t2 (en := en) (h := g) hV h1 g1 (by omega)
      rw [gH_id hG] at hC
      exact dO_t hG wr_addCue_2 (Or.inr ⟨rfl, rfl⟩) hC hG (fun h0 => kX7_addCue_t2 (en := en) (h0 := h0) (lv := lv) (A := A) (F := F) hj9 hi h1 ⟨g1.1, by omega⟩ (by omega)) (by decide) rfl (gM_F (gM_A2 hM hB2) ⟨rfl, rfl, rfl, rfl, rfl⟩) (by decide) trivial
  · skip
    have hC := kX6_addCue_t1 (en := en) (h := g) hV h1 g1
    rw [gH_id hG] at hC
    exact dO_t hG wr_addCue_1 (Or.inr ⟨rfl, rfl⟩) hC hG (fun h0 => kX7_addCue_t1 (en := en) (h0 := h0) (lv := lv) (A := A) (F := F) hj9 hi h1 (by omega)) (by decide) rfl (gM_F (gM_A2 hM hB2) ⟨rfl, rfl, rfl, rfl, rfl⟩) (by decide) trivial
theorem do_removeCue {n : Int} (h1 : zR n) {hd : Prop} [dd : Decidable hd] (hS : gS g t r o) : dO en 244 166 [.int (zI n), .int (zI (bI hd))] (fun _ => True) g t r o := by
  obtain ⟨u, B, K, Z, s, lv, A, F, hG, hM⟩ := hS
  have hV := gH_cV hG hM
  have hc := hM.2.1
  have hcr := hc.2.2.1
  have hi := hc.2.1
  have hb := hi.1.2
  have hn := cR_n hcr
  have hm := cR_m hcr
  have hX := hV.2.2.2.2.1.1
  have hj9 := hG.1.1.2.2
  have f5 := hM.1.2.2.1
  have k11 := hM.1.2.1
  have hL := hM.2.2.2.2.2.2.2.1
  have hB2 := rcB_R hM
  have hbO := gH_bO hG (k := 2 + K 1 1) (by omega) (by omega)
  have hub := hG.2.1 (2 + K 1 1) (by omega) (by omega)
  have hpA := pA_rf hV.1
  obtain ⟨e4, e31, e05, e06, e04, e12⟩ := hM.2.2.2.1
  have r613 := hM.2.2.2.2.1
  have hq := cR_ix hcr n
  have hp := xix_R hX n
  have hkl : ∀ i, zR (rkl s lv (12 * s 0) i) := rkl_R hi.1 hL _
  by_cases g1 : 0 ≤ xix (Z 0) n
  · skip
    have hlt : xix (Z 0) n < s 0 := by omega
    have hk := (rpl_val (s := s) (cue := n) (by omega)).1
    rw [← hq] at hk
    have hm9 := cS_rem hc (lv := lv) g1 hlt (hd := hd)
    rw [hk] at hm9
    by_cases p : s (18 + 12 * xix (Z 0) n + 3) = 1
    · have e2 : rRX s lv (rcB s A) F n hd = (2, zcpy (rcB s A) s 0 0 462, lv, va_up F 6 1) := by
        unfold rRX
        rw [← hq, if_pos g1, if_pos p]
      have e1 := hm9.1 p
      have hR := fun h0 => kX7_removeCue_r (en := en) (h0 := h0) (lv := lv) (A := A) (F := F) hj9 hi hL h1 (hd := hd) (by rw [e2]; show (0 : Int) < 2; decide)
      rw [e2] at hR
      have hC := kX6_removeCue_r (en := en) (h := g) hV h1 (hd := hd) g1 (by omega)
      rw [gH_id hG, e1] at hC
      exact dO_t hG wr_removeCue_2 (Or.inr ⟨rfl, rfl⟩) hC (gH_k hG) hR (by decide) rfl (gM_5 (gM_s (gM_A2 hM hB2) (cS_back hM hi.1.1)) (by decide) (by decide) ⟨rfl, rfl, rfl, rfl, rfl⟩) (by decide) trivial
    · obtain ⟨m1, m2⟩ := hm9.2 p
      by_cases g9 : xrD (Z 0) (xix (Z 0) n) hd = 0
      · have e2 : rRX s lv (rcB s A) F n hd = (0, (rRm s lv n hd).2, rkl s lv (12 * s 0), F) := by
          unfold rRX
          rw [← hq, if_pos g1, if_neg p, if_neg (by omega)]
        have hR := fun h0 => kX7_removeCue_k (en := en) (h0 := h0) (lv := lv) (A := A) (F := F) hj9 hi hL h1 (hd := hd) (by rw [e2]) f5.1 f5.2
        rw [e2] at hR
        have hC := kX6_removeCue_k (en := en) (h := g) hV h1 (hd := hd) g1 g9 hbO hub
        rw [gH_id hG] at hC
        exact dO_k hG wr_removeCue_k (Or.inl ⟨rfl, rfl⟩) hC (gH_c hG (pA_zs (zpI_D g1 (by omega) (by omega)) hV.1) (by omega) (by omega)) hR (by decide) (by rw [cR_ic hi hcr g1 hlt, hk]) rfl (gM_chg hM (m2 g9) hkl ⟨rfl, rfl, rfl, rfl, rfl⟩) trivial
      · have hr9 : 0 ≤ xrD (Z 0) (xix (Z 0) n) hd ∧ xrD (Z 0) (xix (Z 0) n) hd ≤ 2 := xrf_R _ _ _
        have e2 : rRX s lv (rcB s A) F n hd = (2, zcpy (rcB s A) (rRm s lv n hd).2 0 0 462, rkl s lv (12 * s 0), va_up F 6 (rRm s lv n hd).1) := by
          unfold rRX
          rw [← hq, if_pos g1, if_neg p, if_pos (by omega)]
        have hB9 : ∀ i, zR ((rRm s lv n hd).2 i) := by
          have hI9 := rRm_I hi (cue := n) (by omega)
          unfold rRm
          split
          · exact (rhd_B hI9.1 hkl _ _).1.1
          · exact hI9.1.1
        have hR := fun h0 => kX7_removeCue_r (en := en) (h0 := h0) (lv := lv) (A := A) (F := F) hj9 hi hL h1 (hd := hd) (by rw [e2]; show (0 : Int) < 2; decide)
        rw [e2] at hR
        have hC := kX6_removeCue_r (en := en) (h := g) hV h1 (hd := hd) g1 g9
        rw [gH_id hG] at hC
        exact dO_t hG wr_removeCue_2 (Or.inr ⟨rfl, rfl⟩) hC (gH_k hG) hR (by decide) rfl (gM_5 (gM_s (gM_lv (gM_A2 hM hB2) hkl) (cS_back hM hB9)) (by omega) (by omega) ⟨rfl, rfl, m1, rfl, rfl⟩) (by decide) trivial
  · have e2 : rRX s lv (rcB s A) F n hd = (1, s, lv, F) := by
      unfold rRX
      rw [← hq, if_neg g1]
    have hR := fun h0 => kX7_removeCue_r (en := en) (h0 := h0) (lv := lv) (A := A) (F := F) hj9 hi hL h1 (hd := hd) (by rw [e2]; show (0 : Int) < 1; decide)
    rw [e2] at hR
    have hC := kX6_removeCue_t (en := en) (h := g) hV h1 (hd := hd) g1
    rw [gH_id hG] at hC
    exact dO_t hG wr_removeCue_1 (Or.inr ⟨rfl, rfl⟩) hC hG hR (by decide) rfl (gM_F (gM_A2 hM hB2) ⟨rfl, rfl, rfl, rfl, rfl⟩) (by decide) trivial
theorem do_setFollow {n q : Int} (h1 : zR n) (h2 : zR q) (hS : gS g t r o) : dO en 246 136 [.int (zI n), .int (zI q)] (fun _ => True) g t r o := by
  obtain ⟨u, B, K, Z, s, lv, A, F, hG, hM⟩ := hS
  have hV := gH_cV hG hM
  have hc := hM.2.1
  have hcr := hc.2.2.1
  have hi := hc.2.1
  have hb := hi.1.2
  have hn := cR_n hcr
  have hm := cR_m hcr
  have hX := hV.2.2.2.2.1.1
  have hj9 := hG.1.1.2.2
  have f5 := hM.1.2.2.1
  have k11 := hM.1.2.1
  have hL := hM.2.2.2.2.2.2.2.1
  have hB2 := rcB_R hM
  have hbO := gH_bO hG (k := 2 + K 1 1) (by omega) (by omega)
  have hub := hG.2.1 (2 + K 1 1) (by omega) (by omega)
  have hpA := pA_rf hV.1
  obtain ⟨e4, e31, e05, e06, e04, e12⟩ := hM.2.2.2.1
  have r613 := hM.2.2.2.2.1
  have hq := cR_ix hcr n
  have hp := xix_R hX n
  by_cases g1 : 0 ≤ xix (Z 0) n
  · have hlt : xix (Z 0) n < s 0 := by omega
    by_cases g2 : q = -1 ∨ (1 ≤ q ∧ q ≤ 6000)
    · skip
      have hC := kX6_setFollow_k (en := en) (h := g) hV h1 h2 g1 g2 hbO hub
      rw [gH_id hG] at hC
      have hR := fun h0 => kX7_setFollow_k (en := en) (h0 := h0) (lv := lv) (A := A) (F := F) hj9 hi h1 h2 (by omega) g2 f5.1 f5.2
      rw [← hq] at hR
      exact dO_k hG wr_setFollow_k (Or.inl ⟨rfl, rfl⟩) hC (gH_y hG (by omega) (by omega)) hR (by decide) (by rw [(hcr.2.2.1 _ g1 hlt).2.1]) rfl (gM_chg hM (cS_set hc g1 hlt (by decide) (by decide) h2 (by omega)) (hL) ⟨rfl, rfl, rfl, rfl, rfl⟩) trivial
    · skip
      have hC := kX6_setFollow_t2 (en := en) (h := g) hV h1 h2 g1 g2
      rw [gH_id hG] at hC
      exact dO_t hG wr_setFollow_2 (Or.inr ⟨rfl, rfl⟩) hC hG (fun h0 => kX7_setFollow_t2 (en := en) (h0 := h0) (lv := lv) (A := A) (F := F) hj9 hi h1 h2 (by omega) g2) (by decide) rfl (gM_F hM ⟨rfl, rfl, rfl, rfl, rfl⟩) (by decide) trivial
  · skip
    have hC := kX6_setFollow_t1 (en := en) (h := g) hV h1 h2 g1
    rw [gH_id hG] at hC
    exact dO_t hG wr_setFollow_1 (Or.inr ⟨rfl, rfl⟩) hC hG (fun h0 => kX7_setFollow_t1 (en := en) (h0 := h0) (lv := lv) (A := A) (F := F) hj9 hi h1 h2 (by omega)) (by decide) rfl (gM_F hM ⟨rfl, rfl, rfl, rfl, rfl⟩) (by decide) trivial
theorem do_setBlock {n : Int} (h1 : zR n) {v : Prop} [dv : Decidable v] (hS : gS g t r o) : dO en 247 139 [.int (zI n), .int (zI (bI v))] (fun _ => True) g t r o := by
  obtain ⟨u, B, K, Z, s, lv, A, F, hG, hM⟩ := hS
  have hV := gH_cV hG hM
  have hc := hM.2.1
  have hcr := hc.2.2.1
  have hi := hc.2.1
  have hb := hi.1.2
  have hn := cR_n hcr
  have hm := cR_m hcr
  have hX := hV.2.2.2.2.1.1
  have hj9 := hG.1.1.2.2
  have f5 := hM.1.2.2.1
  have k11 := hM.1.2.1
  have hL := hM.2.2.2.2.2.2.2.1
  have hB2 := rcB_R hM
  have hbO := gH_bO hG (k := 2 + K 1 1) (by omega) (by omega)
  have hub := hG.2.1 (2 + K 1 1) (by omega) (by omega)
  have hpA := pA_rf hV.1
  obtain ⟨e4, e31, e05, e06, e04, e12⟩ := hM.2.2.2.1
  have r613 := hM.2.2.2.2.1
  have hq := cR_ix hcr n
  have hp := xix_R hX n
  have hkl : ∀ i, zR (rkl s lv (12 * s 0) i) := rkl_R hi.1 hL _
  by_cases g1 : 0 ≤ xix (Z 0) n
  · have hlt : xix (Z 0) n < s 0 := by omega
    have hbk := cS_blk hc (lv := lv) g1 hlt (v := v)
    by_cases g2 : Z 0 (7 + 5 * xix (Z 0) n) 2 = bI v
    · rw [if_pos g2] at hbk
      have ez : zv (Z 0) (7 + 5 * xix (Z 0) n) (zu (Z 0 (7 + 5 * xix (Z 0) n)) 2 (bI v)) = Z 0 := by
        rw [← g2, zu_id, zv_id]
      rw [ez] at hbk
      have hC := kX6_setBlock_0 (en := en) (h := g) hV h1 g1 g2 hbO hub
      rw [gH_id hG] at hC
      have hR := fun h0 => kX7_setBlock_k (en := en) (h0 := h0) (lv := lv) (A := A) (F := F) hj9 hi hL h1 (v := v) (by omega) f5.1 f5.2
      rw [← hq] at hR
      exact dO_k hG wr_setBlock_k (Or.inl ⟨rfl, rfl⟩) hC (gH_y hG (by omega) (by omega)) hR (by decide) (by rw [hbk.2]) rfl (gM_chg hM (hbk.1) (hkl) ⟨rfl, rfl, rfl, rfl, rfl⟩) trivial
    · rw [if_neg g2] at hbk
      have hC := kX6_setBlock_1 (en := en) (h := g) hV h1 g1 g2 hbO hub
      rw [gH_id hG] at hC
      have hR := fun h0 => kX7_setBlock_k (en := en) (h0 := h0) (lv := lv) (A := A) (F := F) hj9 hi hL h1 (v := v) (by omega) f5.1 f5.2
      rw [← hq] at hR
      exact dO_k hG wr_setBlock_k (Or.inl ⟨rfl, rfl⟩) hC (gH_y hG (by omega) (by omega)) hR (by decide) (by rw [hbk.2]) rfl (gM_chg hM (hbk.1) (hkl) ⟨rfl, rfl, rfl, rfl, rfl⟩) trivial
  · skip
    have hC := kX6_setBlock_t (en := en) (h := g) hV h1 (v := v) g1
    rw [gH_id hG] at hC
    exact dO_t hG wr_setBlock_1 (Or.inr ⟨rfl, rfl⟩) hC hG (fun h0 => kX7_setBlock_t (en := en) (h0 := h0) (lv := lv) (A := A) (F := F) hj9 hi h1 (v := v) (by omega)) (by decide) rfl (gM_F hM ⟨rfl, rfl, rfl, rfl, rfl⟩) (by decide) trivial
theorem do_setProtected {n : Int} (h1 : zR n) {v : Prop} [dv : Decidable v] (hS : gS g t r o) : dO en 248 140 [.int (zI n), .int (zI (bI v))] (fun b => b = zI 0 ∨ b = zI 1) g t r o := by
  obtain ⟨u, B, K, Z, s, lv, A, F, hG, hM⟩ := hS
  have hV := gH_cV hG hM
  have hc := hM.2.1
  have hcr := hc.2.2.1
  have hi := hc.2.1
  have hb := hi.1.2
  have hn := cR_n hcr
  have hm := cR_m hcr
  have hX := hV.2.2.2.2.1.1
  have hj9 := hG.1.1.2.2
  have f5 := hM.1.2.2.1
  have k11 := hM.1.2.1
  have hL := hM.2.2.2.2.2.2.2.1
  have hB2 := rcB_R hM
  have hbO := gH_bO hG (k := 2 + K 1 1) (by omega) (by omega)
  have hub := hG.2.1 (2 + K 1 1) (by omega) (by omega)
  have hpA := pA_rf hV.1
  obtain ⟨e4, e31, e05, e06, e04, e12⟩ := hM.2.2.2.1
  have r613 := hM.2.2.2.2.1
  have hq := cR_ix hcr n
  have hp := xix_R hX n
  by_cases g1 : 0 ≤ xix (Z 0) n
  · have hlt : xix (Z 0) n < s 0 := by omega
    have h01 := (hi.2.1 _ g1 hlt).2.2.2
    have hv := bI_01 v
    have hz3 := (hcr.2.2.1 _ g1 hlt).2.2.2
    have hC := kX6_setProtected_k (en := en) (h := g) hV h1 (v := v) g1 hbO hub
    rw [gH_id hG] at hC
    have hR := fun h0 => kX7_setProtected_k (en := en) (h0 := h0) (lv := lv) (A := A) (F := F) hj9 hi h1 (v := v) (by omega) f5.1 f5.2
    rw [← hq] at hR
    exact dO_b hG wr_setProtected_k (Or.inl ⟨rfl, rfl⟩) hC (by rw [hz3]; exact h01) (gH_y hG (by omega) (by omega)) hR (by decide) (by rw [hz3, bI_one h01]) rfl (gM_chg hM (cS_set hc g1 hlt (by decide) (by decide) (bI_R _) (by omega)) (hL) ⟨rfl, rfl, rfl, rfl, rfl⟩) (by rw [bI_one h01]; rcases h01 with e | e <;> rw [e]; exact Or.inl rfl; exact Or.inr rfl)
  · skip
    have hC := kX6_setProtected_t (en := en) (h := g) hV h1 (v := v) g1
    rw [gH_id hG] at hC
    exact dO_t hG wr_setProtected_1 (Or.inr ⟨rfl, rfl⟩) hC hG (fun h0 => kX7_setProtected_t (en := en) (h0 := h0) (lv := lv) (A := A) (F := F) hj9 hi h1 (v := v) (by omega)) (by decide) rfl (gM_F hM ⟨rfl, rfl, rfl, rfl, rfl⟩) (by decide) (Or.inl rfl)
theorem do_setPart {n c q : Int} (h1 : zR n) (h2 : zR c) (h3 : zR q) {dl : Prop} [dd : Decidable dl] (hS : gS g t r o) : dO en 249 142 [.int (zI n), .int (zI c), .int (zI (bI dl)), .int (zI q)] (fun _ => True) g t r o := by
  obtain ⟨u, B, K, Z, s, lv, A, F, hG, hM⟩ := hS
  have hV := gH_cV hG hM
  have hc := hM.2.1
  have hcr := hc.2.2.1
  have hi := hc.2.1
  have hb := hi.1.2
  have hn := cR_n hcr
  have hm := cR_m hcr
  have hX := hV.2.2.2.2.1.1
  have hj9 := hG.1.1.2.2
  have f5 := hM.1.2.2.1
  have k11 := hM.1.2.1
  have hL := hM.2.2.2.2.2.2.2.1
  have hB2 := rcB_R hM
  have hbO := gH_bO hG (k := 2 + K 1 1) (by omega) (by omega)
  have hub := hG.2.1 (2 + K 1 1) (by omega) (by omega)
  have hpA := pA_rf hV.1
  obtain ⟨e4, e31, e05, e06, e04, e12⟩ := hM.2.2.2.1
  have r613 := hM.2.2.2.2.1
  have hq := cR_ix hcr n
  have hp := xix_R hX n
  by_cases g1 : 0 ≤ xix (Z 0) n ∧ 0 ≤ c ∧ c ≤ 3
  · skip
    have hlt : xix (Z 0) n < s 0 := by omega
    have hpt := hcr.2.2.2.1 _ c g1.1 hlt g1.2.1 g1.2.2
    have hev : Z 0 (7 + 5 * xix (Z 0) n + (if dl then 1 else 2)) c = s (18 + 12 * xix (Z 0) n + 4 + 2 * c + (if dl then 0 else 1)) := by
      by_cases q : dl
      · rw [if_pos q, if_pos q, hpt.1, Int.add_zero]
      · rw [if_neg q, if_neg q, hpt.2]
    by_cases g2 : 0 ≤ q ∧ q ≤ 600
    · have hcs : cS (zv (Z 0) (7 + 5 * xix (Z 0) n + (if dl then 1 else 2)) (zu (Z 0 (7 + 5 * xix (Z 0) n + (if dl then 1 else 2))) c q)) (zu s (18 + 12 * xix (Z 0) n + 4 + 2 * c + (if dl then 0 else 1)) q) := by
        have hcp := cS_part hc (q := if dl then 1 else 2) (v := q) g1.1 hlt g1.2.1 g1.2.2 (by split <;> decide) g2.1 g2.2
        have e : ((if dl then 1 else 2 : Int) - 1) = (if dl then 0 else 1) := by split <;> rfl
        rw [e] at hcp
        exact hcp
      have hC := kX6_setPart_k (en := en) (h := g) hV h1 h2 h3 (dl := dl) g1.1 g1.2 g2 hbO hub
      rw [gH_id hG] at hC
      have hR := fun h0 => kX7_setPart_k (en := en) (h0 := h0) (lv := lv) (A := A) (F := F) hj9 hi h1 h2 h3 (dl := dl) ⟨by omega, g1.2⟩ g2 f5.1 f5.2
      rw [← hq] at hR
      exact dO_k hG wr_setPart_k (Or.inl ⟨rfl, rfl⟩) hC (gH_y hG (by omega) (by omega)) hR (by decide) (by rw [hev]) rfl (gM_chg hM (hcs) (hL) ⟨rfl, rfl, rfl, rfl, rfl⟩) trivial
    · skip
      have hC := kX6_setPart_t2 (en := en) (h := g) hV h1 h2 h3 (dl := dl) g1.1 g1.2 g2
      rw [gH_id hG] at hC
      exact dO_t hG wr_setPart_2 (Or.inr ⟨rfl, rfl⟩) hC hG (fun h0 => kX7_setPart_t2 (en := en) (h0 := h0) (lv := lv) (A := A) (F := F) hj9 hi h1 h2 h3 (dl := dl) ⟨by omega, g1.2⟩ g2) (by decide) rfl (gM_F hM ⟨rfl, rfl, rfl, rfl, rfl⟩) (by decide) trivial
  · skip
    have hC := kX6_setPart_t1 (en := en) (h := g) hV h1 h2 h3 (dl := dl) g1
    rw [gH_id hG] at hC
    exact dO_t hG wr_setPart_1 (Or.inr ⟨rfl, rfl⟩) hC hG (fun h0 => kX7_setPart_t1 (en := en) (h0 := h0) (lv := lv) (A := A) (F := F) hj9 hi h1 h2 h3 (dl := dl) (by omega)) (by decide) rfl (gM_F hM ⟨rfl, rfl, rfl, rfl, rfl⟩) (by decide) trivial
theorem do_setHome {c q : Int} (h1 : zR c) (h2 : zR q) (hS : gS g t r o) : dO en 218 154 [.int (zI c), .int (zI q)] (fun _ => True) g t r o := by
  obtain ⟨u, B, K, Z, s, lv, A, F, hG, hM⟩ := hS
  have hV := gH_cV hG hM
  have hc := hM.2.1
  have hcr := hc.2.2.1
  have hi := hc.2.1
  have hb := hi.1.2
  have hn := cR_n hcr
  have hm := cR_m hcr
  have hX := hV.2.2.2.2.1.1
  have hj9 := hG.1.1.2.2
  have f5 := hM.1.2.2.1
  have k11 := hM.1.2.1
  have hL := hM.2.2.2.2.2.2.2.1
  have hB2 := rcB_R hM
  have hbO := gH_bO hG (k := 2 + K 1 1) (by omega) (by omega)
  have hub := hG.2.1 (2 + K 1 1) (by omega) (by omega)
  have hpA := pA_rf hV.1
  obtain ⟨e4, e31, e05, e06, e04, e12⟩ := hM.2.2.2.1
  have r613 := hM.2.2.2.2.1
  by_cases g1 : 0 ≤ c ∧ c ≤ 11
  · by_cases g2 : 0 ≤ q ∧ q ≤ 100
    · skip
      have hC := kX6_setHome_k (en := en) (h := g) hV h1 h2 g1 g2 hbO hub
      rw [gH_id hG] at hC
      exact dO_k hG wr_setHome_k (Or.inl ⟨rfl, rfl⟩) hC (gH_y hG (by omega) (by omega)) (fun h0 => kX7_setHome_k (en := en) (h0 := h0) (lv := lv) (A := A) (F := F) hj9 hi h1 h2 g1 g2 f5.1 f5.2) (by decide) (by rw [hcr.2.1 c g1.1 g1.2]) rfl (gM_chg hM (cS_home hc g1.1 g1.2 g2.1 g2.2) (hL) ⟨rfl, rfl, rfl, rfl, rfl⟩) trivial
    · skip
      have hC := kX6_setHome_t2 (en := en) (h := g) hV h1 h2 g1 g2
      rw [gH_id hG] at hC
      exact dO_t hG wr_setHome_2 (Or.inr ⟨rfl, rfl⟩) hC hG (fun h0 => kX7_setHome_t2 (en := en) (h0 := h0) (lv := lv) (A := A) (F := F) hj9 hi h1 h2 g1 g2) (by decide) rfl (gM_F hM ⟨rfl, rfl, rfl, rfl, rfl⟩) (by decide) trivial
  · skip
    have hC := kX6_setHome_t1 (en := en) (h := g) hV h1 h2 g1
    rw [gH_id hG] at hC
    exact dO_t hG wr_setHome_1 (Or.inr ⟨rfl, rfl⟩) hC hG (fun h0 => kX7_setHome_t1 (en := en) (h0 := h0) (lv := lv) (A := A) (F := F) hj9 hi h1 h2 g1) (by decide) rfl (gM_F hM ⟨rfl, rfl, rfl, rfl, rfl⟩) (by decide) trivial
theorem do_set {n c v q : Int} (h1 : zR n) (h2 : zR c) (h3 : zR v) (h4 : zR q) {hd : Prop} [dd : Decidable hd] (hS : gS g t r o) : dO en 219 161 [.int (zI n), .int (zI c), .int (zI v), .int (zI q), .int (zI (bI hd))] (fun _ => True) g t r o := by
  obtain ⟨u, B, K, Z, s, lv, A, F, hG, hM⟩ := hS
  have hV := gH_cV hG hM
  have hc := hM.2.1
  have hcr := hc.2.2.1
  have hi := hc.2.1
  have hb := hi.1.2
  have hn := cR_n hcr
  have hm := cR_m hcr
  have hX := hV.2.2.2.2.1.1
  have hj9 := hG.1.1.2.2
  have f5 := hM.1.2.2.1
  have k11 := hM.1.2.1
  have hL := hM.2.2.2.2.2.2.2.1
  have hB2 := rcB_R hM
  have hbO := gH_bO hG (k := 2 + K 1 1) (by omega) (by omega)
  have hub := hG.2.1 (2 + K 1 1) (by omega) (by omega)
  have hpA := pA_rf hV.1
  obtain ⟨e4, e31, e05, e06, e04, e12⟩ := hM.2.2.2.1
  have r613 := hM.2.2.2.2.1
  have hq := cR_ix hcr n
  have hp := xix_R hX n
  by_cases g1 : 0 ≤ xix (Z 0) n ∧ (0 ≤ c ∧ c ≤ 11) ∧ 0 ≤ q ∧ q ≤ 3
  · skip
    have hlt : xix (Z 0) n < s 0 := by omega
    have hk := (rpl_val (s := s) (cue := n) (by omega)).1
    rw [← hq] at hk
    by_cases g4 : 0 ≤ v ∧ v ≤ 100
    · skip
      have hgv := cS_give hc (lv := lv) (v := v) (p := q) g1.1 hlt g1.2.1.1 g1.2.1.2 (by omega) g4.2 g1.2.2.1 g1.2.2.2 (hd := hd)
      rw [hk] at hgv
      obtain ⟨m1, m2⟩ := hgv
      have hB9 := rGh_B hi.1 hL h1 h2 (lev := v) (part := q) h3 h4 hd
      have hr9 : 0 ≤ xrG (Z 0) (xix (Z 0) n) c v hd ∧ xrG (Z 0) (xix (Z 0) n) c v hd ≤ 2 := xrf_R _ _ _
      by_cases g9 : xrG (Z 0) (xix (Z 0) n) c v hd = 0
      · have hcf := cS_gcf hc (lv := lv) (v := v) (p := q) g1.1 hlt g1.2.1.1 g1.2.1.2 (by omega) g4.2 g1.2.2.1 g1.2.2.2 (hd := hd) g9
        rw [hk] at hcf
        have hC := kX6_set_k (en := en) (h := g) hV h1 h2 h3 h4 (hd := hd) g1.1 g1.2.1 g1.2.2 g4 g9 hbO hub
        rw [gH_id hG] at hC
        exact dO_k hG wr_set_k (Or.inl ⟨rfl, rfl⟩) hC (gH_y hG (by omega) (by omega)) (fun h0 => kX7_set_k (en := en) (h0 := h0) (lv := lv) (A := A) (F := F) hj9 hi hL h1 h2 h3 h4 (hd := hd) (by omega) g1.2.1 g1.2.2 g4 (by omega) f5.1 f5.2) (by decide) (by rw [hcf]) rfl (gM_chg hM ((m2 g9).1) (hB9.2) ⟨rfl, rfl, rfl, rfl, rfl⟩) trivial
      · skip
        have hC := kX6_set_r (en := en) (h := g) hV h1 h2 h3 h4 (hd := hd) g1.1 g1.2.1 g1.2.2 g4 g9
        rw [gH_id hG] at hC
        exact dO_t hG wr_set_3 (Or.inr ⟨rfl, rfl⟩) hC (gH_k hG) (fun h0 => kX7_set_r (en := en) (h0 := h0) (lv := lv) (A := A) (F := F) hj9 hi hL h1 h2 h3 h4 (hd := hd) (by omega) g1.2.1 g1.2.2 g4 (by omega)) (by decide) rfl (gM_5 (gM_s (gM_lv (gM_A2 hM hB2) hB9.2) (cS_back hM hB9.1.1)) (by omega) (by omega) ⟨rfl, rfl, m1, rfl, rfl⟩) (by decide) trivial
    · skip
      have hC := kX6_set_t2 (en := en) (h := g) hV h1 h2 h3 h4 (hd := hd) g1.1 g1.2.1 g1.2.2 g4
      rw [gH_id hG] at hC
      exact dO_t hG wr_set_2 (Or.inr ⟨rfl, rfl⟩) hC hG (fun h0 => kX7_set_t2 (en := en) (h0 := h0) (lv := lv) (A := A) (F := F) hj9 hi hL h1 h2 h3 h4 (hd := hd) ⟨by omega, g1.2⟩ g4) (by decide) rfl (gM_F hM ⟨rfl, rfl, rfl, rfl, rfl⟩) (by decide) trivial
  · skip
    have hC := kX6_set_t1 (en := en) (h := g) hV h1 h2 h3 h4 (hd := hd) g1
    rw [gH_id hG] at hC
    exact dO_t hG wr_set_1 (Or.inr ⟨rfl, rfl⟩) hC hG (fun h0 => kX7_set_t1 (en := en) (h0 := h0) (lv := lv) (A := A) (F := F) hj9 hi hL h1 h2 h3 h4 (hd := hd) (by omega)) (by decide) rfl (gM_F hM ⟨rfl, rfl, rfl, rfl, rfl⟩) (by decide) trivial
theorem do_release {n c q : Int} (h1 : zR n) (h2 : zR c) (h4 : zR q) {hd : Prop} [dd : Decidable hd] (hS : gS g t r o) : dO en 220 162 [.int (zI n), .int (zI c), .int (zI q), .int (zI (bI hd))] (fun _ => True) g t r o := by
  obtain ⟨u, B, K, Z, s, lv, A, F, hG, hM⟩ := hS
  have hV := gH_cV hG hM
  have hc := hM.2.1
  have hcr := hc.2.2.1
  have hi := hc.2.1
  have hb := hi.1.2
  have hn := cR_n hcr
  have hm := cR_m hcr
  have hX := hV.2.2.2.2.1.1
  have hj9 := hG.1.1.2.2
  have f5 := hM.1.2.2.1
  have k11 := hM.1.2.1
  have hL := hM.2.2.2.2.2.2.2.1
  have hB2 := rcB_R hM
  have hbO := gH_bO hG (k := 2 + K 1 1) (by omega) (by omega)
  have hub := hG.2.1 (2 + K 1 1) (by omega) (by omega)
  have hpA := pA_rf hV.1
  obtain ⟨e4, e31, e05, e06, e04, e12⟩ := hM.2.2.2.1
  have r613 := hM.2.2.2.2.1
  have hq := cR_ix hcr n
  have hp := xix_R hX n
  by_cases g1 : 0 ≤ xix (Z 0) n ∧ (0 ≤ c ∧ c ≤ 11) ∧ 0 ≤ q ∧ q ≤ 3
  · skip
    have hlt : xix (Z 0) n < s 0 := by omega
    have hk := (rpl_val (s := s) (cue := n) (by omega)).1
    rw [← hq] at hk
    have hgv := cS_give hc (lv := lv) (v := (-1)) (p := q) g1.1 hlt g1.2.1.1 g1.2.1.2 (by decide) (by decide) g1.2.2.1 g1.2.2.2 (hd := hd)
    rw [hk] at hgv
    obtain ⟨m1, m2⟩ := hgv
    have hB9 := rGh_B hi.1 hL h1 h2 (lev := (-1)) (part := q) (by decide) h4 hd
    have hr9 : 0 ≤ xrG (Z 0) (xix (Z 0) n) c (-1) hd ∧ xrG (Z 0) (xix (Z 0) n) c (-1) hd ≤ 2 := xrf_R _ _ _
    by_cases g9 : xrG (Z 0) (xix (Z 0) n) c (-1) hd = 0
    · have hcf := cS_gcf hc (lv := lv) (v := (-1)) (p := q) g1.1 hlt g1.2.1.1 g1.2.1.2 (by decide) (by decide) g1.2.2.1 g1.2.2.2 (hd := hd) g9
      rw [hk] at hcf
      have hC := kX6_release_k (en := en) (h := g) hV h1 h2 h4 (hd := hd) g1.1 g1.2.1 g1.2.2 g9 hbO hub
      rw [gH_id hG] at hC
      exact dO_k hG wr_release_k (Or.inl ⟨rfl, rfl⟩) hC (gH_y hG (by omega) (by omega)) (fun h0 => kX7_release_k (en := en) (h0 := h0) (lv := lv) (A := A) (F := F) hj9 hi hL h1 h2 h4 (hd := hd) (by omega) g1.2.1 g1.2.2 (by omega) f5.1 f5.2) (by decide) (by rw [hcf]) rfl (gM_chg hM ((m2 g9).1) (hB9.2) ⟨rfl, rfl, rfl, rfl, rfl⟩) trivial
    · skip
      have hC := kX6_release_r (en := en) (h := g) hV h1 h2 h4 (hd := hd) g1.1 g1.2.1 g1.2.2 g9
      rw [gH_id hG] at hC
      exact dO_t hG wr_release_2 (Or.inr ⟨rfl, rfl⟩) hC (gH_k hG) (fun h0 => kX7_release_r (en := en) (h0 := h0) (lv := lv) (A := A) (F := F) hj9 hi hL h1 h2 h4 (hd := hd) (by omega) g1.2.1 g1.2.2 (by omega)) (by decide) rfl (gM_5 (gM_s (gM_lv (gM_A2 hM hB2) hB9.2) (cS_back hM hB9.1.1)) (by omega) (by omega) ⟨rfl, rfl, m1, rfl, rfl⟩) (by decide) trivial
  · skip
    have hC := kX6_release_t (en := en) (h := g) hV h1 h2 h4 (hd := hd) g1
    rw [gH_id hG] at hC
    exact dO_t hG wr_release_1 (Or.inr ⟨rfl, rfl⟩) hC hG (fun h0 => kX7_release_t (en := en) (h0 := h0) (lv := lv) (A := A) (F := F) hj9 hi hL h1 h2 h4 (hd := hd) (by omega)) (by decide) rfl (gM_F hM ⟨rfl, rfl, rfl, rfl, rfl⟩) (by decide) trivial
theorem do_unset {n c : Int} (h1 : zR n) (h2 : zR c) {hd : Prop} [dd : Decidable hd] (hS : gS g t r o) : dO en 221 164 [.int (zI n), .int (zI c), .int (zI (bI hd))] (fun _ => True) g t r o := by
  obtain ⟨u, B, K, Z, s, lv, A, F, hG, hM⟩ := hS
  have hV := gH_cV hG hM
  have hc := hM.2.1
  have hcr := hc.2.2.1
  have hi := hc.2.1
  have hb := hi.1.2
  have hn := cR_n hcr
  have hm := cR_m hcr
  have hX := hV.2.2.2.2.1.1
  have hj9 := hG.1.1.2.2
  have f5 := hM.1.2.2.1
  have k11 := hM.1.2.1
  have hL := hM.2.2.2.2.2.2.2.1
  have hB2 := rcB_R hM
  have hbO := gH_bO hG (k := 2 + K 1 1) (by omega) (by omega)
  have hub := hG.2.1 (2 + K 1 1) (by omega) (by omega)
  have hpA := pA_rf hV.1
  obtain ⟨e4, e31, e05, e06, e04, e12⟩ := hM.2.2.2.1
  have r613 := hM.2.2.2.2.1
  have hq := cR_ix hcr n
  have hp := xix_R hX n
  by_cases g1 : 0 ≤ xix (Z 0) n ∧ 0 ≤ c ∧ c ≤ 11
  · skip
    have hlt : xix (Z 0) n < s 0 := by omega
    have hk := (rpl_val (s := s) (cue := n) (by omega)).1
    rw [← hq] at hk
    have hgv := cS_take hc (lv := lv) g1.1 hlt g1.2.1 g1.2.2 (hd := hd)
    rw [hk] at hgv
    obtain ⟨m1, m2⟩ := hgv
    have hB9 := rTh_B hi.1 hL n c hd
    have hr9 : 0 ≤ xrT (Z 0) (xix (Z 0) n) c hd ∧ xrT (Z 0) (xix (Z 0) n) c hd ≤ 3 := xrT_R
    by_cases g9 : xrT (Z 0) (xix (Z 0) n) c hd = 0
    · have hcf := cS_tcf hc (lv := lv) g1.1 hlt g1.2.1 g1.2.2 (hd := hd) g9
      rw [hk] at hcf
      have hC := kX6_unset_k (en := en) (h := g) hV h1 h2 (hd := hd) g1.1 g1.2 g9 hbO hub
      rw [gH_id hG] at hC
      exact dO_k hG wr_unset_k (Or.inl ⟨rfl, rfl⟩) hC (gH_y hG (by omega) (by omega)) (fun h0 => kX7_unset_k (en := en) (h0 := h0) (lv := lv) (A := A) (F := F) hj9 hi hL h1 h2 (hd := hd) (by omega) g1.2 (by omega) f5.1 f5.2) (by decide) (by rw [hcf]) rfl (gM_chg hM ((m2 g9).1) (hB9.2) ⟨rfl, rfl, rfl, rfl, rfl⟩) trivial
    · skip
      have hC := kX6_unset_r (en := en) (h := g) hV h1 h2 (hd := hd) g1.1 g1.2 g9
      rw [gH_id hG] at hC
      exact dO_t hG wr_unset_2 (Or.inr ⟨rfl, rfl⟩) hC (gH_k hG) (fun h0 => kX7_unset_r (en := en) (h0 := h0) (lv := lv) (A := A) (F := F) hj9 hi hL h1 h2 (hd := hd) (by omega) g1.2 (by omega)) (by decide) rfl (gM_5 (gM_s (gM_lv (gM_A2 hM hB2) hB9.2) (cS_back hM hB9.1.1)) (by omega) (by omega) ⟨rfl, rfl, m1, rfl, rfl⟩) (by decide) trivial
  · skip
    have hC := kX6_unset_t (en := en) (h := g) hV h1 h2 (hd := hd) g1
    rw [gH_id hG] at hC
    exact dO_t hG wr_unset_1 (Or.inr ⟨rfl, rfl⟩) hC hG (fun h0 => kX7_unset_t (en := en) (h0 := h0) (lv := lv) (A := A) (F := F) hj9 hi hL h1 h2 (hd := hd) (by omega)) (by decide) rfl (gM_F hM ⟨rfl, rfl, rfl, rfl, rfl⟩) (by decide) trivial
theorem do_go  (hS : gS g t r o) : dO en 229 184 [] (fun _ => True) g t r o := by
  obtain ⟨u, B, K, Z, s, lv, A, F, hG, hM⟩ := hS
  have hV := gH_cV hG hM
  have hc := hM.2.1
  have hcr := hc.2.2.1
  have hi := hc.2.1
  have hb := hi.1.2
  have hn := cR_n hcr
  have hm := cR_m hcr
  have hX := hV.2.2.2.2.1.1
  have hj9 := hG.1.1.2.2
  have f5 := hM.1.2.2.1
  have k11 := hM.1.2.1
  have hL := hM.2.2.2.2.2.2.2.1
  have hB2 := rcB_R hM
  have hbO := gH_bO hG (k := 2 + K 1 1) (by omega) (by omega)
  have hub := hG.2.1 (2 + K 1 1) (by omega) (by omega)
  have hpA := pA_rf hV.1
  obtain ⟨e4, e31, e05, e06, e04, e12⟩ := hM.2.2.2.1
  have r613 := hM.2.2.2.2.1
  by_cases g1 : 0 ≤ xnk (Z 0)
  · obtain ⟨n1, n2, n3⟩ := nk_k hc g1
    have hg := cS_go hc g1 n1
    rw [← n2] at hg
    have hC := kX6_go_k (en := en) (h := g) hV g1 hbO hub
    rw [gH_id hG] at hC
    exact dO_k hG wr_go_k (Or.inl ⟨rfl, rfl⟩) hC (gH_y hG (by omega) (by omega)) (fun h0 => kX7_go_k (en := en) (h0 := h0) (lv := lv) (A := A) (F := F) hj9 hi n3 f5.1 f5.2) (by decide) (by rw [n2, (hcr.2.2.1 _ g1 n1).1]) rfl (gM_chg hM (hg) (hL) ⟨rfl, rfl, rfl, rfl, rfl⟩) trivial
  · skip
    have hC := kX6_go_r (en := en) (h := g) hV g1
    rw [gH_id hG] at hC
    exact dO_t hG wr_go_1 (Or.inr ⟨rfl, rfl⟩) hC (gH_k hG) (fun h0 => kX7_go_t (en := en) (h0 := h0) (lv := lv) (A := A) (F := F) hj9 hi (nk_n hc g1)) (by decide) rfl (gM_5 (gM_s (gM_A2 hM hB2) (cS_back hM hi.1.1)) (by decide) (by decide) ⟨rfl, rfl, rfl, rfl, rfl⟩) (by decide) trivial
theorem do_back  (hS : gS g t r o) : dO en 230 185 [] (fun _ => True) g t r o := by
  obtain ⟨u, B, K, Z, s, lv, A, F, hG, hM⟩ := hS
  have hV := gH_cV hG hM
  have hc := hM.2.1
  have hcr := hc.2.2.1
  have hi := hc.2.1
  have hb := hi.1.2
  have hn := cR_n hcr
  have hm := cR_m hcr
  have hX := hV.2.2.2.2.1.1
  have hj9 := hG.1.1.2.2
  have f5 := hM.1.2.2.1
  have k11 := hM.1.2.1
  have hL := hM.2.2.2.2.2.2.2.1
  have hB2 := rcB_R hM
  have hbO := gH_bO hG (k := 2 + K 1 1) (by omega) (by omega)
  have hub := hG.2.1 (2 + K 1 1) (by omega) (by omega)
  have hpA := pA_rf hV.1
  obtain ⟨e4, e31, e05, e06, e04, e12⟩ := hM.2.2.2.1
  have r613 := hM.2.2.2.2.1
  have hln : (Z 0 1 1 - 1 + 1).toNat = (s 0).toNat := by omega
  have hlk := cR_lk hcr (s 0).toNat (by omega)
  rcases hlk with ⟨k1, k2⟩ | ⟨k1, k2, k3⟩
  · skip
    have hC := kX6_back_r (en := en) (h := g) hV (by rw [hln]; omega)
    rw [gH_id hG] at hC
    exact dO_t hG wr_back_1 (Or.inr ⟨rfl, rfl⟩) hC (gH_k hG) (fun h0 => kX7_back_t (en := en) (h0 := h0) (lv := lv) (A := A) (F := F) hj9 hi k2) (by decide) rfl (gM_5 (gM_s (gM_A2 hM hB2) (cS_back hM hi.1.1)) (by decide) (by decide) ⟨rfl, rfl, rfl, rfl, rfl⟩) (by decide) trivial
  · have n1 : xlkF (Z 0) (Z 0 1 1 - 1 + 1).toNat < s 0 := by rw [hln]; omega
    have g1 : 0 ≤ xlkF (Z 0) (Z 0 1 1 - 1 + 1).toNat := by rw [hln]; exact k1
    have k3 : s (18 + 12 * xlkF (Z 0) (Z 0 1 1 - 1 + 1).toNat) = rah s (s 2) := by rw [hln]; exact k3
    have hg := cS_go hc g1 n1
    have h99 := (hi.2.1 _ g1 n1).1
    have hz1 := (hcr.2.2.1 _ g1 n1).1
    rw [k3] at hg h99 hz1
    have hC := kX6_back_k (en := en) (h := g) hV g1 hbO hub
    rw [gH_id hG] at hC
    exact dO_k hG wr_back_k (Or.inl ⟨rfl, rfl⟩) hC (gH_y hG (by omega) (by omega)) (fun h0 => kX7_back_k (en := en) (h0 := h0) (lv := lv) (A := A) (F := F) hj9 hi (by omega) f5.1 f5.2) (by decide) (by rw [hz1]) rfl (gM_chg hM (hg) (hL) ⟨rfl, rfl, rfl, rfl, rfl⟩) trivial
theorem do_jump {n : Int} (h1 : zR n) (hS : gS g t r o) : dO en 231 186 [.int (zI n)] (fun _ => True) g t r o := by
  obtain ⟨u, B, K, Z, s, lv, A, F, hG, hM⟩ := hS
  have hV := gH_cV hG hM
  have hc := hM.2.1
  have hcr := hc.2.2.1
  have hi := hc.2.1
  have hb := hi.1.2
  have hn := cR_n hcr
  have hm := cR_m hcr
  have hX := hV.2.2.2.2.1.1
  have hj9 := hG.1.1.2.2
  have f5 := hM.1.2.2.1
  have k11 := hM.1.2.1
  have hL := hM.2.2.2.2.2.2.2.1
  have hB2 := rcB_R hM
  have hbO := gH_bO hG (k := 2 + K 1 1) (by omega) (by omega)
  have hub := hG.2.1 (2 + K 1 1) (by omega) (by omega)
  have hpA := pA_rf hV.1
  obtain ⟨e4, e31, e05, e06, e04, e12⟩ := hM.2.2.2.1
  have r613 := hM.2.2.2.2.1
  have hq := cR_ix hcr n
  have hp := xix_R hX n
  by_cases g1 : 0 ≤ xix (Z 0) n
  · skip
    have hlt : xix (Z 0) n < s 0 := by omega
    have hk := (rpl_val (s := s) (cue := n) (by omega)).1
    rw [← hq] at hk
    have hg := cS_go hc g1 hlt
    have hgn := cS_gn hc g1 hlt
    rw [hk] at hg hgn
    have hC := kX6_jump_k (en := en) (h := g) hV h1 g1 hbO hub
    rw [gH_id hG] at hC
    exact dO_k hG wr_jump_k (Or.inl ⟨rfl, rfl⟩) hC (gH_y hG (by omega) (by omega)) (fun h0 => kX7_jump_k (en := en) (h0 := h0) (lv := lv) (A := A) (F := F) hj9 hi h1 (by omega) f5.1 f5.2) (by decide) (by rw [hgn]) rfl (gM_chg hM (hg) (hL) ⟨rfl, rfl, rfl, rfl, rfl⟩) trivial
  · skip
    have hC := kX6_jump_t (en := en) (h := g) hV h1 g1
    rw [gH_id hG] at hC
    exact dO_t hG wr_jump_1 (Or.inr ⟨rfl, rfl⟩) hC hG (fun h0 => kX7_jump_t (en := en) (h0 := h0) (lv := lv) (A := A) (F := F) hj9 hi h1 (by omega)) (by decide) rfl (gM_F hM ⟨rfl, rfl, rfl, rfl, rfl⟩) (by decide) trivial
theorem do_pass {q : Int} (h1 : zR q) (hS : gS g t r o) : dO en 232 189 [.int (zI q)] (fun _ => True) g t r o := by
  obtain ⟨u, B, K, Z, s, lv, A, F, hG, hM⟩ := hS
  have hV := gH_cV hG hM
  have hc := hM.2.1
  have hcr := hc.2.2.1
  have hi := hc.2.1
  have hb := hi.1.2
  have hn := cR_n hcr
  have hm := cR_m hcr
  have hX := hV.2.2.2.2.1.1
  have hj9 := hG.1.1.2.2
  have f5 := hM.1.2.2.1
  have k11 := hM.1.2.1
  have hL := hM.2.2.2.2.2.2.2.1
  have hB2 := rcB_R hM
  have hbO := gH_bO hG (k := 2 + K 1 1) (by omega) (by omega)
  have hub := hG.2.1 (2 + K 1 1) (by omega) (by omega)
  have hpA := pA_rf hV.1
  obtain ⟨e4, e31, e05, e06, e04, e12⟩ := hM.2.2.2.1
  have r613 := hM.2.2.2.2.1
  have h8 := hcr.1.2.2.2.2.2
  by_cases g1 : 0 ≤ q ∧ q ≤ 6000
  · by_cases g2 : Z 0 67 8 + q ≤ 100000
    · have e2 : rPs s q = (0, rpsN q.toNat s) := by
        unfold rPs
        rw [if_pos g1, if_pos (by omega)]
      have en2 : ((q.toNat : Nat) : Int) = q := by omega
      have hg := cS_ps q.toNat q.toNat (Z 0) s (Nat.le_refl _) hc (by omega)
      rw [en2] at hg
      have hev : zI (xpsF q.toNat (Z 0) q).1 = zI (rpsN q.toNat s 4 - s 4) := by
        rw [← zI_sub, hg.2, zI_sub, show s 4 + (xpsF q.toNat (Z 0) q).1 - s 4 = (xpsF q.toNat (Z 0) q).1 by omega]
      have hR := fun h0 => kX7_pass_k (en := en) (h0 := h0) (lv := lv) (A := A) (F := F) hj9 hi h1 (by rw [e2]) f5.1 f5.2
      rw [e2] at hR
      have hC := kX6_pass_k (en := en) (h := g) hV h1 g1 g2 hbO hub
      rw [gH_id hG] at hC
      exact dO_k hG wr_pass_k (Or.inl ⟨rfl, rfl⟩) hC (gH_y hG (by omega) (by omega)) hR (by decide) hev rfl (gM_chg hM hg.1 hL ⟨rfl, rfl, rfl, rfl, rfl⟩) trivial
    · have e2 : rPs s q = (2, s) := by
        unfold rPs
        rw [if_pos g1, if_neg (by omega)]
      have hR := fun h0 => kX7_pass_r (en := en) (h0 := h0) (lv := lv) (A := A) (F := F) hj9 hi h1 (by rw [e2]; show (0 : Int) < 2; decide)
      rw [e2] at hR
      have hC := kX6_pass_t2 (en := en) (h := g) hV h1 g1 g2
      rw [gH_id hG] at hC
      exact dO_t hG wr_pass_2 (Or.inr ⟨rfl, rfl⟩) hC hG hR (by decide) rfl (gM_F (gM_A2 hM hB2) ⟨rfl, rfl, rfl, rfl, rfl⟩) (by decide) trivial
  · have e2 : rPs s q = (1, s) := by
      unfold rPs
      rw [if_neg g1]
    have hR := fun h0 => kX7_pass_r (en := en) (h0 := h0) (lv := lv) (A := A) (F := F) hj9 hi h1 (by rw [e2]; show (0 : Int) < 1; decide)
    rw [e2] at hR
    have hC := kX6_pass_t1 (en := en) (h := g) hV h1 g1
    rw [gH_id hG] at hC
    exact dO_t hG wr_pass_1 (Or.inr ⟨rfl, rfl⟩) hC hG hR (by decide) rfl (gM_F (gM_A2 hM hB2) ⟨rfl, rfl, rfl, rfl, rfl⟩) (by decide) trivial
theorem do_append {c : Int} (h1 : 0 ≤ c ∧ c < 65536) (hS : gS g t r o) : dO en 238 200 [.int (zI c)] (fun _ => True) g t r o := by
  obtain ⟨u, B, K, Z, s, lv, A, F, hG, hM⟩ := hS
  have hV := gH_cV hG hM
  have hc := hM.2.1
  have hcr := hc.2.2.1
  have hi := hc.2.1
  have hb := hi.1.2
  have hn := cR_n hcr
  have hm := cR_m hcr
  have hX := hV.2.2.2.2.1.1
  have hj9 := hG.1.1.2.2
  have f5 := hM.1.2.2.1
  have k11 := hM.1.2.1
  have hL := hM.2.2.2.2.2.2.2.1
  have hB2 := rcB_R hM
  have hbO := gH_bO hG (k := 2 + K 1 1) (by omega) (by omega)
  have hub := hG.2.1 (2 + K 1 1) (by omega) (by omega)
  have hpA := pA_rf hV.1
  obtain ⟨e4, e31, e05, e06, e04, e12⟩ := hM.2.2.2.1
  have r613 := hM.2.2.2.2.1
  have f10 := hM.1.2.2.2.1
  by_cases g1 : 32 ≤ c ∧ c ≤ 126
  · by_cases g2 : K 3 1 < 60
    · have hC := kX6_append_k (en := en) (h := g) hV h1 g1 g2
      rw [gH_id hG] at hC
      refine dO_k hG wr_append_k (Or.inl ⟨rfl, rfl⟩) hC (gH_k hG) (fun h0 => kX7_append_k (en := en) (h0 := h0) (lv := lv) (A := A) (F := F) hj9 hi h1.1 h1.2 f10.1 f10.2 g1.1 g1.2 (by omega)) (by decide) (by rw [e31]) rfl (gM_K hM (fun i j => ?_) rfl ?_ e04 e05 e06 ?_ r613.1 r613.2 ?_ rfl rfl hL hM.2.2.2.2.2.2.2.2.1 rfl rfl (fun i => ?_) hM.2.2.2.2.2.2.2.2.2.2.2) trivial
      · have hK := hV.2.2.2.2.2.1
        have h31 := hK 3 1
        rw [zv_app, zu_app, zv_app, zu_app]
        repeat' split
        all_goals first | exact hK _ _ | omega
      · show zu (K 4) (K 3 1) c = zu (A 6) (F 10) c
        rw [e4, e31]
      · show K 3 1 + 1 = F 10 + 1
        rw [e31]
      · show 0 ≤ F 10 + 1 ∧ F 10 + 1 ≤ 60
        omega
      · show 0 ≤ zu (A 6) (F 10) c i ∧ zu (A 6) (F 10) c i < 65536
        rw [zu_app]
        split
        · omega
        · exact hM.1.2.2.2.2 i
    · skip
      have hC := kX6_append_t2 (en := en) (h := g) hV h1 g1 g2
      rw [gH_id hG] at hC
      exact dO_t hG wr_append_2 (Or.inr ⟨rfl, rfl⟩) hC hG (fun h0 => kX7_append_t2 (en := en) (h0 := h0) (lv := lv) (A := A) (F := F) hj9 hi h1.1 h1.2 f10.1 f10.2 g1.1 g1.2 (by omega)) (by decide) rfl (gM_F hM ⟨rfl, rfl, rfl, rfl, rfl⟩) (by decide) trivial
  · skip
    have hC := kX6_append_t1 (en := en) (h := g) hV h1 g1
    rw [gH_id hG] at hC
    exact dO_t hG wr_append_1 (Or.inr ⟨rfl, rfl⟩) hC hG (fun h0 => kX7_append_t1 (en := en) (h0 := h0) (lv := lv) (A := A) (F := F) hj9 hi h1.1 h1.2 f10.1 f10.2 g1) (by decide) rfl (gM_F hM ⟨rfl, rfl, rfl, rfl, rfl⟩) (by decide) trivial
theorem do_undo  (hS : gS g t r o) : dO en 241 211 [] (fun _ => True) g t r o := by
  obtain ⟨u, B, K, Z, s, lv, A, F, hG, hM⟩ := hS
  have hV := gH_cV hG hM
  have hc := hM.2.1
  have hcr := hc.2.2.1
  have hi := hc.2.1
  have hb := hi.1.2
  have hn := cR_n hcr
  have hm := cR_m hcr
  have hX := hV.2.2.2.2.1.1
  have hj9 := hG.1.1.2.2
  have f5 := hM.1.2.2.1
  have k11 := hM.1.2.1
  have hL := hM.2.2.2.2.2.2.2.1
  have hB2 := rcB_R hM
  have hbO := gH_bO hG (k := 2 + K 1 1) (by omega) (by omega)
  have hub := hG.2.1 (2 + K 1 1) (by omega) (by omega)
  have hpA := pA_rf hV.1
  obtain ⟨e4, e31, e05, e06, e04, e12⟩ := hM.2.2.2.1
  have r613 := hM.2.2.2.2.1
  by_cases g1 : K 1 2 = 0
  · skip
    have hC := kX6_undo_t (en := en) (h := g) hV g1
    rw [gH_id hG] at hC
    exact dO_t hG wr_undo_1 (Or.inr ⟨rfl, rfl⟩) hC hG (fun h0 => kX7_undo_t (en := en) (h0 := h0) (lv := lv) (A := A) (F := F) hj9 hi (by omega)) (by decide) rfl (gM_F hM ⟨rfl, rfl, rfl, rfl, rfl⟩) (by decide) trivial
  · have hun := gM_undo hM (F2 := va_up (va_up F 7 0) 5 (F 5 - 1)) (by omega) ⟨rfl, rfl, rfl, rfl, rfl⟩
    have hbU := gH_bO hG (k := 2 + (K 1 1 + 7 - 1) % 7) (by omega) (by omega)
    have huU := hG.2.1 (2 + (K 1 1 + 7 - 1) % 7) (by omega) (by omega)
    have hps := hM.2.2.2.2.2.2.1 (F 5 - 1) (by omega) (by omega)
    rw [show 2 + (K 1 1 + 7 - F 5 + (F 5 - 1)) % 7 = 2 + (K 1 1 + 7 - 1) % 7 by omega] at hps
    have hC := kX6_undo_k (en := en) (h := g) hV g1 (cS_I hps) hbU huU
    rw [gH_id hG] at hC
    exact dO_k hG wr_undo_k (Or.inl ⟨rfl, rfl⟩) hC (gH_x hG) (fun h0 => kX7_undo_k (en := en) (h0 := h0) (lv := lv) (A := A) (F := F) hj9 hi f5.2 (by omega)) (by decide) (by rw [e12]) rfl hun trivial
theorem do_restore  (hS : gS g t r o) : dO en 242 213 [] (fun _ => True) g t r o := by
  obtain ⟨u, B, K, Z, s, lv, A, F, hG, hM⟩ := hS
  have hV := gH_cV hG hM
  have hc := hM.2.1
  have hcr := hc.2.2.1
  have hi := hc.2.1
  have hb := hi.1.2
  have hn := cR_n hcr
  have hm := cR_m hcr
  have hX := hV.2.2.2.2.1.1
  have hj9 := hG.1.1.2.2
  have f5 := hM.1.2.2.1
  have k11 := hM.1.2.1
  have hL := hM.2.2.2.2.2.2.2.1
  have hB2 := rcB_R hM
  have hbO := gH_bO hG (k := 2 + K 1 1) (by omega) (by omega)
  have hub := hG.2.1 (2 + K 1 1) (by omega) (by omega)
  have hpA := pA_rf hV.1
  obtain ⟨e4, e31, e05, e06, e04, e12⟩ := hM.2.2.2.1
  have r613 := hM.2.2.2.2.1
  rcases hM.2.2.2.2.2.1 with g1 | ⟨g1, hsv⟩
  · skip
    have hC := kX6_restore_t (en := en) (h := g) hV (by omega)
    rw [gH_id hG] at hC
    exact dO_t hG wr_restore_1 (Or.inr ⟨rfl, rfl⟩) hC hG (fun h0 => kX7_restore_t (en := en) (h0 := h0) (lv := lv) (A := A) (F := F) hj9 hi g1) (by decide) rfl (gM_F hM ⟨rfl, rfl, rfl, rfl, rfl⟩) (by decide) trivial
  · have hbU := gH_bO hG (k := 1) (by decide) (by decide)
    have huU := hG.2.1 1 (by decide) (by decide)
    have hcs : cS (xcp (Z 0) (Z 1)) (zcpy (A 3) s 0 0 462) := cS_ext (cS_cp hc.1 hsv) (zcpy_R hM.2.2.2.2.2.2.2.2.2.1 hi.1.1) (fun i i1 i2 => by rw [zcpy0, if_pos ⟨i1, i2⟩])
    have hC := kX6_restore_k (en := en) (h := g) hV (by omega) hbU (cS_I hsv) huU
    rw [gH_id hG] at hC
    exact dO_k hG wr_restore_k (Or.inl ⟨rfl, rfl⟩) hC (gH_x hG) (fun h0 => kX7_restore_k (en := en) (h0 := h0) (lv := lv) (A := A) (F := F) hj9 hi g1 (hM.2.2.2.2.2.2.2.2.2.1 0)) (by decide) (by rw [cR_n hsv.2.2.1]) rfl (gM_0 hM hcs ⟨rfl, rfl, rfl, rfl, rfl⟩) trivial
theorem do_clear (hS : gS g t r o) : dV en 97 215 g t r o := by
  obtain ⟨u, B, K, Z, s, lv, A, F, hG, hM⟩ := hS
  have hV := gH_cV hG hM
  have hc := hM.2.1
  have hcr := hc.2.2.1
  have hi := hc.2.1
  have hb := hi.1.2
  have hn := cR_n hcr
  have hm := cR_m hcr
  have hX := hV.2.2.2.2.1.1
  have hj9 := hG.1.1.2.2
  have f5 := hM.1.2.2.1
  have k11 := hM.1.2.1
  have hL := hM.2.2.2.2.2.2.2.1
  have hB2 := rcB_R hM
  have hbO := gH_bO hG (k := 2 + K 1 1) (by omega) (by omega)
  have hub := hG.2.1 (2 + K 1 1) (by omega) (by omega)
  have hpA := pA_rf hV.1
  obtain ⟨e4, e31, e05, e06, e04, e12⟩ := hM.2.2.2.1
  have r613 := hM.2.2.2.2.1
  have hC := kX6_clear (en := en) (h := g) hV 
  rw [gH_id hG] at hC
  exact dV_fin hG hC (gH_x hG) (fun h0 => kX7_clear (en := en) (h0 := h0) (lv := lv) (A := A) (F := F) hj9 hi ) (by decide) hn (by omega) (gM_0 hM (cS_new hc) ⟨rfl, rfl, rfl, rfl, rfl⟩)
theorem do_save (hS : gS g t r o) : dV en 105 212 g t r o := by
  obtain ⟨u, B, K, Z, s, lv, A, F, hG, hM⟩ := hS
  have hV := gH_cV hG hM
  have hc := hM.2.1
  have hcr := hc.2.2.1
  have hi := hc.2.1
  have hb := hi.1.2
  have hn := cR_n hcr
  have hm := cR_m hcr
  have hX := hV.2.2.2.2.1.1
  have hj9 := hG.1.1.2.2
  have f5 := hM.1.2.2.1
  have k11 := hM.1.2.1
  have hL := hM.2.2.2.2.2.2.2.1
  have hB2 := rcB_R hM
  have hbO := gH_bO hG (k := 2 + K 1 1) (by omega) (by omega)
  have hub := hG.2.1 (2 + K 1 1) (by omega) (by omega)
  have hpA := pA_rf hV.1
  obtain ⟨e4, e31, e05, e06, e04, e12⟩ := hM.2.2.2.1
  have r613 := hM.2.2.2.2.1
  have hC := kX6_save (en := en) (h := g) hV  (gH_bO hG (k := 1) (by decide) (by decide)) (hG.2.1 1 (by decide) (by decide))
  rw [gH_id hG] at hC
  exact dV_fin hG hC (gH_y hG (by decide) (by decide)) (fun h0 => kX7_save (en := en) (h0 := h0) (lv := lv) (A := A) (F := F) hj9 hi ) (by decide) hn (by omega) (gM_save hM ⟨rfl, rfl, rfl, rfl, rfl⟩)
theorem do_mean (hS : gS g t r o) : ∃ (z : Int) (g2 : pz_H) (f0 f1 : List Value), (0 ≤ z ∧ z ≤ 1200) ∧ g (t 0) = some (.inr (6, f0)) ∧ g (r 0) = some (.inr (7, f1)) ∧ pz_Cd en 9 100 [.ref (t 0)] g 0 0 (pz_ret (some (.double (dMn z))) g) ∧ pz_Cd en 9 199 [.ref (r 0)] g 0 0 (pz_ret (some (.double (dMn z))) g2) ∧ gS g2 t r o := by
  obtain ⟨u, B, K, Z, s, lv, A, F, hG, hM⟩ := hS
  have hV := gH_cV hG hM
  have hc := hM.2.1
  have hcr := hc.2.2.1
  have hi := hc.2.1
  have hb := hi.1.2
  have hn := cR_n hcr
  have hm := cR_m hcr
  have hX := hV.2.2.2.2.1.1
  have hj9 := hG.1.1.2.2
  have f5 := hM.1.2.2.1
  have k11 := hM.1.2.1
  have hL := hM.2.2.2.2.2.2.2.1
  have hB2 := rcB_R hM
  have hbO := gH_bO hG (k := 2 + K 1 1) (by omega) (by omega)
  have hub := hG.2.1 (2 + K 1 1) (by omega) (by omega)
  have hpA := pA_rf hV.1
  obtain ⟨e4, e31, e05, e06, e04, e12⟩ := hM.2.2.2.1
  have r613 := hM.2.2.2.2.1
  have hC := kX6_meanLevel (en := en) (h := g) hV 
  rw [gH_id hG, cR_snow hi hcr] at hC
  have hR := kX7_meanLevel (en := en) (h0 := g) (lv := lv) (A := A) (F := F) hj9 hi 
  rw [gH_rid hG] at hR
  obtain ⟨f0, hf0⟩ := gH_t0 hG
  obtain ⟨f1, hf1⟩ := gH_r0 hG
  have hz := zsum_c (f := fun c => rnow s c) (b := 100) 12 (fun k h1 h2 => rnow_b (hi.2.2.2.2.2.2.2.1 k h1 (by omega)))
  exact ⟨_, _, f0, f1, by omega, hf0, hf1, hC, pz_Cd_mono en 4 9 (by decide) _ _ _ _ _ _ _ (fun _ _ z => z) hR, u, B, K, Z, s, lv, A, _, gH_r hG, gM_F hM ⟨rfl, rfl, rfl, rfl, rfl⟩⟩
theorem do_read  (hS : gS g t r o) : dO en 239 209 [] (fun _ => True) g t r o := by
  obtain ⟨u, B, K, Z, s, lv, A, F, hG, hM⟩ := hS
  have hV := gH_cV hG hM
  have hc := hM.2.1
  have hcr := hc.2.2.1
  have hi := hc.2.1
  have hb := hi.1.2
  have hn := cR_n hcr
  have hm := cR_m hcr
  have hX := hV.2.2.2.2.1.1
  have hj9 := hG.1.1.2.2
  have f5 := hM.1.2.2.1
  have k11 := hM.1.2.1
  have hL := hM.2.2.2.2.2.2.2.1
  have hB2 := rcB_R hM
  have hbO := gH_bO hG (k := 2 + K 1 1) (by omega) (by omega)
  have hub := hG.2.1 (2 + K 1 1) (by omega) (by omega)
  have hpA := pA_rf hV.1
  obtain ⟨e4, e31, e05, e06, e04, e12⟩ := hM.2.2.2.1
  have r613 := hM.2.2.2.2.1
  have f10 := hM.1.2.2.2.1
  have hA6 := hM.1.2.2.2.2
  have hN8 := hM.2.2.2.2.2.2.2.2.2.2.2
  have hA2 := hM.2.2.2.2.2.2.2.2.1
  obtain ⟨E, q1, q2, q3, q4, q5⟩ := kCt_all (inp := K 4) (ln := K 3 1) (K := A 7) (N := A 8) (M := K 5) (kd := K 3 3) (by omega) (by omega)
  have ho := rdR_o (inp := A 6) (ln := F 10) (K := A 7) (N := A 8) f10.1 f10.2 hN8
  have hkb := kCt_b (inp := K 4) (ln := K 3 1) (by rw [e4]; exact hA6) (by omega) 60 1 0 (K 3 3) (K 5) (by decide) (by omega) (hV.2.2.2.2.2.1 3 3) (hV.2.2.2.2.2.1 5)
  rcases q4 with ⟨w1, w2⟩ | ⟨w1, w2⟩
  · have hC := kX6_read_w (en := en) (h := g) hV w2
    rw [gH_id hG] at hC
    have hV1 := cV_S hV (pl := (kCt (K 4) (K 3 1) 60 1 0 (K 3 3) (K 5)).2.1) (kd := (kCt (K 4) (K 3 1) 60 1 0 (K 3 3) (K 5)).2.2.1) (M := (kCt (K 4) (K 3 1) 60 1 0 (K 3 3) (K 5)).2.2.2) (by omega) hkb.1 hkb.2.1
    have q6 : (kCt (K 4) (K 3 1) 60 1 0 (K 3 3) (K 5)).2.1 = (rdR (A 6) (F 10) (A 7) (A 8)).2.1.1 := by rw [q5, e31, e4]
    rw [e31, e4] at w1
    have hK := hV1.2.2.2.2.2.1
    refine dO_t hG wr_read_1 (Or.inr ⟨rfl, rfl⟩) hC (gH_k hG) (fun h0 => kX7_read_w (en := en) (h0 := h0) (lv := lv) (A := A) (F := F) hj9 hi hL hA6 hN8 hA2 f10.1 f10.2 w1) (by decide) rfl (gM_K hM (fun i j => ?_) ?_ ?_ ?_ ?_ ?_ rfl r613.1 ?_ (show (0 : Int) ≤ 0 ∧ (0 : Int) ≤ 60 by decide) rfl rfl hL ?_ rfl rfl hA6 ?_) (by decide) trivial
    · exact zv_R (zv_R hK (by omega)) (by decide) i j
    · exact (zv_ne _ _ (by decide)).trans ((zv_ne _ _ (by decide)).trans (kE_S.1 1 (by decide) (by decide) (by decide)))
    · exact ((zv_ne _ _ (by decide)).trans ((zv_ne _ _ (by decide)).trans kS_4)).trans e4
    · rw [zv_ne _ _ (by decide), zv_at, zu_ne _ (by decide), kS_0]; exact e04
    · rw [zv_ne _ _ (by decide), zv_at, zu_ne _ (by decide), kS_0]; exact e05
    · rw [zv_ne _ _ (by decide), zv_at, zu_at, q6]; rfl
    · show -1 ≤ (rdR (A 6) (F 10) (A 7) (A 8)).2.1.1 ∧ (rdR (A 6) (F 10) (A 7) (A 8)).2.1.1 ≤ 60
      rw [← q6]; omega
    · exact zcpy_R hi.1.1 hA2
    · exact ho.2.2.2.2.2.2.2
  · have hKN : ∀ k : Nat, (k : Int) < (E : Int) + 1 → okE (K 4) (K 3 1) k := fun k hk => by
      by_cases q : k = E
      · subst q
        have := w1
        rw [q3.1] at this
        exact this
      · exact (q3.2.1 k (by omega)).1
    have hKN2 := fun (k : Nat) (hk : (k : Int) < (E : Int) + 1) => q3.2.2 k (by omega) (hKN k hk)
    have bf : ∀ i : Int, 0 ≤ i → i < 462 → zcpy s (A 2) 0 0 462 i = s i := fun i i1 i2 => rcB_at i1 i2
    rw [e31, e4] at w1 q2 hKN2 q3
    obtain ⟨a2, K2, X2, p1, p2, p3, p4, p5, p6, p7, p8⟩ := rd_do (en := en) (h := g) (lv := lv) (F := va_up (va_up (va_up (fN F (rdR (A 6) (F 10) (A 7) (A 8)).2.1.2 (rdR (A 6) (F 10) (A 7) (A 8)).2.1.1 (rdR (A 6) (F 10) (A 7) (A 8)).1) 10 0) 13 (F 13)) 7 0) (b0 := zcpy s (A 2) 0 0 462) (n := ((rdR (A 6) (F 10) (A 7) (A 8)).1 - 0).toNat) (KN := (rdR (A 6) (F 10) (A 7) (A 8)).2.2.1) (N := (rdR (A 6) (F 10) (A 7) (A 8)).2.2.2) hV hc (hM.2.2.1 _) hbO hub hL e05 r613.1 rfl w2 (by omega) (by omega) (by omega) hKN (by rw [e4, e31]; exact hKN2) ho.2.2.2.2.2.2.2 (zcpy_R hi.1.1 hA2) bf
    have hK2 := p3.2.2.2.2.2.1
    have hM2 : ∀ F9 : Nat → Int, (∀ j, j ≠ 7 → F9 j = (rEx (rdR (A 6) (F 10) (A 7) (A 8)).2.2.1 (rdR (A 6) (F 10) (A 7) (A 8)).2.2.2 (zcpy s (A 2) 0 0 462) ((rdR (A 6) (F 10) (A 7) (A 8)).1 - 0).toNat 0 s lv (va_up (va_up (va_up (fN F (rdR (A 6) (F 10) (A 7) (A 8)).2.1.2 (rdR (A 6) (F 10) (A 7) (A 8)).2.1.1 (rdR (A 6) (F 10) (A 7) (A 8)).1) 10 0) 13 (F 13)) 7 0)).2.2 j) → gM (zv K2 3 (zu (K2 3) 1 0)) Z s (rEx (rdR (A 6) (F 10) (A 7) (A 8)).2.2.1 (rdR (A 6) (F 10) (A 7) (A 8)).2.2.2 (zcpy s (A 2) 0 0 462) ((rdR (A 6) (F 10) (A 7) (A 8)).1 - 0).toNat 0 s lv (va_up (va_up (va_up (fN F (rdR (A 6) (F 10) (A 7) (A 8)).2.1.2 (rdR (A 6) (F 10) (A 7) (A 8)).2.1.1 (rdR (A 6) (F 10) (A 7) (A 8)).1) 10 0) 13 (F 13)) 7 0)).2.1 (aN A (rdR (A 6) (F 10) (A 7) (A 8)).2.2.1 (rdR (A 6) (F 10) (A 7) (A 8)).2.2.2) F9 := fun F9 h9 => by
      refine gM_K hM (fun i j => ?_) ((zv_ne _ _ (by decide)).trans (p2.1 1 (by decide) (by decide) (by decide))) ((zv_ne _ _ (by decide)).trans ((p2.1 4 (by decide) (by decide) (by decide)).trans e4)) ?_ ?_ ?_ ?_ ?_ ?_ ?_ ?_ ?_ p6 hA2 rfl rfl hA6 ho.2.2.2.2.2.2.2
      · exact zv_R hK2 (by decide) i j
      · rw [zv_ne _ _ (by decide), p2.2.1 4 (by decide)]; exact e04
      · rw [zv_ne _ _ (by decide), p4, h9 6 (by decide)]
      · rw [zv_ne _ _ (by decide), p2.2.1 6 (by decide), h9 13 (by decide), p7 13 (by decide) (by decide)]; exact e06
      · rw [zv_at, zu_at, h9 10 (by decide), p7 10 (by decide) (by decide)]; rfl
      · rw [h9 6 (by decide)]; exact p5
      · rw [h9 13 (by decide), p7 13 (by decide) (by decide)]; exact r613.2
      · rw [h9 10 (by decide), p7 10 (by decide) (by decide)]; show (0 : Int) ≤ 0 ∧ (0 : Int) ≤ 60; decide
      · rw [h9 3 (by decide), p7 3 (by decide) (by decide)]; rfl
      · rw [h9 5 (by decide), p7 5 (by decide) (by decide)]; rfl
    have x5 := p7 5 (by decide) (by decide)
    have x5 : (rEx (rdR (A 6) (F 10) (A 7) (A 8)).2.2.1 (rdR (A 6) (F 10) (A 7) (A 8)).2.2.2 (zcpy s (A 2) 0 0 462) ((rdR (A 6) (F 10) (A 7) (A 8)).1 - 0).toNat 0 s lv (va_up (va_up (va_up (fN F (rdR (A 6) (F 10) (A 7) (A 8)).2.1.2 (rdR (A 6) (F 10) (A 7) (A 8)).2.1.1 (rdR (A 6) (F 10) (A 7) (A 8)).1) 10 0) 13 (F 13)) 7 0)).2.2 5 = F 5 := x5
    rcases p8 with ⟨c1, c2, c3⟩ | ⟨c1, c2, c3, c4⟩
    · rw [gH_id hG] at c3
      have hM3 := hM2 (rEx (rdR (A 6) (F 10) (A 7) (A 8)).2.2.1 (rdR (A 6) (F 10) (A 7) (A 8)).2.2.2 (zcpy s (A 2) 0 0 462) ((rdR (A 6) (F 10) (A 7) (A 8)).1 - 0).toNat 0 s lv (va_up (va_up (va_up (fN F (rdR (A 6) (F 10) (A 7) (A 8)).2.1.2 (rdR (A 6) (F 10) (A 7) (A 8)).2.1.1 (rdR (A 6) (F 10) (A 7) (A 8)).1) 10 0) 13 (F 13)) 7 0)).2.2 (fun _ _ => rfl)
      have hk1 : zv K2 3 (zu (K2 3) 1 0) 1 1 = K 1 1 := by rw [zv_ne _ _ (by decide), p2.1 1 (by decide) (by decide) (by decide)]
      have hch := gM_chg hM3 (X2 := X2) (s2 := (rEx (rdR (A 6) (F 10) (A 7) (A 8)).2.2.1 (rdR (A 6) (F 10) (A 7) (A 8)).2.2.2 (zcpy s (A 2) 0 0 462) ((rdR (A 6) (F 10) (A 7) (A 8)).1 - 0).toNat 0 s lv (va_up (va_up (va_up (fN F (rdR (A 6) (F 10) (A 7) (A 8)).2.1.2 (rdR (A 6) (F 10) (A 7) (A 8)).2.1.1 (rdR (A 6) (F 10) (A 7) (A 8)).1) 10 0) 13 (F 13)) 7 0)).1) (lv2 := (rEx (rdR (A 6) (F 10) (A 7) (A 8)).2.2.1 (rdR (A 6) (F 10) (A 7) (A 8)).2.2.2 (zcpy s (A 2) 0 0 462) ((rdR (A 6) (F 10) (A 7) (A 8)).1 - 0).toNat 0 s lv (va_up (va_up (va_up (fN F (rdR (A 6) (F 10) (A 7) (A 8)).2.1.2 (rdR (A 6) (F 10) (A 7) (A 8)).2.1.1 (rdR (A 6) (F 10) (A 7) (A 8)).1) 10 0) 13 (F 13)) 7 0)).2.1) (F2 := va_up (rEx (rdR (A 6) (F 10) (A 7) (A 8)).2.2.1 (rdR (A 6) (F 10) (A 7) (A 8)).2.2.2 (zcpy s (A 2) 0 0 462) ((rdR (A 6) (F 10) (A 7) (A 8)).1 - 0).toNat 0 s lv (va_up (va_up (va_up (fN F (rdR (A 6) (F 10) (A 7) (A 8)).2.1.2 (rdR (A 6) (F 10) (A 7) (A 8)).2.1.1 (rdR (A 6) (F 10) (A 7) (A 8)).1) 10 0) 13 (F 13)) 7 0)).2.2 5 (hPn ((rEx (rdR (A 6) (F 10) (A 7) (A 8)).2.2.1 (rdR (A 6) (F 10) (A 7) (A 8)).2.2.2 (zcpy s (A 2) 0 0 462) ((rdR (A 6) (F 10) (A 7) (A 8)).1 - 0).toNat 0 s lv (va_up (va_up (va_up (fN F (rdR (A 6) (F 10) (A 7) (A 8)).2.1.2 (rdR (A 6) (F 10) (A 7) (A 8)).2.1.1 (rdR (A 6) (F 10) (A 7) (A 8)).1) 10 0) 13 (F 13)) 7 0)).2.2 5))) c2 p6 ⟨rfl, rfl, rfl, rfl, rfl⟩
      rw [hk1] at hch
      unfold rcA rcB at hch
      rw [x5] at hch
      exact dO_k hG wr_read_k (Or.inr ⟨rfl, rfl⟩) c3 (gH_c hG p1 (by omega) (by omega)) (fun h0 => kX7_read_k (en := en) (h0 := h0) (lv := lv) (A := A) (F := F) hj9 hi hL hA6 hN8 hA2 f10.1 f10.2 w1 c1 f5.1 f5.2) (by decide) (by rw [q2]) c1 hch trivial
    · rw [gH_id hG] at c4
      have hM3 := gM_A2 (hM2 (rEx (rdR (A 6) (F 10) (A 7) (A 8)).2.2.1 (rdR (A 6) (F 10) (A 7) (A 8)).2.2.2 (zcpy s (A 2) 0 0 462) ((rdR (A 6) (F 10) (A 7) (A 8)).1 - 0).toNat 0 s lv (va_up (va_up (va_up (fN F (rdR (A 6) (F 10) (A 7) (A 8)).2.1.2 (rdR (A 6) (F 10) (A 7) (A 8)).2.1.1 (rdR (A 6) (F 10) (A 7) (A 8)).1) 10 0) 13 (F 13)) 7 0)).2.2 (fun _ _ => rfl)) (b := zcpy s (A 2) 0 0 462) (zcpy_R hi.1.1 hA2)
      have hsR : ∀ i, zR ((rEx (rdR (A 6) (F 10) (A 7) (A 8)).2.2.1 (rdR (A 6) (F 10) (A 7) (A 8)).2.2.2 (zcpy s (A 2) 0 0 462) ((rdR (A 6) (F 10) (A 7) (A 8)).1 - 0).toNat 0 s lv (va_up (va_up (va_up (fN F (rdR (A 6) (F 10) (A 7) (A 8)).2.1.2 (rdR (A 6) (F 10) (A 7) (A 8)).2.1.1 (rdR (A 6) (F 10) (A 7) (A 8)).1) 10 0) 13 (F 13)) 7 0)).1 i) := (rEx_ok ho.2.2.2.2.2.2.2 (zcpy_R hi.1.1 hA2) _ _ s lv _ hi hL rfl).1
      have hk1 : zv K2 3 (zu (K2 3) 1 0) 1 1 = K 1 1 := by rw [zv_ne _ _ (by decide), p2.1 1 (by decide) (by decide) (by decide)]
      have hrb := gM_rb hM3 (Y2 := xcp (Z (2 + K 1 1)) (Z 0)) (X2 := X2) (s2 := (rEx (rdR (A 6) (F 10) (A 7) (A 8)).2.2.1 (rdR (A 6) (F 10) (A 7) (A 8)).2.2.2 (zcpy s (A 2) 0 0 462) ((rdR (A 6) (F 10) (A 7) (A 8)).1 - 0).toNat 0 s lv (va_up (va_up (va_up (fN F (rdR (A 6) (F 10) (A 7) (A 8)).2.1.2 (rdR (A 6) (F 10) (A 7) (A 8)).2.1.1 (rdR (A 6) (F 10) (A 7) (A 8)).1) 10 0) 13 (F 13)) 7 0)).1) (xcp_R (hM.2.2.1 _) hc.1) (cS_ext c3 hsR c2)
      rw [hk1] at hrb
      exact dO_t hG wr_read_2 (Or.inr ⟨rfl, rfl⟩) c4 (gH_c hG p1 (by omega) (by omega)) (fun h0 => kX7_read_f (en := en) (h0 := h0) (lv := lv) (A := A) (F := F) hj9 hi hL hA6 hN8 hA2 f10.1 f10.2 w1 c1) (by decide) c1 hrb (by decide) trivial
end doc
