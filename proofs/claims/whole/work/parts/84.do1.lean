/-! each call that only answers -/
section dor
variable {en : pz_Env} {g : pz_H} {t : Int → Nat} {r : Nat → Nat} {o : Nat}
theorem do_cueAt {i : Int} (h1 : zR i) (hS : gS g t r o) : dO en 245 135 [.int (zI i)] (fun _ => True) g t r o := by
  obtain ⟨u, B, K, Z, s, lv, A, F, hG, hM⟩ := hS
  have hV := gH_cV hG hM
  have hc := hM.2.1
  have hcr := hc.2.2.1
  have hi := hc.2.1
  have hb := hi.1.2
  have hn := cR_n hcr
  have hm := cR_m hcr
  have hX := hV.2.2.2.2.1.1
  have hj9 := hG.1.1.2.2
  have f5 := hM.1.2.2.1
  have k11 := hM.1.2.1
  have hL := hM.2.2.2.2.2.2.2.1
  have hB2 := rcB_R hM
  have hbO := gH_bO hG (k := 2 + K 1 1) (by omega) (by omega)
  have hub := hG.2.1 (2 + K 1 1) (by omega) (by omega)
  have hpA := pA_rf hV.1
  obtain ⟨e4, e31, e05, e06, e04, e12⟩ := hM.2.2.2.1
  have r613 := hM.2.2.2.2.1
  by_cases g1 : 0 ≤ i ∧ i < Z 0 1 1
  · have hk := hcr.2.2.1 i g1.1 (by omega)
    have hC := kX6_cueAt_k (en := en) (h := g) hV h1 g1.1 g1.2
    rw [gH_id hG] at hC
    exact dO_k hG wr_cueAt_k (Or.inl ⟨rfl, rfl⟩) hC hG (fun h0 => kX7_cueAt_k (en := en) (h0 := h0) (lv := lv) (A := A) (F := F) hj9 hi h1 g1.1 (by omega)) (by decide) (by rw [hk.1]) rfl (gM_F hM ⟨rfl, rfl, rfl, rfl, rfl⟩) trivial
  · skip
    have hC := kX6_cueAt_t (en := en) (h := g) hV h1 g1
    rw [gH_id hG] at hC
    exact dO_t hG wr_cueAt_1 (Or.inr ⟨rfl, rfl⟩) hC hG (fun h0 => kX7_cueAt_t (en := en) (h0 := h0) (lv := lv) (A := A) (F := F) hj9 hi h1 (by omega)) (by decide) rfl (gM_F hM ⟨rfl, rfl, rfl, rfl, rfl⟩) (by decide) trivial
theorem do_cue {n q : Int} (h1 : zR n) (h2 : zR q) (hS : gS g t r o) : dO en 216 153 [.int (zI n), .int (zI q)] (fun _ => True) g t r o := by
  obtain ⟨u, B, K, Z, s, lv, A, F, hG, hM⟩ := hS
  have hV := gH_cV hG hM
  have hc := hM.2.1
  have hcr := hc.2.2.1
  have hi := hc.2.1
  have hb := hi.1.2
  have hn := cR_n hcr
  have hm := cR_m hcr
  have hX := hV.2.2.2.2.1.1
  have hj9 := hG.1.1.2.2
  have f5 := hM.1.2.2.1
  have k11 := hM.1.2.1
  have hL := hM.2.2.2.2.2.2.2.1
  have hB2 := rcB_R hM
  have hbO := gH_bO hG (k := 2 + K 1 1) (by omega) (by omega)
  have hub := hG.2.1 (2 + K 1 1) (by omega) (by omega)
  have hpA := pA_rf hV.1
  obtain ⟨e4, e31, e05, e06, e04, e12⟩ := hM.2.2.2.1
  have r613 := hM.2.2.2.2.1
  have hq := cR_ix hcr n
  have hp := xix_R hX n
  by_cases g1 : 0 ≤ xix (Z 0) n
  · skip
    have hlt : xix (Z 0) n < s 0 := by omega
    have hk := (rpl_val (s := s) (cue := n) (by omega)).1
    rw [← hq] at hk
    have hcu := hcr.2.2.1 _ g1 hlt
    by_cases w0 : q = 0
    · subst w0
      have hC := kX6_cue_0 (en := en) (h := g) hV h1 g1
      rw [gH_id hG] at hC
      exact dO_k hG wr_cue_k (Or.inl ⟨rfl, rfl⟩) hC hG (fun h0 => kX7_cue_0 (en := en) (h0 := h0) (lv := lv) (A := A) (F := F) hj9 hi h1 (by omega)) (by decide) (by rw [hq]) rfl (gM_F hM ⟨rfl, rfl, rfl, rfl, rfl⟩) trivial
    by_cases w1 : q = 1
    · subst w1
      have hC := kX6_cue_1 (en := en) (h := g) hV h1 g1
      rw [gH_id hG] at hC
      exact dO_k hG wr_cue_k (Or.inl ⟨rfl, rfl⟩) hC hG (fun h0 => kX7_cue_1 (en := en) (h0 := h0) (lv := lv) (A := A) (F := F) hj9 hi h1 (by omega)) (by decide) (by rw [← hq, hcu.2.1]) rfl (gM_F hM ⟨rfl, rfl, rfl, rfl, rfl⟩) trivial
    by_cases w2 : q = 2
    · subst w2
      have hC := kX6_cue_2 (en := en) (h := g) hV h1 g1
      rw [gH_id hG] at hC
      exact dO_k hG wr_cue_k (Or.inl ⟨rfl, rfl⟩) hC hG (fun h0 => kX7_cue_2 (en := en) (h0 := h0) (lv := lv) (A := A) (F := F) hj9 hi h1 (by omega)) (by decide) (by rw [← hq, hcu.2.2.1, bI_nz (hi.2.1 _ g1 hlt).2.2.1]) rfl (gM_F hM ⟨rfl, rfl, rfl, rfl, rfl⟩) trivial
    by_cases w3 : q = 3
    · subst w3
      have hC := kX6_cue_3 (en := en) (h := g) hV h1 g1
      rw [gH_id hG] at hC
      exact dO_k hG wr_cue_k (Or.inl ⟨rfl, rfl⟩) hC hG (fun h0 => kX7_cue_3 (en := en) (h0 := h0) (lv := lv) (A := A) (F := F) hj9 hi h1 (by omega)) (by decide) (by rw [← hq, hcu.2.2.2, bI_nz (hi.2.1 _ g1 hlt).2.2.2]) rfl (gM_F hM ⟨rfl, rfl, rfl, rfl, rfl⟩) trivial
    by_cases w4 : q = 4
    · subst w4
      have hC := kX6_cue_4 (en := en) (h := g) hV h1 g1
      rw [gH_id hG] at hC
      exact dO_k hG wr_cue_k (Or.inl ⟨rfl, rfl⟩) hC hG (fun h0 => kX7_cue_4 (en := en) (h0 := h0) (lv := lv) (A := A) (F := F) hj9 hi h1 (by omega)) (by decide) (by rw [cR_ic hi hcr g1 hlt, hk]) rfl (gM_F hM ⟨rfl, rfl, rfl, rfl, rfl⟩) trivial
    by_cases w5 : q = 5
    · subst w5
      have hC := kX6_cue_5 (en := en) (h := g) hV h1 g1
      rw [gH_id hG] at hC
      exact dO_k hG wr_cue_k (Or.inl ⟨rfl, rfl⟩) hC hG (fun h0 => kX7_cue_5 (en := en) (h0 := h0) (lv := lv) (A := A) (F := F) hj9 hi h1 (by omega)) (by decide) (by rw [cR_xmv hi hcr g1 hlt, hq]) rfl (gM_F hM ⟨rfl, rfl, rfl, rfl, rfl⟩) trivial
    by_cases w6 : q = 6
    · subst w6
      have hC := kX6_cue_6 (en := en) (h := g) hV h1 g1
      rw [gH_id hG] at hC
      exact dO_k hG wr_cue_k (Or.inl ⟨rfl, rfl⟩) hC hG (fun h0 => kX7_cue_6 (en := en) (h0 := h0) (lv := lv) (A := A) (F := F) hj9 hi h1 (by omega)) (by decide) (by rw [cR_lgF hi hcr g1 hlt 12 (Nat.le_refl _), hk]) rfl (gM_F hM ⟨rfl, rfl, rfl, rfl, rfl⟩) trivial
    have hC := kX6_cue_t2 (en := en) (h := g) hV h1 h2 g1 (by omega)
    rw [gH_id hG] at hC
    exact dO_t hG wr_cue_2 (Or.inr ⟨rfl, rfl⟩) hC hG (fun h0 => kX7_cue_t2 (en := en) (h0 := h0) (lv := lv) (A := A) (F := F) hj9 hi h1 h2 (by omega) (by omega)) (by decide) rfl (gM_F hM ⟨rfl, rfl, rfl, rfl, rfl⟩) (by decide) trivial
  · skip
    have hC := kX6_cue_t1 (en := en) (h := g) hV h1 h2 g1
    rw [gH_id hG] at hC
    exact dO_t hG wr_cue_1 (Or.inr ⟨rfl, rfl⟩) hC hG (fun h0 => kX7_cue_t1 (en := en) (h0 := h0) (lv := lv) (A := A) (F := F) hj9 hi h1 h2 (by omega)) (by decide) rfl (gM_F hM ⟨rfl, rfl, rfl, rfl, rfl⟩) (by decide) trivial
theorem do_part {n c : Int} (h1 : zR n) (h2 : zR c) {dl : Prop} [dd : Decidable dl] (hS : gS g t r o) : dO en 217 143 [.int (zI n), .int (zI c), .int (zI (bI dl))] (fun _ => True) g t r o := by
  obtain ⟨u, B, K, Z, s, lv, A, F, hG, hM⟩ := hS
  have hV := gH_cV hG hM
  have hc := hM.2.1
  have hcr := hc.2.2.1
  have hi := hc.2.1
  have hb := hi.1.2
  have hn := cR_n hcr
  have hm := cR_m hcr
  have hX := hV.2.2.2.2.1.1
  have hj9 := hG.1.1.2.2
  have f5 := hM.1.2.2.1
  have k11 := hM.1.2.1
  have hL := hM.2.2.2.2.2.2.2.1
  have hB2 := rcB_R hM
  have hbO := gH_bO hG (k := 2 + K 1 1) (by omega) (by omega)
  have hub := hG.2.1 (2 + K 1 1) (by omega) (by omega)
  have hpA := pA_rf hV.1
  obtain ⟨e4, e31, e05, e06, e04, e12⟩ := hM.2.2.2.1
  have r613 := hM.2.2.2.2.1
  have hq := cR_ix hcr n
  have hp := xix_R hX n
  by_cases g1 : 0 ≤ xix (Z 0) n ∧ 0 ≤ c ∧ c ≤ 3
  · skip
    have hlt : xix (Z 0) n < s 0 := by omega
    have hpt := hcr.2.2.2.1 _ c g1.1 hlt g1.2.1 g1.2.2
    have hev : Z 0 (7 + 5 * xix (Z 0) n + (if dl then 1 else 2)) c = s (18 + 12 * rpl s n + 4 + 2 * c + (if dl then 0 else 1)) := by
      rw [← hq]
      by_cases q : dl
      · rw [if_pos q, if_pos q, hpt.1, Int.add_zero]
      · rw [if_neg q, if_neg q, hpt.2]
    have hC := kX6_part_k (en := en) (h := g) hV h1 h2 (dl := dl) g1.1 g1.2
    rw [gH_id hG] at hC
    exact dO_k hG wr_part_k (Or.inl ⟨rfl, rfl⟩) hC hG (fun h0 => kX7_part_k (en := en) (h0 := h0) (lv := lv) (A := A) (F := F) hj9 hi h1 h2 (dl := dl) (by omega) g1.2.1 g1.2.2) (by decide) (by rw [hev]) rfl (gM_F hM ⟨rfl, rfl, rfl, rfl, rfl⟩) trivial
  · skip
    have hC := kX6_part_t (en := en) (h := g) hV h1 h2 (dl := dl) g1
    rw [gH_id hG] at hC
    exact dO_t hG wr_part_1 (Or.inr ⟨rfl, rfl⟩) hC hG (fun h0 => kX7_part_t (en := en) (h0 := h0) (lv := lv) (A := A) (F := F) hj9 hi h1 h2 (dl := dl) (by omega)) (by decide) rfl (gM_F hM ⟨rfl, rfl, rfl, rfl, rfl⟩) (by decide) trivial
theorem do_instruction {i q : Int} (h1 : zR i) (h2 : zR q) (hS : gS g t r o) : dO en 222 167 [.int (zI i), .int (zI q)] (fun _ => True) g t r o := by
  obtain ⟨u, B, K, Z, s, lv, A, F, hG, hM⟩ := hS
  have hV := gH_cV hG hM
  have hc := hM.2.1
  have hcr := hc.2.2.1
  have hi := hc.2.1
  have hb := hi.1.2
  have hn := cR_n hcr
  have hm := cR_m hcr
  have hX := hV.2.2.2.2.1.1
  have hj9 := hG.1.1.2.2
  have f5 := hM.1.2.2.1
  have k11 := hM.1.2.1
  have hL := hM.2.2.2.2.2.2.2.1
  have hB2 := rcB_R hM
  have hbO := gH_bO hG (k := 2 + K 1 1) (by omega) (by omega)
  have hub := hG.2.1 (2 + K 1 1) (by omega) (by omega)
  have hpA := pA_rf hV.1
  obtain ⟨e4, e31, e05, e06, e04, e12⟩ := hM.2.2.2.1
  have r613 := hM.2.2.2.2.1
  by_cases g1 : 0 ≤ i ∧ i < Z 0 1 5
  · skip
    have hl1 := hcr.2.2.2.2.1 i g1.1 (by omega)
    have hl2 := cR_ll hi hcr g1.1 (show i < s 1 by omega)
    by_cases w0 : q = 0
    · subst w0
      have hC := kX6_instruction_0 (en := en) (h := g) hV h1 g1
      rw [gH_id hG] at hC
      exact dO_k hG wr_instruction_k (Or.inl ⟨rfl, rfl⟩) hC hG (fun h0 => kX7_instruction_k (en := en) (h0 := h0) (lv := lv) (A := A) (F := F) hj9 hi h1 h2 (by omega) (by decide)) (by decide) (by rw [hl1.1, Int.add_zero]) rfl (gM_F hM ⟨rfl, rfl, rfl, rfl, rfl⟩) trivial
    by_cases w1 : q = 1
    · subst w1
      have hC := kX6_instruction_1 (en := en) (h := g) hV h1 g1
      rw [gH_id hG] at hC
      exact dO_k hG wr_instruction_k (Or.inl ⟨rfl, rfl⟩) hC hG (fun h0 => kX7_instruction_k (en := en) (h0 := h0) (lv := lv) (A := A) (F := F) hj9 hi h1 h2 (by omega) (by decide)) (by decide) (by rw [hl1.2]) rfl (gM_F hM ⟨rfl, rfl, rfl, rfl, rfl⟩) trivial
    by_cases w2 : q = 2
    · subst w2
      have hC := kX6_instruction_2 (en := en) (h := g) hV h1 g1
      rw [gH_id hG] at hC
      exact dO_k hG wr_instruction_k (Or.inl ⟨rfl, rfl⟩) hC hG (fun h0 => kX7_instruction_k (en := en) (h0 := h0) (lv := lv) (A := A) (F := F) hj9 hi h1 h2 (by omega) (by decide)) (by decide) (by rw [hl2.1]) rfl (gM_F hM ⟨rfl, rfl, rfl, rfl, rfl⟩) trivial
    by_cases w3 : q = 3
    · subst w3
      have hC := kX6_instruction_3 (en := en) (h := g) hV h1 g1
      rw [gH_id hG] at hC
      exact dO_k hG wr_instruction_k (Or.inl ⟨rfl, rfl⟩) hC hG (fun h0 => kX7_instruction_k (en := en) (h0 := h0) (lv := lv) (A := A) (F := F) hj9 hi h1 h2 (by omega) (by decide)) (by decide) (by rw [hl2.2]) rfl (gM_F hM ⟨rfl, rfl, rfl, rfl, rfl⟩) trivial
    have hC := kX6_instruction_t2 (en := en) (h := g) hV h1 h2 g1 (by omega)
    rw [gH_id hG] at hC
    exact dO_t hG wr_instruction_2 (Or.inr ⟨rfl, rfl⟩) hC hG (fun h0 => kX7_instruction_t2 (en := en) (h0 := h0) (lv := lv) (A := A) (F := F) hj9 hi h1 h2 (by omega) (by omega)) (by decide) rfl (gM_F hM ⟨rfl, rfl, rfl, rfl, rfl⟩) (by decide) trivial
  · skip
    have hC := kX6_instruction_t1 (en := en) (h := g) hV h1 h2 g1
    rw [gH_id hG] at hC
    exact dO_t hG wr_instruction_1 (Or.inr ⟨rfl, rfl⟩) hC hG (fun h0 => kX7_instruction_t1 (en := en) (h0 := h0) (lv := lv) (A := A) (F := F) hj9 hi h1 h2 (by omega)) (by decide) rfl (gM_F hM ⟨rfl, rfl, rfl, rfl, rfl⟩) (by decide) trivial
theorem do_level {n c : Int} (h1 : zR n) (h2 : zR c) (hS : gS g t r o) : dO en 223 168 [.int (zI n), .int (zI c)] (fun _ => True) g t r o := by
  obtain ⟨u, B, K, Z, s, lv, A, F, hG, hM⟩ := hS
  have hV := gH_cV hG hM
  have hc := hM.2.1
  have hcr := hc.2.2.1
  have hi := hc.2.1
  have hb := hi.1.2
  have hn := cR_n hcr
  have hm := cR_m hcr
  have hX := hV.2.2.2.2.1.1
  have hj9 := hG.1.1.2.2
  have f5 := hM.1.2.2.1
  have k11 := hM.1.2.1
  have hL := hM.2.2.2.2.2.2.2.1
  have hB2 := rcB_R hM
  have hbO := gH_bO hG (k := 2 + K 1 1) (by omega) (by omega)
  have hub := hG.2.1 (2 + K 1 1) (by omega) (by omega)
  have hpA := pA_rf hV.1
  obtain ⟨e4, e31, e05, e06, e04, e12⟩ := hM.2.2.2.1
  have r613 := hM.2.2.2.2.1
  have hq := cR_ix hcr n
  have hp := xix_R hX n
  by_cases g1 : 0 ≤ xix (Z 0) n ∧ 0 ≤ c ∧ c ≤ 11
  · have hlt : xix (Z 0) n < s 0 := by omega
    have hC := kX6_level_k (en := en) (h := g) hV h1 h2 g1.1 g1.2
    rw [gH_id hG] at hC
    exact dO_k hG wr_level_k (Or.inl ⟨rfl, rfl⟩) hC hG (fun h0 => kX7_level_k (en := en) (h0 := h0) (lv := lv) (A := A) (F := F) hj9 hi h1 h2 (by omega) g1.2.1 g1.2.2) (by decide) (by rw [cR_lv hi hcr (by omega) hlt g1.2.1 g1.2.2, hq]) rfl (gM_F hM ⟨rfl, rfl, rfl, rfl, rfl⟩) trivial
  · skip
    have hC := kX6_level_t (en := en) (h := g) hV h1 h2 g1
    rw [gH_id hG] at hC
    exact dO_t hG wr_level_1 (Or.inr ⟨rfl, rfl⟩) hC hG (fun h0 => kX7_level_t (en := en) (h0 := h0) (lv := lv) (A := A) (F := F) hj9 hi h1 h2 (by omega)) (by decide) rfl (gM_F hM ⟨rfl, rfl, rfl, rfl, rfl⟩) (by decide) trivial
theorem do_levelAgain {n c : Int} (h1 : zR n) (h2 : zR c) (hS : gS g t r o) : dO en 224 169 [.int (zI n), .int (zI c)] (fun _ => True) g t r o := by
  obtain ⟨u, B, K, Z, s, lv, A, F, hG, hM⟩ := hS
  have hV := gH_cV hG hM
  have hc := hM.2.1
  have hcr := hc.2.2.1
  have hi := hc.2.1
  have hb := hi.1.2
  have hn := cR_n hcr
  have hm := cR_m hcr
  have hX := hV.2.2.2.2.1.1
  have hj9 := hG.1.1.2.2
  have f5 := hM.1.2.2.1
  have k11 := hM.1.2.1
  have hL := hM.2.2.2.2.2.2.2.1
  have hB2 := rcB_R hM
  have hbO := gH_bO hG (k := 2 + K 1 1) (by omega) (by omega)
  have hub := hG.2.1 (2 + K 1 1) (by omega) (by omega)
  have hpA := pA_rf hV.1
  obtain ⟨e4, e31, e05, e06, e04, e12⟩ := hM.2.2.2.1
  have r613 := hM.2.2.2.2.1
  have hq := cR_ix hcr n
  have hp := xix_R hX n
  by_cases g1 : 0 ≤ xix (Z 0) n ∧ 0 ≤ c ∧ c ≤ 11
  · have hlt : xix (Z 0) n < s 0 := by omega
    have hC := kX6_levelAgain_k (en := en) (h := g) hV h1 h2 g1.1 g1.2
    rw [gH_id hG] at hC
    exact dO_k hG wr_levelAgain_k (Or.inl ⟨rfl, rfl⟩) hC hG (fun h0 => kX7_levelAgain_k (en := en) (h0 := h0) (lv := lv) (A := A) (F := F) hj9 hi h1 h2 (by omega) g1.2.1 g1.2.2) (by decide) (by rw [cR_lv hi hcr (by omega) hlt g1.2.1 g1.2.2, hq]) rfl (gM_F hM ⟨rfl, rfl, rfl, rfl, rfl⟩) trivial
  · skip
    have hC := kX6_levelAgain_t (en := en) (h := g) hV h1 h2 g1
    rw [gH_id hG] at hC
    exact dO_t hG wr_levelAgain_1 (Or.inr ⟨rfl, rfl⟩) hC hG (fun h0 => kX7_levelAgain_t (en := en) (h0 := h0) (lv := lv) (A := A) (F := F) hj9 hi h1 h2 (by omega)) (by decide) rfl (gM_F hM ⟨rfl, rfl, rfl, rfl, rfl⟩) (by decide) trivial
theorem do_source {n c : Int} (h1 : zR n) (h2 : zR c) (hS : gS g t r o) : dO en 225 171 [.int (zI n), .int (zI c)] (fun _ => True) g t r o := by
  obtain ⟨u, B, K, Z, s, lv, A, F, hG, hM⟩ := hS
  have hV := gH_cV hG hM
  have hc := hM.2.1
  have hcr := hc.2.2.1
  have hi := hc.2.1
  have hb := hi.1.2
  have hn := cR_n hcr
  have hm := cR_m hcr
  have hX := hV.2.2.2.2.1.1
  have hj9 := hG.1.1.2.2
  have f5 := hM.1.2.2.1
  have k11 := hM.1.2.1
  have hL := hM.2.2.2.2.2.2.2.1
  have hB2 := rcB_R hM
  have hbO := gH_bO hG (k := 2 + K 1 1) (by omega) (by omega)
  have hub := hG.2.1 (2 + K 1 1) (by omega) (by omega)
  have hpA := pA_rf hV.1
  obtain ⟨e4, e31, e05, e06, e04, e12⟩ := hM.2.2.2.1
  have r613 := hM.2.2.2.2.1
  have hq := cR_ix hcr n
  have hp := xix_R hX n
  by_cases g1 : 0 ≤ xix (Z 0) n ∧ 0 ≤ c ∧ c ≤ 11
  · have hlt : xix (Z 0) n < s 0 := by omega
    have hC := kX6_source_k (en := en) (h := g) hV h1 h2 g1.1 g1.2
    rw [gH_id hG] at hC
    exact dO_k hG wr_source_k (Or.inl ⟨rfl, rfl⟩) hC hG (fun h0 => kX7_source_k (en := en) (h0 := h0) (lv := lv) (A := A) (F := F) hj9 hi h1 h2 (by omega) g1.2) (by decide) (by rw [cR_sr hi hcr g1.2.1 g1.2.2 (by omega) _ (by omega), hq]) rfl (gM_F hM ⟨rfl, rfl, rfl, rfl, rfl⟩) trivial
  · skip
    have hC := kX6_source_t (en := en) (h := g) hV h1 h2 g1
    rw [gH_id hG] at hC
    exact dO_t hG wr_source_1 (Or.inr ⟨rfl, rfl⟩) hC hG (fun h0 => kX7_source_t (en := en) (h0 := h0) (lv := lv) (A := A) (F := F) hj9 hi h1 h2 (by omega)) (by decide) rfl (gM_F hM ⟨rfl, rfl, rfl, rfl, rfl⟩) (by decide) trivial
theorem do_sum {n : Int} (h1 : zR n) (hS : gS g t r o) : dO en 226 172 [.int (zI n)] (fun _ => True) g t r o := by
  obtain ⟨u, B, K, Z, s, lv, A, F, hG, hM⟩ := hS
  have hV := gH_cV hG hM
  have hc := hM.2.1
  have hcr := hc.2.2.1
  have hi := hc.2.1
  have hb := hi.1.2
  have hn := cR_n hcr
  have hm := cR_m hcr
  have hX := hV.2.2.2.2.1.1
  have hj9 := hG.1.1.2.2
  have f5 := hM.1.2.2.1
  have k11 := hM.1.2.1
  have hL := hM.2.2.2.2.2.2.2.1
  have hB2 := rcB_R hM
  have hbO := gH_bO hG (k := 2 + K 1 1) (by omega) (by omega)
  have hub := hG.2.1 (2 + K 1 1) (by omega) (by omega)
  have hpA := pA_rf hV.1
  obtain ⟨e4, e31, e05, e06, e04, e12⟩ := hM.2.2.2.1
  have r613 := hM.2.2.2.2.1
  have hq := cR_ix hcr n
  have hp := xix_R hX n
  by_cases g1 : 0 ≤ xix (Z 0) n
  · skip
    have hC := kX6_sum_k (en := en) (h := g) hV h1 g1
    rw [gH_id hG] at hC
    exact dO_k hG wr_sum_k (Or.inl ⟨rfl, rfl⟩) hC hG (fun h0 => kX7_sum_k (en := en) (h0 := h0) (lv := lv) (A := A) (F := F) hj9 hi h1 (by omega)) (by decide) (by rw [cR_slv hi hcr g1 (by omega), hq]) rfl (gM_F hM ⟨rfl, rfl, rfl, rfl, rfl⟩) trivial
  · skip
    have hC := kX6_sum_t (en := en) (h := g) hV h1 g1
    rw [gH_id hG] at hC
    exact dO_t hG wr_sum_1 (Or.inr ⟨rfl, rfl⟩) hC hG (fun h0 => kX7_sum_t (en := en) (h0 := h0) (lv := lv) (A := A) (F := F) hj9 hi h1 (by omega)) (by decide) rfl (gM_F hM ⟨rfl, rfl, rfl, rfl, rfl⟩) (by decide) trivial
theorem do_apart {n n2 : Int} (h1 : zR n) (h2 : zR n2) (hS : gS g t r o) : dO en 227 173 [.int (zI n), .int (zI n2)] (fun _ => True) g t r o := by
  obtain ⟨u, B, K, Z, s, lv, A, F, hG, hM⟩ := hS
  have hV := gH_cV hG hM
  have hc := hM.2.1
  have hcr := hc.2.2.1
  have hi := hc.2.1
  have hb := hi.1.2
  have hn := cR_n hcr
  have hm := cR_m hcr
  have hX := hV.2.2.2.2.1.1
  have hj9 := hG.1.1.2.2
  have f5 := hM.1.2.2.1
  have k11 := hM.1.2.1
  have hL := hM.2.2.2.2.2.2.2.1
  have hB2 := rcB_R hM
  have hbO := gH_bO hG (k := 2 + K 1 1) (by omega) (by omega)
  have hub := hG.2.1 (2 + K 1 1) (by omega) (by omega)
  have hpA := pA_rf hV.1
  obtain ⟨e4, e31, e05, e06, e04, e12⟩ := hM.2.2.2.1
  have r613 := hM.2.2.2.2.1
  have hq := cR_ix hcr n
  have hp := xix_R hX n
  have hq2 := cR_ix hcr n2
  have hp2 := xix_R hX n2
  by_cases g1 : 0 ≤ xix (Z 0) n ∧ 0 ≤ xix (Z 0) n2
  · skip
    have hC := kX6_apart_k (en := en) (h := g) hV h1 h2 g1.1 g1.2
    rw [gH_id hG] at hC
    exact dO_k hG wr_apart_k (Or.inl ⟨rfl, rfl⟩) hC hG (fun h0 => kX7_apart_k (en := en) (h0 := h0) (lv := lv) (A := A) (F := F) hj9 hi h1 h2 (by omega) (by omega)) (by decide) (by rw [cR_apt hi hcr g1.1 (by omega) g1.2 (by omega), hq, hq2]) rfl (gM_F hM ⟨rfl, rfl, rfl, rfl, rfl⟩) trivial
  · skip
    have hC := kX6_apart_t (en := en) (h := g) hV h1 h2 g1
    rw [gH_id hG] at hC
    exact dO_t hG wr_apart_1 (Or.inr ⟨rfl, rfl⟩) hC hG (fun h0 => kX7_apart_t (en := en) (h0 := h0) (lv := lv) (A := A) (F := F) hj9 hi h1 h2 (by omega)) (by decide) rfl (gM_F hM ⟨rfl, rfl, rfl, rfl, rfl⟩) (by decide) trivial
theorem do_reason  (hS : gS g t r o) : dO en 228 174 [] (fun _ => True) g t r o := by
  obtain ⟨u, B, K, Z, s, lv, A, F, hG, hM⟩ := hS
  have hV := gH_cV hG hM
  have hc := hM.2.1
  have hcr := hc.2.2.1
  have hi := hc.2.1
  have hb := hi.1.2
  have hn := cR_n hcr
  have hm := cR_m hcr
  have hX := hV.2.2.2.2.1.1
  have hj9 := hG.1.1.2.2
  have f5 := hM.1.2.2.1
  have k11 := hM.1.2.1
  have hL := hM.2.2.2.2.2.2.2.1
  have hB2 := rcB_R hM
  have hbO := gH_bO hG (k := 2 + K 1 1) (by omega) (by omega)
  have hub := hG.2.1 (2 + K 1 1) (by omega) (by omega)
  have hpA := pA_rf hV.1
  obtain ⟨e4, e31, e05, e06, e04, e12⟩ := hM.2.2.2.1
  have r613 := hM.2.2.2.2.1
  by_cases g1 : K 0 5 = 0
  · skip
    have hC := kX6_reason_t (en := en) (h := g) hV g1
    rw [gH_id hG] at hC
    exact dO_t hG wr_reason_1 (Or.inr ⟨rfl, rfl⟩) hC hG (fun h0 => kX7_reason_t (en := en) (h0 := h0) (lv := lv) (A := A) (F := F) hj9 hi (by omega)) (by decide) rfl (gM_F hM ⟨rfl, rfl, rfl, rfl, rfl⟩) (by decide) trivial
  · skip
    have hC := kX6_reason_k (en := en) (h := g) hV g1
    rw [gH_id hG] at hC
    exact dO_k hG wr_reason_k (Or.inl ⟨rfl, rfl⟩) hC hG (fun h0 => kX7_reason_k (en := en) (h0 := h0) (lv := lv) (A := A) (F := F) hj9 hi (by omega) (by omega)) (by decide) (by rw [e05]) rfl (gM_F hM ⟨rfl, rfl, rfl, rfl, rfl⟩) trivial
theorem do_errorPosition  (hS : gS g t r o) : dO en 240 210 [] (fun _ => True) g t r o := by
  obtain ⟨u, B, K, Z, s, lv, A, F, hG, hM⟩ := hS
  have hV := gH_cV hG hM
  have hc := hM.2.1
  have hcr := hc.2.2.1
  have hi := hc.2.1
  have hb := hi.1.2
  have hn := cR_n hcr
  have hm := cR_m hcr
  have hX := hV.2.2.2.2.1.1
  have hj9 := hG.1.1.2.2
  have f5 := hM.1.2.2.1
  have k11 := hM.1.2.1
  have hL := hM.2.2.2.2.2.2.2.1
  have hB2 := rcB_R hM
  have hbO := gH_bO hG (k := 2 + K 1 1) (by omega) (by omega)
  have hub := hG.2.1 (2 + K 1 1) (by omega) (by omega)
  have hpA := pA_rf hV.1
  obtain ⟨e4, e31, e05, e06, e04, e12⟩ := hM.2.2.2.1
  have r613 := hM.2.2.2.2.1
  by_cases g1 : K 0 6 = -1
  · skip
    have hC := kX6_errorPosition_t (en := en) (h := g) hV g1
    rw [gH_id hG] at hC
    exact dO_t hG wr_errorPosition_1 (Or.inr ⟨rfl, rfl⟩) hC hG (fun h0 => kX7_errorPosition_t (en := en) (h0 := h0) (lv := lv) (A := A) (F := F) hj9 hi (by omega) (by omega)) (by decide) rfl (gM_F hM ⟨rfl, rfl, rfl, rfl, rfl⟩) (by decide) trivial
  · skip
    have hC := kX6_errorPosition_k (en := en) (h := g) hV g1
    rw [gH_id hG] at hC
    exact dO_k hG wr_errorPosition_k (Or.inl ⟨rfl, rfl⟩) hC hG (fun h0 => kX7_errorPosition_k (en := en) (h0 := h0) (lv := lv) (A := A) (F := F) hj9 hi (by omega) (by omega)) (by decide) (by rw [e06]) rfl (gM_F hM ⟨rfl, rfl, rfl, rfl, rfl⟩) trivial
theorem do_now {c : Int} (h1 : zR c) (hS : gS g t r o) : dO en 233 190 [.int (zI c)] (fun _ => True) g t r o := by
  obtain ⟨u, B, K, Z, s, lv, A, F, hG, hM⟩ := hS
  have hV := gH_cV hG hM
  have hc := hM.2.1
  have hcr := hc.2.2.1
  have hi := hc.2.1
  have hb := hi.1.2
  have hn := cR_n hcr
  have hm := cR_m hcr
  have hX := hV.2.2.2.2.1.1
  have hj9 := hG.1.1.2.2
  have f5 := hM.1.2.2.1
  have k11 := hM.1.2.1
  have hL := hM.2.2.2.2.2.2.2.1
  have hB2 := rcB_R hM
  have hbO := gH_bO hG (k := 2 + K 1 1) (by omega) (by omega)
  have hub := hG.2.1 (2 + K 1 1) (by omega) (by omega)
  have hpA := pA_rf hV.1
  obtain ⟨e4, e31, e05, e06, e04, e12⟩ := hM.2.2.2.1
  have r613 := hM.2.2.2.2.1
  by_cases g1 : 0 ≤ c ∧ c ≤ 11
  · skip
    have hC := kX6_now_k (en := en) (h := g) hV h1 g1
    rw [gH_id hG] at hC
    exact dO_k hG wr_now_k (Or.inl ⟨rfl, rfl⟩) hC hG (fun h0 => kX7_now_k (en := en) (h0 := h0) (lv := lv) (A := A) (F := F) hj9 hi h1 g1.1 g1.2) (by decide) (by rw [cR_now hi hcr g1.1 g1.2]) rfl (gM_F hM ⟨rfl, rfl, rfl, rfl, rfl⟩) trivial
  · skip
    have hC := kX6_now_t (en := en) (h := g) hV h1 g1
    rw [gH_id hG] at hC
    exact dO_t hG wr_now_1 (Or.inr ⟨rfl, rfl⟩) hC hG (fun h0 => kX7_now_t (en := en) (h0 := h0) (lv := lv) (A := A) (F := F) hj9 hi h1 g1) (by decide) rfl (gM_F hM ⟨rfl, rfl, rfl, rfl, rfl⟩) (by decide) trivial
theorem do_target {c : Int} (h1 : zR c) (hS : gS g t r o) : dO en 234 191 [.int (zI c)] (fun _ => True) g t r o := by
  obtain ⟨u, B, K, Z, s, lv, A, F, hG, hM⟩ := hS
  have hV := gH_cV hG hM
  have hc := hM.2.1
  have hcr := hc.2.2.1
  have hi := hc.2.1
  have hb := hi.1.2
  have hn := cR_n hcr
  have hm := cR_m hcr
  have hX := hV.2.2.2.2.1.1
  have hj9 := hG.1.1.2.2
  have f5 := hM.1.2.2.1
  have k11 := hM.1.2.1
  have hL := hM.2.2.2.2.2.2.2.1
  have hB2 := rcB_R hM
  have hbO := gH_bO hG (k := 2 + K 1 1) (by omega) (by omega)
  have hub := hG.2.1 (2 + K 1 1) (by omega) (by omega)
  have hpA := pA_rf hV.1
  obtain ⟨e4, e31, e05, e06, e04, e12⟩ := hM.2.2.2.1
  have r613 := hM.2.2.2.2.1
  by_cases g1 : 0 ≤ c ∧ c ≤ 11
  · skip
    have hC := kX6_target_k (en := en) (h := g) hV h1 g1
    rw [gH_id hG] at hC
    exact dO_k hG wr_target_k (Or.inl ⟨rfl, rfl⟩) hC hG (fun h0 => kX7_target_k (en := en) (h0 := h0) (lv := lv) (A := A) (F := F) hj9 hi h1 g1.1 g1.2) (by decide) (by rw [(hcr.2.2.2.2.2.2 c g1.1 g1.2).2.1]) rfl (gM_F hM ⟨rfl, rfl, rfl, rfl, rfl⟩) trivial
  · skip
    have hC := kX6_target_t (en := en) (h := g) hV h1 g1
    rw [gH_id hG] at hC
    exact dO_t hG wr_target_1 (Or.inr ⟨rfl, rfl⟩) hC hG (fun h0 => kX7_target_t (en := en) (h0 := h0) (lv := lv) (A := A) (F := F) hj9 hi h1 g1) (by decide) rfl (gM_F hM ⟨rfl, rfl, rfl, rfl, rfl⟩) (by decide) trivial
theorem do_playing {q : Int} (h1 : zR q) (hS : gS g t r o) : dO en 235 194 [.int (zI q)] (fun _ => True) g t r o := by
  obtain ⟨u, B, K, Z, s, lv, A, F, hG, hM⟩ := hS
  have hV := gH_cV hG hM
  have hc := hM.2.1
  have hcr := hc.2.2.1
  have hi := hc.2.1
  have hb := hi.1.2
  have hn := cR_n hcr
  have hm := cR_m hcr
  have hX := hV.2.2.2.2.1.1
  have hj9 := hG.1.1.2.2
  have f5 := hM.1.2.2.1
  have k11 := hM.1.2.1
  have hL := hM.2.2.2.2.2.2.2.1
  have hB2 := rcB_R hM
  have hbO := gH_bO hG (k := 2 + K 1 1) (by omega) (by omega)
  have hub := hG.2.1 (2 + K 1 1) (by omega) (by omega)
  have hpA := pA_rf hV.1
  obtain ⟨e4, e31, e05, e06, e04, e12⟩ := hM.2.2.2.1
  have r613 := hM.2.2.2.2.1
  by_cases w0 : q = 0
  · subst w0
    have hC := kX6_playing_0 (en := en) (h := g) hV 
    rw [gH_id hG] at hC
    exact dO_k hG wr_playing_k (Or.inl ⟨rfl, rfl⟩) hC hG (fun h0 => kX7_playing_0 (en := en) (h0 := h0) (lv := lv) (A := A) (F := F) hj9 hi ) (by decide) (by rw [hcr.1.2.2.1]) rfl (gM_F hM ⟨rfl, rfl, rfl, rfl, rfl⟩) trivial
  by_cases w1 : q = 1
  · subst w1
    have hC := kX6_playing_1 (en := en) (h := g) hV 
    rw [gH_id hG] at hC
    exact dO_k hG wr_playing_k (Or.inl ⟨rfl, rfl⟩) hC hG (fun h0 => kX7_playing_1 (en := en) (h0 := h0) (lv := lv) (A := A) (F := F) hj9 hi ) (by decide) (by rw [hcr.1.2.2.2.1]) rfl (gM_F hM ⟨rfl, rfl, rfl, rfl, rfl⟩) trivial
  by_cases w2 : q = 2
  · subst w2
    have hC := kX6_playing_2 (en := en) (h := g) hV 
    rw [gH_id hG] at hC
    exact dO_k hG wr_playing_k (Or.inl ⟨rfl, rfl⟩) hC hG (fun h0 => kX7_playing_2 (en := en) (h0 := h0) (lv := lv) (A := A) (F := F) hj9 hi ) (by decide) (by rw [cR_nx hi hcr]) rfl (gM_F hM ⟨rfl, rfl, rfl, rfl, rfl⟩) trivial
  by_cases w3 : q = 3
  · subst w3
    have hC := kX6_playing_3 (en := en) (h := g) hV 
    rw [gH_id hG] at hC
    exact dO_k hG wr_playing_k (Or.inl ⟨rfl, rfl⟩) hC hG (fun h0 => kX7_playing_3 (en := en) (h0 := h0) (lv := lv) (A := A) (F := F) hj9 hi ) (by decide) (by rw [cR_fds hcr]) rfl (gM_F hM ⟨rfl, rfl, rfl, rfl, rfl⟩) trivial
  by_cases w4 : q = 4
  · subst w4
    have hC := kX6_playing_4 (en := en) (h := g) hV 
    rw [gH_id hG] at hC
    exact dO_k hG wr_playing_k (Or.inl ⟨rfl, rfl⟩) hC hG (fun h0 => kX7_playing_4 (en := en) (h0 := h0) (lv := lv) (A := A) (F := F) hj9 hi ) (by decide) (by rw [cR_tf hi hcr]; rfl) rfl (gM_F hM ⟨rfl, rfl, rfl, rfl, rfl⟩) trivial
  have hC := kX6_playing_t (en := en) (h := g) hV h1 (by omega)
  rw [gH_id hG] at hC
  exact dO_t hG wr_playing_1 (Or.inr ⟨rfl, rfl⟩) hC hG (fun h0 => kX7_playing_t (en := en) (h0 := h0) (lv := lv) (A := A) (F := F) hj9 hi h1 (by omega)) (by decide) rfl (gM_F hM ⟨rfl, rfl, rfl, rfl, rfl⟩) (by decide) trivial
theorem do_chain {n : Int} (h1 : zR n) (hS : gS g t r o) : dO en 236 195 [.int (zI n)] (fun _ => True) g t r o := by
  obtain ⟨u, B, K, Z, s, lv, A, F, hG, hM⟩ := hS
  have hV := gH_cV hG hM
  have hc := hM.2.1
  have hcr := hc.2.2.1
  have hi := hc.2.1
  have hb := hi.1.2
  have hn := cR_n hcr
  have hm := cR_m hcr
  have hX := hV.2.2.2.2.1.1
  have hj9 := hG.1.1.2.2
  have f5 := hM.1.2.2.1
  have k11 := hM.1.2.1
  have hL := hM.2.2.2.2.2.2.2.1
  have hB2 := rcB_R hM
  have hbO := gH_bO hG (k := 2 + K 1 1) (by omega) (by omega)
  have hub := hG.2.1 (2 + K 1 1) (by omega) (by omega)
  have hpA := pA_rf hV.1
  obtain ⟨e4, e31, e05, e06, e04, e12⟩ := hM.2.2.2.1
  have r613 := hM.2.2.2.2.1
  have hq := cR_ix hcr n
  have hp := xix_R hX n
  by_cases g1 : 0 ≤ xix (Z 0) n
  · skip
    have hlt : xix (Z 0) n < s 0 := by omega
    have hk := (rpl_val (s := s) (cue := n) (by omega)).1
    rw [← hq] at hk
    have hC := kX6_chain_k (en := en) (h := g) hV h1 g1
    rw [gH_id hG] at hC
    exact dO_k hG wr_chain_k (Or.inl ⟨rfl, rfl⟩) hC hG (fun h0 => kX7_chain_k (en := en) (h0 := h0) (lv := lv) (A := A) (F := F) hj9 hi h1 (by omega)) (by decide) (by rw [cR_chain hi hcr g1 hlt, hk]) rfl (gM_F hM ⟨rfl, rfl, rfl, rfl, rfl⟩) trivial
  · skip
    have hC := kX6_chain_t (en := en) (h := g) hV h1 g1
    rw [gH_id hG] at hC
    exact dO_t hG wr_chain_1 (Or.inr ⟨rfl, rfl⟩) hC hG (fun h0 => kX7_chain_t (en := en) (h0 := h0) (lv := lv) (A := A) (F := F) hj9 hi h1 (by omega)) (by decide) rfl (gM_F hM ⟨rfl, rfl, rfl, rfl, rfl⟩) (by decide) trivial
theorem do_account {q : Int} (h1 : zR q) (hS : gS g t r o) : dO en 237 198 [.int (zI q)] (fun _ => True) g t r o := by
  obtain ⟨u, B, K, Z, s, lv, A, F, hG, hM⟩ := hS
  have hV := gH_cV hG hM
  have hc := hM.2.1
  have hcr := hc.2.2.1
  have hi := hc.2.1
  have hb := hi.1.2
  have hn := cR_n hcr
  have hm := cR_m hcr
  have hX := hV.2.2.2.2.1.1
  have hj9 := hG.1.1.2.2
  have f5 := hM.1.2.2.1
  have k11 := hM.1.2.1
  have hL := hM.2.2.2.2.2.2.2.1
  have hB2 := rcB_R hM
  have hbO := gH_bO hG (k := 2 + K 1 1) (by omega) (by omega)
  have hub := hG.2.1 (2 + K 1 1) (by omega) (by omega)
  have hpA := pA_rf hV.1
  obtain ⟨e4, e31, e05, e06, e04, e12⟩ := hM.2.2.2.1
  have r613 := hM.2.2.2.2.1
  by_cases w0 : q = 0
  · subst w0
    have hC := kX6_account_0 (en := en) (h := g) hV 
    rw [gH_id hG] at hC
    exact dO_k hG wr_account_k (Or.inl ⟨rfl, rfl⟩) hC hG (fun h0 => kX7_account_0 (en := en) (h0 := h0) (lv := lv) (A := A) (F := F) hj9 hi ) (by decide) (by rw [hn]) rfl (gM_F hM ⟨rfl, rfl, rfl, rfl, rfl⟩) trivial
  by_cases w1 : q = 1
  · subst w1
    have hC := kX6_account_1 (en := en) (h := g) hV 
    rw [gH_id hG] at hC
    exact dO_k hG wr_account_k (Or.inl ⟨rfl, rfl⟩) hC hG (fun h0 => kX7_account_1 (en := en) (h0 := h0) (lv := lv) (A := A) (F := F) hj9 hi ) (by decide) (by rw [hm]) rfl (gM_F hM ⟨rfl, rfl, rfl, rfl, rfl⟩) trivial
  by_cases w2 : q = 2
  · subst w2
    have hC := kX6_account_2 (en := en) (h := g) hV 
    rw [gH_id hG] at hC
    exact dO_k hG wr_account_k (Or.inl ⟨rfl, rfl⟩) hC hG (fun h0 => kX7_account_2 (en := en) (h0 := h0) (lv := lv) (A := A) (F := F) hj9 hi ) (by decide) (by rw [cR_snow hi hcr]) rfl (gM_F hM ⟨rfl, rfl, rfl, rfl, rfl⟩) trivial
  by_cases w3 : q = 3
  · subst w3
    have hC := kX6_account_3 (en := en) (h := g) hV 
    rw [gH_id hG] at hC
    exact dO_k hG wr_account_k (Or.inl ⟨rfl, rfl⟩) hC hG (fun h0 => kX7_account_3 (en := en) (h0 := h0) (lv := lv) (A := A) (F := F) hj9 hi ) (by decide) (by rw [cR_stg hcr]) rfl (gM_F hM ⟨rfl, rfl, rfl, rfl, rfl⟩) trivial
  by_cases w4 : q = 4
  · subst w4
    have hC := kX6_account_4 (en := en) (h := g) hV 
    rw [gH_id hG] at hC
    exact dO_k hG wr_account_k (Or.inl ⟨rfl, rfl⟩) hC hG (fun h0 => kX7_account_4 (en := en) (h0 := h0) (lv := lv) (A := A) (F := F) hj9 hi ) (by decide) (by rw [cR_sfd hcr]) rfl (gM_F hM ⟨rfl, rfl, rfl, rfl, rfl⟩) trivial
  by_cases w5 : q = 5
  · subst w5
    have hC := kX6_account_5 (en := en) (h := g) hV 
    rw [gH_id hG] at hC
    exact dO_k hG wr_account_k (Or.inl ⟨rfl, rfl⟩) hC hG (fun h0 => kX7_account_5 (en := en) (h0 := h0) (lv := lv) (A := A) (F := F) hj9 hi ) (by decide) (by rw [hcr.1.2.2.2.2.1]) rfl (gM_F hM ⟨rfl, rfl, rfl, rfl, rfl⟩) trivial
  by_cases w6 : q = 6
  · subst w6
    have hC := kX6_account_6 (en := en) (h := g) hV 
    rw [gH_id hG] at hC
    exact dO_k hG wr_account_k (Or.inl ⟨rfl, rfl⟩) hC hG (fun h0 => kX7_account_6 (en := en) (h0 := h0) (lv := lv) (A := A) (F := F) hj9 hi ) (by decide) (by rw [hcr.1.2.2.2.2.2]) rfl (gM_F hM ⟨rfl, rfl, rfl, rfl, rfl⟩) trivial
  by_cases w7 : q = 7
  · subst w7
    have hC := kX6_account_7 (en := en) (h := g) hV 
    rw [gH_id hG] at hC
    exact dO_k hG wr_account_k (Or.inl ⟨rfl, rfl⟩) hC hG (fun h0 => kX7_account_7 (en := en) (h0 := h0) (lv := lv) (A := A) (F := F) hj9 hi ) (by decide) (by rw [cR_xmc hi hcr]) rfl (gM_F hM ⟨rfl, rfl, rfl, rfl, rfl⟩) trivial
  by_cases w8 : q = 8
  · subst w8
    have hC := kX6_account_8 (en := en) (h := g) hV 
    rw [gH_id hG] at hC
    exact dO_k hG wr_account_k (Or.inl ⟨rfl, rfl⟩) hC hG (fun h0 => kX7_account_8 (en := en) (h0 := h0) (lv := lv) (A := A) (F := F) hj9 hi ) (by decide) (by rw [cR_prt hi hcr]) rfl (gM_F hM ⟨rfl, rfl, rfl, rfl, rfl⟩) trivial
  by_cases w9 : q = 9
  · subst w9
    have hC := kX6_account_9 (en := en) (h := g) hV 
    rw [gH_id hG] at hC
    exact dO_k hG wr_account_k (Or.inl ⟨rfl, rfl⟩) hC hG (fun h0 => kX7_account_9 (en := en) (h0 := h0) (lv := lv) (A := A) (F := F) hj9 hi ) (by decide) (by rw [cR_blk hi hcr]) rfl (gM_F hM ⟨rfl, rfl, rfl, rfl, rfl⟩) trivial
  by_cases w10 : q = 10
  · subst w10
    have hC := kX6_account_10 (en := en) (h := g) hV 
    rw [gH_id hG] at hC
    exact dO_k hG wr_account_k (Or.inl ⟨rfl, rfl⟩) hC hG (fun h0 => kX7_account_10 (en := en) (h0 := h0) (lv := lv) (A := A) (F := F) hj9 hi ) (by decide) (by rw [cR_rel hi hcr]) rfl (gM_F hM ⟨rfl, rfl, rfl, rfl, rfl⟩) trivial
  have hC := kX6_account_t (en := en) (h := g) hV h1 (by omega)
  rw [gH_id hG] at hC
  exact dO_t hG wr_account_1 (Or.inr ⟨rfl, rfl⟩) hC hG (fun h0 => kX7_account_t (en := en) (h0 := h0) (lv := lv) (A := A) (F := F) hj9 hi h1 (by omega)) (by decide) rfl (gM_F hM ⟨rfl, rfl, rfl, rfl, rfl⟩) (by decide) trivial
end dor
