/-! the reference: steps; time passes -/
theorem rpl_val {s : Int → Int} {cue : Int} (h : 0 ≤ rpl s cue) : s (18 + 12 * rpl s cue) = cue ∧ rpl s cue < s 0 := by
  unfold rpl at h ⊢
  rcases zfst_spec (fun k => s (18 + 12 * k) == cue) (s 0).toNat with ⟨g1, -⟩ | ⟨g1, g2, g3, -⟩
  · omega
  · exact ⟨by simpa using g3, by omega⟩
theorem rI_fr {t s : Int → Int} (hi : rI s) (hR : ∀ i, zR (t i)) (h : rfr t s) (h7 : ∀ c : Int, 0 ≤ c → c ≤ 11 → rff t c) (h8 : 0 ≤ t 2 ∧ t 2 ≤ 99 ∧ 0 ≤ t 3 ∧ t 3 ≤ t 5 ∧ 0 ≤ t 5 ∧ t 5 ≤ 100000) : rI t := by
  obtain ⟨hs, g1, g2, g3, g4, g5, g6, g7, g8⟩ := hi
  have e0 := h 0 (by decide) (by decide) (by decide) (by decide) (by decide)
  have e1 := h 1 (by decide) (by decide) (by decide) (by decide) (by decide)
  obtain ⟨hR', b1, b2, b3, b4⟩ := id hs
  refine ⟨⟨hR, by omega, by omega, by omega, by omega⟩, ?_, ?_, ?_, ?_, ?_, ?_, h7, h8⟩
  · intro k k1 k2
    rw [h (18 + 12 * k) (by omega) (by omega) (by omega) (by omega) (by omega), h (18 + 12 * k + 1) (by omega) (by omega) (by omega) (by omega) (by omega), h (18 + 12 * k + 2) (by omega) (by omega) (by omega) (by omega) (by omega), h (18 + 12 * k + 3) (by omega) (by omega) (by omega) (by omega) (by omega)]
    exact g1 k k1 (by omega)
  · intro k j k1 k2 k3
    rw [h (18 + 12 * k) (by omega) (by omega) (by omega) (by omega) (by omega), h (18 + 12 * j) (by omega) (by omega) (by omega) (by omega) (by omega)]
    exact g2 k j k1 k2 (by omega)
  · intro k j k1 k2 k3 k4
    rw [h (18 + 12 * k + j) (by omega) (by omega) (by omega) (by omega) (by omega)]
    exact g3 k j k1 (by omega) k3 k4
  · intro k k1 k2
    rw [rpl_fr hs h, h (162 + 4 * k) (by omega) (by omega) (by omega) (by omega) (by omega), h (162 + 4 * k + 1) (by omega) (by omega) (by omega) (by omega) (by omega), h (162 + 4 * k + 2) (by omega) (by omega) (by omega) (by omega) (by omega), h (162 + 4 * k + 3) (by omega) (by omega) (by omega) (by omega) (by omega)]
    exact g4 k k1 (by omega)
  · intro k j k1 k2 k3
    rw [h (162 + 4 * k) (by omega) (by omega) (by omega) (by omega) (by omega), h (162 + 4 * k + 1) (by omega) (by omega) (by omega) (by omega) (by omega), h (162 + 4 * j) (by omega) (by omega) (by omega) (by omega) (by omega), h (162 + 4 * j + 1) (by omega) (by omega) (by omega) (by omega) (by omega)]
    exact g5 k j k1 k2 (by omega)
  · intro c c1 c2
    rw [h (6 + c) (by omega) (by omega) (by omega) (by omega) (by omega)]
    exact g6 c c1 c2
theorem rgo_5 (s : Int → Int) (cue : Int) : rgo s cue 5 = s 5 := by
  unfold rgo
  rw [zu_ne _ (by decide), zu_ne _ (by decide), zu_ne _ (by decide), rgoP_lo (by decide)]
theorem rgo_2 (s : Int → Int) (cue : Int) : rgo s cue 2 = cue := by
  unfold rgo
  rw [zu_ne _ (by decide), zu_ne _ (by decide), zu_at]
theorem rgo_fr (s : Int → Int) (cue : Int) : rfr (rgo s cue) s := fun i h1 h2 h3 h4 h5 => by
  unfold rgo
  rw [zu_ne _ h4, zu_ne _ h3, zu_ne _ h2, rgoP_lo h1]
theorem rgo_f {s : Int → Int} {cue i : Int} (h1 : 402 ≤ i) (h2 : i < 462) : rgo s cue i = rfv s (rpl s cue) cue i := by
  unfold rgo
  rw [zu_ne _ (by omega), zu_ne _ (by omega), zu_ne _ (by omega)]
  exact if_pos (by omega)
theorem rgo_R {s : Int → Int} (hi : rI s) {cue : Int} (h : zR cue) : ∀ i, zR (rgo s cue i) := zu_R (zu_R (zu_R (rgoP_B hi _ _ (by decide)).1 h) ⟨by decide, by decide⟩) (zw_R _)
theorem rgo_I {s : Int → Int} (hi : rI s) {cue : Int} (h : 0 ≤ rpl s cue) : rI (rgo s cue) := by
  obtain ⟨hv, hp⟩ := rpl_val h
  have hc := (hi.2.1 _ h hp).1
  rw [hv] at hc
  refine rI_fr hi (rgo_R hi (by omega)) (rgo_fr s cue) (fun c c1 c2 => ?_) ?_
  · have hf := hi.2.2.2.2.2.2.2.1 c c1 c2
    have hn := rnow_b hf
    have hl := rlv_b hi (pl := rpl s cue) c1 c2
    have hpo := rpo_R hi (cue := cue) (ch := c)
    have hq := hi.2.2.2.1 (rpl s cue) (4 + 2 * rpo s cue c + 0) h hp (by omega) (by omega)
    have hq1 := hi.2.2.2.1 (rpl s cue) (4 + 2 * rpo s cue c + 1) h hp (by omega) (by omega)
    rw [show 18 + 12 * rpl s cue + (4 + 2 * rpo s cue c + 0) = 18 + 12 * rpl s cue + 4 + 2 * rpo s cue c + 0 by omega] at hq
    rw [show 18 + 12 * rpl s cue + (4 + 2 * rpo s cue c + 1) = 18 + 12 * rpl s cue + 4 + 2 * rpo s cue c + 1 by omega] at hq1
    have h5 := hi.2.2.2.2.2.2.2.2
    unfold rff
    rw [rgo_5, rgo_f (by omega) (by omega), rgo_f (i := 402 + 5 * c + 1) (by omega) (by omega), rgo_f (i := 402 + 5 * c + 2) (by omega) (by omega), rgo_f (i := 402 + 5 * c + 3) (by omega) (by omega), rgo_f (i := 402 + 5 * c + 4) (by omega) (by omega)]
    unfold rfv
    rw [show (402 + 5 * c - 402) / 5 = c by omega, show (402 + 5 * c + 1 - 402) / 5 = c by omega, show (402 + 5 * c + 2 - 402) / 5 = c by omega, show (402 + 5 * c + 3 - 402) / 5 = c by omega, show (402 + 5 * c + 4 - 402) / 5 = c by omega]
    by_cases e : rlv s (rpl s cue) c = s (402 + 5 * c + 1)
    · rw [if_pos e, if_pos e, if_pos e, if_pos e, if_pos e]
      exact hf
    · rw [if_neg e, if_neg e, if_neg e, if_neg e, if_neg e, if_pos (by omega), if_neg (by omega), if_pos (by omega), if_neg (by omega), if_neg (by omega), if_pos (by omega), if_neg (by omega), if_neg (by omega), if_neg (by omega), if_pos (by omega), if_neg (by omega), if_neg (by omega), if_neg (by omega), if_neg (by omega)]
      omega
  · have h5 := hi.2.2.2.2.2.2.2.2
    rw [rgo_5, rgo_2, show rgo s cue 3 = 0 from by unfold rgo; rw [zu_ne _ (by decide), zu_at]]
    omega
def rt1m (s : Int → Int) (m : Int) : Int → Int := fun i => if i = 5 then s 5 + 1 else if i = 3 then s 3 + bI (0 < s 2) else if (402 ≤ i ∧ i < 402 + 5 * m) ∧ (i - 402) % 5 = 2 then s i + 1 else s i
def rt1 (s : Int → Int) : Int → Int := rt1m s 12
theorem rt1m_0 {s : Int → Int} {v : Int} (h : v = s 3 + bI (0 < s 2)) : zu (zu s 5 (s 5 + 1)) 3 v = rt1m s 0 := by
  funext i
  unfold rt1m
  by_cases e : i = 3
  · rw [e, zu_at, if_neg (by decide), if_pos rfl, h]
  · rw [zu_ne _ e, if_neg e]
    by_cases g : i = 5
    · rw [g, zu_at, if_pos rfl]
    · rw [zu_ne _ g, if_neg g, if_neg (by omega)]
theorem rt1m_s {s : Int → Int} {c : Int} (h : 0 ≤ c) : zu (rt1m s c) (402 + 5 * c + 2) (rt1m s c (402 + 5 * c + 2) + 1) = rt1m s (c + 1) := by
  have e0 : rt1m s c (402 + 5 * c + 2) = s (402 + 5 * c + 2) := by
    unfold rt1m
    rw [if_neg (by omega), if_neg (by omega), if_neg (by omega)]
  rw [e0]
  funext i
  by_cases e : i = 402 + 5 * c + 2
  · rw [e, zu_at]
    unfold rt1m
    rw [if_neg (by omega), if_neg (by omega), if_pos (by omega)]
  · rw [zu_ne _ e]
    unfold rt1m
    by_cases g : (402 ≤ i ∧ i < 402 + 5 * c) ∧ (i - 402) % 5 = 2
    · rw [if_pos g, if_pos (show (402 ≤ i ∧ i < 402 + 5 * (c + 1)) ∧ (i - 402) % 5 = 2 by omega)]
    · rw [if_neg g, if_neg (show ¬ ((402 ≤ i ∧ i < 402 + 5 * (c + 1)) ∧ (i - 402) % 5 = 2) by omega)]
theorem rt1_fr (s : Int → Int) : rfr (rt1 s) s := fun i h1 h2 h3 h4 h5 => by
  unfold rt1 rt1m
  rw [if_neg h5, if_neg h3, if_neg (by omega)]
theorem rt1_I {s : Int → Int} (hi : rI s) (h : s 5 < 100000) : rI (rt1 s) := by
  have h5 := hi.2.2.2.2.2.2.2.2
  have hb := bI_01 (0 < s 2)
  have e2 : rt1 s 2 = s 2 := by
    unfold rt1 rt1m
    rw [if_neg (by decide), if_neg (by decide), if_neg (by decide)]
  have e3 : rt1 s 3 = s 3 + bI (0 < s 2) := by
    unfold rt1 rt1m
    rw [if_neg (by decide), if_pos rfl]
  have e5 : rt1 s 5 = s 5 + 1 := rfl
  refine rI_fr hi (fun i => ?_) (rt1_fr s) (fun c c1 c2 => ?_) (by omega)
  · unfold rt1 rt1m
    have hz := hi.1.1 i
    split
    · omega
    · split
      · omega
      · split <;> rename_i g
        · have hf := hi.2.2.2.2.2.2.2.1 ((i - 402) / 5) (by omega) (by omega)
          rw [show 402 + 5 * ((i - 402) / 5) + 2 = i by omega] at hf
          omega
        · exact hz
  · have hf := hi.2.2.2.2.2.2.2.1 c c1 c2
    unfold rff
    rw [e5]
    unfold rt1 rt1m
    rw [if_neg (by omega), if_neg (by omega), if_neg (by omega), if_neg (by omega), if_neg (by omega), if_neg (by omega), if_neg (by omega), if_neg (by omega), if_pos (by omega), if_neg (by omega), if_neg (by omega), if_neg (by omega), if_neg (by omega), if_neg (by omega), if_neg (by omega)]
    omega
def rt2 (s : Int → Int) : Int → Int := if rfo (rt1 s) ∧ rt1 s (18 + 12 * rpl (rt1 s) (rt1 s 2) + 1) ≤ rt1 s 3 then rgo (rt1 s) (rnx (rt1 s) (rt1 s 2)) else rt1 s
theorem rt2_I {s : Int → Int} (hi : rI s) (h : s 5 < 100000) : rI (rt2 s) ∧ rt2 s 5 = s 5 + 1 := by
  have h1 := rt1_I hi h
  have e5 : rt1 s 5 = s 5 + 1 := rfl
  unfold rt2
  split <;> rename_i g
  · exact ⟨rgo_I h1 (rnx_in (rI_B h1) (by have := g.1.2.2; omega)), (rgo_5 _ _).trans e5⟩
  · exact ⟨h1, e5⟩
def rpsN : Nat → (Int → Int) → (Int → Int)
  | 0, s => s
  | n + 1, s => rpsN n (rt2 s)
theorem rpsN_s {t k : Int} {s : Int → Int} (h : k < t) : rpsN (t - k).toNat s = rpsN (t - (k + 1)).toNat (rt2 s) := by
  rw [show (t - k).toNat = (t - (k + 1)).toNat + 1 by omega]
  rfl
theorem rpsN_I : ∀ (n : Nat) (s : Int → Int), rI s → s 5 + n ≤ 100000 → rI (rpsN n s) ∧ rpsN n s 5 = s 5 + n
  | 0, s => fun hi _ => ⟨hi, by simp [rpsN]⟩
  | n + 1, s => fun hi h => by
    have g := rt2_I hi (by omega)
    have g2 := rpsN_I n (rt2 s) g.1 (by omega)
    exact ⟨g2.1, by show rpsN n (rt2 s) 5 = _; omega⟩
def rPs (s : Int → Int) (t : Int) : Int × (Int → Int) := if 0 ≤ t ∧ t ≤ 6000 then (if s 5 + t ≤ 100000 then (0, rpsN t.toNat s) else (2, s)) else (1, s)
section ref
variable {en : pz_Env} {h0 : pz_H} {a : Nat → Nat} {s lv : Int → Int} {A : Nat → Int → Int} {F : Nat → Int}
set_option maxRecDepth 100000 in
set_option maxHeartbeats 4000000 in
theorem kX7_doGo_n0 (hj : oj 9 a) (hi : rI s) (h1 : (rnx s (s 2)) = 0) : pz_Cd en 6 182 [.ref (a 0), .int (zI 0)] (rH h0 a s lv A F) 0 0 (pz_ret (some (.int (zI 4))) (rH h0 a (zcpy (A 2) s 0 0 462) lv A (va_up F 6 4))) := by
  refine pz_in pzt_X7_doGo ?_
  have hs := rI_B hi
  obtain ⟨hR, hs0, hs1, hs2, hs3⟩ := id hs
  obtain ⟨-, hq1, hq2, hq3, hq4, hq5, hq6, hq7, hq8, hq9, hq10, hq11, hq12, hq13⟩ := id hi
  refine pr_iload_n dX7_doGo_0 rfl ?_
  refine zr_if_eq (tgt := 17) dX7_doGo_1 (by decide) (by first | exact hR _ | omega) (fun c1 => ?_) (fun c1 => by exfalso; omega)
  refine pr_aload_n dX7_doGo_17 rfl ?_
  refine pr_aload_n dX7_doGo_18 rfl ?_
  refine pr_getf dX7_doGo_19 pzf_7_9 (rH_0 hj) rfl ?_
  refine zr_iconst dX7_doGo_22 ?_
  refine zr_iald dX7_doGo_23 (rH_1 hj) (by omega) (by decide) ?_
  refine zcv1i dX7_doGo_24 pzm_7_171 pzt_X7_nextCue (rH_0 hj) (kX7_nextCue hj hs (hR _)) (by decide) (Nat.le_of_ble_eq_true rfl) (by decide) ?_
  refine pr_istore_n dX7_doGo_27 (by decide) rfl ?_
  refine pr_iload_n dX7_doGo_28 rfl ?_
  refine zr_if_ne (tgt := 46) dX7_doGo_29 (by decide) (rnx_R hs _) (fun c29 => by exfalso; omega) (fun c29 => ?_)
  refine pr_aload_n dX7_doGo_32 rfl ?_
  refine pr_iload_n dX7_doGo_33 rfl ?_
  refine zr_if_eq (tgt := 41) dX7_doGo_34 (by decide) (by first | exact hR _ | omega) (fun c34 => ?_) (fun c34 => by exfalso; omega)
  refine zr_iconst dX7_doGo_41 ?_
  refine zcv1i dX7_doGo_42 pzm_7_139 pzt_X7_refuse (rH_0 hj) (kX7_refuse hj) (by decide) (Nat.le_of_ble_eq_true rfl) (by decide) ?_
  exact pr_iret dX7_doGo_45 rfl rfl (zret (by rfl))
set_option maxRecDepth 100000 in
set_option maxHeartbeats 4000000 in
theorem kX7_doGo_n1 (hj : oj 9 a) (hi : rI s) (h1 : ¬ (rnx s (s 2)) = 0) : pz_Cd en 6 182 [.ref (a 0), .int (zI 0)] (rH h0 a s lv A F) 0 0 (pz_ret (some (.int (zI 0))) (rH h0 a (rgo s (rnx s (s 2))) lv A F)) := by
  refine pz_in pzt_X7_doGo ?_
  have hs := rI_B hi
  obtain ⟨hR, hs0, hs1, hs2, hs3⟩ := id hs
  obtain ⟨-, hq1, hq2, hq3, hq4, hq5, hq6, hq7, hq8, hq9, hq10, hq11, hq12, hq13⟩ := id hi
  refine pr_iload_n dX7_doGo_0 rfl ?_
  refine zr_if_eq (tgt := 17) dX7_doGo_1 (by decide) (by first | exact hR _ | omega) (fun c1 => ?_) (fun c1 => by exfalso; omega)
  refine pr_aload_n dX7_doGo_17 rfl ?_
  refine pr_aload_n dX7_doGo_18 rfl ?_
  refine pr_getf dX7_doGo_19 pzf_7_9 (rH_0 hj) rfl ?_
  refine zr_iconst dX7_doGo_22 ?_
  refine zr_iald dX7_doGo_23 (rH_1 hj) (by omega) (by decide) ?_
  refine zcv1i dX7_doGo_24 pzm_7_171 pzt_X7_nextCue (rH_0 hj) (kX7_nextCue hj hs (hR _)) (by decide) (Nat.le_of_ble_eq_true rfl) (by decide) ?_
  refine pr_istore_n dX7_doGo_27 (by decide) rfl ?_
  refine pr_iload_n dX7_doGo_28 rfl ?_
  refine zr_if_ne (tgt := 46) dX7_doGo_29 (by decide) (rnx_R hs _) (fun c29 => ?_) (fun c29 => by exfalso; omega)
  refine pr_aload_n dX7_doGo_46 rfl ?_
  refine pr_iload_n dX7_doGo_47 rfl ?_
  refine zcv1i dX7_doGo_48 pzm_7_174 pzt_X7_goes (rH_0 hj) (kX7_goes hj hi (rnx_R hs _) (rnx_in hs h1)) (by decide) (Nat.le_of_ble_eq_true rfl) (by decide) ?_
  refine pr_pop dX7_doGo_51 rfl ?_
  refine zr_iconst dX7_doGo_52 ?_
  exact pr_iret dX7_doGo_53 rfl rfl (zret (by rfl))
set_option maxRecDepth 100000 in
set_option maxHeartbeats 4000000 in
theorem kX7_doGo_b0 (hj : oj 9 a) (hi : rI s) (h1 : (rah s (s 2)) = 0) : pz_Cd en 6 182 [.ref (a 0), .int (zI 1)] (rH h0 a s lv A F) 0 0 (pz_ret (some (.int (zI 5))) (rH h0 a (zcpy (A 2) s 0 0 462) lv A (va_up F 6 5))) := by
  refine pz_in pzt_X7_doGo ?_
  have hs := rI_B hi
  obtain ⟨hR, hs0, hs1, hs2, hs3⟩ := id hs
  obtain ⟨-, hq1, hq2, hq3, hq4, hq5, hq6, hq7, hq8, hq9, hq10, hq11, hq12, hq13⟩ := id hi
  have hz : zR (rah s (s 2)) := by
    by_cases e : rah s (s 2) = 0
    · rw [e]; exact ⟨by decide, by decide⟩
    · have g := rpl_val (rah_in hs e); rw [← g.1]; exact hR _
  refine pr_iload_n dX7_doGo_0 rfl ?_
  refine zr_if_eq (tgt := 17) dX7_doGo_1 (by decide) (by first | exact hR _ | omega) (fun c1 => by exfalso; omega) (fun c1 => ?_)
  refine pr_aload_n dX7_doGo_4 rfl ?_
  refine pr_aload_n dX7_doGo_5 rfl ?_
  refine pr_getf dX7_doGo_6 pzf_7_9 (rH_0 hj) rfl ?_
  refine zr_iconst dX7_doGo_9 ?_
  refine zr_iald dX7_doGo_10 (rH_1 hj) (by omega) (by decide) ?_
  refine zcv1i dX7_doGo_11 pzm_7_168 pzt_X7_cueAhead (rH_0 hj) (kX7_cueAhead hj hs (hR _)) (by decide) (Nat.le_of_ble_eq_true rfl) (by decide) ?_
  refine pr_goto (tgt := 27) dX7_doGo_14 (by decide) ?_
  refine pr_istore_n dX7_doGo_27 (by decide) rfl ?_
  refine pr_iload_n dX7_doGo_28 rfl ?_
  refine zr_if_ne (tgt := 46) dX7_doGo_29 (by decide) hz (fun c29 => by exfalso; omega) (fun c29 => ?_)
  refine pr_aload_n dX7_doGo_32 rfl ?_
  refine pr_iload_n dX7_doGo_33 rfl ?_
  refine zr_if_eq (tgt := 41) dX7_doGo_34 (by decide) (by first | exact hR _ | omega) (fun c34 => by exfalso; omega) (fun c34 => ?_)
  refine zr_iconst dX7_doGo_37 ?_
  refine pr_goto (tgt := 42) dX7_doGo_38 (by decide) ?_
  refine zcv1i dX7_doGo_42 pzm_7_139 pzt_X7_refuse (rH_0 hj) (kX7_refuse hj) (by decide) (Nat.le_of_ble_eq_true rfl) (by decide) ?_
  exact pr_iret dX7_doGo_45 rfl rfl (zret (by rfl))
set_option maxRecDepth 100000 in
set_option maxHeartbeats 4000000 in
theorem kX7_doGo_b1 (hj : oj 9 a) (hi : rI s) (h1 : ¬ (rah s (s 2)) = 0) : pz_Cd en 6 182 [.ref (a 0), .int (zI 1)] (rH h0 a s lv A F) 0 0 (pz_ret (some (.int (zI 0))) (rH h0 a (rgo s (rah s (s 2))) lv A F)) := by
  refine pz_in pzt_X7_doGo ?_
  have hs := rI_B hi
  obtain ⟨hR, hs0, hs1, hs2, hs3⟩ := id hs
  obtain ⟨-, hq1, hq2, hq3, hq4, hq5, hq6, hq7, hq8, hq9, hq10, hq11, hq12, hq13⟩ := id hi
  have hz : zR (rah s (s 2)) := by
    by_cases e : rah s (s 2) = 0
    · rw [e]; exact ⟨by decide, by decide⟩
    · have g := rpl_val (rah_in hs e); rw [← g.1]; exact hR _
  refine pr_iload_n dX7_doGo_0 rfl ?_
  refine zr_if_eq (tgt := 17) dX7_doGo_1 (by decide) (by first | exact hR _ | omega) (fun c1 => by exfalso; omega) (fun c1 => ?_)
  refine pr_aload_n dX7_doGo_4 rfl ?_
  refine pr_aload_n dX7_doGo_5 rfl ?_
  refine pr_getf dX7_doGo_6 pzf_7_9 (rH_0 hj) rfl ?_
  refine zr_iconst dX7_doGo_9 ?_
  refine zr_iald dX7_doGo_10 (rH_1 hj) (by omega) (by decide) ?_
  refine zcv1i dX7_doGo_11 pzm_7_168 pzt_X7_cueAhead (rH_0 hj) (kX7_cueAhead hj hs (hR _)) (by decide) (Nat.le_of_ble_eq_true rfl) (by decide) ?_
  refine pr_goto (tgt := 27) dX7_doGo_14 (by decide) ?_
  refine pr_istore_n dX7_doGo_27 (by decide) rfl ?_
  refine pr_iload_n dX7_doGo_28 rfl ?_
  refine zr_if_ne (tgt := 46) dX7_doGo_29 (by decide) hz (fun c29 => ?_) (fun c29 => by exfalso; omega)
  refine pr_aload_n dX7_doGo_46 rfl ?_
  refine pr_iload_n dX7_doGo_47 rfl ?_
  refine zcv1i dX7_doGo_48 pzm_7_174 pzt_X7_goes (rH_0 hj) (kX7_goes hj hi hz (rah_in hs h1)) (by decide) (Nat.le_of_ble_eq_true rfl) (by decide) ?_
  refine pr_pop dX7_doGo_51 rfl ?_
  refine zr_iconst dX7_doGo_52 ?_
  exact pr_iret dX7_doGo_53 rfl rfl (zret (by rfl))
set_option maxRecDepth 100000 in
set_option maxHeartbeats 4000000 in
theorem kX7_doPass (hj : oj 9 a) (hi : rI s) {t : Int} (h1 : zR t) : pz_Cd en 6 188 [.ref (a 0), .int (zI t)] (rH h0 a s lv A F) 0 0 (pz_ret (some (.int (zI (rPs s t).1))) (rH h0 a (rPs s t).2 lv A F)) := by
  refine pz_in pzt_X7_doPass ?_
  have hs := rI_B hi
  obtain ⟨hR, hs0, hs1, hs2, hs3⟩ := id hs
  obtain ⟨-, hq1, hq2, hq3, hq4, hq5, hq6, hq7, hq8, hq9, hq10, hq11, hq12, hq13⟩ := id hi
  have loop : 0 ≤ t → ∀ (s : Int → Int) (j : Option Value), rI s → s 5 + t ≤ 100000 → pz_WP 6 en (pz_Cd en (6 - 1)) 7 cX7_doPass 4 (some .int) [] false (pz_ret (some (.int (zI 0))) (rH h0 a (rpsN (t - 0).toNat s) lv A F)) 30 [some (.ref (a 0)), some (.int (zI t)), some (.int (zI 0)), j] [] (rH h0 a s lv A F) 0 0 := by
    intro ht s j hi h5
    refine zup (P := fun k => ∀ (s : Int → Int) (j : Option Value), rI s → s 5 + (t - k) ≤ 100000 → pz_WP 6 en (pz_Cd en (6 - 1)) 7 cX7_doPass 4 (some .int) [] false (pz_ret (some (.int (zI 0))) (rH h0 a (rpsN (t - k).toNat s) lv A F)) 30 [some (.ref (a 0)), some (.int (zI t)), some (.int (zI k)), j] [] (rH h0 a s lv A F) 0 0) (lo := 0) (hi := t) ht ?_ ?_ s j hi (by omega)
    · intro s j hi h5
      rw [show t - t = 0 by omega]
      refine pr_iload_n dX7_doPass_30 rfl ?_
      refine pr_iload_n dX7_doPass_31 rfl ?_
      refine zr_icmp_ge (tgt := 154) dX7_doPass_32 (by decide) (by first | exact hR _ | omega) (by first | exact hR _ | omega) (fun c32 => ?_) (fun c32 => by exfalso; omega)
      refine zr_iconst dX7_doPass_154 ?_
      exact pr_iret dX7_doPass_155 rfl rfl (zret (by rfl))
    · intro k hk1 hk2 ih s j hi h5
      rw [rpsN_s hk2]
      have h1i := rt1_I hi (by omega)
      have h1b := rI_B h1i
      have h2i := rt2_I hi (by omega)
      have hR := hi.1.1
      have h55 := hi.2.2.2.2.2.2.2.2
      have hpl := rpl_R h1b (rt1 s 2)
      have inner : pz_WP 6 en (pz_Cd en (6 - 1)) 7 cX7_doPass 4 (some .int) [] false (pz_ret (some (.int (zI 0))) (rH h0 a (rpsN (t - (k + 1)).toNat (rt2 s)) lv A F)) 70 [some (.ref (a 0)), some (.int (zI t)), some (.int (zI k)), some (.int (zI 0))] [] (rH h0 a (rt1m s 0) lv A F) 0 0 := by
        refine zup (P := fun c => pz_WP 6 en (pz_Cd en (6 - 1)) 7 cX7_doPass 4 (some .int) [] false (pz_ret (some (.int (zI 0))) (rH h0 a (rpsN (t - (k + 1)).toNat (rt2 s)) lv A F)) 70 [some (.ref (a 0)), some (.int (zI t)), some (.int (zI k)), some (.int (zI c))] [] (rH h0 a (rt1m s c) lv A F) 0 0) (lo := 0) (hi := 12) (by decide) ?_ ?_
        · show pz_WP 6 en (pz_Cd en (6 - 1)) 7 cX7_doPass 4 (some .int) [] false (pz_ret (some (.int (zI 0))) (rH h0 a (rpsN (t - (k + 1)).toNat (rt2 s)) lv A F)) 70 [some (.ref (a 0)), some (.int (zI t)), some (.int (zI k)), some (.int (zI 12))] [] (rH h0 a (rt1 s) lv A F) 0 0
          refine pr_iload_n dX7_doPass_70 rfl ?_
          refine zr_bipush dX7_doPass_71 (by decide) ?_
          refine zr_icmp_ge (tgt := 97) dX7_doPass_73 (by decide) (by first | exact hR _ | omega) (by first | exact hR _ | omega) (fun c73 => ?_) (fun c73 => by exfalso; omega)
          refine pr_aload_n dX7_doPass_97 rfl ?_
          refine zcv0i dX7_doPass_98 pzm_7_185 pzt_X7_follows (rH_0 hj) (kX7_follows hj h1b) (by decide) (Nat.le_of_ble_eq_true rfl) (by decide) ?_
          refine zr_if_eq (tgt := 148) dX7_doPass_101 (by decide) (bI_R _) (fun c101 => ?_) (fun c101 => ?_)
          · have b101 := bI_0 c101
            have e9 : rt2 s = rt1 s := if_neg (fun z => b101 z.1)
            refine zr_iinc dX7_doPass_148 rfl (by decide) rfl ?_
            refine pr_goto (tgt := 30) dX7_doPass_151 (by decide) ?_
            have i := ih (rt2 s) (some (.int (zI 12))) h2i.1 (by omega)
            rw [e9] at i ⊢
            exact i
          · have b101 := bI_ne c101
            have hrp : 0 ≤ rpl (rt1 s) (rt1 s 2) := by
              have z1 := b101.1
              unfold rfp at z1
              split at z1 <;> omega
            refine pr_aload_n dX7_doPass_104 rfl ?_
            refine pr_getf dX7_doPass_105 pzf_7_9 (rH_0 hj) rfl ?_
            refine pr_aload_n dX7_doPass_108 rfl ?_
            refine pr_aload_n dX7_doPass_109 rfl ?_
            refine pr_getf dX7_doPass_110 pzf_7_9 (rH_0 hj) rfl ?_
            refine zr_iconst dX7_doPass_113 ?_
            refine zr_iald dX7_doPass_114 (rH_1 hj) (by omega) (by decide) ?_
            refine zcv1i dX7_doPass_115 pzm_7_67 pzt_X7_placeOf (rH_0 hj) (kX7_placeOf hj h1b (h1b.1 _)) (by decide) (Nat.le_of_ble_eq_true rfl) (by decide) ?_
            refine zcs1i dX7_doPass_118 pzm_7_63 pzt_X7_at kX7_at (by decide) (Nat.le_of_ble_eq_true rfl) ?_
            refine zr_iconst dX7_doPass_121 ?_
            refine zr_iadd dX7_doPass_122 ?_
            refine zr_iald dX7_doPass_123 (rH_1 hj) (by omega) (by decide) ?_
            refine pr_aload_n dX7_doPass_124 rfl ?_
            refine pr_getf dX7_doPass_125 pzf_7_9 (rH_0 hj) rfl ?_
            refine zr_iconst dX7_doPass_128 ?_
            refine zr_iald dX7_doPass_129 (rH_1 hj) (by omega) (by decide) ?_
            refine zr_icmp_gt (tgt := 148) dX7_doPass_130 (by decide) (h1b.1 _) (h1b.1 _) (fun c130 => ?_) (fun c130 => ?_)
            · have e9 : rt2 s = rt1 s := if_neg (fun z => by have := z.2; omega)
              refine zr_iinc dX7_doPass_148 rfl (by decide) rfl ?_
              refine pr_goto (tgt := 30) dX7_doPass_151 (by decide) ?_
              have i := ih (rt2 s) (some (.int (zI 12))) h2i.1 (by omega)
              rw [e9] at i ⊢
              exact i
            · have e9 : rt2 s = rgo (rt1 s) (rnx (rt1 s) (rt1 s 2)) := if_pos ⟨b101, by omega⟩
              refine pr_aload_n dX7_doPass_133 rfl ?_
              refine pr_aload_n dX7_doPass_134 rfl ?_
              refine pr_aload_n dX7_doPass_135 rfl ?_
              refine pr_getf dX7_doPass_136 pzf_7_9 (rH_0 hj) rfl ?_
              refine zr_iconst dX7_doPass_139 ?_
              refine zr_iald dX7_doPass_140 (rH_1 hj) (by omega) (by decide) ?_
              refine zcv1i dX7_doPass_141 pzm_7_171 pzt_X7_nextCue (rH_0 hj) (kX7_nextCue hj h1b (h1b.1 _)) (by decide) (Nat.le_of_ble_eq_true rfl) (by decide) ?_
              refine zcv1i dX7_doPass_144 pzm_7_174 pzt_X7_goes (rH_0 hj) (kX7_goes hj h1i (rnx_R h1b _) (rnx_in h1b (by have := b101.2.2; omega))) (by decide) (Nat.le_of_ble_eq_true rfl) (by decide) ?_
              refine pr_pop dX7_doPass_147 rfl ?_
              refine zr_iinc dX7_doPass_148 rfl (by decide) rfl ?_
              refine pr_goto (tgt := 30) dX7_doPass_151 (by decide) ?_
              have i := ih (rt2 s) (some (.int (zI 12))) h2i.1 (by omega)
              rw [e9] at i ⊢
              exact i
        · intro c hc1 hc2 ihc
          rw [← rt1m_s hc1] at ihc
          refine pr_iload_n dX7_doPass_70 rfl ?_
          refine zr_bipush dX7_doPass_71 (by decide) ?_
          refine zr_icmp_ge (tgt := 97) dX7_doPass_73 (by decide) (by first | exact hR _ | omega) (by first | exact hR _ | omega) (fun c73 => by exfalso; omega) (fun c73 => ?_)
          refine pr_aload_n dX7_doPass_76 rfl ?_
          refine pr_getf dX7_doPass_77 pzf_7_9 (rH_0 hj) rfl ?_
          refine pr_iload_n dX7_doPass_80 rfl ?_
          refine zcs1i dX7_doPass_81 pzm_7_162 pzt_X7_fade kX7_fade (by decide) (Nat.le_of_ble_eq_true rfl) ?_
          refine zr_iconst dX7_doPass_84 ?_
          refine zr_iadd dX7_doPass_85 ?_
          refine pr_dup2 dX7_doPass_86 rfl rfl ?_
          refine zr_iald dX7_doPass_87 (rH_1 hj) (by omega) (by decide) ?_
          refine zr_iconst dX7_doPass_88 ?_
          refine zr_iadd dX7_doPass_89 ?_
          refine zr_iast dX7_doPass_90 (rH_1 hj) (by omega) (by decide) (rH_u1 hj) ?_
          refine zr_iinc dX7_doPass_91 rfl (by decide) rfl ?_
          refine pr_goto (tgt := 70) dX7_doPass_94 (by decide) ?_
          exact ihc
      have e2 : zu s 5 (s 5 + 1) 2 = s 2 := zu_ne _ (by decide)
      refine pr_iload_n dX7_doPass_30 rfl ?_
      refine pr_iload_n dX7_doPass_31 rfl ?_
      refine zr_icmp_ge (tgt := 154) dX7_doPass_32 (by decide) (by first | exact hR _ | omega) (by first | exact hR _ | omega) (fun c32 => by exfalso; omega) (fun c32 => ?_)
      refine pr_aload_n dX7_doPass_35 rfl ?_
      refine pr_getf dX7_doPass_36 pzf_7_9 (rH_0 hj) rfl ?_
      refine zr_iconst dX7_doPass_39 ?_
      refine pr_dup2 dX7_doPass_40 rfl rfl ?_
      refine zr_iald dX7_doPass_41 (rH_1 hj) (by omega) (by decide) ?_
      refine zr_iconst dX7_doPass_42 ?_
      refine zr_iadd dX7_doPass_43 ?_
      refine zr_iast dX7_doPass_44 (rH_1 hj) (by omega) (by decide) (rH_u1 hj) ?_
      refine pr_aload_n dX7_doPass_45 rfl ?_
      refine pr_getf dX7_doPass_46 pzf_7_9 (rH_0 hj) rfl ?_
      refine zr_iconst dX7_doPass_49 ?_
      refine pr_dup2 dX7_doPass_50 rfl rfl ?_
      refine zr_iald dX7_doPass_51 (rH_1 hj) (by omega) (by decide) ?_
      refine pr_aload_n dX7_doPass_52 rfl ?_
      refine pr_getf dX7_doPass_53 pzf_7_9 (rH_0 hj) rfl ?_
      refine zr_iconst dX7_doPass_56 ?_
      refine zr_iald dX7_doPass_57 (rH_1 hj) (by omega) (by decide) ?_
      rw [e2]
      refine zr_if_le (tgt := 65) dX7_doPass_58 (by decide) (hR _) (fun c58 => ?_) (fun c58 => ?_)
      · refine zr_iconst dX7_doPass_65 ?_
        refine zr_iadd dX7_doPass_66 ?_
        refine zr_iast dX7_doPass_67 (rH_1 hj) (by omega) (by decide) (rH_u1 hj) ?_
        refine zr_iconst dX7_doPass_68 ?_
        refine pr_istore_n dX7_doPass_69 (by decide) rfl ?_
        rw [rt1m_0 (by rw [zu_ne _ (by decide)]; first | rw [bI_t (by omega)] | rw [bI_f (by omega)])]
        exact inner
      · refine zr_iconst dX7_doPass_61 ?_
        refine pr_goto (tgt := 66) dX7_doPass_62 (by decide) ?_
        refine zr_iadd dX7_doPass_66 ?_
        refine zr_iast dX7_doPass_67 (rH_1 hj) (by omega) (by decide) (rH_u1 hj) ?_
        refine zr_iconst dX7_doPass_68 ?_
        refine pr_istore_n dX7_doPass_69 (by decide) rfl ?_
        rw [rt1m_0 (by rw [zu_ne _ (by decide)]; first | rw [bI_t (by omega)] | rw [bI_f (by omega)])]
        exact inner
  unfold rPs
  refine pr_iload_n dX7_doPass_0 rfl ?_
  refine zr_iconst dX7_doPass_1 ?_
  refine zr_sipush dX7_doPass_2 (by decide) ?_
  refine zcs3i dX7_doPass_5 pzm_7_70 pzt_X7_in (kX7_in h1 ⟨by decide, by decide⟩ ⟨by decide, by decide⟩) (by decide) (Nat.le_of_ble_eq_true rfl) ?_
  refine zr_if_ne (tgt := 13) dX7_doPass_8 (by decide) (bI_R _) (fun c8 => ?_) (fun c8 => ?_)
  · have b8 := bI_ne c8
    rw [if_pos b8]
    refine pr_aload_n dX7_doPass_13 rfl ?_
    refine pr_getf dX7_doPass_14 pzf_7_9 (rH_0 hj) rfl ?_
    refine zr_iconst dX7_doPass_17 ?_
    refine zr_iald dX7_doPass_18 (rH_1 hj) (by omega) (by decide) ?_
    refine pr_iload_n dX7_doPass_19 rfl ?_
    refine zr_iadd dX7_doPass_20 ?_
    refine zr_ldc 100000 dX7_doPass_21 pzk_7_184 (by decide) ?_
    refine zr_icmp_le (tgt := 28) dX7_doPass_23 (by decide) (by omega) (by decide) (fun c23 => ?_) (fun c23 => ?_)
    · rw [if_pos c23]
      refine zr_iconst dX7_doPass_28 ?_
      refine pr_istore_n dX7_doPass_29 (by decide) rfl ?_
      have l := loop (by omega) s none hi (by omega)
      rw [show t - 0 = t by omega] at l
      exact l
    · rw [if_neg c23]
      refine zr_iconst dX7_doPass_26 ?_
      exact pr_iret dX7_doPass_27 rfl rfl (zret rfl)
  · have b8 := bI_0 c8
    rw [if_neg b8]
    refine zr_iconst dX7_doPass_11 ?_
    exact pr_iret dX7_doPass_12 rfl rfl (zret rfl)
end ref
