/-! the reference: its face, what changes -/
theorem rpl_uq {s : Int → Int} (hi : rI s) {k : Int} (h1 : 0 ≤ k) (h2 : k < s 0) : rpl s (s (18 + 12 * k)) = k := by
  have hp := rpl_at (rI_B hi) h1 h2
  have hv := rpl_val hp
  rcases (show rpl s (s (18 + 12 * k)) < k ∨ rpl s (s (18 + 12 * k)) = k ∨ k < rpl s (s (18 + 12 * k)) by omega) with q | q | q
  · have := hi.2.2.1 _ k hp q h2
    omega
  · exact q
  · have := hi.2.2.1 k _ h1 q hv.2
    omega
theorem rnx_up {s : Int → Int} (hi : rI s) {now : Int} (hp : 0 ≤ rpl s now) (h : 0 < rnx s now) : rpl s now < rpl s (rnx s now) ∧ 0 ≤ rpl s (rnx s now) := by
  have hs := rI_B hi
  have hv := rpl_val hp
  have hn := rnk_R hs now
  unfold rnx at h ⊢
  by_cases e : rnk s now = -1
  · rw [if_pos e] at h; omega
  · rw [if_neg e] at h ⊢
    have hk : 0 ≤ rnk s now := by omega
    have hg : now < s (18 + 12 * rnk s now) := by
      have := zfst_spec (fun k => decide (now < s (18 + 12 * k))) (s 0).toNat
      rcases this with ⟨g1, -⟩ | ⟨g1, g2, g3, -⟩
      · exact absurd g1 e
      · exact of_decide_eq_true g3
    rw [rpl_uq hi hk hn.2.1]
    refine ⟨?_, hk⟩
    rcases (show rpl s now < rnk s now ∨ rpl s now = rnk s now ∨ rnk s now < rpl s now by omega) with q | q | q
    · exact q
    · rw [← q, hv.1] at hg; omega
    · have := hi.2.2.1 _ _ hk q hv.2
      omega
def rchF (s : Int → Int) : Nat → Int → Int
  | 0, _ => 0
  | n + 1, now => if 0 < s (18 + 12 * rpl s now + 1) ∧ 0 < rnx s now then s (18 + 12 * rpl s now + 1) + rchF s n (rnx s now) else 0
section ref
variable {en : pz_Env} {h0 : pz_H} {a : Nat → Nat} {s lv : Int → Int} {A : Nat → Int → Int} {F : Nat → Int}
set_option maxRecDepth 100000 in
set_option maxHeartbeats 4000000 in
theorem chain_loop (hj : oj 9 a) (hi : rI s) (cue : Int) : ∀ (n : Nat) (acc now : Int), zR now → 0 ≤ rpl s now → s 0 - rpl s now ≤ n → pz_WP 5 en (pz_Cd en (5 - 1)) 7 cX7_chain 4 (some .int) [] false (pz_ret (some (.int (zI (acc + rchF s n now)))) (rH h0 a s lv A (va_up F 7 0))) 21 [some (.ref (a 0)), some (.int (zI cue)), some (.int (zI acc)), some (.int (zI now))] [] (rH h0 a s lv A (va_up F 7 0)) 0 0 := by
  intro n
  have hs := rI_B hi
  obtain ⟨hR, hs0, hs1, hs2, hs3⟩ := id hs
  induction n with
  | zero =>
    intro acc now hz hp hn
    exact absurd (rpl_val hp).2 (by omega)
  | succ n ih =>
    intro acc now hz hp hn
    have hpl := rpl_R hs now
    have hnx := rnx_R hs now
    refine pr_aload_n dX7_chain_21 rfl ?_
    refine pr_getf dX7_chain_22 pzf_7_42 (rH_0 hj) rfl ?_
    refine zr_if_ne (tgt := 81) dX7_chain_25 (by decide) (show zR 0 by decide) (fun c25 => absurd c25 (show ¬ (¬ (0 : Int) = 0) by decide)) (fun c25 => ?_)
    refine pr_aload_n dX7_chain_28 rfl ?_
    refine pr_getf dX7_chain_29 pzf_7_9 (rH_0 hj) rfl ?_
    refine pr_aload_n dX7_chain_32 rfl ?_
    refine pr_iload_n dX7_chain_33 rfl ?_
    refine zcv1i dX7_chain_34 pzm_7_67 pzt_X7_placeOf (rH_0 hj) (kX7_placeOf hj hs hz) (by decide) (Nat.le_of_ble_eq_true rfl) (by decide) ?_
    refine zcs1i dX7_chain_37 pzm_7_63 pzt_X7_at kX7_at (by decide) (Nat.le_of_ble_eq_true rfl) ?_
    refine zr_iconst dX7_chain_40 ?_
    refine zr_iadd dX7_chain_41 ?_
    refine zr_iald dX7_chain_42 (rH_1 hj) (by omega) (by decide) ?_
    refine zr_if_le (tgt := 81) dX7_chain_43 (by decide) (hR _) (fun c43 => ?_) (fun c43 => ?_)
    · have er : rchF s (n + 1) now = 0 := if_neg (fun z => absurd z.1 (by omega))
      rw [er, Int.add_zero]
      refine pr_iload_n dX7_chain_81 rfl ?_
      exact pr_iret dX7_chain_82 rfl rfl (zret rfl rfl)
    · refine pr_aload_n dX7_chain_46 rfl ?_
      refine pr_iload_n dX7_chain_47 rfl ?_
      refine zcv1i dX7_chain_48 pzm_7_171 pzt_X7_nextCue (rH_0 hj) (kX7_nextCue hj hs hz) (by decide) (Nat.le_of_ble_eq_true rfl) (by decide) ?_
      refine zr_if_le (tgt := 81) dX7_chain_51 (by decide) (rnx_R hs _) (fun c51 => ?_) (fun c51 => ?_)
      · have er : rchF s (n + 1) now = 0 := if_neg (fun z => absurd z.2 (by omega))
        rw [er, Int.add_zero]
        refine pr_iload_n dX7_chain_81 rfl ?_
        exact pr_iret dX7_chain_82 rfl rfl (zret rfl rfl)
      · have er : rchF s (n + 1) now = s (18 + 12 * rpl s now + 1) + rchF s n (rnx s now) := if_pos ⟨by omega, by omega⟩
        rw [er, ← Int.add_assoc]
        have hu := rnx_up hi hp (by omega)
        refine pr_iload_n dX7_chain_54 rfl ?_
        refine pr_aload_n dX7_chain_55 rfl ?_
        refine pr_getf dX7_chain_56 pzf_7_9 (rH_0 hj) rfl ?_
        refine pr_aload_n dX7_chain_59 rfl ?_
        refine pr_iload_n dX7_chain_60 rfl ?_
        refine zcv1i dX7_chain_61 pzm_7_67 pzt_X7_placeOf (rH_0 hj) (kX7_placeOf hj hs hz) (by decide) (Nat.le_of_ble_eq_true rfl) (by decide) ?_
        refine zcs1i dX7_chain_64 pzm_7_63 pzt_X7_at kX7_at (by decide) (Nat.le_of_ble_eq_true rfl) ?_
        refine zr_iconst dX7_chain_67 ?_
        refine zr_iadd dX7_chain_68 ?_
        refine zr_iald dX7_chain_69 (rH_1 hj) (by omega) (by decide) ?_
        refine zr_iadd dX7_chain_70 ?_
        refine pr_istore_n dX7_chain_71 (by decide) rfl ?_
        refine pr_aload_n dX7_chain_72 rfl ?_
        refine pr_iload_n dX7_chain_73 rfl ?_
        refine zcv1i dX7_chain_74 pzm_7_171 pzt_X7_nextCue (rH_0 hj) (kX7_nextCue hj hs hz) (by decide) (Nat.le_of_ble_eq_true rfl) (by decide) ?_
        refine pr_istore_n dX7_chain_77 (by decide) rfl ?_
        refine pr_goto (tgt := 21) dX7_chain_78 (by decide) ?_
        exact ih _ _ (rnx_R hs _) hu.2 (by omega)
set_option maxRecDepth 100000 in
set_option maxHeartbeats 4000000 in
theorem kX7_chain_k (hj : oj 9 a) (hi : rI s) {cue : Int} (h1 : zR cue) (g1 : 0 ≤ rpl s cue) : pz_Cd en 5 195 [.ref (a 0), .int (zI cue)] (rH h0 a s lv A F) 0 0 (pz_ret (some (.int (zI (rchF s 12 cue)))) (rH h0 a s lv A (va_up F 7 0))) := by
  refine pz_in pzt_X7_chain ?_
  have hs := rI_B hi
  obtain ⟨hR, hs0, hs1, hs2, hs3⟩ := id hs
  obtain ⟨-, hq1, hq2, hq3, hq4, hq5, hq6, hq7, hq8, hq9, hq10, hq11, hq12, hq13⟩ := id hi
  have loop := chain_loop (en := en) (h0 := h0) (lv := lv) (A := A) (F := F) hj hi cue 12 0 cue h1 g1 (by omega)
  rw [Int.zero_add] at loop
  refine pr_aload_n dX7_chain_0 rfl ?_
  refine pr_aload_n dX7_chain_1 rfl ?_
  refine pr_iload_n dX7_chain_2 rfl ?_
  refine zcv1i dX7_chain_3 pzm_7_74 pzt_X7_isCue (rH_0 hj) (kX7_isCue hj hs h1) (by decide) (Nat.le_of_ble_eq_true rfl) (by decide) ?_
  refine zr_if_eq (tgt := 13) dX7_chain_6 (by decide) (bI_R _) (fun c6 => by exfalso; have bb := bI_0 c6; omega) (fun c6 => ?_)
  have b6 := bI_ne c6
  refine zr_iconst dX7_chain_9 ?_
  refine pr_goto (tgt := 14) dX7_chain_10 (by decide) ?_
  refine pr_putf dX7_chain_14 pzf_7_42 (Or.inl rfl) (rH_0 hj) (Nat.le_of_ble_eq_true rfl) rfl rfl (rH_p7 hj) ?_
  refine zr_iconst dX7_chain_17 ?_
  refine pr_istore_n dX7_chain_18 (by decide) rfl ?_
  refine pr_iload_n dX7_chain_19 rfl ?_
  refine pr_istore_n dX7_chain_20 (by decide) rfl ?_
  exact loop
set_option maxRecDepth 100000 in
set_option maxHeartbeats 4000000 in
theorem kX7_chain_t (hj : oj 9 a) (hi : rI s) {cue : Int} (h1 : zR cue) (g1 : ¬ 0 ≤ rpl s cue) : pz_Cd en 5 195 [.ref (a 0), .int (zI cue)] (rH h0 a s lv A F) 0 0 (pz_ret (some (.int (zI 0))) (rH h0 a s lv A (va_up F 7 1))) := by
  refine pz_in pzt_X7_chain ?_
  have hs := rI_B hi
  obtain ⟨hR, hs0, hs1, hs2, hs3⟩ := id hs
  obtain ⟨-, hq1, hq2, hq3, hq4, hq5, hq6, hq7, hq8, hq9, hq10, hq11, hq12, hq13⟩ := id hi
  refine pr_aload_n dX7_chain_0 rfl ?_
  refine pr_aload_n dX7_chain_1 rfl ?_
  refine pr_iload_n dX7_chain_2 rfl ?_
  refine zcv1i dX7_chain_3 pzm_7_74 pzt_X7_isCue (rH_0 hj) (kX7_isCue hj hs h1) (by decide) (Nat.le_of_ble_eq_true rfl) (by decide) ?_
  refine zr_if_eq (tgt := 13) dX7_chain_6 (by decide) (bI_R _) (fun c6 => ?_) (fun c6 => by exfalso; have bb := bI_ne c6; omega)
  have b6 := bI_0 c6
  refine zr_iconst dX7_chain_13 ?_
  refine pr_putf dX7_chain_14 pzf_7_42 (Or.inl rfl) (rH_0 hj) (Nat.le_of_ble_eq_true rfl) rfl rfl (rH_p7 hj) ?_
  refine zr_iconst dX7_chain_17 ?_
  refine pr_istore_n dX7_chain_18 (by decide) rfl ?_
  refine pr_iload_n dX7_chain_19 rfl ?_
  refine pr_istore_n dX7_chain_20 (by decide) rfl ?_
  refine pr_aload_n dX7_chain_21 rfl ?_
  refine pr_getf dX7_chain_22 pzf_7_42 (rH_0 hj) rfl ?_
  refine zr_if_ne (tgt := 81) dX7_chain_25 (by decide) (show zR 1 by decide) (fun c25 => ?_) (fun c25 => absurd c25 (show ¬ (1 : Int) = 0 by decide))
  refine pr_iload_n dX7_chain_81 rfl ?_
  exact pr_iret dX7_chain_82 rfl rfl (by first | exact zret rfl rfl | (exfalso; omega))
end ref
