/-! entries: class and reference do the same -/
abbrev pA (a a2 : Int → Nat) : Prop := sj a2 ∧ a2 0 = a 0 ∧ ∀ j : Int, 0 ≤ j → j < 73 → ∃ i : Int, 0 ≤ i ∧ i < 73 ∧ a2 j = a i
theorem pA_rf {a : Int → Nat} (hj : sj a) : pA a a := ⟨hj, rfl, fun j h1 h2 => ⟨j, h1, h2, rfl⟩⟩
theorem pA_tr {a b c : Int → Nat} (h1 : pA a b) (h2 : pA b c) : pA a c := ⟨h2.1, h2.2.1.trans h1.2.1, fun j j1 j2 => by
  obtain ⟨i, i1, i2, e⟩ := h2.2.2 j j1 j2
  obtain ⟨k, k1, k2, e2⟩ := h1.2.2 i i1 i2
  exact ⟨k, k1, k2, e.trans e2⟩⟩
theorem pA_zs {P R : Int → Int} (hp : zpI P R) {a : Int → Nat} (hj : sj a) : pA a (zs P a) := ⟨zs_sj hp hj, zs_0, fun j j1 j2 => ⟨zp P j, (zp_inv hp j1 j2).1, (zp_inv hp j1 j2).2.1, rfl⟩⟩
theorem pA_tD {t a a2 : Int → Nat} (h : pA a a2) (hd : tD t a) : tD t a2 := fun i j g1 g2 g3 g4 => by
  obtain ⟨k, k1, k2, e⟩ := h.2.2 j g3 g4
  rw [e]
  exact hd i k g1 g2 k1 k2
abbrev k5 (K : Int → Int → Int) (r : Int) : Int → Int → Int := zv K 0 (zu (K 0) 5 r)
theorem k5_id {K : Int → Int → Int} : k5 K (K 0 5) = K := by
  show zv K 0 (zu (K 0) 5 (K 0 5)) = K
  rw [zu_id, zv_id]
section ent
variable {en : pz_Env} {h : pz_H} {t u a : Int → Nat} {K X : Int → Int → Int} {s lv b : Int → Int} {F : Nat → Int}
theorem cV_a {a2 : Int → Nat} {X2 : Int → Int → Int} (hV : cV t u a K X) (hp : pA a a2) (hI : xI X2) : cV t u a2 K X2 := ⟨hp.1, hV.2.1, pA_tD hp hV.2.2.1, hV.2.2.2.1.trans hp.2.1.symm, hI, hV.2.2.2.2.2⟩
theorem cV_5 {r : Int} (hV : cV t u a K X) (hr : zR r) : cV t u a (k5 K r) X := by
  obtain ⟨h1, h2, h3, h4, h5, h6, h7, h8, h9, h10⟩ := hV
  have e1 : k5 K r 1 = K 1 := zv_ne _ _ (by decide)
  have e3 : k5 K r 3 = K 3 := zv_ne _ _ (by decide)
  have e4 : k5 K r 4 = K 4 := zv_ne _ _ (by decide)
  refine ⟨h1, h2, h3, h4, h5, fun i j => ?_, by rw [e1]; exact h7, by rw [e1]; exact h8, by rw [e3]; exact h9, fun i => by rw [e4]; exact h10 i⟩
  show zR (zv K 0 (zu (K 0) 5 r) i j)
  rw [zv_app, zu_app]
  repeat' split
  all_goals first | exact hr | exact h6 _ _
theorem ret_k5 {y : Nat} {as : List Value} {g0 : pz_H} {v : Option Value} {l : Nat} (hC : pz_Cd en l y as g0 0 0 (pz_ret v (sH (tH h t u K) a (sq a) X))) : pz_Cd en l y as g0 0 0 (pz_ret v (sH (tH h t u (k5 K (K 0 5))) a (sq a) X)) := by
  rw [k5_id]; exact hC
theorem nk_k (hc : cS X s) (g : 0 ≤ xnk X) : xnk X < s 0 ∧ rnx s (s 2) = s (18 + 12 * xnk X) ∧ ¬ rnx s (s 2) = 0 := by
  have hr := rnk_R hc.2.1.1 (s 2)
  have e := cR_nk hc.2.2.1
  have hb := hc.2.1.1.2
  have hu : rnx s (s 2) = s (18 + 12 * xnk X) := by
    unfold rnx
    rw [← e, if_neg (by omega)]
  have hl : xnk X < s 0 := by rw [e]; exact hr.2.1
  have := (hc.2.1.2.1 (xnk X) g hl).1
  exact ⟨hl, hu, by omega⟩
theorem nk_n (hc : cS X s) (g : ¬ 0 ≤ xnk X) : rnx s (s 2) = 0 := by
  have hr := rnk_R hc.2.1.1 (s 2)
  have e := cR_nk hc.2.2.1
  unfold rnx
  rw [if_pos (by omega)]
theorem ent_do (hV : cV t u a K X) (hc : cS X s) (h5 : K 0 5 = F 6) (h6 : 0 ≤ F 6 ∧ F 6 ≤ 5) {k x y z : Int} (hk : pKo k) (e3 : K 3 3 = k) (hx : nd k 0 → K 5 0 = x) (hy : nd k 1 → K 5 1 = y) (hz : nd k 2 → K 5 2 = z ∧ 0 ≤ z) :
    ∃ (ok r : Int) (a2 : Int → Nat) (X2 : Int → Int → Int), pz_Cd en 8 114 [.ref (t 0)] (sH (tH h t u K) a (sq a) X) 0 0 (pz_ret (some (.int (zI ok))) (sH (tH h t u (k5 K r)) a2 (sq a2) X2)) ∧ pA a a2 ∧ (0 ≤ r ∧ r ≤ 5) ∧ r = (rFl s lv b F k x y z).2.2.2 6 ∧ (((rFl s lv b F k x y z).1 = 0 ∧ ok = 1 ∧ cS X2 (rFl s lv b F k x y z).2.1) ∨ ((rFl s lv b F k x y z).1 = 1 ∧ ok = 0 ∧ a2 = a ∧ X2 = X)) := by
  have hX := hV.2.2.2.2.1.1
  have hq := cR_ix hc.2.2.1 (K 5 0)
  have hn := cR_n hc.2.2.1
  have hb := hc.2.1.1.2
  have hp := xix_R hX (K 5 0)
  rcases hk with e | e | e | e | e | e | e
  · subst e
    have e0 := hx (Or.inl ⟨rfl, by decide⟩)
    subst e0
    have er : rFl s lv b F 99 (K 5 0) y z = (bI (0 < (rAd s (K 5 0)).1), (rAd s (K 5 0)).2, lv, F) := by
      unfold rFl
      rw [if_pos rfl]
    rw [er]
    by_cases g : ((1 ≤ K 5 0 ∧ K 5 0 ≤ 99) ∧ xix X (K 5 0) < 0) ∧ X 1 1 < 12
    · have hno : ¬ 0 ≤ rpl s (K 5 0) := by omega
      have ea : rAd s (K 5 0) = (0, rAs s (K 5 0)) := by
        unfold rAd
        rw [if_pos ⟨g.1.1, hno⟩, if_neg (by omega)]
      have hz := fin_p hX (n := K 5 0)
      rw [ea]
      exact ⟨1, K 0 5, _, _, ret_k5 (kX6_performEntry_ck hV e3 g.1 g.2), pA_zs (zpI_I hz.1 hz.2 g.2) hV.1, by omega, h5, Or.inl ⟨bI_f (show ¬ (0 : Int) < 0 by decide), rfl, cS_in hc g.1.1.1 g.1.1.2 hno (by omega)⟩⟩
    · have ea : 0 < (rAd s (K 5 0)).1 := by
        unfold rAd
        split
        · rw [if_pos (by omega)]; show (0 : Int) < 2; decide
        · show (0 : Int) < 1; decide
      exact ⟨0, K 0 5, _, _, ret_k5 (kX6_performEntry_ct hV e3 g), pA_rf hV.1, by omega, h5, Or.inr ⟨bI_t ea, rfl, rfl, rfl⟩⟩
  · subst e
    have e0 := hx (Or.inl ⟨rfl, by decide⟩)
    subst e0
    have er : rFl s lv b F 120 (K 5 0) y z = (bI (0 < (rRX s lv b F (K 5 0) False).1), (rRX s lv b F (K 5 0) False).2.1, (rRX s lv b F (K 5 0) False).2.2.1, (rRX s lv b F (K 5 0) False).2.2.2) := by
      unfold rFl
      rw [if_neg (by decide), if_pos rfl]
    rw [er]
    by_cases g1 : 0 ≤ xix X (K 5 0)
    · have hv := rpl_val (s := s) (cue := K 5 0) (by omega)
      have hm := cS_rem hc (lv := lv) (i := rpl s (K 5 0)) (by omega) hv.2 (hd := False)
      rw [hv.1, ← hq] at hm
      by_cases p : s (18 + 12 * xix X (K 5 0) + 3) = 1
      · have e2 : rRX s lv b F (K 5 0) False = (2, zcpy b s 0 0 462, lv, va_up F 6 1) := by
          unfold rRX
          rw [← hq, if_pos g1, if_pos p]
        have e1 := hm.1 p
        rw [e2]
        exact ⟨0, _, _, _, kX6_performEntry_xr hV e3 g1 (by omega), pA_rf hV.1, by omega, e1, Or.inr ⟨bI_t (show (0 : Int) < 2 by decide), rfl, rfl, rfl⟩⟩
      · obtain ⟨m1, m2⟩ := hm.2 p
        by_cases g9 : xrD X (xix X (K 5 0)) False = 0
        · have e2 : rRX s lv b F (K 5 0) False = (0, (rRm s lv (K 5 0) False).2, rkl s lv (12 * s 0), F) := by
            unfold rRX
            rw [← hq, if_pos g1, if_neg p, if_neg (by omega)]
          rw [e2]
          exact ⟨1, K 0 5, _, _, ret_k5 (kX6_performEntry_xk hV e3 g1 g9), pA_zs (zpI_D g1 (by omega) (by omega)) hV.1, by omega, h5, Or.inl ⟨bI_f (show ¬ (0 : Int) < 0 by decide), rfl, m2 g9⟩⟩
        · have hr9 : 0 ≤ xrD X (xix X (K 5 0)) False ∧ xrD X (xix X (K 5 0)) False ≤ 2 := xrf_R _ _ _
          have e2 : rRX s lv b F (K 5 0) False = (2, zcpy b (rRm s lv (K 5 0) False).2 0 0 462, rkl s lv (12 * s 0), va_up F 6 (rRm s lv (K 5 0) False).1) := by
            unfold rRX
            rw [← hq, if_pos g1, if_neg p, if_pos (by omega)]
          rw [e2]
          exact ⟨0, _, _, _, kX6_performEntry_xr hV e3 g1 g9, pA_rf hV.1, by omega, m1.symm, Or.inr ⟨bI_t (show (0 : Int) < 2 by decide), rfl, rfl, rfl⟩⟩
    · have e2 : rRX s lv b F (K 5 0) False = (1, s, lv, F) := by
        unfold rRX
        rw [← hq, if_neg g1]
      rw [e2]
      exact ⟨0, K 0 5, _, _, ret_k5 (kX6_performEntry_xt hV e3 g1), pA_rf hV.1, by omega, h5, Or.inr ⟨bI_t (show (0 : Int) < 1 by decide), rfl, rfl, rfl⟩⟩
  · subst e
    have e0 := hx (Or.inl ⟨rfl, by decide⟩)
    have e1 := hy (Or.inr (Or.inl ⟨rfl, Or.inr rfl⟩))
    have e2 := hz (Or.inr (Or.inr ⟨rfl, rfl⟩))
    subst e0
    subst e1
    obtain ⟨e2, z0⟩ := e2
    subst e2
    by_cases g : 0 ≤ xix X (K 5 0) ∧ (0 ≤ K 5 1 ∧ K 5 1 ≤ 11) ∧ (0 ≤ K 5 2 ∧ K 5 2 ≤ 100)
    · have er : rFl s lv b F 115 (K 5 0) (K 5 1) (K 5 2) = rGd s lv b F (K 5 0) (K 5 1) (K 5 2) := by
        unfold rFl
        rw [if_neg (by decide), if_neg (by decide), if_pos rfl, if_pos (by omega)]
      have hv := rpl_val (s := s) (cue := K 5 0) (by omega)
      have hm := cS_give hc (lv := lv) (k := rpl s (K 5 0)) (c := K 5 1) (v := K 5 2) (p := 0) (by omega) hv.2 g.2.1.1 g.2.1.2 (by omega) g.2.2.2 (by decide) (by decide) (hd := False)
      rw [hv.1, ← hq] at hm
      obtain ⟨m1, m2⟩ := hm
      rw [er]
      unfold rGd
      by_cases g9 : xrG X (xix X (K 5 0)) (K 5 1) (K 5 2) False = 0
      · rw [if_neg (by omega), if_neg (by omega)]
        exact ⟨1, K 0 5, _, _, ret_k5 (kX6_performEntry_sk hV e3 g.1 g.2.1 g.2.2 g9), pA_rf hV.1, by omega, h5, Or.inl ⟨bI_f (by omega), rfl, (m2 g9).1⟩⟩
      · have hr9 : 0 ≤ xrG X (xix X (K 5 0)) (K 5 1) (K 5 2) False ∧ xrG X (xix X (K 5 0)) (K 5 1) (K 5 2) False ≤ 2 := xrf_R _ _ _
        rw [if_pos (by omega), if_pos (by omega)]
        exact ⟨0, _, _, _, kX6_performEntry_sr hV e3 g.1 g.2.1 g.2.2 g9, pA_rf hV.1, by omega, m1.symm, Or.inr ⟨bI_t (by omega), rfl, rfl, rfl⟩⟩
    · have er : rFl s lv b F 115 (K 5 0) (K 5 1) (K 5 2) = (1, s, lv, F) := by
        unfold rFl
        rw [if_neg (by decide), if_neg (by decide), if_pos rfl, if_neg (by omega)]
      rw [er]
      exact ⟨0, K 0 5, _, _, ret_k5 (kX6_performEntry_st hV e3 g), pA_rf hV.1, by omega, h5, Or.inr ⟨rfl, rfl, rfl, rfl⟩⟩
  · subst e
    have e0 := hx (Or.inl ⟨rfl, by decide⟩)
    have e1 := hy (Or.inr (Or.inl ⟨rfl, Or.inl rfl⟩))
    subst e0
    subst e1
    by_cases g : 0 ≤ xix X (K 5 0) ∧ 0 ≤ K 5 1 ∧ K 5 1 ≤ 11
    · have er : rFl s lv b F 114 (K 5 0) (K 5 1) z = rGd s lv b F (K 5 0) (K 5 1) (-1) := by
        unfold rFl
        rw [if_neg (by decide), if_neg (by decide), if_neg (by decide), if_pos rfl, if_pos (by omega)]
      have hv := rpl_val (s := s) (cue := K 5 0) (by omega)
      have hm := cS_give hc (lv := lv) (k := rpl s (K 5 0)) (c := K 5 1) (v := -1) (p := 0) (by omega) hv.2 g.2.1 g.2.2 (by decide) (by decide) (by decide) (by decide) (hd := False)
      rw [hv.1, ← hq] at hm
      obtain ⟨m1, m2⟩ := hm
      rw [er]
      unfold rGd
      by_cases g9 : xrG X (xix X (K 5 0)) (K 5 1) (-1) False = 0
      · rw [if_neg (by omega), if_neg (by omega)]
        exact ⟨1, K 0 5, _, _, ret_k5 (kX6_performEntry_rk hV e3 g.1 g.2 g9), pA_rf hV.1, by omega, h5, Or.inl ⟨bI_f (by omega), rfl, (m2 g9).1⟩⟩
      · have hr9 : 0 ≤ xrG X (xix X (K 5 0)) (K 5 1) (-1) False ∧ xrG X (xix X (K 5 0)) (K 5 1) (-1) False ≤ 2 := xrf_R _ _ _
        rw [if_pos (by omega), if_pos (by omega)]
        exact ⟨0, _, _, _, kX6_performEntry_rr hV e3 g.1 g.2 g9, pA_rf hV.1, by omega, m1.symm, Or.inr ⟨bI_t (by omega), rfl, rfl, rfl⟩⟩
    · have er : rFl s lv b F 114 (K 5 0) (K 5 1) z = (1, s, lv, F) := by
        unfold rFl
        rw [if_neg (by decide), if_neg (by decide), if_neg (by decide), if_pos rfl, if_neg (by omega)]
      rw [er]
      exact ⟨0, K 0 5, _, _, ret_k5 (kX6_performEntry_rt hV e3 g), pA_rf hV.1, by omega, h5, Or.inr ⟨rfl, rfl, rfl, rfl⟩⟩
  · subst e
    have er : rFl s lv b F 103 x y z = if rnx s (s 2) = 0 then (1, zcpy b s 0 0 462, lv, va_up F 6 4) else (0, rgo s (rnx s (s 2)), lv, F) := by
      unfold rFl
      rw [if_neg (by decide), if_neg (by decide), if_neg (by decide), if_neg (by decide), if_pos rfl]
    rw [er]
    by_cases g1 : 0 ≤ xnk X
    · obtain ⟨n1, n2, n3⟩ := nk_k hc g1
      have hg := cS_go hc g1 n1
      rw [← n2] at hg
      rw [if_neg n3]
      exact ⟨1, K 0 5, _, _, ret_k5 (kX6_performEntry_gk hV e3 g1), pA_rf hV.1, by omega, h5, Or.inl ⟨rfl, rfl, hg⟩⟩
    · rw [if_pos (nk_n hc g1)]
      exact ⟨0, 4, _, _, kX6_performEntry_gr hV e3 g1, pA_rf hV.1, by decide, rfl, Or.inr ⟨rfl, rfl, rfl, rfl⟩⟩
  · subst e
    have e0 := hx (Or.inl ⟨rfl, by decide⟩)
    subst e0
    have er : rFl s lv b F 106 (K 5 0) y z = if 0 ≤ rpl s (K 5 0) then (0, rgo s (K 5 0), lv, F) else (1, s, lv, F) := by
      unfold rFl
      rw [if_neg (by decide), if_neg (by decide), if_neg (by decide), if_neg (by decide), if_neg (by decide), if_pos rfl]
    rw [er]
    by_cases g1 : 0 ≤ xix X (K 5 0)
    · have hv := rpl_val (s := s) (cue := K 5 0) (by omega)
      have hg := cS_go hc (k := rpl s (K 5 0)) (by omega) hv.2
      rw [hv.1, ← hq] at hg
      rw [if_pos (by omega)]
      exact ⟨1, K 0 5, _, _, ret_k5 (kX6_performEntry_jk hV e3 g1), pA_rf hV.1, by omega, h5, Or.inl ⟨rfl, rfl, hg⟩⟩
    · rw [if_neg (by omega)]
      exact ⟨0, K 0 5, _, _, ret_k5 (kX6_performEntry_jt hV e3 g1), pA_rf hV.1, by omega, h5, Or.inr ⟨rfl, rfl, rfl, rfl⟩⟩
  · subst e
    have e0 := hx (Or.inl ⟨rfl, by decide⟩)
    subst e0
    have h8 := hc.2.2.1.1.2.2.2.2.2
    have er : rFl s lv b F 116 (K 5 0) y z = (bI (0 < (rPs s (K 5 0)).1), (rPs s (K 5 0)).2, lv, F) := by
      unfold rFl
      rw [if_neg (by decide), if_neg (by decide), if_neg (by decide), if_neg (by decide), if_neg (by decide), if_neg (by decide)]
    rw [er]
    by_cases g : (0 ≤ K 5 0 ∧ K 5 0 ≤ 6000) ∧ X 67 8 + K 5 0 ≤ 100000
    · have e2 : rPs s (K 5 0) = (0, rpsN (K 5 0).toNat s) := by
        unfold rPs
        rw [if_pos g.1, if_pos (by omega)]
      have en2 : (((K 5 0).toNat : Nat) : Int) = K 5 0 := by omega
      have hg := (cS_ps (K 5 0).toNat (K 5 0).toNat X s (Nat.le_refl _) hc (by omega)).1
      rw [en2] at hg
      rw [e2]
      exact ⟨1, K 0 5, _, _, ret_k5 (kX6_performEntry_tk hV e3 g.1 g.2), pA_rf hV.1, by omega, h5, Or.inl ⟨bI_f (show ¬ (0 : Int) < 0 by decide), rfl, hg⟩⟩
    · have e2 : 0 < (rPs s (K 5 0)).1 := by
        unfold rPs
        split
        · rw [if_neg (by omega)]; show (0 : Int) < 2; decide
        · show (0 : Int) < 1; decide
      exact ⟨0, K 0 5, _, _, ret_k5 (kX6_performEntry_tt hV e3 g), pA_rf hV.1, by omega, h5, Or.inr ⟨bI_t e2, rfl, rfl, rfl⟩⟩
end ent
