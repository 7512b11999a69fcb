/-! the class: read, in terms of the reference -/
abbrev kE (K K2 : Int → Int → Int) : Prop := (∀ i : Int, ¬ i = 0 → ¬ i = 3 → ¬ i = 5 → K2 i = K i) ∧ (∀ j : Int, ¬ j = 5 → K2 0 j = K 0 j) ∧ (∀ j : Int, ¬ j = 2 → ¬ j = 3 → K2 3 j = K 3 j)
theorem kE_rf {K : Int → Int → Int} : kE K K := ⟨fun _ _ _ _ => rfl, fun _ _ => rfl, fun _ _ _ => rfl⟩
theorem kE_tr {K K2 K3 : Int → Int → Int} (h1 : kE K K2) (h2 : kE K2 K3) : kE K K3 := ⟨fun i a b c => (h2.1 i a b c).trans (h1.1 i a b c), fun j a => (h2.2.1 j a).trans (h1.2.1 j a), fun j a b => (h2.2.2 j a b).trans (h1.2.2 j a b)⟩
theorem kE_S {K : Int → Int → Int} {pl kd : Int} {M : Int → Int} : kE K (kS K pl kd M) := by
  refine ⟨fun i a b c => ?_, fun j a => ?_, fun j a b => ?_⟩
  · unfold kS
    rw [zv_ne _ _ c, zv_ne _ _ b]
  · unfold kS
    rw [zv_ne _ _ (by decide), zv_ne _ _ (by decide)]
  · unfold kS
    rw [zv_ne _ _ (by decide), zv_at, zu_ne _ b, zu_ne _ a]
theorem kS_0 {K : Int → Int → Int} {pl kd : Int} {M : Int → Int} : kS K pl kd M 0 = K 0 := by
  unfold kS
  rw [zv_ne _ _ (by decide), zv_ne _ _ (by decide)]
theorem kE_5 {K : Int → Int → Int} {r : Int} : kE K (k5 K r) := by
  refine ⟨fun i a b c => ?_, fun j a => ?_, fun j a b => ?_⟩
  · exact zv_ne _ _ a
  · show zv K 0 (zu (K 0) 5 r) 0 j = _
    rw [zv_at, zu_ne _ a]
  · show zv K 0 (zu (K 0) 5 r) 3 j = _
    rw [zv_ne _ _ (by decide)]
section cls
variable {en : pz_Env} {h : pz_H} {t u a b : Int → Nat} {K X Y : Int → Int → Int} {s : Int → Int}
theorem cV_S {pl kd : Int} {M : Int → Int} (hV : cV t u a K X) (h1 : zR pl) (h2 : zR kd) (h3 : ∀ i, zR (M i)) : cV t u a (kS K pl kd M) X := by
  obtain ⟨g1, g2, g3, g4, g5, g6, g7, g8, g9, g10⟩ := hV
  have e := kE_S (K := K) (pl := pl) (kd := kd) (M := M)
  have e1 := e.1 1 (by decide) (by decide) (by decide)
  have e4 := e.1 4 (by decide) (by decide) (by decide)
  have e3 := e.2.2 1 (by decide) (by decide)
  refine ⟨g1, g2, g3, g4, g5, fun i j => ?_, ?_, ?_, ?_, ?_⟩
  · unfold kS
    simp only [zv_app, zu_app]
    repeat' split
    all_goals first | exact h1 | exact h2 | exact h3 _ | exact g6 _ _
  · rw [e1]; exact g7
  · rw [e1]; exact g8
  · rw [e3]; exact g9
  · rw [e4]; exact g10
theorem cV_0 (hV : cV t u a K X) : cV t u a (zv K 3 (zu (K 3) 1 0)) X := by
  obtain ⟨g1, g2, g3, g4, g5, g6, g7, g8, g9, g10⟩ := hV
  refine ⟨g1, g2, g3, g4, g5, fun i j => ?_, ?_, ?_, ?_, ?_⟩
  · simp only [zv_app, zu_app]
    repeat' split
    all_goals first | exact ⟨by decide, by decide⟩ | exact g6 _ _
  · rw [zv_ne _ _ (by decide)]; exact g7
  · rw [zv_ne _ _ (by decide)]; exact g8
  · rw [zv_at, zu_at]; decide
  · rw [zv_ne _ _ (by decide)]; exact g10
theorem g_count (hV : cV t u a K X) : pz_Cd en 4 49 [.ref (t 3)] (sH (tH h t u K) a (sq a) X) 0 0 (pz_ret (some (.int (zI (kCt (K 4) (K 3 1) 60 1 0 (K 3 3) (K 5)).1))) (sH (tH h t u (kS K (kCt (K 4) (K 3 1) 60 1 0 (K 3 3) (K 5)).2.1 (kCt (K 4) (K 3 1) 60 1 0 (K 3 3) (K 5)).2.2.1 (kCt (K 4) (K 3 1) 60 1 0 (K 3 3) (K 5)).2.2.2)) a (sq a) X)) := by
  obtain ⟨hj, ht, hD, hu0, hI, hK, hf, hr, ⟨q0, q1⟩, hA⟩ := hV
  have hC := kX3_countEntries (en := en) (h := sH h a (sq a) X) (t := t) (u := u) (K := K) (pl := K 3 2) (kd := K 3 3) (M := K 5) ht hA q0 q1
  rw [kS_id] at hC
  rw [tH_swap ht hj hD, tH_swap ht hj hD]
  exact hC
theorem g_read (hV : cV t u a K X) (l1 : 0 ≤ K 3 2) (l2 : K 3 2 ≤ K 3 1) : pz_Cd en 3 50 [.ref (t 3)] (sH (tH h t u K) a (sq a) X) 0 0 (pz_ret (some (.int (zI (bI ((cEn (K 4) (K 5) (K 3 1) (K 3 2)).1.2 = 0))))) (sH (tH h t u (kS K (cEn (K 4) (K 5) (K 3 1) (K 3 2)).1.1 (if K 3 2 < K 3 1 then K 4 (K 3 2) else K 3 3) (cEn (K 4) (K 5) (K 3 1) (K 3 2)).2)) a (sq a) X)) := by
  obtain ⟨hj, ht, hD, hu0, hI, hK, hf, hr, ⟨q0, q1⟩, hA⟩ := hV
  have hC := kX3_readEntry (en := en) (h := sH h a (sq a) X) (t := t) (u := u) (K := K) (pl := K 3 2) (kd := K 3 3) (M := K 5) ht hA l1 l2 q1
  rw [kS_id] at hC
  rw [tH_swap ht hj hD, tH_swap ht hj hD]
  exact hC
set_option maxRecDepth 100000 in
set_option maxHeartbeats 4000000 in
theorem rd_loop {m ln : Int} {inp KN N b0 : Int → Int} (m2 : m ≤ 60) (l0 : 0 ≤ ln) (l3 : ln ≤ 60) (hE : ∀ k : Nat, (k : Int) < m → okE inp ln k) (hKN : ∀ k : Nat, (k : Int) < m → KN k = inp (ps inp ln k) ∧ ∀ r : Int, nd (inp (ps inp ln k)) r → N (3 * k + r) = eN inp ln (ps inp ln k) r) (hN : ∀ i, 0 ≤ N i ∧ N i < 10000) (hb0 : ∀ i, zR (b0 i)) : ∀ (n : Nat) (k : Int) (a : Int → Nat) (K X : Int → Int → Int) (s lv : Int → Int) (F : Nat → Int), 0 ≤ k → k + n = m → cV t u a K X → cS X s → (∀ i, zR (lv i)) → K 0 5 = F 6 → (0 ≤ F 6 ∧ F 6 ≤ 5) → F 7 = 0 → K 4 = inp → K 3 1 = ln → K 3 2 = ps inp ln k.toNat →
    ∃ (a2 : Int → Nat) (K2 X2 : Int → Int → Int) (dn : Int), pA a a2 ∧ kE K K2 ∧ cV t u a2 K2 X2 ∧ K2 0 5 = (rEx KN N b0 n k s lv F).2.2 6 ∧ (0 ≤ (rEx KN N b0 n k s lv F).2.2 6 ∧ (rEx KN N b0 n k s lv F).2.2 6 ≤ 5) ∧ (∀ i, zR ((rEx KN N b0 n k s lv F).2.1 i)) ∧ (∀ j, j ≠ 6 → j ≠ 7 → (rEx KN N b0 n k s lv F).2.2 j = F j) ∧
      ((dn = 1 ∧ (rEx KN N b0 n k s lv F).2.2 7 = 0 ∧ cS X2 (rEx KN N b0 n k s lv F).1) ∨ (dn = 0 ∧ (rEx KN N b0 n k s lv F).2.2 7 = 2 ∧ ∀ i : Int, 0 ≤ i → i < 462 → (rEx KN N b0 n k s lv F).1 i = b0 i)) ∧
      ∀ Q : pz_Q, (∀ v : Int, pz_WP 9 en (pz_Cd en (9 - 1)) 6 cX6_read 4 (some .int) [] false Q 103 [some (.ref (t 0)), some (.int (zI m)), some (.int (zI dn)), some (.int (zI v))] [] (sH (tH h t u K2) a2 (sq a2) X2) 1 6) → pz_WP 9 en (pz_Cd en (9 - 1)) 6 cX6_read 4 (some .int) [] false Q 65 [some (.ref (t 0)), some (.int (zI m)), some (.int (zI 1)), some (.int (zI k))] [] (sH (tH h t u K) a (sq a) X) 1 6
  | 0, k, a, K, X, s, lv, F, k0, kn, hV, hc, hL, h5, h6, h7, e4, e1, e2 => by
    refine ⟨a, K, X, 1, pA_rf hV.1, kE_rf, hV, h5, h6, hL, fun _ _ _ => rfl, Or.inl ⟨rfl, h7, hc⟩, fun Q hQ => ?_⟩
    obtain ⟨hj, ht, hD, hu0, hI, hK, hf, hr, hq, hA⟩ := id hV
    refine pr_iload_n dX6_read_65 rfl ?_
    refine zr_if_eq (tgt := 103) dX6_read_66 (by decide) (by decide) (fun c66 => by exfalso; omega) (fun c66 => ?_)
    refine pr_iload_n dX6_read_69 rfl ?_
    refine pr_iload_n dX6_read_70 rfl ?_
    refine zr_icmp_ge (tgt := 103) dX6_read_71 (by decide) (by omega) (by omega) (fun c71 => ?_) (fun c71 => by exfalso; omega)
    exact hQ k
  | n + 1, k, a, K, X, s, lv, F, k0, kn, hV, hc, hL, h5, h6, h7, e4, e1, e2 => by
    obtain ⟨hj, ht, hD, hu0, hI, hK, hf, hr, hq, hA⟩ := id hV
    have ek : ((k.toNat : Nat) : Int) = k := by omega
    have ok := hE k.toNat (by omega)
    have hp := ps_R (inp := inp) l0 k.toNat
    have sp := eN_sp (N := fun _ => 0) (M := K 5) (to := 0) ok
    have hkn := hKN k.toNat (by omega)
    rw [ek] at hkn
    have hRE := g_read (en := en) (h := h) hV (by rw [e2]; exact hp.1) (by rw [e2, e1]; exact hp.2)
    rw [e1, e2, e4] at hRE
    rw [if_pos sp.1] at hRE
    have hb1 : bI ((cEn inp (K 5) ln (ps inp ln k.toNat)).1.2 = 0) = 1 := bI_t (by rw [cEq_1]; exact ok)
    rw [hb1] at hRE
    have hpl : (cEn inp (K 5) ln (ps inp ln k.toNat)).1.1 = ps inp ln (k + 1).toNat := by
      rw [cEq_1, show (k + 1).toNat = k.toNat + 1 by omega]
      rfl
    rw [hpl, cEn_2] at hRE
    have hp1 := ps_R (inp := inp) l0 (k + 1).toNat
    have hin := hA (ps inp ln k.toNat)
    rw [e4] at hin
    have hV1 : cV t u a (kS K (ps inp ln (k + 1).toNat) (inp (ps inp ln k.toNat)) (cM inp (K 5) ln (ps inp ln k.toNat))) X := cV_S hV (by omega) (by omega) (cM_b (hK 5))
    have e5 : kS K (ps inp ln (k + 1).toNat) (inp (ps inp ln k.toNat)) (cM inp (K 5) ln (ps inp ln k.toNat)) 0 5 = F 6 := (congrFun kS_0 5).trans h5
    have n0 := hN (3 * k)
    have n1 := hN (3 * k + 1)
    have n2 := hN (3 * k + 2)
    have cm : ∀ r : Int, nd (inp (ps inp ln k.toNat)) r → kS K (ps inp ln (k + 1).toNat) (inp (ps inp ln k.toNat)) (cM inp (K 5) ln (ps inp ln k.toNat)) 5 r = N (3 * k + r) := fun r hr => by
      rw [kS_5, (sp.2.2 r hr).2, hkn.2 r hr]
    obtain ⟨okv, r, a1, X1, hPE, pa, hr5, er, hor⟩ := ent_do (en := en) (h := h) (lv := lv) (b := b0) (k := inp (ps inp ln k.toNat)) (x := N (3 * k)) (y := N (3 * k + 1)) (z := N (3 * k + 2)) hV1 hc e5 h6 sp.2.1 kS_3 (fun z => by have := cm 0 z; rwa [Int.add_zero] at this) (fun z => cm 1 z) (fun z => ⟨cm 2 z, n2.1⟩)
    have rok := rFl_ok (F := F) (k := inp (ps inp ln k.toNat)) hc.2.1 hL hb0 n0.1 n0.2 (show zR (N (3 * k + 1)) by omega) n2.1 n2.2
    have x7 := rok.2.2.2.2 7 (by decide)
    have rs : ∀ T : (Int → Int) × (Int → Int) × (Nat → Int), T = rEx KN N b0 (n + 1) k s lv F → T = if (rFl s lv b0 F (inp (ps inp ln k.toNat)) (N (3 * k)) (N (3 * k + 1)) (N (3 * k + 2))).1 = 0 then rEx KN N b0 n (k + 1) (rFl s lv b0 F (inp (ps inp ln k.toNat)) (N (3 * k)) (N (3 * k + 1)) (N (3 * k + 2))).2.1 (rFl s lv b0 F (inp (ps inp ln k.toNat)) (N (3 * k)) (N (3 * k + 1)) (N (3 * k + 2))).2.2.1 (rFl s lv b0 F (inp (ps inp ln k.toNat)) (N (3 * k)) (N (3 * k + 1)) (N (3 * k + 2))).2.2.2 else (zcpy b0 (rFl s lv b0 F (inp (ps inp ln k.toNat)) (N (3 * k)) (N (3 * k + 1)) (N (3 * k + 2))).2.1 0 0 462, (rFl s lv b0 F (inp (ps inp ln k.toNat)) (N (3 * k)) (N (3 * k + 1)) (N (3 * k + 2))).2.2.1, va_up (rFl s lv b0 F (inp (ps inp ln k.toNat)) (N (3 * k)) (N (3 * k + 1)) (N (3 * k + 2))).2.2.2 7 2) := fun T hT => by
      rw [hT, ← hkn.1]
      rfl
    rw [rs _ rfl]
    rcases hor with ⟨o1, o2, o3⟩ | ⟨o1, o2, o3, o4⟩
    · subst o2
      rw [if_pos o1]
      have hV2 := cV_5 (cV_a hV1 pa (cS_I o3)) (r := r) (by omega)
      obtain ⟨a2, K2, X2, dn, f1, f2, f3, f4, f5, f6, f7, f8, f9⟩ := rd_loop m2 l0 l3 hE hKN hN hb0 n (k + 1) a1 _ X1 _ _ _ (by omega) (by omega) hV2 o3 rok.2.1 (show k5 _ r 0 5 = _ by rw [← er]; show zv _ 0 (zu _ 5 r) 0 5 = r; rw [zv_at, zu_at]) (by rw [← er]; exact hr5) (x7.trans h7) ((kE_5.1 4 (by decide) (by decide) (by decide)).trans (kS_4.trans e4)) ((kE_5.2.2 1 (by decide) (by decide)).trans (kS_1.trans e1)) (by
        show zv _ 0 _ 3 2 = _
        rw [zv_ne _ _ (by decide)]; exact kS_2)
      refine ⟨a2, K2, X2, dn, pA_tr pa f1, kE_tr kE_S (kE_tr kE_5 f2), f3, f4, f5, f6, fun j j6 j7 => (f7 j j6 j7).trans (rok.2.2.2.2 j j6), f8, fun Q hQ => ?_⟩
      have ih := f9 Q hQ
      refine pr_iload_n dX6_read_65 rfl ?_
      refine zr_if_eq (tgt := 103) dX6_read_66 (by decide) (by decide) (fun c66 => by exfalso; omega) (fun c66 => ?_)
      refine pr_iload_n dX6_read_69 rfl ?_
      refine pr_iload_n dX6_read_70 rfl ?_
      refine zr_icmp_ge (tgt := 103) dX6_read_71 (by decide) (by omega) (by omega) (fun c71 => by exfalso; omega) (fun c71 => ?_)
      refine pr_aload_n dX6_read_74 rfl ?_
      refine pr_getf dX6_read_75 pzf_6_29 (gS_0 ht hD hu0) rfl ?_
      refine zcv0i dX6_read_78 pzm_6_333 pzt_X3_readEntry (gH_3 ht hD) hRE (by decide) (Nat.le_of_ble_eq_true rfl) (by decide) ?_
      refine zr_if_eq (tgt := 95) dX6_read_81 (by decide) (by decide) (fun c81 => by exfalso; omega) (fun c81 => ?_)
      refine pr_aload_n dX6_read_84 rfl ?_
      refine zcv0i dX6_read_85 pzm_6_337 pzt_X6_performEntry (gS_0 ht hD hu0) hPE (by decide) (Nat.le_of_ble_eq_true rfl) (by decide) ?_
      refine zr_if_eq (tgt := 95) dX6_read_88 (by decide) (by decide) (fun c88 => by exfalso; omega) (fun c88 => ?_)
      refine zr_iconst dX6_read_91 ?_
      refine pr_goto (tgt := 96) dX6_read_92 (by decide) ?_
      refine pr_istore_n dX6_read_96 (by decide) rfl ?_
      refine zr_iinc dX6_read_97 rfl (by decide) rfl ?_
      refine pr_goto (tgt := 65) dX6_read_100 (by decide) ?_
      exact ih
    · subst o2
      subst o3
      subst o4
      rw [if_neg (by omega)]
      refine ⟨a1, _, X1, 0, pa, kE_tr kE_S kE_5, cV_5 hV1 (r := r) (by omega), (show zv _ 0 (zu _ 5 r) 0 5 = _ by rw [zv_at, zu_at]; exact er), (by rw [er] at hr5; exact hr5), rok.2.1, fun j j6 j7 => (vu_ne _ _ j7).trans (rok.2.2.2.2 j j6), Or.inr ⟨rfl, rfl, fun i i1 i2 => ?_⟩, fun Q hQ => ?_⟩
      · show zcpy b0 _ 0 0 462 i = b0 i
        rw [zcpy0, if_pos ⟨i1, i2⟩]
      · refine pr_iload_n dX6_read_65 rfl ?_
        refine zr_if_eq (tgt := 103) dX6_read_66 (by decide) (by decide) (fun c66 => by exfalso; omega) (fun c66 => ?_)
        refine pr_iload_n dX6_read_69 rfl ?_
        refine pr_iload_n dX6_read_70 rfl ?_
        refine zr_icmp_ge (tgt := 103) dX6_read_71 (by decide) (by omega) (by omega) (fun c71 => by exfalso; omega) (fun c71 => ?_)
        refine pr_aload_n dX6_read_74 rfl ?_
        refine pr_getf dX6_read_75 pzf_6_29 (gS_0 ht hD hu0) rfl ?_
        refine zcv0i dX6_read_78 pzm_6_333 pzt_X3_readEntry (gH_3 ht hD) hRE (by decide) (Nat.le_of_ble_eq_true rfl) (by decide) ?_
        refine zr_if_eq (tgt := 95) dX6_read_81 (by decide) (by decide) (fun c81 => by exfalso; omega) (fun c81 => ?_)
        refine pr_aload_n dX6_read_84 rfl ?_
        refine zcv0i dX6_read_85 pzm_6_337 pzt_X6_performEntry (gS_0 ht hD hu0) hPE (by decide) (Nat.le_of_ble_eq_true rfl) (by decide) ?_
        refine zr_if_eq (tgt := 95) dX6_read_88 (by decide) (by decide) (fun c88 => ?_) (fun c88 => by exfalso; omega)
        refine zr_iconst dX6_read_95 ?_
        refine pr_istore_n dX6_read_96 (by decide) rfl ?_
        refine zr_iinc dX6_read_97 rfl (by decide) rfl ?_
        refine pr_goto (tgt := 65) dX6_read_100 (by decide) ?_
        refine pr_iload_n dX6_read_65 rfl ?_
        refine zr_if_eq (tgt := 103) dX6_read_66 (by decide) (by decide) (fun c66 => ?_) (fun c66 => absurd rfl c66)
        exact hQ (k + 1)
theorem kCt_all {inp : Int → Int} {ln : Int} {K N M : Int → Int} {kd : Int} (l0 : 0 ≤ ln) (l3 : ln ≤ 60) :
    ∃ E : Nat, E < 60 ∧ (rdR inp ln K N).1 = (E : Int) + 1 ∧ rdI inp ln E (rdR inp ln K N).2.1 (rdR inp ln K N).2.2.1 (rdR inp ln K N).2.2.2 ∧ (((rdR inp ln K N).2.1.2 = 1 ∧ (kCt inp ln 60 1 0 kd M).1 = -1) ∨ ((rdR inp ln K N).2.1.2 = 0 ∧ (kCt inp ln 60 1 0 kd M).1 = (E : Int) + 1)) ∧ (kCt inp ln 60 1 0 kd M).2.1 = (rdR inp ln K N).2.1.1 := by
  obtain ⟨E, h1, h2, h3, h4⟩ := rdR_sp (inp := inp) l0 l3 K N
  have hx := h3.1
  rw [hx] at h4
  obtain ⟨k1, k2⟩ := kCt_sp l0 (fun k hk => h3.2.1 k hk) h4 E 60 0 kd M (by omega) h1
  have k1 : (kCt inp ln 60 1 0 kd M).1 = _ := k1
  have k2 : (kCt inp ln 60 1 0 kd M).2.1 = _ := k2
  refine ⟨E, h1, h2, h3, ?_, ?_⟩
  · rw [hx, k1]
    rcases h4 with g | ⟨g, -⟩
    · exact Or.inl ⟨g, if_neg (by omega)⟩
    · exact Or.inr ⟨g, if_pos g⟩
  · rw [k2, hx]
set_option maxRecDepth 100000 in
set_option maxHeartbeats 4000000 in
theorem kX6_read_w (hV : cV t u a K X) (hw : (kCt (K 4) (K 3 1) 60 1 0 (K 3 3) (K 5)).1 = -1) : pz_Cd en 9 102 [.ref (t 0)] (sH (tH h t u K) a (sq a) X) 1 6 (pz_thr "java/lang/IllegalArgumentException" (sH (tH h t u (zv (zv (kS K (kCt (K 4) (K 3 1) 60 1 0 (K 3 3) (K 5)).2.1 (kCt (K 4) (K 3 1) 60 1 0 (K 3 3) (K 5)).2.2.1 (kCt (K 4) (K 3 1) 60 1 0 (K 3 3) (K 5)).2.2.2) 0 (zu ((kS K (kCt (K 4) (K 3 1) 60 1 0 (K 3 3) (K 5)).2.1 (kCt (K 4) (K 3 1) 60 1 0 (K 3 3) (K 5)).2.2.1 (kCt (K 4) (K 3 1) 60 1 0 (K 3 3) (K 5)).2.2.2) 0) 6 (kCt (K 4) (K 3 1) 60 1 0 (K 3 3) (K 5)).2.1)) 3 (zu (zv (kS K (kCt (K 4) (K 3 1) 60 1 0 (K 3 3) (K 5)).2.1 (kCt (K 4) (K 3 1) 60 1 0 (K 3 3) (K 5)).2.2.1 (kCt (K 4) (K 3 1) 60 1 0 (K 3 3) (K 5)).2.2.2) 0 (zu ((kS K (kCt (K 4) (K 3 1) 60 1 0 (K 3 3) (K 5)).2.1 (kCt (K 4) (K 3 1) 60 1 0 (K 3 3) (K 5)).2.2.1 (kCt (K 4) (K 3 1) 60 1 0 (K 3 3) (K 5)).2.2.2) 0) 6 (kCt (K 4) (K 3 1) 60 1 0 (K 3 3) (K 5)).2.1) 3) 1 0))) a (sq a) X)) := by
  refine pz_in pzt_X6_read ?_
  obtain ⟨hj, ht, hD, hu0, hI, hK, ⟨f0, f1⟩, ⟨r0, r1⟩, ⟨q0, q1⟩, hA⟩ := id hV
  have hX := hI.1
  obtain ⟨hR, hn0, hn1, hm0, hm1⟩ := id hX
  refine pr_aload_n dX6_read_0 rfl ?_
  refine pr_getf dX6_read_1 pzf_6_29 (gS_0 ht hD hu0) rfl ?_
  refine zcv0i dX6_read_4 pzm_6_322 pzt_X3_countEntries (gH_3 ht hD) (g_count hV) (by decide) (Nat.le_of_ble_eq_true rfl) (by decide) ?_
  rw [hw]
  refine pr_istore_n dX6_read_7 (by decide) rfl ?_
  refine pr_iload_n dX6_read_8 rfl ?_
  refine zr_if_ge (tgt := 42) dX6_read_9 (by decide) (by decide) (fun c9 => by exfalso; omega) (fun c9 => ?_)
  refine pr_aload_n dX6_read_12 rfl ?_
  refine pr_aload_n dX6_read_13 rfl ?_
  refine pr_getf dX6_read_14 pzf_6_29 (gS_0 ht hD hu0) rfl ?_
  refine pr_getf dX6_read_17 pzf_6_325 (gH_3 ht hD) rfl ?_
  refine pr_putf dX6_read_20 pzf_6_37 (Or.inl rfl) (gS_0 ht hD hu0) (Nat.le_of_ble_eq_true rfl) rfl rfl (gS_p0_6 hj ht hD hu0) ?_
  refine pr_aload_n dX6_read_23 rfl ?_
  refine pr_getf dX6_read_24 pzf_6_29 (gS_0 ht hD hu0) rfl ?_
  refine zr_iconst dX6_read_27 ?_
  refine pr_putf dX6_read_28 pzf_6_313 (Or.inl rfl) (gH_3 ht hD) (Nat.le_of_ble_eq_true rfl) rfl rfl (gH_p3_1 hj ht hD) ?_
  exact pr_thrw dX6_read_31 dX6_read_34 dX6_read_35 dX6_read_38 dX6_read_41 pze_6_59 pzs_328 rfl (by decide) rfl ⟨rfl, rfl⟩
set_option maxRecDepth 100000 in
set_option maxHeartbeats 4000000 in
theorem rd_do {m : Int} {KN N b0 lv : Int → Int} {F : Nat → Int} {n : Nat} (hV : cV t u a K X) (hc : cS X s) (hYR : ∀ i j, zR (Y i j)) (hb : bO h t a b Y) (hub : u (2 + K 1 1) = b 0) (hL : ∀ i, zR (lv i)) (h5 : K 0 5 = F 6) (h6 : 0 ≤ F 6 ∧ F 6 ≤ 5) (h7 : F 7 = 0) (hm : (kCt (K 4) (K 3 1) 60 1 0 (K 3 3) (K 5)).1 = m) (m1 : 1 ≤ m) (m2 : m ≤ 60) (mn : (n : Int) = m) (hE : ∀ k : Nat, (k : Int) < m → okE (K 4) (K 3 1) k) (hKN : ∀ k : Nat, (k : Int) < m → KN k = K 4 (ps (K 4) (K 3 1) k) ∧ ∀ r : Int, nd (K 4 (ps (K 4) (K 3 1) k)) r → N (3 * k + r) = eN (K 4) (K 3 1) (ps (K 4) (K 3 1) k) r) (hN : ∀ i, 0 ≤ N i ∧ N i < 10000) (hb0 : ∀ i, zR (b0 i)) (hbs : ∀ i : Int, 0 ≤ i → i < 462 → b0 i = s i) :
    ∃ (a2 : Int → Nat) (K2 X2 : Int → Int → Int), pA a a2 ∧ kE K K2 ∧ cV t u a2 K2 X2 ∧ K2 0 5 = (rEx KN N b0 n 0 s lv F).2.2 6 ∧ (0 ≤ (rEx KN N b0 n 0 s lv F).2.2 6 ∧ (rEx KN N b0 n 0 s lv F).2.2 6 ≤ 5) ∧ (∀ i, zR ((rEx KN N b0 n 0 s lv F).2.1 i)) ∧ (∀ j, j ≠ 6 → j ≠ 7 → (rEx KN N b0 n 0 s lv F).2.2 j = F j) ∧
      (((rEx KN N b0 n 0 s lv F).2.2 7 = 0 ∧ cS X2 (rEx KN N b0 n 0 s lv F).1 ∧ pz_Cd en 9 102 [.ref (t 0)] (sH (tH h t u K) a (sq a) X) 1 6 (pz_ret (some (.int (zI m))) (sH (tH (sH h b (sq b) (xcp Y X)) t u (kR (zv K2 3 (zu (K2 3) 1 0)))) a2 (sq a2) X2))) ∨
       ((rEx KN N b0 n 0 s lv F).2.2 7 = 2 ∧ (∀ i : Int, 0 ≤ i → i < 462 → (rEx KN N b0 n 0 s lv F).1 i = s i) ∧ cS X2 s ∧ pz_Cd en 9 102 [.ref (t 0)] (sH (tH h t u K) a (sq a) X) 1 6 (pz_thr "java/lang/IllegalStateException" (sH (tH (sH h b (sq b) (xcp Y X)) t u (zv K2 3 (zu (K2 3) 1 0))) a2 (sq a2) X2)))) := by
  have hn2 := cR_n hc.2.2.1
  have hx0 : (kCt (K 4) (K 3 1) 60 1 0 (K 3 3) (K 5)).1 = m := hm
  obtain ⟨hj, ht, hD, hu0, hI, hK, ⟨f0, f1⟩, ⟨r0, r1⟩, ⟨q0, q1⟩, hA⟩ := id hV
  have hX := hI.1
  have hkb := kCt_b (inp := K 4) (ln := K 3 1) hA q0 60 1 0 (K 3 3) (K 5) (by decide) q0 (hK 3 3) (hK 5)
  have hV1 : cV t u a (kS K 0 (kCt (K 4) (K 3 1) 60 1 0 (K 3 3) (K 5)).2.2.1 (kCt (K 4) (K 3 1) 60 1 0 (K 3 3) (K 5)).2.2.2) X := cV_S hV (by decide) hkb.1 hkb.2.1
  have ke := kE_S (K := K) (pl := 0) (kd := (kCt (K 4) (K 3 1) 60 1 0 (K 3 3) (K 5)).2.2.1) (M := (kCt (K 4) (K 3 1) 60 1 0 (K 3 3) (K 5)).2.2.2)
  have e1 : kS K 0 (kCt (K 4) (K 3 1) 60 1 0 (K 3 3) (K 5)).2.2.1 (kCt (K 4) (K 3 1) 60 1 0 (K 3 3) (K 5)).2.2.2 1 = K 1 := ke.1 1 (by decide) (by decide) (by decide)
  have w4 := kS_4 (K := K) (pl := 0) (kd := (kCt (K 4) (K 3 1) 60 1 0 (K 3 3) (K 5)).2.2.1) (M := (kCt (K 4) (K 3 1) 60 1 0 (K 3 3) (K 5)).2.2.2)
  have w1 := kS_1 (K := K) (pl := 0) (kd := (kCt (K 4) (K 3 1) 60 1 0 (K 3 3) (K 5)).2.2.1) (M := (kCt (K 4) (K 3 1) 60 1 0 (K 3 3) (K 5)).2.2.2)
  obtain ⟨a2, K2, X2, dn, p1, p2, p3, p4, p5, p6, p7, p8, p9⟩ := rd_loop (en := en) (h := (sH h b (sq b) (xcp Y X))) (t := t) (u := u) (m := m) (ln := K 3 1) (inp := K 4) (KN := KN) (N := N) (b0 := b0) m2 q0 q1 hE hKN hN hb0 n 0 a _ X s lv F (Int.le_refl _) (by omega) hV1 hc hL ((congrFun kS_0 5).trans h5) h6 h7 w4 w1 kS_2
  have k1 : K2 1 = K 1 := (p2.1 1 (by decide) (by decide) (by decide)).trans e1
  obtain ⟨hj2, ht2, hD2, hu2, hI2, hK2, -, -, -, -⟩ := id p3
  have hbX : bO (sH h b (sq b) (xcp Y X)) t a2 b (xcp Y X) := ⟨hb.1, hb.2.1, fun i j i1 i2 j1 j2 => by
    obtain ⟨q, q1, q2, e⟩ := p1.2.2 i i1 i2
    rw [e]
    exact hb.2.2.1 q j q1 q2 j1 j2, fun j j1 j2 => sH_at hb.1 j1 j2⟩
  have hcX : cS (xcp Y X) s := cS_cp hYR hc
  rcases p8 with ⟨d1, d2, d3⟩ | ⟨d1, d2, d3⟩
  · subst d1
    refine ⟨a2, K2, X2, p1, kE_tr ke p2, p3, p4, p5, p6, p7, Or.inl ⟨d2, d3, ?_⟩⟩
    refine pz_in pzt_X6_read ?_
    refine pr_aload_n dX6_read_0 rfl ?_
    refine pr_getf dX6_read_1 pzf_6_29 (gS_0 ht hD hu0) rfl ?_
    refine zcv0i dX6_read_4 pzm_6_322 pzt_X3_countEntries (gH_3 ht hD) (g_count hV) (by decide) (Nat.le_of_ble_eq_true rfl) (by decide) ?_
    rw [hm]
    refine pr_istore_n dX6_read_7 (by decide) rfl ?_
    refine pr_iload_n dX6_read_8 rfl ?_
    refine zr_if_ge (tgt := 42) dX6_read_9 (by decide) (by omega) (fun c9 => ?_) (fun c9 => by exfalso; omega)
    refine pr_aload_n dX6_read_42 rfl ?_
    refine pr_getf dX6_read_43 pzf_6_22 (gS_0 ht hD hu0) rfl ?_
    refine pr_aload_n dX6_read_46 rfl ?_
    refine pr_getf dX6_read_47 pzf_6_10 (gS_0 ht hD hu0) rfl ?_
    refine zcv1u dX6_read_50 pzm_6_330 pzt_X2_prepare (gH_1 ht hD) (kX2_prepare (K := (kS K (kCt (K 4) (K 3 1) 60 1 0 (K 3 3) (K 5)).2.1 (kCt (K 4) (K 3 1) 60 1 0 (K 3 3) (K 5)).2.2.1 (kCt (K 4) (K 3 1) 60 1 0 (K 3 3) (K 5)).2.2.2)) hj ht hD hI hb (by rw [kE_S.1 1 (by decide) (by decide) (by decide)]; exact hub) (by rw [kE_S.1 1 (by decide) (by decide) (by decide)]; exact f0) (by rw [kE_S.1 1 (by decide) (by decide) (by decide)]; exact f1)) (by decide) (Nat.le_of_ble_eq_true rfl) (by decide) ?_
    refine pr_aload_n dX6_read_53 rfl ?_
    refine pr_getf dX6_read_54 pzf_6_29 (gS_0 ht hD hu0) rfl ?_
    refine zr_iconst dX6_read_57 ?_
    refine pr_putf dX6_read_58 pzf_6_325 (Or.inl rfl) (gH_3 ht hD) (Nat.le_of_ble_eq_true rfl) rfl rfl ((gH_p3_2 hj ht hD).trans (show _ = sH (tH (sH h b (sq b) (xcp Y X)) t u (kS K 0 (kCt (K 4) (K 3 1) 60 1 0 (K 3 3) (K 5)).2.2.1 (kCt (K 4) (K 3 1) 60 1 0 (K 3 3) (K 5)).2.2.2)) a (sq a) X by rw [kS_p])) ?_
    refine zr_iconst dX6_read_61 ?_
    refine pr_istore_n dX6_read_62 (by decide) rfl ?_
    refine zr_iconst dX6_read_63 ?_
    refine pr_istore_n dX6_read_64 (by decide) rfl ?_
    refine p9 _ (fun v => ?_)
    refine pr_aload_n dX6_read_103 rfl ?_
    refine pr_getf dX6_read_104 pzf_6_29 (gS_0 ht2 hD2 hu2) rfl ?_
    refine zr_iconst dX6_read_107 ?_
    refine pr_putf dX6_read_108 pzf_6_313 (Or.inl rfl) (gH_3 ht2 hD2) (Nat.le_of_ble_eq_true rfl) rfl rfl (gH_p3_1 hj2 ht2 hD2) ?_
    refine pr_iload_n dX6_read_111 rfl ?_
    refine zr_if_ne (tgt := 137) dX6_read_112 (by decide) (by decide) (fun c112 => ?_) (fun c112 => by exfalso; omega)
    refine pr_aload_n dX6_read_137 rfl ?_
    refine pr_getf dX6_read_138 pzf_6_22 (gS_0 ht2 hD2 hu2) rfl ?_
    refine zcv0u dX6_read_141 pzm_6_345 pzt_X2_countPrepared (gH_1 ht2 hD2) (kX2_countPrepared (K := zv K2 3 (zu (K2 3) 1 0)) hj2 ht2 hD2 (by rw [zv_ne _ _ (by decide), k1]; exact f0) (by rw [zv_ne _ _ (by decide), k1]; exact f1) (by rw [zv_ne _ _ (by decide), k1]; exact r0) (by rw [zv_ne _ _ (by decide), k1]; exact r1)) (by decide) (Nat.le_of_ble_eq_true rfl) (by decide) ?_
    refine pr_iload_n dX6_read_144 rfl ?_
    exact pr_iret dX6_read_145 rfl rfl (zret rfl)
  · subst d1
    have hcp := cS_cp hI2.1.1 hcX
    refine ⟨a2, K2, xcp X2 (xcp Y X), p1, kE_tr ke p2, cV_a p3 (pA_rf hj2) (cS_I hcp), p4, p5, p6, p7, Or.inr ⟨d2, fun i i1 i2 => (d3 i i1 i2).trans (hbs i i1 i2), hcp, ?_⟩⟩
    refine pz_in pzt_X6_read ?_
    refine pr_aload_n dX6_read_0 rfl ?_
    refine pr_getf dX6_read_1 pzf_6_29 (gS_0 ht hD hu0) rfl ?_
    refine zcv0i dX6_read_4 pzm_6_322 pzt_X3_countEntries (gH_3 ht hD) (g_count hV) (by decide) (Nat.le_of_ble_eq_true rfl) (by decide) ?_
    rw [hm]
    refine pr_istore_n dX6_read_7 (by decide) rfl ?_
    refine pr_iload_n dX6_read_8 rfl ?_
    refine zr_if_ge (tgt := 42) dX6_read_9 (by decide) (by omega) (fun c9 => ?_) (fun c9 => by exfalso; omega)
    refine pr_aload_n dX6_read_42 rfl ?_
    refine pr_getf dX6_read_43 pzf_6_22 (gS_0 ht hD hu0) rfl ?_
    refine pr_aload_n dX6_read_46 rfl ?_
    refine pr_getf dX6_read_47 pzf_6_10 (gS_0 ht hD hu0) rfl ?_
    refine zcv1u dX6_read_50 pzm_6_330 pzt_X2_prepare (gH_1 ht hD) (kX2_prepare (K := (kS K (kCt (K 4) (K 3 1) 60 1 0 (K 3 3) (K 5)).2.1 (kCt (K 4) (K 3 1) 60 1 0 (K 3 3) (K 5)).2.2.1 (kCt (K 4) (K 3 1) 60 1 0 (K 3 3) (K 5)).2.2.2)) hj ht hD hI hb (by rw [kE_S.1 1 (by decide) (by decide) (by decide)]; exact hub) (by rw [kE_S.1 1 (by decide) (by decide) (by decide)]; exact f0) (by rw [kE_S.1 1 (by decide) (by decide) (by decide)]; exact f1)) (by decide) (Nat.le_of_ble_eq_true rfl) (by decide) ?_
    refine pr_aload_n dX6_read_53 rfl ?_
    refine pr_getf dX6_read_54 pzf_6_29 (gS_0 ht hD hu0) rfl ?_
    refine zr_iconst dX6_read_57 ?_
    refine pr_putf dX6_read_58 pzf_6_325 (Or.inl rfl) (gH_3 ht hD) (Nat.le_of_ble_eq_true rfl) rfl rfl ((gH_p3_2 hj ht hD).trans (show _ = sH (tH (sH h b (sq b) (xcp Y X)) t u (kS K 0 (kCt (K 4) (K 3 1) 60 1 0 (K 3 3) (K 5)).2.2.1 (kCt (K 4) (K 3 1) 60 1 0 (K 3 3) (K 5)).2.2.2)) a (sq a) X by rw [kS_p])) ?_
    refine zr_iconst dX6_read_61 ?_
    refine pr_istore_n dX6_read_62 (by decide) rfl ?_
    refine zr_iconst dX6_read_63 ?_
    refine pr_istore_n dX6_read_64 (by decide) rfl ?_
    refine p9 _ (fun v => ?_)
    refine pr_aload_n dX6_read_103 rfl ?_
    refine pr_getf dX6_read_104 pzf_6_29 (gS_0 ht2 hD2 hu2) rfl ?_
    refine zr_iconst dX6_read_107 ?_
    refine pr_putf dX6_read_108 pzf_6_313 (Or.inl rfl) (gH_3 ht2 hD2) (Nat.le_of_ble_eq_true rfl) rfl rfl (gH_p3_1 hj2 ht2 hD2) ?_
    refine pr_iload_n dX6_read_111 rfl ?_
    refine zr_if_ne (tgt := 137) dX6_read_112 (by decide) (by decide) (fun c112 => by exfalso; omega) (fun c112 => ?_)
    refine pr_aload_n dX6_read_115 rfl ?_
    refine pr_getf dX6_read_116 pzf_6_22 (gS_0 ht2 hD2 hu2) rfl ?_
    refine pr_aload_n dX6_read_119 rfl ?_
    refine pr_getf dX6_read_120 pzf_6_10 (gS_0 ht2 hD2 hu2) rfl ?_
    refine zcv1u dX6_read_123 pzm_6_340 pzt_X2_takePrepared (gH_1 ht2 hD2) (kX2_takePrepared (K := zv K2 3 (zu (K2 3) 1 0)) hj2 ht2 hD2 hbX (cS_I hcX) (by rw [zv_ne _ _ (by decide), k1]; exact hub) (by rw [zv_ne _ _ (by decide), k1]; exact f0) (by rw [zv_ne _ _ (by decide), k1]; exact f1)) (by decide) (Nat.le_of_ble_eq_true rfl) (by decide) ?_
    exact pr_thrw dX6_read_126 dX6_read_129 dX6_read_130 dX6_read_133 dX6_read_136 pze_6_66 pzs_343 rfl (by decide) rfl ⟨rfl, rfl⟩
end cls
