/-! the reference: its lists change -/
def rap (s : Int → Int) (n : Int) : Int := if zfst (fun k => !decide (s (18 + 12 * k) < n)) (s 0).toNat = -1 then s 0 else zfst (fun k => !decide (s (18 + 12 * k) < n)) (s 0).toNat
theorem rap_R {s : Int → Int} (hs : rB s) (n : Int) : 0 ≤ rap s n ∧ rap s n ≤ s 0 := by
  obtain ⟨hR, h1, h2, h3, h4⟩ := hs
  unfold rap
  rcases zfst_spec (fun k => !decide (s (18 + 12 * k) < n)) (s 0).toNat with ⟨g1, -⟩ | ⟨g1, g2, -⟩
  · rw [if_pos g1]; omega
  · rw [if_neg (by omega)]; omega
def rAm (s : Int → Int) (p : Int) : Int → Int := zcpy s s (18 + 12 * p) (18 + 12 * (p + 1)) (12 * (s 0 - p))
def rAs (s : Int → Int) (n : Int) : Int → Int := zu (zu (zu (zfil (rAm s (rap s n)) (18 + 12 * rap s n) 12 0) (18 + 12 * rap s n) n) (18 + 12 * rap s n + 1) (-1)) 0 (s 0 + 1)
def rAd (s : Int → Int) (n : Int) : Int × (Int → Int) := if (1 ≤ n ∧ n ≤ 99) ∧ ¬ 0 ≤ rpl s n then if s 0 = 12 then (2, s) else (0, rAs s n) else (1, s)
theorem rgi_0 {s : Int → Int} (hs : rB s) (cue ch lev part : Int) : rgi s cue ch lev part 0 = s 0 := by
  have hg := rgv_R hs cue ch
  have h2 : 0 ≤ rgk s cue ch := by unfold rgk; split <;> first | omega | exact hs.2.2.2.1
  unfold rgi rgs
  rw [zu_ne _ (by omega), zu_ne _ (by omega), zu_ne _ (by omega), zu_ne _ (by omega)]
  split
  · rw [zu_ne _ (by omega)]
  · rfl
theorem rgi_1 {s : Int → Int} (hs : rB s) (cue ch lev part : Int) : rgi s cue ch lev part 1 = if rgv s cue ch < 0 then s 1 + 1 else s 1 := by
  have hg := rgv_R hs cue ch
  have h2 : 0 ≤ rgk s cue ch := by unfold rgk; split <;> first | omega | exact hs.2.2.2.1
  unfold rgi rgs
  rw [zu_ne _ (by omega), zu_ne _ (by omega), zu_ne _ (by omega), zu_ne _ (by omega)]
  split
  · rw [zu_at]
  · rfl
theorem zu_R {f : Int → Int} {k v : Int} (hf : ∀ i, zR (f i)) (hv : zR v) : ∀ i, zR (zu f k v i) := by
  intro i
  unfold zu
  split
  · exact hv
  · exact hf i
theorem zcpy_R {f g : Int → Int} {sp dp n : Int} (hf : ∀ i, zR (f i)) (hg : ∀ i, zR (g i)) : ∀ i, zR (zcpy f g sp dp n i) := by
  intro i
  unfold zcpy
  split
  · exact hf _
  · exact hg _
theorem rgi_B {s : Int → Int} (hs : rB s) {cue ch lev part : Int} (h1 : zR cue) (h2 : zR ch) (h3 : zR lev) (h4 : zR part) (h5 : 0 ≤ rgv s cue ch ∨ s 1 < 60) : rB (rgi s cue ch lev part) := by
  have e0 := rgi_0 hs cue ch lev part
  have e1 := rgi_1 hs cue ch lev part
  obtain ⟨hR, hs0, hs1, hs2, hs3⟩ := hs
  refine ⟨?_, by omega, by omega, ?_, ?_⟩
  · unfold rgi rgs
    refine zu_R (zu_R (zu_R (zu_R ?_ h1) h2) h3) h4
    split
    · exact zu_R hR ⟨by omega, by omega⟩
    · exact hR
  · rw [e1]; split <;> omega
  · rw [e1]; split <;> omega
theorem rta_1 {s : Int → Int} {k : Int} (h : 0 ≤ k) : rta s k 1 = s 1 - 1 := by
  unfold rta zcpy
  rw [if_neg (by omega), zu_at]
theorem rta_0 {s : Int → Int} {k : Int} (h : 0 ≤ k) : rta s k 0 = s 0 := by
  unfold rta zcpy
  rw [if_neg (by omega), zu_ne _ (by omega)]
theorem rta_B {s : Int → Int} (hs : rB s) {k : Int} (h1 : 0 ≤ k) (h2 : k < s 1) : rB (rta s k) := by
  have e0 := rta_0 (s := s) h1
  have e1 := rta_1 (s := s) h1
  obtain ⟨hR, hs0, hs1, hs2, hs3⟩ := hs
  refine ⟨?_, by omega, by omega, by omega, by omega⟩
  unfold rta
  exact zcpy_R (zu_R hR ⟨by omega, by omega⟩) (zu_R hR ⟨by omega, by omega⟩)
def rhF (lv : Int → Int) (pl was : Int) : Nat → Int → (Int → Int) → Int × (Int → Int)
  | 0, _, s => (0, s)
  | n + 1, c, s => if rgv s (s (18 + 12 * pl)) c < 0 ∧ ¬ rlv s pl c = lv (12 * was + c) then (if s (18 + 12 * pl + 3) = 1 then (1, s) else if s 1 = 60 then (2, s) else rhF lv pl was n (c + 1) (rgi s (s (18 + 12 * pl)) c (lv (12 * was + c)) 0)) else rhF lv pl was n (c + 1) s
theorem rhF_s {lv : Int → Int} {pl was k : Int} {s : Int → Int} (h : k < 12) : rhF lv pl was (12 - k).toNat k s = if rgv s (s (18 + 12 * pl)) k < 0 ∧ ¬ rlv s pl k = lv (12 * was + k) then (if s (18 + 12 * pl + 3) = 1 then (1, s) else if s 1 = 60 then (2, s) else rhF lv pl was (12 - (k + 1)).toNat (k + 1) (rgi s (s (18 + 12 * pl)) k (lv (12 * was + k)) 0)) else rhF lv pl was (12 - (k + 1)).toNat (k + 1) s := by
  rw [show (12 - k).toNat = (12 - (k + 1)).toNat + 1 by omega]
  rfl
def rhd (s lv : Int → Int) (pl was : Int) : Int × (Int → Int) := if pl < s 0 ∧ ¬ s (18 + 12 * pl + 2) = 1 then rhF lv pl was 12 0 s else (0, s)
abbrev rwh (s : Int → Int) (pl ch lev : Int) : Prop := (pl + 1 < s 0 ∧ s (18 + 12 * (pl + 1) + 3) = 1 ∧ ¬ s (18 + 12 * (pl + 1) + 2) = 1 ∧ rgv s (s (18 + 12 * (pl + 1))) ch < 0) ∧ ¬ (if lev = -1 then s (6 + ch) else lev) = rlv s pl ch
section ref
variable {en : pz_Env} {h0 : pz_H} {a : Nat → Nat} {s lv : Int → Int} {A : Nat → Int → Int} {F : Nat → Int}
set_option maxRecDepth 100000 in
set_option maxHeartbeats 4000000 in
theorem kX7_doAdd (hj : oj 9 a) (hs : rB s) {n : Int} (h1 : zR n) : pz_Cd en 4 133 [.ref (a 0), .int (zI n)] (rH h0 a s lv A F) 0 0 (pz_ret (some (.int (zI (rAd s n).1))) (rH h0 a (rAd s n).2 lv A F)) := by
  refine pz_in pzt_X7_doAdd ?_
  obtain ⟨hR, hs0, hs1, hs2, hs3⟩ := id hs
  have hp := rap_R hs n
  have fill : pz_WP 4 en (pz_Cd en (4 - 1)) 7 cX7_doAdd 4 (some .int) [] false (pz_ret (some (.int (zI 0))) (rH h0 a (rAs s n) lv A F)) 98 [some (.ref (a 0)), some (.int (zI n)), some (.int (zI (rap s n))), some (.int (zI 0))] [] (rH h0 a (zfil (rAm s (rap s n)) (18 + 12 * rap s n) 0 0) lv A F) 0 0 := by
    refine zup (P := fun k => pz_WP 4 en (pz_Cd en (4 - 1)) 7 cX7_doAdd 4 (some .int) [] false (pz_ret (some (.int (zI 0))) (rH h0 a (rAs s n) lv A F)) 98 [some (.ref (a 0)), some (.int (zI n)), some (.int (zI (rap s n))), some (.int (zI k))] [] (rH h0 a (zfil (rAm s (rap s n)) (18 + 12 * rap s n) k 0) lv A F) 0 0) (lo := 0) (hi := 12) (by decide) ?_ ?_
    · have e0 : zu (zu (zfil (rAm s (rap s n)) (18 + 12 * rap s n) 12 0) (18 + 12 * rap s n) n) (18 + 12 * rap s n + 1) (-1) 0 = s 0 := by
        rw [zu_ne _ (by omega), zu_ne _ (by omega)]
        unfold zfil rAm zcpy
        rw [if_neg (by omega), if_neg (by omega)]
      refine pr_iload_n dX7_doAdd_98 rfl ?_
      refine zr_bipush dX7_doAdd_99 (by decide) ?_
      refine zr_icmp_ge (tgt := 122) dX7_doAdd_101 (by decide) (by first | exact hR _ | omega) (by first | exact hR _ | omega) (fun c101 => ?_) (fun c101 => by exfalso; omega)
      refine pr_aload_n dX7_doAdd_122 rfl ?_
      refine pr_getf dX7_doAdd_123 pzf_7_9 (rH_0 hj) rfl ?_
      refine pr_iload_n dX7_doAdd_126 rfl ?_
      refine zcs1i dX7_doAdd_127 pzm_7_63 pzt_X7_at kX7_at (by decide) (Nat.le_of_ble_eq_true rfl) ?_
      refine pr_iload_n dX7_doAdd_130 rfl ?_
      refine zr_iast dX7_doAdd_131 (rH_1 hj) (by omega) (by decide) (rH_u1 hj) ?_
      refine pr_aload_n dX7_doAdd_132 rfl ?_
      refine pr_getf dX7_doAdd_133 pzf_7_9 (rH_0 hj) rfl ?_
      refine pr_iload_n dX7_doAdd_136 rfl ?_
      refine zcs1i dX7_doAdd_137 pzm_7_63 pzt_X7_at kX7_at (by decide) (Nat.le_of_ble_eq_true rfl) ?_
      refine zr_iconst dX7_doAdd_140 ?_
      refine zr_iadd dX7_doAdd_141 ?_
      refine zr_iconst dX7_doAdd_142 ?_
      refine zr_iast dX7_doAdd_143 (rH_1 hj) (by omega) (by decide) (rH_u1 hj) ?_
      refine pr_aload_n dX7_doAdd_144 rfl ?_
      refine pr_getf dX7_doAdd_145 pzf_7_9 (rH_0 hj) rfl ?_
      refine zr_iconst dX7_doAdd_148 ?_
      refine pr_dup2 dX7_doAdd_149 rfl rfl ?_
      refine zr_iald dX7_doAdd_150 (rH_1 hj) (by omega) (by decide) ?_
      refine zr_iconst dX7_doAdd_151 ?_
      refine zr_iadd dX7_doAdd_152 ?_
      refine zr_iast dX7_doAdd_153 (rH_1 hj) (by omega) (by decide) (rH_u1 hj) ?_
      refine zr_iconst dX7_doAdd_154 ?_
      exact pr_iret dX7_doAdd_155 rfl rfl (zret rfl (by unfold rAs; rw [e0]))
    · intro k hk1 hk2 ih
      rw [← zfil_s _ _ 0 hk1] at ih
      refine pr_iload_n dX7_doAdd_98 rfl ?_
      refine zr_bipush dX7_doAdd_99 (by decide) ?_
      refine zr_icmp_ge (tgt := 122) dX7_doAdd_101 (by decide) (by first | exact hR _ | omega) (by first | exact hR _ | omega) (fun c101 => by exfalso; omega) (fun c101 => ?_)
      refine pr_aload_n dX7_doAdd_104 rfl ?_
      refine pr_getf dX7_doAdd_105 pzf_7_9 (rH_0 hj) rfl ?_
      refine pr_iload_n dX7_doAdd_108 rfl ?_
      refine zcs1i dX7_doAdd_109 pzm_7_63 pzt_X7_at kX7_at (by decide) (Nat.le_of_ble_eq_true rfl) ?_
      refine pr_iload_n dX7_doAdd_112 rfl ?_
      refine zr_iadd dX7_doAdd_113 ?_
      refine zr_iconst dX7_doAdd_114 ?_
      refine zr_iast dX7_doAdd_115 (rH_1 hj) (by omega) (by decide) (rH_u1 hj) ?_
      refine zr_iinc dX7_doAdd_116 rfl (by decide) rfl ?_
      refine pr_goto (tgt := 98) dX7_doAdd_119 (by decide) ?_
      exact ih
  rw [zfil_0] at fill
  have tail : ∀ t : Option Value, pz_WP 4 en (pz_Cd en (4 - 1)) 7 cX7_doAdd 4 (some .int) [] false (pz_ret (some (.int (zI 0))) (rH h0 a (rAs s n) lv A F)) 64 [some (.ref (a 0)), some (.int (zI n)), some (.int (zI (rap s n))), t] [] (rH h0 a s lv A F) 0 0 := by
    intro t
    refine pr_aload_n dX7_doAdd_64 rfl ?_
    refine pr_getf dX7_doAdd_65 pzf_7_9 (rH_0 hj) rfl ?_
    refine pr_iload_n dX7_doAdd_68 rfl ?_
    refine zcs1i dX7_doAdd_69 pzm_7_63 pzt_X7_at kX7_at (by decide) (Nat.le_of_ble_eq_true rfl) ?_
    refine pr_aload_n dX7_doAdd_72 rfl ?_
    refine pr_getf dX7_doAdd_73 pzf_7_9 (rH_0 hj) rfl ?_
    refine pr_iload_n dX7_doAdd_76 rfl ?_
    refine zr_iconst dX7_doAdd_77 ?_
    refine zr_iadd dX7_doAdd_78 ?_
    refine zcs1i dX7_doAdd_79 pzm_7_63 pzt_X7_at kX7_at (by decide) (Nat.le_of_ble_eq_true rfl) ?_
    refine zr_bipush dX7_doAdd_82 (by decide) ?_
    refine pr_aload_n dX7_doAdd_84 rfl ?_
    refine pr_getf dX7_doAdd_85 pzf_7_9 (rH_0 hj) rfl ?_
    refine zr_iconst dX7_doAdd_88 ?_
    refine zr_iald dX7_doAdd_89 (rH_1 hj) (by omega) (by decide) ?_
    refine pr_iload_n dX7_doAdd_90 rfl ?_
    refine zr_isub dX7_doAdd_91 ?_
    refine zr_imul dX7_doAdd_92 ?_
    refine zr_copy dX7_doAdd_93 pzx_7_48 (by decide) (rH_1 hj) (rH_1 hj) (by omega) (by omega) (by omega) (by decide) (Nat.le_of_ble_eq_true rfl) (rH_u1 hj) ?_
    refine zr_iconst dX7_doAdd_96 ?_
    refine pr_istore_n dX7_doAdd_97 (by decide) rfl ?_
    exact fill
  have loop : pz_WP 4 en (pz_Cd en (4 - 1)) 7 cX7_doAdd 4 (some .int) [] false (pz_ret (some (.int (zI 0))) (rH h0 a (rAs s n) lv A F)) 35 [some (.ref (a 0)), some (.int (zI n)), some (.int (zI 0)), none] [] (rH h0 a s lv A F) 0 0 := by
    refine zup (P := fun k => (∀ j : Int, 0 ≤ j → j < k → s (18 + 12 * j) < n) → pz_WP 4 en (pz_Cd en (4 - 1)) 7 cX7_doAdd 4 (some .int) [] false (pz_ret (some (.int (zI 0))) (rH h0 a (rAs s n) lv A F)) 35 [some (.ref (a 0)), some (.int (zI n)), some (.int (zI k)), none] [] (rH h0 a s lv A F) 0 0) (lo := 0) (hi := s 0) hs0 ?_ ?_ (fun j h1 h2 => absurd h2 (by omega))
    · intro hno
      refine pr_iload_n dX7_doAdd_35 rfl ?_
      refine pr_aload_n dX7_doAdd_36 rfl ?_
      refine pr_getf dX7_doAdd_37 pzf_7_9 (rH_0 hj) rfl ?_
      refine zr_iconst dX7_doAdd_40 ?_
      refine zr_iald dX7_doAdd_41 (rH_1 hj) (by omega) (by decide) ?_
      refine zr_icmp_ge (tgt := 64) dX7_doAdd_42 (by decide) (by first | exact hR _ | omega) (by first | exact hR _ | omega) (fun c42 => ?_) (fun c42 => by exfalso; omega)
      have e : rap s n = s 0 := by
        unfold rap
        rw [if_pos (zfst_no (fun k g1 g2 => by have := hno k g1 (by omega); simp only [this, decide_true, Bool.not_true]))]
      have t := tail none
      rw [e] at t
      exact t
    · intro k hk1 hk2 ih hno
      refine pr_iload_n dX7_doAdd_35 rfl ?_
      refine pr_aload_n dX7_doAdd_36 rfl ?_
      refine pr_getf dX7_doAdd_37 pzf_7_9 (rH_0 hj) rfl ?_
      refine zr_iconst dX7_doAdd_40 ?_
      refine zr_iald dX7_doAdd_41 (rH_1 hj) (by omega) (by decide) ?_
      refine zr_icmp_ge (tgt := 64) dX7_doAdd_42 (by decide) (by first | exact hR _ | omega) (by first | exact hR _ | omega) (fun c42 => by exfalso; omega) (fun c42 => ?_)
      refine pr_aload_n dX7_doAdd_45 rfl ?_
      refine pr_getf dX7_doAdd_46 pzf_7_9 (rH_0 hj) rfl ?_
      refine pr_iload_n dX7_doAdd_49 rfl ?_
      refine zcs1i dX7_doAdd_50 pzm_7_63 pzt_X7_at kX7_at (by decide) (Nat.le_of_ble_eq_true rfl) ?_
      refine zr_iald dX7_doAdd_53 (rH_1 hj) (by omega) (by decide) ?_
      refine pr_iload_n dX7_doAdd_54 rfl ?_
      refine zr_icmp_ge (tgt := 64) dX7_doAdd_55 (by decide) (by first | exact hR _ | omega) (by first | exact hR _ | omega) (fun c55 => ?_) (fun c55 => ?_)
      · have e : rap s n = k := by
          unfold rap
          have g : zfst (fun k => !decide (s (18 + 12 * k) < n)) (s 0).toNat = k := zfst_eq hk1 (by omega) (by rw [decide_eq_false (by omega)]; rfl) (fun j g1 g2 => by have := hno j g1 g2; simp only [this, decide_true, Bool.not_true])
          rw [g, if_neg (by omega)]
        have t := tail none
        rw [e] at t
        exact t
      · refine zr_iinc dX7_doAdd_58 rfl (by decide) rfl ?_
        refine pr_goto (tgt := 35) dX7_doAdd_61 (by decide) ?_
        exact ih (fun j g1 g2 => by
          by_cases e : j = k
          · rw [e]; omega
          · exact hno j g1 (by omega))
  unfold rAd
  refine pr_iload_n dX7_doAdd_0 rfl ?_
  refine zr_iconst dX7_doAdd_1 ?_
  refine zr_bipush dX7_doAdd_2 (by decide) ?_
  refine zcs3i dX7_doAdd_4 pzm_7_70 pzt_X7_in (kX7_in h1 ⟨by decide, by decide⟩ ⟨by decide, by decide⟩) (by decide) (Nat.le_of_ble_eq_true rfl) ?_
  refine zr_if_eq (tgt := 18) dX7_doAdd_7 (by decide) (bI_R _) (fun c7 => ?_) (fun c7 => ?_)
  · have b7 := bI_0 c7
    rw [if_neg (by omega)]
    refine zr_iconst dX7_doAdd_18 ?_
    exact pr_iret dX7_doAdd_19 rfl rfl (zret (by rfl))
  · have b7 := bI_ne c7
    refine pr_aload_n dX7_doAdd_10 rfl ?_
    refine pr_iload_n dX7_doAdd_11 rfl ?_
    refine zcv1i dX7_doAdd_12 pzm_7_74 pzt_X7_isCue (rH_0 hj) (kX7_isCue hj hs (by first | exact hR _ | omega)) (by decide) (Nat.le_of_ble_eq_true rfl) (by decide) ?_
    refine zr_if_eq (tgt := 20) dX7_doAdd_15 (by decide) (bI_R _) (fun c15 => ?_) (fun c15 => ?_)
    · have b15 := bI_0 c15
      rw [if_pos (by omega)]
      refine pr_aload_n dX7_doAdd_20 rfl ?_
      refine pr_getf dX7_doAdd_21 pzf_7_9 (rH_0 hj) rfl ?_
      refine zr_iconst dX7_doAdd_24 ?_
      refine zr_iald dX7_doAdd_25 (rH_1 hj) (by omega) (by decide) ?_
      refine zr_bipush dX7_doAdd_26 (by decide) ?_
      refine zr_icmp_ne (tgt := 33) dX7_doAdd_28 (by decide) (by first | exact hR _ | omega) (by first | exact hR _ | omega) (fun c28 => ?_) (fun c28 => ?_)
      · rw [if_neg (by omega)]
        refine zr_iconst dX7_doAdd_33 ?_
        refine pr_istore_n dX7_doAdd_34 (by decide) rfl ?_
        exact loop
      · rw [if_pos (by omega)]
        refine zr_iconst dX7_doAdd_31 ?_
        exact pr_iret dX7_doAdd_32 rfl rfl (zret (by rfl))
    · have b15 := bI_ne c15
      rw [if_neg (by omega)]
      refine zr_iconst dX7_doAdd_18 ?_
      exact pr_iret dX7_doAdd_19 rfl rfl (zret (by rfl))
set_option maxRecDepth 100000 in
set_option maxHeartbeats 4000000 in
theorem kX7_hold (hj : oj 9 a) (hs : rB s) (hL : ∀ i, zR (lv i)) {pl was : Int} (h1 : 0 ≤ pl) (h2 : pl ≤ 12) (hw : pl < s 0 → 0 ≤ was ∧ was < 12) : pz_Cd en 5 155 [.ref (a 0), .int (zI pl), .int (zI was)] (rH h0 a s lv A F) 0 0 (pz_ret (some (.int (zI (rhd s lv pl was).1))) (rH h0 a (rhd s lv pl was).2 lv A F)) := by
  refine pz_in pzt_X7_hold ?_
  obtain ⟨hR, hs0, hs1, hs2, hs3⟩ := id hs
  have loop : 0 ≤ was → was < 12 → ∀ (s : Int → Int) (t : Option Value), rB s → pl < s 0 → pz_WP 5 en (pz_Cd en (5 - 1)) 7 cX7_hold 5 (some .int) [] false (pz_ret (some (.int (zI (rhF lv pl was (12 - (0 : Int)).toNat 0 s).1))) (rH h0 a (rhF lv pl was (12 - (0 : Int)).toNat 0 s).2 lv A F)) 28 [some (.ref (a 0)), some (.int (zI pl)), some (.int (zI was)), some (.int (zI 0)), t] [] (rH h0 a s lv A F) 0 0 := by
    intro w1 w2
    refine zup (P := fun k => ∀ (s : Int → Int) (t : Option Value), rB s → pl < s 0 → pz_WP 5 en (pz_Cd en (5 - 1)) 7 cX7_hold 5 (some .int) [] false (pz_ret (some (.int (zI (rhF lv pl was (12 - (k : Int)).toNat k s).1))) (rH h0 a (rhF lv pl was (12 - (k : Int)).toNat k s).2 lv A F)) 28 [some (.ref (a 0)), some (.int (zI pl)), some (.int (zI was)), some (.int (zI k)), t] [] (rH h0 a s lv A F) 0 0) (lo := 0) (hi := 12) (by decide) ?_ ?_
    · intro s t hs hpl
      obtain ⟨hR, hs0, hs1, hs2, hs3⟩ := id hs
      refine pr_iload_n dX7_hold_28 rfl ?_
      refine zr_bipush dX7_hold_29 (by decide) ?_
      refine zr_icmp_ge (tgt := 128) dX7_hold_31 (by decide) (by first | exact hR _ | omega) (by first | exact hR _ | omega) (fun c31 => ?_) (fun c31 => by exfalso; omega)
      refine zr_iconst dX7_hold_128 ?_
      exact pr_iret dX7_hold_129 rfl rfl (zret rfl rfl)
    · intro k hk1 hk2 ih s t hs hpl
      obtain ⟨hR, hs0, hs1, hs2, hs3⟩ := id hs
      have hg := rgv_R hs (s (18 + 12 * pl)) k
      rw [rhF_s hk2]
      refine pr_iload_n dX7_hold_28 rfl ?_
      refine zr_bipush dX7_hold_29 (by decide) ?_
      refine zr_icmp_ge (tgt := 128) dX7_hold_31 (by decide) (by first | exact hR _ | omega) (by first | exact hR _ | omega) (fun c31 => by exfalso; omega) (fun c31 => ?_)
      refine pr_aload_n dX7_hold_34 rfl ?_
      refine pr_getf dX7_hold_35 pzf_7_22 (rH_0 hj) rfl ?_
      refine zr_bipush dX7_hold_38 (by decide) ?_
      refine pr_iload_n dX7_hold_40 rfl ?_
      refine zr_imul dX7_hold_41 ?_
      refine pr_iload_n dX7_hold_42 rfl ?_
      refine zr_iadd dX7_hold_43 ?_
      refine zr_iald dX7_hold_44 (rH_5 hj) (by omega) (by decide) ?_
      refine pr_istore dX7_hold_45 (by decide) rfl ?_
      refine pr_aload_n dX7_hold_47 rfl ?_
      refine pr_aload_n dX7_hold_48 rfl ?_
      refine pr_getf dX7_hold_49 pzf_7_9 (rH_0 hj) rfl ?_
      refine pr_iload_n dX7_hold_52 rfl ?_
      refine zcs1i dX7_hold_53 pzm_7_63 pzt_X7_at kX7_at (by decide) (Nat.le_of_ble_eq_true rfl) ?_
      refine zr_iald dX7_hold_56 (rH_1 hj) (by omega) (by decide) ?_
      refine pr_iload_n dX7_hold_57 rfl ?_
      refine zcv2i dX7_hold_58 pzm_7_98 pzt_X7_given (rH_0 hj) (kX7_given hj hs (by first | exact hR _ | omega) (by first | exact hR _ | omega)) (by decide) (Nat.le_of_ble_eq_true rfl) (by decide) ?_
      refine zr_if_ge (tgt := 122) dX7_hold_61 (by decide) (by first | exact hR _ | omega) (fun c61 => ?_) (fun c61 => ?_)
      · rw [if_neg (by omega)]
        refine zr_iinc dX7_hold_122 rfl (by decide) rfl ?_
        refine pr_goto (tgt := 28) dX7_hold_125 (by decide) ?_
        exact ih _ _ (by assumption) (by omega)
      · 
        refine pr_aload_n dX7_hold_64 rfl ?_
        refine pr_iload_n dX7_hold_65 rfl ?_
        refine pr_iload_n dX7_hold_66 rfl ?_
        refine zcv2i dX7_hold_67 pzm_7_84 pzt_X7_levelIn (rH_0 hj) (kX7_levelIn hj hs (by omega) (by omega) (by omega) (by omega)) (by decide) (Nat.le_of_ble_eq_true rfl) (by decide) ?_
        refine pr_iload dX7_hold_70 rfl ?_
        refine zr_icmp_eq (tgt := 122) dX7_hold_72 (by decide) (rlv_R hs _ _) (hL _) (fun c72 => ?_) (fun c72 => ?_)
        · rw [if_neg (fun z => z.2 c72)]
          refine zr_iinc dX7_hold_122 rfl (by decide) rfl ?_
          refine pr_goto (tgt := 28) dX7_hold_125 (by decide) ?_
          exact ih _ _ (by assumption) (by omega)
        · rw [if_pos ⟨by omega, c72⟩]
          refine pr_aload_n dX7_hold_75 rfl ?_
          refine pr_getf dX7_hold_76 pzf_7_9 (rH_0 hj) rfl ?_
          refine pr_iload_n dX7_hold_79 rfl ?_
          refine zcs1i dX7_hold_80 pzm_7_63 pzt_X7_at kX7_at (by decide) (Nat.le_of_ble_eq_true rfl) ?_
          refine zr_iconst dX7_hold_83 ?_
          refine zr_iadd dX7_hold_84 ?_
          refine zr_iald dX7_hold_85 (rH_1 hj) (by omega) (by decide) ?_
          refine zr_iconst dX7_hold_86 ?_
          refine zr_icmp_ne (tgt := 92) dX7_hold_87 (by decide) (by first | exact hR _ | omega) (by first | exact hR _ | omega) (fun c87 => ?_) (fun c87 => ?_)
          · rw [if_neg c87]
            refine pr_aload_n dX7_hold_92 rfl ?_
            refine pr_getf dX7_hold_93 pzf_7_9 (rH_0 hj) rfl ?_
            refine zr_iconst dX7_hold_96 ?_
            refine zr_iald dX7_hold_97 (rH_1 hj) (by omega) (by decide) ?_
            refine zr_bipush dX7_hold_98 (by decide) ?_
            refine zr_icmp_ne (tgt := 105) dX7_hold_100 (by decide) (by first | exact hR _ | omega) (by first | exact hR _ | omega) (fun c100 => ?_) (fun c100 => ?_)
            · rw [if_neg c100]
              refine pr_aload_n dX7_hold_105 rfl ?_
              refine pr_aload_n dX7_hold_106 rfl ?_
              refine pr_getf dX7_hold_107 pzf_7_9 (rH_0 hj) rfl ?_
              refine pr_iload_n dX7_hold_110 rfl ?_
              refine zcs1i dX7_hold_111 pzm_7_63 pzt_X7_at kX7_at (by decide) (Nat.le_of_ble_eq_true rfl) ?_
              refine zr_iald dX7_hold_114 (rH_1 hj) (by omega) (by decide) ?_
              refine pr_iload_n dX7_hold_115 rfl ?_
              refine pr_iload dX7_hold_116 rfl ?_
              refine zr_iconst dX7_hold_118 ?_
              refine zcv4u dX7_hold_119 pzm_7_125 pzt_X7_give (rH_0 hj) (kX7_give hj hs (hR _) (by omega) (by omega)) (by decide) (Nat.le_of_ble_eq_true rfl) (by decide) ?_
              have hb := rgi_B hs (cue := s (18 + 12 * pl)) (ch := k) (lev := lv (12 * was + k)) (part := 0) (hR _) (by omega) (hL _) (by omega) (by omega)
              have e0 := rgi_0 hs (s (18 + 12 * pl)) k (lv (12 * was + k)) 0
              refine zr_iinc dX7_hold_122 rfl (by decide) rfl ?_
              refine pr_goto (tgt := 28) dX7_hold_125 (by decide) ?_
              exact ih _ _ (by assumption) (by omega)
            · rw [if_pos (by omega)]
              refine zr_iconst dX7_hold_103 ?_
              exact pr_iret dX7_hold_104 rfl rfl (zret rfl rfl)
          · rw [if_pos (by omega)]
            refine zr_iconst dX7_hold_90 ?_
            exact pr_iret dX7_hold_91 rfl rfl (zret rfl rfl)
  have el : (rhF lv pl was (12 - (0 : Int)).toNat 0 s) = rhF lv pl was 12 0 s := rfl
  unfold rhd
  refine pr_iload_n dX7_hold_0 rfl ?_
  refine zr_iconst dX7_hold_1 ?_
  refine pr_aload_n dX7_hold_2 rfl ?_
  refine pr_getf dX7_hold_3 pzf_7_9 (rH_0 hj) rfl ?_
  refine zr_iconst dX7_hold_6 ?_
  refine zr_iald dX7_hold_7 (rH_1 hj) (by omega) (by decide) ?_
  refine zr_iconst dX7_hold_8 ?_
  refine zr_isub dX7_hold_9 ?_
  refine zcs3i dX7_hold_10 pzm_7_70 pzt_X7_in (kX7_in (by omega) (by decide) (by omega)) (by decide) (Nat.le_of_ble_eq_true rfl) ?_
  refine zr_if_eq (tgt := 24) dX7_hold_13 (by decide) (bI_R _) (fun c13 => ?_) (fun c13 => ?_)
  · have b13 := bI_0 c13
    rw [if_neg (by omega)]
    refine zr_iconst dX7_hold_24 ?_
    exact pr_iret dX7_hold_25 rfl rfl (zret rfl rfl)
  · have b13 := bI_ne c13
    refine pr_aload_n dX7_hold_16 rfl ?_
    refine pr_iload_n dX7_hold_17 rfl ?_
    refine zcv1i dX7_hold_18 pzm_7_101 pzt_X7_isBlock (rH_0 hj) (kX7_isBlock hj hs (by omega) (by omega)) (by decide) (Nat.le_of_ble_eq_true rfl) (by decide) ?_
    refine zr_if_eq (tgt := 26) dX7_hold_21 (by decide) (bI_R _) (fun c21 => ?_) (fun c21 => ?_)
    · have b21 := bI_0 c21
      rw [if_pos ⟨by omega, b21⟩]
      refine zr_iconst dX7_hold_26 ?_
      refine pr_istore_n dX7_hold_27 (by decide) rfl ?_
      exact loop (by omega) (by omega) s none hs (by omega)
    · have b21 := bI_ne c21
      rw [if_neg (fun z => z.2 b21)]
      refine zr_iconst dX7_hold_24 ?_
      exact pr_iret dX7_hold_25 rfl rfl (zret rfl rfl)
end ref
