/-! the reference: giving, taking, removing -/
theorem rkl_R {s lv : Int → Int} (hs : rB s) (hL : ∀ i, zR (lv i)) (m : Int) : ∀ i, zR (rkl s lv m i) := by
  intro i
  unfold rkl
  split
  · exact rlv_R hs _ _
  · exact hL i
theorem rhF_c (lv : Int → Int) (pl was : Int) : ∀ (n : Nat) (c : Int) (s : Int → Int), 0 ≤ (rhF lv pl was n c s).1 ∧ (rhF lv pl was n c s).1 ≤ 2
  | 0, _, _ => by unfold rhF; omega
  | n + 1, c, s => by
    unfold rhF
    split
    · split
      · simp
      · split
        · simp
        · exact rhF_c lv pl was n _ _
    · exact rhF_c lv pl was n _ _
theorem rhd_c (s lv : Int → Int) (pl was : Int) : 0 ≤ (rhd s lv pl was).1 ∧ (rhd s lv pl was).1 ≤ 2 := by
  unfold rhd
  split
  · exact rhF_c lv pl was 12 0 s
  · simp
theorem rhF_B {lv : Int → Int} (hL : ∀ i, zR (lv i)) (pl was : Int) : ∀ (n : Nat) (c : Int) (s : Int → Int), 0 ≤ c → c + n ≤ 12 → rB s → rB (rhF lv pl was n c s).2 ∧ (rhF lv pl was n c s).2 0 = s 0
  | 0, _, _ => fun _ _ h => ⟨h, rfl⟩
  | n + 1, c, s => fun hc hn h => by
    unfold rhF
    split
    · split
      · exact ⟨h, rfl⟩
      · split
        · exact ⟨h, rfl⟩
        · have hq := rgi_B h (cue := s (18 + 12 * pl)) (ch := c) (lev := lv (12 * was + c)) (part := 0) (h.1 _) (by omega) (hL _) (by omega) (Or.inr (by have := h.2.2.2.2; omega))
          have e0 := rgi_0 h (s (18 + 12 * pl)) c (lv (12 * was + c)) 0
          have hi := rhF_B hL pl was n (c + 1) _ (by omega) (by omega) hq
          exact ⟨hi.1, hi.2.trans e0⟩
    · exact rhF_B hL pl was n (c + 1) s (by omega) (by omega) h
theorem rhd_B {s lv : Int → Int} (hs : rB s) (hL : ∀ i, zR (lv i)) (pl was : Int) : rB (rhd s lv pl was).2 ∧ (rhd s lv pl was).2 0 = s 0 := by
  unfold rhd
  split
  · exact rhF_B hL pl was 12 0 s (by decide) (by decide) hs
  · exact ⟨hs, rfl⟩
def rGh (s lv : Int → Int) (cue ch lev part : Int) (hd : Prop) [Decidable hd] : Int × (Int → Int) × (Int → Int) :=
  if s (18 + 12 * rpl s cue + 3) = 1 then (1, s, lv) else if s 1 = 60 ∧ rgv s cue ch < 0 then (if hd ∧ rwh s (rpl s cue) ch lev then (1, s, rkl s lv (12 * s 0)) else (2, s, rkl s lv (12 * s 0))) else if hd then ((rhd (rgi s cue ch lev part) (rkl s lv (12 * s 0)) (rpl s cue + 1) (rpl s cue + 1)).1, (rhd (rgi s cue ch lev part) (rkl s lv (12 * s 0)) (rpl s cue + 1) (rpl s cue + 1)).2, rkl s lv (12 * s 0)) else (0, rgi s cue ch lev part, rkl s lv (12 * s 0))
theorem rGh_c (s lv : Int → Int) (cue ch lev part : Int) (hd : Prop) [Decidable hd] : 0 ≤ (rGh s lv cue ch lev part hd).1 ∧ (rGh s lv cue ch lev part hd).1 ≤ 2 := by
  unfold rGh
  split
  · simp
  · split
    · split
      · simp
      · simp
    · split
      · exact rhd_c _ _ _ _
      · simp
def rTh (s lv : Int → Int) (cue ch : Int) (hd : Prop) [Decidable hd] : Int × (Int → Int) × (Int → Int) :=
  if s (18 + 12 * rpl s cue + 3) = 1 then (1, s, lv) else if rgv s cue ch < 0 then (3, s, lv) else if hd then ((rhd (rta s (rgv s cue ch)) (rkl s lv (12 * s 0)) (rpl s cue + 1) (rpl s cue + 1)).1, (rhd (rta s (rgv s cue ch)) (rkl s lv (12 * s 0)) (rpl s cue + 1) (rpl s cue + 1)).2, rkl s lv (12 * s 0)) else (0, rta s (rgv s cue ch), rkl s lv (12 * s 0))
def rrmF (cue : Int) : Nat → (Int → Int) → (Int → Int)
  | 0, s => s
  | n + 1, s => if s (162 + 4 * (n : Int)) = cue then rrmF cue n (rta s n) else rrmF cue n s
theorem rrmF_s {cue k : Int} {s : Int → Int} (h : 0 < k) : rrmF cue k.toNat s = if s (162 + 4 * (k - 1)) = cue then rrmF cue (k - 1).toNat (rta s (k - 1)) else rrmF cue (k - 1).toNat s := by
  rw [show k.toNat = (k - 1).toNat + 1 by omega]
  show (if s (162 + 4 * (((k - 1).toNat : Nat) : Int)) = cue then rrmF cue (k - 1).toNat (rta s (((k - 1).toNat : Nat) : Int)) else rrmF cue (k - 1).toNat s) = _
  rw [show (((k - 1).toNat : Nat) : Int) = k - 1 by omega]
def rsh (s : Int → Int) (p : Int) : Int → Int := zcpy (zu s 0 (s 0 - 1)) (zu s 0 (s 0 - 1)) (18 + 12 * (p + 1)) (18 + 12 * p) (12 * (s 0 - 1 - p))
theorem rsh_0 {s : Int → Int} {p : Int} (h : 0 ≤ p) : rsh s p 0 = s 0 - 1 := by
  unfold rsh zcpy
  rw [if_neg (by omega), zu_at]
theorem rsh_1 {s : Int → Int} {p : Int} (h : 0 ≤ p) : rsh s p 1 = s 1 := by
  unfold rsh zcpy
  rw [if_neg (by omega), zu_ne _ (by omega)]
theorem rsh_B {s : Int → Int} (hs : rB s) {p : Int} (h1 : 0 ≤ p) (h2 : p < s 0) : rB (rsh s p) := by
  have e0 := rsh_0 (s := s) h1
  have e1 := rsh_1 (s := s) h1
  obtain ⟨hR, hs0, hs1, hs2, hs3⟩ := hs
  refine ⟨?_, by omega, by omega, by omega, by omega⟩
  unfold rsh
  exact zcpy_R (zu_R hR ⟨by omega, by omega⟩) (zu_R hR ⟨by omega, by omega⟩)
theorem rrmF_B (cue : Int) : ∀ (n : Nat) (s : Int → Int), (n : Int) ≤ s 1 → rB s → rB (rrmF cue n s) ∧ rrmF cue n s 0 = s 0
  | 0, s => fun _ h => ⟨h, rfl⟩
  | n + 1, s => fun hn h => by
    unfold rrmF
    split
    · have e0 := rta_0 (s := s) (k := n) (by omega)
      have e1 := rta_1 (s := s) (k := n) (by omega)
      have hi := rrmF_B cue n (rta s n) (by omega) (rta_B h (by omega) (by omega))
      exact ⟨hi.1, hi.2.trans e0⟩
    · exact rrmF_B cue n s (by omega) h
def rRm (s lv : Int → Int) (cue : Int) (hd : Prop) [Decidable hd] : Int × (Int → Int) := if hd then rhd (rsh (rrmF cue (s 1).toNat s) (rpl s cue)) (rkl s lv (12 * s 0)) (rpl s cue) (rpl s cue + 1) else (0, rsh (rrmF cue (s 1).toNat s) (rpl s cue))
theorem rRm_c (s lv : Int → Int) (cue : Int) (hd : Prop) [Decidable hd] : 0 ≤ (rRm s lv cue hd).1 ∧ (rRm s lv cue hd).1 ≤ 2 := by
  unfold rRm
  split
  · exact rhd_c _ _ _ _
  · simp
def rRX (s lv b : Int → Int) (F : Nat → Int) (cue : Int) (hd : Prop) [Decidable hd] : Int × (Int → Int) × (Int → Int) × (Nat → Int) :=
  if 0 ≤ rpl s cue then (if s (18 + 12 * rpl s cue + 3) = 1 then (2, zcpy b s 0 0 462, lv, va_up F 6 1) else if 0 < (rRm s lv cue hd).1 then (2, zcpy b (rRm s lv cue hd).2 0 0 462, rkl s lv (12 * s 0), va_up F 6 (rRm s lv cue hd).1) else (0, (rRm s lv cue hd).2, rkl s lv (12 * s 0), F)) else (1, s, lv, F)
section ref
variable {en : pz_Env} {h0 : pz_H} {a : Nat → Nat} {s lv : Int → Int} {A : Nat → Int → Int} {F : Nat → Int}
set_option maxRecDepth 100000 in
set_option maxHeartbeats 4000000 in
theorem kX7_wouldHoldProtected (hj : oj 9 a) (hs : rB s) {pl ch lev : Int} (h1 : 0 ≤ pl) (h2 : pl < s 0) (h3 : 0 ≤ ch) (h4 : ch ≤ 11) (h5 : zR lev) : pz_Cd en 4 158 [.ref (a 0), .int (zI pl), .int (zI ch), .int (zI lev)] (rH h0 a s lv A F) 0 0 (pz_ret (some (.int (zI (bI (rwh s pl ch lev))))) (rH h0 a s lv A F)) := by
  refine pz_in pzt_X7_wouldHoldProtected ?_
  obtain ⟨hR, hs0, hs1, hs2, hs3⟩ := id hs
  refine pr_iload_n dX7_wouldHoldProtected_0 rfl ?_
  refine zr_iconst dX7_wouldHoldProtected_1 ?_
  refine zr_iadd dX7_wouldHoldProtected_2 ?_
  refine pr_istore dX7_wouldHoldProtected_3 (by decide) rfl ?_
  refine pr_iload dX7_wouldHoldProtected_5 rfl ?_
  refine pr_aload_n dX7_wouldHoldProtected_7 rfl ?_
  refine pr_getf dX7_wouldHoldProtected_8 pzf_7_9 (rH_0 hj) rfl ?_
  refine zr_iconst dX7_wouldHoldProtected_11 ?_
  refine zr_iald dX7_wouldHoldProtected_12 (rH_1 hj) (by omega) (by decide) ?_
  refine zr_icmp_ge (tgt := 63) dX7_wouldHoldProtected_13 (by decide) (by first | exact hR _ | omega) (by first | exact hR _ | omega) (fun c13 => ?_) (fun c13 => ?_)
  · refine zr_iconst dX7_wouldHoldProtected_63 ?_
    refine pr_istore dX7_wouldHoldProtected_64 (by decide) rfl ?_
    refine pr_iload_n dX7_wouldHoldProtected_66 rfl ?_
    refine zr_iconst dX7_wouldHoldProtected_67 ?_
    refine zr_icmp_ne (tgt := 83) dX7_wouldHoldProtected_68 (by decide) (by first | exact hR _ | omega) (by first | exact hR _ | omega) (fun c68 => ?_) (fun c68 => ?_)
    · have e0 : (if lev = -1 then s (6 + ch) else lev) = lev := if_neg c68
      refine pr_iload_n dX7_wouldHoldProtected_83 rfl ?_
      refine pr_istore dX7_wouldHoldProtected_84 (by decide) rfl ?_
      refine pr_iload dX7_wouldHoldProtected_86 rfl ?_
      refine zr_if_eq (tgt := 106) dX7_wouldHoldProtected_88 (by decide) (by first | exact hR _ | omega) (fun c88 => ?_) (fun c88 => by exfalso; omega)
      refine zr_iconst dX7_wouldHoldProtected_106 ?_
      exact pr_iret dX7_wouldHoldProtected_107 rfl rfl (zret (by first | exact (bI_t (show rwh s pl ch lev from ⟨⟨by omega, by omega, by assumption, by omega⟩, by rw [e0]; assumption⟩)).symm | exact (bI_f (show ¬ rwh s pl ch lev from fun z => absurd z.1 (by omega))).symm | exact (bI_f (show ¬ rwh s pl ch lev from fun z => z.1.2.2.1 (by assumption))).symm | exact (bI_f (show ¬ rwh s pl ch lev from fun z => z.2 (by rw [e0]; assumption))).symm))
    · have e0 : (if lev = -1 then s (6 + ch) else lev) = s (6 + ch) := if_pos (by omega)
      refine pr_aload_n dX7_wouldHoldProtected_71 rfl ?_
      refine pr_getf dX7_wouldHoldProtected_72 pzf_7_9 (rH_0 hj) rfl ?_
      refine zr_bipush dX7_wouldHoldProtected_75 (by decide) ?_
      refine pr_iload_n dX7_wouldHoldProtected_77 rfl ?_
      refine zr_iadd dX7_wouldHoldProtected_78 ?_
      refine zr_iald dX7_wouldHoldProtected_79 (rH_1 hj) (by omega) (by decide) ?_
      refine pr_goto (tgt := 84) dX7_wouldHoldProtected_80 (by decide) ?_
      refine pr_istore dX7_wouldHoldProtected_84 (by decide) rfl ?_
      refine pr_iload dX7_wouldHoldProtected_86 rfl ?_
      refine zr_if_eq (tgt := 106) dX7_wouldHoldProtected_88 (by decide) (by first | exact hR _ | omega) (fun c88 => ?_) (fun c88 => by exfalso; omega)
      refine zr_iconst dX7_wouldHoldProtected_106 ?_
      exact pr_iret dX7_wouldHoldProtected_107 rfl rfl (zret (by first | exact (bI_t (show rwh s pl ch lev from ⟨⟨by omega, by omega, by assumption, by omega⟩, by rw [e0]; assumption⟩)).symm | exact (bI_f (show ¬ rwh s pl ch lev from fun z => absurd z.1 (by omega))).symm | exact (bI_f (show ¬ rwh s pl ch lev from fun z => z.1.2.2.1 (by assumption))).symm | exact (bI_f (show ¬ rwh s pl ch lev from fun z => z.2 (by rw [e0]; assumption))).symm))
  · refine pr_aload_n dX7_wouldHoldProtected_16 rfl ?_
    refine pr_getf dX7_wouldHoldProtected_17 pzf_7_9 (rH_0 hj) rfl ?_
    refine pr_iload dX7_wouldHoldProtected_20 rfl ?_
    refine zcs1i dX7_wouldHoldProtected_22 pzm_7_63 pzt_X7_at kX7_at (by decide) (Nat.le_of_ble_eq_true rfl) ?_
    refine zr_iconst dX7_wouldHoldProtected_25 ?_
    refine zr_iadd dX7_wouldHoldProtected_26 ?_
    refine zr_iald dX7_wouldHoldProtected_27 (rH_1 hj) (by omega) (by decide) ?_
    refine zr_iconst dX7_wouldHoldProtected_28 ?_
    refine zr_icmp_ne (tgt := 63) dX7_wouldHoldProtected_29 (by decide) (by first | exact hR _ | omega) (by first | exact hR _ | omega) (fun c29 => ?_) (fun c29 => ?_)
    · refine zr_iconst dX7_wouldHoldProtected_63 ?_
      refine pr_istore dX7_wouldHoldProtected_64 (by decide) rfl ?_
      refine pr_iload_n dX7_wouldHoldProtected_66 rfl ?_
      refine zr_iconst dX7_wouldHoldProtected_67 ?_
      refine zr_icmp_ne (tgt := 83) dX7_wouldHoldProtected_68 (by decide) (by first | exact hR _ | omega) (by first | exact hR _ | omega) (fun c68 => ?_) (fun c68 => ?_)
      · have e0 : (if lev = -1 then s (6 + ch) else lev) = lev := if_neg c68
        refine pr_iload_n dX7_wouldHoldProtected_83 rfl ?_
        refine pr_istore dX7_wouldHoldProtected_84 (by decide) rfl ?_
        refine pr_iload dX7_wouldHoldProtected_86 rfl ?_
        refine zr_if_eq (tgt := 106) dX7_wouldHoldProtected_88 (by decide) (by first | exact hR _ | omega) (fun c88 => ?_) (fun c88 => by exfalso; omega)
        refine zr_iconst dX7_wouldHoldProtected_106 ?_
        exact pr_iret dX7_wouldHoldProtected_107 rfl rfl (zret (by first | exact (bI_t (show rwh s pl ch lev from ⟨⟨by omega, by omega, by assumption, by omega⟩, by rw [e0]; assumption⟩)).symm | exact (bI_f (show ¬ rwh s pl ch lev from fun z => absurd z.1 (by omega))).symm | exact (bI_f (show ¬ rwh s pl ch lev from fun z => z.1.2.2.1 (by assumption))).symm | exact (bI_f (show ¬ rwh s pl ch lev from fun z => z.2 (by rw [e0]; assumption))).symm))
      · have e0 : (if lev = -1 then s (6 + ch) else lev) = s (6 + ch) := if_pos (by omega)
        refine pr_aload_n dX7_wouldHoldProtected_71 rfl ?_
        refine pr_getf dX7_wouldHoldProtected_72 pzf_7_9 (rH_0 hj) rfl ?_
        refine zr_bipush dX7_wouldHoldProtected_75 (by decide) ?_
        refine pr_iload_n dX7_wouldHoldProtected_77 rfl ?_
        refine zr_iadd dX7_wouldHoldProtected_78 ?_
        refine zr_iald dX7_wouldHoldProtected_79 (rH_1 hj) (by omega) (by decide) ?_
        refine pr_goto (tgt := 84) dX7_wouldHoldProtected_80 (by decide) ?_
        refine pr_istore dX7_wouldHoldProtected_84 (by decide) rfl ?_
        refine pr_iload dX7_wouldHoldProtected_86 rfl ?_
        refine zr_if_eq (tgt := 106) dX7_wouldHoldProtected_88 (by decide) (by first | exact hR _ | omega) (fun c88 => ?_) (fun c88 => by exfalso; omega)
        refine zr_iconst dX7_wouldHoldProtected_106 ?_
        exact pr_iret dX7_wouldHoldProtected_107 rfl rfl (zret (by first | exact (bI_t (show rwh s pl ch lev from ⟨⟨by omega, by omega, by assumption, by omega⟩, by rw [e0]; assumption⟩)).symm | exact (bI_f (show ¬ rwh s pl ch lev from fun z => absurd z.1 (by omega))).symm | exact (bI_f (show ¬ rwh s pl ch lev from fun z => z.1.2.2.1 (by assumption))).symm | exact (bI_f (show ¬ rwh s pl ch lev from fun z => z.2 (by rw [e0]; assumption))).symm))
    · refine pr_aload_n dX7_wouldHoldProtected_32 rfl ?_
      refine pr_iload dX7_wouldHoldProtected_33 rfl ?_
      refine zcv1i dX7_wouldHoldProtected_35 pzm_7_101 pzt_X7_isBlock (rH_0 hj) (kX7_isBlock hj hs (by omega) (by omega)) (by decide) (Nat.le_of_ble_eq_true rfl) (by decide) ?_
      refine zr_if_ne (tgt := 63) dX7_wouldHoldProtected_38 (by decide) (bI_R _) (fun c38 => ?_) (fun c38 => ?_)
      · have b38 := bI_ne c38
        refine zr_iconst dX7_wouldHoldProtected_63 ?_
        refine pr_istore dX7_wouldHoldProtected_64 (by decide) rfl ?_
        refine pr_iload_n dX7_wouldHoldProtected_66 rfl ?_
        refine zr_iconst dX7_wouldHoldProtected_67 ?_
        refine zr_icmp_ne (tgt := 83) dX7_wouldHoldProtected_68 (by decide) (by first | exact hR _ | omega) (by first | exact hR _ | omega) (fun c68 => ?_) (fun c68 => ?_)
        · have e0 : (if lev = -1 then s (6 + ch) else lev) = lev := if_neg c68
          refine pr_iload_n dX7_wouldHoldProtected_83 rfl ?_
          refine pr_istore dX7_wouldHoldProtected_84 (by decide) rfl ?_
          refine pr_iload dX7_wouldHoldProtected_86 rfl ?_
          refine zr_if_eq (tgt := 106) dX7_wouldHoldProtected_88 (by decide) (by first | exact hR _ | omega) (fun c88 => ?_) (fun c88 => by exfalso; omega)
          refine zr_iconst dX7_wouldHoldProtected_106 ?_
          exact pr_iret dX7_wouldHoldProtected_107 rfl rfl (zret (by first | exact (bI_t (show rwh s pl ch lev from ⟨⟨by omega, by omega, by assumption, by omega⟩, by rw [e0]; assumption⟩)).symm | exact (bI_f (show ¬ rwh s pl ch lev from fun z => absurd z.1 (by omega))).symm | exact (bI_f (show ¬ rwh s pl ch lev from fun z => z.1.2.2.1 (by assumption))).symm | exact (bI_f (show ¬ rwh s pl ch lev from fun z => z.2 (by rw [e0]; assumption))).symm))
        · have e0 : (if lev = -1 then s (6 + ch) else lev) = s (6 + ch) := if_pos (by omega)
          refine pr_aload_n dX7_wouldHoldProtected_71 rfl ?_
          refine pr_getf dX7_wouldHoldProtected_72 pzf_7_9 (rH_0 hj) rfl ?_
          refine zr_bipush dX7_wouldHoldProtected_75 (by decide) ?_
          refine pr_iload_n dX7_wouldHoldProtected_77 rfl ?_
          refine zr_iadd dX7_wouldHoldProtected_78 ?_
          refine zr_iald dX7_wouldHoldProtected_79 (rH_1 hj) (by omega) (by decide) ?_
          refine pr_goto (tgt := 84) dX7_wouldHoldProtected_80 (by decide) ?_
          refine pr_istore dX7_wouldHoldProtected_84 (by decide) rfl ?_
          refine pr_iload dX7_wouldHoldProtected_86 rfl ?_
          refine zr_if_eq (tgt := 106) dX7_wouldHoldProtected_88 (by decide) (by first | exact hR _ | omega) (fun c88 => ?_) (fun c88 => by exfalso; omega)
          refine zr_iconst dX7_wouldHoldProtected_106 ?_
          exact pr_iret dX7_wouldHoldProtected_107 rfl rfl (zret (by first | exact (bI_t (show rwh s pl ch lev from ⟨⟨by omega, by omega, by assumption, by omega⟩, by rw [e0]; assumption⟩)).symm | exact (bI_f (show ¬ rwh s pl ch lev from fun z => absurd z.1 (by omega))).symm | exact (bI_f (show ¬ rwh s pl ch lev from fun z => z.1.2.2.1 (by assumption))).symm | exact (bI_f (show ¬ rwh s pl ch lev from fun z => z.2 (by rw [e0]; assumption))).symm))
      · have b38 := bI_0 c38
        refine pr_aload_n dX7_wouldHoldProtected_41 rfl ?_
        refine pr_aload_n dX7_wouldHoldProtected_42 rfl ?_
        refine pr_getf dX7_wouldHoldProtected_43 pzf_7_9 (rH_0 hj) rfl ?_
        refine pr_iload dX7_wouldHoldProtected_46 rfl ?_
        refine zcs1i dX7_wouldHoldProtected_48 pzm_7_63 pzt_X7_at kX7_at (by decide) (Nat.le_of_ble_eq_true rfl) ?_
        refine zr_iald dX7_wouldHoldProtected_51 (rH_1 hj) (by omega) (by decide) ?_
        refine pr_iload_n dX7_wouldHoldProtected_52 rfl ?_
        refine zcv2i dX7_wouldHoldProtected_53 pzm_7_98 pzt_X7_given (rH_0 hj) (kX7_given hj hs (hR _) (by omega)) (by decide) (Nat.le_of_ble_eq_true rfl) (by decide) ?_
        have hg := rgv_R hs (s (18 + 12 * (pl + 1))) ch
        refine zr_if_ge (tgt := 63) dX7_wouldHoldProtected_56 (by decide) (by first | exact hR _ | omega) (fun c56 => ?_) (fun c56 => ?_)
        · refine zr_iconst dX7_wouldHoldProtected_63 ?_
          refine pr_istore dX7_wouldHoldProtected_64 (by decide) rfl ?_
          refine pr_iload_n dX7_wouldHoldProtected_66 rfl ?_
          refine zr_iconst dX7_wouldHoldProtected_67 ?_
          refine zr_icmp_ne (tgt := 83) dX7_wouldHoldProtected_68 (by decide) (by first | exact hR _ | omega) (by first | exact hR _ | omega) (fun c68 => ?_) (fun c68 => ?_)
          · have e0 : (if lev = -1 then s (6 + ch) else lev) = lev := if_neg c68
            refine pr_iload_n dX7_wouldHoldProtected_83 rfl ?_
            refine pr_istore dX7_wouldHoldProtected_84 (by decide) rfl ?_
            refine pr_iload dX7_wouldHoldProtected_86 rfl ?_
            refine zr_if_eq (tgt := 106) dX7_wouldHoldProtected_88 (by decide) (by first | exact hR _ | omega) (fun c88 => ?_) (fun c88 => by exfalso; omega)
            refine zr_iconst dX7_wouldHoldProtected_106 ?_
            exact pr_iret dX7_wouldHoldProtected_107 rfl rfl (zret (by first | exact (bI_t (show rwh s pl ch lev from ⟨⟨by omega, by omega, by assumption, by omega⟩, by rw [e0]; assumption⟩)).symm | exact (bI_f (show ¬ rwh s pl ch lev from fun z => absurd z.1 (by omega))).symm | exact (bI_f (show ¬ rwh s pl ch lev from fun z => z.1.2.2.1 (by assumption))).symm | exact (bI_f (show ¬ rwh s pl ch lev from fun z => z.2 (by rw [e0]; assumption))).symm))
          · have e0 : (if lev = -1 then s (6 + ch) else lev) = s (6 + ch) := if_pos (by omega)
            refine pr_aload_n dX7_wouldHoldProtected_71 rfl ?_
            refine pr_getf dX7_wouldHoldProtected_72 pzf_7_9 (rH_0 hj) rfl ?_
            refine zr_bipush dX7_wouldHoldProtected_75 (by decide) ?_
            refine pr_iload_n dX7_wouldHoldProtected_77 rfl ?_
            refine zr_iadd dX7_wouldHoldProtected_78 ?_
            refine zr_iald dX7_wouldHoldProtected_79 (rH_1 hj) (by omega) (by decide) ?_
            refine pr_goto (tgt := 84) dX7_wouldHoldProtected_80 (by decide) ?_
            refine pr_istore dX7_wouldHoldProtected_84 (by decide) rfl ?_
            refine pr_iload dX7_wouldHoldProtected_86 rfl ?_
            refine zr_if_eq (tgt := 106) dX7_wouldHoldProtected_88 (by decide) (by first | exact hR _ | omega) (fun c88 => ?_) (fun c88 => by exfalso; omega)
            refine zr_iconst dX7_wouldHoldProtected_106 ?_
            exact pr_iret dX7_wouldHoldProtected_107 rfl rfl (zret (by first | exact (bI_t (show rwh s pl ch lev from ⟨⟨by omega, by omega, by assumption, by omega⟩, by rw [e0]; assumption⟩)).symm | exact (bI_f (show ¬ rwh s pl ch lev from fun z => absurd z.1 (by omega))).symm | exact (bI_f (show ¬ rwh s pl ch lev from fun z => z.1.2.2.1 (by assumption))).symm | exact (bI_f (show ¬ rwh s pl ch lev from fun z => z.2 (by rw [e0]; assumption))).symm))
        · refine zr_iconst dX7_wouldHoldProtected_59 ?_
          refine pr_goto (tgt := 64) dX7_wouldHoldProtected_60 (by decide) ?_
          refine pr_istore dX7_wouldHoldProtected_64 (by decide) rfl ?_
          refine pr_iload_n dX7_wouldHoldProtected_66 rfl ?_
          refine zr_iconst dX7_wouldHoldProtected_67 ?_
          refine zr_icmp_ne (tgt := 83) dX7_wouldHoldProtected_68 (by decide) (by first | exact hR _ | omega) (by first | exact hR _ | omega) (fun c68 => ?_) (fun c68 => ?_)
          · have e0 : (if lev = -1 then s (6 + ch) else lev) = lev := if_neg c68
            refine pr_iload_n dX7_wouldHoldProtected_83 rfl ?_
            refine pr_istore dX7_wouldHoldProtected_84 (by decide) rfl ?_
            refine pr_iload dX7_wouldHoldProtected_86 rfl ?_
            refine zr_if_eq (tgt := 106) dX7_wouldHoldProtected_88 (by decide) (by first | exact hR _ | omega) (fun c88 => by exfalso; omega) (fun c88 => ?_)
            refine pr_iload dX7_wouldHoldProtected_91 rfl ?_
            refine pr_aload_n dX7_wouldHoldProtected_93 rfl ?_
            refine pr_iload_n dX7_wouldHoldProtected_94 rfl ?_
            refine pr_iload_n dX7_wouldHoldProtected_95 rfl ?_
            refine zcv2i dX7_wouldHoldProtected_96 pzm_7_84 pzt_X7_levelIn (rH_0 hj) (kX7_levelIn hj hs (by omega) (by omega) (by omega) (by omega)) (by decide) (Nat.le_of_ble_eq_true rfl) (by decide) ?_
            refine zr_icmp_eq (tgt := 106) dX7_wouldHoldProtected_99 (by decide) (by first | exact hR _ | omega) (rlv_R hs _ _) (fun c99 => ?_) (fun c99 => ?_)
            · refine zr_iconst dX7_wouldHoldProtected_106 ?_
              exact pr_iret dX7_wouldHoldProtected_107 rfl rfl (zret (by first | exact (bI_t (show rwh s pl ch lev from ⟨⟨by omega, by omega, by assumption, by omega⟩, by rw [e0]; assumption⟩)).symm | exact (bI_f (show ¬ rwh s pl ch lev from fun z => absurd z.1 (by omega))).symm | exact (bI_f (show ¬ rwh s pl ch lev from fun z => z.1.2.2.1 (by assumption))).symm | exact (bI_f (show ¬ rwh s pl ch lev from fun z => z.2 (by rw [e0]; assumption))).symm))
            · refine zr_iconst dX7_wouldHoldProtected_102 ?_
              refine pr_goto (tgt := 107) dX7_wouldHoldProtected_103 (by decide) ?_
              exact pr_iret dX7_wouldHoldProtected_107 rfl rfl (zret (by first | exact (bI_t (show rwh s pl ch lev from ⟨⟨by omega, by omega, by assumption, by omega⟩, by rw [e0]; assumption⟩)).symm | exact (bI_f (show ¬ rwh s pl ch lev from fun z => absurd z.1 (by omega))).symm | exact (bI_f (show ¬ rwh s pl ch lev from fun z => z.1.2.2.1 (by assumption))).symm | exact (bI_f (show ¬ rwh s pl ch lev from fun z => z.2 (by rw [e0]; assumption))).symm))
          · have e0 : (if lev = -1 then s (6 + ch) else lev) = s (6 + ch) := if_pos (by omega)
            refine pr_aload_n dX7_wouldHoldProtected_71 rfl ?_
            refine pr_getf dX7_wouldHoldProtected_72 pzf_7_9 (rH_0 hj) rfl ?_
            refine zr_bipush dX7_wouldHoldProtected_75 (by decide) ?_
            refine pr_iload_n dX7_wouldHoldProtected_77 rfl ?_
            refine zr_iadd dX7_wouldHoldProtected_78 ?_
            refine zr_iald dX7_wouldHoldProtected_79 (rH_1 hj) (by omega) (by decide) ?_
            refine pr_goto (tgt := 84) dX7_wouldHoldProtected_80 (by decide) ?_
            refine pr_istore dX7_wouldHoldProtected_84 (by decide) rfl ?_
            refine pr_iload dX7_wouldHoldProtected_86 rfl ?_
            refine zr_if_eq (tgt := 106) dX7_wouldHoldProtected_88 (by decide) (by first | exact hR _ | omega) (fun c88 => by exfalso; omega) (fun c88 => ?_)
            refine pr_iload dX7_wouldHoldProtected_91 rfl ?_
            refine pr_aload_n dX7_wouldHoldProtected_93 rfl ?_
            refine pr_iload_n dX7_wouldHoldProtected_94 rfl ?_
            refine pr_iload_n dX7_wouldHoldProtected_95 rfl ?_
            refine zcv2i dX7_wouldHoldProtected_96 pzm_7_84 pzt_X7_levelIn (rH_0 hj) (kX7_levelIn hj hs (by omega) (by omega) (by omega) (by omega)) (by decide) (Nat.le_of_ble_eq_true rfl) (by decide) ?_
            refine zr_icmp_eq (tgt := 106) dX7_wouldHoldProtected_99 (by decide) (by first | exact hR _ | omega) (rlv_R hs _ _) (fun c99 => ?_) (fun c99 => ?_)
            · refine zr_iconst dX7_wouldHoldProtected_106 ?_
              exact pr_iret dX7_wouldHoldProtected_107 rfl rfl (zret (by first | exact (bI_t (show rwh s pl ch lev from ⟨⟨by omega, by omega, by assumption, by omega⟩, by rw [e0]; assumption⟩)).symm | exact (bI_f (show ¬ rwh s pl ch lev from fun z => absurd z.1 (by omega))).symm | exact (bI_f (show ¬ rwh s pl ch lev from fun z => z.1.2.2.1 (by assumption))).symm | exact (bI_f (show ¬ rwh s pl ch lev from fun z => z.2 (by rw [e0]; assumption))).symm))
            · refine zr_iconst dX7_wouldHoldProtected_102 ?_
              refine pr_goto (tgt := 107) dX7_wouldHoldProtected_103 (by decide) ?_
              exact pr_iret dX7_wouldHoldProtected_107 rfl rfl (zret (by first | exact (bI_t (show rwh s pl ch lev from ⟨⟨by omega, by omega, by assumption, by omega⟩, by rw [e0]; assumption⟩)).symm | exact (bI_f (show ¬ rwh s pl ch lev from fun z => absurd z.1 (by omega))).symm | exact (bI_f (show ¬ rwh s pl ch lev from fun z => z.1.2.2.1 (by assumption))).symm | exact (bI_f (show ¬ rwh s pl ch lev from fun z => z.2 (by rw [e0]; assumption))).symm))
set_option maxRecDepth 100000 in
set_option maxHeartbeats 4000000 in
theorem kX7_giveHeld (hj : oj 9 a) (hs : rB s) (hL : ∀ i, zR (lv i)) {cue ch lev part : Int} {hd : Prop} [dd : Decidable hd] (h1 : zR cue) (h2 : 0 ≤ rpl s cue) (h3 : 0 ≤ ch) (h4 : ch ≤ 11) (h5 : zR lev) (h6 : zR part) : pz_Cd en 6 157 [.ref (a 0), .int (zI cue), .int (zI ch), .int (zI lev), .int (zI part), .int (zI (bI hd))] (rH h0 a s lv A F) 0 0 (pz_ret (some (.int (zI (rGh s lv cue ch lev part hd).1))) (rH h0 a (rGh s lv cue ch lev part hd).2.1 (rGh s lv cue ch lev part hd).2.2 A F)) := by
  refine pz_in pzt_X7_giveHeld ?_
  obtain ⟨hR, hs0, hs1, hs2, hs3⟩ := id hs
  have hp := rpl_R hs cue
  have hg := rgv_R hs cue ch
  unfold rGh
  refine pr_aload_n dX7_giveHeld_0 rfl ?_
  refine pr_iload_n dX7_giveHeld_1 rfl ?_
  refine zcv1i dX7_giveHeld_2 pzm_7_67 pzt_X7_placeOf (rH_0 hj) (kX7_placeOf hj hs (by first | exact hR _ | omega)) (by decide) (Nat.le_of_ble_eq_true rfl) (by decide) ?_
  refine pr_istore dX7_giveHeld_5 (by decide) rfl ?_
  refine pr_aload_n dX7_giveHeld_7 rfl ?_
  refine pr_getf dX7_giveHeld_8 pzf_7_9 (rH_0 hj) rfl ?_
  refine pr_iload dX7_giveHeld_11 rfl ?_
  refine zcs1i dX7_giveHeld_13 pzm_7_63 pzt_X7_at kX7_at (by decide) (Nat.le_of_ble_eq_true rfl) ?_
  refine zr_iconst dX7_giveHeld_16 ?_
  refine zr_iadd dX7_giveHeld_17 ?_
  refine zr_iald dX7_giveHeld_18 (rH_1 hj) (by omega) (by decide) ?_
  refine zr_iconst dX7_giveHeld_19 ?_
  refine zr_icmp_ne (tgt := 25) dX7_giveHeld_20 (by decide) (by first | exact hR _ | omega) (by first | exact hR _ | omega) (fun c20 => ?_) (fun c20 => ?_)
  · rw [if_neg c20]
    refine pr_aload_n dX7_giveHeld_25 rfl ?_
    refine zcv0u dX7_giveHeld_26 pzm_7_88 pzt_X7_keepLevels (rH_0 hj) (kX7_keepLevels hj hs) (by decide) (Nat.le_of_ble_eq_true rfl) (by decide) ?_
    refine pr_aload_n dX7_giveHeld_29 rfl ?_
    refine pr_getf dX7_giveHeld_30 pzf_7_9 (rH_0 hj) rfl ?_
    refine zr_iconst dX7_giveHeld_33 ?_
    refine zr_iald dX7_giveHeld_34 (rH_1 hj) (by omega) (by decide) ?_
    refine zr_bipush dX7_giveHeld_35 (by decide) ?_
    refine zr_icmp_ne (tgt := 53) dX7_giveHeld_37 (by decide) (by first | exact hR _ | omega) (by first | exact hR _ | omega) (fun c37 => ?_) (fun c37 => ?_)
    · rw [if_neg (fun z => c37 z.1)]
      refine zr_iconst dX7_giveHeld_53 ?_
      refine pr_istore dX7_giveHeld_54 (by decide) rfl ?_
      refine pr_iload dX7_giveHeld_56 rfl ?_
      refine zr_if_eq (tgt := 83) dX7_giveHeld_58 (by decide) (by first | exact hR _ | omega) (fun c58 => ?_) (fun c58 => by exfalso; omega)
      refine pr_aload_n dX7_giveHeld_83 rfl ?_
      refine pr_iload_n dX7_giveHeld_84 rfl ?_
      refine pr_iload_n dX7_giveHeld_85 rfl ?_
      refine pr_iload_n dX7_giveHeld_86 rfl ?_
      refine pr_iload dX7_giveHeld_87 rfl ?_
      refine zcv4u dX7_giveHeld_89 pzm_7_125 pzt_X7_give (rH_0 hj) (kX7_give hj hs h1 (by omega) (by omega)) (by decide) (Nat.le_of_ble_eq_true rfl) (by decide) ?_
      have hb := rgi_B hs (cue := cue) (ch := ch) (lev := lev) (part := part) h1 (by omega) h5 h6 (by omega)
      refine pr_iload dX7_giveHeld_92 rfl ?_
      refine zr_if_eq (tgt := 112) dX7_giveHeld_94 (by decide) (bI_R _) (fun c94 => ?_) (fun c94 => ?_)
      · have b94 := bI_0 c94
        rw [if_neg b94]
        refine zr_iconst dX7_giveHeld_112 ?_
        exact pr_iret dX7_giveHeld_113 rfl rfl (zret rfl)
      · have b94 := bI_ne c94
        rw [if_pos b94]
        refine pr_aload_n dX7_giveHeld_97 rfl ?_
        refine pr_iload dX7_giveHeld_98 rfl ?_
        refine zr_iconst dX7_giveHeld_100 ?_
        refine zr_iadd dX7_giveHeld_101 ?_
        refine pr_iload dX7_giveHeld_102 rfl ?_
        refine zr_iconst dX7_giveHeld_104 ?_
        refine zr_iadd dX7_giveHeld_105 ?_
        refine zcv2i dX7_giveHeld_106 pzm_7_132 pzt_X7_hold (rH_0 hj) (kX7_hold hj hb (rkl_R hs hL _) (by omega) (by omega) (fun z => by rw [rgi_0 hs] at z; omega)) (by decide) (Nat.le_of_ble_eq_true rfl) (by decide) ?_
        refine pr_goto (tgt := 113) dX7_giveHeld_109 (by decide) ?_
        exact pr_iret dX7_giveHeld_113 rfl rfl (zret rfl)
    · 
      refine pr_aload_n dX7_giveHeld_40 rfl ?_
      refine pr_iload_n dX7_giveHeld_41 rfl ?_
      refine pr_iload_n dX7_giveHeld_42 rfl ?_
      refine zcv2i dX7_giveHeld_43 pzm_7_98 pzt_X7_given (rH_0 hj) (kX7_given hj hs h1 (by omega)) (by decide) (Nat.le_of_ble_eq_true rfl) (by decide) ?_
      refine zr_if_ge (tgt := 53) dX7_giveHeld_46 (by decide) (by first | exact hR _ | omega) (fun c46 => ?_) (fun c46 => ?_)
      · rw [if_neg (fun z => absurd z.2 (by omega))]
        refine zr_iconst dX7_giveHeld_53 ?_
        refine pr_istore dX7_giveHeld_54 (by decide) rfl ?_
        refine pr_iload dX7_giveHeld_56 rfl ?_
        refine zr_if_eq (tgt := 83) dX7_giveHeld_58 (by decide) (by first | exact hR _ | omega) (fun c58 => ?_) (fun c58 => by exfalso; omega)
        refine pr_aload_n dX7_giveHeld_83 rfl ?_
        refine pr_iload_n dX7_giveHeld_84 rfl ?_
        refine pr_iload_n dX7_giveHeld_85 rfl ?_
        refine pr_iload_n dX7_giveHeld_86 rfl ?_
        refine pr_iload dX7_giveHeld_87 rfl ?_
        refine zcv4u dX7_giveHeld_89 pzm_7_125 pzt_X7_give (rH_0 hj) (kX7_give hj hs h1 (by omega) (by omega)) (by decide) (Nat.le_of_ble_eq_true rfl) (by decide) ?_
        have hb := rgi_B hs (cue := cue) (ch := ch) (lev := lev) (part := part) h1 (by omega) h5 h6 (by omega)
        refine pr_iload dX7_giveHeld_92 rfl ?_
        refine zr_if_eq (tgt := 112) dX7_giveHeld_94 (by decide) (bI_R _) (fun c94 => ?_) (fun c94 => ?_)
        · have b94 := bI_0 c94
          rw [if_neg b94]
          refine zr_iconst dX7_giveHeld_112 ?_
          exact pr_iret dX7_giveHeld_113 rfl rfl (zret rfl)
        · have b94 := bI_ne c94
          rw [if_pos b94]
          refine pr_aload_n dX7_giveHeld_97 rfl ?_
          refine pr_iload dX7_giveHeld_98 rfl ?_
          refine zr_iconst dX7_giveHeld_100 ?_
          refine zr_iadd dX7_giveHeld_101 ?_
          refine pr_iload dX7_giveHeld_102 rfl ?_
          refine zr_iconst dX7_giveHeld_104 ?_
          refine zr_iadd dX7_giveHeld_105 ?_
          refine zcv2i dX7_giveHeld_106 pzm_7_132 pzt_X7_hold (rH_0 hj) (kX7_hold hj hb (rkl_R hs hL _) (by omega) (by omega) (fun z => by rw [rgi_0 hs] at z; omega)) (by decide) (Nat.le_of_ble_eq_true rfl) (by decide) ?_
          refine pr_goto (tgt := 113) dX7_giveHeld_109 (by decide) ?_
          exact pr_iret dX7_giveHeld_113 rfl rfl (zret rfl)
      · rw [if_pos ⟨by omega, by omega⟩]
        refine zr_iconst dX7_giveHeld_49 ?_
        refine pr_goto (tgt := 54) dX7_giveHeld_50 (by decide) ?_
        refine pr_istore dX7_giveHeld_54 (by decide) rfl ?_
        refine pr_iload dX7_giveHeld_56 rfl ?_
        refine zr_if_eq (tgt := 83) dX7_giveHeld_58 (by decide) (by first | exact hR _ | omega) (fun c58 => by exfalso; omega) (fun c58 => ?_)
        refine pr_iload dX7_giveHeld_61 rfl ?_
        refine zr_if_eq (tgt := 81) dX7_giveHeld_63 (by decide) (bI_R _) (fun c63 => ?_) (fun c63 => ?_)
        · have b63 := bI_0 c63
          rw [if_neg (fun z => b63 z.1)]
          refine zr_iconst dX7_giveHeld_81 ?_
          exact pr_iret dX7_giveHeld_82 rfl rfl (zret rfl)
        · have b63 := bI_ne c63
          refine pr_aload_n dX7_giveHeld_66 rfl ?_
          refine pr_iload dX7_giveHeld_67 rfl ?_
          refine pr_iload_n dX7_giveHeld_69 rfl ?_
          refine pr_iload_n dX7_giveHeld_70 rfl ?_
          refine zcv3i dX7_giveHeld_71 pzm_7_129 pzt_X7_wouldHoldProtected (rH_0 hj) (kX7_wouldHoldProtected hj hs h2 (by omega) h3 h4 h5) (by decide) (Nat.le_of_ble_eq_true rfl) (by decide) ?_
          refine zr_if_eq (tgt := 81) dX7_giveHeld_74 (by decide) (bI_R _) (fun c74 => ?_) (fun c74 => ?_)
          · have b74 := bI_0 c74
            rw [if_neg (fun z => b74 z.2)]
            refine zr_iconst dX7_giveHeld_81 ?_
            exact pr_iret dX7_giveHeld_82 rfl rfl (zret rfl)
          · have b74 := bI_ne c74
            rw [if_pos ⟨b63, b74⟩]
            refine zr_iconst dX7_giveHeld_77 ?_
            refine pr_goto (tgt := 82) dX7_giveHeld_78 (by decide) ?_
            exact pr_iret dX7_giveHeld_82 rfl rfl (zret rfl)
  · rw [if_pos (by omega)]
    refine zr_iconst dX7_giveHeld_23 ?_
    exact pr_iret dX7_giveHeld_24 rfl rfl (zret rfl)
set_option maxRecDepth 100000 in
set_option maxHeartbeats 4000000 in
theorem kX7_doGive (hj : oj 9 a) (hs : rB s) (hL : ∀ i, zR (lv i)) {cue ch lev part : Int} {hd : Prop} [dd : Decidable hd] (h1 : zR cue) (h2 : 0 ≤ rpl s cue) (h3 : 0 ≤ ch) (h4 : ch ≤ 11) (h5 : zR lev) (h6 : zR part) : pz_Cd en 7 160 [.ref (a 0), .int (zI cue), .int (zI ch), .int (zI lev), .int (zI part), .int (zI (bI hd))] (rH h0 a s lv A F) 0 0 (pz_ret (some (.int (zI (rGh s lv cue ch lev part hd).1))) (rH h0 a (if 0 < (rGh s lv cue ch lev part hd).1 then zcpy (A 2) (rGh s lv cue ch lev part hd).2.1 0 0 462 else (rGh s lv cue ch lev part hd).2.1) (rGh s lv cue ch lev part hd).2.2 A (if 0 < (rGh s lv cue ch lev part hd).1 then va_up F 6 (rGh s lv cue ch lev part hd).1 else F))) := by
  refine pz_in pzt_X7_doGive ?_
  obtain ⟨hR, hs0, hs1, hs2, hs3⟩ := id hs
  have hc := rGh_c s lv cue ch lev part hd
  refine pr_aload_n dX7_doGive_0 rfl ?_
  refine pr_iload_n dX7_doGive_1 rfl ?_
  refine pr_iload_n dX7_doGive_2 rfl ?_
  refine pr_iload_n dX7_doGive_3 rfl ?_
  refine pr_iload dX7_doGive_4 rfl ?_
  refine pr_iload dX7_doGive_6 rfl ?_
  refine zcv5i dX7_doGive_8 pzm_7_135 pzt_X7_giveHeld (rH_0 hj) (kX7_giveHeld hj hs hL h1 h2 h3 h4 h5 h6) (by decide) (Nat.le_of_ble_eq_true rfl) (by decide) ?_
  refine pr_istore dX7_doGive_11 (by decide) rfl ?_
  refine pr_iload dX7_doGive_13 rfl ?_
  refine zr_if_le (tgt := 27) dX7_doGive_15 (by decide) (by first | exact hR _ | omega) (fun c15 => ?_) (fun c15 => ?_)
  · rw [if_neg (by omega), if_neg (by omega)]
    refine zr_iconst dX7_doGive_27 ?_
    exact pr_iret dX7_doGive_28 rfl rfl (zret (by first | rfl | omega))
  · rw [if_pos (by omega), if_pos (by omega)]
    refine pr_aload_n dX7_doGive_18 rfl ?_
    refine pr_iload dX7_doGive_19 rfl ?_
    refine zcv1i dX7_doGive_21 pzm_7_139 pzt_X7_refuse (rH_0 hj) (kX7_refuse hj) (by decide) (Nat.le_of_ble_eq_true rfl) (by decide) ?_
    refine pr_goto (tgt := 28) dX7_doGive_24 (by decide) ?_
    exact pr_iret dX7_doGive_28 rfl rfl (zret (by first | rfl | omega))
set_option maxRecDepth 100000 in
set_option maxHeartbeats 4000000 in
theorem kX7_takeHeld (hj : oj 9 a) (hs : rB s) (hL : ∀ i, zR (lv i)) {cue ch : Int} {hd : Prop} [dd : Decidable hd] (h1 : zR cue) (h2 : 0 ≤ rpl s cue) (h3 : 0 ≤ ch) (h4 : ch ≤ 11) : pz_Cd en 6 163 [.ref (a 0), .int (zI cue), .int (zI ch), .int (zI (bI hd))] (rH h0 a s lv A F) 0 0 (pz_ret (some (.int (zI (rTh s lv cue ch hd).1))) (rH h0 a (rTh s lv cue ch hd).2.1 (rTh s lv cue ch hd).2.2 A F)) := by
  refine pz_in pzt_X7_takeHeld ?_
  obtain ⟨hR, hs0, hs1, hs2, hs3⟩ := id hs
  have hp := rpl_R hs cue
  have hg := rgv_R hs cue ch
  unfold rTh
  refine pr_aload_n dX7_takeHeld_0 rfl ?_
  refine pr_iload_n dX7_takeHeld_1 rfl ?_
  refine zcv1i dX7_takeHeld_2 pzm_7_67 pzt_X7_placeOf (rH_0 hj) (kX7_placeOf hj hs (by first | exact hR _ | omega)) (by decide) (Nat.le_of_ble_eq_true rfl) (by decide) ?_
  refine pr_istore dX7_takeHeld_5 (by decide) rfl ?_
  refine pr_aload_n dX7_takeHeld_7 rfl ?_
  refine pr_iload_n dX7_takeHeld_8 rfl ?_
  refine pr_iload_n dX7_takeHeld_9 rfl ?_
  refine zcv2i dX7_takeHeld_10 pzm_7_98 pzt_X7_given (rH_0 hj) (kX7_given hj hs h1 (by omega)) (by decide) (Nat.le_of_ble_eq_true rfl) (by decide) ?_
  refine pr_istore dX7_takeHeld_13 (by decide) rfl ?_
  refine pr_aload_n dX7_takeHeld_15 rfl ?_
  refine pr_getf dX7_takeHeld_16 pzf_7_9 (rH_0 hj) rfl ?_
  refine pr_iload dX7_takeHeld_19 rfl ?_
  refine zcs1i dX7_takeHeld_21 pzm_7_63 pzt_X7_at kX7_at (by decide) (Nat.le_of_ble_eq_true rfl) ?_
  refine zr_iconst dX7_takeHeld_24 ?_
  refine zr_iadd dX7_takeHeld_25 ?_
  refine zr_iald dX7_takeHeld_26 (rH_1 hj) (by omega) (by decide) ?_
  refine zr_iconst dX7_takeHeld_27 ?_
  refine zr_icmp_ne (tgt := 33) dX7_takeHeld_28 (by decide) (by first | exact hR _ | omega) (by first | exact hR _ | omega) (fun c28 => ?_) (fun c28 => ?_)
  · rw [if_neg c28]
    refine pr_iload dX7_takeHeld_33 rfl ?_
    refine zr_if_ge (tgt := 40) dX7_takeHeld_35 (by decide) (by first | exact hR _ | omega) (fun c35 => ?_) (fun c35 => ?_)
    · rw [if_neg (by omega)]
      refine pr_aload_n dX7_takeHeld_40 rfl ?_
      refine zcv0u dX7_takeHeld_41 pzm_7_88 pzt_X7_keepLevels (rH_0 hj) (kX7_keepLevels hj hs) (by decide) (Nat.le_of_ble_eq_true rfl) (by decide) ?_
      refine pr_aload_n dX7_takeHeld_44 rfl ?_
      refine pr_iload dX7_takeHeld_45 rfl ?_
      refine zcv1u dX7_takeHeld_47 pzm_7_148 pzt_X7_takeAway (rH_0 hj) (kX7_takeAway hj hs (by omega) (by omega)) (by decide) (Nat.le_of_ble_eq_true rfl) (by decide) ?_
      have hb := rta_B hs (k := rgv s cue ch) (by omega) (by omega)
      have e0 := rta_0 (s := s) (k := rgv s cue ch) (by omega)
      refine pr_iload_n dX7_takeHeld_50 rfl ?_
      refine zr_if_eq (tgt := 69) dX7_takeHeld_51 (by decide) (bI_R _) (fun c51 => ?_) (fun c51 => ?_)
      · have b51 := bI_0 c51
        rw [if_neg b51]
        refine zr_iconst dX7_takeHeld_69 ?_
        exact pr_iret dX7_takeHeld_70 rfl rfl (zret rfl)
      · have b51 := bI_ne c51
        rw [if_pos b51]
        refine pr_aload_n dX7_takeHeld_54 rfl ?_
        refine pr_iload dX7_takeHeld_55 rfl ?_
        refine zr_iconst dX7_takeHeld_57 ?_
        refine zr_iadd dX7_takeHeld_58 ?_
        refine pr_iload dX7_takeHeld_59 rfl ?_
        refine zr_iconst dX7_takeHeld_61 ?_
        refine zr_iadd dX7_takeHeld_62 ?_
        refine zcv2i dX7_takeHeld_63 pzm_7_132 pzt_X7_hold (rH_0 hj) (kX7_hold hj hb (rkl_R hs hL _) (by omega) (by omega) (fun z => by rw [e0] at z; omega)) (by decide) (Nat.le_of_ble_eq_true rfl) (by decide) ?_
        refine pr_goto (tgt := 70) dX7_takeHeld_66 (by decide) ?_
        exact pr_iret dX7_takeHeld_70 rfl rfl (zret rfl)
    · rw [if_pos (by omega)]
      refine zr_iconst dX7_takeHeld_38 ?_
      exact pr_iret dX7_takeHeld_39 rfl rfl (zret rfl)
  · rw [if_pos (by omega)]
    refine zr_iconst dX7_takeHeld_31 ?_
    exact pr_iret dX7_takeHeld_32 rfl rfl (zret rfl)
set_option maxRecDepth 100000 in
set_option maxHeartbeats 4000000 in
theorem kX7_doRemove (hj : oj 9 a) (hs : rB s) (hL : ∀ i, zR (lv i)) {cue : Int} {hd : Prop} [dd : Decidable hd] (h1 : zR cue) : pz_Cd en 6 165 [.ref (a 0), .int (zI cue), .int (zI (bI hd))] (rH h0 a s lv A F) 0 0 (pz_ret (some (.int (zI (rRX s lv (A 2) F cue hd).1))) (rH h0 a (rRX s lv (A 2) F cue hd).2.1 (rRX s lv (A 2) F cue hd).2.2.1 A (rRX s lv (A 2) F cue hd).2.2.2)) := by
  refine pz_in pzt_X7_doRemove ?_
  obtain ⟨hR, hs0, hs1, hs2, hs3⟩ := id hs
  have hp := rpl_R hs cue
  have tail : 0 ≤ rpl s cue → ¬ s (18 + 12 * rpl s cue + 3) = 1 → pz_WP 6 en (pz_Cd en (6 - 1)) 7 cX7_doRemove 5 (some .int) [] false (pz_ret (some (.int (zI (rRX s lv (A 2) F cue hd).1))) (rH h0 a (rRX s lv (A 2) F cue hd).2.1 (rRX s lv (A 2) F cue hd).2.2.1 A (rRX s lv (A 2) F cue hd).2.2.2)) 83 [some (.ref (a 0)), some (.int (zI cue)), some (.int (zI (bI hd))), some (.int (zI (rpl s cue))), some (.int (zI (-1)))] [] (rH h0 a (rrmF cue (s 1).toNat s) (rkl s lv (12 * s 0)) A F) 0 0 := by
    intro p1 p2
    have e1 : (rRX s lv (A 2) F cue hd) = if 0 < (rRm s lv cue hd).1 then (2, zcpy (A 2) (rRm s lv cue hd).2 0 0 462, rkl s lv (12 * s 0), va_up F 6 (rRm s lv cue hd).1) else (0, (rRm s lv cue hd).2, rkl s lv (12 * s 0), F) := by
      unfold rRX
      rw [if_pos p1, if_neg p2]
    rw [e1]
    have hr := rrmF_B cue (s 1).toNat s (by omega) hs
    have hb := rsh_B hr.1 p1 (by omega)
    have e0 := rsh_0 (s := rrmF cue (s 1).toNat s) p1
    have hc := rRm_c s lv cue hd
    have hr0 := hr.1.1 0
    refine pr_aload_n dX7_doRemove_83 rfl ?_
    refine pr_getf dX7_doRemove_84 pzf_7_9 (rH_0 hj) rfl ?_
    refine zr_iconst dX7_doRemove_87 ?_
    refine pr_dup2 dX7_doRemove_88 rfl rfl ?_
    refine zr_iald dX7_doRemove_89 (rH_1 hj) (by omega) (by decide) ?_
    refine zr_iconst dX7_doRemove_90 ?_
    refine zr_isub dX7_doRemove_91 ?_
    refine zr_iast dX7_doRemove_92 (rH_1 hj) (by omega) (by decide) (rH_u1 hj) ?_
    have e3 : zu (rrmF cue (s 1).toNat s) 0 (rrmF cue (s 1).toNat s 0 - 1) 0 = rrmF cue (s 1).toNat s 0 - 1 := zu_at _ _ _
    refine pr_aload_n dX7_doRemove_93 rfl ?_
    refine pr_getf dX7_doRemove_94 pzf_7_9 (rH_0 hj) rfl ?_
    refine pr_iload_n dX7_doRemove_97 rfl ?_
    refine zr_iconst dX7_doRemove_98 ?_
    refine zr_iadd dX7_doRemove_99 ?_
    refine zcs1i dX7_doRemove_100 pzm_7_63 pzt_X7_at kX7_at (by decide) (Nat.le_of_ble_eq_true rfl) ?_
    refine pr_aload_n dX7_doRemove_103 rfl ?_
    refine pr_getf dX7_doRemove_104 pzf_7_9 (rH_0 hj) rfl ?_
    refine pr_iload_n dX7_doRemove_107 rfl ?_
    refine zcs1i dX7_doRemove_108 pzm_7_63 pzt_X7_at kX7_at (by decide) (Nat.le_of_ble_eq_true rfl) ?_
    refine zr_bipush dX7_doRemove_111 (by decide) ?_
    refine pr_aload_n dX7_doRemove_113 rfl ?_
    refine pr_getf dX7_doRemove_114 pzf_7_9 (rH_0 hj) rfl ?_
    refine zr_iconst dX7_doRemove_117 ?_
    refine zr_iald dX7_doRemove_118 (rH_1 hj) (by omega) (by decide) ?_
    refine pr_iload_n dX7_doRemove_119 rfl ?_
    refine zr_isub dX7_doRemove_120 ?_
    refine zr_imul dX7_doRemove_121 ?_
    rw [e3]
    refine zr_copy dX7_doRemove_122 pzx_7_48 (by decide) (rH_1 hj) (rH_1 hj) (by omega) (by omega) (by omega) (by decide) (Nat.le_of_ble_eq_true rfl) (rH_u1 hj) ?_
    refine pr_iload_n dX7_doRemove_125 rfl ?_
    refine zr_if_eq (tgt := 140) dX7_doRemove_126 (by decide) (bI_R _) (fun c126 => ?_) (fun c126 => ?_)
    · have b126 := bI_0 c126
      have e2 : (rRm s lv cue hd) = (0, rsh (rrmF cue (s 1).toNat s) (rpl s cue)) := by
        unfold rRm
        rw [if_neg b126]
      rw [e2]
      refine zr_iconst dX7_doRemove_140 ?_
      refine pr_istore dX7_doRemove_141 (by decide) rfl ?_
      refine pr_iload dX7_doRemove_143 rfl ?_
      refine zr_if_le (tgt := 157) dX7_doRemove_145 (by decide) (by first | exact hR _ | omega) (fun c145 => ?_) (fun c145 => by exfalso; omega)
      first | rw [if_neg (by omega)] | rw [if_neg (by simp)]
      refine zr_iconst dX7_doRemove_157 ?_
      exact pr_iret dX7_doRemove_158 rfl rfl (zret rfl)
    · have b126 := bI_ne c126
      have e2 : (rRm s lv cue hd) = rhd (rsh (rrmF cue (s 1).toNat s) (rpl s cue)) (rkl s lv (12 * s 0)) (rpl s cue) (rpl s cue + 1) := by
        unfold rRm
        rw [if_pos b126]
      rw [e2]
      rw [e2] at hc
      refine pr_aload_n dX7_doRemove_129 rfl ?_
      refine pr_iload_n dX7_doRemove_130 rfl ?_
      refine pr_iload_n dX7_doRemove_131 rfl ?_
      refine zr_iconst dX7_doRemove_132 ?_
      refine zr_iadd dX7_doRemove_133 ?_
      refine zcv2i dX7_doRemove_134 pzm_7_132 pzt_X7_hold (rH_0 hj) (kX7_hold hj hb (rkl_R hs hL _) (by omega) (by omega) (fun z => by rw [e0] at z; omega)) (by decide) (Nat.le_of_ble_eq_true rfl) (by decide) ?_
      refine pr_goto (tgt := 141) dX7_doRemove_137 (by decide) ?_
      refine pr_istore dX7_doRemove_141 (by decide) rfl ?_
      refine pr_iload dX7_doRemove_143 rfl ?_
      refine zr_if_le (tgt := 157) dX7_doRemove_145 (by decide) (by first | exact hR _ | omega) (fun c145 => ?_) (fun c145 => ?_)
      · first | rw [if_neg (by omega)] | rw [if_neg (by simp)]
        refine zr_iconst dX7_doRemove_157 ?_
        exact pr_iret dX7_doRemove_158 rfl rfl (zret rfl)
      · rw [if_pos (by omega)]
        refine pr_aload_n dX7_doRemove_148 rfl ?_
        refine pr_iload dX7_doRemove_149 rfl ?_
        refine zcv1i dX7_doRemove_151 pzm_7_139 pzt_X7_refuse (rH_0 hj) (kX7_refuse hj) (by decide) (Nat.le_of_ble_eq_true rfl) (by decide) ?_
        refine pr_pop dX7_doRemove_154 rfl ?_
        refine zr_iconst dX7_doRemove_155 ?_
        exact pr_iret dX7_doRemove_156 rfl rfl (zret rfl)
  have loop : ∀ s' : Int → Int, rB s' → (s 1) ≤ s' 1 → s' 0 = s 0 → rrmF cue ((s 1) : Int).toNat s' = rrmF cue (s 1).toNat s → 0 ≤ rpl s cue → ¬ s (18 + 12 * rpl s cue + 3) = 1 → pz_WP 6 en (pz_Cd en (6 - 1)) 7 cX7_doRemove 5 (some .int) [] false (pz_ret (some (.int (zI (rRX s lv (A 2) F cue hd).1))) (rH h0 a (rRX s lv (A 2) F cue hd).2.1 (rRX s lv (A 2) F cue hd).2.2.1 A (rRX s lv (A 2) F cue hd).2.2.2)) 49 [some (.ref (a 0)), some (.int (zI cue)), some (.int (zI (bI hd))), some (.int (zI (rpl s cue))), some (.int (zI ((s 1) - 1)))] [] (rH h0 a s' (rkl s lv (12 * s 0)) A F) 0 0 := by
    refine zdown (P := fun k => ∀ s' : Int → Int, rB s' → k ≤ s' 1 → s' 0 = s 0 → rrmF cue (k : Int).toNat s' = rrmF cue (s 1).toNat s → 0 ≤ rpl s cue → ¬ s (18 + 12 * rpl s cue + 3) = 1 → pz_WP 6 en (pz_Cd en (6 - 1)) 7 cX7_doRemove 5 (some .int) [] false (pz_ret (some (.int (zI (rRX s lv (A 2) F cue hd).1))) (rH h0 a (rRX s lv (A 2) F cue hd).2.1 (rRX s lv (A 2) F cue hd).2.2.1 A (rRX s lv (A 2) F cue hd).2.2.2)) 49 [some (.ref (a 0)), some (.int (zI cue)), some (.int (zI (bI hd))), some (.int (zI (rpl s cue))), some (.int (zI (k - 1)))] [] (rH h0 a s' (rkl s lv (12 * s 0)) A F) 0 0) (lo := 0) (hi := s 1) hs2 ?_ ?_
    · intro s' hs' g1 g0 ge p1 p2
      have ge2 : s' = rrmF cue (s 1).toNat s := ge
      rw [ge2]
      refine pr_iload dX7_doRemove_49 rfl ?_
      refine zr_if_lt (tgt := 83) dX7_doRemove_51 (by decide) (by first | exact hR _ | omega) (fun c51 => ?_) (fun c51 => by exfalso; omega)
      exact tail p1 p2
    · intro k hk1 hk2 ih s' hs' g1 g0 ge p1 p2
      have hR' := hs'.1
      have hz := hs'.2.2.2
      rw [rrmF_s hk1] at ge
      refine pr_iload dX7_doRemove_49 rfl ?_
      refine zr_if_lt (tgt := 83) dX7_doRemove_51 (by decide) (by first | exact hR _ | omega) (fun c51 => by exfalso; omega) (fun c51 => ?_)
      refine pr_aload_n dX7_doRemove_54 rfl ?_
      refine pr_getf dX7_doRemove_55 pzf_7_9 (rH_0 hj) rfl ?_
      refine zr_sipush dX7_doRemove_58 (by decide) ?_
      refine zr_iconst dX7_doRemove_61 ?_
      refine pr_iload dX7_doRemove_62 rfl ?_
      refine zr_imul dX7_doRemove_64 ?_
      refine zr_iadd dX7_doRemove_65 ?_
      refine zr_iald dX7_doRemove_66 (rH_1 hj) (by omega) (by decide) ?_
      refine pr_iload_n dX7_doRemove_67 rfl ?_
      refine zr_icmp_ne (tgt := 77) dX7_doRemove_68 (by decide) (hR' _) h1 (fun c68 => ?_) (fun c68 => ?_)
      · rw [if_neg c68] at ge
        refine zr_iinc dX7_doRemove_77 rfl (by decide) rfl ?_
        refine pr_goto (tgt := 49) dX7_doRemove_80 (by decide) ?_
        exact ih _ (by assumption) (by omega) (by omega) ge p1 p2
      · rw [if_pos (by omega)] at ge
        refine pr_aload_n dX7_doRemove_71 rfl ?_
        refine pr_iload dX7_doRemove_72 rfl ?_
        refine zcv1u dX7_doRemove_74 pzm_7_148 pzt_X7_takeAway (rH_0 hj) (kX7_takeAway hj hs' (by omega) (by omega)) (by decide) (Nat.le_of_ble_eq_true rfl) (by decide) ?_
        have f1 := rta_1 (s := s') (k := k - 1) (by omega)
        have f0 := rta_0 (s := s') (k := k - 1) (by omega)
        have fb := rta_B hs' (k := k - 1) (by omega) (by omega)
        refine zr_iinc dX7_doRemove_77 rfl (by decide) rfl ?_
        refine pr_goto (tgt := 49) dX7_doRemove_80 (by decide) ?_
        exact ih _ (by assumption) (by omega) (by omega) ge p1 p2
  refine pr_aload_n dX7_doRemove_0 rfl ?_
  refine pr_iload_n dX7_doRemove_1 rfl ?_
  refine zcv1i dX7_doRemove_2 pzm_7_67 pzt_X7_placeOf (rH_0 hj) (kX7_placeOf hj hs (by first | exact hR _ | omega)) (by decide) (Nat.le_of_ble_eq_true rfl) (by decide) ?_
  refine pr_istore_n dX7_doRemove_5 (by decide) rfl ?_
  refine pr_iload_n dX7_doRemove_6 rfl ?_
  refine zr_if_ge (tgt := 12) dX7_doRemove_7 (by decide) (by first | exact hR _ | omega) (fun c7 => ?_) (fun c7 => ?_)
  · 
    refine pr_aload_n dX7_doRemove_12 rfl ?_
    refine pr_getf dX7_doRemove_13 pzf_7_9 (rH_0 hj) rfl ?_
    refine pr_iload_n dX7_doRemove_16 rfl ?_
    refine zcs1i dX7_doRemove_17 pzm_7_63 pzt_X7_at kX7_at (by decide) (Nat.le_of_ble_eq_true rfl) ?_
    refine zr_iconst dX7_doRemove_20 ?_
    refine zr_iadd dX7_doRemove_21 ?_
    refine zr_iald dX7_doRemove_22 (rH_1 hj) (by omega) (by decide) ?_
    refine zr_iconst dX7_doRemove_23 ?_
    refine zr_icmp_ne (tgt := 35) dX7_doRemove_24 (by decide) (by first | exact hR _ | omega) (by first | exact hR _ | omega) (fun c24 => ?_) (fun c24 => ?_)
    · 
      refine pr_aload_n dX7_doRemove_35 rfl ?_
      refine zcv0u dX7_doRemove_36 pzm_7_88 pzt_X7_keepLevels (rH_0 hj) (kX7_keepLevels hj hs) (by decide) (Nat.le_of_ble_eq_true rfl) (by decide) ?_
      refine pr_aload_n dX7_doRemove_39 rfl ?_
      refine pr_getf dX7_doRemove_40 pzf_7_9 (rH_0 hj) rfl ?_
      refine zr_iconst dX7_doRemove_43 ?_
      refine zr_iald dX7_doRemove_44 (rH_1 hj) (by omega) (by decide) ?_
      refine zr_iconst dX7_doRemove_45 ?_
      refine zr_isub dX7_doRemove_46 ?_
      refine pr_istore dX7_doRemove_47 (by decide) rfl ?_
      exact loop s hs (by omega) rfl rfl (by omega) c24
    · unfold rRX
      rw [if_pos (by omega), if_pos (by omega)]
      refine pr_aload_n dX7_doRemove_27 rfl ?_
      refine zr_iconst dX7_doRemove_28 ?_
      refine zcv1i dX7_doRemove_29 pzm_7_139 pzt_X7_refuse (rH_0 hj) (kX7_refuse hj) (by decide) (Nat.le_of_ble_eq_true rfl) (by decide) ?_
      refine pr_pop dX7_doRemove_32 rfl ?_
      refine zr_iconst dX7_doRemove_33 ?_
      exact pr_iret dX7_doRemove_34 rfl rfl (zret rfl)
  · unfold rRX
    rw [if_neg (by omega)]
    refine zr_iconst dX7_doRemove_10 ?_
    exact pr_iret dX7_doRemove_11 rfl rfl (zret rfl)
end ref
