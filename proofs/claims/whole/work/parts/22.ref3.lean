/-! the reference: what it writes -/
def zfil (f : Int → Int) (lo m v : Int) : Int → Int := fun i => if lo ≤ i ∧ i < lo + m then v else f i
theorem zfil_0 (f : Int → Int) (lo v : Int) : zfil f lo 0 v = f := by
  funext i
  unfold zfil
  rw [if_neg (by omega)]
theorem zfil_s (f : Int → Int) (lo v : Int) {m : Int} (h : 0 ≤ m) : zu (zfil f lo m v) (lo + m) v = zfil f lo (m + 1) v := by
  funext i
  unfold zu zfil
  by_cases e : i = lo + m
  · rw [if_pos e, if_pos (by omega)]
  · rw [if_neg e]
    by_cases e2 : lo ≤ i ∧ i < lo + m
    · rw [if_pos e2, if_pos (by omega)]
    · rw [if_neg e2, if_neg (by omega)]
/-- the past rows behind one more -/
def hPs (past bef : Int → Int) (n : Int) : Int → Int := if n = 6 then zcpy bef (zcpy past past 462 0 2310) 0 2310 462 else zcpy bef past 0 (462 * n) 462
def hPn (n : Int) : Int := if n = 6 then 6 else n + 1
def rkl (s lv : Int → Int) (m : Int) : Int → Int := fun i => if 0 ≤ i ∧ i < m then rlv s (i / 12) (i % 12) else lv i
theorem rkl_0 (s lv : Int → Int) : rkl s lv 0 = lv := by
  funext i
  unfold rkl
  rw [if_neg (by omega)]
theorem rkl_s (s lv : Int → Int) {k c : Int} (h1 : 0 ≤ k) (h2 : 0 ≤ c) (h3 : c < 12) : zu (rkl s lv (12 * k + c)) (12 * k + c) (rlv s k c) = rkl s lv (12 * k + (c + 1)) := by
  funext i
  unfold zu rkl
  by_cases e : i = 12 * k + c
  · rw [if_pos e, if_pos (by omega), show i / 12 = k by omega, show i % 12 = c by omega]
  · rw [if_neg e]
    by_cases e2 : 0 ≤ i ∧ i < 12 * k + c
    · rw [if_pos e2, if_pos (by omega)]
    · rw [if_neg e2, if_neg (by omega)]
def rgk (s : Int → Int) (cue ch : Int) : Int := if rgv s cue ch < 0 then s 1 else rgv s cue ch
def rgs (s : Int → Int) (cue ch : Int) : Int → Int := if rgv s cue ch < 0 then zu s 1 (s 1 + 1) else s
def rgi (s : Int → Int) (cue ch lev part : Int) : Int → Int := zu (zu (zu (zu (rgs s cue ch) (162 + 4 * rgk s cue ch) cue) (162 + 4 * rgk s cue ch + 1) ch) (162 + 4 * rgk s cue ch + 2) lev) (162 + 4 * rgk s cue ch + 3) part
def rta (s : Int → Int) (k : Int) : Int → Int := zcpy (zu s 1 (s 1 - 1)) (zu s 1 (s 1 - 1)) (162 + 4 * k + 4) (162 + 4 * k) (4 * (s 1 - 1 - k))
section ref
variable {en : pz_Env} {h0 : pz_H} {a : Nat → Nat} {s lv : Int → Int} {A : Nat → Int → Int} {F : Nat → Int}
set_option maxRecDepth 100000 in
set_option maxHeartbeats 4000000 in
theorem kX7_begin (hj : oj 9 a)  : pz_Cd en 1 170 [.ref (a 0)] (rH h0 a s lv A F) 0 0 (pz_ret (none) (rH h0 a (zfil s 0 462 0) lv A (va_up F 5 0))) := by
  refine pz_in pzt_X7_begin ?_
  have loop : pz_WP 1 en (pz_Cd en (1 - 1)) 7 cX7_begin 2 none [] false (pz_ret (none) (rH h0 a (zfil s 0 462 0) lv A (va_up F 5 0))) 2 [some (.ref (a 0)), some (.int (zI 0))] [] (rH h0 a (zfil s 0 0 0) lv A F) 0 0 := by
    refine zup (P := fun k => pz_WP 1 en (pz_Cd en (1 - 1)) 7 cX7_begin 2 none [] false (pz_ret (none) (rH h0 a (zfil s 0 462 0) lv A (va_up F 5 0))) 2 [some (.ref (a 0)), some (.int (zI k))] [] (rH h0 a (zfil s 0 k 0) lv A F) 0 0) (lo := 0) (hi := 462) (by decide) ?_ ?_
    · skip
      refine pr_iload_n dX7_begin_2 rfl ?_
      refine zr_sipush dX7_begin_3 (by decide) ?_
      refine zr_icmp_ge (tgt := 22) dX7_begin_6 (by decide) (by first | exact hR _ | omega) (by first | exact hR _ | omega) (fun c6 => ?_) (fun c6 => by exfalso; omega)
      refine pr_aload_n dX7_begin_22 rfl ?_
      refine zr_iconst dX7_begin_23 ?_
      refine pr_putf dX7_begin_24 pzf_7_45 (Or.inl rfl) (rH_0 hj) (Nat.le_of_ble_eq_true rfl) rfl rfl (rH_p5 hj) ?_
      exact pr_vret dX7_begin_27 rfl (zretv)
    · intro k hk1 hk2 ih
      rw [← zfil_s s 0 0 hk1, show (0 : Int) + k = k by omega] at ih
      refine pr_iload_n dX7_begin_2 rfl ?_
      refine zr_sipush dX7_begin_3 (by decide) ?_
      refine zr_icmp_ge (tgt := 22) dX7_begin_6 (by decide) (by first | exact hR _ | omega) (by first | exact hR _ | omega) (fun c6 => by exfalso; omega) (fun c6 => ?_)
      refine pr_aload_n dX7_begin_9 rfl ?_
      refine pr_getf dX7_begin_10 pzf_7_9 (rH_0 hj) rfl ?_
      refine pr_iload_n dX7_begin_13 rfl ?_
      refine zr_iconst dX7_begin_14 ?_
      refine zr_iast dX7_begin_15 (rH_1 hj) (by omega) (by decide) (rH_u1 hj) ?_
      refine zr_iinc dX7_begin_16 rfl (by decide) rfl ?_
      refine pr_goto (tgt := 2) dX7_begin_19 (by decide) ?_
      exact ih
  rw [zfil_0] at loop
  refine zr_iconst dX7_begin_0 ?_
  refine pr_istore_n dX7_begin_1 (by decide) rfl ?_
  exact loop
set_option maxRecDepth 100000 in
set_option maxHeartbeats 4000000 in
theorem kX7_keepState (hj : oj 9 a)  : pz_Cd en 1 181 [.ref (a 0)] (rH h0 a s lv A F) 0 0 (pz_ret (none) (rH h0 a s lv (va_up A 2 (zcpy s (A 2) 0 0 462)) F)) := by
  refine pz_in pzt_X7_keepState ?_
  refine pr_aload_n dX7_keepState_0 rfl ?_
  refine pr_getf dX7_keepState_1 pzf_7_9 (rH_0 hj) rfl ?_
  refine zr_iconst dX7_keepState_4 ?_
  refine pr_aload_n dX7_keepState_5 rfl ?_
  refine pr_getf dX7_keepState_6 pzf_7_13 (rH_0 hj) rfl ?_
  refine zr_iconst dX7_keepState_9 ?_
  refine zr_sipush dX7_keepState_10 (by decide) ?_
  refine zr_copy dX7_keepState_13 pzx_7_48 (by decide) (rH_1 hj) (rH_2 hj) (by omega) (by omega) (by omega) (by decide) (Nat.le_of_ble_eq_true rfl) (rH_u2 hj) ?_
  exact pr_vret dX7_keepState_16 rfl (zretv)
set_option maxRecDepth 100000 in
set_option maxHeartbeats 4000000 in
theorem kX7_change (hj : oj 9 a) (h1 : 0 ≤ F 5) (h2 : F 5 ≤ 6) : pz_Cd en 1 192 [.ref (a 0)] (rH h0 a s lv A F) 0 0 (pz_ret (none) (rH h0 a s lv (va_up A 4 (hPs (A 4) (A 2) (F 5))) (va_up F 5 (hPn (F 5))))) := by
  refine pz_in pzt_X7_change ?_
  refine pr_aload_n dX7_change_0 rfl ?_
  refine pr_getf dX7_change_1 pzf_7_45 (rH_0 hj) rfl ?_
  refine zr_bipush dX7_change_4 (by decide) ?_
  refine zr_icmp_ne (tgt := 37) dX7_change_6 (by decide) (by first | exact hR _ | omega) (by first | exact hR _ | omega) (fun c6 => ?_) (fun c6 => ?_)
  · have c6b : True := trivial
    refine pr_aload_n dX7_change_37 rfl ?_
    refine pr_getf dX7_change_38 pzf_7_13 (rH_0 hj) rfl ?_
    refine zr_iconst dX7_change_41 ?_
    refine pr_aload_n dX7_change_42 rfl ?_
    refine pr_getf dX7_change_43 pzf_7_19 (rH_0 hj) rfl ?_
    refine zr_sipush dX7_change_46 (by decide) ?_
    refine pr_aload_n dX7_change_49 rfl ?_
    refine pr_getf dX7_change_50 pzf_7_45 (rH_0 hj) rfl ?_
    refine zr_imul dX7_change_53 ?_
    refine zr_sipush dX7_change_54 (by decide) ?_
    first | rw [vu_self] | skip
    refine zr_copy dX7_change_57 pzx_7_48 (by decide) (rH_2 hj) (rH_4 hj) (by omega) (by decide) (by omega) (by decide) (Nat.le_of_ble_eq_true rfl) (rH_u4 hj) ?_
    refine pr_aload_n dX7_change_60 rfl ?_
    refine pr_dup dX7_change_61 rfl ?_
    refine pr_getf dX7_change_62 pzf_7_45 (rH_0 hj) rfl ?_
    refine zr_iconst dX7_change_65 ?_
    refine zr_iadd dX7_change_66 ?_
    refine pr_putf dX7_change_67 pzf_7_45 (Or.inl rfl) (rH_0 hj) (Nat.le_of_ble_eq_true rfl) rfl rfl (rH_p5 hj) ?_
    exact pr_vret dX7_change_70 rfl (zretv (by unfold hPs hPn; first | (rw [if_neg c6, if_neg c6]; done) | (rw [if_pos c6, if_pos c6]; simp only [vu_self, vu_up, c6]; rfl)))
  · have c6b : True := trivial
    refine pr_aload_n dX7_change_9 rfl ?_
    refine pr_getf dX7_change_10 pzf_7_19 (rH_0 hj) rfl ?_
    refine zr_sipush dX7_change_13 (by decide) ?_
    refine pr_aload_n dX7_change_16 rfl ?_
    refine pr_getf dX7_change_17 pzf_7_19 (rH_0 hj) rfl ?_
    refine zr_iconst dX7_change_20 ?_
    refine zr_sipush dX7_change_21 (by decide) ?_
    refine zr_copy dX7_change_24 pzx_7_48 (by decide) (rH_4 hj) (rH_4 hj) (by omega) (by omega) (by omega) (by decide) (Nat.le_of_ble_eq_true rfl) (rH_u4 hj) ?_
    refine pr_aload_n dX7_change_27 rfl ?_
    refine pr_dup dX7_change_28 rfl ?_
    refine pr_getf dX7_change_29 pzf_7_45 (rH_0 hj) rfl ?_
    refine zr_iconst dX7_change_32 ?_
    refine zr_isub dX7_change_33 ?_
    refine pr_putf dX7_change_34 pzf_7_45 (Or.inl rfl) (rH_0 hj) (Nat.le_of_ble_eq_true rfl) rfl rfl (rH_p5 hj) ?_
    refine pr_aload_n dX7_change_37 rfl ?_
    refine pr_getf dX7_change_38 pzf_7_13 (rH_0 hj) rfl ?_
    refine zr_iconst dX7_change_41 ?_
    refine pr_aload_n dX7_change_42 rfl ?_
    refine pr_getf dX7_change_43 pzf_7_19 (rH_0 hj) rfl ?_
    refine zr_sipush dX7_change_46 (by decide) ?_
    refine pr_aload_n dX7_change_49 rfl ?_
    refine pr_getf dX7_change_50 pzf_7_45 (rH_0 hj) rfl ?_
    refine zr_imul dX7_change_53 ?_
    refine zr_sipush dX7_change_54 (by decide) ?_
    first | rw [vu_self] | skip
    refine zr_copy dX7_change_57 pzx_7_48 (by decide) (rH_2 hj) (rH_4 hj) (by omega) (by decide) (by omega) (by decide) (Nat.le_of_ble_eq_true rfl) (rH_u4 hj) ?_
    refine pr_aload_n dX7_change_60 rfl ?_
    refine pr_dup dX7_change_61 rfl ?_
    refine pr_getf dX7_change_62 pzf_7_45 (rH_0 hj) rfl ?_
    refine zr_iconst dX7_change_65 ?_
    refine zr_iadd dX7_change_66 ?_
    refine pr_putf dX7_change_67 pzf_7_45 (Or.inl rfl) (rH_0 hj) (Nat.le_of_ble_eq_true rfl) rfl rfl (rH_p5 hj) ?_
    exact pr_vret dX7_change_70 rfl (zretv (by unfold hPs hPn; first | (rw [if_neg c6, if_neg c6]; done) | (rw [if_pos c6, if_pos c6]; simp only [vu_self, vu_up, c6]; rfl)))
set_option maxRecDepth 100000 in
set_option maxHeartbeats 4000000 in
theorem kX7_changes (hj : oj 9 a) (h1 : 0 ≤ F 5) (h2 : F 5 ≤ 6) : pz_Cd en 2 203 [.ref (a 0)] (rH h0 a s lv A F) 0 0 (pz_ret (none) (rH h0 a s lv (va_up (va_up A 2 (zcpy s (A 2) 0 0 462)) 4 (hPs (A 4) (zcpy s (A 2) 0 0 462) (F 5))) (va_up F 5 (hPn (F 5))))) := by
  refine pz_in pzt_X7_changes ?_
  refine pr_aload_n dX7_changes_0 rfl ?_
  refine zcv0u dX7_changes_1 pzm_7_54 pzt_X7_keepState (rH_0 hj) (kX7_keepState hj) (by decide) (Nat.le_of_ble_eq_true rfl) (by decide) ?_
  refine pr_aload_n dX7_changes_4 rfl ?_
  refine zcv0u dX7_changes_5 pzm_7_57 pzt_X7_change (rH_0 hj) (kX7_change hj h1 h2) (by decide) (Nat.le_of_ble_eq_true rfl) (by decide) ?_
  exact pr_vret dX7_changes_8 rfl (zretv)
set_option maxRecDepth 100000 in
set_option maxHeartbeats 4000000 in
theorem kX7_refuse (hj : oj 9 a) {why : Int} : pz_Cd en 1 214 [.ref (a 0), .int (zI why)] (rH h0 a s lv A F) 0 0 (pz_ret (some (.int (zI why))) (rH h0 a (zcpy (A 2) s 0 0 462) lv A (va_up F 6 why))) := by
  refine pz_in pzt_X7_refuse ?_
  refine pr_aload_n dX7_refuse_0 rfl ?_
  refine pr_iload_n dX7_refuse_1 rfl ?_
  refine pr_putf dX7_refuse_2 pzf_7_60 (Or.inl rfl) (rH_0 hj) (Nat.le_of_ble_eq_true rfl) rfl rfl (rH_p6 hj) ?_
  refine pr_aload_n dX7_refuse_5 rfl ?_
  refine pr_getf dX7_refuse_6 pzf_7_13 (rH_0 hj) rfl ?_
  refine zr_iconst dX7_refuse_9 ?_
  refine pr_aload_n dX7_refuse_10 rfl ?_
  refine pr_getf dX7_refuse_11 pzf_7_9 (rH_0 hj) rfl ?_
  refine zr_iconst dX7_refuse_14 ?_
  refine zr_sipush dX7_refuse_15 (by decide) ?_
  refine zr_copy dX7_refuse_18 pzx_7_48 (by decide) (rH_2 hj) (rH_1 hj) (by omega) (by omega) (by omega) (by decide) (Nat.le_of_ble_eq_true rfl) (rH_u1 hj) ?_
  refine pr_iload_n dX7_refuse_21 rfl ?_
  exact pr_iret dX7_refuse_22 rfl rfl (zret (by rfl))
set_option maxRecDepth 100000 in
set_option maxHeartbeats 4000000 in
theorem kX7_keepLevels (hj : oj 9 a) (hs : rB s)  : pz_Cd en 4 138 [.ref (a 0)] (rH h0 a s lv A F) 0 0 (pz_ret (none) (rH h0 a s (rkl s lv (12 * s 0)) A F)) := by
  refine pz_in pzt_X7_keepLevels ?_
  obtain ⟨hR, hs0, hs1, hs2, hs3⟩ := id hs
  have loop : ∀ t : Option Value, pz_WP 4 en (pz_Cd en (4 - 1)) 7 cX7_keepLevels 3 none [] false (pz_ret (none) (rH h0 a s (rkl s lv (12 * s 0)) A F)) 2 [some (.ref (a 0)), some (.int (zI 0)), t] [] (rH h0 a s (rkl s lv (12 * 0)) A F) 0 0 := by
    refine zup (P := fun k => ∀ t : Option Value, pz_WP 4 en (pz_Cd en (4 - 1)) 7 cX7_keepLevels 3 none [] false (pz_ret (none) (rH h0 a s (rkl s lv (12 * s 0)) A F)) 2 [some (.ref (a 0)), some (.int (zI k)), t] [] (rH h0 a s (rkl s lv (12 * k)) A F) 0 0) (lo := 0) (hi := s 0) hs0 ?_ ?_
    · intro t
      refine pr_iload_n dX7_keepLevels_2 rfl ?_
      refine pr_aload_n dX7_keepLevels_3 rfl ?_
      refine pr_getf dX7_keepLevels_4 pzf_7_9 (rH_0 hj) rfl ?_
      refine zr_iconst dX7_keepLevels_7 ?_
      refine zr_iald dX7_keepLevels_8 (rH_1 hj) (by omega) (by decide) ?_
      refine zr_icmp_ge (tgt := 49) dX7_keepLevels_9 (by decide) (by first | exact hR _ | omega) (by first | exact hR _ | omega) (fun c9 => ?_) (fun c9 => by exfalso; omega)
      exact pr_vret dX7_keepLevels_49 rfl (zretv)
    · intro k hk1 hk2 ih t
      have inner : pz_WP 4 en (pz_Cd en (4 - 1)) 7 cX7_keepLevels 3 none [] false (pz_ret (none) (rH h0 a s (rkl s lv (12 * s 0)) A F)) 14 [some (.ref (a 0)), some (.int (zI k)), some (.int (zI 0))] [] (rH h0 a s (rkl s lv (12 * k + 0)) A F) 0 0 := by
        refine zup (P := fun c => pz_WP 4 en (pz_Cd en (4 - 1)) 7 cX7_keepLevels 3 none [] false (pz_ret (none) (rH h0 a s (rkl s lv (12 * s 0)) A F)) 14 [some (.ref (a 0)), some (.int (zI k)), some (.int (zI c))] [] (rH h0 a s (rkl s lv (12 * k + c)) A F) 0 0) (lo := 0) (hi := 12) (by decide) ?_ ?_
        · rw [show 12 * k + 12 = 12 * (k + 1) by omega]
          refine pr_iload_n dX7_keepLevels_14 rfl ?_
          refine zr_bipush dX7_keepLevels_15 (by decide) ?_
          refine zr_icmp_ge (tgt := 43) dX7_keepLevels_17 (by decide) (by first | exact hR _ | omega) (by first | exact hR _ | omega) (fun c17 => ?_) (fun c17 => by exfalso; omega)
          refine zr_iinc dX7_keepLevels_43 rfl (by decide) rfl ?_
          refine pr_goto (tgt := 2) dX7_keepLevels_46 (by decide) ?_
          exact ih _
        · intro c hc1 hc2 ihc
          rw [← rkl_s s lv hk1 hc1 hc2] at ihc
          refine pr_iload_n dX7_keepLevels_14 rfl ?_
          refine zr_bipush dX7_keepLevels_15 (by decide) ?_
          refine zr_icmp_ge (tgt := 43) dX7_keepLevels_17 (by decide) (by first | exact hR _ | omega) (by first | exact hR _ | omega) (fun c17 => by exfalso; omega) (fun c17 => ?_)
          refine pr_aload_n dX7_keepLevels_20 rfl ?_
          refine pr_getf dX7_keepLevels_21 pzf_7_22 (rH_0 hj) rfl ?_
          refine zr_bipush dX7_keepLevels_24 (by decide) ?_
          refine pr_iload_n dX7_keepLevels_26 rfl ?_
          refine zr_imul dX7_keepLevels_27 ?_
          refine pr_iload_n dX7_keepLevels_28 rfl ?_
          refine zr_iadd dX7_keepLevels_29 ?_
          refine pr_aload_n dX7_keepLevels_30 rfl ?_
          refine pr_iload_n dX7_keepLevels_31 rfl ?_
          refine pr_iload_n dX7_keepLevels_32 rfl ?_
          refine zcv2i dX7_keepLevels_33 pzm_7_84 pzt_X7_levelIn (rH_0 hj) (kX7_levelIn hj hs (by omega) (by omega) (by omega) (by omega)) (by decide) (Nat.le_of_ble_eq_true rfl) (by decide) ?_
          refine zr_iast dX7_keepLevels_36 (rH_5 hj) (by omega) (by decide) (rH_u5 hj) ?_
          refine zr_iinc dX7_keepLevels_37 rfl (by decide) rfl ?_
          refine pr_goto (tgt := 14) dX7_keepLevels_40 (by decide) ?_
          exact ihc
      rw [show 12 * k + 0 = 12 * k by omega] at inner
      refine pr_iload_n dX7_keepLevels_2 rfl ?_
      refine pr_aload_n dX7_keepLevels_3 rfl ?_
      refine pr_getf dX7_keepLevels_4 pzf_7_9 (rH_0 hj) rfl ?_
      refine zr_iconst dX7_keepLevels_7 ?_
      refine zr_iald dX7_keepLevels_8 (rH_1 hj) (by omega) (by decide) ?_
      refine zr_icmp_ge (tgt := 49) dX7_keepLevels_9 (by decide) (by first | exact hR _ | omega) (by first | exact hR _ | omega) (fun c9 => by exfalso; omega) (fun c9 => ?_)
      refine zr_iconst dX7_keepLevels_12 ?_
      refine pr_istore_n dX7_keepLevels_13 (by decide) rfl ?_
      exact inner
  rw [show 12 * (0 : Int) = 0 by omega, rkl_0] at loop
  refine zr_iconst dX7_keepLevels_0 ?_
  refine pr_istore_n dX7_keepLevels_1 (by decide) rfl ?_
  exact loop _
set_option maxRecDepth 100000 in
set_option maxHeartbeats 4000000 in
theorem kX7_give (hj : oj 9 a) (hs : rB s) {cue ch lev part : Int} (h1 : zR cue) (h2 : zR ch) (h3 : 0 ≤ rgv s cue ch ∨ s 1 < 60) : pz_Cd en 2 145 [.ref (a 0), .int (zI cue), .int (zI ch), .int (zI lev), .int (zI part)] (rH h0 a s lv A F) 0 0 (pz_ret (none) (rH h0 a (rgi s cue ch lev part) lv A F)) := by
  refine pz_in pzt_X7_give ?_
  obtain ⟨hR, hs0, hs1, hs2, hs3⟩ := id hs
  have hg := rgv_R hs cue ch
  refine pr_aload_n dX7_give_0 rfl ?_
  refine pr_iload_n dX7_give_1 rfl ?_
  refine pr_iload_n dX7_give_2 rfl ?_
  refine zcv2i dX7_give_3 pzm_7_98 pzt_X7_given (rH_0 hj) (kX7_given hj hs h1 h2) (by decide) (Nat.le_of_ble_eq_true rfl) (by decide) ?_
  refine pr_istore dX7_give_6 (by decide) rfl ?_
  refine pr_iload dX7_give_8 rfl ?_
  refine zr_if_ge (tgt := 31) dX7_give_10 (by decide) (by first | exact hR _ | omega) (fun c10 => ?_) (fun c10 => ?_)
  · have e1 : rgk s cue ch = rgv s cue ch := if_neg (by omega)
    have e2 : rgs s cue ch = s := if_neg (by omega)
    refine zr_sipush dX7_give_31 (by decide) ?_
    refine zr_iconst dX7_give_34 ?_
    refine pr_iload dX7_give_35 rfl ?_
    refine zr_imul dX7_give_37 ?_
    refine zr_iadd dX7_give_38 ?_
    refine pr_istore dX7_give_39 (by decide) rfl ?_
    refine pr_aload_n dX7_give_41 rfl ?_
    refine pr_getf dX7_give_42 pzf_7_9 (rH_0 hj) rfl ?_
    refine pr_iload dX7_give_45 rfl ?_
    refine pr_iload_n dX7_give_47 rfl ?_
    refine zr_iast dX7_give_48 (rH_1 hj) (by omega) (by decide) (rH_u1 hj) ?_
    refine pr_aload_n dX7_give_49 rfl ?_
    refine pr_getf dX7_give_50 pzf_7_9 (rH_0 hj) rfl ?_
    refine pr_iload dX7_give_53 rfl ?_
    refine zr_iconst dX7_give_55 ?_
    refine zr_iadd dX7_give_56 ?_
    refine pr_iload_n dX7_give_57 rfl ?_
    refine zr_iast dX7_give_58 (rH_1 hj) (by omega) (by decide) (rH_u1 hj) ?_
    refine pr_aload_n dX7_give_59 rfl ?_
    refine pr_getf dX7_give_60 pzf_7_9 (rH_0 hj) rfl ?_
    refine pr_iload dX7_give_63 rfl ?_
    refine zr_iconst dX7_give_65 ?_
    refine zr_iadd dX7_give_66 ?_
    refine pr_iload_n dX7_give_67 rfl ?_
    refine zr_iast dX7_give_68 (rH_1 hj) (by omega) (by decide) (rH_u1 hj) ?_
    refine pr_aload_n dX7_give_69 rfl ?_
    refine pr_getf dX7_give_70 pzf_7_9 (rH_0 hj) rfl ?_
    refine pr_iload dX7_give_73 rfl ?_
    refine zr_iconst dX7_give_75 ?_
    refine zr_iadd dX7_give_76 ?_
    refine pr_iload dX7_give_77 rfl ?_
    refine zr_iast dX7_give_79 (rH_1 hj) (by omega) (by decide) (rH_u1 hj) ?_
    exact pr_vret dX7_give_80 rfl (zretv (by unfold rgi; rw [e1, e2]))
  · have e1 : rgk s cue ch = s 1 := if_pos (by omega)
    have e2 : rgs s cue ch = zu s 1 (s 1 + 1) := if_pos (by omega)
    refine pr_aload_n dX7_give_13 rfl ?_
    refine pr_getf dX7_give_14 pzf_7_9 (rH_0 hj) rfl ?_
    refine zr_iconst dX7_give_17 ?_
    refine zr_iald dX7_give_18 (rH_1 hj) (by omega) (by decide) ?_
    refine pr_istore dX7_give_19 (by decide) rfl ?_
    refine pr_aload_n dX7_give_21 rfl ?_
    refine pr_getf dX7_give_22 pzf_7_9 (rH_0 hj) rfl ?_
    refine zr_iconst dX7_give_25 ?_
    refine pr_dup2 dX7_give_26 rfl rfl ?_
    refine zr_iald dX7_give_27 (rH_1 hj) (by omega) (by decide) ?_
    refine zr_iconst dX7_give_28 ?_
    refine zr_iadd dX7_give_29 ?_
    refine zr_iast dX7_give_30 (rH_1 hj) (by omega) (by decide) (rH_u1 hj) ?_
    refine zr_sipush dX7_give_31 (by decide) ?_
    refine zr_iconst dX7_give_34 ?_
    refine pr_iload dX7_give_35 rfl ?_
    refine zr_imul dX7_give_37 ?_
    refine zr_iadd dX7_give_38 ?_
    refine pr_istore dX7_give_39 (by decide) rfl ?_
    refine pr_aload_n dX7_give_41 rfl ?_
    refine pr_getf dX7_give_42 pzf_7_9 (rH_0 hj) rfl ?_
    refine pr_iload dX7_give_45 rfl ?_
    refine pr_iload_n dX7_give_47 rfl ?_
    refine zr_iast dX7_give_48 (rH_1 hj) (by omega) (by decide) (rH_u1 hj) ?_
    refine pr_aload_n dX7_give_49 rfl ?_
    refine pr_getf dX7_give_50 pzf_7_9 (rH_0 hj) rfl ?_
    refine pr_iload dX7_give_53 rfl ?_
    refine zr_iconst dX7_give_55 ?_
    refine zr_iadd dX7_give_56 ?_
    refine pr_iload_n dX7_give_57 rfl ?_
    refine zr_iast dX7_give_58 (rH_1 hj) (by omega) (by decide) (rH_u1 hj) ?_
    refine pr_aload_n dX7_give_59 rfl ?_
    refine pr_getf dX7_give_60 pzf_7_9 (rH_0 hj) rfl ?_
    refine pr_iload dX7_give_63 rfl ?_
    refine zr_iconst dX7_give_65 ?_
    refine zr_iadd dX7_give_66 ?_
    refine pr_iload_n dX7_give_67 rfl ?_
    refine zr_iast dX7_give_68 (rH_1 hj) (by omega) (by decide) (rH_u1 hj) ?_
    refine pr_aload_n dX7_give_69 rfl ?_
    refine pr_getf dX7_give_70 pzf_7_9 (rH_0 hj) rfl ?_
    refine pr_iload dX7_give_73 rfl ?_
    refine zr_iconst dX7_give_75 ?_
    refine zr_iadd dX7_give_76 ?_
    refine pr_iload dX7_give_77 rfl ?_
    refine zr_iast dX7_give_79 (rH_1 hj) (by omega) (by decide) (rH_u1 hj) ?_
    exact pr_vret dX7_give_80 rfl (zretv (by unfold rgi; rw [e1, e2]))
set_option maxRecDepth 100000 in
set_option maxHeartbeats 4000000 in
theorem kX7_takeAway (hj : oj 9 a) (hs : rB s) {k : Int} (h1 : 0 ≤ k) (h2 : k < s 1) : pz_Cd en 1 146 [.ref (a 0), .int (zI k)] (rH h0 a s lv A F) 0 0 (pz_ret (none) (rH h0 a (rta s k) lv A F)) := by
  refine pz_in pzt_X7_takeAway ?_
  obtain ⟨hR, hs0, hs1, hs2, hs3⟩ := id hs
  have e1 : zu s 1 (s 1 - 1) 1 = s 1 - 1 := zu_at _ _ _
  refine pr_aload_n dX7_takeAway_0 rfl ?_
  refine pr_getf dX7_takeAway_1 pzf_7_9 (rH_0 hj) rfl ?_
  refine zr_iconst dX7_takeAway_4 ?_
  refine pr_dup2 dX7_takeAway_5 rfl rfl ?_
  refine zr_iald dX7_takeAway_6 (rH_1 hj) (by omega) (by decide) ?_
  refine zr_iconst dX7_takeAway_7 ?_
  refine zr_isub dX7_takeAway_8 ?_
  refine zr_iast dX7_takeAway_9 (rH_1 hj) (by omega) (by decide) (rH_u1 hj) ?_
  refine pr_aload_n dX7_takeAway_10 rfl ?_
  refine pr_getf dX7_takeAway_11 pzf_7_9 (rH_0 hj) rfl ?_
  refine zr_sipush dX7_takeAway_14 (by decide) ?_
  refine zr_iconst dX7_takeAway_17 ?_
  refine pr_iload_n dX7_takeAway_18 rfl ?_
  refine zr_imul dX7_takeAway_19 ?_
  refine zr_iadd dX7_takeAway_20 ?_
  refine zr_iconst dX7_takeAway_21 ?_
  refine zr_iadd dX7_takeAway_22 ?_
  refine pr_aload_n dX7_takeAway_23 rfl ?_
  refine pr_getf dX7_takeAway_24 pzf_7_9 (rH_0 hj) rfl ?_
  refine zr_sipush dX7_takeAway_27 (by decide) ?_
  refine zr_iconst dX7_takeAway_30 ?_
  refine pr_iload_n dX7_takeAway_31 rfl ?_
  refine zr_imul dX7_takeAway_32 ?_
  refine zr_iadd dX7_takeAway_33 ?_
  refine zr_iconst dX7_takeAway_34 ?_
  refine pr_aload_n dX7_takeAway_35 rfl ?_
  refine pr_getf dX7_takeAway_36 pzf_7_9 (rH_0 hj) rfl ?_
  refine zr_iconst dX7_takeAway_39 ?_
  refine zr_iald dX7_takeAway_40 (rH_1 hj) (by omega) (by decide) ?_
  refine pr_iload_n dX7_takeAway_41 rfl ?_
  refine zr_isub dX7_takeAway_42 ?_
  refine zr_imul dX7_takeAway_43 ?_
  refine zr_copy dX7_takeAway_44 pzx_7_48 (by decide) (rH_1 hj) (rH_1 hj) (by omega) (by omega) (by omega) (by decide) (Nat.le_of_ble_eq_true rfl) (rH_u1 hj) ?_
  exact pr_vret dX7_takeAway_47 rfl (zretv (by unfold rta; rw [e1]))
end ref
