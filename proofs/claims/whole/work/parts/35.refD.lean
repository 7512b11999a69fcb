/-! the reference: entries are done -/
def rEx (K N b : Int → Int) : Nat → Int → (Int → Int) → (Int → Int) → (Nat → Int) → (Int → Int) × (Int → Int) × (Nat → Int)
  | 0, _, s, lv, F => (s, lv, F)
  | n + 1, k, s, lv, F => if (rFl s lv b F (K k) (N (3 * k)) (N (3 * k + 1)) (N (3 * k + 2))).1 = 0 then rEx K N b n (k + 1) (rFl s lv b F (K k) (N (3 * k)) (N (3 * k + 1)) (N (3 * k + 2))).2.1 (rFl s lv b F (K k) (N (3 * k)) (N (3 * k + 1)) (N (3 * k + 2))).2.2.1 (rFl s lv b F (K k) (N (3 * k)) (N (3 * k + 1)) (N (3 * k + 2))).2.2.2 else (zcpy b (rFl s lv b F (K k) (N (3 * k)) (N (3 * k + 1)) (N (3 * k + 2))).2.1 0 0 462, (rFl s lv b F (K k) (N (3 * k)) (N (3 * k + 1)) (N (3 * k + 2))).2.2.1, va_up (rFl s lv b F (K k) (N (3 * k)) (N (3 * k + 1)) (N (3 * k + 2))).2.2.2 7 2)
theorem rEx_s {K N b : Int → Int} {e k : Int} {s lv : Int → Int} {F : Nat → Int} (h : k < e) : rEx K N b (e - k).toNat k s lv F = if (rFl s lv b F (K k) (N (3 * k)) (N (3 * k + 1)) (N (3 * k + 2))).1 = 0 then rEx K N b (e - (k + 1)).toNat (k + 1) (rFl s lv b F (K k) (N (3 * k)) (N (3 * k + 1)) (N (3 * k + 2))).2.1 (rFl s lv b F (K k) (N (3 * k)) (N (3 * k + 1)) (N (3 * k + 2))).2.2.1 (rFl s lv b F (K k) (N (3 * k)) (N (3 * k + 1)) (N (3 * k + 2))).2.2.2 else (zcpy b (rFl s lv b F (K k) (N (3 * k)) (N (3 * k + 1)) (N (3 * k + 2))).2.1 0 0 462, (rFl s lv b F (K k) (N (3 * k)) (N (3 * k + 1)) (N (3 * k + 2))).2.2.1, va_up (rFl s lv b F (K k) (N (3 * k)) (N (3 * k + 1)) (N (3 * k + 2))).2.2.2 7 2) := by
  rw [show (e - k).toNat = (e - (k + 1)).toNat + 1 by omega]
  rfl
section ref
variable {en : pz_Env} {h0 : pz_H} {a : Nat → Nat} {s lv : Int → Int} {A : Nat → Int → Int} {F : Nat → Int}
set_option maxRecDepth 100000 in
set_option maxHeartbeats 4000000 in
theorem exec_loop (hj : oj 9 a) {e : Int} {Q : pz_Q} (e0 : 0 ≤ e) (e1 : e ≤ 60) (hK : ∀ j : Int, 0 ≤ j → j < e → pKo (A 7 j)) (hN : ∀ i, 0 ≤ A 8 i ∧ A 8 i < 10000) (hb : ∀ i, zR (A 2 i)) : ∀ (s lv : Int → Int) (F : Nat → Int), rI s → (∀ i, zR (lv i)) → F 7 = 0 → F 16 = e → (∀ t : Option Value, pz_WP 9 en (pz_Cd en (9 - 1)) 7 cX7_read 2 (some .int) [] false Q 143 [some (.ref (a 0)), t] [] (rH h0 a (rEx (A 7) (A 8) (A 2) (e - (0 : Int)).toNat (0 : Int) s lv F).1 (rEx (A 7) (A 8) (A 2) (e - (0 : Int)).toNat (0 : Int) s lv F).2.1 A (rEx (A 7) (A 8) (A 2) (e - (0 : Int)).toNat (0 : Int) s lv F).2.2) 0 0) → pz_WP 9 en (pz_Cd en (9 - 1)) 7 cX7_read 2 (some .int) [] false Q 93 [some (.ref (a 0)), some (.int (zI (0 : Int)))] [] (rH h0 a s lv A F) 0 0 := by
  refine zup (P := fun k => ∀ (s lv : Int → Int) (F : Nat → Int), rI s → (∀ i, zR (lv i)) → F 7 = 0 → F 16 = e → (∀ t : Option Value, pz_WP 9 en (pz_Cd en (9 - 1)) 7 cX7_read 2 (some .int) [] false Q 143 [some (.ref (a 0)), t] [] (rH h0 a (rEx (A 7) (A 8) (A 2) (e - k).toNat k s lv F).1 (rEx (A 7) (A 8) (A 2) (e - k).toNat k s lv F).2.1 A (rEx (A 7) (A 8) (A 2) (e - k).toNat k s lv F).2.2) 0 0) → pz_WP 9 en (pz_Cd en (9 - 1)) 7 cX7_read 2 (some .int) [] false Q 93 [some (.ref (a 0)), some (.int (zI k))] [] (rH h0 a s lv A F) 0 0) (lo := 0) (hi := e) e0 ?_ ?_
  · intro s lv F hi hL h7 h16 hT
    rw [show (e - e).toNat = 0 by omega] at hT
    refine pr_iload_n dX7_read_93 rfl ?_
    refine pr_aload_n dX7_read_94 rfl ?_
    refine pr_getf dX7_read_95 pzf_7_228 (rH_0 hj) rfl ?_
    refine zr_icmp_ge (tgt := 143) dX7_read_98 (by decide) (by first | exact hR _ | omega) (by first | exact hR _ | omega) (fun c98 => ?_) (fun c98 => by exfalso; omega)
    exact hT _
  · intro k hk1 hk2 ih s lv F hi hL h7 h16 hT
    rw [rEx_s hk2] at hT
    have n0 := hN (3 * k)
    have n1 := hN (3 * k + 1)
    have n2 := hN (3 * k + 2)
    have ok := rFl_ok (F := F) (k := A 7 k) hi hL hb n0.1 n0.2 (show zR (A 8 (3 * k + 1)) by omega) n2.1 n2.2
    have k7 : (rFl s lv (A 2) F (A 7 k) (A 8 (3 * k)) (A 8 (3 * k + 1)) (A 8 (3 * k + 2))).2.2.2 7 = 0 := (ok.2.2.2.2 7 (by decide)).trans h7
    have k16 : (rFl s lv (A 2) F (A 7 k) (A 8 (3 * k)) (A 8 (3 * k + 1)) (A 8 (3 * k + 2))).2.2.2 16 = e := (ok.2.2.2.2 16 (by decide)).trans h16
    have bad : ¬ (rFl s lv (A 2) F (A 7 k) (A 8 (3 * k)) (A 8 (3 * k + 1)) (A 8 (3 * k + 2))).1 = 0 → pz_WP 9 en (pz_Cd en (9 - 1)) 7 cX7_read 2 (some .int) [] false Q 93 [some (.ref (a 0)), some (.int (zI (k + 1)))] [] (rH h0 a (zcpy (A 2) (rFl s lv (A 2) F (A 7 k) (A 8 (3 * k)) (A 8 (3 * k + 1)) (A 8 (3 * k + 2))).2.1 0 0 462) (rFl s lv (A 2) F (A 7 k) (A 8 (3 * k)) (A 8 (3 * k + 1)) (A 8 (3 * k + 2))).2.2.1 A (va_up (rFl s lv (A 2) F (A 7 k) (A 8 (3 * k)) (A 8 (3 * k + 1)) (A 8 (3 * k + 2))).2.2.2 7 2)) 0 0 := by
      intro hz
      rw [if_neg hz] at hT
      have q7 : va_up (rFl s lv (A 2) F (A 7 k) (A 8 (3 * k)) (A 8 (3 * k + 1)) (A 8 (3 * k + 2))).2.2.2 7 2 7 = 2 := rfl
      have q16 : va_up (rFl s lv (A 2) F (A 7 k) (A 8 (3 * k)) (A 8 (3 * k + 1)) (A 8 (3 * k + 2))).2.2.2 7 2 16 = e := k16
      refine pr_iload_n dX7_read_93 rfl ?_
      refine pr_aload_n dX7_read_94 rfl ?_
      refine pr_getf dX7_read_95 pzf_7_228 (rH_0 hj) rfl ?_
      refine zr_icmp_ge (tgt := 143) dX7_read_98 (by decide) (by omega) (by rw [q16]; omega) (fun c98 => ?_) (fun c98 => ?_)
      · exact hT _
      · refine pr_aload_n dX7_read_101 rfl ?_
        refine pr_getf dX7_read_102 pzf_7_42 (rH_0 hj) rfl ?_
        refine zr_if_ne (tgt := 143) dX7_read_105 (by decide) (by rw [q7]; decide) (fun c105 => ?_) (fun c105 => by rw [q7] at c105; exact absurd c105 (by decide))
        exact hT _
    have hok := ok.2.2.1
    refine pr_iload_n dX7_read_93 rfl ?_
    refine pr_aload_n dX7_read_94 rfl ?_
    refine pr_getf dX7_read_95 pzf_7_228 (rH_0 hj) rfl ?_
    refine zr_icmp_ge (tgt := 143) dX7_read_98 (by decide) (by first | exact hR _ | omega) (by first | exact hR _ | omega) (fun c98 => by exfalso; omega) (fun c98 => ?_)
    refine pr_aload_n dX7_read_101 rfl ?_
    refine pr_getf dX7_read_102 pzf_7_42 (rH_0 hj) rfl ?_
    refine zr_if_ne (tgt := 143) dX7_read_105 (by decide) (by omega) (fun c105 => by exfalso; omega) (fun c105 => ?_)
    refine pr_aload_n dX7_read_108 rfl ?_
    refine pr_iload_n dX7_read_109 rfl ?_
    refine zcv1i dX7_read_110 pzm_7_248 pzt_X7_fails (rH_0 hj) (kX7_fails hj hi hL hk1 (by omega) hN (hK k hk1 hk2)) (by decide) (Nat.le_of_ble_eq_true rfl) (by decide) ?_
    refine zr_if_eq (tgt := 137) dX7_read_113 (by decide) (by omega) (fun c113 => ?_) (fun c113 => ?_)
    · rw [if_pos c113] at hT
      refine zr_iinc dX7_read_137 rfl (by decide) rfl ?_
      refine pr_goto (tgt := 93) dX7_read_140 (by decide) ?_
      first | exact bad c113 | exact ih _ _ _ (ok.2.2.2.1 c113) ok.2.1 k7 k16 hT
    · 
      refine pr_aload_n dX7_read_116 rfl ?_
      refine zr_iconst dX7_read_117 ?_
      refine pr_putf dX7_read_118 pzf_7_42 (Or.inl rfl) (rH_0 hj) (Nat.le_of_ble_eq_true rfl) rfl rfl (rH_p7 hj) ?_
      refine pr_aload_n dX7_read_121 rfl ?_
      refine pr_getf dX7_read_122 pzf_7_13 (rH_0 hj) rfl ?_
      refine zr_iconst dX7_read_125 ?_
      refine pr_aload_n dX7_read_126 rfl ?_
      refine pr_getf dX7_read_127 pzf_7_9 (rH_0 hj) rfl ?_
      refine zr_iconst dX7_read_130 ?_
      refine zr_sipush dX7_read_131 (by decide) ?_
      refine zr_copy dX7_read_134 pzx_7_48 (by decide) (rH_2 hj) (rH_1 hj) (by omega) (by omega) (by omega) (by decide) (Nat.le_of_ble_eq_true rfl) (rH_u1 hj) ?_
      refine zr_iinc dX7_read_137 rfl (by decide) rfl ?_
      refine pr_goto (tgt := 93) dX7_read_140 (by decide) ?_
      first | exact bad c113 | exact ih _ _ _ (ok.2.2.2.1 c113) ok.2.1 k7 k16 hT
end ref
