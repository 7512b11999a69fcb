/-! new objects: the list of cues, a show -/
section ct
variable {en : pz_Env}
theorem ccl_ag {a b : Int → Nat} {base j : Int} (h : ∀ i : Int, base ≤ i → i < base + 5 → a i = b i) (j1 : 0 ≤ j) (j2 : j < 5) : ccl a base j = ccl b base j := by
  unfold ccl
  rw [h (base + 1) (by omega) (by omega), h (base + 2) (by omega) (by omega), h (base + 3) (by omega) (by omega), h (base + 4) (by omega) (by omega)]
theorem ccl_sh {a b : Int → Nat} {base j : Int} (h : ∀ i : Int, 0 ≤ i → i < 5 → a i = b (base + i)) (j1 : 0 ≤ j) (j2 : j < 5) : ccl a 0 j = ccl b base j := by
  unfold ccl
  rw [Int.zero_add, Int.zero_add, Int.zero_add, Int.zero_add, h 1 (by decide) (by decide), h 2 (by decide) (by decide), h 3 (by decide) (by decide), h 4 (by decide) (by decide)]
theorem ccl_scl {a : Int → Nat} {k r : Int} (k1 : 0 ≤ k) (k2 : k < 12) (r1 : 0 ≤ r) (r2 : r < 5) : scl a (sq a) zX (7 + 5 * k + r) = ccl a (7 + 5 * k) r := by
  rcases (show r = 0 ∨ r = 1 ∨ r = 2 ∨ r = 3 ∨ r = 4 by omega) with e | e | e | e | e <;> subst e
  · rw [Int.add_zero, scl_C k1 k2]; rfl
  · rw [scl_C1 k1 k2]; rfl
  · rw [scl_C2 k1 k2]; rfl
  · rw [scl_C3 k1 k2]; rfl
  · rw [scl_C4 k1 k2]; rfl
set_option maxRecDepth 100000 in
set_option maxHeartbeats 4000000 in
theorem list_loop (q : Nat) (h : pz_H) (hhq : ¬ h q = none) : ∀ (n : Nat) (k : Int) (g : pz_H) (b : Int → Nat) (cl : Int → pz_E) (nc ns : Nat), 0 ≤ k → k + n = 12 → al h g q (6 + 5 * k) b cl → g q = some (.inr (1, [.ref (b 1), .int 0, .ref (b 2), .ref (b 3), .ref (b 4), .int 0, .ref (b 5)])) → cl 1 = rowsE 3 12 6 5 b k → (cl 2 = .inl (0, 12, .inl (zf (fun _ => 0))) ∧ cl 3 = .inl (0, 60, .inl (zf (fun _ => 0))) ∧ cl 4 = .inl (0, 60, .inl (zf (fun _ => 0))) ∧ cl 5 = .inl (0, 12, .inl (zf (fun _ => 0)))) → (∀ m r : Int, 0 ≤ m → m < k → 0 ≤ r → r < 5 → cl (6 + 5 * m + r) = ccl b (6 + 5 * m) r) → 5 * n ≤ nc → 40 * n ≤ ns → pz_WP 2 en (pz_Cd en (2 - 1)) 1 cX1_init 2 none [] true (fun oc g => oc = .inl none ∧ nw 66 cellL q h g) 47 [some (.ref q), some (.int (zI k))] [] g nc ns
  | 0, k, g, b, cl, nc, ns, k0, kn, H, Q, c1, c2, c3, h1, h2 => by
    have e : k = 12 := by omega
    subst e
    refine pr_iload_n dX1_init_47 rfl ?_
    refine zr_bipush dX1_init_48 (by decide) ?_
    refine zr_icmp_ge (tgt := 72) dX1_init_50 (by decide) (by decide) (by decide) (fun _ => ?_) (fun c => absurd (Int.le_refl _) c)
    refine pr_vret dX1_init_72 rfl ⟨rfl, ?_⟩
    refine al_nw (cell := cellL) H Q (fun j j1 j2 => ?_)
    by_cases e1 : j = 1
    · subst e1
      rw [c1]
      show rowsE 3 12 6 5 b 12 = .inl (3, 12, .inr (.inr (.inr (.inr (sq (fun i => b (i - 1)))))))
      unfold rowsE
      have e : (fun m : Nat => if (m : Int) < 12 then some (b (6 + 5 * (m : Int))) else none) = sq (fun i => b (i - 1)) := by
        funext m
        unfold sq
        by_cases q : m < 12
        · rw [if_pos (by omega), if_pos q]
          show some (b (6 + 5 * (m : Int))) = some (b (7 + 5 * (m : Int) - 1))
          rw [show 7 + 5 * (m : Int) - 1 = 6 + 5 * (m : Int) by omega]
        · rw [if_neg (by omega), if_neg q]
      rw [e]
    by_cases e2 : j = 2
    · subst e2; rw [c2.1]; rfl
    by_cases e3 : j = 3
    · subst e3; rw [c2.2.1]; rfl
    by_cases e4 : j = 4
    · subst e4; rw [c2.2.2.1]; rfl
    by_cases e5 : j = 5
    · subst e5; rw [c2.2.2.2]; rfl
    have w := c3 ((j - 6) / 5) ((j - 6) % 5) (by omega) (by omega) (by omega) (by omega)
    rw [show 6 + 5 * ((j - 6) / 5) + (j - 6) % 5 = j by omega] at w
    rw [w]
    show _ = scl (fun i => b (i - 1)) (sq (fun i => b (i - 1))) zX (j + 1)
    rw [show j + 1 = 7 + 5 * ((j - 6) / 5) + (j - 6) % 5 by omega, ccl_scl (by omega) (by omega) (by omega) (by omega)]
    unfold ccl
    dsimp only
    rw [show 7 + 5 * ((j - 6) / 5) + 1 - 1 = 6 + 5 * ((j - 6) / 5) + 1 by omega, show 7 + 5 * ((j - 6) / 5) + 2 - 1 = 6 + 5 * ((j - 6) / 5) + 2 by omega, show 7 + 5 * ((j - 6) / 5) + 3 - 1 = 6 + 5 * ((j - 6) / 5) + 3 by omega, show 7 + 5 * ((j - 6) / 5) + 4 - 1 = 6 + 5 * ((j - 6) / 5) + 4 by omega]
  | n + 1, k, g, b, cl, nc, ns, k0, kn, H, Q, c1, c2, c3, h1, h2 => by
    obtain ⟨nc1, rfl⟩ : ∃ m, nc = m + 4 + 1 := ⟨nc - 5, by omega⟩
    obtain ⟨ns1, rfl⟩ : ∃ m, ns = m + 32 + 8 := ⟨ns - 40, by omega⟩
    refine pr_iload_n dX1_init_47 rfl ?_
    refine zr_bipush dX1_init_48 (by decide) ?_
    refine zr_icmp_ge (tgt := 72) dX1_init_50 (by decide) (by omega) (by decide) (fun c => by exfalso; omega) (fun _ => ?_)
    refine pr_aload_n dX1_init_53 rfl ?_
    refine pr_getf dX1_init_54 pzf_1_11 Q rfl ?_
    refine pr_iload_n dX1_init_57 rfl ?_
    refine zn_new (mc := 4) (ms := 32) (N := 8) (rest := [.int (zI k), .ref (b 1)]) dX1_init_58 dX1_init_61 dX1_init_62 pzc_1_9 rfl (Or.inl pzn_1_30) pzt_X0_init (by decide) (Nat.le_of_ble_eq_true rfl) (fun p g1 hp => kX0_init p g1 hp) (by decide) (fun c g3 d1 d2 d3 d4 => ?_)
    have gq : ¬ g q = none := by rw [Q]; simp
    have g1 := H.2.2.2.1 1 (by decide) (by omega)
    rw [c1] at g1
    have gb1 : ¬ g (b 1) = none := by rw [g1]; simp
    have v0 := d3 0 (by decide) (by decide)
    have Q3 := (d4 q gq).trans Q
    refine pr_aast (v := c 0) (k := k.toNat) dX1_init_65 ((d4 _ gb1).trans g1) (Or.inl ⟨rfl, rfl⟩) v0 (by rw [zI_toInt (by omega)]; omega) (by omega) rfl ?_
    refine zr_iinc dX1_init_66 rfl (by decide) rfl ?_
    refine pr_goto (tgt := 47) dX1_init_69 (by decide) ?_
    have H2 := al_app (g2 := g3) (c := c) (e := cellC c) (m := 5) H (by omega) gq d1 d2 d3 (fun x x1 _ => d4 x x1)
    have b1 : bz b (6 + 5 * k) c 1 = b 1 := bz_lo (by omega)
    have hup := rows_up (base := 6) (stride := 5) (b := b) (b2 := bz b (6 + 5 * k) c) (p := c 0) k0 (fun m m1 m2 => bz_lo (by omega)) (by rw [bz_hi (by omega), show 6 + 5 * k - (6 + 5 * k) = 0 by omega])
    rw [hup]
    have H3 := al_set (g2 := va_up g3 (b 1) (some (rowsE 3 12 6 5 (bz b (6 + 5 * k) c) (k + 1)))) (j := 1) (v := rowsE 3 12 6 5 (bz b (6 + 5 * k) c) (k + 1)) H2 (by decide) (by omega) (fun x hx => if_neg (by rw [b1] at hx; exact hx)) (by rw [b1]; exact if_pos rfl)
    have nq : ¬ q = b 1 := fun z => by
      have := H.2.1 1 0 (by decide) (by omega) (by decide) (by omega) (z.symm.trans H.1.symm)
      omega
    rw [show 6 + 5 * k + 5 = 6 + 5 * (k + 1) by omega] at H3
    refine list_loop q h hhq n (k + 1) _ _ _ nc1 ns1 (by omega) (by omega) H3 ?_ (gu_at _ _ _) ?_ ?_ (by omega) (by omega)
    · refine (if_neg nq).trans (Q3.trans ?_)
      rw [bz_lo (show (1 : Int) < 6 + 5 * k by omega), bz_lo (show (2 : Int) < 6 + 5 * k by omega), bz_lo (show (3 : Int) < 6 + 5 * k by omega), bz_lo (show (4 : Int) < 6 + 5 * k by omega), bz_lo (show (5 : Int) < 6 + 5 * k by omega)]
    · rw [gu_ne _ _ (by decide), gu_ne _ _ (by decide), gu_ne _ _ (by decide), gu_ne _ _ (by decide), bz_lo (by omega), bz_lo (by omega), bz_lo (by omega), bz_lo (by omega)]
      exact c2
    · intro m r m1 m2 r1 r2
      rw [gu_ne _ _ (by omega)]
      by_cases z : m = k
      · subst z
        rw [bz_hi (by omega), show 6 + 5 * m + r - (6 + 5 * m) = r by omega]
        exact ccl_sh (fun i i1 i2 => by rw [bz_hi (by omega), show 6 + 5 * m + i - (6 + 5 * m) = i by omega]) r1 r2
      · rw [bz_lo (by omega), c3 m r m1 (by omega) r1 r2]
        exact ccl_ag (fun i i1 i2 => (bz_lo (by omega)).symm) r1 r2
set_option maxRecDepth 100000 in
set_option maxHeartbeats 4000000 in
theorem kX1_init (q : Nat) (h : pz_H) (hq : h q = some (.inr (1, pz_blank 1))) : pz_Cd en 2 17 [.ref q] h 65 636 (fun oc g => oc = .inl none ∧ nw 66 cellL q h g) := by
  refine pz_in pzt_X1_init ?_
  refine pr_aload_n dX1_init_0 rfl ?_
  refine pr_obj dX1_init_1 pzo_1_3 (by decide) (by decide) ?_
  refine pr_aload_n dX1_init_4 rfl ?_
  refine zr_bipush dX1_init_5 (by decide) ?_
  refine zn_aq (nc := 64) (ns := 624) (N := 12) dX1_init_7 pzc_1_9 (Or.inl ⟨rfl, rfl⟩) dX1_init_10 pzf_1_11 ⟨rfl, rfl⟩ rfl (by decide) hq (Nat.le_of_ble_eq_true rfl) (fun _ => rfl) (fun _ => rfl) (al_0 (cl := fun _ => .inr (0, []))) (by decide) (fun p1 g1 H1 Q1 => ?_)
  refine pr_aload_n dX1_init_13 rfl ?_
  refine zr_bipush dX1_init_14 (by decide) ?_
  refine zn_ai (nc := 63) (ns := 612) (N := 12) dX1_init_16 dX1_init_18 pzf_1_17 ⟨rfl, rfl⟩ rfl (by decide) Q1 (Nat.le_of_ble_eq_true rfl) (fun _ => rfl) (fun _ => rfl) H1 (by decide) (fun p2 g2 H2 Q2 => ?_)
  refine pr_aload_n dX1_init_21 rfl ?_
  refine zr_bipush dX1_init_22 (by decide) ?_
  refine zn_ai (nc := 62) (ns := 552) (N := 60) dX1_init_24 dX1_init_26 pzf_1_21 ⟨rfl, rfl⟩ rfl (by decide) Q2 (Nat.le_of_ble_eq_true rfl) (fun _ => rfl) (fun _ => rfl) H2 (by decide) (fun p3 g3 H3 Q3 => ?_)
  refine pr_aload_n dX1_init_29 rfl ?_
  refine zr_bipush dX1_init_30 (by decide) ?_
  refine zn_ai (nc := 61) (ns := 492) (N := 60) dX1_init_32 dX1_init_34 pzf_1_24 ⟨rfl, rfl⟩ rfl (by decide) Q3 (Nat.le_of_ble_eq_true rfl) (fun _ => rfl) (fun _ => rfl) H3 (by decide) (fun p4 g4 H4 Q4 => ?_)
  refine pr_aload_n dX1_init_37 rfl ?_
  refine zr_bipush dX1_init_38 (by decide) ?_
  refine zn_ai (nc := 60) (ns := 480) (N := 12) dX1_init_40 dX1_init_42 pzf_1_27 ⟨rfl, rfl⟩ rfl (by decide) Q4 (Nat.le_of_ble_eq_true rfl) (fun _ => rfl) (fun _ => rfl) H4 (by decide) (fun p5 g5 H5 Q5 => ?_)
  refine zr_iconst dX1_init_45 ?_
  refine pr_istore_n dX1_init_46 (by decide) rfl ?_
  exact list_loop q h (by rw [hq]; simp) 12 0 g5 _ _ 60 480 (by decide) (by decide) H5 Q5 rowsE_0.symm ⟨rfl, rfl, rfl, rfl⟩ (fun m r m1 m2 => by omega) (by decide) (by decide)
set_option maxRecDepth 100000 in
set_option maxHeartbeats 4000000 in
theorem kX5_init (q : Nat) (h : pz_H) (hq : h q = some (.inr (5, pz_blank 5))) : pz_Cd en 3 73 [.ref q] h 72 712 (fun oc g => oc = .inl none ∧ nw 73 cellS q h g) := by
  refine pz_in pzt_X5_init ?_
  refine pr_aload_n dX5_init_0 rfl ?_
  refine pr_obj dX5_init_1 pzo_5_1 (by decide) (by decide) ?_
  refine pr_aload_n dX5_init_4 rfl ?_
  refine zn_ob (nc := 6) (ns := 69) (mc := 65) (ms := 636) (N := 7) dX5_init_5 dX5_init_8 dX5_init_9 dX5_init_12 pzc_5_7 rfl (Or.inr pzm_5_9) pzt_X1_init (by decide) (fun p g1 hp => kX1_init p g1 hp) (by decide) pzf_5_10 ⟨rfl, rfl⟩ hq (Nat.le_of_ble_eq_true rfl) (fun _ => rfl) (fun _ => rfl) (al_0 (cl := fun _ => .inr (0, []))) (by decide) (fun c1 g1 H1 Q1 => ?_)
  refine pr_aload_n dX5_init_15 rfl ?_
  refine zn_ob (nc := 0) (ns := 0) (mc := 5) (ms := 60) (N := 9) dX5_init_16 dX5_init_19 dX5_init_20 dX5_init_23 pzc_5_16 rfl (Or.inl pzn_5_18) pzt_X4_init (by decide) (fun p g1 hp => kX4_init p g1 hp) (by decide) pzf_5_19 ⟨rfl, rfl⟩ Q1 (Nat.le_of_ble_eq_true rfl) (fun _ => rfl) (fun _ => rfl) H1 (by decide) (fun c2 g2 H2 Q2 => ?_)
  refine pr_vret dX5_init_26 rfl ⟨rfl, ?_⟩
  refine al_nw (cell := cellS) H2 (Q2.trans ?_) (fun j j1 j2 => ?_)
  · rfl
  · by_cases e : j < 67
    · rw [bz_lo (show j < 1 + 66 by omega), bz_hi (show ¬ j < 1 by omega)]
      show scl (fun i => c1 (i - 1)) (sq (fun i => c1 (i - 1))) zX (j - 1 + 1) = _
      rw [show j - 1 + 1 = j by omega]
      exact scl_ag (fun i i1 i2 => by rw [bz_lo (show i < 1 + 66 by omega), bz_hi (show ¬ i < 1 by omega)]) j1 e
    · rw [bz_hi (show ¬ j < 1 + 66 by omega)]
      show scl (fun i => c2 (i - 67)) (sq (fun i => c2 (i - 67))) zX (j - (1 + 66) + 67) = _
      rw [show j - (1 + 66) + 67 = j by omega]
      exact scl_ag2 (fun i i1 i2 => by rw [bz_hi (show ¬ i < 1 + 66 by omega)]; rfl) (by omega) j2
end ct
