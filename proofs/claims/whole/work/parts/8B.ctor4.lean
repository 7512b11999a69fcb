/-! new objects: the history, the input, the class, the reference -/
def hcl (b : Int → Nat) (j : Int) : pz_E := if j = 0 then .inr (2, [.ref (b 1), .int (zI 0), .int (zI 0)]) else if j = 1 then rowsE 4 7 2 73 b 7 else scl (fun i => b (2 + 73 * ((j - 2) / 73) + i)) (sq (fun i => b (2 + 73 * ((j - 2) / 73) + i))) zX ((j - 2) % 73)
def icl (b : Int → Nat) (j : Int) : pz_E := if j = 0 then .inr (3, [.ref (b 1), .int (zI 0), .int (zI 0), .int (zI 0), .ref (b 2)]) else if j = 1 then .inl (1, 60, .inl (zf (fun _ => 0))) else .inl (0, 3, .inl (zf (fun _ => 0)))
def xcl (b : Int → Nat) (j : Int) : pz_E := if j = 0 then .inr (6, [.ref (b 1), .ref (b 74), .ref (b 147), .ref (b 660), .int (zI 0), .int (zI 0), .int (zI (-1))]) else if j < 74 then scl (fun i => b (1 + i)) (sq (fun i => b (1 + i))) zX (j - 1) else if j < 147 then scl (fun i => b (74 + i)) (sq (fun i => b (74 + i))) zX (j - 74) else if j < 660 then hcl (fun i => b (147 + i)) (j - 147) else icl (fun i => b (660 + i)) (j - 660)
theorem hcl_ag {a b : Int → Nat} {j : Int} (h : ∀ i : Int, 0 ≤ i → i < 513 → a i = b i) (j1 : 0 ≤ j) (j2 : j < 513) : hcl a j = hcl b j := by
  unfold hcl
  by_cases e0 : j = 0
  · rw [if_pos e0, if_pos e0, h 1 (by decide) (by decide)]
  rw [if_neg e0, if_neg e0]
  by_cases e1 : j = 1
  · rw [if_pos e1, if_pos e1]
    unfold rowsE
    have e : (fun m : Nat => if (m : Int) < 7 then some (a (2 + 73 * (m : Int))) else none) = fun m : Nat => if (m : Int) < 7 then some (b (2 + 73 * (m : Int))) else none := by
      funext m
      by_cases q : (m : Int) < 7
      · rw [if_pos q, if_pos q, h _ (by omega) (by omega)]
      · rw [if_neg q, if_neg q]
    rw [e]
  · rw [if_neg e1, if_neg e1]
    exact scl_ag0 (fun i i1 i2 => h _ (by omega) (by omega)) (by omega) (by omega)
theorem icl_ag {a b : Int → Nat} {j : Int} (h : ∀ i : Int, 0 ≤ i → i < 3 → a i = b i) : icl a j = icl b j := by
  unfold icl
  rw [h 1 (by decide) (by decide), h 2 (by decide) (by decide)]
theorem zn_pi {d : Nat} {en : pz_Env} {own : Nat} {cc : ByteArray} {nL : Nat} {rt : Option FieldType} {hh : List (Nat × Nat × Nat × Nat)} {ini : Bool} {Q : pz_Q} {pc : Nat} {ls : List (Option Value)} {st : List Value} {nc ns q ci k ix : Nat} {fs : List Value} {v : Value} {g0 : pz_H} (hd2 : decode cc pc = .ok (.putfield ix, 3)) (hf : pz_fld own ix = some (ci, k)) (hfin : (pz_T ci k).2.2.2 = false) (hq : g0 q = some (.inr (ci, fs))) (hl : k < fs.length) (hn : narrow (pz_ty ci k) v = v) (hfit : fits (pz_ty ci k) v = true) (kk : ∀ g2 : pz_H, g2 q = some (.inr (ci, fs.set k v)) → (∀ x : Nat, ¬ x = q → g2 x = g0 x) → pz_WP d en (pz_Cd en (d - 1)) own cc nL rt hh ini Q (pc + 3) ls st g2 nc ns) : pz_WP d en (pz_Cd en (d - 1)) own cc nL rt hh ini Q pc ls (v :: .ref q :: st) g0 nc ns :=
  pr_putf hd2 hf (Or.inl hfin) hq hl hn hfit rfl (kk _ (if_pos rfl) (fun x hx => if_neg hx))
section ct
variable {en : pz_Env}
set_option maxRecDepth 100000 in
set_option maxHeartbeats 4000000 in
theorem hist_loop (q : Nat) (h : pz_H) (hhq : ¬ h q = none) : ∀ (n : Nat) (k : Int) (g : pz_H) (b : Int → Nat) (cl : Int → pz_E) (nc ns : Nat), 0 ≤ k → k + n = 7 → al h g q (2 + 73 * k) b cl → g q = some (.inr (2, [.ref (b 1), .int 0, .int 0])) → cl 1 = rowsE 4 7 2 73 b k → (∀ m r : Int, 0 ≤ m → m < k → 0 ≤ r → r < 73 → cl (2 + 73 * m + r) = scl (fun i => b (2 + 73 * m + i)) (sq (fun i => b (2 + 73 * m + i))) zX r) → 73 * n ≤ nc → 714 * n ≤ ns → pz_WP 4 en (pz_Cd en (4 - 1)) 2 cX2_init 2 none [] true (fun oc g => oc = .inl none ∧ nw 513 hcl q h g) 15 [some (.ref q), some (.int (zI k))] [] g nc ns
  | 0, k, g, b, cl, nc, ns, k0, kn, H, Q, c1, c3, h1, h2 => by
    have e : k = 7 := by omega
    subst e
    refine pr_iload_n dX2_init_15 rfl ?_
    refine zr_bipush dX2_init_16 (by decide) ?_
    refine zr_icmp_ge (tgt := 40) dX2_init_18 (by decide) (by decide) (by decide) (fun _ => ?_) (fun c => absurd (Int.le_refl _) c)
    refine pr_vret dX2_init_40 rfl ⟨rfl, ?_⟩
    refine al_nw (cell := hcl) H Q (fun j j1 j2 => ?_)
    unfold hcl
    rw [if_neg (show ¬ j = 0 by omega)]
    by_cases e1 : j = 1
    · subst e1
      rw [c1, if_pos rfl]
    · rw [if_neg e1]
      have w := c3 ((j - 2) / 73) ((j - 2) % 73) (by omega) (by omega) (by omega) (by omega)
      rw [show 2 + 73 * ((j - 2) / 73) + (j - 2) % 73 = j by omega] at w
      exact w
  | n + 1, k, g, b, cl, nc, ns, k0, kn, H, Q, c1, c3, h1, h2 => by
    obtain ⟨nc1, rfl⟩ : ∃ m, nc = m + 72 + 1 := ⟨nc - 73, by omega⟩
    obtain ⟨ns1, rfl⟩ : ∃ m, ns = m + 712 + 2 := ⟨ns - 714, by omega⟩
    refine pr_iload_n dX2_init_15 rfl ?_
    refine zr_bipush dX2_init_16 (by decide) ?_
    refine zr_icmp_ge (tgt := 40) dX2_init_18 (by decide) (by omega) (by decide) (fun c => by exfalso; omega) (fun _ => ?_)
    refine pr_aload_n dX2_init_21 rfl ?_
    refine pr_getf dX2_init_22 pzf_2_13 Q rfl ?_
    refine pr_iload_n dX2_init_25 rfl ?_
    refine zn_new (mc := 72) (ms := 712) (N := 2) (rest := [.int (zI k), .ref (b 1)]) dX2_init_26 dX2_init_29 dX2_init_30 pzc_2_11 rfl (Or.inl pzn_2_17) pzt_X5_init (by decide) (Nat.le_of_ble_eq_true rfl) (fun p g1 hp => kX5_init p g1 hp) (by decide) (fun c g3 d1 d2 d3 d4 => ?_)
    have gq : ¬ g q = none := by rw [Q]; simp
    have g1 := H.2.2.2.1 1 (by decide) (by omega)
    rw [c1] at g1
    have gb1 : ¬ g (b 1) = none := by rw [g1]; simp
    have v0 := d3 0 (by decide) (by decide)
    have Q3 := (d4 q gq).trans Q
    refine pr_aast (v := c 0) (k := k.toNat) dX2_init_33 ((d4 _ gb1).trans g1) (Or.inr ⟨rfl, rfl⟩) v0 (by rw [zI_toInt (by omega)]; omega) (by omega) rfl ?_
    refine zr_iinc dX2_init_34 rfl (by decide) rfl ?_
    refine pr_goto (tgt := 15) dX2_init_37 (by decide) ?_
    have H2 := al_app (g2 := g3) (c := c) (e := cellS c) (m := 73) H (by omega) gq d1 d2 d3 (fun x x1 _ => d4 x x1)
    have b1 : bz b (2 + 73 * k) c 1 = b 1 := bz_lo (by omega)
    have hup := rows_up (base := 2) (stride := 73) (b := b) (b2 := bz b (2 + 73 * k) c) (p := c 0) k0 (fun m m1 m2 => bz_lo (by omega)) (by rw [bz_hi (by omega), show 2 + 73 * k - (2 + 73 * k) = 0 by omega])
    rw [hup]
    have H3 := al_set (g2 := va_up g3 (b 1) (some (rowsE 4 7 2 73 (bz b (2 + 73 * k) c) (k + 1)))) (j := 1) (v := rowsE 4 7 2 73 (bz b (2 + 73 * k) c) (k + 1)) H2 (by decide) (by omega) (fun x hx => if_neg (by rw [b1] at hx; exact hx)) (by rw [b1]; exact if_pos rfl)
    have nq : ¬ q = b 1 := fun z => by
      have := H.2.1 1 0 (by decide) (by omega) (by decide) (by omega) (z.symm.trans H.1.symm)
      omega
    rw [show 2 + 73 * k + 73 = 2 + 73 * (k + 1) by omega] at H3
    refine hist_loop q h hhq n (k + 1) _ _ _ nc1 ns1 (by omega) (by omega) H3 ?_ (gu_at _ _ _) ?_ (by omega) (by omega)
    · refine (if_neg nq).trans (Q3.trans ?_)
      rw [bz_lo (show (1 : Int) < 2 + 73 * k by omega)]
    · intro m r m1 m2 r1 r2
      rw [gu_ne _ _ (by omega)]
      by_cases z : m = k
      · subst z
        rw [bz_hi (by omega), show 2 + 73 * m + r - (2 + 73 * m) = r by omega]
        exact scl_ag0 (fun i i1 i2 => by rw [bz_hi (by omega), show 2 + 73 * m + i - (2 + 73 * m) = i by omega]) r1 r2
      · rw [bz_lo (by omega), c3 m r m1 (by omega) r1 r2]
        exact scl_ag0 (fun i i1 i2 => (bz_lo (by omega)).symm) r1 r2
set_option maxRecDepth 100000 in
set_option maxHeartbeats 4000000 in
theorem kX2_init (q : Nat) (h : pz_H) (hq : h q = some (.inr (2, pz_blank 2))) : pz_Cd en 4 41 [.ref q] h 512 5005 (fun oc g => oc = .inl none ∧ nw 513 hcl q h g) := by
  refine pz_in pzt_X2_init ?_
  refine pr_aload_n dX2_init_0 rfl ?_
  refine pr_obj dX2_init_1 pzo_2_3 (by decide) (by decide) ?_
  refine pr_aload_n dX2_init_4 rfl ?_
  refine zr_bipush dX2_init_5 (by decide) ?_
  refine zn_aq (nc := 511) (ns := 4998) (N := 7) dX2_init_7 pzc_2_11 (Or.inr ⟨rfl, rfl⟩) dX2_init_10 pzf_2_13 ⟨rfl, rfl⟩ rfl (by decide) hq (Nat.le_of_ble_eq_true rfl) (fun _ => rfl) (fun _ => rfl) (al_0 (cl := fun _ => .inr (0, []))) (by decide) (fun p1 g1 H1 Q1 => ?_)
  refine zr_iconst dX2_init_13 ?_
  refine pr_istore_n dX2_init_14 (by decide) rfl ?_
  exact hist_loop q h (by rw [hq]; simp) 7 0 g1 _ _ 511 4998 (by decide) (by decide) H1 Q1 rowsE_0.symm (fun m r m1 m2 => by omega) (by decide) (by decide)
set_option maxRecDepth 100000 in
set_option maxHeartbeats 4000000 in
theorem kX3_init (q : Nat) (h : pz_H) (hq : h q = some (.inr (3, pz_blank 3))) : pz_Cd en 1 48 [.ref q] h 2 63 (fun oc g => oc = .inl none ∧ nw 3 icl q h g) := by
  refine pz_in pzt_X3_init ?_
  refine pr_aload_n dX3_init_0 rfl ?_
  refine pr_obj dX3_init_1 pzo_3_3 (by decide) (by decide) ?_
  refine pr_aload_n dX3_init_4 rfl ?_
  refine zr_bipush dX3_init_5 (by decide) ?_
  refine zn_ac (nc := 1) (ns := 3) (N := 60) dX3_init_7 dX3_init_9 pzf_3_9 ⟨rfl, rfl⟩ rfl (by decide) hq (Nat.le_of_ble_eq_true rfl) (fun _ => rfl) (fun _ => rfl) (al_0 (cl := fun _ => .inr (0, []))) (by decide) (fun p1 g1 H1 Q1 => ?_)
  refine pr_aload_n dX3_init_12 rfl ?_
  refine zr_iconst dX3_init_13 ?_
  refine zn_ai (nc := 0) (ns := 0) (N := 3) dX3_init_14 dX3_init_16 pzf_3_15 ⟨rfl, rfl⟩ rfl (by decide) Q1 (Nat.le_of_ble_eq_true rfl) (fun _ => rfl) (fun _ => rfl) H1 (by decide) (fun p2 g2 H2 Q2 => ?_)
  refine pr_vret dX3_init_19 rfl ⟨rfl, ?_⟩
  refine al_nw (cell := icl) H2 Q2 (fun j j1 j2 => ?_)
  rcases (show j = 1 ∨ j = 2 by omega) with e | e <;> subst e <;> rfl
set_option maxRecDepth 100000 in
set_option maxHeartbeats 4000000 in
theorem kX6_init (q : Nat) (h : pz_H) (hq : h q = some (.inr (6, pz_blank 6))) : pz_Cd en 5 86 [.ref q] h 662 6504 (fun oc g => oc = .inl none ∧ nw 663 xcl q h g) := by
  refine pz_in pzt_X6_init ?_
  refine pr_aload_n dX6_init_0 rfl ?_
  refine pr_obj dX6_init_1 pzo_6_1 (by decide) (by decide) ?_
  refine pr_aload_n dX6_init_4 rfl ?_
  refine zn_ob (nc := 589) (ns := 5790) (mc := 72) (ms := 712) (N := 2) dX6_init_5 dX6_init_8 dX6_init_9 dX6_init_12 pzc_6_7 rfl (Or.inl pzn_6_9) pzt_X5_init (by decide) (fun p g1 hp => kX5_init p g1 hp) (by decide) pzf_6_10 ⟨rfl, rfl⟩ hq (Nat.le_of_ble_eq_true rfl) (fun _ => rfl) (fun _ => rfl) (al_0 (cl := fun _ => .inr (0, []))) (by decide) (fun c1 g1 H1 Q1 => ?_)
  refine pr_aload_n dX6_init_15 rfl ?_
  refine zn_ob (nc := 516) (ns := 5076) (mc := 72) (ms := 712) (N := 2) dX6_init_16 dX6_init_19 dX6_init_20 dX6_init_23 pzc_6_7 rfl (Or.inl pzn_6_9) pzt_X5_init (by decide) (fun p g1 hp => kX5_init p g1 hp) (by decide) pzf_6_16 ⟨rfl, rfl⟩ Q1 (Nat.le_of_ble_eq_true rfl) (fun _ => rfl) (fun _ => rfl) H1 (by decide) (fun c2 g2 H2 Q2 => ?_)
  refine pr_aload_n dX6_init_26 rfl ?_
  refine zn_ob (nc := 3) (ns := 68) (mc := 512) (ms := 5005) (N := 3) dX6_init_27 dX6_init_30 dX6_init_31 dX6_init_34 pzc_6_19 rfl (Or.inr pzm_6_21) pzt_X2_init (by decide) (fun p g1 hp => kX2_init p g1 hp) (by decide) pzf_6_22 ⟨rfl, rfl⟩ Q2 (Nat.le_of_ble_eq_true rfl) (fun _ => rfl) (fun _ => rfl) H2 (by decide) (fun c3 g3 H3 Q3 => ?_)
  refine pr_aload_n dX6_init_37 rfl ?_
  refine zn_ob (nc := 0) (ns := 0) (mc := 2) (ms := 63) (N := 5) dX6_init_38 dX6_init_41 dX6_init_42 dX6_init_45 pzc_6_26 rfl (Or.inl pzn_6_28) pzt_X3_init (by decide) (fun p g1 hp => kX3_init p g1 hp) (by decide) pzf_6_29 ⟨rfl, rfl⟩ Q3 (Nat.le_of_ble_eq_true rfl) (fun _ => rfl) (fun _ => rfl) H3 (by decide) (fun c4 g4 H4 Q4 => ?_)
  refine pr_aload_n dX6_init_48 rfl ?_
  refine zr_iconst dX6_init_49 ?_
  refine zn_pi dX6_init_50 pzf_6_33 rfl Q4 (Nat.le_of_ble_eq_true rfl) rfl rfl (fun g5 Q5 F5 => ?_)
  refine pr_aload_n dX6_init_53 rfl ?_
  refine zr_iconst dX6_init_54 ?_
  refine zn_pi dX6_init_55 pzf_6_37 rfl Q5 (Nat.le_of_ble_eq_true rfl) rfl rfl (fun g6 Q6 F6 => ?_)
  refine pr_vret dX6_init_58 rfl ⟨rfl, ?_⟩
  refine al_nw (cell := xcl) (al_q (al_q H4 F5) F6) (Q6.trans ?_) (fun j j1 j2 => ?_)
  · rfl
  · unfold xcl
    rw [if_neg (show ¬ j = 0 by omega)]
    by_cases e1 : j < 74
    · rw [if_pos e1, bz_lo (show j < 1 + 73 + 73 + 513 by omega), bz_lo (show j < 1 + 73 + 73 by omega), bz_lo (show j < 1 + 73 by omega), bz_hi (show ¬ j < 1 by omega)]
      exact scl_ag0 (fun i i1 i2 => by rw [bz_lo (show 1 + i < 1 + 73 + 73 + 513 by omega), bz_lo (show 1 + i < 1 + 73 + 73 by omega), bz_lo (show 1 + i < 1 + 73 by omega), bz_hi (show ¬ 1 + i < 1 by omega), show 1 + i - 1 = i by omega]) (by omega) (by omega)
    rw [if_neg e1]
    by_cases e2 : j < 147
    · rw [if_pos e2, bz_lo (show j < 1 + 73 + 73 + 513 by omega), bz_lo (show j < 1 + 73 + 73 by omega), bz_hi (show ¬ j < 1 + 73 by omega)]
      exact scl_ag0 (fun i i1 i2 => by rw [bz_lo (show 74 + i < 1 + 73 + 73 + 513 by omega), bz_lo (show 74 + i < 1 + 73 + 73 by omega), bz_hi (show ¬ 74 + i < 1 + 73 by omega), show 74 + i - (1 + 73) = i by omega]) (by omega) (by omega)
    rw [if_neg e2]
    by_cases e3 : j < 660
    · rw [if_pos e3, bz_lo (show j < 1 + 73 + 73 + 513 by omega), bz_hi (show ¬ j < 1 + 73 + 73 by omega)]
      exact hcl_ag (fun i i1 i2 => by rw [bz_lo (show 147 + i < 1 + 73 + 73 + 513 by omega), bz_hi (show ¬ 147 + i < 1 + 73 + 73 by omega), show 147 + i - (1 + 73 + 73) = i by omega]) (by omega) (by omega)
    · rw [if_neg e3, bz_hi (show ¬ j < 1 + 73 + 73 + 513 by omega)]
      exact icl_ag (fun i i1 i2 => by rw [bz_hi (show ¬ 660 + i < 1 + 73 + 73 + 513 by omega), show 660 + i - (1 + 73 + 73 + 513) = i by omega])
abbrev mF : Nat → Int := va_up (va_up (fun _ => 0) 13 (-1)) 5 0
abbrev mcl : (Int → Nat) → Int → pz_E := fun b j => rcl (fun i => b (i : Int)) (zfil (fun _ => 0) 0 462 0) (fun _ => 0) (fun _ _ => 0) mF j.toNat
set_option maxRecDepth 100000 in
set_option maxHeartbeats 4000000 in
theorem kX7_init (q : Nat) (h : pz_H) (hq : h q = some (.inr (7, pz_blank 7))) : pz_Cd en 2 137 [.ref q] h 8 4602 (fun oc g => oc = .inl none ∧ nw 9 mcl q h g) := by
  refine pz_in pzt_X7_init ?_
  refine pr_aload_n dX7_init_0 rfl ?_
  refine pr_obj dX7_init_1 pzo_7_3 (by decide) (by decide) ?_
  refine pr_aload_n dX7_init_4 rfl ?_
  refine zr_sipush dX7_init_5 (by decide) ?_
  refine zn_ai (nc := 7) (ns := 4140) (N := 462) dX7_init_8 dX7_init_10 pzf_7_9 ⟨rfl, rfl⟩ rfl (by decide) hq (Nat.le_of_ble_eq_true rfl) (fun _ => rfl) (fun _ => rfl) (al_0 (cl := fun _ => .inr (0, []))) (by decide) (fun p1 g1 H1 Q1 => ?_)
  refine pr_aload_n dX7_init_13 rfl ?_
  refine zr_sipush dX7_init_14 (by decide) ?_
  refine zn_ai (nc := 6) (ns := 3678) (N := 462) dX7_init_17 dX7_init_19 pzf_7_13 ⟨rfl, rfl⟩ rfl (by decide) Q1 (Nat.le_of_ble_eq_true rfl) (fun _ => rfl) (fun _ => rfl) H1 (by decide) (fun p2 g2 H2 Q2 => ?_)
  refine pr_aload_n dX7_init_22 rfl ?_
  refine zr_sipush dX7_init_23 (by decide) ?_
  refine zn_ai (nc := 5) (ns := 3216) (N := 462) dX7_init_26 dX7_init_28 pzf_7_16 ⟨rfl, rfl⟩ rfl (by decide) Q2 (Nat.le_of_ble_eq_true rfl) (fun _ => rfl) (fun _ => rfl) H2 (by decide) (fun p3 g3 H3 Q3 => ?_)
  refine pr_aload_n dX7_init_31 rfl ?_
  refine zr_sipush dX7_init_32 (by decide) ?_
  refine zn_ai (nc := 4) (ns := 444) (N := 2772) dX7_init_35 dX7_init_37 pzf_7_19 ⟨rfl, rfl⟩ rfl (by decide) Q3 (Nat.le_of_ble_eq_true rfl) (fun _ => rfl) (fun _ => rfl) H3 (by decide) (fun p4 g4 H4 Q4 => ?_)
  refine pr_aload_n dX7_init_40 rfl ?_
  refine zr_sipush dX7_init_41 (by decide) ?_
  refine zn_ai (nc := 3) (ns := 300) (N := 144) dX7_init_44 dX7_init_46 pzf_7_22 ⟨rfl, rfl⟩ rfl (by decide) Q4 (Nat.le_of_ble_eq_true rfl) (fun _ => rfl) (fun _ => rfl) H4 (by decide) (fun p5 g5 H5 Q5 => ?_)
  refine pr_aload_n dX7_init_49 rfl ?_
  refine zr_bipush dX7_init_50 (by decide) ?_
  refine zn_ac (nc := 2) (ns := 240) (N := 60) dX7_init_52 dX7_init_54 pzf_7_25 ⟨rfl, rfl⟩ rfl (by decide) Q5 (Nat.le_of_ble_eq_true rfl) (fun _ => rfl) (fun _ => rfl) H5 (by decide) (fun p6 g6 H6 Q6 => ?_)
  refine pr_aload_n dX7_init_57 rfl ?_
  refine zr_iconst dX7_init_58 ?_
  refine zn_pi dX7_init_59 pzf_7_29 rfl Q6 (Nat.le_of_ble_eq_true rfl) rfl rfl (fun g6x Q6x F6x => ?_)
  have H6x := al_q H6 F6x
  refine pr_aload_n dX7_init_62 rfl ?_
  refine zr_bipush dX7_init_63 (by decide) ?_
  refine zn_ac (nc := 1) (ns := 180) (N := 60) dX7_init_65 dX7_init_67 pzf_7_33 ⟨rfl, rfl⟩ rfl (by decide) Q6x (Nat.le_of_ble_eq_true rfl) (fun _ => rfl) (fun _ => rfl) H6x (by decide) (fun p7 g7 H7 Q7 => ?_)
  refine pr_aload_n dX7_init_70 rfl ?_
  refine zr_sipush dX7_init_71 (by decide) ?_
  refine zn_ai (nc := 0) (ns := 0) (N := 180) dX7_init_74 dX7_init_76 pzf_7_36 ⟨rfl, rfl⟩ rfl (by decide) Q7 (Nat.le_of_ble_eq_true rfl) (fun _ => rfl) (fun _ => rfl) H7 (by decide) (fun p8 g8 H8 Q8 => ?_)
  refine pr_aload_n dX7_init_79 rfl ?_
  generalize hbb : bz _ _ _ = bb at H8
  have C1 : ∀ j : Int, 1 ≤ j → j < 9 → g8 (bb j) = some (rcl (fun i => bb (i : Int)) (fun _ => 0) (fun _ => 0) (fun _ _ => 0) (va_up (fun _ => 0) 13 (-1)) j.toNat) := fun j j1 j2 => by
    rw [H8.2.2.2.1 j j1 j2]
    rcases (show j = 1 ∨ j = 2 ∨ j = 3 ∨ j = 4 ∨ j = 5 ∨ j = 6 ∨ j = 7 ∨ j = 8 by omega) with e | e | e | e | e | e | e | e <;> subst e <;> rfl
  have C0 : g8 (bb 0) = some (rcl (fun i => bb (i : Int)) (fun _ => 0) (fun _ => 0) (fun _ _ => 0) (va_up (fun _ => 0) 13 (-1)) 0) := by
    rw [H8.1, Q8, ← hbb]
    rfl
  have hj : oj 9 (fun i => bb (i : Int)) := fun i j i1 i2 e => by
    have := H8.2.1 (i : Int) (j : Int) (by omega) (by omega) (by omega) (by omega) e
    omega
  have hid : rH g8 (fun i => bb (i : Int)) (fun _ => 0) (fun _ => 0) (fun _ _ => 0) (va_up (fun _ => 0) 13 (-1)) = g8 := (ov_ext hj (fun i i1 => by
    by_cases z : i = 0
    · subst z; exact C0
    · have := C1 (i : Int) (by omega) (by omega)
      rw [show ((i : Int)).toNat = i by omega] at this
      exact this) (fun _ _ => rfl)).symm
  have hC := kX7_begin (en := en) (h0 := g8) (s := fun _ => 0) (lv := fun _ => 0) (A := fun _ _ => 0) (F := va_up (fun _ => 0) 13 (-1)) hj
  rw [hid] at hC
  have hb0 : bb ((0 : Nat) : Int) = q := H8.1
  rw [hb0] at hC
  refine zcv0u dX7_init_80 pzm_7_39 pzt_X7_begin Q8 hC (by decide) (Nat.le_of_ble_eq_true rfl) (by decide) ?_
  refine pr_vret dX7_init_83 rfl ⟨rfl, bb, H8.1, H8.2.1, H8.2.2.1, fun j j1 j2 => ?_, fun x x1 x2 => ?_⟩
  · have e : ((j.toNat : Nat) : Int) = j := by omega
    have w := ov_at (h0 := g8) (cl := rcl (fun i => bb (i : Int)) (zfil (fun _ => 0) 0 462 0) (fun _ => 0) (fun _ _ => 0) mF) hj (i := j.toNat) (by omega)
    rw [e] at w
    exact w
  · have w : rH g8 (fun i => bb (i : Int)) (zfil (fun _ => 0) 0 462 0) (fun _ => 0) (fun _ _ => 0) mF x = g8 x := ov_ne (fun i i1 z => by
      by_cases y : i = 0
      · subst y; exact x2 (z.symm.trans H8.1)
      · exact x1 (by rw [← z]; exact H8.2.2.1 (i : Int) (by omega) (by omega)))
    exact w.trans (H8.2.2.2.2 x x1 x2)
end ct
