/-! the reference: what it reads -/
def rI (s : Int → Int) : Prop := rB s ∧
  (∀ k : Int, 0 ≤ k → k < s 0 → (1 ≤ s (18 + 12 * k) ∧ s (18 + 12 * k) ≤ 99) ∧ (s (18 + 12 * k + 1) = -1 ∨ (1 ≤ s (18 + 12 * k + 1) ∧ s (18 + 12 * k + 1) ≤ 6000)) ∧ (s (18 + 12 * k + 2) = 0 ∨ s (18 + 12 * k + 2) = 1) ∧ (s (18 + 12 * k + 3) = 0 ∨ s (18 + 12 * k + 3) = 1)) ∧
  (∀ k j : Int, 0 ≤ k → k < j → j < s 0 → s (18 + 12 * k) < s (18 + 12 * j)) ∧
  (∀ k j : Int, 0 ≤ k → k < s 0 → 4 ≤ j → j < 12 → 0 ≤ s (18 + 12 * k + j) ∧ s (18 + 12 * k + j) ≤ 600) ∧
  (∀ k : Int, 0 ≤ k → k < s 1 → 0 ≤ rpl s (s (162 + 4 * k)) ∧ (0 ≤ s (162 + 4 * k + 1) ∧ s (162 + 4 * k + 1) ≤ 11) ∧ (-1 ≤ s (162 + 4 * k + 2) ∧ s (162 + 4 * k + 2) ≤ 100) ∧ (0 ≤ s (162 + 4 * k + 3) ∧ s (162 + 4 * k + 3) ≤ 3)) ∧
  (∀ k j : Int, 0 ≤ k → k < j → j < s 1 → ¬ (s (162 + 4 * k) = s (162 + 4 * j) ∧ s (162 + 4 * k + 1) = s (162 + 4 * j + 1))) ∧
  (∀ c : Int, 0 ≤ c → c ≤ 11 → 0 ≤ s (6 + c) ∧ s (6 + c) ≤ 100) ∧
  (∀ c : Int, 0 ≤ c → c ≤ 11 → (0 ≤ s (402 + 5 * c) ∧ s (402 + 5 * c) ≤ 100) ∧ (0 ≤ s (402 + 5 * c + 1) ∧ s (402 + 5 * c + 1) ≤ 100) ∧ (0 ≤ s (402 + 5 * c + 2) ∧ s (402 + 5 * c + 2) ≤ s 5) ∧ (0 ≤ s (402 + 5 * c + 3) ∧ s (402 + 5 * c + 3) ≤ 600) ∧ (0 ≤ s (402 + 5 * c + 4) ∧ s (402 + 5 * c + 4) ≤ 600)) ∧
  (0 ≤ s 2 ∧ s 2 ≤ 99 ∧ 0 ≤ s 3 ∧ s 3 ≤ s 5 ∧ 0 ≤ s 5 ∧ s 5 ≤ 100000)
theorem rI_B {s : Int → Int} (h : rI s) : rB s := h.1
def zsum (f : Int → Int) : Nat → Int
  | 0 => 0
  | n + 1 => zsum f n + f n
theorem zsum_s {f : Int → Int} {k : Int} (h : 0 ≤ k) : zsum f (k + 1).toNat = zsum f k.toNat + f k := by
  rw [show (k + 1).toNat = k.toNat + 1 by omega]
  show zsum f k.toNat + f ((k.toNat : Nat) : Int) = _
  rw [show ((k.toNat : Nat) : Int) = k by omega]
theorem zsum_b {f : Int → Int} {B : Int} (hf : ∀ k, 0 ≤ k → 0 ≤ f k ∧ f k ≤ B) : ∀ n : Nat, 0 ≤ zsum f n ∧ zsum f n ≤ B * n
  | 0 => by simp [zsum]
  | n + 1 => by
    have h1 := zsum_b hf n
    have h2 := hf n (by omega)
    show 0 ≤ zsum f n + f n ∧ zsum f n + f n ≤ B * ((n + 1 : Nat) : Int)
    have e : B * ((n + 1 : Nat) : Int) = B * (n : Int) + B := by
      rw [show ((n + 1 : Nat) : Int) = (n : Int) + 1 by omega, Int.mul_add, Int.mul_one]
    omega
theorem zsum_congr {f g : Int → Int} : ∀ n : Nat, (∀ k : Int, 0 ≤ k → k < n → f k = g k) → zsum f n = zsum g n
  | 0, _ => rfl
  | n + 1, h => by
    show zsum f n + f n = zsum g n + g n
    rw [zsum_congr n (fun k h1 h2 => h k h1 (by omega)), h n (by omega) (by omega)]
def rmv (s : Int → Int) (place ch : Int) : Prop := ¬ rlv s place ch = rlv s (place - 1) ch
def rpo (s : Int → Int) (cue ch : Int) : Int := if 0 ≤ rgv s cue ch then s (162 + 4 * rgv s cue ch + 3) else 0
def rpa (s : Int → Int) (cue part : Int) (dl : Prop) [Decidable dl] : Int := 18 + 12 * rpl s cue + 4 + 2 * part + (if dl then 0 else 1)
def rln (s : Int → Int) (cue ch : Int) : Int := s (18 + 12 * rpl s cue + 4 + 2 * rpo s cue ch + 0) + s (18 + 12 * rpl s cue + 4 + 2 * rpo s cue ch + 1)
def rco (s : Int → Int) (cue : Int) : Int := zsum (fun k => bI (s (162 + 4 * k) = cue)) (s 1).toNat
def rnow (s : Int → Int) (c : Int) : Int := if s (402 + 5 * c + 3) + s (402 + 5 * c + 4) ≤ s (402 + 5 * c + 2) then s (402 + 5 * c + 1) else if s (402 + 5 * c + 2) ≤ s (402 + 5 * c + 3) then s (402 + 5 * c) else s (402 + 5 * c) + ((s (402 + 5 * c + 1) - s (402 + 5 * c)) * (s (402 + 5 * c + 2) - s (402 + 5 * c + 3))).tdiv (s (402 + 5 * c + 4))
abbrev rfa (s : Int → Int) (c : Int) : Prop := s (402 + 5 * c + 2) < s (402 + 5 * c + 3) + s (402 + 5 * c + 4)
def rnk (s : Int → Int) (num : Int) : Int := zfst (fun k => decide (num < s (18 + 12 * k))) (s 0).toNat
def rnx (s : Int → Int) (num : Int) : Int := if rnk s num = -1 then 0 else s (18 + 12 * rnk s num)
def rahF (s : Int → Int) (num : Int) : Nat → Int
  | 0 => 0
  | n + 1 => if s (18 + 12 * n) < num then s (18 + 12 * n) else rahF s num n
def rah (s : Int → Int) (num : Int) : Int := rahF s num (s 0).toNat
theorem rahF_s {s : Int → Int} {num k : Int} (h : 0 ≤ k) : rahF s num (k + 1).toNat = if s (18 + 12 * k) < num then s (18 + 12 * k) else rahF s num k.toNat := by
  rw [show (k + 1).toNat = k.toNat + 1 by omega]
  show (if s (18 + 12 * ((k.toNat : Nat) : Int)) < num then s (18 + 12 * ((k.toNat : Nat) : Int)) else rahF s num k.toNat) = _
  rw [show ((k.toNat : Nat) : Int) = k by omega]
def rfp (s : Int → Int) : Int := if s 2 = 0 then -1 else rpl s (s 2)
abbrev rfo (s : Int → Int) : Prop := 0 ≤ rfp s ∧ 0 < s (18 + 12 * rfp s + 1) ∧ 0 < rnx s (s 2)
def rmk (p : Int → Bool) : Nat → Int32
  | 0 => 0
  | n + 1 => rmk p n ||| (if p n = true then (1 : Int32) <<< (zI n &&& 31) else 0)
theorem rmk_s {p : Int → Bool} {k : Int} (h : 0 ≤ k) : rmk p (k + 1).toNat = rmk p k.toNat ||| (if p k = true then (1 : Int32) <<< (zI k &&& 31) else 0) := by
  rw [show (k + 1).toNat = k.toNat + 1 by omega]
  show (rmk p k.toNat ||| (if p ((k.toNat : Nat) : Int) = true then (1 : Int32) <<< (zI ((k.toNat : Nat) : Int) &&& 31) else 0)) = _
  rw [show ((k.toNat : Nat) : Int) = k by omega]
theorem zI_div {a b : Int} (ha : zR a) (ha2 : -2147483648 < a) (hb : 0 < b) (hb2 : zR b) : zI a / zI b = zI (a.tdiv b) := by
  have h1 : (zI a / zI b).toInt = (zI (a.tdiv b)).toInt := by
    have hq : zR (a.tdiv b) := by
      have h3 : (a.tdiv b).natAbs ≤ a.natAbs := by
        rw [Int.natAbs_tdiv]
        exact Nat.div_le_self _ _
      omega
    have hs : ((Int32.size : Nat) : Int) = 4294967296 := rfl
    rw [Int32.toInt_div, zI_toInt ha, zI_toInt hb2, zI_toInt hq]
    exact Int.bmod_eq_of_le (by omega) (by omega)
  exact Int32.toInt_inj.mp h1
theorem zr_idiv {d : Nat} {en : pz_Env} {C : pz_C} {own : Nat} {cc : ByteArray} {nL : Nat} {rt : Option FieldType} {hh : List (Nat × Nat × Nat × Nat)} {ini : Bool} {Q : pz_Q} {pc : Nat} {ls : List (Option Value)} {st : List Value} {h : pz_H} {nc ns : Nat} {x y : Int} (hd : decode cc pc = .ok (.idiv, 1)) (hx : zR x) (hx2 : -2147483648 < x) (hy : 0 < y) (hy2 : zR y) (k : pz_WP d en C own cc nL rt hh ini Q (pc + 1) ls (.int (zI (x.tdiv y)) :: st) h nc ns) : pz_WP d en C own cc nL rt hh ini Q pc ls (.int (zI y) :: .int (zI x) :: st) h nc ns :=
  pr_idiv hd (fun e => by
    have h2 := (zI_inj hy2 ⟨by decide, by decide⟩).mp (e.trans zI_0.symm)
    omega) (by rw [zI_div hx hx2 hy hy2]; exact k)
section ref
variable {en : pz_Env} {h0 : pz_H} {a : Nat → Nat} {s lv : Int → Int} {A : Nat → Int → Int} {F : Nat → Int}
set_option maxRecDepth 100000 in
set_option maxHeartbeats 4000000 in
theorem kX7_moves (hj : oj 9 a) (hs : rB s) {place ch : Int} (h1 : 0 ≤ place) (h2 : place < s 0) (h3 : 0 ≤ ch) (h4 : ch ≤ 11) : pz_Cd en 4 149 [.ref (a 0), .int (zI place), .int (zI ch)] (rH h0 a s lv A F) 0 0 (pz_ret (some (.int (zI (bI (¬ rlv s place ch = rlv s (place - 1) ch))))) (rH h0 a s lv A F)) := by
  refine pz_in pzt_X7_moves ?_
  obtain ⟨hR, hs0, hs1, hs2, hs3⟩ := id hs
  refine pr_iload_n dX7_moves_0 rfl ?_
  refine zr_if_ne (tgt := 16) dX7_moves_1 (by decide) (by first | exact hR _ | omega) (fun c1 => ?_) (fun c1 => ?_)
  · have e0 : True := trivial
    refine pr_aload_n dX7_moves_16 rfl ?_
    refine pr_iload_n dX7_moves_17 rfl ?_
    refine zr_iconst dX7_moves_18 ?_
    refine zr_isub dX7_moves_19 ?_
    refine pr_iload_n dX7_moves_20 rfl ?_
    refine zcv2i dX7_moves_21 pzm_7_84 pzt_X7_levelIn (rH_0 hj) (kX7_levelIn hj hs (by omega) (by omega) (by omega) (by omega)) (by decide) (Nat.le_of_ble_eq_true rfl) (by decide) ?_
    refine pr_istore_n dX7_moves_24 (by decide) rfl ?_
    refine pr_aload_n dX7_moves_25 rfl ?_
    refine pr_iload_n dX7_moves_26 rfl ?_
    refine pr_iload_n dX7_moves_27 rfl ?_
    refine zcv2i dX7_moves_28 pzm_7_84 pzt_X7_levelIn (rH_0 hj) (kX7_levelIn hj hs (by omega) (by omega) (by omega) (by omega)) (by decide) (Nat.le_of_ble_eq_true rfl) (by decide) ?_
    refine pr_iload_n dX7_moves_31 rfl ?_
    refine zr_icmp_eq (tgt := 39) dX7_moves_32 (by decide) (rlv_R hs _ _) (by first | exact hR _ | exact rlv_R hs _ _) (fun c32 => ?_) (fun c32 => ?_)
    · refine zr_iconst dX7_moves_39 ?_
      exact pr_iret dX7_moves_40 rfl rfl (zret (by first | exact (bI_t (by assumption)).symm | exact (bI_f (not_not_intro (by assumption))).symm | (rw [e0]; first | exact (bI_t (by assumption)).symm | exact (bI_f (not_not_intro (by assumption))).symm)))
    · refine zr_iconst dX7_moves_35 ?_
      refine pr_goto (tgt := 40) dX7_moves_36 (by decide) ?_
      exact pr_iret dX7_moves_40 rfl rfl (zret (by first | exact (bI_t (by assumption)).symm | exact (bI_f (not_not_intro (by assumption))).symm | (rw [e0]; first | exact (bI_t (by assumption)).symm | exact (bI_f (not_not_intro (by assumption))).symm)))
  · have e0 : rlv s (place - 1) ch = s (6 + ch) := by
      rw [show place - 1 = -1 by omega]
      rfl
    refine pr_aload_n dX7_moves_4 rfl ?_
    refine pr_getf dX7_moves_5 pzf_7_9 (rH_0 hj) rfl ?_
    refine zr_bipush dX7_moves_8 (by decide) ?_
    refine pr_iload_n dX7_moves_10 rfl ?_
    refine zr_iadd dX7_moves_11 ?_
    refine zr_iald dX7_moves_12 (rH_1 hj) (by omega) (by decide) ?_
    refine pr_goto (tgt := 24) dX7_moves_13 (by decide) ?_
    refine pr_istore_n dX7_moves_24 (by decide) rfl ?_
    refine pr_aload_n dX7_moves_25 rfl ?_
    refine pr_iload_n dX7_moves_26 rfl ?_
    refine pr_iload_n dX7_moves_27 rfl ?_
    refine zcv2i dX7_moves_28 pzm_7_84 pzt_X7_levelIn (rH_0 hj) (kX7_levelIn hj hs (by omega) (by omega) (by omega) (by omega)) (by decide) (Nat.le_of_ble_eq_true rfl) (by decide) ?_
    refine pr_iload_n dX7_moves_31 rfl ?_
    refine zr_icmp_eq (tgt := 39) dX7_moves_32 (by decide) (rlv_R hs _ _) (by first | exact hR _ | exact rlv_R hs _ _) (fun c32 => ?_) (fun c32 => ?_)
    · refine zr_iconst dX7_moves_39 ?_
      exact pr_iret dX7_moves_40 rfl rfl (zret (by first | exact (bI_t (by assumption)).symm | exact (bI_f (not_not_intro (by assumption))).symm | (rw [e0]; first | exact (bI_t (by assumption)).symm | exact (bI_f (not_not_intro (by assumption))).symm)))
    · refine zr_iconst dX7_moves_35 ?_
      refine pr_goto (tgt := 40) dX7_moves_36 (by decide) ?_
      exact pr_iret dX7_moves_40 rfl rfl (zret (by first | exact (bI_t (by assumption)).symm | exact (bI_f (not_not_intro (by assumption))).symm | (rw [e0]; first | exact (bI_t (by assumption)).symm | exact (bI_f (not_not_intro (by assumption))).symm)))
set_option maxRecDepth 100000 in
set_option maxHeartbeats 4000000 in
theorem kX7_partOf (hj : oj 9 a) (hs : rB s) {cue ch : Int} (h1 : zR cue) (h2 : zR ch) : pz_Cd en 2 150 [.ref (a 0), .int (zI cue), .int (zI ch)] (rH h0 a s lv A F) 0 0 (pz_ret (some (.int (zI (rpo s cue ch)))) (rH h0 a s lv A F)) := by
  refine pz_in pzt_X7_partOf ?_
  obtain ⟨hR, hs0, hs1, hs2, hs3⟩ := id hs
  have hg := rgv_R hs cue ch
  refine pr_aload_n dX7_partOf_0 rfl ?_
  refine pr_iload_n dX7_partOf_1 rfl ?_
  refine pr_iload_n dX7_partOf_2 rfl ?_
  refine zcv2i dX7_partOf_3 pzm_7_98 pzt_X7_given (rH_0 hj) (kX7_given hj hs h1 h2) (by decide) (Nat.le_of_ble_eq_true rfl) (by decide) ?_
  refine pr_istore_n dX7_partOf_6 (by decide) rfl ?_
  refine pr_iload_n dX7_partOf_7 rfl ?_
  refine zr_if_ge (tgt := 15) dX7_partOf_8 (by decide) (by first | exact hR _ | omega) (fun c8 => ?_) (fun c8 => ?_)
  · refine pr_aload_n dX7_partOf_15 rfl ?_
    refine pr_getf dX7_partOf_16 pzf_7_9 (rH_0 hj) rfl ?_
    refine zr_sipush dX7_partOf_19 (by decide) ?_
    refine zr_iconst dX7_partOf_22 ?_
    refine pr_iload_n dX7_partOf_23 rfl ?_
    refine zr_imul dX7_partOf_24 ?_
    refine zr_iadd dX7_partOf_25 ?_
    refine zr_iconst dX7_partOf_26 ?_
    refine zr_iadd dX7_partOf_27 ?_
    refine zr_iald dX7_partOf_28 (rH_1 hj) (by omega) (by decide) ?_
    exact pr_iret dX7_partOf_29 rfl rfl (zret (by unfold rpo; first | exact (if_pos (by omega)).symm | exact (if_neg (by omega)).symm))
  · refine zr_iconst dX7_partOf_11 ?_
    refine pr_goto (tgt := 29) dX7_partOf_12 (by decide) ?_
    exact pr_iret dX7_partOf_29 rfl rfl (zret (by unfold rpo; first | exact (if_pos (by omega)).symm | exact (if_neg (by omega)).symm))
set_option maxRecDepth 100000 in
set_option maxHeartbeats 4000000 in
theorem kX7_partAt (hj : oj 9 a) (hs : rB s) {cue part : Int} {dl : Prop} [dd : Decidable dl] (h1 : zR cue) : pz_Cd en 3 141 [.ref (a 0), .int (zI cue), .int (zI part), .int (zI (bI dl))] (rH h0 a s lv A F) 0 0 (pz_ret (some (.int (zI (18 + 12 * rpl s cue + 4 + 2 * part + (if dl then 0 else 1))))) (rH h0 a s lv A F)) := by
  refine pz_in pzt_X7_partAt ?_
  obtain ⟨hR, hs0, hs1, hs2, hs3⟩ := id hs
  refine pr_aload_n dX7_partAt_0 rfl ?_
  refine pr_iload_n dX7_partAt_1 rfl ?_
  refine zcv1i dX7_partAt_2 pzm_7_67 pzt_X7_placeOf (rH_0 hj) (kX7_placeOf hj hs (by first | exact hR _ | omega)) (by decide) (Nat.le_of_ble_eq_true rfl) (by decide) ?_
  refine zcs1i dX7_partAt_5 pzm_7_63 pzt_X7_at kX7_at (by decide) (Nat.le_of_ble_eq_true rfl) ?_
  refine zr_iconst dX7_partAt_8 ?_
  refine zr_iadd dX7_partAt_9 ?_
  refine zr_iconst dX7_partAt_10 ?_
  refine pr_iload_n dX7_partAt_11 rfl ?_
  refine zr_imul dX7_partAt_12 ?_
  refine zr_iadd dX7_partAt_13 ?_
  refine pr_iload_n dX7_partAt_14 rfl ?_
  refine zr_if_eq (tgt := 22) dX7_partAt_15 (by decide) (bI_R _) (fun c15 => ?_) (fun c15 => ?_)
  · have c15b := bI_0 c15
    refine zr_iconst dX7_partAt_22 ?_
    refine zr_iadd dX7_partAt_23 ?_
    exact pr_iret dX7_partAt_24 rfl rfl (zret (by first | rw [if_pos (by assumption)] | rw [if_neg (by assumption)]))
  · have c15b := bI_ne c15
    refine zr_iconst dX7_partAt_18 ?_
    refine pr_goto (tgt := 23) dX7_partAt_19 (by decide) ?_
    refine zr_iadd dX7_partAt_23 ?_
    exact pr_iret dX7_partAt_24 rfl rfl (zret (by first | rw [if_pos (by assumption)] | rw [if_neg (by assumption)]))
theorem kX7_partAt_1 (hj : oj 9 a) (hs : rB s) {cue part : Int} (h1 : zR cue) : pz_Cd en 3 141 [.ref (a 0), .int (zI cue), .int (zI part), .int (zI 1)] (rH h0 a s lv A F) 0 0 (pz_ret (some (.int (zI (18 + 12 * rpl s cue + 4 + 2 * part + 0)))) (rH h0 a s lv A F)) := kX7_partAt (dl := True) hj hs h1
theorem kX7_partAt_0 (hj : oj 9 a) (hs : rB s) {cue part : Int} (h1 : zR cue) : pz_Cd en 3 141 [.ref (a 0), .int (zI cue), .int (zI part), .int (zI 0)] (rH h0 a s lv A F) 0 0 (pz_ret (some (.int (zI (18 + 12 * rpl s cue + 4 + 2 * part + 1)))) (rH h0 a s lv A F)) := kX7_partAt (dl := False) hj hs h1
theorem rmul_b {x y : Int} (h1 : -100 ≤ x) (h2 : x ≤ 100) (h3 : 0 ≤ y) (h4 : y ≤ 100000) : -10000000 ≤ x * y ∧ x * y ≤ 10000000 := by
  have g1 := Int.mul_le_mul_of_nonneg_right h2 h3
  have g2 := Int.mul_le_mul_of_nonneg_right h1 h3
  omega
theorem rpo_R {s : Int → Int} (hi : rI s) {cue ch : Int} : 0 ≤ rpo s cue ch ∧ rpo s cue ch ≤ 3 := by
  have hg := rgv_R (rI_B hi) cue ch
  unfold rpo
  split
  · exact (hi.2.2.2.2.1 _ (by omega) (by omega)).2.2.2
  · omega
theorem bI_true : zI 1 = zI (bI True) := rfl
theorem bI_false : zI 0 = zI (bI False) := rfl
set_option maxRecDepth 100000 in
set_option maxHeartbeats 4000000 in
theorem kX7_lengthOf (hj : oj 9 a) (hi : rI s) {cue ch : Int} (h1 : zR cue) (h2 : zR ch) (h3 : 0 ≤ rpl s cue) : pz_Cd en 4 151 [.ref (a 0), .int (zI cue), .int (zI ch)] (rH h0 a s lv A F) 0 0 (pz_ret (some (.int (zI (rln s cue ch)))) (rH h0 a s lv A F)) := by
  refine pz_in pzt_X7_lengthOf ?_
  have hs := rI_B hi
  obtain ⟨hR, hs0, hs1, hs2, hs3⟩ := id hs
  obtain ⟨-, hq1, hq2, hq3, hq4, hq5, hq6, hq7, hq8, hq9, hq10, hq11, hq12, hq13⟩ := id hi
  have hp := rpo_R hi (cue := cue) (ch := ch)
  have hpl := rpl_R hs cue
  refine pr_aload_n dX7_lengthOf_0 rfl ?_
  refine pr_iload_n dX7_lengthOf_1 rfl ?_
  refine pr_iload_n dX7_lengthOf_2 rfl ?_
  refine zcv2i dX7_lengthOf_3 pzm_7_104 pzt_X7_partOf (rH_0 hj) (kX7_partOf hj hs h1 h2) (by decide) (Nat.le_of_ble_eq_true rfl) (by decide) ?_
  refine pr_istore_n dX7_lengthOf_6 (by decide) rfl ?_
  refine pr_aload_n dX7_lengthOf_7 rfl ?_
  refine pr_getf dX7_lengthOf_8 pzf_7_9 (rH_0 hj) rfl ?_
  refine pr_aload_n dX7_lengthOf_11 rfl ?_
  refine pr_iload_n dX7_lengthOf_12 rfl ?_
  refine pr_iload_n dX7_lengthOf_13 rfl ?_
  refine zr_iconst dX7_lengthOf_14 ?_
  refine zcv3i dX7_lengthOf_15 pzm_7_94 pzt_X7_partAt (rH_0 hj) (kX7_partAt_1 hj hs h1) (by decide) (Nat.le_of_ble_eq_true rfl) (by decide) ?_
  refine zr_iald dX7_lengthOf_18 (rH_1 hj) (by omega) (by decide) ?_
  refine pr_aload_n dX7_lengthOf_19 rfl ?_
  refine pr_getf dX7_lengthOf_20 pzf_7_9 (rH_0 hj) rfl ?_
  refine pr_aload_n dX7_lengthOf_23 rfl ?_
  refine pr_iload_n dX7_lengthOf_24 rfl ?_
  refine pr_iload_n dX7_lengthOf_25 rfl ?_
  refine zr_iconst dX7_lengthOf_26 ?_
  refine zcv3i dX7_lengthOf_27 pzm_7_94 pzt_X7_partAt (rH_0 hj) (kX7_partAt_0 hj hs h1) (by decide) (Nat.le_of_ble_eq_true rfl) (by decide) ?_
  refine zr_iald dX7_lengthOf_30 (rH_1 hj) (by omega) (by decide) ?_
  refine zr_iadd dX7_lengthOf_31 ?_
  exact pr_iret dX7_lengthOf_32 rfl rfl (zret (by rfl))
set_option maxRecDepth 100000 in
set_option maxHeartbeats 4000000 in
theorem kX7_fade  {c : Int} : pz_Cd en 1 175 [.int (zI c)] h0 0 0 (pz_ret (some (.int (zI (402 + 5 * c)))) h0) := by
  refine pz_in pzt_X7_fade ?_
  refine zr_sipush dX7_fade_0 (by decide) ?_
  refine zr_iconst dX7_fade_3 ?_
  refine pr_iload_n dX7_fade_4 rfl ?_
  refine zr_imul dX7_fade_5 ?_
  refine zr_iadd dX7_fade_6 ?_
  exact pr_iret dX7_fade_7 rfl rfl (zret (by rfl))
set_option maxRecDepth 100000 in
set_option maxHeartbeats 4000000 in
theorem kX7_isFading (hj : oj 9 a) (hi : rI s) {c : Int} (h1 : 0 ≤ c) (h2 : c ≤ 11) : pz_Cd en 2 177 [.ref (a 0), .int (zI c)] (rH h0 a s lv A F) 0 0 (pz_ret (some (.int (zI (bI (rfa s c))))) (rH h0 a s lv A F)) := by
  refine pz_in pzt_X7_isFading ?_
  have hs := rI_B hi
  obtain ⟨hR, hs0, hs1, hs2, hs3⟩ := id hs
  obtain ⟨-, hq1, hq2, hq3, hq4, hq5, hq6, hq7, hq8, hq9, hq10, hq11, hq12, hq13⟩ := id hi
  obtain ⟨f1, f2, f3, f4, f5⟩ := hq7 c h1 h2
  refine pr_iload_n dX7_isFading_0 rfl ?_
  refine zcs1i dX7_isFading_1 pzm_7_162 pzt_X7_fade kX7_fade (by decide) (Nat.le_of_ble_eq_true rfl) ?_
  refine pr_istore_n dX7_isFading_4 (by decide) rfl ?_
  refine pr_aload_n dX7_isFading_5 rfl ?_
  refine pr_getf dX7_isFading_6 pzf_7_9 (rH_0 hj) rfl ?_
  refine pr_iload_n dX7_isFading_9 rfl ?_
  refine zr_iconst dX7_isFading_10 ?_
  refine zr_iadd dX7_isFading_11 ?_
  refine zr_iald dX7_isFading_12 (rH_1 hj) (by omega) (by decide) ?_
  refine pr_aload_n dX7_isFading_13 rfl ?_
  refine pr_getf dX7_isFading_14 pzf_7_9 (rH_0 hj) rfl ?_
  refine pr_iload_n dX7_isFading_17 rfl ?_
  refine zr_iconst dX7_isFading_18 ?_
  refine zr_iadd dX7_isFading_19 ?_
  refine zr_iald dX7_isFading_20 (rH_1 hj) (by omega) (by decide) ?_
  refine pr_aload_n dX7_isFading_21 rfl ?_
  refine pr_getf dX7_isFading_22 pzf_7_9 (rH_0 hj) rfl ?_
  refine pr_iload_n dX7_isFading_25 rfl ?_
  refine zr_iconst dX7_isFading_26 ?_
  refine zr_iadd dX7_isFading_27 ?_
  refine zr_iald dX7_isFading_28 (rH_1 hj) (by omega) (by decide) ?_
  refine zr_iadd dX7_isFading_29 ?_
  refine zr_icmp_ge (tgt := 37) dX7_isFading_30 (by decide) (by first | exact hR _ | omega) (by first | exact hR _ | omega) (fun c30 => ?_) (fun c30 => ?_)
  · refine zr_iconst dX7_isFading_37 ?_
    exact pr_iret dX7_isFading_38 rfl rfl (zret (by first | exact (bI_t (by omega)).symm | exact (bI_f (by omega)).symm))
  · refine zr_iconst dX7_isFading_33 ?_
    refine pr_goto (tgt := 38) dX7_isFading_34 (by decide) ?_
    exact pr_iret dX7_isFading_38 rfl rfl (zret (by first | exact (bI_t (by omega)).symm | exact (bI_f (by omega)).symm))
set_option maxRecDepth 100000 in
set_option maxHeartbeats 4000000 in
theorem kX7_nowOf (hj : oj 9 a) (hi : rI s) {c : Int} (h1 : 0 ≤ c) (h2 : c ≤ 11) : pz_Cd en 2 176 [.ref (a 0), .int (zI c)] (rH h0 a s lv A F) 0 0 (pz_ret (some (.int (zI (rnow s c)))) (rH h0 a s lv A F)) := by
  refine pz_in pzt_X7_nowOf ?_
  have hs := rI_B hi
  obtain ⟨hR, hs0, hs1, hs2, hs3⟩ := id hs
  obtain ⟨-, hq1, hq2, hq3, hq4, hq5, hq6, hq7, hq8, hq9, hq10, hq11, hq12, hq13⟩ := id hi
  obtain ⟨f1, f2, f3, f4, f5⟩ := hq7 c h1 h2
  refine pr_iload_n dX7_nowOf_0 rfl ?_
  refine zcs1i dX7_nowOf_1 pzm_7_162 pzt_X7_fade kX7_fade (by decide) (Nat.le_of_ble_eq_true rfl) ?_
  refine pr_istore_n dX7_nowOf_4 (by decide) rfl ?_
  refine pr_aload_n dX7_nowOf_5 rfl ?_
  refine pr_getf dX7_nowOf_6 pzf_7_9 (rH_0 hj) rfl ?_
  refine pr_iload_n dX7_nowOf_9 rfl ?_
  refine zr_iald dX7_nowOf_10 (rH_1 hj) (by omega) (by decide) ?_
  refine pr_istore_n dX7_nowOf_11 (by decide) rfl ?_
  refine pr_aload_n dX7_nowOf_12 rfl ?_
  refine pr_getf dX7_nowOf_13 pzf_7_9 (rH_0 hj) rfl ?_
  refine pr_iload_n dX7_nowOf_16 rfl ?_
  refine zr_iconst dX7_nowOf_17 ?_
  refine zr_iadd dX7_nowOf_18 ?_
  refine zr_iald dX7_nowOf_19 (rH_1 hj) (by omega) (by decide) ?_
  refine pr_istore dX7_nowOf_20 (by decide) rfl ?_
  refine pr_aload_n dX7_nowOf_22 rfl ?_
  refine pr_getf dX7_nowOf_23 pzf_7_9 (rH_0 hj) rfl ?_
  refine pr_iload_n dX7_nowOf_26 rfl ?_
  refine zr_iconst dX7_nowOf_27 ?_
  refine zr_iadd dX7_nowOf_28 ?_
  refine zr_iald dX7_nowOf_29 (rH_1 hj) (by omega) (by decide) ?_
  refine pr_istore dX7_nowOf_30 (by decide) rfl ?_
  refine pr_aload_n dX7_nowOf_32 rfl ?_
  refine pr_getf dX7_nowOf_33 pzf_7_9 (rH_0 hj) rfl ?_
  refine pr_iload_n dX7_nowOf_36 rfl ?_
  refine zr_iconst dX7_nowOf_37 ?_
  refine zr_iadd dX7_nowOf_38 ?_
  refine zr_iald dX7_nowOf_39 (rH_1 hj) (by omega) (by decide) ?_
  refine pr_istore dX7_nowOf_40 (by decide) rfl ?_
  refine pr_aload_n dX7_nowOf_42 rfl ?_
  refine pr_getf dX7_nowOf_43 pzf_7_9 (rH_0 hj) rfl ?_
  refine pr_iload_n dX7_nowOf_46 rfl ?_
  refine zr_iconst dX7_nowOf_47 ?_
  refine zr_iadd dX7_nowOf_48 ?_
  refine zr_iald dX7_nowOf_49 (rH_1 hj) (by omega) (by decide) ?_
  refine pr_istore dX7_nowOf_50 (by decide) rfl ?_
  refine pr_iload dX7_nowOf_52 rfl ?_
  refine pr_iload dX7_nowOf_54 rfl ?_
  refine pr_iload dX7_nowOf_56 rfl ?_
  refine zr_iadd dX7_nowOf_58 ?_
  refine zr_icmp_lt (tgt := 65) dX7_nowOf_59 (by decide) (by first | exact hR _ | omega) (by first | exact hR _ | omega) (fun c59 => ?_) (fun c59 => ?_)
  · refine pr_iload dX7_nowOf_65 rfl ?_
    refine pr_iload dX7_nowOf_67 rfl ?_
    refine zr_icmp_gt (tgt := 76) dX7_nowOf_69 (by decide) (by first | exact hR _ | omega) (by first | exact hR _ | omega) (fun c69 => ?_) (fun c69 => ?_)
    · refine pr_iload_n dX7_nowOf_76 rfl ?_
      refine pr_iload dX7_nowOf_77 rfl ?_
      refine pr_iload_n dX7_nowOf_79 rfl ?_
      refine zr_isub dX7_nowOf_80 ?_
      refine pr_iload dX7_nowOf_81 rfl ?_
      refine pr_iload dX7_nowOf_83 rfl ?_
      refine zr_isub dX7_nowOf_85 ?_
      refine zr_imul dX7_nowOf_86 ?_
      refine pr_iload dX7_nowOf_87 rfl ?_
      have hb : -10000000 ≤ (s (402 + 5 * c + 1) - s (402 + 5 * c)) * (s (402 + 5 * c + 2) - s (402 + 5 * c + 3)) ∧ (s (402 + 5 * c + 1) - s (402 + 5 * c)) * (s (402 + 5 * c + 2) - s (402 + 5 * c + 3)) ≤ 10000000 := rmul_b (by omega) (by omega) (by omega) (by omega)
      refine zr_idiv dX7_nowOf_89 (by omega) (by omega) (by omega) (by omega) ?_
      refine zr_iadd dX7_nowOf_90 ?_
      exact pr_iret dX7_nowOf_91 rfl rfl (zret (by unfold rnow; first | rw [if_pos (by omega)] | rw [if_neg (by omega), if_pos (by omega)] | rw [if_neg (by omega), if_neg (by omega)]))
    · refine pr_iload_n dX7_nowOf_72 rfl ?_
      refine pr_goto (tgt := 91) dX7_nowOf_73 (by decide) ?_
      exact pr_iret dX7_nowOf_91 rfl rfl (zret (by unfold rnow; first | rw [if_pos (by omega)] | rw [if_neg (by omega), if_pos (by omega)] | rw [if_neg (by omega), if_neg (by omega)]))
  · refine pr_iload dX7_nowOf_62 rfl ?_
    exact pr_iret dX7_nowOf_64 rfl rfl (zret (by unfold rnow; first | rw [if_pos (by omega)] | rw [if_neg (by omega), if_pos (by omega)] | rw [if_neg (by omega), if_neg (by omega)]))
set_option maxRecDepth 100000 in
set_option maxHeartbeats 4000000 in
theorem kX7_nextCue (hj : oj 9 a) (hs : rB s) {num : Int} (h1 : zR num) : pz_Cd en 2 179 [.ref (a 0), .int (zI num)] (rH h0 a s lv A F) 0 0 (pz_ret (some (.int (zI (rnx s num)))) (rH h0 a s lv A F)) := by
  refine pz_in pzt_X7_nextCue ?_
  obtain ⟨hR, hs0, hs1, hs2, hs3⟩ := id hs
  have loop : pz_WP 2 en (pz_Cd en (2 - 1)) 7 cX7_nextCue 3 (some .int) [] false (pz_ret (some (.int (zI (rnx s num)))) (rH h0 a s lv A F)) 2 [some (.ref (a 0)), some (.int (zI num)), some (.int (zI 0))] [] (rH h0 a s lv A F) 0 0 := by
    refine zup (P := fun k => (∀ j : Int, 0 ≤ j → j < k → ¬ num < s (18 + 12 * j)) → pz_WP 2 en (pz_Cd en (2 - 1)) 7 cX7_nextCue 3 (some .int) [] false (pz_ret (some (.int (zI (rnx s num)))) (rH h0 a s lv A F)) 2 [some (.ref (a 0)), some (.int (zI num)), some (.int (zI k))] [] (rH h0 a s lv A F) 0 0) (lo := 0) (hi := (s 0)) hs0 ?_ ?_ (fun j h1 h2 => absurd h2 (by omega))
    · intro hno 
      refine pr_iload_n dX7_nextCue_2 rfl ?_
      refine pr_aload_n dX7_nextCue_3 rfl ?_
      refine pr_getf dX7_nextCue_4 pzf_7_9 (rH_0 hj) rfl ?_
      refine zr_iconst dX7_nextCue_7 ?_
      refine zr_iald dX7_nextCue_8 (rH_1 hj) (by omega) (by decide) ?_
      refine zr_icmp_ge (tgt := 41) dX7_nextCue_9 (by decide) (by first | exact hR _ | omega) (by first | exact hR _ | omega) (fun c9 => ?_) (fun c9 => by exfalso; omega)
      refine zr_iconst dX7_nextCue_41 ?_
      exact pr_iret dX7_nextCue_42 rfl rfl (zret (by unfold rnx; rw [show rnk s num = -1 from zfst_no (fun k g1 g2 => by simp only [decide_eq_false_iff_not]; exact hno k g1 (by omega))]; rfl))
    · intro k hk1 hk2 ih hno
      refine pr_iload_n dX7_nextCue_2 rfl ?_
      refine pr_aload_n dX7_nextCue_3 rfl ?_
      refine pr_getf dX7_nextCue_4 pzf_7_9 (rH_0 hj) rfl ?_
      refine zr_iconst dX7_nextCue_7 ?_
      refine zr_iald dX7_nextCue_8 (rH_1 hj) (by omega) (by decide) ?_
      refine zr_icmp_ge (tgt := 41) dX7_nextCue_9 (by decide) (by first | exact hR _ | omega) (by first | exact hR _ | omega) (fun c9 => by exfalso; omega) (fun c9 => ?_)
      refine pr_aload_n dX7_nextCue_12 rfl ?_
      refine pr_getf dX7_nextCue_13 pzf_7_9 (rH_0 hj) rfl ?_
      refine pr_iload_n dX7_nextCue_16 rfl ?_
      refine zcs1i dX7_nextCue_17 pzm_7_63 pzt_X7_at kX7_at (by decide) (Nat.le_of_ble_eq_true rfl) ?_
      refine zr_iald dX7_nextCue_20 (rH_1 hj) (by omega) (by decide) ?_
      refine pr_iload_n dX7_nextCue_21 rfl ?_
      refine zr_icmp_le (tgt := 35) dX7_nextCue_22 (by decide) (by first | exact hR _ | omega) (by first | exact hR _ | omega) (fun c22 => ?_) (fun c22 => ?_)
      · refine zr_iinc dX7_nextCue_35 rfl (by decide) rfl ?_
        refine pr_goto (tgt := 2) dX7_nextCue_38 (by decide) ?_
        exact ih (fun j g1 g2 => by
          by_cases e : j = k
          · rw [e]; omega
          · exact hno j g1 (by omega))
      · refine pr_aload_n dX7_nextCue_25 rfl ?_
        refine pr_getf dX7_nextCue_26 pzf_7_9 (rH_0 hj) rfl ?_
        refine pr_iload_n dX7_nextCue_29 rfl ?_
        refine zcs1i dX7_nextCue_30 pzm_7_63 pzt_X7_at kX7_at (by decide) (Nat.le_of_ble_eq_true rfl) ?_
        refine zr_iald dX7_nextCue_33 (rH_1 hj) (by omega) (by decide) ?_
        exact pr_iret dX7_nextCue_34 rfl rfl (zret (by unfold rnx; rw [show rnk s num = k from zfst_eq hk1 (by omega) (by simp only [decide_eq_true_eq]; omega) (fun j g1 g2 => by simp only [decide_eq_false_iff_not]; exact hno j g1 g2), if_neg (by omega)]))
  refine zr_iconst dX7_nextCue_0 ?_
  refine pr_istore_n dX7_nextCue_1 (by decide) rfl ?_
  exact loop
set_option maxRecDepth 100000 in
set_option maxHeartbeats 4000000 in
theorem kX7_cueAhead (hj : oj 9 a) (hs : rB s) {num : Int} (h1 : zR num) : pz_Cd en 2 180 [.ref (a 0), .int (zI num)] (rH h0 a s lv A F) 0 0 (pz_ret (some (.int (zI (rah s num)))) (rH h0 a s lv A F)) := by
  refine pz_in pzt_X7_cueAhead ?_
  obtain ⟨hR, hs0, hs1, hs2, hs3⟩ := id hs
  have loop : pz_WP 2 en (pz_Cd en (2 - 1)) 7 cX7_cueAhead 4 (some .int) [] false (pz_ret (some (.int (zI (rah s num)))) (rH h0 a s lv A F)) 4 [some (.ref (a 0)), some (.int (zI num)), some (.int (zI (rahF s num (0 : Int).toNat))), some (.int (zI 0))] [] (rH h0 a s lv A F) 0 0 := by
    refine zup (P := fun k => pz_WP 2 en (pz_Cd en (2 - 1)) 7 cX7_cueAhead 4 (some .int) [] false (pz_ret (some (.int (zI (rah s num)))) (rH h0 a s lv A F)) 4 [some (.ref (a 0)), some (.int (zI num)), some (.int (zI (rahF s num (k : Int).toNat))), some (.int (zI k))] [] (rH h0 a s lv A F) 0 0) (lo := 0) (hi := (s 0)) hs0 ?_ ?_
    · skip
      refine pr_iload_n dX7_cueAhead_4 rfl ?_
      refine pr_aload_n dX7_cueAhead_5 rfl ?_
      refine pr_getf dX7_cueAhead_6 pzf_7_9 (rH_0 hj) rfl ?_
      refine zr_iconst dX7_cueAhead_9 ?_
      refine zr_iald dX7_cueAhead_10 (rH_1 hj) (by omega) (by decide) ?_
      refine zr_icmp_ge (tgt := 47) dX7_cueAhead_11 (by decide) (by first | exact hR _ | omega) (by first | exact hR _ | omega) (fun c11 => ?_) (fun c11 => by exfalso; omega)
      refine pr_iload_n dX7_cueAhead_47 rfl ?_
      exact pr_iret dX7_cueAhead_48 rfl rfl (zret (by rfl))
    · intro k hk1 hk2 ih
      rw [rahF_s hk1] at ih
      refine pr_iload_n dX7_cueAhead_4 rfl ?_
      refine pr_aload_n dX7_cueAhead_5 rfl ?_
      refine pr_getf dX7_cueAhead_6 pzf_7_9 (rH_0 hj) rfl ?_
      refine zr_iconst dX7_cueAhead_9 ?_
      refine zr_iald dX7_cueAhead_10 (rH_1 hj) (by omega) (by decide) ?_
      refine zr_icmp_ge (tgt := 47) dX7_cueAhead_11 (by decide) (by first | exact hR _ | omega) (by first | exact hR _ | omega) (fun c11 => by exfalso; omega) (fun c11 => ?_)
      refine pr_aload_n dX7_cueAhead_14 rfl ?_
      refine pr_getf dX7_cueAhead_15 pzf_7_9 (rH_0 hj) rfl ?_
      refine pr_iload_n dX7_cueAhead_18 rfl ?_
      refine zcs1i dX7_cueAhead_19 pzm_7_63 pzt_X7_at kX7_at (by decide) (Nat.le_of_ble_eq_true rfl) ?_
      refine zr_iald dX7_cueAhead_22 (rH_1 hj) (by omega) (by decide) ?_
      refine pr_iload_n dX7_cueAhead_23 rfl ?_
      refine zr_icmp_ge (tgt := 39) dX7_cueAhead_24 (by decide) (by first | exact hR _ | omega) (by first | exact hR _ | omega) (fun c24 => ?_) (fun c24 => ?_)
      · rw [if_neg (by omega)] at ih
        refine pr_iload_n dX7_cueAhead_39 rfl ?_
        refine pr_istore_n dX7_cueAhead_40 (by decide) rfl ?_
        refine zr_iinc dX7_cueAhead_41 rfl (by decide) rfl ?_
        refine pr_goto (tgt := 4) dX7_cueAhead_44 (by decide) ?_
        exact ih
      · rw [if_pos (by omega)] at ih
        refine pr_aload_n dX7_cueAhead_27 rfl ?_
        refine pr_getf dX7_cueAhead_28 pzf_7_9 (rH_0 hj) rfl ?_
        refine pr_iload_n dX7_cueAhead_31 rfl ?_
        refine zcs1i dX7_cueAhead_32 pzm_7_63 pzt_X7_at kX7_at (by decide) (Nat.le_of_ble_eq_true rfl) ?_
        refine zr_iald dX7_cueAhead_35 (rH_1 hj) (by omega) (by decide) ?_
        refine pr_goto (tgt := 40) dX7_cueAhead_36 (by decide) ?_
        refine pr_istore_n dX7_cueAhead_40 (by decide) rfl ?_
        refine zr_iinc dX7_cueAhead_41 rfl (by decide) rfl ?_
        refine pr_goto (tgt := 4) dX7_cueAhead_44 (by decide) ?_
        exact ih
  refine zr_iconst dX7_cueAhead_0 ?_
  refine pr_istore_n dX7_cueAhead_1 (by decide) rfl ?_
  refine zr_iconst dX7_cueAhead_2 ?_
  refine pr_istore_n dX7_cueAhead_3 (by decide) rfl ?_
  exact loop
theorem rfp_R {s : Int → Int} (hs : rB s) : -1 ≤ rfp s ∧ rfp s < 12 := by
  have h := rpl_R hs (s 2)
  unfold rfp
  split <;> omega
theorem rnx_R {s : Int → Int} (hs : rB s) (num : Int) : zR (rnx s num) := by
  unfold rnx
  split
  · exact ⟨by decide, by decide⟩
  · exact hs.1 _
set_option maxRecDepth 100000 in
set_option maxHeartbeats 4000000 in
theorem kX7_follows (hj : oj 9 a) (hs : rB s)  : pz_Cd en 3 187 [.ref (a 0)] (rH h0 a s lv A F) 0 0 (pz_ret (some (.int (zI (bI (rfo s))))) (rH h0 a s lv A F)) := by
  refine pz_in pzt_X7_follows ?_
  obtain ⟨hR, hs0, hs1, hs2, hs3⟩ := id hs
  have hf := rfp_R hs
  have hpl := rpl_R hs (s 2)
  refine pr_aload_n dX7_follows_0 rfl ?_
  refine pr_getf dX7_follows_1 pzf_7_9 (rH_0 hj) rfl ?_
  refine zr_iconst dX7_follows_4 ?_
  refine zr_iald dX7_follows_5 (rH_1 hj) (by omega) (by decide) ?_
  refine zr_if_ne (tgt := 13) dX7_follows_6 (by decide) (hR _) (fun c6 => ?_) (fun c6 => ?_)
  · have e0 : rfp s = rpl s (s 2) := if_neg c6
    refine pr_aload_n dX7_follows_13 rfl ?_
    refine pr_aload_n dX7_follows_14 rfl ?_
    refine pr_getf dX7_follows_15 pzf_7_9 (rH_0 hj) rfl ?_
    refine zr_iconst dX7_follows_18 ?_
    refine zr_iald dX7_follows_19 (rH_1 hj) (by omega) (by decide) ?_
    refine zcv1i dX7_follows_20 pzm_7_67 pzt_X7_placeOf (rH_0 hj) (kX7_placeOf hj hs (by first | exact hR _ | omega)) (by decide) (Nat.le_of_ble_eq_true rfl) (by decide) ?_
    refine pr_istore_n dX7_follows_23 (by decide) rfl ?_
    refine pr_iload_n dX7_follows_24 rfl ?_
    refine zr_if_lt (tgt := 59) dX7_follows_25 (by decide) (by omega) (fun c25 => ?_) (fun c25 => ?_)
    · refine zr_iconst dX7_follows_59 ?_
      exact pr_iret dX7_follows_60 rfl rfl (zret (by first | exact (bI_t (show rfo s from ⟨by rw [e0]; omega, by rw [e0]; omega, by omega⟩)).symm | exact (bI_f (fun z => by obtain ⟨z1, z2, z3⟩ := z; rw [e0] at z1; omega)).symm | exact (bI_f (fun z => by obtain ⟨z1, z2, z3⟩ := z; rw [e0] at z2; omega)).symm))
    · refine pr_aload_n dX7_follows_28 rfl ?_
      refine pr_getf dX7_follows_29 pzf_7_9 (rH_0 hj) rfl ?_
      refine pr_iload_n dX7_follows_32 rfl ?_
      refine zcs1i dX7_follows_33 pzm_7_63 pzt_X7_at kX7_at (by decide) (Nat.le_of_ble_eq_true rfl) ?_
      refine zr_iconst dX7_follows_36 ?_
      refine zr_iadd dX7_follows_37 ?_
      refine zr_iald dX7_follows_38 (rH_1 hj) (by omega) (by decide) ?_
      refine zr_if_le (tgt := 59) dX7_follows_39 (by decide) (hR _) (fun c39 => ?_) (fun c39 => ?_)
      · refine zr_iconst dX7_follows_59 ?_
        exact pr_iret dX7_follows_60 rfl rfl (zret (by first | exact (bI_t (show rfo s from ⟨by rw [e0]; omega, by rw [e0]; omega, by omega⟩)).symm | exact (bI_f (fun z => by obtain ⟨z1, z2, z3⟩ := z; rw [e0] at z1; omega)).symm | exact (bI_f (fun z => by obtain ⟨z1, z2, z3⟩ := z; rw [e0] at z2; omega)).symm))
      · refine pr_aload_n dX7_follows_42 rfl ?_
        refine pr_aload_n dX7_follows_43 rfl ?_
        refine pr_getf dX7_follows_44 pzf_7_9 (rH_0 hj) rfl ?_
        refine zr_iconst dX7_follows_47 ?_
        refine zr_iald dX7_follows_48 (rH_1 hj) (by omega) (by decide) ?_
        refine zcv1i dX7_follows_49 pzm_7_171 pzt_X7_nextCue (rH_0 hj) (kX7_nextCue hj hs (by first | exact hR _ | omega)) (by decide) (Nat.le_of_ble_eq_true rfl) (by decide) ?_
        refine zr_if_le (tgt := 59) dX7_follows_52 (by decide) (rnx_R hs _) (fun c52 => ?_) (fun c52 => ?_)
        · refine zr_iconst dX7_follows_59 ?_
          exact pr_iret dX7_follows_60 rfl rfl (zret (by first | exact (bI_t (show rfo s from ⟨by rw [e0]; omega, by rw [e0]; omega, by omega⟩)).symm | exact (bI_f (fun z => by obtain ⟨z1, z2, z3⟩ := z; rw [e0] at z1; omega)).symm | exact (bI_f (fun z => by obtain ⟨z1, z2, z3⟩ := z; rw [e0] at z2; omega)).symm))
        · refine zr_iconst dX7_follows_55 ?_
          refine pr_goto (tgt := 60) dX7_follows_56 (by decide) ?_
          exact pr_iret dX7_follows_60 rfl rfl (zret (by first | exact (bI_t (show rfo s from ⟨by rw [e0]; omega, by rw [e0]; omega, by omega⟩)).symm | exact (bI_f (fun z => by obtain ⟨z1, z2, z3⟩ := z; rw [e0] at z1; omega)).symm | exact (bI_f (fun z => by obtain ⟨z1, z2, z3⟩ := z; rw [e0] at z2; omega)).symm))
  · have e0 : rfp s = -1 := if_pos c6
    refine zr_iconst dX7_follows_9 ?_
    refine pr_goto (tgt := 23) dX7_follows_10 (by decide) ?_
    refine pr_istore_n dX7_follows_23 (by decide) rfl ?_
    refine pr_iload_n dX7_follows_24 rfl ?_
    refine zr_if_lt (tgt := 59) dX7_follows_25 (by decide) (by omega) (fun c25 => ?_) (fun c25 => ?_)
    · refine zr_iconst dX7_follows_59 ?_
      exact pr_iret dX7_follows_60 rfl rfl (zret (by first | exact (bI_t (show rfo s from ⟨by rw [e0]; omega, by rw [e0]; omega, by omega⟩)).symm | exact (bI_f (fun z => by obtain ⟨z1, z2, z3⟩ := z; rw [e0] at z1; omega)).symm | exact (bI_f (fun z => by obtain ⟨z1, z2, z3⟩ := z; rw [e0] at z2; omega)).symm))
    · refine pr_aload_n dX7_follows_28 rfl ?_
      refine pr_getf dX7_follows_29 pzf_7_9 (rH_0 hj) rfl ?_
      refine pr_iload_n dX7_follows_32 rfl ?_
      refine zcs1i dX7_follows_33 pzm_7_63 pzt_X7_at kX7_at (by decide) (Nat.le_of_ble_eq_true rfl) ?_
      refine zr_iconst dX7_follows_36 ?_
      refine zr_iadd dX7_follows_37 ?_
      refine zr_iald dX7_follows_38 (rH_1 hj) (by omega) (by decide) ?_
      refine zr_if_le (tgt := 59) dX7_follows_39 (by decide) (hR _) (fun c39 => ?_) (fun c39 => ?_)
      · refine zr_iconst dX7_follows_59 ?_
        exact pr_iret dX7_follows_60 rfl rfl (zret (by first | exact (bI_t (show rfo s from ⟨by rw [e0]; omega, by rw [e0]; omega, by omega⟩)).symm | exact (bI_f (fun z => by obtain ⟨z1, z2, z3⟩ := z; rw [e0] at z1; omega)).symm | exact (bI_f (fun z => by obtain ⟨z1, z2, z3⟩ := z; rw [e0] at z2; omega)).symm))
      · refine pr_aload_n dX7_follows_42 rfl ?_
        refine pr_aload_n dX7_follows_43 rfl ?_
        refine pr_getf dX7_follows_44 pzf_7_9 (rH_0 hj) rfl ?_
        refine zr_iconst dX7_follows_47 ?_
        refine zr_iald dX7_follows_48 (rH_1 hj) (by omega) (by decide) ?_
        refine zcv1i dX7_follows_49 pzm_7_171 pzt_X7_nextCue (rH_0 hj) (kX7_nextCue hj hs (by first | exact hR _ | omega)) (by decide) (Nat.le_of_ble_eq_true rfl) (by decide) ?_
        refine zr_if_le (tgt := 59) dX7_follows_52 (by decide) (rnx_R hs _) (fun c52 => ?_) (fun c52 => ?_)
        · refine zr_iconst dX7_follows_59 ?_
          exact pr_iret dX7_follows_60 rfl rfl (zret (by first | exact (bI_t (show rfo s from ⟨by rw [e0]; omega, by rw [e0]; omega, by omega⟩)).symm | exact (bI_f (fun z => by obtain ⟨z1, z2, z3⟩ := z; rw [e0] at z1; omega)).symm | exact (bI_f (fun z => by obtain ⟨z1, z2, z3⟩ := z; rw [e0] at z2; omega)).symm))
        · refine zr_iconst dX7_follows_55 ?_
          refine pr_goto (tgt := 60) dX7_follows_56 (by decide) ?_
          exact pr_iret dX7_follows_60 rfl rfl (zret (by first | exact (bI_t (show rfo s from ⟨by rw [e0]; omega, by rw [e0]; omega, by omega⟩)).symm | exact (bI_f (fun z => by obtain ⟨z1, z2, z3⟩ := z; rw [e0] at z1; omega)).symm | exact (bI_f (fun z => by obtain ⟨z1, z2, z3⟩ := z; rw [e0] at z2; omega)).symm))
set_option maxRecDepth 100000 in
set_option maxHeartbeats 4000000 in
theorem kX7_countOf (hj : oj 9 a) (hs : rB s) {cue : Int} (h1 : zR cue) : pz_Cd en 1 152 [.ref (a 0), .int (zI cue)] (rH h0 a s lv A F) 0 0 (pz_ret (some (.int (zI (rco s cue)))) (rH h0 a s lv A F)) := by
  refine pz_in pzt_X7_countOf ?_
  obtain ⟨hR, hs0, hs1, hs2, hs3⟩ := id hs
  have loop : pz_WP 1 en (pz_Cd en (1 - 1)) 7 cX7_countOf 4 (some .int) [] false (pz_ret (some (.int (zI (rco s cue)))) (rH h0 a s lv A F)) 4 [some (.ref (a 0)), some (.int (zI cue)), some (.int (zI (zsum (fun k => bI (s (162 + 4 * k) = cue)) (0 : Int).toNat))), some (.int (zI 0))] [] (rH h0 a s lv A F) 0 0 := by
    refine zup (P := fun k => pz_WP 1 en (pz_Cd en (1 - 1)) 7 cX7_countOf 4 (some .int) [] false (pz_ret (some (.int (zI (rco s cue)))) (rH h0 a s lv A F)) 4 [some (.ref (a 0)), some (.int (zI cue)), some (.int (zI (zsum (fun k => bI (s (162 + 4 * k) = cue)) (k : Int).toNat))), some (.int (zI k))] [] (rH h0 a s lv A F) 0 0) (lo := 0) (hi := (s 1)) hs2 ?_ ?_
    · skip
      refine pr_iload_n dX7_countOf_4 rfl ?_
      refine pr_aload_n dX7_countOf_5 rfl ?_
      refine pr_getf dX7_countOf_6 pzf_7_9 (rH_0 hj) rfl ?_
      refine zr_iconst dX7_countOf_9 ?_
      refine zr_iald dX7_countOf_10 (rH_1 hj) (by omega) (by decide) ?_
      refine zr_icmp_ge (tgt := 44) dX7_countOf_11 (by decide) (by first | exact hR _ | omega) (by first | exact hR _ | omega) (fun c11 => ?_) (fun c11 => by exfalso; omega)
      refine pr_iload_n dX7_countOf_44 rfl ?_
      exact pr_iret dX7_countOf_45 rfl rfl (zret (by rfl))
    · intro k hk1 hk2 ih
      rw [zsum_s hk1] at ih
      refine pr_iload_n dX7_countOf_4 rfl ?_
      refine pr_aload_n dX7_countOf_5 rfl ?_
      refine pr_getf dX7_countOf_6 pzf_7_9 (rH_0 hj) rfl ?_
      refine zr_iconst dX7_countOf_9 ?_
      refine zr_iald dX7_countOf_10 (rH_1 hj) (by omega) (by decide) ?_
      refine zr_icmp_ge (tgt := 44) dX7_countOf_11 (by decide) (by first | exact hR _ | omega) (by first | exact hR _ | omega) (fun c11 => by exfalso; omega) (fun c11 => ?_)
      refine pr_iload_n dX7_countOf_14 rfl ?_
      refine pr_aload_n dX7_countOf_15 rfl ?_
      refine pr_getf dX7_countOf_16 pzf_7_9 (rH_0 hj) rfl ?_
      refine zr_sipush dX7_countOf_19 (by decide) ?_
      refine zr_iconst dX7_countOf_22 ?_
      refine pr_iload_n dX7_countOf_23 rfl ?_
      refine zr_imul dX7_countOf_24 ?_
      refine zr_iadd dX7_countOf_25 ?_
      refine zr_iald dX7_countOf_26 (rH_1 hj) (by omega) (by decide) ?_
      refine pr_iload_n dX7_countOf_27 rfl ?_
      refine zr_icmp_ne (tgt := 35) dX7_countOf_28 (by decide) (by first | exact hR _ | omega) (by first | exact hR _ | omega) (fun c28 => ?_) (fun c28 => ?_)
      · rw [show bI (s (162 + 4 * k) = cue) = 0 from bI_f (by omega)] at ih
        refine zr_iconst dX7_countOf_35 ?_
        refine zr_iadd dX7_countOf_36 ?_
        refine pr_istore_n dX7_countOf_37 (by decide) rfl ?_
        refine zr_iinc dX7_countOf_38 rfl (by decide) rfl ?_
        refine pr_goto (tgt := 4) dX7_countOf_41 (by decide) ?_
        exact ih
      · rw [show bI (s (162 + 4 * k) = cue) = 1 from bI_t (by omega)] at ih
        refine zr_iconst dX7_countOf_31 ?_
        refine pr_goto (tgt := 36) dX7_countOf_32 (by decide) ?_
        refine zr_iadd dX7_countOf_36 ?_
        refine pr_istore_n dX7_countOf_37 (by decide) rfl ?_
        refine zr_iinc dX7_countOf_38 rfl (by decide) rfl ?_
        refine pr_goto (tgt := 4) dX7_countOf_41 (by decide) ?_
        exact ih
  refine zr_iconst dX7_countOf_0 ?_
  refine pr_istore_n dX7_countOf_1 (by decide) rfl ?_
  refine zr_iconst dX7_countOf_2 ?_
  refine pr_istore_n dX7_countOf_3 (by decide) rfl ?_
  exact loop
set_option maxRecDepth 100000 in
set_option maxHeartbeats 4000000 in
theorem kX7_changed (hj : oj 9 a) (hs : rB s) {ch : Int} (hL : ∀ i, zR (lv i)) (h3 : 0 ≤ ch) (h4 : ch ≤ 11) : pz_Cd en 4 156 [.ref (a 0), .int (zI ch)] (rH h0 a s lv A F) 0 0 (pz_ret (some (.int (zI (zsum (fun k => bI (¬ rlv s k ch = lv (12 * k + ch))) (s 0).toNat)))) (rH h0 a s lv A F)) := by
  refine pz_in pzt_X7_changed ?_
  obtain ⟨hR, hs0, hs1, hs2, hs3⟩ := id hs
  have loop : pz_WP 4 en (pz_Cd en (4 - 1)) 7 cX7_changed 4 (some .int) [] false (pz_ret (some (.int (zI (zsum (fun k => bI (¬ rlv s k ch = lv (12 * k + ch))) (s 0).toNat)))) (rH h0 a s lv A F)) 4 [some (.ref (a 0)), some (.int (zI ch)), some (.int (zI (zsum (fun k => bI (¬ rlv s k ch = lv (12 * k + ch))) (0 : Int).toNat))), some (.int (zI 0))] [] (rH h0 a s lv A F) 0 0 := by
    refine zup (P := fun k => pz_WP 4 en (pz_Cd en (4 - 1)) 7 cX7_changed 4 (some .int) [] false (pz_ret (some (.int (zI (zsum (fun k => bI (¬ rlv s k ch = lv (12 * k + ch))) (s 0).toNat)))) (rH h0 a s lv A F)) 4 [some (.ref (a 0)), some (.int (zI ch)), some (.int (zI (zsum (fun k => bI (¬ rlv s k ch = lv (12 * k + ch))) (k : Int).toNat))), some (.int (zI k))] [] (rH h0 a s lv A F) 0 0) (lo := 0) (hi := (s 0)) hs0 ?_ ?_
    · skip
      refine pr_iload_n dX7_changed_4 rfl ?_
      refine pr_aload_n dX7_changed_5 rfl ?_
      refine pr_getf dX7_changed_6 pzf_7_9 (rH_0 hj) rfl ?_
      refine zr_iconst dX7_changed_9 ?_
      refine zr_iald dX7_changed_10 (rH_1 hj) (by omega) (by decide) ?_
      refine zr_icmp_ge (tgt := 48) dX7_changed_11 (by decide) (by first | exact hR _ | omega) (by first | exact hR _ | omega) (fun c11 => ?_) (fun c11 => by exfalso; omega)
      refine pr_iload_n dX7_changed_48 rfl ?_
      exact pr_iret dX7_changed_49 rfl rfl (zret (by rfl))
    · intro k hk1 hk2 ih
      rw [zsum_s hk1] at ih
      refine pr_iload_n dX7_changed_4 rfl ?_
      refine pr_aload_n dX7_changed_5 rfl ?_
      refine pr_getf dX7_changed_6 pzf_7_9 (rH_0 hj) rfl ?_
      refine zr_iconst dX7_changed_9 ?_
      refine zr_iald dX7_changed_10 (rH_1 hj) (by omega) (by decide) ?_
      refine zr_icmp_ge (tgt := 48) dX7_changed_11 (by decide) (by first | exact hR _ | omega) (by first | exact hR _ | omega) (fun c11 => by exfalso; omega) (fun c11 => ?_)
      refine pr_iload_n dX7_changed_14 rfl ?_
      refine pr_aload_n dX7_changed_15 rfl ?_
      refine pr_iload_n dX7_changed_16 rfl ?_
      refine pr_iload_n dX7_changed_17 rfl ?_
      refine zcv2i dX7_changed_18 pzm_7_84 pzt_X7_levelIn (rH_0 hj) (kX7_levelIn hj hs (by omega) (by omega) (by omega) (by omega)) (by decide) (Nat.le_of_ble_eq_true rfl) (by decide) ?_
      refine pr_aload_n dX7_changed_21 rfl ?_
      refine pr_getf dX7_changed_22 pzf_7_22 (rH_0 hj) rfl ?_
      refine zr_bipush dX7_changed_25 (by decide) ?_
      refine pr_iload_n dX7_changed_27 rfl ?_
      refine zr_imul dX7_changed_28 ?_
      refine pr_iload_n dX7_changed_29 rfl ?_
      refine zr_iadd dX7_changed_30 ?_
      refine zr_iald dX7_changed_31 (rH_5 hj) (by omega) (by decide) ?_
      refine zr_icmp_eq (tgt := 39) dX7_changed_32 (by decide) (rlv_R hs _ _) (hL _) (fun c32 => ?_) (fun c32 => ?_)
      · rw [show bI (¬ rlv s k ch = lv (12 * k + ch)) = 0 from bI_f (not_not_intro c32)] at ih
        refine zr_iconst dX7_changed_39 ?_
        refine zr_iadd dX7_changed_40 ?_
        refine pr_istore_n dX7_changed_41 (by decide) rfl ?_
        refine zr_iinc dX7_changed_42 rfl (by decide) rfl ?_
        refine pr_goto (tgt := 4) dX7_changed_45 (by decide) ?_
        exact ih
      · rw [show bI (¬ rlv s k ch = lv (12 * k + ch)) = 1 from bI_t c32] at ih
        refine zr_iconst dX7_changed_35 ?_
        refine pr_goto (tgt := 40) dX7_changed_36 (by decide) ?_
        refine zr_iadd dX7_changed_40 ?_
        refine pr_istore_n dX7_changed_41 (by decide) rfl ?_
        refine zr_iinc dX7_changed_42 rfl (by decide) rfl ?_
        refine pr_goto (tgt := 4) dX7_changed_45 (by decide) ?_
        exact ih
  refine zr_iconst dX7_changed_0 ?_
  refine pr_istore_n dX7_changed_1 (by decide) rfl ?_
  refine zr_iconst dX7_changed_2 ?_
  refine pr_istore_n dX7_changed_3 (by decide) rfl ?_
  exact loop
theorem zr_ior {d : Nat} {en : pz_Env} {C : pz_C} {own : Nat} {cc : ByteArray} {nL : Nat} {rt : Option FieldType} {hh : List (Nat × Nat × Nat × Nat)} {ini : Bool} {Q : pz_Q} {pc : Nat} {ls : List (Option Value)} {st : List Value} {h : pz_H} {nc ns : Nat} {x y z : Int32} (hd : decode cc pc = .ok (.ior, 1)) (e : x ||| y = z) (k : pz_WP d en C own cc nL rt hh ini Q (pc + 1) ls (.int z :: st) h nc ns) : pz_WP d en C own cc nL rt hh ini Q pc ls (.int y :: .int x :: st) h nc ns := pr_ior hd (by rw [e]; exact k)
set_option maxRecDepth 100000 in
set_option maxHeartbeats 4000000 in
theorem kX7_fading (hj : oj 9 a) (hi : rI s)  : pz_Cd en 3 193 [.ref (a 0)] (rH h0 a s lv A F) 0 0 (pz_ret (some (.int (rmk (fun c => decide (rfa s c)) 12))) (rH h0 a s lv A F)) := by
  refine pz_in pzt_X7_fading ?_
  have hs := rI_B hi
  obtain ⟨hR, hs0, hs1, hs2, hs3⟩ := id hs
  obtain ⟨-, hq1, hq2, hq3, hq4, hq5, hq6, hq7, hq8, hq9, hq10, hq11, hq12, hq13⟩ := id hi
  have loop : pz_WP 3 en (pz_Cd en (3 - 1)) 7 cX7_fading 3 (some .int) [] false (pz_ret (some (.int (rmk (fun c => decide (rfa s c)) 12))) (rH h0 a s lv A F)) 4 [some (.ref (a 0)), some (.int (rmk (fun c => decide (rfa s c)) (0 : Int).toNat)), some (.int (zI 0))] [] (rH h0 a s lv A F) 0 0 := by
    refine zup (P := fun k => pz_WP 3 en (pz_Cd en (3 - 1)) 7 cX7_fading 3 (some .int) [] false (pz_ret (some (.int (rmk (fun c => decide (rfa s c)) 12))) (rH h0 a s lv A F)) 4 [some (.ref (a 0)), some (.int (rmk (fun c => decide (rfa s c)) (k : Int).toNat)), some (.int (zI k))] [] (rH h0 a s lv A F) 0 0) (lo := 0) (hi := 12) (by decide) ?_ ?_
    · skip
      refine pr_iload_n dX7_fading_4 rfl ?_
      refine zr_bipush dX7_fading_5 (by decide) ?_
      refine zr_icmp_ge (tgt := 34) dX7_fading_7 (by decide) (by first | exact hR _ | omega) (by first | exact hR _ | omega) (fun c7 => ?_) (fun c7 => by exfalso; omega)
      refine pr_iload_n dX7_fading_34 rfl ?_
      exact pr_iret dX7_fading_35 rfl rfl (⟨rfl, rfl⟩)
    · intro k hk1 hk2 ih
      rw [rmk_s hk1] at ih
      refine pr_iload_n dX7_fading_4 rfl ?_
      refine zr_bipush dX7_fading_5 (by decide) ?_
      refine zr_icmp_ge (tgt := 34) dX7_fading_7 (by decide) (by first | exact hR _ | omega) (by first | exact hR _ | omega) (fun c7 => by exfalso; omega) (fun c7 => ?_)
      refine pr_iload_n dX7_fading_10 rfl ?_
      refine pr_aload_n dX7_fading_11 rfl ?_
      refine pr_iload_n dX7_fading_12 rfl ?_
      refine zcv1i dX7_fading_13 pzm_7_192 pzt_X7_isFading (rH_0 hj) (kX7_isFading hj hi (by omega) (by omega)) (by decide) (Nat.le_of_ble_eq_true rfl) (by decide) ?_
      refine zr_if_eq (tgt := 25) dX7_fading_16 (by decide) (bI_R _) (fun c16 => ?_) (fun c16 => ?_)
      · rw [if_neg (by simp only [decide_eq_true_eq]; exact bI_0 c16)] at ih
        refine zr_iconst dX7_fading_25 ?_
        refine pr_ior dX7_fading_26 ?_
        refine pr_istore_n dX7_fading_27 (by decide) rfl ?_
        refine zr_iinc dX7_fading_28 rfl (by decide) rfl ?_
        refine pr_goto (tgt := 4) dX7_fading_31 (by decide) ?_
        exact ih
      · rw [if_pos (by simp only [decide_eq_true_eq]; exact bI_ne c16)] at ih
        refine zr_iconst dX7_fading_19 ?_
        refine pr_iload_n dX7_fading_20 rfl ?_
        refine pr_ishl dX7_fading_21 ?_
        refine pr_goto (tgt := 26) dX7_fading_22 (by decide) ?_
        refine pr_ior dX7_fading_26 ?_
        refine pr_istore_n dX7_fading_27 (by decide) rfl ?_
        refine zr_iinc dX7_fading_28 rfl (by decide) rfl ?_
        refine pr_goto (tgt := 4) dX7_fading_31 (by decide) ?_
        exact ih
  refine zr_iconst dX7_fading_0 ?_
  refine pr_istore_n dX7_fading_1 (by decide) rfl ?_
  refine zr_iconst dX7_fading_2 ?_
  refine pr_istore_n dX7_fading_3 (by decide) rfl ?_
  exact loop
end ref
