/-! the reference: its face, the last two -/
def dMn (z : Int) : UInt64 := FP.ddiv (FP.i2d (zI z)) 4622945017495814144
def dMk (k : Nat) : Bool := decide (dMn (k : Int) &&& 0x7fffffffffffffff ≤ 0x7ff0000000000000) && decide (FP.dcmp (dMn (k : Int)) (dMn (k : Int)) = some .eq)
set_option maxRecDepth 100000 in
theorem dMn_all : ∀ k : Fin 1201, dMk k.val = true := by decide +kernel
theorem dMn_ok {z : Int} (h : 0 ≤ z ∧ z ≤ 1200) : vf_n64 (dMn z) ∧ FP.dcmp (dMn z) (dMn z) = some .eq := by
  have h2 := dMn_all ⟨z.toNat, by omega⟩
  unfold dMk at h2
  simp only [Bool.and_eq_true, decide_eq_true_eq] at h2
  rw [show ((z.toNat : Nat) : Int) = z by omega] at h2
  exact h2
theorem zsum_c {f : Int → Int} {b : Int} : ∀ n : Nat, (∀ k : Int, 0 ≤ k → k < n → 0 ≤ f k ∧ f k ≤ b) → 0 ≤ zsum f n ∧ zsum f n ≤ b * n
  | 0, _ => by
    show (0 : Int) ≤ 0 ∧ (0 : Int) ≤ b * 0
    omega
  | n + 1, h => by
    have ih := zsum_c n (fun k h1 h2 => h k h1 (by omega))
    have hn := h (n : Int) (by omega) (by omega)
    show 0 ≤ zsum f n + f n ∧ zsum f n + f n ≤ b * ((n + 1 : Nat) : Int)
    rw [show ((n + 1 : Nat) : Int) = n + 1 by omega, Int.mul_add]
    omega
section ref
variable {en : pz_Env} {h0 : pz_H} {a : Nat → Nat} {s lv : Int → Int} {A : Nat → Int → Int} {F : Nat → Int}
set_option maxRecDepth 100000 in
set_option maxHeartbeats 4000000 in
theorem kX7_playing_3 (hj : oj 9 a) (hi : rI s)  : pz_Cd en 4 194 [.ref (a 0), .int (zI 3)] (rH h0 a s lv A F) 0 0 (pz_ret (some (.int (rmk (fun c => decide (rfa s c)) 12))) (rH h0 a s lv A (va_up F 7 0))) := by
  refine pz_in pzt_X7_playing ?_
  have hs := rI_B hi
  obtain ⟨hR, hs0, hs1, hs2, hs3⟩ := id hs
  refine pr_aload_n dX7_playing_0 rfl ?_
  refine pr_iload_n dX7_playing_1 rfl ?_
  refine zr_iconst dX7_playing_2 ?_
  refine zr_iconst dX7_playing_3 ?_
  refine zcs3i dX7_playing_4 pzm_7_70 pzt_X7_in (kX7_in (by decide) (by decide) (by decide)) (by decide) (Nat.le_of_ble_eq_true rfl) ?_
  refine zr_if_eq (tgt := 14) dX7_playing_7 (by decide) (bI_R _) (fun c7 => by exfalso; have bb := bI_0 c7; omega) (fun c7 => ?_)
  refine zr_iconst dX7_playing_10 ?_
  refine pr_goto (tgt := 15) dX7_playing_11 (by decide) ?_
  refine pr_putf dX7_playing_15 pzf_7_42 (Or.inl rfl) (rH_0 hj) (Nat.le_of_ble_eq_true rfl) rfl rfl (rH_p7 hj) ?_
  refine pr_aload_n dX7_playing_18 rfl ?_
  refine pr_getf dX7_playing_19 pzf_7_42 (rH_0 hj) rfl ?_
  refine zr_if_le (tgt := 27) dX7_playing_22 (by decide) (show zR 0 by decide) (fun c22 => ?_) (fun c22 => absurd (show (0 : Int) ≤ 0 by decide) c22)
  refine pr_iload_n dX7_playing_27 rfl ?_
  refine pr_tsin (off := 57) (tgt := 85) dX7_playing_28 (by decide) (by decide) (by decide) (by decide) ?_
  refine pr_aload_n dX7_playing_85 rfl ?_
  refine zcv0 dX7_playing_86 pzm_7_195 pzt_X7_fading (rH_0 hj) (kX7_fading hj hi) (by decide) (Nat.le_of_ble_eq_true rfl) (by decide) ?_
  exact pr_iret dX7_playing_89 rfl rfl (⟨rfl, rfl⟩)
set_option maxRecDepth 100000 in
set_option maxHeartbeats 4000000 in
theorem kX7_meanLevel (hj : oj 9 a) (hi : rI s)  : pz_Cd en 4 199 [.ref (a 0)] (rH h0 a s lv A F) 0 0 (pz_ret (some (.double (dMn (zsum (fun c => rnow s c) 12)))) (rH h0 a s lv A (va_up F 7 0))) := by
  refine pz_in pzt_X7_meanLevel ?_
  have hs := rI_B hi
  obtain ⟨hR, hs0, hs1, hs2, hs3⟩ := id hs
  have hz := zsum_c (f := fun c => rnow s c) (b := 100) 12 (fun k h1 h2 => rnow_b (hi.2.2.2.2.2.2.2.1 k h1 (by omega)))
  refine pr_aload_n dX7_meanLevel_0 rfl ?_
  refine zr_iconst dX7_meanLevel_1 ?_
  refine pr_putf dX7_meanLevel_2 pzf_7_42 (Or.inl rfl) (rH_0 hj) (Nat.le_of_ble_eq_true rfl) rfl rfl (rH_p7 hj) ?_
  refine pr_aload_n dX7_meanLevel_5 rfl ?_
  refine zr_iconst dX7_meanLevel_6 ?_
  refine zcv1i dX7_meanLevel_7 pzm_7_199 pzt_X7_overChannels (rH_0 hj) (kX7_overChannels_2 hj hi) (by decide) (Nat.le_of_ble_eq_true rfl) (by decide) ?_
  refine pr_i2d dX7_meanLevel_10 ?_
  refine pr_ldc2 dX7_meanLevel_11 pzd_7_205 ?_
  refine pr_ddiv dX7_meanLevel_14 (dMn_ok (by omega)).1 ?_
  exact pr_dret dX7_meanLevel_15 rfl ⟨rfl, rfl⟩
end ref
