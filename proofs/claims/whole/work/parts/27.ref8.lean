/-! the reference: accounts; the reader -/
def rmc (s : Int → Int) (k : Int) : Int := zsum (fun c => bI (¬ rlv s k c = rlv s (k - 1) c)) 12
theorem vu_id {α : Type} (f : Nat → α) (k : Nat) : va_up f k (f k) = f := by
  funext j
  unfold va_up
  split <;> rename_i e
  · rw [e]
  · rfl
theorem vu_1211 {α : Type} (f : Nat → α) (w p w2 p2 : α) : va_up (va_up (va_up (va_up f 12 w) 11 p) 12 w2) 11 p2 = va_up (va_up f 12 w2) 11 p2 := by
  funext j
  unfold va_up
  by_cases e : j = 11
  · rw [if_pos e, if_pos e]
  · by_cases e2 : j = 12
    · rw [if_neg e, if_pos e2, if_neg e, if_pos e2]
    · rw [if_neg e, if_neg e2, if_neg e, if_neg e2, if_neg e, if_neg e2]
abbrev pHr (inp : Int → Int) (ln pl w lo hi : Int) : Prop := w = 0 ∧ pl < ln ∧ lo ≤ inp pl ∧ inp pl ≤ hi
def pSg (inp : Int → Int) (ln c : Int) (x : Int × Int) : Int × Int := if pHr inp ln x.1 x.2 c c then (x.1 + 1, 0) else (x.1, 1)
def pNm (inp : Int → Int) (ln : Int) : Nat → Int → Int → Int × Int
  | 0, n, pl => (n, pl)
  | d + 1, n, pl => if pHr inp ln pl 0 48 57 then pNm inp ln d (10 * n + inp pl - 48) (pl + 1) else (n, pl)
theorem pNm_s {inp : Int → Int} {ln d k n pl : Int} (h : k < d) : pNm inp ln (d - k).toNat n pl = if pHr inp ln pl 0 48 57 then pNm inp ln (d - (k + 1)).toNat (10 * n + inp pl - 48) (pl + 1) else (n, pl) := by
  rw [show (d - k).toNat = (d - (k + 1)).toNat + 1 by omega]
  rfl
def pNo (inp : Int → Int) (ln d : Int) (x : Int × Int) : Int × Int × Int := if pHr inp ln x.1 x.2 48 57 then ((pNm inp ln d.toNat 0 x.1).1, (pNm inp ln d.toNat 0 x.1).2, 0) else (0, x.1, 1)
theorem pNm_R (inp : Int → Int) (ln : Int) : ∀ (d : Nat) (n pl : Int), pl ≤ ln → pl ≤ (pNm inp ln d n pl).2 ∧ (pNm inp ln d n pl).2 ≤ ln
  | 0, _, _ => fun h => ⟨Int.le_refl _, h⟩
  | d + 1, n, pl => fun h => by
    unfold pNm
    split <;> rename_i g
    · have := pNm_R inp ln d (10 * n + inp pl - 48) (pl + 1) (by have := g.2.1; omega)
      omega
    · exact ⟨Int.le_refl _, h⟩
theorem pSg_R {inp : Int → Int} {ln c : Int} {x : Int × Int} (h : x.1 ≤ ln) : x.1 ≤ (pSg inp ln c x).1 ∧ (pSg inp ln c x).1 ≤ ln ∧ ((pSg inp ln c x).2 = 0 ∨ (pSg inp ln c x).2 = 1) := by
  unfold pSg
  split <;> rename_i g
  · have := g.2.1; exact ⟨by show x.1 ≤ x.1 + 1; omega, by show x.1 + 1 ≤ ln; omega, Or.inl rfl⟩
  · exact ⟨Int.le_refl _, h, Or.inr rfl⟩
theorem pNo_R {inp : Int → Int} {ln d : Int} {x : Int × Int} (h : x.1 ≤ ln) : x.1 ≤ (pNo inp ln d x).2.1 ∧ (pNo inp ln d x).2.1 ≤ ln ∧ ((pNo inp ln d x).2.2 = 0 ∨ (pNo inp ln d x).2.2 = 1) := by
  unfold pNo
  split <;> rename_i g
  · have := pNm_R inp ln d.toNat 0 x.1 h; exact ⟨this.1, this.2, Or.inl rfl⟩
  · exact ⟨Int.le_refl _, h, Or.inr rfl⟩
section ref
variable {en : pz_Env} {h0 : pz_H} {a : Nat → Nat} {s lv : Int → Int} {A : Nat → Int → Int} {F : Nat → Int}
set_option maxRecDepth 100000 in
set_option maxHeartbeats 4000000 in
theorem kX7_overChannels_2 (hj : oj 9 a) (hi : rI s)  : pz_Cd en 3 196 [.ref (a 0), .int (zI 2)] (rH h0 a s lv A F) 0 0 (pz_ret (some (.int (zI (zsum (fun c => rnow s c) 12)))) (rH h0 a s lv A F)) := by
  refine pz_in pzt_X7_overChannels ?_
  have hs := rI_B hi
  obtain ⟨hR, hs0, hs1, hs2, hs3⟩ := id hs
  obtain ⟨-, hq1, hq2, hq3, hq4, hq5, hq6, hq7, hq8, hq9, hq10, hq11, hq12, hq13⟩ := id hi
  have loop : pz_WP 3 en (pz_Cd en (3 - 1)) 7 cX7_overChannels 4 (some .int) [] false (pz_ret (some (.int (zI (zsum (fun c => rnow s c) 12)))) (rH h0 a s lv A F)) 4 [some (.ref (a 0)), some (.int (zI 2)), some (.int (zI (zsum (fun c => rnow s c) (0 : Int).toNat))), some (.int (zI 0))] [] (rH h0 a s lv A F) 0 0 := by
    refine zup (P := fun k => pz_WP 3 en (pz_Cd en (3 - 1)) 7 cX7_overChannels 4 (some .int) [] false (pz_ret (some (.int (zI (zsum (fun c => rnow s c) 12)))) (rH h0 a s lv A F)) 4 [some (.ref (a 0)), some (.int (zI 2)), some (.int (zI (zsum (fun c => rnow s c) (k : Int).toNat))), some (.int (zI k))] [] (rH h0 a s lv A F) 0 0) (lo := 0) (hi := 12) (by decide) ?_ ?_
    · skip
      refine pr_iload_n dX7_overChannels_4 rfl ?_
      refine zr_bipush dX7_overChannels_5 (by decide) ?_
      refine zr_icmp_ge (tgt := 64) dX7_overChannels_7 (by decide) (by first | exact hR _ | omega) (by first | exact hR _ | omega) (fun c7 => ?_) (fun c7 => by exfalso; omega)
      refine pr_iload_n dX7_overChannels_64 rfl ?_
      exact pr_iret dX7_overChannels_65 rfl rfl (zret (by rfl))
    · intro k hk1 hk2 ih
      rw [zsum_s hk1] at ih
      refine pr_iload_n dX7_overChannels_4 rfl ?_
      refine zr_bipush dX7_overChannels_5 (by decide) ?_
      refine zr_icmp_ge (tgt := 64) dX7_overChannels_7 (by decide) (by first | exact hR _ | omega) (by first | exact hR _ | omega) (fun c7 => by exfalso; omega) (fun c7 => ?_)
      refine pr_iload_n dX7_overChannels_10 rfl ?_
      refine pr_iload_n dX7_overChannels_11 rfl ?_
      refine zr_iconst dX7_overChannels_12 ?_
      refine zr_icmp_ne (tgt := 24) dX7_overChannels_13 (by decide) (by first | exact hR _ | omega) (by first | exact hR _ | omega) (fun c13 => by exfalso; omega) (fun c13 => ?_)
      refine pr_aload_n dX7_overChannels_16 rfl ?_
      refine pr_iload_n dX7_overChannels_17 rfl ?_
      refine zcv1i dX7_overChannels_18 pzm_7_165 pzt_X7_nowOf (rH_0 hj) (kX7_nowOf hj hi (by omega) (by omega)) (by decide) (Nat.le_of_ble_eq_true rfl) (by decide) ?_
      refine pr_goto (tgt := 56) dX7_overChannels_21 (by decide) ?_
      refine zr_iadd dX7_overChannels_56 ?_
      refine pr_istore_n dX7_overChannels_57 (by decide) rfl ?_
      refine zr_iinc dX7_overChannels_58 rfl (by decide) rfl ?_
      refine pr_goto (tgt := 4) dX7_overChannels_61 (by decide) ?_
      exact ih
  refine zr_iconst dX7_overChannels_0 ?_
  refine pr_istore_n dX7_overChannels_1 (by decide) rfl ?_
  refine zr_iconst dX7_overChannels_2 ?_
  refine pr_istore_n dX7_overChannels_3 (by decide) rfl ?_
  exact loop
set_option maxRecDepth 100000 in
set_option maxHeartbeats 4000000 in
theorem kX7_overChannels_3 (hj : oj 9 a) (hi : rI s)  : pz_Cd en 3 196 [.ref (a 0), .int (zI 3)] (rH h0 a s lv A F) 0 0 (pz_ret (some (.int (zI (zsum (fun c => s (402 + 5 * c + 1)) 12)))) (rH h0 a s lv A F)) := by
  refine pz_in pzt_X7_overChannels ?_
  have hs := rI_B hi
  obtain ⟨hR, hs0, hs1, hs2, hs3⟩ := id hs
  obtain ⟨-, hq1, hq2, hq3, hq4, hq5, hq6, hq7, hq8, hq9, hq10, hq11, hq12, hq13⟩ := id hi
  have loop : pz_WP 3 en (pz_Cd en (3 - 1)) 7 cX7_overChannels 4 (some .int) [] false (pz_ret (some (.int (zI (zsum (fun c => s (402 + 5 * c + 1)) 12)))) (rH h0 a s lv A F)) 4 [some (.ref (a 0)), some (.int (zI 3)), some (.int (zI (zsum (fun c => s (402 + 5 * c + 1)) (0 : Int).toNat))), some (.int (zI 0))] [] (rH h0 a s lv A F) 0 0 := by
    refine zup (P := fun k => pz_WP 3 en (pz_Cd en (3 - 1)) 7 cX7_overChannels 4 (some .int) [] false (pz_ret (some (.int (zI (zsum (fun c => s (402 + 5 * c + 1)) 12)))) (rH h0 a s lv A F)) 4 [some (.ref (a 0)), some (.int (zI 3)), some (.int (zI (zsum (fun c => s (402 + 5 * c + 1)) (k : Int).toNat))), some (.int (zI k))] [] (rH h0 a s lv A F) 0 0) (lo := 0) (hi := 12) (by decide) ?_ ?_
    · skip
      refine pr_iload_n dX7_overChannels_4 rfl ?_
      refine zr_bipush dX7_overChannels_5 (by decide) ?_
      refine zr_icmp_ge (tgt := 64) dX7_overChannels_7 (by decide) (by first | exact hR _ | omega) (by first | exact hR _ | omega) (fun c7 => ?_) (fun c7 => by exfalso; omega)
      refine pr_iload_n dX7_overChannels_64 rfl ?_
      exact pr_iret dX7_overChannels_65 rfl rfl (zret (by rfl))
    · intro k hk1 hk2 ih
      rw [zsum_s hk1] at ih
      refine pr_iload_n dX7_overChannels_4 rfl ?_
      refine zr_bipush dX7_overChannels_5 (by decide) ?_
      refine zr_icmp_ge (tgt := 64) dX7_overChannels_7 (by decide) (by first | exact hR _ | omega) (by first | exact hR _ | omega) (fun c7 => by exfalso; omega) (fun c7 => ?_)
      refine pr_iload_n dX7_overChannels_10 rfl ?_
      refine pr_iload_n dX7_overChannels_11 rfl ?_
      refine zr_iconst dX7_overChannels_12 ?_
      refine zr_icmp_ne (tgt := 24) dX7_overChannels_13 (by decide) (by first | exact hR _ | omega) (by first | exact hR _ | omega) (fun c13 => ?_) (fun c13 => by exfalso; omega)
      refine pr_iload_n dX7_overChannels_24 rfl ?_
      refine zr_iconst dX7_overChannels_25 ?_
      refine zr_icmp_ne (tgt := 43) dX7_overChannels_26 (by decide) (by first | exact hR _ | omega) (by first | exact hR _ | omega) (fun c26 => by exfalso; omega) (fun c26 => ?_)
      refine pr_aload_n dX7_overChannels_29 rfl ?_
      refine pr_getf dX7_overChannels_30 pzf_7_9 (rH_0 hj) rfl ?_
      refine pr_iload_n dX7_overChannels_33 rfl ?_
      refine zcs1i dX7_overChannels_34 pzm_7_162 pzt_X7_fade kX7_fade (by decide) (Nat.le_of_ble_eq_true rfl) ?_
      refine zr_iconst dX7_overChannels_37 ?_
      refine zr_iadd dX7_overChannels_38 ?_
      refine zr_iald dX7_overChannels_39 (rH_1 hj) (by omega) (by decide) ?_
      refine pr_goto (tgt := 56) dX7_overChannels_40 (by decide) ?_
      refine zr_iadd dX7_overChannels_56 ?_
      refine pr_istore_n dX7_overChannels_57 (by decide) rfl ?_
      refine zr_iinc dX7_overChannels_58 rfl (by decide) rfl ?_
      refine pr_goto (tgt := 4) dX7_overChannels_61 (by decide) ?_
      exact ih
  refine zr_iconst dX7_overChannels_0 ?_
  refine pr_istore_n dX7_overChannels_1 (by decide) rfl ?_
  refine zr_iconst dX7_overChannels_2 ?_
  refine pr_istore_n dX7_overChannels_3 (by decide) rfl ?_
  exact loop
set_option maxRecDepth 100000 in
set_option maxHeartbeats 4000000 in
theorem kX7_overChannels_4 (hj : oj 9 a) (hi : rI s)  : pz_Cd en 3 196 [.ref (a 0), .int (zI 4)] (rH h0 a s lv A F) 0 0 (pz_ret (some (.int (zI (zsum (fun c => bI (rfa s c)) 12)))) (rH h0 a s lv A F)) := by
  refine pz_in pzt_X7_overChannels ?_
  have hs := rI_B hi
  obtain ⟨hR, hs0, hs1, hs2, hs3⟩ := id hs
  obtain ⟨-, hq1, hq2, hq3, hq4, hq5, hq6, hq7, hq8, hq9, hq10, hq11, hq12, hq13⟩ := id hi
  have loop : pz_WP 3 en (pz_Cd en (3 - 1)) 7 cX7_overChannels 4 (some .int) [] false (pz_ret (some (.int (zI (zsum (fun c => bI (rfa s c)) 12)))) (rH h0 a s lv A F)) 4 [some (.ref (a 0)), some (.int (zI 4)), some (.int (zI (zsum (fun c => bI (rfa s c)) (0 : Int).toNat))), some (.int (zI 0))] [] (rH h0 a s lv A F) 0 0 := by
    refine zup (P := fun k => pz_WP 3 en (pz_Cd en (3 - 1)) 7 cX7_overChannels 4 (some .int) [] false (pz_ret (some (.int (zI (zsum (fun c => bI (rfa s c)) 12)))) (rH h0 a s lv A F)) 4 [some (.ref (a 0)), some (.int (zI 4)), some (.int (zI (zsum (fun c => bI (rfa s c)) (k : Int).toNat))), some (.int (zI k))] [] (rH h0 a s lv A F) 0 0) (lo := 0) (hi := 12) (by decide) ?_ ?_
    · skip
      refine pr_iload_n dX7_overChannels_4 rfl ?_
      refine zr_bipush dX7_overChannels_5 (by decide) ?_
      refine zr_icmp_ge (tgt := 64) dX7_overChannels_7 (by decide) (by first | exact hR _ | omega) (by first | exact hR _ | omega) (fun c7 => ?_) (fun c7 => by exfalso; omega)
      refine pr_iload_n dX7_overChannels_64 rfl ?_
      exact pr_iret dX7_overChannels_65 rfl rfl (zret (by rfl))
    · intro k hk1 hk2 ih
      rw [zsum_s hk1] at ih
      refine pr_iload_n dX7_overChannels_4 rfl ?_
      refine zr_bipush dX7_overChannels_5 (by decide) ?_
      refine zr_icmp_ge (tgt := 64) dX7_overChannels_7 (by decide) (by first | exact hR _ | omega) (by first | exact hR _ | omega) (fun c7 => by exfalso; omega) (fun c7 => ?_)
      refine pr_iload_n dX7_overChannels_10 rfl ?_
      refine pr_iload_n dX7_overChannels_11 rfl ?_
      refine zr_iconst dX7_overChannels_12 ?_
      refine zr_icmp_ne (tgt := 24) dX7_overChannels_13 (by decide) (by first | exact hR _ | omega) (by first | exact hR _ | omega) (fun c13 => ?_) (fun c13 => by exfalso; omega)
      refine pr_iload_n dX7_overChannels_24 rfl ?_
      refine zr_iconst dX7_overChannels_25 ?_
      refine zr_icmp_ne (tgt := 43) dX7_overChannels_26 (by decide) (by first | exact hR _ | omega) (by first | exact hR _ | omega) (fun c26 => ?_) (fun c26 => by exfalso; omega)
      refine pr_aload_n dX7_overChannels_43 rfl ?_
      refine pr_iload_n dX7_overChannels_44 rfl ?_
      refine zcv1i dX7_overChannels_45 pzm_7_192 pzt_X7_isFading (rH_0 hj) (kX7_isFading hj hi (by omega) (by omega)) (by decide) (Nat.le_of_ble_eq_true rfl) (by decide) ?_
      refine zr_if_eq (tgt := 55) dX7_overChannels_48 (by decide) (bI_R _) (fun c48 => ?_) (fun c48 => ?_)
      · have b48 := bI_0 c48
        rw [show bI (rfa s k) = 0 from bI_f b48] at ih
        refine zr_iconst dX7_overChannels_55 ?_
        refine zr_iadd dX7_overChannels_56 ?_
        refine pr_istore_n dX7_overChannels_57 (by decide) rfl ?_
        refine zr_iinc dX7_overChannels_58 rfl (by decide) rfl ?_
        refine pr_goto (tgt := 4) dX7_overChannels_61 (by decide) ?_
        exact ih
      · have b48 := bI_ne c48
        rw [show bI (rfa s k) = 1 from bI_t b48] at ih
        refine zr_iconst dX7_overChannels_51 ?_
        refine pr_goto (tgt := 56) dX7_overChannels_52 (by decide) ?_
        refine zr_iadd dX7_overChannels_56 ?_
        refine pr_istore_n dX7_overChannels_57 (by decide) rfl ?_
        refine zr_iinc dX7_overChannels_58 rfl (by decide) rfl ?_
        refine pr_goto (tgt := 4) dX7_overChannels_61 (by decide) ?_
        exact ih
  refine zr_iconst dX7_overChannels_0 ?_
  refine pr_istore_n dX7_overChannels_1 (by decide) rfl ?_
  refine zr_iconst dX7_overChannels_2 ?_
  refine pr_istore_n dX7_overChannels_3 (by decide) rfl ?_
  exact loop
set_option maxRecDepth 100000 in
set_option maxHeartbeats 4000000 in
theorem kX7_overCues_7 (hj : oj 9 a) (hs : rB s)  : pz_Cd en 5 197 [.ref (a 0), .int (zI 7)] (rH h0 a s lv A F) 0 0 (pz_ret (some (.int (zI (zsum (fun k => rmc s k) (s 0).toNat)))) (rH h0 a s lv A F)) := by
  refine pz_in pzt_X7_overCues ?_
  obtain ⟨hR, hs0, hs1, hs2, hs3⟩ := id hs
  have loop : ∀ j : Option Value, pz_WP 5 en (pz_Cd en (5 - 1)) 7 cX7_overCues 5 (some .int) [] false (pz_ret (some (.int (zI (zsum (fun k => rmc s k) (s 0).toNat)))) (rH h0 a s lv A F)) 4 [some (.ref (a 0)), some (.int (zI 7)), some (.int (zI (zsum (fun k => rmc s k) (0 : Int).toNat))), some (.int (zI 0)), j] [] (rH h0 a s lv A F) 0 0 := by
    refine zup (P := fun k => ∀ j : Option Value, pz_WP 5 en (pz_Cd en (5 - 1)) 7 cX7_overCues 5 (some .int) [] false (pz_ret (some (.int (zI (zsum (fun k => rmc s k) (s 0).toNat)))) (rH h0 a s lv A F)) 4 [some (.ref (a 0)), some (.int (zI 7)), some (.int (zI (zsum (fun k => rmc s k) (k : Int).toNat))), some (.int (zI k)), j] [] (rH h0 a s lv A F) 0 0) (lo := 0) (hi := s 0) hs0 ?_ ?_
    · intro j
      refine pr_iload_n dX7_overCues_4 rfl ?_
      refine pr_aload_n dX7_overCues_5 rfl ?_
      refine pr_getf dX7_overCues_6 pzf_7_9 (rH_0 hj) rfl ?_
      refine zr_iconst dX7_overCues_9 ?_
      refine zr_iald dX7_overCues_10 (rH_1 hj) (by omega) (by decide) ?_
      refine zr_icmp_ge (tgt := 104) dX7_overCues_11 (by decide) (by first | exact hR _ | omega) (by first | exact hR _ | omega) (fun c11 => ?_) (fun c11 => by exfalso; omega)
      refine pr_iload_n dX7_overCues_104 rfl ?_
      exact pr_iret dX7_overCues_105 rfl rfl (zret (by rfl))
    · intro k hk1 hk2 ih j
      rw [zsum_s hk1] at ih
      have inner : pz_WP 5 en (pz_Cd en (5 - 1)) 7 cX7_overCues 5 (some .int) [] false (pz_ret (some (.int (zI (zsum (fun k => rmc s k) (s 0).toNat)))) (rH h0 a s lv A F)) 17 [some (.ref (a 0)), some (.int (zI 7)), some (.int (zI (zsum (fun k => rmc s k) k.toNat + zsum (fun c => bI (¬ rlv s k c = rlv s (k - 1) c)) (0 : Int).toNat))), some (.int (zI k)), some (.int (zI 0))] [] (rH h0 a s lv A F) 0 0 := by
        refine zup (P := fun c => pz_WP 5 en (pz_Cd en (5 - 1)) 7 cX7_overCues 5 (some .int) [] false (pz_ret (some (.int (zI (zsum (fun k => rmc s k) (s 0).toNat)))) (rH h0 a s lv A F)) 17 [some (.ref (a 0)), some (.int (zI 7)), some (.int (zI (zsum (fun k => rmc s k) k.toNat + zsum (fun c => bI (¬ rlv s k c = rlv s (k - 1) c)) (c : Int).toNat))), some (.int (zI k)), some (.int (zI c))] [] (rH h0 a s lv A F) 0 0) (lo := 0) (hi := 12) (by decide) ?_ ?_
        · have ih2 : ∀ j : Option Value, _ := ih
          rw [show rmc s k = zsum (fun c => bI (¬ rlv s k c = rlv s (k - 1) c)) (12 : Int).toNat from rfl] at ih
          refine pr_iload dX7_overCues_17 rfl ?_
          refine zr_bipush dX7_overCues_19 (by decide) ?_
          refine zr_icmp_ge (tgt := 54) dX7_overCues_21 (by decide) (by first | exact hR _ | omega) (by first | exact hR _ | omega) (fun c21 => ?_) (fun c21 => by exfalso; omega)
          refine pr_iload_n dX7_overCues_54 rfl ?_
          refine pr_iload_n dX7_overCues_55 rfl ?_
          refine zr_bipush dX7_overCues_56 (by decide) ?_
          refine zr_icmp_ne (tgt := 75) dX7_overCues_58 (by decide) (by first | exact hR _ | omega) (by first | exact hR _ | omega) (fun c58 => ?_) (fun c58 => by exfalso; omega)
          refine pr_iload_n dX7_overCues_75 rfl ?_
          refine zr_bipush dX7_overCues_76 (by decide) ?_
          refine zr_icmp_ne (tgt := 95) dX7_overCues_78 (by decide) (by first | exact hR _ | omega) (by first | exact hR _ | omega) (fun c78 => ?_) (fun c78 => by exfalso; omega)
          refine zr_iconst dX7_overCues_95 ?_
          refine zr_iadd dX7_overCues_96 ?_
          rw [Int.add_zero]
          refine pr_istore_n dX7_overCues_97 (by decide) rfl ?_
          refine zr_iinc dX7_overCues_98 rfl (by decide) rfl ?_
          refine pr_goto (tgt := 4) dX7_overCues_101 (by decide) ?_
          exact ih _
        · intro c hc1 hc2 ihc
          rw [zsum_s hc1, ← Int.add_assoc] at ihc
          refine pr_iload dX7_overCues_17 rfl ?_
          refine zr_bipush dX7_overCues_19 (by decide) ?_
          refine zr_icmp_ge (tgt := 54) dX7_overCues_21 (by decide) (by first | exact hR _ | omega) (by first | exact hR _ | omega) (fun c21 => by exfalso; omega) (fun c21 => ?_)
          refine pr_iload_n dX7_overCues_24 rfl ?_
          refine zr_bipush dX7_overCues_25 (by decide) ?_
          refine zr_icmp_ne (tgt := 54) dX7_overCues_27 (by decide) (by first | exact hR _ | omega) (by first | exact hR _ | omega) (fun c27 => by exfalso; omega) (fun c27 => ?_)
          refine pr_iload_n dX7_overCues_30 rfl ?_
          refine pr_aload_n dX7_overCues_31 rfl ?_
          refine pr_iload_n dX7_overCues_32 rfl ?_
          refine pr_iload dX7_overCues_33 rfl ?_
          refine zcv2i dX7_overCues_35 pzm_7_110 pzt_X7_moves (rH_0 hj) (kX7_moves hj hs (by omega) (by omega) (by omega) (by omega)) (by decide) (Nat.le_of_ble_eq_true rfl) (by decide) ?_
          refine zr_if_eq (tgt := 45) dX7_overCues_38 (by decide) (bI_R _) (fun c38 => ?_) (fun c38 => ?_)
          · have b38 := bI_0 c38
            rw [show bI (¬ rlv s k c = rlv s (k - 1) c) = 0 from bI_f b38] at ihc
            refine zr_iconst dX7_overCues_45 ?_
            refine zr_iadd dX7_overCues_46 ?_
            refine pr_istore_n dX7_overCues_47 (by decide) rfl ?_
            refine zr_iinc dX7_overCues_48 rfl (by decide) rfl ?_
            refine pr_goto (tgt := 17) dX7_overCues_51 (by decide) ?_
            exact ihc
          · have b38 := bI_ne c38
            rw [show bI (¬ rlv s k c = rlv s (k - 1) c) = 1 from bI_t b38] at ihc
            refine zr_iconst dX7_overCues_41 ?_
            refine pr_goto (tgt := 46) dX7_overCues_42 (by decide) ?_
            refine zr_iadd dX7_overCues_46 ?_
            refine pr_istore_n dX7_overCues_47 (by decide) rfl ?_
            refine zr_iinc dX7_overCues_48 rfl (by decide) rfl ?_
            refine pr_goto (tgt := 17) dX7_overCues_51 (by decide) ?_
            exact ihc
      rw [show zsum (fun c => bI (¬ rlv s k c = rlv s (k - 1) c)) (0 : Int).toNat = 0 from rfl, Int.add_zero] at inner
      refine pr_iload_n dX7_overCues_4 rfl ?_
      refine pr_aload_n dX7_overCues_5 rfl ?_
      refine pr_getf dX7_overCues_6 pzf_7_9 (rH_0 hj) rfl ?_
      refine zr_iconst dX7_overCues_9 ?_
      refine zr_iald dX7_overCues_10 (rH_1 hj) (by omega) (by decide) ?_
      refine zr_icmp_ge (tgt := 104) dX7_overCues_11 (by decide) (by first | exact hR _ | omega) (by first | exact hR _ | omega) (fun c11 => by exfalso; omega) (fun c11 => ?_)
      refine zr_iconst dX7_overCues_14 ?_
      refine pr_istore dX7_overCues_15 (by decide) rfl ?_
      exact inner
  refine zr_iconst dX7_overCues_0 ?_
  refine pr_istore_n dX7_overCues_1 (by decide) rfl ?_
  refine zr_iconst dX7_overCues_2 ?_
  refine pr_istore_n dX7_overCues_3 (by decide) rfl ?_
  exact loop _
set_option maxRecDepth 100000 in
set_option maxHeartbeats 4000000 in
theorem kX7_overCues_8 (hj : oj 9 a) (hs : rB s)  : pz_Cd en 5 197 [.ref (a 0), .int (zI 8)] (rH h0 a s lv A F) 0 0 (pz_ret (some (.int (zI (zsum (fun k => s (18 + 12 * k + 3)) (s 0).toNat)))) (rH h0 a s lv A F)) := by
  refine pz_in pzt_X7_overCues ?_
  obtain ⟨hR, hs0, hs1, hs2, hs3⟩ := id hs
  have loop : ∀ j : Option Value, pz_WP 5 en (pz_Cd en (5 - 1)) 7 cX7_overCues 5 (some .int) [] false (pz_ret (some (.int (zI (zsum (fun k => s (18 + 12 * k + 3)) (s 0).toNat)))) (rH h0 a s lv A F)) 4 [some (.ref (a 0)), some (.int (zI 8)), some (.int (zI (zsum (fun k => s (18 + 12 * k + 3)) (0 : Int).toNat))), some (.int (zI 0)), j] [] (rH h0 a s lv A F) 0 0 := by
    refine zup (P := fun k => ∀ j : Option Value, pz_WP 5 en (pz_Cd en (5 - 1)) 7 cX7_overCues 5 (some .int) [] false (pz_ret (some (.int (zI (zsum (fun k => s (18 + 12 * k + 3)) (s 0).toNat)))) (rH h0 a s lv A F)) 4 [some (.ref (a 0)), some (.int (zI 8)), some (.int (zI (zsum (fun k => s (18 + 12 * k + 3)) (k : Int).toNat))), some (.int (zI k)), j] [] (rH h0 a s lv A F) 0 0) (lo := 0) (hi := s 0) hs0 ?_ ?_
    · intro j
      refine pr_iload_n dX7_overCues_4 rfl ?_
      refine pr_aload_n dX7_overCues_5 rfl ?_
      refine pr_getf dX7_overCues_6 pzf_7_9 (rH_0 hj) rfl ?_
      refine zr_iconst dX7_overCues_9 ?_
      refine zr_iald dX7_overCues_10 (rH_1 hj) (by omega) (by decide) ?_
      refine zr_icmp_ge (tgt := 104) dX7_overCues_11 (by decide) (by first | exact hR _ | omega) (by first | exact hR _ | omega) (fun c11 => ?_) (fun c11 => by exfalso; omega)
      refine pr_iload_n dX7_overCues_104 rfl ?_
      exact pr_iret dX7_overCues_105 rfl rfl (zret (by rfl))
    · intro k hk1 hk2 ih j
      rw [zsum_s hk1] at ih
      refine pr_iload_n dX7_overCues_4 rfl ?_
      refine pr_aload_n dX7_overCues_5 rfl ?_
      refine pr_getf dX7_overCues_6 pzf_7_9 (rH_0 hj) rfl ?_
      refine zr_iconst dX7_overCues_9 ?_
      refine zr_iald dX7_overCues_10 (rH_1 hj) (by omega) (by decide) ?_
      refine zr_icmp_ge (tgt := 104) dX7_overCues_11 (by decide) (by first | exact hR _ | omega) (by first | exact hR _ | omega) (fun c11 => by exfalso; omega) (fun c11 => ?_)
      refine zr_iconst dX7_overCues_14 ?_
      refine pr_istore dX7_overCues_15 (by decide) rfl ?_
      refine pr_iload dX7_overCues_17 rfl ?_
      refine zr_bipush dX7_overCues_19 (by decide) ?_
      refine zr_icmp_ge (tgt := 54) dX7_overCues_21 (by decide) (by first | exact hR _ | omega) (by first | exact hR _ | omega) (fun c21 => by exfalso; omega) (fun c21 => ?_)
      refine pr_iload_n dX7_overCues_24 rfl ?_
      refine zr_bipush dX7_overCues_25 (by decide) ?_
      refine zr_icmp_ne (tgt := 54) dX7_overCues_27 (by decide) (by first | exact hR _ | omega) (by first | exact hR _ | omega) (fun c27 => ?_) (fun c27 => by exfalso; omega)
      refine pr_iload_n dX7_overCues_54 rfl ?_
      refine pr_iload_n dX7_overCues_55 rfl ?_
      refine zr_bipush dX7_overCues_56 (by decide) ?_
      refine zr_icmp_ne (tgt := 75) dX7_overCues_58 (by decide) (by first | exact hR _ | omega) (by first | exact hR _ | omega) (fun c58 => by exfalso; omega) (fun c58 => ?_)
      refine pr_aload_n dX7_overCues_61 rfl ?_
      refine pr_getf dX7_overCues_62 pzf_7_9 (rH_0 hj) rfl ?_
      refine pr_iload_n dX7_overCues_65 rfl ?_
      refine zcs1i dX7_overCues_66 pzm_7_63 pzt_X7_at kX7_at (by decide) (Nat.le_of_ble_eq_true rfl) ?_
      refine zr_iconst dX7_overCues_69 ?_
      refine zr_iadd dX7_overCues_70 ?_
      refine zr_iald dX7_overCues_71 (rH_1 hj) (by omega) (by decide) ?_
      refine pr_goto (tgt := 96) dX7_overCues_72 (by decide) ?_
      refine zr_iadd dX7_overCues_96 ?_
      refine pr_istore_n dX7_overCues_97 (by decide) rfl ?_
      refine zr_iinc dX7_overCues_98 rfl (by decide) rfl ?_
      refine pr_goto (tgt := 4) dX7_overCues_101 (by decide) ?_
      exact ih _
  refine zr_iconst dX7_overCues_0 ?_
  refine pr_istore_n dX7_overCues_1 (by decide) rfl ?_
  refine zr_iconst dX7_overCues_2 ?_
  refine pr_istore_n dX7_overCues_3 (by decide) rfl ?_
  exact loop _
set_option maxRecDepth 100000 in
set_option maxHeartbeats 4000000 in
theorem kX7_overCues_9 (hj : oj 9 a) (hs : rB s)  : pz_Cd en 5 197 [.ref (a 0), .int (zI 9)] (rH h0 a s lv A F) 0 0 (pz_ret (some (.int (zI (zsum (fun k => s (18 + 12 * k + 2)) (s 0).toNat)))) (rH h0 a s lv A F)) := by
  refine pz_in pzt_X7_overCues ?_
  obtain ⟨hR, hs0, hs1, hs2, hs3⟩ := id hs
  have loop : ∀ j : Option Value, pz_WP 5 en (pz_Cd en (5 - 1)) 7 cX7_overCues 5 (some .int) [] false (pz_ret (some (.int (zI (zsum (fun k => s (18 + 12 * k + 2)) (s 0).toNat)))) (rH h0 a s lv A F)) 4 [some (.ref (a 0)), some (.int (zI 9)), some (.int (zI (zsum (fun k => s (18 + 12 * k + 2)) (0 : Int).toNat))), some (.int (zI 0)), j] [] (rH h0 a s lv A F) 0 0 := by
    refine zup (P := fun k => ∀ j : Option Value, pz_WP 5 en (pz_Cd en (5 - 1)) 7 cX7_overCues 5 (some .int) [] false (pz_ret (some (.int (zI (zsum (fun k => s (18 + 12 * k + 2)) (s 0).toNat)))) (rH h0 a s lv A F)) 4 [some (.ref (a 0)), some (.int (zI 9)), some (.int (zI (zsum (fun k => s (18 + 12 * k + 2)) (k : Int).toNat))), some (.int (zI k)), j] [] (rH h0 a s lv A F) 0 0) (lo := 0) (hi := s 0) hs0 ?_ ?_
    · intro j
      refine pr_iload_n dX7_overCues_4 rfl ?_
      refine pr_aload_n dX7_overCues_5 rfl ?_
      refine pr_getf dX7_overCues_6 pzf_7_9 (rH_0 hj) rfl ?_
      refine zr_iconst dX7_overCues_9 ?_
      refine zr_iald dX7_overCues_10 (rH_1 hj) (by omega) (by decide) ?_
      refine zr_icmp_ge (tgt := 104) dX7_overCues_11 (by decide) (by first | exact hR _ | omega) (by first | exact hR _ | omega) (fun c11 => ?_) (fun c11 => by exfalso; omega)
      refine pr_iload_n dX7_overCues_104 rfl ?_
      exact pr_iret dX7_overCues_105 rfl rfl (zret (by rfl))
    · intro k hk1 hk2 ih j
      rw [zsum_s hk1] at ih
      refine pr_iload_n dX7_overCues_4 rfl ?_
      refine pr_aload_n dX7_overCues_5 rfl ?_
      refine pr_getf dX7_overCues_6 pzf_7_9 (rH_0 hj) rfl ?_
      refine zr_iconst dX7_overCues_9 ?_
      refine zr_iald dX7_overCues_10 (rH_1 hj) (by omega) (by decide) ?_
      refine zr_icmp_ge (tgt := 104) dX7_overCues_11 (by decide) (by first | exact hR _ | omega) (by first | exact hR _ | omega) (fun c11 => by exfalso; omega) (fun c11 => ?_)
      refine zr_iconst dX7_overCues_14 ?_
      refine pr_istore dX7_overCues_15 (by decide) rfl ?_
      refine pr_iload dX7_overCues_17 rfl ?_
      refine zr_bipush dX7_overCues_19 (by decide) ?_
      refine zr_icmp_ge (tgt := 54) dX7_overCues_21 (by decide) (by first | exact hR _ | omega) (by first | exact hR _ | omega) (fun c21 => by exfalso; omega) (fun c21 => ?_)
      refine pr_iload_n dX7_overCues_24 rfl ?_
      refine zr_bipush dX7_overCues_25 (by decide) ?_
      refine zr_icmp_ne (tgt := 54) dX7_overCues_27 (by decide) (by first | exact hR _ | omega) (by first | exact hR _ | omega) (fun c27 => ?_) (fun c27 => by exfalso; omega)
      refine pr_iload_n dX7_overCues_54 rfl ?_
      refine pr_iload_n dX7_overCues_55 rfl ?_
      refine zr_bipush dX7_overCues_56 (by decide) ?_
      refine zr_icmp_ne (tgt := 75) dX7_overCues_58 (by decide) (by first | exact hR _ | omega) (by first | exact hR _ | omega) (fun c58 => ?_) (fun c58 => by exfalso; omega)
      refine pr_iload_n dX7_overCues_75 rfl ?_
      refine zr_bipush dX7_overCues_76 (by decide) ?_
      refine zr_icmp_ne (tgt := 95) dX7_overCues_78 (by decide) (by first | exact hR _ | omega) (by first | exact hR _ | omega) (fun c78 => by exfalso; omega) (fun c78 => ?_)
      refine pr_aload_n dX7_overCues_81 rfl ?_
      refine pr_getf dX7_overCues_82 pzf_7_9 (rH_0 hj) rfl ?_
      refine pr_iload_n dX7_overCues_85 rfl ?_
      refine zcs1i dX7_overCues_86 pzm_7_63 pzt_X7_at kX7_at (by decide) (Nat.le_of_ble_eq_true rfl) ?_
      refine zr_iconst dX7_overCues_89 ?_
      refine zr_iadd dX7_overCues_90 ?_
      refine zr_iald dX7_overCues_91 (rH_1 hj) (by omega) (by decide) ?_
      refine pr_goto (tgt := 96) dX7_overCues_92 (by decide) ?_
      refine zr_iadd dX7_overCues_96 ?_
      refine pr_istore_n dX7_overCues_97 (by decide) rfl ?_
      refine zr_iinc dX7_overCues_98 rfl (by decide) rfl ?_
      refine pr_goto (tgt := 4) dX7_overCues_101 (by decide) ?_
      exact ih _
  refine zr_iconst dX7_overCues_0 ?_
  refine pr_istore_n dX7_overCues_1 (by decide) rfl ?_
  refine zr_iconst dX7_overCues_2 ?_
  refine pr_istore_n dX7_overCues_3 (by decide) rfl ?_
  exact loop _
set_option maxRecDepth 100000 in
set_option maxHeartbeats 4000000 in
theorem kX7_isHere (hj : oj 9 a) (hA : ∀ i, 0 ≤ A 6 i ∧ A 6 i < 65536) {ln pl w : Int} (e10 : F 10 = ln) (e11 : F 11 = pl) (e12 : F 12 = w) (l1 : 0 ≤ pl) (l2 : pl ≤ ln) (l3 : ln ≤ 60) (hw : w = 0 ∨ w = 1) {lo hi : Int} (h1 : zR lo) (h2 : zR hi) : pz_Cd en 2 201 [.ref (a 0), .int (zI lo), .int (zI hi)] (rH h0 a s lv A F) 0 0 (pz_ret (some (.int (zI (bI (pHr (A 6) ln pl w lo hi))))) (rH h0 a s lv A F)) := by
  refine pz_in pzt_X7_isHere ?_
  have hp := hA (F 11)
  subst e10 e11 e12
  refine pr_aload_n dX7_isHere_0 rfl ?_
  refine pr_getf dX7_isHere_1 pzf_7_210 (rH_0 hj) rfl ?_
  refine zr_if_ne (tgt := 39) dX7_isHere_4 (by decide) (by omega) (fun c4 => ?_) (fun c4 => ?_)
  · refine zr_iconst dX7_isHere_39 ?_
    exact pr_iret dX7_isHere_40 rfl rfl (zret (by first | exact (bI_t (by omega)).symm | exact (bI_f (by omega)).symm))
  · refine pr_aload_n dX7_isHere_7 rfl ?_
    refine pr_getf dX7_isHere_8 pzf_7_214 (rH_0 hj) rfl ?_
    refine pr_aload_n dX7_isHere_11 rfl ?_
    refine pr_getf dX7_isHere_12 pzf_7_207 (rH_0 hj) rfl ?_
    refine zr_icmp_ge (tgt := 39) dX7_isHere_15 (by decide) (by omega) (by omega) (fun c15 => ?_) (fun c15 => ?_)
    · refine zr_iconst dX7_isHere_39 ?_
      exact pr_iret dX7_isHere_40 rfl rfl (zret (by first | exact (bI_t (by omega)).symm | exact (bI_f (by omega)).symm))
    · refine pr_aload_n dX7_isHere_18 rfl ?_
      refine pr_getf dX7_isHere_19 pzf_7_25 (rH_0 hj) rfl ?_
      refine pr_aload_n dX7_isHere_22 rfl ?_
      refine pr_getf dX7_isHere_23 pzf_7_214 (rH_0 hj) rfl ?_
      refine zr_cald dX7_isHere_26 (rH_6 hj) (by omega) (by decide) ?_
      refine pr_iload_n dX7_isHere_27 rfl ?_
      refine pr_iload_n dX7_isHere_28 rfl ?_
      refine zcs3i dX7_isHere_29 pzm_7_70 pzt_X7_in (kX7_in (by omega) h1 h2) (by decide) (Nat.le_of_ble_eq_true rfl) ?_
      refine zr_if_eq (tgt := 39) dX7_isHere_32 (by decide) (bI_R _) (fun c32 => ?_) (fun c32 => ?_)
      · have b32 := bI_0 c32
        refine zr_iconst dX7_isHere_39 ?_
        exact pr_iret dX7_isHere_40 rfl rfl (zret (by first | exact (bI_t (by omega)).symm | exact (bI_f (by omega)).symm))
      · have b32 := bI_ne c32
        refine zr_iconst dX7_isHere_35 ?_
        refine pr_goto (tgt := 40) dX7_isHere_36 (by decide) ?_
        exact pr_iret dX7_isHere_40 rfl rfl (zret (by first | exact (bI_t (by omega)).symm | exact (bI_f (by omega)).symm))
set_option maxRecDepth 100000 in
set_option maxHeartbeats 4000000 in
theorem kX7_sign (hj : oj 9 a) (hA : ∀ i, 0 ≤ A 6 i ∧ A 6 i < 65536) {ln pl w : Int} (e10 : F 10 = ln) (e11 : F 11 = pl) (e12 : F 12 = w) (l1 : 0 ≤ pl) (l2 : pl ≤ ln) (l3 : ln ≤ 60) (hw : w = 0 ∨ w = 1) {c : Int} (h1 : zR c) : pz_Cd en 3 202 [.ref (a 0), .int (zI c)] (rH h0 a s lv A F) 0 0 (pz_ret (none) (rH h0 a s lv A (va_up (va_up F 12 (pSg (A 6) ln c (pl, w)).2) 11 (pSg (A 6) ln c (pl, w)).1))) := by
  refine pz_in pzt_X7_sign ?_
  have hp := hA (F 11)
  subst e10 e11 e12
  refine pr_aload_n dX7_sign_0 rfl ?_
  refine pr_aload_n dX7_sign_1 rfl ?_
  refine pr_iload_n dX7_sign_2 rfl ?_
  refine pr_iload_n dX7_sign_3 rfl ?_
  refine zcv2i dX7_sign_4 pzm_7_217 pzt_X7_isHere (rH_0 hj) (kX7_isHere (F := F) (ln := F 10) (pl := F 11) (w := F 12) hj hA rfl rfl rfl (by omega) (by omega) (by omega) (by omega) h1 h1) (by decide) (Nat.le_of_ble_eq_true rfl) (by decide) ?_
  refine zr_if_ne (tgt := 14) dX7_sign_7 (by decide) (bI_R _) (fun c7 => ?_) (fun c7 => ?_)
  · have b7 := bI_ne c7
    rw [show pSg (A 6) (F 10) c (F 11, F 12) = (F 11 + 1, 0) from if_pos b7]
    refine zr_iconst dX7_sign_14 ?_
    refine pr_putf dX7_sign_15 pzf_7_210 (Or.inl rfl) (rH_0 hj) (Nat.le_of_ble_eq_true rfl) rfl rfl (rH_p12 hj) ?_
    refine pr_aload_n dX7_sign_18 rfl ?_
    refine pr_dup dX7_sign_19 rfl ?_
    refine pr_getf dX7_sign_20 pzf_7_214 (rH_0 hj) rfl ?_
    refine pr_aload_n dX7_sign_23 rfl ?_
    refine pr_getf dX7_sign_24 pzf_7_210 (rH_0 hj) rfl ?_
    rw [vu_self]
    refine zr_if_eq (tgt := 34) dX7_sign_27 (by decide) (by decide) (fun c27 => ?_) (fun c27 => ?_)
    · refine zr_iconst dX7_sign_34 ?_
      refine zr_iadd dX7_sign_35 ?_
      refine pr_putf dX7_sign_36 pzf_7_214 (Or.inl rfl) (rH_0 hj) (Nat.le_of_ble_eq_true rfl) rfl rfl (rH_p11 hj) ?_
      exact pr_vret dX7_sign_39 rfl (zretv (by first | (exfalso; omega) | rfl | (rw [Int.add_zero]; rfl)))
    · refine zr_iconst dX7_sign_30 ?_
      refine pr_goto (tgt := 35) dX7_sign_31 (by decide) ?_
      refine zr_iadd dX7_sign_35 ?_
      refine pr_putf dX7_sign_36 pzf_7_214 (Or.inl rfl) (rH_0 hj) (Nat.le_of_ble_eq_true rfl) rfl rfl (rH_p11 hj) ?_
      exact pr_vret dX7_sign_39 rfl (zretv (by first | (exfalso; omega) | rfl | (rw [Int.add_zero]; rfl)))
  · have b7 := bI_0 c7
    rw [show pSg (A 6) (F 10) c (F 11, F 12) = (F 11, 1) from if_neg b7]
    refine zr_iconst dX7_sign_10 ?_
    refine pr_goto (tgt := 15) dX7_sign_11 (by decide) ?_
    refine pr_putf dX7_sign_15 pzf_7_210 (Or.inl rfl) (rH_0 hj) (Nat.le_of_ble_eq_true rfl) rfl rfl (rH_p12 hj) ?_
    refine pr_aload_n dX7_sign_18 rfl ?_
    refine pr_dup dX7_sign_19 rfl ?_
    refine pr_getf dX7_sign_20 pzf_7_214 (rH_0 hj) rfl ?_
    refine pr_aload_n dX7_sign_23 rfl ?_
    refine pr_getf dX7_sign_24 pzf_7_210 (rH_0 hj) rfl ?_
    rw [vu_self]
    refine zr_if_eq (tgt := 34) dX7_sign_27 (by decide) (by decide) (fun c27 => ?_) (fun c27 => ?_)
    · refine zr_iconst dX7_sign_34 ?_
      refine zr_iadd dX7_sign_35 ?_
      refine pr_putf dX7_sign_36 pzf_7_214 (Or.inl rfl) (rH_0 hj) (Nat.le_of_ble_eq_true rfl) rfl rfl (rH_p11 hj) ?_
      exact pr_vret dX7_sign_39 rfl (zretv (by first | (exfalso; omega) | rfl | (rw [Int.add_zero]; rfl)))
    · refine zr_iconst dX7_sign_30 ?_
      refine pr_goto (tgt := 35) dX7_sign_31 (by decide) ?_
      refine zr_iadd dX7_sign_35 ?_
      refine pr_putf dX7_sign_36 pzf_7_214 (Or.inl rfl) (rH_0 hj) (Nat.le_of_ble_eq_true rfl) rfl rfl (rH_p11 hj) ?_
      exact pr_vret dX7_sign_39 rfl (zretv (by first | (exfalso; omega) | rfl | (rw [Int.add_zero]; rfl)))
set_option maxRecDepth 100000 in
set_option maxHeartbeats 4000000 in
theorem kX7_number (hj : oj 9 a) (hA : ∀ i, 0 ≤ A 6 i ∧ A 6 i < 65536) {ln pl w : Int} (e10 : F 10 = ln) (e11 : F 11 = pl) (e12 : F 12 = w) (l1 : 0 ≤ pl) (l2 : pl ≤ ln) (l3 : ln ≤ 60) (hw : w = 0 ∨ w = 1) {d : Int} (h1 : 1 ≤ d) (h2 : d ≤ 4) : pz_Cd en 3 204 [.ref (a 0), .int (zI d)] (rH h0 a s lv A F) 0 0 (pz_ret (some (.int (zI (pNo (A 6) ln d (pl, w)).1))) (rH h0 a s lv A (va_up (va_up F 12 (pNo (A 6) ln d (pl, w)).2.2) 11 (pNo (A 6) ln d (pl, w)).2.1))) := by
  refine pz_in pzt_X7_number ?_
  have hp := hA (F 11)
  subst e10 e11 e12
  have loop : ∀ n q : Int, 0 ≤ q → q ≤ F 10 → pz_WP 3 en (pz_Cd en (3 - 1)) 7 cX7_number 4 (some .int) [] false (pz_ret (some (.int (zI (pNm (A 6) (F 10) (d - 0).toNat n q).1))) (rH h0 a s lv A (va_up (va_up F 12 0) 11 (pNm (A 6) (F 10) (d - 0).toNat n q).2))) 24 [some (.ref (a 0)), some (.int (zI d)), some (.int (zI n)), some (.int (zI 0))] [] (rH h0 a s lv A (va_up (va_up F 12 0) 11 q)) 0 0 := by
    refine zup (P := fun k => ∀ n q : Int, 0 ≤ q → q ≤ F 10 → pz_WP 3 en (pz_Cd en (3 - 1)) 7 cX7_number 4 (some .int) [] false (pz_ret (some (.int (zI (pNm (A 6) (F 10) (d - k).toNat n q).1))) (rH h0 a s lv A (va_up (va_up F 12 0) 11 (pNm (A 6) (F 10) (d - k).toNat n q).2))) 24 [some (.ref (a 0)), some (.int (zI d)), some (.int (zI n)), some (.int (zI k))] [] (rH h0 a s lv A (va_up (va_up F 12 0) 11 q)) 0 0) (lo := 0) (hi := d) (by omega) ?_ ?_
    · intro n q q1 q2
      rw [show d - d = 0 by omega]
      refine pr_iload_n dX7_number_24 rfl ?_
      refine pr_iload_n dX7_number_25 rfl ?_
      refine zr_icmp_ge (tgt := 74) dX7_number_26 (by decide) (by first | exact hR _ | omega) (by first | exact hR _ | omega) (fun c26 => ?_) (fun c26 => by exfalso; omega)
      refine pr_iload_n dX7_number_74 rfl ?_
      exact pr_iret dX7_number_75 rfl rfl (zret (by rfl))
    · intro k hk1 hk2 ih n q q1 q2
      rw [pNm_s hk2]
      have hq := hA q
      refine pr_iload_n dX7_number_24 rfl ?_
      refine pr_iload_n dX7_number_25 rfl ?_
      refine zr_icmp_ge (tgt := 74) dX7_number_26 (by decide) (by first | exact hR _ | omega) (by first | exact hR _ | omega) (fun c26 => by exfalso; omega) (fun c26 => ?_)
      refine pr_aload_n dX7_number_29 rfl ?_
      refine zr_bipush dX7_number_30 (by decide) ?_
      refine zr_bipush dX7_number_32 (by decide) ?_
      refine zcv2i dX7_number_34 pzm_7_217 pzt_X7_isHere (rH_0 hj) (kX7_isHere (F := (va_up (va_up F 12 0) 11 q)) (ln := F 10) (pl := q) (w := 0) hj hA rfl rfl rfl (by omega) (by omega) (by omega) (by omega) (by decide) (by decide)) (by decide) (Nat.le_of_ble_eq_true rfl) (by decide) ?_
      refine zr_if_eq (tgt := 74) dX7_number_37 (by decide) (bI_R _) (fun c37 => ?_) (fun c37 => ?_)
      · have b37 := bI_0 c37
        rw [if_neg b37]
        refine pr_iload_n dX7_number_74 rfl ?_
        exact pr_iret dX7_number_75 rfl rfl (zret (by rfl))
      · have b37 := bI_ne c37
        rw [if_pos b37]
        refine zr_bipush dX7_number_40 (by decide) ?_
        refine pr_iload_n dX7_number_42 rfl ?_
        refine zr_imul dX7_number_43 ?_
        refine pr_aload_n dX7_number_44 rfl ?_
        refine pr_getf dX7_number_45 pzf_7_25 (rH_0 hj) rfl ?_
        refine pr_aload_n dX7_number_48 rfl ?_
        refine pr_getf dX7_number_49 pzf_7_214 (rH_0 hj) rfl ?_
        refine zr_cald dX7_number_52 (rH_6 hj) (by have := b37.2.1; show 0 ≤ q ∧ q < 60; omega) (by decide) ?_
        refine zr_iadd dX7_number_53 ?_
        refine zr_bipush dX7_number_54 (by decide) ?_
        refine zr_isub dX7_number_56 ?_
        refine pr_istore_n dX7_number_57 (by decide) rfl ?_
        refine pr_aload_n dX7_number_58 rfl ?_
        refine pr_dup dX7_number_59 rfl ?_
        refine pr_getf dX7_number_60 pzf_7_214 (rH_0 hj) rfl ?_
        refine zr_iconst dX7_number_63 ?_
        refine zr_iadd dX7_number_64 ?_
        refine pr_putf dX7_number_65 pzf_7_214 (Or.inl rfl) (rH_0 hj) (Nat.le_of_ble_eq_true rfl) rfl rfl (rH_p11 hj) ?_
        rw [vu_up]
        refine zr_iinc dX7_number_68 rfl (by decide) rfl ?_
        refine pr_goto (tgt := 24) dX7_number_71 (by decide) ?_
        exact ih _ _ (by show 0 ≤ q + 1; omega) (by have := b37.2.1; show q + 1 ≤ F 10; omega)
  have l := loop 0 (F 11) (by omega) (by omega)
  have e0 : va_up (va_up F 12 0) 11 (F 11) = va_up F 12 0 := vu_id (va_up F 12 0) 11
  rw [show d - 0 = d by omega, e0] at l
  have bad : pz_WP 3 en (pz_Cd en (3 - 1)) 7 cX7_number 4 (some .int) [] false (pz_ret (some (.int (zI 0))) (rH h0 a s lv A (va_up (va_up F 12 1) 11 (F 11)))) 24 [some (.ref (a 0)), some (.int (zI d)), some (.int (zI 0)), some (.int (zI 0))] [] (rH h0 a s lv A (va_up F 12 1)) 0 0 := by
    refine pr_iload_n dX7_number_24 rfl ?_
    refine pr_iload_n dX7_number_25 rfl ?_
    refine zr_icmp_ge (tgt := 74) dX7_number_26 (by decide) (by first | exact hR _ | omega) (by first | exact hR _ | omega) (fun c26 => by exfalso; omega) (fun c26 => ?_)
    refine pr_aload_n dX7_number_29 rfl ?_
    refine zr_bipush dX7_number_30 (by decide) ?_
    refine zr_bipush dX7_number_32 (by decide) ?_
    refine zcv2i dX7_number_34 pzm_7_217 pzt_X7_isHere (rH_0 hj) (kX7_isHere (F := (va_up F 12 1)) (ln := F 10) (pl := F 11) (w := 1) hj hA rfl rfl rfl (by omega) (by omega) (by omega) (by omega) (by decide) (by decide)) (by decide) (Nat.le_of_ble_eq_true rfl) (by decide) ?_
    refine zr_if_eq (tgt := 74) dX7_number_37 (by decide) (bI_R _) (fun c37 => ?_) (fun c37 => absurd (bI_ne c37).1 (by decide))
    refine pr_iload_n dX7_number_74 rfl ?_
    exact pr_iret dX7_number_75 rfl rfl (zret rfl (congrArg (fun f => rH h0 a s lv A f) (vu_id (va_up F 12 1) 11).symm))
  refine pr_aload_n dX7_number_0 rfl ?_
  refine pr_aload_n dX7_number_1 rfl ?_
  refine zr_bipush dX7_number_2 (by decide) ?_
  refine zr_bipush dX7_number_4 (by decide) ?_
  refine zcv2i dX7_number_6 pzm_7_217 pzt_X7_isHere (rH_0 hj) (kX7_isHere (F := F) (ln := F 10) (pl := F 11) (w := F 12) hj hA rfl rfl rfl (by omega) (by omega) (by omega) (by omega) (by decide) (by decide)) (by decide) (Nat.le_of_ble_eq_true rfl) (by decide) ?_
  refine zr_if_ne (tgt := 16) dX7_number_9 (by decide) (bI_R _) (fun c9 => ?_) (fun c9 => ?_)
  · have b9 := bI_ne c9
    rw [show pNo (A 6) (F 10) d (F 11, F 12) = ((pNm (A 6) (F 10) d.toNat 0 (F 11)).1, (pNm (A 6) (F 10) d.toNat 0 (F 11)).2, 0) from if_pos b9]
    refine zr_iconst dX7_number_16 ?_
    refine pr_putf dX7_number_17 pzf_7_210 (Or.inl rfl) (rH_0 hj) (Nat.le_of_ble_eq_true rfl) rfl rfl (rH_p12 hj) ?_
    refine zr_iconst dX7_number_20 ?_
    refine pr_istore_n dX7_number_21 (by decide) rfl ?_
    refine zr_iconst dX7_number_22 ?_
    refine pr_istore_n dX7_number_23 (by decide) rfl ?_
    first | exact l | exact bad
  · have b9 := bI_0 c9
    rw [show pNo (A 6) (F 10) d (F 11, F 12) = (0, F 11, 1) from if_neg b9]
    refine zr_iconst dX7_number_12 ?_
    refine pr_goto (tgt := 17) dX7_number_13 (by decide) ?_
    refine pr_putf dX7_number_17 pzf_7_210 (Or.inl rfl) (rH_0 hj) (Nat.le_of_ble_eq_true rfl) rfl rfl (rH_p12 hj) ?_
    refine zr_iconst dX7_number_20 ?_
    refine pr_istore_n dX7_number_21 (by decide) rfl ?_
    refine zr_iconst dX7_number_22 ?_
    refine pr_istore_n dX7_number_23 (by decide) rfl ?_
    first | exact l | exact bad
end ref
