/-! the reference: the loop of its reader -/
def fN (F : Nat → Int) (w p e : Int) : Nat → Int := va_up (va_up (va_up F 12 w) 11 p) 16 e
def aN (A : Nat → Int → Int) (K N : Int → Int) : Nat → Int → Int := va_up (va_up A 7 K) 8 N
theorem fN_fN (F : Nat → Int) (w p e w2 p2 e2 : Int) : va_up (va_up (va_up (fN F w p e) 12 w2) 11 p2) 16 e2 = fN F w2 p2 e2 := by
  funext j
  unfold fN va_up
  by_cases h1 : j = 16 <;> by_cases h2 : j = 11 <;> by_cases h3 : j = 12 <;> first | (exfalso; omega) | simp [h1, h2, h3]
theorem fN_0 (F : Nat → Int) : va_up (va_up (va_up F 11 0) 12 0) 16 0 = fN F 0 0 0 := by
  funext j
  unfold fN va_up
  by_cases h1 : j = 16
  · rw [if_pos h1, if_pos h1]
  · rw [if_neg h1, if_neg h1]
    by_cases h2 : j = 11
    · rw [if_pos h2, if_neg (by omega), if_pos h2]
    · rw [if_neg h2, if_neg h2]
theorem aN_aN (A : Nat → Int → Int) (K N K2 N2 : Int → Int) : va_up (va_up (aN A K N) 7 K2) 8 N2 = aN A K2 N2 := by
  funext j
  unfold aN va_up
  by_cases h1 : j = 8 <;> by_cases h2 : j = 7 <;> first | (exfalso; omega) | simp [h1, h2]
theorem aN_id (A : Nat → Int → Int) : aN A (A 7) (A 8) = A := by
  unfold aN
  rw [vu_id]
  exact vu_id A 8
def pRd (inp : Int → Int) (ln : Int) : Nat → Int → Int × Int → (Int → Int) → (Int → Int) → Int × (Int × Int) × (Int → Int) × (Int → Int)
  | 0, e, x, K, N => (e, x, K, N)
  | n + 1, e, x, K, N => if x.2 = 0 ∧ x.1 < ln then pRd inp ln n (e + 1) (pEn inp N ln x.1 (3 * e)).1 (zu K e (pKd inp ln x.1)) (pEn inp N ln x.1 (3 * e)).2 else (e, x, K, N)
theorem pNm_b {inp : Int → Int} {ln : Int} : ∀ (d : Nat) (n pl : Int), 0 ≤ n → 0 ≤ (pNm inp ln d n pl).1 ∧ (pNm inp ln d n pl).1 < (n + 1) * 10 ^ d
  | 0, n, pl => fun h => by
    show 0 ≤ n ∧ n < (n + 1) * 10 ^ 0
    omega
  | d + 1, n, pl => fun h => by
    have hp : (0 : Int) < 10 ^ d := Int.pow_pos (by decide)
    have e1 : (n + 1) * 10 ^ (d + 1) = (10 * n + 9 + 1) * (10 : Int) ^ d := by
      rw [Int.pow_succ, Int.mul_comm ((10 : Int) ^ d) 10, ← Int.mul_assoc]
      congr 1
      omega
    unfold pNm
    split <;> rename_i g
    · have ih := pNm_b (inp := inp) (ln := ln) d (10 * n + inp pl - 48) (pl + 1) (by have := g.2.2; omega)
      refine ⟨ih.1, Int.lt_of_lt_of_le ih.2 ?_⟩
      rw [e1]
      exact Int.mul_le_mul_of_nonneg_right (by have := g.2.2; omega) (Int.le_of_lt hp)
    · refine ⟨h, ?_⟩
      show n < _
      rw [e1]
      have : (10 * n + 9 + 1) * 1 ≤ (10 * n + 9 + 1) * (10 : Int) ^ d := Int.mul_le_mul_of_nonneg_left hp (by omega)
      omega
theorem pNo_b {inp : Int → Int} {ln d : Int} {x : Int × Int} (h : d ≤ 4) : 0 ≤ (pNo inp ln d x).1 ∧ (pNo inp ln d x).1 < 10000 := by
  unfold pNo
  split
  · have hb := pNm_b (inp := inp) (ln := ln) d.toNat 0 x.1 (by decide)
    refine ⟨hb.1, Int.lt_of_lt_of_le hb.2 ?_⟩
    rcases (show d.toNat = 0 ∨ d.toNat = 1 ∨ d.toNat = 2 ∨ d.toNat = 3 ∨ d.toNat = 4 by omega) with e | e | e | e | e <;> rw [e] <;> decide
  · simp
theorem zu_b {f : Int → Int} {k v : Int} (hf : ∀ i, 0 ≤ f i ∧ f i < 10000) (hv : 0 ≤ v ∧ v < 10000) : ∀ i, 0 ≤ zu f k v i ∧ zu f k v i < 10000 := by
  intro i
  unfold zu
  split
  · exact hv
  · exact hf i
theorem pEn_b {inp N : Int → Int} {ln pl to : Int} (hN : ∀ i, 0 ≤ N i ∧ N i < 10000) : ∀ i, 0 ≤ (pEn inp N ln pl to).2 i ∧ (pEn inp N ln pl to).2 i < 10000 := by
  unfold pEn
  split
  · split
    · exact hN
    · split
      · exact zu_b hN (pNo_b (by decide))
      · split
        · exact zu_b hN (pNo_b (by decide))
        · split
          · exact zu_b (zu_b hN (pNo_b (by decide))) (pNo_b (by decide))
          · split
            · exact zu_b (zu_b (zu_b hN (pNo_b (by decide))) (pNo_b (by decide))) (pNo_b (by decide))
            · exact hN
  · exact hN
abbrev pKo (k : Int) : Prop := k = 99 ∨ k = 120 ∨ k = 115 ∨ k = 114 ∨ k = 103 ∨ k = 106 ∨ k = 116
theorem pEn_k {inp N : Int → Int} {ln pl to : Int} (h : (pEn inp N ln pl to).1.2 = 0) : pl < ln ∧ pKo (pKd inp ln pl) := by
  unfold pEn at h
  split at h <;> rename_i g
  · refine ⟨g, ?_⟩
    unfold pKd
    rw [if_pos g]
    split at h
    · omega
    · split at h
      · omega
      · split at h
        · omega
        · split at h
          · omega
          · split at h
            · omega
            · simp at h
  · simp at h
/-- what the reader leaves: its place, whether it is wrong, kinds, numbers -/
abbrev pRo (inp : Int → Int) (ln e : Int) (x : Int × Int) (K N : Int → Int) : Prop := 0 ≤ e ∧ e ≤ 60 ∧ 0 ≤ x.1 ∧ x.1 ≤ ln ∧ (x.2 = 0 ∨ x.2 = 1) ∧ (x.2 = 0 → e ≤ x.1) ∧ (x.2 = 0 → ∀ j : Int, 0 ≤ j → j < e → pKo (K j)) ∧ (∀ i, 0 ≤ N i ∧ N i < 10000)
theorem pRo_s {inp : Int → Int} {ln e : Int} {x : Int × Int} {K N : Int → Int} (h : pRo inp ln e x K N) (l3 : ln ≤ 60) (hx : x.2 = 0) (hl : x.1 < ln) : pRo inp ln (e + 1) (pEn inp N ln x.1 (3 * e)).1 (zu K e (pKd inp ln x.1)) (pEn inp N ln x.1 (3 * e)).2 := by
  have g := pEn_R (inp := inp) (N := N) (to := 3 * e) h.2.2.2.1
  have he := h.2.2.2.2.2.1 hx
  have h0 := h.1
  have hp := h.2.2.1
  refine ⟨by omega, by omega, by omega, g.2.1, g.2.2.1, fun z => by have := g.2.2.2 z; omega, fun z j j1 j2 => ?_, pEn_b h.2.2.2.2.2.2.2⟩
  by_cases q : j = e
  · rw [q, zu_at]
    exact (pEn_k z).2
  · rw [zu_ne _ q]
    exact h.2.2.2.2.2.2.1 hx j j1 (by omega)
theorem pRd_o {inp : Int → Int} {ln : Int} (l3 : ln ≤ 60) : ∀ (n : Nat) (e : Int) (x : Int × Int) (K N : Int → Int), pRo inp ln e x K N → pRo inp ln (pRd inp ln n e x K N).1 (pRd inp ln n e x K N).2.1 (pRd inp ln n e x K N).2.2.1 (pRd inp ln n e x K N).2.2.2
  | 0, _, _, _, _ => fun h => h
  | n + 1, e, x, K, N => fun h => by
    unfold pRd
    split <;> rename_i g
    · exact pRd_o l3 n _ _ _ _ (pRo_s h l3 g.1 g.2)
    · exact h
section ref
variable {en : pz_Env} {h0 : pz_H} {a : Nat → Nat} {s lv : Int → Int} {A : Nat → Int → Int} {F : Nat → Int}
theorem kX7_readEntry_f (hj : oj 9 a) (hA : ∀ i, 0 ≤ A 6 i ∧ A 6 i < 65536) {w p e : Int} {K N : Int → Int} (l1 : 0 ≤ p) (l2 : p ≤ F 10) (l3 : F 10 ≤ 60) (f1 : 0 ≤ e) (f2 : e < 60) : pz_Cd en 6 206 [.ref (a 0)] (rH h0 a s lv (aN A K N) (fN F w p e)) 0 0 (pz_ret none (rH h0 a s lv (aN A (zu K e (pKd (A 6) (F 10) p)) (pEn (A 6) N (F 10) p (3 * e)).2) (fN F (pEn (A 6) N (F 10) p (3 * e)).1.2 (pEn (A 6) N (F 10) p (3 * e)).1.1 (e + 1)))) := by
  rw [← aN_aN A K N (zu K e (pKd (A 6) (F 10) p)), ← fN_fN F w p e (pEn (A 6) N (F 10) p (3 * e)).1.2]
  exact kX7_readEntry (A := aN A K N) (F := fN F w p e) hj hA l1 l2 l3 f1 f2
set_option maxRecDepth 100000 in
set_option maxHeartbeats 4000000 in
theorem read_loop (hj : oj 9 a) (hA : ∀ i, 0 ≤ A 6 i ∧ A 6 i < 65536) (l3 : F 10 ≤ 60) {Q : pz_Q} : ∀ (n : Nat) (e : Int) (x : Int × Int) (K N : Int → Int), pRo (A 6) (F 10) e x K N → (x.2 = 0 → F 10 - x.1 ≤ n) → pz_WP 9 en (pz_Cd en (9 - 1)) 7 cX7_read 2 (some .int) [] false Q 44 [some (.ref (a 0)), none] [] (rH h0 a s lv (aN A (pRd (A 6) (F 10) n e x K N).2.2.1 (pRd (A 6) (F 10) n e x K N).2.2.2) (fN F (pRd (A 6) (F 10) n e x K N).2.1.2 (pRd (A 6) (F 10) n e x K N).2.1.1 (pRd (A 6) (F 10) n e x K N).1)) 0 0 → pz_WP 9 en (pz_Cd en (9 - 1)) 7 cX7_read 2 (some .int) [] false Q 19 [some (.ref (a 0)), none] [] (rH h0 a s lv (aN A K N) (fN F x.2 x.1 e)) 0 0 := by
  intro n
  induction n with
  | zero =>
    intro e x K N ho hn hT
    have hw := ho.2.2.2.2.1
    have hp0 := ho.2.2.1
    have hp1 := ho.2.2.2.1
    have hT2 : pz_WP 9 en (pz_Cd en (9 - 1)) 7 cX7_read 2 (some .int) [] false Q 44 [some (.ref (a 0)), none] [] (rH h0 a s lv (aN A K N) (fN F x.2 x.1 e)) 0 0 := hT
    refine pr_aload_n dX7_read_19 rfl ?_
    refine pr_getf dX7_read_20 pzf_7_210 (rH_0 hj) rfl ?_
    refine zr_if_ne (tgt := 44) dX7_read_23 (by decide) (show zR x.2 by omega) (fun c23 => ?_) (fun c23 => ?_)
    · have t23 : ¬ x.2 = 0 := c23
      exact hT2
    · have t23 : x.2 = 0 := c23
      refine pr_aload_n dX7_read_26 rfl ?_
      refine pr_getf dX7_read_27 pzf_7_214 (rH_0 hj) rfl ?_
      refine pr_aload_n dX7_read_30 rfl ?_
      refine pr_getf dX7_read_31 pzf_7_207 (rH_0 hj) rfl ?_
      refine zr_icmp_ge (tgt := 44) dX7_read_34 (by decide) (show zR x.1 by omega) (show zR (F 10) by omega) (fun c34 => ?_) (fun c34 => absurd (show F 10 ≤ x.1 by have := hn t23; omega) c34)
      exact hT2
  | succ n ih =>
    intro e x K N ho hn hT
    have hw := ho.2.2.2.2.1
    have hp0 := ho.2.2.1
    have hp1 := ho.2.2.2.1
    have he0 := ho.1
    have hep := ho.2.2.2.2.2.1
    refine pr_aload_n dX7_read_19 rfl ?_
    refine pr_getf dX7_read_20 pzf_7_210 (rH_0 hj) rfl ?_
    refine zr_if_ne (tgt := 44) dX7_read_23 (by decide) (show zR x.2 by omega) (fun c23 => ?_) (fun c23 => ?_)
    · have er : pRd (A 6) (F 10) (n + 1) e x K N = (e, x, K, N) := if_neg (fun z => c23 z.1)
      rw [er] at hT
      exact hT
    · have t23 : x.2 = 0 := c23
      refine pr_aload_n dX7_read_26 rfl ?_
      refine pr_getf dX7_read_27 pzf_7_214 (rH_0 hj) rfl ?_
      refine pr_aload_n dX7_read_30 rfl ?_
      refine pr_getf dX7_read_31 pzf_7_207 (rH_0 hj) rfl ?_
      refine zr_icmp_ge (tgt := 44) dX7_read_34 (by decide) (show zR x.1 by omega) (show zR (F 10) by omega) (fun c34 => ?_) (fun c34 => ?_)
      · have er : pRd (A 6) (F 10) (n + 1) e x K N = (e, x, K, N) := if_neg (fun z => absurd z.2 (show ¬ x.1 < F 10 from Int.not_lt.mpr c34))
        rw [er] at hT
        exact hT
      · have t34 : x.1 < F 10 := Int.not_le.mp c34
        have er : pRd (A 6) (F 10) (n + 1) e x K N = pRd (A 6) (F 10) n (e + 1) (pEn (A 6) N (F 10) x.1 (3 * e)).1 (zu K e (pKd (A 6) (F 10) x.1)) (pEn (A 6) N (F 10) x.1 (3 * e)).2 := if_pos ⟨t23, t34⟩
        rw [er] at hT
        refine pr_aload_n dX7_read_37 rfl ?_
        refine zcv0u dX7_read_38 pzm_7_245 pzt_X7_readEntry (rH_0 hj) (kX7_readEntry_f hj hA hp0 hp1 l3 he0 (by have := hep t23; omega)) (by decide) (Nat.le_of_ble_eq_true rfl) (by decide) ?_
        refine pr_goto (tgt := 19) dX7_read_41 (by decide) ?_
        exact ih (e + 1) (pEn (A 6) N (F 10) x.1 (3 * e)).1 (zu K e (pKd (A 6) (F 10) x.1)) (pEn (A 6) N (F 10) x.1 (3 * e)).2 (pRo_s ho l3 t23 t34) (fun z => by have := (pEn_R (inp := A 6) (N := N) (to := 3 * e) hp1).2.2.2 z; omega) hT
end ref
