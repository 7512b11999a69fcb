/-! the class: the cells above the shows; the input -/
def tcl (t u : Int → Nat) (K : Int → Int → Int) (i : Int) : pz_E :=
  if i = 0 then .inr (6, [.ref (u 0), .ref (u 1), .ref (t 1), .ref (t 3), .int (zI (K 0 4)), .int (zI (K 0 5)), .int (zI (K 0 6))])
  else if i = 1 then .inr (2, [.ref (t 2), .int (zI (K 1 1)), .int (zI (K 1 2))])
  else if i = 2 then .inl (4, 7, .inr (.inr (.inr (.inr (fun k => if k < 7 then some (u (2 + (k : Int))) else none)))))
  else if i = 3 then .inr (3, [.ref (t 4), .int (zI (K 3 1)), .int (zI (K 3 2)), .int (zI (K 3 3)), .ref (t 5)])
  else if i = 4 then .inl (1, 60, .inl (zf (K 4)))
  else .inl (0, 3, .inl (zf (K 5)))
def tH (h : pz_H) (t u : Int → Nat) (K : Int → Int → Int) : pz_H := ovI h 6 t (tcl t u K)
def tj (t : Int → Nat) : Prop := ∀ i j : Int, 0 ≤ i → i < 6 → 0 ≤ j → j < 6 → t i = t j → i = j
theorem tj_oj {t : Int → Nat} (hj : tj t) : oj 6 (fun i => t (i : Int)) := fun i j h1 h2 e => by
  have := hj (i : Int) (j : Int) (by omega) (by omega) (by omega) (by omega) e
  omega
section clstop
variable {h : pz_H} {t u : Int → Nat} {K : Int → Int → Int}
theorem tH_at (hj : tj t) {i : Int} (h1 : 0 ≤ i) (h2 : i < 6) : tH h t u K (t i) = some (tcl t u K i) := by
  have := ov_at (h0 := h) (cl := fun i => tcl t u K (i : Int)) (tj_oj hj) (i := i.toNat) (by omega)
  rw [show ((i.toNat : Nat) : Int) = i by omega] at this
  exact this
theorem tH_out {q : Nat} (hq : ∀ i : Int, 0 ≤ i → i < 6 → ¬ t i = q) : tH h t u K q = h q := ov_ne (fun i hi => hq (i : Int) (by omega) (by omega))
theorem tH_ext (hj : tj t) {g : pz_H} (h1 : ∀ i : Int, 0 ≤ i → i < 6 → g (t i) = some (tcl t u K i)) (h2 : ∀ q, (∀ i : Int, 0 ≤ i → i < 6 → ¬ t i = q) → g q = h q) : g = tH h t u K :=
  ov_ext (tj_oj hj) (fun i hi => h1 (i : Int) (by omega) (by omega)) (fun q hq => h2 q (fun i g1 g2 => by
    have := hq i.toNat (by omega)
    rwa [show ((i.toNat : Nat) : Int) = i by omega] at this))
theorem tcl_congr {K L : Int → Int → Int} {i : Int} (h1 : 0 ≤ i) (h2 : i < 6) (e : K i = L i) : tcl t u K i = tcl t u L i := by
  rcases (show i = 0 ∨ i = 1 ∨ i = 2 ∨ i = 3 ∨ i = 4 ∨ i = 5 by omega) with rfl | rfl | rfl | rfl | rfl | rfl
  · show (.inr (6, [.ref (u 0), .ref (u 1), .ref (t 1), .ref (t 3), .int (zI (K 0 4)), .int (zI (K 0 5)), .int (zI (K 0 6))]) : pz_E) = _
    rw [e]; rfl
  · show (.inr (2, [.ref (t 2), .int (zI (K 1 1)), .int (zI (K 1 2))]) : pz_E) = _
    rw [e]; rfl
  · rfl
  · show (.inr (3, [.ref (t 4), .int (zI (K 3 1)), .int (zI (K 3 2)), .int (zI (K 3 3)), .ref (t 5)]) : pz_E) = _
    rw [e]; rfl
  · show (.inl (1, 60, .inl (zf (K 4))) : pz_E) = _
    rw [e]; rfl
  · show (.inl (0, 3, .inl (zf (K 5))) : pz_E) = _
    rw [e]; rfl
theorem tH_up (hj : tj t) {i : Int} {g : Int → Int} {e : pz_E} (h1 : 0 ≤ i) (h2 : i < 6) (he : e = tcl t u (zv K i g) i) : va_up (tH h t u K) (t i) (some e) = tH h t u (zv K i g) := by
  apply tH_ext hj
  · intro j g1 g2
    unfold va_up
    by_cases q : j = i
    · subst q
      rw [if_pos rfl, he]
    · rw [if_neg (fun z => q (hj j i g1 g2 h1 h2 z)), tH_at hj g1 g2, tcl_congr g1 g2 (zv_ne K g q).symm]
  · intro q hq
    unfold va_up
    rw [if_neg (fun z => hq i h1 h2 z.symm), tH_out hq]
theorem tH_0 (hj : tj t) : tH h t u K (t 0) = some (.inr (6, [.ref (u 0), .ref (u 1), .ref (t 1), .ref (t 3), .int (zI (K 0 4)), .int (zI (K 0 5)), .int (zI (K 0 6))]) : pz_E) := tH_at hj (by decide) (by decide)
theorem tH_1 (hj : tj t) : tH h t u K (t 1) = some (.inr (2, [.ref (t 2), .int (zI (K 1 1)), .int (zI (K 1 2))]) : pz_E) := tH_at hj (by decide) (by decide)
theorem tH_2 (hj : tj t) : tH h t u K (t 2) = some (.inl (4, 7, .inr (.inr (.inr (.inr (fun k => if k < 7 then some (u (2 + (k : Int))) else none))))) : pz_E) := tH_at hj (by decide) (by decide)
theorem tH_3 (hj : tj t) : tH h t u K (t 3) = some (.inr (3, [.ref (t 4), .int (zI (K 3 1)), .int (zI (K 3 2)), .int (zI (K 3 3)), .ref (t 5)]) : pz_E) := tH_at hj (by decide) (by decide)
theorem tH_4 (hj : tj t) : tH h t u K (t 4) = some (.inl (1, 60, .inl (zf (K 4))) : pz_E) := tH_at hj (by decide) (by decide)
theorem tH_5 (hj : tj t) : tH h t u K (t 5) = some (.inl (0, 3, .inl (zf (K 5))) : pz_E) := tH_at hj (by decide) (by decide)
theorem tH_p0_4 (hj : tj t) {v : Int} : va_up (tH h t u K) (t 0) (some (.inr (6, ([.ref (u 0), .ref (u 1), .ref (t 1), .ref (t 3), .int (zI (K 0 4)), .int (zI (K 0 5)), .int (zI (K 0 6))] : List Value).set 4 (.int (zI v))))) = tH h t u (zv K 0 (zu (K 0) 4 v)) := tH_up hj (by decide) (by decide) rfl
theorem tH_p0_5 (hj : tj t) {v : Int} : va_up (tH h t u K) (t 0) (some (.inr (6, ([.ref (u 0), .ref (u 1), .ref (t 1), .ref (t 3), .int (zI (K 0 4)), .int (zI (K 0 5)), .int (zI (K 0 6))] : List Value).set 5 (.int (zI v))))) = tH h t u (zv K 0 (zu (K 0) 5 v)) := tH_up hj (by decide) (by decide) rfl
theorem tH_p0_6 (hj : tj t) {v : Int} : va_up (tH h t u K) (t 0) (some (.inr (6, ([.ref (u 0), .ref (u 1), .ref (t 1), .ref (t 3), .int (zI (K 0 4)), .int (zI (K 0 5)), .int (zI (K 0 6))] : List Value).set 6 (.int (zI v))))) = tH h t u (zv K 0 (zu (K 0) 6 v)) := tH_up hj (by decide) (by decide) rfl
theorem tH_p1_1 (hj : tj t) {v : Int} : va_up (tH h t u K) (t 1) (some (.inr (2, ([.ref (t 2), .int (zI (K 1 1)), .int (zI (K 1 2))] : List Value).set 1 (.int (zI v))))) = tH h t u (zv K 1 (zu (K 1) 1 v)) := tH_up hj (by decide) (by decide) rfl
theorem tH_p1_2 (hj : tj t) {v : Int} : va_up (tH h t u K) (t 1) (some (.inr (2, ([.ref (t 2), .int (zI (K 1 1)), .int (zI (K 1 2))] : List Value).set 2 (.int (zI v))))) = tH h t u (zv K 1 (zu (K 1) 2 v)) := tH_up hj (by decide) (by decide) rfl
theorem tH_p3_1 (hj : tj t) {v : Int} : va_up (tH h t u K) (t 3) (some (.inr (3, ([.ref (t 4), .int (zI (K 3 1)), .int (zI (K 3 2)), .int (zI (K 3 3)), .ref (t 5)] : List Value).set 1 (.int (zI v))))) = tH h t u (zv K 3 (zu (K 3) 1 v)) := tH_up hj (by decide) (by decide) rfl
theorem tH_p3_2 (hj : tj t) {v : Int} : va_up (tH h t u K) (t 3) (some (.inr (3, ([.ref (t 4), .int (zI (K 3 1)), .int (zI (K 3 2)), .int (zI (K 3 3)), .ref (t 5)] : List Value).set 2 (.int (zI v))))) = tH h t u (zv K 3 (zu (K 3) 2 v)) := tH_up hj (by decide) (by decide) rfl
theorem tH_p3_3 (hj : tj t) {v : Int} : va_up (tH h t u K) (t 3) (some (.inr (3, ([.ref (t 4), .int (zI (K 3 1)), .int (zI (K 3 2)), .int (zI (K 3 3)), .ref (t 5)] : List Value).set 3 (.int (zI v))))) = tH h t u (zv K 3 (zu (K 3) 3 v)) := tH_up hj (by decide) (by decide) rfl
theorem tH_u4 (hj : tj t) {g : Int → Int} : va_up (tH h t u K) (t 4) (some (.inl (1, 60, .inl (zf g)))) = tH h t u (zv K 4 g) := tH_up hj (by decide) (by decide) rfl
theorem tH_u5 (hj : tj t) {g : Int → Int} : va_up (tH h t u K) (t 5) (some (.inl (0, 3, .inl (zf g)))) = tH h t u (zv K 5 g) := tH_up hj (by decide) (by decide) rfl
theorem tH_eq {L : Int → Int → Int} (e : K = L) : tH h t u K = tH h t u L := by rw [e]
end clstop
def kS (K : Int → Int → Int) (pl kd : Int) (M : Int → Int) : Int → Int → Int := zv (zv K 3 (zu (zu (K 3) 2 pl) 3 kd)) 5 M
section kS
variable {K : Int → Int → Int} {pl kd : Int} {M : Int → Int}
theorem kS_1 : kS K pl kd M 3 1 = K 3 1 := rfl
theorem kS_2 : kS K pl kd M 3 2 = pl := rfl
theorem kS_3 : kS K pl kd M 3 3 = kd := rfl
theorem kS_4 : kS K pl kd M 4 = K 4 := rfl
theorem kS_5 : kS K pl kd M 5 = M := rfl
theorem zu_id (f : Int → Int) (k : Int) : zu f k (f k) = f := by
  funext j
  rw [zu_app]
  split
  · rename_i e; rw [e]
  · rfl
theorem zv_id (X : Int → Int → Int) (k : Int) : zv X k (X k) = X := by
  funext j
  unfold zv
  split
  · rename_i e; rw [e]
  · rfl
theorem zv_sw {X : Int → Int → Int} {i j : Int} {f g : Int → Int} (h : ¬ i = j) : zv (zv X i f) j g = zv (zv X j g) i f := by
  funext q
  unfold zv
  by_cases e : q = i
  · rw [if_pos e, if_neg (by omega), if_pos e]
  · rw [if_neg e, if_neg e]
theorem zu_sw {f : Int → Int} {i j v x : Int} (h : ¬ i = j) : zu (zu f i v) j x = zu (zu f j x) i v := by
  funext q
  unfold zu
  by_cases e : q = i
  · rw [if_pos e, if_neg (by omega), if_pos e]
  · rw [if_neg e, if_neg e]
theorem zu_zu {f : Int → Int} {i v x : Int} : zu (zu f i v) i x = zu f i x := by
  funext q
  unfold zu
  split <;> rfl
theorem kS_id : kS K (K 3 2) (K 3 3) (K 5) = K := by
  have e : zu (zu (K 3) 2 (K 3 2)) 3 (K 3 3) = K 3 := by rw [zu_id, zu_id]
  unfold kS
  rw [e, zv_id, zv_id]
theorem kS_p {v : Int} : zv (kS K pl kd M) 3 (zu (kS K pl kd M 3) 2 v) = kS K v kd M := by
  unfold kS
  rw [zv_ne _ _ (show ¬ (3 : Int) = 5 by decide), zv_at, zv_sw (show ¬ (5 : Int) = 3 by decide), zv_zv, zu_sw (show ¬ (3 : Int) = 2 by decide), zu_zu]
theorem kS_k {v : Int} : zv (kS K pl kd M) 3 (zu (kS K pl kd M 3) 3 v) = kS K pl v M := by
  unfold kS
  rw [zv_ne _ _ (show ¬ (3 : Int) = 5 by decide), zv_at, zv_sw (show ¬ (5 : Int) = 3 by decide), zv_zv, zu_zu]
theorem kS_n {g : Int → Int} : zv (kS K pl kd M) 5 g = kS K pl kd g := by
  unfold kS
  rw [zv_zv]
end kS
def pDg (kd q : Int) : Int := if kd = 116 then 4 else if q = 2 then 3 else 2
def pNc (c : Int) : Int := if c = 103 then 0 else if c = 99 ∨ c = 120 ∨ c = 106 ∨ c = 116 then 1 else if c = 114 then 2 else if c = 115 then 3 else -1
section cls
variable {en : pz_Env} {h : pz_H} {t u : Int → Nat} {K : Int → Int → Int} {pl kd : Int} {M : Int → Int}
set_option maxRecDepth 100000 in
set_option maxHeartbeats 4000000 in
theorem kX3_isDigit  {c : Int} (c1 : zR c) : pz_Cd en 1 55 [.int (zI c)] h 0 0 (pz_ret (some (.int (zI (bI (48 ≤ c ∧ c ≤ 57))))) h) := by
  refine pz_in pzt_X3_isDigit ?_
  refine pr_iload_n dX3_isDigit_0 rfl ?_
  refine zr_bipush dX3_isDigit_1 (by decide) ?_
  refine zr_icmp_lt (tgt := 16) dX3_isDigit_3 (by decide) (by omega) (by omega) (fun c3 => ?_) (fun c3 => ?_)
  · refine zr_iconst dX3_isDigit_16 ?_
    exact pr_iret dX3_isDigit_17 rfl rfl (zret (by first | exact (bI_t (by omega)).symm | exact (bI_f (by omega)).symm))
  · refine pr_iload_n dX3_isDigit_6 rfl ?_
    refine zr_bipush dX3_isDigit_7 (by decide) ?_
    refine zr_icmp_gt (tgt := 16) dX3_isDigit_9 (by decide) (by omega) (by omega) (fun c9 => ?_) (fun c9 => ?_)
    · refine zr_iconst dX3_isDigit_16 ?_
      exact pr_iret dX3_isDigit_17 rfl rfl (zret (by first | exact (bI_t (by omega)).symm | exact (bI_f (by omega)).symm))
    · refine zr_iconst dX3_isDigit_12 ?_
      refine pr_goto (tgt := 17) dX3_isDigit_13 (by decide) ?_
      exact pr_iret dX3_isDigit_17 rfl rfl (zret (by first | exact (bI_t (by omega)).symm | exact (bI_f (by omega)).symm))
set_option maxRecDepth 100000 in
set_option maxHeartbeats 4000000 in
theorem kX3_mostDigits (hj : tj t) {q : Int} (q1 : 0 ≤ q ∧ q < 10) (k1 : zR kd) : pz_Cd en 1 52 [.ref (t 3), .int (zI q)] (tH h t u (kS K pl kd M)) 0 0 (pz_ret (some (.int (zI (pDg kd q)))) (tH h t u (kS K pl kd M))) := by
  refine pz_in pzt_X3_mostDigits ?_
  refine pr_aload_n dX3_mostDigits_0 rfl ?_
  refine pr_getf dX3_mostDigits_1 pzf_3_30 (tH_3 hj) rfl ?_
  simp only [kS_1, kS_2, kS_3, kS_4, kS_5]
  refine zr_bipush dX3_mostDigits_4 (by decide) ?_
  refine zr_icmp_ne (tgt := 11) dX3_mostDigits_6 (by decide) (by first | exact k1 | omega) (by first | exact k1 | omega) (fun c6 => ?_) (fun c6 => ?_)
  · refine pr_iload_n dX3_mostDigits_11 rfl ?_
    refine zr_iconst dX3_mostDigits_12 ?_
    refine zr_icmp_ne (tgt := 20) dX3_mostDigits_13 (by decide) (by first | exact k1 | omega) (by first | exact k1 | omega) (fun c13 => ?_) (fun c13 => ?_)
    · refine zr_iconst dX3_mostDigits_20 ?_
      exact pr_iret dX3_mostDigits_21 rfl rfl (zret (by unfold pDg; first | rw [if_pos (by omega)] | (rw [if_neg (by omega)]; first | rw [if_pos (by omega)] | rw [if_neg (by omega)])))
    · refine zr_iconst dX3_mostDigits_16 ?_
      refine pr_goto (tgt := 21) dX3_mostDigits_17 (by decide) ?_
      exact pr_iret dX3_mostDigits_21 rfl rfl (zret (by unfold pDg; first | rw [if_pos (by omega)] | (rw [if_neg (by omega)]; first | rw [if_pos (by omega)] | rw [if_neg (by omega)])))
  · refine zr_iconst dX3_mostDigits_9 ?_
    exact pr_iret dX3_mostDigits_10 rfl rfl (zret (by unfold pDg; first | rw [if_pos (by omega)] | (rw [if_neg (by omega)]; first | rw [if_pos (by omega)] | rw [if_neg (by omega)])))
set_option maxRecDepth 100000 in
set_option maxHeartbeats 4000000 in
theorem kX3_readSign (hj : tj t) (hA : ∀ i, 0 ≤ K 4 i ∧ K 4 i < 65536) (l1 : 0 ≤ pl) (l2 : pl ≤ K 3 1) (l3 : K 3 1 ≤ 60) {c : Int} (c1 : zR c) : pz_Cd en 1 53 [.ref (t 3), .int (zI c)] (tH h t u (kS K pl kd M)) 0 0 (pz_ret (some (.int (zI (bI ((pSg (K 4) (K 3 1) c (pl, 0)).2 = 0))))) (tH h t u (kS K (pSg (K 4) (K 3 1) c (pl, 0)).1 kd M))) := by
  refine pz_in pzt_X3_readSign ?_
  have hc := hA pl
  refine pr_aload_n dX3_readSign_0 rfl ?_
  refine pr_getf dX3_readSign_1 pzf_3_19 (tH_3 hj) rfl ?_
  refine pr_aload_n dX3_readSign_4 rfl ?_
  refine pr_getf dX3_readSign_5 pzf_3_27 (tH_3 hj) rfl ?_
  simp only [kS_1, kS_2, kS_3, kS_4, kS_5]
  refine zr_icmp_ge (tgt := 24) dX3_readSign_8 (by decide) (by first | exact c1 | omega) (by first | exact c1 | omega) (fun c8 => ?_) (fun c8 => ?_)
  · have e : (pSg (K 4) (K 3 1) c (pl, 0)) = (pl, 1) := if_neg (show ¬ pHr (K 4) (K 3 1) pl 0 c c from fun z => by have := z.2.1; omega)
    rw [e]
    refine zr_iconst dX3_readSign_24 ?_
    exact pr_iret dX3_readSign_25 rfl rfl (zret (bI_f (show ¬ (1 : Int) = 0 by decide)).symm)
  · refine pr_aload_n dX3_readSign_11 rfl ?_
    refine pr_getf dX3_readSign_12 pzf_3_9 (tH_3 hj) rfl ?_
    refine pr_aload_n dX3_readSign_15 rfl ?_
    refine pr_getf dX3_readSign_16 pzf_3_19 (tH_3 hj) rfl ?_
    simp only [kS_1, kS_2, kS_3, kS_4, kS_5]
    refine zr_cald dX3_readSign_19 (tH_4 hj) (by omega) (by decide) ?_
    refine pr_iload_n dX3_readSign_20 rfl ?_
    simp only [kS_1, kS_2, kS_3, kS_4, kS_5]
    refine zr_icmp_eq (tgt := 26) dX3_readSign_21 (by decide) (by first | exact c1 | omega) (by first | exact c1 | omega) (fun c21 => ?_) (fun c21 => ?_)
    · have e : (pSg (K 4) (K 3 1) c (pl, 0)) = (pl + 1, 0) := if_pos (show pHr (K 4) (K 3 1) pl 0 c c from ⟨rfl, by omega, by omega, by omega⟩)
      rw [e]
      refine pr_aload_n dX3_readSign_26 rfl ?_
      refine pr_dup dX3_readSign_27 rfl ?_
      refine pr_getf dX3_readSign_28 pzf_3_19 (tH_3 hj) rfl ?_
      refine zr_iconst dX3_readSign_31 ?_
      refine zr_iadd dX3_readSign_32 ?_
      refine pr_putf dX3_readSign_33 pzf_3_19 (Or.inl rfl) (tH_3 hj) (Nat.le_of_ble_eq_true rfl) rfl rfl ((tH_p3_2 hj).trans (tH_eq kS_p)) ?_
      refine zr_iconst dX3_readSign_36 ?_
      exact pr_iret dX3_readSign_37 rfl rfl (zret (by exact (bI_t rfl).symm))
    · have e : (pSg (K 4) (K 3 1) c (pl, 0)) = (pl, 1) := if_neg (show ¬ pHr (K 4) (K 3 1) pl 0 c c from fun z => c21 (by have := z.2.2; omega))
      rw [e]
      refine zr_iconst dX3_readSign_24 ?_
      exact pr_iret dX3_readSign_25 rfl rfl (zret (bI_f (show ¬ (1 : Int) = 0 by decide)).symm)
set_option maxRecDepth 100000 in
set_option maxHeartbeats 4000000 in
theorem kX3_readNumber (hj : tj t) (hA : ∀ i, 0 ≤ K 4 i ∧ K 4 i < 65536) (l1 : 0 ≤ pl) (l2 : pl ≤ K 3 1) (l3 : K 3 1 ≤ 60) {q : Int} (q1 : 0 ≤ q) (q2 : q < 3) (k1 : zR kd) : pz_Cd en 2 54 [.ref (t 3), .int (zI q)] (tH h t u (kS K pl kd M)) 0 0 (pz_ret (some (.int (zI (bI ((pNo (K 4) (K 3 1) (pDg kd q) (pl, 0)).2.2 = 0))))) (tH h t u (kS K (pNo (K 4) (K 3 1) (pDg kd q) (pl, 0)).2.1 kd (zu M q (pNo (K 4) (K 3 1) (pDg kd q) (pl, 0)).1)))) := by
  refine pz_in pzt_X3_readNumber ?_
  have hD : pDg kd q = 2 ∨ pDg kd q = 3 ∨ pDg kd q = 4 := by
    unfold pDg
    repeat' split
    all_goals omega
  have out : ∀ k : Int, 0 ≤ k → ∀ n pl : Int, ¬ pHr (K 4) (K 3 1) pl 0 48 57 → k < pDg kd q → pz_WP 2 en (pz_Cd en (2 - 1)) 3 cX3_readNumber 4 (some .boolean) [] false (pz_ret (some (.int (zI (bI (0 < k ∨ pHr (K 4) (K 3 1) pl 0 48 57))))) (tH h t u (kS K (pNm (K 4) (K 3 1) (pDg kd q - k).toNat n pl).2 kd (zu M q (pNm (K 4) (K 3 1) (pDg kd q - k).toNat n pl).1)))) 73 [some (.ref (t 3)), some (.int (zI q)), some (.int (zI k)), some (.int (zI n))] [] (tH h t u (kS K pl kd M)) 0 0 := by
    intro k hk1 n pl hn hk2
    rw [pNm_s hk2, if_neg hn]
    refine pr_aload_n dX3_readNumber_73 rfl ?_
    refine pr_getf dX3_readNumber_74 pzf_3_15 (tH_3 hj) rfl ?_
    refine pr_iload_n dX3_readNumber_77 rfl ?_
    refine pr_iload_n dX3_readNumber_78 rfl ?_
    refine zr_iast dX3_readNumber_79 (tH_5 hj) (by omega) (by decide) ((tH_u5 hj).trans (tH_eq kS_n)) ?_
    refine pr_iload_n dX3_readNumber_80 rfl ?_
    refine zr_if_le (tgt := 88) dX3_readNumber_81 (by decide) (by omega) (fun c81 => ?_) (fun c81 => ?_)
    · refine zr_iconst dX3_readNumber_88 ?_
      exact pr_iret dX3_readNumber_89 rfl rfl (zret (by first | exact (bI_t (Or.inl (by omega))).symm | exact (bI_f (fun z => by rcases z with z | z; omega; exact hn z)).symm))
    · refine zr_iconst dX3_readNumber_84 ?_
      refine pr_goto (tgt := 89) dX3_readNumber_85 (by decide) ?_
      exact pr_iret dX3_readNumber_89 rfl rfl (zret (by first | exact (bI_t (Or.inl (by omega))).symm | exact (bI_f (fun z => by rcases z with z | z; omega; exact hn z)).symm))
  have loop : ∀ n pl : Int, 0 ≤ pl → pl ≤ K 3 1 → pz_WP 2 en (pz_Cd en (2 - 1)) 3 cX3_readNumber 4 (some .boolean) [] false (pz_ret (some (.int (zI (bI ((0 : Int) < 0 ∨ pHr (K 4) (K 3 1) pl 0 48 57))))) (tH h t u (kS K (pNm (K 4) (K 3 1) (pDg kd q - 0).toNat n pl).2 kd (zu M q (pNm (K 4) (K 3 1) (pDg kd q - 0).toNat n pl).1)))) 4 [some (.ref (t 3)), some (.int (zI q)), some (.int (zI 0)), some (.int (zI n))] [] (tH h t u (kS K pl kd M)) 0 0 := by
    refine zup (P := fun k => ∀ n pl : Int, 0 ≤ pl → pl ≤ K 3 1 → pz_WP 2 en (pz_Cd en (2 - 1)) 3 cX3_readNumber 4 (some .boolean) [] false (pz_ret (some (.int (zI (bI ((0 : Int) < k ∨ pHr (K 4) (K 3 1) pl 0 48 57))))) (tH h t u (kS K (pNm (K 4) (K 3 1) (pDg kd q - k).toNat n pl).2 kd (zu M q (pNm (K 4) (K 3 1) (pDg kd q - k).toNat n pl).1)))) 4 [some (.ref (t 3)), some (.int (zI q)), some (.int (zI k)), some (.int (zI n))] [] (tH h t u (kS K pl kd M)) 0 0) (lo := 0) (hi := pDg kd q) (by omega) ?_ ?_
    · intro n pl l1 l2
      rw [show pDg kd q - pDg kd q = 0 by omega]
      refine pr_iload_n dX3_readNumber_4 rfl ?_
      refine pr_aload_n dX3_readNumber_5 rfl ?_
      refine pr_iload_n dX3_readNumber_6 rfl ?_
      refine zcv1i dX3_readNumber_7 pzm_3_46 pzt_X3_mostDigits (tH_3 hj) (kX3_mostDigits hj ⟨q1, by omega⟩ k1) (by decide) (Nat.le_of_ble_eq_true rfl) (by decide) ?_
      refine zr_icmp_ge (tgt := 73) dX3_readNumber_10 (by decide) (by omega) (by omega) (fun c10 => ?_) (fun c10 => by exfalso; omega)
      refine pr_aload_n dX3_readNumber_73 rfl ?_
      refine pr_getf dX3_readNumber_74 pzf_3_15 (tH_3 hj) rfl ?_
      refine pr_iload_n dX3_readNumber_77 rfl ?_
      refine pr_iload_n dX3_readNumber_78 rfl ?_
      refine zr_iast dX3_readNumber_79 (tH_5 hj) (by omega) (by decide) ((tH_u5 hj).trans (tH_eq kS_n)) ?_
      refine pr_iload_n dX3_readNumber_80 rfl ?_
      refine zr_if_le (tgt := 88) dX3_readNumber_81 (by decide) (by omega) (fun c81 => by exfalso; omega) (fun c81 => ?_)
      refine zr_iconst dX3_readNumber_84 ?_
      refine pr_goto (tgt := 89) dX3_readNumber_85 (by decide) ?_
      exact pr_iret dX3_readNumber_89 rfl rfl (zret (by exact (bI_t (Or.inl (by omega))).symm))
    · intro k hk1 hk2 ih n pl l1 l2
      have hc := hA pl
      refine pr_iload_n dX3_readNumber_4 rfl ?_
      refine pr_aload_n dX3_readNumber_5 rfl ?_
      refine pr_iload_n dX3_readNumber_6 rfl ?_
      refine zcv1i dX3_readNumber_7 pzm_3_46 pzt_X3_mostDigits (tH_3 hj) (kX3_mostDigits hj ⟨q1, by omega⟩ k1) (by decide) (Nat.le_of_ble_eq_true rfl) (by decide) ?_
      refine zr_icmp_ge (tgt := 73) dX3_readNumber_10 (by decide) (by omega) (by omega) (fun c10 => by exfalso; omega) (fun c10 => ?_)
      refine pr_aload_n dX3_readNumber_13 rfl ?_
      refine pr_getf dX3_readNumber_14 pzf_3_19 (tH_3 hj) rfl ?_
      refine pr_aload_n dX3_readNumber_17 rfl ?_
      refine pr_getf dX3_readNumber_18 pzf_3_27 (tH_3 hj) rfl ?_
      simp only [kS_1, kS_2, kS_3, kS_4, kS_5]
      refine zr_icmp_ge (tgt := 73) dX3_readNumber_21 (by decide) (by omega) (by omega) (fun c21 => ?_) (fun c21 => ?_)
      · exact out k hk1 n pl (fun z => by have := z.2.1; omega) hk2
      · refine pr_aload_n dX3_readNumber_24 rfl ?_
        refine pr_getf dX3_readNumber_25 pzf_3_9 (tH_3 hj) rfl ?_
        refine pr_aload_n dX3_readNumber_28 rfl ?_
        refine pr_getf dX3_readNumber_29 pzf_3_19 (tH_3 hj) rfl ?_
        simp only [kS_1, kS_2, kS_3, kS_4, kS_5]
        refine zr_cald dX3_readNumber_32 (tH_4 hj) (by omega) (by decide) ?_
        simp only [kS_1, kS_2, kS_3, kS_4, kS_5]
        refine zcs1i dX3_readNumber_33 pzm_3_50 pzt_X3_isDigit (kX3_isDigit (by omega)) (by decide) (Nat.le_of_ble_eq_true rfl) ?_
        refine zr_if_eq (tgt := 73) dX3_readNumber_36 (by decide) (bI_R _) (fun c36 => ?_) (fun c36 => ?_)
        · have b36 := bI_0 c36
          exact out k hk1 n pl (fun z => b36 ⟨by have := z.2.2; omega, by have := z.2.2; omega⟩) hk2
        · have b36 := bI_ne c36
          have hy : pHr (K 4) (K 3 1) pl 0 48 57 := ⟨rfl, by omega, b36.1, b36.2⟩
          rw [pNm_s hk2, if_pos hy]
          have ih := ih (10 * n + K 4 pl - 48) (pl + 1) (by omega) (by omega)
          rw [show bI (0 < k + 1 ∨ pHr (K 4) (K 3 1) (pl + 1) 0 48 57) = bI (0 < k ∨ pHr (K 4) (K 3 1) pl 0 48 57) by rw [bI_t (Or.inr hy), bI_t (Or.inl (by omega))]] at ih
          refine pr_iload_n dX3_readNumber_39 rfl ?_
          refine zr_bipush dX3_readNumber_40 (by decide) ?_
          refine zr_imul dX3_readNumber_42 ?_
          refine pr_aload_n dX3_readNumber_43 rfl ?_
          refine pr_getf dX3_readNumber_44 pzf_3_9 (tH_3 hj) rfl ?_
          refine pr_aload_n dX3_readNumber_47 rfl ?_
          refine pr_getf dX3_readNumber_48 pzf_3_19 (tH_3 hj) rfl ?_
          simp only [kS_1, kS_2, kS_3, kS_4, kS_5]
          refine zr_cald dX3_readNumber_51 (tH_4 hj) (by omega) (by decide) ?_
          refine zr_bipush dX3_readNumber_52 (by decide) ?_
          simp only [kS_1, kS_2, kS_3, kS_4, kS_5]
          refine zr_isub dX3_readNumber_54 ?_
          refine zr_iadd dX3_readNumber_55 ?_
          rw [show n * 10 + (K 4 pl - 48) = 10 * n + K 4 pl - 48 by omega]
          refine pr_istore_n dX3_readNumber_56 (by decide) rfl ?_
          refine zr_iinc dX3_readNumber_57 rfl (by decide) rfl ?_
          refine pr_aload_n dX3_readNumber_60 rfl ?_
          refine pr_dup dX3_readNumber_61 rfl ?_
          refine pr_getf dX3_readNumber_62 pzf_3_19 (tH_3 hj) rfl ?_
          refine zr_iconst dX3_readNumber_65 ?_
          refine zr_iadd dX3_readNumber_66 ?_
          refine pr_putf dX3_readNumber_67 pzf_3_19 (Or.inl rfl) (tH_3 hj) (Nat.le_of_ble_eq_true rfl) rfl rfl ((tH_p3_2 hj).trans (tH_eq kS_p)) ?_
          refine pr_goto (tgt := 4) dX3_readNumber_70 (by decide) ?_
          exact ih
  refine zr_iconst dX3_readNumber_0 ?_
  refine pr_istore_n dX3_readNumber_1 (by decide) rfl ?_
  refine zr_iconst dX3_readNumber_2 ?_
  refine pr_istore_n dX3_readNumber_3 (by decide) rfl ?_
  have z := loop 0 pl l1 l2
  rw [Int.sub_zero] at z
  by_cases e : pHr (K 4) (K 3 1) pl 0 48 57
  · have e2 : (pNo (K 4) (K 3 1) (pDg kd q) (pl, 0)) = ((pNm (K 4) (K 3 1) (pDg kd q).toNat 0 pl).1, (pNm (K 4) (K 3 1) (pDg kd q).toNat 0 pl).2, 0) := if_pos e
    rw [e2]
    rw [bI_t (Or.inr e)] at z
    rw [bI_t rfl]
    exact z
  · have e2 : (pNo (K 4) (K 3 1) (pDg kd q) (pl, 0)) = (0, pl, 1) := if_neg e
    rw [e2]
    rw [bI_f (fun y => by rcases y with y | y; exact absurd y (by decide); exact e y)] at z
    rw [bI_f (show ¬ (1 : Int) = 0 by decide)]
    have e3 : pNm (K 4) (K 3 1) (pDg kd q).toNat 0 pl = (0, pl) := by
      have := pNm_s (inp := K 4) (ln := K 3 1) (d := pDg kd q) (k := 0) (n := 0) (pl := pl) (by omega)
      rw [Int.sub_zero, if_neg e] at this
      exact this
    rw [e3] at z
    exact z
end cls
