/-! the class: what the cues and their list answer -/
theorem zr_crow {d : Nat} {en : pz_Env} {C : pz_C} {own : Nat} {cc : ByteArray} {nL : Nat} {rt : Option FieldType} {hh : List (Nat × Nat × Nat × Nat)} {ini : Bool} {Q : pz_Q} {pc : Nat} {ls : List (Option Value)} {st : List Value} {h : pz_H} {nc ns : Nat} {a : Int → Nat} {X : Int → Int → Int} {i : Int} (hj : sj a) (hd : decode cc pc = .ok (.aaload, 1)) (h1 : 0 ≤ i) (h2 : i < 12) (kk : pz_WP d en C own cc nL rt hh ini Q (pc + 1) ls (.ref (a (7 + 5 * i)) :: st) (sH h a (sq a) X) nc ns) : pz_WP d en C own cc nL rt hh ini Q pc ls (.int (zI i) :: .ref (a 2) :: st) (sH h a (sq a) X) nc ns :=
  pr_aald hd (sH_2 hj) (Or.inl rfl) (zk ⟨h1, (show i < ((12 : Nat) : Int) by omega)⟩ (by decide)).1 (zk ⟨h1, (show i < ((12 : Nat) : Int) by omega)⟩ (by decide)).2 (sq_at h1 h2) kk
def xpf (X : Int → Int → Int) (k c : Int) : Int := if X (7 + 5 * k + 3) c = -2 then 0 else X (7 + 5 * k + 4) c
def xic (X : Int → Int → Int) (k : Int) : Int := zsum (fun c => bI (¬ X (7 + 5 * k + 3) c = -2)) 12
def xsr (X : Int → Int → Int) (c : Int) : Nat → Int
  | 0 => 0
  | n + 1 => if xtk X (n + 1) c then xsr X c n else (n : Int) + 1
theorem xsr_s {X : Int → Int → Int} {c k : Int} (h : 0 < k) : xsr X c k.toNat = if xtk X k c then xsr X c (k - 1).toNat else k := by
  rw [show k.toNat = (k - 1).toNat + 1 by omega]
  show (if xtk X (((k - 1).toNat : Nat) + 1 : Int) c then xsr X c (k - 1).toNat else (((k - 1).toNat : Nat) : Int) + 1) = _
  rw [show (((k - 1).toNat : Nat) : Int) = k - 1 by omega, show k - 1 + 1 = k by omega]
def xlgF (X : Int → Int → Int) (k : Int) : Nat → Int
  | 0 => 0
  | n + 1 => if ¬ xlv X k n = xlv X (k - 1) n then (if xlgF X k n < X (7 + 5 * k + 1) (xpf X k n) + X (7 + 5 * k + 2) (xpf X k n) then X (7 + 5 * k + 1) (xpf X k n) + X (7 + 5 * k + 2) (xpf X k n) else xlgF X k n) else xlgF X k n
theorem xlgF_s {X : Int → Int → Int} {k m : Int} (h : 0 ≤ m) : xlgF X k (m + 1).toNat = if ¬ xlv X k m = xlv X (k - 1) m then (if xlgF X k m.toNat < X (7 + 5 * k + 1) (xpf X k m) + X (7 + 5 * k + 2) (xpf X k m) then X (7 + 5 * k + 1) (xpf X k m) + X (7 + 5 * k + 2) (xpf X k m) else xlgF X k m.toNat) else xlgF X k m.toNat := by
  rw [show (m + 1).toNat = m.toNat + 1 by omega]
  show (if ¬ xlv X k ((m.toNat : Nat) : Int) = xlv X (k - 1) ((m.toNat : Nat) : Int) then (if xlgF X k m.toNat < X (7 + 5 * k + 1) (xpf X k ((m.toNat : Nat) : Int)) + X (7 + 5 * k + 2) (xpf X k ((m.toNat : Nat) : Int)) then X (7 + 5 * k + 1) (xpf X k ((m.toNat : Nat) : Int)) + X (7 + 5 * k + 2) (xpf X k ((m.toNat : Nat) : Int)) else xlgF X k m.toNat) else xlgF X k m.toNat) = _
  rw [show ((m.toNat : Nat) : Int) = m by omega]
def xchF (X : Int → Int → Int) : Nat → Int → Int
  | 0, _ => 0
  | n + 1, k => if X (7 + 5 * k) 1 = -1 then 0 else X (7 + 5 * k) 1 + xchF X n (k + 1)
theorem xchF_s {X : Int → Int → Int} {m k : Int} (h : 0 < m) : xchF X m.toNat k = if X (7 + 5 * k) 1 = -1 then 0 else X (7 + 5 * k) 1 + xchF X (m - 1).toNat (k + 1) := by
  rw [show m.toNat = (m - 1).toNat + 1 by omega]
  rfl
def xmv (X : Int → Int → Int) (k : Int) : Int32 := rmk (fun c => decide (¬ xlv X k c = xlv X (k - 1) c)) 12
def xll (X : Int → Int → Int) (p : Int) : Int := if xix X (X 4 p) < 0 then -2 else X (7 + 5 * xix X (X 4 p) + 3) (X 5 p)
def xlp (X : Int → Int → Int) (p : Int) : Int := if xix X (X 4 p) < 0 then 0 else X (7 + 5 * xix X (X 4 p) + 4) (X 5 p)
abbrev xnh (X : Int → Int → Int) (i c t : Int) : Prop := i < X 1 1 ∧ xtk X i c ∧ ¬ xlv X i c = t
def xlw (X : Int → Int → Int) (i c : Int) : Int := if X (7 + 5 * i) 2 = 0 then xlv X (i - 1) c else X 3 c
def xrf (X : Int → Int → Int) (i holds cg : Int) : Int := if ¬ X (7 + 5 * i) 3 = 0 then 1 else if 0 < holds ∧ i + 1 < X 1 1 ∧ ¬ X (7 + 5 * (i + 1)) 3 = 0 then 1 else if 60 < X 1 5 + cg + holds then 2 else 0
section cls
variable {en : pz_Env} {h : pz_H} {a : Int → Nat} {X : Int → Int → Int}
set_option maxRecDepth 100000 in
set_option maxHeartbeats 4000000 in
theorem kX0_isTracking (hj : sj a) (hX : xB X) {k : Int} (k1 : 0 ≤ k) (k2 : k < 12)  {c : Int} (c1 : 0 ≤ c) (c2 : c ≤ 11) : pz_Cd en 1 4 [.ref (a (7 + 5 * k)), .int (zI c)] (sH h a (sq a) X) 0 0 (pz_ret (some (.int (zI (bI (xtk X k c))))) (sH h a (sq a) X)) := by
  refine pz_in pzt_X0_isTracking ?_
  obtain ⟨hR, hn0, hn1, hm0, hm1⟩ := id hX
  refine pr_aload_n dX0_isTracking_0 rfl ?_
  refine pr_getf dX0_isTracking_1 pzf_0_31 (sH_C hj (by omega) (by omega)) rfl ?_
  refine zr_if_ne (tgt := 22) dX0_isTracking_4 (by decide) (hR _ _) (fun c4 => ?_) (fun c4 => ?_)
  · refine zr_iconst dX0_isTracking_22 ?_
    exact pr_iret dX0_isTracking_23 rfl rfl (zret (by first | exact (bI_t (by omega)).symm | exact (bI_f (by omega)).symm))
  · refine pr_aload_n dX0_isTracking_7 rfl ?_
    refine pr_getf dX0_isTracking_8 pzf_0_18 (sH_C hj (by omega) (by omega)) rfl ?_
    refine pr_iload_n dX0_isTracking_11 rfl ?_
    refine zr_iald dX0_isTracking_12 (sH_C3 hj (by omega) (by omega)) (by omega) (by decide) ?_
    refine zr_bipush dX0_isTracking_13 (by decide) ?_
    refine zr_icmp_ne (tgt := 22) dX0_isTracking_15 (by decide) (by first | exact hR _ _ | omega) (by first | exact hR _ _ | omega) (fun c15 => ?_) (fun c15 => ?_)
    · refine zr_iconst dX0_isTracking_22 ?_
      exact pr_iret dX0_isTracking_23 rfl rfl (zret (by first | exact (bI_t (by omega)).symm | exact (bI_f (by omega)).symm))
    · refine zr_iconst dX0_isTracking_18 ?_
      refine pr_goto (tgt := 23) dX0_isTracking_19 (by decide) ?_
      exact pr_iret dX0_isTracking_23 rfl rfl (zret (by first | exact (bI_t (by omega)).symm | exact (bI_f (by omega)).symm))
set_option maxRecDepth 100000 in
set_option maxHeartbeats 4000000 in
theorem kX0_partFor (hj : sj a) (hX : xB X) {k : Int} (k1 : 0 ≤ k) (k2 : k < 12)  {c : Int} (c1 : 0 ≤ c) (c2 : c ≤ 11) : pz_Cd en 1 6 [.ref (a (7 + 5 * k)), .int (zI c)] (sH h a (sq a) X) 0 0 (pz_ret (some (.int (zI (xpf X k c)))) (sH h a (sq a) X)) := by
  refine pz_in pzt_X0_partFor ?_
  obtain ⟨hR, hn0, hn1, hm0, hm1⟩ := id hX
  refine pr_aload_n dX0_partFor_0 rfl ?_
  refine pr_getf dX0_partFor_1 pzf_0_18 (sH_C hj (by omega) (by omega)) rfl ?_
  refine pr_iload_n dX0_partFor_4 rfl ?_
  refine zr_iald dX0_partFor_5 (sH_C3 hj (by omega) (by omega)) (by omega) (by decide) ?_
  refine zr_bipush dX0_partFor_6 (by decide) ?_
  refine zr_icmp_ne (tgt := 15) dX0_partFor_8 (by decide) (by first | exact hR _ _ | omega) (by first | exact hR _ _ | omega) (fun c8 => ?_) (fun c8 => ?_)
  · refine pr_aload_n dX0_partFor_15 rfl ?_
    refine pr_getf dX0_partFor_16 pzf_0_21 (sH_C hj (by omega) (by omega)) rfl ?_
    refine pr_iload_n dX0_partFor_19 rfl ?_
    refine zr_iald dX0_partFor_20 (sH_C4 hj (by omega) (by omega)) (by omega) (by decide) ?_
    exact pr_iret dX0_partFor_21 rfl rfl (zret (by unfold xpf; first | rw [if_pos (by omega)] | rw [if_neg (by omega)]))
  · refine zr_iconst dX0_partFor_11 ?_
    refine pr_goto (tgt := 21) dX0_partFor_12 (by decide) ?_
    exact pr_iret dX0_partFor_21 rfl rfl (zret (by unfold xpf; first | rw [if_pos (by omega)] | rw [if_neg (by omega)]))
set_option maxRecDepth 100000 in
set_option maxHeartbeats 4000000 in
theorem kX0_instructionCount (hj : sj a) (hX : xB X) {k : Int} (k1 : 0 ≤ k) (k2 : k < 12)  : pz_Cd en 1 5 [.ref (a (7 + 5 * k))] (sH h a (sq a) X) 0 0 (pz_ret (some (.int (zI (xic X k)))) (sH h a (sq a) X)) := by
  refine pz_in pzt_X0_instructionCount ?_
  obtain ⟨hR, hn0, hn1, hm0, hm1⟩ := id hX
  have loop : pz_WP 1 en (pz_Cd en (1 - 1)) 0 cX0_instructionCount 3 (some .int) [] false (pz_ret (some (.int (zI (xic X k)))) (sH h a (sq a) X)) 4 [some (.ref (a (7 + 5 * k))), some (.int (zI (zsum (fun c => bI (¬ X (7 + 5 * k + 3) c = -2)) (0 : Int).toNat))), some (.int (zI 0))] [] (sH h a (sq a) X) 0 0 := by
    refine zup (P := fun m => pz_WP 1 en (pz_Cd en (1 - 1)) 0 cX0_instructionCount 3 (some .int) [] false (pz_ret (some (.int (zI (xic X k)))) (sH h a (sq a) X)) 4 [some (.ref (a (7 + 5 * k))), some (.int (zI (zsum (fun c => bI (¬ X (7 + 5 * k + 3) c = -2)) (m : Int).toNat))), some (.int (zI m))] [] (sH h a (sq a) X) 0 0) (lo := 0) (hi := 12) (by decide) ?_ ?_
    · skip
      refine pr_iload_n dX0_instructionCount_4 rfl ?_
      refine zr_bipush dX0_instructionCount_5 (by decide) ?_
      refine zr_icmp_ge (tgt := 30) dX0_instructionCount_7 (by decide) (by first | exact hR _ _ | omega) (by first | exact hR _ _ | omega) (fun c7 => ?_) (fun c7 => by exfalso; omega)
      refine pr_iload_n dX0_instructionCount_30 rfl ?_
      exact pr_iret dX0_instructionCount_31 rfl rfl (zret (by rfl))
    · intro m hk1 hk2 ih
      rw [zsum_s hk1] at ih
      refine pr_iload_n dX0_instructionCount_4 rfl ?_
      refine zr_bipush dX0_instructionCount_5 (by decide) ?_
      refine zr_icmp_ge (tgt := 30) dX0_instructionCount_7 (by decide) (by first | exact hR _ _ | omega) (by first | exact hR _ _ | omega) (fun c7 => by exfalso; omega) (fun c7 => ?_)
      refine pr_aload_n dX0_instructionCount_10 rfl ?_
      refine pr_getf dX0_instructionCount_11 pzf_0_18 (sH_C hj (by omega) (by omega)) rfl ?_
      refine pr_iload_n dX0_instructionCount_14 rfl ?_
      refine zr_iald dX0_instructionCount_15 (sH_C3 hj (by omega) (by omega)) (by omega) (by decide) ?_
      refine zr_bipush dX0_instructionCount_16 (by decide) ?_
      refine zr_icmp_eq (tgt := 24) dX0_instructionCount_18 (by decide) (by first | exact hR _ _ | omega) (by first | exact hR _ _ | omega) (fun c18 => ?_) (fun c18 => ?_)
      · rw [show bI (¬ X (7 + 5 * k + 3) m = -2) = 0 from bI_f (fun z => z c18), Int.add_zero] at ih
        refine zr_iinc dX0_instructionCount_24 rfl (by decide) rfl ?_
        refine pr_goto (tgt := 4) dX0_instructionCount_27 (by decide) ?_
        exact ih
      · rw [show bI (¬ X (7 + 5 * k + 3) m = -2) = 1 from bI_t c18] at ih
        refine zr_iinc dX0_instructionCount_21 rfl (by decide) rfl ?_
        refine zr_iinc dX0_instructionCount_24 rfl (by decide) rfl ?_
        refine pr_goto (tgt := 4) dX0_instructionCount_27 (by decide) ?_
        exact ih
  refine zr_iconst dX0_instructionCount_0 ?_
  refine pr_istore_n dX0_instructionCount_1 (by decide) rfl ?_
  refine zr_iconst dX0_instructionCount_2 ?_
  refine pr_istore_n dX0_instructionCount_3 (by decide) rfl ?_
  exact loop
set_option maxRecDepth 100000 in
set_option maxHeartbeats 4000000 in
theorem kX0_partRow (hj : sj a) (hX : xB X) {k : Int} (k1 : 0 ≤ k) (k2 : k < 12) {dl : Prop} [dd : Decidable dl] : pz_Cd en 1 3 [.ref (a (7 + 5 * k)), .int (zI (bI dl))] (sH h a (sq a) X) 0 0 (pz_ret (some (.ref (a (7 + 5 * k + (if dl then 1 else 2))))) (sH h a (sq a) X)) := by
  refine pz_in pzt_X0_partRow ?_
  obtain ⟨hR, hn0, hn1, hm0, hm1⟩ := id hX
  refine pr_iload_n dX0_partRow_0 rfl ?_
  refine zr_if_eq (tgt := 11) dX0_partRow_1 (by decide) (bI_R _) (fun c1 => ?_) (fun c1 => ?_)
  · have b1 := bI_0 c1
    rw [if_neg b1]
    refine pr_aload_n dX0_partRow_11 rfl ?_
    refine pr_getf dX0_partRow_12 pzf_0_15 (sH_C hj (by omega) (by omega)) rfl ?_
    exact pr_aret dX0_partRow_15 rfl ⟨rfl, rfl⟩
  · have b1 := bI_ne c1
    rw [if_pos b1]
    refine pr_aload_n dX0_partRow_4 rfl ?_
    refine pr_getf dX0_partRow_5 pzf_0_9 (sH_C hj (by omega) (by omega)) rfl ?_
    refine pr_goto (tgt := 15) dX0_partRow_8 (by decide) ?_
    exact pr_aret dX0_partRow_15 rfl ⟨rfl, rfl⟩
set_option maxRecDepth 100000 in
set_option maxHeartbeats 4000000 in
theorem kX1_indexOf (hj : sj a) (hX : xB X) {n : Int} (h1 : zR n) : pz_Cd en 1 35 [.ref (a 1), .int (zI n)] (sH h a (sq a) X) 0 0 (pz_ret (some (.int (zI (xix X n)))) (sH h a (sq a) X)) := by
  refine pz_in pzt_X1_indexOf ?_
  obtain ⟨hR, hn0, hn1, hm0, hm1⟩ := id hX
  have loop : pz_WP 1 en (pz_Cd en (1 - 1)) 1 cX1_indexOf 3 (some .int) [] false (pz_ret (some (.int (zI (xix X n)))) (sH h a (sq a) X)) 2 [some (.ref (a 1)), some (.int (zI n)), some (.int (zI 0))] [] (sH h a (sq a) X) 0 0 := by
    refine zup (P := fun k => (∀ j : Int, 0 ≤ j → j < k → ¬ X (7 + 5 * j) 0 = n) → pz_WP 1 en (pz_Cd en (1 - 1)) 1 cX1_indexOf 3 (some .int) [] false (pz_ret (some (.int (zI (xix X n)))) (sH h a (sq a) X)) 2 [some (.ref (a 1)), some (.int (zI n)), some (.int (zI k))] [] (sH h a (sq a) X) 0 0) (lo := 0) (hi := X 1 1) hn0 ?_ ?_ (fun j g1 g2 => absurd g2 (by omega))
    · intro hno
      refine pr_iload_n dX1_indexOf_2 rfl ?_
      refine pr_aload_n dX1_indexOf_3 rfl ?_
      refine pr_getf dX1_indexOf_4 pzf_1_31 (sH_1 hj) rfl ?_
      refine zr_icmp_ge (tgt := 31) dX1_indexOf_7 (by decide) (by first | exact hR _ _ | omega) (by first | exact hR _ _ | omega) (fun c7 => ?_) (fun c7 => by exfalso; omega)
      refine zr_iconst dX1_indexOf_31 ?_
      exact pr_iret dX1_indexOf_32 rfl rfl (zret (zfst_no (fun k g1 g2 => by simpa using hno k g1 (by omega))).symm)
    · intro k hk1 hk2 ih hno
      refine pr_iload_n dX1_indexOf_2 rfl ?_
      refine pr_aload_n dX1_indexOf_3 rfl ?_
      refine pr_getf dX1_indexOf_4 pzf_1_31 (sH_1 hj) rfl ?_
      refine zr_icmp_ge (tgt := 31) dX1_indexOf_7 (by decide) (by first | exact hR _ _ | omega) (by first | exact hR _ _ | omega) (fun c7 => by exfalso; omega) (fun c7 => ?_)
      refine pr_aload_n dX1_indexOf_10 rfl ?_
      refine pr_getf dX1_indexOf_11 pzf_1_11 (sH_1 hj) rfl ?_
      refine pr_iload_n dX1_indexOf_14 rfl ?_
      refine zr_crow hj dX1_indexOf_15 (by omega) (by omega) ?_
      refine pr_getf dX1_indexOf_16 pzf_1_48 (sH_C hj (by omega) (by omega)) rfl ?_
      refine pr_iload_n dX1_indexOf_19 rfl ?_
      refine zr_icmp_ne (tgt := 25) dX1_indexOf_20 (by decide) (by first | exact hR _ _ | omega) (by first | exact hR _ _ | omega) (fun c20 => ?_) (fun c20 => ?_)
      · refine zr_iinc dX1_indexOf_25 rfl (by decide) rfl ?_
        refine pr_goto (tgt := 2) dX1_indexOf_28 (by decide) ?_
        exact ih (fun j g1 g2 => by
              by_cases e : j = k
              · rw [e]; exact c20
              · exact hno j g1 (by omega))
      · refine pr_iload_n dX1_indexOf_23 rfl ?_
        exact pr_iret dX1_indexOf_24 rfl rfl (zret (zfst_eq hk1 (by omega) (by simpa using c20) (fun j g1 g2 => by simpa using hno j g1 g2)).symm)
  refine zr_iconst dX1_indexOf_0 ?_
  refine pr_istore_n dX1_indexOf_1 (by decide) rfl ?_
  exact loop
set_option maxRecDepth 100000 in
set_option maxHeartbeats 4000000 in
theorem kX1_levelMeant (hj : sj a) (hX : xB X) {t c : Int} (t1 : zR t) (c1 : 0 ≤ c) (c2 : c ≤ 11) : pz_Cd en 1 36 [.ref (a 1), .int (zI t), .int (zI c)] (sH h a (sq a) X) 0 0 (pz_ret (some (.int (zI (xlm X t c)))) (sH h a (sq a) X)) := by
  refine pz_in pzt_X1_levelMeant ?_
  obtain ⟨hR, hn0, hn1, hm0, hm1⟩ := id hX
  refine pr_iload_n dX1_levelMeant_0 rfl ?_
  refine zr_if_lt (tgt := 8) dX1_levelMeant_1 (by decide) (by first | exact hR _ _ | omega) (fun c1 => ?_) (fun c1 => ?_)
  · refine pr_aload_n dX1_levelMeant_8 rfl ?_
    refine pr_getf dX1_levelMeant_9 pzf_1_17 (sH_1 hj) rfl ?_
    refine pr_iload_n dX1_levelMeant_12 rfl ?_
    refine zr_iald dX1_levelMeant_13 (sH_3 hj) (by omega) (by decide) ?_
    exact pr_iret dX1_levelMeant_14 rfl rfl (zret (by unfold xlm; first | rw [if_pos (by omega)] | rw [if_neg (by omega)]))
  · refine pr_iload_n dX1_levelMeant_4 rfl ?_
    refine pr_goto (tgt := 14) dX1_levelMeant_5 (by decide) ?_
    exact pr_iret dX1_levelMeant_14 rfl rfl (zret (by unfold xlm; first | rw [if_pos (by omega)] | rw [if_neg (by omega)]))
set_option maxRecDepth 100000 in
set_option maxHeartbeats 4000000 in
theorem kX1_levelIn (hj : sj a) (hX : xB X) {i c : Int} (i1 : -1 ≤ i) (i2 : i < 12) (c1 : 0 ≤ c) (c2 : c ≤ 11) : pz_Cd en 2 37 [.ref (a 1), .int (zI i), .int (zI c)] (sH h a (sq a) X) 0 0 (pz_ret (some (.int (zI (xlv X i c)))) (sH h a (sq a) X)) := by
  refine pz_in pzt_X1_levelIn ?_
  obtain ⟨hR, hn0, hn1, hm0, hm1⟩ := id hX
  have loop : pz_WP 2 en (pz_Cd en (2 - 1)) 1 cX1_levelIn 4 (some .int) [] false (pz_ret (some (.int (zI (xlv X i c)))) (sH h a (sq a) X)) 2 [some (.ref (a 1)), some (.int (zI i)), some (.int (zI c)), some (.int (zI i))] [] (sH h a (sq a) X) 0 0 := by
    refine zdown (P := fun k => pz_WP 2 en (pz_Cd en (2 - 1)) 1 cX1_levelIn 4 (some .int) [] false (pz_ret (some (.int (zI (xlv X k c)))) (sH h a (sq a) X)) 2 [some (.ref (a 1)), some (.int (zI i)), some (.int (zI c)), some (.int (zI k))] [] (sH h a (sq a) X) 0 0) (lo := -1) (hi := i) i1 ?_ ?_
    · skip
      refine pr_iload_n dX1_levelIn_2 rfl ?_
      refine zr_if_lt (tgt := 42) dX1_levelIn_3 (by decide) (by first | exact hR _ _ | omega) (fun c3 => ?_) (fun c3 => by exfalso; omega)
      refine pr_aload_n dX1_levelIn_42 rfl ?_
      refine pr_getf dX1_levelIn_43 pzf_1_17 (sH_1 hj) rfl ?_
      refine pr_iload_n dX1_levelIn_46 rfl ?_
      refine zr_iald dX1_levelIn_47 (sH_3 hj) (by omega) (by decide) ?_
      exact pr_iret dX1_levelIn_48 rfl rfl (zret (by rfl))
    · intro k hk1 hk2 ih
      refine pr_iload_n dX1_levelIn_2 rfl ?_
      refine zr_if_lt (tgt := 42) dX1_levelIn_3 (by decide) (by first | exact hR _ _ | omega) (fun c3 => by exfalso; omega) (fun c3 => ?_)
      refine pr_aload_n dX1_levelIn_6 rfl ?_
      refine pr_getf dX1_levelIn_7 pzf_1_11 (sH_1 hj) rfl ?_
      refine pr_iload_n dX1_levelIn_10 rfl ?_
      refine zr_crow hj dX1_levelIn_11 (by omega) (by omega) ?_
      refine pr_iload_n dX1_levelIn_12 rfl ?_
      refine zcv1i dX1_levelIn_13 pzm_1_51 pzt_X0_isTracking (sH_C hj (by omega) (by omega)) (kX0_isTracking hj hX (by omega) (by omega) (by omega) (by omega)) (by decide) (Nat.le_of_ble_eq_true rfl) (by decide) ?_
      refine zr_if_ne (tgt := 36) dX1_levelIn_16 (by decide) (bI_R _) (fun c16 => ?_) (fun c16 => ?_)
      · have b16 := bI_ne c16
        rw [show xlv X k c = xlv X (k - 1) c by
          show xlvF X c (k + 1).toNat = xlvF X c (k - 1 + 1).toNat
          rw [xlvF_s (by omega), if_pos b16, show k - 1 + 1 = k by omega]]
        refine zr_iinc dX1_levelIn_36 rfl (by decide) rfl ?_
        refine pr_goto (tgt := 2) dX1_levelIn_39 (by decide) ?_
        exact ih
      · have b16 := bI_0 c16
        refine pr_aload_n dX1_levelIn_19 rfl ?_
        refine pr_aload_n dX1_levelIn_20 rfl ?_
        refine pr_getf dX1_levelIn_21 pzf_1_11 (sH_1 hj) rfl ?_
        refine pr_iload_n dX1_levelIn_24 rfl ?_
        refine zr_crow hj dX1_levelIn_25 (by omega) (by omega) ?_
        refine pr_getf dX1_levelIn_26 pzf_1_55 (sH_C hj (by omega) (by omega)) rfl ?_
        refine pr_iload_n dX1_levelIn_29 rfl ?_
        refine zr_iald dX1_levelIn_30 (sH_C3 hj (by omega) (by omega)) (by omega) (by decide) ?_
        refine pr_iload_n dX1_levelIn_31 rfl ?_
        refine zcv2i dX1_levelIn_32 pzm_1_58 pzt_X1_levelMeant (sH_1 hj) (kX1_levelMeant hj hX (by first | exact hR _ _ | omega) (by omega) (by omega)) (by decide) (Nat.le_of_ble_eq_true rfl) (by decide) ?_
        exact pr_iret dX1_levelIn_35 rfl rfl (zret (by
        show _ = xlvF X c (k + 1).toNat
        rw [xlvF_s (by omega), if_neg b16]))
  refine pr_iload_n dX1_levelIn_0 rfl ?_
  refine pr_istore_n dX1_levelIn_1 (by decide) rfl ?_
  exact loop
set_option maxRecDepth 100000 in
set_option maxHeartbeats 4000000 in
theorem kX1_levelBefore (hj : sj a) (hX : xB X) {i c : Int} (i1 : 0 ≤ i) (i2 : i < 12) (c1 : 0 ≤ c) (c2 : c ≤ 11) : pz_Cd en 3 38 [.ref (a 1), .int (zI i), .int (zI c)] (sH h a (sq a) X) 0 0 (pz_ret (some (.int (zI (xlv X (i - 1) c)))) (sH h a (sq a) X)) := by
  refine pz_in pzt_X1_levelBefore ?_
  obtain ⟨hR, hn0, hn1, hm0, hm1⟩ := id hX
  refine pr_aload_n dX1_levelBefore_0 rfl ?_
  refine pr_iload_n dX1_levelBefore_1 rfl ?_
  refine zr_iconst dX1_levelBefore_2 ?_
  refine zr_isub dX1_levelBefore_3 ?_
  refine pr_iload_n dX1_levelBefore_4 rfl ?_
  refine zcv2i dX1_levelBefore_5 pzm_1_62 pzt_X1_levelIn (sH_1 hj) (kX1_levelIn hj hX (by omega) (by omega) (by omega) (by omega)) (by decide) (Nat.le_of_ble_eq_true rfl) (by decide) ?_
  exact pr_iret dX1_levelBefore_8 rfl rfl (zret (by rfl))
theorem xlvF_up {X : Int → Int → Int} {c k : Int} (h : 0 ≤ k) (hb : X (7 + 5 * k) 2 = 0 ∨ X (7 + 5 * k) 2 = 1) (ht : -2 ≤ X (7 + 5 * k + 3) c) : xlvF X c (k + 1).toNat = if 0 ≤ X (7 + 5 * k + 3) c then X (7 + 5 * k + 3) c else if X (7 + 5 * k + 3) c = -1 ∨ ¬ X (7 + 5 * k) 2 = 0 then X 3 c else xlvF X c k.toNat := by
  rw [xlvF_s h]
  unfold xlm
  by_cases e1 : 0 ≤ X (7 + 5 * k + 3) c
  · rw [if_neg (fun z => by have := z.2; omega), if_pos e1, if_pos e1]
  · rw [if_neg e1, if_neg e1]
    by_cases e2 : X (7 + 5 * k + 3) c = -1 ∨ ¬ X (7 + 5 * k) 2 = 0
    · rw [if_pos e2, if_neg (fun z => by have := z.1; have := z.2; omega)]
    · rw [if_neg e2, if_pos ⟨by omega, by omega⟩]
set_option maxRecDepth 100000 in
set_option maxHeartbeats 4000000 in
theorem kX1_levelFromFirst (hj : sj a) (hX : xB X) {i c : Int} (i1 : 0 ≤ i) (i2 : i < 12) (c1 : 0 ≤ c) (c2 : c ≤ 11) (hb : ∀ k : Int, 0 ≤ k → k ≤ i → X (7 + 5 * k) 2 = 0 ∨ X (7 + 5 * k) 2 = 1) (ht : ∀ k : Int, 0 ≤ k → k ≤ i → -2 ≤ X (7 + 5 * k + 3) c) : pz_Cd en 1 39 [.ref (a 1), .int (zI i), .int (zI c)] (sH h a (sq a) X) 0 0 (pz_ret (some (.int (zI (xlv X i c)))) (sH h a (sq a) X)) := by
  refine pz_in pzt_X1_levelFromFirst ?_
  obtain ⟨hR, hn0, hn1, hm0, hm1⟩ := id hX
  have loop : ∀ q : Option Int, pz_WP 1 en (pz_Cd en (1 - 1)) 1 cX1_levelFromFirst 6 (some .int) [] false (pz_ret (some (.int (zI (xlv X i c)))) (sH h a (sq a) X)) 10 [some (.ref (a 1)), some (.int (zI i)), some (.int (zI c)), some (.int (zI (xlvF X c (0 : Int).toNat))), some (.int (zI 0)), (q.map (fun z => Value.int (zI z)))] [] (sH h a (sq a) X) 0 0 := by
    refine zup (P := fun k => ∀ q : Option Int, pz_WP 1 en (pz_Cd en (1 - 1)) 1 cX1_levelFromFirst 6 (some .int) [] false (pz_ret (some (.int (zI (xlv X i c)))) (sH h a (sq a) X)) 10 [some (.ref (a 1)), some (.int (zI i)), some (.int (zI c)), some (.int (zI (xlvF X c (k : Int).toNat))), some (.int (zI k)), (q.map (fun z => Value.int (zI z)))] [] (sH h a (sq a) X) 0 0) (lo := 0) (hi := i + 1) (by omega) ?_ ?_
    · intro q
      refine pr_iload dX1_levelFromFirst_10 rfl ?_
      refine pr_iload_n dX1_levelFromFirst_12 rfl ?_
      refine zr_icmp_gt (tgt := 73) dX1_levelFromFirst_13 (by decide) (by first | exact hR _ _ | omega) (by first | exact hR _ _ | omega) (fun c13 => ?_) (fun c13 => by exfalso; omega)
      refine pr_iload_n dX1_levelFromFirst_73 rfl ?_
      exact pr_iret dX1_levelFromFirst_74 rfl rfl (zret (by rfl))
    · intro k hk1 hk2 ih q
      rw [xlvF_up hk1 (hb k hk1 (by omega)) (ht k hk1 (by omega))] at ih
      refine pr_iload dX1_levelFromFirst_10 rfl ?_
      refine pr_iload_n dX1_levelFromFirst_12 rfl ?_
      refine zr_icmp_gt (tgt := 73) dX1_levelFromFirst_13 (by decide) (by first | exact hR _ _ | omega) (by first | exact hR _ _ | omega) (fun c13 => by exfalso; omega) (fun c13 => ?_)
      refine pr_aload_n dX1_levelFromFirst_16 rfl ?_
      refine pr_getf dX1_levelFromFirst_17 pzf_1_11 (sH_1 hj) rfl ?_
      refine pr_iload dX1_levelFromFirst_20 rfl ?_
      refine zr_crow hj dX1_levelFromFirst_22 (by omega) (by omega) ?_
      refine pr_getf dX1_levelFromFirst_23 pzf_1_55 (sH_C hj (by omega) (by omega)) rfl ?_
      refine pr_iload_n dX1_levelFromFirst_26 rfl ?_
      refine zr_iald dX1_levelFromFirst_27 (sH_C3 hj (by omega) (by omega)) (by omega) (by decide) ?_
      refine pr_istore dX1_levelFromFirst_28 (by decide) (by cases q <;> rfl) ?_
      refine pr_iload dX1_levelFromFirst_30 rfl ?_
      refine zr_if_lt (tgt := 41) dX1_levelFromFirst_32 (by decide) (by first | exact hR _ _ | omega) (fun c32 => ?_) (fun c32 => ?_)
      · rw [if_neg (by omega)] at ih
        refine pr_iload dX1_levelFromFirst_41 rfl ?_
        refine zr_iconst dX1_levelFromFirst_43 ?_
        refine zr_icmp_eq (tgt := 60) dX1_levelFromFirst_44 (by decide) (by first | exact hR _ _ | omega) (by first | exact hR _ _ | omega) (fun c44 => ?_) (fun c44 => ?_)
        · rw [if_pos (Or.inl c44)] at ih
          refine pr_aload_n dX1_levelFromFirst_60 rfl ?_
          refine pr_getf dX1_levelFromFirst_61 pzf_1_17 (sH_1 hj) rfl ?_
          refine pr_iload_n dX1_levelFromFirst_64 rfl ?_
          refine zr_iald dX1_levelFromFirst_65 (sH_3 hj) (by omega) (by decide) ?_
          refine pr_istore_n dX1_levelFromFirst_66 (by decide) rfl ?_
          refine zr_iinc dX1_levelFromFirst_67 rfl (by decide) rfl ?_
          refine pr_goto (tgt := 10) dX1_levelFromFirst_70 (by decide) ?_
          exact ih (some _)
        · refine pr_aload_n dX1_levelFromFirst_47 rfl ?_
          refine pr_getf dX1_levelFromFirst_48 pzf_1_11 (sH_1 hj) rfl ?_
          refine pr_iload dX1_levelFromFirst_51 rfl ?_
          refine zr_crow hj dX1_levelFromFirst_53 (by omega) (by omega) ?_
          refine pr_getf dX1_levelFromFirst_54 pzf_1_65 (sH_C hj (by omega) (by omega)) rfl ?_
          refine zr_if_eq (tgt := 67) dX1_levelFromFirst_57 (by decide) (by first | exact hR _ _ | omega) (fun c57 => ?_) (fun c57 => ?_)
          · rw [if_neg (by omega)] at ih
            refine zr_iinc dX1_levelFromFirst_67 rfl (by decide) rfl ?_
            refine pr_goto (tgt := 10) dX1_levelFromFirst_70 (by decide) ?_
            exact ih (some _)
          · rw [if_pos (Or.inr c57)] at ih
            refine pr_aload_n dX1_levelFromFirst_60 rfl ?_
            refine pr_getf dX1_levelFromFirst_61 pzf_1_17 (sH_1 hj) rfl ?_
            refine pr_iload_n dX1_levelFromFirst_64 rfl ?_
            refine zr_iald dX1_levelFromFirst_65 (sH_3 hj) (by omega) (by decide) ?_
            refine pr_istore_n dX1_levelFromFirst_66 (by decide) rfl ?_
            refine zr_iinc dX1_levelFromFirst_67 rfl (by decide) rfl ?_
            refine pr_goto (tgt := 10) dX1_levelFromFirst_70 (by decide) ?_
            exact ih (some _)
      · rw [if_pos (by omega)] at ih
        refine pr_iload dX1_levelFromFirst_35 rfl ?_
        refine pr_istore_n dX1_levelFromFirst_37 (by decide) rfl ?_
        refine pr_goto (tgt := 67) dX1_levelFromFirst_38 (by decide) ?_
        refine zr_iinc dX1_levelFromFirst_67 rfl (by decide) rfl ?_
        refine pr_goto (tgt := 10) dX1_levelFromFirst_70 (by decide) ?_
        exact ih (some _)
  refine pr_aload_n dX1_levelFromFirst_0 rfl ?_
  refine pr_getf dX1_levelFromFirst_1 pzf_1_17 (sH_1 hj) rfl ?_
  refine pr_iload_n dX1_levelFromFirst_4 rfl ?_
  refine zr_iald dX1_levelFromFirst_5 (sH_3 hj) (by omega) (by decide) ?_
  refine pr_istore_n dX1_levelFromFirst_6 (by decide) rfl ?_
  refine zr_iconst dX1_levelFromFirst_7 ?_
  refine pr_istore dX1_levelFromFirst_8 (by decide) rfl ?_
  exact loop none
set_option maxRecDepth 100000 in
set_option maxHeartbeats 4000000 in
theorem kX1_sourceIndex (hj : sj a) (hX : xB X) {i c : Int} (i1 : 0 ≤ i) (i2 : i < 12) (c1 : 0 ≤ c) (c2 : c ≤ 11) : pz_Cd en 2 40 [.ref (a 1), .int (zI i), .int (zI c)] (sH h a (sq a) X) 0 0 (pz_ret (some (.int (zI (xsr X c i.toNat)))) (sH h a (sq a) X)) := by
  refine pz_in pzt_X1_sourceIndex ?_
  obtain ⟨hR, hn0, hn1, hm0, hm1⟩ := id hX
  have loop : pz_WP 2 en (pz_Cd en (2 - 1)) 1 cX1_sourceIndex 4 (some .int) [] false (pz_ret (some (.int (zI (xsr X c (i : Int).toNat)))) (sH h a (sq a) X)) 2 [some (.ref (a 1)), some (.int (zI i)), some (.int (zI c)), some (.int (zI i))] [] (sH h a (sq a) X) 0 0 := by
    refine zdown (P := fun k => pz_WP 2 en (pz_Cd en (2 - 1)) 1 cX1_sourceIndex 4 (some .int) [] false (pz_ret (some (.int (zI (xsr X c (k : Int).toNat)))) (sH h a (sq a) X)) 2 [some (.ref (a 1)), some (.int (zI i)), some (.int (zI c)), some (.int (zI k))] [] (sH h a (sq a) X) 0 0) (lo := 0) (hi := i) i1 ?_ ?_
    · skip
      refine pr_iload_n dX1_sourceIndex_2 rfl ?_
      refine zr_if_le (tgt := 27) dX1_sourceIndex_3 (by decide) (by first | exact hR _ _ | omega) (fun c3 => ?_) (fun c3 => by exfalso; omega)
      refine zr_iconst dX1_sourceIndex_27 ?_
      exact pr_iret dX1_sourceIndex_28 rfl rfl (zret (by rfl))
    · intro k hk1 hk2 ih
      rw [xsr_s hk1]
      refine pr_iload_n dX1_sourceIndex_2 rfl ?_
      refine zr_if_le (tgt := 27) dX1_sourceIndex_3 (by decide) (by first | exact hR _ _ | omega) (fun c3 => by exfalso; omega) (fun c3 => ?_)
      refine pr_aload_n dX1_sourceIndex_6 rfl ?_
      refine pr_getf dX1_sourceIndex_7 pzf_1_11 (sH_1 hj) rfl ?_
      refine pr_iload_n dX1_sourceIndex_10 rfl ?_
      refine zr_crow hj dX1_sourceIndex_11 (by omega) (by omega) ?_
      refine pr_iload_n dX1_sourceIndex_12 rfl ?_
      refine zcv1i dX1_sourceIndex_13 pzm_1_51 pzt_X0_isTracking (sH_C hj (by omega) (by omega)) (kX0_isTracking hj hX (by omega) (by omega) (by omega) (by omega)) (by decide) (Nat.le_of_ble_eq_true rfl) (by decide) ?_
      refine zr_if_ne (tgt := 21) dX1_sourceIndex_16 (by decide) (bI_R _) (fun c16 => ?_) (fun c16 => ?_)
      · have b16 := bI_ne c16
        rw [if_pos b16]
        refine zr_iinc dX1_sourceIndex_21 rfl (by decide) rfl ?_
        refine pr_goto (tgt := 2) dX1_sourceIndex_24 (by decide) ?_
        exact ih
      · have b16 := bI_0 c16
        refine pr_iload_n dX1_sourceIndex_19 rfl ?_
        exact pr_iret dX1_sourceIndex_20 rfl rfl (zret (by rw [if_neg b16]))
  refine pr_iload_n dX1_sourceIndex_0 rfl ?_
  refine pr_istore_n dX1_sourceIndex_1 (by decide) rfl ?_
  exact loop
set_option maxRecDepth 100000 in
set_option maxHeartbeats 4000000 in
theorem kX1_isMoving (hj : sj a) (hX : xB X) {i c : Int} (i1 : 0 ≤ i) (i2 : i < 12) (c1 : 0 ≤ c) (c2 : c ≤ 11) : pz_Cd en 4 7 [.ref (a 1), .int (zI i), .int (zI c)] (sH h a (sq a) X) 0 0 (pz_ret (some (.int (zI (bI (¬ xlv X i c = xlv X (i - 1) c))))) (sH h a (sq a) X)) := by
  refine pz_in pzt_X1_isMoving ?_
  obtain ⟨hR, hn0, hn1, hm0, hm1⟩ := id hX
  refine pr_aload_n dX1_isMoving_0 rfl ?_
  refine pr_iload_n dX1_isMoving_1 rfl ?_
  refine pr_iload_n dX1_isMoving_2 rfl ?_
  refine zcv2i dX1_isMoving_3 pzm_1_62 pzt_X1_levelIn (sH_1 hj) (kX1_levelIn hj hX (by omega) (by omega) (by omega) (by omega)) (by decide) (Nat.le_of_ble_eq_true rfl) (by decide) ?_
  refine pr_aload_n dX1_isMoving_6 rfl ?_
  refine pr_iload_n dX1_isMoving_7 rfl ?_
  refine pr_iload_n dX1_isMoving_8 rfl ?_
  refine zcv2i dX1_isMoving_9 pzm_1_69 pzt_X1_levelBefore (sH_1 hj) (kX1_levelBefore hj hX (by omega) (by omega) (by omega) (by omega)) (by decide) (Nat.le_of_ble_eq_true rfl) (by decide) ?_
  refine zr_icmp_eq (tgt := 19) dX1_isMoving_12 (by decide) (xlv_R hR _ _) (xlv_R hR _ _) (fun c12 => ?_) (fun c12 => ?_)
  · refine zr_iconst dX1_isMoving_19 ?_
    exact pr_iret dX1_isMoving_20 rfl rfl (zret (by first | exact (bI_t (by omega)).symm | exact (bI_f (by omega)).symm))
  · refine zr_iconst dX1_isMoving_15 ?_
    refine pr_goto (tgt := 20) dX1_isMoving_16 (by decide) ?_
    exact pr_iret dX1_isMoving_20 rfl rfl (zret (by first | exact (bI_t (by omega)).symm | exact (bI_f (by omega)).symm))
set_option maxRecDepth 100000 in
set_option maxHeartbeats 4000000 in
theorem kX1_movingSet (hj : sj a) (hX : xB X) {i : Int} (i1 : 0 ≤ i) (i2 : i < 12) : pz_Cd en 5 8 [.ref (a 1), .int (zI i)] (sH h a (sq a) X) 0 0 (pz_ret (some (.int (xmv X i))) (sH h a (sq a) X)) := by
  refine pz_in pzt_X1_movingSet ?_
  obtain ⟨hR, hn0, hn1, hm0, hm1⟩ := id hX
  have loop : pz_WP 5 en (pz_Cd en (5 - 1)) 1 cX1_movingSet 4 (some .int) [] false (pz_ret (some (.int (xmv X i))) (sH h a (sq a) X)) 4 [some (.ref (a 1)), some (.int (zI i)), some (.int (rmk (fun c => decide (¬ xlv X i c = xlv X (i - 1) c)) (0 : Int).toNat)), some (.int (zI 0))] [] (sH h a (sq a) X) 0 0 := by
    refine zup (P := fun k => pz_WP 5 en (pz_Cd en (5 - 1)) 1 cX1_movingSet 4 (some .int) [] false (pz_ret (some (.int (xmv X i))) (sH h a (sq a) X)) 4 [some (.ref (a 1)), some (.int (zI i)), some (.int (rmk (fun c => decide (¬ xlv X i c = xlv X (i - 1) c)) (k : Int).toNat)), some (.int (zI k))] [] (sH h a (sq a) X) 0 0) (lo := 0) (hi := 12) (by decide) ?_ ?_
    · skip
      refine pr_iload_n dX1_movingSet_4 rfl ?_
      refine zr_bipush dX1_movingSet_5 (by decide) ?_
      refine zr_icmp_ge (tgt := 31) dX1_movingSet_7 (by decide) (by first | exact hR _ _ | omega) (by first | exact hR _ _ | omega) (fun c7 => ?_) (fun c7 => by exfalso; omega)
      refine pr_iload_n dX1_movingSet_31 rfl ?_
      exact pr_iret dX1_movingSet_32 rfl rfl (⟨rfl, rfl⟩)
    · intro k hk1 hk2 ih
      rw [rmk_s hk1] at ih
      refine pr_iload_n dX1_movingSet_4 rfl ?_
      refine zr_bipush dX1_movingSet_5 (by decide) ?_
      refine zr_icmp_ge (tgt := 31) dX1_movingSet_7 (by decide) (by first | exact hR _ _ | omega) (by first | exact hR _ _ | omega) (fun c7 => by exfalso; omega) (fun c7 => ?_)
      refine pr_aload_n dX1_movingSet_10 rfl ?_
      refine pr_iload_n dX1_movingSet_11 rfl ?_
      refine pr_iload_n dX1_movingSet_12 rfl ?_
      refine zcv2i dX1_movingSet_13 pzm_1_72 pzt_X1_isMoving (sH_1 hj) (kX1_isMoving hj hX (by omega) (by omega) (by omega) (by omega)) (by decide) (Nat.le_of_ble_eq_true rfl) (by decide) ?_
      refine zr_if_eq (tgt := 25) dX1_movingSet_16 (by decide) (bI_R _) (fun c16 => ?_) (fun c16 => ?_)
      · have b16 := bI_0 c16
        rw [if_neg (fun z => b16 (of_decide_eq_true z)), Int32.or_zero] at ih
        refine zr_iinc dX1_movingSet_25 rfl (by decide) rfl ?_
        refine pr_goto (tgt := 4) dX1_movingSet_28 (by decide) ?_
        exact ih
      · have b16 := bI_ne c16
        rw [if_pos (decide_eq_true b16)] at ih
        refine pr_iload_n dX1_movingSet_19 rfl ?_
        refine zr_iconst dX1_movingSet_20 ?_
        refine pr_iload_n dX1_movingSet_21 rfl ?_
        refine pr_ishl dX1_movingSet_22 ?_
        refine pr_ior dX1_movingSet_23 ?_
        refine pr_istore_n dX1_movingSet_24 (by decide) rfl ?_
        refine zr_iinc dX1_movingSet_25 rfl (by decide) rfl ?_
        refine pr_goto (tgt := 4) dX1_movingSet_28 (by decide) ?_
        exact ih
  refine zr_iconst dX1_movingSet_0 ?_
  refine pr_istore_n dX1_movingSet_1 (by decide) rfl ?_
  refine zr_iconst dX1_movingSet_2 ?_
  refine pr_istore_n dX1_movingSet_3 (by decide) rfl ?_
  exact loop
end cls
