/-! the law's start: two new objects say the same -/
def tI (i : Int) : Int := if i = 0 then 0 else if i = 1 then 147 else if i = 2 then 148 else if i = 3 then 660 else if i = 4 then 661 else 662
def BI (k j : Int) : Int := if k = 0 then 1 + j else if k = 1 then 74 + j else 3 + 73 * k + j
def K00 : Int → Int → Int := fun i => if i = 0 then (fun j => if j = 6 then -1 else 0) else fun _ => 0
theorem tI_R {i : Int} (h1 : 0 ≤ i) (h2 : i < 6) : tI i = 0 ∨ tI i = 147 ∨ tI i = 148 ∨ tI i = 660 ∨ tI i = 661 ∨ tI i = 662 := by
  unfold tI
  repeat' split
  all_goals omega
theorem tI_inj {i j : Int} (i1 : 0 ≤ i) (i2 : i < 6) (j1 : 0 ≤ j) (j2 : j < 6) (e : tI i = tI j) : i = j := by
  rcases (show i = 0 ∨ i = 1 ∨ i = 2 ∨ i = 3 ∨ i = 4 ∨ i = 5 by omega) with a | a | a | a | a | a <;> subst a <;>
  rcases (show j = 0 ∨ j = 1 ∨ j = 2 ∨ j = 3 ∨ j = 4 ∨ j = 5 by omega) with a | a | a | a | a | a <;> subst a <;>
  first | rfl | exact absurd e (by decide)
theorem BI_R {k j : Int} (k1 : 0 ≤ k) (k2 : k < 9) (j1 : 0 ≤ j) (j2 : j < 73) : 1 ≤ BI k j ∧ BI k j < 660 ∧ ¬ BI k j = 147 ∧ ¬ BI k j = 148 := by
  unfold BI
  repeat' split
  all_goals omega
theorem BI_inj {k l i j : Int} (k1 : 0 ≤ k) (k2 : k < 9) (l1 : 0 ≤ l) (l2 : l < 9) (i1 : 0 ≤ i) (i2 : i < 73) (j1 : 0 ≤ j) (j2 : j < 73) (e : BI k i = BI l j) : k = l ∧ i = j := by
  unfold BI at e
  by_cases a : k = 0
  · rw [if_pos a] at e
    by_cases b : l = 0
    · rw [if_pos b] at e; omega
    · rw [if_neg b] at e
      by_cases b2 : l = 1
      · rw [if_pos b2] at e; omega
      · rw [if_neg b2] at e; omega
  · rw [if_neg a] at e
    by_cases a2 : k = 1
    · rw [if_pos a2] at e
      by_cases b : l = 0
      · rw [if_pos b] at e; omega
      · rw [if_neg b] at e
        by_cases b2 : l = 1
        · rw [if_pos b2] at e; omega
        · rw [if_neg b2] at e; omega
    · rw [if_neg a2] at e
      by_cases b : l = 0
      · rw [if_pos b] at e; omega
      · rw [if_neg b] at e
        by_cases b2 : l = 1
        · rw [if_pos b2] at e; omega
        · rw [if_neg b2] at e; omega
theorem z_R : zR 0 := ⟨by decide, by decide⟩
theorem gM_00 : gM K00 (fun _ => zX) (zfil (fun _ => 0) 0 462 0) (fun _ => 0) (fun _ _ => 0) mF := by
  have hs : ∀ i, zfil (fun _ => 0) 0 462 0 i = 0 := fun i => by
    unfold zfil
    split <;> rfl
  refine ⟨⟨fun i j => ?_, by decide, by decide, by decide, fun _ => (show (0 : Int) ≤ 0 ∧ (0 : Int) < 65536 by decide)⟩, ?_, fun _ _ _ => z_R, ⟨rfl, rfl, rfl, rfl, rfl, rfl⟩, by decide, Or.inl rfl, fun i i1 i2 => ?_, fun _ => z_R, fun _ => z_R, fun _ => z_R, fun _ => z_R, fun _ => (show (0 : Int) ≤ 0 ∧ (0 : Int) < 10000 by decide)⟩
  · unfold K00
    split
    · show zR (if j = 6 then -1 else 0)
      split
      · exact ⟨by decide, by decide⟩
      · exact z_R
    · exact z_R
  · exact cS_zero (fun _ _ => z_R) (fun i => by rw [hs]; exact z_R) (fun i _ _ => hs i) ⟨rfl, rfl⟩ (fun _ _ _ => rfl) ⟨rfl, rfl, rfl, rfl⟩ (fun _ _ _ => ⟨rfl, rfl, rfl, rfl, rfl⟩)
  · have : mF 5 = 0 := rfl
    omega
theorem xcl_B {c : Int → Nat} {k j : Int} (k1 : 0 ≤ k) (k2 : k < 9) (j1 : 0 ≤ j) (j2 : j < 73) : xcl c (BI k j) = scl (fun i => c (BI k i)) (sq (fun i => c (BI k i))) zX j := by
  by_cases e0 : k = 0
  · subst e0
    show xcl c (1 + j) = _
    unfold xcl
    rw [if_neg (show ¬ 1 + j = 0 by omega), if_pos (show 1 + j < 74 by omega), show 1 + j - 1 = j by omega]
    rfl
  by_cases e1 : k = 1
  · subst e1
    show xcl c (74 + j) = _
    unfold xcl
    rw [if_neg (show ¬ 74 + j = 0 by omega), if_neg (show ¬ 74 + j < 74 by omega), if_pos (show 74 + j < 147 by omega), show 74 + j - 74 = j by omega]
    rfl
  have eb : ∀ i, BI k i = 3 + 73 * k + i := fun i => by
    unfold BI
    rw [if_neg e0, if_neg e1]
  rw [eb]
  unfold xcl
  rw [if_neg (show ¬ 3 + 73 * k + j = 0 by omega), if_neg (show ¬ 3 + 73 * k + j < 74 by omega), if_neg (show ¬ 3 + 73 * k + j < 147 by omega), if_pos (show 3 + 73 * k + j < 660 by omega)]
  unfold hcl
  rw [if_neg (show ¬ 3 + 73 * k + j - 147 = 0 by omega), if_neg (show ¬ 3 + 73 * k + j - 147 = 1 by omega), show (3 + 73 * k + j - 147 - 2) / 73 = k - 2 by omega, show (3 + 73 * k + j - 147 - 2) % 73 = j by omega]
  exact scl_ag0 (fun i i1 i2 => by
    show c (147 + (2 + 73 * (k - 2) + i)) = c (BI k i)
    rw [eb, show 147 + (2 + 73 * (k - 2) + i) = 3 + 73 * k + i by omega]) j1 j2
theorem xcl_t {c : Int → Nat} {i : Int} (i1 : 0 ≤ i) (i2 : i < 6) : xcl c (tI i) = tcl (fun i => c (tI i)) (fun k => c (BI k 0)) K00 i := by
  rcases (show i = 0 ∨ i = 1 ∨ i = 2 ∨ i = 3 ∨ i = 4 ∨ i = 5 by omega) with e | e | e | e | e | e <;> subst e
  · rfl
  · rfl
  · show rowsE 4 7 2 73 (fun i => c (147 + i)) 7 = (.inl (4, 7, .inr (.inr (.inr (.inr (fun k : Nat => if k < 7 then some (c (BI (2 + (k : Int)) 0)) else none))))) : pz_E)
    unfold rowsE
    have e : (fun m : Nat => if (m : Int) < 7 then some ((fun i => c (147 + i)) (2 + 73 * (m : Int))) else none) = fun k : Nat => if k < 7 then some (c (BI (2 + (k : Int)) 0)) else none := by
      funext m
      by_cases q : m < 7
      · have eb : BI (2 + (m : Int)) 0 = 147 + (2 + 73 * (m : Int)) := by
          unfold BI
          rw [if_neg (by omega), if_neg (by omega)]
          omega
        rw [if_pos (by omega), if_pos q, eb]
      · rw [if_neg (by omega), if_neg q]
    rw [e]
  · rfl
  · rfl
  · rfl
theorem gS_00 {g : pz_H} {c r : Int → Nat} {o : Nat} (c1 : ∀ i j : Int, 0 ≤ i → i < 663 → 0 ≤ j → j < 663 → c i = c j → i = j) (r1 : ∀ i j : Int, 0 ≤ i → i < 9 → 0 ≤ j → j < 9 → r i = r j → i = j) (cr : ∀ i j : Int, 0 ≤ i → i < 9 → 0 ≤ j → j < 663 → ¬ r i = c j) (ro : ∀ i : Int, 0 ≤ i → i < 9 → ¬ r i = o) (co : ∀ i : Int, 0 ≤ i → i < 663 → ¬ c i = o) (gc : ∀ j : Int, 0 ≤ j → j < 663 → g (c j) = some (xcl c j)) (gr : ∀ j : Int, 0 ≤ j → j < 9 → g (r j) = some (mcl r j)) (go : ∃ w : Nat → Int64, g o = some (.inl (2, 1, .inr (.inl w)))) : gS g (fun i => c (tI i)) (fun i => r (i : Int)) o := by
  have tR : ∀ i : Int, 0 ≤ i → i < 6 → 0 ≤ tI i ∧ tI i < 663 := fun i i1 i2 => by
    have := tI_R i1 i2
    omega
  have bR : ∀ k j : Int, 0 ≤ k → k < 9 → 0 ≤ j → j < 73 → 0 ≤ BI k j ∧ BI k j < 663 := fun k j k1 k2 j1 j2 => by
    have := BI_R k1 k2 j1 j2
    omega
  refine ⟨fun k => c (BI k 0), fun k j => c (BI k j), K00, fun _ => zX, zfil (fun _ => 0) 0 462 0, fun _ => 0, fun _ _ => 0, mF, ⟨⟨⟨?_, ?_, ?_⟩, ?_, ?_, ?_, ?_, ?_, ?_, ?_⟩, fun _ _ _ => rfl, ?_, ?_, ?_, go⟩, gM_00⟩
  · intro i j i1 i2 j1 j2 e
    exact tI_inj i1 i2 j1 j2 (c1 _ _ (tR i i1 i2).1 (tR i i1 i2).2 (tR j j1 j2).1 (tR j j1 j2).2 e)
  · intro k k1 k2 i j i1 i2 j1 j2 e
    exact (BI_inj k1 k2 k1 k2 i1 i2 j1 j2 (c1 _ _ (bR k i k1 k2 i1 i2).1 (bR k i k1 k2 i1 i2).2 (bR k j k1 k2 j1 j2).1 (bR k j k1 k2 j1 j2).2 e)).2
  · intro i j i1 i2 e
    have := r1 (i : Int) (j : Int) (by omega) (by omega) (by omega) (by omega) e
    omega
  · intro k k1 k2 i j i1 i2 j1 j2 e
    have h := c1 _ _ (tR i i1 i2).1 (tR i i1 i2).2 (bR k j k1 k2 j1 j2).1 (bR k j k1 k2 j1 j2).2 e
    have h1 := tI_R i1 i2
    have h2 := BI_R k1 k2 j1 j2
    omega
  · intro k l i j k1 k2 l1 l2 kl i1 i2 j1 j2 e
    exact kl (BI_inj k1 k2 l1 l2 i1 i2 j1 j2 (c1 _ _ (bR k i k1 k2 i1 i2).1 (bR k i k1 k2 i1 i2).2 (bR l j l1 l2 j1 j2).1 (bR l j l1 l2 j1 j2).2 e)).1
  · intro i j i1 j1 j2
    exact cr _ _ (by omega) (by omega) (tR j j1 j2).1 (tR j j1 j2).2
  · intro i k j i1 k1 k2 j1 j2
    exact cr _ _ (by omega) (by omega) (bR k j k1 k2 j1 j2).1 (bR k j k1 k2 j1 j2).2
  · intro i i1
    exact ro _ (by omega) (by omega)
  · intro j j1 j2
    exact co _ (tR j j1 j2).1 (tR j j1 j2).2
  · intro k j k1 k2 j1 j2
    exact co _ (bR k j k1 k2 j1 j2).1 (bR k j k1 k2 j1 j2).2
  · intro i i1 i2
    rw [gc _ (tR i i1 i2).1 (tR i i1 i2).2, xcl_t i1 i2]
  · intro k j k1 k2 j1 j2
    rw [gc _ (bR k j k1 k2 j1 j2).1 (bR k j k1 k2 j1 j2).2, xcl_B k1 k2 j1 j2]
  · intro i i1
    exact gr (i : Int) (by omega) (by omega)
set_option maxRecDepth 100000 in
set_option maxHeartbeats 4000000 in
theorem pz_law (en : pz_Env) (hL : en.2.1 ≤ 3072) : pz_WP 11 en (pz_Cd en (11 - 1)) 8 code 9 (some .boolean) [] false (fun o _ => o = .inl (some (.int 1))) 0 (pz_entry [.ref en.1] 9) [] (fun _ => none) 601024 7293034 := by
  refine zn_new (nc := 600361) (ns := 7286523) (mc := 662) (ms := 6504) (N := 7) (rest := []) dL_law_0 dL_law_3 dL_law_4 pzc_8_8 rfl (Or.inr pzm_8_131) pzt_X6_init (by decide) (by decide) (fun p g1 hp => kX6_init p g1 hp) (by decide) (fun c g3 c1 c2 c3 c4 => ?_)
  refine pr_astore_n dL_law_7 (by decide) rfl ?_
  refine zn_new (nc := 600352) (ns := 7281904) (mc := 8) (ms := 4602) (N := 17) (rest := []) dL_law_8 dL_law_11 dL_law_12 pzc_8_132 rfl (Or.inr pzm_8_134) pzt_X7_init (by decide) (by decide) (fun p g1 hp => kX7_init p g1 hp) (by decide) (fun r g5 r1 r2 r3 r4 => ?_)
  refine pr_astore_n dL_law_15 (by decide) rfl ?_
  refine zr_iconst dL_law_16 ?_
  refine pr_newal (nc := 600351) (ns := 7281903) (N := 1) dL_law_17 (by decide) (by decide) (fun o ho => ?_)
  refine pr_astore_n dL_law_19 (by decide) rfl ?_
  refine zr_iconst dL_law_20 ?_
  refine pr_istore dL_law_21 (by decide) rfl ?_
  have gc5 : ∀ j : Int, 0 ≤ j → j < 663 → g5 (c j) = some (xcl c j) := fun j j1 j2 => by
    rw [r4 _ (by rw [c3 j j1 j2]; simp)]; exact c3 j j1 j2
  have co : ∀ j : Int, 0 ≤ j → j < 663 → ¬ c j = o := fun j j1 j2 z => by
    have := gc5 j j1 j2
    rw [z, ho] at this
    cases this
  have ro : ∀ j : Int, 0 ≤ j → j < 9 → ¬ r j = o := fun j j1 j2 z => by
    have := r3 j j1 j2
    rw [z, ho] at this
    cases this
  have cr : ∀ i j : Int, 0 ≤ i → i < 9 → 0 ≤ j → j < 663 → ¬ r i = c j := fun i j i1 i2 j1 j2 z => by
    have := r2 i i1 i2
    rw [z, c3 j j1 j2] at this
    cases this
  refine law_loop (t := fun i => c (tI i)) (r := fun i => r (i : Int)) hL 512 0 _ _ _ (by decide) (by decide) (by omega) (gS_00 c1 r1 cr ro co (fun j j1 j2 => ?_) (fun j j1 j2 => ?_) ⟨fun _ => 0, if_pos rfl⟩) (by decide) (by decide)
  · exact (if_neg (co j j1 j2)).trans (gc5 j j1 j2)
  · exact (if_neg (ro j j1 j2)).trans (r3 j j1 j2)
