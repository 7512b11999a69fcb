/-! the reader: both read the same entries -/
section rd
variable {inp : Int → Int} {ln : Int}
theorem pSg_k {c : Int} {x : Int × Int} (h : (pSg inp ln c x).2 = 0) : x.2 = 0 := by
  unfold pSg at h
  split at h
  · rename_i g; exact g.1
  · exact absurd (show (1 : Int) = 0 from h) (by decide)
theorem pNo_k {d : Int} {x : Int × Int} (h : (pNo inp ln d x).2.2 = 0) : x.2 = 0 := by
  unfold pNo at h
  split at h
  · rename_i g; exact g.1
  · exact absurd (show (1 : Int) = 0 from h) (by decide)
def eN (inp : Int → Int) (ln pl r : Int) : Int := (pEn inp (fun _ => 0) ln pl 0).2 r
abbrev nd (k r : Int) : Prop := (r = 0 ∧ ¬ k = 103) ∨ (r = 1 ∧ (k = 114 ∨ k = 115)) ∨ (r = 2 ∧ k = 115)
theorem pEn_1 (N : Int → Int) (pl to : Int) : (pEn inp N ln pl to).1 = (pEn inp (fun _ => 0) ln pl 0).1 := by
  unfold pEn
  repeat' split
  all_goals rfl
theorem pEn_out {N : Int → Int} {pl to j : Int} (h : j < to ∨ to + 2 < j) : (pEn inp N ln pl to).2 j = N j := by
  unfold pEn
  repeat' split
  all_goals first | rfl | skip
  · show zu N to _ j = _
    rw [zu_ne _ (by omega)]
  · show zu N to _ j = _
    rw [zu_ne _ (by omega)]
  · show zu (zu N to _) (to + 1) _ j = _
    rw [zu_ne _ (by omega), zu_ne _ (by omega)]
  · show zu (zu (zu N to _) (to + 1) _) (to + 2) _ j = _
    rw [zu_ne _ (by omega), zu_ne _ (by omega), zu_ne _ (by omega)]
theorem eN_sp {N M : Int → Int} {pl to : Int} (h : (pEn inp (fun _ => 0) ln pl 0).1.2 = 0) : pl < ln ∧ pKo (inp pl) ∧ ∀ r : Int, nd (inp pl) r → (pEn inp N ln pl to).2 (to + r) = eN inp ln pl r ∧ cM inp M ln pl r = eN inp ln pl r := by
  have hk := pEn_k h
  have hpl := hk.1
  have hko : pKo (inp pl) := by
    have := hk.2
    unfold pKd at this
    rw [if_pos hpl] at this
    exact this
  refine ⟨hpl, hko, fun r hr => ?_⟩
  unfold eN pEn cM
  unfold pEn at h
  rw [if_pos hpl] at h ⊢
  rw [if_pos hpl, if_pos hpl]
  rcases hko with e | e | e | e | e | e | e
  · rw [if_neg (by omega), if_pos (by omega), if_neg (by omega), if_pos (by omega), if_neg (by omega), if_pos (by omega)]
    have : r = 0 := by unfold nd at hr; omega
    subst this
    show zu N to _ (to + 0) = zu (fun _ => (0 : Int)) 0 _ 0 ∧ zu M 0 _ 0 = zu (fun _ => (0 : Int)) 0 _ 0
    rw [Int.add_zero, zu_at, zu_at, zu_at]
    exact ⟨rfl, rfl⟩
  · rw [if_neg (by omega), if_pos (by omega), if_neg (by omega), if_pos (by omega), if_neg (by omega), if_pos (by omega)]
    have : r = 0 := by unfold nd at hr; omega
    subst this
    show zu N to _ (to + 0) = zu (fun _ => (0 : Int)) 0 _ 0 ∧ zu M 0 _ 0 = zu (fun _ => (0 : Int)) 0 _ 0
    rw [Int.add_zero, zu_at, zu_at, zu_at]
    exact ⟨rfl, rfl⟩
  · -- s
    rw [if_neg (by omega), if_neg (by omega), if_neg (by omega), if_neg (by omega), if_pos e] at h
    rw [if_neg (by omega), if_neg (by omega), if_neg (by omega), if_neg (by omega), if_pos e, if_neg (by omega), if_neg (by omega), if_neg (by omega), if_neg (by omega), if_pos e, if_neg (by omega), if_neg (by omega), if_neg (by omega), if_neg (by omega), if_pos e]
    have h2 := pNo_k (pSg_k h)
    rw [if_pos h2]
    have hr2 : r = 0 ∨ r = 1 ∨ r = 2 := by unfold nd at hr; omega
    rcases hr2 with rfl | rfl | rfl
    · dsimp only
      rw [zu_ne _ (by omega), zu_ne _ (by omega), Int.add_zero, zu_at, zu_ne _ (by decide), zu_ne _ (by decide), zu_at, zu_ne _ (by decide), zu_ne _ (by decide), zu_at]
      exact ⟨rfl, rfl⟩
    · dsimp only
      rw [show (0 : Int) + 1 = 1 from rfl, show (0 : Int) + 2 = 2 from rfl]
      rw [zu_ne _ (show to + 1 ≠ to + 2 by omega), zu_at, zu_ne _ (show (1 : Int) ≠ 2 by decide), zu_at, zu_ne _ (show (1 : Int) ≠ 2 by decide), zu_at]
      exact ⟨rfl, rfl⟩
    · dsimp only
      rw [show (0 : Int) + 1 = 1 from rfl, show (0 : Int) + 2 = 2 from rfl]
      rw [zu_at, zu_at, zu_at]
      exact ⟨rfl, rfl⟩
  · -- r
    rw [if_neg (by omega), if_neg (by omega), if_neg (by omega), if_pos e] at h
    rw [if_neg (by omega), if_neg (by omega), if_neg (by omega), if_pos e, if_neg (by omega), if_neg (by omega), if_neg (by omega), if_pos e, if_neg (by omega), if_neg (by omega), if_neg (by omega), if_pos e]
    have h2 := pNo_k (pSg_k h)
    rw [if_pos h2]
    have hr2 : r = 0 ∨ r = 1 := by unfold nd at hr; omega
    rcases hr2 with rfl | rfl
    · dsimp only
      rw [zu_ne _ (by omega), Int.add_zero, zu_at, zu_ne _ (by decide), zu_at, zu_ne _ (by decide), zu_at]
      exact ⟨rfl, rfl⟩
    · dsimp only
      rw [show (0 : Int) + 1 = 1 from rfl, zu_at, zu_at, zu_at]
      exact ⟨rfl, rfl⟩
  · unfold nd at hr; omega
  · rw [if_neg (by omega), if_pos (by omega), if_neg (by omega), if_pos (by omega), if_neg (by omega), if_pos (by omega)]
    have : r = 0 := by unfold nd at hr; omega
    subst this
    show zu N to _ (to + 0) = zu (fun _ => (0 : Int)) 0 _ 0 ∧ zu M 0 _ 0 = zu (fun _ => (0 : Int)) 0 _ 0
    rw [Int.add_zero, zu_at, zu_at, zu_at]
    exact ⟨rfl, rfl⟩
  · rw [if_neg (by omega), if_neg (by omega), if_pos e, if_neg (by omega), if_neg (by omega), if_pos e, if_neg (by omega), if_neg (by omega), if_pos e]
    have : r = 0 := by unfold nd at hr; omega
    subst this
    show zu N to _ (to + 0) = zu (fun _ => (0 : Int)) 0 _ 0 ∧ zu M 0 _ 0 = zu (fun _ => (0 : Int)) 0 _ 0
    rw [Int.add_zero, zu_at, zu_at, zu_at]
    exact ⟨rfl, rfl⟩
/-- where the entries begin -/
def ps (inp : Int → Int) (ln : Int) : Nat → Int
  | 0 => 0
  | k + 1 => (pEn inp (fun _ => 0) ln (ps inp ln k) 0).1.1
abbrev okE (inp : Int → Int) (ln : Int) (k : Nat) : Prop := (pEn inp (fun _ => 0) ln (ps inp ln k) 0).1.2 = 0
abbrev rdI (inp : Int → Int) (ln : Int) (e : Nat) (x : Int × Int) (K N : Int → Int) : Prop :=
  x = (pEn inp (fun _ => 0) ln (ps inp ln e) 0).1 ∧ (∀ k : Nat, k < e → okE inp ln k ∧ ps inp ln (k + 1) < ln) ∧
  (∀ k : Nat, k ≤ e → okE inp ln k → K k = inp (ps inp ln k) ∧ ∀ r : Int, nd (inp (ps inp ln k)) r → N (3 * k + r) = eN inp ln (ps inp ln k) r)
theorem ps_R (l0 : 0 ≤ ln) : ∀ k : Nat, 0 ≤ ps inp ln k ∧ ps inp ln k ≤ ln
  | 0 => ⟨Int.le_refl _, l0⟩
  | k + 1 => by
    have ih := ps_R l0 k
    have := pEn_R (inp := inp) (N := fun _ => 0) (to := 0) ih.2
    exact ⟨Int.le_trans ih.1 this.1, this.2.1⟩
theorem ps_ge (l0 : 0 ≤ ln) : ∀ e : Nat, (∀ k : Nat, k < e → okE inp ln k) → (e : Int) ≤ ps inp ln e
  | 0, _ => Int.le_refl _
  | e + 1, h => by
    have ih := ps_ge l0 e (fun k hk => h k (by omega))
    have := (pEn_R (inp := inp) (N := fun _ => 0) (to := 0) (ps_R (inp := inp) l0 e).2).2.2.2 (h e (by omega))
    show ((e + 1 : Nat) : Int) ≤ (pEn inp (fun _ => 0) ln (ps inp ln e) 0).1.1
    omega
theorem rdI_0 (l0 : 0 ≤ ln) {K N : Int → Int} : rdI inp ln 0 (pEn inp N ln 0 (3 * 0)).1 (zu K 0 (pKd inp ln 0)) (pEn inp N ln 0 (3 * 0)).2 := by
  refine ⟨pEn_1 _ _ _, fun k hk => by omega, fun k hk ho => ?_⟩
  have : k = 0 := by omega
  subst this
  have sp := eN_sp (N := N) (M := N) (to := 3 * 0) ho
  refine ⟨?_, fun r hr => (sp.2.2 r hr).1⟩
  show zu K 0 (pKd inp ln 0) 0 = inp 0
  rw [zu_at]
  exact if_pos sp.1
theorem rdI_s {e : Nat} {x : Int × Int} {K N : Int → Int} (h : rdI inp ln e x K N) (hx : x.2 = 0 ∧ x.1 < ln) : rdI inp ln (e + 1) (pEn inp N ln x.1 (3 * ((e : Int) + 1))).1 (zu K ((e : Int) + 1) (pKd inp ln x.1)) (pEn inp N ln x.1 (3 * ((e : Int) + 1))).2 := by
  obtain ⟨h1, h2, h3⟩ := h
  have p1 : x.1 = ps inp ln (e + 1) := by rw [h1]; rfl
  have o1 : okE inp ln e := by
    have := hx.1
    rw [h1] at this
    exact this
  rw [p1]
  refine ⟨pEn_1 _ _ _, fun k hk => ?_, fun k hk ho => ?_⟩
  · by_cases q : k = e
    · subst q
      exact ⟨o1, by rw [← p1]; exact hx.2⟩
    · exact h2 k (by omega)
  · by_cases q : k = e + 1
    · subst q
      have sp := eN_sp (N := N) (M := N) (to := 3 * ((e : Int) + 1)) ho
      refine ⟨?_, fun r hr => ?_⟩
      · rw [show (((e + 1 : Nat)) : Int) = (e : Int) + 1 by omega, zu_at]
        exact if_pos sp.1
      · rw [show (3 : Int) * ((e + 1 : Nat) : Int) = 3 * ((e : Int) + 1) by omega]
        exact (sp.2.2 r hr).1
    · have w := h3 k (by omega) ho
      refine ⟨by rw [zu_ne _ (by omega)]; exact w.1, fun r hr => ?_⟩
      have hr2 : 0 ≤ r ∧ r ≤ 2 := by unfold nd at hr; omega
      rw [pEn_out (by omega)]
      exact w.2 r hr
theorem pRd_sp (l0 : 0 ≤ ln) : ∀ (n : Nat) (e : Nat) (x : Int × Int) (K N : Int → Int), rdI inp ln e x K N → ((x.2 = 0 ∧ x.1 < ln) → ln - x.1 ≤ n) →
    ∃ E : Nat, e ≤ E ∧ (pRd inp ln n ((e : Int) + 1) x K N).1 = (E : Int) + 1 ∧ rdI inp ln E (pRd inp ln n ((e : Int) + 1) x K N).2.1 (pRd inp ln n ((e : Int) + 1) x K N).2.2.1 (pRd inp ln n ((e : Int) + 1) x K N).2.2.2 ∧ ¬ ((pRd inp ln n ((e : Int) + 1) x K N).2.1.2 = 0 ∧ (pRd inp ln n ((e : Int) + 1) x K N).2.1.1 < ln)
  | 0, e, x, K, N, h, hf => ⟨e, Nat.le_refl _, rfl, h, fun z => by
      have w := hf z
      have y : x.1 < ln := z.2
      omega⟩
  | n + 1, e, x, K, N, h, hf => by
    have er : pRd inp ln (n + 1) ((e : Int) + 1) x K N = if x.2 = 0 ∧ x.1 < ln then pRd inp ln n ((e : Int) + 1 + 1) (pEn inp N ln x.1 (3 * ((e : Int) + 1))).1 (zu K ((e : Int) + 1) (pKd inp ln x.1)) (pEn inp N ln x.1 (3 * ((e : Int) + 1))).2 else ((e : Int) + 1, x, K, N) := rfl
    rw [er]
    by_cases c : x.2 = 0 ∧ x.1 < ln
    · rw [if_pos c]
      have hs := rdI_s h c
      have w := hf c
      have hp := pEn_R (inp := inp) (N := N) (to := 3 * ((e : Int) + 1)) (show x.1 ≤ ln by omega)
      obtain ⟨E, e1, e2, e3, e4⟩ := pRd_sp l0 n (e + 1) _ _ _ hs (fun z => by
        have := hp.2.2.2 z.1
        omega)
      rw [show (((e + 1 : Nat)) : Int) + 1 = (e : Int) + 1 + 1 by omega] at e2 e3 e4
      exact ⟨E, by omega, e2, e3, e4⟩
    · rw [if_neg c]
      exact ⟨e, Nat.le_refl _, rfl, h, c⟩
theorem rdR_sp (l0 : 0 ≤ ln) (l3 : ln ≤ 60) (K N : Int → Int) : ∃ E : Nat, E < 60 ∧ (rdR inp ln K N).1 = (E : Int) + 1 ∧ rdI inp ln E (rdR inp ln K N).2.1 (rdR inp ln K N).2.2.1 (rdR inp ln K N).2.2.2 ∧ ((rdR inp ln K N).2.1.2 = 1 ∨ ((rdR inp ln K N).2.1.2 = 0 ∧ (rdR inp ln K N).2.1.1 = ln)) := by
  have hp := pEn_R (inp := inp) (N := N) (to := 3 * 0) l0
  obtain ⟨E, -, e2, e3, e4⟩ := pRd_sp (inp := inp) l0 60 0 (pEn inp N ln 0 (3 * 0)).1 (zu K 0 (pKd inp ln 0)) (pEn inp N ln 0 (3 * 0)).2 (rdI_0 l0) (fun z => by
    have := hp.1
    omega)
  have e2 : (rdR inp ln K N).1 = (E : Int) + 1 := e2
  have e3 : rdI inp ln E (rdR inp ln K N).2.1 (rdR inp ln K N).2.2.1 (rdR inp ln K N).2.2.2 := e3
  have e4 : ¬ ((rdR inp ln K N).2.1.2 = 0 ∧ (rdR inp ln K N).2.1.1 < ln) := e4
  have hE := ps_ge l0 E (fun k hk => (e3.2.1 k hk).1)
  have hR := pEn_R (inp := inp) (N := fun _ => 0) (to := 0) (ps_R (inp := inp) l0 E).2
  have hlt : (E : Int) < 60 := by
    cases E with
    | zero => decide
    | succ E' =>
      have := (e3.2.1 E' (by omega)).2
      omega
  refine ⟨E, by omega, e2, e3, ?_⟩
  rw [e3.1] at e4 ⊢
  rcases hR.2.2.1 with g | g
  · refine Or.inr ⟨g, ?_⟩
    have := hR.2.1
    by_cases q : (pEn inp (fun _ => 0) ln (ps inp ln E) 0).1.1 < ln
    · exact absurd ⟨g, q⟩ e4
    · omega
  · exact Or.inl g
theorem cEq_1 {M : Int → Int} {pl : Int} : (cEn inp M ln pl).1 = (pEn inp (fun _ => 0) ln pl 0).1 := pEn_1 M pl 0
theorem cEn_2 {M : Int → Int} {pl : Int} : (cEn inp M ln pl).2 = cM inp M ln pl := rfl
theorem kCt_sp {E : Nat} (l0 : 0 ≤ ln) (hE : ∀ k : Nat, k < E → okE inp ln k ∧ ps inp ln (k + 1) < ln) (he : (pEn inp (fun _ => 0) ln (ps inp ln E) 0).1.2 = 1 ∨ ((pEn inp (fun _ => 0) ln (ps inp ln E) 0).1.2 = 0 ∧ (pEn inp (fun _ => 0) ln (ps inp ln E) 0).1.1 = ln)) : ∀ (d : Nat) (n e : Nat) (kd : Int) (M : Int → Int), e + d = E → d < n →
    (kCt inp ln n ((e : Int) + 1) (ps inp ln e) kd M).1 = (if (pEn inp (fun _ => 0) ln (ps inp ln E) 0).1.2 = 0 then (E : Int) + 1 else -1) ∧ (kCt inp ln n ((e : Int) + 1) (ps inp ln e) kd M).2.1 = (pEn inp (fun _ => 0) ln (ps inp ln E) 0).1.1
  | 0, n, e, kd, M, h1, h2 => by
    obtain ⟨n', rfl⟩ : ∃ n', n = n' + 1 := ⟨n - 1, by omega⟩
    have : e = E := by omega
    subst this
    have er : kCt inp ln (n' + 1) ((e : Int) + 1) (ps inp ln e) kd M = if ¬ (cEn inp M ln (ps inp ln e)).1.2 = 0 then (-1, (cEn inp M ln (ps inp ln e)).1.1, (if ps inp ln e < ln then inp (ps inp ln e) else kd), (cEn inp M ln (ps inp ln e)).2) else if ln ≤ (cEn inp M ln (ps inp ln e)).1.1 then ((e : Int) + 1, (cEn inp M ln (ps inp ln e)).1.1, (if ps inp ln e < ln then inp (ps inp ln e) else kd), (cEn inp M ln (ps inp ln e)).2) else kCt inp ln n' ((e : Int) + 1 + 1) (cEn inp M ln (ps inp ln e)).1.1 (if ps inp ln e < ln then inp (ps inp ln e) else kd) (cEn inp M ln (ps inp ln e)).2 := rfl
    rw [er, cEq_1]
    rcases he with g | ⟨g, g2⟩
    · rw [if_pos (by omega), if_neg (show ¬ (pEn inp (fun _ => 0) ln (ps inp ln e) 0).1.2 = 0 by omega)]
      exact ⟨rfl, rfl⟩
    · rw [if_neg (by omega), if_pos (by omega), if_pos g]
      exact ⟨rfl, rfl⟩
  | d + 1, n, e, kd, M, h1, h2 => by
    obtain ⟨n', rfl⟩ : ∃ n', n = n' + 1 := ⟨n - 1, by omega⟩
    have er : kCt inp ln (n' + 1) ((e : Int) + 1) (ps inp ln e) kd M = if ¬ (cEn inp M ln (ps inp ln e)).1.2 = 0 then (-1, (cEn inp M ln (ps inp ln e)).1.1, (if ps inp ln e < ln then inp (ps inp ln e) else kd), (cEn inp M ln (ps inp ln e)).2) else if ln ≤ (cEn inp M ln (ps inp ln e)).1.1 then ((e : Int) + 1, (cEn inp M ln (ps inp ln e)).1.1, (if ps inp ln e < ln then inp (ps inp ln e) else kd), (cEn inp M ln (ps inp ln e)).2) else kCt inp ln n' ((e : Int) + 1 + 1) (cEn inp M ln (ps inp ln e)).1.1 (if ps inp ln e < ln then inp (ps inp ln e) else kd) (cEn inp M ln (ps inp ln e)).2 := rfl
    have ok := hE e (by omega)
    have o1 : (pEn inp (fun _ => 0) ln (ps inp ln e) 0).1.2 = 0 := ok.1
    have o2 : (pEn inp (fun _ => 0) ln (ps inp ln e) 0).1.1 < ln := ok.2
    rw [er, cEq_1, if_neg (by omega), if_neg (by omega)]
    have ih := kCt_sp l0 hE he d n' (e + 1) (if ps inp ln e < ln then inp (ps inp ln e) else kd) (cEn inp M ln (ps inp ln e)).2 (by omega) (by omega)
    rw [show (((e + 1 : Nat)) : Int) + 1 = (e : Int) + 1 + 1 by omega] at ih
    exact ih
theorem cM_b {M : Int → Int} {pl : Int} (hM : ∀ i, zR (M i)) : ∀ i, zR (cM inp M ln pl i) := by
  have hb : ∀ d x, d ≤ 4 → zR (pNo inp ln d x).1 := fun d x h => by
    have := pNo_b (inp := inp) (ln := ln) (d := d) (x := x) h
    omega
  have h2 := fun x => hb 2 x (by decide)
  have h3 := fun x => hb 3 x (by decide)
  have h4 := fun x => hb 4 x (by decide)
  intro i
  unfold cM
  repeat' split
  all_goals first | exact hM i | (simp only [zu_app]; repeat' split) | skip
  all_goals first | exact hM _ | exact h2 _ | exact h3 _ | exact h4 _
theorem kCt_b (hin : ∀ i, 0 ≤ inp i ∧ inp i < 65536) (l0 : 0 ≤ ln) : ∀ (n : Nat) (e pl kd : Int) (M : Int → Int), 0 ≤ pl → pl ≤ ln → zR kd → (∀ i, zR (M i)) → zR (kCt inp ln n e pl kd M).2.2.1 ∧ (∀ i, zR ((kCt inp ln n e pl kd M).2.2.2 i)) ∧ 0 ≤ (kCt inp ln n e pl kd M).2.1 ∧ (kCt inp ln n e pl kd M).2.1 ≤ ln
  | 0, e, pl, kd, M, h1, h2, h3, h4 => ⟨h3, h4, h1, h2⟩
  | n + 1, e, pl, kd, M, h1, h2, h3, h4 => by
    have er : kCt inp ln (n + 1) e pl kd M = if ¬ (cEn inp M ln pl).1.2 = 0 then (-1, (cEn inp M ln pl).1.1, (if pl < ln then inp pl else kd), (cEn inp M ln pl).2) else if ln ≤ (cEn inp M ln pl).1.1 then (e, (cEn inp M ln pl).1.1, (if pl < ln then inp pl else kd), (cEn inp M ln pl).2) else kCt inp ln n (e + 1) (cEn inp M ln pl).1.1 (if pl < ln then inp pl else kd) (cEn inp M ln pl).2 := rfl
    have hp := pEn_R (inp := inp) (N := fun _ => 0) (to := 0) h2
    have hk : zR (if pl < ln then inp pl else kd) := by
      have := hin pl
      split
      · omega
      · exact h3
    rw [er, cEq_1]
    split
    · exact ⟨hk, cM_b h4, (by show 0 ≤ (pEn inp (fun _ => 0) ln pl 0).1.1; omega), hp.2.1⟩
    · split
      · exact ⟨hk, cM_b h4, (by show 0 ≤ (pEn inp (fun _ => 0) ln pl 0).1.1; omega), hp.2.1⟩
      · exact kCt_b hin l0 n _ _ _ _ (by omega) hp.2.1 hk (cM_b h4)
end rd
