/-! what a show says: what follows, chains, counts -/
section rel
variable {X : Int → Int → Int} {s : Int → Int}
theorem rnum_lt (hi : rI s) {k j : Int} (k1 : 0 ≤ k) (k2 : k < s 0) (j1 : 0 ≤ j) (j2 : j < s 0) : s (18 + 12 * k) < s (18 + 12 * j) ↔ k < j := by
  constructor
  · intro e
    by_cases q : k < j
    · exact q
    · exfalso
      by_cases q2 : k = j
      · rw [q2] at e; omega
      · have := hi.2.2.1 j k j1 (by omega) k2; omega
  · intro e; exact hi.2.2.1 k j k1 e j2
theorem rnk_at (hi : rI s) {k : Int} (k1 : 0 ≤ k) (k2 : k < s 0) : rnk s (s (18 + 12 * k)) = if k + 1 < s 0 then k + 1 else -1 := by
  unfold rnk
  by_cases e : k + 1 < s 0
  · rw [if_pos e]
    apply zfst_eq (by omega) (by omega)
    · exact decide_eq_true ((rnum_lt hi k1 k2 (by omega) e).mpr (by omega))
    · intro j j1 j2
      exact decide_eq_false (fun z => by have := (rnum_lt hi k1 k2 j1 (by omega)).mp z; omega)
  · rw [if_neg e]
    apply zfst_no
    intro j j1 j2
    exact decide_eq_false (fun z => by have := (rnum_lt hi k1 k2 j1 (by omega)).mp z; omega)
theorem rnx_at (hi : rI s) {k : Int} (k1 : 0 ≤ k) (k2 : k < s 0) : rnx s (s (18 + 12 * k)) = if k + 1 < s 0 then s (18 + 12 * (k + 1)) else 0 := by
  unfold rnx
  rw [rnk_at hi k1 k2]
  by_cases e : k + 1 < s 0
  · rw [if_pos e, if_neg (by omega), if_pos e]
  · rw [if_neg e, if_pos rfl, if_neg e]
theorem rpl_zero (hi : rI s) : rpl s 0 = -1 := by
  have hr := rpl_R hi.1 0
  by_cases e : 0 ≤ rpl s 0
  · have h := rpl_val e
    have := hi.2.1 (rpl s 0) e h.2
    omega
  · omega
def rtf (s : Int → Int) : Int := if rfo s then (if 1 < (s (18 + 12 * rpl s (s 2) + 1) - s 3) then (s (18 + 12 * rpl s (s 2) + 1) - s 3) else 1) else -1
theorem rfo_iff (hi : rI s) : rfo s ↔ (0 ≤ rpl s (s 2) ∧ rpl s (s 2) + 1 < s 0 ∧ ¬ s (18 + 12 * rpl s (s 2) + 1) = -1) := by
  unfold rfo rfp
  by_cases e : s 2 = 0
  · rw [if_pos e]
    constructor
    · intro z; omega
    · intro z
      rw [e, rpl_zero hi] at z
      omega
  · rw [if_neg e]
    by_cases g : 0 ≤ rpl s (s 2)
    · have h := rpl_val g
      have hn := rnx_at hi g h.2
      rw [h.1] at hn
      have hf := (hi.2.1 _ g h.2).2.1
      rw [hn]
      by_cases q : rpl s (s 2) + 1 < s 0
      · rw [if_pos q]
        have := hi.2.1 (rpl s (s 2) + 1) (by omega) q
        constructor
        · intro z; exact ⟨g, q, by omega⟩
        · intro z; exact ⟨g, by omega, by omega⟩
      · rw [if_neg q]
        constructor
        · intro z; omega
        · intro z; omega
    · constructor
      · intro z; omega
      · intro z; omega
theorem cR_tf (hi : rI s) (hc : cR X s) : xtf X = rtf s := by
  have hr := rpl_R hi.1 (s 2)
  unfold xtf rtf
  rw [cR_ix hc, hc.1.2.2.1, cR_n hc, hc.1.2.2.2.1]
  by_cases g : 0 ≤ rpl s (s 2)
  · rw [(hc.2.2.1 _ g hr.2.1).2.1]
    by_cases q : rpl s (s 2) + 1 < s 0
    · rw [if_neg (by omega)]
      by_cases q2 : s (18 + 12 * rpl s (s 2) + 1) = -1
      · rw [if_pos q2, if_neg (fun z => ((rfo_iff hi).mp z).2.2 q2)]
      · rw [if_neg q2, if_pos ((rfo_iff hi).mpr ⟨g, q, q2⟩)]
    · rw [if_pos (by omega), if_neg (fun z => q ((rfo_iff hi).mp z).2.1)]
  · rw [if_pos (by omega), if_neg (fun z => g ((rfo_iff hi).mp z).1)]
theorem cR_ch (hi : rI s) (hc : cR X s) : ∀ (m n : Nat) (k : Int), 0 ≤ k → k < s 0 → (m : Int) = s 0 - 1 - k → m ≤ n → xchF X m k = rchF s n (s (18 + 12 * k))
  | 0, n, k, k1, k2, hm, hn => by
    show 0 = _
    cases n with
    | zero => rfl
    | succ n =>
      have hx := rnx_at hi k1 k2
      rw [if_neg (by omega)] at hx
      unfold rchF
      rw [hx, if_neg (by omega)]
  | m + 1, n, k, k1, k2, hm, hn => by
    cases n with
    | zero => omega
    | succ n =>
      have ih := cR_ch hi hc m n (k + 1) (by omega) (by omega) (by omega) (by omega)
      have hx := rnx_at hi k1 k2
      rw [if_pos (by omega)] at hx
      have hf := (hi.2.1 k k1 k2).2.1
      have hn1 := (hi.2.1 (k + 1) (by omega) (by omega)).1
      have hk := (hc.2.2.1 k k1 k2).2.1
      unfold rchF xchF
      rw [hx, rpl_uq hi k1 k2, hk]
      by_cases e : s (18 + 12 * k + 1) = -1
      · rw [if_pos e, if_neg (by omega)]
      · rw [if_neg e, if_pos (by omega), ih]
theorem cR_chain (hi : rI s) (hc : cR X s) {k : Int} (k1 : 0 ≤ k) (k2 : k < s 0) : xchF X (X 1 1 - 1 - k).toNat k = rchF s 12 (s (18 + 12 * k)) := by
  have h0 := hi.1.2
  rw [cR_n hc]
  exact cR_ch hi hc _ 12 k k1 k2 (by omega) (by omega)
/-- sums of two that differ in one place -/
theorem zsum_zero : ∀ n : Nat, zsum (fun _ => 0) n = 0
  | 0 => rfl
  | n + 1 => by
    show zsum (fun _ => 0) n + 0 = 0
    rw [zsum_zero n]; rfl
theorem zsum_one {f g : Int → Int} {c : Int} (hg : g c = f c + 1) (h : ∀ j : Int, ¬ j = c → g j = f j) : ∀ n : Nat, zsum g n = zsum f n + (if 0 ≤ c ∧ c < n then 1 else 0)
  | 0 => by
    rw [if_neg (by omega)]; rfl
  | n + 1 => by
    have ih := zsum_one hg h n
    show zsum g n + g n = zsum f n + f n + _
    rw [ih]
    by_cases e : (n : Int) = c
    · rw [e, hg, if_neg (by omega), if_pos (by omega)]
      omega
    · rw [h n e]
      by_cases q : 0 ≤ c ∧ c < (n : Int)
      · rw [if_pos q, if_pos (by omega)]; omega
      · rw [if_neg q, if_neg (by omega)]; omega
/-- what is given among the first m of the list -/
def rgm (s : Int → Int) (cue ch : Int) (m : Nat) : Int := zfst (fun k => s (162 + 4 * k) == cue && s (162 + 4 * k + 1) == ch) m
theorem rgm_in {cue ch : Int} {m : Nat} {k : Int} (k1 : 0 ≤ k) (k2 : k < m) (e1 : s (162 + 4 * k) = cue) (e2 : s (162 + 4 * k + 1) = ch) : 0 ≤ rgm s cue ch m := by
  unfold rgm
  rcases zfst_spec (fun k => s (162 + 4 * k) == cue && s (162 + 4 * k + 1) == ch) m with ⟨-, g⟩ | ⟨g, -⟩
  · have := g k k1 k2
    rw [e1, e2] at this
    simp at this
  · exact g
theorem rgm_out {cue ch : Int} {m : Nat} (h : 0 ≤ rgm s cue ch m) : ∃ k : Int, 0 ≤ k ∧ k < m ∧ s (162 + 4 * k) = cue ∧ s (162 + 4 * k + 1) = ch := by
  unfold rgm at h
  rcases zfst_spec (fun k => s (162 + 4 * k) == cue && s (162 + 4 * k + 1) == ch) m with ⟨g, -⟩ | ⟨g1, g2, g3, -⟩
  · omega
  · refine ⟨_, g1, g2, ?_⟩
    simpa using g3
theorem rco_m (hi : rI s) (cue : Int) : ∀ m : Nat, (m : Int) ≤ s 1 → zsum (fun c => bI (0 ≤ rgm s cue c m)) 12 = zsum (fun k => bI (s (162 + 4 * k) = cue)) m
  | 0, _ => by
    show _ = 0
    exact (zsum_congr 12 (fun c _ _ => bI_f (by show ¬ 0 ≤ (-1 : Int); decide))).trans (zsum_zero 12)
  | m + 1, hm => by
    have ih := rco_m hi cue m (by omega)
    show _ = zsum (fun k => bI (s (162 + 4 * k) = cue)) m + bI (s (162 + 4 * (m : Int)) = cue)
    rw [← ih]
    by_cases e : s (162 + 4 * (m : Int)) = cue
    · rw [bI_t e]
      have hl := hi.2.2.2.2.1 (m : Int) (by omega) (by omega)
      have z := zsum_one (f := fun c => bI (0 ≤ rgm s cue c m)) (g := fun c => bI (0 ≤ rgm s cue c (m + 1))) (c := s (162 + 4 * (m : Int) + 1)) ?_ ?_ 12
      · rw [z, if_pos (by omega)]
      · have h1 : bI (0 ≤ rgm s cue (s (162 + 4 * (m : Int) + 1)) (m + 1)) = 1 := bI_t (rgm_in (k := (m : Int)) (by omega) (by omega) e rfl)
        have h2 : bI (0 ≤ rgm s cue (s (162 + 4 * (m : Int) + 1)) m) = 0 := bI_f (fun q => by
          obtain ⟨k, k1, k2, k3, k4⟩ := rgm_out q
          exact hi.2.2.2.2.2.1 k (m : Int) k1 k2 (by omega) ⟨by rw [k3, e], k4⟩)
        show bI (0 ≤ rgm s cue (s (162 + 4 * (m : Int) + 1)) (m + 1)) = bI (0 ≤ rgm s cue (s (162 + 4 * (m : Int) + 1)) m) + 1
        rw [h1, h2]; rfl
      · intro j hj
        apply bI_iff
        constructor
        · intro q
          obtain ⟨k, k1, k2, k3, k4⟩ := rgm_out q
          by_cases e2 : k = (m : Int)
          · rw [e2] at k4; exact absurd k4.symm hj
          · exact rgm_in k1 (by omega) k3 k4
        · intro q
          obtain ⟨k, k1, k2, k3, k4⟩ := rgm_out q
          exact rgm_in k1 (by omega) k3 k4
    · rw [bI_f e, Int.add_zero]
      apply zsum_congr
      intro c c1 c2
      apply bI_iff
      constructor
      · intro q
        obtain ⟨k, k1, k2, k3, k4⟩ := rgm_out q
        by_cases e2 : k = (m : Int)
        · rw [e2] at k3; exact absurd k3 e
        · exact rgm_in k1 (by omega) k3 k4
      · intro q
        obtain ⟨k, k1, k2, k3, k4⟩ := rgm_out q
        exact rgm_in k1 (by omega) k3 k4
theorem cR_ic (hi : rI s) (hc : cR X s) {k : Int} (k1 : 0 ≤ k) (k2 : k < s 0) : xic X k = rco s (s (18 + 12 * k)) := by
  have h0 := hi.1.2.2.2.1
  have h := rco_m hi (s (18 + 12 * k)) (s 1).toNat (by omega)
  unfold rco
  rw [← h]
  unfold xic
  apply zsum_congr
  intro c c1 c2
  apply bI_iff
  have hn := cR_no hi hc k1 k2 c1 (show c ≤ 11 by omega)
  show (¬ X (7 + 5 * k + 3) c = -2) ↔ 0 ≤ rgv s (s (18 + 12 * k)) c
  rw [hn]
  omega
end rel
