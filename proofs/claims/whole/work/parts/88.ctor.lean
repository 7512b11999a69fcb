/-! new objects: what a constructor lays -/
def bz {α : Type} (f : Int → α) (n : Int) (c : Int → α) : Int → α := fun j => if j < n then f j else c (j - n)
theorem bz_lo {α : Type} {f c : Int → α} {n j : Int} (h : j < n) : bz f n c j = f j := if_pos h
theorem bz_hi {α : Type} {f c : Int → α} {n j : Int} (h : ¬ j < n) : bz f n c j = c (j - n) := if_neg h
def nw (n : Int) (cell : (Int → Nat) → Int → pz_E) (q : Nat) (h h2 : pz_H) : Prop := ∃ b : Int → Nat, b 0 = q ∧ (∀ i j : Int, 0 ≤ i → i < n → 0 ≤ j → j < n → b i = b j → i = j) ∧ (∀ j : Int, 1 ≤ j → j < n → h (b j) = none) ∧ (∀ j : Int, 0 ≤ j → j < n → h2 (b j) = some (cell b j)) ∧ (∀ x : Nat, ¬ h x = none → ¬ x = q → h2 x = h x)
def al (h g : pz_H) (q : Nat) (n : Int) (b : Int → Nat) (cl : Int → pz_E) : Prop := b 0 = q ∧ (∀ i j : Int, 0 ≤ i → i < n → 0 ≤ j → j < n → b i = b j → i = j) ∧ (∀ j : Int, 1 ≤ j → j < n → h (b j) = none) ∧ (∀ j : Int, 1 ≤ j → j < n → g (b j) = some (cl j)) ∧ (∀ x : Nat, ¬ h x = none → ¬ x = q → g x = h x)
section al
variable {h g g2 : pz_H} {q : Nat} {n m : Int} {b c : Int → Nat} {cl e : Int → pz_E}
theorem al_0 : al h h q 1 (fun _ => q) cl := ⟨rfl, fun i j i1 i2 j1 j2 _ => by omega, fun j j1 j2 => by omega, fun j j1 j2 => by omega, fun _ _ _ => rfl⟩
theorem al_app (H : al h g q n b cl) (n1 : 1 ≤ n) (hg : ¬ g q = none) (ci : ∀ i j : Int, 0 ≤ i → i < m → 0 ≤ j → j < m → c i = c j → i = j) (cf : ∀ j : Int, 0 ≤ j → j < m → g (c j) = none) (cc : ∀ j : Int, 0 ≤ j → j < m → g2 (c j) = some (e j)) (fr : ∀ x : Nat, ¬ g x = none → ¬ x = q → g2 x = g x) : al h g2 q (n + m) (bz b n c) (bz cl n e) := by
  obtain ⟨h1, h2, h3, h4, h5⟩ := H
  have nb : ∀ i : Int, 0 ≤ i → i < n → ¬ g (b i) = none := fun i i1 i2 => by
    by_cases z : i = 0
    · subst z; rw [h1]; exact hg
    · rw [h4 i (by omega) i2]; simp
  have bq : ∀ i : Int, 1 ≤ i → i < n → ¬ b i = q := fun i i1 i2 z => by
    have := h2 i 0 (by omega) i2 (by decide) (by omega) (z.trans h1.symm)
    omega
  refine ⟨?_, fun i j i1 i2 j1 j2 z => ?_, fun j j1 j2 => ?_, fun j j1 j2 => ?_, fun x x1 x2 => ?_⟩
  · rw [bz_lo (by omega)]; exact h1
  · by_cases p : i < n
    · rw [bz_lo p] at z
      by_cases p2 : j < n
      · rw [bz_lo p2] at z; exact h2 i j i1 p j1 p2 z
      · rw [bz_hi p2] at z
        exact absurd (cf (j - n) (by omega) (by omega)) (by rw [← z]; exact nb i i1 p)
    · rw [bz_hi p] at z
      by_cases p2 : j < n
      · rw [bz_lo p2] at z
        exact absurd (cf (i - n) (by omega) (by omega)) (by rw [z]; exact nb j j1 p2)
      · rw [bz_hi p2] at z
        have := ci (i - n) (j - n) (by omega) (by omega) (by omega) (by omega) z
        omega
  · by_cases p : j < n
    · rw [bz_lo p]; exact h3 j j1 p
    · rw [bz_hi p]
      have z := cf (j - n) (by omega) (by omega)
      by_cases y : h (c (j - n)) = none
      · exact y
      · by_cases w : c (j - n) = q
        · rw [w] at z; exact absurd z hg
        · rw [h5 _ y w] at z; exact z
  · by_cases p : j < n
    · rw [bz_lo p, bz_lo p, fr _ (nb j (by omega) p) (bq j j1 p)]; exact h4 j j1 p
    · rw [bz_hi p, bz_hi p]; exact cc _ (by omega) (by omega)
  · have y := h5 x x1 x2
    rw [fr x (by rw [y]; exact x1) x2, y]
theorem al_set (H : al h g q n b cl) {j : Int} {v : pz_E} (j1 : 1 ≤ j) (j2 : j < n) (fr : ∀ x : Nat, ¬ x = b j → g2 x = g x) (hv : g2 (b j) = some v) : al h g2 q n b (gu cl j v) := by
  obtain ⟨h1, h2, h3, h4, h5⟩ := H
  refine ⟨h1, h2, h3, fun i i1 i2 => ?_, fun x x1 x2 => ?_⟩
  · by_cases z : i = j
    · subst z; rw [gu_at]; exact hv
    · rw [gu_ne _ _ z, fr _ (fun y => z (h2 i j (by omega) i2 (by omega) j2 y))]; exact h4 i i1 i2
  · rw [fr x (fun y => x1 (by rw [y]; exact h3 j j1 j2))]; exact h5 x x1 x2
theorem al_q (H : al h g q n b cl) (fr : ∀ x : Nat, ¬ x = q → g2 x = g x) : al h g2 q n b cl := by
  obtain ⟨h1, h2, h3, h4, h5⟩ := H
  refine ⟨h1, h2, h3, fun i i1 i2 => ?_, fun x x1 x2 => ?_⟩
  · rw [fr _ (fun y => by have := h2 i 0 (by omega) i2 (by decide) (by omega) (y.trans h1.symm); omega)]; exact h4 i i1 i2
  · rw [fr x x2]; exact h5 x x1 x2
theorem al_nw {cell : (Int → Nat) → Int → pz_E} (H : al h g q n b cl) (hq : g q = some (cell b 0)) (hc : ∀ j : Int, 1 ≤ j → j < n → cl j = cell b j) : nw n cell q h g := by
  obtain ⟨h1, h2, h3, h4, h5⟩ := H
  refine ⟨b, h1, h2, h3, fun j j1 j2 => ?_, h5⟩
  by_cases z : j = 0
  · subst z; rw [h1]; exact hq
  · rw [h4 j (by omega) j2, hc j (by omega) j2]
end al
section zn
variable {d : Nat} {en : pz_Env} {own : Nat} {cc : ByteArray} {nL : Nat} {rt : Option FieldType} {hh : List (Nat × Nat × Nat × Nat)} {ini : Bool} {Q : pz_Q} {pc : Nat} {ls : List (Option Value)} {st : List Value} {h g : pz_H} {nc ns : Nat} {q ci k ix N : Nat} {fs : List Value} {m n : Int} {b : Int → Nat} {cl : Int → pz_E}
theorem zn_put {p : Nat} {g0 : pz_H} (hd2 : decode cc pc = .ok (.putfield ix, 3)) (hf : pz_fld own ix = some (ci, k)) (hfin : ini = true ∧ ci = own) (hq : g0 q = some (.inr (ci, fs))) (hl : k < fs.length) (hn : narrow (pz_ty ci k) (.ref p) = .ref p) (hfit : fits (pz_ty ci k) (.ref p) = true) (kk : ∀ g2 : pz_H, g2 q = some (.inr (ci, fs.set k (.ref p))) → (∀ x : Nat, ¬ x = q → g2 x = g0 x) → pz_WP d en (pz_Cd en (d - 1)) own cc nL rt hh ini Q (pc + 3) ls st g2 nc ns) : pz_WP d en (pz_Cd en (d - 1)) own cc nL rt hh ini Q pc ls (.ref p :: .ref q :: st) g0 nc ns :=
  pr_putf hd2 hf (Or.inr hfin) hq hl hn hfit rfl (kk _ (if_pos rfl) (fun x hx => if_neg hx))
theorem zn_ai (hd1 : decode cc pc = .ok (.newarray .int, 2)) (hd2 : decode cc (pc + 2) = .ok (.putfield ix, 3)) (hf : pz_fld own ix = some (ci, k)) (hfin : ini = true ∧ ci = own) (hm : m = (N : Int)) (hN : N ≤ 100000) (hq : g q = some (.inr (ci, fs))) (hl : k < fs.length) (hn : ∀ p, narrow (pz_ty ci k) (.ref p) = .ref p) (hfit : ∀ p, fits (pz_ty ci k) (.ref p) = true) (H : al h g q n b cl) (n1 : 1 ≤ n) (kk : ∀ (p : Nat) (g2 : pz_H), al h g2 q (n + 1) (bz b n (fun _ => p)) (bz cl n (fun _ => .inl (0, N, .inl (zf (fun _ => 0))))) → g2 q = some (.inr (ci, fs.set k (.ref p))) → pz_WP d en (pz_Cd en (d - 1)) own cc nL rt hh ini Q (pc + 5) ls st g2 nc ns) : pz_WP d en (pz_Cd en (d - 1)) own cc nL rt hh ini Q pc ls (.int (zI m) :: .ref q :: st) g (nc + 1) (ns + N) := by
  refine pr_newai (N := N) hd1 (by rw [hm, zI_toInt (by omega)]) hN (fun p hp => ?_)
  have hne : ¬ q = p := fun z => by rw [z, hp] at hq; cases hq
  refine zn_put hd2 hf hfin (g0 := va_up g p _) ((if_neg hne).trans hq) hl (hn p) (hfit p) (fun g2 e2 f2 => ?_)
  refine kk p g2 (al_app H n1 (by rw [hq]; simp) (fun i j i1 i2 j1 j2 _ => by omega) (fun _ _ _ => hp) (fun _ _ _ => ?_) (fun x x1 x2 => ?_)) e2
  · rw [f2 p (fun z => hne z.symm)]
    exact if_pos rfl
  · rw [f2 x x2]
    exact if_neg (fun z => x1 (by rw [z]; exact hp))
theorem zn_ac (hd1 : decode cc pc = .ok (.newarray .char, 2)) (hd2 : decode cc (pc + 2) = .ok (.putfield ix, 3)) (hf : pz_fld own ix = some (ci, k)) (hfin : ini = true ∧ ci = own) (hm : m = (N : Int)) (hN : N ≤ 100000) (hq : g q = some (.inr (ci, fs))) (hl : k < fs.length) (hn : ∀ p, narrow (pz_ty ci k) (.ref p) = .ref p) (hfit : ∀ p, fits (pz_ty ci k) (.ref p) = true) (H : al h g q n b cl) (n1 : 1 ≤ n) (kk : ∀ (p : Nat) (g2 : pz_H), al h g2 q (n + 1) (bz b n (fun _ => p)) (bz cl n (fun _ => .inl (1, N, .inl (zf (fun _ => 0))))) → g2 q = some (.inr (ci, fs.set k (.ref p))) → pz_WP d en (pz_Cd en (d - 1)) own cc nL rt hh ini Q (pc + 5) ls st g2 nc ns) : pz_WP d en (pz_Cd en (d - 1)) own cc nL rt hh ini Q pc ls (.int (zI m) :: .ref q :: st) g (nc + 1) (ns + N) := by
  refine pr_newac (N := N) hd1 (by rw [hm, zI_toInt (by omega)]) hN (fun p hp => ?_)
  have hne : ¬ q = p := fun z => by rw [z, hp] at hq; cases hq
  refine zn_put hd2 hf hfin (g0 := va_up g p _) ((if_neg hne).trans hq) hl (hn p) (hfit p) (fun g2 e2 f2 => ?_)
  refine kk p g2 (al_app H n1 (by rw [hq]; simp) (fun i j i1 i2 j1 j2 _ => by omega) (fun _ _ _ => hp) (fun _ _ _ => ?_) (fun x x1 x2 => ?_)) e2
  · rw [f2 p (fun z => hne z.symm)]
    exact if_pos rfl
  · rw [f2 x x2]
    exact if_neg (fun z => x1 (by rw [z]; exact hp))
theorem zn_aq {iq cq kq : Nat} (hd1 : decode cc pc = .ok (.anewarray iq, 3)) (hcq : pz_cls own iq = some cq) (hkq : (kq = 3 ∧ cq = 0) ∨ (kq = 4 ∧ cq = 5)) (hd2 : decode cc (pc + 3) = .ok (.putfield ix, 3)) (hf : pz_fld own ix = some (ci, k)) (hfin : ini = true ∧ ci = own) (hm : m = (N : Int)) (hN : N ≤ 100000) (hq : g q = some (.inr (ci, fs))) (hl : k < fs.length) (hn : ∀ p, narrow (pz_ty ci k) (.ref p) = .ref p) (hfit : ∀ p, fits (pz_ty ci k) (.ref p) = true) (H : al h g q n b cl) (n1 : 1 ≤ n) (kk : ∀ (p : Nat) (g2 : pz_H), al h g2 q (n + 1) (bz b n (fun _ => p)) (bz cl n (fun _ => .inl (kq, N, .inr (.inr (.inr (.inr (fun _ => none))))))) → g2 q = some (.inr (ci, fs.set k (.ref p))) → pz_WP d en (pz_Cd en (d - 1)) own cc nL rt hh ini Q (pc + 6) ls st g2 nc ns) : pz_WP d en (pz_Cd en (d - 1)) own cc nL rt hh ini Q pc ls (.int (zI m) :: .ref q :: st) g (nc + 1) (ns + N) := by
  refine pr_newaq (N := N) hd1 hcq hkq (by rw [hm, zI_toInt (by omega)]) hN (fun p hp => ?_)
  have hne : ¬ q = p := fun z => by rw [z, hp] at hq; cases hq
  refine zn_put hd2 hf hfin (g0 := va_up g p _) ((if_neg hne).trans hq) hl (hn p) (hfit p) (fun g2 e2 f2 => ?_)
  refine kk p g2 (al_app H n1 (by rw [hq]; simp) (fun i j i1 i2 j1 j2 _ => by omega) (fun _ _ _ => hp) (fun _ _ _ => ?_) (fun x x1 x2 => ?_)) e2
  · rw [f2 p (fun z => hne z.symm)]
    exact if_pos rfl
  · rw [f2 x x2]
    exact if_neg (fun z => x1 (by rw [z]; exact hp))
/-- a new object and its constructor; the new cells -/
theorem zn_new {in_ ic cj l y mc ms : Nat} {rest : List Value} {yn : MethodName} {bs : ByteArray} {mL mo : Nat} {ps : List Nat} {cell : (Int → Nat) → Int → pz_E} (hd0 : decode cc pc = .ok (.new in_, 3)) (hd3 : decode cc (pc + 3) = .ok (.dup, 1)) (hd4 : decode cc (pc + 4) = .ok (.invokespecial ic, 3)) (hcl : pz_cls own in_ = some cj) (hN : pz_N cj = N) (hm : pz_nest own ic = some y ∨ pz_mth own ic = some y) (ht : pz_tab y = some (yn, bs, mL, none, mo, 0, 2, [], ps)) (hl : l ≤ d - 1) (hr : rest.length ≤ 2) (hC : ∀ (p : Nat) (g1 : pz_H), g1 p = some (.inr (cj, pz_blank cj)) → pz_Cd en l y [.ref p] g1 mc ms (fun oc g2 => oc = .inl none ∧ nw m cell p g1 g2)) (m1 : 1 ≤ m) (kk : ∀ (c : Int → Nat) (g3 : pz_H), (∀ i j : Int, 0 ≤ i → i < m → 0 ≤ j → j < m → c i = c j → i = j) → (∀ j : Int, 0 ≤ j → j < m → g (c j) = none) → (∀ j : Int, 0 ≤ j → j < m → g3 (c j) = some (cell c j)) → (∀ x : Nat, ¬ g x = none → g3 x = g x) → pz_WP d en (pz_Cd en (d - 1)) own cc nL rt hh ini Q (pc + 7) ls (.ref (c 0) :: rest) g3 nc ns) : pz_WP d en (pz_Cd en (d - 1)) own cc nL rt hh ini Q pc ls rest g (nc + mc + 1) (ns + ms + N) := by
  refine pr_new (N := N) hd0 hcl hN (fun p hp => ?_)
  refine pr_dup hd3 rfl ?_
  have e1 : va_up g p (some (.inr (cj, pz_blank cj)) : Option pz_E) p = some (.inr (cj, pz_blank cj)) := if_pos rfl
  have hK := pz_Cd_mono en l (d - 1) hl _ _ _ _ _ _ _ (fun _ _ z => z) (hC p _ e1)
  have fin : ∀ (oc : pz_O) (g3 : pz_H), (oc = .inl none ∧ nw m cell p (va_up g p (some (.inr (cj, pz_blank cj)))) g3) → oc = .inl none ∧ pz_WP d en (pz_Cd en (d - 1)) own cc nL rt hh ini Q (pc + 4 + 3) ls (.ref p :: rest) g3 nc ns := fun oc g3 hz => by
    refine ⟨hz.1, ?_⟩
    obtain ⟨c, c0, c1, c2, c3, c4⟩ := hz.2
    have f1 : ∀ x : Nat, ¬ x = p → va_up g p (some (.inr (cj, pz_blank cj)) : Option pz_E) x = g x := fun x hx => if_neg hx
    have r := kk c g3 c1 (fun j j1 j2 => by
      by_cases z : j = 0
      · subst z; rw [c0]; exact hp
      · have w := c2 j (by omega) j2
        rw [f1 _ (fun y => by have := c1 j 0 j1 j2 (by decide) (by omega) (y.trans c0.symm); omega)] at w
        exact w) c3 (fun x x1 => by
      have hx : ¬ x = p := fun y => x1 (by rw [y]; exact hp)
      rw [c4 x (by rw [f1 x hx]; exact x1) hx, f1 x hx])
    rw [c0] at r
    exact r
  rcases hm with hm | hm
  · exact pr_calln (as := []) (rest := .ref p :: rest) hd4 hm ht rfl rfl (by simp; omega) (pz_Cd_mono en (d - 1) (d - 1) (Nat.le_refl _)) hK fin
  · exact pr_calli (as := []) (rest := .ref p :: rest) hd4 hm ht rfl rfl (by simp; omega) (pz_Cd_mono en (d - 1) (d - 1) (Nat.le_refl _)) hK fin
theorem zn_ob {in_ ic cj l y mc ms : Nat} {yn : MethodName} {bs : ByteArray} {mL mo : Nat} {ps : List Nat} {cell : (Int → Nat) → Int → pz_E} (hd0 : decode cc pc = .ok (.new in_, 3)) (hd3 : decode cc (pc + 3) = .ok (.dup, 1)) (hd4 : decode cc (pc + 4) = .ok (.invokespecial ic, 3)) (hd7 : decode cc (pc + 7) = .ok (.putfield ix, 3)) (hcl : pz_cls own in_ = some cj) (hN : pz_N cj = N) (hm : pz_nest own ic = some y ∨ pz_mth own ic = some y) (ht : pz_tab y = some (yn, bs, mL, none, mo, 0, 2, [], ps)) (hl : l ≤ d - 1) (hC : ∀ (p : Nat) (g1 : pz_H), g1 p = some (.inr (cj, pz_blank cj)) → pz_Cd en l y [.ref p] g1 mc ms (fun oc g2 => oc = .inl none ∧ nw m cell p g1 g2)) (m1 : 1 ≤ m) (hf : pz_fld own ix = some (ci, k)) (hfin : ini = true ∧ ci = own) (hq : g q = some (.inr (ci, fs))) (hlen : k < fs.length) (hn : ∀ p, narrow (pz_ty ci k) (.ref p) = .ref p) (hfit : ∀ p, fits (pz_ty ci k) (.ref p) = true) (H : al h g q n b cl) (n1 : 1 ≤ n) (kk : ∀ (c : Int → Nat) (g3 : pz_H), al h g3 q (n + m) (bz b n c) (bz cl n (cell c)) → g3 q = some (.inr (ci, fs.set k (.ref (c 0)))) → pz_WP d en (pz_Cd en (d - 1)) own cc nL rt hh ini Q (pc + 10) ls [] g3 nc ns) : pz_WP d en (pz_Cd en (d - 1)) own cc nL rt hh ini Q pc ls [.ref q] g (nc + mc + 1) (ns + ms + N) := by
  have gq : ¬ g q = none := by rw [hq]; simp
  refine zn_new hd0 hd3 hd4 hcl hN hm ht hl (by simp) hC m1 (fun c g3 c1 c2 c3 c4 => ?_)
  refine zn_put hd7 hf hfin ((c4 q gq).trans hq) hlen (hn _) (hfit _) (fun g4 e4 f4 => ?_)
  refine kk c g4 (al_app H n1 gq c1 c2 (fun j j1 j2 => ?_) (fun x x1 x2 => ?_)) e4
  · rw [f4 _ (fun z => gq (by rw [← z]; exact c2 j j1 j2))]; exact c3 j j1 j2
  · rw [f4 x x2]; exact c4 x x1
end zn
