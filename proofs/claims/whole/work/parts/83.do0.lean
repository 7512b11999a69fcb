/-! one call: what the law sees of it, and what is so afterwards -/
def gS (g : pz_H) (t : Int → Nat) (r : Nat → Nat) (o : Nat) : Prop := ∃ (u : Int → Nat) (B : Int → Int → Nat) (K : Int → Int → Int) (Z : Int → Int → Int → Int) (s lv : Int → Int) (A : Nat → Int → Int) (F : Nat → Int), gH g t u B r o K Z s lv A F ∧ gM K Z s lv A F
def dO (en : pz_Env) (W RM : Nat) (as : List Value) (pb : Int32 → Prop) (g : pz_H) (t : Int → Nat) (r : Nat → Nat) (o : Nat) : Prop :=
  ∃ (k : Int) (b : Int32) (g1 g2 : pz_H) (w : Nat → Int64) (f0 f1 f2 : List Value) (mc ms : Nat), ((mc = 0 ∧ ms = 0) ∨ (mc = 1 ∧ ms = 6)) ∧ (0 ≤ k ∧ k ≤ 3) ∧ g (t 0) = some (.inr (6, f0)) ∧
    pz_Cd en 10 W ((.ref (t 0) :: as) ++ [.ref o]) g mc ms (pz_ret (some (.int (zI k))) g1) ∧ g1 (r 0) = some (.inr (7, f1)) ∧
    pz_Cd en 9 RM (.ref (r 0) :: as) g1 0 0 (pz_ret (some (.int b)) g2) ∧ g2 (r 0) = some (.inr (7, f2)) ∧
    pz_Cd en 1 148 [.ref (r 0)] g2 0 0 (pz_ret (some (.int (zI k))) g2) ∧ g2 o = oC w ∧ (k = 0 → w 0 = b.toInt64) ∧ pb b ∧ gS g2 t r o
def dV (en : pz_Env) (M RM : Nat) (g : pz_H) (t : Int → Nat) (r : Nat → Nat) (o : Nat) : Prop :=
  ∃ (b : Int) (g1 g2 : pz_H) (f0 f1 : List Value), zR b ∧ g (t 0) = some (.inr (6, f0)) ∧ pz_Cd en 9 M [.ref (t 0)] g 0 0 (pz_ret (some (.int (zI b))) g1) ∧ g1 (r 0) = some (.inr (7, f1)) ∧
    pz_Cd en 9 RM [.ref (r 0)] g1 0 0 (pz_ret (some (.int (zI b))) g2) ∧ gS g2 t r o
section dos
variable {en : pz_Env} {g G1 : pz_H} {t u : Int → Nat} {B B2 : Int → Int → Nat} {r : Nat → Nat} {o : Nat} {K K2 : Int → Int → Int} {Z Z2 : Int → Int → Int → Int} {s lv s2 lv2 : Int → Int} {A A2 : Nat → Int → Int} {F F2 : Nat → Int} {a2 : Int → Nat} {X2 Y2 : Int → Int → Int} {W M RM lr mc ms : Nat} {as : List Value} {pb : Int32 → Prop}
theorem gH_r0 (h : gH g t u B r o K Z s lv A F) : ∃ f : List Value, g (r 0) = some (.inr (7, f)) := ⟨_, h.2.2.2.2.1 0 (by decide)⟩
theorem gH_t0 (h : gH g t u B r o K Z s lv A F) : ∃ f : List Value, g (t 0) = some (.inr (6, f)) := ⟨_, h.2.2.1 0 (by decide) (by decide)⟩
theorem gu_id {α : Type} (f : Int → α) (k : Int) : gu f k (f k) = f := by
  funext j
  unfold gu
  split
  · rename_i q; rw [q]
  · rfl
theorem gH_x (h : gH g t u B r o K Z s lv A F) : gH (sH (tH g t u K2) (B 0) (sq (B 0)) X2) t u B r o K2 (gu Z 0 X2) s lv A F := by
  have e := gH_c0 (K2 := K2) (X2 := X2) h (pA_rf (h.1.1.2.1 0 (by decide) (by decide)))
  rw [gu_id, gu_id] at e
  exact e
theorem gH_k (h : gH g t u B r o K Z s lv A F) : gH (sH (tH g t u K2) (B 0) (sq (B 0)) (Z 0)) t u B r o K2 Z s lv A F := by
  have e := gH_x (K2 := K2) (X2 := Z 0) h
  rw [gu_id] at e
  exact e
theorem gH_y (h : gH g t u B r o K Z s lv A F) {kb : Int} (k1 : 1 ≤ kb) (k2 : kb < 9) : gH (sH (tH (sH g (B kb) (sq (B kb)) Y2) t u K2) (B 0) (sq (B 0)) X2) t u B r o K2 (gu (gu Z kb Y2) 0 X2) s lv A F := by
  have e := gH_c (K2 := K2) (X2 := X2) (Y2 := Y2) h (pA_rf (h.1.1.2.1 0 (by decide) (by decide))) k1 k2
  rw [gu_id] at e
  exact e
theorem dO_fin (hmc : (mc = 0 ∧ ms = 0) ∨ (mc = 1 ∧ ms = 6)) {f0 : List Value} (h0 : g (t 0) = some (.inr (6, f0))) {k : Int} (hk : 0 ≤ k ∧ k ≤ 3) {b : Int32} {w : Nat → Int64} (hW : pz_Cd en 10 W ((.ref (t 0) :: as) ++ [.ref o]) g mc ms (pz_ret (some (.int (zI k))) G1)) (hG : gH G1 t u B r o K Z s lv A F) (ho : G1 o = oC w) (hR : ∀ h0 : pz_H, pz_Cd en lr RM (.ref (r 0) :: as) (rH h0 r s lv A F) 0 0 (pz_ret (some (.int b)) (rH h0 r s2 lv2 A2 F2))) (hl : lr ≤ 9) (h7 : F2 7 = k) (hw : k = 0 → w 0 = b.toInt64) (hM : gM K Z s2 lv2 A2 F2) (hp : pb b) : dO en W RM as pb g t r o := by
  have hR2 := hR G1
  rw [gH_rid hG] at hR2
  have hG2 : gH (rH G1 r s2 lv2 A2 F2) t u B r o K Z s2 lv2 A2 F2 := gH_r hG
  have hT := kX7_thrown (en := en) (h0 := G1) (s := s2) (lv := lv2) (A := A2) (F := F2) hG.1.1.2.2
  rw [h7] at hT
  obtain ⟨f1, hf1⟩ := gH_r0 hG
  obtain ⟨f2, hf2⟩ := gH_r0 hG2
  have ho2 : rH G1 r s2 lv2 A2 F2 o = oC w := (ov_ne (fun q q1 => hG.1.2.2.2.2.2.1 q q1)).trans ho
  exact ⟨k, b, G1, _, w, f0, f1, f2, mc, ms, hmc, hk, h0, hW, hf1, pz_Cd_mono en lr 9 hl _ _ _ _ _ _ _ (fun _ _ z => z) hR2, hf2, hT, ho2, hw, hp, u, B, K, Z, s2, lv2, A2, F2, hG2, hM⟩
theorem dO_k (hG : gH g t u B r o K Z s lv A F) (hW : wK en W M as) (hmc : (mc = 0 ∧ ms = 0) ∨ (mc = 1 ∧ ms = 6)) {v b : Int32} (hC : pz_Cd en 9 M (.ref (t 0) :: as) g mc ms (pz_ret (some (.int v)) G1)) (hG1 : gH G1 t u B2 r o K2 Z2 s lv A F) (hR : ∀ h0 : pz_H, pz_Cd en lr RM (.ref (r 0) :: as) (rH h0 r s lv A F) 0 0 (pz_ret (some (.int b)) (rH h0 r s2 lv2 A2 F2))) (hl : lr ≤ 9) (hv : v = b) (h7 : F2 7 = 0) (hM : gM K2 Z2 s2 lv2 A2 F2) (hp : pb b) : dO en W RM as pb g t r o := by
  obtain ⟨f0, hf0⟩ := gH_t0 hG
  obtain ⟨w, hw⟩ := hG1.2.2.2.2.2
  have h := hW (t 0) o g G1 v w f0 mc ms hf0 hw hC
  simp only [Nat.zero_add] at h
  refine dO_fin hmc hf0 (k := 0) (by decide) h (gH_o hG1) (if_pos rfl) hR hl h7 (fun _ => ?_) hM hp
  rw [hv]
  exact if_pos rfl
theorem dO_b (hG : gH g t u B r o K Z s lv A F) (hW : wB en W M as) (hmc : (mc = 0 ∧ ms = 0) ∨ (mc = 1 ∧ ms = 6)) {v b : Int} (hC : pz_Cd en 9 M (.ref (t 0) :: as) g mc ms (pz_ret (some (.int (zI v))) G1)) (hv1 : v = 0 ∨ v = 1) (hG1 : gH G1 t u B2 r o K2 Z2 s lv A F) (hR : ∀ h0 : pz_H, pz_Cd en lr RM (.ref (r 0) :: as) (rH h0 r s lv A F) 0 0 (pz_ret (some (.int (zI b))) (rH h0 r s2 lv2 A2 F2))) (hl : lr ≤ 9) (hv : v = b) (h7 : F2 7 = 0) (hM : gM K2 Z2 s2 lv2 A2 F2) (hp : pb (zI b)) : dO en W RM as pb g t r o := by
  obtain ⟨f0, hf0⟩ := gH_t0 hG
  obtain ⟨w, hw⟩ := hG1.2.2.2.2.2
  have h := hW (t 0) o g G1 v w f0 mc ms hv1 hf0 hw hC
  simp only [Nat.zero_add] at h
  refine dO_fin hmc hf0 (k := 0) (by decide) h (gH_o hG1) (if_pos rfl) hR hl h7 (fun _ => ?_) hM hp
  rw [hv]
  exact if_pos rfl
theorem dO_t (hG : gH g t u B r o K Z s lv A F) {E : String} {j : Int} (hW : wT en W M as E j) (hmc : (mc = 0 ∧ ms = 0) ∨ (mc = 1 ∧ ms = 6)) {b : Int32} (hC : pz_Cd en 9 M (.ref (t 0) :: as) g mc ms (pz_thr E G1)) (hG1 : gH G1 t u B2 r o K2 Z2 s lv A F) (hR : ∀ h0 : pz_H, pz_Cd en lr RM (.ref (r 0) :: as) (rH h0 r s lv A F) 0 0 (pz_ret (some (.int b)) (rH h0 r s2 lv2 A2 F2))) (hl : lr ≤ 9) (h7 : F2 7 = j) (hM : gM K2 Z2 s2 lv2 A2 F2) (hj : 1 ≤ j ∧ j ≤ 3) (hp : pb b) : dO en W RM as pb g t r o := by
  obtain ⟨f0, hf0⟩ := gH_t0 hG
  obtain ⟨w, hw⟩ := hG1.2.2.2.2.2
  have h := hW (t 0) o g G1 f0 mc ms hf0 hC
  simp only [Nat.zero_add] at h
  exact dO_fin hmc hf0 (k := j) (by omega) h hG1 hw hR hl h7 (fun z => by omega) hM hp
theorem dV_fin (hG : gH g t u B r o K Z s lv A F) {v b : Int} (hC : pz_Cd en 9 M [.ref (t 0)] g 0 0 (pz_ret (some (.int (zI v))) G1)) (hG1 : gH G1 t u B2 r o K2 Z2 s lv A F) (hR : ∀ h0 : pz_H, pz_Cd en lr RM [.ref (r 0)] (rH h0 r s lv A F) 0 0 (pz_ret (some (.int (zI b))) (rH h0 r s2 lv2 A2 F2))) (hl : lr ≤ 9) (hv : v = b) (hb : zR b) (hM : gM K2 Z2 s2 lv2 A2 F2) : dV en M RM g t r o := by
  obtain ⟨f0, hf0⟩ := gH_t0 hG
  have hR2 := hR G1
  rw [gH_rid hG1] at hR2
  have hG2 : gH (rH G1 r s2 lv2 A2 F2) t u B2 r o K2 Z2 s2 lv2 A2 F2 := gH_r hG1
  obtain ⟨f1, hf1⟩ := gH_r0 hG1
  subst hv
  exact ⟨v, G1, _, f0, f1, hb, hf0, hC, hf1, pz_Cd_mono en lr 9 hl _ _ _ _ _ _ _ (fun _ _ z => z) hR2, u, B2, K2, Z2, s2, lv2, A2, F2, hG2, hM⟩
/-- single cells -/
theorem cS_set {X : Int → Int → Int} (h : cS X s) {k m v : Int} (k1 : 0 ≤ k) (k2 : k < s 0) (m1 : 1 ≤ m) (m2 : m ≤ 3) (hR : zR v) (hv : m = 1 ∧ (v = -1 ∨ (1 ≤ v ∧ v ≤ 6000)) ∨ (m = 2 ∨ m = 3) ∧ (v = 0 ∨ v = 1)) : cS (zv X (7 + 5 * k) (zu (X (7 + 5 * k)) m v)) (zu s (18 + 12 * k + m) v) := by
  have hb := h.2.1.1.2
  exact ⟨zv_R h.1 hR, rI_set h.2.1 k1 k2 m1 (by omega) (by omega), cR_set h.2.1 h.2.2.1 k1 k2 m1 m2, by rw [zv_ne _ _ (by omega)]; exact h.2.2.2⟩
theorem cS_part {X : Int → Int → Int} (h : cS X s) {k p q v : Int} (k1 : 0 ≤ k) (k2 : k < s 0) (p1 : 0 ≤ p) (p2 : p ≤ 3) (q1 : q = 1 ∨ q = 2) (v1 : 0 ≤ v) (v2 : v ≤ 600) : cS (zv X (7 + 5 * k + q) (zu (X (7 + 5 * k + q)) p v)) (zu s (18 + 12 * k + 4 + 2 * p + (q - 1)) v) := by
  have hb := h.2.1.1.2
  have e : 18 + 12 * k + 4 + 2 * p + (q - 1) = 18 + 12 * k + (4 + 2 * p + (q - 1)) := by omega
  refine ⟨zv_R h.1 (by omega), ?_, cR_part h.2.1 h.2.2.1 k1 k2 p1 p2 q1, by rw [zv_ne _ _ (by omega)]; exact h.2.2.2⟩
  rw [e]
  exact rI_set h.2.1 k1 k2 (by omega) (by omega) (by omega)
theorem cS_home {X : Int → Int → Int} (h : cS X s) {c v : Int} (c1 : 0 ≤ c) (c2 : c ≤ 11) (v1 : 0 ≤ v) (v2 : v ≤ 100) : cS (zv X 3 (zu (X 3) c v)) (zu s (6 + c) v) :=
  ⟨zv_R h.1 (by omega), rI_home h.2.1 c1 c2 v1 v2, cR_home h.2.1 h.2.2.1 c1 c2, by rw [zv_ne _ _ (by decide)]; exact h.2.2.2⟩
theorem bI_one {v : Int} (h : v = 0 ∨ v = 1) : bI (v = 1) = v := by
  rcases h with e | e
  · rw [e]; rfl
  · rw [e]; rfl
/-- other changes of the numbers -/
theorem gM_K (h : gM K Z s lv A F) (hR : ∀ i j, zR (K2 i j)) (k1 : K2 1 = K 1) (k4 : K2 4 = A2 6) (k04 : K2 0 4 = F 3) (k05 : K2 0 5 = F2 6) (k06 : K2 0 6 = F2 13) (k31 : K2 3 1 = F2 10) (r6 : 0 ≤ F2 6 ∧ F2 6 ≤ 5) (r13 : -1 ≤ F2 13 ∧ F2 13 ≤ 60) (r10 : 0 ≤ F2 10 ∧ F2 10 ≤ 60) (f3 : F2 3 = F 3) (f5 : F2 5 = F 5) (hlv : ∀ i, zR (lv2 i)) (a2 : ∀ i, zR (A2 2 i)) (a3 : A2 3 = A 3) (a4 : A2 4 = A 4) (a6 : ∀ i, 0 ≤ A2 6 i ∧ A2 6 i < 65536) (a8 : ∀ i, 0 ≤ A2 8 i ∧ A2 8 i < 10000) : gM K2 Z s lv2 A2 F2 := by
  obtain ⟨⟨m1, m2, m3, m4, m5⟩, m6, m7, ⟨e4, e31, e05, e06, e04, e12⟩, ⟨n1, n2⟩, m8, m9, p1, p2, p3, p4, p5⟩ := h
  unfold gM hiS
  rw [k1, f3, f5, a3, a4]
  exact ⟨⟨hR, m2, m3, r10, a6⟩, m6, m7, ⟨k4, k31, k05, k06, k04, e12⟩, ⟨r6, r13⟩, m8, m9, hlv, a2, p3, p4, a8⟩
theorem gM_0 (h : gM K Z s lv A F) (hs : cS X2 s2) (e : F2 3 = F 3 ∧ F2 5 = 0 ∧ F2 6 = F 6 ∧ F2 10 = F 10 ∧ F2 13 = F 13) : gM (kF K) (gu Z 0 X2) s2 lv A F2 := by
  obtain ⟨⟨m1, m2, m3, m4, m5⟩, m6, m7, ⟨e4, e31, e05, e06, e04, e12⟩, ⟨n1, n2⟩, m8, m9, p1⟩ := h
  have k0 : kF K 0 = K 0 := zv_ne _ _ (by decide)
  have k3 : kF K 3 = K 3 := zv_ne _ _ (by decide)
  have k4 : kF K 4 = K 4 := zv_ne _ _ (by decide)
  have k11 : kF K 1 1 = K 1 1 := by
    unfold kF
    rw [zv_at, zu_ne _ (by decide)]
  have k12 : kF K 1 2 = 0 := by
    unfold kF
    rw [zv_at, zu_at]
  have z0 : gu Z 0 X2 0 = X2 := gu_at _ _ _
  have z1 : gu Z 0 X2 1 = Z 1 := gu_ne _ _ (by decide)
  unfold gM hiS
  rw [e.1, e.2.1, e.2.2.1, e.2.2.2.1, e.2.2.2.2, k0, k3, k4, k11, k12, z0, z1]
  refine ⟨⟨fun i j => ?_, m2, by decide, m4, m5⟩, hs, fun k i j => ?_, ⟨e4, e31, e05, e06, e04, rfl⟩, ⟨n1, n2⟩, m8, fun i i1 i2 => by omega, p1⟩
  · unfold kF
    rw [zv_app]
    split
    · rw [zu_app]
      split
      · decide
      · exact m1 _ _
    · exact m1 _ _
  · by_cases q : k = 0
    · subst q; rw [z0]; exact hs.1 i j
    · rw [gu_ne _ _ q]; exact m7 k i j
theorem gM_undo (h : gM K Z s lv A F) (h5 : ¬ F 5 = 0) (e : F2 3 = F 3 ∧ F2 5 = F 5 - 1 ∧ F2 6 = F 6 ∧ F2 10 = F 10 ∧ F2 13 = F 13) : gM (kT K) (gu Z 0 (xcp (Z 0) (Z (2 + (K 1 1 + 7 - 1) % 7)))) (zcpy (A 4) s (462 * (F 5 - 1)) 0 462) lv A F2 := by
  obtain ⟨⟨m1, m2, m3, m4, m5⟩, m6, m7, ⟨e4, e31, e05, e06, e04, e12⟩, ⟨n1, n2⟩, m8, m9, p1, p2, p3, p4, p5⟩ := h
  have hu := m9 (F 5 - 1) (by omega) (by omega)
  rw [show 2 + (K 1 1 + 7 - F 5 + (F 5 - 1)) % 7 = 2 + (K 1 1 + 7 - 1) % 7 by omega] at hu
  have hs : cS (xcp (Z 0) (Z (2 + (K 1 1 + 7 - 1) % 7))) (zcpy (A 4) s (462 * (F 5 - 1)) 0 462) := cS_ext (cS_cp (m7 0) hu) (zcpy_R p4 m6.2.1.1.1) (fun i i1 i2 => by
    show zcpy (A 4) s (462 * (F 5 - 1)) 0 462 i = A 4 (462 * (F 5 - 1) + i)
    unfold zcpy
    rw [if_pos (by omega), Int.sub_zero])
  have k0 : kT K 0 = K 0 := zv_ne _ _ (by decide)
  have k3 : kT K 3 = K 3 := zv_ne _ _ (by decide)
  have k4 : kT K 4 = K 4 := zv_ne _ _ (by decide)
  have k11 : kT K 1 1 = (K 1 1 + 7 - 1) % 7 := by
    unfold kT
    rw [zv_at, zu_ne _ (by decide), zu_at]
  have k12 : kT K 1 2 = F 5 - 1 := by
    unfold kT
    rw [zv_at, zu_at, e12]
  have z0 : ∀ X2, gu Z 0 X2 0 = X2 := fun _ => gu_at _ _ _
  have z1 : ∀ X2, gu Z 0 X2 1 = Z 1 := fun _ => gu_ne _ _ (by decide)
  unfold gM hiS
  rw [e.1, e.2.1, e.2.2.1, e.2.2.2.1, e.2.2.2.2, k0, k3, k4, k11, k12, z0, z1]
  refine ⟨⟨fun i j => ?_, by omega, by omega, m4, m5⟩, hs, fun k i j => ?_, ⟨e4, e31, e05, e06, e04, rfl⟩, ⟨n1, n2⟩, m8, fun i i1 i2 => ?_, p1, p2, p3, p4, p5⟩
  · unfold kT
    rw [zv_app]
    split
    · rw [zu_app, zu_app]
      have := m1 1 j
      repeat' split
      all_goals omega
    · exact m1 _ _
  · by_cases q : k = 0
    · subst q; rw [z0]; exact hs.1 i j
    · rw [gu_ne _ _ q]; exact m7 k i j
  · rw [gu_ne _ _ (by omega), show 2 + ((K 1 1 + 7 - 1) % 7 + 7 - (F 5 - 1) + i) % 7 = 2 + (K 1 1 + 7 - F 5 + i) % 7 by omega]
    exact m9 i i1 (by omega)
theorem gM_save (h : gM K Z s lv A F) (e : F2 3 = 1 ∧ F2 5 = F 5 ∧ F2 6 = F 6 ∧ F2 10 = F 10 ∧ F2 13 = F 13) : gM (zv K 0 (zu (K 0) 4 1)) (gu (gu Z 1 (xcp (Z 1) (Z 0))) 0 (Z 0)) s lv (va_up A 3 (zcpy s (A 3) 0 0 462)) F2 := by
  obtain ⟨⟨m1, m2, m3, m4, m5⟩, m6, m7, ⟨e4, e31, e05, e06, e04, e12⟩, ⟨n1, n2⟩, m8, m9, p1, p2, p3, p4, p5⟩ := h
  have k1 : zv K 0 (zu (K 0) 4 1) 1 = K 1 := zv_ne _ _ (by decide)
  have k3 : zv K 0 (zu (K 0) 4 1) 3 = K 3 := zv_ne _ _ (by decide)
  have k4 : zv K 0 (zu (K 0) 4 1) 4 = K 4 := zv_ne _ _ (by decide)
  have k0 : ∀ j, ¬ j = 4 → zv K 0 (zu (K 0) 4 1) 0 j = K 0 j := fun j hj => by rw [zv_at, zu_ne _ hj]
  have k04 : zv K 0 (zu (K 0) 4 1) 0 4 = 1 := by rw [zv_at, zu_at]
  have z0 : gu (gu Z 1 (xcp (Z 1) (Z 0))) 0 (Z 0) 0 = Z 0 := gu_at _ _ _
  have z1 : gu (gu Z 1 (xcp (Z 1) (Z 0))) 0 (Z 0) 1 = xcp (Z 1) (Z 0) := by rw [gu_ne _ _ (by decide), gu_at]
  have zn : ∀ k : Int, ¬ k = 0 → ¬ k = 1 → gu (gu Z 1 (xcp (Z 1) (Z 0))) 0 (Z 0) k = Z k := fun k q1 q2 => by rw [gu_ne _ _ q1, gu_ne _ _ q2]
  have hcp : cS (xcp (Z 1) (Z 0)) s := cS_cp (m7 1) m6
  have a3 : va_up A 3 (zcpy s (A 3) 0 0 462) 3 = zcpy s (A 3) 0 0 462 := rfl
  have a4 : va_up A 3 (zcpy s (A 3) 0 0 462) 4 = A 4 := rfl
  have a6 : va_up A 3 (zcpy s (A 3) 0 0 462) 6 = A 6 := rfl
  have a8 : va_up A 3 (zcpy s (A 3) 0 0 462) 8 = A 8 := rfl
  have a2 : va_up A 3 (zcpy s (A 3) 0 0 462) 2 = A 2 := rfl
  have h3 : ∀ i, zR (zcpy s (A 3) 0 0 462 i) := zcpy_R m6.2.1.1.1 p3
  have hs3 : cS (xcp (Z 1) (Z 0)) (zcpy s (A 3) 0 0 462) := cS_ext hcp h3 (fun i i1 i2 => by rw [zcpy0, if_pos ⟨i1, i2⟩])
  unfold gM hiS
  rw [e.1, e.2.1, e.2.2.1, e.2.2.2.1, e.2.2.2.2, k1, k3, k4, k04, k0 5 (by decide), k0 6 (by decide), z0, z1, a2, a3, a4, a6, a8]
  refine ⟨⟨fun i j => ?_, m2, m3, m4, m5⟩, m6, fun k i j => ?_, ⟨e4, e31, e05, e06, rfl, e12⟩, ⟨n1, n2⟩, Or.inr ⟨rfl, hs3⟩, fun i i1 i2 => ?_, p1, p2, h3, p4, p5⟩
  · rw [zv_app]
    split
    · rw [zu_app]
      split
      · decide
      · exact m1 _ _
    · exact m1 _ _
  · by_cases q : k = 0
    · subst q; rw [z0]; exact m7 0 i j
    · by_cases q2 : k = 1
      · subst q2; rw [z1]; exact hcp.1 i j
      · rw [zn k q q2]; exact m7 k i j
  · rw [zn _ (by omega) (by omega)]
    exact m9 i i1 i2
theorem gM_rb (h : gM K Z s lv A F) (hY : ∀ i j, zR (Y2 i j)) (hs : cS X2 s2) : gM K (gu (gu Z (2 + K 1 1) Y2) 0 X2) s2 lv A F := by
  obtain ⟨⟨m1, m2, m3, m4, m5⟩, m6, m7, m10, m11, m8, m9, p1⟩ := h
  have z0 : gu (gu Z (2 + K 1 1) Y2) 0 X2 0 = X2 := gu_at _ _ _
  have z1 : gu (gu Z (2 + K 1 1) Y2) 0 X2 1 = Z 1 := by rw [gu_ne _ _ (by decide), gu_ne _ _ (by omega)]
  have zn : ∀ k : Int, ¬ k = 0 → ¬ k = 2 + K 1 1 → gu (gu Z (2 + K 1 1) Y2) 0 X2 k = Z k := fun k q1 q2 => by rw [gu_ne _ _ q1, gu_ne _ _ q2]
  unfold gM hiS
  rw [z0, z1]
  refine ⟨⟨m1, m2, m3, m4, m5⟩, hs, fun k i j => ?_, m10, m11, m8, fun i i1 i2 => ?_, p1⟩
  · by_cases q : k = 0
    · subst q; rw [z0]; exact hs.1 i j
    · by_cases q2 : k = 2 + K 1 1
      · subst q2; rw [gu_ne _ _ (by omega), gu_at]; exact hY i j
      · rw [zn k q q2]; exact m7 k i j
  · rw [zn _ (by omega) (by omega)]
    exact m9 i i1 i2
end dos
