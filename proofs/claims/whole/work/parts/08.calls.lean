/-! calls, ends, the methods by depth -/
theorem pz_Rep_kept {D : va_G} {kA : Nat → ClassId} {a0 : Nat} {h : pz_H} {H H1 : Heap} (hR : pz_Rep D kA a0 h H) (hk : ∀ q : Nat, q < H.size → H1[q]? = H[q]?) : pz_Rep D kA a0 h H1 := by
  obtain ⟨L, f, hP, hD, hh⟩ := hR
  exact ⟨L, f, hP.kept (fun k x hx => hk x.1 ((hP k x hx).lt)), hD, hh⟩
def pz_Qc (D : va_G) (kA : Nat → ClassId) (a0 : Nat) (Q : pz_Q) : Array Value → State → Outcome → State → Prop := fun _ st o t => (∃ (v : Option Value) (h2 : pz_H), o = .returned v ∧ Q (.inl v) h2 ∧ pz_Rep D kA a0 h2 t.heap) ∧ va_F (pz_A a0) st t
def pz_XC (D : va_G) (kA : Nat → ClassId) (a0 : Nat) (Q : pz_Q) : String → State → State → Prop := fun E st t => (∃ h2 : pz_H, Q (.inr E) h2 ∧ pz_Rep D kA a0 h2 t.heap) ∧ va_F (pz_A a0) st t
def pz_B (D : va_G) (kA : Nat → ClassId) (en : pz_Env) (a0 : Nat) (h : pz_H) : State → Prop := fun U => pz_S D kA en a0 U U.heap ∧ pz_Rep D kA a0 h U.heap
def pz_Snd (l : Launch) (D : va_G) (kA : Nat → ClassId) (en : pz_Env) (a0 d : Nat) (C : pz_C) : Prop := ∀ (y : Nat) (yn : MethodName) (bs : ByteArray) (mL : Nat) (mr : Option FieldType) (mo np kd : Nat) (mh : List (Nat × Nat × Nat × Nat)) (ps : List Nat), pz_tab y = some (yn, bs, mL, mr, mo, np, kd, mh, ps) → ∀ (as : List Value) (h : pz_H) (mc ms : Nat) (Q : pz_Q), C y as h mc ms Q → vx_Met l yn (pz_word (yn, bs, mL, mr, mo, np, kd, mh, ps) :: pz_G) ({ frames := d, cells := mc, slots := ms, locals := 36 * d }) (va_Pc as (pz_B D kA en a0 h)) (pz_Qc D kA a0 Q) (pz_XC D kA a0 Q) mc ms (pz_A a0)
theorem pz_blind {D : va_G} {kA : Nat → ClassId} {en : pz_Env} {a0 : Nat} {h : pz_H} {as : List Value} : FrameBlind (va_Pc as (pz_B D kA en a0 h)) := by
  intro a U g mk hq
  exact ⟨hq.1, pz_S_move hq.2.1 (State.WarmedH.refl U) (fun _ _ _ => rfl) (Nat.le_refl _), hq.2.2⟩
theorem pz_pre {D : va_G} {kA : Nat → ClassId} {en : pz_Env} {a0 : Nat} {h : pz_H} {as : List Value} {s : State} {H : Heap} {locs : List Loc} (hS0 : pz_S D kA en a0 s s.heap) (hR : pz_Rep D kA a0 h H) (hV : va_S (pz_A a0) s.heap H locs) : PreS s H (va_Pc as (pz_B D kA en a0 h)) as := by
  refine ⟨pz_blind, fun U hU hW => ⟨rfl, ?_, by rw [hU]; exact hR⟩⟩
  rw [hU]
  exact pz_S_move hS0 hW hV.2.1 hV.1
theorem pz_met {l : Launch} {y : MethodName} {ws : List Cond} {rm : Room} {Pc : Array Value → State → Prop} {Qc : Array Value → State → Outcome → State → Prop} {XC : String → State → State → Prop} {mc ms : Nat} {free : Addr → Prop} (h : vx_Met l y ws rm Pc Qc XC mc ms free) (hx : ∀ E st t, ¬ XC E st t) : Met l y ws rm Pc Qc mc ms free := by
  intro p e h1 h2 h3 s m args below h4 h5 h6 h7
  obtain ⟨n, o, g1, g2, g3, g4⟩ := h p e h1 h2 h3 s m args below h4 h5 h6 h7
  refine ⟨n, o, g1, g2, g3, ?_⟩
  rcases g4 with g4 | ⟨q, -, E, ce, L, g4, -⟩
  · exact g4
  · exact absurd g4 (hx _ _ _)
/-- which row of a table takes the exception -/
theorem pz_hnd_spec {own : Nat} {pc : Nat} {E : String} {tgt : Nat} : ∀ (hh : List (Nat × Nat × Nat × Nat)), pz_hnd own hh pc E = some tgt → ∃ (pre : List (Nat × Nat × Nat × Nat)) (x : Nat × Nat × Nat × Nat) (suf : List (Nat × Nat × Nat × Nat)), hh = pre ++ x :: suf ∧ (x.1 ≤ pc ∧ pc < x.2.1) ∧ pz_cat own x.2.2.2 = some E ∧ x.2.2.1 = tgt ∧ ∀ z ∈ pre, ¬ (z.1 ≤ pc ∧ pc < z.2.1) ∨ ∃ nm, pz_cat own z.2.2.2 = some nm ∧ nm ≠ E := by
  intro hh
  induction hh with
  | nil => intro h; cases h
  | cons q r ih =>
    intro h
    unfold pz_hnd at h
    by_cases h1 : q.1 ≤ pc ∧ pc < q.2.1
    · rw [if_pos h1] at h
      cases hc : pz_cat own q.2.2.2 with
      | none => rw [hc] at h; cases h
      | some nm =>
        rw [hc] at h
        by_cases h2 : nm = E
        · simp only [h2, if_true] at h
          exact ⟨[], q, r, rfl, h1, by rw [hc, h2], Option.some.inj h, fun z hz => nomatch hz⟩
        · simp only [h2, if_false] at h
          obtain ⟨pre, x, suf, e1, e2, e3, e4, e5⟩ := ih h
          refine ⟨q :: pre, x, suf, by rw [e1]; rfl, e2, e3, e4, fun z hz => ?_⟩
          rcases List.mem_cons.mp hz with rfl | hz
          · exact Or.inr ⟨nm, hc, h2⟩
          · exact e5 z hz
    · rw [if_neg h1] at h
      obtain ⟨pre, x, suf, e1, e2, e3, e4, e5⟩ := ih h
      refine ⟨q :: pre, x, suf, by rw [e1]; rfl, e2, e3, e4, fun z hz => ?_⟩
      rcases List.mem_cons.mp hz with rfl | hz
      · exact Or.inl h1
      · exact e5 z hz
theorem pz_cat_Es : ∀ e ∈ pz_catL, e.2.1 ∈ pz_Es := by decide +kernel
theorem pz_cat_spec {own c : Nat} {nm : String} (h : pz_cat own c = some nm) : Cond.classLink (pz_R own) c nm ∈ lw_tbl ∧ c ≠ 0 ∧ nm ∈ pz_Es := by
  unfold pz_cat at h
  by_cases ho : own = 8
  · subst ho
    rw [if_pos rfl] at h
    cases hf : pz_catL.find? (fun e => e.1 == c) with
    | none => rw [hf] at h; cases h
    | some e =>
      rw [hf] at h
      have hm := List.mem_of_find?_eq_some hf
      have hp := List.find?_some hf
      simp only [beq_iff_eq] at hp
      simp only [Option.map_some, Option.some.injEq] at h
      obtain ⟨g1, g2⟩ := pz_catL_ok e hm
      have g3 := pz_cat_Es e hm
      rw [h] at g1 g3
      rw [hp] at g1 g2
      exact ⟨List.mem_of_getElem? g1, g2, g3⟩
  · rw [if_neg ho] at h; cases h
section PZC
variable {p : Program} {l : Launch} {e : Env} {R : Room} {s : State} {m : MethodId} {args : Array Value} {below : List Frame} {meth : Method} {c : Code} {D : va_G} {kA : Nat → ClassId} {en : pz_Env} {a0 mc0 ms0 : Nat} {Qf : State → Prop}
variable {d : Nat} {C : pz_C} {own : Nat} {cc : ByteArray} {nL : Nat} {rt : Option FieldType} {hh : List (Nat × Nat × Nat × Nat)} {ini : Bool} {Q : pz_Q}
/-- behind a call that returns or throws -/
theorem pz_after (X : pz_Cx p l R s m args meth c D kA en a0 mc0 ms0 d own cc nL rt hh ini) {pc nc ns mc ms : Nat} {ls : List (Option Value)} {la : Array Slot} {st rest : List Value} {H : Heap} {locs : List Loc} {cells slots : Nat} {a : Array Value} (hL : pz_Lr nL ls la) (hV : va_S (pz_A a0) s.heap H locs) (h1 : cells + (nc + mc) ≤ mc0) (h2 : slots + (ns + ms) ≤ ms0)
    (hr : vx_Run p l e R s m args below meth c H locs cells slots mc ms (F0 m pc la st) rest (pz_Qc D kA a0 (fun o h2 => match o with | .inl v => pz_PW p l e R s m args below meth c D kA a0 nL mc0 ms0 Qf (pc + 3) ls (v.toList ++ rest) h2 nc ns | .inr E => ∃ tgt, pz_hnd own hh pc E = some tgt ∧ ∀ q, pz_PW p l e R s m args below meth c D kA a0 nL mc0 ms0 Qf tgt ls [.ref q] h2 nc ns) a) (pz_XC D kA a0 (fun o h2 => match o with | .inl v => pz_PW p l e R s m args below meth c D kA a0 nL mc0 ms0 Qf (pc + 3) ls (v.toList ++ rest) h2 nc ns | .inr E => ∃ tgt, pz_hnd own hh pc E = some tgt ∧ ∀ q, pz_PW p l e R s m args below meth c D kA a0 nL mc0 ms0 Qf tgt ls [.ref q] h2 nc ns)) (pz_A a0)) : W p l e R s m args below meth c H locs cells slots Qf (F0 m pc la st) := by
  obtain ⟨hx, hb, hml, hown, hts, hS0, hmc, hms, hfr, hlo, hret, hlk, hini, hex, hlT⟩ := X
  intro T hT X
  rcases hr T hT X with ⟨v, st₀, t, T', L, h0, X', hLl, e1, e2, ⟨⟨v', h', hv, hq, hrep⟩, hF⟩, stp⟩ | ⟨q, st₀, t, T', L, E, ce, h0, X', hLl, e1, e2, ⟨⟨h', hq, hrep⟩, hF⟩, hce, hcv, hcl, stp⟩
  · cases hv
    obtain ⟨k1, k2, k3⟩ := vx_keep h0 e1 hV (fun _ _ z => z) (fun _ z => z) hLl hF
    obtain ⟨t2, a1, b1⟩ := hq T'.heap (locs ++ L) (cells + mc) (slots + ms) la hL (by rw [e1]; exact hrep) k3 (by omega) (by omega) T' rfl X'
    exact ⟨t2, stp t2 a1, b1⟩
  · obtain ⟨k1, k2, k3⟩ := vx_keep h0 e1 hV (fun _ _ z => z) (fun _ z => z) hLl hF
    obtain ⟨tgt, htg, hq⟩ := hq
    rcases hex with ⟨-, h8⟩ | hex
    · rw [h8] at htg
      simp [pz_hnd] at htg
    obtain ⟨pre, x, suf, e3, e4, e5, e6, e7⟩ := pz_hnd_spec hh htg
    obtain ⟨c1, c2, c3⟩ := pz_cat_spec e5
    have kw : vx_W p l e R s m args below meth c T'.heap (locs ++ L) (cells + mc) (slots + ms) Qf (F0 m pc la rest) q := by
      refine vx_catch (own := pz_R own) (name := E) (E := E) (ce := ce) hown (pre.map fun q => ⟨q.1, q.2.1, q.2.2.1, q.2.2.2⟩) ⟨x.1, x.2.1, x.2.2.1, x.2.2.2⟩ (suf.map fun q => ⟨q.1, q.2.1, q.2.2.1, q.2.2.2⟩) (by rw [hex, e3]; simp [tableOf]) ?_ ?_ c2 (hts _ (pz_Gc c1)) (va_Nw.use rfl (hS0.2.2.2.2.1 E c3)) (by rw [e1]; exact hce) hcv hcl ?_
      · intro z hz
        obtain ⟨z0, hz0, rfl⟩ := List.mem_map.mp hz
        rcases e7 z0 hz0 with g | ⟨nm, g1, g2⟩
        · exact Or.inl (by simp [covers, g]; omega)
        · obtain ⟨d1, d2, d3⟩ := pz_cat_spec g1
          exact Or.inr ⟨d2, nm, hts _ (pz_Gc d1), hS0.2.2.2.1 E c3 nm d3 (fun z => g2 z.symm)⟩
      · simp [covers, e4]
      · show W p l e R s m args below meth c T'.heap (locs ++ L) (cells + mc) (slots + ms) Qf (F0 m x.2.2.1 la [.ref q])
        rw [e6]
        exact hq q T'.heap (locs ++ L) (cells + mc) (slots + ms) la hL (by rw [e1]; exact hrep) k3 (by omega) (by omega)
    obtain ⟨t2, a1, b1⟩ := kw T' rfl X'
    exact ⟨t2, stp.trans a1, b1⟩
/-- behind a constructor's call -/
theorem pz_after0 (X : pz_Cx p l R s m args meth c D kA en a0 mc0 ms0 d own cc nL rt hh ini) {pc nc ns mc ms : Nat} {ls : List (Option Value)} {la : Array Slot} {st rest : List Value} {H : Heap} {locs : List Loc} {cells slots : Nat} {a : Array Value} (hL : pz_Lr nL ls la) (hV : va_S (pz_A a0) s.heap H locs) (h1 : cells + (nc + mc) ≤ mc0) (h2 : slots + (ns + ms) ≤ ms0)
    (hr : va_Run p l e R s m args below meth c H locs cells slots mc ms (F0 m pc la st) rest (pz_Qc D kA a0 (fun o h2 => o = .inl none ∧ pz_PW p l e R s m args below meth c D kA a0 nL mc0 ms0 Qf (pc + 3) ls rest h2 nc ns) a) (pz_A a0)) : W p l e R s m args below meth c H locs cells slots Qf (F0 m pc la st) := by
  intro T hT X
  obtain ⟨v, st₀, t, T', L, h0, X', hLl, e1, e2, ⟨⟨v', h', hv, ⟨hv2, hq⟩, hrep⟩, hF⟩, stp⟩ := hr T hT X
  cases hv
  cases hv2
  obtain ⟨k1, k2, k3⟩ := vx_keep h0 e1 hV (fun _ _ z => z) (fun _ z => z) hLl hF
  obtain ⟨t2, a1, b1⟩ := hq T'.heap (locs ++ L) (cells + mc) (slots + ms) la hL (by rw [e1]; exact hrep) k3 (by omega) (by omega) T' rfl X'
  exact ⟨t2, stp t2 a1, b1⟩
theorem pz_s_callv (hC : pz_Snd l D kA en a0 (d - 1) C) (hd1 : 1 ≤ d) (X : pz_Cx p l R s m args meth c D kA en a0 mc0 ms0 d own cc nL rt hh ini) : pz_r_callv d en C own cc nL rt hh ini Q (pz_PW p l e R s m args below meth c D kA a0 nL mc0 ms0 Qf) := by
  intro pc ls st h nc ns ix b as rest fs mc ms y yn bs mL mr mo np ps hd hm ht hst hlen hb0 hr hmo k H locs cells slots la hL hR hV h1 h2
  have X0 := X
  obtain ⟨hx, hb, hml, hown, hts, hS0, hmc, hms, hfr, hlo, hret, hlk, hini, hex, hlT⟩ := X
  have hM := hC _ _ _ _ _ _ _ _ _ _ ht _ _ _ _ _ k
  obtain ⟨m1, m2, m3, m4, m5, m6, m7, m8, m9, m10, m11, m12, m13⟩ := pz_tabL_ok _ (pz_tab_mem ht)
  have hcat := pz_cat8 hr
  obtain ⟨me, hme, hlk2⟩ := pz_mth_spec hm
  rw [ht] at hme
  cases hme
  have hG2 : GoodIn pz_G (pz_word (yn, bs, mL, mr, mo, np, 1, [], ps) :: pz_G) := fun w hw => by
    rcases List.mem_cons.mp hw with rfl | hw
    · exact pz_G_good _ (pz_Gin m9 m10)
    · exact pz_G_good _ hw
  have hpar : ∀ sig, parseMethodDescriptor yn.desc = some sig → np = sig.parameters.length := fun sig hs => by
    rw [hs] at m4
    exact (Option.some.inj m4).symm
  obtain ⟨L, f, hP, hD, hh2⟩ := id hR
  obtain ⟨q0, hq0⟩ := pz_Rep_at (D := D) (a0 := a0) hh2 hb0
  subst hst
  have hP2 := pz_pre (as := .ref b :: as) hS0 hR hV
  refine pz_after X0 hL hV h1 h2 (vx_runV (C := yn.cls) ⟨hx, hb, hml, hown, hts⟩ hM ⟨⟨rfl, rfl, by show d - 1 + 1 ≤ R.frames; omega, by show 8 + (mL + 11) + 36 * (d - 1) ≤ R.locals; have m2' : mL ≤ 17 := m2; omega, pay_in hts hG2, List.mem_cons_self, hts _ (pz_Gin m9 m10), hts _ (pz_Gin m13 rfl), ⟨m5, m6⟩, hpar, hts _ hlk2⟩, hts _ (pz_Gin m11 rfl), hts _ (pz_Gin (m12 rfl) rfl)⟩ ⟨hP2.1, ?_, hP2.2⟩ rfl hlen hL.1 rfl (lv_room hcat) hd ⟨by omega, by omega⟩)
  have hrc := va_recv hS0.1 hP (pz_cl mo hmo) hq0
  have m3' : yn.cls = pz_R mo := m3
  rw [m3']
  exact hrc
theorem pz_s_calls (hC : pz_Snd l D kA en a0 (d - 1) C) (hd1 : 1 ≤ d) (X : pz_Cx p l R s m args meth c D kA en a0 mc0 ms0 d own cc nL rt hh ini) : pz_r_calls d en C own cc nL rt hh ini Q (pz_PW p l e R s m args below meth c D kA a0 nL mc0 ms0 Qf) := by
  intro pc ls st h nc ns ix as rest mc ms y yn bs mL mr mo np mh ps hd hm ht hst hlen hr k H locs cells slots la hL hR hV h1 h2
  have X0 := X
  obtain ⟨hx, hb, hml, hown, hts, hS0, hmc, hms, hfr, hlo, hret, hlk, hini, hex, hlT⟩ := X
  have hM := hC _ _ _ _ _ _ _ _ _ _ ht _ _ _ _ _ k
  obtain ⟨m1, m2, m3, m4, m5, m6, m7, m8, m9, m10, m11, m12, m13⟩ := pz_tabL_ok _ (pz_tab_mem ht)
  have hcat := pz_cat8 hr
  obtain ⟨me, hme, hlk2⟩ := pz_mth_spec hm
  rw [ht] at hme
  cases hme
  have hG2 : GoodIn pz_G (pz_word (yn, bs, mL, mr, mo, np, 0, mh, ps) :: pz_G) := fun w hw => by
    rcases List.mem_cons.mp hw with rfl | hw
    · exact pz_G_good _ (pz_Gin m9 m10)
    · exact pz_G_good _ hw
  have hpar : ∀ sig, parseMethodDescriptor yn.desc = some sig → np = sig.parameters.length := fun sig hs => by
    rw [hs] at m4
    exact (Option.some.inj m4).symm
  subst hst
  have hP2 := pz_pre (as := as) hS0 hR hV
  cases mh with
  | nil => exact pz_after X0 hL hV h1 h2 (vx_runS ⟨hx, hb, hml, hown, hts⟩ hM ⟨⟨rfl, rfl, by show d - 1 + 1 ≤ R.frames; omega, by show 8 + (mL + 11) + 36 * (d - 1) ≤ R.locals; have m2' : mL ≤ 17 := m2; omega, pay_in hts hG2, List.mem_cons_self, hts _ (pz_Gin m9 m10), hts _ (pz_Gin m13 rfl), ⟨m5, m6⟩, hpar, hts _ hlk2⟩, hts _ (pz_Gin m11 rfl)⟩ hP2 rfl hlen hL.1 rfl (lv_room hcat) hd ⟨by omega, by omega⟩)
  | cons q r => exact pz_after X0 hL hV h1 h2 (vx_runSX (hh := q :: r) ⟨hx, hb, hml, hown, hts⟩ hM ⟨⟨rfl, rfl, by show d - 1 + 1 ≤ R.frames; omega, by show 8 + (mL + 11) + 36 * (d - 1) ≤ R.locals; have m2' : mL ≤ 17 := m2; omega, pay_in hts hG2, List.mem_cons_self⟩, hts _ (pz_Gin m9 m10), hts _ (pz_Gin m13 rfl), ⟨m5, m6⟩, hpar, hts _ hlk2, hts _ (pz_Gin m11 rfl)⟩ hP2 rfl hlen hL.1 rfl (lv_room hcat) hd ⟨by omega, by omega⟩)
theorem pz_s_calli (hC : pz_Snd l D kA en a0 (d - 1) C) (hd1 : 1 ≤ d) (X : pz_Cx p l R s m args meth c D kA en a0 mc0 ms0 d own cc nL rt hh ini) : pz_r_calli d en C own cc nL rt hh ini Q (pz_PW p l e R s m args below meth c D kA a0 nL mc0 ms0 Qf) := by
  intro pc ls st h nc ns ix b as rest mc ms y yn bs mL mo np ps hd hm ht hst hlen hr k H locs cells slots la hL hR hV h1 h2
  have X0 := X
  obtain ⟨hx, hb, hml, hown, hts, hS0, hmc, hms, hfr, hlo, hret, hlk, hini, hex, hlT⟩ := X
  have hM := hC _ _ _ _ _ _ _ _ _ _ ht _ _ _ _ _ k
  obtain ⟨m1, m2, m3, m4, m5, m6, m7, m8, m9, m10, m11, m12, m13⟩ := pz_tabL_ok _ (pz_tab_mem ht)
  have hcat := pz_cat8 hr
  obtain ⟨me, hme, hlk2⟩ := pz_mth_spec hm
  rw [ht] at hme
  cases hme
  have hG2 : GoodIn pz_G (pz_word (yn, bs, mL, none, mo, np, 2, [], ps) :: pz_G) := fun w hw => by
    rcases List.mem_cons.mp hw with rfl | hw
    · exact pz_G_good _ (pz_Gin m9 m10)
    · exact pz_G_good _ hw
  have hpar : ∀ sig, parseMethodDescriptor yn.desc = some sig → np = sig.parameters.length := fun sig hs => by
    rw [hs] at m4
    exact (Option.some.inj m4).symm
  subst hst
  have hP2 := pz_pre (as := .ref b :: as) hS0 hR hV
  exact pz_after0 X0 hL hV h1 h2 (va_runI ⟨hx, hb, hml, hown, hts⟩ (pz_met hM (fun E st t hq => by obtain ⟨⟨h9, ⟨h8, -⟩, -⟩, -⟩ := hq; cases h8)) ⟨⟨rfl, rfl, by show d - 1 + 1 ≤ R.frames; omega, by show 8 + (mL + 11) + 36 * (d - 1) ≤ R.locals; have m2' : mL ≤ 17 := m2; omega, pay_in hts hG2, List.mem_cons_self, hts _ (pz_Gin m9 m10), hts _ (pz_Gin m13 rfl), ⟨m5, m6⟩, hpar, hts _ hlk2⟩, m7.mp rfl, hts _ (pz_Gin m11 rfl)⟩ hP2 rfl hlen hL.1 rfl (lv_room hcat) hd ⟨by omega, by omega⟩)
theorem pz_s_calln (hC : pz_Snd l D kA en a0 (d - 1) C) (hd1 : 1 ≤ d) (X : pz_Cx p l R s m args meth c D kA en a0 mc0 ms0 d own cc nL rt hh ini) : pz_r_calln d en C own cc nL rt hh ini Q (pz_PW p l e R s m args below meth c D kA a0 nL mc0 ms0 Qf) := by
  intro pc ls st h nc ns ix b as rest mc ms y yn bs mL mo np ps hd hm ht hst hlen hr k H locs cells slots la hL hR hV h1 h2
  have X0 := X
  obtain ⟨hx, hb, hml, hown, hts, hS0, hmc, hms, hfr, hlo, hret, hlk, hini, hex, hlT⟩ := X
  have hM := hC _ _ _ _ _ _ _ _ _ _ ht _ _ _ _ _ k
  obtain ⟨m1, m2, m3, m4, m5, m6, m7, m8, m9, m10, m11, m12, m13⟩ := pz_tabL_ok _ (pz_tab_mem ht)
  have hcat := pz_cat8 hr
  obtain ⟨ne, hne, n1, n2, n3⟩ := pz_nest_spec hm
  subst n1; subst n2; subst n3
  have hlk2 := hS0.2.1 ne hne _ ht
  have hG2 : GoodIn pz_G (pz_word (yn, bs, mL, none, mo, np, 2, [], ps) :: pz_G) := fun w hw => by
    rcases List.mem_cons.mp hw with rfl | hw
    · exact pz_G_good _ (pz_Gin m9 m10)
    · exact pz_G_good _ hw
  have hpar : ∀ sig, parseMethodDescriptor yn.desc = some sig → np = sig.parameters.length := fun sig hs => by
    rw [hs] at m4
    exact (Option.some.inj m4).symm
  subst hst
  have hP2 := pz_pre (as := .ref b :: as) hS0 hR hV
  exact pz_after0 X0 hL hV h1 h2 (va_runIN (host := "CueStack") ⟨hx, hb, hml, hown, hts⟩ (pz_met hM (fun E st t hq => by obtain ⟨⟨h9, ⟨h8, -⟩, -⟩, -⟩ := hq; cases h8)) ⟨⟨⟨rfl, rfl, by show d - 1 + 1 ≤ R.frames; omega, by show 8 + (mL + 11) + 36 * (d - 1) ≤ R.locals; have m2' : mL ≤ 17 := m2; omega, pay_in hts hG2, List.mem_cons_self⟩, hts _ (pz_Gin m9 m10), hts _ (pz_Gin m13 rfl), ⟨m5, m6⟩, hpar, va_Nw.use rfl hlk2⟩, m7.mp rfl, hts _ (pz_Gin m11 rfl)⟩ hP2 rfl hlen hL.1 rfl (lv_room hcat) hd ⟨by omega, by omega⟩)
theorem pz_s_iret (X : pz_Cx p l R s m args meth c D kA en a0 mc0 ms0 d own cc nL rt hh ini) : pz_r_iret d en C own cc nL rt hh ini Q (pz_PW p l e R s m args below meth c D kA a0 nL mc0 ms0 (vx_MQ below (pz_Qc D kA a0 Q) (pz_XC D kA a0 Q) args s mc0 ms0 (pz_A a0))) := by
  intro pc ls st h nc ns v ty hd hr hn hq H locs cells slots la hL hR hV h1 h2
  obtain ⟨hx, hb, hml, hown, hts, hS0, hmc, hms, hfr, hlo, hret, hlk, hini, hex, hlT⟩ := X
  exact vx_ret (W.widen (k := mc0) (n := ms0) (by omega) (by omega) (W.zret hx hb (hret.trans hr) hn (fun t ht hW => ⟨⟨_, h, rfl, hq, by rw [ht]; exact hR⟩, hV.F ht⟩) (fun q hq => hV.2.2 q hq) hd hlk))
theorem pz_s_vret (X : pz_Cx p l R s m args meth c D kA en a0 mc0 ms0 d own cc nL rt hh ini) : pz_r_vret d en C own cc nL rt hh ini Q (pz_PW p l e R s m args below meth c D kA a0 nL mc0 ms0 (vx_MQ below (pz_Qc D kA a0 Q) (pz_XC D kA a0 Q) args s mc0 ms0 (pz_A a0))) := by
  intro pc ls st h nc ns hd hr hq H locs cells slots la hL hR hV h1 h2
  obtain ⟨hx, hb, hml, hown, hts, hS0, hmc, hms, hfr, hlo, hret, hlk, hini, hex, hlT⟩ := X
  exact vx_ret (W.widen (k := mc0) (n := ms0) (by omega) (by omega) (W.vret hx hb (hret.trans hr) (fun t ht hW => ⟨⟨_, h, rfl, hq, by rw [ht]; exact hR⟩, hV.F ht⟩) (fun q hq => hV.2.2 q hq) hd hlk))
theorem pz_s_aret (X : pz_Cx p l R s m args meth c D kA en a0 mc0 ms0 d own cc nL rt hh ini) : pz_r_aret d en C own cc nL rt hh ini Q (pz_PW p l e R s m args below meth c D kA a0 nL mc0 ms0 (vx_MQ below (pz_Qc D kA a0 Q) (pz_XC D kA a0 Q) args s mc0 ms0 (pz_A a0))) := by
  intro pc ls st h nc ns a ty hd hr hq H locs cells slots la hL hR hV h1 h2
  obtain ⟨hx, hb, hml, hown, hts, hS0, hmc, hms, hfr, hlo, hret, hlk, hini, hex, hlT⟩ := X
  exact vx_ret (W.widen (k := mc0) (n := ms0) (by omega) (by omega) (W.aret hx hb (hret.trans hr) (Or.inr ⟨_, rfl⟩) (Or.inr ⟨_, rfl⟩) (fun t ht hW => ⟨⟨_, h, rfl, hq, by rw [ht]; exact hR⟩, hV.F ht⟩) (fun q hq => hV.2.2 q hq) hd hlk))
theorem pz_s_dret (X : pz_Cx p l R s m args meth c D kA en a0 mc0 ms0 d own cc nL rt hh ini) : pz_r_dret d en C own cc nL rt hh ini Q (pz_PW p l e R s m args below meth c D kA a0 nL mc0 ms0 (vx_MQ below (pz_Qc D kA a0 Q) (pz_XC D kA a0 Q) args s mc0 ms0 (pz_A a0))) := by
  intro pc ls st h nc ns v hd hr hq H locs cells slots la hL hR hV h1 h2
  obtain ⟨hx, hb, hml, hown, hts, hS0, hmc, hms, hfr, hlo, hret, hlk, hini, hex, hlT⟩ := X
  exact vx_ret (W.widen (k := mc0) (n := ms0) (by omega) (by omega) (W.dret hx hb (hret.trans hr) (fun t ht hW => ⟨⟨_, h, rfl, hq, by rw [ht]; exact hR⟩, hV.F ht⟩) (fun q hq => hV.2.2 q hq) hd hlk))
theorem pz_s_thr (X : pz_Cx p l R s m args meth c D kA en a0 mc0 ms0 d own cc nL rt hh ini) : pz_r_thr d en C own cc nL rt hh ini Q (pz_PW p l e R s m args below meth c D kA a0 nL mc0 ms0 (vx_MQ below (pz_Qc D kA a0 Q) (pz_XC D kA a0 Q) args s mc0 ms0 (pz_A a0))) := by
  intro pc ls st h nc ns ik ic is E tx d0 d3 d4 d6 d9 he hs ho hd6 hhh hq H locs cells slots la hL hR hV h1 h2
  obtain ⟨hx, hb, hml, hown, hts, hS0, hmc, hms, hfr, hlo, hret, hlk, hini, hex, hlT⟩ := X
  subst ho
  subst hhh
  replace hex : c.exceptionTable.toList = tableOf [] := by
    rcases hex with ⟨h8, -⟩ | hex
    · exact absurd h8 (by decide)
    · exact hex
  obtain ⟨ex, hm, x1, x2, x3, x4⟩ := pz_exc_spec he
  subst x2; subst x3; subst x4
  obtain ⟨o1, o2, o3, o4, o5⟩ := pz_exc_o ex hm
  obtain ⟨sa, hsa⟩ := hS0.2.2.2.2.2.2.1 _ (pz_str_spec hs)
  obtain ⟨r0, r1, r2, r5⟩ := pz_rx_ok ex.2.2.1
  have hat : ∀ w ∈ pz_at RX6 ex.2.2.2.1 ex.2.2.1 (pz_ix0 ex.2.2.1) (pz_rx ex.2.2.1) pz_NM, w.before args s = true := fun w hw => by
    by_cases g : goodWord w = true
    · exact hts w (pz_exc_g ex hm w (List.mem_filter.mpr ⟨hw, g⟩))
    · have hw2 : w ∈ (pz_atE ex).filter (fun w => !goodWord w) := List.mem_filter.mpr ⟨hw, by simpa using g⟩
      have g2 := pz_exc_c ex hm w hw2
      have g3 := hS0.2.2.1 ex hm w hw2
      cases w <;> first | exact va_Nw.use rfl g3 | (exact absurd g2 (by simp [pz_cdw]))
  refine pz_throwS (own := RX6) (ik := ex.2.1) (ic := ex.2.2.2.1) (cls := ex.2.2.1) (names := pz_NM) (A := pz_A a0) hx hb hlT r0 r1 r2 r5 hown o2 (by decide +kernel) (hts _ (pz_Gc o4)) (hts _ (pz_Gc o5)) hsa hat o3 hS0.2.2.2.2.2.2.2.2.1.1 hS0.2.2.2.2.2.2.2.2.1.2.1 hV (hL.1.trans hml.symm) d0 d3 d4 d6 d9 (by rw [hex]; intro z hz; cases hz) (by show 2 + 3 < R.frames; omega) (by show 0 + (13 * (2 + 1) + 43) ≤ R.locals; omega) (by omega) (by omega) hlk (fun t ht hz hk => ⟨⟨h, hq, pz_Rep_kept hR hk⟩, Nat.le_trans hV.1 hz, fun q hq1 hq2 => (hk q (Nat.lt_of_lt_of_le hq1 hV.1)).trans (hV.2.1 q hq1 hq2)⟩) (fun z hz => hV.2.2 z hz) (by omega) (by omega)
theorem pz_s_thrw (X : pz_Cx p l R s m args meth c D kA en a0 mc0 ms0 d own cc nL rt hh ini) : pz_r_thrw d en C own cc nL rt hh ini Q (pz_PW p l e R s m args below meth c D kA a0 nL mc0 ms0 (vx_MQ below (pz_Qc D kA a0 Q) (pz_XC D kA a0 Q) args s mc0 ms0 (pz_A a0))) := by
  intro pc ls st h nc ns ik ic is E tx d0 d3 d4 d6 d9 he hs ho hd6 hhh hq H locs cells slots la hL hR hV h1 h2
  obtain ⟨hx, hb, hml, hown, hts, hS0, hmc, hms, hfr, hlo, hret, hlk, hini, hex, hlT⟩ := X
  subst ho
  subst hhh
  replace hex : c.exceptionTable.toList = tableOf [] := by
    rcases hex with ⟨h8, -⟩ | hex
    · exact absurd h8 (by decide)
    · exact hex
  obtain ⟨ex, hm, x1, x2, x3, x4⟩ := pz_exc_spec he
  subst x2; subst x3; subst x4
  obtain ⟨o1, o2, o3, o4, o5⟩ := pz_exc_o ex hm
  obtain ⟨sa, hsa⟩ := hS0.2.2.2.2.2.2.1 _ (pz_str_spec hs)
  obtain ⟨r0, r1, r2, r5⟩ := pz_rx_ok ex.2.2.1
  have hat : ∀ w ∈ pz_at RX6 ex.2.2.2.1 ex.2.2.1 (pz_ix0 ex.2.2.1) (pz_rx ex.2.2.1) pz_NM, w.before args s = true := fun w hw => by
    by_cases g : goodWord w = true
    · exact hts w (pz_exc_g ex hm w (List.mem_filter.mpr ⟨hw, g⟩))
    · have hw2 : w ∈ (pz_atE ex).filter (fun w => !goodWord w) := List.mem_filter.mpr ⟨hw, by simpa using g⟩
      have g2 := pz_exc_c ex hm w hw2
      have g3 := hS0.2.2.1 ex hm w hw2
      cases w <;> first | exact va_Nw.use rfl g3 | (exact absurd g2 (by simp [pz_cdw]))
  refine pz_throwSW (own := RX6) (ik := ex.2.1) (ic := ex.2.2.2.1) (cls := ex.2.2.1) (names := pz_NM) (A := pz_A a0) hx hb hlT r0 r1 r2 r5 hown o2 (by decide +kernel) (hts _ (pz_Gc o4)) (hts _ (pz_Gc o5)) hsa hat o3 hS0.2.2.2.2.2.2.2.2.1.1 hS0.2.2.2.2.2.2.2.2.1.2.1 hV (hL.1.trans hml.symm) d0 d3 d4 d6 d9 (by rw [hex]; intro z hz; cases hz) (by show 2 + 3 < R.frames; omega) (by show 0 + (13 * (2 + 1) + 43) ≤ R.locals; omega) (by omega) (by omega) hlk (fun t ht hz hk => ⟨⟨h, hq, pz_Rep_kept hR hk⟩, Nat.le_trans hV.1 hz, fun q hq1 hq2 => (hk q (Nat.lt_of_lt_of_le hq1 hV.1)).trans (hV.2.1 q hq1 hq2)⟩) (fun z hz => hV.2.2 z hz) (by omega) (by omega)
end PZC
