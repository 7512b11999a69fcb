theorem pz_idxW : lw_tbl[1454]? = some (.methodLink RX7 pz_key.2 yJ0_indexOf_0f7a4) ∧ lw_tbl[1455]? = some (.instanceMethod yJ0_indexOf_0f7a4) ∧ lw_tbl[1456]? = some (.selects RJ0 yJ0_indexOf_0f7a4 yJ0_indexOf_0f7a4) ∧ lw_tbl[86]? = some (.initialized RJ0) ∧ lw_tbl[1457]? = some (.code yJ0_indexOf_0f7a4 cJ0_indexOf_0f7a4 2 (some .int)) := by decide +kernel
def pz_IdxM (l : Launch) (D : va_G) (kA : Nat → ClassId) (en : pz_Env) (a0 : Nat) : Prop := ∀ (x : Int32), 0 ≤ x.toInt → x.toInt < 65536 → Met l yJ0_indexOf_0f7a4 (Cond.code yJ0_indexOf_0f7a4 cJ0_indexOf_0f7a4 2 (some .int) :: pz_G) ({ frames := 5, cells := 0, slots := 0, locals := 180 }) (va_Pc [.ref en.2.2.2, .int x] (fun U => pz_S D kA en a0 U U.heap)) (fun _ st o t => o = .returned (some (.int (pz_ix x))) ∧ va_F (fun _ => False) st t) 0 0 (pz_A a0)
section PZM
variable {p : Program} {l : Launch} {e : Env} {R : Room} {s : State} {m : MethodId} {args : Array Value} {below : List Frame} {meth : Method} {c : Code} {D : va_G} {kA : Nat → ClassId} {en : pz_Env} {a0 mc0 ms0 : Nat} {Qf : State → Prop}
variable {d : Nat} {C : pz_C} {own : Nat} {cc : ByteArray} {nL : Nat} {rt : Option FieldType} {hh : List (Nat × Nat × Nat × Nat)} {ini : Bool} {Q : pz_Q}
theorem pz_s_idx (hI : pz_IdxM l D kA en a0) (X : pz_Cx p l R s m args meth c D kA en a0 mc0 ms0 d own cc nL rt hh ini) : pz_r_idx d en C own cc nL rt hh ini Q (pz_PW p l e R s m args below meth c D kA a0 nL mc0 ms0 Qf) := by
  intro pc ls st h nc ns x hd ho hd1 hx0 hr kk H locs cells slots la hL hR hV h1 h2
  obtain ⟨hx, hb, hml, hown, hts, hS0, hmc, hms, hfr, hlo, hret, hlk, hini, hex, hlT⟩ := X
  subst ho
  have hM := hI x hx0.1 hx0.2
  have hcat := pz_cat8 hr
  obtain ⟨i1, i2, i3, i4, i5⟩ := pz_idxW
  have hG2 : GoodIn pz_G (Cond.code yJ0_indexOf_0f7a4 cJ0_indexOf_0f7a4 2 (some .int) :: pz_G) := fun w hw => by
    rcases List.mem_cons.mp hw with rfl | hw
    · exact pz_G_good _ (pz_Gin i5 rfl)
    · exact pz_G_good _ hw
  obtain ⟨adK, adV, hs1, hs2⟩ := hS0.2.2.2.2.2.2.2.2.1.2.2.1
  have hrecv := vk_recv hs1 (i := 0) (by decide) hV
  rw [hs2] at hrecv
  have hbl : FrameBlind (va_Pc [.ref en.2.2.2, .int x] (fun U => pz_S D kA en a0 U U.heap)) := fun a U g mk hq => ⟨hq.1, pz_S_move hq.2 (State.WarmedH.refl U) (fun _ _ _ => rfl) (Nat.le_refl _)⟩
  intro T hT XT
  have hrun := va_runV (e := e) (below := below) (meth := meth) (C := RJ0) (b := en.2.2.2) (As := [.int x]) (rest := st) (g := F0 m pc la (.int x :: .ref en.2.2.2 :: st)) ⟨hx, hb, hml, hown, hts⟩ hM ⟨⟨rfl, rfl, by show 5 + 1 ≤ R.frames; omega, by show 8 + (2 + 11) + 180 ≤ R.locals; omega, pay_in hts hG2, List.mem_cons_self, hts _ (pz_Gin i5 rfl), hts _ (pz_Gin i4 rfl), by decide +kernel, (fun sig hs => by
      have hd2 : (parseMethodDescriptor yJ0_indexOf_0f7a4.desc).map (fun d => d.parameters.length) = some 1 := by decide +kernel
      rw [hs] at hd2
      exact (Option.some.inj hd2).symm), hts _ (pz_Gin i1 rfl)⟩, hts _ (pz_Gin i2 rfl), hts _ (pz_Gin i3 rfl)⟩ ⟨hbl, hrecv, fun U hU hW => ⟨rfl, by show pz_S D kA en a0 U U.heap; rw [hU]; exact pz_S_move hS0 hW hV.2.1 hV.1⟩⟩ rfl rfl hL.1 rfl (lv_room hcat) hd (cells := cells) (slots := slots) (locs := locs) (H := H) (by omega)
  obtain ⟨v, st₀, t, T', L, h0, X', hLl, e1, e2, ⟨hv, hF⟩, stp⟩ := hrun T hT XT
  cases hv
  have hk : ∀ q : Nat, q < H.size → T'.heap[q]? = H[q]? := fun q hq => by
    rw [e1, ← h0]
    exact hF.2 q (by rw [h0]; exact hq) (fun z => z)
  have hz : H.size ≤ T'.heap.size := by
    rw [e1, ← h0]
    exact hF.1
  obtain ⟨t2, a1, b1⟩ := kk T'.heap (locs ++ L) (cells + 0) (slots + 0) la hL (pz_Rep_kept hR hk) ⟨Nat.le_trans hV.1 hz, fun q hq1 hq2 => (hk q (Nat.lt_of_lt_of_le hq1 hV.1)).trans (hV.2.1 q hq1 hq2), fun q hq => (List.mem_append.mp hq).elim (hV.2.2 q) (hLl q)⟩ (by omega) (by omega) T' rfl X'
  exact ⟨t2, stp t2 a1, b1⟩
theorem pz_closed (hC : pz_Snd l D kA en a0 (d - 1) C) (hd1 : 1 ≤ d) (hI : pz_IdxM l D kA en a0) (X : pz_Cx p l R s m args meth c D kA en a0 mc0 ms0 d own cc nL rt hh ini) : pz_Cl d en C own cc nL rt hh ini Q (pz_PW p l e R s m args below meth c D kA a0 nL mc0 ms0 (vx_MQ below (pz_Qc D kA a0 Q) (pz_XC D kA a0 Q) args s mc0 ms0 (pz_A a0))) :=
  ⟨pz_s_iconst X, pz_s_bipush X, pz_s_sipush X, pz_s_lconst X, pz_s_ldc X, pz_s_ldcw X, pz_s_ldc2 X, pz_s_ldcs X, pz_s_iload_n X, pz_s_iload X, pz_s_istore_n X, pz_s_istore X, pz_s_aload_n X, pz_s_aload X, pz_s_astore_n X, pz_s_astore X, pz_s_dload X, pz_s_dstore X, pz_s_iinc X, pz_s_iadd X, pz_s_isub X, pz_s_imul X, pz_s_iand X, pz_s_ior X, pz_s_ishl X, pz_s_iushr X, pz_s_idiv X, pz_s_irem X, pz_s_ineg X, pz_s_i2l X, pz_s_i2c X, pz_s_i2d X, pz_s_ddiv X, pz_s_dcmp X, pz_s_lcmp X, pz_s_dup X, pz_s_dup2 X, pz_s_pop X, pz_s_if_eq X, pz_s_if_ne X, pz_s_if_lt X, pz_s_if_ge X, pz_s_if_gt X, pz_s_if_le X, pz_s_icmp_eq X, pz_s_icmp_ne X, pz_s_icmp_lt X, pz_s_icmp_ge X, pz_s_icmp_gt X, pz_s_icmp_le X, pz_s_goto X, pz_s_tsin X, pz_s_tsout X, pz_s_lsw X, pz_s_getf X, pz_s_putf X, pz_s_new X, pz_s_newai X, pz_s_newac X, pz_s_newal X, pz_s_newaq X, pz_s_iald X, pz_s_cald X, pz_s_lald X, pz_s_aald X, pz_s_iast X, pz_s_cast X, pz_s_last X, pz_s_aast X, pz_s_slen X, pz_s_sld X, pz_s_copy X, pz_s_max X, pz_s_min X, pz_s_obj X, pz_s_idx hI X, pz_s_callv hC hd1 X, pz_s_calls hC hd1 X, pz_s_calli hC hd1 X, pz_s_calln hC hd1 X, pz_s_iret X, pz_s_vret X, pz_s_aret X, pz_s_dret X, pz_s_thr X, pz_s_thrw X, pz_s_forget X⟩
theorem pz_closedL (hC : pz_Snd l D kA en a0 (d - 1) C) (hd1 : 1 ≤ d) (hI : pz_IdxM l D kA en a0) (X : pz_Cx p l R s m args meth c D kA en a0 mc0 ms0 d own cc nL rt hh ini) (h_iret : pz_r_iret d en C own cc nL rt hh ini Q (pz_PW p l e R s m args below meth c D kA a0 nL mc0 ms0 Qf)) (h_vret : pz_r_vret d en C own cc nL rt hh ini Q (pz_PW p l e R s m args below meth c D kA a0 nL mc0 ms0 Qf)) (h_aret : pz_r_aret d en C own cc nL rt hh ini Q (pz_PW p l e R s m args below meth c D kA a0 nL mc0 ms0 Qf)) (h_dret : pz_r_dret d en C own cc nL rt hh ini Q (pz_PW p l e R s m args below meth c D kA a0 nL mc0 ms0 Qf)) (h_thr : pz_r_thr d en C own cc nL rt hh ini Q (pz_PW p l e R s m args below meth c D kA a0 nL mc0 ms0 Qf)) (h_thrw : pz_r_thrw d en C own cc nL rt hh ini Q (pz_PW p l e R s m args below meth c D kA a0 nL mc0 ms0 Qf)) : pz_Cl d en C own cc nL rt hh ini Q (pz_PW p l e R s m args below meth c D kA a0 nL mc0 ms0 Qf) :=
  ⟨pz_s_iconst X, pz_s_bipush X, pz_s_sipush X, pz_s_lconst X, pz_s_ldc X, pz_s_ldcw X, pz_s_ldc2 X, pz_s_ldcs X, pz_s_iload_n X, pz_s_iload X, pz_s_istore_n X, pz_s_istore X, pz_s_aload_n X, pz_s_aload X, pz_s_astore_n X, pz_s_astore X, pz_s_dload X, pz_s_dstore X, pz_s_iinc X, pz_s_iadd X, pz_s_isub X, pz_s_imul X, pz_s_iand X, pz_s_ior X, pz_s_ishl X, pz_s_iushr X, pz_s_idiv X, pz_s_irem X, pz_s_ineg X, pz_s_i2l X, pz_s_i2c X, pz_s_i2d X, pz_s_ddiv X, pz_s_dcmp X, pz_s_lcmp X, pz_s_dup X, pz_s_dup2 X, pz_s_pop X, pz_s_if_eq X, pz_s_if_ne X, pz_s_if_lt X, pz_s_if_ge X, pz_s_if_gt X, pz_s_if_le X, pz_s_icmp_eq X, pz_s_icmp_ne X, pz_s_icmp_lt X, pz_s_icmp_ge X, pz_s_icmp_gt X, pz_s_icmp_le X, pz_s_goto X, pz_s_tsin X, pz_s_tsout X, pz_s_lsw X, pz_s_getf X, pz_s_putf X, pz_s_new X, pz_s_newai X, pz_s_newac X, pz_s_newal X, pz_s_newaq X, pz_s_iald X, pz_s_cald X, pz_s_lald X, pz_s_aald X, pz_s_iast X, pz_s_cast X, pz_s_last X, pz_s_aast X, pz_s_slen X, pz_s_sld X, pz_s_copy X, pz_s_max X, pz_s_min X, pz_s_obj X, pz_s_idx hI X, pz_s_callv hC hd1 X, pz_s_calls hC hd1 X, pz_s_calli hC hd1 X, pz_s_calln hC hd1 X, h_iret, h_vret, h_aret, h_dret, h_thr, h_thrw, pz_s_forget X⟩
end PZM
theorem pz_sl_len : ∀ (as : List Value), as.all (fun v => v.category == 1) = true → (lg_sl as).length = as.length
  | [], _ => rfl
  | v :: r, h => by
    simp only [List.all_cons, Bool.and_eq_true, beq_iff_eq] at h
    have ih := pz_sl_len r h.2
    unfold lg_sl at ih ⊢
    rw [List.flatMap_cons, List.length_append, ih, h.1]
    simp
    omega
theorem pz_args_mem : ∀ (as : List Value) (k j : Nat) (v : Value), as.all (fun v => v.category == 1) = true → as[j]? = some v → (k + j, v) ∈ lv_args k as
  | [], _, _, _, _, h => by cases h
  | u :: r, k, j, v, hc, h => by
    simp only [List.all_cons, Bool.and_eq_true, beq_iff_eq] at hc
    unfold lv_args
    cases j with
    | zero =>
      cases h
      exact List.mem_cons_self
    | succ j =>
      have h2 := pz_args_mem r (k + 1) j v hc.2 h
      rw [if_neg (by rw [hc.1]; decide)]
      rw [show k + (j + 1) = k + 1 + j by omega]
      exact List.mem_cons_of_mem _ h2
theorem pz_Lr_entry {as : List Value} {nL : Nat} (hc : as.all (fun v => v.category == 1) = true) (hn : as.length ≤ nL) : pz_Lr nL (pz_entry as nL) ((lg_sl as ++ List.replicate (nL - (lg_sl as).length) Slot.unset).toArray) := by
  have h := lv_entry as (n := nL) (by rw [pz_sl_len as hc]; exact hn)
  refine ⟨h.1, h.2.1, fun i v hi => ?_⟩
  have h2 : as[i]? = some v := by
    unfold pz_entry at hi
    by_cases hl : i < (as.map some).length
    · rw [List.getElem?_append_left hl, List.getElem?_map] at hi
      cases h3 : as[i]? with
      | none => rw [h3] at hi; cases hi
      | some u => rw [h3] at hi; cases hi; rfl
    · rw [List.getElem?_append_right (by omega), List.getElem?_replicate] at hi
      split at hi
      · cases hi
      · cases hi
  have h3 := pz_args_mem as 0 i v hc h2
  rw [Nat.zero_add] at h3
  exact h.2.2 _ h3
theorem pz_sound (l : Launch) (hlT : l.stackTraces = false) (D : va_G) (kA : Nat → ClassId) (en : pz_Env) (a0 : Nat) (hI : pz_IdxM l D kA en a0) : ∀ d : Nat, pz_Snd l D kA en a0 d (pz_Cd en d) := by
  intro d
  induction d with
  | zero =>
    intro y yn bs mL mr mo np kd mh ps ht as h mc ms Q hC
    exact hC.elim
  | succ d ih =>
    intro y yn bs mL mr mo np kd mh ps ht as h mc ms Q hCd
    unfold pz_Cd at hCd
    rw [ht] at hCd
    obtain ⟨hcat, hlen, hwp⟩ := hCd
    obtain ⟨m1, m2, m3, m4, m5, m6, m7, m8, m9, m10, m11, m12, m13⟩ := pz_tabL_ok _ (pz_tab_mem ht)
    have body : ∀ p e s m args below meth c s₁, BodyLoose p l yn (headSpec (pz_word (yn, bs, mL, mr, mo, np, kd, mh, ps) :: pz_G) ({ frames := d + 1, cells := mc, slots := ms, locals := 36 * (d + 1) })) bs mL mr e s m args below meth c s₁ → c.maxLocals = mL → c.exceptionTable.toList = tableOf mh → va_Pc as (pz_B D kA en a0 h) args s → W p l e ({ frames := d + 1, cells := mc, slots := ms, locals := 36 * (d + 1) }) s m args below meth c s.heap [] 0 0 (vx_MQ below (pz_Qc D kA a0 Q) (pz_XC D kA a0 Q) args s mc ms (pz_A a0)) (entryFrame m args mL) := by
      intro p e s m args below meth c s₁ B hml hex hv
      obtain ⟨rfl, hS, hR⟩ := hv
      have hts : ∀ w ∈ pz_G, w.before as.toArray s = true := fun w hw => atoms_spec (ws := pz_word (yn, bs, mL, mr, mo, np, kd, mh, ps) :: pz_G) B.pre w (List.mem_cons_of_mem _ hw)
      have m3' : yn.cls = pz_R mo := m3
      have hown : s.vm.findClass (pz_R mo) = some m.cls := by rw [← m3']; exact findClass_of_methodNamed B.named
      rw [lg_entry_eq]
      exact hwp _ (pz_closed (l := l) (e := e) (below := below) (R := { frames := d + 1, cells := mc, slots := ms, locals := 36 * (d + 1) }) (mc0 := mc) (ms0 := ms) (args := as.toArray) ih (by omega) hI ⟨B.exec, B.bytes, hml, hown, hts, hS, Nat.le_refl _, Nat.le_refl _, Nat.le_refl _, Nat.le_refl _, B.returns, B.notSynchronized, (fun hk => (name_of_methodNamed B.named B.method).1.trans (m7.mp (by simpa using hk))), Or.inr hex, hlT⟩) s.heap [] 0 0 _ (pz_Lr_entry hcat hlen) hR va_S.rf (by omega) (by omega)
    cases mh with
    | nil => exact vx_ofW m1 rfl (fun p e s m args below meth c s₁ B hml hno hv => body p e s m args below meth c s₁ B hml (by
        cases h9 : c.exceptionTable.toList with
        | nil => rfl
        | cons q r => exact (hno q (by rw [h9]; exact List.mem_cons_self)).elim) hv)
    | cons q r => exact vx_ofWH (hh := q :: r) m1 rfl (fun p e s m args below meth c s₁ B hml hv => body p e s m args below meth c s₁ B hml (vx_table (x := yn) B (atoms_spec (ws := pz_word (yn, bs, mL, mr, mo, np, kd, q :: r, ps) :: pz_G) B.pre _ List.mem_cons_self)) hv)
/-- a method's walk, at a level -/
theorem pz_in {en : pz_Env} {n y : Nat} {yn : MethodName} {bs : ByteArray} {mL : Nat} {mr : Option FieldType} {mo np kd : Nat} {mh : List (Nat × Nat × Nat × Nat)} {ps : List Nat} {as : List Value} {h : pz_H} {mc ms : Nat} {Q : pz_Q} (ht : pz_tab y = some (yn, bs, mL, mr, mo, np, kd, mh, ps)) (hw : pz_WP n en (pz_Cd en (n - 1)) mo bs mL mr mh (kd == 2) Q 0 (pz_entry as mL) [] h mc ms) (hc : as.all (fun v => v.category == 1) = true := by rfl) (hl : as.length ≤ mL := by first | exact Nat.le_of_ble_eq_true rfl | decide) (hn : 1 ≤ n := by decide) : pz_Cd en n y as h mc ms Q := by
  cases n with
  | zero => exact absurd hn (by decide)
  | succ n =>
    unfold pz_Cd
    rw [ht]
    exact ⟨hc, hl, hw⟩
