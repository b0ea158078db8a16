-- the law's own two methods: a throw is caught there
theorem zx_blind {E : zj_E} {As : List Value} {sz : Nat} {h : zj_H} {g : zj_G} : FrameBlind (va_Pc As (fun U => zj_Pre E sz h g U ∧ zx_Z U)) := by
  intro a U g0 mk q
  obtain ⟨q0, ⟨q1, qP, qK, qD, qX⟩, qZ⟩ := q
  exact ⟨q0, ⟨q1, qP, va_K.moved (u := U) (U := U.calling g0 mk a) (Vm.Alike.refl U.vm) qK, qD, qX.blind g0 mk a⟩, qZ.same rfl⟩
section ZX5
variable {p : Program} {l : Launch} {e : Env} {R : Room} {s : State} {m : MethodId} {args : Array Value} {below : List Frame} {meth : Method} {c : Code} {A : Nat → Prop} {Q : State → Prop}
variable {E : zj_E} {cc : ByteArray} {nL d pc : Nat} {own : String} {L : List (Nat × Value)} {S : List Value} {h : zj_H} {g : zj_G}
theorem zj_callVX {cells slots : Nat} (K : zj_C E (p, l, e, R, s, m, args, below, meth, c, A, Q, cells, slots) cc nL own d) (hZ : zx_Z s) (x0 : ExceptionTableEntry) (htab : c.exceptionTable.toList = [x0]) (hcov : covers x0 pc = true) (hct : x0.catchType ≠ 0) (hcl : Cond.classLink own x0.catchType zx_N ∈ zj_tbl)
    {i ci index dd mL n : Nat} {y : MethodName} {b : ByteArray} {ret : Option FieldType} {fs : List (Nat ⊕ Bool)} {As : List Value} {Post : zj_P} {Thr : Prop} (hlk : zj_vl own index ci y b mL ret n) (hs : zj_at i (.inl (ci, fs))) (hM : zj_MX l E y b mL ret dd (.ref (E.2.1 i) :: As) h g Post Thr) (hdd : dd + 1 ≤ d) (hn : As.length = n) (hcat : (S.map fun v => v.category).sum ≤ 8) (hdg : decode cc pc = .ok (.invokevirtual index, 3)) (h1 : cells + 1 ≤ R.cells) (h6 : slots + 6 ≤ R.slots)
    (kk : ∀ v h' g', Post v h' g' → zj_J E (p, l, e, R, s, m, args, below, meth, c, A, Q, cells + 1, slots + 6) nL (pc + 3) L (v.toList ++ S) h' g')
    (kx : Thr → ∀ q : Nat, zj_J E (p, l, e, R, s, m, args, below, meth, c, A, Q, cells + 1, slots + 6) nL x0.handlerPc L [.ref q] h g) : zj_J E (p, l, e, R, s, m, args, below, meth, c, A, Q, cells, slots) nL pc L (As.reverse ++ .ref (E.2.1 i) :: S) h g := by
  obtain ⟨hx, hb, hml, hown, hts, hK, hA, hD, hX, hfr, hlo, hce, hsl⟩ := K
  obtain ⟨⟨hwc, hwi, hwd, h16⟩, hwl, hwm, q, hc, hws⟩ := hlk
  intro ls H locs hl hP hS
  have hfree := zj_free (h := h) (g := g) hD hA hS
  have hG := zj_good hwc
  have hroom : (zj_roomX dd).frames + 1 ≤ R.frames ∧ 8 + (mL + 11) + (zj_roomX dd).locals ≤ R.locals := by
    have e16 : mL ≤ 16 := Nat.le_of_ble_eq_true h16
    refine ⟨Nat.le_trans hdd hfr, ?_⟩
    show 8 + (mL + 11) + 35 * dd ≤ R.locals
    omega
  have hr := vx_runV (locs := locs) (cells := cells) (slots := slots) (below := below) (meth := meth) (e := e) (As := As) (rest := S) (C := q.1) (n := n) (g := F0 m pc ls (As.reverse ++ .ref (E.2.1 i) :: S)) ⟨hx, hb, hml, hown, hts⟩ (hM H.size) ⟨callB_of n hts hG rfl rfl rfl (hts _ hwi) (hts _ hwl) hwd hroom, hts _ hwm, hts _ hws⟩ ⟨zx_blind, va_recv hK hP hc (zj_ws_get E h g hs), fun U hU hW => ⟨rfl, ⟨by rw [hU], by rw [hU]; exact hP, va_K.moved hW.alike hK, fun h g => (hD h g).weaken (fun _ _ _ _ => trivial), by rw [hU]; exact hX.warm hW hfree hS.2.1⟩, hZ.warm hW⟩⟩ rfl hn hl.1 rfl (lv_room hcat) hdg ⟨h1, h6⟩
  intro T hT X
  rcases hr T hT X with ⟨v, st₀, t, T', L0, h0, X', hL, e1, e2, ⟨⟨v', h', g', hv, hp, hP1⟩, hz, hk⟩, st⟩ | ⟨q9, st₀, t, T', L0, En, ce, h0, X', hL, e1, e2, ⟨hth, hEn, hPx, hF⟩, hce9, hcv, hcl9, st⟩
  · cases hv
    rw [h0] at hz hk
    obtain ⟨t2, a1, b1⟩ := kk v h' g' hp ls T'.heap (locs ++ L0) hl (by rw [e1]; exact hP1)
      ⟨Nat.le_trans hS.1 (by rw [e1]; exact hz), fun q h1 h2 => by rw [e1, hk q (Nat.lt_of_lt_of_le h1 hS.1) (fun z => h2 (hfree q z))]; exact hS.2.1 q h1 h2, fun q hq => by
        rcases List.mem_append.mp hq with h | h
        · exact hS.2.2 q h
        · exact hfree _ (hL q h)⟩ T' rfl X'
    exact ⟨t2, st t2 a1, b1⟩
  · subst hEn
    obtain ⟨k1, k2, k3⟩ := vx_keep (A0 := A) h0 e1 hS (fun q _ hq => hfree q hq) hfree hL hF
    obtain ⟨t2, a1, b1⟩ := vx_catch (rest := S) (pc := pc) hown [] x0 [] htab (fun z hz => nomatch hz) hcov hct (hts _ hcl) (hZ.2.2.2.use rfl) (by rw [e1]; exact hce9) hcv hcl9
      (kx hth q9 ls T'.heap (locs ++ L0) hl (by rw [e1]; exact hPx) k3) T' rfl X'
    exact ⟨t2, st.trans a1, b1⟩
end ZX5
def zj_MW (l : Launch) (E : zj_E) (y : MethodName) (b : ByteArray) (mL d : Nat) (hh : List (Nat × Nat × Nat × Nat)) (As : List Value) (h : zj_H) (g : zj_G) (Post : zj_P) : Prop :=
  ∀ sz : Nat, Met l y (.codeWith y b mL (some .int) hh :: zj_tbl) (zj_roomX d) (va_Pc As (fun U => zj_Pre E sz h g U ∧ zx_Z U)) (zj_Q E (va_A (zj_ws E h g) sz) Post) 1 6 (va_A (zj_ws E h g) sz)
/-- a body with handlers, that returns -/
theorem zx_ofWH {l : Launch} {y : MethodName} {ws ws' : List Cond} {rm : Room} {Pc : Array Value → State → Prop} {Qc : Array Value → State → Outcome → State → Prop} {mc ms : Nat} {free : Addr → Prop} {cc : ByteArray} {maxL : Nat} {ret : Option FieldType} {hh : List (Nat × Nat × Nat × Nat)}
    (hy : plainName y.cls = true) (hw : ws = Cond.codeWith y cc maxL ret hh :: ws')
    (body : ∀ p e s m args below meth c s₁, BodyLoose p l y (headSpec ws rm) cc maxL ret e s m args below meth c s₁ → c.maxLocals = maxL → c.exceptionTable.toList = tableOf hh → Pc args s →
      W p l e (headSpec ws rm).room s m args below meth c s.heap [] 0 0 (MQ below Qc args s mc ms free) (entryFrame m args maxL)) : Met l y ws rm Pc Qc mc ms free := by
  refine MetFree.of_bodyS (code := cc) (maxLocals := maxL) (ret := ret) hy ?_ ?_
  · intro args s m h hn
    obtain ⟨m9, meth, c, hn9, h1, h2, h3, h4, -, h5, h6, -⟩ := Cond.codeWith_spec (atoms_spec (ws := ws) h _ (by rw [hw]; exact List.mem_cons_self))
    cases hn.symm.trans hn9
    exact ⟨meth, c, h1, h2, h3, h4, h5, h6⟩
  · intro p e s m args below meth c s₁ B hml hP _
    have hh0 : s₁.heap = s.heap := by rw [B.state]; rfl
    have htab := vx_table (x := y) B (atoms_spec (ws := ws) B.pre _ (by rw [hw]; exact List.mem_cons_self))
    obtain ⟨t, a1, o, b1, b2, b3⟩ := body p e s m args below meth c s₁ B hml htab hP s₁ hh0 (Stand.of_body B)
    exact ⟨t, o, a1, b1, b2, ⟨b3.1, b3.2⟩⟩
theorem zx_e13 : covers (⟨0, 10, 13, 13⟩ : ExceptionTableEntry) 5 = true := by decide
/-- both: the answer into the law's long, 0; or 1 and nothing -/
theorem zx_lawM {l : Launch} {E : zj_E} {h : zj_H} {g : zj_G} {y y2 : MethodName} {b b2 : ByteArray} {index : Nat} {x w : Int32} {Post : zj_P} {Thr : Prop} (hy : plainName y.cls = true) (ho : y.cls = RL) (hlk : zj_vl RL index 7 y2 b2 3 (some .int) 2) (hcl : Cond.classLink RL 13 zx_N ∈ zj_tbl) (hM : zj_MX l E y2 b2 3 (some .int) 6 [.ref (E.2.1 0), .int x, .int w] h g Post Thr)
    (hPo : ∀ v h' g', Post v h' g' → ∃ r, v = some (.int r))
    (d0 : decode b 0 = .ok (.aload_n 3, 1)) (d1 : decode b 1 = .ok (.iconst 0, 1)) (d2 : decode b 2 = .ok (.aload_n 0, 1)) (d3 : decode b 3 = .ok (.iload_n 1, 1)) (d4 : decode b 4 = .ok (.iload_n 2, 1)) (d5 : decode b 5 = .ok (.invokevirtual index, 3)) (d8 : decode b 8 = .ok (.i2l, 1)) (d9 : decode b 9 = .ok (.lastore, 1)) (d10 : decode b 10 = .ok (.goto 7, 3)) (d13 : decode b 13 = .ok (.astore 4, 2)) (d15 : decode b 15 = .ok (.iconst 1, 1)) (d16 : decode b 16 = .ok (.ireturn, 1)) (d17 : decode b 17 = .ok (.iconst 0, 1)) (d18 : decode b 18 = .ok (.ireturn, 1)) :
    zj_MW l E y b 5 7 [(0, 10, 13, 13)] [.ref (E.2.1 0), .int x, .int w, .ref (E.2.1 88)] h g (fun v h' g' => (v = some (.int 0) ∧ ∃ r g1, Post (some (.int r)) h' g1 ∧ g' = zj_sg g1 88 (vp_updL (g1 88) 0 r.toInt64)) ∨ (v = some (.int 1) ∧ Thr ∧ h' = h ∧ g' = g)) := by
  intro sz
  refine zx_ofWH (cc := b) (maxL := 5) (ret := some .int) hy rfl ?_
  intro p e s m args below meth c s₁ B hml htab hv
  obtain ⟨rfl, ⟨hsz, hP, hK, hD0, hX⟩, hZ⟩ := hv
  subst hsz
  have hts := atoms_spec (ws := (.codeWith y b 5 (some .int) [(0, 10, 13, 13)] :: zj_tbl)) B.pre
  have hown : s.vm.findClass RL = some m.cls := by rw [← ho]; exact findClass_of_methodNamed B.named
  have hD : ∀ h' g', va_D (va_A (zj_ws E h g) s.heap.size) (zj_ws E h' g') := fun h' g' => by
    rw [zj_A_any (h' := h') (g' := g')]
    exact (hD0 h' g').self (sz := s.heap.size)
  have hl := lv_entry ([.ref (E.2.1 0), .int x, .int w, .ref (E.2.1 88)]) (n := 5) (Nat.le_of_ble_eq_true rfl)
  rw [lg_entry_eq]
  generalize hAe : va_A (zj_ws E h g) s.heap.size = A at hD ⊢
  have hA : ∀ q : Nat, s.heap.size ≤ q → A q := fun q hq => by rw [← hAe]; exact Or.inr hq
  have mkK : ∀ (Q : State → Prop) (ce sl : Nat), ce ≤ 1 → sl ≤ 6 → zj_C E (p, l, e, zj_roomX 7, s, m, [.ref (E.2.1 0), .int x, .int w, .ref (E.2.1 88)].toArray, below, meth, c, A, Q, ce, sl) b 5 RL 7 := fun Q ce sl h1 h2 =>
    ⟨B.exec, B.bytes, hml, hown, fun w hw => hts w (List.mem_cons_of_mem _ hw), hK, hA, hD, by rw [← hAe]; exact hX, Nat.le_refl _, Nat.le_refl _, h1, h2⟩
  generalize hQe : MQ below (zj_Q E A (fun v h' g' => (v = some (.int 0) ∧ ∃ r g1, Post (some (.int r)) h' g1 ∧ g' = zj_sg g1 88 (vp_updL (g1 88) 0 r.toInt64)) ∨ (v = some (.int 1) ∧ Thr ∧ h' = h ∧ g' = g))) [.ref (E.2.1 0), .int x, .int w, .ref (E.2.1 88)].toArray s 1 6 A = Q
  have K0 := mkK Q 0 0 (Nat.zero_le _) (Nat.zero_le _)
  have K := mkK Q 1 6 (Nat.le_refl _) (Nat.le_refl _)
  have Rt : zj_R E (p, l, e, zj_roomX 7, s, m, [.ref (E.2.1 0), .int x, .int w, .ref (E.2.1 88)].toArray, below, meth, c, A, Q, 1, 6) (some .int) (fun v h' g' => (v = some (.int 0) ∧ ∃ r g1, Post (some (.int r)) h' g1 ∧ g' = zj_sg g1 88 (vp_updL (g1 88) 0 r.toInt64)) ∨ (v = some (.int 1) ∧ Thr ∧ h' = h ∧ g' = g)) := ⟨B.returns, B.notSynchronized, hQe.symm⟩
  have key : zj_J E (p, l, e, zj_roomX 7, s, m, [.ref (E.2.1 0), .int x, .int w, .ref (E.2.1 88)].toArray, below, meth, c, A, Q, 0, 0) 5 0 [(0, .ref (E.2.1 0)), (1, .int x), (2, .int w), (3, .ref (E.2.1 88))] [] h g := by
    refine zj_aload_n (i := 3) (pc := 0) K0 d0 rfl rfl ?_
    refine zj_iconst (v := 0) (pc := 1) K0 d1 (by decide) ?_
    refine zj_aload_n (i := 0) (pc := 2) K0 d2 rfl rfl ?_
    refine zj_iload_n (i := 1) (pc := 3) K0 d3 rfl rfl ?_
    refine zj_iload_n (i := 2) (pc := 4) K0 d4 rfl rfl ?_
    refine zj_callVX (As := [.int x, .int w]) (i := 0) (pc := 5) K0 hZ ⟨0, 10, 13, 13⟩ htab zx_e13 (by decide) hcl hlk hs_B hM (by decide) rfl (Nat.le_of_ble_eq_true rfl) d5 (Nat.le_refl _) (Nat.le_refl _) (fun v h' g' hp => ?_) (fun hth q => ?_)
    · obtain ⟨r, rfl⟩ := hPo v h' g' hp
      refine zj_i2l (pc := 8) K d8 ?_
      refine zj_lst (j := 0) (pc := 9) K hs_O rfl (by decide) (by decide) d9 ?_
      refine zj_goto (tgt := 17) (pc := 10) K d10 (by decide) ?_
      refine zj_iconst (v := 0) (pc := 17) K d17 (by decide) ?_
      exact zj_iret K Rt d18 (Or.inl ⟨rfl, r, g', hp, rfl⟩)
    · refine zj_astore (pc := 13) K d13 rfl rfl rfl ?_
      refine zj_iconst (v := 1) (pc := 15) K d15 (by decide) ?_
      exact zj_iret K Rt d16 (Or.inr ⟨rfl, hth, rfl, rfl⟩)
  exact key _ s.heap [] hl hP va_S.rf
theorem zx_lcl : Cond.classLink RL 13 zx_N ∈ zj_tbl := List.mem_filter.mpr ⟨List.mem_of_getElem? (i := 794) (by decide +kernel), by decide +kernel⟩
theorem m_L_judge {l : Launch} {E : zj_E} {h : zj_H} {g : zj_G} {J C u : Nat} (eJ : h 8 6 = nI J) (hJ : J ≤ 9) (eC : h 8 7 = nI C) (hC : C ≤ 14) {x w : Int32} (hlt : l.stackTraces = false) : zj_MW l E yL_judge cL_judge 5 7 [(0, 10, 13, 13)] [.ref (E.2.1 0), .int x, .int w, .ref (E.2.1 88)] h g (fun v h' g' => (v = some (.int 0) ∧ ∃ r g1, (((zz_in x J && zz_in w 6) = true ∧ some (Value.int r) = some (.int (zq_jud (zτC h J C u) (zδC h 13) x.toNatClampNeg w)) ∧ g1 = g ∧ zk_q h h')) ∧ g' = zj_sg g1 88 (vp_updL (g1 88) 0 r.toInt64)) ∨ (v = some (.int 1) ∧ (zz_in x J && zz_in w 6) = false ∧ h' = h ∧ g' = g)) :=
  zx_lawM (by decide) rfl lm_L_7 zx_lcl (m_X7_judge (u := u) eJ hJ eC hC hlt) (fun v h' g' hp => ⟨_, hp.2.1⟩) dL_judge_0 dL_judge_1 dL_judge_2 dL_judge_3 dL_judge_4 dL_judge_5 dL_judge_8 dL_judge_9 dL_judge_10 dL_judge_13 dL_judge_15 dL_judge_16 dL_judge_17 dL_judge_18
theorem m_L_of {l : Launch} {E : zj_E} {h : zj_H} {g : zj_G} {J C u : Nat} (eJ : h 8 6 = nI J) (hJ : J ≤ 9) (eC : h 8 7 = nI C) (hC : C ≤ 14) {x w : Int32} (hlt : l.stackTraces = false) : zj_MW l E yL_of cL_of 5 7 [(0, 10, 13, 13)] [.ref (E.2.1 0), .int x, .int w, .ref (E.2.1 88)] h g (fun v h' g' => (v = some (.int 0) ∧ ∃ r g1, (((zz_in x C && zz_in w 5) = true ∧ some (Value.int r) = some (.int (zq_of (zτC h J C u) (zδC h 13) x.toNatClampNeg w)) ∧ g1 = g ∧ zk_q h h')) ∧ g' = zj_sg g1 88 (vp_updL (g1 88) 0 r.toInt64)) ∨ (v = some (.int 1) ∧ (zz_in x C && zz_in w 5) = false ∧ h' = h ∧ g' = g)) :=
  zx_lawM (by decide) rfl lm_L_15 zx_lcl (m_X7_of (u := u) eJ hJ eC hC hlt) (fun v h' g' hp => ⟨_, hp.2.1⟩) dL_of_0 dL_of_1 dL_of_2 dL_of_3 dL_of_4 dL_of_5 dL_of_8 dL_of_9 dL_of_10 dL_of_13 dL_of_15 dL_of_16 dL_of_17 dL_of_18
