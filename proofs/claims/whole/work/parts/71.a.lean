section ZX2
variable {p : Program} {l : Launch} {e : Env} {R : Room} {s : State} {m : MethodId} {args : Array Value} {below : List Frame} {meth : Method} {c : Code} {H : Heap} {locs : List Loc} {cells slots : Nat} {ls : Array Slot} {rest : List Value} {Qc : Array Value → State → Outcome → State → Prop} {XC : String → State → State → Prop} {free : Addr → Prop}
/-- 'throw new NoSuchElementException("text")' -/
theorem zx_throw {cc : ByteArray} {pc : Nat} (hexec : p.tables.exec = Jvm.exec) (hb : c.code = cc) (hl : l.stackTraces = false) {text : String} {is mc ms sa : Nat} {A : Nat → Prop} (hown : s.vm.findClass RX7 = some m.cls)
    (hk : (Cond.classLink RX7 117 zx_N).before args s = true) (hini : (Cond.initialized zx_N).before args s = true) (hstr : vk_R RX7 is text sa s) (hat : ∀ w ∈ zx_L.filter vx_no, w.before args s = true)
    (hgood : ∀ w ∈ Cond.classLink RX7 117 zx_N :: Cond.initialized zx_N :: zx_L.filter vx_no, vx_ot w = true)
    (hU : vx_Zq Bundle.tN "UNASSIGNED_STACK" Bundle.steD A s s.heap) (hN : vx_Zq Bundle.tN "SUPPRESSED_SENTINEL" Bundle.listD A s s.heap) (hS : va_S A s.heap H locs) (hsize : ls.size = c.maxLocals)
    (d0 : decode cc pc = .ok (.new 117, 3)) (d3 : decode cc (pc + 3) = .ok (.dup, 1)) (d4 : decode cc (pc + 4) = .ok (.ldc is, 2)) (d6 : decode cc (pc + 6) = .ok (.invokespecial 121, 3)) (d9 : decode cc (pc + 9) = .ok (.athrow, 1))
    (hout : ∀ x ∈ c.exceptionTable.toList, covers x (pc + 9) = false) (hRframes : 5 < R.frames) (hRlocals : (rest.map fun v => v.category).sum + 82 ≤ R.locals) (hRcells : cells + 1 ≤ R.cells) (hRslots : slots + 6 ≤ R.slots) (hlocks : meth.locks = false)
    (hx : ∀ t : State, s.vm.Alike t.vm → H.size ≤ t.heap.size → (∀ q : Nat, q < H.size → t.heap[q]? = H[q]?) → XC zx_N s t)
    (hf : ∀ z ∈ locs, free z.base) (hc : cells + 1 ≤ mc) (hs : slots + 6 ≤ ms) : W p l e R s m args below meth c H locs cells slots (vx_MQ below Qc XC args s mc ms free) (F0 m pc ls rest) := by
  intro T hT X
  have htr : e.platform.stackTraces = false := (show e.platform.stackTraces = l.stackTraces by rw [X.admits.platform]).trans hl
  have Y := vx_rebase X (R' := { frames := R.frames, locals := R.locals, cells := 1, slots := 6 }) (Nat.le_refl _) (Nat.le_refl _) hRcells hRslots
  obtain ⟨s', hA⟩ : ∃ z, z = (T.setVm s.vm).setFrames (.invoking m args :: below) := ⟨_, rfl⟩
  rw [← hA] at Y
  have hvm : s'.vm = s.vm := by rw [hA]; rfl
  have hhp : s'.heap = H := by rw [hA]; exact hT
  have hW0 : s.WarmedH s'.vm := by rw [hvm]; exact State.WarmedH.refl s
  have hat' : ∀ w ∈ zx_L.filter vx_no, w.before args s' = true := fun w hw => vx_ot_at hW0 hvm.symm (hgood w (List.mem_cons_of_mem _ (List.mem_cons_of_mem _ hw))) (hat w hw)
  have hk' : (Cond.classLink RX7 117 zx_N).before args s' = true := vx_ot_at hW0 hvm.symm (hgood _ List.mem_cons_self) hk
  have hini' : (Cond.initialized zx_N).before args s' = true := vx_ot_at hW0 hvm.symm (hgood _ (List.mem_cons_of_mem _ List.mem_cons_self)) hini
  have hU' : vx_Zq Bundle.tN "UNASSIGNED_STACK" Bundle.steD A s' s'.heap := by rw [hhp]; exact vx_Zq.moved hW0.alike (hU.kept hS.2.1)
  have hN' : vx_Zq Bundle.tN "SUPPRESSED_SENTINEL" Bundle.listD A s' s'.heap := by rw [hhp]; exact vx_Zq.moved hW0.alike (hN.kept hS.2.1)
  have h : ∀ w ∈ zx_L, w.before args s' = true := vx_own hat' (vx_isRefq hU'.1) (vx_isRefq hN'.1) hU'.2.word hN'.2.word
  have hown' : s'.vm.findClass RX7 = some m.cls := by rw [hvm]; exact hown
  have hins : (Cond.instantiable zx_N 6).before args s' = true := h _ (zx_in5 (by simp [zx_own]))
  obtain ⟨vm₁, cX, kX, hfX, hkX, -, -, X₁, st1⟩ := Y.newCold hexec (own := RX7) (C := zx_N) (index := 117) (n := 6) hown' hk' hins hini'
    (g := F0 m pc ls rest) rfl (by rw [hb]; exact d0) (Nat.le_refl _) (Nat.le_refl _)
  generalize hT1 : (T.setVm vm₁).pushCell { cls := cX, slots := kX.instanceTypes.map defaultValue, vm := .none } = T1 at X₁ st1
  have hcat : (Value.ref T.heap.size).category = 1 := rfl
  have hcellA : T1.heap[T.heap.size]? = some (freshCell cX kX) := by rw [← hT1]; exact State.heap_pushCell_size _ _
  have d3' : decode c.code (pc + 3) = .ok (.dup, 1) := by rw [hb]; exact d3
  have d4' : decode c.code (pc + 4) = .ok (.ldc is, 2) := by rw [hb]; exact d4
  have hstr' : vk_R RX7 is text sa s' := vk_R.warm hW0 hstr
  obtain ⟨U, hsteps, hrun, hend, hW, hsame, ce, hce, hcl0, hcv⟩ := zx_ctor X₁ hexec htr hown' h (fun x hx => nomatch hx) hfX hkX hcellA (by rw [hhp, hT]; exact Nat.le_refl _) (msg := .ref sa) rfl
    (g := { method := m, pc := pc + 6, locals := ls, stack := .ref sa :: .ref T.heap.size :: .ref T.heap.size :: rest, locked := none }) rfl hsize rfl rfl (rest := rest) rfl
    (by rw [hb]; exact d6) (by rw [hb]; exact d9) hout hRframes (by simp only [List.map_cons, List.sum_cons, hcat]; show 2 * 0 + _ + _ ≤ R.locals; omega) hlocks
  obtain ⟨f1, f2⟩ := vx_frame hsame
  rw [hhp] at f1 f2
  have hWs : s.WarmedH U.vm := State.WarmedH.trans hW0 hW
  have hcl : s.vm.findClass zx_N = some ce.cls := by rw [hvm] at hcl0; exact hcl0
  have hall : s.sameButNew ({ U with vm := s.vm } : State) locs mc ms := by
    subst hA
    obtain ⟨e1, e2⟩ := hsame
    rw [State.setFrames_setFrames] at e1
    have h2 : (T.setVm s.vm).sameButNew ({ U with vm := s.vm } : State) [] (0 + 1) (0 + 6) := ⟨e1, e2⟩
    have h3 := X.same.trans h2
    rw [List.append_nil] at h3
    exact h3.mono hc hs
  refine ⟨U, ?_, .threw T.heap.size, hrun, hend, Or.inr ⟨T.heap.size, rfl, zx_N, ce, locs, hx U hWs.alike f1 (fun q hq => f2 q hq (fun z hz => nomatch hz)), hce, hcv, hcl, hWs, hall, hf⟩⟩
  refine st1 _ ?_
  show Steps p.tables e below (T1.setTop { method := m, pc := pc + 3, locals := ls, stack := .ref T.heap.size :: rest, locked := none }) _
  jvm_step X₁.here [X₁.here.top, hexec, d3', Value.category]
  exact X₁.ldcString hexec (own := RX7) (text := text) (index := is) (a := sa) hown' hstr'.1 hstr'.2
    (g := { method := m, pc := pc + 4, locals := ls, stack := .ref T.heap.size :: .ref T.heap.size :: rest, locked := none }) rfl d4' _ hsteps
end ZX2
-- contracts of methods that return or throw
/-- words that the tables alone decide, and that no list of good ones holds -/
def zx_B : List Cond := [.declares (Bundle.initS zx_R), .declares (Bundle.initS zx_E), .declares (Bundle.initS Bundle.tN), .castable zx_N zx_N]
def zx_Z (U : State) : Prop := va_Nw (.declares (Bundle.initS zx_R)) U ∧ va_Nw (.declares (Bundle.initS zx_E)) U ∧ va_Nw (.declares (Bundle.initS Bundle.tN)) U ∧ va_Nw (.castable zx_N zx_N) U
theorem zx_Z.warm {s U : State} (hW : s.WarmedH U.vm) (h : zx_Z s) : zx_Z U := ⟨h.1.warmD hW, h.2.1.warmD hW, h.2.2.1.warmD hW, h.2.2.2.warmC hW⟩
theorem zx_Z.same {u U : State} (hv : u.vm = U.vm) (h : zx_Z u) : zx_Z U := ⟨h.1.same rfl hv, h.2.1.same rfl hv, h.2.2.1.same rfl hv, h.2.2.2.same rfl hv⟩
theorem zx_Z.use {U : State} {args : Array Value} (h : zx_Z U) : ∀ w ∈ zx_B, w.before args U = true := by
  intro w hw
  rcases List.mem_cons.mp hw with rfl | hw
  · exact h.1.use rfl
  · rcases List.mem_cons.mp hw with rfl | hw
    · exact h.2.1.use rfl
    · rcases List.mem_cons.mp hw with rfl | hw
      · exact h.2.2.1.use rfl
      · rw [List.mem_singleton.mp hw]; exact h.2.2.2.use rfl
def zj_XC (E : zj_E) (A : Nat → Prop) (h : zj_H) (g : zj_G) : String → State → State → Prop := fun En st t => En = zx_N ∧ va_P E.1 zj_cl (zj_ws E h g) t.heap ∧ va_F A st t
def zj_roomX (d : Nat) : Room := { frames := d, cells := 1, slots := 6, locals := 35 * d }
def zj_MX (l : Launch) (E : zj_E) (y : MethodName) (b : ByteArray) (mL : Nat) (ret : Option FieldType) (d : Nat) (As : List Value) (h : zj_H) (g : zj_G) (Post : zj_P) (Thr : Prop) : Prop :=
  ∀ sz : Nat, vx_Met l y (.code y b mL ret :: zj_tbl) (zj_roomX d) (va_Pc As (fun U => zj_Pre E sz h g U ∧ zx_Z U)) (zj_Q E (va_A (zj_ws E h g) sz) Post) (fun En st t => Thr ∧ zj_XC E (va_A (zj_ws E h g) sz) h g En st t) 1 6 (va_A (zj_ws E h g) sz)
def zj_RX (E : zj_E) (Γ : zj_Γ) (ret : Option FieldType) (Post : zj_P) (Thr : Prop) (h0 : zj_H) (g0 : zj_G) : Prop := match Γ with
  | (_, _, _, R, s, _, args, below, meth, c, A, Q, cells, slots) => meth.sig.returnType = ret ∧ meth.locks = false ∧ Q = vx_MQ below (zj_Q E A Post) (fun En st t => Thr ∧ zj_XC E A h0 g0 En st t) args s 1 6 A ∧ cells = 0 ∧ slots = 0 ∧ 1 ≤ R.cells ∧ 6 ≤ R.slots ∧ zx_Z s ∧ ∀ x ∈ c.exceptionTable.toList, False
theorem zj_MX.of {l : Launch} {E : zj_E} {y : MethodName} {b : ByteArray} {mL : Nat} {ret : Option FieldType} {d : Nat} {As : List Value} {h : zj_H} {g : zj_G} {Post : zj_P} {Thr : Prop} (own : String) (hy : plainName y.cls = true) (ho : y.cls = own) (hlen : (lg_sl As).length ≤ mL)
    (body : ∀ Γ : zj_Γ, Γ.2.1 = l → zj_C E Γ b mL own d → zj_RX E Γ ret Post Thr h g → zj_J E Γ mL 0 (lv_args 0 As) [] h g) : zj_MX l E y b mL ret d As h g Post Thr := by
  intro sz
  refine vx_ofW (cc := b) (maxL := mL) (ret := ret) hy rfl ?_
  intro p e s m args below meth c s₁ B hml htab hv
  obtain ⟨rfl, ⟨hsz, hP, hK, hD0, hX⟩, hZ⟩ := hv
  subst hsz
  have hts := atoms_spec (ws := (.code y b mL ret :: zj_tbl)) B.pre
  have hown : s.vm.findClass own = some m.cls := by rw [← ho]; exact findClass_of_methodNamed B.named
  have hD : ∀ h' g', va_D (va_A (zj_ws E h g) s.heap.size) (zj_ws E h' g') := fun h' g' => by
    rw [zj_A_any (h' := h') (g' := g')]
    exact (hD0 h' g').self (sz := s.heap.size)
  have hl := lv_entry As (n := mL) hlen
  rw [lg_entry_eq]
  exact body (p, l, e, zj_roomX d, s, m, As.toArray, below, meth, c, va_A (zj_ws E h g) s.heap.size, vx_MQ below (zj_Q E (va_A (zj_ws E h g) s.heap.size) Post) (fun En st t => Thr ∧ zj_XC E (va_A (zj_ws E h g) s.heap.size) h g En st t) As.toArray s 1 6 (va_A (zj_ws E h g) s.heap.size), 0, 0) rfl
    ⟨B.exec, B.bytes, hml, hown, fun w hw => hts w (List.mem_cons_of_mem _ hw), hK, fun q hq => Or.inr hq, hD, hX, Nat.le_refl _, Nat.le_refl _, Nat.zero_le _, Nat.zero_le _⟩
    ⟨B.returns, B.notSynchronized, rfl, rfl, rfl, Nat.le_refl _, Nat.le_refl _, hZ, htab⟩ _ s.heap [] hl hP va_S.rf
section ZX3
variable {E : zj_E} {Γ : zj_Γ} {cc : ByteArray} {nL d pc : Nat} {own : String} {L : List (Nat × Value)} {S : List Value} {h : zj_H} {g : zj_G}
theorem zj_iretX (K : zj_C E Γ cc nL own d) {Post : zj_P} {Thr : Prop} {h0 : zj_H} {g0 : zj_G} {v : Int32} (Rt : zj_RX E Γ (some .int) Post Thr h0 g0) (hdg : decode cc pc = .ok (.ireturn, 1)) (hp : Post (some (.int v)) h g) : zj_J E Γ nL pc L [.int v] h g := by
  obtain ⟨p, l, e, R, s, m, args, below, meth, c, A, Q, cells, slots⟩ := Γ
  obtain ⟨hx, hb, hml, hown, hts, hK, hA, hD, hX, hfr, hlo, hce, hsl⟩ := K
  obtain ⟨hr, hlocks, hQ, hc0, hs0, -, -, -, -⟩ := Rt
  subst hQ; subst hc0; subst hs0
  intro ls H locs hl hP hS
  refine W.widen (Nat.zero_le 1) (Nat.zero_le 6) (vx_ret ?_)
  exact W.iret hx hb hr (fun t ht hW => ⟨⟨_, h, g, rfl, hp, by rw [ht]; exact hP⟩, hS.F ht⟩) hS.2.2 hdg hlocks
end ZX3
theorem zx_pl : zx_L.filter vx_no = [70, 821, 830, 832, 835, 837, 822, 823, 81, 82, 824, 829, 833, 853, 811, 854, 813, 855, 815, 825, 827, 817, 849, 850, 852, 817, 840, 841, 842, 843, 803, 843, 844, 845, 846, 805, 846, 847, 848, 849, 807, 839, 800, 801, 808, 809, 810, 812, 814, 816, 820, 819, 818].filterMap (fun i => lw_tbl[i]?) := by decide +kernel
theorem zx_ot : (zx_L.filter vx_no).all vx_ot = true := by decide +kernel
theorem zx_hb : ∀ w ∈ (zx_L.filter vx_no).filter (fun w => !goodWord w), w ∈ zx_B := by decide +kernel
theorem zx_hw : ∀ w ∈ (zx_L.filter vx_no).filter goodWord, w ∈ zj_tbl := by
  intro w hw
  obtain ⟨h1, h2⟩ := List.mem_filter.mp hw
  rw [zx_pl] at h1
  obtain ⟨i, -, hi⟩ := List.mem_filterMap.mp h1
  exact List.mem_filter.mpr ⟨List.mem_of_getElem? hi, h2⟩
theorem zx_cl : Cond.classLink RX7 117 zx_N ∈ zj_tbl := List.mem_filter.mpr ⟨List.mem_of_getElem? (i := 799) (by decide +kernel), by decide +kernel⟩
theorem zx_in : Cond.initialized zx_N ∈ zj_tbl := List.mem_filter.mpr ⟨List.mem_of_getElem? (i := 73) (by decide +kernel), by decide +kernel⟩
section ZX4
variable {E : zj_E} {Γ : zj_Γ} {cc : ByteArray} {nL d pc : Nat} {own : String} {L : List (Nat × Value)} {S : List Value} {h : zj_H} {g : zj_G}
theorem zj_throw (K : zj_C E Γ cc nL RX7 d) {Post : zj_P} {Thr : Prop} {ret : Option FieldType} (Rt : zj_RX E Γ ret Post Thr h g) (hth : Thr) (hl : Γ.2.1.stackTraces = false) {is : Nat} {tx : String} (hk : (is, tx) ∈ zj_xkey) (hd6 : 6 ≤ d)
    (d0 : decode cc pc = .ok (.new 117, 3)) (d3 : decode cc (pc + 3) = .ok (.dup, 1)) (d4 : decode cc (pc + 4) = .ok (.ldc is, 2)) (d6 : decode cc (pc + 6) = .ok (.invokespecial 121, 3)) (d9 : decode cc (pc + 9) = .ok (.athrow, 1)) : zj_J E Γ nL pc L [] h g := by
  obtain ⟨p, l, e, R, s, m, args, below, meth, c, A, Q, cells, slots⟩ := Γ
  obtain ⟨hx, hb, hml, hown, hts, hK, hA, hD, hX, hfr, hlo, hce, hsl⟩ := K
  obtain ⟨hr, hlocks, hQ, hc0, hs0, hc1, hs1, hZ, htab⟩ := Rt
  subst hQ; subst hc0; subst hs0
  intro ls H locs hl2 hP hS
  obtain ⟨sa, hsa⟩ := hX.2.2.2.2.2.2.2 _ hk
  have hgw : ∀ w ∈ zj_tbl, vx_ot w = true := fun w hw => by
    unfold vx_ot; rw [(List.mem_filter.mp hw).2, Bool.or_true]
  refine zx_throw (A := A) hx hb hl hown (hts _ zx_cl) (hts _ zx_in) hsa (vx_hat (fun w hw => hts _ (zx_hw w hw)) zx_hb hZ.use) ?_ hX.2.2.2.2.2.1 hX.2.2.2.2.2.2.1 hS (by rw [hml]; exact hl2.1) d0 d3 d4 d6 d9 (fun x hx => (htab x hx).elim) (by omega) (by show 0 + 82 ≤ R.locals; omega) (by omega) (by omega) hlocks (fun t _ hz hk => ⟨hth, rfl, ?_, ?_⟩) hS.2.2 (Nat.le_refl _) (Nat.le_refl _)
  · intro w hw
    rcases List.mem_cons.mp hw with rfl | hw
    · exact hgw _ zx_cl
    · rcases List.mem_cons.mp hw with rfl | hw
      · exact hgw _ zx_in
      · exact List.all_eq_true.mp zx_ot w hw
  · exact hP.kept (fun k x hkx => hk x.1 ((hP k x hkx).lt))
  · exact ⟨Nat.le_trans hS.1 hz, fun q h1 h2 => (hk q (Nat.lt_of_lt_of_le h1 hS.1)).trans (hS.2.1 q h1 h2)⟩
end ZX4
