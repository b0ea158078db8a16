-- a world that grows: cells pre, and behind them rest, in the order of their making
abbrev zi_Γ : Type := Program × Launch × Env × Room × State × MethodId × Array Value × List Frame × Method × Code × (Nat → Prop) × (State → Prop)
def zi_tys (dA : Nat → ClassId) : List (ClassId × FieldType) := [(dA 0, .int), (dA 1, .byte), (dA 2, .long), (dA 3, .object RX1)]
def zi_X (U : State) : Prop := va_Nw (.methodLinkNest RX0 24 yX2_init RX7) U ∧ va_AO RX1 U
def zi_J (D : va_G) (Γ : zi_Γ) (nL pc : Nat) (L : List (Nat × Value)) (S : List Value) (pre rest : va_W) (ce sl : Nat) : Prop := match Γ with
  | (p, l, e, R, s, m, args, below, meth, c, A, Q) => ∀ (ls : Array Slot) (H : Heap) (locs : List Loc), lv_has ls nL L → va_P D zj_cl (pre ++ rest) H → va_D A (pre ++ rest) → va_S A s.heap H locs → W p l e R s m args below meth c H locs ce sl Q (F0 m pc ls S)
def zi_C (D : va_G) (dA : Nat → ClassId) (Γ : zi_Γ) (cc : ByteArray) (nL : Nat) (own : String) (d mc ms : Nat) : Prop := match Γ with
  | (p, _, _, R, s, m, args, _, _, c, A, _) => p.tables.exec = Jvm.exec ∧ c.code = cc ∧ c.maxLocals = nL ∧ s.vm.findClass own = some m.cls ∧ (∀ w ∈ zj_tbl, w.before args s = true) ∧ va_K D zj_cl (zi_tys dA) s ∧ (∀ q, s.heap.size ≤ q → A q) ∧ zi_X s ∧ d ≤ R.frames ∧ 35 * d ≤ R.locals ∧ mc ≤ R.cells ∧ ms ≤ R.slots
def zi_Pre (D : va_G) (dA : Nat → ClassId) (sz : Nat) (ws : va_W) (U : State) : Prop := U.heap.size = sz ∧ va_P D zj_cl ws U.heap ∧ va_K D zj_cl (zi_tys dA) U ∧ va_D (fun _ => True) ws ∧ zi_X U
def zi_Q (D : va_G) (A : Nat → Prop) (pre : va_W) (Post : va_W → Prop) : Array Value → State → Outcome → State → Prop := fun _ st oc t => (∃ rest, oc = .returned none ∧ Post rest ∧ va_P D zj_cl (pre ++ rest) t.heap ∧ va_D A (pre ++ rest)) ∧ va_F A st t
def zi_room (d mc ms : Nat) : Room := { frames := d, cells := mc, slots := ms, locals := 35 * d }
def zi_M (l : Launch) (D : va_G) (dA : Nat → ClassId) (y : MethodName) (b : ByteArray) (mL d mc ms : Nat) (As : List Value) (pre rest : va_W) (Post : va_W → Prop) : Prop :=
  ∀ sz : Nat, Met l y (.code y b mL none :: zj_tbl) (zi_room d mc ms) (va_Pc As (zi_Pre D dA sz (pre ++ rest))) (zi_Q D (va_A (pre ++ rest) sz) pre Post) mc ms (va_A (pre ++ rest) sz)
def zi_R (D : va_G) (Γ : zi_Γ) (pre : va_W) (Post : va_W → Prop) (mc ms : Nat) : Prop := match Γ with
  | (_, _, _, _, s, _, args, below, meth, _, A, Q) => meth.sig.returnType = none ∧ meth.locks = false ∧ meth.name = "<init>" ∧ Q = MQ below (zi_Q D A pre Post) args s mc ms A
theorem zi_M.of {l : Launch} {D : va_G} {dA : Nat → ClassId} {y : MethodName} {b : ByteArray} {mL d mc ms : Nat} {As : List Value} {pre rest : va_W} {Post : va_W → Prop} (own : String) (hy : plainName y.cls = true) (ho : y.cls = own) (hnm : y.name = "<init>") (hlen : (lg_sl As).length ≤ mL)
    (body : ∀ Γ : zi_Γ, Γ.2.1 = l → zi_C D dA Γ b mL own d mc ms → zi_R D Γ pre Post mc ms → zi_J D Γ mL 0 (lv_args 0 As) [] pre rest 0 0) : zi_M l D dA y b mL d mc ms As pre rest Post := by
  intro sz
  refine Met.ofW (cc := b) (maxL := mL) (ret := none) hy rfl ?_
  intro p e s m args below meth c s₁ B hml hv
  obtain ⟨rfl, hsz, hP, hK, hD0, hX⟩ := hv
  subst hsz
  have hts := atoms_spec (ws := (.code y b mL none :: zj_tbl)) B.pre
  have hown : s.vm.findClass own = some m.cls := by rw [← ho]; exact findClass_of_methodNamed B.named
  have hl := lv_entry As (n := mL) hlen
  rw [lg_entry_eq]
  have hin : meth.name = "<init>" := by rw [← hnm]; exact (name_of_methodNamed B.named B.method).1
  exact body (p, l, e, zi_room d mc ms, s, m, As.toArray, below, meth, c, va_A (pre ++ rest) s.heap.size, MQ below (zi_Q D (va_A (pre ++ rest) s.heap.size) pre Post) As.toArray s mc ms (va_A (pre ++ rest) s.heap.size)) rfl
    ⟨B.exec, B.bytes, hml, hown, fun w hw => hts w (List.mem_cons_of_mem _ hw), hK, fun q hq => Or.inr hq, hX, Nat.le_refl _, Nat.le_refl _, Nat.le_refl _, Nat.le_refl _⟩
    ⟨B.returns, B.notSynchronized, hin, rfl⟩ _ s.heap [] hl hP (hD0.self (sz := s.heap.size)) va_S.rf
theorem zi_at (pre rest : va_W) (k : Nat) : (pre ++ rest)[pre.length + k]? = rest[k]? := by
  rw [List.getElem?_append_right (by omega), show pre.length + k - pre.length = k by omega]
theorem zi_set (pre rest : va_W) (k : Nat) (x : Nat × va_E) : (pre ++ rest).set (pre.length + k) x = pre ++ rest.set k x := by
  induction pre with
  | nil => rw [List.length_nil, Nat.zero_add]; rfl
  | cons p ps ih =>
    rw [List.length_cons, show ps.length + 1 + k = (ps.length + k) + 1 by omega]
    show p :: ((ps ++ rest).set (ps.length + k) x) = p :: (ps ++ rest.set k x)
    rw [ih]
theorem zi_oi : Cond.instanceMethod objectInit ∈ zj_tbl := List.mem_filter.mpr ⟨List.mem_of_getElem? (i := 81) (by decide +kernel), by decide +kernel⟩
theorem zi_oc : Cond.code objectInit ⟨#[0xb1]⟩ 1 none ∈ zj_tbl := List.mem_filter.mpr ⟨List.mem_of_getElem? (i := 82) (by decide +kernel), by decide +kernel⟩
section ZI
variable {D : va_G} {dA : Nat → ClassId} {Γ : zi_Γ} {cc : ByteArray} {nL d pc mc ms ce sl : Nat} {own : String} {L : List (Nat × Value)} {S : List Value} {pre rest : va_W}
theorem zi_iconst (K : zi_C D dA Γ cc nL own d mc ms) {n : Int} {v : Int32} (hdg : decode cc pc = .ok (.iconst n, 1)) (hv : Int32.ofInt n = v) (k : zi_J D Γ nL (pc + 1) L (.int v :: S) pre rest ce sl) : zi_J D Γ nL pc L (S) pre rest ce sl := by
  obtain ⟨p, l, e, R, s, m, args, below, meth, c, A, Q⟩ := Γ
  obtain ⟨hx, hb, hml, hown, hts, hK, hA, hX, hfr, hlo, hmc, hms⟩ := K
  intro ls H locs hl hP hD hS
  exact lv_iconst hx hb hdg hv (k ls H locs hl hP hD hS)
theorem zi_bipush (K : zi_C D dA Γ cc nL own d mc ms) {n : Int} {v : Int32} (hdg : decode cc pc = .ok (.bipush n, 2)) (hv : (Int8.ofInt n).toInt32 = v) (k : zi_J D Γ nL (pc + 2) L (.int v :: S) pre rest ce sl) : zi_J D Γ nL pc L (S) pre rest ce sl := by
  obtain ⟨p, l, e, R, s, m, args, below, meth, c, A, Q⟩ := Γ
  obtain ⟨hx, hb, hml, hown, hts, hK, hA, hX, hfr, hlo, hmc, hms⟩ := K
  intro ls H locs hl hP hD hS
  exact lv_bipush hx hb hdg hv (k ls H locs hl hP hD hS)
theorem zi_sipush (K : zi_C D dA Γ cc nL own d mc ms) {n : Int} {v : Int32} (hdg : decode cc pc = .ok (.sipush n, 3)) (hv : (Int16.ofInt n).toInt32 = v) (k : zi_J D Γ nL (pc + 3) L (.int v :: S) pre rest ce sl) : zi_J D Γ nL pc L (S) pre rest ce sl := by
  obtain ⟨p, l, e, R, s, m, args, below, meth, c, A, Q⟩ := Γ
  obtain ⟨hx, hb, hml, hown, hts, hK, hA, hX, hfr, hlo, hmc, hms⟩ := K
  intro ls H locs hl hP hD hS
  exact lv_sipush hx hb hdg hv (k ls H locs hl hP hD hS)
theorem zi_aload_n (K : zi_C D dA Γ cc nL own d mc ms) {k0 : Fin 4} {i : Nat} {x : Nat} (hdg : decode cc pc = .ok (.aload_n k0, 1)) (hi : (k0 : Nat) = i) (hv : zj_get L i = some (.ref x)) (k : zi_J D Γ nL (pc + 1) L (.ref x :: S) pre rest ce sl) : zi_J D Γ nL pc L S pre rest ce sl := by
  obtain ⟨p, l, e, R, s, m, args, below, meth, c, A, Q⟩ := Γ
  obtain ⟨hx, hb, hml, hown, hts, hK, hA, hX, hfr, hlo, hmc, hms⟩ := K
  intro ls H locs hl hP hD hS
  exact lv_aload_n (i := i) hx hb hdg hi (hl.2.2 _ (zj_get_mem hv)) (k ls H locs hl hP hD hS)
theorem zi_iload_n (K : zi_C D dA Γ cc nL own d mc ms) {k0 : Fin 4} {i : Nat} {x : Int32} (hdg : decode cc pc = .ok (.iload_n k0, 1)) (hi : (k0 : Nat) = i) (hv : zj_get L i = some (.int x)) (k : zi_J D Γ nL (pc + 1) L (.int x :: S) pre rest ce sl) : zi_J D Γ nL pc L S pre rest ce sl := by
  obtain ⟨p, l, e, R, s, m, args, below, meth, c, A, Q⟩ := Γ
  obtain ⟨hx, hb, hml, hown, hts, hK, hA, hX, hfr, hlo, hmc, hms⟩ := K
  intro ls H locs hl hP hD hS
  exact lv_iload_n (i := i) hx hb hdg hi (hl.2.2 _ (zj_get_mem hv)) (k ls H locs hl hP hD hS)
theorem zi_dup (K : zi_C D dA Γ cc nL own d mc ms) {va : Value} (hdg : decode cc pc = .ok (.dup, 1)) (hva : va.category = 1) (k : zi_J D Γ nL (pc + 1) L (va :: va :: S) pre rest ce sl) : zi_J D Γ nL pc L (va :: S) pre rest ce sl := by
  obtain ⟨p, l, e, R, s, m, args, below, meth, c, A, Q⟩ := Γ
  obtain ⟨hx, hb, hml, hown, hts, hK, hA, hX, hfr, hlo, hmc, hms⟩ := K
  intro ls H locs hl hP hD hS
  exact lv_dup hx hb hdg hva (k ls H locs hl hP hD hS)
theorem zi_istore_n (K : zi_C D dA Γ cc nL own d mc ms) {k0 : Fin 4} {i : Nat} {x : Int32} (hdg : decode cc pc = .ok (.istore_n k0, 1)) (hi : (k0 : Nat) = i) (hn : Nat.blt i nL = true) (ha : zj_asc L = true) (h1 : zj_one L = true) (k : zi_J D Γ nL (pc + 1) (zj_ins L i (.int x)) S pre rest ce sl) : zi_J D Γ nL pc L (.int x :: S) pre rest ce sl := by
  obtain ⟨p, l, e, R, s, m, args, below, meth, c, A, Q⟩ := Γ
  obtain ⟨hx, hb, hml, hown, hts, hK, hA, hX, hfr, hlo, hmc, hms⟩ := K
  intro ls H locs hl hP hD hS
  exact lv_istore_n (i := i) hx hb hdg hi hl (Nat.blt_eq.mp hn) rfl (fun ls hl => k ls H locs (zj_has_of (lv' := []) ha (zj_one_of h1) hl) hP hD hS)
theorem zi_iinc (K : zi_C D dA Γ cc nL own d mc ms) {i : Nat} {n : Int} {x v : Int32} (hdg : decode cc pc = .ok (.iinc i n, 3)) (hv : zj_get L i = some (.int x)) (hw : Int32.ofInt n = v) (hn : Nat.blt i nL = true) (ha : zj_asc L = true) (h1 : zj_one L = true) (k : zi_J D Γ nL (pc + 3) (zj_ins L i (.int (x + v))) S pre rest ce sl) : zi_J D Γ nL pc L S pre rest ce sl := by
  obtain ⟨p, l, e, R, s, m, args, below, meth, c, A, Q⟩ := Γ
  obtain ⟨hx, hb, hml, hown, hts, hK, hA, hX, hfr, hlo, hmc, hms⟩ := K
  intro ls H locs hl hP hD hS
  obtain ⟨k9, hk9⟩ := List.getElem?_of_mem (zj_get_mem hv)
  exact lv_iinc (v := x + v) hx hb hdg hl hk9 (by rw [hw]) (Nat.blt_eq.mp hn) rfl (fun ls hl => k ls H locs (zj_has_of (lv' := []) ha (zj_one_of h1) hl) hP hD hS)
theorem zi_goto (K : zi_C D dA Γ cc nL own d mc ms) {off : Int} {tgt : Nat} (hdg : decode cc pc = .ok (.goto off, 3)) (ht : (pc : Int) + off = (tgt : Int)) (k : zi_J D Γ nL tgt L S pre rest ce sl) : zi_J D Γ nL pc L S pre rest ce sl := by
  obtain ⟨p, l, e, R, s, m, args, below, meth, c, A, Q⟩ := Γ
  obtain ⟨hx, hb, hml, hown, hts, hK, hA, hX, hfr, hlo, hmc, hms⟩ := K
  intro ls H locs hl hP hD hS
  exact lv_goto hx hb hdg ht (k ls H locs hl hP hD hS)
theorem zi_icmp_ge (K : zi_C D dA Γ cc nL own d mc ms) {x y : Int32} {off : Int} {tgt : Nat} (hdg : decode cc pc = .ok (.if_icmp .ge off, 3)) (ht : (pc : Int) + off = (tgt : Int)) (kt : y ≤ x → zi_J D Γ nL tgt L S pre rest ce sl) (kf : ¬ y ≤ x → zi_J D Γ nL (pc + 3) L S pre rest ce sl) : zi_J D Γ nL pc L (.int y :: .int x :: S) pre rest ce sl := by
  obtain ⟨p, l, e, R, s, m, args, below, meth, c, A, Q⟩ := Γ
  obtain ⟨hx, hb, hml, hown, hts, hK, hA, hX, hfr, hlo, hmc, hms⟩ := K
  intro ls H locs hl hP hD hS
  exact lv_icmp_ge hx hb hdg ht (fun c0 => kt c0 ls H locs hl hP hD hS) (fun c0 => kf c0 ls H locs hl hP hD hS)
theorem zi_obj (K : zi_C D dA Γ cc nL own d mc ms) {idx a : Nat} (hw : Cond.methodLink own idx objectInit ∈ zj_tbl) (hd1 : 1 ≤ d) (hcat : (S.map fun v => v.category).sum ≤ 8) (hdg : decode cc pc = .ok (.invokespecial idx, 3)) (k : zi_J D Γ nL (pc + 3) L S pre rest ce sl) : zi_J D Γ nL pc L (.ref a :: S) pre rest ce sl := by
  obtain ⟨p, l, e, R, s, m, args, below, meth, c, A, Q⟩ := Γ
  obtain ⟨hx, hb, hml, hown, hts, hK, hA, hX, hfr, hlo, hmc, hms⟩ := K
  intro ls H locs hl hP hD hS
  refine W.objInit hx hb hown (hts _ hw) (hts _ zi_oi) (hts _ zi_oc) rfl (by rw [hml]; exact hl.1) rfl hdg (by omega) (by show 2 * 0 + _ + 12 ≤ R.locals; omega) ?_
  exact k ls H locs hl hP hD hS
theorem zi_new (K : zi_C D dA Γ cc nL own d mc ms) {index ci N : Nat} {C : String} {T : u_T} {fs : List Value} (ty : Nat → FieldType) (hc : zj_cl[ci]? = some (C, T, N)) (hty : ∀ k, k < N → parseFieldDescriptor (T k).2.2.1 = some (ty k)) (hfs : ∀ j, j < N → defaultValue (ty j) = vp_V fs j) (hw1 : Cond.classLink own index C ∈ zj_tbl) (hw2 : Cond.instantiable C N ∈ zj_tbl) (hw3 : Cond.initialized C ∈ zj_tbl) (hcc : ce + 1 ≤ mc) (hss : sl + N ≤ ms) (hdg : decode cc pc = .ok (.new index, 3))
    (k : ∀ q : Nat, zi_J D Γ nL (pc + 3) L (.ref q :: S) pre (rest ++ [(q, .inr (ci, fs))]) (ce + 1) (sl + N)) : zi_J D Γ nL pc L S pre rest ce sl := by
  obtain ⟨p, l, e, R, s, m, args, below, meth, c, A, Q⟩ := Γ
  obtain ⟨hx, hb, hml, hown, hts, hK, hA, hX, hfr, hlo, hmc, hms⟩ := K
  intro ls H locs hl hP hD hS
  refine va_new (C := C) (T := T) (N := N) (fs := fs) hx hb hts (zj_clIn ci C T N hc).1 ty hty hown (hts _ hw1) (hts _ hw2) (hts _ hw3) hK hP hD hS hA hc hfs (by omega) (by omega) hdg (fun q H1 hP1 hD1 hS1 => ?_)
  rw [List.append_assoc] at hP1 hD1
  exact k q ls H1 locs hl hP1 hD1 hS1
theorem zi_ra {s : State} {c1 c2 : ClassId} {ty : FieldType} (hob : ∀ C, ty ≠ .object C) (h1 : va_RA s c1 ty) (h2 : va_RA s c2 ty) : c1 = c2 := by
  cases ty with
  | object C => exact absurd rfl (hob C)
  | _ => exact Option.some.inj (h1.symm.trans h2)
theorem zi_newa (K : zi_C D dA Γ cc nL own d mc ms) {atype : ArrayType} {ty : FieldType} {kd N : Nat} {n : Int32} {a0 : vp_A} (hty : newarray.typeOf atype = ty) (hw : Cond.arrayClass (newarray.typeOf atype) ∈ zj_tbl) (hkd : (zi_tys dA)[kd]? = some (dA kd, ty)) (hob : ∀ C, ty ≠ .object C) (ha : ∀ cA : ClassId, vp_cell cA a0 = arrV cA N (fun _ => defaultValue ty)) (hn : ¬ n < 0) (hN : n.toNatClampNeg = N) (hbytes : N * componentBytes ty ≤ 536870912) (hcc : ce + 1 ≤ mc) (hss : sl + N ≤ ms) (hdg : decode cc pc = .ok (.newarray atype, 2))
    (k : ∀ q : Nat, zi_J D Γ nL (pc + 2) L (.ref q :: S) pre (rest ++ [(q, .inl (dA kd, a0))]) (ce + 1) (sl + N)) : zi_J D Γ nL pc L (.int n :: S) pre rest ce sl := by
  obtain ⟨p, l, e, R, s, m, args, below, meth, c, A, Q⟩ := Γ
  obtain ⟨hx, hb, hml, hown, hts, hK, hA, hX, hfr, hlo, hmc, hms⟩ := K
  intro ls H locs hl hP hD hS
  refine va_newa (atype := atype) (ty := ty) (a0 := a0) hx hb (hts _ hw) hty hK hP hD hS hA ha hn hN hbytes (by omega) (by omega) hdg (fun q cA H1 hK1 hP1 hD1 hS1 => ?_)
  have e1 : cA = dA kd := zi_ra hob (hK1.2 4 (cA, ty) rfl).2 (hK.2 kd _ hkd).2
  subst e1
  rw [List.append_assoc] at hP1 hD1
  exact k q ls H1 locs hl hP1 hD1 hS1
theorem zi_newq (K : zi_C D dA Γ cc nL own d mc ms) {index N : Nat} {n : Int32} (hw : Cond.classLink own index RX1 ∈ zj_tbl) (hn : ¬ n < 0) (hN : n.toNatClampNeg = N) (hbytes : N * 4 ≤ 536870912) (hcc : ce + 1 ≤ mc) (hss : sl + N ≤ ms) (hdg : decode cc pc = .ok (.anewarray index, 3))
    (k : ∀ q : Nat, zi_J D Γ nL (pc + 3) L (.ref q :: S) pre (rest ++ [(q, .inl (dA 3, N, .inr (.inr (.inr (.inr (fun _ => none))))))]) (ce + 1) (sl + N)) : zi_J D Γ nL pc L (.int n :: S) pre rest ce sl := by
  obtain ⟨p, l, e, R, s, m, args, below, meth, c, A, Q⟩ := Γ
  obtain ⟨hx, hb, hml, hown, hts, hK, hA, hX, hfr, hlo, hmc, hms⟩ := K
  intro ls H locs hl hP hD hS
  refine va_newq (C := RX1) hx hb hown (hts _ hw) hX.2 hK hP hD hS hA hn hN hbytes (by omega) (by omega) hdg (fun q cA H1 hK1 hP1 hD1 hS1 => ?_)
  have e1 : cA = dA 3 := by
    obtain ⟨k1, c1, _, _, _, h1⟩ := (hK1.2 4 (cA, .object RX1) rfl).2
    obtain ⟨k2, c2, _, _, _, h2⟩ := (hK.2 3 (dA 3, .object RX1) rfl).2
    exact Option.some.inj (h1.symm.trans h2)
  subst e1
  rw [List.append_assoc] at hP1 hD1
  exact k q ls H1 locs hl hP1 hD1 hS1
theorem zi_get (K : zi_C D dA Γ cc nL own d mc ms) {index ci k i a : Nat} {ty : FieldType} {fin : Bool} {fs : List Value} {v : Value} (hl0 : zj_fl own index ci k ty fin) (he : rest[i]? = some (a, .inr (ci, fs))) (hk : fs[k]? = some v) (hdg : decode cc pc = .ok (.getfield index, 3)) (kk : zi_J D Γ nL (pc + 3) L (v :: S) pre rest ce sl) : zi_J D Γ nL pc L (.ref a :: S) pre rest ce sl := by
  obtain ⟨p, l, e, R, s, m, args, below, meth, c, A, Q⟩ := Γ
  obtain ⟨hx, hb, hml, hown, hts, hK, hA, hX, hfr, hlo, hmc, hms⟩ := K
  obtain ⟨C, T, N, hc, hkN, hw, hd, hf⟩ := hl0
  intro ls H locs hl hP hD hS
  exact va_get (D := D) (ci := ci) (C := C) (T := T) (N := N) (v := v) hx hb hts (zj_clIn ci C T N hc).1 hown hK hP (pre.length + i) ((zi_at pre rest i).trans he) hc k hkN (hts _ hw) (fun _ h9 => h9) hk hdg (kk ls H locs hl hP hD hS)
theorem zi_put (K : zi_C D dA Γ cc nL own d mc ms) {Post : va_W → Prop} (Rt : zi_R D Γ pre Post mc ms) {index ci k i a : Nat} {ty : FieldType} {fin : Bool} {fs : List Value} {v : Value} (hl0 : zj_fl own index ci k ty fin) (he : rest[i]? = some (a, .inr (ci, fs))) (hdec : ∀ C T N, zj_cl[ci]? = some (C, T, N) → (T k).1 = own) (hnn : narrow ty v = v) (hfit : fits ty v = true) (hkl : k < fs.length) (hdg : decode cc pc = .ok (.putfield index, 3)) (kk : zi_J D Γ nL (pc + 3) L S pre (rest.set i (a, .inr (ci, fs.set k v))) ce sl) : zi_J D Γ nL pc L (v :: .ref a :: S) pre rest ce sl := by
  obtain ⟨p, l, e, R, s, m, args, below, meth, c, A, Q⟩ := Γ
  obtain ⟨hx, hb, hml, hown, hts, hK, hA, hX, hfr, hlo, hmc, hms⟩ := K
  obtain ⟨C, T, N, hc, hkN, hw, hd, hf⟩ := hl0
  obtain ⟨hin, ⟨ty0, hty⟩, hnm⟩ := zj_clIn ci C T N hc
  obtain ⟨-, -, hini, -⟩ := Rt
  intro ls H locs hl hP hD hS
  have fin1 : ∀ (H1 : Heap) (locs1 : List Loc), va_P D zj_cl ((pre ++ rest).set (pre.length + i) (a, .inr (ci, fs.set k v))) H1 → va_D A ((pre ++ rest).set (pre.length + i) (a, .inr (ci, fs.set k v))) → va_S A s.heap H1 locs1 → W p l e R s m args below meth c H1 locs1 ce sl Q (F0 m (pc + 3) ls S) := fun H1 locs1 hP1 hD1 hS1 => by
    rw [zi_set] at hP1 hD1
    exact kk ls H1 locs1 hl hP1 hD1 hS1
  cases fin with
  | false => exact va_put (D := D) (ci := ci) (v := v) (ty := ty) (C := C) (T := T) (N := N) hx hb hts hin ty0 hty hnm hown hK hP hD hS (pre.length + i) ((zi_at pre rest i).trans he) hc k hkN (hts _ hw) (fun _ h9 => h9) hf hd hnn hfit hkl hdg fin1
  | true => exact va_putF (D := D) (ci := ci) (v := v) (ty := ty) (C := C) (T := T) (N := N) hx hb hts hin ty0 hty hnm hown hK hP hD hS (pre.length + i) ((zi_at pre rest i).trans he) hc k hkN (hts _ hw) (fun _ h9 => h9) hf hini (hdec C T N hc) hd hnn hfit hkl hdg fin1
theorem zi_ast (K : zi_C D dA Γ cc nL own d mc ms) {i j a v n : Nat} {x : Int32} {vs : List Value} {f : Nat → Option Nat} (ha : rest[i]? = some (a, .inl (dA 3, n, .inr (.inr (.inr (.inr f)))))) (hv : rest[j]? = some (v, .inr (1, vs))) (hin : vp_in x n) (hdg : decode cc pc = .ok (.aastore, 1))
    (kk : zi_J D Γ nL (pc + 1) L S pre (rest.set i (a, .inl (dA 3, n, .inr (.inr (.inr (.inr (va_up f x.toNatClampNeg (some v)))))))) ce sl) : zi_J D Γ nL pc L (.ref v :: .int x :: .ref a :: S) pre rest ce sl := by
  obtain ⟨p, l, e, R, s, m, args, below, meth, c, A, Q⟩ := Γ
  obtain ⟨hx, hb, hml, hown, hts, hK, hA, hX, hfr, hlo, hmc, hms⟩ := K
  intro ls H locs hl hP hD hS
  refine va_astq (r := (RX1, TX1, 5)) hx hb hK hP hD hS (pre.length + i) 3 (pre.length + j) 1 ((zi_at pre rest i).trans ha) rfl ((zi_at pre rest j).trans hv) rfl hin hdg (fun H1 locs1 hP1 hD1 hS1 => ?_)
  rw [zi_set] at hP1 hD1
  exact kk ls H1 locs1 hl hP1 hD1 hS1
theorem zi_ret (K : zi_C D dA Γ cc nL own d mc ms) {Post : va_W → Prop} (Rt : zi_R D Γ pre Post mc ms) (hcc : ce ≤ mc) (hss : sl ≤ ms) (hdg : decode cc pc = .ok (.return_, 1)) (hp : Post rest) : zi_J D Γ nL pc L [] pre rest ce sl := by
  obtain ⟨p, l, e, R, s, m, args, below, meth, c, A, Q⟩ := Γ
  obtain ⟨hx, hb, hml, hown, hts, hK, hA, hX, hfr, hlo, hmc, hms⟩ := K
  obtain ⟨hr, hlocks, -, hQ⟩ := Rt
  subst hQ
  intro ls H locs hl hP hD hS
  refine W.widen hcc hss ?_
  exact W.vret hx hb hr (fun t ht hW => ⟨⟨_, rfl, hp, by rw [ht]; exact hP, hD⟩, hS.F ht⟩) hS.2.2 hdg hlocks
theorem zi_blind {As : List Value} {sz : Nat} {ws : va_W} : FrameBlind (va_Pc As (zi_Pre D dA sz ws)) := by
  intro a U g0 mk q
  obtain ⟨q0, q1, qP, qK, qD, qX1, qX2⟩ := q
  exact ⟨q0, q1, qP, va_K.moved (u := U) (U := U.calling g0 mk a) (Vm.Alike.refl U.vm) qK, qD, qX1.same rfl rfl, va_AO.moved (u := U) (U := U.calling g0 mk a) (Vm.Alike.refl U.vm) qX2⟩
theorem zi_free {A : Nat → Prop} {s : State} {H : Heap} {locs : List Loc} {ws : va_W} (hD : va_D A ws) (hA : ∀ q, s.heap.size ≤ q → A q) (hS : va_S A s.heap H locs) : ∀ q, va_A ws H.size q → A q := by
  intro q hq
  rcases hq with ⟨k, e, hk⟩ | hk
  · exact hD.2 k (q, e) hk
  · exact hA q (Nat.le_trans hS.1 hk)
theorem zi_after {p : Program} {l : Launch} {e : Env} {R : Room} {s : State} {m : MethodId} {args : Array Value} {below : List Frame} {meth : Method} {c : Code} {A : Nat → Prop} {Q : State → Prop} {mc' ms' : Nat} {H : Heap} {locs : List Loc} {ls : Array Slot} {st0 : List Value} {Post : va_W → Prop} {a : Array Value} {rest0 : va_W} {x : Nat × va_E}
    (hr : va_Run p l e R s m args below meth c H locs ce sl mc' ms' (F0 m pc ls st0) S (zi_Q D (va_A ((pre ++ rest0) ++ [x]) H.size) (pre ++ rest0) Post a) (va_A ((pre ++ rest0) ++ [x]) H.size)) (hl : lv_has ls nL L) (hS : va_S A s.heap H locs) (hf : ∀ q, va_A ((pre ++ rest0) ++ [x]) H.size q → A q)
    (kk : ∀ blk, Post blk → zi_J D (p, l, e, R, s, m, args, below, meth, c, A, Q) nL (pc + 3) L S pre (rest0 ++ blk) (ce + mc') (sl + ms')) : W p l e R s m args below meth c H locs ce sl Q (F0 m pc ls st0) := by
  intro T hT X
  obtain ⟨v, st₀, t, T', L0, h0, X', hL, e1, e2, ⟨⟨blk, hv, hp, hP1, hD1⟩, hz, hk⟩, st⟩ := hr T hT X
  cases hv
  rw [h0] at hz hk
  have hD2 : va_D A ((pre ++ rest0) ++ blk) := hD1.weaken (fun _ q _ hq => hf q.1 hq)
  rw [List.append_assoc] at hP1 hD2
  obtain ⟨t2, a1, b1⟩ := kk blk hp ls T'.heap (locs ++ L0) hl (by rw [e1]; exact hP1) hD2
    ⟨Nat.le_trans hS.1 (by rw [e1]; exact hz), fun q h1 h2 => by rw [e1, hk q (Nat.lt_of_lt_of_le h1 hS.1) (fun z => h2 (hf q z))]; exact hS.2.1 q h1 h2, fun q hq => by
      rcases List.mem_append.mp hq with h | h
      · exact hS.2.2 q h
      · exact hf _ (hL q h)⟩ T' rfl X'
  exact ⟨t2, st t2 a1, b1⟩
theorem zi_warm {s U : State} (hW : s.WarmedH U.vm) (hX : zi_X s) : zi_X U := ⟨hX.1.warmM hW, hX.2.moved hW.alike⟩
theorem zi_call (K : zi_C D dA Γ cc nL own d mc ms) {index dd mL n mc' ms' q : Nat} {y : MethodName} {b : ByteArray} {As : List Value} {Post : va_W → Prop} {rest0 : va_W} {fr : va_E} (hmw : zj_mw y b mL none n) (hw1 : Cond.methodLink own index y ∈ zj_tbl) (hw2 : Cond.instanceMethod y ∈ zj_tbl) (hnm : y.name = "<init>") (hM : zi_M Γ.2.1 D dA y b mL dd mc' ms' (.ref q :: As) (pre ++ rest0) [(q, fr)] Post) (hdd : dd + 1 ≤ d) (hn : As.length = n) (hcat : (S.map fun v => v.category).sum ≤ 8) (hcc : ce + mc' ≤ mc) (hss : sl + ms' ≤ ms) (hdg : decode cc pc = .ok (.invokespecial index, 3))
    (kk : ∀ blk, Post blk → zi_J D Γ nL (pc + 3) L S pre (rest0 ++ blk) (ce + mc') (sl + ms')) : zi_J D Γ nL pc L (As.reverse ++ .ref q :: S) pre (rest0 ++ [(q, fr)]) ce sl := by
  obtain ⟨p, l, e, R, s, m, args, below, meth, c, A, Q⟩ := Γ
  obtain ⟨hx, hb, hml, hown, hts, hK, hA, hX, hfr, hlo, hmc, hms⟩ := K
  obtain ⟨hwc, hwi, hwd, h16⟩ := hmw
  intro ls H locs hl hP hD hS
  rw [← List.append_assoc] at hP hD
  have hfree := zi_free hD hA hS
  have hroom : (zi_room dd mc' ms').frames + 1 ≤ R.frames ∧ 8 + (mL + 11) + (zi_room dd mc' ms').locals ≤ R.locals := by
    have e16 : mL ≤ 16 := Nat.le_of_ble_eq_true h16
    refine ⟨Nat.le_trans hdd hfr, ?_⟩
    show 8 + (mL + 11) + 35 * dd ≤ R.locals
    omega
  exact zi_after (va_runI (As := As) (rest := S) (n := n) ⟨hx, hb, hml, hown, hts⟩ (hM H.size) (cwI n hts (zj_good hwc) rfl rfl rfl (hts _ hwi) (hts _ hw1) (hts _ hw2) hnm hwd hroom) ⟨zi_blind, fun U hU hW => ⟨rfl, by rw [hU], by rw [hU]; exact hP, va_K.moved hW.alike hK, hD.weaken (fun _ _ _ _ => trivial), zi_warm hW hX⟩⟩ rfl hn hl.1 rfl (lv_room hcat) hdg ⟨by omega, by omega⟩) hl hS hfree kk
theorem zi_callN (K : zi_C D dA Γ cc nL RX0 d mc ms) {dd mL n mc' ms' q : Nat} {b : ByteArray} {Post : va_W → Prop} {rest0 : va_W} {fr : va_E} (hmw : zj_mw yX2_init b mL none n) (hw2 : Cond.instanceMethod yX2_init ∈ zj_tbl) (hM : zi_M Γ.2.1 D dA yX2_init b mL dd mc' ms' [.ref q] (pre ++ rest0) [(q, fr)] Post) (hdd : dd + 1 ≤ d) (hn : 0 = n) (hcat : (S.map fun v => v.category).sum ≤ 8) (hcc : ce + mc' ≤ mc) (hss : sl + ms' ≤ ms) (hdg : decode cc pc = .ok (.invokespecial 24, 3))
    (kk : ∀ blk, Post blk → zi_J D Γ nL (pc + 3) L S pre (rest0 ++ blk) (ce + mc') (sl + ms')) : zi_J D Γ nL pc L (.ref q :: S) pre (rest0 ++ [(q, fr)]) ce sl := by
  obtain ⟨p, l, e, R, s, m, args, below, meth, c, A, Q⟩ := Γ
  obtain ⟨hx, hb, hml, hown, hts, hK, hA, hX, hfr, hlo, hmc, hms⟩ := K
  obtain ⟨hwc, hwi, hwd, h16⟩ := hmw
  intro ls H locs hl hP hD hS
  rw [← List.append_assoc] at hP hD
  have hfree := zi_free hD hA hS
  have hroom : (zi_room dd mc' ms').frames + 1 ≤ R.frames ∧ 8 + (mL + 11) + (zi_room dd mc' ms').locals ≤ R.locals := by
    have e16 : mL ≤ 16 := Nat.le_of_ble_eq_true h16
    refine ⟨Nat.le_trans hdd hfr, ?_⟩
    show 8 + (mL + 11) + 35 * dd ≤ R.locals
    omega
  exact zi_after (va_runIN (As := []) (rest := S) (n := n) (Ts := zj_tbl) ⟨hx, hb, hml, hown, hts⟩ (hM H.size) ⟨va_cnB n hts (zj_good hwc) rfl rfl rfl hX.1 (hts _ hwi) hwd hroom, rfl, hts _ hw2⟩ ⟨zi_blind, fun U hU hW => ⟨rfl, by rw [hU], by rw [hU]; exact hP, va_K.moved hW.alike hK, hD.weaken (fun _ _ _ _ => trivial), zi_warm hW hX⟩⟩ rfl hn hl.1 rfl (lv_room hcat) hdg ⟨by omega, by omega⟩) hl hS hfree kk
end ZI
