-- THE WORLD: one fixed list of cells, at addresses that are variables; all ints of it in one function h (cell, place), all longs in g
abbrev zj_H : Type := Nat → Nat → Int32
abbrev zj_G : Type := Nat → Nat → Int64
/-- tables of the classes; the cells' addresses; the array classes; String constants: their cells, their bytes -/
abbrev zj_E : Type := va_G × (Nat → Nat) × (Nat → ClassId) × (Nat → Nat) × (Nat → Nat)
abbrev zj_Sh : Type := (Nat × List (Nat ⊕ Bool)) ⊕ (Nat × Nat)
abbrev zj_cl : List vw_C := [(RX0, TX0, 10), (RX1, TX1, 5), (RX2, TX2, 5), (RX3, TX3, 3), (RX4, TX4, 9), (RX5, TX5, 2), (RX6, TX6, 12), (RX7, TX7, 7), (RX8, TX8, 28)]
def zj_told (a : Nat) : zj_Sh := .inl (6, [.inr false, .inr false, .inr false, .inr false, .inr false, .inr false, .inr false, .inr false, .inr false, .inl (a + 1), .inl (a + 2), .inl (a + 3)])
def zj_dock (a : Nat) : zj_Sh := .inl (1, [.inr false, .inr false, .inl (a + 1), .inl (a + 2), .inl (a + 3)])
def zj_court (a : Nat) : zj_Sh := .inl (0, [.inl 8, .inl (a + 1), .inl (a + 5), .inl (a + 6), .inl (a + 7), .inl (a + 8), .inl (a + 9), .inr false, .inr false, .inr false])
def zj_found : zj_Sh := .inl (2, [.inr false, .inr false, .inr false, .inr false, .inr false])
def zj_arr (n : Nat) : zj_Sh := .inr (0, n)
/-- the cells: 0 the object, 1 its tape, 3 the reader, 4 its draft, 8 told, 12 the court, 22 ANEW's court, 32 the history, 78 the reference, 88 the law's own longs -/
def zj_shL : List zj_Sh := [.inl (7, [.inl 1, .inl 3, .inl 8, .inl 12, .inl 22, .inl 32, .inr false]), .inl (5, [.inl 2, .inr false]), .inr (1, 540),
  .inl (4, [.inl 1, .inl 4, .inr false, .inr false, .inr false, .inr false, .inr false, .inr false, .inr false]), zj_told 4, zj_arr 9, zj_arr 14, zj_arr 14, zj_told 8, zj_arr 9, zj_arr 14, zj_arr 14,
  zj_court 12, zj_dock 13, zj_arr 14, zj_arr 14, zj_arr 14, zj_found, zj_arr 81, zj_arr 9, zj_arr 84, zj_arr 84,
  zj_court 22, zj_dock 23, zj_arr 14, zj_arr 14, zj_arr 14, zj_found, zj_arr 81, zj_arr 9, zj_arr 84, zj_arr 84,
  .inl (3, [.inl 33, .inr false, .inr false]), .inr (3, 11),
  zj_dock 34, zj_arr 14, zj_arr 14, zj_arr 14, zj_dock 38, zj_arr 14, zj_arr 14, zj_arr 14, zj_dock 42, zj_arr 14, zj_arr 14, zj_arr 14, zj_dock 46, zj_arr 14, zj_arr 14, zj_arr 14,
  zj_dock 50, zj_arr 14, zj_arr 14, zj_arr 14, zj_dock 54, zj_arr 14, zj_arr 14, zj_arr 14, zj_dock 58, zj_arr 14, zj_arr 14, zj_arr 14, zj_dock 62, zj_arr 14, zj_arr 14, zj_arr 14,
  zj_dock 66, zj_arr 14, zj_arr 14, zj_arr 14, zj_dock 70, zj_arr 14, zj_arr 14, zj_arr 14, zj_dock 74, zj_arr 14, zj_arr 14, zj_arr 14,
  .inl (8, [.inr false, .inl 79, .inr false, .inr false, .inr false, .inr false, .inr false, .inr false, .inr false, .inr false, .inr true, .inl 80, .inl 81, .inl 82, .inl 83, .inl 84, .inl 85, .inr false, .inl 86, .inl 87, .inr false, .inr false, .inr false, .inr false, .inr false, .inr false, .inr false, .inr false]), zj_arr 540, zj_arr 89, zj_arr 89, zj_arr 89, zj_arr 890, zj_arr 89, zj_arr 89, zj_arr 84, zj_arr 84, .inr (2, 1)]
def zj_at (i : Nat) (sh : zj_Sh) : Prop := zj_shL[i]? = some sh
def zj_fv (E : zj_E) (h : zj_H) (g : zj_G) (i k : Nat) (f : Nat ⊕ Bool) : Value := match f with
  | .inl j => .ref (E.2.1 j)
  | .inr false => .int (h i k)
  | .inr true => .long (g i k)
def zj_ent (E : zj_E) (h : zj_H) (g : zj_G) (i : Nat) (sh : zj_Sh) : va_E := match sh with
  | .inl (ci, fs) => .inr (ci, fs.mapIdx (zj_fv E h g i))
  | .inr (3, n) => .inl (E.2.2.1 3, n, .inr (.inr (.inr (.inr (fun k => some (E.2.1 (34 + 4 * k)))))))
  | .inr (2, n) => .inl (E.2.2.1 2, n, .inr (.inl (g i)))
  | .inr (kd, n) => .inl (E.2.2.1 kd, n, .inl (h i))
def zj_ws (E : zj_E) (h : zj_H) (g : zj_G) : va_W := zj_shL.mapIdx (fun i sh => (E.2.1 i, zj_ent E h g i sh))
def zj_tys (E : zj_E) : List (ClassId × FieldType) := [(E.2.2.1 0, .int), (E.2.2.1 1, .byte), (E.2.2.1 2, .long), (E.2.2.1 3, .object RX1)]
/-- a whole cell of ints anew; a whole cell of longs anew -/
def zj_s (h : zj_H) (i : Nat) (f : Nat → Int32) : zj_H := fun a => if a = i then f else h a
def zj_sg (g : zj_G) (i : Nat) (f : Nat → Int64) : zj_G := fun a => if a = i then f else g a
theorem zj_s_eq (h : zj_H) (i : Nat) (f : Nat → Int32) : zj_s h i f i = f := if_pos rfl
theorem zj_s_ne (h : zj_H) {i a : Nat} (f : Nat → Int32) (n : a ≠ i) : zj_s h i f a = h a := if_neg n
theorem zj_s_s (h : zj_H) (i : Nat) (f f' : Nat → Int32) : zj_s (zj_s h i f) i f' = zj_s h i f' := by
  funext a; unfold zj_s; split <;> rfl
theorem zj_s_self (h : zj_H) (i : Nat) : zj_s h i (h i) = h := by
  funext a; unfold zj_s; split
  · next e => rw [e]
  · rfl
theorem zj_s_comm (h : zj_H) {i j : Nat} (f f' : Nat → Int32) (n : i ≠ j) : zj_s (zj_s h i f) j f' = zj_s (zj_s h j f') i f := by
  funext a; unfold zj_s; by_cases e : a = j
  · by_cases e2 : a = i
    · exact absurd (e2.symm.trans e) n
    · simp [e, e2, Ne.symm n]
  · by_cases e2 : a = i
    · subst e2; simp [n]
    · simp [e, e2]
theorem zj_sg_eq (h : zj_G) (i : Nat) (f : Nat → Int64) : zj_sg h i f i = f := if_pos rfl
theorem zj_sg_ne (h : zj_G) {i a : Nat} (f : Nat → Int64) (n : a ≠ i) : zj_sg h i f a = h a := if_neg n
theorem zj_ws_get (E : zj_E) (h : zj_H) (g : zj_G) {i : Nat} {sh : zj_Sh} (hs : zj_at i sh) : (zj_ws E h g)[i]? = some (E.2.1 i, zj_ent E h g i sh) := by
  unfold zj_ws; rw [List.getElem?_mapIdx, hs]; rfl
theorem zj_ent_s {E : zj_E} {h h' : zj_H} {g g' : zj_G} {i : Nat} (e1 : h' i = h i) (e2 : g' i = g i) (sh : zj_Sh) : zj_ent E h' g' i sh = zj_ent E h g i sh := by
  have e3 : zj_fv E h' g' i = zj_fv E h g i := by
    funext k f; unfold zj_fv; rw [e1, e2]
  unfold zj_ent; rw [e3, e1, e2]
theorem zj_ws_set (E : zj_E) (h h' : zj_H) (g g' : zj_G) {i : Nat} {sh : zj_Sh} (hs : zj_at i sh) (e1 : ∀ a, a ≠ i → h' a = h a) (e2 : ∀ a, a ≠ i → g' a = g a) : (zj_ws E h g).set i (E.2.1 i, zj_ent E h' g' i sh) = zj_ws E h' g' := by
  have hi : i < zj_shL.length := (List.getElem?_eq_some_iff.mp hs).1
  apply List.ext_getElem?
  intro a
  rw [List.getElem?_set]
  by_cases ea : i = a
  · subst ea
    have hl : i < (zj_ws E h g).length := by unfold zj_ws; rw [List.length_mapIdx]; exact hi
    rw [if_pos rfl, if_pos hl, zj_ws_get E h' g' hs]
  · rw [if_neg ea]
    unfold zj_ws
    rw [List.getElem?_mapIdx, List.getElem?_mapIdx]
    cases hsh : zj_shL[a]? with
    | none => rfl
    | some sh2 =>
      show some (E.2.1 a, zj_ent E h g a sh2) = some (E.2.1 a, zj_ent E h' g' a sh2)
      rw [zj_ent_s (e1 a (Ne.symm ea)) (e2 a (Ne.symm ea))]
theorem zj_D_any {E : zj_E} {A : Nat → Prop} {h h' : zj_H} {g g' : zj_G} (hD : va_D A (zj_ws E h g)) : va_D A (zj_ws E h' g') := by
  have key : ∀ (k : Nat) (q : Nat × va_E), (zj_ws E h' g')[k]? = some q → ∃ q2, (zj_ws E h g)[k]? = some q2 ∧ q2.1 = q.1 := by
    intro k q hq
    unfold zj_ws at hq ⊢
    rw [List.getElem?_mapIdx] at hq ⊢
    cases hsh : zj_shL[k]? with
    | none => rw [hsh] at hq; cases hq
    | some sh => rw [hsh] at hq; cases hq; exact ⟨_, rfl, rfl⟩
  refine ⟨fun i j p q hp hq e => ?_, fun k q hq => ?_⟩
  · obtain ⟨p2, a1, a2⟩ := key i p hp
    obtain ⟨q2, b1, b2⟩ := key j q hq
    exact hD.1 i j p2 q2 a1 b1 (by rw [a2, b2]; exact e)
  · obtain ⟨q2, b1, b2⟩ := key k q hq
    rw [← b2]; exact hD.2 k q2 b1
theorem zj_A_any {E : zj_E} {h h' : zj_H} {g g' : zj_G} {sz : Nat} : va_A (zj_ws E h g) sz = va_A (zj_ws E h' g') sz := by
  have key : ∀ (h h' : zj_H) (g g' : zj_G) (q : Nat), va_A (zj_ws E h g) sz q → va_A (zj_ws E h' g') sz q := by
    intro h h' g g' q hq
    rcases hq with ⟨k, e, hk⟩ | hk
    · left
      unfold zj_ws at hk ⊢
      rw [List.getElem?_mapIdx] at hk
      cases hsh : zj_shL[k]? with
      | none => rw [hsh] at hk; cases hk
      | some sh =>
        rw [hsh] at hk; cases hk
        exact ⟨k, zj_ent E h' g' k sh, by rw [List.getElem?_mapIdx, hsh]; rfl⟩
    · exact Or.inr hk
  funext q
  exact propext ⟨key h h' g g' q, key h' h g' g q⟩
-- THE WORDS
def zj_tbl : List Cond := lw_tbl.filter goodWord
/-- names that hold beside the tables' words: nest mates; String constants -/
def zj_nest : List (String × Nat × MethodName × String) := [(RX4, 131, yX7_has, RX7), (RX6, 64, yX7_has, RX7), (RX0, 62, yX7_has, RX7), (RX0, 92, yX7_pairPlace, RX7)]
def zj_slen : List Nat := [5, 5, 6, 4, 3]
def zj_sbyt : List (List Int32) := [[99, 111, 117, 114, 116], [106, 117, 100, 103, 101], [115, 101, 110, 105, 111, 114], [99, 97, 115, 101], [110, 111, 116]]
def zj_skey : List (Nat × String) := [(78, "court"), (56, "judge"), (65, "senior"), (70, "case"), (118, "not")]
def zj_xkey : List (Nat × String) := [(119, "no such judge"), (150, "nothing such is told of a judge"), (155, "no such case"), (172, "nothing such is told of a case")]
/-- statics that nobody writes, and the texts of what the class throws -/
def zj_Y (A : Nat → Prop) (U : State) (H : Heap) : Prop :=
  va_Z "java/lang/String" "COMPACT_STRINGS" "Z" (.int 1) A U H ∧ va_Zq "jdk/internal/util/Preconditions" "SIOOBE_FORMATTER" "Ljava/util/function/BiFunction;" A U H ∧ vx_Zq Bundle.tN "UNASSIGNED_STACK" Bundle.steD A U H ∧ vx_Zq Bundle.tN "SUPPRESSED_SENTINEL" Bundle.listD A U H ∧ ∀ q ∈ zj_xkey, ∃ sa, vk_R RX7 q.1 q.2 sa U
def zj_X (E : zj_E) (A : Nat → Prop) (U : State) (H : Heap) : Prop :=
  (∀ q ∈ zj_nest, va_Nw (.methodLinkNest q.1 q.2.1 q.2.2.1 q.2.2.2) U) ∧ (∀ (i : Nat) (q : Nat × String), zj_skey[i]? = some q → vk_R RX4 q.1 q.2 (E.2.2.2.1 i) U) ∧ vk_S 5 zj_slen zj_sbyt E.2.2.2.1 E.2.2.2.2 A U H ∧ zj_Y A U H
theorem zj_X.warm {E : zj_E} {A B : Nat → Prop} {s U : State} {H H1 : Heap} (hX : zj_X E A s H) (hW : s.WarmedH U.vm) (hAB : ∀ q, B q → A q) (hq : ∀ a : Nat, a < H.size → ¬ A a → H1[a]? = H[a]?) : zj_X E B U H1 := by
  obtain ⟨x1, x2, x3, y1, y2, y3, y4, y5⟩ := hX
  exact ⟨fun q h => (x1 q h).warmM hW, fun i q h => (x2 i q h).warm hW, ((x3.kept hq).narrow hAB).moved hW.alike, ((y1.kept hq).narrow hAB).moved hW.alike, ((y2.kept hq).narrow hAB).moved hW.alike, ((y3.kept hq).narrow hAB).moved hW.alike, ((y4.kept hq).narrow hAB).moved hW.alike, fun q h => by
    obtain ⟨sa, hsa⟩ := y5 q h
    exact ⟨sa, hsa.warm hW⟩⟩
theorem zj_X.blind {E : zj_E} {A : Nat → Prop} {U : State} {H : Heap} (g : JFrame) (mk : MethodId) (a : Array Value) (hX : zj_X E A U H) : zj_X E A (U.calling g mk a) H := by
  obtain ⟨x1, x2, x3, y1, y2, y3, y4, y5⟩ := hX
  exact ⟨fun q h => (x1 q h).same rfl rfl, fun i q h => (x2 i q h).same rfl, x3.moved (u := U) (U := U.calling g mk a) (Vm.Alike.refl U.vm), y1.moved (u := U) (U := U.calling g mk a) (Vm.Alike.refl U.vm), y2.moved (u := U) (U := U.calling g mk a) (Vm.Alike.refl U.vm), y3.moved (u := U) (U := U.calling g mk a) (Vm.Alike.refl U.vm), y4.moved (u := U) (U := U.calling g mk a) (Vm.Alike.refl U.vm), fun q h => by
    obtain ⟨sa, hsa⟩ := y5 q h
    exact ⟨sa, hsa.same rfl⟩⟩
-- THE JUDGEMENT: the machine at a place of a method, over the world
abbrev zj_Γ : Type := Program × Launch × Env × Room × State × MethodId × Array Value × List Frame × Method × Code × (Nat → Prop) × (State → Prop) × Nat × Nat
def zj_J (E : zj_E) (Γ : zj_Γ) (nL pc : Nat) (L : List (Nat × Value)) (S : List Value) (h : zj_H) (g : zj_G) : Prop := match Γ with
  | (p, l, e, R, s, m, args, below, meth, c, A, Q, cells, slots) => ∀ (ls : Array Slot) (H : Heap) (locs : List Loc), lv_has ls nL L → va_P E.1 zj_cl (zj_ws E h g) H → va_S A s.heap H locs → W p l e R s m args below meth c H locs cells slots Q (F0 m pc ls S)
def zj_C (E : zj_E) (Γ : zj_Γ) (cc : ByteArray) (nL : Nat) (own : String) (d : Nat) : Prop := match Γ with
  | (p, _, _, R, s, m, args, _, _, c, A, _, cells, slots) => p.tables.exec = Jvm.exec ∧ c.code = cc ∧ c.maxLocals = nL ∧ s.vm.findClass own = some m.cls ∧ (∀ w ∈ zj_tbl, w.before args s = true) ∧ va_K E.1 zj_cl (zj_tys E) s ∧ (∀ q, s.heap.size ≤ q → A q) ∧ (∀ h g, va_D A (zj_ws E h g)) ∧ zj_X E A s s.heap ∧ d ≤ R.frames ∧ 35 * d ≤ R.locals ∧ cells ≤ R.cells ∧ slots ≤ R.slots
abbrev zj_P : Type := Option Value → zj_H → zj_G → Prop
def zj_room (d : Nat) : Room := { frames := d, cells := 0, slots := 0, locals := 35 * d }
def zj_Pre (E : zj_E) (sz : Nat) (h : zj_H) (g : zj_G) (U : State) : Prop := U.heap.size = sz ∧ va_P E.1 zj_cl (zj_ws E h g) U.heap ∧ va_K E.1 zj_cl (zj_tys E) U ∧ (∀ h g, va_D (fun _ => True) (zj_ws E h g)) ∧ zj_X E (va_A (zj_ws E h g) sz) U U.heap
def zj_Q (E : zj_E) (A : Nat → Prop) (Post : zj_P) : Array Value → State → Outcome → State → Prop := fun _ st oc t => (∃ (v : Option Value) (h' : zj_H) (g' : zj_G), oc = .returned v ∧ Post v h' g' ∧ va_P E.1 zj_cl (zj_ws E h' g') t.heap) ∧ va_F A st t
/-- A METHOD'S CONTRACT: from the world (h, g) with these arguments it returns, with what Post says of the answer and of the world then -/
def zj_M (l : Launch) (E : zj_E) (y : MethodName) (b : ByteArray) (mL : Nat) (ret : Option FieldType) (d : Nat) (As : List Value) (h : zj_H) (g : zj_G) (Post : zj_P) : Prop :=
  ∀ sz : Nat, Met l y (.code y b mL ret :: zj_tbl) (zj_room d) (va_Pc As (zj_Pre E sz h g)) (zj_Q E (va_A (zj_ws E h g) sz) Post) 0 0 (va_A (zj_ws E h g) sz)
/-- what a method's own end must show -/
def zj_R (E : zj_E) (Γ : zj_Γ) (ret : Option FieldType) (Post : zj_P) : Prop := match Γ with
  | (_, _, _, _, s, _, args, below, meth, _, A, Q, cells, slots) => meth.sig.returnType = ret ∧ meth.locks = false ∧ Q = MQ below (zj_Q E A Post) args s cells slots A
theorem zj_M.of {l : Launch} {E : zj_E} {y : MethodName} {b : ByteArray} {mL : Nat} {ret : Option FieldType} {d : Nat} {As : List Value} {h : zj_H} {g : zj_G} {Post : zj_P} (own : String) (hy : plainName y.cls = true) (ho : y.cls = own) (hlen : (lg_sl As).length ≤ mL)
    (body : ∀ Γ : zj_Γ, Γ.2.1 = l → zj_C E Γ b mL own d → zj_R E Γ ret Post → zj_J E Γ mL 0 (lv_args 0 As) [] h g) : zj_M l E y b mL ret d As h g Post := by
  intro sz
  refine Met.ofW (cc := b) (maxL := mL) (ret := ret) hy rfl ?_
  intro p e s m args below meth c s₁ B hml hv
  obtain ⟨rfl, hsz, hP, hK, hD0, hX⟩ := hv
  subst hsz
  have hts := atoms_spec (ws := (.code y b mL ret :: zj_tbl)) B.pre
  have hown : s.vm.findClass own = some m.cls := by rw [← ho]; exact findClass_of_methodNamed B.named
  have hD : ∀ h' g', va_D (va_A (zj_ws E h g) s.heap.size) (zj_ws E h' g') := fun h' g' => by
    rw [zj_A_any (h' := h') (g' := g')]
    exact (hD0 h' g').self (sz := s.heap.size)
  have hl := lv_entry As (n := mL) hlen
  rw [lg_entry_eq]
  exact body (p, l, e, zj_room d, s, m, As.toArray, below, meth, c, va_A (zj_ws E h g) s.heap.size, MQ below (zj_Q E (va_A (zj_ws E h g) s.heap.size) Post) As.toArray s 0 0 (va_A (zj_ws E h g) s.heap.size), 0, 0) rfl
    ⟨B.exec, B.bytes, hml, hown, fun w hw => hts w (List.mem_cons_of_mem _ hw), hK, fun q hq => Or.inr hq, hD, hX, Nat.le_refl _, Nat.le_refl _, Nat.le_refl _, Nat.le_refl _⟩
    ⟨B.returns, B.notSynchronized, rfl⟩ _ s.heap [] hl hP va_S.rf

section ZJ
variable {E : zj_E} {Γ : zj_Γ} {cc : ByteArray} {nL d pc : Nat} {own : String} {L : List (Nat × Value)} {S : List Value} {h : zj_H} {g : zj_G}

theorem zj_iconst (K : zj_C E Γ cc nL own d) {n : Int} {v : Int32} (hdg : decode cc pc = .ok (.iconst n, 1)) (hv : Int32.ofInt n = v) (k : zj_J E Γ nL (pc + 1) L (.int v :: S) h g) : zj_J E Γ nL pc L (S) h g := by
  obtain ⟨p, l, e, R, s, m, args, below, meth, c, A, Q, cells, slots⟩ := Γ
  obtain ⟨hx, hb, hml, hown, hts, hK, hA, hD, hX, hfr, hlo, hce, hsl⟩ := K
  intro ls H locs hl hP hS
  exact lv_iconst hx hb hdg hv (k ls H locs hl hP hS)
theorem zj_bipush (K : zj_C E Γ cc nL own d) {n : Int} {v : Int32} (hdg : decode cc pc = .ok (.bipush n, 2)) (hv : (Int8.ofInt n).toInt32 = v) (k : zj_J E Γ nL (pc + 2) L (.int v :: S) h g) : zj_J E Γ nL pc L (S) h g := by
  obtain ⟨p, l, e, R, s, m, args, below, meth, c, A, Q, cells, slots⟩ := Γ
  obtain ⟨hx, hb, hml, hown, hts, hK, hA, hD, hX, hfr, hlo, hce, hsl⟩ := K
  intro ls H locs hl hP hS
  exact lv_bipush hx hb hdg hv (k ls H locs hl hP hS)
theorem zj_sipush (K : zj_C E Γ cc nL own d) {n : Int} {v : Int32} (hdg : decode cc pc = .ok (.sipush n, 3)) (hv : (Int16.ofInt n).toInt32 = v) (k : zj_J E Γ nL (pc + 3) L (.int v :: S) h g) : zj_J E Γ nL pc L (S) h g := by
  obtain ⟨p, l, e, R, s, m, args, below, meth, c, A, Q, cells, slots⟩ := Γ
  obtain ⟨hx, hb, hml, hown, hts, hK, hA, hD, hX, hfr, hlo, hce, hsl⟩ := K
  intro ls H locs hl hP hS
  exact lv_sipush hx hb hdg hv (k ls H locs hl hP hS)
theorem zj_lconst (K : zj_C E Γ cc nL own d) {n : Fin 2} {v : Int64} (hdg : decode cc pc = .ok (.lconst n, 1)) (hv : Int64.ofNat (n : Nat) = v) (k : zj_J E Γ nL (pc + 1) L (.long v :: S) h g) : zj_J E Γ nL pc L (S) h g := by
  obtain ⟨p, l, e, R, s, m, args, below, meth, c, A, Q, cells, slots⟩ := Γ
  obtain ⟨hx, hb, hml, hown, hts, hK, hA, hD, hX, hfr, hlo, hce, hsl⟩ := K
  intro ls H locs hl hP hS
  exact lv_lconst hx hb hdg hv (k ls H locs hl hP hS)
theorem zj_ldc (K : zj_C E Γ cc nL own d) {index : Nat} {v : Int32} (hw : Jvm.Cond.constant own index v ∈ zj_tbl) (hdg : decode cc pc = .ok (.ldc index, 2)) (k : zj_J E Γ nL (pc + 2) L (.int v :: S) h g) : zj_J E Γ nL pc L (S) h g := by
  obtain ⟨p, l, e, R, s, m, args, below, meth, c, A, Q, cells, slots⟩ := Γ
  obtain ⟨hx, hb, hml, hown, hts, hK, hA, hD, hX, hfr, hlo, hce, hsl⟩ := K
  intro ls H locs hl hP hS
  exact lv_ldc hx hb hown (hts _ hw) hdg (k ls H locs hl hP hS)
theorem zj_ldcw (K : zj_C E Γ cc nL own d) {index : Nat} {v : Int32} (hw : Jvm.Cond.constant own index v ∈ zj_tbl) (hdg : decode cc pc = .ok (.ldc_w index, 3)) (k : zj_J E Γ nL (pc + 3) L (.int v :: S) h g) : zj_J E Γ nL pc L (S) h g := by
  obtain ⟨p, l, e, R, s, m, args, below, meth, c, A, Q, cells, slots⟩ := Γ
  obtain ⟨hx, hb, hml, hown, hts, hK, hA, hD, hX, hfr, hlo, hce, hsl⟩ := K
  intro ls H locs hl hP hS
  exact lv_ldcw hx hb hown (hts _ hw) hdg (k ls H locs hl hP hS)
theorem zj_ldc2 (K : zj_C E Γ cc nL own d) {index : Nat} {v : Int64} (hw : Jvm.Cond.constantLong own index v ∈ zj_tbl) (hdg : decode cc pc = .ok (.ldc2_w index, 3)) (k : zj_J E Γ nL (pc + 3) L (.long v :: S) h g) : zj_J E Γ nL pc L (S) h g := by
  obtain ⟨p, l, e, R, s, m, args, below, meth, c, A, Q, cells, slots⟩ := Γ
  obtain ⟨hx, hb, hml, hown, hts, hK, hA, hD, hX, hfr, hlo, hce, hsl⟩ := K
  intro ls H locs hl hP hS
  exact lv_ldc2 hx hb hown (hts _ hw) hdg (k ls H locs hl hP hS)
def zj_get : List (Nat × Value) → Nat → Option Value
  | [], _ => none
  | (j, v) :: t, i => cond (Nat.beq j i) (some v) (zj_get t i)
/-- the local i anew, the list kept in order; what stood there goes -/
def zj_ins : List (Nat × Value) → Nat → Value → List (Nat × Value)
  | [], i, v => [(i, v)]
  | (j, w) :: t, i, v => cond (Nat.blt i j) ((i, v) :: (j, w) :: t) (cond (Nat.beq j i) (zj_ins t i v) ((j, w) :: zj_ins t i v))
theorem zj_get_mem : ∀ {L : List (Nat × Value)} {i : Nat} {v : Value}, zj_get L i = some v → (i, v) ∈ L := by
  intro L
  induction L with
  | nil => intro i v h; cases h
  | cons q t ih =>
    intro i v h
    obtain ⟨j, w⟩ := q
    unfold zj_get at h
    cases hb : Nat.beq j i with
    | true =>
      rw [hb] at h
      have e : j = i := Nat.eq_of_beq_eq_true hb
      cases h; subst e; exact List.mem_cons_self
    | false => rw [hb] at h; exact List.mem_cons_of_mem _ (ih h)
/-- ascending: no place twice -/
def zj_asc : List (Nat × Value) → Bool
  | [] => true
  | [_] => true
  | (i, _) :: (j, w) :: t => Nat.blt i j && zj_asc ((j, w) :: t)
theorem zj_asc_lt : ∀ {t : List (Nat × Value)} {i : Nat} {v : Value}, zj_asc ((i, v) :: t) = true → ∀ q ∈ t, i < q.1 := by
  intro t
  induction t with
  | nil => intro i v _ q hq; cases hq
  | cons p t ih =>
    intro i v h q hq
    obtain ⟨j, w⟩ := p
    unfold zj_asc at h
    rw [Bool.and_eq_true] at h
    have hij : i < j := Nat.blt_eq.mp h.1
    rcases List.mem_cons.mp hq with rfl | hq
    · exact hij
    · exact Nat.lt_trans hij (ih h.2 q hq)
theorem zj_asc_tl {t : List (Nat × Value)} {q : Nat × Value} (h : zj_asc (q :: t) = true) : zj_asc t = true := by
  cases t with
  | nil => rfl
  | cons p t => obtain ⟨i, v⟩ := q; obtain ⟨j, w⟩ := p; unfold zj_asc at h; rw [Bool.and_eq_true] at h; exact h.2
theorem zj_ins_mem : ∀ {L : List (Nat × Value)} {i : Nat} {v : Value} {q : Nat × Value}, zj_asc L = true → q ∈ zj_ins L i v → q = (i, v) ∨ (q ∈ L ∧ q.1 ≠ i) := by
  intro L
  induction L with
  | nil => intro i v q _ h; exact Or.inl (List.mem_singleton.mp h)
  | cons p t ih =>
    intro i v q ha h
    obtain ⟨j, w⟩ := p
    unfold zj_ins at h
    cases hlt : Nat.blt i j with
    | true =>
      rw [hlt] at h
      have hij : i < j := Nat.blt_eq.mp hlt
      rcases List.mem_cons.mp h with h | h
      · exact Or.inl h
      · refine Or.inr ⟨h, ?_⟩
        rcases List.mem_cons.mp h with rfl | h2
        · exact fun e => by simp only at e; omega
        · have := zj_asc_lt ha q h2; omega
    | false =>
      rw [hlt] at h
      cases hb : Nat.beq j i with
      | true =>
        rw [hb] at h
        rcases ih (zj_asc_tl ha) h with h | h
        · exact Or.inl h
        · exact Or.inr ⟨List.mem_cons_of_mem _ h.1, h.2⟩
      | false =>
        rw [hb] at h
        rcases List.mem_cons.mp h with rfl | h
        · refine Or.inr ⟨List.mem_cons_self, fun e => ?_⟩
          have e : j = i := e
          rw [e] at hb
          have : Nat.beq i i = true := Nat.beq_refl i
          rw [this] at hb; cases hb
        · rcases ih (zj_asc_tl ha) h with h | h
          · exact Or.inl h
          · exact Or.inr ⟨List.mem_cons_of_mem _ h.1, h.2⟩
theorem zj_has_of {ls : Array Slot} {nL i : Nat} {v : Value} {L lv' : List (Nat × Value)} (ha : zj_asc L = true) (hc : ∀ q ∈ L, q.1 + 1 = i → q.2.category = 1) (hl : lv_has ls nL ((i, v) :: L.filter (fun q => !(q.1 == i) && !(q.1 + 1 == i && q.2.category == 2)))) : lv_has ls nL (zj_ins L i v) := by
  refine ⟨hl.1, hl.2.1, fun q hq => ?_⟩
  rcases zj_ins_mem ha hq with rfl | ⟨h1, h2⟩
  · exact hl.2.2 _ List.mem_cons_self
  · refine hl.2.2 q (List.mem_cons_of_mem _ (List.mem_filter.mpr ⟨h1, ?_⟩))
    by_cases e : q.1 + 1 = i
    · simp [h2, hc q h1 e]
    · simp [h2, e]
/-- no long stands in the locals: of these lists a store takes only its own place -/
def zj_one (L : List (Nat × Value)) : Bool := L.all (fun q => q.2.category == 1)
theorem zj_one_of {L : List (Nat × Value)} {i : Nat} (h : zj_one L = true) : ∀ q ∈ L, q.1 + 1 = i → q.2.category = 1 := fun q hq _ => by
  have := List.all_eq_true.mp h q hq; simpa using this

theorem zj_iload_n (K : zj_C E Γ cc nL own d) {k0 : Fin 4} {i : Nat} {x : Int32} (hdg : decode cc pc = .ok (.iload_n k0, 1)) (hi : (k0 : Nat) = i) (hv : zj_get L i = some (.int x)) (k : zj_J E Γ nL (pc + 1) L (.int x :: S) h g) : zj_J E Γ nL pc L (S) h g := by
  obtain ⟨p, l, e, R, s, m, args, below, meth, c, A, Q, cells, slots⟩ := Γ
  obtain ⟨hx, hb, hml, hown, hts, hK, hA, hD, hX, hfr, hlo, hce, hsl⟩ := K
  intro ls H locs hl hP hS
  exact lv_iload_n (i := i) hx hb hdg hi (hl.2.2 _ (zj_get_mem hv)) (k ls H locs hl hP hS)
theorem zj_iload (K : zj_C E Γ cc nL own d) {i : Nat} {x : Int32} (hdg : decode cc pc = .ok (.iload i, 2)) (hv : zj_get L i = some (.int x)) (k : zj_J E Γ nL (pc + 2) L (.int x :: S) h g) : zj_J E Γ nL pc L (S) h g := by
  obtain ⟨p, l, e, R, s, m, args, below, meth, c, A, Q, cells, slots⟩ := Γ
  obtain ⟨hx, hb, hml, hown, hts, hK, hA, hD, hX, hfr, hlo, hce, hsl⟩ := K
  intro ls H locs hl hP hS
  exact lv_iload hx hb hdg (hl.2.2 _ (zj_get_mem hv)) (k ls H locs hl hP hS)
theorem zj_lload_n (K : zj_C E Γ cc nL own d) {k0 : Fin 4} {i : Nat} {x : Int64} (hdg : decode cc pc = .ok (.lload_n k0, 1)) (hi : (k0 : Nat) = i) (hv : zj_get L i = some (.long x)) (k : zj_J E Γ nL (pc + 1) L (.long x :: S) h g) : zj_J E Γ nL pc L (S) h g := by
  obtain ⟨p, l, e, R, s, m, args, below, meth, c, A, Q, cells, slots⟩ := Γ
  obtain ⟨hx, hb, hml, hown, hts, hK, hA, hD, hX, hfr, hlo, hce, hsl⟩ := K
  intro ls H locs hl hP hS
  exact lv_lload_n (i := i) hx hb hdg hi (hl.2.2 _ (zj_get_mem hv)) (k ls H locs hl hP hS)
theorem zj_lload (K : zj_C E Γ cc nL own d) {i : Nat} {x : Int64} (hdg : decode cc pc = .ok (.lload i, 2)) (hv : zj_get L i = some (.long x)) (k : zj_J E Γ nL (pc + 2) L (.long x :: S) h g) : zj_J E Γ nL pc L (S) h g := by
  obtain ⟨p, l, e, R, s, m, args, below, meth, c, A, Q, cells, slots⟩ := Γ
  obtain ⟨hx, hb, hml, hown, hts, hK, hA, hD, hX, hfr, hlo, hce, hsl⟩ := K
  intro ls H locs hl hP hS
  exact lv_lload hx hb hdg (hl.2.2 _ (zj_get_mem hv)) (k ls H locs hl hP hS)
theorem zj_aload_n (K : zj_C E Γ cc nL own d) {k0 : Fin 4} {i : Nat} {x : Nat} (hdg : decode cc pc = .ok (.aload_n k0, 1)) (hi : (k0 : Nat) = i) (hv : zj_get L i = some (.ref x)) (k : zj_J E Γ nL (pc + 1) L (.ref x :: S) h g) : zj_J E Γ nL pc L (S) h g := by
  obtain ⟨p, l, e, R, s, m, args, below, meth, c, A, Q, cells, slots⟩ := Γ
  obtain ⟨hx, hb, hml, hown, hts, hK, hA, hD, hX, hfr, hlo, hce, hsl⟩ := K
  intro ls H locs hl hP hS
  exact lv_aload_n (i := i) hx hb hdg hi (hl.2.2 _ (zj_get_mem hv)) (k ls H locs hl hP hS)
theorem zj_aload (K : zj_C E Γ cc nL own d) {i : Nat} {x : Nat} (hdg : decode cc pc = .ok (.aload i, 2)) (hv : zj_get L i = some (.ref x)) (k : zj_J E Γ nL (pc + 2) L (.ref x :: S) h g) : zj_J E Γ nL pc L (S) h g := by
  obtain ⟨p, l, e, R, s, m, args, below, meth, c, A, Q, cells, slots⟩ := Γ
  obtain ⟨hx, hb, hml, hown, hts, hK, hA, hD, hX, hfr, hlo, hce, hsl⟩ := K
  intro ls H locs hl hP hS
  exact lv_aload hx hb hdg (hl.2.2 _ (zj_get_mem hv)) (k ls H locs hl hP hS)
theorem zj_istore_n (K : zj_C E Γ cc nL own d) {k0 : Fin 4} {i : Nat} {x : Int32} (hdg : decode cc pc = .ok (.istore_n k0, 1)) (hi : (k0 : Nat) = i) (hn : Nat.blt i nL = true) (ha : zj_asc L = true) (h1 : zj_one L = true) (k : zj_J E Γ nL (pc + 1) (zj_ins L i (.int x)) S h g) : zj_J E Γ nL pc L (.int x :: S) h g := by
  obtain ⟨p, l, e, R, s, m, args, below, meth, c, A, Q, cells, slots⟩ := Γ
  obtain ⟨hx, hb, hml, hown, hts, hK, hA, hD, hX, hfr, hlo, hce, hsl⟩ := K
  intro ls H locs hl hP hS
  exact lv_istore_n (i := i) hx hb hdg hi hl (Nat.blt_eq.mp hn) rfl (fun ls hl => k ls H locs (zj_has_of (lv' := []) ha (zj_one_of h1) hl) hP hS)
theorem zj_istore (K : zj_C E Γ cc nL own d) {i : Nat} {x : Int32} (hdg : decode cc pc = .ok (.istore i, 2)) (hn : Nat.blt i nL = true) (ha : zj_asc L = true) (h1 : zj_one L = true) (k : zj_J E Γ nL (pc + 2) (zj_ins L i (.int x)) S h g) : zj_J E Γ nL pc L (.int x :: S) h g := by
  obtain ⟨p, l, e, R, s, m, args, below, meth, c, A, Q, cells, slots⟩ := Γ
  obtain ⟨hx, hb, hml, hown, hts, hK, hA, hD, hX, hfr, hlo, hce, hsl⟩ := K
  intro ls H locs hl hP hS
  exact lv_istore hx hb hdg hl (Nat.blt_eq.mp hn) rfl (fun ls hl => k ls H locs (zj_has_of (lv' := []) ha (zj_one_of h1) hl) hP hS)
theorem zj_astore_n (K : zj_C E Γ cc nL own d) {k0 : Fin 4} {i : Nat} {x : Nat} (hdg : decode cc pc = .ok (.astore_n k0, 1)) (hi : (k0 : Nat) = i) (hn : Nat.blt i nL = true) (ha : zj_asc L = true) (h1 : zj_one L = true) (k : zj_J E Γ nL (pc + 1) (zj_ins L i (.ref x)) S h g) : zj_J E Γ nL pc L (.ref x :: S) h g := by
  obtain ⟨p, l, e, R, s, m, args, below, meth, c, A, Q, cells, slots⟩ := Γ
  obtain ⟨hx, hb, hml, hown, hts, hK, hA, hD, hX, hfr, hlo, hce, hsl⟩ := K
  intro ls H locs hl hP hS
  exact lv_astore_n (i := i) hx hb hdg hi hl (Nat.blt_eq.mp hn) rfl (fun ls hl => k ls H locs (zj_has_of (lv' := []) ha (zj_one_of h1) hl) hP hS)
theorem zj_astore (K : zj_C E Γ cc nL own d) {i : Nat} {x : Nat} (hdg : decode cc pc = .ok (.astore i, 2)) (hn : Nat.blt i nL = true) (ha : zj_asc L = true) (h1 : zj_one L = true) (k : zj_J E Γ nL (pc + 2) (zj_ins L i (.ref x)) S h g) : zj_J E Γ nL pc L (.ref x :: S) h g := by
  obtain ⟨p, l, e, R, s, m, args, below, meth, c, A, Q, cells, slots⟩ := Γ
  obtain ⟨hx, hb, hml, hown, hts, hK, hA, hD, hX, hfr, hlo, hce, hsl⟩ := K
  intro ls H locs hl hP hS
  exact lv_astore hx hb hdg hl (Nat.blt_eq.mp hn) rfl (fun ls hl => k ls H locs (zj_has_of (lv' := []) ha (zj_one_of h1) hl) hP hS)
theorem zj_iinc (K : zj_C E Γ cc nL own d) {i : Nat} {n : Int} {x v : Int32} (hdg : decode cc pc = .ok (.iinc i n, 3)) (hv : zj_get L i = some (.int x)) (hw : Int32.ofInt n = v) (hn : Nat.blt i nL = true) (ha : zj_asc L = true) (h1 : zj_one L = true) (k : zj_J E Γ nL (pc + 3) (zj_ins L i (.int (x + v))) S h g) : zj_J E Γ nL pc L S h g := by
  obtain ⟨p, l, e, R, s, m, args, below, meth, c, A, Q, cells, slots⟩ := Γ
  obtain ⟨hx, hb, hml, hown, hts, hK, hA, hD, hX, hfr, hlo, hce, hsl⟩ := K
  intro ls H locs hl hP hS
  obtain ⟨k9, hk9⟩ := List.getElem?_of_mem (zj_get_mem hv)
  exact lv_iinc (v := x + v) hx hb hdg hl hk9 (by rw [hw]) (Nat.blt_eq.mp hn) rfl (fun ls hl => k ls H locs (zj_has_of (lv' := []) ha (zj_one_of h1) hl) hP hS)
theorem zj_lstore (K : zj_C E Γ cc nL own d) {i : Nat} {x : Int64} (hdg : decode cc pc = .ok (.lstore i, 2)) (hn : Nat.blt (i + 1) nL = true) {L' : List (Nat × Value)} (hL : ∀ q ∈ L', q ∈ (i, Value.long x) :: L.filter (fun q => !(q.1 == i) && (!(q.1 == i + 1) && !(q.1 + 1 == i && q.2.category == 2)))) (k : zj_J E Γ nL (pc + 2) L' S h g) : zj_J E Γ nL pc L (.long x :: S) h g := by
  obtain ⟨p, l, e, R, s, m, args, below, meth, c, A, Q, cells, slots⟩ := Γ
  obtain ⟨hx, hb, hml, hown, hts, hK, hA, hD, hX, hfr, hlo, hce, hsl⟩ := K
  intro ls H locs hl hP hS
  exact lv_lstore hx hb hdg hl (Nat.blt_eq.mp hn) rfl (fun ls hl => k ls H locs ⟨hl.1, hl.2.1, fun q hq => hl.2.2 q (hL q hq)⟩ hP hS)
/-- fewer locals, in another order -/
theorem zj_less {L' : List (Nat × Value)} (hL : ∀ q ∈ L', q ∈ L) (k : zj_J E Γ nL pc L' S h g) : zj_J E Γ nL pc L S h g := by
  obtain ⟨p, l, e, R, s, m, args, below, meth, c, A, Q, cells, slots⟩ := Γ
  intro ls H locs hl hP hS
  exact k ls H locs ⟨hl.1, hl.2.1, fun q hq => hl.2.2 q (hL q hq)⟩ hP hS
theorem zj_iadd (K : zj_C E Γ cc nL own d) {x y : Int32} (hdg : decode cc pc = .ok (.iadd, 1)) (k : zj_J E Γ nL (pc + 1) L (.int (x + y) :: S) h g) : zj_J E Γ nL pc L (.int y :: .int x :: S) h g := by
  obtain ⟨p, l, e, R, s, m, args, below, meth, c, A, Q, cells, slots⟩ := Γ
  obtain ⟨hx, hb, hml, hown, hts, hK, hA, hD, hX, hfr, hlo, hce, hsl⟩ := K
  intro ls H locs hl hP hS
  exact lv_iadd hx hb hdg (k ls H locs hl hP hS)
theorem zj_isub (K : zj_C E Γ cc nL own d) {x y : Int32} (hdg : decode cc pc = .ok (.isub, 1)) (k : zj_J E Γ nL (pc + 1) L (.int (x - y) :: S) h g) : zj_J E Γ nL pc L (.int y :: .int x :: S) h g := by
  obtain ⟨p, l, e, R, s, m, args, below, meth, c, A, Q, cells, slots⟩ := Γ
  obtain ⟨hx, hb, hml, hown, hts, hK, hA, hD, hX, hfr, hlo, hce, hsl⟩ := K
  intro ls H locs hl hP hS
  exact lv_isub hx hb hdg (k ls H locs hl hP hS)
theorem zj_imul (K : zj_C E Γ cc nL own d) {x y : Int32} (hdg : decode cc pc = .ok (.imul, 1)) (k : zj_J E Γ nL (pc + 1) L (.int (x * y) :: S) h g) : zj_J E Γ nL pc L (.int y :: .int x :: S) h g := by
  obtain ⟨p, l, e, R, s, m, args, below, meth, c, A, Q, cells, slots⟩ := Γ
  obtain ⟨hx, hb, hml, hown, hts, hK, hA, hD, hX, hfr, hlo, hce, hsl⟩ := K
  intro ls H locs hl hP hS
  exact lv_imul hx hb hdg (k ls H locs hl hP hS)
theorem zj_iand (K : zj_C E Γ cc nL own d) {x y : Int32} (hdg : decode cc pc = .ok (.iand, 1)) (k : zj_J E Γ nL (pc + 1) L (.int (x &&& y) :: S) h g) : zj_J E Γ nL pc L (.int y :: .int x :: S) h g := by
  obtain ⟨p, l, e, R, s, m, args, below, meth, c, A, Q, cells, slots⟩ := Γ
  obtain ⟨hx, hb, hml, hown, hts, hK, hA, hD, hX, hfr, hlo, hce, hsl⟩ := K
  intro ls H locs hl hP hS
  exact lv_iand hx hb hdg (k ls H locs hl hP hS)
theorem zj_ior (K : zj_C E Γ cc nL own d) {x y : Int32} (hdg : decode cc pc = .ok (.ior, 1)) (k : zj_J E Γ nL (pc + 1) L (.int (x ||| y) :: S) h g) : zj_J E Γ nL pc L (.int y :: .int x :: S) h g := by
  obtain ⟨p, l, e, R, s, m, args, below, meth, c, A, Q, cells, slots⟩ := Γ
  obtain ⟨hx, hb, hml, hown, hts, hK, hA, hD, hX, hfr, hlo, hce, hsl⟩ := K
  intro ls H locs hl hP hS
  exact lv_ior hx hb hdg (k ls H locs hl hP hS)
theorem zj_ixor (K : zj_C E Γ cc nL own d) {x y : Int32} (hdg : decode cc pc = .ok (.ixor, 1)) (k : zj_J E Γ nL (pc + 1) L (.int (x ^^^ y) :: S) h g) : zj_J E Γ nL pc L (.int y :: .int x :: S) h g := by
  obtain ⟨p, l, e, R, s, m, args, below, meth, c, A, Q, cells, slots⟩ := Γ
  obtain ⟨hx, hb, hml, hown, hts, hK, hA, hD, hX, hfr, hlo, hce, hsl⟩ := K
  intro ls H locs hl hP hS
  exact lv_ixor hx hb hdg (k ls H locs hl hP hS)
theorem zj_ishl (K : zj_C E Γ cc nL own d) {x y : Int32} (hdg : decode cc pc = .ok (.ishl, 1)) (k : zj_J E Γ nL (pc + 1) L (.int (x <<< (y &&& 31)) :: S) h g) : zj_J E Γ nL pc L (.int y :: .int x :: S) h g := by
  obtain ⟨p, l, e, R, s, m, args, below, meth, c, A, Q, cells, slots⟩ := Γ
  obtain ⟨hx, hb, hml, hown, hts, hK, hA, hD, hX, hfr, hlo, hce, hsl⟩ := K
  intro ls H locs hl hP hS
  exact lv_ishl hx hb hdg (k ls H locs hl hP hS)
theorem zj_ishr (K : zj_C E Γ cc nL own d) {x y : Int32} (hdg : decode cc pc = .ok (.ishr, 1)) (k : zj_J E Γ nL (pc + 1) L (.int (x >>> (y &&& 31)) :: S) h g) : zj_J E Γ nL pc L (.int y :: .int x :: S) h g := by
  obtain ⟨p, l, e, R, s, m, args, below, meth, c, A, Q, cells, slots⟩ := Γ
  obtain ⟨hx, hb, hml, hown, hts, hK, hA, hD, hX, hfr, hlo, hce, hsl⟩ := K
  intro ls H locs hl hP hS
  exact lv_ishr hx hb hdg (k ls H locs hl hP hS)
theorem zj_iushr (K : zj_C E Γ cc nL own d) {x y : Int32} (hdg : decode cc pc = .ok (.iushr, 1)) (k : zj_J E Γ nL (pc + 1) L (.int ((x.toUInt32 >>> (y.toUInt32 &&& Int32.toUInt32 31)).toInt32) :: S) h g) : zj_J E Γ nL pc L (.int y :: .int x :: S) h g := by
  obtain ⟨p, l, e, R, s, m, args, below, meth, c, A, Q, cells, slots⟩ := Γ
  obtain ⟨hx, hb, hml, hown, hts, hK, hA, hD, hX, hfr, hlo, hce, hsl⟩ := K
  intro ls H locs hl hP hS
  exact lv_iushr hx hb hdg rfl (k ls H locs hl hP hS)
theorem zj_irem (K : zj_C E Γ cc nL own d) {x y : Int32} (hdg : decode cc pc = .ok (.irem, 1)) (hne : ¬ y = 0) (k : zj_J E Γ nL (pc + 1) L (.int (x - x / y * y) :: S) h g) : zj_J E Γ nL pc L (.int y :: .int x :: S) h g := by
  obtain ⟨p, l, e, R, s, m, args, below, meth, c, A, Q, cells, slots⟩ := Γ
  obtain ⟨hx, hb, hml, hown, hts, hK, hA, hD, hX, hfr, hlo, hce, hsl⟩ := K
  intro ls H locs hl hP hS
  exact lv_irem hx hb hdg hne (k ls H locs hl hP hS)
theorem zj_ineg (K : zj_C E Γ cc nL own d) {x : Int32} (hdg : decode cc pc = .ok (.ineg, 1)) (k : zj_J E Γ nL (pc + 1) L (.int (-x) :: S) h g) : zj_J E Γ nL pc L (.int x :: S) h g := by
  obtain ⟨p, l, e, R, s, m, args, below, meth, c, A, Q, cells, slots⟩ := Γ
  obtain ⟨hx, hb, hml, hown, hts, hK, hA, hD, hX, hfr, hlo, hce, hsl⟩ := K
  intro ls H locs hl hP hS
  exact lv_ineg hx hb hdg (k ls H locs hl hP hS)
theorem zj_ladd (K : zj_C E Γ cc nL own d) {x y : Int64} (hdg : decode cc pc = .ok (.ladd, 1)) (k : zj_J E Γ nL (pc + 1) L (.long (x + y) :: S) h g) : zj_J E Γ nL pc L (.long y :: .long x :: S) h g := by
  obtain ⟨p, l, e, R, s, m, args, below, meth, c, A, Q, cells, slots⟩ := Γ
  obtain ⟨hx, hb, hml, hown, hts, hK, hA, hD, hX, hfr, hlo, hce, hsl⟩ := K
  intro ls H locs hl hP hS
  exact lv_ladd hx hb hdg (k ls H locs hl hP hS)
theorem zj_lsub (K : zj_C E Γ cc nL own d) {x y : Int64} (hdg : decode cc pc = .ok (.lsub, 1)) (k : zj_J E Γ nL (pc + 1) L (.long (x - y) :: S) h g) : zj_J E Γ nL pc L (.long y :: .long x :: S) h g := by
  obtain ⟨p, l, e, R, s, m, args, below, meth, c, A, Q, cells, slots⟩ := Γ
  obtain ⟨hx, hb, hml, hown, hts, hK, hA, hD, hX, hfr, hlo, hce, hsl⟩ := K
  intro ls H locs hl hP hS
  exact lv_lsub hx hb hdg (k ls H locs hl hP hS)
theorem zj_lmul (K : zj_C E Γ cc nL own d) {x y : Int64} (hdg : decode cc pc = .ok (.lmul, 1)) (k : zj_J E Γ nL (pc + 1) L (.long (x * y) :: S) h g) : zj_J E Γ nL pc L (.long y :: .long x :: S) h g := by
  obtain ⟨p, l, e, R, s, m, args, below, meth, c, A, Q, cells, slots⟩ := Γ
  obtain ⟨hx, hb, hml, hown, hts, hK, hA, hD, hX, hfr, hlo, hce, hsl⟩ := K
  intro ls H locs hl hP hS
  exact lv_lmul hx hb hdg (k ls H locs hl hP hS)
theorem zj_i2l (K : zj_C E Γ cc nL own d) {x : Int32} (hdg : decode cc pc = .ok (.i2l, 1)) (k : zj_J E Γ nL (pc + 1) L (.long x.toInt64 :: S) h g) : zj_J E Γ nL pc L (.int x :: S) h g := by
  obtain ⟨p, l, e, R, s, m, args, below, meth, c, A, Q, cells, slots⟩ := Γ
  obtain ⟨hx, hb, hml, hown, hts, hK, hA, hD, hX, hfr, hlo, hce, hsl⟩ := K
  intro ls H locs hl hP hS
  exact lv_i2l hx hb hdg rfl (k ls H locs hl hP hS)
theorem zj_i2b (K : zj_C E Γ cc nL own d) {x : Int32} (hdg : decode cc pc = .ok (.i2b, 1)) (k : zj_J E Γ nL (pc + 1) L (.int x.toInt8.toInt32 :: S) h g) : zj_J E Γ nL pc L (.int x :: S) h g := by
  obtain ⟨p, l, e, R, s, m, args, below, meth, c, A, Q, cells, slots⟩ := Γ
  obtain ⟨hx, hb, hml, hown, hts, hK, hA, hD, hX, hfr, hlo, hce, hsl⟩ := K
  intro ls H locs hl hP hS
  exact lv_i2b hx hb hdg rfl (k ls H locs hl hP hS)
theorem zj_i2c (K : zj_C E Γ cc nL own d) {x : Int32} (hdg : decode cc pc = .ok (.i2c, 1)) (k : zj_J E Γ nL (pc + 1) L (.int (x.toUInt32 % 65536).toInt32 :: S) h g) : zj_J E Γ nL pc L (.int x :: S) h g := by
  obtain ⟨p, l, e, R, s, m, args, below, meth, c, A, Q, cells, slots⟩ := Γ
  obtain ⟨hx, hb, hml, hown, hts, hK, hA, hD, hX, hfr, hlo, hce, hsl⟩ := K
  intro ls H locs hl hP hS
  exact lv_i2c hx hb hdg rfl (k ls H locs hl hP hS)
theorem zj_lcmp (K : zj_C E Γ cc nL own d) {x y : Int64} (hdg : decode cc pc = .ok (.lcmp, 1)) (k : zj_J E Γ nL (pc + 1) L (.int (lg_cmp x y) :: S) h g) : zj_J E Γ nL pc L (.long y :: .long x :: S) h g := by
  obtain ⟨p, l, e, R, s, m, args, below, meth, c, A, Q, cells, slots⟩ := Γ
  obtain ⟨hx, hb, hml, hown, hts, hK, hA, hD, hX, hfr, hlo, hce, hsl⟩ := K
  intro ls H locs hl hP hS
  exact W.lcmp hx hb hdg (k ls H locs hl hP hS)
theorem zj_dup (K : zj_C E Γ cc nL own d) {va : Value} (hdg : decode cc pc = .ok (.dup, 1)) (hva : va.category = 1) (k : zj_J E Γ nL (pc + 1) L (va :: va :: S) h g) : zj_J E Γ nL pc L (va :: S) h g := by
  obtain ⟨p, l, e, R, s, m, args, below, meth, c, A, Q, cells, slots⟩ := Γ
  obtain ⟨hx, hb, hml, hown, hts, hK, hA, hD, hX, hfr, hlo, hce, hsl⟩ := K
  intro ls H locs hl hP hS
  exact lv_dup hx hb hdg hva (k ls H locs hl hP hS)
theorem zj_pop (K : zj_C E Γ cc nL own d) {va : Value} (hdg : decode cc pc = .ok (.pop, 1)) (hva : va.category = 1) (k : zj_J E Γ nL (pc + 1) L (S) h g) : zj_J E Γ nL pc L (va :: S) h g := by
  obtain ⟨p, l, e, R, s, m, args, below, meth, c, A, Q, cells, slots⟩ := Γ
  obtain ⟨hx, hb, hml, hown, hts, hK, hA, hD, hX, hfr, hlo, hce, hsl⟩ := K
  intro ls H locs hl hP hS
  exact lv_pop hx hb hdg hva (k ls H locs hl hP hS)
theorem zj_dup_x1 (K : zj_C E Γ cc nL own d) {va vb : Value} (hdg : decode cc pc = .ok (.dup_x1, 1)) (hva : va.category = 1) (hvb : vb.category = 1) (k : zj_J E Γ nL (pc + 1) L (va :: vb :: va :: S) h g) : zj_J E Γ nL pc L (va :: vb :: S) h g := by
  obtain ⟨p, l, e, R, s, m, args, below, meth, c, A, Q, cells, slots⟩ := Γ
  obtain ⟨hx, hb, hml, hown, hts, hK, hA, hD, hX, hfr, hlo, hce, hsl⟩ := K
  intro ls H locs hl hP hS
  exact lv_dup_x1 hx hb hdg hva hvb (k ls H locs hl hP hS)
theorem zj_dup2 (K : zj_C E Γ cc nL own d) {va vb : Value} (hdg : decode cc pc = .ok (.dup2, 1)) (hva : va.category = 1) (hvb : vb.category = 1) (k : zj_J E Γ nL (pc + 1) L (va :: vb :: va :: vb :: S) h g) : zj_J E Γ nL pc L (va :: vb :: S) h g := by
  obtain ⟨p, l, e, R, s, m, args, below, meth, c, A, Q, cells, slots⟩ := Γ
  obtain ⟨hx, hb, hml, hown, hts, hK, hA, hD, hX, hfr, hlo, hce, hsl⟩ := K
  intro ls H locs hl hP hS
  exact lv_dup2_11 hx hb hdg hva hvb (k ls H locs hl hP hS)
theorem zj_goto (K : zj_C E Γ cc nL own d) {off : Int} {tgt : Nat} (hdg : decode cc pc = .ok (.goto off, 3)) (ht : (pc : Int) + off = (tgt : Int)) (k : zj_J E Γ nL tgt L S h g) : zj_J E Γ nL pc L S h g := by
  obtain ⟨p, l, e, R, s, m, args, below, meth, c, A, Q, cells, slots⟩ := Γ
  obtain ⟨hx, hb, hml, hown, hts, hK, hA, hD, hX, hfr, hlo, hce, hsl⟩ := K
  intro ls H locs hl hP hS
  exact lv_goto hx hb hdg ht (k ls H locs hl hP hS)
theorem zj_if_eq (K : zj_C E Γ cc nL own d) {x : Int32} {off : Int} {tgt : Nat} (hdg : decode cc pc = .ok (.ifCond .eq off, 3)) (ht : (pc : Int) + off = (tgt : Int)) (kt : x = 0 → zj_J E Γ nL tgt L S h g) (kf : ¬ x = 0 → zj_J E Γ nL (pc + 3) L S h g) : zj_J E Γ nL pc L (.int x :: S) h g := by
  obtain ⟨p, l, e, R, s, m, args, below, meth, c, A, Q, cells, slots⟩ := Γ
  obtain ⟨hx, hb, hml, hown, hts, hK, hA, hD, hX, hfr, hlo, hce, hsl⟩ := K
  intro ls H locs hl hP hS
  exact lv_if_eq hx hb hdg ht (fun q => kt q ls H locs hl hP hS) (fun q => kf q ls H locs hl hP hS)
theorem zj_icmp_eq (K : zj_C E Γ cc nL own d) {x y : Int32} {off : Int} {tgt : Nat} (hdg : decode cc pc = .ok (.if_icmp .eq off, 3)) (ht : (pc : Int) + off = (tgt : Int)) (kt : x = y → zj_J E Γ nL tgt L S h g) (kf : ¬ x = y → zj_J E Γ nL (pc + 3) L S h g) : zj_J E Γ nL pc L (.int y :: .int x :: S) h g := by
  obtain ⟨p, l, e, R, s, m, args, below, meth, c, A, Q, cells, slots⟩ := Γ
  obtain ⟨hx, hb, hml, hown, hts, hK, hA, hD, hX, hfr, hlo, hce, hsl⟩ := K
  intro ls H locs hl hP hS
  exact lv_icmp_eq hx hb hdg ht (fun q => kt q ls H locs hl hP hS) (fun q => kf q ls H locs hl hP hS)
theorem zj_if_ne (K : zj_C E Γ cc nL own d) {x : Int32} {off : Int} {tgt : Nat} (hdg : decode cc pc = .ok (.ifCond .ne off, 3)) (ht : (pc : Int) + off = (tgt : Int)) (kt : ¬ x = 0 → zj_J E Γ nL tgt L S h g) (kf : x = 0 → zj_J E Γ nL (pc + 3) L S h g) : zj_J E Γ nL pc L (.int x :: S) h g := by
  obtain ⟨p, l, e, R, s, m, args, below, meth, c, A, Q, cells, slots⟩ := Γ
  obtain ⟨hx, hb, hml, hown, hts, hK, hA, hD, hX, hfr, hlo, hce, hsl⟩ := K
  intro ls H locs hl hP hS
  exact lv_if_ne hx hb hdg ht (fun q => kt q ls H locs hl hP hS) (fun q => kf q ls H locs hl hP hS)
theorem zj_icmp_ne (K : zj_C E Γ cc nL own d) {x y : Int32} {off : Int} {tgt : Nat} (hdg : decode cc pc = .ok (.if_icmp .ne off, 3)) (ht : (pc : Int) + off = (tgt : Int)) (kt : ¬ x = y → zj_J E Γ nL tgt L S h g) (kf : x = y → zj_J E Γ nL (pc + 3) L S h g) : zj_J E Γ nL pc L (.int y :: .int x :: S) h g := by
  obtain ⟨p, l, e, R, s, m, args, below, meth, c, A, Q, cells, slots⟩ := Γ
  obtain ⟨hx, hb, hml, hown, hts, hK, hA, hD, hX, hfr, hlo, hce, hsl⟩ := K
  intro ls H locs hl hP hS
  exact lv_icmp_ne hx hb hdg ht (fun q => kt q ls H locs hl hP hS) (fun q => kf q ls H locs hl hP hS)
theorem zj_if_lt (K : zj_C E Γ cc nL own d) {x : Int32} {off : Int} {tgt : Nat} (hdg : decode cc pc = .ok (.ifCond .lt off, 3)) (ht : (pc : Int) + off = (tgt : Int)) (kt : x < 0 → zj_J E Γ nL tgt L S h g) (kf : ¬ x < 0 → zj_J E Γ nL (pc + 3) L S h g) : zj_J E Γ nL pc L (.int x :: S) h g := by
  obtain ⟨p, l, e, R, s, m, args, below, meth, c, A, Q, cells, slots⟩ := Γ
  obtain ⟨hx, hb, hml, hown, hts, hK, hA, hD, hX, hfr, hlo, hce, hsl⟩ := K
  intro ls H locs hl hP hS
  exact lv_if_lt hx hb hdg ht (fun q => kt q ls H locs hl hP hS) (fun q => kf q ls H locs hl hP hS)
theorem zj_icmp_lt (K : zj_C E Γ cc nL own d) {x y : Int32} {off : Int} {tgt : Nat} (hdg : decode cc pc = .ok (.if_icmp .lt off, 3)) (ht : (pc : Int) + off = (tgt : Int)) (kt : x < y → zj_J E Γ nL tgt L S h g) (kf : ¬ x < y → zj_J E Γ nL (pc + 3) L S h g) : zj_J E Γ nL pc L (.int y :: .int x :: S) h g := by
  obtain ⟨p, l, e, R, s, m, args, below, meth, c, A, Q, cells, slots⟩ := Γ
  obtain ⟨hx, hb, hml, hown, hts, hK, hA, hD, hX, hfr, hlo, hce, hsl⟩ := K
  intro ls H locs hl hP hS
  exact lv_icmp_lt hx hb hdg ht (fun q => kt q ls H locs hl hP hS) (fun q => kf q ls H locs hl hP hS)
theorem zj_if_ge (K : zj_C E Γ cc nL own d) {x : Int32} {off : Int} {tgt : Nat} (hdg : decode cc pc = .ok (.ifCond .ge off, 3)) (ht : (pc : Int) + off = (tgt : Int)) (kt : 0 ≤ x → zj_J E Γ nL tgt L S h g) (kf : ¬ 0 ≤ x → zj_J E Γ nL (pc + 3) L S h g) : zj_J E Γ nL pc L (.int x :: S) h g := by
  obtain ⟨p, l, e, R, s, m, args, below, meth, c, A, Q, cells, slots⟩ := Γ
  obtain ⟨hx, hb, hml, hown, hts, hK, hA, hD, hX, hfr, hlo, hce, hsl⟩ := K
  intro ls H locs hl hP hS
  exact lv_if_ge hx hb hdg ht (fun q => kt q ls H locs hl hP hS) (fun q => kf q ls H locs hl hP hS)
theorem zj_icmp_ge (K : zj_C E Γ cc nL own d) {x y : Int32} {off : Int} {tgt : Nat} (hdg : decode cc pc = .ok (.if_icmp .ge off, 3)) (ht : (pc : Int) + off = (tgt : Int)) (kt : y ≤ x → zj_J E Γ nL tgt L S h g) (kf : ¬ y ≤ x → zj_J E Γ nL (pc + 3) L S h g) : zj_J E Γ nL pc L (.int y :: .int x :: S) h g := by
  obtain ⟨p, l, e, R, s, m, args, below, meth, c, A, Q, cells, slots⟩ := Γ
  obtain ⟨hx, hb, hml, hown, hts, hK, hA, hD, hX, hfr, hlo, hce, hsl⟩ := K
  intro ls H locs hl hP hS
  exact lv_icmp_ge hx hb hdg ht (fun q => kt q ls H locs hl hP hS) (fun q => kf q ls H locs hl hP hS)
theorem zj_if_gt (K : zj_C E Γ cc nL own d) {x : Int32} {off : Int} {tgt : Nat} (hdg : decode cc pc = .ok (.ifCond .gt off, 3)) (ht : (pc : Int) + off = (tgt : Int)) (kt : 0 < x → zj_J E Γ nL tgt L S h g) (kf : ¬ 0 < x → zj_J E Γ nL (pc + 3) L S h g) : zj_J E Γ nL pc L (.int x :: S) h g := by
  obtain ⟨p, l, e, R, s, m, args, below, meth, c, A, Q, cells, slots⟩ := Γ
  obtain ⟨hx, hb, hml, hown, hts, hK, hA, hD, hX, hfr, hlo, hce, hsl⟩ := K
  intro ls H locs hl hP hS
  exact lv_if_gt hx hb hdg ht (fun q => kt q ls H locs hl hP hS) (fun q => kf q ls H locs hl hP hS)
theorem zj_icmp_gt (K : zj_C E Γ cc nL own d) {x y : Int32} {off : Int} {tgt : Nat} (hdg : decode cc pc = .ok (.if_icmp .gt off, 3)) (ht : (pc : Int) + off = (tgt : Int)) (kt : y < x → zj_J E Γ nL tgt L S h g) (kf : ¬ y < x → zj_J E Γ nL (pc + 3) L S h g) : zj_J E Γ nL pc L (.int y :: .int x :: S) h g := by
  obtain ⟨p, l, e, R, s, m, args, below, meth, c, A, Q, cells, slots⟩ := Γ
  obtain ⟨hx, hb, hml, hown, hts, hK, hA, hD, hX, hfr, hlo, hce, hsl⟩ := K
  intro ls H locs hl hP hS
  exact lv_icmp_gt hx hb hdg ht (fun q => kt q ls H locs hl hP hS) (fun q => kf q ls H locs hl hP hS)
theorem zj_if_le (K : zj_C E Γ cc nL own d) {x : Int32} {off : Int} {tgt : Nat} (hdg : decode cc pc = .ok (.ifCond .le off, 3)) (ht : (pc : Int) + off = (tgt : Int)) (kt : x ≤ 0 → zj_J E Γ nL tgt L S h g) (kf : ¬ x ≤ 0 → zj_J E Γ nL (pc + 3) L S h g) : zj_J E Γ nL pc L (.int x :: S) h g := by
  obtain ⟨p, l, e, R, s, m, args, below, meth, c, A, Q, cells, slots⟩ := Γ
  obtain ⟨hx, hb, hml, hown, hts, hK, hA, hD, hX, hfr, hlo, hce, hsl⟩ := K
  intro ls H locs hl hP hS
  exact lv_if_le hx hb hdg ht (fun q => kt q ls H locs hl hP hS) (fun q => kf q ls H locs hl hP hS)
theorem zj_icmp_le (K : zj_C E Γ cc nL own d) {x y : Int32} {off : Int} {tgt : Nat} (hdg : decode cc pc = .ok (.if_icmp .le off, 3)) (ht : (pc : Int) + off = (tgt : Int)) (kt : x ≤ y → zj_J E Γ nL tgt L S h g) (kf : ¬ x ≤ y → zj_J E Γ nL (pc + 3) L S h g) : zj_J E Γ nL pc L (.int y :: .int x :: S) h g := by
  obtain ⟨p, l, e, R, s, m, args, below, meth, c, A, Q, cells, slots⟩ := Γ
  obtain ⟨hx, hb, hml, hown, hts, hK, hA, hD, hX, hfr, hlo, hce, hsl⟩ := K
  intro ls H locs hl hP hS
  exact lv_icmp_le hx hb hdg ht (fun q => kt q ls H locs hl hP hS) (fun q => kf q ls H locs hl hP hS)
theorem zj_tableIn (K : zj_C E Γ cc nL own d) {dflt lo hi : Int} {offs : Array Int} {len : Nat} {x : Int32} {off : Int} {tgt : Nat} (hdg : decode cc pc = .ok (.tableswitch dflt lo hi offs, len)) (h1 : ¬ x.toInt < lo) (h2 : ¬ hi < x.toInt) (ho : offs[(x.toInt - lo).toNat]? = some off) (ht : (pc : Int) + off = (tgt : Int)) (k : zj_J E Γ nL tgt L S h g) : zj_J E Γ nL pc L (.int x :: S) h g := by
  obtain ⟨p, l, e, R, s, m, args, below, meth, c, A, Q, cells, slots⟩ := Γ
  obtain ⟨hx, hb, hml, hown, hts, hK, hA, hD, hX, hfr, hlo, hce, hsl⟩ := K
  intro ls H locs hl hP hS
  exact lv_tableIn hx hb hdg h1 h2 ho ht (k ls H locs hl hP hS)
theorem zj_tableOut (K : zj_C E Γ cc nL own d) {dflt lo hi : Int} {offs : Array Int} {len : Nat} {x : Int32} {tgt : Nat} (hdg : decode cc pc = .ok (.tableswitch dflt lo hi offs, len)) (h0 : x.toInt < lo ∨ hi < x.toInt) (ht : (pc : Int) + dflt = (tgt : Int)) (k : zj_J E Γ nL tgt L S h g) : zj_J E Γ nL pc L (.int x :: S) h g := by
  obtain ⟨p, l, e, R, s, m, args, below, meth, c, A, Q, cells, slots⟩ := Γ
  obtain ⟨hx, hb, hml, hown, hts, hK, hA, hD, hX, hfr, hlo, hce, hsl⟩ := K
  intro ls H locs hl hP hS
  exact lv_tableOut hx hb hdg h0 ht (k ls H locs hl hP hS)
/-- the top of the stack by another name -/
theorem zj_top {x x' : Int32} (e : x = x') (k : zj_J E Γ nL pc L (.int x' :: S) h g) : zj_J E Γ nL pc L (.int x :: S) h g := e ▸ k
theorem zj_heap {h' : zj_H} (e : h = h') (k : zj_J E Γ nL pc L S h' g) : zj_J E Γ nL pc L S h g := e ▸ k

theorem zj_in0 : ∀ w ∈ wsX00, w ∈ zj_tbl := by decide +kernel
theorem zj_in1 : ∀ w ∈ wsX10, w ∈ zj_tbl := by decide +kernel
theorem zj_in2 : ∀ w ∈ wsX20, w ∈ zj_tbl := by decide +kernel
theorem zj_in3 : ∀ w ∈ wsX30, w ∈ zj_tbl := by decide +kernel
theorem zj_in4 : ∀ w ∈ wsX40, w ∈ zj_tbl := by decide +kernel
theorem zj_in5 : ∀ w ∈ wsX50, w ∈ zj_tbl := by decide +kernel
theorem zj_in6 : ∀ w ∈ wsX60, w ∈ zj_tbl := by decide +kernel
theorem zj_in7 : ∀ w ∈ wsX70, w ∈ zj_tbl := by decide +kernel
theorem zj_in8 : ∀ w ∈ wsX80, w ∈ zj_tbl := by decide +kernel
def zj_fl (own : String) (index ci k : Nat) (ty : FieldType) (fin : Bool) : Prop := ∃ (C : String) (T : u_T) (N : Nat), zj_cl[ci]? = some (C, T, N) ∧ k < N ∧ Cond.fieldLink own index (T k).1 (T k).2.1 (T k).2.2.1 ∈ zj_tbl ∧ parseFieldDescriptor (T k).2.2.1 = some ty ∧ (T k).2.2.2 = fin
theorem zj_clIn : ∀ (ci : Nat) (C : String) (T : u_T) (N : Nat), zj_cl[ci]? = some (C, T, N) → (∀ w ∈ u_ws C T N, w ∈ zj_tbl) ∧ (∃ ty0 : Nat → FieldType, ∀ k, k < N → parseFieldDescriptor (T k).2.2.1 = some (ty0 k)) ∧ (∀ a, a < N → ∀ b, b < N → a ≠ b → (T a).2.1 ≠ (T b).2.1) := by
  intro ci C T N hc
  match ci, hc with

  | 0, hc => cases hc; exact ⟨zj_in0, ⟨tyX0, tyX0_ok⟩, nmX0⟩
  | 1, hc => cases hc; exact ⟨zj_in1, ⟨tyX1, tyX1_ok⟩, nmX1⟩
  | 2, hc => cases hc; exact ⟨zj_in2, ⟨tyX2, tyX2_ok⟩, nmX2⟩
  | 3, hc => cases hc; exact ⟨zj_in3, ⟨tyX3, tyX3_ok⟩, nmX3⟩
  | 4, hc => cases hc; exact ⟨zj_in4, ⟨tyX4, tyX4_ok⟩, nmX4⟩
  | 5, hc => cases hc; exact ⟨zj_in5, ⟨tyX5, tyX5_ok⟩, nmX5⟩
  | 6, hc => cases hc; exact ⟨zj_in6, ⟨tyX6, tyX6_ok⟩, nmX6⟩
  | 7, hc => cases hc; exact ⟨zj_in7, ⟨tyX7, tyX7_ok⟩, nmX7⟩
  | 8, hc => cases hc; exact ⟨zj_in8, ⟨tyX8, tyX8_ok⟩, nmX8⟩
  | ci + 9, hc => simp [zj_cl] at hc
theorem zj_getI (K : zj_C E Γ cc nL own d) {index ci k i : Nat} {ty : FieldType} {fin : Bool} {fs : List (Nat ⊕ Bool)} (hl0 : zj_fl own index ci k ty fin) (hs : zj_at i (.inl (ci, fs))) (hk : fs[k]? = some (.inr false)) (hdg : decode cc pc = .ok (.getfield index, 3)) (kk : zj_J E Γ nL (pc + 3) L (.int (h i k) :: S) h g) : zj_J E Γ nL pc L (.ref (E.2.1 i) :: S) h g := by
  obtain ⟨p, l, e, R, s, m, args, below, meth, c, A, Q, cells, slots⟩ := Γ
  obtain ⟨hx, hb, hml, hown, hts, hK, hA, hD, hX, hfr, hlo, hce, hsl⟩ := K
  obtain ⟨C, T, N, hc, hkN, hw, hd, hf⟩ := hl0
  intro ls H locs hl hP hS
  exact va_get (D := E.1) (ci := ci) (C := C) (T := T) (N := N) (v := .int (h i k)) hx hb hts (zj_clIn ci C T N hc).1 hown hK hP i (zj_ws_get E h g hs) hc k hkN (hts _ hw) (fun _ h9 => h9) (by rw [List.getElem?_mapIdx, hk]; rfl) hdg (kk ls H locs hl hP hS)
theorem zj_getJ (K : zj_C E Γ cc nL own d) {index ci k i : Nat} {ty : FieldType} {fin : Bool} {fs : List (Nat ⊕ Bool)} (hl0 : zj_fl own index ci k ty fin) (hs : zj_at i (.inl (ci, fs))) (hk : fs[k]? = some (.inr true)) (hdg : decode cc pc = .ok (.getfield index, 3)) (kk : zj_J E Γ nL (pc + 3) L (.long (g i k) :: S) h g) : zj_J E Γ nL pc L (.ref (E.2.1 i) :: S) h g := by
  obtain ⟨p, l, e, R, s, m, args, below, meth, c, A, Q, cells, slots⟩ := Γ
  obtain ⟨hx, hb, hml, hown, hts, hK, hA, hD, hX, hfr, hlo, hce, hsl⟩ := K
  obtain ⟨C, T, N, hc, hkN, hw, hd, hf⟩ := hl0
  intro ls H locs hl hP hS
  exact va_get (D := E.1) (ci := ci) (C := C) (T := T) (N := N) (v := .long (g i k)) hx hb hts (zj_clIn ci C T N hc).1 hown hK hP i (zj_ws_get E h g hs) hc k hkN (hts _ hw) (fun _ h9 => h9) (by rw [List.getElem?_mapIdx, hk]; rfl) hdg (kk ls H locs hl hP hS)
theorem zj_getR (K : zj_C E Γ cc nL own d) {index ci k i : Nat} {ty : FieldType} {fin : Bool} {fs : List (Nat ⊕ Bool)} {j : Nat} (hl0 : zj_fl own index ci k ty fin) (hs : zj_at i (.inl (ci, fs))) (hk : fs[k]? = some (.inl j)) (hdg : decode cc pc = .ok (.getfield index, 3)) (kk : zj_J E Γ nL (pc + 3) L (.ref (E.2.1 j) :: S) h g) : zj_J E Γ nL pc L (.ref (E.2.1 i) :: S) h g := by
  obtain ⟨p, l, e, R, s, m, args, below, meth, c, A, Q, cells, slots⟩ := Γ
  obtain ⟨hx, hb, hml, hown, hts, hK, hA, hD, hX, hfr, hlo, hce, hsl⟩ := K
  obtain ⟨C, T, N, hc, hkN, hw, hd, hf⟩ := hl0
  intro ls H locs hl hP hS
  exact va_get (D := E.1) (ci := ci) (C := C) (T := T) (N := N) (v := .ref (E.2.1 j)) hx hb hts (zj_clIn ci C T N hc).1 hown hK hP i (zj_ws_get E h g hs) hc k hkN (hts _ hw) (fun _ h9 => h9) (by rw [List.getElem?_mapIdx, hk]; rfl) hdg (kk ls H locs hl hP hS)
theorem zj_set_fv {E : zj_E} {h h' : zj_H} {g g' : zj_G} {i k : Nat} {fs : List (Nat ⊕ Bool)} {f : Nat ⊕ Bool} {v : Value} (hk : fs[k]? = some f) (hv : zj_fv E h' g' i k f = v) (e1 : ∀ b, b ≠ k → h' i b = h i b) (e2 : ∀ b, b ≠ k → g' i b = g i b) : (fs.mapIdx (zj_fv E h g i)).set k v = fs.mapIdx (zj_fv E h' g' i) := by
  have hkl : k < fs.length := (List.getElem?_eq_some_iff.mp hk).1
  apply List.ext_getElem?
  intro a
  rw [List.getElem?_set]
  by_cases ea : k = a
  · subst ea
    rw [if_pos rfl, if_pos (by rw [List.length_mapIdx]; exact hkl), List.getElem?_mapIdx, hk, ← hv]; rfl
  · rw [if_neg ea, List.getElem?_mapIdx, List.getElem?_mapIdx]
    cases fs[a]? with
    | none => rfl
    | some f2 =>
      show some _ = some _
      have : zj_fv E h g i a f2 = zj_fv E h' g' i a f2 := by
        unfold zj_fv; rw [e1 a (Ne.symm ea), e2 a (Ne.symm ea)]
      rw [this]

theorem zj_putI (K : zj_C E Γ cc nL own d) {index ci k i : Nat} {fs : List (Nat ⊕ Bool)} {x : Int32} (hl0 : zj_fl own index ci k .int false) (hs : zj_at i (.inl (ci, fs))) (hk : fs[k]? = some (.inr false)) (hdg : decode cc pc = .ok (.putfield index, 3)) (kk : zj_J E Γ nL (pc + 3) L S (zj_s h i (upd (h i) k x)) (g)) : zj_J E Γ nL pc L (.int x :: .ref (E.2.1 i) :: S) h g := by
  obtain ⟨p, l, e, R, s, m, args, below, meth, c, A, Q, cells, slots⟩ := Γ
  obtain ⟨hx, hb, hml, hown, hts, hK, hA, hD, hX, hfr, hlo, hce, hsl⟩ := K
  obtain ⟨C, T, N, hc, hkN, hw, hd, hf⟩ := hl0
  obtain ⟨hin, ⟨ty0, hty⟩, hnm⟩ := zj_clIn ci C T N hc
  intro ls H locs hl hP hS
  have hkl : k < fs.length := (List.getElem?_eq_some_iff.mp hk).1
  refine va_put (D := E.1) (ci := ci) (v := .int x) (ty := .int) (C := C) (T := T) (N := N) hx hb hts hin ty0 hty hnm hown hK hP (hD h g) hS i (zj_ws_get E h g hs) hc k hkN (hts _ hw) (fun _ h9 => h9) hf hd rfl rfl (by rw [List.length_mapIdx]; exact hkl) hdg (fun H1 locs1 hP1 hD1 hS1 => kk ls H1 locs1 hl ?_ hS1)
  have e := zj_ws_set E h (zj_s h i (upd (h i) k x)) g (g) (sh := .inl (ci, fs)) hs (fun a n => (by first | rfl | exact zj_s_ne _ _ n)) (fun a n => (by first | rfl | exact zj_sg_ne _ _ n))
  rw [← e]
  have e2 : (fs.mapIdx (zj_fv E h g i)).set k (.int x) = fs.mapIdx (zj_fv E (zj_s h i (upd (h i) k x)) (g) i) := zj_set_fv hk (by unfold zj_fv; simp [zj_s_eq, zj_sg_eq, upd, vp_updL]) (fun b n => by simp [zj_s_eq, upd, n]) (fun b n => by simp [zj_sg_eq, vp_updL, n])
  rw [e2] at hP1
  exact hP1
theorem zj_putZ (K : zj_C E Γ cc nL own d) {index ci k i : Nat} {fs : List (Nat ⊕ Bool)} {x : Int32} (hl0 : zj_fl own index ci k .boolean false) (hs : zj_at i (.inl (ci, fs))) (hk : fs[k]? = some (.inr false)) (hx01 : x = 0 ∨ x = 1) (hdg : decode cc pc = .ok (.putfield index, 3)) (kk : zj_J E Γ nL (pc + 3) L S (zj_s h i (upd (h i) k x)) (g)) : zj_J E Γ nL pc L (.int x :: .ref (E.2.1 i) :: S) h g := by
  obtain ⟨p, l, e, R, s, m, args, below, meth, c, A, Q, cells, slots⟩ := Γ
  obtain ⟨hx, hb, hml, hown, hts, hK, hA, hD, hX, hfr, hlo, hce, hsl⟩ := K
  obtain ⟨C, T, N, hc, hkN, hw, hd, hf⟩ := hl0
  obtain ⟨hin, ⟨ty0, hty⟩, hnm⟩ := zj_clIn ci C T N hc
  intro ls H locs hl hP hS
  have hkl : k < fs.length := (List.getElem?_eq_some_iff.mp hk).1
  refine va_put (D := E.1) (ci := ci) (v := .int x) (ty := .boolean) (C := C) (T := T) (N := N) hx hb hts hin ty0 hty hnm hown hK hP (hD h g) hS i (zj_ws_get E h g hs) hc k hkN (hts _ hw) (fun _ h9 => h9) hf hd (by rcases hx01 with e | e <;> subst e <;> rfl) (by rcases hx01 with e | e <;> subst e <;> rfl) (by rw [List.length_mapIdx]; exact hkl) hdg (fun H1 locs1 hP1 hD1 hS1 => kk ls H1 locs1 hl ?_ hS1)
  have e := zj_ws_set E h (zj_s h i (upd (h i) k x)) g (g) (sh := .inl (ci, fs)) hs (fun a n => (by first | rfl | exact zj_s_ne _ _ n)) (fun a n => (by first | rfl | exact zj_sg_ne _ _ n))
  rw [← e]
  have e2 : (fs.mapIdx (zj_fv E h g i)).set k (.int x) = fs.mapIdx (zj_fv E (zj_s h i (upd (h i) k x)) (g) i) := zj_set_fv hk (by unfold zj_fv; simp [zj_s_eq, zj_sg_eq, upd, vp_updL]) (fun b n => by simp [zj_s_eq, upd, n]) (fun b n => by simp [zj_sg_eq, vp_updL, n])
  rw [e2] at hP1
  exact hP1
theorem zj_putJ (K : zj_C E Γ cc nL own d) {index ci k i : Nat} {fs : List (Nat ⊕ Bool)} {x : Int64} (hl0 : zj_fl own index ci k .long false) (hs : zj_at i (.inl (ci, fs))) (hk : fs[k]? = some (.inr true)) (hdg : decode cc pc = .ok (.putfield index, 3)) (kk : zj_J E Γ nL (pc + 3) L S (h) (zj_sg g i (vp_updL (g i) k x))) : zj_J E Γ nL pc L (.long x :: .ref (E.2.1 i) :: S) h g := by
  obtain ⟨p, l, e, R, s, m, args, below, meth, c, A, Q, cells, slots⟩ := Γ
  obtain ⟨hx, hb, hml, hown, hts, hK, hA, hD, hX, hfr, hlo, hce, hsl⟩ := K
  obtain ⟨C, T, N, hc, hkN, hw, hd, hf⟩ := hl0
  obtain ⟨hin, ⟨ty0, hty⟩, hnm⟩ := zj_clIn ci C T N hc
  intro ls H locs hl hP hS
  have hkl : k < fs.length := (List.getElem?_eq_some_iff.mp hk).1
  refine va_put (D := E.1) (ci := ci) (v := .long x) (ty := .long) (C := C) (T := T) (N := N) hx hb hts hin ty0 hty hnm hown hK hP (hD h g) hS i (zj_ws_get E h g hs) hc k hkN (hts _ hw) (fun _ h9 => h9) hf hd rfl rfl (by rw [List.length_mapIdx]; exact hkl) hdg (fun H1 locs1 hP1 hD1 hS1 => kk ls H1 locs1 hl ?_ hS1)
  have e := zj_ws_set E h (h) g (zj_sg g i (vp_updL (g i) k x)) (sh := .inl (ci, fs)) hs (fun a n => (by first | rfl | exact zj_s_ne _ _ n)) (fun a n => (by first | rfl | exact zj_sg_ne _ _ n))
  rw [← e]
  have e2 : (fs.mapIdx (zj_fv E h g i)).set k (.long x) = fs.mapIdx (zj_fv E (h) (zj_sg g i (vp_updL (g i) k x)) i) := zj_set_fv hk (by unfold zj_fv; simp [zj_s_eq, zj_sg_eq, upd, vp_updL]) (fun b n => by simp [zj_s_eq, upd, n]) (fun b n => by simp [zj_sg_eq, vp_updL, n])
  rw [e2] at hP1
  exact hP1
theorem zj_in_nI {x : Int32} {j n : Nat} (ex : x = nI j) (hj : j < n) (hn : n ≤ 1000) : vp_in x n ∧ x.toNatClampNeg = j := by
  subst ex
  exact ⟨vp_in_nI hj (by omega), nI_clamp (by omega)⟩
theorem zj_ald (K : zj_C E Γ cc nL own d) {i n j : Nat} {x : Int32} (hs : zj_at i (.inr (0, n))) (ex : x = nI j) (hj : j < n) (hn : n ≤ 1000) (hdg : decode cc pc = .ok (.iaload, 1)) (kk : zj_J E Γ nL (pc + 1) L (.int (h i j) :: S) h g) : zj_J E Γ nL pc L (.int x :: .ref (E.2.1 i) :: S) h g := by
  obtain ⟨p, l, e, R, s, m, args, below, meth, c, A, Q, cells, slots⟩ := Γ
  obtain ⟨hx, hb, hml, hown, hts, hK, hA, hD, hX, hfr, hlo, hce, hsl⟩ := K
  intro ls H locs hl hP hS
  obtain ⟨h1, h2⟩ := zj_in_nI ex hj hn
  have h3 := kk ls H locs hl hP hS
  rw [← h2] at h3
  exact va_iald hx hb hK hP i 0 (zj_ws_get E h g hs) rfl h1 hdg h3
theorem zj_bld (K : zj_C E Γ cc nL own d) {i n j : Nat} {x : Int32} (hs : zj_at i (.inr (1, n))) (ex : x = nI j) (hj : j < n) (hn : n ≤ 1000) (hdg : decode cc pc = .ok (.baload, 1)) (kk : zj_J E Γ nL (pc + 1) L (.int (h i j) :: S) h g) : zj_J E Γ nL pc L (.int x :: .ref (E.2.1 i) :: S) h g := by
  obtain ⟨p, l, e, R, s, m, args, below, meth, c, A, Q, cells, slots⟩ := Γ
  obtain ⟨hx, hb, hml, hown, hts, hK, hA, hD, hX, hfr, hlo, hce, hsl⟩ := K
  intro ls H locs hl hP hS
  obtain ⟨h1, h2⟩ := zj_in_nI ex hj hn
  have h3 := kk ls H locs hl hP hS
  rw [← h2] at h3
  exact va_bald hx hb hK hP i 1 (zj_ws_get E h g hs) rfl h1 hdg h3
theorem zj_lld (K : zj_C E Γ cc nL own d) {i n j : Nat} {x : Int32} (hs : zj_at i (.inr (2, n))) (ex : x = nI j) (hj : j < n) (hn : n ≤ 1000) (hdg : decode cc pc = .ok (.laload, 1)) (kk : zj_J E Γ nL (pc + 1) L (.long (g i j) :: S) h g) : zj_J E Γ nL pc L (.int x :: .ref (E.2.1 i) :: S) h g := by
  obtain ⟨p, l, e, R, s, m, args, below, meth, c, A, Q, cells, slots⟩ := Γ
  obtain ⟨hx, hb, hml, hown, hts, hK, hA, hD, hX, hfr, hlo, hce, hsl⟩ := K
  intro ls H locs hl hP hS
  obtain ⟨h1, h2⟩ := zj_in_nI ex hj hn
  have h3 := kk ls H locs hl hP hS
  rw [← h2] at h3
  exact va_lald hx hb hK hP i 2 (zj_ws_get E h g hs) rfl h1 hdg h3
theorem zj_rld (K : zj_C E Γ cc nL own d) {i n j : Nat} {x : Int32} (hs : zj_at i (.inr (3, n))) (ex : x = nI j) (hj : j < n) (hn : n ≤ 1000) (hdg : decode cc pc = .ok (.aaload, 1)) (kk : zj_J E Γ nL (pc + 1) L (.ref (E.2.1 (34 + 4 * j)) :: S) h g) : zj_J E Γ nL pc L (.int x :: .ref (E.2.1 i) :: S) h g := by
  obtain ⟨p, l, e, R, s, m, args, below, meth, c, A, Q, cells, slots⟩ := Γ
  obtain ⟨hx, hb, hml, hown, hts, hK, hA, hD, hX, hfr, hlo, hce, hsl⟩ := K
  intro ls H locs hl hP hS
  obtain ⟨h1, h2⟩ := zj_in_nI ex hj hn
  have h3 := kk ls H locs hl hP hS
  rw [← h2] at h3
  exact va_aldq hx hb hK hP i 3 (zj_ws_get E h g hs) rfl h1 hdg h3
theorem zj_ast (K : zj_C E Γ cc nL own d) {i n j : Nat} {x v : Int32} (hs : zj_at i (.inr (0, n))) (ex : x = nI j) (hj : j < n) (hn : n ≤ 1000) (hdg : decode cc pc = .ok (.iastore, 1)) (kk : zj_J E Γ nL (pc + 1) L S (zj_s h i (upd (h i) j v)) g) : zj_J E Γ nL pc L (.int v :: .int x :: .ref (E.2.1 i) :: S) h g := by
  obtain ⟨p, l, e, R, s, m, args, below, meth, c, A, Q, cells, slots⟩ := Γ
  obtain ⟨hx, hb, hml, hown, hts, hK, hA, hD, hX, hfr, hlo, hce, hsl⟩ := K
  intro ls H locs hl hP hS
  obtain ⟨h1, h2⟩ := zj_in_nI ex hj hn
  refine va_iast hx hb hK hP (hD h g) hS i 0 (zj_ws_get E h g hs) rfl h1 hdg (fun H1 locs1 hP1 hD1 hS1 => kk ls H1 locs1 hl ?_ hS1)
  rw [h2] at hP1
  have e := zj_ws_set E h (zj_s h i (upd (h i) j v)) g g hs (fun a n => zj_s_ne _ _ n) (fun a n => rfl)
  rw [← e]
  have e2 : zj_ent E (zj_s h i (upd (h i) j v)) g i (.inr (0, n)) = .inl (E.2.2.1 0, n, .inl (upd (h i) j v)) := by unfold zj_ent; simp [zj_s_eq]
  rw [e2]
  exact hP1
theorem zj_bst (K : zj_C E Γ cc nL own d) {i n j : Nat} {x v : Int32} (hs : zj_at i (.inr (1, n))) (ex : x = nI j) (hj : j < n) (hn : n ≤ 1000) (hdg : decode cc pc = .ok (.bastore, 1)) (kk : zj_J E Γ nL (pc + 1) L S (zj_s h i (upd (h i) j v.toInt8.toInt32)) g) : zj_J E Γ nL pc L (.int v :: .int x :: .ref (E.2.1 i) :: S) h g := by
  obtain ⟨p, l, e, R, s, m, args, below, meth, c, A, Q, cells, slots⟩ := Γ
  obtain ⟨hx, hb, hml, hown, hts, hK, hA, hD, hX, hfr, hlo, hce, hsl⟩ := K
  intro ls H locs hl hP hS
  obtain ⟨h1, h2⟩ := zj_in_nI ex hj hn
  refine va_bast hx hb hK hP (hD h g) hS i 1 (zj_ws_get E h g hs) rfl h1 hdg (fun H1 locs1 hP1 hD1 hS1 => kk ls H1 locs1 hl ?_ hS1)
  rw [h2, vp_nar_byte] at hP1
  have e := zj_ws_set E h (zj_s h i (upd (h i) j v.toInt8.toInt32)) g g hs (fun a n => zj_s_ne _ _ n) (fun a n => rfl)
  rw [← e]
  have e2 : zj_ent E (zj_s h i (upd (h i) j v.toInt8.toInt32)) g i (.inr (1, n)) = .inl (E.2.2.1 1, n, .inl (upd (h i) j v.toInt8.toInt32)) := by unfold zj_ent; simp [zj_s_eq]
  rw [e2]
  exact hP1
theorem zj_lst (K : zj_C E Γ cc nL own d) {i n j : Nat} {x : Int32} {v : Int64} (hs : zj_at i (.inr (2, n))) (ex : x = nI j) (hj : j < n) (hn : n ≤ 1000) (hdg : decode cc pc = .ok (.lastore, 1)) (kk : zj_J E Γ nL (pc + 1) L S h (zj_sg g i (vp_updL (g i) j v))) : zj_J E Γ nL pc L (.long v :: .int x :: .ref (E.2.1 i) :: S) h g := by
  obtain ⟨p, l, e, R, s, m, args, below, meth, c, A, Q, cells, slots⟩ := Γ
  obtain ⟨hx, hb, hml, hown, hts, hK, hA, hD, hX, hfr, hlo, hce, hsl⟩ := K
  intro ls H locs hl hP hS
  obtain ⟨h1, h2⟩ := zj_in_nI ex hj hn
  refine va_last hx hb hK hP (hD h g) hS i 2 (zj_ws_get E h g hs) rfl h1 hdg (fun H1 locs1 hP1 hD1 hS1 => kk ls H1 locs1 hl ?_ hS1)
  rw [h2] at hP1
  have e := zj_ws_set E h h g (zj_sg g i (vp_updL (g i) j v)) hs (fun a n => rfl) (fun a n => zj_sg_ne _ _ n)
  rw [← e]
  have e2 : zj_ent E h (zj_sg g i (vp_updL (g i) j v)) i (.inr (2, n)) = .inl (E.2.2.1 2, n, .inr (.inl (vp_updL (g i) j v))) := by unfold zj_ent; simp [zj_sg_eq]
  rw [e2]
  exact hP1
theorem zj_alen (K : zj_C E Γ cc nL own d) {i n : Nat} {v : Int32} (hs : zj_at i (.inr (0, n))) (hv : Int32.ofNat n = v) (hdg : decode cc pc = .ok (.arraylength, 1)) (kk : zj_J E Γ nL (pc + 1) L (.int v :: S) h g) : zj_J E Γ nL pc L (.ref (E.2.1 i) :: S) h g := by
  obtain ⟨p, l, e, R, s, m, args, below, meth, c, A, Q, cells, slots⟩ := Γ
  obtain ⟨hx, hb, hml, hown, hts, hK, hA, hD, hX, hfr, hlo, hce, hsl⟩ := K
  intro ls H locs hl hP hS
  exact va_alen hx hb hK hP i 0 (zj_ws_get E h g hs) rfl hv hdg (kk ls H locs hl hP hS)

theorem zj_iret (K : zj_C E Γ cc nL own d) {Post : zj_P} {v : Int32} (Rt : zj_R E Γ (some .int) Post) (hdg : decode cc pc = .ok (.ireturn, 1)) (hp : Post (some (.int v)) h g) : zj_J E Γ nL pc L [.int v] h g := by
  obtain ⟨p, l, e, R, s, m, args, below, meth, c, A, Q, cells, slots⟩ := Γ
  obtain ⟨hx, hb, hml, hown, hts, hK, hA, hD, hX, hfr, hlo, hce, hsl⟩ := K
  obtain ⟨hr, hlocks, hQ⟩ := Rt
  subst hQ
  intro ls H locs hl hP hS
  exact W.iret (v := v) hx hb hr (fun t ht hW => ⟨⟨_, h, g, rfl, hp, by rw [ht]; exact hP⟩, hS.F ht⟩) hS.2.2 hdg hlocks
theorem zj_zret (K : zj_C E Γ cc nL own d) {Post : zj_P} {v : Int32} (Rt : zj_R E Γ (some .boolean) Post) (hdg : decode cc pc = .ok (.ireturn, 1)) (hv : v = 0 ∨ v = 1) (hp : Post (some (.int v)) h g) : zj_J E Γ nL pc L [.int v] h g := by
  obtain ⟨p, l, e, R, s, m, args, below, meth, c, A, Q, cells, slots⟩ := Γ
  obtain ⟨hx, hb, hml, hown, hts, hK, hA, hD, hX, hfr, hlo, hce, hsl⟩ := K
  obtain ⟨hr, hlocks, hQ⟩ := Rt
  subst hQ
  intro ls H locs hl hP hS
  exact W.zret (v := v) hx hb hr (by rcases hv with e | e <;> subst e <;> rfl) (fun t ht hW => ⟨⟨_, h, g, rfl, hp, by rw [ht]; exact hP⟩, hS.F ht⟩) hS.2.2 hdg hlocks
theorem zj_vret (K : zj_C E Γ cc nL own d) {Post : zj_P} (Rt : zj_R E Γ none Post) (hdg : decode cc pc = .ok (.return_, 1)) (hp : Post none h g) : zj_J E Γ nL pc L [] h g := by
  obtain ⟨p, l, e, R, s, m, args, below, meth, c, A, Q, cells, slots⟩ := Γ
  obtain ⟨hx, hb, hml, hown, hts, hK, hA, hD, hX, hfr, hlo, hce, hsl⟩ := K
  obtain ⟨hr, hlocks, hQ⟩ := Rt
  subst hQ
  intro ls H locs hl hP hS
  exact W.vret hx hb hr (fun t ht hW => ⟨⟨_, h, g, rfl, hp, by rw [ht]; exact hP⟩, hS.F ht⟩) hS.2.2 hdg hlocks

/-- a call of a method by its name: the words -/
def zj_mw (y : MethodName) (b : ByteArray) (mL : Nat) (ret : Option FieldType) (n : Nat) : Prop := Cond.code y b mL ret ∈ zj_tbl ∧ Cond.initialized y.cls ∈ zj_tbl ∧ (y.cls ≠ "java/lang/invoke/MethodHandle" ∧ y.cls ≠ "java/lang/invoke/VarHandle" ∧ (parseMethodDescriptor y.desc).map (fun d => d.parameters.length) = some n) ∧ Nat.ble mL 16 = true
def zj_vl (own : String) (index ci : Nat) (y : MethodName) (b : ByteArray) (mL : Nat) (ret : Option FieldType) (n : Nat) : Prop := zj_mw y b mL ret n ∧ Cond.methodLink own index y ∈ zj_tbl ∧ Cond.instanceMethod y ∈ zj_tbl ∧ ∃ q : vw_C, zj_cl[ci]? = some q ∧ Cond.selects q.1 y y ∈ zj_tbl
def zj_sl (own : String) (index : Nat) (y : MethodName) (b : ByteArray) (mL : Nat) (ret : Option FieldType) (n : Nat) : Prop := zj_mw y b mL ret n ∧ Cond.methodLink own index y ∈ zj_tbl ∧ Cond.static y ∈ zj_tbl
def zj_nl (own : String) (index : Nat) (y : MethodName) (b : ByteArray) (mL : Nat) (ret : Option FieldType) (n : Nat) : Prop := zj_mw y b mL ret n ∧ (∃ host, (own, index, y, host) ∈ zj_nest) ∧ Cond.static y ∈ zj_tbl
theorem zj_good {y : MethodName} {b : ByteArray} {mL : Nat} {ret : Option FieldType} (hc : Cond.code y b mL ret ∈ zj_tbl) : GoodIn zj_tbl (.code y b mL ret :: zj_tbl) := by
  intro w hw
  have hm : w ∈ zj_tbl := by
    rcases List.mem_cons.mp hw with rfl | h
    · exact hc
    · exact h
  exact ⟨hm, good_of_word (List.mem_filter.mp hm).2⟩
theorem zj_blind {E : zj_E} {As : List Value} {sz : Nat} {h : zj_H} {g : zj_G} : FrameBlind (va_Pc As (zj_Pre E sz h g)) := by
  intro a U g0 mk q
  obtain ⟨q0, q1, qP, qK, qD, qX⟩ := q
  exact ⟨q0, q1, qP, va_K.moved (u := U) (U := U.calling g0 mk a) (Vm.Alike.refl U.vm) qK, qD, qX.blind g0 mk a⟩
theorem zj_free {E : zj_E} {A : Nat → Prop} {s : State} {H : Heap} {locs : List Loc} {h : zj_H} {g : zj_G} (hD : ∀ h g, va_D A (zj_ws E h g)) (hA : ∀ q, s.heap.size ≤ q → A q) (hS : va_S A s.heap H locs) : ∀ q, va_A (zj_ws E h g) H.size q → A q := by
  intro q hq
  rcases hq with ⟨k, e, hk⟩ | hk
  · exact (hD h g).2 k (q, e) hk
  · exact hA q (Nat.le_trans hS.1 hk)
theorem zj_after {p : Program} {l : Launch} {e : Env} {R : Room} {s : State} {m : MethodId} {args : Array Value} {below : List Frame} {meth : Method} {c : Code} {A : Nat → Prop} {Q : State → Prop} {cells slots : Nat} {H : Heap} {locs : List Loc} {ls : Array Slot} {st0 : List Value} {Post : zj_P} {a : Array Value}
    (hr : va_Run p l e R s m args below meth c H locs cells slots 0 0 (F0 m pc ls st0) S (zj_Q E (va_A (zj_ws E h g) H.size) Post a) (va_A (zj_ws E h g) H.size)) (hl : lv_has ls nL L) (hS : va_S A s.heap H locs) (hf : ∀ q, va_A (zj_ws E h g) H.size q → A q)
    (kk : ∀ v h' g', Post v h' g' → zj_J E (p, l, e, R, s, m, args, below, meth, c, A, Q, cells, slots) nL (pc + 3) L (v.toList ++ S) h' g') : W p l e R s m args below meth c H locs cells slots Q (F0 m pc ls st0) := by
  intro T hT X
  obtain ⟨v, st₀, t, T', L0, h0, X', hL, e1, e2, ⟨⟨v', h', g', hv, hp, hP1⟩, hz, hk⟩, st⟩ := hr T hT X
  cases hv
  rw [h0] at hz hk
  obtain ⟨t2, a1, b1⟩ := kk v h' g' hp ls T'.heap (locs ++ L0) hl (by rw [e1]; exact hP1)
    ⟨Nat.le_trans hS.1 (by rw [e1]; exact hz), fun q h1 h2 => by rw [e1, hk q (Nat.lt_of_lt_of_le h1 hS.1) (fun z => h2 (hf q z))]; exact hS.2.1 q h1 h2, fun q hq => by
      rcases List.mem_append.mp hq with h | h
      · exact hS.2.2 q h
      · exact hf _ (hL q h)⟩ T' rfl X'
  exact ⟨t2, st t2 a1, b1⟩

theorem zj_callV (K : zj_C E Γ cc nL own d) {i ci index dd mL n : Nat} {y : MethodName} {b : ByteArray} {ret : Option FieldType} {fs : List (Nat ⊕ Bool)} {As : List Value} {Post : zj_P} (hlk : zj_vl own index ci y b mL ret n) (hs : zj_at i (.inl (ci, fs))) (hM : zj_M Γ.2.1 E y b mL ret dd (.ref (E.2.1 i) :: As) h g Post) (hdd : dd + 1 ≤ d) (hn : As.length = n) (hcat : (S.map fun v => v.category).sum ≤ 8) (hdg : decode cc pc = .ok (.invokevirtual index, 3))
    (kk : ∀ v h' g', Post v h' g' → zj_J E Γ nL (pc + 3) L (v.toList ++ S) h' g') : zj_J E Γ nL pc L (As.reverse ++ .ref (E.2.1 i) :: S) h g := by
  obtain ⟨p, l, e, R, s, m, args, below, meth, c, A, Q, cells, slots⟩ := Γ
  obtain ⟨hx, hb, hml, hown, hts, hK, hA, hD, hX, hfr, hlo, hce, hsl⟩ := K
  obtain ⟨⟨hwc, hwi, hwd, h16⟩, hwl, hwm, q, hc, hws⟩ := hlk
  intro ls H locs hl hP hS
  have hfree := zj_free (h := h) (g := g) hD hA hS
  have hG := zj_good hwc
  have hroom : (zj_room dd).frames + 1 ≤ R.frames ∧ 8 + (mL + 11) + (zj_room dd).locals ≤ R.locals := by
    have e16 : mL ≤ 16 := Nat.le_of_ble_eq_true h16
    refine ⟨Nat.le_trans hdd hfr, ?_⟩
    show 8 + (mL + 11) + 35 * dd ≤ R.locals
    omega
  refine zj_after (va_runV (As := As) (rest := S) (C := q.1) (n := n) ⟨hx, hb, hml, hown, hts⟩ (hM H.size) ⟨callB_of n hts hG rfl rfl rfl (hts _ hwi) (hts _ hwl) hwd hroom, hts _ hwm, hts _ hws⟩ ⟨zj_blind, va_recv hK hP hc (zj_ws_get E h g hs), fun U hU hW => ⟨rfl, by rw [hU], by rw [hU]; exact hP, va_K.moved hW.alike hK, fun h g => (hD h g).weaken (fun _ _ _ _ => trivial), by rw [hU]; exact hX.warm hW hfree hS.2.1⟩⟩ rfl hn hl.1 rfl (lv_room hcat) hdg ⟨hce, hsl⟩) hl hS hfree kk
theorem zj_callS (K : zj_C E Γ cc nL own d) {index dd mL n : Nat} {y : MethodName} {b : ByteArray} {ret : Option FieldType} {As : List Value} {Post : zj_P} (hlk : zj_sl own index y b mL ret n) (hM : zj_M Γ.2.1 E y b mL ret dd As h g Post) (hdd : dd + 1 ≤ d) (hn : As.length = n) (hcat : (S.map fun v => v.category).sum ≤ 8) (hdg : decode cc pc = .ok (.invokestatic index, 3))
    (kk : ∀ v h' g', Post v h' g' → zj_J E Γ nL (pc + 3) L (v.toList ++ S) h' g') : zj_J E Γ nL pc L (As.reverse ++ S) h g := by
  obtain ⟨p, l, e, R, s, m, args, below, meth, c, A, Q, cells, slots⟩ := Γ
  obtain ⟨hx, hb, hml, hown, hts, hK, hA, hD, hX, hfr, hlo, hce, hsl⟩ := K
  obtain ⟨⟨hwc, hwi, hwd, h16⟩, hwl, hws⟩ := hlk
  intro ls H locs hl hP hS
  have hfree := zj_free (h := h) (g := g) hD hA hS
  have hG := zj_good hwc
  have hroom : (zj_room dd).frames + 1 ≤ R.frames ∧ 8 + (mL + 11) + (zj_room dd).locals ≤ R.locals := by
    have e16 : mL ≤ 16 := Nat.le_of_ble_eq_true h16
    refine ⟨Nat.le_trans hdd hfr, ?_⟩
    show 8 + (mL + 11) + 35 * dd ≤ R.locals
    omega
  refine zj_after (va_runS (As := As) (rest := S) (n := n) ⟨hx, hb, hml, hown, hts⟩ (hM H.size) ⟨callB_of n hts hG rfl rfl rfl (hts _ hwi) (hts _ hwl) hwd hroom, hts _ hws⟩ ⟨zj_blind, fun U hU hW => ⟨rfl, by rw [hU], by rw [hU]; exact hP, va_K.moved hW.alike hK, fun h g => (hD h g).weaken (fun _ _ _ _ => trivial), by rw [hU]; exact hX.warm hW hfree hS.2.1⟩⟩ rfl hn hl.1 rfl (lv_room hcat) hdg ⟨hce, hsl⟩) hl hS hfree kk
theorem zj_callN (K : zj_C E Γ cc nL own d) {index dd mL n : Nat} {y : MethodName} {b : ByteArray} {ret : Option FieldType} {As : List Value} {Post : zj_P} (hlk : zj_nl own index y b mL ret n) (hM : zj_M Γ.2.1 E y b mL ret dd As h g Post) (hdd : dd + 1 ≤ d) (hn : As.length = n) (hcat : (S.map fun v => v.category).sum ≤ 8) (hdg : decode cc pc = .ok (.invokestatic index, 3))
    (kk : ∀ v h' g', Post v h' g' → zj_J E Γ nL (pc + 3) L (v.toList ++ S) h' g') : zj_J E Γ nL pc L (As.reverse ++ S) h g := by
  obtain ⟨p, l, e, R, s, m, args, below, meth, c, A, Q, cells, slots⟩ := Γ
  obtain ⟨hx, hb, hml, hown, hts, hK, hA, hD, hX, hfr, hlo, hce, hsl⟩ := K
  obtain ⟨⟨hwc, hwi, hwd, h16⟩, ⟨host, hnest⟩, hws⟩ := hlk
  intro ls H locs hl hP hS
  have hfree := zj_free (h := h) (g := g) hD hA hS
  have hG := zj_good hwc
  have hroom : (zj_room dd).frames + 1 ≤ R.frames ∧ 8 + (mL + 11) + (zj_room dd).locals ≤ R.locals := by
    have e16 : mL ≤ 16 := Nat.le_of_ble_eq_true h16
    refine ⟨Nat.le_trans hdd hfr, ?_⟩
    show 8 + (mL + 11) + 35 * dd ≤ R.locals
    omega
  refine zj_after (va_runSN (As := As) (rest := S) (n := n) (Ts := zj_tbl) ⟨hx, hb, hml, hown, hts⟩ (hM H.size) ⟨va_cnB n hts hG rfl rfl rfl (hX.1 _ hnest) (hts _ hwi) hwd hroom, hts _ hws, trivial⟩ ⟨zj_blind, fun U hU hW => ⟨rfl, by rw [hU], by rw [hU]; exact hP, va_K.moved hW.alike hK, fun h g => (hD h g).weaken (fun _ _ _ _ => trivial), by rw [hU]; exact hX.warm hW hfree hS.2.1⟩⟩ rfl hn hl.1 rfl (lv_room hcat) hdg ⟨hce, hsl⟩) hl hS hfree kk

end ZJ
