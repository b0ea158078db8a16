-- what holds at the law's entry, as the walk wants it
theorem zi_inst : ∀ (c : Nat) (q : vw_C), zj_cl[c]? = some q → Cond.instantiable q.1 q.2.2 ∈ zj_tbl
  | 0, _, z => by cases z; exact zi_in0
  | 1, _, z => by cases z; exact zi_in1
  | 2, _, z => by cases z; exact zi_in2
  | 3, _, z => by cases z; exact zi_in3
  | 4, _, z => by cases z; exact zi_in4
  | 5, _, z => by cases z; exact zi_in5
  | 6, _, z => by cases z; exact zi_in6
  | 7, _, z => by cases z; exact ziw_n7
  | 8, _, z => by cases z; exact ziw_n8
  | _ + 9, _, z => by cases z
theorem zi_D0 {args : Array Value} {s : State} (hts : ∀ w ∈ zj_tbl, w.before args s = true) : ∃ D : va_G, ∀ (c : Nat) (q : vw_C), zj_cl[c]? = some q → u_Kn s q.1 q.2.1 q.2.2 (D.1 c) (D.2 c) := by
  have key : ∀ (c : Nat) (q : vw_C), zj_cl[c]? = some q → ∃ x : ClassId × (Nat → Nat), u_Kn s q.1 q.2.1 q.2.2 x.1 x.2 := by
    intro c q hq
    obtain ⟨C, T, N⟩ := q
    obtain ⟨cC, iS, hk⟩ := u_known (n := N) hts (zj_clIn c C T N hq).1 (hts _ (zi_inst c _ hq))
    exact ⟨(cC, iS), hk⟩
  obtain ⟨x0, _⟩ := key 0 _ rfl
  have h : ∀ c : Nat, ∃ x : ClassId × (Nat → Nat), ∀ q : vw_C, zj_cl[c]? = some q → u_Kn s q.1 q.2.1 q.2.2 x.1 x.2 := by
    intro c
    cases hq : zj_cl[c]? with
    | none => exact ⟨x0, fun q z => by cases z⟩
    | some q =>
      obtain ⟨x, hx⟩ := key c q hq
      exact ⟨x, fun q2 z => by cases z; exact hx⟩
  obtain ⟨F, hF⟩ := Classical.axiomOfChoice h
  exact ⟨(fun c => (F c).1, fun c => (F c).2), fun c q hq => hF c q hq⟩
theorem zi_dA0 {args : Array Value} {s : State} (hts : ∀ w ∈ zj_tbl, w.before args s = true) (ho : (Cond.arrayOver (.object RX1)).before args s = true) : ∃ dA : Nat → ClassId, ∀ (k : Nat) (q : ClassId × FieldType), (zi_tys dA)[k]? = some q → ArrOfT s q.1 q.2 ∧ va_RA s q.1 q.2 := by
  obtain ⟨c0, k0, p0, f0, r0, t0⟩ := Cond.arrayClass_spec (hts _ zi_ac0)
  obtain ⟨c1, k1, p1, f1, r1, t1⟩ := Cond.arrayClass_spec (hts _ zi_ac1)
  obtain ⟨c2, k2, p2, f2, r2, t2⟩ := Cond.arrayClass_spec (hts _ ziw_al)
  obtain ⟨comp, c3, k3, o1, o2, o3, o4, o5⟩ := Cond.arrayOver_spec ho
  refine ⟨fun k => if k = 0 then c0 else if k = 1 then c1 else if k = 2 then c2 else c3, fun k q hq => ?_⟩
  match k, hq with
  | 0, hq => cases hq; exact ⟨fun n z => ⟨fun k w => (by cases w), k0, r0, p0, t0⟩, f0⟩
  | 1, hq => cases hq; exact ⟨fun n z => ⟨fun k w => (by cases w), k1, r1, p1, t1⟩, f1⟩
  | 2, hq => cases hq; exact ⟨fun n z => ⟨fun k w => (by cases w), k2, r2, p2, t2⟩, f2⟩
  | 3, hq => cases hq; exact ⟨fun n z => ⟨fun k w => (by cases w), k3, o3, comp, o4⟩, k3, comp, o3, o4, o1, o5⟩
  | _ + 4, hq => cases hq
def zi_tm (i : Nat) : Term := .string RX4 ((zj_skey.getD i (0, "")).1)
def zi_fl : List Cond := flatC (Jvm.Cond.and given_1 narrow_1)
theorem zi_f1 : ∀ i, i < 5 → Cond.exactly (zi_tm i) "java/lang/String" ∈ zi_fl := by decide +kernel
theorem zi_f2 : ∀ i, i < 5 → Cond.eq (.field (zi_tm i) "java/lang/String" "coder" "B") (.int 0) ∈ zi_fl := by decide +kernel
theorem zi_f3 : ∀ i, i < 5 → Cond.arrayOf (.field (zi_tm i) "java/lang/String" "value" "[B") .byte ∈ zi_fl := by decide +kernel
theorem zi_f4 : ∀ i, i < 5 → Cond.eq (.length (.field (zi_tm i) "java/lang/String" "value" "[B")) (.int (Int32.ofNat (zj_slen.getD i 0))) ∈ zi_fl := by decide +kernel
theorem zi_f5 : ∀ i, i < 5 → ∀ j, j < zj_slen.getD i 0 → Cond.eq (.elem (.field (zi_tm i) "java/lang/String" "value" "[B") (.int (Int32.ofNat j))) (.int ((zj_sbyt.getD i []).getD j 0)) ∈ zi_fl := by decide +kernel
theorem zi_f6 : ∀ i, i < 5 → ∀ j, j < 5 → i ≠ j → (Cond.not (Cond.eq (zi_tm i) (zi_tm j)) ∈ zi_fl ∨ Cond.not (Cond.eq (zi_tm j) (zi_tm i)) ∈ zi_fl) := by decide +kernel
theorem zi_f7 : ∀ q ∈ zj_xkey, Cond.exactly (.string RX7 q.1) "java/lang/String" ∈ zi_fl := by decide +kernel
theorem zi_t1 : ∀ q ∈ zj_skey, Cond.stringRef RX4 q.1 q.2 ∈ lw_tbl := by decide +kernel
theorem zi_t2 : ∀ q ∈ zj_xkey, Cond.stringRef RX7 q.1 q.2 ∈ lw_tbl := by decide +kernel
theorem zi_t3 : ∀ q ∈ zj_nest, Cond.methodLinkNest q.1 q.2.1 q.2.2.1 q.2.2.2 ∈ lw_tbl := by decide +kernel
theorem zi_X0 {args : Array Value} {s : State} {A : Nat → Prop} (hts : ∀ w ∈ lw_tbl, w.before args s = true) (hgv : (Jvm.Cond.and given_1 narrow_1).before args s = true) (hA : ∀ a : Nat, a < s.heap.size → ¬ A a) : ∃ aK aV : Nat → Nat, ∀ (D : va_G) (ad : Nat → Nat) (dA : Nat → ClassId), zj_X (D, ad, dA, aK, aV) A s s.heap := by
  have hs : ∀ w ∈ zi_fl, w.before args s = true := flat_of_before _ hgv
  obtain ⟨aK, aV, hS, hev⟩ := vk_Sof (args := args) (s := s) (N := 5) (tm := zi_tm) (len := zj_slen) (byt := zj_sbyt) (A := A) (by decide) (fun i hi => hs _ (zi_f1 i hi)) (fun i hi => hs _ (zi_f2 i hi)) (fun i hi => hs _ (zi_f3 i hi)) (fun i hi => hs _ (zi_f4 i hi)) (fun i hi j hj => hs _ (zi_f5 i hi j hj)) (fun i j hi hj hij => (zi_f6 i hi j hj hij).imp (hs _) (hs _)) hA
  refine ⟨aK, aV, fun D ad dA => ⟨fun q hq => va_Nw.of rfl (hts _ (zi_t3 q hq)), fun i q hq => ?_, hS, ?_, ?_, ?_, ?_, fun q hq => ?_⟩⟩
  · have hi : i < 5 := (List.getElem?_eq_some_iff.mp hq).1
    have hm : q ∈ zj_skey := List.mem_of_getElem? hq
    have e1 : zi_tm i = .string RX4 q.1 := by
      unfold zi_tm
      show Term.string RX4 (zj_skey[i]?.getD (0, "")).1 = _
      rw [hq]; rfl
    exact vk_R.of (hts _ (zi_t1 q hm)) (by rw [← e1]; exact hev i hi)
  · exact va_Zof (hts (.laysStatic "java/lang/String" "COMPACT_STRINGS" "Z") (by decide +kernel)) (hts (.initialized "java/lang/String") (by decide +kernel)) (va_eqt (hs (.eq (.static "java/lang/String" "COMPACT_STRINGS" "Z") (.int 1)) (by decide +kernel))) hA
  · exact va_Zqof (hts (.laysStatic "jdk/internal/util/Preconditions" "SIOOBE_FORMATTER" "Ljava/util/function/BiFunction;") (by decide +kernel)) (hts (.initialized "jdk/internal/util/Preconditions") (by decide +kernel)) (hs (.isRef (.static "jdk/internal/util/Preconditions" "SIOOBE_FORMATTER" "Ljava/util/function/BiFunction;")) (by decide +kernel)) hA
  · exact vx_Zqof (hts (.laysStatic Bundle.tN "UNASSIGNED_STACK" Bundle.steD) (by decide +kernel)) (hts (.initialized Bundle.tN) (by decide +kernel)) (hs (.isRef (.static Bundle.tN "UNASSIGNED_STACK" Bundle.steD)) (by decide +kernel)) hA
  · exact vx_Zqof (hts (.laysStatic Bundle.tN "SUPPRESSED_SENTINEL" Bundle.listD) (by decide +kernel)) (hts (.initialized Bundle.tN) (by decide +kernel)) (hs (.isRef (.static Bundle.tN "SUPPRESSED_SENTINEL" Bundle.listD)) (by decide +kernel)) hA
  · obtain ⟨sa, _, _, _, q1, _⟩ := Cond.exactly_spec (args := args) (first := s) (o := none) (s := s) (idx := []) (t := .string RX7 q.1) (cls := "java/lang/String") (hs _ (zi_f7 q hq))
    exact ⟨sa, vk_R.of (hts _ (zi_t2 q hq)) q1⟩
theorem zi_Z0 {args : Array Value} {s : State} (hts : ∀ w ∈ lw_tbl, w.before args s = true) : zx_Z s :=
  ⟨va_Nw.of rfl (hts (.declares (Bundle.initS zx_R)) (by decide +kernel)), va_Nw.of rfl (hts (.declares (Bundle.initS zx_E)) (by decide +kernel)), va_Nw.of rfl (hts (.declares (Bundle.initS Bundle.tN)) (by decide +kernel)), va_Nw.of rfl (hts (.castable zx_N zx_N) (by decide +kernel))⟩
theorem zi_AO {args : Array Value} {s : State} (hts : ∀ w ∈ lw_tbl, w.before args s = true) : (Cond.arrayOver (.object RX1)).before args s = true := hts _ (by decide +kernel)
theorem zi_X1 {args : Array Value} {s : State} (hts : ∀ w ∈ lw_tbl, w.before args s = true) : zi_X s := ⟨va_Nw.of rfl (hts (.methodLinkNest RX0 24 yX2_init RX7) (by decide +kernel)), va_AO.of (zi_AO hts)⟩
theorem zi_lt0 {l : Launch} (hflags : l.flags = flags0) : l.stackTraces = false := by
  unfold Launch.stackTraces
  rw [hflags]
  decide +kernel
