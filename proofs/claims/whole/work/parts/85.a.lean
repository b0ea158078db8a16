-- the law's own rows
def zy_C (Γ : zj_Γ) (b Ln : Nat) (xs : Nat → Int32) : Prop := match Γ with
  | (_, _, _, _, s, _, _, _, _, _, A, _, _, _) => va_X b Ln xs s s.heap ∧ b < s.heap.size ∧ ¬ A b
abbrev zyL (E : zj_E) (b : Nat) (xi : Int32) : List (Nat × Value) := [(0, .ref b), (1, .ref (E.2.1 0)), (2, .ref (E.2.1 78)), (3, .ref (E.2.1 88)), (4, .int xi)]
section ZL
variable {E : zj_E} {Γ : zj_Γ} {cc : ByteArray} {nL d pc : Nat} {own : String} {L : List (Nat × Value)} {S : List Value} {h : zj_H} {g : zj_G} {b Ln : Nat} {xs : Nat → Int32}
theorem zy_sld (K : zj_C E Γ cc nL own d) (X : zy_C Γ b Ln xs) {i : Int32} (hin : vp_in i Ln) (hdg : decode cc pc = .ok (.iaload, 1)) (k : zj_J E Γ nL (pc + 1) L (.int (xs i.toNatClampNeg) :: S) h g) : zj_J E Γ nL pc L (.int i :: .ref b :: S) h g := by
  obtain ⟨p, l, e, R, s, m, args, below, meth, c, A, Q, cells, slots⟩ := Γ
  obtain ⟨hx, hb, hml, hown, hts, hK, hA, hD, hX, hfr, hlo, hce, hsl⟩ := K
  intro ls H locs hl hP hS
  exact va_sld hx hb X.1 X.2.1 X.2.2 hS hin hdg (k ls H locs hl hP hS)
theorem zy_slen (K : zj_C E Γ cc nL own d) (X : zy_C Γ b Ln xs) (hdg : decode cc pc = .ok (.arraylength, 1)) (k : zj_J E Γ nL (pc + 1) L (.int (nI Ln) :: S) h g) : zj_J E Γ nL pc L (.ref b :: S) h g := by
  obtain ⟨p, l, e, R, s, m, args, below, meth, c, A, Q, cells, slots⟩ := Γ
  obtain ⟨hx, hb, hml, hown, hts, hK, hA, hD, hX, hfr, hlo, hce, hsl⟩ := K
  intro ls H locs hl hP hS
  exact va_slen hx hb X.1 X.2.1 X.2.2 hS hdg (k ls H locs hl hP hS)
theorem zy_arg (K : zj_C E Γ cc nL own d) (X : zy_C Γ b Ln xs) (hL : Ln ≤ 3072) {i k : Nat} {xi : Int32} {n : Int} (ei : xi = nI i) (hk : i + k < Ln) (hn : Int32.ofInt n = nI k) (g0 : zj_get L 0 = some (.ref b)) (g4 : zj_get L 4 = some (.int xi)) (d0 : decode cc pc = .ok (.aload_n 0, 1)) (d1 : decode cc (pc + 1) = .ok (.iload 4, 2)) (d3 : decode cc (pc + 3) = .ok (.iconst n, 1)) (d4 : decode cc (pc + 4) = .ok (.iadd, 1)) (d5 : decode cc (pc + 5) = .ok (.iaload, 1)) (kk : zj_J E Γ nL (pc + 6) L (.int (xs (i + k)) :: S) h g) : zj_J E Γ nL pc L S h g := by
  refine zj_aload_n (i := 0) K d0 rfl g0 ?_
  refine zj_iload (pc := pc + 1) K d1 g4 ?_
  refine zj_iconst (pc := pc + 3) K d3 hn ?_
  refine zj_iadd (pc := pc + 4) K d4 ?_
  rw [ei, nI_add]
  refine zy_sld (pc := pc + 5) K X (vp_in_nI hk (by omega)) d5 ?_
  rw [nI_clamp (by omega)]
  exact kk
theorem zy_wide {p : Program} {l : Launch} {e : Env} {R : Room} {s : State} {m : MethodId} {args : Array Value} {below : List Frame} {meth : Method} {c : Code} {A : Nat → Prop} {Q : State → Prop} {ce ce' sl sl' : Nat} (h1 : ce ≤ ce') (h2 : sl ≤ sl') (k : zj_J E (p, l, e, R, s, m, args, below, meth, c, A, Q, ce', sl') nL pc L S h g) : zj_J E (p, l, e, R, s, m, args, below, meth, c, A, Q, ce, sl) nL pc L S h g := fun ls H locs hl hP hS => W.widen h1 h2 (k ls H locs hl hP hS)
theorem zx_goodW {idx mL : Nat} {y : MethodName} {bb : ByteArray} {ret : Option FieldType} {hh : List (Nat × Nat × Nat × Nat)} (h1 : Cond.codeWith y bb mL ret hh ∈ zj_tbl) (h2 : Cond.methodLink own idx y ∈ zj_tbl) (h3 : Cond.static y ∈ zj_tbl) (h4 : Cond.initialized y.cls ∈ zj_tbl) : GoodIn zj_tbl (va_wsS own idx y (.codeWith y bb mL ret hh :: zj_tbl)) := by
  intro w hw
  have hm : w ∈ zj_tbl := by
    unfold va_wsS at hw
    rcases List.mem_append.mp hw with q | q
    · rcases List.mem_cons.mp q with rfl | q
      · exact h2
      · rcases List.mem_cons.mp q with rfl | q
        · exact h3
        · rcases List.mem_cons.mp q with rfl | q
          · exact h4
          · cases q
    · rcases List.mem_cons.mp q with rfl | q
      · exact h1
      · exact q
  exact ⟨hm, good_of_word (List.mem_filter.mp hm).2⟩
theorem zj_callSW {p : Program} {l : Launch} {e : Env} {R : Room} {s : State} {m : MethodId} {args : Array Value} {below : List Frame} {meth : Method} {c : Code} {A : Nat → Prop} {Q : State → Prop} {cells slots : Nat} (K : zj_C E (p, l, e, R, s, m, args, below, meth, c, A, Q, cells, slots) cc nL own d) (hZ : zx_Z s)
    {index dd mL n : Nat} {y : MethodName} {bb : ByteArray} {hh : List (Nat × Nat × Nat × Nat)} {As : List Value} {Post : zj_P} (hG : GoodIn zj_tbl (va_wsS own index y (.codeWith y bb mL (some .int) hh :: zj_tbl))) (hwd : y.cls ≠ "java/lang/invoke/MethodHandle" ∧ y.cls ≠ "java/lang/invoke/VarHandle" ∧ (parseMethodDescriptor y.desc).map (fun d => d.parameters.length) = some n) (h16 : mL ≤ 16) (hM : zj_MW l E y bb mL dd hh As h g Post) (hdd : dd + 1 ≤ d) (hn : As.length = n) (hcat : (S.map fun v => v.category).sum ≤ 8) (hdg : decode cc pc = .ok (.invokestatic index, 3)) (h1 : cells + 1 ≤ R.cells) (h6 : slots + 6 ≤ R.slots)
    (kk : ∀ v h' g', Post v h' g' → zj_J E (p, l, e, R, s, m, args, below, meth, c, A, Q, cells + 1, slots + 6) nL (pc + 3) L (v.toList ++ S) h' g') : zj_J E (p, l, e, R, s, m, args, below, meth, c, A, Q, cells, slots) nL pc L (As.reverse ++ S) h g := by
  obtain ⟨hx, hb, hml, hown, hts, hK, hA, hD, hX, hfr, hlo, hce, hsl⟩ := K
  intro ls H locs hl hP hS
  have hfree := zj_free (h := h) (g := g) hD hA hS
  have hroom : (zj_roomX dd).frames + 1 ≤ R.frames ∧ 8 + (mL + 11) + (zj_roomX dd).locals ≤ R.locals := by
    refine ⟨Nat.le_trans hdd hfr, ?_⟩
    show 8 + (mL + 11) + 35 * dd ≤ R.locals
    omega
  have hr := vx_runSW (locs := locs) (cells := cells) (slots := slots) (below := below) (meth := meth) (e := e) (As := As) (rest := S) (n := n) (g := F0 m pc ls (As.reverse ++ S)) ⟨hx, hb, hml, hown, hts⟩ (hM H.size) (vx_cwSW n hts hG rfl rfl rfl hwd hroom) ⟨zx_blind, fun U hU hW => ⟨rfl, ⟨by rw [hU], by rw [hU]; exact hP, va_K.moved hW.alike hK, fun h g => (hD h g).weaken (fun _ _ _ _ => trivial), by rw [hU]; exact hX.warm hW hfree hS.2.1⟩, hZ.warm hW⟩⟩ rfl hn hl.1 rfl (lv_room hcat) hdg ⟨h1, h6⟩
  intro T hT X
  obtain ⟨v, st₀, t, T', L0, h0, X', hL, e1, e2, ⟨⟨v', h', g', hv, hp, hP1⟩, hz, hk⟩, st⟩ := hr T hT X
  cases hv
  rw [h0] at hz hk
  obtain ⟨t2, a1, b1⟩ := kk v h' g' hp ls T'.heap (locs ++ L0) hl (by rw [e1]; exact hP1)
    ⟨Nat.le_trans hS.1 (by rw [e1]; exact hz), fun q h1 h2 => by rw [e1, hk q (Nat.lt_of_lt_of_le h1 hS.1) (fun z => h2 (hfree q z))]; exact hS.2.1 q h1 h2, fun q hq => by
      rcases List.mem_append.mp hq with h | h
      · exact hS.2.2 q h
      · exact hfree _ (hL q h)⟩ T' rfl X'
  exact ⟨t2, st t2 a1, b1⟩
theorem zy_lt {L i : Nat} (hL : L ≤ 3072) (hi : i ≤ 3072) (h : ¬ nI L - 6 < nI i) : i + 6 ≤ L := by
  by_cases h6 : L < 6
  · exfalso
    apply h
    have ht : ∀ q, q < 6 → nI q - 6 < 0 := by decide +kernel
    exact Int32.lt_of_lt_of_le (ht L h6) (nI_pos' (by omega))
  · have e : nI L - 6 = nI (L - 6) := by
      have e1 : nI L = nI (L - 6) + nI 6 := by rw [nI_add, show L - 6 + 6 = L by omega]
      rw [e1]
      exact Int32.add_sub_cancel _ _
    rw [e] at h
    have h2 := Int32.not_lt.mp h
    have h3 := (nI_leI (by omega) (by omega)).mp h2
    omega
end ZL
theorem zyw1_judge : Cond.methodLink RL 46 yL_judge ∈ zj_tbl := List.mem_filter.mpr ⟨List.mem_of_getElem? (i := 791) (by decide +kernel), by decide +kernel⟩
theorem zyw2_judge : Cond.static yL_judge ∈ zj_tbl := List.mem_filter.mpr ⟨List.mem_of_getElem? (i := 792) (by decide +kernel), by decide +kernel⟩
theorem zyw3_judge : Cond.codeWith yL_judge cL_judge 5 (some .int) [(0, 10, 13, 13)] ∈ zj_tbl := List.mem_filter.mpr ⟨List.mem_of_getElem? (i := 793) (by decide +kernel), by decide +kernel⟩
theorem zyw1_of : Cond.methodLink RL 55 yL_of ∈ zj_tbl := List.mem_filter.mpr ⟨List.mem_of_getElem? (i := 877) (by decide +kernel), by decide +kernel⟩
theorem zyw2_of : Cond.static yL_of ∈ zj_tbl := List.mem_filter.mpr ⟨List.mem_of_getElem? (i := 878) (by decide +kernel), by decide +kernel⟩
theorem zyw3_of : Cond.codeWith yL_of cL_of 5 (some .int) [(0, 10, 13, 13)] ∈ zj_tbl := List.mem_filter.mpr ⟨List.mem_of_getElem? (i := 879) (by decide +kernel), by decide +kernel⟩
theorem zyw_RL : Cond.initialized RL ∈ zj_tbl := List.mem_filter.mpr ⟨List.mem_of_getElem? (i := 53) (by decide +kernel), by decide +kernel⟩
theorem zyg_judge : GoodIn zj_tbl (va_wsS RL 46 yL_judge (.codeWith yL_judge cL_judge 5 (some .int) [(0, 10, 13, 13)] :: zj_tbl)) := zx_goodW zyw3_judge zyw1_judge zyw2_judge zyw_RL
theorem zyd_judge : yL_judge.cls ≠ "java/lang/invoke/MethodHandle" ∧ yL_judge.cls ≠ "java/lang/invoke/VarHandle" ∧ (parseMethodDescriptor yL_judge.desc).map (fun d => d.parameters.length) = some 4 := by decide +kernel
theorem zyg_of : GoodIn zj_tbl (va_wsS RL 55 yL_of (.codeWith yL_of cL_of 5 (some .int) [(0, 10, 13, 13)] :: zj_tbl)) := zx_goodW zyw3_of zyw1_of zyw2_of zyw_RL
theorem zyd_of : yL_of.cls ≠ "java/lang/invoke/MethodHandle" ∧ yL_of.cls ≠ "java/lang/invoke/VarHandle" ∧ (parseMethodDescriptor yL_of.desc).map (fun d => d.parameters.length) = some 4 := by decide +kernel
