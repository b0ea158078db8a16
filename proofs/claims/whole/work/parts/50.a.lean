theorem zo_bet_M {h : zj_H} {J C u : Nat} : zx_fa (zo_p J C (zmT h 80) (zmB h 80) (zm_law h 80 J)) J C C = zo_bet (zτM h 80 J C u) (zδM h 80) := rfl
theorem zo_ex_M {h : zj_H} {J C u : Nat} {xa xx xb xy : Int32} : zo_ex (zτM h 80 J C u) (zδM h 80) xa xx xb xy = if zx_may J C (zmT h 80) (zmB h 80) (zm_law h 80 J) xa xx xb xy = true then some (zs_even J C (zx_si (zmB h 80) xa.toNatClampNeg xx.toNatClampNeg xb.toNatClampNeg xy.toNatClampNeg), zo_si (zδM h 80) (zx_si (zmB h 80) xa.toNatClampNeg xx.toNatClampNeg xb.toNatClampNeg xy.toNatClampNeg)) else none := rfl
theorem zo_ex_Mn {h : zj_H} {J C u : Nat} {xa xx xb xy : Int32} (hM : zx_may J C (zmT h 80) (zmB h 80) (zm_law h 80 J) xa xx xb xy = false) : zo_ex (zτM h 80 J C u) (zδM h 80) xa xx xb xy = none := by rw [zo_ex_M, zz_ifn hM]
/-- a row in which an exchange was made -/
theorem zm_exR {h q : zj_H} {C a i b j : Nat} (hC : C ≤ 14) (ha : a < C) (hb : b < C) (hi : i < 9) (hj : j < 9) (e : q 80 = zm_ch (h 80) a b (zz_bit i ||| zz_bit j)) (k1 : bt (zmB h 80 a) i = true) (k2 : bt (zmB h 80 b) i = false) (k3 : bt (zmB h 80 b) j = true) (k4 : bt (zmB h 80 a) j = false) :
    (∀ k, k < 61 → q 80 k = h 80 k) ∧ zmB q 80 = zx_si (zmB h 80) a i b j ∧ zδe C (zδM q 80) (zo_si (zδM h 80) (zx_si (zmB h 80) a i b j)) := by
  obtain ⟨hab, eB2⟩ := zm_exB (f := h 80) hi hj k1 k2 k3 k4
  have eB : zmB q 80 = zx_si (zmB h 80) a i b j := by
    rw [← show (fun c => h 80 (61 + c)) = zmB h 80 from rfl, ← eB2]
    unfold zmB
    rw [e]
  have e0 : ∀ k, k < 61 → q 80 k = h 80 k := fun k hk => by rw [e, zm_ch_ne (by omega) (by omega)]
  exact ⟨e0, eB, e0 5 (by decide), e0 17 (by decide), fun k hk => show q 80 (75 + k) = h 80 (75 + k) by rw [e, zm_ch_ne (by omega) (by omega)], fun k _ => congrFun eB k, fun k hk => e0 (47 + k) (by omega)⟩
theorem zm_04 {x : Int32} (h : (decide (0 ≤ x) && decide (x ≤ 4)) = false) : x < 0 ∨ 4 < x := by
  by_cases h1 : 0 ≤ x
  · by_cases h2 : x ≤ 4
    · rw [decide_eq_true h1, decide_eq_true h2] at h; cases h
    · exact Or.inr (Int32.not_le.mp h2)
  · exact Or.inl (Int32.not_le.mp h1)
/-- the docket as a TEXT tells it -/
def zδ0M (h : zj_H) : zδ := (h 80 4, 0, fun _ => 0, fun _ => 0, fun c => h 80 (33 + c))
set_option maxHeartbeats 4000000 in
set_option maxRecDepth 20000 in
theorem m_X8_better {l : Launch} {E : zj_E} {h : zj_H} {g : zj_G} {J C u : Nat} (eJ : h 80 7 = nI J) (hJ : J ≤ 9) (eC : h 80 18 = nI C) (hC : C ≤ 14) {x : Int32} : zj_M l E yX8_better cX8_better 2 (some .int) 4 [.ref (E.2.1 78), .int x] h g (fun v h' g' => v = some (.int (zq_bet (zτM h 80 J C u) (zδM h 80) x)) ∧ g' = g ∧ zm_same h h' ∧ h' 78 0 = 0) := by
  refine zj_M.of RX8 (by decide) rfl (Nat.le_of_ble_eq_true rfl) ?_
  intro Γ hΓ K Rt
  subst hΓ
  show zj_J E Γ 2 0 [(0, .ref (E.2.1 78)), (1, .int x)] [] h g
  refine zj_aload_n (i := 0) (pc := 0) K dX8_better_0 rfl rfl ?_
  refine zj_iconst (v := 0) (pc := 1) K dX8_better_1 (by decide) ?_
  refine zj_putI (pc := 2) K lf_X8_1 hs_M rfl dX8_better_2 ?_
  refine zj_hn (fun q0 eq0 => ?_)
  have w0 : ∀ a, a ≠ 78 → q0 a = h a := fun a a1 => by rw [eq0, zj_s_ne _ _ a1]
  have wb : ∀ b, b ≠ 0 → q0 78 b = h 78 b := fun b b1 => by rw [eq0, zj_s_eq, zz_upd_ne _ _ b1]
  have w00 : q0 78 0 = 0 := by rw [eq0, zj_s_eq, zz_upd_at]
  have ws : zm_same h q0 := by rw [eq0]; exact zm_same_0 h 0
  have e80 : q0 80 = h 80 := w0 80 (by decide)
  have eJ0 : q0 80 7 = nI J := by rw [e80]; exact eJ
  have eC0 : q0 80 18 = nI C := by rw [e80]; exact eC
  have eτ : zτM q0 80 J C u = zτM h 80 J C u := zτM_congr e80
  have eδ : zδM q0 80 = zδM h 80 := zδM_congr e80
  clear eq0
  refine zj_iload_n (i := 1) (pc := 5) K dX8_better_5 rfl rfl ?_
  refine zj_iconst (v := 0) (pc := 6) K dX8_better_6 (by decide) ?_
  refine zj_iconst (v := 4) (pc := 7) K dX8_better_7 (by decide) ?_
  refine zj_cS3I (pc := 8) K lm_X8_91 (m_X8_isIn) (by decide) rfl (Nat.le_of_ble_eq_true rfl) dX8_better_8 ?_
  refine zj_if_eq (tgt := 21) (pc := 11) K dX8_better_11 (by decide) (fun c_11 => ?_) (fun c_11 => ?_)
  · replace c_11 := zz_i0.mp c_11
    have hno : zq_bet (zτM h 80 J C u) (zδM h 80) x = -1 := zq_bet_out (zm_04 c_11)
    refine zj_iconst (v := -1) (pc := 21) K dX8_better_21 (by decide) ?_
    exact zj_iret K Rt dX8_better_22 (by first | exact ⟨by rw [hno], rfl, wq, wq0⟩ | exact ⟨by rw [hno], rfl, ws, w00⟩)
  · replace c_11 := zz_n0.mp c_11
    refine zj_aload_n (i := 0) (pc := 14) K dX8_better_14 rfl rfl ?_
    refine zj_cV0P (pc := 15) K lm_X8_237 hs_M (m_X8_laysBetter (J := J) (C := C) eJ0 hJ eC0 hC) (by decide) rfl (Nat.le_of_ble_eq_true rfl) dX8_better_15 (fun v q g1 hp => ?_)
    obtain ⟨rfl, rfl, zs1, zs2, zs3⟩ := hp
    have eB1 : zmB q0 80 = zmB h 80 := by unfold zmB; rw [e80]
    rw [zo_bet_M (u := u), eτ, eδ, eB1] at zs3
    refine zj_top (x' := zz_i (zo_bet (zτM h 80 J C u) (zδM h 80)).isSome) (by rw [zo_bet_M (u := u), eτ, eδ]) ?_
    have wq : zm_same h q := ws.tr (zm_same_of (fun a a1 a2 a3 a4 a5 a6 a7 => zs1 a a1) (fun b hb => zs2 b (by omega)))
    have wq0 : q 78 0 = 0 := by rw [zs2 0 (by decide)]; exact w00
    refine zj_if_ne (tgt := 23) (pc := 18) K dX8_better_18 (by decide) (fun c_18 => ?_) (fun c_18 => ?_)
    · replace c_18 := zz_n0.mp c_18
      obtain ⟨⟨ba, bi, bb, bj⟩, hsm⟩ : ∃ r, (zo_bet (zτM h 80 J C u) (zδM h 80)) = some r := by
        cases hq : (zo_bet (zτM h 80 J C u) (zδM h 80)) with
        | none => rw [hq] at c_18; cases c_18
        | some r => exact ⟨r, rfl⟩
      obtain ⟨zk0, zk1, zk2, zk3, zk4⟩ := zs3 _ _ _ _ hsm
      refine zj_iload_n (i := 1) (pc := 23) K dX8_better_23 rfl rfl ?_
      by_cases s_0 : x = 0
      · refine zj_tableIn (off := 32) (tgt := 56) K dX8_better_24 (by rw [s_0]; decide) (by rw [s_0]; decide) (by rw [s_0]; rfl) (by decide) ?_
        refine zj_aload_n (i := 0) (pc := 56) K dX8_better_56 rfl rfl ?_
        refine zj_getI (pc := 57) K lf_X8_225 hs_M rfl dX8_better_57 ?_
        exact zj_iret K Rt dX8_better_60 (⟨by rw [zq_bet, hsm]; simp only; rw [if_pos s_0]; exact congrArg _ (congrArg _ zk0), rfl, wq, wq0⟩)
      by_cases s_1 : x = 1
      · refine zj_tableIn (off := 37) (tgt := 61) K dX8_better_24 (by rw [s_1]; decide) (by rw [s_1]; decide) (by rw [s_1]; rfl) (by decide) ?_
        refine zj_aload_n (i := 0) (pc := 61) K dX8_better_61 rfl rfl ?_
        refine zj_getI (pc := 62) K lf_X8_228 hs_M rfl dX8_better_62 ?_
        exact zj_iret K Rt dX8_better_65 (⟨by rw [zq_bet, hsm]; simp only; rw [if_neg s_0, if_pos s_1]; exact congrArg _ (congrArg _ zk1), rfl, wq, wq0⟩)
      by_cases s_2 : x = 2
      · refine zj_tableIn (off := 42) (tgt := 66) K dX8_better_24 (by rw [s_2]; decide) (by rw [s_2]; decide) (by rw [s_2]; rfl) (by decide) ?_
        refine zj_aload_n (i := 0) (pc := 66) K dX8_better_66 rfl rfl ?_
        refine zj_getI (pc := 67) K lf_X8_231 hs_M rfl dX8_better_67 ?_
        exact zj_iret K Rt dX8_better_70 (⟨by rw [zq_bet, hsm]; simp only; rw [if_neg s_0, if_neg s_1, if_pos s_2]; exact congrArg _ (congrArg _ zk2), rfl, wq, wq0⟩)
      by_cases s_3 : x = 3
      · refine zj_tableIn (off := 47) (tgt := 71) K dX8_better_24 (by rw [s_3]; decide) (by rw [s_3]; decide) (by rw [s_3]; rfl) (by decide) ?_
        refine zj_aload_n (i := 0) (pc := 71) K dX8_better_71 rfl rfl ?_
        refine zj_getI (pc := 72) K lf_X8_234 hs_M rfl dX8_better_72 ?_
        exact zj_iret K Rt dX8_better_75 (⟨by rw [zq_bet, hsm]; simp only; rw [if_neg s_0, if_neg s_1, if_neg s_2, if_pos s_3]; exact congrArg _ (congrArg _ zk3), rfl, wq, wq0⟩)
      refine zj_tableOut (tgt := 76) K dX8_better_24 (zz_out (n := 3) (by decide) (fun k hk => by
        rcases (show k = 0 ∨ k = 1 ∨ k = 2 ∨ k = 3 by omega) with rfl | rfl | rfl | rfl
        · exact s_0
        · exact s_1
        · exact s_2
        · exact s_3)) (by decide) ?_
      refine zj_aload_n (i := 0) (pc := 76) K dX8_better_76 rfl rfl ?_
      refine zj_getI (pc := 77) K lf_X8_222 hs_M rfl dX8_better_77 ?_
      exact zj_iret K Rt dX8_better_80 (by
        have c1 : ¬ x < 0 := fun z => by rw [decide_eq_false (Int32.not_le.mpr z)] at c_11; cases c_11
        have c2 : ¬ 4 < x := fun z => by rw [decide_eq_false (Int32.not_le.mpr z), Bool.and_false] at c_11; cases c_11
        have s_4 : x = 4 := zq_bet_4 c1 c2 s_0 s_1 s_2 s_3
        refine ⟨?_, rfl, wq, wq0⟩
        rw [zq_bet, hsm]; simp only
        rw [if_neg s_0, if_neg s_1, if_neg s_2, if_neg s_3, if_pos s_4]
        exact congrArg _ (congrArg _ zk4))
    · replace c_18 := zz_i0.mp c_18
      have hbn : (zo_bet (zτM h 80 J C u) (zδM h 80)) = none := by
        cases hq : (zo_bet (zτM h 80 J C u) (zδM h 80)) with
        | none => rfl
        | some r => rw [hq] at c_18; cases c_18
      have hno : zq_bet (zτM h 80 J C u) (zδM h 80) x = -1 := by rw [zq_bet, hbn]
      refine zj_iconst (v := -1) (pc := 21) K dX8_better_21 (by decide) ?_
      exact zj_iret K Rt dX8_better_22 (by first | exact ⟨by rw [hno], rfl, wq, wq0⟩ | exact ⟨by rw [hno], rfl, ws, w00⟩)

set_option maxHeartbeats 4000000 in
set_option maxRecDepth 20000 in
theorem m_X8_exchange {l : Launch} {E : zj_E} {h : zj_H} {g : zj_G} {J C u : Nat} (eJ : h 80 7 = nI J) (hJ : J ≤ 9) (eC : h 80 18 = nI C) (hC : C ≤ 14) {ct : Nat} (ec : h 78 17 = nI ct) (hct : ct ≤ 10) {xa xx xb xy : Int32} : zj_M l E yX8_exchange cX8_exchange 5 (some .int) 3 [.ref (E.2.1 78), .int xa, .int xx, .int xb, .int xy] h g (fun v h' g' => g' = g ∧ zm_fr h h' ∧ zm_post C h h' ct v (zo_ex (zτM h 80 J C u) (zδM h 80) xa xx xb xy)) := by
  refine zj_M.of RX8 (by decide) rfl (Nat.le_of_ble_eq_true rfl) ?_
  intro Γ hΓ K Rt
  subst hΓ
  show zj_J E Γ 5 0 [(0, .ref (E.2.1 78)), (1, .int xa), (2, .int xx), (3, .int xb), (4, .int xy)] [] h g
  refine zj_aload_n (i := 0) (pc := 0) K dX8_exchange_0 rfl rfl ?_
  refine zj_iconst (v := 0) (pc := 1) K dX8_exchange_1 (by decide) ?_
  refine zj_putI (pc := 2) K lf_X8_1 hs_M rfl dX8_exchange_2 ?_
  refine zj_hn (fun q0 eq0 => ?_)
  have w0 : ∀ a, a ≠ 78 → q0 a = h a := fun a a1 => by rw [eq0, zj_s_ne _ _ a1]
  have wb : ∀ b, b ≠ 0 → q0 78 b = h 78 b := fun b b1 => by rw [eq0, zj_s_eq, zz_upd_ne _ _ b1]
  have w00 : q0 78 0 = 0 := by rw [eq0, zj_s_eq, zz_upd_at]
  have ws : zm_same h q0 := by rw [eq0]; exact zm_same_0 h 0
  have e80 : q0 80 = h 80 := w0 80 (by decide)
  have eJ0 : q0 80 7 = nI J := by rw [e80]; exact eJ
  have eC0 : q0 80 18 = nI C := by rw [e80]; exact eC
  have eτ : zτM q0 80 J C u = zτM h 80 J C u := zτM_congr e80
  have eδ : zδM q0 80 = zδM h 80 := zδM_congr e80
  clear eq0
  refine zj_aload_n (i := 0) (pc := 5) K dX8_exchange_5 rfl rfl ?_
  refine zj_iload_n (i := 1) (pc := 6) K dX8_exchange_6 rfl rfl ?_
  refine zj_cV1I (pc := 7) K lm_X8_164 hs_M (m_X8_isCase eC0 (by omega)) (by decide) rfl (Nat.le_of_ble_eq_true rfl) dX8_exchange_7 ?_
  refine zj_if_eq (tgt := 38) (pc := 10) K dX8_exchange_10 (by decide) (fun c_10 => ?_) (fun c_10 => ?_)
  · replace c_10 := zz_i0.mp c_10
    have hno : zo_ex (zτM h 80 J C u) (zδM h 80) xa xx xb xy = none := zo_ex_Mn (zx_may_f1 (by rw [c_10, Bool.false_and]))
    refine zj_iconst (v := -1) (pc := 38) K dX8_exchange_38 (by decide) ?_
    exact zj_iret K Rt dX8_exchange_39 (⟨rfl, (zm_same_fr ws w00).1, by rw [hno]; exact ⟨rfl, (zm_same_fr ws w00).2⟩⟩)
  · replace c_10 := zz_n0.mp c_10
    obtain ⟨a, ha, ea⟩ := zz_in_ex c_10 (by omega)
    refine zj_aload_n (i := 0) (pc := 13) K dX8_exchange_13 rfl rfl ?_
    refine zj_iload_n (i := 3) (pc := 14) K dX8_exchange_14 rfl rfl ?_
    refine zj_cV1I (pc := 15) K lm_X8_164 hs_M (m_X8_isCase eC0 (by omega)) (by decide) rfl (Nat.le_of_ble_eq_true rfl) dX8_exchange_15 ?_
    refine zj_if_eq (tgt := 38) (pc := 18) K dX8_exchange_18 (by decide) (fun c_18 => ?_) (fun c_18 => ?_)
    · replace c_18 := zz_i0.mp c_18
      have hno : zo_ex (zτM h 80 J C u) (zδM h 80) xa xx xb xy = none := zo_ex_Mn (zx_may_f2 (by rw [c_18, Bool.false_and]))
      refine zj_iconst (v := -1) (pc := 38) K dX8_exchange_38 (by decide) ?_
      exact zj_iret K Rt dX8_exchange_39 (⟨rfl, (zm_same_fr ws w00).1, by rw [hno]; exact ⟨rfl, (zm_same_fr ws w00).2⟩⟩)
    · replace c_18 := zz_n0.mp c_18
      obtain ⟨b, hb, eb⟩ := zz_in_ex c_18 (by omega)
      refine zj_aload_n (i := 0) (pc := 21) K dX8_exchange_21 rfl rfl ?_
      refine zj_iload_n (i := 2) (pc := 22) K dX8_exchange_22 rfl rfl ?_
      refine zj_cV1I (pc := 23) K lm_X8_154 hs_M (m_X8_isJudge eJ0 (by omega)) (by decide) rfl (Nat.le_of_ble_eq_true rfl) dX8_exchange_23 ?_
      refine zj_if_eq (tgt := 38) (pc := 26) K dX8_exchange_26 (by decide) (fun c_26 => ?_) (fun c_26 => ?_)
      · replace c_26 := zz_i0.mp c_26
        have hno : zo_ex (zτM h 80 J C u) (zδM h 80) xa xx xb xy = none := zo_ex_Mn (zx_may_f3 c_26)
        refine zj_iconst (v := -1) (pc := 38) K dX8_exchange_38 (by decide) ?_
        exact zj_iret K Rt dX8_exchange_39 (⟨rfl, (zm_same_fr ws w00).1, by rw [hno]; exact ⟨rfl, (zm_same_fr ws w00).2⟩⟩)
      · replace c_26 := zz_n0.mp c_26
        obtain ⟨i, hi, ei⟩ := zz_in_ex c_26 (by omega)
        refine zj_aload_n (i := 0) (pc := 29) K dX8_exchange_29 rfl rfl ?_
        refine zj_iload (pc := 30) K dX8_exchange_30 rfl ?_
        refine zj_cV1I (pc := 32) K lm_X8_154 hs_M (m_X8_isJudge eJ0 (by omega)) (by decide) rfl (Nat.le_of_ble_eq_true rfl) dX8_exchange_32 ?_
        refine zj_if_ne (tgt := 40) (pc := 35) K dX8_exchange_35 (by decide) (fun c_35 => ?_) (fun c_35 => ?_)
        · replace c_35 := zz_n0.mp c_35
          obtain ⟨j, hj, ej⟩ := zz_in_ex c_35 (by omega)
          refine zj_aload_n (i := 0) (pc := 40) K dX8_exchange_40 rfl rfl ?_
          refine zj_getR (pc := 41) K lf_X8_64 hs_M rfl dX8_exchange_41 ?_
          refine zj_iconst (v := 0) (pc := 44) K dX8_exchange_44 (by decide) ?_
          refine zj_aload_n (i := 0) (pc := 45) K dX8_exchange_45 rfl rfl ?_
          refine zj_getR (pc := 46) K lf_X8_76 hs_M rfl dX8_exchange_46 ?_
          refine zj_iconst (v := 0) (pc := 49) K dX8_exchange_49 (by decide) ?_
          refine zj_cS4W (pc := 50) K lm_X8_125 (m_X8_copy (n := 89) (m := 89) hs_Mnow hs_Mbefore (by decide) (by decide) (by decide) (st0 := 0) (at0 := 0) rfl rfl (by decide) (by decide)) (by decide) rfl (Nat.le_of_ble_eq_true rfl) dX8_exchange_50 ?_
          refine zj_hn (fun q1 eq1 => ?_)
          have v1 : ∀ a, a ≠ 78 → a ≠ 84 → q1 a = h a := fun a a1 a2 => by rw [eq1, zj_s_ne _ _ a2]; exact w0 a a1
          have vb : ∀ b, b ≠ 0 → q1 78 b = h 78 b := fun b b1 => by rw [eq1, zj_s_ne _ _ (by decide)]; exact wb b b1
          have v00 : q1 78 0 = 0 := by rw [eq1, zj_s_ne _ _ (by decide)]; exact w00
          have v84 : ∀ i, i < 89 → q1 84 i = h 80 i := fun i hi => by rw [eq1, zj_s_eq, if_pos ⟨by omega, by omega⟩, e80, show 0 + (i - 0) = i by omega]
          have f80 : q1 80 = h 80 := v1 80 (by decide) (by decide)
          have eJ1 : q1 80 7 = nI J := by rw [f80]; exact eJ
          have eC1 : q1 80 18 = nI C := by rw [f80]; exact eC
          have ec1 : q1 78 17 = nI ct := by rw [vb 17 (by decide)]; exact ec
          have fτ : zτM q1 80 J C u = zτM h 80 J C u := zτM_congr f80
          have fδ : zδM q1 80 = zδM h 80 := zδM_congr f80
          have fB : zmB q1 80 = zmB h 80 := by unfold zmB; rw [f80]
          have fT : zmT q1 80 = zmT h 80 := by unfold zmT; rw [f80]
          clear eq1
          have eB1 : zmB q1 80 = zmB h 80 := by unfold zmB; rw [f80]
          have eT1 : zmT q1 80 = zmT h 80 := by unfold zmT; rw [f80]
          have eL1 : zm_law q1 80 J = zm_law h 80 J := funext fun c => zm_law_congr f80
          refine zj_aload_n (i := 0) (pc := 53) K dX8_exchange_53 rfl rfl ?_
          refine zj_iload_n (i := 1) (pc := 54) K dX8_exchange_54 rfl rfl ?_
          refine zj_iload_n (i := 2) (pc := 55) K dX8_exchange_55 rfl rfl ?_
          refine zj_iload_n (i := 3) (pc := 56) K dX8_exchange_56 rfl rfl ?_
          refine zj_iload (pc := 57) K dX8_exchange_57 rfl ?_
          refine zj_cV4P (pc := 59) K lm_X8_218 hs_M (m_X8_exchanges (J := J) (C := C) (a := a) (i := i) (b := b) (j := j) eJ1 hJ eC1 hC ea ei eb ej ha hi hb hj) (by decide) rfl (Nat.le_of_ble_eq_true rfl) dX8_exchange_59 (fun v q2 g2 hp => ?_)
          obtain ⟨rfl, rfl, zs1, zs2⟩ := hp
          rw [eT1, eB1, eL1, f80] at zs2
          refine zj_top (x' := zz_i (zx_may J C (zmT h 80) (zmB h 80) (zm_law h 80 J) xa xx xb xy)) (by rw [eT1, eB1, eL1]) ?_
          have hmid : zm_mid h q2 := ⟨fun a a1 a2 => by rw [zs1 a (by omega)]; exact v1 a a2 (by omega), by rw [zs1 83 (by decide)]; exact v1 83 (by decide) (by decide), fun i hi => by rw [zs1 84 (by decide)]; exact v84 i hi, by rw [zs1 78 (by decide)]; exact vb 2 (by decide), by rw [zs1 78 (by decide)]; exact vb 8 (by decide), by rw [zs1 78 (by decide)]; exact v00, by rw [zs1 78 (by decide)]; exact vb 17 (by decide)⟩
          refine zj_if_ne (tgt := 67) (pc := 62) K dX8_exchange_62 (by decide) (fun c_62 => ?_) (fun c_62 => ?_)
          · replace c_62 := zz_n0.mp c_62
            rw [zz_ifp c_62] at zs2
            have hye : zo_ex (zτM h 80 J C u) (zδM h 80) xa xx xb xy = some (zs_even J C (zx_si (zmB h 80) a i b j), zo_si (zδM h 80) (zx_si (zmB h 80) a i b j)) := by
              rw [zo_ex_M, zz_ifp c_62, ea, ei, eb, ej, nI_clamp (by omega), nI_clamp (by omega), nI_clamp (by omega), nI_clamp (by omega)]
            rw [ea, ei, eb, ej] at c_62
            obtain ⟨k1, k2, k3, k4⟩ := zx_may_t hJ hC ha hi hb hj c_62
            obtain ⟨e0, eB2, hδ⟩ := zm_exR hC ha hb (by omega) (by omega) zs2 k1 k2 k3 k4
            have hst : ∀ i, i < 47 → i ≠ 5 → i ≠ 17 → q2 80 i = h 80 i := fun i h1 _ _ => e0 i (by omega)
            refine zj_aload_n (i := 0) (pc := 67) K dX8_exchange_67 rfl rfl ?_
            refine zj_cV0P (pc := 68) K lm_X8_201 hs_M (m_X8_stay (ct := ct) (by rw [hmid.2.2.2.2.2.2]; exact ec) hct) (by decide) rfl (Nat.le_of_ble_eq_true rfl) dX8_exchange_68 (fun v q3 g3 hp => ?_)
            obtain ⟨rfl, rfl, zu1, zu2, zu3, zu4⟩ := hp
            have hkp := zm_mk_keep hC hmid zu1 zu2 zu3 zu4 hst hδ
            have eJ3 : q3 80 7 = nI J := by rw [zu3 7 (by decide), e0 7 (by decide)]; exact eJ
            have eC3 : q3 80 18 = nI C := by rw [zu3 18 (by decide), e0 18 (by decide)]; exact eC
            refine zj_aload_n (i := 0) (pc := 71) K dX8_exchange_71 rfl rfl ?_
            refine zj_cV0I (pc := 72) K lm_X8_211 hs_M (m_X8_evennessNow eJ3 hJ eC3 hC) (by decide) rfl (Nat.le_of_ble_eq_true rfl) dX8_exchange_72 ?_
            exact zj_iret K Rt dX8_exchange_75 (⟨rfl, hkp.1, by rw [hye]; exact ⟨by rw [zs_even_e (B := zmB q3 80) (B' := zx_si (zmB h 80) a i b j) (fun c hc => (zu3 (61 + c) (by omega)).trans (congrFun eB2 c))], hkp.2⟩⟩)
          · replace c_62 := zz_i0.mp c_62
            rw [zz_ifn c_62] at zs2
            have hno : zo_ex (zτM h 80 J C u) (zδM h 80) xa xx xb xy = none := zo_ex_Mn c_62
            have hsy := zm_mk_stay hmid (fun i _ => by rw [zs2])
            refine zj_iconst (v := -1) (pc := 65) K dX8_exchange_65 (by decide) ?_
            exact zj_iret K Rt dX8_exchange_66 (⟨rfl, hsy.1, by rw [hno]; exact ⟨rfl, hsy.2⟩⟩)
        · replace c_35 := zz_i0.mp c_35
          have hno : zo_ex (zτM h 80 J C u) (zδM h 80) xa xx xb xy = none := zo_ex_Mn (zx_may_f4 c_35)
          refine zj_iconst (v := -1) (pc := 38) K dX8_exchange_38 (by decide) ?_
          exact zj_iret K Rt dX8_exchange_39 (⟨rfl, (zm_same_fr ws w00).1, by rw [hno]; exact ⟨rfl, (zm_same_fr ws w00).2⟩⟩)

set_option maxHeartbeats 4000000 in
set_option maxRecDepth 20000 in
theorem m_X8_smooth {l : Launch} {E : zj_E} {h : zj_H} {g : zj_G} {J C u : Nat} (eJ : h 80 7 = nI J) (hJ : J ≤ 9) (eC : h 80 18 = nI C) (hC : C ≤ 14) {ct : Nat} (ec : h 78 17 = nI ct) (hct : ct ≤ 10)  : zj_M l E yX8_smooth cX8_smooth 2 (some .int) 4 [.ref (E.2.1 78)] h g (fun v h' g' => g' = g ∧ zm_fr h h' ∧ zm_post C h h' ct v (zo_smo (zτM h 80 J C u) (zδM h 80))) := by
  refine zj_M.of RX8 (by decide) rfl (Nat.le_of_ble_eq_true rfl) ?_
  intro Γ hΓ K Rt
  subst hΓ
  have loop : ∀ (m t : Nat) (x1 : Int32) (q : zj_H) (δ : zδ), 40 + 1 ≤ t + m → t ≤ 40 → x1 = nI t → zm_mid h q → (∀ k, k < 61 → q 80 k = h 80 k) → zδe C (zδM q 80) δ → (t = 0 → q 80 = h 80) → zo_sm (zτM h 80 J C u) 40 (zδM h 80) = (t + (zo_sm (zτM h 80 J C u) (40 - t) δ).1, (zo_sm (zτM h 80 J C u) (40 - t) δ).2) → zj_J E Γ 2 20 [(0, .ref (E.2.1 78)), (1, .int x1)] [] q g := by
    intro m
    induction m with
    | zero => intro t x1 q δ h1 h2; omega
    | succ m ih =>
      intro t x1 q δ h1 h2 e1 hmid hst0 hδ ht0 hsm
      have eJ2 : q 80 7 = nI J := by rw [hst0 7 (by decide)]; exact eJ
      have eC2 : q 80 18 = nI C := by rw [hst0 18 (by decide)]; exact eC
      have hτe : zτe (zτM q 80 J C u) (zτM h 80 J C u) := zτM_e hJ hC (fun i h1 _ _ => hst0 i (by omega))
      have hst : ∀ i, i < 47 → i ≠ 5 → i ≠ 17 → q 80 i = h 80 i := fun i h1 _ _ => hst0 i (by omega)
      have hbe : zo_bet (zτM q 80 J C u) (zδM q 80) = zo_bet (zτM h 80 J C u) δ := zo_bet_e hC hτe hδ
      refine zj_iload_n (i := 1) (pc := 20) K dX8_smooth_20 rfl rfl ?_
      refine zj_bipush (v := 40) (pc := 21) K dX8_smooth_21 (by decide) ?_
      refine zj_icmp_ge (tgt := 60) (pc := 23) K dX8_smooth_23 (by decide) (fun c_23 => ?_) (fun c_23 => ?_)
      · have h40 : t = 40 := Nat.le_antisymm h2 (zz_ge e1 (show (40 : Int32) = nI 40 from rfl) (by omega) (by omega) c_23)
        have hfin : zo_sm (zτM h 80 J C u) 40 (zδM h 80) = (t, δ) := by rw [hsm, h40, Nat.sub_self, show zo_sm (zτM h 80 J C u) 0 δ = (0, δ) from rfl]; rfl
        refine zj_iload_n (i := 1) (pc := 60) K dX8_smooth_60 rfl rfl ?_
        refine zj_if_ne (tgt := 66) (pc := 61) K dX8_smooth_61 (by decide) (fun c_61 => ?_) (fun c_61 => ?_)
        · have h0 : ¬ t = 0 := fun e => c_61 (by rw [e1, e]; rfl)
          refine zj_aload_n (i := 0) (pc := 66) K dX8_smooth_66 rfl rfl ?_
          refine zj_cV0P (pc := 67) K lm_X8_201 hs_M (m_X8_stay (ct := ct) (by rw [hmid.2.2.2.2.2.2]; exact ec) hct) (by decide) rfl (Nat.le_of_ble_eq_true rfl) dX8_smooth_67 (fun v q3 g3 hp => ?_)
          obtain ⟨rfl, rfl, zu1, zu2, zu3, zu4⟩ := hp
          have hkp := zm_mk_keep hC hmid zu1 zu2 zu3 zu4 hst hδ
          refine zj_iload_n (i := 1) (pc := 70) K dX8_smooth_70 rfl rfl ?_
          exact zj_iret K Rt dX8_smooth_71 (⟨rfl, hkp.1, by rw [zo_smo, hfin, if_neg h0]; exact ⟨by rw [e1], hkp.2⟩⟩)
        · have h0 : t = 0 := by
            rw [e1] at c_61
            exact (nI_eq (b := 0) (by omega) (by omega)).mp c_61
          refine zj_iconst (v := -1) (pc := 64) K dX8_smooth_64 (by decide) ?_
          exact zj_iret K Rt dX8_smooth_65 (by
            have hsy := zm_mk_stay hmid (fun i _ => by rw [ht0 h0])
            exact ⟨rfl, hsy.1, by rw [zo_smo, hfin, if_pos h0]; exact ⟨rfl, hsy.2⟩⟩)
      · have h40 : t < 40 := zz_nge e1 (show (40 : Int32) = nI 40 from rfl) (by omega) (by omega) c_23
        refine zj_aload_n (i := 0) (pc := 26) K dX8_smooth_26 rfl rfl ?_
        refine zj_cV0P (pc := 27) K lm_X8_237 hs_M (m_X8_laysBetter (J := J) (C := C) eJ2 hJ eC2 hC) (by decide) rfl (Nat.le_of_ble_eq_true rfl) dX8_smooth_27 (fun v q3 g3 hp => ?_)
        obtain ⟨rfl, rfl, zs1, zs2, zs3⟩ := hp
        rw [zo_bet_M (u := u)] at zs3
        refine zj_top (x' := zz_i (zo_bet (zτM h 80 J C u) δ).isSome) (by rw [zo_bet_M (u := u), hbe]) ?_
        have hδ3 : zδe C (zδM q3 80) δ := by rw [zδM_congr (zs1 80 (by decide))]; exact hδ
        have hmid3 : zm_mid h q3 := ⟨fun a a1 a2 => by rw [zs1 a a2]; exact hmid.1 a a1 a2, by rw [zs1 83 (by decide)]; exact hmid.2.1, fun i hi => by rw [zs1 84 (by decide)]; exact hmid.2.2.1 i hi, by rw [zs2 2 (by decide)]; exact hmid.2.2.2.1, by rw [zs2 8 (by decide)]; exact hmid.2.2.2.2.1, by rw [zs2 0 (by decide)]; exact hmid.2.2.2.2.2.1, by rw [zs2 17 (by decide)]; exact hmid.2.2.2.2.2.2⟩
        refine zj_if_eq (tgt := 60) (pc := 30) K dX8_smooth_30 (by decide) (fun c_30 => ?_) (fun c_30 => ?_)
        · replace c_30 := zz_i0.mp c_30
          have hbn : zo_bet (zτM h 80 J C u) δ = none := by
            cases hq : zo_bet (zτM h 80 J C u) δ with
            | none => rfl
            | some r => rw [hq] at c_30; cases c_30
          have hz0 : zo_sm (zτM h 80 J C u) (40 - t) δ = (0, δ) := by rw [show 40 - t = (39 - t) + 1 by omega, zo_sm, hbn]
          have hfin : zo_sm (zτM h 80 J C u) 40 (zδM h 80) = (t, δ) := by rw [hsm, hz0]; rfl
          have hst : ∀ i, i < 47 → i ≠ 5 → i ≠ 17 → q3 80 i = h 80 i := fun i h1 h2 h3 => by rw [zs1 80 (by decide)]; exact hst i h1 h2 h3
          have hmid := hmid3
          have hδ := hδ3
          have ht0 : t = 0 → q3 80 = h 80 := fun z => by rw [zs1 80 (by decide)]; exact ht0 z
          refine zj_iload_n (i := 1) (pc := 60) K dX8_smooth_60 rfl rfl ?_
          refine zj_if_ne (tgt := 66) (pc := 61) K dX8_smooth_61 (by decide) (fun c_61 => ?_) (fun c_61 => ?_)
          · have h0 : ¬ t = 0 := fun e => c_61 (by rw [e1, e]; rfl)
            refine zj_aload_n (i := 0) (pc := 66) K dX8_smooth_66 rfl rfl ?_
            refine zj_cV0P (pc := 67) K lm_X8_201 hs_M (m_X8_stay (ct := ct) (by rw [hmid.2.2.2.2.2.2]; exact ec) hct) (by decide) rfl (Nat.le_of_ble_eq_true rfl) dX8_smooth_67 (fun v q3 g3 hp => ?_)
            obtain ⟨rfl, rfl, zu1, zu2, zu3, zu4⟩ := hp
            have hkp := zm_mk_keep hC hmid zu1 zu2 zu3 zu4 hst hδ
            refine zj_iload_n (i := 1) (pc := 70) K dX8_smooth_70 rfl rfl ?_
            exact zj_iret K Rt dX8_smooth_71 (⟨rfl, hkp.1, by rw [zo_smo, hfin, if_neg h0]; exact ⟨by rw [e1], hkp.2⟩⟩)
          · have h0 : t = 0 := by
              rw [e1] at c_61
              exact (nI_eq (b := 0) (by omega) (by omega)).mp c_61
            refine zj_iconst (v := -1) (pc := 64) K dX8_smooth_64 (by decide) ?_
            exact zj_iret K Rt dX8_smooth_65 (by
              have hsy := zm_mk_stay hmid (fun i _ => by rw [ht0 h0])
              exact ⟨rfl, hsy.1, by rw [zo_smo, hfin, if_pos h0]; exact ⟨rfl, hsy.2⟩⟩)
        · replace c_30 := zz_n0.mp c_30
          obtain ⟨⟨ba, bi, bb, bj⟩, hbs⟩ : ∃ r, zo_bet (zτM h 80 J C u) δ = some r := by
            cases hq : zo_bet (zτM h 80 J C u) δ with
            | none => rw [hq] at c_30; cases c_30
            | some r => exact ⟨r, rfl⟩
          have hbq := hbe.trans hbs
          obtain ⟨zk0, zk1, zk2, zk3, zk4⟩ := zs3 _ _ _ _ hbq
          have hlt := zo_bet_lt hbq
          have hl1 : ba < C := hlt.1
          have hl2 : bi < J := hlt.2.1
          have hl3 : bb < C := hlt.2.2.2.1
          have hl4 : bj < J := hlt.2.2.2.2.1
          have hmq : zx_may J C (zmT q 80) (zmB q 80) (zm_law q 80 J) (nI ba) (nI bi) (nI bb) (nI bj) = true := hlt.2.2.2.2.2
          have eJ3 : q3 80 7 = nI J := by rw [zs1 80 (by decide)]; exact eJ2
          have eC3 : q3 80 18 = nI C := by rw [zs1 80 (by decide)]; exact eC2
          have eB3 : zmB q3 80 = zmB q 80 := by unfold zmB; rw [zs1 80 (by decide)]
          have eT3 : zmT q3 80 = zmT q 80 := by unfold zmT; rw [zs1 80 (by decide)]
          have eL3 : zm_law q3 80 J = zm_law q 80 J := funext fun c => zm_law_congr (zs1 80 (by decide))
          refine zj_aload_n (i := 0) (pc := 33) K dX8_smooth_33 rfl rfl ?_
          refine zj_aload_n (i := 0) (pc := 34) K dX8_smooth_34 rfl rfl ?_
          refine zj_getI (pc := 35) K lf_X8_225 hs_M rfl dX8_smooth_35 ?_
          refine zj_aload_n (i := 0) (pc := 38) K dX8_smooth_38 rfl rfl ?_
          refine zj_getI (pc := 39) K lf_X8_228 hs_M rfl dX8_smooth_39 ?_
          refine zj_aload_n (i := 0) (pc := 42) K dX8_smooth_42 rfl rfl ?_
          refine zj_getI (pc := 43) K lf_X8_231 hs_M rfl dX8_smooth_43 ?_
          refine zj_aload_n (i := 0) (pc := 46) K dX8_smooth_46 rfl rfl ?_
          refine zj_getI (pc := 47) K lf_X8_234 hs_M rfl dX8_smooth_47 ?_
          refine zj_cV4P (pc := 50) K lm_X8_218 hs_M (m_X8_exchanges (J := J) (C := C) (a := ba) (i := bi) (b := bb) (j := bj) eJ3 hJ eC3 hC zk0 zk1 zk2 zk3 hl1 hl2 hl3 hl4) (by decide) rfl (Nat.le_of_ble_eq_true rfl) dX8_smooth_50 (fun v q5 g5 hp => ?_)
          obtain ⟨rfl, rfl, zt1, zt2⟩ := hp
          rw [eT3, eB3, eL3, zk0, zk1, zk2, zk3, zz_ifp hmq, zs1 80 (by decide)] at zt2
          obtain ⟨k1, k2, k3, k4⟩ := zx_may_t hJ hC hl1 hl2 hl3 hl4 hmq
          obtain ⟨e0, eB2, hδ5⟩ := zm_exR hC hl1 hl3 (by omega) (by omega) zt2 k1 k2 k3 k4
          have hmid5 : zm_mid h q5 := ⟨fun a a1 a2 => by rw [zt1 a (by omega)]; exact hmid3.1 a a1 a2, by rw [zt1 83 (by decide)]; exact hmid3.2.1, fun i hi => by rw [zt1 84 (by decide)]; exact hmid3.2.2.1 i hi, by rw [zt1 78 (by decide)]; exact hmid3.2.2.2.1, by rw [zt1 78 (by decide)]; exact hmid3.2.2.2.2.1, by rw [zt1 78 (by decide)]; exact hmid3.2.2.2.2.2.1, by rw [zt1 78 (by decide)]; exact hmid3.2.2.2.2.2.2⟩
          have hδ6 : zδe C (zδM q5 80) (zo_si δ (zx_si δ.2.2.2.1 ba bi bb bj)) := hδ5.tr ⟨hδ.1, hδ.2.1, hδ.2.2.1, zx_si_e hl1 hl3 hδ.2.2.2.1, hδ.2.2.2.2⟩
          refine zj_pop (pc := 53) K dX8_smooth_53 rfl ?_
          refine zj_iinc (v := 1) (pc := 54) K dX8_smooth_54 rfl (by decide) rfl rfl rfl ?_
          refine zj_goto (tgt := 20) (pc := 57) K dX8_smooth_57 (by decide) ?_
          refine ih (t + 1) _ _ (zo_si δ (zx_si δ.2.2.2.1 ba bi bb bj)) (by omega) (by omega) (zz_up e1) hmid5 (fun k hk => by rw [e0 k hk]; exact hst0 k hk) hδ6 (fun z => by omega) ?_
          rw [hsm, show 40 - t = (40 - (t + 1)) + 1 by omega, zo_sm, hbs]
          simp only
          rw [show t + ((zo_sm (zτM h 80 J C u) (40 - (t + 1)) (zo_si δ (zx_si δ.2.2.2.1 ba bi bb bj))).1 + 1) = t + 1 + (zo_sm (zτM h 80 J C u) (40 - (t + 1)) (zo_si δ (zx_si δ.2.2.2.1 ba bi bb bj))).1 by omega]
  show zj_J E Γ 2 0 [(0, .ref (E.2.1 78))] [] h g
  refine zj_aload_n (i := 0) (pc := 0) K dX8_smooth_0 rfl rfl ?_
  refine zj_iconst (v := 0) (pc := 1) K dX8_smooth_1 (by decide) ?_
  refine zj_putI (pc := 2) K lf_X8_1 hs_M rfl dX8_smooth_2 ?_
  refine zj_hn (fun q0 eq0 => ?_)
  have w0 : ∀ a, a ≠ 78 → q0 a = h a := fun a a1 => by rw [eq0, zj_s_ne _ _ a1]
  have wb : ∀ b, b ≠ 0 → q0 78 b = h 78 b := fun b b1 => by rw [eq0, zj_s_eq, zz_upd_ne _ _ b1]
  have w00 : q0 78 0 = 0 := by rw [eq0, zj_s_eq, zz_upd_at]
  have ws : zm_same h q0 := by rw [eq0]; exact zm_same_0 h 0
  have e80 : q0 80 = h 80 := w0 80 (by decide)
  have eJ0 : q0 80 7 = nI J := by rw [e80]; exact eJ
  have eC0 : q0 80 18 = nI C := by rw [e80]; exact eC
  have eτ : zτM q0 80 J C u = zτM h 80 J C u := zτM_congr e80
  have eδ : zδM q0 80 = zδM h 80 := zδM_congr e80
  clear eq0
  refine zj_aload_n (i := 0) (pc := 5) K dX8_smooth_5 rfl rfl ?_
  refine zj_getR (pc := 6) K lf_X8_64 hs_M rfl dX8_smooth_6 ?_
  refine zj_iconst (v := 0) (pc := 9) K dX8_smooth_9 (by decide) ?_
  refine zj_aload_n (i := 0) (pc := 10) K dX8_smooth_10 rfl rfl ?_
  refine zj_getR (pc := 11) K lf_X8_76 hs_M rfl dX8_smooth_11 ?_
  refine zj_iconst (v := 0) (pc := 14) K dX8_smooth_14 (by decide) ?_
  refine zj_cS4W (pc := 15) K lm_X8_125 (m_X8_copy (n := 89) (m := 89) hs_Mnow hs_Mbefore (by decide) (by decide) (by decide) (st0 := 0) (at0 := 0) rfl rfl (by decide) (by decide)) (by decide) rfl (Nat.le_of_ble_eq_true rfl) dX8_smooth_15 ?_
  refine zj_hn (fun q1 eq1 => ?_)
  have v1 : ∀ a, a ≠ 78 → a ≠ 84 → q1 a = h a := fun a a1 a2 => by rw [eq1, zj_s_ne _ _ a2]; exact w0 a a1
  have vb : ∀ b, b ≠ 0 → q1 78 b = h 78 b := fun b b1 => by rw [eq1, zj_s_ne _ _ (by decide)]; exact wb b b1
  have v00 : q1 78 0 = 0 := by rw [eq1, zj_s_ne _ _ (by decide)]; exact w00
  have v84 : ∀ i, i < 89 → q1 84 i = h 80 i := fun i hi => by rw [eq1, zj_s_eq, if_pos ⟨by omega, by omega⟩, e80, show 0 + (i - 0) = i by omega]
  have f80 : q1 80 = h 80 := v1 80 (by decide) (by decide)
  have eJ1 : q1 80 7 = nI J := by rw [f80]; exact eJ
  have eC1 : q1 80 18 = nI C := by rw [f80]; exact eC
  have ec1 : q1 78 17 = nI ct := by rw [vb 17 (by decide)]; exact ec
  have fτ : zτM q1 80 J C u = zτM h 80 J C u := zτM_congr f80
  have fδ : zδM q1 80 = zδM h 80 := zδM_congr f80
  have fB : zmB q1 80 = zmB h 80 := by unfold zmB; rw [f80]
  have fT : zmT q1 80 = zmT h 80 := by unfold zmT; rw [f80]
  clear eq1
  have hmid : zm_mid h q1 := ⟨fun a a1 a2 => v1 a a2 (by omega), v1 83 (by decide) (by decide), v84, vb 2 (by decide), vb 8 (by decide), v00, vb 17 (by decide)⟩
  refine zj_iconst (v := 0) (pc := 18) K dX8_smooth_18 (by decide) ?_
  refine zj_istore_n (i := 1) (pc := 19) K dX8_smooth_19 rfl rfl rfl rfl ?_
  exact loop 41 0 _ q1 (zδM h 80) (by omega) (by omega) rfl hmid (fun _ _ => by rw [f80]) (by rw [fδ]; exact zδe.rf) (fun _ => f80) (by rw [Nat.sub_zero, Nat.zero_add])
