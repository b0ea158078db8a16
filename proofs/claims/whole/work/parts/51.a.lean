set_option maxHeartbeats 4000000 in
set_option maxRecDepth 20000 in
theorem m_X8_laysAnew {l : Launch} {E : zj_E} {h : zj_H} {g : zj_G} {J C u : Nat} (eJ : h 80 7 = nI J) (hJ : J ≤ 9) (eC : h 80 18 = nI C) (hC : C ≤ 14) (eU : h 80 0 = nI u) (hU : u ≤ 20) (hT : ∀ δ si c b, 0 ≤ zd_t (zθo (zτM h 80 J C u) δ) si c b)  : zj_M l E yX8_laysAnew cX8_laysAnew 2 none 7 [.ref (E.2.1 78)] h g (fun v h' g' => v = none ∧ g' = g ∧ ((∀ a, a ≠ 78 → a ≠ 82 → a ≠ 86 → a ≠ 87 → h' a = h a) ∧ (∀ b, b ≠ 20 → b ≠ 21 → b ≠ 22 → h' 78 b = h 78 b)) ∧ ∀ c, c < C → h' 82 (61 + c) = (zo_all (zτM h 80 J C u) (zδ0M h)).2.2.2.2.1 c) := by
  refine zj_M.of RX8 (by decide) rfl (Nat.le_of_ble_eq_true rfl) ?_
  intro Γ hΓ K Rt
  subst hΓ
  have loop : ∀ (m i : Nat) (x1 : Int32) (q : zj_H), 14 + 1 ≤ i + m → i ≤ 14 → (x1 = nI i) → (∀ a, a ≠ 82 → q a = h a) → (∀ k, k < 47 → k ≠ 5 → k ≠ 17 → q 82 k = h 80 k) → (q 82 5 = h 80 4) → (q 82 17 = 0) → (∀ k, k < i → q 82 (47 + k) = h 80 (33 + k) ∧ q 82 (61 + k) = 0 ∧ q 82 (75 + k) = 0) → zj_J E Γ 2 35 [(0, .ref (E.2.1 78)), (1, .int x1)] [] q g := by
    intro m
    induction m with
    | zero => intro i x1 q  h1 h2; omega
    | succ m ih =>
      intro i x1 q  h1 h2 e1 zf1 zf2 zf3 zf4 zf5
      refine zj_iload_n (i := 1) (pc := 35) K dX8_laysAnew_35 rfl rfl ?_
      refine zj_bipush (v := 14) (pc := 36) K dX8_laysAnew_36 (by decide) ?_
      refine zj_icmp_ge (tgt := 85) (pc := 38) K dX8_laysAnew_38 (by decide) (fun c_38 => ?_) (fun c_38 => ?_)
      · have hi : i = 14 := Nat.le_antisymm h2 (zz_ge e1 (show (14 : Int32) = nI 14 from rfl) (by omega) (by omega) c_38)
        subst hi
        have eJ2 : q 82 7 = nI J := by rw [zf2 7 (by decide) (by decide) (by decide)]; exact eJ
        have eC2 : q 82 18 = nI C := by rw [zf2 18 (by decide) (by decide) (by decide)]; exact eC
        have eU2 : q 82 0 = nI u := by rw [zf2 0 (by decide) (by decide) (by decide)]; exact eU
        have hτe : zτe (zτM q 82 J C u) (zτM h 80 J C u) := zτM_e hJ hC zf2
        have hδe : zδe C (zδM q 82) (zδ0M h) := ⟨zf3, zf4, fun c hc => (zf5 c (by omega)).2.2, fun c hc => (zf5 c (by omega)).2.1, fun c hc => (zf5 c (by omega)).1⟩
        refine zj_aload_n (i := 0) (pc := 85) K dX8_laysAnew_85 rfl rfl ?_
        refine zj_aload_n (i := 0) (pc := 86) K dX8_laysAnew_86 rfl rfl ?_
        refine zj_getR (pc := 87) K lf_X8_70 hs_M rfl dX8_laysAnew_87 ?_
        refine zj_cV1P (pc := 90) K lm_X8_204 hs_M (m_X8_drawsAll (J := J) (C := C) (u := u) (Or.inr rfl) eJ2 hJ eC2 hC eU2 hU (zm_hT hτe hT)) (by decide) rfl (Nat.le_of_ble_eq_true rfl) dX8_laysAnew_90 (fun v q2 g2 hp => ?_)
        obtain ⟨rfl, rfl, ⟨zs1, zs2⟩, zs3, hδ, zs5⟩ := hp
        have ha := (zo_all_e hτe hδe).2
        refine zj_pop (pc := 93) K dX8_laysAnew_93 rfl ?_
        exact zj_vret K Rt dX8_laysAnew_94 (⟨rfl, rfl, ⟨fun a a1 a2 a3 a4 => by rw [zs1 a a1 a3 a4 a2]; exact zf1 a a2, fun b b1 b2 b3 => by rw [zs2 b b1 b2 b3, zf1 78 (by decide)]⟩, fun c hc => (hδ.2.2.2.1 c hc).trans (ha.2.2.2.1 c hc)⟩)
      · have hi : i < 14 := zz_nge e1 (show (14 : Int32) = nI 14 from rfl) (by omega) (by omega) c_38
        refine zj_aload_n (i := 0) (pc := 41) K dX8_laysAnew_41 rfl rfl ?_
        refine zj_getR (pc := 42) K lf_X8_70 hs_M rfl dX8_laysAnew_42 ?_
        refine zj_bipush (v := 47) (pc := 45) K dX8_laysAnew_45 (by decide) ?_
        refine zj_iload_n (i := 1) (pc := 47) K dX8_laysAnew_47 rfl rfl ?_
        refine zj_iadd (pc := 48) K dX8_laysAnew_48 ?_
        refine zj_aload_n (i := 0) (pc := 49) K dX8_laysAnew_49 rfl rfl ?_
        refine zj_getR (pc := 50) K lf_X8_64 hs_M rfl dX8_laysAnew_50 ?_
        refine zj_bipush (v := 33) (pc := 53) K dX8_laysAnew_53 (by decide) ?_
        refine zj_iload_n (i := 1) (pc := 55) K dX8_laysAnew_55 rfl rfl ?_
        refine zj_iadd (pc := 56) K dX8_laysAnew_56 ?_
        refine zj_ald (j := 33 + i) (pc := 57) K hs_Mnow (zm_ix rfl e1) (by omega) (by first | decide | omega) dX8_laysAnew_57 ?_
        refine zj_ast (j := 47 + i) (pc := 58) K hs_Mfresh (zm_ix rfl e1) (by omega) (by first | decide | omega) dX8_laysAnew_58 ?_
        refine zj_aload_n (i := 0) (pc := 59) K dX8_laysAnew_59 rfl rfl ?_
        refine zj_getR (pc := 60) K lf_X8_70 hs_M rfl dX8_laysAnew_60 ?_
        refine zj_bipush (v := 61) (pc := 63) K dX8_laysAnew_63 (by decide) ?_
        refine zj_iload_n (i := 1) (pc := 65) K dX8_laysAnew_65 rfl rfl ?_
        refine zj_iadd (pc := 66) K dX8_laysAnew_66 ?_
        refine zj_iconst (v := 0) (pc := 67) K dX8_laysAnew_67 (by decide) ?_
        refine zj_ast (j := 61 + i) (pc := 68) K hs_Mfresh (zm_ix rfl e1) (by omega) (by first | decide | omega) dX8_laysAnew_68 ?_
        refine zj_aload_n (i := 0) (pc := 69) K dX8_laysAnew_69 rfl rfl ?_
        refine zj_getR (pc := 70) K lf_X8_70 hs_M rfl dX8_laysAnew_70 ?_
        refine zj_bipush (v := 75) (pc := 73) K dX8_laysAnew_73 (by decide) ?_
        refine zj_iload_n (i := 1) (pc := 75) K dX8_laysAnew_75 rfl rfl ?_
        refine zj_iadd (pc := 76) K dX8_laysAnew_76 ?_
        refine zj_iconst (v := 0) (pc := 77) K dX8_laysAnew_77 (by decide) ?_
        refine zj_ast (j := 75 + i) (pc := 78) K hs_Mfresh (zm_ix rfl e1) (by omega) (by first | decide | omega) dX8_laysAnew_78 ?_
        refine zj_iinc (v := 1) (pc := 79) K dX8_laysAnew_79 rfl (by decide) rfl rfl rfl ?_
        refine zj_goto (tgt := 35) (pc := 82) K dX8_laysAnew_82 (by decide) ?_
        refine ih (i + 1) _ _ (by omega) (by omega) (zz_up e1) (fun a a1 => by rw [zj_s_ne _ _ a1, zj_s_ne _ _ a1, zj_s_ne _ _ a1]; exact zf1 a a1) (fun k k1 k2 k3 => ?_) ?_ ?_ (fun k hk => ?_)
        · rw [zj_s_eq, zj_s_eq, zj_s_eq, zz_upd_ne _ _ (by omega), zz_upd_ne _ _ (by omega), zz_upd_ne _ _ (by omega)]; exact zf2 k k1 k2 k3
        · rw [zj_s_eq, zj_s_eq, zj_s_eq, zz_upd_ne _ _ (by omega), zz_upd_ne _ _ (by omega), zz_upd_ne _ _ (by omega)]; exact zf3
        · rw [zj_s_eq, zj_s_eq, zj_s_eq, zz_upd_ne _ _ (by omega), zz_upd_ne _ _ (by omega), zz_upd_ne _ _ (by omega)]; exact zf4
        · rw [zj_s_eq, zj_s_eq, zj_s_eq, zf1 80 (by decide)]
          by_cases ek : k = i
          · rw [ek]
            exact ⟨by rw [zz_upd_ne _ _ (by omega), zz_upd_ne _ _ (by omega), zz_upd_at], by rw [zz_upd_ne _ _ (by omega), zz_upd_at], by rw [zz_upd_at]⟩
          · rw [zz_upd_ne _ _ (by omega), zz_upd_ne _ _ (by omega), zz_upd_ne _ _ (by omega), zz_upd_ne _ _ (by omega), zz_upd_ne _ _ (by omega), zz_upd_ne _ _ (by omega), zz_upd_ne _ _ (by omega), zz_upd_ne _ _ (by omega), zz_upd_ne _ _ (by omega)]
            exact zf5 k (by omega)
  show zj_J E Γ 2 0 [(0, .ref (E.2.1 78))] [] h g
  refine zj_aload_n (i := 0) (pc := 0) K dX8_laysAnew_0 rfl rfl ?_
  refine zj_getR (pc := 1) K lf_X8_64 hs_M rfl dX8_laysAnew_1 ?_
  refine zj_iconst (v := 0) (pc := 4) K dX8_laysAnew_4 (by decide) ?_
  refine zj_aload_n (i := 0) (pc := 5) K dX8_laysAnew_5 rfl rfl ?_
  refine zj_getR (pc := 6) K lf_X8_70 hs_M rfl dX8_laysAnew_6 ?_
  refine zj_iconst (v := 0) (pc := 9) K dX8_laysAnew_9 (by decide) ?_
  refine zj_cS4W (pc := 10) K lm_X8_125 (m_X8_copy (n := 89) (m := 89) hs_Mnow hs_Mfresh (by decide) (by decide) (by decide) (st0 := 0) (at0 := 0) rfl rfl (by decide) (by decide)) (by decide) rfl (Nat.le_of_ble_eq_true rfl) dX8_laysAnew_10 ?_
  refine zj_aload_n (i := 0) (pc := 13) K dX8_laysAnew_13 rfl rfl ?_
  refine zj_getR (pc := 14) K lf_X8_70 hs_M rfl dX8_laysAnew_14 ?_
  refine zj_iconst (v := 5) (pc := 17) K dX8_laysAnew_17 (by decide) ?_
  refine zj_aload_n (i := 0) (pc := 18) K dX8_laysAnew_18 rfl rfl ?_
  refine zj_getR (pc := 19) K lf_X8_64 hs_M rfl dX8_laysAnew_19 ?_
  refine zj_iconst (v := 4) (pc := 22) K dX8_laysAnew_22 (by decide) ?_
  refine zj_ald (j := 4) (pc := 23) K hs_Mnow rfl (by decide) (by first | decide | omega) dX8_laysAnew_23 ?_
  refine zj_ast (j := 5) (pc := 24) K hs_Mfresh rfl (by decide) (by first | decide | omega) dX8_laysAnew_24 ?_
  refine zj_aload_n (i := 0) (pc := 25) K dX8_laysAnew_25 rfl rfl ?_
  refine zj_getR (pc := 26) K lf_X8_70 hs_M rfl dX8_laysAnew_26 ?_
  refine zj_bipush (v := 17) (pc := 29) K dX8_laysAnew_29 (by decide) ?_
  refine zj_iconst (v := 0) (pc := 31) K dX8_laysAnew_31 (by decide) ?_
  refine zj_ast (j := 17) (pc := 32) K hs_Mfresh rfl (by decide) (by first | decide | omega) dX8_laysAnew_32 ?_
  refine zj_iconst (v := 0) (pc := 33) K dX8_laysAnew_33 (by decide) ?_
  refine zj_istore_n (i := 1) (pc := 34) K dX8_laysAnew_34 rfl rfl rfl rfl ?_
  refine loop 15 0 _ _ (by omega) (by omega) rfl (fun a a1 => by rw [zj_s_ne _ _ a1, zj_s_ne _ _ a1, zj_s_ne _ _ a1]) (fun k k1 k2 k3 => ?_) ?_ ?_ (fun k hk => by omega)
  · rw [zj_s_eq, zj_s_eq, zj_s_eq, zz_upd_ne _ _ k3, zz_upd_ne _ _ k2, if_pos ⟨by omega, by omega⟩, show 0 + (k - 0) = k by omega]
  · rw [zj_s_eq, zj_s_eq, zz_upd_ne _ _ (by omega), zz_upd_at, zj_s_ne _ _ (by decide)]
  · rw [zj_s_eq, zz_upd_at]

set_option maxHeartbeats 4000000 in
set_option maxRecDepth 20000 in
theorem m_X8_same {l : Launch} {E : zj_E} {h : zj_H} {g : zj_G} {J C u : Nat} (eJ : h 80 7 = nI J) (hJ : J ≤ 9) (eC : h 80 18 = nI C) (hC : C ≤ 14) (eU : h 80 0 = nI u) (hU : u ≤ 20) (hT : ∀ δ si c b, 0 ≤ zd_t (zθo (zτM h 80 J C u) δ) si c b)  : zj_M l E yX8_same cX8_same 3 (some .int) 8 [.ref (E.2.1 78)] h g (fun v h' g' => v = some (.int (nI (zc_cnt (fun c => decide (zmB h 80 c = (zo_all (zτM h 80 J C u) (zδ0M h)).2.2.2.2.1 c)) C))) ∧ g' = g ∧ zm_same h h' ∧ h' 78 0 = 0) := by
  refine zj_M.of RX8 (by decide) rfl (Nat.le_of_ble_eq_true rfl) ?_
  intro Γ hΓ K Rt
  subst hΓ
  have loop : ∀ (q : zj_H), q 80 = h 80 → zm_same h q → q 78 0 = 0 → (∀ c, c < C → q 82 (61 + c) = (zo_all (zτM h 80 J C u) (zδ0M h)).2.2.2.2.1 c) → ∀ (n i : Nat) (x1 x2 : Int32), C + 1 ≤ i + n → i ≤ C → x1 = nI (zc_cnt (fun c => decide (zmB h 80 c = (zo_all (zτM h 80 J C u) (zδ0M h)).2.2.2.2.1 c)) i) → x2 = nI i → zj_J E Γ 3 13 [(0, .ref (E.2.1 78)), (1, .int x1), (2, .int x2)] [] q g := by
    intro q f80 wq wq0 zs3 n
    have eC2 : q 80 18 = nI C := by rw [f80]; exact eC
    induction n with
    | zero => intro i x1 x2 h1 h2; omega
    | succ n ih =>
      intro i x1 x2 h1 h2 e1 e2
      refine zj_iload_n (i := 2) (pc := 13) K dX8_same_13 rfl rfl ?_
      refine zj_aload_n (i := 0) (pc := 14) K dX8_same_14 rfl rfl ?_
      refine zj_cV0I (pc := 15) K lm_X8_136 hs_M (m_X8_cases) (by decide) rfl (Nat.le_of_ble_eq_true rfl) dX8_same_15 ?_
      refine zj_icmp_ge (tgt := 51) (pc := 18) K dX8_same_18 (by decide) (fun c_18 => ?_) (fun c_18 => ?_)
      · have hi : i = C := Nat.le_antisymm h2 (zz_ge e2 eC2 (by omega) (by omega) c_18)
        refine zj_iload_n (i := 1) (pc := 51) K dX8_same_51 rfl rfl ?_
        exact zj_iret K Rt dX8_same_52 (⟨by rw [e1, hi], rfl, wq, wq0⟩)
      · have hi : i < C := zz_nge e2 eC2 (by omega) (by omega) c_18
        refine zj_aload_n (i := 0) (pc := 21) K dX8_same_21 rfl rfl ?_
        refine zj_getR (pc := 22) K lf_X8_64 hs_M rfl dX8_same_22 ?_
        refine zj_bipush (v := 61) (pc := 25) K dX8_same_25 (by decide) ?_
        refine zj_iload_n (i := 2) (pc := 27) K dX8_same_27 rfl rfl ?_
        refine zj_iadd (pc := 28) K dX8_same_28 ?_
        refine zj_ald (j := 61 + i) (pc := 29) K hs_Mnow (zm_ix rfl e2) (by omega) (by first | decide | omega) dX8_same_29 ?_
        refine zj_aload_n (i := 0) (pc := 30) K dX8_same_30 rfl rfl ?_
        refine zj_getR (pc := 31) K lf_X8_70 hs_M rfl dX8_same_31 ?_
        refine zj_bipush (v := 61) (pc := 34) K dX8_same_34 (by decide) ?_
        refine zj_iload_n (i := 2) (pc := 36) K dX8_same_36 rfl rfl ?_
        refine zj_iadd (pc := 37) K dX8_same_37 ?_
        refine zj_ald (j := 61 + i) (pc := 38) K hs_Mfresh (zm_ix rfl e2) (by omega) (by first | decide | omega) dX8_same_38 ?_
        refine zj_icmp_ne (tgt := 45) (pc := 39) K dX8_same_39 (by decide) (fun c_39 => ?_) (fun c_39 => ?_)
        · rw [f80, zs3 i hi] at c_39
          have hcn : (fun c => decide (zmB h 80 c = (zo_all (zτM h 80 J C u) (zδ0M h)).2.2.2.2.1 c)) i = false := decide_eq_false c_39
          refine zj_iinc (v := 1) (pc := 45) K dX8_same_45 rfl (by decide) rfl rfl rfl ?_
          refine zj_goto (tgt := 13) (pc := 48) K dX8_same_48 (by decide) ?_
          first
          | exact ih (i + 1) _ _ (by omega) (by omega) (zc_cnt_f e1 hcn) (zz_up e2)
          | exact ih (i + 1) _ _ (by omega) (by omega) (zc_cnt_t e1 hcn) (zz_up e2)
        · rw [f80, zs3 i hi] at c_39
          have hcn : (fun c => decide (zmB h 80 c = (zo_all (zτM h 80 J C u) (zδ0M h)).2.2.2.2.1 c)) i = true := decide_eq_true c_39
          refine zj_iinc (v := 1) (pc := 42) K dX8_same_42 rfl (by decide) rfl rfl rfl ?_
          refine zj_iinc (v := 1) (pc := 45) K dX8_same_45 rfl (by decide) rfl rfl rfl ?_
          refine zj_goto (tgt := 13) (pc := 48) K dX8_same_48 (by decide) ?_
          first
          | exact ih (i + 1) _ _ (by omega) (by omega) (zc_cnt_f e1 hcn) (zz_up e2)
          | exact ih (i + 1) _ _ (by omega) (by omega) (zc_cnt_t e1 hcn) (zz_up e2)
  show zj_J E Γ 3 0 [(0, .ref (E.2.1 78))] [] h g
  refine zj_aload_n (i := 0) (pc := 0) K dX8_same_0 rfl rfl ?_
  refine zj_iconst (v := 0) (pc := 1) K dX8_same_1 (by decide) ?_
  refine zj_putI (pc := 2) K lf_X8_1 hs_M rfl dX8_same_2 ?_
  refine zj_hn (fun q0 eq0 => ?_)
  have w0 : ∀ a, a ≠ 78 → q0 a = h a := fun a a1 => by rw [eq0, zj_s_ne _ _ a1]
  have wb : ∀ b, b ≠ 0 → q0 78 b = h 78 b := fun b b1 => by rw [eq0, zj_s_eq, zz_upd_ne _ _ b1]
  have w00 : q0 78 0 = 0 := by rw [eq0, zj_s_eq, zz_upd_at]
  have ws : zm_same h q0 := by rw [eq0]; exact zm_same_0 h 0
  have e80 : q0 80 = h 80 := w0 80 (by decide)
  have eJ0 : q0 80 7 = nI J := by rw [e80]; exact eJ
  have eC0 : q0 80 18 = nI C := by rw [e80]; exact eC
  have eτ : zτM q0 80 J C u = zτM h 80 J C u := zτM_congr e80
  have eδ : zδM q0 80 = zδM h 80 := zδM_congr e80
  clear eq0
  have eU0 : q0 80 0 = nI u := by rw [e80]; exact eU
  have hT0 : ∀ δ si c b, 0 ≤ zd_t (zθo (zτM q0 80 J C u) δ) si c b := by rw [eτ]; exact hT
  refine zj_aload_n (i := 0) (pc := 5) K dX8_same_5 rfl rfl ?_
  refine zj_cV0P (pc := 6) K lm_X8_240 hs_M (m_X8_laysAnew (J := J) (C := C) (u := u) eJ0 hJ eC0 hC eU0 hU hT0) (by decide) rfl (Nat.le_of_ble_eq_true rfl) dX8_same_6 (fun v q g1 hp => ?_)
  obtain ⟨rfl, rfl, ⟨zs1, zs2⟩, zs3⟩ := hp
  rw [eτ, show zδ0M q0 = zδ0M h by unfold zδ0M; rw [e80]] at zs3
  have f80 : q 80 = h 80 := by rw [zs1 80 (by decide) (by decide) (by decide) (by decide)]; exact e80
  have wq : zm_same h q := ws.tr ⟨fun a ha => zs1 a (by omega) (by omega) (by omega) (by omega), zs1 79 (by decide) (by decide) (by decide) (by decide), zs1 80 (by decide) (by decide) (by decide) (by decide), zs1 83 (by decide) (by decide) (by decide) (by decide), zs2 2 (by decide) (by decide) (by decide), zs2 8 (by decide) (by decide) (by decide), zs2 17 (by decide) (by decide) (by decide)⟩
  have wq0 : q 78 0 = 0 := by rw [zs2 0 (by decide) (by decide) (by decide)]; exact w00
  refine zj_iconst (v := 0) (pc := 9) K dX8_same_9 (by decide) ?_
  refine zj_istore_n (i := 1) (pc := 10) K dX8_same_10 rfl rfl rfl rfl ?_
  refine zj_iconst (v := 0) (pc := 11) K dX8_same_11 (by decide) ?_
  refine zj_istore_n (i := 2) (pc := 12) K dX8_same_12 rfl rfl rfl rfl ?_
  exact loop q f80 wq wq0 zs3 (C + 1) 0 _ _ (by omega) (by omega) rfl rfl

set_option maxHeartbeats 4000000 in
set_option maxRecDepth 20000 in
theorem m_X8_anew {l : Launch} {E : zj_E} {h : zj_H} {g : zj_G} {J C u : Nat} (eJ : h 80 7 = nI J) (hJ : J ≤ 9) (eC : h 80 18 = nI C) (hC : C ≤ 14) (eU : h 80 0 = nI u) (hU : u ≤ 20) (hT : ∀ δ si c b, 0 ≤ zd_t (zθo (zτM h 80 J C u) δ) si c b) {x : Int32} : zj_M l E yX8_anew cX8_anew 2 (some .int) 8 [.ref (E.2.1 78), .int x] h g (fun v h' g' => v = some (.int (if zz_in x C = true then (zo_all (zτM h 80 J C u) (zδ0M h)).2.2.2.2.1 x.toNatClampNeg else -1)) ∧ g' = g ∧ zm_same h h' ∧ h' 78 0 = 0) := by
  refine zj_M.of RX8 (by decide) rfl (Nat.le_of_ble_eq_true rfl) ?_
  intro Γ hΓ K Rt
  subst hΓ
  show zj_J E Γ 2 0 [(0, .ref (E.2.1 78)), (1, .int x)] [] h g
  refine zj_aload_n (i := 0) (pc := 0) K dX8_anew_0 rfl rfl ?_
  refine zj_iconst (v := 0) (pc := 1) K dX8_anew_1 (by decide) ?_
  refine zj_putI (pc := 2) K lf_X8_1 hs_M rfl dX8_anew_2 ?_
  refine zj_hn (fun q0 eq0 => ?_)
  have w0 : ∀ a, a ≠ 78 → q0 a = h a := fun a a1 => by rw [eq0, zj_s_ne _ _ a1]
  have wb : ∀ b, b ≠ 0 → q0 78 b = h 78 b := fun b b1 => by rw [eq0, zj_s_eq, zz_upd_ne _ _ b1]
  have w00 : q0 78 0 = 0 := by rw [eq0, zj_s_eq, zz_upd_at]
  have ws : zm_same h q0 := by rw [eq0]; exact zm_same_0 h 0
  have e80 : q0 80 = h 80 := w0 80 (by decide)
  have eJ0 : q0 80 7 = nI J := by rw [e80]; exact eJ
  have eC0 : q0 80 18 = nI C := by rw [e80]; exact eC
  have eτ : zτM q0 80 J C u = zτM h 80 J C u := zτM_congr e80
  have eδ : zδM q0 80 = zδM h 80 := zδM_congr e80
  clear eq0
  have eU0 : q0 80 0 = nI u := by rw [e80]; exact eU
  have hT0 : ∀ δ si c b, 0 ≤ zd_t (zθo (zτM q0 80 J C u) δ) si c b := by rw [eτ]; exact hT
  refine zj_aload_n (i := 0) (pc := 5) K dX8_anew_5 rfl rfl ?_
  refine zj_iload_n (i := 1) (pc := 6) K dX8_anew_6 rfl rfl ?_
  refine zj_cV1I (pc := 7) K lm_X8_164 hs_M (m_X8_isCase eC0 (by omega)) (by decide) rfl (Nat.le_of_ble_eq_true rfl) dX8_anew_7 ?_
  refine zj_if_ne (tgt := 15) (pc := 10) K dX8_anew_10 (by decide) (fun c_10 => ?_) (fun c_10 => ?_)
  · replace c_10 := zz_n0.mp c_10
    obtain ⟨c, hc, ei⟩ := zz_in_ex c_10 (by omega)
    refine zj_aload_n (i := 0) (pc := 15) K dX8_anew_15 rfl rfl ?_
    refine zj_cV0P (pc := 16) K lm_X8_240 hs_M (m_X8_laysAnew (J := J) (C := C) (u := u) eJ0 hJ eC0 hC eU0 hU hT0) (by decide) rfl (Nat.le_of_ble_eq_true rfl) dX8_anew_16 (fun v q g1 hp => ?_)
    obtain ⟨rfl, rfl, ⟨zs1, zs2⟩, zs3⟩ := hp
    rw [eτ, show zδ0M q0 = zδ0M h by unfold zδ0M; rw [e80]] at zs3
    have f80 : q 80 = h 80 := by rw [zs1 80 (by decide) (by decide) (by decide) (by decide)]; exact e80
    have wq : zm_same h q := ws.tr ⟨fun a ha => zs1 a (by omega) (by omega) (by omega) (by omega), zs1 79 (by decide) (by decide) (by decide) (by decide), zs1 80 (by decide) (by decide) (by decide) (by decide), zs1 83 (by decide) (by decide) (by decide) (by decide), zs2 2 (by decide) (by decide) (by decide), zs2 8 (by decide) (by decide) (by decide), zs2 17 (by decide) (by decide) (by decide)⟩
    have wq0 : q 78 0 = 0 := by rw [zs2 0 (by decide) (by decide) (by decide)]; exact w00
    refine zj_aload_n (i := 0) (pc := 19) K dX8_anew_19 rfl rfl ?_
    refine zj_getR (pc := 20) K lf_X8_70 hs_M rfl dX8_anew_20 ?_
    refine zj_bipush (v := 61) (pc := 23) K dX8_anew_23 (by decide) ?_
    refine zj_iload_n (i := 1) (pc := 25) K dX8_anew_25 rfl rfl ?_
    refine zj_iadd (pc := 26) K dX8_anew_26 ?_
    refine zj_ald (j := 61 + c) (pc := 27) K hs_Mfresh (zm_ix rfl ei) (by omega) (by first | decide | omega) dX8_anew_27 ?_
    exact zj_iret K Rt dX8_anew_28 (⟨by rw [zz_ift c_10, zs3 c hc, ei, nI_clamp (by omega)], rfl, wq, wq0⟩)
  · replace c_10 := zz_i0.mp c_10
    refine zj_iconst (v := -1) (pc := 13) K dX8_anew_13 (by decide) ?_
    exact zj_iret K Rt dX8_anew_14 (⟨by rw [zz_iff c_10], rfl, ws, w00⟩)

set_option maxHeartbeats 4000000 in
set_option maxRecDepth 20000 in
theorem m_X8_undo {l : Launch} {E : zj_E} {h : zj_H} {g : zj_G} {J C u : Nat} (eJ : h 80 7 = nI J) (hJ : J ≤ 9) (eC : h 80 18 = nI C) (hC : C ≤ 14) {ct : Nat} (ec : h 78 17 = nI ct) (hct : ct ≤ 10)  : zj_M l E yX8_undo cX8_undo 1 (some .int) 1 [.ref (E.2.1 78)] h g (fun v h' g' => g' = g ∧ zm_fr h h' ∧ if ct = 0 then v = some (.int (-1)) ∧ zm_stay h h' else v = some (.int (nI (ct - 1))) ∧ h' 78 17 = nI (ct - 1) ∧ h' 83 = h 83 ∧ ∀ i, i < 89 → h' 80 i = h 83 (89 * (ct - 1) + i)) := by
  refine zj_M.of RX8 (by decide) rfl (Nat.le_of_ble_eq_true rfl) ?_
  intro Γ hΓ K Rt
  subst hΓ
  show zj_J E Γ 1 0 [(0, .ref (E.2.1 78))] [] h g
  refine zj_aload_n (i := 0) (pc := 0) K dX8_undo_0 rfl rfl ?_
  refine zj_iconst (v := 0) (pc := 1) K dX8_undo_1 (by decide) ?_
  refine zj_putI (pc := 2) K lf_X8_1 hs_M rfl dX8_undo_2 ?_
  refine zj_hn (fun q0 eq0 => ?_)
  have w0 : ∀ a, a ≠ 78 → q0 a = h a := fun a a1 => by rw [eq0, zj_s_ne _ _ a1]
  have wb : ∀ b, b ≠ 0 → q0 78 b = h 78 b := fun b b1 => by rw [eq0, zj_s_eq, zz_upd_ne _ _ b1]
  have w00 : q0 78 0 = 0 := by rw [eq0, zj_s_eq, zz_upd_at]
  have ws : zm_same h q0 := by rw [eq0]; exact zm_same_0 h 0
  have e80 : q0 80 = h 80 := w0 80 (by decide)
  have eJ0 : q0 80 7 = nI J := by rw [e80]; exact eJ
  have eC0 : q0 80 18 = nI C := by rw [e80]; exact eC
  have eτ : zτM q0 80 J C u = zτM h 80 J C u := zτM_congr e80
  have eδ : zδM q0 80 = zδM h 80 := zδM_congr e80
  clear eq0
  refine zj_aload_n (i := 0) (pc := 5) K dX8_undo_5 rfl rfl ?_
  refine zj_getI (pc := 6) K lf_X8_129 hs_M rfl dX8_undo_6 ?_
  refine zj_if_ne (tgt := 14) (pc := 9) K dX8_undo_9 (by decide) (fun c_9 => ?_) (fun c_9 => ?_)
  · have h0 : ¬ ct = 0 := fun e => c_9 (by rw [wb 17 (by decide), ec, e]; rfl)
    refine zj_aload_n (i := 0) (pc := 14) K dX8_undo_14 rfl rfl ?_
    refine zj_dup (pc := 15) K dX8_undo_15 rfl ?_
    refine zj_getI (pc := 16) K lf_X8_129 hs_M rfl dX8_undo_16 ?_
    refine zj_iconst (v := 1) (pc := 19) K dX8_undo_19 (by decide) ?_
    refine zj_isub (pc := 20) K dX8_undo_20 ?_
    refine zj_putI (pc := 21) K lf_X8_129 hs_M rfl dX8_undo_21 ?_
    refine zj_hn (fun q1 eq1 => ?_)
    have x1 : ∀ a, a ≠ 78 → q1 a = h a := fun a a1 => by rw [eq1, zj_s_ne _ _ a1]; exact w0 a a1
    have xb : ∀ b, b ≠ 17 → q1 78 b = q0 78 b := fun b b1 => by rw [eq1, zj_s_eq, zz_upd_ne _ _ b1]
    have x17 : q1 78 17 = nI (ct - 1) := by rw [eq1, zj_s_eq, zz_upd_at, wb 17 (by decide), ec, show nI ct = nI ((ct - 1) + 1) by rw [show ct - 1 + 1 = ct by omega], nI_pred]
    clear eq1
    refine zj_aload_n (i := 0) (pc := 24) K dX8_undo_24 rfl rfl ?_
    refine zj_getR (pc := 25) K lf_X8_73 hs_M rfl dX8_undo_25 ?_
    refine zj_bipush (v := 89) (pc := 28) K dX8_undo_28 (by decide) ?_
    refine zj_aload_n (i := 0) (pc := 30) K dX8_undo_30 rfl rfl ?_
    refine zj_getI (pc := 31) K lf_X8_129 hs_M rfl dX8_undo_31 ?_
    refine zj_imul (pc := 34) K dX8_undo_34 ?_
    refine zj_aload_n (i := 0) (pc := 35) K dX8_undo_35 rfl rfl ?_
    refine zj_getR (pc := 36) K lf_X8_64 hs_M rfl dX8_undo_36 ?_
    refine zj_iconst (v := 0) (pc := 39) K dX8_undo_39 (by decide) ?_
    refine zj_cS4W (pc := 40) K lm_X8_125 (m_X8_copy (n := 890) (m := 89) hs_Msnaps hs_Mnow (by decide) (by decide) (by decide) (st0 := 89 * (ct - 1)) (at0 := 0) (by rw [x17]; exact zm_mul89 _) rfl (by omega) (by decide)) (by decide) rfl (Nat.le_of_ble_eq_true rfl) dX8_undo_40 ?_
    refine zj_aload_n (i := 0) (pc := 43) K dX8_undo_43 rfl rfl ?_
    refine zj_getI (pc := 44) K lf_X8_129 hs_M rfl dX8_undo_44 ?_
    exact zj_iret K Rt dX8_undo_47 (by
      refine ⟨rfl, ⟨fun a ha => by rw [zj_s_ne _ _ (by omega)]; exact x1 a (by omega), by rw [zj_s_ne _ _ (by decide)]; exact x1 79 (by decide), by rw [zj_s_ne _ _ (by decide), xb 2 (by decide)]; exact wb 2 (by decide), by rw [zj_s_ne _ _ (by decide), xb 8 (by decide)]; exact wb 8 (by decide), by rw [zj_s_ne _ _ (by decide), xb 0 (by decide)]; exact w00⟩, ?_⟩
      rw [if_neg h0]
      refine ⟨by rw [zj_s_ne _ _ (by decide), x17], by rw [zj_s_ne _ _ (by decide), x17], by rw [zj_s_ne _ _ (by decide)]; exact x1 83 (by decide), fun i hi => ?_⟩
      rw [zj_s_eq, if_pos ⟨by omega, by omega⟩, x1 83 (by decide), show 89 * (ct - 1) + (i - 0) = 89 * (ct - 1) + i by omega])
  · have h0 : ct = 0 := by
      rw [wb 17 (by decide), ec] at c_9
      exact (nI_eq (b := 0) (by omega) (by omega)).mp c_9
    refine zj_iconst (v := -1) (pc := 12) K dX8_undo_12 (by decide) ?_
    exact zj_iret K Rt dX8_undo_13 (⟨rfl, (zm_same_fr ws w00).1, by rw [if_pos h0]; exact ⟨rfl, (zm_same_fr ws w00).2⟩⟩)
