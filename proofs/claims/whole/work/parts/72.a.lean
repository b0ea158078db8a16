theorem zx_no6 {w : Int32} (h0 : ¬ w = 0) (h1 : ¬ w = 1) (h2 : ¬ w = 2) (h3 : ¬ w = 3) (h4 : ¬ w = 4) (h5 : ¬ w = 5) : zz_in w 6 = false := by
  cases hz : zz_in w 6 with
  | false => rfl
  | true =>
    obtain ⟨k, hk, e⟩ := zz_in_ex hz (by decide)
    rcases (show k = 0 ∨ k = 1 ∨ k = 2 ∨ k = 3 ∨ k = 4 ∨ k = 5 by omega) with rfl | rfl | rfl | rfl | rfl | rfl
    · exact absurd e h0
    · exact absurd e h1
    · exact absurd e h2
    · exact absurd e h3
    · exact absurd e h4
    · exact absurd e h5
theorem zx_no5 {w : Int32} (h0 : ¬ w = 0) (h1 : ¬ w = 1) (h2 : ¬ w = 2) (h3 : ¬ w = 3) (h4 : ¬ w = 4) : zz_in w 5 = false := by
  cases hz : zz_in w 5 with
  | false => rfl
  | true =>
    obtain ⟨k, hk, e⟩ := zz_in_ex hz (by decide)
    rcases (show k = 0 ∨ k = 1 ∨ k = 2 ∨ k = 3 ∨ k = 4 by omega) with rfl | rfl | rfl | rfl | rfl
    · exact absurd e h0
    · exact absurd e h1
    · exact absurd e h2
    · exact absurd e h3
    · exact absurd e h4
theorem zx_yes {a b : Bool} (h1 : a = true) (h2 : b = true) : (a && b) = true := by rw [h1, h2]; rfl
set_option maxHeartbeats 4000000 in
set_option maxRecDepth 20000 in
theorem m_X7_judge {l : Launch} {E : zj_E} {h : zj_H} {g : zj_G} {J C u : Nat} (eJ : h 8 6 = nI J) (hJ : J ≤ 9) (eC : h 8 7 = nI C) (hC : C ≤ 14) {x w : Int32} (hlt : l.stackTraces = false) : zj_MX l E yX7_judge cX7_judge 3 (some .int) 6 [.ref (E.2.1 0), .int x, .int w] h g (fun v h' g' => (zz_in x J && zz_in w 6) = true ∧ v = some (.int (zq_jud (zτC h J C u) (zδC h 13) x.toNatClampNeg w)) ∧ g' = g ∧ zk_q h h') ((zz_in x J && zz_in w 6) = false) := by
  refine zj_MX.of RX7 (by decide) rfl (Nat.le_of_ble_eq_true rfl) ?_
  intro Γ hΓ K Rt
  subst hΓ
  show zj_J E Γ 3 0 [(0, .ref (E.2.1 0)), (1, .int x), (2, .int w)] [] h g
  refine zj_aload_n (i := 0) (pc := 0) K dX7_judge_0 rfl rfl ?_
  refine zj_getR (pc := 1) K lf_X7_28 hs_B rfl dX7_judge_1 ?_
  refine zj_iload_n (i := 1) (pc := 4) K dX7_judge_4 rfl rfl ?_
  refine zj_cV1I (pc := 5) K lm_X7_113 hs_D (m_X6_hasJudge (Or.inr rfl) eJ (by omega)) (by decide) rfl (Nat.le_of_ble_eq_true rfl) dX7_judge_5 ?_
  refine zj_if_ne (tgt := 21) (pc := 8) K dX7_judge_8 (by decide) (fun c_8 => ?_) (fun c_8 => ?_)
  · replace c_8 := zz_n0.mp c_8
    obtain ⟨j, hj, ej⟩ := zz_in_ex c_8 (by omega)
    have hcl : x.toNatClampNeg = j := by rw [ej]; exact nI_clamp (by omega)
    refine zj_iload_n (i := 2) (pc := 21) K dX7_judge_21 rfl rfl ?_
    by_cases s_0 : w = 0
    · refine zj_tableIn (off := 38) (tgt := 60) K dX7_judge_22 (by rw [s_0]; decide) (by rw [s_0]; decide) (by rw [s_0]; rfl) (by decide) ?_
      refine zj_aload_n (i := 0) (pc := 60) K dX7_judge_60 rfl rfl ?_
      refine zj_getR (pc := 61) K lf_X7_28 hs_B rfl dX7_judge_61 ?_
      refine zj_getR (pc := 64) K lf_X7_124 hs_D rfl dX7_judge_64 ?_
      refine zj_iload_n (i := 1) (pc := 67) K dX7_judge_67 rfl rfl ?_
      refine zj_ald (j := j) (pc := 68) K hs_Ds ej (by omega) (by first | decide | omega) dX7_judge_68 ?_
      exact zj_iretX K Rt dX7_judge_69 (⟨zx_yes c_8 (by rw [s_0]; decide +kernel), by rw [hcl, zq_jud, if_pos s_0]; rfl, rfl, fun _ _ _ _ _ _ _ => rfl⟩)
    by_cases s_1 : w = 1
    · refine zj_tableIn (off := 48) (tgt := 70) K dX7_judge_22 (by rw [s_1]; decide) (by rw [s_1]; decide) (by rw [s_1]; rfl) (by decide) ?_
      refine zj_aload_n (i := 0) (pc := 70) K dX7_judge_70 rfl rfl ?_
      refine zj_getR (pc := 71) K lf_X7_37 hs_B rfl dX7_judge_71 ?_
      refine zj_getR (pc := 74) K lf_X7_97 hs_C rfl dX7_judge_74 ?_
      refine zj_getI (pc := 77) K lf_X7_128 hs_Cd rfl dX7_judge_77 ?_
      refine zj_iload_n (i := 1) (pc := 80) K dX7_judge_80 rfl rfl ?_
      refine zj_cS2I (pc := 81) K lm_X7_131 (m_X7_has ej (by omega)) (by decide) rfl (Nat.le_of_ble_eq_true rfl) dX7_judge_81 ?_
      refine zj_if_eq (tgt := 91) (pc := 84) K dX7_judge_84 (by decide) (fun c_84 => ?_) (fun c_84 => ?_)
      · replace c_84 := zz_i0.mp c_84
        refine zj_iconst (v := 0) (pc := 91) K dX7_judge_91 (by decide) ?_
        exact zj_iretX K Rt dX7_judge_92 (⟨zx_yes c_8 (by rw [s_1]; decide +kernel), by rw [hcl, zq_jud, if_neg s_0, if_pos s_1]; show some (Value.int _) = some (Value.int (zz_i (bt (h 13 1) j))); rw [c_84]; rfl, rfl, fun _ _ _ _ _ _ _ => rfl⟩)
      · replace c_84 := zz_n0.mp c_84
        refine zj_iconst (v := 1) (pc := 87) K dX7_judge_87 (by decide) ?_
        refine zj_goto (tgt := 92) (pc := 88) K dX7_judge_88 (by decide) ?_
        exact zj_iretX K Rt dX7_judge_92 (⟨zx_yes c_8 (by rw [s_1]; decide +kernel), by rw [hcl, zq_jud, if_neg s_0, if_pos s_1]; show some (Value.int _) = some (Value.int (zz_i (bt (h 13 1) j))); rw [c_84]; rfl, rfl, fun _ _ _ _ _ _ _ => rfl⟩)
    by_cases s_2 : w = 2
    · refine zj_tableIn (off := 71) (tgt := 93) K dX7_judge_22 (by rw [s_2]; decide) (by rw [s_2]; decide) (by rw [s_2]; rfl) (by decide) ?_
      refine zj_aload_n (i := 0) (pc := 93) K dX7_judge_93 rfl rfl ?_
      refine zj_getR (pc := 94) K lf_X7_37 hs_B rfl dX7_judge_94 ?_
      refine zj_iconst (v := -1) (pc := 97) K dX7_judge_97 (by decide) ?_
      refine zj_cV1P (pc := 98) K lm_X7_135 hs_C (m_X0_countBenches (k := 12) (Or.inl rfl) eJ hJ eC hC) (by decide) rfl (Nat.le_of_ble_eq_true rfl) dX7_judge_98 (fun v1 h1 g1 hp1 => ?_)
      obtain ⟨rfl, rfl, z1, z2, z3⟩ := hp1
      refine zj_aload_n (i := 0) (pc := 101) K dX7_judge_101 rfl rfl ?_
      refine zj_getR (pc := 102) K lf_X7_37 hs_B rfl dX7_judge_102 ?_
      refine zj_getR (pc := 105) K lf_X7_138 hs_C rfl dX7_judge_105 ?_
      refine zj_iload_n (i := 1) (pc := 108) K dX7_judge_108 rfl rfl ?_
      refine zj_ald (j := j) (pc := 109) K hs_Cl ej (by omega) (by first | decide | omega) dX7_judge_109 ?_
      exact zj_iretX K Rt dX7_judge_110 (⟨zx_yes c_8 (by rw [s_2]; decide +kernel), by rw [hcl, zq_jud, if_neg s_0, if_neg s_1, if_pos s_2]; show some (Value.int (h1 19 j)) = _; rw [show h1 19 = _ from z2, zb_Ln_val hj, if_pos (show j < 9 by omega)]; simp; rfl, rfl, fun a _ _ a3 a4 _ _ => z1 a a3 a4⟩)
    by_cases s_3 : w = 3
    · refine zj_tableIn (off := 89) (tgt := 111) K dX7_judge_22 (by rw [s_3]; decide) (by rw [s_3]; decide) (by rw [s_3]; rfl) (by decide) ?_
      refine zj_aload_n (i := 0) (pc := 111) K dX7_judge_111 rfl rfl ?_
      refine zj_getR (pc := 112) K lf_X7_37 hs_B rfl dX7_judge_112 ?_
      refine zj_iload_n (i := 1) (pc := 115) K dX7_judge_115 rfl rfl ?_
      refine zj_cV1I (pc := 116) K lm_X7_141 hs_C (m_X0_benchesOf (k := 12) (Or.inl rfl) eC hC ej (by omega)) (by decide) rfl (Nat.le_of_ble_eq_true rfl) dX7_judge_116 ?_
      exact zj_iretX K Rt dX7_judge_119 (⟨zx_yes c_8 (by rw [s_3]; decide +kernel), by rw [hcl, zq_jud, if_neg s_0, if_neg s_1, if_neg s_2, if_pos s_3]; rfl, rfl, fun _ _ _ _ _ _ _ => rfl⟩)
    by_cases s_4 : w = 4
    · refine zj_tableIn (off := 98) (tgt := 120) K dX7_judge_22 (by rw [s_4]; decide) (by rw [s_4]; decide) (by rw [s_4]; rfl) (by decide) ?_
      refine zj_aload_n (i := 0) (pc := 120) K dX7_judge_120 rfl rfl ?_
      refine zj_getR (pc := 121) K lf_X7_37 hs_B rfl dX7_judge_121 ?_
      refine zj_iload_n (i := 1) (pc := 124) K dX7_judge_124 rfl rfl ?_
      refine zj_cV1I (pc := 125) K lm_X7_144 hs_C (m_X0_benchesLedBy (k := 12) (Or.inl rfl) eC hC eJ hJ) (by decide) rfl (Nat.le_of_ble_eq_true rfl) dX7_judge_125 ?_
      exact zj_iretX K Rt dX7_judge_128 (⟨zx_yes c_8 (by rw [s_4]; decide +kernel), by rw [hcl, zq_jud, if_neg s_0, if_neg s_1, if_neg s_2, if_neg s_3, if_pos s_4]; show some (Value.int (nI (zc_cnt (fun c => decide (zc_opt (zc_pre (h 9) (h 15 c) J) = x)) C))) = _; rw [ej]; rfl, rfl, fun _ _ _ _ _ _ _ => rfl⟩)
    by_cases s_5 : w = 5
    · refine zj_tableIn (off := 107) (tgt := 129) K dX7_judge_22 (by rw [s_5]; decide) (by rw [s_5]; decide) (by rw [s_5]; rfl) (by decide) ?_
      refine zj_aload_n (i := 0) (pc := 129) K dX7_judge_129 rfl rfl ?_
      refine zj_getR (pc := 130) K lf_X7_37 hs_B rfl dX7_judge_130 ?_
      refine zj_iload_n (i := 1) (pc := 133) K dX7_judge_133 rfl rfl ?_
      refine zj_cV1I (pc := 134) K lm_X7_147 hs_C (m_X0_casesBarredTo (k := 12) (Or.inl rfl) eC hC ej (by omega)) (by decide) rfl (Nat.le_of_ble_eq_true rfl) dX7_judge_134 ?_
      exact zj_iretX K Rt dX7_judge_137 (⟨zx_yes c_8 (by rw [s_5]; decide +kernel), by rw [hcl, zq_jud, if_neg s_0, if_neg s_1, if_neg s_2, if_neg s_3, if_neg s_4]; rfl, rfl, fun _ _ _ _ _ _ _ => rfl⟩)
    refine zj_tableOut (tgt := 138) K dX7_judge_22 (zz_out (n := 5) (by decide) (fun k hk => by
      rcases (show k = 0 ∨ k = 1 ∨ k = 2 ∨ k = 3 ∨ k = 4 ∨ k = 5 by omega) with rfl | rfl | rfl | rfl | rfl | rfl
      · exact s_0
      · exact s_1
      · exact s_2
      · exact s_3
      · exact s_4
      · exact s_5)) (by decide) ?_
    exact zj_throw (is := 150) (tx := "nothing such is told of a judge") (pc := 138) K Rt (by rw [zx_no6 s_0 s_1 s_2 s_3 s_4 s_5, Bool.and_false]) hlt (by decide) (by decide) dX7_judge_138 dX7_judge_141 dX7_judge_142 dX7_judge_144 dX7_judge_147
  · replace c_8 := zz_i0.mp c_8
    exact zj_throw (is := 119) (tx := "no such judge") (pc := 11) K Rt (by rw [c_8]; rfl) hlt (by decide) (by decide) dX7_judge_11 dX7_judge_14 dX7_judge_15 dX7_judge_17 dX7_judge_20

set_option maxHeartbeats 4000000 in
set_option maxRecDepth 20000 in
theorem m_X7_of {l : Launch} {E : zj_E} {h : zj_H} {g : zj_G} {J C u : Nat} (eJ : h 8 6 = nI J) (hJ : J ≤ 9) (eC : h 8 7 = nI C) (hC : C ≤ 14) {x w : Int32} (hlt : l.stackTraces = false) : zj_MX l E yX7_of cX7_of 3 (some .int) 6 [.ref (E.2.1 0), .int x, .int w] h g (fun v h' g' => (zz_in x C && zz_in w 5) = true ∧ v = some (.int (zq_of (zτC h J C u) (zδC h 13) x.toNatClampNeg w)) ∧ g' = g ∧ zk_q h h') ((zz_in x C && zz_in w 5) = false) := by
  refine zj_MX.of RX7 (by decide) rfl (Nat.le_of_ble_eq_true rfl) ?_
  intro Γ hΓ K Rt
  subst hΓ
  show zj_J E Γ 3 0 [(0, .ref (E.2.1 0)), (1, .int x), (2, .int w)] [] h g
  refine zj_aload_n (i := 0) (pc := 0) K dX7_of_0 rfl rfl ?_
  refine zj_getR (pc := 1) K lf_X7_28 hs_B rfl dX7_of_1 ?_
  refine zj_iload_n (i := 1) (pc := 4) K dX7_of_4 rfl rfl ?_
  refine zj_cV1I (pc := 5) K lm_X7_152 hs_D (m_X6_hasCase (Or.inr rfl) eC (by omega)) (by decide) rfl (Nat.le_of_ble_eq_true rfl) dX7_of_5 ?_
  refine zj_if_ne (tgt := 21) (pc := 8) K dX7_of_8 (by decide) (fun c_8 => ?_) (fun c_8 => ?_)
  · replace c_8 := zz_n0.mp c_8
    obtain ⟨j, hj, ej⟩ := zz_in_ex c_8 (by omega)
    have hcl : x.toNatClampNeg = j := by rw [ej]; exact nI_clamp (by omega)
    refine zj_iload_n (i := 2) (pc := 21) K dX7_of_21 rfl rfl ?_
    by_cases s_0 : w = 0
    · refine zj_tableIn (off := 34) (tgt := 56) K dX7_of_22 (by rw [s_0]; decide) (by rw [s_0]; decide) (by rw [s_0]; rfl) (by decide) ?_
      refine zj_aload_n (i := 0) (pc := 56) K dX7_of_56 rfl rfl ?_
      refine zj_getR (pc := 57) K lf_X7_28 hs_B rfl dX7_of_57 ?_
      refine zj_getR (pc := 60) K lf_X7_157 hs_D rfl dX7_of_60 ?_
      refine zj_iload_n (i := 1) (pc := 63) K dX7_of_63 rfl rfl ?_
      refine zj_ald (j := j) (pc := 64) K hs_Dw ej (by omega) (by first | decide | omega) dX7_of_64 ?_
      exact zj_iretX K Rt dX7_of_65 (⟨zx_yes c_8 (by rw [s_0]; decide +kernel), by rw [hcl, zq_of, if_pos s_0]; rfl, rfl, fun _ _ _ _ _ _ _ => rfl⟩)
    by_cases s_1 : w = 1
    · refine zj_tableIn (off := 44) (tgt := 66) K dX7_of_22 (by rw [s_1]; decide) (by rw [s_1]; decide) (by rw [s_1]; rfl) (by decide) ?_
      refine zj_aload_n (i := 0) (pc := 66) K dX7_of_66 rfl rfl ?_
      refine zj_getR (pc := 67) K lf_X7_37 hs_B rfl dX7_of_67 ?_
      refine zj_getR (pc := 70) K lf_X7_97 hs_C rfl dX7_of_70 ?_
      refine zj_getR (pc := 73) K lf_X7_160 hs_Cd rfl dX7_of_73 ?_
      refine zj_iload_n (i := 1) (pc := 76) K dX7_of_76 rfl rfl ?_
      refine zj_ald (j := j) (pc := 77) K hs_Cb ej (by omega) (by first | decide | omega) dX7_of_77 ?_
      exact zj_iretX K Rt dX7_of_78 (⟨zx_yes c_8 (by rw [s_1]; decide +kernel), by rw [hcl, zq_of, if_neg s_0, if_pos s_1]; rfl, rfl, fun _ _ _ _ _ _ _ => rfl⟩)
    by_cases s_2 : w = 2
    · refine zj_tableIn (off := 57) (tgt := 79) K dX7_of_22 (by rw [s_2]; decide) (by rw [s_2]; decide) (by rw [s_2]; rfl) (by decide) ?_
      refine zj_aload_n (i := 0) (pc := 79) K dX7_of_79 rfl rfl ?_
      refine zj_getR (pc := 80) K lf_X7_37 hs_B rfl dX7_of_80 ?_
      refine zj_getR (pc := 83) K lf_X7_97 hs_C rfl dX7_of_83 ?_
      refine zj_getR (pc := 86) K lf_X7_163 hs_Cd rfl dX7_of_86 ?_
      refine zj_iload_n (i := 1) (pc := 89) K dX7_of_89 rfl rfl ?_
      refine zj_ald (j := j) (pc := 90) K hs_Cs ej (by omega) (by first | decide | omega) dX7_of_90 ?_
      exact zj_iretX K Rt dX7_of_91 (⟨zx_yes c_8 (by rw [s_2]; decide +kernel), by rw [hcl, zq_of, if_neg s_0, if_neg s_1, if_pos s_2]; rfl, rfl, fun _ _ _ _ _ _ _ => rfl⟩)
    by_cases s_3 : w = 3
    · refine zj_tableIn (off := 70) (tgt := 92) K dX7_of_22 (by rw [s_3]; decide) (by rw [s_3]; decide) (by rw [s_3]; rfl) (by decide) ?_
      refine zj_aload_n (i := 0) (pc := 92) K dX7_of_92 rfl rfl ?_
      refine zj_getR (pc := 93) K lf_X7_37 hs_B rfl dX7_of_93 ?_
      refine zj_getR (pc := 96) K lf_X7_97 hs_C rfl dX7_of_96 ?_
      refine zj_getR (pc := 99) K lf_X7_166 hs_Cd rfl dX7_of_99 ?_
      refine zj_iload_n (i := 1) (pc := 102) K dX7_of_102 rfl rfl ?_
      refine zj_ald (j := j) (pc := 103) K hs_Ci ej (by omega) (by first | decide | omega) dX7_of_103 ?_
      exact zj_iretX K Rt dX7_of_104 (⟨zx_yes c_8 (by rw [s_3]; decide +kernel), by rw [hcl, zq_of, if_neg s_0, if_neg s_1, if_neg s_2, if_pos s_3]; rfl, rfl, fun _ _ _ _ _ _ _ => rfl⟩)
    by_cases s_4 : w = 4
    · refine zj_tableIn (off := 83) (tgt := 105) K dX7_of_22 (by rw [s_4]; decide) (by rw [s_4]; decide) (by rw [s_4]; rfl) (by decide) ?_
      refine zj_aload_n (i := 0) (pc := 105) K dX7_of_105 rfl rfl ?_
      refine zj_getR (pc := 106) K lf_X7_28 hs_B rfl dX7_of_106 ?_
      refine zj_aload_n (i := 0) (pc := 109) K dX7_of_109 rfl rfl ?_
      refine zj_getR (pc := 110) K lf_X7_37 hs_B rfl dX7_of_110 ?_
      refine zj_getR (pc := 113) K lf_X7_97 hs_C rfl dX7_of_113 ?_
      refine zj_getR (pc := 116) K lf_X7_166 hs_Cd rfl dX7_of_116 ?_
      refine zj_iload_n (i := 1) (pc := 119) K dX7_of_119 rfl rfl ?_
      refine zj_ald (j := j) (pc := 120) K hs_Ci ej (by omega) (by first | decide | omega) dX7_of_120 ?_
      refine zj_cV1I (pc := 121) K lm_X7_169 hs_D (m_X6_presiding (t := 8) (Or.inr rfl) eJ hJ) (by decide) rfl (Nat.le_of_ble_eq_true rfl) dX7_of_121 ?_
      exact zj_iretX K Rt dX7_of_124 (⟨zx_yes c_8 (by rw [s_4]; decide +kernel), by rw [hcl, zq_of, if_neg s_0, if_neg s_1, if_neg s_2, if_neg s_3]; rfl, rfl, fun _ _ _ _ _ _ _ => rfl⟩)
    refine zj_tableOut (tgt := 125) K dX7_of_22 (zz_out (n := 4) (by decide) (fun k hk => by
      rcases (show k = 0 ∨ k = 1 ∨ k = 2 ∨ k = 3 ∨ k = 4 by omega) with rfl | rfl | rfl | rfl | rfl
      · exact s_0
      · exact s_1
      · exact s_2
      · exact s_3
      · exact s_4)) (by decide) ?_
    exact zj_throw (is := 172) (tx := "nothing such is told of a case") (pc := 125) K Rt (by rw [zx_no5 s_0 s_1 s_2 s_3 s_4, Bool.and_false]) hlt (by decide) (by decide) dX7_of_125 dX7_of_128 dX7_of_129 dX7_of_131 dX7_of_134
  · replace c_8 := zz_i0.mp c_8
    exact zj_throw (is := 155) (tx := "no such case") (pc := 11) K Rt (by rw [c_8]; rfl) hlt (by decide) (by decide) dX7_of_11 dX7_of_14 dX7_of_15 dX7_of_17 dX7_of_20
