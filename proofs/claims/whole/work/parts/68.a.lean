section ZV6
variable {E : zj_E} {Γ : zj_Γ} {cc : ByteArray} {nL d pc : Nat} {own : String} {L : List (Nat × Value)} {S : List Value} {h : zj_H} {g : zj_G}
theorem zj_cV6I (K : zj_C E Γ cc nL own d) {i ci index dd mL n : Nat} {fs : List (Nat ⊕ Bool)} {v1 v2 v3 v4 v5 v6 : Value} {y : MethodName} {b : ByteArray} {ret : Option FieldType} {r : Int32} {h1 : zj_H} {g1 : zj_G} (hlk : zj_vl own index ci y b mL ret n) (hs : zj_at i (.inl (ci, fs))) (hM : zj_M Γ.2.1 E y b mL ret dd (.ref (E.2.1 i) :: [v1, v2, v3, v4, v5, v6]) h g (zj_pI r h1 g1)) (hdd : dd + 1 ≤ d) (hn : 6 = n) (hcat : (S.map fun v => v.category).sum ≤ 8) (hdg : decode cc pc = .ok (.invokevirtual index, 3)) (kk : zj_J E Γ nL (pc + 3) L (.int r :: S) h1 g1) : zj_J E Γ nL pc L (v6 :: v5 :: v4 :: v3 :: v2 :: v1 :: .ref (E.2.1 i) :: S) h g :=
  zj_callV (As := [v1, v2, v3, v4, v5, v6]) K hlk hs hM hdd hn hcat hdg (fun v h' g' hp => by obtain ⟨rfl, rfl, rfl⟩ := hp; exact kk)
end ZV6
set_option maxHeartbeats 4000000 in
set_option maxRecDepth 20000 in
theorem m_X8_readCase {l : Launch} {E : zj_E} {h : zj_H} {g : zj_G} {n : Nat} {t : Nat → Int32} (et : h 79 = t) (eL : h 78 3 = nI n) (hn : n ≤ 540) {q : zuK} {w : zuW} (hq : zv_q h g t n q) (hw : ∀ i, i < 89 → h 81 i = w i) (hjc : zu_jc w) (hK2 : q.1 = 2) : zj_M l E yX8_readCase cX8_readCase 2 (some .boolean) 3 [.ref (E.2.1 78)] h g (zv_P h g t n (zu_case (zw_T t n) (zu_is t) q w)) := by
  refine zj_M.of RX8 (by decide) rfl (Nat.le_of_ble_eq_true rfl) ?_
  intro Γ hΓ K Rt
  subst hΓ
  obtain ⟨q5, q4, q6, q7, q2, q8⟩ := id hq
  have ht := zu_tk_1 q8
  obtain ⟨J, C, hJ, hCC, eJ, eC, hw6, hwz⟩ := hjc
  have fin : ∀ (x1 : Int32) (k : zj_H) (g1 : zj_G) (q1 : zuK) (w1 : zuW), x1 = nI C → C < 14 → zv_fr h k → zv_fg g g1 → k 78 8 = h 78 8 → zv_q k g1 t n q1 → (∀ i, i < 89 → k 81 i = w1 i) → zu_case (zw_T t n) (zu_is t) q w = zu_set 18 (fun w => w 18 + 1) (zu_set (47 + C) (fun u => u (33 + C)) (.inr (q1, w1))) → zj_J E Γ 2 146 [(0, .ref (E.2.1 78)), (1, .int x1)] [] k g1 := by
    intro x1 k g1 q1 w1 e1 hC14 zfr zfg z8 zq zw hr
    first
    | skip
      refine zj_aload_n (i := 0) (pc := 146) K dX8_readCase_146 rfl rfl ?_
      refine zj_getR (pc := 147) K lf_X8_67 hs_M rfl dX8_readCase_147 ?_
      refine zj_bipush (v := 47) (pc := 150) K dX8_readCase_150 (by decide) ?_
      refine zj_iload_n (i := 1) (pc := 152) K dX8_readCase_152 rfl rfl ?_
      refine zj_iadd (pc := 153) K dX8_readCase_153 ?_
      refine zj_aload_n (i := 0) (pc := 154) K dX8_readCase_154 rfl rfl ?_
      refine zj_getR (pc := 155) K lf_X8_67 hs_M rfl dX8_readCase_155 ?_
      refine zj_bipush (v := 33) (pc := 158) K dX8_readCase_158 (by decide) ?_
      refine zj_iload_n (i := 1) (pc := 160) K dX8_readCase_160 rfl rfl ?_
      refine zj_iadd (pc := 161) K dX8_readCase_161 ?_
      refine zj_ald (j := 33 + C) (pc := 162) K hs_Mread (zm_ix rfl e1) (by omega) (by first | decide | omega) dX8_readCase_162 ?_
      refine zj_ast (j := 47 + C) (pc := 163) K hs_Mread (zm_ix rfl e1) (by omega) (by first | decide | omega) dX8_readCase_163 ?_
      refine zj_aload_n (i := 0) (pc := 164) K dX8_readCase_164 rfl rfl ?_
      refine zj_getR (pc := 165) K lf_X8_67 hs_M rfl dX8_readCase_165 ?_
      refine zj_bipush (v := 18) (pc := 168) K dX8_readCase_168 (by decide) ?_
      refine zj_dup2 (pc := 170) K dX8_readCase_170 rfl rfl ?_
      refine zj_ald (j := 18) (pc := 171) K hs_Mread rfl (by decide) (by first | decide | omega) dX8_readCase_171 ?_
      refine zj_iconst (v := 1) (pc := 172) K dX8_readCase_172 (by decide) ?_
      refine zj_iadd (pc := 173) K dX8_readCase_173 ?_
      refine zj_ast (j := 18) (pc := 174) K hs_Mread rfl (by decide) (by first | decide | omega) dX8_readCase_174 ?_
      refine zj_iconst (v := 1) (pc := 175) K dX8_readCase_175 (by decide) ?_
      exact zj_zret K Rt dX8_readCase_176 (by decide) (by
        refine ⟨⟨fun a a1 a2 => (zj_s_ne _ _ a2).trans ((zj_s_ne _ _ a2).trans (zfr.1 a a1 a2)), fun b b1 => zfr.2 b b1⟩, zfg, ?_⟩
        rw [hr]
        refine ⟨rfl, z8, zv_q_c (fun b _ => rfl) zq, fun i hi => ?_⟩
        have zw2 : ∀ i, i < 89 → zj_s k 81 (upd (k 81) (47 + C) (k 81 (33 + C))) 81 i = upd w1 (47 + C) (w1 (33 + C)) i := fun i hi => by
          rw [zj_s_eq]; exact zv_w_upd zw (zw (33 + C) (by omega)) i hi
        rw [zj_s_eq]
        exact zv_w_upd zw2 (by rw [zw2 18 (by decide)]) i hi)
  have lp : ∀ (f : Nat) (x1 : Int32) (k : zj_H) (g1 : zj_G) (q1 : zuK) (w1 : zuW), x1 = nI C → C < 14 → w1 7 = nI J → zu_free (w1 (33 + C)) < f → zv_fr h k → zv_fg g g1 → k 78 8 = h 78 8 → zv_q k g1 t n q1 → (∀ i, i < 89 → k 81 i = w1 i) → zu_case (zw_T t n) (zu_is t) q w = zu_set 18 (fun w => w 18 + 1) (zu_set (47 + C) (fun u => u (33 + C)) (zu_bars (zw_T t n) C f q1 w1)) → zj_J E Γ 2 74 [(0, .ref (E.2.1 78)), (1, .int x1)] [] k g1 := by
    intro f
    induction f with
    | zero => intro x1 k g1 q1 w1 e1 hC14 ej h2; omega
    | succ f ih =>
      intro x1 k g1 q1 w1 e1 hC14 ej hfr2 zfr zfg z8 zq zw hr
      obtain ⟨y5, y4, y6, y7, y2, y8⟩ := id zq
      have hty := zu_tk_1 y8
      have etk : k 79 = t := (zfr.1 79 (by decide) (by decide)).trans et
      have eLk : k 78 3 = nI n := (zfr.2 3 (by decide)).trans eL
      refine zj_aload_n (i := 0) (pc := 74) K dX8_readCase_74 rfl rfl ?_
      refine zj_getI (pc := 75) K lf_X8_27 hs_M rfl dX8_readCase_75 ?_
      refine zj_iconst (v := 3) (pc := 78) K dX8_readCase_78 (by decide) ?_
      refine zj_icmp_ne (tgt := 146) (pc := 79) K dX8_readCase_79 (by decide) (fun c_79 => ?_) (fun c_79 => ?_)
      · have hK3 : ¬ q1.1 = 3 := fun z => c_79 ((zv_sort zq (c := 3) (by decide) (by decide)).mpr z)
        rw [zu_bars_n hK3] at hr
        exact fin _ _ _ q1 w1 e1 hC14 zfr zfg z8 zq zw hr
      · have hK3 : q1.1 = 3 := (zv_sort zq (c := 3) (by decide) (by decide)).mp c_79
        have ev := y7 hK3
        obtain ⟨j, hj, ejv⟩ := zu_tk_3 y8 hK3
        rw [ejv] at ev
        refine zj_aload_n (i := 0) (pc := 82) K dX8_readCase_82 rfl rfl ?_
        refine zj_getI (pc := 83) K lf_X8_41 hs_M rfl dX8_readCase_83 ?_
        refine zj_aload_n (i := 0) (pc := 86) K dX8_readCase_86 rfl rfl ?_
        refine zj_getR (pc := 87) K lf_X8_67 hs_M rfl dX8_readCase_87 ?_
        refine zj_bipush (v := 7) (pc := 90) K dX8_readCase_90 (by decide) ?_
        refine zj_ald (j := 7) (pc := 92) K hs_Mread rfl (by decide) (by first | decide | omega) dX8_readCase_92 ?_
        refine zj_icmp_ge (tgt := 115) (pc := 93) K dX8_readCase_93 (by decide) (fun c_93 => ?_) (fun c_93 => ?_)
        · have h4 := zu_bars_4 (T := zw_T t n) (c := C) (f := f) hK3 ejv hj ej hJ (fun z => by
            rw [zw 7 (by decide), ej, ev] at c_93
            have := (nI_leI (by omega) (by omega)).mp c_93
            omega)
          refine zj_aload_n (i := 0) (pc := 115) K dX8_readCase_115 rfl rfl ?_
          refine zj_iconst (v := 4) (pc := 116) K dX8_readCase_116 (by decide) ?_
          refine zj_cV1P (pc := 117) K lm_X8_88 hs_M (m_X8_bad) (by decide) rfl (Nat.le_of_ble_eq_true rfl) dX8_readCase_117 (fun vb hb gb hpb => ?_)
          obtain ⟨rfl, rfl, bb1, bb2⟩ := hpb
          exact zj_zret K Rt dX8_readCase_120 (zz_01 _) (by
            rw [h4] at hr
            have hb2 := zv_bad (g := gb) (t := t) (n := n) bb1 bb2 zfr y5 (zv_oth zq (by decide) (by decide) hK3 (k := 4) rfl)
            exact ⟨hb2.1, zfg, by rw [hr]; exact hb2.2⟩)
        · have hjJ : j < J := Nat.lt_of_not_le (fun z => c_93 (by rw [zw 7 (by decide), ej, ev]; exact (nI_leI (by omega) (by omega)).mpr z))
          refine zj_aload_n (i := 0) (pc := 96) K dX8_readCase_96 rfl rfl ?_
          refine zj_getR (pc := 97) K lf_X8_67 hs_M rfl dX8_readCase_97 ?_
          refine zj_bipush (v := 33) (pc := 100) K dX8_readCase_100 (by decide) ?_
          refine zj_iload_n (i := 1) (pc := 102) K dX8_readCase_102 rfl rfl ?_
          refine zj_iadd (pc := 103) K dX8_readCase_103 ?_
          refine zj_ald (j := 33 + C) (pc := 104) K hs_Mread (zm_ix rfl e1) (by omega) (by first | decide | omega) dX8_readCase_104 ?_
          refine zj_aload_n (i := 0) (pc := 105) K dX8_readCase_105 rfl rfl ?_
          refine zj_getI (pc := 106) K lf_X8_41 hs_M rfl dX8_readCase_106 ?_
          refine zj_cS2I (pc := 109) K lm_X8_105 (m_X8_has (j := j) ev (by omega)) (by decide) rfl (Nat.le_of_ble_eq_true rfl) dX8_readCase_109 ?_
          refine zj_if_eq (tgt := 121) (pc := 112) K dX8_readCase_112 (by decide) (fun c_112 => ?_) (fun c_112 => ?_)
          · replace c_112 := zz_i0.mp c_112
            rw [zw (33 + C) (by omega)] at c_112
            refine zj_aload_n (i := 0) (pc := 121) K dX8_readCase_121 rfl rfl ?_
            refine zj_getR (pc := 122) K lf_X8_67 hs_M rfl dX8_readCase_122 ?_
            refine zj_bipush (v := 33) (pc := 125) K dX8_readCase_125 (by decide) ?_
            refine zj_iload_n (i := 1) (pc := 127) K dX8_readCase_127 rfl rfl ?_
            refine zj_iadd (pc := 128) K dX8_readCase_128 ?_
            refine zj_dup2 (pc := 129) K dX8_readCase_129 rfl rfl ?_
            refine zj_ald (j := 33 + C) (pc := 130) K hs_Mread (zm_ix rfl e1) (by omega) (by first | decide | omega) dX8_readCase_130 ?_
            refine zj_iconst (v := 1) (pc := 131) K dX8_readCase_131 (by decide) ?_
            refine zj_aload_n (i := 0) (pc := 132) K dX8_readCase_132 rfl rfl ?_
            refine zj_getI (pc := 133) K lf_X8_41 hs_M rfl dX8_readCase_133 ?_
            refine zj_ishl (pc := 136) K dX8_readCase_136 ?_
            refine zj_ior (pc := 137) K dX8_readCase_137 ?_
            refine zj_ast (j := 33 + C) (pc := 138) K hs_Mread (zm_ix rfl e1) (by omega) (by first | decide | omega) dX8_readCase_138 ?_
            refine zj_aload_n (i := 0) (pc := 139) K dX8_readCase_139 rfl rfl ?_
            refine zj_cV0P (pc := 140) K lm_X8_95 hs_M (m_X8_go (n := n) (a := q1.2.2.1) eLk hn y4 hty.2.2) (by decide) rfl (Nat.le_of_ble_eq_true rfl) dX8_readCase_140 (fun v6 h6 g6 hp6 => ?_)
            obtain ⟨rfl, m6, o6, fr6, fg6, nq6⟩ := zv_goP (h := zj_s k 81 (upd (k 81) (33 + C) (k 81 (33 + C) ||| (1 : Int32) <<< (k 78 7 &&& 31)))) (t := t) etk hty.2.2 hp6
            refine zj_goto (tgt := 74) (pc := 143) K dX8_readCase_143 (by decide) ?_
            have ebit : (1 : Int32) <<< (k 78 7 &&& 31) = zz_bit j := by rw [ev]; rfl
            have ebar : bt (w1 (33 + C)) j = false := c_112
            rw [zu_bars_s hK3 ejv hjJ ej hJ ebar] at hr
            refine ih _ _ _ _ _ e1 hC14 ?_ ?_ ⟨fun a a1 a2 => (m6 a a1).trans ((zj_s_ne _ _ a2).trans (zfr.1 a a1 a2)), fun b b1 => (o6 b (by omega)).trans (zfr.2 b b1)⟩ (zfg.tr fg6) ((o6 8 (by decide)).trans z8) nq6 (fun i hi => ?_) hr
            · rw [zz_upd_ne _ _ (by omega)]; exact ej
            · rw [zz_upd_at]
              have := zu_free_lt (b := w1 (33 + C)) (j := j) (by omega) ebar
              omega
            · rw [m6 81 (by decide), zj_s_eq]
              exact zv_w_upd zw (by rw [ebit, zw (33 + C) (by omega)]) i hi
          · replace c_112 := zz_n0.mp c_112
            rw [zw (33 + C) (by omega)] at c_112
            have h4 := zu_bars_4 (T := zw_T t n) (c := C) (f := f) hK3 ejv hj ej hJ (fun z => by
              rw [c_112] at z
              exact absurd z.2 (by decide))
            refine zj_aload_n (i := 0) (pc := 115) K dX8_readCase_115 rfl rfl ?_
            refine zj_iconst (v := 4) (pc := 116) K dX8_readCase_116 (by decide) ?_
            refine zj_cV1P (pc := 117) K lm_X8_88 hs_M (m_X8_bad) (by decide) rfl (Nat.le_of_ble_eq_true rfl) dX8_readCase_117 (fun vb hb gb hpb => ?_)
            obtain ⟨rfl, rfl, bb1, bb2⟩ := hpb
            exact zj_zret K Rt dX8_readCase_120 (zz_01 _) (by
              rw [h4] at hr
              have hb2 := zv_bad (g := gb) (t := t) (n := n) bb1 bb2 zfr y5 (zv_oth zq (by decide) (by decide) hK3 (k := 4) rfl)
              exact ⟨hb2.1, zfg, by rw [hr]; exact hb2.2⟩)
  show zj_J E Γ 2 0 [(0, .ref (E.2.1 78))] [] h g
  refine zj_aload_n (i := 0) (pc := 0) K dX8_readCase_0 rfl rfl ?_
  refine zj_getR (pc := 1) K lf_X8_67 hs_M rfl dX8_readCase_1 ?_
  refine zj_bipush (v := 18) (pc := 4) K dX8_readCase_4 (by decide) ?_
  refine zj_ald (j := 18) (pc := 6) K hs_Mread rfl (by decide) (by first | decide | omega) dX8_readCase_6 ?_
  refine zj_istore_n (i := 1) (pc := 7) K dX8_readCase_7 rfl rfl rfl rfl ?_
  have ec1 : h 81 18 = nI C := (hw 18 (by decide)).trans eC
  refine zj_iload_n (i := 1) (pc := 8) K dX8_readCase_8 rfl rfl ?_
  refine zj_bipush (v := 14) (pc := 9) K dX8_readCase_9 (by decide) ?_
  refine zj_icmp_ne (tgt := 20) (pc := 11) K dX8_readCase_11 (by decide) (fun c_11 => ?_) (fun c_11 => ?_)
  · rw [hw 18 (by decide)] at c_11
    have hC14 : C < 14 := Nat.lt_of_le_of_ne hCC (fun z => c_11 (by rw [eC, z]; rfl))
    have hr : zu_case (zw_T t n) (zu_is t) q w = zu_set 18 (fun w => w 18 + 1) (zu_set (47 + C) (fun u => u (33 + C)) (zu_not (zw_T t n) (zu_is t) C (zu_num (zw_T t n) 1 9 (19 + C) (.inr (zw_T t n q.2.2.1, w))))) := by
      unfold zu_case
      rw [if_neg c_11, eC, nI_clamp (by omega)]; rfl
    refine zj_aload_n (i := 0) (pc := 20) K dX8_readCase_20 rfl rfl ?_
    refine zj_cV0P (pc := 21) K lm_X8_95 hs_M (m_X8_go (n := n) (a := q.2.2.1) eL hn q4 ht.2.2) (by decide) rfl (Nat.le_of_ble_eq_true rfl) dX8_readCase_21 (fun v0 h0 g0 hp0 => ?_)
    obtain ⟨rfl, m0, o0, fr0, fg0, nq0⟩ := zv_goP (h := h) (t := t) et ht.2.2 hp0
    have wn0 : ∀ i, i < 89 → h0 81 i = w i := fun i hi => by rw [m0 81 (by decide)]; exact hw i hi
    refine zj_aload_n (i := 0) (pc := 24) K dX8_readCase_24 rfl rfl ?_
    refine zj_bipush (v := 19) (pc := 25) K dX8_readCase_25 (by decide) ?_
    refine zj_iload_n (i := 1) (pc := 27) K dX8_readCase_27 rfl rfl ?_
    refine zj_iadd (pc := 28) K dX8_readCase_28 ?_
    refine zj_iconst (v := 1) (pc := 29) K dX8_readCase_29 (by decide) ?_
    refine zj_bipush (v := 9) (pc := 30) K dX8_readCase_30 (by decide) ?_
    refine zj_cV3P (pc := 32) K lm_X8_98 hs_M (m_X8_told (n := n) (t := t) ((fr0.1 79 (by decide) (by decide)).trans et) ((fr0.2 3 (by decide)).trans eL) hn nq0 wn0 (k := 19 + C) (zm_ix rfl ec1) (by omega)) (by decide) rfl (Nat.le_of_ble_eq_true rfl) dX8_readCase_32 (fun v1 h1 g1 hp1 => ?_)
    obtain ⟨fr1, fg1, hR1⟩ := hp1
    obtain ⟨b1, rfl, hf1, ht1⟩ := zv_R_b hR1
    refine zj_if_ne (tgt := 40) (pc := 35) K dX8_readCase_35 (by decide) (fun c_35 => ?_) (fun c_35 => ?_)
    · replace c_35 := zz_n0.mp c_35
      obtain ⟨qe1, we1, hz1, e81, qn1, wn1⟩ := ht1 c_35
      have frA := fr0.tr fr1
      have fgA := fg0.tr fg1
      have e8A := e81.trans (o0 8 (by decide))
      obtain ⟨xq, xw, xx, hxx, _, hwe, _, _⟩ := zu_num_inr hz1
      cases hxx
      rw [hz1] at hr
      have eJ1 : we1 7 = nI J := by rw [hwe, zz_upd_ne _ _ (by omega)]; exact eJ
      refine zj_aload_n (i := 0) (pc := 40) K dX8_readCase_40 rfl rfl ?_
      refine zj_bipush (v := 110) (pc := 41) K dX8_readCase_41 (by decide) ?_
      refine zj_bipush (v := 111) (pc := 43) K dX8_readCase_43 (by decide) ?_
      refine zj_bipush (v := 116) (pc := 45) K dX8_readCase_45 (by decide) ?_
      refine zj_iconst (v := 0) (pc := 47) K dX8_readCase_47 (by decide) ?_
      refine zj_iconst (v := 0) (pc := 48) K dX8_readCase_48 (by decide) ?_
      refine zj_iconst (v := 0) (pc := 49) K dX8_readCase_49 (by decide) ?_
      refine zj_cV6I (pc := 50) K lm_X8_101 hs_M (m_X8_is) (by decide) rfl (Nat.le_of_ble_eq_true rfl) dX8_readCase_50 ?_
      refine zj_if_eq (tgt := 146) (pc := 53) K dX8_readCase_53 (by decide) (fun c_53 => ?_) (fun c_53 => ?_)
      · replace c_53 := zz_i0.mp c_53
        rw [zv_is qn1 (i := 4) (by decide) zv_wd4] at c_53
        have hr8 : zu_not (zw_T t n) (zu_is t) C (.inr (qe1, we1)) = .inr (qe1, we1) := if_neg (by rw [c_53]; decide)
        rw [hr8] at hr
        exact fin _ _ _ qe1 we1 ec1 hC14 frA fgA e8A qn1 wn1 hr
      · replace c_53 := zz_n0.mp c_53
        rw [zv_is qn1 (i := 4) (by decide) zv_wd4] at c_53
        have hr8 : zu_not (zw_T t n) (zu_is t) C (.inr (qe1, we1)) = zu_bar1 (zw_T t n) C (zw_T t n qe1.2.2.1) we1 := if_pos c_53
        rw [hr8] at hr
        refine zj_aload_n (i := 0) (pc := 56) K dX8_readCase_56 rfl rfl ?_
        refine zj_cV0P (pc := 57) K lm_X8_95 hs_M (m_X8_go (n := n) (a := qe1.2.2.1) ((frA.2 3 (by decide)).trans eL) hn qn1.2.1 (zu_tk_1 qn1.2.2.2.2.2).2.2) (by decide) rfl (Nat.le_of_ble_eq_true rfl) dX8_readCase_57 (fun v5 h5 g5 hp5 => ?_)
        obtain ⟨rfl, m5, o5, fr5, fg5, nq5⟩ := zv_goP (h := h1) (t := t) ((frA.1 79 (by decide) (by decide)).trans et) (zu_tk_1 qn1.2.2.2.2.2).2.2 hp5
        refine zj_aload_n (i := 0) (pc := 60) K dX8_readCase_60 rfl rfl ?_
        refine zj_getI (pc := 61) K lf_X8_27 hs_M rfl dX8_readCase_61 ?_
        refine zj_iconst (v := 3) (pc := 64) K dX8_readCase_64 (by decide) ?_
        refine zj_icmp_eq (tgt := 74) (pc := 65) K dX8_readCase_65 (by decide) (fun c_65 => ?_) (fun c_65 => ?_)
        · have hK5 : (zw_T t n qe1.2.2.1).1 = 3 := (zv_sort nq5 (c := 3) (by decide) (by decide)).mp c_65
          have hr9 : zu_bar1 (zw_T t n) C (zw_T t n qe1.2.2.1) we1 = zu_bars (zw_T t n) C 10 (zw_T t n qe1.2.2.1) we1 := if_pos hK5
          rw [hr9] at hr
          exact lp 10 _ _ _ _ we1 ec1 hC14 eJ1 (Nat.lt_of_le_of_lt (zu_free_le _) (by decide)) (frA.tr fr5) (fgA.tr fg5) ((o5 8 (by decide)).trans e8A) nq5 (fun i hi => by rw [m5 81 (by decide)]; exact wn1 i hi) hr
        · have hK5 : ¬ (zw_T t n qe1.2.2.1).1 = 3 := fun z => c_65 ((zv_sort nq5 (c := 3) (by decide) (by decide)).mpr z)
          have hr9 : zu_bar1 (zw_T t n) C (zw_T t n qe1.2.2.1) we1 = .inl (1, (zw_T t n qe1.2.2.1).2.1) := if_neg hK5
          rw [hr9] at hr
          refine zj_aload_n (i := 0) (pc := 68) K dX8_readCase_68 rfl rfl ?_
          refine zj_iconst (v := 1) (pc := 69) K dX8_readCase_69 (by decide) ?_
          refine zj_cV1P (pc := 70) K lm_X8_88 hs_M (m_X8_bad) (by decide) rfl (Nat.le_of_ble_eq_true rfl) dX8_readCase_70 (fun vb hb gb hpb => ?_)
          obtain ⟨rfl, rfl, bb1, bb2⟩ := hpb
          exact zj_zret K Rt dX8_readCase_73 (zz_01 _) (by
            have hb2 := zv_bad (g := gb) (t := t) (n := n) bb1 bb2 (frA.tr fr5) nq5.1 zv_one
            exact ⟨hb2.1, fgA.tr fg5, by rw [hr]; exact hb2.2⟩)
    · replace c_35 := zz_i0.mp c_35
      obtain ⟨kf, pf, hz1, y1, y2⟩ := hf1 c_35
      rw [hz1] at hr
      refine zj_iconst (v := 0) (pc := 38) K dX8_readCase_38 (by decide) ?_
      exact zj_zret K Rt dX8_readCase_39 (by decide) (⟨fr0.tr fr1, fg0.tr fg1, by rw [hr]; exact ⟨rfl, y1, y2⟩⟩)
  · rw [hw 18 (by decide)] at c_11
    have hr : zu_case (zw_T t n) (zu_is t) q w = .inl (3, q.2.1) := if_pos c_11
    refine zj_aload_n (i := 0) (pc := 14) K dX8_readCase_14 rfl rfl ?_
    refine zj_iconst (v := 3) (pc := 15) K dX8_readCase_15 (by decide) ?_
    refine zj_cV1P (pc := 16) K lm_X8_88 hs_M (m_X8_bad) (by decide) rfl (Nat.le_of_ble_eq_true rfl) dX8_readCase_16 (fun vb hb gb hpb => ?_)
    obtain ⟨rfl, rfl, bb1, bb2⟩ := hpb
    exact zj_zret K Rt dX8_readCase_19 (zz_01 _) (by
      have hb2 := zv_bad (g := gb) (t := t) (n := n) bb1 bb2 ⟨fun _ _ _ => rfl, fun _ _ => rfl⟩ q5 (zv_oth hq (by decide) (by decide) hK2 (k := 3) rfl)
      exact ⟨hb2.1, fun _ _ _ => rfl, by rw [hr]; exact hb2.2⟩)

set_option maxHeartbeats 4000000 in
set_option maxRecDepth 20000 in
theorem m_X8_readLine {l : Launch} {E : zj_E} {h : zj_H} {g : zj_G} {n : Nat} {t : Nat → Int32} (et : h 79 = t) (eL : h 78 3 = nI n) (hn : n ≤ 540) {q : zuK} {w : zuW} (hq : zv_q h g t n q) (hw : ∀ i, i < 89 → h 81 i = w i) (hjc : zu_jc w) : zj_M l E yX8_readLine cX8_readLine 1 (some .boolean) 4 [.ref (E.2.1 78)] h g (zv_P h g t n (zu_line (zw_T t n) (zu_is t) q w)) := by
  refine zj_M.of RX8 (by decide) rfl (Nat.le_of_ble_eq_true rfl) ?_
  intro Γ hΓ K Rt
  subst hΓ
  obtain ⟨q5, q4, q6, q7, q2, q8⟩ := id hq
  have ht := zu_tk_1 q8
  show zj_J E Γ 1 0 [(0, .ref (E.2.1 78))] [] h g
  refine zj_aload_n (i := 0) (pc := 0) K dX8_readLine_0 rfl rfl ?_
  refine zj_getR (pc := 1) K lf_X8_67 hs_M rfl dX8_readLine_1 ?_
  refine zj_iconst (v := 0) (pc := 4) K dX8_readLine_4 (by decide) ?_
  refine zj_ald (j := 0) (pc := 5) K hs_Mread rfl (by decide) (by first | decide | omega) dX8_readLine_5 ?_
  refine zj_if_ne (tgt := 40) (pc := 6) K dX8_readLine_6 (by decide) (fun c_6 => ?_) (fun c_6 => ?_)
  · rw [hw 0 (by decide)] at c_6
    have hw0 : ¬ w 0 = 0 := c_6
    refine zj_aload_n (i := 0) (pc := 40) K dX8_readLine_40 rfl rfl ?_
    refine zj_bipush (v := 106) (pc := 41) K dX8_readLine_41 (by decide) ?_
    refine zj_bipush (v := 117) (pc := 43) K dX8_readLine_43 (by decide) ?_
    refine zj_bipush (v := 100) (pc := 45) K dX8_readLine_45 (by decide) ?_
    refine zj_bipush (v := 103) (pc := 47) K dX8_readLine_47 (by decide) ?_
    refine zj_bipush (v := 101) (pc := 49) K dX8_readLine_49 (by decide) ?_
    refine zj_iconst (v := 0) (pc := 51) K dX8_readLine_51 (by decide) ?_
    refine zj_cV6I (pc := 52) K lm_X8_101 hs_M (m_X8_is) (by decide) rfl (Nat.le_of_ble_eq_true rfl) dX8_readLine_52 ?_
    refine zj_if_eq (tgt := 63) (pc := 55) K dX8_readLine_55 (by decide) (fun c_55 => ?_) (fun c_55 => ?_)
    · replace c_55 := zz_i0.mp c_55
      rw [zv_is hq (i := 1) (by decide) zv_wd1] at c_55
      refine zj_aload_n (i := 0) (pc := 63) K dX8_readLine_63 rfl rfl ?_
      refine zj_bipush (v := 99) (pc := 64) K dX8_readLine_64 (by decide) ?_
      refine zj_bipush (v := 97) (pc := 66) K dX8_readLine_66 (by decide) ?_
      refine zj_bipush (v := 115) (pc := 68) K dX8_readLine_68 (by decide) ?_
      refine zj_bipush (v := 101) (pc := 70) K dX8_readLine_70 (by decide) ?_
      refine zj_iconst (v := 0) (pc := 72) K dX8_readLine_72 (by decide) ?_
      refine zj_iconst (v := 0) (pc := 73) K dX8_readLine_73 (by decide) ?_
      refine zj_cV6I (pc := 74) K lm_X8_101 hs_M (m_X8_is) (by decide) rfl (Nat.le_of_ble_eq_true rfl) dX8_readLine_74 ?_
      refine zj_if_eq (tgt := 85) (pc := 77) K dX8_readLine_77 (by decide) (fun c_77 => ?_) (fun c_77 => ?_)
      · replace c_77 := zz_i0.mp c_77
        rw [zv_is hq (i := 3) (by decide) zv_wd3] at c_77
        refine zj_aload_n (i := 0) (pc := 85) K dX8_readLine_85 rfl rfl ?_
        refine zj_bipush (v := 115) (pc := 86) K dX8_readLine_86 (by decide) ?_
        refine zj_bipush (v := 101) (pc := 88) K dX8_readLine_88 (by decide) ?_
        refine zj_bipush (v := 110) (pc := 90) K dX8_readLine_90 (by decide) ?_
        refine zj_bipush (v := 105) (pc := 92) K dX8_readLine_92 (by decide) ?_
        refine zj_bipush (v := 111) (pc := 94) K dX8_readLine_94 (by decide) ?_
        refine zj_bipush (v := 114) (pc := 96) K dX8_readLine_96 (by decide) ?_
        refine zj_cV6I (pc := 98) K lm_X8_101 hs_M (m_X8_is) (by decide) rfl (Nat.le_of_ble_eq_true rfl) dX8_readLine_98 ?_
        refine zj_if_ne (tgt := 110) (pc := 101) K dX8_readLine_101 (by decide) (fun c_101 => ?_) (fun c_101 => ?_)
        · replace c_101 := zz_n0.mp c_101
          rw [zv_is hq (i := 2) (by decide) zv_wd2] at c_101
          have hr0 : zu_line (zw_T t n) (zu_is t) q w = zu_senior (zw_T t n) q w := (if_neg hw0).trans ((if_neg (by rw [c_55]; decide)).trans ((if_neg (by rw [c_77]; decide)).trans (if_pos c_101)))
          refine zj_aload_n (i := 0) (pc := 110) K dX8_readLine_110 rfl rfl ?_
          refine zj_getR (pc := 111) K lf_X8_67 hs_M rfl dX8_readLine_111 ?_
          refine zj_bipush (v := 6) (pc := 114) K dX8_readLine_114 (by decide) ?_
          refine zj_ald (j := 6) (pc := 116) K hs_Mread rfl (by decide) (by first | decide | omega) dX8_readLine_116 ?_
          refine zj_if_le (tgt := 126) (pc := 117) K dX8_readLine_117 (by decide) (fun c_117 => ?_) (fun c_117 => ?_)
          · rw [hw 6 (by decide)] at c_117
            have hr : zu_line (zw_T t n) (zu_is t) q w = zu_num (zw_T t n) 1 99 6 (.inr (zw_T t n q.2.2.1, w)) := hr0.trans (if_neg (Int32.not_lt.mpr c_117))
            refine zj_aload_n (i := 0) (pc := 126) K dX8_readLine_126 rfl rfl ?_
            refine zj_cV0P (pc := 127) K lm_X8_95 hs_M (m_X8_go (n := n) (a := q.2.2.1) eL hn q4 ht.2.2) (by decide) rfl (Nat.le_of_ble_eq_true rfl) dX8_readLine_127 (fun v0 h0 g0 hp0 => ?_)
            obtain ⟨rfl, m0, o0, fr0, fg0, nq0⟩ := zv_goP (h := h) (t := t) et ht.2.2 hp0
            have wn0 : ∀ i, i < 89 → h0 81 i = w i := fun i hi => by rw [m0 81 (by decide)]; exact hw i hi
            refine zj_aload_n (i := 0) (pc := 130) K dX8_readLine_130 rfl rfl ?_
            refine zj_bipush (v := 6) (pc := 131) K dX8_readLine_131 (by decide) ?_
            refine zj_iconst (v := 1) (pc := 133) K dX8_readLine_133 (by decide) ?_
            refine zj_bipush (v := 99) (pc := 134) K dX8_readLine_134 (by decide) ?_
            refine zj_cV3P (pc := 136) K lm_X8_98 hs_M (m_X8_told (n := n) (t := t) ((fr0.1 79 (by decide) (by decide)).trans et) ((fr0.2 3 (by decide)).trans eL) hn nq0 wn0 (k := 6) rfl (by decide)) (by decide) rfl (Nat.le_of_ble_eq_true rfl) dX8_readLine_136 (fun v1 h1 g1 hp1 => ?_)
            obtain ⟨fr1, fg1, hR1⟩ := hp1
            obtain ⟨b1, rfl, hf1, ht1⟩ := zv_R_b hR1
            exact zj_zret K Rt dX8_readLine_139 (zz_01 _) (⟨fr0.tr fr1, fg0.tr fg1, by rw [hr]; exact zv_R_tr (o0 8 (by decide)) hR1⟩)
          · rw [hw 6 (by decide)] at c_117
            have hr : zu_line (zw_T t n) (zu_is t) q w = .inl (3, q.2.1) := hr0.trans (if_pos (Int32.not_le.mp c_117))
            refine zj_aload_n (i := 0) (pc := 120) K dX8_readLine_120 rfl rfl ?_
            refine zj_iconst (v := 3) (pc := 121) K dX8_readLine_121 (by decide) ?_
            refine zj_cV1P (pc := 122) K lm_X8_88 hs_M (m_X8_bad) (by decide) rfl (Nat.le_of_ble_eq_true rfl) dX8_readLine_122 (fun vb hb gb hpb => ?_)
            obtain ⟨rfl, rfl, bb1, bb2⟩ := hpb
            exact zj_zret K Rt dX8_readLine_125 (zz_01 _) (by
              have hb2 := zv_bad (g := gb) (t := t) (n := n) bb1 bb2 ⟨fun _ _ _ => rfl, fun _ _ => rfl⟩ q5 (zv_oth hq (by decide) (by decide) (zu_is_t.mp c_101).1 (k := 3) rfl)
              exact ⟨hb2.1, fun _ _ _ => rfl, by rw [hr]; exact hb2.2⟩)
        · replace c_101 := zz_i0.mp c_101
          rw [zv_is hq (i := 2) (by decide) zv_wd2] at c_101
          have hr : zu_line (zw_T t n) (zu_is t) q w = .inl (1, q.2.1) := (if_neg hw0).trans ((if_neg (by rw [c_55]; decide)).trans ((if_neg (by rw [c_77]; decide)).trans (if_neg (by rw [c_101]; decide))))
          refine zj_aload_n (i := 0) (pc := 104) K dX8_readLine_104 rfl rfl ?_
          refine zj_iconst (v := 1) (pc := 105) K dX8_readLine_105 (by decide) ?_
          refine zj_cV1P (pc := 106) K lm_X8_88 hs_M (m_X8_bad) (by decide) rfl (Nat.le_of_ble_eq_true rfl) dX8_readLine_106 (fun vb hb gb hpb => ?_)
          obtain ⟨rfl, rfl, bb1, bb2⟩ := hpb
          exact zj_zret K Rt dX8_readLine_109 (zz_01 _) (by
            have hb2 := zv_bad (g := gb) (t := t) (n := n) bb1 bb2 ⟨fun _ _ _ => rfl, fun _ _ => rfl⟩ q5 zv_one
            exact ⟨hb2.1, fun _ _ _ => rfl, by rw [hr]; exact hb2.2⟩)
      · replace c_77 := zz_n0.mp c_77
        rw [zv_is hq (i := 3) (by decide) zv_wd3] at c_77
        have hr : zu_line (zw_T t n) (zu_is t) q w = zu_case (zw_T t n) (zu_is t) q w := (if_neg hw0).trans ((if_neg (by rw [c_55]; decide)).trans (if_pos c_77))
        refine zj_aload_n (i := 0) (pc := 80) K dX8_readLine_80 rfl rfl ?_
        refine zj_cV0P (pc := 81) K lm_X8_116 hs_M (m_X8_readCase (n := n) (t := t) et eL hn hq hw hjc (zu_is_t.mp c_77).1) (by decide) rfl (Nat.le_of_ble_eq_true rfl) dX8_readLine_81 (fun v2 h2 g2 hp2 => ?_)
        obtain ⟨fr2, fg2, hR2⟩ := hp2
        obtain ⟨b2, rfl, _, _⟩ := zv_R_b hR2
        exact zj_zret K Rt dX8_readLine_84 (zz_01 _) (⟨fr2, fg2, by rw [hr]; exact hR2⟩)
    · replace c_55 := zz_n0.mp c_55
      rw [zv_is hq (i := 1) (by decide) zv_wd1] at c_55
      have hr : zu_line (zw_T t n) (zu_is t) q w = zu_judge (zw_T t n) q w := (if_neg hw0).trans (if_pos c_55)
      refine zj_aload_n (i := 0) (pc := 58) K dX8_readLine_58 rfl rfl ?_
      refine zj_cV0P (pc := 59) K lm_X8_113 hs_M (m_X8_readJudge (n := n) (t := t) et eL hn hq hw hjc (zu_is_t.mp c_55).1) (by decide) rfl (Nat.le_of_ble_eq_true rfl) dX8_readLine_59 (fun v2 h2 g2 hp2 => ?_)
      obtain ⟨fr2, fg2, hR2⟩ := hp2
      obtain ⟨b2, rfl, _, _⟩ := zv_R_b hR2
      exact zj_zret K Rt dX8_readLine_62 (zz_01 _) (⟨fr2, fg2, by rw [hr]; exact hR2⟩)
  · rw [hw 0 (by decide)] at c_6
    refine zj_aload_n (i := 0) (pc := 9) K dX8_readLine_9 rfl rfl ?_
    refine zj_bipush (v := 99) (pc := 10) K dX8_readLine_10 (by decide) ?_
    refine zj_bipush (v := 111) (pc := 12) K dX8_readLine_12 (by decide) ?_
    refine zj_bipush (v := 117) (pc := 14) K dX8_readLine_14 (by decide) ?_
    refine zj_bipush (v := 114) (pc := 16) K dX8_readLine_16 (by decide) ?_
    refine zj_bipush (v := 116) (pc := 18) K dX8_readLine_18 (by decide) ?_
    refine zj_iconst (v := 0) (pc := 20) K dX8_readLine_20 (by decide) ?_
    refine zj_cV6I (pc := 21) K lm_X8_101 hs_M (m_X8_is) (by decide) rfl (Nat.le_of_ble_eq_true rfl) dX8_readLine_21 ?_
    refine zj_if_eq (tgt := 34) (pc := 24) K dX8_readLine_24 (by decide) (fun c_24 => ?_) (fun c_24 => ?_)
    · replace c_24 := zz_i0.mp c_24
      rw [zv_is hq (i := 0) (by decide) zv_wd0] at c_24
      have hr : zu_line (zw_T t n) (zu_is t) q w = .inl (1, q.2.1) := (if_pos c_6).trans (if_neg (by rw [c_24]; decide))
      refine zj_aload_n (i := 0) (pc := 34) K dX8_readLine_34 rfl rfl ?_
      refine zj_iconst (v := 1) (pc := 35) K dX8_readLine_35 (by decide) ?_
      refine zj_cV1P (pc := 36) K lm_X8_88 hs_M (m_X8_bad) (by decide) rfl (Nat.le_of_ble_eq_true rfl) dX8_readLine_36 (fun vb hb gb hpb => ?_)
      obtain ⟨rfl, rfl, bb1, bb2⟩ := hpb
      exact zj_zret K Rt dX8_readLine_39 (zz_01 _) (by
        first
        | exact ⟨fr2, fg2, by rw [hr]; exact hR2⟩
        | (have hb2 := zv_bad (g := gb) (t := t) (n := n) bb1 bb2 ⟨fun _ _ _ => rfl, fun _ _ => rfl⟩ q5 zv_one
           exact ⟨hb2.1, fun _ _ _ => rfl, by rw [hr]; exact hb2.2⟩))
    · replace c_24 := zz_n0.mp c_24
      rw [zv_is hq (i := 0) (by decide) zv_wd0] at c_24
      have hr : zu_line (zw_T t n) (zu_is t) q w = _ := (if_pos c_6).trans (if_pos c_24)
      refine zj_aload_n (i := 0) (pc := 27) K dX8_readLine_27 rfl rfl ?_
      refine zj_cV0P (pc := 28) K lm_X8_109 hs_M (m_X8_readCourt (n := n) (t := t) et eL hn hq hw) (by decide) rfl (Nat.le_of_ble_eq_true rfl) dX8_readLine_28 (fun v2 h2 g2 hp2 => ?_)
      obtain ⟨fr2, fg2, hR2⟩ := hp2
      obtain ⟨b2, rfl, _, _⟩ := zv_R_b hR2
      refine zj_goto (tgt := 39) (pc := 31) K dX8_readLine_31 (by decide) ?_
      exact zj_zret K Rt dX8_readLine_39 (zz_01 _) (by
        first
        | exact ⟨fr2, fg2, by rw [hr]; exact hR2⟩
        | (have hb2 := zv_bad (g := gb) (t := t) (n := n) bb1 bb2 ⟨fun _ _ _ => rfl, fun _ _ => rfl⟩ q5 zv_one
           exact ⟨hb2.1, fun _ _ _ => rfl, by rw [hr]; exact hb2.2⟩))
