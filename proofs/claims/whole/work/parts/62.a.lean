/-- behind weight, barred and cases of a case -/
theorem zu_k3 {h k A B K3 : zj_H} {x : Int32} {t : Nat → Int32} {n C : Nat} {r : zuR} (hN : zu_N h k x t n 1 9 (19 + C) r) (e47 : h 4 7 = nI C) (eA : A = zj_s k 6 (upd (k 6) C x)) (eB : B = zj_s A 7 (upd (A 7) C 0)) (e3 : K3 = zj_s B 4 (upd (B 4) 7 (B 4 7 + 1))) :
    zu_fr h K3 ∧ K3 3 = k 3 ∧ K3 4 = upd (h 4) 7 (nI (C + 1)) ∧ K3 5 = h 5 ∧ K3 6 = upd (h 6) C x ∧ K3 7 = upd (h 7) C 0 ∧ zu_C K3 t n (zu_num (zw_T t n) 1 9 (19 + C) r) := by
  obtain ⟨n1, n2, n3, n4, n5⟩ := hN
  have b4 : B 4 = h 4 := by rw [eB, zj_s_ne _ _ (by decide), eA, zj_s_ne _ _ (by decide)]; exact n1 4 (by decide)
  have k3 : K3 3 = k 3 := by rw [e3, zj_s_ne _ _ (by decide), eB, zj_s_ne _ _ (by decide), eA, zj_s_ne _ _ (by decide)]
  refine ⟨fun a ha => ?_, k3, ?_, ?_, ?_, ?_, zu_C_c (fun b _ => by rw [k3]) n4⟩
  · rw [e3, zj_s_ne _ _ (by omega), eB, zj_s_ne _ _ (by omega), eA, zj_s_ne _ _ (by omega)]; exact n1 a (by omega)
  · rw [e3, zj_s_eq, b4, e47, nI_1]
  · rw [e3, zj_s_ne _ _ (by decide), eB, zj_s_ne _ _ (by decide), eA, zj_s_ne _ _ (by decide)]; exact n1 5 (by decide)
  · rw [e3, zj_s_ne _ _ (by decide), eB, zj_s_ne _ _ (by decide), eA, zj_s_eq, n1 6 (by decide)]
  · rw [e3, zj_s_ne _ _ (by decide), eB, zj_s_eq, eA, zj_s_ne _ _ (by decide), n1 7 (by decide)]
theorem zu_bars_w {T : Nat → zuK} {c : Nat} : ∀ {f : Nat} {q : zuK} {w : zuW} {q1 : zuK} {w1 : zuW}, zu_bars T c f q w = .inr (q1, w1) → ∃ y, w1 = upd w (33 + c) y
  | 0, q, w, q1, w1, h => by cases h
  | f + 1, q, w, q1, w1, h => by
    rw [zu_bars] at h
    split at h
    · split at h
      · cases h
      · obtain ⟨y, hy⟩ := zu_bars_w h
        exact ⟨y, by rw [hy, zu_upd2]⟩
    · cases h; exact ⟨w (33 + c), (zu_upd_self rfl).symm⟩
set_option maxHeartbeats 4000000 in
set_option maxRecDepth 20000 in
theorem m_X4_readCase {l : Launch} {E : zj_E} {h : zj_H} {g : zj_G} {n : Nat} {t : Nat → Int32} (et : h 2 = t) (eL : h 1 1 = nI n) (hn : n ≤ 540) {q : zuK} {w : zuW} (hC : zu_C h t n (.inr (q, w))) (hD : zu_d h w) (hjc : zu_jc w) : zj_M l E yX4_readCase cX4_readCase 2 none 5 [.ref (E.2.1 3)] h g (fun v h' g' => v = none ∧ g' = g ∧ zu_S h h' t n (h 3 3) (zu_case (zw_T t n) (zu_is t) q w)) := by
  refine zj_M.of RX4 (by decide) rfl (Nat.le_of_ble_eq_true rfl) ?_
  intro Γ hΓ K Rt
  subst hΓ
  obtain ⟨q2, q4, q5, q6, q7, q8⟩ := hC
  have ht := zu_tk_1 q8
  obtain ⟨J, C, hJ, hCC, eJ, eC, hw6, hwz⟩ := hjc
  obtain ⟨d0, d1, d2, d3, d4, d5, d6, d7, d8, d9, d10, d11⟩ := id hD
  have e47 : h 4 7 = nI C := d8.trans eC
  show zj_J E Γ 2 0 [(0, .ref (E.2.1 3))] [] h g
  refine zj_aload_n (i := 0) (pc := 0) K dX4_readCase_0 rfl rfl ?_
  refine zj_getR (pc := 1) K lf_X4_18 hs_R rfl dX4_readCase_1 ?_
  refine zj_getI (pc := 4) K lf_X4_109 hs_F rfl dX4_readCase_4 ?_
  refine zj_istore_n (i := 1) (pc := 7) K dX4_readCase_7 rfl rfl rfl rfl ?_
  refine zj_iload_n (i := 1) (pc := 8) K dX4_readCase_8 rfl rfl ?_
  refine zj_bipush (v := 14) (pc := 9) K dX4_readCase_9 (by decide) ?_
  refine zj_icmp_lt (tgt := 20) (pc := 11) K dX4_readCase_11 (by decide) (fun c_11 => ?_) (fun c_11 => ?_)
  · have hC14 : C < 14 := (nI_ltI (b := 14) (by omega) (by omega)).mp (by rw [← e47]; exact c_11)
    have hr : zu_case (zw_T t n) (zu_is t) q w = zu_set 18 (fun w => w 18 + 1) (zu_set (47 + C) (fun u => u (33 + C)) (zu_not (zw_T t n) (zu_is t) C (zu_num (zw_T t n) 1 9 (19 + C) (.inr (zw_T t n q.2.2.1, w))))) := by
      have h79 : ¬ w 18 = 14 := fun z => by
        rw [eC] at z
        have := (nI_eq (b := 14) (by omega) (by omega)).mp z
        omega
      unfold zu_case
      rw [if_neg h79, eC, nI_clamp (by omega)]; rfl
    refine zj_aload_n (i := 0) (pc := 20) K dX4_readCase_20 rfl rfl ?_
    refine zj_cV0P (pc := 21) K lm_X4_39 hs_R (m_X4_step (n := n) (a := q.2.2.1) (by first | exact eL | exact eLq) hn q5 ht.2.2) (by decide) rfl (Nat.le_of_ble_eq_true rfl) dX4_readCase_21 (fun v1 h1 g1 hp1 => ?_)
    obtain ⟨rfl, rfl, p3, p4, p5⟩ := zu_stepP et ht.2.2 hp1
    have hC1 : zu_C h1 t n (.inr (zw_T t n q.2.2.1, w)) := ⟨by rw [p4 2 (by decide)]; exact q2, p5⟩
    have hD1 : zu_d h1 w := zu_d_c (p4 8 (by decide)) (p3 4 (by decide)) (p3 5 (by decide)) (p3 6 (by decide)) (p3 7 (by decide)) hD
    have hF1 : zu_fr h h1 := fun a ha => p3 a (by omega)
    have hl1 : h1 3 3 = h 3 3 := p4 3 (by decide)
    refine zj_aload_n (i := 0) (pc := 24) K dX4_readCase_24 rfl rfl ?_
    refine zj_getR (pc := 25) K lf_X4_18 hs_R rfl dX4_readCase_25 ?_
    refine zj_getR (pc := 28) K lf_X4_112 hs_F rfl dX4_readCase_28 ?_
    refine zj_iload_n (i := 1) (pc := 31) K dX4_readCase_31 rfl rfl ?_
    refine zj_aload_n (i := 0) (pc := 32) K dX4_readCase_32 rfl rfl ?_
    refine zj_iconst (v := 1) (pc := 33) K dX4_readCase_33 (by decide) ?_
    refine zj_bipush (v := 9) (pc := 34) K dX4_readCase_34 (by decide) ?_
    refine zj_cV2P (pc := 36) K lm_X4_80 hs_R (m_X4_takeNumber (n := n) (t := t) (k := 19 + C) (by rw [hF1 2 (by decide)]; exact et) (by rw [hF1 1 (by decide)]; exact eL) hn hC1) (by decide) rfl (Nat.le_of_ble_eq_true rfl) dX4_readCase_36 (fun vb1 kb1 gb1 hb1 => ?_)
    obtain ⟨xb1, rfl, rfl, hN1⟩ := hb1
    refine zj_ast (j := C) (pc := 39) K hs_Fw e47 (by omega) (by first | decide | omega) dX4_readCase_39 ?_
    refine zj_aload_n (i := 0) (pc := 40) K dX4_readCase_40 rfl rfl ?_
    refine zj_getR (pc := 41) K lf_X4_18 hs_R rfl dX4_readCase_41 ?_
    refine zj_getR (pc := 44) K lf_X4_115 hs_F rfl dX4_readCase_44 ?_
    refine zj_iload_n (i := 1) (pc := 47) K dX4_readCase_47 rfl rfl ?_
    refine zj_iconst (v := 0) (pc := 48) K dX4_readCase_48 (by decide) ?_
    refine zj_ast (j := C) (pc := 49) K hs_Fb e47 (by omega) (by first | decide | omega) dX4_readCase_49 ?_
    refine zj_aload_n (i := 0) (pc := 50) K dX4_readCase_50 rfl rfl ?_
    refine zj_getR (pc := 51) K lf_X4_18 hs_R rfl dX4_readCase_51 ?_
    refine zj_dup (pc := 54) K dX4_readCase_54 rfl ?_
    refine zj_getI (pc := 55) K lf_X4_109 hs_F rfl dX4_readCase_55 ?_
    refine zj_iconst (v := 1) (pc := 58) K dX4_readCase_58 (by decide) ?_
    refine zj_iadd (pc := 59) K dX4_readCase_59 ?_
    refine zj_putI (pc := 60) K lf_X4_109 hs_F rfl dX4_readCase_60 ?_
    refine zj_hn (fun k3 ek3 => ?_)
    obtain ⟨f0, f3, f4, f5, f6, f7, fC⟩ := zu_k3 hN1 (by rw [p3 4 (by decide)]; exact e47) rfl rfl ek3
    have hF3 := hF1.tr f0
    have etq : k3 2 = t := by rw [hF3 2 (by decide)]; exact et
    have eLq : k3 1 1 = nI n := by rw [hF3 1 (by decide)]; exact eL
    have hl3 : k3 3 3 = h 3 3 := by rw [f3, hN1.2.1]; exact hl1
    have h38 : k3 3 8 = h1 3 8 := by rw [f3]; exact hN1.2.2.1
    refine zj_aload_n (i := 0) (pc := 63) K dX4_readCase_63 rfl rfl ?_
    refine zj_getI (pc := 64) K lf_X4_25 hs_R rfl dX4_readCase_64 ?_
    refine zj_if_ne (tgt := 96) (pc := 67) K dX4_readCase_67 (by decide) (fun c_67 => ?_) (fun c_67 => ?_)
    · obtain ⟨e1, he1⟩ := zu_flt fC c_67
      rw [he1] at hr fC
      have hr9 : zu_case (zw_T t n) (zu_is t) q w = .inl e1 := hr
      exact zj_vret K Rt dX4_readCase_96 (by
        first
        | exact ⟨rfl, rfl, hF3, hl3, by rw [hr9]; exact fC, by rw [hr9]; trivial⟩
        | exact ⟨rfl, rfl, hF3, hl3, by rw [hr]; exact ⟨qa2, qa4, qa5, qa6, qa7, qa8⟩, by rw [hr]; exact zu_mkC hC14 eC hD1 h38 f4 f5 f6 (fun c hc => by rw [f7, zz_upd_ne _ _ (by omega)]) (by rw [f7, zz_upd_at]) ⟨J, hJ, eJ⟩⟩
        | (have g3 : zj_s k6 7 (upd (k6 7) C y6) 3 = k6 3 := zj_s_ne _ _ (by decide)
           refine ⟨rfl, rfl, fun a ha => ?_, ?_, ?_, ?_⟩
           · rw [zj_s_ne _ _ (by omega), b1 a (by omega), s3 a (by omega)]; exact hF3 a ha
           · rw [g3, b2, s4 3 (by decide)]; exact hl3
           · have hc := zu_C_c (h' := zj_s k6 7 (upd (k6 7) C y6)) (fun b _ => by rw [g3]) b4
             rw [hr]
             cases hb : zu_bar1 (zw_T t n) C (zw_T t n qa.2.2.1) (upd w (19 + C) xb1) with
             | inl e9 => rw [hb] at hc; exact hc
             | inr qw9 => rw [hb] at hc; exact hc
           · rw [hr]
             cases hb : zu_bar1 (zw_T t n) C (zw_T t n qa.2.2.1) (upd w (19 + C) xb1) with
             | inl e9 => trivial
             | inr qw9 =>
               obtain ⟨q9, w9⟩ := qw9
               rw [b5 q9 w9 hb, zu_cw_eq hC14 eC]
               refine zu_mkC hC14 eC hD1 ?_ ?_ ?_ ?_ (fun c hc => ?_) ?_ ⟨J, hJ, eJ⟩
               · rw [g3, b3, s4 8 (by decide)]; exact h38
               · rw [zj_s_ne _ _ (by decide), b1 4 (by decide), s3 4 (by decide)]; exact f4
               · rw [zj_s_ne _ _ (by decide), b1 5 (by decide), s3 5 (by decide)]; exact f5
               · rw [zj_s_ne _ _ (by decide), b1 6 (by decide), s3 6 (by decide)]; exact f6
               · rw [zj_s_eq, zz_upd_ne _ _ (by omega), b1 7 (by decide), s3 7 (by decide), f7, zz_upd_ne _ _ (by omega)]
               · rw [zj_s_eq, zz_upd_at]))
    · obtain ⟨qa, wa, he1⟩ := zu_nof fC c_67
      obtain ⟨q0, w0, hz0, rfl, _, _⟩ := hN1.2.2.2.2 qa wa he1
      cases hz0
      rw [he1] at hr fC
      obtain ⟨qa2, qa4, qa5, qa6, qa7, qa8⟩ := id fC
      have hta := zu_tk_1 qa8
      have hx33 : upd w (19 + C) xb1 (33 + C) = 0 := by rw [zz_upd_ne _ _ (by omega)]; exact hwz C (Nat.le_refl _) hC14
      refine zj_aload_n (i := 0) (pc := 70) K dX4_readCase_70 rfl rfl ?_
      refine zj_ldcS (i := 4) (tx := "not") (pc := 71) K rfl rfl dX4_readCase_71 ?_
      refine zj_cV1I (pc := 73) K lm_X4_58 hs_R (m_X4_isWord (n := n) (q := qa) qa4 qa5 qa6 hn (by rw [etq]; exact qa8) (i := 4) (by decide)) (by decide) rfl (Nat.le_of_ble_eq_true rfl) dX4_readCase_73 ?_
      refine zj_if_eq (tgt := 96) (pc := 76) K dX4_readCase_76 (by decide) (fun c_76 => ?_) (fun c_76 => ?_)
      · replace c_76 := zz_i0.mp c_76
        rw [etq] at c_76
        have hr8 : zu_not (zw_T t n) (zu_is t) C (.inr (qa, upd w (19 + C) xb1)) = .inr (qa, upd (upd w (19 + C) xb1) (33 + C) 0) := by
          rw [zu_upd_self hx33]
          exact if_neg (by rw [c_76]; decide)
        rw [hr8, zu_cw_eq hC14 eC] at hr
        exact zj_vret K Rt dX4_readCase_96 (by
          first
          | exact ⟨rfl, rfl, hF3, hl3, by rw [hr9]; exact fC, by rw [hr9]; trivial⟩
          | exact ⟨rfl, rfl, hF3, hl3, by rw [hr]; exact ⟨qa2, qa4, qa5, qa6, qa7, qa8⟩, by rw [hr]; exact zu_mkC hC14 eC hD1 h38 f4 f5 f6 (fun c hc => by rw [f7, zz_upd_ne _ _ (by omega)]) (by rw [f7, zz_upd_at]) ⟨J, hJ, eJ⟩⟩
          | (have g3 : zj_s k6 7 (upd (k6 7) C y6) 3 = k6 3 := zj_s_ne _ _ (by decide)
             refine ⟨rfl, rfl, fun a ha => ?_, ?_, ?_, ?_⟩
             · rw [zj_s_ne _ _ (by omega), b1 a (by omega), s3 a (by omega)]; exact hF3 a ha
             · rw [g3, b2, s4 3 (by decide)]; exact hl3
             · have hc := zu_C_c (h' := zj_s k6 7 (upd (k6 7) C y6)) (fun b _ => by rw [g3]) b4
               rw [hr]
               cases hb : zu_bar1 (zw_T t n) C (zw_T t n qa.2.2.1) (upd w (19 + C) xb1) with
               | inl e9 => rw [hb] at hc; exact hc
               | inr qw9 => rw [hb] at hc; exact hc
             · rw [hr]
               cases hb : zu_bar1 (zw_T t n) C (zw_T t n qa.2.2.1) (upd w (19 + C) xb1) with
               | inl e9 => trivial
               | inr qw9 =>
                 obtain ⟨q9, w9⟩ := qw9
                 rw [b5 q9 w9 hb, zu_cw_eq hC14 eC]
                 refine zu_mkC hC14 eC hD1 ?_ ?_ ?_ ?_ (fun c hc => ?_) ?_ ⟨J, hJ, eJ⟩
                 · rw [g3, b3, s4 8 (by decide)]; exact h38
                 · rw [zj_s_ne _ _ (by decide), b1 4 (by decide), s3 4 (by decide)]; exact f4
                 · rw [zj_s_ne _ _ (by decide), b1 5 (by decide), s3 5 (by decide)]; exact f5
                 · rw [zj_s_ne _ _ (by decide), b1 6 (by decide), s3 6 (by decide)]; exact f6
                 · rw [zj_s_eq, zz_upd_ne _ _ (by omega), b1 7 (by decide), s3 7 (by decide), f7, zz_upd_ne _ _ (by omega)]
                 · rw [zj_s_eq, zz_upd_at]))
      · replace c_76 := zz_n0.mp c_76
        rw [etq] at c_76
        have hr8 : zu_not (zw_T t n) (zu_is t) C (.inr (qa, upd w (19 + C) xb1)) = zu_bar1 (zw_T t n) C (zw_T t n qa.2.2.1) (upd w (19 + C) xb1) := if_pos c_76
        rw [hr8] at hr
        refine zj_aload_n (i := 0) (pc := 79) K dX4_readCase_79 rfl rfl ?_
        refine zj_cV0P (pc := 80) K lm_X4_39 hs_R (m_X4_step (n := n) (a := qa.2.2.1) (by first | exact eL | exact eLq) hn qa5 hta.2.2) (by decide) rfl (Nat.le_of_ble_eq_true rfl) dX4_readCase_80 (fun v5 k5 g5 hp5 => ?_)
        obtain ⟨rfl, rfl, s3, s4, s5⟩ := zu_stepP etq hta.2.2 hp5
        have etq5 : k5 2 = t := by rw [s3 2 (by decide)]; exact etq
        have eLq5 : k5 1 1 = nI n := by rw [s3 1 (by decide)]; exact eLq
        refine zj_aload_n (i := 0) (pc := 83) K dX4_readCase_83 rfl rfl ?_
        refine zj_getR (pc := 84) K lf_X4_18 hs_R rfl dX4_readCase_84 ?_
        refine zj_getR (pc := 87) K lf_X4_115 hs_F rfl dX4_readCase_87 ?_
        refine zj_iload_n (i := 1) (pc := 90) K dX4_readCase_90 rfl rfl ?_
        refine zj_aload_n (i := 0) (pc := 91) K dX4_readCase_91 rfl rfl ?_
        refine zj_cV0P (pc := 92) K lm_X4_120 hs_R (m_X4_takeBarred (n := n) (t := t) (q := zw_T t n qa.2.2.1) (w := upd w (19 + C) xb1) (c := C) (J := J) etq5 eLq5 hn ⟨by rw [s4 2 (by decide)]; exact qa2, s5⟩ (by rw [zz_upd_ne _ _ (by omega)]; exact eJ) hJ (by rw [s3 4 (by decide), f4, zz_upd_ne _ _ (by decide), p3 4 (by decide)]; exact d7.trans eJ) (by rw [zz_upd_ne _ _ (by omega)]; exact hwz C (Nat.le_refl _) hC14)) (by decide) rfl (Nat.le_of_ble_eq_true rfl) dX4_readCase_92 (fun v6 k6 g6 hp6 => ?_)
        obtain ⟨y6, rfl, rfl, b1, b2, b3, b4, b5⟩ := hp6
        refine zj_ast (j := C) (pc := 95) K hs_Fb e47 (by omega) (by first | decide | omega) dX4_readCase_95 ?_
        exact zj_vret K Rt dX4_readCase_96 (by
          first
          | exact ⟨rfl, rfl, hF3, hl3, by rw [hr9]; exact fC, by rw [hr9]; trivial⟩
          | exact ⟨rfl, rfl, hF3, hl3, by rw [hr]; exact ⟨qa2, qa4, qa5, qa6, qa7, qa8⟩, by rw [hr]; exact zu_mkC hC14 eC hD1 h38 f4 f5 f6 (fun c hc => by rw [f7, zz_upd_ne _ _ (by omega)]) (by rw [f7, zz_upd_at]) ⟨J, hJ, eJ⟩⟩
          | (have g3 : zj_s k6 7 (upd (k6 7) C y6) 3 = k6 3 := zj_s_ne _ _ (by decide)
             refine ⟨rfl, rfl, fun a ha => ?_, ?_, ?_, ?_⟩
             · rw [zj_s_ne _ _ (by omega), b1 a (by omega), s3 a (by omega)]; exact hF3 a ha
             · rw [g3, b2, s4 3 (by decide)]; exact hl3
             · have hc := zu_C_c (h' := zj_s k6 7 (upd (k6 7) C y6)) (fun b _ => by rw [g3]) b4
               rw [hr]
               cases hb : zu_bar1 (zw_T t n) C (zw_T t n qa.2.2.1) (upd w (19 + C) xb1) with
               | inl e9 => rw [hb] at hc; exact hc
               | inr qw9 => rw [hb] at hc; exact hc
             · rw [hr]
               cases hb : zu_bar1 (zw_T t n) C (zw_T t n qa.2.2.1) (upd w (19 + C) xb1) with
               | inl e9 => trivial
               | inr qw9 =>
                 obtain ⟨q9, w9⟩ := qw9
                 rw [b5 q9 w9 hb, zu_cw_eq hC14 eC]
                 refine zu_mkC hC14 eC hD1 ?_ ?_ ?_ ?_ (fun c hc => ?_) ?_ ⟨J, hJ, eJ⟩
                 · rw [g3, b3, s4 8 (by decide)]; exact h38
                 · rw [zj_s_ne _ _ (by decide), b1 4 (by decide), s3 4 (by decide)]; exact f4
                 · rw [zj_s_ne _ _ (by decide), b1 5 (by decide), s3 5 (by decide)]; exact f5
                 · rw [zj_s_ne _ _ (by decide), b1 6 (by decide), s3 6 (by decide)]; exact f6
                 · rw [zj_s_eq, zz_upd_ne _ _ (by omega), b1 7 (by decide), s3 7 (by decide), f7, zz_upd_ne _ _ (by omega)]
                 · rw [zj_s_eq, zz_upd_at]))
  · have hC14 : C = 14 := by
      apply Nat.le_antisymm hCC
      exact Nat.le_of_not_lt (fun z => c_11 (by rw [e47]; exact (nI_ltI (b := 14) (by omega) (by omega)).mpr z))
    have hr : zu_case (zw_T t n) (zu_is t) q w = .inl (3, q.2.1) := if_pos (by rw [eC, hC14]; rfl)
    refine zj_aload_n (i := 0) (pc := 14) K dX4_readCase_14 rfl rfl ?_
    refine zj_iconst (v := 3) (pc := 15) K dX4_readCase_15 (by decide) ?_
    refine zj_putI (pc := 16) K lf_X4_25 hs_R rfl dX4_readCase_16 ?_
    exact zj_vret K Rt dX4_readCase_19 (⟨rfl, rfl, fun a ha => zj_s_ne _ _ (by omega), rfl, by rw [hr]; exact ⟨rfl, by decide, by decide, q4⟩, by rw [hr]; trivial⟩)

set_option maxHeartbeats 4000000 in
set_option maxRecDepth 20000 in
theorem m_X4_readLine {l : Launch} {E : zj_E} {h : zj_H} {g : zj_G} {n : Nat} {t : Nat → Int32} (et : h 2 = t) (eL : h 1 1 = nI n) (hn : n ≤ 540) {q : zuK} {w : zuW} (hC : zu_C h t n (.inr (q, w))) (hD : zu_d h w) (hjc : zu_jc w) (hl0 : h 3 3 = 0 ↔ w 0 = 0) : zj_M l E yX4_readLine cX4_readLine 1 none 6 [.ref (E.2.1 3)] h g (fun v h' g' => v = none ∧ g' = g ∧ ∃ l, zu_S h h' t n l (zu_sign (zw_T t n) (zu_line (zw_T t n) (zu_is t) q w)) ∧ ∀ q1 w1, zu_sign (zw_T t n) (zu_line (zw_T t n) (zu_is t) q w) = .inr (q1, w1) → l = h 3 3 + 1) := by
  refine zj_M.of RX4 (by decide) rfl (Nat.le_of_ble_eq_true rfl) ?_
  intro Γ hΓ K Rt
  subst hΓ
  obtain ⟨q2, q4, q5, q6, q7, q8⟩ := id hC
  have ht := zu_tk_1 q8
  show zj_J E Γ 1 0 [(0, .ref (E.2.1 3))] [] h g
  refine zj_aload_n (i := 0) (pc := 0) K dX4_readLine_0 rfl rfl ?_
  refine zj_getI (pc := 1) K lf_X4_29 hs_R rfl dX4_readLine_1 ?_
  refine zj_if_ne (tgt := 14) (pc := 4) K dX4_readLine_4 (by decide) (fun c_4 => ?_) (fun c_4 => ?_)
  · have hw0 : ¬ w 0 = 0 := fun z => c_4 (hl0.mpr z)
    refine zj_aload_n (i := 0) (pc := 14) K dX4_readLine_14 rfl rfl ?_
    refine zj_ldcS (i := 1) (tx := "judge") (pc := 15) K rfl rfl dX4_readLine_15 ?_
    refine zj_cV1I (pc := 17) K lm_X4_58 hs_R (m_X4_isWord (n := n) (q := q) q4 q5 q6 hn (by rw [et]; exact q8) (i := 1) (by decide)) (by decide) rfl (Nat.le_of_ble_eq_true rfl) dX4_readLine_17 ?_
    refine zj_if_eq (tgt := 30) (pc := 20) K dX4_readLine_20 (by decide) (fun c_20 => ?_) (fun c_20 => ?_)
    · replace c_20 := zz_i0.mp c_20
      rw [et] at c_20
      refine zj_aload_n (i := 0) (pc := 30) K dX4_readLine_30 rfl rfl ?_
      refine zj_ldcS (i := 2) (tx := "senior") (pc := 31) K rfl rfl dX4_readLine_31 ?_
      refine zj_cV1I (pc := 33) K lm_X4_58 hs_R (m_X4_isWord (n := n) (q := q) q4 q5 q6 hn (by rw [et]; exact q8) (i := 2) (by decide)) (by decide) rfl (Nat.le_of_ble_eq_true rfl) dX4_readLine_33 ?_
      refine zj_if_eq (tgt := 46) (pc := 36) K dX4_readLine_36 (by decide) (fun c_36 => ?_) (fun c_36 => ?_)
      · replace c_36 := zz_i0.mp c_36
        rw [et] at c_36
        refine zj_aload_n (i := 0) (pc := 46) K dX4_readLine_46 rfl rfl ?_
        refine zj_ldcS (i := 3) (tx := "case") (pc := 47) K rfl rfl dX4_readLine_47 ?_
        refine zj_cV1I (pc := 49) K lm_X4_58 hs_R (m_X4_isWord (n := n) (q := q) q4 q5 q6 hn (by rw [et]; exact q8) (i := 3) (by decide)) (by decide) rfl (Nat.le_of_ble_eq_true rfl) dX4_readLine_49 ?_
        refine zj_if_eq (tgt := 62) (pc := 52) K dX4_readLine_52 (by decide) (fun c_52 => ?_) (fun c_52 => ?_)
        · replace c_52 := zz_i0.mp c_52
          rw [et] at c_52
          have hr : zu_line (zw_T t n) (zu_is t) q w = .inl (1, q.2.1) := (if_neg hw0).trans ((if_neg (by rw [c_20]; decide)).trans ((if_neg (by rw [c_52]; decide)).trans (if_neg (by rw [c_36]; decide))))
          have hS2 : zu_S h (zj_s h 3 (upd (h 3) 2 1)) t n (h 3 3) (.inl (1, q.2.1)) := ⟨fun a ha => zj_s_ne _ _ (by omega), rfl, ⟨rfl, by decide, by decide, q4⟩, trivial⟩
          refine zj_aload_n (i := 0) (pc := 62) K dX4_readLine_62 rfl rfl ?_
          refine zj_iconst (v := 1) (pc := 63) K dX4_readLine_63 (by decide) ?_
          refine zj_putI (pc := 64) K lf_X4_25 hs_R rfl dX4_readLine_64 ?_
          refine zj_aload_n (i := 0) (pc := 67) K dX4_readLine_67 rfl rfl ?_
          refine zj_cV0P (pc := 68) K lm_X4_75 hs_R (m_X4_takeSign (n := n) (t := t) (by rw [hS2.1 2 (by decide)]; exact et) (by rw [hS2.1 1 (by decide)]; exact eL) hn hS2.2.2.1 hS2.2.2.2) (by decide) rfl (Nat.le_of_ble_eq_true rfl) dX4_readLine_68 (fun v7 h7 g7 hp7 => ?_)
          obtain ⟨rfl, rfl, l7, hS7, hl7⟩ := hp7
          exact zj_vret K Rt dX4_readLine_71 (by
            rw [hr]
            refine ⟨rfl, rfl, l7, zu_S.tr hS2.1 hS7, fun q1 w1 z => ?_⟩
            rw [hl7 q1 w1 z, hS2.2.1])
        · replace c_52 := zz_n0.mp c_52
          rw [et] at c_52
          have hr : zu_line (zw_T t n) (zu_is t) q w = zu_case (zw_T t n) (zu_is t) q w := (if_neg hw0).trans ((if_neg (by rw [c_20]; decide)).trans (if_pos c_52))
          refine zj_aload_n (i := 0) (pc := 55) K dX4_readLine_55 rfl rfl ?_
          refine zj_cV0P (pc := 56) K lm_X4_72 hs_R (m_X4_readCase (n := n) (t := t) et eL hn hC hD hjc) (by decide) rfl (Nat.le_of_ble_eq_true rfl) dX4_readLine_56 (fun v2 h2 g2 hp2 => ?_)
          obtain ⟨rfl, rfl, hS2⟩ := hp2
          refine zj_goto (tgt := 67) (pc := 59) K dX4_readLine_59 (by decide) ?_
          refine zj_aload_n (i := 0) (pc := 67) K dX4_readLine_67 rfl rfl ?_
          refine zj_cV0P (pc := 68) K lm_X4_75 hs_R (m_X4_takeSign (n := n) (t := t) (by rw [hS2.1 2 (by decide)]; exact et) (by rw [hS2.1 1 (by decide)]; exact eL) hn hS2.2.2.1 hS2.2.2.2) (by decide) rfl (Nat.le_of_ble_eq_true rfl) dX4_readLine_68 (fun v7 h7 g7 hp7 => ?_)
          obtain ⟨rfl, rfl, l7, hS7, hl7⟩ := hp7
          exact zj_vret K Rt dX4_readLine_71 (by
            rw [hr]
            refine ⟨rfl, rfl, l7, zu_S.tr hS2.1 hS7, fun q1 w1 z => ?_⟩
            rw [hl7 q1 w1 z, hS2.2.1])
      · replace c_36 := zz_n0.mp c_36
        rw [et] at c_36
        have hr : zu_line (zw_T t n) (zu_is t) q w = zu_senior (zw_T t n) q w := (if_neg hw0).trans ((if_neg (by rw [c_20]; decide)).trans ((if_neg (by rw [zu_is_23 c_36]; decide)).trans (if_pos c_36)))
        refine zj_aload_n (i := 0) (pc := 39) K dX4_readLine_39 rfl rfl ?_
        refine zj_cV0P (pc := 40) K lm_X4_67 hs_R (m_X4_readSenior (n := n) (t := t) et eL hn hC hD hjc) (by decide) rfl (Nat.le_of_ble_eq_true rfl) dX4_readLine_40 (fun v2 h2 g2 hp2 => ?_)
        obtain ⟨rfl, rfl, hS2⟩ := hp2
        refine zj_goto (tgt := 67) (pc := 43) K dX4_readLine_43 (by decide) ?_
        refine zj_aload_n (i := 0) (pc := 67) K dX4_readLine_67 rfl rfl ?_
        refine zj_cV0P (pc := 68) K lm_X4_75 hs_R (m_X4_takeSign (n := n) (t := t) (by rw [hS2.1 2 (by decide)]; exact et) (by rw [hS2.1 1 (by decide)]; exact eL) hn hS2.2.2.1 hS2.2.2.2) (by decide) rfl (Nat.le_of_ble_eq_true rfl) dX4_readLine_68 (fun v7 h7 g7 hp7 => ?_)
        obtain ⟨rfl, rfl, l7, hS7, hl7⟩ := hp7
        exact zj_vret K Rt dX4_readLine_71 (by
          rw [hr]
          refine ⟨rfl, rfl, l7, zu_S.tr hS2.1 hS7, fun q1 w1 z => ?_⟩
          rw [hl7 q1 w1 z, hS2.2.1])
    · replace c_20 := zz_n0.mp c_20
      rw [et] at c_20
      have hr : zu_line (zw_T t n) (zu_is t) q w = zu_judge (zw_T t n) q w := (if_neg hw0).trans (if_pos c_20)
      refine zj_aload_n (i := 0) (pc := 23) K dX4_readLine_23 rfl rfl ?_
      refine zj_cV0P (pc := 24) K lm_X4_62 hs_R (m_X4_readJudge (n := n) (t := t) et eL hn hC hD hjc) (by decide) rfl (Nat.le_of_ble_eq_true rfl) dX4_readLine_24 (fun v2 h2 g2 hp2 => ?_)
      obtain ⟨rfl, rfl, hS2⟩ := hp2
      refine zj_goto (tgt := 67) (pc := 27) K dX4_readLine_27 (by decide) ?_
      refine zj_aload_n (i := 0) (pc := 67) K dX4_readLine_67 rfl rfl ?_
      refine zj_cV0P (pc := 68) K lm_X4_75 hs_R (m_X4_takeSign (n := n) (t := t) (by rw [hS2.1 2 (by decide)]; exact et) (by rw [hS2.1 1 (by decide)]; exact eL) hn hS2.2.2.1 hS2.2.2.2) (by decide) rfl (Nat.le_of_ble_eq_true rfl) dX4_readLine_68 (fun v7 h7 g7 hp7 => ?_)
      obtain ⟨rfl, rfl, l7, hS7, hl7⟩ := hp7
      exact zj_vret K Rt dX4_readLine_71 (by
        rw [hr]
        refine ⟨rfl, rfl, l7, zu_S.tr hS2.1 hS7, fun q1 w1 z => ?_⟩
        rw [hl7 q1 w1 z, hS2.2.1])
  · have hr : zu_line (zw_T t n) (zu_is t) q w = zu_court (zw_T t n) (zu_is t) q w := if_pos (hl0.mp c_4)
    refine zj_aload_n (i := 0) (pc := 7) K dX4_readLine_7 rfl rfl ?_
    refine zj_cV0P (pc := 8) K lm_X4_53 hs_R (m_X4_readCourt (n := n) (t := t) et eL hn hC hD) (by decide) rfl (Nat.le_of_ble_eq_true rfl) dX4_readLine_8 (fun v2 h2 g2 hp2 => ?_)
    obtain ⟨rfl, rfl, hS2⟩ := hp2
    refine zj_goto (tgt := 67) (pc := 11) K dX4_readLine_11 (by decide) ?_
    refine zj_aload_n (i := 0) (pc := 67) K dX4_readLine_67 rfl rfl ?_
    refine zj_cV0P (pc := 68) K lm_X4_75 hs_R (m_X4_takeSign (n := n) (t := t) (by rw [hS2.1 2 (by decide)]; exact et) (by rw [hS2.1 1 (by decide)]; exact eL) hn hS2.2.2.1 hS2.2.2.2) (by decide) rfl (Nat.le_of_ble_eq_true rfl) dX4_readLine_68 (fun v7 h7 g7 hp7 => ?_)
    obtain ⟨rfl, rfl, l7, hS7, hl7⟩ := hp7
    exact zj_vret K Rt dX4_readLine_71 (by
      rw [hr]
      refine ⟨rfl, rfl, l7, zu_S.tr hS2.1 hS7, fun q1 w1 z => ?_⟩
      rw [hl7 q1 w1 z, hS2.2.1])
