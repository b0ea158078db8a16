theorem zu_tk_3 {t : Nat → Int32} {n : Nat} {q : zuK} (h : zu_tk t n q) (h3 : q.1 = 3) : ∃ j, j < 10000 ∧ q.2.2.2 = nI j := by
  obtain ⟨a, _, h⟩ := h
  rw [h3] at h
  exact zw_tok_3 h
theorem zu_in_lt {j J : Nat} (hj : j < 10000) (hJ : J ≤ 9) (h : zz_in (nI j) J = true) : j < J := by
  obtain ⟨i, hi, e⟩ := zz_in_ex h (by omega)
  have := (nI_eq (by omega) (by omega)).mp e
  omega
/-- the row behind a case: weight x, barred y -/
def zu_cw (w : zuW) (C : Nat) (x y : Int32) : zuW := upd (upd (upd (upd w (19 + C) x) (33 + C) y) (47 + C) y) 18 (nI (C + 1))
theorem zu_cw_at (w : zuW) {C k : Nat} (x y : Int32) (h1 : k ≠ 18) (h2 : k ≠ 47 + C) (h3 : k ≠ 33 + C) (h4 : k ≠ 19 + C) : zu_cw w C x y k = w k := by
  unfold zu_cw; rw [zz_upd_ne _ _ h1, zz_upd_ne _ _ h2, zz_upd_ne _ _ h3, zz_upd_ne _ _ h4]
theorem zu_cw_18 (w : zuW) {C : Nat} (x y : Int32) : zu_cw w C x y 18 = nI (C + 1) := zz_upd_at _ _ _
theorem zu_cw_47 (w : zuW) {C : Nat} (x y : Int32) : zu_cw w C x y (47 + C) = y := by
  unfold zu_cw; rw [zz_upd_ne _ _ (by omega), zz_upd_at]
theorem zu_cw_33 (w : zuW) {C : Nat} (hC : C < 14) (x y : Int32) : zu_cw w C x y (33 + C) = y := by
  unfold zu_cw; rw [zz_upd_ne _ _ (by omega), zz_upd_ne _ _ (by omega), zz_upd_at]
theorem zu_cw_19 (w : zuW) {C : Nat} (hC : C < 14) (x y : Int32) : zu_cw w C x y (19 + C) = x := by
  unfold zu_cw; rw [zz_upd_ne _ _ (by omega), zz_upd_ne _ _ (by omega), zz_upd_ne _ _ (by omega), zz_upd_at]
theorem zu_cw_eq {w : zuW} {C : Nat} {x y : Int32} {q : zuK} (hC : C < 14) (eC : w 18 = nI C) : zu_set 18 (fun w => w 18 + 1) (zu_set (47 + C) (fun u => u (33 + C)) (.inr (q, upd (upd w (19 + C) x) (33 + C) y))) = .inr (q, zu_cw w C x y) := by
  show (.inr (q, upd (upd (upd (upd w (19 + C) x) (33 + C) y) (47 + C) (upd (upd w (19 + C) x) (33 + C) y (33 + C))) 18 (upd (upd (upd w (19 + C) x) (33 + C) y) (47 + C) (upd (upd w (19 + C) x) (33 + C) y (33 + C)) 18 + 1)) : zuR) = _
  rw [zz_upd_at _ (33 + C), zz_upd_ne _ _ (show 18 ≠ 47 + C by omega), zz_upd_ne _ _ (show 18 ≠ 33 + C by omega), zz_upd_ne _ _ (show 18 ≠ 19 + C by omega), eC, nI_1]
  rfl
theorem zu_mkC {h k : zj_H} {w : zuW} {C : Nat} {x y : Int32} (hC : C < 14) (eC : w 18 = nI C) (hD : zu_d h w) (e8 : k 3 8 = h 3 8) (e4 : k 4 = upd (h 4) 7 (nI (C + 1))) (e5 : k 5 = h 5) (e6 : k 6 = upd (h 6) C x) (e7 : ∀ c, c < C → k 7 c = h 7 c) (e7C : k 7 C = y) (hJ9 : ∃ J, J ≤ 9 ∧ w 7 = nI J) : zu_d k (zu_cw w C x y) := by
  obtain ⟨d0, d1, d2, d3, d4, d5, d6, d7, d8, d9, d10, d11⟩ := hD
  obtain ⟨J, hJ, eJ⟩ := hJ9
  have low : ∀ k, k < 18 → zu_cw w C x y k = w k := fun k hk => zu_cw_at w x y (by omega) (by omega) (by omega) (by omega)
  unfold zu_d
  rw [e8, e4, e5, e6, low 0 (by decide), low 1 (by decide), low 2 (by decide), low 3 (by decide), low 4 (by decide), low 6 (by decide), low 7 (by decide), zu_cw_18, nI_clamp (show C + 1 < 2 ^ 31 by omega)]
  refine ⟨d0, d1, d2, d3, d4, d5, d6, d7, zz_upd_at _ _ _, fun j hj => ?_, fun c hc => ?_, fun c hc => ?_⟩
  · rw [eJ, nI_clamp (by omega)] at hj
    rw [low (8 + j) (by omega)]
    exact d9 j (by rw [eJ, nI_clamp (by omega)]; exact hj)
  · by_cases ec : c = C
    · subst ec; rw [zz_upd_at, zu_cw_19 w hC]
    · rw [zz_upd_ne _ _ ec, zu_cw_at w x y (by omega) (by omega) (by omega) (by omega)]
      exact d10 c (by rw [eC, nI_clamp (by omega)]; omega)
  · by_cases ec : c = C
    · subst ec; rw [e7C, zu_cw_33 w hC]
    · rw [e7 c (by omega), zu_cw_at w x y (by omega) (by omega) (by omega) (by omega)]
      exact d11 c (by rw [eC, nI_clamp (by omega)]; omega)
set_option maxHeartbeats 4000000 in
set_option maxRecDepth 20000 in
theorem m_X4_takeBarred {l : Launch} {E : zj_E} {h : zj_H} {g : zj_G} {n : Nat} {t : Nat → Int32} (et : h 2 = t) (eL : h 1 1 = nI n) (hn : n ≤ 540) {q : zuK} {w : zuW} (hC : zu_C h t n (.inr (q, w))) {c J : Nat} (eJ : w 7 = nI J) (hJ : J ≤ 9) (e46 : h 4 6 = nI J) (hz : w (33 + c) = 0) : zj_M l E yX4_takeBarred cX4_takeBarred 3 (some .int) 2 [.ref (E.2.1 3)] h g (fun v h' g' => ∃ x, v = some (.int x) ∧ g' = g ∧ (∀ a, a ≠ 3 → h' a = h a) ∧ h' 3 3 = h 3 3 ∧ h' 3 8 = h 3 8 ∧ zu_C h' t n (zu_bar1 (zw_T t n) c q w) ∧ ∀ q1 w1, zu_bar1 (zw_T t n) c q w = .inr (q1, w1) → w1 = upd w (33 + c) x) := by
  refine zj_M.of RX4 (by decide) rfl (Nat.le_of_ble_eq_true rfl) ?_
  intro Γ hΓ K Rt
  subst hΓ
  obtain ⟨q2, q4, q5, q6, q7, q8⟩ := hC
  have ht := zu_tk_1 q8
  have lpF : ∀ (x1 x2 : Int32) (k : zj_H) (e : Nat × Nat), (∀ a, a ≠ 3 → k a = h a) → k 3 3 = h 3 3 → k 3 8 = h 3 8 → zu_C k t n (.inl e) → zu_bar1 (zw_T t n) c q w = .inl e → zj_J E Γ 3 17 [(0, .ref (E.2.1 3)), (1, .int x1), (2, .int x2)] [] k g := by
    intro x1 x2 k e zf1 zf2 zf3 zc hr
    first
    | skip
      refine zj_iload_n (i := 2) (pc := 17) K dX4_takeBarred_17 rfl rfl ?_
      refine zj_bipush (v := 9) (pc := 18) K dX4_takeBarred_18 (by decide) ?_
      refine zj_icmp_gt (tgt := 90) (pc := 20) K dX4_takeBarred_20 (by decide) (fun c_20 => ?_) (fun c_20 => ?_)
      · refine zj_iload_n (i := 1) (pc := 90) K dX4_takeBarred_90 rfl rfl ?_
        exact zj_iret K Rt dX4_takeBarred_91 (⟨x1, rfl, rfl, zf1, zf2, zf3, by rw [hr]; exact zc, fun q1 w1 z => by rw [hr] at z; cases z⟩)
      · refine zj_aload_n (i := 0) (pc := 23) K dX4_takeBarred_23 rfl rfl ?_
        refine zj_getI (pc := 24) K lf_X4_42 hs_R rfl dX4_takeBarred_24 ?_
        refine zj_iconst (v := 3) (pc := 27) K dX4_takeBarred_27 (by decide) ?_
        refine zj_icmp_ne (tgt := 90) (pc := 28) K dX4_takeBarred_28 (by decide) (fun c_28 => ?_) (fun c_28 => ?_)
        · refine zj_iload_n (i := 1) (pc := 90) K dX4_takeBarred_90 rfl rfl ?_
          exact zj_iret K Rt dX4_takeBarred_91 (⟨x1, rfl, rfl, zf1, zf2, zf3, by rw [hr]; exact zc, fun q1 w1 z => by rw [hr] at z; cases z⟩)
        · refine zj_aload_n (i := 0) (pc := 31) K dX4_takeBarred_31 rfl rfl ?_
          refine zj_getI (pc := 32) K lf_X4_25 hs_R rfl dX4_takeBarred_32 ?_
          refine zj_if_ne (tgt := 90) (pc := 35) K dX4_takeBarred_35 (by decide) (fun c_35 => ?_) (fun c_35 => ?_)
          · refine zj_iload_n (i := 1) (pc := 90) K dX4_takeBarred_90 rfl rfl ?_
            exact zj_iret K Rt dX4_takeBarred_91 (⟨x1, rfl, rfl, zf1, zf2, zf3, by rw [hr]; exact zc, fun q1 w1 z => by rw [hr] at z; cases z⟩)
          · obtain ⟨q9, w9, h9⟩ := zu_nof zc c_35
            cases h9
  have lp : ∀ (f i : Nat) (x1 x2 : Int32) (k : zj_H) (q1 : zuK), i + f = 10 → zu_free x1 < f → x2 = nI i → (∀ a, a ≠ 3 → k a = h a) → k 3 3 = h 3 3 → k 3 8 = h 3 8 → zu_C k t n (.inr (q1, upd w (33 + c) x1)) → zu_bar1 (zw_T t n) c q w = zu_bars (zw_T t n) c f q1 (upd w (33 + c) x1) → zj_J E Γ 3 17 [(0, .ref (E.2.1 3)), (1, .int x1), (2, .int x2)] [] k g := by
    intro f
    induction f with
    | zero => intro i x1 x2 k q1 h1 h2; omega
    | succ f ih =>
      intro i x1 x2 k q1 h1 h2 e2 zf1 zf2 zf3 zc hr
      obtain ⟨q2, q4, q5, q6, q7, q8⟩ := zc
      have ht := zu_tk_1 q8
      have eu : upd w (33 + c) x1 (33 + c) = x1 := zz_upd_at _ _ _
      have eu7 : upd w (33 + c) x1 7 = nI J := by rw [zz_upd_ne _ _ (by omega)]; exact eJ
      have etq : k 2 = t := by rw [zf1 2 (by decide)]; exact et
      have eLq : k 1 1 = nI n := by rw [zf1 1 (by decide)]; exact eL
      refine zj_iload_n (i := 2) (pc := 17) K dX4_takeBarred_17 rfl rfl ?_
      refine zj_bipush (v := 9) (pc := 18) K dX4_takeBarred_18 (by decide) ?_
      refine zj_icmp_gt (tgt := 90) (pc := 20) K dX4_takeBarred_20 (by decide) (fun c_20 => ?_) (fun c_20 => ?_)
      · exact absurd c_20 (by rw [e2]; exact (show ¬ nI 9 < nI i from nI_nlt (by omega) (by omega)))
      · refine zj_aload_n (i := 0) (pc := 23) K dX4_takeBarred_23 rfl rfl ?_
        refine zj_getI (pc := 24) K lf_X4_42 hs_R rfl dX4_takeBarred_24 ?_
        refine zj_iconst (v := 3) (pc := 27) K dX4_takeBarred_27 (by decide) ?_
        refine zj_icmp_ne (tgt := 90) (pc := 28) K dX4_takeBarred_28 (by decide) (fun c_28 => ?_) (fun c_28 => ?_)
        · have hK3 : ¬ q1.1 = 3 := fun z => c_28 (by rw [q6, z]; rfl)
          have hr2 := hr.trans (zu_bars_n (T := zw_T t n) (c := c) (f := f) hK3)
          refine zj_iload_n (i := 1) (pc := 90) K dX4_takeBarred_90 rfl rfl ?_
          exact zj_iret K Rt dX4_takeBarred_91 (⟨x1, rfl, rfl, zf1, zf2, zf3, by rw [hr2]; exact ⟨q2, q4, q5, q6, q7, q8⟩, fun q9 w9 z => by rw [hr2] at z; cases z; rfl⟩)
        · have hK3 : q1.1 = 3 := by
            rw [q6] at c_28
            exact (nI_eq (b := 3) (by omega) (by omega)).mp c_28
          have ev := q7 hK3
          obtain ⟨j, hj, ej⟩ := zu_tk_3 q8 hK3
          rw [ej] at ev
          refine zj_aload_n (i := 0) (pc := 31) K dX4_takeBarred_31 rfl rfl ?_
          refine zj_getI (pc := 32) K lf_X4_25 hs_R rfl dX4_takeBarred_32 ?_
          refine zj_if_ne (tgt := 90) (pc := 35) K dX4_takeBarred_35 (by decide) (fun c_35 => ?_) (fun c_35 => ?_)
          · exact absurd q2 c_35
          · refine zj_aload_n (i := 0) (pc := 38) K dX4_takeBarred_38 rfl rfl ?_
            refine zj_getR (pc := 39) K lf_X4_18 hs_R rfl dX4_takeBarred_39 ?_
            refine zj_aload_n (i := 0) (pc := 42) K dX4_takeBarred_42 rfl rfl ?_
            refine zj_getI (pc := 43) K lf_X4_124 hs_R rfl dX4_takeBarred_43 ?_
            refine zj_cV1I (pc := 46) K lm_X4_127 hs_F (m_X6_hasJudge (Or.inl rfl) (n := J) (by rw [zf1 4 (by decide)]; exact e46) (by omega)) (by decide) rfl (Nat.le_of_ble_eq_true rfl) dX4_takeBarred_46 ?_
            refine zj_if_eq (tgt := 63) (pc := 49) K dX4_takeBarred_49 (by decide) (fun c_49 => ?_) (fun c_49 => ?_)
            · replace c_49 := zz_i0.mp c_49
              have h4 := zu_bars_4 (T := zw_T t n) (c := c) (f := f) (w := upd w (33 + c) x1) hK3 ej hj eu7 hJ (fun z => by
                rw [ev, zz_in_nI z.1 (by omega)] at c_49
                cases c_49)
              refine zj_aload_n (i := 0) (pc := 63) K dX4_takeBarred_63 rfl rfl ?_
              refine zj_iconst (v := 4) (pc := 64) K dX4_takeBarred_64 (by decide) ?_
              refine zj_putI (pc := 65) K lf_X4_25 hs_R rfl dX4_takeBarred_65 ?_
              refine zj_goto (tgt := 84) (pc := 68) K dX4_takeBarred_68 (by decide) ?_
              refine zj_iinc (v := 1) (pc := 84) K dX4_takeBarred_84 rfl (by decide) rfl rfl rfl ?_
              refine zj_goto (tgt := 17) (pc := 87) K dX4_takeBarred_87 (by decide) ?_
              first
              | exact lpF _ _ _ (4, q1.2.1) (fun a ha => (zj_s_ne _ _ ha).trans (zf1 a ha)) zf2 zf3 ⟨rfl, by decide, by decide, q4⟩ (hr.trans h4)
              | (have ebit : (1 : Int32) <<< (k 3 7 &&& 31) = zz_bit j := by rw [ev]; rfl
                 rw [ebit]
                 refine ih (i + 1) _ _ _ (zw_T t n q1.2.2.1) (by omega) ?_ (zz_up e2) (fun a ha => (p3 a ha).trans (zf1 a ha)) ((p4 3 (by decide)).trans zf2) ((p4 8 (by decide)).trans zf3) ⟨by rw [p4 2 (by decide)]; exact q2, p5⟩ ?_
                 · have := zu_free_lt (b := x1) (j := j) (by omega) c_60
                   omega
                 · rw [hr, zu_bars_s hK3 ej hjJ eu7 hJ (by rw [eu]; exact c_60), eu, zu_upd2])
            · replace c_49 := zz_n0.mp c_49
              rw [ev] at c_49
              have hjJ := zu_in_lt hj hJ c_49
              refine zj_iload_n (i := 1) (pc := 52) K dX4_takeBarred_52 rfl rfl ?_
              refine zj_aload_n (i := 0) (pc := 53) K dX4_takeBarred_53 rfl rfl ?_
              refine zj_getI (pc := 54) K lf_X4_124 hs_R rfl dX4_takeBarred_54 ?_
              refine zj_cN2I (pc := 57) K lm_X4_131 (m_X7_has (j := j) ev (by omega)) (by decide) rfl (Nat.le_of_ble_eq_true rfl) dX4_takeBarred_57 ?_
              refine zj_if_eq (tgt := 71) (pc := 60) K dX4_takeBarred_60 (by decide) (fun c_60 => ?_) (fun c_60 => ?_)
              · replace c_60 := zz_i0.mp c_60
                refine zj_iload_n (i := 1) (pc := 71) K dX4_takeBarred_71 rfl rfl ?_
                refine zj_iconst (v := 1) (pc := 72) K dX4_takeBarred_72 (by decide) ?_
                refine zj_aload_n (i := 0) (pc := 73) K dX4_takeBarred_73 rfl rfl ?_
                refine zj_getI (pc := 74) K lf_X4_124 hs_R rfl dX4_takeBarred_74 ?_
                refine zj_ishl (pc := 77) K dX4_takeBarred_77 ?_
                refine zj_ior (pc := 78) K dX4_takeBarred_78 ?_
                refine zj_istore_n (i := 1) (pc := 79) K dX4_takeBarred_79 rfl rfl rfl rfl ?_
                refine zj_aload_n (i := 0) (pc := 80) K dX4_takeBarred_80 rfl rfl ?_
                refine zj_cV0P (pc := 81) K lm_X4_39 hs_R (m_X4_step (n := n) (a := q1.2.2.1) (by first | exact eL | exact eLq) hn q5 ht.2.2) (by decide) rfl (Nat.le_of_ble_eq_true rfl) dX4_takeBarred_81 (fun v5 k5 g5 hp5 => ?_)
                obtain ⟨rfl, rfl, p3, p4, p5⟩ := zu_stepP etq ht.2.2 hp5
                refine zj_iinc (v := 1) (pc := 84) K dX4_takeBarred_84 rfl (by decide) rfl rfl rfl ?_
                refine zj_goto (tgt := 17) (pc := 87) K dX4_takeBarred_87 (by decide) ?_
                first
                | exact lpF _ _ _ (4, q1.2.1) (fun a ha => (zj_s_ne _ _ ha).trans (zf1 a ha)) zf2 zf3 ⟨rfl, by decide, by decide, q4⟩ (hr.trans h4)
                | (have ebit : (1 : Int32) <<< (k 3 7 &&& 31) = zz_bit j := by rw [ev]; rfl
                   rw [ebit]
                   refine ih (i + 1) _ _ _ (zw_T t n q1.2.2.1) (by omega) ?_ (zz_up e2) (fun a ha => (p3 a ha).trans (zf1 a ha)) ((p4 3 (by decide)).trans zf2) ((p4 8 (by decide)).trans zf3) ⟨by rw [p4 2 (by decide)]; exact q2, p5⟩ ?_
                   · have := zu_free_lt (b := x1) (j := j) (by omega) c_60
                     omega
                   · rw [hr, zu_bars_s hK3 ej hjJ eu7 hJ (by rw [eu]; exact c_60), eu, zu_upd2])
              · replace c_60 := zz_n0.mp c_60
                have h4 := zu_bars_4 (T := zw_T t n) (c := c) (f := f) (w := upd w (33 + c) x1) hK3 ej hj eu7 hJ (fun z => by
                  have z2 := z.2
                  rw [eu, c_60] at z2
                  cases z2)
                refine zj_aload_n (i := 0) (pc := 63) K dX4_takeBarred_63 rfl rfl ?_
                refine zj_iconst (v := 4) (pc := 64) K dX4_takeBarred_64 (by decide) ?_
                refine zj_putI (pc := 65) K lf_X4_25 hs_R rfl dX4_takeBarred_65 ?_
                refine zj_goto (tgt := 84) (pc := 68) K dX4_takeBarred_68 (by decide) ?_
                refine zj_iinc (v := 1) (pc := 84) K dX4_takeBarred_84 rfl (by decide) rfl rfl rfl ?_
                refine zj_goto (tgt := 17) (pc := 87) K dX4_takeBarred_87 (by decide) ?_
                first
                | exact lpF _ _ _ (4, q1.2.1) (fun a ha => (zj_s_ne _ _ ha).trans (zf1 a ha)) zf2 zf3 ⟨rfl, by decide, by decide, q4⟩ (hr.trans h4)
                | (have ebit : (1 : Int32) <<< (k 3 7 &&& 31) = zz_bit j := by rw [ev]; rfl
                   rw [ebit]
                   refine ih (i + 1) _ _ _ (zw_T t n q1.2.2.1) (by omega) ?_ (zz_up e2) (fun a ha => (p3 a ha).trans (zf1 a ha)) ((p4 3 (by decide)).trans zf2) ((p4 8 (by decide)).trans zf3) ⟨by rw [p4 2 (by decide)]; exact q2, p5⟩ ?_
                   · have := zu_free_lt (b := x1) (j := j) (by omega) c_60
                     omega
                   · rw [hr, zu_bars_s hK3 ej hjJ eu7 hJ (by rw [eu]; exact c_60), eu, zu_upd2])
  show zj_J E Γ 3 0 [(0, .ref (E.2.1 3))] [] h g
  refine zj_iconst (v := 0) (pc := 0) K dX4_takeBarred_0 (by decide) ?_
  refine zj_istore_n (i := 1) (pc := 1) K dX4_takeBarred_1 rfl rfl rfl rfl ?_
  refine zj_aload_n (i := 0) (pc := 2) K dX4_takeBarred_2 rfl rfl ?_
  refine zj_getI (pc := 3) K lf_X4_42 hs_R rfl dX4_takeBarred_3 ?_
  refine zj_iconst (v := 3) (pc := 6) K dX4_takeBarred_6 (by decide) ?_
  refine zj_icmp_eq (tgt := 15) (pc := 7) K dX4_takeBarred_7 (by decide) (fun c_7 => ?_) (fun c_7 => ?_)
  · have hK3 : q.1 = 3 := by
      rw [q6] at c_7
      exact (nI_eq (b := 3) (by omega) (by omega)).mp c_7
    have hr : zu_bar1 (zw_T t n) c q w = zu_bars (zw_T t n) c 10 q w := if_pos hK3
    refine zj_iconst (v := 0) (pc := 15) K dX4_takeBarred_15 (by decide) ?_
    refine zj_istore_n (i := 2) (pc := 16) K dX4_takeBarred_16 rfl rfl rfl rfl ?_
    first
    | exact lpF _ _ _ (1, q.2.1) (fun a ha => zj_s_ne _ _ ha) rfl rfl ⟨rfl, by decide, by decide, q4⟩ hr
    | exact lp 10 0 _ _ _ q (by decide) (Nat.lt_of_le_of_lt (zu_free_le _) (by decide)) rfl (fun _ _ => rfl) rfl rfl ⟨q2, q4, q5, q6, q7, q8⟩ (by rw [zu_upd_self hz]; exact hr)
  · have hK3 : ¬ q.1 = 3 := fun z => c_7 (by rw [q6, z]; rfl)
    have hr : zu_bar1 (zw_T t n) c q w = .inl (1, q.2.1) := if_neg hK3
    refine zj_aload_n (i := 0) (pc := 10) K dX4_takeBarred_10 rfl rfl ?_
    refine zj_iconst (v := 1) (pc := 11) K dX4_takeBarred_11 (by decide) ?_
    refine zj_putI (pc := 12) K lf_X4_25 hs_R rfl dX4_takeBarred_12 ?_
    refine zj_iconst (v := 0) (pc := 15) K dX4_takeBarred_15 (by decide) ?_
    refine zj_istore_n (i := 2) (pc := 16) K dX4_takeBarred_16 rfl rfl rfl rfl ?_
    first
    | exact lpF _ _ _ (1, q.2.1) (fun a ha => zj_s_ne _ _ ha) rfl rfl ⟨rfl, by decide, by decide, q4⟩ hr
    | exact lp 10 0 _ _ _ q (by decide) (Nat.lt_of_le_of_lt (zu_free_le _) (by decide)) rfl (fun _ _ => rfl) rfl rfl ⟨q2, q4, q5, q6, q7, q8⟩ (by rw [zu_upd_self hz]; exact hr)
