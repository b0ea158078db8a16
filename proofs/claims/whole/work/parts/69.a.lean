theorem zw_so_0 {n K : Nat} (h : zw_so n K = 0) : K = 1 ∧ ¬ 500 < n := by
  unfold zw_so at h
  split at h
  · next h1 =>
    split at h
    · cases h
    · next h2 => exact ⟨h1, h2⟩
  · split at h
    · cases h
    · next h2 => exact absurd h h2
theorem zw_so_1 {n K : Nat} (h1 : K = 1) (h2 : ¬ 500 < n) : zw_so n K = 0 := by
  unfold zw_so; rw [if_pos h1, if_neg h2]
theorem zu_line_1 {T : Nat → zuK} {t : Nat → Int32} {q : zuK} {w : zuW} (h : ¬ q.1 = 2) : zu_line T (zu_is t) q w = .inl (1, q.2.1) := by
  have hi : ∀ i, zu_is t q i = false := fun i => zu_is_f (fun z => h z.1)
  unfold zu_line zu_court
  rw [hi 0, hi 1, hi 2, hi 3]
  split <;> rfl
theorem zu_lines_f {T : Nat → zuK} {t : Nat → Int32} {n f l : Nat} {q : zuK} {w : zuW} {e : Nat × Nat} (h : ¬ (q.1 = 1 ∧ ¬ 500 < n)) (he : zu_line T (zu_is t) q w = .inl e) (hf : 0 < f) : zu_lines T (zu_is t) n (f + 1) l (.inr (q, w)) = .inl e := by
  show (if q.1 = 1 then (if 500 < n then _ else _) else _) = _
  by_cases h1 : q.1 = 1
  · rw [if_pos h1]
    have h5 : 500 < n := Classical.byContradiction (fun z => h ⟨h1, z⟩)
    rw [if_pos h5]
    rw [zu_line_1 (fun y => by rw [h1] at y; cases y)] at he
    cases he; rfl
  · rw [if_neg h1, he]
    obtain ⟨f0, rfl⟩ : ∃ f0, f = f0 + 1 := ⟨f - 1, by omega⟩
    rfl
set_option maxHeartbeats 4000000 in
set_option maxRecDepth 20000 in
theorem m_X8_text {l : Launch} {E : zj_E} {h : zj_H} {g : zj_G} {n : Nat} {t : Nat → Int32} (et : h 79 = t) (eN : h 78 2 = nI n) (hn : n ≤ 540) : zj_M l E yX8_text cX8_text 3 (some .int) 5 [.ref (E.2.1 78)] h g (fun v h' g' => zv_fg g g' ∧ (∀ a, a ≠ 78 → a ≠ 80 → a ≠ 81 → h' a = h a) ∧ h' 78 0 = 0 ∧ h' 78 2 = 0 ∧ (match zu_text (zw_T t n) (zu_is t) n with
  | .inl (k, p) => v = some (.int (-1 - nI p)) ∧ h' 78 8 = nI k ∧ h' 80 = h 80 ∧ h' 78 17 = h 78 17
  | .inr (l, w) => v = some (.int (nI l)) ∧ h' 78 8 = 0 ∧ (∀ i, i < 89 → h' 80 i = w i) ∧ h' 78 17 = 0 ∧ ∃ J C, zu_wf w J C)) := by
  refine zj_M.of RX8 (by decide) rfl (Nat.le_of_ble_eq_true rfl) ?_
  intro Γ hΓ K Rt
  subst hΓ
  have lines : ∀ (f l : Nat) (x1 : Int32) (k : zj_H) (g1 : zj_G) (q : zuK) (w : zuW), (∀ a, a ≠ 78 → a ≠ 81 → k a = h a) → k 78 0 = 0 → k 78 2 = 0 → k 78 3 = nI n → k 78 17 = h 78 17 → k 78 8 = 0 → zv_fg g g1 → zv_q k g1 t n q → (∀ i, i < 89 → k 81 i = w i) → zu_text (zw_T t n) (zu_is t) n = zu_lines (zw_T t n) (zu_is t) n f l (.inr (q, w)) → x1 = nI l → (∃ J C, zu_wf w J C) → n + 1 < q.2.2.1 + f → zj_J E Γ 3 55 [(0, .ref (E.2.1 78)), (1, .int x1)] [] k g1 := by
    intro f
    induction f with
    | zero =>
      intro l x1 k g1 q w zf z0 z2 z3 z17 z8 zg zq zw hr e1 hwf hf
      have := (zu_tk_1 zq.2.2.2.2.2).2.2
      omega
    | succ f ih =>
      intro l x1 k g1 q w zf z0 z2 z3 z17 z8 zg zq zw hr e1 hwf hf
      obtain ⟨y5, y4, y6, y7, y2, y8⟩ := id zq
      have hty := zu_tk_1 y8
      have etk : k 79 = t := (zf 79 (by decide) (by decide)).trans et
      obtain ⟨J, C, hJC⟩ := hwf
      refine zj_aload_n (i := 0) (pc := 55) K dX8_text_55 rfl rfl ?_
      refine zj_getI (pc := 56) K lf_X8_27 hs_M rfl dX8_text_56 ?_
      refine zj_if_eq (tgt := 89) (pc := 59) K dX8_text_59 (by decide) (fun c_59 => ?_) (fun c_59 => ?_)
      · rw [y6] at c_59
        have hso : zw_so n q.1 = 0 := (nI_eq (b := 0) (by have := zw_so_le (n := n) hty.1; omega) (by decide)).mp c_59
        have hs2 := zw_so_0 hso
        rw [show zu_lines (zw_T t n) (zu_is t) n (f + 1) l (.inr (q, w)) = .inr (l, w) from (if_pos hs2.1).trans (if_neg hs2.2)] at hr
        refine zj_aload_n (i := 0) (pc := 89) K dX8_text_89 rfl rfl ?_
        refine zj_getR (pc := 90) K lf_X8_67 hs_M rfl dX8_text_90 ?_
        refine zj_iconst (v := 0) (pc := 93) K dX8_text_93 (by decide) ?_
        refine zj_aload_n (i := 0) (pc := 94) K dX8_text_94 rfl rfl ?_
        refine zj_getR (pc := 95) K lf_X8_64 hs_M rfl dX8_text_95 ?_
        refine zj_iconst (v := 0) (pc := 98) K dX8_text_98 (by decide) ?_
        refine zj_cS4W (pc := 99) K lm_X8_125 (m_X8_copy (a := 81) (b := 80) (st0 := 0) (at0 := 0) (n := 89) (m := 89) rfl rfl (by decide) (by decide) (by decide) rfl rfl (by decide) (by decide)) (by decide) rfl (Nat.le_of_ble_eq_true rfl) dX8_text_99 ?_
        refine zj_aload_n (i := 0) (pc := 102) K dX8_text_102 rfl rfl ?_
        refine zj_iconst (v := 0) (pc := 103) K dX8_text_103 (by decide) ?_
        refine zj_putI (pc := 104) K lf_X8_129 hs_M rfl dX8_text_104 ?_
        refine zj_iload_n (i := 1) (pc := 107) K dX8_text_107 rfl rfl ?_
        exact zj_iret K Rt dX8_text_108 (by
          refine ⟨zg, fun a a1 a2 a3 => (zj_s_ne _ _ a1).trans ((zj_s_ne _ _ a2).trans (zf a a1 a3)), z0, z2, ?_⟩
          show (match zu_text (zw_T t n) (zu_is t) n with | .inl (k, p) => _ | .inr (l, w) => _); rw [hr]
          refine ⟨by rw [e1], z8, fun i hi => ?_, rfl, J, C, hJC⟩
          rw [zj_s_ne _ _ (by decide), zj_s_eq, if_pos ⟨Nat.zero_le _, by omega⟩, show 0 + (i - 0) = i by omega]
          exact zw i hi)
      · rw [y6] at c_59
        have hs2 : ¬ (q.1 = 1 ∧ ¬ 500 < n) := fun z => c_59 (by rw [zw_so_1 z.1 z.2]; rfl)
        have hr2 : ∀ e, zu_line (zw_T t n) (zu_is t) q w = .inl e → zu_text (zw_T t n) (zu_is t) n = .inl e := fun e he => by
          rw [hr]
          exact zu_lines_f hs2 he (by omega)
        refine zj_aload_n (i := 0) (pc := 62) K dX8_text_62 rfl rfl ?_
        refine zj_cV0P (pc := 63) K lm_X8_119 hs_M (m_X8_readLine (n := n) (t := t) etk z3 hn zq zw hJC.jc) (by decide) rfl (Nat.le_of_ble_eq_true rfl) dX8_text_63 (fun v1 h1 g2 hp1 => ?_)
        obtain ⟨fr1, fg1, hR1⟩ := hp1
        obtain ⟨b1, rfl, hf1, ht1⟩ := zv_R_b hR1
        refine zj_if_eq (tgt := 76) (pc := 66) K dX8_text_66 (by decide) (fun c_66 => ?_) (fun c_66 => ?_)
        · replace c_66 := zz_i0.mp c_66
          obtain ⟨kf, pf, hz1, yy1, yy2⟩ := hf1 c_66
          have hr3 := hr2 _ hz1
          have frF := fr1
          have fgF := fg1
          refine zj_iconst (v := -1) (pc := 76) K dX8_text_76 (by decide) ?_
          refine zj_aload_n (i := 0) (pc := 77) K dX8_text_77 rfl rfl ?_
          refine zj_getI (pc := 78) K lf_X8_55 hs_M rfl dX8_text_78 ?_
          refine zj_isub (pc := 81) K dX8_text_81 ?_
          exact zj_iret K Rt dX8_text_82 (by
            refine ⟨zg.tr fgF, fun a a1 a2 a3 => (frF.1 a a1 a3).trans (zf a a1 a3), (frF.2 0 (by decide)).trans z0, (frF.2 2 (by decide)).trans z2, ?_⟩
            show (match zu_text (zw_T t n) (zu_is t) n with | .inl (k, p) => _ | .inr (l, w) => _); rw [hr3]
            exact ⟨by rw [yy2], yy1, (frF.1 80 (by decide) (by decide)).trans (zf 80 (by decide) (by decide)), (frF.2 17 (by decide)).trans z17⟩)
        · replace c_66 := zz_n0.mp c_66
          obtain ⟨qe1, we1, hz1, e81, qn1, wn1⟩ := ht1 c_66
          have frA : zv_fr k h1 := fr1
          have hK1 : ¬ q.1 = 1 := fun z => by
            rw [zu_line_1 (fun y => by rw [z] at y; cases y)] at hz1; cases hz1
          refine zj_aload_n (i := 0) (pc := 69) K dX8_text_69 rfl rfl ?_
          refine zj_cV0P (pc := 70) K lm_X8_122 hs_M (m_X8_readEnd (n := n) (t := t) ((frA.1 79 (by decide) (by decide)).trans etk) ((frA.2 3 (by decide)).trans z3) hn qn1 wn1) (by decide) rfl (Nat.le_of_ble_eq_true rfl) dX8_text_70 (fun v2 h2 g3 hp2 => ?_)
          obtain ⟨fr2, fg2, hR2⟩ := hp2
          obtain ⟨b2, rfl, hf2, ht2⟩ := zv_R_b hR2
          refine zj_if_ne (tgt := 83) (pc := 73) K dX8_text_73 (by decide) (fun c_73 => ?_) (fun c_73 => ?_)
          · replace c_73 := zz_n0.mp c_73
            obtain ⟨qe2, we2, hz2, e82, qn2, wn2⟩ := ht2 c_73
            have hsg : zu_sign (zw_T t n) (zu_line (zw_T t n) (zu_is t) q w) = .inr (qe2, we2) := by rw [hz1]; exact hz2
            refine zj_iinc (v := 1) (pc := 83) K dX8_text_83 rfl (by decide) rfl rfl rfl ?_
            refine zj_goto (tgt := 55) (pc := 86) K dX8_text_86 (by decide) ?_
            have ha := zu_adv_sign (zu_adv_line hty.2.2) hsg
            obtain ⟨J1, C1, hw1, _⟩ := zu_line_wf hJC hz1
            have ew : we2 = we1 := by
              obtain ⟨q0, hq0⟩ := ha.2.2
              rw [hz1] at hq0; cases hq0; rfl
            have frB := fr1.tr fr2
            refine ih (l + 1) _ _ _ qe2 we2 (fun a a1 a2 => (frB.1 a a1 a2).trans (zf a a1 a2)) ((frB.2 0 (by decide)).trans z0) ((frB.2 2 (by decide)).trans z2) ((frB.2 3 (by decide)).trans z3) ((frB.2 17 (by decide)).trans z17) (e82.trans (e81.trans z8)) (zg.tr (fg1.tr fg2)) qn2 wn2 ?_ (zz_up e1) ⟨J1, C1, by rw [ew]; exact hw1⟩ (by omega)
            rw [hr]
            show (if q.1 = 1 then _ else _) = _
            rw [if_neg hK1, hsg]
          · replace c_73 := zz_i0.mp c_73
            obtain ⟨kf, pf, hz2, yy1, yy2⟩ := hf2 c_73
            have hr3 : zu_text (zw_T t n) (zu_is t) n = .inl (kf, pf) := by
              rw [hr]
              show (if q.1 = 1 then _ else _) = _
              rw [if_neg hK1, hz1, hz2]
              obtain ⟨f0, rfl⟩ : ∃ f0, f = f0 + 1 := ⟨f - 1, by omega⟩
              rfl
            have frF := fr1.tr fr2
            have fgF := fg1.tr fg2
            refine zj_iconst (v := -1) (pc := 76) K dX8_text_76 (by decide) ?_
            refine zj_aload_n (i := 0) (pc := 77) K dX8_text_77 rfl rfl ?_
            refine zj_getI (pc := 78) K lf_X8_55 hs_M rfl dX8_text_78 ?_
            refine zj_isub (pc := 81) K dX8_text_81 ?_
            exact zj_iret K Rt dX8_text_82 (by
              refine ⟨zg.tr fgF, fun a a1 a2 a3 => (frF.1 a a1 a3).trans (zf a a1 a3), (frF.2 0 (by decide)).trans z0, (frF.2 2 (by decide)).trans z2, ?_⟩
              show (match zu_text (zw_T t n) (zu_is t) n with | .inl (k, p) => _ | .inr (l, w) => _); rw [hr3]
              exact ⟨by rw [yy2], yy1, (frF.1 80 (by decide) (by decide)).trans (zf 80 (by decide) (by decide)), (frF.2 17 (by decide)).trans z17⟩)
  have zero : ∀ (m i : Nat) (x1 x2 : Int32) (k : zj_H), 90 ≤ i + m → i ≤ 89 → (∀ a, a ≠ 78 → a ≠ 81 → k a = h a) → k 78 0 = 0 → k 78 2 = 0 → k 78 3 = nI n → k 78 17 = h 78 17 → k 78 8 = 0 → k 78 4 = 0 → x1 = 0 → x2 = nI i → (∀ j, j < i → k 81 j = 0) → zj_J E Γ 3 32 [(0, .ref (E.2.1 78)), (1, .int x1), (2, .int x2)] [] k g := by
    intro m
    induction m with
    | zero => intro i x1 x2 k h1 h2; omega
    | succ m ih =>
      intro i x1 x2 k h1 h2 zf z0 z2 z3 z17 z8 z4 e1 e2 zz
      refine zj_iload_n (i := 2) (pc := 32) K dX8_text_32 rfl rfl ?_
      refine zj_bipush (v := 89) (pc := 33) K dX8_text_33 (by decide) ?_
      refine zj_icmp_ge (tgt := 51) (pc := 35) K dX8_text_35 (by decide) (fun c_35 => ?_) (fun c_35 => ?_)
      · have hi9 : i = 89 := Nat.le_antisymm h2 (zz_ge e2 (show (89 : Int32) = nI 89 from rfl) (by omega) (by decide) c_35)
        refine zj_aload_n (i := 0) (pc := 51) K dX8_text_51 rfl rfl ?_
        refine zj_cV0P (pc := 52) K lm_X8_95 hs_M (m_X8_go (n := n) (a := 0) z3 hn z4 (Nat.zero_le _)) (by decide) rfl (Nat.le_of_ble_eq_true rfl) dX8_text_52 (fun v5 h5 g5 hp5 => ?_)
        obtain ⟨rfl, m5, o5, fr5, fg5, nq5⟩ := zv_goP (h := k) (t := t) ((zf 79 (by decide) (by decide)).trans et) (Nat.zero_le _) hp5
        refine zj_pick [0, 1] ?_
        exact lines (n + 2) 0 _ h5 _ (zw_T t n 0) (fun _ => 0) (fun a a1 a2 => (fr5.1 a a1 a2).trans (zf a a1 a2)) ((fr5.2 0 (by decide)).trans z0) ((fr5.2 2 (by decide)).trans z2) ((fr5.2 3 (by decide)).trans z3) ((fr5.2 17 (by decide)).trans z17) ((o5 8 (by decide)).trans z8) fg5 nq5 (fun j hj => by rw [m5 81 (by decide)]; exact zz j (by omega)) rfl e1 ⟨0, 0, zu_wf0⟩ (by omega)
      · have hi9 : i < 89 := zz_nge e2 (show (89 : Int32) = nI 89 from rfl) (by omega) (by decide) c_35
        refine zj_aload_n (i := 0) (pc := 38) K dX8_text_38 rfl rfl ?_
        refine zj_getR (pc := 39) K lf_X8_67 hs_M rfl dX8_text_39 ?_
        refine zj_iload_n (i := 2) (pc := 42) K dX8_text_42 rfl rfl ?_
        refine zj_iconst (v := 0) (pc := 43) K dX8_text_43 (by decide) ?_
        refine zj_ast (j := i) (pc := 44) K hs_Mread e2 (by omega) (by first | decide | omega) dX8_text_44 ?_
        refine zj_iinc (v := 1) (pc := 45) K dX8_text_45 rfl (by decide) rfl rfl rfl ?_
        refine zj_goto (tgt := 32) (pc := 48) K dX8_text_48 (by decide) ?_
        refine ih (i + 1) _ _ _ (by omega) (by omega) (fun a a1 a2 => (zj_s_ne _ _ a2).trans (zf a a1 a2)) z0 z2 z3 z17 z8 z4 e1 (zz_up e2) (fun j hj => ?_)
        rw [zj_s_eq]
        by_cases ej : j = i
        · rw [ej, zz_upd_at]
        · rw [zz_upd_ne _ _ ej]; exact zz j (by omega)
  show zj_J E Γ 3 0 [(0, .ref (E.2.1 78))] [] h g
  refine zj_aload_n (i := 0) (pc := 0) K dX8_text_0 rfl rfl ?_
  refine zj_iconst (v := 0) (pc := 1) K dX8_text_1 (by decide) ?_
  refine zj_putI (pc := 2) K lf_X8_1 hs_M rfl dX8_text_2 ?_
  refine zj_aload_n (i := 0) (pc := 5) K dX8_text_5 rfl rfl ?_
  refine zj_aload_n (i := 0) (pc := 6) K dX8_text_6 rfl rfl ?_
  refine zj_getI (pc := 7) K lf_X8_11 hs_M rfl dX8_text_7 ?_
  refine zj_putI (pc := 10) K lf_X8_18 hs_M rfl dX8_text_10 ?_
  refine zj_aload_n (i := 0) (pc := 13) K dX8_text_13 rfl rfl ?_
  refine zj_iconst (v := 0) (pc := 14) K dX8_text_14 (by decide) ?_
  refine zj_putI (pc := 15) K lf_X8_11 hs_M rfl dX8_text_15 ?_
  refine zj_aload_n (i := 0) (pc := 18) K dX8_text_18 rfl rfl ?_
  refine zj_iconst (v := 0) (pc := 19) K dX8_text_19 (by decide) ?_
  refine zj_putI (pc := 20) K lf_X8_52 hs_M rfl dX8_text_20 ?_
  refine zj_aload_n (i := 0) (pc := 23) K dX8_text_23 rfl rfl ?_
  refine zj_iconst (v := 0) (pc := 24) K dX8_text_24 (by decide) ?_
  refine zj_putI (pc := 25) K lf_X8_21 hs_M rfl dX8_text_25 ?_
  refine zj_iconst (v := 0) (pc := 28) K dX8_text_28 (by decide) ?_
  refine zj_istore_n (i := 1) (pc := 29) K dX8_text_29 rfl rfl rfl rfl ?_
  refine zj_iconst (v := 0) (pc := 30) K dX8_text_30 (by decide) ?_
  refine zj_istore_n (i := 2) (pc := 31) K dX8_text_31 rfl rfl rfl rfl ?_
  exact zero 90 0 _ _ _ (by decide) (by decide) (fun a a1 a2 => by rw [zj_s_ne _ _ a1, zj_s_ne _ _ a1, zj_s_ne _ _ a1, zj_s_ne _ _ a1, zj_s_ne _ _ a1]) rfl rfl eN rfl rfl rfl rfl rfl (fun j hj => absurd hj (Nat.not_lt_zero j))
