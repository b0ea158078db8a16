set_option maxHeartbeats 4000000 in
set_option maxRecDepth 20000 in
theorem m_X4_read {l : Launch} {E : zj_E} {h : zj_H} {g : zj_G} {n : Nat} {t : Nat → Int32} (et : h 2 = t) (eL : h 1 1 = nI n) (hn : n ≤ 540)  : zj_M l E yX4_read cX4_read 2 (some .boolean) 7 [.ref (E.2.1 3)] h g (fun v h' g' => g' = g ∧ zu_fr h h' ∧ match zu_text (zw_T t n) (zu_is t) n with
  | .inl (k, p) => v = some (.int 0) ∧ h' 3 2 = nI k ∧ 1 ≤ k ∧ k ≤ 4 ∧ h' 3 4 = nI p
  | .inr (l, w) => v = some (.int 1) ∧ h' 3 2 = 0 ∧ h' 3 3 = nI l ∧ zu_d h' w ∧ ∃ J C, zu_wf w J C) := by
  refine zj_M.of RX4 (by decide) rfl (Nat.le_of_ble_eq_true rfl) ?_
  intro Γ hΓ K Rt
  subst hΓ
  have fin : ∀ (x1 : Int32) (k : zj_H) (r : zuR), zu_fr h k → zu_C k t n r → zu_D k r → (∀ e, r = .inl e → zu_text (zw_T t n) (zu_is t) n = .inl e) → (∀ q w, r = .inr (q, w) → q.2.1 ≤ 540 ∧ ∃ l, k 3 3 = nI l ∧ (∃ J C, zu_wf w J C) ∧ zu_text (zw_T t n) (zu_is t) n = (if 500 < n then .inl (1, q.2.1) else .inr (l, w))) → zj_J E Γ 2 65 [(0, .ref (E.2.1 3)), (1, .int x1)] [] k g := by
    intro x1 k r zf zc zd ze zi
    have eLk : k 1 1 = nI n := by rw [zf 1 (by decide)]; exact eL
    first
    | skip
      refine zj_aload_n (i := 0) (pc := 65) K dX4_read_65 rfl rfl ?_
      refine zj_getI (pc := 66) K lf_X4_25 hs_R rfl dX4_read_66 ?_
      refine zj_if_ne (tgt := 90) (pc := 69) K dX4_read_69 (by decide) (fun c_69 => ?_) (fun c_69 => ?_)
      · obtain ⟨e, rfl⟩ := zu_flt zc c_69
        have hr := ze e rfl
        refine zj_aload_n (i := 0) (pc := 90) K dX4_read_90 rfl rfl ?_
        refine zj_getI (pc := 91) K lf_X4_25 hs_R rfl dX4_read_91 ?_
        refine zj_if_ne (tgt := 101) (pc := 94) K dX4_read_94 (by decide) (fun c_94 => ?_) (fun c_94 => ?_)
        · refine zj_iconst (v := 0) (pc := 101) K dX4_read_101 (by decide) ?_
          exact zj_zret K Rt dX4_read_102 (by decide) (by
            first
            | exact absurd c_94 c_69
            | exact absurd c_69 c_94
            | exact absurd rfl c_94
            | (exfalso; exact absurd (show (1 : Int32) = 0 from c_94) (by decide))
            | (refine ⟨rfl, zf, ?_⟩; show (match zu_text (zw_T t n) (zu_is t) n with | .inl (k, p) => _ | .inr (l, w) => _); rw [hr]; exact ⟨rfl, zc.1, zc.2.1, zc.2.2.1, zc.2.2.2⟩)
            | (refine ⟨rfl, zf, ?_⟩; show (match zu_text (zw_T t n) (zu_is t) n with | .inl (k, p) => _ | .inr (l, w) => _); rw [hr]; exact ⟨rfl, q2, hl, zd, hwf⟩)
            | (refine ⟨rfl, fun a ha => (zj_s_ne _ _ (by omega)).trans (zf a ha), ?_⟩; show (match zu_text (zw_T t n) (zu_is t) n with | .inl (k, p) => _ | .inr (l, w) => _); rw [hr]; exact ⟨rfl, rfl, by decide, by decide, q4⟩))
        · refine zj_iconst (v := 1) (pc := 97) K dX4_read_97 (by decide) ?_
          refine zj_goto (tgt := 102) (pc := 98) K dX4_read_98 (by decide) ?_
          exact zj_zret K Rt dX4_read_102 (by decide) (by
            first
            | exact absurd c_94 c_69
            | exact absurd c_69 c_94
            | exact absurd rfl c_94
            | (exfalso; exact absurd (show (1 : Int32) = 0 from c_94) (by decide))
            | (refine ⟨rfl, zf, ?_⟩; show (match zu_text (zw_T t n) (zu_is t) n with | .inl (k, p) => _ | .inr (l, w) => _); rw [hr]; exact ⟨rfl, zc.1, zc.2.1, zc.2.2.1, zc.2.2.2⟩)
            | (refine ⟨rfl, zf, ?_⟩; show (match zu_text (zw_T t n) (zu_is t) n with | .inl (k, p) => _ | .inr (l, w) => _); rw [hr]; exact ⟨rfl, q2, hl, zd, hwf⟩)
            | (refine ⟨rfl, fun a ha => (zj_s_ne _ _ (by omega)).trans (zf a ha), ?_⟩; show (match zu_text (zw_T t n) (zu_is t) n with | .inl (k, p) => _ | .inr (l, w) => _); rw [hr]; exact ⟨rfl, rfl, by decide, by decide, q4⟩))
      · obtain ⟨q, w, rfl⟩ := zu_nof zc c_69
        obtain ⟨q2, q4, q5, q6, q7, q8⟩ := zc
        obtain ⟨hs5, l, hl, hwf, hr⟩ := zi q w rfl
        refine zj_aload_n (i := 0) (pc := 72) K dX4_read_72 rfl rfl ?_
        refine zj_getR (pc := 73) K lf_X4_9 hs_R rfl dX4_read_73 ?_
        refine zj_getI (pc := 76) K lf_X4_48 hs_T rfl dX4_read_76 ?_
        refine zj_sipush (v := 500) (pc := 79) K dX4_read_79 (by decide) ?_
        refine zj_icmp_le (tgt := 90) (pc := 82) K dX4_read_82 (by decide) (fun c_82 => ?_) (fun c_82 => ?_)
        · rw [eLk] at c_82
          have hn5 : ¬ 500 < n := Nat.not_lt.mpr ((nI_leI (b := 500) (by omega) (by omega)).mp c_82)
          rw [if_neg hn5] at hr
          refine zj_aload_n (i := 0) (pc := 90) K dX4_read_90 rfl rfl ?_
          refine zj_getI (pc := 91) K lf_X4_25 hs_R rfl dX4_read_91 ?_
          refine zj_if_ne (tgt := 101) (pc := 94) K dX4_read_94 (by decide) (fun c_94 => ?_) (fun c_94 => ?_)
          · refine zj_iconst (v := 0) (pc := 101) K dX4_read_101 (by decide) ?_
            exact zj_zret K Rt dX4_read_102 (by decide) (by
              first
              | exact absurd c_94 c_69
              | exact absurd c_69 c_94
              | exact absurd rfl c_94
              | (exfalso; exact absurd (show (1 : Int32) = 0 from c_94) (by decide))
              | (refine ⟨rfl, zf, ?_⟩; show (match zu_text (zw_T t n) (zu_is t) n with | .inl (k, p) => _ | .inr (l, w) => _); rw [hr]; exact ⟨rfl, zc.1, zc.2.1, zc.2.2.1, zc.2.2.2⟩)
              | (refine ⟨rfl, zf, ?_⟩; show (match zu_text (zw_T t n) (zu_is t) n with | .inl (k, p) => _ | .inr (l, w) => _); rw [hr]; exact ⟨rfl, q2, hl, zd, hwf⟩)
              | (refine ⟨rfl, fun a ha => (zj_s_ne _ _ (by omega)).trans (zf a ha), ?_⟩; show (match zu_text (zw_T t n) (zu_is t) n with | .inl (k, p) => _ | .inr (l, w) => _); rw [hr]; exact ⟨rfl, rfl, by decide, by decide, q4⟩))
          · refine zj_iconst (v := 1) (pc := 97) K dX4_read_97 (by decide) ?_
            refine zj_goto (tgt := 102) (pc := 98) K dX4_read_98 (by decide) ?_
            exact zj_zret K Rt dX4_read_102 (by decide) (by
              first
              | exact absurd c_94 c_69
              | exact absurd c_69 c_94
              | exact absurd rfl c_94
              | (exfalso; exact absurd (show (1 : Int32) = 0 from c_94) (by decide))
              | (refine ⟨rfl, zf, ?_⟩; show (match zu_text (zw_T t n) (zu_is t) n with | .inl (k, p) => _ | .inr (l, w) => _); rw [hr]; exact ⟨rfl, zc.1, zc.2.1, zc.2.2.1, zc.2.2.2⟩)
              | (refine ⟨rfl, zf, ?_⟩; show (match zu_text (zw_T t n) (zu_is t) n with | .inl (k, p) => _ | .inr (l, w) => _); rw [hr]; exact ⟨rfl, q2, hl, zd, hwf⟩)
              | (refine ⟨rfl, fun a ha => (zj_s_ne _ _ (by omega)).trans (zf a ha), ?_⟩; show (match zu_text (zw_T t n) (zu_is t) n with | .inl (k, p) => _ | .inr (l, w) => _); rw [hr]; exact ⟨rfl, rfl, by decide, by decide, q4⟩))
        · rw [eLk] at c_82
          have hn5 : 500 < n := Nat.lt_of_not_le (fun z => c_82 ((nI_leI (b := 500) (by omega) (by omega)).mpr z))
          rw [if_pos hn5] at hr
          refine zj_aload_n (i := 0) (pc := 85) K dX4_read_85 rfl rfl ?_
          refine zj_iconst (v := 1) (pc := 86) K dX4_read_86 (by decide) ?_
          refine zj_putI (pc := 87) K lf_X4_25 hs_R rfl dX4_read_87 ?_
          refine zj_aload_n (i := 0) (pc := 90) K dX4_read_90 rfl rfl ?_
          refine zj_getI (pc := 91) K lf_X4_25 hs_R rfl dX4_read_91 ?_
          refine zj_if_ne (tgt := 101) (pc := 94) K dX4_read_94 (by decide) (fun c_94 => ?_) (fun c_94 => ?_)
          · refine zj_iconst (v := 0) (pc := 101) K dX4_read_101 (by decide) ?_
            exact zj_zret K Rt dX4_read_102 (by decide) (by
              first
              | exact absurd c_94 c_69
              | exact absurd c_69 c_94
              | exact absurd rfl c_94
              | (exfalso; exact absurd (show (1 : Int32) = 0 from c_94) (by decide))
              | (refine ⟨rfl, zf, ?_⟩; show (match zu_text (zw_T t n) (zu_is t) n with | .inl (k, p) => _ | .inr (l, w) => _); rw [hr]; exact ⟨rfl, zc.1, zc.2.1, zc.2.2.1, zc.2.2.2⟩)
              | (refine ⟨rfl, zf, ?_⟩; show (match zu_text (zw_T t n) (zu_is t) n with | .inl (k, p) => _ | .inr (l, w) => _); rw [hr]; exact ⟨rfl, q2, hl, zd, hwf⟩)
              | (refine ⟨rfl, fun a ha => (zj_s_ne _ _ (by omega)).trans (zf a ha), ?_⟩; show (match zu_text (zw_T t n) (zu_is t) n with | .inl (k, p) => _ | .inr (l, w) => _); rw [hr]; exact ⟨rfl, rfl, by decide, by decide, q4⟩))
          · refine zj_iconst (v := 1) (pc := 97) K dX4_read_97 (by decide) ?_
            refine zj_goto (tgt := 102) (pc := 98) K dX4_read_98 (by decide) ?_
            exact zj_zret K Rt dX4_read_102 (by decide) (by
              first
              | exact absurd c_94 c_69
              | exact absurd c_69 c_94
              | exact absurd rfl c_94
              | (exfalso; exact absurd (show (1 : Int32) = 0 from c_94) (by decide))
              | (refine ⟨rfl, zf, ?_⟩; show (match zu_text (zw_T t n) (zu_is t) n with | .inl (k, p) => _ | .inr (l, w) => _); rw [hr]; exact ⟨rfl, zc.1, zc.2.1, zc.2.2.1, zc.2.2.2⟩)
              | (refine ⟨rfl, zf, ?_⟩; show (match zu_text (zw_T t n) (zu_is t) n with | .inl (k, p) => _ | .inr (l, w) => _); rw [hr]; exact ⟨rfl, q2, hl, zd, hwf⟩)
              | (refine ⟨rfl, fun a ha => (zj_s_ne _ _ (by omega)).trans (zf a ha), ?_⟩; show (match zu_text (zw_T t n) (zu_is t) n with | .inl (k, p) => _ | .inr (l, w) => _); rw [hr]; exact ⟨rfl, rfl, by decide, by decide, q4⟩))
  have lpF : ∀ (x1 : Int32) (k : zj_H) (e : Nat × Nat), zu_fr h k → zu_C k t n (.inl e) → zu_text (zw_T t n) (zu_is t) n = .inl e → zj_J E Γ 2 33 [(0, .ref (E.2.1 3)), (1, .int x1)] [] k g := by
    intro x1 k e zf zc hr
    first
    | skip
      refine zj_iload_n (i := 1) (pc := 33) K dX4_read_33 rfl rfl ?_
      refine zj_sipush (v := 540) (pc := 34) K dX4_read_34 (by decide) ?_
      refine zj_icmp_ge (tgt := 65) (pc := 37) K dX4_read_37 (by decide) (fun c_37 => ?_) (fun c_37 => ?_)
      · exact fin _ _ (.inl e) zf zc trivial (fun e1 z => by cases z; exact hr) (fun q w z => by cases z)
      · refine zj_aload_n (i := 0) (pc := 40) K dX4_read_40 rfl rfl ?_
        refine zj_getI (pc := 41) K lf_X4_42 hs_R rfl dX4_read_41 ?_
        refine zj_iconst (v := 1) (pc := 44) K dX4_read_44 (by decide) ?_
        refine zj_icmp_eq (tgt := 65) (pc := 45) K dX4_read_45 (by decide) (fun c_45 => ?_) (fun c_45 => ?_)
        · exact fin _ _ (.inl e) zf zc trivial (fun e1 z => by cases z; exact hr) (fun q w z => by cases z)
        · refine zj_aload_n (i := 0) (pc := 48) K dX4_read_48 rfl rfl ?_
          refine zj_getI (pc := 49) K lf_X4_25 hs_R rfl dX4_read_49 ?_
          refine zj_if_ne (tgt := 65) (pc := 52) K dX4_read_52 (by decide) (fun c_52 => ?_) (fun c_52 => ?_)
          · exact fin _ _ (.inl e) zf zc trivial (fun e1 z => by cases z; exact hr) (fun q w z => by cases z)
          · obtain ⟨q9, w9, h9⟩ := zu_nof zc c_52
            cases h9
  have loop : ∀ (f l : Nat) (x1 : Int32) (k : zj_H) (q : zuK) (w : zuW), zu_fr h k → zu_C k t n (.inr (q, w)) → zu_d k w → zu_text (zw_T t n) (zu_is t) n = zu_lines (zw_T t n) (zu_is t) n f l (.inr (q, w)) → k 3 3 = nI l → x1 = nI l → (∃ J C, zu_wf w J C) → (l = 0 ↔ w 0 = 0) → n + 1 < q.2.2.1 + f → (q.1 ≠ 1 → l < q.2.2.1) → l ≤ 1000 → zj_J E Γ 2 33 [(0, .ref (E.2.1 3)), (1, .int x1)] [] k g := by
    intro f
    induction f with
    | zero =>
      intro l x1 k q w zf zc zd hr e33 e1 hwf hl0 hf hl hl1
      have := (zu_tk_1 zc.2.2.2.2.2).2.2
      omega
    | succ f ih =>
      intro l x1 k q w zf zc zd hr e33 e1 hwf hl0 hf hl hl1
      obtain ⟨q2, q4, q5, q6, q7, q8⟩ := id zc
      have ht := zu_tk_1 q8
      have etk : k 2 = t := by rw [zf 2 (by decide)]; exact et
      have eLk : k 1 1 = nI n := by rw [zf 1 (by decide)]; exact eL
      have hr1 : q.1 = 1 → zu_text (zw_T t n) (zu_is t) n = (if 500 < n then .inl (1, q.2.1) else .inr (l, w)) := fun z => by
        rw [hr]
        show (if q.1 = 1 then _ else _) = _
        rw [if_pos z]
      refine zj_iload_n (i := 1) (pc := 33) K dX4_read_33 rfl rfl ?_
      refine zj_sipush (v := 540) (pc := 34) K dX4_read_34 (by decide) ?_
      refine zj_icmp_ge (tgt := 65) (pc := 37) K dX4_read_37 (by decide) (fun c_37 => ?_) (fun c_37 => ?_)
      · have hl5 : 540 ≤ l := zz_ge e1 (show (540 : Int32) = nI 540 from rfl) (by omega) (by decide) c_37
        have hK1 : q.1 = 1 := Classical.byContradiction (fun z => by have := hl z; omega)
        exact fin _ _ (.inr (q, w)) zf zc zd (fun e z => by cases z) (fun q1 w1 z => by cases z; exact ⟨by omega, l, e33, hwf, hr1 hK1⟩)
      · refine zj_aload_n (i := 0) (pc := 40) K dX4_read_40 rfl rfl ?_
        refine zj_getI (pc := 41) K lf_X4_42 hs_R rfl dX4_read_41 ?_
        refine zj_iconst (v := 1) (pc := 44) K dX4_read_44 (by decide) ?_
        refine zj_icmp_eq (tgt := 65) (pc := 45) K dX4_read_45 (by decide) (fun c_45 => ?_) (fun c_45 => ?_)
        · have hK1 : q.1 = 1 := by
            rw [q6] at c_45
            exact (nI_eq (b := 1) (by omega) (by omega)).mp c_45
          exact fin _ _ (.inr (q, w)) zf zc zd (fun e z => by cases z) (fun q1 w1 z => by cases z; exact ⟨by omega, l, e33, hwf, hr1 hK1⟩)
        · have hK1 : ¬ q.1 = 1 := fun z => c_45 (by rw [q6, z]; rfl)
          have hlt := hl hK1
          have hr2 : zu_text (zw_T t n) (zu_is t) n = zu_lines (zw_T t n) (zu_is t) n f (l + 1) (zu_sign (zw_T t n) (zu_line (zw_T t n) (zu_is t) q w)) := by
            rw [hr]
            show (if q.1 = 1 then _ else _) = _
            rw [if_neg hK1]
          obtain ⟨J, C, hJC⟩ := hwf
          refine zj_aload_n (i := 0) (pc := 48) K dX4_read_48 rfl rfl ?_
          refine zj_getI (pc := 49) K lf_X4_25 hs_R rfl dX4_read_49 ?_
          refine zj_if_ne (tgt := 65) (pc := 52) K dX4_read_52 (by decide) (fun c_52 => ?_) (fun c_52 => ?_)
          · exact absurd q2 c_52
          · refine zj_aload_n (i := 0) (pc := 55) K dX4_read_55 rfl rfl ?_
            refine zj_cV0P (pc := 56) K lm_X4_45 hs_R (m_X4_readLine (n := n) (t := t) etk eLk hn zc zd hJC.jc (by rw [e33, ← hl0]; exact ⟨fun z => (nI_eq (b := 0) (by omega) (by omega)).mp z, fun z => by rw [z]; rfl⟩)) (by decide) rfl (Nat.le_of_ble_eq_true rfl) dX4_read_56 (fun v3 k3 g3 hp3 => ?_)
            obtain ⟨rfl, rfl, l3, hS3, hl3⟩ := hp3
            refine zj_iinc (v := 1) (pc := 59) K dX4_read_59 rfl (by decide) rfl rfl rfl ?_
            refine zj_goto (tgt := 33) (pc := 62) K dX4_read_62 (by decide) ?_
            have hF3 := zf.tr hS3.1
            cases hs : zu_sign (zw_T t n) (zu_line (zw_T t n) (zu_is t) q w) with
            | inl e =>
              have zc3 := hS3.2.2.1
              rw [hs] at hr2 zc3
              refine lpF _ _ e hF3 zc3 ?_
              rw [hr2]
              obtain ⟨f0, hf0⟩ : ∃ f0, f = f0 + 1 := ⟨f - 1, by omega⟩
              rw [hf0]; rfl
            | inr qw =>
              obtain ⟨q1, w1⟩ := qw
              have zc3 := hS3.2.2.1
              have zd3 := hS3.2.2.2
              have ha := zu_adv_sign (zu_adv_line ht.2.2) hs
              obtain ⟨q0, hq0⟩ := ha.2.2
              obtain ⟨J1, C1, hw1, hw10⟩ := zu_line_wf hJC hq0
              have hl4 := hl3 q1 w1 hs
              rw [hs] at hr2 zc3 zd3
              exact ih (l + 1) _ _ q1 w1 hF3 zc3 zd3 hr2 (by rw [hS3.2.1, hl4, e33, nI_1]) (zz_up e1) ⟨J1, C1, hw1⟩ ⟨fun z => by omega, fun z => absurd z hw10⟩ (by omega) (fun _ => by omega) (by omega)
  show zj_J E Γ 2 0 [(0, .ref (E.2.1 3))] [] h g
  refine zj_aload_n (i := 0) (pc := 0) K dX4_read_0 rfl rfl ?_
  refine zj_getR (pc := 1) K lf_X4_18 hs_R rfl dX4_read_1 ?_
  refine zj_cV0W (pc := 4) K lm_X4_22 hs_F (m_X6_clear (Or.inl rfl)) (by decide) rfl (Nat.le_of_ble_eq_true rfl) dX4_read_4 ?_
  refine zj_aload_n (i := 0) (pc := 7) K dX4_read_7 rfl rfl ?_
  refine zj_iconst (v := 0) (pc := 8) K dX4_read_8 (by decide) ?_
  refine zj_putI (pc := 9) K lf_X4_25 hs_R rfl dX4_read_9 ?_
  refine zj_aload_n (i := 0) (pc := 12) K dX4_read_12 rfl rfl ?_
  refine zj_iconst (v := 0) (pc := 13) K dX4_read_13 (by decide) ?_
  refine zj_putI (pc := 14) K lf_X4_29 hs_R rfl dX4_read_14 ?_
  refine zj_aload_n (i := 0) (pc := 17) K dX4_read_17 rfl rfl ?_
  refine zj_iconst (v := 0) (pc := 18) K dX4_read_18 (by decide) ?_
  refine zj_putI (pc := 19) K lf_X4_32 hs_R rfl dX4_read_19 ?_
  refine zj_aload_n (i := 0) (pc := 22) K dX4_read_22 rfl rfl ?_
  refine zj_iconst (v := 0) (pc := 23) K dX4_read_23 (by decide) ?_
  refine zj_putZ (pc := 24) K lf_X4_35 hs_R rfl (by decide) dX4_read_24 ?_
  refine zj_hn (fun k0 ek0 => ?_)
  have eL0 : k0 1 1 = nI n := by rw [ek0]; exact eL
  have et0 : k0 2 = t := by rw [ek0]; exact et
  have e50 : k0 3 5 = nI 0 := by rw [ek0]; rfl
  have e20 : k0 3 2 = 0 := by rw [ek0]; rfl
  have e30 : k0 3 3 = 0 := by rw [ek0]; rfl
  have e80 : k0 3 8 = 0 := by rw [ek0]; rfl
  have e40 : ∀ b, b < 8 → k0 4 b = (if b = 5 then 1 else 0) := fun b hb => by rw [ek0]; exact if_pos hb
  have hF0 : zu_fr h k0 := fun a ha => by rw [ek0, zj_s_ne _ _ (by omega), zj_s_ne _ _ (by omega), zj_s_ne _ _ (by omega), zj_s_ne _ _ (by omega), zj_s_ne _ _ (by omega)]
  have hd0 : zu_d k0 (fun _ => 0) := ⟨e40 0 (by decide), e40 1 (by decide), e40 2 (by decide), e40 3 (by decide), e40 4 (by decide), e40 5 (by decide), e80, e40 6 (by decide), e40 7 (by decide), fun j hj => absurd hj (Nat.not_lt_zero _), fun j hj => absurd hj (Nat.not_lt_zero _), fun j hj => absurd hj (Nat.not_lt_zero _)⟩
  refine zj_aload_n (i := 0) (pc := 27) K dX4_read_27 rfl rfl ?_
  refine zj_cV0P (pc := 28) K lm_X4_39 hs_R (m_X4_step (n := n) (a := 0) eL0 hn e50 (Nat.zero_le _)) (by decide) rfl (Nat.le_of_ble_eq_true rfl) dX4_read_28 (fun v1 h1 g1 hp1 => ?_)
  obtain ⟨rfl, rfl, p3, p4, p5⟩ := zu_stepP et0 (Nat.zero_le _) hp1
  refine zj_iconst (v := 0) (pc := 31) K dX4_read_31 (by decide) ?_
  refine zj_istore_n (i := 1) (pc := 32) K dX4_read_32 rfl rfl rfl rfl ?_
  have ht0 := zw_tok_e (zw_T_tok t (Nat.zero_le n))
  exact loop (n + 2) 0 _ h1 (zw_T t n 0) (fun _ => 0) (hF0.tr (fun a ha => p3 a (by omega))) ⟨by rw [p4 2 (by decide)]; exact e20, p5⟩ (zu_d_c (p4 8 (by decide)) (p3 4 (by decide)) (p3 5 (by decide)) (p3 6 (by decide)) (p3 7 (by decide)) hd0) rfl (by rw [p4 3 (by decide)]; exact e30) rfl ⟨0, 0, zu_wf0⟩ ⟨fun _ => rfl, fun _ => rfl⟩ (by omega) (fun z => ht0.2.2.2 z) (by omega)
