def zm_row (s : Nat) : Prop := s = 80 ∨ s = 82
theorem zm_rs {s : Nat} (h : zm_row s) : zj_at s (zj_arr 89) := by rcases h with rfl | rfl <;> rfl
theorem zm_rn {s : Nat} (h : zm_row s) : 80 ≤ s ∧ s ≤ 82 := by rcases h with rfl | rfl <;> exact ⟨by decide, by decide⟩
def zτM (h : zj_H) (s J C u : Nat) : zτ := (J, C, u, h s 1, h s 2, h s 3, zmS h s, zmW h s, fun b => zm_sen (zmS h s) (h s 6) b J)
def zδM (h : zj_H) (s : Nat) : zδ := (h s 5, h s 17, zmT h s, zmB h s, zmX h s)
theorem zτM_congr {h q : zj_H} {s J C u : Nat} (e : q s = h s) : zτM q s J C u = zτM h s J C u := by unfold zτM zmS zmW; rw [e]
theorem zδM_congr {h q : zj_H} {s : Nat} (e : q s = h s) : zδM q s = zδM h s := by unfold zδM zmT zmB zmX; rw [e]
theorem zm_law_congr {h q : zj_H} {s J c : Nat} (e : q s = h s) : zm_law q s J c = zm_law h s J c := by unfold zm_law zmS; rw [e]
/-- the next tension, as the reference looks for it -/
def zm_nx (ts : Nat → Int32) (w : Int32) : Nat → Int32
  | 0 => -1
  | i + 1 => if w < ts i ∧ (zm_nx ts w i = -1 ∨ ts i < zm_nx ts w i) then ts i else zm_nx ts w i
theorem zm_nx_la {ts : Nat → Int32} {w : Int32} (h0 : ∀ i, 0 ≤ ts i) : ∀ n, ((∃ j, j < n ∧ w < ts j) → zm_nx ts w n = zp_la ts w n) ∧ ((¬ ∃ j, j < n ∧ w < ts j) → zm_nx ts w n = -1 ∧ zp_la ts w n = 2147483647)
  | 0 => ⟨fun ⟨j, hj, _⟩ => absurd hj (Nat.not_lt_zero j), fun _ => ⟨rfl, rfl⟩⟩
  | n + 1 => by
    obtain ⟨ih1, ih2⟩ := zm_nx_la h0 n
    by_cases hw : w < ts n
    · refine ⟨fun _ => ?_, fun z => absurd ⟨n, Nat.lt_succ_self n, hw⟩ z⟩
      unfold zm_nx zp_la
      rw [if_pos hw]
      by_cases he : ∃ j, j < n ∧ w < ts j
      · rw [ih1 he]
        have hne : ¬ zp_la ts w n = -1 := by
          obtain ⟨j, _, _, e3⟩ := zp_la_at he
          rw [e3]
          intro z
          have := h0 j
          rw [z] at this
          exact absurd this (by decide)
        by_cases hl : ts n < zp_la ts w n
        · rw [if_pos ⟨hw, Or.inr hl⟩, if_pos hl]
        · rw [if_neg (fun z => z.2.elim hne hl), if_neg hl]
      · obtain ⟨e1, e2⟩ := ih2 he
        rw [e1, e2, if_pos ⟨hw, Or.inl rfl⟩]
        by_cases hl : ts n < 2147483647
        · rw [if_pos hl]
        · rw [if_neg hl]; exact Int32.le_antisymm (zz_le_max _) (Int32.not_lt.mp hl)
    · have hx : (∃ j, j < n + 1 ∧ w < ts j) ↔ ∃ j, j < n ∧ w < ts j := by
        constructor
        · rintro ⟨j, hj, hj2⟩
          by_cases e : j = n
          · rw [e] at hj2; exact absurd hj2 hw
          · exact ⟨j, by omega, hj2⟩
        · rintro ⟨j, hj, hj2⟩; exact ⟨j, by omega, hj2⟩
      rw [hx]
      unfold zm_nx zp_la
      rw [if_neg (fun z => hw z.1), if_neg hw]
      exact ⟨ih1, ih2⟩
theorem zm_nx_of {ts : Nat → Int32} {w : Int32} {n : Nat} (h0 : ∀ i, 0 ≤ ts i) (h : zp_le ts n w < n) : zm_nx ts w n = zp_la ts w n := by
  refine (zm_nx_la h0 n).1 ?_
  apply Classical.byContradiction
  intro hne
  have : zp_le ts n w = n := zc_cnt_all (fun i hi => decide_eq_true (Int32.not_lt.mp (fun z => hne ⟨i, hi, z⟩)))
  omega
theorem zp_fl_84 {B ts : Nat → Int32} {w : Int32} {n : Nat} : (zp_fl B ts w n).length ≤ n := by rw [zp_fl_len]; exact zp_le_n _ _ _
theorem zp_fl_nil {B ts : Nat → Int32} {n : Nat} (h : ∀ i, i < n → 0 ≤ ts i) : zp_fl B ts (-1) n = [] := by
  apply List.eq_nil_of_length_eq_zero; rw [zp_fl_len]; exact zs_le0 h
set_option maxHeartbeats 4000000 in
set_option maxRecDepth 20000 in
theorem m_X8_laysBenches {l : Launch} {E : zj_E} {h : zj_H} {g : zj_G} {s J c : Nat} (hr : zm_row s) (eJ : h s 7 = nI J) (hJ : J ≤ 9) {x : Int32} (ex : x = nI c) (hc : c < 14) : zj_M l E yX8_laysBenches cX8_laysBenches 7 none 2 [.ref (E.2.1 78), .ref (E.2.1 s), .int x] h g (fun v h' g' => v = none ∧ g' = g ∧ (∀ a, a ≠ 78 → a ≠ 86 → h' a = h a) ∧ (∀ b, b ≠ 20 → h' 78 b = h 78 b) ∧ zl_has h' 78 20 86 (zl_all (zm_law h s J c) J)) := by
  refine zj_M.of RX8 (by decide) rfl (Nat.le_of_ble_eq_true rfl) ?_
  intro Γ hΓ K Rt
  subst hΓ
  have hs_s := zm_rs hr
  obtain ⟨hr1, hr2⟩ := zm_rn hr
  have loop : ∀ (n i : Nat) (x3 : Int32) (q : zj_H), J + 1 ≤ i + n → i ≤ J → (x3 = nI i) → (∀ a, a ≠ 78 → a ≠ 86 → q a = h a) → (∀ b, b ≠ 20 → q 78 b = h 78 b) → (zl_has q 78 20 86 (zl_a (zm_law h s J c) J i)) → zj_J E Γ 7 7 [(0, .ref (E.2.1 78)), (1, .ref (E.2.1 s)), (2, .int x), (3, .int x3)] [] q g := by
    intro n
    induction n with
    | zero => intro i x3 q  h1 h2; omega
    | succ n ih =>
      intro i x3 q  h1 h2 e3 zf1 zf2 zf3
      have eJq : q s 7 = nI J := by rw [zf1 s (by omega) (by omega)]; exact eJ
      have inner : ∀ (m2 j : Nat) (x4 : Int32) (q2 : zj_H), J + 1 ≤ j + m2 → j ≤ J → (i < j) → (x4 = nI j) → (∀ a, a ≠ 78 → a ≠ 86 → q2 a = h a) → (∀ b, b ≠ 20 → q2 78 b = h 78 b) → (zl_has q2 78 20 86 (zl_a (zm_law h s J c) J i ++ zl_b (zm_law h s J c) i J j)) → zj_J E Γ 7 20 [(0, .ref (E.2.1 78)), (1, .ref (E.2.1 s)), (2, .int x), (3, .int x3), (4, .int x4)] [] q2 g := by
        intro m2
        induction m2 with
        | zero => intro j x4 q2  h3 h4; omega
        | succ m2 ih2 =>
          intro j x4 q2  h3 h4 hlo e4 zp1 zp2 zp3
          have eJq2 : q2 s 7 = nI J := by rw [zp1 s (by omega) (by omega)]; exact eJ
          have inn2 : i < j → j < J → ∀ (m3 k : Nat) (x5 : Int32) (q3 : zj_H), J + 1 ≤ k + m3 → k ≤ J → (j < k) → (x5 = nI k) → (∀ a, a ≠ 78 → a ≠ 86 → q3 a = h a) → (∀ b, b ≠ 20 → q3 78 b = h 78 b) → (zl_has q3 78 20 86 (zl_a (zm_law h s J c) J i ++ zl_b (zm_law h s J c) i J j ++ zl_c (zm_law h s J c) (zz_bit i ||| zz_bit j) (j + 1) k)) → zj_J E Γ 7 35 [(0, .ref (E.2.1 78)), (1, .ref (E.2.1 s)), (2, .int x), (3, .int x3), (4, .int x4), (5, .int x5)] [] q3 g := by
            intro hij hjJ m3
            induction m3 with
            | zero => intro k x5 q3  h7 h8; omega
            | succ m3 ih3 =>
              intro k x5 q3  h7 h8 hlo e5 zr1 zr2 zr3
              have eJq3 : q3 s 7 = nI J := by rw [zr1 s (by omega) (by omega)]; exact eJ
              have hln1 := zl_a_len (zm_law h s J c) J i
              have hln2 := zl_b_len (zm_law h s J c) i J j
              have hln3 := zl_c_len (zm_law h s J c) (zz_bit i ||| zz_bit j) (j + 1) k
              have hll : (zl_a (zm_law h s J c) J i ++ zl_b (zm_law h s J c) i J j ++ zl_c (zm_law h s J c) (zz_bit i ||| zz_bit j) (j + 1) k).length = (zl_a (zm_law h s J c) J i).length + (zl_b (zm_law h s J c) i J j).length + (zl_c (zm_law h s J c) (zz_bit i ||| zz_bit j) (j + 1) k).length := by rw [List.length_append, List.length_append]
              have h84 := zl_84 J (by omega) i (by omega) j (by omega) hij hjJ
              refine zj_iload (pc := 35) K dX8_laysBenches_35 rfl ?_
              refine zj_aload_n (i := 1) (pc := 37) K dX8_laysBenches_37 rfl rfl ?_
              refine zj_bipush (v := 7) (pc := 38) K dX8_laysBenches_38 (by decide) ?_
              refine zj_ald (j := 7) (pc := 40) K hs_s rfl (by decide) (by first | decide | omega) dX8_laysBenches_40 ?_
              refine zj_icmp_ge (tgt := 99) (pc := 41) K dX8_laysBenches_41 (by decide) (fun c_41 => ?_) (fun c_41 => ?_)
              · have hk : k = J := Nat.le_antisymm h8 (zz_ge e5 eJq3 (by omega) (by omega) c_41)
                refine zj_iinc (v := 1) (pc := 99) K dX8_laysBenches_99 rfl (by decide) rfl rfl rfl ?_
                refine zj_goto (tgt := 20) (pc := 102) K dX8_laysBenches_102 (by decide) ?_
                refine zj_pick [0, 1, 2, 3, 4] ?_
                exact ih2 (j + 1) _ _ (by omega) (by omega) (by omega) (zz_up e4) zr1 zr2 (by rw [zl_b, if_pos hij, ← List.append_assoc]; rw [hk] at zr3; exact zr3)
              · have hk : k < J := zz_nge e5 eJq3 (by omega) (by omega) c_41
                refine zj_iconst (v := 1) (pc := 44) K dX8_laysBenches_44 (by decide) ?_
                refine zj_iload_n (i := 3) (pc := 45) K dX8_laysBenches_45 rfl rfl ?_
                refine zj_ishl (pc := 46) K dX8_laysBenches_46 ?_
                refine zj_iconst (v := 1) (pc := 47) K dX8_laysBenches_47 (by decide) ?_
                refine zj_iload (pc := 48) K dX8_laysBenches_48 rfl ?_
                refine zj_ishl (pc := 50) K dX8_laysBenches_50 ?_
                refine zj_ior (pc := 51) K dX8_laysBenches_51 ?_
                refine zj_iconst (v := 1) (pc := 52) K dX8_laysBenches_52 (by decide) ?_
                refine zj_iload (pc := 53) K dX8_laysBenches_53 rfl ?_
                refine zj_ishl (pc := 55) K dX8_laysBenches_55 ?_
                refine zj_ior (pc := 56) K dX8_laysBenches_56 ?_
                refine zj_istore (pc := 57) K dX8_laysBenches_57 rfl rfl rfl ?_
                refine zj_aload_n (i := 1) (pc := 59) K dX8_laysBenches_59 rfl rfl ?_
                refine zj_iload_n (i := 2) (pc := 60) K dX8_laysBenches_60 rfl rfl ?_
                refine zj_iload (pc := 61) K dX8_laysBenches_61 rfl ?_
                refine zj_cS3I (pc := 63) K lm_X8_170 (m_X8_isLawful hs_s eJq3 hJ ex hc) (by decide) rfl (Nat.le_of_ble_eq_true rfl) dX8_laysBenches_63 ?_
                refine zj_if_ne (tgt := 72) (pc := 66) K dX8_laysBenches_66 (by decide) (fun c_66 => ?_) (fun c_66 => ?_)
                · replace c_66 := zz_n0.mp c_66
                  rw [zm_law_congr (zr1 s (by omega) (by omega)), e3, e4, e5] at c_66
                  have c_66 : zm_law h s J c (zz_bit i ||| zz_bit j ||| zz_bit k) = true := c_66
                  refine zj_aload_n (i := 0) (pc := 72) K dX8_laysBenches_72 rfl rfl ?_
                  refine zj_getR (pc := 73) K lf_X8_82 hs_M rfl dX8_laysBenches_73 ?_
                  refine zj_aload_n (i := 0) (pc := 76) K dX8_laysBenches_76 rfl rfl ?_
                  refine zj_getI (pc := 77) K lf_X8_167 hs_M rfl dX8_laysBenches_77 ?_
                  refine zj_iload (pc := 80) K dX8_laysBenches_80 rfl ?_
                  refine zj_ast (j := (zl_a (zm_law h s J c) J i ++ zl_b (zm_law h s J c) i J j ++ zl_c (zm_law h s J c) (zz_bit i ||| zz_bit j) (j + 1) k).length) (pc := 82) K hs_Mben zr3.1 (by omega) (by first | decide | omega) dX8_laysBenches_82 ?_
                  refine zj_aload_n (i := 0) (pc := 83) K dX8_laysBenches_83 rfl rfl ?_
                  refine zj_dup (pc := 84) K dX8_laysBenches_84 rfl ?_
                  refine zj_getI (pc := 85) K lf_X8_167 hs_M rfl dX8_laysBenches_85 ?_
                  refine zj_iconst (v := 1) (pc := 88) K dX8_laysBenches_88 (by decide) ?_
                  refine zj_iadd (pc := 89) K dX8_laysBenches_89 ?_
                  refine zj_putI (pc := 90) K lf_X8_167 hs_M rfl dX8_laysBenches_90 ?_
                  refine zj_iinc (v := 1) (pc := 93) K dX8_laysBenches_93 rfl (by decide) rfl rfl rfl ?_
                  refine zj_goto (tgt := 35) (pc := 96) K dX8_laysBenches_96 (by decide) ?_
                  refine zj_pick [0, 1, 2, 3, 4, 5] ?_
                  first
                  | exact ih3 (k + 1) _ _ (by omega) (by omega) (by omega) (zz_up e5) zr1 zr2 (by rw [zl_c, if_neg (fun z => absurd (show _ = true from z.2) (by rw [c_66]; decide)), List.append_nil]; exact zr3)
                  | (have ez : zl_a (zm_law h s J c) J i ++ zl_b (zm_law h s J c) i J j ++ zl_c (zm_law h s J c) (zz_bit i ||| zz_bit j) (j + 1) (k + 1) = (zl_a (zm_law h s J c) J i ++ zl_b (zm_law h s J c) i J j ++ zl_c (zm_law h s J c) (zz_bit i ||| zz_bit j) (j + 1) k) ++ [zz_bit i ||| zz_bit j ||| zz_bit k] := by rw [zl_c, if_pos ⟨by omega, c_66⟩, List.append_assoc, List.append_assoc, List.append_assoc]
                     refine ih3 (k + 1) _ _ (by omega) (by omega) (by omega) (zz_up e5) (fun a a1 a2 => by rw [zj_s_ne _ _ a1, zj_s_ne _ _ a2]; exact zr1 a a1 a2) (fun b b1 => by rw [zj_s_eq, zj_s_ne _ _ (by decide)]; unfold upd; rw [if_neg b1]; exact zr2 b b1) ⟨by rw [zj_s_eq, zj_s_ne _ _ (by decide), ez, List.length_append, List.length_singleton, ← nI_1, ← zr3.1]; rfl, ?_⟩
                     rw [zj_s_ne _ _ (by decide), zj_s_eq, ez, e3, e4, e5]
                     exact zl_has_push zr3.2)
                · replace c_66 := zz_i0.mp c_66
                  rw [zm_law_congr (zr1 s (by omega) (by omega)), e3, e4, e5] at c_66
                  have c_66 : zm_law h s J c (zz_bit i ||| zz_bit j ||| zz_bit k) = false := c_66
                  refine zj_goto (tgt := 93) (pc := 69) K dX8_laysBenches_69 (by decide) ?_
                  refine zj_iinc (v := 1) (pc := 93) K dX8_laysBenches_93 rfl (by decide) rfl rfl rfl ?_
                  refine zj_goto (tgt := 35) (pc := 96) K dX8_laysBenches_96 (by decide) ?_
                  refine zj_pick [0, 1, 2, 3, 4, 5] ?_
                  first
                  | exact ih3 (k + 1) _ _ (by omega) (by omega) (by omega) (zz_up e5) zr1 zr2 (by rw [zl_c, if_neg (fun z => absurd (show _ = true from z.2) (by rw [c_66]; decide)), List.append_nil]; exact zr3)
                  | (have ez : zl_a (zm_law h s J c) J i ++ zl_b (zm_law h s J c) i J j ++ zl_c (zm_law h s J c) (zz_bit i ||| zz_bit j) (j + 1) (k + 1) = (zl_a (zm_law h s J c) J i ++ zl_b (zm_law h s J c) i J j ++ zl_c (zm_law h s J c) (zz_bit i ||| zz_bit j) (j + 1) k) ++ [zz_bit i ||| zz_bit j ||| zz_bit k] := by rw [zl_c, if_pos ⟨by omega, c_66⟩, List.append_assoc, List.append_assoc, List.append_assoc]
                     refine ih3 (k + 1) _ _ (by omega) (by omega) (by omega) (zz_up e5) (fun a a1 a2 => by rw [zj_s_ne _ _ a1, zj_s_ne _ _ a2]; exact zr1 a a1 a2) (fun b b1 => by rw [zj_s_eq, zj_s_ne _ _ (by decide)]; unfold upd; rw [if_neg b1]; exact zr2 b b1) ⟨by rw [zj_s_eq, zj_s_ne _ _ (by decide), ez, List.length_append, List.length_singleton, ← nI_1, ← zr3.1]; rfl, ?_⟩
                     rw [zj_s_ne _ _ (by decide), zj_s_eq, ez, e3, e4, e5]
                     exact zl_has_push zr3.2)
          refine zj_iload (pc := 20) K dX8_laysBenches_20 rfl ?_
          refine zj_aload_n (i := 1) (pc := 22) K dX8_laysBenches_22 rfl rfl ?_
          refine zj_bipush (v := 7) (pc := 23) K dX8_laysBenches_23 (by decide) ?_
          refine zj_ald (j := 7) (pc := 25) K hs_s rfl (by decide) (by first | decide | omega) dX8_laysBenches_25 ?_
          refine zj_icmp_ge (tgt := 105) (pc := 26) K dX8_laysBenches_26 (by decide) (fun c_26 => ?_) (fun c_26 => ?_)
          · have hj : j = J := Nat.le_antisymm h4 (zz_ge e4 eJq2 (by omega) (by omega) c_26)
            refine zj_iinc (v := 1) (pc := 105) K dX8_laysBenches_105 rfl (by decide) rfl rfl rfl ?_
            refine zj_goto (tgt := 7) (pc := 108) K dX8_laysBenches_108 (by decide) ?_
            refine zj_pick [0, 1, 2, 3] ?_
            exact ih (i + 1) _ _ (by omega) (by omega) (zz_up e3) zp1 zp2 (by rw [zl_a]; rw [hj] at zp3; exact zp3)
          · have hj : j < J := zz_nge e4 eJq2 (by omega) (by omega) c_26
            refine zj_iload (pc := 29) K dX8_laysBenches_29 rfl ?_
            refine zj_iconst (v := 1) (pc := 31) K dX8_laysBenches_31 (by decide) ?_
            refine zj_iadd (pc := 32) K dX8_laysBenches_32 ?_
            refine zj_istore (pc := 33) K dX8_laysBenches_33 rfl rfl rfl ?_
            exact inn2 hlo hj (J + 1) (j + 1) _ _ (by omega) (by omega) (by omega) (zz_up e4) zp1 zp2 (by rw [zl_c_lo (Nat.le_refl _), List.append_nil]; exact zp3)
      refine zj_iload_n (i := 3) (pc := 7) K dX8_laysBenches_7 rfl rfl ?_
      refine zj_aload_n (i := 1) (pc := 8) K dX8_laysBenches_8 rfl rfl ?_
      refine zj_bipush (v := 7) (pc := 9) K dX8_laysBenches_9 (by decide) ?_
      refine zj_ald (j := 7) (pc := 11) K hs_s rfl (by decide) (by first | decide | omega) dX8_laysBenches_11 ?_
      refine zj_icmp_ge (tgt := 111) (pc := 12) K dX8_laysBenches_12 (by decide) (fun c_12 => ?_) (fun c_12 => ?_)
      · have hi : i = J := Nat.le_antisymm h2 (zz_ge e3 eJq (by omega) (by omega) c_12)
        exact zj_vret K Rt dX8_laysBenches_111 (⟨rfl, rfl, zf1, zf2, by rw [hi] at zf3; exact zf3⟩)
      · have hi : i < J := zz_nge e3 eJq (by omega) (by omega) c_12
        refine zj_iload_n (i := 3) (pc := 15) K dX8_laysBenches_15 rfl rfl ?_
        refine zj_iconst (v := 1) (pc := 16) K dX8_laysBenches_16 (by decide) ?_
        refine zj_iadd (pc := 17) K dX8_laysBenches_17 ?_
        refine zj_istore (pc := 18) K dX8_laysBenches_18 rfl rfl rfl ?_
        exact inner (J + 1) (i + 1) _ _ (by omega) (by omega) (by omega) (zz_up e3) zf1 zf2 (by rw [zl_b_lo (Nat.le_refl _), List.append_nil]; exact zf3)
  show zj_J E Γ 7 0 [(0, .ref (E.2.1 78)), (1, .ref (E.2.1 s)), (2, .int x)] [] h g
  refine zj_aload_n (i := 0) (pc := 0) K dX8_laysBenches_0 rfl rfl ?_
  refine zj_iconst (v := 0) (pc := 1) K dX8_laysBenches_1 (by decide) ?_
  refine zj_putI (pc := 2) K lf_X8_167 hs_M rfl dX8_laysBenches_2 ?_
  refine zj_iconst (v := 0) (pc := 5) K dX8_laysBenches_5 (by decide) ?_
  refine zj_istore_n (i := 3) (pc := 6) K dX8_laysBenches_6 rfl rfl rfl rfl ?_
  exact loop (J + 1) 0 _ _ (by omega) (by omega) rfl (fun a a1 a2 => zj_s_ne _ _ a1) (fun b b1 => by rw [zj_s_eq]; unfold upd; rw [if_neg b1]) ⟨by rw [zj_s_eq]; rfl, fun i hi => absurd hi (Nat.not_lt_zero i)⟩

set_option maxHeartbeats 4000000 in
set_option maxRecDepth 20000 in
theorem m_X8_laysPool {l : Launch} {E : zj_E} {h : zj_H} {g : zj_G} {s J C u c : Nat} (hr : zm_row s) (eJ : h s 7 = nI J) (hJ : J ≤ 9) (eC : h s 18 = nI C) (hC : C ≤ 14) (eU : h s 0 = nI u) (hU : u ≤ 20) (hT : ∀ δ si c b, 0 ≤ zd_t (zθo (zτM h s J C u) δ) si c b) {x : Int32} (ex : x = nI c) (hc : c < 14) : zj_M l E yX8_laysPool cX8_laysPool 6 none 4 [.ref (E.2.1 78), .ref (E.2.1 s), .int x] h g (fun v h' g' => v = none ∧ g' = g ∧ (∀ a, a ≠ 78 → a ≠ 86 → a ≠ 87 → h' a = h a) ∧ (∀ b, b ≠ 20 → b ≠ 21 → b ≠ 22 → h' 78 b = h 78 b) ∧ zl_has h' 78 20 86 (zd_l (zθo (zτM h s J C u) (zδM h s)) c) ∧ zl_has h' 78 21 87 (zd_pool (zθo (zτM h s J C u) (zδM h s)) (zmB h s) c) ∧ h' 78 22 = zd_W (zθo (zτM h s J C u) (zδM h s)) (zmB h s) c) := by
  refine zj_M.of RX8 (by decide) rfl (Nat.le_of_ble_eq_true rfl) ?_
  intro Γ hΓ K Rt
  subst hΓ
  have hs_s := zm_rs hr
  obtain ⟨hr1, hr2⟩ := zm_rn hr
  have hl84 : (zd_l (zθo (zτM h s J C u) (zδM h s)) c).length ≤ 84 := zl_all_len _ hJ
  have hT0 : ∀ i, 0 ≤ (zd_ts (zθo (zτM h s J C u) (zδM h s)) (zmB h s) c) i := fun i => hT _ _ _ _
  have lpA : ∀ (mA i : Nat) (x3 x4 : Int32) (q : zj_H) (w : Int32), (zd_l (zθo (zτM h s J C u) (zδM h s)) c).length + 1 ≤ i + mA → i ≤ (zd_l (zθo (zτM h s J C u) (zδM h s)) c).length → (x3 = zm_nx (zd_ts (zθo (zτM h s J C u) (zδM h s)) (zmB h s) c) w i) → (x4 = nI i) → (∀ a, a ≠ 78 → a ≠ 86 → a ≠ 87 → q a = h a) → (∀ b, b ≠ 20 → b ≠ 21 → b ≠ 22 → q 78 b = h 78 b) → (zl_has q 78 20 86 (zd_l (zθo (zτM h s J C u) (zδM h s)) c)) → (q 78 22 = w) → (zj_J E Γ 6 94 [(0, .ref (E.2.1 78)), (1, .ref (E.2.1 s)), (2, .int x), (3, .int (zm_nx (zd_ts (zθo (zτM h s J C u) (zδM h s)) (zmB h s) c) w (zd_l (zθo (zτM h s J C u) (zδM h s)) c).length))] [] q g) → zj_J E Γ 6 42 [(0, .ref (E.2.1 78)), (1, .ref (E.2.1 s)), (2, .int x), (3, .int x3), (4, .int x4)] [] q g := by
    intro mA
    induction mA with
    | zero => intro i x3 x4 q w h3 h4; omega
    | succ mA ihA =>
      intro i x3 x4 q w h3 h4 e3 e4 zf1 zf2 zf3 zf4 kk
      have eJ2 : q s 7 = nI J := by rw [zf1 s (by omega) (by omega) (by omega)]; exact eJ
      have eC2 : q s 18 = nI C := by rw [zf1 s (by omega) (by omega) (by omega)]; exact eC
      have eU2 : q s 0 = nI u := by rw [zf1 s (by omega) (by omega) (by omega)]; exact eU
      have erow : q s = h s := zf1 s (by omega) (by omega) (by omega)
      have hten : ∀ i, i < (zd_l (zθo (zτM h s J C u) (zδM h s)) c).length → zs_ten (q s 1) (q s 2) (q s 3) J C (zmS q s) (zmW q s) (zmB q s) x (q 86 i) = (zd_ts (zθo (zτM h s J C u) (zδM h s)) (zmB h s) c) i := by
        intro i hi
        rw [zf3.2 i hi, show zmS q s = zmS h s by unfold zmS; rw [erow], show zmW q s = zmW h s by unfold zmW; rw [erow], show zmB q s = zmB h s by unfold zmB; rw [erow], erow, ex]
        rfl
      refine zj_iload (pc := 42) K dX8_laysPool_42 rfl ?_
      refine zj_aload_n (i := 0) (pc := 44) K dX8_laysPool_44 rfl rfl ?_
      refine zj_getI (pc := 45) K lf_X8_167 hs_M rfl dX8_laysPool_45 ?_
      refine zj_icmp_ge (tgt := 94) (pc := 48) K dX8_laysPool_48 (by decide) (fun c_48 => ?_) (fun c_48 => ?_)
      · have hi : i = (zd_l (zθo (zτM h s J C u) (zδM h s)) c).length := Nat.le_antisymm h4 (zz_ge e4 zf3.1 (by omega) (by omega) c_48)
        refine zj_pick [0, 1, 2, 3] ?_
        have e3b := e3
        rw [hi] at e3b
        rw [← e3b] at kk
        exact kk
      · have hi : i < (zd_l (zθo (zτM h s J C u) (zδM h s)) c).length := zz_nge e4 zf3.1 (by omega) (by omega) c_48
        refine zj_aload_n (i := 1) (pc := 51) K dX8_laysPool_51 rfl rfl ?_
        refine zj_iload_n (i := 2) (pc := 52) K dX8_laysPool_52 rfl rfl ?_
        refine zj_aload_n (i := 0) (pc := 53) K dX8_laysPool_53 rfl rfl ?_
        refine zj_getR (pc := 54) K lf_X8_82 hs_M rfl dX8_laysPool_54 ?_
        refine zj_iload (pc := 57) K dX8_laysPool_57 rfl ?_
        refine zj_ald (j := i) (pc := 59) K hs_Mben e4 (by omega) (by first | decide | omega) dX8_laysPool_59 ?_
        refine zj_cS3I (pc := 60) K lm_X8_184 (m_X8_tensionOf hs_s eJ2 hJ eC2 hC) (by decide) rfl (Nat.le_of_ble_eq_true rfl) dX8_laysPool_60 ?_
        refine zj_istore (pc := 63) K dX8_laysPool_63 rfl rfl rfl ?_
        refine zj_iload (pc := 65) K dX8_laysPool_65 rfl ?_
        refine zj_aload_n (i := 0) (pc := 67) K dX8_laysPool_67 rfl rfl ?_
        refine zj_getI (pc := 68) K lf_X8_181 hs_M rfl dX8_laysPool_68 ?_
        refine zj_icmp_le (tgt := 88) (pc := 71) K dX8_laysPool_71 (by decide) (fun c_71 => ?_) (fun c_71 => ?_)
        · rw [hten i hi, zf4] at c_71
          have hnx : zm_nx (zd_ts (zθo (zτM h s J C u) (zδM h s)) (zmB h s) c) w (i + 1) = zm_nx (zd_ts (zθo (zτM h s J C u) (zδM h s)) (zmB h s) c) w i := by rw [zm_nx, if_neg (fun z => absurd c_71 (Int32.not_le.mpr z.1))]
          refine zj_iinc (v := 1) (pc := 88) K dX8_laysPool_88 rfl (by decide) rfl rfl rfl ?_
          refine zj_goto (tgt := 42) (pc := 91) K dX8_laysPool_91 (by decide) ?_
          refine zj_pick [0, 1, 2, 3, 4] ?_
          first
          | exact ihA (i + 1) _ _ _ w (by omega) (by omega) (by rw [hnx]; exact e3) (zz_up e4) zf1 zf2 zf3 zf4 kk
          | exact ihA (i + 1) _ _ _ w (by omega) (by omega) (by rw [hnx]; exact hten i hi) (zz_up e4) zf1 zf2 zf3 zf4 kk
        · rw [hten i hi, zf4] at c_71
          refine zj_iload_n (i := 3) (pc := 74) K dX8_laysPool_74 rfl rfl ?_
          refine zj_iconst (v := -1) (pc := 75) K dX8_laysPool_75 (by decide) ?_
          refine zj_icmp_eq (tgt := 85) (pc := 76) K dX8_laysPool_76 (by decide) (fun c_76 => ?_) (fun c_76 => ?_)
          · have hnx : zm_nx (zd_ts (zθo (zτM h s J C u) (zδM h s)) (zmB h s) c) w (i + 1) = (zd_ts (zθo (zτM h s J C u) (zδM h s)) (zmB h s) c) i := by rw [zm_nx, if_pos ⟨Int32.not_le.mp c_71, Or.inl (by rw [← e3]; exact c_76)⟩]
            refine zj_iload (pc := 85) K dX8_laysPool_85 rfl ?_
            refine zj_istore_n (i := 3) (pc := 87) K dX8_laysPool_87 rfl rfl rfl rfl ?_
            refine zj_iinc (v := 1) (pc := 88) K dX8_laysPool_88 rfl (by decide) rfl rfl rfl ?_
            refine zj_goto (tgt := 42) (pc := 91) K dX8_laysPool_91 (by decide) ?_
            refine zj_pick [0, 1, 2, 3, 4] ?_
            first
            | exact ihA (i + 1) _ _ _ w (by omega) (by omega) (by rw [hnx]; exact e3) (zz_up e4) zf1 zf2 zf3 zf4 kk
            | exact ihA (i + 1) _ _ _ w (by omega) (by omega) (by rw [hnx]; exact hten i hi) (zz_up e4) zf1 zf2 zf3 zf4 kk
          · refine zj_iload (pc := 79) K dX8_laysPool_79 rfl ?_
            refine zj_iload_n (i := 3) (pc := 81) K dX8_laysPool_81 rfl rfl ?_
            refine zj_icmp_ge (tgt := 88) (pc := 82) K dX8_laysPool_82 (by decide) (fun c_82 => ?_) (fun c_82 => ?_)
            · rw [hten i hi] at c_82
              have hnx : zm_nx (zd_ts (zθo (zτM h s J C u) (zδM h s)) (zmB h s) c) w (i + 1) = zm_nx (zd_ts (zθo (zτM h s J C u) (zδM h s)) (zmB h s) c) w i := by rw [zm_nx, if_neg (fun z => z.2.elim (fun y => c_76 (by rw [e3]; exact y)) (fun y => absurd (show zm_nx (zd_ts (zθo (zτM h s J C u) (zδM h s)) (zmB h s) c) w i ≤ (zd_ts (zθo (zτM h s J C u) (zδM h s)) (zmB h s) c) i by rw [← e3]; exact c_82) (Int32.not_le.mpr y)))]
              refine zj_iinc (v := 1) (pc := 88) K dX8_laysPool_88 rfl (by decide) rfl rfl rfl ?_
              refine zj_goto (tgt := 42) (pc := 91) K dX8_laysPool_91 (by decide) ?_
              refine zj_pick [0, 1, 2, 3, 4] ?_
              first
              | exact ihA (i + 1) _ _ _ w (by omega) (by omega) (by rw [hnx]; exact e3) (zz_up e4) zf1 zf2 zf3 zf4 kk
              | exact ihA (i + 1) _ _ _ w (by omega) (by omega) (by rw [hnx]; exact hten i hi) (zz_up e4) zf1 zf2 zf3 zf4 kk
            · rw [hten i hi] at c_82
              have hnx : zm_nx (zd_ts (zθo (zτM h s J C u) (zδM h s)) (zmB h s) c) w (i + 1) = (zd_ts (zθo (zτM h s J C u) (zδM h s)) (zmB h s) c) i := by rw [zm_nx, if_pos ⟨Int32.not_le.mp c_71, Or.inr (by rw [← e3]; exact Int32.not_le.mp c_82)⟩]
              refine zj_iload (pc := 85) K dX8_laysPool_85 rfl ?_
              refine zj_istore_n (i := 3) (pc := 87) K dX8_laysPool_87 rfl rfl rfl rfl ?_
              refine zj_iinc (v := 1) (pc := 88) K dX8_laysPool_88 rfl (by decide) rfl rfl rfl ?_
              refine zj_goto (tgt := 42) (pc := 91) K dX8_laysPool_91 (by decide) ?_
              refine zj_pick [0, 1, 2, 3, 4] ?_
              first
              | exact ihA (i + 1) _ _ _ w (by omega) (by omega) (by rw [hnx]; exact e3) (zz_up e4) zf1 zf2 zf3 zf4 kk
              | exact ihA (i + 1) _ _ _ w (by omega) (by omega) (by rw [hnx]; exact hten i hi) (zz_up e4) zf1 zf2 zf3 zf4 kk
  have lpB : ∀ (mB i : Nat) (x3 x4 : Int32) (q : zj_H) (w : Int32), (zd_l (zθo (zτM h s J C u) (zδM h s)) c).length + 1 ≤ i + mB → i ≤ (zd_l (zθo (zτM h s J C u) (zδM h s)) c).length → (x4 = nI i) → (∀ a, a ≠ 78 → a ≠ 86 → a ≠ 87 → q a = h a) → (∀ b, b ≠ 20 → b ≠ 21 → b ≠ 22 → q 78 b = h 78 b) → (zl_has q 78 20 86 (zd_l (zθo (zτM h s J C u) (zδM h s)) c)) → (q 78 22 = w) → (zl_has q 78 21 87 (zp_fl (fun i => (zd_l (zθo (zτM h s J C u) (zδM h s)) c).getD i 0) (zd_ts (zθo (zτM h s J C u) (zδM h s)) (zmB h s) c) w i)) → (∀ q2 : zj_H, (∀ a, a ≠ 78 → a ≠ 86 → a ≠ 87 → q2 a = h a) → (∀ b, b ≠ 20 → b ≠ 21 → b ≠ 22 → q2 78 b = h 78 b) → zl_has q2 78 20 86 (zd_l (zθo (zτM h s J C u) (zδM h s)) c) → q2 78 22 = w → zl_has q2 78 21 87 (zp_fl (fun i => (zd_l (zθo (zτM h s J C u) (zδM h s)) c).getD i 0) (zd_ts (zθo (zτM h s J C u) (zδM h s)) (zmB h s) c) w (zd_l (zθo (zτM h s J C u) (zδM h s)) c).length) → zj_J E Γ 6 16 [(0, .ref (E.2.1 78)), (1, .ref (E.2.1 s)), (2, .int x)] [] q2 g) → zj_J E Γ 6 107 [(0, .ref (E.2.1 78)), (1, .ref (E.2.1 s)), (2, .int x), (3, .int x3), (4, .int x4)] [] q g := by
    intro mB
    induction mB with
    | zero => intro i x3 x4 q w h3 h4; omega
    | succ mB ihB =>
      intro i x3 x4 q w h3 h4 e4 zf1 zf2 zf3 zf4 zf5 kk
      have eJ2 : q s 7 = nI J := by rw [zf1 s (by omega) (by omega) (by omega)]; exact eJ
      have eC2 : q s 18 = nI C := by rw [zf1 s (by omega) (by omega) (by omega)]; exact eC
      have eU2 : q s 0 = nI u := by rw [zf1 s (by omega) (by omega) (by omega)]; exact eU
      have erow : q s = h s := zf1 s (by omega) (by omega) (by omega)
      have hten : ∀ i, i < (zd_l (zθo (zτM h s J C u) (zδM h s)) c).length → zs_ten (q s 1) (q s 2) (q s 3) J C (zmS q s) (zmW q s) (zmB q s) x (q 86 i) = (zd_ts (zθo (zτM h s J C u) (zδM h s)) (zmB h s) c) i := by
        intro i hi
        rw [zf3.2 i hi, show zmS q s = zmS h s by unfold zmS; rw [erow], show zmW q s = zmW h s by unfold zmW; rw [erow], show zmB q s = zmB h s by unfold zmB; rw [erow], erow, ex]
        rfl
      have hpl : (zp_fl (fun i => (zd_l (zθo (zτM h s J C u) (zδM h s)) c).getD i 0) (zd_ts (zθo (zτM h s J C u) (zδM h s)) (zmB h s) c) w i).length ≤ i := zp_fl_84
      refine zj_iload (pc := 107) K dX8_laysPool_107 rfl ?_
      refine zj_aload_n (i := 0) (pc := 109) K dX8_laysPool_109 rfl rfl ?_
      refine zj_getI (pc := 110) K lf_X8_167 hs_M rfl dX8_laysPool_110 ?_
      refine zj_icmp_ge (tgt := 170) (pc := 113) K dX8_laysPool_113 (by decide) (fun c_113 => ?_) (fun c_113 => ?_)
      · have hi : i = (zd_l (zθo (zτM h s J C u) (zδM h s)) c).length := Nat.le_antisymm h4 (zz_ge e4 zf3.1 (by omega) (by omega) c_113)
        refine zj_goto (tgt := 16) (pc := 170) K dX8_laysPool_170 (by decide) ?_
        refine zj_pick [0, 1, 2] ?_
        exact kk _ zf1 zf2 zf3 zf4 (by rw [hi] at zf5; exact zf5)
      · have hi : i < (zd_l (zθo (zτM h s J C u) (zδM h s)) c).length := zz_nge e4 zf3.1 (by omega) (by omega) c_113
        refine zj_aload_n (i := 1) (pc := 116) K dX8_laysPool_116 rfl rfl ?_
        refine zj_iload_n (i := 2) (pc := 117) K dX8_laysPool_117 rfl rfl ?_
        refine zj_aload_n (i := 0) (pc := 118) K dX8_laysPool_118 rfl rfl ?_
        refine zj_getR (pc := 119) K lf_X8_82 hs_M rfl dX8_laysPool_119 ?_
        refine zj_iload (pc := 122) K dX8_laysPool_122 rfl ?_
        refine zj_ald (j := i) (pc := 124) K hs_Mben e4 (by omega) (by first | decide | omega) dX8_laysPool_124 ?_
        refine zj_cS3I (pc := 125) K lm_X8_184 (m_X8_tensionOf hs_s eJ2 hJ eC2 hC) (by decide) rfl (Nat.le_of_ble_eq_true rfl) dX8_laysPool_125 ?_
        refine zj_aload_n (i := 0) (pc := 128) K dX8_laysPool_128 rfl rfl ?_
        refine zj_getI (pc := 129) K lf_X8_181 hs_M rfl dX8_laysPool_129 ?_
        refine zj_icmp_le (tgt := 138) (pc := 132) K dX8_laysPool_132 (by decide) (fun c_132 => ?_) (fun c_132 => ?_)
        · rw [hten i hi, zf4] at c_132
          have ei : (zp_fl (fun i => (zd_l (zθo (zτM h s J C u) (zδM h s)) c).getD i 0) (zd_ts (zθo (zτM h s J C u) (zδM h s)) (zmB h s) c) w (i + 1)) = (zp_fl (fun i => (zd_l (zθo (zτM h s J C u) (zδM h s)) c).getD i 0) (zd_ts (zθo (zτM h s J C u) (zδM h s)) (zmB h s) c) w i) ++ [(zd_l (zθo (zτM h s J C u) (zδM h s)) c).getD i 0] := by rw [zp_fl, if_pos c_132]
          refine zj_aload_n (i := 0) (pc := 138) K dX8_laysPool_138 rfl rfl ?_
          refine zj_getR (pc := 139) K lf_X8_85 hs_M rfl dX8_laysPool_139 ?_
          refine zj_aload_n (i := 0) (pc := 142) K dX8_laysPool_142 rfl rfl ?_
          refine zj_getI (pc := 143) K lf_X8_178 hs_M rfl dX8_laysPool_143 ?_
          refine zj_aload_n (i := 0) (pc := 146) K dX8_laysPool_146 rfl rfl ?_
          refine zj_getR (pc := 147) K lf_X8_82 hs_M rfl dX8_laysPool_147 ?_
          refine zj_iload (pc := 150) K dX8_laysPool_150 rfl ?_
          refine zj_ald (j := i) (pc := 152) K hs_Mben e4 (by omega) (by first | decide | omega) dX8_laysPool_152 ?_
          refine zj_ast (j := (zp_fl (fun i => (zd_l (zθo (zτM h s J C u) (zδM h s)) c).getD i 0) (zd_ts (zθo (zτM h s J C u) (zδM h s)) (zmB h s) c) w i).length) (pc := 153) K hs_Mpool zf5.1 (by omega) (by first | decide | omega) dX8_laysPool_153 ?_
          refine zj_aload_n (i := 0) (pc := 154) K dX8_laysPool_154 rfl rfl ?_
          refine zj_dup (pc := 155) K dX8_laysPool_155 rfl ?_
          refine zj_getI (pc := 156) K lf_X8_178 hs_M rfl dX8_laysPool_156 ?_
          refine zj_iconst (v := 1) (pc := 159) K dX8_laysPool_159 (by decide) ?_
          refine zj_iadd (pc := 160) K dX8_laysPool_160 ?_
          refine zj_putI (pc := 161) K lf_X8_178 hs_M rfl dX8_laysPool_161 ?_
          refine zj_iinc (v := 1) (pc := 164) K dX8_laysPool_164 rfl (by decide) rfl rfl rfl ?_
          refine zj_goto (tgt := 107) (pc := 167) K dX8_laysPool_167 (by decide) ?_
          first
          | exact ihB (i + 1) _ _ _ w (by omega) (by omega) (zz_up e4) zf1 zf2 zf3 zf4 (by rw [ei]; exact zf5) kk
          | (refine ihB (i + 1) _ _ _ w (by omega) (by omega) (zz_up e4) (fun a a1 a2 a3 => by rw [zj_s_ne _ _ a1, zj_s_ne _ _ a3]; exact zf1 a a1 a2 a3) (fun b b1 b2 b3 => by rw [zj_s_eq, zj_s_ne _ _ (by decide), zz_upd_ne _ _ b2]; exact zf2 b b1 b2 b3) ⟨by rw [zj_s_eq, zj_s_ne _ _ (by decide)]; exact zf3.1, fun j hj => by rw [zj_s_ne _ _ (by decide), zj_s_ne _ _ (by decide)]; exact zf3.2 j hj⟩ (by rw [zj_s_eq, zj_s_ne _ _ (by decide)]; exact zf4) ⟨by rw [zj_s_eq, zj_s_ne _ _ (by decide), ei, List.length_append, List.length_singleton, ← nI_1, ← zf5.1]; rfl, ?_⟩ kk
             rw [zj_s_ne _ _ (by decide), zj_s_eq, ei, zf3.2 i hi]
             exact zl_has_push zf5.2)
        · rw [hten i hi, zf4] at c_132
          have ei : (zp_fl (fun i => (zd_l (zθo (zτM h s J C u) (zδM h s)) c).getD i 0) (zd_ts (zθo (zτM h s J C u) (zδM h s)) (zmB h s) c) w (i + 1)) = (zp_fl (fun i => (zd_l (zθo (zτM h s J C u) (zδM h s)) c).getD i 0) (zd_ts (zθo (zτM h s J C u) (zδM h s)) (zmB h s) c) w i) := by rw [zp_fl, if_neg c_132, List.append_nil]
          refine zj_goto (tgt := 164) (pc := 135) K dX8_laysPool_135 (by decide) ?_
          refine zj_iinc (v := 1) (pc := 164) K dX8_laysPool_164 rfl (by decide) rfl rfl rfl ?_
          refine zj_goto (tgt := 107) (pc := 167) K dX8_laysPool_167 (by decide) ?_
          first
          | exact ihB (i + 1) _ _ _ w (by omega) (by omega) (zz_up e4) zf1 zf2 zf3 zf4 (by rw [ei]; exact zf5) kk
          | (refine ihB (i + 1) _ _ _ w (by omega) (by omega) (zz_up e4) (fun a a1 a2 a3 => by rw [zj_s_ne _ _ a1, zj_s_ne _ _ a3]; exact zf1 a a1 a2 a3) (fun b b1 b2 b3 => by rw [zj_s_eq, zj_s_ne _ _ (by decide), zz_upd_ne _ _ b2]; exact zf2 b b1 b2 b3) ⟨by rw [zj_s_eq, zj_s_ne _ _ (by decide)]; exact zf3.1, fun j hj => by rw [zj_s_ne _ _ (by decide), zj_s_ne _ _ (by decide)]; exact zf3.2 j hj⟩ (by rw [zj_s_eq, zj_s_ne _ _ (by decide)]; exact zf4) ⟨by rw [zj_s_eq, zj_s_ne _ _ (by decide), ei, List.length_append, List.length_singleton, ← nI_1, ← zf5.1]; rfl, ?_⟩ kk
             rw [zj_s_ne _ _ (by decide), zj_s_eq, ei, zf3.2 i hi]
             exact zl_has_push zf5.2)
  have loop : ∀ (f : Nat) (w : Int32) (q : zj_H), (∀ a, a ≠ 78 → a ≠ 86 → a ≠ 87 → q a = h a) → (∀ b, b ≠ 20 → b ≠ 21 → b ≠ 22 → q 78 b = h 78 b) → zl_has q 78 20 86 (zd_l (zθo (zτM h s J C u) (zδM h s)) c) → q 78 22 = w → zl_has q 78 21 87 (zp_fl (fun i => (zd_l (zθo (zτM h s J C u) (zδM h s)) c).getD i 0) (zd_ts (zθo (zτM h s J C u) (zδM h s)) (zmB h s) c) w (zd_l (zθo (zτM h s J C u) (zδM h s)) c).length) → zp_run (zd_ts (zθo (zτM h s J C u) (zδM h s)) (zmB h s) c) (zd_l (zθo (zτM h s J C u) (zδM h s)) c).length u f w = zd_W (zθo (zτM h s J C u) (zδM h s)) (zmB h s) c → (zd_l (zθo (zτM h s J C u) (zδM h s)) c).length + 1 ≤ f + zp_le (zd_ts (zθo (zτM h s J C u) (zδM h s)) (zmB h s) c) (zd_l (zθo (zτM h s J C u) (zδM h s)) c).length w → zj_J E Γ 6 16 [(0, .ref (E.2.1 78)), (1, .ref (E.2.1 s)), (2, .int x)] [] q g := by
    intro f
    induction f with
    | zero => intro w q _ _ _ _ _ _ hlt; have hle := zp_le_n (zd_ts (zθo (zτM h s J C u) (zδM h s)) (zmB h s) c) (zd_l (zθo (zτM h s J C u) (zδM h s)) c).length w; omega
    | succ f ih =>
      intro w q zf1 zf2 zf3 zf4 zf5 zf6 zf7
      have hle := zp_le_n (zd_ts (zθo (zτM h s J C u) (zδM h s)) (zmB h s) c) (zd_l (zθo (zτM h s J C u) (zδM h s)) c).length w
      have zf5a : q 78 21 = nI (zp_le (zd_ts (zθo (zτM h s J C u) (zδM h s)) (zmB h s) c) (zd_l (zθo (zτM h s J C u) (zδM h s)) c).length w) := by rw [zf5.1, zp_fl_len]
      have eJ2 : q s 7 = nI J := by rw [zf1 s (by omega) (by omega) (by omega)]; exact eJ
      have eC2 : q s 18 = nI C := by rw [zf1 s (by omega) (by omega) (by omega)]; exact eC
      have eU2 : q s 0 = nI u := by rw [zf1 s (by omega) (by omega) (by omega)]; exact eU
      have erow : q s = h s := zf1 s (by omega) (by omega) (by omega)
      have hten : ∀ i, i < (zd_l (zθo (zτM h s J C u) (zδM h s)) c).length → zs_ten (q s 1) (q s 2) (q s 3) J C (zmS q s) (zmW q s) (zmB q s) x (q 86 i) = (zd_ts (zθo (zτM h s J C u) (zδM h s)) (zmB h s) c) i := by
        intro i hi
        rw [zf3.2 i hi, show zmS q s = zmS h s by unfold zmS; rw [erow], show zmW q s = zmW h s by unfold zmW; rw [erow], show zmB q s = zmB h s by unfold zmB; rw [erow], erow, ex]
        rfl
      refine zj_aload_n (i := 0) (pc := 16) K dX8_laysPool_16 rfl rfl ?_
      refine zj_getI (pc := 17) K lf_X8_178 hs_M rfl dX8_laysPool_17 ?_
      refine zj_aload_n (i := 1) (pc := 20) K dX8_laysPool_20 rfl rfl ?_
      refine zj_iconst (v := 0) (pc := 21) K dX8_laysPool_21 (by decide) ?_
      refine zj_ald (j := 0) (pc := 22) K hs_s rfl (by decide) (by first | decide | omega) dX8_laysPool_22 ?_
      refine zj_icmp_ge (tgt := 173) (pc := 23) K dX8_laysPool_23 (by decide) (fun c_23 => ?_) (fun c_23 => ?_)
      · have hi3 : u ≤ zp_le (zd_ts (zθo (zτM h s J C u) (zδM h s)) (zmB h s) c) (zd_l (zθo (zτM h s J C u) (zδM h s)) c).length w := zz_ge zf5a eU2 (by omega) (by omega) c_23
        have hst : ¬ (zp_le (zd_ts (zθo (zτM h s J C u) (zδM h s)) (zmB h s) c) (zd_l (zθo (zτM h s J C u) (zδM h s)) c).length w < u ∧ zp_le (zd_ts (zθo (zτM h s J C u) (zδM h s)) (zmB h s) c) (zd_l (zθo (zτM h s J C u) (zδM h s)) c).length w < (zd_l (zθo (zτM h s J C u) (zδM h s)) c).length) := by omega
        exact zj_vret K Rt dX8_laysPool_173 (by
          have hw := zp_stop hst (f + 1)
          rw [zf6] at hw
          exact ⟨rfl, rfl, zf1, zf2, zf3, by rw [zd_pool, hw]; exact zf5, by rw [zf4, hw]⟩)
      · have hi3 : zp_le (zd_ts (zθo (zτM h s J C u) (zδM h s)) (zmB h s) c) (zd_l (zθo (zτM h s J C u) (zδM h s)) c).length w < u := zz_nge zf5a eU2 (by omega) (by omega) c_23
        refine zj_aload_n (i := 0) (pc := 26) K dX8_laysPool_26 rfl rfl ?_
        refine zj_getI (pc := 27) K lf_X8_178 hs_M rfl dX8_laysPool_27 ?_
        refine zj_aload_n (i := 0) (pc := 30) K dX8_laysPool_30 rfl rfl ?_
        refine zj_getI (pc := 31) K lf_X8_167 hs_M rfl dX8_laysPool_31 ?_
        refine zj_icmp_ge (tgt := 173) (pc := 34) K dX8_laysPool_34 (by decide) (fun c_34 => ?_) (fun c_34 => ?_)
        · have hi2 : (zd_l (zθo (zτM h s J C u) (zδM h s)) c).length ≤ zp_le (zd_ts (zθo (zτM h s J C u) (zδM h s)) (zmB h s) c) (zd_l (zθo (zτM h s J C u) (zδM h s)) c).length w := zz_ge zf5a zf3.1 (by omega) (by omega) c_34
          have hst : ¬ (zp_le (zd_ts (zθo (zτM h s J C u) (zδM h s)) (zmB h s) c) (zd_l (zθo (zτM h s J C u) (zδM h s)) c).length w < u ∧ zp_le (zd_ts (zθo (zτM h s J C u) (zδM h s)) (zmB h s) c) (zd_l (zθo (zτM h s J C u) (zδM h s)) c).length w < (zd_l (zθo (zτM h s J C u) (zδM h s)) c).length) := by omega
          exact zj_vret K Rt dX8_laysPool_173 (by
            have hw := zp_stop hst (f + 1)
            rw [zf6] at hw
            exact ⟨rfl, rfl, zf1, zf2, zf3, by rw [zd_pool, hw]; exact zf5, by rw [zf4, hw]⟩)
        · have hi2 : zp_le (zd_ts (zθo (zτM h s J C u) (zδM h s)) (zmB h s) c) (zd_l (zθo (zτM h s J C u) (zδM h s)) c).length w < (zd_l (zθo (zτM h s J C u) (zδM h s)) c).length := zz_nge zf5a zf3.1 (by omega) (by omega) c_34
          have hnx := zp_next hi2
          have hnl := zm_nx_of (w := w) hT0 hi2
          refine zj_iconst (v := -1) (pc := 37) K dX8_laysPool_37 (by decide) ?_
          refine zj_istore_n (i := 3) (pc := 38) K dX8_laysPool_38 rfl rfl rfl rfl ?_
          refine zj_iconst (v := 0) (pc := 39) K dX8_laysPool_39 (by decide) ?_
          refine zj_istore (pc := 40) K dX8_laysPool_40 rfl rfl rfl ?_
          refine lpA ((zd_l (zθo (zτM h s J C u) (zδM h s)) c).length + 1) 0 _ _ _ w (by omega) (by omega) rfl rfl zf1 zf2 zf3 zf4 ?_
          rw [hnl]
          refine zj_aload_n (i := 0) (pc := 94) K dX8_laysPool_94 rfl rfl ?_
          refine zj_iload_n (i := 3) (pc := 95) K dX8_laysPool_95 rfl rfl ?_
          refine zj_putI (pc := 96) K lf_X8_181 hs_M rfl dX8_laysPool_96 ?_
          refine zj_aload_n (i := 0) (pc := 99) K dX8_laysPool_99 rfl rfl ?_
          refine zj_iconst (v := 0) (pc := 100) K dX8_laysPool_100 (by decide) ?_
          refine zj_putI (pc := 101) K lf_X8_178 hs_M rfl dX8_laysPool_101 ?_
          refine zj_iconst (v := 0) (pc := 104) K dX8_laysPool_104 (by decide) ?_
          refine zj_istore (pc := 105) K dX8_laysPool_105 rfl rfl rfl ?_
          refine lpB ((zd_l (zθo (zτM h s J C u) (zδM h s)) c).length + 1) 0 _ _ _ (zp_la (zd_ts (zθo (zτM h s J C u) (zδM h s)) (zmB h s) c) w (zd_l (zθo (zτM h s J C u) (zδM h s)) c).length) (by omega) (by omega) rfl (fun a a1 a2 a3 => by rw [zj_s_ne _ _ a1, zj_s_ne _ _ a1]; exact zf1 a a1 a2 a3) (fun b b1 b2 b3 => by rw [zj_s_eq, zz_upd_ne _ _ b2, zj_s_eq, zz_upd_ne _ _ b3]; exact zf2 b b1 b2 b3) ⟨by rw [zj_s_eq, zz_upd_ne _ _ (by decide), zj_s_eq, zz_upd_ne _ _ (by decide)]; exact zf3.1, fun j hj => by rw [zj_s_ne _ _ (by decide), zj_s_ne _ _ (by decide)]; exact zf3.2 j hj⟩ rfl ⟨rfl, fun i hi => absurd hi (Nat.not_lt_zero i)⟩ (fun q2 y1 y2 y3 y4 y5 => ih _ q2 y1 y2 y3 y4 y5 ?_ ?_)
          · rw [← zf6, zp_run, if_pos ⟨hi3, hi2⟩]
          · rw [hnx.2.1]; omega
  show zj_J E Γ 6 0 [(0, .ref (E.2.1 78)), (1, .ref (E.2.1 s)), (2, .int x)] [] h g
  refine zj_aload_n (i := 0) (pc := 0) K dX8_laysPool_0 rfl rfl ?_
  refine zj_aload_n (i := 1) (pc := 1) K dX8_laysPool_1 rfl rfl ?_
  refine zj_iload_n (i := 2) (pc := 2) K dX8_laysPool_2 rfl rfl ?_
  refine zj_cV2P (pc := 3) K lm_X8_174 hs_M (m_X8_laysBenches hr eJ hJ ex hc) (by decide) rfl (Nat.le_of_ble_eq_true rfl) dX8_laysPool_3 (fun v q g1 hp => ?_)
  obtain ⟨rfl, rfl, zs1, zs2, zs3⟩ := hp
  refine zj_aload_n (i := 0) (pc := 6) K dX8_laysPool_6 rfl rfl ?_
  refine zj_iconst (v := 0) (pc := 7) K dX8_laysPool_7 (by decide) ?_
  refine zj_putI (pc := 8) K lf_X8_178 hs_M rfl dX8_laysPool_8 ?_
  refine zj_aload_n (i := 0) (pc := 11) K dX8_laysPool_11 rfl rfl ?_
  refine zj_iconst (v := -1) (pc := 12) K dX8_laysPool_12 (by decide) ?_
  refine zj_putI (pc := 13) K lf_X8_181 hs_M rfl dX8_laysPool_13 ?_
  refine loop ((zd_l (zθo (zτM h s J C u) (zδM h s)) c).length + 1) (-1) _ (fun a a1 a2 a3 => by rw [zj_s_ne _ _ a1, zj_s_ne _ _ a1]; exact zs1 a a1 a2) (fun b b1 b2 b3 => by rw [zj_s_eq, zz_upd_ne _ _ b3, zj_s_eq, zz_upd_ne _ _ b2]; exact zs2 b b1) ⟨by rw [zj_s_eq, zz_upd_ne _ _ (by decide), zj_s_eq, zz_upd_ne _ _ (by decide)]; exact zs3.1, fun j hj => by rw [zj_s_ne _ _ (by decide), zj_s_ne _ _ (by decide)]; exact zs3.2 j hj⟩ rfl ?_ rfl (by omega)
  rw [zp_fl_nil (fun i _ => hT0 i)]
  exact ⟨rfl, fun i hi => absurd hi (Nat.not_lt_zero i)⟩
