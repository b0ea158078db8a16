theorem zz_upd2 (f : Nat → Int32) (k : Nat) (a b : Int32) : upd (upd f k a) k b = upd f k b := by
  funext j; unfold upd; split <;> rfl
theorem zj_Dap {d o : Nat} (hd : zj_isD d) (ho : zj_isD o) (hdo : d ≠ o) : d + 4 ≤ o ∨ o + 4 ≤ d := by
  rcases hd with rfl | rfl | ⟨i, hi, rfl⟩ <;> rcases ho with rfl | rfl | ⟨j, hj, rfl⟩ <;> omega
section ZZA
variable {d o : Nat} (h : d + 4 ≤ o ∨ o + 4 ≤ d)
theorem zz_a0 (h : d + 4 ≤ o ∨ o + 4 ≤ d) : ¬ o = d := by omega
theorem zz_a1 (h : d + 4 ≤ o ∨ o + 4 ≤ d) : ¬ o = d + 1 := by omega
theorem zz_a2 (h : d + 4 ≤ o ∨ o + 4 ≤ d) : ¬ o = d + 2 := by omega
theorem zz_a3 (h : d + 4 ≤ o ∨ o + 4 ≤ d) : ¬ o = d + 3 := by omega
theorem zz_b0 (h : d + 4 ≤ o ∨ o + 4 ≤ d) : ¬ o + 1 = d := by omega
theorem zz_b1 (h : d + 4 ≤ o ∨ o + 4 ≤ d) : ¬ o = d := by omega
theorem zz_b2 (h : d + 4 ≤ o ∨ o + 4 ≤ d) : ¬ o + 1 = d + 2 := by omega
theorem zz_b3 (h : d + 4 ≤ o ∨ o + 4 ≤ d) : ¬ o + 1 = d + 3 := by omega
theorem zz_c0 (h : d + 4 ≤ o ∨ o + 4 ≤ d) : ¬ o + 2 = d := by omega
theorem zz_c1 (h : d + 4 ≤ o ∨ o + 4 ≤ d) : ¬ o + 2 = d + 1 := by omega
theorem zz_c2 (h : d + 4 ≤ o ∨ o + 4 ≤ d) : ¬ o = d := by omega
theorem zz_c3 (h : d + 4 ≤ o ∨ o + 4 ≤ d) : ¬ o + 2 = d + 3 := by omega
theorem zz_d0 (h : d + 4 ≤ o ∨ o + 4 ≤ d) : ¬ o + 3 = d := by omega
theorem zz_d1 (h : d + 4 ≤ o ∨ o + 4 ≤ d) : ¬ o + 3 = d + 1 := by omega
theorem zz_d2 (h : d + 4 ≤ o ∨ o + 4 ≤ d) : ¬ o + 3 = d + 2 := by omega
theorem zz_d3 (h : d + 4 ≤ o ∨ o + 4 ≤ d) : ¬ o = d := by omega
end ZZA
set_option maxHeartbeats 4000000 in
set_option maxRecDepth 20000 in
theorem m_X6_markSeniors {l : Launch} {E : zj_E} {h : zj_H} {g : zj_G} {J : Nat} (eJ : h 8 6 = nI J) (hJ : J ≤ 9)  : zj_M l E yX6_markSeniors cX6_markSeniors 2 none 0 [.ref (E.2.1 8)] h g (zj_pV (zj_s h 8 (upd (h 8) 8 (zc_mask (h 9) (h 8 5) J))) g) := by
  refine zj_M.of RX6 (by decide) rfl (Nat.le_of_ble_eq_true rfl) ?_
  intro Γ hΓ K Rt
  subst hΓ
  have loop : ∀ (n i : Nat) (x1 : Int32), J + 1 ≤ i + n → i ≤ J → (x1 = nI i) → zj_J E Γ 2 7 [(0, .ref (E.2.1 8)), (1, .int x1)] [] (zj_s h 8 (upd (h 8) 8 (zc_mask (h 9) (h 8 5) i))) g := by
    intro n
    induction n with
    | zero => intro i x1  h1 h2; omega
    | succ n ih =>
      intro i x1  h1 h2 e1
      refine zj_iload_n (i := 1) (pc := 7) K dX6_markSeniors_7 rfl rfl ?_
      refine zj_aload_n (i := 0) (pc := 8) K dX6_markSeniors_8 rfl rfl ?_
      refine zj_getI (pc := 9) K lf_X6_40 hs_D rfl dX6_markSeniors_9 ?_
      refine zj_icmp_ge (tgt := 46) (pc := 12) K dX6_markSeniors_12 (by decide) (fun c_12 => ?_) (fun c_12 => ?_)
      · have hi : i = J := Nat.le_antisymm h2 (zz_ge e1 eJ (by omega) (by omega) c_12)
        subst hi
        exact zj_vret K Rt dX6_markSeniors_46 (⟨rfl, rfl, rfl⟩)
      · have hi : i < J := zz_nge e1 eJ (by omega) (by omega) c_12
        refine zj_aload_n (i := 0) (pc := 15) K dX6_markSeniors_15 rfl rfl ?_
        refine zj_getR (pc := 16) K lf_X6_9 hs_D rfl dX6_markSeniors_16 ?_
        refine zj_iload_n (i := 1) (pc := 19) K dX6_markSeniors_19 rfl rfl ?_
        refine zj_ald (j := _) (pc := 20) K hs_Ds (by first | assumption | rfl) (by first | assumption | omega) (by first | decide | omega) dX6_markSeniors_20 ?_
        refine zj_aload_n (i := 0) (pc := 21) K dX6_markSeniors_21 rfl rfl ?_
        refine zj_getI (pc := 22) K lf_X6_21 hs_D rfl dX6_markSeniors_22 ?_
        refine zj_icmp_lt (tgt := 40) (pc := 25) K dX6_markSeniors_25 (by decide) (fun c_25 => ?_) (fun c_25 => ?_)
        · refine zj_iinc (v := 1) (pc := 40) K dX6_markSeniors_40 rfl (by decide) rfl rfl rfl ?_
          refine zj_goto (tgt := 7) (pc := 43) K dX6_markSeniors_43 (by decide) ?_
          first
          | (refine zj_heap (h' := zj_s h 8 (upd (h 8) 8 (zc_mask (h 9) (h 8 5) (i + 1)))) (by rw [zc_mask, if_neg (fun q => absurd (show h 9 i < h 8 5 from c_25) (Int32.not_lt.mpr q))]) ?_
             exact ih (i + 1) _ (by omega) (by omega) (zz_up e1))
          | (refine zj_heap (h' := zj_s h 8 (upd (h 8) 8 (zc_mask (h 9) (h 8 5) (i + 1)))) (by rw [zc_mask, if_pos (Int32.not_lt.mp (show ¬ h 9 i < h 8 5 from c_25)), zj_s_s, zj_s_eq, zz_upd2]; rw [e1]; rfl) ?_
             exact ih (i + 1) _ (by omega) (by omega) (zz_up e1))
        · refine zj_aload_n (i := 0) (pc := 28) K dX6_markSeniors_28 rfl rfl ?_
          refine zj_dup (pc := 29) K dX6_markSeniors_29 rfl ?_
          refine zj_getI (pc := 30) K lf_X6_55 hs_D rfl dX6_markSeniors_30 ?_
          refine zj_iconst (v := 1) (pc := 33) K dX6_markSeniors_33 (by decide) ?_
          refine zj_iload_n (i := 1) (pc := 34) K dX6_markSeniors_34 rfl rfl ?_
          refine zj_ishl (pc := 35) K dX6_markSeniors_35 ?_
          refine zj_ior (pc := 36) K dX6_markSeniors_36 ?_
          refine zj_putI (pc := 37) K lf_X6_55 hs_D rfl dX6_markSeniors_37 ?_
          refine zj_iinc (v := 1) (pc := 40) K dX6_markSeniors_40 rfl (by decide) rfl rfl rfl ?_
          refine zj_goto (tgt := 7) (pc := 43) K dX6_markSeniors_43 (by decide) ?_
          first
          | (refine zj_heap (h' := zj_s h 8 (upd (h 8) 8 (zc_mask (h 9) (h 8 5) (i + 1)))) (by rw [zc_mask, if_neg (fun q => absurd (show h 9 i < h 8 5 from c_25) (Int32.not_lt.mpr q))]) ?_
             exact ih (i + 1) _ (by omega) (by omega) (zz_up e1))
          | (refine zj_heap (h' := zj_s h 8 (upd (h 8) 8 (zc_mask (h 9) (h 8 5) (i + 1)))) (by rw [zc_mask, if_pos (Int32.not_lt.mp (show ¬ h 9 i < h 8 5 from c_25)), zj_s_s, zj_s_eq, zz_upd2]; rw [e1]; rfl) ?_
             exact ih (i + 1) _ (by omega) (by omega) (zz_up e1))
  show zj_J E Γ 2 0 [(0, .ref (E.2.1 8))] [] h g
  refine zj_aload_n (i := 0) (pc := 0) K dX6_markSeniors_0 rfl rfl ?_
  refine zj_iconst (v := 0) (pc := 1) K dX6_markSeniors_1 (by decide) ?_
  refine zj_putI (pc := 2) K lf_X6_55 hs_D rfl dX6_markSeniors_2 ?_
  refine zj_iconst (v := 0) (pc := 5) K dX6_markSeniors_5 (by decide) ?_
  refine zj_istore_n (i := 1) (pc := 6) K dX6_markSeniors_6 rfl rfl rfl rfl ?_
  exact loop (J + 1) 0 _ (by omega) (by omega) rfl

set_option maxHeartbeats 4000000 in
set_option maxRecDepth 20000 in
theorem m_X6_become {l : Launch} {E : zj_E} {h : zj_H} {g : zj_G} {J : Nat} (hJ : J ≤ 9) (eJ : h 4 6 = nI J) : zj_M l E yX6_become cX6_become 2 none 2 [.ref (E.2.1 8), .ref (E.2.1 4)] h g (fun v h' g' => v = none ∧ g' = g ∧ (∀ a, a ≠ 8 → a ≠ 9 → a ≠ 10 → a ≠ 11 → h' a = h a) ∧ (∀ b, b < 8 → h' 8 b = h 4 b) ∧ h' 8 8 = zc_mask (h' 9) (h' 8 5) J ∧ (∀ b, b < 9 → h' 9 b = h 5 b) ∧ (∀ b, b < 14 → h' 10 b = h 6 b) ∧ (∀ b, b < 14 → h' 11 b = h 7 b)) := by
  refine zj_M.of RX6 (by decide) rfl (Nat.le_of_ble_eq_true rfl) ?_
  intro Γ hΓ K Rt
  subst hΓ
  show zj_J E Γ 2 0 [(0, .ref (E.2.1 8)), (1, .ref (E.2.1 4))] [] h g
  refine zj_aload_n (i := 0) (pc := 0) K dX6_become_0 rfl rfl ?_
  refine zj_aload_n (i := 1) (pc := 1) K dX6_become_1 rfl rfl ?_
  refine zj_getI (pc := 2) K lf_X6_25 hs_F rfl dX6_become_2 ?_
  refine zj_putI (pc := 5) K lf_X6_25 hs_D rfl dX6_become_5 ?_
  refine zj_aload_n (i := 0) (pc := 8) K dX6_become_8 rfl rfl ?_
  refine zj_aload_n (i := 1) (pc := 9) K dX6_become_9 rfl rfl ?_
  refine zj_getI (pc := 10) K lf_X6_28 hs_F rfl dX6_become_10 ?_
  refine zj_putI (pc := 13) K lf_X6_28 hs_D rfl dX6_become_13 ?_
  refine zj_aload_n (i := 0) (pc := 16) K dX6_become_16 rfl rfl ?_
  refine zj_aload_n (i := 1) (pc := 17) K dX6_become_17 rfl rfl ?_
  refine zj_getI (pc := 18) K lf_X6_31 hs_F rfl dX6_become_18 ?_
  refine zj_putI (pc := 21) K lf_X6_31 hs_D rfl dX6_become_21 ?_
  refine zj_aload_n (i := 0) (pc := 24) K dX6_become_24 rfl rfl ?_
  refine zj_aload_n (i := 1) (pc := 25) K dX6_become_25 rfl rfl ?_
  refine zj_getI (pc := 26) K lf_X6_34 hs_F rfl dX6_become_26 ?_
  refine zj_putI (pc := 29) K lf_X6_34 hs_D rfl dX6_become_29 ?_
  refine zj_aload_n (i := 0) (pc := 32) K dX6_become_32 rfl rfl ?_
  refine zj_aload_n (i := 1) (pc := 33) K dX6_become_33 rfl rfl ?_
  refine zj_getI (pc := 34) K lf_X6_37 hs_F rfl dX6_become_34 ?_
  refine zj_putI (pc := 37) K lf_X6_37 hs_D rfl dX6_become_37 ?_
  refine zj_aload_n (i := 0) (pc := 40) K dX6_become_40 rfl rfl ?_
  refine zj_aload_n (i := 1) (pc := 41) K dX6_become_41 rfl rfl ?_
  refine zj_getI (pc := 42) K lf_X6_21 hs_F rfl dX6_become_42 ?_
  refine zj_putI (pc := 45) K lf_X6_21 hs_D rfl dX6_become_45 ?_
  refine zj_aload_n (i := 0) (pc := 48) K dX6_become_48 rfl rfl ?_
  refine zj_aload_n (i := 1) (pc := 49) K dX6_become_49 rfl rfl ?_
  refine zj_getI (pc := 50) K lf_X6_40 hs_F rfl dX6_become_50 ?_
  refine zj_putI (pc := 53) K lf_X6_40 hs_D rfl dX6_become_53 ?_
  refine zj_aload_n (i := 0) (pc := 56) K dX6_become_56 rfl rfl ?_
  refine zj_aload_n (i := 1) (pc := 57) K dX6_become_57 rfl rfl ?_
  refine zj_getI (pc := 58) K lf_X6_43 hs_F rfl dX6_become_58 ?_
  refine zj_putI (pc := 61) K lf_X6_43 hs_D rfl dX6_become_61 ?_
  refine zj_aload_n (i := 1) (pc := 64) K dX6_become_64 rfl rfl ?_
  refine zj_getR (pc := 65) K lf_X6_9 hs_F rfl dX6_become_65 ?_
  refine zj_iconst (v := 0) (pc := 68) K dX6_become_68 (by decide) ?_
  refine zj_aload_n (i := 0) (pc := 69) K dX6_become_69 rfl rfl ?_
  refine zj_getR (pc := 70) K lf_X6_9 hs_D rfl dX6_become_70 ?_
  refine zj_iconst (v := 0) (pc := 73) K dX6_become_73 (by decide) ?_
  refine zj_bipush (v := 9) (pc := 74) K dX6_become_74 (by decide) ?_
  refine zj_copy (n := 9) (pc := 76) K (by decide) zl_X6_46 hs_Fs hs_Ds rfl (by decide) (by decide) (by decide) (Nat.le_of_ble_eq_true rfl) dX6_become_76 ?_
  refine zj_aload_n (i := 1) (pc := 79) K dX6_become_79 rfl rfl ?_
  refine zj_getR (pc := 80) K lf_X6_15 hs_F rfl dX6_become_80 ?_
  refine zj_iconst (v := 0) (pc := 83) K dX6_become_83 (by decide) ?_
  refine zj_aload_n (i := 0) (pc := 84) K dX6_become_84 rfl rfl ?_
  refine zj_getR (pc := 85) K lf_X6_15 hs_D rfl dX6_become_85 ?_
  refine zj_iconst (v := 0) (pc := 88) K dX6_become_88 (by decide) ?_
  refine zj_bipush (v := 14) (pc := 89) K dX6_become_89 (by decide) ?_
  refine zj_copy (n := 14) (pc := 91) K (by decide) zl_X6_46 hs_Fw hs_Dw rfl (by decide) (by decide) (by decide) (Nat.le_of_ble_eq_true rfl) dX6_become_91 ?_
  refine zj_aload_n (i := 1) (pc := 94) K dX6_become_94 rfl rfl ?_
  refine zj_getR (pc := 95) K lf_X6_18 hs_F rfl dX6_become_95 ?_
  refine zj_iconst (v := 0) (pc := 98) K dX6_become_98 (by decide) ?_
  refine zj_aload_n (i := 0) (pc := 99) K dX6_become_99 rfl rfl ?_
  refine zj_getR (pc := 100) K lf_X6_18 hs_D rfl dX6_become_100 ?_
  refine zj_iconst (v := 0) (pc := 103) K dX6_become_103 (by decide) ?_
  refine zj_bipush (v := 14) (pc := 104) K dX6_become_104 (by decide) ?_
  refine zj_copy (n := 14) (pc := 106) K (by decide) zl_X6_46 hs_Fb hs_Db rfl (by decide) (by decide) (by decide) (Nat.le_of_ble_eq_true rfl) dX6_become_106 ?_
  refine zj_aload_n (i := 0) (pc := 109) K dX6_become_109 rfl rfl ?_
  refine zj_cV0W (pc := 110) K lm_X6_52 hs_D (m_X6_markSeniors (J := J) (by simp [zj_s, upd]; exact eJ) hJ) (by decide) rfl (Nat.le_of_ble_eq_true rfl) dX6_become_110 ?_
  exact zj_vret K Rt dX6_become_113 (⟨rfl, rfl, fun a a1 a2 a3 a4 => by simp [zj_s, a1, a2, a3, a4], fun b hb => by
          rcases (show b = 0 ∨ b = 1 ∨ b = 2 ∨ b = 3 ∨ b = 4 ∨ b = 5 ∨ b = 6 ∨ b = 7 by omega) with rfl | rfl | rfl | rfl | rfl | rfl | rfl | rfl <;> simp [zj_s, upd], by simp [zj_s, upd], fun b hb => by simp [zj_s, upd, hb], fun b hb => by simp [zj_s, upd, hb], fun b hb => by simp [zj_s, upd, hb]⟩)

set_option maxHeartbeats 4000000 in
set_option maxRecDepth 20000 in
theorem m_X1_begin {l : Launch} {E : zj_E} {h : zj_H} {g : zj_G} {k : Nat} (hk : zj_isC k) : zj_M l E yX1_begin cX1_begin 2 none 2 [.ref (E.2.1 (k + 1)), .ref (E.2.1 8)] h g (fun v h' g' => v = none ∧ g' = g ∧ (∀ a, a ≠ k + 1 → a ≠ k + 2 → a ≠ k + 3 → a ≠ k + 4 → h' a = h a) ∧ h' (k + 1) 0 = h 8 0 ∧ h' (k + 1) 1 = 0 ∧ (∀ b, b < 14 → h' (k + 2) b = 0) ∧ (∀ b, b < 14 → h' (k + 3) b = 0) ∧ (∀ b, b < 14 → h' (k + 4) b = h 11 b)) := by
  refine zj_M.of RX1 (by decide) rfl (Nat.le_of_ble_eq_true rfl) ?_
  intro Γ hΓ K Rt
  subst hΓ
  obtain ⟨hs_C, hs_Cd, hs_Cs, hs_Ci, hs_Cb, hs_Cf, hs_Cp, hs_Cl, hs_Cn, hs_Ct⟩ := zj_shC hk
  obtain ⟨hk12, hk22⟩ := zj_C12 hk
  show zj_J E Γ 2 0 [(0, .ref (E.2.1 (k + 1))), (1, .ref (E.2.1 8))] [] h g
  refine zj_aload_n (i := 0) (pc := 0) K dX1_begin_0 rfl rfl ?_
  refine zj_aload_n (i := 1) (pc := 1) K dX1_begin_1 rfl rfl ?_
  refine zj_getI (pc := 2) K lf_X1_21 hs_D rfl dX1_begin_2 ?_
  refine zj_putI (pc := 5) K lf_X1_27 hs_Cd rfl dX1_begin_5 ?_
  refine zj_aload_n (i := 0) (pc := 8) K dX1_begin_8 rfl rfl ?_
  refine zj_iconst (v := 0) (pc := 9) K dX1_begin_9 (by decide) ?_
  refine zj_putI (pc := 10) K lf_X1_28 hs_Cd rfl dX1_begin_10 ?_
  refine zj_aload_n (i := 0) (pc := 13) K dX1_begin_13 rfl rfl ?_
  refine zj_getR (pc := 14) K lf_X1_9 hs_Cd rfl dX1_begin_14 ?_
  refine zj_iconst (v := 0) (pc := 17) K dX1_begin_17 (by decide) ?_
  refine zj_cS2W (pc := 18) K lm_X1_31 (m_J7_fill_53178 (by assumption) (by omega)) (by decide) rfl (Nat.le_of_ble_eq_true rfl) dX1_begin_18 ?_
  refine zj_aload_n (i := 0) (pc := 21) K dX1_begin_21 rfl rfl ?_
  refine zj_getR (pc := 22) K lf_X1_15 hs_Cd rfl dX1_begin_22 ?_
  refine zj_iconst (v := 0) (pc := 25) K dX1_begin_25 (by decide) ?_
  refine zj_cS2W (pc := 26) K lm_X1_31 (m_J7_fill_53178 (by assumption) (by omega)) (by decide) rfl (Nat.le_of_ble_eq_true rfl) dX1_begin_26 ?_
  refine zj_aload_n (i := 1) (pc := 29) K dX1_begin_29 rfl rfl ?_
  refine zj_getR (pc := 30) K lf_X1_37 hs_D rfl dX1_begin_30 ?_
  refine zj_iconst (v := 0) (pc := 33) K dX1_begin_33 (by decide) ?_
  refine zj_aload_n (i := 0) (pc := 34) K dX1_begin_34 rfl rfl ?_
  refine zj_getR (pc := 35) K lf_X1_18 hs_Cd rfl dX1_begin_35 ?_
  refine zj_iconst (v := 0) (pc := 38) K dX1_begin_38 (by decide) ?_
  refine zj_bipush (v := 14) (pc := 39) K dX1_begin_39 (by decide) ?_
  refine zj_copy (n := 14) (pc := 41) K (by decide) zl_X1_38 hs_Db hs_Cb rfl (by decide) (by decide) (by decide) (Nat.le_of_ble_eq_true rfl) dX1_begin_41 ?_
  exact zj_vret K Rt dX1_begin_44 (⟨rfl, rfl, fun a a1 a2 a3 a4 => by simp [zj_s, a1, a2, a3, a4], by rcases hk with rfl | rfl <;> simp [zj_s, upd], by rcases hk with rfl | rfl <;> simp [zj_s, upd], fun b hb => by rcases hk with rfl | rfl <;> simp [zj_s, upd, hb], fun b hb => by rcases hk with rfl | rfl <;> simp [zj_s, upd, hb], fun b hb => by rcases hk with rfl | rfl <;> simp [zj_s, upd, hb]⟩)

set_option maxHeartbeats 4000000 in
set_option maxRecDepth 20000 in
theorem m_X1_become {l : Launch} {E : zj_E} {h : zj_H} {g : zj_G} {d o : Nat} (hd : zj_isD d) (ho : zj_isD o) (hdo : d ≠ o) : zj_M l E yX1_become cX1_become 2 none 2 [.ref (E.2.1 d), .ref (E.2.1 o)] h g (fun v h' g' => v = none ∧ g' = g ∧ (∀ a, a ≠ d → a ≠ d + 1 → a ≠ d + 2 → a ≠ d + 3 → h' a = h a) ∧ h' d 0 = h o 0 ∧ h' d 1 = h o 1 ∧ (∀ b, b < 14 → h' (d + 1) b = h (o + 1) b) ∧ (∀ b, b < 14 → h' (d + 2) b = h (o + 2) b) ∧ (∀ b, b < 14 → h' (d + 3) b = h (o + 3) b)) := by
  refine zj_M.of RX1 (by decide) rfl (Nat.le_of_ble_eq_true rfl) ?_
  intro Γ hΓ K Rt
  subst hΓ
  obtain ⟨hs_K, hs_Ks, hs_Ki, hs_Kb⟩ := zj_shD hd
  obtain ⟨hs_K2, hs_K2s, hs_K2i, hs_K2b⟩ := zj_shD ho
  have hap := zj_Dap hd ho hdo
  show zj_J E Γ 2 0 [(0, .ref (E.2.1 d)), (1, .ref (E.2.1 o))] [] h g
  refine zj_aload_n (i := 0) (pc := 0) K dX1_become_0 rfl rfl ?_
  refine zj_aload_n (i := 1) (pc := 1) K dX1_become_1 rfl rfl ?_
  refine zj_getI (pc := 2) K lf_X1_27 hs_K2 rfl dX1_become_2 ?_
  refine zj_putI (pc := 5) K lf_X1_27 hs_K rfl dX1_become_5 ?_
  refine zj_aload_n (i := 0) (pc := 8) K dX1_become_8 rfl rfl ?_
  refine zj_aload_n (i := 1) (pc := 9) K dX1_become_9 rfl rfl ?_
  refine zj_getI (pc := 10) K lf_X1_28 hs_K2 rfl dX1_become_10 ?_
  refine zj_putI (pc := 13) K lf_X1_28 hs_K rfl dX1_become_13 ?_
  refine zj_aload_n (i := 1) (pc := 16) K dX1_become_16 rfl rfl ?_
  refine zj_getR (pc := 17) K lf_X1_9 hs_K2 rfl dX1_become_17 ?_
  refine zj_iconst (v := 0) (pc := 20) K dX1_become_20 (by decide) ?_
  refine zj_aload_n (i := 0) (pc := 21) K dX1_become_21 rfl rfl ?_
  refine zj_getR (pc := 22) K lf_X1_9 hs_K rfl dX1_become_22 ?_
  refine zj_iconst (v := 0) (pc := 25) K dX1_become_25 (by decide) ?_
  refine zj_bipush (v := 14) (pc := 26) K dX1_become_26 (by decide) ?_
  refine zj_copy (n := 14) (pc := 28) K (by decide) zl_X1_38 hs_K2s hs_Ks rfl (by decide) (by decide) (by decide) (Nat.le_of_ble_eq_true rfl) dX1_become_28 ?_
  refine zj_aload_n (i := 1) (pc := 31) K dX1_become_31 rfl rfl ?_
  refine zj_getR (pc := 32) K lf_X1_15 hs_K2 rfl dX1_become_32 ?_
  refine zj_iconst (v := 0) (pc := 35) K dX1_become_35 (by decide) ?_
  refine zj_aload_n (i := 0) (pc := 36) K dX1_become_36 rfl rfl ?_
  refine zj_getR (pc := 37) K lf_X1_15 hs_K rfl dX1_become_37 ?_
  refine zj_iconst (v := 0) (pc := 40) K dX1_become_40 (by decide) ?_
  refine zj_bipush (v := 14) (pc := 41) K dX1_become_41 (by decide) ?_
  refine zj_copy (n := 14) (pc := 43) K (by decide) zl_X1_38 hs_K2i hs_Ki rfl (by decide) (by decide) (by decide) (Nat.le_of_ble_eq_true rfl) dX1_become_43 ?_
  refine zj_aload_n (i := 1) (pc := 46) K dX1_become_46 rfl rfl ?_
  refine zj_getR (pc := 47) K lf_X1_18 hs_K2 rfl dX1_become_47 ?_
  refine zj_iconst (v := 0) (pc := 50) K dX1_become_50 (by decide) ?_
  refine zj_aload_n (i := 0) (pc := 51) K dX1_become_51 rfl rfl ?_
  refine zj_getR (pc := 52) K lf_X1_18 hs_K rfl dX1_become_52 ?_
  refine zj_iconst (v := 0) (pc := 55) K dX1_become_55 (by decide) ?_
  refine zj_bipush (v := 14) (pc := 56) K dX1_become_56 (by decide) ?_
  refine zj_copy (n := 14) (pc := 58) K (by decide) zl_X1_38 hs_K2b hs_Kb rfl (by decide) (by decide) (by decide) (Nat.le_of_ble_eq_true rfl) dX1_become_58 ?_
  exact zj_vret K Rt dX1_become_61 (⟨rfl, rfl, fun a a1 a2 a3 a4 => by simp [zj_s, a1, a2, a3, a4], by simp [zj_s, upd, zz_a1 hap, zz_a2 hap, zz_a3 hap, zz_a0 hap], by simp [zj_s, upd, zz_a1 hap, zz_a2 hap, zz_a3 hap, zz_a0 hap], fun b hb => by simp [zj_s, upd, hb, zz_b1 hap, zz_b2 hap, zz_b3 hap, zz_b0 hap], fun b hb => by simp [zj_s, upd, hb, zz_c1 hap, zz_c2 hap, zz_c3 hap, zz_c0 hap], fun b hb => by simp [zj_s, upd, hb, zz_d1 hap, zz_d2 hap, zz_d3 hap, zz_d0 hap]⟩)

set_option maxHeartbeats 4000000 in
set_option maxRecDepth 20000 in
theorem m_X0_begin {l : Launch} {E : zj_E} {h : zj_H} {g : zj_G} {k : Nat} (hk : zj_isC k) : zj_M l E yX0_begin cX0_begin 1 none 3 [.ref (E.2.1 k)] h g (fun v h' g' => v = none ∧ g' = g ∧ (∀ a, a ≠ k + 1 → a ≠ k + 2 → a ≠ k + 3 → a ≠ k + 4 → h' a = h a) ∧ h' (k + 1) 0 = h 8 0 ∧ h' (k + 1) 1 = 0 ∧ (∀ b, b < 14 → h' (k + 2) b = 0) ∧ (∀ b, b < 14 → h' (k + 3) b = 0) ∧ (∀ b, b < 14 → h' (k + 4) b = h 11 b)) := by
  refine zj_M.of RX0 (by decide) rfl (Nat.le_of_ble_eq_true rfl) ?_
  intro Γ hΓ K Rt
  subst hΓ
  obtain ⟨hs_C, hs_Cd, hs_Cs, hs_Ci, hs_Cb, hs_Cf, hs_Cp, hs_Cl, hs_Cn, hs_Ct⟩ := zj_shC hk
  obtain ⟨hk12, hk22⟩ := zj_C12 hk
  show zj_J E Γ 1 0 [(0, .ref (E.2.1 k))] [] h g
  refine zj_aload_n (i := 0) (pc := 0) K dX0_begin_0 rfl rfl ?_
  refine zj_getR (pc := 1) K lf_X0_18 hs_C rfl dX0_begin_1 ?_
  refine zj_aload_n (i := 0) (pc := 4) K dX0_begin_4 rfl rfl ?_
  refine zj_getR (pc := 5) K lf_X0_9 hs_C rfl dX0_begin_5 ?_
  refine zj_cV1P (pc := 8) K lm_X0_42 hs_Cd (m_X1_begin hk) (by decide) rfl (Nat.le_of_ble_eq_true rfl) dX0_begin_8 (fun v h1 g1 hp => ?_)
  obtain ⟨rfl, hp⟩ := hp
  exact zj_vret K Rt dX0_begin_11 (⟨rfl, hp⟩)

set_option maxHeartbeats 4000000 in
set_option maxRecDepth 20000 in
theorem m_X0_isSet {l : Launch} {E : zj_E} {h : zj_H} {g : zj_G} {k C : Nat} (hk : zj_isC k) (eC : h 8 7 = nI C) (hC : C ≤ 14) {x : Int32} : zj_M l E yX0_isSet cX0_isSet 2 (some .boolean) 1 [.ref (E.2.1 k), .int x] h g (zj_pI (zz_i (zz_in x C && decide (h (k + 2) x.toNatClampNeg = 1))) h g) := by
  refine zj_M.of RX0 (by decide) rfl (Nat.le_of_ble_eq_true rfl) ?_
  intro Γ hΓ K Rt
  subst hΓ
  obtain ⟨hs_C, hs_Cd, hs_Cs, hs_Ci, hs_Cb, hs_Cf, hs_Cp, hs_Cl, hs_Cn, hs_Ct⟩ := zj_shC hk
  obtain ⟨hk12, hk22⟩ := zj_C12 hk
  show zj_J E Γ 2 0 [(0, .ref (E.2.1 k)), (1, .int x)] [] h g
  refine zj_aload_n (i := 0) (pc := 0) K dX0_isSet_0 rfl rfl ?_
  refine zj_getR (pc := 1) K lf_X0_9 hs_C rfl dX0_isSet_1 ?_
  refine zj_iload_n (i := 1) (pc := 4) K dX0_isSet_4 rfl rfl ?_
  refine zj_cV1I (pc := 5) K lm_X0_46 hs_D (m_X6_hasCase (Or.inr rfl) (by assumption) (by omega)) (by decide) rfl (Nat.le_of_ble_eq_true rfl) dX0_isSet_5 ?_
  refine zj_if_eq (tgt := 28) (pc := 8) K dX0_isSet_8 (by decide) (fun c_8 => ?_) (fun c_8 => ?_)
  · replace c_8 := zz_i0.mp c_8
    refine zj_iconst (v := 0) (pc := 28) K dX0_isSet_28 (by decide) ?_
    exact zj_zret K Rt dX0_isSet_29 (by decide) (⟨by first | (rw [c_8]; rfl) | (rw [c_8, hcl, decide_eq_true c_21]; rfl) | (rw [c_8, hcl, decide_eq_false c_21]; rfl), rfl, rfl⟩)
  · replace c_8 := zz_n0.mp c_8
    obtain ⟨c, hc, rfl⟩ := zz_in_ex c_8 (by omega)
    have hcl : (nI c).toNatClampNeg = c := nI_clamp (by omega)
    refine zj_aload_n (i := 0) (pc := 11) K dX0_isSet_11 rfl rfl ?_
    refine zj_getR (pc := 12) K lf_X0_18 hs_C rfl dX0_isSet_12 ?_
    refine zj_getR (pc := 15) K lf_X0_52 hs_Cd rfl dX0_isSet_15 ?_
    refine zj_iload_n (i := 1) (pc := 18) K dX0_isSet_18 rfl rfl ?_
    refine zj_ald (j := c) (pc := 19) K hs_Cs rfl (by omega) (by first | decide | omega) dX0_isSet_19 ?_
    refine zj_iconst (v := 1) (pc := 20) K dX0_isSet_20 (by decide) ?_
    refine zj_icmp_ne (tgt := 28) (pc := 21) K dX0_isSet_21 (by decide) (fun c_21 => ?_) (fun c_21 => ?_)
    · refine zj_iconst (v := 0) (pc := 28) K dX0_isSet_28 (by decide) ?_
      exact zj_zret K Rt dX0_isSet_29 (by decide) (⟨by first | (rw [c_8]; rfl) | (rw [c_8, hcl, decide_eq_true c_21]; rfl) | (rw [c_8, hcl, decide_eq_false c_21]; rfl), rfl, rfl⟩)
    · refine zj_iconst (v := 1) (pc := 24) K dX0_isSet_24 (by decide) ?_
      refine zj_goto (tgt := 29) (pc := 25) K dX0_isSet_25 (by decide) ?_
      exact zj_zret K Rt dX0_isSet_29 (by decide) (⟨by first | (rw [c_8]; rfl) | (rw [c_8, hcl, decide_eq_true c_21]; rfl) | (rw [c_8, hcl, decide_eq_false c_21]; rfl), rfl, rfl⟩)

set_option maxHeartbeats 4000000 in
set_option maxRecDepth 20000 in
theorem m_X0_casesAt {l : Launch} {E : zj_E} {h : zj_H} {g : zj_G} {k C : Nat} (hk : zj_isC k) (eC : h 8 7 = nI C) (hC : C ≤ 14) {st : Int32} : zj_M l E yX0_casesAt cX0_casesAt 4 (some .int) 0 [.ref (E.2.1 k), .int st] h g (zj_pI (nI (zc_cnt (fun c => decide (h (k + 2) c = st)) C)) h g) := by
  refine zj_M.of RX0 (by decide) rfl (Nat.le_of_ble_eq_true rfl) ?_
  intro Γ hΓ K Rt
  subst hΓ
  obtain ⟨hs_C, hs_Cd, hs_Cs, hs_Ci, hs_Cb, hs_Cf, hs_Cp, hs_Cl, hs_Cn, hs_Ct⟩ := zj_shC hk
  obtain ⟨hk12, hk22⟩ := zj_C12 hk
  have loop : ∀ (n i : Nat) (x2 x3 : Int32), C + 1 ≤ i + n → i ≤ C → (x2 = nI (zc_cnt (fun c => decide (h (k + 2) c = st)) i)) → (x3 = nI i) → zj_J E Γ 4 4 [(0, .ref (E.2.1 k)), (1, .int st), (2, .int x2), (3, .int x3)] [] h g := by
    intro n
    induction n with
    | zero => intro i x2 x3  h1 h2; omega
    | succ n ih =>
      intro i x2 x3  h1 h2 e2 e3
      refine zj_iload_n (i := 3) (pc := 4) K dX0_casesAt_4 rfl rfl ?_
      refine zj_aload_n (i := 0) (pc := 5) K dX0_casesAt_5 rfl rfl ?_
      refine zj_getR (pc := 6) K lf_X0_9 hs_C rfl dX0_casesAt_6 ?_
      refine zj_getI (pc := 9) K lf_X0_55 hs_D rfl dX0_casesAt_9 ?_
      refine zj_icmp_ge (tgt := 37) (pc := 12) K dX0_casesAt_12 (by decide) (fun c_12 => ?_) (fun c_12 => ?_)
      · have hi : i = C := Nat.le_antisymm h2 (zz_ge e3 eC (by omega) (by omega) c_12)
        subst hi
        refine zj_iload_n (i := 2) (pc := 37) K dX0_casesAt_37 rfl rfl ?_
        exact zj_iret K Rt dX0_casesAt_38 (⟨by rw [e2], rfl, rfl⟩)
      · have hi : i < C := zz_nge e3 eC (by omega) (by omega) c_12
        refine zj_aload_n (i := 0) (pc := 15) K dX0_casesAt_15 rfl rfl ?_
        refine zj_getR (pc := 16) K lf_X0_18 hs_C rfl dX0_casesAt_16 ?_
        refine zj_getR (pc := 19) K lf_X0_52 hs_Cd rfl dX0_casesAt_19 ?_
        refine zj_iload_n (i := 3) (pc := 22) K dX0_casesAt_22 rfl rfl ?_
        refine zj_ald (j := _) (pc := 23) K hs_Cs (by first | assumption | rfl) (by first | assumption | omega) (by first | decide | omega) dX0_casesAt_23 ?_
        refine zj_iload_n (i := 1) (pc := 24) K dX0_casesAt_24 rfl rfl ?_
        refine zj_icmp_ne (tgt := 31) (pc := 25) K dX0_casesAt_25 (by decide) (fun c_25 => ?_) (fun c_25 => ?_)
        · refine zj_iinc (v := 1) (pc := 31) K dX0_casesAt_31 rfl (by decide) rfl rfl rfl ?_
          refine zj_goto (tgt := 4) (pc := 34) K dX0_casesAt_34 (by decide) ?_
          exact ih (i + 1) _ _ (by omega) (by omega) (by first | exact zc_cnt_t e2 (decide_eq_true c_25) | exact zc_cnt_f e2 (decide_eq_false c_25)) (zz_up e3)
        · refine zj_iinc (v := 1) (pc := 28) K dX0_casesAt_28 rfl (by decide) rfl rfl rfl ?_
          refine zj_iinc (v := 1) (pc := 31) K dX0_casesAt_31 rfl (by decide) rfl rfl rfl ?_
          refine zj_goto (tgt := 4) (pc := 34) K dX0_casesAt_34 (by decide) ?_
          exact ih (i + 1) _ _ (by omega) (by omega) (by first | exact zc_cnt_t e2 (decide_eq_true c_25) | exact zc_cnt_f e2 (decide_eq_false c_25)) (zz_up e3)
  show zj_J E Γ 4 0 [(0, .ref (E.2.1 k)), (1, .int st)] [] h g
  refine zj_iconst (v := 0) (pc := 0) K dX0_casesAt_0 (by decide) ?_
  refine zj_istore_n (i := 2) (pc := 1) K dX0_casesAt_1 rfl rfl rfl rfl ?_
  refine zj_iconst (v := 0) (pc := 2) K dX0_casesAt_2 (by decide) ?_
  refine zj_istore_n (i := 3) (pc := 3) K dX0_casesAt_3 rfl rfl rfl rfl ?_
  exact loop (C + 1) 0 _ _ (by omega) (by omega) rfl rfl

set_option maxHeartbeats 4000000 in
set_option maxRecDepth 20000 in
theorem m_X0_benchesOf {l : Launch} {E : zj_E} {h : zj_H} {g : zj_G} {k C : Nat} (hk : zj_isC k) (eC : h 8 7 = nI C) (hC : C ≤ 14) {x : Int32} {j : Nat} (ex : x = nI j) (hj : j < 9) : zj_M l E yX0_benchesOf cX0_benchesOf 4 (some .int) 1 [.ref (E.2.1 k), .int x] h g (zj_pI (nI (zc_cnt (fun c => bt (h (k + 3) c) j) C)) h g) := by
  refine zj_M.of RX0 (by decide) rfl (Nat.le_of_ble_eq_true rfl) ?_
  intro Γ hΓ K Rt
  subst hΓ
  obtain ⟨hs_C, hs_Cd, hs_Cs, hs_Ci, hs_Cb, hs_Cf, hs_Cp, hs_Cl, hs_Cn, hs_Ct⟩ := zj_shC hk
  obtain ⟨hk12, hk22⟩ := zj_C12 hk
  have loop : ∀ (n i : Nat) (x2 x3 : Int32), C + 1 ≤ i + n → i ≤ C → (x2 = nI (zc_cnt (fun c => bt (h (k + 3) c) j) i)) → (x3 = nI i) → zj_J E Γ 4 4 [(0, .ref (E.2.1 k)), (1, .int x), (2, .int x2), (3, .int x3)] [] h g := by
    intro n
    induction n with
    | zero => intro i x2 x3  h1 h2; omega
    | succ n ih =>
      intro i x2 x3  h1 h2 e2 e3
      refine zj_iload_n (i := 3) (pc := 4) K dX0_benchesOf_4 rfl rfl ?_
      refine zj_aload_n (i := 0) (pc := 5) K dX0_benchesOf_5 rfl rfl ?_
      refine zj_getR (pc := 6) K lf_X0_9 hs_C rfl dX0_benchesOf_6 ?_
      refine zj_getI (pc := 9) K lf_X0_55 hs_D rfl dX0_benchesOf_9 ?_
      refine zj_icmp_ge (tgt := 40) (pc := 12) K dX0_benchesOf_12 (by decide) (fun c_12 => ?_) (fun c_12 => ?_)
      · have hi : i = C := Nat.le_antisymm h2 (zz_ge e3 eC (by omega) (by omega) c_12)
        subst hi
        refine zj_iload_n (i := 2) (pc := 40) K dX0_benchesOf_40 rfl rfl ?_
        exact zj_iret K Rt dX0_benchesOf_41 (⟨by rw [e2], rfl, rfl⟩)
      · have hi : i < C := zz_nge e3 eC (by omega) (by omega) c_12
        refine zj_aload_n (i := 0) (pc := 15) K dX0_benchesOf_15 rfl rfl ?_
        refine zj_getR (pc := 16) K lf_X0_18 hs_C rfl dX0_benchesOf_16 ?_
        refine zj_getR (pc := 19) K lf_X0_59 hs_Cd rfl dX0_benchesOf_19 ?_
        refine zj_iload_n (i := 3) (pc := 22) K dX0_benchesOf_22 rfl rfl ?_
        refine zj_ald (j := _) (pc := 23) K hs_Ci (by first | assumption | rfl) (by first | assumption | omega) (by first | decide | omega) dX0_benchesOf_23 ?_
        refine zj_iload_n (i := 1) (pc := 24) K dX0_benchesOf_24 rfl rfl ?_
        refine zj_cN2I (pc := 25) K lm_X0_62 (m_X7_has (by assumption) (by omega)) (by decide) rfl (Nat.le_of_ble_eq_true rfl) dX0_benchesOf_25 ?_
        refine zj_if_eq (tgt := 34) (pc := 28) K dX0_benchesOf_28 (by decide) (fun c_28 => ?_) (fun c_28 => ?_)
        · replace c_28 := zz_i0.mp c_28
          refine zj_iinc (v := 1) (pc := 34) K dX0_benchesOf_34 rfl (by decide) rfl rfl rfl ?_
          refine zj_goto (tgt := 4) (pc := 37) K dX0_benchesOf_37 (by decide) ?_
          exact ih (i + 1) _ _ (by omega) (by omega) (by first | exact zc_cnt_t e2 c_28 | exact zc_cnt_f e2 c_28) (zz_up e3)
        · replace c_28 := zz_n0.mp c_28
          refine zj_iinc (v := 1) (pc := 31) K dX0_benchesOf_31 rfl (by decide) rfl rfl rfl ?_
          refine zj_iinc (v := 1) (pc := 34) K dX0_benchesOf_34 rfl (by decide) rfl rfl rfl ?_
          refine zj_goto (tgt := 4) (pc := 37) K dX0_benchesOf_37 (by decide) ?_
          exact ih (i + 1) _ _ (by omega) (by omega) (by first | exact zc_cnt_t e2 c_28 | exact zc_cnt_f e2 c_28) (zz_up e3)
  show zj_J E Γ 4 0 [(0, .ref (E.2.1 k)), (1, .int x)] [] h g
  refine zj_iconst (v := 0) (pc := 0) K dX0_benchesOf_0 (by decide) ?_
  refine zj_istore_n (i := 2) (pc := 1) K dX0_benchesOf_1 rfl rfl rfl rfl ?_
  refine zj_iconst (v := 0) (pc := 2) K dX0_benchesOf_2 (by decide) ?_
  refine zj_istore_n (i := 3) (pc := 3) K dX0_benchesOf_3 rfl rfl rfl rfl ?_
  exact loop (C + 1) 0 _ _ (by omega) (by omega) rfl rfl

set_option maxHeartbeats 4000000 in
set_option maxRecDepth 20000 in
theorem m_X0_casesBarredTo {l : Launch} {E : zj_E} {h : zj_H} {g : zj_G} {k C : Nat} (hk : zj_isC k) (eC : h 8 7 = nI C) (hC : C ≤ 14) {x : Int32} {j : Nat} (ex : x = nI j) (hj : j < 9) : zj_M l E yX0_casesBarredTo cX0_casesBarredTo 4 (some .int) 1 [.ref (E.2.1 k), .int x] h g (zj_pI (nI (zc_cnt (fun c => bt (h (k + 4) c) j) C)) h g) := by
  refine zj_M.of RX0 (by decide) rfl (Nat.le_of_ble_eq_true rfl) ?_
  intro Γ hΓ K Rt
  subst hΓ
  obtain ⟨hs_C, hs_Cd, hs_Cs, hs_Ci, hs_Cb, hs_Cf, hs_Cp, hs_Cl, hs_Cn, hs_Ct⟩ := zj_shC hk
  obtain ⟨hk12, hk22⟩ := zj_C12 hk
  have loop : ∀ (n i : Nat) (x2 x3 : Int32), C + 1 ≤ i + n → i ≤ C → (x2 = nI (zc_cnt (fun c => bt (h (k + 4) c) j) i)) → (x3 = nI i) → zj_J E Γ 4 4 [(0, .ref (E.2.1 k)), (1, .int x), (2, .int x2), (3, .int x3)] [] h g := by
    intro n
    induction n with
    | zero => intro i x2 x3  h1 h2; omega
    | succ n ih =>
      intro i x2 x3  h1 h2 e2 e3
      refine zj_iload_n (i := 3) (pc := 4) K dX0_casesBarredTo_4 rfl rfl ?_
      refine zj_aload_n (i := 0) (pc := 5) K dX0_casesBarredTo_5 rfl rfl ?_
      refine zj_getR (pc := 6) K lf_X0_9 hs_C rfl dX0_casesBarredTo_6 ?_
      refine zj_getI (pc := 9) K lf_X0_55 hs_D rfl dX0_casesBarredTo_9 ?_
      refine zj_icmp_ge (tgt := 40) (pc := 12) K dX0_casesBarredTo_12 (by decide) (fun c_12 => ?_) (fun c_12 => ?_)
      · have hi : i = C := Nat.le_antisymm h2 (zz_ge e3 eC (by omega) (by omega) c_12)
        subst hi
        refine zj_iload_n (i := 2) (pc := 40) K dX0_casesBarredTo_40 rfl rfl ?_
        exact zj_iret K Rt dX0_casesBarredTo_41 (⟨by rw [e2], rfl, rfl⟩)
      · have hi : i < C := zz_nge e3 eC (by omega) (by omega) c_12
        refine zj_aload_n (i := 0) (pc := 15) K dX0_casesBarredTo_15 rfl rfl ?_
        refine zj_getR (pc := 16) K lf_X0_18 hs_C rfl dX0_casesBarredTo_16 ?_
        refine zj_getR (pc := 19) K lf_X0_70 hs_Cd rfl dX0_casesBarredTo_19 ?_
        refine zj_iload_n (i := 3) (pc := 22) K dX0_casesBarredTo_22 rfl rfl ?_
        refine zj_ald (j := _) (pc := 23) K hs_Cb (by first | assumption | rfl) (by first | assumption | omega) (by first | decide | omega) dX0_casesBarredTo_23 ?_
        refine zj_iload_n (i := 1) (pc := 24) K dX0_casesBarredTo_24 rfl rfl ?_
        refine zj_cN2I (pc := 25) K lm_X0_62 (m_X7_has (by assumption) (by omega)) (by decide) rfl (Nat.le_of_ble_eq_true rfl) dX0_casesBarredTo_25 ?_
        refine zj_if_eq (tgt := 34) (pc := 28) K dX0_casesBarredTo_28 (by decide) (fun c_28 => ?_) (fun c_28 => ?_)
        · replace c_28 := zz_i0.mp c_28
          refine zj_iinc (v := 1) (pc := 34) K dX0_casesBarredTo_34 rfl (by decide) rfl rfl rfl ?_
          refine zj_goto (tgt := 4) (pc := 37) K dX0_casesBarredTo_37 (by decide) ?_
          exact ih (i + 1) _ _ (by omega) (by omega) (by first | exact zc_cnt_t e2 c_28 | exact zc_cnt_f e2 c_28) (zz_up e3)
        · replace c_28 := zz_n0.mp c_28
          refine zj_iinc (v := 1) (pc := 31) K dX0_casesBarredTo_31 rfl (by decide) rfl rfl rfl ?_
          refine zj_iinc (v := 1) (pc := 34) K dX0_casesBarredTo_34 rfl (by decide) rfl rfl rfl ?_
          refine zj_goto (tgt := 4) (pc := 37) K dX0_casesBarredTo_37 (by decide) ?_
          exact ih (i + 1) _ _ (by omega) (by omega) (by first | exact zc_cnt_t e2 c_28 | exact zc_cnt_f e2 c_28) (zz_up e3)
  show zj_J E Γ 4 0 [(0, .ref (E.2.1 k)), (1, .int x)] [] h g
  refine zj_iconst (v := 0) (pc := 0) K dX0_casesBarredTo_0 (by decide) ?_
  refine zj_istore_n (i := 2) (pc := 1) K dX0_casesBarredTo_1 rfl rfl rfl rfl ?_
  refine zj_iconst (v := 0) (pc := 2) K dX0_casesBarredTo_2 (by decide) ?_
  refine zj_istore_n (i := 3) (pc := 3) K dX0_casesBarredTo_3 rfl rfl rfl rfl ?_
  exact loop (C + 1) 0 _ _ (by omega) (by omega) rfl rfl

set_option maxHeartbeats 4000000 in
set_option maxRecDepth 20000 in
theorem m_X0_benchesLedBy {l : Launch} {E : zj_E} {h : zj_H} {g : zj_G} {k C : Nat} (hk : zj_isC k) (eC : h 8 7 = nI C) (hC : C ≤ 14) {J : Nat} (eJ : h 8 6 = nI J) (hJ : J ≤ 9) {x : Int32} : zj_M l E yX0_benchesLedBy cX0_benchesLedBy 4 (some .int) 2 [.ref (E.2.1 k), .int x] h g (zj_pI (nI (zc_cnt (fun c => decide (zc_opt (zc_pre (h 9) (h (k + 3) c) J) = x)) C)) h g) := by
  refine zj_M.of RX0 (by decide) rfl (Nat.le_of_ble_eq_true rfl) ?_
  intro Γ hΓ K Rt
  subst hΓ
  obtain ⟨hs_C, hs_Cd, hs_Cs, hs_Ci, hs_Cb, hs_Cf, hs_Cp, hs_Cl, hs_Cn, hs_Ct⟩ := zj_shC hk
  obtain ⟨hk12, hk22⟩ := zj_C12 hk
  have loop : ∀ (n i : Nat) (x2 x3 : Int32), C + 1 ≤ i + n → i ≤ C → (x2 = nI (zc_cnt (fun c => decide (zc_opt (zc_pre (h 9) (h (k + 3) c) J) = x)) i)) → (x3 = nI i) → zj_J E Γ 4 4 [(0, .ref (E.2.1 k)), (1, .int x), (2, .int x2), (3, .int x3)] [] h g := by
    intro n
    induction n with
    | zero => intro i x2 x3  h1 h2; omega
    | succ n ih =>
      intro i x2 x3  h1 h2 e2 e3
      refine zj_iload_n (i := 3) (pc := 4) K dX0_benchesLedBy_4 rfl rfl ?_
      refine zj_aload_n (i := 0) (pc := 5) K dX0_benchesLedBy_5 rfl rfl ?_
      refine zj_getR (pc := 6) K lf_X0_9 hs_C rfl dX0_benchesLedBy_6 ?_
      refine zj_getI (pc := 9) K lf_X0_55 hs_D rfl dX0_benchesLedBy_9 ?_
      refine zj_icmp_ge (tgt := 44) (pc := 12) K dX0_benchesLedBy_12 (by decide) (fun c_12 => ?_) (fun c_12 => ?_)
      · have hi : i = C := Nat.le_antisymm h2 (zz_ge e3 eC (by omega) (by omega) c_12)
        subst hi
        refine zj_iload_n (i := 2) (pc := 44) K dX0_benchesLedBy_44 rfl rfl ?_
        exact zj_iret K Rt dX0_benchesLedBy_45 (⟨by rw [e2], rfl, rfl⟩)
      · have hi : i < C := zz_nge e3 eC (by omega) (by omega) c_12
        refine zj_aload_n (i := 0) (pc := 15) K dX0_benchesLedBy_15 rfl rfl ?_
        refine zj_getR (pc := 16) K lf_X0_9 hs_C rfl dX0_benchesLedBy_16 ?_
        refine zj_aload_n (i := 0) (pc := 19) K dX0_benchesLedBy_19 rfl rfl ?_
        refine zj_getR (pc := 20) K lf_X0_18 hs_C rfl dX0_benchesLedBy_20 ?_
        refine zj_getR (pc := 23) K lf_X0_59 hs_Cd rfl dX0_benchesLedBy_23 ?_
        refine zj_iload_n (i := 3) (pc := 26) K dX0_benchesLedBy_26 rfl rfl ?_
        refine zj_ald (j := _) (pc := 27) K hs_Ci (by first | assumption | rfl) (by first | assumption | omega) (by first | decide | omega) dX0_benchesLedBy_27 ?_
        refine zj_cV1I (pc := 28) K lm_X0_66 hs_D (m_X6_presiding (Or.inr rfl) (by assumption) (by omega)) (by decide) rfl (Nat.le_of_ble_eq_true rfl) dX0_benchesLedBy_28 ?_
        refine zj_iload_n (i := 1) (pc := 31) K dX0_benchesLedBy_31 rfl rfl ?_
        refine zj_icmp_ne (tgt := 38) (pc := 32) K dX0_benchesLedBy_32 (by decide) (fun c_32 => ?_) (fun c_32 => ?_)
        · refine zj_iinc (v := 1) (pc := 38) K dX0_benchesLedBy_38 rfl (by decide) rfl rfl rfl ?_
          refine zj_goto (tgt := 4) (pc := 41) K dX0_benchesLedBy_41 (by decide) ?_
          exact ih (i + 1) _ _ (by omega) (by omega) (by first | exact zc_cnt_t e2 (decide_eq_true c_32) | exact zc_cnt_f e2 (decide_eq_false c_32)) (zz_up e3)
        · refine zj_iinc (v := 1) (pc := 35) K dX0_benchesLedBy_35 rfl (by decide) rfl rfl rfl ?_
          refine zj_iinc (v := 1) (pc := 38) K dX0_benchesLedBy_38 rfl (by decide) rfl rfl rfl ?_
          refine zj_goto (tgt := 4) (pc := 41) K dX0_benchesLedBy_41 (by decide) ?_
          exact ih (i + 1) _ _ (by omega) (by omega) (by first | exact zc_cnt_t e2 (decide_eq_true c_32) | exact zc_cnt_f e2 (decide_eq_false c_32)) (zz_up e3)
  show zj_J E Γ 4 0 [(0, .ref (E.2.1 k)), (1, .int x)] [] h g
  refine zj_iconst (v := 0) (pc := 0) K dX0_benchesLedBy_0 (by decide) ?_
  refine zj_istore_n (i := 2) (pc := 1) K dX0_benchesLedBy_1 rfl rfl rfl rfl ?_
  refine zj_iconst (v := 0) (pc := 2) K dX0_benchesLedBy_2 (by decide) ?_
  refine zj_istore_n (i := 3) (pc := 3) K dX0_benchesLedBy_3 rfl rfl rfl rfl ?_
  exact loop (C + 1) 0 _ _ (by omega) (by omega) rfl rfl
