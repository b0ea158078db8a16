def zm_fr (h h' : zj_H) : Prop := (∀ a, a < 78 → h' a = h a) ∧ h' 79 = h 79 ∧ h' 78 2 = h 78 2 ∧ h' 78 8 = h 78 8 ∧ h' 78 0 = 0
def zm_stat (h h' : zj_H) : Prop := ∀ i, i < 47 → i ≠ 5 → i ≠ 17 → h' 80 i = h 80 i
def zm_keep (h h' : zj_H) (ct : Nat) (row : Nat → Int32) : Prop := h' 78 17 = nI (min (ct + 1) 10) ∧ ∀ r i, r < min (ct + 1) 10 → i < 89 → h' 83 (89 * r + i) = if r + 1 = min (ct + 1) 10 then row i else h 83 (89 * (r + (if ct = 10 then 1 else 0)) + i)
def zm_stay (h h' : zj_H) : Prop := (∀ i, i < 89 → h' 80 i = h 80 i) ∧ h' 83 = h 83 ∧ h' 78 17 = h 78 17
def zm_post (C : Nat) (h h' : zj_H) (ct : Nat) (v : Option Value) (o : Option (Int32 × zδ)) : Prop := match o with
  | none => v = some (.int (-1)) ∧ zm_stay h h'
  | some (r, δ') => v = some (.int r) ∧ zm_stat h h' ∧ zδe C (zδM h' 80) δ' ∧ zm_keep h h' ct (h 80)
theorem zm_sen_e {sen sen' : Nat → Int32} {S b : Int32} : ∀ {n : Nat}, (∀ j, j < n → sen j = sen' j) → zm_sen sen S b n = zm_sen sen' S b n
  | 0, _ => rfl
  | n + 1, h => by rw [zm_sen, zm_sen, zm_sen_e (fun j hj => h j (by omega)), h n (by omega)]
/-- rows that agree in what a TEXT tells -/
theorem zτM_e {h q : zj_H} {s s' J C u : Nat} (hJ : J ≤ 9) (hC : C ≤ 14) (hz : ∀ i, i < 47 → i ≠ 5 → i ≠ 17 → q s i = h s' i) : zτe (zτM q s J C u) (zτM h s' J C u) := by
  have e1 : ∀ j, j < J → zmS q s j = zmS h s' j := fun j hj => hz (8 + j) (by omega) (by omega) (by omega)
  refine ⟨rfl, rfl, rfl, hz 1 (by decide) (by decide) (by decide), hz 2 (by decide) (by decide) (by decide), hz 3 (by decide) (by decide) (by decide), e1, fun c hc => hz (19 + c) (by have : C ≤ 14 := hC; have : c < C := hc; omega) (by omega) (by omega), fun b => ?_⟩
  show zm_sen (zmS q s) (q s 6) b J = zm_sen (zmS h s') (h s' 6) b J
  rw [hz 6 (by decide) (by decide) (by decide)]
  exact zm_sen_e e1
theorem zm_mul89 (n : Nat) : (89 : Int32) * nI n = nI (89 * n) := by rw [show (89 : Int32) = nI 89 from rfl, pk_mul]
set_option maxHeartbeats 4000000 in
set_option maxRecDepth 20000 in
theorem m_X8_snap {l : Launch} {E : zj_E} {h : zj_H} {g : zj_G} {ct : Nat} (ec : h 78 17 = nI ct) (hct : ct ≤ 10) : zj_M l E yX8_snap cX8_snap 2 none 1 [.ref (E.2.1 78)] h g (fun v h' g' => v = none ∧ g' = g ∧ ((∀ a, a ≠ 78 → a ≠ 83 → h' a = h a) ∧ (∀ b, b ≠ 17 → h' 78 b = h 78 b)) ∧ zm_keep h h' ct (h 80)) := by
  refine zj_M.of RX8 (by decide) rfl (Nat.le_of_ble_eq_true rfl) ?_
  intro Γ hΓ K Rt
  subst hΓ
  have tail : ∀ (q : zj_H) (sm : Nat), sm + 1 = min (ct + 1) 10 → q 78 17 = nI sm → ((∀ a, a ≠ 78 → a ≠ 83 → q a = h a) ∧ (∀ b, b ≠ 17 → q 78 b = h 78 b)) → (∀ k, k < 89 * sm → q 83 k = h 83 (k + 89 * (if ct = 10 then 1 else 0))) → zj_J E Γ 2 49 [(0, .ref (E.2.1 78))] [] q g := by
    intro q sm hsm e17 zf1 zf2
    have hmin : min (ct + 1) 10 ≤ 10 := Nat.min_le_right _ _
    refine zj_aload_n (i := 0) (pc := 49) K dX8_snap_49 rfl rfl ?_
    refine zj_getR (pc := 50) K lf_X8_64 hs_M rfl dX8_snap_50 ?_
    refine zj_iconst (v := 0) (pc := 53) K dX8_snap_53 (by decide) ?_
    refine zj_aload_n (i := 0) (pc := 54) K dX8_snap_54 rfl rfl ?_
    refine zj_getR (pc := 55) K lf_X8_73 hs_M rfl dX8_snap_55 ?_
    refine zj_bipush (v := 89) (pc := 58) K dX8_snap_58 (by decide) ?_
    refine zj_aload_n (i := 0) (pc := 60) K dX8_snap_60 rfl rfl ?_
    refine zj_getI (pc := 61) K lf_X8_129 hs_M rfl dX8_snap_61 ?_
    refine zj_imul (pc := 64) K dX8_snap_64 ?_
    refine zj_cS4W (pc := 65) K lm_X8_125 (m_X8_copy (n := 89) (m := 890) hs_Mnow hs_Msnaps (by decide) (by decide) (by decide) (st0 := 0) (at0 := 89 * sm) rfl (by rw [e17]; exact zm_mul89 sm) (by decide) (by omega)) (by decide) rfl (Nat.le_of_ble_eq_true rfl) dX8_snap_65 ?_
    refine zj_aload_n (i := 0) (pc := 68) K dX8_snap_68 rfl rfl ?_
    refine zj_dup (pc := 69) K dX8_snap_69 rfl ?_
    refine zj_getI (pc := 70) K lf_X8_129 hs_M rfl dX8_snap_70 ?_
    refine zj_iconst (v := 1) (pc := 73) K dX8_snap_73 (by decide) ?_
    refine zj_iadd (pc := 74) K dX8_snap_74 ?_
    refine zj_putI (pc := 75) K lf_X8_129 hs_M rfl dX8_snap_75 ?_
    exact zj_vret K Rt dX8_snap_78 (by
      refine ⟨rfl, rfl, ⟨fun a a1 a2 => by rw [zj_s_ne _ _ a1, zj_s_ne _ _ a2]; exact zf1.1 a a1 a2, fun b b1 => by rw [zj_s_eq, zz_upd_ne _ _ b1, zj_s_ne _ _ (by decide)]; exact zf1.2 b b1⟩, ?_, fun r i hr hi => ?_⟩
      · rw [zj_s_eq, zz_upd_at, zj_s_ne _ _ (by decide), e17, nI_1, hsm]
      · rw [zj_s_ne _ _ (by decide), zj_s_eq]
        by_cases er : r + 1 = min (ct + 1) 10
        · rw [if_pos er, if_pos ⟨by omega, by omega⟩, show 0 + (89 * r + i - 89 * sm) = i by omega, zf1.1 80 (by decide) (by decide)]
        · rw [if_neg er, if_neg (by omega), zf2 _ (by omega)]
          congr 1
          split <;> omega)
  have loop : ct = 10 → ∀ (m i : Nat) (x1 : Int32) (q : zj_H), 801 + 1 ≤ i + m → i ≤ 801 → (x1 = nI i) → ((∀ a, a ≠ 78 → a ≠ 83 → q a = h a) ∧ (∀ b, b ≠ 17 → q 78 b = h 78 b)) → (q 78 17 = h 78 17) → (∀ k, q 83 k = if k < i then h 83 (k + 89) else h 83 k) → zj_J E Γ 2 11 [(0, .ref (E.2.1 78)), (1, .int x1)] [] q g := by
    intro h10 m
    induction m with
    | zero => intro i x1 q  h1 h2; omega
    | succ m ih =>
      intro i x1 q  h1 h2 e1 zf1 zf3 zf2
      refine zj_iload_n (i := 1) (pc := 11) K dX8_snap_11 rfl rfl ?_
      refine zj_sipush (v := 801) (pc := 12) K dX8_snap_12 (by decide) ?_
      refine zj_icmp_ge (tgt := 39) (pc := 15) K dX8_snap_15 (by decide) (fun c_15 => ?_) (fun c_15 => ?_)
      · have hi : i = 801 := Nat.le_antisymm h2 (zz_ge e1 (show (801 : Int32) = nI 801 from rfl) (by omega) (by omega) c_15)
        refine zj_aload_n (i := 0) (pc := 39) K dX8_snap_39 rfl rfl ?_
        refine zj_dup (pc := 40) K dX8_snap_40 rfl ?_
        refine zj_getI (pc := 41) K lf_X8_129 hs_M rfl dX8_snap_41 ?_
        refine zj_iconst (v := 1) (pc := 44) K dX8_snap_44 (by decide) ?_
        refine zj_isub (pc := 45) K dX8_snap_45 ?_
        refine zj_putI (pc := 46) K lf_X8_129 hs_M rfl dX8_snap_46 ?_
        refine zj_pick [0] ?_
        refine tail _ 9 (by omega) (by rw [zj_s_eq, zz_upd_at, zf3, ec, h10]; rfl) ⟨fun a a1 a2 => by rw [zj_s_ne _ _ a1]; exact zf1.1 a a1 a2, fun b b1 => by rw [zj_s_eq, zz_upd_ne _ _ b1]; exact zf1.2 b b1⟩ (fun k hk => ?_)
        rw [zj_s_ne _ _ (by decide), zf2, if_pos (by omega), if_pos h10]
      · have hi : i < 801 := zz_nge e1 (show (801 : Int32) = nI 801 from rfl) (by omega) (by omega) c_15
        refine zj_aload_n (i := 0) (pc := 18) K dX8_snap_18 rfl rfl ?_
        refine zj_getR (pc := 19) K lf_X8_73 hs_M rfl dX8_snap_19 ?_
        refine zj_iload_n (i := 1) (pc := 22) K dX8_snap_22 rfl rfl ?_
        refine zj_aload_n (i := 0) (pc := 23) K dX8_snap_23 rfl rfl ?_
        refine zj_getR (pc := 24) K lf_X8_73 hs_M rfl dX8_snap_24 ?_
        refine zj_iload_n (i := 1) (pc := 27) K dX8_snap_27 rfl rfl ?_
        refine zj_bipush (v := 89) (pc := 28) K dX8_snap_28 (by decide) ?_
        refine zj_iadd (pc := 30) K dX8_snap_30 ?_
        refine zj_ald (j := i + 89) (pc := 31) K hs_Msnaps (by rw [e1, show (89 : Int32) = nI 89 from rfl]; exact nI_add _ _) (by omega) (by first | decide | omega) dX8_snap_31 ?_
        refine zj_ast (j := i) (pc := 32) K hs_Msnaps e1 (by omega) (by first | decide | omega) dX8_snap_32 ?_
        refine zj_iinc (v := 1) (pc := 33) K dX8_snap_33 rfl (by decide) rfl rfl rfl ?_
        refine zj_goto (tgt := 11) (pc := 36) K dX8_snap_36 (by decide) ?_
        refine ih (i + 1) _ _ (by omega) (by omega) (zz_up e1) ⟨fun a a1 a2 => by rw [zj_s_ne _ _ a2]; exact zf1.1 a a1 a2, fun b b1 => by rw [zj_s_ne _ _ (by decide)]; exact zf1.2 b b1⟩ (by rw [zj_s_ne _ _ (by decide)]; exact zf3) (fun k => ?_)
        rw [zj_s_eq]
        by_cases ek : k = i
        · subst ek
          rw [zz_upd_at, if_pos (by omega), zf2, if_neg (by omega)]
        · rw [zz_upd_ne _ _ ek, zf2]
          by_cases hk : k < i
          · rw [if_pos hk, if_pos (by omega)]
          · rw [if_neg hk, if_neg (by omega)]
  show zj_J E Γ 2 0 [(0, .ref (E.2.1 78))] [] h g
  refine zj_aload_n (i := 0) (pc := 0) K dX8_snap_0 rfl rfl ?_
  refine zj_getI (pc := 1) K lf_X8_129 hs_M rfl dX8_snap_1 ?_
  refine zj_bipush (v := 10) (pc := 4) K dX8_snap_4 (by decide) ?_
  refine zj_icmp_ne (tgt := 49) (pc := 6) K dX8_snap_6 (by decide) (fun c_6 => ?_) (fun c_6 => ?_)
  · have hn10 : ct ≠ 10 := fun e => c_6 (by rw [ec, e]; rfl)
    exact tail h ct (by omega) ec ⟨fun _ _ _ => rfl, fun _ _ => rfl⟩ (fun k hk => by rw [if_neg hn10, Nat.mul_zero, Nat.add_zero])
  · have h10 : ct = 10 := by
      rw [ec] at c_6
      exact (nI_eq (b := 10) (by omega) (by omega)).mp c_6
    refine zj_iconst (v := 0) (pc := 9) K dX8_snap_9 (by decide) ?_
    refine zj_istore_n (i := 1) (pc := 10) K dX8_snap_10 rfl rfl rfl rfl ?_
    exact loop h10 802 0 _ h (by omega) (by omega) rfl ⟨fun _ _ _ => rfl, fun _ _ => rfl⟩ rfl (fun k => by rw [if_neg (by omega)])

set_option maxHeartbeats 4000000 in
set_option maxRecDepth 20000 in
theorem m_X8_stay {l : Launch} {E : zj_E} {h : zj_H} {g : zj_G} {ct : Nat} (ec : h 78 17 = nI ct) (hct : ct ≤ 10) : zj_M l E yX8_stay cX8_stay 1 none 2 [.ref (E.2.1 78)] h g (fun v h' g' => v = none ∧ g' = g ∧ (∀ a, a ≠ 78 → a ≠ 80 → a ≠ 83 → a ≠ 85 → h' a = h a) ∧ (∀ b, b ≠ 17 → h' 78 b = h 78 b) ∧ (∀ i, i < 89 → h' 80 i = h 80 i) ∧ zm_keep h h' ct (h 84)) := by
  refine zj_M.of RX8 (by decide) rfl (Nat.le_of_ble_eq_true rfl) ?_
  intro Γ hΓ K Rt
  subst hΓ
  show zj_J E Γ 1 0 [(0, .ref (E.2.1 78))] [] h g
  refine zj_aload_n (i := 0) (pc := 0) K dX8_stay_0 rfl rfl ?_
  refine zj_getR (pc := 1) K lf_X8_64 hs_M rfl dX8_stay_1 ?_
  refine zj_iconst (v := 0) (pc := 4) K dX8_stay_4 (by decide) ?_
  refine zj_aload_n (i := 0) (pc := 5) K dX8_stay_5 rfl rfl ?_
  refine zj_getR (pc := 6) K lf_X8_79 hs_M rfl dX8_stay_6 ?_
  refine zj_iconst (v := 0) (pc := 9) K dX8_stay_9 (by decide) ?_
  refine zj_cS4W (pc := 10) K lm_X8_125 (m_X8_copy (n := 89) (m := 89) hs_Mnow hs_Mlive (by decide) (by decide) (by decide) (st0 := 0) (at0 := 0) rfl rfl (by decide) (by decide)) (by decide) rfl (Nat.le_of_ble_eq_true rfl) dX8_stay_10 ?_
  refine zj_aload_n (i := 0) (pc := 13) K dX8_stay_13 rfl rfl ?_
  refine zj_getR (pc := 14) K lf_X8_76 hs_M rfl dX8_stay_14 ?_
  refine zj_iconst (v := 0) (pc := 17) K dX8_stay_17 (by decide) ?_
  refine zj_aload_n (i := 0) (pc := 18) K dX8_stay_18 rfl rfl ?_
  refine zj_getR (pc := 19) K lf_X8_64 hs_M rfl dX8_stay_19 ?_
  refine zj_iconst (v := 0) (pc := 22) K dX8_stay_22 (by decide) ?_
  refine zj_cS4W (pc := 23) K lm_X8_125 (m_X8_copy (n := 89) (m := 89) hs_Mbefore hs_Mnow (by decide) (by decide) (by decide) (st0 := 0) (at0 := 0) rfl rfl (by decide) (by decide)) (by decide) rfl (Nat.le_of_ble_eq_true rfl) dX8_stay_23 ?_
  refine zj_hn (fun q1 eq1 => ?_)
  have w1 : ∀ a, a ≠ 80 → a ≠ 85 → q1 a = h a := fun a a1 a2 => by rw [eq1, zj_s_ne _ _ a1, zj_s_ne _ _ a2]
  have w80 : ∀ i, i < 89 → q1 80 i = h 84 i := fun i hi => by rw [eq1, zj_s_eq, if_pos ⟨by omega, by omega⟩, zj_s_ne _ _ (by decide), show 0 + (i - 0) = i by omega]
  have w85 : ∀ i, i < 89 → q1 85 i = h 80 i := fun i hi => by rw [eq1, zj_s_ne _ _ (by decide), zj_s_eq, if_pos ⟨by omega, by omega⟩, show 0 + (i - 0) = i by omega]
  clear eq1
  refine zj_aload_n (i := 0) (pc := 26) K dX8_stay_26 rfl rfl ?_
  refine zj_cV0P (pc := 27) K lm_X8_193 hs_M (m_X8_snap (ct := ct) (by rw [w1 78 (by decide) (by decide)]; exact ec) hct) (by decide) rfl (Nat.le_of_ble_eq_true rfl) dX8_stay_27 (fun v q2 g2 hp => ?_)
  obtain ⟨rfl, rfl, ⟨zs1, zs2⟩, zs3⟩ := hp
  refine zj_aload_n (i := 0) (pc := 30) K dX8_stay_30 rfl rfl ?_
  refine zj_getR (pc := 31) K lf_X8_79 hs_M rfl dX8_stay_31 ?_
  refine zj_iconst (v := 0) (pc := 34) K dX8_stay_34 (by decide) ?_
  refine zj_aload_n (i := 0) (pc := 35) K dX8_stay_35 rfl rfl ?_
  refine zj_getR (pc := 36) K lf_X8_64 hs_M rfl dX8_stay_36 ?_
  refine zj_iconst (v := 0) (pc := 39) K dX8_stay_39 (by decide) ?_
  refine zj_cS4W (pc := 40) K lm_X8_125 (m_X8_copy (n := 89) (m := 89) hs_Mlive hs_Mnow (by decide) (by decide) (by decide) (st0 := 0) (at0 := 0) rfl rfl (by decide) (by decide)) (by decide) rfl (Nat.le_of_ble_eq_true rfl) dX8_stay_40 ?_
  exact zj_vret K Rt dX8_stay_43 (by
    refine ⟨rfl, rfl, fun a a1 a2 a3 a4 => by rw [zj_s_ne _ _ a2, zs1 a a1 a3]; exact w1 a a2 a4, fun b b1 => by rw [zj_s_ne _ _ (by decide), zs2 b b1, w1 78 (by decide) (by decide)], fun i hi => ?_, ?_, fun r i hr hi => ?_⟩
    · rw [zj_s_eq, if_pos ⟨by omega, by omega⟩, zs1 85 (by decide) (by decide), show 0 + (i - 0) = i by omega, w85 i hi]
    · rw [zj_s_ne _ _ (by decide)]; exact zs3.1
    · rw [zj_s_ne _ _ (by decide), zs3.2 r i hr hi, w80 i hi, w1 83 (by decide) (by decide)])

set_option maxHeartbeats 4000000 in
set_option maxRecDepth 20000 in
theorem m_X8_draws {l : Launch} {E : zj_E} {h : zj_H} {g : zj_G} {s J C u c : Nat} (hr : zm_row s) (eJ : h s 7 = nI J) (hJ : J ≤ 9) (eC : h s 18 = nI C) (hC : C ≤ 14) (eU : h s 0 = nI u) (hU : u ≤ 20) (hT : ∀ δ si c b, 0 ≤ zd_t (zθo (zτM h s J C u) δ) si c b) {x : Int32} (ex : x = nI c) (hc : c < 14) : zj_M l E yX8_draws cX8_draws 3 (some .boolean) 5 [.ref (E.2.1 78), .ref (E.2.1 s), .int x] h g (fun v h' g' => g' = g ∧ ((∀ a, a ≠ 78 → a ≠ 86 → a ≠ 87 → a ≠ s → h' a = h a) ∧ (∀ b, b ≠ 20 → b ≠ 21 → b ≠ 22 → h' 78 b = h 78 b)) ∧ (((zd_pool (zθo (zτM h s J C u) (zδM h s)) (zmB h s) c) = [] ∧ v = some (.int (zz_i false)) ∧ h' s = h s) ∨ ((zd_pool (zθo (zτM h s J C u) (zδM h s)) (zmB h s) c) ≠ [] ∧ v = some (.int (zz_i true)) ∧ h' s = upd (upd (upd (h s) 5 (zd_seed (h s 5))) (61 + c) ((zd_pool (zθo (zτM h s J C u) (zδM h s)) (zmB h s) c).getD (zp_ix (zd_seed (h s 5)) (zd_pool (zθo (zτM h s J C u) (zδM h s)) (zmB h s) c).length) 0)) (75 + c) 1))) := by
  refine zj_M.of RX8 (by decide) rfl (Nat.le_of_ble_eq_true rfl) ?_
  intro Γ hΓ K Rt
  subst hΓ
  have hs_s := zm_rs hr
  obtain ⟨hr1, hr2⟩ := zm_rn hr
  show zj_J E Γ 3 0 [(0, .ref (E.2.1 78)), (1, .ref (E.2.1 s)), (2, .int x)] [] h g
  refine zj_aload_n (i := 0) (pc := 0) K dX8_draws_0 rfl rfl ?_
  refine zj_aload_n (i := 1) (pc := 1) K dX8_draws_1 rfl rfl ?_
  refine zj_iload_n (i := 2) (pc := 2) K dX8_draws_2 rfl rfl ?_
  refine zj_cV2P (pc := 3) K lm_X8_190 hs_M (m_X8_laysPool hr eJ hJ eC hC eU hU hT ex hc) (by decide) rfl (Nat.le_of_ble_eq_true rfl) dX8_draws_3 (fun v q g1 hp => ?_)
  obtain ⟨rfl, rfl, zs1, zs2, zs3, zs4, zs5⟩ := hp
  have es : q s = h s := zs1 s (by omega) (by omega) (by omega)
  have hpl : (zd_pool (zθo (zτM h s J C u) (zδM h s)) (zmB h s) c).length ≤ 84 := Nat.le_trans zp_fl_84 (zl_all_len _ hJ)
  refine zj_aload_n (i := 0) (pc := 6) K dX8_draws_6 rfl rfl ?_
  refine zj_getI (pc := 7) K lf_X8_178 hs_M rfl dX8_draws_7 ?_
  refine zj_if_ne (tgt := 15) (pc := 10) K dX8_draws_10 (by decide) (fun c_10 => ?_) (fun c_10 => ?_)
  · have hm : 0 < (zd_pool (zθo (zτM h s J C u) (zδM h s)) (zmB h s) c).length := by
      apply Nat.pos_of_ne_zero
      intro z
      apply c_10
      rw [zs4.1, z]; rfl
    refine zj_aload_n (i := 1) (pc := 15) K dX8_draws_15 rfl rfl ?_
    refine zj_iconst (v := 5) (pc := 16) K dX8_draws_16 (by decide) ?_
    refine zj_aload_n (i := 1) (pc := 17) K dX8_draws_17 rfl rfl ?_
    refine zj_iconst (v := 5) (pc := 18) K dX8_draws_18 (by decide) ?_
    refine zj_ald (j := 5) (pc := 19) K hs_s rfl (by decide) (by first | decide | omega) dX8_draws_19 ?_
    refine zj_ldc (pc := 20) K lk_X8_196 dX8_draws_20 ?_
    refine zj_imul (pc := 22) K dX8_draws_22 ?_
    refine zj_sipush (v := 12345) (pc := 23) K dX8_draws_23 (by decide) ?_
    refine zj_iadd (pc := 26) K dX8_draws_26 ?_
    refine zj_ast (j := 5) (pc := 27) K hs_s rfl (by decide) (by first | decide | omega) dX8_draws_27 ?_
    refine zj_aload_n (i := 1) (pc := 28) K dX8_draws_28 rfl rfl ?_
    refine zj_bipush (v := 61) (pc := 29) K dX8_draws_29 (by decide) ?_
    refine zj_iload_n (i := 2) (pc := 31) K dX8_draws_31 rfl rfl ?_
    refine zj_iadd (pc := 32) K dX8_draws_32 ?_
    refine zj_aload_n (i := 0) (pc := 33) K dX8_draws_33 rfl rfl ?_
    refine zj_getR (pc := 34) K lf_X8_85 hs_M rfl dX8_draws_34 ?_
    refine zj_aload_n (i := 1) (pc := 37) K dX8_draws_37 rfl rfl ?_
    refine zj_iconst (v := 5) (pc := 38) K dX8_draws_38 (by decide) ?_
    refine zj_ald (j := 5) (pc := 39) K hs_s rfl (by decide) (by first | decide | omega) dX8_draws_39 ?_
    refine zj_bipush (v := 8) (pc := 40) K dX8_draws_40 (by decide) ?_
    refine zj_iushr (pc := 42) K dX8_draws_42 ?_
    refine zj_aload_n (i := 0) (pc := 43) K dX8_draws_43 rfl rfl ?_
    refine zj_getI (pc := 44) K lf_X8_178 hs_M rfl dX8_draws_44 ?_
    refine zj_irem (pc := 47) K dX8_draws_47 (by rw [zj_s_ne _ _ (by omega), zs4.1]; exact nI_ne0 hm (by omega)) ?_
    refine zj_ald (j := zp_ix (zd_seed (h s 5)) (zd_pool (zθo (zτM h s J C u) (zδM h s)) (zmB h s) c).length) (pc := 48) K hs_Mpool (by rw [zj_s_eq, zz_upd_at, zj_s_ne _ _ (by omega), zs4.1, es]; exact zp_rem hm (by omega)) (by have z1 := zp_ix_lt (s := zd_seed (h s 5)) hm; omega) (by first | decide | omega) dX8_draws_48 ?_
    refine zj_ast (j := 61 + c) (pc := 49) K hs_s (zm_ix rfl ex) (by omega) (by first | decide | omega) dX8_draws_49 ?_
    refine zj_aload_n (i := 1) (pc := 50) K dX8_draws_50 rfl rfl ?_
    refine zj_bipush (v := 75) (pc := 51) K dX8_draws_51 (by decide) ?_
    refine zj_iload_n (i := 2) (pc := 53) K dX8_draws_53 rfl rfl ?_
    refine zj_iadd (pc := 54) K dX8_draws_54 ?_
    refine zj_iconst (v := 1) (pc := 55) K dX8_draws_55 (by decide) ?_
    refine zj_ast (j := 75 + c) (pc := 56) K hs_s (zm_ix rfl ex) (by omega) (by first | decide | omega) dX8_draws_56 ?_
    refine zj_iconst (v := 1) (pc := 57) K dX8_draws_57 (by decide) ?_
    exact zj_zret K Rt dX8_draws_58 (by decide) (⟨rfl, ⟨fun a a1 a2 a3 a4 => by rw [zj_s_ne _ _ a4, zj_s_ne _ _ a4, zj_s_ne _ _ a4]; exact zs1 a a1 a2 a3, fun b b1 b2 b3 => by rw [zj_s_ne _ _ (by omega), zj_s_ne _ _ (by omega), zj_s_ne _ _ (by omega)]; exact zs2 b b1 b2 b3⟩, Or.inr ⟨fun z => by rw [z] at hm; exact absurd hm (by decide), rfl, by
          rw [zj_s_eq, zj_s_eq, zj_s_eq, zj_s_ne _ _ (show 87 ≠ s by omega), zs4.2 _ (zp_ix_lt hm), es]; rfl⟩⟩)
  · have hm : (zd_pool (zθo (zτM h s J C u) (zδM h s)) (zmB h s) c) = [] := by
      rw [zs4.1] at c_10
      exact List.eq_nil_of_length_eq_zero ((nI_eq (b := 0) (by omega) (by omega)).mp c_10)
    refine zj_iconst (v := 0) (pc := 13) K dX8_draws_13 (by decide) ?_
    exact zj_zret K Rt dX8_draws_14 (by decide) (⟨rfl, ⟨fun a a1 a2 a3 a4 => zs1 a a1 a2 a3, fun b b1 b2 b3 => zs2 b b1 b2 b3⟩, Or.inl ⟨hm, rfl, es⟩⟩)
