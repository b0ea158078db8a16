theorem zm_xx (x m : Int32) : x ^^^ m ^^^ m = x := b_ext (fun i _ => by rw [b_xor, b_xor]; cases bt x i <;> cases bt m i <;> rfl)
theorem zm_xor2 {b : Int32} {i j : Nat} (hi : i < 9) (hj : j < 9) (h1 : bt b i = true) (h2 : bt b j = false) : b ^^^ (zz_bit i ||| zz_bit j) = zr_stay b i ||| zz_bit j := by
  refine b_ext (fun k hk => ?_)
  unfold zr_stay
  rw [b_xor, b_or, b_or, b_and, b_xor, zz_bt_bit (by omega), zz_bt_bit (by omega), b_m1 k hk]
  by_cases e1 : k = i
  · subst e1
    by_cases e2 : k = j
    · subst e2; rw [h1] at h2; cases h2
    · rw [h1, decide_eq_false e2]; simp
  · by_cases e2 : k = j
    · subst e2; rw [h2, decide_eq_false e1]; simp
    · rw [decide_eq_false e1, decide_eq_false e2]; simp
theorem zm_xor3 {b : Int32} {i j : Nat} (hi : i < 9) (hj : j < 9) (h1 : bt b j = true) (h2 : bt b i = false) : b ^^^ (zz_bit i ||| zz_bit j) = zr_stay b j ||| zz_bit i := by
  rw [show zz_bit i ||| zz_bit j = zz_bit j ||| zz_bit i from b_ext (fun k _ => by rw [b_or, b_or, Bool.or_comm])]
  exact zm_xor2 hj hi h1 h2
/-- a row when two places change by m -/
def zm_ch (f : Nat → Int32) (a b : Nat) (m : Int32) : Nat → Int32 := upd (upd f (61 + a) (f (61 + a) ^^^ m)) (61 + b) (f (61 + b) ^^^ m)
theorem zm_ch_ne {f : Nat → Int32} {a b k : Nat} {m : Int32} (h1 : k ≠ 61 + a) (h2 : k ≠ 61 + b) : zm_ch f a b m k = f k := by unfold zm_ch; rw [zz_upd_ne _ _ h2, zz_upd_ne _ _ h1]
theorem zm_ch_a {f : Nat → Int32} {a b : Nat} {m : Int32} (h : a ≠ b) : zm_ch f a b m (61 + a) = f (61 + a) ^^^ m := by unfold zm_ch; rw [zz_upd_ne _ _ (by omega), zz_upd_at]
theorem zm_ch_b {f : Nat → Int32} {a b : Nat} {m : Int32} : zm_ch f a b m (61 + b) = f (61 + b) ^^^ m := by unfold zm_ch; rw [zz_upd_at]
theorem zm_back {f : Nat → Int32} {a b : Nat} {m : Int32} (h : a ≠ b) : zm_ch (zm_ch f a b m) a b m = f := by
  funext k
  by_cases e1 : k = 61 + a
  · subst e1; rw [zm_ch_a h, zm_ch_a h, zm_xx]
  · by_cases e2 : k = 61 + b
    · subst e2; rw [zm_ch_b, zm_ch_b, zm_xx]
    · rw [zm_ch_ne e1 e2, zm_ch_ne e1 e2]
theorem zm_exB {f : Nat → Int32} {a i b j : Nat} (hi : i < 9) (hj : j < 9) (h1 : bt (f (61 + a)) i = true) (h2 : bt (f (61 + b)) i = false) (h3 : bt (f (61 + b)) j = true) (h4 : bt (f (61 + a)) j = false) : a ≠ b ∧ (fun c => zm_ch f a b (zz_bit i ||| zz_bit j) (61 + c)) = zx_si (fun c => f (61 + c)) a i b j := by
  have hab : a ≠ b := fun e => by rw [e, h2] at h1; cases h1
  refine ⟨hab, funext fun c => ?_⟩
  show zm_ch f a b (zz_bit i ||| zz_bit j) (61 + c) = _
  unfold zx_si
  rw [zz_upd_ne _ _ (Ne.symm hab)]
  by_cases e1 : c = a
  · subst e1; rw [zm_ch_a hab, zz_upd_ne _ _ hab, zz_upd_at, zm_xor2 hi hj h1 h4]
  · by_cases e2 : c = b
    · subst e2; rw [zm_ch_b, zz_upd_at, zm_xor3 hi hj h3 h2]
    · rw [zm_ch_ne (by omega) (by omega), zz_upd_ne _ _ e2, zz_upd_ne _ _ e1]
theorem zx_may_aa {J C : Nat} {st si : Nat → Int32} {pl : Nat → Int32 → Bool} {x xx xy : Int32} : zx_may J C st si pl x xx x xy = false := by
  unfold zx_may
  cases h : bt (si x.toNatClampNeg) xx.toNatClampNeg <;> simp
theorem zz_ifp {α : Type} {b : Bool} {x y : α} (h : b = true) : (if b = true then x else y) = x := if_pos h
theorem zz_ifn {α : Type} {b : Bool} {x y : α} (h : b = false) : (if b = true then x else y) = y := if_neg (by rw [h]; decide)
set_option maxHeartbeats 4000000 in
set_option maxRecDepth 20000 in
theorem m_X8_evennessNow {l : Launch} {E : zj_E} {h : zj_H} {g : zj_G} {J C : Nat} (eJ : h 80 7 = nI J) (hJ : J ≤ 9) (eC : h 80 18 = nI C) (hC : C ≤ 14)  : zj_M l E yX8_evennessNow cX8_evennessNow 4 (some .int) 2 [.ref (E.2.1 78)] h g (zj_pI (zs_even J C (zmB h 80)) h g) := by
  refine zj_M.of RX8 (by decide) rfl (Nat.le_of_ble_eq_true rfl) ?_
  intro Γ hΓ K Rt
  subst hΓ
  have loop : ∀ (n i : Nat) (x1 x2 : Int32), J + 1 ≤ i + n → i ≤ J → (x1 = zc_sum (fun a => zc_sum (fun c => nI (zs_pair C (zmB h 80) (-1) a c) * nI (zs_pair C (zmB h 80) (-1) a c)) a) i) → (x2 = nI i) → zj_J E Γ 4 4 [(0, .ref (E.2.1 78)), (1, .int x1), (2, .int x2)] [] h g := by
    intro n
    induction n with
    | zero => intro i x1 x2  h1 h2; omega
    | succ n ih =>
      intro i x1 x2  h1 h2 e1 e2
      have inner : i < J → ∀ (m j : Nat) (x1 x3 : Int32), i + 1 ≤ j + m → j ≤ i → (x1 = zc_sum (fun a => zc_sum (fun c => nI (zs_pair C (zmB h 80) (-1) a c) * nI (zs_pair C (zmB h 80) (-1) a c)) a) i + zc_sum (fun c => nI (zs_pair C (zmB h 80) (-1) i c) * nI (zs_pair C (zmB h 80) (-1) i c)) j) → (x3 = nI j) → zj_J E Γ 4 14 [(0, .ref (E.2.1 78)), (1, .int x1), (2, .int x2), (3, .int x3)] [] h g := by
        intro hi m
        induction m with
        | zero => intro j x1 x3  h3 h4; omega
        | succ m ih2 =>
          intro j x1 x3  h3 h4 e1 e3
          refine zj_iload_n (i := 3) (pc := 14) K dX8_evennessNow_14 rfl rfl ?_
          refine zj_iload_n (i := 2) (pc := 15) K dX8_evennessNow_15 rfl rfl ?_
          refine zj_icmp_ge (tgt := 49) (pc := 16) K dX8_evennessNow_16 (by decide) (fun c_16 => ?_) (fun c_16 => ?_)
          · have hj : j = i := Nat.le_antisymm h4 (zz_ge e3 e2 (by omega) (by omega) c_16)
            refine zj_iinc (v := 1) (pc := 49) K dX8_evennessNow_49 rfl (by decide) rfl rfl rfl ?_
            refine zj_goto (tgt := 4) (pc := 52) K dX8_evennessNow_52 (by decide) ?_
            refine zj_pick [0, 1, 2] ?_
            exact ih (i + 1) _ _ (by omega) (by omega) (by rw [e1, zc_sum, hj]) (zz_up e2)
          · have hj : j < i := zz_nge e3 e2 (by omega) (by omega) c_16
            refine zj_iload_n (i := 1) (pc := 19) K dX8_evennessNow_19 rfl rfl ?_
            refine zj_aload_n (i := 0) (pc := 20) K dX8_evennessNow_20 rfl rfl ?_
            refine zj_getR (pc := 21) K lf_X8_64 hs_M rfl dX8_evennessNow_21 ?_
            refine zj_iload_n (i := 2) (pc := 24) K dX8_evennessNow_24 rfl rfl ?_
            refine zj_iload_n (i := 3) (pc := 25) K dX8_evennessNow_25 rfl rfl ?_
            refine zj_iconst (v := -1) (pc := 26) K dX8_evennessNow_26 (by decide) ?_
            refine zj_cS4I (pc := 27) K lm_X8_147 (m_X8_pairOf hs_Mnow eC hC e2 e3 (by omega) (by omega)) (by decide) rfl (Nat.le_of_ble_eq_true rfl) dX8_evennessNow_27 ?_
            refine zj_aload_n (i := 0) (pc := 30) K dX8_evennessNow_30 rfl rfl ?_
            refine zj_getR (pc := 31) K lf_X8_64 hs_M rfl dX8_evennessNow_31 ?_
            refine zj_iload_n (i := 2) (pc := 34) K dX8_evennessNow_34 rfl rfl ?_
            refine zj_iload_n (i := 3) (pc := 35) K dX8_evennessNow_35 rfl rfl ?_
            refine zj_iconst (v := -1) (pc := 36) K dX8_evennessNow_36 (by decide) ?_
            refine zj_cS4I (pc := 37) K lm_X8_147 (m_X8_pairOf hs_Mnow eC hC e2 e3 (by omega) (by omega)) (by decide) rfl (Nat.le_of_ble_eq_true rfl) dX8_evennessNow_37 ?_
            refine zj_imul (pc := 40) K dX8_evennessNow_40 ?_
            refine zj_iadd (pc := 41) K dX8_evennessNow_41 ?_
            refine zj_istore_n (i := 1) (pc := 42) K dX8_evennessNow_42 rfl rfl rfl rfl ?_
            refine zj_iinc (v := 1) (pc := 43) K dX8_evennessNow_43 rfl (by decide) rfl rfl rfl ?_
            refine zj_goto (tgt := 14) (pc := 46) K dX8_evennessNow_46 (by decide) ?_
            refine zj_pick [0, 1, 2, 3] ?_
            exact ih2 (j + 1) _ _ (by omega) (by omega) (by rw [e1, zc_sum, Int32.add_assoc]) (zz_up e3)
      refine zj_iload_n (i := 2) (pc := 4) K dX8_evennessNow_4 rfl rfl ?_
      refine zj_aload_n (i := 0) (pc := 5) K dX8_evennessNow_5 rfl rfl ?_
      refine zj_cV0I (pc := 6) K lm_X8_132 hs_M (m_X8_judges) (by decide) rfl (Nat.le_of_ble_eq_true rfl) dX8_evennessNow_6 ?_
      refine zj_icmp_ge (tgt := 55) (pc := 9) K dX8_evennessNow_9 (by decide) (fun c_9 => ?_) (fun c_9 => ?_)
      · have hi : i = J := Nat.le_antisymm h2 (zz_ge e2 eJ (by omega) (by omega) c_9)
        refine zj_iload_n (i := 1) (pc := 55) K dX8_evennessNow_55 rfl rfl ?_
        exact zj_iret K Rt dX8_evennessNow_56 (⟨by rw [e1, hi]; rfl, rfl, rfl⟩)
      · have hi : i < J := zz_nge e2 eJ (by omega) (by omega) c_9
        refine zj_iconst (v := 0) (pc := 12) K dX8_evennessNow_12 (by decide) ?_
        refine zj_istore_n (i := 3) (pc := 13) K dX8_evennessNow_13 rfl rfl rfl rfl ?_
        exact inner hi (i + 1) 0 _ _ (by omega) (by omega) (by rw [e1, show zc_sum _ 0 = 0 from rfl, Int32.add_zero]) rfl
  show zj_J E Γ 4 0 [(0, .ref (E.2.1 78))] [] h g
  refine zj_iconst (v := 0) (pc := 0) K dX8_evennessNow_0 (by decide) ?_
  refine zj_istore_n (i := 1) (pc := 1) K dX8_evennessNow_1 rfl rfl rfl rfl ?_
  refine zj_iconst (v := 0) (pc := 2) K dX8_evennessNow_2 (by decide) ?_
  refine zj_istore_n (i := 2) (pc := 3) K dX8_evennessNow_3 rfl rfl rfl rfl ?_
  exact loop (J + 1) 0 _ _ (by omega) (by omega) rfl rfl

set_option maxHeartbeats 4000000 in
set_option maxRecDepth 20000 in
theorem m_X8_evenness {l : Launch} {E : zj_E} {h : zj_H} {g : zj_G} {J C : Nat} (eJ : h 80 7 = nI J) (hJ : J ≤ 9) (eC : h 80 18 = nI C) (hC : C ≤ 14) {u : Nat} : zj_M l E yX8_evenness cX8_evenness 1 (some .int) 3 [.ref (E.2.1 78)] h g (fun v h' g' => v = some (.int (zs_even J C (zmB h 80))) ∧ g' = g ∧ zm_same h h' ∧ h' 78 0 = 0) := by
  refine zj_M.of RX8 (by decide) rfl (Nat.le_of_ble_eq_true rfl) ?_
  intro Γ hΓ K Rt
  subst hΓ
  show zj_J E Γ 1 0 [(0, .ref (E.2.1 78))] [] h g
  refine zj_aload_n (i := 0) (pc := 0) K dX8_evenness_0 rfl rfl ?_
  refine zj_iconst (v := 0) (pc := 1) K dX8_evenness_1 (by decide) ?_
  refine zj_putI (pc := 2) K lf_X8_1 hs_M rfl dX8_evenness_2 ?_
  refine zj_hn (fun q0 eq0 => ?_)
  have w0 : ∀ a, a ≠ 78 → q0 a = h a := fun a a1 => by rw [eq0, zj_s_ne _ _ a1]
  have wb : ∀ b, b ≠ 0 → q0 78 b = h 78 b := fun b b1 => by rw [eq0, zj_s_eq, zz_upd_ne _ _ b1]
  have w00 : q0 78 0 = 0 := by rw [eq0, zj_s_eq, zz_upd_at]
  have ws : zm_same h q0 := by rw [eq0]; exact zm_same_0 h 0
  have e80 : q0 80 = h 80 := w0 80 (by decide)
  have eJ0 : q0 80 7 = nI J := by rw [e80]; exact eJ
  have eC0 : q0 80 18 = nI C := by rw [e80]; exact eC
  have eτ : zτM q0 80 J C u = zτM h 80 J C u := zτM_congr e80
  have eδ : zδM q0 80 = zδM h 80 := zδM_congr e80
  clear eq0
  refine zj_aload_n (i := 0) (pc := 5) K dX8_evenness_5 rfl rfl ?_
  refine zj_cV0I (pc := 6) K lm_X8_211 hs_M (m_X8_evennessNow eJ0 hJ eC0 hC) (by decide) rfl (Nat.le_of_ble_eq_true rfl) dX8_evenness_6 ?_
  exact zj_iret K Rt dX8_evenness_9 (⟨by rw [show zmB q0 80 = zmB h 80 by unfold zmB; rw [e80]], rfl, ws, w00⟩)

set_option maxHeartbeats 4000000 in
set_option maxRecDepth 20000 in
theorem m_X8_changes {l : Launch} {E : zj_E} {h : zj_H} {g : zj_G} {a b : Nat} {x1 x2 m : Int32} (e1 : x1 = nI a) (e2 : x2 = nI b) (ha : a < 14) (hb : b < 14) (hab : a ≠ b) : zj_M l E yX8_changes cX8_changes 4 none 0 [.ref (E.2.1 78), .int x1, .int x2, .int m] h g (fun v h' g' => v = none ∧ g' = g ∧ (∀ a, a ≠ 80 → h' a = h a) ∧ h' 80 = zm_ch (h 80) a b m) := by
  refine zj_M.of RX8 (by decide) rfl (Nat.le_of_ble_eq_true rfl) ?_
  intro Γ hΓ K Rt
  subst hΓ
  show zj_J E Γ 4 0 [(0, .ref (E.2.1 78)), (1, .int x1), (2, .int x2), (3, .int m)] [] h g
  refine zj_aload_n (i := 0) (pc := 0) K dX8_changes_0 rfl rfl ?_
  refine zj_getR (pc := 1) K lf_X8_64 hs_M rfl dX8_changes_1 ?_
  refine zj_bipush (v := 61) (pc := 4) K dX8_changes_4 (by decide) ?_
  refine zj_iload_n (i := 1) (pc := 6) K dX8_changes_6 rfl rfl ?_
  refine zj_iadd (pc := 7) K dX8_changes_7 ?_
  refine zj_dup2 (pc := 8) K dX8_changes_8 rfl rfl ?_
  refine zj_ald (j := 61 + a) (pc := 9) K hs_Mnow (zm_ix rfl e1) (by omega) (by first | decide | omega) dX8_changes_9 ?_
  refine zj_iload_n (i := 3) (pc := 10) K dX8_changes_10 rfl rfl ?_
  refine zj_ixor (pc := 11) K dX8_changes_11 ?_
  refine zj_ast (j := 61 + a) (pc := 12) K hs_Mnow (zm_ix rfl e1) (by omega) (by first | decide | omega) dX8_changes_12 ?_
  refine zj_aload_n (i := 0) (pc := 13) K dX8_changes_13 rfl rfl ?_
  refine zj_getR (pc := 14) K lf_X8_64 hs_M rfl dX8_changes_14 ?_
  refine zj_bipush (v := 61) (pc := 17) K dX8_changes_17 (by decide) ?_
  refine zj_iload_n (i := 2) (pc := 19) K dX8_changes_19 rfl rfl ?_
  refine zj_iadd (pc := 20) K dX8_changes_20 ?_
  refine zj_dup2 (pc := 21) K dX8_changes_21 rfl rfl ?_
  refine zj_ald (j := 61 + b) (pc := 22) K hs_Mnow (zm_ix rfl e2) (by omega) (by first | decide | omega) dX8_changes_22 ?_
  refine zj_iload_n (i := 3) (pc := 23) K dX8_changes_23 rfl rfl ?_
  refine zj_ixor (pc := 24) K dX8_changes_24 ?_
  refine zj_ast (j := 61 + b) (pc := 25) K hs_Mnow (zm_ix rfl e2) (by omega) (by first | decide | omega) dX8_changes_25 ?_
  exact zj_vret K Rt dX8_changes_26 (⟨rfl, rfl, fun c c1 => by rw [zj_s_ne _ _ c1, zj_s_ne _ _ c1], by rw [zj_s_eq, zj_s_eq, zz_upd_ne _ _ (show 61 + b ≠ 61 + a by omega)]; rfl⟩)

set_option maxHeartbeats 4000000 in
set_option maxRecDepth 20000 in
theorem m_X8_exchanges {l : Launch} {E : zj_E} {h : zj_H} {g : zj_G} {J C : Nat} (eJ : h 80 7 = nI J) (hJ : J ≤ 9) (eC : h 80 18 = nI C) (hC : C ≤ 14) {a i b j : Nat} {xa xx xb xy : Int32} (ea : xa = nI a) (ei : xx = nI i) (eb : xb = nI b) (ej : xy = nI j) (ha : a < C) (hi : i < J) (hb : b < C) (hj : j < J) : zj_M l E yX8_exchanges cX8_exchanges 8 (some .boolean) 2 [.ref (E.2.1 78), .int xa, .int xx, .int xb, .int xy] h g (fun v h' g' => v = some (.int (zz_i (zx_may J C (zmT h 80) (zmB h 80) (zm_law h 80 J) xa xx xb xy))) ∧ g' = g ∧ (∀ a, a ≠ 80 → h' a = h a) ∧ h' 80 = if (zx_may J C (zmT h 80) (zmB h 80) (zm_law h 80 J) xa xx xb xy) = true then zm_ch (h 80) a b (zz_bit i ||| zz_bit j) else h 80) := by
  refine zj_M.of RX8 (by decide) rfl (Nat.le_of_ble_eq_true rfl) ?_
  intro Γ hΓ K Rt
  subst hΓ
  show zj_J E Γ 8 0 [(0, .ref (E.2.1 78)), (1, .int xa), (2, .int xx), (3, .int xb), (4, .int xy)] [] h g
  refine zj_iload_n (i := 1) (pc := 0) K dX8_exchanges_0 rfl rfl ?_
  refine zj_iload_n (i := 3) (pc := 1) K dX8_exchanges_1 rfl rfl ?_
  refine zj_icmp_eq (tgt := 31) (pc := 2) K dX8_exchanges_2 (by decide) (fun c_2 => ?_) (fun c_2 => ?_)
  · have hM : (zx_may J C (zmT h 80) (zmB h 80) (zm_law h 80 J) xa xx xb xy) = false := by rw [c_2]; exact zx_may_aa
    refine zj_iconst (v := 0) (pc := 31) K dX8_exchanges_31 (by decide) ?_
    exact zj_zret K Rt dX8_exchanges_32 (by decide) (⟨by rw [hM]; rfl, rfl, fun _ _ => rfl, by rw [zz_ifn hM]⟩)
  · refine zj_aload_n (i := 0) (pc := 5) K dX8_exchanges_5 rfl rfl ?_
    refine zj_getR (pc := 6) K lf_X8_64 hs_M rfl dX8_exchanges_6 ?_
    refine zj_bipush (v := 75) (pc := 9) K dX8_exchanges_9 (by decide) ?_
    refine zj_iload_n (i := 1) (pc := 11) K dX8_exchanges_11 rfl rfl ?_
    refine zj_iadd (pc := 12) K dX8_exchanges_12 ?_
    refine zj_ald (j := 75 + a) (pc := 13) K hs_Mnow (zm_ix rfl ea) (by omega) (by first | decide | omega) dX8_exchanges_13 ?_
    refine zj_iconst (v := 1) (pc := 14) K dX8_exchanges_14 (by decide) ?_
    refine zj_icmp_ne (tgt := 31) (pc := 15) K dX8_exchanges_15 (by decide) (fun c_15 => ?_) (fun c_15 => ?_)
    · have hM : (zx_may J C (zmT h 80) (zmB h 80) (zm_law h 80 J) xa xx xb xy) = false := zx_may_f1 (by rw [ea, nI_clamp (by omega), decide_eq_false (show ¬ zmT h 80 a = 1 from c_15), Bool.and_false])
      refine zj_iconst (v := 0) (pc := 31) K dX8_exchanges_31 (by decide) ?_
      exact zj_zret K Rt dX8_exchanges_32 (by decide) (⟨by rw [hM]; rfl, rfl, fun _ _ => rfl, by rw [zz_ifn hM]⟩)
    · refine zj_aload_n (i := 0) (pc := 18) K dX8_exchanges_18 rfl rfl ?_
      refine zj_getR (pc := 19) K lf_X8_64 hs_M rfl dX8_exchanges_19 ?_
      refine zj_bipush (v := 75) (pc := 22) K dX8_exchanges_22 (by decide) ?_
      refine zj_iload_n (i := 3) (pc := 24) K dX8_exchanges_24 rfl rfl ?_
      refine zj_iadd (pc := 25) K dX8_exchanges_25 ?_
      refine zj_ald (j := 75 + b) (pc := 26) K hs_Mnow (zm_ix rfl eb) (by omega) (by first | decide | omega) dX8_exchanges_26 ?_
      refine zj_iconst (v := 1) (pc := 27) K dX8_exchanges_27 (by decide) ?_
      refine zj_icmp_eq (tgt := 33) (pc := 28) K dX8_exchanges_28 (by decide) (fun c_28 => ?_) (fun c_28 => ?_)
      · have hz := zx_may_of (J := J) (C := C) (st := zmT h 80) (si := zmB h 80) (pl := zm_law h 80 J) hJ hC ea ei eb ej ha hi hb hj c_15 c_28
        refine zj_aload_n (i := 0) (pc := 33) K dX8_exchanges_33 rfl rfl ?_
        refine zj_getR (pc := 34) K lf_X8_64 hs_M rfl dX8_exchanges_34 ?_
        refine zj_bipush (v := 61) (pc := 37) K dX8_exchanges_37 (by decide) ?_
        refine zj_iload_n (i := 1) (pc := 39) K dX8_exchanges_39 rfl rfl ?_
        refine zj_iadd (pc := 40) K dX8_exchanges_40 ?_
        refine zj_ald (j := 61 + a) (pc := 41) K hs_Mnow (zm_ix rfl ea) (by omega) (by first | decide | omega) dX8_exchanges_41 ?_
        refine zj_istore (pc := 42) K dX8_exchanges_42 rfl rfl rfl ?_
        refine zj_aload_n (i := 0) (pc := 44) K dX8_exchanges_44 rfl rfl ?_
        refine zj_getR (pc := 45) K lf_X8_64 hs_M rfl dX8_exchanges_45 ?_
        refine zj_bipush (v := 61) (pc := 48) K dX8_exchanges_48 (by decide) ?_
        refine zj_iload_n (i := 3) (pc := 50) K dX8_exchanges_50 rfl rfl ?_
        refine zj_iadd (pc := 51) K dX8_exchanges_51 ?_
        refine zj_ald (j := 61 + b) (pc := 52) K hs_Mnow (zm_ix rfl eb) (by omega) (by first | decide | omega) dX8_exchanges_52 ?_
        refine zj_istore (pc := 53) K dX8_exchanges_53 rfl rfl rfl ?_
        refine zj_iload (pc := 55) K dX8_exchanges_55 rfl ?_
        refine zj_iload_n (i := 2) (pc := 57) K dX8_exchanges_57 rfl rfl ?_
        refine zj_cS2I (pc := 58) K lm_X8_105 (m_X8_has ei (by omega)) (by decide) rfl (Nat.le_of_ble_eq_true rfl) dX8_exchanges_58 ?_
        refine zj_if_eq (tgt := 93) (pc := 61) K dX8_exchanges_61 (by decide) (fun c_61 => ?_) (fun c_61 => ?_)
        · replace c_61 := zz_i0.mp c_61
          have hM : (zx_may J C (zmT h 80) (zmB h 80) (zm_law h 80 J) xa xx xb xy) = false := by rw [hz]; simp [show bt (zmB h 80 a) i = false from c_61]
          refine zj_iconst (v := 0) (pc := 93) K dX8_exchanges_93 (by decide) ?_
          exact zj_zret K Rt dX8_exchanges_94 (by decide) (⟨by rw [hM]; rfl, rfl, fun _ _ => rfl, by rw [zz_ifn hM]⟩)
        · replace c_61 := zz_n0.mp c_61
          refine zj_iload (pc := 64) K dX8_exchanges_64 rfl ?_
          refine zj_iload_n (i := 2) (pc := 66) K dX8_exchanges_66 rfl rfl ?_
          refine zj_cS2I (pc := 67) K lm_X8_105 (m_X8_has ei (by omega)) (by decide) rfl (Nat.le_of_ble_eq_true rfl) dX8_exchanges_67 ?_
          refine zj_if_ne (tgt := 93) (pc := 70) K dX8_exchanges_70 (by decide) (fun c_70 => ?_) (fun c_70 => ?_)
          · replace c_70 := zz_n0.mp c_70
            have hM : (zx_may J C (zmT h 80) (zmB h 80) (zm_law h 80 J) xa xx xb xy) = false := by rw [hz]; simp [show bt (zmB h 80 b) i = true from c_70]
            refine zj_iconst (v := 0) (pc := 93) K dX8_exchanges_93 (by decide) ?_
            exact zj_zret K Rt dX8_exchanges_94 (by decide) (⟨by rw [hM]; rfl, rfl, fun _ _ => rfl, by rw [zz_ifn hM]⟩)
          · replace c_70 := zz_i0.mp c_70
            refine zj_iload (pc := 73) K dX8_exchanges_73 rfl ?_
            refine zj_iload (pc := 75) K dX8_exchanges_75 rfl ?_
            refine zj_cS2I (pc := 77) K lm_X8_105 (m_X8_has ej (by omega)) (by decide) rfl (Nat.le_of_ble_eq_true rfl) dX8_exchanges_77 ?_
            refine zj_if_eq (tgt := 93) (pc := 80) K dX8_exchanges_80 (by decide) (fun c_80 => ?_) (fun c_80 => ?_)
            · replace c_80 := zz_i0.mp c_80
              have hM : (zx_may J C (zmT h 80) (zmB h 80) (zm_law h 80 J) xa xx xb xy) = false := by rw [hz]; simp [show bt (zmB h 80 b) j = false from c_80]
              refine zj_iconst (v := 0) (pc := 93) K dX8_exchanges_93 (by decide) ?_
              exact zj_zret K Rt dX8_exchanges_94 (by decide) (⟨by rw [hM]; rfl, rfl, fun _ _ => rfl, by rw [zz_ifn hM]⟩)
            · replace c_80 := zz_n0.mp c_80
              refine zj_iload (pc := 83) K dX8_exchanges_83 rfl ?_
              refine zj_iload (pc := 85) K dX8_exchanges_85 rfl ?_
              refine zj_cS2I (pc := 87) K lm_X8_105 (m_X8_has ej (by omega)) (by decide) rfl (Nat.le_of_ble_eq_true rfl) dX8_exchanges_87 ?_
              refine zj_if_eq (tgt := 95) (pc := 90) K dX8_exchanges_90 (by decide) (fun c_90 => ?_) (fun c_90 => ?_)
              · replace c_90 := zz_i0.mp c_90
                have hx1 : h 80 (61 + a) ^^^ ((1 : Int32) <<< (xx &&& 31) ||| (1 : Int32) <<< (xy &&& 31)) = zr_stay (zmB h 80 a) i ||| zz_bit j := by rw [ei, ej]; exact zm_xor2 (by omega) (by omega) c_61 c_90
                have hx2 : h 80 (61 + b) ^^^ ((1 : Int32) <<< (xx &&& 31) ||| (1 : Int32) <<< (xy &&& 31)) = zr_stay (zmB h 80 b) j ||| zz_bit i := by rw [ei, ej]; exact zm_xor3 (by omega) (by omega) c_80 c_70
                have hab : a ≠ b := fun e => by rw [e, c_70] at c_61; cases c_61
                rw [show bt (zmB h 80 a) i = true from c_61, show bt (zmB h 80 b) i = false from c_70, show bt (zmB h 80 b) j = true from c_80, show bt (zmB h 80 a) j = false from c_90] at hz
                refine zj_iconst (v := 1) (pc := 95) K dX8_exchanges_95 (by decide) ?_
                refine zj_iload_n (i := 2) (pc := 96) K dX8_exchanges_96 rfl rfl ?_
                refine zj_ishl (pc := 97) K dX8_exchanges_97 ?_
                refine zj_iconst (v := 1) (pc := 98) K dX8_exchanges_98 (by decide) ?_
                refine zj_iload (pc := 99) K dX8_exchanges_99 rfl ?_
                refine zj_ishl (pc := 101) K dX8_exchanges_101 ?_
                refine zj_ior (pc := 102) K dX8_exchanges_102 ?_
                refine zj_istore (pc := 103) K dX8_exchanges_103 rfl rfl rfl ?_
                refine zj_aload_n (i := 0) (pc := 105) K dX8_exchanges_105 rfl rfl ?_
                refine zj_getR (pc := 106) K lf_X8_64 hs_M rfl dX8_exchanges_106 ?_
                refine zj_iload_n (i := 1) (pc := 109) K dX8_exchanges_109 rfl rfl ?_
                refine zj_iload (pc := 110) K dX8_exchanges_110 rfl ?_
                refine zj_iload (pc := 112) K dX8_exchanges_112 rfl ?_
                refine zj_ixor (pc := 114) K dX8_exchanges_114 ?_
                refine zj_cS3I (pc := 115) K lm_X8_170 (m_X8_isLawful hs_Mnow eJ hJ ea (by omega)) (by decide) rfl (Nat.le_of_ble_eq_true rfl) dX8_exchanges_115 ?_
                refine zj_if_eq (tgt := 137) (pc := 118) K dX8_exchanges_118 (by decide) (fun c_118 => ?_) (fun c_118 => ?_)
                · replace c_118 := zz_i0.mp c_118
                  rw [hx1] at c_118
                  have hM : (zx_may J C (zmT h 80) (zmB h 80) (zm_law h 80 J) xa xx xb xy) = false := by rw [hz, c_118]; simp
                  refine zj_iconst (v := 0) (pc := 137) K dX8_exchanges_137 (by decide) ?_
                  exact zj_zret K Rt dX8_exchanges_138 (by decide) (⟨by rw [hM]; rfl, rfl, fun _ _ => rfl, by rw [zz_ifn hM]⟩)
                · replace c_118 := zz_n0.mp c_118
                  rw [hx1] at c_118
                  refine zj_aload_n (i := 0) (pc := 121) K dX8_exchanges_121 rfl rfl ?_
                  refine zj_getR (pc := 122) K lf_X8_64 hs_M rfl dX8_exchanges_122 ?_
                  refine zj_iload_n (i := 3) (pc := 125) K dX8_exchanges_125 rfl rfl ?_
                  refine zj_iload (pc := 126) K dX8_exchanges_126 rfl ?_
                  refine zj_iload (pc := 128) K dX8_exchanges_128 rfl ?_
                  refine zj_ixor (pc := 130) K dX8_exchanges_130 ?_
                  refine zj_cS3I (pc := 131) K lm_X8_170 (m_X8_isLawful hs_Mnow eJ hJ eb (by omega)) (by decide) rfl (Nat.le_of_ble_eq_true rfl) dX8_exchanges_131 ?_
                  refine zj_if_ne (tgt := 139) (pc := 134) K dX8_exchanges_134 (by decide) (fun c_134 => ?_) (fun c_134 => ?_)
                  · replace c_134 := zz_n0.mp c_134
                    rw [hx2] at c_134
                    have hM : (zx_may J C (zmT h 80) (zmB h 80) (zm_law h 80 J) xa xx xb xy) = true := by rw [hz, c_118, c_134]; rfl
                    refine zj_aload_n (i := 0) (pc := 139) K dX8_exchanges_139 rfl rfl ?_
                    refine zj_iload_n (i := 1) (pc := 140) K dX8_exchanges_140 rfl rfl ?_
                    refine zj_iload_n (i := 3) (pc := 141) K dX8_exchanges_141 rfl rfl ?_
                    refine zj_iload (pc := 142) K dX8_exchanges_142 rfl ?_
                    refine zj_cV3P (pc := 144) K lm_X8_214 hs_M (m_X8_changes ea eb (by omega) (by omega) hab) (by decide) rfl (Nat.le_of_ble_eq_true rfl) dX8_exchanges_144 (fun v q2 g2 hp => ?_)
                    obtain ⟨rfl, rfl, zs1, zs2⟩ := hp
                    refine zj_iconst (v := 1) (pc := 147) K dX8_exchanges_147 (by decide) ?_
                    exact zj_zret K Rt dX8_exchanges_148 (by decide) (⟨by rw [hM]; rfl, rfl, zs1, by rw [zs2, zz_ifp hM, ei, ej]; rfl⟩)
                  · replace c_134 := zz_i0.mp c_134
                    rw [hx2] at c_134
                    have hM : (zx_may J C (zmT h 80) (zmB h 80) (zm_law h 80 J) xa xx xb xy) = false := by rw [hz, c_134]; simp
                    refine zj_iconst (v := 0) (pc := 137) K dX8_exchanges_137 (by decide) ?_
                    exact zj_zret K Rt dX8_exchanges_138 (by decide) (⟨by rw [hM]; rfl, rfl, fun _ _ => rfl, by rw [zz_ifn hM]⟩)
              · replace c_90 := zz_n0.mp c_90
                have hM : (zx_may J C (zmT h 80) (zmB h 80) (zm_law h 80 J) xa xx xb xy) = false := by rw [hz]; simp [show bt (zmB h 80 a) j = true from c_90]
                refine zj_iconst (v := 0) (pc := 93) K dX8_exchanges_93 (by decide) ?_
                exact zj_zret K Rt dX8_exchanges_94 (by decide) (⟨by rw [hM]; rfl, rfl, fun _ _ => rfl, by rw [zz_ifn hM]⟩)
      · have hM : (zx_may J C (zmT h 80) (zmB h 80) (zm_law h 80 J) xa xx xb xy) = false := zx_may_f2 (by rw [eb, nI_clamp (by omega), decide_eq_false (show ¬ zmT h 80 b = 1 from c_28), Bool.and_false])
        refine zj_iconst (v := 0) (pc := 31) K dX8_exchanges_31 (by decide) ?_
        exact zj_zret K Rt dX8_exchanges_32 (by decide) (⟨by rw [hM]; rfl, rfl, fun _ _ => rfl, by rw [zz_ifn hM]⟩)

set_option maxHeartbeats 4000000 in
set_option maxRecDepth 20000 in
theorem m_X8_laysBetter {l : Launch} {E : zj_E} {h : zj_H} {g : zj_G} {J C : Nat} (eJ : h 80 7 = nI J) (hJ : J ≤ 9) (eC : h 80 18 = nI C) (hC : C ≤ 14)  : zj_M l E yX8_laysBetter cX8_laysBetter 6 (some .boolean) 3 [.ref (E.2.1 78)] h g (fun v h' g' => v = some (.int (zz_i (zx_fa (zo_p J C (zmT h 80) (zmB h 80) (zm_law h 80 J)) J C C).isSome)) ∧ g' = g ∧ (∀ a, a ≠ 78 → h' a = h a) ∧ (∀ b, b < 23 → h' 78 b = h 78 b) ∧ (∀ a x b y, (zx_fa (zo_p J C (zmT h 80) (zmB h 80) (zm_law h 80 J)) J C C) = some (a, x, b, y) → h' 78 23 = nI a ∧ h' 78 24 = nI x ∧ h' 78 25 = nI b ∧ h' 78 26 = nI y ∧ h' 78 27 = (zs_even J C (zmB h 80)) - zs_even J C (zx_si (zmB h 80) a x b y))) := by
  refine zj_M.of RX8 (by decide) rfl (Nat.le_of_ble_eq_true rfl) ?_
  intro Γ hΓ K Rt
  subst hΓ
  have loop : ∀ (mA a : Nat) (x1 x2 : Int32) (q : zj_H), C + 1 ≤ a + mA → a ≤ C → (x1 = (zs_even J C (zmB h 80))) → (x2 = nI a) → (∀ a, a ≠ 78 → q a = h a) → (∀ b, b ≠ 27 → q 78 b = h 78 b) → (zx_fa (zo_p J C (zmT h 80) (zmB h 80) (zm_law h 80 J)) J C a = none) → zj_J E Γ 6 7 [(0, .ref (E.2.1 78)), (1, .int x1), (2, .int x2)] [] q g := by
    intro mA
    induction mA with
    | zero => intro a x1 x2 q  h1 h2; omega
    | succ mA ih =>
      intro a x1 x2 q  h1 h2 e1 e2 zf1 zf2 hno1
      have e80 : q 80 = h 80 := zf1 80 (by decide)
      have eJ2 : q 80 7 = nI J := by rw [e80]; exact eJ
      have eC2 : q 80 18 = nI C := by rw [e80]; exact eC
      have lpX : a < C → ∀ (mX x : Nat) (x3 : Int32) (q : zj_H), J + 1 ≤ x + mX → x ≤ J → (x3 = nI x) → (∀ a, a ≠ 78 → q a = h a) → (∀ b, b ≠ 27 → q 78 b = h 78 b) → (zx_fx ((zo_p J C (zmT h 80) (zmB h 80) (zm_law h 80 J)) a) J C a x = none) → zj_J E Γ 6 17 [(0, .ref (E.2.1 78)), (1, .int x1), (2, .int x2), (3, .int x3)] [] q g := by
        intro ha mX
        induction mX with
        | zero => intro x x3 q  h3 h4; omega
        | succ mX ihX =>
          intro x x3 q  h3 h4 e3 zf1 zf2 hno2
          have e80 : q 80 = h 80 := zf1 80 (by decide)
          have eJ2 : q 80 7 = nI J := by rw [e80]; exact eJ
          have eC2 : q 80 18 = nI C := by rw [e80]; exact eC
          have lpB : x < J → ∀ (mB b : Nat) (x4 : Int32) (q : zj_H), C + 1 ≤ b + mB → b ≤ C → (a < b) → (x4 = nI b) → (∀ a, a ≠ 78 → q a = h a) → (∀ b, b ≠ 27 → q 78 b = h 78 b) → (zx_fb ((zo_p J C (zmT h 80) (zmB h 80) (zm_law h 80 J)) a x) J a b = none) → zj_J E Γ 6 30 [(0, .ref (E.2.1 78)), (1, .int x1), (2, .int x2), (3, .int x3), (4, .int x4)] [] q g := by
            intro hx mB
            induction mB with
            | zero => intro b x4 q  h5 h6; omega
            | succ mB ihB =>
              intro b x4 q  h5 h6 hlo e4 zf1 zf2 hno3
              have e80 : q 80 = h 80 := zf1 80 (by decide)
              have eJ2 : q 80 7 = nI J := by rw [e80]; exact eJ
              have eC2 : q 80 18 = nI C := by rw [e80]; exact eC
              have lpY : b < C → ∀ (mY y : Nat) (x5 : Int32) (q : zj_H), J + 1 ≤ y + mY → y ≤ J → (x5 = nI y) → (∀ a, a ≠ 78 → q a = h a) → (∀ b, b ≠ 27 → q 78 b = h 78 b) → (zx_fy ((zo_p J C (zmT h 80) (zmB h 80) (zm_law h 80 J)) a x b) y = none) → zj_J E Γ 6 42 [(0, .ref (E.2.1 78)), (1, .int x1), (2, .int x2), (3, .int x3), (4, .int x4), (5, .int x5)] [] q g := by
                intro hb mY
                induction mY with
                | zero => intro y x5 q  h7 h8; omega
                | succ mY ihY =>
                  intro y x5 q  h7 h8 e5 zf1 zf2 hno4
                  have e80 : q 80 = h 80 := zf1 80 (by decide)
                  have eJ2 : q 80 7 = nI J := by rw [e80]; exact eJ
                  have eC2 : q 80 18 = nI C := by rw [e80]; exact eC
                  have eB : zmB q 80 = zmB h 80 := by unfold zmB; rw [e80]
                  have eT : zmT q 80 = zmT h 80 := by unfold zmT; rw [e80]
                  have eL : zm_law q 80 J = zm_law h 80 J := funext fun c => zm_law_congr e80
                  refine zj_iload (pc := 42) K dX8_laysBetter_42 rfl ?_
                  refine zj_aload_n (i := 0) (pc := 44) K dX8_laysBetter_44 rfl rfl ?_
                  refine zj_cV0I (pc := 45) K lm_X8_132 hs_M (m_X8_judges) (by decide) rfl (Nat.le_of_ble_eq_true rfl) dX8_laysBetter_45 ?_
                  refine zj_icmp_ge (tgt := 132) (pc := 48) K dX8_laysBetter_48 (by decide) (fun c_48 => ?_) (fun c_48 => ?_)
                  · have hy : y = J := Nat.le_antisymm h8 (zz_ge e5 eJ2 (by omega) (by omega) c_48)
                    subst hy
                    refine zj_iinc (v := 1) (pc := 132) K dX8_laysBetter_132 rfl (by decide) rfl rfl rfl ?_
                    refine zj_goto (tgt := 30) (pc := 135) K dX8_laysBetter_135 (by decide) ?_
                    refine zj_pick [0, 1, 2, 3, 4] ?_
                    exact ihB (b + 1) _ _ (by omega) (by omega) (by omega) (zz_up e4) zf1 zf2 (by rw [zx_fb, hno3]; simp only; rw [if_pos hlo, hno4]; rfl)
                  · have hy : y < J := zz_nge e5 eJ2 (by omega) (by omega) c_48
                    refine zj_aload_n (i := 0) (pc := 51) K dX8_laysBetter_51 rfl rfl ?_
                    refine zj_iload_n (i := 2) (pc := 52) K dX8_laysBetter_52 rfl rfl ?_
                    refine zj_iload_n (i := 3) (pc := 53) K dX8_laysBetter_53 rfl rfl ?_
                    refine zj_iload (pc := 54) K dX8_laysBetter_54 rfl ?_
                    refine zj_iload (pc := 56) K dX8_laysBetter_56 rfl ?_
                    refine zj_cV4P (pc := 58) K lm_X8_218 hs_M (m_X8_exchanges (J := J) (C := C) (a := a) (i := x) (b := b) (j := y) eJ2 hJ eC2 hC e2 e3 e4 e5 ha hx hb hy) (by decide) rfl (Nat.le_of_ble_eq_true rfl) dX8_laysBetter_58 (fun v q2 g2 hp => ?_)
                    obtain ⟨rfl, rfl, zs1, zs2⟩ := hp
                    rw [eT, eB, eL, e80, e2, e3, e4, e5] at zs2
                    refine zj_top (x' := zz_i (zx_may J C (zmT h 80) (zmB h 80) (zm_law h 80 J) (nI a) (nI x) (nI b) (nI y))) (by rw [eT, eB, eL, e2, e3, e4, e5]) ?_
                    refine zj_if_ne (tgt := 67) (pc := 61) K dX8_laysBetter_61 (by decide) (fun c_61 => ?_) (fun c_61 => ?_)
                    · replace c_61 := zz_n0.mp c_61
                      rw [zz_ifp c_61] at zs2
                      obtain ⟨k1, k2, k3, k4⟩ := zx_may_t hJ hC ha hx hb hy c_61
                      obtain ⟨hab, eB2⟩ := zm_exB (f := h 80) (by omega) (by omega) k1 k2 k3 k4
                      have eB2 : zmB q2 80 = zx_si (zmB h 80) a x b y := by
                        rw [← show (fun c => h 80 (61 + c)) = zmB h 80 from rfl, ← eB2]
                        unfold zmB
                        rw [zs2]
                      have eJ3 : q2 80 7 = nI J := by rw [zs2, zm_ch_ne (by omega) (by omega)]; exact eJ
                      have eC3 : q2 80 18 = nI C := by rw [zs2, zm_ch_ne (by omega) (by omega)]; exact eC
                      refine zj_aload_n (i := 0) (pc := 67) K dX8_laysBetter_67 rfl rfl ?_
                      refine zj_iload_n (i := 1) (pc := 68) K dX8_laysBetter_68 rfl rfl ?_
                      refine zj_aload_n (i := 0) (pc := 69) K dX8_laysBetter_69 rfl rfl ?_
                      refine zj_cV0I (pc := 70) K lm_X8_211 hs_M (m_X8_evennessNow eJ3 hJ eC3 hC) (by decide) rfl (Nat.le_of_ble_eq_true rfl) dX8_laysBetter_70 ?_
                      refine zj_isub (pc := 73) K dX8_laysBetter_73 ?_
                      refine zj_putI (pc := 74) K lf_X8_222 hs_M rfl dX8_laysBetter_74 ?_
                      refine zj_aload_n (i := 0) (pc := 77) K dX8_laysBetter_77 rfl rfl ?_
                      refine zj_iload_n (i := 2) (pc := 78) K dX8_laysBetter_78 rfl rfl ?_
                      refine zj_iload (pc := 79) K dX8_laysBetter_79 rfl ?_
                      refine zj_iconst (v := 1) (pc := 81) K dX8_laysBetter_81 (by decide) ?_
                      refine zj_iload_n (i := 3) (pc := 82) K dX8_laysBetter_82 rfl rfl ?_
                      refine zj_ishl (pc := 83) K dX8_laysBetter_83 ?_
                      refine zj_iconst (v := 1) (pc := 84) K dX8_laysBetter_84 (by decide) ?_
                      refine zj_iload (pc := 85) K dX8_laysBetter_85 rfl ?_
                      refine zj_ishl (pc := 87) K dX8_laysBetter_87 ?_
                      refine zj_ior (pc := 88) K dX8_laysBetter_88 ?_
                      refine zj_cV3P (pc := 89) K lm_X8_214 hs_M (m_X8_changes (a := a) (b := b) e2 e4 (by omega) (by omega) hab) (by decide) rfl (Nat.le_of_ble_eq_true rfl) dX8_laysBetter_89 (fun v q4 g4 hp => ?_)
                      obtain ⟨rfl, rfl, zt1, zt2⟩ := hp
                      have v80 : q4 80 = h 80 := by rw [zt2, zj_s_ne _ _ (by decide), zs2, e3, e5]; exact zm_back hab
                      have v1 : ∀ a, a ≠ 78 → q4 a = h a := fun c c1 => by
                        by_cases e : c = 80
                        · rw [e]; exact v80
                        · rw [zt1 c e, zj_s_ne _ _ c1, zs1 c e]; exact zf1 c c1
                      have v2 : ∀ b, b ≠ 27 → q4 78 b = h 78 b := fun c c1 => by rw [zt1 78 (by decide), zj_s_eq, zz_upd_ne _ _ c1, zs1 78 (by decide)]; exact zf2 c c1
                      have v27 : q4 78 27 = (zs_even J C (zmB h 80)) - zs_even J C (zx_si (zmB h 80) a x b y) := by rw [zt1 78 (by decide), zj_s_eq, zz_upd_at, eB2, e1]
                      refine zj_aload_n (i := 0) (pc := 92) K dX8_laysBetter_92 rfl rfl ?_
                      refine zj_getI (pc := 93) K lf_X8_222 hs_M rfl dX8_laysBetter_93 ?_
                      refine zj_if_gt (tgt := 102) (pc := 96) K dX8_laysBetter_96 (by decide) (fun c_96 => ?_) (fun c_96 => ?_)
                      · have c_96 : 0 < q4 78 27 := c_96
                        rw [v27] at c_96
                        have hyp : (zo_p J C (zmT h 80) (zmB h 80) (zm_law h 80 J)) a x b y = true := by rw [zo_p, c_61, decide_eq_true c_96]; rfl
                        have hfy : zx_fy ((zo_p J C (zmT h 80) (zmB h 80) (zm_law h 80 J)) a x b) J = some y := zx_fy_up (i := y + 1) (by omega) (by rw [zx_fy, hno4]; simp only; rw [if_pos hyp])
                        have hfb : zx_fb ((zo_p J C (zmT h 80) (zmB h 80) (zm_law h 80 J)) a x) J a C = some (b, y) := zx_fb_up (i := b + 1) (by omega) (by rw [zx_fb, hno3]; simp only; rw [if_pos hlo, hfy]; rfl)
                        have hfx : zx_fx ((zo_p J C (zmT h 80) (zmB h 80) (zm_law h 80 J)) a) J C a J = some (x, b, y) := zx_fx_up (i := x + 1) (by omega) (by rw [zx_fx, hno2]; simp only; rw [hfb]; rfl)
                        have hR : (zx_fa (zo_p J C (zmT h 80) (zmB h 80) (zm_law h 80 J)) J C C) = some (a, x, b, y) := zx_fa_up (i := a + 1) (by omega) (by rw [zx_fa, hno1]; simp only; rw [hfx]; rfl)
                        refine zj_aload_n (i := 0) (pc := 102) K dX8_laysBetter_102 rfl rfl ?_
                        refine zj_iload_n (i := 2) (pc := 103) K dX8_laysBetter_103 rfl rfl ?_
                        refine zj_putI (pc := 104) K lf_X8_225 hs_M rfl dX8_laysBetter_104 ?_
                        refine zj_aload_n (i := 0) (pc := 107) K dX8_laysBetter_107 rfl rfl ?_
                        refine zj_iload_n (i := 3) (pc := 108) K dX8_laysBetter_108 rfl rfl ?_
                        refine zj_putI (pc := 109) K lf_X8_228 hs_M rfl dX8_laysBetter_109 ?_
                        refine zj_aload_n (i := 0) (pc := 112) K dX8_laysBetter_112 rfl rfl ?_
                        refine zj_iload (pc := 113) K dX8_laysBetter_113 rfl ?_
                        refine zj_putI (pc := 115) K lf_X8_231 hs_M rfl dX8_laysBetter_115 ?_
                        refine zj_aload_n (i := 0) (pc := 118) K dX8_laysBetter_118 rfl rfl ?_
                        refine zj_iload (pc := 119) K dX8_laysBetter_119 rfl ?_
                        refine zj_putI (pc := 121) K lf_X8_234 hs_M rfl dX8_laysBetter_121 ?_
                        refine zj_iconst (v := 1) (pc := 124) K dX8_laysBetter_124 (by decide) ?_
                        exact zj_zret K Rt dX8_laysBetter_125 (by decide) (⟨by rw [hR]; rfl, rfl, fun c c1 => by rw [zj_s_ne _ _ c1, zj_s_ne _ _ c1, zj_s_ne _ _ c1, zj_s_ne _ _ c1]; exact v1 c c1, fun c c1 => by rw [zj_s_eq, zj_s_eq, zj_s_eq, zj_s_eq, zz_upd_ne _ _ (by omega), zz_upd_ne _ _ (by omega), zz_upd_ne _ _ (by omega), zz_upd_ne _ _ (by omega)]; exact v2 c (by omega), fun a2 x2' b2 y2 hr => by
                              rw [hR] at hr; cases hr
                              rw [← v27, ← e2, ← e3, ← e4, ← e5]
                              exact ⟨rfl, rfl, rfl, rfl, rfl⟩⟩)
                      · have c_96 : ¬ 0 < q4 78 27 := c_96
                        rw [v27] at c_96
                        have hnp : (zo_p J C (zmT h 80) (zmB h 80) (zm_law h 80 J)) a x b y = false := by rw [zo_p, decide_eq_false c_96, Bool.and_false]
                        refine zj_goto (tgt := 126) (pc := 99) K dX8_laysBetter_99 (by decide) ?_
                        refine zj_iinc (v := 1) (pc := 126) K dX8_laysBetter_126 rfl (by decide) rfl rfl rfl ?_
                        refine zj_goto (tgt := 42) (pc := 129) K dX8_laysBetter_129 (by decide) ?_
                        refine zj_pick [0, 1, 2, 3, 4, 5] ?_
                        first
                        | exact ihY (y + 1) _ _ (by omega) (by omega) (zz_up e5) v1 v2 (by rw [zx_fy, hno4]; simp only; rw [hnp]; rfl)
                        | (refine ihY (y + 1) _ _ (by omega) (by omega) (zz_up e5) (fun c c1 => ?_) (fun c c1 => by rw [zs1 78 (by decide)]; exact zf2 c c1) (by rw [zx_fy, hno4]; simp only; rw [hnp]; rfl)
                           by_cases e : c = 80
                           · rw [e, zs2]
                           · rw [zs1 c e]; exact zf1 c c1)
                    · replace c_61 := zz_i0.mp c_61
                      have hnp : (zo_p J C (zmT h 80) (zmB h 80) (zm_law h 80 J)) a x b y = false := by rw [zo_p, c_61]; rfl
                      rw [zz_ifn c_61] at zs2
                      refine zj_goto (tgt := 126) (pc := 64) K dX8_laysBetter_64 (by decide) ?_
                      refine zj_iinc (v := 1) (pc := 126) K dX8_laysBetter_126 rfl (by decide) rfl rfl rfl ?_
                      refine zj_goto (tgt := 42) (pc := 129) K dX8_laysBetter_129 (by decide) ?_
                      refine zj_pick [0, 1, 2, 3, 4, 5] ?_
                      first
                      | exact ihY (y + 1) _ _ (by omega) (by omega) (zz_up e5) v1 v2 (by rw [zx_fy, hno4]; simp only; rw [hnp]; rfl)
                      | (refine ihY (y + 1) _ _ (by omega) (by omega) (zz_up e5) (fun c c1 => ?_) (fun c c1 => by rw [zs1 78 (by decide)]; exact zf2 c c1) (by rw [zx_fy, hno4]; simp only; rw [hnp]; rfl)
                         by_cases e : c = 80
                         · rw [e, zs2]
                         · rw [zs1 c e]; exact zf1 c c1)
              refine zj_iload (pc := 30) K dX8_laysBetter_30 rfl ?_
              refine zj_aload_n (i := 0) (pc := 32) K dX8_laysBetter_32 rfl rfl ?_
              refine zj_cV0I (pc := 33) K lm_X8_136 hs_M (m_X8_cases) (by decide) rfl (Nat.le_of_ble_eq_true rfl) dX8_laysBetter_33 ?_
              refine zj_icmp_ge (tgt := 138) (pc := 36) K dX8_laysBetter_36 (by decide) (fun c_36 => ?_) (fun c_36 => ?_)
              · have hb : b = C := Nat.le_antisymm h6 (zz_ge e4 eC2 (by omega) (by omega) c_36)
                subst hb
                refine zj_iinc (v := 1) (pc := 138) K dX8_laysBetter_138 rfl (by decide) rfl rfl rfl ?_
                refine zj_goto (tgt := 17) (pc := 141) K dX8_laysBetter_141 (by decide) ?_
                refine zj_pick [0, 1, 2, 3] ?_
                exact ihX (x + 1) _ _ (by omega) (by omega) (zz_up e3) zf1 zf2 (by rw [zx_fx, hno2]; simp only; rw [hno3]; rfl)
              · have hb : b < C := zz_nge e4 eC2 (by omega) (by omega) c_36
                refine zj_iconst (v := 0) (pc := 39) K dX8_laysBetter_39 (by decide) ?_
                refine zj_istore (pc := 40) K dX8_laysBetter_40 rfl rfl rfl ?_
                exact lpY hb (J + 1) 0 _ _ (by omega) (by omega) rfl zf1 zf2 rfl
          refine zj_iload_n (i := 3) (pc := 17) K dX8_laysBetter_17 rfl rfl ?_
          refine zj_aload_n (i := 0) (pc := 18) K dX8_laysBetter_18 rfl rfl ?_
          refine zj_cV0I (pc := 19) K lm_X8_132 hs_M (m_X8_judges) (by decide) rfl (Nat.le_of_ble_eq_true rfl) dX8_laysBetter_19 ?_
          refine zj_icmp_ge (tgt := 144) (pc := 22) K dX8_laysBetter_22 (by decide) (fun c_22 => ?_) (fun c_22 => ?_)
          · have hx : x = J := Nat.le_antisymm h4 (zz_ge e3 eJ2 (by omega) (by omega) c_22)
            subst hx
            refine zj_iinc (v := 1) (pc := 144) K dX8_laysBetter_144 rfl (by decide) rfl rfl rfl ?_
            refine zj_goto (tgt := 7) (pc := 147) K dX8_laysBetter_147 (by decide) ?_
            refine zj_pick [0, 1, 2] ?_
            exact ih (a + 1) _ _ _ (by omega) (by omega) e1 (zz_up e2) zf1 zf2 (by rw [zx_fa, hno1]; simp only; rw [hno2]; rfl)
          · have hx : x < J := zz_nge e3 eJ2 (by omega) (by omega) c_22
            refine zj_iload_n (i := 2) (pc := 25) K dX8_laysBetter_25 rfl rfl ?_
            refine zj_iconst (v := 1) (pc := 26) K dX8_laysBetter_26 (by decide) ?_
            refine zj_iadd (pc := 27) K dX8_laysBetter_27 ?_
            refine zj_istore (pc := 28) K dX8_laysBetter_28 rfl rfl rfl ?_
            exact lpB hx (C + 1) (a + 1) _ _ (by omega) (by omega) (by omega) (zz_up e2) zf1 zf2 (zx_fb_lo (Nat.le_refl _))
      refine zj_iload_n (i := 2) (pc := 7) K dX8_laysBetter_7 rfl rfl ?_
      refine zj_aload_n (i := 0) (pc := 8) K dX8_laysBetter_8 rfl rfl ?_
      refine zj_cV0I (pc := 9) K lm_X8_136 hs_M (m_X8_cases) (by decide) rfl (Nat.le_of_ble_eq_true rfl) dX8_laysBetter_9 ?_
      refine zj_icmp_ge (tgt := 150) (pc := 12) K dX8_laysBetter_12 (by decide) (fun c_12 => ?_) (fun c_12 => ?_)
      · have ha : a = C := Nat.le_antisymm h2 (zz_ge e2 eC2 (by omega) (by omega) c_12)
        subst ha
        refine zj_iconst (v := 0) (pc := 150) K dX8_laysBetter_150 (by decide) ?_
        exact zj_zret K Rt dX8_laysBetter_151 (by decide) (⟨by rw [hno1]; rfl, rfl, zf1, fun b b1 => zf2 b (by omega), fun a x b y hr => by rw [hno1] at hr; cases hr⟩)
      · have ha : a < C := zz_nge e2 eC2 (by omega) (by omega) c_12
        refine zj_iconst (v := 0) (pc := 15) K dX8_laysBetter_15 (by decide) ?_
        refine zj_istore_n (i := 3) (pc := 16) K dX8_laysBetter_16 rfl rfl rfl rfl ?_
        exact lpX ha (J + 1) 0 _ _ (by omega) (by omega) rfl zf1 zf2 rfl
  show zj_J E Γ 6 0 [(0, .ref (E.2.1 78))] [] h g
  refine zj_aload_n (i := 0) (pc := 0) K dX8_laysBetter_0 rfl rfl ?_
  refine zj_cV0I (pc := 1) K lm_X8_211 hs_M (m_X8_evennessNow eJ hJ eC hC) (by decide) rfl (Nat.le_of_ble_eq_true rfl) dX8_laysBetter_1 ?_
  refine zj_istore_n (i := 1) (pc := 4) K dX8_laysBetter_4 rfl rfl rfl rfl ?_
  refine zj_iconst (v := 0) (pc := 5) K dX8_laysBetter_5 (by decide) ?_
  refine zj_istore_n (i := 2) (pc := 6) K dX8_laysBetter_6 rfl rfl rfl rfl ?_
  exact loop (C + 1) 0 _ _ h (by omega) (by omega) rfl rfl (fun _ _ => rfl) (fun _ _ => rfl) rfl
