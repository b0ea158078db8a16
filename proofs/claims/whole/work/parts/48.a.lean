section ZOG
variable {τ : zτ} {δ : zδ} {x y : Int32} {c j : Nat}
theorem zg_rec_n (hx : ¬ (zz_in x τ.2.1 = true ∧ δ.2.2.1 x.toNatClampNeg = 1 ∧ zz_in y τ.1 = true ∧ bt (δ.2.2.2.1 x.toNatClampNeg) y.toNatClampNeg = true)) : zo_rec τ δ x y = none := by rw [zo_rec, if_neg hx]
theorem zg_rec_s (ex : x = nI c) (hc : c < 14) (ey : y = nI j) (hj : j < 9) (hx : zz_in x τ.2.1 = true) (hs : δ.2.2.1 c = 1) (hy : zz_in y τ.1 = true) (hb : bt (δ.2.2.2.1 c) j = true) : zo_rec τ δ x y =
    some (zo_rr (zr_b (zθo τ (zo_bar δ c j)) δ.2.2.2.1 c j).1, (δ.1, δ.2.1, upd δ.2.2.1 c (zr_st (zr_b (zθo τ (zo_bar δ c j)) δ.2.2.2.1 c j).1), upd δ.2.2.2.1 c (zr_si (δ.2.2.2.1 c) j (zr_b (zθo τ (zo_bar δ c j)) δ.2.2.2.1 c j).1), upd δ.2.2.2.2 c (δ.2.2.2.2 c ||| zz_bit j))) := by
  subst ex; subst ey
  rw [zo_rec, nI_clamp (by omega), nI_clamp (by omega), if_pos ⟨hx, hs, hy, hb⟩]; rfl
theorem zg_leave_n (hx : ¬ (zz_in y τ.1 = true ∧ bt δ.2.1 y.toNatClampNeg = false)) : zo_leave τ δ y = none := by rw [zo_leave, if_neg hx]
theorem zg_leave_s (ey : y = nI j) (hj : j < 9) (hy : zz_in y τ.1 = true) (hb : bt δ.2.1 j = false) : zo_leave τ δ y =
    some (nI (zr_all (zθo τ (zo_away δ (δ.2.1 ||| zz_bit j))) j δ.2.2.1 δ.2.2.2.1 τ.2.1).1, (δ.1, δ.2.1 ||| zz_bit j, (zr_all (zθo τ (zo_away δ (δ.2.1 ||| zz_bit j))) j δ.2.2.1 δ.2.2.2.1 τ.2.1).2.1, (zr_all (zθo τ (zo_away δ (δ.2.1 ||| zz_bit j))) j δ.2.2.1 δ.2.2.2.1 τ.2.1).2.2, δ.2.2.2.2)) := by
  subst ey
  rw [zo_leave, nI_clamp (by omega), if_pos ⟨hy, hb⟩]
theorem zg_come_n (hx : ¬ (zz_in y τ.1 = true ∧ bt δ.2.1 y.toNatClampNeg = true)) : zo_come τ δ y = none := by rw [zo_come, if_neg hx]
theorem zg_come_s (ey : y = nI j) (hj : j < 9) (hy : zz_in y τ.1 = true) (hb : bt δ.2.1 j = true) : zo_come τ δ y = some (nI (zz_pop (zr_stay δ.2.1 j)), zo_away δ (zr_stay δ.2.1 j)) := by
  subst ey
  rw [zo_come, nI_clamp (by omega), if_pos ⟨hy, hb⟩]
theorem zg_hear_n (hx : ¬ (zz_in x τ.2.1 = true ∧ δ.2.2.1 x.toNatClampNeg = 1)) : zo_hear τ δ x = none := by rw [zo_hear, if_neg hx]
theorem zg_hear_s (ex : x = nI c) (hc : c < 14) (hx : zz_in x τ.2.1 = true) (hs : δ.2.2.1 c = 1) : zo_hear τ δ x = some (nI (zc_cnt (fun c' => decide (upd δ.2.2.1 c 2 c' = 2)) τ.2.1), (δ.1, δ.2.1, upd δ.2.2.1 c 2, δ.2.2.2)) := by
  subst ex
  rw [zo_hear, nI_clamp (by omega), if_pos ⟨hx, hs⟩]
end ZOG
theorem zm_mk_k2 {C ct : Nat} {h q0 q1 q3 : zj_H} {δ' : zδ} (ws : zm_same h q0) (w00 : q0 78 0 = 0) (zs1 : ∀ a, a ≠ 78 → a ≠ 83 → q1 a = q0 a) (zs2 : ∀ b, b ≠ 17 → q1 78 b = q0 78 b) (zs3 : zm_keep q0 q1 ct (q0 80)) (v : ∀ a, a ≠ 80 → q3 a = q1 a)
    (hst : ∀ i, i < 47 → i ≠ 5 → i ≠ 17 → q3 80 i = h 80 i) (hδ : zδe C (zδM q3 80) δ') : zm_fr h q3 ∧ zm_stat h q3 ∧ zδe C (zδM q3 80) δ' ∧ zm_keep h q3 ct (h 80) := by
  have e78 := v 78 (by decide)
  refine ⟨⟨fun a ha => by rw [v a (by omega), zs1 a (by omega) (by omega)]; exact ws.1 a ha, by rw [v 79 (by decide), zs1 79 (by decide) (by decide)]; exact ws.2.1, by rw [e78, zs2 2 (by decide)]; exact ws.2.2.2.2.1, by rw [e78, zs2 8 (by decide)]; exact ws.2.2.2.2.2.1, by rw [e78, zs2 0 (by decide)]; exact w00⟩, hst, hδ, ?_⟩
  refine ⟨by rw [e78]; exact zs3.1, fun r i hr hi => ?_⟩
  rw [v 83 (by decide), zs3.2 r i hr hi, ws.2.2.1, ws.2.2.2.1]
theorem zm_bar {h q : zj_H} {c : Nat} {b : Int32} (hc : c < 14) (e : q 80 = upd (h 80) (47 + c) b) : (∀ i, i < 47 → q 80 i = h 80 i) ∧ zmT q 80 = zmT h 80 ∧ zmB q 80 = zmB h 80 ∧ zmX q 80 = upd (zmX h 80) c b := by
  refine ⟨fun i hi => by rw [e, zz_upd_ne _ _ (by omega)], funext fun k => ?_, funext fun k => ?_, funext fun k => ?_⟩
  · show q 80 (75 + k) = h 80 (75 + k)
    rw [e, zz_upd_ne _ _ (by omega)]
  · show q 80 (61 + k) = h 80 (61 + k)
    rw [e, zz_upd_ne _ _ (by omega)]
  · show q 80 (47 + k) = upd (zmX h 80) c b k
    rw [e]
    by_cases ek : k = c
    · rw [ek, zz_upd_at, zz_upd_at]
    · rw [zz_upd_ne _ _ (by omega), zz_upd_ne _ _ ek]; rfl
theorem zm_away {h q : zj_H} {w : Int32} (e : q 80 = upd (h 80) 17 w) : (∀ i, i ≠ 17 → q 80 i = h 80 i) ∧ zδM q 80 = zo_away (zδM h 80) w := by
  have e1 : ∀ i, i ≠ 17 → q 80 i = h 80 i := fun i hi => by rw [e, zz_upd_ne _ _ hi]
  refine ⟨e1, ?_⟩
  have eT : zmT q 80 = zmT h 80 := funext fun k => e1 (75 + k) (by omega)
  have eB : zmB q 80 = zmB h 80 := funext fun k => e1 (61 + k) (by omega)
  have eX : zmX q 80 = zmX h 80 := funext fun k => e1 (47 + k) (by omega)
  unfold zδM zo_away
  rw [eT, eB, eX, e1 5 (by decide), e, zz_upd_at]
theorem zm_xor {b : Int32} {j : Nat} (hj : j < 9) (h : bt b j = true) : b ^^^ zz_bit j = zr_stay b j := by
  refine b_ext (fun i hi => ?_)
  unfold zr_stay
  rw [b_xor, b_and, b_xor, zz_bt_bit (by omega), b_m1 i hi]
  by_cases e : i = j
  · rw [e, h]; simp
  · rw [decide_eq_false e]; simp
theorem zm_stT {h q : zj_H} {C c : Nat} {t : Int32} (hc : c < 14) (e : q 80 = upd (h 80) (75 + c) t) : (∀ i, i < 75 → q 80 i = h 80 i) ∧ zmT q 80 = upd (zmT h 80) c t := by
  refine ⟨fun i hi => by rw [e, zz_upd_ne _ _ (by omega)], funext fun k => ?_⟩
  show q 80 (75 + k) = upd (zmT h 80) c t k
  rw [e]
  by_cases ek : k = c
  · rw [ek, zz_upd_at, zz_upd_at]
  · rw [zz_upd_ne _ _ (by omega), zz_upd_ne _ _ ek]; rfl
set_option maxHeartbeats 4000000 in
set_option maxRecDepth 20000 in
theorem m_X8_recuse {l : Launch} {E : zj_E} {h : zj_H} {g : zj_G} {J C u : Nat} (eJ : h 80 7 = nI J) (hJ : J ≤ 9) (eC : h 80 18 = nI C) (hC : C ≤ 14) {ct : Nat} (ec : h 78 17 = nI ct) (hct : ct ≤ 10) {x y : Int32} : zj_M l E yX8_recuse cX8_recuse 3 (some .int) 5 [.ref (E.2.1 78), .int x, .int y] h g (fun v h' g' => g' = g ∧ zm_fr h h' ∧ zm_post C h h' ct v (zo_rec (zτM h 80 J C u) (zδM h 80) x y)) := by
  refine zj_M.of RX8 (by decide) rfl (Nat.le_of_ble_eq_true rfl) ?_
  intro Γ hΓ K Rt
  subst hΓ
  show zj_J E Γ 3 0 [(0, .ref (E.2.1 78)), (1, .int x), (2, .int y)] [] h g
  refine zj_aload_n (i := 0) (pc := 0) K dX8_recuse_0 rfl rfl ?_
  refine zj_iconst (v := 0) (pc := 1) K dX8_recuse_1 (by decide) ?_
  refine zj_putI (pc := 2) K lf_X8_1 hs_M rfl dX8_recuse_2 ?_
  refine zj_hn (fun q0 eq0 => ?_)
  have w0 : ∀ a, a ≠ 78 → q0 a = h a := fun a a1 => by rw [eq0, zj_s_ne _ _ a1]
  have wb : ∀ b, b ≠ 0 → q0 78 b = h 78 b := fun b b1 => by rw [eq0, zj_s_eq, zz_upd_ne _ _ b1]
  have w00 : q0 78 0 = 0 := by rw [eq0, zj_s_eq, zz_upd_at]
  have ws : zm_same h q0 := by rw [eq0]; exact zm_same_0 h 0
  have e80 : q0 80 = h 80 := w0 80 (by decide)
  have eJ0 : q0 80 7 = nI J := by rw [e80]; exact eJ
  have eC0 : q0 80 18 = nI C := by rw [e80]; exact eC
  have eτ : zτM q0 80 J C u = zτM h 80 J C u := zτM_congr e80
  have eδ : zδM q0 80 = zδM h 80 := zδM_congr e80
  clear eq0
  refine zj_aload_n (i := 0) (pc := 5) K dX8_recuse_5 rfl rfl ?_
  refine zj_iload_n (i := 1) (pc := 6) K dX8_recuse_6 rfl rfl ?_
  refine zj_cV1I (pc := 7) K lm_X8_164 hs_M (m_X8_isCase eC0 (by omega)) (by decide) rfl (Nat.le_of_ble_eq_true rfl) dX8_recuse_7 ?_
  refine zj_if_eq (tgt := 50) (pc := 10) K dX8_recuse_10 (by decide) (fun c_10 => ?_) (fun c_10 => ?_)
  · replace c_10 := zz_i0.mp c_10
    have hno : zo_rec (zτM h 80 J C u) (zδM h 80) x y = none := zg_rec_n (fun z => absurd (show zz_in x C = true from z.1) (by rw [c_10]; decide))
    refine zj_iconst (v := -1) (pc := 50) K dX8_recuse_50 (by decide) ?_
    exact zj_iret K Rt dX8_recuse_51 (⟨rfl, (zm_same_fr ws w00).1, by rw [hno]; exact ⟨rfl, (zm_same_fr ws w00).2⟩⟩)
  · replace c_10 := zz_n0.mp c_10
    obtain ⟨c, hc, ei⟩ := zz_in_ex c_10 (by omega)
    have hcl : x.toNatClampNeg = c := by rw [ei]; exact nI_clamp (by omega)
    refine zj_aload_n (i := 0) (pc := 13) K dX8_recuse_13 rfl rfl ?_
    refine zj_iload_n (i := 2) (pc := 14) K dX8_recuse_14 rfl rfl ?_
    refine zj_cV1I (pc := 15) K lm_X8_154 hs_M (m_X8_isJudge eJ0 (by omega)) (by decide) rfl (Nat.le_of_ble_eq_true rfl) dX8_recuse_15 ?_
    refine zj_if_eq (tgt := 50) (pc := 18) K dX8_recuse_18 (by decide) (fun c_18 => ?_) (fun c_18 => ?_)
    · replace c_18 := zz_i0.mp c_18
      have hno : zo_rec (zτM h 80 J C u) (zδM h 80) x y = none := zg_rec_n (fun z => absurd (show zz_in y J = true from z.2.2.1) (by rw [c_18]; decide))
      refine zj_iconst (v := -1) (pc := 50) K dX8_recuse_50 (by decide) ?_
      exact zj_iret K Rt dX8_recuse_51 (⟨rfl, (zm_same_fr ws w00).1, by rw [hno]; exact ⟨rfl, (zm_same_fr ws w00).2⟩⟩)
    · replace c_18 := zz_n0.mp c_18
      obtain ⟨j, hj, ej⟩ := zz_in_ex c_18 (by omega)
      have hcy : y.toNatClampNeg = j := by rw [ej]; exact nI_clamp (by omega)
      refine zj_aload_n (i := 0) (pc := 21) K dX8_recuse_21 rfl rfl ?_
      refine zj_getR (pc := 22) K lf_X8_64 hs_M rfl dX8_recuse_22 ?_
      refine zj_bipush (v := 75) (pc := 25) K dX8_recuse_25 (by decide) ?_
      refine zj_iload_n (i := 1) (pc := 27) K dX8_recuse_27 rfl rfl ?_
      refine zj_iadd (pc := 28) K dX8_recuse_28 ?_
      refine zj_ald (j := 75 + c) (pc := 29) K hs_Mnow (zm_ix rfl ei) (by omega) (by first | decide | omega) dX8_recuse_29 ?_
      refine zj_iconst (v := 1) (pc := 30) K dX8_recuse_30 (by decide) ?_
      refine zj_icmp_ne (tgt := 50) (pc := 31) K dX8_recuse_31 (by decide) (fun c_31 => ?_) (fun c_31 => ?_)
      · rw [e80] at c_31
        have hno : zo_rec (zτM h 80 J C u) (zδM h 80) x y = none := zg_rec_n (fun z => c_31 (by have := z.2.1; rw [hcl] at this; exact this))
        refine zj_iconst (v := -1) (pc := 50) K dX8_recuse_50 (by decide) ?_
        exact zj_iret K Rt dX8_recuse_51 (⟨rfl, (zm_same_fr ws w00).1, by rw [hno]; exact ⟨rfl, (zm_same_fr ws w00).2⟩⟩)
      · rw [e80] at c_31
        refine zj_aload_n (i := 0) (pc := 34) K dX8_recuse_34 rfl rfl ?_
        refine zj_getR (pc := 35) K lf_X8_64 hs_M rfl dX8_recuse_35 ?_
        refine zj_bipush (v := 61) (pc := 38) K dX8_recuse_38 (by decide) ?_
        refine zj_iload_n (i := 1) (pc := 40) K dX8_recuse_40 rfl rfl ?_
        refine zj_iadd (pc := 41) K dX8_recuse_41 ?_
        refine zj_ald (j := 61 + c) (pc := 42) K hs_Mnow (zm_ix rfl ei) (by omega) (by first | decide | omega) dX8_recuse_42 ?_
        refine zj_iload_n (i := 2) (pc := 43) K dX8_recuse_43 rfl rfl ?_
        refine zj_cS2I (pc := 44) K lm_X8_105 (m_X8_has ej (by omega)) (by decide) rfl (Nat.le_of_ble_eq_true rfl) dX8_recuse_44 ?_
        refine zj_if_ne (tgt := 52) (pc := 47) K dX8_recuse_47 (by decide) (fun c_47 => ?_) (fun c_47 => ?_)
        · replace c_47 := zz_n0.mp c_47
          rw [e80] at c_47
          refine zj_aload_n (i := 0) (pc := 52) K dX8_recuse_52 rfl rfl ?_
          refine zj_cV0P (pc := 53) K lm_X8_193 hs_M (m_X8_snap (ct := ct) (by rw [wb 17 (by decide)]; exact ec) hct) (by decide) rfl (Nat.le_of_ble_eq_true rfl) dX8_recuse_53 (fun v q1 g1 hp => ?_)
          obtain ⟨rfl, rfl, ⟨zs1, zs2⟩, zs3⟩ := hp
          have f80 : q1 80 = h 80 := by rw [zs1 80 (by decide) (by decide)]; exact e80
          refine zj_aload_n (i := 0) (pc := 56) K dX8_recuse_56 rfl rfl ?_
          refine zj_getR (pc := 57) K lf_X8_64 hs_M rfl dX8_recuse_57 ?_
          refine zj_bipush (v := 47) (pc := 60) K dX8_recuse_60 (by decide) ?_
          refine zj_iload_n (i := 1) (pc := 62) K dX8_recuse_62 rfl rfl ?_
          refine zj_iadd (pc := 63) K dX8_recuse_63 ?_
          refine zj_dup2 (pc := 64) K dX8_recuse_64 rfl rfl ?_
          refine zj_ald (j := 47 + c) (pc := 65) K hs_Mnow (zm_ix rfl ei) (by omega) (by first | decide | omega) dX8_recuse_65 ?_
          refine zj_iconst (v := 1) (pc := 66) K dX8_recuse_66 (by decide) ?_
          refine zj_iload_n (i := 2) (pc := 67) K dX8_recuse_67 rfl rfl ?_
          refine zj_ishl (pc := 68) K dX8_recuse_68 ?_
          refine zj_ior (pc := 69) K dX8_recuse_69 ?_
          refine zj_ast (j := 47 + c) (pc := 70) K hs_Mnow (zm_ix rfl ei) (by omega) (by first | decide | omega) dX8_recuse_70 ?_
          refine zj_hn (fun q2 eq2 => ?_)
          have x1 : ∀ a, a ≠ 80 → q2 a = q1 a := fun a a1 => by rw [eq2, zj_s_ne _ _ a1]
          have x80 : q2 80 = upd (h 80) (47 + c) (h 80 (47 + c) ||| zz_bit j) := by rw [eq2, zj_s_eq, f80, ej]; rfl
          clear eq2
          obtain ⟨y1, y2, y3, y4⟩ := zm_bar (by omega) x80
          have eJ2 : q2 80 7 = nI J := by rw [y1 7 (by decide)]; exact eJ
          have eC2 : q2 80 18 = nI C := by rw [y1 18 (by decide)]; exact eC
          have eδ2 : zδM q2 80 = zo_bar (zδM h 80) c j := by
            unfold zδM zo_bar
            rw [y1 5 (by decide), y1 17 (by decide), y2, y3, y4]; rfl
          have hR : zr_b (zθo (zτM q2 80 J C u) (zδM q2 80)) (zmB q2 80) c j = (zr_b (zθo (zτM h 80 J C u) (zo_bar (zδM h 80) c j)) (zmB h 80) c j) := by
            rw [eδ2, y3]
            exact zr_b_e (zθo_e (zτM_e hJ hC (fun i h1 _ _ => y1 i h1)) zδe.rf hc) hc (fun _ _ => rfl)
          refine zj_aload_n (i := 0) (pc := 71) K dX8_recuse_71 rfl rfl ?_
          refine zj_iload_n (i := 1) (pc := 72) K dX8_recuse_72 rfl rfl ?_
          refine zj_iload_n (i := 2) (pc := 73) K dX8_recuse_73 rfl rfl ?_
          refine zj_cV2P (pc := 74) K lm_X8_208 hs_M (m_X8_repairs (J := J) (C := C) (u := u) (c := c) (gg := j) eJ2 hJ eC2 hC ei ej (by omega) (by omega) (by rw [x80, zz_upd_ne _ _ (by omega)]; exact c_31)) (by decide) rfl (Nat.le_of_ble_eq_true rfl) dX8_recuse_74 (fun v q3 g3 hp => ?_)
          obtain ⟨rfl, rfl, zu1, zu2⟩ := hp
          rw [hR] at zu2
          refine zj_top (x' := zo_rr (zr_b (zθo (zτM h 80 J C u) (zo_bar (zδM h 80) c j)) (zmB h 80) c j).1) (by rw [hR]) ?_
          obtain ⟨hst0, hδ0, -⟩ := zm_lay hC (by omega) zu2
          have hst : ∀ i, i < 47 → i ≠ 5 → i ≠ 17 → q3 80 i = h 80 i := fun i h1 h2 _ => by rw [hst0 i h1 h2]; exact y1 i h1
          have hye := zg_rec_s (τ := (zτM h 80 J C u)) (δ := (zδM h 80)) ei (by omega) ej (by omega) c_10 c_31 c_18 c_47
          rw [y1 5 (by decide), y1 17 (by decide), y2, y3, y4, show q2 80 (61 + c) = h 80 (61 + c) by rw [x80, zz_upd_ne _ _ (by omega)]] at hδ0
          have hkp := zm_mk_k2 ws w00 zs1 zs2 zs3 (fun a a1 => by rw [zu1 a a1]; exact x1 a a1) hst hδ0
          exact zj_iret K Rt dX8_recuse_77 (⟨rfl, hkp.1, by rw [hye]; exact ⟨rfl, hkp.2⟩⟩)
        · replace c_47 := zz_i0.mp c_47
          rw [e80] at c_47
          have hno : zo_rec (zτM h 80 J C u) (zδM h 80) x y = none := zg_rec_n (fun z => by have z4 := z.2.2.2; rw [hcl, hcy, show (zδM h 80).2.2.2.1 c = h 80 (61 + c) from rfl, c_47] at z4; cases z4)
          refine zj_iconst (v := -1) (pc := 50) K dX8_recuse_50 (by decide) ?_
          exact zj_iret K Rt dX8_recuse_51 (⟨rfl, (zm_same_fr ws w00).1, by rw [hno]; exact ⟨rfl, (zm_same_fr ws w00).2⟩⟩)

set_option maxHeartbeats 4000000 in
set_option maxRecDepth 20000 in
theorem m_X8_leave {l : Launch} {E : zj_E} {h : zj_H} {g : zj_G} {J C u : Nat} (eJ : h 80 7 = nI J) (hJ : J ≤ 9) (eC : h 80 18 = nI C) (hC : C ≤ 14) {ct : Nat} (ec : h 78 17 = nI ct) (hct : ct ≤ 10) {y : Int32} : zj_M l E yX8_leave cX8_leave 4 (some .int) 5 [.ref (E.2.1 78), .int y] h g (fun v h' g' => g' = g ∧ zm_fr h h' ∧ zm_post C h h' ct v (zo_leave (zτM h 80 J C u) (zδM h 80) y)) := by
  refine zj_M.of RX8 (by decide) rfl (Nat.le_of_ble_eq_true rfl) ?_
  intro Γ hΓ K Rt
  subst hΓ
  have loop : ∀ (qa : zj_H) (j : Nat), j < J → y = nI j → (∀ i, i ≠ 17 → qa 80 i = h 80 i) → zδM qa 80 = zo_away (zδM h 80) (h 80 17 ||| zz_bit j) → zz_in y J = true → bt (h 80 17) j = false → (∀ q3 : zj_H, (∀ a, a ≠ 80 → q3 a = qa a) → (∀ i, i < 47 → i ≠ 5 → i ≠ 17 → q3 80 i = h 80 i) → ∀ δ', zδe C (zδM q3 80) δ' → zm_fr h q3 ∧ zm_stat h q3 ∧ zδe C (zδM q3 80) δ' ∧ zm_keep h q3 ct (h 80)) →
      ∀ (n i : Nat) (x2 x3 : Int32) (q : zj_H), C + 1 ≤ i + n → i ≤ C → x2 = nI (zr_all (zθo (zτM qa 80 J C u) (zδM qa 80)) j (zmT qa 80) (zmB qa 80) i).1 → x3 = nI i → (∀ a, a ≠ 80 → q a = qa a) → (∀ k, k < 61 → q 80 k = qa 80 k) → (∀ k, k < C → q 80 (75 + k) = (zr_all (zθo (zτM qa 80 J C u) (zδM qa 80)) j (zmT qa 80) (zmB qa 80) i).2.1 k) → (∀ k, k < C → q 80 (61 + k) = (zr_all (zθo (zτM qa 80 J C u) (zδM qa 80)) j (zmT qa 80) (zmB qa 80) i).2.2 k) → zj_J E Γ 4 50 [(0, .ref (E.2.1 78)), (1, .int y), (2, .int x2), (3, .int x3)] [] q g := by
    intro qa j hj ej hqa eδa hin hbt hfin n
    induction n with
    | zero => intro i x2 x3 q h1 h2; omega
    | succ n ih =>
      intro i x2 x3 q h1 h2 e2 e3 zf1 zf2 zf4 zf5
      have eC2 : q 80 18 = nI C := by rw [zf2 18 (by decide), hqa 18 (by decide)]; exact eC
      have eJ2 : q 80 7 = nI J := by rw [zf2 7 (by decide), hqa 7 (by decide)]; exact eJ
      refine zj_iload_n (i := 3) (pc := 50) K dX8_leave_50 rfl rfl ?_
      refine zj_aload_n (i := 0) (pc := 51) K dX8_leave_51 rfl rfl ?_
      refine zj_cV0I (pc := 52) K lm_X8_136 hs_M (m_X8_cases) (by decide) rfl (Nat.le_of_ble_eq_true rfl) dX8_leave_52 ?_
      refine zj_icmp_ge (tgt := 107) (pc := 55) K dX8_leave_55 (by decide) (fun c_55 => ?_) (fun c_55 => ?_)
      · have hi : i = C := Nat.le_antisymm h2 (zz_ge e3 eC2 (by omega) (by omega) c_55)
        refine zj_iload_n (i := 2) (pc := 107) K dX8_leave_107 rfl rfl ?_
        exact zj_iret K Rt dX8_leave_108 (by
          subst hi
          have hye := zg_leave_s (τ := zτM h 80 J i u) (δ := (zδM h 80)) ej (by omega) hin hbt
          have ha := zr_all_e (τ := zτM qa 80 J i u) (τ' := zτM h 80 J i u) (δ := zδM qa 80) (δ' := zo_away (zδM h 80) (h 80 17 ||| zz_bit j)) (g := j) (zτM_e hJ hC (fun k _ _ k3 => hqa k k3)) (by rw [eδa]; exact zδe.rf) (st := zmT qa 80) (st' := zmT h 80) (si := zmB qa 80) (si' := zmB h 80) (fun c _ => hqa (75 + c) (by omega)) (fun c _ => hqa (61 + c) (by omega)) i (Nat.le_refl _)
          have hδ : zδe i (zδM q 80) (h 80 5, (h 80 17 ||| zz_bit j), (zr_all (zθo (zτM h 80 J i u) (zo_away (zδM h 80) (h 80 17 ||| zz_bit j))) j (zmT h 80) (zmB h 80) i).2.1, (zr_all (zθo (zτM h 80 J i u) (zo_away (zδM h 80) (h 80 17 ||| zz_bit j))) j (zmT h 80) (zmB h 80) i).2.2, zmX h 80) := ⟨(zf2 5 (by decide)).trans (hqa 5 (by decide)), (zf2 17 (by decide)).trans (congrArg (fun d => d.2.1) eδa), fun k hk => (zf4 k hk).trans (ha.2.1 k hk), fun k hk => (zf5 k hk).trans (ha.2.2 k hk), fun k hk => (zf2 (47 + k) (by omega)).trans (hqa (47 + k) (by omega))⟩
          have hkp := hfin q zf1 (fun k k1 k2 k3 => (zf2 k (by omega)).trans (hqa k k3)) _ hδ
          exact ⟨rfl, hkp.1, by rw [hye]; exact ⟨by rw [e2, ha.1]; rfl, hkp.2⟩⟩)
      · have hi : i < C := zz_nge e3 eC2 (by omega) (by omega) c_55
        refine zj_aload_n (i := 0) (pc := 58) K dX8_leave_58 rfl rfl ?_
        refine zj_getR (pc := 59) K lf_X8_64 hs_M rfl dX8_leave_59 ?_
        refine zj_bipush (v := 75) (pc := 62) K dX8_leave_62 (by decide) ?_
        refine zj_iload_n (i := 3) (pc := 64) K dX8_leave_64 rfl rfl ?_
        refine zj_iadd (pc := 65) K dX8_leave_65 ?_
        refine zj_ald (j := 75 + i) (pc := 66) K hs_Mnow (zm_ix rfl e3) (by omega) (by first | decide | omega) dX8_leave_66 ?_
        refine zj_iconst (v := 1) (pc := 67) K dX8_leave_67 (by decide) ?_
        refine zj_icmp_ne (tgt := 101) (pc := 68) K dX8_leave_68 (by decide) (fun c_68 => ?_) (fun c_68 => ?_)
        · have hst1 := c_68
          rw [zf4 i hi] at c_68
          have hA : (zr_all (zθo (zτM qa 80 J C u) (zδM qa 80)) j (zmT qa 80) (zmB qa 80) (i + 1)) = (zr_all (zθo (zτM qa 80 J C u) (zδM qa 80)) j (zmT qa 80) (zmB qa 80) i) := by rw [zr_all, if_neg (fun z => c_68 z.1)]
          refine zj_iinc (v := 1) (pc := 101) K dX8_leave_101 rfl (by decide) rfl rfl rfl ?_
          refine zj_goto (tgt := 50) (pc := 104) K dX8_leave_104 (by decide) ?_
          refine zj_pick [0, 1, 2, 3] ?_
          first
          | exact ih (i + 1) _ _ _ (by omega) (by omega) (by rw [hA]; exact e2) (zz_up e3) zf1 zf2 (by rw [hA]; exact zf4) (by rw [hA]; exact zf5)
          | exact ih (i + 1) _ _ _ (by omega) (by omega) (by rw [hct1]; exact e2) (zz_up e3) zg1 zg2 zg4 zg5
          | exact ih (i + 1) _ _ _ (by omega) (by omega) (by rw [hct2]; exact zz_up e2) (zz_up e3) zg1 zg2 zg4 zg5
        · have hst1 := c_68
          rw [zf4 i hi] at c_68
          refine zj_aload_n (i := 0) (pc := 71) K dX8_leave_71 rfl rfl ?_
          refine zj_getR (pc := 72) K lf_X8_64 hs_M rfl dX8_leave_72 ?_
          refine zj_bipush (v := 61) (pc := 75) K dX8_leave_75 (by decide) ?_
          refine zj_iload_n (i := 3) (pc := 77) K dX8_leave_77 rfl rfl ?_
          refine zj_iadd (pc := 78) K dX8_leave_78 ?_
          refine zj_ald (j := 61 + i) (pc := 79) K hs_Mnow (zm_ix rfl e3) (by omega) (by first | decide | omega) dX8_leave_79 ?_
          refine zj_iload_n (i := 1) (pc := 80) K dX8_leave_80 rfl rfl ?_
          refine zj_cS2I (pc := 81) K lm_X8_105 (m_X8_has ej (by omega)) (by decide) rfl (Nat.le_of_ble_eq_true rfl) dX8_leave_81 ?_
          refine zj_if_eq (tgt := 101) (pc := 84) K dX8_leave_84 (by decide) (fun c_84 => ?_) (fun c_84 => ?_)
          · replace c_84 := zz_i0.mp c_84
            rw [zf5 i hi] at c_84
            have hA : (zr_all (zθo (zτM qa 80 J C u) (zδM qa 80)) j (zmT qa 80) (zmB qa 80) (i + 1)) = (zr_all (zθo (zτM qa 80 J C u) (zδM qa 80)) j (zmT qa 80) (zmB qa 80) i) := by rw [zr_all, if_neg (fun z => by have z2 := z.2; rw [c_84] at z2; cases z2)]
            refine zj_iinc (v := 1) (pc := 101) K dX8_leave_101 rfl (by decide) rfl rfl rfl ?_
            refine zj_goto (tgt := 50) (pc := 104) K dX8_leave_104 (by decide) ?_
            refine zj_pick [0, 1, 2, 3] ?_
            first
            | exact ih (i + 1) _ _ _ (by omega) (by omega) (by rw [hA]; exact e2) (zz_up e3) zf1 zf2 (by rw [hA]; exact zf4) (by rw [hA]; exact zf5)
            | exact ih (i + 1) _ _ _ (by omega) (by omega) (by rw [hct1]; exact e2) (zz_up e3) zg1 zg2 zg4 zg5
            | exact ih (i + 1) _ _ _ (by omega) (by omega) (by rw [hct2]; exact zz_up e2) (zz_up e3) zg1 zg2 zg4 zg5
          · replace c_84 := zz_n0.mp c_84
            rw [zf5 i hi] at c_84
            refine zj_aload_n (i := 0) (pc := 87) K dX8_leave_87 rfl rfl ?_
            refine zj_iload_n (i := 3) (pc := 88) K dX8_leave_88 rfl rfl ?_
            refine zj_iload_n (i := 1) (pc := 89) K dX8_leave_89 rfl rfl ?_
            refine zj_cV2P (pc := 90) K lm_X8_208 hs_M (m_X8_repairs (J := J) (C := C) (u := u) (c := i) (gg := j) eJ2 hJ eC2 hC e3 ej (by omega) (by omega) hst1) (by decide) rfl (Nat.le_of_ble_eq_true rfl) dX8_leave_90 (fun v q3 g3 hp => ?_)
            obtain ⟨rfl, rfl, zu1, zu2⟩ := hp
            have hR : zr_b (zθo (zτM q 80 J C u) (zδM q 80)) (zmB q 80) i j = (zr_b (zθo (zτM qa 80 J C u) (zδM qa 80)) (zr_all (zθo (zτM qa 80 J C u) (zδM qa 80)) j (zmT qa 80) (zmB qa 80) i).2.2 i j) := zr_b_e (zm_θe hJ hC (fun k h1 _ => zf2 k h1) (by omega)) hi (fun k hk => zf5 k hk)
            rw [hR, zf5 i hi] at zu2
            refine zj_top (x' := zo_rr (zr_b (zθo (zτM qa 80 J C u) (zδM qa 80)) (zr_all (zθo (zτM qa 80 J C u) (zδM qa 80)) j (zmT qa 80) (zmB qa 80) i).2.2 i j).1) (by rw [hR]) ?_
            have hB : (zr_all (zθo (zτM qa 80 J C u) (zδM qa 80)) j (zmT qa 80) (zmB qa 80) (i + 1)) = ((zr_all (zθo (zτM qa 80 J C u) (zδM qa 80)) j (zmT qa 80) (zmB qa 80) i).1 + (if (zr_b (zθo (zτM qa 80 J C u) (zδM qa 80)) (zr_all (zθo (zτM qa 80 J C u) (zδM qa 80)) j (zmT qa 80) (zmB qa 80) i).2.2 i j).1 = none then 0 else 1), upd (zr_all (zθo (zτM qa 80 J C u) (zδM qa 80)) j (zmT qa 80) (zmB qa 80) i).2.1 i (zr_st (zr_b (zθo (zτM qa 80 J C u) (zδM qa 80)) (zr_all (zθo (zτM qa 80 J C u) (zδM qa 80)) j (zmT qa 80) (zmB qa 80) i).2.2 i j).1), upd (zr_all (zθo (zτM qa 80 J C u) (zδM qa 80)) j (zmT qa 80) (zmB qa 80) i).2.2 i (zr_si ((zr_all (zθo (zτM qa 80 J C u) (zδM qa 80)) j (zmT qa 80) (zmB qa 80) i).2.2 i) j (zr_b (zθo (zτM qa 80 J C u) (zδM qa 80)) (zr_all (zθo (zτM qa 80 J C u) (zδM qa 80)) j (zmT qa 80) (zmB qa 80) i).2.2 i j).1)) := by rw [zr_all, if_pos ⟨c_68, c_84⟩]
            have zg1 : ∀ a, a ≠ 80 → q3 a = qa a := fun a a1 => by rw [zu1 a a1]; exact zf1 a a1
            have zg2 : ∀ k, k < 61 → q3 80 k = qa 80 k := fun k hk => by rw [zu2, zz_upd_self, zz_upd_ne _ _ (by omega), zz_upd_ne _ _ (by omega)]; exact zf2 k hk
            have zg4 : ∀ k, k < C → q3 80 (75 + k) = (zr_all (zθo (zτM qa 80 J C u) (zδM qa 80)) j (zmT qa 80) (zmB qa 80) (i + 1)).2.1 k := fun k hk => by
              rw [zu2, hB]
              by_cases ek : k = i
              · rw [ek, zz_upd_at]; exact (zz_upd_at _ _ _).symm
              · rw [zz_upd_self, zz_upd_ne _ _ (by omega), zz_upd_ne _ _ (by omega), zf4 k hk]; exact (zz_upd_ne _ _ ek).symm
            have zg5 : ∀ k, k < C → q3 80 (61 + k) = (zr_all (zθo (zτM qa 80 J C u) (zδM qa 80)) j (zmT qa 80) (zmB qa 80) (i + 1)).2.2 k := fun k hk => by
              rw [zu2, hB, zz_upd_self, zz_upd_ne _ _ (by omega)]
              by_cases ek : k = i
              · rw [ek, zz_upd_at]; exact (zz_upd_at _ _ _).symm
              · rw [zz_upd_ne _ _ (by omega), zf5 k hk]; exact (zz_upd_ne _ _ ek).symm
            refine zj_bipush (v := -2) (pc := 93) K dX8_leave_93 (by decide) ?_
            refine zj_icmp_eq (tgt := 101) (pc := 95) K dX8_leave_95 (by decide) (fun c_95 => ?_) (fun c_95 => ?_)
            · have hrn : (zr_b (zθo (zτM qa 80 J C u) (zδM qa 80)) (zr_all (zθo (zτM qa 80 J C u) (zδM qa 80)) j (zmT qa 80) (zmB qa 80) i).2.2 i j).1 = none := by
                cases hq : (zr_b (zθo (zτM qa 80 J C u) (zδM qa 80)) (zr_all (zθo (zτM qa 80 J C u) (zδM qa 80)) j (zmT qa 80) (zmB qa 80) i).2.2 i j).1 with
                | none => rfl
                | some f =>
                  exfalso
                  rw [hq] at c_95
                  have hf := (zr_best_lt hq).1
                  have hf : f < J := hf
                  have c_95 : nI f = -2 := c_95
                  have h3 := nI_toInt (n := f) (by omega)
                  rw [c_95] at h3
                  have h4 : (-2 : Int32).toInt = -2 := by decide
                  omega
              have hct1 : (zr_all (zθo (zτM qa 80 J C u) (zδM qa 80)) j (zmT qa 80) (zmB qa 80) (i + 1)).1 = (zr_all (zθo (zτM qa 80 J C u) (zδM qa 80)) j (zmT qa 80) (zmB qa 80) i).1 := by rw [hB, hrn]; rfl
              refine zj_iinc (v := 1) (pc := 101) K dX8_leave_101 rfl (by decide) rfl rfl rfl ?_
              refine zj_goto (tgt := 50) (pc := 104) K dX8_leave_104 (by decide) ?_
              refine zj_pick [0, 1, 2, 3] ?_
              first
              | exact ih (i + 1) _ _ _ (by omega) (by omega) (by rw [hA]; exact e2) (zz_up e3) zf1 zf2 (by rw [hA]; exact zf4) (by rw [hA]; exact zf5)
              | exact ih (i + 1) _ _ _ (by omega) (by omega) (by rw [hct1]; exact e2) (zz_up e3) zg1 zg2 zg4 zg5
              | exact ih (i + 1) _ _ _ (by omega) (by omega) (by rw [hct2]; exact zz_up e2) (zz_up e3) zg1 zg2 zg4 zg5
            · have hrs : ¬ (zr_b (zθo (zτM qa 80 J C u) (zδM qa 80)) (zr_all (zθo (zτM qa 80 J C u) (zδM qa 80)) j (zmT qa 80) (zmB qa 80) i).2.2 i j).1 = none := fun z => c_95 (by rw [z]; rfl)
              have hct2 : (zr_all (zθo (zτM qa 80 J C u) (zδM qa 80)) j (zmT qa 80) (zmB qa 80) (i + 1)).1 = (zr_all (zθo (zτM qa 80 J C u) (zδM qa 80)) j (zmT qa 80) (zmB qa 80) i).1 + 1 := by rw [hB, if_neg hrs]
              refine zj_iinc (v := 1) (pc := 98) K dX8_leave_98 rfl (by decide) rfl rfl rfl ?_
              refine zj_iinc (v := 1) (pc := 101) K dX8_leave_101 rfl (by decide) rfl rfl rfl ?_
              refine zj_goto (tgt := 50) (pc := 104) K dX8_leave_104 (by decide) ?_
              refine zj_pick [0, 1, 2, 3] ?_
              first
              | exact ih (i + 1) _ _ _ (by omega) (by omega) (by rw [hA]; exact e2) (zz_up e3) zf1 zf2 (by rw [hA]; exact zf4) (by rw [hA]; exact zf5)
              | exact ih (i + 1) _ _ _ (by omega) (by omega) (by rw [hct1]; exact e2) (zz_up e3) zg1 zg2 zg4 zg5
              | exact ih (i + 1) _ _ _ (by omega) (by omega) (by rw [hct2]; exact zz_up e2) (zz_up e3) zg1 zg2 zg4 zg5
  show zj_J E Γ 4 0 [(0, .ref (E.2.1 78)), (1, .int y)] [] h g
  refine zj_aload_n (i := 0) (pc := 0) K dX8_leave_0 rfl rfl ?_
  refine zj_iconst (v := 0) (pc := 1) K dX8_leave_1 (by decide) ?_
  refine zj_putI (pc := 2) K lf_X8_1 hs_M rfl dX8_leave_2 ?_
  refine zj_hn (fun q0 eq0 => ?_)
  have w0 : ∀ a, a ≠ 78 → q0 a = h a := fun a a1 => by rw [eq0, zj_s_ne _ _ a1]
  have wb : ∀ b, b ≠ 0 → q0 78 b = h 78 b := fun b b1 => by rw [eq0, zj_s_eq, zz_upd_ne _ _ b1]
  have w00 : q0 78 0 = 0 := by rw [eq0, zj_s_eq, zz_upd_at]
  have ws : zm_same h q0 := by rw [eq0]; exact zm_same_0 h 0
  have e80 : q0 80 = h 80 := w0 80 (by decide)
  have eJ0 : q0 80 7 = nI J := by rw [e80]; exact eJ
  have eC0 : q0 80 18 = nI C := by rw [e80]; exact eC
  have eτ : zτM q0 80 J C u = zτM h 80 J C u := zτM_congr e80
  have eδ : zδM q0 80 = zδM h 80 := zδM_congr e80
  clear eq0
  refine zj_aload_n (i := 0) (pc := 5) K dX8_leave_5 rfl rfl ?_
  refine zj_iload_n (i := 1) (pc := 6) K dX8_leave_6 rfl rfl ?_
  refine zj_cV1I (pc := 7) K lm_X8_154 hs_M (m_X8_isJudge eJ0 (by omega)) (by decide) rfl (Nat.le_of_ble_eq_true rfl) dX8_leave_7 ?_
  refine zj_if_eq (tgt := 27) (pc := 10) K dX8_leave_10 (by decide) (fun c_10 => ?_) (fun c_10 => ?_)
  · replace c_10 := zz_i0.mp c_10
    have hno : zo_leave (zτM h 80 J C u) (zδM h 80) y = none := zg_leave_n (fun z => absurd (show zz_in y J = true from z.1) (by rw [c_10]; decide))
    refine zj_iconst (v := -1) (pc := 27) K dX8_leave_27 (by decide) ?_
    exact zj_iret K Rt dX8_leave_28 (⟨rfl, (zm_same_fr ws w00).1, by rw [hno]; exact ⟨rfl, (zm_same_fr ws w00).2⟩⟩)
  · replace c_10 := zz_n0.mp c_10
    obtain ⟨j, hj, ej⟩ := zz_in_ex c_10 (by omega)
    have hcy : y.toNatClampNeg = j := by rw [ej]; exact nI_clamp (by omega)
    refine zj_aload_n (i := 0) (pc := 13) K dX8_leave_13 rfl rfl ?_
    refine zj_getR (pc := 14) K lf_X8_64 hs_M rfl dX8_leave_14 ?_
    refine zj_bipush (v := 17) (pc := 17) K dX8_leave_17 (by decide) ?_
    refine zj_ald (j := 17) (pc := 19) K hs_Mnow rfl (by decide) (by first | decide | omega) dX8_leave_19 ?_
    refine zj_iload_n (i := 1) (pc := 20) K dX8_leave_20 rfl rfl ?_
    refine zj_cS2I (pc := 21) K lm_X8_105 (m_X8_has ej (by omega)) (by decide) rfl (Nat.le_of_ble_eq_true rfl) dX8_leave_21 ?_
    refine zj_if_eq (tgt := 29) (pc := 24) K dX8_leave_24 (by decide) (fun c_24 => ?_) (fun c_24 => ?_)
    · replace c_24 := zz_i0.mp c_24
      rw [e80] at c_24
      refine zj_aload_n (i := 0) (pc := 29) K dX8_leave_29 rfl rfl ?_
      refine zj_cV0P (pc := 30) K lm_X8_193 hs_M (m_X8_snap (ct := ct) (by rw [wb 17 (by decide)]; exact ec) hct) (by decide) rfl (Nat.le_of_ble_eq_true rfl) dX8_leave_30 (fun v q1 g1 hp => ?_)
      obtain ⟨rfl, rfl, ⟨zs1, zs2⟩, zs3⟩ := hp
      have f80 : q1 80 = h 80 := by rw [zs1 80 (by decide) (by decide)]; exact e80
      refine zj_aload_n (i := 0) (pc := 33) K dX8_leave_33 rfl rfl ?_
      refine zj_getR (pc := 34) K lf_X8_64 hs_M rfl dX8_leave_34 ?_
      refine zj_bipush (v := 17) (pc := 37) K dX8_leave_37 (by decide) ?_
      refine zj_dup2 (pc := 39) K dX8_leave_39 rfl rfl ?_
      refine zj_ald (j := 17) (pc := 40) K hs_Mnow rfl (by decide) (by first | decide | omega) dX8_leave_40 ?_
      refine zj_iconst (v := 1) (pc := 41) K dX8_leave_41 (by decide) ?_
      refine zj_iload_n (i := 1) (pc := 42) K dX8_leave_42 rfl rfl ?_
      refine zj_ishl (pc := 43) K dX8_leave_43 ?_
      refine zj_ior (pc := 44) K dX8_leave_44 ?_
      refine zj_ast (j := 17) (pc := 45) K hs_Mnow rfl (by decide) (by first | decide | omega) dX8_leave_45 ?_
      refine zj_hn (fun qa eqa => ?_)
      have x1 : ∀ a, a ≠ 80 → qa a = q1 a := fun a a1 => by rw [eqa, zj_s_ne _ _ a1]
      have x80 : qa 80 = upd (h 80) 17 (h 80 17 ||| zz_bit j) := by rw [eqa, zj_s_eq, f80, ej]; rfl
      clear eqa
      obtain ⟨y1, y2⟩ := zm_away x80
      refine zj_iconst (v := 0) (pc := 46) K dX8_leave_46 (by decide) ?_
      refine zj_istore_n (i := 2) (pc := 47) K dX8_leave_47 rfl rfl rfl rfl ?_
      refine zj_iconst (v := 0) (pc := 48) K dX8_leave_48 (by decide) ?_
      refine zj_istore_n (i := 3) (pc := 49) K dX8_leave_49 rfl rfl rfl rfl ?_
      exact loop qa j hj ej y1 y2 c_10 c_24 (fun q3 u1 u2 δ2 u3 => zm_mk_k2 ws w00 zs1 zs2 zs3 (fun a a1 => by rw [u1 a a1]; exact x1 a a1) u2 u3) (C + 1) 0 _ _ qa (by omega) (by omega) rfl rfl (fun _ _ => rfl) (fun _ _ => rfl) (fun _ _ => rfl) (fun _ _ => rfl)
    · replace c_24 := zz_n0.mp c_24
      rw [e80] at c_24
      have hno : zo_leave (zτM h 80 J C u) (zδM h 80) y = none := zg_leave_n (fun z => by have z4 := z.2; rw [hcy, show (zδM h 80).2.1 = h 80 17 from rfl, c_24] at z4; cases z4)
      refine zj_iconst (v := -1) (pc := 27) K dX8_leave_27 (by decide) ?_
      exact zj_iret K Rt dX8_leave_28 (⟨rfl, (zm_same_fr ws w00).1, by rw [hno]; exact ⟨rfl, (zm_same_fr ws w00).2⟩⟩)

set_option maxHeartbeats 4000000 in
set_option maxRecDepth 20000 in
theorem m_X8_come {l : Launch} {E : zj_E} {h : zj_H} {g : zj_G} {J C u : Nat} (eJ : h 80 7 = nI J) (hJ : J ≤ 9) (eC : h 80 18 = nI C) (hC : C ≤ 14) {ct : Nat} (ec : h 78 17 = nI ct) (hct : ct ≤ 10) {y : Int32} {aw : Nat} (eaw : h 80 17 = nI aw) (haw : aw < 512) : zj_M l E yX8_come cX8_come 2 (some .int) 2 [.ref (E.2.1 78), .int y] h g (fun v h' g' => g' = g ∧ zm_fr h h' ∧ zm_post C h h' ct v (zo_come (zτM h 80 J C u) (zδM h 80) y)) := by
  refine zj_M.of RX8 (by decide) rfl (Nat.le_of_ble_eq_true rfl) ?_
  intro Γ hΓ K Rt
  subst hΓ
  show zj_J E Γ 2 0 [(0, .ref (E.2.1 78)), (1, .int y)] [] h g
  refine zj_aload_n (i := 0) (pc := 0) K dX8_come_0 rfl rfl ?_
  refine zj_iconst (v := 0) (pc := 1) K dX8_come_1 (by decide) ?_
  refine zj_putI (pc := 2) K lf_X8_1 hs_M rfl dX8_come_2 ?_
  refine zj_hn (fun q0 eq0 => ?_)
  have w0 : ∀ a, a ≠ 78 → q0 a = h a := fun a a1 => by rw [eq0, zj_s_ne _ _ a1]
  have wb : ∀ b, b ≠ 0 → q0 78 b = h 78 b := fun b b1 => by rw [eq0, zj_s_eq, zz_upd_ne _ _ b1]
  have w00 : q0 78 0 = 0 := by rw [eq0, zj_s_eq, zz_upd_at]
  have ws : zm_same h q0 := by rw [eq0]; exact zm_same_0 h 0
  have e80 : q0 80 = h 80 := w0 80 (by decide)
  have eJ0 : q0 80 7 = nI J := by rw [e80]; exact eJ
  have eC0 : q0 80 18 = nI C := by rw [e80]; exact eC
  have eτ : zτM q0 80 J C u = zτM h 80 J C u := zτM_congr e80
  have eδ : zδM q0 80 = zδM h 80 := zδM_congr e80
  clear eq0
  refine zj_aload_n (i := 0) (pc := 5) K dX8_come_5 rfl rfl ?_
  refine zj_iload_n (i := 1) (pc := 6) K dX8_come_6 rfl rfl ?_
  refine zj_cV1I (pc := 7) K lm_X8_154 hs_M (m_X8_isJudge eJ0 (by omega)) (by decide) rfl (Nat.le_of_ble_eq_true rfl) dX8_come_7 ?_
  refine zj_if_eq (tgt := 27) (pc := 10) K dX8_come_10 (by decide) (fun c_10 => ?_) (fun c_10 => ?_)
  · replace c_10 := zz_i0.mp c_10
    have hno : zo_come (zτM h 80 J C u) (zδM h 80) y = none := zg_come_n (fun z => absurd (show zz_in y J = true from z.1) (by rw [c_10]; decide))
    refine zj_iconst (v := -1) (pc := 27) K dX8_come_27 (by decide) ?_
    exact zj_iret K Rt dX8_come_28 (⟨rfl, (zm_same_fr ws w00).1, by rw [hno]; exact ⟨rfl, (zm_same_fr ws w00).2⟩⟩)
  · replace c_10 := zz_n0.mp c_10
    obtain ⟨j, hj, ej⟩ := zz_in_ex c_10 (by omega)
    have hcy : y.toNatClampNeg = j := by rw [ej]; exact nI_clamp (by omega)
    refine zj_aload_n (i := 0) (pc := 13) K dX8_come_13 rfl rfl ?_
    refine zj_getR (pc := 14) K lf_X8_64 hs_M rfl dX8_come_14 ?_
    refine zj_bipush (v := 17) (pc := 17) K dX8_come_17 (by decide) ?_
    refine zj_ald (j := 17) (pc := 19) K hs_Mnow rfl (by decide) (by first | decide | omega) dX8_come_19 ?_
    refine zj_iload_n (i := 1) (pc := 20) K dX8_come_20 rfl rfl ?_
    refine zj_cS2I (pc := 21) K lm_X8_105 (m_X8_has ej (by omega)) (by decide) rfl (Nat.le_of_ble_eq_true rfl) dX8_come_21 ?_
    refine zj_if_ne (tgt := 29) (pc := 24) K dX8_come_24 (by decide) (fun c_24 => ?_) (fun c_24 => ?_)
    · replace c_24 := zz_n0.mp c_24
      rw [e80] at c_24
      refine zj_aload_n (i := 0) (pc := 29) K dX8_come_29 rfl rfl ?_
      refine zj_cV0P (pc := 30) K lm_X8_193 hs_M (m_X8_snap (ct := ct) (by rw [wb 17 (by decide)]; exact ec) hct) (by decide) rfl (Nat.le_of_ble_eq_true rfl) dX8_come_30 (fun v q1 g1 hp => ?_)
      obtain ⟨rfl, rfl, ⟨zs1, zs2⟩, zs3⟩ := hp
      have f80 : q1 80 = h 80 := by rw [zs1 80 (by decide) (by decide)]; exact e80
      refine zj_aload_n (i := 0) (pc := 33) K dX8_come_33 rfl rfl ?_
      refine zj_getR (pc := 34) K lf_X8_64 hs_M rfl dX8_come_34 ?_
      refine zj_bipush (v := 17) (pc := 37) K dX8_come_37 (by decide) ?_
      refine zj_dup2 (pc := 39) K dX8_come_39 rfl rfl ?_
      refine zj_ald (j := 17) (pc := 40) K hs_Mnow rfl (by decide) (by first | decide | omega) dX8_come_40 ?_
      refine zj_iconst (v := 1) (pc := 41) K dX8_come_41 (by decide) ?_
      refine zj_iload_n (i := 1) (pc := 42) K dX8_come_42 rfl rfl ?_
      refine zj_ishl (pc := 43) K dX8_come_43 ?_
      refine zj_ixor (pc := 44) K dX8_come_44 ?_
      refine zj_ast (j := 17) (pc := 45) K hs_Mnow rfl (by decide) (by first | decide | omega) dX8_come_45 ?_
      refine zj_hn (fun qa eqa => ?_)
      have x1 : ∀ a, a ≠ 80 → qa a = q1 a := fun a a1 => by rw [eqa, zj_s_ne _ _ a1]
      have x80 : qa 80 = upd (h 80) 17 (zr_stay (h 80 17) j) := by rw [eqa, zj_s_eq, f80, ej, ← zm_xor (by omega) c_24]; rfl
      clear eqa
      obtain ⟨y1, y2⟩ := zm_away x80
      have e17 : qa 80 17 = zr_stay (h 80 17) j := by rw [x80, zz_upd_at]
      obtain ⟨mm, hmm, emm⟩ := zo_stay_512 eaw haw (show j < 9 by omega)
      have hye := zg_come_s (τ := (zτM h 80 J C u)) (δ := (zδM h 80)) ej (by omega) c_10 c_24
      have hkp := zm_mk_k2 (C := C) ws w00 zs1 zs2 zs3 x1 (fun i _ _ h3 => y1 i h3) (show zδe C (zδM qa 80) (zo_away (zδM h 80) (zr_stay (h 80 17) j)) by rw [y2]; exact zδe.rf)
      refine zj_aload_n (i := 0) (pc := 46) K dX8_come_46 rfl rfl ?_
      refine zj_getR (pc := 47) K lf_X8_64 hs_M rfl dX8_come_47 ?_
      refine zj_bipush (v := 17) (pc := 50) K dX8_come_50 (by decide) ?_
      refine zj_ald (j := 17) (pc := 52) K hs_Mnow rfl (by decide) (by first | decide | omega) dX8_come_52 ?_
      refine zj_cS1I (pc := 53) K lm_X8_187 (m_X8_bits (by rw [e17]; exact emm) (by omega)) (by decide) rfl (Nat.le_of_ble_eq_true rfl) dX8_come_53 ?_
      exact zj_iret K Rt dX8_come_56 (⟨rfl, hkp.1, by rw [hye]; exact ⟨by rw [e17]; rfl, hkp.2⟩⟩)
    · replace c_24 := zz_i0.mp c_24
      rw [e80] at c_24
      have hno : zo_come (zτM h 80 J C u) (zδM h 80) y = none := zg_come_n (fun z => by have z4 := z.2; rw [hcy, show (zδM h 80).2.1 = h 80 17 from rfl, c_24] at z4; cases z4)
      refine zj_iconst (v := -1) (pc := 27) K dX8_come_27 (by decide) ?_
      exact zj_iret K Rt dX8_come_28 (⟨rfl, (zm_same_fr ws w00).1, by rw [hno]; exact ⟨rfl, (zm_same_fr ws w00).2⟩⟩)

set_option maxHeartbeats 4000000 in
set_option maxRecDepth 20000 in
theorem m_X8_hear {l : Launch} {E : zj_E} {h : zj_H} {g : zj_G} {J C u : Nat} (eJ : h 80 7 = nI J) (hJ : J ≤ 9) (eC : h 80 18 = nI C) (hC : C ≤ 14) {ct : Nat} (ec : h 78 17 = nI ct) (hct : ct ≤ 10) {x : Int32} : zj_M l E yX8_hear cX8_hear 2 (some .int) 2 [.ref (E.2.1 78), .int x] h g (fun v h' g' => g' = g ∧ zm_fr h h' ∧ zm_post C h h' ct v (zo_hear (zτM h 80 J C u) (zδM h 80) x)) := by
  refine zj_M.of RX8 (by decide) rfl (Nat.le_of_ble_eq_true rfl) ?_
  intro Γ hΓ K Rt
  subst hΓ
  show zj_J E Γ 2 0 [(0, .ref (E.2.1 78)), (1, .int x)] [] h g
  refine zj_aload_n (i := 0) (pc := 0) K dX8_hear_0 rfl rfl ?_
  refine zj_iconst (v := 0) (pc := 1) K dX8_hear_1 (by decide) ?_
  refine zj_putI (pc := 2) K lf_X8_1 hs_M rfl dX8_hear_2 ?_
  refine zj_hn (fun q0 eq0 => ?_)
  have w0 : ∀ a, a ≠ 78 → q0 a = h a := fun a a1 => by rw [eq0, zj_s_ne _ _ a1]
  have wb : ∀ b, b ≠ 0 → q0 78 b = h 78 b := fun b b1 => by rw [eq0, zj_s_eq, zz_upd_ne _ _ b1]
  have w00 : q0 78 0 = 0 := by rw [eq0, zj_s_eq, zz_upd_at]
  have ws : zm_same h q0 := by rw [eq0]; exact zm_same_0 h 0
  have e80 : q0 80 = h 80 := w0 80 (by decide)
  have eJ0 : q0 80 7 = nI J := by rw [e80]; exact eJ
  have eC0 : q0 80 18 = nI C := by rw [e80]; exact eC
  have eτ : zτM q0 80 J C u = zτM h 80 J C u := zτM_congr e80
  have eδ : zδM q0 80 = zδM h 80 := zδM_congr e80
  clear eq0
  refine zj_aload_n (i := 0) (pc := 5) K dX8_hear_5 rfl rfl ?_
  refine zj_iload_n (i := 1) (pc := 6) K dX8_hear_6 rfl rfl ?_
  refine zj_cV1I (pc := 7) K lm_X8_164 hs_M (m_X8_isCase eC0 (by omega)) (by decide) rfl (Nat.le_of_ble_eq_true rfl) dX8_hear_7 ?_
  refine zj_if_eq (tgt := 26) (pc := 10) K dX8_hear_10 (by decide) (fun c_10 => ?_) (fun c_10 => ?_)
  · replace c_10 := zz_i0.mp c_10
    have hno : zo_hear (zτM h 80 J C u) (zδM h 80) x = none := zg_hear_n (fun z => absurd (show zz_in x C = true from z.1) (by rw [c_10]; decide))
    refine zj_iconst (v := -1) (pc := 26) K dX8_hear_26 (by decide) ?_
    exact zj_iret K Rt dX8_hear_27 (⟨rfl, (zm_same_fr ws w00).1, by rw [hno]; exact ⟨rfl, (zm_same_fr ws w00).2⟩⟩)
  · replace c_10 := zz_n0.mp c_10
    obtain ⟨c, hc, ei⟩ := zz_in_ex c_10 (by omega)
    have hcl : x.toNatClampNeg = c := by rw [ei]; exact nI_clamp (by omega)
    refine zj_aload_n (i := 0) (pc := 13) K dX8_hear_13 rfl rfl ?_
    refine zj_getR (pc := 14) K lf_X8_64 hs_M rfl dX8_hear_14 ?_
    refine zj_bipush (v := 75) (pc := 17) K dX8_hear_17 (by decide) ?_
    refine zj_iload_n (i := 1) (pc := 19) K dX8_hear_19 rfl rfl ?_
    refine zj_iadd (pc := 20) K dX8_hear_20 ?_
    refine zj_ald (j := 75 + c) (pc := 21) K hs_Mnow (zm_ix rfl ei) (by omega) (by first | decide | omega) dX8_hear_21 ?_
    refine zj_iconst (v := 1) (pc := 22) K dX8_hear_22 (by decide) ?_
    refine zj_icmp_eq (tgt := 28) (pc := 23) K dX8_hear_23 (by decide) (fun c_23 => ?_) (fun c_23 => ?_)
    · rw [e80] at c_23
      refine zj_aload_n (i := 0) (pc := 28) K dX8_hear_28 rfl rfl ?_
      refine zj_cV0P (pc := 29) K lm_X8_193 hs_M (m_X8_snap (ct := ct) (by rw [wb 17 (by decide)]; exact ec) hct) (by decide) rfl (Nat.le_of_ble_eq_true rfl) dX8_hear_29 (fun v q1 g1 hp => ?_)
      obtain ⟨rfl, rfl, ⟨zs1, zs2⟩, zs3⟩ := hp
      have f80 : q1 80 = h 80 := by rw [zs1 80 (by decide) (by decide)]; exact e80
      refine zj_aload_n (i := 0) (pc := 32) K dX8_hear_32 rfl rfl ?_
      refine zj_getR (pc := 33) K lf_X8_64 hs_M rfl dX8_hear_33 ?_
      refine zj_bipush (v := 75) (pc := 36) K dX8_hear_36 (by decide) ?_
      refine zj_iload_n (i := 1) (pc := 38) K dX8_hear_38 rfl rfl ?_
      refine zj_iadd (pc := 39) K dX8_hear_39 ?_
      refine zj_iconst (v := 2) (pc := 40) K dX8_hear_40 (by decide) ?_
      refine zj_ast (j := 75 + c) (pc := 41) K hs_Mnow (zm_ix rfl ei) (by omega) (by first | decide | omega) dX8_hear_41 ?_
      refine zj_hn (fun qa eqa => ?_)
      have x1 : ∀ a, a ≠ 80 → qa a = q1 a := fun a a1 => by rw [eqa, zj_s_ne _ _ a1]
      have x80 : qa 80 = upd (h 80) (75 + c) 2 := by rw [eqa, zj_s_eq, f80]
      clear eqa
      obtain ⟨y1, y2⟩ := zm_stT (C := C) (by omega) x80
      have hye := zg_hear_s (τ := (zτM h 80 J C u)) (δ := (zδM h 80)) ei (by omega) c_10 c_23
      have hδ : zδe C (zδM qa 80) (h 80 5, h 80 17, upd (zmT h 80) c 2, zmB h 80, zmX h 80) := ⟨y1 5 (by decide), y1 17 (by decide), fun k _ => congrFun y2 k, fun k _ => y1 (61 + k) (by omega), fun k _ => y1 (47 + k) (by omega)⟩
      have hkp := zm_mk_k2 (C := C) ws w00 zs1 zs2 zs3 x1 (fun i h1 _ _ => y1 i (by omega)) hδ
      refine zj_aload_n (i := 0) (pc := 42) K dX8_hear_42 rfl rfl ?_
      refine zj_iconst (v := 2) (pc := 43) K dX8_hear_43 (by decide) ?_
      refine zj_cV1I (pc := 44) K lm_X8_151 hs_M (m_X8_having (C := C) (by rw [y1 18 (by decide)]; exact eC) hC) (by decide) rfl (Nat.le_of_ble_eq_true rfl) dX8_hear_44 ?_
      exact zj_iret K Rt dX8_hear_47 (⟨rfl, hkp.1, by rw [hye]; exact ⟨by rw [show (fun c => decide (qa 80 (75 + c) = 2)) = (fun c' => decide (upd (zmT h 80) c 2 c' = 2)) from funext fun k => by rw [show qa 80 (75 + k) = upd (zmT h 80) c 2 k from congrFun y2 k]]; rfl, hkp.2⟩⟩)
    · rw [e80] at c_23
      have hno : zo_hear (zτM h 80 J C u) (zδM h 80) x = none := zg_hear_n (fun z => c_23 (by have := z.2; rw [hcl] at this; exact this))
      refine zj_iconst (v := -1) (pc := 26) K dX8_hear_26 (by decide) ?_
      exact zj_iret K Rt dX8_hear_27 (⟨rfl, (zm_same_fr ws w00).1, by rw [hno]; exact ⟨rfl, (zm_same_fr ws w00).2⟩⟩)
