section ZOM
variable {h : zj_H} {J C u : Nat} {x y : Int32} {c : Nat}
theorem zo_draw_Mn1 (hx : zz_in x C = false) : zo_draw (zτM h 80 J C u) (zδM h 80) x = none := by rw [zo_draw, if_neg (fun z => by have := z.1; rw [show zz_in x (zτM h 80 J C u).2.1 = false from hx] at this; cases this)]
theorem zo_draw_Mn2 (ex : x = nI c) (hc : c < 14) (hs : ¬ h 80 (75 + c) = 0) : zo_draw (zτM h 80 J C u) (zδM h 80) x = none := by
  rw [zo_draw, if_neg (fun z => hs (by have z2 := z.2.1; rw [ex, nI_clamp (by omega)] at z2; exact z2))]
theorem zo_draw_Mn3 (ex : x = nI c) (hc : c < 14) (hp : zd_pool (zθo (zτM h 80 J C u) (zδM h 80)) (zmB h 80) c = []) : zo_draw (zτM h 80 J C u) (zδM h 80) x = none := by
  rw [zo_draw, if_neg (fun z => z.2.2 (by rw [ex, nI_clamp (by omega)]; exact hp))]
theorem zo_draw_Ms (ex : x = nI c) (hc : c < 14) (hx : zz_in x C = true) (hs : h 80 (75 + c) = 0) (hp : zd_pool (zθo (zτM h 80 J C u) (zδM h 80)) (zmB h 80) c ≠ []) : zo_draw (zτM h 80 J C u) (zδM h 80) x =
    some ((zd_pool (zθo (zτM h 80 J C u) (zδM h 80)) (zmB h 80) c).getD (zp_ix (zd_seed (h 80 5)) (zd_pool (zθo (zτM h 80 J C u) (zδM h 80)) (zmB h 80) c).length) 0,
      (zd_seed (h 80 5), h 80 17, upd (zmT h 80) c 1, upd (zmB h 80) c ((zd_pool (zθo (zτM h 80 J C u) (zδM h 80)) (zmB h 80) c).getD (zp_ix (zd_seed (h 80 5)) (zd_pool (zθo (zτM h 80 J C u) (zδM h 80)) (zmB h 80) c).length) 0), zmX h 80)) := by
  subst ex
  rw [zo_draw, nI_clamp (by omega), if_pos ⟨hx, hs, hp⟩]; rfl
end ZOM
/-- a bench and a stage laid into a row -/
theorem zm_lay {h q : zj_H} {C c : Nat} {sd b t : Int32} (hC : C ≤ 14) (hc : c < 14) (e : q 80 = upd (upd (upd (h 80) 5 sd) (61 + c) b) (75 + c) t) : (∀ i, i < 47 → i ≠ 5 → q 80 i = h 80 i) ∧ zδe C (zδM q 80) (sd, h 80 17, upd (zmT h 80) c t, upd (zmB h 80) c b, zmX h 80) ∧ q 80 (61 + c) = b := by
  refine ⟨fun i h1 h2 => by rw [e, zz_upd_ne _ _ (by omega), zz_upd_ne _ _ (by omega), zz_upd_ne _ _ h2], ⟨?_, ?_, fun k hk => ?_, fun k hk => ?_, fun k hk => ?_⟩, by rw [e, zz_upd_ne _ _ (by omega), zz_upd_at]⟩
  · show q 80 5 = sd
    rw [e, zz_upd_ne _ _ (by omega), zz_upd_ne _ _ (by omega), zz_upd_at]
  · show q 80 17 = _
    rw [e, zz_upd_ne _ _ (by omega), zz_upd_ne _ _ (by omega), zz_upd_ne _ _ (by omega)]
  · show q 80 (75 + k) = upd (zmT h 80) c t k
    rw [e]
    by_cases ek : k = c
    · rw [ek, zz_upd_at, zz_upd_at]
    · rw [zz_upd_ne _ _ (by omega), zz_upd_ne _ _ (by omega), zz_upd_ne _ _ (by omega), zz_upd_ne _ _ ek]; rfl
  · show q 80 (61 + k) = upd (zmB h 80) c b k
    rw [e, zz_upd_ne _ _ (by omega)]
    by_cases ek : k = c
    · rw [ek, zz_upd_at, zz_upd_at]
    · rw [zz_upd_ne _ _ (by omega), zz_upd_ne _ _ (by omega), zz_upd_ne _ _ ek]; rfl
  · show q 80 (47 + k) = h 80 (47 + k)
    rw [e, zz_upd_ne _ _ (by omega), zz_upd_ne _ _ (by omega), zz_upd_ne _ _ (by omega)]
theorem zm_upd2 {f : Nat → Int32} {i k : Nat} {x v : Int32} (h : k ≠ i) (hv : f k = v) : upd (upd f i x) k v = upd f i x := by
  have e : upd f i x k = v := by rw [zz_upd_ne _ _ h]; exact hv
  rw [← e]; exact zz_upd_self _ _
theorem zm_same_fr {h q : zj_H} (hs : zm_same h q) (h0 : q 78 0 = 0) : zm_fr h q ∧ zm_stay h q := ⟨⟨hs.1, hs.2.1, hs.2.2.2.2.1, hs.2.2.2.2.2.1, h0⟩, fun i _ => by rw [hs.2.2.1], hs.2.2.2.1, hs.2.2.2.2.2.2⟩
set_option maxHeartbeats 4000000 in
set_option maxRecDepth 20000 in
theorem m_X8_draw {l : Launch} {E : zj_E} {h : zj_H} {g : zj_G} {J C u : Nat} (eJ : h 80 7 = nI J) (hJ : J ≤ 9) (eC : h 80 18 = nI C) (hC : C ≤ 14) (eU : h 80 0 = nI u) (hU : u ≤ 20) (hT : ∀ δ si c b, 0 ≤ zd_t (zθo (zτM h 80 J C u) δ) si c b) {ct : Nat} (ec : h 78 17 = nI ct) (hct : ct ≤ 10) {x : Int32} : zj_M l E yX8_draw cX8_draw 2 (some .int) 6 [.ref (E.2.1 78), .int x] h g (fun v h' g' => g' = g ∧ zm_fr h h' ∧ zm_post C h h' ct v (zo_draw (zτM h 80 J C u) (zδM h 80) x)) := by
  refine zj_M.of RX8 (by decide) rfl (Nat.le_of_ble_eq_true rfl) ?_
  intro Γ hΓ K Rt
  subst hΓ
  show zj_J E Γ 2 0 [(0, .ref (E.2.1 78)), (1, .int x)] [] h g
  refine zj_aload_n (i := 0) (pc := 0) K dX8_draw_0 rfl rfl ?_
  refine zj_iconst (v := 0) (pc := 1) K dX8_draw_1 (by decide) ?_
  refine zj_putI (pc := 2) K lf_X8_1 hs_M rfl dX8_draw_2 ?_
  refine zj_hn (fun q0 eq0 => ?_)
  have w0 : ∀ a, a ≠ 78 → q0 a = h a := fun a a1 => by rw [eq0, zj_s_ne _ _ a1]
  have wb : ∀ b, b ≠ 0 → q0 78 b = h 78 b := fun b b1 => by rw [eq0, zj_s_eq, zz_upd_ne _ _ b1]
  have w00 : q0 78 0 = 0 := by rw [eq0, zj_s_eq, zz_upd_at]
  have ws : zm_same h q0 := by rw [eq0]; exact zm_same_0 h 0
  have e80 : q0 80 = h 80 := w0 80 (by decide)
  have eJ0 : q0 80 7 = nI J := by rw [e80]; exact eJ
  have eC0 : q0 80 18 = nI C := by rw [e80]; exact eC
  have eτ : zτM q0 80 J C u = zτM h 80 J C u := zτM_congr e80
  have eδ : zδM q0 80 = zδM h 80 := zδM_congr e80
  clear eq0
  refine zj_aload_n (i := 0) (pc := 5) K dX8_draw_5 rfl rfl ?_
  refine zj_iload_n (i := 1) (pc := 6) K dX8_draw_6 rfl rfl ?_
  refine zj_cV1I (pc := 7) K lm_X8_164 hs_M (m_X8_isCase eC0 (by omega)) (by decide) rfl (Nat.le_of_ble_eq_true rfl) dX8_draw_7 ?_
  refine zj_if_eq (tgt := 25) (pc := 10) K dX8_draw_10 (by decide) (fun c_10 => ?_) (fun c_10 => ?_)
  · replace c_10 := zz_i0.mp c_10
    have hno : zo_draw (zτM h 80 J C u) (zδM h 80) x = none := zo_draw_Mn1 c_10
    refine zj_iconst (v := -1) (pc := 25) K dX8_draw_25 (by decide) ?_
    exact zj_iret K Rt dX8_draw_26 (⟨rfl, (zm_same_fr ws w00).1, by rw [hno]; exact ⟨rfl, (zm_same_fr ws w00).2⟩⟩)
  · replace c_10 := zz_n0.mp c_10
    obtain ⟨c, hc, ei⟩ := zz_in_ex c_10 (by omega)
    refine zj_aload_n (i := 0) (pc := 13) K dX8_draw_13 rfl rfl ?_
    refine zj_getR (pc := 14) K lf_X8_64 hs_M rfl dX8_draw_14 ?_
    refine zj_bipush (v := 75) (pc := 17) K dX8_draw_17 (by decide) ?_
    refine zj_iload_n (i := 1) (pc := 19) K dX8_draw_19 rfl rfl ?_
    refine zj_iadd (pc := 20) K dX8_draw_20 ?_
    refine zj_ald (j := 75 + c) (pc := 21) K hs_Mnow (zm_ix rfl ei) (by omega) (by first | decide | omega) dX8_draw_21 ?_
    refine zj_if_eq (tgt := 27) (pc := 22) K dX8_draw_22 (by decide) (fun c_22 => ?_) (fun c_22 => ?_)
    · rw [e80] at c_22
      refine zj_aload_n (i := 0) (pc := 27) K dX8_draw_27 rfl rfl ?_
      refine zj_getR (pc := 28) K lf_X8_64 hs_M rfl dX8_draw_28 ?_
      refine zj_iconst (v := 0) (pc := 31) K dX8_draw_31 (by decide) ?_
      refine zj_aload_n (i := 0) (pc := 32) K dX8_draw_32 rfl rfl ?_
      refine zj_getR (pc := 33) K lf_X8_76 hs_M rfl dX8_draw_33 ?_
      refine zj_iconst (v := 0) (pc := 36) K dX8_draw_36 (by decide) ?_
      refine zj_cS4W (pc := 37) K lm_X8_125 (m_X8_copy (n := 89) (m := 89) hs_Mnow hs_Mbefore (by decide) (by decide) (by decide) (st0 := 0) (at0 := 0) rfl rfl (by decide) (by decide)) (by decide) rfl (Nat.le_of_ble_eq_true rfl) dX8_draw_37 ?_
      refine zj_hn (fun q1 eq1 => ?_)
      have v1 : ∀ a, a ≠ 78 → a ≠ 84 → q1 a = h a := fun a a1 a2 => by rw [eq1, zj_s_ne _ _ a2]; exact w0 a a1
      have vb : ∀ b, b ≠ 0 → q1 78 b = h 78 b := fun b b1 => by rw [eq1, zj_s_ne _ _ (by decide)]; exact wb b b1
      have v00 : q1 78 0 = 0 := by rw [eq1, zj_s_ne _ _ (by decide)]; exact w00
      have v84 : ∀ i, i < 89 → q1 84 i = h 80 i := fun i hi => by rw [eq1, zj_s_eq, if_pos ⟨by omega, by omega⟩, e80, show 0 + (i - 0) = i by omega]
      have f80 : q1 80 = h 80 := v1 80 (by decide) (by decide)
      have eJ1 : q1 80 7 = nI J := by rw [f80]; exact eJ
      have eC1 : q1 80 18 = nI C := by rw [f80]; exact eC
      have ec1 : q1 78 17 = nI ct := by rw [vb 17 (by decide)]; exact ec
      have fτ : zτM q1 80 J C u = zτM h 80 J C u := zτM_congr f80
      have fδ : zδM q1 80 = zδM h 80 := zδM_congr f80
      have fB : zmB q1 80 = zmB h 80 := by unfold zmB; rw [f80]
      have fT : zmT q1 80 = zmT h 80 := by unfold zmT; rw [f80]
      clear eq1
      have eU1 : q1 80 0 = nI u := by rw [f80]; exact eU
      have hT1 : ∀ δ si c b, 0 ≤ zd_t (zθo (zτM q1 80 J C u) δ) si c b := by rw [fτ]; exact hT
      refine zj_aload_n (i := 0) (pc := 40) K dX8_draw_40 rfl rfl ?_
      refine zj_aload_n (i := 0) (pc := 41) K dX8_draw_41 rfl rfl ?_
      refine zj_getR (pc := 42) K lf_X8_64 hs_M rfl dX8_draw_42 ?_
      refine zj_iload_n (i := 1) (pc := 45) K dX8_draw_45 rfl rfl ?_
      refine zj_cV2P (pc := 46) K lm_X8_197 hs_M (m_X8_draws (J := J) (C := C) (u := u) (c := c) (Or.inl rfl) eJ1 hJ eC1 hC eU1 hU hT1 ei (by omega)) (by decide) rfl (Nat.le_of_ble_eq_true rfl) dX8_draw_46 (fun v q2 g2 hp => ?_)
      obtain ⟨rfl, ⟨zs1, zs2⟩, zs3⟩ := hp
      rw [fτ, fδ, fB, show q1 80 5 = h 80 5 by rw [f80]] at zs3
      obtain ⟨b, rfl, hb⟩ : ∃ b, v = some (.int (zz_i b)) ∧ (b = false ∧ (zd_pool (zθo (zτM h 80 J C u) (zδM h 80)) (zmB h 80) c) = [] ∧ q2 80 = q1 80 ∨ b = true ∧ (zd_pool (zθo (zτM h 80 J C u) (zδM h 80)) (zmB h 80) c) ≠ [] ∧ q2 80 = upd (upd (upd (q1 80) 5 (zd_seed (h 80 5))) (61 + c) ((zd_pool (zθo (zτM h 80 J C u) (zδM h 80)) (zmB h 80) c).getD (zp_ix (zd_seed (h 80 5)) (zd_pool (zθo (zτM h 80 J C u) (zδM h 80)) (zmB h 80) c).length) 0)) (75 + c) 1) := by
        rcases zs3 with ⟨y1, y2, y3⟩ | ⟨y1, y2, y3⟩
        · exact ⟨false, y2, Or.inl ⟨rfl, y1, y3⟩⟩
        · exact ⟨true, y2, Or.inr ⟨rfl, y1, y3⟩⟩
      have hmid : zm_mid h q2 := ⟨fun a a1 a2 => by rw [zs1 a (by omega) (by omega) (by omega) (by omega)]; exact v1 a a2 (by omega), by rw [zs1 83 (by decide) (by decide) (by decide) (by decide)]; exact v1 83 (by decide) (by decide), fun i hi => by rw [zs1 84 (by decide) (by decide) (by decide) (by decide)]; exact v84 i hi, by rw [zs2 2 (by decide) (by decide) (by decide)]; exact vb 2 (by decide), by rw [zs2 8 (by decide) (by decide) (by decide)]; exact vb 8 (by decide), by rw [zs2 0 (by decide) (by decide) (by decide)]; exact v00, by rw [zs2 17 (by decide) (by decide) (by decide)]; exact vb 17 (by decide)⟩
      refine zj_if_ne (tgt := 54) (pc := 49) K dX8_draw_49 (by decide) (fun c_49 => ?_) (fun c_49 => ?_)
      · replace c_49 := zz_n0.mp c_49
        obtain ⟨-, y1, y2⟩ := hb.resolve_left (fun z => by rw [z.1] at c_49; cases c_49)
        have hye := zo_draw_Ms (J := J) (C := C) (u := u) ei (by omega) c_10 c_22 y1
        rw [f80] at y2
        obtain ⟨hst0, hδ, hbn⟩ := zm_lay hC (by omega) y2
        have hst : ∀ i, i < 47 → i ≠ 5 → i ≠ 17 → q2 80 i = h 80 i := fun i h1 h2 _ => hst0 i h1 h2
        refine zj_aload_n (i := 0) (pc := 54) K dX8_draw_54 rfl rfl ?_
        refine zj_cV0P (pc := 55) K lm_X8_201 hs_M (m_X8_stay (ct := ct) (by rw [hmid.2.2.2.2.2.2]; exact ec) hct) (by decide) rfl (Nat.le_of_ble_eq_true rfl) dX8_draw_55 (fun v q3 g3 hp => ?_)
        obtain ⟨rfl, rfl, zu1, zu2, zu3, zu4⟩ := hp
        have hkp := zm_mk_keep hC hmid zu1 zu2 zu3 zu4 hst hδ
        refine zj_aload_n (i := 0) (pc := 58) K dX8_draw_58 rfl rfl ?_
        refine zj_getR (pc := 59) K lf_X8_64 hs_M rfl dX8_draw_59 ?_
        refine zj_bipush (v := 61) (pc := 62) K dX8_draw_62 (by decide) ?_
        refine zj_iload_n (i := 1) (pc := 64) K dX8_draw_64 rfl rfl ?_
        refine zj_iadd (pc := 65) K dX8_draw_65 ?_
        refine zj_ald (j := 61 + c) (pc := 66) K hs_Mnow (zm_ix rfl ei) (by omega) (by first | decide | omega) dX8_draw_66 ?_
        exact zj_iret K Rt dX8_draw_67 (⟨rfl, hkp.1, by rw [hye]; exact ⟨by rw [zu3 _ (by omega), hbn], hkp.2⟩⟩)
      · replace c_49 := zz_i0.mp c_49
        obtain ⟨-, y1, y2⟩ := hb.resolve_right (fun z => by rw [z.1] at c_49; cases c_49)
        have hno : zo_draw (zτM h 80 J C u) (zδM h 80) x = none := zo_draw_Mn3 ei (by omega) y1
        have hsy := zm_mk_stay hmid (fun i _ => by rw [y2, f80])
        refine zj_iconst (v := -1) (pc := 52) K dX8_draw_52 (by decide) ?_
        exact zj_iret K Rt dX8_draw_53 (⟨rfl, hsy.1, by rw [hno]; exact ⟨rfl, hsy.2⟩⟩)
    · rw [e80] at c_22
      have hno : zo_draw (zτM h 80 J C u) (zδM h 80) x = none := zo_draw_Mn2 ei (by omega) c_22
      refine zj_iconst (v := -1) (pc := 25) K dX8_draw_25 (by decide) ?_
      exact zj_iret K Rt dX8_draw_26 (⟨rfl, (zm_same_fr ws w00).1, by rw [hno]; exact ⟨rfl, (zm_same_fr ws w00).2⟩⟩)

set_option maxHeartbeats 4000000 in
set_option maxRecDepth 20000 in
theorem m_X8_drawAll {l : Launch} {E : zj_E} {h : zj_H} {g : zj_G} {J C u : Nat} (eJ : h 80 7 = nI J) (hJ : J ≤ 9) (eC : h 80 18 = nI C) (hC : C ≤ 14) (eU : h 80 0 = nI u) (hU : u ≤ 20) (hT : ∀ δ si c b, 0 ≤ zd_t (zθo (zτM h 80 J C u) δ) si c b) {ct : Nat} (ec : h 78 17 = nI ct) (hct : ct ≤ 10)  : zj_M l E yX8_drawAll cX8_drawAll 2 (some .int) 7 [.ref (E.2.1 78)] h g (fun v h' g' => g' = g ∧ v = some (.int (nI (zo_all (zτM h 80 J C u) (zδM h 80)).1)) ∧ zm_fr h h' ∧ if (zo_all (zτM h 80 J C u) (zδM h 80)).1 = 0 then zm_stay h h' else zm_stat h h' ∧ zδe C (zδM h' 80) (zo_all (zτM h 80 J C u) (zδM h 80)).2 ∧ zm_keep h h' ct (h 80)) := by
  refine zj_M.of RX8 (by decide) rfl (Nat.le_of_ble_eq_true rfl) ?_
  intro Γ hΓ K Rt
  subst hΓ
  show zj_J E Γ 2 0 [(0, .ref (E.2.1 78))] [] h g
  refine zj_aload_n (i := 0) (pc := 0) K dX8_drawAll_0 rfl rfl ?_
  refine zj_iconst (v := 0) (pc := 1) K dX8_drawAll_1 (by decide) ?_
  refine zj_putI (pc := 2) K lf_X8_1 hs_M rfl dX8_drawAll_2 ?_
  refine zj_hn (fun q0 eq0 => ?_)
  have w0 : ∀ a, a ≠ 78 → q0 a = h a := fun a a1 => by rw [eq0, zj_s_ne _ _ a1]
  have wb : ∀ b, b ≠ 0 → q0 78 b = h 78 b := fun b b1 => by rw [eq0, zj_s_eq, zz_upd_ne _ _ b1]
  have w00 : q0 78 0 = 0 := by rw [eq0, zj_s_eq, zz_upd_at]
  have ws : zm_same h q0 := by rw [eq0]; exact zm_same_0 h 0
  have e80 : q0 80 = h 80 := w0 80 (by decide)
  have eJ0 : q0 80 7 = nI J := by rw [e80]; exact eJ
  have eC0 : q0 80 18 = nI C := by rw [e80]; exact eC
  have eτ : zτM q0 80 J C u = zτM h 80 J C u := zτM_congr e80
  have eδ : zδM q0 80 = zδM h 80 := zδM_congr e80
  clear eq0
  refine zj_aload_n (i := 0) (pc := 5) K dX8_drawAll_5 rfl rfl ?_
  refine zj_getR (pc := 6) K lf_X8_64 hs_M rfl dX8_drawAll_6 ?_
  refine zj_iconst (v := 0) (pc := 9) K dX8_drawAll_9 (by decide) ?_
  refine zj_aload_n (i := 0) (pc := 10) K dX8_drawAll_10 rfl rfl ?_
  refine zj_getR (pc := 11) K lf_X8_76 hs_M rfl dX8_drawAll_11 ?_
  refine zj_iconst (v := 0) (pc := 14) K dX8_drawAll_14 (by decide) ?_
  refine zj_cS4W (pc := 15) K lm_X8_125 (m_X8_copy (n := 89) (m := 89) hs_Mnow hs_Mbefore (by decide) (by decide) (by decide) (st0 := 0) (at0 := 0) rfl rfl (by decide) (by decide)) (by decide) rfl (Nat.le_of_ble_eq_true rfl) dX8_drawAll_15 ?_
  refine zj_hn (fun q1 eq1 => ?_)
  have v1 : ∀ a, a ≠ 78 → a ≠ 84 → q1 a = h a := fun a a1 a2 => by rw [eq1, zj_s_ne _ _ a2]; exact w0 a a1
  have vb : ∀ b, b ≠ 0 → q1 78 b = h 78 b := fun b b1 => by rw [eq1, zj_s_ne _ _ (by decide)]; exact wb b b1
  have v00 : q1 78 0 = 0 := by rw [eq1, zj_s_ne _ _ (by decide)]; exact w00
  have v84 : ∀ i, i < 89 → q1 84 i = h 80 i := fun i hi => by rw [eq1, zj_s_eq, if_pos ⟨by omega, by omega⟩, e80, show 0 + (i - 0) = i by omega]
  have f80 : q1 80 = h 80 := v1 80 (by decide) (by decide)
  have eJ1 : q1 80 7 = nI J := by rw [f80]; exact eJ
  have eC1 : q1 80 18 = nI C := by rw [f80]; exact eC
  have ec1 : q1 78 17 = nI ct := by rw [vb 17 (by decide)]; exact ec
  have fτ : zτM q1 80 J C u = zτM h 80 J C u := zτM_congr f80
  have fδ : zδM q1 80 = zδM h 80 := zδM_congr f80
  have fB : zmB q1 80 = zmB h 80 := by unfold zmB; rw [f80]
  have fT : zmT q1 80 = zmT h 80 := by unfold zmT; rw [f80]
  clear eq1
  have eU1 : q1 80 0 = nI u := by rw [f80]; exact eU
  have hT1 : ∀ δ si c b, 0 ≤ zd_t (zθo (zτM q1 80 J C u) δ) si c b := by rw [fτ]; exact hT
  refine zj_aload_n (i := 0) (pc := 18) K dX8_drawAll_18 rfl rfl ?_
  refine zj_aload_n (i := 0) (pc := 19) K dX8_drawAll_19 rfl rfl ?_
  refine zj_getR (pc := 20) K lf_X8_64 hs_M rfl dX8_drawAll_20 ?_
  refine zj_cV1P (pc := 23) K lm_X8_204 hs_M (m_X8_drawsAll (J := J) (C := C) (u := u) (Or.inl rfl) eJ1 hJ eC1 hC eU1 hU hT1) (by decide) rfl (Nat.le_of_ble_eq_true rfl) dX8_drawAll_23 (fun v q2 g2 hp => ?_)
  obtain ⟨rfl, rfl, ⟨zs1, zs2⟩, zs3, hδ, zs5⟩ := hp
  rw [fτ, fδ, fB, fT, f80] at zs5
  rw [fτ, fδ] at hδ
  rw [f80] at zs3
  have zs5 : (zo_all (zτM h 80 J C u) (zδM h 80)).1 = 0 → q2 80 = h 80 := zs5
  have hle : (zo_all (zτM h 80 J C u) (zδM h 80)).1 ≤ C := zd_all_le _ _ _ _ _
  refine zj_top (x' := nI (zo_all (zτM h 80 J C u) (zδM h 80)).1) (by rw [fτ, fδ, fB, fT, f80]; rfl) ?_
  have hst : ∀ i, i < 47 → i ≠ 5 → i ≠ 17 → q2 80 i = h 80 i := fun i h1 h2 _ => zs3 i (by omega) h2
  have hmid : zm_mid h q2 := ⟨fun a a1 a2 => by rw [zs1 a (by omega) (by omega) (by omega) (by omega)]; exact v1 a a2 (by omega), by rw [zs1 83 (by decide) (by decide) (by decide) (by decide)]; exact v1 83 (by decide) (by decide), fun i hi => by rw [zs1 84 (by decide) (by decide) (by decide) (by decide)]; exact v84 i hi, by rw [zs2 2 (by decide) (by decide) (by decide)]; exact vb 2 (by decide), by rw [zs2 8 (by decide) (by decide) (by decide)]; exact vb 8 (by decide), by rw [zs2 0 (by decide) (by decide) (by decide)]; exact v00, by rw [zs2 17 (by decide) (by decide) (by decide)]; exact vb 17 (by decide)⟩
  refine zj_istore_n (i := 1) (pc := 26) K dX8_drawAll_26 rfl rfl rfl rfl ?_
  refine zj_iload_n (i := 1) (pc := 27) K dX8_drawAll_27 rfl rfl ?_
  refine zj_if_le (tgt := 35) (pc := 28) K dX8_drawAll_28 (by decide) (fun c_28 => ?_) (fun c_28 => ?_)
  · have h0 : (zo_all (zτM h 80 J C u) (zδM h 80)).1 = 0 := by
      have := (nI_leI (b := 0) (by omega) (by omega)).mp c_28
      omega
    have hsy := zm_mk_stay hmid (fun i _ => by rw [zs5 h0])
    refine zj_iload_n (i := 1) (pc := 35) K dX8_drawAll_35 rfl rfl ?_
    exact zj_iret K Rt dX8_drawAll_36 (by
      first
      | exact ⟨rfl, rfl, hsy.1, by rw [if_pos h0]; exact hsy.2⟩
      | exact ⟨rfl, rfl, hkp.1, by rw [if_neg h0]; exact hkp.2⟩)
  · have h0 : ¬ (zo_all (zτM h 80 J C u) (zδM h 80)).1 = 0 := fun e => c_28 (by rw [e]; decide)
    refine zj_aload_n (i := 0) (pc := 31) K dX8_drawAll_31 rfl rfl ?_
    refine zj_cV0P (pc := 32) K lm_X8_201 hs_M (m_X8_stay (ct := ct) (by rw [hmid.2.2.2.2.2.2]; exact ec) hct) (by decide) rfl (Nat.le_of_ble_eq_true rfl) dX8_drawAll_32 (fun v q3 g3 hp => ?_)
    obtain ⟨rfl, rfl, zu1, zu2, zu3, zu4⟩ := hp
    have hkp := zm_mk_keep hC hmid zu1 zu2 zu3 zu4 hst hδ
    refine zj_iload_n (i := 1) (pc := 35) K dX8_drawAll_35 rfl rfl ?_
    exact zj_iret K Rt dX8_drawAll_36 (by
      first
      | exact ⟨rfl, rfl, hsy.1, by rw [if_pos h0]; exact hsy.2⟩
      | exact ⟨rfl, rfl, hkp.1, by rw [if_neg h0]; exact hkp.2⟩)

set_option maxHeartbeats 4000000 in
set_option maxRecDepth 20000 in
theorem m_X8_repairs {l : Launch} {E : zj_E} {h : zj_H} {g : zj_G} {J C u : Nat} (eJ : h 80 7 = nI J) (hJ : J ≤ 9) (eC : h 80 18 = nI C) (hC : C ≤ 14) {c gg : Nat} {x1 x2 : Int32} (ex1 : x1 = nI c) (ex2 : x2 = nI gg) (hc : c < 14) (hg : gg < 9) (hs1 : h 80 (75 + c) = 1) : zj_M l E yX8_repairs cX8_repairs 9 (some .int) 4 [.ref (E.2.1 78), .int x1, .int x2] h g (fun v h' g' => v = some (.int (zo_rr (zr_b (zθo (zτM h 80 J C u) (zδM h 80)) (zmB h 80) c gg).1)) ∧ g' = g ∧ (∀ a, a ≠ 80 → h' a = h a) ∧ h' 80 = upd (upd (upd (h 80) 5 (h 80 5)) (61 + c) (zr_si (h 80 (61 + c)) gg (zr_b (zθo (zτM h 80 J C u) (zδM h 80)) (zmB h 80) c gg).1)) (75 + c) (zr_st (zr_b (zθo (zτM h 80 J C u) (zδM h 80)) (zmB h 80) c gg).1)) := by
  refine zj_M.of RX8 (by decide) rfl (Nat.le_of_ble_eq_true rfl) ?_
  intro Γ hΓ K Rt
  subst hΓ
  have loop : ∀ (n i : Nat) (x3 x4 x5 x6 : Int32), J + 1 ≤ i + n → i ≤ J → (x3 = zr_stay (h 80 (61 + c)) gg) → (x4 = zc_opt (zr_best (fun j => !bt (zmB h 80 c) j && (zθo (zτM h 80 J C u) (zδM h 80)).2.2.2.2.2.2.2.2 c (zr_stay (zmB h 80 c) gg ||| zz_bit j)) (fun j => zd_t (zθo (zτM h 80 J C u) (zδM h 80)) (zmB h 80) c (zr_stay (zmB h 80 c) gg ||| zz_bit j)) i).1) → (x5 = (zr_best (fun j => !bt (zmB h 80 c) j && (zθo (zτM h 80 J C u) (zδM h 80)).2.2.2.2.2.2.2.2 c (zr_stay (zmB h 80 c) gg ||| zz_bit j)) (fun j => zd_t (zθo (zτM h 80 J C u) (zδM h 80)) (zmB h 80) c (zr_stay (zmB h 80 c) gg ||| zz_bit j)) i).2) → (x6 = nI i) → zj_J E Γ 9 25 [(0, .ref (E.2.1 78)), (1, .int x1), (2, .int x2), (3, .int x3), (4, .int x4), (5, .int x5), (6, .int x6)] [] h g := by
    intro n
    induction n with
    | zero => intro i x3 x4 x5 x6  h1 h2; omega
    | succ n ih =>
      intro i x3 x4 x5 x6  h1 h2 e3 e4 e5 e6
      refine zj_iload (pc := 25) K dX8_repairs_25 rfl ?_
      refine zj_aload_n (i := 0) (pc := 27) K dX8_repairs_27 rfl rfl ?_
      refine zj_cV0I (pc := 28) K lm_X8_132 hs_M (m_X8_judges) (by decide) rfl (Nat.le_of_ble_eq_true rfl) dX8_repairs_28 ?_
      refine zj_icmp_ge (tgt := 117) (pc := 31) K dX8_repairs_31 (by decide) (fun c_31 => ?_) (fun c_31 => ?_)
      · have hi : i = J := Nat.le_antisymm h2 (zz_ge e6 eJ (by omega) (by omega) c_31)
        refine zj_aload_n (i := 0) (pc := 117) K dX8_repairs_117 rfl rfl ?_
        refine zj_getR (pc := 118) K lf_X8_64 hs_M rfl dX8_repairs_118 ?_
        refine zj_bipush (v := 61) (pc := 121) K dX8_repairs_121 (by decide) ?_
        refine zj_iload_n (i := 1) (pc := 123) K dX8_repairs_123 rfl rfl ?_
        refine zj_iadd (pc := 124) K dX8_repairs_124 ?_
        refine zj_iload (pc := 125) K dX8_repairs_125 rfl ?_
        refine zj_iconst (v := -1) (pc := 127) K dX8_repairs_127 (by decide) ?_
        refine zj_icmp_ne (tgt := 135) (pc := 128) K dX8_repairs_128 (by decide) (fun c_128 => ?_) (fun c_128 => ?_)
        · have hso : ∃ f, (zr_b (zθo (zτM h 80 J C u) (zδM h 80)) (zmB h 80) c gg).1 = some f := by
            cases hq : (zr_b (zθo (zτM h 80 J C u) (zδM h 80)) (zmB h 80) c gg).1 with
            | none => exact absurd (by rw [e4, hi, show zr_best (fun j => !bt (zmB h 80 c) j && (zθo (zτM h 80 J C u) (zδM h 80)).2.2.2.2.2.2.2.2 c (zr_stay (zmB h 80 c) gg ||| zz_bit j)) (fun j => zd_t (zθo (zτM h 80 J C u) (zδM h 80)) (zmB h 80) c (zr_stay (zmB h 80 c) gg ||| zz_bit j)) J = (zr_b (zθo (zτM h 80 J C u) (zδM h 80)) (zmB h 80) c gg) from rfl, hq]; rfl) c_128
            | some f => exact ⟨f, rfl⟩
          obtain ⟨f, hf⟩ := hso
          have ex4 : x4 = nI f := by rw [e4, hi, show zr_best (fun j => !bt (zmB h 80 c) j && (zθo (zτM h 80 J C u) (zδM h 80)).2.2.2.2.2.2.2.2 c (zr_stay (zmB h 80 c) gg ||| zz_bit j)) (fun j => zd_t (zθo (zτM h 80 J C u) (zδM h 80)) (zmB h 80) c (zr_stay (zmB h 80 c) gg ||| zz_bit j)) J = (zr_b (zθo (zτM h 80 J C u) (zδM h 80)) (zmB h 80) c gg) from rfl, hf]; rfl
          refine zj_iload_n (i := 3) (pc := 135) K dX8_repairs_135 rfl rfl ?_
          refine zj_iconst (v := 1) (pc := 136) K dX8_repairs_136 (by decide) ?_
          refine zj_iload (pc := 137) K dX8_repairs_137 rfl ?_
          refine zj_ishl (pc := 139) K dX8_repairs_139 ?_
          refine zj_ior (pc := 140) K dX8_repairs_140 ?_
          refine zj_ast (j := 61 + c) (pc := 141) K hs_Mnow (zm_ix rfl ex1) (by omega) (by first | decide | omega) dX8_repairs_141 ?_
          refine zj_iload (pc := 142) K dX8_repairs_142 rfl ?_
          refine zj_iconst (v := -1) (pc := 144) K dX8_repairs_144 (by decide) ?_
          refine zj_icmp_eq (tgt := 151) (pc := 145) K dX8_repairs_145 (by decide) (fun c_145 => ?_) (fun c_145 => ?_)
          · refine zj_aload_n (i := 0) (pc := 151) K dX8_repairs_151 rfl rfl ?_
            refine zj_getR (pc := 152) K lf_X8_64 hs_M rfl dX8_repairs_152 ?_
            refine zj_bipush (v := 75) (pc := 155) K dX8_repairs_155 (by decide) ?_
            refine zj_iload_n (i := 1) (pc := 157) K dX8_repairs_157 rfl rfl ?_
            refine zj_iadd (pc := 158) K dX8_repairs_158 ?_
            refine zj_iconst (v := 0) (pc := 159) K dX8_repairs_159 (by decide) ?_
            refine zj_ast (j := 75 + c) (pc := 160) K hs_Mnow (zm_ix rfl ex1) (by omega) (by first | decide | omega) dX8_repairs_160 ?_
            refine zj_bipush (v := -2) (pc := 161) K dX8_repairs_161 (by decide) ?_
            exact zj_iret K Rt dX8_repairs_163 (by
              first
              | (exfalso; exact c_128 c_145)
              | (refine ⟨by rw [hf]; rfl, rfl, fun a a1 => by rw [zj_s_ne _ _ a1, zj_s_ne _ _ a1], ?_⟩
                 rw [zj_s_eq, zj_s_eq, hf, zz_upd_self]
                 rfl))
          · refine zj_iload (pc := 148) K dX8_repairs_148 rfl ?_
            exact zj_iret K Rt dX8_repairs_150 (by
              first
              | (exfalso; exact c_145 c_128)
              | (refine ⟨by rw [hf, ex4]; rfl, rfl, fun a a1 => zj_s_ne _ _ a1, ?_⟩
                 rw [zj_s_eq, hf, zz_upd_self, e3, ex4]
                 exact (zm_upd2 (by omega) hs1).symm))
        · have hf : (zr_b (zθo (zτM h 80 J C u) (zδM h 80)) (zmB h 80) c gg).1 = none := zc_opt_none (fun f z => by have := (zr_best_lt z).1; have h9 : f < J := this; omega) (by have e4c := e4; rw [hi] at e4c; rw [show (zr_b (zθo (zτM h 80 J C u) (zδM h 80)) (zmB h 80) c gg) = zr_best (fun j => !bt (zmB h 80 c) j && (zθo (zτM h 80 J C u) (zδM h 80)).2.2.2.2.2.2.2.2 c (zr_stay (zmB h 80 c) gg ||| zz_bit j)) (fun j => zd_t (zθo (zτM h 80 J C u) (zδM h 80)) (zmB h 80) c (zr_stay (zmB h 80 c) gg ||| zz_bit j)) J from rfl, ← e4c]; exact c_128)
          refine zj_iconst (v := 0) (pc := 131) K dX8_repairs_131 (by decide) ?_
          refine zj_goto (tgt := 141) (pc := 132) K dX8_repairs_132 (by decide) ?_
          refine zj_ast (j := 61 + c) (pc := 141) K hs_Mnow (zm_ix rfl ex1) (by omega) (by first | decide | omega) dX8_repairs_141 ?_
          refine zj_iload (pc := 142) K dX8_repairs_142 rfl ?_
          refine zj_iconst (v := -1) (pc := 144) K dX8_repairs_144 (by decide) ?_
          refine zj_icmp_eq (tgt := 151) (pc := 145) K dX8_repairs_145 (by decide) (fun c_145 => ?_) (fun c_145 => ?_)
          · refine zj_aload_n (i := 0) (pc := 151) K dX8_repairs_151 rfl rfl ?_
            refine zj_getR (pc := 152) K lf_X8_64 hs_M rfl dX8_repairs_152 ?_
            refine zj_bipush (v := 75) (pc := 155) K dX8_repairs_155 (by decide) ?_
            refine zj_iload_n (i := 1) (pc := 157) K dX8_repairs_157 rfl rfl ?_
            refine zj_iadd (pc := 158) K dX8_repairs_158 ?_
            refine zj_iconst (v := 0) (pc := 159) K dX8_repairs_159 (by decide) ?_
            refine zj_ast (j := 75 + c) (pc := 160) K hs_Mnow (zm_ix rfl ex1) (by omega) (by first | decide | omega) dX8_repairs_160 ?_
            refine zj_bipush (v := -2) (pc := 161) K dX8_repairs_161 (by decide) ?_
            exact zj_iret K Rt dX8_repairs_163 (by
              first
              | (exfalso; exact c_128 c_145)
              | (refine ⟨by rw [hf]; rfl, rfl, fun a a1 => by rw [zj_s_ne _ _ a1, zj_s_ne _ _ a1], ?_⟩
                 rw [zj_s_eq, zj_s_eq, hf, zz_upd_self]
                 rfl))
          · refine zj_iload (pc := 148) K dX8_repairs_148 rfl ?_
            exact zj_iret K Rt dX8_repairs_150 (by
              first
              | (exfalso; exact c_145 c_128)
              | (refine ⟨by rw [hf, ex4]; rfl, rfl, fun a a1 => zj_s_ne _ _ a1, ?_⟩
                 rw [zj_s_eq, hf, zz_upd_self, e3, ex4]
                 exact (zm_upd2 (by omega) hs1).symm))
      · have hi : i < J := zz_nge e6 eJ (by omega) (by omega) c_31
        refine zj_iload_n (i := 3) (pc := 34) K dX8_repairs_34 rfl rfl ?_
        refine zj_iconst (v := 1) (pc := 35) K dX8_repairs_35 (by decide) ?_
        refine zj_iload (pc := 36) K dX8_repairs_36 rfl ?_
        refine zj_ishl (pc := 38) K dX8_repairs_38 ?_
        refine zj_ior (pc := 39) K dX8_repairs_39 ?_
        refine zj_istore (pc := 40) K dX8_repairs_40 rfl rfl rfl ?_
        refine zj_aload_n (i := 0) (pc := 42) K dX8_repairs_42 rfl rfl ?_
        refine zj_getR (pc := 43) K lf_X8_64 hs_M rfl dX8_repairs_43 ?_
        refine zj_bipush (v := 61) (pc := 46) K dX8_repairs_46 (by decide) ?_
        refine zj_iload_n (i := 1) (pc := 48) K dX8_repairs_48 rfl rfl ?_
        refine zj_iadd (pc := 49) K dX8_repairs_49 ?_
        refine zj_ald (j := 61 + c) (pc := 50) K hs_Mnow (zm_ix rfl ex1) (by omega) (by first | decide | omega) dX8_repairs_50 ?_
        refine zj_iload (pc := 51) K dX8_repairs_51 rfl ?_
        refine zj_cS2I (pc := 53) K lm_X8_105 (m_X8_has e6 (by omega)) (by decide) rfl (Nat.le_of_ble_eq_true rfl) dX8_repairs_53 ?_
        refine zj_if_ne (tgt := 111) (pc := 56) K dX8_repairs_56 (by decide) (fun c_56 => ?_) (fun c_56 => ?_)
        · replace c_56 := zz_n0.mp c_56
          have c_56 : bt (zmB h 80 c) i = true := c_56
          have hnd : zr_best (fun j => !bt (zmB h 80 c) j && (zθo (zτM h 80 J C u) (zδM h 80)).2.2.2.2.2.2.2.2 c (zr_stay (zmB h 80 c) gg ||| zz_bit j)) (fun j => zd_t (zθo (zτM h 80 J C u) (zδM h 80)) (zmB h 80) c (zr_stay (zmB h 80 c) gg ||| zz_bit j)) (i + 1) = zr_best (fun j => !bt (zmB h 80 c) j && (zθo (zτM h 80 J C u) (zδM h 80)).2.2.2.2.2.2.2.2 c (zr_stay (zmB h 80 c) gg ||| zz_bit j)) (fun j => zd_t (zθo (zτM h 80 J C u) (zδM h 80)) (zmB h 80) c (zr_stay (zmB h 80 c) gg ||| zz_bit j)) i := by rw [zr_best, if_neg (fun z => by have := z.1; simp [c_56] at this)]
          refine zj_iinc (v := 1) (pc := 111) K dX8_repairs_111 rfl (by decide) rfl rfl rfl ?_
          refine zj_goto (tgt := 25) (pc := 114) K dX8_repairs_114 (by decide) ?_
          refine zj_pick [0, 1, 2, 3, 4, 5, 6] ?_
          first
          | exact ih (i + 1) _ _ _ _ (by omega) (by omega) e3 (by rw [hnd]; exact e4) (by rw [hnd]; exact e5) (zz_up e6)
          | exact ih (i + 1) _ _ _ _ (by omega) (by omega) e3 (by rw [hdr]; exact e6) (by rw [hdr]; exact ht) (zz_up e6)
        · replace c_56 := zz_i0.mp c_56
          have c_56 : bt (zmB h 80 c) i = false := c_56
          refine zj_aload_n (i := 0) (pc := 59) K dX8_repairs_59 rfl rfl ?_
          refine zj_getR (pc := 60) K lf_X8_64 hs_M rfl dX8_repairs_60 ?_
          refine zj_iload_n (i := 1) (pc := 63) K dX8_repairs_63 rfl rfl ?_
          refine zj_iload (pc := 64) K dX8_repairs_64 rfl ?_
          refine zj_cS3I (pc := 66) K lm_X8_170 (m_X8_isLawful hs_Mnow eJ hJ ex1 hc) (by decide) rfl (Nat.le_of_ble_eq_true rfl) dX8_repairs_66 ?_
          refine zj_if_ne (tgt := 75) (pc := 69) K dX8_repairs_69 (by decide) (fun c_69 => ?_) (fun c_69 => ?_)
          · replace c_69 := zz_n0.mp c_69
            rw [e3, e6] at c_69
            have c_69 : (zθo (zτM h 80 J C u) (zδM h 80)).2.2.2.2.2.2.2.2 c (zr_stay (zmB h 80 c) gg ||| zz_bit i) = true := c_69
            have hcon : (fun j => !bt (zmB h 80 c) j && (zθo (zτM h 80 J C u) (zδM h 80)).2.2.2.2.2.2.2.2 c (zr_stay (zmB h 80 c) gg ||| zz_bit j)) i = true := by simp [c_56, c_69]
            have ht : zs_ten (h 80 1) (h 80 2) (h 80 3) J C (zmS h 80) (zmW h 80) (zmB h 80) x1 (x3 ||| (1 : Int32) <<< (x6 &&& 31)) = (fun j => zd_t (zθo (zτM h 80 J C u) (zδM h 80)) (zmB h 80) c (zr_stay (zmB h 80 c) gg ||| zz_bit j)) i := by rw [e3, e6, ex1]; rfl
            refine zj_aload_n (i := 0) (pc := 75) K dX8_repairs_75 rfl rfl ?_
            refine zj_getR (pc := 76) K lf_X8_64 hs_M rfl dX8_repairs_76 ?_
            refine zj_iload_n (i := 1) (pc := 79) K dX8_repairs_79 rfl rfl ?_
            refine zj_iload (pc := 80) K dX8_repairs_80 rfl ?_
            refine zj_cS3I (pc := 82) K lm_X8_184 (m_X8_tensionOf hs_Mnow eJ hJ eC hC) (by decide) rfl (Nat.le_of_ble_eq_true rfl) dX8_repairs_82 ?_
            refine zj_istore (pc := 85) K dX8_repairs_85 rfl rfl rfl ?_
            refine zj_iload (pc := 87) K dX8_repairs_87 rfl ?_
            refine zj_iconst (v := -1) (pc := 89) K dX8_repairs_89 (by decide) ?_
            refine zj_icmp_eq (tgt := 103) (pc := 90) K dX8_repairs_90 (by decide) (fun c_90 => ?_) (fun c_90 => ?_)
            · have hno : (zr_best (fun j => !bt (zmB h 80 c) j && (zθo (zτM h 80 J C u) (zδM h 80)).2.2.2.2.2.2.2.2 c (zr_stay (zmB h 80 c) gg ||| zz_bit j)) (fun j => zd_t (zθo (zτM h 80 J C u) (zδM h 80)) (zmB h 80) c (zr_stay (zmB h 80 c) gg ||| zz_bit j)) i).1 = none := zc_opt_none (fun f z => by have := (zr_best_lt z).1; omega) (by rw [← e4]; exact c_90)
              have hdr : zr_best (fun j => !bt (zmB h 80 c) j && (zθo (zτM h 80 J C u) (zδM h 80)).2.2.2.2.2.2.2.2 c (zr_stay (zmB h 80 c) gg ||| zz_bit j)) (fun j => zd_t (zθo (zτM h 80 J C u) (zδM h 80)) (zmB h 80) c (zr_stay (zmB h 80 c) gg ||| zz_bit j)) (i + 1) = (some i, (fun j => zd_t (zθo (zτM h 80 J C u) (zδM h 80)) (zmB h 80) c (zr_stay (zmB h 80 c) gg ||| zz_bit j)) i) := by rw [zr_best, if_pos ⟨hcon, Or.inl hno⟩]
              refine zj_iload (pc := 103) K dX8_repairs_103 rfl ?_
              refine zj_istore (pc := 105) K dX8_repairs_105 rfl rfl rfl ?_
              refine zj_iload (pc := 107) K dX8_repairs_107 rfl ?_
              refine zj_istore (pc := 109) K dX8_repairs_109 rfl rfl rfl ?_
              refine zj_iinc (v := 1) (pc := 111) K dX8_repairs_111 rfl (by decide) rfl rfl rfl ?_
              refine zj_goto (tgt := 25) (pc := 114) K dX8_repairs_114 (by decide) ?_
              refine zj_pick [0, 1, 2, 3, 4, 5, 6] ?_
              first
              | exact ih (i + 1) _ _ _ _ (by omega) (by omega) e3 (by rw [hnd]; exact e4) (by rw [hnd]; exact e5) (zz_up e6)
              | exact ih (i + 1) _ _ _ _ (by omega) (by omega) e3 (by rw [hdr]; exact e6) (by rw [hdr]; exact ht) (zz_up e6)
            · refine zj_iload (pc := 93) K dX8_repairs_93 rfl ?_
              refine zj_iload (pc := 95) K dX8_repairs_95 rfl ?_
              refine zj_icmp_lt (tgt := 103) (pc := 97) K dX8_repairs_97 (by decide) (fun c_97 => ?_) (fun c_97 => ?_)
              · rw [ht, e5] at c_97
                have hdr : zr_best (fun j => !bt (zmB h 80 c) j && (zθo (zτM h 80 J C u) (zδM h 80)).2.2.2.2.2.2.2.2 c (zr_stay (zmB h 80 c) gg ||| zz_bit j)) (fun j => zd_t (zθo (zτM h 80 J C u) (zδM h 80)) (zmB h 80) c (zr_stay (zmB h 80 c) gg ||| zz_bit j)) (i + 1) = (some i, (fun j => zd_t (zθo (zτM h 80 J C u) (zδM h 80)) (zmB h 80) c (zr_stay (zmB h 80 c) gg ||| zz_bit j)) i) := by rw [zr_best, if_pos ⟨hcon, Or.inr c_97⟩]
                refine zj_iload (pc := 103) K dX8_repairs_103 rfl ?_
                refine zj_istore (pc := 105) K dX8_repairs_105 rfl rfl rfl ?_
                refine zj_iload (pc := 107) K dX8_repairs_107 rfl ?_
                refine zj_istore (pc := 109) K dX8_repairs_109 rfl rfl rfl ?_
                refine zj_iinc (v := 1) (pc := 111) K dX8_repairs_111 rfl (by decide) rfl rfl rfl ?_
                refine zj_goto (tgt := 25) (pc := 114) K dX8_repairs_114 (by decide) ?_
                refine zj_pick [0, 1, 2, 3, 4, 5, 6] ?_
                first
                | exact ih (i + 1) _ _ _ _ (by omega) (by omega) e3 (by rw [hnd]; exact e4) (by rw [hnd]; exact e5) (zz_up e6)
                | exact ih (i + 1) _ _ _ _ (by omega) (by omega) e3 (by rw [hdr]; exact e6) (by rw [hdr]; exact ht) (zz_up e6)
              · rw [ht, e5] at c_97
                have hnd : zr_best (fun j => !bt (zmB h 80 c) j && (zθo (zτM h 80 J C u) (zδM h 80)).2.2.2.2.2.2.2.2 c (zr_stay (zmB h 80 c) gg ||| zz_bit j)) (fun j => zd_t (zθo (zτM h 80 J C u) (zδM h 80)) (zmB h 80) c (zr_stay (zmB h 80 c) gg ||| zz_bit j)) (i + 1) = zr_best (fun j => !bt (zmB h 80 c) j && (zθo (zτM h 80 J C u) (zδM h 80)).2.2.2.2.2.2.2.2 c (zr_stay (zmB h 80 c) gg ||| zz_bit j)) (fun j => zd_t (zθo (zτM h 80 J C u) (zδM h 80)) (zmB h 80) c (zr_stay (zmB h 80 c) gg ||| zz_bit j)) i := by rw [zr_best, if_neg (fun z => z.2.elim (fun y => c_90 (by rw [e4, y]; rfl)) c_97)]
                refine zj_goto (tgt := 111) (pc := 100) K dX8_repairs_100 (by decide) ?_
                refine zj_iinc (v := 1) (pc := 111) K dX8_repairs_111 rfl (by decide) rfl rfl rfl ?_
                refine zj_goto (tgt := 25) (pc := 114) K dX8_repairs_114 (by decide) ?_
                refine zj_pick [0, 1, 2, 3, 4, 5, 6] ?_
                first
                | exact ih (i + 1) _ _ _ _ (by omega) (by omega) e3 (by rw [hnd]; exact e4) (by rw [hnd]; exact e5) (zz_up e6)
                | exact ih (i + 1) _ _ _ _ (by omega) (by omega) e3 (by rw [hdr]; exact e6) (by rw [hdr]; exact ht) (zz_up e6)
          · replace c_69 := zz_i0.mp c_69
            rw [e3, e6] at c_69
            have c_69 : (zθo (zτM h 80 J C u) (zδM h 80)).2.2.2.2.2.2.2.2 c (zr_stay (zmB h 80 c) gg ||| zz_bit i) = false := c_69
            have hnd : zr_best (fun j => !bt (zmB h 80 c) j && (zθo (zτM h 80 J C u) (zδM h 80)).2.2.2.2.2.2.2.2 c (zr_stay (zmB h 80 c) gg ||| zz_bit j)) (fun j => zd_t (zθo (zτM h 80 J C u) (zδM h 80)) (zmB h 80) c (zr_stay (zmB h 80 c) gg ||| zz_bit j)) (i + 1) = zr_best (fun j => !bt (zmB h 80 c) j && (zθo (zτM h 80 J C u) (zδM h 80)).2.2.2.2.2.2.2.2 c (zr_stay (zmB h 80 c) gg ||| zz_bit j)) (fun j => zd_t (zθo (zτM h 80 J C u) (zδM h 80)) (zmB h 80) c (zr_stay (zmB h 80 c) gg ||| zz_bit j)) i := by rw [zr_best, if_neg (fun z => by have := z.1; simp [c_69] at this)]
            refine zj_goto (tgt := 111) (pc := 72) K dX8_repairs_72 (by decide) ?_
            refine zj_iinc (v := 1) (pc := 111) K dX8_repairs_111 rfl (by decide) rfl rfl rfl ?_
            refine zj_goto (tgt := 25) (pc := 114) K dX8_repairs_114 (by decide) ?_
            refine zj_pick [0, 1, 2, 3, 4, 5, 6] ?_
            first
            | exact ih (i + 1) _ _ _ _ (by omega) (by omega) e3 (by rw [hnd]; exact e4) (by rw [hnd]; exact e5) (zz_up e6)
            | exact ih (i + 1) _ _ _ _ (by omega) (by omega) e3 (by rw [hdr]; exact e6) (by rw [hdr]; exact ht) (zz_up e6)
  show zj_J E Γ 9 0 [(0, .ref (E.2.1 78)), (1, .int x1), (2, .int x2)] [] h g
  refine zj_aload_n (i := 0) (pc := 0) K dX8_repairs_0 rfl rfl ?_
  refine zj_getR (pc := 1) K lf_X8_64 hs_M rfl dX8_repairs_1 ?_
  refine zj_bipush (v := 61) (pc := 4) K dX8_repairs_4 (by decide) ?_
  refine zj_iload_n (i := 1) (pc := 6) K dX8_repairs_6 rfl rfl ?_
  refine zj_iadd (pc := 7) K dX8_repairs_7 ?_
  refine zj_ald (j := 61 + c) (pc := 8) K hs_Mnow (zm_ix rfl ex1) (by omega) (by first | decide | omega) dX8_repairs_8 ?_
  refine zj_iconst (v := 1) (pc := 9) K dX8_repairs_9 (by decide) ?_
  refine zj_iload_n (i := 2) (pc := 10) K dX8_repairs_10 rfl rfl ?_
  refine zj_ishl (pc := 11) K dX8_repairs_11 ?_
  refine zj_iconst (v := -1) (pc := 12) K dX8_repairs_12 (by decide) ?_
  refine zj_ixor (pc := 13) K dX8_repairs_13 ?_
  refine zj_iand (pc := 14) K dX8_repairs_14 ?_
  refine zj_istore_n (i := 3) (pc := 15) K dX8_repairs_15 rfl rfl rfl rfl ?_
  refine zj_iconst (v := -1) (pc := 16) K dX8_repairs_16 (by decide) ?_
  refine zj_istore (pc := 17) K dX8_repairs_17 rfl rfl rfl ?_
  refine zj_iconst (v := 0) (pc := 19) K dX8_repairs_19 (by decide) ?_
  refine zj_istore (pc := 20) K dX8_repairs_20 rfl rfl rfl ?_
  refine zj_iconst (v := 0) (pc := 22) K dX8_repairs_22 (by decide) ?_
  refine zj_istore (pc := 23) K dX8_repairs_23 rfl rfl rfl ?_
  exact loop (J + 1) 0 _ _ _ _ (by omega) (by omega) (by rw [ex2]; rfl) rfl rfl rfl
