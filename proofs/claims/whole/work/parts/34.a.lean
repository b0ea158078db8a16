section ZOD
variable {h : zj_H} {J C u : Nat} {x y : Int32} {c j : Nat}
theorem zo_rec_n (hx : (zz_in x C && decide (h 14 x.toNatClampNeg = 1)) = false ∨ zz_in y J = false ∨ (x = nI c ∧ c < 14 ∧ y = nI j ∧ j < 9 ∧ bt (h 15 c) j = false)) : zo_rec (zτC h J C u) (zδC h 13) x y = none := by
  rw [zo_rec, if_neg (fun z => ?_)]
  have z1 : zz_in x C = true := z.1
  have z2 : h 14 x.toNatClampNeg = 1 := z.2.1
  have z3 : zz_in y J = true := z.2.2.1
  have z4 : bt (h 15 x.toNatClampNeg) y.toNatClampNeg = true := z.2.2.2
  rcases hx with hx | hx | ⟨ex, hc, ey, hj, hb⟩
  · rw [z1, decide_eq_true z2] at hx; cases hx
  · rw [z3] at hx; cases hx
  · rw [ex, ey, nI_clamp (by omega), nI_clamp (by omega), hb] at z4; cases z4
theorem zo_rec_s (ex : x = nI c) (hc : c < 14) (ey : y = nI j) (hj : j < 9) (hx : zz_in x C = true) (hs : h 14 c = 1) (hy : zz_in y J = true) (hb : bt (h 15 c) j = true) : zo_rec (zτC h J C u) (zδC h 13) x y =
    some (zo_rr (zr_b (zθo (zτC h J C u) (zo_bar (zδC h 13) c j)) (h 15) c j).1, (h 13 0, h 13 1, upd (h 14) c (zr_st (zr_b (zθo (zτC h J C u) (zo_bar (zδC h 13) c j)) (h 15) c j).1), upd (h 15) c (zr_si (h 15 c) j (zr_b (zθo (zτC h J C u) (zo_bar (zδC h 13) c j)) (h 15) c j).1), upd (h 16) c (h 16 c ||| zz_bit j))) := by
  subst ex; subst ey
  rw [zo_rec, nI_clamp (by omega), nI_clamp (by omega), if_pos ⟨hx, hs, hy, hb⟩]; rfl
theorem zo_leave_n (hx : zz_in y J = false ∨ (y = nI j ∧ j < 9 ∧ bt (h 13 1) j = true)) : zo_leave (zτC h J C u) (zδC h 13) y = none := by
  rw [zo_leave, if_neg (fun z => ?_)]
  have z1 : zz_in y J = true := z.1
  have z2 : bt (h 13 1) y.toNatClampNeg = false := z.2
  rcases hx with hx | ⟨ey, hj, hb⟩
  · rw [z1] at hx; cases hx
  · rw [ey, nI_clamp (by omega), hb] at z2; cases z2
theorem zo_leave_s (ey : y = nI j) (hj : j < 9) (hy : zz_in y J = true) (hb : bt (h 13 1) j = false) : zo_leave (zτC h J C u) (zδC h 13) y =
    some (nI (zr_all (zθo (zτC h J C u) (zo_away (zδC h 13) (h 13 1 ||| zz_bit j))) j (h 14) (h 15) C).1, (h 13 0, h 13 1 ||| zz_bit j, (zr_all (zθo (zτC h J C u) (zo_away (zδC h 13) (h 13 1 ||| zz_bit j))) j (h 14) (h 15) C).2.1, (zr_all (zθo (zτC h J C u) (zo_away (zδC h 13) (h 13 1 ||| zz_bit j))) j (h 14) (h 15) C).2.2, h 16)) := by
  subst ey
  rw [zo_leave, nI_clamp (by omega), if_pos ⟨hy, hb⟩]; rfl
theorem zo_come_n (hx : zz_in y J = false ∨ (y = nI j ∧ j < 9 ∧ bt (h 13 1) j = false)) : zo_come (zτC h J C u) (zδC h 13) y = none := by
  rw [zo_come, if_neg (fun z => ?_)]
  have z1 : zz_in y J = true := z.1
  have z2 : bt (h 13 1) y.toNatClampNeg = true := z.2
  rcases hx with hx | ⟨ey, hj, hb⟩
  · rw [z1] at hx; cases hx
  · rw [ey, nI_clamp (by omega), hb] at z2; cases z2
theorem zo_come_s (ey : y = nI j) (hj : j < 9) (hy : zz_in y J = true) (hb : bt (h 13 1) j = true) : zo_come (zτC h J C u) (zδC h 13) y = some (nI (zz_pop (zr_stay (h 13 1) j)), (h 13 0, zr_stay (h 13 1) j, h 14, h 15, h 16)) := by
  subst ey
  rw [zo_come, nI_clamp (by omega), if_pos ⟨hy, hb⟩]; rfl
theorem zo_hear_n (hx : (zz_in x C && decide (h 14 x.toNatClampNeg = 1)) = false) : zo_hear (zτC h J C u) (zδC h 13) x = none := by
  rw [zo_hear, if_neg (fun z => ?_)]
  have z1 : zz_in x C = true := z.1
  have z2 : h 14 x.toNatClampNeg = 1 := z.2
  rw [z1, decide_eq_true z2] at hx; cases hx
theorem zo_hear_s (ex : x = nI c) (hc : c < 14) (hx : zz_in x C = true) (hs : h 14 c = 1) : zo_hear (zτC h J C u) (zδC h 13) x = some (nI (zc_cnt (fun i => decide (upd (h 14) c 2 i = 2)) C), (h 13 0, h 13 1, upd (h 14) c 2, h 15, h 16)) := by
  subst ex
  rw [zo_hear, nI_clamp (by omega), if_pos ⟨hx, hs⟩]; rfl
theorem zx_may_ex {J C : Nat} {st si : Nat → Int32} {pl : Nat → Int32 → Bool} {xa xx xb xy : Int32} (hJ : J ≤ 9) (hC : C ≤ 14) (h : zx_may J C st si pl xa xx xb xy = true) : ∃ a i b j, a < C ∧ i < J ∧ b < C ∧ j < J ∧ xa = nI a ∧ xx = nI i ∧ xb = nI b ∧ xy = nI j := by
  unfold zx_may at h
  simp only [Bool.and_eq_true] at h
  obtain ⟨a, ha, ea⟩ := zz_in_ex h.1.1.1.1.1 (by omega)
  obtain ⟨b, hb, eb⟩ := zz_in_ex h.1.1.1.2.1 (by omega)
  obtain ⟨i, hi, ei⟩ := zz_in_ex h.1.1.2 (by omega)
  obtain ⟨j, hj, ej⟩ := zz_in_ex h.1.2 (by omega)
  exact ⟨a, i, b, j, ha, hi, hb, hj, ea, ei, eb, ej⟩
end ZOD
theorem zo_rr_s {o : Option Nat} (h : ¬ zc_opt o = -1) : zo_rr o = zc_opt o := by
  cases o with
  | none => exact absurd rfl h
  | some f => rfl
theorem zo_rr_n {o : Option Nat} (hf : ∀ f, o = some f → f < 1000) (h : zc_opt o = -1) : zo_rr o = -2 := by
  rw [zc_opt_none hf h]; rfl
theorem zo_512 : ∀ m, m < 512 → ∀ j, j < 9 → ∃ k, k < 512 ∧ zr_stay (nI m) j = nI k := by
  have h1 : ∀ m, m < 512 → ∀ j, j < 9 → zr_stay (nI m) j = nI (m &&& (511 ^^^ 2 ^ j)) := by decide +kernel
  have h2 : ∀ m, m < 512 → ∀ j, j < 9 → m &&& (511 ^^^ 2 ^ j) < 512 := by decide +kernel
  exact fun m hm j hj => ⟨_, h2 m hm j hj, h1 m hm j hj⟩
theorem zo_stay_512 {x : Int32} {m j : Nat} (ex : x = nI m) (hm : m < 512) (hj : j < 9) : ∃ k, k < 512 ∧ zr_stay x j = nI k := by subst ex; exact zo_512 m hm j hj
set_option maxHeartbeats 4000000 in
set_option maxRecDepth 20000 in
theorem m_X7_recuse {l : Launch} {E : zj_E} {h : zj_H} {g : zj_G} {J C u nx ct : Nat} (eJ : h 8 6 = nI J) (hJ : J ≤ 9) (eC : h 8 7 = nI C) (hC : C ≤ 14) (eU : h 8 1 = nI u) (hU : u ≤ 20) (hT : ∀ δ si c b, 0 ≤ zd_t (zθo (zτC h J C u) δ) si c b) (en : h 32 1 = nI nx) (hnx : nx < 11) (ec : h 32 2 = nI ct) (hct : ct ≤ 10) {x y : Int32} : zj_M l E yX7_recuse cX7_recuse 4 (some .int) 4 [.ref (E.2.1 0), .int x, .int y] h g (fun v h' g' => g' = g ∧ zk_fr h h' ∧ zk_post h h' nx ct v (zo_rec (zτC h J C u) (zδC h 13) x y)) := by
  refine zj_M.of RX7 (by decide) rfl (Nat.le_of_ble_eq_true rfl) ?_
  intro Γ hΓ K Rt
  subst hΓ
  have hk : zj_isC 12 := Or.inl rfl
  show zj_J E Γ 4 0 [(0, .ref (E.2.1 0)), (1, .int x), (2, .int y)] [] h g
  refine zj_aload_n (i := 0) (pc := 0) K dX7_recuse_0 rfl rfl ?_
  refine zj_getR (pc := 1) K lf_X7_37 hs_B rfl dX7_recuse_1 ?_
  refine zj_iload_n (i := 1) (pc := 4) K dX7_recuse_4 rfl rfl ?_
  refine zj_cV1I (pc := 5) K lm_X7_227 hs_C (m_X0_isSet hk eC hC) (by decide) rfl (Nat.le_of_ble_eq_true rfl) dX7_recuse_5 ?_
  refine zj_if_eq (tgt := 41) (pc := 8) K dX7_recuse_8 (by decide) (fun c_8 => ?_) (fun c_8 => ?_)
  · replace c_8 := zz_i0.mp c_8
    have hno : zo_rec (zτC h J C u) (zδC h 13) x y = none := zo_rec_n (c := 0) (j := 0) (Or.inl c_8)
    refine zj_iconst (v := -1) (pc := 41) K dX7_recuse_41 (by decide) ?_
    exact zj_iret K Rt dX7_recuse_42 (⟨rfl, (zk_rfl (nx := nx)).1, by rw [hno]; exact ⟨rfl, zk_rfl.2⟩⟩)
  · replace c_8 := zz_n0.mp c_8
    obtain ⟨c, hc, ei, hst⟩ := zx_set c_8 hC
    have hxC : zz_in x C = true := by rw [ei]; exact zz_in_nI hc (by omega)
    refine zj_aload_n (i := 0) (pc := 11) K dX7_recuse_11 rfl rfl ?_
    refine zj_getR (pc := 12) K lf_X7_28 hs_B rfl dX7_recuse_12 ?_
    refine zj_iload_n (i := 2) (pc := 15) K dX7_recuse_15 rfl rfl ?_
    refine zj_cV1I (pc := 16) K lm_X7_113 hs_D (m_X6_hasJudge (Or.inr rfl) (by assumption) (by omega)) (by decide) rfl (Nat.le_of_ble_eq_true rfl) dX7_recuse_16 ?_
    refine zj_if_eq (tgt := 41) (pc := 19) K dX7_recuse_19 (by decide) (fun c_19 => ?_) (fun c_19 => ?_)
    · replace c_19 := zz_i0.mp c_19
      have hno : zo_rec (zτC h J C u) (zδC h 13) x y = none := zo_rec_n (c := 0) (j := 0) (Or.inr (Or.inl c_19))
      refine zj_iconst (v := -1) (pc := 41) K dX7_recuse_41 (by decide) ?_
      exact zj_iret K Rt dX7_recuse_42 (⟨rfl, (zk_rfl (nx := nx)).1, by rw [hno]; exact ⟨rfl, zk_rfl.2⟩⟩)
    · replace c_19 := zz_n0.mp c_19
      obtain ⟨j, hj, ej⟩ := zz_in_ex c_19 (by omega)
      refine zj_aload_n (i := 0) (pc := 22) K dX7_recuse_22 rfl rfl ?_
      refine zj_getR (pc := 23) K lf_X7_37 hs_B rfl dX7_recuse_23 ?_
      refine zj_getR (pc := 26) K lf_X7_97 hs_C rfl dX7_recuse_26 ?_
      refine zj_getR (pc := 29) K lf_X7_166 hs_Cd rfl dX7_recuse_29 ?_
      refine zj_iload_n (i := 1) (pc := 32) K dX7_recuse_32 rfl rfl ?_
      refine zj_ald (j := c) (pc := 33) K hs_Ci ei (by omega) (by first | decide | omega) dX7_recuse_33 ?_
      refine zj_iload_n (i := 2) (pc := 34) K dX7_recuse_34 rfl rfl ?_
      refine zj_cS2I (pc := 35) K lm_X7_131 (m_X7_has ej (by omega)) (by decide) rfl (Nat.le_of_ble_eq_true rfl) dX7_recuse_35 ?_
      refine zj_if_ne (tgt := 43) (pc := 38) K dX7_recuse_38 (by decide) (fun c_38 => ?_) (fun c_38 => ?_)
      · replace c_38 := zz_n0.mp c_38
        refine zj_aload_n (i := 0) (pc := 43) K dX7_recuse_43 rfl rfl ?_
        refine zj_getR (pc := 44) K lf_X7_47 hs_B rfl dX7_recuse_44 ?_
        refine zj_aload_n (i := 0) (pc := 47) K dX7_recuse_47 rfl rfl ?_
        refine zj_getR (pc := 48) K lf_X7_37 hs_B rfl dX7_recuse_48 ?_
        refine zj_getR (pc := 51) K lf_X7_97 hs_C rfl dX7_recuse_51 ?_
        refine zj_cV1P (pc := 54) K lm_X7_217 hs_H (m_X3_prepare en hnx) (by decide) rfl (Nat.le_of_ble_eq_true rfl) dX7_recuse_54 (fun v q g1 hp => ?_)
        obtain ⟨rfl, rfl, zq1, zq2⟩ := hp
        have zq : ∀ a, a < 34 → q a = h a := fun a ha => zq1 a (by omega)
        have eJq : q 8 6 = nI J := by rw [zq 8 (by decide)]; exact eJ
        have eCq : q 8 7 = nI C := by rw [zq 8 (by decide)]; exact eC
        have eUq : q 8 1 = nI u := by rw [zq 8 (by decide)]; exact eU
        have enq : q 32 1 = nI nx := by rw [zq 32 (by decide)]; exact en
        have ecq : q 32 2 = nI ct := by rw [zq 32 (by decide)]; exact ec
        have eτ : zτC q J C u = zτC h J C u := zτC_congr (zq 8 (by decide)) (zq 9 (by decide)) (zq 10 (by decide))
        have eδ : zδC q 13 = zδC h 13 := by unfold zδC; rw [zq 13 (by decide), zq (13 + 1) (by decide), zq (13 + 2) (by decide), zq (13 + 3) (by decide)]
        have hTq : ∀ si c b, 0 ≤ zd_t (zθC q 12 J C u) si c b := fun si c b => by rw [zθC_eq, eτ]; exact hT _ si c b
        refine zj_aload_n (i := 0) (pc := 57) K dX7_recuse_57 rfl rfl ?_
        refine zj_getR (pc := 58) K lf_X7_47 hs_B rfl dX7_recuse_58 ?_
        refine zj_cV0W (pc := 61) K lm_X7_224 hs_H (m_X3_keepPrepared enq hnx ecq hct) (by decide) rfl (Nat.le_of_ble_eq_true rfl) dX7_recuse_61 ?_
        have zw : ∀ a, a < 32 → (zj_s q 32 (upd (upd (q 32) 1 (nI ((nx + 1) % 11))) 2 (nI (min (ct + 1) 10)))) a = h a := fun a ha => by rw [zj_s_ne _ _ (by omega)]; exact zq a (by omega)
        refine zj_aload_n (i := 0) (pc := 64) K dX7_recuse_64 rfl rfl ?_
        refine zj_getR (pc := 65) K lf_X7_37 hs_B rfl dX7_recuse_65 ?_
        refine zj_getR (pc := 68) K lf_X7_97 hs_C rfl dX7_recuse_68 ?_
        refine zj_getR (pc := 71) K lf_X7_160 hs_Cd rfl dX7_recuse_71 ?_
        refine zj_iload_n (i := 1) (pc := 74) K dX7_recuse_74 rfl rfl ?_
        refine zj_dup2 (pc := 75) K dX7_recuse_75 rfl rfl ?_
        refine zj_ald (j := c) (pc := 76) K hs_Cb ei (by omega) (by first | decide | omega) dX7_recuse_76 ?_
        refine zj_iconst (v := 1) (pc := 77) K dX7_recuse_77 (by decide) ?_
        refine zj_iload_n (i := 2) (pc := 78) K dX7_recuse_78 rfl rfl ?_
        refine zj_ishl (pc := 79) K dX7_recuse_79 ?_
        refine zj_ior (pc := 80) K dX7_recuse_80 ?_
        refine zj_ast (j := c) (pc := 81) K hs_Cb ei (by omega) (by first | decide | omega) dX7_recuse_81 ?_
        refine zj_hn (fun q1 eq1 => ?_)
        have w1 : ∀ a, a ≠ 16 → a < 32 → q1 a = h a := fun a a1 a2 => by rw [eq1, zj_s_ne _ _ a1]; exact zw a a2
        have w2 : ∀ a, a ≠ 16 → q1 a = (zj_s q 32 (upd (upd (q 32) 1 (nI ((nx + 1) % 11))) 2 (nI (min (ct + 1) 10)))) a := fun a a1 => by rw [eq1, zj_s_ne _ _ a1]
        have w16 : q1 16 = upd (h 16) c (h 16 c ||| zz_bit j) := by rw [eq1, zj_s_eq, zw 16 (by decide), ej]; rfl
        clear eq1
        have ez1 : zτC q1 J C u = (zτC h J C u) := zτC_congr (w1 8 (by decide) (by decide)) (w1 9 (by decide) (by decide)) (w1 10 (by decide) (by decide))
        have ez2 : zδC q1 13 = zo_bar (zδC h 13) c j := by
          unfold zδC zo_bar
          rw [show (13 + 1) = 14 from rfl, show (13 + 2) = 15 from rfl, show (13 + 3) = 16 from rfl, w16, w1 13 (by decide) (by decide), w1 14 (by decide) (by decide), w1 15 (by decide) (by decide)]
        have eJ1 : q1 8 6 = nI J := by rw [w1 8 (by decide) (by decide)]; exact eJ
        have eC1 : q1 8 7 = nI C := by rw [w1 8 (by decide) (by decide)]; exact eC
        refine zj_aload_n (i := 0) (pc := 82) K dX7_recuse_82 rfl rfl ?_
        refine zj_getR (pc := 83) K lf_X7_37 hs_B rfl dX7_recuse_83 ?_
        refine zj_iload_n (i := 1) (pc := 86) K dX7_recuse_86 rfl rfl ?_
        refine zj_iload_n (i := 2) (pc := 87) K dX7_recuse_87 rfl rfl ?_
        refine zj_cV2P (pc := 88) K lm_X7_230 hs_C (m_X0_repair (J := J) (C := C) (u := u) (gg := j) hk eJ1 hJ eC1 hC ei ej (by omega) (by omega)) (by decide) rfl (Nat.le_of_ble_eq_true rfl) dX7_recuse_88 (fun v q2 g2 hp => ?_)
        obtain ⟨rfl, rfl, zs1, zs2, zs3⟩ := hp
        rw [zθC_eq, ez1, show zδC q1 (12 + 1) = zo_bar (zδC h 13) c j from ez2, show q1 (12 + 3) = h 15 from w1 15 (by decide) (by decide), show q1 (12 + 2) = h 14 from w1 14 (by decide) (by decide)] at zs2
        rw [zθC_eq, ez1, show zδC q1 (12 + 1) = zo_bar (zδC h 13) c j from ez2, show q1 (12 + 3) = h 15 from w1 15 (by decide) (by decide)] at zs3
        refine zj_top (x' := zc_opt (zr_b (zθo (zτC h J C u) (zo_bar (zδC h 13) c j)) (h 15) c j).1) (by rw [zθC_eq, ez1, show zδC q1 (12 + 1) = zo_bar (zδC h 13) c j from ez2, show q1 (12 + 3) = h 15 from w1 15 (by decide) (by decide)]) ?_
        have hye := zo_rec_s (u := u) ei (by omega) ej (by omega) hxC hst c_19 c_38
        have zb : ∀ a, (a < 12 ∨ 22 ≤ a) → q2 a = (zj_s q 32 (upd (upd (q 32) 1 (nI ((nx + 1) % 11))) 2 (nI (min (ct + 1) 10)))) a := fun a ha => by rw [zs1 a (by omega) (by omega) (by omega) (by omega)]; exact w2 a (by omega)
        have hδ : zδC q2 13 = (h 13 0, h 13 1, upd (h 14) c (zr_st (zr_b (zθo (zτC h J C u) (zo_bar (zδC h 13) c j)) (h 15) c j).1), upd (h 15) c (zr_si (h 15 c) j (zr_b (zθo (zτC h J C u) (zo_bar (zδC h 13) c j)) (h 15) c j).1), upd (h 16) c (h 16 c ||| zz_bit j)) := by
          unfold zδC
          rw [zs1 13 (by decide) (by decide) (by decide) (by decide), w1 13 (by decide) (by decide), show q2 (13 + 1) = _ from zs2, show q2 (13 + 2) = _ from zs3, show (13 + 3) = 16 from rfl, zs1 16 (by decide) (by decide) (by decide) (by decide), w16]
          rfl
        have hm := zk_mk_keep2 (ct := ct) hnx zq1 zq2 zb hδ
        refine zj_istore_n (i := 3) (pc := 91) K dX7_recuse_91 rfl rfl rfl rfl ?_
        refine zj_iload_n (i := 3) (pc := 92) K dX7_recuse_92 rfl rfl ?_
        refine zj_iconst (v := -1) (pc := 93) K dX7_recuse_93 (by decide) ?_
        refine zj_icmp_ne (tgt := 102) (pc := 94) K dX7_recuse_94 (by decide) (fun c_94 => ?_) (fun c_94 => ?_)
        · have hrr : zo_rr (zr_b (zθo (zτC h J C u) (zo_bar (zδC h 13) c j)) (h 15) c j).1 = zc_opt (zr_b (zθo (zτC h J C u) (zo_bar (zδC h 13) c j)) (h 15) c j).1 := zo_rr_s c_94
          refine zj_iload_n (i := 3) (pc := 102) K dX7_recuse_102 rfl rfl ?_
          exact zj_iret K Rt dX7_recuse_103 (⟨rfl, hm.1, by rw [hye, hrr]; exact ⟨rfl, hm.2⟩⟩)
        · have hrr : zo_rr (zr_b (zθo (zτC h J C u) (zo_bar (zδC h 13) c j)) (h 15) c j).1 = -2 := zo_rr_n (fun f z => by have z1 := (zr_best_lt z).1; have z2 : f < J := z1; omega) c_94
          refine zj_bipush (v := -2) (pc := 97) K dX7_recuse_97 (by decide) ?_
          refine zj_goto (tgt := 103) (pc := 99) K dX7_recuse_99 (by decide) ?_
          exact zj_iret K Rt dX7_recuse_103 (⟨rfl, hm.1, by rw [hye, hrr]; exact ⟨rfl, hm.2⟩⟩)
      · replace c_38 := zz_i0.mp c_38
        have hno : zo_rec (zτC h J C u) (zδC h 13) x y = none := zo_rec_n (Or.inr (Or.inr ⟨ei, by omega, ej, by omega, c_38⟩))
        refine zj_iconst (v := -1) (pc := 41) K dX7_recuse_41 (by decide) ?_
        exact zj_iret K Rt dX7_recuse_42 (⟨rfl, (zk_rfl (nx := nx)).1, by rw [hno]; exact ⟨rfl, zk_rfl.2⟩⟩)

set_option maxHeartbeats 4000000 in
set_option maxRecDepth 20000 in
theorem m_X7_leave {l : Launch} {E : zj_E} {h : zj_H} {g : zj_G} {J C u nx ct : Nat} (eJ : h 8 6 = nI J) (hJ : J ≤ 9) (eC : h 8 7 = nI C) (hC : C ≤ 14) (eU : h 8 1 = nI u) (hU : u ≤ 20) (hT : ∀ δ si c b, 0 ≤ zd_t (zθo (zτC h J C u) δ) si c b) (en : h 32 1 = nI nx) (hnx : nx < 11) (ec : h 32 2 = nI ct) (hct : ct ≤ 10) {y : Int32} : zj_M l E yX7_leave cX7_leave 2 (some .int) 5 [.ref (E.2.1 0), .int y] h g (fun v h' g' => g' = g ∧ zk_fr h h' ∧ zk_post h h' nx ct v (zo_leave (zτC h J C u) (zδC h 13) y)) := by
  refine zj_M.of RX7 (by decide) rfl (Nat.le_of_ble_eq_true rfl) ?_
  intro Γ hΓ K Rt
  subst hΓ
  have hk : zj_isC 12 := Or.inl rfl
  show zj_J E Γ 2 0 [(0, .ref (E.2.1 0)), (1, .int y)] [] h g
  refine zj_aload_n (i := 0) (pc := 0) K dX7_leave_0 rfl rfl ?_
  refine zj_getR (pc := 1) K lf_X7_28 hs_B rfl dX7_leave_1 ?_
  refine zj_iload_n (i := 1) (pc := 4) K dX7_leave_4 rfl rfl ?_
  refine zj_cV1I (pc := 5) K lm_X7_113 hs_D (m_X6_hasJudge (Or.inr rfl) (by assumption) (by omega)) (by decide) rfl (Nat.le_of_ble_eq_true rfl) dX7_leave_5 ?_
  refine zj_if_eq (tgt := 28) (pc := 8) K dX7_leave_8 (by decide) (fun c_8 => ?_) (fun c_8 => ?_)
  · replace c_8 := zz_i0.mp c_8
    have hno : zo_leave (zτC h J C u) (zδC h 13) y = none := zo_leave_n (j := 0) (Or.inl c_8)
    refine zj_iconst (v := -1) (pc := 28) K dX7_leave_28 (by decide) ?_
    exact zj_iret K Rt dX7_leave_29 (⟨rfl, (zk_rfl (nx := nx)).1, by rw [hno]; exact ⟨rfl, zk_rfl.2⟩⟩)
  · replace c_8 := zz_n0.mp c_8
    obtain ⟨j, hj, ej⟩ := zz_in_ex c_8 (by omega)
    refine zj_aload_n (i := 0) (pc := 11) K dX7_leave_11 rfl rfl ?_
    refine zj_getR (pc := 12) K lf_X7_37 hs_B rfl dX7_leave_12 ?_
    refine zj_getR (pc := 15) K lf_X7_97 hs_C rfl dX7_leave_15 ?_
    refine zj_getI (pc := 18) K lf_X7_128 hs_Cd rfl dX7_leave_18 ?_
    refine zj_iload_n (i := 1) (pc := 21) K dX7_leave_21 rfl rfl ?_
    refine zj_cS2I (pc := 22) K lm_X7_131 (m_X7_has ej (by omega)) (by decide) rfl (Nat.le_of_ble_eq_true rfl) dX7_leave_22 ?_
    refine zj_if_eq (tgt := 30) (pc := 25) K dX7_leave_25 (by decide) (fun c_25 => ?_) (fun c_25 => ?_)
    · replace c_25 := zz_i0.mp c_25
      refine zj_aload_n (i := 0) (pc := 30) K dX7_leave_30 rfl rfl ?_
      refine zj_getR (pc := 31) K lf_X7_47 hs_B rfl dX7_leave_31 ?_
      refine zj_aload_n (i := 0) (pc := 34) K dX7_leave_34 rfl rfl ?_
      refine zj_getR (pc := 35) K lf_X7_37 hs_B rfl dX7_leave_35 ?_
      refine zj_getR (pc := 38) K lf_X7_97 hs_C rfl dX7_leave_38 ?_
      refine zj_cV1P (pc := 41) K lm_X7_217 hs_H (m_X3_prepare en hnx) (by decide) rfl (Nat.le_of_ble_eq_true rfl) dX7_leave_41 (fun v q g1 hp => ?_)
      obtain ⟨rfl, rfl, zq1, zq2⟩ := hp
      have zq : ∀ a, a < 34 → q a = h a := fun a ha => zq1 a (by omega)
      have eJq : q 8 6 = nI J := by rw [zq 8 (by decide)]; exact eJ
      have eCq : q 8 7 = nI C := by rw [zq 8 (by decide)]; exact eC
      have eUq : q 8 1 = nI u := by rw [zq 8 (by decide)]; exact eU
      have enq : q 32 1 = nI nx := by rw [zq 32 (by decide)]; exact en
      have ecq : q 32 2 = nI ct := by rw [zq 32 (by decide)]; exact ec
      have eτ : zτC q J C u = zτC h J C u := zτC_congr (zq 8 (by decide)) (zq 9 (by decide)) (zq 10 (by decide))
      have eδ : zδC q 13 = zδC h 13 := by unfold zδC; rw [zq 13 (by decide), zq (13 + 1) (by decide), zq (13 + 2) (by decide), zq (13 + 3) (by decide)]
      have hTq : ∀ si c b, 0 ≤ zd_t (zθC q 12 J C u) si c b := fun si c b => by rw [zθC_eq, eτ]; exact hT _ si c b
      refine zj_aload_n (i := 0) (pc := 44) K dX7_leave_44 rfl rfl ?_
      refine zj_getR (pc := 45) K lf_X7_47 hs_B rfl dX7_leave_45 ?_
      refine zj_cV0W (pc := 48) K lm_X7_224 hs_H (m_X3_keepPrepared enq hnx ecq hct) (by decide) rfl (Nat.le_of_ble_eq_true rfl) dX7_leave_48 ?_
      have zw : ∀ a, a < 32 → (zj_s q 32 (upd (upd (q 32) 1 (nI ((nx + 1) % 11))) 2 (nI (min (ct + 1) 10)))) a = h a := fun a ha => by rw [zj_s_ne _ _ (by omega)]; exact zq a (by omega)
      refine zj_aload_n (i := 0) (pc := 51) K dX7_leave_51 rfl rfl ?_
      refine zj_getR (pc := 52) K lf_X7_37 hs_B rfl dX7_leave_52 ?_
      refine zj_getR (pc := 55) K lf_X7_97 hs_C rfl dX7_leave_55 ?_
      refine zj_dup (pc := 58) K dX7_leave_58 rfl ?_
      refine zj_getI (pc := 59) K lf_X7_128 hs_Cd rfl dX7_leave_59 ?_
      refine zj_iconst (v := 1) (pc := 62) K dX7_leave_62 (by decide) ?_
      refine zj_iload_n (i := 1) (pc := 63) K dX7_leave_63 rfl rfl ?_
      refine zj_ishl (pc := 64) K dX7_leave_64 ?_
      refine zj_ior (pc := 65) K dX7_leave_65 ?_
      refine zj_putI (pc := 66) K lf_X7_128 hs_Cd rfl dX7_leave_66 ?_
      refine zj_hn (fun q1 eq1 => ?_)
      have w1 : ∀ a, a ≠ 13 → a < 32 → q1 a = h a := fun a a1 a2 => by rw [eq1, zj_s_ne _ _ a1]; exact zw a a2
      have w2 : ∀ a, a ≠ 13 → q1 a = (zj_s q 32 (upd (upd (q 32) 1 (nI ((nx + 1) % 11))) 2 (nI (min (ct + 1) 10)))) a := fun a a1 => by rw [eq1, zj_s_ne _ _ a1]
      have w13 : q1 13 = upd (h 13) 1 (h 13 1 ||| zz_bit j) := by rw [eq1, zj_s_eq, zw 13 (by decide), ej]; rfl
      clear eq1
      have ez1 : zτC q1 J C u = (zτC h J C u) := zτC_congr (w1 8 (by decide) (by decide)) (w1 9 (by decide) (by decide)) (w1 10 (by decide) (by decide))
      have ez2 : zδC q1 13 = zo_away (zδC h 13) (h 13 1 ||| zz_bit j) := by
        unfold zδC zo_away
        rw [show (13 + 1) = 14 from rfl, show (13 + 2) = 15 from rfl, show (13 + 3) = 16 from rfl, w13, w1 14 (by decide) (by decide), w1 15 (by decide) (by decide), w1 16 (by decide) (by decide)]
        rfl
      have eJ1 : q1 8 6 = nI J := by rw [w1 8 (by decide) (by decide)]; exact eJ
      have eC1 : q1 8 7 = nI C := by rw [w1 8 (by decide) (by decide)]; exact eC
      refine zj_aload_n (i := 0) (pc := 69) K dX7_leave_69 rfl rfl ?_
      refine zj_getR (pc := 70) K lf_X7_37 hs_B rfl dX7_leave_70 ?_
      refine zj_iload_n (i := 1) (pc := 73) K dX7_leave_73 rfl rfl ?_
      refine zj_cV1P (pc := 74) K lm_X7_233 hs_C (m_X0_repairAllOf (J := J) (C := C) (u := u) (gg := j) hk eJ1 hJ eC1 hC ej (by omega)) (by decide) rfl (Nat.le_of_ble_eq_true rfl) dX7_leave_74 (fun v q2 g2 hp => ?_)
      obtain ⟨rfl, rfl, zs1, zs2, zs3⟩ := hp
      rw [zθC_eq, ez1, show zδC q1 (12 + 1) = _ from ez2, show q1 (12 + 3) = h 15 from w1 15 (by decide) (by decide), show q1 (12 + 2) = h 14 from w1 14 (by decide) (by decide)] at zs2 zs3
      refine zj_top (x' := nI (zr_all (zθo (zτC h J C u) (zo_away (zδC h 13) (h 13 1 ||| zz_bit j))) j (h 14) (h 15) C).1) (by rw [zθC_eq, ez1, show zδC q1 (12 + 1) = _ from ez2, show q1 (12 + 3) = h 15 from w1 15 (by decide) (by decide), show q1 (12 + 2) = h 14 from w1 14 (by decide) (by decide)]) ?_
      have hye := zo_leave_s (C := C) (u := u) ej (by omega) c_8 c_25
      have zb : ∀ a, (a < 12 ∨ 22 ≤ a) → q2 a = (zj_s q 32 (upd (upd (q 32) 1 (nI ((nx + 1) % 11))) 2 (nI (min (ct + 1) 10)))) a := fun a ha => by rw [zs1 a (by omega) (by omega) (by omega) (by omega)]; exact w2 a (by omega)
      have hδ : zδC q2 13 = (h 13 0, h 13 1 ||| zz_bit j, (zr_all (zθo (zτC h J C u) (zo_away (zδC h 13) (h 13 1 ||| zz_bit j))) j (h 14) (h 15) C).2.1, (zr_all (zθo (zτC h J C u) (zo_away (zδC h 13) (h 13 1 ||| zz_bit j))) j (h 14) (h 15) C).2.2, h 16) := by
        unfold zδC
        rw [zs1 13 (by decide) (by decide) (by decide) (by decide), w13, show q2 (13 + 1) = _ from zs2, show q2 (13 + 2) = _ from zs3, show (13 + 3) = 16 from rfl, zs1 16 (by decide) (by decide) (by decide) (by decide), w1 16 (by decide) (by decide)]
        rfl
      have hm := zk_mk_keep2 (ct := ct) hnx zq1 zq2 zb hδ
      exact zj_iret K Rt dX7_leave_77 (⟨rfl, hm.1, by rw [hye]; exact ⟨rfl, hm.2⟩⟩)
    · replace c_25 := zz_n0.mp c_25
      have hno : zo_leave (zτC h J C u) (zδC h 13) y = none := zo_leave_n (Or.inr ⟨ej, by omega, c_25⟩)
      refine zj_iconst (v := -1) (pc := 28) K dX7_leave_28 (by decide) ?_
      exact zj_iret K Rt dX7_leave_29 (⟨rfl, (zk_rfl (nx := nx)).1, by rw [hno]; exact ⟨rfl, zk_rfl.2⟩⟩)

set_option maxHeartbeats 4000000 in
set_option maxRecDepth 20000 in
theorem m_X7_come {l : Launch} {E : zj_E} {h : zj_H} {g : zj_G} {J C u nx ct : Nat} (eJ : h 8 6 = nI J) (hJ : J ≤ 9) (eC : h 8 7 = nI C) (hC : C ≤ 14) (eU : h 8 1 = nI u) (hU : u ≤ 20) (hT : ∀ δ si c b, 0 ≤ zd_t (zθo (zτC h J C u) δ) si c b) (en : h 32 1 = nI nx) (hnx : nx < 11) (ec : h 32 2 = nI ct) (hct : ct ≤ 10) {y : Int32} {aw : Nat} (eaw : h 13 1 = nI aw) (haw : aw < 512) : zj_M l E yX7_come cX7_come 2 (some .int) 4 [.ref (E.2.1 0), .int y] h g (fun v h' g' => g' = g ∧ zk_fr h h' ∧ zk_post h h' nx ct v (zo_come (zτC h J C u) (zδC h 13) y)) := by
  refine zj_M.of RX7 (by decide) rfl (Nat.le_of_ble_eq_true rfl) ?_
  intro Γ hΓ K Rt
  subst hΓ
  have hk : zj_isC 12 := Or.inl rfl
  show zj_J E Γ 2 0 [(0, .ref (E.2.1 0)), (1, .int y)] [] h g
  refine zj_aload_n (i := 0) (pc := 0) K dX7_come_0 rfl rfl ?_
  refine zj_getR (pc := 1) K lf_X7_28 hs_B rfl dX7_come_1 ?_
  refine zj_iload_n (i := 1) (pc := 4) K dX7_come_4 rfl rfl ?_
  refine zj_cV1I (pc := 5) K lm_X7_113 hs_D (m_X6_hasJudge (Or.inr rfl) (by assumption) (by omega)) (by decide) rfl (Nat.le_of_ble_eq_true rfl) dX7_come_5 ?_
  refine zj_if_eq (tgt := 28) (pc := 8) K dX7_come_8 (by decide) (fun c_8 => ?_) (fun c_8 => ?_)
  · replace c_8 := zz_i0.mp c_8
    have hno : zo_come (zτC h J C u) (zδC h 13) y = none := zo_come_n (j := 0) (Or.inl c_8)
    refine zj_iconst (v := -1) (pc := 28) K dX7_come_28 (by decide) ?_
    exact zj_iret K Rt dX7_come_29 (⟨rfl, (zk_rfl (nx := nx)).1, by rw [hno]; exact ⟨rfl, zk_rfl.2⟩⟩)
  · replace c_8 := zz_n0.mp c_8
    obtain ⟨j, hj, ej⟩ := zz_in_ex c_8 (by omega)
    refine zj_aload_n (i := 0) (pc := 11) K dX7_come_11 rfl rfl ?_
    refine zj_getR (pc := 12) K lf_X7_37 hs_B rfl dX7_come_12 ?_
    refine zj_getR (pc := 15) K lf_X7_97 hs_C rfl dX7_come_15 ?_
    refine zj_getI (pc := 18) K lf_X7_128 hs_Cd rfl dX7_come_18 ?_
    refine zj_iload_n (i := 1) (pc := 21) K dX7_come_21 rfl rfl ?_
    refine zj_cS2I (pc := 22) K lm_X7_131 (m_X7_has ej (by omega)) (by decide) rfl (Nat.le_of_ble_eq_true rfl) dX7_come_22 ?_
    refine zj_if_ne (tgt := 30) (pc := 25) K dX7_come_25 (by decide) (fun c_25 => ?_) (fun c_25 => ?_)
    · replace c_25 := zz_n0.mp c_25
      refine zj_aload_n (i := 0) (pc := 30) K dX7_come_30 rfl rfl ?_
      refine zj_getR (pc := 31) K lf_X7_47 hs_B rfl dX7_come_31 ?_
      refine zj_aload_n (i := 0) (pc := 34) K dX7_come_34 rfl rfl ?_
      refine zj_getR (pc := 35) K lf_X7_37 hs_B rfl dX7_come_35 ?_
      refine zj_getR (pc := 38) K lf_X7_97 hs_C rfl dX7_come_38 ?_
      refine zj_cV1P (pc := 41) K lm_X7_217 hs_H (m_X3_prepare en hnx) (by decide) rfl (Nat.le_of_ble_eq_true rfl) dX7_come_41 (fun v q g1 hp => ?_)
      obtain ⟨rfl, rfl, zq1, zq2⟩ := hp
      have zq : ∀ a, a < 34 → q a = h a := fun a ha => zq1 a (by omega)
      have eJq : q 8 6 = nI J := by rw [zq 8 (by decide)]; exact eJ
      have eCq : q 8 7 = nI C := by rw [zq 8 (by decide)]; exact eC
      have eUq : q 8 1 = nI u := by rw [zq 8 (by decide)]; exact eU
      have enq : q 32 1 = nI nx := by rw [zq 32 (by decide)]; exact en
      have ecq : q 32 2 = nI ct := by rw [zq 32 (by decide)]; exact ec
      have eτ : zτC q J C u = zτC h J C u := zτC_congr (zq 8 (by decide)) (zq 9 (by decide)) (zq 10 (by decide))
      have eδ : zδC q 13 = zδC h 13 := by unfold zδC; rw [zq 13 (by decide), zq (13 + 1) (by decide), zq (13 + 2) (by decide), zq (13 + 3) (by decide)]
      have hTq : ∀ si c b, 0 ≤ zd_t (zθC q 12 J C u) si c b := fun si c b => by rw [zθC_eq, eτ]; exact hT _ si c b
      refine zj_aload_n (i := 0) (pc := 44) K dX7_come_44 rfl rfl ?_
      refine zj_getR (pc := 45) K lf_X7_47 hs_B rfl dX7_come_45 ?_
      refine zj_cV0W (pc := 48) K lm_X7_224 hs_H (m_X3_keepPrepared enq hnx ecq hct) (by decide) rfl (Nat.le_of_ble_eq_true rfl) dX7_come_48 ?_
      have zw : ∀ a, a < 32 → (zj_s q 32 (upd (upd (q 32) 1 (nI ((nx + 1) % 11))) 2 (nI (min (ct + 1) 10)))) a = h a := fun a ha => by rw [zj_s_ne _ _ (by omega)]; exact zq a (by omega)
      refine zj_aload_n (i := 0) (pc := 51) K dX7_come_51 rfl rfl ?_
      refine zj_getR (pc := 52) K lf_X7_37 hs_B rfl dX7_come_52 ?_
      refine zj_getR (pc := 55) K lf_X7_97 hs_C rfl dX7_come_55 ?_
      refine zj_dup (pc := 58) K dX7_come_58 rfl ?_
      refine zj_getI (pc := 59) K lf_X7_128 hs_Cd rfl dX7_come_59 ?_
      refine zj_iconst (v := 1) (pc := 62) K dX7_come_62 (by decide) ?_
      refine zj_iload_n (i := 1) (pc := 63) K dX7_come_63 rfl rfl ?_
      refine zj_ishl (pc := 64) K dX7_come_64 ?_
      refine zj_iconst (v := -1) (pc := 65) K dX7_come_65 (by decide) ?_
      refine zj_ixor (pc := 66) K dX7_come_66 ?_
      refine zj_iand (pc := 67) K dX7_come_67 ?_
      refine zj_putI (pc := 68) K lf_X7_128 hs_Cd rfl dX7_come_68 ?_
      refine zj_aload_n (i := 0) (pc := 71) K dX7_come_71 rfl rfl ?_
      refine zj_getR (pc := 72) K lf_X7_37 hs_B rfl dX7_come_72 ?_
      refine zj_getR (pc := 75) K lf_X7_97 hs_C rfl dX7_come_75 ?_
      refine zj_getI (pc := 78) K lf_X7_128 hs_Cd rfl dX7_come_78 ?_
      refine zj_cS1I (pc := 81) K lm_X7_236 (m_J6_bitCount_0f7a4) (by decide) rfl (Nat.le_of_ble_eq_true rfl) dX7_come_81 ?_
      exact zj_iret K Rt dX7_come_84 (by
        have hye := zo_come_s (C := C) (u := u) ej (by omega) c_8 c_25
        have ew : (zj_s q 32 (upd (upd (q 32) 1 (nI ((nx + 1) % 11))) 2 (nI (min (ct + 1) 10)))) 13 1 &&& ((1 : Int32) <<< (y &&& 31) ^^^ -1) = zr_stay (h 13 1) j := by rw [zw 13 (by decide), ej]; rfl
        rw [ew]
        have zb : ∀ a, (a < 12 ∨ 22 ≤ a) → (zj_s (zj_s q 32 (upd (upd (q 32) 1 (nI ((nx + 1) % 11))) 2 (nI (min (ct + 1) 10)))) 13 (upd ((zj_s q 32 (upd (upd (q 32) 1 (nI ((nx + 1) % 11))) 2 (nI (min (ct + 1) 10)))) 13) 1 (zr_stay (h 13 1) j))) a = (zj_s q 32 (upd (upd (q 32) 1 (nI ((nx + 1) % 11))) 2 (nI (min (ct + 1) 10)))) a := fun a ha => zj_s_ne _ _ (by omega)
        have hδ : zδC (zj_s (zj_s q 32 (upd (upd (q 32) 1 (nI ((nx + 1) % 11))) 2 (nI (min (ct + 1) 10)))) 13 (upd ((zj_s q 32 (upd (upd (q 32) 1 (nI ((nx + 1) % 11))) 2 (nI (min (ct + 1) 10)))) 13) 1 (zr_stay (h 13 1) j))) 13 = (h 13 0, zr_stay (h 13 1) j, h 14, h 15, h 16) := by
          unfold zδC
          rw [zj_s_eq, zj_s_ne _ _ (show 13 + 1 ≠ 13 by decide), zj_s_ne _ _ (show 13 + 2 ≠ 13 by decide), zj_s_ne _ _ (show 13 + 3 ≠ 13 by decide), zw 13 (by decide), zw (13 + 1) (by decide), zw (13 + 2) (by decide), zw (13 + 3) (by decide)]
          rfl
        have hm := zk_mk_keep2 (ct := ct) hnx zq1 zq2 zb hδ
        refine ⟨rfl, hm.1, ?_⟩
        rw [hye]
        refine ⟨?_, hm.2⟩
        obtain ⟨mm, hmm, emm⟩ := zo_stay_512 eaw haw (show j < 9 by omega)
        rw [show (zj_s (zj_s q 32 (upd (upd (q 32) 1 (nI ((nx + 1) % 11))) 2 (nI (min (ct + 1) 10)))) 13 (upd ((zj_s q 32 (upd (upd (q 32) 1 (nI ((nx + 1) % 11))) 2 (nI (min (ct + 1) 10)))) 13) 1 (zr_stay (h 13 1) j))) 13 1 = zr_stay (h 13 1) j from rfl, emm, zz_bc_pop mm hmm])
    · replace c_25 := zz_i0.mp c_25
      have hno : zo_come (zτC h J C u) (zδC h 13) y = none := zo_come_n (Or.inr ⟨ej, by omega, c_25⟩)
      refine zj_iconst (v := -1) (pc := 28) K dX7_come_28 (by decide) ?_
      exact zj_iret K Rt dX7_come_29 (⟨rfl, (zk_rfl (nx := nx)).1, by rw [hno]; exact ⟨rfl, zk_rfl.2⟩⟩)

set_option maxHeartbeats 4000000 in
set_option maxRecDepth 20000 in
theorem m_X7_hear {l : Launch} {E : zj_E} {h : zj_H} {g : zj_G} {J C u nx ct : Nat} (eJ : h 8 6 = nI J) (hJ : J ≤ 9) (eC : h 8 7 = nI C) (hC : C ≤ 14) (eU : h 8 1 = nI u) (hU : u ≤ 20) (hT : ∀ δ si c b, 0 ≤ zd_t (zθo (zτC h J C u) δ) si c b) (en : h 32 1 = nI nx) (hnx : nx < 11) (ec : h 32 2 = nI ct) (hct : ct ≤ 10) {x : Int32} : zj_M l E yX7_hear cX7_hear 2 (some .int) 4 [.ref (E.2.1 0), .int x] h g (fun v h' g' => g' = g ∧ zk_fr h h' ∧ zk_post h h' nx ct v (zo_hear (zτC h J C u) (zδC h 13) x)) := by
  refine zj_M.of RX7 (by decide) rfl (Nat.le_of_ble_eq_true rfl) ?_
  intro Γ hΓ K Rt
  subst hΓ
  have hk : zj_isC 12 := Or.inl rfl
  show zj_J E Γ 2 0 [(0, .ref (E.2.1 0)), (1, .int x)] [] h g
  refine zj_aload_n (i := 0) (pc := 0) K dX7_hear_0 rfl rfl ?_
  refine zj_getR (pc := 1) K lf_X7_37 hs_B rfl dX7_hear_1 ?_
  refine zj_iload_n (i := 1) (pc := 4) K dX7_hear_4 rfl rfl ?_
  refine zj_cV1I (pc := 5) K lm_X7_227 hs_C (m_X0_isSet hk eC hC) (by decide) rfl (Nat.le_of_ble_eq_true rfl) dX7_hear_5 ?_
  refine zj_if_ne (tgt := 13) (pc := 8) K dX7_hear_8 (by decide) (fun c_8 => ?_) (fun c_8 => ?_)
  · replace c_8 := zz_n0.mp c_8
    obtain ⟨c, hc, ei, hst⟩ := zx_set c_8 hC
    have hxC : zz_in x C = true := by rw [ei]; exact zz_in_nI hc (by omega)
    refine zj_aload_n (i := 0) (pc := 13) K dX7_hear_13 rfl rfl ?_
    refine zj_getR (pc := 14) K lf_X7_47 hs_B rfl dX7_hear_14 ?_
    refine zj_aload_n (i := 0) (pc := 17) K dX7_hear_17 rfl rfl ?_
    refine zj_getR (pc := 18) K lf_X7_37 hs_B rfl dX7_hear_18 ?_
    refine zj_getR (pc := 21) K lf_X7_97 hs_C rfl dX7_hear_21 ?_
    refine zj_cV1P (pc := 24) K lm_X7_217 hs_H (m_X3_prepare en hnx) (by decide) rfl (Nat.le_of_ble_eq_true rfl) dX7_hear_24 (fun v q g1 hp => ?_)
    obtain ⟨rfl, rfl, zq1, zq2⟩ := hp
    have zq : ∀ a, a < 34 → q a = h a := fun a ha => zq1 a (by omega)
    have eJq : q 8 6 = nI J := by rw [zq 8 (by decide)]; exact eJ
    have eCq : q 8 7 = nI C := by rw [zq 8 (by decide)]; exact eC
    have eUq : q 8 1 = nI u := by rw [zq 8 (by decide)]; exact eU
    have enq : q 32 1 = nI nx := by rw [zq 32 (by decide)]; exact en
    have ecq : q 32 2 = nI ct := by rw [zq 32 (by decide)]; exact ec
    have eτ : zτC q J C u = zτC h J C u := zτC_congr (zq 8 (by decide)) (zq 9 (by decide)) (zq 10 (by decide))
    have eδ : zδC q 13 = zδC h 13 := by unfold zδC; rw [zq 13 (by decide), zq (13 + 1) (by decide), zq (13 + 2) (by decide), zq (13 + 3) (by decide)]
    have hTq : ∀ si c b, 0 ≤ zd_t (zθC q 12 J C u) si c b := fun si c b => by rw [zθC_eq, eτ]; exact hT _ si c b
    refine zj_aload_n (i := 0) (pc := 27) K dX7_hear_27 rfl rfl ?_
    refine zj_getR (pc := 28) K lf_X7_47 hs_B rfl dX7_hear_28 ?_
    refine zj_cV0W (pc := 31) K lm_X7_224 hs_H (m_X3_keepPrepared enq hnx ecq hct) (by decide) rfl (Nat.le_of_ble_eq_true rfl) dX7_hear_31 ?_
    have zw : ∀ a, a < 32 → (zj_s q 32 (upd (upd (q 32) 1 (nI ((nx + 1) % 11))) 2 (nI (min (ct + 1) 10)))) a = h a := fun a ha => by rw [zj_s_ne _ _ (by omega)]; exact zq a (by omega)
    refine zj_aload_n (i := 0) (pc := 34) K dX7_hear_34 rfl rfl ?_
    refine zj_getR (pc := 35) K lf_X7_37 hs_B rfl dX7_hear_35 ?_
    refine zj_getR (pc := 38) K lf_X7_97 hs_C rfl dX7_hear_38 ?_
    refine zj_getR (pc := 41) K lf_X7_163 hs_Cd rfl dX7_hear_41 ?_
    refine zj_iload_n (i := 1) (pc := 44) K dX7_hear_44 rfl rfl ?_
    refine zj_iconst (v := 2) (pc := 45) K dX7_hear_45 (by decide) ?_
    refine zj_ast (j := c) (pc := 46) K hs_Cs ei (by omega) (by first | decide | omega) dX7_hear_46 ?_
    refine zj_aload_n (i := 0) (pc := 47) K dX7_hear_47 rfl rfl ?_
    refine zj_getR (pc := 48) K lf_X7_37 hs_B rfl dX7_hear_48 ?_
    refine zj_iconst (v := 2) (pc := 51) K dX7_hear_51 (by decide) ?_
    refine zj_cV1I (pc := 52) K lm_X7_106 hs_C (m_X0_casesAt (C := C) hk (by rw [zj_s_ne _ _ (by decide), zw 8 (by decide)]; exact eC) hC) (by decide) rfl (Nat.le_of_ble_eq_true rfl) dX7_hear_52 ?_
    exact zj_iret K Rt dX7_hear_55 (by
      have hye := zo_hear_s (J := J) (u := u) ei (by omega) hxC hst
      have w14 : (zj_s (zj_s q 32 (upd (upd (q 32) 1 (nI ((nx + 1) % 11))) 2 (nI (min (ct + 1) 10)))) 14 (upd ((zj_s q 32 (upd (upd (q 32) 1 (nI ((nx + 1) % 11))) 2 (nI (min (ct + 1) 10)))) 14) c 2)) 14 = upd (h 14) c 2 := by rw [zj_s_eq, zw 14 (by decide)]
      have zb : ∀ a, (a < 12 ∨ 22 ≤ a) → (zj_s (zj_s q 32 (upd (upd (q 32) 1 (nI ((nx + 1) % 11))) 2 (nI (min (ct + 1) 10)))) 14 (upd ((zj_s q 32 (upd (upd (q 32) 1 (nI ((nx + 1) % 11))) 2 (nI (min (ct + 1) 10)))) 14) c 2)) a = (zj_s q 32 (upd (upd (q 32) 1 (nI ((nx + 1) % 11))) 2 (nI (min (ct + 1) 10)))) a := fun a ha => zj_s_ne _ _ (by omega)
      have hδ : zδC (zj_s (zj_s q 32 (upd (upd (q 32) 1 (nI ((nx + 1) % 11))) 2 (nI (min (ct + 1) 10)))) 14 (upd ((zj_s q 32 (upd (upd (q 32) 1 (nI ((nx + 1) % 11))) 2 (nI (min (ct + 1) 10)))) 14) c 2)) 13 = (h 13 0, h 13 1, upd (h 14) c 2, h 15, h 16) := by
        unfold zδC
        rw [show (13 + 1) = 14 from rfl, w14, zj_s_ne _ _ (show 13 ≠ 14 by decide), zj_s_ne _ _ (show 13 + 2 ≠ 14 by decide), zj_s_ne _ _ (show 13 + 3 ≠ 14 by decide), zw 13 (by decide), zw (13 + 2) (by decide), zw (13 + 3) (by decide)]
      have hm := zk_mk_keep2 (ct := ct) hnx zq1 zq2 zb hδ
      exact ⟨rfl, hm.1, by rw [hye]; exact ⟨by rw [show (12 + 2) = 14 from rfl, w14], hm.2⟩⟩)
  · replace c_8 := zz_i0.mp c_8
    have hno : zo_hear (zτC h J C u) (zδC h 13) x = none := zo_hear_n c_8
    refine zj_iconst (v := -1) (pc := 11) K dX7_hear_11 (by decide) ?_
    exact zj_iret K Rt dX7_hear_12 (⟨rfl, (zk_rfl (nx := nx)).1, by rw [hno]; exact ⟨rfl, zk_rfl.2⟩⟩)
