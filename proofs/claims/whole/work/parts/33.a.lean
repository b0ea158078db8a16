section ZOC
variable {h : zj_H} {J C u : Nat} {x y : Int32} {c : Nat}
theorem zo_draw_n1 (hx : zz_in x C = false) : zo_draw (zτC h J C u) (zδC h 13) x = none := by rw [zo_draw, if_neg (fun z => by have := z.1; rw [show zz_in x (zτC h J C u).2.1 = false from hx] at this; cases this)]
theorem zo_draw_n2 (ex : x = nI c) (hc : c < 14) (hs : ¬ h 14 c = 0) : zo_draw (zτC h J C u) (zδC h 13) x = none := by
  rw [zo_draw, if_neg (fun z => hs (by have z2 := z.2.1; rw [ex, nI_clamp (by omega)] at z2; exact z2))]
theorem zo_draw_n3 (ex : x = nI c) (hc : c < 14) (hp : zd_pool (zθo (zτC h J C u) (zδC h 13)) (h 15) c = []) : zo_draw (zτC h J C u) (zδC h 13) x = none := by
  rw [zo_draw, if_neg (fun z => z.2.2 (by rw [ex, nI_clamp (by omega)]; exact hp))]
theorem zo_draw_s (ex : x = nI c) (hc : c < 14) (hx : zz_in x C = true) (hs : h 14 c = 0) (hp : zd_pool (zθo (zτC h J C u) (zδC h 13)) (h 15) c ≠ []) : zo_draw (zτC h J C u) (zδC h 13) x =
    some ((zd_pool (zθo (zτC h J C u) (zδC h 13)) (h 15) c).getD (zp_ix (zd_seed (h 13 0)) (zd_pool (zθo (zτC h J C u) (zδC h 13)) (h 15) c).length) 0,
      (zd_seed (h 13 0), h 13 1, upd (h 14) c 1, upd (h 15) c ((zd_pool (zθo (zτC h J C u) (zδC h 13)) (h 15) c).getD (zp_ix (zd_seed (h 13 0)) (zd_pool (zθo (zτC h J C u) (zδC h 13)) (h 15) c).length) 0), h 16)) := by
  subst ex
  rw [zo_draw, nI_clamp (by omega), if_pos ⟨hx, hs, hp⟩]; rfl
end ZOC
theorem zd_all_0 {θ : zθ} {s0 : Int32} {st0 si0 : Nat → Int32} : ∀ {c : Nat}, (zd_all θ s0 st0 si0 c).1 = 0 → zd_all θ s0 st0 si0 c = (0, s0, st0, si0)
  | 0, _ => rfl
  | c + 1, h => by
    rw [zd_all] at h ⊢
    split at h
    · cases h
    · next hh => rw [if_neg hh]; exact zd_all_0 h
theorem zo_all_0 {τ : zτ} {δ : zδ} (h : (zo_all τ δ).1 = 0) : (zo_all τ δ).2 = δ := by
  have e : zo_dall τ δ = (0, δ.1, δ.2.2.1, δ.2.2.2.1) := zd_all_0 h
  unfold zo_all
  rw [e]
set_option maxHeartbeats 4000000 in
set_option maxRecDepth 20000 in
theorem m_X7_draw {l : Launch} {E : zj_E} {h : zj_H} {g : zj_G} {J C u nx ct : Nat} (eJ : h 8 6 = nI J) (hJ : J ≤ 9) (eC : h 8 7 = nI C) (hC : C ≤ 14) (eU : h 8 1 = nI u) (hU : u ≤ 20) (hT : ∀ δ si c b, 0 ≤ zd_t (zθo (zτC h J C u) δ) si c b) (en : h 32 1 = nI nx) (hnx : nx < 11) (ec : h 32 2 = nI ct) (hct : ct ≤ 10) {x : Int32} : zj_M l E yX7_draw cX7_draw 3 (some .int) 5 [.ref (E.2.1 0), .int x] h g (fun v h' g' => g' = g ∧ zk_fr h h' ∧ zk_post h h' nx ct v (zo_draw (zτC h J C u) (zδC h 13) x)) := by
  refine zj_M.of RX7 (by decide) rfl (Nat.le_of_ble_eq_true rfl) ?_
  intro Γ hΓ K Rt
  subst hΓ
  have hk : zj_isC 12 := Or.inl rfl
  show zj_J E Γ 3 0 [(0, .ref (E.2.1 0)), (1, .int x)] [] h g
  refine zj_aload_n (i := 0) (pc := 0) K dX7_draw_0 rfl rfl ?_
  refine zj_getR (pc := 1) K lf_X7_28 hs_B rfl dX7_draw_1 ?_
  refine zj_iload_n (i := 1) (pc := 4) K dX7_draw_4 rfl rfl ?_
  refine zj_cV1I (pc := 5) K lm_X7_152 hs_D (m_X6_hasCase (Or.inr rfl) (by assumption) (by omega)) (by decide) rfl (Nat.le_of_ble_eq_true rfl) dX7_draw_5 ?_
  refine zj_if_eq (tgt := 26) (pc := 8) K dX7_draw_8 (by decide) (fun c_8 => ?_) (fun c_8 => ?_)
  · replace c_8 := zz_i0.mp c_8
    have hno : zo_draw (zτC h J C u) (zδC h 13) x = none := zo_draw_n1 c_8
    refine zj_iconst (v := -1) (pc := 26) K dX7_draw_26 (by decide) ?_
    exact zj_iret K Rt dX7_draw_27 (⟨rfl, (zk_rfl (nx := nx)).1, by rw [hno]; exact ⟨rfl, zk_rfl.2⟩⟩)
  · replace c_8 := zz_n0.mp c_8
    obtain ⟨c, hc, ei⟩ := zz_in_ex c_8 (by omega)
    refine zj_aload_n (i := 0) (pc := 11) K dX7_draw_11 rfl rfl ?_
    refine zj_getR (pc := 12) K lf_X7_37 hs_B rfl dX7_draw_12 ?_
    refine zj_getR (pc := 15) K lf_X7_97 hs_C rfl dX7_draw_15 ?_
    refine zj_getR (pc := 18) K lf_X7_163 hs_Cd rfl dX7_draw_18 ?_
    refine zj_iload_n (i := 1) (pc := 21) K dX7_draw_21 rfl rfl ?_
    refine zj_ald (j := c) (pc := 22) K hs_Cs ei (by omega) (by first | decide | omega) dX7_draw_22 ?_
    refine zj_if_eq (tgt := 28) (pc := 23) K dX7_draw_23 (by decide) (fun c_23 => ?_) (fun c_23 => ?_)
    · refine zj_aload_n (i := 0) (pc := 28) K dX7_draw_28 rfl rfl ?_
      refine zj_getR (pc := 29) K lf_X7_47 hs_B rfl dX7_draw_29 ?_
      refine zj_aload_n (i := 0) (pc := 32) K dX7_draw_32 rfl rfl ?_
      refine zj_getR (pc := 33) K lf_X7_37 hs_B rfl dX7_draw_33 ?_
      refine zj_getR (pc := 36) K lf_X7_97 hs_C rfl dX7_draw_36 ?_
      refine zj_cV1P (pc := 39) K lm_X7_217 hs_H (m_X3_prepare en hnx) (by decide) rfl (Nat.le_of_ble_eq_true rfl) dX7_draw_39 (fun v q g1 hp => ?_)
      obtain ⟨rfl, rfl, zq1, zq2⟩ := hp
      have zq : ∀ a, a < 34 → q a = h a := fun a ha => zq1 a (by omega)
      have eJq : q 8 6 = nI J := by rw [zq 8 (by decide)]; exact eJ
      have eCq : q 8 7 = nI C := by rw [zq 8 (by decide)]; exact eC
      have eUq : q 8 1 = nI u := by rw [zq 8 (by decide)]; exact eU
      have enq : q 32 1 = nI nx := by rw [zq 32 (by decide)]; exact en
      have ecq : q 32 2 = nI ct := by rw [zq 32 (by decide)]; exact ec
      have eτ : zτC q J C u = zτC h J C u := zτC_congr (zq 8 (by decide)) (zq 9 (by decide)) (zq 10 (by decide))
      have eδ : zδC q 13 = zδC h 13 := by unfold zδC; rw [zq 13 (by decide), zq (13 + 1) (by decide), zq (13 + 2) (by decide), zq (13 + 3) (by decide)]
      have hTq : ∀ si c b, 0 ≤ zd_t (zθC q 12 J C u) si c b := fun si c b => by rw [zθC_eq, eτ]; exact hT _ si c b
      refine zj_aload_n (i := 0) (pc := 42) K dX7_draw_42 rfl rfl ?_
      refine zj_getR (pc := 43) K lf_X7_37 hs_B rfl dX7_draw_43 ?_
      refine zj_iload_n (i := 1) (pc := 46) K dX7_draw_46 rfl rfl ?_
      refine zj_cV1P (pc := 47) K lm_X7_221 hs_C (m_X0_drawOne (J := J) (C := C) (u := u) hk eJq hJ eCq hC eUq hU hTq ei (by omega)) (by decide) rfl (Nat.le_of_ble_eq_true rfl) dX7_draw_47 (fun v q2 g2 hp => ?_)
      obtain ⟨r, rfl, rfl, zs1, hr⟩ := hp
      rw [zθC_eq, eτ, show zδC q (12 + 1) = zδC h 13 from eδ, show q (12 + 3) = h 15 from zq 15 (by decide), show q (12 + 1) = h 13 from zq 13 (by decide), show q (12 + 2) = h 14 from zq 14 (by decide)] at hr
      have zb : ∀ a, (a < 12 ∨ 22 ≤ a) → q2 a = q a := fun a ha => zs1 a (by omega) (by omega) (by omega) (by omega) (by omega) (by omega) (by omega) (by omega)
      refine zj_istore_n (i := 2) (pc := 50) K dX7_draw_50 rfl rfl rfl rfl ?_
      refine zj_iload_n (i := 2) (pc := 51) K dX7_draw_51 rfl rfl ?_
      refine zj_iconst (v := -1) (pc := 52) K dX7_draw_52 (by decide) ?_
      refine zj_icmp_eq (tgt := 63) (pc := 53) K dX7_draw_53 (by decide) (fun c_53 => ?_) (fun c_53 => ?_)
      · have hpe : zd_pool (zθo (zτC h J C u) (zδC h 13)) (h 15) c = [] := by
          rcases hr with ⟨hr, -⟩ | ⟨hr, er, -⟩
          · exact hr
          · exfalso
            have hm := zz_getD_mem (zp_ix_lt (s := zd_seed (h 13 0)) (List.length_pos_iff.mpr hr))
            rw [← er, c_53] at hm
            exact (zl_ne hJ (zd_pool_mem hm)).1 rfl
        obtain ⟨_, _, zs2, zs3, zs4⟩ := hr.resolve_right (fun z => z.1 hpe)
        have hno : zo_draw (zτC h J C u) (zδC h 13) x = none := zo_draw_n3 ei (by omega) hpe
        refine zj_iload_n (i := 2) (pc := 63) K dX7_draw_63 rfl rfl ?_
        exact zj_iret K Rt dX7_draw_64 (by
          first
          | (have hδ : zδC q2 13 = zδC h 13 := by
               have z16 : q2 16 = h 16 := by rw [zs1 16 (by decide) (by decide) (by decide) (by decide) (by decide) (by decide) (by decide) (by decide), zq 16 (by decide)]
               unfold zδC; rw [show q2 13 = h 13 from zs2, show q2 (13 + 1) = h 14 from zs3, show q2 (13 + 2) = h 15 from zs4, show q2 (13 + 3) = h 16 from z16]
             have hm := zk_mk_stay hnx zq1 zb hδ
             exact ⟨rfl, hm.1, by rw [hno]; exact ⟨by rw [c_53], hm.2⟩⟩)
          | (have hδ : zδC q2 13 = (zd_seed (h 13 0), h 13 1, upd (h 14) c 1, upd (h 15) c r, h 16) := by
               have z16 : q2 16 = h 16 := by rw [zs1 16 (by decide) (by decide) (by decide) (by decide) (by decide) (by decide) (by decide) (by decide), zq 16 (by decide)]
               unfold zδC; rw [show q2 13 = _ from zs2, show q2 (13 + 1) = _ from zs3, show q2 (13 + 2) = _ from zs4, show q2 (13 + 3) = h 16 from z16]; rfl
             have hm := zk_mk_keep (ct := ct) hnx zq1 zq2 zb hδ
             exact ⟨rfl, hm.1, by rw [hye, ← er]; exact ⟨rfl, hm.2⟩⟩))
      · obtain ⟨hpe, er, zs2, zs3, zs4⟩ := hr.resolve_left (fun z => c_53 z.2.1)
        have hye := zo_draw_s (J := J) (C := C) (u := u) ei (by omega) c_8 c_23 hpe
        refine zj_aload_n (i := 0) (pc := 56) K dX7_draw_56 rfl rfl ?_
        refine zj_getR (pc := 57) K lf_X7_47 hs_B rfl dX7_draw_57 ?_
        refine zj_cV0W (pc := 60) K lm_X7_224 hs_H (m_X3_keepPrepared (by rw [zb 32 (by decide)]; exact enq) hnx (by rw [zb 32 (by decide)]; exact ecq) hct) (by decide) rfl (Nat.le_of_ble_eq_true rfl) dX7_draw_60 ?_
        refine zj_iload_n (i := 2) (pc := 63) K dX7_draw_63 rfl rfl ?_
        exact zj_iret K Rt dX7_draw_64 (by
          first
          | (have hδ : zδC q2 13 = zδC h 13 := by
               have z16 : q2 16 = h 16 := by rw [zs1 16 (by decide) (by decide) (by decide) (by decide) (by decide) (by decide) (by decide) (by decide), zq 16 (by decide)]
               unfold zδC; rw [show q2 13 = h 13 from zs2, show q2 (13 + 1) = h 14 from zs3, show q2 (13 + 2) = h 15 from zs4, show q2 (13 + 3) = h 16 from z16]
             have hm := zk_mk_stay hnx zq1 zb hδ
             exact ⟨rfl, hm.1, by rw [hno]; exact ⟨by rw [c_53], hm.2⟩⟩)
          | (have hδ : zδC q2 13 = (zd_seed (h 13 0), h 13 1, upd (h 14) c 1, upd (h 15) c r, h 16) := by
               have z16 : q2 16 = h 16 := by rw [zs1 16 (by decide) (by decide) (by decide) (by decide) (by decide) (by decide) (by decide) (by decide), zq 16 (by decide)]
               unfold zδC; rw [show q2 13 = _ from zs2, show q2 (13 + 1) = _ from zs3, show q2 (13 + 2) = _ from zs4, show q2 (13 + 3) = h 16 from z16]; rfl
             have hm := zk_mk_keep (ct := ct) hnx zq1 zq2 zb hδ
             exact ⟨rfl, hm.1, by rw [hye, ← er]; exact ⟨rfl, hm.2⟩⟩))
    · have hno : zo_draw (zτC h J C u) (zδC h 13) x = none := zo_draw_n2 ei (by omega) c_23
      refine zj_iconst (v := -1) (pc := 26) K dX7_draw_26 (by decide) ?_
      exact zj_iret K Rt dX7_draw_27 (⟨rfl, (zk_rfl (nx := nx)).1, by rw [hno]; exact ⟨rfl, zk_rfl.2⟩⟩)

set_option maxHeartbeats 4000000 in
set_option maxRecDepth 20000 in
theorem m_X7_drawAll {l : Launch} {E : zj_E} {h : zj_H} {g : zj_G} {J C u nx ct : Nat} (eJ : h 8 6 = nI J) (hJ : J ≤ 9) (eC : h 8 7 = nI C) (hC : C ≤ 14) (eU : h 8 1 = nI u) (hU : u ≤ 20) (hT : ∀ δ si c b, 0 ≤ zd_t (zθo (zτC h J C u) δ) si c b) (en : h 32 1 = nI nx) (hnx : nx < 11) (ec : h 32 2 = nI ct) (hct : ct ≤ 10)  : zj_M l E yX7_drawAll cX7_drawAll 2 (some .int) 6 [.ref (E.2.1 0)] h g (fun v h' g' => g' = g ∧ v = some (.int (nI (zo_all (zτC h J C u) (zδC h 13)).1)) ∧ zk_fr h h' ∧ if (zo_all (zτC h J C u) (zδC h 13)).1 = 0 then zk_stay h h' nx else zk_keep h h' nx ct (zo_all (zτC h J C u) (zδC h 13)).2) := by
  refine zj_M.of RX7 (by decide) rfl (Nat.le_of_ble_eq_true rfl) ?_
  intro Γ hΓ K Rt
  subst hΓ
  have hk : zj_isC 12 := Or.inl rfl
  show zj_J E Γ 2 0 [(0, .ref (E.2.1 0))] [] h g
  refine zj_aload_n (i := 0) (pc := 0) K dX7_drawAll_0 rfl rfl ?_
  refine zj_getR (pc := 1) K lf_X7_47 hs_B rfl dX7_drawAll_1 ?_
  refine zj_aload_n (i := 0) (pc := 4) K dX7_drawAll_4 rfl rfl ?_
  refine zj_getR (pc := 5) K lf_X7_37 hs_B rfl dX7_drawAll_5 ?_
  refine zj_getR (pc := 8) K lf_X7_97 hs_C rfl dX7_drawAll_8 ?_
  refine zj_cV1P (pc := 11) K lm_X7_217 hs_H (m_X3_prepare en hnx) (by decide) rfl (Nat.le_of_ble_eq_true rfl) dX7_drawAll_11 (fun v q g1 hp => ?_)
  obtain ⟨rfl, rfl, zq1, zq2⟩ := hp
  have zq : ∀ a, a < 34 → q a = h a := fun a ha => zq1 a (by omega)
  have eJq : q 8 6 = nI J := by rw [zq 8 (by decide)]; exact eJ
  have eCq : q 8 7 = nI C := by rw [zq 8 (by decide)]; exact eC
  have eUq : q 8 1 = nI u := by rw [zq 8 (by decide)]; exact eU
  have enq : q 32 1 = nI nx := by rw [zq 32 (by decide)]; exact en
  have ecq : q 32 2 = nI ct := by rw [zq 32 (by decide)]; exact ec
  have eτ : zτC q J C u = zτC h J C u := zτC_congr (zq 8 (by decide)) (zq 9 (by decide)) (zq 10 (by decide))
  have eδ : zδC q 13 = zδC h 13 := by unfold zδC; rw [zq 13 (by decide), zq (13 + 1) (by decide), zq (13 + 2) (by decide), zq (13 + 3) (by decide)]
  have hTq : ∀ si c b, 0 ≤ zd_t (zθC q 12 J C u) si c b := fun si c b => by rw [zθC_eq, eτ]; exact hT _ si c b
  refine zj_aload_n (i := 0) (pc := 14) K dX7_drawAll_14 rfl rfl ?_
  refine zj_getR (pc := 15) K lf_X7_37 hs_B rfl dX7_drawAll_15 ?_
  refine zj_cV0P (pc := 18) K lm_X7_84 hs_C (m_X0_drawEveryOpen (J := J) (C := C) (u := u) hk eJq hJ eCq hC eUq hU hTq) (by decide) rfl (Nat.le_of_ble_eq_true rfl) dX7_drawAll_18 (fun v q2 g2 hp => ?_)
  obtain ⟨rfl, rfl, zs1, zs2, zs3, zs4⟩ := hp
  rw [zθC_eq, eτ, show zδC q (12 + 1) = zδC h 13 from eδ, show q (12 + 3) = h 15 from zq 15 (by decide), show q (12 + 1) = h 13 from zq 13 (by decide), show q (12 + 2) = h 14 from zq 14 (by decide)] at zs2 zs3 zs4 ⊢
  have zb : ∀ a, (a < 12 ∨ 22 ≤ a) → q2 a = q a := fun a ha => zs1 a (by omega) (by omega) (by omega) (by omega) (by omega) (by omega) (by omega) (by omega)
  have hle : (zo_all (zτC h J C u) (zδC h 13)).1 ≤ C := zd_all_le _ _ _ _ _
  have z16 : q2 16 = h 16 := by rw [zs1 16 (by decide) (by decide) (by decide) (by decide) (by decide) (by decide) (by decide) (by decide), zq 16 (by decide)]
  have hδ : zδC q2 13 = (zo_all (zτC h J C u) (zδC h 13)).2 := by
    unfold zδC; rw [show q2 13 = _ from zs2, show q2 (13 + 1) = _ from zs3, show q2 (13 + 2) = _ from zs4, show q2 (13 + 3) = h 16 from z16]; rfl
  refine zj_top (x' := nI (zo_all (zτC h J C u) (zδC h 13)).1) rfl ?_
  refine zj_istore_n (i := 1) (pc := 21) K dX7_drawAll_21 rfl rfl rfl rfl ?_
  refine zj_iload_n (i := 1) (pc := 22) K dX7_drawAll_22 rfl rfl ?_
  refine zj_if_le (tgt := 33) (pc := 23) K dX7_drawAll_23 (by decide) (fun c_23 => ?_) (fun c_23 => ?_)
  · have h0 : (zo_all (zτC h J C u) (zδC h 13)).1 = 0 := by
      have := (nI_leI (b := 0) (by omega) (by omega)).mp c_23
      omega
    refine zj_iload_n (i := 1) (pc := 33) K dX7_drawAll_33 rfl rfl ?_
    exact zj_iret K Rt dX7_drawAll_34 (by
      first
      | (have hδ2 : zδC q2 13 = zδC h 13 := by rw [hδ]; exact zo_all_0 h0
         have hm := zk_mk_stay hnx zq1 zb hδ2
         exact ⟨rfl, rfl, hm.1, by rw [if_pos h0]; exact hm.2⟩)
      | (have hm := zk_mk_keep (ct := ct) hnx zq1 zq2 zb hδ
         exact ⟨rfl, rfl, hm.1, by rw [if_neg h0]; exact hm.2⟩))
  · have h0 : ¬ (zo_all (zτC h J C u) (zδC h 13)).1 = 0 := fun e => c_23 (by rw [e]; decide)
    refine zj_aload_n (i := 0) (pc := 26) K dX7_drawAll_26 rfl rfl ?_
    refine zj_getR (pc := 27) K lf_X7_47 hs_B rfl dX7_drawAll_27 ?_
    refine zj_cV0W (pc := 30) K lm_X7_224 hs_H (m_X3_keepPrepared (by rw [zb 32 (by decide)]; exact enq) hnx (by rw [zb 32 (by decide)]; exact ecq) hct) (by decide) rfl (Nat.le_of_ble_eq_true rfl) dX7_drawAll_30 ?_
    refine zj_iload_n (i := 1) (pc := 33) K dX7_drawAll_33 rfl rfl ?_
    exact zj_iret K Rt dX7_drawAll_34 (by
      first
      | (have hδ2 : zδC q2 13 = zδC h 13 := by rw [hδ]; exact zo_all_0 h0
         have hm := zk_mk_stay hnx zq1 zb hδ2
         exact ⟨rfl, rfl, hm.1, by rw [if_pos h0]; exact hm.2⟩)
      | (have hm := zk_mk_keep (ct := ct) hnx zq1 zq2 zb hδ
         exact ⟨rfl, rfl, hm.1, by rw [if_neg h0]; exact hm.2⟩))
