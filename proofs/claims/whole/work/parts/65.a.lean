-- tensions and loads are never below 0
theorem zc_sum_nI {f : Nat → Int32} {B : Nat} : ∀ {n : Nat}, (∀ i, i < n → ∃ m, m ≤ B ∧ f i = nI m) → ∃ M, M ≤ n * B ∧ zc_sum f n = nI M
  | 0, _ => ⟨0, by omega, rfl⟩
  | n + 1, h => by
    obtain ⟨M, hM, eM⟩ := zc_sum_nI (n := n) (fun i hi => h i (by omega))
    obtain ⟨m, hm, em⟩ := h n (by omega)
    refine ⟨M + m, ?_, by rw [zc_sum, eM, em, nI_add]⟩
    rw [Nat.succ_mul]; omega
theorem zs_load_nI {C J : Nat} {B W sen : Nat → Int32} {chair wo : Int32} (hC : C ≤ 14) (hW : ∀ c, c < C → ∃ m, m ≤ 9 ∧ W c = nI m) (hch : ∃ m, m ≤ 9 ∧ chair = nI m) (j : Nat) : ∃ M, M ≤ 252 ∧ zs_load C J B W sen chair wo j = nI M := by
  obtain ⟨M, hM, eM⟩ := zc_sum_nI (B := 18) (n := C) (f := fun i => if (decide (¬ nI i = wo) && bt (B i) j) = true then W i + (if zc_opt (zc_pre sen (B i) J) = nI j then chair else 0) else 0) (fun i hi => by
    obtain ⟨m, hm, em⟩ := hW i hi
    obtain ⟨k, hk, ek⟩ := hch
    by_cases h1 : (decide (¬ nI i = wo) && bt (B i) j) = true
    · by_cases h2 : zc_opt (zc_pre sen (B i) J) = nI j
      · exact ⟨m + k, by omega, by rw [if_pos h1, if_pos h2, em, ek, nI_add]⟩
      · exact ⟨m, by omega, by rw [if_pos h1, if_neg h2, em]; exact nI_add m 0⟩
    · exact ⟨0, by omega, by rw [if_neg h1]; rfl⟩)
  exact ⟨M, by have : C * 18 ≤ 14 * 18 := Nat.mul_le_mul_right 18 hC; omega, eM⟩
theorem zs_ten_pos {even loaded chair : Int32} {J C : Nat} {sen W B : Nat → Int32} {wo b : Int32} (hJ : J ≤ 9) (hC : C ≤ 14) (h1 : ∃ m, m ≤ 9 ∧ even = nI m) (h2 : ∃ m, m ≤ 9 ∧ loaded = nI m) (h3 : ∃ m, m ≤ 9 ∧ chair = nI m) (hW : ∀ c, c < C → ∃ m, m ≤ 9 ∧ W c = nI m) : 0 ≤ zs_ten even loaded chair J C sen W B wo b := by
  obtain ⟨m1, hm1, e1⟩ := h1
  obtain ⟨m2, hm2, e2⟩ := h2
  obtain ⟨P, hP, eP⟩ := zc_sum_nI (B := 126) (n := J) (f := fun a => if bt b a = true then zc_sum (fun c => if bt b c = true then nI (zs_pair C B wo a c) else 0) a else 0) (fun a ha => by
    by_cases hb : bt b a = true
    · obtain ⟨Q, hQ, eQ⟩ := zc_sum_nI (B := 14) (n := a) (f := fun c => if bt b c = true then nI (zs_pair C B wo a c) else 0) (fun c hc => by
        by_cases hb2 : bt b c = true
        · exact ⟨zs_pair C B wo a c, Nat.le_trans (zc_cnt_le _ C) hC, if_pos hb2⟩
        · exact ⟨0, by omega, by rw [if_neg hb2]; rfl⟩)
      exact ⟨Q, by omega, by rw [if_pos hb]; exact eQ⟩
    · exact ⟨0, by omega, by rw [if_neg hb]; rfl⟩)
  obtain ⟨L, hL, eL⟩ := zc_sum_nI (B := 252) (n := J) (f := fun a => if bt b a = true then zs_load C J B W sen chair wo a else 0) (fun a ha => by
    by_cases hb : bt b a = true
    · obtain ⟨Q, hQ, eQ⟩ := zs_load_nI (J := J) (B := B) (sen := sen) (wo := wo) hC hW h3 a
      exact ⟨Q, hQ, by rw [if_pos hb]; exact eQ⟩
    · exact ⟨0, by omega, by rw [if_neg hb]; rfl⟩)
  unfold zs_ten
  rw [eP, eL, e1, e2, pk_mul, pk_mul, nI_add]
  apply nI_pos'
  have hP2 : P ≤ 1134 := by omega
  have hL2 : L ≤ 2268 := by omega
  have a1 : m1 * P ≤ 9 * 1134 := Nat.mul_le_mul hm1 hP2
  have a2 : m2 * L ≤ 9 * 2268 := Nat.mul_le_mul hm2 hL2
  omega
/-- what the class holds of a TEXT just read, as the row w tells it -/
def zt_told (h : zj_H) (w : zuW) (J C : Nat) : Prop := h 8 0 = w 4 ∧ h 8 1 = w 0 ∧ h 8 2 = w 1 ∧ h 8 3 = w 2 ∧ h 8 4 = w 3 ∧ h 8 6 = w 7 ∧ h 8 7 = w 18 ∧ h 8 8 = zc_mask (h 9) (if w 6 = 0 then 1 else w 6) J ∧ (∀ j, j < J → h 9 j = w (8 + j)) ∧ (∀ c, c < C → h 10 c = w (19 + c))
def zt_new (h : zj_H) (w : zuW) (C : Nat) : Prop := h 13 0 = w 4 ∧ h 13 1 = 0 ∧ (∀ c, c < 14 → h 14 c = 0) ∧ (∀ c, c < 14 → h 15 c = 0) ∧ (∀ c, c < C → h 16 c = w (33 + c)) ∧ h 32 2 = 0
def zt_δ0 (w : zuW) : zδ := (w 4, 0, fun _ => 0, fun _ => 0, fun c => w (33 + c))
def zt_anew (h : zj_H) (w : zuW) (J C u : Nat) : Prop := ∀ c, c < C → h 25 c = (zo_all (zτC h J C u) (zt_δ0 w)).2.2.2.2.1 c
theorem zτe_rfl (τ : zτ) : zτe τ τ := ⟨rfl, rfl, rfl, rfl, rfl, rfl, fun _ _ => rfl, fun _ _ => rfl, fun _ => rfl⟩
set_option maxHeartbeats 4000000 in
set_option maxRecDepth 20000 in
theorem m_X7_text {l : Launch} {E : zj_E} {h : zj_H} {g : zj_G} {n : Nat} {t : Nat → Int32} (et : h 2 = t) (eL : h 1 1 = nI n) (hn : n ≤ 540)  : zj_M l E yX7_text cX7_text 2 (some .int) 8 [.ref (E.2.1 0)] h g (fun v h' g' => g' = g ∧ h' 1 1 = 0 ∧ h' 2 = h 2 ∧ (∀ a, 78 ≤ a → h' a = h a) ∧ (match zu_text (zw_T t n) (zu_is t) n with
  | .inl (k, p) => v = some (.int (-1 - nI p)) ∧ h' 0 6 = nI k ∧ ∀ a, 8 ≤ a → h' a = h a
  | .inr (l, w) => v = some (.int (nI l)) ∧ h' 0 6 = 0 ∧ h' 32 1 = h 32 1 ∧ (∀ a, 34 ≤ a → h' a = h a) ∧ ∃ J C u, zu_wf w J C ∧ u ≤ 20 ∧ w 0 = nI u ∧ zt_told h' w J C ∧ zt_new h' w C ∧ zt_anew h' w J C u)) := by
  refine zj_M.of RX7 (by decide) rfl (Nat.le_of_ble_eq_true rfl) ?_
  intro Γ hΓ K Rt
  subst hΓ
  show zj_J E Γ 2 0 [(0, .ref (E.2.1 0))] [] h g
  refine zj_aload_n (i := 0) (pc := 0) K dX7_text_0 rfl rfl ?_
  refine zj_getR (pc := 1) K lf_X7_21 hs_B rfl dX7_text_1 ?_
  refine zj_cV0P (pc := 4) K lm_X7_62 hs_R (m_X4_read (n := n) (t := t) et eL hn) (by decide) rfl (Nat.le_of_ble_eq_true rfl) dX7_text_4 (fun v1 h1 g1 hp1 => ?_)
  obtain ⟨rfl, hF1, hp2⟩ := hp1
  have hx1 : ∃ x, v1 = some (.int (zz_i x)) ∧ (x = false → ∃ k p, zu_text (zw_T t n) (zu_is t) n = .inl (k, p) ∧ h1 3 2 = nI k ∧ h1 3 4 = nI p) ∧ (x = true → ∃ l w, zu_text (zw_T t n) (zu_is t) n = .inr (l, w) ∧ h1 3 2 = 0 ∧ h1 3 3 = nI l ∧ zu_d h1 w ∧ ∃ J C, zu_wf w J C) := by
    cases hr : zu_text (zw_T t n) (zu_is t) n with
    | inl kp => obtain ⟨k, p⟩ := kp; rw [hr] at hp2; exact ⟨false, hp2.1, fun _ => ⟨k, p, rfl, hp2.2.1, hp2.2.2.2.2⟩, fun z => by cases z⟩
    | inr lw => obtain ⟨l, w⟩ := lw; rw [hr] at hp2; exact ⟨true, hp2.1, fun z => (by cases z), fun _ => ⟨l, w, rfl, hp2.2⟩⟩
  obtain ⟨x1, rfl, hx0, hx2⟩ := hx1
  refine zj_istore_n (i := 1) (pc := 7) K dX7_text_7 rfl rfl rfl rfl ?_
  refine zj_aload_n (i := 0) (pc := 8) K dX7_text_8 rfl rfl ?_
  refine zj_getR (pc := 9) K lf_X7_10 hs_B rfl dX7_text_9 ?_
  refine zj_iconst (v := 0) (pc := 12) K dX7_text_12 (by decide) ?_
  refine zj_putI (pc := 13) K lf_X7_55 hs_T rfl dX7_text_13 ?_
  refine zj_aload_n (i := 0) (pc := 16) K dX7_text_16 rfl rfl ?_
  refine zj_aload_n (i := 0) (pc := 17) K dX7_text_17 rfl rfl ?_
  refine zj_getR (pc := 18) K lf_X7_21 hs_B rfl dX7_text_18 ?_
  refine zj_getI (pc := 21) K lf_X7_66 hs_R rfl dX7_text_21 ?_
  refine zj_putI (pc := 24) K lf_X7_51 hs_B rfl dX7_text_24 ?_
  refine zj_iload_n (i := 1) (pc := 27) K dX7_text_27 rfl rfl ?_
  refine zj_if_ne (tgt := 41) (pc := 28) K dX7_text_28 (by decide) (fun c_28 => ?_) (fun c_28 => ?_)
  · replace c_28 := zz_n0.mp c_28
    obtain ⟨l, w, hr, r2, r3, r4, J, C, hwf⟩ := hx2 c_28
    obtain ⟨u, hu, eu⟩ := hwf.2.2.2.2.2.2.1
    obtain ⟨d0, d1, d2, d3, d4, d5, d6, d7, d8, d9, d10, d11⟩ := r4
    refine zj_hn (fun h2 eh2 => ?_)
    have f0 : h2 0 6 = 0 := by rw [eh2]; exact r2
    have f1 : h2 1 1 = 0 := by rw [eh2]; rfl
    have f2 : h2 2 = h 2 := by rw [eh2]; exact hF1 2 (by decide)
    have f3 : h2 3 3 = nI l := by rw [eh2]; exact r3
    have f4 : h2 4 = h1 4 := by rw [eh2]; rfl
    have f5 : h2 5 = h1 5 := by rw [eh2]; rfl
    have f6 : h2 6 = h1 6 := by rw [eh2]; rfl
    have f7 : h2 7 = h1 7 := by rw [eh2]; rfl
    have f8 : ∀ a, 8 ≤ a → h2 a = h a := fun a ha => by rw [eh2, zj_s_ne _ _ (by omega), zj_s_ne _ _ (by omega)]; exact hF1 a (by omega)
    refine zj_aload_n (i := 0) (pc := 41) K dX7_text_41 rfl rfl ?_
    refine zj_getR (pc := 42) K lf_X7_28 hs_B rfl dX7_text_42 ?_
    refine zj_aload_n (i := 0) (pc := 45) K dX7_text_45 rfl rfl ?_
    refine zj_getR (pc := 46) K lf_X7_21 hs_B rfl dX7_text_46 ?_
    refine zj_getR (pc := 49) K lf_X7_72 hs_R rfl dX7_text_49 ?_
    refine zj_cV1P (pc := 52) K lm_X7_75 hs_D (m_X6_become (J := J) hwf.1 (by rw [f4]; exact d7.trans hwf.2.2.1)) (by decide) rfl (Nat.le_of_ble_eq_true rfl) dX7_text_52 (fun v3 h3 g3 hp3 => ?_)
    obtain ⟨rfl, rfl, t1, t2, t3, t4, t5, t6⟩ := hp3
    refine zj_aload_n (i := 0) (pc := 55) K dX7_text_55 rfl rfl ?_
    refine zj_getR (pc := 56) K lf_X7_37 hs_B rfl dX7_text_56 ?_
    refine zj_cV0P (pc := 59) K lm_X7_78 hs_C (m_X0_begin (k := 12) (Or.inl rfl)) (by decide) rfl (Nat.le_of_ble_eq_true rfl) dX7_text_59 (fun v4 h4 g4 hp4 => ?_)
    obtain ⟨rfl, rfl, b1, b2, b3, b4, b5, b6⟩ := hp4
    refine zj_aload_n (i := 0) (pc := 62) K dX7_text_62 rfl rfl ?_
    refine zj_getR (pc := 63) K lf_X7_47 hs_B rfl dX7_text_63 ?_
    refine zj_cV0W (pc := 66) K lm_X7_81 hs_H (m_X3_forget) (by decide) rfl (Nat.le_of_ble_eq_true rfl) dX7_text_66 ?_
    refine zj_aload_n (i := 0) (pc := 69) K dX7_text_69 rfl rfl ?_
    refine zj_getR (pc := 70) K lf_X7_41 hs_B rfl dX7_text_70 ?_
    refine zj_cV0P (pc := 73) K lm_X7_78 hs_A (m_X0_begin (k := 22) (Or.inr rfl)) (by decide) rfl (Nat.le_of_ble_eq_true rfl) dX7_text_73 (fun v5 h5 g5 hp5 => ?_)
    obtain ⟨rfl, rfl, a1, a2, a3, a4, a5, a6⟩ := hp5
    have e58 : h5 8 = h3 8 := by rw [a1 8 (by decide) (by decide) (by decide) (by decide), zj_s_ne _ _ (by decide), b1 8 (by decide) (by decide) (by decide) (by decide)]
    have e59 : h5 9 = h3 9 := by rw [a1 9 (by decide) (by decide) (by decide) (by decide), zj_s_ne _ _ (by decide), b1 9 (by decide) (by decide) (by decide) (by decide)]
    have e510 : h5 10 = h3 10 := by rw [a1 10 (by decide) (by decide) (by decide) (by decide), zj_s_ne _ _ (by decide), b1 10 (by decide) (by decide) (by decide) (by decide)]
    have to : zt_told h3 w J C := by
      refine ⟨?_, ?_, ?_, ?_, ?_, ?_, ?_, ?_, fun j hj => ?_, fun c hc => ?_⟩
      · rw [t2 0 (by decide), f4]; exact d0
      · rw [t2 1 (by decide), f4]; exact d1
      · rw [t2 2 (by decide), f4]; exact d2
      · rw [t2 3 (by decide), f4]; exact d3
      · rw [t2 4 (by decide), f4]; exact d4
      · rw [t2 6 (by decide), f4]; exact d7
      · rw [t2 7 (by decide), f4]; exact d8
      · rw [t3, t2 5 (by decide), f4, d5]
      · have := hwf.1
        rw [t4 j (by omega), f5]; exact d9 j (by rw [hwf.2.2.1, nI_clamp (by omega)]; exact hj)
      · have := hwf.2.1
        rw [t5 c (by omega), f6]; exact d10 c (by rw [hwf.2.2.2.1, nI_clamp (by omega)]; exact hc)
    have hTT : ∀ si c b, 0 ≤ zd_t (zθC h5 22 J C u) si c b := fun si c b => by
      refine zs_ten_pos hwf.1 hwf.2.1 ?_ ?_ ?_ (fun c hc => ?_)
      · show ∃ m, m ≤ 9 ∧ h5 8 2 = nI m
        rw [e58, to.2.2.1]; exact hwf.2.2.2.2.2.2.2.1
      · show ∃ m, m ≤ 9 ∧ h5 8 3 = nI m
        rw [e58, to.2.2.2.1]; exact hwf.2.2.2.2.2.2.2.2.1
      · show ∃ m, m ≤ 9 ∧ h5 8 4 = nI m
        rw [e58, to.2.2.2.2.1]; exact hwf.2.2.2.2.2.2.2.2.2.1
      · show ∃ m, m ≤ 9 ∧ h5 10 c = nI m
        rw [e510, to.2.2.2.2.2.2.2.2.2 c hc]; exact hwf.2.2.2.2.2.2.2.2.2.2.2.2.2.1 c hc
    refine zj_aload_n (i := 0) (pc := 76) K dX7_text_76 rfl rfl ?_
    refine zj_getR (pc := 77) K lf_X7_41 hs_B rfl dX7_text_77 ?_
    refine zj_cV0P (pc := 80) K lm_X7_84 hs_A (m_X0_drawEveryOpen (k := 22) (J := J) (C := C) (u := u) (Or.inr rfl) (by rw [e58]; exact to.2.2.2.2.2.1.trans hwf.2.2.1) hwf.1 (by rw [e58]; exact to.2.2.2.2.2.2.1.trans hwf.2.2.2.1) hwf.2.1 (by rw [e58]; exact to.2.1.trans eu) hu hTT) (by decide) rfl (Nat.le_of_ble_eq_true rfl) dX7_text_80 (fun v6 h6 g6 hp6 => ?_)
    obtain ⟨rfl, rfl, c1, c2, c3, c4⟩ := hp6
    refine zj_pop (pc := 83) K dX7_text_83 rfl ?_
    refine zj_aload_n (i := 0) (pc := 84) K dX7_text_84 rfl rfl ?_
    refine zj_getR (pc := 85) K lf_X7_21 hs_B rfl dX7_text_85 ?_
    refine zj_getI (pc := 88) K lf_X7_88 hs_R rfl dX7_text_88 ?_
    exact zj_iret K Rt dX7_text_91 (by
      have g6 : ∀ a, (a < 12 ∨ 32 ≤ a) → h6 a = h5 a := fun a ha => c1 a (by omega) (by omega) (by omega) (by omega) (by omega) (by omega) (by omega) (by omega)
      have g5 : ∀ a, (a < 23 ∨ 27 ≤ a) → h5 a = (zj_s h4 32 (upd (h4 32) 2 0)) a := fun a ha => a1 a (by omega) (by omega) (by omega) (by omega)
      have g4 : ∀ a, (a < 13 ∨ 17 ≤ a) → h4 a = h3 a := fun a ha => b1 a (by omega) (by omega) (by omega) (by omega)
      have g3 : ∀ a, (a < 8 ∨ 12 ≤ a) → h3 a = h2 a := fun a ha => t1 a (by omega) (by omega) (by omega) (by omega)
      have k9 : ∀ a, (a < 12 ∨ 33 ≤ a) → h6 a = h3 a := fun a ha => by
        by_cases e : a = 32
        · omega
        · rw [g6 a (by omega), g5 a (by omega), zj_s_ne _ _ e, g4 a (by omega)]
      have k10 : ∀ a, (13 ≤ a ∧ a < 17) → h6 a = h4 a := fun a ha => by
        rw [c1 a (by omega) (by omega) (by omega) (by omega) (by omega) (by omega) (by omega) (by omega), g5 a (by omega), zj_s_ne _ _ (by omega)]
      have k11 : h6 32 = upd (h4 32) 2 0 := by rw [g6 32 (by omega), g5 32 (by omega), zj_s_eq]
      have kτ : zτC h6 J C u = zτC h5 J C u := zτC_congr (g6 8 (by omega)) (g6 9 (by omega)) (g6 10 (by omega))
      refine ⟨rfl, by rw [k9 1 (by omega), g3 1 (by omega)]; exact f1, by rw [k9 2 (by omega), g3 2 (by omega)]; exact f2, fun a ha => by rw [k9 a (by omega), g3 a (by omega)]; exact f8 a (by omega), ?_⟩
      show (match zu_text (zw_T t n) (zu_is t) n with | .inl (k, p) => _ | .inr (l, w) => _); rw [hr]
      refine ⟨?_, by rw [k9 0 (by omega), g3 0 (by omega)]; exact f0, ?_, fun a ha => by rw [k9 a (by omega), g3 a (by omega)]; exact f8 a (by omega), J, C, u, hwf, hu, eu, ?_, ?_, ?_⟩
      · show some (Value.int (h6 3 3)) = _
        rw [k9 3 (by omega), g3 3 (by omega), f3]
      · rw [k11, zz_upd_ne _ _ (by decide), g4 32 (by omega), g3 32 (by omega)]
        exact congrFun (f8 32 (by decide)) 1
      · unfold zt_told
        rw [k9 8 (by omega), k9 9 (by omega), k9 10 (by omega)]; exact to
      · unfold zt_new
        rw [k10 13 (by omega), k10 14 (by omega), k10 15 (by omega), k10 16 (by omega), k11]
        refine ⟨b2.trans to.1, b3, b4, b5, fun c hc => ?_, rfl⟩
        have := hwf.2.1
        rw [show h4 16 c = _ from b6 c (by omega), t6 c (by omega), f7]
        exact d11 c (by rw [hwf.2.2.2.1, nI_clamp (by omega)]; exact hc)
      · intro c hc
        rw [kτ]
        have hδ : zδe C (zδC h5 23) (zt_δ0 w) := by
          have hC14 := hwf.2.1
          refine ⟨?_, a3, fun c hc => a4 c (by omega), fun c hc => a5 c (by omega), fun c hc => ?_⟩
          · show h5 23 0 = w 4
            rw [show h5 23 0 = _ from a2, zj_s_ne _ _ (by decide), g4 8 (by omega)]; exact to.1
          · show h5 26 c = w (33 + c)
            rw [show h5 26 c = _ from a6 c (by omega), zj_s_ne _ _ (by decide), g4 11 (by omega), t6 c (by omega), f7]
            exact d11 c (by rw [hwf.2.2.2.1, nI_clamp (by omega)]; exact hc)
        have ha := zo_all_e (τ := zτC h5 J C u) (zτe_rfl _) hδ
        rw [show h6 25 c = _ from congrFun c4 c]
        exact ha.2.2.2.2.1 c hc)
  · replace c_28 := zz_i0.mp c_28
    obtain ⟨k, p, hr, r2, r3⟩ := hx0 c_28
    refine zj_iconst (v := -1) (pc := 31) K dX7_text_31 (by decide) ?_
    refine zj_aload_n (i := 0) (pc := 32) K dX7_text_32 rfl rfl ?_
    refine zj_getR (pc := 33) K lf_X7_21 hs_B rfl dX7_text_33 ?_
    refine zj_getI (pc := 36) K lf_X7_69 hs_R rfl dX7_text_36 ?_
    refine zj_isub (pc := 39) K dX7_text_39 ?_
    exact zj_iret K Rt dX7_text_40 (by
      refine ⟨rfl, rfl, (hF1 2 (by decide)), fun a ha => ?_, ?_⟩
      · rw [zj_s_ne _ _ (by omega), zj_s_ne _ _ (by omega)]; exact hF1 a (by omega)
      · show (match zu_text (zw_T t n) (zu_is t) n with | .inl (k, p) => _ | .inr (l, w) => _); rw [hr]
        refine ⟨?_, r2, fun a ha => ?_⟩
        · show some (Value.int (-1 - h1 3 4)) = _
          rw [r3]
        · rw [zj_s_ne _ _ (by omega), zj_s_ne _ _ (by omega)]; exact hF1 a (by omega))
