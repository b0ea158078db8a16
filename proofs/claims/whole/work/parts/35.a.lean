theorem zo_bet_C {h : zj_H} {J C u : Nat} {fP : Nat → Int32} (hJ : J ≤ 9) (hC : C ≤ 14) : zx_fa (zx_p (zb_Pn (h (12 + 3)) (-1) J (fun j => if j < 81 then 0 else fP j) C) J C (h (12 + 2)) (h (12 + 3)) (fun c => zl_law (h (12 + 4) c) (h (12 + 1) 1) (h 8 8))) J C C = zo_bet (zτC h J C u) (zδC h 13) :=
  zx_fa_congr (fun a x b y ha hx hb hy => zo_p_eq hJ hC ha hx hb hy)
theorem zo_bet_lt {τ : zτ} {δ : zδ} {a x b y : Nat} (hb : zo_bet τ δ = some (a, x, b, y)) : a < τ.2.1 ∧ x < τ.1 ∧ a < b ∧ b < τ.2.1 ∧ y < τ.1 ∧ zx_may τ.1 τ.2.1 δ.2.2.1 δ.2.2.2.1 (zo_pl τ δ) (nI a) (nI x) (nI b) (nI y) = true := by
  have := zx_fa_lt hb
  refine ⟨this.1, this.2.1, this.2.2.1, this.2.2.2.1, this.2.2.2.2.1, ?_⟩
  have h2 := this.2.2.2.2.2
  unfold zo_p at h2
  rw [Bool.and_eq_true] at h2
  exact h2.1
theorem zo_sm_le (τ : zτ) : ∀ f δ, (zo_sm τ f δ).1 ≤ f
  | 0, _ => Nat.le_refl 0
  | f + 1, δ => by
    unfold zo_sm
    split
    · exact Nat.zero_le _
    · exact Nat.succ_le_succ (zo_sm_le τ f _)
theorem zo_sm_0 {τ : zτ} : ∀ {f δ}, (zo_sm τ f δ).1 = 0 → (zo_sm τ f δ).2 = δ
  | 0, _, _ => rfl
  | f + 1, δ, h => by
    unfold zo_sm at h ⊢
    split at h
    · rfl
    · cases h
def zo_smo (τ : zτ) (δ : zδ) : Option (Int32 × zδ) := if (zo_sm τ 40 δ).1 = 0 then none else some (nI (zo_sm τ 40 δ).1, (zo_sm τ 40 δ).2)
theorem zθo_si (τ : zτ) (δ : zδ) (si : Nat → Int32) : zo_pl τ (zo_si δ si) = zo_pl τ δ := rfl
theorem zo_ex_C {h : zj_H} {J C u : Nat} {xa xx xb xy : Int32} : zo_ex (zτC h J C u) (zδC h 13) xa xx xb xy = if zx_may J C (h (12 + 2)) (h (12 + 3)) (fun c => zl_law (h (12 + 4) c) (h (12 + 1) 1) (h 8 8)) xa xx xb xy = true then some (zs_even J C (zx_si (h 15) xa.toNatClampNeg xx.toNatClampNeg xb.toNatClampNeg xy.toNatClampNeg), zo_si (zδC h 13) (zx_si (h 15) xa.toNatClampNeg xx.toNatClampNeg xb.toNatClampNeg xy.toNatClampNeg)) else none := rfl
theorem zq_bet_out {τ : zτ} {δ : zδ} {x : Int32} (h : x < 0 ∨ 4 < x) : zq_bet τ δ x = -1 := by
  have hn : ∀ k : Int32, 0 ≤ k → k ≤ 4 → ¬ x = k := fun k h0 h4 e => by
    rw [e] at h
    rcases h with h | h
    · exact absurd h (Int32.not_lt.mpr h0)
    · exact absurd h (Int32.not_lt.mpr h4)
  unfold zq_bet
  split
  · rfl
  · rw [if_neg (hn 0 (by decide) (by decide)), if_neg (hn 1 (by decide) (by decide)), if_neg (hn 2 (by decide) (by decide)), if_neg (hn 3 (by decide) (by decide)), if_neg (hn 4 (by decide) (by decide))]
theorem zq_bet_4 {x : Int32} (h0 : ¬ x < 0) (h4 : ¬ 4 < x) (n0 : ¬ x = 0) (n1 : ¬ x = 1) (n2 : ¬ x = 2) (n3 : ¬ x = 3) : x = 4 := by
  obtain ⟨j, hj, rfl⟩ := nI_of h0
  have : j ≤ 4 := Nat.le_of_not_lt (fun z => h4 ((nI_ltI (a := 4) (by omega) hj).mpr z))
  rcases (show j = 0 ∨ j = 1 ∨ j = 2 ∨ j = 3 ∨ j = 4 by omega) with e | e | e | e | e
  · exact absurd (by rw [e]; rfl) n0
  · exact absurd (by rw [e]; rfl) n1
  · exact absurd (by rw [e]; rfl) n2
  · exact absurd (by rw [e]; rfl) n3
  · rw [e]; rfl
set_option maxHeartbeats 4000000 in
set_option maxRecDepth 20000 in
theorem m_X7_evenness {l : Launch} {E : zj_E} {h : zj_H} {g : zj_G} {u : Nat} {J C : Nat} (eJ : h 8 6 = nI J) (hJ : J ≤ 9) (eC : h 8 7 = nI C) (hC : C ≤ 14)  : zj_M l E yX7_evenness cX7_evenness 1 (some .int) 3 [.ref (E.2.1 0)] h g (fun v h' g' => v = some (.int (zs_even J C (h 15))) ∧ g' = g ∧ zk_q h h') := by
  refine zj_M.of RX7 (by decide) rfl (Nat.le_of_ble_eq_true rfl) ?_
  intro Γ hΓ K Rt
  subst hΓ
  have hk : zj_isC 12 := Or.inl rfl
  show zj_J E Γ 1 0 [(0, .ref (E.2.1 0))] [] h g
  refine zj_aload_n (i := 0) (pc := 0) K dX7_evenness_0 rfl rfl ?_
  refine zj_getR (pc := 1) K lf_X7_37 hs_B rfl dX7_evenness_1 ?_
  refine zj_iconst (v := -1) (pc := 4) K dX7_evenness_4 (by decide) ?_
  refine zj_cV1P (pc := 5) K lm_X7_135 hs_C (m_X0_countBenches hk eJ hJ eC hC) (by decide) rfl (Nat.le_of_ble_eq_true rfl) dX7_evenness_5 (fun v q g1 hp => ?_)
  obtain ⟨rfl, rfl, zs1, zs2, zs3⟩ := hp
  have eJ2 : q 8 6 = nI J := by rw [zs1 8 (by decide) (by decide)]; exact eJ
  refine zj_aload_n (i := 0) (pc := 8) K dX7_evenness_8 rfl rfl ?_
  refine zj_getR (pc := 9) K lf_X7_37 hs_B rfl dX7_evenness_9 ?_
  refine zj_cV0I (pc := 12) K lm_X7_241 hs_C (m_X0_evennessCounted hk eJ2 hJ) (by decide) rfl (Nat.le_of_ble_eq_true rfl) dX7_evenness_12 ?_
  exact zj_iret K Rt dX7_evenness_15 (⟨by rw [zs3, zy_ev_class hJ], rfl, fun a a1 a2 a3 a4 a5 a6 => zs1 a a3 a4⟩)

set_option maxHeartbeats 4000000 in
set_option maxRecDepth 20000 in
theorem m_X7_better {l : Launch} {E : zj_E} {h : zj_H} {g : zj_G} {u : Nat} {J C : Nat} (eJ : h 8 6 = nI J) (hJ : J ≤ 9) (eC : h 8 7 = nI C) (hC : C ≤ 14) {x : Int32} : zj_M l E yX7_better cX7_better 2 (some .int) 5 [.ref (E.2.1 0), .int x] h g (fun v h' g' => v = some (.int (zq_bet (zτC h J C u) (zδC h 13) x)) ∧ g' = g ∧ zk_q h h') := by
  refine zj_M.of RX7 (by decide) rfl (Nat.le_of_ble_eq_true rfl) ?_
  intro Γ hΓ K Rt
  subst hΓ
  have hk : zj_isC 12 := Or.inl rfl
  show zj_J E Γ 2 0 [(0, .ref (E.2.1 0)), (1, .int x)] [] h g
  refine zj_iload_n (i := 1) (pc := 0) K dX7_better_0 rfl rfl ?_
  refine zj_if_lt (tgt := 19) (pc := 1) K dX7_better_1 (by decide) (fun c_1 => ?_) (fun c_1 => ?_)
  · have hno : zq_bet (zτC h J C u) (zδC h 13) x = -1 := zq_bet_out (Or.inl c_1)
    refine zj_iconst (v := -1) (pc := 19) K dX7_better_19 (by decide) ?_
    exact zj_iret K Rt dX7_better_20 (⟨by rw [hno], rfl, by first | exact (fun _ _ _ _ _ _ _ => rfl) | exact (fun a a1 a2 a3 a4 a5 a6 => zs1 a a2 a3 a4)⟩)
  · refine zj_iload_n (i := 1) (pc := 4) K dX7_better_4 rfl rfl ?_
    refine zj_iconst (v := 4) (pc := 5) K dX7_better_5 (by decide) ?_
    refine zj_icmp_gt (tgt := 19) (pc := 6) K dX7_better_6 (by decide) (fun c_6 => ?_) (fun c_6 => ?_)
    · have hno : zq_bet (zτC h J C u) (zδC h 13) x = -1 := zq_bet_out (Or.inr c_6)
      refine zj_iconst (v := -1) (pc := 19) K dX7_better_19 (by decide) ?_
      exact zj_iret K Rt dX7_better_20 (⟨by rw [hno], rfl, by first | exact (fun _ _ _ _ _ _ _ => rfl) | exact (fun a a1 a2 a3 a4 a5 a6 => zs1 a a2 a3 a4)⟩)
    · refine zj_aload_n (i := 0) (pc := 9) K dX7_better_9 rfl rfl ?_
      refine zj_getR (pc := 10) K lf_X7_37 hs_B rfl dX7_better_10 ?_
      refine zj_cV0P (pc := 13) K lm_X7_244 hs_C (m_X0_findBetter hk eJ hJ eC hC) (by decide) rfl (Nat.le_of_ble_eq_true rfl) dX7_better_13 (fun v q g1 hp => ?_)
      obtain ⟨rfl, rfl, zs1, zs2⟩ := hp
      rw [zo_bet_C (u := u) hJ hC] at zs2 ⊢
      refine zj_if_ne (tgt := 21) (pc := 16) K dX7_better_16 (by decide) (fun c_16 => ?_) (fun c_16 => ?_)
      · replace c_16 := zz_n0.mp c_16
        obtain ⟨⟨ba, bi, bb, bj⟩, hsm⟩ : ∃ r, (zo_bet (zτC h J C u) (zδC h 13)) = some r := by
          cases hq : (zo_bet (zτC h J C u) (zδC h 13)) with
          | none => rw [hq] at c_16; cases c_16
          | some r => exact ⟨r, rfl⟩
        obtain ⟨zk0, zk1, zk2, zk3, zk4⟩ := zs2 _ _ _ _ hsm
        have hlt := zo_bet_lt hsm
        refine zj_iload_n (i := 1) (pc := 21) K dX7_better_21 rfl rfl ?_
        by_cases s_0 : x = 0
        · refine zj_tableIn (off := 30) (tgt := 52) K dX7_better_22 (by rw [s_0]; decide) (by rw [s_0]; decide) (by rw [s_0]; rfl) (by decide) ?_
          refine zj_aload_n (i := 0) (pc := 52) K dX7_better_52 rfl rfl ?_
          refine zj_getR (pc := 53) K lf_X7_37 hs_B rfl dX7_better_53 ?_
          refine zj_getR (pc := 56) K lf_X7_247 hs_C rfl dX7_better_56 ?_
          refine zj_getI (pc := 59) K lf_X7_251 hs_Cf rfl dX7_better_59 ?_
          exact zj_iret K Rt dX7_better_62 (⟨by rw [zq_bet, hsm]; simp only; rw [if_pos s_0]; exact congrArg _ (congrArg _ zk0), rfl, fun a a1 a2 a3 a4 a5 a6 => zs1 a a2 a3 a4⟩)
        by_cases s_1 : x = 1
        · refine zj_tableIn (off := 41) (tgt := 63) K dX7_better_22 (by rw [s_1]; decide) (by rw [s_1]; decide) (by rw [s_1]; rfl) (by decide) ?_
          refine zj_aload_n (i := 0) (pc := 63) K dX7_better_63 rfl rfl ?_
          refine zj_getR (pc := 64) K lf_X7_37 hs_B rfl dX7_better_64 ?_
          refine zj_getR (pc := 67) K lf_X7_247 hs_C rfl dX7_better_67 ?_
          refine zj_getI (pc := 70) K lf_X7_256 hs_Cf rfl dX7_better_70 ?_
          exact zj_iret K Rt dX7_better_73 (⟨by rw [zq_bet, hsm]; simp only; rw [if_neg s_0, if_pos s_1]; exact congrArg _ (congrArg _ zk1), rfl, fun a a1 a2 a3 a4 a5 a6 => zs1 a a2 a3 a4⟩)
        by_cases s_2 : x = 2
        · refine zj_tableIn (off := 52) (tgt := 74) K dX7_better_22 (by rw [s_2]; decide) (by rw [s_2]; decide) (by rw [s_2]; rfl) (by decide) ?_
          refine zj_aload_n (i := 0) (pc := 74) K dX7_better_74 rfl rfl ?_
          refine zj_getR (pc := 75) K lf_X7_37 hs_B rfl dX7_better_75 ?_
          refine zj_getR (pc := 78) K lf_X7_247 hs_C rfl dX7_better_78 ?_
          refine zj_getI (pc := 81) K lf_X7_259 hs_Cf rfl dX7_better_81 ?_
          exact zj_iret K Rt dX7_better_84 (⟨by rw [zq_bet, hsm]; simp only; rw [if_neg s_0, if_neg s_1, if_pos s_2]; exact congrArg _ (congrArg _ zk2), rfl, fun a a1 a2 a3 a4 a5 a6 => zs1 a a2 a3 a4⟩)
        by_cases s_3 : x = 3
        · refine zj_tableIn (off := 63) (tgt := 85) K dX7_better_22 (by rw [s_3]; decide) (by rw [s_3]; decide) (by rw [s_3]; rfl) (by decide) ?_
          refine zj_aload_n (i := 0) (pc := 85) K dX7_better_85 rfl rfl ?_
          refine zj_getR (pc := 86) K lf_X7_37 hs_B rfl dX7_better_86 ?_
          refine zj_getR (pc := 89) K lf_X7_247 hs_C rfl dX7_better_89 ?_
          refine zj_getI (pc := 92) K lf_X7_262 hs_Cf rfl dX7_better_92 ?_
          exact zj_iret K Rt dX7_better_95 (⟨by rw [zq_bet, hsm]; simp only; rw [if_neg s_0, if_neg s_1, if_neg s_2, if_pos s_3]; exact congrArg _ (congrArg _ zk3), rfl, fun a a1 a2 a3 a4 a5 a6 => zs1 a a2 a3 a4⟩)
        refine zj_tableOut (tgt := 96) K dX7_better_22 (zz_out (n := 3) (by decide) (fun k hk => by
          rcases (show k = 0 ∨ k = 1 ∨ k = 2 ∨ k = 3 by omega) with rfl | rfl | rfl | rfl
          · exact s_0
          · exact s_1
          · exact s_2
          · exact s_3)) (by decide) ?_
        refine zj_aload_n (i := 0) (pc := 96) K dX7_better_96 rfl rfl ?_
        refine zj_getR (pc := 97) K lf_X7_37 hs_B rfl dX7_better_97 ?_
        refine zj_getR (pc := 100) K lf_X7_247 hs_C rfl dX7_better_100 ?_
        refine zj_getI (pc := 103) K lf_X7_265 hs_Cf rfl dX7_better_103 ?_
        exact zj_iret K Rt dX7_better_106 (by
          have s_4 : x = 4 := zq_bet_4 c_1 c_6 s_0 s_1 s_2 s_3
          refine ⟨?_, rfl, fun a a1 a2 a3 a4 a5 a6 => zs1 a a2 a3 a4⟩
          rw [zq_bet, hsm]; simp only
          rw [if_neg s_0, if_neg s_1, if_neg s_2, if_neg s_3, if_pos s_4]
          obtain ⟨y1, y2, y3, y4⟩ := zx_may_t hJ hC hlt.1 hlt.2.1 hlt.2.2.2.1 hlt.2.2.2.2.1 hlt.2.2.2.2.2
          have hg := zy_better (fP := h (12 + 6)) hJ hC hlt.1 hlt.2.2.2.1 hlt.2.1 hlt.2.2.2.2.1 y1 y2 y3 y4
          exact congrArg _ (congrArg _ (zk4.trans hg)))
      · replace c_16 := zz_i0.mp c_16
        have hbn : (zo_bet (zτC h J C u) (zδC h 13)) = none := by
          cases hq : (zo_bet (zτC h J C u) (zδC h 13)) with
          | none => rfl
          | some r => rw [hq] at c_16; cases c_16
        have hno : zq_bet (zτC h J C u) (zδC h 13) x = -1 := by rw [zq_bet, hbn]
        refine zj_iconst (v := -1) (pc := 19) K dX7_better_19 (by decide) ?_
        exact zj_iret K Rt dX7_better_20 (⟨by rw [hno], rfl, by first | exact (fun _ _ _ _ _ _ _ => rfl) | exact (fun a a1 a2 a3 a4 a5 a6 => zs1 a a2 a3 a4)⟩)

set_option maxHeartbeats 4000000 in
set_option maxRecDepth 20000 in
theorem m_X7_exchange {l : Launch} {E : zj_E} {h : zj_H} {g : zj_G} {J C u nx ct : Nat} (eJ : h 8 6 = nI J) (hJ : J ≤ 9) (eC : h 8 7 = nI C) (hC : C ≤ 14) (eU : h 8 1 = nI u) (hU : u ≤ 20) (hT : ∀ δ si c b, 0 ≤ zd_t (zθo (zτC h J C u) δ) si c b) (en : h 32 1 = nI nx) (hnx : nx < 11) (ec : h 32 2 = nI ct) (hct : ct ≤ 10) {xa xx xb xy : Int32} : zj_M l E yX7_exchange cX7_exchange 5 (some .int) 4 [.ref (E.2.1 0), .int xa, .int xx, .int xb, .int xy] h g (fun v h' g' => g' = g ∧ zk_fr h h' ∧ zk_post h h' nx ct v (zo_ex (zτC h J C u) (zδC h 13) xa xx xb xy)) := by
  refine zj_M.of RX7 (by decide) rfl (Nat.le_of_ble_eq_true rfl) ?_
  intro Γ hΓ K Rt
  subst hΓ
  have hk : zj_isC 12 := Or.inl rfl
  show zj_J E Γ 5 0 [(0, .ref (E.2.1 0)), (1, .int xa), (2, .int xx), (3, .int xb), (4, .int xy)] [] h g
  refine zj_aload_n (i := 0) (pc := 0) K dX7_exchange_0 rfl rfl ?_
  refine zj_getR (pc := 1) K lf_X7_37 hs_B rfl dX7_exchange_1 ?_
  refine zj_iload_n (i := 1) (pc := 4) K dX7_exchange_4 rfl rfl ?_
  refine zj_iload_n (i := 2) (pc := 5) K dX7_exchange_5 rfl rfl ?_
  refine zj_iload_n (i := 3) (pc := 6) K dX7_exchange_6 rfl rfl ?_
  refine zj_iload (pc := 7) K dX7_exchange_7 rfl ?_
  refine zj_cV4I (pc := 9) K lm_X7_268 hs_C (m_X0_mayExchange hk eJ hJ eC hC) (by decide) rfl (Nat.le_of_ble_eq_true rfl) dX7_exchange_9 ?_
  refine zj_if_ne (tgt := 17) (pc := 12) K dX7_exchange_12 (by decide) (fun c_12 => ?_) (fun c_12 => ?_)
  · replace c_12 := zz_n0.mp c_12
    obtain ⟨ia, ix, ib, iy, ha, hx, hb, hy, ea, ei, eb, ej⟩ := zx_may_ex hJ hC c_12
    have hye : zo_ex (zτC h J C u) (zδC h 13) xa xx xb xy = some (zs_even J C (zx_si (h 15) ia ix ib iy), zo_si (zδC h 13) (zx_si (h 15) ia ix ib iy)) := by
      rw [zo_ex_C, zz_ift c_12, ea, ei, eb, ej, nI_clamp (by omega), nI_clamp (by omega), nI_clamp (by omega), nI_clamp (by omega)]
    refine zj_aload_n (i := 0) (pc := 17) K dX7_exchange_17 rfl rfl ?_
    refine zj_getR (pc := 18) K lf_X7_47 hs_B rfl dX7_exchange_18 ?_
    refine zj_aload_n (i := 0) (pc := 21) K dX7_exchange_21 rfl rfl ?_
    refine zj_getR (pc := 22) K lf_X7_37 hs_B rfl dX7_exchange_22 ?_
    refine zj_getR (pc := 25) K lf_X7_97 hs_C rfl dX7_exchange_25 ?_
    refine zj_cV1P (pc := 28) K lm_X7_217 hs_H (m_X3_prepare en hnx) (by decide) rfl (Nat.le_of_ble_eq_true rfl) dX7_exchange_28 (fun v q g1 hp => ?_)
    obtain ⟨rfl, rfl, zq1, zq2⟩ := hp
    have zq : ∀ a, a < 34 → q a = h a := fun a ha => zq1 a (by omega)
    have eJq : q 8 6 = nI J := by rw [zq 8 (by decide)]; exact eJ
    have eCq : q 8 7 = nI C := by rw [zq 8 (by decide)]; exact eC
    have eUq : q 8 1 = nI u := by rw [zq 8 (by decide)]; exact eU
    have enq : q 32 1 = nI nx := by rw [zq 32 (by decide)]; exact en
    have ecq : q 32 2 = nI ct := by rw [zq 32 (by decide)]; exact ec
    have eτ : zτC q J C u = zτC h J C u := zτC_congr (zq 8 (by decide)) (zq 9 (by decide)) (zq 10 (by decide))
    have eδ : zδC q 13 = zδC h 13 := by unfold zδC; rw [zq 13 (by decide), zq (13 + 1) (by decide), zq (13 + 2) (by decide), zq (13 + 3) (by decide)]
    have hTq : ∀ si c b, 0 ≤ zd_t (zθC q 12 J C u) si c b := fun si c b => by rw [zθC_eq, eτ]; exact hT _ si c b
    refine zj_aload_n (i := 0) (pc := 31) K dX7_exchange_31 rfl rfl ?_
    refine zj_getR (pc := 32) K lf_X7_47 hs_B rfl dX7_exchange_32 ?_
    refine zj_cV0W (pc := 35) K lm_X7_224 hs_H (m_X3_keepPrepared enq hnx ecq hct) (by decide) rfl (Nat.le_of_ble_eq_true rfl) dX7_exchange_35 ?_
    have zw : ∀ a, a < 32 → (zj_s q 32 (upd (upd (q 32) 1 (nI ((nx + 1) % 11))) 2 (nI (min (ct + 1) 10)))) a = h a := fun a ha => by rw [zj_s_ne _ _ (by omega)]; exact zq a (by omega)
    refine zj_aload_n (i := 0) (pc := 38) K dX7_exchange_38 rfl rfl ?_
    refine zj_getR (pc := 39) K lf_X7_37 hs_B rfl dX7_exchange_39 ?_
    refine zj_iload_n (i := 1) (pc := 42) K dX7_exchange_42 rfl rfl ?_
    refine zj_iload_n (i := 2) (pc := 43) K dX7_exchange_43 rfl rfl ?_
    refine zj_iload_n (i := 3) (pc := 44) K dX7_exchange_44 rfl rfl ?_
    refine zj_iload (pc := 45) K dX7_exchange_45 rfl ?_
    refine zj_cV4W (pc := 47) K lm_X7_272 hs_C (m_X0_changePlaces hk ea ei eb ej (by omega) (by omega)) (by decide) rfl (Nat.le_of_ble_eq_true rfl) dX7_exchange_47 ?_
    refine zj_hn (fun q1 eq1 => ?_)
    have w1 : ∀ a, a ≠ 15 → a < 32 → q1 a = h a := fun a a1 a2 => by rw [eq1, zj_s_ne _ _ a1]; exact zw a a2
    have w2 : ∀ a, a ≠ 15 → q1 a = (zj_s q 32 (upd (upd (q 32) 1 (nI ((nx + 1) % 11))) 2 (nI (min (ct + 1) 10)))) a := fun a a1 => by rw [eq1, zj_s_ne _ _ a1]
    have w15 : q1 15 = zx_si (h 15) ia ix ib iy := by rw [eq1]; exact (zj_s_eq _ _ _).trans (by rw [zw (12 + 3) (by decide)])
    clear eq1
    have eJ1 : q1 8 6 = nI J := by rw [w1 8 (by decide) (by decide)]; exact eJ
    have eC1 : q1 8 7 = nI C := by rw [w1 8 (by decide) (by decide)]; exact eC
    refine zj_aload_n (i := 0) (pc := 50) K dX7_exchange_50 rfl rfl ?_
    refine zj_getR (pc := 51) K lf_X7_37 hs_B rfl dX7_exchange_51 ?_
    refine zj_iconst (v := -1) (pc := 54) K dX7_exchange_54 (by decide) ?_
    refine zj_cV1P (pc := 55) K lm_X7_135 hs_C (m_X0_countBenches hk eJ1 hJ eC1 hC) (by decide) rfl (Nat.le_of_ble_eq_true rfl) dX7_exchange_55 (fun v q2 g2 hp => ?_)
    obtain ⟨rfl, rfl, zs1, zs2, zs3⟩ := hp
    have eJ2 : q2 8 6 = nI J := by rw [zs1 8 (by decide) (by decide)]; exact eJ1
    refine zj_aload_n (i := 0) (pc := 58) K dX7_exchange_58 rfl rfl ?_
    refine zj_getR (pc := 59) K lf_X7_37 hs_B rfl dX7_exchange_59 ?_
    refine zj_cV0I (pc := 62) K lm_X7_241 hs_C (m_X0_evennessCounted hk eJ2 hJ) (by decide) rfl (Nat.le_of_ble_eq_true rfl) dX7_exchange_62 ?_
    exact zj_iret K Rt dX7_exchange_65 (by
      have zb : ∀ a, (a < 12 ∨ 22 ≤ a) → q2 a = (zj_s q 32 (upd (upd (q 32) 1 (nI ((nx + 1) % 11))) 2 (nI (min (ct + 1) 10)))) a := fun a ha => by rw [zs1 a (by omega) (by omega)]; exact w2 a (by omega)
      have hδ : zδC q2 13 = zo_si (zδC h 13) (zx_si (h 15) ia ix ib iy) := by
        unfold zδC zo_si
        rw [show (13 + 1) = 14 from rfl, show (13 + 2) = 15 from rfl, show (13 + 3) = 16 from rfl, zs1 13 (by decide) (by decide), zs1 14 (by decide) (by decide), zs1 15 (by decide) (by decide), zs1 16 (by decide) (by decide), w15, w1 13 (by decide) (by decide), w1 14 (by decide) (by decide), w1 16 (by decide) (by decide)]
      have hm := zk_mk_keep2 (ct := ct) hnx zq1 zq2 zb hδ
      refine ⟨rfl, hm.1, ?_⟩
      rw [hye]
      exact ⟨by rw [zs3, zy_ev_class hJ, show q1 (12 + 3) = _ from w15], hm.2⟩)
  · replace c_12 := zz_i0.mp c_12
    have hno : zo_ex (zτC h J C u) (zδC h 13) xa xx xb xy = none := by rw [zo_ex_C, zz_iff c_12]
    refine zj_iconst (v := -1) (pc := 15) K dX7_exchange_15 (by decide) ?_
    exact zj_iret K Rt dX7_exchange_16 (⟨rfl, (zk_rfl (nx := nx)).1, by rw [hno]; exact ⟨rfl, zk_rfl.2⟩⟩)

set_option maxHeartbeats 4000000 in
set_option maxRecDepth 20000 in
theorem m_X7_smooth {l : Launch} {E : zj_E} {h : zj_H} {g : zj_G} {J C u nx ct : Nat} (eJ : h 8 6 = nI J) (hJ : J ≤ 9) (eC : h 8 7 = nI C) (hC : C ≤ 14) (eU : h 8 1 = nI u) (hU : u ≤ 20) (hT : ∀ δ si c b, 0 ≤ zd_t (zθo (zτC h J C u) δ) si c b) (en : h 32 1 = nI nx) (hnx : nx < 11) (ec : h 32 2 = nI ct) (hct : ct ≤ 10)  : zj_M l E yX7_smooth cX7_smooth 2 (some .int) 5 [.ref (E.2.1 0)] h g (fun v h' g' => g' = g ∧ zk_fr h h' ∧ zk_post h h' nx ct v (zo_smo (zτC h J C u) (zδC h 13))) := by
  refine zj_M.of RX7 (by decide) rfl (Nat.le_of_ble_eq_true rfl) ?_
  intro Γ hΓ K Rt
  subst hΓ
  have hk : zj_isC 12 := Or.inl rfl
  have loop : ∀ (m t : Nat) (x1 : Int32) (q2 : zj_H) (δ : zδ) (q : zj_H), 40 + 1 ≤ t + m → t ≤ 40 → x1 = nI t → (∀ a, a < 34 → q a = h a) → (∀ a, (a < 34 + 4 * nx ∨ 34 + 4 * nx + 4 ≤ a) → q a = h a) → zk_row q (34 + 4 * nx) (zδC h 13) → (∀ a, (a < 12 ∨ 22 ≤ a) → q2 a = q a) → zδC q2 13 = δ → zo_sm (zτC h J C u) 40 (zδC h 13) = (t + (zo_sm (zτC h J C u) (40 - t) δ).1, (zo_sm (zτC h J C u) (40 - t) δ).2) → zj_J E Γ 2 16 [(0, .ref (E.2.1 0)), (1, .int x1)] [] q2 g := by
    intro m
    induction m with
    | zero => intro t x1 q2 δ q h1 h2; omega
    | succ m ih =>
      intro t x1 q2 δ q h1 h2 e1 zq zq1 zq2 zb hδ hsm
      have w8 : ∀ a, a < 12 → q2 a = h a := fun a ha => by rw [zb a (by omega), zq a (by omega)]
      have eJ2 : q2 8 6 = nI J := by rw [w8 8 (by decide)]; exact eJ
      have eC2 : q2 8 7 = nI C := by rw [w8 8 (by decide)]; exact eC
      have eτ : zτC q2 J C u = (zτC h J C u) := zτC_congr (w8 8 (by decide)) (w8 9 (by decide)) (w8 10 (by decide))
      have eq1 : q2 32 1 = nI nx := by rw [zb 32 (by decide), zq 32 (by decide)]; exact en
      have eq2 : q2 32 2 = nI ct := by rw [zb 32 (by decide), zq 32 (by decide)]; exact ec
      refine zj_iload_n (i := 1) (pc := 16) K dX7_smooth_16 rfl rfl ?_
      refine zj_bipush (v := 40) (pc := 17) K dX7_smooth_17 (by decide) ?_
      refine zj_icmp_ge (tgt := 85) (pc := 19) K dX7_smooth_19 (by decide) (fun c_19 => ?_) (fun c_19 => ?_)
      · have h40 : t = 40 := Nat.le_antisymm h2 (zz_ge e1 (show (40 : Int32) = nI 40 from rfl) (by omega) (by omega) c_19)
        have hfin : zo_sm (zτC h J C u) 40 (zδC h 13) = (t, δ) := by rw [hsm, h40, Nat.sub_self, show zo_sm (zτC h J C u) 0 δ = (0, δ) from rfl]; rfl
        refine zj_iload_n (i := 1) (pc := 85) K dX7_smooth_85 rfl rfl ?_
        refine zj_if_ne (tgt := 91) (pc := 86) K dX7_smooth_86 (by decide) (fun c_86 => ?_) (fun c_86 => ?_)
        · have h0 : ¬ t = 0 := fun e => c_86 (by rw [e1, e]; rfl)
          refine zj_aload_n (i := 0) (pc := 91) K dX7_smooth_91 rfl rfl ?_
          refine zj_getR (pc := 92) K lf_X7_47 hs_B rfl dX7_smooth_92 ?_
          refine zj_cV0W (pc := 95) K lm_X7_224 hs_H (m_X3_keepPrepared eq1 hnx eq2 hct) (by decide) rfl (Nat.le_of_ble_eq_true rfl) dX7_smooth_95 ?_
          refine zj_iload_n (i := 1) (pc := 98) K dX7_smooth_98 rfl rfl ?_
          exact zj_iret K Rt dX7_smooth_99 (by
            have hm := zk_mk_keep (ct := ct) hnx zq1 zq2 zb hδ
            exact ⟨rfl, hm.1, by rw [zo_smo, hfin, if_neg h0]; exact ⟨by rw [e1], hm.2⟩⟩)
        · have h0 : t = 0 := by
            rw [e1] at c_86
            exact (nI_eq (b := 0) (by omega) (by omega)).mp c_86
          refine zj_iconst (v := -1) (pc := 89) K dX7_smooth_89 (by decide) ?_
          exact zj_iret K Rt dX7_smooth_90 (by
            have hz2 : δ = (zδC h 13) := by have e9 := zo_sm_0 (τ := (zτC h J C u)) (f := 40) (δ := (zδC h 13)) (by rw [hfin]; exact h0); rw [hfin] at e9; exact e9
            have hm := zk_mk_stay hnx zq1 zb (hδ.trans hz2)
            exact ⟨rfl, hm.1, by rw [zo_smo, hfin, if_pos h0]; exact ⟨rfl, hm.2⟩⟩)
      · have h40 : t < 40 := zz_nge e1 (show (40 : Int32) = nI 40 from rfl) (by omega) (by omega) c_19
        refine zj_aload_n (i := 0) (pc := 22) K dX7_smooth_22 rfl rfl ?_
        refine zj_getR (pc := 23) K lf_X7_37 hs_B rfl dX7_smooth_23 ?_
        refine zj_cV0P (pc := 26) K lm_X7_244 hs_C (m_X0_findBetter hk eJ2 hJ eC2 hC) (by decide) rfl (Nat.le_of_ble_eq_true rfl) dX7_smooth_26 (fun v q3 g3 hp => ?_)
        obtain ⟨rfl, rfl, zs1, zs2⟩ := hp
        rw [zo_bet_C (u := u) hJ hC, eτ, hδ] at zs2 ⊢
        have hδ3 : zδC q3 13 = δ := by
          rw [← hδ]
          unfold zδC
          rw [zs1 13 (by decide) (by decide) (by decide), zs1 (13 + 1) (by decide) (by decide) (by decide), zs1 (13 + 2) (by decide) (by decide) (by decide), zs1 (13 + 3) (by decide) (by decide) (by decide)]
        refine zj_if_eq (tgt := 85) (pc := 29) K dX7_smooth_29 (by decide) (fun c_29 => ?_) (fun c_29 => ?_)
        · replace c_29 := zz_i0.mp c_29
          have hbn : zo_bet (zτC h J C u) δ = none := by
            cases hq : zo_bet (zτC h J C u) δ with
            | none => rfl
            | some r => rw [hq] at c_29; cases c_29
          have hz0 : zo_sm (zτC h J C u) (40 - t) δ = (0, δ) := by rw [show 40 - t = (39 - t) + 1 by omega, zo_sm, hbn]
          have hfin : zo_sm (zτC h J C u) 40 (zδC h 13) = (t, δ) := by rw [hsm, hz0]; rfl
          have zb : ∀ a, (a < 12 ∨ 22 ≤ a) → q3 a = q a := fun a ha => by rw [zs1 a (by omega) (by omega) (by omega)]; exact zb a ha
          have hδ : zδC q3 13 = δ := hδ3
          have eq1 : q3 32 1 = nI nx := by rw [zs1 32 (by decide) (by decide) (by decide)]; exact eq1
          have eq2 : q3 32 2 = nI ct := by rw [zs1 32 (by decide) (by decide) (by decide)]; exact eq2
          refine zj_iload_n (i := 1) (pc := 85) K dX7_smooth_85 rfl rfl ?_
          refine zj_if_ne (tgt := 91) (pc := 86) K dX7_smooth_86 (by decide) (fun c_86 => ?_) (fun c_86 => ?_)
          · have h0 : ¬ t = 0 := fun e => c_86 (by rw [e1, e]; rfl)
            refine zj_aload_n (i := 0) (pc := 91) K dX7_smooth_91 rfl rfl ?_
            refine zj_getR (pc := 92) K lf_X7_47 hs_B rfl dX7_smooth_92 ?_
            refine zj_cV0W (pc := 95) K lm_X7_224 hs_H (m_X3_keepPrepared eq1 hnx eq2 hct) (by decide) rfl (Nat.le_of_ble_eq_true rfl) dX7_smooth_95 ?_
            refine zj_iload_n (i := 1) (pc := 98) K dX7_smooth_98 rfl rfl ?_
            exact zj_iret K Rt dX7_smooth_99 (by
              have hm := zk_mk_keep (ct := ct) hnx zq1 zq2 zb hδ
              exact ⟨rfl, hm.1, by rw [zo_smo, hfin, if_neg h0]; exact ⟨by rw [e1], hm.2⟩⟩)
          · have h0 : t = 0 := by
              rw [e1] at c_86
              exact (nI_eq (b := 0) (by omega) (by omega)).mp c_86
            refine zj_iconst (v := -1) (pc := 89) K dX7_smooth_89 (by decide) ?_
            exact zj_iret K Rt dX7_smooth_90 (by
              have hz2 : δ = (zδC h 13) := by have e9 := zo_sm_0 (τ := (zτC h J C u)) (f := 40) (δ := (zδC h 13)) (by rw [hfin]; exact h0); rw [hfin] at e9; exact e9
              have hm := zk_mk_stay hnx zq1 zb (hδ.trans hz2)
              exact ⟨rfl, hm.1, by rw [zo_smo, hfin, if_pos h0]; exact ⟨rfl, hm.2⟩⟩)
        · replace c_29 := zz_n0.mp c_29
          obtain ⟨⟨ba, bi, bb, bj⟩, hbs⟩ : ∃ r, zo_bet (zτC h J C u) δ = some r := by
            cases hq : zo_bet (zτC h J C u) δ with
            | none => rw [hq] at c_29; cases c_29
            | some r => exact ⟨r, rfl⟩
          obtain ⟨zk0, zk1, zk2, zk3, zk4⟩ := zs2 _ _ _ _ hbs
          have hlt := zo_bet_lt hbs
          have hlt1 : ba < C := hlt.1
          have hlt2 : bb < C := hlt.2.2.2.1
          refine zj_aload_n (i := 0) (pc := 32) K dX7_smooth_32 rfl rfl ?_
          refine zj_getR (pc := 33) K lf_X7_37 hs_B rfl dX7_smooth_33 ?_
          refine zj_aload_n (i := 0) (pc := 36) K dX7_smooth_36 rfl rfl ?_
          refine zj_getR (pc := 37) K lf_X7_37 hs_B rfl dX7_smooth_37 ?_
          refine zj_getR (pc := 40) K lf_X7_247 hs_C rfl dX7_smooth_40 ?_
          refine zj_getI (pc := 43) K lf_X7_251 hs_Cf rfl dX7_smooth_43 ?_
          refine zj_aload_n (i := 0) (pc := 46) K dX7_smooth_46 rfl rfl ?_
          refine zj_getR (pc := 47) K lf_X7_37 hs_B rfl dX7_smooth_47 ?_
          refine zj_getR (pc := 50) K lf_X7_247 hs_C rfl dX7_smooth_50 ?_
          refine zj_getI (pc := 53) K lf_X7_256 hs_Cf rfl dX7_smooth_53 ?_
          refine zj_aload_n (i := 0) (pc := 56) K dX7_smooth_56 rfl rfl ?_
          refine zj_getR (pc := 57) K lf_X7_37 hs_B rfl dX7_smooth_57 ?_
          refine zj_getR (pc := 60) K lf_X7_247 hs_C rfl dX7_smooth_60 ?_
          refine zj_getI (pc := 63) K lf_X7_259 hs_Cf rfl dX7_smooth_63 ?_
          refine zj_aload_n (i := 0) (pc := 66) K dX7_smooth_66 rfl rfl ?_
          refine zj_getR (pc := 67) K lf_X7_37 hs_B rfl dX7_smooth_67 ?_
          refine zj_getR (pc := 70) K lf_X7_247 hs_C rfl dX7_smooth_70 ?_
          refine zj_getI (pc := 73) K lf_X7_262 hs_Cf rfl dX7_smooth_73 ?_
          refine zj_cV4W (pc := 76) K lm_X7_272 hs_C (m_X0_changePlaces hk zk0 zk1 zk2 zk3 (by omega) (by omega)) (by decide) rfl (Nat.le_of_ble_eq_true rfl) dX7_smooth_76 ?_
          refine zj_iinc (v := 1) (pc := 79) K dX7_smooth_79 rfl (by decide) rfl rfl rfl ?_
          refine zj_goto (tgt := 16) (pc := 82) K dX7_smooth_82 (by decide) ?_
          refine ih (t + 1) _ _ (zo_si δ (zx_si δ.2.2.2.1 ba bi bb bj)) q (by omega) (by omega) (zz_up e1) zq zq1 zq2 (fun a ha => by rw [zj_s_ne _ _ (by omega), zs1 a (by omega) (by omega) (by omega)]; exact zb a ha) ?_ ?_
          · have hsi : q3 (12 + 3) = δ.2.2.2.1 := by rw [← hδ3]; rfl
            unfold zδC zo_si
            rw [zj_s_ne _ _ (show 13 ≠ 12 + 3 by decide), zj_s_ne _ _ (show 13 + 1 ≠ 12 + 3 by decide), zj_s_ne _ _ (show 13 + 3 ≠ 12 + 3 by decide), show (13 + 2) = 12 + 3 from rfl, zj_s_eq, hsi, ← hδ3]
            rfl
          · rw [hsm, show 40 - t = (40 - (t + 1)) + 1 by omega, zo_sm, hbs]
            simp only
            rw [show t + ((zo_sm (zτC h J C u) (40 - (t + 1)) (zo_si δ (zx_si δ.2.2.2.1 ba bi bb bj))).1 + 1) = t + 1 + (zo_sm (zτC h J C u) (40 - (t + 1)) (zo_si δ (zx_si δ.2.2.2.1 ba bi bb bj))).1 by omega]
  show zj_J E Γ 2 0 [(0, .ref (E.2.1 0))] [] h g
  refine zj_aload_n (i := 0) (pc := 0) K dX7_smooth_0 rfl rfl ?_
  refine zj_getR (pc := 1) K lf_X7_47 hs_B rfl dX7_smooth_1 ?_
  refine zj_aload_n (i := 0) (pc := 4) K dX7_smooth_4 rfl rfl ?_
  refine zj_getR (pc := 5) K lf_X7_37 hs_B rfl dX7_smooth_5 ?_
  refine zj_getR (pc := 8) K lf_X7_97 hs_C rfl dX7_smooth_8 ?_
  refine zj_cV1P (pc := 11) K lm_X7_217 hs_H (m_X3_prepare en hnx) (by decide) rfl (Nat.le_of_ble_eq_true rfl) dX7_smooth_11 (fun v q g1 hp => ?_)
  obtain ⟨rfl, rfl, zq1, zq2⟩ := hp
  have zq : ∀ a, a < 34 → q a = h a := fun a ha => zq1 a (by omega)
  have eJq : q 8 6 = nI J := by rw [zq 8 (by decide)]; exact eJ
  have eCq : q 8 7 = nI C := by rw [zq 8 (by decide)]; exact eC
  have eUq : q 8 1 = nI u := by rw [zq 8 (by decide)]; exact eU
  have enq : q 32 1 = nI nx := by rw [zq 32 (by decide)]; exact en
  have ecq : q 32 2 = nI ct := by rw [zq 32 (by decide)]; exact ec
  have eτ : zτC q J C u = zτC h J C u := zτC_congr (zq 8 (by decide)) (zq 9 (by decide)) (zq 10 (by decide))
  have eδ : zδC q 13 = zδC h 13 := by unfold zδC; rw [zq 13 (by decide), zq (13 + 1) (by decide), zq (13 + 2) (by decide), zq (13 + 3) (by decide)]
  have hTq : ∀ si c b, 0 ≤ zd_t (zθC q 12 J C u) si c b := fun si c b => by rw [zθC_eq, eτ]; exact hT _ si c b
  refine zj_iconst (v := 0) (pc := 14) K dX7_smooth_14 (by decide) ?_
  refine zj_istore_n (i := 1) (pc := 15) K dX7_smooth_15 rfl rfl rfl rfl ?_
  exact loop 41 0 _ q (zδC h 13) q (by omega) (by omega) rfl zq zq1 zq2 (fun _ _ => rfl) eδ (by rw [Nat.sub_zero, Nat.zero_add])

set_option maxHeartbeats 4000000 in
set_option maxRecDepth 20000 in
theorem m_X7_same {l : Launch} {E : zj_E} {h : zj_H} {g : zj_G} {C : Nat} (eC : h 8 7 = nI C) (hC : C ≤ 14)  : zj_M l E yX7_same cX7_same 3 (some .int) 0 [.ref (E.2.1 0)] h g (zj_pI (nI (zc_cnt (fun c => decide (h 15 c = h 25 c)) C)) h g) := by
  refine zj_M.of RX7 (by decide) rfl (Nat.le_of_ble_eq_true rfl) ?_
  intro Γ hΓ K Rt
  subst hΓ
  have hk : zj_isC 12 := Or.inl rfl
  have loop : ∀ (n i : Nat) (x1 x2 : Int32), C + 1 ≤ i + n → i ≤ C → (x1 = nI (zc_cnt (fun c => decide (h 15 c = h 25 c)) i)) → (x2 = nI i) → zj_J E Γ 3 4 [(0, .ref (E.2.1 0)), (1, .int x1), (2, .int x2)] [] h g := by
    intro n
    induction n with
    | zero => intro i x1 x2  h1 h2; omega
    | succ n ih =>
      intro i x1 x2  h1 h2 e1 e2
      refine zj_iload_n (i := 2) (pc := 4) K dX7_same_4 rfl rfl ?_
      refine zj_aload_n (i := 0) (pc := 5) K dX7_same_5 rfl rfl ?_
      refine zj_getR (pc := 6) K lf_X7_28 hs_B rfl dX7_same_6 ?_
      refine zj_getI (pc := 9) K lf_X7_94 hs_D rfl dX7_same_9 ?_
      refine zj_icmp_ge (tgt := 51) (pc := 12) K dX7_same_12 (by decide) (fun c_12 => ?_) (fun c_12 => ?_)
      · have hi : i = C := Nat.le_antisymm h2 (zz_ge e2 eC (by omega) (by omega) c_12)
        subst hi
        refine zj_iload_n (i := 1) (pc := 51) K dX7_same_51 rfl rfl ?_
        exact zj_iret K Rt dX7_same_52 (⟨by rw [e1], rfl, rfl⟩)
      · have hi : i < C := zz_nge e2 eC (by omega) (by omega) c_12
        refine zj_aload_n (i := 0) (pc := 15) K dX7_same_15 rfl rfl ?_
        refine zj_getR (pc := 16) K lf_X7_37 hs_B rfl dX7_same_16 ?_
        refine zj_getR (pc := 19) K lf_X7_97 hs_C rfl dX7_same_19 ?_
        refine zj_getR (pc := 22) K lf_X7_166 hs_Cd rfl dX7_same_22 ?_
        refine zj_iload_n (i := 2) (pc := 25) K dX7_same_25 rfl rfl ?_
        refine zj_ald (j := _) (pc := 26) K hs_Ci (by first | assumption | rfl) (by first | assumption | omega) (by first | decide | omega) dX7_same_26 ?_
        refine zj_aload_n (i := 0) (pc := 27) K dX7_same_27 rfl rfl ?_
        refine zj_getR (pc := 28) K lf_X7_41 hs_B rfl dX7_same_28 ?_
        refine zj_getR (pc := 31) K lf_X7_97 hs_A rfl dX7_same_31 ?_
        refine zj_getR (pc := 34) K lf_X7_166 hs_Ad rfl dX7_same_34 ?_
        refine zj_iload_n (i := 2) (pc := 37) K dX7_same_37 rfl rfl ?_
        refine zj_ald (j := _) (pc := 38) K hs_Ai (by first | assumption | rfl) (by first | assumption | omega) (by first | decide | omega) dX7_same_38 ?_
        refine zj_icmp_ne (tgt := 45) (pc := 39) K dX7_same_39 (by decide) (fun c_39 => ?_) (fun c_39 => ?_)
        · refine zj_iinc (v := 1) (pc := 45) K dX7_same_45 rfl (by decide) rfl rfl rfl ?_
          refine zj_goto (tgt := 4) (pc := 48) K dX7_same_48 (by decide) ?_
          exact ih (i + 1) _ _ (by omega) (by omega) (by first | exact zc_cnt_f e1 (decide_eq_false c_39) | exact zc_cnt_t e1 (decide_eq_true c_39)) (zz_up e2)
        · refine zj_iinc (v := 1) (pc := 42) K dX7_same_42 rfl (by decide) rfl rfl rfl ?_
          refine zj_iinc (v := 1) (pc := 45) K dX7_same_45 rfl (by decide) rfl rfl rfl ?_
          refine zj_goto (tgt := 4) (pc := 48) K dX7_same_48 (by decide) ?_
          exact ih (i + 1) _ _ (by omega) (by omega) (by first | exact zc_cnt_f e1 (decide_eq_false c_39) | exact zc_cnt_t e1 (decide_eq_true c_39)) (zz_up e2)
  show zj_J E Γ 3 0 [(0, .ref (E.2.1 0))] [] h g
  refine zj_iconst (v := 0) (pc := 0) K dX7_same_0 (by decide) ?_
  refine zj_istore_n (i := 1) (pc := 1) K dX7_same_1 rfl rfl rfl rfl ?_
  refine zj_iconst (v := 0) (pc := 2) K dX7_same_2 (by decide) ?_
  refine zj_istore_n (i := 2) (pc := 3) K dX7_same_3 rfl rfl rfl rfl ?_
  exact loop (C + 1) 0 _ _ (by omega) (by omega) rfl rfl

set_option maxHeartbeats 4000000 in
set_option maxRecDepth 20000 in
theorem m_X7_anew {l : Launch} {E : zj_E} {h : zj_H} {g : zj_G} {C : Nat} (eC : h 8 7 = nI C) (hC : C ≤ 14) {x : Int32} : zj_M l E yX7_anew cX7_anew 2 (some .int) 1 [.ref (E.2.1 0), .int x] h g (zj_pI (if zz_in x C = true then h 25 x.toNatClampNeg else -1) h g) := by
  refine zj_M.of RX7 (by decide) rfl (Nat.le_of_ble_eq_true rfl) ?_
  intro Γ hΓ K Rt
  subst hΓ
  have hk : zj_isC 12 := Or.inl rfl
  show zj_J E Γ 2 0 [(0, .ref (E.2.1 0)), (1, .int x)] [] h g
  refine zj_aload_n (i := 0) (pc := 0) K dX7_anew_0 rfl rfl ?_
  refine zj_getR (pc := 1) K lf_X7_28 hs_B rfl dX7_anew_1 ?_
  refine zj_iload_n (i := 1) (pc := 4) K dX7_anew_4 rfl rfl ?_
  refine zj_cV1I (pc := 5) K lm_X7_152 hs_D (m_X6_hasCase (Or.inr rfl) (by assumption) (by omega)) (by decide) rfl (Nat.le_of_ble_eq_true rfl) dX7_anew_5 ?_
  refine zj_if_eq (tgt := 26) (pc := 8) K dX7_anew_8 (by decide) (fun c_8 => ?_) (fun c_8 => ?_)
  · replace c_8 := zz_i0.mp c_8
    refine zj_iconst (v := -1) (pc := 26) K dX7_anew_26 (by decide) ?_
    exact zj_iret K Rt dX7_anew_27 (⟨by first | (rw [zz_iff c_8]) | (rw [zz_ift c_8, ei, nI_clamp (by omega)]), rfl, rfl⟩)
  · replace c_8 := zz_n0.mp c_8
    obtain ⟨c, hc, ei⟩ := zz_in_ex c_8 (by omega)
    refine zj_aload_n (i := 0) (pc := 11) K dX7_anew_11 rfl rfl ?_
    refine zj_getR (pc := 12) K lf_X7_41 hs_B rfl dX7_anew_12 ?_
    refine zj_getR (pc := 15) K lf_X7_97 hs_A rfl dX7_anew_15 ?_
    refine zj_getR (pc := 18) K lf_X7_166 hs_Ad rfl dX7_anew_18 ?_
    refine zj_iload_n (i := 1) (pc := 21) K dX7_anew_21 rfl rfl ?_
    refine zj_ald (j := c) (pc := 22) K hs_Ai ei (by omega) (by first | decide | omega) dX7_anew_22 ?_
    refine zj_goto (tgt := 27) (pc := 23) K dX7_anew_23 (by decide) ?_
    exact zj_iret K Rt dX7_anew_27 (⟨by first | (rw [zz_iff c_8]) | (rw [zz_ift c_8, ei, nI_clamp (by omega)]), rfl, rfl⟩)

set_option maxHeartbeats 4000000 in
set_option maxRecDepth 20000 in
theorem m_X7_undo {l : Launch} {E : zj_E} {h : zj_H} {g : zj_G} {nx ct : Nat} (en : h 32 1 = nI nx) (hnx : nx < 11) (ec : h 32 2 = nI ct) (hct : ct ≤ 10)  : zj_M l E yX7_undo cX7_undo 1 (some .int) 4 [.ref (E.2.1 0)] h g (fun v h' g' => g' = g ∧ if ct = 0 then v = some (.int (-1)) ∧ h' = h else v = some (.int (nI (ct - 1))) ∧ (∀ a, a ≠ 32 → a ≠ 13 → a ≠ 14 → a ≠ 15 → a ≠ 16 → h' a = h a) ∧ h' 32 1 = nI ((nx + 10) % 11) ∧ h' 32 2 = nI (ct - 1) ∧ zk_row h' 13 (zδC h (34 + 4 * ((nx + 10) % 11)))) := by
  refine zj_M.of RX7 (by decide) rfl (Nat.le_of_ble_eq_true rfl) ?_
  intro Γ hΓ K Rt
  subst hΓ
  have hk : zj_isC 12 := Or.inl rfl
  show zj_J E Γ 1 0 [(0, .ref (E.2.1 0))] [] h g
  refine zj_aload_n (i := 0) (pc := 0) K dX7_undo_0 rfl rfl ?_
  refine zj_getR (pc := 1) K lf_X7_47 hs_B rfl dX7_undo_1 ?_
  refine zj_getI (pc := 4) K lf_X7_110 hs_H rfl dX7_undo_4 ?_
  refine zj_if_ne (tgt := 12) (pc := 7) K dX7_undo_7 (by decide) (fun c_7 => ?_) (fun c_7 => ?_)
  · have h0 : ¬ ct = 0 := fun e => c_7 (by rw [ec, e]; rfl)
    refine zj_aload_n (i := 0) (pc := 12) K dX7_undo_12 rfl rfl ?_
    refine zj_getR (pc := 13) K lf_X7_47 hs_B rfl dX7_undo_13 ?_
    refine zj_aload_n (i := 0) (pc := 16) K dX7_undo_16 rfl rfl ?_
    refine zj_getR (pc := 17) K lf_X7_37 hs_B rfl dX7_undo_17 ?_
    refine zj_getR (pc := 20) K lf_X7_97 hs_C rfl dX7_undo_20 ?_
    refine zj_cV1P (pc := 23) K lm_X7_276 hs_H (m_X3_giveBack en hnx ec hct (by omega)) (by decide) rfl (Nat.le_of_ble_eq_true rfl) dX7_undo_23 (fun v q g1 hp => ?_)
    obtain ⟨rfl, rfl, zs1, zs2, zs3, zs4⟩ := hp
    refine zj_aload_n (i := 0) (pc := 26) K dX7_undo_26 rfl rfl ?_
    refine zj_getR (pc := 27) K lf_X7_47 hs_B rfl dX7_undo_27 ?_
    refine zj_getI (pc := 30) K lf_X7_110 hs_H rfl dX7_undo_30 ?_
    exact zj_iret K Rt dX7_undo_33 (⟨rfl, by rw [if_neg h0]; exact ⟨by rw [zs3], zs1, zs2, zs3, zs4⟩⟩)
  · have h0 : ct = 0 := by
      rw [ec] at c_7
      exact (nI_eq (b := 0) (by omega) (by omega)).mp c_7
    refine zj_iconst (v := -1) (pc := 10) K dX7_undo_10 (by decide) ?_
    exact zj_iret K Rt dX7_undo_11 (⟨rfl, by rw [if_pos h0]; exact ⟨rfl, rfl⟩⟩)
