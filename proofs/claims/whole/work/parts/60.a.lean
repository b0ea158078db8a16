theorem zu_set5 {h : zj_H} {t : Nat → Int32} {n : Nat} {r : zuR} {f : zuW → Int32} (hC : zu_C h t n r) (hD : zu_D h r) : zu_C h t n (zu_set 5 f r) ∧ zu_D h (zu_set 5 f r) := by
  match r, hC, hD with
  | .inl e, hC, _ => exact ⟨hC, trivial⟩
  | .inr (q, w), hC, hD =>
    obtain ⟨d0, d1, d2, d3, d4, d5, d6, d7, d8, d9, d10, d11⟩ : zu_d h w := hD
    exact ⟨hC, d0, d1, d2, d3, d4, d5, d6, d7, d8, fun j hj => (d9 j hj).trans (zz_upd_ne _ _ (by omega)).symm, fun j hj => (d10 j hj).trans (zz_upd_ne _ _ (by omega)).symm, fun j hj => (d11 j hj).trans (zz_upd_ne _ _ (by omega)).symm⟩
theorem zu_mkJ {h k A : zj_H} {x : Int32} {t : Nat → Int32} {n J : Nat} {q : zuK} {w : zuW} (hJ : J < 9) (eJ : w 7 = nI J) (hD : zu_d h w) (hN : zu_N h k x t n 1 99 (8 + J) (.inr (q, w))) (eA : A = zj_s k 5 (upd (k 5) J x)) :
    zu_S h (zj_s A 4 (upd (A 4) 6 (A 4 6 + 1))) t n (h 3 3) (zu_set 7 (fun w => w 7 + 1) (zu_num (zw_T t n) 1 99 (8 + J) (.inr (q, w)))) := by
  obtain ⟨n1, n2, n3, n4, n5⟩ := hN
  have a3 : A 3 = k 3 := by rw [eA]; exact zj_s_ne _ _ (by decide)
  have a4 : A 4 = h 4 := by rw [eA, zj_s_ne _ _ (by decide)]; exact n1 4 (by decide)
  have a5 : A 5 = upd (h 5) J x := by rw [eA, zj_s_eq, n1 5 (by decide)]
  have a6 : A 6 = h 6 := by rw [eA, zj_s_ne _ _ (by decide)]; exact n1 6 (by decide)
  have a7 : A 7 = h 7 := by rw [eA, zj_s_ne _ _ (by decide)]; exact n1 7 (by decide)
  refine ⟨fun a ha => by rw [zj_s_ne _ _ (by omega), eA, zj_s_ne _ _ (by omega)]; exact n1 a (by omega), by rw [zj_s_ne _ _ (by decide), a3]; exact n2, ?_, ?_⟩
  · have hc : zu_C (zj_s A 4 (upd (A 4) 6 (A 4 6 + 1))) t n (zu_num (zw_T t n) 1 99 (8 + J) (.inr (q, w))) := zu_C_c (fun b _ => by rw [zj_s_ne _ _ (by decide), a3]) n4
    cases hr : zu_num (zw_T t n) 1 99 (8 + J) (.inr (q, w)) with
    | inl e => rw [hr] at hc; exact hc
    | inr qw => rw [hr] at hc; exact hc
  · cases hr : zu_num (zw_T t n) 1 99 (8 + J) (.inr (q, w)) with
    | inl e => trivial
    | inr qw =>
      obtain ⟨q1, w1⟩ := qw
      obtain ⟨q0, w0, hz, rfl, _, _⟩ := n5 q1 w1 hr
      cases hz
      obtain ⟨d0, d1, d2, d3, d4, d5, d6, d7, d8, d9, d10, d11⟩ := hD
      have e7 : upd w (8 + J) x 7 + 1 = nI (J + 1) := by rw [zz_upd_ne _ _ (by omega), eJ, nI_1]
      have low : ∀ (y : Int32) k, k < 7 → upd (upd w (8 + J) x) 7 y k = w k := fun y k hk => by rw [zz_upd_ne _ _ (by omega), zz_upd_ne _ _ (by omega)]
      have high : ∀ (y : Int32) k, 8 ≤ k → k ≠ 8 + J → upd (upd w (8 + J) x) 7 y k = w k := fun y k hk h2 => by rw [zz_upd_ne _ _ (by omega), zz_upd_ne _ _ h2]
      show zu_d (zj_s A 4 (upd (A 4) 6 (A 4 6 + 1))) (upd (upd w (8 + J) x) 7 (upd w (8 + J) x 7 + 1))
      unfold zu_d
      rw [zj_s_eq, zj_s_ne _ _ (show (3 : Nat) ≠ 4 by decide), zj_s_ne _ _ (show (5 : Nat) ≠ 4 by decide), zj_s_ne _ _ (show (6 : Nat) ≠ 4 by decide), zj_s_ne _ _ (show (7 : Nat) ≠ 4 by decide), a3, a4, a5, a6, a7, n3, low _ 0 (by decide), low _ 1 (by decide), low _ 2 (by decide), low _ 3 (by decide), low _ 4 (by decide), low _ 6 (by decide), high _ 18 (by decide) (by omega), zz_upd_at (upd w (8 + J) x), e7, nI_clamp (show J + 1 < 2 ^ 31 by omega)]
      refine ⟨d0, d1, d2, d3, d4, d5, d6, ?_, d8, fun j hj => ?_, fun c hc => ?_, fun c hc => ?_⟩
      · rw [zz_upd_at, d7, eJ, nI_1]
      · by_cases ej : j = J
        · subst ej; rw [zz_upd_at, zz_upd_ne _ _ (by omega), zz_upd_at]
        · rw [zz_upd_ne _ _ ej, high _ (8 + j) (by omega) (by omega)]
          exact d9 j (by rw [eJ, nI_clamp (by omega)]; omega)
      · rw [high _ (19 + c) (by omega) (by omega)]; exact d10 c hc
      · rw [high _ (33 + c) (by omega) (by omega)]; exact d11 c hc
theorem zu_mkS {h k h1 : zj_H} {x : Int32} {t : Nat → Int32} {n : Nat} {q : zuK} {w : zuW} (hD : zu_d h w) (f1 : zu_fr h h1) (e4 : h1 4 = h 4) (e5 : h1 5 = h 5) (e6 : h1 6 = h 6) (e7 : h1 7 = h 7) (e8 : h1 3 8 = 1) (e33 : h1 3 3 = h 3 3) (hN : zu_N h1 k x t n 1 99 6 (.inr (q, w))) :
    zu_S h (zj_s k 4 (upd (k 4) 5 x)) t n (h 3 3) (zu_num (zw_T t n) 1 99 6 (.inr (q, w))) := by
  obtain ⟨n1, n2, n3, n4, n5⟩ := hN
  refine ⟨fun a ha => by rw [zj_s_ne _ _ (by omega), n1 a (by omega)]; exact f1 a ha, by rw [zj_s_ne _ _ (by decide), n2, e33], zu_C_c (fun b _ => by rw [zj_s_ne _ _ (by decide)]) n4, ?_⟩
  cases hr : zu_num (zw_T t n) 1 99 6 (.inr (q, w)) with
  | inl e => trivial
  | inr qw =>
    obtain ⟨q1, w1⟩ := qw
    obtain ⟨q0, w0, hz, rfl, hlo, _⟩ := n5 q1 w1 hr
    cases hz
    obtain ⟨d0, d1, d2, d3, d4, d5, d6, d7, d8, d9, d10, d11⟩ := hD
    have hx0 : ¬ x = 0 := fun z => by rw [z] at hlo; exact absurd hlo (by decide)
    show zu_d (zj_s k 4 (upd (k 4) 5 x)) (upd w 6 x)
    unfold zu_d
    rw [zj_s_eq, zj_s_ne _ _ (show (3 : Nat) ≠ 4 by decide), zj_s_ne _ _ (show (5 : Nat) ≠ 4 by decide), zj_s_ne _ _ (show (6 : Nat) ≠ 4 by decide), zj_s_ne _ _ (show (7 : Nat) ≠ 4 by decide), n3, n1 4 (by decide), n1 5 (by decide), n1 6 (by decide), n1 7 (by decide), e4, e5, e6, e7, e8, zz_upd_at w, if_neg hx0, decide_eq_true hx0]
    exact ⟨d0, d1, d2, d3, d4, zz_upd_at _ _ _, rfl, d7, d8, fun j hj => (d9 j hj).trans (zz_upd_ne _ _ (by omega)).symm, fun j hj => (d10 j hj).trans (zz_upd_ne _ _ (by omega)).symm, fun j hj => (d11 j hj).trans (zz_upd_ne _ _ (by omega)).symm⟩
-- bits that are free
def zu_free (b : Int32) : Nat := zc_cnt (fun j => !bt b j) 9
theorem zu_free_le (b : Int32) : zu_free b ≤ 9 := zc_cnt_le _ 9
theorem zu_cnt_lt {p q : Nat → Bool} {j : Nat} : ∀ {n : Nat}, j < n → (∀ i, i < n → p i = true → q i = true) → q j = true → p j = false → zc_cnt p n < zc_cnt q n
  | 0, h, _, _, _ => absurd h (Nat.not_lt_zero _)
  | n + 1, h, hi, hq, hp => by
    have mono : ∀ m, m ≤ n → zc_cnt p m ≤ zc_cnt q m := by
      intro m
      induction m with
      | zero => intro _; exact Nat.le_refl 0
      | succ m ih =>
        intro hm
        have := ih (by omega)
        unfold zc_cnt
        cases h1 : p m with
        | false => simp; omega
        | true => rw [hi m (by omega) h1]; simp; omega
    by_cases e : j = n
    · subst e
      have := mono j (Nat.le_refl j)
      unfold zc_cnt
      rw [hp, hq]; simp; omega
    · have ih := zu_cnt_lt (n := n) (show j < n by omega) (fun i h1 h2 => hi i (by omega) h2) hq hp
      unfold zc_cnt
      cases h1 : p n with
      | false => simp; omega
      | true => rw [hi n (by omega) h1]; simp; omega
theorem zu_free_lt {b : Int32} {j : Nat} (hj : j < 9) (hb : bt b j = false) : zu_free (b ||| zz_bit j) < zu_free b := by
  refine zu_cnt_lt hj (fun i hi h => ?_) (by rw [hb]; rfl) ?_
  · rw [b_or] at h
    cases hz : bt b i with
    | false => rfl
    | true => rw [hz] at h; cases h
  · rw [b_or, zz_bt_bit (by omega), decide_eq_true rfl, Bool.or_true]; rfl
theorem zu_bars_n {T : Nat → zuK} {c f : Nat} {q : zuK} {w : zuW} (h : ¬ q.1 = 3) : zu_bars T c (f + 1) q w = .inr (q, w) := by
  show (if q.1 = 3 then _ else _) = _
  rw [if_neg h]
theorem zu_bars_4 {T : Nat → zuK} {c f j J : Nat} {q : zuK} {w : zuW} (h : q.1 = 3) (ev : q.2.2.2 = nI j) (hj : j < 10000) (eJ : w 7 = nI J) (hJ : J ≤ 9) (hb : ¬ (j < J ∧ bt (w (33 + c)) j = false)) : zu_bars T c (f + 1) q w = .inl (4, q.2.1) := by
  show (if q.1 = 3 then (if _ then _ else _) else _) = _
  rw [if_pos h, if_pos]
  rw [ev, nI_clamp (by omega), eJ]
  by_cases h1 : j < J
  · have h2 : bt (w (33 + c)) j = true := by
      cases hz : bt (w (33 + c)) j with
      | true => rfl
      | false => exact absurd ⟨h1, hz⟩ hb
    rw [h2, Bool.or_true]
  · rw [decide_eq_true ((nI_leI (by omega) (by omega)).mpr (by omega)), Bool.true_or]
theorem zu_bars_s {T : Nat → zuK} {c f j J : Nat} {q : zuK} {w : zuW} (h : q.1 = 3) (ev : q.2.2.2 = nI j) (hj : j < J) (eJ : w 7 = nI J) (hJ : J ≤ 9) (hb : bt (w (33 + c)) j = false) : zu_bars T c (f + 1) q w = zu_bars T c f (T q.2.2.1) (upd w (33 + c) (w (33 + c) ||| zz_bit j)) := by
  show (if q.1 = 3 then (if _ then _ else _) else _) = _
  rw [if_pos h, if_neg, ev, nI_clamp (by omega)]
  rw [ev, nI_clamp (by omega), eJ, hb, Bool.or_false, decide_eq_false (fun z => by have := (nI_leI (by omega) (by omega)).mp z; omega)]
  decide
theorem zu_upd2 {w : zuW} {k : Nat} {x y : Int32} : upd (upd w k x) k y = upd w k y := by
  funext i; unfold upd; split <;> rfl
theorem zu_upd_self {w : zuW} {k : Nat} {x : Int32} (h : w k = x) : upd w k x = w := by
  funext i; unfold upd; split
  · next e => rw [e, h]
  · rfl
set_option maxHeartbeats 4000000 in
set_option maxRecDepth 20000 in
theorem m_X4_readCourt {l : Launch} {E : zj_E} {h : zj_H} {g : zj_G} {n : Nat} {t : Nat → Int32} (et : h 2 = t) (eL : h 1 1 = nI n) (hn : n ≤ 540) {q : zuK} {w : zuW} (hC : zu_C h t n (.inr (q, w))) (hD : zu_d h w)  : zj_M l E yX4_readCourt cX4_readCourt 1 none 5 [.ref (E.2.1 3)] h g (fun v h' g' => v = none ∧ g' = g ∧ zu_S h h' t n (h 3 3) (zu_court (zw_T t n) (zu_is t) q w)) := by
  refine zj_M.of RX4 (by decide) rfl (Nat.le_of_ble_eq_true rfl) ?_
  intro Γ hΓ K Rt
  subst hΓ
  obtain ⟨q2, q4, q5, q6, q7, q8⟩ := hC
  have ht := zu_tk_1 q8
  show zj_J E Γ 1 0 [(0, .ref (E.2.1 3))] [] h g
  refine zj_aload_n (i := 0) (pc := 0) K dX4_readCourt_0 rfl rfl ?_
  refine zj_ldcS (i := 0) (tx := "court") (pc := 1) K rfl rfl dX4_readCourt_1 ?_
  refine zj_cV1I (pc := 3) K lm_X4_58 hs_R (m_X4_isWord (n := n) (q := q) q4 q5 q6 hn (by rw [et]; exact q8) (i := 0) (by decide)) (by decide) rfl (Nat.le_of_ble_eq_true rfl) dX4_readCourt_3 ?_
  refine zj_if_ne (tgt := 15) (pc := 6) K dX4_readCourt_6 (by decide) (fun c_6 => ?_) (fun c_6 => ?_)
  · replace c_6 := zz_n0.mp c_6
    rw [et] at c_6
    refine zj_aload_n (i := 0) (pc := 15) K dX4_readCourt_15 rfl rfl ?_
    refine zj_cV0P (pc := 16) K lm_X4_39 hs_R (m_X4_step (n := n) (a := q.2.2.1) (by first | exact eL | exact eLq) hn q5 ht.2.2) (by decide) rfl (Nat.le_of_ble_eq_true rfl) dX4_readCourt_16 (fun v1 h1 g1 hp1 => ?_)
    obtain ⟨rfl, rfl, p3, p4, p5⟩ := zu_stepP et ht.2.2 hp1
    have hC1 : zu_C h1 t n (zu_go (zw_T t n) (.inr (q, w))) := ⟨by rw [p4 2 (by decide)]; exact q2, p5⟩
    have hD1 : zu_D h1 (zu_go (zw_T t n) (.inr (q, w))) := zu_d_c (p4 8 (by decide)) (p3 4 (by decide)) (p3 5 (by decide)) (p3 6 (by decide)) (p3 7 (by decide)) hD
    have hF1 : zu_fr h h1 := fun a ha => p3 a (by omega)
    have hl1 : h1 3 3 = h 3 3 := p4 3 (by decide)
    refine zj_aload_n (i := 0) (pc := 19) K dX4_readCourt_19 rfl rfl ?_
    refine zj_getR (pc := 20) K lf_X4_18 hs_R rfl dX4_readCourt_20 ?_
    refine zj_aload_n (i := 0) (pc := 23) K dX4_readCourt_23 rfl rfl ?_
    refine zj_iconst (v := 0) (pc := 24) K dX4_readCourt_24 (by decide) ?_
    refine zj_sipush (v := 9999) (pc := 25) K dX4_readCourt_25 (by decide) ?_
    refine zj_cV2P (pc := 28) K lm_X4_80 hs_R (m_X4_takeNumber (n := n) (t := t) (k := 4) (by rw [hF1 2 (by decide)]; exact et) (by rw [hF1 1 (by decide)]; exact eL) hn hC1) (by decide) rfl (Nat.le_of_ble_eq_true rfl) dX4_readCourt_28 (fun vb1 kb1 gb1 hb1 => ?_)
    obtain ⟨xb1, rfl, rfl, hN1⟩ := hb1
    refine zj_putI (pc := 31) K lf_X4_84 hs_F rfl dX4_readCourt_31 ?_
    refine zj_hn (fun kc1 ek1 => ?_)
    have hS1 := zu_put (f := 0) (by unfold zu_fk; omega) hD1 hN1
    rw [← ek1] at hS1
    have hC2 := hS1.2.2.1
    have hD2 := hS1.2.2.2
    have hF2 := hF1.tr hS1.1
    have hl2 := hS1.2.1.trans hl1
    refine zj_aload_n (i := 0) (pc := 34) K dX4_readCourt_34 rfl rfl ?_
    refine zj_getR (pc := 35) K lf_X4_18 hs_R rfl dX4_readCourt_35 ?_
    refine zj_aload_n (i := 0) (pc := 38) K dX4_readCourt_38 rfl rfl ?_
    refine zj_iconst (v := 1) (pc := 39) K dX4_readCourt_39 (by decide) ?_
    refine zj_bipush (v := 20) (pc := 40) K dX4_readCourt_40 (by decide) ?_
    refine zj_cV2P (pc := 42) K lm_X4_80 hs_R (m_X4_takeNumber (n := n) (t := t) (k := 0) (by rw [hF2 2 (by decide)]; exact et) (by rw [hF2 1 (by decide)]; exact eL) hn hC2) (by decide) rfl (Nat.le_of_ble_eq_true rfl) dX4_readCourt_42 (fun vb2 kb2 gb2 hb2 => ?_)
    obtain ⟨xb2, rfl, rfl, hN2⟩ := hb2
    refine zj_putI (pc := 45) K lf_X4_87 hs_F rfl dX4_readCourt_45 ?_
    refine zj_hn (fun kc2 ek2 => ?_)
    have hS2 := zu_put (f := 1) (by unfold zu_fk; omega) hD2 hN2
    rw [← ek2] at hS2
    have hC3 := hS2.2.2.1
    have hD3 := hS2.2.2.2
    have hF3 := hF2.tr hS2.1
    have hl3 := hS2.2.1.trans hl2
    refine zj_aload_n (i := 0) (pc := 48) K dX4_readCourt_48 rfl rfl ?_
    refine zj_getR (pc := 49) K lf_X4_18 hs_R rfl dX4_readCourt_49 ?_
    refine zj_aload_n (i := 0) (pc := 52) K dX4_readCourt_52 rfl rfl ?_
    refine zj_iconst (v := 0) (pc := 53) K dX4_readCourt_53 (by decide) ?_
    refine zj_bipush (v := 9) (pc := 54) K dX4_readCourt_54 (by decide) ?_
    refine zj_cV2P (pc := 56) K lm_X4_80 hs_R (m_X4_takeNumber (n := n) (t := t) (k := 1) (by rw [hF3 2 (by decide)]; exact et) (by rw [hF3 1 (by decide)]; exact eL) hn hC3) (by decide) rfl (Nat.le_of_ble_eq_true rfl) dX4_readCourt_56 (fun vb3 kb3 gb3 hb3 => ?_)
    obtain ⟨xb3, rfl, rfl, hN3⟩ := hb3
    refine zj_putI (pc := 59) K lf_X4_90 hs_F rfl dX4_readCourt_59 ?_
    refine zj_hn (fun kc3 ek3 => ?_)
    have hS3 := zu_put (f := 2) (by unfold zu_fk; omega) hD3 hN3
    rw [← ek3] at hS3
    have hC4 := hS3.2.2.1
    have hD4 := hS3.2.2.2
    have hF4 := hF3.tr hS3.1
    have hl4 := hS3.2.1.trans hl3
    refine zj_aload_n (i := 0) (pc := 62) K dX4_readCourt_62 rfl rfl ?_
    refine zj_getR (pc := 63) K lf_X4_18 hs_R rfl dX4_readCourt_63 ?_
    refine zj_aload_n (i := 0) (pc := 66) K dX4_readCourt_66 rfl rfl ?_
    refine zj_iconst (v := 0) (pc := 67) K dX4_readCourt_67 (by decide) ?_
    refine zj_bipush (v := 9) (pc := 68) K dX4_readCourt_68 (by decide) ?_
    refine zj_cV2P (pc := 70) K lm_X4_80 hs_R (m_X4_takeNumber (n := n) (t := t) (k := 2) (by rw [hF4 2 (by decide)]; exact et) (by rw [hF4 1 (by decide)]; exact eL) hn hC4) (by decide) rfl (Nat.le_of_ble_eq_true rfl) dX4_readCourt_70 (fun vb4 kb4 gb4 hb4 => ?_)
    obtain ⟨xb4, rfl, rfl, hN4⟩ := hb4
    refine zj_putI (pc := 73) K lf_X4_93 hs_F rfl dX4_readCourt_73 ?_
    refine zj_hn (fun kc4 ek4 => ?_)
    have hS4 := zu_put (f := 3) (by unfold zu_fk; omega) hD4 hN4
    rw [← ek4] at hS4
    have hC5 := hS4.2.2.1
    have hD5 := hS4.2.2.2
    have hF5 := hF4.tr hS4.1
    have hl5 := hS4.2.1.trans hl4
    refine zj_aload_n (i := 0) (pc := 76) K dX4_readCourt_76 rfl rfl ?_
    refine zj_getR (pc := 77) K lf_X4_18 hs_R rfl dX4_readCourt_77 ?_
    refine zj_aload_n (i := 0) (pc := 80) K dX4_readCourt_80 rfl rfl ?_
    refine zj_iconst (v := 0) (pc := 81) K dX4_readCourt_81 (by decide) ?_
    refine zj_bipush (v := 9) (pc := 82) K dX4_readCourt_82 (by decide) ?_
    refine zj_cV2P (pc := 84) K lm_X4_80 hs_R (m_X4_takeNumber (n := n) (t := t) (k := 3) (by rw [hF5 2 (by decide)]; exact et) (by rw [hF5 1 (by decide)]; exact eL) hn hC5) (by decide) rfl (Nat.le_of_ble_eq_true rfl) dX4_readCourt_84 (fun vb5 kb5 gb5 hb5 => ?_)
    obtain ⟨xb5, rfl, rfl, hN5⟩ := hb5
    refine zj_putI (pc := 87) K lf_X4_96 hs_F rfl dX4_readCourt_87 ?_
    refine zj_hn (fun kc5 ek5 => ?_)
    have hS5 := zu_put (f := 4) (by unfold zu_fk; omega) hD5 hN5
    rw [← ek5] at hS5
    have hC6 := hS5.2.2.1
    have hD6 := hS5.2.2.2
    have hF6 := hF5.tr hS5.1
    have hl6 := hS5.2.1.trans hl5
    exact zj_vret K Rt dX4_readCourt_90 (by
      have hr : zu_court (zw_T t n) (zu_is t) q w = _ := if_pos c_6
      have h5 := zu_set5 (f := fun w => w 4) hC6 hD6
      exact ⟨rfl, rfl, hF6, hl6, by rw [hr]; exact h5.1, by rw [hr]; exact h5.2⟩)
  · replace c_6 := zz_i0.mp c_6
    rw [et] at c_6
    have hr : zu_court (zw_T t n) (zu_is t) q w = .inl (1, q.2.1) := if_neg (by rw [c_6]; decide)
    refine zj_aload_n (i := 0) (pc := 9) K dX4_readCourt_9 rfl rfl ?_
    refine zj_iconst (v := 1) (pc := 10) K dX4_readCourt_10 (by decide) ?_
    refine zj_putI (pc := 11) K lf_X4_25 hs_R rfl dX4_readCourt_11 ?_
    exact zj_vret K Rt dX4_readCourt_14 (⟨rfl, rfl, fun a ha => zj_s_ne _ _ (by omega), rfl, by rw [hr]; exact ⟨rfl, by decide, by decide, q4⟩, by rw [hr]; trivial⟩)

set_option maxHeartbeats 4000000 in
set_option maxRecDepth 20000 in
theorem m_X4_readJudge {l : Launch} {E : zj_E} {h : zj_H} {g : zj_G} {n : Nat} {t : Nat → Int32} (et : h 2 = t) (eL : h 1 1 = nI n) (hn : n ≤ 540) {q : zuK} {w : zuW} (hC : zu_C h t n (.inr (q, w))) (hD : zu_d h w) (hjc : zu_jc w) : zj_M l E yX4_readJudge cX4_readJudge 1 none 3 [.ref (E.2.1 3)] h g (fun v h' g' => v = none ∧ g' = g ∧ zu_S h h' t n (h 3 3) (zu_judge (zw_T t n) q w)) := by
  refine zj_M.of RX4 (by decide) rfl (Nat.le_of_ble_eq_true rfl) ?_
  intro Γ hΓ K Rt
  subst hΓ
  obtain ⟨q2, q4, q5, q6, q7, q8⟩ := hC
  have ht := zu_tk_1 q8
  obtain ⟨J, C, hJ, hCC, eJ, eC, hw6, hwz⟩ := hjc
  obtain ⟨d0, d1, d2, d3, d4, d5, d6, d7, d8, d9, d10, d11⟩ := id hD
  have e46 : h 4 6 = nI J := d7.trans eJ
  show zj_J E Γ 1 0 [(0, .ref (E.2.1 3))] [] h g
  refine zj_aload_n (i := 0) (pc := 0) K dX4_readJudge_0 rfl rfl ?_
  refine zj_getR (pc := 1) K lf_X4_18 hs_R rfl dX4_readJudge_1 ?_
  refine zj_getI (pc := 4) K lf_X4_99 hs_F rfl dX4_readJudge_4 ?_
  refine zj_bipush (v := 9) (pc := 7) K dX4_readJudge_7 (by decide) ?_
  refine zj_icmp_lt (tgt := 18) (pc := 9) K dX4_readJudge_9 (by decide) (fun c_9 => ?_) (fun c_9 => ?_)
  · have hJ9 : J < 9 := (nI_ltI (b := 9) (by omega) (by omega)).mp (by rw [← e46]; exact c_9)
    have hr : zu_judge (zw_T t n) q w = zu_set 7 (fun w => w 7 + 1) (zu_num (zw_T t n) 1 99 (8 + J) (.inr (zw_T t n q.2.2.1, w))) := by
      have h79 : ¬ w 7 = 9 := fun z => by
        rw [eJ] at z
        have := (nI_eq (b := 9) (by omega) (by omega)).mp z
        omega
      unfold zu_judge
      rw [if_neg h79, eJ, nI_clamp (by omega)]; rfl
    refine zj_aload_n (i := 0) (pc := 18) K dX4_readJudge_18 rfl rfl ?_
    refine zj_cV0P (pc := 19) K lm_X4_39 hs_R (m_X4_step (n := n) (a := q.2.2.1) (by first | exact eL | exact eLq) hn q5 ht.2.2) (by decide) rfl (Nat.le_of_ble_eq_true rfl) dX4_readJudge_19 (fun v1 h1 g1 hp1 => ?_)
    obtain ⟨rfl, rfl, p3, p4, p5⟩ := zu_stepP et ht.2.2 hp1
    have hC1 : zu_C h1 t n (.inr (zw_T t n q.2.2.1, w)) := ⟨by rw [p4 2 (by decide)]; exact q2, p5⟩
    have hD1 : zu_d h1 w := zu_d_c (p4 8 (by decide)) (p3 4 (by decide)) (p3 5 (by decide)) (p3 6 (by decide)) (p3 7 (by decide)) hD
    have hF1 : zu_fr h h1 := fun a ha => p3 a (by omega)
    have hl1 : h1 3 3 = h 3 3 := p4 3 (by decide)
    refine zj_aload_n (i := 0) (pc := 22) K dX4_readJudge_22 rfl rfl ?_
    refine zj_getR (pc := 23) K lf_X4_18 hs_R rfl dX4_readJudge_23 ?_
    refine zj_getR (pc := 26) K lf_X4_102 hs_F rfl dX4_readJudge_26 ?_
    refine zj_aload_n (i := 0) (pc := 29) K dX4_readJudge_29 rfl rfl ?_
    refine zj_getR (pc := 30) K lf_X4_18 hs_R rfl dX4_readJudge_30 ?_
    refine zj_getI (pc := 33) K lf_X4_99 hs_F rfl dX4_readJudge_33 ?_
    refine zj_aload_n (i := 0) (pc := 36) K dX4_readJudge_36 rfl rfl ?_
    refine zj_iconst (v := 1) (pc := 37) K dX4_readJudge_37 (by decide) ?_
    refine zj_bipush (v := 99) (pc := 38) K dX4_readJudge_38 (by decide) ?_
    refine zj_cV2P (pc := 40) K lm_X4_80 hs_R (m_X4_takeNumber (n := n) (t := t) (k := 8 + J) (by rw [hF1 2 (by decide)]; exact et) (by rw [hF1 1 (by decide)]; exact eL) hn hC1) (by decide) rfl (Nat.le_of_ble_eq_true rfl) dX4_readJudge_40 (fun vb1 kb1 gb1 hb1 => ?_)
    obtain ⟨xb1, rfl, rfl, hN1⟩ := hb1
    refine zj_ast (j := J) (pc := 43) K hs_Fs (by rw [p3 4 (by decide)]; exact e46) (by omega) (by first | decide | omega) dX4_readJudge_43 ?_
    refine zj_aload_n (i := 0) (pc := 44) K dX4_readJudge_44 rfl rfl ?_
    refine zj_getR (pc := 45) K lf_X4_18 hs_R rfl dX4_readJudge_45 ?_
    refine zj_dup (pc := 48) K dX4_readJudge_48 rfl ?_
    refine zj_getI (pc := 49) K lf_X4_99 hs_F rfl dX4_readJudge_49 ?_
    refine zj_iconst (v := 1) (pc := 52) K dX4_readJudge_52 (by decide) ?_
    refine zj_iadd (pc := 53) K dX4_readJudge_53 ?_
    refine zj_putI (pc := 54) K lf_X4_99 hs_F rfl dX4_readJudge_54 ?_
    exact zj_vret K Rt dX4_readJudge_57 (by
      have h5 := zu_S.tr hF1 (zu_mkJ hJ9 eJ hD1 hN1 rfl)
      rw [hl1] at h5
      exact ⟨rfl, rfl, by rw [hr]; exact h5⟩)
  · have hJ9 : J = 9 := by
      apply Nat.le_antisymm hJ
      exact Nat.le_of_not_lt (fun z => c_9 (by rw [e46]; exact (nI_ltI (b := 9) (by omega) (by omega)).mpr z))
    have hr : zu_judge (zw_T t n) q w = .inl (3, q.2.1) := if_pos (by rw [eJ, hJ9]; rfl)
    refine zj_aload_n (i := 0) (pc := 12) K dX4_readJudge_12 rfl rfl ?_
    refine zj_iconst (v := 3) (pc := 13) K dX4_readJudge_13 (by decide) ?_
    refine zj_putI (pc := 14) K lf_X4_25 hs_R rfl dX4_readJudge_14 ?_
    exact zj_vret K Rt dX4_readJudge_17 (⟨rfl, rfl, fun a ha => zj_s_ne _ _ (by omega), rfl, by rw [hr]; exact ⟨rfl, by decide, by decide, q4⟩, by rw [hr]; trivial⟩)

set_option maxHeartbeats 4000000 in
set_option maxRecDepth 20000 in
theorem m_X4_readSenior {l : Launch} {E : zj_E} {h : zj_H} {g : zj_G} {n : Nat} {t : Nat → Int32} (et : h 2 = t) (eL : h 1 1 = nI n) (hn : n ≤ 540) {q : zuK} {w : zuW} (hC : zu_C h t n (.inr (q, w))) (hD : zu_d h w) (hjc : zu_jc w) : zj_M l E yX4_readSenior cX4_readSenior 1 none 3 [.ref (E.2.1 3)] h g (fun v h' g' => v = none ∧ g' = g ∧ zu_S h h' t n (h 3 3) (zu_senior (zw_T t n) q w)) := by
  refine zj_M.of RX4 (by decide) rfl (Nat.le_of_ble_eq_true rfl) ?_
  intro Γ hΓ K Rt
  subst hΓ
  obtain ⟨q2, q4, q5, q6, q7, q8⟩ := hC
  have ht := zu_tk_1 q8
  obtain ⟨J, C, hJ, hCC, eJ, eC, hw6, hwz⟩ := hjc
  obtain ⟨d0, d1, d2, d3, d4, d5, d6, d7, d8, d9, d10, d11⟩ := id hD
  show zj_J E Γ 1 0 [(0, .ref (E.2.1 3))] [] h g
  refine zj_aload_n (i := 0) (pc := 0) K dX4_readSenior_0 rfl rfl ?_
  refine zj_getI (pc := 1) K lf_X4_35 hs_R rfl dX4_readSenior_1 ?_
  refine zj_if_eq (tgt := 13) (pc := 4) K dX4_readSenior_4 (by decide) (fun c_4 => ?_) (fun c_4 => ?_)
  · rw [d6] at c_4
    have hw : w 6 = 0 := by
      apply Classical.byContradiction
      intro z
      rw [decide_eq_true z] at c_4
      exact absurd c_4 (by decide)
    have hr : zu_senior (zw_T t n) q w = zu_num (zw_T t n) 1 99 6 (.inr (zw_T t n q.2.2.1, w)) := if_neg (by rw [hw]; decide)
    refine zj_aload_n (i := 0) (pc := 13) K dX4_readSenior_13 rfl rfl ?_
    refine zj_iconst (v := 1) (pc := 14) K dX4_readSenior_14 (by decide) ?_
    refine zj_putZ (pc := 15) K lf_X4_35 hs_R rfl (by decide) dX4_readSenior_15 ?_
    refine zj_aload_n (i := 0) (pc := 18) K dX4_readSenior_18 rfl rfl ?_
    refine zj_cV0P (pc := 19) K lm_X4_39 hs_R (m_X4_step (n := n) (a := q.2.2.1) (by first | exact eL | exact eLq) hn q5 ht.2.2) (by decide) rfl (Nat.le_of_ble_eq_true rfl) dX4_readSenior_19 (fun v1 h1 g1 hp1 => ?_)
    obtain ⟨rfl, rfl, p3, p4, p5⟩ := zu_stepP (h := zj_s h 3 (upd (h 3) 8 1)) (t := t) et ht.2.2 hp1
    have hC1 : zu_C h1 t n (.inr (zw_T t n q.2.2.1, w)) := ⟨by rw [p4 2 (by decide)]; exact q2, p5⟩
    have hF1 : zu_fr h h1 := fun a ha => (p3 a (by omega)).trans (zj_s_ne _ _ (by omega))
    refine zj_aload_n (i := 0) (pc := 22) K dX4_readSenior_22 rfl rfl ?_
    refine zj_getR (pc := 23) K lf_X4_18 hs_R rfl dX4_readSenior_23 ?_
    refine zj_aload_n (i := 0) (pc := 26) K dX4_readSenior_26 rfl rfl ?_
    refine zj_iconst (v := 1) (pc := 27) K dX4_readSenior_27 (by decide) ?_
    refine zj_bipush (v := 99) (pc := 28) K dX4_readSenior_28 (by decide) ?_
    refine zj_cV2P (pc := 30) K lm_X4_80 hs_R (m_X4_takeNumber (n := n) (t := t) (k := 6) (by rw [hF1 2 (by decide)]; exact et) (by rw [hF1 1 (by decide)]; exact eL) hn hC1) (by decide) rfl (Nat.le_of_ble_eq_true rfl) dX4_readSenior_30 (fun vb1 kb1 gb1 hb1 => ?_)
    obtain ⟨xb1, rfl, rfl, hN1⟩ := hb1
    refine zj_putI (pc := 33) K lf_X4_106 hs_F rfl dX4_readSenior_33 ?_
    exact zj_vret K Rt dX4_readSenior_36 (by
      have h5 := zu_mkS hD hF1 ((p3 4 (by decide)).trans (zj_s_ne _ _ (by decide))) ((p3 5 (by decide)).trans (zj_s_ne _ _ (by decide))) ((p3 6 (by decide)).trans (zj_s_ne _ _ (by decide))) ((p3 7 (by decide)).trans (zj_s_ne _ _ (by decide))) (p4 8 (by decide)) (p4 3 (by decide)) hN1
      exact ⟨rfl, rfl, by rw [hr]; exact h5⟩)
  · rw [d6] at c_4
    have hw : ¬ w 6 = 0 := fun z => c_4 (by rw [decide_eq_false (fun y => y z)]; rfl)
    have hr : zu_senior (zw_T t n) q w = .inl (3, q.2.1) := if_pos (Int32.lt_of_le_of_ne hw6 (fun z => hw z.symm))
    refine zj_aload_n (i := 0) (pc := 7) K dX4_readSenior_7 rfl rfl ?_
    refine zj_iconst (v := 3) (pc := 8) K dX4_readSenior_8 (by decide) ?_
    refine zj_putI (pc := 9) K lf_X4_25 hs_R rfl dX4_readSenior_9 ?_
    exact zj_vret K Rt dX4_readSenior_12 (⟨rfl, rfl, fun a ha => zj_s_ne _ _ (by omega), rfl, by rw [hr]; exact ⟨rfl, by decide, by decide, q4⟩, by rw [hr]; trivial⟩)
