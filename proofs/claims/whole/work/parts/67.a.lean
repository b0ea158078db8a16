theorem zv_R_b {h h' : zj_H} {g' : zj_G} {t : Nat → Int32} {n : Nat} {v : Option Value} {r : zuR} (hR : zv_R h h' g' t n v r) : ∃ b, v = some (.int (zz_i b)) ∧ (b = false → ∃ k p, r = .inl (k, p) ∧ h' 78 8 = nI k ∧ h' 78 9 = nI p) ∧ (b = true → ∃ q w, r = .inr (q, w) ∧ h' 78 8 = h 78 8 ∧ zv_q h' g' t n q ∧ ∀ i, i < 89 → h' 81 i = w i) := by
  match r, hR with
  | .inl (k, p), hR => exact ⟨false, hR.1, fun _ => ⟨k, p, rfl, hR.2⟩, fun z => by cases z⟩
  | .inr (q, w), hR => exact ⟨true, hR.1, fun z => (by cases z), fun _ => ⟨q, w, rfl, hR.2⟩⟩
/-- a result handed on: what was there before the call is what was there before all -/
theorem zv_R_tr {h h1 h' : zj_H} {g' : zj_G} {t : Nat → Int32} {n : Nat} {v : Option Value} {r : zuR} (e : h1 78 8 = h 78 8) (hR : zv_R h1 h' g' t n v r) : zv_R h h' g' t n v r := by
  match r, hR with
  | .inl (k, p), hR => exact hR
  | .inr (q, w), hR => exact ⟨hR.1, hR.2.1.trans e, hR.2.2⟩
theorem zv_bad {h h1 h' : zj_H} {g : zj_G} {t : Nat → Int32} {n k : Nat} {q : zuK} {x : Int32} (bb1 : ∀ a, a ≠ 78 → h' a = h1 a) (bb2 : h' 78 = upd (upd (h1 78) 8 (if h1 78 6 = 1 then 1 else x)) 9 (h1 78 5)) (fr : zv_fr h h1) (e5 : h1 78 5 = nI q.2.1) (ek : (if h1 78 6 = 1 then 1 else x) = nI k) : zv_fr h h' ∧ zv_R h h' g t n (some (.int (zz_i false))) (.inl (k, q.2.1)) := by
  refine ⟨⟨fun a a1 a2 => (bb1 a a1).trans (fr.1 a a1 a2), fun b b1 => ?_⟩, rfl, ?_, ?_⟩
  · rw [bb2, zz_upd_ne _ _ (by omega), zz_upd_ne _ _ (by omega)]; exact fr.2 b b1
  · rw [bb2, zz_upd_ne _ _ (by decide), zz_upd_at]; exact ek
  · rw [bb2, zz_upd_at]; exact e5
theorem zv_one {x : Int32} : (if x = 1 then (1 : Int32) else 1) = nI 1 := by split <;> rfl
theorem zv_oth {h : zj_H} {g : zj_G} {t : Nat → Int32} {n c : Nat} {q : zuK} {y : Int32} {k : Nat} (hq : zv_q h g t n q) (hc : 2 ≤ c) (hc4 : c ≤ 4) (h2 : q.1 = c) (ey : y = nI k) : (if h 78 6 = 1 then 1 else y) = nI k := by
  rw [if_neg, ey]
  rw [(zv_sort hq hc hc4).mpr h2]
  intro z
  have := (nI_eq (b := 1) (by omega) (by omega)).mp z
  omega
theorem zv_q_c {h h' : zj_H} {g : zj_G} {t : Nat → Int32} {n : Nat} {q : zuK} (e : ∀ b, b = 4 ∨ b = 5 ∨ b = 6 ∨ b = 7 → h' 78 b = h 78 b) (hq : zv_q h g t n q) : zv_q h' g t n q := by
  obtain ⟨a1, a2, a3, a4, a5, a6⟩ := hq
  refine ⟨?_, ?_, ?_, fun z => ?_, a5, a6⟩
  · rw [e 5 (by decide)]; exact a1
  · rw [e 4 (by decide)]; exact a2
  · rw [e 6 (by decide)]; exact a3
  · rw [e 7 (by decide)]; exact a4 z
theorem zv_w_upd {h : zj_H} {w : zuW} {k : Nat} {x y : Int32} (hw : ∀ i, i < 89 → h 81 i = w i) (e : x = y) : ∀ i, i < 89 → upd (h 81) k x i = upd w k y i := fun i hi => by
  by_cases ei : i = k
  · rw [ei, zz_upd_at, zz_upd_at, e]
  · rw [zz_upd_ne _ _ ei, zz_upd_ne _ _ ei]; exact hw i hi
set_option maxHeartbeats 4000000 in
set_option maxRecDepth 20000 in
theorem m_X8_readCourt {l : Launch} {E : zj_E} {h : zj_H} {g : zj_G} {n : Nat} {t : Nat → Int32} (et : h 79 = t) (eL : h 78 3 = nI n) (hn : n ≤ 540) {q : zuK} {w : zuW} (hq : zv_q h g t n q) (hw : ∀ i, i < 89 → h 81 i = w i)  : zj_M l E yX8_readCourt cX8_readCourt 1 (some .boolean) 3 [.ref (E.2.1 78)] h g (zv_P h g t n (zu_set 5 (fun w => w 4) (zu_num (zw_T t n) 0 9 3 (zu_num (zw_T t n) 0 9 2 (zu_num (zw_T t n) 0 9 1 (zu_num (zw_T t n) 1 20 0 (zu_num (zw_T t n) 0 9999 4 (.inr (zw_T t n q.2.2.1, w))))))))) := by
  refine zj_M.of RX8 (by decide) rfl (Nat.le_of_ble_eq_true rfl) ?_
  intro Γ hΓ K Rt
  subst hΓ
  obtain ⟨q5, q4, q6, q7, q2, q8⟩ := id hq
  have ht := zu_tk_1 q8
  show zj_J E Γ 1 0 [(0, .ref (E.2.1 78))] [] h g
  refine zj_aload_n (i := 0) (pc := 0) K dX8_readCourt_0 rfl rfl ?_
  refine zj_cV0P (pc := 1) K lm_X8_95 hs_M (m_X8_go (n := n) (a := q.2.2.1) eL hn q4 ht.2.2) (by decide) rfl (Nat.le_of_ble_eq_true rfl) dX8_readCourt_1 (fun v0 h0 g0 hp0 => ?_)
  obtain ⟨rfl, m0, o0, fr0, fg0, nq0⟩ := zv_goP (h := h) (t := t) et ht.2.2 hp0
  have hA0 := fr0
  have hG0 := fg0
  have e80 : h0 78 8 = h 78 8 := o0 8 (by decide)
  have qn0 := nq0
  have wn0 : ∀ i, i < 89 → h0 81 i = w i := fun i hi => by rw [m0 81 (by decide)]; exact hw i hi
  refine zj_aload_n (i := 0) (pc := 4) K dX8_readCourt_4 rfl rfl ?_
  refine zj_iconst (v := 4) (pc := 5) K dX8_readCourt_5 (by decide) ?_
  refine zj_iconst (v := 0) (pc := 6) K dX8_readCourt_6 (by decide) ?_
  refine zj_sipush (v := 9999) (pc := 7) K dX8_readCourt_7 (by decide) ?_
  refine zj_cV3P (pc := 10) K lm_X8_98 hs_M (m_X8_told (n := n) (t := t) ((hA0.1 79 (by decide) (by decide)).trans et) ((hA0.2 3 (by decide)).trans eL) hn qn0 wn0 (k := 4) rfl (by decide)) (by decide) rfl (Nat.le_of_ble_eq_true rfl) dX8_readCourt_10 (fun v1 h1 g1 hp1 => ?_)
  obtain ⟨fr1, fg1, hR1⟩ := hp1
  obtain ⟨b1, rfl, hf1, ht1⟩ := zv_R_b hR1
  have hA1 := hA0.tr fr1
  have hG1 := hG0.tr fg1
  refine zj_if_ne (tgt := 18) (pc := 13) K dX8_readCourt_13 (by decide) (fun c_13 => ?_) (fun c_13 => ?_)
  · replace c_13 := zz_n0.mp c_13
    obtain ⟨qe1, we1, hz1, e81x, qn1, wn1⟩ := ht1 c_13
    have e81 := e81x.trans e80
    refine zj_aload_n (i := 0) (pc := 18) K dX8_readCourt_18 rfl rfl ?_
    refine zj_iconst (v := 0) (pc := 19) K dX8_readCourt_19 (by decide) ?_
    refine zj_iconst (v := 1) (pc := 20) K dX8_readCourt_20 (by decide) ?_
    refine zj_bipush (v := 20) (pc := 21) K dX8_readCourt_21 (by decide) ?_
    refine zj_cV3P (pc := 23) K lm_X8_98 hs_M (m_X8_told (n := n) (t := t) ((hA1.1 79 (by decide) (by decide)).trans et) ((hA1.2 3 (by decide)).trans eL) hn qn1 wn1 (k := 0) rfl (by decide)) (by decide) rfl (Nat.le_of_ble_eq_true rfl) dX8_readCourt_23 (fun v2 h2 g2 hp2 => ?_)
    obtain ⟨fr2, fg2, hR2⟩ := hp2
    obtain ⟨b2, rfl, hf2, ht2⟩ := zv_R_b hR2
    have hA2 := hA1.tr fr2
    have hG2 := hG1.tr fg2
    refine zj_if_eq (tgt := 62) (pc := 26) K dX8_readCourt_26 (by decide) (fun c_26 => ?_) (fun c_26 => ?_)
    · replace c_26 := zz_i0.mp c_26
      obtain ⟨kf, pf, hz2, y1, y2⟩ := hf2 c_26
      have hr : zu_set 5 (fun w => w 4) (zu_num (zw_T t n) 0 9 3 (zu_num (zw_T t n) 0 9 2 (zu_num (zw_T t n) 0 9 1 (zu_num (zw_T t n) 1 20 0 (zu_num (zw_T t n) 0 9999 4 (.inr (zw_T t n q.2.2.1, w))))))) = .inl (kf, pf) := by rw [hz1, hz2]; rfl
      have hAf := hA2
      have hGf := hG2
      refine zj_iconst (v := 0) (pc := 62) K dX8_readCourt_62 (by decide) ?_
      exact zj_zret K Rt dX8_readCourt_63 (by decide) (⟨hAf, hGf, by rw [hr]; exact ⟨rfl, y1, y2⟩⟩)
    · replace c_26 := zz_n0.mp c_26
      obtain ⟨qe2, we2, hz2, e82x, qn2, wn2⟩ := ht2 c_26
      have e82 := e82x.trans e81
      refine zj_aload_n (i := 0) (pc := 29) K dX8_readCourt_29 rfl rfl ?_
      refine zj_iconst (v := 1) (pc := 30) K dX8_readCourt_30 (by decide) ?_
      refine zj_iconst (v := 0) (pc := 31) K dX8_readCourt_31 (by decide) ?_
      refine zj_bipush (v := 9) (pc := 32) K dX8_readCourt_32 (by decide) ?_
      refine zj_cV3P (pc := 34) K lm_X8_98 hs_M (m_X8_told (n := n) (t := t) ((hA2.1 79 (by decide) (by decide)).trans et) ((hA2.2 3 (by decide)).trans eL) hn qn2 wn2 (k := 1) rfl (by decide)) (by decide) rfl (Nat.le_of_ble_eq_true rfl) dX8_readCourt_34 (fun v3 h3 g3 hp3 => ?_)
      obtain ⟨fr3, fg3, hR3⟩ := hp3
      obtain ⟨b3, rfl, hf3, ht3⟩ := zv_R_b hR3
      have hA3 := hA2.tr fr3
      have hG3 := hG2.tr fg3
      refine zj_if_eq (tgt := 62) (pc := 37) K dX8_readCourt_37 (by decide) (fun c_37 => ?_) (fun c_37 => ?_)
      · replace c_37 := zz_i0.mp c_37
        obtain ⟨kf, pf, hz3, y1, y2⟩ := hf3 c_37
        have hr : zu_set 5 (fun w => w 4) (zu_num (zw_T t n) 0 9 3 (zu_num (zw_T t n) 0 9 2 (zu_num (zw_T t n) 0 9 1 (zu_num (zw_T t n) 1 20 0 (zu_num (zw_T t n) 0 9999 4 (.inr (zw_T t n q.2.2.1, w))))))) = .inl (kf, pf) := by rw [hz1, hz2, hz3]; rfl
        have hAf := hA3
        have hGf := hG3
        refine zj_iconst (v := 0) (pc := 62) K dX8_readCourt_62 (by decide) ?_
        exact zj_zret K Rt dX8_readCourt_63 (by decide) (⟨hAf, hGf, by rw [hr]; exact ⟨rfl, y1, y2⟩⟩)
      · replace c_37 := zz_n0.mp c_37
        obtain ⟨qe3, we3, hz3, e83x, qn3, wn3⟩ := ht3 c_37
        have e83 := e83x.trans e82
        refine zj_aload_n (i := 0) (pc := 40) K dX8_readCourt_40 rfl rfl ?_
        refine zj_iconst (v := 2) (pc := 41) K dX8_readCourt_41 (by decide) ?_
        refine zj_iconst (v := 0) (pc := 42) K dX8_readCourt_42 (by decide) ?_
        refine zj_bipush (v := 9) (pc := 43) K dX8_readCourt_43 (by decide) ?_
        refine zj_cV3P (pc := 45) K lm_X8_98 hs_M (m_X8_told (n := n) (t := t) ((hA3.1 79 (by decide) (by decide)).trans et) ((hA3.2 3 (by decide)).trans eL) hn qn3 wn3 (k := 2) rfl (by decide)) (by decide) rfl (Nat.le_of_ble_eq_true rfl) dX8_readCourt_45 (fun v4 h4 g4 hp4 => ?_)
        obtain ⟨fr4, fg4, hR4⟩ := hp4
        obtain ⟨b4, rfl, hf4, ht4⟩ := zv_R_b hR4
        have hA4 := hA3.tr fr4
        have hG4 := hG3.tr fg4
        refine zj_if_eq (tgt := 62) (pc := 48) K dX8_readCourt_48 (by decide) (fun c_48 => ?_) (fun c_48 => ?_)
        · replace c_48 := zz_i0.mp c_48
          obtain ⟨kf, pf, hz4, y1, y2⟩ := hf4 c_48
          have hr : zu_set 5 (fun w => w 4) (zu_num (zw_T t n) 0 9 3 (zu_num (zw_T t n) 0 9 2 (zu_num (zw_T t n) 0 9 1 (zu_num (zw_T t n) 1 20 0 (zu_num (zw_T t n) 0 9999 4 (.inr (zw_T t n q.2.2.1, w))))))) = .inl (kf, pf) := by rw [hz1, hz2, hz3, hz4]; rfl
          have hAf := hA4
          have hGf := hG4
          refine zj_iconst (v := 0) (pc := 62) K dX8_readCourt_62 (by decide) ?_
          exact zj_zret K Rt dX8_readCourt_63 (by decide) (⟨hAf, hGf, by rw [hr]; exact ⟨rfl, y1, y2⟩⟩)
        · replace c_48 := zz_n0.mp c_48
          obtain ⟨qe4, we4, hz4, e84x, qn4, wn4⟩ := ht4 c_48
          have e84 := e84x.trans e83
          refine zj_aload_n (i := 0) (pc := 51) K dX8_readCourt_51 rfl rfl ?_
          refine zj_iconst (v := 3) (pc := 52) K dX8_readCourt_52 (by decide) ?_
          refine zj_iconst (v := 0) (pc := 53) K dX8_readCourt_53 (by decide) ?_
          refine zj_bipush (v := 9) (pc := 54) K dX8_readCourt_54 (by decide) ?_
          refine zj_cV3P (pc := 56) K lm_X8_98 hs_M (m_X8_told (n := n) (t := t) ((hA4.1 79 (by decide) (by decide)).trans et) ((hA4.2 3 (by decide)).trans eL) hn qn4 wn4 (k := 3) rfl (by decide)) (by decide) rfl (Nat.le_of_ble_eq_true rfl) dX8_readCourt_56 (fun v5 h5 g5 hp5 => ?_)
          obtain ⟨fr5, fg5, hR5⟩ := hp5
          obtain ⟨b5, rfl, hf5, ht5⟩ := zv_R_b hR5
          have hA5 := hA4.tr fr5
          have hG5 := hG4.tr fg5
          refine zj_if_ne (tgt := 64) (pc := 59) K dX8_readCourt_59 (by decide) (fun c_59 => ?_) (fun c_59 => ?_)
          · replace c_59 := zz_n0.mp c_59
            obtain ⟨qe5, we5, hz5, e85x, qn5, wn5⟩ := ht5 c_59
            have e85 := e85x.trans e84
            refine zj_aload_n (i := 0) (pc := 64) K dX8_readCourt_64 rfl rfl ?_
            refine zj_getR (pc := 65) K lf_X8_67 hs_M rfl dX8_readCourt_65 ?_
            refine zj_iconst (v := 5) (pc := 68) K dX8_readCourt_68 (by decide) ?_
            refine zj_aload_n (i := 0) (pc := 69) K dX8_readCourt_69 rfl rfl ?_
            refine zj_getR (pc := 70) K lf_X8_67 hs_M rfl dX8_readCourt_70 ?_
            refine zj_iconst (v := 4) (pc := 73) K dX8_readCourt_73 (by decide) ?_
            refine zj_ald (j := 4) (pc := 74) K hs_Mread rfl (by decide) (by first | decide | omega) dX8_readCourt_74 ?_
            refine zj_ast (j := 5) (pc := 75) K hs_Mread rfl (by decide) (by first | decide | omega) dX8_readCourt_75 ?_
            refine zj_iconst (v := 1) (pc := 76) K dX8_readCourt_76 (by decide) ?_
            exact zj_zret K Rt dX8_readCourt_77 (by decide) (by
              have hr : zu_set 5 (fun w => w 4) (zu_num (zw_T t n) 0 9 3 (zu_num (zw_T t n) 0 9 2 (zu_num (zw_T t n) 0 9 1 (zu_num (zw_T t n) 1 20 0 (zu_num (zw_T t n) 0 9999 4 (.inr (zw_T t n q.2.2.1, w))))))) = .inr (qe5, upd we5 5 (we5 4)) := by rw [hz1, hz2, hz3, hz4, hz5]; rfl
              refine ⟨⟨fun a a1 a2 => (zj_s_ne _ _ a2).trans (hA5.1 a a1 a2), fun b b1 => hA5.2 b b1⟩, hG5, ?_⟩
              rw [hr]
              refine ⟨rfl, e85, zv_q_c (fun b _ => rfl) qn5, fun i hi => ?_⟩
              rw [zj_s_eq]
              exact zv_w_upd wn5 (wn5 4 (by decide)) i hi)
          · replace c_59 := zz_i0.mp c_59
            obtain ⟨kf, pf, hz5, y1, y2⟩ := hf5 c_59
            have hr : zu_set 5 (fun w => w 4) (zu_num (zw_T t n) 0 9 3 (zu_num (zw_T t n) 0 9 2 (zu_num (zw_T t n) 0 9 1 (zu_num (zw_T t n) 1 20 0 (zu_num (zw_T t n) 0 9999 4 (.inr (zw_T t n q.2.2.1, w))))))) = .inl (kf, pf) := by rw [hz1, hz2, hz3, hz4, hz5]; rfl
            have hAf := hA5
            have hGf := hG5
            refine zj_iconst (v := 0) (pc := 62) K dX8_readCourt_62 (by decide) ?_
            exact zj_zret K Rt dX8_readCourt_63 (by decide) (⟨hAf, hGf, by rw [hr]; exact ⟨rfl, y1, y2⟩⟩)
  · replace c_13 := zz_i0.mp c_13
    obtain ⟨kf, pf, hz1, y1, y2⟩ := hf1 c_13
    have hr : zu_set 5 (fun w => w 4) (zu_num (zw_T t n) 0 9 3 (zu_num (zw_T t n) 0 9 2 (zu_num (zw_T t n) 0 9 1 (zu_num (zw_T t n) 1 20 0 (zu_num (zw_T t n) 0 9999 4 (.inr (zw_T t n q.2.2.1, w))))))) = .inl (kf, pf) := by rw [hz1]; rfl
    have hAf := hA1
    have hGf := hG1
    refine zj_iconst (v := 0) (pc := 16) K dX8_readCourt_16 (by decide) ?_
    exact zj_zret K Rt dX8_readCourt_17 (by decide) (⟨hAf, hGf, by rw [hr]; exact ⟨rfl, y1, y2⟩⟩)

set_option maxHeartbeats 4000000 in
set_option maxRecDepth 20000 in
theorem m_X8_readJudge {l : Launch} {E : zj_E} {h : zj_H} {g : zj_G} {n : Nat} {t : Nat → Int32} (et : h 79 = t) (eL : h 78 3 = nI n) (hn : n ≤ 540) {q : zuK} {w : zuW} (hq : zv_q h g t n q) (hw : ∀ i, i < 89 → h 81 i = w i) (hjc : zu_jc w) (hK2 : q.1 = 2) : zj_M l E yX8_readJudge cX8_readJudge 1 (some .boolean) 3 [.ref (E.2.1 78)] h g (zv_P h g t n (zu_judge (zw_T t n) q w)) := by
  refine zj_M.of RX8 (by decide) rfl (Nat.le_of_ble_eq_true rfl) ?_
  intro Γ hΓ K Rt
  subst hΓ
  obtain ⟨q5, q4, q6, q7, q2, q8⟩ := id hq
  have ht := zu_tk_1 q8
  obtain ⟨J, C, hJ, hCC, eJ, eC, hw6, hwz⟩ := hjc
  show zj_J E Γ 1 0 [(0, .ref (E.2.1 78))] [] h g
  refine zj_aload_n (i := 0) (pc := 0) K dX8_readJudge_0 rfl rfl ?_
  refine zj_getR (pc := 1) K lf_X8_67 hs_M rfl dX8_readJudge_1 ?_
  refine zj_bipush (v := 7) (pc := 4) K dX8_readJudge_4 (by decide) ?_
  refine zj_ald (j := 7) (pc := 6) K hs_Mread rfl (by decide) (by first | decide | omega) dX8_readJudge_6 ?_
  refine zj_bipush (v := 9) (pc := 7) K dX8_readJudge_7 (by decide) ?_
  refine zj_icmp_ne (tgt := 18) (pc := 9) K dX8_readJudge_9 (by decide) (fun c_9 => ?_) (fun c_9 => ?_)
  · rw [hw 7 (by decide)] at c_9
    have hJ9 : J < 9 := Nat.lt_of_le_of_ne hJ (fun z => c_9 (by rw [eJ, z]; rfl))
    have hr : zu_judge (zw_T t n) q w = zu_set 7 (fun w => w 7 + 1) (zu_num (zw_T t n) 1 99 (8 + J) (.inr (zw_T t n q.2.2.1, w))) := by
      unfold zu_judge
      rw [if_neg c_9, eJ, nI_clamp (by omega)]; rfl
    refine zj_aload_n (i := 0) (pc := 18) K dX8_readJudge_18 rfl rfl ?_
    refine zj_cV0P (pc := 19) K lm_X8_95 hs_M (m_X8_go (n := n) (a := q.2.2.1) eL hn q4 ht.2.2) (by decide) rfl (Nat.le_of_ble_eq_true rfl) dX8_readJudge_19 (fun v0 h0 g0 hp0 => ?_)
    obtain ⟨rfl, m0, o0, fr0, fg0, nq0⟩ := zv_goP (h := h) (t := t) et ht.2.2 hp0
    have wn0 : ∀ i, i < 89 → h0 81 i = w i := fun i hi => by rw [m0 81 (by decide)]; exact hw i hi
    refine zj_aload_n (i := 0) (pc := 22) K dX8_readJudge_22 rfl rfl ?_
    refine zj_bipush (v := 8) (pc := 23) K dX8_readJudge_23 (by decide) ?_
    refine zj_aload_n (i := 0) (pc := 25) K dX8_readJudge_25 rfl rfl ?_
    refine zj_getR (pc := 26) K lf_X8_67 hs_M rfl dX8_readJudge_26 ?_
    refine zj_bipush (v := 7) (pc := 29) K dX8_readJudge_29 (by decide) ?_
    refine zj_ald (j := 7) (pc := 31) K hs_Mread rfl (by decide) (by first | decide | omega) dX8_readJudge_31 ?_
    refine zj_iadd (pc := 32) K dX8_readJudge_32 ?_
    refine zj_iconst (v := 1) (pc := 33) K dX8_readJudge_33 (by decide) ?_
    refine zj_bipush (v := 99) (pc := 34) K dX8_readJudge_34 (by decide) ?_
    refine zj_cV3P (pc := 36) K lm_X8_98 hs_M (m_X8_told (n := n) (t := t) ((fr0.1 79 (by decide) (by decide)).trans et) ((fr0.2 3 (by decide)).trans eL) hn nq0 wn0 (k := 8 + J) (zm_ix rfl (by rw [wn0 7 (by decide)]; exact eJ)) (by omega)) (by decide) rfl (Nat.le_of_ble_eq_true rfl) dX8_readJudge_36 (fun v1 h1 g1 hp1 => ?_)
    obtain ⟨fr1, fg1, hR1⟩ := hp1
    obtain ⟨b1, rfl, hf1, ht1⟩ := zv_R_b hR1
    refine zj_if_ne (tgt := 44) (pc := 39) K dX8_readJudge_39 (by decide) (fun c_39 => ?_) (fun c_39 => ?_)
    · replace c_39 := zz_n0.mp c_39
      obtain ⟨qe1, we1, hz1, e81, qn1, wn1⟩ := ht1 c_39
      refine zj_aload_n (i := 0) (pc := 44) K dX8_readJudge_44 rfl rfl ?_
      refine zj_getR (pc := 45) K lf_X8_67 hs_M rfl dX8_readJudge_45 ?_
      refine zj_bipush (v := 7) (pc := 48) K dX8_readJudge_48 (by decide) ?_
      refine zj_dup2 (pc := 50) K dX8_readJudge_50 rfl rfl ?_
      refine zj_ald (j := 7) (pc := 51) K hs_Mread rfl (by decide) (by first | decide | omega) dX8_readJudge_51 ?_
      refine zj_iconst (v := 1) (pc := 52) K dX8_readJudge_52 (by decide) ?_
      refine zj_iadd (pc := 53) K dX8_readJudge_53 ?_
      refine zj_ast (j := 7) (pc := 54) K hs_Mread rfl (by decide) (by first | decide | omega) dX8_readJudge_54 ?_
      refine zj_iconst (v := 1) (pc := 55) K dX8_readJudge_55 (by decide) ?_
      exact zj_zret K Rt dX8_readJudge_56 (by decide) (by
        rw [hz1] at hr
        have hr2 : zu_judge (zw_T t n) q w = .inr (qe1, upd we1 7 (we1 7 + 1)) := hr
        refine ⟨⟨fun a a1 a2 => (zj_s_ne _ _ a2).trans ((fr0.tr fr1).1 a a1 a2), fun b b1 => (fr0.tr fr1).2 b b1⟩, fg0.tr fg1, ?_⟩
        rw [hr2]
        refine ⟨rfl, e81.trans (o0 8 (by decide)), zv_q_c (fun b _ => rfl) qn1, fun i hi => ?_⟩
        rw [zj_s_eq]
        exact zv_w_upd wn1 (by rw [wn1 7 (by decide)]) i hi)
    · replace c_39 := zz_i0.mp c_39
      obtain ⟨kf, pf, hz1, y1, y2⟩ := hf1 c_39
      rw [hz1] at hr
      refine zj_iconst (v := 0) (pc := 42) K dX8_readJudge_42 (by decide) ?_
      exact zj_zret K Rt dX8_readJudge_43 (by decide) (⟨fr0.tr fr1, fg0.tr fg1, by rw [hr]; exact ⟨rfl, y1, y2⟩⟩)
  · rw [hw 7 (by decide)] at c_9
    have hr : zu_judge (zw_T t n) q w = .inl (3, q.2.1) := if_pos c_9
    refine zj_aload_n (i := 0) (pc := 12) K dX8_readJudge_12 rfl rfl ?_
    refine zj_iconst (v := 3) (pc := 13) K dX8_readJudge_13 (by decide) ?_
    refine zj_cV1P (pc := 14) K lm_X8_88 hs_M (m_X8_bad) (by decide) rfl (Nat.le_of_ble_eq_true rfl) dX8_readJudge_14 (fun vb hb gb hpb => ?_)
    obtain ⟨rfl, rfl, bb1, bb2⟩ := hpb
    exact zj_zret K Rt dX8_readJudge_17 (zz_01 _) (by
      have hb2 := zv_bad (g := gb) (t := t) (n := n) bb1 bb2 ⟨fun _ _ _ => rfl, fun _ _ => rfl⟩ q5 (zv_oth hq (by decide) (by decide) hK2 (k := 3) rfl)
      exact ⟨hb2.1, fun _ _ _ => rfl, by rw [hr]; exact hb2.2⟩)
