theorem zm_same_of {h h' : zj_H} (f1 : ∀ a, a ≠ 78 → a ≠ 81 → a ≠ 82 → a ≠ 84 → a ≠ 85 → a ≠ 86 → a ≠ 87 → h' a = h a) (f2 : ∀ b, (b = 2 ∨ b = 8 ∨ b = 17) → h' 78 b = h 78 b) : zm_same h h' :=
  ⟨fun a ha => f1 a (by omega) (by omega) (by omega) (by omega) (by omega) (by omega) (by omega), f1 79 (by decide) (by decide) (by decide) (by decide) (by decide) (by decide) (by decide), f1 80 (by decide) (by decide) (by decide) (by decide) (by decide) (by decide) (by decide), f1 83 (by decide) (by decide) (by decide) (by decide) (by decide) (by decide) (by decide), f2 2 (by decide), f2 8 (by decide), f2 17 (by decide)⟩
def zq_jud (τ : zτ) (δ : zδ) (j : Nat) (w : Int32) : Int32 := if w = 0 then τ.2.2.2.2.2.2.1 j else if w = 1 then zz_i (bt δ.2.1 j) else if w = 2 then zs_load τ.2.1 τ.1 δ.2.2.2.1 τ.2.2.2.2.2.2.2.1 τ.2.2.2.2.2.2.1 τ.2.2.2.2.2.1 (-1) j else if w = 3 then nI (zc_cnt (fun c => bt (δ.2.2.2.1 c) j) τ.2.1) else if w = 4 then nI (zc_cnt (fun c => decide (zc_opt (zc_pre τ.2.2.2.2.2.2.1 (δ.2.2.2.1 c) τ.1) = nI j)) τ.2.1) else nI (zc_cnt (fun c => bt (δ.2.2.2.2 c) j) τ.2.1)
def zq_of (τ : zτ) (δ : zδ) (c : Nat) (w : Int32) : Int32 := if w = 0 then τ.2.2.2.2.2.2.2.1 c else if w = 1 then δ.2.2.2.2 c else if w = 2 then δ.2.2.1 c else if w = 3 then δ.2.2.2.1 c else zc_opt (zc_pre τ.2.2.2.2.2.2.1 (δ.2.2.2.1 c) τ.1)
theorem zm_cnt_app {p : Int32 → Bool} {l : List Int32} {x : Int32} : zc_cnt (fun i => p ((l ++ [x]).getD i 0)) (l ++ [x]).length = zc_cnt (fun i => p (l.getD i 0)) l.length + (if p x = true then 1 else 0) := by
  rw [List.length_append, List.length_singleton]
  show zc_cnt _ l.length + (if p ((l ++ [x]).getD l.length 0) = true then 1 else 0) = _
  have e1 : (l ++ [x]).getD l.length 0 = x := by simp
  rw [e1]
  congr 1
  refine zc_cnt_congr (fun i hi => ?_)
  rw [List.getD_eq_getElem?_getD, List.getD_eq_getElem?_getD, List.getElem?_append_left hi]
theorem zm_fl_cnt {B ts : Nat → Int32} {w : Int32} {p : Int32 → Bool} : ∀ n, zc_cnt (fun i => p ((zp_fl B ts w n).getD i 0)) (zp_fl B ts w n).length = zc_cnt (fun i => decide (ts i ≤ w) && p (B i)) n
  | 0 => rfl
  | n + 1 => by
    have ih := zm_fl_cnt (B := B) (ts := ts) (w := w) (p := p) n
    have e0 : zc_cnt (fun i => decide (ts i ≤ w) && p (B i)) (n + 1) = zc_cnt (fun i => decide (ts i ≤ w) && p (B i)) n + (if (decide (ts n ≤ w) && p (B n)) = true then 1 else 0) := rfl
    rw [e0, ← ih, zp_fl]
    by_cases hc : ts n ≤ w
    · rw [if_pos hc, zm_cnt_app, decide_eq_true hc, Bool.true_and]
    · rw [if_neg hc, List.append_nil, decide_eq_false hc, Bool.false_and]; rfl
section ZQM
variable {h : zj_H} {s J C u : Nat} {x y : Int32}
theorem zq_pair_M : zq_pair (zτM h s J C u) (zδM h s) x y = if (zz_in x J && zz_in y J && decide (¬ x = y)) = true then nI (zs_pair C (zmB h s) (-1) x.toNatClampNeg y.toNatClampNeg) else -1 := rfl
theorem zq_law_M : zq_law (zτM h s J C u) (zδM h s) x = if zz_in x C = true then nI (zd_l (zθo (zτM h s J C u) (zδM h s)) x.toNatClampNeg).length else -1 := rfl
theorem zq_ben_M : zq_ben (zτM h s J C u) (zδM h s) x y = if (zz_in x C && zz_in y (zd_l (zθo (zτM h s J C u) (zδM h s)) x.toNatClampNeg).length) = true then (zd_l (zθo (zτM h s J C u) (zδM h s)) x.toNatClampNeg).getD y.toNatClampNeg 0 else -1 := rfl
theorem zq_rank_M : zq_rank (zτM h s J C u) (zδM h s) x y = if zz_in x C = true then zl_find (zd_l (zθo (zτM h s J C u) (zδM h s)) x.toNatClampNeg) y (zd_l (zθo (zτM h s J C u) (zδM h s)) x.toNatClampNeg).length else -1 := rfl
theorem zq_ten_M : zq_ten (zτM h s J C u) (zδM h s) x y = if (zz_in x C && zz_isb J y) = true then zd_t (zθo (zτM h s J C u) (zδM h s)) (zmB h s) x.toNatClampNeg y else -1 := rfl
theorem zq_pool_M : zq_pool (zτM h s J C u) (zδM h s) x = if zz_in x C = true then nI (zd_pool (zθo (zτM h s J C u) (zδM h s)) (zmB h s) x.toNatClampNeg).length else -1 := rfl
theorem zq_wor_M : zq_wor (zτM h s J C u) (zδM h s) x = if zz_in x C = true then zd_W (zθo (zτM h s J C u) (zδM h s)) (zmB h s) x.toNatClampNeg else -1 := rfl
theorem zq_ch_M : zq_ch (zτM h s J C u) (zδM h s) x y = if (zz_in x C && zz_in y J) = true then nI (zc_cnt (fun i => decide (zd_ts (zθo (zτM h s J C u) (zδM h s)) (zmB h s) x.toNatClampNeg i ≤ zd_W (zθo (zτM h s J C u) (zδM h s)) (zmB h s) x.toNatClampNeg) && bt ((zd_l (zθo (zτM h s J C u) (zδM h s)) x.toNatClampNeg).getD i 0) y.toNatClampNeg) (zd_l (zθo (zτM h s J C u) (zδM h s)) x.toNatClampNeg).length) else -1 := rfl
end ZQM
theorem zm_in6 {w : Int32} : (decide (0 ≤ w) && decide (w ≤ 5)) = zz_in w 6 := by
  have := zm_isJ (x := w) (y := 6) (n := 6) rfl (by decide)
  rw [show (6 : Int32) - 1 = 5 from by decide] at this
  exact this
theorem zm_in2 {w : Int32} : (decide (0 ≤ w) && decide (w ≤ 1)) = zz_in w 2 := by
  have := zm_isJ (x := w) (y := 2) (n := 2) rfl (by decide)
  rw [show (2 : Int32) - 1 = 1 from by decide] at this
  exact this
theorem zm_in5 {w : Int32} : (decide (0 ≤ w) && decide (w ≤ 4)) = zz_in w 5 := by
  have := zm_isJ (x := w) (y := 5) (n := 5) rfl (by decide)
  rw [show (5 : Int32) - 1 = 4 from by decide] at this
  exact this
theorem zm_n5 {w : Int32} (h0 : ¬ w = 0) (h1 : ¬ w = 1) (h2 : ¬ w = 2) (h3 : ¬ w = 3) (h4 : ¬ w = 4) : zz_in w 5 = false := by
  cases hz : zz_in w 5 with
  | false => rfl
  | true =>
    obtain ⟨j, hj, e⟩ := zz_in_ex hz (by decide)
    rcases (show j = 0 ∨ j = 1 ∨ j = 2 ∨ j = 3 ∨ j = 4 by omega) with y | y | y | y | y
    · exact absurd (by rw [e, y]; rfl) h0
    · exact absurd (by rw [e, y]; rfl) h1
    · exact absurd (by rw [e, y]; rfl) h2
    · exact absurd (by rw [e, y]; rfl) h3
    · exact absurd (by rw [e, y]; rfl) h4
set_option maxHeartbeats 4000000 in
set_option maxRecDepth 20000 in
theorem m_X8_lawful {l : Launch} {E : zj_E} {h : zj_H} {g : zj_G} {J C u : Nat} (eJ : h 80 7 = nI J) (hJ : J ≤ 9) (eC : h 80 18 = nI C) (hC : C ≤ 14) {x : Int32} : zj_M l E yX8_lawful cX8_lawful 2 (some .int) 3 [.ref (E.2.1 78), .int x] h g (fun v h' g' => v = some (.int (zq_law (zτM h 80 J C u) (zδM h 80) x)) ∧ g' = g ∧ zm_same h h' ∧ h' 78 0 = 0) := by
  refine zj_M.of RX8 (by decide) rfl (Nat.le_of_ble_eq_true rfl) ?_
  intro Γ hΓ K Rt
  subst hΓ
  show zj_J E Γ 2 0 [(0, .ref (E.2.1 78)), (1, .int x)] [] h g
  refine zj_aload_n (i := 0) (pc := 0) K dX8_lawful_0 rfl rfl ?_
  refine zj_iconst (v := 0) (pc := 1) K dX8_lawful_1 (by decide) ?_
  refine zj_putI (pc := 2) K lf_X8_1 hs_M rfl dX8_lawful_2 ?_
  refine zj_hn (fun q0 eq0 => ?_)
  have w0 : ∀ a, a ≠ 78 → q0 a = h a := fun a a1 => by rw [eq0, zj_s_ne _ _ a1]
  have wb : ∀ b, b ≠ 0 → q0 78 b = h 78 b := fun b b1 => by rw [eq0, zj_s_eq, zz_upd_ne _ _ b1]
  have w00 : q0 78 0 = 0 := by rw [eq0, zj_s_eq, zz_upd_at]
  have ws : zm_same h q0 := by rw [eq0]; exact zm_same_0 h 0
  have e80 : q0 80 = h 80 := w0 80 (by decide)
  have eJ0 : q0 80 7 = nI J := by rw [e80]; exact eJ
  have eC0 : q0 80 18 = nI C := by rw [e80]; exact eC
  have eτ : zτM q0 80 J C u = zτM h 80 J C u := zτM_congr e80
  have eδ : zδM q0 80 = zδM h 80 := zδM_congr e80
  clear eq0
  refine zj_aload_n (i := 0) (pc := 5) K dX8_lawful_5 rfl rfl ?_
  refine zj_iload_n (i := 1) (pc := 6) K dX8_lawful_6 rfl rfl ?_
  refine zj_cV1I (pc := 7) K lm_X8_164 hs_M (m_X8_isCase eC0 (by omega)) (by decide) rfl (Nat.le_of_ble_eq_true rfl) dX8_lawful_7 ?_
  refine zj_if_ne (tgt := 15) (pc := 10) K dX8_lawful_10 (by decide) (fun c_10 => ?_) (fun c_10 => ?_)
  · replace c_10 := zz_n0.mp c_10
    obtain ⟨c, hc, ei⟩ := zz_in_ex c_10 (by omega)
    refine zj_aload_n (i := 0) (pc := 15) K dX8_lawful_15 rfl rfl ?_
    refine zj_aload_n (i := 0) (pc := 16) K dX8_lawful_16 rfl rfl ?_
    refine zj_getR (pc := 17) K lf_X8_64 hs_M rfl dX8_lawful_17 ?_
    refine zj_iload_n (i := 1) (pc := 20) K dX8_lawful_20 rfl rfl ?_
    refine zj_cV2P (pc := 21) K lm_X8_174 hs_M (m_X8_laysBenches (J := J) (Or.inl rfl) eJ0 hJ ei (by omega)) (by decide) rfl (Nat.le_of_ble_eq_true rfl) dX8_lawful_21 (fun v q g1 hp => ?_)
    obtain ⟨rfl, rfl, zs1, zs2, zs3⟩ := hp
    have hcl : x.toNatClampNeg = c := by rw [ei]; exact nI_clamp (by omega)
    have zs3 : zl_has q 78 20 86 (zd_l (zθo (zτM q0 80 J C u) (zδM q0 80)) c) := zs3
    rw [eτ, eδ] at zs3
    have hl84 : (zd_l (zθo (zτM h 80 J C u) (zδM h 80)) c).length ≤ 84 := zl_all_len _ hJ
    have wq : zm_same h q := ws.tr (zm_same_of (fun a a1 a2 a3 a4 a5 a6 a7 => zs1 a a1 a6) (fun b hb => zs2 b (by omega)))
    have wq0 : q 78 0 = 0 := by rw [zs2 0 (by decide)]; exact w00
    refine zj_aload_n (i := 0) (pc := 24) K dX8_lawful_24 rfl rfl ?_
    refine zj_getI (pc := 25) K lf_X8_167 hs_M rfl dX8_lawful_25 ?_
    exact zj_iret K Rt dX8_lawful_28 (⟨by rw [zq_law_M, zz_ift c_10, hcl, zs3.1], rfl, wq, wq0⟩)
  · replace c_10 := zz_i0.mp c_10
    refine zj_iconst (v := -1) (pc := 13) K dX8_lawful_13 (by decide) ?_
    exact zj_iret K Rt dX8_lawful_14 (⟨by rw [zq_law_M, zz_iff c_10], rfl, ws, w00⟩)

set_option maxHeartbeats 4000000 in
set_option maxRecDepth 20000 in
theorem m_X8_bench {l : Launch} {E : zj_E} {h : zj_H} {g : zj_G} {J C u : Nat} (eJ : h 80 7 = nI J) (hJ : J ≤ 9) (eC : h 80 18 = nI C) (hC : C ≤ 14) {x y : Int32} : zj_M l E yX8_bench cX8_bench 3 (some .int) 3 [.ref (E.2.1 78), .int x, .int y] h g (fun v h' g' => v = some (.int (zq_ben (zτM h 80 J C u) (zδM h 80) x y)) ∧ g' = g ∧ zm_same h h' ∧ h' 78 0 = 0) := by
  refine zj_M.of RX8 (by decide) rfl (Nat.le_of_ble_eq_true rfl) ?_
  intro Γ hΓ K Rt
  subst hΓ
  show zj_J E Γ 3 0 [(0, .ref (E.2.1 78)), (1, .int x), (2, .int y)] [] h g
  refine zj_aload_n (i := 0) (pc := 0) K dX8_bench_0 rfl rfl ?_
  refine zj_iconst (v := 0) (pc := 1) K dX8_bench_1 (by decide) ?_
  refine zj_putI (pc := 2) K lf_X8_1 hs_M rfl dX8_bench_2 ?_
  refine zj_hn (fun q0 eq0 => ?_)
  have w0 : ∀ a, a ≠ 78 → q0 a = h a := fun a a1 => by rw [eq0, zj_s_ne _ _ a1]
  have wb : ∀ b, b ≠ 0 → q0 78 b = h 78 b := fun b b1 => by rw [eq0, zj_s_eq, zz_upd_ne _ _ b1]
  have w00 : q0 78 0 = 0 := by rw [eq0, zj_s_eq, zz_upd_at]
  have ws : zm_same h q0 := by rw [eq0]; exact zm_same_0 h 0
  have e80 : q0 80 = h 80 := w0 80 (by decide)
  have eJ0 : q0 80 7 = nI J := by rw [e80]; exact eJ
  have eC0 : q0 80 18 = nI C := by rw [e80]; exact eC
  have eτ : zτM q0 80 J C u = zτM h 80 J C u := zτM_congr e80
  have eδ : zδM q0 80 = zδM h 80 := zδM_congr e80
  clear eq0
  refine zj_aload_n (i := 0) (pc := 5) K dX8_bench_5 rfl rfl ?_
  refine zj_iload_n (i := 1) (pc := 6) K dX8_bench_6 rfl rfl ?_
  refine zj_cV1I (pc := 7) K lm_X8_164 hs_M (m_X8_isCase eC0 (by omega)) (by decide) rfl (Nat.le_of_ble_eq_true rfl) dX8_bench_7 ?_
  refine zj_if_ne (tgt := 15) (pc := 10) K dX8_bench_10 (by decide) (fun c_10 => ?_) (fun c_10 => ?_)
  · replace c_10 := zz_n0.mp c_10
    obtain ⟨c, hc, ei⟩ := zz_in_ex c_10 (by omega)
    refine zj_aload_n (i := 0) (pc := 15) K dX8_bench_15 rfl rfl ?_
    refine zj_aload_n (i := 0) (pc := 16) K dX8_bench_16 rfl rfl ?_
    refine zj_getR (pc := 17) K lf_X8_64 hs_M rfl dX8_bench_17 ?_
    refine zj_iload_n (i := 1) (pc := 20) K dX8_bench_20 rfl rfl ?_
    refine zj_cV2P (pc := 21) K lm_X8_174 hs_M (m_X8_laysBenches (J := J) (Or.inl rfl) eJ0 hJ ei (by omega)) (by decide) rfl (Nat.le_of_ble_eq_true rfl) dX8_bench_21 (fun v q g1 hp => ?_)
    obtain ⟨rfl, rfl, zs1, zs2, zs3⟩ := hp
    have hcl : x.toNatClampNeg = c := by rw [ei]; exact nI_clamp (by omega)
    have zs3 : zl_has q 78 20 86 (zd_l (zθo (zτM q0 80 J C u) (zδM q0 80)) c) := zs3
    rw [eτ, eδ] at zs3
    have hl84 : (zd_l (zθo (zτM h 80 J C u) (zδM h 80)) c).length ≤ 84 := zl_all_len _ hJ
    have wq : zm_same h q := ws.tr (zm_same_of (fun a a1 a2 a3 a4 a5 a6 a7 => zs1 a a1 a6) (fun b hb => zs2 b (by omega)))
    have wq0 : q 78 0 = 0 := by rw [zs2 0 (by decide)]; exact w00
    refine zj_iload_n (i := 2) (pc := 24) K dX8_bench_24 rfl rfl ?_
    refine zj_iconst (v := 0) (pc := 25) K dX8_bench_25 (by decide) ?_
    refine zj_aload_n (i := 0) (pc := 26) K dX8_bench_26 rfl rfl ?_
    refine zj_getI (pc := 27) K lf_X8_167 hs_M rfl dX8_bench_27 ?_
    refine zj_iconst (v := 1) (pc := 30) K dX8_bench_30 (by decide) ?_
    refine zj_isub (pc := 31) K dX8_bench_31 ?_
    refine zj_cS3I (pc := 32) K lm_X8_91 (m_X8_isIn) (by decide) rfl (Nat.le_of_ble_eq_true rfl) dX8_bench_32 ?_
    refine zj_if_eq (tgt := 47) (pc := 35) K dX8_bench_35 (by decide) (fun c_35 => ?_) (fun c_35 => ?_)
    · replace c_35 := zz_i0.mp c_35
      rw [zm_isJ zs3.1 (by omega)] at c_35
      have hno : (zz_in x C && zz_in y (zd_l (zθo (zτM h 80 J C u) (zδM h 80)) x.toNatClampNeg).length) = false := by rw [hcl, c_35, Bool.and_false]
      refine zj_iconst (v := -1) (pc := 47) K dX8_bench_47 (by decide) ?_
      exact zj_iret K Rt dX8_bench_48 (⟨by first | rw [zq_ben_M, zz_iff hno] | rw [zq_ben_M, zz_ift hye, hcl, eii, nI_clamp (by omega), ← zs3.2 i hi], rfl, wq, wq0⟩)
    · replace c_35 := zz_n0.mp c_35
      rw [zm_isJ zs3.1 (by omega)] at c_35
      obtain ⟨i, hi, eii⟩ := zz_in_ex c_35 (by omega)
      have hye : (zz_in x C && zz_in y (zd_l (zθo (zτM h 80 J C u) (zδM h 80)) x.toNatClampNeg).length) = true := by rw [c_10, hcl, c_35]; rfl
      refine zj_aload_n (i := 0) (pc := 38) K dX8_bench_38 rfl rfl ?_
      refine zj_getR (pc := 39) K lf_X8_82 hs_M rfl dX8_bench_39 ?_
      refine zj_iload_n (i := 2) (pc := 42) K dX8_bench_42 rfl rfl ?_
      refine zj_ald (j := i) (pc := 43) K hs_Mben eii (by omega) (by first | decide | omega) dX8_bench_43 ?_
      refine zj_goto (tgt := 48) (pc := 44) K dX8_bench_44 (by decide) ?_
      exact zj_iret K Rt dX8_bench_48 (⟨by first | rw [zq_ben_M, zz_iff hno] | rw [zq_ben_M, zz_ift hye, hcl, eii, nI_clamp (by omega), ← zs3.2 i hi], rfl, wq, wq0⟩)
  · replace c_10 := zz_i0.mp c_10
    have hno : (zz_in x C && zz_in y (zd_l (zθo (zτM h 80 J C u) (zδM h 80)) x.toNatClampNeg).length) = false := by rw [c_10]; rfl
    refine zj_iconst (v := -1) (pc := 13) K dX8_bench_13 (by decide) ?_
    exact zj_iret K Rt dX8_bench_14 (⟨by rw [zq_ben_M, zz_iff hno], rfl, ws, w00⟩)

set_option maxHeartbeats 4000000 in
set_option maxRecDepth 20000 in
theorem m_X8_rank {l : Launch} {E : zj_E} {h : zj_H} {g : zj_G} {J C u : Nat} (eJ : h 80 7 = nI J) (hJ : J ≤ 9) (eC : h 80 18 = nI C) (hC : C ≤ 14) {x y : Int32} : zj_M l E yX8_rank cX8_rank 4 (some .int) 3 [.ref (E.2.1 78), .int x, .int y] h g (fun v h' g' => v = some (.int (zq_rank (zτM h 80 J C u) (zδM h 80) x y)) ∧ g' = g ∧ zm_same h h' ∧ h' 78 0 = 0) := by
  refine zj_M.of RX8 (by decide) rfl (Nat.le_of_ble_eq_true rfl) ?_
  intro Γ hΓ K Rt
  subst hΓ
  have loop : ∀ (q : zj_H) (c : Nat), zl_has q 78 20 86 (zd_l (zθo (zτM h 80 J C u) (zδM h 80)) c) → (zd_l (zθo (zτM h 80 J C u) (zδM h 80)) c).length ≤ 84 → zm_same h q → q 78 0 = 0 → zz_in x C = true → x = nI c → c < 14 → ∀ (n i : Nat) (x3 : Int32), (zd_l (zθo (zτM h 80 J C u) (zδM h 80)) c).length + 1 ≤ i + n → i ≤ (zd_l (zθo (zτM h 80 J C u) (zδM h 80)) c).length → x3 = nI i → zl_find (zd_l (zθo (zτM h 80 J C u) (zδM h 80)) c) y (zd_l (zθo (zτM h 80 J C u) (zδM h 80)) c).length = zl_find (zd_l (zθo (zτM h 80 J C u) (zδM h 80)) c) y ((zd_l (zθo (zτM h 80 J C u) (zδM h 80)) c).length - i) → zj_J E Γ 4 26 [(0, .ref (E.2.1 78)), (1, .int x), (2, .int y), (3, .int x3)] [] q g := by
    intro q c zs3 hl84 wq wq0 c_10 ei hc14 n
    have hcl : x.toNatClampNeg = c := by rw [ei]; exact nI_clamp (by omega)
    induction n with
    | zero => intro i x3 h1 h2; omega
    | succ n ih =>
      intro i x3 h1 h2 e3 ef
      refine zj_iload_n (i := 3) (pc := 26) K dX8_rank_26 rfl rfl ?_
      refine zj_aload_n (i := 0) (pc := 27) K dX8_rank_27 rfl rfl ?_
      refine zj_getI (pc := 28) K lf_X8_167 hs_M rfl dX8_rank_28 ?_
      refine zj_icmp_ge (tgt := 52) (pc := 31) K dX8_rank_31 (by decide) (fun c_31 => ?_) (fun c_31 => ?_)
      · have hi : i = (zd_l (zθo (zτM h 80 J C u) (zδM h 80)) c).length := Nat.le_antisymm h2 (zz_ge e3 zs3.1 (by omega) (by omega) c_31)
        refine zj_iconst (v := -1) (pc := 52) K dX8_rank_52 (by decide) ?_
        exact zj_iret K Rt dX8_rank_53 (⟨by rw [zq_rank_M, zz_ift c_10, hcl, ef, hi, Nat.sub_self]; rfl, rfl, wq, wq0⟩)
      · have hi : i < (zd_l (zθo (zτM h 80 J C u) (zδM h 80)) c).length := zz_nge e3 zs3.1 (by omega) (by omega) c_31
        have en : (zd_l (zθo (zτM h 80 J C u) (zδM h 80)) c).length - i = ((zd_l (zθo (zτM h 80 J C u) (zδM h 80)) c).length - (i + 1)) + 1 := by omega
        have en2 : (zd_l (zθo (zτM h 80 J C u) (zδM h 80)) c).length - (((zd_l (zθo (zτM h 80 J C u) (zδM h 80)) c).length - (i + 1)) + 1) = i := by omega
        refine zj_aload_n (i := 0) (pc := 34) K dX8_rank_34 rfl rfl ?_
        refine zj_getR (pc := 35) K lf_X8_82 hs_M rfl dX8_rank_35 ?_
        refine zj_iload_n (i := 3) (pc := 38) K dX8_rank_38 rfl rfl ?_
        refine zj_ald (j := _) (pc := 39) K hs_Mben (by first | assumption | rfl) (by first | assumption | omega) (by first | decide | omega) dX8_rank_39 ?_
        refine zj_iload_n (i := 2) (pc := 40) K dX8_rank_40 rfl rfl ?_
        refine zj_icmp_ne (tgt := 46) (pc := 41) K dX8_rank_41 (by decide) (fun c_41 => ?_) (fun c_41 => ?_)
        · refine zj_iinc (v := 1) (pc := 46) K dX8_rank_46 rfl (by decide) rfl rfl rfl ?_
          refine zj_goto (tgt := 26) (pc := 49) K dX8_rank_49 (by decide) ?_
          exact ih (i + 1) _ (by omega) (by omega) (zz_up e3) (by rw [ef, en, zl_find, en2, if_neg (by rw [← zs3.2 i hi]; exact c_41)])
        · refine zj_iload_n (i := 3) (pc := 44) K dX8_rank_44 rfl rfl ?_
          exact zj_iret K Rt dX8_rank_45 (⟨by rw [zq_rank_M, zz_ift c_10, hcl, ef, en, zl_find, en2, if_pos (by rw [← zs3.2 i hi]; exact c_41), e3], rfl, wq, wq0⟩)
  show zj_J E Γ 4 0 [(0, .ref (E.2.1 78)), (1, .int x), (2, .int y)] [] h g
  refine zj_aload_n (i := 0) (pc := 0) K dX8_rank_0 rfl rfl ?_
  refine zj_iconst (v := 0) (pc := 1) K dX8_rank_1 (by decide) ?_
  refine zj_putI (pc := 2) K lf_X8_1 hs_M rfl dX8_rank_2 ?_
  refine zj_hn (fun q0 eq0 => ?_)
  have w0 : ∀ a, a ≠ 78 → q0 a = h a := fun a a1 => by rw [eq0, zj_s_ne _ _ a1]
  have wb : ∀ b, b ≠ 0 → q0 78 b = h 78 b := fun b b1 => by rw [eq0, zj_s_eq, zz_upd_ne _ _ b1]
  have w00 : q0 78 0 = 0 := by rw [eq0, zj_s_eq, zz_upd_at]
  have ws : zm_same h q0 := by rw [eq0]; exact zm_same_0 h 0
  have e80 : q0 80 = h 80 := w0 80 (by decide)
  have eJ0 : q0 80 7 = nI J := by rw [e80]; exact eJ
  have eC0 : q0 80 18 = nI C := by rw [e80]; exact eC
  have eτ : zτM q0 80 J C u = zτM h 80 J C u := zτM_congr e80
  have eδ : zδM q0 80 = zδM h 80 := zδM_congr e80
  clear eq0
  refine zj_aload_n (i := 0) (pc := 5) K dX8_rank_5 rfl rfl ?_
  refine zj_iload_n (i := 1) (pc := 6) K dX8_rank_6 rfl rfl ?_
  refine zj_cV1I (pc := 7) K lm_X8_164 hs_M (m_X8_isCase eC0 (by omega)) (by decide) rfl (Nat.le_of_ble_eq_true rfl) dX8_rank_7 ?_
  refine zj_if_ne (tgt := 15) (pc := 10) K dX8_rank_10 (by decide) (fun c_10 => ?_) (fun c_10 => ?_)
  · replace c_10 := zz_n0.mp c_10
    obtain ⟨c, hc, ei⟩ := zz_in_ex c_10 (by omega)
    refine zj_aload_n (i := 0) (pc := 15) K dX8_rank_15 rfl rfl ?_
    refine zj_aload_n (i := 0) (pc := 16) K dX8_rank_16 rfl rfl ?_
    refine zj_getR (pc := 17) K lf_X8_64 hs_M rfl dX8_rank_17 ?_
    refine zj_iload_n (i := 1) (pc := 20) K dX8_rank_20 rfl rfl ?_
    refine zj_cV2P (pc := 21) K lm_X8_174 hs_M (m_X8_laysBenches (J := J) (Or.inl rfl) eJ0 hJ ei (by omega)) (by decide) rfl (Nat.le_of_ble_eq_true rfl) dX8_rank_21 (fun v q g1 hp => ?_)
    obtain ⟨rfl, rfl, zs1, zs2, zs3⟩ := hp
    have hcl : x.toNatClampNeg = c := by rw [ei]; exact nI_clamp (by omega)
    have zs3 : zl_has q 78 20 86 (zd_l (zθo (zτM q0 80 J C u) (zδM q0 80)) c) := zs3
    rw [eτ, eδ] at zs3
    have hl84 : (zd_l (zθo (zτM h 80 J C u) (zδM h 80)) c).length ≤ 84 := zl_all_len _ hJ
    have wq : zm_same h q := ws.tr (zm_same_of (fun a a1 a2 a3 a4 a5 a6 a7 => zs1 a a1 a6) (fun b hb => zs2 b (by omega)))
    have wq0 : q 78 0 = 0 := by rw [zs2 0 (by decide)]; exact w00
    refine zj_iconst (v := 0) (pc := 24) K dX8_rank_24 (by decide) ?_
    refine zj_istore_n (i := 3) (pc := 25) K dX8_rank_25 rfl rfl rfl rfl ?_
    exact loop q c zs3 hl84 wq wq0 c_10 ei (by omega) ((zd_l (zθo (zτM h 80 J C u) (zδM h 80)) c).length + 1) 0 _ (by omega) (by omega) rfl rfl
  · replace c_10 := zz_i0.mp c_10
    refine zj_iconst (v := -1) (pc := 13) K dX8_rank_13 (by decide) ?_
    exact zj_iret K Rt dX8_rank_14 (⟨by rw [zq_rank_M, zz_iff c_10], rfl, ws, w00⟩)

set_option maxHeartbeats 4000000 in
set_option maxRecDepth 20000 in
theorem m_X8_tension {l : Launch} {E : zj_E} {h : zj_H} {g : zj_G} {J C u : Nat} (eJ : h 80 7 = nI J) (hJ : J ≤ 9) (eC : h 80 18 = nI C) (hC : C ≤ 14) {x y : Int32} : zj_M l E yX8_tension cX8_tension 3 (some .int) 4 [.ref (E.2.1 78), .int x, .int y] h g (fun v h' g' => v = some (.int (zq_ten (zτM h 80 J C u) (zδM h 80) x y)) ∧ g' = g ∧ zm_same h h' ∧ h' 78 0 = 0) := by
  refine zj_M.of RX8 (by decide) rfl (Nat.le_of_ble_eq_true rfl) ?_
  intro Γ hΓ K Rt
  subst hΓ
  show zj_J E Γ 3 0 [(0, .ref (E.2.1 78)), (1, .int x), (2, .int y)] [] h g
  refine zj_aload_n (i := 0) (pc := 0) K dX8_tension_0 rfl rfl ?_
  refine zj_iconst (v := 0) (pc := 1) K dX8_tension_1 (by decide) ?_
  refine zj_putI (pc := 2) K lf_X8_1 hs_M rfl dX8_tension_2 ?_
  refine zj_hn (fun q0 eq0 => ?_)
  have w0 : ∀ a, a ≠ 78 → q0 a = h a := fun a a1 => by rw [eq0, zj_s_ne _ _ a1]
  have wb : ∀ b, b ≠ 0 → q0 78 b = h 78 b := fun b b1 => by rw [eq0, zj_s_eq, zz_upd_ne _ _ b1]
  have w00 : q0 78 0 = 0 := by rw [eq0, zj_s_eq, zz_upd_at]
  have ws : zm_same h q0 := by rw [eq0]; exact zm_same_0 h 0
  have e80 : q0 80 = h 80 := w0 80 (by decide)
  have eJ0 : q0 80 7 = nI J := by rw [e80]; exact eJ
  have eC0 : q0 80 18 = nI C := by rw [e80]; exact eC
  have eτ : zτM q0 80 J C u = zτM h 80 J C u := zτM_congr e80
  have eδ : zδM q0 80 = zδM h 80 := zδM_congr e80
  clear eq0
  refine zj_aload_n (i := 0) (pc := 5) K dX8_tension_5 rfl rfl ?_
  refine zj_iload_n (i := 1) (pc := 6) K dX8_tension_6 rfl rfl ?_
  refine zj_cV1I (pc := 7) K lm_X8_164 hs_M (m_X8_isCase eC0 (by omega)) (by decide) rfl (Nat.le_of_ble_eq_true rfl) dX8_tension_7 ?_
  refine zj_if_eq (tgt := 35) (pc := 10) K dX8_tension_10 (by decide) (fun c_10 => ?_) (fun c_10 => ?_)
  · replace c_10 := zz_i0.mp c_10
    have hno : (zz_in x C && zz_isb J y) = false := by rw [c_10]; rfl
    refine zj_iconst (v := -1) (pc := 35) K dX8_tension_35 (by decide) ?_
    exact zj_iret K Rt dX8_tension_36 (⟨by rw [zq_ten_M, zz_iff hno], rfl, ws, w00⟩)
  · replace c_10 := zz_n0.mp c_10
    obtain ⟨c, hc, ei⟩ := zz_in_ex c_10 (by omega)
    have hcl : x.toNatClampNeg = c := by rw [ei]; exact nI_clamp (by omega)
    have h512 := zz_pow_le J (by omega)
    refine zj_iload_n (i := 2) (pc := 13) K dX8_tension_13 rfl rfl ?_
    refine zj_if_lt (tgt := 35) (pc := 14) K dX8_tension_14 (by decide) (fun c_14 => ?_) (fun c_14 => ?_)
    · have hno : (zz_in x C && zz_isb J y) = false := by rw [zz_isb, zz_in_f1 c_14]; simp
      refine zj_iconst (v := -1) (pc := 35) K dX8_tension_35 (by decide) ?_
      exact zj_iret K Rt dX8_tension_36 (⟨by rw [zq_ten_M, zz_iff hno], rfl, ws, w00⟩)
    · refine zj_iload_n (i := 2) (pc := 17) K dX8_tension_17 rfl rfl ?_
      refine zj_iconst (v := 1) (pc := 18) K dX8_tension_18 (by decide) ?_
      refine zj_aload_n (i := 0) (pc := 19) K dX8_tension_19 rfl rfl ?_
      refine zj_cV0I (pc := 20) K lm_X8_132 hs_M (m_X8_judges) (by decide) rfl (Nat.le_of_ble_eq_true rfl) dX8_tension_20 ?_
      refine zj_ishl (pc := 23) K dX8_tension_23 ?_
      refine zj_icmp_ge (tgt := 35) (pc := 24) K dX8_tension_24 (by decide) (fun c_24 => ?_) (fun c_24 => ?_)
      · rw [eJ0, zz_bit_pow J (by omega)] at c_24
        have hno : (zz_in x C && zz_isb J y) = false := by rw [zz_isb, zz_in_f2 rfl (by omega) c_14 c_24]; simp
        refine zj_iconst (v := -1) (pc := 35) K dX8_tension_35 (by decide) ?_
        exact zj_iret K Rt dX8_tension_36 (⟨by rw [zq_ten_M, zz_iff hno], rfl, ws, w00⟩)
      · rw [eJ0, zz_bit_pow J (by omega)] at c_24
        have hin2 := zz_in_t rfl (by omega) c_14 c_24
        obtain ⟨mm, hmm, emm⟩ := zz_in_ex hin2 (by omega)
        refine zj_iload_n (i := 2) (pc := 27) K dX8_tension_27 rfl rfl ?_
        refine zj_cS1I (pc := 28) K lm_X8_187 (m_X8_bits emm (by omega)) (by decide) rfl (Nat.le_of_ble_eq_true rfl) dX8_tension_28 ?_
        refine zj_iconst (v := 3) (pc := 31) K dX8_tension_31 (by decide) ?_
        refine zj_icmp_eq (tgt := 37) (pc := 32) K dX8_tension_32 (by decide) (fun c_32 => ?_) (fun c_32 => ?_)
        · have hpo : zz_pop y = 3 := (nI_eq (b := 3) (by have z1 := zz_pop_le y; omega) (by omega)).mp c_32
          have hye : (zz_in x C && zz_isb J y) = true := by rw [c_10, zz_isb, hin2, decide_eq_true hpo]; rfl
          refine zj_aload_n (i := 0) (pc := 37) K dX8_tension_37 rfl rfl ?_
          refine zj_getR (pc := 38) K lf_X8_64 hs_M rfl dX8_tension_38 ?_
          refine zj_iload_n (i := 1) (pc := 41) K dX8_tension_41 rfl rfl ?_
          refine zj_iload_n (i := 2) (pc := 42) K dX8_tension_42 rfl rfl ?_
          refine zj_cS3I (pc := 43) K lm_X8_184 (m_X8_tensionOf hs_Mnow eJ0 hJ eC0 hC) (by decide) rfl (Nat.le_of_ble_eq_true rfl) dX8_tension_43 ?_
          exact zj_iret K Rt dX8_tension_46 (⟨by rw [zq_ten_M, zz_ift hye, hcl, show zmS q0 80 = zmS h 80 by unfold zmS; rw [e80], show zmW q0 80 = zmW h 80 by unfold zmW; rw [e80], show zmB q0 80 = zmB h 80 by unfold zmB; rw [e80], e80, ei]; rfl, rfl, ws, w00⟩)
        · have hno : (zz_in x C && zz_isb J y) = false := by rw [zz_isb, decide_eq_false (fun z => c_32 (by rw [z]; rfl))]; simp
          refine zj_iconst (v := -1) (pc := 35) K dX8_tension_35 (by decide) ?_
          exact zj_iret K Rt dX8_tension_36 (⟨by rw [zq_ten_M, zz_iff hno], rfl, ws, w00⟩)

set_option maxHeartbeats 4000000 in
set_option maxRecDepth 20000 in
theorem m_X8_pool {l : Launch} {E : zj_E} {h : zj_H} {g : zj_G} {J C u : Nat} (eJ : h 80 7 = nI J) (hJ : J ≤ 9) (eC : h 80 18 = nI C) (hC : C ≤ 14) (eU : h 80 0 = nI u) (hU : u ≤ 20) (hT : ∀ δ si c b, 0 ≤ zd_t (zθo (zτM h 80 J C u) δ) si c b) {x : Int32} : zj_M l E yX8_pool cX8_pool 2 (some .int) 5 [.ref (E.2.1 78), .int x] h g (fun v h' g' => v = some (.int (zq_pool (zτM h 80 J C u) (zδM h 80) x)) ∧ g' = g ∧ zm_same h h' ∧ h' 78 0 = 0) := by
  refine zj_M.of RX8 (by decide) rfl (Nat.le_of_ble_eq_true rfl) ?_
  intro Γ hΓ K Rt
  subst hΓ
  show zj_J E Γ 2 0 [(0, .ref (E.2.1 78)), (1, .int x)] [] h g
  refine zj_aload_n (i := 0) (pc := 0) K dX8_pool_0 rfl rfl ?_
  refine zj_iconst (v := 0) (pc := 1) K dX8_pool_1 (by decide) ?_
  refine zj_putI (pc := 2) K lf_X8_1 hs_M rfl dX8_pool_2 ?_
  refine zj_hn (fun q0 eq0 => ?_)
  have w0 : ∀ a, a ≠ 78 → q0 a = h a := fun a a1 => by rw [eq0, zj_s_ne _ _ a1]
  have wb : ∀ b, b ≠ 0 → q0 78 b = h 78 b := fun b b1 => by rw [eq0, zj_s_eq, zz_upd_ne _ _ b1]
  have w00 : q0 78 0 = 0 := by rw [eq0, zj_s_eq, zz_upd_at]
  have ws : zm_same h q0 := by rw [eq0]; exact zm_same_0 h 0
  have e80 : q0 80 = h 80 := w0 80 (by decide)
  have eJ0 : q0 80 7 = nI J := by rw [e80]; exact eJ
  have eC0 : q0 80 18 = nI C := by rw [e80]; exact eC
  have eτ : zτM q0 80 J C u = zτM h 80 J C u := zτM_congr e80
  have eδ : zδM q0 80 = zδM h 80 := zδM_congr e80
  clear eq0
  have eU0 : q0 80 0 = nI u := by rw [e80]; exact eU
  have hT0 : ∀ δ si c b, 0 ≤ zd_t (zθo (zτM q0 80 J C u) δ) si c b := by rw [eτ]; exact hT
  refine zj_aload_n (i := 0) (pc := 5) K dX8_pool_5 rfl rfl ?_
  refine zj_iload_n (i := 1) (pc := 6) K dX8_pool_6 rfl rfl ?_
  refine zj_cV1I (pc := 7) K lm_X8_164 hs_M (m_X8_isCase eC0 (by omega)) (by decide) rfl (Nat.le_of_ble_eq_true rfl) dX8_pool_7 ?_
  refine zj_if_ne (tgt := 15) (pc := 10) K dX8_pool_10 (by decide) (fun c_10 => ?_) (fun c_10 => ?_)
  · replace c_10 := zz_n0.mp c_10
    obtain ⟨c, hc, ei⟩ := zz_in_ex c_10 (by omega)
    refine zj_aload_n (i := 0) (pc := 15) K dX8_pool_15 rfl rfl ?_
    refine zj_aload_n (i := 0) (pc := 16) K dX8_pool_16 rfl rfl ?_
    refine zj_getR (pc := 17) K lf_X8_64 hs_M rfl dX8_pool_17 ?_
    refine zj_iload_n (i := 1) (pc := 20) K dX8_pool_20 rfl rfl ?_
    refine zj_cV2P (pc := 21) K lm_X8_190 hs_M (m_X8_laysPool (J := J) (C := C) (u := u) (Or.inl rfl) eJ0 hJ eC0 hC eU0 hU hT0 ei (by omega)) (by decide) rfl (Nat.le_of_ble_eq_true rfl) dX8_pool_21 (fun v q g1 hp => ?_)
    obtain ⟨rfl, rfl, zs1, zs2, zs3, zs4, zs5⟩ := hp
    have hcl : x.toNatClampNeg = c := by rw [ei]; exact nI_clamp (by omega)
    have eB : zmB q0 80 = zmB h 80 := by unfold zmB; rw [e80]
    rw [eτ, eδ, eB] at zs4 zs5
    have wq : zm_same h q := ws.tr (zm_same_of (fun a a1 a2 a3 a4 a5 a6 a7 => zs1 a a1 a6 a7) (fun b hb => zs2 b (by omega) (by omega) (by omega)))
    have wq0 : q 78 0 = 0 := by rw [zs2 0 (by decide) (by decide) (by decide)]; exact w00
    refine zj_aload_n (i := 0) (pc := 24) K dX8_pool_24 rfl rfl ?_
    refine zj_getI (pc := 25) K lf_X8_178 hs_M rfl dX8_pool_25 ?_
    exact zj_iret K Rt dX8_pool_28 (⟨by rw [zq_pool_M, zz_ift c_10, hcl, zs4.1], rfl, wq, wq0⟩)
  · replace c_10 := zz_i0.mp c_10
    refine zj_iconst (v := -1) (pc := 13) K dX8_pool_13 (by decide) ?_
    exact zj_iret K Rt dX8_pool_14 (⟨by rw [zq_pool_M, zz_iff c_10], rfl, ws, w00⟩)

set_option maxHeartbeats 4000000 in
set_option maxRecDepth 20000 in
theorem m_X8_worst {l : Launch} {E : zj_E} {h : zj_H} {g : zj_G} {J C u : Nat} (eJ : h 80 7 = nI J) (hJ : J ≤ 9) (eC : h 80 18 = nI C) (hC : C ≤ 14) (eU : h 80 0 = nI u) (hU : u ≤ 20) (hT : ∀ δ si c b, 0 ≤ zd_t (zθo (zτM h 80 J C u) δ) si c b) {x : Int32} : zj_M l E yX8_worst cX8_worst 2 (some .int) 5 [.ref (E.2.1 78), .int x] h g (fun v h' g' => v = some (.int (zq_wor (zτM h 80 J C u) (zδM h 80) x)) ∧ g' = g ∧ zm_same h h' ∧ h' 78 0 = 0) := by
  refine zj_M.of RX8 (by decide) rfl (Nat.le_of_ble_eq_true rfl) ?_
  intro Γ hΓ K Rt
  subst hΓ
  show zj_J E Γ 2 0 [(0, .ref (E.2.1 78)), (1, .int x)] [] h g
  refine zj_aload_n (i := 0) (pc := 0) K dX8_worst_0 rfl rfl ?_
  refine zj_iconst (v := 0) (pc := 1) K dX8_worst_1 (by decide) ?_
  refine zj_putI (pc := 2) K lf_X8_1 hs_M rfl dX8_worst_2 ?_
  refine zj_hn (fun q0 eq0 => ?_)
  have w0 : ∀ a, a ≠ 78 → q0 a = h a := fun a a1 => by rw [eq0, zj_s_ne _ _ a1]
  have wb : ∀ b, b ≠ 0 → q0 78 b = h 78 b := fun b b1 => by rw [eq0, zj_s_eq, zz_upd_ne _ _ b1]
  have w00 : q0 78 0 = 0 := by rw [eq0, zj_s_eq, zz_upd_at]
  have ws : zm_same h q0 := by rw [eq0]; exact zm_same_0 h 0
  have e80 : q0 80 = h 80 := w0 80 (by decide)
  have eJ0 : q0 80 7 = nI J := by rw [e80]; exact eJ
  have eC0 : q0 80 18 = nI C := by rw [e80]; exact eC
  have eτ : zτM q0 80 J C u = zτM h 80 J C u := zτM_congr e80
  have eδ : zδM q0 80 = zδM h 80 := zδM_congr e80
  clear eq0
  have eU0 : q0 80 0 = nI u := by rw [e80]; exact eU
  have hT0 : ∀ δ si c b, 0 ≤ zd_t (zθo (zτM q0 80 J C u) δ) si c b := by rw [eτ]; exact hT
  refine zj_aload_n (i := 0) (pc := 5) K dX8_worst_5 rfl rfl ?_
  refine zj_iload_n (i := 1) (pc := 6) K dX8_worst_6 rfl rfl ?_
  refine zj_cV1I (pc := 7) K lm_X8_164 hs_M (m_X8_isCase eC0 (by omega)) (by decide) rfl (Nat.le_of_ble_eq_true rfl) dX8_worst_7 ?_
  refine zj_if_ne (tgt := 15) (pc := 10) K dX8_worst_10 (by decide) (fun c_10 => ?_) (fun c_10 => ?_)
  · replace c_10 := zz_n0.mp c_10
    obtain ⟨c, hc, ei⟩ := zz_in_ex c_10 (by omega)
    refine zj_aload_n (i := 0) (pc := 15) K dX8_worst_15 rfl rfl ?_
    refine zj_aload_n (i := 0) (pc := 16) K dX8_worst_16 rfl rfl ?_
    refine zj_getR (pc := 17) K lf_X8_64 hs_M rfl dX8_worst_17 ?_
    refine zj_iload_n (i := 1) (pc := 20) K dX8_worst_20 rfl rfl ?_
    refine zj_cV2P (pc := 21) K lm_X8_190 hs_M (m_X8_laysPool (J := J) (C := C) (u := u) (Or.inl rfl) eJ0 hJ eC0 hC eU0 hU hT0 ei (by omega)) (by decide) rfl (Nat.le_of_ble_eq_true rfl) dX8_worst_21 (fun v q g1 hp => ?_)
    obtain ⟨rfl, rfl, zs1, zs2, zs3, zs4, zs5⟩ := hp
    have hcl : x.toNatClampNeg = c := by rw [ei]; exact nI_clamp (by omega)
    have eB : zmB q0 80 = zmB h 80 := by unfold zmB; rw [e80]
    rw [eτ, eδ, eB] at zs4 zs5
    have wq : zm_same h q := ws.tr (zm_same_of (fun a a1 a2 a3 a4 a5 a6 a7 => zs1 a a1 a6 a7) (fun b hb => zs2 b (by omega) (by omega) (by omega)))
    have wq0 : q 78 0 = 0 := by rw [zs2 0 (by decide) (by decide) (by decide)]; exact w00
    refine zj_aload_n (i := 0) (pc := 24) K dX8_worst_24 rfl rfl ?_
    refine zj_getI (pc := 25) K lf_X8_181 hs_M rfl dX8_worst_25 ?_
    exact zj_iret K Rt dX8_worst_28 (⟨by rw [zq_wor_M, zz_ift c_10, hcl, zs5], rfl, wq, wq0⟩)
  · replace c_10 := zz_i0.mp c_10
    refine zj_iconst (v := -1) (pc := 13) K dX8_worst_13 (by decide) ?_
    exact zj_iret K Rt dX8_worst_14 (⟨by rw [zq_wor_M, zz_iff c_10], rfl, ws, w00⟩)

set_option maxHeartbeats 4000000 in
set_option maxRecDepth 20000 in
theorem m_X8_chances {l : Launch} {E : zj_E} {h : zj_H} {g : zj_G} {J C u : Nat} (eJ : h 80 7 = nI J) (hJ : J ≤ 9) (eC : h 80 18 = nI C) (hC : C ≤ 14) (eU : h 80 0 = nI u) (hU : u ≤ 20) (hT : ∀ δ si c b, 0 ≤ zd_t (zθo (zτM h 80 J C u) δ) si c b) {x y : Int32} : zj_M l E yX8_chances cX8_chances 5 (some .int) 5 [.ref (E.2.1 78), .int x, .int y] h g (fun v h' g' => v = some (.int (zq_ch (zτM h 80 J C u) (zδM h 80) x y)) ∧ g' = g ∧ zm_same h h' ∧ h' 78 0 = 0) := by
  refine zj_M.of RX8 (by decide) rfl (Nat.le_of_ble_eq_true rfl) ?_
  intro Γ hΓ K Rt
  subst hΓ
  have loop : ∀ (q : zj_H) (c j : Nat), zl_has q 78 21 87 (zd_pool (zθo (zτM h 80 J C u) (zδM h 80)) (zmB h 80) c) → (zd_pool (zθo (zτM h 80 J C u) (zδM h 80)) (zmB h 80) c).length ≤ 84 → zm_same h q → q 78 0 = 0 → (zz_in x C && zz_in y J) = true → x = nI c → c < 14 → y = nI j → j < 9 → ∀ (n i : Nat) (x3 x4 : Int32), (zd_pool (zθo (zτM h 80 J C u) (zδM h 80)) (zmB h 80) c).length + 1 ≤ i + n → i ≤ (zd_pool (zθo (zτM h 80 J C u) (zδM h 80)) (zmB h 80) c).length → x3 = nI (zc_cnt (fun i => bt ((zd_pool (zθo (zτM h 80 J C u) (zδM h 80)) (zmB h 80) c).getD i 0) j) i) → x4 = nI i → zj_J E Γ 5 37 [(0, .ref (E.2.1 78)), (1, .int x), (2, .int y), (3, .int x3), (4, .int x4)] [] q g := by
    intro q c j zs4 hp84 wq wq0 hye ei hc14 ej hj9 n
    induction n with
    | zero => intro i x3 x4 h1 h2; omega
    | succ n ih =>
      intro i x3 x4 h1 h2 e3 e4
      refine zj_iload (pc := 37) K dX8_chances_37 rfl ?_
      refine zj_aload_n (i := 0) (pc := 39) K dX8_chances_39 rfl rfl ?_
      refine zj_getI (pc := 40) K lf_X8_178 hs_M rfl dX8_chances_40 ?_
      refine zj_icmp_ge (tgt := 69) (pc := 43) K dX8_chances_43 (by decide) (fun c_43 => ?_) (fun c_43 => ?_)
      · have hi : i = (zd_pool (zθo (zτM h 80 J C u) (zδM h 80)) (zmB h 80) c).length := Nat.le_antisymm h2 (zz_ge e4 zs4.1 (by omega) (by omega) c_43)
        refine zj_iload_n (i := 3) (pc := 69) K dX8_chances_69 rfl rfl ?_
        exact zj_iret K Rt dX8_chances_70 (by
          refine ⟨?_, rfl, wq, wq0⟩
          rw [zq_ch_M, zz_ift hye, show x.toNatClampNeg = c from by rw [ei]; exact nI_clamp (by omega), show y.toNatClampNeg = j from by rw [ej]; exact nI_clamp (by omega), e3, hi]
          exact congrArg (fun z => some (Value.int (nI z))) (zm_fl_cnt (p := fun b => bt b j) _))
      · have hi : i < (zd_pool (zθo (zτM h 80 J C u) (zδM h 80)) (zmB h 80) c).length := zz_nge e4 zs4.1 (by omega) (by omega) c_43
        refine zj_aload_n (i := 0) (pc := 46) K dX8_chances_46 rfl rfl ?_
        refine zj_getR (pc := 47) K lf_X8_85 hs_M rfl dX8_chances_47 ?_
        refine zj_iload (pc := 50) K dX8_chances_50 rfl ?_
        refine zj_ald (j := i) (pc := 52) K hs_Mpool e4 (by omega) (by first | decide | omega) dX8_chances_52 ?_
        refine zj_iload_n (i := 2) (pc := 53) K dX8_chances_53 rfl rfl ?_
        refine zj_cS2I (pc := 54) K lm_X8_105 (m_X8_has ej (by omega)) (by decide) rfl (Nat.le_of_ble_eq_true rfl) dX8_chances_54 ?_
        refine zj_if_eq (tgt := 63) (pc := 57) K dX8_chances_57 (by decide) (fun c_57 => ?_) (fun c_57 => ?_)
        · replace c_57 := zz_i0.mp c_57
          rw [zs4.2 i hi] at c_57
          refine zj_iinc (v := 1) (pc := 63) K dX8_chances_63 rfl (by decide) rfl rfl rfl ?_
          refine zj_goto (tgt := 37) (pc := 66) K dX8_chances_66 (by decide) ?_
          exact ih (i + 1) _ _ (by omega) (by omega) (by first | exact zc_cnt_t e3 c_57 | exact zc_cnt_f e3 c_57) (zz_up e4)
        · replace c_57 := zz_n0.mp c_57
          rw [zs4.2 i hi] at c_57
          refine zj_iinc (v := 1) (pc := 60) K dX8_chances_60 rfl (by decide) rfl rfl rfl ?_
          refine zj_iinc (v := 1) (pc := 63) K dX8_chances_63 rfl (by decide) rfl rfl rfl ?_
          refine zj_goto (tgt := 37) (pc := 66) K dX8_chances_66 (by decide) ?_
          exact ih (i + 1) _ _ (by omega) (by omega) (by first | exact zc_cnt_t e3 c_57 | exact zc_cnt_f e3 c_57) (zz_up e4)
  show zj_J E Γ 5 0 [(0, .ref (E.2.1 78)), (1, .int x), (2, .int y)] [] h g
  refine zj_aload_n (i := 0) (pc := 0) K dX8_chances_0 rfl rfl ?_
  refine zj_iconst (v := 0) (pc := 1) K dX8_chances_1 (by decide) ?_
  refine zj_putI (pc := 2) K lf_X8_1 hs_M rfl dX8_chances_2 ?_
  refine zj_hn (fun q0 eq0 => ?_)
  have w0 : ∀ a, a ≠ 78 → q0 a = h a := fun a a1 => by rw [eq0, zj_s_ne _ _ a1]
  have wb : ∀ b, b ≠ 0 → q0 78 b = h 78 b := fun b b1 => by rw [eq0, zj_s_eq, zz_upd_ne _ _ b1]
  have w00 : q0 78 0 = 0 := by rw [eq0, zj_s_eq, zz_upd_at]
  have ws : zm_same h q0 := by rw [eq0]; exact zm_same_0 h 0
  have e80 : q0 80 = h 80 := w0 80 (by decide)
  have eJ0 : q0 80 7 = nI J := by rw [e80]; exact eJ
  have eC0 : q0 80 18 = nI C := by rw [e80]; exact eC
  have eτ : zτM q0 80 J C u = zτM h 80 J C u := zτM_congr e80
  have eδ : zδM q0 80 = zδM h 80 := zδM_congr e80
  clear eq0
  have eU0 : q0 80 0 = nI u := by rw [e80]; exact eU
  have hT0 : ∀ δ si c b, 0 ≤ zd_t (zθo (zτM q0 80 J C u) δ) si c b := by rw [eτ]; exact hT
  refine zj_aload_n (i := 0) (pc := 5) K dX8_chances_5 rfl rfl ?_
  refine zj_iload_n (i := 1) (pc := 6) K dX8_chances_6 rfl rfl ?_
  refine zj_cV1I (pc := 7) K lm_X8_164 hs_M (m_X8_isCase eC0 (by omega)) (by decide) rfl (Nat.le_of_ble_eq_true rfl) dX8_chances_7 ?_
  refine zj_if_eq (tgt := 21) (pc := 10) K dX8_chances_10 (by decide) (fun c_10 => ?_) (fun c_10 => ?_)
  · replace c_10 := zz_i0.mp c_10
    have hno : (zz_in x C && zz_in y J) = false := by rw [c_10]; rfl
    refine zj_iconst (v := -1) (pc := 21) K dX8_chances_21 (by decide) ?_
    exact zj_iret K Rt dX8_chances_22 (⟨by rw [zq_ch_M, zz_iff hno], rfl, ws, w00⟩)
  · replace c_10 := zz_n0.mp c_10
    obtain ⟨c, hc, ei⟩ := zz_in_ex c_10 (by omega)
    refine zj_aload_n (i := 0) (pc := 13) K dX8_chances_13 rfl rfl ?_
    refine zj_iload_n (i := 2) (pc := 14) K dX8_chances_14 rfl rfl ?_
    refine zj_cV1I (pc := 15) K lm_X8_154 hs_M (m_X8_isJudge eJ0 (by omega)) (by decide) rfl (Nat.le_of_ble_eq_true rfl) dX8_chances_15 ?_
    refine zj_if_ne (tgt := 23) (pc := 18) K dX8_chances_18 (by decide) (fun c_18 => ?_) (fun c_18 => ?_)
    · replace c_18 := zz_n0.mp c_18
      obtain ⟨j, hj, ej⟩ := zz_in_ex c_18 (by omega)
      have hye : (zz_in x C && zz_in y J) = true := by rw [c_10, c_18]; rfl
      refine zj_aload_n (i := 0) (pc := 23) K dX8_chances_23 rfl rfl ?_
      refine zj_aload_n (i := 0) (pc := 24) K dX8_chances_24 rfl rfl ?_
      refine zj_getR (pc := 25) K lf_X8_64 hs_M rfl dX8_chances_25 ?_
      refine zj_iload_n (i := 1) (pc := 28) K dX8_chances_28 rfl rfl ?_
      refine zj_cV2P (pc := 29) K lm_X8_190 hs_M (m_X8_laysPool (J := J) (C := C) (u := u) (Or.inl rfl) eJ0 hJ eC0 hC eU0 hU hT0 ei (by omega)) (by decide) rfl (Nat.le_of_ble_eq_true rfl) dX8_chances_29 (fun v q g1 hp => ?_)
      obtain ⟨rfl, rfl, zs1, zs2, zs3, zs4, zs5⟩ := hp
      have hcl : x.toNatClampNeg = c := by rw [ei]; exact nI_clamp (by omega)
      have eB : zmB q0 80 = zmB h 80 := by unfold zmB; rw [e80]
      rw [eτ, eδ, eB] at zs4 zs5
      have wq : zm_same h q := ws.tr (zm_same_of (fun a a1 a2 a3 a4 a5 a6 a7 => zs1 a a1 a6 a7) (fun b hb => zs2 b (by omega) (by omega) (by omega)))
      have wq0 : q 78 0 = 0 := by rw [zs2 0 (by decide) (by decide) (by decide)]; exact w00
      refine zj_iconst (v := 0) (pc := 32) K dX8_chances_32 (by decide) ?_
      refine zj_istore_n (i := 3) (pc := 33) K dX8_chances_33 rfl rfl rfl rfl ?_
      refine zj_iconst (v := 0) (pc := 34) K dX8_chances_34 (by decide) ?_
      refine zj_istore (pc := 35) K dX8_chances_35 rfl rfl rfl ?_
      exact loop q c j zs4 (Nat.le_trans zp_fl_84 (zl_all_len _ hJ)) wq wq0 hye ei (by omega) ej (by omega) ((zd_pool (zθo (zτM h 80 J C u) (zδM h 80)) (zmB h 80) c).length + 1) 0 _ _ (by omega) (by omega) rfl rfl
    · replace c_18 := zz_i0.mp c_18
      have hno : (zz_in x C && zz_in y J) = false := by rw [c_10, c_18]; rfl
      refine zj_iconst (v := -1) (pc := 21) K dX8_chances_21 (by decide) ?_
      exact zj_iret K Rt dX8_chances_22 (⟨by rw [zq_ch_M, zz_iff hno], rfl, ws, w00⟩)

set_option maxHeartbeats 4000000 in
set_option maxRecDepth 20000 in
theorem m_X8_judge {l : Launch} {E : zj_E} {h : zj_H} {g : zj_G} {J C u : Nat} (eJ : h 80 7 = nI J) (hJ : J ≤ 9) (eC : h 80 18 = nI C) (hC : C ≤ 14) {x w : Int32} : zj_M l E yX8_judge cX8_judge 3 (some .int) 3 [.ref (E.2.1 78), .int x, .int w] h g (fun v h' g' => g' = g ∧ zm_same h h' ∧ if (zz_in x J && zz_in w 6) = true then v = some (.int (zq_jud (zτM h 80 J C u) (zδM h 80) x.toNatClampNeg w)) ∧ h' 78 0 = 0 else v = some (.int 0) ∧ h' 78 0 = 1) := by
  refine zj_M.of RX8 (by decide) rfl (Nat.le_of_ble_eq_true rfl) ?_
  intro Γ hΓ K Rt
  subst hΓ
  show zj_J E Γ 3 0 [(0, .ref (E.2.1 78)), (1, .int x), (2, .int w)] [] h g
  refine zj_aload_n (i := 0) (pc := 0) K dX8_judge_0 rfl rfl ?_
  refine zj_iconst (v := 0) (pc := 1) K dX8_judge_1 (by decide) ?_
  refine zj_putI (pc := 2) K lf_X8_1 hs_M rfl dX8_judge_2 ?_
  refine zj_hn (fun q0 eq0 => ?_)
  have w0 : ∀ a, a ≠ 78 → q0 a = h a := fun a a1 => by rw [eq0, zj_s_ne _ _ a1]
  have wb : ∀ b, b ≠ 0 → q0 78 b = h 78 b := fun b b1 => by rw [eq0, zj_s_eq, zz_upd_ne _ _ b1]
  have w00 : q0 78 0 = 0 := by rw [eq0, zj_s_eq, zz_upd_at]
  have ws : zm_same h q0 := by rw [eq0]; exact zm_same_0 h 0
  have e80 : q0 80 = h 80 := w0 80 (by decide)
  have eJ0 : q0 80 7 = nI J := by rw [e80]; exact eJ
  have eC0 : q0 80 18 = nI C := by rw [e80]; exact eC
  have eτ : zτM q0 80 J C u = zτM h 80 J C u := zτM_congr e80
  have eδ : zδM q0 80 = zδM h 80 := zδM_congr e80
  clear eq0
  refine zj_aload_n (i := 0) (pc := 5) K dX8_judge_5 rfl rfl ?_
  refine zj_iload_n (i := 1) (pc := 6) K dX8_judge_6 rfl rfl ?_
  refine zj_cV1I (pc := 7) K lm_X8_154 hs_M (m_X8_isJudge eJ0 (by omega)) (by decide) rfl (Nat.le_of_ble_eq_true rfl) dX8_judge_7 ?_
  refine zj_if_eq (tgt := 22) (pc := 10) K dX8_judge_10 (by decide) (fun c_10 => ?_) (fun c_10 => ?_)
  · replace c_10 := zz_i0.mp c_10
    have hno : (zz_in x J && zz_in w 6) = false := by rw [c_10]; rfl
    refine zj_aload_n (i := 0) (pc := 22) K dX8_judge_22 rfl rfl ?_
    refine zj_cV0I (pc := 23) K lm_X8_157 hs_M (m_X8_refuse) (by decide) rfl (Nat.le_of_ble_eq_true rfl) dX8_judge_23 ?_
    exact zj_iret K Rt dX8_judge_26 (⟨rfl, ws.tr (zm_same_0 q0 1), by rw [zz_iff hno]; exact ⟨rfl, by rw [zj_s_eq, zz_upd_at]⟩⟩)
  · replace c_10 := zz_n0.mp c_10
    obtain ⟨j, hj, ej⟩ := zz_in_ex c_10 (by omega)
    have hjl : x.toNatClampNeg = j := by rw [ej]; exact nI_clamp (by omega)
    refine zj_iload_n (i := 2) (pc := 13) K dX8_judge_13 rfl rfl ?_
    refine zj_iconst (v := 0) (pc := 14) K dX8_judge_14 (by decide) ?_
    refine zj_iconst (v := 5) (pc := 15) K dX8_judge_15 (by decide) ?_
    refine zj_cS3I (pc := 16) K lm_X8_91 (m_X8_isIn) (by decide) rfl (Nat.le_of_ble_eq_true rfl) dX8_judge_16 ?_
    refine zj_if_ne (tgt := 27) (pc := 19) K dX8_judge_19 (by decide) (fun c_19 => ?_) (fun c_19 => ?_)
    · replace c_19 := zz_n0.mp c_19
      rw [zm_in6] at c_19
      have hye : (zz_in x J && zz_in w 6) = true := by rw [c_10, c_19]; rfl
      obtain ⟨k6, hk6, ek6⟩ := zz_in_ex c_19 (by omega)
      refine zj_iload_n (i := 2) (pc := 27) K dX8_judge_27 rfl rfl ?_
      by_cases s_0 : w = 0
      · refine zj_tableIn (off := 28) (tgt := 56) K dX8_judge_28 (by rw [s_0]; decide) (by rw [s_0]; decide) (by rw [s_0]; rfl) (by decide) ?_
        refine zj_aload_n (i := 0) (pc := 56) K dX8_judge_56 rfl rfl ?_
        refine zj_getR (pc := 57) K lf_X8_64 hs_M rfl dX8_judge_57 ?_
        refine zj_bipush (v := 8) (pc := 60) K dX8_judge_60 (by decide) ?_
        refine zj_iload_n (i := 1) (pc := 62) K dX8_judge_62 rfl rfl ?_
        refine zj_iadd (pc := 63) K dX8_judge_63 ?_
        refine zj_ald (j := 8 + j) (pc := 64) K hs_Mnow (zm_ix rfl ej) (by omega) (by first | decide | omega) dX8_judge_64 ?_
        exact zj_iret K Rt dX8_judge_65 (⟨rfl, ws, by rw [zz_ift hye, zq_jud, hjl, if_pos s_0, e80]; exact ⟨rfl, w00⟩⟩)
      by_cases s_1 : w = 1
      · refine zj_tableIn (off := 38) (tgt := 66) K dX8_judge_28 (by rw [s_1]; decide) (by rw [s_1]; decide) (by rw [s_1]; rfl) (by decide) ?_
        refine zj_aload_n (i := 0) (pc := 66) K dX8_judge_66 rfl rfl ?_
        refine zj_getR (pc := 67) K lf_X8_64 hs_M rfl dX8_judge_67 ?_
        refine zj_bipush (v := 17) (pc := 70) K dX8_judge_70 (by decide) ?_
        refine zj_ald (j := 17) (pc := 72) K hs_Mnow rfl (by decide) (by first | decide | omega) dX8_judge_72 ?_
        refine zj_iload_n (i := 1) (pc := 73) K dX8_judge_73 rfl rfl ?_
        refine zj_cS2I (pc := 74) K lm_X8_105 (m_X8_has ej (by omega)) (by decide) rfl (Nat.le_of_ble_eq_true rfl) dX8_judge_74 ?_
        refine zj_if_eq (tgt := 84) (pc := 77) K dX8_judge_77 (by decide) (fun c_77 => ?_) (fun c_77 => ?_)
        · replace c_77 := zz_i0.mp c_77
          rw [e80] at c_77
          refine zj_iconst (v := 0) (pc := 84) K dX8_judge_84 (by decide) ?_
          exact zj_iret K Rt dX8_judge_85 (⟨rfl, ws, by rw [zz_ift hye, zq_jud, hjl, if_neg s_0, if_pos s_1, show bt (zδM h 80).2.1 j = _ from c_77]; exact ⟨rfl, w00⟩⟩)
        · replace c_77 := zz_n0.mp c_77
          rw [e80] at c_77
          refine zj_iconst (v := 1) (pc := 80) K dX8_judge_80 (by decide) ?_
          refine zj_goto (tgt := 85) (pc := 81) K dX8_judge_81 (by decide) ?_
          exact zj_iret K Rt dX8_judge_85 (⟨rfl, ws, by rw [zz_ift hye, zq_jud, hjl, if_neg s_0, if_pos s_1, show bt (zδM h 80).2.1 j = _ from c_77]; exact ⟨rfl, w00⟩⟩)
      by_cases s_2 : w = 2
      · refine zj_tableIn (off := 58) (tgt := 86) K dX8_judge_28 (by rw [s_2]; decide) (by rw [s_2]; decide) (by rw [s_2]; rfl) (by decide) ?_
        refine zj_aload_n (i := 0) (pc := 86) K dX8_judge_86 rfl rfl ?_
        refine zj_getR (pc := 87) K lf_X8_64 hs_M rfl dX8_judge_87 ?_
        refine zj_iload_n (i := 1) (pc := 90) K dX8_judge_90 rfl rfl ?_
        refine zj_iconst (v := -1) (pc := 91) K dX8_judge_91 (by decide) ?_
        refine zj_cS3I (pc := 92) K lm_X8_143 (m_X8_loadOf hs_Mnow eJ0 hJ eC0 hC ej (by omega)) (by decide) rfl (Nat.le_of_ble_eq_true rfl) dX8_judge_92 ?_
        exact zj_iret K Rt dX8_judge_95 (⟨rfl, ws, by rw [zz_ift hye, zq_jud, hjl, if_neg s_0, if_neg s_1, if_pos s_2, show zmS q0 80 = zmS h 80 by unfold zmS; rw [e80], show zmW q0 80 = zmW h 80 by unfold zmW; rw [e80], show zmB q0 80 = zmB h 80 by unfold zmB; rw [e80], e80]; exact ⟨rfl, w00⟩⟩)
      refine zj_tableOut (tgt := 96) K dX8_judge_28 (zz_out (n := 2) (by decide) (fun k hk => by
        rcases (show k = 0 ∨ k = 1 ∨ k = 2 by omega) with rfl | rfl | rfl
        · exact s_0
        · exact s_1
        · exact s_2)) (by decide) ?_
      refine zj_aload_n (i := 0) (pc := 96) K dX8_judge_96 rfl rfl ?_
      refine zj_iload_n (i := 1) (pc := 97) K dX8_judge_97 rfl rfl ?_
      refine zj_iload_n (i := 2) (pc := 98) K dX8_judge_98 rfl rfl ?_
      refine zj_cV2I (pc := 99) K lm_X8_160 hs_M (m_X8_countsOf eJ0 hJ eC0 hC ej (by omega)) (by decide) rfl (Nat.le_of_ble_eq_true rfl) dX8_judge_99 ?_
      exact zj_iret K Rt dX8_judge_102 (by
        refine ⟨rfl, ws, ?_⟩
        rw [zz_ift hye, hjl]
        refine ⟨?_, w00⟩
        rw [zq_jud, if_neg s_0, if_neg s_1, if_neg s_2]
        by_cases s_3 : w = 3
        · rw [if_pos s_3, zc_cnt_congr (fun c _ => zm_cnt3 s_3), e80]; rfl
        · by_cases s_4 : w = 4
          · rw [if_neg s_3, if_pos s_4, zc_cnt_congr (fun c _ => zm_cnt4 s_3 s_4), e80, show zmS q0 80 = zmS h 80 by unfold zmS; rw [e80]]; rfl
          · rw [if_neg s_3, if_neg s_4, zc_cnt_congr (fun c _ => zm_cnt5 s_3 s_4), e80]; rfl)
    · replace c_19 := zz_i0.mp c_19
      rw [zm_in6] at c_19
      have hno : (zz_in x J && zz_in w 6) = false := by rw [c_10, c_19]; rfl
      refine zj_aload_n (i := 0) (pc := 22) K dX8_judge_22 rfl rfl ?_
      refine zj_cV0I (pc := 23) K lm_X8_157 hs_M (m_X8_refuse) (by decide) rfl (Nat.le_of_ble_eq_true rfl) dX8_judge_23 ?_
      exact zj_iret K Rt dX8_judge_26 (⟨rfl, ws.tr (zm_same_0 q0 1), by rw [zz_iff hno]; exact ⟨rfl, by rw [zj_s_eq, zz_upd_at]⟩⟩)

set_option maxHeartbeats 4000000 in
set_option maxRecDepth 20000 in
theorem m_X8_of {l : Launch} {E : zj_E} {h : zj_H} {g : zj_G} {J C u : Nat} (eJ : h 80 7 = nI J) (hJ : J ≤ 9) (eC : h 80 18 = nI C) (hC : C ≤ 14) {x w : Int32} : zj_M l E yX8_of cX8_of 3 (some .int) 2 [.ref (E.2.1 78), .int x, .int w] h g (fun v h' g' => g' = g ∧ zm_same h h' ∧ if (zz_in x C && zz_in w 5) = true then v = some (.int (zq_of (zτM h 80 J C u) (zδM h 80) x.toNatClampNeg w)) ∧ h' 78 0 = 0 else v = some (.int 0) ∧ h' 78 0 = 1) := by
  refine zj_M.of RX8 (by decide) rfl (Nat.le_of_ble_eq_true rfl) ?_
  intro Γ hΓ K Rt
  subst hΓ
  show zj_J E Γ 3 0 [(0, .ref (E.2.1 78)), (1, .int x), (2, .int w)] [] h g
  refine zj_aload_n (i := 0) (pc := 0) K dX8_of_0 rfl rfl ?_
  refine zj_iconst (v := 0) (pc := 1) K dX8_of_1 (by decide) ?_
  refine zj_putI (pc := 2) K lf_X8_1 hs_M rfl dX8_of_2 ?_
  refine zj_hn (fun q0 eq0 => ?_)
  have w0 : ∀ a, a ≠ 78 → q0 a = h a := fun a a1 => by rw [eq0, zj_s_ne _ _ a1]
  have wb : ∀ b, b ≠ 0 → q0 78 b = h 78 b := fun b b1 => by rw [eq0, zj_s_eq, zz_upd_ne _ _ b1]
  have w00 : q0 78 0 = 0 := by rw [eq0, zj_s_eq, zz_upd_at]
  have ws : zm_same h q0 := by rw [eq0]; exact zm_same_0 h 0
  have e80 : q0 80 = h 80 := w0 80 (by decide)
  have eJ0 : q0 80 7 = nI J := by rw [e80]; exact eJ
  have eC0 : q0 80 18 = nI C := by rw [e80]; exact eC
  have eτ : zτM q0 80 J C u = zτM h 80 J C u := zτM_congr e80
  have eδ : zδM q0 80 = zδM h 80 := zδM_congr e80
  clear eq0
  refine zj_aload_n (i := 0) (pc := 5) K dX8_of_5 rfl rfl ?_
  refine zj_iload_n (i := 1) (pc := 6) K dX8_of_6 rfl rfl ?_
  refine zj_cV1I (pc := 7) K lm_X8_164 hs_M (m_X8_isCase eC0 (by omega)) (by decide) rfl (Nat.le_of_ble_eq_true rfl) dX8_of_7 ?_
  refine zj_if_ne (tgt := 18) (pc := 10) K dX8_of_10 (by decide) (fun c_10 => ?_) (fun c_10 => ?_)
  · replace c_10 := zz_n0.mp c_10
    obtain ⟨c, hc, ei⟩ := zz_in_ex c_10 (by omega)
    have hcl : x.toNatClampNeg = c := by rw [ei]; exact nI_clamp (by omega)
    refine zj_iload_n (i := 2) (pc := 18) K dX8_of_18 rfl rfl ?_
    by_cases s_0 : w = 0
    · refine zj_tableIn (off := 33) (tgt := 52) K dX8_of_19 (by rw [s_0]; decide) (by rw [s_0]; decide) (by rw [s_0]; rfl) (by decide) ?_
      refine zj_aload_n (i := 0) (pc := 52) K dX8_of_52 rfl rfl ?_
      refine zj_getR (pc := 53) K lf_X8_64 hs_M rfl dX8_of_53 ?_
      refine zj_bipush (v := 19) (pc := 56) K dX8_of_56 (by decide) ?_
      refine zj_iload_n (i := 1) (pc := 58) K dX8_of_58 rfl rfl ?_
      refine zj_iadd (pc := 59) K dX8_of_59 ?_
      refine zj_ald (j := 19 + c) (pc := 60) K hs_Mnow (zm_ix rfl ei) (by omega) (by first | decide | omega) dX8_of_60 ?_
      exact zj_iret K Rt dX8_of_61 (by
        have hye : (zz_in x C && zz_in w 5) = true := by rw [c_10, s_0]; rfl
        exact ⟨rfl, ws, by rw [zz_ift hye, zq_of, hcl, if_pos s_0, e80]; exact ⟨rfl, w00⟩⟩)
    by_cases s_1 : w = 1
    · refine zj_tableIn (off := 43) (tgt := 62) K dX8_of_19 (by rw [s_1]; decide) (by rw [s_1]; decide) (by rw [s_1]; rfl) (by decide) ?_
      refine zj_aload_n (i := 0) (pc := 62) K dX8_of_62 rfl rfl ?_
      refine zj_getR (pc := 63) K lf_X8_64 hs_M rfl dX8_of_63 ?_
      refine zj_bipush (v := 47) (pc := 66) K dX8_of_66 (by decide) ?_
      refine zj_iload_n (i := 1) (pc := 68) K dX8_of_68 rfl rfl ?_
      refine zj_iadd (pc := 69) K dX8_of_69 ?_
      refine zj_ald (j := 47 + c) (pc := 70) K hs_Mnow (zm_ix rfl ei) (by omega) (by first | decide | omega) dX8_of_70 ?_
      exact zj_iret K Rt dX8_of_71 (by
        have hye : (zz_in x C && zz_in w 5) = true := by rw [c_10, s_1]; rfl
        exact ⟨rfl, ws, by rw [zz_ift hye, zq_of, hcl, if_neg s_0, if_pos s_1, e80]; exact ⟨rfl, w00⟩⟩)
    by_cases s_2 : w = 2
    · refine zj_tableIn (off := 53) (tgt := 72) K dX8_of_19 (by rw [s_2]; decide) (by rw [s_2]; decide) (by rw [s_2]; rfl) (by decide) ?_
      refine zj_aload_n (i := 0) (pc := 72) K dX8_of_72 rfl rfl ?_
      refine zj_getR (pc := 73) K lf_X8_64 hs_M rfl dX8_of_73 ?_
      refine zj_bipush (v := 75) (pc := 76) K dX8_of_76 (by decide) ?_
      refine zj_iload_n (i := 1) (pc := 78) K dX8_of_78 rfl rfl ?_
      refine zj_iadd (pc := 79) K dX8_of_79 ?_
      refine zj_ald (j := 75 + c) (pc := 80) K hs_Mnow (zm_ix rfl ei) (by omega) (by first | decide | omega) dX8_of_80 ?_
      exact zj_iret K Rt dX8_of_81 (by
        have hye : (zz_in x C && zz_in w 5) = true := by rw [c_10, s_2]; rfl
        exact ⟨rfl, ws, by rw [zz_ift hye, zq_of, hcl, if_neg s_0, if_neg s_1, if_pos s_2, e80]; exact ⟨rfl, w00⟩⟩)
    by_cases s_3 : w = 3
    · refine zj_tableIn (off := 63) (tgt := 82) K dX8_of_19 (by rw [s_3]; decide) (by rw [s_3]; decide) (by rw [s_3]; rfl) (by decide) ?_
      refine zj_aload_n (i := 0) (pc := 82) K dX8_of_82 rfl rfl ?_
      refine zj_getR (pc := 83) K lf_X8_64 hs_M rfl dX8_of_83 ?_
      refine zj_bipush (v := 61) (pc := 86) K dX8_of_86 (by decide) ?_
      refine zj_iload_n (i := 1) (pc := 88) K dX8_of_88 rfl rfl ?_
      refine zj_iadd (pc := 89) K dX8_of_89 ?_
      refine zj_ald (j := 61 + c) (pc := 90) K hs_Mnow (zm_ix rfl ei) (by omega) (by first | decide | omega) dX8_of_90 ?_
      exact zj_iret K Rt dX8_of_91 (by
        have hye : (zz_in x C && zz_in w 5) = true := by rw [c_10, s_3]; rfl
        exact ⟨rfl, ws, by rw [zz_ift hye, zq_of, hcl, if_neg s_0, if_neg s_1, if_neg s_2, if_pos s_3, e80]; exact ⟨rfl, w00⟩⟩)
    by_cases s_4 : w = 4
    · refine zj_tableIn (off := 73) (tgt := 92) K dX8_of_19 (by rw [s_4]; decide) (by rw [s_4]; decide) (by rw [s_4]; rfl) (by decide) ?_
      refine zj_aload_n (i := 0) (pc := 92) K dX8_of_92 rfl rfl ?_
      refine zj_getR (pc := 93) K lf_X8_64 hs_M rfl dX8_of_93 ?_
      refine zj_aload_n (i := 0) (pc := 96) K dX8_of_96 rfl rfl ?_
      refine zj_getR (pc := 97) K lf_X8_64 hs_M rfl dX8_of_97 ?_
      refine zj_bipush (v := 61) (pc := 100) K dX8_of_100 (by decide) ?_
      refine zj_iload_n (i := 1) (pc := 102) K dX8_of_102 rfl rfl ?_
      refine zj_iadd (pc := 103) K dX8_of_103 ?_
      refine zj_ald (j := 61 + c) (pc := 104) K hs_Mnow (zm_ix rfl ei) (by omega) (by first | decide | omega) dX8_of_104 ?_
      refine zj_cS2I (pc := 105) K lm_X8_139 (m_X8_presides hs_Mnow eJ0 hJ) (by decide) rfl (Nat.le_of_ble_eq_true rfl) dX8_of_105 ?_
      exact zj_iret K Rt dX8_of_108 (by
        have hye : (zz_in x C && zz_in w 5) = true := by rw [c_10, s_4]; rfl
        exact ⟨rfl, ws, by rw [zz_ift hye, zq_of, hcl, if_neg s_0, if_neg s_1, if_neg s_2, if_neg s_3, e80, show zmS q0 80 = zmS h 80 by unfold zmS; rw [e80]]; exact ⟨rfl, w00⟩⟩)
    refine zj_tableOut (tgt := 109) K dX8_of_19 (zz_out (n := 4) (by decide) (fun k hk => by
      rcases (show k = 0 ∨ k = 1 ∨ k = 2 ∨ k = 3 ∨ k = 4 by omega) with rfl | rfl | rfl | rfl | rfl
      · exact s_0
      · exact s_1
      · exact s_2
      · exact s_3
      · exact s_4)) (by decide) ?_
    refine zj_aload_n (i := 0) (pc := 109) K dX8_of_109 rfl rfl ?_
    refine zj_cV0I (pc := 110) K lm_X8_157 hs_M (m_X8_refuse) (by decide) rfl (Nat.le_of_ble_eq_true rfl) dX8_of_110 ?_
    exact zj_iret K Rt dX8_of_113 (by
      have hno : (zz_in x C && zz_in w 5) = false := by
        rw [show zz_in w 5 = false from zm_n5 s_0 s_1 s_2 s_3 s_4, Bool.and_false]
      exact ⟨rfl, ws.tr (zm_same_0 q0 1), by rw [zz_iff hno]; exact ⟨rfl, by rw [zj_s_eq, zz_upd_at]⟩⟩)
  · replace c_10 := zz_i0.mp c_10
    have hno : (zz_in x C && zz_in w 5) = false := by rw [c_10]; rfl
    refine zj_aload_n (i := 0) (pc := 13) K dX8_of_13 rfl rfl ?_
    refine zj_cV0I (pc := 14) K lm_X8_157 hs_M (m_X8_refuse) (by decide) rfl (Nat.le_of_ble_eq_true rfl) dX8_of_14 ?_
    exact zj_iret K Rt dX8_of_17 (⟨rfl, ws.tr (zm_same_0 q0 1), by rw [zz_iff hno]; exact ⟨rfl, by rw [zj_s_eq, zz_upd_at]⟩⟩)

set_option maxHeartbeats 4000000 in
set_option maxRecDepth 20000 in
theorem m_X8_pair {l : Launch} {E : zj_E} {h : zj_H} {g : zj_G} {J C u : Nat} (eJ : h 80 7 = nI J) (hJ : J ≤ 9) (eC : h 80 18 = nI C) (hC : C ≤ 14) {x y : Int32} : zj_M l E yX8_pair cX8_pair 3 (some .int) 2 [.ref (E.2.1 78), .int x, .int y] h g (fun v h' g' => v = some (.int (zq_pair (zτM h 80 J C u) (zδM h 80) x y)) ∧ g' = g ∧ zm_same h h' ∧ h' 78 0 = 0) := by
  refine zj_M.of RX8 (by decide) rfl (Nat.le_of_ble_eq_true rfl) ?_
  intro Γ hΓ K Rt
  subst hΓ
  show zj_J E Γ 3 0 [(0, .ref (E.2.1 78)), (1, .int x), (2, .int y)] [] h g
  refine zj_aload_n (i := 0) (pc := 0) K dX8_pair_0 rfl rfl ?_
  refine zj_iconst (v := 0) (pc := 1) K dX8_pair_1 (by decide) ?_
  refine zj_putI (pc := 2) K lf_X8_1 hs_M rfl dX8_pair_2 ?_
  refine zj_hn (fun q0 eq0 => ?_)
  have w0 : ∀ a, a ≠ 78 → q0 a = h a := fun a a1 => by rw [eq0, zj_s_ne _ _ a1]
  have wb : ∀ b, b ≠ 0 → q0 78 b = h 78 b := fun b b1 => by rw [eq0, zj_s_eq, zz_upd_ne _ _ b1]
  have w00 : q0 78 0 = 0 := by rw [eq0, zj_s_eq, zz_upd_at]
  have ws : zm_same h q0 := by rw [eq0]; exact zm_same_0 h 0
  have e80 : q0 80 = h 80 := w0 80 (by decide)
  have eJ0 : q0 80 7 = nI J := by rw [e80]; exact eJ
  have eC0 : q0 80 18 = nI C := by rw [e80]; exact eC
  have eτ : zτM q0 80 J C u = zτM h 80 J C u := zτM_congr e80
  have eδ : zδM q0 80 = zδM h 80 := zδM_congr e80
  clear eq0
  refine zj_aload_n (i := 0) (pc := 5) K dX8_pair_5 rfl rfl ?_
  refine zj_iload_n (i := 1) (pc := 6) K dX8_pair_6 rfl rfl ?_
  refine zj_cV1I (pc := 7) K lm_X8_154 hs_M (m_X8_isJudge eJ0 (by omega)) (by decide) rfl (Nat.le_of_ble_eq_true rfl) dX8_pair_7 ?_
  refine zj_if_eq (tgt := 39) (pc := 10) K dX8_pair_10 (by decide) (fun c_10 => ?_) (fun c_10 => ?_)
  · replace c_10 := zz_i0.mp c_10
    have hno : (zz_in x J && zz_in y J && decide (¬ x = y)) = false := by rw [c_10]; rfl
    refine zj_iconst (v := -1) (pc := 39) K dX8_pair_39 (by decide) ?_
    exact zj_iret K Rt dX8_pair_40 (⟨by first | rw [zq_pair_M, zz_iff hno] | rw [zq_pair_M, zz_ift hye, ei, ej, nI_clamp (by omega), nI_clamp (by omega), show zmB q0 80 = zmB h 80 by unfold zmB; rw [e80]], rfl, ws, w00⟩)
  · replace c_10 := zz_n0.mp c_10
    obtain ⟨i, hi, ei⟩ := zz_in_ex c_10 (by omega)
    refine zj_aload_n (i := 0) (pc := 13) K dX8_pair_13 rfl rfl ?_
    refine zj_iload_n (i := 2) (pc := 14) K dX8_pair_14 rfl rfl ?_
    refine zj_cV1I (pc := 15) K lm_X8_154 hs_M (m_X8_isJudge eJ0 (by omega)) (by decide) rfl (Nat.le_of_ble_eq_true rfl) dX8_pair_15 ?_
    refine zj_if_eq (tgt := 39) (pc := 18) K dX8_pair_18 (by decide) (fun c_18 => ?_) (fun c_18 => ?_)
    · replace c_18 := zz_i0.mp c_18
      have hno : (zz_in x J && zz_in y J && decide (¬ x = y)) = false := by rw [c_10, c_18]; rfl
      refine zj_iconst (v := -1) (pc := 39) K dX8_pair_39 (by decide) ?_
      exact zj_iret K Rt dX8_pair_40 (⟨by first | rw [zq_pair_M, zz_iff hno] | rw [zq_pair_M, zz_ift hye, ei, ej, nI_clamp (by omega), nI_clamp (by omega), show zmB q0 80 = zmB h 80 by unfold zmB; rw [e80]], rfl, ws, w00⟩)
    · replace c_18 := zz_n0.mp c_18
      obtain ⟨j, hj, ej⟩ := zz_in_ex c_18 (by omega)
      refine zj_iload_n (i := 1) (pc := 21) K dX8_pair_21 rfl rfl ?_
      refine zj_iload_n (i := 2) (pc := 22) K dX8_pair_22 rfl rfl ?_
      refine zj_icmp_eq (tgt := 39) (pc := 23) K dX8_pair_23 (by decide) (fun c_23 => ?_) (fun c_23 => ?_)
      · have hno : (zz_in x J && zz_in y J && decide (¬ x = y)) = false := by rw [c_10, c_18, decide_eq_false (fun z => z c_23)]; rfl
        refine zj_iconst (v := -1) (pc := 39) K dX8_pair_39 (by decide) ?_
        exact zj_iret K Rt dX8_pair_40 (⟨by first | rw [zq_pair_M, zz_iff hno] | rw [zq_pair_M, zz_ift hye, ei, ej, nI_clamp (by omega), nI_clamp (by omega), show zmB q0 80 = zmB h 80 by unfold zmB; rw [e80]], rfl, ws, w00⟩)
      · have hye : (zz_in x J && zz_in y J && decide (¬ x = y)) = true := by rw [c_10, c_18, decide_eq_true c_23]; rfl
        refine zj_aload_n (i := 0) (pc := 26) K dX8_pair_26 rfl rfl ?_
        refine zj_getR (pc := 27) K lf_X8_64 hs_M rfl dX8_pair_27 ?_
        refine zj_iload_n (i := 1) (pc := 30) K dX8_pair_30 rfl rfl ?_
        refine zj_iload_n (i := 2) (pc := 31) K dX8_pair_31 rfl rfl ?_
        refine zj_iconst (v := -1) (pc := 32) K dX8_pair_32 (by decide) ?_
        refine zj_cS4I (pc := 33) K lm_X8_147 (m_X8_pairOf hs_Mnow eC0 hC ei ej (by omega) (by omega)) (by decide) rfl (Nat.le_of_ble_eq_true rfl) dX8_pair_33 ?_
        refine zj_goto (tgt := 40) (pc := 36) K dX8_pair_36 (by decide) ?_
        exact zj_iret K Rt dX8_pair_40 (⟨by first | rw [zq_pair_M, zz_iff hno] | rw [zq_pair_M, zz_ift hye, ei, ej, nI_clamp (by omega), nI_clamp (by omega), show zmB q0 80 = zmB h 80 by unfold zmB; rw [e80]], rfl, ws, w00⟩)
