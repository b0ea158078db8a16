theorem zq_pp {B f : Nat → Int32} {wo : Int32} {i j J C : Nat} (hij : i ≠ j) (hi : i < J) (hj : j < J) (hJ : J ≤ 9) : zb_Pn B wo J (fun q => if q < 81 then 0 else f q) C (zz_pp i j) = nI (zs_pair C B wo i j) := by
  unfold zz_pp
  split
  · rw [zb_Pn_val (by omega) (by omega) hJ, if_pos (show i * 9 + j < 81 by omega)]; simp
  · rw [zb_Pn_val (by omega) (by omega) hJ, if_pos (show j * 9 + i < 81 by omega), zs_pair_comm]; simp
theorem zc_max_congr {f f' : Nat → Int32} {s : Int32} : ∀ {n : Nat}, (∀ i, i < n → f i = f' i) → zc_max f s n = zc_max f' s n
  | 0, _ => rfl
  | n + 1, h => by unfold zc_max; rw [zc_max_congr (fun i hi => h i (Nat.lt_succ_of_lt hi)), h n (Nat.lt_succ_self n)]
theorem zc_min_congr {f f' : Nat → Int32} {s : Int32} : ∀ {n : Nat}, (∀ i, i < n → f i = f' i) → zc_min f s n = zc_min f' s n
  | 0, _ => rfl
  | n + 1, h => by unfold zc_min; rw [zc_min_congr (fun i hi => h i (Nat.lt_succ_of_lt hi)), h n (Nat.lt_succ_self n)]
theorem zc_maxb_congr {P P' : Nat → Int32} {a : Nat} {s : Int32} : ∀ {n : Nat}, (∀ c, a < c → c < n → P (a * 9 + c) = P' (a * 9 + c)) → zc_maxb P a s n = zc_maxb P' a s n
  | 0, _ => rfl
  | n + 1, h => by
    unfold zc_maxb
    rw [zc_maxb_congr (fun c h1 h2 => h c h1 (by omega))]
    by_cases e : a < n
    · rw [if_pos e, if_pos e, h n e (by omega)]
    · rw [if_neg e, if_neg e]
theorem zc_minb_congr {P P' : Nat → Int32} {a : Nat} {s : Int32} : ∀ {n : Nat}, (∀ c, a < c → c < n → P (a * 9 + c) = P' (a * 9 + c)) → zc_minb P a s n = zc_minb P' a s n
  | 0, _ => rfl
  | n + 1, h => by
    unfold zc_minb
    rw [zc_minb_congr (fun c h1 h2 => h c h1 (by omega))]
    by_cases e : a < n
    · rw [if_pos e, if_pos e, h n e (by omega)]
    · rw [if_neg e, if_neg e]
theorem zc_max2_congr {P P' : Nat → Int32} {J : Nat} (h : ∀ a c, a < c → c < J → P (a * 9 + c) = P' (a * 9 + c)) : ∀ n, zc_max2 P J n = zc_max2 P' J n
  | 0 => rfl
  | n + 1 => by unfold zc_max2; rw [zc_max2_congr h n]; exact zc_maxb_congr (fun c h1 h2 => h n c h1 h2)
theorem zc_min2_congr {P P' : Nat → Int32} {J : Nat} (h : ∀ a c, a < c → c < J → P (a * 9 + c) = P' (a * 9 + c)) : ∀ n, zc_min2 P J n = zc_min2 P' J n
  | 0 => rfl
  | n + 1 => by unfold zc_min2; rw [zc_min2_congr h n]; exact zc_minb_congr (fun c h1 h2 => h n c h1 h2)
-- answers of calls that change nothing
def zq_pair (τ : zτ) (δ : zδ) (x y : Int32) : Int32 := if (zz_in x τ.1 && zz_in y τ.1 && decide (¬ x = y)) = true then nI (zs_pair τ.2.1 δ.2.2.2.1 (-1) x.toNatClampNeg y.toNatClampNeg) else -1
def zq_P (C : Nat) (si : Nat → Int32) : Nat → Int32 := fun q => nI (zs_pair C si (-1) (q / 9) (q % 9))
def zq_L (τ : zτ) (δ : zδ) : Nat → Int32 := fun j => zs_load τ.2.1 τ.1 δ.2.2.2.1 τ.2.2.2.2.2.2.2.1 τ.2.2.2.2.2.2.1 τ.2.2.2.2.2.1 (-1) j
def zq_spr (τ : zτ) (δ : zδ) (x : Int32) : Int32 := if τ.1 < 2 then -1 else if x = 0 then zc_max2 (zq_P τ.2.1 δ.2.2.2.1) τ.1 τ.1 - zc_min2 (zq_P τ.2.1 δ.2.2.2.1) τ.1 τ.1 else if x = 1 then zc_max (zq_L τ δ) 0 τ.1 - zc_min (zq_L τ δ) 2147483647 τ.1 else -1
def zq_law (τ : zτ) (δ : zδ) (x : Int32) : Int32 := if zz_in x τ.2.1 = true then nI (zd_l (zθo τ δ) x.toNatClampNeg).length else -1
def zq_ben (τ : zτ) (δ : zδ) (x i : Int32) : Int32 := if (zz_in x τ.2.1 && zz_in i (zd_l (zθo τ δ) x.toNatClampNeg).length) = true then (zd_l (zθo τ δ) x.toNatClampNeg).getD i.toNatClampNeg 0 else -1
def zq_rank (τ : zτ) (δ : zδ) (x b : Int32) : Int32 := if zz_in x τ.2.1 = true then zl_find (zd_l (zθo τ δ) x.toNatClampNeg) b (zd_l (zθo τ δ) x.toNatClampNeg).length else -1
def zq_ten (τ : zτ) (δ : zδ) (x b : Int32) : Int32 := if (zz_in x τ.2.1 && zz_isb τ.1 b) = true then zd_t (zθo τ δ) δ.2.2.2.1 x.toNatClampNeg b else -1
def zq_pool (τ : zτ) (δ : zδ) (x : Int32) : Int32 := if zz_in x τ.2.1 = true then nI (zd_pool (zθo τ δ) δ.2.2.2.1 x.toNatClampNeg).length else -1
def zq_ch (τ : zτ) (δ : zδ) (x y : Int32) : Int32 := if (zz_in x τ.2.1 && zz_in y τ.1) = true then nI (zc_cnt (fun i => decide (zd_ts (zθo τ δ) δ.2.2.2.1 x.toNatClampNeg i ≤ zd_W (zθo τ δ) δ.2.2.2.1 x.toNatClampNeg) && bt ((zd_l (zθo τ δ) x.toNatClampNeg).getD i 0) y.toNatClampNeg) (zd_l (zθo τ δ) x.toNatClampNeg).length) else -1
def zq_wor (τ : zτ) (δ : zδ) (x : Int32) : Int32 := if zz_in x τ.2.1 = true then zd_W (zθo τ δ) δ.2.2.2.1 x.toNatClampNeg else -1
def zq_bet (τ : zτ) (δ : zδ) (x : Int32) : Int32 := match zo_bet τ δ with
  | none => -1
  | some (a, i, b, j) => if x = 0 then nI a else if x = 1 then nI i else if x = 2 then nI b else if x = 3 then nI j else if x = 4 then zs_even τ.1 τ.2.1 δ.2.2.2.1 - zs_even τ.1 τ.2.1 (zx_si δ.2.2.2.1 a i b j) else -1
theorem zk_mk_keep {h q q2 : zj_H} {nx ct : Nat} {δ' : zδ} (hnx : nx < 11) (zq1 : ∀ a, (a < 34 + 4 * nx ∨ 34 + 4 * nx + 4 ≤ a) → q a = h a) (zq2 : zk_row q (34 + 4 * nx) (zδC h 13)) (zb : ∀ a, (a < 12 ∨ 22 ≤ a) → q2 a = q a) (hδ : zδC q2 13 = δ') :
    zk_fr h (zj_s q2 32 (upd (upd (q2 32) 1 (nI ((nx + 1) % 11))) 2 (nI (min (ct + 1) 10)))) ∧ zk_keep h (zj_s q2 32 (upd (upd (q2 32) 1 (nI ((nx + 1) % 11))) 2 (nI (min (ct + 1) 10)))) nx ct δ' := by
  refine ⟨fun a ha => ?_, ?_, rfl, rfl, ⟨?_, ?_, ?_, ?_, ?_⟩, fun a a1 a2 a3 => ?_⟩
  · rw [zj_s_ne _ _ (by omega), zb a (by omega), zq1 a (by omega)]
  · rw [← hδ]; rfl
  · rw [zj_s_ne _ _ (by omega), zb _ (by omega)]; exact zq2.1
  · rw [zj_s_ne _ _ (by omega), zb _ (by omega)]; exact zq2.2.1
  · rw [zj_s_ne _ _ (by omega), zb _ (by omega)]; exact zq2.2.2.1
  · rw [zj_s_ne _ _ (by omega), zb _ (by omega)]; exact zq2.2.2.2.1
  · rw [zj_s_ne _ _ (by omega), zb _ (by omega)]; exact zq2.2.2.2.2
  · rw [zj_s_ne _ _ (by omega), zb a (by omega), zq1 a a3]
theorem zk_mk_keep2 {h q q2 : zj_H} {nx ct : Nat} {δ' : zδ} (hnx : nx < 11) (zq1 : ∀ a, (a < 34 + 4 * nx ∨ 34 + 4 * nx + 4 ≤ a) → q a = h a) (zq2 : zk_row q (34 + 4 * nx) (zδC h 13))
    (zb : ∀ a, (a < 12 ∨ 22 ≤ a) → q2 a = (zj_s q 32 (upd (upd (q 32) 1 (nI ((nx + 1) % 11))) 2 (nI (min (ct + 1) 10)))) a) (hδ : zδC q2 13 = δ') : zk_fr h q2 ∧ zk_keep h q2 nx ct δ' := by
  refine ⟨fun a ha => ?_, hδ, ?_, ?_, ⟨?_, ?_, ?_, ?_, ?_⟩, fun a a1 a2 a3 => ?_⟩
  · rw [zb a (by omega), zj_s_ne _ _ (by omega), zq1 a (by omega)]
  · rw [zb 32 (by omega)]; rfl
  · rw [zb 32 (by omega)]; rfl
  · rw [zb _ (by omega), zj_s_ne _ _ (by omega)]; exact zq2.1
  · rw [zb _ (by omega), zj_s_ne _ _ (by omega)]; exact zq2.2.1
  · rw [zb _ (by omega), zj_s_ne _ _ (by omega)]; exact zq2.2.2.1
  · rw [zb _ (by omega), zj_s_ne _ _ (by omega)]; exact zq2.2.2.2.1
  · rw [zb _ (by omega), zj_s_ne _ _ (by omega)]; exact zq2.2.2.2.2
  · rw [zb a (by omega), zj_s_ne _ _ (by omega), zq1 a a3]
theorem zk_mk_stay {h q q2 : zj_H} {nx : Nat} (hnx : nx < 11) (zq1 : ∀ a, (a < 34 + 4 * nx ∨ 34 + 4 * nx + 4 ≤ a) → q a = h a) (zb : ∀ a, (a < 12 ∨ 22 ≤ a) → q2 a = q a) (hδ : zδC q2 13 = zδC h 13) : zk_fr h q2 ∧ zk_stay h q2 nx := by
  refine ⟨fun a ha => ?_, hδ, ?_, ?_, fun a a1 a2 a3 => ?_⟩
  · rw [zb a (by omega), zq1 a (by omega)]
  · rw [zb 32 (by omega), zq1 32 (by omega)]
  · rw [zb 32 (by omega), zq1 32 (by omega)]
  · rw [zb a (by omega), zq1 a a3]
theorem zk_rfl {h : zj_H} {nx : Nat} : zk_fr h h ∧ zk_stay h h nx := ⟨fun _ _ => rfl, rfl, rfl, rfl, fun _ _ _ _ => rfl⟩
theorem zτC_congr {h q : zj_H} {J C u : Nat} (e8 : q 8 = h 8) (e9 : q 9 = h 9) (e10 : q 10 = h 10) : zτC q J C u = zτC h J C u := by unfold zτC; rw [e8, e9, e10]
theorem zq_01 {x : Int32} (h0 : ¬ x < 0) (h1 : x ≤ 1) (h2 : ¬ x = 0) : x = 1 := by
  obtain ⟨j, hj, rfl⟩ := nI_of h0
  have : j ≤ 1 := (nI_leI (b := 1) hj (by omega)).mp h1
  have : j ≠ 0 := fun e => h2 (by rw [e]; rfl)
  rw [show j = 1 by omega]; rfl
theorem zz_iff {b : Bool} {α : Type} {x y : α} (h : b = false) : (if b = true then x else y) = y := by rw [h]; rfl
theorem zz_ift {b : Bool} {α : Type} {x y : α} (h : b = true) : (if b = true then x else y) = x := by rw [h]; rfl
section ZQC
variable {h : zj_H} {J C u : Nat} {x y : Int32}
theorem zq_pair_C : zq_pair (zτC h J C u) (zδC h 13) x y = if (zz_in x J && zz_in y J && decide (¬ x = y)) = true then nI (zs_pair C (h 15) (-1) x.toNatClampNeg y.toNatClampNeg) else -1 := rfl
theorem zq_spr_C : zq_spr (zτC h J C u) (zδC h 13) x = if J < 2 then -1 else if x = 0 then zc_max2 (zq_P C (h 15)) J J - zc_min2 (zq_P C (h 15)) J J else if x = 1 then zc_max (zq_L (zτC h J C u) (zδC h 13)) 0 J - zc_min (zq_L (zτC h J C u) (zδC h 13)) 2147483647 J else -1 := rfl
theorem zq_law_C : zq_law (zτC h J C u) (zδC h 13) x = if zz_in x C = true then nI (zd_l (zθo (zτC h J C u) (zδC h 13)) x.toNatClampNeg).length else -1 := rfl
theorem zq_ben_C : zq_ben (zτC h J C u) (zδC h 13) x y = if (zz_in x C && zz_in y (zd_l (zθo (zτC h J C u) (zδC h 13)) x.toNatClampNeg).length) = true then (zd_l (zθo (zτC h J C u) (zδC h 13)) x.toNatClampNeg).getD y.toNatClampNeg 0 else -1 := rfl
theorem zq_rank_C : zq_rank (zτC h J C u) (zδC h 13) x y = if zz_in x C = true then zl_find (zd_l (zθo (zτC h J C u) (zδC h 13)) x.toNatClampNeg) y (zd_l (zθo (zτC h J C u) (zδC h 13)) x.toNatClampNeg).length else -1 := rfl
theorem zq_ten_C : zq_ten (zτC h J C u) (zδC h 13) x y = if (zz_in x C && zz_isb J y) = true then zd_t (zθo (zτC h J C u) (zδC h 13)) (h 15) x.toNatClampNeg y else -1 := rfl
theorem zq_pool_C : zq_pool (zτC h J C u) (zδC h 13) x = if zz_in x C = true then nI (zd_pool (zθo (zτC h J C u) (zδC h 13)) (h 15) x.toNatClampNeg).length else -1 := rfl
theorem zq_wor_C : zq_wor (zτC h J C u) (zδC h 13) x = if zz_in x C = true then zd_W (zθo (zτC h J C u) (zδC h 13)) (h 15) x.toNatClampNeg else -1 := rfl
theorem zq_ch_C : zq_ch (zτC h J C u) (zδC h 13) x y = if (zz_in x C && zz_in y J) = true then nI (zc_cnt (fun i => decide (zd_ts (zθo (zτC h J C u) (zδC h 13)) (h 15) x.toNatClampNeg i ≤ zd_W (zθo (zτC h J C u) (zδC h 13)) (h 15) x.toNatClampNeg) && bt ((zd_l (zθo (zτC h J C u) (zδC h 13)) x.toNatClampNeg).getD i 0) y.toNatClampNeg) (zd_l (zθo (zτC h J C u) (zδC h 13)) x.toNatClampNeg).length) else -1 := rfl
end ZQC
set_option maxHeartbeats 4000000 in
set_option maxRecDepth 20000 in
theorem m_X7_pair {l : Launch} {E : zj_E} {h : zj_H} {g : zj_G} {u : Nat} {J C : Nat} (eJ : h 8 6 = nI J) (hJ : J ≤ 9) (eC : h 8 7 = nI C) (hC : C ≤ 14) {x y : Int32} : zj_M l E yX7_pair cX7_pair 3 (some .int) 3 [.ref (E.2.1 0), .int x, .int y] h g (fun v h' g' => v = some (.int (zq_pair (zτC h J C u) (zδC h 13) x y)) ∧ g' = g ∧ zk_q h h') := by
  refine zj_M.of RX7 (by decide) rfl (Nat.le_of_ble_eq_true rfl) ?_
  intro Γ hΓ K Rt
  subst hΓ
  have hk : zj_isC 12 := Or.inl rfl
  show zj_J E Γ 3 0 [(0, .ref (E.2.1 0)), (1, .int x), (2, .int y)] [] h g
  refine zj_aload_n (i := 0) (pc := 0) K dX7_pair_0 rfl rfl ?_
  refine zj_getR (pc := 1) K lf_X7_28 hs_B rfl dX7_pair_1 ?_
  refine zj_iload_n (i := 1) (pc := 4) K dX7_pair_4 rfl rfl ?_
  refine zj_cV1I (pc := 5) K lm_X7_113 hs_D (m_X6_hasJudge (Or.inr rfl) (by assumption) (by omega)) (by decide) rfl (Nat.le_of_ble_eq_true rfl) dX7_pair_5 ?_
  refine zj_if_eq (tgt := 27) (pc := 8) K dX7_pair_8 (by decide) (fun c_8 => ?_) (fun c_8 => ?_)
  · replace c_8 := zz_i0.mp c_8
    have hno : (zz_in x J && zz_in y J && decide (¬ x = y)) = false := by rw [c_8]; rfl
    refine zj_iconst (v := -1) (pc := 27) K dX7_pair_27 (by decide) ?_
    exact zj_iret K Rt dX7_pair_28 (⟨by rw [zq_pair_C, zz_iff hno], rfl, fun _ _ _ _ _ _ _ => rfl⟩)
  · replace c_8 := zz_n0.mp c_8
    obtain ⟨i, hi, ei⟩ := zz_in_ex c_8 (by omega)
    refine zj_aload_n (i := 0) (pc := 11) K dX7_pair_11 rfl rfl ?_
    refine zj_getR (pc := 12) K lf_X7_28 hs_B rfl dX7_pair_12 ?_
    refine zj_iload_n (i := 2) (pc := 15) K dX7_pair_15 rfl rfl ?_
    refine zj_cV1I (pc := 16) K lm_X7_113 hs_D (m_X6_hasJudge (Or.inr rfl) (by assumption) (by omega)) (by decide) rfl (Nat.le_of_ble_eq_true rfl) dX7_pair_16 ?_
    refine zj_if_eq (tgt := 27) (pc := 19) K dX7_pair_19 (by decide) (fun c_19 => ?_) (fun c_19 => ?_)
    · replace c_19 := zz_i0.mp c_19
      have hno : (zz_in x J && zz_in y J && decide (¬ x = y)) = false := by rw [c_8, c_19]; rfl
      refine zj_iconst (v := -1) (pc := 27) K dX7_pair_27 (by decide) ?_
      exact zj_iret K Rt dX7_pair_28 (⟨by rw [zq_pair_C, zz_iff hno], rfl, fun _ _ _ _ _ _ _ => rfl⟩)
    · replace c_19 := zz_n0.mp c_19
      obtain ⟨j, hj, ej⟩ := zz_in_ex c_19 (by omega)
      refine zj_iload_n (i := 1) (pc := 22) K dX7_pair_22 rfl rfl ?_
      refine zj_iload_n (i := 2) (pc := 23) K dX7_pair_23 rfl rfl ?_
      refine zj_icmp_ne (tgt := 29) (pc := 24) K dX7_pair_24 (by decide) (fun c_24 => ?_) (fun c_24 => ?_)
      · have hye : (zz_in x J && zz_in y J && decide (¬ x = y)) = true := by rw [c_8, c_19, decide_eq_true c_24]; rfl
        have hij : i ≠ j := fun e => c_24 (by rw [ei, ej, e])
        refine zj_aload_n (i := 0) (pc := 29) K dX7_pair_29 rfl rfl ?_
        refine zj_getR (pc := 30) K lf_X7_37 hs_B rfl dX7_pair_30 ?_
        refine zj_iconst (v := -1) (pc := 33) K dX7_pair_33 (by decide) ?_
        refine zj_cV1P (pc := 34) K lm_X7_135 hs_C (m_X0_countBenches hk eJ hJ eC hC) (by decide) rfl (Nat.le_of_ble_eq_true rfl) dX7_pair_34 (fun v q g1 hp => ?_)
        obtain ⟨rfl, rfl, zs1, zs2, zs3⟩ := hp
        refine zj_aload_n (i := 0) (pc := 37) K dX7_pair_37 rfl rfl ?_
        refine zj_getR (pc := 38) K lf_X7_37 hs_B rfl dX7_pair_38 ?_
        refine zj_getR (pc := 41) K lf_X7_174 hs_C rfl dX7_pair_41 ?_
        refine zj_iload_n (i := 1) (pc := 44) K dX7_pair_44 rfl rfl ?_
        refine zj_iload_n (i := 2) (pc := 45) K dX7_pair_45 rfl rfl ?_
        refine zj_cS2I (pc := 46) K lm_X7_177 (m_X7_pairPlace2 ei ej (by omega) (by omega)) (by decide) rfl (Nat.le_of_ble_eq_true rfl) dX7_pair_46 ?_
        refine zj_ald (j := zz_pp i j) (pc := 49) K hs_Cp rfl (zz_pp_lt (by omega) (by omega)) (by first | decide | omega) dX7_pair_49 ?_
        exact zj_iret K Rt dX7_pair_50 (⟨by rw [zq_pair_C, zz_ift hye, zs3, zq_pp hij hi hj hJ, ei, ej, nI_clamp (by omega), nI_clamp (by omega)], rfl, fun a a1 a2 a3 a4 a5 a6 => zs1 a a3 a4⟩)
      · have hno : (zz_in x J && zz_in y J && decide (¬ x = y)) = false := by rw [c_8, c_19, decide_eq_false (fun z => z c_24)]; rfl
        refine zj_iconst (v := -1) (pc := 27) K dX7_pair_27 (by decide) ?_
        exact zj_iret K Rt dX7_pair_28 (⟨by rw [zq_pair_C, zz_iff hno], rfl, fun _ _ _ _ _ _ _ => rfl⟩)

set_option maxHeartbeats 4000000 in
set_option maxRecDepth 20000 in
theorem m_X7_spread {l : Launch} {E : zj_E} {h : zj_H} {g : zj_G} {u : Nat} {J C : Nat} (eJ : h 8 6 = nI J) (hJ : J ≤ 9) (eC : h 8 7 = nI C) (hC : C ≤ 14) {x : Int32} : zj_M l E yX7_spread cX7_spread 2 (some .int) 3 [.ref (E.2.1 0), .int x] h g (fun v h' g' => v = some (.int (zq_spr (zτC h J C u) (zδC h 13) x)) ∧ g' = g ∧ zk_q h h') := by
  refine zj_M.of RX7 (by decide) rfl (Nat.le_of_ble_eq_true rfl) ?_
  intro Γ hΓ K Rt
  subst hΓ
  have hk : zj_isC 12 := Or.inl rfl
  show zj_J E Γ 2 0 [(0, .ref (E.2.1 0)), (1, .int x)] [] h g
  refine zj_aload_n (i := 0) (pc := 0) K dX7_spread_0 rfl rfl ?_
  refine zj_getR (pc := 1) K lf_X7_28 hs_B rfl dX7_spread_1 ?_
  refine zj_getI (pc := 4) K lf_X7_91 hs_D rfl dX7_spread_4 ?_
  refine zj_iconst (v := 2) (pc := 7) K dX7_spread_7 (by decide) ?_
  refine zj_icmp_lt (tgt := 20) (pc := 8) K dX7_spread_8 (by decide) (fun c_8 => ?_) (fun c_8 => ?_)
  · have hJ2 : J < 2 := by
      rw [eJ] at c_8
      exact (nI_ltI (b := 2) (by omega) (by omega)).mp c_8
    have hno : zq_spr (zτC h J C u) (zδC h 13) x = -1 := by rw [zq_spr_C, if_pos hJ2]
    refine zj_iconst (v := -1) (pc := 20) K dX7_spread_20 (by decide) ?_
    exact zj_iret K Rt dX7_spread_21 (⟨by rw [hno], rfl, fun _ _ _ _ _ _ _ => rfl⟩)
  · have hJ2 : ¬ J < 2 := by
      rw [eJ] at c_8
      exact fun z => c_8 ((nI_ltI (b := 2) (by omega) (by omega)).mpr z)
    refine zj_iload_n (i := 1) (pc := 11) K dX7_spread_11 rfl rfl ?_
    refine zj_if_lt (tgt := 20) (pc := 12) K dX7_spread_12 (by decide) (fun c_12 => ?_) (fun c_12 => ?_)
    · have hx0 : ¬ x = 0 := fun e => by rw [e] at c_12; exact absurd c_12 (by decide)
      have hx1 : ¬ x = 1 := fun e => by rw [e] at c_12; exact absurd c_12 (by decide)
      have hno : zq_spr (zτC h J C u) (zδC h 13) x = -1 := by rw [zq_spr_C, if_neg hJ2, if_neg hx0, if_neg hx1]
      refine zj_iconst (v := -1) (pc := 20) K dX7_spread_20 (by decide) ?_
      exact zj_iret K Rt dX7_spread_21 (⟨by rw [hno], rfl, fun _ _ _ _ _ _ _ => rfl⟩)
    · refine zj_iload_n (i := 1) (pc := 15) K dX7_spread_15 rfl rfl ?_
      refine zj_iconst (v := 1) (pc := 16) K dX7_spread_16 (by decide) ?_
      refine zj_icmp_le (tgt := 22) (pc := 17) K dX7_spread_17 (by decide) (fun c_17 => ?_) (fun c_17 => ?_)
      · refine zj_aload_n (i := 0) (pc := 22) K dX7_spread_22 rfl rfl ?_
        refine zj_getR (pc := 23) K lf_X7_37 hs_B rfl dX7_spread_23 ?_
        refine zj_iconst (v := -1) (pc := 26) K dX7_spread_26 (by decide) ?_
        refine zj_cV1P (pc := 27) K lm_X7_135 hs_C (m_X0_countBenches hk eJ hJ eC hC) (by decide) rfl (Nat.le_of_ble_eq_true rfl) dX7_spread_27 (fun v q g1 hp => ?_)
        obtain ⟨rfl, rfl, zs1, zs2, zs3⟩ := hp
        have eJ2 : q 8 6 = nI J := by rw [zs1 8 (by decide) (by decide)]; exact eJ
        refine zj_iload_n (i := 1) (pc := 30) K dX7_spread_30 rfl rfl ?_
        refine zj_if_ne (tgt := 44) (pc := 31) K dX7_spread_31 (by decide) (fun c_31 => ?_) (fun c_31 => ?_)
        · have hx1 : x = 1 := zq_01 c_12 c_17 c_31
          have hLL : ∀ j, j < J → q (12 + 7) j = zq_L (zτC h J C u) (zδC h 13) j := fun j h1 => by rw [zs2, zb_Ln_val h1, if_pos (show j < 9 by omega), Int32.zero_add]; rfl
          have hye : zc_max (q (12 + 7)) 0 J - zc_min (q (12 + 7)) 2147483647 J = zq_spr (zτC h J C u) (zδC h 13) x := by rw [zq_spr_C, if_neg hJ2, if_neg c_31, if_pos hx1, zc_max_congr hLL, zc_min_congr hLL]
          refine zj_aload_n (i := 0) (pc := 44) K dX7_spread_44 rfl rfl ?_
          refine zj_getR (pc := 45) K lf_X7_37 hs_B rfl dX7_spread_45 ?_
          refine zj_cV0I (pc := 48) K lm_X7_184 hs_C (m_X0_spreadOfLoads hk eJ2 hJ) (by decide) rfl (Nat.le_of_ble_eq_true rfl) dX7_spread_48 ?_
          exact zj_iret K Rt dX7_spread_51 (⟨by rw [← hye], rfl, fun a a1 a2 a3 a4 a5 a6 => zs1 a a3 a4⟩)
        · have hPP : ∀ a c, a < c → c < J → q (12 + 6) (a * 9 + c) = zq_P C (h 15) (a * 9 + c) := fun a c h1 h2 => by rw [zs3, zb_Pn_val h1 h2 hJ, if_pos (show a * 9 + c < 81 by omega), zq_P, show (a * 9 + c) / 9 = a by omega, show (a * 9 + c) % 9 = c by omega, Int32.zero_add]
          have hye : zc_max2 (q (12 + 6)) J J - zc_min2 (q (12 + 6)) J J = zq_spr (zτC h J C u) (zδC h 13) x := by rw [zq_spr_C, if_neg hJ2, if_pos c_31, zc_max2_congr hPP, zc_min2_congr hPP]
          refine zj_aload_n (i := 0) (pc := 34) K dX7_spread_34 rfl rfl ?_
          refine zj_getR (pc := 35) K lf_X7_37 hs_B rfl dX7_spread_35 ?_
          refine zj_cV0I (pc := 38) K lm_X7_181 hs_C (m_X0_spreadOfPairs hk eJ2 hJ) (by decide) rfl (Nat.le_of_ble_eq_true rfl) dX7_spread_38 ?_
          refine zj_goto (tgt := 51) (pc := 41) K dX7_spread_41 (by decide) ?_
          exact zj_iret K Rt dX7_spread_51 (⟨by rw [← hye], rfl, fun a a1 a2 a3 a4 a5 a6 => zs1 a a3 a4⟩)
      · have hx0 : ¬ x = 0 := fun e => c_17 (by rw [e]; decide)
        have hx1 : ¬ x = 1 := fun e => c_17 (by rw [e]; decide)
        have hno : zq_spr (zτC h J C u) (zδC h 13) x = -1 := by rw [zq_spr_C, if_neg hJ2, if_neg hx0, if_neg hx1]
        refine zj_iconst (v := -1) (pc := 20) K dX7_spread_20 (by decide) ?_
        exact zj_iret K Rt dX7_spread_21 (⟨by rw [hno], rfl, fun _ _ _ _ _ _ _ => rfl⟩)

set_option maxHeartbeats 4000000 in
set_option maxRecDepth 20000 in
theorem m_X7_lawful {l : Launch} {E : zj_E} {h : zj_H} {g : zj_G} {u : Nat} {J C : Nat} (eJ : h 8 6 = nI J) (hJ : J ≤ 9) (eC : h 8 7 = nI C) (hC : C ≤ 14) {x : Int32} : zj_M l E yX7_lawful cX7_lawful 2 (some .int) 3 [.ref (E.2.1 0), .int x] h g (fun v h' g' => v = some (.int (zq_law (zτC h J C u) (zδC h 13) x)) ∧ g' = g ∧ zk_q h h') := by
  refine zj_M.of RX7 (by decide) rfl (Nat.le_of_ble_eq_true rfl) ?_
  intro Γ hΓ K Rt
  subst hΓ
  have hk : zj_isC 12 := Or.inl rfl
  show zj_J E Γ 2 0 [(0, .ref (E.2.1 0)), (1, .int x)] [] h g
  refine zj_aload_n (i := 0) (pc := 0) K dX7_lawful_0 rfl rfl ?_
  refine zj_getR (pc := 1) K lf_X7_28 hs_B rfl dX7_lawful_1 ?_
  refine zj_iload_n (i := 1) (pc := 4) K dX7_lawful_4 rfl rfl ?_
  refine zj_cV1I (pc := 5) K lm_X7_152 hs_D (m_X6_hasCase (Or.inr rfl) (by assumption) (by omega)) (by decide) rfl (Nat.le_of_ble_eq_true rfl) dX7_lawful_5 ?_
  refine zj_if_ne (tgt := 13) (pc := 8) K dX7_lawful_8 (by decide) (fun c_8 => ?_) (fun c_8 => ?_)
  · replace c_8 := zz_n0.mp c_8
    obtain ⟨c, hc, ei⟩ := zz_in_ex c_8 (by omega)
    refine zj_aload_n (i := 0) (pc := 13) K dX7_lawful_13 rfl rfl ?_
    refine zj_getR (pc := 14) K lf_X7_37 hs_B rfl dX7_lawful_14 ?_
    refine zj_iload_n (i := 1) (pc := 17) K dX7_lawful_17 rfl rfl ?_
    refine zj_cV1P (pc := 18) K lm_X7_187 hs_C (m_X0_listLawful (J := J) hk eJ hJ ei (by omega)) (by decide) rfl (Nat.le_of_ble_eq_true rfl) dX7_lawful_18 (fun v q g1 hp => ?_)
    obtain ⟨rfl, rfl, zs1, zs2, zs3⟩ := hp
    have hcl : x.toNatClampNeg = c := by rw [ei]; exact nI_clamp (by omega)
    have zs3 : zl_has q 12 7 (12 + 8) (zd_l (zθo (zτC h J C u) (zδC h 13)) c) := zs3
    have hl84 : (zd_l (zθo (zτC h J C u) (zδC h 13)) c).length ≤ 84 := zl_all_len _ hJ
    refine zj_aload_n (i := 0) (pc := 21) K dX7_lawful_21 rfl rfl ?_
    refine zj_getR (pc := 22) K lf_X7_37 hs_B rfl dX7_lawful_22 ?_
    refine zj_getI (pc := 25) K lf_X7_190 hs_C rfl dX7_lawful_25 ?_
    exact zj_iret K Rt dX7_lawful_28 (⟨by rw [zq_law_C, zz_ift c_8, hcl, zs3.1], rfl, fun a a1 a2 a3 a4 a5 a6 => zs1 a a1 a5⟩)
  · replace c_8 := zz_i0.mp c_8
    refine zj_iconst (v := -1) (pc := 11) K dX7_lawful_11 (by decide) ?_
    exact zj_iret K Rt dX7_lawful_12 (⟨by rw [zq_law_C, zz_iff c_8], rfl, fun _ _ _ _ _ _ _ => rfl⟩)

set_option maxHeartbeats 4000000 in
set_option maxRecDepth 20000 in
theorem m_X7_bench {l : Launch} {E : zj_E} {h : zj_H} {g : zj_G} {u : Nat} {J C : Nat} (eJ : h 8 6 = nI J) (hJ : J ≤ 9) (eC : h 8 7 = nI C) (hC : C ≤ 14) {x y : Int32} : zj_M l E yX7_bench cX7_bench 3 (some .int) 3 [.ref (E.2.1 0), .int x, .int y] h g (fun v h' g' => v = some (.int (zq_ben (zτC h J C u) (zδC h 13) x y)) ∧ g' = g ∧ zk_q h h') := by
  refine zj_M.of RX7 (by decide) rfl (Nat.le_of_ble_eq_true rfl) ?_
  intro Γ hΓ K Rt
  subst hΓ
  have hk : zj_isC 12 := Or.inl rfl
  show zj_J E Γ 3 0 [(0, .ref (E.2.1 0)), (1, .int x), (2, .int y)] [] h g
  refine zj_aload_n (i := 0) (pc := 0) K dX7_bench_0 rfl rfl ?_
  refine zj_getR (pc := 1) K lf_X7_28 hs_B rfl dX7_bench_1 ?_
  refine zj_iload_n (i := 1) (pc := 4) K dX7_bench_4 rfl rfl ?_
  refine zj_cV1I (pc := 5) K lm_X7_152 hs_D (m_X6_hasCase (Or.inr rfl) (by assumption) (by omega)) (by decide) rfl (Nat.le_of_ble_eq_true rfl) dX7_bench_5 ?_
  refine zj_if_ne (tgt := 13) (pc := 8) K dX7_bench_8 (by decide) (fun c_8 => ?_) (fun c_8 => ?_)
  · replace c_8 := zz_n0.mp c_8
    obtain ⟨c, hc, ei⟩ := zz_in_ex c_8 (by omega)
    refine zj_aload_n (i := 0) (pc := 13) K dX7_bench_13 rfl rfl ?_
    refine zj_getR (pc := 14) K lf_X7_37 hs_B rfl dX7_bench_14 ?_
    refine zj_iload_n (i := 1) (pc := 17) K dX7_bench_17 rfl rfl ?_
    refine zj_cV1P (pc := 18) K lm_X7_187 hs_C (m_X0_listLawful (J := J) hk eJ hJ ei (by omega)) (by decide) rfl (Nat.le_of_ble_eq_true rfl) dX7_bench_18 (fun v q g1 hp => ?_)
    obtain ⟨rfl, rfl, zs1, zs2, zs3⟩ := hp
    have hcl : x.toNatClampNeg = c := by rw [ei]; exact nI_clamp (by omega)
    have zs3 : zl_has q 12 7 (12 + 8) (zd_l (zθo (zτC h J C u) (zδC h 13)) c) := zs3
    have hl84 : (zd_l (zθo (zτC h J C u) (zδC h 13)) c).length ≤ 84 := zl_all_len _ hJ
    refine zj_iload_n (i := 2) (pc := 21) K dX7_bench_21 rfl rfl ?_
    refine zj_if_lt (tgt := 48) (pc := 22) K dX7_bench_22 (by decide) (fun c_22 => ?_) (fun c_22 => ?_)
    · have hno : (zz_in x C && zz_in y (zd_l (zθo (zτC h J C u) (zδC h 13)) x.toNatClampNeg).length) = false := by rw [zz_in_f1 c_22, Bool.and_false]
      refine zj_iconst (v := -1) (pc := 48) K dX7_bench_48 (by decide) ?_
      exact zj_iret K Rt dX7_bench_49 (by
        refine ⟨?_, rfl, fun a a1 a2 a3 a4 a5 a6 => zs1 a a1 a5⟩
        first
        | rw [zq_ben_C, zz_iff hno]
        | rw [zq_ben_C, zz_ift hye, hcl, eii, nI_clamp (by omega), ← zs3.2 i hi])
    · refine zj_iload_n (i := 2) (pc := 25) K dX7_bench_25 rfl rfl ?_
      refine zj_aload_n (i := 0) (pc := 26) K dX7_bench_26 rfl rfl ?_
      refine zj_getR (pc := 27) K lf_X7_37 hs_B rfl dX7_bench_27 ?_
      refine zj_getI (pc := 30) K lf_X7_190 hs_C rfl dX7_bench_30 ?_
      refine zj_icmp_ge (tgt := 48) (pc := 33) K dX7_bench_33 (by decide) (fun c_33 => ?_) (fun c_33 => ?_)
      · have hno : (zz_in x C && zz_in y (zd_l (zθo (zτC h J C u) (zδC h 13)) x.toNatClampNeg).length) = false := by rw [hcl, zz_in_f2 zs3.1 (by omega) c_22 c_33, Bool.and_false]
        refine zj_iconst (v := -1) (pc := 48) K dX7_bench_48 (by decide) ?_
        exact zj_iret K Rt dX7_bench_49 (by
          refine ⟨?_, rfl, fun a a1 a2 a3 a4 a5 a6 => zs1 a a1 a5⟩
          first
          | rw [zq_ben_C, zz_iff hno]
          | rw [zq_ben_C, zz_ift hye, hcl, eii, nI_clamp (by omega), ← zs3.2 i hi])
      · have hin := zz_in_t zs3.1 (by omega) c_22 c_33
        obtain ⟨i, hi, eii⟩ := zz_in_ex hin (by omega)
        have hye : (zz_in x C && zz_in y (zd_l (zθo (zτC h J C u) (zδC h 13)) x.toNatClampNeg).length) = true := by rw [c_8, hcl, hin]; rfl
        refine zj_aload_n (i := 0) (pc := 36) K dX7_bench_36 rfl rfl ?_
        refine zj_getR (pc := 37) K lf_X7_37 hs_B rfl dX7_bench_37 ?_
        refine zj_getR (pc := 40) K lf_X7_193 hs_C rfl dX7_bench_40 ?_
        refine zj_iload_n (i := 2) (pc := 43) K dX7_bench_43 rfl rfl ?_
        refine zj_ald (j := i) (pc := 44) K hs_Cn eii (by omega) (by first | decide | omega) dX7_bench_44 ?_
        refine zj_goto (tgt := 49) (pc := 45) K dX7_bench_45 (by decide) ?_
        exact zj_iret K Rt dX7_bench_49 (by
          refine ⟨?_, rfl, fun a a1 a2 a3 a4 a5 a6 => zs1 a a1 a5⟩
          first
          | rw [zq_ben_C, zz_iff hno]
          | rw [zq_ben_C, zz_ift hye, hcl, eii, nI_clamp (by omega), ← zs3.2 i hi])
  · replace c_8 := zz_i0.mp c_8
    have hno : (zz_in x C && zz_in y (zd_l (zθo (zτC h J C u) (zδC h 13)) x.toNatClampNeg).length) = false := by rw [c_8]; rfl
    refine zj_iconst (v := -1) (pc := 11) K dX7_bench_11 (by decide) ?_
    exact zj_iret K Rt dX7_bench_12 (⟨by rw [zq_ben_C, zz_iff hno], rfl, fun _ _ _ _ _ _ _ => rfl⟩)

set_option maxHeartbeats 4000000 in
set_option maxRecDepth 20000 in
theorem m_X7_rank {l : Launch} {E : zj_E} {h : zj_H} {g : zj_G} {u : Nat} {J C : Nat} (eJ : h 8 6 = nI J) (hJ : J ≤ 9) (eC : h 8 7 = nI C) (hC : C ≤ 14) {x y : Int32} : zj_M l E yX7_rank cX7_rank 3 (some .int) 3 [.ref (E.2.1 0), .int x, .int y] h g (fun v h' g' => v = some (.int (zq_rank (zτC h J C u) (zδC h 13) x y)) ∧ g' = g ∧ zk_q h h') := by
  refine zj_M.of RX7 (by decide) rfl (Nat.le_of_ble_eq_true rfl) ?_
  intro Γ hΓ K Rt
  subst hΓ
  have hk : zj_isC 12 := Or.inl rfl
  show zj_J E Γ 3 0 [(0, .ref (E.2.1 0)), (1, .int x), (2, .int y)] [] h g
  refine zj_aload_n (i := 0) (pc := 0) K dX7_rank_0 rfl rfl ?_
  refine zj_getR (pc := 1) K lf_X7_28 hs_B rfl dX7_rank_1 ?_
  refine zj_iload_n (i := 1) (pc := 4) K dX7_rank_4 rfl rfl ?_
  refine zj_cV1I (pc := 5) K lm_X7_152 hs_D (m_X6_hasCase (Or.inr rfl) (by assumption) (by omega)) (by decide) rfl (Nat.le_of_ble_eq_true rfl) dX7_rank_5 ?_
  refine zj_if_ne (tgt := 13) (pc := 8) K dX7_rank_8 (by decide) (fun c_8 => ?_) (fun c_8 => ?_)
  · replace c_8 := zz_n0.mp c_8
    obtain ⟨c, hc, ei⟩ := zz_in_ex c_8 (by omega)
    refine zj_aload_n (i := 0) (pc := 13) K dX7_rank_13 rfl rfl ?_
    refine zj_getR (pc := 14) K lf_X7_37 hs_B rfl dX7_rank_14 ?_
    refine zj_iload_n (i := 1) (pc := 17) K dX7_rank_17 rfl rfl ?_
    refine zj_cV1P (pc := 18) K lm_X7_187 hs_C (m_X0_listLawful (J := J) hk eJ hJ ei (by omega)) (by decide) rfl (Nat.le_of_ble_eq_true rfl) dX7_rank_18 (fun v q g1 hp => ?_)
    obtain ⟨rfl, rfl, zs1, zs2, zs3⟩ := hp
    have hcl : x.toNatClampNeg = c := by rw [ei]; exact nI_clamp (by omega)
    have zs3 : zl_has q 12 7 (12 + 8) (zd_l (zθo (zτC h J C u) (zδC h 13)) c) := zs3
    have hl84 : (zd_l (zθo (zτC h J C u) (zδC h 13)) c).length ≤ 84 := zl_all_len _ hJ
    refine zj_aload_n (i := 0) (pc := 21) K dX7_rank_21 rfl rfl ?_
    refine zj_getR (pc := 22) K lf_X7_37 hs_B rfl dX7_rank_22 ?_
    refine zj_iload_n (i := 2) (pc := 25) K dX7_rank_25 rfl rfl ?_
    refine zj_cV1I (pc := 26) K lm_X7_196 hs_C (m_X0_placeListed hk zs3 hl84) (by decide) rfl (Nat.le_of_ble_eq_true rfl) dX7_rank_26 ?_
    exact zj_iret K Rt dX7_rank_29 (⟨by rw [zq_rank_C, zz_ift c_8, hcl], rfl, fun a a1 a2 a3 a4 a5 a6 => zs1 a a1 a5⟩)
  · replace c_8 := zz_i0.mp c_8
    refine zj_iconst (v := -1) (pc := 11) K dX7_rank_11 (by decide) ?_
    exact zj_iret K Rt dX7_rank_12 (⟨by rw [zq_rank_C, zz_iff c_8], rfl, fun _ _ _ _ _ _ _ => rfl⟩)

set_option maxHeartbeats 4000000 in
set_option maxRecDepth 20000 in
theorem m_X7_tension {l : Launch} {E : zj_E} {h : zj_H} {g : zj_G} {u : Nat} {J C : Nat} (eJ : h 8 6 = nI J) (hJ : J ≤ 9) (eC : h 8 7 = nI C) (hC : C ≤ 14) {x y : Int32} : zj_M l E yX7_tension cX7_tension 3 (some .int) 3 [.ref (E.2.1 0), .int x, .int y] h g (fun v h' g' => v = some (.int (zq_ten (zτC h J C u) (zδC h 13) x y)) ∧ g' = g ∧ zk_q h h') := by
  refine zj_M.of RX7 (by decide) rfl (Nat.le_of_ble_eq_true rfl) ?_
  intro Γ hΓ K Rt
  subst hΓ
  have hk : zj_isC 12 := Or.inl rfl
  show zj_J E Γ 3 0 [(0, .ref (E.2.1 0)), (1, .int x), (2, .int y)] [] h g
  refine zj_aload_n (i := 0) (pc := 0) K dX7_tension_0 rfl rfl ?_
  refine zj_getR (pc := 1) K lf_X7_28 hs_B rfl dX7_tension_1 ?_
  refine zj_iload_n (i := 1) (pc := 4) K dX7_tension_4 rfl rfl ?_
  refine zj_cV1I (pc := 5) K lm_X7_152 hs_D (m_X6_hasCase (Or.inr rfl) (by assumption) (by omega)) (by decide) rfl (Nat.le_of_ble_eq_true rfl) dX7_tension_5 ?_
  refine zj_if_eq (tgt := 22) (pc := 8) K dX7_tension_8 (by decide) (fun c_8 => ?_) (fun c_8 => ?_)
  · replace c_8 := zz_i0.mp c_8
    have hno : (zz_in x C && zz_isb J y) = false := by rw [c_8]; rfl
    refine zj_iconst (v := -1) (pc := 22) K dX7_tension_22 (by decide) ?_
    exact zj_iret K Rt dX7_tension_23 (⟨by rw [zq_ten_C, zz_iff hno], rfl, fun _ _ _ _ _ _ _ => rfl⟩)
  · replace c_8 := zz_n0.mp c_8
    obtain ⟨c, hc, ei⟩ := zz_in_ex c_8 (by omega)
    have hcl : x.toNatClampNeg = c := by rw [ei]; exact nI_clamp (by omega)
    refine zj_aload_n (i := 0) (pc := 11) K dX7_tension_11 rfl rfl ?_
    refine zj_getR (pc := 12) K lf_X7_28 hs_B rfl dX7_tension_12 ?_
    refine zj_iload_n (i := 2) (pc := 15) K dX7_tension_15 rfl rfl ?_
    refine zj_cV1I (pc := 16) K lm_X7_199 hs_D (m_X6_isBench eJ hJ) (by decide) rfl (Nat.le_of_ble_eq_true rfl) dX7_tension_16 ?_
    refine zj_if_ne (tgt := 24) (pc := 19) K dX7_tension_19 (by decide) (fun c_19 => ?_) (fun c_19 => ?_)
    · replace c_19 := zz_n0.mp c_19
      have hye : (zz_in x C && zz_isb J y) = true := by rw [c_8, c_19]; rfl
      refine zj_aload_n (i := 0) (pc := 24) K dX7_tension_24 rfl rfl ?_
      refine zj_getR (pc := 25) K lf_X7_37 hs_B rfl dX7_tension_25 ?_
      refine zj_iload_n (i := 1) (pc := 28) K dX7_tension_28 rfl rfl ?_
      refine zj_cV1P (pc := 29) K lm_X7_135 hs_C (m_X0_countBenches hk eJ hJ eC hC) (by decide) rfl (Nat.le_of_ble_eq_true rfl) dX7_tension_29 (fun v q g1 hp => ?_)
      obtain ⟨rfl, rfl, zs1, zs2, zs3⟩ := hp
      have eJ2 : q 8 6 = nI J := by rw [zs1 8 (by decide) (by decide)]; exact eJ
      rw [ei] at zs2 zs3
      refine zj_aload_n (i := 0) (pc := 32) K dX7_tension_32 rfl rfl ?_
      refine zj_getR (pc := 33) K lf_X7_37 hs_B rfl dX7_tension_33 ?_
      refine zj_iload_n (i := 2) (pc := 36) K dX7_tension_36 rfl rfl ?_
      refine zj_cV1I (pc := 37) K lm_X7_202 hs_C (m_X0_tensionOf hk eJ2 hJ) (by decide) rfl (Nat.le_of_ble_eq_true rfl) dX7_tension_37 ?_
      exact zj_iret K Rt dX7_tension_40 (⟨by rw [zq_ten_C, zz_ift hye, hcl, zs1 8 (by decide) (by decide), zs_ten_of hJ zs3 zs2]; rfl, rfl, fun a a1 a2 a3 a4 a5 a6 => zs1 a a3 a4⟩)
    · replace c_19 := zz_i0.mp c_19
      have hno : (zz_in x C && zz_isb J y) = false := by rw [c_8, c_19]; rfl
      refine zj_iconst (v := -1) (pc := 22) K dX7_tension_22 (by decide) ?_
      exact zj_iret K Rt dX7_tension_23 (⟨by rw [zq_ten_C, zz_iff hno], rfl, fun _ _ _ _ _ _ _ => rfl⟩)

set_option maxHeartbeats 4000000 in
set_option maxRecDepth 20000 in
theorem m_X7_pool {l : Launch} {E : zj_E} {h : zj_H} {g : zj_G} {J C u : Nat} (eJ : h 8 6 = nI J) (hJ : J ≤ 9) (eC : h 8 7 = nI C) (hC : C ≤ 14) (eU : h 8 1 = nI u) (hU : u ≤ 20) (hT : ∀ δ si c b, 0 ≤ zd_t (zθo (zτC h J C u) δ) si c b) {x : Int32} : zj_M l E yX7_pool cX7_pool 2 (some .int) 4 [.ref (E.2.1 0), .int x] h g (fun v h' g' => v = some (.int (zq_pool (zτC h J C u) (zδC h 13) x)) ∧ g' = g ∧ zk_q h h') := by
  refine zj_M.of RX7 (by decide) rfl (Nat.le_of_ble_eq_true rfl) ?_
  intro Γ hΓ K Rt
  subst hΓ
  have hk : zj_isC 12 := Or.inl rfl
  show zj_J E Γ 2 0 [(0, .ref (E.2.1 0)), (1, .int x)] [] h g
  refine zj_aload_n (i := 0) (pc := 0) K dX7_pool_0 rfl rfl ?_
  refine zj_getR (pc := 1) K lf_X7_28 hs_B rfl dX7_pool_1 ?_
  refine zj_iload_n (i := 1) (pc := 4) K dX7_pool_4 rfl rfl ?_
  refine zj_cV1I (pc := 5) K lm_X7_152 hs_D (m_X6_hasCase (Or.inr rfl) (by assumption) (by omega)) (by decide) rfl (Nat.le_of_ble_eq_true rfl) dX7_pool_5 ?_
  refine zj_if_ne (tgt := 13) (pc := 8) K dX7_pool_8 (by decide) (fun c_8 => ?_) (fun c_8 => ?_)
  · replace c_8 := zz_n0.mp c_8
    obtain ⟨c, hc, ei⟩ := zz_in_ex c_8 (by omega)
    refine zj_aload_n (i := 0) (pc := 13) K dX7_pool_13 rfl rfl ?_
    refine zj_getR (pc := 14) K lf_X7_37 hs_B rfl dX7_pool_14 ?_
    refine zj_iload_n (i := 1) (pc := 17) K dX7_pool_17 rfl rfl ?_
    refine zj_cV1P (pc := 18) K lm_X7_205 hs_C (m_X0_gatherPool (J := J) (C := C) (u := u) hk eJ hJ eC hC eU hU (fun si c b => hT (zδC h 13) si c b) ei (by omega)) (by decide) rfl (Nat.le_of_ble_eq_true rfl) dX7_pool_18 (fun v q g1 hp => ?_)
    obtain ⟨rfl, rfl, zr1, zr2, zr3, zr4, zr5⟩ := hp
    have hcl : x.toNatClampNeg = c := by rw [ei]; exact nI_clamp (by omega)
    have zr2 : zl_has q 12 7 (12 + 8) (zd_l (zθo (zτC h J C u) (zδC h 13)) c) := zr2
    have zr3 : ∀ i, i < (zd_l (zθo (zτC h J C u) (zδC h 13)) c).length → q (12 + 9) i = zd_ts (zθo (zτC h J C u) (zδC h 13)) (h 15) c i := zr3
    have zr4 : q 12 9 = zd_W (zθo (zτC h J C u) (zδC h 13)) (h 15) c := zr4
    have zr5 : q 12 8 = nI (zd_pool (zθo (zτC h J C u) (zδC h 13)) (h 15) c).length := zr5
    refine zj_aload_n (i := 0) (pc := 21) K dX7_pool_21 rfl rfl ?_
    refine zj_getR (pc := 22) K lf_X7_37 hs_B rfl dX7_pool_22 ?_
    refine zj_getI (pc := 25) K lf_X7_208 hs_C rfl dX7_pool_25 ?_
    exact zj_iret K Rt dX7_pool_28 (⟨by rw [zq_pool_C, zz_ift c_8, hcl, zr5], rfl, fun a a1 a2 a3 a4 a5 a6 => zr1 a a1 a3 a4 a5 a6⟩)
  · replace c_8 := zz_i0.mp c_8
    refine zj_iconst (v := -1) (pc := 11) K dX7_pool_11 (by decide) ?_
    exact zj_iret K Rt dX7_pool_12 (⟨by rw [zq_pool_C, zz_iff c_8], rfl, fun _ _ _ _ _ _ _ => rfl⟩)

set_option maxHeartbeats 4000000 in
set_option maxRecDepth 20000 in
theorem m_X7_worst {l : Launch} {E : zj_E} {h : zj_H} {g : zj_G} {J C u : Nat} (eJ : h 8 6 = nI J) (hJ : J ≤ 9) (eC : h 8 7 = nI C) (hC : C ≤ 14) (eU : h 8 1 = nI u) (hU : u ≤ 20) (hT : ∀ δ si c b, 0 ≤ zd_t (zθo (zτC h J C u) δ) si c b) {x : Int32} : zj_M l E yX7_worst cX7_worst 2 (some .int) 4 [.ref (E.2.1 0), .int x] h g (fun v h' g' => v = some (.int (zq_wor (zτC h J C u) (zδC h 13) x)) ∧ g' = g ∧ zk_q h h') := by
  refine zj_M.of RX7 (by decide) rfl (Nat.le_of_ble_eq_true rfl) ?_
  intro Γ hΓ K Rt
  subst hΓ
  have hk : zj_isC 12 := Or.inl rfl
  show zj_J E Γ 2 0 [(0, .ref (E.2.1 0)), (1, .int x)] [] h g
  refine zj_aload_n (i := 0) (pc := 0) K dX7_worst_0 rfl rfl ?_
  refine zj_getR (pc := 1) K lf_X7_28 hs_B rfl dX7_worst_1 ?_
  refine zj_iload_n (i := 1) (pc := 4) K dX7_worst_4 rfl rfl ?_
  refine zj_cV1I (pc := 5) K lm_X7_152 hs_D (m_X6_hasCase (Or.inr rfl) (by assumption) (by omega)) (by decide) rfl (Nat.le_of_ble_eq_true rfl) dX7_worst_5 ?_
  refine zj_if_ne (tgt := 13) (pc := 8) K dX7_worst_8 (by decide) (fun c_8 => ?_) (fun c_8 => ?_)
  · replace c_8 := zz_n0.mp c_8
    obtain ⟨c, hc, ei⟩ := zz_in_ex c_8 (by omega)
    refine zj_aload_n (i := 0) (pc := 13) K dX7_worst_13 rfl rfl ?_
    refine zj_getR (pc := 14) K lf_X7_37 hs_B rfl dX7_worst_14 ?_
    refine zj_iload_n (i := 1) (pc := 17) K dX7_worst_17 rfl rfl ?_
    refine zj_cV1P (pc := 18) K lm_X7_205 hs_C (m_X0_gatherPool (J := J) (C := C) (u := u) hk eJ hJ eC hC eU hU (fun si c b => hT (zδC h 13) si c b) ei (by omega)) (by decide) rfl (Nat.le_of_ble_eq_true rfl) dX7_worst_18 (fun v q g1 hp => ?_)
    obtain ⟨rfl, rfl, zr1, zr2, zr3, zr4, zr5⟩ := hp
    have hcl : x.toNatClampNeg = c := by rw [ei]; exact nI_clamp (by omega)
    have zr2 : zl_has q 12 7 (12 + 8) (zd_l (zθo (zτC h J C u) (zδC h 13)) c) := zr2
    have zr3 : ∀ i, i < (zd_l (zθo (zτC h J C u) (zδC h 13)) c).length → q (12 + 9) i = zd_ts (zθo (zτC h J C u) (zδC h 13)) (h 15) c i := zr3
    have zr4 : q 12 9 = zd_W (zθo (zτC h J C u) (zδC h 13)) (h 15) c := zr4
    have zr5 : q 12 8 = nI (zd_pool (zθo (zτC h J C u) (zδC h 13)) (h 15) c).length := zr5
    refine zj_aload_n (i := 0) (pc := 21) K dX7_worst_21 rfl rfl ?_
    refine zj_getR (pc := 22) K lf_X7_37 hs_B rfl dX7_worst_22 ?_
    refine zj_getI (pc := 25) K lf_X7_214 hs_C rfl dX7_worst_25 ?_
    exact zj_iret K Rt dX7_worst_28 (⟨by rw [zq_wor_C, zz_ift c_8, hcl, zr4], rfl, fun a a1 a2 a3 a4 a5 a6 => zr1 a a1 a3 a4 a5 a6⟩)
  · replace c_8 := zz_i0.mp c_8
    refine zj_iconst (v := -1) (pc := 11) K dX7_worst_11 (by decide) ?_
    exact zj_iret K Rt dX7_worst_12 (⟨by rw [zq_wor_C, zz_iff c_8], rfl, fun _ _ _ _ _ _ _ => rfl⟩)

set_option maxHeartbeats 4000000 in
set_option maxRecDepth 20000 in
theorem m_X7_chances {l : Launch} {E : zj_E} {h : zj_H} {g : zj_G} {J C u : Nat} (eJ : h 8 6 = nI J) (hJ : J ≤ 9) (eC : h 8 7 = nI C) (hC : C ≤ 14) (eU : h 8 1 = nI u) (hU : u ≤ 20) (hT : ∀ δ si c b, 0 ≤ zd_t (zθo (zτC h J C u) δ) si c b) {x y : Int32} : zj_M l E yX7_chances cX7_chances 3 (some .int) 4 [.ref (E.2.1 0), .int x, .int y] h g (fun v h' g' => v = some (.int (zq_ch (zτC h J C u) (zδC h 13) x y)) ∧ g' = g ∧ zk_q h h') := by
  refine zj_M.of RX7 (by decide) rfl (Nat.le_of_ble_eq_true rfl) ?_
  intro Γ hΓ K Rt
  subst hΓ
  have hk : zj_isC 12 := Or.inl rfl
  show zj_J E Γ 3 0 [(0, .ref (E.2.1 0)), (1, .int x), (2, .int y)] [] h g
  refine zj_aload_n (i := 0) (pc := 0) K dX7_chances_0 rfl rfl ?_
  refine zj_getR (pc := 1) K lf_X7_28 hs_B rfl dX7_chances_1 ?_
  refine zj_iload_n (i := 1) (pc := 4) K dX7_chances_4 rfl rfl ?_
  refine zj_cV1I (pc := 5) K lm_X7_152 hs_D (m_X6_hasCase (Or.inr rfl) (by assumption) (by omega)) (by decide) rfl (Nat.le_of_ble_eq_true rfl) dX7_chances_5 ?_
  refine zj_if_eq (tgt := 22) (pc := 8) K dX7_chances_8 (by decide) (fun c_8 => ?_) (fun c_8 => ?_)
  · replace c_8 := zz_i0.mp c_8
    have hno : (zz_in x C && zz_in y J) = false := by rw [c_8]; rfl
    refine zj_iconst (v := -1) (pc := 22) K dX7_chances_22 (by decide) ?_
    exact zj_iret K Rt dX7_chances_23 (⟨by rw [zq_ch_C, zz_iff hno], rfl, fun _ _ _ _ _ _ _ => rfl⟩)
  · replace c_8 := zz_n0.mp c_8
    obtain ⟨c, hc, ei⟩ := zz_in_ex c_8 (by omega)
    refine zj_aload_n (i := 0) (pc := 11) K dX7_chances_11 rfl rfl ?_
    refine zj_getR (pc := 12) K lf_X7_28 hs_B rfl dX7_chances_12 ?_
    refine zj_iload_n (i := 2) (pc := 15) K dX7_chances_15 rfl rfl ?_
    refine zj_cV1I (pc := 16) K lm_X7_113 hs_D (m_X6_hasJudge (Or.inr rfl) (by assumption) (by omega)) (by decide) rfl (Nat.le_of_ble_eq_true rfl) dX7_chances_16 ?_
    refine zj_if_ne (tgt := 24) (pc := 19) K dX7_chances_19 (by decide) (fun c_19 => ?_) (fun c_19 => ?_)
    · replace c_19 := zz_n0.mp c_19
      obtain ⟨j, hj, ej⟩ := zz_in_ex c_19 (by omega)
      have hye : (zz_in x C && zz_in y J) = true := by rw [c_8, c_19]; rfl
      refine zj_aload_n (i := 0) (pc := 24) K dX7_chances_24 rfl rfl ?_
      refine zj_getR (pc := 25) K lf_X7_37 hs_B rfl dX7_chances_25 ?_
      refine zj_iload_n (i := 1) (pc := 28) K dX7_chances_28 rfl rfl ?_
      refine zj_cV1P (pc := 29) K lm_X7_205 hs_C (m_X0_gatherPool (J := J) (C := C) (u := u) hk eJ hJ eC hC eU hU (fun si c b => hT (zδC h 13) si c b) ei (by omega)) (by decide) rfl (Nat.le_of_ble_eq_true rfl) dX7_chances_29 (fun v q g1 hp => ?_)
      obtain ⟨rfl, rfl, zr1, zr2, zr3, zr4, zr5⟩ := hp
      have hcl : x.toNatClampNeg = c := by rw [ei]; exact nI_clamp (by omega)
      have zr2 : zl_has q 12 7 (12 + 8) (zd_l (zθo (zτC h J C u) (zδC h 13)) c) := zr2
      have zr3 : ∀ i, i < (zd_l (zθo (zτC h J C u) (zδC h 13)) c).length → q (12 + 9) i = zd_ts (zθo (zτC h J C u) (zδC h 13)) (h 15) c i := zr3
      have zr4 : q 12 9 = zd_W (zθo (zτC h J C u) (zδC h 13)) (h 15) c := zr4
      have zr5 : q 12 8 = nI (zd_pool (zθo (zτC h J C u) (zδC h 13)) (h 15) c).length := zr5
      have hl84 : (zd_l (zθo (zτC h J C u) (zδC h 13)) c).length ≤ 84 := zl_all_len _ hJ
      refine zj_aload_n (i := 0) (pc := 32) K dX7_chances_32 rfl rfl ?_
      refine zj_getR (pc := 33) K lf_X7_37 hs_B rfl dX7_chances_33 ?_
      refine zj_iload_n (i := 2) (pc := 36) K dX7_chances_36 rfl rfl ?_
      refine zj_cV1I (pc := 37) K lm_X7_211 hs_C (m_X0_pooledWith (n := (zd_l (zθo (zτC h J C u) (zδC h 13)) c).length) hk zr2.1 hl84 ej (by omega)) (by decide) rfl (Nat.le_of_ble_eq_true rfl) dX7_chances_37 ?_
      exact zj_iret K Rt dX7_chances_40 (by
        refine ⟨?_, rfl, fun a a1 a2 a3 a4 a5 a6 => zr1 a a1 a3 a4 a5 a6⟩
        have hcc : zc_cnt (fun i => decide (q (12 + 9) i ≤ q 12 9) && bt (q (12 + 8) i) j) (zd_l (zθo (zτC h J C u) (zδC h 13)) c).length = zc_cnt (fun i => decide (zd_ts (zθo (zτC h J C u) (zδC h 13)) (h 15) c i ≤ zd_W (zθo (zτC h J C u) (zδC h 13)) (h 15) c) && bt ((zd_l (zθo (zτC h J C u) (zδC h 13)) c).getD i 0) j) (zd_l (zθo (zτC h J C u) (zδC h 13)) c).length := zc_cnt_congr (fun i hi => by rw [zr3 i hi, zr4, zr2.2 i hi])
        rw [zq_ch_C, zz_ift hye, hcl, show y.toNatClampNeg = j from by rw [ej]; exact nI_clamp (by omega), hcc])
    · replace c_19 := zz_i0.mp c_19
      have hno : (zz_in x C && zz_in y J) = false := by rw [c_8, c_19]; rfl
      refine zj_iconst (v := -1) (pc := 22) K dX7_chances_22 (by decide) ?_
      exact zj_iret K Rt dX7_chances_23 (⟨by rw [zq_ch_C, zz_iff hno], rfl, fun _ _ _ _ _ _ _ => rfl⟩)
