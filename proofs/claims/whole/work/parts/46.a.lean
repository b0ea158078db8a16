theorem zm_hT {τ τ' : zτ} (ht : zτe τ τ') (hT : ∀ δ si c b, 0 ≤ zd_t (zθo τ' δ) si c b) : ∀ δ si c b, 0 ≤ zd_t (zθo τ δ) si c b := by
  intro δ si c b
  rw [zd_t_e (θ' := zθo τ' δ) (c0 := 0) (si' := si) ⟨ht.1, ht.2.1, ht.2.2.1, ht.2.2.2.1, ht.2.2.2.2.1, ht.2.2.2.2.2.1, ht.2.2.2.2.2.2.1, ht.2.2.2.2.2.2.2.1, fun b => by
    show (decide (b &&& (δ.2.2.2.2 0 ||| δ.2.1) = 0) && τ.2.2.2.2.2.2.2.2 b) = (decide (b &&& (δ.2.2.2.2 0 ||| δ.2.1) = 0) && τ'.2.2.2.2.2.2.2.2 b)
    rw [ht.2.2.2.2.2.2.2.2 b]⟩ (fun _ _ => rfl)]
  exact hT δ si c b
/-- rows that agree in what a TEXT tells and in who is AWAY or BARRED -/
theorem zm_θe {h q : zj_H} {s s' J C u c : Nat} (hJ : J ≤ 9) (hC : C ≤ 14) (hz : ∀ i, i < 61 → i ≠ 5 → q s i = h s' i) (hc : c < 14) : zθe (zθo (zτM q s J C u) (zδM q s)) (zθo (zτM h s' J C u) (zδM h s')) c := by
  have ht : zτe (zτM q s J C u) (zτM h s' J C u) := zτM_e hJ hC (fun i h1 h2 _ => hz i (by omega) h2)
  refine ⟨ht.1, ht.2.1, ht.2.2.1, ht.2.2.2.1, ht.2.2.2.2.1, ht.2.2.2.2.2.1, ht.2.2.2.2.2.2.1, ht.2.2.2.2.2.2.2.1, fun b => ?_⟩
  show (decide (b &&& (q s (47 + c) ||| q s 17) = 0) && _) = (decide (b &&& (h s' (47 + c) ||| h s' 17) = 0) && _)
  rw [hz (47 + c) (by omega) (by omega), hz 17 (by decide) (by decide)]
  exact congrArg _ (ht.2.2.2.2.2.2.2.2 b)
/-- half way: the state of before is laid aside -/
def zm_mid (h q : zj_H) : Prop := (∀ a, a ≤ 79 → a ≠ 78 → q a = h a) ∧ q 83 = h 83 ∧ (∀ i, i < 89 → q 84 i = h 80 i) ∧ q 78 2 = h 78 2 ∧ q 78 8 = h 78 8 ∧ q 78 0 = 0 ∧ q 78 17 = h 78 17
theorem zm_keep_of {h q q3 : zj_H} {ct : Nat} {row row' : Nat → Int32} (hk : zm_keep q q3 ct row) (e83 : q 83 = h 83) (er : ∀ i, i < 89 → row i = row' i) : zm_keep h q3 ct row' := ⟨hk.1, fun r i hr hi => by rw [hk.2 r i hr hi, e83, er i hi]⟩
theorem zm_mk_stay {h q : zj_H} (hm : zm_mid h q) (e80 : ∀ i, i < 89 → q 80 i = h 80 i) : zm_fr h q ∧ zm_stay h q :=
  ⟨⟨fun a ha => hm.1 a (by omega) (by omega), hm.1 79 (by decide) (by decide), hm.2.2.2.1, hm.2.2.2.2.1, hm.2.2.2.2.2.1⟩, e80, hm.2.1, hm.2.2.2.2.2.2⟩
theorem zδM_e {h q : zj_H} {s s' C : Nat} (hC : C ≤ 14) (e : ∀ i, i < 89 → q s i = h s' i) : zδe C (zδM q s) (zδM h s') :=
  ⟨e 5 (by decide), e 17 (by decide), fun c hc => e (75 + c) (by omega), fun c hc => e (61 + c) (by omega), fun c hc => e (47 + c) (by omega)⟩
theorem zm_mk_keep {C ct : Nat} {h q q3 : zj_H} {δ' : zδ} (hC : C ≤ 14) (hm : zm_mid h q) (v1 : ∀ a, a ≠ 78 → a ≠ 80 → a ≠ 83 → a ≠ 85 → q3 a = q a) (v2 : ∀ b, b ≠ 17 → q3 78 b = q 78 b) (v3 : ∀ i, i < 89 → q3 80 i = q 80 i) (v4 : zm_keep q q3 ct (q 84))
    (hst : ∀ i, i < 47 → i ≠ 5 → i ≠ 17 → q 80 i = h 80 i) (hδ : zδe C (zδM q 80) δ') : zm_fr h q3 ∧ zm_stat h q3 ∧ zδe C (zδM q3 80) δ' ∧ zm_keep h q3 ct (h 80) :=
  ⟨⟨fun a ha => by rw [v1 a (by omega) (by omega) (by omega) (by omega)]; exact hm.1 a (by omega) (by omega), by rw [v1 79 (by decide) (by decide) (by decide) (by decide)]; exact hm.1 79 (by decide) (by decide), by rw [v2 2 (by decide)]; exact hm.2.2.2.1, by rw [v2 8 (by decide)]; exact hm.2.2.2.2.1, by rw [v2 0 (by decide)]; exact hm.2.2.2.2.2.1⟩,
   fun i h1 h2 h3 => by rw [v3 i (by omega)]; exact hst i h1 h2 h3, (zδM_e hC v3).tr hδ, zm_keep_of v4 hm.2.1 hm.2.2.1⟩
set_option maxHeartbeats 4000000 in
set_option maxRecDepth 20000 in
theorem m_X8_drawsAll {l : Launch} {E : zj_E} {h : zj_H} {g : zj_G} {s J C u : Nat} (hr : zm_row s) (eJ : h s 7 = nI J) (hJ : J ≤ 9) (eC : h s 18 = nI C) (hC : C ≤ 14) (eU : h s 0 = nI u) (hU : u ≤ 20) (hT : ∀ δ si c b, 0 ≤ zd_t (zθo (zτM h s J C u) δ) si c b) : zj_M l E yX8_drawsAll cX8_drawsAll 4 (some .int) 6 [.ref (E.2.1 78), .ref (E.2.1 s)] h g (fun v h' g' => v = some (.int (nI (zd_all (zθo (zτM h s J C u) (zδM h s)) (h s 5) (zmT h s) (zmB h s) C).1)) ∧ g' = g ∧ ((∀ a, a ≠ 78 → a ≠ 86 → a ≠ 87 → a ≠ s → h' a = h a) ∧ (∀ b, b ≠ 20 → b ≠ 21 → b ≠ 22 → h' 78 b = h 78 b)) ∧ (∀ i, i < 61 → i ≠ 5 → h' s i = h s i) ∧ zδe C (zδM h' s) (zo_all (zτM h s J C u) (zδM h s)).2 ∧ ((zd_all (zθo (zτM h s J C u) (zδM h s)) (h s 5) (zmT h s) (zmB h s) C).1 = 0 → h' s = h s)) := by
  refine zj_M.of RX8 (by decide) rfl (Nat.le_of_ble_eq_true rfl) ?_
  intro Γ hΓ K Rt
  subst hΓ
  have hs_s := zm_rs hr
  obtain ⟨hr1, hr2⟩ := zm_rn hr
  have loop : ∀ (m i : Nat) (x2 x3 : Int32) (q : zj_H), C + 1 ≤ i + m → i ≤ C → (x2 = nI (zd_all (zθo (zτM h s J C u) (zδM h s)) (h s 5) (zmT h s) (zmB h s) i).1) → (x3 = nI i) → ((∀ a, a ≠ 78 → a ≠ 86 → a ≠ 87 → a ≠ s → q a = h a) ∧ (∀ b, b ≠ 20 → b ≠ 21 → b ≠ 22 → q 78 b = h 78 b)) → (∀ i, i < 61 → i ≠ 5 → q s i = h s i) → (q s 5 = (zd_all (zθo (zτM h s J C u) (zδM h s)) (h s 5) (zmT h s) (zmB h s) i).2.1) → (∀ k, k < C → q s (75 + k) = (zd_all (zθo (zτM h s J C u) (zδM h s)) (h s 5) (zmT h s) (zmB h s) i).2.2.1 k) → (∀ k, k < C → q s (61 + k) = (zd_all (zθo (zτM h s J C u) (zδM h s)) (h s 5) (zmT h s) (zmB h s) i).2.2.2 k) → ((zd_all (zθo (zτM h s J C u) (zδM h s)) (h s 5) (zmT h s) (zmB h s) i).1 = 0 → q s = h s) → zj_J E Γ 4 4 [(0, .ref (E.2.1 78)), (1, .ref (E.2.1 s)), (2, .int x2), (3, .int x3)] [] q g := by
    intro m
    induction m with
    | zero => intro i x2 x3 q  h1 h2; omega
    | succ m ih =>
      intro i x2 x3 q  h1 h2 e2 e3 zf1 zf2 zf3 zf4 zf5 zf6
      have eCq : q s 18 = nI C := by rw [zf2 18 (by decide) (by decide)]; exact eC
      have eJq : q s 7 = nI J := by rw [zf2 7 (by decide) (by decide)]; exact eJ
      have eUq : q s 0 = nI u := by rw [zf2 0 (by decide) (by decide)]; exact eU
      have hTq := zm_hT (zτM_e (u := u) hJ hC (fun i h1 h2 _ => zf2 i (by omega) h2)) hT
      have hle := zd_all_le (zθo (zτM h s J C u) (zδM h s)) (h s 5) (zmT h s) (zmB h s) i
      refine zj_iload_n (i := 3) (pc := 4) K dX8_drawsAll_4 rfl rfl ?_
      refine zj_aload_n (i := 1) (pc := 5) K dX8_drawsAll_5 rfl rfl ?_
      refine zj_bipush (v := 18) (pc := 6) K dX8_drawsAll_6 (by decide) ?_
      refine zj_ald (j := 18) (pc := 8) K hs_s rfl (by decide) (by first | decide | omega) dX8_drawsAll_8 ?_
      refine zj_icmp_ge (tgt := 39) (pc := 9) K dX8_drawsAll_9 (by decide) (fun c_9 => ?_) (fun c_9 => ?_)
      · have hi : i = C := Nat.le_antisymm h2 (zz_ge e3 eCq (by omega) (by omega) c_9)
        refine zj_iload_n (i := 2) (pc := 39) K dX8_drawsAll_39 rfl rfl ?_
        exact zj_iret K Rt dX8_drawsAll_40 (by
          subst hi
          exact ⟨by rw [e2], rfl, zf1, zf2, ⟨zf3, zf2 17 (by decide) (by decide), zf4, zf5, fun c hc => zf2 (47 + c) (by omega) (by omega)⟩, zf6⟩)
      · have hi : i < C := zz_nge e3 eCq (by omega) (by omega) c_9
        refine zj_aload_n (i := 1) (pc := 12) K dX8_drawsAll_12 rfl rfl ?_
        refine zj_bipush (v := 75) (pc := 13) K dX8_drawsAll_13 (by decide) ?_
        refine zj_iload_n (i := 3) (pc := 15) K dX8_drawsAll_15 rfl rfl ?_
        refine zj_iadd (pc := 16) K dX8_drawsAll_16 ?_
        refine zj_ald (j := 75 + i) (pc := 17) K hs_s (zm_ix rfl e3) (by omega) (by first | decide | omega) dX8_drawsAll_17 ?_
        refine zj_if_ne (tgt := 33) (pc := 18) K dX8_drawsAll_18 (by decide) (fun c_18 => ?_) (fun c_18 => ?_)
        · rw [zf4 i hi] at c_18
          have hA : (zd_all (zθo (zτM h s J C u) (zδM h s)) (h s 5) (zmT h s) (zmB h s) (i + 1)) = (zd_all (zθo (zτM h s J C u) (zδM h s)) (h s 5) (zmT h s) (zmB h s) i) := by rw [zd_all, if_neg (fun z => c_18 z.1)]
          refine zj_iinc (v := 1) (pc := 33) K dX8_drawsAll_33 rfl (by decide) rfl rfl rfl ?_
          refine zj_goto (tgt := 4) (pc := 36) K dX8_drawsAll_36 (by decide) ?_
          refine zj_pick [0, 1, 2, 3] ?_
          first
          | exact ih (i + 1) _ _ _ (by omega) (by omega) (by rw [hA]; exact e2) (zz_up e3) zf1 zf2 (by rw [hA]; exact zf3) (by rw [hA]; exact zf4) (by rw [hA]; exact zf5) (by rw [hA]; exact zf6)
          | exact ih (i + 1) _ _ _ (by omega) (by omega) (by rw [hA]; exact e2) (zz_up e3) zg1 (by rw [y2]; exact zf2) (by rw [hA, y2]; exact zf3) (by rw [hA, y2]; exact zf4) (by rw [hA, y2]; exact zf5) (by rw [hA, y2]; exact zf6)
          | (refine ih (i + 1) _ _ _ (by omega) (by omega) (by rw [hB]; exact zz_up e2) (zz_up e3) zg1 (fun k k1 k2 => ?_) ?_ (fun k hk => ?_) (fun k hk => ?_) (by rw [hB]; intro z; cases z)
             · rw [y2, zz_upd_ne _ _ (by omega), zz_upd_ne _ _ (by omega), zz_upd_ne _ _ k2]; exact zf2 k k1 k2
             · rw [y2, hB, zz_upd_ne _ _ (by omega), zz_upd_ne _ _ (by omega), zz_upd_at]
             · rw [y2, hB]
               by_cases ek : k = i
               · rw [ek, zz_upd_at]; exact (zz_upd_at _ _ _).symm
               · rw [zz_upd_ne _ _ (by omega), zz_upd_ne _ _ (by omega), zz_upd_ne _ _ (by omega), zf4 k hk]; exact (zz_upd_ne _ _ ek).symm
             · rw [y2, hB]
               by_cases ek : k = i
               · rw [ek, zz_upd_ne _ _ (by omega), zz_upd_at]; exact (zz_upd_at _ _ _).symm
               · rw [zz_upd_ne _ _ (by omega), zz_upd_ne _ _ (by omega), zz_upd_ne _ _ (by omega), zf5 k hk]; exact (zz_upd_ne _ _ ek).symm)
        · rw [zf4 i hi] at c_18
          refine zj_aload_n (i := 0) (pc := 21) K dX8_drawsAll_21 rfl rfl ?_
          refine zj_aload_n (i := 1) (pc := 22) K dX8_drawsAll_22 rfl rfl ?_
          refine zj_iload_n (i := 3) (pc := 23) K dX8_drawsAll_23 rfl rfl ?_
          refine zj_cV2P (pc := 24) K lm_X8_197 hs_M (m_X8_draws hr eJq hJ eCq hC eUq hU hTq e3 (by omega)) (by decide) rfl (Nat.le_of_ble_eq_true rfl) dX8_drawsAll_24 (fun v q2 g2 hp => ?_)
          obtain ⟨rfl, ⟨zs1, zs2⟩, zs3⟩ := hp
          have ep : (zd_pool (zθo (zτM q s J C u) (zδM q s)) (zmB q s) i) = (zd_pool (zθo (zτM h s J C u) (zδM h s)) (zd_all (zθo (zτM h s J C u) (zδM h s)) (h s 5) (zmT h s) (zmB h s) i).2.2.2 i) := zd_pool_e (zm_θe hJ hC zf2 (by omega)) (fun k hk => zf5 k hk)
          rw [ep, zf3] at zs3
          obtain ⟨b, rfl, hb⟩ : ∃ b, v = some (.int (zz_i b)) ∧ (b = false ∧ (zd_pool (zθo (zτM h s J C u) (zδM h s)) (zd_all (zθo (zτM h s J C u) (zδM h s)) (h s 5) (zmT h s) (zmB h s) i).2.2.2 i) = [] ∧ q2 s = q s ∨ b = true ∧ (zd_pool (zθo (zτM h s J C u) (zδM h s)) (zd_all (zθo (zτM h s J C u) (zδM h s)) (h s 5) (zmT h s) (zmB h s) i).2.2.2 i) ≠ [] ∧ q2 s = upd (upd (upd (q s) 5 (zd_seed (zd_all (zθo (zτM h s J C u) (zδM h s)) (h s 5) (zmT h s) (zmB h s) i).2.1)) (61 + i) ((zd_pool (zθo (zτM h s J C u) (zδM h s)) (zd_all (zθo (zτM h s J C u) (zδM h s)) (h s 5) (zmT h s) (zmB h s) i).2.2.2 i).getD (zp_ix (zd_seed (zd_all (zθo (zτM h s J C u) (zδM h s)) (h s 5) (zmT h s) (zmB h s) i).2.1) (zd_pool (zθo (zτM h s J C u) (zδM h s)) (zd_all (zθo (zτM h s J C u) (zδM h s)) (h s 5) (zmT h s) (zmB h s) i).2.2.2 i).length) 0)) (75 + i) 1) := by
            rcases zs3 with ⟨y1, y2, y3⟩ | ⟨y1, y2, y3⟩
            · exact ⟨false, y2, Or.inl ⟨rfl, y1, y3⟩⟩
            · exact ⟨true, y2, Or.inr ⟨rfl, y1, y3⟩⟩
          have zg1 : ((∀ a, a ≠ 78 → a ≠ 86 → a ≠ 87 → a ≠ s → q2 a = h a) ∧ (∀ b, b ≠ 20 → b ≠ 21 → b ≠ 22 → q2 78 b = h 78 b)) := ⟨fun a a1 a2 a3 a4 => by rw [zs1 a a1 a2 a3 a4]; exact zf1.1 a a1 a2 a3 a4, fun b b1 b2 b3 => by rw [zs2 b b1 b2 b3]; exact zf1.2 b b1 b2 b3⟩
          refine zj_if_eq (tgt := 33) (pc := 27) K dX8_drawsAll_27 (by decide) (fun c_27 => ?_) (fun c_27 => ?_)
          · replace c_27 := zz_i0.mp c_27
            obtain ⟨-, y1, y2⟩ := hb.resolve_right (fun z => by rw [z.1] at c_27; cases c_27)
            have hA : (zd_all (zθo (zτM h s J C u) (zδM h s)) (h s 5) (zmT h s) (zmB h s) (i + 1)) = (zd_all (zθo (zτM h s J C u) (zδM h s)) (h s 5) (zmT h s) (zmB h s) i) := by rw [zd_all, if_neg (fun z => z.2 y1)]
            refine zj_iinc (v := 1) (pc := 33) K dX8_drawsAll_33 rfl (by decide) rfl rfl rfl ?_
            refine zj_goto (tgt := 4) (pc := 36) K dX8_drawsAll_36 (by decide) ?_
            refine zj_pick [0, 1, 2, 3] ?_
            first
            | exact ih (i + 1) _ _ _ (by omega) (by omega) (by rw [hA]; exact e2) (zz_up e3) zf1 zf2 (by rw [hA]; exact zf3) (by rw [hA]; exact zf4) (by rw [hA]; exact zf5) (by rw [hA]; exact zf6)
            | exact ih (i + 1) _ _ _ (by omega) (by omega) (by rw [hA]; exact e2) (zz_up e3) zg1 (by rw [y2]; exact zf2) (by rw [hA, y2]; exact zf3) (by rw [hA, y2]; exact zf4) (by rw [hA, y2]; exact zf5) (by rw [hA, y2]; exact zf6)
            | (refine ih (i + 1) _ _ _ (by omega) (by omega) (by rw [hB]; exact zz_up e2) (zz_up e3) zg1 (fun k k1 k2 => ?_) ?_ (fun k hk => ?_) (fun k hk => ?_) (by rw [hB]; intro z; cases z)
               · rw [y2, zz_upd_ne _ _ (by omega), zz_upd_ne _ _ (by omega), zz_upd_ne _ _ k2]; exact zf2 k k1 k2
               · rw [y2, hB, zz_upd_ne _ _ (by omega), zz_upd_ne _ _ (by omega), zz_upd_at]
               · rw [y2, hB]
                 by_cases ek : k = i
                 · rw [ek, zz_upd_at]; exact (zz_upd_at _ _ _).symm
                 · rw [zz_upd_ne _ _ (by omega), zz_upd_ne _ _ (by omega), zz_upd_ne _ _ (by omega), zf4 k hk]; exact (zz_upd_ne _ _ ek).symm
               · rw [y2, hB]
                 by_cases ek : k = i
                 · rw [ek, zz_upd_ne _ _ (by omega), zz_upd_at]; exact (zz_upd_at _ _ _).symm
                 · rw [zz_upd_ne _ _ (by omega), zz_upd_ne _ _ (by omega), zz_upd_ne _ _ (by omega), zf5 k hk]; exact (zz_upd_ne _ _ ek).symm)
          · replace c_27 := zz_n0.mp c_27
            obtain ⟨-, y1, y2⟩ := hb.resolve_left (fun z => by rw [z.1] at c_27; cases c_27)
            have hB : (zd_all (zθo (zτM h s J C u) (zδM h s)) (h s 5) (zmT h s) (zmB h s) (i + 1)) = ((zd_all (zθo (zτM h s J C u) (zδM h s)) (h s 5) (zmT h s) (zmB h s) i).1 + 1, zd_seed (zd_all (zθo (zτM h s J C u) (zδM h s)) (h s 5) (zmT h s) (zmB h s) i).2.1, upd (zd_all (zθo (zτM h s J C u) (zδM h s)) (h s 5) (zmT h s) (zmB h s) i).2.2.1 i 1, upd (zd_all (zθo (zτM h s J C u) (zδM h s)) (h s 5) (zmT h s) (zmB h s) i).2.2.2 i ((zd_pool (zθo (zτM h s J C u) (zδM h s)) (zd_all (zθo (zτM h s J C u) (zδM h s)) (h s 5) (zmT h s) (zmB h s) i).2.2.2 i).getD (zp_ix (zd_seed (zd_all (zθo (zτM h s J C u) (zδM h s)) (h s 5) (zmT h s) (zmB h s) i).2.1) (zd_pool (zθo (zτM h s J C u) (zδM h s)) (zd_all (zθo (zτM h s J C u) (zδM h s)) (h s 5) (zmT h s) (zmB h s) i).2.2.2 i).length) 0)) := by rw [zd_all, if_pos ⟨c_18, y1⟩]
            refine zj_iinc (v := 1) (pc := 30) K dX8_drawsAll_30 rfl (by decide) rfl rfl rfl ?_
            refine zj_iinc (v := 1) (pc := 33) K dX8_drawsAll_33 rfl (by decide) rfl rfl rfl ?_
            refine zj_goto (tgt := 4) (pc := 36) K dX8_drawsAll_36 (by decide) ?_
            refine zj_pick [0, 1, 2, 3] ?_
            first
            | exact ih (i + 1) _ _ _ (by omega) (by omega) (by rw [hA]; exact e2) (zz_up e3) zf1 zf2 (by rw [hA]; exact zf3) (by rw [hA]; exact zf4) (by rw [hA]; exact zf5) (by rw [hA]; exact zf6)
            | exact ih (i + 1) _ _ _ (by omega) (by omega) (by rw [hA]; exact e2) (zz_up e3) zg1 (by rw [y2]; exact zf2) (by rw [hA, y2]; exact zf3) (by rw [hA, y2]; exact zf4) (by rw [hA, y2]; exact zf5) (by rw [hA, y2]; exact zf6)
            | (refine ih (i + 1) _ _ _ (by omega) (by omega) (by rw [hB]; exact zz_up e2) (zz_up e3) zg1 (fun k k1 k2 => ?_) ?_ (fun k hk => ?_) (fun k hk => ?_) (by rw [hB]; intro z; cases z)
               · rw [y2, zz_upd_ne _ _ (by omega), zz_upd_ne _ _ (by omega), zz_upd_ne _ _ k2]; exact zf2 k k1 k2
               · rw [y2, hB, zz_upd_ne _ _ (by omega), zz_upd_ne _ _ (by omega), zz_upd_at]
               · rw [y2, hB]
                 by_cases ek : k = i
                 · rw [ek, zz_upd_at]; exact (zz_upd_at _ _ _).symm
                 · rw [zz_upd_ne _ _ (by omega), zz_upd_ne _ _ (by omega), zz_upd_ne _ _ (by omega), zf4 k hk]; exact (zz_upd_ne _ _ ek).symm
               · rw [y2, hB]
                 by_cases ek : k = i
                 · rw [ek, zz_upd_ne _ _ (by omega), zz_upd_at]; exact (zz_upd_at _ _ _).symm
                 · rw [zz_upd_ne _ _ (by omega), zz_upd_ne _ _ (by omega), zz_upd_ne _ _ (by omega), zf5 k hk]; exact (zz_upd_ne _ _ ek).symm)
  show zj_J E Γ 4 0 [(0, .ref (E.2.1 78)), (1, .ref (E.2.1 s))] [] h g
  refine zj_iconst (v := 0) (pc := 0) K dX8_drawsAll_0 (by decide) ?_
  refine zj_istore_n (i := 2) (pc := 1) K dX8_drawsAll_1 rfl rfl rfl rfl ?_
  refine zj_iconst (v := 0) (pc := 2) K dX8_drawsAll_2 (by decide) ?_
  refine zj_istore_n (i := 3) (pc := 3) K dX8_drawsAll_3 rfl rfl rfl rfl ?_
  exact loop (C + 1) 0 _ _ h (by omega) (by omega) rfl rfl ⟨fun _ _ _ _ _ => rfl, fun _ _ _ _ => rfl⟩ (fun _ _ _ => rfl) rfl (fun _ _ => rfl) (fun _ _ => rfl) (fun _ => rfl)
