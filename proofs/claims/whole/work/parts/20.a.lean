-- has(bits, judge)
set_option maxHeartbeats 4000000 in
set_option maxRecDepth 20000 in
theorem m_X7_has {l : Launch} {E : zj_E} {h : zj_H} {g : zj_G} {b x : Int32} {j : Nat} (ex : x = nI j) (hj : j < 32) : zj_M l E yX7_has cX7_has 2 (some .boolean) 0 [.int b, .int x] h g (zj_pI (zz_i (bt b j)) h g) := by
  refine zj_M.of RX7 (by decide) rfl (Nat.le_of_ble_eq_true rfl) ?_
  intro Γ hΓ K Rt
  subst hΓ
  show zj_J E Γ 2 0 [(0, .int b), (1, .int x)] [] h g
  refine zj_iload_n (i := 0) (pc := 0) K dX7_has_0 rfl rfl ?_
  refine zj_iload_n (i := 1) (pc := 1) K dX7_has_1 rfl rfl ?_
  refine zj_ishr (pc := 2) K dX7_has_2 ?_
  refine zj_iconst (v := 1) (pc := 3) K dX7_has_3 (by decide) ?_
  refine zj_iand (pc := 4) K dX7_has_4 ?_
  refine zj_top (zz_shr ex hj) ?_
  refine zj_if_eq (tgt := 12) (pc := 5) K dX7_has_5 (by decide) (fun c_5 => ?_) (fun c_5 => ?_)
  · replace c_5 := zz_i0.mp c_5
    refine zj_iconst (v := 0) (pc := 12) K dX7_has_12 (by decide) ?_
    exact zj_zret K Rt dX7_has_13 (by decide) (⟨by rw [c_5]; rfl, rfl, rfl⟩)
  · replace c_5 := zz_n0.mp c_5
    refine zj_iconst (v := 1) (pc := 8) K dX7_has_8 (by decide) ?_
    refine zj_goto (tgt := 13) (pc := 9) K dX7_has_9 (by decide) ?_
    exact zj_zret K Rt dX7_has_13 (by decide) (⟨by rw [c_5]; rfl, rfl, rfl⟩)

set_option maxHeartbeats 4000000 in
set_option maxRecDepth 20000 in
theorem m_X7_pairPlace {l : Launch} {E : zj_E} {h : zj_H} {g : zj_G} {x y : Int32} {a b : Nat} (ex : x = nI a) (ey : y = nI b) (hab : a < b) (hb : b < 9) : zj_M l E yX7_pairPlace cX7_pairPlace 2 (some .int) 0 [.int x, .int y] h g (zj_pI (nI (a * 9 + b)) h g) := by
  refine zj_M.of RX7 (by decide) rfl (Nat.le_of_ble_eq_true rfl) ?_
  intro Γ hΓ K Rt
  subst hΓ
  show zj_J E Γ 2 0 [(0, .int x), (1, .int y)] [] h g
  refine zj_iload_n (i := 0) (pc := 0) K dX7_pairPlace_0 rfl rfl ?_
  refine zj_iload_n (i := 1) (pc := 1) K dX7_pairPlace_1 rfl rfl ?_
  refine zj_icmp_ge (tgt := 14) (pc := 2) K dX7_pairPlace_2 (by decide) (fun c_2 => ?_) (fun c_2 => ?_)
  · exact absurd c_2 (by rw [ex, ey]; exact nI_ge hab (by omega))
  · refine zj_iload_n (i := 0) (pc := 5) K dX7_pairPlace_5 rfl rfl ?_
    refine zj_bipush (v := 9) (pc := 6) K dX7_pairPlace_6 (by decide) ?_
    refine zj_imul (pc := 8) K dX7_pairPlace_8 ?_
    refine zj_iload_n (i := 1) (pc := 9) K dX7_pairPlace_9 rfl rfl ?_
    refine zj_iadd (pc := 10) K dX7_pairPlace_10 ?_
    refine zj_goto (tgt := 20) (pc := 11) K dX7_pairPlace_11 (by decide) ?_
    exact zj_iret K Rt dX7_pairPlace_20 (⟨by rw [ex, ey, ← nI_add, ← pk_mul]; rfl, rfl, rfl⟩)

set_option maxHeartbeats 4000000 in
set_option maxRecDepth 20000 in
theorem m_X6_hasJudge {l : Launch} {E : zj_E} {h : zj_H} {g : zj_G} {t n : Nat} (ht : zj_isT t) {x : Int32} (en : h t 6 = nI n) (hn : n ≤ 1000) : zj_M l E yX6_hasJudge cX6_hasJudge 2 (some .boolean) 0 [.ref (E.2.1 t), .int x] h g (zj_pI (zz_i (zz_in x n)) h g) := by
  refine zj_M.of RX6 (by decide) rfl (Nat.le_of_ble_eq_true rfl) ?_
  intro Γ hΓ K Rt
  subst hΓ
  obtain ⟨hs_D, hs_Ds, hs_Dw, hs_Db⟩ := zj_shT ht
  show zj_J E Γ 2 0 [(0, .ref (E.2.1 t)), (1, .int x)] [] h g
  refine zj_iload_n (i := 1) (pc := 0) K dX6_hasJudge_0 rfl rfl ?_
  refine zj_if_lt (tgt := 16) (pc := 1) K dX6_hasJudge_1 (by decide) (fun c_1 => ?_) (fun c_1 => ?_)
  · refine zj_iconst (v := 0) (pc := 16) K dX6_hasJudge_16 (by decide) ?_
    exact zj_zret K Rt dX6_hasJudge_17 (by decide) (⟨by first | (rw [zz_in_f1 c_1]; rfl) | (rw [zz_in_f2 en hn c_1 c_9]; rfl) | (rw [zz_in_t en hn c_1 c_9]; rfl), rfl, rfl⟩)
  · refine zj_iload_n (i := 1) (pc := 4) K dX6_hasJudge_4 rfl rfl ?_
    refine zj_aload_n (i := 0) (pc := 5) K dX6_hasJudge_5 rfl rfl ?_
    refine zj_getI (pc := 6) K lf_X6_40 hs_D rfl dX6_hasJudge_6 ?_
    refine zj_icmp_ge (tgt := 16) (pc := 9) K dX6_hasJudge_9 (by decide) (fun c_9 => ?_) (fun c_9 => ?_)
    · refine zj_iconst (v := 0) (pc := 16) K dX6_hasJudge_16 (by decide) ?_
      exact zj_zret K Rt dX6_hasJudge_17 (by decide) (⟨by first | (rw [zz_in_f1 c_1]; rfl) | (rw [zz_in_f2 en hn c_1 c_9]; rfl) | (rw [zz_in_t en hn c_1 c_9]; rfl), rfl, rfl⟩)
    · refine zj_iconst (v := 1) (pc := 12) K dX6_hasJudge_12 (by decide) ?_
      refine zj_goto (tgt := 17) (pc := 13) K dX6_hasJudge_13 (by decide) ?_
      exact zj_zret K Rt dX6_hasJudge_17 (by decide) (⟨by first | (rw [zz_in_f1 c_1]; rfl) | (rw [zz_in_f2 en hn c_1 c_9]; rfl) | (rw [zz_in_t en hn c_1 c_9]; rfl), rfl, rfl⟩)

set_option maxHeartbeats 4000000 in
set_option maxRecDepth 20000 in
theorem m_X6_hasCase {l : Launch} {E : zj_E} {h : zj_H} {g : zj_G} {t n : Nat} (ht : zj_isT t) {x : Int32} (en : h t 7 = nI n) (hn : n ≤ 1000) : zj_M l E yX6_hasCase cX6_hasCase 2 (some .boolean) 0 [.ref (E.2.1 t), .int x] h g (zj_pI (zz_i (zz_in x n)) h g) := by
  refine zj_M.of RX6 (by decide) rfl (Nat.le_of_ble_eq_true rfl) ?_
  intro Γ hΓ K Rt
  subst hΓ
  obtain ⟨hs_D, hs_Ds, hs_Dw, hs_Db⟩ := zj_shT ht
  show zj_J E Γ 2 0 [(0, .ref (E.2.1 t)), (1, .int x)] [] h g
  refine zj_iload_n (i := 1) (pc := 0) K dX6_hasCase_0 rfl rfl ?_
  refine zj_if_lt (tgt := 16) (pc := 1) K dX6_hasCase_1 (by decide) (fun c_1 => ?_) (fun c_1 => ?_)
  · refine zj_iconst (v := 0) (pc := 16) K dX6_hasCase_16 (by decide) ?_
    exact zj_zret K Rt dX6_hasCase_17 (by decide) (⟨by first | (rw [zz_in_f1 c_1]; rfl) | (rw [zz_in_f2 en hn c_1 c_9]; rfl) | (rw [zz_in_t en hn c_1 c_9]; rfl), rfl, rfl⟩)
  · refine zj_iload_n (i := 1) (pc := 4) K dX6_hasCase_4 rfl rfl ?_
    refine zj_aload_n (i := 0) (pc := 5) K dX6_hasCase_5 rfl rfl ?_
    refine zj_getI (pc := 6) K lf_X6_43 hs_D rfl dX6_hasCase_6 ?_
    refine zj_icmp_ge (tgt := 16) (pc := 9) K dX6_hasCase_9 (by decide) (fun c_9 => ?_) (fun c_9 => ?_)
    · refine zj_iconst (v := 0) (pc := 16) K dX6_hasCase_16 (by decide) ?_
      exact zj_zret K Rt dX6_hasCase_17 (by decide) (⟨by first | (rw [zz_in_f1 c_1]; rfl) | (rw [zz_in_f2 en hn c_1 c_9]; rfl) | (rw [zz_in_t en hn c_1 c_9]; rfl), rfl, rfl⟩)
    · refine zj_iconst (v := 1) (pc := 12) K dX6_hasCase_12 (by decide) ?_
      refine zj_goto (tgt := 17) (pc := 13) K dX6_hasCase_13 (by decide) ?_
      exact zj_zret K Rt dX6_hasCase_17 (by decide) (⟨by first | (rw [zz_in_f1 c_1]; rfl) | (rw [zz_in_f2 en hn c_1 c_9]; rfl) | (rw [zz_in_t en hn c_1 c_9]; rfl), rfl, rfl⟩)

set_option maxHeartbeats 4000000 in
set_option maxRecDepth 20000 in
theorem m_X6_presiding {l : Launch} {E : zj_E} {h : zj_H} {g : zj_G} {t J : Nat} (ht : zj_isT t) {b : Int32} (eJ : h t 6 = nI J) (hJ : J ≤ 9) : zj_M l E yX6_presiding cX6_presiding 4 (some .int) 1 [.ref (E.2.1 t), .int b] h g (zj_pI (zc_opt (zc_pre (h (t + 1)) b J)) h g) := by
  refine zj_M.of RX6 (by decide) rfl (Nat.le_of_ble_eq_true rfl) ?_
  intro Γ hΓ K Rt
  subst hΓ
  obtain ⟨hs_D, hs_Ds, hs_Dw, hs_Db⟩ := zj_shT ht
  have loop : ∀ (n i : Nat) (x2 x3 : Int32), J + 1 ≤ i + n → i ≤ J → (x2 = zc_opt (zc_pre (h (t + 1)) b i)) → (x3 = nI i) → zj_J E Γ 4 4 [(0, .ref (E.2.1 t)), (1, .int b), (2, .int x2), (3, .int x3)] [] h g := by
    intro n
    induction n with
    | zero => intro i x2 x3  h1 h2; omega
    | succ n ih =>
      intro i x2 x3  h1 h2 e2 e3
      refine zj_iload_n (i := 3) (pc := 4) K dX6_presiding_4 rfl rfl ?_
      refine zj_aload_n (i := 0) (pc := 5) K dX6_presiding_5 rfl rfl ?_
      refine zj_getI (pc := 6) K lf_X6_40 hs_D rfl dX6_presiding_6 ?_
      refine zj_icmp_ge (tgt := 48) (pc := 9) K dX6_presiding_9 (by decide) (fun c_9 => ?_) (fun c_9 => ?_)
      · have hi : i = J := Nat.le_antisymm h2 (zz_ge e3 eJ (by omega) (by omega) c_9)
        subst hi
        refine zj_iload_n (i := 2) (pc := 48) K dX6_presiding_48 rfl rfl ?_
        exact zj_iret K Rt dX6_presiding_49 (⟨by rw [e2], rfl, rfl⟩)
      · have hi : i < J := zz_nge e3 eJ (by omega) (by omega) c_9
        refine zj_iload_n (i := 1) (pc := 12) K dX6_presiding_12 rfl rfl ?_
        refine zj_iload_n (i := 3) (pc := 13) K dX6_presiding_13 rfl rfl ?_
        refine zj_cN2I (pc := 14) K lm_X6_64 (m_X7_has (by assumption) (by omega)) (by decide) rfl (Nat.le_of_ble_eq_true rfl) dX6_presiding_14 ?_
        refine zj_if_eq (tgt := 42) (pc := 17) K dX6_presiding_17 (by decide) (fun c_17 => ?_) (fun c_17 => ?_)
        · replace c_17 := zz_i0.mp c_17
          refine zj_iinc (v := 1) (pc := 42) K dX6_presiding_42 rfl (by decide) rfl rfl rfl ?_
          refine zj_goto (tgt := 4) (pc := 45) K dX6_presiding_45 (by decide) ?_
          exact ih (i + 1) _ _ (by omega) (by omega) (by first | (unfold zc_pre; rw [if_neg (by rw [c_17]; decide)]; exact e2) | (unfold zc_pre; rw [if_pos c_17, hf]; exact e3) | (unfold zc_pre; rw [if_pos c_17, hf]; simp only; rw [if_neg (fun q => absurd c_37 (Int32.not_le.mpr q))]; exact e2) | (unfold zc_pre; rw [if_pos c_17, hf]; simp only; rw [if_pos (Int32.not_le.mp c_37)]; exact e3)) (zz_up e3)
        · replace c_17 := zz_n0.mp c_17
          refine zj_iload_n (i := 2) (pc := 20) K dX6_presiding_20 rfl rfl ?_
          refine zj_iconst (v := -1) (pc := 21) K dX6_presiding_21 (by decide) ?_
          refine zj_icmp_eq (tgt := 40) (pc := 22) K dX6_presiding_22 (by decide) (fun c_22 => ?_) (fun c_22 => ?_)
          · have hf : zc_pre (h (t + 1)) b i = none := zc_opt_none (fun f q => by have := (zc_pre_lt q).1; omega) (by rw [← e2]; exact c_22)
            refine zj_iload_n (i := 3) (pc := 40) K dX6_presiding_40 rfl rfl ?_
            refine zj_istore_n (i := 2) (pc := 41) K dX6_presiding_41 rfl rfl rfl rfl ?_
            refine zj_iinc (v := 1) (pc := 42) K dX6_presiding_42 rfl (by decide) rfl rfl rfl ?_
            refine zj_goto (tgt := 4) (pc := 45) K dX6_presiding_45 (by decide) ?_
            exact ih (i + 1) _ _ (by omega) (by omega) (by first | (unfold zc_pre; rw [if_neg (by rw [c_17]; decide)]; exact e2) | (unfold zc_pre; rw [if_pos c_17, hf]; exact e3) | (unfold zc_pre; rw [if_pos c_17, hf]; simp only; rw [if_neg (fun q => absurd c_37 (Int32.not_le.mpr q))]; exact e2) | (unfold zc_pre; rw [if_pos c_17, hf]; simp only; rw [if_pos (Int32.not_le.mp c_37)]; exact e3)) (zz_up e3)
          · obtain ⟨f, hf⟩ : ∃ f, zc_pre (h (t + 1)) b i = some f := by
              cases hp : zc_pre (h (t + 1)) b i with
              | none => rw [hp] at e2; exact absurd e2 c_22
              | some f => exact ⟨f, rfl⟩
            have hf1 := (zc_pre_lt hf).1
            rw [hf] at e2
            refine zj_aload_n (i := 0) (pc := 25) K dX6_presiding_25 rfl rfl ?_
            refine zj_getR (pc := 26) K lf_X6_9 hs_D rfl dX6_presiding_26 ?_
            refine zj_iload_n (i := 3) (pc := 29) K dX6_presiding_29 rfl rfl ?_
            refine zj_ald (j := i) (pc := 30) K hs_Ds e3 (by omega) (by first | decide | omega) dX6_presiding_30 ?_
            refine zj_aload_n (i := 0) (pc := 31) K dX6_presiding_31 rfl rfl ?_
            refine zj_getR (pc := 32) K lf_X6_9 hs_D rfl dX6_presiding_32 ?_
            refine zj_iload_n (i := 2) (pc := 35) K dX6_presiding_35 rfl rfl ?_
            refine zj_ald (j := f) (pc := 36) K hs_Ds e2 (by omega) (by first | decide | omega) dX6_presiding_36 ?_
            refine zj_icmp_le (tgt := 42) (pc := 37) K dX6_presiding_37 (by decide) (fun c_37 => ?_) (fun c_37 => ?_)
            · refine zj_iinc (v := 1) (pc := 42) K dX6_presiding_42 rfl (by decide) rfl rfl rfl ?_
              refine zj_goto (tgt := 4) (pc := 45) K dX6_presiding_45 (by decide) ?_
              exact ih (i + 1) _ _ (by omega) (by omega) (by first | (unfold zc_pre; rw [if_neg (by rw [c_17]; decide)]; exact e2) | (unfold zc_pre; rw [if_pos c_17, hf]; exact e3) | (unfold zc_pre; rw [if_pos c_17, hf]; simp only; rw [if_neg (fun q => absurd c_37 (Int32.not_le.mpr q))]; exact e2) | (unfold zc_pre; rw [if_pos c_17, hf]; simp only; rw [if_pos (Int32.not_le.mp c_37)]; exact e3)) (zz_up e3)
            · refine zj_iload_n (i := 3) (pc := 40) K dX6_presiding_40 rfl rfl ?_
              refine zj_istore_n (i := 2) (pc := 41) K dX6_presiding_41 rfl rfl rfl rfl ?_
              refine zj_iinc (v := 1) (pc := 42) K dX6_presiding_42 rfl (by decide) rfl rfl rfl ?_
              refine zj_goto (tgt := 4) (pc := 45) K dX6_presiding_45 (by decide) ?_
              exact ih (i + 1) _ _ (by omega) (by omega) (by first | (unfold zc_pre; rw [if_neg (by rw [c_17]; decide)]; exact e2) | (unfold zc_pre; rw [if_pos c_17, hf]; exact e3) | (unfold zc_pre; rw [if_pos c_17, hf]; simp only; rw [if_neg (fun q => absurd c_37 (Int32.not_le.mpr q))]; exact e2) | (unfold zc_pre; rw [if_pos c_17, hf]; simp only; rw [if_pos (Int32.not_le.mp c_37)]; exact e3)) (zz_up e3)
  show zj_J E Γ 4 0 [(0, .ref (E.2.1 t)), (1, .int b)] [] h g
  refine zj_iconst (v := -1) (pc := 0) K dX6_presiding_0 (by decide) ?_
  refine zj_istore_n (i := 2) (pc := 1) K dX6_presiding_1 rfl rfl rfl rfl ?_
  refine zj_iconst (v := 0) (pc := 2) K dX6_presiding_2 (by decide) ?_
  refine zj_istore_n (i := 3) (pc := 3) K dX6_presiding_3 rfl rfl rfl rfl ?_
  exact loop (J + 1) 0 _ _ (by omega) (by omega) rfl rfl
