theorem zz_fill (h : zj_H) (a i : Nat) (v : Int32) : zj_s (zj_s h a (fun b => if b < i then v else h a b)) a (upd (zj_s h a (fun b => if b < i then v else h a b) a) i v) = zj_s h a (fun b => if b < i + 1 then v else h a b) := by
  rw [zj_s_s, zj_s_eq]
  congr 1
  funext b
  unfold upd
  by_cases e : b = i
  · subst e; simp
  · rw [if_neg e]
    show (if b < i then v else h a b) = _
    by_cases e2 : b < i
    · rw [if_pos e2, if_pos (by omega)]
    · rw [if_neg e2, if_neg (by omega)]
theorem zz_fill0 (h : zj_H) (a : Nat) (v : Int32) : h = zj_s h a (fun b => if b < 0 then v else h a b) := by
  have : (fun b => if b < 0 then v else h a b) = h a := by funext b; simp
  rw [this, zj_s_self]
theorem zz_clear (h : zj_H) (t : Nat) : zj_s h t (upd (upd (upd (upd (upd (upd (upd (upd (h t) 0 0) 1 0) 2 0) 3 0) 4 0) 5 1) 6 0) 7 0) = zj_s h t (fun b => if b < 8 then (if b = 5 then 1 else 0) else h t b) := by
  congr 1
  funext b
  unfold upd
  by_cases hb : b < 8
  · rw [if_pos hb]
    rcases (show b = 0 ∨ b = 1 ∨ b = 2 ∨ b = 3 ∨ b = 4 ∨ b = 5 ∨ b = 6 ∨ b = 7 by omega) with rfl | rfl | rfl | rfl | rfl | rfl | rfl | rfl <;> rfl
  · rw [if_neg hb]
    simp [show b ≠ 7 by omega, show b ≠ 6 by omega, show b ≠ 5 by omega, show b ≠ 4 by omega, show b ≠ 3 by omega, show b ≠ 2 by omega, show b ≠ 1 by omega, show b ≠ 0 by omega]
set_option maxHeartbeats 4000000 in
set_option maxRecDepth 20000 in
theorem m_J7_fill_53178 {l : Launch} {E : zj_E} {h : zj_H} {g : zj_G} {a n : Nat} {v : Int32} (hs_a : zj_at a (zj_arr n)) (hn : n ≤ 1000) : zj_M l E yJ7_fill_53178 cJ7_fill_53178 4 none 0 [.ref (E.2.1 a), .int v] h g (zj_pV (zj_s h a (fun b => if b < n then v else h a b)) g) := by
  refine zj_M.of RJ7 (by decide) rfl (Nat.le_of_ble_eq_true rfl) ?_
  intro Γ hΓ K Rt
  subst hΓ
  have loop : ∀ (m i : Nat) (x2 : Int32), n + 1 ≤ i + m → i ≤ n → (x2 = nI i) → zj_J E Γ 4 5 [(0, .ref (E.2.1 a)), (1, .int v), (2, .int x2), (3, .int (nI n))] [] (zj_s h a (fun b => if b < i then v else h a b)) g := by
    intro m
    induction m with
    | zero => intro i x2  h1 h2; omega
    | succ m ih =>
      intro i x2  h1 h2 e2
      refine zj_iload_n (i := 2) (pc := 5) K dJ7_fill_53178_5 rfl rfl ?_
      refine zj_iload_n (i := 3) (pc := 6) K dJ7_fill_53178_6 rfl rfl ?_
      refine zj_icmp_ge (tgt := 20) (pc := 7) K dJ7_fill_53178_7 (by decide) (fun c_7 => ?_) (fun c_7 => ?_)
      · have hi : i = n := Nat.le_antisymm h2 (zz_ge e2 rfl (by omega) (by omega) c_7)
        subst hi
        exact zj_vret K Rt dJ7_fill_53178_20 (⟨rfl, rfl, rfl⟩)
      · have hi : i < n := zz_nge e2 rfl (by omega) (by omega) c_7
        refine zj_aload_n (i := 0) (pc := 10) K dJ7_fill_53178_10 rfl rfl ?_
        refine zj_iload_n (i := 2) (pc := 11) K dJ7_fill_53178_11 rfl rfl ?_
        refine zj_iload_n (i := 1) (pc := 12) K dJ7_fill_53178_12 rfl rfl ?_
        refine zj_ast (j := i) (pc := 13) K hs_a e2 hi (by first | decide | omega) dJ7_fill_53178_13 ?_
        refine zj_iinc (v := 1) (pc := 14) K dJ7_fill_53178_14 rfl (by decide) rfl rfl rfl ?_
        refine zj_goto (tgt := 5) (pc := 17) K dJ7_fill_53178_17 (by decide) ?_
        refine zj_heap (zz_fill h a i v) ?_
        exact ih (i + 1) _ (by omega) (by omega) (zz_up e2)
  show zj_J E Γ 4 0 [(0, .ref (E.2.1 a)), (1, .int v)] [] h g
  refine zj_iconst (v := 0) (pc := 0) K dJ7_fill_53178_0 (by decide) ?_
  refine zj_istore_n (i := 2) (pc := 1) K dJ7_fill_53178_1 rfl rfl rfl rfl ?_
  refine zj_aload_n (i := 0) (pc := 2) K dJ7_fill_53178_2 rfl rfl ?_
  refine zj_alen (pc := 3) K hs_a rfl dJ7_fill_53178_3 ?_
  refine zj_istore_n (i := 3) (pc := 4) K dJ7_fill_53178_4 rfl rfl rfl rfl ?_
  refine zj_heap (zz_fill0 h a v) ?_
  exact loop (n + 1) 0 _ (by omega) (by omega) rfl

set_option maxHeartbeats 4000000 in
set_option maxRecDepth 20000 in
theorem m_X6_clear {l : Launch} {E : zj_E} {h : zj_H} {g : zj_G} {t : Nat} (ht : zj_isT t) : zj_M l E yX6_clear cX6_clear 1 none 0 [.ref (E.2.1 t)] h g (zj_pV (zj_s h t (fun b => if b < 8 then (if b = 5 then 1 else 0) else h t b)) g) := by
  refine zj_M.of RX6 (by decide) rfl (Nat.le_of_ble_eq_true rfl) ?_
  intro Γ hΓ K Rt
  subst hΓ
  obtain ⟨hs_D, hs_Ds, hs_Dw, hs_Db⟩ := zj_shT ht
  show zj_J E Γ 1 0 [(0, .ref (E.2.1 t))] [] h g
  refine zj_aload_n (i := 0) (pc := 0) K dX6_clear_0 rfl rfl ?_
  refine zj_iconst (v := 0) (pc := 1) K dX6_clear_1 (by decide) ?_
  refine zj_putI (pc := 2) K lf_X6_25 hs_D rfl dX6_clear_2 ?_
  refine zj_aload_n (i := 0) (pc := 5) K dX6_clear_5 rfl rfl ?_
  refine zj_iconst (v := 0) (pc := 6) K dX6_clear_6 (by decide) ?_
  refine zj_putI (pc := 7) K lf_X6_28 hs_D rfl dX6_clear_7 ?_
  refine zj_aload_n (i := 0) (pc := 10) K dX6_clear_10 rfl rfl ?_
  refine zj_iconst (v := 0) (pc := 11) K dX6_clear_11 (by decide) ?_
  refine zj_putI (pc := 12) K lf_X6_31 hs_D rfl dX6_clear_12 ?_
  refine zj_aload_n (i := 0) (pc := 15) K dX6_clear_15 rfl rfl ?_
  refine zj_iconst (v := 0) (pc := 16) K dX6_clear_16 (by decide) ?_
  refine zj_putI (pc := 17) K lf_X6_34 hs_D rfl dX6_clear_17 ?_
  refine zj_aload_n (i := 0) (pc := 20) K dX6_clear_20 rfl rfl ?_
  refine zj_iconst (v := 0) (pc := 21) K dX6_clear_21 (by decide) ?_
  refine zj_putI (pc := 22) K lf_X6_37 hs_D rfl dX6_clear_22 ?_
  refine zj_aload_n (i := 0) (pc := 25) K dX6_clear_25 rfl rfl ?_
  refine zj_iconst (v := 1) (pc := 26) K dX6_clear_26 (by decide) ?_
  refine zj_putI (pc := 27) K lf_X6_21 hs_D rfl dX6_clear_27 ?_
  refine zj_aload_n (i := 0) (pc := 30) K dX6_clear_30 rfl rfl ?_
  refine zj_iconst (v := 0) (pc := 31) K dX6_clear_31 (by decide) ?_
  refine zj_putI (pc := 32) K lf_X6_40 hs_D rfl dX6_clear_32 ?_
  refine zj_aload_n (i := 0) (pc := 35) K dX6_clear_35 rfl rfl ?_
  refine zj_iconst (v := 0) (pc := 36) K dX6_clear_36 (by decide) ?_
  refine zj_putI (pc := 37) K lf_X6_43 hs_D rfl dX6_clear_37 ?_
  exact zj_vret K Rt dX6_clear_40 (⟨rfl, by simp only [zj_s_s, zj_s_eq]; exact zz_clear h t, rfl⟩)
