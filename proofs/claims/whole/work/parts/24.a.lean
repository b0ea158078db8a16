def zz_pp (a b : Nat) : Nat := if a < b then a * 9 + b else b * 9 + a
/-- lawful benches with two told, thirds from fr on; with the first told; all -/
def zl_c (p : Int32 → Bool) (two : Int32) (fr : Nat) : Nat → List Int32
  | 0 => []
  | c + 1 => zl_c p two fr c ++ (if fr ≤ c ∧ p (two ||| zz_bit c) = true then [two ||| zz_bit c] else [])
def zl_b (p : Int32 → Bool) (a J : Nat) : Nat → List Int32
  | 0 => []
  | b + 1 => zl_b p a J b ++ (if a < b then zl_c p (zz_bit a ||| zz_bit b) (b + 1) J else [])
def zl_a (p : Int32 → Bool) (J : Nat) : Nat → List Int32
  | 0 => []
  | a + 1 => zl_a p J a ++ zl_b p a J J
def zl_tb (a J : Nat) : Nat → Nat
  | 0 => 0
  | b + 1 => zl_tb a J b + (if a < b then J - (b + 1) else 0)
def zl_ta (J : Nat) : Nat → Nat
  | 0 => 0
  | a + 1 => zl_ta J a + zl_tb a J J
theorem zl_c_len (p : Int32 → Bool) (two : Int32) (fr : Nat) : ∀ c, (zl_c p two fr c).length ≤ c - fr
  | 0 => Nat.zero_le _
  | c + 1 => by
    have ih := zl_c_len p two fr c
    unfold zl_c
    rw [List.length_append]
    split
    · next hh => have := hh.1; simp only [List.length_singleton]; omega
    · simp only [List.length_nil]; omega
theorem zl_b_len (p : Int32 → Bool) (a J : Nat) : ∀ b, (zl_b p a J b).length ≤ zl_tb a J b
  | 0 => Nat.zero_le _
  | b + 1 => by
    have ih := zl_b_len p a J b
    unfold zl_b zl_tb
    rw [List.length_append]
    split
    · have := zl_c_len p (zz_bit a ||| zz_bit b) (b + 1) J; omega
    · simp only [List.length_nil]; omega
theorem zl_a_len (p : Int32 → Bool) (J : Nat) : ∀ a, (zl_a p J a).length ≤ zl_ta J a
  | 0 => Nat.zero_le _
  | a + 1 => by
    have ih := zl_a_len p J a
    have := zl_b_len p a J J
    unfold zl_a zl_ta
    rw [List.length_append]; omega
theorem zl_84 : ∀ J, J < 10 → ∀ a, a < 10 → ∀ b, b < 10 → a < b → b < J → zl_ta J a + zl_tb a J b + (J - (b + 1)) ≤ 84 := by decide +kernel
theorem zl_84a : ∀ J, J < 10 → zl_ta J J ≤ 84 := by decide +kernel
theorem zl_c_lo {p : Int32 → Bool} {two : Int32} {fr : Nat} : ∀ {c : Nat}, c ≤ fr → zl_c p two fr c = []
  | 0, _ => rfl
  | c + 1, h => by unfold zl_c; rw [zl_c_lo (by omega), if_neg (by omega)]; rfl
theorem zl_b_lo {p : Int32 → Bool} {a J : Nat} : ∀ {b : Nat}, b ≤ a + 1 → zl_b p a J b = []
  | 0, _ => rfl
  | b + 1, h => by unfold zl_b; rw [zl_b_lo (by omega), if_neg (by omega)]; rfl
def zl_all (p : Int32 → Bool) (J : Nat) : List Int32 := zl_a p J J
theorem zl_all_len (p : Int32 → Bool) {J : Nat} (hJ : J ≤ 9) : (zl_all p J).length ≤ 84 := Nat.le_trans (zl_a_len p J J) (zl_84a J (by omega))
/-- the list that an object's count and array hold: cell k place f, array b -/
def zl_has (h : zj_H) (k f b : Nat) (l : List Int32) : Prop := h k f = nI l.length ∧ ∀ i, i < l.length → h b i = l.getD i 0
theorem zl_has_push {f : Nat → Int32} {l : List Int32} {x : Int32} (h : ∀ i, i < l.length → f i = l.getD i 0) : ∀ i, i < (l ++ [x]).length → upd f l.length x i = (l ++ [x]).getD i 0 := by
  intro i hi
  rw [List.length_append, List.length_singleton] at hi
  unfold upd
  by_cases e : i = l.length
  · subst e; simp
  · rw [if_neg e, h i (by omega)]
    rw [List.getD_eq_getElem?_getD, List.getD_eq_getElem?_getD, List.getElem?_append_left (show i < l.length by omega)]
/-- the first place where a list has x -/
def zl_find (l : List Int32) (x : Int32) : Nat → Int32
  | 0 => -1
  | n + 1 => if l.getD (l.length - (n + 1)) 0 = x then nI (l.length - (n + 1)) else zl_find l x n
set_option maxHeartbeats 4000000 in
set_option maxRecDepth 20000 in
theorem m_X7_pairPlace2 {l : Launch} {E : zj_E} {h : zj_H} {g : zj_G} {x y : Int32} {a b : Nat} (ex : x = nI a) (ey : y = nI b) (ha : a < 9) (hb : b < 9) : zj_M l E yX7_pairPlace cX7_pairPlace 2 (some .int) 0 [.int x, .int y] h g (zj_pI (nI (zz_pp a b)) h g) := by
  refine zj_M.of RX7 (by decide) rfl (Nat.le_of_ble_eq_true rfl) ?_
  intro Γ hΓ K Rt
  subst hΓ
  show zj_J E Γ 2 0 [(0, .int x), (1, .int y)] [] h g
  refine zj_iload_n (i := 0) (pc := 0) K dX7_pairPlace_0 rfl rfl ?_
  refine zj_iload_n (i := 1) (pc := 1) K dX7_pairPlace_1 rfl rfl ?_
  refine zj_icmp_ge (tgt := 14) (pc := 2) K dX7_pairPlace_2 (by decide) (fun c_2 => ?_) (fun c_2 => ?_)
  · have hba : ¬ a < b := fun q => absurd c_2 (by rw [ex, ey]; exact nI_ge q (by omega))
    refine zj_iload_n (i := 1) (pc := 14) K dX7_pairPlace_14 rfl rfl ?_
    refine zj_bipush (v := 9) (pc := 15) K dX7_pairPlace_15 (by decide) ?_
    refine zj_imul (pc := 17) K dX7_pairPlace_17 ?_
    refine zj_iload_n (i := 0) (pc := 18) K dX7_pairPlace_18 rfl rfl ?_
    refine zj_iadd (pc := 19) K dX7_pairPlace_19 ?_
    exact zj_iret K Rt dX7_pairPlace_20 (⟨by first | (unfold zz_pp; rw [if_pos hba, ex, ey, ← nI_add, ← pk_mul]; rfl) | (unfold zz_pp; rw [if_neg hba, ex, ey, ← nI_add, ← pk_mul]; rfl), rfl, rfl⟩)
  · have hba : a < b := zz_nge ex ey (by omega) (by omega) c_2
    refine zj_iload_n (i := 0) (pc := 5) K dX7_pairPlace_5 rfl rfl ?_
    refine zj_bipush (v := 9) (pc := 6) K dX7_pairPlace_6 (by decide) ?_
    refine zj_imul (pc := 8) K dX7_pairPlace_8 ?_
    refine zj_iload_n (i := 1) (pc := 9) K dX7_pairPlace_9 rfl rfl ?_
    refine zj_iadd (pc := 10) K dX7_pairPlace_10 ?_
    refine zj_goto (tgt := 20) (pc := 11) K dX7_pairPlace_11 (by decide) ?_
    exact zj_iret K Rt dX7_pairPlace_20 (⟨by first | (unfold zz_pp; rw [if_pos hba, ex, ey, ← nI_add, ← pk_mul]; rfl) | (unfold zz_pp; rw [if_neg hba, ex, ey, ← nI_add, ← pk_mul]; rfl), rfl, rfl⟩)

set_option maxHeartbeats 4000000 in
set_option maxRecDepth 20000 in
theorem m_X0_spreadOfLoads {l : Launch} {E : zj_E} {h : zj_H} {g : zj_G} {k J : Nat} (hk : zj_isC k) (eJ : h 8 6 = nI J) (hJ : J ≤ 9)  : zj_M l E yX0_spreadOfLoads cX0_spreadOfLoads 4 (some .int) 1 [.ref (E.2.1 k)] h g (zj_pI (zc_max (h (k + 7)) 0 J - zc_min (h (k + 7)) 2147483647 J) h g) := by
  refine zj_M.of RX0 (by decide) rfl (Nat.le_of_ble_eq_true rfl) ?_
  intro Γ hΓ K Rt
  subst hΓ
  obtain ⟨hs_C, hs_Cd, hs_Cs, hs_Ci, hs_Cb, hs_Cf, hs_Cp, hs_Cl, hs_Cn, hs_Ct⟩ := zj_shC hk
  obtain ⟨hk12, hk22⟩ := zj_C12 hk
  have loop : ∀ (n i : Nat) (x1 x2 x3 : Int32), J + 1 ≤ i + n → i ≤ J → (x1 = zc_max (h (k + 7)) 0 i) → (x2 = zc_min (h (k + 7)) 2147483647 i) → (x3 = nI i) → zj_J E Γ 4 7 [(0, .ref (E.2.1 k)), (1, .int x1), (2, .int x2), (3, .int x3)] [] h g := by
    intro n
    induction n with
    | zero => intro i x1 x2 x3  h1 h2; omega
    | succ n ih =>
      intro i x1 x2 x3  h1 h2 e1 e2 e3
      refine zj_iload_n (i := 3) (pc := 7) K dX0_spreadOfLoads_7 rfl rfl ?_
      refine zj_aload_n (i := 0) (pc := 8) K dX0_spreadOfLoads_8 rfl rfl ?_
      refine zj_getR (pc := 9) K lf_X0_9 hs_C rfl dX0_spreadOfLoads_9 ?_
      refine zj_getI (pc := 12) K lf_X0_86 hs_D rfl dX0_spreadOfLoads_12 ?_
      refine zj_icmp_ge (tgt := 46) (pc := 15) K dX0_spreadOfLoads_15 (by decide) (fun c_15 => ?_) (fun c_15 => ?_)
      · have hi : i = J := Nat.le_antisymm h2 (zz_ge e3 eJ (by omega) (by omega) c_15)
        subst hi
        refine zj_iload_n (i := 1) (pc := 46) K dX0_spreadOfLoads_46 rfl rfl ?_
        refine zj_iload_n (i := 2) (pc := 47) K dX0_spreadOfLoads_47 rfl rfl ?_
        refine zj_isub (pc := 48) K dX0_spreadOfLoads_48 ?_
        exact zj_iret K Rt dX0_spreadOfLoads_49 (⟨by rw [e1, e2], rfl, rfl⟩)
      · have hi : i < J := zz_nge e3 eJ (by omega) (by omega) c_15
        refine zj_iload_n (i := 1) (pc := 18) K dX0_spreadOfLoads_18 rfl rfl ?_
        refine zj_aload_n (i := 0) (pc := 19) K dX0_spreadOfLoads_19 rfl rfl ?_
        refine zj_getR (pc := 20) K lf_X0_33 hs_C rfl dX0_spreadOfLoads_20 ?_
        refine zj_iload_n (i := 3) (pc := 23) K dX0_spreadOfLoads_23 rfl rfl ?_
        refine zj_ald (j := _) (pc := 24) K hs_Cl (by first | assumption | rfl) (by first | assumption | omega) (by first | decide | omega) dX0_spreadOfLoads_24 ?_
        refine zj_mmax (pc := 25) K lx_X0_108 (by decide) (Nat.le_of_ble_eq_true rfl) dX0_spreadOfLoads_25 ?_
        refine zj_istore_n (i := 1) (pc := 28) K dX0_spreadOfLoads_28 rfl rfl rfl rfl ?_
        refine zj_iload_n (i := 2) (pc := 29) K dX0_spreadOfLoads_29 rfl rfl ?_
        refine zj_aload_n (i := 0) (pc := 30) K dX0_spreadOfLoads_30 rfl rfl ?_
        refine zj_getR (pc := 31) K lf_X0_33 hs_C rfl dX0_spreadOfLoads_31 ?_
        refine zj_iload_n (i := 3) (pc := 34) K dX0_spreadOfLoads_34 rfl rfl ?_
        refine zj_ald (j := _) (pc := 35) K hs_Cl (by first | assumption | rfl) (by first | assumption | omega) (by first | decide | omega) dX0_spreadOfLoads_35 ?_
        refine zj_mmin (pc := 36) K lx_X0_113 (by decide) (Nat.le_of_ble_eq_true rfl) dX0_spreadOfLoads_36 ?_
        refine zj_istore_n (i := 2) (pc := 39) K dX0_spreadOfLoads_39 rfl rfl rfl rfl ?_
        refine zj_iinc (v := 1) (pc := 40) K dX0_spreadOfLoads_40 rfl (by decide) rfl rfl rfl ?_
        refine zj_goto (tgt := 7) (pc := 43) K dX0_spreadOfLoads_43 (by decide) ?_
        exact ih (i + 1) _ _ _ (by omega) (by omega) (by rw [e1]; rfl) (by rw [e2]; rfl) (zz_up e3)
  show zj_J E Γ 4 0 [(0, .ref (E.2.1 k))] [] h g
  refine zj_iconst (v := 0) (pc := 0) K dX0_spreadOfLoads_0 (by decide) ?_
  refine zj_istore_n (i := 1) (pc := 1) K dX0_spreadOfLoads_1 rfl rfl rfl rfl ?_
  refine zj_ldc (pc := 2) K lk_X0_107 dX0_spreadOfLoads_2 ?_
  refine zj_istore_n (i := 2) (pc := 4) K dX0_spreadOfLoads_4 rfl rfl rfl rfl ?_
  refine zj_iconst (v := 0) (pc := 5) K dX0_spreadOfLoads_5 (by decide) ?_
  refine zj_istore_n (i := 3) (pc := 6) K dX0_spreadOfLoads_6 rfl rfl rfl rfl ?_
  exact loop (J + 1) 0 _ _ _ (by omega) (by omega) rfl rfl rfl

set_option maxHeartbeats 4000000 in
set_option maxRecDepth 20000 in
theorem m_X0_spreadOfPairs {l : Launch} {E : zj_E} {h : zj_H} {g : zj_G} {k J : Nat} (hk : zj_isC k) (eJ : h 8 6 = nI J) (hJ : J ≤ 9)  : zj_M l E yX0_spreadOfPairs cX0_spreadOfPairs 6 (some .int) 1 [.ref (E.2.1 k)] h g (zj_pI (zc_max2 (h (k + 6)) J J - zc_min2 (h (k + 6)) J J) h g) := by
  refine zj_M.of RX0 (by decide) rfl (Nat.le_of_ble_eq_true rfl) ?_
  intro Γ hΓ K Rt
  subst hΓ
  obtain ⟨hs_C, hs_Cd, hs_Cs, hs_Ci, hs_Cb, hs_Cf, hs_Cp, hs_Cl, hs_Cn, hs_Ct⟩ := zj_shC hk
  obtain ⟨hk12, hk22⟩ := zj_C12 hk
  have loop : ∀ (n i : Nat) (x1 x2 x3 : Int32), J + 1 ≤ i + n → i ≤ J → (x1 = zc_max2 (h (k + 6)) J i) → (x2 = zc_min2 (h (k + 6)) J i) → (x3 = nI i) → zj_J E Γ 6 7 [(0, .ref (E.2.1 k)), (1, .int x1), (2, .int x2), (3, .int x3)] [] h g := by
    intro n
    induction n with
    | zero => intro i x1 x2 x3  h1 h2; omega
    | succ n ih =>
      intro i x1 x2 x3  h1 h2 e1 e2 e3
      have inner : i < J → ∀ (m c : Nat) (y1 y2 y4 : Int32), J + 1 ≤ c + m → c ≤ J → (i < c) → (y1 = zc_maxb (h (k + 6)) i (zc_max2 (h (k + 6)) J i) c) → (y2 = zc_minb (h (k + 6)) i (zc_min2 (h (k + 6)) J i) c) → (y4 = nI c) → zj_J E Γ 6 23 [(0, .ref (E.2.1 k)), (1, .int y1), (2, .int y2), (3, .int x3), (4, .int y4)] [] h g := by
        intro hi m
        induction m with
        | zero => intro c y1 y2 y4  h3 h4; omega
        | succ m ih2 =>
          intro c y1 y2 y4  h3 h4 hlo e1 e2 e4
          refine zj_iload (pc := 23) K dX0_spreadOfPairs_23 rfl ?_
          refine zj_aload_n (i := 0) (pc := 25) K dX0_spreadOfPairs_25 rfl rfl ?_
          refine zj_getR (pc := 26) K lf_X0_9 hs_C rfl dX0_spreadOfPairs_26 ?_
          refine zj_getI (pc := 29) K lf_X0_86 hs_D rfl dX0_spreadOfPairs_29 ?_
          refine zj_icmp_ge (tgt := 68) (pc := 32) K dX0_spreadOfPairs_32 (by decide) (fun c_32 => ?_) (fun c_32 => ?_)
          · have hi2 : c = J := Nat.le_antisymm h4 (zz_ge e4 eJ (by omega) (by omega) c_32)
            subst hi2
            refine zj_iinc (v := 1) (pc := 68) K dX0_spreadOfPairs_68 rfl (by decide) rfl rfl rfl ?_
            refine zj_goto (tgt := 7) (pc := 71) K dX0_spreadOfPairs_71 (by decide) ?_
            refine zj_pick [0, 1, 2, 3] ?_
            exact ih (i + 1) _ _ _ (by omega) (by omega) (by rw [e1]; rfl) (by rw [e2]; rfl) (zz_up e3)
          · have hi2 : c < J := zz_nge e4 eJ (by omega) (by omega) c_32
            refine zj_aload_n (i := 0) (pc := 35) K dX0_spreadOfPairs_35 rfl rfl ?_
            refine zj_getR (pc := 36) K lf_X0_29 hs_C rfl dX0_spreadOfPairs_36 ?_
            refine zj_iload_n (i := 3) (pc := 39) K dX0_spreadOfPairs_39 rfl rfl ?_
            refine zj_iload (pc := 40) K dX0_spreadOfPairs_40 rfl ?_
            refine zj_cN2I (pc := 42) K lm_X0_92 (m_X7_pairPlace (by assumption) (by assumption) (by omega) (by omega)) (by decide) rfl (Nat.le_of_ble_eq_true rfl) dX0_spreadOfPairs_42 ?_
            refine zj_ald (j := i * 9 + c) (pc := 45) K hs_Cp rfl (by omega) (by first | decide | omega) dX0_spreadOfPairs_45 ?_
            refine zj_istore (pc := 46) K dX0_spreadOfPairs_46 rfl rfl rfl ?_
            refine zj_iload_n (i := 1) (pc := 48) K dX0_spreadOfPairs_48 rfl rfl ?_
            refine zj_iload (pc := 49) K dX0_spreadOfPairs_49 rfl ?_
            refine zj_mmax (pc := 51) K lx_X0_108 (by decide) (Nat.le_of_ble_eq_true rfl) dX0_spreadOfPairs_51 ?_
            refine zj_istore_n (i := 1) (pc := 54) K dX0_spreadOfPairs_54 rfl rfl rfl rfl ?_
            refine zj_iload_n (i := 2) (pc := 55) K dX0_spreadOfPairs_55 rfl rfl ?_
            refine zj_iload (pc := 56) K dX0_spreadOfPairs_56 rfl ?_
            refine zj_mmin (pc := 58) K lx_X0_113 (by decide) (Nat.le_of_ble_eq_true rfl) dX0_spreadOfPairs_58 ?_
            refine zj_istore_n (i := 2) (pc := 61) K dX0_spreadOfPairs_61 rfl rfl rfl rfl ?_
            refine zj_iinc (v := 1) (pc := 62) K dX0_spreadOfPairs_62 rfl (by decide) rfl rfl rfl ?_
            refine zj_goto (tgt := 23) (pc := 65) K dX0_spreadOfPairs_65 (by decide) ?_
            refine zj_pick [0, 1, 2, 3, 4] ?_
            exact ih2 (c + 1) _ _ _ (by omega) (by omega) (by omega) (by rw [e1, zc_maxb, if_pos hlo]) (by rw [e2, zc_minb, if_pos hlo]) (zz_up e4)
      refine zj_iload_n (i := 3) (pc := 7) K dX0_spreadOfPairs_7 rfl rfl ?_
      refine zj_aload_n (i := 0) (pc := 8) K dX0_spreadOfPairs_8 rfl rfl ?_
      refine zj_getR (pc := 9) K lf_X0_9 hs_C rfl dX0_spreadOfPairs_9 ?_
      refine zj_getI (pc := 12) K lf_X0_86 hs_D rfl dX0_spreadOfPairs_12 ?_
      refine zj_icmp_ge (tgt := 74) (pc := 15) K dX0_spreadOfPairs_15 (by decide) (fun c_15 => ?_) (fun c_15 => ?_)
      · have hi : i = J := Nat.le_antisymm h2 (zz_ge e3 eJ (by omega) (by omega) c_15)
        subst hi
        refine zj_iload_n (i := 1) (pc := 74) K dX0_spreadOfPairs_74 rfl rfl ?_
        refine zj_iload_n (i := 2) (pc := 75) K dX0_spreadOfPairs_75 rfl rfl ?_
        refine zj_isub (pc := 76) K dX0_spreadOfPairs_76 ?_
        exact zj_iret K Rt dX0_spreadOfPairs_77 (⟨by rw [e1, e2], rfl, rfl⟩)
      · have hi : i < J := zz_nge e3 eJ (by omega) (by omega) c_15
        refine zj_iload_n (i := 3) (pc := 18) K dX0_spreadOfPairs_18 rfl rfl ?_
        refine zj_iconst (v := 1) (pc := 19) K dX0_spreadOfPairs_19 (by decide) ?_
        refine zj_iadd (pc := 20) K dX0_spreadOfPairs_20 ?_
        refine zj_istore (pc := 21) K dX0_spreadOfPairs_21 rfl rfl rfl ?_
        exact inner hi (J + 1) (i + 1) _ _ _ (by omega) (by omega) (by omega) (by rw [e1, zc_maxb_lo (Nat.le_refl _)]) (by rw [e2, zc_minb_lo (Nat.le_refl _)]) (zz_up e3)
  show zj_J E Γ 6 0 [(0, .ref (E.2.1 k))] [] h g
  refine zj_iconst (v := 0) (pc := 0) K dX0_spreadOfPairs_0 (by decide) ?_
  refine zj_istore_n (i := 1) (pc := 1) K dX0_spreadOfPairs_1 rfl rfl rfl rfl ?_
  refine zj_ldc (pc := 2) K lk_X0_107 dX0_spreadOfPairs_2 ?_
  refine zj_istore_n (i := 2) (pc := 4) K dX0_spreadOfPairs_4 rfl rfl rfl rfl ?_
  refine zj_iconst (v := 0) (pc := 5) K dX0_spreadOfPairs_5 (by decide) ?_
  refine zj_istore_n (i := 3) (pc := 6) K dX0_spreadOfPairs_6 rfl rfl rfl rfl ?_
  exact loop (J + 1) 0 _ _ _ (by omega) (by omega) rfl rfl rfl

set_option maxHeartbeats 4000000 in
set_option maxRecDepth 20000 in
theorem m_X0_evennessCounted {l : Launch} {E : zj_E} {h : zj_H} {g : zj_G} {k J : Nat} (hk : zj_isC k) (eJ : h 8 6 = nI J) (hJ : J ≤ 9)  : zj_M l E yX0_evennessCounted cX0_evennessCounted 5 (some .int) 1 [.ref (E.2.1 k)] h g (zj_pI (zt_ev (h (k + 6)) J) h g) := by
  refine zj_M.of RX0 (by decide) rfl (Nat.le_of_ble_eq_true rfl) ?_
  intro Γ hΓ K Rt
  subst hΓ
  obtain ⟨hs_C, hs_Cd, hs_Cs, hs_Ci, hs_Cb, hs_Cf, hs_Cp, hs_Cl, hs_Cn, hs_Ct⟩ := zj_shC hk
  obtain ⟨hk12, hk22⟩ := zj_C12 hk
  have loop : ∀ (n i : Nat) (x1 x2 : Int32), J + 1 ≤ i + n → i ≤ J → (x1 = zc_sum (fun a => zt_eb (h (k + 6)) J a) i) → (x2 = nI i) → zj_J E Γ 5 4 [(0, .ref (E.2.1 k)), (1, .int x1), (2, .int x2)] [] h g := by
    intro n
    induction n with
    | zero => intro i x1 x2  h1 h2; omega
    | succ n ih =>
      intro i x1 x2  h1 h2 e1 e2
      have inner : i < J → ∀ (m c : Nat) (y1 y3 : Int32), J + 1 ≤ c + m → c ≤ J → (i < c) → (y1 = zc_sum (fun a => zt_eb (h (k + 6)) J a) i + zc_sum (fun c => if decide (i < c) = true then h (k + 6) (i * 9 + c) * h (k + 6) (i * 9 + c) else 0) c) → (y3 = nI c) → zj_J E Γ 5 19 [(0, .ref (E.2.1 k)), (1, .int y1), (2, .int x2), (3, .int y3)] [] h g := by
        intro hi m
        induction m with
        | zero => intro c y1 y3  h3 h4; omega
        | succ m ih2 =>
          intro c y1 y3  h3 h4 hlo e1 e3
          refine zj_iload_n (i := 3) (pc := 19) K dX0_evennessCounted_19 rfl rfl ?_
          refine zj_aload_n (i := 0) (pc := 20) K dX0_evennessCounted_20 rfl rfl ?_
          refine zj_getR (pc := 21) K lf_X0_9 hs_C rfl dX0_evennessCounted_21 ?_
          refine zj_getI (pc := 24) K lf_X0_86 hs_D rfl dX0_evennessCounted_24 ?_
          refine zj_icmp_ge (tgt := 56) (pc := 27) K dX0_evennessCounted_27 (by decide) (fun c_27 => ?_) (fun c_27 => ?_)
          · have hi2 : c = J := Nat.le_antisymm h4 (zz_ge e3 eJ (by omega) (by omega) c_27)
            subst hi2
            refine zj_iinc (v := 1) (pc := 56) K dX0_evennessCounted_56 rfl (by decide) rfl rfl rfl ?_
            refine zj_goto (tgt := 4) (pc := 59) K dX0_evennessCounted_59 (by decide) ?_
            refine zj_pick [0, 1, 2] ?_
            exact ih (i + 1) _ _ (by omega) (by omega) (by rw [e1]; rfl) (zz_up e2)
          · have hi2 : c < J := zz_nge e3 eJ (by omega) (by omega) c_27
            refine zj_aload_n (i := 0) (pc := 30) K dX0_evennessCounted_30 rfl rfl ?_
            refine zj_getR (pc := 31) K lf_X0_29 hs_C rfl dX0_evennessCounted_31 ?_
            refine zj_iload_n (i := 2) (pc := 34) K dX0_evennessCounted_34 rfl rfl ?_
            refine zj_iload_n (i := 3) (pc := 35) K dX0_evennessCounted_35 rfl rfl ?_
            refine zj_cN2I (pc := 36) K lm_X0_92 (m_X7_pairPlace (by assumption) (by assumption) (by omega) (by omega)) (by decide) rfl (Nat.le_of_ble_eq_true rfl) dX0_evennessCounted_36 ?_
            refine zj_ald (j := i * 9 + c) (pc := 39) K hs_Cp rfl (by omega) (by first | decide | omega) dX0_evennessCounted_39 ?_
            refine zj_istore (pc := 40) K dX0_evennessCounted_40 rfl rfl rfl ?_
            refine zj_iload_n (i := 1) (pc := 42) K dX0_evennessCounted_42 rfl rfl ?_
            refine zj_iload (pc := 43) K dX0_evennessCounted_43 rfl ?_
            refine zj_iload (pc := 45) K dX0_evennessCounted_45 rfl ?_
            refine zj_imul (pc := 47) K dX0_evennessCounted_47 ?_
            refine zj_iadd (pc := 48) K dX0_evennessCounted_48 ?_
            refine zj_istore_n (i := 1) (pc := 49) K dX0_evennessCounted_49 rfl rfl rfl rfl ?_
            refine zj_iinc (v := 1) (pc := 50) K dX0_evennessCounted_50 rfl (by decide) rfl rfl rfl ?_
            refine zj_goto (tgt := 19) (pc := 53) K dX0_evennessCounted_53 (by decide) ?_
            refine zj_pick [0, 1, 2, 3] ?_
            exact ih2 (c + 1) _ _ (by omega) (by omega) (by omega) (by rw [e1]; simp [zc_sum, hlo, Int32.add_assoc]) (zz_up e3)
      refine zj_iload_n (i := 2) (pc := 4) K dX0_evennessCounted_4 rfl rfl ?_
      refine zj_aload_n (i := 0) (pc := 5) K dX0_evennessCounted_5 rfl rfl ?_
      refine zj_getR (pc := 6) K lf_X0_9 hs_C rfl dX0_evennessCounted_6 ?_
      refine zj_getI (pc := 9) K lf_X0_86 hs_D rfl dX0_evennessCounted_9 ?_
      refine zj_icmp_ge (tgt := 62) (pc := 12) K dX0_evennessCounted_12 (by decide) (fun c_12 => ?_) (fun c_12 => ?_)
      · have hi : i = J := Nat.le_antisymm h2 (zz_ge e2 eJ (by omega) (by omega) c_12)
        subst hi
        refine zj_iload_n (i := 1) (pc := 62) K dX0_evennessCounted_62 rfl rfl ?_
        exact zj_iret K Rt dX0_evennessCounted_63 (⟨by rw [e1]; rfl, rfl, rfl⟩)
      · have hi : i < J := zz_nge e2 eJ (by omega) (by omega) c_12
        refine zj_iload_n (i := 2) (pc := 15) K dX0_evennessCounted_15 rfl rfl ?_
        refine zj_iconst (v := 1) (pc := 16) K dX0_evennessCounted_16 (by decide) ?_
        refine zj_iadd (pc := 17) K dX0_evennessCounted_17 ?_
        refine zj_istore_n (i := 3) (pc := 18) K dX0_evennessCounted_18 rfl rfl rfl rfl ?_
        exact inner hi (J + 1) (i + 1) _ _ (by omega) (by omega) (by omega) (by rw [e1, zc_sum_lo1]; simp) (zz_up e2)
  show zj_J E Γ 5 0 [(0, .ref (E.2.1 k))] [] h g
  refine zj_iconst (v := 0) (pc := 0) K dX0_evennessCounted_0 (by decide) ?_
  refine zj_istore_n (i := 1) (pc := 1) K dX0_evennessCounted_1 rfl rfl rfl rfl ?_
  refine zj_iconst (v := 0) (pc := 2) K dX0_evennessCounted_2 (by decide) ?_
  refine zj_istore_n (i := 2) (pc := 3) K dX0_evennessCounted_3 rfl rfl rfl rfl ?_
  exact loop (J + 1) 0 _ _ (by omega) (by omega) rfl rfl

set_option maxHeartbeats 4000000 in
set_option maxRecDepth 20000 in
theorem m_X0_isLawful {l : Launch} {E : zj_E} {h : zj_H} {g : zj_G} {k c : Nat} (hk : zj_isC k) {x b : Int32} (ex : x = nI c) (hc : c < 14) : zj_M l E yX0_isLawful cX0_isLawful 3 (some .boolean) 0 [.ref (E.2.1 k), .int x, .int b] h g (zj_pI (zz_i (zl_law (h (k + 4) c) (h (k + 1) 1) (h 8 8) b)) h g) := by
  refine zj_M.of RX0 (by decide) rfl (Nat.le_of_ble_eq_true rfl) ?_
  intro Γ hΓ K Rt
  subst hΓ
  obtain ⟨hs_C, hs_Cd, hs_Cs, hs_Ci, hs_Cb, hs_Cf, hs_Cp, hs_Cl, hs_Cn, hs_Ct⟩ := zj_shC hk
  obtain ⟨hk12, hk22⟩ := zj_C12 hk
  show zj_J E Γ 3 0 [(0, .ref (E.2.1 k)), (1, .int x), (2, .int b)] [] h g
  refine zj_iload_n (i := 2) (pc := 0) K dX0_isLawful_0 rfl rfl ?_
  refine zj_aload_n (i := 0) (pc := 1) K dX0_isLawful_1 rfl rfl ?_
  refine zj_getR (pc := 2) K lf_X0_18 hs_C rfl dX0_isLawful_2 ?_
  refine zj_getR (pc := 5) K lf_X0_70 hs_Cd rfl dX0_isLawful_5 ?_
  refine zj_iload_n (i := 1) (pc := 8) K dX0_isLawful_8 rfl rfl ?_
  refine zj_ald (j := c) (pc := 9) K hs_Cb ex hc (by first | decide | omega) dX0_isLawful_9 ?_
  refine zj_aload_n (i := 0) (pc := 10) K dX0_isLawful_10 rfl rfl ?_
  refine zj_getR (pc := 11) K lf_X0_18 hs_C rfl dX0_isLawful_11 ?_
  refine zj_getI (pc := 14) K lf_X0_116 hs_Cd rfl dX0_isLawful_14 ?_
  refine zj_ior (pc := 17) K dX0_isLawful_17 ?_
  refine zj_iand (pc := 18) K dX0_isLawful_18 ?_
  refine zj_if_ne (tgt := 38) (pc := 19) K dX0_isLawful_19 (by decide) (fun c_19 => ?_) (fun c_19 => ?_)
  · refine zj_iconst (v := 0) (pc := 38) K dX0_isLawful_38 (by decide) ?_
    exact zj_zret K Rt dX0_isLawful_39 (by decide) (⟨by first | (rw [zl_law, decide_eq_false c_19]; rfl) | (rw [zl_law, decide_eq_true c_19, decide_eq_false (Classical.not_not.mpr c_31)]; rfl) | (rw [zl_law, decide_eq_true c_19, decide_eq_true c_31]; rfl), rfl, rfl⟩)
  · refine zj_iload_n (i := 2) (pc := 22) K dX0_isLawful_22 rfl rfl ?_
    refine zj_aload_n (i := 0) (pc := 23) K dX0_isLawful_23 rfl rfl ?_
    refine zj_getR (pc := 24) K lf_X0_9 hs_C rfl dX0_isLawful_24 ?_
    refine zj_getI (pc := 27) K lf_X0_119 hs_D rfl dX0_isLawful_27 ?_
    refine zj_iand (pc := 30) K dX0_isLawful_30 ?_
    refine zj_if_eq (tgt := 38) (pc := 31) K dX0_isLawful_31 (by decide) (fun c_31 => ?_) (fun c_31 => ?_)
    · refine zj_iconst (v := 0) (pc := 38) K dX0_isLawful_38 (by decide) ?_
      exact zj_zret K Rt dX0_isLawful_39 (by decide) (⟨by first | (rw [zl_law, decide_eq_false c_19]; rfl) | (rw [zl_law, decide_eq_true c_19, decide_eq_false (Classical.not_not.mpr c_31)]; rfl) | (rw [zl_law, decide_eq_true c_19, decide_eq_true c_31]; rfl), rfl, rfl⟩)
    · refine zj_iconst (v := 1) (pc := 34) K dX0_isLawful_34 (by decide) ?_
      refine zj_goto (tgt := 39) (pc := 35) K dX0_isLawful_35 (by decide) ?_
      exact zj_zret K Rt dX0_isLawful_39 (by decide) (⟨by first | (rw [zl_law, decide_eq_false c_19]; rfl) | (rw [zl_law, decide_eq_true c_19, decide_eq_false (Classical.not_not.mpr c_31)]; rfl) | (rw [zl_law, decide_eq_true c_19, decide_eq_true c_31]; rfl), rfl, rfl⟩)

set_option maxHeartbeats 4000000 in
set_option maxRecDepth 20000 in
theorem m_X0_listThirds {l : Launch} {E : zj_E} {h : zj_H} {g : zj_G} {k J c0 fr : Nat} (hk : zj_isC k) (eJ : h 8 6 = nI J) (hJ : J ≤ 9) {x two y : Int32} (ex : x = nI c0) (hc : c0 < 14) (ey : y = nI fr) (hfr : fr ≤ J) {l0 : List Int32} (h0 : zl_has h k 7 (k + 8) l0) (hl0 : l0.length + (J - fr) ≤ 84) : zj_M l E yX0_listThirds cX0_listThirds 6 none 1 [.ref (E.2.1 k), .int x, .int two, .int y] h g (fun v h' g' => v = none ∧ g' = g ∧ (∀ a, a ≠ k → a ≠ k + 8 → h' a = h a) ∧ (∀ b, b ≠ 7 → h' k b = h k b) ∧ zl_has h' k 7 (k + 8) (l0 ++ zl_c (zl_law (h (k + 4) c0) (h (k + 1) 1) (h 8 8)) two fr J)) := by
  refine zj_M.of RX0 (by decide) rfl (Nat.le_of_ble_eq_true rfl) ?_
  intro Γ hΓ K Rt
  subst hΓ
  obtain ⟨hs_C, hs_Cd, hs_Cs, hs_Ci, hs_Cb, hs_Cf, hs_Cp, hs_Cl, hs_Cn, hs_Ct⟩ := zj_shC hk
  obtain ⟨hk12, hk22⟩ := zj_C12 hk
  have loop : ∀ (n i : Nat) (x4 : Int32) (q : zj_H), J + 1 ≤ i + n → i ≤ J → (fr ≤ i) → (x4 = nI i) → (∀ a, a ≠ k → a ≠ k + 8 → q a = h a) → (∀ b, b ≠ 7 → q k b = h k b) → (zl_has q k 7 (k + 8) (l0 ++ zl_c (zl_law (h (k + 4) c0) (h (k + 1) 1) (h 8 8)) two fr i)) → zj_J E Γ 6 3 [(0, .ref (E.2.1 k)), (1, .int x), (2, .int two), (3, .int y), (4, .int x4)] [] q g := by
    intro n
    induction n with
    | zero => intro i x4 q  h1 h2; omega
    | succ n ih =>
      intro i x4 q  h1 h2 hlo e4 f1 f2 f3
      have eJ2 : q 8 6 = nI J := by rw [f1 8 (by omega) (by omega)]; exact eJ
      have eb : q (k + 4) = h (k + 4) := f1 _ (by omega) (by omega)
      have ea : q (k + 1) = h (k + 1) := f1 _ (by omega) (by omega)
      have es : q 8 = h 8 := f1 _ (by omega) (by omega)
      have hlen := zl_c_len (zl_law (h (k + 4) c0) (h (k + 1) 1) (h 8 8)) two fr i
      have hll : (l0 ++ zl_c (zl_law (h (k + 4) c0) (h (k + 1) 1) (h 8 8)) two fr i).length = l0.length + (zl_c (zl_law (h (k + 4) c0) (h (k + 1) 1) (h 8 8)) two fr i).length := List.length_append
      refine zj_iload (pc := 3) K dX0_listThirds_3 rfl ?_
      refine zj_aload_n (i := 0) (pc := 5) K dX0_listThirds_5 rfl rfl ?_
      refine zj_getR (pc := 6) K lf_X0_9 hs_C rfl dX0_listThirds_6 ?_
      refine zj_getI (pc := 9) K lf_X0_86 hs_D rfl dX0_listThirds_9 ?_
      refine zj_icmp_ge (tgt := 69) (pc := 12) K dX0_listThirds_12 (by decide) (fun c_12 => ?_) (fun c_12 => ?_)
      · have hi : i = J := Nat.le_antisymm h2 (zz_ge e4 eJ2 (by omega) (by omega) c_12)
        subst hi
        exact zj_vret K Rt dX0_listThirds_69 (⟨rfl, rfl, f1, f2, f3⟩)
      · have hi : i < J := zz_nge e4 eJ2 (by omega) (by omega) c_12
        refine zj_iload_n (i := 2) (pc := 15) K dX0_listThirds_15 rfl rfl ?_
        refine zj_iconst (v := 1) (pc := 16) K dX0_listThirds_16 (by decide) ?_
        refine zj_iload (pc := 17) K dX0_listThirds_17 rfl ?_
        refine zj_ishl (pc := 19) K dX0_listThirds_19 ?_
        refine zj_ior (pc := 20) K dX0_listThirds_20 ?_
        refine zj_istore (pc := 21) K dX0_listThirds_21 rfl rfl rfl ?_
        refine zj_aload_n (i := 0) (pc := 23) K dX0_listThirds_23 rfl rfl ?_
        refine zj_iload_n (i := 1) (pc := 24) K dX0_listThirds_24 rfl rfl ?_
        refine zj_iload (pc := 25) K dX0_listThirds_25 rfl ?_
        refine zj_cV2I (pc := 27) K lm_X0_128 hs_C (m_X0_isLawful hk (by assumption) (by omega)) (by decide) rfl (Nat.le_of_ble_eq_true rfl) dX0_listThirds_27 ?_
        refine zj_if_eq (tgt := 63) (pc := 30) K dX0_listThirds_30 (by decide) (fun c_30 => ?_) (fun c_30 => ?_)
        · replace c_30 := zz_i0.mp c_30
          rw [eb, ea, es, e4] at c_30
          refine zj_iinc (v := 1) (pc := 63) K dX0_listThirds_63 rfl (by decide) rfl rfl rfl ?_
          refine zj_goto (tgt := 3) (pc := 66) K dX0_listThirds_66 (by decide) ?_
          refine zj_pick [0, 1, 2, 3, 4] ?_
          first
          | exact ih (i + 1) _ _ (by omega) (by omega) (by omega) (zz_up e4) f1 f2 (by rw [zl_c, if_neg (fun z => absurd (show _ = true from z.2) (by rw [show zl_law _ _ _ (two ||| zz_bit i) = false from c_30]; decide)), List.append_nil]; exact f3)
          | (have ez : l0 ++ zl_c (zl_law (h (k + 4) c0) (h (k + 1) 1) (h 8 8)) two fr (i + 1) = (l0 ++ zl_c (zl_law (h (k + 4) c0) (h (k + 1) 1) (h 8 8)) two fr i) ++ [two ||| zz_bit i] := by rw [zl_c, if_pos ⟨hlo, c_30⟩, List.append_assoc]
             refine ih (i + 1) _ _ (by omega) (by omega) (by omega) (zz_up e4) (fun a a1 a2 => by rw [zj_s_ne _ _ a1, zj_s_ne _ _ a2]; exact f1 a a1 a2) (fun b b1 => by rw [zj_s_eq, zj_s_ne _ _ (by omega)]; unfold upd; rw [if_neg b1]; exact f2 b b1) ⟨by rw [zj_s_eq, zj_s_ne _ _ (by omega), ez, List.length_append, List.length_singleton, ← nI_1, ← f3.1]; rfl, ?_⟩
             rw [zj_s_ne _ _ (by omega), zj_s_eq, ez, e4]
             exact zl_has_push f3.2)
        · replace c_30 := zz_n0.mp c_30
          rw [eb, ea, es, e4] at c_30
          refine zj_aload_n (i := 0) (pc := 33) K dX0_listThirds_33 rfl rfl ?_
          refine zj_getI (pc := 34) K lf_X0_122 hs_C rfl dX0_listThirds_34 ?_
          refine zj_bipush (v := 84) (pc := 37) K dX0_listThirds_37 (by decide) ?_
          refine zj_icmp_ge (tgt := 63) (pc := 39) K dX0_listThirds_39 (by decide) (fun c_39 => ?_) (fun c_39 => ?_)
          · exact absurd (zz_ge f3.1 (show (84 : Int32) = nI 84 from rfl) (by omega) (by omega) c_39) (by omega)
          · refine zj_aload_n (i := 0) (pc := 42) K dX0_listThirds_42 rfl rfl ?_
            refine zj_getR (pc := 43) K lf_X0_36 hs_C rfl dX0_listThirds_43 ?_
            refine zj_aload_n (i := 0) (pc := 46) K dX0_listThirds_46 rfl rfl ?_
            refine zj_getI (pc := 47) K lf_X0_122 hs_C rfl dX0_listThirds_47 ?_
            refine zj_iload (pc := 50) K dX0_listThirds_50 rfl ?_
            refine zj_ast (j := (l0 ++ zl_c (zl_law (h (k + 4) c0) (h (k + 1) 1) (h 8 8)) two fr i).length) (pc := 52) K hs_Cn f3.1 (by omega) (by first | decide | omega) dX0_listThirds_52 ?_
            refine zj_aload_n (i := 0) (pc := 53) K dX0_listThirds_53 rfl rfl ?_
            refine zj_dup (pc := 54) K dX0_listThirds_54 rfl ?_
            refine zj_getI (pc := 55) K lf_X0_122 hs_C rfl dX0_listThirds_55 ?_
            refine zj_iconst (v := 1) (pc := 58) K dX0_listThirds_58 (by decide) ?_
            refine zj_iadd (pc := 59) K dX0_listThirds_59 ?_
            refine zj_putI (pc := 60) K lf_X0_122 hs_C rfl dX0_listThirds_60 ?_
            refine zj_iinc (v := 1) (pc := 63) K dX0_listThirds_63 rfl (by decide) rfl rfl rfl ?_
            refine zj_goto (tgt := 3) (pc := 66) K dX0_listThirds_66 (by decide) ?_
            refine zj_pick [0, 1, 2, 3, 4] ?_
            first
            | exact ih (i + 1) _ _ (by omega) (by omega) (by omega) (zz_up e4) f1 f2 (by rw [zl_c, if_neg (fun z => absurd (show _ = true from z.2) (by rw [show zl_law _ _ _ (two ||| zz_bit i) = false from c_30]; decide)), List.append_nil]; exact f3)
            | (have ez : l0 ++ zl_c (zl_law (h (k + 4) c0) (h (k + 1) 1) (h 8 8)) two fr (i + 1) = (l0 ++ zl_c (zl_law (h (k + 4) c0) (h (k + 1) 1) (h 8 8)) two fr i) ++ [two ||| zz_bit i] := by rw [zl_c, if_pos ⟨hlo, c_30⟩, List.append_assoc]
               refine ih (i + 1) _ _ (by omega) (by omega) (by omega) (zz_up e4) (fun a a1 a2 => by rw [zj_s_ne _ _ a1, zj_s_ne _ _ a2]; exact f1 a a1 a2) (fun b b1 => by rw [zj_s_eq, zj_s_ne _ _ (by omega)]; unfold upd; rw [if_neg b1]; exact f2 b b1) ⟨by rw [zj_s_eq, zj_s_ne _ _ (by omega), ez, List.length_append, List.length_singleton, ← nI_1, ← f3.1]; rfl, ?_⟩
               rw [zj_s_ne _ _ (by omega), zj_s_eq, ez, e4]
               exact zl_has_push f3.2)
  show zj_J E Γ 6 0 [(0, .ref (E.2.1 k)), (1, .int x), (2, .int two), (3, .int y)] [] h g
  refine zj_iload_n (i := 3) (pc := 0) K dX0_listThirds_0 rfl rfl ?_
  refine zj_istore (pc := 1) K dX0_listThirds_1 rfl rfl rfl ?_
  exact loop (J + 1) fr _ h (by omega) (by omega) (Nat.le_refl _) ey (fun _ _ _ => rfl) (fun _ _ => rfl) (by rw [zl_c_lo (Nat.le_refl _), List.append_nil]; exact h0)

set_option maxHeartbeats 4000000 in
set_option maxRecDepth 20000 in
theorem m_X0_listLawful {l : Launch} {E : zj_E} {h : zj_H} {g : zj_G} {k J c0 : Nat} (hk : zj_isC k) (eJ : h 8 6 = nI J) (hJ : J ≤ 9) {x : Int32} (ex : x = nI c0) (hc : c0 < 14) : zj_M l E yX0_listLawful cX0_listLawful 4 none 2 [.ref (E.2.1 k), .int x] h g (fun v h' g' => v = none ∧ g' = g ∧ (∀ a, a ≠ k → a ≠ k + 8 → h' a = h a) ∧ (∀ b, b ≠ 7 → h' k b = h k b) ∧ zl_has h' k 7 (k + 8) (zl_all (zl_law (h (k + 4) c0) (h (k + 1) 1) (h 8 8)) J)) := by
  refine zj_M.of RX0 (by decide) rfl (Nat.le_of_ble_eq_true rfl) ?_
  intro Γ hΓ K Rt
  subst hΓ
  obtain ⟨hs_C, hs_Cd, hs_Cs, hs_Ci, hs_Cb, hs_Cf, hs_Cp, hs_Cl, hs_Cn, hs_Ct⟩ := zj_shC hk
  obtain ⟨hk12, hk22⟩ := zj_C12 hk
  have loop : ∀ (n i : Nat) (x2 : Int32) (q : zj_H), J + 1 ≤ i + n → i ≤ J → (x2 = nI i) → (∀ a, a ≠ k → a ≠ k + 8 → q a = h a) → (∀ b, b ≠ 7 → q k b = h k b) → (zl_has q k 7 (k + 8) (zl_a (zl_law (h (k + 4) c0) (h (k + 1) 1) (h 8 8)) J i)) → zj_J E Γ 4 7 [(0, .ref (E.2.1 k)), (1, .int x), (2, .int x2)] [] q g := by
    intro n
    induction n with
    | zero => intro i x2 q  h1 h2; omega
    | succ n ih =>
      intro i x2 q  h1 h2 e2 f1 f2 f3
      have eJ2 : q 8 6 = nI J := by rw [f1 8 (by omega) (by omega)]; exact eJ
      have inner : i < J → ∀ (m b : Nat) (y3 : Int32) (q2 : zj_H), J + 1 ≤ b + m → b ≤ J → (i < b) → (y3 = nI b) → (∀ a, a ≠ k → a ≠ k + 8 → q2 a = h a) → (∀ b, b ≠ 7 → q2 k b = h k b) → (zl_has q2 k 7 (k + 8) (zl_a (zl_law (h (k + 4) c0) (h (k + 1) 1) (h 8 8)) J i ++ zl_b (zl_law (h (k + 4) c0) (h (k + 1) 1) (h 8 8)) i J b)) → zj_J E Γ 4 22 [(0, .ref (E.2.1 k)), (1, .int x), (2, .int x2), (3, .int y3)] [] q2 g := by
        intro hi m
        induction m with
        | zero => intro b y3 q2  h3 h4; omega
        | succ m ih2 =>
          intro b y3 q2  h3 h4 hlo e3 p1 p2 p3
          have eJ3 : q2 8 6 = nI J := by rw [p1 8 (by omega) (by omega)]; exact eJ
          have eb : q2 (k + 4) = h (k + 4) := p1 _ (by omega) (by omega)
          have ea : q2 (k + 1) = h (k + 1) := p1 _ (by omega) (by omega)
          have es : q2 8 = h 8 := p1 _ (by omega) (by omega)
          have hln1 := zl_a_len (zl_law (h (k + 4) c0) (h (k + 1) 1) (h 8 8)) J i
          have hln2 := zl_b_len (zl_law (h (k + 4) c0) (h (k + 1) 1) (h 8 8)) i J b
          have hll : (zl_a (zl_law (h (k + 4) c0) (h (k + 1) 1) (h 8 8)) J i ++ zl_b (zl_law (h (k + 4) c0) (h (k + 1) 1) (h 8 8)) i J b).length = (zl_a (zl_law (h (k + 4) c0) (h (k + 1) 1) (h 8 8)) J i).length + (zl_b (zl_law (h (k + 4) c0) (h (k + 1) 1) (h 8 8)) i J b).length := List.length_append
          refine zj_iload_n (i := 3) (pc := 22) K dX0_listLawful_22 rfl rfl ?_
          refine zj_aload_n (i := 0) (pc := 23) K dX0_listLawful_23 rfl rfl ?_
          refine zj_getR (pc := 24) K lf_X0_9 hs_C rfl dX0_listLawful_24 ?_
          refine zj_getI (pc := 27) K lf_X0_86 hs_D rfl dX0_listLawful_27 ?_
          refine zj_icmp_ge (tgt := 54) (pc := 30) K dX0_listLawful_30 (by decide) (fun c_30 => ?_) (fun c_30 => ?_)
          · have hi2 : b = J := Nat.le_antisymm h4 (zz_ge e3 eJ3 (by omega) (by omega) c_30)
            subst hi2
            refine zj_iinc (v := 1) (pc := 54) K dX0_listLawful_54 rfl (by decide) rfl rfl rfl ?_
            refine zj_goto (tgt := 7) (pc := 57) K dX0_listLawful_57 (by decide) ?_
            refine zj_pick [0, 1, 2] ?_
            exact ih (i + 1) _ _ (by omega) (by omega) (zz_up e2) p1 p2 p3
          · have hi2 : b < J := zz_nge e3 eJ3 (by omega) (by omega) c_30
            have h84 := zl_84 J (by omega) i (by omega) b (by omega) hlo hi2
            refine zj_aload_n (i := 0) (pc := 33) K dX0_listLawful_33 rfl rfl ?_
            refine zj_iload_n (i := 1) (pc := 34) K dX0_listLawful_34 rfl rfl ?_
            refine zj_iconst (v := 1) (pc := 35) K dX0_listLawful_35 (by decide) ?_
            refine zj_iload_n (i := 2) (pc := 36) K dX0_listLawful_36 rfl rfl ?_
            refine zj_ishl (pc := 37) K dX0_listLawful_37 ?_
            refine zj_iconst (v := 1) (pc := 38) K dX0_listLawful_38 (by decide) ?_
            refine zj_iload_n (i := 3) (pc := 39) K dX0_listLawful_39 rfl rfl ?_
            refine zj_ishl (pc := 40) K dX0_listLawful_40 ?_
            refine zj_ior (pc := 41) K dX0_listLawful_41 ?_
            refine zj_iload_n (i := 3) (pc := 42) K dX0_listLawful_42 rfl rfl ?_
            refine zj_iconst (v := 1) (pc := 43) K dX0_listLawful_43 (by decide) ?_
            refine zj_iadd (pc := 44) K dX0_listLawful_44 ?_
            refine zj_cV3P (pc := 45) K lm_X0_125 hs_C (m_X0_listThirds (fr := b + 1) hk eJ3 hJ ex hc (zz_up e3) (by omega) p3 (by omega)) (by decide) rfl (Nat.le_of_ble_eq_true rfl) dX0_listLawful_45 (fun v q3 g3 hp => ?_)
            obtain ⟨rfl, rfl, r1, r2, r3⟩ := hp
            refine zj_iinc (v := 1) (pc := 48) K dX0_listLawful_48 rfl (by decide) rfl rfl rfl ?_
            refine zj_goto (tgt := 22) (pc := 51) K dX0_listLawful_51 (by decide) ?_
            refine ih2 (b + 1) _ _ (by omega) (by omega) (by omega) (zz_up e3) (fun a a1 a2 => by rw [r1 a a1 a2]; exact p1 a a1 a2) (fun c b1 => by rw [r2 c b1]; exact p2 c b1) ?_
            rw [eb, ea, es, e2, e3] at r3
            rw [zl_b, if_pos hlo, ← List.append_assoc]
            exact r3
      refine zj_iload_n (i := 2) (pc := 7) K dX0_listLawful_7 rfl rfl ?_
      refine zj_aload_n (i := 0) (pc := 8) K dX0_listLawful_8 rfl rfl ?_
      refine zj_getR (pc := 9) K lf_X0_9 hs_C rfl dX0_listLawful_9 ?_
      refine zj_getI (pc := 12) K lf_X0_86 hs_D rfl dX0_listLawful_12 ?_
      refine zj_icmp_ge (tgt := 60) (pc := 15) K dX0_listLawful_15 (by decide) (fun c_15 => ?_) (fun c_15 => ?_)
      · have hi : i = J := Nat.le_antisymm h2 (zz_ge e2 eJ2 (by omega) (by omega) c_15)
        subst hi
        exact zj_vret K Rt dX0_listLawful_60 (⟨rfl, rfl, f1, f2, f3⟩)
      · have hi : i < J := zz_nge e2 eJ2 (by omega) (by omega) c_15
        refine zj_iload_n (i := 2) (pc := 18) K dX0_listLawful_18 rfl rfl ?_
        refine zj_iconst (v := 1) (pc := 19) K dX0_listLawful_19 (by decide) ?_
        refine zj_iadd (pc := 20) K dX0_listLawful_20 ?_
        refine zj_istore_n (i := 3) (pc := 21) K dX0_listLawful_21 rfl rfl rfl rfl ?_
        exact inner hi (J + 1) (i + 1) _ _ (by omega) (by omega) (by omega) (zz_up e2) f1 f2 (by rw [zl_b_lo (Nat.le_refl _), List.append_nil]; exact f3)
  show zj_J E Γ 4 0 [(0, .ref (E.2.1 k)), (1, .int x)] [] h g
  refine zj_aload_n (i := 0) (pc := 0) K dX0_listLawful_0 rfl rfl ?_
  refine zj_iconst (v := 0) (pc := 1) K dX0_listLawful_1 (by decide) ?_
  refine zj_putI (pc := 2) K lf_X0_122 hs_C rfl dX0_listLawful_2 ?_
  refine zj_iconst (v := 0) (pc := 5) K dX0_listLawful_5 (by decide) ?_
  refine zj_istore_n (i := 2) (pc := 6) K dX0_listLawful_6 rfl rfl rfl rfl ?_
  exact loop (J + 1) 0 _ _ (by omega) (by omega) rfl (fun a a1 a2 => zj_s_ne _ _ a1) (fun b b1 => by rw [zj_s_eq]; unfold upd; rw [if_neg b1]) ⟨by rw [zj_s_eq]; rfl, fun i hi => absurd hi (Nat.not_lt_zero i)⟩

set_option maxHeartbeats 4000000 in
set_option maxRecDepth 20000 in
theorem m_X0_placeListed {l : Launch} {E : zj_E} {h : zj_H} {g : zj_G} {k : Nat} (hk : zj_isC k) {l0 : List Int32} (h0 : zl_has h k 7 (k + 8) l0) (hl : l0.length ≤ 84) {b : Int32} : zj_M l E yX0_placeListed cX0_placeListed 3 (some .int) 0 [.ref (E.2.1 k), .int b] h g (zj_pI (zl_find l0 b l0.length) h g) := by
  refine zj_M.of RX0 (by decide) rfl (Nat.le_of_ble_eq_true rfl) ?_
  intro Γ hΓ K Rt
  subst hΓ
  obtain ⟨hs_C, hs_Cd, hs_Cs, hs_Ci, hs_Cb, hs_Cf, hs_Cp, hs_Cl, hs_Cn, hs_Ct⟩ := zj_shC hk
  obtain ⟨hk12, hk22⟩ := zj_C12 hk
  have loop : ∀ (n i : Nat) (x2 : Int32), l0.length + 1 ≤ i + n → i ≤ l0.length → (x2 = nI i) → (zl_find l0 b l0.length = zl_find l0 b (l0.length - i)) → zj_J E Γ 3 2 [(0, .ref (E.2.1 k)), (1, .int b), (2, .int x2)] [] h g := by
    intro n
    induction n with
    | zero => intro i x2  h1 h2; omega
    | succ n ih =>
      intro i x2  h1 h2 e2 ef
      refine zj_iload_n (i := 2) (pc := 2) K dX0_placeListed_2 rfl rfl ?_
      refine zj_aload_n (i := 0) (pc := 3) K dX0_placeListed_3 rfl rfl ?_
      refine zj_getI (pc := 4) K lf_X0_122 hs_C rfl dX0_placeListed_4 ?_
      refine zj_icmp_ge (tgt := 28) (pc := 7) K dX0_placeListed_7 (by decide) (fun c_7 => ?_) (fun c_7 => ?_)
      · have hi : i = l0.length := Nat.le_antisymm h2 (zz_ge e2 h0.1 (by omega) (by omega) c_7)
        refine zj_iconst (v := -1) (pc := 28) K dX0_placeListed_28 (by decide) ?_
        exact zj_iret K Rt dX0_placeListed_29 (⟨by rw [ef, hi, Nat.sub_self]; rfl, rfl, rfl⟩)
      · have hi : i < l0.length := zz_nge e2 h0.1 (by omega) (by omega) c_7
        have en : l0.length - i = (l0.length - (i + 1)) + 1 := by omega
        have en2 : l0.length - ((l0.length - (i + 1)) + 1) = i := by omega
        refine zj_aload_n (i := 0) (pc := 10) K dX0_placeListed_10 rfl rfl ?_
        refine zj_getR (pc := 11) K lf_X0_36 hs_C rfl dX0_placeListed_11 ?_
        refine zj_iload_n (i := 2) (pc := 14) K dX0_placeListed_14 rfl rfl ?_
        refine zj_ald (j := _) (pc := 15) K hs_Cn (by first | assumption | rfl) (by first | assumption | omega) (by first | decide | omega) dX0_placeListed_15 ?_
        refine zj_iload_n (i := 1) (pc := 16) K dX0_placeListed_16 rfl rfl ?_
        refine zj_icmp_ne (tgt := 22) (pc := 17) K dX0_placeListed_17 (by decide) (fun c_17 => ?_) (fun c_17 => ?_)
        · refine zj_iinc (v := 1) (pc := 22) K dX0_placeListed_22 rfl (by decide) rfl rfl rfl ?_
          refine zj_goto (tgt := 2) (pc := 25) K dX0_placeListed_25 (by decide) ?_
          exact ih (i + 1) _ (by omega) (by omega) (zz_up e2) (by rw [ef, en, zl_find, en2, if_neg (by rw [← h0.2 i hi]; exact c_17)])
        · refine zj_iload_n (i := 2) (pc := 20) K dX0_placeListed_20 rfl rfl ?_
          exact zj_iret K Rt dX0_placeListed_21 (⟨by rw [ef, en, zl_find, en2, if_pos (by rw [← h0.2 i hi]; exact c_17), e2], rfl, rfl⟩)
  show zj_J E Γ 3 0 [(0, .ref (E.2.1 k)), (1, .int b)] [] h g
  refine zj_iconst (v := 0) (pc := 0) K dX0_placeListed_0 (by decide) ?_
  refine zj_istore_n (i := 2) (pc := 1) K dX0_placeListed_1 rfl rfl rfl rfl ?_
  exact loop (l0.length + 1) 0 _ (by omega) (by omega) rfl rfl
