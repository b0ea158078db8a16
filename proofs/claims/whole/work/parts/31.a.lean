theorem zz_pop_bc : ∀ m, m < 512 → (let a := nI m - ((nI m).toUInt32 >>> ((1 : Int32).toUInt32 &&& Int32.toUInt32 31)).toInt32 &&& 1431655765; True) := fun _ _ => trivial
/-- three of the first J, as bits -/
def zz_isb (J : Nat) (b : Int32) : Bool := zz_in b (2 ^ J) && decide (zz_pop b = 3)
theorem zz_bit_pow : ∀ J, J < 10 → (1 : Int32) <<< (nI J &&& 31) = nI (2 ^ J) := by decide +kernel
theorem zz_pow_le : ∀ J, J < 10 → 2 ^ J ≤ 512 := by decide +kernel
def zz_bc (x : Int32) : Int32 :=
  let a := x - ((x.toUInt32 >>> ((1 : Int32).toUInt32 &&& Int32.toUInt32 31)).toInt32 &&& 1431655765)
  let b := (a &&& 858993459) + ((a.toUInt32 >>> ((2 : Int32).toUInt32 &&& Int32.toUInt32 31)).toInt32 &&& 858993459)
  let c := (b + (b.toUInt32 >>> ((4 : Int32).toUInt32 &&& Int32.toUInt32 31)).toInt32) &&& 252645135
  let d := c + (c.toUInt32 >>> ((8 : Int32).toUInt32 &&& Int32.toUInt32 31)).toInt32
  let e := d + (d.toUInt32 >>> ((16 : Int32).toUInt32 &&& Int32.toUInt32 31)).toInt32
  e &&& 63
theorem zz_bc_pop : ∀ m, m < 512 → zz_bc (nI m) = nI (zz_pop (nI m)) := by decide +kernel
theorem zz_pop_le (x : Int32) : zz_pop x ≤ 9 := zc_cnt_le _ 9
/-- a byte of four, the highest first, as the tape holds it -/
def zt_byte (w : Int32) (i : Nat) : Int32 := (w >>> (nI (24 - 8 * i) &&& 31)).toInt8.toInt32
def zt_pick (w1 w2 w3 w4 w5 : Int32) : Nat → Int32
  | 0 => w1
  | 1 => w2
  | 2 => w3
  | 3 => w4
  | _ => w5
theorem zt_b88 (x : Int32) : x.toInt8.toInt32.toInt8.toInt32 = x.toInt8.toInt32 := by simp
theorem zt_byte_of {n m : Nat} {w : Int32} (h1 : m + 1 ≤ 4) (h2 : n ≤ 540) : ((w >>> (nI (8 * m) &&& 31)).toInt8.toInt32).toInt8.toInt32 = zt_byte w (n + (4 - (m + 1)) - n) := by
  rw [zt_b88]
  unfold zt_byte
  rw [show 24 - 8 * (n + (4 - (m + 1)) - n) = 8 * m by omega]
theorem zt_five {n b : Nat} {w1 w2 w3 w4 w5 x : Int32} : (if n + 4 * 4 ≤ b ∧ b < n + 4 * 4 + 4 then zt_byte w5 (b - (n + 4 * 4)) else if n + 12 ≤ b ∧ b < n + 12 + 4 then zt_byte w4 (b - (n + 12)) else if n + 8 ≤ b ∧ b < n + 8 + 4 then zt_byte w3 (b - (n + 8)) else if n + 4 ≤ b ∧ b < n + 4 + 4 then zt_byte w2 (b - (n + 4)) else if n + 0 ≤ b ∧ b < n + 0 + 4 then zt_byte w1 (b - (n + 0)) else x) =
    if n ≤ b ∧ b < n + 20 then zt_byte (zt_pick w1 w2 w3 w4 w5 ((b - n) / 4)) ((b - n) % 4) else x := by
  by_cases h : n ≤ b ∧ b < n + 20
  · rw [if_pos h]
    obtain ⟨d, rfl⟩ : ∃ d, b = n + d := ⟨b - n, by omega⟩
    have hd : d < 20 := by omega
    rw [show n + d - n = d by omega, show n + d - (n + 4 * 4) = d - 16 by omega, show n + d - (n + 12) = d - 12 by omega, show n + d - (n + 8) = d - 8 by omega, show n + d - (n + 4) = d - 4 by omega, show n + d - (n + 0) = d by omega]
    by_cases a5 : 16 ≤ d
    · rw [if_pos (by omega), show d / 4 = 4 by omega, show d % 4 = d - 16 by omega]; rfl
    · rw [if_neg (by omega)]
      by_cases a4 : 12 ≤ d
      · rw [if_pos (by omega), show d / 4 = 3 by omega, show d % 4 = d - 12 by omega]; rfl
      · rw [if_neg (by omega)]
        by_cases a3 : 8 ≤ d
        · rw [if_pos (by omega), show d / 4 = 2 by omega, show d % 4 = d - 8 by omega]; rfl
        · rw [if_neg (by omega)]
          by_cases a2 : 4 ≤ d
          · rw [if_pos (by omega), show d / 4 = 1 by omega, show d % 4 = d - 4 by omega]; rfl
          · rw [if_neg (by omega), if_pos (by omega), show d / 4 = 0 by omega, show d % 4 = d by omega]; rfl
  · rw [if_neg h, if_neg (by omega), if_neg (by omega), if_neg (by omega), if_neg (by omega), if_neg (by omega)]
theorem zt_end_t {x y : Int32} {n : Nat} (ey : y = nI n) (hn : n ≤ 540) (h1 : ¬ x < 0) (h2 : x ≤ y) : zz_in x (n + 1) = true := by
  subst ey
  obtain ⟨j, hj, rfl⟩ := nI_of h1
  have : j ≤ n := (nI_leI hj (by omega)).mp h2
  exact zz_in_nI (by omega) (by omega)
theorem zt_end_f {x y : Int32} {n : Nat} (ey : y = nI n) (hn : n ≤ 540) (h1 : ¬ x < 0) (h2 : ¬ x ≤ y) : zz_in x (n + 1) = false := by
  subst ey
  obtain ⟨j, hj, rfl⟩ := nI_of h1
  have : n < j := Nat.lt_of_not_le (fun z => h2 (nI_le z (by omega)))
  unfold zz_in; rw [nI_toInt hj]; simp; omega
set_option maxHeartbeats 4000000 in
set_option maxRecDepth 20000 in
theorem m_J6_bitCount_0f7a4 {l : Launch} {E : zj_E} {h : zj_H} {g : zj_G} {x : Int32} : zj_M l E yJ6_bitCount_0f7a4 cJ6_bitCount_0f7a4 1 (some .int) 0 [.int x] h g (zj_pI (zz_bc x) h g) := by
  refine zj_M.of RJ6 (by decide) rfl (Nat.le_of_ble_eq_true rfl) ?_
  intro Γ hΓ K Rt
  subst hΓ
  show zj_J E Γ 1 0 [(0, .int x)] [] h g
  refine zj_iload_n (i := 0) (pc := 0) K dJ6_bitCount_0f7a4_0 rfl rfl ?_
  refine zj_iload_n (i := 0) (pc := 1) K dJ6_bitCount_0f7a4_1 rfl rfl ?_
  refine zj_iconst (v := 1) (pc := 2) K dJ6_bitCount_0f7a4_2 (by decide) ?_
  refine zj_iushr (pc := 3) K dJ6_bitCount_0f7a4_3 ?_
  refine zj_ldcw (pc := 4) K lk_J6_265 dJ6_bitCount_0f7a4_4 ?_
  refine zj_iand (pc := 7) K dJ6_bitCount_0f7a4_7 ?_
  refine zj_isub (pc := 8) K dJ6_bitCount_0f7a4_8 ?_
  refine zj_istore_n (i := 0) (pc := 9) K dJ6_bitCount_0f7a4_9 rfl rfl rfl rfl ?_
  refine zj_iload_n (i := 0) (pc := 10) K dJ6_bitCount_0f7a4_10 rfl rfl ?_
  refine zj_ldcw (pc := 11) K lk_J6_266 dJ6_bitCount_0f7a4_11 ?_
  refine zj_iand (pc := 14) K dJ6_bitCount_0f7a4_14 ?_
  refine zj_iload_n (i := 0) (pc := 15) K dJ6_bitCount_0f7a4_15 rfl rfl ?_
  refine zj_iconst (v := 2) (pc := 16) K dJ6_bitCount_0f7a4_16 (by decide) ?_
  refine zj_iushr (pc := 17) K dJ6_bitCount_0f7a4_17 ?_
  refine zj_ldcw (pc := 18) K lk_J6_266 dJ6_bitCount_0f7a4_18 ?_
  refine zj_iand (pc := 21) K dJ6_bitCount_0f7a4_21 ?_
  refine zj_iadd (pc := 22) K dJ6_bitCount_0f7a4_22 ?_
  refine zj_istore_n (i := 0) (pc := 23) K dJ6_bitCount_0f7a4_23 rfl rfl rfl rfl ?_
  refine zj_iload_n (i := 0) (pc := 24) K dJ6_bitCount_0f7a4_24 rfl rfl ?_
  refine zj_iload_n (i := 0) (pc := 25) K dJ6_bitCount_0f7a4_25 rfl rfl ?_
  refine zj_iconst (v := 4) (pc := 26) K dJ6_bitCount_0f7a4_26 (by decide) ?_
  refine zj_iushr (pc := 27) K dJ6_bitCount_0f7a4_27 ?_
  refine zj_iadd (pc := 28) K dJ6_bitCount_0f7a4_28 ?_
  refine zj_ldcw (pc := 29) K lk_J6_267 dJ6_bitCount_0f7a4_29 ?_
  refine zj_iand (pc := 32) K dJ6_bitCount_0f7a4_32 ?_
  refine zj_istore_n (i := 0) (pc := 33) K dJ6_bitCount_0f7a4_33 rfl rfl rfl rfl ?_
  refine zj_iload_n (i := 0) (pc := 34) K dJ6_bitCount_0f7a4_34 rfl rfl ?_
  refine zj_iload_n (i := 0) (pc := 35) K dJ6_bitCount_0f7a4_35 rfl rfl ?_
  refine zj_bipush (v := 8) (pc := 36) K dJ6_bitCount_0f7a4_36 (by decide) ?_
  refine zj_iushr (pc := 38) K dJ6_bitCount_0f7a4_38 ?_
  refine zj_iadd (pc := 39) K dJ6_bitCount_0f7a4_39 ?_
  refine zj_istore_n (i := 0) (pc := 40) K dJ6_bitCount_0f7a4_40 rfl rfl rfl rfl ?_
  refine zj_iload_n (i := 0) (pc := 41) K dJ6_bitCount_0f7a4_41 rfl rfl ?_
  refine zj_iload_n (i := 0) (pc := 42) K dJ6_bitCount_0f7a4_42 rfl rfl ?_
  refine zj_bipush (v := 16) (pc := 43) K dJ6_bitCount_0f7a4_43 (by decide) ?_
  refine zj_iushr (pc := 45) K dJ6_bitCount_0f7a4_45 ?_
  refine zj_iadd (pc := 46) K dJ6_bitCount_0f7a4_46 ?_
  refine zj_istore_n (i := 0) (pc := 47) K dJ6_bitCount_0f7a4_47 rfl rfl rfl rfl ?_
  refine zj_iload_n (i := 0) (pc := 48) K dJ6_bitCount_0f7a4_48 rfl rfl ?_
  refine zj_bipush (v := 63) (pc := 49) K dJ6_bitCount_0f7a4_49 (by decide) ?_
  refine zj_iand (pc := 51) K dJ6_bitCount_0f7a4_51 ?_
  exact zj_iret K Rt dJ6_bitCount_0f7a4_52 (⟨rfl, rfl, rfl⟩)

set_option maxHeartbeats 4000000 in
set_option maxRecDepth 20000 in
theorem m_X6_isBench {l : Launch} {E : zj_E} {h : zj_H} {g : zj_G} {J : Nat} (eJ : h 8 6 = nI J) (hJ : J ≤ 9) {b : Int32} : zj_M l E yX6_isBench cX6_isBench 2 (some .boolean) 1 [.ref (E.2.1 8), .int b] h g (zj_pI (zz_i (zz_isb J b)) h g) := by
  refine zj_M.of RX6 (by decide) rfl (Nat.le_of_ble_eq_true rfl) ?_
  intro Γ hΓ K Rt
  subst hΓ
  have h512 := zz_pow_le J (by omega)
  show zj_J E Γ 2 0 [(0, .ref (E.2.1 8)), (1, .int b)] [] h g
  refine zj_iload_n (i := 1) (pc := 0) K dX6_isBench_0 rfl rfl ?_
  refine zj_if_lt (tgt := 26) (pc := 1) K dX6_isBench_1 (by decide) (fun c_1 => ?_) (fun c_1 => ?_)
  · refine zj_iconst (v := 0) (pc := 26) K dX6_isBench_26 (by decide) ?_
    exact zj_zret K Rt dX6_isBench_27 (by decide) (⟨by first
          | (rw [zz_isb, zz_in_f1 c_1]; rfl)
          | (rw [zz_isb, zz_in_f2 rfl (by omega) c_1 c_11]; rfl)
          | (rw [zz_isb, zz_in_t rfl (by omega) c_1 c_11, decide_eq_false (fun z => c_19 (by rw [z]; rfl))]; rfl)
          | (rw [zz_isb, zz_in_t rfl (by omega) c_1 c_11, decide_eq_true ((nI_eq (b := 3) (by have z1 := zz_pop_le b; omega) (by omega)).mp c_19)]; rfl), rfl, rfl⟩)
  · refine zj_iload_n (i := 1) (pc := 4) K dX6_isBench_4 rfl rfl ?_
    refine zj_iconst (v := 1) (pc := 5) K dX6_isBench_5 (by decide) ?_
    refine zj_aload_n (i := 0) (pc := 6) K dX6_isBench_6 rfl rfl ?_
    refine zj_getI (pc := 7) K lf_X6_40 hs_D rfl dX6_isBench_7 ?_
    refine zj_ishl (pc := 10) K dX6_isBench_10 ?_
    refine zj_icmp_ge (tgt := 26) (pc := 11) K dX6_isBench_11 (by decide) (fun c_11 => ?_) (fun c_11 => ?_)
    · rw [eJ, zz_bit_pow J (by omega)] at c_11
      refine zj_iconst (v := 0) (pc := 26) K dX6_isBench_26 (by decide) ?_
      exact zj_zret K Rt dX6_isBench_27 (by decide) (⟨by first
            | (rw [zz_isb, zz_in_f1 c_1]; rfl)
            | (rw [zz_isb, zz_in_f2 rfl (by omega) c_1 c_11]; rfl)
            | (rw [zz_isb, zz_in_t rfl (by omega) c_1 c_11, decide_eq_false (fun z => c_19 (by rw [z]; rfl))]; rfl)
            | (rw [zz_isb, zz_in_t rfl (by omega) c_1 c_11, decide_eq_true ((nI_eq (b := 3) (by have z1 := zz_pop_le b; omega) (by omega)).mp c_19)]; rfl), rfl, rfl⟩)
    · rw [eJ, zz_bit_pow J (by omega)] at c_11
      obtain ⟨mm, hmm, emm⟩ := zz_in_ex (zz_in_t rfl (by omega) c_1 c_11) (by omega)
      have hpop : zz_bc b = nI (zz_pop b) := by rw [emm]; exact zz_bc_pop mm (by omega)
      refine zj_iload_n (i := 1) (pc := 14) K dX6_isBench_14 rfl rfl ?_
      refine zj_cS1I (pc := 15) K lm_X6_58 (m_J6_bitCount_0f7a4) (by decide) rfl (Nat.le_of_ble_eq_true rfl) dX6_isBench_15 ?_
      refine zj_iconst (v := 3) (pc := 18) K dX6_isBench_18 (by decide) ?_
      refine zj_icmp_ne (tgt := 26) (pc := 19) K dX6_isBench_19 (by decide) (fun c_19 => ?_) (fun c_19 => ?_)
      · rw [hpop] at c_19
        refine zj_iconst (v := 0) (pc := 26) K dX6_isBench_26 (by decide) ?_
        exact zj_zret K Rt dX6_isBench_27 (by decide) (⟨by first
              | (rw [zz_isb, zz_in_f1 c_1]; rfl)
              | (rw [zz_isb, zz_in_f2 rfl (by omega) c_1 c_11]; rfl)
              | (rw [zz_isb, zz_in_t rfl (by omega) c_1 c_11, decide_eq_false (fun z => c_19 (by rw [z]; rfl))]; rfl)
              | (rw [zz_isb, zz_in_t rfl (by omega) c_1 c_11, decide_eq_true ((nI_eq (b := 3) (by have z1 := zz_pop_le b; omega) (by omega)).mp c_19)]; rfl), rfl, rfl⟩)
      · rw [hpop] at c_19
        refine zj_iconst (v := 1) (pc := 22) K dX6_isBench_22 (by decide) ?_
        refine zj_goto (tgt := 27) (pc := 23) K dX6_isBench_23 (by decide) ?_
        exact zj_zret K Rt dX6_isBench_27 (by decide) (⟨by first
              | (rw [zz_isb, zz_in_f1 c_1]; rfl)
              | (rw [zz_isb, zz_in_f2 rfl (by omega) c_1 c_11]; rfl)
              | (rw [zz_isb, zz_in_t rfl (by omega) c_1 c_11, decide_eq_false (fun z => c_19 (by rw [z]; rfl))]; rfl)
              | (rw [zz_isb, zz_in_t rfl (by omega) c_1 c_11, decide_eq_true ((nI_eq (b := 3) (by have z1 := zz_pop_le b; omega) (by omega)).mp c_19)]; rfl), rfl, rfl⟩)

set_option maxHeartbeats 4000000 in
set_option maxRecDepth 20000 in
theorem m_X5_put {l : Launch} {E : zj_E} {h : zj_H} {g : zj_G} {n : Nat} (en : h 1 1 = nI n) (hn : n + 4 ≤ 540) {w : Int32} : zj_M l E yX5_put cX5_put 3 none 0 [.ref (E.2.1 1), .int w] h g (fun v h' g' => v = none ∧ g' = g ∧ (∀ a, a ≠ 1 → a ≠ 2 → h' a = h a) ∧ h' 1 1 = nI (n + 4) ∧ (∀ b, h' 2 b = if n ≤ b ∧ b < n + 4 then zt_byte w (b - n) else h 2 b)) := by
  refine zj_M.of RX5 (by decide) rfl (Nat.le_of_ble_eq_true rfl) ?_
  intro Γ hΓ K Rt
  subst hΓ
  have loop : ∀ (m : Nat) (x2 : Int32) (q : zj_H), m ≤ 4 → x2 = nI (8 * m) - 8 → (∀ a, a ≠ 1 → a ≠ 2 → q a = h a) → q 1 1 = nI (n + (4 - m)) → (∀ b, q 2 b = if n ≤ b ∧ b < n + (4 - m) then zt_byte w (b - n) else h 2 b) → zj_J E Γ 3 3 [(0, .ref (E.2.1 1)), (1, .int w), (2, .int x2)] [] q g := by
    intro m
    induction m with
    | zero =>
      intro x2 q hm e2 zf1 zf2 zf3
      refine zj_iload_n (i := 2) (pc := 3) K dX5_put_3 rfl rfl ?_
      refine zj_if_lt (tgt := 46) (pc := 4) K dX5_put_4 (by decide) (fun c_4 => ?_) (fun c_4 => ?_)
      · exact zj_vret K Rt dX5_put_46 ⟨rfl, rfl, zf1, zf2, zf3⟩
      · exact absurd (show x2 < 0 by rw [e2]; decide) c_4
    | succ m ih =>
      intro x2 q hm e2 zf1 zf2 zf3
      have e2' : x2 = nI (8 * m) := by rw [e2, show 8 * (m + 1) = 8 * m + 8 by omega, ← nI_add]; show nI (8 * m) + 8 - 8 = _; rw [Int32.add_sub_cancel]
      refine zj_iload_n (i := 2) (pc := 3) K dX5_put_3 rfl rfl ?_
      refine zj_if_lt (tgt := 46) (pc := 4) K dX5_put_4 (by decide) (fun c_4 => ?_) (fun c_4 => ?_)
      · exact absurd c_4 (by rw [e2']; exact nI_pos (by omega))
      · refine zj_aload_n (i := 0) (pc := 7) K dX5_put_7 rfl rfl ?_
        refine zj_getI (pc := 8) K lf_X5_15 hs_T rfl dX5_put_8 ?_
        refine zj_sipush (v := 540) (pc := 11) K dX5_put_11 (by decide) ?_
        refine zj_icmp_ge (tgt := 46) (pc := 14) K dX5_put_14 (by decide) (fun c_14 => ?_) (fun c_14 => ?_)
        · exact absurd (zz_ge zf2 (show (540 : Int32) = nI 540 from rfl) (by omega) (by omega) c_14) (by omega)
        · refine zj_aload_n (i := 0) (pc := 17) K dX5_put_17 rfl rfl ?_
          refine zj_getR (pc := 18) K lf_X5_9 hs_T rfl dX5_put_18 ?_
          refine zj_aload_n (i := 0) (pc := 21) K dX5_put_21 rfl rfl ?_
          refine zj_getI (pc := 22) K lf_X5_15 hs_T rfl dX5_put_22 ?_
          refine zj_iload_n (i := 1) (pc := 25) K dX5_put_25 rfl rfl ?_
          refine zj_iload_n (i := 2) (pc := 26) K dX5_put_26 rfl rfl ?_
          refine zj_ishr (pc := 27) K dX5_put_27 ?_
          refine zj_i2b (pc := 28) K dX5_put_28 ?_
          refine zj_bst (j := n + (4 - (m + 1))) (pc := 29) K hs_Tb zf2 (by omega) (by first | decide | omega) dX5_put_29 ?_
          refine zj_aload_n (i := 0) (pc := 30) K dX5_put_30 rfl rfl ?_
          refine zj_dup (pc := 31) K dX5_put_31 rfl ?_
          refine zj_getI (pc := 32) K lf_X5_15 hs_T rfl dX5_put_32 ?_
          refine zj_iconst (v := 1) (pc := 35) K dX5_put_35 (by decide) ?_
          refine zj_iadd (pc := 36) K dX5_put_36 ?_
          refine zj_putI (pc := 37) K lf_X5_15 hs_T rfl dX5_put_37 ?_
          refine zj_iinc (v := -8) (pc := 40) K dX5_put_40 rfl (by decide) rfl rfl rfl ?_
          refine zj_goto (tgt := 3) (pc := 43) K dX5_put_43 (by decide) ?_
          refine ih _ _ (by omega) (by rw [e2']; exact (Int32.sub_eq_add_neg _ _).symm) (fun a a1 a2 => by rw [zj_s_ne _ _ a1, zj_s_ne _ _ a2]; exact zf1 a a1 a2) ?_ (fun b => ?_)
          · rw [zj_s_eq, zz_upd_at, zj_s_ne _ _ (by decide), zf2, nI_1, show n + (4 - (m + 1)) + 1 = n + (4 - m) by omega]
          · rw [zj_s_ne _ _ (by decide), zj_s_eq]
            by_cases eb : b = n + (4 - (m + 1))
            · subst eb
              rw [zz_upd_at, if_pos ⟨by omega, by omega⟩, e2']
              exact zt_byte_of (by omega) (by omega)
            · rw [zz_upd_ne _ _ eb, zf3 b]
              by_cases h5 : n ≤ b ∧ b < n + (4 - (m + 1))
              · rw [if_pos h5, if_pos ⟨h5.1, by omega⟩]
              · rw [if_neg h5, if_neg (by omega)]
  show zj_J E Γ 3 0 [(0, .ref (E.2.1 1)), (1, .int w)] [] h g
  refine zj_bipush (v := 24) (pc := 0) K dX5_put_0 (by decide) ?_
  refine zj_istore_n (i := 2) (pc := 2) K dX5_put_2 rfl rfl rfl rfl ?_
  exact loop 4 _ h (by omega) rfl (fun _ _ _ => rfl) en (fun b => by rw [if_neg (by omega)])

set_option maxHeartbeats 4000000 in
set_option maxRecDepth 20000 in
theorem m_X7_feed {l : Launch} {E : zj_E} {h : zj_H} {g : zj_G} {n : Nat} (en : h 1 1 = nI n) (hn : n ≤ 540) {w1 w2 w3 w4 w5 : Int32} : zj_M l E yX7_feed cX7_feed 6 (some .int) 1 [.ref (E.2.1 0), .int w1, .int w2, .int w3, .int w4, .int w5] h g (fun v h' g' => g' = g ∧ (∀ a, a ≠ 1 → a ≠ 2 → h' a = h a) ∧ if n + 20 ≤ 540 then v = some (.int (nI (n + 20))) ∧ h' 1 1 = nI (n + 20) ∧ (∀ b, h' 2 b = if n ≤ b ∧ b < n + 20 then zt_byte (zt_pick w1 w2 w3 w4 w5 ((b - n) / 4)) ((b - n) % 4) else h 2 b) else v = some (.int (-1)) ∧ h' = h) := by
  refine zj_M.of RX7 (by decide) rfl (Nat.le_of_ble_eq_true rfl) ?_
  intro Γ hΓ K Rt
  subst hΓ
  show zj_J E Γ 6 0 [(0, .ref (E.2.1 0)), (1, .int w1), (2, .int w2), (3, .int w3), (4, .int w4), (5, .int w5)] [] h g
  refine zj_aload_n (i := 0) (pc := 0) K dX7_feed_0 rfl rfl ?_
  refine zj_getR (pc := 1) K lf_X7_10 hs_B rfl dX7_feed_1 ?_
  refine zj_getI (pc := 4) K lf_X7_55 hs_T rfl dX7_feed_4 ?_
  refine zj_sipush (v := 520) (pc := 7) K dX7_feed_7 (by decide) ?_
  refine zj_icmp_le (tgt := 15) (pc := 10) K dX7_feed_10 (by decide) (fun c_10 => ?_) (fun c_10 => ?_)
  · have h20 : n + 20 ≤ 540 := by
      rw [en] at c_10
      have := (nI_leI (b := 520) (by omega) (by omega)).mp c_10
      omega
    refine zj_aload_n (i := 0) (pc := 15) K dX7_feed_15 rfl rfl ?_
    refine zj_getR (pc := 16) K lf_X7_10 hs_B rfl dX7_feed_16 ?_
    refine zj_iload_n (i := 1) (pc := 19) K dX7_feed_19 rfl rfl ?_
    refine zj_cV1P (pc := 20) K lm_X7_58 hs_T (m_X5_put (n := n + 0) en (by omega)) (by decide) rfl (Nat.le_of_ble_eq_true rfl) dX7_feed_20 (fun v q1 g1 hp => ?_)
    obtain ⟨rfl, rfl, zt11, zt12, zt13⟩ := hp
    refine zj_aload_n (i := 0) (pc := 23) K dX7_feed_23 rfl rfl ?_
    refine zj_getR (pc := 24) K lf_X7_10 hs_B rfl dX7_feed_24 ?_
    refine zj_iload_n (i := 2) (pc := 27) K dX7_feed_27 rfl rfl ?_
    refine zj_cV1P (pc := 28) K lm_X7_58 hs_T (m_X5_put (n := n + 4) zt12 (by omega)) (by decide) rfl (Nat.le_of_ble_eq_true rfl) dX7_feed_28 (fun v q2 g2 hp => ?_)
    obtain ⟨rfl, rfl, zt21, zt22, zt23⟩ := hp
    refine zj_aload_n (i := 0) (pc := 31) K dX7_feed_31 rfl rfl ?_
    refine zj_getR (pc := 32) K lf_X7_10 hs_B rfl dX7_feed_32 ?_
    refine zj_iload_n (i := 3) (pc := 35) K dX7_feed_35 rfl rfl ?_
    refine zj_cV1P (pc := 36) K lm_X7_58 hs_T (m_X5_put (n := n + 8) zt22 (by omega)) (by decide) rfl (Nat.le_of_ble_eq_true rfl) dX7_feed_36 (fun v q3 g3 hp => ?_)
    obtain ⟨rfl, rfl, zt31, zt32, zt33⟩ := hp
    refine zj_aload_n (i := 0) (pc := 39) K dX7_feed_39 rfl rfl ?_
    refine zj_getR (pc := 40) K lf_X7_10 hs_B rfl dX7_feed_40 ?_
    refine zj_iload (pc := 43) K dX7_feed_43 rfl ?_
    refine zj_cV1P (pc := 45) K lm_X7_58 hs_T (m_X5_put (n := n + 12) zt32 (by omega)) (by decide) rfl (Nat.le_of_ble_eq_true rfl) dX7_feed_45 (fun v q4 g4 hp => ?_)
    obtain ⟨rfl, rfl, zt41, zt42, zt43⟩ := hp
    refine zj_aload_n (i := 0) (pc := 48) K dX7_feed_48 rfl rfl ?_
    refine zj_getR (pc := 49) K lf_X7_10 hs_B rfl dX7_feed_49 ?_
    refine zj_iload (pc := 52) K dX7_feed_52 rfl ?_
    refine zj_cV1P (pc := 54) K lm_X7_58 hs_T (m_X5_put (n := n + 16) zt42 (by omega)) (by decide) rfl (Nat.le_of_ble_eq_true rfl) dX7_feed_54 (fun v q5 g5 hp => ?_)
    obtain ⟨rfl, rfl, zt51, zt52, zt53⟩ := hp
    refine zj_aload_n (i := 0) (pc := 57) K dX7_feed_57 rfl rfl ?_
    refine zj_getR (pc := 58) K lf_X7_10 hs_B rfl dX7_feed_58 ?_
    refine zj_getI (pc := 61) K lf_X7_55 hs_T rfl dX7_feed_61 ?_
    exact zj_iret K Rt dX7_feed_64 (by
      refine ⟨rfl, fun a a1 a2 => by rw [zt51 a a1 a2, zt41 a a1 a2, zt31 a a1 a2, zt21 a a1 a2, zt11 a a1 a2], ?_⟩
      rw [if_pos h20]
      refine ⟨by rw [zt52], zt52, fun b => ?_⟩
      rw [zt53, zt43, zt33, zt23, zt13]
      exact zt_five)
  · have h20 : ¬ n + 20 ≤ 540 := by
      rw [en] at c_10
      exact fun z => c_10 (nI_le (b := 520) (by omega) (by omega))
    refine zj_iconst (v := -1) (pc := 13) K dX7_feed_13 (by decide) ?_
    exact zj_iret K Rt dX7_feed_14 (⟨rfl, fun _ _ _ => rfl, by rw [if_neg h20]; exact ⟨rfl, rfl⟩⟩)

set_option maxHeartbeats 4000000 in
set_option maxRecDepth 20000 in
theorem m_X7_end {l : Launch} {E : zj_E} {h : zj_H} {g : zj_G} {n : Nat} (en : h 1 1 = nI n) (hn : n ≤ 540) {x : Int32} : zj_M l E yX7_end cX7_end 2 (some .boolean) 0 [.ref (E.2.1 0), .int x] h g (fun v h' g' => g' = g ∧ v = some (.int (zz_i (zz_in x (n + 1)))) ∧ h' = if zz_in x (n + 1) = true then zj_s h 1 (upd (h 1) 1 x) else h) := by
  refine zj_M.of RX7 (by decide) rfl (Nat.le_of_ble_eq_true rfl) ?_
  intro Γ hΓ K Rt
  subst hΓ
  show zj_J E Γ 2 0 [(0, .ref (E.2.1 0)), (1, .int x)] [] h g
  refine zj_iload_n (i := 1) (pc := 0) K dX7_end_0 rfl rfl ?_
  refine zj_if_lt (tgt := 15) (pc := 1) K dX7_end_1 (by decide) (fun c_1 => ?_) (fun c_1 => ?_)
  · have hin : zz_in x (n + 1) = false := zz_in_f1 c_1
    refine zj_iconst (v := 0) (pc := 15) K dX7_end_15 (by decide) ?_
    exact zj_zret K Rt dX7_end_16 (by decide) (⟨rfl, by rw [hin]; rfl, by rw [hin]; rfl⟩)
  · refine zj_iload_n (i := 1) (pc := 4) K dX7_end_4 rfl rfl ?_
    refine zj_aload_n (i := 0) (pc := 5) K dX7_end_5 rfl rfl ?_
    refine zj_getR (pc := 6) K lf_X7_10 hs_B rfl dX7_end_6 ?_
    refine zj_getI (pc := 9) K lf_X7_55 hs_T rfl dX7_end_9 ?_
    refine zj_icmp_le (tgt := 17) (pc := 12) K dX7_end_12 (by decide) (fun c_12 => ?_) (fun c_12 => ?_)
    · have hin : zz_in x (n + 1) = true := zt_end_t en hn c_1 c_12
      refine zj_aload_n (i := 0) (pc := 17) K dX7_end_17 rfl rfl ?_
      refine zj_getR (pc := 18) K lf_X7_10 hs_B rfl dX7_end_18 ?_
      refine zj_iload_n (i := 1) (pc := 21) K dX7_end_21 rfl rfl ?_
      refine zj_putI (pc := 22) K lf_X7_55 hs_T rfl dX7_end_22 ?_
      refine zj_iconst (v := 1) (pc := 25) K dX7_end_25 (by decide) ?_
      exact zj_zret K Rt dX7_end_26 (by decide) (⟨rfl, by rw [hin]; rfl, by rw [hin]; rfl⟩)
    · have hin : zz_in x (n + 1) = false := zt_end_f en hn c_1 c_12
      refine zj_iconst (v := 0) (pc := 15) K dX7_end_15 (by decide) ?_
      exact zj_zret K Rt dX7_end_16 (by decide) (⟨rfl, by rw [hin]; rfl, by rw [hin]; rfl⟩)

set_option maxHeartbeats 4000000 in
set_option maxRecDepth 20000 in
theorem m_X7_fault {l : Launch} {E : zj_E} {h : zj_H} {g : zj_G}  : zj_M l E yX7_fault cX7_fault 1 (some .int) 0 [.ref (E.2.1 0)] h g (zj_pI (h 0 6) h g) := by
  refine zj_M.of RX7 (by decide) rfl (Nat.le_of_ble_eq_true rfl) ?_
  intro Γ hΓ K Rt
  subst hΓ
  show zj_J E Γ 1 0 [(0, .ref (E.2.1 0))] [] h g
  refine zj_aload_n (i := 0) (pc := 0) K dX7_fault_0 rfl rfl ?_
  refine zj_getI (pc := 1) K lf_X7_51 hs_B rfl dX7_fault_1 ?_
  exact zj_iret K Rt dX7_fault_4 (⟨rfl, rfl, rfl⟩)

set_option maxHeartbeats 4000000 in
set_option maxRecDepth 20000 in
theorem m_X7_now {l : Launch} {E : zj_E} {h : zj_H} {g : zj_G} {C n : Nat} (eC : h 8 7 = nI C) (hC : C ≤ 14) {x : Int32} : zj_M l E yX7_now cX7_now 2 (some .int) 1 [.ref (E.2.1 0), .int x] h g (zj_pI (if x = 0 then h 8 6 else if x = 1 then h 8 7 else if x = 2 then h 13 0 else if x = 3 then nI (zc_cnt (fun c => decide (h 14 c = 1)) C) else if x = 4 then nI (zc_cnt (fun c => decide (h 14 c = 2)) C) else if x = 5 then h 32 2 else if x = 6 then h 1 1 else -1) h g) := by
  refine zj_M.of RX7 (by decide) rfl (Nat.le_of_ble_eq_true rfl) ?_
  intro Γ hΓ K Rt
  subst hΓ
  have hk : zj_isC 12 := Or.inl rfl
  show zj_J E Γ 2 0 [(0, .ref (E.2.1 0)), (1, .int x)] [] h g
  refine zj_iload_n (i := 1) (pc := 0) K dX7_now_0 rfl rfl ?_
  by_cases s_0 : x = 0
  · refine zj_tableIn (off := 43) (tgt := 44) K dX7_now_1 (by rw [s_0]; decide) (by rw [s_0]; decide) (by rw [s_0]; rfl) (by decide) ?_
    refine zj_aload_n (i := 0) (pc := 44) K dX7_now_44 rfl rfl ?_
    refine zj_getR (pc := 45) K lf_X7_28 hs_B rfl dX7_now_45 ?_
    refine zj_getI (pc := 48) K lf_X7_91 hs_D rfl dX7_now_48 ?_
    exact zj_iret K Rt dX7_now_51 (⟨by rw [if_pos s_0], rfl, rfl⟩)
  by_cases s_1 : x = 1
  · refine zj_tableIn (off := 51) (tgt := 52) K dX7_now_1 (by rw [s_1]; decide) (by rw [s_1]; decide) (by rw [s_1]; rfl) (by decide) ?_
    refine zj_aload_n (i := 0) (pc := 52) K dX7_now_52 rfl rfl ?_
    refine zj_getR (pc := 53) K lf_X7_28 hs_B rfl dX7_now_53 ?_
    refine zj_getI (pc := 56) K lf_X7_94 hs_D rfl dX7_now_56 ?_
    exact zj_iret K Rt dX7_now_59 (⟨by rw [if_neg s_0, if_pos s_1], rfl, rfl⟩)
  by_cases s_2 : x = 2
  · refine zj_tableIn (off := 59) (tgt := 60) K dX7_now_1 (by rw [s_2]; decide) (by rw [s_2]; decide) (by rw [s_2]; rfl) (by decide) ?_
    refine zj_aload_n (i := 0) (pc := 60) K dX7_now_60 rfl rfl ?_
    refine zj_getR (pc := 61) K lf_X7_37 hs_B rfl dX7_now_61 ?_
    refine zj_getR (pc := 64) K lf_X7_97 hs_C rfl dX7_now_64 ?_
    refine zj_getI (pc := 67) K lf_X7_101 hs_Cd rfl dX7_now_67 ?_
    exact zj_iret K Rt dX7_now_70 (⟨by rw [if_neg s_0, if_neg s_1, if_pos s_2], rfl, rfl⟩)
  by_cases s_3 : x = 3
  · refine zj_tableIn (off := 70) (tgt := 71) K dX7_now_1 (by rw [s_3]; decide) (by rw [s_3]; decide) (by rw [s_3]; rfl) (by decide) ?_
    refine zj_aload_n (i := 0) (pc := 71) K dX7_now_71 rfl rfl ?_
    refine zj_getR (pc := 72) K lf_X7_37 hs_B rfl dX7_now_72 ?_
    refine zj_iconst (v := 1) (pc := 75) K dX7_now_75 (by decide) ?_
    refine zj_cV1I (pc := 76) K lm_X7_106 hs_C (m_X0_casesAt hk eC hC) (by decide) rfl (Nat.le_of_ble_eq_true rfl) dX7_now_76 ?_
    exact zj_iret K Rt dX7_now_79 (⟨by rw [if_neg s_0, if_neg s_1, if_neg s_2, if_pos s_3], rfl, rfl⟩)
  by_cases s_4 : x = 4
  · refine zj_tableIn (off := 79) (tgt := 80) K dX7_now_1 (by rw [s_4]; decide) (by rw [s_4]; decide) (by rw [s_4]; rfl) (by decide) ?_
    refine zj_aload_n (i := 0) (pc := 80) K dX7_now_80 rfl rfl ?_
    refine zj_getR (pc := 81) K lf_X7_37 hs_B rfl dX7_now_81 ?_
    refine zj_iconst (v := 2) (pc := 84) K dX7_now_84 (by decide) ?_
    refine zj_cV1I (pc := 85) K lm_X7_106 hs_C (m_X0_casesAt hk eC hC) (by decide) rfl (Nat.le_of_ble_eq_true rfl) dX7_now_85 ?_
    exact zj_iret K Rt dX7_now_88 (⟨by rw [if_neg s_0, if_neg s_1, if_neg s_2, if_neg s_3, if_pos s_4], rfl, rfl⟩)
  by_cases s_5 : x = 5
  · refine zj_tableIn (off := 88) (tgt := 89) K dX7_now_1 (by rw [s_5]; decide) (by rw [s_5]; decide) (by rw [s_5]; rfl) (by decide) ?_
    refine zj_aload_n (i := 0) (pc := 89) K dX7_now_89 rfl rfl ?_
    refine zj_getR (pc := 90) K lf_X7_47 hs_B rfl dX7_now_90 ?_
    refine zj_getI (pc := 93) K lf_X7_110 hs_H rfl dX7_now_93 ?_
    exact zj_iret K Rt dX7_now_96 (⟨by rw [if_neg s_0, if_neg s_1, if_neg s_2, if_neg s_3, if_neg s_4, if_pos s_5], rfl, rfl⟩)
  by_cases s_6 : x = 6
  · refine zj_tableIn (off := 96) (tgt := 97) K dX7_now_1 (by rw [s_6]; decide) (by rw [s_6]; decide) (by rw [s_6]; rfl) (by decide) ?_
    refine zj_aload_n (i := 0) (pc := 97) K dX7_now_97 rfl rfl ?_
    refine zj_getR (pc := 98) K lf_X7_10 hs_B rfl dX7_now_98 ?_
    refine zj_getI (pc := 101) K lf_X7_55 hs_T rfl dX7_now_101 ?_
    exact zj_iret K Rt dX7_now_104 (⟨by rw [if_neg s_0, if_neg s_1, if_neg s_2, if_neg s_3, if_neg s_4, if_neg s_5, if_pos s_6], rfl, rfl⟩)
  refine zj_tableOut (tgt := 105) K dX7_now_1 (zz_out (n := 6) (by decide) (fun k hk => by
    rcases (show k = 0 ∨ k = 1 ∨ k = 2 ∨ k = 3 ∨ k = 4 ∨ k = 5 ∨ k = 6 by omega) with rfl | rfl | rfl | rfl | rfl | rfl | rfl
    · exact s_0
    · exact s_1
    · exact s_2
    · exact s_3
    · exact s_4
    · exact s_5
    · exact s_6)) (by decide) ?_
  refine zj_iconst (v := -1) (pc := 105) K dX7_now_105 (by decide) ?_
  exact zj_iret K Rt dX7_now_106 (⟨by rw [if_neg s_0, if_neg s_1, if_neg s_2, if_neg s_3, if_neg s_4, if_neg s_5, if_neg s_6], rfl, rfl⟩)
