-- bytes of a TEXT
def zw_bl (x : Int32) : Bool := decide (x = 32) || decide (x = 10)
def zw_let (x : Int32) : Bool := decide (97 ≤ x) && decide (x ≤ 122)
def zw_dig (x : Int32) : Bool := decide (48 ≤ x) && decide (x ≤ 57)
theorem zw_t {a b x : Int32} (h1 : ¬ x < a) (h2 : ¬ b < x) : (decide (a ≤ x) && decide (x ≤ b)) = true := by rw [decide_eq_true (Int32.not_lt.mp h1), decide_eq_true (Int32.not_lt.mp h2)]; rfl
theorem zw_f1 {a b x : Int32} (h1 : x < a) : (decide (a ≤ x) && decide (x ≤ b)) = false := by rw [decide_eq_false (Int32.not_le.mpr h1), Bool.false_and]
theorem zw_f2 {a b x : Int32} (h2 : b < x) : (decide (a ≤ x) && decide (x ≤ b)) = false := by rw [decide_eq_false (Int32.not_le.mpr h2), Bool.and_false]
set_option maxHeartbeats 4000000 in
set_option maxRecDepth 20000 in
theorem m_X8_isDigit {l : Launch} {E : zj_E} {h : zj_H} {g : zj_G} {x : Int32} : zj_M l E yX8_isDigit cX8_isDigit 1 (some .boolean) 0 [.int x] h g (zj_pI (zz_i (zw_dig x)) h g) := by
  refine zj_M.of RX8 (by decide) rfl (Nat.le_of_ble_eq_true rfl) ?_
  intro Γ hΓ K Rt
  subst hΓ
  show zj_J E Γ 1 0 [(0, .int x)] [] h g
  refine zj_iload_n (i := 0) (pc := 0) K dX8_isDigit_0 rfl rfl ?_
  refine zj_bipush (v := 48) (pc := 1) K dX8_isDigit_1 (by decide) ?_
  refine zj_icmp_lt (tgt := 16) (pc := 3) K dX8_isDigit_3 (by decide) (fun c_3 => ?_) (fun c_3 => ?_)
  · have hd : zw_dig x = false := zw_f1 c_3
    refine zj_iconst (v := 0) (pc := 16) K dX8_isDigit_16 (by decide) ?_
    exact zj_zret K Rt dX8_isDigit_17 (by decide) (⟨by rw [hd]; rfl, rfl, rfl⟩)
  · refine zj_iload_n (i := 0) (pc := 6) K dX8_isDigit_6 rfl rfl ?_
    refine zj_bipush (v := 57) (pc := 7) K dX8_isDigit_7 (by decide) ?_
    refine zj_icmp_gt (tgt := 16) (pc := 9) K dX8_isDigit_9 (by decide) (fun c_9 => ?_) (fun c_9 => ?_)
    · have hd : zw_dig x = false := zw_f2 c_9
      refine zj_iconst (v := 0) (pc := 16) K dX8_isDigit_16 (by decide) ?_
      exact zj_zret K Rt dX8_isDigit_17 (by decide) (⟨by rw [hd]; rfl, rfl, rfl⟩)
    · have hd : zw_dig x = true := zw_t c_3 c_9
      refine zj_iconst (v := 1) (pc := 12) K dX8_isDigit_12 (by decide) ?_
      refine zj_goto (tgt := 17) (pc := 13) K dX8_isDigit_13 (by decide) ?_
      exact zj_zret K Rt dX8_isDigit_17 (by decide) (⟨by rw [hd]; rfl, rfl, rfl⟩)

set_option maxHeartbeats 4000000 in
set_option maxRecDepth 20000 in
theorem m_X8_isLetter {l : Launch} {E : zj_E} {h : zj_H} {g : zj_G} {x : Int32} : zj_M l E yX8_isLetter cX8_isLetter 1 (some .boolean) 0 [.int x] h g (zj_pI (zz_i (zw_let x)) h g) := by
  refine zj_M.of RX8 (by decide) rfl (Nat.le_of_ble_eq_true rfl) ?_
  intro Γ hΓ K Rt
  subst hΓ
  show zj_J E Γ 1 0 [(0, .int x)] [] h g
  refine zj_iload_n (i := 0) (pc := 0) K dX8_isLetter_0 rfl rfl ?_
  refine zj_bipush (v := 97) (pc := 1) K dX8_isLetter_1 (by decide) ?_
  refine zj_icmp_lt (tgt := 16) (pc := 3) K dX8_isLetter_3 (by decide) (fun c_3 => ?_) (fun c_3 => ?_)
  · have hd : zw_let x = false := zw_f1 c_3
    refine zj_iconst (v := 0) (pc := 16) K dX8_isLetter_16 (by decide) ?_
    exact zj_zret K Rt dX8_isLetter_17 (by decide) (⟨by rw [hd]; rfl, rfl, rfl⟩)
  · refine zj_iload_n (i := 0) (pc := 6) K dX8_isLetter_6 rfl rfl ?_
    refine zj_bipush (v := 122) (pc := 7) K dX8_isLetter_7 (by decide) ?_
    refine zj_icmp_gt (tgt := 16) (pc := 9) K dX8_isLetter_9 (by decide) (fun c_9 => ?_) (fun c_9 => ?_)
    · have hd : zw_let x = false := zw_f2 c_9
      refine zj_iconst (v := 0) (pc := 16) K dX8_isLetter_16 (by decide) ?_
      exact zj_zret K Rt dX8_isLetter_17 (by decide) (⟨by rw [hd]; rfl, rfl, rfl⟩)
    · have hd : zw_let x = true := zw_t c_3 c_9
      refine zj_iconst (v := 1) (pc := 12) K dX8_isLetter_12 (by decide) ?_
      refine zj_goto (tgt := 17) (pc := 13) K dX8_isLetter_13 (by decide) ?_
      exact zj_zret K Rt dX8_isLetter_17 (by decide) (⟨by rw [hd]; rfl, rfl, rfl⟩)

set_option maxHeartbeats 4000000 in
set_option maxRecDepth 20000 in
theorem m_X4_isBlank {l : Launch} {E : zj_E} {h : zj_H} {g : zj_G} {x : Int32} : zj_M l E yX4_isBlank cX4_isBlank 1 (some .boolean) 0 [.int x] h g (zj_pI (zz_i (zw_bl x)) h g) := by
  refine zj_M.of RX4 (by decide) rfl (Nat.le_of_ble_eq_true rfl) ?_
  intro Γ hΓ K Rt
  subst hΓ
  show zj_J E Γ 1 0 [(0, .int x)] [] h g
  refine zj_iload_n (i := 0) (pc := 0) K dX4_isBlank_0 rfl rfl ?_
  refine zj_bipush (v := 32) (pc := 1) K dX4_isBlank_1 (by decide) ?_
  refine zj_icmp_eq (tgt := 12) (pc := 3) K dX4_isBlank_3 (by decide) (fun c_3 => ?_) (fun c_3 => ?_)
  · have hd : zw_bl x = true := by unfold zw_bl; rw [decide_eq_true c_3, Bool.true_or]
    refine zj_iconst (v := 1) (pc := 12) K dX4_isBlank_12 (by decide) ?_
    refine zj_goto (tgt := 17) (pc := 13) K dX4_isBlank_13 (by decide) ?_
    exact zj_zret K Rt dX4_isBlank_17 (by decide) (⟨by rw [hd]; rfl, rfl, rfl⟩)
  · refine zj_iload_n (i := 0) (pc := 6) K dX4_isBlank_6 rfl rfl ?_
    refine zj_bipush (v := 10) (pc := 7) K dX4_isBlank_7 (by decide) ?_
    refine zj_icmp_ne (tgt := 16) (pc := 9) K dX4_isBlank_9 (by decide) (fun c_9 => ?_) (fun c_9 => ?_)
    · have hd : zw_bl x = false := by unfold zw_bl; rw [decide_eq_false c_3, decide_eq_false c_9]; rfl
      refine zj_iconst (v := 0) (pc := 16) K dX4_isBlank_16 (by decide) ?_
      exact zj_zret K Rt dX4_isBlank_17 (by decide) (⟨by rw [hd]; rfl, rfl, rfl⟩)
    · have hd : zw_bl x = true := by unfold zw_bl; rw [decide_eq_true c_9, Bool.or_true]
      refine zj_iconst (v := 1) (pc := 12) K dX4_isBlank_12 (by decide) ?_
      refine zj_goto (tgt := 17) (pc := 13) K dX4_isBlank_13 (by decide) ?_
      exact zj_zret K Rt dX4_isBlank_17 (by decide) (⟨by rw [hd]; rfl, rfl, rfl⟩)

set_option maxHeartbeats 4000000 in
set_option maxRecDepth 20000 in
theorem m_X4_isSmallOrDigit {l : Launch} {E : zj_E} {h : zj_H} {g : zj_G} {x : Int32} : zj_M l E yX4_isSmallOrDigit cX4_isSmallOrDigit 1 (some .boolean) 0 [.int x] h g (zj_pI (zz_i (zw_let x || zw_dig x)) h g) := by
  refine zj_M.of RX4 (by decide) rfl (Nat.le_of_ble_eq_true rfl) ?_
  intro Γ hΓ K Rt
  subst hΓ
  show zj_J E Γ 1 0 [(0, .int x)] [] h g
  refine zj_iload_n (i := 0) (pc := 0) K dX4_isSmallOrDigit_0 rfl rfl ?_
  refine zj_bipush (v := 97) (pc := 1) K dX4_isSmallOrDigit_1 (by decide) ?_
  refine zj_icmp_lt (tgt := 12) (pc := 3) K dX4_isSmallOrDigit_3 (by decide) (fun c_3 => ?_) (fun c_3 => ?_)
  · have h1 : zw_let x = false := zw_f1 c_3
    refine zj_iload_n (i := 0) (pc := 12) K dX4_isSmallOrDigit_12 rfl rfl ?_
    refine zj_bipush (v := 48) (pc := 13) K dX4_isSmallOrDigit_13 (by decide) ?_
    refine zj_icmp_lt (tgt := 28) (pc := 15) K dX4_isSmallOrDigit_15 (by decide) (fun c_15 => ?_) (fun c_15 => ?_)
    · have hd : (zw_let x || zw_dig x) = false := by rw [h1, Bool.false_or]; exact zw_f1 c_15
      refine zj_iconst (v := 0) (pc := 28) K dX4_isSmallOrDigit_28 (by decide) ?_
      exact zj_zret K Rt dX4_isSmallOrDigit_29 (by decide) (⟨by rw [hd]; rfl, rfl, rfl⟩)
    · refine zj_iload_n (i := 0) (pc := 18) K dX4_isSmallOrDigit_18 rfl rfl ?_
      refine zj_bipush (v := 57) (pc := 19) K dX4_isSmallOrDigit_19 (by decide) ?_
      refine zj_icmp_gt (tgt := 28) (pc := 21) K dX4_isSmallOrDigit_21 (by decide) (fun c_21 => ?_) (fun c_21 => ?_)
      · have hd : (zw_let x || zw_dig x) = false := by rw [h1, Bool.false_or]; exact zw_f2 c_21
        refine zj_iconst (v := 0) (pc := 28) K dX4_isSmallOrDigit_28 (by decide) ?_
        exact zj_zret K Rt dX4_isSmallOrDigit_29 (by decide) (⟨by rw [hd]; rfl, rfl, rfl⟩)
      · have hd : (zw_let x || zw_dig x) = true := by rw [h1, Bool.false_or]; exact zw_t c_15 c_21
        refine zj_iconst (v := 1) (pc := 24) K dX4_isSmallOrDigit_24 (by decide) ?_
        refine zj_goto (tgt := 29) (pc := 25) K dX4_isSmallOrDigit_25 (by decide) ?_
        exact zj_zret K Rt dX4_isSmallOrDigit_29 (by decide) (⟨by rw [hd]; rfl, rfl, rfl⟩)
  · refine zj_iload_n (i := 0) (pc := 6) K dX4_isSmallOrDigit_6 rfl rfl ?_
    refine zj_bipush (v := 122) (pc := 7) K dX4_isSmallOrDigit_7 (by decide) ?_
    refine zj_icmp_le (tgt := 24) (pc := 9) K dX4_isSmallOrDigit_9 (by decide) (fun c_9 => ?_) (fun c_9 => ?_)
    · have h1 : zw_let x = true := by unfold zw_let; rw [decide_eq_true (Int32.not_lt.mp c_3), decide_eq_true c_9]; rfl
      have hd : (zw_let x || zw_dig x) = true := by rw [h1, Bool.true_or]
      refine zj_iconst (v := 1) (pc := 24) K dX4_isSmallOrDigit_24 (by decide) ?_
      refine zj_goto (tgt := 29) (pc := 25) K dX4_isSmallOrDigit_25 (by decide) ?_
      exact zj_zret K Rt dX4_isSmallOrDigit_29 (by decide) (⟨by rw [hd]; rfl, rfl, rfl⟩)
    · have h1 : zw_let x = false := zw_f2 (Int32.not_le.mp c_9)
      refine zj_iload_n (i := 0) (pc := 12) K dX4_isSmallOrDigit_12 rfl rfl ?_
      refine zj_bipush (v := 48) (pc := 13) K dX4_isSmallOrDigit_13 (by decide) ?_
      refine zj_icmp_lt (tgt := 28) (pc := 15) K dX4_isSmallOrDigit_15 (by decide) (fun c_15 => ?_) (fun c_15 => ?_)
      · have hd : (zw_let x || zw_dig x) = false := by rw [h1, Bool.false_or]; exact zw_f1 c_15
        refine zj_iconst (v := 0) (pc := 28) K dX4_isSmallOrDigit_28 (by decide) ?_
        exact zj_zret K Rt dX4_isSmallOrDigit_29 (by decide) (⟨by rw [hd]; rfl, rfl, rfl⟩)
      · refine zj_iload_n (i := 0) (pc := 18) K dX4_isSmallOrDigit_18 rfl rfl ?_
        refine zj_bipush (v := 57) (pc := 19) K dX4_isSmallOrDigit_19 (by decide) ?_
        refine zj_icmp_gt (tgt := 28) (pc := 21) K dX4_isSmallOrDigit_21 (by decide) (fun c_21 => ?_) (fun c_21 => ?_)
        · have hd : (zw_let x || zw_dig x) = false := by rw [h1, Bool.false_or]; exact zw_f2 c_21
          refine zj_iconst (v := 0) (pc := 28) K dX4_isSmallOrDigit_28 (by decide) ?_
          exact zj_zret K Rt dX4_isSmallOrDigit_29 (by decide) (⟨by rw [hd]; rfl, rfl, rfl⟩)
        · have hd : (zw_let x || zw_dig x) = true := by rw [h1, Bool.false_or]; exact zw_t c_15 c_21
          refine zj_iconst (v := 1) (pc := 24) K dX4_isSmallOrDigit_24 (by decide) ?_
          refine zj_goto (tgt := 29) (pc := 25) K dX4_isSmallOrDigit_25 (by decide) ?_
          exact zj_zret K Rt dX4_isSmallOrDigit_29 (by decide) (⟨by rw [hd]; rfl, rfl, rfl⟩)

set_option maxHeartbeats 4000000 in
set_option maxRecDepth 20000 in
theorem m_X8_tapeAt {l : Launch} {E : zj_E} {h : zj_H} {g : zj_G} {n i : Nat} (es : h 78 3 = nI n) (hn : n ≤ 540) {x : Int32} (ex : x = nI i) (hi : i ≤ 540) : zj_M l E yX8_tapeAt cX8_tapeAt 2 (some .int) 0 [.ref (E.2.1 78), .int x] h g (zj_pI (if i < n then h 79 i else 0) h g) := by
  refine zj_M.of RX8 (by decide) rfl (Nat.le_of_ble_eq_true rfl) ?_
  intro Γ hΓ K Rt
  subst hΓ
  show zj_J E Γ 2 0 [(0, .ref (E.2.1 78)), (1, .int x)] [] h g
  refine zj_iload_n (i := 1) (pc := 0) K dX8_tapeAt_0 rfl rfl ?_
  refine zj_aload_n (i := 0) (pc := 1) K dX8_tapeAt_1 rfl rfl ?_
  refine zj_getI (pc := 2) K lf_X8_18 hs_M rfl dX8_tapeAt_2 ?_
  refine zj_icmp_ge (tgt := 17) (pc := 5) K dX8_tapeAt_5 (by decide) (fun c_5 => ?_) (fun c_5 => ?_)
  · have hin : ¬ i < n := Nat.not_lt.mpr (zz_ge ex es (by omega) (by omega) c_5)
    refine zj_iconst (v := 0) (pc := 17) K dX8_tapeAt_17 (by decide) ?_
    exact zj_iret K Rt dX8_tapeAt_18 (⟨by first | rw [if_pos hin] | rw [if_neg hin], rfl, rfl⟩)
  · have hin : i < n := zz_nge ex es (by omega) (by omega) c_5
    refine zj_aload_n (i := 0) (pc := 8) K dX8_tapeAt_8 rfl rfl ?_
    refine zj_getR (pc := 9) K lf_X8_7 hs_M rfl dX8_tapeAt_9 ?_
    refine zj_iload_n (i := 1) (pc := 12) K dX8_tapeAt_12 rfl rfl ?_
    refine zj_ald (j := i) (pc := 13) K hs_Mtape ex (by omega) (by first | decide | omega) dX8_tapeAt_13 ?_
    refine zj_goto (tgt := 18) (pc := 14) K dX8_tapeAt_14 (by decide) ?_
    exact zj_iret K Rt dX8_tapeAt_18 (⟨by first | rw [if_pos hin] | rw [if_neg hin], rfl, rfl⟩)

set_option maxHeartbeats 4000000 in
set_option maxRecDepth 20000 in
theorem m_X8_bad {l : Launch} {E : zj_E} {h : zj_H} {g : zj_G} {w : Int32} : zj_M l E yX8_bad cX8_bad 2 (some .boolean) 0 [.ref (E.2.1 78), .int w] h g (fun v h' g' => v = some (.int (zz_i false)) ∧ g' = g ∧ (∀ a, a ≠ 78 → h' a = h a) ∧ h' 78 = upd (upd (h 78) 8 (if h 78 6 = 1 then 1 else w)) 9 (h 78 5)) := by
  refine zj_M.of RX8 (by decide) rfl (Nat.le_of_ble_eq_true rfl) ?_
  intro Γ hΓ K Rt
  subst hΓ
  show zj_J E Γ 2 0 [(0, .ref (E.2.1 78)), (1, .int w)] [] h g
  refine zj_aload_n (i := 0) (pc := 0) K dX8_bad_0 rfl rfl ?_
  refine zj_aload_n (i := 0) (pc := 1) K dX8_bad_1 rfl rfl ?_
  refine zj_getI (pc := 2) K lf_X8_27 hs_M rfl dX8_bad_2 ?_
  refine zj_iconst (v := 1) (pc := 5) K dX8_bad_5 (by decide) ?_
  refine zj_icmp_ne (tgt := 13) (pc := 6) K dX8_bad_6 (by decide) (fun c_6 => ?_) (fun c_6 => ?_)
  · refine zj_iload_n (i := 1) (pc := 13) K dX8_bad_13 rfl rfl ?_
    refine zj_putI (pc := 14) K lf_X8_52 hs_M rfl dX8_bad_14 ?_
    refine zj_aload_n (i := 0) (pc := 17) K dX8_bad_17 rfl rfl ?_
    refine zj_aload_n (i := 0) (pc := 18) K dX8_bad_18 rfl rfl ?_
    refine zj_getI (pc := 19) K lf_X8_24 hs_M rfl dX8_bad_19 ?_
    refine zj_putI (pc := 22) K lf_X8_55 hs_M rfl dX8_bad_22 ?_
    refine zj_iconst (v := 0) (pc := 25) K dX8_bad_25 (by decide) ?_
    exact zj_zret K Rt dX8_bad_26 (by decide) (⟨rfl, rfl, fun a a1 => by rw [zj_s_ne _ _ a1, zj_s_ne _ _ a1], by first | (rw [if_pos c_6, zj_s_eq, zj_s_eq]; rfl) | (rw [if_neg c_6, zj_s_eq, zj_s_eq]; rfl)⟩)
  · refine zj_iconst (v := 1) (pc := 9) K dX8_bad_9 (by decide) ?_
    refine zj_goto (tgt := 14) (pc := 10) K dX8_bad_10 (by decide) ?_
    refine zj_putI (pc := 14) K lf_X8_52 hs_M rfl dX8_bad_14 ?_
    refine zj_aload_n (i := 0) (pc := 17) K dX8_bad_17 rfl rfl ?_
    refine zj_aload_n (i := 0) (pc := 18) K dX8_bad_18 rfl rfl ?_
    refine zj_getI (pc := 19) K lf_X8_24 hs_M rfl dX8_bad_19 ?_
    refine zj_putI (pc := 22) K lf_X8_55 hs_M rfl dX8_bad_22 ?_
    refine zj_iconst (v := 0) (pc := 25) K dX8_bad_25 (by decide) ?_
    exact zj_zret K Rt dX8_bad_26 (by decide) (⟨rfl, rfl, fun a a1 => by rw [zj_s_ne _ _ a1, zj_s_ne _ _ a1], by first | (rw [if_pos c_6, zj_s_eq, zj_s_eq]; rfl) | (rw [if_neg c_6, zj_s_eq, zj_s_eq]; rfl)⟩)
