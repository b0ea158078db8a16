theorem zm_ix {K x : Int32} {k i : Nat} (ek : K = nI k) (ex : x = nI i) : K + x = nI (k + i) := by subst ek; subst ex; exact nI_add k i
/-- a row of the reference: seniority, benches, weight, stages, who is barred -/
def zmS (h : zj_H) (s : Nat) : Nat → Int32 := fun j => h s (8 + j)
def zmB (h : zj_H) (s : Nat) : Nat → Int32 := fun c => h s (61 + c)
def zmW (h : zj_H) (s : Nat) : Nat → Int32 := fun c => h s (19 + c)
def zmT (h : zj_H) (s : Nat) : Nat → Int32 := fun c => h s (75 + c)
def zmX (h : zj_H) (s : Nat) : Nat → Int32 := fun c => h s (47 + c)
theorem zm_shr {b x : Int32} {j : Nat} (ex : x = nI j) (hj : j < 32) : ((b >>> (x &&& 31)) &&& 1 = 1) ↔ bt b j = true := by
  rw [zz_shr ex hj, zz_i1]
theorem zm_isJ {x y : Int32} {n : Nat} (ey : y = nI n) (hn : n ≤ 1000) : (decide (0 ≤ x) && decide (x ≤ y - 1)) = zz_in x n := by
  subst ey
  have e1 : (nI n - 1).toInt = (n : Int) - 1 := by
    cases n with
    | zero => decide
    | succ m => rw [nI_pred, nI_toInt (by omega)]; omega
  have e2 : (0 : Int32).toInt = 0 := by decide
  unfold zz_in
  by_cases h1 : 0 ≤ x
  · by_cases h2 : x ≤ nI n - 1
    · have a1 := Int32.le_iff_toInt_le.mp h1
      have a2 := Int32.le_iff_toInt_le.mp h2
      rw [e2] at a1; rw [e1] at a2
      rw [decide_eq_true h1, decide_eq_true h2]
      exact (decide_eq_true ⟨a1, by omega⟩).symm
    · have a2 : ¬ x.toInt ≤ (nI n - 1).toInt := fun z => h2 (Int32.le_iff_toInt_le.mpr z)
      rw [e1] at a2
      rw [decide_eq_false h2, Bool.and_false]
      exact (decide_eq_false (fun z => by omega)).symm
  · have a1 : ¬ (0 : Int32).toInt ≤ x.toInt := fun z => h1 (Int32.le_iff_toInt_le.mpr z)
    rw [e2] at a1
    rw [decide_eq_false h1, Bool.false_and]
    exact (decide_eq_false (fun z => a1 z.1)).symm
theorem zm_bits : ∀ m, m < 512 → m ≠ 0 → nI m &&& (nI m - 1) = nI (m &&& (m - 1)) ∧ zz_pop (nI (m &&& (m - 1))) + 1 = zz_pop (nI m) ∧ m &&& (m - 1) < m := by decide +kernel
/-- a byte of four, the highest first, as the reference's tape holds it -/
def zm_byte (w : Int32) (i : Nat) : Int32 := (w.toUInt32 >>> ((nI (24 - 8 * i)).toUInt32 &&& Int32.toUInt32 31)).toInt32 &&& 255
/-- what stands of the reference over a call that answers alone -/
def zm_same (h h' : zj_H) : Prop := (∀ a, a < 78 → h' a = h a) ∧ h' 79 = h 79 ∧ h' 80 = h 80 ∧ h' 83 = h 83 ∧ h' 78 2 = h 78 2 ∧ h' 78 8 = h 78 8 ∧ h' 78 17 = h 78 17
theorem zm_same_0 (h : zj_H) (t : Int32) : zm_same h (zj_s h 78 (upd (h 78) 0 t)) := ⟨fun a ha => zj_s_ne _ _ (by omega), zj_s_ne _ _ (by decide), zj_s_ne _ _ (by decide), zj_s_ne _ _ (by decide), rfl, rfl, rfl⟩
theorem zm_same.tr {h h1 h2 : zj_H} (a : zm_same h h1) (b : zm_same h1 h2) : zm_same h h2 :=
  ⟨fun c hc => (b.1 c hc).trans (a.1 c hc), b.2.1.trans a.2.1, b.2.2.1.trans a.2.2.1, b.2.2.2.1.trans a.2.2.2.1, b.2.2.2.2.1.trans a.2.2.2.2.1, b.2.2.2.2.2.1.trans a.2.2.2.2.2.1, b.2.2.2.2.2.2.trans a.2.2.2.2.2.2⟩
/-- somebody of the first n is senior -/
def zm_sen (sen : Nat → Int32) (S b : Int32) : Nat → Bool
  | 0 => false
  | n + 1 => zm_sen sen S b n || (bt b n && decide (S ≤ sen n))
theorem zm_sen_up {sen : Nat → Int32} {S b : Int32} : ∀ {i n : Nat}, i ≤ n → zm_sen sen S b i = true → zm_sen sen S b n = true := by
  intro i n
  induction n with
  | zero => intro h hr; rw [show i = 0 by omega] at hr; exact hr
  | succ n ih =>
    intro h hr
    by_cases e : i = n + 1
    · rw [← e]; exact hr
    · rw [zm_sen, ih (by omega) hr]; rfl
def zm_law (h : zj_H) (s J c : Nat) (b : Int32) : Bool := decide (b &&& (h s (47 + c) ||| h s 17) = 0) && zm_sen (zmS h s) (h s 6) b J
theorem zm_five {n b : Nat} {w1 w2 w3 w4 w5 x : Int32} : (if n + 4 * 4 ≤ b ∧ b < n + 4 * 4 + 4 then zm_byte w5 (b - (n + 4 * 4)) else if n + 12 ≤ b ∧ b < n + 12 + 4 then zm_byte w4 (b - (n + 12)) else if n + 8 ≤ b ∧ b < n + 8 + 4 then zm_byte w3 (b - (n + 8)) else if n + 4 ≤ b ∧ b < n + 4 + 4 then zm_byte w2 (b - (n + 4)) else if n + 0 ≤ b ∧ b < n + 0 + 4 then zm_byte w1 (b - (n + 0)) else x) =
    if n ≤ b ∧ b < n + 20 then zm_byte (zt_pick w1 w2 w3 w4 w5 ((b - n) / 4)) ((b - n) % 4) else x := by
  by_cases h : n ≤ b ∧ b < n + 20
  · rw [if_pos h]
    obtain ⟨d, rfl⟩ : ∃ d, b = n + d := ⟨b - n, by omega⟩
    have hd : d < 20 := by omega
    rw [show n + d - n = d by omega, show n + d - (n + 4 * 4) = d - 16 by omega, show n + d - (n + 12) = d - 12 by omega, show n + d - (n + 8) = d - 8 by omega, show n + d - (n + 4) = d - 4 by omega, show n + d - (n + 0) = d by omega]
    by_cases a5 : 16 ≤ d
    · rw [if_pos (by omega), show d / 4 = 4 by omega, show d % 4 = d - 16 by omega]; rfl
    · rw [if_neg (by omega)]
      by_cases a4 : 12 ≤ d
      · rw [if_pos (by omega), show d / 4 = 3 by omega, show d % 4 = d - 12 by omega]; rfl
      · rw [if_neg (by omega)]
        by_cases a3 : 8 ≤ d
        · rw [if_pos (by omega), show d / 4 = 2 by omega, show d % 4 = d - 8 by omega]; rfl
        · rw [if_neg (by omega)]
          by_cases a2 : 4 ≤ d
          · rw [if_pos (by omega), show d / 4 = 1 by omega, show d % 4 = d - 4 by omega]; rfl
          · rw [if_neg (by omega), if_pos (by omega), show d / 4 = 0 by omega, show d % 4 = d by omega]; rfl
  · rw [if_neg h, if_neg (by omega), if_neg (by omega), if_neg (by omega), if_neg (by omega), if_neg (by omega)]
theorem zm_copy (h : zj_H) (a b st0 at0 i : Nat) (hab : a ≠ b) : zj_s (zj_s h b (fun k => if at0 ≤ k ∧ k < at0 + i then h a (st0 + (k - at0)) else h b k)) b (upd (zj_s h b (fun k => if at0 ≤ k ∧ k < at0 + i then h a (st0 + (k - at0)) else h b k) b) (at0 + i) (zj_s h b (fun k => if at0 ≤ k ∧ k < at0 + i then h a (st0 + (k - at0)) else h b k) a (st0 + i))) = zj_s h b (fun k => if at0 ≤ k ∧ k < at0 + (i + 1) then h a (st0 + (k - at0)) else h b k) := by
  rw [zj_s_s, zj_s_eq, zj_s_ne _ _ hab]
  congr 1
  funext k
  by_cases e : k = at0 + i
  · subst e
    rw [zz_upd_at, if_pos ⟨by omega, by omega⟩, show at0 + i - at0 = i by omega]
  · rw [zz_upd_ne _ _ e]
    by_cases h2 : at0 ≤ k ∧ k < at0 + i
    · rw [if_pos h2, if_pos ⟨h2.1, by omega⟩]
    · rw [if_neg h2, if_neg (by omega)]
theorem zm_copy0 (h : zj_H) (a b st0 at0 : Nat) : h = zj_s h b (fun k => if at0 ≤ k ∧ k < at0 + 0 then h a (st0 + (k - at0)) else h b k) := by
  have : (fun k => if at0 ≤ k ∧ k < at0 + 0 then h a (st0 + (k - at0)) else h b k) = h b := by funext k; rw [if_neg (by omega)]
  rw [this, zj_s_self]
set_option maxHeartbeats 4000000 in
set_option maxRecDepth 20000 in
theorem m_X8_thrown {l : Launch} {E : zj_E} {h : zj_H} {g : zj_G}  : zj_M l E yX8_thrown cX8_thrown 1 (some .int) 0 [.ref (E.2.1 78)] h g (zj_pI (h 78 0) h g) := by
  refine zj_M.of RX8 (by decide) rfl (Nat.le_of_ble_eq_true rfl) ?_
  intro Γ hΓ K Rt
  subst hΓ
  show zj_J E Γ 1 0 [(0, .ref (E.2.1 78))] [] h g
  refine zj_aload_n (i := 0) (pc := 0) K dX8_thrown_0 rfl rfl ?_
  refine zj_getI (pc := 1) K lf_X8_1 hs_M rfl dX8_thrown_1 ?_
  exact zj_iret K Rt dX8_thrown_4 (⟨rfl, rfl, rfl⟩)

set_option maxHeartbeats 4000000 in
set_option maxRecDepth 20000 in
theorem m_X8_refuse {l : Launch} {E : zj_E} {h : zj_H} {g : zj_G}  : zj_M l E yX8_refuse cX8_refuse 1 (some .int) 0 [.ref (E.2.1 78)] h g (zj_pI 0 (zj_s h 78 (upd (h 78) 0 1)) g) := by
  refine zj_M.of RX8 (by decide) rfl (Nat.le_of_ble_eq_true rfl) ?_
  intro Γ hΓ K Rt
  subst hΓ
  show zj_J E Γ 1 0 [(0, .ref (E.2.1 78))] [] h g
  refine zj_aload_n (i := 0) (pc := 0) K dX8_refuse_0 rfl rfl ?_
  refine zj_iconst (v := 1) (pc := 1) K dX8_refuse_1 (by decide) ?_
  refine zj_putI (pc := 2) K lf_X8_1 hs_M rfl dX8_refuse_2 ?_
  refine zj_iconst (v := 0) (pc := 5) K dX8_refuse_5 (by decide) ?_
  exact zj_iret K Rt dX8_refuse_6 (⟨rfl, rfl, rfl⟩)

set_option maxHeartbeats 4000000 in
set_option maxRecDepth 20000 in
theorem m_X8_isIn {l : Launch} {E : zj_E} {h : zj_H} {g : zj_G} {x a b : Int32} : zj_M l E yX8_isIn cX8_isIn 3 (some .boolean) 0 [.int x, .int a, .int b] h g (zj_pI (zz_i (decide (a ≤ x) && decide (x ≤ b))) h g) := by
  refine zj_M.of RX8 (by decide) rfl (Nat.le_of_ble_eq_true rfl) ?_
  intro Γ hΓ K Rt
  subst hΓ
  show zj_J E Γ 3 0 [(0, .int x), (1, .int a), (2, .int b)] [] h g
  refine zj_iload_n (i := 0) (pc := 0) K dX8_isIn_0 rfl rfl ?_
  refine zj_iload_n (i := 1) (pc := 1) K dX8_isIn_1 rfl rfl ?_
  refine zj_icmp_lt (tgt := 14) (pc := 2) K dX8_isIn_2 (by decide) (fun c_2 => ?_) (fun c_2 => ?_)
  · refine zj_iconst (v := 0) (pc := 14) K dX8_isIn_14 (by decide) ?_
    exact zj_zret K Rt dX8_isIn_15 (by decide) (⟨by first | (rw [decide_eq_false (Int32.not_le.mpr c_2)]; rfl) | (rw [decide_eq_false (Int32.not_le.mpr c_7), Bool.and_false]; rfl) | (rw [decide_eq_true (Int32.not_lt.mp c_2), decide_eq_true (Int32.not_lt.mp c_7)]; rfl), rfl, rfl⟩)
  · refine zj_iload_n (i := 0) (pc := 5) K dX8_isIn_5 rfl rfl ?_
    refine zj_iload_n (i := 2) (pc := 6) K dX8_isIn_6 rfl rfl ?_
    refine zj_icmp_gt (tgt := 14) (pc := 7) K dX8_isIn_7 (by decide) (fun c_7 => ?_) (fun c_7 => ?_)
    · refine zj_iconst (v := 0) (pc := 14) K dX8_isIn_14 (by decide) ?_
      exact zj_zret K Rt dX8_isIn_15 (by decide) (⟨by first | (rw [decide_eq_false (Int32.not_le.mpr c_2)]; rfl) | (rw [decide_eq_false (Int32.not_le.mpr c_7), Bool.and_false]; rfl) | (rw [decide_eq_true (Int32.not_lt.mp c_2), decide_eq_true (Int32.not_lt.mp c_7)]; rfl), rfl, rfl⟩)
    · refine zj_iconst (v := 1) (pc := 10) K dX8_isIn_10 (by decide) ?_
      refine zj_goto (tgt := 15) (pc := 11) K dX8_isIn_11 (by decide) ?_
      exact zj_zret K Rt dX8_isIn_15 (by decide) (⟨by first | (rw [decide_eq_false (Int32.not_le.mpr c_2)]; rfl) | (rw [decide_eq_false (Int32.not_le.mpr c_7), Bool.and_false]; rfl) | (rw [decide_eq_true (Int32.not_lt.mp c_2), decide_eq_true (Int32.not_lt.mp c_7)]; rfl), rfl, rfl⟩)

set_option maxHeartbeats 4000000 in
set_option maxRecDepth 20000 in
theorem m_X8_has {l : Launch} {E : zj_E} {h : zj_H} {g : zj_G} {b x : Int32} {j : Nat} (ex : x = nI j) (hj : j < 32) : zj_M l E yX8_has cX8_has 2 (some .boolean) 0 [.int b, .int x] h g (zj_pI (zz_i (bt b j)) h g) := by
  refine zj_M.of RX8 (by decide) rfl (Nat.le_of_ble_eq_true rfl) ?_
  intro Γ hΓ K Rt
  subst hΓ
  show zj_J E Γ 2 0 [(0, .int b), (1, .int x)] [] h g
  refine zj_iload_n (i := 0) (pc := 0) K dX8_has_0 rfl rfl ?_
  refine zj_iload_n (i := 1) (pc := 1) K dX8_has_1 rfl rfl ?_
  refine zj_ishr (pc := 2) K dX8_has_2 ?_
  refine zj_iconst (v := 1) (pc := 3) K dX8_has_3 (by decide) ?_
  refine zj_iand (pc := 4) K dX8_has_4 ?_
  refine zj_iconst (v := 1) (pc := 5) K dX8_has_5 (by decide) ?_
  refine zj_icmp_ne (tgt := 13) (pc := 6) K dX8_has_6 (by decide) (fun c_6 => ?_) (fun c_6 => ?_)
  · have hb : bt b j = false := by
      cases hb : bt b j with
      | false => rfl
      | true => exact absurd ((zm_shr ex hj).mpr hb) c_6
    refine zj_iconst (v := 0) (pc := 13) K dX8_has_13 (by decide) ?_
    exact zj_zret K Rt dX8_has_14 (by decide) (⟨by rw [hb]; rfl, rfl, rfl⟩)
  · have hb : bt b j = true := (zm_shr ex hj).mp c_6
    refine zj_iconst (v := 1) (pc := 9) K dX8_has_9 (by decide) ?_
    refine zj_goto (tgt := 14) (pc := 10) K dX8_has_10 (by decide) ?_
    exact zj_zret K Rt dX8_has_14 (by decide) (⟨by rw [hb]; rfl, rfl, rfl⟩)

set_option maxHeartbeats 4000000 in
set_option maxRecDepth 20000 in
theorem m_X8_bits {l : Launch} {E : zj_E} {h : zj_H} {g : zj_G} {x : Int32} {m0 : Nat} (ex : x = nI m0) (hm0 : m0 < 512) : zj_M l E yX8_bits cX8_bits 3 (some .int) 0 [.int x] h g (zj_pI (nI (zz_pop x)) h g) := by
  refine zj_M.of RX8 (by decide) rfl (Nat.le_of_ble_eq_true rfl) ?_
  intro Γ hΓ K Rt
  subst hΓ
  have loop : ∀ (n m : Nat) (x1 x2 : Int32) (t : Nat), m < n → m < 512 → x2 = nI m → x1 = nI t → t + zz_pop (nI m) = zz_pop x → zj_J E Γ 3 4 [(0, .int x), (1, .int x1), (2, .int x2)] [] h g := by
    intro n
    induction n with
    | zero => intro m x1 x2 t h1; omega
    | succ n ih =>
      intro m x1 x2 t h1 h2 e2 e1 hp
      refine zj_iload_n (i := 2) (pc := 4) K dX8_bits_4 rfl rfl ?_
      refine zj_if_eq (tgt := 20) (pc := 5) K dX8_bits_5 (by decide) (fun c_5 => ?_) (fun c_5 => ?_)
      · have hm : m = 0 := by
          rw [e2] at c_5
          exact (nI_eq (b := 0) (by omega) (by omega)).mp c_5
        have ht : t = zz_pop x := by
          rw [hm] at hp
          have h0 : zz_pop (nI 0) = 0 := by decide +kernel
          omega
        refine zj_iload_n (i := 1) (pc := 20) K dX8_bits_20 rfl rfl ?_
        exact zj_iret K Rt dX8_bits_21 (⟨by rw [e1, ht], rfl, rfl⟩)
      · have hm : m ≠ 0 := fun e => c_5 (by rw [e2, e]; rfl)
        obtain ⟨z1, z2, z3⟩ := zm_bits m h2 hm
        refine zj_iinc (v := 1) (pc := 8) K dX8_bits_8 rfl (by decide) rfl rfl rfl ?_
        refine zj_iload_n (i := 2) (pc := 11) K dX8_bits_11 rfl rfl ?_
        refine zj_iload_n (i := 2) (pc := 12) K dX8_bits_12 rfl rfl ?_
        refine zj_iconst (v := 1) (pc := 13) K dX8_bits_13 (by decide) ?_
        refine zj_isub (pc := 14) K dX8_bits_14 ?_
        refine zj_iand (pc := 15) K dX8_bits_15 ?_
        refine zj_istore_n (i := 2) (pc := 16) K dX8_bits_16 rfl rfl rfl rfl ?_
        refine zj_goto (tgt := 4) (pc := 17) K dX8_bits_17 (by decide) ?_
        exact ih (m &&& (m - 1)) _ _ (t + 1) (by omega) (by omega) (by rw [e2]; exact z1) (zz_up e1) (by omega)
  show zj_J E Γ 3 0 [(0, .int x)] [] h g
  refine zj_iconst (v := 0) (pc := 0) K dX8_bits_0 (by decide) ?_
  refine zj_istore_n (i := 1) (pc := 1) K dX8_bits_1 rfl rfl rfl rfl ?_
  refine zj_iload_n (i := 0) (pc := 2) K dX8_bits_2 rfl rfl ?_
  refine zj_istore_n (i := 2) (pc := 3) K dX8_bits_3 rfl rfl rfl rfl ?_
  exact loop 512 m0 _ _ 0 (by omega) hm0 ex rfl (by rw [ex]; omega)

set_option maxHeartbeats 4000000 in
set_option maxRecDepth 20000 in
theorem m_X8_lays {l : Launch} {E : zj_E} {h : zj_H} {g : zj_G} {n : Nat} (en : h 78 2 = nI n) (hn : n + 4 ≤ 540) {w : Int32} : zj_M l E yX8_lays cX8_lays 3 none 0 [.ref (E.2.1 78), .int w] h g (fun v h' g' => v = none ∧ g' = g ∧ ((∀ a, a ≠ 78 → a ≠ 79 → h' a = h a) ∧ (∀ b, b ≠ 2 → h' 78 b = h 78 b)) ∧ h' 78 2 = nI (n + 4) ∧ (∀ b, h' 79 b = if n ≤ b ∧ b < n + 4 then zm_byte w (b - n) else h 79 b)) := by
  refine zj_M.of RX8 (by decide) rfl (Nat.le_of_ble_eq_true rfl) ?_
  intro Γ hΓ K Rt
  subst hΓ
  have loop : ∀ (m : Nat) (x2 : Int32) (q : zj_H), m ≤ 4 → x2 = nI (8 * m) - 8 → ((∀ a, a ≠ 78 → a ≠ 79 → q a = h a) ∧ (∀ b, b ≠ 2 → q 78 b = h 78 b)) → q 78 2 = nI (n + (4 - m)) → (∀ b, q 79 b = if n ≤ b ∧ b < n + (4 - m) then zm_byte w (b - n) else h 79 b) → zj_J E Γ 3 3 [(0, .ref (E.2.1 78)), (1, .int w), (2, .int x2)] [] q g := by
    intro m
    induction m with
    | zero =>
      intro x2 q hm e2 zf1 zf2 zf3
      refine zj_iload_n (i := 2) (pc := 3) K dX8_lays_3 rfl rfl ?_
      refine zj_if_lt (tgt := 39) (pc := 4) K dX8_lays_4 (by decide) (fun c_4 => ?_) (fun c_4 => ?_)
      · exact zj_vret K Rt dX8_lays_39 ⟨rfl, rfl, zf1, zf2, zf3⟩
      · exact absurd (show x2 < 0 by rw [e2]; decide) c_4
    | succ m ih =>
      intro x2 q hm e2 zf1 zf2 zf3
      have e2' : x2 = nI (8 * m) := by rw [e2, show 8 * (m + 1) = 8 * m + 8 by omega, ← nI_add]; show nI (8 * m) + 8 - 8 = _; rw [Int32.add_sub_cancel]
      refine zj_iload_n (i := 2) (pc := 3) K dX8_lays_3 rfl rfl ?_
      refine zj_if_lt (tgt := 39) (pc := 4) K dX8_lays_4 (by decide) (fun c_4 => ?_) (fun c_4 => ?_)
      · exact absurd c_4 (by rw [e2']; exact nI_pos (by omega))
      · refine zj_aload_n (i := 0) (pc := 7) K dX8_lays_7 rfl rfl ?_
        refine zj_getR (pc := 8) K lf_X8_7 hs_M rfl dX8_lays_8 ?_
        refine zj_aload_n (i := 0) (pc := 11) K dX8_lays_11 rfl rfl ?_
        refine zj_getI (pc := 12) K lf_X8_11 hs_M rfl dX8_lays_12 ?_
        refine zj_iload_n (i := 1) (pc := 15) K dX8_lays_15 rfl rfl ?_
        refine zj_iload_n (i := 2) (pc := 16) K dX8_lays_16 rfl rfl ?_
        refine zj_iushr (pc := 17) K dX8_lays_17 ?_
        refine zj_sipush (v := 255) (pc := 18) K dX8_lays_18 (by decide) ?_
        refine zj_iand (pc := 21) K dX8_lays_21 ?_
        refine zj_ast (j := n + (4 - (m + 1))) (pc := 22) K hs_Mtape zf2 (by omega) (by first | decide | omega) dX8_lays_22 ?_
        refine zj_aload_n (i := 0) (pc := 23) K dX8_lays_23 rfl rfl ?_
        refine zj_dup (pc := 24) K dX8_lays_24 rfl ?_
        refine zj_getI (pc := 25) K lf_X8_11 hs_M rfl dX8_lays_25 ?_
        refine zj_iconst (v := 1) (pc := 28) K dX8_lays_28 (by decide) ?_
        refine zj_iadd (pc := 29) K dX8_lays_29 ?_
        refine zj_putI (pc := 30) K lf_X8_11 hs_M rfl dX8_lays_30 ?_
        refine zj_iinc (v := -8) (pc := 33) K dX8_lays_33 rfl (by decide) rfl rfl rfl ?_
        refine zj_goto (tgt := 3) (pc := 36) K dX8_lays_36 (by decide) ?_
        refine ih _ _ (by omega) (by rw [e2']; exact (Int32.sub_eq_add_neg _ _).symm) ⟨fun a a1 a2 => by rw [zj_s_ne _ _ a1, zj_s_ne _ _ a2]; exact zf1.1 a a1 a2, fun b b1 => by rw [zj_s_eq, zz_upd_ne _ _ b1, zj_s_ne _ _ (by decide)]; exact zf1.2 b b1⟩ ?_ (fun b => ?_)
        · rw [zj_s_eq, zz_upd_at, zj_s_ne _ _ (by decide), zf2, nI_1, show n + (4 - (m + 1)) + 1 = n + (4 - m) by omega]
        · rw [zj_s_ne _ _ (by decide), zj_s_eq]
          by_cases eb : b = n + (4 - (m + 1))
          · subst eb
            rw [zz_upd_at, if_pos ⟨by omega, by omega⟩, e2', zm_byte, show 24 - 8 * (n + (4 - (m + 1)) - n) = 8 * m by omega]
          · rw [zz_upd_ne _ _ eb, zf3 b]
            by_cases h5 : n ≤ b ∧ b < n + (4 - (m + 1))
            · rw [if_pos h5, if_pos ⟨h5.1, by omega⟩]
            · rw [if_neg h5, if_neg (by omega)]
  show zj_J E Γ 3 0 [(0, .ref (E.2.1 78)), (1, .int w)] [] h g
  refine zj_bipush (v := 24) (pc := 0) K dX8_lays_0 (by decide) ?_
  refine zj_istore_n (i := 2) (pc := 2) K dX8_lays_2 rfl rfl rfl rfl ?_
  exact loop 4 _ h (by omega) rfl ⟨fun _ _ _ => rfl, fun _ _ => rfl⟩ en (fun b => by rw [if_neg (by omega)])

set_option maxHeartbeats 4000000 in
set_option maxRecDepth 20000 in
theorem m_X8_feed {l : Launch} {E : zj_E} {h : zj_H} {g : zj_G} {n : Nat} (en : h 78 2 = nI n) (hn : n ≤ 540) {w1 w2 w3 w4 w5 : Int32} : zj_M l E yX8_feed cX8_feed 6 (some .int) 1 [.ref (E.2.1 78), .int w1, .int w2, .int w3, .int w4, .int w5] h g (fun v h' g' => g' = g ∧ (∀ a, a ≠ 78 → a ≠ 79 → h' a = h a) ∧ h' 78 0 = 0 ∧ (∀ b, b ≠ 0 → b ≠ 2 → h' 78 b = h 78 b) ∧ if n + 20 ≤ 540 then v = some (.int (nI (n + 20))) ∧ h' 78 2 = nI (n + 20) ∧ (∀ b, h' 79 b = if n ≤ b ∧ b < n + 20 then zm_byte (zt_pick w1 w2 w3 w4 w5 ((b - n) / 4)) ((b - n) % 4) else h 79 b) else v = some (.int (-1)) ∧ h' 79 = h 79 ∧ h' 78 2 = h 78 2) := by
  refine zj_M.of RX8 (by decide) rfl (Nat.le_of_ble_eq_true rfl) ?_
  intro Γ hΓ K Rt
  subst hΓ
  show zj_J E Γ 6 0 [(0, .ref (E.2.1 78)), (1, .int w1), (2, .int w2), (3, .int w3), (4, .int w4), (5, .int w5)] [] h g
  refine zj_aload_n (i := 0) (pc := 0) K dX8_feed_0 rfl rfl ?_
  refine zj_iconst (v := 0) (pc := 1) K dX8_feed_1 (by decide) ?_
  refine zj_putI (pc := 2) K lf_X8_1 hs_M rfl dX8_feed_2 ?_
  refine zj_aload_n (i := 0) (pc := 5) K dX8_feed_5 rfl rfl ?_
  refine zj_getI (pc := 6) K lf_X8_11 hs_M rfl dX8_feed_6 ?_
  refine zj_bipush (v := 20) (pc := 9) K dX8_feed_9 (by decide) ?_
  refine zj_iadd (pc := 11) K dX8_feed_11 ?_
  refine zj_sipush (v := 540) (pc := 12) K dX8_feed_12 (by decide) ?_
  refine zj_icmp_le (tgt := 20) (pc := 15) K dX8_feed_15 (by decide) (fun c_15 => ?_) (fun c_15 => ?_)
  · have h20 : n + 20 ≤ 540 := by
      rw [show (zj_s h 78 (upd (h 78) 0 0)) 78 2 = nI n from en] at c_15
      rw [show (20 : Int32) = nI 20 from rfl, nI_add] at c_15
      exact (nI_leI (b := 540) (by omega) (by omega)).mp c_15
    refine zj_aload_n (i := 0) (pc := 20) K dX8_feed_20 rfl rfl ?_
    refine zj_iload_n (i := 1) (pc := 21) K dX8_feed_21 rfl rfl ?_
    refine zj_cV1P (pc := 22) K lm_X8_14 hs_M (m_X8_lays (n := n + 0) (by rw [zj_s_eq]; exact en) (by omega)) (by decide) rfl (Nat.le_of_ble_eq_true rfl) dX8_feed_22 (fun v q1 g1 hp => ?_)
    obtain ⟨rfl, rfl, zt11, zt12, zt13⟩ := hp
    refine zj_aload_n (i := 0) (pc := 25) K dX8_feed_25 rfl rfl ?_
    refine zj_iload_n (i := 2) (pc := 26) K dX8_feed_26 rfl rfl ?_
    refine zj_cV1P (pc := 27) K lm_X8_14 hs_M (m_X8_lays (n := n + 4) zt12 (by omega)) (by decide) rfl (Nat.le_of_ble_eq_true rfl) dX8_feed_27 (fun v q2 g2 hp => ?_)
    obtain ⟨rfl, rfl, zt21, zt22, zt23⟩ := hp
    refine zj_aload_n (i := 0) (pc := 30) K dX8_feed_30 rfl rfl ?_
    refine zj_iload_n (i := 3) (pc := 31) K dX8_feed_31 rfl rfl ?_
    refine zj_cV1P (pc := 32) K lm_X8_14 hs_M (m_X8_lays (n := n + 8) zt22 (by omega)) (by decide) rfl (Nat.le_of_ble_eq_true rfl) dX8_feed_32 (fun v q3 g3 hp => ?_)
    obtain ⟨rfl, rfl, zt31, zt32, zt33⟩ := hp
    refine zj_aload_n (i := 0) (pc := 35) K dX8_feed_35 rfl rfl ?_
    refine zj_iload (pc := 36) K dX8_feed_36 rfl ?_
    refine zj_cV1P (pc := 38) K lm_X8_14 hs_M (m_X8_lays (n := n + 12) zt32 (by omega)) (by decide) rfl (Nat.le_of_ble_eq_true rfl) dX8_feed_38 (fun v q4 g4 hp => ?_)
    obtain ⟨rfl, rfl, zt41, zt42, zt43⟩ := hp
    refine zj_aload_n (i := 0) (pc := 41) K dX8_feed_41 rfl rfl ?_
    refine zj_iload (pc := 42) K dX8_feed_42 rfl ?_
    refine zj_cV1P (pc := 44) K lm_X8_14 hs_M (m_X8_lays (n := n + 16) zt42 (by omega)) (by decide) rfl (Nat.le_of_ble_eq_true rfl) dX8_feed_44 (fun v q5 g5 hp => ?_)
    obtain ⟨rfl, rfl, zt51, zt52, zt53⟩ := hp
    refine zj_aload_n (i := 0) (pc := 47) K dX8_feed_47 rfl rfl ?_
    refine zj_getI (pc := 48) K lf_X8_11 hs_M rfl dX8_feed_48 ?_
    exact zj_iret K Rt dX8_feed_51 (by
      refine ⟨rfl, fun a a1 a2 => by rw [zt51.1 a a1 a2, zt41.1 a a1 a2, zt31.1 a a1 a2, zt21.1 a a1 a2, zt11.1 a a1 a2, zj_s_ne _ _ a1], by rw [zt51.2 0 (by decide), zt41.2 0 (by decide), zt31.2 0 (by decide), zt21.2 0 (by decide), zt11.2 0 (by decide)]; rfl, fun b b0 b2 => by rw [zt51.2 b b2, zt41.2 b b2, zt31.2 b b2, zt21.2 b b2, zt11.2 b b2, zj_s_eq, zz_upd_ne _ _ b0], ?_⟩
      rw [if_pos h20]
      refine ⟨by rw [zt52], zt52, fun b => ?_⟩
      rw [zt53, zt43, zt33, zt23, zt13, zj_s_ne _ _ (by decide)]
      exact zm_five)
  · have h20 : ¬ n + 20 ≤ 540 := fun z => by
      apply c_15
      rw [show (zj_s h 78 (upd (h 78) 0 0)) 78 2 = nI n from en, show (20 : Int32) = nI 20 from rfl, nI_add]
      exact nI_le (b := 540) z (by omega)
    refine zj_iconst (v := -1) (pc := 18) K dX8_feed_18 (by decide) ?_
    exact zj_iret K Rt dX8_feed_19 (⟨rfl, fun a a1 a2 => zj_s_ne _ _ a1, rfl, fun b b1 b2 => by rw [zj_s_eq, zz_upd_ne _ _ b1], by rw [if_neg h20]; exact ⟨rfl, zj_s_ne _ _ (by decide), rfl⟩⟩)

set_option maxHeartbeats 4000000 in
set_option maxRecDepth 20000 in
theorem m_X8_end {l : Launch} {E : zj_E} {h : zj_H} {g : zj_G} {n : Nat} (en : h 78 2 = nI n) (hn : n ≤ 540) {x : Int32} : zj_M l E yX8_end cX8_end 2 (some .boolean) 0 [.ref (E.2.1 78), .int x] h g (fun v h' g' => g' = g ∧ v = some (.int (zz_i (zz_in x (n + 1)))) ∧ (∀ a, a ≠ 78 → h' a = h a) ∧ h' 78 0 = 0 ∧ (∀ b, b ≠ 0 → b ≠ 2 → h' 78 b = h 78 b) ∧ h' 78 2 = if zz_in x (n + 1) = true then x else h 78 2) := by
  refine zj_M.of RX8 (by decide) rfl (Nat.le_of_ble_eq_true rfl) ?_
  intro Γ hΓ K Rt
  subst hΓ
  show zj_J E Γ 2 0 [(0, .ref (E.2.1 78)), (1, .int x)] [] h g
  refine zj_aload_n (i := 0) (pc := 0) K dX8_end_0 rfl rfl ?_
  refine zj_iconst (v := 0) (pc := 1) K dX8_end_1 (by decide) ?_
  refine zj_putI (pc := 2) K lf_X8_1 hs_M rfl dX8_end_2 ?_
  refine zj_iload_n (i := 1) (pc := 5) K dX8_end_5 rfl rfl ?_
  refine zj_if_lt (tgt := 17) (pc := 6) K dX8_end_6 (by decide) (fun c_6 => ?_) (fun c_6 => ?_)
  · have hin : zz_in x (n + 1) = false := zz_in_f1 c_6
    refine zj_iconst (v := 0) (pc := 17) K dX8_end_17 (by decide) ?_
    exact zj_zret K Rt dX8_end_18 (by decide) (⟨rfl, by rw [hin]; rfl, fun a a1 => zj_s_ne _ _ a1, rfl, fun b b0 b2 => by rw [zj_s_eq, zz_upd_ne _ _ b0], by rw [hin]; rfl⟩)
  · refine zj_iload_n (i := 1) (pc := 9) K dX8_end_9 rfl rfl ?_
    refine zj_aload_n (i := 0) (pc := 10) K dX8_end_10 rfl rfl ?_
    refine zj_getI (pc := 11) K lf_X8_11 hs_M rfl dX8_end_11 ?_
    refine zj_icmp_le (tgt := 19) (pc := 14) K dX8_end_14 (by decide) (fun c_14 => ?_) (fun c_14 => ?_)
    · have hin : zz_in x (n + 1) = true := zt_end_t en hn c_6 c_14
      refine zj_aload_n (i := 0) (pc := 19) K dX8_end_19 rfl rfl ?_
      refine zj_iload_n (i := 1) (pc := 20) K dX8_end_20 rfl rfl ?_
      refine zj_putI (pc := 21) K lf_X8_11 hs_M rfl dX8_end_21 ?_
      refine zj_iconst (v := 1) (pc := 24) K dX8_end_24 (by decide) ?_
      exact zj_zret K Rt dX8_end_25 (by decide) (⟨rfl, by rw [hin]; rfl, fun a a1 => by rw [zj_s_ne _ _ a1, zj_s_ne _ _ a1], rfl, fun b b0 b2 => by rw [zj_s_eq, zz_upd_ne _ _ b2, zj_s_eq, zz_upd_ne _ _ b0], by rw [hin]; rfl⟩)
    · have hin : zz_in x (n + 1) = false := zt_end_f en hn c_6 c_14
      refine zj_iconst (v := 0) (pc := 17) K dX8_end_17 (by decide) ?_
      exact zj_zret K Rt dX8_end_18 (by decide) (⟨rfl, by rw [hin]; rfl, fun a a1 => zj_s_ne _ _ a1, rfl, fun b b0 b2 => by rw [zj_s_eq, zz_upd_ne _ _ b0], by rw [hin]; rfl⟩)

set_option maxHeartbeats 4000000 in
set_option maxRecDepth 20000 in
theorem m_X8_copy {l : Launch} {E : zj_E} {h : zj_H} {g : zj_G} {a b st0 at0 n m : Nat} (hs_a : zj_at a (zj_arr n)) (hs_b : zj_at b (zj_arr m)) (hab : a ≠ b) (hn : n ≤ 1000) (hm : m ≤ 1000) {x1 x3 : Int32} (e1 : x1 = nI st0) (e3 : x3 = nI at0) (h1 : st0 + 89 ≤ n) (h3 : at0 + 89 ≤ m) : zj_M l E yX8_copy cX8_copy 5 none 0 [.ref (E.2.1 a), .int x1, .ref (E.2.1 b), .int x3] h g (zj_pV (zj_s h b (fun i => if at0 ≤ i ∧ i < at0 + 89 then h a (st0 + (i - at0)) else h b i)) g) := by
  refine zj_M.of RX8 (by decide) rfl (Nat.le_of_ble_eq_true rfl) ?_
  intro Γ hΓ K Rt
  subst hΓ
  have loop : ∀ (mm i : Nat) (x4 : Int32), 89 + 1 ≤ i + mm → i ≤ 89 → (x4 = nI i) → zj_J E Γ 5 3 [(0, .ref (E.2.1 a)), (1, .int x1), (2, .ref (E.2.1 b)), (3, .int x3), (4, .int x4)] [] (zj_s h b (fun k => if at0 ≤ k ∧ k < at0 + i then h a (st0 + (k - at0)) else h b k)) g := by
    intro mm
    induction mm with
    | zero => intro i x4  h5 h6; omega
    | succ mm ih =>
      intro i x4  h5 h6 e4
      refine zj_iload (pc := 3) K dX8_copy_3 rfl ?_
      refine zj_bipush (v := 89) (pc := 5) K dX8_copy_5 (by decide) ?_
      refine zj_icmp_ge (tgt := 28) (pc := 7) K dX8_copy_7 (by decide) (fun c_7 => ?_) (fun c_7 => ?_)
      · have hi : i = 89 := Nat.le_antisymm h6 (zz_ge e4 (show (89 : Int32) = nI 89 from rfl) (by omega) (by omega) c_7)
        subst hi
        exact zj_vret K Rt dX8_copy_28 (⟨rfl, rfl, rfl⟩)
      · have hi : i < 89 := zz_nge e4 (show (89 : Int32) = nI 89 from rfl) (by omega) (by omega) c_7
        refine zj_aload_n (i := 2) (pc := 10) K dX8_copy_10 rfl rfl ?_
        refine zj_iload_n (i := 3) (pc := 11) K dX8_copy_11 rfl rfl ?_
        refine zj_iload (pc := 12) K dX8_copy_12 rfl ?_
        refine zj_iadd (pc := 14) K dX8_copy_14 ?_
        refine zj_aload_n (i := 0) (pc := 15) K dX8_copy_15 rfl rfl ?_
        refine zj_iload_n (i := 1) (pc := 16) K dX8_copy_16 rfl rfl ?_
        refine zj_iload (pc := 17) K dX8_copy_17 rfl ?_
        refine zj_iadd (pc := 19) K dX8_copy_19 ?_
        refine zj_ald (j := st0 + i) (pc := 20) K hs_a (by rw [e1, e4]; exact nI_add _ _) (by omega) (by first | decide | omega) dX8_copy_20 ?_
        refine zj_ast (j := at0 + i) (pc := 21) K hs_b (by rw [e3, e4]; exact nI_add _ _) (by omega) (by first | decide | omega) dX8_copy_21 ?_
        refine zj_iinc (v := 1) (pc := 22) K dX8_copy_22 rfl (by decide) rfl rfl rfl ?_
        refine zj_goto (tgt := 3) (pc := 25) K dX8_copy_25 (by decide) ?_
        refine zj_heap (zm_copy h a b st0 at0 i hab) ?_
        exact ih (i + 1) _ (by omega) (by omega) (zz_up e4)
  show zj_J E Γ 5 0 [(0, .ref (E.2.1 a)), (1, .int x1), (2, .ref (E.2.1 b)), (3, .int x3)] [] h g
  refine zj_iconst (v := 0) (pc := 0) K dX8_copy_0 (by decide) ?_
  refine zj_istore (pc := 1) K dX8_copy_1 rfl rfl rfl ?_
  refine zj_heap (zm_copy0 h a b st0 at0) ?_
  exact loop 90 0 _ (by omega) (by omega) rfl

set_option maxHeartbeats 4000000 in
set_option maxRecDepth 20000 in
theorem m_X8_fault {l : Launch} {E : zj_E} {h : zj_H} {g : zj_G}  : zj_M l E yX8_fault cX8_fault 1 (some .int) 0 [.ref (E.2.1 78)] h g (zj_pI (h 78 8) (zj_s h 78 (upd (h 78) 0 0)) g) := by
  refine zj_M.of RX8 (by decide) rfl (Nat.le_of_ble_eq_true rfl) ?_
  intro Γ hΓ K Rt
  subst hΓ
  show zj_J E Γ 1 0 [(0, .ref (E.2.1 78))] [] h g
  refine zj_aload_n (i := 0) (pc := 0) K dX8_fault_0 rfl rfl ?_
  refine zj_iconst (v := 0) (pc := 1) K dX8_fault_1 (by decide) ?_
  refine zj_putI (pc := 2) K lf_X8_1 hs_M rfl dX8_fault_2 ?_
  refine zj_aload_n (i := 0) (pc := 5) K dX8_fault_5 rfl rfl ?_
  refine zj_getI (pc := 6) K lf_X8_52 hs_M rfl dX8_fault_6 ?_
  exact zj_iret K Rt dX8_fault_9 (⟨rfl, rfl, rfl⟩)

set_option maxHeartbeats 4000000 in
set_option maxRecDepth 20000 in
theorem m_X8_judges {l : Launch} {E : zj_E} {h : zj_H} {g : zj_G}  : zj_M l E yX8_judges cX8_judges 1 (some .int) 0 [.ref (E.2.1 78)] h g (zj_pI (h 80 7) h g) := by
  refine zj_M.of RX8 (by decide) rfl (Nat.le_of_ble_eq_true rfl) ?_
  intro Γ hΓ K Rt
  subst hΓ
  show zj_J E Γ 1 0 [(0, .ref (E.2.1 78))] [] h g
  refine zj_aload_n (i := 0) (pc := 0) K dX8_judges_0 rfl rfl ?_
  refine zj_getR (pc := 1) K lf_X8_64 hs_M rfl dX8_judges_1 ?_
  refine zj_bipush (v := 7) (pc := 4) K dX8_judges_4 (by decide) ?_
  refine zj_ald (j := 7) (pc := 6) K hs_Mnow rfl (by decide) (by first | decide | omega) dX8_judges_6 ?_
  exact zj_iret K Rt dX8_judges_7 (⟨rfl, rfl, rfl⟩)

set_option maxHeartbeats 4000000 in
set_option maxRecDepth 20000 in
theorem m_X8_cases {l : Launch} {E : zj_E} {h : zj_H} {g : zj_G}  : zj_M l E yX8_cases cX8_cases 1 (some .int) 0 [.ref (E.2.1 78)] h g (zj_pI (h 80 18) h g) := by
  refine zj_M.of RX8 (by decide) rfl (Nat.le_of_ble_eq_true rfl) ?_
  intro Γ hΓ K Rt
  subst hΓ
  show zj_J E Γ 1 0 [(0, .ref (E.2.1 78))] [] h g
  refine zj_aload_n (i := 0) (pc := 0) K dX8_cases_0 rfl rfl ?_
  refine zj_getR (pc := 1) K lf_X8_64 hs_M rfl dX8_cases_1 ?_
  refine zj_bipush (v := 18) (pc := 4) K dX8_cases_4 (by decide) ?_
  refine zj_ald (j := 18) (pc := 6) K hs_Mnow rfl (by decide) (by first | decide | omega) dX8_cases_6 ?_
  exact zj_iret K Rt dX8_cases_7 (⟨rfl, rfl, rfl⟩)

set_option maxHeartbeats 4000000 in
set_option maxRecDepth 20000 in
theorem m_X8_isJudge {l : Launch} {E : zj_E} {h : zj_H} {g : zj_G} {n : Nat} (en : h 80 7 = nI n) (hn : n ≤ 1000) {x : Int32} : zj_M l E yX8_isJudge cX8_isJudge 2 (some .boolean) 1 [.ref (E.2.1 78), .int x] h g (zj_pI (zz_i (zz_in x n)) h g) := by
  refine zj_M.of RX8 (by decide) rfl (Nat.le_of_ble_eq_true rfl) ?_
  intro Γ hΓ K Rt
  subst hΓ
  show zj_J E Γ 2 0 [(0, .ref (E.2.1 78)), (1, .int x)] [] h g
  refine zj_iload_n (i := 1) (pc := 0) K dX8_isJudge_0 rfl rfl ?_
  refine zj_iconst (v := 0) (pc := 1) K dX8_isJudge_1 (by decide) ?_
  refine zj_aload_n (i := 0) (pc := 2) K dX8_isJudge_2 rfl rfl ?_
  refine zj_cV0I (pc := 3) K lm_X8_132 hs_M (m_X8_judges) (by decide) rfl (Nat.le_of_ble_eq_true rfl) dX8_isJudge_3 ?_
  refine zj_iconst (v := 1) (pc := 6) K dX8_isJudge_6 (by decide) ?_
  refine zj_isub (pc := 7) K dX8_isJudge_7 ?_
  refine zj_cS3I (pc := 8) K lm_X8_91 (m_X8_isIn) (by decide) rfl (Nat.le_of_ble_eq_true rfl) dX8_isJudge_8 ?_
  exact zj_zret K Rt dX8_isJudge_11 (zz_01 _) (⟨by rw [zm_isJ en hn], rfl, rfl⟩)

set_option maxHeartbeats 4000000 in
set_option maxRecDepth 20000 in
theorem m_X8_isCase {l : Launch} {E : zj_E} {h : zj_H} {g : zj_G} {n : Nat} (en : h 80 18 = nI n) (hn : n ≤ 1000) {x : Int32} : zj_M l E yX8_isCase cX8_isCase 2 (some .boolean) 1 [.ref (E.2.1 78), .int x] h g (zj_pI (zz_i (zz_in x n)) h g) := by
  refine zj_M.of RX8 (by decide) rfl (Nat.le_of_ble_eq_true rfl) ?_
  intro Γ hΓ K Rt
  subst hΓ
  show zj_J E Γ 2 0 [(0, .ref (E.2.1 78)), (1, .int x)] [] h g
  refine zj_iload_n (i := 1) (pc := 0) K dX8_isCase_0 rfl rfl ?_
  refine zj_iconst (v := 0) (pc := 1) K dX8_isCase_1 (by decide) ?_
  refine zj_aload_n (i := 0) (pc := 2) K dX8_isCase_2 rfl rfl ?_
  refine zj_cV0I (pc := 3) K lm_X8_136 hs_M (m_X8_cases) (by decide) rfl (Nat.le_of_ble_eq_true rfl) dX8_isCase_3 ?_
  refine zj_iconst (v := 1) (pc := 6) K dX8_isCase_6 (by decide) ?_
  refine zj_isub (pc := 7) K dX8_isCase_7 ?_
  refine zj_cS3I (pc := 8) K lm_X8_91 (m_X8_isIn) (by decide) rfl (Nat.le_of_ble_eq_true rfl) dX8_isCase_8 ?_
  exact zj_zret K Rt dX8_isCase_11 (zz_01 _) (⟨by rw [zm_isJ en hn], rfl, rfl⟩)

set_option maxHeartbeats 4000000 in
set_option maxRecDepth 20000 in
theorem m_X8_presides {l : Launch} {E : zj_E} {h : zj_H} {g : zj_G} {s J : Nat} (hs_s : zj_at s (zj_arr 89)) (eJ : h s 7 = nI J) (hJ : J ≤ 9) {b : Int32} : zj_M l E yX8_presides cX8_presides 4 (some .int) 1 [.ref (E.2.1 s), .int b] h g (zj_pI (zc_opt (zc_pre (zmS h s) b J)) h g) := by
  refine zj_M.of RX8 (by decide) rfl (Nat.le_of_ble_eq_true rfl) ?_
  intro Γ hΓ K Rt
  subst hΓ
  have loop : ∀ (n i : Nat) (x2 x3 : Int32), J + 1 ≤ i + n → i ≤ J → (x2 = zc_opt (zc_pre (zmS h s) b i)) → (x3 = nI i) → zj_J E Γ 4 4 [(0, .ref (E.2.1 s)), (1, .int b), (2, .int x2), (3, .int x3)] [] h g := by
    intro n
    induction n with
    | zero => intro i x2 x3  h1 h2; omega
    | succ n ih =>
      intro i x2 x3  h1 h2 e2 e3
      refine zj_iload_n (i := 3) (pc := 4) K dX8_presides_4 rfl rfl ?_
      refine zj_aload_n (i := 0) (pc := 5) K dX8_presides_5 rfl rfl ?_
      refine zj_bipush (v := 7) (pc := 6) K dX8_presides_6 (by decide) ?_
      refine zj_ald (j := 7) (pc := 8) K hs_s rfl (by decide) (by first | decide | omega) dX8_presides_8 ?_
      refine zj_icmp_ge (tgt := 48) (pc := 9) K dX8_presides_9 (by decide) (fun c_9 => ?_) (fun c_9 => ?_)
      · have hi : i = J := Nat.le_antisymm h2 (zz_ge e3 eJ (by omega) (by omega) c_9)
        subst hi
        refine zj_iload_n (i := 2) (pc := 48) K dX8_presides_48 rfl rfl ?_
        exact zj_iret K Rt dX8_presides_49 (⟨by rw [e2], rfl, rfl⟩)
      · have hi : i < J := zz_nge e3 eJ (by omega) (by omega) c_9
        refine zj_iload_n (i := 1) (pc := 12) K dX8_presides_12 rfl rfl ?_
        refine zj_iload_n (i := 3) (pc := 13) K dX8_presides_13 rfl rfl ?_
        refine zj_cS2I (pc := 14) K lm_X8_105 (m_X8_has (by assumption) (by omega)) (by decide) rfl (Nat.le_of_ble_eq_true rfl) dX8_presides_14 ?_
        refine zj_if_eq (tgt := 42) (pc := 17) K dX8_presides_17 (by decide) (fun c_17 => ?_) (fun c_17 => ?_)
        · replace c_17 := zz_i0.mp c_17
          refine zj_iinc (v := 1) (pc := 42) K dX8_presides_42 rfl (by decide) rfl rfl rfl ?_
          refine zj_goto (tgt := 4) (pc := 45) K dX8_presides_45 (by decide) ?_
          exact ih (i + 1) _ _ (by omega) (by omega) (by first | (unfold zc_pre; rw [if_neg (by rw [c_17]; decide)]; exact e2) | (unfold zc_pre; rw [if_pos c_17, hf]; exact e3) | (unfold zc_pre; rw [if_pos c_17, hf]; simp only; rw [if_neg (fun q => absurd c_37 (Int32.not_le.mpr q))]; exact e2) | (unfold zc_pre; rw [if_pos c_17, hf]; simp only; rw [if_pos (Int32.not_le.mp c_37)]; exact e3)) (zz_up e3)
        · replace c_17 := zz_n0.mp c_17
          refine zj_iload_n (i := 2) (pc := 20) K dX8_presides_20 rfl rfl ?_
          refine zj_iconst (v := -1) (pc := 21) K dX8_presides_21 (by decide) ?_
          refine zj_icmp_eq (tgt := 40) (pc := 22) K dX8_presides_22 (by decide) (fun c_22 => ?_) (fun c_22 => ?_)
          · have hf : zc_pre (zmS h s) b i = none := zc_opt_none (fun f q => by have := (zc_pre_lt q).1; omega) (by rw [← e2]; exact c_22)
            refine zj_iload_n (i := 3) (pc := 40) K dX8_presides_40 rfl rfl ?_
            refine zj_istore_n (i := 2) (pc := 41) K dX8_presides_41 rfl rfl rfl rfl ?_
            refine zj_iinc (v := 1) (pc := 42) K dX8_presides_42 rfl (by decide) rfl rfl rfl ?_
            refine zj_goto (tgt := 4) (pc := 45) K dX8_presides_45 (by decide) ?_
            exact ih (i + 1) _ _ (by omega) (by omega) (by first | (unfold zc_pre; rw [if_neg (by rw [c_17]; decide)]; exact e2) | (unfold zc_pre; rw [if_pos c_17, hf]; exact e3) | (unfold zc_pre; rw [if_pos c_17, hf]; simp only; rw [if_neg (fun q => absurd c_37 (Int32.not_le.mpr q))]; exact e2) | (unfold zc_pre; rw [if_pos c_17, hf]; simp only; rw [if_pos (Int32.not_le.mp c_37)]; exact e3)) (zz_up e3)
          · obtain ⟨f, hf⟩ : ∃ f, zc_pre (zmS h s) b i = some f := by
              cases hp : zc_pre (zmS h s) b i with
              | none => rw [hp] at e2; exact absurd e2 c_22
              | some f => exact ⟨f, rfl⟩
            have hf1 := (zc_pre_lt hf).1
            rw [hf] at e2
            have e2 : x2 = nI f := e2
            refine zj_aload_n (i := 0) (pc := 25) K dX8_presides_25 rfl rfl ?_
            refine zj_bipush (v := 8) (pc := 26) K dX8_presides_26 (by decide) ?_
            refine zj_iload_n (i := 3) (pc := 28) K dX8_presides_28 rfl rfl ?_
            refine zj_iadd (pc := 29) K dX8_presides_29 ?_
            refine zj_ald (j := 8 + i) (pc := 30) K hs_s (zm_ix rfl e3) (by omega) (by first | decide | omega) dX8_presides_30 ?_
            refine zj_aload_n (i := 0) (pc := 31) K dX8_presides_31 rfl rfl ?_
            refine zj_bipush (v := 8) (pc := 32) K dX8_presides_32 (by decide) ?_
            refine zj_iload_n (i := 2) (pc := 34) K dX8_presides_34 rfl rfl ?_
            refine zj_iadd (pc := 35) K dX8_presides_35 ?_
            refine zj_ald (j := 8 + f) (pc := 36) K hs_s (zm_ix rfl e2) (by omega) (by first | decide | omega) dX8_presides_36 ?_
            refine zj_icmp_le (tgt := 42) (pc := 37) K dX8_presides_37 (by decide) (fun c_37 => ?_) (fun c_37 => ?_)
            · have c_37 : zmS h s i ≤ zmS h s f := c_37
              refine zj_iinc (v := 1) (pc := 42) K dX8_presides_42 rfl (by decide) rfl rfl rfl ?_
              refine zj_goto (tgt := 4) (pc := 45) K dX8_presides_45 (by decide) ?_
              exact ih (i + 1) _ _ (by omega) (by omega) (by first | (unfold zc_pre; rw [if_neg (by rw [c_17]; decide)]; exact e2) | (unfold zc_pre; rw [if_pos c_17, hf]; exact e3) | (unfold zc_pre; rw [if_pos c_17, hf]; simp only; rw [if_neg (fun q => absurd c_37 (Int32.not_le.mpr q))]; exact e2) | (unfold zc_pre; rw [if_pos c_17, hf]; simp only; rw [if_pos (Int32.not_le.mp c_37)]; exact e3)) (zz_up e3)
            · have c_37 : ¬ zmS h s i ≤ zmS h s f := c_37
              refine zj_iload_n (i := 3) (pc := 40) K dX8_presides_40 rfl rfl ?_
              refine zj_istore_n (i := 2) (pc := 41) K dX8_presides_41 rfl rfl rfl rfl ?_
              refine zj_iinc (v := 1) (pc := 42) K dX8_presides_42 rfl (by decide) rfl rfl rfl ?_
              refine zj_goto (tgt := 4) (pc := 45) K dX8_presides_45 (by decide) ?_
              exact ih (i + 1) _ _ (by omega) (by omega) (by first | (unfold zc_pre; rw [if_neg (by rw [c_17]; decide)]; exact e2) | (unfold zc_pre; rw [if_pos c_17, hf]; exact e3) | (unfold zc_pre; rw [if_pos c_17, hf]; simp only; rw [if_neg (fun q => absurd c_37 (Int32.not_le.mpr q))]; exact e2) | (unfold zc_pre; rw [if_pos c_17, hf]; simp only; rw [if_pos (Int32.not_le.mp c_37)]; exact e3)) (zz_up e3)
  show zj_J E Γ 4 0 [(0, .ref (E.2.1 s)), (1, .int b)] [] h g
  refine zj_iconst (v := -1) (pc := 0) K dX8_presides_0 (by decide) ?_
  refine zj_istore_n (i := 2) (pc := 1) K dX8_presides_1 rfl rfl rfl rfl ?_
  refine zj_iconst (v := 0) (pc := 2) K dX8_presides_2 (by decide) ?_
  refine zj_istore_n (i := 3) (pc := 3) K dX8_presides_3 rfl rfl rfl rfl ?_
  exact loop (J + 1) 0 _ _ (by omega) (by omega) rfl rfl
