-- bytes: signed on one side, unsigned on the other
theorem zb_and {x : Int32} : ∃ k, k < 256 ∧ x &&& 255 = nI k := by
  refine ⟨(x.toBitVec &&& 255#32).toNat, ?_, ?_⟩
  · rw [BitVec.toNat_and]
    exact Nat.lt_of_le_of_lt Nat.and_le_right (by decide)
  · apply Int32.toBitVec_inj.mp
    rw [Int32.toBitVec_and]
    show x.toBitVec &&& 255#32 = BitVec.ofNat 32 (x.toBitVec &&& 255#32).toNat
    rw [BitVec.ofNat_toNat, BitVec.setWidth_eq]
theorem zb_31 {x : Int32} : ∃ k, k < 32 ∧ x &&& 31 = nI k := by
  refine ⟨(x.toBitVec &&& 31#32).toNat, ?_, ?_⟩
  · rw [BitVec.toNat_and]
    exact Nat.lt_of_le_of_lt Nat.and_le_right (by decide)
  · apply Int32.toBitVec_inj.mp
    rw [Int32.toBitVec_and]
    show x.toBitVec &&& 31#32 = BitVec.ofNat 32 (x.toBitVec &&& 31#32).toNat
    rw [BitVec.ofNat_toNat, BitVec.setWidth_eq]
theorem zb_i8 {x y : Int32} (h : ∀ i, i < 8 → bt x i = bt y i) : x.toInt8 = y.toInt8 := by
  apply Int8.toBitVec_inj.mp
  show x.toBitVec.signExtend 8 = y.toBitVec.signExtend 8
  apply BitVec.eq_of_getLsbD_eq
  intro i hi
  have h1 := h i hi
  unfold bt at h1
  rw [BitVec.getLsbD_signExtend, BitVec.getLsbD_signExtend, if_pos (by omega), if_pos (by omega), h1]
theorem zb_tab : ∀ k, k < 256 → ((nI k).toInt8.toInt32 = nI k ∨ (zw_x (nI k).toInt8.toInt32 ∧ zw_x (nI k))) := by unfold zw_x; decide +kernel
theorem zb_byte {w : Int32} {i : Nat} (hi : i < 4) : zt_byte w i = zm_byte w i ∨ (zw_x (zt_byte w i) ∧ zw_x (zm_byte w i)) := by
  obtain ⟨k, hk, ek⟩ := zb_and (x := (w.toUInt32 >>> ((nI (24 - 8 * i)).toUInt32 &&& Int32.toUInt32 31)).toInt32)
  have em : zm_byte w i = nI k := ek
  have et : zt_byte w i = (nI k).toInt8.toInt32 := by
    unfold zt_byte
    rw [zb_i8 (y := nI k) (fun b hb => ?_)]
    rw [← em]
    unfold zm_byte
    rw [b_and, b_255, decide_eq_true hb, Bool.and_true, b_ushr _ (by omega), b_sshr _ (by omega) _ (by omega), if_pos (by omega)]
  rw [em, et]
  exact zb_tab k hk
-- the TEXT, whatever bytes stand for the rest
theorem zu_line_c {t t' : Nat → Int32} {n : Nat} (hr : zw_r t t' n) {q : zuK} {w : zuW} (he : q.2.2.1 ≤ n) : zu_line (zw_T t n) (zu_is t) q w = zu_line (zw_T t n) (zu_is t') q w := by
  have hc : zu_case (zw_T t n) (zu_is t) q w = zu_case (zw_T t n) (zu_is t') q w := by
    unfold zu_case
    have hn : ∀ r, zu_adv t n q.2.2.1 r → zu_not (zw_T t n) (zu_is t) (w 18).toNatClampNeg r = zu_not (zw_T t n) (zu_is t') (w 18).toNatClampNeg r := by
      intro r ha
      match r, ha with
      | .inl e, _ => rfl
      | .inr (q0, w0), ha =>
        obtain ⟨a, a1, a2, rfl⟩ := ha q0 w0 rfl
        have hz := zw_tok_e (zw_T_tok t a2)
        show (if zu_is t (zw_T t n a) 4 = true then _ else _) = (if zu_is t' (zw_T t n a) 4 = true then _ else _)
        rw [zu_is_c hr hz.2.1 (by decide)]
    rw [hn _ (zu_adv_num (zu_adv_go he))]
  unfold zu_line zu_court
  rw [hc, zu_is_c hr he (i := 0) (by decide), zu_is_c hr he (i := 1) (by decide), zu_is_c hr he (i := 2) (by decide), zu_is_c hr he (i := 3) (by decide)]
theorem zu_lines_c {t t' : Nat → Int32} {n : Nat} (hr : zw_r t t' n) : ∀ (f l : Nat) (r : zuR), (∀ q w, r = .inr (q, w) → q.2.2.1 ≤ n) → zu_lines (zw_T t n) (zu_is t) n f l r = zu_lines (zw_T t n) (zu_is t') n f l r
  | 0, _, _, _ => rfl
  | f + 1, l, .inl e, _ => rfl
  | f + 1, l, .inr (q, w), h => by
    have he := h q w rfl
    rw [zu_lines, zu_lines]
    rw [← zu_line_c hr he]
    by_cases h1 : q.1 = 1
    · rw [if_pos h1, if_pos h1]
    · rw [if_neg h1, if_neg h1]
      exact zu_lines_c hr f (l + 1) _ (fun q1 w1 z => (zu_adv_sign (zu_adv_line he) z).2.1)
theorem zu_text_c {t t' : Nat → Int32} {n : Nat} (hr : zw_r t t' n) : zu_text (zw_T t n) (zu_is t) n = zu_text (zw_T t' n) (zu_is t') n := by
  rw [← zw_T_c hr]
  unfold zu_text
  refine zu_lines_c hr _ _ _ (fun q w z => ?_)
  cases z
  exact (zw_tok_e (zw_T_tok t (Nat.zero_le n))).2.1
-- the seniors as a mask, and one by one
theorem zc_mask_bt {sen : Nat → Int32} {S : Int32} : ∀ {n : Nat}, n ≤ 9 → ∀ i, bt (zc_mask sen S n) i = (decide (i < n) && decide (S ≤ sen i))
  | 0, _, i => by rw [zc_mask, b_0]; rfl
  | n + 1, hn, i => by
    rw [zc_mask]
    by_cases h : S ≤ sen n
    · rw [if_pos h, b_or, zc_mask_bt (by omega), zz_bt_bit (by omega)]
      by_cases e : i = n
      · subst e; rw [decide_eq_true h, decide_eq_true (show i < i + 1 by omega), decide_eq_true (show i = i from rfl), Bool.or_true]; rfl
      · rw [decide_eq_false e, Bool.or_false]
        rw [decide_eq_decide.mpr (show i < n ↔ i < n + 1 by omega)]
    · rw [if_neg h, zc_mask_bt (by omega)]
      by_cases e : i = n
      · subst e; rw [decide_eq_false h, Bool.and_false, Bool.and_false]
      · rw [decide_eq_decide.mpr (show i < n ↔ i < n + 1 by omega)]
theorem zm_sen_ex {sen : Nat → Int32} {S b : Int32} : ∀ {n : Nat}, (zm_sen sen S b n = true ↔ ∃ j, j < n ∧ bt b j = true ∧ S ≤ sen j)
  | 0 => ⟨fun z => absurd z Bool.false_ne_true, fun ⟨j, hj, _⟩ => absurd hj (Nat.not_lt_zero j)⟩
  | n + 1 => by
    rw [zm_sen, Bool.or_eq_true, zm_sen_ex, Bool.and_eq_true, decide_eq_true_iff]
    constructor
    · rintro (⟨j, h1, h2, h3⟩ | ⟨h2, h3⟩)
      · exact ⟨j, by omega, h2, h3⟩
      · exact ⟨n, by omega, h2, h3⟩
    · rintro ⟨j, h1, h2, h3⟩
      by_cases e : j = n
      · subst e; exact Or.inr ⟨h2, h3⟩
      · exact Or.inl ⟨j, by omega, h2, h3⟩
theorem zc_mask_sen {sen sen' : Nat → Int32} {S S' b : Int32} {J : Nat} (hJ : J ≤ 9) (he : ∀ j, j < J → (S ≤ sen j ↔ S' ≤ sen' j)) : decide (¬ b &&& zc_mask sen S J = 0) = zm_sen sen' S' b J := by
  have hiff : (¬ b &&& zc_mask sen S J = 0) ↔ zm_sen sen' S' b J = true := by
    rw [zm_sen_ex]
    constructor
    · intro h
      refine Classical.byContradiction (fun hno => h ?_)
      apply b_ext
      intro i hi
      rw [b_and, zc_mask_bt hJ, b_0]
      cases hb : bt b i with
      | false => rfl
      | true =>
        by_cases hl : i < J
        · rw [decide_eq_false (p := S ≤ sen i) (fun z => hno ⟨i, hl, hb, (he i hl).mp z⟩), Bool.and_false, Bool.and_false]
        · rw [decide_eq_false hl]; rfl
    · rintro ⟨j, h1, h2, h3⟩ z
      have hb := b_and b (zc_mask sen S J) j
      rw [z, b_0, zc_mask_bt hJ, h2, decide_eq_true h1, decide_eq_true ((he j h1).mpr h3)] at hb
      cases hb
  by_cases h : ¬ b &&& zc_mask sen S J = 0
  · rw [decide_eq_true h, hiff.mp h]
  · rw [decide_eq_false h]
    cases hz : zm_sen sen' S' b J with
    | false => rfl
    | true => exact absurd (hiff.mpr hz) h
