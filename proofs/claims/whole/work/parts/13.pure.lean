/-! ===== Int32 by its bits: bt x i ===== -/
def bt (x : Int32) (i : Nat) : Bool := x.toBitVec.getLsbD i
theorem b_ext {x y : Int32} (h : ∀ i, i < 32 → bt x i = bt y i) : x = y := Int32.toBitVec_inj.mp (BitVec.eq_of_getLsbD_eq (fun i hi => h i hi))
theorem b_or (x y : Int32) (i : Nat) : bt (x ||| y) i = (bt x i || bt y i) := by unfold bt; rw [Int32.toBitVec_or, BitVec.getLsbD_or]
theorem b_and (x y : Int32) (i : Nat) : bt (x &&& y) i = (bt x i && bt y i) := by unfold bt; rw [Int32.toBitVec_and, BitVec.getLsbD_and]
theorem b_xor (x y : Int32) (i : Nat) : bt (x ^^^ y) i = (bt x i ^^ bt y i) := by unfold bt; rw [Int32.toBitVec_xor, BitVec.getLsbD_xor]
theorem b_big {x : Int32} {i : Nat} (h : 32 ≤ i) : bt x i = false := BitVec.getLsbD_of_ge _ _ h
theorem b_255 (i : Nat) : bt 255 i = decide (i < 8) := by
  rcases Nat.lt_or_ge i 32 with h | h
  · exact (by decide +kernel : ∀ i, i < 32 → bt 255 i = decide (i < 8)) i h
  · rw [b_big h, decide_eq_false (by omega)]
theorem b_65535 (i : Nat) : bt 65535 i = decide (i < 16) := by
  rcases Nat.lt_or_ge i 32 with h | h
  · exact (by decide +kernel : ∀ i, i < 32 → bt 65535 i = decide (i < 16)) i h
  · rw [b_big h, decide_eq_false (by omega)]
theorem b_m1 : ∀ i, i < 32 → bt (-1) i = true := by decide +kernel
theorem b_0 (i : Nat) : bt 0 i = false := BitVec.getLsbD_zero
theorem s_l : ∀ n, n < 32 → ((nI n &&& 31).toBitVec.smod 32).toNat = n := by decide +kernel
theorem s_u : ∀ n, n < 32 → (((nI n).toUInt32 &&& Int32.toUInt32 31).toBitVec % 32).toNat = n := by decide +kernel
theorem b_shl (n : Nat) (hn : n < 32) (x : Int32) {i : Nat} (hi : i < 32) : bt (x <<< (nI n &&& 31)) i = (decide (n ≤ i) && bt x (i - n)) := by
  unfold bt
  rw [Int32.toBitVec_shiftLeft]
  show (x.toBitVec <<< ((nI n &&& 31).toBitVec.smod 32).toNat).getLsbD i = _
  rw [s_l n hn, BitVec.getLsbD_shiftLeft]
  rcases Nat.lt_or_ge i n with h | h
  · simp [h, Nat.not_le.mpr h]
  · simp [hi, h, Nat.not_lt.mpr h]
theorem b_ushr (n : Nat) (hn : n < 32) (x : Int32) (i : Nat) : bt ((x.toUInt32 >>> ((nI n).toUInt32 &&& Int32.toUInt32 31)).toInt32) i = bt x (n + i) := by
  show (x.toUInt32 >>> ((nI n).toUInt32 &&& Int32.toUInt32 31)).toBitVec.getLsbD i = x.toUInt32.toBitVec.getLsbD (n + i)
  rw [UInt32.toBitVec_shiftRight]
  show (x.toUInt32.toBitVec >>> (((nI n).toUInt32 &&& Int32.toUInt32 31).toBitVec % 32).toNat).getLsbD i = _
  rw [s_u n hn, BitVec.getLsbD_ushiftRight]
theorem b_sshr (n : Nat) (hn : n < 32) (x : Int32) {i : Nat} (hi : i < 32) : bt (x >>> (nI n &&& 31)) i = if n + i < 32 then bt x (n + i) else bt x 31 := by
  unfold bt
  rw [Int32.toBitVec_shiftRight]
  show (x.toBitVec.sshiftRight ((nI n &&& 31).toBitVec.smod 32).toNat).getLsbD i = _
  rw [s_l n hn, BitVec.getLsbD_sshiftRight, BitVec.msb_eq_getLsbD_last]
  simp [hi]
theorem b_shl8 (x : Int32) {i : Nat} (hi : i < 32) : bt (x <<< ((8 : Int32) &&& 31)) i = (decide (8 ≤ i) && bt x (i - 8)) := b_shl 8 (by omega) x hi
theorem b_shl16 (x : Int32) {i : Nat} (hi : i < 32) : bt (x <<< ((16 : Int32) &&& 31)) i = (decide (16 ≤ i) && bt x (i - 16)) := b_shl 16 (by omega) x hi
theorem b_shl24 (x : Int32) {i : Nat} (hi : i < 32) : bt (x <<< ((24 : Int32) &&& 31)) i = (decide (24 ≤ i) && bt x (i - 24)) := b_shl 24 (by omega) x hi
theorem b_sshr8 (x : Int32) {i : Nat} (hi : i < 32) : bt (x >>> ((8 : Int32) &&& 31)) i = if 8 + i < 32 then bt x (8 + i) else bt x 31 := b_sshr 8 (by omega) x hi
theorem nf_sh : ∀ l, l < 32 → ((1 : Int32) <<< (nI l &&& 31)).toBitVec = BitVec.twoPow 32 l := by decide +kernel
/-- the j-th bit, as 1 << j makes it -/
def zz_bit (j : Nat) : Int32 := (1 : Int32) <<< (nI j &&& 31)
theorem zz_bt_bit {i j : Nat} (hj : j < 32) : bt (zz_bit j) i = decide (i = j) := by
  unfold bt zz_bit
  rw [nf_sh j hj, BitVec.getLsbD_twoPow]
  by_cases e : i = j
  · subst e; simp [hj]
  · have : ¬ j = i := fun q => e q.symm
    simp [e, this]
theorem zz_shr {b x : Int32} {j : Nat} (ex : x = nI j) (hj : j < 32) : (b >>> (x &&& 31)) &&& 1 = zz_i (bt b j) := by
  subst ex
  apply b_ext
  intro i hi
  rw [b_and, b_sshr j hj b hi]
  have h1 : ∀ i, i < 32 → bt 1 i = decide (i = 0) := by decide +kernel
  rw [h1 i hi]
  by_cases e : i = 0
  · subst e
    have h0 : j + 0 < 32 := hj
    rw [if_pos h0]
    cases hb : bt b j with
    | true => simp [hb, zz_i]; exact (by decide +kernel : bt 1 0 = true).symm
    | false => simp [hb, zz_i, b_0]
  · cases hb : bt b j with
    | true => simp [e, zz_i, h1 i hi]
    | false => simp [e, zz_i, b_0]
theorem zz_out {x : Int32} {n : Nat} (hn : n < 2 ^ 31) (hc : ∀ k, k ≤ n → x ≠ nI k) : x.toInt < (0 : Int) ∨ ((n : Nat) : Int) < x.toInt := by
  rcases Int.lt_or_le x.toInt 0 with h | h
  · exact Or.inl h
  · rcases Int.lt_or_le (n : Int) x.toInt with h2 | h2
    · exact Or.inr h2
    · exfalso
      obtain ⟨k, hk⟩ := Int.eq_ofNat_of_zero_le h
      refine hc k (by omega) ?_
      apply Int32.toInt_inj.mp
      rw [nI_toInt (by omega), hk]
theorem zz_lt_nI {x : Int32} {n : Nat} (hn : n < 2 ^ 31) (h0 : ¬ x < 0) (h1 : x < nI n) : ∃ j, j < n ∧ x = nI j := by
  obtain ⟨j, hj, rfl⟩ := nI_of h0
  exact ⟨j, (nI_ltI hj hn).mp h1, rfl⟩
/-- 0 ≤ x < n -/
def zz_in (x : Int32) (n : Nat) : Bool := decide (0 ≤ x.toInt ∧ x.toInt < n)
theorem zz_in_t {x y : Int32} {n : Nat} (ey : y = nI n) (hn : n ≤ 1000) (h1 : ¬ x < 0) (h2 : ¬ y ≤ x) : zz_in x n = true := by
  subst ey
  obtain ⟨j, hj, rfl⟩ := nI_of h1
  have : j < n := Nat.not_le.mp (fun q => h2 (nI_le q hj))
  unfold zz_in; rw [nI_toInt hj]; simp; omega
theorem zz_in_f1 {x : Int32} {n : Nat} (h1 : x < 0) : zz_in x n = false := by
  have : x.toInt < 0 := by simpa using Int32.lt_iff_toInt_lt.mp h1
  unfold zz_in; simp; omega
theorem zz_in_f2 {x y : Int32} {n : Nat} (ey : y = nI n) (hn : n ≤ 1000) (h1 : ¬ x < 0) (h2 : y ≤ x) : zz_in x n = false := by
  subst ey
  obtain ⟨j, hj, rfl⟩ := nI_of h1
  have : n ≤ j := (nI_leI (by omega) hj).mp h2
  unfold zz_in; rw [nI_toInt hj]; simp; omega
theorem zz_in_ex {x : Int32} {n : Nat} (h : zz_in x n = true) (hn : n ≤ 1000) : ∃ j, j < n ∧ x = nI j := by
  unfold zz_in at h
  have h := of_decide_eq_true h
  obtain ⟨k, hk⟩ := Int.eq_ofNat_of_zero_le h.1
  refine ⟨k, by omega, ?_⟩
  apply Int32.toInt_inj.mp
  rw [nI_toInt (by omega), hk]
theorem zz_in_nI {j n : Nat} (h : j < n) (hn : n ≤ 1000) : zz_in (nI j) n = true := by
  unfold zz_in; rw [nI_toInt (by omega)]; simp; omega
theorem zz_ge {x y : Int32} {i n : Nat} (ex : x = nI i) (ey : y = nI n) (hi : i ≤ 1000) (hn : n ≤ 1000) (h : y ≤ x) : n ≤ i := by
  subst ex; subst ey; exact (nI_leI (by omega) (by omega)).mp h
theorem zz_nge {x y : Int32} {i n : Nat} (ex : x = nI i) (ey : y = nI n) (hi : i ≤ 1000) (hn : n ≤ 1000) (h : ¬ y ≤ x) : i < n := by
  subst ex; subst ey; exact Nat.not_le.mp (fun q => h (nI_le q (by omega)))
theorem zz_up {x : Int32} {i : Nat} (ex : x = nI i) : x + 1 = nI (i + 1) := by subst ex; exact nI_1 i
/-- how many of the first n -/
def zc_cnt (p : Nat → Bool) : Nat → Nat
  | 0 => 0
  | n + 1 => zc_cnt p n + (if p n = true then 1 else 0)
theorem zc_cnt_t {p : Nat → Bool} {i : Nat} {x : Int32} (ex : x = nI (zc_cnt p i)) (h : p i = true) : x + 1 = nI (zc_cnt p (i + 1)) := by
  rw [ex, nI_1]; simp [zc_cnt, h]
theorem zc_cnt_f {p : Nat → Bool} {i : Nat} {x : Int32} (ex : x = nI (zc_cnt p i)) (h : p i = false) : x = nI (zc_cnt p (i + 1)) := by
  rw [ex]; simp [zc_cnt, h]
theorem zc_cnt_le (p : Nat → Bool) : ∀ n, zc_cnt p n ≤ n
  | 0 => Nat.le_refl 0
  | n + 1 => by have := zc_cnt_le p n; unfold zc_cnt; split <;> omega
theorem zc_cnt_congr {p q : Nat → Bool} : ∀ {n : Nat}, (∀ i, i < n → p i = q i) → zc_cnt p n = zc_cnt q n
  | 0, _ => rfl
  | n + 1, h => by unfold zc_cnt; rw [zc_cnt_congr (fun i hi => h i (Nat.lt_succ_of_lt hi)), h n (Nat.lt_succ_self n)]
/-- a sum of the first n -/
def zc_sum (f : Nat → Int32) : Nat → Int32
  | 0 => 0
  | n + 1 => zc_sum f n + f n
theorem zc_sum_congr {p q : Nat → Int32} : ∀ {n : Nat}, (∀ i, i < n → p i = q i) → zc_sum p n = zc_sum q n
  | 0, _ => rfl
  | n + 1, h => by unfold zc_sum; rw [zc_sum_congr (fun i hi => h i (Nat.lt_succ_of_lt hi)), h n (Nat.lt_succ_self n)]
/-- who presides: of the first n judges those whose bit b has; the greatest, of like ones the least -/
def zc_pre (sen : Nat → Int32) (b : Int32) : Nat → Option Nat
  | 0 => none
  | n + 1 => if bt b n = true then (match zc_pre sen b n with
      | none => some n
      | some f => if sen f < sen n then some n else some f) else zc_pre sen b n
def zc_opt : Option Nat → Int32
  | none => -1
  | some f => nI f
theorem zc_pre_lt {sen : Nat → Int32} {b : Int32} : ∀ {n f : Nat}, zc_pre sen b n = some f → f < n ∧ bt b f = true
  | 0, f, h => by cases h
  | n + 1, f, h => by
    unfold zc_pre at h
    split at h
    · next hb =>
      split at h
      · cases h; exact ⟨Nat.lt_succ_self _, hb⟩
      · next f0 hf =>
        split at h
        · cases h; exact ⟨Nat.lt_succ_self _, hb⟩
        · cases h; have := zc_pre_lt hf; exact ⟨by omega, this.2⟩
    · have := zc_pre_lt h; exact ⟨by omega, this.2⟩
theorem zc_pre_congr {sen sen' : Nat → Int32} {b : Int32} : ∀ {n : Nat}, (∀ i, i < n → sen i = sen' i) → zc_pre sen b n = zc_pre sen' b n
  | 0, _ => rfl
  | n + 1, h => by
    have ih : zc_pre sen b n = zc_pre sen' b n := zc_pre_congr (fun i hi => h i (Nat.lt_succ_of_lt hi))
    unfold zc_pre
    rw [ih]
    split
    · cases hp : zc_pre sen' b n with
      | none => rfl
      | some f =>
        have := (zc_pre_lt hp).1
        simp only
        rw [h f (by omega), h n (Nat.lt_succ_self n)]
    · rfl
theorem zc_opt_none {o : Option Nat} (h : ∀ f, o = some f → f < 1000) (e : zc_opt o = -1) : o = none := by
  cases o with
  | none => rfl
  | some f =>
    exfalso
    have hf := h f rfl
    have e2 : (nI f).toInt = (-1 : Int32).toInt := by rw [show nI f = -1 from e]
    rw [nI_toInt (by omega)] at e2
    have : (-1 : Int32).toInt = -1 := by decide
    omega
/-- the senior ones of the first n, as bits -/
def zc_mask (sen : Nat → Int32) (S : Int32) : Nat → Int32
  | 0 => 0
  | n + 1 => if S ≤ sen n then zc_mask sen S n ||| zz_bit n else zc_mask sen S n
/-- a bench counted: LOADS of the first i judges, PAIRS of (a, b) with a below i, or a = i and b below c -/
def zb_L (b w chair first : Int32) (i : Nat) (f : Nat → Int32) : Nat → Int32 := fun j => if j < i ∧ bt b j = true then f j + (if nI j = first then w + chair else w) else f j
def zb_P (b : Int32) (J i c : Nat) (f : Nat → Int32) : Nat → Int32 := fun q => if (q / 9 < i ∨ (q / 9 = i ∧ q % 9 < c)) ∧ q / 9 < q % 9 ∧ q % 9 < J ∧ bt b (q / 9) = true ∧ bt b (q % 9) = true then f q + 1 else f q
theorem zb_L_t {b w chair first : Int32} {i : Nat} {f : Nat → Int32} (hb : bt b i = true) : upd (zb_L b w chair first i f) i (zb_L b w chair first i f i + (if nI i = first then w + chair else w)) = zb_L b w chair first (i + 1) f := by
  funext j
  unfold upd zb_L
  by_cases e : j = i
  · subst e; simp [hb]
  · rw [if_neg e]
    by_cases e2 : j < i ∧ bt b j = true
    · rw [if_pos e2, if_pos (show j < i + 1 ∧ bt b j = true from ⟨by omega, e2.2⟩)]
    · rw [if_neg e2, if_neg (show ¬ (j < i + 1 ∧ bt b j = true) from fun q => e2 ⟨by omega, q.2⟩)]
theorem zb_L_f {b w chair first : Int32} {i : Nat} {f : Nat → Int32} (hb : bt b i = false) : zb_L b w chair first i f = zb_L b w chair first (i + 1) f := by
  funext j
  unfold zb_L
  by_cases e : j = i
  · subst e; simp [hb]
  · by_cases e2 : j < i ∧ bt b j = true
    · rw [if_pos e2, if_pos (show j < i + 1 ∧ bt b j = true from ⟨by omega, e2.2⟩)]
    · rw [if_neg e2, if_neg (show ¬ (j < i + 1 ∧ bt b j = true) from fun q => e2 ⟨by omega, q.2⟩)]
theorem zb_P_t {b : Int32} {J i c : Nat} {f : Nat → Int32} (hi : bt b i = true) (hc : bt b c = true) (hic : i < c) (hcJ : c < J) (hJ : J ≤ 9) : upd (zb_P b J i c f) (i * 9 + c) (zb_P b J i c f (i * 9 + c) + 1) = zb_P b J i (c + 1) f := by
  have d1 : (i * 9 + c) / 9 = i := by omega
  have d2 : (i * 9 + c) % 9 = c := by omega
  funext q
  unfold upd zb_P
  by_cases e : q = i * 9 + c
  · subst e
    rw [if_pos rfl, d1, d2]
    rw [if_neg (by omega), if_pos ⟨Or.inr ⟨rfl, by omega⟩, hic, hcJ, hi, hc⟩]
  · rw [if_neg e]
    have : ¬ (q / 9 = i ∧ q % 9 = c) := by omega
    by_cases e2 : (q / 9 < i ∨ (q / 9 = i ∧ q % 9 < c)) ∧ q / 9 < q % 9 ∧ q % 9 < J ∧ bt b (q / 9) = true ∧ bt b (q % 9) = true
    · rw [if_pos e2, if_pos ⟨by omega, e2.2⟩]
    · rw [if_neg e2, if_neg (fun z => e2 ⟨by omega, z.2⟩)]
theorem zb_P_f {b : Int32} {J i c : Nat} {f : Nat → Int32} (hc : bt b c = false) : zb_P b J i c f = zb_P b J i (c + 1) f := by
  funext q
  unfold zb_P
  by_cases e2 : (q / 9 < i ∨ (q / 9 = i ∧ q % 9 < c)) ∧ q / 9 < q % 9 ∧ q % 9 < J ∧ bt b (q / 9) = true ∧ bt b (q % 9) = true
  · rw [if_pos e2, if_pos ⟨by omega, e2.2⟩]
  · rw [if_neg e2, if_neg (fun z => ?_)]
    by_cases e3 : q / 9 = i ∧ q % 9 = c
    · rw [e3.2, hc] at z; exact absurd z.2.2.2.2 (by decide)
    · exact e2 ⟨by omega, z.2⟩
theorem zb_P_n {b : Int32} {J i : Nat} {f : Nat → Int32} : zb_P b J i J f = zb_P b J (i + 1) 0 f := by
  funext q
  unfold zb_P
  by_cases e2 : (q / 9 < i ∨ (q / 9 = i ∧ q % 9 < J)) ∧ q / 9 < q % 9 ∧ q % 9 < J ∧ bt b (q / 9) = true ∧ bt b (q % 9) = true
  · rw [if_pos e2, if_pos ⟨by omega, e2.2⟩]
  · rw [if_neg e2, if_neg (fun z => e2 ⟨by omega, z.2⟩)]
theorem zb_P_s {b : Int32} {J i : Nat} {f : Nat → Int32} : zb_P b J i 0 f = zb_P b J i (i + 1) f := by
  funext q
  unfold zb_P
  by_cases e2 : (q / 9 < i ∨ (q / 9 = i ∧ q % 9 < 0)) ∧ q / 9 < q % 9 ∧ q % 9 < J ∧ bt b (q / 9) = true ∧ bt b (q % 9) = true
  · rw [if_pos e2, if_pos ⟨by omega, e2.2⟩]
  · rw [if_neg e2, if_neg (fun z => e2 ⟨by omega, z.2⟩)]
theorem zb_P_x {b : Int32} {J i : Nat} {f : Nat → Int32} (hi : bt b i = false) : zb_P b J i 0 f = zb_P b J (i + 1) 0 f := by
  funext q
  unfold zb_P
  by_cases e2 : (q / 9 < i ∨ (q / 9 = i ∧ q % 9 < 0)) ∧ q / 9 < q % 9 ∧ q % 9 < J ∧ bt b (q / 9) = true ∧ bt b (q % 9) = true
  · rw [if_pos e2, if_pos ⟨by omega, e2.2⟩]
  · rw [if_neg e2, if_neg (fun z => ?_)]
    by_cases e3 : q / 9 = i
    · rw [e3, hi] at z; exact absurd z.2.2.2.1 (by decide)
    · exact e2 ⟨by omega, z.2⟩
