-- the greatest and the least, whatever the order in which they are looked for
theorem zc_max_is {f : Nat → Int32} {s : Int32} : ∀ n, s ≤ zc_max f s n ∧ (∀ i, i < n → f i ≤ zc_max f s n) ∧ (zc_max f s n = s ∨ ∃ i, i < n ∧ zc_max f s n = f i)
  | 0 => ⟨Int32.le_refl _, fun i hi => absurd hi (Nat.not_lt_zero i), Or.inl rfl⟩
  | n + 1 => by
    obtain ⟨h1, h2, h3⟩ := zc_max_is (f := f) (s := s) n
    unfold zc_max
    split
    · next hl =>
      have hle := Int32.le_of_lt hl
      refine ⟨Int32.le_trans h1 hle, fun i hi => ?_, Or.inr ⟨n, Nat.lt_succ_self n, rfl⟩⟩
      by_cases e : i = n
      · rw [e]; exact Int32.le_refl _
      · exact Int32.le_trans (h2 i (by omega)) hle
    · next hl =>
      refine ⟨h1, fun i hi => ?_, h3.imp id (fun ⟨i, hi, e⟩ => ⟨i, by omega, e⟩)⟩
      by_cases e : i = n
      · rw [e]; exact Int32.not_lt.mp hl
      · exact h2 i (by omega)
theorem zc_min_is {f : Nat → Int32} {s : Int32} : ∀ n, zc_min f s n ≤ s ∧ (∀ i, i < n → zc_min f s n ≤ f i) ∧ (zc_min f s n = s ∨ ∃ i, i < n ∧ zc_min f s n = f i)
  | 0 => ⟨Int32.le_refl _, fun i hi => absurd hi (Nat.not_lt_zero i), Or.inl rfl⟩
  | n + 1 => by
    obtain ⟨h1, h2, h3⟩ := zc_min_is (f := f) (s := s) n
    unfold zc_min
    split
    · next hl =>
      have hle := Int32.le_of_lt hl
      refine ⟨Int32.le_trans hle h1, fun i hi => ?_, Or.inr ⟨n, Nat.lt_succ_self n, rfl⟩⟩
      by_cases e : i = n
      · rw [e]; exact Int32.le_refl _
      · exact Int32.le_trans hle (h2 i (by omega))
    · next hl =>
      refine ⟨h1, fun i hi => ?_, h3.imp id (fun ⟨i, hi, e⟩ => ⟨i, by omega, e⟩)⟩
      by_cases e : i = n
      · rw [e]; exact Int32.not_lt.mp hl
      · exact h2 i (by omega)
theorem zc_maxb_is {P : Nat → Int32} {a : Nat} {s : Int32} : ∀ n, s ≤ zc_maxb P a s n ∧ (∀ c, a < c → c < n → P (a * 9 + c) ≤ zc_maxb P a s n) ∧ (zc_maxb P a s n = s ∨ ∃ c, a < c ∧ c < n ∧ zc_maxb P a s n = P (a * 9 + c))
  | 0 => ⟨Int32.le_refl _, fun i _ hi => absurd hi (Nat.not_lt_zero i), Or.inl rfl⟩
  | n + 1 => by
    obtain ⟨h1, h2, h3⟩ := zc_maxb_is (P := P) (a := a) (s := s) n
    unfold zc_maxb
    split
    · next ha =>
      split
      · next hl =>
        have hle := Int32.le_of_lt hl
        refine ⟨Int32.le_trans h1 hle, fun i ia hi => ?_, Or.inr ⟨n, ha, Nat.lt_succ_self n, rfl⟩⟩
        by_cases e : i = n
        · rw [e]; exact Int32.le_refl _
        · exact Int32.le_trans (h2 i ia (by omega)) hle
      · next hl =>
        refine ⟨h1, fun i ia hi => ?_, h3.imp id (fun ⟨i, ia, hi, e⟩ => ⟨i, ia, by omega, e⟩)⟩
        by_cases e : i = n
        · rw [e]; exact Int32.not_lt.mp hl
        · exact h2 i ia (by omega)
    · next ha => exact ⟨h1, fun i ia hi => h2 i ia (by omega), h3.imp id (fun ⟨i, ia, hi, e⟩ => ⟨i, ia, by omega, e⟩)⟩
theorem zc_minb_is {P : Nat → Int32} {a : Nat} {s : Int32} : ∀ n, zc_minb P a s n ≤ s ∧ (∀ c, a < c → c < n → zc_minb P a s n ≤ P (a * 9 + c)) ∧ (zc_minb P a s n = s ∨ ∃ c, a < c ∧ c < n ∧ zc_minb P a s n = P (a * 9 + c))
  | 0 => ⟨Int32.le_refl _, fun i _ hi => absurd hi (Nat.not_lt_zero i), Or.inl rfl⟩
  | n + 1 => by
    obtain ⟨h1, h2, h3⟩ := zc_minb_is (P := P) (a := a) (s := s) n
    unfold zc_minb
    split
    · next ha =>
      split
      · next hl =>
        have hle := Int32.le_of_lt hl
        refine ⟨Int32.le_trans hle h1, fun i ia hi => ?_, Or.inr ⟨n, ha, Nat.lt_succ_self n, rfl⟩⟩
        by_cases e : i = n
        · rw [e]; exact Int32.le_refl _
        · exact Int32.le_trans hle (h2 i ia (by omega))
      · next hl =>
        refine ⟨h1, fun i ia hi => ?_, h3.imp id (fun ⟨i, ia, hi, e⟩ => ⟨i, ia, by omega, e⟩)⟩
        by_cases e : i = n
        · rw [e]; exact Int32.not_lt.mp hl
        · exact h2 i ia (by omega)
    · next ha => exact ⟨h1, fun i ia hi => h2 i ia (by omega), h3.imp id (fun ⟨i, ia, hi, e⟩ => ⟨i, ia, by omega, e⟩)⟩
theorem zc_max2_is {P : Nat → Int32} {J : Nat} : ∀ n, 0 ≤ zc_max2 P J n ∧ (∀ a c, a < n → a < c → c < J → P (a * 9 + c) ≤ zc_max2 P J n) ∧ (zc_max2 P J n = 0 ∨ ∃ a c, a < n ∧ a < c ∧ c < J ∧ zc_max2 P J n = P (a * 9 + c))
  | 0 => ⟨Int32.le_refl _, fun a c h => absurd h (Nat.not_lt_zero a), Or.inl rfl⟩
  | n + 1 => by
    obtain ⟨h1, h2, h3⟩ := zc_max2_is (P := P) (J := J) n
    obtain ⟨k1, k2, k3⟩ := zc_maxb_is (P := P) (a := n) (s := zc_max2 P J n) J
    refine ⟨Int32.le_trans h1 k1, fun a c ha hc hJ => ?_, ?_⟩
    · by_cases e : a = n
      · subst e; exact k2 c hc hJ
      · exact Int32.le_trans (h2 a c (by omega) hc hJ) k1
    · rcases k3 with k3 | ⟨c, c1, c2, c3⟩
      · show zc_maxb P n (zc_max2 P J n) J = 0 ∨ ∃ a c, a < n + 1 ∧ a < c ∧ c < J ∧ zc_maxb P n (zc_max2 P J n) J = P (a * 9 + c)
        rw [k3]
        exact h3.imp id (fun ⟨a, c, h4, h5⟩ => ⟨a, c, by omega, h5⟩)
      · exact Or.inr ⟨n, c, Nat.lt_succ_self n, c1, c2, c3⟩
theorem zc_min2_is {P : Nat → Int32} {J : Nat} : ∀ n, zc_min2 P J n ≤ 2147483647 ∧ (∀ a c, a < n → a < c → c < J → zc_min2 P J n ≤ P (a * 9 + c)) ∧ (zc_min2 P J n = 2147483647 ∨ ∃ a c, a < n ∧ a < c ∧ c < J ∧ zc_min2 P J n = P (a * 9 + c))
  | 0 => ⟨Int32.le_refl _, fun a c h => absurd h (Nat.not_lt_zero a), Or.inl rfl⟩
  | n + 1 => by
    obtain ⟨h1, h2, h3⟩ := zc_min2_is (P := P) (J := J) n
    obtain ⟨k1, k2, k3⟩ := zc_minb_is (P := P) (a := n) (s := zc_min2 P J n) J
    refine ⟨Int32.le_trans k1 h1, fun a c ha hc hJ => ?_, ?_⟩
    · by_cases e : a = n
      · subst e; exact k2 c hc hJ
      · exact Int32.le_trans k1 (h2 a c (by omega) hc hJ)
    · rcases k3 with k3 | ⟨c, c1, c2, c3⟩
      · show zc_minb P n (zc_min2 P J n) J = 2147483647 ∨ ∃ a c, a < n + 1 ∧ a < c ∧ c < J ∧ zc_minb P n (zc_min2 P J n) J = P (a * 9 + c)
        rw [k3]
        exact h3.imp id (fun ⟨a, c, h4, h5⟩ => ⟨a, c, by omega, h5⟩)
      · exact Or.inr ⟨n, c, Nat.lt_succ_self n, c1, c2, c3⟩
/-- which of the (a, c) count, and what they count -/
def zs_v (x : Int32) (a c : Nat) : Bool := if x = 0 then decide (c < a) else decide (c = a)
def zs_F (τ : zτ) (δ : zδ) (x : Int32) (a c : Nat) : Int32 := if x = 0 then nI (zs_pair τ.2.1 δ.2.2.2.1 (-1) a c) else zq_L τ δ a
def zs_lo (τ : zτ) (δ : zδ) (x : Int32) (i j : Nat) (m : Int32) : Prop := (∀ a c, zs_v x a c = true → (a < i ∨ a = i ∧ c < j) → m ≤ zs_F τ δ x a c) ∧ ∃ a c, zs_v x a c = true ∧ a < τ.1 ∧ m = zs_F τ δ x a c
def zs_hi (τ : zτ) (δ : zδ) (x : Int32) (i j : Nat) (m : Int32) : Prop := (∀ a c, zs_v x a c = true → (a < i ∨ a = i ∧ c < j) → zs_F τ δ x a c ≤ m) ∧ ∃ a c, zs_v x a c = true ∧ a < τ.1 ∧ m = zs_F τ δ x a c
theorem zs_lo_hi {τ : zτ} {δ : zδ} {x lo hi : Int32} (hJ2 : 2 ≤ τ.1) (hJ : τ.1 ≤ 9) (hC : τ.2.1 ≤ 14) (hx : x = 0 ∨ x = 1) (hL : ∀ j, 0 ≤ zq_L τ δ j) (h1 : zs_lo τ δ x τ.1 0 lo) (h2 : zs_hi τ δ x τ.1 0 hi) : zq_spr τ δ x = hi - lo := by
  obtain ⟨a1, p, r, p1, p2, p3⟩ := h1
  obtain ⟨b1, s, t, s1, s2, s3⟩ := h2
  unfold zq_spr
  rw [if_neg (by omega)]
  rcases hx with rfl | rfl
  · rw [if_pos rfl]
    have hP : ∀ a c, a < c → c < τ.1 → zq_P τ.2.1 δ.2.2.2.1 (a * 9 + c) = zs_F τ δ 0 c a := fun a c hac hc => by
      unfold zq_P zs_F
      rw [if_pos rfl, show (a * 9 + c) / 9 = a by omega, show (a * 9 + c) % 9 = c by omega, zs_pair_comm]
    have hv : ∀ a c, zs_v 0 a c = true → c < a := fun a c h => by unfold zs_v at h; rw [if_pos rfl] at h; exact of_decide_eq_true h
    have hv2 : ∀ a c, c < a → zs_v 0 a c = true := fun a c h => by unfold zs_v; rw [if_pos rfl]; exact decide_eq_true h
    obtain ⟨m1, m2, m3⟩ := zc_max2_is (P := zq_P τ.2.1 δ.2.2.2.1) (J := τ.1) τ.1
    obtain ⟨n1, n2, n3⟩ := zc_min2_is (P := zq_P τ.2.1 δ.2.2.2.1) (J := τ.1) τ.1
    have hp := hv p r p1
    have hs := hv s t s1
    have e1 : zc_max2 (zq_P τ.2.1 δ.2.2.2.1) τ.1 τ.1 = hi := by
      have g1 : hi ≤ zc_max2 (zq_P τ.2.1 δ.2.2.2.1) τ.1 τ.1 := by rw [s3, ← hP t s hs s2]; exact m2 t s (by omega) hs s2
      refine Int32.le_antisymm ?_ g1
      rcases m3 with m3 | ⟨a, c, c1, c2, c3, c4⟩
      · rw [m3, s3]
        unfold zs_F; rw [if_pos rfl]
        have hz : zs_pair τ.2.1 δ.2.2.2.1 (-1) s t ≤ τ.2.1 := zc_cnt_le _ _
        exact Int32.le_iff_toInt_le.mpr (by rw [nI_toInt (show zs_pair τ.2.1 δ.2.2.2.1 (-1) s t < 2 ^ 31 by omega)]; exact Int.natCast_nonneg _)
      · rw [c4, hP a c c2 c3]; exact b1 c a (hv2 c a c2) (Or.inl c3)
    have e2 : zc_min2 (zq_P τ.2.1 δ.2.2.2.1) τ.1 τ.1 = lo := by
      have g1 : zc_min2 (zq_P τ.2.1 δ.2.2.2.1) τ.1 τ.1 ≤ lo := by rw [p3, ← hP r p hp p2]; exact n2 r p (by omega) hp p2
      refine Int32.le_antisymm g1 ?_
      rcases n3 with n3 | ⟨a, c, c1, c2, c3, c4⟩
      · rw [n3]; exact zz_le_max _
      · rw [c4, hP a c c2 c3]; exact a1 c a (hv2 c a c2) (Or.inl c3)
    rw [e1, e2]
  · rw [if_neg (by decide), if_pos rfl]
    have hF : ∀ a c, zs_F τ δ 1 a c = zq_L τ δ a := fun a c => by unfold zs_F; rw [if_neg (by decide)]
    have hv2 : ∀ a, zs_v 1 a a = true := fun a => by unfold zs_v; rw [if_neg (by decide)]; exact decide_eq_true rfl
    obtain ⟨m1, m2, m3⟩ := zc_max_is (f := zq_L τ δ) (s := 0) τ.1
    obtain ⟨n1, n2, n3⟩ := zc_min_is (f := zq_L τ δ) (s := 2147483647) τ.1
    have e1 : zc_max (zq_L τ δ) 0 τ.1 = hi := by
      have g1 : hi ≤ zc_max (zq_L τ δ) 0 τ.1 := by rw [s3, hF]; exact m2 s s2
      refine Int32.le_antisymm ?_ g1
      rcases m3 with m3 | ⟨a, c1, c4⟩
      · rw [m3, s3, hF]; exact hL s
      · rw [c4, ← hF a a]; exact b1 a a (hv2 a) (Or.inl c1)
    have e2 : zc_min (zq_L τ δ) 2147483647 τ.1 = lo := by
      have g1 : zc_min (zq_L τ δ) 2147483647 τ.1 ≤ lo := by rw [p3, hF]; exact n2 p p2
      refine Int32.le_antisymm g1 ?_
      rcases n3 with n3 | ⟨a, c1, c4⟩
      · rw [n3]; exact zz_le_max _
      · rw [c4, ← hF a a]; exact a1 a a (hv2 a) (Or.inl c1)
    rw [e1, e2]
theorem zs_v_le {x : Int32} {a c : Nat} (h : zs_v x a c = true) : c ≤ a := by
  unfold zs_v at h
  split at h
  · exact Nat.le_of_lt (of_decide_eq_true h)
  · exact Nat.le_of_eq (of_decide_eq_true h)
section ZSL
variable {τ : zτ} {δ : zδ} {x m v : Int32} {i j : Nat}
theorem zs_lo_s (h : zs_lo τ δ x i j m) (hv : zs_v x i j = false) : zs_lo τ δ x i (j + 1) m := by
  refine ⟨fun a c h1 h2 => h.1 a c h1 ?_, h.2⟩
  rcases h2 with h2 | ⟨h2, h3⟩
  · exact Or.inl h2
  · refine Or.inr ⟨h2, ?_⟩
    by_cases e : c = j
    · rw [h2, e, hv] at h1; cases h1
    · omega
theorem zs_hi_s (h : zs_hi τ δ x i j m) (hv : zs_v x i j = false) : zs_hi τ δ x i (j + 1) m := by
  refine ⟨fun a c h1 h2 => h.1 a c h1 ?_, h.2⟩
  rcases h2 with h2 | ⟨h2, h3⟩
  · exact Or.inl h2
  · refine Or.inr ⟨h2, ?_⟩
    by_cases e : c = j
    · rw [h2, e, hv] at h1; cases h1
    · omega
theorem zs_lo_k (h : zs_lo τ δ x i j m) (hF : v = zs_F τ δ x i j) (hc : m ≤ v) : zs_lo τ δ x i (j + 1) m := by
  refine ⟨fun a c h1 h2 => ?_, h.2⟩
  by_cases e : a = i ∧ c = j
  · rw [e.1, e.2, ← hF]; exact hc
  · exact h.1 a c h1 (by omega)
theorem zs_lo_u (h : zs_lo τ δ x i j m) (hv : zs_v x i j = true) (hi : i < τ.1) (hF : v = zs_F τ δ x i j) (hc : ¬ m ≤ v) : zs_lo τ δ x i (j + 1) v := by
  refine ⟨fun a c h1 h2 => ?_, i, j, hv, hi, hF⟩
  by_cases e : a = i ∧ c = j
  · rw [e.1, e.2, ← hF]; exact Int32.le_refl _
  · exact Int32.le_trans (Int32.le_of_lt (Int32.not_le.mp hc)) (h.1 a c h1 (by omega))
theorem zs_hi_k (h : zs_hi τ δ x i j m) (hF : v = zs_F τ δ x i j) (hc : v ≤ m) : zs_hi τ δ x i (j + 1) m := by
  refine ⟨fun a c h1 h2 => ?_, h.2⟩
  by_cases e : a = i ∧ c = j
  · rw [e.1, e.2, ← hF]; exact hc
  · exact h.1 a c h1 (by omega)
theorem zs_hi_u (h : zs_hi τ δ x i j m) (hv : zs_v x i j = true) (hi : i < τ.1) (hF : v = zs_F τ δ x i j) (hc : ¬ v ≤ m) : zs_hi τ δ x i (j + 1) v := by
  refine ⟨fun a c h1 h2 => ?_, i, j, hv, hi, hF⟩
  by_cases e : a = i ∧ c = j
  · rw [e.1, e.2, ← hF]; exact Int32.le_refl _
  · exact Int32.le_trans (h.1 a c h1 (by omega)) (Int32.le_of_lt (Int32.not_le.mp hc))
theorem zs_lo_n (h : zs_lo τ δ x i (i + 1) m) : zs_lo τ δ x (i + 1) 0 m := ⟨fun a c h1 h2 => h.1 a c h1 (by have := zs_v_le h1; omega), h.2⟩
theorem zs_hi_n (h : zs_hi τ δ x i (i + 1) m) : zs_hi τ δ x (i + 1) 0 m := ⟨fun a c h1 h2 => h.1 a c h1 (by have := zs_v_le h1; omega), h.2⟩
theorem zs_0 (hJ : 2 ≤ τ.1) (h0 : x = 0) : zs_lo τ δ x 0 0 (nI (zs_pair τ.2.1 δ.2.2.2.1 (-1) 0 1)) ∧ zs_hi τ δ x 0 0 (nI (zs_pair τ.2.1 δ.2.2.2.1 (-1) 0 1)) := by
  have e : ∃ a c, zs_v x a c = true ∧ a < τ.1 ∧ nI (zs_pair τ.2.1 δ.2.2.2.1 (-1) 0 1) = zs_F τ δ x a c := ⟨1, 0, by unfold zs_v; rw [if_pos h0]; rfl, by omega, by unfold zs_F; rw [if_pos h0, zs_pair_comm]⟩
  exact ⟨⟨fun a c _ h => by omega, e⟩, fun a c _ h => by omega, e⟩
theorem zs_1 (hJ : 2 ≤ τ.1) (h0 : ¬ x = 0) : zs_lo τ δ x 0 0 (zq_L τ δ 0) ∧ zs_hi τ δ x 0 0 (zq_L τ δ 0) := by
  have e : ∃ a c, zs_v x a c = true ∧ a < τ.1 ∧ zq_L τ δ 0 = zs_F τ δ x a c := ⟨0, 0, by unfold zs_v; rw [if_neg h0]; rfl, by omega, by unfold zs_F; rw [if_neg h0]⟩
  exact ⟨⟨fun a c _ h => by omega, e⟩, fun a c _ h => by omega, e⟩
theorem zs_01 (h : (decide (0 ≤ x) && decide (x ≤ 1)) = true) : x = 0 ∨ x = 1 := by
  rw [Bool.and_eq_true] at h
  have h1 := Int32.le_iff_toInt_le.mp (of_decide_eq_true h.1)
  have h2 := Int32.le_iff_toInt_le.mp (of_decide_eq_true h.2)
  have e0 : (0 : Int32).toInt = 0 := by decide
  have e1 : (1 : Int32).toInt = 1 := by decide
  rw [e0] at h1; rw [e1] at h2
  rcases (show x.toInt = 0 ∨ x.toInt = 1 by omega) with e | e
  · exact Or.inl (Int32.toInt_inj.mp (by rw [e, e0]))
  · exact Or.inr (Int32.toInt_inj.mp (by rw [e, e1]))
theorem zs_n01 (h : (decide (0 ≤ x) && decide (x ≤ 1)) = false) : zq_spr τ δ x = -1 := by
  have n0 : ¬ x = 0 := fun e => by rw [e] at h; revert h; decide
  have n1 : ¬ x = 1 := fun e => by rw [e] at h; revert h; decide
  unfold zq_spr
  rw [if_neg n0, if_neg n1]; split <;> rfl
theorem zs_n2 (hJ : τ.1 < 2) : zq_spr τ δ x = -1 := by unfold zq_spr; rw [if_pos hJ]
end ZSL
set_option maxHeartbeats 4000000 in
set_option maxRecDepth 20000 in
theorem m_X8_spread {l : Launch} {E : zj_E} {h : zj_H} {g : zj_G} {J C u : Nat} (eJ : h 80 7 = nI J) (hJ : J ≤ 9) (eC : h 80 18 = nI C) (hC : C ≤ 14) (hL : ∀ j, 0 ≤ zq_L (zτM h 80 J C u) (zδM h 80) j) {x : Int32} : zj_M l E yX8_spread cX8_spread 7 (some .int) 3 [.ref (E.2.1 78), .int x] h g (fun v h' g' => v = some (.int (zq_spr (zτM h 80 J C u) (zδM h 80) x)) ∧ g' = g ∧ zm_same h h' ∧ h' 78 0 = 0) := by
  refine zj_M.of RX8 (by decide) rfl (Nat.le_of_ble_eq_true rfl) ?_
  intro Γ hΓ K Rt
  subst hΓ
  have loop : ∀ q : zj_H, q 80 = h 80 → zm_same h q → q 78 0 = 0 → 2 ≤ J → (x = 0 ∨ x = 1) → ∀ (n i : Nat) (x2 x3 x4 : Int32), J + 1 ≤ i + n → i ≤ J → zs_lo (zτM h 80 J C u) (zδM h 80) x i 0 x2 → zs_hi (zτM h 80 J C u) (zδM h 80) x i 0 x3 → x4 = nI i → zj_J E Γ 7 56 [(0, .ref (E.2.1 78)), (1, .int x), (2, .int x2), (3, .int x3), (4, .int x4)] [] q g := by
    intro q e80 wq wq0 hJ2 hx01 n
    have eJ2 : q 80 7 = nI J := by rw [e80]; exact eJ
    have eC2 : q 80 18 = nI C := by rw [e80]; exact eC
    have eB : zmB q 80 = zmB h 80 := by unfold zmB; rw [e80]
    have eW : zmW q 80 = zmW h 80 := by unfold zmW; rw [e80]
    have eS : zmS q 80 = zmS h 80 := by unfold zmS; rw [e80]
    induction n with
    | zero => intro i x2 x3 x4 h1 h2; omega
    | succ n ih =>
      intro i x2 x3 x4 h1 h2 hlo hhi e4
      have inner : i < J → ∀ (m j : Nat) (x2 x3 x5 : Int32), i + 1 + 1 ≤ j + m → j ≤ i + 1 → zs_lo (zτM h 80 J C u) (zδM h 80) x i j x2 → zs_hi (zτM h 80 J C u) (zδM h 80) x i j x3 → x5 = nI j → zj_J E Γ 7 68 [(0, .ref (E.2.1 78)), (1, .int x), (2, .int x2), (3, .int x3), (4, .int x4), (5, .int x5)] [] q g := by
        intro hi m
        induction m with
        | zero => intro j x2 x3 x5 h3 h4; omega
        | succ m ih2 =>
          intro j x2 x3 x5 h3 h4 hlo2 hhi2 e5
          refine zj_iload (pc := 68) K dX8_spread_68 rfl ?_
          refine zj_iload (pc := 70) K dX8_spread_70 rfl ?_
          refine zj_icmp_gt (tgt := 164) (pc := 72) K dX8_spread_72 (by decide) (fun c_72 => ?_) (fun c_72 => ?_)
          · have hj : j = i + 1 := by
              rw [e4, e5] at c_72
              have := (nI_ltI (by omega) (by omega)).mp c_72
              omega
            subst hj
            refine zj_iinc (v := 1) (pc := 164) K dX8_spread_164 rfl (by decide) rfl rfl rfl ?_
            refine zj_goto (tgt := 56) (pc := 167) K dX8_spread_167 (by decide) ?_
            refine zj_pick [0, 1, 2, 3, 4] ?_
            exact ih (i + 1) _ _ _ (by omega) (by omega) (zs_lo_n hlo2) (zs_hi_n hhi2) (zz_up e4)
          · have hj : j ≤ i := by
              apply Nat.le_of_not_lt
              intro z
              apply c_72
              rw [e4, e5]
              exact (nI_ltI (by omega) (by omega)).mpr z
            refine zj_iload (pc := 75) K dX8_spread_75 rfl ?_
            refine zj_iload (pc := 77) K dX8_spread_77 rfl ?_
            refine zj_icmp_ne (tgt := 86) (pc := 79) K dX8_spread_79 (by decide) (fun c_79 => ?_) (fun c_79 => ?_)
            · have hij : ¬ i = j := fun z => c_79 (by rw [e4, e5, z])
              refine zj_iload (pc := 86) K dX8_spread_86 rfl ?_
              refine zj_iload (pc := 88) K dX8_spread_88 rfl ?_
              refine zj_icmp_eq (tgt := 101) (pc := 90) K dX8_spread_90 (by decide) (fun c_90 => ?_) (fun c_90 => ?_)
              · refine zj_iload_n (i := 1) (pc := 101) K dX8_spread_101 rfl rfl ?_
                refine zj_if_ne (tgt := 120) (pc := 102) K dX8_spread_102 (by decide) (fun c_102 => ?_) (fun c_102 => ?_)
                · have hvi : zs_v x i j = true := by
                    unfold zs_v
                    rw [if_neg c_102]
                    first
                    | exact decide_eq_true hij.symm
                    | exact absurd c_90 c_79
                    | exact absurd c_79 c_90
                    | exact absurd hx0 c_102
                  have hF : zs_load C J (zmB q 80) (zmW q 80) (zmS q 80) (q 80 3) (-1) i = zs_F (zτM h 80 J C u) (zδM h 80) x i j := by unfold zs_F; rw [if_neg c_102, eB, eW, eS, e80]; rfl
                  refine zj_aload_n (i := 0) (pc := 120) K dX8_spread_120 rfl rfl ?_
                  refine zj_getR (pc := 121) K lf_X8_64 hs_M rfl dX8_spread_121 ?_
                  refine zj_iload (pc := 124) K dX8_spread_124 rfl ?_
                  refine zj_iconst (v := -1) (pc := 126) K dX8_spread_126 (by decide) ?_
                  refine zj_cS3I (pc := 127) K lm_X8_143 (m_X8_loadOf hs_Mnow eJ2 hJ eC2 hC e4 (by omega)) (by decide) rfl (Nat.le_of_ble_eq_true rfl) dX8_spread_127 ?_
                  refine zj_istore (pc := 130) K dX8_spread_130 rfl rfl rfl ?_
                  refine zj_iload (pc := 132) K dX8_spread_132 rfl ?_
                  refine zj_iload_n (i := 2) (pc := 134) K dX8_spread_134 rfl rfl ?_
                  refine zj_icmp_ge (tgt := 143) (pc := 135) K dX8_spread_135 (by decide) (fun c_135 => ?_) (fun c_135 => ?_)
                  · have hl3 := zs_lo_k hlo2 hF c_135
                    refine zj_iload_n (i := 2) (pc := 143) K dX8_spread_143 rfl rfl ?_
                    refine zj_istore_n (i := 2) (pc := 144) K dX8_spread_144 rfl rfl rfl rfl ?_
                    refine zj_iload (pc := 145) K dX8_spread_145 rfl ?_
                    refine zj_iload_n (i := 3) (pc := 147) K dX8_spread_147 rfl rfl ?_
                    refine zj_icmp_le (tgt := 156) (pc := 148) K dX8_spread_148 (by decide) (fun c_148 => ?_) (fun c_148 => ?_)
                    · have hh3 := zs_hi_k hhi2 hF c_148
                      refine zj_iload_n (i := 3) (pc := 156) K dX8_spread_156 rfl rfl ?_
                      refine zj_istore_n (i := 3) (pc := 157) K dX8_spread_157 rfl rfl rfl rfl ?_
                      refine zj_iinc (v := 1) (pc := 158) K dX8_spread_158 rfl (by decide) rfl rfl rfl ?_
                      refine zj_goto (tgt := 68) (pc := 161) K dX8_spread_161 (by decide) ?_
                      refine zj_pick [0, 1, 2, 3, 4, 5] ?_
                      first
                      | exact ih2 (j + 1) _ _ _ (by omega) (by omega) hl3 hh3 (zz_up e5)
                      | exact ih2 (j + 1) _ _ _ (by omega) (by omega) (zs_lo_s hlo2 hsk) (zs_hi_s hhi2 hsk) (zz_up e5)
                    · have hh3 := zs_hi_u hhi2 hvi hi hF c_148
                      refine zj_iload (pc := 151) K dX8_spread_151 rfl ?_
                      refine zj_goto (tgt := 157) (pc := 153) K dX8_spread_153 (by decide) ?_
                      refine zj_istore_n (i := 3) (pc := 157) K dX8_spread_157 rfl rfl rfl rfl ?_
                      refine zj_iinc (v := 1) (pc := 158) K dX8_spread_158 rfl (by decide) rfl rfl rfl ?_
                      refine zj_goto (tgt := 68) (pc := 161) K dX8_spread_161 (by decide) ?_
                      refine zj_pick [0, 1, 2, 3, 4, 5] ?_
                      first
                      | exact ih2 (j + 1) _ _ _ (by omega) (by omega) hl3 hh3 (zz_up e5)
                      | exact ih2 (j + 1) _ _ _ (by omega) (by omega) (zs_lo_s hlo2 hsk) (zs_hi_s hhi2 hsk) (zz_up e5)
                  · have hl3 := zs_lo_u hlo2 hvi hi hF c_135
                    refine zj_iload (pc := 138) K dX8_spread_138 rfl ?_
                    refine zj_goto (tgt := 144) (pc := 140) K dX8_spread_140 (by decide) ?_
                    refine zj_istore_n (i := 2) (pc := 144) K dX8_spread_144 rfl rfl rfl rfl ?_
                    refine zj_iload (pc := 145) K dX8_spread_145 rfl ?_
                    refine zj_iload_n (i := 3) (pc := 147) K dX8_spread_147 rfl rfl ?_
                    refine zj_icmp_le (tgt := 156) (pc := 148) K dX8_spread_148 (by decide) (fun c_148 => ?_) (fun c_148 => ?_)
                    · have hh3 := zs_hi_k hhi2 hF c_148
                      refine zj_iload_n (i := 3) (pc := 156) K dX8_spread_156 rfl rfl ?_
                      refine zj_istore_n (i := 3) (pc := 157) K dX8_spread_157 rfl rfl rfl rfl ?_
                      refine zj_iinc (v := 1) (pc := 158) K dX8_spread_158 rfl (by decide) rfl rfl rfl ?_
                      refine zj_goto (tgt := 68) (pc := 161) K dX8_spread_161 (by decide) ?_
                      refine zj_pick [0, 1, 2, 3, 4, 5] ?_
                      first
                      | exact ih2 (j + 1) _ _ _ (by omega) (by omega) hl3 hh3 (zz_up e5)
                      | exact ih2 (j + 1) _ _ _ (by omega) (by omega) (zs_lo_s hlo2 hsk) (zs_hi_s hhi2 hsk) (zz_up e5)
                    · have hh3 := zs_hi_u hhi2 hvi hi hF c_148
                      refine zj_iload (pc := 151) K dX8_spread_151 rfl ?_
                      refine zj_goto (tgt := 157) (pc := 153) K dX8_spread_153 (by decide) ?_
                      refine zj_istore_n (i := 3) (pc := 157) K dX8_spread_157 rfl rfl rfl rfl ?_
                      refine zj_iinc (v := 1) (pc := 158) K dX8_spread_158 rfl (by decide) rfl rfl rfl ?_
                      refine zj_goto (tgt := 68) (pc := 161) K dX8_spread_161 (by decide) ?_
                      refine zj_pick [0, 1, 2, 3, 4, 5] ?_
                      first
                      | exact ih2 (j + 1) _ _ _ (by omega) (by omega) hl3 hh3 (zz_up e5)
                      | exact ih2 (j + 1) _ _ _ (by omega) (by omega) (zs_lo_s hlo2 hsk) (zs_hi_s hhi2 hsk) (zz_up e5)
                · have hvi : zs_v x i j = true := by
                    unfold zs_v
                    rw [if_pos c_102]
                    first
                    | exact absurd c_102 c_83
                    | exact decide_eq_true (by omega)
                  have hF : nI (zs_pair C (zmB q 80) (-1) i j) = zs_F (zτM h 80 J C u) (zδM h 80) x i j := by unfold zs_F; rw [if_pos c_102, eB]; rfl
                  refine zj_aload_n (i := 0) (pc := 105) K dX8_spread_105 rfl rfl ?_
                  refine zj_getR (pc := 106) K lf_X8_64 hs_M rfl dX8_spread_106 ?_
                  refine zj_iload (pc := 109) K dX8_spread_109 rfl ?_
                  refine zj_iload (pc := 111) K dX8_spread_111 rfl ?_
                  refine zj_iconst (v := -1) (pc := 113) K dX8_spread_113 (by decide) ?_
                  refine zj_cS4I (pc := 114) K lm_X8_147 (m_X8_pairOf hs_Mnow eC2 hC e4 e5 (by omega) (by omega)) (by decide) rfl (Nat.le_of_ble_eq_true rfl) dX8_spread_114 ?_
                  refine zj_goto (tgt := 130) (pc := 117) K dX8_spread_117 (by decide) ?_
                  refine zj_istore (pc := 130) K dX8_spread_130 rfl rfl rfl ?_
                  refine zj_iload (pc := 132) K dX8_spread_132 rfl ?_
                  refine zj_iload_n (i := 2) (pc := 134) K dX8_spread_134 rfl rfl ?_
                  refine zj_icmp_ge (tgt := 143) (pc := 135) K dX8_spread_135 (by decide) (fun c_135 => ?_) (fun c_135 => ?_)
                  · have hl3 := zs_lo_k hlo2 hF c_135
                    refine zj_iload_n (i := 2) (pc := 143) K dX8_spread_143 rfl rfl ?_
                    refine zj_istore_n (i := 2) (pc := 144) K dX8_spread_144 rfl rfl rfl rfl ?_
                    refine zj_iload (pc := 145) K dX8_spread_145 rfl ?_
                    refine zj_iload_n (i := 3) (pc := 147) K dX8_spread_147 rfl rfl ?_
                    refine zj_icmp_le (tgt := 156) (pc := 148) K dX8_spread_148 (by decide) (fun c_148 => ?_) (fun c_148 => ?_)
                    · have hh3 := zs_hi_k hhi2 hF c_148
                      refine zj_iload_n (i := 3) (pc := 156) K dX8_spread_156 rfl rfl ?_
                      refine zj_istore_n (i := 3) (pc := 157) K dX8_spread_157 rfl rfl rfl rfl ?_
                      refine zj_iinc (v := 1) (pc := 158) K dX8_spread_158 rfl (by decide) rfl rfl rfl ?_
                      refine zj_goto (tgt := 68) (pc := 161) K dX8_spread_161 (by decide) ?_
                      refine zj_pick [0, 1, 2, 3, 4, 5] ?_
                      first
                      | exact ih2 (j + 1) _ _ _ (by omega) (by omega) hl3 hh3 (zz_up e5)
                      | exact ih2 (j + 1) _ _ _ (by omega) (by omega) (zs_lo_s hlo2 hsk) (zs_hi_s hhi2 hsk) (zz_up e5)
                    · have hh3 := zs_hi_u hhi2 hvi hi hF c_148
                      refine zj_iload (pc := 151) K dX8_spread_151 rfl ?_
                      refine zj_goto (tgt := 157) (pc := 153) K dX8_spread_153 (by decide) ?_
                      refine zj_istore_n (i := 3) (pc := 157) K dX8_spread_157 rfl rfl rfl rfl ?_
                      refine zj_iinc (v := 1) (pc := 158) K dX8_spread_158 rfl (by decide) rfl rfl rfl ?_
                      refine zj_goto (tgt := 68) (pc := 161) K dX8_spread_161 (by decide) ?_
                      refine zj_pick [0, 1, 2, 3, 4, 5] ?_
                      first
                      | exact ih2 (j + 1) _ _ _ (by omega) (by omega) hl3 hh3 (zz_up e5)
                      | exact ih2 (j + 1) _ _ _ (by omega) (by omega) (zs_lo_s hlo2 hsk) (zs_hi_s hhi2 hsk) (zz_up e5)
                  · have hl3 := zs_lo_u hlo2 hvi hi hF c_135
                    refine zj_iload (pc := 138) K dX8_spread_138 rfl ?_
                    refine zj_goto (tgt := 144) (pc := 140) K dX8_spread_140 (by decide) ?_
                    refine zj_istore_n (i := 2) (pc := 144) K dX8_spread_144 rfl rfl rfl rfl ?_
                    refine zj_iload (pc := 145) K dX8_spread_145 rfl ?_
                    refine zj_iload_n (i := 3) (pc := 147) K dX8_spread_147 rfl rfl ?_
                    refine zj_icmp_le (tgt := 156) (pc := 148) K dX8_spread_148 (by decide) (fun c_148 => ?_) (fun c_148 => ?_)
                    · have hh3 := zs_hi_k hhi2 hF c_148
                      refine zj_iload_n (i := 3) (pc := 156) K dX8_spread_156 rfl rfl ?_
                      refine zj_istore_n (i := 3) (pc := 157) K dX8_spread_157 rfl rfl rfl rfl ?_
                      refine zj_iinc (v := 1) (pc := 158) K dX8_spread_158 rfl (by decide) rfl rfl rfl ?_
                      refine zj_goto (tgt := 68) (pc := 161) K dX8_spread_161 (by decide) ?_
                      refine zj_pick [0, 1, 2, 3, 4, 5] ?_
                      first
                      | exact ih2 (j + 1) _ _ _ (by omega) (by omega) hl3 hh3 (zz_up e5)
                      | exact ih2 (j + 1) _ _ _ (by omega) (by omega) (zs_lo_s hlo2 hsk) (zs_hi_s hhi2 hsk) (zz_up e5)
                    · have hh3 := zs_hi_u hhi2 hvi hi hF c_148
                      refine zj_iload (pc := 151) K dX8_spread_151 rfl ?_
                      refine zj_goto (tgt := 157) (pc := 153) K dX8_spread_153 (by decide) ?_
                      refine zj_istore_n (i := 3) (pc := 157) K dX8_spread_157 rfl rfl rfl rfl ?_
                      refine zj_iinc (v := 1) (pc := 158) K dX8_spread_158 rfl (by decide) rfl rfl rfl ?_
                      refine zj_goto (tgt := 68) (pc := 161) K dX8_spread_161 (by decide) ?_
                      refine zj_pick [0, 1, 2, 3, 4, 5] ?_
                      first
                      | exact ih2 (j + 1) _ _ _ (by omega) (by omega) hl3 hh3 (zz_up e5)
                      | exact ih2 (j + 1) _ _ _ (by omega) (by omega) (zs_lo_s hlo2 hsk) (zs_hi_s hhi2 hsk) (zz_up e5)
              · refine zj_iload_n (i := 1) (pc := 93) K dX8_spread_93 rfl rfl ?_
                refine zj_iconst (v := 1) (pc := 94) K dX8_spread_94 (by decide) ?_
                refine zj_icmp_ne (tgt := 101) (pc := 95) K dX8_spread_95 (by decide) (fun c_95 => ?_) (fun c_95 => ?_)
                · have hx0 : x = 0 := hx01.resolve_right c_95
                  refine zj_iload_n (i := 1) (pc := 101) K dX8_spread_101 rfl rfl ?_
                  refine zj_if_ne (tgt := 120) (pc := 102) K dX8_spread_102 (by decide) (fun c_102 => ?_) (fun c_102 => ?_)
                  · have hvi : zs_v x i j = true := by
                      unfold zs_v
                      rw [if_neg c_102]
                      first
                      | exact decide_eq_true hij.symm
                      | exact absurd c_90 c_79
                      | exact absurd c_79 c_90
                      | exact absurd hx0 c_102
                    have hF : zs_load C J (zmB q 80) (zmW q 80) (zmS q 80) (q 80 3) (-1) i = zs_F (zτM h 80 J C u) (zδM h 80) x i j := by unfold zs_F; rw [if_neg c_102, eB, eW, eS, e80]; rfl
                    refine zj_aload_n (i := 0) (pc := 120) K dX8_spread_120 rfl rfl ?_
                    refine zj_getR (pc := 121) K lf_X8_64 hs_M rfl dX8_spread_121 ?_
                    refine zj_iload (pc := 124) K dX8_spread_124 rfl ?_
                    refine zj_iconst (v := -1) (pc := 126) K dX8_spread_126 (by decide) ?_
                    refine zj_cS3I (pc := 127) K lm_X8_143 (m_X8_loadOf hs_Mnow eJ2 hJ eC2 hC e4 (by omega)) (by decide) rfl (Nat.le_of_ble_eq_true rfl) dX8_spread_127 ?_
                    refine zj_istore (pc := 130) K dX8_spread_130 rfl rfl rfl ?_
                    refine zj_iload (pc := 132) K dX8_spread_132 rfl ?_
                    refine zj_iload_n (i := 2) (pc := 134) K dX8_spread_134 rfl rfl ?_
                    refine zj_icmp_ge (tgt := 143) (pc := 135) K dX8_spread_135 (by decide) (fun c_135 => ?_) (fun c_135 => ?_)
                    · have hl3 := zs_lo_k hlo2 hF c_135
                      refine zj_iload_n (i := 2) (pc := 143) K dX8_spread_143 rfl rfl ?_
                      refine zj_istore_n (i := 2) (pc := 144) K dX8_spread_144 rfl rfl rfl rfl ?_
                      refine zj_iload (pc := 145) K dX8_spread_145 rfl ?_
                      refine zj_iload_n (i := 3) (pc := 147) K dX8_spread_147 rfl rfl ?_
                      refine zj_icmp_le (tgt := 156) (pc := 148) K dX8_spread_148 (by decide) (fun c_148 => ?_) (fun c_148 => ?_)
                      · have hh3 := zs_hi_k hhi2 hF c_148
                        refine zj_iload_n (i := 3) (pc := 156) K dX8_spread_156 rfl rfl ?_
                        refine zj_istore_n (i := 3) (pc := 157) K dX8_spread_157 rfl rfl rfl rfl ?_
                        refine zj_iinc (v := 1) (pc := 158) K dX8_spread_158 rfl (by decide) rfl rfl rfl ?_
                        refine zj_goto (tgt := 68) (pc := 161) K dX8_spread_161 (by decide) ?_
                        refine zj_pick [0, 1, 2, 3, 4, 5] ?_
                        first
                        | exact ih2 (j + 1) _ _ _ (by omega) (by omega) hl3 hh3 (zz_up e5)
                        | exact ih2 (j + 1) _ _ _ (by omega) (by omega) (zs_lo_s hlo2 hsk) (zs_hi_s hhi2 hsk) (zz_up e5)
                      · have hh3 := zs_hi_u hhi2 hvi hi hF c_148
                        refine zj_iload (pc := 151) K dX8_spread_151 rfl ?_
                        refine zj_goto (tgt := 157) (pc := 153) K dX8_spread_153 (by decide) ?_
                        refine zj_istore_n (i := 3) (pc := 157) K dX8_spread_157 rfl rfl rfl rfl ?_
                        refine zj_iinc (v := 1) (pc := 158) K dX8_spread_158 rfl (by decide) rfl rfl rfl ?_
                        refine zj_goto (tgt := 68) (pc := 161) K dX8_spread_161 (by decide) ?_
                        refine zj_pick [0, 1, 2, 3, 4, 5] ?_
                        first
                        | exact ih2 (j + 1) _ _ _ (by omega) (by omega) hl3 hh3 (zz_up e5)
                        | exact ih2 (j + 1) _ _ _ (by omega) (by omega) (zs_lo_s hlo2 hsk) (zs_hi_s hhi2 hsk) (zz_up e5)
                    · have hl3 := zs_lo_u hlo2 hvi hi hF c_135
                      refine zj_iload (pc := 138) K dX8_spread_138 rfl ?_
                      refine zj_goto (tgt := 144) (pc := 140) K dX8_spread_140 (by decide) ?_
                      refine zj_istore_n (i := 2) (pc := 144) K dX8_spread_144 rfl rfl rfl rfl ?_
                      refine zj_iload (pc := 145) K dX8_spread_145 rfl ?_
                      refine zj_iload_n (i := 3) (pc := 147) K dX8_spread_147 rfl rfl ?_
                      refine zj_icmp_le (tgt := 156) (pc := 148) K dX8_spread_148 (by decide) (fun c_148 => ?_) (fun c_148 => ?_)
                      · have hh3 := zs_hi_k hhi2 hF c_148
                        refine zj_iload_n (i := 3) (pc := 156) K dX8_spread_156 rfl rfl ?_
                        refine zj_istore_n (i := 3) (pc := 157) K dX8_spread_157 rfl rfl rfl rfl ?_
                        refine zj_iinc (v := 1) (pc := 158) K dX8_spread_158 rfl (by decide) rfl rfl rfl ?_
                        refine zj_goto (tgt := 68) (pc := 161) K dX8_spread_161 (by decide) ?_
                        refine zj_pick [0, 1, 2, 3, 4, 5] ?_
                        first
                        | exact ih2 (j + 1) _ _ _ (by omega) (by omega) hl3 hh3 (zz_up e5)
                        | exact ih2 (j + 1) _ _ _ (by omega) (by omega) (zs_lo_s hlo2 hsk) (zs_hi_s hhi2 hsk) (zz_up e5)
                      · have hh3 := zs_hi_u hhi2 hvi hi hF c_148
                        refine zj_iload (pc := 151) K dX8_spread_151 rfl ?_
                        refine zj_goto (tgt := 157) (pc := 153) K dX8_spread_153 (by decide) ?_
                        refine zj_istore_n (i := 3) (pc := 157) K dX8_spread_157 rfl rfl rfl rfl ?_
                        refine zj_iinc (v := 1) (pc := 158) K dX8_spread_158 rfl (by decide) rfl rfl rfl ?_
                        refine zj_goto (tgt := 68) (pc := 161) K dX8_spread_161 (by decide) ?_
                        refine zj_pick [0, 1, 2, 3, 4, 5] ?_
                        first
                        | exact ih2 (j + 1) _ _ _ (by omega) (by omega) hl3 hh3 (zz_up e5)
                        | exact ih2 (j + 1) _ _ _ (by omega) (by omega) (zs_lo_s hlo2 hsk) (zs_hi_s hhi2 hsk) (zz_up e5)
                  · have hvi : zs_v x i j = true := by
                      unfold zs_v
                      rw [if_pos c_102]
                      first
                      | exact absurd c_102 c_83
                      | exact decide_eq_true (by omega)
                    have hF : nI (zs_pair C (zmB q 80) (-1) i j) = zs_F (zτM h 80 J C u) (zδM h 80) x i j := by unfold zs_F; rw [if_pos c_102, eB]; rfl
                    refine zj_aload_n (i := 0) (pc := 105) K dX8_spread_105 rfl rfl ?_
                    refine zj_getR (pc := 106) K lf_X8_64 hs_M rfl dX8_spread_106 ?_
                    refine zj_iload (pc := 109) K dX8_spread_109 rfl ?_
                    refine zj_iload (pc := 111) K dX8_spread_111 rfl ?_
                    refine zj_iconst (v := -1) (pc := 113) K dX8_spread_113 (by decide) ?_
                    refine zj_cS4I (pc := 114) K lm_X8_147 (m_X8_pairOf hs_Mnow eC2 hC e4 e5 (by omega) (by omega)) (by decide) rfl (Nat.le_of_ble_eq_true rfl) dX8_spread_114 ?_
                    refine zj_goto (tgt := 130) (pc := 117) K dX8_spread_117 (by decide) ?_
                    refine zj_istore (pc := 130) K dX8_spread_130 rfl rfl rfl ?_
                    refine zj_iload (pc := 132) K dX8_spread_132 rfl ?_
                    refine zj_iload_n (i := 2) (pc := 134) K dX8_spread_134 rfl rfl ?_
                    refine zj_icmp_ge (tgt := 143) (pc := 135) K dX8_spread_135 (by decide) (fun c_135 => ?_) (fun c_135 => ?_)
                    · have hl3 := zs_lo_k hlo2 hF c_135
                      refine zj_iload_n (i := 2) (pc := 143) K dX8_spread_143 rfl rfl ?_
                      refine zj_istore_n (i := 2) (pc := 144) K dX8_spread_144 rfl rfl rfl rfl ?_
                      refine zj_iload (pc := 145) K dX8_spread_145 rfl ?_
                      refine zj_iload_n (i := 3) (pc := 147) K dX8_spread_147 rfl rfl ?_
                      refine zj_icmp_le (tgt := 156) (pc := 148) K dX8_spread_148 (by decide) (fun c_148 => ?_) (fun c_148 => ?_)
                      · have hh3 := zs_hi_k hhi2 hF c_148
                        refine zj_iload_n (i := 3) (pc := 156) K dX8_spread_156 rfl rfl ?_
                        refine zj_istore_n (i := 3) (pc := 157) K dX8_spread_157 rfl rfl rfl rfl ?_
                        refine zj_iinc (v := 1) (pc := 158) K dX8_spread_158 rfl (by decide) rfl rfl rfl ?_
                        refine zj_goto (tgt := 68) (pc := 161) K dX8_spread_161 (by decide) ?_
                        refine zj_pick [0, 1, 2, 3, 4, 5] ?_
                        first
                        | exact ih2 (j + 1) _ _ _ (by omega) (by omega) hl3 hh3 (zz_up e5)
                        | exact ih2 (j + 1) _ _ _ (by omega) (by omega) (zs_lo_s hlo2 hsk) (zs_hi_s hhi2 hsk) (zz_up e5)
                      · have hh3 := zs_hi_u hhi2 hvi hi hF c_148
                        refine zj_iload (pc := 151) K dX8_spread_151 rfl ?_
                        refine zj_goto (tgt := 157) (pc := 153) K dX8_spread_153 (by decide) ?_
                        refine zj_istore_n (i := 3) (pc := 157) K dX8_spread_157 rfl rfl rfl rfl ?_
                        refine zj_iinc (v := 1) (pc := 158) K dX8_spread_158 rfl (by decide) rfl rfl rfl ?_
                        refine zj_goto (tgt := 68) (pc := 161) K dX8_spread_161 (by decide) ?_
                        refine zj_pick [0, 1, 2, 3, 4, 5] ?_
                        first
                        | exact ih2 (j + 1) _ _ _ (by omega) (by omega) hl3 hh3 (zz_up e5)
                        | exact ih2 (j + 1) _ _ _ (by omega) (by omega) (zs_lo_s hlo2 hsk) (zs_hi_s hhi2 hsk) (zz_up e5)
                    · have hl3 := zs_lo_u hlo2 hvi hi hF c_135
                      refine zj_iload (pc := 138) K dX8_spread_138 rfl ?_
                      refine zj_goto (tgt := 144) (pc := 140) K dX8_spread_140 (by decide) ?_
                      refine zj_istore_n (i := 2) (pc := 144) K dX8_spread_144 rfl rfl rfl rfl ?_
                      refine zj_iload (pc := 145) K dX8_spread_145 rfl ?_
                      refine zj_iload_n (i := 3) (pc := 147) K dX8_spread_147 rfl rfl ?_
                      refine zj_icmp_le (tgt := 156) (pc := 148) K dX8_spread_148 (by decide) (fun c_148 => ?_) (fun c_148 => ?_)
                      · have hh3 := zs_hi_k hhi2 hF c_148
                        refine zj_iload_n (i := 3) (pc := 156) K dX8_spread_156 rfl rfl ?_
                        refine zj_istore_n (i := 3) (pc := 157) K dX8_spread_157 rfl rfl rfl rfl ?_
                        refine zj_iinc (v := 1) (pc := 158) K dX8_spread_158 rfl (by decide) rfl rfl rfl ?_
                        refine zj_goto (tgt := 68) (pc := 161) K dX8_spread_161 (by decide) ?_
                        refine zj_pick [0, 1, 2, 3, 4, 5] ?_
                        first
                        | exact ih2 (j + 1) _ _ _ (by omega) (by omega) hl3 hh3 (zz_up e5)
                        | exact ih2 (j + 1) _ _ _ (by omega) (by omega) (zs_lo_s hlo2 hsk) (zs_hi_s hhi2 hsk) (zz_up e5)
                      · have hh3 := zs_hi_u hhi2 hvi hi hF c_148
                        refine zj_iload (pc := 151) K dX8_spread_151 rfl ?_
                        refine zj_goto (tgt := 157) (pc := 153) K dX8_spread_153 (by decide) ?_
                        refine zj_istore_n (i := 3) (pc := 157) K dX8_spread_157 rfl rfl rfl rfl ?_
                        refine zj_iinc (v := 1) (pc := 158) K dX8_spread_158 rfl (by decide) rfl rfl rfl ?_
                        refine zj_goto (tgt := 68) (pc := 161) K dX8_spread_161 (by decide) ?_
                        refine zj_pick [0, 1, 2, 3, 4, 5] ?_
                        first
                        | exact ih2 (j + 1) _ _ _ (by omega) (by omega) hl3 hh3 (zz_up e5)
                        | exact ih2 (j + 1) _ _ _ (by omega) (by omega) (zs_lo_s hlo2 hsk) (zs_hi_s hhi2 hsk) (zz_up e5)
                · have hsk : zs_v x i j = false := by unfold zs_v; rw [if_neg (by rw [c_95]; decide)]; first | exact decide_eq_false (fun z => hij z.symm) | exact absurd c_79 c_90
                  refine zj_goto (tgt := 158) (pc := 98) K dX8_spread_98 (by decide) ?_
                  refine zj_iinc (v := 1) (pc := 158) K dX8_spread_158 rfl (by decide) rfl rfl rfl ?_
                  refine zj_goto (tgt := 68) (pc := 161) K dX8_spread_161 (by decide) ?_
                  refine zj_pick [0, 1, 2, 3, 4, 5] ?_
                  first
                  | exact ih2 (j + 1) _ _ _ (by omega) (by omega) hl3 hh3 (zz_up e5)
                  | exact ih2 (j + 1) _ _ _ (by omega) (by omega) (zs_lo_s hlo2 hsk) (zs_hi_s hhi2 hsk) (zz_up e5)
            · have hij : i = j := by
                rw [e4, e5] at c_79
                exact (nI_eq (by omega) (by omega)).mp c_79
              refine zj_iload_n (i := 1) (pc := 82) K dX8_spread_82 rfl rfl ?_
              refine zj_if_eq (tgt := 158) (pc := 83) K dX8_spread_83 (by decide) (fun c_83 => ?_) (fun c_83 => ?_)
              · have hsk : zs_v x i j = false := by unfold zs_v; rw [if_pos c_83, hij]; exact decide_eq_false (Nat.lt_irrefl _)
                refine zj_iinc (v := 1) (pc := 158) K dX8_spread_158 rfl (by decide) rfl rfl rfl ?_
                refine zj_goto (tgt := 68) (pc := 161) K dX8_spread_161 (by decide) ?_
                refine zj_pick [0, 1, 2, 3, 4, 5] ?_
                first
                | exact ih2 (j + 1) _ _ _ (by omega) (by omega) hl3 hh3 (zz_up e5)
                | exact ih2 (j + 1) _ _ _ (by omega) (by omega) (zs_lo_s hlo2 hsk) (zs_hi_s hhi2 hsk) (zz_up e5)
              · refine zj_iload (pc := 86) K dX8_spread_86 rfl ?_
                refine zj_iload (pc := 88) K dX8_spread_88 rfl ?_
                refine zj_icmp_eq (tgt := 101) (pc := 90) K dX8_spread_90 (by decide) (fun c_90 => ?_) (fun c_90 => ?_)
                · refine zj_iload_n (i := 1) (pc := 101) K dX8_spread_101 rfl rfl ?_
                  refine zj_if_ne (tgt := 120) (pc := 102) K dX8_spread_102 (by decide) (fun c_102 => ?_) (fun c_102 => ?_)
                  · have hvi : zs_v x i j = true := by
                      unfold zs_v
                      rw [if_neg c_102]
                      first
                      | exact decide_eq_true hij.symm
                      | exact absurd c_90 c_79
                      | exact absurd c_79 c_90
                      | exact absurd hx0 c_102
                    have hF : zs_load C J (zmB q 80) (zmW q 80) (zmS q 80) (q 80 3) (-1) i = zs_F (zτM h 80 J C u) (zδM h 80) x i j := by unfold zs_F; rw [if_neg c_102, eB, eW, eS, e80]; rfl
                    refine zj_aload_n (i := 0) (pc := 120) K dX8_spread_120 rfl rfl ?_
                    refine zj_getR (pc := 121) K lf_X8_64 hs_M rfl dX8_spread_121 ?_
                    refine zj_iload (pc := 124) K dX8_spread_124 rfl ?_
                    refine zj_iconst (v := -1) (pc := 126) K dX8_spread_126 (by decide) ?_
                    refine zj_cS3I (pc := 127) K lm_X8_143 (m_X8_loadOf hs_Mnow eJ2 hJ eC2 hC e4 (by omega)) (by decide) rfl (Nat.le_of_ble_eq_true rfl) dX8_spread_127 ?_
                    refine zj_istore (pc := 130) K dX8_spread_130 rfl rfl rfl ?_
                    refine zj_iload (pc := 132) K dX8_spread_132 rfl ?_
                    refine zj_iload_n (i := 2) (pc := 134) K dX8_spread_134 rfl rfl ?_
                    refine zj_icmp_ge (tgt := 143) (pc := 135) K dX8_spread_135 (by decide) (fun c_135 => ?_) (fun c_135 => ?_)
                    · have hl3 := zs_lo_k hlo2 hF c_135
                      refine zj_iload_n (i := 2) (pc := 143) K dX8_spread_143 rfl rfl ?_
                      refine zj_istore_n (i := 2) (pc := 144) K dX8_spread_144 rfl rfl rfl rfl ?_
                      refine zj_iload (pc := 145) K dX8_spread_145 rfl ?_
                      refine zj_iload_n (i := 3) (pc := 147) K dX8_spread_147 rfl rfl ?_
                      refine zj_icmp_le (tgt := 156) (pc := 148) K dX8_spread_148 (by decide) (fun c_148 => ?_) (fun c_148 => ?_)
                      · have hh3 := zs_hi_k hhi2 hF c_148
                        refine zj_iload_n (i := 3) (pc := 156) K dX8_spread_156 rfl rfl ?_
                        refine zj_istore_n (i := 3) (pc := 157) K dX8_spread_157 rfl rfl rfl rfl ?_
                        refine zj_iinc (v := 1) (pc := 158) K dX8_spread_158 rfl (by decide) rfl rfl rfl ?_
                        refine zj_goto (tgt := 68) (pc := 161) K dX8_spread_161 (by decide) ?_
                        refine zj_pick [0, 1, 2, 3, 4, 5] ?_
                        first
                        | exact ih2 (j + 1) _ _ _ (by omega) (by omega) hl3 hh3 (zz_up e5)
                        | exact ih2 (j + 1) _ _ _ (by omega) (by omega) (zs_lo_s hlo2 hsk) (zs_hi_s hhi2 hsk) (zz_up e5)
                      · have hh3 := zs_hi_u hhi2 hvi hi hF c_148
                        refine zj_iload (pc := 151) K dX8_spread_151 rfl ?_
                        refine zj_goto (tgt := 157) (pc := 153) K dX8_spread_153 (by decide) ?_
                        refine zj_istore_n (i := 3) (pc := 157) K dX8_spread_157 rfl rfl rfl rfl ?_
                        refine zj_iinc (v := 1) (pc := 158) K dX8_spread_158 rfl (by decide) rfl rfl rfl ?_
                        refine zj_goto (tgt := 68) (pc := 161) K dX8_spread_161 (by decide) ?_
                        refine zj_pick [0, 1, 2, 3, 4, 5] ?_
                        first
                        | exact ih2 (j + 1) _ _ _ (by omega) (by omega) hl3 hh3 (zz_up e5)
                        | exact ih2 (j + 1) _ _ _ (by omega) (by omega) (zs_lo_s hlo2 hsk) (zs_hi_s hhi2 hsk) (zz_up e5)
                    · have hl3 := zs_lo_u hlo2 hvi hi hF c_135
                      refine zj_iload (pc := 138) K dX8_spread_138 rfl ?_
                      refine zj_goto (tgt := 144) (pc := 140) K dX8_spread_140 (by decide) ?_
                      refine zj_istore_n (i := 2) (pc := 144) K dX8_spread_144 rfl rfl rfl rfl ?_
                      refine zj_iload (pc := 145) K dX8_spread_145 rfl ?_
                      refine zj_iload_n (i := 3) (pc := 147) K dX8_spread_147 rfl rfl ?_
                      refine zj_icmp_le (tgt := 156) (pc := 148) K dX8_spread_148 (by decide) (fun c_148 => ?_) (fun c_148 => ?_)
                      · have hh3 := zs_hi_k hhi2 hF c_148
                        refine zj_iload_n (i := 3) (pc := 156) K dX8_spread_156 rfl rfl ?_
                        refine zj_istore_n (i := 3) (pc := 157) K dX8_spread_157 rfl rfl rfl rfl ?_
                        refine zj_iinc (v := 1) (pc := 158) K dX8_spread_158 rfl (by decide) rfl rfl rfl ?_
                        refine zj_goto (tgt := 68) (pc := 161) K dX8_spread_161 (by decide) ?_
                        refine zj_pick [0, 1, 2, 3, 4, 5] ?_
                        first
                        | exact ih2 (j + 1) _ _ _ (by omega) (by omega) hl3 hh3 (zz_up e5)
                        | exact ih2 (j + 1) _ _ _ (by omega) (by omega) (zs_lo_s hlo2 hsk) (zs_hi_s hhi2 hsk) (zz_up e5)
                      · have hh3 := zs_hi_u hhi2 hvi hi hF c_148
                        refine zj_iload (pc := 151) K dX8_spread_151 rfl ?_
                        refine zj_goto (tgt := 157) (pc := 153) K dX8_spread_153 (by decide) ?_
                        refine zj_istore_n (i := 3) (pc := 157) K dX8_spread_157 rfl rfl rfl rfl ?_
                        refine zj_iinc (v := 1) (pc := 158) K dX8_spread_158 rfl (by decide) rfl rfl rfl ?_
                        refine zj_goto (tgt := 68) (pc := 161) K dX8_spread_161 (by decide) ?_
                        refine zj_pick [0, 1, 2, 3, 4, 5] ?_
                        first
                        | exact ih2 (j + 1) _ _ _ (by omega) (by omega) hl3 hh3 (zz_up e5)
                        | exact ih2 (j + 1) _ _ _ (by omega) (by omega) (zs_lo_s hlo2 hsk) (zs_hi_s hhi2 hsk) (zz_up e5)
                  · have hvi : zs_v x i j = true := by
                      unfold zs_v
                      rw [if_pos c_102]
                      first
                      | exact absurd c_102 c_83
                      | exact decide_eq_true (by omega)
                    have hF : nI (zs_pair C (zmB q 80) (-1) i j) = zs_F (zτM h 80 J C u) (zδM h 80) x i j := by unfold zs_F; rw [if_pos c_102, eB]; rfl
                    refine zj_aload_n (i := 0) (pc := 105) K dX8_spread_105 rfl rfl ?_
                    refine zj_getR (pc := 106) K lf_X8_64 hs_M rfl dX8_spread_106 ?_
                    refine zj_iload (pc := 109) K dX8_spread_109 rfl ?_
                    refine zj_iload (pc := 111) K dX8_spread_111 rfl ?_
                    refine zj_iconst (v := -1) (pc := 113) K dX8_spread_113 (by decide) ?_
                    refine zj_cS4I (pc := 114) K lm_X8_147 (m_X8_pairOf hs_Mnow eC2 hC e4 e5 (by omega) (by omega)) (by decide) rfl (Nat.le_of_ble_eq_true rfl) dX8_spread_114 ?_
                    refine zj_goto (tgt := 130) (pc := 117) K dX8_spread_117 (by decide) ?_
                    refine zj_istore (pc := 130) K dX8_spread_130 rfl rfl rfl ?_
                    refine zj_iload (pc := 132) K dX8_spread_132 rfl ?_
                    refine zj_iload_n (i := 2) (pc := 134) K dX8_spread_134 rfl rfl ?_
                    refine zj_icmp_ge (tgt := 143) (pc := 135) K dX8_spread_135 (by decide) (fun c_135 => ?_) (fun c_135 => ?_)
                    · have hl3 := zs_lo_k hlo2 hF c_135
                      refine zj_iload_n (i := 2) (pc := 143) K dX8_spread_143 rfl rfl ?_
                      refine zj_istore_n (i := 2) (pc := 144) K dX8_spread_144 rfl rfl rfl rfl ?_
                      refine zj_iload (pc := 145) K dX8_spread_145 rfl ?_
                      refine zj_iload_n (i := 3) (pc := 147) K dX8_spread_147 rfl rfl ?_
                      refine zj_icmp_le (tgt := 156) (pc := 148) K dX8_spread_148 (by decide) (fun c_148 => ?_) (fun c_148 => ?_)
                      · have hh3 := zs_hi_k hhi2 hF c_148
                        refine zj_iload_n (i := 3) (pc := 156) K dX8_spread_156 rfl rfl ?_
                        refine zj_istore_n (i := 3) (pc := 157) K dX8_spread_157 rfl rfl rfl rfl ?_
                        refine zj_iinc (v := 1) (pc := 158) K dX8_spread_158 rfl (by decide) rfl rfl rfl ?_
                        refine zj_goto (tgt := 68) (pc := 161) K dX8_spread_161 (by decide) ?_
                        refine zj_pick [0, 1, 2, 3, 4, 5] ?_
                        first
                        | exact ih2 (j + 1) _ _ _ (by omega) (by omega) hl3 hh3 (zz_up e5)
                        | exact ih2 (j + 1) _ _ _ (by omega) (by omega) (zs_lo_s hlo2 hsk) (zs_hi_s hhi2 hsk) (zz_up e5)
                      · have hh3 := zs_hi_u hhi2 hvi hi hF c_148
                        refine zj_iload (pc := 151) K dX8_spread_151 rfl ?_
                        refine zj_goto (tgt := 157) (pc := 153) K dX8_spread_153 (by decide) ?_
                        refine zj_istore_n (i := 3) (pc := 157) K dX8_spread_157 rfl rfl rfl rfl ?_
                        refine zj_iinc (v := 1) (pc := 158) K dX8_spread_158 rfl (by decide) rfl rfl rfl ?_
                        refine zj_goto (tgt := 68) (pc := 161) K dX8_spread_161 (by decide) ?_
                        refine zj_pick [0, 1, 2, 3, 4, 5] ?_
                        first
                        | exact ih2 (j + 1) _ _ _ (by omega) (by omega) hl3 hh3 (zz_up e5)
                        | exact ih2 (j + 1) _ _ _ (by omega) (by omega) (zs_lo_s hlo2 hsk) (zs_hi_s hhi2 hsk) (zz_up e5)
                    · have hl3 := zs_lo_u hlo2 hvi hi hF c_135
                      refine zj_iload (pc := 138) K dX8_spread_138 rfl ?_
                      refine zj_goto (tgt := 144) (pc := 140) K dX8_spread_140 (by decide) ?_
                      refine zj_istore_n (i := 2) (pc := 144) K dX8_spread_144 rfl rfl rfl rfl ?_
                      refine zj_iload (pc := 145) K dX8_spread_145 rfl ?_
                      refine zj_iload_n (i := 3) (pc := 147) K dX8_spread_147 rfl rfl ?_
                      refine zj_icmp_le (tgt := 156) (pc := 148) K dX8_spread_148 (by decide) (fun c_148 => ?_) (fun c_148 => ?_)
                      · have hh3 := zs_hi_k hhi2 hF c_148
                        refine zj_iload_n (i := 3) (pc := 156) K dX8_spread_156 rfl rfl ?_
                        refine zj_istore_n (i := 3) (pc := 157) K dX8_spread_157 rfl rfl rfl rfl ?_
                        refine zj_iinc (v := 1) (pc := 158) K dX8_spread_158 rfl (by decide) rfl rfl rfl ?_
                        refine zj_goto (tgt := 68) (pc := 161) K dX8_spread_161 (by decide) ?_
                        refine zj_pick [0, 1, 2, 3, 4, 5] ?_
                        first
                        | exact ih2 (j + 1) _ _ _ (by omega) (by omega) hl3 hh3 (zz_up e5)
                        | exact ih2 (j + 1) _ _ _ (by omega) (by omega) (zs_lo_s hlo2 hsk) (zs_hi_s hhi2 hsk) (zz_up e5)
                      · have hh3 := zs_hi_u hhi2 hvi hi hF c_148
                        refine zj_iload (pc := 151) K dX8_spread_151 rfl ?_
                        refine zj_goto (tgt := 157) (pc := 153) K dX8_spread_153 (by decide) ?_
                        refine zj_istore_n (i := 3) (pc := 157) K dX8_spread_157 rfl rfl rfl rfl ?_
                        refine zj_iinc (v := 1) (pc := 158) K dX8_spread_158 rfl (by decide) rfl rfl rfl ?_
                        refine zj_goto (tgt := 68) (pc := 161) K dX8_spread_161 (by decide) ?_
                        refine zj_pick [0, 1, 2, 3, 4, 5] ?_
                        first
                        | exact ih2 (j + 1) _ _ _ (by omega) (by omega) hl3 hh3 (zz_up e5)
                        | exact ih2 (j + 1) _ _ _ (by omega) (by omega) (zs_lo_s hlo2 hsk) (zs_hi_s hhi2 hsk) (zz_up e5)
                · refine zj_iload_n (i := 1) (pc := 93) K dX8_spread_93 rfl rfl ?_
                  refine zj_iconst (v := 1) (pc := 94) K dX8_spread_94 (by decide) ?_
                  refine zj_icmp_ne (tgt := 101) (pc := 95) K dX8_spread_95 (by decide) (fun c_95 => ?_) (fun c_95 => ?_)
                  · have hx0 : x = 0 := hx01.resolve_right c_95
                    refine zj_iload_n (i := 1) (pc := 101) K dX8_spread_101 rfl rfl ?_
                    refine zj_if_ne (tgt := 120) (pc := 102) K dX8_spread_102 (by decide) (fun c_102 => ?_) (fun c_102 => ?_)
                    · have hvi : zs_v x i j = true := by
                        unfold zs_v
                        rw [if_neg c_102]
                        first
                        | exact decide_eq_true hij.symm
                        | exact absurd c_90 c_79
                        | exact absurd c_79 c_90
                        | exact absurd hx0 c_102
                      have hF : zs_load C J (zmB q 80) (zmW q 80) (zmS q 80) (q 80 3) (-1) i = zs_F (zτM h 80 J C u) (zδM h 80) x i j := by unfold zs_F; rw [if_neg c_102, eB, eW, eS, e80]; rfl
                      refine zj_aload_n (i := 0) (pc := 120) K dX8_spread_120 rfl rfl ?_
                      refine zj_getR (pc := 121) K lf_X8_64 hs_M rfl dX8_spread_121 ?_
                      refine zj_iload (pc := 124) K dX8_spread_124 rfl ?_
                      refine zj_iconst (v := -1) (pc := 126) K dX8_spread_126 (by decide) ?_
                      refine zj_cS3I (pc := 127) K lm_X8_143 (m_X8_loadOf hs_Mnow eJ2 hJ eC2 hC e4 (by omega)) (by decide) rfl (Nat.le_of_ble_eq_true rfl) dX8_spread_127 ?_
                      refine zj_istore (pc := 130) K dX8_spread_130 rfl rfl rfl ?_
                      refine zj_iload (pc := 132) K dX8_spread_132 rfl ?_
                      refine zj_iload_n (i := 2) (pc := 134) K dX8_spread_134 rfl rfl ?_
                      refine zj_icmp_ge (tgt := 143) (pc := 135) K dX8_spread_135 (by decide) (fun c_135 => ?_) (fun c_135 => ?_)
                      · have hl3 := zs_lo_k hlo2 hF c_135
                        refine zj_iload_n (i := 2) (pc := 143) K dX8_spread_143 rfl rfl ?_
                        refine zj_istore_n (i := 2) (pc := 144) K dX8_spread_144 rfl rfl rfl rfl ?_
                        refine zj_iload (pc := 145) K dX8_spread_145 rfl ?_
                        refine zj_iload_n (i := 3) (pc := 147) K dX8_spread_147 rfl rfl ?_
                        refine zj_icmp_le (tgt := 156) (pc := 148) K dX8_spread_148 (by decide) (fun c_148 => ?_) (fun c_148 => ?_)
                        · have hh3 := zs_hi_k hhi2 hF c_148
                          refine zj_iload_n (i := 3) (pc := 156) K dX8_spread_156 rfl rfl ?_
                          refine zj_istore_n (i := 3) (pc := 157) K dX8_spread_157 rfl rfl rfl rfl ?_
                          refine zj_iinc (v := 1) (pc := 158) K dX8_spread_158 rfl (by decide) rfl rfl rfl ?_
                          refine zj_goto (tgt := 68) (pc := 161) K dX8_spread_161 (by decide) ?_
                          refine zj_pick [0, 1, 2, 3, 4, 5] ?_
                          first
                          | exact ih2 (j + 1) _ _ _ (by omega) (by omega) hl3 hh3 (zz_up e5)
                          | exact ih2 (j + 1) _ _ _ (by omega) (by omega) (zs_lo_s hlo2 hsk) (zs_hi_s hhi2 hsk) (zz_up e5)
                        · have hh3 := zs_hi_u hhi2 hvi hi hF c_148
                          refine zj_iload (pc := 151) K dX8_spread_151 rfl ?_
                          refine zj_goto (tgt := 157) (pc := 153) K dX8_spread_153 (by decide) ?_
                          refine zj_istore_n (i := 3) (pc := 157) K dX8_spread_157 rfl rfl rfl rfl ?_
                          refine zj_iinc (v := 1) (pc := 158) K dX8_spread_158 rfl (by decide) rfl rfl rfl ?_
                          refine zj_goto (tgt := 68) (pc := 161) K dX8_spread_161 (by decide) ?_
                          refine zj_pick [0, 1, 2, 3, 4, 5] ?_
                          first
                          | exact ih2 (j + 1) _ _ _ (by omega) (by omega) hl3 hh3 (zz_up e5)
                          | exact ih2 (j + 1) _ _ _ (by omega) (by omega) (zs_lo_s hlo2 hsk) (zs_hi_s hhi2 hsk) (zz_up e5)
                      · have hl3 := zs_lo_u hlo2 hvi hi hF c_135
                        refine zj_iload (pc := 138) K dX8_spread_138 rfl ?_
                        refine zj_goto (tgt := 144) (pc := 140) K dX8_spread_140 (by decide) ?_
                        refine zj_istore_n (i := 2) (pc := 144) K dX8_spread_144 rfl rfl rfl rfl ?_
                        refine zj_iload (pc := 145) K dX8_spread_145 rfl ?_
                        refine zj_iload_n (i := 3) (pc := 147) K dX8_spread_147 rfl rfl ?_
                        refine zj_icmp_le (tgt := 156) (pc := 148) K dX8_spread_148 (by decide) (fun c_148 => ?_) (fun c_148 => ?_)
                        · have hh3 := zs_hi_k hhi2 hF c_148
                          refine zj_iload_n (i := 3) (pc := 156) K dX8_spread_156 rfl rfl ?_
                          refine zj_istore_n (i := 3) (pc := 157) K dX8_spread_157 rfl rfl rfl rfl ?_
                          refine zj_iinc (v := 1) (pc := 158) K dX8_spread_158 rfl (by decide) rfl rfl rfl ?_
                          refine zj_goto (tgt := 68) (pc := 161) K dX8_spread_161 (by decide) ?_
                          refine zj_pick [0, 1, 2, 3, 4, 5] ?_
                          first
                          | exact ih2 (j + 1) _ _ _ (by omega) (by omega) hl3 hh3 (zz_up e5)
                          | exact ih2 (j + 1) _ _ _ (by omega) (by omega) (zs_lo_s hlo2 hsk) (zs_hi_s hhi2 hsk) (zz_up e5)
                        · have hh3 := zs_hi_u hhi2 hvi hi hF c_148
                          refine zj_iload (pc := 151) K dX8_spread_151 rfl ?_
                          refine zj_goto (tgt := 157) (pc := 153) K dX8_spread_153 (by decide) ?_
                          refine zj_istore_n (i := 3) (pc := 157) K dX8_spread_157 rfl rfl rfl rfl ?_
                          refine zj_iinc (v := 1) (pc := 158) K dX8_spread_158 rfl (by decide) rfl rfl rfl ?_
                          refine zj_goto (tgt := 68) (pc := 161) K dX8_spread_161 (by decide) ?_
                          refine zj_pick [0, 1, 2, 3, 4, 5] ?_
                          first
                          | exact ih2 (j + 1) _ _ _ (by omega) (by omega) hl3 hh3 (zz_up e5)
                          | exact ih2 (j + 1) _ _ _ (by omega) (by omega) (zs_lo_s hlo2 hsk) (zs_hi_s hhi2 hsk) (zz_up e5)
                    · have hvi : zs_v x i j = true := by
                        unfold zs_v
                        rw [if_pos c_102]
                        first
                        | exact absurd c_102 c_83
                        | exact decide_eq_true (by omega)
                      have hF : nI (zs_pair C (zmB q 80) (-1) i j) = zs_F (zτM h 80 J C u) (zδM h 80) x i j := by unfold zs_F; rw [if_pos c_102, eB]; rfl
                      refine zj_aload_n (i := 0) (pc := 105) K dX8_spread_105 rfl rfl ?_
                      refine zj_getR (pc := 106) K lf_X8_64 hs_M rfl dX8_spread_106 ?_
                      refine zj_iload (pc := 109) K dX8_spread_109 rfl ?_
                      refine zj_iload (pc := 111) K dX8_spread_111 rfl ?_
                      refine zj_iconst (v := -1) (pc := 113) K dX8_spread_113 (by decide) ?_
                      refine zj_cS4I (pc := 114) K lm_X8_147 (m_X8_pairOf hs_Mnow eC2 hC e4 e5 (by omega) (by omega)) (by decide) rfl (Nat.le_of_ble_eq_true rfl) dX8_spread_114 ?_
                      refine zj_goto (tgt := 130) (pc := 117) K dX8_spread_117 (by decide) ?_
                      refine zj_istore (pc := 130) K dX8_spread_130 rfl rfl rfl ?_
                      refine zj_iload (pc := 132) K dX8_spread_132 rfl ?_
                      refine zj_iload_n (i := 2) (pc := 134) K dX8_spread_134 rfl rfl ?_
                      refine zj_icmp_ge (tgt := 143) (pc := 135) K dX8_spread_135 (by decide) (fun c_135 => ?_) (fun c_135 => ?_)
                      · have hl3 := zs_lo_k hlo2 hF c_135
                        refine zj_iload_n (i := 2) (pc := 143) K dX8_spread_143 rfl rfl ?_
                        refine zj_istore_n (i := 2) (pc := 144) K dX8_spread_144 rfl rfl rfl rfl ?_
                        refine zj_iload (pc := 145) K dX8_spread_145 rfl ?_
                        refine zj_iload_n (i := 3) (pc := 147) K dX8_spread_147 rfl rfl ?_
                        refine zj_icmp_le (tgt := 156) (pc := 148) K dX8_spread_148 (by decide) (fun c_148 => ?_) (fun c_148 => ?_)
                        · have hh3 := zs_hi_k hhi2 hF c_148
                          refine zj_iload_n (i := 3) (pc := 156) K dX8_spread_156 rfl rfl ?_
                          refine zj_istore_n (i := 3) (pc := 157) K dX8_spread_157 rfl rfl rfl rfl ?_
                          refine zj_iinc (v := 1) (pc := 158) K dX8_spread_158 rfl (by decide) rfl rfl rfl ?_
                          refine zj_goto (tgt := 68) (pc := 161) K dX8_spread_161 (by decide) ?_
                          refine zj_pick [0, 1, 2, 3, 4, 5] ?_
                          first
                          | exact ih2 (j + 1) _ _ _ (by omega) (by omega) hl3 hh3 (zz_up e5)
                          | exact ih2 (j + 1) _ _ _ (by omega) (by omega) (zs_lo_s hlo2 hsk) (zs_hi_s hhi2 hsk) (zz_up e5)
                        · have hh3 := zs_hi_u hhi2 hvi hi hF c_148
                          refine zj_iload (pc := 151) K dX8_spread_151 rfl ?_
                          refine zj_goto (tgt := 157) (pc := 153) K dX8_spread_153 (by decide) ?_
                          refine zj_istore_n (i := 3) (pc := 157) K dX8_spread_157 rfl rfl rfl rfl ?_
                          refine zj_iinc (v := 1) (pc := 158) K dX8_spread_158 rfl (by decide) rfl rfl rfl ?_
                          refine zj_goto (tgt := 68) (pc := 161) K dX8_spread_161 (by decide) ?_
                          refine zj_pick [0, 1, 2, 3, 4, 5] ?_
                          first
                          | exact ih2 (j + 1) _ _ _ (by omega) (by omega) hl3 hh3 (zz_up e5)
                          | exact ih2 (j + 1) _ _ _ (by omega) (by omega) (zs_lo_s hlo2 hsk) (zs_hi_s hhi2 hsk) (zz_up e5)
                      · have hl3 := zs_lo_u hlo2 hvi hi hF c_135
                        refine zj_iload (pc := 138) K dX8_spread_138 rfl ?_
                        refine zj_goto (tgt := 144) (pc := 140) K dX8_spread_140 (by decide) ?_
                        refine zj_istore_n (i := 2) (pc := 144) K dX8_spread_144 rfl rfl rfl rfl ?_
                        refine zj_iload (pc := 145) K dX8_spread_145 rfl ?_
                        refine zj_iload_n (i := 3) (pc := 147) K dX8_spread_147 rfl rfl ?_
                        refine zj_icmp_le (tgt := 156) (pc := 148) K dX8_spread_148 (by decide) (fun c_148 => ?_) (fun c_148 => ?_)
                        · have hh3 := zs_hi_k hhi2 hF c_148
                          refine zj_iload_n (i := 3) (pc := 156) K dX8_spread_156 rfl rfl ?_
                          refine zj_istore_n (i := 3) (pc := 157) K dX8_spread_157 rfl rfl rfl rfl ?_
                          refine zj_iinc (v := 1) (pc := 158) K dX8_spread_158 rfl (by decide) rfl rfl rfl ?_
                          refine zj_goto (tgt := 68) (pc := 161) K dX8_spread_161 (by decide) ?_
                          refine zj_pick [0, 1, 2, 3, 4, 5] ?_
                          first
                          | exact ih2 (j + 1) _ _ _ (by omega) (by omega) hl3 hh3 (zz_up e5)
                          | exact ih2 (j + 1) _ _ _ (by omega) (by omega) (zs_lo_s hlo2 hsk) (zs_hi_s hhi2 hsk) (zz_up e5)
                        · have hh3 := zs_hi_u hhi2 hvi hi hF c_148
                          refine zj_iload (pc := 151) K dX8_spread_151 rfl ?_
                          refine zj_goto (tgt := 157) (pc := 153) K dX8_spread_153 (by decide) ?_
                          refine zj_istore_n (i := 3) (pc := 157) K dX8_spread_157 rfl rfl rfl rfl ?_
                          refine zj_iinc (v := 1) (pc := 158) K dX8_spread_158 rfl (by decide) rfl rfl rfl ?_
                          refine zj_goto (tgt := 68) (pc := 161) K dX8_spread_161 (by decide) ?_
                          refine zj_pick [0, 1, 2, 3, 4, 5] ?_
                          first
                          | exact ih2 (j + 1) _ _ _ (by omega) (by omega) hl3 hh3 (zz_up e5)
                          | exact ih2 (j + 1) _ _ _ (by omega) (by omega) (zs_lo_s hlo2 hsk) (zs_hi_s hhi2 hsk) (zz_up e5)
                  · have hsk : zs_v x i j = false := by unfold zs_v; rw [if_neg (by rw [c_95]; decide)]; first | exact decide_eq_false (fun z => hij z.symm) | exact absurd c_79 c_90
                    refine zj_goto (tgt := 158) (pc := 98) K dX8_spread_98 (by decide) ?_
                    refine zj_iinc (v := 1) (pc := 158) K dX8_spread_158 rfl (by decide) rfl rfl rfl ?_
                    refine zj_goto (tgt := 68) (pc := 161) K dX8_spread_161 (by decide) ?_
                    refine zj_pick [0, 1, 2, 3, 4, 5] ?_
                    first
                    | exact ih2 (j + 1) _ _ _ (by omega) (by omega) hl3 hh3 (zz_up e5)
                    | exact ih2 (j + 1) _ _ _ (by omega) (by omega) (zs_lo_s hlo2 hsk) (zs_hi_s hhi2 hsk) (zz_up e5)
      refine zj_iload (pc := 56) K dX8_spread_56 rfl ?_
      refine zj_aload_n (i := 0) (pc := 58) K dX8_spread_58 rfl rfl ?_
      refine zj_cV0I (pc := 59) K lm_X8_132 hs_M (m_X8_judges) (by decide) rfl (Nat.le_of_ble_eq_true rfl) dX8_spread_59 ?_
      refine zj_icmp_ge (tgt := 170) (pc := 62) K dX8_spread_62 (by decide) (fun c_62 => ?_) (fun c_62 => ?_)
      · have hi : i = J := Nat.le_antisymm h2 (zz_ge e4 eJ2 (by omega) (by omega) c_62)
        subst hi
        refine zj_iload_n (i := 3) (pc := 170) K dX8_spread_170 rfl rfl ?_
        refine zj_iload_n (i := 2) (pc := 171) K dX8_spread_171 rfl rfl ?_
        refine zj_isub (pc := 172) K dX8_spread_172 ?_
        exact zj_iret K Rt dX8_spread_173 (⟨by rw [zs_lo_hi hJ2 hJ hC hx01 hL hlo hhi], rfl, wq, wq0⟩)
      · have hi : i < J := zz_nge e4 eJ2 (by omega) (by omega) c_62
        refine zj_iconst (v := 0) (pc := 65) K dX8_spread_65 (by decide) ?_
        refine zj_istore (pc := 66) K dX8_spread_66 rfl rfl rfl ?_
        exact inner hi (i + 2) 0 _ _ _ (by omega) (by omega) hlo hhi rfl
  show zj_J E Γ 7 0 [(0, .ref (E.2.1 78)), (1, .int x)] [] h g
  refine zj_aload_n (i := 0) (pc := 0) K dX8_spread_0 rfl rfl ?_
  refine zj_iconst (v := 0) (pc := 1) K dX8_spread_1 (by decide) ?_
  refine zj_putI (pc := 2) K lf_X8_1 hs_M rfl dX8_spread_2 ?_
  refine zj_hn (fun q0 eq0 => ?_)
  have w0 : ∀ a, a ≠ 78 → q0 a = h a := fun a a1 => by rw [eq0, zj_s_ne _ _ a1]
  have wb : ∀ b, b ≠ 0 → q0 78 b = h 78 b := fun b b1 => by rw [eq0, zj_s_eq, zz_upd_ne _ _ b1]
  have w00 : q0 78 0 = 0 := by rw [eq0, zj_s_eq, zz_upd_at]
  have ws : zm_same h q0 := by rw [eq0]; exact zm_same_0 h 0
  have e80 : q0 80 = h 80 := w0 80 (by decide)
  have eJ0 : q0 80 7 = nI J := by rw [e80]; exact eJ
  have eC0 : q0 80 18 = nI C := by rw [e80]; exact eC
  have eτ : zτM q0 80 J C u = zτM h 80 J C u := zτM_congr e80
  have eδ : zδM q0 80 = zδM h 80 := zδM_congr e80
  clear eq0
  refine zj_iload_n (i := 1) (pc := 5) K dX8_spread_5 rfl rfl ?_
  refine zj_iconst (v := 0) (pc := 6) K dX8_spread_6 (by decide) ?_
  refine zj_iconst (v := 1) (pc := 7) K dX8_spread_7 (by decide) ?_
  refine zj_cS3I (pc := 8) K lm_X8_91 (m_X8_isIn) (by decide) rfl (Nat.le_of_ble_eq_true rfl) dX8_spread_8 ?_
  refine zj_if_eq (tgt := 22) (pc := 11) K dX8_spread_11 (by decide) (fun c_11 => ?_) (fun c_11 => ?_)
  · replace c_11 := zz_i0.mp c_11
    have hno : zq_spr (zτM h 80 J C u) (zδM h 80) x = -1 := zs_n01 c_11
    refine zj_iconst (v := -1) (pc := 22) K dX8_spread_22 (by decide) ?_
    exact zj_iret K Rt dX8_spread_23 (⟨by rw [hno], rfl, ws, w00⟩)
  · replace c_11 := zz_n0.mp c_11
    have hx01 := zs_01 c_11
    refine zj_aload_n (i := 0) (pc := 14) K dX8_spread_14 rfl rfl ?_
    refine zj_cV0I (pc := 15) K lm_X8_132 hs_M (m_X8_judges) (by decide) rfl (Nat.le_of_ble_eq_true rfl) dX8_spread_15 ?_
    refine zj_iconst (v := 2) (pc := 18) K dX8_spread_18 (by decide) ?_
    refine zj_icmp_ge (tgt := 24) (pc := 19) K dX8_spread_19 (by decide) (fun c_19 => ?_) (fun c_19 => ?_)
    · have hJ2 : 2 ≤ J := zz_ge eJ0 (show (2 : Int32) = nI 2 from rfl) (by omega) (by omega) c_19
      have eB : zmB q0 80 = zmB h 80 := by unfold zmB; rw [e80]
      have eW : zmW q0 80 = zmW h 80 := by unfold zmW; rw [e80]
      have eS : zmS q0 80 = zmS h 80 := by unfold zmS; rw [e80]
      refine zj_iload_n (i := 1) (pc := 24) K dX8_spread_24 rfl rfl ?_
      refine zj_if_ne (tgt := 41) (pc := 25) K dX8_spread_25 (by decide) (fun c_25 => ?_) (fun c_25 => ?_)
      · have hi0 := zs_1 (τ := (zτM h 80 J C u)) (δ := (zδM h 80)) hJ2 c_25
        rw [show zq_L (zτM h 80 J C u) (zδM h 80) 0 = zs_load C J (zmB q0 80) (zmW q0 80) (zmS q0 80) (q0 80 3) (-1) 0 by rw [eB, eW, eS, e80]; rfl] at hi0
        refine zj_aload_n (i := 0) (pc := 41) K dX8_spread_41 rfl rfl ?_
        refine zj_getR (pc := 42) K lf_X8_64 hs_M rfl dX8_spread_42 ?_
        refine zj_iconst (v := 0) (pc := 45) K dX8_spread_45 (by decide) ?_
        refine zj_iconst (v := -1) (pc := 46) K dX8_spread_46 (by decide) ?_
        refine zj_cS3I (pc := 47) K lm_X8_143 (m_X8_loadOf (j := 0) hs_Mnow eJ0 hJ eC0 hC rfl (by omega)) (by decide) rfl (Nat.le_of_ble_eq_true rfl) dX8_spread_47 ?_
        refine zj_istore_n (i := 2) (pc := 50) K dX8_spread_50 rfl rfl rfl rfl ?_
        refine zj_iload_n (i := 2) (pc := 51) K dX8_spread_51 rfl rfl ?_
        refine zj_istore_n (i := 3) (pc := 52) K dX8_spread_52 rfl rfl rfl rfl ?_
        refine zj_iconst (v := 0) (pc := 53) K dX8_spread_53 (by decide) ?_
        refine zj_istore (pc := 54) K dX8_spread_54 rfl rfl rfl ?_
        exact loop q0 e80 ws w00 hJ2 hx01 (J + 1) 0 _ _ _ (by omega) (by omega) hi0.1 hi0.2 rfl
      · have hi0 := zs_0 (τ := (zτM h 80 J C u)) (δ := (zδM h 80)) hJ2 c_25
        rw [show nI (zs_pair (zτM h 80 J C u).2.1 (zδM h 80).2.2.2.1 (-1) 0 1) = nI (zs_pair C (zmB q0 80) (-1) 0 1) by rw [eB]; rfl] at hi0
        refine zj_aload_n (i := 0) (pc := 28) K dX8_spread_28 rfl rfl ?_
        refine zj_getR (pc := 29) K lf_X8_64 hs_M rfl dX8_spread_29 ?_
        refine zj_iconst (v := 0) (pc := 32) K dX8_spread_32 (by decide) ?_
        refine zj_iconst (v := 1) (pc := 33) K dX8_spread_33 (by decide) ?_
        refine zj_iconst (v := -1) (pc := 34) K dX8_spread_34 (by decide) ?_
        refine zj_cS4I (pc := 35) K lm_X8_147 (m_X8_pairOf (i := 0) (j := 1) hs_Mnow eC0 hC rfl rfl (by omega) (by omega)) (by decide) rfl (Nat.le_of_ble_eq_true rfl) dX8_spread_35 ?_
        refine zj_goto (tgt := 50) (pc := 38) K dX8_spread_38 (by decide) ?_
        refine zj_istore_n (i := 2) (pc := 50) K dX8_spread_50 rfl rfl rfl rfl ?_
        refine zj_iload_n (i := 2) (pc := 51) K dX8_spread_51 rfl rfl ?_
        refine zj_istore_n (i := 3) (pc := 52) K dX8_spread_52 rfl rfl rfl rfl ?_
        refine zj_iconst (v := 0) (pc := 53) K dX8_spread_53 (by decide) ?_
        refine zj_istore (pc := 54) K dX8_spread_54 rfl rfl rfl ?_
        exact loop q0 e80 ws w00 hJ2 hx01 (J + 1) 0 _ _ _ (by omega) (by omega) hi0.1 hi0.2 rfl
    · have hno : zq_spr (zτM h 80 J C u) (zδM h 80) x = -1 := zs_n2 (show J < 2 from zz_nge eJ0 (show (2 : Int32) = nI 2 from rfl) (by omega) (by omega) c_19)
      refine zj_iconst (v := -1) (pc := 22) K dX8_spread_22 (by decide) ?_
      exact zj_iret K Rt dX8_spread_23 (⟨by rw [hno], rfl, ws, w00⟩)
