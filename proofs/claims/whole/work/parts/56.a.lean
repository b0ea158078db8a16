/-- a TOKEN is determined -/
theorem zw_tok_un {t : Nat → Int32} {n a K s e K' s' e' : Nat} {v v' : Int32} (h : zw_tok t n a K s e v) (h' : zw_tok t n a K' s' e' v') : K = K' ∧ s = s' ∧ e = e' ∧ (K = 3 → v = v') := by
  obtain ⟨p, hp, h⟩ := h
  obtain ⟨p', hp', h'⟩ := h'
  have epp := zw_e_un hp hp'
  subst epp
  rcases h with ⟨a1, rfl, rfl, rfl⟩ | ⟨a1, rfl, q, hq, h⟩
  · rcases h' with ⟨b1, rfl, rfl, rfl⟩ | ⟨b1, _, _⟩
    · exact ⟨rfl, rfl, rfl, fun z => absurd z (by decide)⟩
    · omega
  · rcases h' with ⟨b1, _, _⟩ | ⟨b1, rfl, q', hq', h'⟩
    · omega
    · have eqq := zw_e_un hq hq'
      subst eqq
      rcases h with ⟨c1, rfl, rfl⟩ | ⟨c1, rfl, h⟩
      · rcases h' with ⟨d1, rfl, rfl⟩ | ⟨d1, _, _⟩
        · refine ⟨rfl, rfl, rfl, fun z => ?_⟩
          split at z <;> exact absurd z (by decide)
        · omega
      · rcases h' with ⟨d1, _, _⟩ | ⟨d1, rfl, h'⟩
        · omega
        · rcases h with ⟨e1, rfl⟩ | ⟨e1, e2, rfl, rfl⟩ | ⟨e1, e2, rfl⟩
          · rcases h' with ⟨f1, rfl⟩ | ⟨f1, f2, _, _⟩ | ⟨f1, f2, _⟩
            · exact ⟨rfl, rfl, rfl, fun z => absurd z (by decide)⟩
            · have w := f1 _ (Nat.le_refl _) c1; rw [e1 _ (Nat.le_refl _) c1] at w; cases w
            · exact absurd e1 f1
          · rcases h' with ⟨f1, _⟩ | ⟨f1, f2, rfl, rfl⟩ | ⟨f1, f2, _⟩
            · have w := f1 _ (Nat.le_refl _) c1; rw [e1 _ (Nat.le_refl _) c1] at w; cases w
            · exact ⟨rfl, rfl, rfl, fun _ => rfl⟩
            · exact absurd ⟨e1, e2⟩ f2
          · rcases h' with ⟨f1, _⟩ | ⟨f1, f2, _, _⟩ | ⟨f1, f2, rfl⟩
            · exact absurd f1 e1
            · exact absurd ⟨f1, f2⟩ e2
            · exact ⟨rfl, rfl, rfl, fun z => absurd z (by decide)⟩
/-- a byte that belongs to no TOKEN and is no blank -/
def zw_x (c : Int32) : Prop := zw_bl c = false ∧ zw_let c = false ∧ zw_dig c = false ∧ ¬ c = 59
def zw_r (t t' : Nat → Int32) (n : Nat) : Prop := ∀ i, i < n → t i = t' i ∨ (zw_x (t i) ∧ zw_x (t' i))
theorem zw_r_bl {t t' : Nat → Int32} {n i : Nat} (h : zw_r t t' n) (hi : i < n) : zw_bl (t i) = zw_bl (t' i) := by
  rcases h i hi with e | ⟨e1, e2⟩
  · rw [e]
  · rw [e1.1, e2.1]
theorem zw_r_let {t t' : Nat → Int32} {n i : Nat} (h : zw_r t t' n) (hi : i < n) : zw_let (t i) = zw_let (t' i) := by
  rcases h i hi with e | ⟨e1, e2⟩
  · rw [e]
  · rw [e1.2.1, e2.2.1]
theorem zw_r_dig {t t' : Nat → Int32} {n i : Nat} (h : zw_r t t' n) (hi : i < n) : zw_dig (t i) = zw_dig (t' i) := by
  rcases h i hi with e | ⟨e1, e2⟩
  · rw [e]
  · rw [e1.2.2.1, e2.2.2.1]
theorem zw_r_59 {t t' : Nat → Int32} {n i : Nat} (h : zw_r t t' n) (hi : i < n) : (t i = 59) = (t' i = 59) := by
  rcases h i hi with e | ⟨e1, e2⟩
  · rw [e]
  · rw [eq_false e1.2.2.2, eq_false e2.2.2.2]
theorem zw_r_at {t t' : Nat → Int32} {n i : Nat} (h : zw_r t t' n) (hi : i < n) (hd : zw_an t i = true) : t i = t' i := by
  rcases h i hi with e | ⟨e1, e2⟩
  · exact e
  · unfold zw_an at hd; rw [e1.2.1, e1.2.2.1] at hd; cases hd
theorem zw_e_c {p p' : Nat → Bool} {n a e : Nat} (hp : ∀ i, i < n → p i = p' i) (h : zw_e p n a e) : zw_e p' n a e :=
  ⟨h.1, h.2.1, fun k k1 k2 => by rw [← hp k (by have := h.2.1; omega)]; exact h.2.2.1 k k1 k2, fun z => by rw [← hp e z]; exact h.2.2.2 z⟩
theorem zw_val_c {t t' : Nat → Int32} {p : Nat} : ∀ {m : Nat}, (∀ k, k < m → t (p + k) = t' (p + k)) → zw_val t p m = zw_val t' p m
  | 0, _ => rfl
  | m + 1, h => by rw [zw_val, zw_val, zw_val_c (fun k hk => h k (by omega)), h m (by omega)]
theorem zw_code_c {t t' : Nat → Int32} {p : Nat} : ∀ {m : Nat}, (∀ k, k < m → t (p + k) = t' (p + k)) → zw_code t p m = zw_code t' p m
  | 0, _ => rfl
  | m + 1, h => by rw [zw_code, zw_code, zw_code_c (fun k hk => h k (by omega)), h m (by omega)]
/-- tapes that agree where it counts have the same TOKENs -/
theorem zw_tok_c {t t' : Nat → Int32} {n a K s e : Nat} {v : Int32} (hr : zw_r t t' n) (h : zw_tok t n a K s e v) : zw_tok t' n a K s e v := by
  obtain ⟨p, hp, h⟩ := h
  refine ⟨p, zw_e_c (fun i hi => zw_r_bl hr hi) hp, ?_⟩
  rcases h with h | ⟨a1, a2, q, hq, h⟩
  · exact Or.inl h
  · have hmin : min n 500 ≤ n := Nat.min_le_left _ _
    have hqn := hq.2.1
    refine Or.inr ⟨a1, a2, q, zw_e_c (fun i hi => by unfold zw_an; rw [zw_r_let hr hi, zw_r_dig hr hi]) hq, ?_⟩
    have hd : ∀ (b : Bool), (∀ i, p ≤ i → i < q → zw_dig (t i) = b) ↔ (∀ i, p ≤ i → i < q → zw_dig (t' i) = b) := fun b =>
      ⟨fun z i i1 i2 => by rw [← zw_r_dig hr (show i < n by omega)]; exact z i i1 i2, fun z i i1 i2 => by rw [zw_r_dig hr (show i < n by omega)]; exact z i i1 i2⟩
    rcases h with ⟨c1, c2, c3⟩ | ⟨c1, c2, h⟩
    · refine Or.inl ⟨c1, ?_, c3⟩
      rw [c2]
      simp only [zw_r_59 hr (show p < n by omega)]
    · refine Or.inr ⟨c1, c2, ?_⟩
      rw [← hd false, ← hd true]
      rcases h with h | ⟨d1, d2, d3, d4⟩ | h
      · exact Or.inl h
      · refine Or.inr (Or.inl ⟨d1, d2, d3, ?_⟩)
        rw [d4]
        exact zw_val_c (fun k hk => zw_r_at hr (by omega) (hq.2.2.1 (p + k) (by omega) (by omega)))
      · exact Or.inr (Or.inr h)
