theorem zw_e_ex (p : Nat → Bool) {n : Nat} : ∀ (m a : Nat), a + m = n → ∃ e, zw_e p n a e
  | 0, a, h => ⟨a, Nat.le_refl _, by omega, fun k h1 h2 => by omega, fun z => by omega⟩
  | m + 1, a, h => by
    cases hp : p a with
    | false => exact ⟨a, Nat.le_refl _, by omega, fun k h1 h2 => by omega, fun _ => hp⟩
    | true =>
      obtain ⟨e, e1, e2, e3, e4⟩ := zw_e_ex p (n := n) m (a + 1) (by omega)
      refine ⟨e, by omega, e2, fun k h1 h2 => ?_, e4⟩
      by_cases ek : k = a
      · rw [ek]; exact hp
      · exact e3 k (by omega) h2
theorem zw_tok_ex (t : Nat → Int32) {n a : Nat} (ha : a ≤ n) : ∃ K s e v, zw_tok t n a K s e v := by
  obtain ⟨p, hp⟩ := zw_e_ex (fun i => zw_bl (t i)) (n := n) (n - a) a (by omega)
  have hmn := Nat.min_le_left n 500
  by_cases h1 : min n 500 ≤ p
  · exact ⟨1, min n 500, p, 0, p, hp, Or.inl ⟨h1, rfl, rfl, rfl⟩⟩
  · obtain ⟨q, hq⟩ := zw_e_ex (zw_an t) (n := n) (n - p) p (by omega)
    by_cases h2 : q = p
    · exact ⟨if t p = 59 then 4 else 0, p, p + 1, 0, p, hp, Or.inr ⟨by omega, rfl, q, hq, Or.inl ⟨h2, rfl, rfl⟩⟩⟩
    · have h3 : p < q := by have := hq.1; omega
      by_cases h4 : ∀ i, p ≤ i → i < q → zw_dig (t i) = false
      · exact ⟨2, p, q, 0, p, hp, Or.inr ⟨by omega, rfl, q, hq, Or.inr ⟨h3, rfl, Or.inl ⟨h4, rfl⟩⟩⟩⟩
      · by_cases h5 : (∀ i, p ≤ i → i < q → zw_dig (t i) = true) ∧ q - p ≤ 4
        · exact ⟨3, p, q, zw_val t p (q - p), p, hp, Or.inr ⟨by omega, rfl, q, hq, Or.inr ⟨h3, rfl, Or.inr (Or.inl ⟨h5.1, h5.2, rfl, rfl⟩)⟩⟩⟩
        · exact ⟨0, p, q, 0, p, hp, Or.inr ⟨by omega, rfl, q, hq, Or.inr ⟨h3, rfl, Or.inr (Or.inr ⟨h4, h5, rfl⟩)⟩⟩⟩
theorem zw_T_tok (t : Nat → Int32) {n a : Nat} (ha : a ≤ n) : zw_tok t n a (zw_T t n a).1 (zw_T t n a).2.1 (zw_T t n a).2.2.1 (zw_T t n a).2.2.2 := by
  obtain ⟨K, s, e, v, h⟩ := zw_tok_ex t ha
  exact (zw_T_of h).1
/-- what stands next was read from e0 on -/
def zu_adv (t : Nat → Int32) (n e0 : Nat) (r : zuR) : Prop := ∀ q w, r = .inr (q, w) → ∃ a, e0 ≤ a ∧ a ≤ n ∧ q = zw_T t n a
theorem zu_adv_nx {t : Nat → Int32} {n e0 : Nat} {q : zuK} (h : ∃ a, e0 ≤ a ∧ a ≤ n ∧ q = zw_T t n a) : ∃ a, e0 ≤ a ∧ a ≤ n ∧ zw_T t n q.2.2.1 = zw_T t n a := by
  obtain ⟨a, a1, a2, rfl⟩ := h
  have hz := zw_tok_e (zw_T_tok t a2)
  exact ⟨_, Nat.le_trans a1 hz.1, hz.2.1, rfl⟩
theorem zu_num_inr {T : Nat → zuK} {lo hi : Int32} {k : Nat} {r : zuR} {q : zuK} {w : zuW} (h : zu_num T lo hi k r = .inr (q, w)) : ∃ q0 w0 x, r = .inr (q0, w0) ∧ q = T q0.2.2.1 ∧ w = upd w0 k x ∧ lo ≤ x ∧ x ≤ hi := by
  match r, h with
  | .inl e, h => cases h
  | .inr (q0, w0), h =>
    by_cases h3 : q0.1 = 3
    · by_cases h1 : q0.2.2.2 < lo
      · rw [zu_num_2 h3 (Or.inl h1)] at h; cases h
      · by_cases h2 : q0.2.2.2 ≤ hi
        · rw [zu_num_3 h3 h1 h2] at h; cases h
          exact ⟨q0, w0, _, rfl, rfl, rfl, Int32.not_lt.mp h1, h2⟩
        · rw [zu_num_2 h3 (Or.inr h2)] at h; cases h
    · rw [zu_num_1 h3] at h; cases h
theorem zu_adv_num {t : Nat → Int32} {n e0 : Nat} {lo hi : Int32} {k : Nat} {r : zuR} (h : zu_adv t n e0 r) : zu_adv t n e0 (zu_num (zw_T t n) lo hi k r) := by
  intro q w z
  obtain ⟨q0, w0, x, rfl, rfl, _, _, _⟩ := zu_num_inr z
  exact zu_adv_nx (h q0 w0 rfl)
theorem zu_adv_set {t : Nat → Int32} {n e0 k : Nat} {f : zuW → Int32} {r : zuR} (h : zu_adv t n e0 r) : zu_adv t n e0 (zu_set k f r) := by
  intro q w z
  match r, h, z with
  | .inl e, _, z => cases z
  | .inr (q0, w0), h, z => cases z; exact h q w0 rfl
theorem zu_adv_go {t : Nat → Int32} {n : Nat} {q : zuK} {w : zuW} (h : q.2.2.1 ≤ n) : zu_adv t n q.2.2.1 (zu_go (zw_T t n) (.inr (q, w))) := by
  intro q1 w1 z
  cases z
  exact ⟨_, Nat.le_refl _, h, rfl⟩
theorem zu_adv_bars {t : Nat → Int32} {n e0 c : Nat} : ∀ {f : Nat} {q : zuK} {w : zuW}, (∃ a, e0 ≤ a ∧ a ≤ n ∧ q = zw_T t n a) → zu_adv t n e0 (zu_bars (zw_T t n) c f q w)
  | 0, q, w, _ => fun q1 w1 z => by cases z
  | f + 1, q, w, h => by
    intro q1 w1 z
    rw [zu_bars] at z
    split at z
    · split at z
      · cases z
      · exact zu_adv_bars (zu_adv_nx h) q1 w1 z
    · cases z; exact h
theorem zu_adv_not {t : Nat → Int32} {n e0 c : Nat} {W : zuK → Nat → Bool} {r : zuR} (h : zu_adv t n e0 r) : zu_adv t n e0 (zu_not (zw_T t n) W c r) := by
  intro q w z
  match r, h, z with
  | .inl e, _, z => cases z
  | .inr (q0, w0), h, z =>
    have z : (if W q0 4 = true then zu_bar1 (zw_T t n) c (zw_T t n q0.2.2.1) w0 else .inr (q0, w0)) = .inr (q, w) := z
    split at z
    · unfold zu_bar1 at z
      split at z
      · exact zu_adv_bars (zu_adv_nx (h q0 w0 rfl)) q w z
      · cases z
    · cases z; exact h q w rfl
theorem zu_adv_inl {t : Nat → Int32} {n e0 : Nat} {e : Nat × Nat} : zu_adv t n e0 (.inl e) := fun q w z => by cases z
theorem zu_adv_line {t : Nat → Int32} {n : Nat} {W : zuK → Nat → Bool} {q : zuK} {w : zuW} (h : q.2.2.1 ≤ n) : zu_adv t n q.2.2.1 (zu_line (zw_T t n) W q w) := by
  unfold zu_line
  split
  · unfold zu_court
    split
    · exact zu_adv_set (zu_adv_num (zu_adv_num (zu_adv_num (zu_adv_num (zu_adv_num (zu_adv_go h))))))
    · exact zu_adv_inl
  · split
    · unfold zu_judge
      split
      · exact zu_adv_inl
      · exact zu_adv_set (zu_adv_num (zu_adv_go h))
    · split
      · unfold zu_case
        split
        · exact zu_adv_inl
        · exact zu_adv_set (zu_adv_set (zu_adv_not (zu_adv_num (zu_adv_go h))))
      · split
        · unfold zu_senior
          split
          · exact zu_adv_inl
          · exact zu_adv_num (zu_adv_go h)
        · exact zu_adv_inl
theorem zu_adv_sign {t : Nat → Int32} {n e0 : Nat} {r : zuR} {q : zuK} {w : zuW} (h : zu_adv t n e0 r) (z : zu_sign (zw_T t n) r = .inr (q, w)) : e0 < q.2.2.1 ∧ q.2.2.1 ≤ n ∧ ∃ q0, r = .inr (q0, w) := by
  match r, h, z with
  | .inl e, _, z => cases z
  | .inr (q0, w0), h, z =>
    by_cases h4 : q0.1 = 4
    · rw [zu_sign_4 h4] at z; cases z
      obtain ⟨a, a1, a2, rfl⟩ := h q0 w rfl
      have hz := zw_tok_e (zw_T_tok t a2)
      have hy := zw_tok_e (zw_T_tok t hz.2.1)
      have := hz.2.2.2 (by rw [h4]; decide)
      exact ⟨by omega, hy.2.1, _, rfl⟩
    · rw [zu_sign_1 h4] at z; cases z
/-- what a row of a TEXT keeps to -/
def zu_wf (w : zuW) (J C : Nat) : Prop := J ≤ 9 ∧ C ≤ 14 ∧ w 7 = nI J ∧ w 18 = nI C ∧ 0 ≤ w 6 ∧ (∀ c, C ≤ c → c < 14 → w (33 + c) = 0) ∧ (∃ u, u ≤ 20 ∧ w 0 = nI u) ∧ (∃ m, m ≤ 9 ∧ w 1 = nI m) ∧ (∃ m, m ≤ 9 ∧ w 2 = nI m) ∧ (∃ m, m ≤ 9 ∧ w 3 = nI m) ∧ w 5 = w 4 ∧ w 17 = 0 ∧ (∀ c, c < C → w (47 + c) = w (33 + c)) ∧ (∀ c, c < C → ∃ m, m ≤ 9 ∧ w (19 + c) = nI m) ∧ (∀ c, c < 14 → w (61 + c) = 0 ∧ w (75 + c) = 0) ∧ ∀ j, j < J → 1 ≤ w (8 + j)
theorem zu_wf.jc {w : zuW} {J C : Nat} (h : zu_wf w J C) : zu_jc w := ⟨J, C, h.1, h.2.1, h.2.2.1, h.2.2.2.1, h.2.2.2.2.1, h.2.2.2.2.2.1⟩
theorem zu_wf0 : zu_wf (fun _ => 0) 0 0 := ⟨by decide, by decide, rfl, rfl, by decide, fun _ _ _ => rfl, ⟨0, by decide, rfl⟩, ⟨0, by decide, rfl⟩, ⟨0, by decide, rfl⟩, ⟨0, by decide, rfl⟩, rfl, rfl, fun _ h => absurd h (Nat.not_lt_zero _), fun _ h => absurd h (Nat.not_lt_zero _), fun _ _ => ⟨rfl, rfl⟩, fun _ h => absurd h (Nat.not_lt_zero _)⟩
theorem zu_rng {x M : Int32} {n : Nat} (hM : M.toInt = n) (h0 : 0 ≤ x) (h1 : x ≤ M) : ∃ m, m ≤ n ∧ x = nI m := nI_of2 hM (Int32.not_lt.mpr h0) h1
theorem zu_court_wf {T : Nat → zuK} {W : zuK → Nat → Bool} {q q1 : zuK} {w w1 : zuW} {J C : Nat} (h : zu_wf w J C) (z : zu_court T W q w = .inr (q1, w1)) : zu_wf w1 J C ∧ ¬ w1 0 = 0 := by
  unfold zu_court at z
  split at z
  · obtain ⟨b0, b1, b2, b3, b4, b5, b6, b7, b8, b9, b10, b11, b12, b13, b14, b15⟩ := h
    generalize hr : zu_num T 0 9 3 (zu_num T 0 9 2 (zu_num T 0 9 1 (zu_num T 1 20 0 (zu_num T 0 9999 4 (zu_go T (.inr (q, w))))))) = r at z
    match r, hr, z with
    | .inl e, _, z => cases z
    | .inr (qe, we), hr, z =>
      cases z
      obtain ⟨q5, w5, x5, hr5, _, rfl, l5, u5⟩ := zu_num_inr hr
      obtain ⟨q4, w4, x4, hr4, _, rfl, l4, u4⟩ := zu_num_inr hr5
      obtain ⟨q3, w3, x3, hr3, _, rfl, l3, u3⟩ := zu_num_inr hr4
      obtain ⟨q2, w2, x2, hr2, _, rfl, l2, u2⟩ := zu_num_inr hr3
      obtain ⟨q0, w0, x0, hr0, _, rfl, l0, u0⟩ := zu_num_inr hr2
      cases hr0
      have high : ∀ (y : Int32) k, 6 ≤ k → upd (upd (upd (upd (upd (upd w 4 x0) 0 x2) 1 x3) 2 x4) 3 x5) 5 y k = w k := fun y k hk => by
        (repeat rw [zz_upd_ne _ _ (by omega)])
      refine ⟨⟨b0, b1, ?_, ?_, ?_, fun c c1 c2 => ?_, ?_, ?_, ?_, ?_, rfl, ?_, fun c hc => ?_, fun c hc => ?_, fun c hc => ?_, fun j hj => ?_⟩, ?_⟩
      · exact b2
      · exact b3
      · exact b4
      · rw [high _ _ (by omega)]; exact b5 c c1 c2
      · obtain ⟨m, hm, em⟩ := zu_rng (n := 20) (by decide) (Int32.le_trans (by decide) l2) u2
        exact ⟨m, hm, em⟩
      · exact zu_rng (n := 9) (by decide) l3 u3
      · exact zu_rng (n := 9) (by decide) l4 u4
      · exact zu_rng (n := 9) (by decide) l5 u5
      · exact b11
      · rw [high _ _ (by omega), high _ _ (by omega)]; exact b12 c hc
      · rw [high _ _ (by omega)]; exact b13 c hc
      · rw [high _ _ (by omega), high _ _ (by omega)]; exact b14 c hc
      · rw [high _ _ (by omega)]; exact b15 j hj
      · show ¬ x2 = 0
        intro y; rw [y] at l2; exact absurd l2 (by decide)
  · cases z
theorem zu_judge_wf {T : Nat → zuK} {q q1 : zuK} {w w1 : zuW} {J C : Nat} (h : zu_wf w J C) (hw0 : ¬ w 0 = 0) (z : zu_judge T q w = .inr (q1, w1)) : zu_wf w1 (J + 1) C ∧ ¬ w1 0 = 0 := by
  unfold zu_judge at z
  obtain ⟨b0, b1, b2, b3, b4, b5, b6, b7, b8, b9, b10, b11, b12, b13, b14, b15⟩ := h
  split at z
  · cases z
  · next h9 =>
    have hJ : J < 9 := Nat.lt_of_le_of_ne b0 (fun e => h9 (by rw [b2, e]; rfl))
    rw [b2, nI_clamp (by omega)] at z
    generalize hr : zu_num T 1 99 (8 + J) (zu_go T (.inr (q, w))) = r at z
    match r, hr, z with
    | .inl e, _, z => cases z
    | .inr (qe, we), hr, z =>
      cases z
      obtain ⟨q0, w0, x0, hr0, _, rfl, l0, u0⟩ := zu_num_inr hr
      cases hr0
      have oth : ∀ (y : Int32) k, k ≠ 7 → k ≠ 8 + J → upd (upd w (8 + J) x0) 7 y k = w k := fun y k h1 h2 => by rw [zz_upd_ne _ _ h1, zz_upd_ne _ _ h2]
      refine ⟨⟨hJ, b1, ?_, ?_, ?_, fun c c1 c2 => ?_, ?_, ?_, ?_, ?_, ?_, ?_, fun c hc => ?_, fun c hc => ?_, fun c hc => ?_, fun j hj => ?_⟩, ?_⟩
      · rw [zz_upd_at]
        show upd w (8 + J) x0 7 + 1 = nI (J + 1)
        rw [zz_upd_ne _ _ (by omega), b2, nI_1]
      · rw [oth _ _ (by omega) (by omega)]; exact b3
      · rw [oth _ _ (by omega) (by omega)]; exact b4
      · rw [oth _ _ (by omega) (by omega)]; exact b5 c c1 c2
      · rw [oth _ _ (by omega) (by omega)]; exact b6
      · rw [oth _ _ (by omega) (by omega)]; exact b7
      · rw [oth _ _ (by omega) (by omega)]; exact b8
      · rw [oth _ _ (by omega) (by omega)]; exact b9
      · rw [oth _ _ (by omega) (by omega), oth _ _ (by omega) (by omega)]; exact b10
      · rw [oth _ _ (by omega) (by omega)]; exact b11
      · rw [oth _ _ (by omega) (by omega), oth _ _ (by omega) (by omega)]; exact b12 c hc
      · rw [oth _ _ (by omega) (by omega)]; exact b13 c hc
      · rw [oth _ _ (by omega) (by omega), oth _ _ (by omega) (by omega)]; exact b14 c hc
      · by_cases e : j = J
        · rw [e, zz_upd_ne _ _ (by omega), zz_upd_at]; exact l0
        · rw [oth _ _ (by omega) (by omega)]; exact b15 j (by omega)
      · rw [oth _ _ (by omega) (by omega)]; exact hw0
theorem zu_senior_wf {T : Nat → zuK} {q q1 : zuK} {w w1 : zuW} {J C : Nat} (h : zu_wf w J C) (hw0 : ¬ w 0 = 0) (z : zu_senior T q w = .inr (q1, w1)) : zu_wf w1 J C ∧ ¬ w1 0 = 0 := by
  unfold zu_senior at z
  obtain ⟨b0, b1, b2, b3, b4, b5, b6, b7, b8, b9, b10, b11, b12, b13, b14, b15⟩ := h
  split at z
  · cases z
  · obtain ⟨q0, w0, x0, hr0, _, rfl, l0, u0⟩ := zu_num_inr z
    cases hr0
    have oth : ∀ k, k ≠ 6 → upd w 6 x0 k = w k := fun k h1 => zz_upd_ne _ _ h1
    refine ⟨⟨b0, b1, b2, b3, ?_, fun c c1 c2 => ?_, b6, b7, b8, b9, b10, b11, fun c hc => ?_, fun c hc => ?_, fun c hc => ?_, fun j hj => ?_⟩, hw0⟩
    · rw [zz_upd_at]; exact Int32.le_trans (by decide) l0
    · rw [oth _ (by omega)]; exact b5 c c1 c2
    · rw [oth _ (by omega), oth _ (by omega)]; exact b12 c hc
    · rw [oth _ (by omega)]; exact b13 c hc
    · rw [oth _ (by omega), oth _ (by omega)]; exact b14 c hc
    · rw [oth _ (by omega)]; exact b15 j hj
theorem zu_case_wf {T : Nat → zuK} {W : zuK → Nat → Bool} {q q1 : zuK} {w w1 : zuW} {J C : Nat} (h : zu_wf w J C) (hw0 : ¬ w 0 = 0) (z : zu_case T W q w = .inr (q1, w1)) : zu_wf w1 J (C + 1) ∧ ¬ w1 0 = 0 := by
  unfold zu_case at z
  obtain ⟨b0, b1, b2, b3, b4, b5, b6, b7, b8, b9, b10, b11, b12, b13, b14, b15⟩ := h
  split at z
  · cases z
  · next h9 =>
    have hC : C < 14 := Nat.lt_of_le_of_ne b1 (fun e => h9 (by rw [b3, e]; rfl))
    rw [b3, nI_clamp (by omega)] at z
    have key : ∃ x y, w1 = zu_cw w C x y ∧ (1 : Int32) ≤ x ∧ x ≤ 9 := by
      generalize hr : zu_num T 1 9 (19 + C) (zu_go T (.inr (q, w))) = r at z
      match r, hr, z with
      | .inl e, _, z => cases z
      | .inr (qe, we), hr, z =>
        obtain ⟨q0, w0, x0, hr0, _, rfl, l0, u0⟩ := zu_num_inr hr
        cases hr0
        generalize hr2 : zu_not T W C (.inr (qe, upd w (19 + C) x0)) = r2 at z
        match r2, hr2, z with
        | .inl e, _, z => cases z
        | .inr (qf, wf), hr2, z =>
          have hy : ∃ y, wf = upd (upd w (19 + C) x0) (33 + C) y := by
            have hr2 : (if W qe 4 = true then zu_bar1 T C (T qe.2.2.1) (upd w (19 + C) x0) else .inr (qe, upd w (19 + C) x0)) = .inr (qf, wf) := hr2
            split at hr2
            · unfold zu_bar1 at hr2
              split at hr2
              · exact zu_bars_w hr2
              · cases hr2
            · cases hr2; exact ⟨_, (zu_upd_self rfl).symm⟩
          obtain ⟨y, rfl⟩ := hy
          rw [zu_cw_eq hC b3] at z
          cases z
          exact ⟨x0, y, rfl, l0, u0⟩
    obtain ⟨x, y, rfl, l0, u0⟩ := key
    have low : ∀ k, k < 18 → zu_cw w C x y k = w k := fun k hk => zu_cw_at w x y (by omega) (by omega) (by omega) (by omega)
    refine ⟨⟨b0, hC, ?_, zu_cw_18 w x y, ?_, fun c c1 c2 => ?_, ?_, ?_, ?_, ?_, ?_, ?_, fun c hc => ?_, fun c hc => ?_, fun c hc => ?_, fun j hj => ?_⟩, ?_⟩
    · rw [low _ (by omega)]; exact b2
    · rw [low _ (by omega)]; exact b4
    · rw [zu_cw_at w x y (by omega) (by omega) (by omega) (by omega)]; exact b5 c (by omega) c2
    · rw [low _ (by omega)]; exact b6
    · rw [low _ (by omega)]; exact b7
    · rw [low _ (by omega)]; exact b8
    · rw [low _ (by omega)]; exact b9
    · rw [low _ (by omega), low _ (by omega)]; exact b10
    · rw [low _ (by omega)]; exact b11
    · by_cases e : c = C
      · rw [e, zu_cw_47, zu_cw_33 w hC]
      · rw [zu_cw_at w x y (by omega) (by omega) (by omega) (by omega), zu_cw_at w x y (by omega) (by omega) (by omega) (by omega)]; exact b12 c (by omega)
    · by_cases e : c = C
      · rw [e, zu_cw_19 w hC]; exact zu_rng (n := 9) (by decide) (Int32.le_trans (by decide) l0) u0
      · rw [zu_cw_at w x y (by omega) (by omega) (by omega) (by omega)]; exact b13 c (by omega)
    · rw [zu_cw_at w x y (by omega) (by omega) (by omega) (by omega), zu_cw_at w x y (by omega) (by omega) (by omega) (by omega)]; exact b14 c hc
    · rw [low _ (by omega)]; exact b15 j hj
    · rw [low _ (by omega)]; exact hw0
theorem zu_line_wf {T : Nat → zuK} {W : zuK → Nat → Bool} {q q1 : zuK} {w w1 : zuW} {J C : Nat} (h : zu_wf w J C) (z : zu_line T W q w = .inr (q1, w1)) : ∃ J1 C1, zu_wf w1 J1 C1 ∧ ¬ w1 0 = 0 := by
  unfold zu_line at z
  split at z
  · exact ⟨J, C, zu_court_wf h z⟩
  · next hw0 =>
    split at z
    · exact ⟨_, _, zu_judge_wf h hw0 z⟩
    · split at z
      · exact ⟨_, _, zu_case_wf h hw0 z⟩
      · split at z
        · exact ⟨_, _, zu_senior_wf h hw0 z⟩
        · cases z
