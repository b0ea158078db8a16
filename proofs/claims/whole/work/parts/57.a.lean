-- the reader, told once for both sides: TOKENs by place, words, what a TEXT says as a row of the reference
abbrev zuK : Type := Nat × Nat × Nat × Int32
abbrev zuW : Type := Nat → Int32
abbrev zuR : Type := (Nat × Nat) ⊕ (zuK × zuW)
noncomputable def zw_T (t : Nat → Int32) (n a : Nat) : zuK := Classical.epsilon (fun q : zuK => zw_tok t n a q.1 q.2.1 q.2.2.1 q.2.2.2)
theorem zw_T_of {t : Nat → Int32} {n a K s e : Nat} {v : Int32} (h : zw_tok t n a K s e v) : zw_tok t n a (zw_T t n a).1 (zw_T t n a).2.1 (zw_T t n a).2.2.1 (zw_T t n a).2.2.2 ∧ (zw_T t n a).1 = K ∧ (zw_T t n a).2.1 = s ∧ (zw_T t n a).2.2.1 = e ∧ (K = 3 → (zw_T t n a).2.2.2 = v) := by
  have hex : ∃ q : zuK, zw_tok t n a q.1 q.2.1 q.2.2.1 q.2.2.2 := ⟨(K, s, e, v), h⟩
  have hsp : zw_tok t n a (zw_T t n a).1 (zw_T t n a).2.1 (zw_T t n a).2.2.1 (zw_T t n a).2.2.2 := Classical.epsilon_spec (p := fun q : zuK => zw_tok t n a q.1 q.2.1 q.2.2.1 q.2.2.2) hex
  obtain ⟨u1, u2, u3, u4⟩ := zw_tok_un h hsp
  exact ⟨hsp, u1.symm, u2.symm, u3.symm, fun z => (u4 z).symm⟩
theorem zw_x_sym {t t' : Nat → Int32} {n : Nat} (h : zw_r t t' n) : zw_r t' t n := fun i hi => by
  rcases h i hi with e | ⟨e1, e2⟩
  · exact Or.inl e.symm
  · exact Or.inr ⟨e2, e1⟩
theorem zw_T_c {t t' : Nat → Int32} {n : Nat} (hr : zw_r t t' n) : zw_T t n = zw_T t' n := by
  funext a
  have e : (fun q : zuK => zw_tok t n a q.1 q.2.1 q.2.2.1 q.2.2.2) = (fun q : zuK => zw_tok t' n a q.1 q.2.1 q.2.2.1 q.2.2.2) := by
    funext q
    exact propext ⟨fun z => zw_tok_c hr z, fun z => zw_tok_c (zw_x_sym hr) z⟩
  unfold zw_T
  rw [e]
theorem zw_dig_nI {x : Int32} (h : zw_dig x = true) : ∃ d, d < 10 ∧ x = nI (48 + d) := by
  unfold zw_dig at h
  rw [Bool.and_eq_true] at h
  have h1 := of_decide_eq_true h.1
  have h2 := of_decide_eq_true h.2
  have h0 : ¬ x < 0 := Int32.not_lt.mpr (Int32.le_trans (by decide) h1)
  obtain ⟨j, hj, rfl⟩ := nI_of h0
  have h3 : 48 ≤ j := (nI_leI (a := 48) (by omega) hj).mp h1
  have h4 : j ≤ 57 := (nI_leI (b := 57) hj (by omega)).mp h2
  exact ⟨j - 48, by omega, by rw [show 48 + (j - 48) = j by omega]⟩
theorem zw_let_nI {x : Int32} (h : zw_let x = true) : ∃ d, 1 ≤ d ∧ d ≤ 26 ∧ x = nI (96 + d) := by
  unfold zw_let at h
  rw [Bool.and_eq_true] at h
  have h1 := of_decide_eq_true h.1
  have h2 := of_decide_eq_true h.2
  have h0 : ¬ x < 0 := Int32.not_lt.mpr (Int32.le_trans (by decide) h1)
  obtain ⟨j, hj, rfl⟩ := nI_of h0
  have h3 : 97 ≤ j := (nI_leI (a := 97) (by omega) hj).mp h1
  have h4 : j ≤ 122 := (nI_leI (b := 122) hj (by omega)).mp h2
  exact ⟨j - 96, by omega, by omega, by rw [show 96 + (j - 96) = j by omega]⟩
theorem zw_val_nI {t : Nat → Int32} {p : Nat} : ∀ {m : Nat}, (∀ k, k < m → zw_dig (t (p + k)) = true) → ∃ w, w < 10 ^ m ∧ zw_val t p m = nI w
  | 0, _ => ⟨0, by decide, rfl⟩
  | m + 1, h => by
    obtain ⟨w, hw, ew⟩ := zw_val_nI (m := m) (fun k hk => h k (by omega))
    obtain ⟨d, hd, ed⟩ := zw_dig_nI (h m (by omega))
    refine ⟨w * 10 + d, ?_, ?_⟩
    · rw [Nat.pow_succ]; omega
    · rw [zw_val, ew, ed, show (10 : Int32) = nI 10 from rfl, pk_mul, show (48 : Int32) = nI 48 from rfl, zw_sub (p := 48) (j := d) rfl rfl, nI_add]
theorem zw_tok_e {t : Nat → Int32} {n a K s e : Nat} {v : Int32} (h : zw_tok t n a K s e v) : a ≤ e ∧ e ≤ n ∧ s ≤ e ∧ (K ≠ 1 → a < e) := by
  obtain ⟨p, hp, h⟩ := h
  have hpn := hp.2.1
  have hap := hp.1
  have hmin : min n 500 ≤ n := Nat.min_le_left _ _
  rcases h with ⟨a1, a2, a3, a4⟩ | ⟨a1, a2, q, hq, h⟩
  · exact ⟨by omega, by omega, by omega, fun z => absurd a2 z⟩
  · have hqn := hq.2.1
    rcases h with ⟨c1, c2, c3⟩ | ⟨c1, c2, _⟩
    · exact ⟨by omega, by omega, by omega, fun _ => by omega⟩
    · exact ⟨by omega, by omega, by omega, fun _ => by omega⟩
theorem zw_tok_2 {t : Nat → Int32} {n a s e : Nat} {v : Int32} (h : zw_tok t n a 2 s e v) : s < e ∧ ∀ i, s ≤ i → i < e → zw_let (t i) = true := by
  obtain ⟨p, hp, h⟩ := h
  rcases h with ⟨a1, a2, a3, a4⟩ | ⟨a1, rfl, q, hq, h⟩
  · exact absurd a2 (by decide)
  · rcases h with ⟨c1, c2, c3⟩ | ⟨c1, rfl, h⟩
    · exfalso; split at c2 <;> exact absurd c2 (by decide)
    · rcases h with ⟨e1, _⟩ | ⟨_, _, e3, _⟩ | ⟨_, _, e3⟩
      · refine ⟨c1, fun i i1 i2 => ?_⟩
        have h1 := hq.2.2.1 i i1 i2
        unfold zw_an at h1
        rw [e1 i i1 i2, Bool.or_false] at h1; exact h1
      · exact absurd e3 (by decide)
      · exact absurd e3 (by decide)
theorem zw_tok_3 {t : Nat → Int32} {n a s e : Nat} {v : Int32} (h : zw_tok t n a 3 s e v) : ∃ w, w < 10000 ∧ v = nI w := by
  obtain ⟨p, hp, h⟩ := h
  rcases h with ⟨a1, a2, a3, a4⟩ | ⟨a1, rfl, q, hq, h⟩
  · exact absurd a2 (by decide)
  · rcases h with ⟨c1, c2, c3⟩ | ⟨c1, rfl, h⟩
    · exfalso; split at c2 <;> exact absurd c2 (by decide)
    · rcases h with ⟨_, e3⟩ | ⟨e1, e2, e3, rfl⟩ | ⟨_, _, e3⟩
      · exact absurd e3 (by decide)
      · obtain ⟨w, hw, ew⟩ := zw_val_nI (t := t) (p := s) (m := e - s) (fun k hk => e1 (s + k) (by omega) (by omega))
        refine ⟨w, Nat.lt_of_lt_of_le hw ?_, ew⟩
        exact Nat.pow_le_pow_right (n := 10) (by decide) (show e - s ≤ 4 from e2)
      · exact absurd e3 (by decide)
/-- a TOKEN of the tape -/
def zu_tk (t : Nat → Int32) (n : Nat) (q : zuK) : Prop := ∃ a, a ≤ n ∧ zw_tok t n a q.1 q.2.1 q.2.2.1 q.2.2.2
/-- whether it is the i-th word (court, judge, senior, case, not) -/
def zu_is (t : Nat → Int32) (q : zuK) (i : Nat) : Bool := decide (q.1 = 2) && (decide (q.2.2.1 - q.2.1 = (zj_sbyt.getD i []).length) && decide (∀ k, k < (zj_sbyt.getD i []).length → t (q.2.1 + k) = (zj_sbyt.getD i []).getD k 0))
def zu_bind (r : zuR) (f : zuK → zuW → zuR) : zuR := match r with
  | .inl e => .inl e
  | .inr (q, w) => f q w
def zu_go (T : Nat → zuK) (r : zuR) : zuR := zu_bind r (fun q w => .inr (T q.2.2.1, w))
def zu_num (T : Nat → zuK) (lo hi : Int32) (k : Nat) (r : zuR) : zuR := zu_bind r (fun q w => if q.1 = 3 then (if (decide (lo ≤ q.2.2.2) && decide (q.2.2.2 ≤ hi)) = true then .inr (T q.2.2.1, upd w k q.2.2.2) else .inl (2, q.2.1)) else .inl (1, q.2.1))
def zu_set (k : Nat) (f : zuW → Int32) (r : zuR) : zuR := zu_bind r (fun q w => .inr (q, upd w k (f w)))
def zu_court (T : Nat → zuK) (W : zuK → Nat → Bool) (q : zuK) (w : zuW) : zuR := if W q 0 = true then zu_set 5 (fun w => w 4) (zu_num T 0 9 3 (zu_num T 0 9 2 (zu_num T 0 9 1 (zu_num T 1 20 0 (zu_num T 0 9999 4 (zu_go T (.inr (q, w)))))))) else .inl (1, q.2.1)
def zu_judge (T : Nat → zuK) (q : zuK) (w : zuW) : zuR := if w 7 = 9 then .inl (3, q.2.1) else zu_set 7 (fun w => w 7 + 1) (zu_num T 1 99 (8 + (w 7).toNatClampNeg) (zu_go T (.inr (q, w))))
def zu_senior (T : Nat → zuK) (q : zuK) (w : zuW) : zuR := if 0 < w 6 then .inl (3, q.2.1) else zu_num T 1 99 6 (zu_go T (.inr (q, w)))
def zu_bars (T : Nat → zuK) (c : Nat) : Nat → zuK → zuW → zuR
  | 0, _, _ => .inl (0, 0)
  | f + 1, q, w => if q.1 = 3 then (if (decide (w 7 ≤ q.2.2.2) || bt (w (33 + c)) q.2.2.2.toNatClampNeg) = true then .inl (4, q.2.1) else zu_bars T c f (T q.2.2.1) (upd w (33 + c) (w (33 + c) ||| zz_bit q.2.2.2.toNatClampNeg))) else .inr (q, w)
def zu_bar1 (T : Nat → zuK) (c : Nat) (q : zuK) (w : zuW) : zuR := if q.1 = 3 then zu_bars T c 10 q w else .inl (1, q.2.1)
def zu_not (T : Nat → zuK) (W : zuK → Nat → Bool) (c : Nat) (r : zuR) : zuR := zu_bind r (fun q w => if W q 4 = true then zu_bar1 T c (T q.2.2.1) w else .inr (q, w))
def zu_case (T : Nat → zuK) (W : zuK → Nat → Bool) (q : zuK) (w : zuW) : zuR := if w 18 = 14 then .inl (3, q.2.1) else
  zu_set 18 (fun w => w 18 + 1) (zu_set (47 + (w 18).toNatClampNeg) (fun u => u (33 + (w 18).toNatClampNeg)) (zu_not T W (w 18).toNatClampNeg (zu_num T 1 9 (19 + (w 18).toNatClampNeg) (zu_go T (.inr (q, w))))))
def zu_line (T : Nat → zuK) (W : zuK → Nat → Bool) (q : zuK) (w : zuW) : zuR := if w 0 = 0 then zu_court T W q w else if W q 1 = true then zu_judge T q w else if W q 3 = true then zu_case T W q w else if W q 2 = true then zu_senior T q w else .inl (1, q.2.1)
def zu_sign (T : Nat → zuK) (r : zuR) : zuR := zu_bind r (fun q w => if q.1 = 4 then .inr (T q.2.2.1, w) else .inl (1, q.2.1))
def zu_lines (T : Nat → zuK) (W : zuK → Nat → Bool) (n : Nat) : Nat → Nat → zuR → (Nat × Nat) ⊕ (Nat × zuW)
  | 0, _, _ => .inl (0, 0)
  | f + 1, l, r => match r with
    | .inl e => .inl e
    | .inr (q, w) => if q.1 = 1 then (if 500 < n then .inl (1, q.2.1) else .inr (l, w)) else zu_lines T W n f (l + 1) (zu_sign T (zu_line T W q w))
def zu_text (T : Nat → zuK) (W : zuK → Nat → Bool) (n : Nat) : (Nat × Nat) ⊕ (Nat × zuW) := zu_lines T W n (n + 2) 0 (.inr (T 0, fun _ => 0))
theorem zu_is_t {t : Nat → Int32} {q : zuK} {i : Nat} : zu_is t q i = true ↔ q.1 = 2 ∧ q.2.2.1 - q.2.1 = (zj_sbyt.getD i []).length ∧ ∀ k, k < (zj_sbyt.getD i []).length → t (q.2.1 + k) = (zj_sbyt.getD i []).getD k 0 := by
  unfold zu_is
  rw [Bool.and_eq_true, Bool.and_eq_true, decide_eq_true_iff, decide_eq_true_iff, decide_eq_true_iff]
theorem zu_is_f {t : Nat → Int32} {q : zuK} {i : Nat} (h : ¬ (q.1 = 2 ∧ q.2.2.1 - q.2.1 = (zj_sbyt.getD i []).length ∧ ∀ k, k < (zj_sbyt.getD i []).length → t (q.2.1 + k) = (zj_sbyt.getD i []).getD k 0)) : zu_is t q i = false := by
  cases hz : zu_is t q i with
  | false => rfl
  | true => exact absurd (zu_is_t.mp hz) h
theorem zu_is_23 {t : Nat → Int32} {q : zuK} (h : zu_is t q 2 = true) : zu_is t q 3 = false := zu_is_f (fun z => by
  have h1 := (zu_is_t.mp h).2.1
  have h2 := z.2.1
  rw [h1] at h2
  exact absurd h2 (by decide))
theorem zu_lets : ∀ i, i < 5 → ∀ k, k < (zj_sbyt.getD i []).length → zw_let ((zj_sbyt.getD i []).getD k 0) = true := by decide +kernel
theorem zu_is_c {t t' : Nat → Int32} {n : Nat} {q : zuK} {i : Nat} (hr : zw_r t t' n) (he : q.2.2.1 ≤ n) (hi : i < 5) : zu_is t q i = zu_is t' q i := by
  have key : ∀ (u u' : Nat → Int32), zw_r u u' n → zu_is u q i = true → zu_is u' q i = true := by
    intro u u' hu hz
    obtain ⟨z1, z2, z3⟩ := zu_is_t.mp hz
    refine zu_is_t.mpr ⟨z1, z2, fun k hk => ?_⟩
    have h1 := z3 k hk
    rw [← zw_r_at hu (show q.2.1 + k < n by omega) (by unfold zw_an; rw [h1, zu_lets i hi k hk]; rfl)]
    exact h1
  cases h1 : zu_is t q i with
  | true => exact (key t t' hr h1).symm
  | false =>
    cases h2 : zu_is t' q i with
    | false => rfl
    | true => rw [key t' t (zw_x_sym hr) h2] at h1; cases h1
