/-- from a on as far as p holds: up to e -/
def zw_e (p : Nat → Bool) (n a e : Nat) : Prop := a ≤ e ∧ e ≤ n ∧ (∀ k, a ≤ k → k < e → p k = true) ∧ (e < n → p e = false)
theorem zw_e_un {p : Nat → Bool} {n a e e' : Nat} (h : zw_e p n a e) (h' : zw_e p n a e') : e = e' := by
  obtain ⟨a1, a2, a3, a4⟩ := h
  obtain ⟨b1, b2, b3, b4⟩ := h'
  rcases Nat.lt_trichotomy e e' with h | h | h
  · have := b3 e a1 h; rw [a4 (by omega)] at this; cases this
  · exact h
  · have := a3 e' b1 h; rw [b4 (by omega)] at this; cases this
def zw_an (t : Nat → Int32) (i : Nat) : Bool := zw_let (t i) || zw_dig (t i)
def zw_val (t : Nat → Int32) (p : Nat) : Nat → Int32
  | 0 => 0
  | m + 1 => zw_val t p m * 10 + (t (p + m) - 48)
/-- the TOKEN from a on: its kind K (0 none, 1 end, 2 word, 3 number, 4 sign), from s to e, its value -/
def zw_tok (t : Nat → Int32) (n a K s e : Nat) (v : Int32) : Prop :=
  ∃ p, zw_e (fun i => zw_bl (t i)) n a p ∧
   ((min n 500 ≤ p ∧ K = 1 ∧ s = min n 500 ∧ e = p) ∨
    (p < min n 500 ∧ s = p ∧ ∃ q, zw_e (zw_an t) n p q ∧
      ((q = p ∧ K = (if t p = 59 then 4 else 0) ∧ e = p + 1) ∨
       (p < q ∧ e = q ∧ (((∀ i, p ≤ i → i < q → zw_dig (t i) = false) ∧ K = 2) ∨
         ((∀ i, p ≤ i → i < q → zw_dig (t i) = true) ∧ q - p ≤ 4 ∧ K = 3 ∧ v = zw_val t p (q - p)) ∨
         ((¬ ∀ i, p ≤ i → i < q → zw_dig (t i) = false) ∧ (¬ ((∀ i, p ≤ i → i < q → zw_dig (t i) = true) ∧ q - p ≤ 4)) ∧ K = 0))))))
theorem zw_dig_of {x : Int32} (h : (zw_let x || zw_dig x) = true) (hx : ¬ 57 < x) : zw_dig x = true := by
  cases hl : zw_let x with
  | false => rw [hl, Bool.false_or] at h; exact h
  | true =>
    exfalso
    unfold zw_let at hl
    rw [Bool.and_eq_true] at hl
    exact hx (Int32.lt_of_lt_of_le (by decide) (of_decide_eq_true hl.1))
theorem zw_cnt0 {p : Nat → Bool} : ∀ {n : Nat}, zc_cnt p n = 0 → ∀ i, i < n → p i = false
  | 0, _, i, hi => absurd hi (Nat.not_lt_zero i)
  | n + 1, h, i, hi => by
    unfold zc_cnt at h
    by_cases e : i = n
    · subst e
      cases hp : p i with
      | false => rfl
      | true => rw [hp] at h; simp at h
    · exact zw_cnt0 (n := n) (by omega) i (by omega)
theorem zw_cntN {p : Nat → Bool} : ∀ {n : Nat}, zc_cnt p n = n → ∀ i, i < n → p i = true
  | 0, _, i, hi => absurd hi (Nat.not_lt_zero i)
  | n + 1, h, i, hi => by
    have hle := zc_cnt_le p n
    unfold zc_cnt at h
    cases hp : p n with
    | false => rw [hp] at h; simp at h; omega
    | true =>
      rw [hp] at h
      by_cases e : i = n
      · rw [e]; exact hp
      · exact zw_cntN (n := n) (by simp at h; omega) i (by omega)
theorem zw_sh {p : Nat → Bool} {b : Bool} {s j : Nat} (h : ∀ k, k < j → p (s + k) = b) : ∀ i, s ≤ i → i < s + j → p i = b := fun i h1 h2 => by
  have := h (i - s) (by omega)
  rw [show s + (i - s) = i by omega] at this; exact this
theorem zw_cnt_z {p : Nat → Bool} : ∀ {n : Nat}, (∀ i, i < n → p i = false) → zc_cnt p n = 0
  | 0, _ => rfl
  | n + 1, h => by unfold zc_cnt; rw [zw_cnt_z (fun i hi => h i (by omega)), h n (by omega)]; rfl
theorem zw_sub {x y : Int32} {p j : Nat} (ex : x = nI (p + j)) (ey : y = nI p) : x - y = nI j := by
  rw [ex, ey, ← nI_add, Int32.add_comm, Int32.add_sub_cancel]
theorem zw_min {x : Int32} {n : Nat} (ex : x = nI n) (hn : n ≤ 540) : (if (500 : Int32) < x then 500 else x) = nI (min n 500) := by
  subst ex
  by_cases h : 500 < n
  · rw [if_pos (show (500 : Int32) < nI n from (nI_ltI (a := 500) (by omega) (by omega)).mpr h), Nat.min_eq_right (by omega)]; rfl
  · rw [if_neg (show ¬ (500 : Int32) < nI n from fun z => h ((nI_ltI (a := 500) (by omega) (by omega)).mp z)), Nat.min_eq_left (by omega)]
set_option maxHeartbeats 4000000 in
set_option maxRecDepth 20000 in
theorem m_X4_step {l : Launch} {E : zj_E} {h : zj_H} {g : zj_G} {n a : Nat} (eL : h 1 1 = nI n) (hn : n ≤ 540) (ea : h 3 5 = nI a) (ha : a ≤ n) : zj_M l E yX4_step cX4_step 3 none 1 [.ref (E.2.1 3)] h g (fun v h' g' => v = none ∧ g' = g ∧ (∀ a, a ≠ 3 → h' a = h a) ∧ (∀ b, (b < 4 ∨ 8 ≤ b) → h' 3 b = h 3 b) ∧ ∃ K s e, zw_tok (h 2) n a K s e (h' 3 7) ∧ h' 3 4 = nI s ∧ h' 3 5 = nI e ∧ h' 3 6 = nI K ∧ e ≤ n) := by
  refine zj_M.of RX4 (by decide) rfl (Nat.le_of_ble_eq_true rfl) ?_
  intro Γ hΓ K Rt
  subst hΓ
  have lp2 : ∀ (p : Nat), p < min n 500 → zw_e (fun i => zw_bl (h 2 i)) n a p → ∀ (m j : Nat) (x1 x2 : Int32) (q : zj_H), n + 1 ≤ p + j + m → p + j ≤ n → (∀ a, a ≠ 3 → q a = h a) → (∀ b, (b < 4 ∨ 8 ≤ b) → q 3 b = h 3 b) → q 3 4 = nI p → q 3 5 = nI (p + j) → x2 = nI (zc_cnt (fun k => zw_dig (h 2 (p + k))) j) → (∀ k, k < j → zw_an (h 2) (p + k) = true) → ((∀ k, k < j → zw_dig (h 2 (p + k)) = true) → q 3 7 = zw_val (h 2) p j) → zj_J E Γ 3 93 [(0, .ref (E.2.1 3)), (1, .int x1), (2, .int x2)] [] q g := by
    intro p hp hpe m
    have hmin : min n 500 ≤ n := Nat.min_le_left _ _
    induction m with
    | zero => intro j x1 x2 q h1 h2; omega
    | succ m ih =>
      intro j x1 x2 q h1 h2 zf1 zf2 e4 e5 ex2 zan zvl
      have eLq : q 1 1 = nI n := by rw [zf1 1 (by decide)]; exact eL
      have eb : q 2 = h 2 := zf1 2 (by decide)
      have hcl := zc_cnt_le (fun k => zw_dig (h 2 (p + k))) j
      refine zj_aload_n (i := 0) (pc := 93) K dX4_step_93 rfl rfl ?_
      refine zj_getI (pc := 94) K lf_X4_32 hs_R rfl dX4_step_94 ?_
      refine zj_aload_n (i := 0) (pc := 97) K dX4_step_97 rfl rfl ?_
      refine zj_getR (pc := 98) K lf_X4_9 hs_R rfl dX4_step_98 ?_
      refine zj_getI (pc := 101) K lf_X4_48 hs_T rfl dX4_step_101 ?_
      refine zj_icmp_ge (tgt := 185) (pc := 104) K dX4_step_104 (by decide) (fun c_104 => ?_) (fun c_104 => ?_)
      · have hn1 : p + j = n := Nat.le_antisymm h2 (zz_ge e5 eLq (by omega) (by omega) c_104)
        have hE : zw_e (zw_an (h 2)) n p (p + j) := ⟨by omega, h2, zw_sh (p := zw_an (h 2)) zan, fun z => by omega⟩
        refine zj_aload_n (i := 0) (pc := 185) K dX4_step_185 rfl rfl ?_
        refine zj_getI (pc := 186) K lf_X4_32 hs_R rfl dX4_step_186 ?_
        refine zj_aload_n (i := 0) (pc := 189) K dX4_step_189 rfl rfl ?_
        refine zj_getI (pc := 190) K lf_X4_135 hs_R rfl dX4_step_190 ?_
        refine zj_icmp_ne (tgt := 235) (pc := 193) K dX4_step_193 (by decide) (fun c_193 => ?_) (fun c_193 => ?_)
        · have hj0 : ¬ j = 0 := fun z => c_193 (by rw [e5, e4, z]; rfl)
          refine zj_iload_n (i := 2) (pc := 235) K dX4_step_235 rfl rfl ?_
          refine zj_if_ne (tgt := 247) (pc := 236) K dX4_step_236 (by decide) (fun c_236 => ?_) (fun c_236 => ?_)
          · have hc0 : ¬ zc_cnt (fun k => zw_dig (h 2 (p + k))) j = 0 := fun z => c_236 (by rw [ex2, z]; rfl)
            have hsome : ¬ ∀ i, p ≤ i → i < p + j → zw_dig (h 2 i) = false := fun z => hc0 (zw_cnt_z (fun k hk => z (p + k) (by omega) (by omega)))
            refine zj_aload_n (i := 0) (pc := 247) K dX4_step_247 rfl rfl ?_
            refine zj_iload_n (i := 2) (pc := 248) K dX4_step_248 rfl rfl ?_
            refine zj_aload_n (i := 0) (pc := 249) K dX4_step_249 rfl rfl ?_
            refine zj_getI (pc := 250) K lf_X4_32 hs_R rfl dX4_step_250 ?_
            refine zj_aload_n (i := 0) (pc := 253) K dX4_step_253 rfl rfl ?_
            refine zj_getI (pc := 254) K lf_X4_135 hs_R rfl dX4_step_254 ?_
            refine zj_isub (pc := 257) K dX4_step_257 ?_
            refine zj_icmp_ne (tgt := 270) (pc := 258) K dX4_step_258 (by decide) (fun c_258 => ?_) (fun c_258 => ?_)
            · rw [zw_sub e5 e4, ex2] at c_258
              have hnot : ¬ ((∀ i, p ≤ i → i < p + j → zw_dig (h 2 i) = true) ∧ p + j - p ≤ 4) := fun z => c_258 (by rw [zc_cnt_all (fun k hk => z.1 (p + k) (by omega) (by omega))])
              refine zj_iconst (v := 0) (pc := 270) K dX4_step_270 (by decide) ?_
              refine zj_putI (pc := 271) K lf_X4_42 hs_R rfl dX4_step_271 ?_
              exact zj_vret K Rt dX4_step_274 (by
                first
                | (refine ⟨rfl, rfl, fun c c1 => by (repeat rw [zj_s_ne _ _ c1]); exact zf1 c c1, fun b hb => by (repeat rw [zj_s_eq]); (repeat rw [zz_upd_ne _ _ (by omega)]); exact zf2 b hb, 4, p, (p + 1), ⟨p, hpe, Or.inr ⟨hp, rfl, p + j, hE, Or.inl ⟨by omega, by rw [if_pos h59], rfl⟩⟩⟩, ?_, ?_, ?_, by omega⟩
                   · (repeat rw [zj_s_eq]); (repeat rw [zz_upd_ne _ _ (by decide)]); exact e4
                   · (repeat rw [zj_s_eq]); rw [zz_upd_at, zz_upd_ne _ _ (by decide), e5, show p + j = p by omega, nI_1]
                   · (repeat rw [zj_s_eq]); exact (zz_upd_ne _ _ (by decide)).trans (zz_upd_at _ _ _))
                | (refine ⟨rfl, rfl, fun c c1 => by (repeat rw [zj_s_ne _ _ c1]); exact zf1 c c1, fun b hb => by (repeat rw [zj_s_eq]); (repeat rw [zz_upd_ne _ _ (by omega)]); exact zf2 b hb, 0, p, (p + 1), ⟨p, hpe, Or.inr ⟨hp, rfl, p + j, hE, Or.inl ⟨by omega, by rw [if_neg hn59], rfl⟩⟩⟩, ?_, ?_, ?_, by omega⟩
                   · (repeat rw [zj_s_eq]); (repeat rw [zz_upd_ne _ _ (by decide)]); exact e4
                   · (repeat rw [zj_s_eq]); rw [zz_upd_at, zz_upd_ne _ _ (by decide), e5, show p + j = p by omega, nI_1]
                   · (repeat rw [zj_s_eq]); exact (zz_upd_ne _ _ (by decide)).trans (zz_upd_at _ _ _))
                | (refine ⟨rfl, rfl, fun c c1 => by (repeat rw [zj_s_ne _ _ c1]); exact zf1 c c1, fun b hb => by (repeat rw [zj_s_eq]); (repeat rw [zz_upd_ne _ _ (by omega)]); exact zf2 b hb, 2, p, (p + j), ⟨p, hpe, Or.inr ⟨hp, rfl, p + j, hE, Or.inr ⟨by omega, rfl, Or.inl ⟨zw_sh (p := fun i => zw_dig (h 2 i)) hall0, rfl⟩⟩⟩⟩, ?_, ?_, ?_, by omega⟩
                   · (repeat rw [zj_s_eq]); (repeat rw [zz_upd_ne _ _ (by decide)]); exact e4
                   · (repeat rw [zj_s_eq]); (repeat rw [zz_upd_ne _ _ (by decide)]); exact e5
                   · (repeat rw [zj_s_eq]); exact zz_upd_at _ _ _)
                | (refine ⟨rfl, rfl, fun c c1 => by (repeat rw [zj_s_ne _ _ c1]); exact zf1 c c1, fun b hb => by (repeat rw [zj_s_eq]); (repeat rw [zz_upd_ne _ _ (by omega)]); exact zf2 b hb, 3, p, (p + j), ⟨p, hpe, Or.inr ⟨hp, rfl, p + j, hE, Or.inr ⟨by omega, rfl, Or.inr (Or.inl ⟨zw_sh (p := fun i => zw_dig (h 2 i)) hall1, by omega, rfl, by rw [show p + j - p = j by omega, zj_s_eq, zz_upd_ne _ _ (by decide)]; exact zvl hall1⟩)⟩⟩⟩, ?_, ?_, ?_, by omega⟩
                   · (repeat rw [zj_s_eq]); (repeat rw [zz_upd_ne _ _ (by decide)]); exact e4
                   · (repeat rw [zj_s_eq]); (repeat rw [zz_upd_ne _ _ (by decide)]); exact e5
                   · (repeat rw [zj_s_eq]); exact zz_upd_at _ _ _)
                | (refine ⟨rfl, rfl, fun c c1 => by (repeat rw [zj_s_ne _ _ c1]); exact zf1 c c1, fun b hb => by (repeat rw [zj_s_eq]); (repeat rw [zz_upd_ne _ _ (by omega)]); exact zf2 b hb, 0, p, (p + j), ⟨p, hpe, Or.inr ⟨hp, rfl, p + j, hE, Or.inr ⟨by omega, rfl, Or.inr (Or.inr ⟨hsome, hnot, rfl⟩)⟩⟩⟩, ?_, ?_, ?_, by omega⟩
                   · (repeat rw [zj_s_eq]); (repeat rw [zz_upd_ne _ _ (by decide)]); exact e4
                   · (repeat rw [zj_s_eq]); (repeat rw [zz_upd_ne _ _ (by decide)]); exact e5
                   · (repeat rw [zj_s_eq]); exact zz_upd_at _ _ _))
            · rw [zw_sub e5 e4, ex2] at c_258
              have hcj : zc_cnt (fun k => zw_dig (h 2 (p + k))) j = j := (nI_eq (by omega) (by omega)).mp c_258
              have hall1 : ∀ k, k < j → zw_dig (h 2 (p + k)) = true := zw_cntN hcj
              refine zj_iload_n (i := 2) (pc := 261) K dX4_step_261 rfl rfl ?_
              refine zj_iconst (v := 4) (pc := 262) K dX4_step_262 (by decide) ?_
              refine zj_icmp_gt (tgt := 270) (pc := 263) K dX4_step_263 (by decide) (fun c_263 => ?_) (fun c_263 => ?_)
              · have hnot : ¬ ((∀ i, p ≤ i → i < p + j → zw_dig (h 2 i) = true) ∧ p + j - p ≤ 4) := fun z => by
                  rw [ex2, hcj] at c_263
                  have := (nI_ltI (a := 4) (by omega) (by omega)).mp c_263
                  omega
                refine zj_iconst (v := 0) (pc := 270) K dX4_step_270 (by decide) ?_
                refine zj_putI (pc := 271) K lf_X4_42 hs_R rfl dX4_step_271 ?_
                exact zj_vret K Rt dX4_step_274 (by
                  first
                  | (refine ⟨rfl, rfl, fun c c1 => by (repeat rw [zj_s_ne _ _ c1]); exact zf1 c c1, fun b hb => by (repeat rw [zj_s_eq]); (repeat rw [zz_upd_ne _ _ (by omega)]); exact zf2 b hb, 4, p, (p + 1), ⟨p, hpe, Or.inr ⟨hp, rfl, p + j, hE, Or.inl ⟨by omega, by rw [if_pos h59], rfl⟩⟩⟩, ?_, ?_, ?_, by omega⟩
                     · (repeat rw [zj_s_eq]); (repeat rw [zz_upd_ne _ _ (by decide)]); exact e4
                     · (repeat rw [zj_s_eq]); rw [zz_upd_at, zz_upd_ne _ _ (by decide), e5, show p + j = p by omega, nI_1]
                     · (repeat rw [zj_s_eq]); exact (zz_upd_ne _ _ (by decide)).trans (zz_upd_at _ _ _))
                  | (refine ⟨rfl, rfl, fun c c1 => by (repeat rw [zj_s_ne _ _ c1]); exact zf1 c c1, fun b hb => by (repeat rw [zj_s_eq]); (repeat rw [zz_upd_ne _ _ (by omega)]); exact zf2 b hb, 0, p, (p + 1), ⟨p, hpe, Or.inr ⟨hp, rfl, p + j, hE, Or.inl ⟨by omega, by rw [if_neg hn59], rfl⟩⟩⟩, ?_, ?_, ?_, by omega⟩
                     · (repeat rw [zj_s_eq]); (repeat rw [zz_upd_ne _ _ (by decide)]); exact e4
                     · (repeat rw [zj_s_eq]); rw [zz_upd_at, zz_upd_ne _ _ (by decide), e5, show p + j = p by omega, nI_1]
                     · (repeat rw [zj_s_eq]); exact (zz_upd_ne _ _ (by decide)).trans (zz_upd_at _ _ _))
                  | (refine ⟨rfl, rfl, fun c c1 => by (repeat rw [zj_s_ne _ _ c1]); exact zf1 c c1, fun b hb => by (repeat rw [zj_s_eq]); (repeat rw [zz_upd_ne _ _ (by omega)]); exact zf2 b hb, 2, p, (p + j), ⟨p, hpe, Or.inr ⟨hp, rfl, p + j, hE, Or.inr ⟨by omega, rfl, Or.inl ⟨zw_sh (p := fun i => zw_dig (h 2 i)) hall0, rfl⟩⟩⟩⟩, ?_, ?_, ?_, by omega⟩
                     · (repeat rw [zj_s_eq]); (repeat rw [zz_upd_ne _ _ (by decide)]); exact e4
                     · (repeat rw [zj_s_eq]); (repeat rw [zz_upd_ne _ _ (by decide)]); exact e5
                     · (repeat rw [zj_s_eq]); exact zz_upd_at _ _ _)
                  | (refine ⟨rfl, rfl, fun c c1 => by (repeat rw [zj_s_ne _ _ c1]); exact zf1 c c1, fun b hb => by (repeat rw [zj_s_eq]); (repeat rw [zz_upd_ne _ _ (by omega)]); exact zf2 b hb, 3, p, (p + j), ⟨p, hpe, Or.inr ⟨hp, rfl, p + j, hE, Or.inr ⟨by omega, rfl, Or.inr (Or.inl ⟨zw_sh (p := fun i => zw_dig (h 2 i)) hall1, by omega, rfl, by rw [show p + j - p = j by omega, zj_s_eq, zz_upd_ne _ _ (by decide)]; exact zvl hall1⟩)⟩⟩⟩, ?_, ?_, ?_, by omega⟩
                     · (repeat rw [zj_s_eq]); (repeat rw [zz_upd_ne _ _ (by decide)]); exact e4
                     · (repeat rw [zj_s_eq]); (repeat rw [zz_upd_ne _ _ (by decide)]); exact e5
                     · (repeat rw [zj_s_eq]); exact zz_upd_at _ _ _)
                  | (refine ⟨rfl, rfl, fun c c1 => by (repeat rw [zj_s_ne _ _ c1]); exact zf1 c c1, fun b hb => by (repeat rw [zj_s_eq]); (repeat rw [zz_upd_ne _ _ (by omega)]); exact zf2 b hb, 0, p, (p + j), ⟨p, hpe, Or.inr ⟨hp, rfl, p + j, hE, Or.inr ⟨by omega, rfl, Or.inr (Or.inr ⟨hsome, hnot, rfl⟩)⟩⟩⟩, ?_, ?_, ?_, by omega⟩
                     · (repeat rw [zj_s_eq]); (repeat rw [zz_upd_ne _ _ (by decide)]); exact e4
                     · (repeat rw [zj_s_eq]); (repeat rw [zz_upd_ne _ _ (by decide)]); exact e5
                     · (repeat rw [zj_s_eq]); exact zz_upd_at _ _ _))
              · have hj4 : j ≤ 4 := Nat.le_of_not_lt (fun z => c_263 (by rw [ex2, hcj]; exact (nI_ltI (a := 4) (by omega) (by omega)).mpr z))
                refine zj_iconst (v := 3) (pc := 266) K dX4_step_266 (by decide) ?_
                refine zj_goto (tgt := 271) (pc := 267) K dX4_step_267 (by decide) ?_
                refine zj_putI (pc := 271) K lf_X4_42 hs_R rfl dX4_step_271 ?_
                exact zj_vret K Rt dX4_step_274 (by
                  first
                  | (refine ⟨rfl, rfl, fun c c1 => by (repeat rw [zj_s_ne _ _ c1]); exact zf1 c c1, fun b hb => by (repeat rw [zj_s_eq]); (repeat rw [zz_upd_ne _ _ (by omega)]); exact zf2 b hb, 4, p, (p + 1), ⟨p, hpe, Or.inr ⟨hp, rfl, p + j, hE, Or.inl ⟨by omega, by rw [if_pos h59], rfl⟩⟩⟩, ?_, ?_, ?_, by omega⟩
                     · (repeat rw [zj_s_eq]); (repeat rw [zz_upd_ne _ _ (by decide)]); exact e4
                     · (repeat rw [zj_s_eq]); rw [zz_upd_at, zz_upd_ne _ _ (by decide), e5, show p + j = p by omega, nI_1]
                     · (repeat rw [zj_s_eq]); exact (zz_upd_ne _ _ (by decide)).trans (zz_upd_at _ _ _))
                  | (refine ⟨rfl, rfl, fun c c1 => by (repeat rw [zj_s_ne _ _ c1]); exact zf1 c c1, fun b hb => by (repeat rw [zj_s_eq]); (repeat rw [zz_upd_ne _ _ (by omega)]); exact zf2 b hb, 0, p, (p + 1), ⟨p, hpe, Or.inr ⟨hp, rfl, p + j, hE, Or.inl ⟨by omega, by rw [if_neg hn59], rfl⟩⟩⟩, ?_, ?_, ?_, by omega⟩
                     · (repeat rw [zj_s_eq]); (repeat rw [zz_upd_ne _ _ (by decide)]); exact e4
                     · (repeat rw [zj_s_eq]); rw [zz_upd_at, zz_upd_ne _ _ (by decide), e5, show p + j = p by omega, nI_1]
                     · (repeat rw [zj_s_eq]); exact (zz_upd_ne _ _ (by decide)).trans (zz_upd_at _ _ _))
                  | (refine ⟨rfl, rfl, fun c c1 => by (repeat rw [zj_s_ne _ _ c1]); exact zf1 c c1, fun b hb => by (repeat rw [zj_s_eq]); (repeat rw [zz_upd_ne _ _ (by omega)]); exact zf2 b hb, 2, p, (p + j), ⟨p, hpe, Or.inr ⟨hp, rfl, p + j, hE, Or.inr ⟨by omega, rfl, Or.inl ⟨zw_sh (p := fun i => zw_dig (h 2 i)) hall0, rfl⟩⟩⟩⟩, ?_, ?_, ?_, by omega⟩
                     · (repeat rw [zj_s_eq]); (repeat rw [zz_upd_ne _ _ (by decide)]); exact e4
                     · (repeat rw [zj_s_eq]); (repeat rw [zz_upd_ne _ _ (by decide)]); exact e5
                     · (repeat rw [zj_s_eq]); exact zz_upd_at _ _ _)
                  | (refine ⟨rfl, rfl, fun c c1 => by (repeat rw [zj_s_ne _ _ c1]); exact zf1 c c1, fun b hb => by (repeat rw [zj_s_eq]); (repeat rw [zz_upd_ne _ _ (by omega)]); exact zf2 b hb, 3, p, (p + j), ⟨p, hpe, Or.inr ⟨hp, rfl, p + j, hE, Or.inr ⟨by omega, rfl, Or.inr (Or.inl ⟨zw_sh (p := fun i => zw_dig (h 2 i)) hall1, by omega, rfl, by rw [show p + j - p = j by omega, zj_s_eq, zz_upd_ne _ _ (by decide)]; exact zvl hall1⟩)⟩⟩⟩, ?_, ?_, ?_, by omega⟩
                     · (repeat rw [zj_s_eq]); (repeat rw [zz_upd_ne _ _ (by decide)]); exact e4
                     · (repeat rw [zj_s_eq]); (repeat rw [zz_upd_ne _ _ (by decide)]); exact e5
                     · (repeat rw [zj_s_eq]); exact zz_upd_at _ _ _)
                  | (refine ⟨rfl, rfl, fun c c1 => by (repeat rw [zj_s_ne _ _ c1]); exact zf1 c c1, fun b hb => by (repeat rw [zj_s_eq]); (repeat rw [zz_upd_ne _ _ (by omega)]); exact zf2 b hb, 0, p, (p + j), ⟨p, hpe, Or.inr ⟨hp, rfl, p + j, hE, Or.inr ⟨by omega, rfl, Or.inr (Or.inr ⟨hsome, hnot, rfl⟩)⟩⟩⟩, ?_, ?_, ?_, by omega⟩
                     · (repeat rw [zj_s_eq]); (repeat rw [zz_upd_ne _ _ (by decide)]); exact e4
                     · (repeat rw [zj_s_eq]); (repeat rw [zz_upd_ne _ _ (by decide)]); exact e5
                     · (repeat rw [zj_s_eq]); exact zz_upd_at _ _ _))
          · have hc0 : zc_cnt (fun k => zw_dig (h 2 (p + k))) j = 0 := by
              rw [ex2] at c_236
              exact (nI_eq (b := 0) (by omega) (by omega)).mp c_236
            have hall0 : ∀ k, k < j → zw_dig (h 2 (p + k)) = false := zw_cnt0 hc0
            refine zj_aload_n (i := 0) (pc := 239) K dX4_step_239 rfl rfl ?_
            refine zj_iconst (v := 2) (pc := 240) K dX4_step_240 (by decide) ?_
            refine zj_putI (pc := 241) K lf_X4_42 hs_R rfl dX4_step_241 ?_
            refine zj_goto (tgt := 274) (pc := 244) K dX4_step_244 (by decide) ?_
            exact zj_vret K Rt dX4_step_274 (by
              first
              | (refine ⟨rfl, rfl, fun c c1 => by (repeat rw [zj_s_ne _ _ c1]); exact zf1 c c1, fun b hb => by (repeat rw [zj_s_eq]); (repeat rw [zz_upd_ne _ _ (by omega)]); exact zf2 b hb, 4, p, (p + 1), ⟨p, hpe, Or.inr ⟨hp, rfl, p + j, hE, Or.inl ⟨by omega, by rw [if_pos h59], rfl⟩⟩⟩, ?_, ?_, ?_, by omega⟩
                 · (repeat rw [zj_s_eq]); (repeat rw [zz_upd_ne _ _ (by decide)]); exact e4
                 · (repeat rw [zj_s_eq]); rw [zz_upd_at, zz_upd_ne _ _ (by decide), e5, show p + j = p by omega, nI_1]
                 · (repeat rw [zj_s_eq]); exact (zz_upd_ne _ _ (by decide)).trans (zz_upd_at _ _ _))
              | (refine ⟨rfl, rfl, fun c c1 => by (repeat rw [zj_s_ne _ _ c1]); exact zf1 c c1, fun b hb => by (repeat rw [zj_s_eq]); (repeat rw [zz_upd_ne _ _ (by omega)]); exact zf2 b hb, 0, p, (p + 1), ⟨p, hpe, Or.inr ⟨hp, rfl, p + j, hE, Or.inl ⟨by omega, by rw [if_neg hn59], rfl⟩⟩⟩, ?_, ?_, ?_, by omega⟩
                 · (repeat rw [zj_s_eq]); (repeat rw [zz_upd_ne _ _ (by decide)]); exact e4
                 · (repeat rw [zj_s_eq]); rw [zz_upd_at, zz_upd_ne _ _ (by decide), e5, show p + j = p by omega, nI_1]
                 · (repeat rw [zj_s_eq]); exact (zz_upd_ne _ _ (by decide)).trans (zz_upd_at _ _ _))
              | (refine ⟨rfl, rfl, fun c c1 => by (repeat rw [zj_s_ne _ _ c1]); exact zf1 c c1, fun b hb => by (repeat rw [zj_s_eq]); (repeat rw [zz_upd_ne _ _ (by omega)]); exact zf2 b hb, 2, p, (p + j), ⟨p, hpe, Or.inr ⟨hp, rfl, p + j, hE, Or.inr ⟨by omega, rfl, Or.inl ⟨zw_sh (p := fun i => zw_dig (h 2 i)) hall0, rfl⟩⟩⟩⟩, ?_, ?_, ?_, by omega⟩
                 · (repeat rw [zj_s_eq]); (repeat rw [zz_upd_ne _ _ (by decide)]); exact e4
                 · (repeat rw [zj_s_eq]); (repeat rw [zz_upd_ne _ _ (by decide)]); exact e5
                 · (repeat rw [zj_s_eq]); exact zz_upd_at _ _ _)
              | (refine ⟨rfl, rfl, fun c c1 => by (repeat rw [zj_s_ne _ _ c1]); exact zf1 c c1, fun b hb => by (repeat rw [zj_s_eq]); (repeat rw [zz_upd_ne _ _ (by omega)]); exact zf2 b hb, 3, p, (p + j), ⟨p, hpe, Or.inr ⟨hp, rfl, p + j, hE, Or.inr ⟨by omega, rfl, Or.inr (Or.inl ⟨zw_sh (p := fun i => zw_dig (h 2 i)) hall1, by omega, rfl, by rw [show p + j - p = j by omega, zj_s_eq, zz_upd_ne _ _ (by decide)]; exact zvl hall1⟩)⟩⟩⟩, ?_, ?_, ?_, by omega⟩
                 · (repeat rw [zj_s_eq]); (repeat rw [zz_upd_ne _ _ (by decide)]); exact e4
                 · (repeat rw [zj_s_eq]); (repeat rw [zz_upd_ne _ _ (by decide)]); exact e5
                 · (repeat rw [zj_s_eq]); exact zz_upd_at _ _ _)
              | (refine ⟨rfl, rfl, fun c c1 => by (repeat rw [zj_s_ne _ _ c1]); exact zf1 c c1, fun b hb => by (repeat rw [zj_s_eq]); (repeat rw [zz_upd_ne _ _ (by omega)]); exact zf2 b hb, 0, p, (p + j), ⟨p, hpe, Or.inr ⟨hp, rfl, p + j, hE, Or.inr ⟨by omega, rfl, Or.inr (Or.inr ⟨hsome, hnot, rfl⟩)⟩⟩⟩, ?_, ?_, ?_, by omega⟩
                 · (repeat rw [zj_s_eq]); (repeat rw [zz_upd_ne _ _ (by decide)]); exact e4
                 · (repeat rw [zj_s_eq]); (repeat rw [zz_upd_ne _ _ (by decide)]); exact e5
                 · (repeat rw [zj_s_eq]); exact zz_upd_at _ _ _))
        · have hj0 : j = 0 := by
            rw [e5, e4] at c_193
            have := (nI_eq (by omega) (by omega)).mp c_193
            omega
          refine zj_aload_n (i := 0) (pc := 196) K dX4_step_196 rfl rfl ?_
          refine zj_aload_n (i := 0) (pc := 197) K dX4_step_197 rfl rfl ?_
          refine zj_getR (pc := 198) K lf_X4_9 hs_R rfl dX4_step_198 ?_
          refine zj_getR (pc := 201) K lf_X4_142 hs_T rfl dX4_step_201 ?_
          refine zj_aload_n (i := 0) (pc := 204) K dX4_step_204 rfl rfl ?_
          refine zj_getI (pc := 205) K lf_X4_32 hs_R rfl dX4_step_205 ?_
          refine zj_bld (j := p + j) (pc := 208) K hs_Tb e5 (by omega) (by first | decide | omega) dX4_step_208 ?_
          refine zj_bipush (v := 59) (pc := 209) K dX4_step_209 (by decide) ?_
          refine zj_icmp_ne (tgt := 218) (pc := 211) K dX4_step_211 (by decide) (fun c_211 => ?_) (fun c_211 => ?_)
          · rw [eb] at c_211
            have hn59 : ¬ h 2 p = 59 := by rw [hj0] at c_211; exact c_211
            refine zj_iconst (v := 0) (pc := 218) K dX4_step_218 (by decide) ?_
            refine zj_putI (pc := 219) K lf_X4_42 hs_R rfl dX4_step_219 ?_
            refine zj_aload_n (i := 0) (pc := 222) K dX4_step_222 rfl rfl ?_
            refine zj_dup (pc := 223) K dX4_step_223 rfl ?_
            refine zj_getI (pc := 224) K lf_X4_32 hs_R rfl dX4_step_224 ?_
            refine zj_iconst (v := 1) (pc := 227) K dX4_step_227 (by decide) ?_
            refine zj_iadd (pc := 228) K dX4_step_228 ?_
            refine zj_putI (pc := 229) K lf_X4_32 hs_R rfl dX4_step_229 ?_
            refine zj_goto (tgt := 274) (pc := 232) K dX4_step_232 (by decide) ?_
            exact zj_vret K Rt dX4_step_274 (by
              first
              | (refine ⟨rfl, rfl, fun c c1 => by (repeat rw [zj_s_ne _ _ c1]); exact zf1 c c1, fun b hb => by (repeat rw [zj_s_eq]); (repeat rw [zz_upd_ne _ _ (by omega)]); exact zf2 b hb, 4, p, (p + 1), ⟨p, hpe, Or.inr ⟨hp, rfl, p + j, hE, Or.inl ⟨by omega, by rw [if_pos h59], rfl⟩⟩⟩, ?_, ?_, ?_, by omega⟩
                 · (repeat rw [zj_s_eq]); (repeat rw [zz_upd_ne _ _ (by decide)]); exact e4
                 · (repeat rw [zj_s_eq]); rw [zz_upd_at, zz_upd_ne _ _ (by decide), e5, show p + j = p by omega, nI_1]
                 · (repeat rw [zj_s_eq]); exact (zz_upd_ne _ _ (by decide)).trans (zz_upd_at _ _ _))
              | (refine ⟨rfl, rfl, fun c c1 => by (repeat rw [zj_s_ne _ _ c1]); exact zf1 c c1, fun b hb => by (repeat rw [zj_s_eq]); (repeat rw [zz_upd_ne _ _ (by omega)]); exact zf2 b hb, 0, p, (p + 1), ⟨p, hpe, Or.inr ⟨hp, rfl, p + j, hE, Or.inl ⟨by omega, by rw [if_neg hn59], rfl⟩⟩⟩, ?_, ?_, ?_, by omega⟩
                 · (repeat rw [zj_s_eq]); (repeat rw [zz_upd_ne _ _ (by decide)]); exact e4
                 · (repeat rw [zj_s_eq]); rw [zz_upd_at, zz_upd_ne _ _ (by decide), e5, show p + j = p by omega, nI_1]
                 · (repeat rw [zj_s_eq]); exact (zz_upd_ne _ _ (by decide)).trans (zz_upd_at _ _ _))
              | (refine ⟨rfl, rfl, fun c c1 => by (repeat rw [zj_s_ne _ _ c1]); exact zf1 c c1, fun b hb => by (repeat rw [zj_s_eq]); (repeat rw [zz_upd_ne _ _ (by omega)]); exact zf2 b hb, 2, p, (p + j), ⟨p, hpe, Or.inr ⟨hp, rfl, p + j, hE, Or.inr ⟨by omega, rfl, Or.inl ⟨zw_sh (p := fun i => zw_dig (h 2 i)) hall0, rfl⟩⟩⟩⟩, ?_, ?_, ?_, by omega⟩
                 · (repeat rw [zj_s_eq]); (repeat rw [zz_upd_ne _ _ (by decide)]); exact e4
                 · (repeat rw [zj_s_eq]); (repeat rw [zz_upd_ne _ _ (by decide)]); exact e5
                 · (repeat rw [zj_s_eq]); exact zz_upd_at _ _ _)
              | (refine ⟨rfl, rfl, fun c c1 => by (repeat rw [zj_s_ne _ _ c1]); exact zf1 c c1, fun b hb => by (repeat rw [zj_s_eq]); (repeat rw [zz_upd_ne _ _ (by omega)]); exact zf2 b hb, 3, p, (p + j), ⟨p, hpe, Or.inr ⟨hp, rfl, p + j, hE, Or.inr ⟨by omega, rfl, Or.inr (Or.inl ⟨zw_sh (p := fun i => zw_dig (h 2 i)) hall1, by omega, rfl, by rw [show p + j - p = j by omega, zj_s_eq, zz_upd_ne _ _ (by decide)]; exact zvl hall1⟩)⟩⟩⟩, ?_, ?_, ?_, by omega⟩
                 · (repeat rw [zj_s_eq]); (repeat rw [zz_upd_ne _ _ (by decide)]); exact e4
                 · (repeat rw [zj_s_eq]); (repeat rw [zz_upd_ne _ _ (by decide)]); exact e5
                 · (repeat rw [zj_s_eq]); exact zz_upd_at _ _ _)
              | (refine ⟨rfl, rfl, fun c c1 => by (repeat rw [zj_s_ne _ _ c1]); exact zf1 c c1, fun b hb => by (repeat rw [zj_s_eq]); (repeat rw [zz_upd_ne _ _ (by omega)]); exact zf2 b hb, 0, p, (p + j), ⟨p, hpe, Or.inr ⟨hp, rfl, p + j, hE, Or.inr ⟨by omega, rfl, Or.inr (Or.inr ⟨hsome, hnot, rfl⟩)⟩⟩⟩, ?_, ?_, ?_, by omega⟩
                 · (repeat rw [zj_s_eq]); (repeat rw [zz_upd_ne _ _ (by decide)]); exact e4
                 · (repeat rw [zj_s_eq]); (repeat rw [zz_upd_ne _ _ (by decide)]); exact e5
                 · (repeat rw [zj_s_eq]); exact zz_upd_at _ _ _))
          · rw [eb] at c_211
            have h59 : h 2 p = 59 := by rw [hj0] at c_211; exact c_211
            refine zj_iconst (v := 4) (pc := 214) K dX4_step_214 (by decide) ?_
            refine zj_goto (tgt := 219) (pc := 215) K dX4_step_215 (by decide) ?_
            refine zj_putI (pc := 219) K lf_X4_42 hs_R rfl dX4_step_219 ?_
            refine zj_aload_n (i := 0) (pc := 222) K dX4_step_222 rfl rfl ?_
            refine zj_dup (pc := 223) K dX4_step_223 rfl ?_
            refine zj_getI (pc := 224) K lf_X4_32 hs_R rfl dX4_step_224 ?_
            refine zj_iconst (v := 1) (pc := 227) K dX4_step_227 (by decide) ?_
            refine zj_iadd (pc := 228) K dX4_step_228 ?_
            refine zj_putI (pc := 229) K lf_X4_32 hs_R rfl dX4_step_229 ?_
            refine zj_goto (tgt := 274) (pc := 232) K dX4_step_232 (by decide) ?_
            exact zj_vret K Rt dX4_step_274 (by
              first
              | (refine ⟨rfl, rfl, fun c c1 => by (repeat rw [zj_s_ne _ _ c1]); exact zf1 c c1, fun b hb => by (repeat rw [zj_s_eq]); (repeat rw [zz_upd_ne _ _ (by omega)]); exact zf2 b hb, 4, p, (p + 1), ⟨p, hpe, Or.inr ⟨hp, rfl, p + j, hE, Or.inl ⟨by omega, by rw [if_pos h59], rfl⟩⟩⟩, ?_, ?_, ?_, by omega⟩
                 · (repeat rw [zj_s_eq]); (repeat rw [zz_upd_ne _ _ (by decide)]); exact e4
                 · (repeat rw [zj_s_eq]); rw [zz_upd_at, zz_upd_ne _ _ (by decide), e5, show p + j = p by omega, nI_1]
                 · (repeat rw [zj_s_eq]); exact (zz_upd_ne _ _ (by decide)).trans (zz_upd_at _ _ _))
              | (refine ⟨rfl, rfl, fun c c1 => by (repeat rw [zj_s_ne _ _ c1]); exact zf1 c c1, fun b hb => by (repeat rw [zj_s_eq]); (repeat rw [zz_upd_ne _ _ (by omega)]); exact zf2 b hb, 0, p, (p + 1), ⟨p, hpe, Or.inr ⟨hp, rfl, p + j, hE, Or.inl ⟨by omega, by rw [if_neg hn59], rfl⟩⟩⟩, ?_, ?_, ?_, by omega⟩
                 · (repeat rw [zj_s_eq]); (repeat rw [zz_upd_ne _ _ (by decide)]); exact e4
                 · (repeat rw [zj_s_eq]); rw [zz_upd_at, zz_upd_ne _ _ (by decide), e5, show p + j = p by omega, nI_1]
                 · (repeat rw [zj_s_eq]); exact (zz_upd_ne _ _ (by decide)).trans (zz_upd_at _ _ _))
              | (refine ⟨rfl, rfl, fun c c1 => by (repeat rw [zj_s_ne _ _ c1]); exact zf1 c c1, fun b hb => by (repeat rw [zj_s_eq]); (repeat rw [zz_upd_ne _ _ (by omega)]); exact zf2 b hb, 2, p, (p + j), ⟨p, hpe, Or.inr ⟨hp, rfl, p + j, hE, Or.inr ⟨by omega, rfl, Or.inl ⟨zw_sh (p := fun i => zw_dig (h 2 i)) hall0, rfl⟩⟩⟩⟩, ?_, ?_, ?_, by omega⟩
                 · (repeat rw [zj_s_eq]); (repeat rw [zz_upd_ne _ _ (by decide)]); exact e4
                 · (repeat rw [zj_s_eq]); (repeat rw [zz_upd_ne _ _ (by decide)]); exact e5
                 · (repeat rw [zj_s_eq]); exact zz_upd_at _ _ _)
              | (refine ⟨rfl, rfl, fun c c1 => by (repeat rw [zj_s_ne _ _ c1]); exact zf1 c c1, fun b hb => by (repeat rw [zj_s_eq]); (repeat rw [zz_upd_ne _ _ (by omega)]); exact zf2 b hb, 3, p, (p + j), ⟨p, hpe, Or.inr ⟨hp, rfl, p + j, hE, Or.inr ⟨by omega, rfl, Or.inr (Or.inl ⟨zw_sh (p := fun i => zw_dig (h 2 i)) hall1, by omega, rfl, by rw [show p + j - p = j by omega, zj_s_eq, zz_upd_ne _ _ (by decide)]; exact zvl hall1⟩)⟩⟩⟩, ?_, ?_, ?_, by omega⟩
                 · (repeat rw [zj_s_eq]); (repeat rw [zz_upd_ne _ _ (by decide)]); exact e4
                 · (repeat rw [zj_s_eq]); (repeat rw [zz_upd_ne _ _ (by decide)]); exact e5
                 · (repeat rw [zj_s_eq]); exact zz_upd_at _ _ _)
              | (refine ⟨rfl, rfl, fun c c1 => by (repeat rw [zj_s_ne _ _ c1]); exact zf1 c c1, fun b hb => by (repeat rw [zj_s_eq]); (repeat rw [zz_upd_ne _ _ (by omega)]); exact zf2 b hb, 0, p, (p + j), ⟨p, hpe, Or.inr ⟨hp, rfl, p + j, hE, Or.inr ⟨by omega, rfl, Or.inr (Or.inr ⟨hsome, hnot, rfl⟩)⟩⟩⟩, ?_, ?_, ?_, by omega⟩
                 · (repeat rw [zj_s_eq]); (repeat rw [zz_upd_ne _ _ (by decide)]); exact e4
                 · (repeat rw [zj_s_eq]); (repeat rw [zz_upd_ne _ _ (by decide)]); exact e5
                 · (repeat rw [zj_s_eq]); exact zz_upd_at _ _ _))
      · have hn1 : p + j < n := zz_nge e5 eLq (by omega) (by omega) c_104
        refine zj_aload_n (i := 0) (pc := 107) K dX4_step_107 rfl rfl ?_
        refine zj_getR (pc := 108) K lf_X4_9 hs_R rfl dX4_step_108 ?_
        refine zj_getR (pc := 111) K lf_X4_142 hs_T rfl dX4_step_111 ?_
        refine zj_aload_n (i := 0) (pc := 114) K dX4_step_114 rfl rfl ?_
        refine zj_getI (pc := 115) K lf_X4_32 hs_R rfl dX4_step_115 ?_
        refine zj_bld (j := p + j) (pc := 118) K hs_Tb e5 (by omega) (by first | decide | omega) dX4_step_118 ?_
        refine zj_cS1I (pc := 119) K lm_X4_158 (m_X4_isSmallOrDigit) (by decide) rfl (Nat.le_of_ble_eq_true rfl) dX4_step_119 ?_
        refine zj_if_eq (tgt := 185) (pc := 122) K dX4_step_122 (by decide) (fun c_122 => ?_) (fun c_122 => ?_)
        · replace c_122 := zz_i0.mp c_122
          rw [eb] at c_122
          have hE : zw_e (zw_an (h 2)) n p (p + j) := ⟨by omega, h2, zw_sh (p := zw_an (h 2)) zan, fun _ => c_122⟩
          refine zj_aload_n (i := 0) (pc := 185) K dX4_step_185 rfl rfl ?_
          refine zj_getI (pc := 186) K lf_X4_32 hs_R rfl dX4_step_186 ?_
          refine zj_aload_n (i := 0) (pc := 189) K dX4_step_189 rfl rfl ?_
          refine zj_getI (pc := 190) K lf_X4_135 hs_R rfl dX4_step_190 ?_
          refine zj_icmp_ne (tgt := 235) (pc := 193) K dX4_step_193 (by decide) (fun c_193 => ?_) (fun c_193 => ?_)
          · have hj0 : ¬ j = 0 := fun z => c_193 (by rw [e5, e4, z]; rfl)
            refine zj_iload_n (i := 2) (pc := 235) K dX4_step_235 rfl rfl ?_
            refine zj_if_ne (tgt := 247) (pc := 236) K dX4_step_236 (by decide) (fun c_236 => ?_) (fun c_236 => ?_)
            · have hc0 : ¬ zc_cnt (fun k => zw_dig (h 2 (p + k))) j = 0 := fun z => c_236 (by rw [ex2, z]; rfl)
              have hsome : ¬ ∀ i, p ≤ i → i < p + j → zw_dig (h 2 i) = false := fun z => hc0 (zw_cnt_z (fun k hk => z (p + k) (by omega) (by omega)))
              refine zj_aload_n (i := 0) (pc := 247) K dX4_step_247 rfl rfl ?_
              refine zj_iload_n (i := 2) (pc := 248) K dX4_step_248 rfl rfl ?_
              refine zj_aload_n (i := 0) (pc := 249) K dX4_step_249 rfl rfl ?_
              refine zj_getI (pc := 250) K lf_X4_32 hs_R rfl dX4_step_250 ?_
              refine zj_aload_n (i := 0) (pc := 253) K dX4_step_253 rfl rfl ?_
              refine zj_getI (pc := 254) K lf_X4_135 hs_R rfl dX4_step_254 ?_
              refine zj_isub (pc := 257) K dX4_step_257 ?_
              refine zj_icmp_ne (tgt := 270) (pc := 258) K dX4_step_258 (by decide) (fun c_258 => ?_) (fun c_258 => ?_)
              · rw [zw_sub e5 e4, ex2] at c_258
                have hnot : ¬ ((∀ i, p ≤ i → i < p + j → zw_dig (h 2 i) = true) ∧ p + j - p ≤ 4) := fun z => c_258 (by rw [zc_cnt_all (fun k hk => z.1 (p + k) (by omega) (by omega))])
                refine zj_iconst (v := 0) (pc := 270) K dX4_step_270 (by decide) ?_
                refine zj_putI (pc := 271) K lf_X4_42 hs_R rfl dX4_step_271 ?_
                exact zj_vret K Rt dX4_step_274 (by
                  first
                  | (refine ⟨rfl, rfl, fun c c1 => by (repeat rw [zj_s_ne _ _ c1]); exact zf1 c c1, fun b hb => by (repeat rw [zj_s_eq]); (repeat rw [zz_upd_ne _ _ (by omega)]); exact zf2 b hb, 4, p, (p + 1), ⟨p, hpe, Or.inr ⟨hp, rfl, p + j, hE, Or.inl ⟨by omega, by rw [if_pos h59], rfl⟩⟩⟩, ?_, ?_, ?_, by omega⟩
                     · (repeat rw [zj_s_eq]); (repeat rw [zz_upd_ne _ _ (by decide)]); exact e4
                     · (repeat rw [zj_s_eq]); rw [zz_upd_at, zz_upd_ne _ _ (by decide), e5, show p + j = p by omega, nI_1]
                     · (repeat rw [zj_s_eq]); exact (zz_upd_ne _ _ (by decide)).trans (zz_upd_at _ _ _))
                  | (refine ⟨rfl, rfl, fun c c1 => by (repeat rw [zj_s_ne _ _ c1]); exact zf1 c c1, fun b hb => by (repeat rw [zj_s_eq]); (repeat rw [zz_upd_ne _ _ (by omega)]); exact zf2 b hb, 0, p, (p + 1), ⟨p, hpe, Or.inr ⟨hp, rfl, p + j, hE, Or.inl ⟨by omega, by rw [if_neg hn59], rfl⟩⟩⟩, ?_, ?_, ?_, by omega⟩
                     · (repeat rw [zj_s_eq]); (repeat rw [zz_upd_ne _ _ (by decide)]); exact e4
                     · (repeat rw [zj_s_eq]); rw [zz_upd_at, zz_upd_ne _ _ (by decide), e5, show p + j = p by omega, nI_1]
                     · (repeat rw [zj_s_eq]); exact (zz_upd_ne _ _ (by decide)).trans (zz_upd_at _ _ _))
                  | (refine ⟨rfl, rfl, fun c c1 => by (repeat rw [zj_s_ne _ _ c1]); exact zf1 c c1, fun b hb => by (repeat rw [zj_s_eq]); (repeat rw [zz_upd_ne _ _ (by omega)]); exact zf2 b hb, 2, p, (p + j), ⟨p, hpe, Or.inr ⟨hp, rfl, p + j, hE, Or.inr ⟨by omega, rfl, Or.inl ⟨zw_sh (p := fun i => zw_dig (h 2 i)) hall0, rfl⟩⟩⟩⟩, ?_, ?_, ?_, by omega⟩
                     · (repeat rw [zj_s_eq]); (repeat rw [zz_upd_ne _ _ (by decide)]); exact e4
                     · (repeat rw [zj_s_eq]); (repeat rw [zz_upd_ne _ _ (by decide)]); exact e5
                     · (repeat rw [zj_s_eq]); exact zz_upd_at _ _ _)
                  | (refine ⟨rfl, rfl, fun c c1 => by (repeat rw [zj_s_ne _ _ c1]); exact zf1 c c1, fun b hb => by (repeat rw [zj_s_eq]); (repeat rw [zz_upd_ne _ _ (by omega)]); exact zf2 b hb, 3, p, (p + j), ⟨p, hpe, Or.inr ⟨hp, rfl, p + j, hE, Or.inr ⟨by omega, rfl, Or.inr (Or.inl ⟨zw_sh (p := fun i => zw_dig (h 2 i)) hall1, by omega, rfl, by rw [show p + j - p = j by omega, zj_s_eq, zz_upd_ne _ _ (by decide)]; exact zvl hall1⟩)⟩⟩⟩, ?_, ?_, ?_, by omega⟩
                     · (repeat rw [zj_s_eq]); (repeat rw [zz_upd_ne _ _ (by decide)]); exact e4
                     · (repeat rw [zj_s_eq]); (repeat rw [zz_upd_ne _ _ (by decide)]); exact e5
                     · (repeat rw [zj_s_eq]); exact zz_upd_at _ _ _)
                  | (refine ⟨rfl, rfl, fun c c1 => by (repeat rw [zj_s_ne _ _ c1]); exact zf1 c c1, fun b hb => by (repeat rw [zj_s_eq]); (repeat rw [zz_upd_ne _ _ (by omega)]); exact zf2 b hb, 0, p, (p + j), ⟨p, hpe, Or.inr ⟨hp, rfl, p + j, hE, Or.inr ⟨by omega, rfl, Or.inr (Or.inr ⟨hsome, hnot, rfl⟩)⟩⟩⟩, ?_, ?_, ?_, by omega⟩
                     · (repeat rw [zj_s_eq]); (repeat rw [zz_upd_ne _ _ (by decide)]); exact e4
                     · (repeat rw [zj_s_eq]); (repeat rw [zz_upd_ne _ _ (by decide)]); exact e5
                     · (repeat rw [zj_s_eq]); exact zz_upd_at _ _ _))
              · rw [zw_sub e5 e4, ex2] at c_258
                have hcj : zc_cnt (fun k => zw_dig (h 2 (p + k))) j = j := (nI_eq (by omega) (by omega)).mp c_258
                have hall1 : ∀ k, k < j → zw_dig (h 2 (p + k)) = true := zw_cntN hcj
                refine zj_iload_n (i := 2) (pc := 261) K dX4_step_261 rfl rfl ?_
                refine zj_iconst (v := 4) (pc := 262) K dX4_step_262 (by decide) ?_
                refine zj_icmp_gt (tgt := 270) (pc := 263) K dX4_step_263 (by decide) (fun c_263 => ?_) (fun c_263 => ?_)
                · have hnot : ¬ ((∀ i, p ≤ i → i < p + j → zw_dig (h 2 i) = true) ∧ p + j - p ≤ 4) := fun z => by
                    rw [ex2, hcj] at c_263
                    have := (nI_ltI (a := 4) (by omega) (by omega)).mp c_263
                    omega
                  refine zj_iconst (v := 0) (pc := 270) K dX4_step_270 (by decide) ?_
                  refine zj_putI (pc := 271) K lf_X4_42 hs_R rfl dX4_step_271 ?_
                  exact zj_vret K Rt dX4_step_274 (by
                    first
                    | (refine ⟨rfl, rfl, fun c c1 => by (repeat rw [zj_s_ne _ _ c1]); exact zf1 c c1, fun b hb => by (repeat rw [zj_s_eq]); (repeat rw [zz_upd_ne _ _ (by omega)]); exact zf2 b hb, 4, p, (p + 1), ⟨p, hpe, Or.inr ⟨hp, rfl, p + j, hE, Or.inl ⟨by omega, by rw [if_pos h59], rfl⟩⟩⟩, ?_, ?_, ?_, by omega⟩
                       · (repeat rw [zj_s_eq]); (repeat rw [zz_upd_ne _ _ (by decide)]); exact e4
                       · (repeat rw [zj_s_eq]); rw [zz_upd_at, zz_upd_ne _ _ (by decide), e5, show p + j = p by omega, nI_1]
                       · (repeat rw [zj_s_eq]); exact (zz_upd_ne _ _ (by decide)).trans (zz_upd_at _ _ _))
                    | (refine ⟨rfl, rfl, fun c c1 => by (repeat rw [zj_s_ne _ _ c1]); exact zf1 c c1, fun b hb => by (repeat rw [zj_s_eq]); (repeat rw [zz_upd_ne _ _ (by omega)]); exact zf2 b hb, 0, p, (p + 1), ⟨p, hpe, Or.inr ⟨hp, rfl, p + j, hE, Or.inl ⟨by omega, by rw [if_neg hn59], rfl⟩⟩⟩, ?_, ?_, ?_, by omega⟩
                       · (repeat rw [zj_s_eq]); (repeat rw [zz_upd_ne _ _ (by decide)]); exact e4
                       · (repeat rw [zj_s_eq]); rw [zz_upd_at, zz_upd_ne _ _ (by decide), e5, show p + j = p by omega, nI_1]
                       · (repeat rw [zj_s_eq]); exact (zz_upd_ne _ _ (by decide)).trans (zz_upd_at _ _ _))
                    | (refine ⟨rfl, rfl, fun c c1 => by (repeat rw [zj_s_ne _ _ c1]); exact zf1 c c1, fun b hb => by (repeat rw [zj_s_eq]); (repeat rw [zz_upd_ne _ _ (by omega)]); exact zf2 b hb, 2, p, (p + j), ⟨p, hpe, Or.inr ⟨hp, rfl, p + j, hE, Or.inr ⟨by omega, rfl, Or.inl ⟨zw_sh (p := fun i => zw_dig (h 2 i)) hall0, rfl⟩⟩⟩⟩, ?_, ?_, ?_, by omega⟩
                       · (repeat rw [zj_s_eq]); (repeat rw [zz_upd_ne _ _ (by decide)]); exact e4
                       · (repeat rw [zj_s_eq]); (repeat rw [zz_upd_ne _ _ (by decide)]); exact e5
                       · (repeat rw [zj_s_eq]); exact zz_upd_at _ _ _)
                    | (refine ⟨rfl, rfl, fun c c1 => by (repeat rw [zj_s_ne _ _ c1]); exact zf1 c c1, fun b hb => by (repeat rw [zj_s_eq]); (repeat rw [zz_upd_ne _ _ (by omega)]); exact zf2 b hb, 3, p, (p + j), ⟨p, hpe, Or.inr ⟨hp, rfl, p + j, hE, Or.inr ⟨by omega, rfl, Or.inr (Or.inl ⟨zw_sh (p := fun i => zw_dig (h 2 i)) hall1, by omega, rfl, by rw [show p + j - p = j by omega, zj_s_eq, zz_upd_ne _ _ (by decide)]; exact zvl hall1⟩)⟩⟩⟩, ?_, ?_, ?_, by omega⟩
                       · (repeat rw [zj_s_eq]); (repeat rw [zz_upd_ne _ _ (by decide)]); exact e4
                       · (repeat rw [zj_s_eq]); (repeat rw [zz_upd_ne _ _ (by decide)]); exact e5
                       · (repeat rw [zj_s_eq]); exact zz_upd_at _ _ _)
                    | (refine ⟨rfl, rfl, fun c c1 => by (repeat rw [zj_s_ne _ _ c1]); exact zf1 c c1, fun b hb => by (repeat rw [zj_s_eq]); (repeat rw [zz_upd_ne _ _ (by omega)]); exact zf2 b hb, 0, p, (p + j), ⟨p, hpe, Or.inr ⟨hp, rfl, p + j, hE, Or.inr ⟨by omega, rfl, Or.inr (Or.inr ⟨hsome, hnot, rfl⟩)⟩⟩⟩, ?_, ?_, ?_, by omega⟩
                       · (repeat rw [zj_s_eq]); (repeat rw [zz_upd_ne _ _ (by decide)]); exact e4
                       · (repeat rw [zj_s_eq]); (repeat rw [zz_upd_ne _ _ (by decide)]); exact e5
                       · (repeat rw [zj_s_eq]); exact zz_upd_at _ _ _))
                · have hj4 : j ≤ 4 := Nat.le_of_not_lt (fun z => c_263 (by rw [ex2, hcj]; exact (nI_ltI (a := 4) (by omega) (by omega)).mpr z))
                  refine zj_iconst (v := 3) (pc := 266) K dX4_step_266 (by decide) ?_
                  refine zj_goto (tgt := 271) (pc := 267) K dX4_step_267 (by decide) ?_
                  refine zj_putI (pc := 271) K lf_X4_42 hs_R rfl dX4_step_271 ?_
                  exact zj_vret K Rt dX4_step_274 (by
                    first
                    | (refine ⟨rfl, rfl, fun c c1 => by (repeat rw [zj_s_ne _ _ c1]); exact zf1 c c1, fun b hb => by (repeat rw [zj_s_eq]); (repeat rw [zz_upd_ne _ _ (by omega)]); exact zf2 b hb, 4, p, (p + 1), ⟨p, hpe, Or.inr ⟨hp, rfl, p + j, hE, Or.inl ⟨by omega, by rw [if_pos h59], rfl⟩⟩⟩, ?_, ?_, ?_, by omega⟩
                       · (repeat rw [zj_s_eq]); (repeat rw [zz_upd_ne _ _ (by decide)]); exact e4
                       · (repeat rw [zj_s_eq]); rw [zz_upd_at, zz_upd_ne _ _ (by decide), e5, show p + j = p by omega, nI_1]
                       · (repeat rw [zj_s_eq]); exact (zz_upd_ne _ _ (by decide)).trans (zz_upd_at _ _ _))
                    | (refine ⟨rfl, rfl, fun c c1 => by (repeat rw [zj_s_ne _ _ c1]); exact zf1 c c1, fun b hb => by (repeat rw [zj_s_eq]); (repeat rw [zz_upd_ne _ _ (by omega)]); exact zf2 b hb, 0, p, (p + 1), ⟨p, hpe, Or.inr ⟨hp, rfl, p + j, hE, Or.inl ⟨by omega, by rw [if_neg hn59], rfl⟩⟩⟩, ?_, ?_, ?_, by omega⟩
                       · (repeat rw [zj_s_eq]); (repeat rw [zz_upd_ne _ _ (by decide)]); exact e4
                       · (repeat rw [zj_s_eq]); rw [zz_upd_at, zz_upd_ne _ _ (by decide), e5, show p + j = p by omega, nI_1]
                       · (repeat rw [zj_s_eq]); exact (zz_upd_ne _ _ (by decide)).trans (zz_upd_at _ _ _))
                    | (refine ⟨rfl, rfl, fun c c1 => by (repeat rw [zj_s_ne _ _ c1]); exact zf1 c c1, fun b hb => by (repeat rw [zj_s_eq]); (repeat rw [zz_upd_ne _ _ (by omega)]); exact zf2 b hb, 2, p, (p + j), ⟨p, hpe, Or.inr ⟨hp, rfl, p + j, hE, Or.inr ⟨by omega, rfl, Or.inl ⟨zw_sh (p := fun i => zw_dig (h 2 i)) hall0, rfl⟩⟩⟩⟩, ?_, ?_, ?_, by omega⟩
                       · (repeat rw [zj_s_eq]); (repeat rw [zz_upd_ne _ _ (by decide)]); exact e4
                       · (repeat rw [zj_s_eq]); (repeat rw [zz_upd_ne _ _ (by decide)]); exact e5
                       · (repeat rw [zj_s_eq]); exact zz_upd_at _ _ _)
                    | (refine ⟨rfl, rfl, fun c c1 => by (repeat rw [zj_s_ne _ _ c1]); exact zf1 c c1, fun b hb => by (repeat rw [zj_s_eq]); (repeat rw [zz_upd_ne _ _ (by omega)]); exact zf2 b hb, 3, p, (p + j), ⟨p, hpe, Or.inr ⟨hp, rfl, p + j, hE, Or.inr ⟨by omega, rfl, Or.inr (Or.inl ⟨zw_sh (p := fun i => zw_dig (h 2 i)) hall1, by omega, rfl, by rw [show p + j - p = j by omega, zj_s_eq, zz_upd_ne _ _ (by decide)]; exact zvl hall1⟩)⟩⟩⟩, ?_, ?_, ?_, by omega⟩
                       · (repeat rw [zj_s_eq]); (repeat rw [zz_upd_ne _ _ (by decide)]); exact e4
                       · (repeat rw [zj_s_eq]); (repeat rw [zz_upd_ne _ _ (by decide)]); exact e5
                       · (repeat rw [zj_s_eq]); exact zz_upd_at _ _ _)
                    | (refine ⟨rfl, rfl, fun c c1 => by (repeat rw [zj_s_ne _ _ c1]); exact zf1 c c1, fun b hb => by (repeat rw [zj_s_eq]); (repeat rw [zz_upd_ne _ _ (by omega)]); exact zf2 b hb, 0, p, (p + j), ⟨p, hpe, Or.inr ⟨hp, rfl, p + j, hE, Or.inr ⟨by omega, rfl, Or.inr (Or.inr ⟨hsome, hnot, rfl⟩)⟩⟩⟩, ?_, ?_, ?_, by omega⟩
                       · (repeat rw [zj_s_eq]); (repeat rw [zz_upd_ne _ _ (by decide)]); exact e4
                       · (repeat rw [zj_s_eq]); (repeat rw [zz_upd_ne _ _ (by decide)]); exact e5
                       · (repeat rw [zj_s_eq]); exact zz_upd_at _ _ _))
            · have hc0 : zc_cnt (fun k => zw_dig (h 2 (p + k))) j = 0 := by
                rw [ex2] at c_236
                exact (nI_eq (b := 0) (by omega) (by omega)).mp c_236
              have hall0 : ∀ k, k < j → zw_dig (h 2 (p + k)) = false := zw_cnt0 hc0
              refine zj_aload_n (i := 0) (pc := 239) K dX4_step_239 rfl rfl ?_
              refine zj_iconst (v := 2) (pc := 240) K dX4_step_240 (by decide) ?_
              refine zj_putI (pc := 241) K lf_X4_42 hs_R rfl dX4_step_241 ?_
              refine zj_goto (tgt := 274) (pc := 244) K dX4_step_244 (by decide) ?_
              exact zj_vret K Rt dX4_step_274 (by
                first
                | (refine ⟨rfl, rfl, fun c c1 => by (repeat rw [zj_s_ne _ _ c1]); exact zf1 c c1, fun b hb => by (repeat rw [zj_s_eq]); (repeat rw [zz_upd_ne _ _ (by omega)]); exact zf2 b hb, 4, p, (p + 1), ⟨p, hpe, Or.inr ⟨hp, rfl, p + j, hE, Or.inl ⟨by omega, by rw [if_pos h59], rfl⟩⟩⟩, ?_, ?_, ?_, by omega⟩
                   · (repeat rw [zj_s_eq]); (repeat rw [zz_upd_ne _ _ (by decide)]); exact e4
                   · (repeat rw [zj_s_eq]); rw [zz_upd_at, zz_upd_ne _ _ (by decide), e5, show p + j = p by omega, nI_1]
                   · (repeat rw [zj_s_eq]); exact (zz_upd_ne _ _ (by decide)).trans (zz_upd_at _ _ _))
                | (refine ⟨rfl, rfl, fun c c1 => by (repeat rw [zj_s_ne _ _ c1]); exact zf1 c c1, fun b hb => by (repeat rw [zj_s_eq]); (repeat rw [zz_upd_ne _ _ (by omega)]); exact zf2 b hb, 0, p, (p + 1), ⟨p, hpe, Or.inr ⟨hp, rfl, p + j, hE, Or.inl ⟨by omega, by rw [if_neg hn59], rfl⟩⟩⟩, ?_, ?_, ?_, by omega⟩
                   · (repeat rw [zj_s_eq]); (repeat rw [zz_upd_ne _ _ (by decide)]); exact e4
                   · (repeat rw [zj_s_eq]); rw [zz_upd_at, zz_upd_ne _ _ (by decide), e5, show p + j = p by omega, nI_1]
                   · (repeat rw [zj_s_eq]); exact (zz_upd_ne _ _ (by decide)).trans (zz_upd_at _ _ _))
                | (refine ⟨rfl, rfl, fun c c1 => by (repeat rw [zj_s_ne _ _ c1]); exact zf1 c c1, fun b hb => by (repeat rw [zj_s_eq]); (repeat rw [zz_upd_ne _ _ (by omega)]); exact zf2 b hb, 2, p, (p + j), ⟨p, hpe, Or.inr ⟨hp, rfl, p + j, hE, Or.inr ⟨by omega, rfl, Or.inl ⟨zw_sh (p := fun i => zw_dig (h 2 i)) hall0, rfl⟩⟩⟩⟩, ?_, ?_, ?_, by omega⟩
                   · (repeat rw [zj_s_eq]); (repeat rw [zz_upd_ne _ _ (by decide)]); exact e4
                   · (repeat rw [zj_s_eq]); (repeat rw [zz_upd_ne _ _ (by decide)]); exact e5
                   · (repeat rw [zj_s_eq]); exact zz_upd_at _ _ _)
                | (refine ⟨rfl, rfl, fun c c1 => by (repeat rw [zj_s_ne _ _ c1]); exact zf1 c c1, fun b hb => by (repeat rw [zj_s_eq]); (repeat rw [zz_upd_ne _ _ (by omega)]); exact zf2 b hb, 3, p, (p + j), ⟨p, hpe, Or.inr ⟨hp, rfl, p + j, hE, Or.inr ⟨by omega, rfl, Or.inr (Or.inl ⟨zw_sh (p := fun i => zw_dig (h 2 i)) hall1, by omega, rfl, by rw [show p + j - p = j by omega, zj_s_eq, zz_upd_ne _ _ (by decide)]; exact zvl hall1⟩)⟩⟩⟩, ?_, ?_, ?_, by omega⟩
                   · (repeat rw [zj_s_eq]); (repeat rw [zz_upd_ne _ _ (by decide)]); exact e4
                   · (repeat rw [zj_s_eq]); (repeat rw [zz_upd_ne _ _ (by decide)]); exact e5
                   · (repeat rw [zj_s_eq]); exact zz_upd_at _ _ _)
                | (refine ⟨rfl, rfl, fun c c1 => by (repeat rw [zj_s_ne _ _ c1]); exact zf1 c c1, fun b hb => by (repeat rw [zj_s_eq]); (repeat rw [zz_upd_ne _ _ (by omega)]); exact zf2 b hb, 0, p, (p + j), ⟨p, hpe, Or.inr ⟨hp, rfl, p + j, hE, Or.inr ⟨by omega, rfl, Or.inr (Or.inr ⟨hsome, hnot, rfl⟩)⟩⟩⟩, ?_, ?_, ?_, by omega⟩
                   · (repeat rw [zj_s_eq]); (repeat rw [zz_upd_ne _ _ (by decide)]); exact e4
                   · (repeat rw [zj_s_eq]); (repeat rw [zz_upd_ne _ _ (by decide)]); exact e5
                   · (repeat rw [zj_s_eq]); exact zz_upd_at _ _ _))
          · have hj0 : j = 0 := by
              rw [e5, e4] at c_193
              have := (nI_eq (by omega) (by omega)).mp c_193
              omega
            refine zj_aload_n (i := 0) (pc := 196) K dX4_step_196 rfl rfl ?_
            refine zj_aload_n (i := 0) (pc := 197) K dX4_step_197 rfl rfl ?_
            refine zj_getR (pc := 198) K lf_X4_9 hs_R rfl dX4_step_198 ?_
            refine zj_getR (pc := 201) K lf_X4_142 hs_T rfl dX4_step_201 ?_
            refine zj_aload_n (i := 0) (pc := 204) K dX4_step_204 rfl rfl ?_
            refine zj_getI (pc := 205) K lf_X4_32 hs_R rfl dX4_step_205 ?_
            refine zj_bld (j := p + j) (pc := 208) K hs_Tb e5 (by omega) (by first | decide | omega) dX4_step_208 ?_
            refine zj_bipush (v := 59) (pc := 209) K dX4_step_209 (by decide) ?_
            refine zj_icmp_ne (tgt := 218) (pc := 211) K dX4_step_211 (by decide) (fun c_211 => ?_) (fun c_211 => ?_)
            · rw [eb] at c_211
              have hn59 : ¬ h 2 p = 59 := by rw [hj0] at c_211; exact c_211
              refine zj_iconst (v := 0) (pc := 218) K dX4_step_218 (by decide) ?_
              refine zj_putI (pc := 219) K lf_X4_42 hs_R rfl dX4_step_219 ?_
              refine zj_aload_n (i := 0) (pc := 222) K dX4_step_222 rfl rfl ?_
              refine zj_dup (pc := 223) K dX4_step_223 rfl ?_
              refine zj_getI (pc := 224) K lf_X4_32 hs_R rfl dX4_step_224 ?_
              refine zj_iconst (v := 1) (pc := 227) K dX4_step_227 (by decide) ?_
              refine zj_iadd (pc := 228) K dX4_step_228 ?_
              refine zj_putI (pc := 229) K lf_X4_32 hs_R rfl dX4_step_229 ?_
              refine zj_goto (tgt := 274) (pc := 232) K dX4_step_232 (by decide) ?_
              exact zj_vret K Rt dX4_step_274 (by
                first
                | (refine ⟨rfl, rfl, fun c c1 => by (repeat rw [zj_s_ne _ _ c1]); exact zf1 c c1, fun b hb => by (repeat rw [zj_s_eq]); (repeat rw [zz_upd_ne _ _ (by omega)]); exact zf2 b hb, 4, p, (p + 1), ⟨p, hpe, Or.inr ⟨hp, rfl, p + j, hE, Or.inl ⟨by omega, by rw [if_pos h59], rfl⟩⟩⟩, ?_, ?_, ?_, by omega⟩
                   · (repeat rw [zj_s_eq]); (repeat rw [zz_upd_ne _ _ (by decide)]); exact e4
                   · (repeat rw [zj_s_eq]); rw [zz_upd_at, zz_upd_ne _ _ (by decide), e5, show p + j = p by omega, nI_1]
                   · (repeat rw [zj_s_eq]); exact (zz_upd_ne _ _ (by decide)).trans (zz_upd_at _ _ _))
                | (refine ⟨rfl, rfl, fun c c1 => by (repeat rw [zj_s_ne _ _ c1]); exact zf1 c c1, fun b hb => by (repeat rw [zj_s_eq]); (repeat rw [zz_upd_ne _ _ (by omega)]); exact zf2 b hb, 0, p, (p + 1), ⟨p, hpe, Or.inr ⟨hp, rfl, p + j, hE, Or.inl ⟨by omega, by rw [if_neg hn59], rfl⟩⟩⟩, ?_, ?_, ?_, by omega⟩
                   · (repeat rw [zj_s_eq]); (repeat rw [zz_upd_ne _ _ (by decide)]); exact e4
                   · (repeat rw [zj_s_eq]); rw [zz_upd_at, zz_upd_ne _ _ (by decide), e5, show p + j = p by omega, nI_1]
                   · (repeat rw [zj_s_eq]); exact (zz_upd_ne _ _ (by decide)).trans (zz_upd_at _ _ _))
                | (refine ⟨rfl, rfl, fun c c1 => by (repeat rw [zj_s_ne _ _ c1]); exact zf1 c c1, fun b hb => by (repeat rw [zj_s_eq]); (repeat rw [zz_upd_ne _ _ (by omega)]); exact zf2 b hb, 2, p, (p + j), ⟨p, hpe, Or.inr ⟨hp, rfl, p + j, hE, Or.inr ⟨by omega, rfl, Or.inl ⟨zw_sh (p := fun i => zw_dig (h 2 i)) hall0, rfl⟩⟩⟩⟩, ?_, ?_, ?_, by omega⟩
                   · (repeat rw [zj_s_eq]); (repeat rw [zz_upd_ne _ _ (by decide)]); exact e4
                   · (repeat rw [zj_s_eq]); (repeat rw [zz_upd_ne _ _ (by decide)]); exact e5
                   · (repeat rw [zj_s_eq]); exact zz_upd_at _ _ _)
                | (refine ⟨rfl, rfl, fun c c1 => by (repeat rw [zj_s_ne _ _ c1]); exact zf1 c c1, fun b hb => by (repeat rw [zj_s_eq]); (repeat rw [zz_upd_ne _ _ (by omega)]); exact zf2 b hb, 3, p, (p + j), ⟨p, hpe, Or.inr ⟨hp, rfl, p + j, hE, Or.inr ⟨by omega, rfl, Or.inr (Or.inl ⟨zw_sh (p := fun i => zw_dig (h 2 i)) hall1, by omega, rfl, by rw [show p + j - p = j by omega, zj_s_eq, zz_upd_ne _ _ (by decide)]; exact zvl hall1⟩)⟩⟩⟩, ?_, ?_, ?_, by omega⟩
                   · (repeat rw [zj_s_eq]); (repeat rw [zz_upd_ne _ _ (by decide)]); exact e4
                   · (repeat rw [zj_s_eq]); (repeat rw [zz_upd_ne _ _ (by decide)]); exact e5
                   · (repeat rw [zj_s_eq]); exact zz_upd_at _ _ _)
                | (refine ⟨rfl, rfl, fun c c1 => by (repeat rw [zj_s_ne _ _ c1]); exact zf1 c c1, fun b hb => by (repeat rw [zj_s_eq]); (repeat rw [zz_upd_ne _ _ (by omega)]); exact zf2 b hb, 0, p, (p + j), ⟨p, hpe, Or.inr ⟨hp, rfl, p + j, hE, Or.inr ⟨by omega, rfl, Or.inr (Or.inr ⟨hsome, hnot, rfl⟩)⟩⟩⟩, ?_, ?_, ?_, by omega⟩
                   · (repeat rw [zj_s_eq]); (repeat rw [zz_upd_ne _ _ (by decide)]); exact e4
                   · (repeat rw [zj_s_eq]); (repeat rw [zz_upd_ne _ _ (by decide)]); exact e5
                   · (repeat rw [zj_s_eq]); exact zz_upd_at _ _ _))
            · rw [eb] at c_211
              have h59 : h 2 p = 59 := by rw [hj0] at c_211; exact c_211
              refine zj_iconst (v := 4) (pc := 214) K dX4_step_214 (by decide) ?_
              refine zj_goto (tgt := 219) (pc := 215) K dX4_step_215 (by decide) ?_
              refine zj_putI (pc := 219) K lf_X4_42 hs_R rfl dX4_step_219 ?_
              refine zj_aload_n (i := 0) (pc := 222) K dX4_step_222 rfl rfl ?_
              refine zj_dup (pc := 223) K dX4_step_223 rfl ?_
              refine zj_getI (pc := 224) K lf_X4_32 hs_R rfl dX4_step_224 ?_
              refine zj_iconst (v := 1) (pc := 227) K dX4_step_227 (by decide) ?_
              refine zj_iadd (pc := 228) K dX4_step_228 ?_
              refine zj_putI (pc := 229) K lf_X4_32 hs_R rfl dX4_step_229 ?_
              refine zj_goto (tgt := 274) (pc := 232) K dX4_step_232 (by decide) ?_
              exact zj_vret K Rt dX4_step_274 (by
                first
                | (refine ⟨rfl, rfl, fun c c1 => by (repeat rw [zj_s_ne _ _ c1]); exact zf1 c c1, fun b hb => by (repeat rw [zj_s_eq]); (repeat rw [zz_upd_ne _ _ (by omega)]); exact zf2 b hb, 4, p, (p + 1), ⟨p, hpe, Or.inr ⟨hp, rfl, p + j, hE, Or.inl ⟨by omega, by rw [if_pos h59], rfl⟩⟩⟩, ?_, ?_, ?_, by omega⟩
                   · (repeat rw [zj_s_eq]); (repeat rw [zz_upd_ne _ _ (by decide)]); exact e4
                   · (repeat rw [zj_s_eq]); rw [zz_upd_at, zz_upd_ne _ _ (by decide), e5, show p + j = p by omega, nI_1]
                   · (repeat rw [zj_s_eq]); exact (zz_upd_ne _ _ (by decide)).trans (zz_upd_at _ _ _))
                | (refine ⟨rfl, rfl, fun c c1 => by (repeat rw [zj_s_ne _ _ c1]); exact zf1 c c1, fun b hb => by (repeat rw [zj_s_eq]); (repeat rw [zz_upd_ne _ _ (by omega)]); exact zf2 b hb, 0, p, (p + 1), ⟨p, hpe, Or.inr ⟨hp, rfl, p + j, hE, Or.inl ⟨by omega, by rw [if_neg hn59], rfl⟩⟩⟩, ?_, ?_, ?_, by omega⟩
                   · (repeat rw [zj_s_eq]); (repeat rw [zz_upd_ne _ _ (by decide)]); exact e4
                   · (repeat rw [zj_s_eq]); rw [zz_upd_at, zz_upd_ne _ _ (by decide), e5, show p + j = p by omega, nI_1]
                   · (repeat rw [zj_s_eq]); exact (zz_upd_ne _ _ (by decide)).trans (zz_upd_at _ _ _))
                | (refine ⟨rfl, rfl, fun c c1 => by (repeat rw [zj_s_ne _ _ c1]); exact zf1 c c1, fun b hb => by (repeat rw [zj_s_eq]); (repeat rw [zz_upd_ne _ _ (by omega)]); exact zf2 b hb, 2, p, (p + j), ⟨p, hpe, Or.inr ⟨hp, rfl, p + j, hE, Or.inr ⟨by omega, rfl, Or.inl ⟨zw_sh (p := fun i => zw_dig (h 2 i)) hall0, rfl⟩⟩⟩⟩, ?_, ?_, ?_, by omega⟩
                   · (repeat rw [zj_s_eq]); (repeat rw [zz_upd_ne _ _ (by decide)]); exact e4
                   · (repeat rw [zj_s_eq]); (repeat rw [zz_upd_ne _ _ (by decide)]); exact e5
                   · (repeat rw [zj_s_eq]); exact zz_upd_at _ _ _)
                | (refine ⟨rfl, rfl, fun c c1 => by (repeat rw [zj_s_ne _ _ c1]); exact zf1 c c1, fun b hb => by (repeat rw [zj_s_eq]); (repeat rw [zz_upd_ne _ _ (by omega)]); exact zf2 b hb, 3, p, (p + j), ⟨p, hpe, Or.inr ⟨hp, rfl, p + j, hE, Or.inr ⟨by omega, rfl, Or.inr (Or.inl ⟨zw_sh (p := fun i => zw_dig (h 2 i)) hall1, by omega, rfl, by rw [show p + j - p = j by omega, zj_s_eq, zz_upd_ne _ _ (by decide)]; exact zvl hall1⟩)⟩⟩⟩, ?_, ?_, ?_, by omega⟩
                   · (repeat rw [zj_s_eq]); (repeat rw [zz_upd_ne _ _ (by decide)]); exact e4
                   · (repeat rw [zj_s_eq]); (repeat rw [zz_upd_ne _ _ (by decide)]); exact e5
                   · (repeat rw [zj_s_eq]); exact zz_upd_at _ _ _)
                | (refine ⟨rfl, rfl, fun c c1 => by (repeat rw [zj_s_ne _ _ c1]); exact zf1 c c1, fun b hb => by (repeat rw [zj_s_eq]); (repeat rw [zz_upd_ne _ _ (by omega)]); exact zf2 b hb, 0, p, (p + j), ⟨p, hpe, Or.inr ⟨hp, rfl, p + j, hE, Or.inr ⟨by omega, rfl, Or.inr (Or.inr ⟨hsome, hnot, rfl⟩)⟩⟩⟩, ?_, ?_, ?_, by omega⟩
                   · (repeat rw [zj_s_eq]); (repeat rw [zz_upd_ne _ _ (by decide)]); exact e4
                   · (repeat rw [zj_s_eq]); (repeat rw [zz_upd_ne _ _ (by decide)]); exact e5
                   · (repeat rw [zj_s_eq]); exact zz_upd_at _ _ _))
        · replace c_122 := zz_n0.mp c_122
          rw [eb] at c_122
          refine zj_aload_n (i := 0) (pc := 125) K dX4_step_125 rfl rfl ?_
          refine zj_getR (pc := 126) K lf_X4_9 hs_R rfl dX4_step_126 ?_
          refine zj_getR (pc := 129) K lf_X4_142 hs_T rfl dX4_step_129 ?_
          refine zj_aload_n (i := 0) (pc := 132) K dX4_step_132 rfl rfl ?_
          refine zj_getI (pc := 133) K lf_X4_32 hs_R rfl dX4_step_133 ?_
          refine zj_bld (j := p + j) (pc := 136) K hs_Tb e5 (by omega) (by first | decide | omega) dX4_step_136 ?_
          refine zj_bipush (v := 57) (pc := 137) K dX4_step_137 (by decide) ?_
          refine zj_icmp_gt (tgt := 172) (pc := 139) K dX4_step_139 (by decide) (fun c_139 => ?_) (fun c_139 => ?_)
          · rw [eb] at c_139
            have hd : zw_dig (h 2 (p + j)) = false := zw_f2 c_139
            refine zj_aload_n (i := 0) (pc := 172) K dX4_step_172 rfl rfl ?_
            refine zj_dup (pc := 173) K dX4_step_173 rfl ?_
            refine zj_getI (pc := 174) K lf_X4_32 hs_R rfl dX4_step_174 ?_
            refine zj_iconst (v := 1) (pc := 177) K dX4_step_177 (by decide) ?_
            refine zj_iadd (pc := 178) K dX4_step_178 ?_
            refine zj_putI (pc := 179) K lf_X4_32 hs_R rfl dX4_step_179 ?_
            refine zj_goto (tgt := 93) (pc := 182) K dX4_step_182 (by decide) ?_
            have zan2 : ∀ k, k < j + 1 → zw_an (h 2) (p + k) = true := fun k hk => by
              by_cases e : k = j
              · rw [e]; exact c_122
              · exact zan k (by omega)
            first
            | (refine ih (j + 1) _ _ _ (by omega) (by omega) (fun c c1 => by (repeat rw [zj_s_ne _ _ c1]); exact zf1 c c1) (fun b hb => by (repeat rw [zj_s_eq]); (repeat rw [zz_upd_ne _ _ (by omega)]); exact zf2 b hb) ?_ ?_ (zc_cnt_f ex2 hd) zan2 (fun z => absurd (z j (by omega)) (by rw [hd]; decide))
               · (repeat rw [zj_s_eq]); (repeat rw [zz_upd_ne _ _ (by decide)]); exact e4
               · rw [zj_s_eq, zz_upd_at, e5, nI_1]; rfl)
            | (refine ih (j + 1) _ _ _ (by omega) (by omega) (fun c c1 => by (repeat rw [zj_s_ne _ _ c1]); exact zf1 c c1) (fun b hb => by (repeat rw [zj_s_eq]); (repeat rw [zz_upd_ne _ _ (by omega)]); exact zf2 b hb) ?_ ?_ (zc_cnt_t ex2 hd) zan2 (fun z => ?_)
               · (repeat rw [zj_s_eq]); (repeat rw [zz_upd_ne _ _ (by decide)]); exact e4
               · rw [zj_s_eq, zz_upd_at, zj_s_eq, zz_upd_ne _ _ (by decide), e5, nI_1]; rfl
               · rw [zj_s_eq, zz_upd_ne _ _ (by decide), zj_s_eq, zz_upd_at, zvl (fun k hk => z k (by omega)), eb]; rfl)
          · rw [eb] at c_139
            have hd : zw_dig (h 2 (p + j)) = true := zw_dig_of c_122 c_139
            refine zj_iinc (v := 1) (pc := 142) K dX4_step_142 rfl (by decide) rfl rfl rfl ?_
            refine zj_aload_n (i := 0) (pc := 145) K dX4_step_145 rfl rfl ?_
            refine zj_aload_n (i := 0) (pc := 146) K dX4_step_146 rfl rfl ?_
            refine zj_getI (pc := 147) K lf_X4_124 hs_R rfl dX4_step_147 ?_
            refine zj_bipush (v := 10) (pc := 150) K dX4_step_150 (by decide) ?_
            refine zj_imul (pc := 152) K dX4_step_152 ?_
            refine zj_aload_n (i := 0) (pc := 153) K dX4_step_153 rfl rfl ?_
            refine zj_getR (pc := 154) K lf_X4_9 hs_R rfl dX4_step_154 ?_
            refine zj_getR (pc := 157) K lf_X4_142 hs_T rfl dX4_step_157 ?_
            refine zj_aload_n (i := 0) (pc := 160) K dX4_step_160 rfl rfl ?_
            refine zj_getI (pc := 161) K lf_X4_32 hs_R rfl dX4_step_161 ?_
            refine zj_bld (j := p + j) (pc := 164) K hs_Tb e5 (by omega) (by first | decide | omega) dX4_step_164 ?_
            refine zj_bipush (v := 48) (pc := 165) K dX4_step_165 (by decide) ?_
            refine zj_isub (pc := 167) K dX4_step_167 ?_
            refine zj_iadd (pc := 168) K dX4_step_168 ?_
            refine zj_putI (pc := 169) K lf_X4_124 hs_R rfl dX4_step_169 ?_
            refine zj_aload_n (i := 0) (pc := 172) K dX4_step_172 rfl rfl ?_
            refine zj_dup (pc := 173) K dX4_step_173 rfl ?_
            refine zj_getI (pc := 174) K lf_X4_32 hs_R rfl dX4_step_174 ?_
            refine zj_iconst (v := 1) (pc := 177) K dX4_step_177 (by decide) ?_
            refine zj_iadd (pc := 178) K dX4_step_178 ?_
            refine zj_putI (pc := 179) K lf_X4_32 hs_R rfl dX4_step_179 ?_
            refine zj_goto (tgt := 93) (pc := 182) K dX4_step_182 (by decide) ?_
            have zan2 : ∀ k, k < j + 1 → zw_an (h 2) (p + k) = true := fun k hk => by
              by_cases e : k = j
              · rw [e]; exact c_122
              · exact zan k (by omega)
            first
            | (refine ih (j + 1) _ _ _ (by omega) (by omega) (fun c c1 => by (repeat rw [zj_s_ne _ _ c1]); exact zf1 c c1) (fun b hb => by (repeat rw [zj_s_eq]); (repeat rw [zz_upd_ne _ _ (by omega)]); exact zf2 b hb) ?_ ?_ (zc_cnt_f ex2 hd) zan2 (fun z => absurd (z j (by omega)) (by rw [hd]; decide))
               · (repeat rw [zj_s_eq]); (repeat rw [zz_upd_ne _ _ (by decide)]); exact e4
               · rw [zj_s_eq, zz_upd_at, e5, nI_1]; rfl)
            | (refine ih (j + 1) _ _ _ (by omega) (by omega) (fun c c1 => by (repeat rw [zj_s_ne _ _ c1]); exact zf1 c c1) (fun b hb => by (repeat rw [zj_s_eq]); (repeat rw [zz_upd_ne _ _ (by omega)]); exact zf2 b hb) ?_ ?_ (zc_cnt_t ex2 hd) zan2 (fun z => ?_)
               · (repeat rw [zj_s_eq]); (repeat rw [zz_upd_ne _ _ (by decide)]); exact e4
               · rw [zj_s_eq, zz_upd_at, zj_s_eq, zz_upd_ne _ _ (by decide), e5, nI_1]; rfl
               · rw [zj_s_eq, zz_upd_ne _ _ (by decide), zj_s_eq, zz_upd_at, zvl (fun k hk => z k (by omega)), eb]; rfl)
  have loop : ∀ (m i : Nat) (q : zj_H), n + 1 ≤ i + m → i ≤ n → (∀ a, a ≠ 3 → q a = h a) → (∀ b, (b < 4 ∨ 8 ≤ b) → q 3 b = h 3 b) → q 3 5 = nI i → a ≤ i → (∀ k, a ≤ k → k < i → zw_bl (h 2 k) = true) → zj_J E Γ 3 0 [(0, .ref (E.2.1 3))] [] q g := by
    intro m
    induction m with
    | zero => intro i q h1 h2; omega
    | succ m ih =>
      intro i q h1 h2 zf1 zf2 e5 hai hbl
      have eLq : q 1 1 = nI n := by rw [zf1 1 (by decide)]; exact eL
      have eb : q 2 = h 2 := zf1 2 (by decide)
      
      refine zj_aload_n (i := 0) (pc := 0) K dX4_step_0 rfl rfl ?_
      refine zj_getI (pc := 1) K lf_X4_32 hs_R rfl dX4_step_1 ?_
      refine zj_aload_n (i := 0) (pc := 4) K dX4_step_4 rfl rfl ?_
      refine zj_getR (pc := 5) K lf_X4_9 hs_R rfl dX4_step_5 ?_
      refine zj_getI (pc := 8) K lf_X4_48 hs_T rfl dX4_step_8 ?_
      refine zj_icmp_ge (tgt := 45) (pc := 11) K dX4_step_11 (by decide) (fun c_11 => ?_) (fun c_11 => ?_)
      · have hn1 : i = n := Nat.le_antisymm h2 (zz_ge e5 eLq (by omega) (by omega) c_11)
        have hE1 : zw_e (fun i => zw_bl (h 2 i)) n a i := ⟨hai, h2, hbl, fun z => by omega⟩
        refine zj_aload_n (i := 0) (pc := 45) K dX4_step_45 rfl rfl ?_
        refine zj_getR (pc := 46) K lf_X4_9 hs_R rfl dX4_step_46 ?_
        refine zj_getI (pc := 49) K lf_X4_48 hs_T rfl dX4_step_49 ?_
        refine zj_sipush (v := 500) (pc := 52) K dX4_step_52 (by decide) ?_
        refine zj_mmin (pc := 55) K lx_X4_153 (by decide) (Nat.le_of_ble_eq_true rfl) dX4_step_55 ?_
        refine zj_top (x' := nI (min n 500)) (zw_min eLq hn) ?_
        refine zj_istore_n (i := 1) (pc := 58) K dX4_step_58 rfl rfl rfl rfl ?_
        refine zj_aload_n (i := 0) (pc := 59) K dX4_step_59 rfl rfl ?_
        refine zj_getI (pc := 60) K lf_X4_32 hs_R rfl dX4_step_60 ?_
        refine zj_iload_n (i := 1) (pc := 63) K dX4_step_63 rfl rfl ?_
        refine zj_icmp_lt (tgt := 78) (pc := 64) K dX4_step_64 (by decide) (fun c_64 => ?_) (fun c_64 => ?_)
        · rw [e5] at c_64
          have hmn : min n 500 ≤ n := Nat.min_le_left _ _
          have hlt : i < min n 500 := (nI_ltI (by omega) (by omega)).mp c_64
          refine zj_aload_n (i := 0) (pc := 78) K dX4_step_78 rfl rfl ?_
          refine zj_aload_n (i := 0) (pc := 79) K dX4_step_79 rfl rfl ?_
          refine zj_getI (pc := 80) K lf_X4_32 hs_R rfl dX4_step_80 ?_
          refine zj_putI (pc := 83) K lf_X4_135 hs_R rfl dX4_step_83 ?_
          refine zj_iconst (v := 0) (pc := 86) K dX4_step_86 (by decide) ?_
          refine zj_istore_n (i := 2) (pc := 87) K dX4_step_87 rfl rfl rfl rfl ?_
          refine zj_aload_n (i := 0) (pc := 88) K dX4_step_88 rfl rfl ?_
          refine zj_iconst (v := 0) (pc := 89) K dX4_step_89 (by decide) ?_
          refine zj_putI (pc := 90) K lf_X4_124 hs_R rfl dX4_step_90 ?_
          refine lp2 i hlt hE1 (n + 1) 0 _ _ _ (by omega) (by omega) (fun c c1 => by (repeat rw [zj_s_ne _ _ c1]); exact zf1 c c1) (fun b hb => by (repeat rw [zj_s_eq]); (repeat rw [zz_upd_ne _ _ (by omega)]); exact zf2 b hb) ?_ ?_ rfl (fun k hk => by omega) (fun _ => ?_)
          · rw [zj_s_eq, zz_upd_ne _ _ (by decide), zj_s_eq, zz_upd_at]; exact e5
          · rw [zj_s_eq, zz_upd_ne _ _ (by decide), zj_s_eq, zz_upd_ne _ _ (by decide)]; exact e5
          · rw [zj_s_eq, zz_upd_at]; rfl
        · rw [e5] at c_64
          have hmn : min n 500 ≤ n := Nat.min_le_left _ _
          have hge : min n 500 ≤ i := Nat.le_of_not_lt (fun z => c_64 ((nI_ltI (by omega) (by omega)).mpr z))
          refine zj_aload_n (i := 0) (pc := 67) K dX4_step_67 rfl rfl ?_
          refine zj_iload_n (i := 1) (pc := 68) K dX4_step_68 rfl rfl ?_
          refine zj_putI (pc := 69) K lf_X4_135 hs_R rfl dX4_step_69 ?_
          refine zj_aload_n (i := 0) (pc := 72) K dX4_step_72 rfl rfl ?_
          refine zj_iconst (v := 1) (pc := 73) K dX4_step_73 (by decide) ?_
          refine zj_putI (pc := 74) K lf_X4_42 hs_R rfl dX4_step_74 ?_
          exact zj_vret K Rt dX4_step_77 (by
            refine ⟨rfl, rfl, fun c c1 => by (repeat rw [zj_s_ne _ _ c1]); exact zf1 c c1, fun b hb => by (repeat rw [zj_s_eq]); (repeat rw [zz_upd_ne _ _ (by omega)]); exact zf2 b hb, 1, min n 500, i, ⟨i, hE1, Or.inl ⟨hge, rfl, rfl, rfl⟩⟩, ?_, ?_, ?_, h2⟩
            · rw [zj_s_eq, zz_upd_ne _ _ (by decide), zj_s_eq, zz_upd_at]
            · rw [zj_s_eq, zz_upd_ne _ _ (by decide), zj_s_eq, zz_upd_ne _ _ (by decide)]; exact e5
            · rw [zj_s_eq, zz_upd_at]; rfl)
      · have hn1 : i < n := zz_nge e5 eLq (by omega) (by omega) c_11
        refine zj_aload_n (i := 0) (pc := 14) K dX4_step_14 rfl rfl ?_
        refine zj_getR (pc := 15) K lf_X4_9 hs_R rfl dX4_step_15 ?_
        refine zj_getR (pc := 18) K lf_X4_142 hs_T rfl dX4_step_18 ?_
        refine zj_aload_n (i := 0) (pc := 21) K dX4_step_21 rfl rfl ?_
        refine zj_getI (pc := 22) K lf_X4_32 hs_R rfl dX4_step_22 ?_
        refine zj_bld (j := i) (pc := 25) K hs_Tb e5 (by omega) (by first | decide | omega) dX4_step_25 ?_
        refine zj_cS1I (pc := 26) K lm_X4_150 (m_X4_isBlank) (by decide) rfl (Nat.le_of_ble_eq_true rfl) dX4_step_26 ?_
        refine zj_if_eq (tgt := 45) (pc := 29) K dX4_step_29 (by decide) (fun c_29 => ?_) (fun c_29 => ?_)
        · replace c_29 := zz_i0.mp c_29
          rw [eb] at c_29
          have hE1 : zw_e (fun i => zw_bl (h 2 i)) n a i := ⟨hai, h2, hbl, fun _ => c_29⟩
          refine zj_aload_n (i := 0) (pc := 45) K dX4_step_45 rfl rfl ?_
          refine zj_getR (pc := 46) K lf_X4_9 hs_R rfl dX4_step_46 ?_
          refine zj_getI (pc := 49) K lf_X4_48 hs_T rfl dX4_step_49 ?_
          refine zj_sipush (v := 500) (pc := 52) K dX4_step_52 (by decide) ?_
          refine zj_mmin (pc := 55) K lx_X4_153 (by decide) (Nat.le_of_ble_eq_true rfl) dX4_step_55 ?_
          refine zj_top (x' := nI (min n 500)) (zw_min eLq hn) ?_
          refine zj_istore_n (i := 1) (pc := 58) K dX4_step_58 rfl rfl rfl rfl ?_
          refine zj_aload_n (i := 0) (pc := 59) K dX4_step_59 rfl rfl ?_
          refine zj_getI (pc := 60) K lf_X4_32 hs_R rfl dX4_step_60 ?_
          refine zj_iload_n (i := 1) (pc := 63) K dX4_step_63 rfl rfl ?_
          refine zj_icmp_lt (tgt := 78) (pc := 64) K dX4_step_64 (by decide) (fun c_64 => ?_) (fun c_64 => ?_)
          · rw [e5] at c_64
            have hmn : min n 500 ≤ n := Nat.min_le_left _ _
            have hlt : i < min n 500 := (nI_ltI (by omega) (by omega)).mp c_64
            refine zj_aload_n (i := 0) (pc := 78) K dX4_step_78 rfl rfl ?_
            refine zj_aload_n (i := 0) (pc := 79) K dX4_step_79 rfl rfl ?_
            refine zj_getI (pc := 80) K lf_X4_32 hs_R rfl dX4_step_80 ?_
            refine zj_putI (pc := 83) K lf_X4_135 hs_R rfl dX4_step_83 ?_
            refine zj_iconst (v := 0) (pc := 86) K dX4_step_86 (by decide) ?_
            refine zj_istore_n (i := 2) (pc := 87) K dX4_step_87 rfl rfl rfl rfl ?_
            refine zj_aload_n (i := 0) (pc := 88) K dX4_step_88 rfl rfl ?_
            refine zj_iconst (v := 0) (pc := 89) K dX4_step_89 (by decide) ?_
            refine zj_putI (pc := 90) K lf_X4_124 hs_R rfl dX4_step_90 ?_
            refine lp2 i hlt hE1 (n + 1) 0 _ _ _ (by omega) (by omega) (fun c c1 => by (repeat rw [zj_s_ne _ _ c1]); exact zf1 c c1) (fun b hb => by (repeat rw [zj_s_eq]); (repeat rw [zz_upd_ne _ _ (by omega)]); exact zf2 b hb) ?_ ?_ rfl (fun k hk => by omega) (fun _ => ?_)
            · rw [zj_s_eq, zz_upd_ne _ _ (by decide), zj_s_eq, zz_upd_at]; exact e5
            · rw [zj_s_eq, zz_upd_ne _ _ (by decide), zj_s_eq, zz_upd_ne _ _ (by decide)]; exact e5
            · rw [zj_s_eq, zz_upd_at]; rfl
          · rw [e5] at c_64
            have hmn : min n 500 ≤ n := Nat.min_le_left _ _
            have hge : min n 500 ≤ i := Nat.le_of_not_lt (fun z => c_64 ((nI_ltI (by omega) (by omega)).mpr z))
            refine zj_aload_n (i := 0) (pc := 67) K dX4_step_67 rfl rfl ?_
            refine zj_iload_n (i := 1) (pc := 68) K dX4_step_68 rfl rfl ?_
            refine zj_putI (pc := 69) K lf_X4_135 hs_R rfl dX4_step_69 ?_
            refine zj_aload_n (i := 0) (pc := 72) K dX4_step_72 rfl rfl ?_
            refine zj_iconst (v := 1) (pc := 73) K dX4_step_73 (by decide) ?_
            refine zj_putI (pc := 74) K lf_X4_42 hs_R rfl dX4_step_74 ?_
            exact zj_vret K Rt dX4_step_77 (by
              refine ⟨rfl, rfl, fun c c1 => by (repeat rw [zj_s_ne _ _ c1]); exact zf1 c c1, fun b hb => by (repeat rw [zj_s_eq]); (repeat rw [zz_upd_ne _ _ (by omega)]); exact zf2 b hb, 1, min n 500, i, ⟨i, hE1, Or.inl ⟨hge, rfl, rfl, rfl⟩⟩, ?_, ?_, ?_, h2⟩
              · rw [zj_s_eq, zz_upd_ne _ _ (by decide), zj_s_eq, zz_upd_at]
              · rw [zj_s_eq, zz_upd_ne _ _ (by decide), zj_s_eq, zz_upd_ne _ _ (by decide)]; exact e5
              · rw [zj_s_eq, zz_upd_at]; rfl)
        · replace c_29 := zz_n0.mp c_29
          rw [eb] at c_29
          refine zj_aload_n (i := 0) (pc := 32) K dX4_step_32 rfl rfl ?_
          refine zj_dup (pc := 33) K dX4_step_33 rfl ?_
          refine zj_getI (pc := 34) K lf_X4_32 hs_R rfl dX4_step_34 ?_
          refine zj_iconst (v := 1) (pc := 37) K dX4_step_37 (by decide) ?_
          refine zj_iadd (pc := 38) K dX4_step_38 ?_
          refine zj_putI (pc := 39) K lf_X4_32 hs_R rfl dX4_step_39 ?_
          refine zj_goto (tgt := 0) (pc := 42) K dX4_step_42 (by decide) ?_
          refine ih (i + 1) _ (by omega) (by omega) (fun c c1 => by (repeat rw [zj_s_ne _ _ c1]); exact zf1 c c1) (fun b hb => by (repeat rw [zj_s_eq]); (repeat rw [zz_upd_ne _ _ (by omega)]); exact zf2 b hb) (by rw [zj_s_eq, zz_upd_at, e5, nI_1]) (by omega) (fun k k1 k2 => ?_)
          by_cases e : k = i
          · rw [e]; exact c_29
          · exact hbl k k1 (by omega)
  show zj_J E Γ 3 0 [(0, .ref (E.2.1 3))] [] h g
  exact loop (n + 1) a h (by omega) ha (fun _ _ => rfl) (fun _ _ => rfl) ea (Nat.le_refl _) (fun k k1 k2 => by omega)
