-- answers of courts that agree
theorem zif_f {p q r : Bool} {x y z : Int32} (h : p = false) : (if (p && q) = true then x else z) = (if (p && r) = true then y else z) := by
  subst h
  rw [if_neg (by rw [Bool.false_and]; exact Bool.false_ne_true), if_neg (by rw [Bool.false_and]; exact Bool.false_ne_true)]
section ZQE
variable {τ τ' : zτ} {δ δ' : zδ}
theorem zτe.sy (h : zτe τ τ') : zτe τ' τ := ⟨h.1.symm, h.2.1.symm, h.2.2.1.symm, h.2.2.2.1.symm, h.2.2.2.2.1.symm, h.2.2.2.2.2.1.symm, fun j hj => (h.2.2.2.2.2.2.1 j (by rw [h.1]; exact hj)).symm, fun c hc => (h.2.2.2.2.2.2.2.1 c (by rw [h.2.1]; exact hc)).symm, fun b => (h.2.2.2.2.2.2.2.2 b).symm⟩
theorem zq_pair_e (ht : zτe τ τ') (hd : zδe τ.2.1 δ δ') (x y : Int32) : zq_pair τ δ x y = zq_pair τ' δ' x y := by
  unfold zq_pair
  rw [← ht.1, ← ht.2.1, zs_pair_e hd.2.2.2.1]
theorem zq_P_e (hd : zδe τ.2.1 δ δ') : zq_P τ.2.1 δ.2.2.2.1 = zq_P τ.2.1 δ'.2.2.2.1 := by
  funext q; unfold zq_P; rw [zs_pair_e hd.2.2.2.1]
theorem zq_L_e (ht : zτe τ τ') (hd : zδe τ.2.1 δ δ') : zq_L τ δ = zq_L τ' δ' := by
  funext j
  unfold zq_L
  rw [zs_load_e hd.2.2.2.1 ht.2.2.2.2.2.2.2.1 ht.2.2.2.2.2.2.1, ht.1, ht.2.1, ht.2.2.2.2.2.1]
theorem zq_spr_e (ht : zτe τ τ') (hd : zδe τ.2.1 δ δ') (x : Int32) : zq_spr τ δ x = zq_spr τ' δ' x := by
  unfold zq_spr
  rw [zq_L_e ht hd, zq_P_e hd, ht.1, ht.2.1]
theorem zq_c {x : Int32} (hC : τ.2.1 ≤ 14) (h : zz_in x τ.2.1 = true) : x.toNatClampNeg < τ.2.1 := by
  obtain ⟨c, hc, rfl⟩ := zz_in_ex h (by omega)
  rw [nI_clamp (by omega)]; exact hc
theorem zq_law_e (hC : τ.2.1 ≤ 14) (ht : zτe τ τ') (hd : zδe τ.2.1 δ δ') (x : Int32) : zq_law τ δ x = zq_law τ' δ' x := by
  unfold zq_law
  rw [← ht.2.1]
  by_cases h : zz_in x τ.2.1 = true
  · rw [if_pos h, if_pos h, zd_l_e (θ' := zθo τ' δ') (zθo_e ht hd (zq_c hC h))]
  · rw [if_neg h, if_neg h]
theorem zq_ben_e (hC : τ.2.1 ≤ 14) (ht : zτe τ τ') (hd : zδe τ.2.1 δ δ') (x i : Int32) : zq_ben τ δ x i = zq_ben τ' δ' x i := by
  unfold zq_ben
  rw [← ht.2.1]
  by_cases h : zz_in x τ.2.1 = true
  · rw [zd_l_e (θ' := zθo τ' δ') (zθo_e ht hd (zq_c hC h))]
  · exact zif_f (Bool.eq_false_iff.mpr h)
theorem zq_rank_e (hC : τ.2.1 ≤ 14) (ht : zτe τ τ') (hd : zδe τ.2.1 δ δ') (x b : Int32) : zq_rank τ δ x b = zq_rank τ' δ' x b := by
  unfold zq_rank
  rw [← ht.2.1]
  by_cases h : zz_in x τ.2.1 = true
  · rw [if_pos h, if_pos h, zd_l_e (θ' := zθo τ' δ') (zθo_e ht hd (zq_c hC h))]
  · rw [if_neg h, if_neg h]
theorem zq_ten_e (hC : τ.2.1 ≤ 14) (ht : zτe τ τ') (hd : zδe τ.2.1 δ δ') (x b : Int32) : zq_ten τ δ x b = zq_ten τ' δ' x b := by
  unfold zq_ten
  rw [← ht.2.1, ← ht.1]
  by_cases h : zz_in x τ.2.1 = true
  · rw [zd_t_e (θ' := zθo τ' δ') (zθo_e ht hd (zq_c hC h)) hd.2.2.2.1]
  · exact zif_f (Bool.eq_false_iff.mpr h)
theorem zq_pool_e (hC : τ.2.1 ≤ 14) (ht : zτe τ τ') (hd : zδe τ.2.1 δ δ') (x : Int32) : zq_pool τ δ x = zq_pool τ' δ' x := by
  unfold zq_pool
  rw [← ht.2.1]
  by_cases h : zz_in x τ.2.1 = true
  · rw [if_pos h, if_pos h, zd_pool_e (θ' := zθo τ' δ') (zθo_e ht hd (zq_c hC h)) hd.2.2.2.1]
  · rw [if_neg h, if_neg h]
theorem zq_wor_e (hC : τ.2.1 ≤ 14) (ht : zτe τ τ') (hd : zδe τ.2.1 δ δ') (x : Int32) : zq_wor τ δ x = zq_wor τ' δ' x := by
  unfold zq_wor
  rw [← ht.2.1]
  by_cases h : zz_in x τ.2.1 = true
  · rw [if_pos h, if_pos h, zd_W_e (θ' := zθo τ' δ') (zθo_e ht hd (zq_c hC h)) hd.2.2.2.1]
  · rw [if_neg h, if_neg h]
theorem zq_ch_e (hC : τ.2.1 ≤ 14) (ht : zτe τ τ') (hd : zδe τ.2.1 δ δ') (x y : Int32) : zq_ch τ δ x y = zq_ch τ' δ' x y := by
  unfold zq_ch
  rw [← ht.2.1, ← ht.1]
  by_cases h : zz_in x τ.2.1 = true
  · have he := zθo_e ht hd (zq_c hC h)
    rw [zd_l_e (θ' := zθo τ' δ') he, zd_W_e (θ' := zθo τ' δ') he hd.2.2.2.1, zd_ts_e (θ' := zθo τ' δ') he hd.2.2.2.1]
  · exact zif_f (Bool.eq_false_iff.mpr h)
theorem zq_bet_e (hC : τ.2.1 ≤ 14) (ht : zτe τ τ') (hd : zδe τ.2.1 δ δ') (x : Int32) : zq_bet τ δ x = zq_bet τ' δ' x := by
  unfold zq_bet
  rw [← zo_bet_e hC ht hd]
  cases hb : zo_bet τ δ with
  | none => rfl
  | some r =>
    obtain ⟨a, i, b, j⟩ := r
    have hl := zo_bet_lt hb
    simp only
    rw [← ht.1, ← ht.2.1, zs_even_e hd.2.2.2.1, zs_even_e (zx_si_e (i := i) (j := j) hl.1 hl.2.2.2.1 hd.2.2.2.1)]
theorem zq_jud_e {j : Nat} (hj : j < τ.1) (ht : zτe τ τ') (hd : zδe τ.2.1 δ δ') (w : Int32) : zq_jud τ δ j w = zq_jud τ' δ' j w := by
  unfold zq_jud
  rw [← ht.1, ← ht.2.1, ← ht.2.2.2.2.2.2.1 j hj, ← hd.2.1, ← ht.2.2.2.2.2.1, zs_load_e hd.2.2.2.1 ht.2.2.2.2.2.2.2.1 ht.2.2.2.2.2.2.1, zc_cnt_congr (p := fun c => bt (δ.2.2.2.1 c) j) (q := fun c => bt (δ'.2.2.2.1 c) j) (fun c hc => by rw [hd.2.2.2.1 c hc]), zc_cnt_congr (p := fun c => bt (δ.2.2.2.2 c) j) (q := fun c => bt (δ'.2.2.2.2 c) j) (fun c hc => by rw [hd.2.2.2.2 c hc]), zc_cnt_congr (p := fun c => decide (zc_opt (zc_pre τ.2.2.2.2.2.2.1 (δ.2.2.2.1 c) τ.1) = nI j)) (q := fun c => decide (zc_opt (zc_pre τ'.2.2.2.2.2.2.1 (δ'.2.2.2.1 c) τ.1) = nI j)) (fun c hc => by rw [hd.2.2.2.1 c hc, zc_pre_congr ht.2.2.2.2.2.2.1])]
theorem zq_of_e {c : Nat} (hc : c < τ.2.1) (ht : zτe τ τ') (hd : zδe τ.2.1 δ δ') (w : Int32) : zq_of τ δ c w = zq_of τ' δ' c w := by
  unfold zq_of
  rw [← ht.1, ht.2.2.2.2.2.2.2.1 c hc, hd.2.2.2.2 c hc, hd.2.2.1 c hc, hd.2.2.2.1 c hc, zc_pre_congr ht.2.2.2.2.2.2.1]
end ZQE
-- who is AWAY: nine bits
def zaw (x : Int32) : Prop := ∃ a, a < 512 ∧ x = nI a
theorem zaw_tab : ∀ a, a < 512 → ∀ j, j < 9 → (nI a ||| zz_bit j = nI (nI a ||| zz_bit j).toNatClampNeg ∧ (nI a ||| zz_bit j).toNatClampNeg < 512) ∧ (zr_stay (nI a) j = nI (zr_stay (nI a) j).toNatClampNeg ∧ (zr_stay (nI a) j).toNatClampNeg < 512) := by decide +kernel
theorem zaw_leave {τ : zτ} {δ : zδ} {y r : Int32} {δ1 : zδ} (hJ : τ.1 ≤ 9) (h : zaw δ.2.1) (ho : zo_leave τ δ y = some (r, δ1)) : zaw δ1.2.1 := by
  unfold zo_leave at ho
  split at ho
  · next hc =>
    cases ho
    obtain ⟨a, ha, e⟩ := h
    obtain ⟨j, hj, ej⟩ := zz_in_ex hc.1 (by omega)
    have ht := (zaw_tab a ha j (by omega)).1
    refine ⟨_, ht.2, ?_⟩
    show δ.2.1 ||| zz_bit y.toNatClampNeg = _
    rw [e, ej, nI_clamp (by omega)]; exact ht.1
  · cases ho
theorem zaw_come {τ : zτ} {δ : zδ} {y r : Int32} {δ1 : zδ} (hJ : τ.1 ≤ 9) (h : zaw δ.2.1) (ho : zo_come τ δ y = some (r, δ1)) : zaw δ1.2.1 := by
  unfold zo_come at ho
  split at ho
  · next hc =>
    cases ho
    obtain ⟨a, ha, e⟩ := h
    obtain ⟨j, hj, ej⟩ := zz_in_ex hc.1 (by omega)
    have ht := (zaw_tab a ha j (by omega)).2
    refine ⟨_, ht.2, ?_⟩
    show zr_stay δ.2.1 y.toNatClampNeg = _
    rw [e, ej, nI_clamp (by omega)]; exact ht.1
  · cases ho
theorem zaw_draw {τ : zτ} {δ : zδ} {y r : Int32} {δ1 : zδ} (h : zaw δ.2.1) (ho : zo_draw τ δ y = some (r, δ1)) : zaw δ1.2.1 := by
  unfold zo_draw at ho
  split at ho
  · cases ho; exact h
  · cases ho
theorem zaw_rec {τ : zτ} {δ : zδ} {x y r : Int32} {δ1 : zδ} (h : zaw δ.2.1) (ho : zo_rec τ δ x y = some (r, δ1)) : zaw δ1.2.1 := by
  unfold zo_rec at ho
  split at ho
  · cases ho; exact h
  · cases ho
theorem zaw_hear {τ : zτ} {δ : zδ} {x r : Int32} {δ1 : zδ} (h : zaw δ.2.1) (ho : zo_hear τ δ x = some (r, δ1)) : zaw δ1.2.1 := by
  unfold zo_hear at ho
  split at ho
  · cases ho; exact h
  · cases ho
theorem zaw_ex {τ : zτ} {δ : zδ} {a b c d r : Int32} {δ1 : zδ} (h : zaw δ.2.1) (ho : zo_ex τ δ a b c d = some (r, δ1)) : zaw δ1.2.1 := by
  unfold zo_ex at ho
  split at ho
  · cases ho; exact h
  · cases ho
theorem zaw_sm {τ : zτ} : ∀ (f : Nat) (δ : zδ), (zo_sm τ f δ).2.2.1 = δ.2.1
  | 0, _ => rfl
  | f + 1, δ => by
    rw [zo_sm]
    cases hb : zo_bet τ δ with
    | none => rfl
    | some r =>
      obtain ⟨a, x, b, y⟩ := r
      exact zaw_sm f (zo_si δ (zx_si δ.2.2.2.1 a x b y))
theorem zaw_smo {τ : zτ} {δ : zδ} {r : Int32} {δ1 : zδ} (h : zaw δ.2.1) (ho : zo_smo τ δ = some (r, δ1)) : zaw δ1.2.1 := by
  unfold zo_smo at ho
  split at ho
  · cases ho
  · cases ho
    rw [zaw_sm]; exact h
/-- a row of the reference's history -/
def zδS (h : zj_H) (r : Nat) : zδ := (h 83 (89 * r + 5), h 83 (89 * r + 17), fun c => h 83 (89 * r + (75 + c)), fun c => h 83 (89 * r + (61 + c)), fun c => h 83 (89 * r + (47 + c)))
def zrg (nx ct r : Nat) : Nat := (nx + 11 - ct + r) % 11
/-- THE RELATION between class and reference -/
def zI1 (h : zj_H) (J C u : Nat) : Prop := h 8 6 = nI J ∧ J ≤ 9 ∧ h 8 7 = nI C ∧ C ≤ 14 ∧ h 8 1 = nI u ∧ u ≤ 20 ∧ h 80 7 = nI J ∧ h 80 18 = nI C ∧ h 80 0 = nI u ∧ zτe (zτC h J C u) (zτM h 80 J C u) ∧ (∃ m, m ≤ 9 ∧ h 8 2 = nI m) ∧ (∃ m, m ≤ 9 ∧ h 8 3 = nI m) ∧ (∃ m, m ≤ 9 ∧ h 8 4 = nI m) ∧ (∀ c, c < C → ∃ m, m ≤ 9 ∧ h 10 c = nI m) ∧ ∀ c, c < C → h 25 c = (zo_all (zτM h 80 J C u) (zδ0M h)).2.2.2.2.1 c
def zI2 (h : zj_H) (C : Nat) : Prop := zδe C (zδC h 13) (zδM h 80) ∧ zaw (h 13 1)
def zI3 (h : zj_H) (n : Nat) : Prop := h 1 1 = nI n ∧ n ≤ 540 ∧ h 78 2 = nI n ∧ zw_r (h 2) (h 79) n
def zI4 (h : zj_H) (C nx ct : Nat) : Prop := nx < 11 ∧ ct ≤ 10 ∧ h 32 1 = nI nx ∧ h 32 2 = nI ct ∧ h 78 17 = nI ct ∧ ∀ r, r < ct → zδe C (zδC h (34 + 4 * zrg nx ct r)) (zδS h r) ∧ zaw (h (34 + 4 * zrg nx ct r) 1) ∧ ∀ i, i < 47 → i ≠ 5 → i ≠ 17 → h 83 (89 * r + i) = h 80 i
def zI (h : zj_H) (J C u n nx ct : Nat) : Prop := zI1 h J C u ∧ zI2 h C ∧ zI3 h n ∧ zI4 h C nx ct ∧ h 0 6 = h 78 8
def zIx (h : zj_H) : Prop := ∃ J C u n nx ct, zI h J C u n nx ct
theorem zI1.hT {h : zj_H} {J C u : Nat} (a : zI1 h J C u) : ∀ δ si c b, 0 ≤ zd_t (zθo (zτC h J C u) δ) si c b := fun δ si c b => zs_ten_pos a.2.1 a.2.2.2.1 a.2.2.2.2.2.2.2.2.2.2.1 a.2.2.2.2.2.2.2.2.2.2.2.1 a.2.2.2.2.2.2.2.2.2.2.2.2.1 a.2.2.2.2.2.2.2.2.2.2.2.2.2.1
theorem zI1.hTM {h : zj_H} {J C u : Nat} (a : zI1 h J C u) : ∀ δ si c b, 0 ≤ zd_t (zθo (zτM h 80 J C u) δ) si c b := zm_hT a.2.2.2.2.2.2.2.2.2.1.sy a.hT
theorem zI1.hL {h : zj_H} {J C u : Nat} (a : zI1 h J C u) (δ : zδ) (j : Nat) : 0 ≤ zq_L (zτC h J C u) δ j := by
  obtain ⟨M, hM, e⟩ := zs_load_nI (C := C) (J := J) (B := δ.2.2.2.1) (W := h 10) (sen := h 9) (chair := h 8 4) (wo := -1) a.2.2.2.1 a.2.2.2.2.2.2.2.2.2.2.2.2.2.1 a.2.2.2.2.2.2.2.2.2.2.2.2.1 j
  show 0 ≤ zs_load C J δ.2.2.2.1 (h 10) (h 9) (h 8 4) (-1) j
  rw [e]; exact nI_pos' (by omega)
theorem zI1_c {h q : zj_H} {J C u : Nat} (e8 : q 8 = h 8) (e9 : q 9 = h 9) (e10 : q 10 = h 10) (e25 : q 25 = h 25) (e80 : ∀ i, i < 47 → i ≠ 5 → i ≠ 17 → q 80 i = h 80 i) (a : zI1 h J C u) : zI1 q J C u := by
  obtain ⟨a1, a2, a3, a4, a5, a6, a7, a8, a9, a10, a11, a12, a13, a14, a15⟩ := a
  have hm : zτe (zτM q 80 J C u) (zτM h 80 J C u) := zτM_e a2 a4 e80
  refine ⟨by rw [e8]; exact a1, a2, by rw [e8]; exact a3, a4, by rw [e8]; exact a5, a6, by rw [e80 7 (by decide) (by decide) (by decide)]; exact a7, by rw [e80 18 (by decide) (by decide) (by decide)]; exact a8, by rw [e80 0 (by decide) (by decide) (by decide)]; exact a9, ?_, by rw [e8]; exact a11, by rw [e8]; exact a12, by rw [e8]; exact a13, by rw [e10]; exact a14, fun c hc => ?_⟩
  · rw [zτC_congr e8 e9 e10]
    have hs := hm.sy
    exact ⟨a10.1, a10.2.1, a10.2.2.1, a10.2.2.2.1.trans hs.2.2.2.1, a10.2.2.2.2.1.trans hs.2.2.2.2.1, a10.2.2.2.2.2.1.trans hs.2.2.2.2.2.1, fun j hj => (a10.2.2.2.2.2.2.1 j hj).trans (hs.2.2.2.2.2.2.1 j hj), fun c hc => (a10.2.2.2.2.2.2.2.1 c hc).trans (hs.2.2.2.2.2.2.2.1 c hc), fun b => (a10.2.2.2.2.2.2.2.2 b).trans (hs.2.2.2.2.2.2.2.2 b)⟩
  · rw [e25, a15 c hc]
    have hd : zδe C (zδ0M h) (zδ0M q) := ⟨(e80 4 (by decide) (by decide) (by decide)).symm, rfl, fun _ _ => rfl, fun _ _ => rfl, fun k hk => (e80 (33 + k) (by omega) (by omega) (by omega)).symm⟩
    exact (zo_all_e (τ := zτM h 80 J C u) (τ' := zτM q 80 J C u) hm.sy hd).2.2.2.2.1 c hc
theorem zI4_c {h q : zj_H} {C nx ct : Nat} (e32 : q 32 = h 32) (e17 : q 78 17 = h 78 17) (er : ∀ a, 34 ≤ a → a < 78 → q a = h a) (e83 : q 83 = h 83) (e80 : ∀ i, i < 47 → i ≠ 5 → i ≠ 17 → q 80 i = h 80 i) (a : zI4 h C nx ct) : zI4 q C nx ct := by
  obtain ⟨a1, a2, a3, a4, a5, a6⟩ := a
  refine ⟨a1, a2, by rw [e32]; exact a3, by rw [e32]; exact a4, by rw [e17]; exact a5, fun r hr => ?_⟩
  obtain ⟨b1, b2, b3⟩ := a6 r hr
  have hz : zrg nx ct r < 11 := Nat.mod_lt _ (by decide)
  have ek : zδC q (34 + 4 * zrg nx ct r) = zδC h (34 + 4 * zrg nx ct r) := by
    unfold zδC
    rw [er _ (by omega) (by omega), er _ (by omega) (by omega), er _ (by omega) (by omega), er _ (by omega) (by omega)]
  refine ⟨?_, by rw [er _ (by omega) (by omega)]; exact b2, fun i h1 h2 h3 => by rw [e83, e80 i h1 h2 h3]; exact b3 i h1 h2 h3⟩
  rw [ek]
  unfold zδS
  rw [e83]; exact b1
/-- a call that answers alone -/
theorem zI_ask {h q h2 : zj_H} {J C u n nx ct : Nat} (hk : zk_q h q) (hm : zm_same q h2) (a : zI h J C u n nx ct) : zI h2 J C u n nx ct := by
  have e : ∀ k, k < 78 → k ≠ 12 → k ≠ 17 → k ≠ 18 → k ≠ 19 → k ≠ 20 → k ≠ 21 → h2 k = h k := fun k h0 h1 h2 h3 h4 h5 h6 => (hm.1 k h0).trans (hk k h1 h2 h3 h4 h5 h6)
  have q78 : q 78 = h 78 := hk 78 (by decide) (by decide) (by decide) (by decide) (by decide) (by decide)
  have q79 : h2 79 = h 79 := hm.2.1.trans (hk 79 (by decide) (by decide) (by decide) (by decide) (by decide) (by decide))
  have q80 : h2 80 = h 80 := hm.2.2.1.trans (hk 80 (by decide) (by decide) (by decide) (by decide) (by decide) (by decide))
  have q83 : h2 83 = h 83 := hm.2.2.2.1.trans (hk 83 (by decide) (by decide) (by decide) (by decide) (by decide) (by decide))
  have x2 : h2 78 2 = h 78 2 := by rw [hm.2.2.2.2.1, q78]
  have x8 : h2 78 8 = h 78 8 := by rw [hm.2.2.2.2.2.1, q78]
  have x17 : h2 78 17 = h 78 17 := by rw [hm.2.2.2.2.2.2, q78]
  obtain ⟨a1, a2, a3, a4, a5⟩ := a
  have d13 : zδC h2 13 = zδC h 13 := by
    unfold zδC
    rw [e 13 (by decide) (by decide) (by decide) (by decide) (by decide) (by decide) (by decide), e (13 + 1) (by decide) (by decide) (by decide) (by decide) (by decide) (by decide) (by decide), e (13 + 2) (by decide) (by decide) (by decide) (by decide) (by decide) (by decide) (by decide), e (13 + 3) (by decide) (by decide) (by decide) (by decide) (by decide) (by decide) (by decide)]
  refine ⟨zI1_c (e 8 (by decide) (by decide) (by decide) (by decide) (by decide) (by decide) (by decide)) (e 9 (by decide) (by decide) (by decide) (by decide) (by decide) (by decide) (by decide)) (e 10 (by decide) (by decide) (by decide) (by decide) (by decide) (by decide) (by decide)) (e 25 (by decide) (by decide) (by decide) (by decide) (by decide) (by decide) (by decide)) (fun i _ _ _ => by rw [q80]) a1, ?_, ?_, zI4_c (e 32 (by decide) (by decide) (by decide) (by decide) (by decide) (by decide) (by decide)) x17 (fun k h1 h3 => e k h3 (by omega) (by omega) (by omega) (by omega) (by omega) (by omega)) q83 (fun i _ _ _ => by rw [q80]) a4, ?_⟩
  · exact ⟨by rw [d13, zδM_congr q80]; exact a2.1, by rw [e 13 (by decide) (by decide) (by decide) (by decide) (by decide) (by decide) (by decide)]; exact a2.2⟩
  · exact ⟨by rw [e 1 (by decide) (by decide) (by decide) (by decide) (by decide) (by decide) (by decide)]; exact a3.1, a3.2.1, by rw [x2]; exact a3.2.2.1, by rw [e 2 (by decide) (by decide) (by decide) (by decide) (by decide) (by decide) (by decide), q79]; exact a3.2.2.2⟩
  · rw [e 0 (by decide) (by decide) (by decide) (by decide) (by decide) (by decide) (by decide), x8]; exact a5
