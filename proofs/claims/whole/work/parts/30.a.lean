/-- a docket: SEED, who is AWAY, stages, benches, who is BARRED; what a TEXT tells: J C u even loaded chair, seniority, weight, whether a bench has a senior -/
abbrev zδ : Type := Int32 × Int32 × (Nat → Int32) × (Nat → Int32) × (Nat → Int32)
abbrev zτ : Type := Nat × Nat × Nat × Int32 × Int32 × Int32 × (Nat → Int32) × (Nat → Int32) × (Int32 → Bool)
def zθo (τ : zτ) (δ : zδ) : zθ := (τ.1, τ.2.1, τ.2.2.1, τ.2.2.2.1, τ.2.2.2.2.1, τ.2.2.2.2.2.1, τ.2.2.2.2.2.2.1, τ.2.2.2.2.2.2.2.1, fun c b => decide (b &&& (δ.2.2.2.2 c ||| δ.2.1) = 0) && τ.2.2.2.2.2.2.2.2 b)
def zo_pl (τ : zτ) (δ : zδ) : Nat → Int32 → Bool := (zθo τ δ).2.2.2.2.2.2.2.2
def zτC (h : zj_H) (J C u : Nat) : zτ := (J, C, u, h 8 2, h 8 3, h 8 4, h 9, h 10, fun b => decide (¬ b &&& h 8 8 = 0))
def zδC (h : zj_H) (d : Nat) : zδ := (h d 0, h d 1, h (d + 1), h (d + 2), h (d + 3))
theorem zθC_eq (h : zj_H) (k J C u : Nat) : zθC h k J C u = zθo (zτC h J C u) (zδC h (k + 1)) := rfl
def zz_pop (x : Int32) : Nat := zc_cnt (bt x) 9
-- what each call does, on a docket
def zo_draw (τ : zτ) (δ : zδ) (x : Int32) : Option (Int32 × zδ) :=
  if zz_in x τ.2.1 = true ∧ δ.2.2.1 x.toNatClampNeg = 0 ∧ zd_pool (zθo τ δ) δ.2.2.2.1 x.toNatClampNeg ≠ [] then
    some ((zd_pool (zθo τ δ) δ.2.2.2.1 x.toNatClampNeg).getD (zp_ix (zd_seed δ.1) (zd_pool (zθo τ δ) δ.2.2.2.1 x.toNatClampNeg).length) 0,
      (zd_seed δ.1, δ.2.1, upd δ.2.2.1 x.toNatClampNeg 1, upd δ.2.2.2.1 x.toNatClampNeg ((zd_pool (zθo τ δ) δ.2.2.2.1 x.toNatClampNeg).getD (zp_ix (zd_seed δ.1) (zd_pool (zθo τ δ) δ.2.2.2.1 x.toNatClampNeg).length) 0), δ.2.2.2.2))
  else none
def zo_dall (τ : zτ) (δ : zδ) : Nat × Int32 × (Nat → Int32) × (Nat → Int32) := zd_all (zθo τ δ) δ.1 δ.2.2.1 δ.2.2.2.1 τ.2.1
def zo_all (τ : zτ) (δ : zδ) : Nat × zδ := ((zo_dall τ δ).1, ((zo_dall τ δ).2.1, δ.2.1, (zo_dall τ δ).2.2.1, (zo_dall τ δ).2.2.2, δ.2.2.2.2))
def zo_bar (δ : zδ) (c j : Nat) : zδ := (δ.1, δ.2.1, δ.2.2.1, δ.2.2.2.1, upd δ.2.2.2.2 c (δ.2.2.2.2 c ||| zz_bit j))
def zo_rr (o : Option Nat) : Int32 := match o with
  | none => -2
  | some f => nI f
def zo_rec (τ : zτ) (δ : zδ) (x y : Int32) : Option (Int32 × zδ) :=
  if zz_in x τ.2.1 = true ∧ δ.2.2.1 x.toNatClampNeg = 1 ∧ zz_in y τ.1 = true ∧ bt (δ.2.2.2.1 x.toNatClampNeg) y.toNatClampNeg = true then
    some (zo_rr (zr_b (zθo τ (zo_bar δ x.toNatClampNeg y.toNatClampNeg)) δ.2.2.2.1 x.toNatClampNeg y.toNatClampNeg).1,
      (δ.1, δ.2.1, upd δ.2.2.1 x.toNatClampNeg (zr_st (zr_b (zθo τ (zo_bar δ x.toNatClampNeg y.toNatClampNeg)) δ.2.2.2.1 x.toNatClampNeg y.toNatClampNeg).1),
        upd δ.2.2.2.1 x.toNatClampNeg (zr_si (δ.2.2.2.1 x.toNatClampNeg) y.toNatClampNeg (zr_b (zθo τ (zo_bar δ x.toNatClampNeg y.toNatClampNeg)) δ.2.2.2.1 x.toNatClampNeg y.toNatClampNeg).1), (zo_bar δ x.toNatClampNeg y.toNatClampNeg).2.2.2.2))
  else none
def zo_away (δ : zδ) (w : Int32) : zδ := (δ.1, w, δ.2.2)
def zo_leave (τ : zτ) (δ : zδ) (y : Int32) : Option (Int32 × zδ) :=
  if zz_in y τ.1 = true ∧ bt δ.2.1 y.toNatClampNeg = false then
    some (nI (zr_all (zθo τ (zo_away δ (δ.2.1 ||| zz_bit y.toNatClampNeg))) y.toNatClampNeg δ.2.2.1 δ.2.2.2.1 τ.2.1).1,
      (δ.1, δ.2.1 ||| zz_bit y.toNatClampNeg, (zr_all (zθo τ (zo_away δ (δ.2.1 ||| zz_bit y.toNatClampNeg))) y.toNatClampNeg δ.2.2.1 δ.2.2.2.1 τ.2.1).2.1, (zr_all (zθo τ (zo_away δ (δ.2.1 ||| zz_bit y.toNatClampNeg))) y.toNatClampNeg δ.2.2.1 δ.2.2.2.1 τ.2.1).2.2, δ.2.2.2.2))
  else none
def zo_come (τ : zτ) (δ : zδ) (y : Int32) : Option (Int32 × zδ) :=
  if zz_in y τ.1 = true ∧ bt δ.2.1 y.toNatClampNeg = true then some (nI (zz_pop (zr_stay δ.2.1 y.toNatClampNeg)), zo_away δ (zr_stay δ.2.1 y.toNatClampNeg)) else none
def zo_hear (τ : zτ) (δ : zδ) (x : Int32) : Option (Int32 × zδ) :=
  if zz_in x τ.2.1 = true ∧ δ.2.2.1 x.toNatClampNeg = 1 then some (nI (zc_cnt (fun c => decide (upd δ.2.2.1 x.toNatClampNeg 2 c = 2)) τ.2.1), (δ.1, δ.2.1, upd δ.2.2.1 x.toNatClampNeg 2, δ.2.2.2)) else none
def zo_si (δ : zδ) (si : Nat → Int32) : zδ := (δ.1, δ.2.1, δ.2.2.1, si, δ.2.2.2.2)
def zo_ex (τ : zτ) (δ : zδ) (xa xx xb xy : Int32) : Option (Int32 × zδ) :=
  if zx_may τ.1 τ.2.1 δ.2.2.1 δ.2.2.2.1 (zo_pl τ δ) xa xx xb xy = true then
    some (zs_even τ.1 τ.2.1 (zx_si δ.2.2.2.1 xa.toNatClampNeg xx.toNatClampNeg xb.toNatClampNeg xy.toNatClampNeg), zo_si δ (zx_si δ.2.2.2.1 xa.toNatClampNeg xx.toNatClampNeg xb.toNatClampNeg xy.toNatClampNeg)) else none
def zo_p (J C : Nat) (st si : Nat → Int32) (pl : Nat → Int32 → Bool) (a x b y : Nat) : Bool := zx_may J C st si pl (nI a) (nI x) (nI b) (nI y) && decide (0 < zs_even J C si - zs_even J C (zx_si si a x b y))
def zo_bet (τ : zτ) (δ : zδ) : Option (Nat × Nat × Nat × Nat) := zx_fa (zo_p τ.1 τ.2.1 δ.2.2.1 δ.2.2.2.1 (zo_pl τ δ)) τ.1 τ.2.1 τ.2.1
def zo_sm (τ : zτ) : Nat → zδ → Nat × zδ
  | 0, δ => (0, δ)
  | f + 1, δ => match zo_bet τ δ with
    | none => (0, δ)
    | some (a, x, b, y) => ((zo_sm τ f (zo_si δ (zx_si δ.2.2.2.1 a x b y))).1 + 1, (zo_sm τ f (zo_si δ (zx_si δ.2.2.2.1 a x b y))).2)
theorem zx_fy_congr {p q : Nat → Bool} : ∀ {n : Nat}, (∀ i, i < n → p i = q i) → zx_fy p n = zx_fy q n
  | 0, _ => rfl
  | n + 1, h => by rw [zx_fy, zx_fy, zx_fy_congr (fun i hi => h i (Nat.lt_succ_of_lt hi)), h n (Nat.lt_succ_self n)]
theorem zx_fb_congr {p q : Nat → Nat → Bool} {J a : Nat} : ∀ {n : Nat}, (∀ b y, b < n → y < J → p b y = q b y) → zx_fb p J a n = zx_fb q J a n
  | 0, _ => rfl
  | n + 1, h => by rw [zx_fb, zx_fb, zx_fb_congr (fun b y hb hy => h b y (Nat.lt_succ_of_lt hb) hy), zx_fy_congr (fun y hy => h n y (Nat.lt_succ_self n) hy)]
theorem zx_fx_congr {p q : Nat → Nat → Nat → Bool} {J C a : Nat} : ∀ {n : Nat}, (∀ x b y, x < n → b < C → y < J → p x b y = q x b y) → zx_fx p J C a n = zx_fx q J C a n
  | 0, _ => rfl
  | n + 1, h => by rw [zx_fx, zx_fx, zx_fx_congr (fun x b y hx hb hy => h x b y (Nat.lt_succ_of_lt hx) hb hy), zx_fb_congr (fun b y hb hy => h n b y (Nat.lt_succ_self n) hb hy)]
theorem zx_fa_congr {p q : Nat → Nat → Nat → Nat → Bool} {J C : Nat} : ∀ {n : Nat}, (∀ a x b y, a < n → x < J → b < C → y < J → p a x b y = q a x b y) → zx_fa p J C n = zx_fa q J C n
  | 0, _ => rfl
  | n + 1, h => by rw [zx_fa, zx_fa, zx_fa_congr (fun a x b y ha hx hb hy => h a x b y (Nat.lt_succ_of_lt ha) hx hb hy), zx_fx_congr (fun x b y hx hb hy => h n x b y (Nat.lt_succ_self n) hx hb hy)]
theorem zx_fy_lt {p : Nat → Bool} : ∀ {n r : Nat}, zx_fy p n = some r → r < n ∧ p r = true
  | 0, r, h => by cases h
  | n + 1, r, h => by
    rw [zx_fy] at h
    cases hp : zx_fy p n with
    | some i => rw [hp] at h; cases h; have := zx_fy_lt hp; exact ⟨by omega, this.2⟩
    | none =>
      rw [hp] at h; simp only at h
      split at h
      · next hh => cases h; exact ⟨by omega, hh⟩
      · cases h
theorem zx_fb_lt {p : Nat → Nat → Bool} {J a : Nat} : ∀ {n : Nat} {r : Nat × Nat}, zx_fb p J a n = some r → a < r.1 ∧ r.1 < n ∧ r.2 < J ∧ p r.1 r.2 = true
  | 0, r, h => by cases h
  | n + 1, r, h => by
    rw [zx_fb] at h
    cases hp : zx_fb p J a n with
    | some i => rw [hp] at h; cases h; have := zx_fb_lt hp; exact ⟨this.1, by omega, this.2.2⟩
    | none =>
      rw [hp] at h; simp only at h
      split at h
      · next hh =>
        cases hy : zx_fy (p n) J with
        | none => rw [hy] at h; cases h
        | some y => rw [hy] at h; cases h; have := zx_fy_lt hy; exact ⟨hh, Nat.lt_succ_self n, this⟩
      · cases h
theorem zx_fx_lt {p : Nat → Nat → Nat → Bool} {J C a : Nat} : ∀ {n : Nat} {r : Nat × Nat × Nat}, zx_fx p J C a n = some r → r.1 < n ∧ a < r.2.1 ∧ r.2.1 < C ∧ r.2.2 < J ∧ p r.1 r.2.1 r.2.2 = true
  | 0, r, h => by cases h
  | n + 1, r, h => by
    rw [zx_fx] at h
    cases hp : zx_fx p J C a n with
    | some i => rw [hp] at h; cases h; have := zx_fx_lt hp; exact ⟨by omega, this.2⟩
    | none =>
      rw [hp] at h; simp only at h
      cases hy : zx_fb (p n) J a C with
      | none => rw [hy] at h; cases h
      | some y => rw [hy] at h; cases h; have := zx_fb_lt hy; exact ⟨by simp, this⟩
theorem zx_fa_lt {p : Nat → Nat → Nat → Nat → Bool} {J C : Nat} : ∀ {n : Nat} {r : Nat × Nat × Nat × Nat}, zx_fa p J C n = some r → r.1 < n ∧ r.2.1 < J ∧ r.1 < r.2.2.1 ∧ r.2.2.1 < C ∧ r.2.2.2 < J ∧ p r.1 r.2.1 r.2.2.1 r.2.2.2 = true
  | 0, r, h => by cases h
  | n + 1, r, h => by
    rw [zx_fa] at h
    cases hp : zx_fa p J C n with
    | some i => rw [hp] at h; cases h; have := zx_fa_lt hp; exact ⟨by omega, this.2⟩
    | none =>
      rw [hp] at h; simp only at h
      cases hy : zx_fx (p n) J C n J with
      | none => rw [hy] at h; cases h
      | some y => rw [hy] at h; cases h; have := zx_fx_lt hy; exact ⟨by simp, this⟩
theorem zx_may_t {J C : Nat} {st si : Nat → Int32} {pl : Nat → Int32 → Bool} {a x b y : Nat} (hJ : J ≤ 9) (hC : C ≤ 14) (ha : a < C) (hx : x < J) (hb : b < C) (hy : y < J) (h : zx_may J C st si pl (nI a) (nI x) (nI b) (nI y) = true) : bt (si a) x = true ∧ bt (si b) x = false ∧ bt (si b) y = true ∧ bt (si a) y = false := by
  unfold zx_may at h
  rw [nI_clamp (show a < 2 ^ 31 by omega), nI_clamp (show x < 2 ^ 31 by omega), nI_clamp (show b < 2 ^ 31 by omega), nI_clamp (show y < 2 ^ 31 by omega)] at h
  simp only [Bool.and_eq_true, Bool.not_eq_true'] at h
  exact ⟨h.2.1.1.1.1.1, h.2.1.1.1.1.2, h.2.1.1.1.2, h.2.1.1.2⟩
set_option maxRecDepth 50000 in
theorem zo_p_eq {si fP : Nat → Int32} {st : Nat → Int32} {pl : Nat → Int32 → Bool} {J C a x b y : Nat} (hJ : J ≤ 9) (hC : C ≤ 14) (ha : a < C) (hx : x < J) (hb : b < C) (hy : y < J) : zx_p (zb_Pn si (-1) J (fun q => if q < 81 then 0 else fP q) C) J C st si pl a x b y = zo_p J C st si pl a x b y := by
  unfold zx_p zo_p
  cases hm : zx_may J C st si pl (nI a) (nI x) (nI b) (nI y) with
  | false => rw [Bool.false_and, Bool.false_and]
  | true =>
    obtain ⟨h1, h2, h3, h4⟩ := zx_may_t hJ hC ha hx hb hy hm
    have e := zy_better (fP := fP) hJ hC ha hb hx hy h1 h2 h3 h4
    rw [e]
-- the class's own cells
def zk_fr (h h' : zj_H) : Prop := ∀ a, (a < 12 ∨ (22 ≤ a ∧ a ≤ 31) ∨ 78 ≤ a) → h' a = h a
def zk_q (h h' : zj_H) : Prop := ∀ a, a ≠ 12 → a ≠ 17 → a ≠ 18 → a ≠ 19 → a ≠ 20 → a ≠ 21 → h' a = h a
def zk_row (h' : zj_H) (r : Nat) (δ : zδ) : Prop := h' r 0 = δ.1 ∧ h' r 1 = δ.2.1 ∧ (∀ c, c < 14 → h' (r + 1) c = δ.2.2.1 c) ∧ (∀ c, c < 14 → h' (r + 2) c = δ.2.2.2.1 c) ∧ (∀ c, c < 14 → h' (r + 3) c = δ.2.2.2.2 c)
def zk_rows (h h' : zj_H) (nx : Nat) : Prop := ∀ a, 34 ≤ a → a < 78 → (a < 34 + 4 * nx ∨ 34 + 4 * nx + 4 ≤ a) → h' a = h a
def zk_stay (h h' : zj_H) (nx : Nat) : Prop := zδC h' 13 = zδC h 13 ∧ h' 32 1 = h 32 1 ∧ h' 32 2 = h 32 2 ∧ zk_rows h h' nx
def zk_keep (h h' : zj_H) (nx ct : Nat) (δ' : zδ) : Prop := zδC h' 13 = δ' ∧ h' 32 1 = nI ((nx + 1) % 11) ∧ h' 32 2 = nI (min (ct + 1) 10) ∧ zk_row h' (34 + 4 * nx) (zδC h 13) ∧ zk_rows h h' nx
def zk_post (h h' : zj_H) (nx ct : Nat) (v : Option Value) (o : Option (Int32 × zδ)) : Prop := match o with
  | none => v = some (.int (-1)) ∧ zk_stay h h' nx
  | some (r, δ') => v = some (.int r) ∧ zk_keep h h' nx ct δ'
theorem zk_min (ct : Nat) (hct : ct ≤ 10) : (if (10 : Int32) < nI ct + 1 then (10 : Int32) else nI ct + 1) = nI (min (ct + 1) 10) := by
  rw [nI_1]
  show (if nI 10 < nI (ct + 1) then nI 10 else nI (ct + 1)) = _
  by_cases h : 10 < ct + 1
  · rw [if_pos ((nI_ltI (a := 10) (by omega) (by omega)).mpr h), show min (ct + 1) 10 = 10 by omega]
  · rw [if_neg (fun z => h ((nI_ltI (a := 10) (by omega) (by omega)).mp z)), show min (ct + 1) 10 = ct + 1 by omega]
set_option maxHeartbeats 4000000 in
set_option maxRecDepth 20000 in
theorem m_X3_forget {l : Launch} {E : zj_E} {h : zj_H} {g : zj_G}  : zj_M l E yX3_forget cX3_forget 1 none 0 [.ref (E.2.1 32)] h g (zj_pV (zj_s h 32 (upd (h 32) 2 0)) g) := by
  refine zj_M.of RX3 (by decide) rfl (Nat.le_of_ble_eq_true rfl) ?_
  intro Γ hΓ K Rt
  subst hΓ
  show zj_J E Γ 1 0 [(0, .ref (E.2.1 32))] [] h g
  refine zj_aload_n (i := 0) (pc := 0) K dX3_forget_0 rfl rfl ?_
  refine zj_iconst (v := 0) (pc := 1) K dX3_forget_1 (by decide) ?_
  refine zj_putI (pc := 2) K lf_X3_22 hs_H rfl dX3_forget_2 ?_
  exact zj_vret K Rt dX3_forget_5 (⟨rfl, rfl, rfl⟩)

set_option maxHeartbeats 4000000 in
set_option maxRecDepth 20000 in
theorem m_X3_prepare {l : Launch} {E : zj_E} {h : zj_H} {g : zj_G} {nx : Nat} (en : h 32 1 = nI nx) (hnx : nx < 11) : zj_M l E yX3_prepare cX3_prepare 2 none 3 [.ref (E.2.1 32), .ref (E.2.1 13)] h g (fun v h' g' => v = none ∧ g' = g ∧ (∀ a, (a < 34 + 4 * nx ∨ 34 + 4 * nx + 4 ≤ a) → h' a = h a) ∧ zk_row h' (34 + 4 * nx) (zδC h 13)) := by
  refine zj_M.of RX3 (by decide) rfl (Nat.le_of_ble_eq_true rfl) ?_
  intro Γ hΓ K Rt
  subst hΓ
  obtain ⟨hs_Hd, hs_Hds, hs_Hdi, hs_Hdb⟩ := zj_shD (k := 34 + 4 * nx) (Or.inr (Or.inr ⟨_, hnx, rfl⟩))
  show zj_J E Γ 2 0 [(0, .ref (E.2.1 32)), (1, .ref (E.2.1 13))] [] h g
  refine zj_aload_n (i := 0) (pc := 0) K dX3_prepare_0 rfl rfl ?_
  refine zj_getR (pc := 1) K lf_X3_13 hs_H rfl dX3_prepare_1 ?_
  refine zj_aload_n (i := 0) (pc := 4) K dX3_prepare_4 rfl rfl ?_
  refine zj_getI (pc := 5) K lf_X3_18 hs_H rfl dX3_prepare_5 ?_
  refine zj_rld (j := nx) (pc := 8) K hs_Hr en hnx (by first | decide | omega) dX3_prepare_8 ?_
  refine zj_aload_n (i := 1) (pc := 9) K dX3_prepare_9 rfl rfl ?_
  refine zj_cV1P (pc := 10) K lm_X3_25 hs_Hd (m_X1_become (Or.inr (Or.inr ⟨nx, hnx, rfl⟩)) (Or.inl rfl) (by omega)) (by decide) rfl (Nat.le_of_ble_eq_true rfl) dX3_prepare_10 (fun v q g1 hp => ?_)
  obtain ⟨rfl, rfl, zs1, zs2, zs3, zs4, zs5, zs6⟩ := hp
  exact zj_vret K Rt dX3_prepare_13 (⟨rfl, rfl, fun a ha => zs1 a (by omega) (by omega) (by omega) (by omega), zs2, zs3, zs4, zs5, zs6⟩)

set_option maxHeartbeats 4000000 in
set_option maxRecDepth 20000 in
theorem m_X3_keepPrepared {l : Launch} {E : zj_E} {h : zj_H} {g : zj_G} {nx ct : Nat} (en : h 32 1 = nI nx) (hnx : nx < 11) (ec : h 32 2 = nI ct) (hct : ct ≤ 10)  : zj_M l E yX3_keepPrepared cX3_keepPrepared 1 none 1 [.ref (E.2.1 32)] h g (zj_pV (zj_s h 32 (upd (upd (h 32) 1 (nI ((nx + 1) % 11))) 2 (nI (min (ct + 1) 10)))) g) := by
  refine zj_M.of RX3 (by decide) rfl (Nat.le_of_ble_eq_true rfl) ?_
  intro Γ hΓ K Rt
  subst hΓ
  show zj_J E Γ 1 0 [(0, .ref (E.2.1 32))] [] h g
  refine zj_aload_n (i := 0) (pc := 0) K dX3_keepPrepared_0 rfl rfl ?_
  refine zj_aload_n (i := 0) (pc := 1) K dX3_keepPrepared_1 rfl rfl ?_
  refine zj_getI (pc := 2) K lf_X3_18 hs_H rfl dX3_keepPrepared_2 ?_
  refine zj_iconst (v := 1) (pc := 5) K dX3_keepPrepared_5 (by decide) ?_
  refine zj_iadd (pc := 6) K dX3_keepPrepared_6 ?_
  refine zj_bipush (v := 11) (pc := 7) K dX3_keepPrepared_7 (by decide) ?_
  refine zj_irem (pc := 9) K dX3_keepPrepared_9 (by decide) ?_
  refine zj_top (x' := nI ((nx + 1) % 11)) (by rw [en, nI_1]; exact pk_rem (by omega) (by decide) (by decide)) ?_
  refine zj_putI (pc := 10) K lf_X3_18 hs_H rfl dX3_keepPrepared_10 ?_
  refine zj_aload_n (i := 0) (pc := 13) K dX3_keepPrepared_13 rfl rfl ?_
  refine zj_aload_n (i := 0) (pc := 14) K dX3_keepPrepared_14 rfl rfl ?_
  refine zj_getI (pc := 15) K lf_X3_22 hs_H rfl dX3_keepPrepared_15 ?_
  refine zj_iconst (v := 1) (pc := 18) K dX3_keepPrepared_18 (by decide) ?_
  refine zj_iadd (pc := 19) K dX3_keepPrepared_19 ?_
  refine zj_bipush (v := 10) (pc := 20) K dX3_keepPrepared_20 (by decide) ?_
  refine zj_mmin (pc := 22) K lx_X3_29 (by decide) (Nat.le_of_ble_eq_true rfl) dX3_keepPrepared_22 ?_
  refine zj_top (x' := nI (min (ct + 1) 10)) (by rw [show (zj_s h 32 (upd (h 32) 1 (nI ((nx + 1) % 11)))) 32 2 = nI ct from ec]; exact zk_min ct hct) ?_
  refine zj_putI (pc := 25) K lf_X3_22 hs_H rfl dX3_keepPrepared_25 ?_
  exact zj_vret K Rt dX3_keepPrepared_28 (⟨rfl, by rw [zj_s_s, zj_s_eq], rfl⟩)

set_option maxHeartbeats 4000000 in
set_option maxRecDepth 20000 in
theorem m_X3_giveBack {l : Launch} {E : zj_E} {h : zj_H} {g : zj_G} {nx ct : Nat} (en : h 32 1 = nI nx) (hnx : nx < 11) (ec : h 32 2 = nI ct) (hct : ct ≤ 10) (h0 : 0 < ct) : zj_M l E yX3_giveBack cX3_giveBack 2 none 3 [.ref (E.2.1 32), .ref (E.2.1 13)] h g (fun v h' g' => v = none ∧ g' = g ∧ (∀ a, a ≠ 32 → a ≠ 13 → a ≠ 14 → a ≠ 15 → a ≠ 16 → h' a = h a) ∧ h' 32 1 = nI ((nx + 10) % 11) ∧ h' 32 2 = nI (ct - 1) ∧ zk_row h' 13 (zδC h (34 + 4 * ((nx + 10) % 11)))) := by
  refine zj_M.of RX3 (by decide) rfl (Nat.le_of_ble_eq_true rfl) ?_
  intro Γ hΓ K Rt
  subst hΓ
  have hm : (nx + 10) % 11 < 11 := Nat.mod_lt _ (by decide)
  obtain ⟨hs_Hd, hs_Hds, hs_Hdi, hs_Hdb⟩ := zj_shD (k := 34 + 4 * ((nx + 10) % 11)) (Or.inr (Or.inr ⟨_, hm, rfl⟩))
  show zj_J E Γ 2 0 [(0, .ref (E.2.1 32)), (1, .ref (E.2.1 13))] [] h g
  refine zj_aload_n (i := 0) (pc := 0) K dX3_giveBack_0 rfl rfl ?_
  refine zj_aload_n (i := 0) (pc := 1) K dX3_giveBack_1 rfl rfl ?_
  refine zj_getI (pc := 2) K lf_X3_18 hs_H rfl dX3_giveBack_2 ?_
  refine zj_bipush (v := 11) (pc := 5) K dX3_giveBack_5 (by decide) ?_
  refine zj_iadd (pc := 7) K dX3_giveBack_7 ?_
  refine zj_iconst (v := 1) (pc := 8) K dX3_giveBack_8 (by decide) ?_
  refine zj_isub (pc := 9) K dX3_giveBack_9 ?_
  refine zj_bipush (v := 11) (pc := 10) K dX3_giveBack_10 (by decide) ?_
  refine zj_irem (pc := 12) K dX3_giveBack_12 (by decide) ?_
  refine zj_top (x' := nI ((nx + 10) % 11)) (by rw [en, show nI nx + 11 - 1 = nI (nx + 10) from by rw [show (11 : Int32) = nI 11 from rfl, nI_add, show nx + 11 = (nx + 10) + 1 by omega, nI_pred]]; exact pk_rem (by omega) (by decide) (by decide)) ?_
  refine zj_putI (pc := 13) K lf_X3_18 hs_H rfl dX3_giveBack_13 ?_
  refine zj_aload_n (i := 0) (pc := 16) K dX3_giveBack_16 rfl rfl ?_
  refine zj_dup (pc := 17) K dX3_giveBack_17 rfl ?_
  refine zj_getI (pc := 18) K lf_X3_22 hs_H rfl dX3_giveBack_18 ?_
  refine zj_iconst (v := 1) (pc := 21) K dX3_giveBack_21 (by decide) ?_
  refine zj_isub (pc := 22) K dX3_giveBack_22 ?_
  refine zj_top (x' := nI (ct - 1)) (by rw [show (zj_s h 32 (upd (h 32) 1 (nI ((nx + 10) % 11)))) 32 2 = nI ct from ec, show ct = (ct - 1) + 1 by omega, nI_pred, Nat.add_sub_cancel]) ?_
  refine zj_putI (pc := 23) K lf_X3_22 hs_H rfl dX3_giveBack_23 ?_
  refine zj_aload_n (i := 1) (pc := 26) K dX3_giveBack_26 rfl rfl ?_
  refine zj_aload_n (i := 0) (pc := 27) K dX3_giveBack_27 rfl rfl ?_
  refine zj_getR (pc := 28) K lf_X3_13 hs_H rfl dX3_giveBack_28 ?_
  refine zj_aload_n (i := 0) (pc := 31) K dX3_giveBack_31 rfl rfl ?_
  refine zj_getI (pc := 32) K lf_X3_18 hs_H rfl dX3_giveBack_32 ?_
  refine zj_rld (j := (nx + 10) % 11) (pc := 35) K hs_Hr rfl hm (by first | decide | omega) dX3_giveBack_35 ?_
  refine zj_cV1P (pc := 36) K lm_X3_25 hs_Cd (m_X1_become (Or.inl rfl) (Or.inr (Or.inr ⟨_, hm, rfl⟩)) (by omega)) (by decide) rfl (Nat.le_of_ble_eq_true rfl) dX3_giveBack_36 (fun v q g1 hp => ?_)
  obtain ⟨rfl, rfl, zs1, zs2, zs3, zs4, zs5, zs6⟩ := hp
  exact zj_vret K Rt dX3_giveBack_39 (⟨rfl, rfl, fun a a1 a2 a3 a4 a5 => by rw [zs1 a a2 a3 a4 a5, zj_s_ne _ _ a1, zj_s_ne _ _ a1], by rw [zs1 32 (by decide) (by decide) (by decide) (by decide)]; rfl, by rw [zs1 32 (by decide) (by decide) (by decide) (by decide)]; rfl,
      by rw [zs2, zj_s_ne _ _ (by omega), zj_s_ne _ _ (by omega)]; rfl, by rw [zs3, zj_s_ne _ _ (by omega), zj_s_ne _ _ (by omega)]; rfl, fun c hc => by rw [zs4 c hc, zj_s_ne _ _ (by omega), zj_s_ne _ _ (by omega)]; rfl, fun c hc => by rw [zs5 c hc, zj_s_ne _ _ (by omega), zj_s_ne _ _ (by omega)]; rfl, fun c hc => by rw [zs6 c hc, zj_s_ne _ _ (by omega), zj_s_ne _ _ (by omega)]; rfl⟩)
