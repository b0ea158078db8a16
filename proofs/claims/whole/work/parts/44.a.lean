-- two courts that agree where it counts
def zτe (τ τ' : zτ) : Prop := τ.1 = τ'.1 ∧ τ.2.1 = τ'.2.1 ∧ τ.2.2.1 = τ'.2.2.1 ∧ τ.2.2.2.1 = τ'.2.2.2.1 ∧ τ.2.2.2.2.1 = τ'.2.2.2.2.1 ∧ τ.2.2.2.2.2.1 = τ'.2.2.2.2.2.1 ∧ (∀ j, j < τ.1 → τ.2.2.2.2.2.2.1 j = τ'.2.2.2.2.2.2.1 j) ∧ (∀ c, c < τ.2.1 → τ.2.2.2.2.2.2.2.1 c = τ'.2.2.2.2.2.2.2.1 c) ∧ ∀ b, τ.2.2.2.2.2.2.2.2 b = τ'.2.2.2.2.2.2.2.2 b
def zδe (C : Nat) (δ δ' : zδ) : Prop := δ.1 = δ'.1 ∧ δ.2.1 = δ'.2.1 ∧ (∀ c, c < C → δ.2.2.1 c = δ'.2.2.1 c) ∧ (∀ c, c < C → δ.2.2.2.1 c = δ'.2.2.2.1 c) ∧ ∀ c, c < C → δ.2.2.2.2 c = δ'.2.2.2.2 c
theorem zδe.rf {C : Nat} {δ : zδ} : zδe C δ δ := ⟨rfl, rfl, fun _ _ => rfl, fun _ _ => rfl, fun _ _ => rfl⟩
theorem zδe.tr {C : Nat} {a b c : zδ} (x : zδe C a b) (y : zδe C b c) : zδe C a c := ⟨x.1.trans y.1, x.2.1.trans y.2.1, fun i hi => (x.2.2.1 i hi).trans (y.2.2.1 i hi), fun i hi => (x.2.2.2.1 i hi).trans (y.2.2.2.1 i hi), fun i hi => (x.2.2.2.2 i hi).trans (y.2.2.2.2 i hi)⟩
theorem zδe.sy {C : Nat} {a b : zδ} (x : zδe C a b) : zδe C b a := ⟨x.1.symm, x.2.1.symm, fun i hi => (x.2.2.1 i hi).symm, fun i hi => (x.2.2.2.1 i hi).symm, fun i hi => (x.2.2.2.2 i hi).symm⟩
def zθe (θ θ' : zθ) (c : Nat) : Prop := θ.1 = θ'.1 ∧ θ.2.1 = θ'.2.1 ∧ θ.2.2.1 = θ'.2.2.1 ∧ θ.2.2.2.1 = θ'.2.2.2.1 ∧ θ.2.2.2.2.1 = θ'.2.2.2.2.1 ∧ θ.2.2.2.2.2.1 = θ'.2.2.2.2.2.1 ∧ (∀ j, j < θ.1 → θ.2.2.2.2.2.2.1 j = θ'.2.2.2.2.2.2.1 j) ∧ (∀ c, c < θ.2.1 → θ.2.2.2.2.2.2.2.1 c = θ'.2.2.2.2.2.2.2.1 c) ∧ ∀ b, θ.2.2.2.2.2.2.2.2 c b = θ'.2.2.2.2.2.2.2.2 c b
theorem zo_pl_e {τ τ' : zτ} {δ δ' : zδ} {c : Nat} (ht : zτe τ τ') (hd : zδe τ.2.1 δ δ') (hc : c < τ.2.1) (b : Int32) : zo_pl τ δ c b = zo_pl τ' δ' c b := by
  show (decide (b &&& (δ.2.2.2.2 c ||| δ.2.1) = 0) && τ.2.2.2.2.2.2.2.2 b) = (decide (b &&& (δ'.2.2.2.2 c ||| δ'.2.1) = 0) && τ'.2.2.2.2.2.2.2.2 b)
  rw [hd.2.2.2.2 c hc, hd.2.1, ht.2.2.2.2.2.2.2.2 b]
theorem zθo_e {τ τ' : zτ} {δ δ' : zδ} {c : Nat} (ht : zτe τ τ') (hd : zδe τ.2.1 δ δ') (hc : c < τ.2.1) : zθe (zθo τ δ) (zθo τ' δ') c :=
  ⟨ht.1, ht.2.1, ht.2.2.1, ht.2.2.2.1, ht.2.2.2.2.1, ht.2.2.2.2.2.1, ht.2.2.2.2.2.2.1, ht.2.2.2.2.2.2.2.1, fun b => zo_pl_e ht hd hc b⟩
theorem zs_pair_e {C : Nat} {B B' : Nat → Int32} (h : ∀ c, c < C → B c = B' c) (wo : Int32) (a c : Nat) : zs_pair C B wo a c = zs_pair C B' wo a c := zc_cnt_congr (fun i hi => by rw [h i hi])
theorem zs_load_e {C J : Nat} {B B' W W' sen sen' : Nat → Int32} (h : ∀ c, c < C → B c = B' c) (hw : ∀ c, c < C → W c = W' c) (hs : ∀ j, j < J → sen j = sen' j) (chair wo : Int32) (j : Nat) : zs_load C J B W sen chair wo j = zs_load C J B' W' sen' chair wo j :=
  zc_sum_congr (fun i hi => by rw [h i hi, hw i hi, zc_pre_congr hs])
theorem zd_t_e {θ θ' : zθ} {c c0 : Nat} {si si' : Nat → Int32} (he : zθe θ θ' c0) (h : ∀ c, c < θ.2.1 → si c = si' c) (b : Int32) : zd_t θ si c b = zd_t θ' si' c b := by
  unfold zd_t zs_ten
  rw [← he.1, ← he.2.1, ← he.2.2.2.1, ← he.2.2.2.2.1, ← he.2.2.2.2.2.1]
  congr 1
  · congr 1
    refine zc_sum_congr (fun a _ => ?_)
    split
    · exact zc_sum_congr (fun i _ => by rw [zs_pair_e h])
    · rfl
  · congr 1
    refine zc_sum_congr (fun a _ => ?_)
    rw [zs_load_e h he.2.2.2.2.2.2.2.1 he.2.2.2.2.2.2.1]
theorem zd_l_e {θ θ' : zθ} {c : Nat} (he : zθe θ θ' c) : zd_l θ c = zd_l θ' c := by
  unfold zd_l
  rw [show θ.2.2.2.2.2.2.2.2 c = θ'.2.2.2.2.2.2.2.2 c from funext he.2.2.2.2.2.2.2.2, he.1]
theorem zd_ts_e {θ θ' : zθ} {c : Nat} {si si' : Nat → Int32} (he : zθe θ θ' c) (h : ∀ c, c < θ.2.1 → si c = si' c) : zd_ts θ si c = zd_ts θ' si' c := by
  funext i; unfold zd_ts; rw [zd_l_e he, zd_t_e he h]
theorem zd_W_e {θ θ' : zθ} {c : Nat} {si si' : Nat → Int32} (he : zθe θ θ' c) (h : ∀ c, c < θ.2.1 → si c = si' c) : zd_W θ si c = zd_W θ' si' c := by
  unfold zd_W; rw [zd_ts_e he h, zd_l_e he, he.2.2.1]
theorem zd_pool_e {θ θ' : zθ} {c : Nat} {si si' : Nat → Int32} (he : zθe θ θ' c) (h : ∀ c, c < θ.2.1 → si c = si' c) : zd_pool θ si c = zd_pool θ' si' c := by
  unfold zd_pool; rw [zd_ts_e he h, zd_l_e he, zd_W_e he h]
theorem zz_upd_e {f f' : Nat → Int32} {C k : Nat} {x x' : Int32} (h : ∀ c, c < C → f c = f' c) (hx : x = x') : ∀ c, c < C → upd f k x c = upd f' k x' c := by
  intro c hc; unfold upd; rw [hx, h c hc]
/-- draws of two courts that agree -/
theorem zd_all_e {τ τ' : zτ} {δ δ' : zδ} {st st' si si' : Nat → Int32} {s s' : Int32} (ht : zτe τ τ') (hd : zδe τ.2.1 δ δ') (hs : s = s') (h1 : ∀ c, c < τ.2.1 → st c = st' c) (h2 : ∀ c, c < τ.2.1 → si c = si' c) :
    ∀ n, n ≤ τ.2.1 → (zd_all (zθo τ δ) s st si n).1 = (zd_all (zθo τ' δ') s' st' si' n).1 ∧ (zd_all (zθo τ δ) s st si n).2.1 = (zd_all (zθo τ' δ') s' st' si' n).2.1 ∧ (∀ c, c < τ.2.1 → (zd_all (zθo τ δ) s st si n).2.2.1 c = (zd_all (zθo τ' δ') s' st' si' n).2.2.1 c) ∧ (∀ c, c < τ.2.1 → (zd_all (zθo τ δ) s st si n).2.2.2 c = (zd_all (zθo τ' δ') s' st' si' n).2.2.2 c)
  | 0, _ => ⟨rfl, hs, h1, h2⟩
  | n + 1, hn => by
    obtain ⟨i1, i2, i3, i4⟩ := zd_all_e ht hd hs h1 h2 n (by omega)
    have ep := zd_pool_e (θ := zθo τ δ) (θ' := zθo τ' δ') (zθo_e ht hd (show n < τ.2.1 by omega)) i4
    rw [zd_all, zd_all, ← ep, ← i3 n (by omega)]
    by_cases hc : (zd_all (zθo τ δ) s st si n).2.2.1 n = 0 ∧ zd_pool (zθo τ δ) (zd_all (zθo τ δ) s st si n).2.2.2 n ≠ []
    · rw [if_pos hc, if_pos hc]
      refine ⟨by rw [i1], by rw [i2], zz_upd_e i3 rfl, zz_upd_e i4 (by rw [i2])⟩
    · rw [if_neg hc, if_neg hc]; exact ⟨i1, i2, i3, i4⟩
def zoe (C : Nat) (o o' : Option (Int32 × zδ)) : Prop := match o, o' with
  | none, none => True
  | some (r, d), some (r', d') => r = r' ∧ zδe C d d'
  | _, _ => False
theorem zo_draw_e {τ τ' : zτ} {δ δ' : zδ} (hC : τ.2.1 ≤ 14) (ht : zτe τ τ') (hd : zδe τ.2.1 δ δ') (x : Int32) : zoe τ.2.1 (zo_draw τ δ x) (zo_draw τ' δ' x) := by
  unfold zo_draw
  rw [← ht.2.1]
  cases hx : zz_in x τ.2.1 with
  | false => rw [if_neg (fun z => absurd z.1 (by decide)), if_neg (fun z => absurd z.1 (by decide))]; trivial
  | true =>
    obtain ⟨c, hc, ec⟩ := zz_in_ex hx (by omega)
    have hcl : x.toNatClampNeg = c := by rw [ec]; exact nI_clamp (by omega)
    rw [hcl, ← zd_pool_e (θ := zθo τ δ) (θ' := zθo τ' δ') (zθo_e ht hd hc) hd.2.2.2.1, ← hd.2.2.1 c hc, ← hd.1]
    split
    · exact ⟨rfl, rfl, hd.2.1, zz_upd_e hd.2.2.1 rfl, zz_upd_e hd.2.2.2.1 rfl, hd.2.2.2.2⟩
    · trivial
theorem zo_all_e {τ τ' : zτ} {δ δ' : zδ} (ht : zτe τ τ') (hd : zδe τ.2.1 δ δ') : (zo_all τ δ).1 = (zo_all τ' δ').1 ∧ zδe τ.2.1 (zo_all τ δ).2 (zo_all τ' δ').2 := by
  have h := zd_all_e ht hd hd.1 hd.2.2.1 hd.2.2.2.1 τ.2.1 (Nat.le_refl _)
  unfold zo_all zo_dall
  rw [← ht.2.1]
  exact ⟨h.1, h.2.1, hd.2.1, h.2.2.1, h.2.2.2, hd.2.2.2.2⟩
theorem zr_best_e {p p' : Nat → Bool} {t t' : Nat → Int32} (hp : ∀ j, p j = p' j) (h : ∀ j, t j = t' j) : ∀ n, zr_best p t n = zr_best p' t' n
  | 0 => rfl
  | n + 1 => by rw [zr_best, zr_best, zr_best_e hp h n, hp n, h n]
theorem zr_b_e {θ θ' : zθ} {c g : Nat} {si si' : Nat → Int32} (he : zθe θ θ' c) (hc : c < θ.2.1) (h : ∀ c, c < θ.2.1 → si c = si' c) : zr_b θ si c g = zr_b θ' si' c g := by
  unfold zr_b
  rw [← he.1, h c hc]
  exact zr_best_e (fun j => by rw [he.2.2.2.2.2.2.2.2]) (fun j => zd_t_e he h _) _
theorem zo_rec_e {τ τ' : zτ} {δ δ' : zδ} (hJ : τ.1 ≤ 9) (hC : τ.2.1 ≤ 14) (ht : zτe τ τ') (hd : zδe τ.2.1 δ δ') (x y : Int32) : zoe τ.2.1 (zo_rec τ δ x y) (zo_rec τ' δ' x y) := by
  unfold zo_rec
  rw [← ht.2.1, ← ht.1]
  cases hx : zz_in x τ.2.1 with
  | false => rw [if_neg (fun z => absurd z.1 (by decide)), if_neg (fun z => absurd z.1 (by decide))]; trivial
  | true =>
    obtain ⟨c, hc, ec⟩ := zz_in_ex hx (by omega)
    have hcl : x.toNatClampNeg = c := by rw [ec]; exact nI_clamp (by omega)
    rw [hcl, ← hd.2.2.1 c hc, ← hd.2.2.2.1 c hc]
    have hb : zδe τ.2.1 (zo_bar δ c y.toNatClampNeg) (zo_bar δ' c y.toNatClampNeg) := ⟨hd.1, hd.2.1, hd.2.2.1, hd.2.2.2.1, zz_upd_e hd.2.2.2.2 (by rw [hd.2.2.2.2 c hc])⟩
    rw [← zr_b_e (θ := zθo τ (zo_bar δ c y.toNatClampNeg)) (zθo_e ht hb hc) hc hd.2.2.2.1]
    split
    · exact ⟨rfl, hd.1, hd.2.1, zz_upd_e hd.2.2.1 rfl, zz_upd_e hd.2.2.2.1 rfl, hb.2.2.2.2⟩
    · trivial
theorem zr_all_e {τ τ' : zτ} {δ δ' : zδ} {g : Nat} {st st' si si' : Nat → Int32} (ht : zτe τ τ') (hd : zδe τ.2.1 δ δ') (h1 : ∀ c, c < τ.2.1 → st c = st' c) (h2 : ∀ c, c < τ.2.1 → si c = si' c) :
    ∀ n, n ≤ τ.2.1 → (zr_all (zθo τ δ) g st si n).1 = (zr_all (zθo τ' δ') g st' si' n).1 ∧ (∀ c, c < τ.2.1 → (zr_all (zθo τ δ) g st si n).2.1 c = (zr_all (zθo τ' δ') g st' si' n).2.1 c) ∧ (∀ c, c < τ.2.1 → (zr_all (zθo τ δ) g st si n).2.2 c = (zr_all (zθo τ' δ') g st' si' n).2.2 c)
  | 0, _ => ⟨rfl, h1, h2⟩
  | n + 1, hn => by
    obtain ⟨i1, i3, i4⟩ := zr_all_e (g := g) ht hd h1 h2 n (by omega)
    have ep := zr_b_e (g := g) (θ := zθo τ δ) (θ' := zθo τ' δ') (zθo_e ht hd (show n < τ.2.1 by omega)) (show n < τ.2.1 by omega) i4
    rw [zr_all, zr_all, ← ep, ← i3 n (by omega), ← i4 n (by omega)]
    by_cases hc : (zr_all (zθo τ δ) g st si n).2.1 n = 1 ∧ bt ((zr_all (zθo τ δ) g st si n).2.2 n) g = true
    · rw [if_pos hc, if_pos hc]
      exact ⟨by rw [i1], zz_upd_e i3 rfl, zz_upd_e i4 rfl⟩
    · rw [if_neg hc, if_neg hc]; exact ⟨i1, i3, i4⟩
theorem zo_leave_e {τ τ' : zτ} {δ δ' : zδ} (ht : zτe τ τ') (hd : zδe τ.2.1 δ δ') (y : Int32) : zoe τ.2.1 (zo_leave τ δ y) (zo_leave τ' δ' y) := by
  unfold zo_leave
  rw [← ht.2.1, ← ht.1, ← hd.2.1]
  split
  · have hb : zδe τ.2.1 (zo_away δ (δ.2.1 ||| zz_bit y.toNatClampNeg)) (zo_away δ' (δ.2.1 ||| zz_bit y.toNatClampNeg)) := ⟨hd.1, rfl, hd.2.2.1, hd.2.2.2.1, hd.2.2.2.2⟩
    have h := zr_all_e (g := y.toNatClampNeg) ht hb hd.2.2.1 hd.2.2.2.1 τ.2.1 (Nat.le_refl _)
    exact ⟨by rw [h.1], hd.1, rfl, h.2.1, h.2.2, hd.2.2.2.2⟩
  · trivial
theorem zo_come_e {τ τ' : zτ} {δ δ' : zδ} (ht : zτe τ τ') (hd : zδe τ.2.1 δ δ') (y : Int32) : zoe τ.2.1 (zo_come τ δ y) (zo_come τ' δ' y) := by
  unfold zo_come
  rw [← ht.1, ← hd.2.1]
  split
  · exact ⟨rfl, hd.1, rfl, hd.2.2.1, hd.2.2.2.1, hd.2.2.2.2⟩
  · trivial
theorem zo_hear_e {τ τ' : zτ} {δ δ' : zδ} (hC : τ.2.1 ≤ 14) (ht : zτe τ τ') (hd : zδe τ.2.1 δ δ') (x : Int32) : zoe τ.2.1 (zo_hear τ δ x) (zo_hear τ' δ' x) := by
  unfold zo_hear
  rw [← ht.2.1]
  cases hx : zz_in x τ.2.1 with
  | false => rw [if_neg (fun z => absurd z.1 (by decide)), if_neg (fun z => absurd z.1 (by decide))]; trivial
  | true =>
    obtain ⟨c, hc, ec⟩ := zz_in_ex hx (by omega)
    have hcl : x.toNatClampNeg = c := by rw [ec]; exact nI_clamp (by omega)
    rw [hcl, ← hd.2.2.1 c hc]
    have hu : ∀ i, i < τ.2.1 → upd δ.2.2.1 c 2 i = upd δ'.2.2.1 c 2 i := zz_upd_e hd.2.2.1 rfl
    split
    · exact ⟨by rw [zc_cnt_congr (fun i hi => by rw [hu i hi])], hd.1, hd.2.1, hu, hd.2.2.2.1, hd.2.2.2.2⟩
    · trivial
theorem zs_even_e {J C : Nat} {B B' : Nat → Int32} (h : ∀ c, c < C → B c = B' c) : zs_even J C B = zs_even J C B' := zc_sum_congr (fun a _ => zc_sum_congr (fun c _ => by rw [zs_pair_e h]))
theorem zx_si_e {C : Nat} {si si' : Nat → Int32} {a i b j : Nat} (ha : a < C) (hb : b < C) (h : ∀ c, c < C → si c = si' c) : ∀ c, c < C → zx_si si a i b j c = zx_si si' a i b j c := by
  unfold zx_si
  have h1 : ∀ c, c < C → upd si a (zr_stay (si a) i ||| zz_bit j) c = upd si' a (zr_stay (si' a) i ||| zz_bit j) c := zz_upd_e h (by rw [h a ha])
  exact zz_upd_e h1 (by rw [h1 b hb])
theorem zx_may_e {J C : Nat} {st st' si si' : Nat → Int32} {pl pl' : Nat → Int32 → Bool} (hC : C ≤ 14) (h1 : ∀ c, c < C → st c = st' c) (h2 : ∀ c, c < C → si c = si' c) (h3 : ∀ c b, c < C → pl c b = pl' c b) (xa xx xb xy : Int32) : zx_may J C st si pl xa xx xb xy = zx_may J C st' si' pl' xa xx xb xy := by
  unfold zx_may
  cases ha : zz_in xa C with
  | false => simp
  | true =>
    cases hb : zz_in xb C with
    | false => simp
    | true =>
      obtain ⟨a, ha2, ea⟩ := zz_in_ex ha (by omega)
      obtain ⟨b, hb2, eb⟩ := zz_in_ex hb (by omega)
      rw [show xa.toNatClampNeg = a from by rw [ea]; exact nI_clamp (by omega), show xb.toNatClampNeg = b from by rw [eb]; exact nI_clamp (by omega), h1 a ha2, h1 b hb2, h2 a ha2, h2 b hb2, h3 a _ ha2, h3 b _ hb2]
theorem zo_ex_e {τ τ' : zτ} {δ δ' : zδ} (hJ : τ.1 ≤ 9) (hC : τ.2.1 ≤ 14) (ht : zτe τ τ') (hd : zδe τ.2.1 δ δ') (xa xx xb xy : Int32) : zoe τ.2.1 (zo_ex τ δ xa xx xb xy) (zo_ex τ' δ' xa xx xb xy) := by
  unfold zo_ex
  rw [← ht.2.1, ← ht.1, ← zx_may_e hC hd.2.2.1 hd.2.2.2.1 (fun c b hc => zo_pl_e ht hd hc b)]
  cases hm : zx_may τ.1 τ.2.1 δ.2.2.1 δ.2.2.2.1 (zo_pl τ δ) xa xx xb xy with
  | false => trivial
  | true =>
    obtain ⟨a, i, b, j, ha, hi, hb, hj, ea, ei, eb, ej⟩ := zx_may_ex hJ hC hm
    have hz := zx_si_e (i := i) (j := j) ha hb hd.2.2.2.1
    rw [show xa.toNatClampNeg = a from by rw [ea]; exact nI_clamp (by omega), show xb.toNatClampNeg = b from by rw [eb]; exact nI_clamp (by omega), show xx.toNatClampNeg = i from by rw [ei]; exact nI_clamp (by omega), show xy.toNatClampNeg = j from by rw [ej]; exact nI_clamp (by omega)]
    exact ⟨zs_even_e hz, hd.1, hd.2.1, hd.2.2.1, hz, hd.2.2.2.2⟩
theorem zo_bet_e {τ τ' : zτ} {δ δ' : zδ} (hC : τ.2.1 ≤ 14) (ht : zτe τ τ') (hd : zδe τ.2.1 δ δ') : zo_bet τ δ = zo_bet τ' δ' := by
  unfold zo_bet
  rw [← ht.2.1, ← ht.1]
  refine zx_fa_congr (fun a x b y ha hx hb hy => ?_)
  unfold zo_p
  rw [← zx_may_e hC hd.2.2.1 hd.2.2.2.1 (fun c b hc => zo_pl_e ht hd hc b), ← zs_even_e hd.2.2.2.1, ← zs_even_e (zx_si_e ha hb hd.2.2.2.1)]
theorem zo_sm_e {τ τ' : zτ} (hC : τ.2.1 ≤ 14) (ht : zτe τ τ') : ∀ (f : Nat) (δ δ' : zδ), zδe τ.2.1 δ δ' → (zo_sm τ f δ).1 = (zo_sm τ' f δ').1 ∧ zδe τ.2.1 (zo_sm τ f δ).2 (zo_sm τ' f δ').2
  | 0, _, _, hd => ⟨rfl, hd⟩
  | f + 1, δ, δ', hd => by
    rw [zo_sm, zo_sm, ← zo_bet_e hC ht hd]
    cases hb : zo_bet τ δ with
    | none => exact ⟨rfl, hd⟩
    | some r =>
      obtain ⟨a, x, b, y⟩ := r
      have hlt := zo_bet_lt hb
      have ih := zo_sm_e hC ht f (zo_si δ (zx_si δ.2.2.2.1 a x b y)) (zo_si δ' (zx_si δ'.2.2.2.1 a x b y)) ⟨hd.1, hd.2.1, hd.2.2.1, zx_si_e hlt.1 hlt.2.2.2.1 hd.2.2.2.1, hd.2.2.2.2⟩
      exact ⟨by simp only; rw [ih.1], ih.2⟩
theorem zo_smo_e {τ τ' : zτ} {δ δ' : zδ} (hC : τ.2.1 ≤ 14) (ht : zτe τ τ') (hd : zδe τ.2.1 δ δ') : zoe τ.2.1 (zo_smo τ δ) (zo_smo τ' δ') := by
  have h := zo_sm_e hC ht 40 δ δ' hd
  unfold zo_smo
  rw [← h.1]
  split
  · trivial
  · exact ⟨rfl, h.2⟩
