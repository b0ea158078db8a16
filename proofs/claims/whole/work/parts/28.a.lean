/-- how often q is the place of i beside one of b's -/
def zx_n (b : Int32) (i q : Nat) (n : Nat) : Int32 := zc_sum (fun c => if (bt b c && decide (q = zz_pp c i)) = true then 1 else 0) n
theorem zx_n_t {b : Int32} {i q c : Nat} (h : bt b c = true) : zx_n b i q (c + 1) = zx_n b i q c + (if q = zz_pp c i then 1 else 0) := by
  have e0 : zx_n b i q (c + 1) = zx_n b i q c + (if (bt b c && decide (q = zz_pp c i)) = true then 1 else 0) := rfl
  rw [e0, h]
  by_cases e : q = zz_pp c i <;> simp [e]
theorem zx_n_f {b : Int32} {i q c : Nat} (h : bt b c = false) : zx_n b i q (c + 1) = zx_n b i q c := by
  have e0 : zx_n b i q (c + 1) = zx_n b i q c + (if (bt b c && decide (q = zz_pp c i)) = true then 1 else 0) := rfl
  rw [e0, h]; simp
theorem zx_upd2 (F : Nat → Int32) (u v q : Nat) : upd (upd F u (F u - 1)) v (upd F u (F u - 1) v + 1) q = F q - (if q = u then 1 else 0) + (if q = v then 1 else 0) := by
  unfold upd
  by_cases e1 : q = v
  · subst e1
    by_cases e2 : q = u
    · subst e2; simp
    · simp [e2]
  · by_cases e2 : q = u
    · subst e2; simp [e1]
    · simp [e1, e2]
theorem zx_mv_val (P : Nat → Int32) (b : Int32) (i j q : Nat) : ∀ n, (zx_mv P b i j n).2 q = P q - zx_n b i q n + zx_n b j q n
  | 0 => by show P q = P q - 0 + 0; simp
  | c + 1 => by
    have ih := zx_mv_val P b i j q c
    unfold zx_mv
    by_cases h : bt b c = true
    · rw [if_pos h]
      show upd (upd _ _ _) _ _ q = _
      rw [zx_upd2, ih, zx_n_t h, zx_n_t h]
      generalize zx_n b i q c = A
      generalize zx_n b j q c = B
      generalize (if q = zz_pp c i then (1 : Int32) else 0) = I
      generalize (if q = zz_pp c j then (1 : Int32) else 0) = K
      generalize P q = Q
      simp only [Int32.sub_eq_add_neg, Int32.neg_add]
      ac_rfl
    · have h : bt b c = false := by cases hb : bt b c with
        | true => exact absurd hb h
        | false => rfl
      rw [if_neg (by rw [h]; decide), ih, zx_n_f h, zx_n_f h]
def zx_gain (P si : Nat → Int32) (J a i b j : Nat) : Int32 := -((zx_mv P (zr_stay (si a) i) i j J).1 + (zx_mv (zx_mv P (zr_stay (si a) i) i j J).2 (zr_stay (si b) j) j i J).1)
theorem zx_back (P : Nat → Int32) (b1 b2 : Int32) (i j J : Nat) : (zx_mv (zx_mv (zx_mv (zx_mv P b1 i j J).2 b2 j i J).2 b2 i j J).2 b1 j i J).2 = P := by
  funext q
  rw [zx_mv_val, zx_mv_val, zx_mv_val, zx_mv_val]
  generalize zx_n b1 i q J = A
  generalize zx_n b1 j q J = B
  generalize zx_n b2 i q J = X
  generalize zx_n b2 j q J = Y
  generalize P q = Q
  have : Q - A + B - Y + X - X + Y - B + A = Q := by
    rw [Int32.add_sub_cancel]
    rw [Int32.sub_add_cancel]
    rw [Int32.add_sub_cancel]
    rw [Int32.sub_add_cancel]
  exact this
/-- the first of the first n -/
def zx_fy (p : Nat → Bool) : Nat → Option Nat
  | 0 => none
  | n + 1 => match zx_fy p n with
    | some i => some i
    | none => if p n = true then some n else none
def zx_fb (p : Nat → Nat → Bool) (J a : Nat) : Nat → Option (Nat × Nat)
  | 0 => none
  | b + 1 => match zx_fb p J a b with
    | some r => some r
    | none => if a < b then (zx_fy (p b) J).map (fun y => (b, y)) else none
def zx_fx (p : Nat → Nat → Nat → Bool) (J C a : Nat) : Nat → Option (Nat × Nat × Nat)
  | 0 => none
  | x + 1 => match zx_fx p J C a x with
    | some r => some r
    | none => (zx_fb (p x) J a C).map (fun q => (x, q))
def zx_fa (p : Nat → Nat → Nat → Nat → Bool) (J C : Nat) : Nat → Option (Nat × Nat × Nat × Nat)
  | 0 => none
  | a + 1 => match zx_fa p J C a with
    | some r => some r
    | none => (zx_fx (p a) J C a J).map (fun q => (a, q))
theorem zx_fy_up {p : Nat → Bool} {r : Nat} : ∀ {i n : Nat}, i ≤ n → zx_fy p i = some r → zx_fy p n = some r := by
  intro i n
  induction n with
  | zero => intro h hr; rw [show i = 0 by omega] at hr; exact hr
  | succ n ih =>
    intro h hr
    by_cases e : i = n + 1
    · rw [← e]; exact hr
    · rw [zx_fy, ih (by omega) hr]
theorem zx_fb_up {p : Nat → Nat → Bool} {J a : Nat} {r : Nat × Nat} : ∀ {i n : Nat}, i ≤ n → zx_fb p J a i = some r → zx_fb p J a n = some r := by
  intro i n
  induction n with
  | zero => intro h hr; rw [show i = 0 by omega] at hr; exact hr
  | succ n ih =>
    intro h hr
    by_cases e : i = n + 1
    · rw [← e]; exact hr
    · rw [zx_fb, ih (by omega) hr]
theorem zx_fx_up {p : Nat → Nat → Nat → Bool} {J C a : Nat} {r : Nat × Nat × Nat} : ∀ {i n : Nat}, i ≤ n → zx_fx p J C a i = some r → zx_fx p J C a n = some r := by
  intro i n
  induction n with
  | zero => intro h hr; rw [show i = 0 by omega] at hr; exact hr
  | succ n ih =>
    intro h hr
    by_cases e : i = n + 1
    · rw [← e]; exact hr
    · rw [zx_fx, ih (by omega) hr]
theorem zx_fa_up {p : Nat → Nat → Nat → Nat → Bool} {J C : Nat} {r : Nat × Nat × Nat × Nat} : ∀ {i n : Nat}, i ≤ n → zx_fa p J C i = some r → zx_fa p J C n = some r := by
  intro i n
  induction n with
  | zero => intro h hr; rw [show i = 0 by omega] at hr; exact hr
  | succ n ih =>
    intro h hr
    by_cases e : i = n + 1
    · rw [← e]; exact hr
    · rw [zx_fa, ih (by omega) hr]
theorem zx_fb_lo {p : Nat → Nat → Bool} {J a : Nat} : ∀ {n : Nat}, n ≤ a + 1 → zx_fb p J a n = none
  | 0, _ => rfl
  | n + 1, h => by rw [zx_fb, zx_fb_lo (by omega)]; simp only; rw [if_neg (by omega)]
theorem zx_fy_none {p : Nat → Bool} : ∀ {n : Nat}, (∀ i, i < n → p i = false) → zx_fy p n = none
  | 0, _ => rfl
  | n + 1, h => by rw [zx_fy, zx_fy_none (fun i hi => h i (Nat.lt_succ_of_lt hi))]; simp only; rw [h n (Nat.lt_succ_self n)]; rfl
theorem zx_fb_none {p : Nat → Nat → Bool} {J a : Nat} : ∀ {n : Nat}, (∀ b y, p b y = false) → zx_fb p J a n = none
  | 0, _ => rfl
  | n + 1, h => by rw [zx_fb, zx_fb_none h]; simp only; rw [zx_fy_none (fun i _ => h n i)]; split <;> rfl
/-- is the exchange a better one: P the PAIRS now -/
def zx_p (P : Nat → Int32) (J C : Nat) (st si : Nat → Int32) (pl : Nat → Int32 → Bool) (a x b y : Nat) : Bool := zx_may J C st si pl (nI a) (nI x) (nI b) (nI y) && decide (0 < zx_gain P si J a x b y)
theorem zx_p_st {P : Nat → Int32} {J C : Nat} {st si : Nat → Int32} {pl : Nat → Int32 → Bool} {a x b y : Nat} (hC : C ≤ 14) (ha : a < C) (h : ¬ st a = 1) : zx_p P J C st si pl a x b y = false := by
  unfold zx_p
  rw [zx_may_f1 (by rw [nI_clamp (by omega), decide_eq_false h, Bool.and_false])]; rfl
theorem zx_p_bt {P : Nat → Int32} {J C : Nat} {st si : Nat → Int32} {pl : Nat → Int32 → Bool} {a x b y : Nat} (hJ : J ≤ 9) (hC : C ≤ 14) (ha : a < C) (hx : x < J) (h : bt (si a) x = false) : zx_p P J C st si pl a x b y = false := by
  unfold zx_p zx_may
  rw [nI_clamp (show a < 2 ^ 31 by omega), nI_clamp (show x < 2 ^ 31 by omega), h]; simp
set_option maxHeartbeats 4000000 in
set_option maxRecDepth 20000 in
theorem m_X0_gainOf {l : Launch} {E : zj_E} {h : zj_H} {g : zj_G} {k J a i b j : Nat} (hk : zj_isC k) (eJ : h 8 6 = nI J) (hJ : J ≤ 9) {xa xx xb xy : Int32} (ea : xa = nI a) (ei : xx = nI i) (eb : xb = nI b) (ej : xy = nI j) (ha : a < 14) (hb : b < 14) (hi9 : i < 9) (hj9 : j < 9) : zj_M l E yX0_gainOf cX0_gainOf 8 (some .int) 2 [.ref (E.2.1 k), .int xa, .int xx, .int xb, .int xy] h g (zj_pI (zx_gain (h (k + 6)) (h (k + 3)) J a i b j) h g) := by
  refine zj_M.of RX0 (by decide) rfl (Nat.le_of_ble_eq_true rfl) ?_
  intro Γ hΓ K Rt
  subst hΓ
  obtain ⟨hs_C, hs_Cd, hs_Cs, hs_Ci, hs_Cb, hs_Cf, hs_Cp, hs_Cl, hs_Cn, hs_Ct⟩ := zj_shC hk
  obtain ⟨hk12, hk22⟩ := zj_C12 hk
  show zj_J E Γ 8 0 [(0, .ref (E.2.1 k)), (1, .int xa), (2, .int xx), (3, .int xb), (4, .int xy)] [] h g
  refine zj_aload_n (i := 0) (pc := 0) K dX0_gainOf_0 rfl rfl ?_
  refine zj_getR (pc := 1) K lf_X0_18 hs_C rfl dX0_gainOf_1 ?_
  refine zj_getR (pc := 4) K lf_X0_59 hs_Cd rfl dX0_gainOf_4 ?_
  refine zj_iload_n (i := 1) (pc := 7) K dX0_gainOf_7 rfl rfl ?_
  refine zj_ald (j := a) (pc := 8) K hs_Ci ea ha (by first | decide | omega) dX0_gainOf_8 ?_
  refine zj_iconst (v := 1) (pc := 9) K dX0_gainOf_9 (by decide) ?_
  refine zj_iload_n (i := 2) (pc := 10) K dX0_gainOf_10 rfl rfl ?_
  refine zj_ishl (pc := 11) K dX0_gainOf_11 ?_
  refine zj_iconst (v := -1) (pc := 12) K dX0_gainOf_12 (by decide) ?_
  refine zj_ixor (pc := 13) K dX0_gainOf_13 ?_
  refine zj_iand (pc := 14) K dX0_gainOf_14 ?_
  refine zj_istore (pc := 15) K dX0_gainOf_15 rfl rfl rfl ?_
  refine zj_aload_n (i := 0) (pc := 17) K dX0_gainOf_17 rfl rfl ?_
  refine zj_getR (pc := 18) K lf_X0_18 hs_C rfl dX0_gainOf_18 ?_
  refine zj_getR (pc := 21) K lf_X0_59 hs_Cd rfl dX0_gainOf_21 ?_
  refine zj_iload_n (i := 3) (pc := 24) K dX0_gainOf_24 rfl rfl ?_
  refine zj_ald (j := b) (pc := 25) K hs_Ci eb hb (by first | decide | omega) dX0_gainOf_25 ?_
  refine zj_iconst (v := 1) (pc := 26) K dX0_gainOf_26 (by decide) ?_
  refine zj_iload (pc := 27) K dX0_gainOf_27 rfl ?_
  refine zj_ishl (pc := 29) K dX0_gainOf_29 ?_
  refine zj_iconst (v := -1) (pc := 30) K dX0_gainOf_30 (by decide) ?_
  refine zj_ixor (pc := 31) K dX0_gainOf_31 ?_
  refine zj_iand (pc := 32) K dX0_gainOf_32 ?_
  refine zj_istore (pc := 33) K dX0_gainOf_33 rfl rfl rfl ?_
  refine zj_aload_n (i := 0) (pc := 35) K dX0_gainOf_35 rfl rfl ?_
  refine zj_iload (pc := 36) K dX0_gainOf_36 rfl ?_
  refine zj_iload_n (i := 2) (pc := 38) K dX0_gainOf_38 rfl rfl ?_
  refine zj_iload (pc := 39) K dX0_gainOf_39 rfl ?_
  refine zj_cV3P (pc := 41) K lm_X0_212 hs_C (m_X0_movePairs hk eJ hJ ei ej hi9 hj9) (by decide) rfl (Nat.le_of_ble_eq_true rfl) dX0_gainOf_41 (fun v q1 g1 hp => ?_)
  obtain ⟨rfl, rfl, zs1, zs2⟩ := hp
  refine zj_aload_n (i := 0) (pc := 44) K dX0_gainOf_44 rfl rfl ?_
  refine zj_iload (pc := 45) K dX0_gainOf_45 rfl ?_
  refine zj_iload (pc := 47) K dX0_gainOf_47 rfl ?_
  refine zj_iload_n (i := 2) (pc := 49) K dX0_gainOf_49 rfl rfl ?_
  refine zj_cV3P (pc := 50) K lm_X0_212 hs_C (m_X0_movePairs hk (by rw [zs1 8 (by omega)]; exact eJ) hJ ej ei hj9 hi9) (by decide) rfl (Nat.le_of_ble_eq_true rfl) dX0_gainOf_50 (fun v q2 g2 hp => ?_)
  obtain ⟨rfl, rfl, zt1, zt2⟩ := hp
  refine zj_iadd (pc := 53) K dX0_gainOf_53 ?_
  refine zj_istore (pc := 54) K dX0_gainOf_54 rfl rfl rfl ?_
  refine zj_aload_n (i := 0) (pc := 56) K dX0_gainOf_56 rfl rfl ?_
  refine zj_iload (pc := 57) K dX0_gainOf_57 rfl ?_
  refine zj_iload_n (i := 2) (pc := 59) K dX0_gainOf_59 rfl rfl ?_
  refine zj_iload (pc := 60) K dX0_gainOf_60 rfl ?_
  refine zj_cV3P (pc := 62) K lm_X0_212 hs_C (m_X0_movePairs hk (by rw [zt1 8 (by omega), zs1 8 (by omega)]; exact eJ) hJ ei ej hi9 hj9) (by decide) rfl (Nat.le_of_ble_eq_true rfl) dX0_gainOf_62 (fun v q3 g3 hp => ?_)
  obtain ⟨rfl, rfl, zu1, zu2⟩ := hp
  refine zj_pop (pc := 65) K dX0_gainOf_65 rfl ?_
  refine zj_aload_n (i := 0) (pc := 66) K dX0_gainOf_66 rfl rfl ?_
  refine zj_iload (pc := 67) K dX0_gainOf_67 rfl ?_
  refine zj_iload (pc := 69) K dX0_gainOf_69 rfl ?_
  refine zj_iload_n (i := 2) (pc := 71) K dX0_gainOf_71 rfl rfl ?_
  refine zj_cV3P (pc := 72) K lm_X0_212 hs_C (m_X0_movePairs hk (by rw [zu1 8 (by omega), zt1 8 (by omega), zs1 8 (by omega)]; exact eJ) hJ ej ei hj9 hi9) (by decide) rfl (Nat.le_of_ble_eq_true rfl) dX0_gainOf_72 (fun v q4 g4 hp => ?_)
  obtain ⟨rfl, rfl, zv1, zv2⟩ := hp
  refine zj_pop (pc := 75) K dX0_gainOf_75 rfl ?_
  refine zj_iload (pc := 76) K dX0_gainOf_76 rfl ?_
  refine zj_ineg (pc := 78) K dX0_gainOf_78 ?_
  exact zj_iret K Rt dX0_gainOf_79 (by
    have e5 : h (k + 3) a &&& ((1 : Int32) <<< (xx &&& 31) ^^^ -1) = zr_stay (h (k + 3) a) i := by rw [ei]; rfl
    have e6 : h (k + 3) b &&& ((1 : Int32) <<< (xy &&& 31) ^^^ -1) = zr_stay (h (k + 3) b) j := by rw [ej]; rfl
    have zs2' := zs2.trans (by rw [e5])
    have zt2' := zt2.trans (by rw [zs2, e5, e6])
    refine ⟨?_, ?_, rfl⟩
    · rw [zs2, e5, e6]; rfl
    · funext c
      by_cases hc6 : c = k + 6
      · rw [hc6, zv2, zu2, zt2, zs2, e5, e6]; exact zx_back _ _ _ _ _ _
      · rw [zv1 c hc6, zu1 c hc6, zt1 c hc6, zs1 c hc6])

set_option maxHeartbeats 4000000 in
set_option maxRecDepth 20000 in
theorem m_X0_keepFound {l : Launch} {E : zj_E} {h : zj_H} {g : zj_G} {k : Nat} (hk : zj_isC k) {x1 x2 x3 x4 x5 : Int32} : zj_M l E yX0_keepFound cX0_keepFound 6 none 0 [.ref (E.2.1 k), .int x1, .int x2, .int x3, .int x4, .int x5] h g (fun v h' g' => v = none ∧ g' = g ∧ (∀ a, a ≠ k + 5 → h' a = h a) ∧ h' (k + 5) 0 = x1 ∧ h' (k + 5) 1 = x2 ∧ h' (k + 5) 2 = x3 ∧ h' (k + 5) 3 = x4 ∧ h' (k + 5) 4 = x5) := by
  refine zj_M.of RX0 (by decide) rfl (Nat.le_of_ble_eq_true rfl) ?_
  intro Γ hΓ K Rt
  subst hΓ
  obtain ⟨hs_C, hs_Cd, hs_Cs, hs_Ci, hs_Cb, hs_Cf, hs_Cp, hs_Cl, hs_Cn, hs_Ct⟩ := zj_shC hk
  obtain ⟨hk12, hk22⟩ := zj_C12 hk
  show zj_J E Γ 6 0 [(0, .ref (E.2.1 k)), (1, .int x1), (2, .int x2), (3, .int x3), (4, .int x4), (5, .int x5)] [] h g
  refine zj_aload_n (i := 0) (pc := 0) K dX0_keepFound_0 rfl rfl ?_
  refine zj_getR (pc := 1) K lf_X0_25 hs_C rfl dX0_keepFound_1 ?_
  refine zj_iload_n (i := 1) (pc := 4) K dX0_keepFound_4 rfl rfl ?_
  refine zj_putI (pc := 5) K lf_X0_197 hs_Cf rfl dX0_keepFound_5 ?_
  refine zj_aload_n (i := 0) (pc := 8) K dX0_keepFound_8 rfl rfl ?_
  refine zj_getR (pc := 9) K lf_X0_25 hs_C rfl dX0_keepFound_9 ?_
  refine zj_iload_n (i := 2) (pc := 12) K dX0_keepFound_12 rfl rfl ?_
  refine zj_putI (pc := 13) K lf_X0_200 hs_Cf rfl dX0_keepFound_13 ?_
  refine zj_aload_n (i := 0) (pc := 16) K dX0_keepFound_16 rfl rfl ?_
  refine zj_getR (pc := 17) K lf_X0_25 hs_C rfl dX0_keepFound_17 ?_
  refine zj_iload_n (i := 3) (pc := 20) K dX0_keepFound_20 rfl rfl ?_
  refine zj_putI (pc := 21) K lf_X0_203 hs_Cf rfl dX0_keepFound_21 ?_
  refine zj_aload_n (i := 0) (pc := 24) K dX0_keepFound_24 rfl rfl ?_
  refine zj_getR (pc := 25) K lf_X0_25 hs_C rfl dX0_keepFound_25 ?_
  refine zj_iload (pc := 28) K dX0_keepFound_28 rfl ?_
  refine zj_putI (pc := 30) K lf_X0_206 hs_Cf rfl dX0_keepFound_30 ?_
  refine zj_aload_n (i := 0) (pc := 33) K dX0_keepFound_33 rfl rfl ?_
  refine zj_getR (pc := 34) K lf_X0_25 hs_C rfl dX0_keepFound_34 ?_
  refine zj_iload (pc := 37) K dX0_keepFound_37 rfl ?_
  refine zj_putI (pc := 39) K lf_X0_209 hs_Cf rfl dX0_keepFound_39 ?_
  exact zj_vret K Rt dX0_keepFound_42 (⟨rfl, rfl, fun a a1 => by rw [zj_s_ne _ _ a1, zj_s_ne _ _ a1, zj_s_ne _ _ a1, zj_s_ne _ _ a1, zj_s_ne _ _ a1], by simp [zj_s_eq, upd], by simp [zj_s_eq, upd], by simp [zj_s_eq, upd], by simp [zj_s_eq, upd], by simp [zj_s_eq, upd]⟩)

set_option maxHeartbeats 4000000 in
set_option maxRecDepth 20000 in
theorem m_X0_findBetterFor {l : Launch} {E : zj_E} {h : zj_H} {g : zj_G} {k J C ia ix : Nat} (hk : zj_isC k) (eJ : h 8 6 = nI J) (hJ : J ≤ 9) (eC : h 8 7 = nI C) (hC : C ≤ 14) {xa xx : Int32} (ea : xa = nI ia) (ei : xx = nI ix) (ha : ia < C) (hx : ix < J) : zj_M l E yX0_findBetterFor cX0_findBetterFor 6 (some .boolean) 3 [.ref (E.2.1 k), .int xa, .int xx] h g (fun v h' g' => v = some (.int (zz_i (zx_fb ((zx_p (h (k + 6)) J C (h (k + 2)) (h (k + 3)) (fun c => zl_law (h (k + 4) c) (h (k + 1) 1) (h 8 8))) ia ix) J ia C).isSome)) ∧ g' = g ∧ (∀ a, a ≠ k + 5 → h' a = h a) ∧ (∀ b y, (zx_fb ((zx_p (h (k + 6)) J C (h (k + 2)) (h (k + 3)) (fun c => zl_law (h (k + 4) c) (h (k + 1) 1) (h 8 8))) ia ix) J ia C) = some (b, y) → h' (k + 5) 0 = nI ia ∧ h' (k + 5) 1 = nI ix ∧ h' (k + 5) 2 = nI b ∧ h' (k + 5) 3 = nI y ∧ h' (k + 5) 4 = zx_gain (h (k + 6)) (h (k + 3)) J ia ix b y)) := by
  refine zj_M.of RX0 (by decide) rfl (Nat.le_of_ble_eq_true rfl) ?_
  intro Γ hΓ K Rt
  subst hΓ
  obtain ⟨hs_C, hs_Cd, hs_Cs, hs_Ci, hs_Cb, hs_Cf, hs_Cp, hs_Cl, hs_Cn, hs_Ct⟩ := zj_shC hk
  obtain ⟨hk12, hk22⟩ := zj_C12 hk
  have loop : ∀ (n i : Nat) (x3 : Int32), C + 1 ≤ i + n → i ≤ C → (ia < i) → (x3 = nI i) → (zx_fb ((zx_p (h (k + 6)) J C (h (k + 2)) (h (k + 3)) (fun c => zl_law (h (k + 4) c) (h (k + 1) 1) (h 8 8))) ia ix) J ia i = none) → zj_J E Γ 6 4 [(0, .ref (E.2.1 k)), (1, .int xa), (2, .int xx), (3, .int x3)] [] h g := by
    intro n
    induction n with
    | zero => intro i x3  h1 h2; omega
    | succ n ih =>
      intro i x3  h1 h2 hlo e3 hno
      have inner : i < C → ∀ (m y : Nat) (x4 : Int32), J + 1 ≤ y + m → y ≤ J → (x4 = nI y) → (zx_fy ((zx_p (h (k + 6)) J C (h (k + 2)) (h (k + 3)) (fun c => zl_law (h (k + 4) c) (h (k + 1) 1) (h 8 8))) ia ix i) y = none) → zj_J E Γ 6 18 [(0, .ref (E.2.1 k)), (1, .int xa), (2, .int xx), (3, .int x3), (4, .int x4)] [] h g := by
        intro hi m
        induction m with
        | zero => intro y x4  h3 h4; omega
        | succ m ih2 =>
          intro y x4  h3 h4 e4 hno2
          refine zj_iload (pc := 18) K dX0_findBetterFor_18 rfl ?_
          refine zj_aload_n (i := 0) (pc := 20) K dX0_findBetterFor_20 rfl rfl ?_
          refine zj_getR (pc := 21) K lf_X0_9 hs_C rfl dX0_findBetterFor_21 ?_
          refine zj_getI (pc := 24) K lf_X0_86 hs_D rfl dX0_findBetterFor_24 ?_
          refine zj_icmp_ge (tgt := 77) (pc := 27) K dX0_findBetterFor_27 (by decide) (fun c_27 => ?_) (fun c_27 => ?_)
          · have hi2 : y = J := Nat.le_antisymm h4 (zz_ge e4 eJ (by omega) (by omega) c_27)
            subst hi2
            refine zj_iinc (v := 1) (pc := 77) K dX0_findBetterFor_77 rfl (by decide) rfl rfl rfl ?_
            refine zj_goto (tgt := 4) (pc := 80) K dX0_findBetterFor_80 (by decide) ?_
            refine zj_pick [0, 1, 2, 3] ?_
            exact ih (i + 1) _ (by omega) (by omega) (by omega) (zz_up e3) (by rw [zx_fb, hno]; simp only; rw [if_pos hlo, hno2]; rfl)
          · have hi2 : y < J := zz_nge e4 eJ (by omega) (by omega) c_27
            refine zj_aload_n (i := 0) (pc := 30) K dX0_findBetterFor_30 rfl rfl ?_
            refine zj_iload_n (i := 1) (pc := 31) K dX0_findBetterFor_31 rfl rfl ?_
            refine zj_iload_n (i := 2) (pc := 32) K dX0_findBetterFor_32 rfl rfl ?_
            refine zj_iload_n (i := 3) (pc := 33) K dX0_findBetterFor_33 rfl rfl ?_
            refine zj_iload (pc := 34) K dX0_findBetterFor_34 rfl ?_
            refine zj_cV4I (pc := 36) K lm_X0_185 hs_C (m_X0_mayExchange hk eJ hJ eC hC) (by decide) rfl (Nat.le_of_ble_eq_true rfl) dX0_findBetterFor_36 ?_
            refine zj_if_eq (tgt := 71) (pc := 39) K dX0_findBetterFor_39 (by decide) (fun c_39 => ?_) (fun c_39 => ?_)
            · replace c_39 := zz_i0.mp c_39
              have hnp : (zx_p (h (k + 6)) J C (h (k + 2)) (h (k + 3)) (fun c => zl_law (h (k + 4) c) (h (k + 1) 1) (h 8 8))) ia ix i y = false := by
                rw [zx_p, show zx_may J C (h (k + 2)) (h (k + 3)) (fun c => zl_law (h (k + 4) c) (h (k + 1) 1) (h 8 8)) (nI ia) (nI ix) (nI i) (nI y) = false from by rw [← ea, ← ei, ← e3, ← e4]; exact c_39]; rfl
              refine zj_iinc (v := 1) (pc := 71) K dX0_findBetterFor_71 rfl (by decide) rfl rfl rfl ?_
              refine zj_goto (tgt := 18) (pc := 74) K dX0_findBetterFor_74 (by decide) ?_
              refine zj_pick [0, 1, 2, 3, 4] ?_
              exact ih2 (y + 1) _ (by omega) (by omega) (zz_up e4) (by rw [zx_fy, hno2]; simp only; rw [hnp]; rfl)
            · replace c_39 := zz_n0.mp c_39
              refine zj_aload_n (i := 0) (pc := 42) K dX0_findBetterFor_42 rfl rfl ?_
              refine zj_iload_n (i := 1) (pc := 43) K dX0_findBetterFor_43 rfl rfl ?_
              refine zj_iload_n (i := 2) (pc := 44) K dX0_findBetterFor_44 rfl rfl ?_
              refine zj_iload_n (i := 3) (pc := 45) K dX0_findBetterFor_45 rfl rfl ?_
              refine zj_iload (pc := 46) K dX0_findBetterFor_46 rfl ?_
              refine zj_cV4I (pc := 48) K lm_X0_189 hs_C (m_X0_gainOf hk eJ hJ ea ei e3 e4 (by omega) (by omega) (by omega) (by omega)) (by decide) rfl (Nat.le_of_ble_eq_true rfl) dX0_findBetterFor_48 ?_
              refine zj_istore (pc := 51) K dX0_findBetterFor_51 rfl rfl rfl ?_
              refine zj_iload (pc := 53) K dX0_findBetterFor_53 rfl ?_
              refine zj_if_le (tgt := 71) (pc := 55) K dX0_findBetterFor_55 (by decide) (fun c_55 => ?_) (fun c_55 => ?_)
              · have hnp : (zx_p (h (k + 6)) J C (h (k + 2)) (h (k + 3)) (fun c => zl_law (h (k + 4) c) (h (k + 1) 1) (h 8 8))) ia ix i y = false := by
                  rw [zx_p, decide_eq_false (Int32.not_lt.mpr c_55), Bool.and_false]
                refine zj_iinc (v := 1) (pc := 71) K dX0_findBetterFor_71 rfl (by decide) rfl rfl rfl ?_
                refine zj_goto (tgt := 18) (pc := 74) K dX0_findBetterFor_74 (by decide) ?_
                refine zj_pick [0, 1, 2, 3, 4] ?_
                exact ih2 (y + 1) _ (by omega) (by omega) (zz_up e4) (by rw [zx_fy, hno2]; simp only; rw [hnp]; rfl)
              · have hyp : (zx_p (h (k + 6)) J C (h (k + 2)) (h (k + 3)) (fun c => zl_law (h (k + 4) c) (h (k + 1) 1) (h 8 8))) ia ix i y = true := by
                  rw [zx_p, show zx_may J C (h (k + 2)) (h (k + 3)) (fun c => zl_law (h (k + 4) c) (h (k + 1) 1) (h 8 8)) (nI ia) (nI ix) (nI i) (nI y) = true from by rw [← ea, ← ei, ← e3, ← e4]; exact c_39, decide_eq_true (Int32.not_le.mp c_55)]; rfl
                refine zj_aload_n (i := 0) (pc := 58) K dX0_findBetterFor_58 rfl rfl ?_
                refine zj_iload_n (i := 1) (pc := 59) K dX0_findBetterFor_59 rfl rfl ?_
                refine zj_iload_n (i := 2) (pc := 60) K dX0_findBetterFor_60 rfl rfl ?_
                refine zj_iload_n (i := 3) (pc := 61) K dX0_findBetterFor_61 rfl rfl ?_
                refine zj_iload (pc := 62) K dX0_findBetterFor_62 rfl ?_
                refine zj_iload (pc := 64) K dX0_findBetterFor_64 rfl ?_
                refine zj_cV5P (pc := 66) K lm_X0_193 hs_C (m_X0_keepFound hk) (by decide) rfl (Nat.le_of_ble_eq_true rfl) dX0_findBetterFor_66 (fun v q2 g2 hp => ?_)
                obtain ⟨rfl, rfl, zs1, zk0, zk1, zk2, zk3, zk4⟩ := hp
                have hfy : zx_fy ((zx_p (h (k + 6)) J C (h (k + 2)) (h (k + 3)) (fun c => zl_law (h (k + 4) c) (h (k + 1) 1) (h 8 8))) ia ix i) J = some y := zx_fy_up (i := y + 1) (by omega) (by rw [zx_fy, hno2]; simp only; rw [if_pos hyp])
                have hR : (zx_fb ((zx_p (h (k + 6)) J C (h (k + 2)) (h (k + 3)) (fun c => zl_law (h (k + 4) c) (h (k + 1) 1) (h 8 8))) ia ix) J ia C) = some (i, y) := zx_fb_up (i := i + 1) (by omega) (by rw [zx_fb, hno]; simp only; rw [if_pos hlo, hfy]; rfl)
                refine zj_iconst (v := 1) (pc := 69) K dX0_findBetterFor_69 (by decide) ?_
                exact zj_zret K Rt dX0_findBetterFor_70 (by decide) (⟨by rw [hR]; rfl, rfl, zs1, fun b y2 hby => by rw [hR] at hby; cases hby; exact ⟨by rw [zk0, ea], by rw [zk1, ei], by rw [zk2, e3], by rw [zk3, e4], zk4⟩⟩)
      refine zj_iload_n (i := 3) (pc := 4) K dX0_findBetterFor_4 rfl rfl ?_
      refine zj_aload_n (i := 0) (pc := 5) K dX0_findBetterFor_5 rfl rfl ?_
      refine zj_getR (pc := 6) K lf_X0_9 hs_C rfl dX0_findBetterFor_6 ?_
      refine zj_getI (pc := 9) K lf_X0_55 hs_D rfl dX0_findBetterFor_9 ?_
      refine zj_icmp_ge (tgt := 83) (pc := 12) K dX0_findBetterFor_12 (by decide) (fun c_12 => ?_) (fun c_12 => ?_)
      · have hi : i = C := Nat.le_antisymm h2 (zz_ge e3 eC (by omega) (by omega) c_12)
        subst hi
        refine zj_iconst (v := 0) (pc := 83) K dX0_findBetterFor_83 (by decide) ?_
        exact zj_zret K Rt dX0_findBetterFor_84 (by decide) (⟨by rw [hno]; rfl, rfl, fun _ _ => rfl, fun b y hby => by rw [hno] at hby; cases hby⟩)
      · have hi : i < C := zz_nge e3 eC (by omega) (by omega) c_12
        refine zj_iconst (v := 0) (pc := 15) K dX0_findBetterFor_15 (by decide) ?_
        refine zj_istore (pc := 16) K dX0_findBetterFor_16 rfl rfl rfl ?_
        exact inner hi (J + 1) 0 _ (by omega) (by omega) rfl rfl
  show zj_J E Γ 6 0 [(0, .ref (E.2.1 k)), (1, .int xa), (2, .int xx)] [] h g
  refine zj_iload_n (i := 1) (pc := 0) K dX0_findBetterFor_0 rfl rfl ?_
  refine zj_iconst (v := 1) (pc := 1) K dX0_findBetterFor_1 (by decide) ?_
  refine zj_iadd (pc := 2) K dX0_findBetterFor_2 ?_
  refine zj_istore_n (i := 3) (pc := 3) K dX0_findBetterFor_3 rfl rfl rfl rfl ?_
  exact loop (C + 1) (ia + 1) _ (by omega) (by omega) (by omega) (zz_up ea) (zx_fb_lo (Nat.le_refl _))

set_option maxHeartbeats 4000000 in
set_option maxRecDepth 20000 in
theorem m_X0_findBetter {l : Launch} {E : zj_E} {h : zj_H} {g : zj_G} {k J C : Nat} (hk : zj_isC k) (eJ : h 8 6 = nI J) (hJ : J ≤ 9) (eC : h 8 7 = nI C) (hC : C ≤ 14)  : zj_M l E yX0_findBetter cX0_findBetter 3 (some .boolean) 4 [.ref (E.2.1 k)] h g (fun v h' g' => v = some (.int (zz_i (zx_fa (zx_p (zb_Pn (h (k + 3)) (-1) J (fun j => if j < 81 then 0 else h (k + 6) j) C) J C (h (k + 2)) (h (k + 3)) (fun c => zl_law (h (k + 4) c) (h (k + 1) 1) (h 8 8))) J C C).isSome)) ∧ g' = g ∧ (∀ a, a ≠ k + 5 → a ≠ k + 6 → a ≠ k + 7 → h' a = h a) ∧ (∀ a x b y, (zx_fa (zx_p (zb_Pn (h (k + 3)) (-1) J (fun j => if j < 81 then 0 else h (k + 6) j) C) J C (h (k + 2)) (h (k + 3)) (fun c => zl_law (h (k + 4) c) (h (k + 1) 1) (h 8 8))) J C C) = some (a, x, b, y) → h' (k + 5) 0 = nI a ∧ h' (k + 5) 1 = nI x ∧ h' (k + 5) 2 = nI b ∧ h' (k + 5) 3 = nI y ∧ h' (k + 5) 4 = zx_gain (zb_Pn (h (k + 3)) (-1) J (fun j => if j < 81 then 0 else h (k + 6) j) C) (h (k + 3)) J a x b y)) := by
  refine zj_M.of RX0 (by decide) rfl (Nat.le_of_ble_eq_true rfl) ?_
  intro Γ hΓ K Rt
  subst hΓ
  obtain ⟨hs_C, hs_Cd, hs_Cs, hs_Ci, hs_Cb, hs_Cf, hs_Cp, hs_Cl, hs_Cn, hs_Ct⟩ := zj_shC hk
  obtain ⟨hk12, hk22⟩ := zj_C12 hk
  have loop : ∀ (n i : Nat) (x1 : Int32) (q : zj_H), C + 1 ≤ i + n → i ≤ C → (x1 = nI i) → (∀ a, a ≠ k + 5 → a ≠ k + 6 → a ≠ k + 7 → q a = h a) → (q (k + 6) = (zb_Pn (h (k + 3)) (-1) J (fun j => if j < 81 then 0 else h (k + 6) j) C)) → (zx_fa (zx_p (zb_Pn (h (k + 3)) (-1) J (fun j => if j < 81 then 0 else h (k + 6) j) C) J C (h (k + 2)) (h (k + 3)) (fun c => zl_law (h (k + 4) c) (h (k + 1) 1) (h 8 8))) J C i = none) → zj_J E Γ 3 7 [(0, .ref (E.2.1 k)), (1, .int x1)] [] q g := by
    intro n
    induction n with
    | zero => intro i x1 q  h1 h2; omega
    | succ n ih =>
      intro i x1 q  h1 h2 e1 zf1 zf2 hno
      have eJ2 : q 8 6 = nI J := by rw [zf1 8 (by omega) (by omega) (by omega)]; exact eJ
      have eC2 : q 8 7 = nI C := by rw [zf1 8 (by omega) (by omega) (by omega)]; exact eC
      have e8 : q 8 = h 8 := zf1 _ (by omega) (by omega) (by omega)
      have est : q (k + 2) = h (k + 2) := zf1 _ (by omega) (by omega) (by omega)
      have esi : q (k + 3) = h (k + 3) := zf1 _ (by omega) (by omega) (by omega)
      have eba : q (k + 4) = h (k + 4) := zf1 _ (by omega) (by omega) (by omega)
      have ed : q (k + 1) = h (k + 1) := zf1 _ (by omega) (by omega) (by omega)
      have inner : i < C → ∀ (m z : Nat) (x2 : Int32) (q : zj_H), J + 1 ≤ z + m → z ≤ J → (x2 = nI z) → (∀ a, a ≠ k + 5 → a ≠ k + 6 → a ≠ k + 7 → q a = h a) → (q (k + 6) = (zb_Pn (h (k + 3)) (-1) J (fun j => if j < 81 then 0 else h (k + 6) j) C)) → (zx_fx ((zx_p (zb_Pn (h (k + 3)) (-1) J (fun j => if j < 81 then 0 else h (k + 6) j) C) J C (h (k + 2)) (h (k + 3)) (fun c => zl_law (h (k + 4) c) (h (k + 1) 1) (h 8 8))) i) J C i z = none) → zj_J E Γ 3 20 [(0, .ref (E.2.1 k)), (1, .int x1), (2, .int x2)] [] q g := by
        intro hi m
        induction m with
        | zero => intro z x2 q  h3 h4; omega
        | succ m ih2 =>
          intro z x2 q  h3 h4 e2 zf1 zf2 hno2
          have eJ2 : q 8 6 = nI J := by rw [zf1 8 (by omega) (by omega) (by omega)]; exact eJ
          have eC2 : q 8 7 = nI C := by rw [zf1 8 (by omega) (by omega) (by omega)]; exact eC
          have e8 : q 8 = h 8 := zf1 _ (by omega) (by omega) (by omega)
          have est : q (k + 2) = h (k + 2) := zf1 _ (by omega) (by omega) (by omega)
          have esi : q (k + 3) = h (k + 3) := zf1 _ (by omega) (by omega) (by omega)
          have eba : q (k + 4) = h (k + 4) := zf1 _ (by omega) (by omega) (by omega)
          have ed : q (k + 1) = h (k + 1) := zf1 _ (by omega) (by omega) (by omega)
          refine zj_iload_n (i := 2) (pc := 20) K dX0_findBetter_20 rfl rfl ?_
          refine zj_aload_n (i := 0) (pc := 21) K dX0_findBetter_21 rfl rfl ?_
          refine zj_getR (pc := 22) K lf_X0_9 hs_C rfl dX0_findBetter_22 ?_
          refine zj_getI (pc := 25) K lf_X0_86 hs_D rfl dX0_findBetter_25 ?_
          refine zj_icmp_ge (tgt := 77) (pc := 28) K dX0_findBetter_28 (by decide) (fun c_28 => ?_) (fun c_28 => ?_)
          · have hi2 : z = J := Nat.le_antisymm h4 (zz_ge e2 eJ2 (by omega) (by omega) c_28)
            refine zj_iinc (v := 1) (pc := 77) K dX0_findBetter_77 rfl (by decide) rfl rfl rfl ?_
            refine zj_goto (tgt := 7) (pc := 80) K dX0_findBetter_80 (by decide) ?_
            refine zj_pick [0, 1] ?_
            exact ih (i + 1) _ _ (by omega) (by omega) (zz_up e1) zf1 zf2 (by rw [zx_fa, hno]; simp only; have hno3 := hno2; rw [hi2] at hno3; rw [hno3]; rfl)
          · have hi2 : z < J := zz_nge e2 eJ2 (by omega) (by omega) c_28
            refine zj_aload_n (i := 0) (pc := 31) K dX0_findBetter_31 rfl rfl ?_
            refine zj_getR (pc := 32) K lf_X0_18 hs_C rfl dX0_findBetter_32 ?_
            refine zj_getR (pc := 35) K lf_X0_52 hs_Cd rfl dX0_findBetter_35 ?_
            refine zj_iload_n (i := 1) (pc := 38) K dX0_findBetter_38 rfl rfl ?_
            refine zj_ald (j := _) (pc := 39) K hs_Cs (by first | assumption | rfl) (by first | assumption | omega) (by first | decide | omega) dX0_findBetter_39 ?_
            refine zj_iconst (v := 1) (pc := 40) K dX0_findBetter_40 (by decide) ?_
            refine zj_icmp_ne (tgt := 71) (pc := 41) K dX0_findBetter_41 (by decide) (fun c_41 => ?_) (fun c_41 => ?_)
            · rw [est] at c_41
              have hfb : zx_fb ((zx_p (zb_Pn (h (k + 3)) (-1) J (fun j => if j < 81 then 0 else h (k + 6) j) C) J C (h (k + 2)) (h (k + 3)) (fun c => zl_law (h (k + 4) c) (h (k + 1) 1) (h 8 8))) i z) J i C = none := zx_fb_none (fun b y => zx_p_st hC hi c_41)
              refine zj_iinc (v := 1) (pc := 71) K dX0_findBetter_71 rfl (by decide) rfl rfl rfl ?_
              refine zj_goto (tgt := 20) (pc := 74) K dX0_findBetter_74 (by decide) ?_
              first
              | exact ih2 (z + 1) _ _ (by omega) (by omega) (zz_up e2) zf1 zf2 (by rw [zx_fx, hno2]; simp only; rw [hfb]; rfl)
              | exact ih2 (z + 1) _ _ (by omega) (by omega) (zz_up e2) (fun a a1 a2 a3 => by rw [zs1 a a1]; exact zf1 a a1 a2 a3) (by rw [zs1 _ (by omega)]; exact zf2) (by rw [zx_fx, hno2]; simp only; rw [hfb]; rfl)
            · rw [est] at c_41
              refine zj_aload_n (i := 0) (pc := 44) K dX0_findBetter_44 rfl rfl ?_
              refine zj_getR (pc := 45) K lf_X0_18 hs_C rfl dX0_findBetter_45 ?_
              refine zj_getR (pc := 48) K lf_X0_59 hs_Cd rfl dX0_findBetter_48 ?_
              refine zj_iload_n (i := 1) (pc := 51) K dX0_findBetter_51 rfl rfl ?_
              refine zj_ald (j := _) (pc := 52) K hs_Ci (by first | assumption | rfl) (by first | assumption | omega) (by first | decide | omega) dX0_findBetter_52 ?_
              refine zj_iload_n (i := 2) (pc := 53) K dX0_findBetter_53 rfl rfl ?_
              refine zj_cN2I (pc := 54) K lm_X0_62 (m_X7_has (by assumption) (by omega)) (by decide) rfl (Nat.le_of_ble_eq_true rfl) dX0_findBetter_54 ?_
              refine zj_if_eq (tgt := 71) (pc := 57) K dX0_findBetter_57 (by decide) (fun c_57 => ?_) (fun c_57 => ?_)
              · replace c_57 := zz_i0.mp c_57
                rw [esi] at c_57
                have hfb : zx_fb ((zx_p (zb_Pn (h (k + 3)) (-1) J (fun j => if j < 81 then 0 else h (k + 6) j) C) J C (h (k + 2)) (h (k + 3)) (fun c => zl_law (h (k + 4) c) (h (k + 1) 1) (h 8 8))) i z) J i C = none := zx_fb_none (fun b y => zx_p_bt hJ hC hi hi2 c_57)
                refine zj_iinc (v := 1) (pc := 71) K dX0_findBetter_71 rfl (by decide) rfl rfl rfl ?_
                refine zj_goto (tgt := 20) (pc := 74) K dX0_findBetter_74 (by decide) ?_
                first
                | exact ih2 (z + 1) _ _ (by omega) (by omega) (zz_up e2) zf1 zf2 (by rw [zx_fx, hno2]; simp only; rw [hfb]; rfl)
                | exact ih2 (z + 1) _ _ (by omega) (by omega) (zz_up e2) (fun a a1 a2 a3 => by rw [zs1 a a1]; exact zf1 a a1 a2 a3) (by rw [zs1 _ (by omega)]; exact zf2) (by rw [zx_fx, hno2]; simp only; rw [hfb]; rfl)
              · replace c_57 := zz_n0.mp c_57
                rw [esi] at c_57
                refine zj_aload_n (i := 0) (pc := 60) K dX0_findBetter_60 rfl rfl ?_
                refine zj_iload_n (i := 1) (pc := 61) K dX0_findBetter_61 rfl rfl ?_
                refine zj_iload_n (i := 2) (pc := 62) K dX0_findBetter_62 rfl rfl ?_
                refine zj_cV2P (pc := 63) K lm_X0_182 hs_C (m_X0_findBetterFor (J := J) (C := C) hk eJ2 hJ eC2 hC e1 e2 hi hi2) (by decide) rfl (Nat.le_of_ble_eq_true rfl) dX0_findBetter_63 (fun v q2 g2 hp => ?_)
                obtain ⟨rfl, rfl, zs1, zs2⟩ := hp
                rw [zf2, est, esi, eba, ed, e8] at zs2
                rw [zf2, est, esi, eba, ed, e8]
                refine zj_if_eq (tgt := 71) (pc := 66) K dX0_findBetter_66 (by decide) (fun c_66 => ?_) (fun c_66 => ?_)
                · replace c_66 := zz_i0.mp c_66
                  have hfb : zx_fb ((zx_p (zb_Pn (h (k + 3)) (-1) J (fun j => if j < 81 then 0 else h (k + 6) j) C) J C (h (k + 2)) (h (k + 3)) (fun c => zl_law (h (k + 4) c) (h (k + 1) 1) (h 8 8))) i z) J i C = none := by
                    cases hq : zx_fb ((zx_p (zb_Pn (h (k + 3)) (-1) J (fun j => if j < 81 then 0 else h (k + 6) j) C) J C (h (k + 2)) (h (k + 3)) (fun c => zl_law (h (k + 4) c) (h (k + 1) 1) (h 8 8))) i z) J i C with
                    | none => rfl
                    | some r => rw [hq] at c_66; cases c_66
                  refine zj_iinc (v := 1) (pc := 71) K dX0_findBetter_71 rfl (by decide) rfl rfl rfl ?_
                  refine zj_goto (tgt := 20) (pc := 74) K dX0_findBetter_74 (by decide) ?_
                  first
                  | exact ih2 (z + 1) _ _ (by omega) (by omega) (zz_up e2) zf1 zf2 (by rw [zx_fx, hno2]; simp only; rw [hfb]; rfl)
                  | exact ih2 (z + 1) _ _ (by omega) (by omega) (zz_up e2) (fun a a1 a2 a3 => by rw [zs1 a a1]; exact zf1 a a1 a2 a3) (by rw [zs1 _ (by omega)]; exact zf2) (by rw [zx_fx, hno2]; simp only; rw [hfb]; rfl)
                · replace c_66 := zz_n0.mp c_66
                  obtain ⟨⟨b0, y0⟩, hfb⟩ : ∃ r, zx_fb ((zx_p (zb_Pn (h (k + 3)) (-1) J (fun j => if j < 81 then 0 else h (k + 6) j) C) J C (h (k + 2)) (h (k + 3)) (fun c => zl_law (h (k + 4) c) (h (k + 1) 1) (h 8 8))) i z) J i C = some r := by
                    cases hq : zx_fb ((zx_p (zb_Pn (h (k + 3)) (-1) J (fun j => if j < 81 then 0 else h (k + 6) j) C) J C (h (k + 2)) (h (k + 3)) (fun c => zl_law (h (k + 4) c) (h (k + 1) 1) (h 8 8))) i z) J i C with
                    | none => rw [hq] at c_66; cases c_66
                    | some r => exact ⟨r, rfl⟩
                  have hfx : zx_fx ((zx_p (zb_Pn (h (k + 3)) (-1) J (fun j => if j < 81 then 0 else h (k + 6) j) C) J C (h (k + 2)) (h (k + 3)) (fun c => zl_law (h (k + 4) c) (h (k + 1) 1) (h 8 8))) i) J C i J = some (z, b0, y0) := zx_fx_up (i := z + 1) (by omega) (by rw [zx_fx, hno2]; simp only; rw [hfb]; rfl)
                  have hR : (zx_fa (zx_p (zb_Pn (h (k + 3)) (-1) J (fun j => if j < 81 then 0 else h (k + 6) j) C) J C (h (k + 2)) (h (k + 3)) (fun c => zl_law (h (k + 4) c) (h (k + 1) 1) (h 8 8))) J C C) = some (i, z, b0, y0) := zx_fa_up (i := i + 1) (by omega) (by rw [zx_fa, hno]; simp only; rw [hfx]; rfl)
                  refine zj_iconst (v := 1) (pc := 69) K dX0_findBetter_69 (by decide) ?_
                  exact zj_zret K Rt dX0_findBetter_70 (by decide) (⟨by rw [hR]; rfl, rfl, fun a a1 a2 a3 => by rw [zs1 a a1]; exact zf1 a a1 a2 a3, fun a x b y hr => by rw [hR] at hr; cases hr; exact zs2 b0 y0 hfb⟩)
      refine zj_iload_n (i := 1) (pc := 7) K dX0_findBetter_7 rfl rfl ?_
      refine zj_aload_n (i := 0) (pc := 8) K dX0_findBetter_8 rfl rfl ?_
      refine zj_getR (pc := 9) K lf_X0_9 hs_C rfl dX0_findBetter_9 ?_
      refine zj_getI (pc := 12) K lf_X0_55 hs_D rfl dX0_findBetter_12 ?_
      refine zj_icmp_ge (tgt := 83) (pc := 15) K dX0_findBetter_15 (by decide) (fun c_15 => ?_) (fun c_15 => ?_)
      · have hi : i = C := Nat.le_antisymm h2 (zz_ge e1 eC2 (by omega) (by omega) c_15)
        refine zj_iconst (v := 0) (pc := 83) K dX0_findBetter_83 (by decide) ?_
        exact zj_zret K Rt dX0_findBetter_84 (by decide) (⟨by rw [show (zx_fa (zx_p (zb_Pn (h (k + 3)) (-1) J (fun j => if j < 81 then 0 else h (k + 6) j) C) J C (h (k + 2)) (h (k + 3)) (fun c => zl_law (h (k + 4) c) (h (k + 1) 1) (h 8 8))) J C C) = none from by have hno3 := hno; rw [hi] at hno3; exact hno3]; rfl, rfl, zf1, fun a x b y hr => by rw [show (zx_fa (zx_p (zb_Pn (h (k + 3)) (-1) J (fun j => if j < 81 then 0 else h (k + 6) j) C) J C (h (k + 2)) (h (k + 3)) (fun c => zl_law (h (k + 4) c) (h (k + 1) 1) (h 8 8))) J C C) = none from by have hno3 := hno; rw [hi] at hno3; exact hno3] at hr; cases hr⟩)
      · have hi : i < C := zz_nge e1 eC2 (by omega) (by omega) c_15
        refine zj_iconst (v := 0) (pc := 18) K dX0_findBetter_18 (by decide) ?_
        refine zj_istore_n (i := 2) (pc := 19) K dX0_findBetter_19 rfl rfl rfl rfl ?_
        exact inner hi (J + 1) 0 _ _ (by omega) (by omega) rfl zf1 zf2 rfl
  show zj_J E Γ 3 0 [(0, .ref (E.2.1 k))] [] h g
  refine zj_aload_n (i := 0) (pc := 0) K dX0_findBetter_0 rfl rfl ?_
  refine zj_iconst (v := -1) (pc := 1) K dX0_findBetter_1 (by decide) ?_
  refine zj_cV1P (pc := 2) K lm_X0_135 hs_C (m_X0_countBenches hk eJ hJ eC hC) (by decide) rfl (Nat.le_of_ble_eq_true rfl) dX0_findBetter_2 (fun v q g1 hp => ?_)
  obtain ⟨rfl, rfl, zs1, zs2, zs3⟩ := hp
  refine zj_iconst (v := 0) (pc := 5) K dX0_findBetter_5 (by decide) ?_
  refine zj_istore_n (i := 1) (pc := 6) K dX0_findBetter_6 rfl rfl rfl rfl ?_
  exact loop (C + 1) 0 _ _ (by omega) (by omega) rfl (fun a a1 a2 a3 => zs1 a a2 a3) zs3 rfl
