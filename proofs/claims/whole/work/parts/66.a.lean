-- words of the reference: by the number that their letters make, 27 to a place
def zv_cn (d : Nat → Nat) : Nat → Nat
  | 0 => 0
  | m + 1 => 27 * zv_cn d m + d m
theorem zv_cn_un : ∀ {m m' : Nat} {d d' : Nat → Nat}, (∀ k, k < m → 1 ≤ d k ∧ d k ≤ 26) → (∀ k, k < m' → 1 ≤ d' k ∧ d' k ≤ 26) → zv_cn d m = zv_cn d' m' → m = m' ∧ ∀ k, k < m → d k = d' k
  | 0, 0, _, _, _, _, _ => ⟨rfl, fun k hk => absurd hk (Nat.not_lt_zero k)⟩
  | 0, m' + 1, _, d', _, h', e => by
    have h1 := h' m' (by omega)
    rw [zv_cn, zv_cn] at e; omega
  | m + 1, 0, d, _, h, _, e => by
    have h1 := h m (by omega)
    rw [zv_cn, zv_cn] at e; omega
  | m + 1, m' + 1, d, d', h, h', e => by
    have h1 := h m (by omega)
    have h2 := h' m' (by omega)
    rw [zv_cn, zv_cn] at e
    obtain ⟨e1, e2⟩ := zv_cn_un (m := m) (m' := m') (fun k hk => h k (by omega)) (fun k hk => h' k (by omega)) (by omega)
    subst e1
    refine ⟨rfl, fun k hk => ?_⟩
    by_cases ek : k = m
    · rw [ek]; omega
    · exact e2 k (by omega)
theorem zv_cn_lt {d : Nat → Nat} : ∀ {m : Nat}, (∀ k, k < m → d k ≤ 26) → zv_cn d m < 27 ^ m
  | 0, _ => by
    show 0 < 1
    decide
  | m + 1, h => by
    have h1 := h m (by omega)
    have ih := zv_cn_lt (m := m) (fun k hk => h k (by omega))
    rw [zv_cn, Nat.pow_succ]; omega
def zv_dg (x : Int32) : Nat := x.toNatClampNeg - 96
theorem zv_dg_let {x : Int32} (h : zw_let x = true) : 1 ≤ zv_dg x ∧ zv_dg x ≤ 26 ∧ x = nI (96 + zv_dg x) := by
  obtain ⟨d, h1, h2, rfl⟩ := zw_let_nI h
  unfold zv_dg
  rw [nI_clamp (by omega), show 96 + d - 96 = d by omega]
  exact ⟨h1, h2, rfl⟩
theorem zv_code {t : Nat → Int32} {p : Nat} : ∀ {m : Nat}, (∀ k, k < m → zw_let (t (p + k)) = true) → zw_code t p m = lN (zv_cn (fun k => zv_dg (t (p + k))) m)
  | 0, _ => rfl
  | m + 1, h => by
    obtain ⟨h1, h2, h3⟩ := zv_dg_let (h m (by omega))
    rw [zw_code, zv_code (fun k hk => h k (by omega)), zv_cn]
    have e1 : (t (p + m)).toInt64 = lN (96 + zv_dg (t (p + m))) := by
      conv => lhs; rw [h3]
      exact nI_l (by omega)
    rw [e1, show (27 : Int64) = lN 27 from rfl, lN_mul, lN_add, show (96 : Int64) = lN 96 from rfl, lN_sub (by omega)]
    exact congrArg lN (by omega)
theorem zv_lN {a b : Nat} (ha : a < 2 ^ 63) (hb : b < 2 ^ 63) (h : lN a = lN b) : a = b := by
  have h1 : (lN a).toInt = (lN b).toInt := by rw [h]
  have e1 : (lN a).toInt = (a : Int) := lg_ofNat_toInt ha
  have e2 : (lN b).toInt = (b : Int) := lg_ofNat_toInt hb
  rw [e1, e2] at h1
  omega
def zv_V0 (a b c : Int32) : Int64 := 27 * (27 * (a.toInt64 - 96) + b.toInt64 - 96) + c.toInt64 - 96
def zv_V1 (v : Int64) (d : Int32) : Int64 := if d ≤ 0 then v else 27 * v + d.toInt64 - 96
def zv_V (a b c d e f : Int32) : Int64 := zv_V1 (zv_V1 (zv_V1 (zv_V0 a b c) d) e) f
/-- the number of the i-th word -/
def zv_wd (i : Nat) : Nat := zv_cn (fun k => zv_dg ((zj_sbyt.getD i []).getD k 0)) (zj_sbyt.getD i []).length
theorem zv_wd0 : zv_V 99 111 117 114 116 0 = lN (zv_wd 0) := by decide +kernel
theorem zv_wd1 : zv_V 106 117 100 103 101 0 = lN (zv_wd 1) := by decide +kernel
theorem zv_wd2 : zv_V 115 101 110 105 111 114 = lN (zv_wd 2) := by decide +kernel
theorem zv_wd3 : zv_V 99 97 115 101 0 0 = lN (zv_wd 3) := by decide +kernel
theorem zv_wd4 : zv_V 110 111 116 0 0 0 = lN (zv_wd 4) := by decide +kernel
theorem zw_so_eq {n K c : Nat} (hc : 2 ≤ c) : zw_so n K = c ↔ K = c := by
  unfold zw_so
  constructor
  · intro h
    split at h
    · split at h <;> omega
    · split at h <;> omega
  · intro h
    rw [if_neg (by omega), if_neg (by omega)]; exact h
theorem zw_so_le {n K : Nat} (h : K ≤ 4) : zw_so n K ≤ 4 := by
  unfold zw_so
  split
  · split <;> omega
  · split <;> omega
/-- the reference's cells against the TOKEN that stands next -/
def zv_q (h : zj_H) (g : zj_G) (t : Nat → Int32) (n : Nat) (q : zuK) : Prop := h 78 5 = nI q.2.1 ∧ h 78 4 = nI q.2.2.1 ∧ h 78 6 = nI (zw_so n q.1) ∧ (q.1 = 3 → h 78 7 = q.2.2.2) ∧ (q.1 = 2 → g 78 10 = zw_code t q.2.1 (min (q.2.2.1 - q.2.1) 7)) ∧ zu_tk t n q
theorem zv_sort {h : zj_H} {g : zj_G} {t : Nat → Int32} {n c : Nat} {q : zuK} (hq : zv_q h g t n q) (hc : 2 ≤ c) (hc4 : c ≤ 4) : h 78 6 = nI c ↔ q.1 = c := by
  have h4 := (zu_tk_1 hq.2.2.2.2.2).1
  rw [hq.2.2.1, nI_eq (by have := zw_so_le (n := n) h4; omega) (by omega), zw_so_eq hc]
theorem zv_is {h : zj_H} {g : zj_G} {t : Nat → Int32} {n i : Nat} {q : zuK} {V : Int64} (hq : zv_q h g t n q) (hi : i < 5) (hV : V = lN (zv_wd i)) : (decide (h 78 6 = 2) && decide (g 78 10 = V)) = zu_is t q i := by
  by_cases h2 : q.1 = 2
  · have hs : h 78 6 = 2 := (zv_sort hq (c := 2) (by decide) (by decide)).mpr h2
    rw [decide_eq_true hs, Bool.true_and, hq.2.2.2.2.1 h2, hV]
    obtain ⟨a, _, htk⟩ := hq.2.2.2.2.2
    rw [h2] at htk
    obtain ⟨z1, z2⟩ := zw_tok_2 htk
    have hl6 := zk_l6 i hi
    have hll := zk_len i hi
    have hd1 : ∀ k, k < min (q.2.2.1 - q.2.1) 7 → 1 ≤ zv_dg (t (q.2.1 + k)) ∧ zv_dg (t (q.2.1 + k)) ≤ 26 := fun k hk => by
      have := zv_dg_let (z2 (q.2.1 + k) (by omega) (by omega))
      exact ⟨this.1, this.2.1⟩
    have hd2 : ∀ k, k < (zj_sbyt.getD i []).length → 1 ≤ zv_dg ((zj_sbyt.getD i []).getD k 0) ∧ zv_dg ((zj_sbyt.getD i []).getD k 0) ≤ 26 := fun k hk => by
      have := zv_dg_let (zu_lets i hi k hk)
      exact ⟨this.1, this.2.1⟩
    rw [zv_code (fun k hk => z2 (q.2.1 + k) (by omega) (by omega))]
    have b1 : zv_cn (fun k => zv_dg (t (q.2.1 + k))) (min (q.2.2.1 - q.2.1) 7) < 2 ^ 63 := by
      refine Nat.lt_of_lt_of_le (zv_cn_lt (fun k hk => (hd1 k hk).2)) ?_
      exact Nat.le_trans (Nat.pow_le_pow_right (n := 27) (by decide) (Nat.min_le_right _ 7)) (by decide)
    have b2 : zv_wd i < 2 ^ 63 := by
      refine Nat.lt_of_lt_of_le (zv_cn_lt (fun k hk => (hd2 k hk).2)) ?_
      exact Nat.le_trans (Nat.pow_le_pow_right (n := 27) (by decide) (show (zj_sbyt.getD i []).length ≤ 7 by omega)) (by decide)
    cases hz : zu_is t q i with
    | true =>
      obtain ⟨_, y2, y3⟩ := zu_is_t.mp hz
      apply decide_eq_true
      congr 1
      show _ = zv_cn _ _
      rw [show min (q.2.2.1 - q.2.1) 7 = (zj_sbyt.getD i []).length by omega]
      have cong : ∀ {m : Nat} {d d' : Nat → Nat}, (∀ k, k < m → d k = d' k) → zv_cn d m = zv_cn d' m := by
        intro m
        induction m with
        | zero => intro d d' _; rfl
        | succ m ih => intro d d' hh; rw [zv_cn, zv_cn, ih (fun k hk => hh k (by omega)), hh m (by omega)]
      exact cong (fun k hk => by rw [y3 k hk])
    | false =>
      apply decide_eq_false
      intro e
      obtain ⟨e1, e2⟩ := zv_cn_un hd1 hd2 (zv_lN b1 b2 e)
      rw [zu_is_t.mpr ⟨h2, by omega, fun k hk => ?_⟩] at hz
      · cases hz
      · have k1 := (zv_dg_let (z2 (q.2.1 + k) (by omega) (by omega))).2.2
        have k2 := (zv_dg_let (zu_lets i hi k hk)).2.2
        rw [k1, k2, e2 k (by omega)]
  · have hs : ¬ h 78 6 = 2 := fun z => h2 ((zv_sort hq (c := 2) (by decide) (by decide)).mp z)
    rw [decide_eq_false hs, Bool.false_and]
    exact (zu_is_f (fun z => h2 z.1)).symm
def zv_fr (h h' : zj_H) : Prop := (∀ a, a ≠ 78 → a ≠ 81 → h' a = h a) ∧ ∀ b, (b < 4 ∨ 10 ≤ b) → h' 78 b = h 78 b
def zv_fg (g g' : zj_G) : Prop := ∀ a b, ¬ (a = 78 ∧ b = 10) → g' a b = g a b
theorem zv_fr.tr {h h1 h2 : zj_H} (a : zv_fr h h1) (b : zv_fr h1 h2) : zv_fr h h2 := ⟨fun c c1 c2 => (b.1 c c1 c2).trans (a.1 c c1 c2), fun c hc => (b.2 c hc).trans (a.2 c hc)⟩
theorem zv_fg.tr {g g1 g2 : zj_G} (a : zv_fg g g1) (b : zv_fg g1 g2) : zv_fg g g2 := fun c d hc => (b c d hc).trans (a c d hc)
def zv_R (h h' : zj_H) (g' : zj_G) (t : Nat → Int32) (n : Nat) (v : Option Value) (r : zuR) : Prop := match r with
  | .inl (k, p) => v = some (.int (zz_i false)) ∧ h' 78 8 = nI k ∧ h' 78 9 = nI p
  | .inr (q, w) => v = some (.int (zz_i true)) ∧ h' 78 8 = h 78 8 ∧ zv_q h' g' t n q ∧ ∀ i, i < 89 → h' 81 i = w i
def zv_P (h : zj_H) (g : zj_G) (t : Nat → Int32) (n : Nat) (r : zuR) : zj_P := fun v h' g' => zv_fr h h' ∧ zv_fg g g' ∧ zv_R h h' g' t n v r
/-- go of the reference, by places -/
theorem zv_goP {h h' : zj_H} {g g' : zj_G} {v : Option Value} {t : Nat → Int32} {n a : Nat} (et : h 79 = t) (ha : a ≤ n) (hp : v = none ∧ (∀ b, b ≠ 78 → h' b = h b) ∧ (∀ b, (b < 4 ∨ 8 ≤ b) → h' 78 b = h 78 b) ∧ (∀ a b, ¬ (a = 78 ∧ b = 10) → g' a b = g a b) ∧ ∃ K s e, zw_tok (h 79) n a K s e (h' 78 7) ∧ h' 78 5 = nI s ∧ h' 78 4 = nI e ∧ h' 78 6 = nI (zw_so n K) ∧ e ≤ n ∧ (K = 2 → g' 78 10 = zw_code (h 79) s (min (e - s) 7))) :
    v = none ∧ (∀ b, b ≠ 78 → h' b = h b) ∧ (∀ b, (b < 4 ∨ 8 ≤ b) → h' 78 b = h 78 b) ∧ zv_fr h h' ∧ zv_fg g g' ∧ zv_q h' g' t n (zw_T t n a) := by
  subst et
  obtain ⟨p1, p3, p4, pg, K, s, e, p5, p6, p7, p8, p9, p10⟩ := hp
  obtain ⟨u0, u1, u2, u3, u4⟩ := zw_T_of p5
  refine ⟨p1, p3, p4, ⟨fun a a1 _ => p3 a a1, fun b hb => p4 b (by omega)⟩, pg, ?_, ?_, ?_, fun z => ?_, fun z => ?_, ⟨a, ha, u0⟩⟩
  · rw [u2]; exact p6
  · rw [u3]; exact p7
  · rw [u1]; exact p8
  · rw [u1] at z; exact (u4 z).symm
  · rw [u1] at z; rw [u2, u3]; exact p10 z
set_option maxHeartbeats 4000000 in
set_option maxRecDepth 20000 in
theorem m_X8_is {l : Launch} {E : zj_E} {h : zj_H} {g : zj_G} {a b c d e f : Int32} : zj_M l E yX8_is cX8_is 9 (some .boolean) 0 [.ref (E.2.1 78), .int a, .int b, .int c, .int d, .int e, .int f] h g (zj_pI (zz_i (decide (h 78 6 = 2) && decide (g 78 10 = zv_V a b c d e f))) h g) := by
  refine zj_M.of RX8 (by decide) rfl (Nat.le_of_ble_eq_true rfl) ?_
  intro Γ hΓ K Rt
  subst hΓ
  show zj_J E Γ 9 0 [(0, .ref (E.2.1 78)), (1, .int a), (2, .int b), (3, .int c), (4, .int d), (5, .int e), (6, .int f)] [] h g
  refine zj_ldc2 (pc := 0) K lk_X8_48 dX8_is_0 ?_
  refine zj_ldc2 (pc := 3) K lk_X8_48 dX8_is_3 ?_
  refine zj_iload_n (i := 1) (pc := 6) K dX8_is_6 rfl rfl ?_
  refine zj_i2l (pc := 7) K dX8_is_7 ?_
  refine zj_ldc2 (pc := 8) K lk_X8_50 dX8_is_8 ?_
  refine zj_lsub (pc := 11) K dX8_is_11 ?_
  refine zj_lmul (pc := 12) K dX8_is_12 ?_
  refine zj_iload_n (i := 2) (pc := 13) K dX8_is_13 rfl rfl ?_
  refine zj_i2l (pc := 14) K dX8_is_14 ?_
  refine zj_ladd (pc := 15) K dX8_is_15 ?_
  refine zj_ldc2 (pc := 16) K lk_X8_50 dX8_is_16 ?_
  refine zj_lsub (pc := 19) K dX8_is_19 ?_
  refine zj_lmul (pc := 20) K dX8_is_20 ?_
  refine zj_iload_n (i := 3) (pc := 21) K dX8_is_21 rfl rfl ?_
  refine zj_i2l (pc := 22) K dX8_is_22 ?_
  refine zj_ladd (pc := 23) K dX8_is_23 ?_
  refine zj_ldc2 (pc := 24) K lk_X8_50 dX8_is_24 ?_
  refine zj_lsub (pc := 27) K dX8_is_27 ?_
  refine zj_lstore (pc := 28) K dX8_is_28 rfl (fun q hq => hq) ?_
  refine zj_iload (pc := 30) K dX8_is_30 rfl ?_
  refine zj_if_le (tgt := 51) (pc := 32) K dX8_is_32 (by decide) (fun c_32 => ?_) (fun c_32 => ?_)
  · refine zj_iload (pc := 51) K dX8_is_51 rfl ?_
    refine zj_if_le (tgt := 72) (pc := 53) K dX8_is_53 (by decide) (fun c_53 => ?_) (fun c_53 => ?_)
    · refine zj_iload (pc := 72) K dX8_is_72 rfl ?_
      refine zj_if_le (tgt := 93) (pc := 74) K dX8_is_74 (by decide) (fun c_74 => ?_) (fun c_74 => ?_)
      · refine zj_aload_n (i := 0) (pc := 93) K dX8_is_93 rfl rfl ?_
        refine zj_getI (pc := 94) K lf_X8_27 hs_M rfl dX8_is_94 ?_
        refine zj_iconst (v := 2) (pc := 97) K dX8_is_97 (by decide) ?_
        refine zj_icmp_ne (tgt := 115) (pc := 98) K dX8_is_98 (by decide) (fun c_98 => ?_) (fun c_98 => ?_)
        · have hd : (decide (h 78 6 = 2) && decide (g 78 10 = zv_V a b c d e f)) = false := by rw [decide_eq_false c_98, Bool.false_and]
          refine zj_iconst (v := 0) (pc := 115) K dX8_is_115 (by decide) ?_
          exact zj_zret K Rt dX8_is_116 (by decide) (⟨by rw [hd]; rfl, rfl, rfl⟩)
        · refine zj_aload_n (i := 0) (pc := 101) K dX8_is_101 rfl rfl ?_
          refine zj_getJ (pc := 102) K lf_X8_37 hs_M rfl dX8_is_102 ?_
          refine zj_lload (pc := 105) K dX8_is_105 rfl ?_
          refine zj_lcmp (pc := 107) K dX8_is_107 ?_
          refine zj_if_ne (tgt := 115) (pc := 108) K dX8_is_108 (by decide) (fun c_108 => ?_) (fun c_108 => ?_)
          · have hd : (decide (h 78 6 = 2) && decide (g 78 10 = zv_V a b c d e f)) = false := by
              rw [decide_eq_false (p := g 78 10 = zv_V a b c d e f) ?_, Bool.and_false]
              intro z
              apply c_108
              apply (lg_cmp_eq _ _).mpr
              rw [z]
              unfold zv_V zv_V1
              first | rw [if_pos c_32] | rw [if_neg c_32]
              first | rw [if_pos c_53] | rw [if_neg c_53]
              first | rw [if_pos c_74] | rw [if_neg c_74]
              rfl
            refine zj_iconst (v := 0) (pc := 115) K dX8_is_115 (by decide) ?_
            exact zj_zret K Rt dX8_is_116 (by decide) (⟨by rw [hd]; rfl, rfl, rfl⟩)
          · have hd : (decide (h 78 6 = 2) && decide (g 78 10 = zv_V a b c d e f)) = true := by
              rw [decide_eq_true c_98, Bool.true_and]
              apply decide_eq_true
              rw [(lg_cmp_eq _ _).mp c_108]
              unfold zv_V zv_V1
              first | rw [if_pos c_32] | rw [if_neg c_32]
              first | rw [if_pos c_53] | rw [if_neg c_53]
              first | rw [if_pos c_74] | rw [if_neg c_74]
              rfl
            refine zj_iconst (v := 1) (pc := 111) K dX8_is_111 (by decide) ?_
            refine zj_goto (tgt := 116) (pc := 112) K dX8_is_112 (by decide) ?_
            exact zj_zret K Rt dX8_is_116 (by decide) (⟨by rw [hd]; rfl, rfl, rfl⟩)
      · refine zj_ldc2 (pc := 77) K lk_X8_48 dX8_is_77 ?_
        refine zj_lload (pc := 80) K dX8_is_80 rfl ?_
        refine zj_lmul (pc := 82) K dX8_is_82 ?_
        refine zj_iload (pc := 83) K dX8_is_83 rfl ?_
        refine zj_i2l (pc := 85) K dX8_is_85 ?_
        refine zj_ladd (pc := 86) K dX8_is_86 ?_
        refine zj_ldc2 (pc := 87) K lk_X8_50 dX8_is_87 ?_
        refine zj_lsub (pc := 90) K dX8_is_90 ?_
        refine zj_lstore (pc := 91) K dX8_is_91 rfl (fun q hq => hq) ?_
        refine zj_aload_n (i := 0) (pc := 93) K dX8_is_93 rfl rfl ?_
        refine zj_getI (pc := 94) K lf_X8_27 hs_M rfl dX8_is_94 ?_
        refine zj_iconst (v := 2) (pc := 97) K dX8_is_97 (by decide) ?_
        refine zj_icmp_ne (tgt := 115) (pc := 98) K dX8_is_98 (by decide) (fun c_98 => ?_) (fun c_98 => ?_)
        · have hd : (decide (h 78 6 = 2) && decide (g 78 10 = zv_V a b c d e f)) = false := by rw [decide_eq_false c_98, Bool.false_and]
          refine zj_iconst (v := 0) (pc := 115) K dX8_is_115 (by decide) ?_
          exact zj_zret K Rt dX8_is_116 (by decide) (⟨by rw [hd]; rfl, rfl, rfl⟩)
        · refine zj_aload_n (i := 0) (pc := 101) K dX8_is_101 rfl rfl ?_
          refine zj_getJ (pc := 102) K lf_X8_37 hs_M rfl dX8_is_102 ?_
          refine zj_lload (pc := 105) K dX8_is_105 rfl ?_
          refine zj_lcmp (pc := 107) K dX8_is_107 ?_
          refine zj_if_ne (tgt := 115) (pc := 108) K dX8_is_108 (by decide) (fun c_108 => ?_) (fun c_108 => ?_)
          · have hd : (decide (h 78 6 = 2) && decide (g 78 10 = zv_V a b c d e f)) = false := by
              rw [decide_eq_false (p := g 78 10 = zv_V a b c d e f) ?_, Bool.and_false]
              intro z
              apply c_108
              apply (lg_cmp_eq _ _).mpr
              rw [z]
              unfold zv_V zv_V1
              first | rw [if_pos c_32] | rw [if_neg c_32]
              first | rw [if_pos c_53] | rw [if_neg c_53]
              first | rw [if_pos c_74] | rw [if_neg c_74]
              rfl
            refine zj_iconst (v := 0) (pc := 115) K dX8_is_115 (by decide) ?_
            exact zj_zret K Rt dX8_is_116 (by decide) (⟨by rw [hd]; rfl, rfl, rfl⟩)
          · have hd : (decide (h 78 6 = 2) && decide (g 78 10 = zv_V a b c d e f)) = true := by
              rw [decide_eq_true c_98, Bool.true_and]
              apply decide_eq_true
              rw [(lg_cmp_eq _ _).mp c_108]
              unfold zv_V zv_V1
              first | rw [if_pos c_32] | rw [if_neg c_32]
              first | rw [if_pos c_53] | rw [if_neg c_53]
              first | rw [if_pos c_74] | rw [if_neg c_74]
              rfl
            refine zj_iconst (v := 1) (pc := 111) K dX8_is_111 (by decide) ?_
            refine zj_goto (tgt := 116) (pc := 112) K dX8_is_112 (by decide) ?_
            exact zj_zret K Rt dX8_is_116 (by decide) (⟨by rw [hd]; rfl, rfl, rfl⟩)
    · refine zj_ldc2 (pc := 56) K lk_X8_48 dX8_is_56 ?_
      refine zj_lload (pc := 59) K dX8_is_59 rfl ?_
      refine zj_lmul (pc := 61) K dX8_is_61 ?_
      refine zj_iload (pc := 62) K dX8_is_62 rfl ?_
      refine zj_i2l (pc := 64) K dX8_is_64 ?_
      refine zj_ladd (pc := 65) K dX8_is_65 ?_
      refine zj_ldc2 (pc := 66) K lk_X8_50 dX8_is_66 ?_
      refine zj_lsub (pc := 69) K dX8_is_69 ?_
      refine zj_lstore (pc := 70) K dX8_is_70 rfl (fun q hq => hq) ?_
      refine zj_iload (pc := 72) K dX8_is_72 rfl ?_
      refine zj_if_le (tgt := 93) (pc := 74) K dX8_is_74 (by decide) (fun c_74 => ?_) (fun c_74 => ?_)
      · refine zj_aload_n (i := 0) (pc := 93) K dX8_is_93 rfl rfl ?_
        refine zj_getI (pc := 94) K lf_X8_27 hs_M rfl dX8_is_94 ?_
        refine zj_iconst (v := 2) (pc := 97) K dX8_is_97 (by decide) ?_
        refine zj_icmp_ne (tgt := 115) (pc := 98) K dX8_is_98 (by decide) (fun c_98 => ?_) (fun c_98 => ?_)
        · have hd : (decide (h 78 6 = 2) && decide (g 78 10 = zv_V a b c d e f)) = false := by rw [decide_eq_false c_98, Bool.false_and]
          refine zj_iconst (v := 0) (pc := 115) K dX8_is_115 (by decide) ?_
          exact zj_zret K Rt dX8_is_116 (by decide) (⟨by rw [hd]; rfl, rfl, rfl⟩)
        · refine zj_aload_n (i := 0) (pc := 101) K dX8_is_101 rfl rfl ?_
          refine zj_getJ (pc := 102) K lf_X8_37 hs_M rfl dX8_is_102 ?_
          refine zj_lload (pc := 105) K dX8_is_105 rfl ?_
          refine zj_lcmp (pc := 107) K dX8_is_107 ?_
          refine zj_if_ne (tgt := 115) (pc := 108) K dX8_is_108 (by decide) (fun c_108 => ?_) (fun c_108 => ?_)
          · have hd : (decide (h 78 6 = 2) && decide (g 78 10 = zv_V a b c d e f)) = false := by
              rw [decide_eq_false (p := g 78 10 = zv_V a b c d e f) ?_, Bool.and_false]
              intro z
              apply c_108
              apply (lg_cmp_eq _ _).mpr
              rw [z]
              unfold zv_V zv_V1
              first | rw [if_pos c_32] | rw [if_neg c_32]
              first | rw [if_pos c_53] | rw [if_neg c_53]
              first | rw [if_pos c_74] | rw [if_neg c_74]
              rfl
            refine zj_iconst (v := 0) (pc := 115) K dX8_is_115 (by decide) ?_
            exact zj_zret K Rt dX8_is_116 (by decide) (⟨by rw [hd]; rfl, rfl, rfl⟩)
          · have hd : (decide (h 78 6 = 2) && decide (g 78 10 = zv_V a b c d e f)) = true := by
              rw [decide_eq_true c_98, Bool.true_and]
              apply decide_eq_true
              rw [(lg_cmp_eq _ _).mp c_108]
              unfold zv_V zv_V1
              first | rw [if_pos c_32] | rw [if_neg c_32]
              first | rw [if_pos c_53] | rw [if_neg c_53]
              first | rw [if_pos c_74] | rw [if_neg c_74]
              rfl
            refine zj_iconst (v := 1) (pc := 111) K dX8_is_111 (by decide) ?_
            refine zj_goto (tgt := 116) (pc := 112) K dX8_is_112 (by decide) ?_
            exact zj_zret K Rt dX8_is_116 (by decide) (⟨by rw [hd]; rfl, rfl, rfl⟩)
      · refine zj_ldc2 (pc := 77) K lk_X8_48 dX8_is_77 ?_
        refine zj_lload (pc := 80) K dX8_is_80 rfl ?_
        refine zj_lmul (pc := 82) K dX8_is_82 ?_
        refine zj_iload (pc := 83) K dX8_is_83 rfl ?_
        refine zj_i2l (pc := 85) K dX8_is_85 ?_
        refine zj_ladd (pc := 86) K dX8_is_86 ?_
        refine zj_ldc2 (pc := 87) K lk_X8_50 dX8_is_87 ?_
        refine zj_lsub (pc := 90) K dX8_is_90 ?_
        refine zj_lstore (pc := 91) K dX8_is_91 rfl (fun q hq => hq) ?_
        refine zj_aload_n (i := 0) (pc := 93) K dX8_is_93 rfl rfl ?_
        refine zj_getI (pc := 94) K lf_X8_27 hs_M rfl dX8_is_94 ?_
        refine zj_iconst (v := 2) (pc := 97) K dX8_is_97 (by decide) ?_
        refine zj_icmp_ne (tgt := 115) (pc := 98) K dX8_is_98 (by decide) (fun c_98 => ?_) (fun c_98 => ?_)
        · have hd : (decide (h 78 6 = 2) && decide (g 78 10 = zv_V a b c d e f)) = false := by rw [decide_eq_false c_98, Bool.false_and]
          refine zj_iconst (v := 0) (pc := 115) K dX8_is_115 (by decide) ?_
          exact zj_zret K Rt dX8_is_116 (by decide) (⟨by rw [hd]; rfl, rfl, rfl⟩)
        · refine zj_aload_n (i := 0) (pc := 101) K dX8_is_101 rfl rfl ?_
          refine zj_getJ (pc := 102) K lf_X8_37 hs_M rfl dX8_is_102 ?_
          refine zj_lload (pc := 105) K dX8_is_105 rfl ?_
          refine zj_lcmp (pc := 107) K dX8_is_107 ?_
          refine zj_if_ne (tgt := 115) (pc := 108) K dX8_is_108 (by decide) (fun c_108 => ?_) (fun c_108 => ?_)
          · have hd : (decide (h 78 6 = 2) && decide (g 78 10 = zv_V a b c d e f)) = false := by
              rw [decide_eq_false (p := g 78 10 = zv_V a b c d e f) ?_, Bool.and_false]
              intro z
              apply c_108
              apply (lg_cmp_eq _ _).mpr
              rw [z]
              unfold zv_V zv_V1
              first | rw [if_pos c_32] | rw [if_neg c_32]
              first | rw [if_pos c_53] | rw [if_neg c_53]
              first | rw [if_pos c_74] | rw [if_neg c_74]
              rfl
            refine zj_iconst (v := 0) (pc := 115) K dX8_is_115 (by decide) ?_
            exact zj_zret K Rt dX8_is_116 (by decide) (⟨by rw [hd]; rfl, rfl, rfl⟩)
          · have hd : (decide (h 78 6 = 2) && decide (g 78 10 = zv_V a b c d e f)) = true := by
              rw [decide_eq_true c_98, Bool.true_and]
              apply decide_eq_true
              rw [(lg_cmp_eq _ _).mp c_108]
              unfold zv_V zv_V1
              first | rw [if_pos c_32] | rw [if_neg c_32]
              first | rw [if_pos c_53] | rw [if_neg c_53]
              first | rw [if_pos c_74] | rw [if_neg c_74]
              rfl
            refine zj_iconst (v := 1) (pc := 111) K dX8_is_111 (by decide) ?_
            refine zj_goto (tgt := 116) (pc := 112) K dX8_is_112 (by decide) ?_
            exact zj_zret K Rt dX8_is_116 (by decide) (⟨by rw [hd]; rfl, rfl, rfl⟩)
  · refine zj_ldc2 (pc := 35) K lk_X8_48 dX8_is_35 ?_
    refine zj_lload (pc := 38) K dX8_is_38 rfl ?_
    refine zj_lmul (pc := 40) K dX8_is_40 ?_
    refine zj_iload (pc := 41) K dX8_is_41 rfl ?_
    refine zj_i2l (pc := 43) K dX8_is_43 ?_
    refine zj_ladd (pc := 44) K dX8_is_44 ?_
    refine zj_ldc2 (pc := 45) K lk_X8_50 dX8_is_45 ?_
    refine zj_lsub (pc := 48) K dX8_is_48 ?_
    refine zj_lstore (pc := 49) K dX8_is_49 rfl (fun q hq => hq) ?_
    refine zj_iload (pc := 51) K dX8_is_51 rfl ?_
    refine zj_if_le (tgt := 72) (pc := 53) K dX8_is_53 (by decide) (fun c_53 => ?_) (fun c_53 => ?_)
    · refine zj_iload (pc := 72) K dX8_is_72 rfl ?_
      refine zj_if_le (tgt := 93) (pc := 74) K dX8_is_74 (by decide) (fun c_74 => ?_) (fun c_74 => ?_)
      · refine zj_aload_n (i := 0) (pc := 93) K dX8_is_93 rfl rfl ?_
        refine zj_getI (pc := 94) K lf_X8_27 hs_M rfl dX8_is_94 ?_
        refine zj_iconst (v := 2) (pc := 97) K dX8_is_97 (by decide) ?_
        refine zj_icmp_ne (tgt := 115) (pc := 98) K dX8_is_98 (by decide) (fun c_98 => ?_) (fun c_98 => ?_)
        · have hd : (decide (h 78 6 = 2) && decide (g 78 10 = zv_V a b c d e f)) = false := by rw [decide_eq_false c_98, Bool.false_and]
          refine zj_iconst (v := 0) (pc := 115) K dX8_is_115 (by decide) ?_
          exact zj_zret K Rt dX8_is_116 (by decide) (⟨by rw [hd]; rfl, rfl, rfl⟩)
        · refine zj_aload_n (i := 0) (pc := 101) K dX8_is_101 rfl rfl ?_
          refine zj_getJ (pc := 102) K lf_X8_37 hs_M rfl dX8_is_102 ?_
          refine zj_lload (pc := 105) K dX8_is_105 rfl ?_
          refine zj_lcmp (pc := 107) K dX8_is_107 ?_
          refine zj_if_ne (tgt := 115) (pc := 108) K dX8_is_108 (by decide) (fun c_108 => ?_) (fun c_108 => ?_)
          · have hd : (decide (h 78 6 = 2) && decide (g 78 10 = zv_V a b c d e f)) = false := by
              rw [decide_eq_false (p := g 78 10 = zv_V a b c d e f) ?_, Bool.and_false]
              intro z
              apply c_108
              apply (lg_cmp_eq _ _).mpr
              rw [z]
              unfold zv_V zv_V1
              first | rw [if_pos c_32] | rw [if_neg c_32]
              first | rw [if_pos c_53] | rw [if_neg c_53]
              first | rw [if_pos c_74] | rw [if_neg c_74]
              rfl
            refine zj_iconst (v := 0) (pc := 115) K dX8_is_115 (by decide) ?_
            exact zj_zret K Rt dX8_is_116 (by decide) (⟨by rw [hd]; rfl, rfl, rfl⟩)
          · have hd : (decide (h 78 6 = 2) && decide (g 78 10 = zv_V a b c d e f)) = true := by
              rw [decide_eq_true c_98, Bool.true_and]
              apply decide_eq_true
              rw [(lg_cmp_eq _ _).mp c_108]
              unfold zv_V zv_V1
              first | rw [if_pos c_32] | rw [if_neg c_32]
              first | rw [if_pos c_53] | rw [if_neg c_53]
              first | rw [if_pos c_74] | rw [if_neg c_74]
              rfl
            refine zj_iconst (v := 1) (pc := 111) K dX8_is_111 (by decide) ?_
            refine zj_goto (tgt := 116) (pc := 112) K dX8_is_112 (by decide) ?_
            exact zj_zret K Rt dX8_is_116 (by decide) (⟨by rw [hd]; rfl, rfl, rfl⟩)
      · refine zj_ldc2 (pc := 77) K lk_X8_48 dX8_is_77 ?_
        refine zj_lload (pc := 80) K dX8_is_80 rfl ?_
        refine zj_lmul (pc := 82) K dX8_is_82 ?_
        refine zj_iload (pc := 83) K dX8_is_83 rfl ?_
        refine zj_i2l (pc := 85) K dX8_is_85 ?_
        refine zj_ladd (pc := 86) K dX8_is_86 ?_
        refine zj_ldc2 (pc := 87) K lk_X8_50 dX8_is_87 ?_
        refine zj_lsub (pc := 90) K dX8_is_90 ?_
        refine zj_lstore (pc := 91) K dX8_is_91 rfl (fun q hq => hq) ?_
        refine zj_aload_n (i := 0) (pc := 93) K dX8_is_93 rfl rfl ?_
        refine zj_getI (pc := 94) K lf_X8_27 hs_M rfl dX8_is_94 ?_
        refine zj_iconst (v := 2) (pc := 97) K dX8_is_97 (by decide) ?_
        refine zj_icmp_ne (tgt := 115) (pc := 98) K dX8_is_98 (by decide) (fun c_98 => ?_) (fun c_98 => ?_)
        · have hd : (decide (h 78 6 = 2) && decide (g 78 10 = zv_V a b c d e f)) = false := by rw [decide_eq_false c_98, Bool.false_and]
          refine zj_iconst (v := 0) (pc := 115) K dX8_is_115 (by decide) ?_
          exact zj_zret K Rt dX8_is_116 (by decide) (⟨by rw [hd]; rfl, rfl, rfl⟩)
        · refine zj_aload_n (i := 0) (pc := 101) K dX8_is_101 rfl rfl ?_
          refine zj_getJ (pc := 102) K lf_X8_37 hs_M rfl dX8_is_102 ?_
          refine zj_lload (pc := 105) K dX8_is_105 rfl ?_
          refine zj_lcmp (pc := 107) K dX8_is_107 ?_
          refine zj_if_ne (tgt := 115) (pc := 108) K dX8_is_108 (by decide) (fun c_108 => ?_) (fun c_108 => ?_)
          · have hd : (decide (h 78 6 = 2) && decide (g 78 10 = zv_V a b c d e f)) = false := by
              rw [decide_eq_false (p := g 78 10 = zv_V a b c d e f) ?_, Bool.and_false]
              intro z
              apply c_108
              apply (lg_cmp_eq _ _).mpr
              rw [z]
              unfold zv_V zv_V1
              first | rw [if_pos c_32] | rw [if_neg c_32]
              first | rw [if_pos c_53] | rw [if_neg c_53]
              first | rw [if_pos c_74] | rw [if_neg c_74]
              rfl
            refine zj_iconst (v := 0) (pc := 115) K dX8_is_115 (by decide) ?_
            exact zj_zret K Rt dX8_is_116 (by decide) (⟨by rw [hd]; rfl, rfl, rfl⟩)
          · have hd : (decide (h 78 6 = 2) && decide (g 78 10 = zv_V a b c d e f)) = true := by
              rw [decide_eq_true c_98, Bool.true_and]
              apply decide_eq_true
              rw [(lg_cmp_eq _ _).mp c_108]
              unfold zv_V zv_V1
              first | rw [if_pos c_32] | rw [if_neg c_32]
              first | rw [if_pos c_53] | rw [if_neg c_53]
              first | rw [if_pos c_74] | rw [if_neg c_74]
              rfl
            refine zj_iconst (v := 1) (pc := 111) K dX8_is_111 (by decide) ?_
            refine zj_goto (tgt := 116) (pc := 112) K dX8_is_112 (by decide) ?_
            exact zj_zret K Rt dX8_is_116 (by decide) (⟨by rw [hd]; rfl, rfl, rfl⟩)
    · refine zj_ldc2 (pc := 56) K lk_X8_48 dX8_is_56 ?_
      refine zj_lload (pc := 59) K dX8_is_59 rfl ?_
      refine zj_lmul (pc := 61) K dX8_is_61 ?_
      refine zj_iload (pc := 62) K dX8_is_62 rfl ?_
      refine zj_i2l (pc := 64) K dX8_is_64 ?_
      refine zj_ladd (pc := 65) K dX8_is_65 ?_
      refine zj_ldc2 (pc := 66) K lk_X8_50 dX8_is_66 ?_
      refine zj_lsub (pc := 69) K dX8_is_69 ?_
      refine zj_lstore (pc := 70) K dX8_is_70 rfl (fun q hq => hq) ?_
      refine zj_iload (pc := 72) K dX8_is_72 rfl ?_
      refine zj_if_le (tgt := 93) (pc := 74) K dX8_is_74 (by decide) (fun c_74 => ?_) (fun c_74 => ?_)
      · refine zj_aload_n (i := 0) (pc := 93) K dX8_is_93 rfl rfl ?_
        refine zj_getI (pc := 94) K lf_X8_27 hs_M rfl dX8_is_94 ?_
        refine zj_iconst (v := 2) (pc := 97) K dX8_is_97 (by decide) ?_
        refine zj_icmp_ne (tgt := 115) (pc := 98) K dX8_is_98 (by decide) (fun c_98 => ?_) (fun c_98 => ?_)
        · have hd : (decide (h 78 6 = 2) && decide (g 78 10 = zv_V a b c d e f)) = false := by rw [decide_eq_false c_98, Bool.false_and]
          refine zj_iconst (v := 0) (pc := 115) K dX8_is_115 (by decide) ?_
          exact zj_zret K Rt dX8_is_116 (by decide) (⟨by rw [hd]; rfl, rfl, rfl⟩)
        · refine zj_aload_n (i := 0) (pc := 101) K dX8_is_101 rfl rfl ?_
          refine zj_getJ (pc := 102) K lf_X8_37 hs_M rfl dX8_is_102 ?_
          refine zj_lload (pc := 105) K dX8_is_105 rfl ?_
          refine zj_lcmp (pc := 107) K dX8_is_107 ?_
          refine zj_if_ne (tgt := 115) (pc := 108) K dX8_is_108 (by decide) (fun c_108 => ?_) (fun c_108 => ?_)
          · have hd : (decide (h 78 6 = 2) && decide (g 78 10 = zv_V a b c d e f)) = false := by
              rw [decide_eq_false (p := g 78 10 = zv_V a b c d e f) ?_, Bool.and_false]
              intro z
              apply c_108
              apply (lg_cmp_eq _ _).mpr
              rw [z]
              unfold zv_V zv_V1
              first | rw [if_pos c_32] | rw [if_neg c_32]
              first | rw [if_pos c_53] | rw [if_neg c_53]
              first | rw [if_pos c_74] | rw [if_neg c_74]
              rfl
            refine zj_iconst (v := 0) (pc := 115) K dX8_is_115 (by decide) ?_
            exact zj_zret K Rt dX8_is_116 (by decide) (⟨by rw [hd]; rfl, rfl, rfl⟩)
          · have hd : (decide (h 78 6 = 2) && decide (g 78 10 = zv_V a b c d e f)) = true := by
              rw [decide_eq_true c_98, Bool.true_and]
              apply decide_eq_true
              rw [(lg_cmp_eq _ _).mp c_108]
              unfold zv_V zv_V1
              first | rw [if_pos c_32] | rw [if_neg c_32]
              first | rw [if_pos c_53] | rw [if_neg c_53]
              first | rw [if_pos c_74] | rw [if_neg c_74]
              rfl
            refine zj_iconst (v := 1) (pc := 111) K dX8_is_111 (by decide) ?_
            refine zj_goto (tgt := 116) (pc := 112) K dX8_is_112 (by decide) ?_
            exact zj_zret K Rt dX8_is_116 (by decide) (⟨by rw [hd]; rfl, rfl, rfl⟩)
      · refine zj_ldc2 (pc := 77) K lk_X8_48 dX8_is_77 ?_
        refine zj_lload (pc := 80) K dX8_is_80 rfl ?_
        refine zj_lmul (pc := 82) K dX8_is_82 ?_
        refine zj_iload (pc := 83) K dX8_is_83 rfl ?_
        refine zj_i2l (pc := 85) K dX8_is_85 ?_
        refine zj_ladd (pc := 86) K dX8_is_86 ?_
        refine zj_ldc2 (pc := 87) K lk_X8_50 dX8_is_87 ?_
        refine zj_lsub (pc := 90) K dX8_is_90 ?_
        refine zj_lstore (pc := 91) K dX8_is_91 rfl (fun q hq => hq) ?_
        refine zj_aload_n (i := 0) (pc := 93) K dX8_is_93 rfl rfl ?_
        refine zj_getI (pc := 94) K lf_X8_27 hs_M rfl dX8_is_94 ?_
        refine zj_iconst (v := 2) (pc := 97) K dX8_is_97 (by decide) ?_
        refine zj_icmp_ne (tgt := 115) (pc := 98) K dX8_is_98 (by decide) (fun c_98 => ?_) (fun c_98 => ?_)
        · have hd : (decide (h 78 6 = 2) && decide (g 78 10 = zv_V a b c d e f)) = false := by rw [decide_eq_false c_98, Bool.false_and]
          refine zj_iconst (v := 0) (pc := 115) K dX8_is_115 (by decide) ?_
          exact zj_zret K Rt dX8_is_116 (by decide) (⟨by rw [hd]; rfl, rfl, rfl⟩)
        · refine zj_aload_n (i := 0) (pc := 101) K dX8_is_101 rfl rfl ?_
          refine zj_getJ (pc := 102) K lf_X8_37 hs_M rfl dX8_is_102 ?_
          refine zj_lload (pc := 105) K dX8_is_105 rfl ?_
          refine zj_lcmp (pc := 107) K dX8_is_107 ?_
          refine zj_if_ne (tgt := 115) (pc := 108) K dX8_is_108 (by decide) (fun c_108 => ?_) (fun c_108 => ?_)
          · have hd : (decide (h 78 6 = 2) && decide (g 78 10 = zv_V a b c d e f)) = false := by
              rw [decide_eq_false (p := g 78 10 = zv_V a b c d e f) ?_, Bool.and_false]
              intro z
              apply c_108
              apply (lg_cmp_eq _ _).mpr
              rw [z]
              unfold zv_V zv_V1
              first | rw [if_pos c_32] | rw [if_neg c_32]
              first | rw [if_pos c_53] | rw [if_neg c_53]
              first | rw [if_pos c_74] | rw [if_neg c_74]
              rfl
            refine zj_iconst (v := 0) (pc := 115) K dX8_is_115 (by decide) ?_
            exact zj_zret K Rt dX8_is_116 (by decide) (⟨by rw [hd]; rfl, rfl, rfl⟩)
          · have hd : (decide (h 78 6 = 2) && decide (g 78 10 = zv_V a b c d e f)) = true := by
              rw [decide_eq_true c_98, Bool.true_and]
              apply decide_eq_true
              rw [(lg_cmp_eq _ _).mp c_108]
              unfold zv_V zv_V1
              first | rw [if_pos c_32] | rw [if_neg c_32]
              first | rw [if_pos c_53] | rw [if_neg c_53]
              first | rw [if_pos c_74] | rw [if_neg c_74]
              rfl
            refine zj_iconst (v := 1) (pc := 111) K dX8_is_111 (by decide) ?_
            refine zj_goto (tgt := 116) (pc := 112) K dX8_is_112 (by decide) ?_
            exact zj_zret K Rt dX8_is_116 (by decide) (⟨by rw [hd]; rfl, rfl, rfl⟩)

set_option maxHeartbeats 4000000 in
set_option maxRecDepth 20000 in
theorem m_X8_told {l : Launch} {E : zj_E} {h : zj_H} {g : zj_G} {n : Nat} {t : Nat → Int32} (et : h 79 = t) (eL : h 78 3 = nI n) (hn : n ≤ 540) {q : zuK} {w : zuW} (hq : zv_q h g t n q) (hw : ∀ i, i < 89 → h 81 i = w i) {x lo hi : Int32} {k : Nat} (ex : x = nI k) (hk : k < 89) : zj_M l E yX8_told cX8_told 4 (some .boolean) 2 [.ref (E.2.1 78), .int x, .int lo, .int hi] h g (zv_P h g t n (zu_num (zw_T t n) lo hi k (.inr (q, w)))) := by
  refine zj_M.of RX8 (by decide) rfl (Nat.le_of_ble_eq_true rfl) ?_
  intro Γ hΓ K Rt
  subst hΓ
  obtain ⟨q5, q4, q6, q7, q2, q8⟩ := id hq
  have ht := zu_tk_1 q8
  show zj_J E Γ 4 0 [(0, .ref (E.2.1 78)), (1, .int x), (2, .int lo), (3, .int hi)] [] h g
  refine zj_aload_n (i := 0) (pc := 0) K dX8_told_0 rfl rfl ?_
  refine zj_getI (pc := 1) K lf_X8_27 hs_M rfl dX8_told_1 ?_
  refine zj_iconst (v := 3) (pc := 4) K dX8_told_4 (by decide) ?_
  refine zj_icmp_eq (tgt := 14) (pc := 5) K dX8_told_5 (by decide) (fun c_5 => ?_) (fun c_5 => ?_)
  · have hK3 : q.1 = 3 := (zv_sort hq (c := 3) (by decide) (by decide)).mp c_5
    have ev := q7 hK3
    refine zj_aload_n (i := 0) (pc := 14) K dX8_told_14 rfl rfl ?_
    refine zj_getI (pc := 15) K lf_X8_41 hs_M rfl dX8_told_15 ?_
    refine zj_iload_n (i := 2) (pc := 18) K dX8_told_18 rfl rfl ?_
    refine zj_iload_n (i := 3) (pc := 19) K dX8_told_19 rfl rfl ?_
    refine zj_cS3I (pc := 20) K lm_X8_91 (m_X8_isIn) (by decide) rfl (Nat.le_of_ble_eq_true rfl) dX8_told_20 ?_
    refine zj_if_ne (tgt := 32) (pc := 23) K dX8_told_23 (by decide) (fun c_23 => ?_) (fun c_23 => ?_)
    · replace c_23 := zz_n0.mp c_23
      rw [ev, Bool.and_eq_true] at c_23
      have hr := zu_num_3 (T := zw_T t n) (k := k) (w := w) hK3 (Int32.not_lt.mpr (of_decide_eq_true c_23.1)) (of_decide_eq_true c_23.2)
      refine zj_aload_n (i := 0) (pc := 32) K dX8_told_32 rfl rfl ?_
      refine zj_getR (pc := 33) K lf_X8_67 hs_M rfl dX8_told_33 ?_
      refine zj_iload_n (i := 1) (pc := 36) K dX8_told_36 rfl rfl ?_
      refine zj_aload_n (i := 0) (pc := 37) K dX8_told_37 rfl rfl ?_
      refine zj_getI (pc := 38) K lf_X8_41 hs_M rfl dX8_told_38 ?_
      refine zj_ast (j := k) (pc := 41) K hs_Mread ex hk (by first | decide | omega) dX8_told_41 ?_
      refine zj_aload_n (i := 0) (pc := 42) K dX8_told_42 rfl rfl ?_
      refine zj_cV0P (pc := 43) K lm_X8_95 hs_M (m_X8_go (n := n) (a := q.2.2.1) eL hn q4 ht.2.2) (by decide) rfl (Nat.le_of_ble_eq_true rfl) dX8_told_43 (fun v1 h1 g1 hp1 => ?_)
      obtain ⟨rfl, m1, o1, fr1, fg1, nq1⟩ := zv_goP (h := zj_s h 81 (upd (h 81) k (h 78 7))) (t := t) et ht.2.2 hp1
      refine zj_iconst (v := 1) (pc := 46) K dX8_told_46 (by decide) ?_
      exact zj_zret K Rt dX8_told_47 (by decide) (by
        refine ⟨⟨fun a a1 a2 => (m1 a a1).trans (zj_s_ne _ _ a2), fun b b1 => o1 b (by omega)⟩, fg1, ?_⟩
        rw [hr]
        refine ⟨rfl, o1 8 (by decide), nq1, fun i hi => ?_⟩
        rw [m1 81 (by decide), zj_s_eq, ev]
        by_cases e : i = k
        · rw [e, zz_upd_at, zz_upd_at]
        · rw [zz_upd_ne _ _ e, zz_upd_ne _ _ e]; exact hw i hi)
    · replace c_23 := zz_i0.mp c_23
      rw [ev] at c_23
      have hr : zu_num (zw_T t n) lo hi k (.inr (q, w)) = .inl (2, q.2.1) := by
        show (if q.1 = 3 then _ else _) = _
        rw [if_pos hK3, if_neg (by rw [c_23]; decide)]
      refine zj_aload_n (i := 0) (pc := 26) K dX8_told_26 rfl rfl ?_
      refine zj_iconst (v := 2) (pc := 27) K dX8_told_27 (by decide) ?_
      refine zj_cV1P (pc := 28) K lm_X8_88 hs_M (m_X8_bad) (by decide) rfl (Nat.le_of_ble_eq_true rfl) dX8_told_28 (fun vb hb gb hpb => ?_)
      obtain ⟨rfl, rfl, bb1, bb2⟩ := hpb
      exact zj_zret K Rt dX8_told_31 (zz_01 _) (by
        refine ⟨⟨fun a a1 _ => bb1 a a1, fun b b1 => by rw [bb2, zz_upd_ne _ _ (by omega), zz_upd_ne _ _ (by omega)]⟩, fun _ _ _ => rfl, ?_⟩
        rw [hr]
        refine ⟨rfl, ?_, ?_⟩
        · have hs1 : ¬ h 78 6 = 1 := by rw [c_5]; decide
          rw [bb2, zz_upd_ne _ _ (by decide), zz_upd_at, if_neg hs1]; rfl
        · rw [bb2, zz_upd_at]; exact q5)
  · have hK3 : ¬ q.1 = 3 := fun z => c_5 ((zv_sort hq (c := 3) (by decide) (by decide)).mpr z)
    have hr := zu_num_1 (T := zw_T t n) (lo := lo) (hi := hi) (k := k) (w := w) hK3
    refine zj_aload_n (i := 0) (pc := 8) K dX8_told_8 rfl rfl ?_
    refine zj_iconst (v := 1) (pc := 9) K dX8_told_9 (by decide) ?_
    refine zj_cV1P (pc := 10) K lm_X8_88 hs_M (m_X8_bad) (by decide) rfl (Nat.le_of_ble_eq_true rfl) dX8_told_10 (fun vb hb gb hpb => ?_)
    obtain ⟨rfl, rfl, bb1, bb2⟩ := hpb
    exact zj_zret K Rt dX8_told_13 (zz_01 _) (by
      refine ⟨⟨fun a a1 _ => bb1 a a1, fun b b1 => by rw [bb2, zz_upd_ne _ _ (by omega), zz_upd_ne _ _ (by omega)]⟩, fun _ _ _ => rfl, ?_⟩
      rw [hr]
      refine ⟨rfl, ?_, ?_⟩
      · rw [bb2, zz_upd_ne _ _ (by decide), zz_upd_at]; split <;> rfl
      · rw [bb2, zz_upd_at]; exact q5)

set_option maxHeartbeats 4000000 in
set_option maxRecDepth 20000 in
theorem m_X8_readEnd {l : Launch} {E : zj_E} {h : zj_H} {g : zj_G} {n : Nat} {t : Nat → Int32} (et : h 79 = t) (eL : h 78 3 = nI n) (hn : n ≤ 540) {q : zuK} {w : zuW} (hq : zv_q h g t n q) (hw : ∀ i, i < 89 → h 81 i = w i)  : zj_M l E yX8_readEnd cX8_readEnd 1 (some .boolean) 2 [.ref (E.2.1 78)] h g (zv_P h g t n (zu_sign (zw_T t n) (.inr (q, w)))) := by
  refine zj_M.of RX8 (by decide) rfl (Nat.le_of_ble_eq_true rfl) ?_
  intro Γ hΓ K Rt
  subst hΓ
  obtain ⟨q5, q4, q6, q7, q2, q8⟩ := id hq
  have ht := zu_tk_1 q8
  show zj_J E Γ 1 0 [(0, .ref (E.2.1 78))] [] h g
  refine zj_aload_n (i := 0) (pc := 0) K dX8_readEnd_0 rfl rfl ?_
  refine zj_getI (pc := 1) K lf_X8_27 hs_M rfl dX8_readEnd_1 ?_
  refine zj_iconst (v := 4) (pc := 4) K dX8_readEnd_4 (by decide) ?_
  refine zj_icmp_eq (tgt := 14) (pc := 5) K dX8_readEnd_5 (by decide) (fun c_5 => ?_) (fun c_5 => ?_)
  · have hr := zu_sign_4 (T := zw_T t n) (w := w) ((zv_sort hq (c := 4) (by decide) (by decide)).mp c_5)
    refine zj_aload_n (i := 0) (pc := 14) K dX8_readEnd_14 rfl rfl ?_
    refine zj_cV0P (pc := 15) K lm_X8_95 hs_M (m_X8_go (n := n) (a := q.2.2.1) eL hn q4 ht.2.2) (by decide) rfl (Nat.le_of_ble_eq_true rfl) dX8_readEnd_15 (fun v1 h1 g1 hp1 => ?_)
    obtain ⟨rfl, m1, o1, fr1, fg1, nq1⟩ := zv_goP (h := h) (t := t) et ht.2.2 hp1
    refine zj_iconst (v := 1) (pc := 18) K dX8_readEnd_18 (by decide) ?_
    exact zj_zret K Rt dX8_readEnd_19 (by decide) (by
      refine ⟨fr1, fg1, ?_⟩
      rw [hr]
      exact ⟨rfl, o1 8 (by decide), nq1, fun i hi => by rw [m1 81 (by decide)]; exact hw i hi⟩)
  · have hr := zu_sign_1 (T := zw_T t n) (w := w) (fun z => c_5 ((zv_sort hq (c := 4) (by decide) (by decide)).mpr z))
    refine zj_aload_n (i := 0) (pc := 8) K dX8_readEnd_8 rfl rfl ?_
    refine zj_iconst (v := 1) (pc := 9) K dX8_readEnd_9 (by decide) ?_
    refine zj_cV1P (pc := 10) K lm_X8_88 hs_M (m_X8_bad) (by decide) rfl (Nat.le_of_ble_eq_true rfl) dX8_readEnd_10 (fun vb hb gb hpb => ?_)
    obtain ⟨rfl, rfl, bb1, bb2⟩ := hpb
    exact zj_zret K Rt dX8_readEnd_13 (zz_01 _) (by
      refine ⟨⟨fun a a1 _ => bb1 a a1, fun b b1 => by rw [bb2, zz_upd_ne _ _ (by omega), zz_upd_ne _ _ (by omega)]⟩, fun _ _ _ => rfl, ?_⟩
      rw [hr]
      refine ⟨rfl, ?_, ?_⟩
      · rw [bb2, zz_upd_ne _ _ (by decide), zz_upd_at]; split <;> rfl
      · rw [bb2, zz_upd_at]; exact q5)
