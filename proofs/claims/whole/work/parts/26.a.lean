/-- what draws and repairs rest on: J C u, even loaded chair, seniority, weight, lawful (of a case, a bench) -/
abbrev zθ : Type := Nat × Nat × Nat × Int32 × Int32 × Int32 × (Nat → Int32) × (Nat → Int32) × (Nat → Int32 → Bool)
def zd_l (θ : zθ) (c : Nat) : List Int32 := zl_all (θ.2.2.2.2.2.2.2.2 c) θ.1
def zd_t (θ : zθ) (si : Nat → Int32) (c : Nat) (b : Int32) : Int32 := zs_ten θ.2.2.2.1 θ.2.2.2.2.1 θ.2.2.2.2.2.1 θ.1 θ.2.1 θ.2.2.2.2.2.2.1 θ.2.2.2.2.2.2.2.1 si (nI c) b
def zd_ts (θ : zθ) (si : Nat → Int32) (c : Nat) : Nat → Int32 := fun i => zd_t θ si c ((zd_l θ c).getD i 0)
def zd_W (θ : zθ) (si : Nat → Int32) (c : Nat) : Int32 := zp_W (zd_ts θ si c) (zd_l θ c).length θ.2.2.1
def zd_pool (θ : zθ) (si : Nat → Int32) (c : Nat) : List Int32 := zp_fl (fun i => (zd_l θ c).getD i 0) (zd_ts θ si c) (zd_W θ si c) (zd_l θ c).length
def zθC (h : zj_H) (k J C u : Nat) : zθ := (J, C, u, h 8 2, h 8 3, h 8 4, h 9, h 10, fun c => zl_law (h (k + 4) c) (h (k + 1) 1) (h 8 8))
theorem zθC_congr {h q : zj_H} {k J C u : Nat} (e8 : q 8 = h 8) (e9 : q 9 = h 9) (e10 : q 10 = h 10) (eb : q (k + 4) = h (k + 4)) (ea : q (k + 1) 1 = h (k + 1) 1) : zθC q k J C u = zθC h k J C u := by
  unfold zθC; rw [e8, e9, e10, eb, ea]
def zd_seed (s : Int32) : Int32 := s * 1103515245 + 12345
theorem zd_pool_len (θ : zθ) (si : Nat → Int32) (c : Nat) : (zd_pool θ si c).length = zp_le (zd_ts θ si c) (zd_l θ c).length (zd_W θ si c) := zp_fl_len _
theorem zl_c_mem {p : Int32 → Bool} {two : Int32} {fr : Nat} {x : Int32} : ∀ {n : Nat}, x ∈ zl_c p two fr n → ∃ c, fr ≤ c ∧ c < n ∧ x = two ||| zz_bit c ∧ p x = true
  | 0, h => by cases h
  | n + 1, h => by
    unfold zl_c at h
    rcases List.mem_append.mp h with h | h
    · obtain ⟨c, a1, a2, a3⟩ := zl_c_mem h; exact ⟨c, a1, by omega, a3⟩
    · split at h
      · next hh =>
        have e := List.mem_singleton.mp h
        exact ⟨n, hh.1, by omega, e, by rw [e]; exact hh.2⟩
      · cases h
theorem zl_b_mem {p : Int32 → Bool} {a J : Nat} {x : Int32} : ∀ {n : Nat}, x ∈ zl_b p a J n → ∃ b c, a < b ∧ b < n ∧ b < c ∧ c < J ∧ x = zz_bit a ||| zz_bit b ||| zz_bit c ∧ p x = true
  | 0, h => by cases h
  | n + 1, h => by
    unfold zl_b at h
    rcases List.mem_append.mp h with h | h
    · obtain ⟨b, c, a1, a2, a3⟩ := zl_b_mem h; exact ⟨b, c, a1, by omega, a3⟩
    · split at h
      · next hh =>
        obtain ⟨c, a1, a2, a3, a4⟩ := zl_c_mem h
        exact ⟨n, c, hh, by omega, by omega, a2, a3, a4⟩
      · cases h
theorem zl_a_mem {p : Int32 → Bool} {J : Nat} {x : Int32} : ∀ {n : Nat}, x ∈ zl_a p J n → ∃ a b c, a < n ∧ a < b ∧ b < c ∧ c < J ∧ x = zz_bit a ||| zz_bit b ||| zz_bit c ∧ p x = true
  | 0, h => by cases h
  | n + 1, h => by
    unfold zl_a at h
    rcases List.mem_append.mp h with h | h
    · obtain ⟨a, b, c, a1, a2⟩ := zl_a_mem h; exact ⟨a, b, c, by omega, a2⟩
    · obtain ⟨b, c, a1, a2, a3, a4, a5⟩ := zl_b_mem h
      exact ⟨n, b, c, by omega, a1, a3, a4, a5⟩
theorem zl_all_mem {p : Int32 → Bool} {J : Nat} {x : Int32} (h : x ∈ zl_all p J) : ∃ a b c, a < b ∧ b < c ∧ c < J ∧ x = zz_bit a ||| zz_bit b ||| zz_bit c ∧ p x = true := by
  obtain ⟨a, b, c, _, h2⟩ := zl_a_mem h; exact ⟨a, b, c, h2⟩
theorem zp_fl_mem {B ts : Nat → Int32} {w x : Int32} : ∀ {n : Nat}, x ∈ zp_fl B ts w n → ∃ i, i < n ∧ x = B i
  | 0, h => by cases h
  | n + 1, h => by
    unfold zp_fl at h
    rcases List.mem_append.mp h with h | h
    · obtain ⟨i, a1, a2⟩ := zp_fl_mem h; exact ⟨i, by omega, a2⟩
    · split at h
      · exact ⟨n, by omega, List.mem_singleton.mp h⟩
      · cases h
theorem zd_pool_mem {θ : zθ} {si : Nat → Int32} {c : Nat} {x : Int32} (h : x ∈ zd_pool θ si c) : x ∈ zd_l θ c := by
  obtain ⟨i, hi, e⟩ := zp_fl_mem h
  rw [e]
  show (zd_l θ c).getD i 0 ∈ _
  rw [List.getD_eq_getElem?_getD, List.getElem?_eq_getElem hi]
  exact List.getElem_mem hi
theorem zl_bits {a b c i : Nat} (ha : a < 9) (hb : b < 9) (hc : c < 9) : bt (zz_bit a ||| zz_bit b ||| zz_bit c) i = (decide (i = a) || decide (i = b) || decide (i = c)) := by
  rw [b_or, b_or, zz_bt_bit (by omega), zz_bt_bit (by omega), zz_bt_bit (by omega)]
theorem zl_ne {p : Int32 → Bool} {J : Nat} {x : Int32} (hJ : J ≤ 9) (h : x ∈ zl_all p J) : x ≠ -1 ∧ x ≠ 0 := by
  obtain ⟨a, b, c, h1, h2, h3, rfl, _⟩ := zl_all_mem h
  refine ⟨fun e => ?_, fun e => ?_⟩
  · have h31 : bt (zz_bit a ||| zz_bit b ||| zz_bit c) 31 = true := by rw [e]; exact b_m1 31 (by decide)
    rw [zl_bits (by omega) (by omega) (by omega)] at h31
    simp at h31; omega
  · have ha : bt (zz_bit a ||| zz_bit b ||| zz_bit c) a = false := by rw [e]; exact b_0 a
    rw [zl_bits (by omega) (by omega) (by omega)] at ha
    simp at ha
theorem zz_getD_mem {l : List Int32} {i : Nat} (h : i < l.length) : l.getD i 0 ∈ l := by
  rw [List.getD_eq_getElem?_getD, List.getElem?_eq_getElem h]; exact List.getElem_mem h
/-- all OPEN cases drawn, the first c of them: how many, SEED, stages, benches -/
def zd_all (θ : zθ) (s0 : Int32) (st0 si0 : Nat → Int32) : Nat → Nat × Int32 × (Nat → Int32) × (Nat → Int32)
  | 0 => (0, s0, st0, si0)
  | c + 1 => if (zd_all θ s0 st0 si0 c).2.2.1 c = 0 ∧ zd_pool θ (zd_all θ s0 st0 si0 c).2.2.2 c ≠ [] then
      ((zd_all θ s0 st0 si0 c).1 + 1, zd_seed (zd_all θ s0 st0 si0 c).2.1, upd (zd_all θ s0 st0 si0 c).2.2.1 c 1,
        upd (zd_all θ s0 st0 si0 c).2.2.2 c ((zd_pool θ (zd_all θ s0 st0 si0 c).2.2.2 c).getD (zp_ix (zd_seed (zd_all θ s0 st0 si0 c).2.1) (zd_pool θ (zd_all θ s0 st0 si0 c).2.2.2 c).length) 0))
    else zd_all θ s0 st0 si0 c
theorem zd_all_le (θ : zθ) (s0 : Int32) (st0 si0 : Nat → Int32) : ∀ c, (zd_all θ s0 st0 si0 c).1 ≤ c
  | 0 => Nat.le_refl 0
  | c + 1 => by
    have ih := zd_all_le θ s0 st0 si0 c
    unfold zd_all
    split
    · exact Nat.succ_le_succ ih
    · exact Nat.le_succ_of_le ih
theorem zz_upd_self (f : Nat → Int32) (k : Nat) : upd f k (f k) = f := by
  funext j; unfold upd; split
  · next e => rw [e]
  · rfl
theorem zz_upd_at (f : Nat → Int32) (k : Nat) (x : Int32) : upd f k x k = x := if_pos rfl
theorem zz_upd_ne (f : Nat → Int32) {k j : Nat} (x : Int32) (h : j ≠ k) : upd f k x j = f j := if_neg h
/-- REPAIR: of those judges whom cond allows the one of the least t, of like ones the least -/
def zr_best (cond : Nat → Bool) (t : Nat → Int32) : Nat → Option Nat × Int32
  | 0 => (none, 0)
  | j + 1 => if cond j = true ∧ ((zr_best cond t j).1 = none ∨ t j < (zr_best cond t j).2) then (some j, t j) else zr_best cond t j
def zr_stay (b : Int32) (g : Nat) : Int32 := b &&& (zz_bit g ^^^ -1)
def zr_b (θ : zθ) (si : Nat → Int32) (c g : Nat) : Option Nat × Int32 := zr_best (fun j => !bt (si c) j && θ.2.2.2.2.2.2.2.2 c (zr_stay (si c) g ||| zz_bit j)) (fun j => zd_t θ si c (zr_stay (si c) g ||| zz_bit j)) θ.1
def zr_si (b : Int32) (g : Nat) : Option Nat → Int32
  | none => 0
  | some f => zr_stay b g ||| zz_bit f
def zr_st : Option Nat → Int32
  | none => 0
  | some _ => 1
theorem zr_best_lt {cond : Nat → Bool} {t : Nat → Int32} : ∀ {n f : Nat}, (zr_best cond t n).1 = some f → f < n ∧ cond f = true
  | 0, f, h => by cases h
  | n + 1, f, h => by
    unfold zr_best at h
    split at h
    · next hh => cases h; exact ⟨Nat.lt_succ_self n, hh.1⟩
    · have := zr_best_lt h; exact ⟨by omega, this.2⟩
/-- all SET cases that have g repaired, the first c of them -/
def zr_all (θ : zθ) (g : Nat) (st0 si0 : Nat → Int32) : Nat → Nat × (Nat → Int32) × (Nat → Int32)
  | 0 => (0, st0, si0)
  | c + 1 => if (zr_all θ g st0 si0 c).2.1 c = 1 ∧ bt ((zr_all θ g st0 si0 c).2.2 c) g = true then
      ((zr_all θ g st0 si0 c).1 + (if (zr_b θ (zr_all θ g st0 si0 c).2.2 c g).1 = none then 0 else 1), upd (zr_all θ g st0 si0 c).2.1 c (zr_st (zr_b θ (zr_all θ g st0 si0 c).2.2 c g).1),
        upd (zr_all θ g st0 si0 c).2.2 c (zr_si ((zr_all θ g st0 si0 c).2.2 c) g (zr_b θ (zr_all θ g st0 si0 c).2.2 c g).1))
    else zr_all θ g st0 si0 c
theorem zs_le0 {ts : Nat → Int32} {n : Nat} (h : ∀ i, i < n → 0 ≤ ts i) : zp_le ts n (-1) = 0 := by
  induction n with
  | zero => rfl
  | succ n ih =>
    have e : zp_le ts (n + 1) (-1) = zp_le ts n (-1) + (if decide (ts n ≤ -1) = true then 1 else 0) := rfl
    rw [e, ih (fun i hi => h i (Nat.lt_succ_of_lt hi)), if_neg]
    intro z
    have h1 := Int32.le_trans (h n (Nat.lt_succ_self n)) (of_decide_eq_true z)
    exact absurd h1 (by decide)
set_option maxHeartbeats 4000000 in
set_option maxRecDepth 20000 in
theorem m_X0_gatherPool {l : Launch} {E : zj_E} {h : zj_H} {g : zj_G} {k J C u c0 : Nat} (hk : zj_isC k) (eJ : h 8 6 = nI J) (hJ : J ≤ 9) (eC : h 8 7 = nI C) (hC : C ≤ 14) (eU : h 8 1 = nI u) (hU : u ≤ 20) (hT : ∀ si c b, 0 ≤ zd_t (zθC h k J C u) si c b) {x : Int32} (ex : x = nI c0) (hc : c0 < 14) : zj_M l E yX0_gatherPool cX0_gatherPool 3 none 3 [.ref (E.2.1 k), .int x] h g (fun v h' g' => v = none ∧ g' = g ∧ (∀ a, a ≠ k → a ≠ k + 6 → a ≠ k + 7 → a ≠ k + 8 → a ≠ k + 9 → h' a = h a) ∧ zl_has h' k 7 (k + 8) (zd_l (zθC h k J C u) c0) ∧ (∀ i, i < (zd_l (zθC h k J C u) c0).length → h' (k + 9) i = zd_ts (zθC h k J C u) (h (k + 3)) c0 i) ∧ h' k 9 = zd_W (zθC h k J C u) (h (k + 3)) c0 ∧ h' k 8 = nI (zd_pool (zθC h k J C u) (h (k + 3)) c0).length) := by
  refine zj_M.of RX0 (by decide) rfl (Nat.le_of_ble_eq_true rfl) ?_
  intro Γ hΓ K Rt
  subst hΓ
  obtain ⟨hs_C, hs_Cd, hs_Cs, hs_Ci, hs_Cb, hs_Cf, hs_Cp, hs_Cl, hs_Cn, hs_Ct⟩ := zj_shC hk
  obtain ⟨hk12, hk22⟩ := zj_C12 hk
  subst ex
  have hl84 : (zd_l (zθC h k J C u) c0).length ≤ 84 := zl_all_len _ hJ
  have loop2 : ∀ (m i : Nat) (x2 : Int32) (q : zj_H) (w : Int32) (f : Nat), (zd_l (zθC h k J C u) c0).length + 1 ≤ i + m → i ≤ (zd_l (zθC h k J C u) c0).length → (x2 = nI i) → (∀ a, a ≠ k → a ≠ k + 6 → a ≠ k + 7 → a ≠ k + 8 → a ≠ k + 9 → q a = h a) → (zl_has q k 7 (k + 8) (zd_l (zθC h k J C u) c0)) → (∀ j, j < (zd_l (zθC h k J C u) c0).length → q (k + 9) j = (zd_ts (zθC h k J C u) (h (k + 3)) c0) j) → (q k 9 = w) → (q k 8 = nI (zp_le (zd_ts (zθC h k J C u) (h (k + 3)) c0) (zd_l (zθC h k J C u) c0).length w)) → (zp_run (zd_ts (zθC h k J C u) (h (k + 3)) c0) (zd_l (zθC h k J C u) c0).length u f w = zd_W (zθC h k J C u) (h (k + 3)) c0) → ((zd_l (zθC h k J C u) c0).length + 1 ≤ f + zp_le (zd_ts (zθC h k J C u) (h (k + 3)) c0) (zd_l (zθC h k J C u) c0).length w) → (i ≤ zp_le (zd_ts (zθC h k J C u) (h (k + 3)) c0) (zd_l (zθC h k J C u) c0).length w) → zj_J E Γ 3 54 [(0, .ref (E.2.1 k)), (1, .int (nI c0)), (2, .int x2)] [] q g := by
    intro m
    induction m with
    | zero => intro i x2 q w f h1 h2; omega
    | succ m ih =>
      intro i x2 q w f h1 h2 e2 p1 p2 p3 p4 p5 p6 p7 p8
      have eU2 : q 8 1 = nI u := by rw [p1 8 (by omega) (by omega) (by omega) (by omega) (by omega)]; exact eU
      have hle := zp_le_n (zd_ts (zθC h k J C u) (h (k + 3)) c0) (zd_l (zθC h k J C u) c0).length w
      refine zj_iload_n (i := 2) (pc := 54) K dX0_gatherPool_54 rfl rfl ?_
      refine zj_aload_n (i := 0) (pc := 55) K dX0_gatherPool_55 rfl rfl ?_
      refine zj_getI (pc := 56) K lf_X0_122 hs_C rfl dX0_gatherPool_56 ?_
      refine zj_icmp_ge (tgt := 122) (pc := 59) K dX0_gatherPool_59 (by decide) (fun c_59 => ?_) (fun c_59 => ?_)
      · have hi : (zd_l (zθC h k J C u) c0).length ≤ i := zz_ge e2 p2.1 (by omega) (by omega) c_59
        have hst : ¬ (zp_le (zd_ts (zθC h k J C u) (h (k + 3)) c0) (zd_l (zθC h k J C u) c0).length w < u ∧ zp_le (zd_ts (zθC h k J C u) (h (k + 3)) c0) (zd_l (zθC h k J C u) c0).length w < (zd_l (zθC h k J C u) c0).length) := by omega
        exact zj_vret K Rt dX0_gatherPool_122 (by
          have hw := zp_stop hst f
          rw [p6] at hw
          exact ⟨rfl, rfl, p1, p2, p3, by rw [p4, hw], by rw [p5, zd_pool_len, hw]⟩)
      · have hi : i < (zd_l (zθC h k J C u) c0).length := zz_nge e2 p2.1 (by omega) (by omega) c_59
        refine zj_aload_n (i := 0) (pc := 62) K dX0_gatherPool_62 rfl rfl ?_
        refine zj_getI (pc := 63) K lf_X0_141 hs_C rfl dX0_gatherPool_63 ?_
        refine zj_aload_n (i := 0) (pc := 66) K dX0_gatherPool_66 rfl rfl ?_
        refine zj_getI (pc := 67) K lf_X0_122 hs_C rfl dX0_gatherPool_67 ?_
        refine zj_icmp_ge (tgt := 122) (pc := 70) K dX0_gatherPool_70 (by decide) (fun c_70 => ?_) (fun c_70 => ?_)
        · have hi2 : (zd_l (zθC h k J C u) c0).length ≤ zp_le (zd_ts (zθC h k J C u) (h (k + 3)) c0) (zd_l (zθC h k J C u) c0).length w := zz_ge p5 p2.1 (by omega) (by omega) c_70
          have hst : ¬ (zp_le (zd_ts (zθC h k J C u) (h (k + 3)) c0) (zd_l (zθC h k J C u) c0).length w < u ∧ zp_le (zd_ts (zθC h k J C u) (h (k + 3)) c0) (zd_l (zθC h k J C u) c0).length w < (zd_l (zθC h k J C u) c0).length) := by omega
          exact zj_vret K Rt dX0_gatherPool_122 (by
            have hw := zp_stop hst f
            rw [p6] at hw
            exact ⟨rfl, rfl, p1, p2, p3, by rw [p4, hw], by rw [p5, zd_pool_len, hw]⟩)
        · have hi2 : zp_le (zd_ts (zθC h k J C u) (h (k + 3)) c0) (zd_l (zθC h k J C u) c0).length w < (zd_l (zθC h k J C u) c0).length := zz_nge p5 p2.1 (by omega) (by omega) c_70
          refine zj_aload_n (i := 0) (pc := 73) K dX0_gatherPool_73 rfl rfl ?_
          refine zj_getI (pc := 74) K lf_X0_141 hs_C rfl dX0_gatherPool_74 ?_
          refine zj_aload_n (i := 0) (pc := 77) K dX0_gatherPool_77 rfl rfl ?_
          refine zj_getR (pc := 78) K lf_X0_9 hs_C rfl dX0_gatherPool_78 ?_
          refine zj_getI (pc := 81) K lf_X0_147 hs_D rfl dX0_gatherPool_81 ?_
          refine zj_icmp_ge (tgt := 122) (pc := 84) K dX0_gatherPool_84 (by decide) (fun c_84 => ?_) (fun c_84 => ?_)
          · have hi3 : u ≤ zp_le (zd_ts (zθC h k J C u) (h (k + 3)) c0) (zd_l (zθC h k J C u) c0).length w := zz_ge p5 eU2 (by omega) (by omega) c_84
            have hst : ¬ (zp_le (zd_ts (zθC h k J C u) (h (k + 3)) c0) (zd_l (zθC h k J C u) c0).length w < u ∧ zp_le (zd_ts (zθC h k J C u) (h (k + 3)) c0) (zd_l (zθC h k J C u) c0).length w < (zd_l (zθC h k J C u) c0).length) := by omega
            exact zj_vret K Rt dX0_gatherPool_122 (by
              have hw := zp_stop hst f
              rw [p6] at hw
              exact ⟨rfl, rfl, p1, p2, p3, by rw [p4, hw], by rw [p5, zd_pool_len, hw]⟩)
          · have hi3 : zp_le (zd_ts (zθC h k J C u) (h (k + 3)) c0) (zd_l (zθC h k J C u) c0).length w < u := zz_nge p5 eU2 (by omega) (by omega) c_84
            have hnx := zp_next hi2
            have ela : zp_la (q (k + 9)) w (zd_l (zθC h k J C u) c0).length = zp_la (zd_ts (zθC h k J C u) (h (k + 3)) c0) w (zd_l (zθC h k J C u) c0).length := zp_la_congr p3
            refine zj_aload_n (i := 0) (pc := 87) K dX0_gatherPool_87 rfl rfl ?_
            refine zj_aload_n (i := 0) (pc := 88) K dX0_gatherPool_88 rfl rfl ?_
            refine zj_aload_n (i := 0) (pc := 89) K dX0_gatherPool_89 rfl rfl ?_
            refine zj_getI (pc := 90) K lf_X0_144 hs_C rfl dX0_gatherPool_90 ?_
            refine zj_cV1I (pc := 93) K lm_X0_150 hs_C (m_X0_leastTensionAbove hk p2.1 hl84) (by decide) rfl (Nat.le_of_ble_eq_true rfl) dX0_gatherPool_93 ?_
            refine zj_putI (pc := 96) K lf_X0_144 hs_C rfl dX0_gatherPool_96 ?_
            refine zj_aload_n (i := 0) (pc := 99) K dX0_gatherPool_99 rfl rfl ?_
            refine zj_dup (pc := 100) K dX0_gatherPool_100 rfl ?_
            refine zj_getI (pc := 101) K lf_X0_141 hs_C rfl dX0_gatherPool_101 ?_
            refine zj_aload_n (i := 0) (pc := 104) K dX0_gatherPool_104 rfl rfl ?_
            refine zj_aload_n (i := 0) (pc := 105) K dX0_gatherPool_105 rfl rfl ?_
            refine zj_getI (pc := 106) K lf_X0_144 hs_C rfl dX0_gatherPool_106 ?_
            refine zj_cV1I (pc := 109) K lm_X0_153 hs_C (m_X0_countListedAt (n := (zd_l (zθC h k J C u) c0).length) hk (by rw [zj_s_eq]; exact p2.1) hl84) (by decide) rfl (Nat.le_of_ble_eq_true rfl) dX0_gatherPool_109 ?_
            refine zj_iadd (pc := 112) K dX0_gatherPool_112 ?_
            refine zj_putI (pc := 113) K lf_X0_141 hs_C rfl dX0_gatherPool_113 ?_
            refine zj_iinc (v := 1) (pc := 116) K dX0_gatherPool_116 rfl (by decide) rfl rfl rfl ?_
            refine zj_goto (tgt := 54) (pc := 119) K dX0_gatherPool_119 (by decide) ?_
            obtain ⟨f', rfl⟩ : ∃ f', f = f' + 1 := ⟨f - 1, by omega⟩
            have ec : zc_cnt (fun i => decide (q (k + 9) i = zp_la (zd_ts (zθC h k J C u) (h (k + 3)) c0) w (zd_l (zθC h k J C u) c0).length)) (zd_l (zθC h k J C u) c0).length = zc_cnt (fun i => decide ((zd_ts (zθC h k J C u) (h (k + 3)) c0) i = zp_la (zd_ts (zθC h k J C u) (h (k + 3)) c0) w (zd_l (zθC h k J C u) c0).length)) (zd_l (zθC h k J C u) c0).length := zc_cnt_congr (fun i hi => by rw [p3 i hi])
            refine ih (i + 1) _ _ (zp_la (zd_ts (zθC h k J C u) (h (k + 3)) c0) w (zd_l (zθC h k J C u) c0).length) f' (by omega) (by omega) (zz_up e2) (fun a a1 a2 a3 a4 a5 => by rw [zj_s_ne _ _ a1, zj_s_ne _ _ a1]; exact p1 a a1 a2 a3 a4 a5) ⟨?_, ?_⟩ ?_ ?_ ?_ ?_ ?_ ?_
            · rw [zj_s_eq, zj_s_eq]; exact p2.1
            · intro j hj; rw [zj_s_ne _ _ (by omega), zj_s_ne _ _ (by omega)]; exact p2.2 j hj
            · intro j hj; rw [zj_s_ne _ _ (by omega), zj_s_ne _ _ (by omega)]; exact p3 j hj
            · rw [zj_s_eq, zj_s_eq, p4, ela]; rfl
            · rw [zj_s_eq, zz_upd_at, zj_s_eq, p4, ela, zz_upd_at, zj_s_ne _ _ (by omega), ec, zz_upd_ne _ _ (by decide), p5, nI_add, hnx.2.1]
            · rw [← p6, zp_run, if_pos ⟨hi3, hi2⟩]
            · rw [hnx.2.1]; omega
            · rw [hnx.2.1]; omega
  have loop : ∀ (m i : Nat) (x2 : Int32) (q : zj_H) (fP fL : Nat → Int32), (zd_l (zθC h k J C u) c0).length + 1 ≤ i + m → i ≤ (zd_l (zθC h k J C u) c0).length → (x2 = nI i) → (∀ a, a ≠ k → a ≠ k + 6 → a ≠ k + 7 → a ≠ k + 8 → a ≠ k + 9 → q a = h a) → (zl_has q k 7 (k + 8) (zd_l (zθC h k J C u) c0)) → (q (k + 7) = zb_Ln (h (k + 3)) (h 10) (h 9) (h 8 4) (nI c0) J (fun j => if j < 9 then 0 else fL j) C) → (q (k + 6) = zb_Pn (h (k + 3)) (nI c0) J (fun j => if j < 81 then 0 else fP j) C) → (∀ j, j < i → q (k + 9) j = (zd_ts (zθC h k J C u) (h (k + 3)) c0) j) → zj_J E Γ 3 12 [(0, .ref (E.2.1 k)), (1, .int (nI c0)), (2, .int x2)] [] q g := by
    intro m
    induction m with
    | zero => intro i x2 q fP fL h1 h2; omega
    | succ m ih =>
      intro i x2 q fP fL h1 h2 e2 f1 f2 f3 f4 f5
      have eJ2 : q 8 6 = nI J := by rw [f1 8 (by omega) (by omega) (by omega) (by omega) (by omega)]; exact eJ
      have e82 : q 8 = h 8 := f1 8 (by omega) (by omega) (by omega) (by omega) (by omega)
      refine zj_iload_n (i := 2) (pc := 12) K dX0_gatherPool_12 rfl rfl ?_
      refine zj_aload_n (i := 0) (pc := 13) K dX0_gatherPool_13 rfl rfl ?_
      refine zj_getI (pc := 14) K lf_X0_122 hs_C rfl dX0_gatherPool_14 ?_
      refine zj_icmp_ge (tgt := 42) (pc := 17) K dX0_gatherPool_17 (by decide) (fun c_17 => ?_) (fun c_17 => ?_)
      · have hi : i = (zd_l (zθC h k J C u) c0).length := Nat.le_antisymm h2 (zz_ge e2 f2.1 (by omega) (by omega) c_17)
        refine zj_aload_n (i := 0) (pc := 42) K dX0_gatherPool_42 rfl rfl ?_
        refine zj_iconst (v := 0) (pc := 43) K dX0_gatherPool_43 (by decide) ?_
        refine zj_putI (pc := 44) K lf_X0_141 hs_C rfl dX0_gatherPool_44 ?_
        refine zj_aload_n (i := 0) (pc := 47) K dX0_gatherPool_47 rfl rfl ?_
        refine zj_iconst (v := -1) (pc := 48) K dX0_gatherPool_48 (by decide) ?_
        refine zj_putI (pc := 49) K lf_X0_144 hs_C rfl dX0_gatherPool_49 ?_
        refine zj_iconst (v := 0) (pc := 52) K dX0_gatherPool_52 (by decide) ?_
        refine zj_istore_n (i := 2) (pc := 53) K dX0_gatherPool_53 rfl rfl rfl rfl ?_
        refine loop2 ((zd_l (zθC h k J C u) c0).length + 1) 0 _ _ (-1) ((zd_l (zθC h k J C u) c0).length + 1) (by omega) (by omega) rfl (fun a a1 a2 a3 a4 a5 => by rw [zj_s_ne _ _ a1, zj_s_ne _ _ a1]; exact f1 a a1 a2 a3 a4 a5) ⟨?_, ?_⟩ ?_ ?_ ?_ rfl ?_ (Nat.zero_le _)
        · rw [zj_s_eq, zj_s_eq]; exact f2.1
        · intro j hj; rw [zj_s_ne _ _ (by omega), zj_s_ne _ _ (by omega)]; exact f2.2 j hj
        · intro j hj; rw [zj_s_ne _ _ (by omega), zj_s_ne _ _ (by omega)]; exact f5 j (by omega)
        · rw [zj_s_eq]; rfl
        · rw [zj_s_eq, zz_upd_ne _ _ (by decide), zj_s_eq, zz_upd_at, zs_le0 (ts := (zd_ts (zθC h k J C u) (h (k + 3)) c0)) (fun i _ => hT _ _ _)]; rfl
        · omega
      · have hi : i < (zd_l (zθC h k J C u) c0).length := zz_nge e2 f2.1 (by omega) (by omega) c_17
        refine zj_aload_n (i := 0) (pc := 20) K dX0_gatherPool_20 rfl rfl ?_
        refine zj_getR (pc := 21) K lf_X0_39 hs_C rfl dX0_gatherPool_21 ?_
        refine zj_iload_n (i := 2) (pc := 24) K dX0_gatherPool_24 rfl rfl ?_
        refine zj_aload_n (i := 0) (pc := 25) K dX0_gatherPool_25 rfl rfl ?_
        refine zj_aload_n (i := 0) (pc := 26) K dX0_gatherPool_26 rfl rfl ?_
        refine zj_getR (pc := 27) K lf_X0_36 hs_C rfl dX0_gatherPool_27 ?_
        refine zj_iload_n (i := 2) (pc := 30) K dX0_gatherPool_30 rfl rfl ?_
        refine zj_ald (j := _) (pc := 31) K hs_Cn (by first | assumption | rfl) (by first | assumption | omega) (by first | decide | omega) dX0_gatherPool_31 ?_
        refine zj_cV1I (pc := 32) K lm_X0_138 hs_C (m_X0_tensionOf hk eJ2 hJ) (by decide) rfl (Nat.le_of_ble_eq_true rfl) dX0_gatherPool_32 ?_
        refine zj_ast (j := _) (pc := 35) K hs_Ct (by first | assumption | rfl) (by first | assumption | omega) (by first | decide | omega) dX0_gatherPool_35 ?_
        refine zj_iinc (v := 1) (pc := 36) K dX0_gatherPool_36 rfl (by decide) rfl rfl rfl ?_
        refine zj_goto (tgt := 12) (pc := 39) K dX0_gatherPool_39 (by decide) ?_
        refine ih (i + 1) _ _ fP fL (by omega) (by omega) (zz_up e2) (fun a a1 a2 a3 a4 a5 => by rw [zj_s_ne _ _ a5]; exact f1 a a1 a2 a3 a4 a5) ⟨by rw [zj_s_ne _ _ (by omega)]; exact f2.1, fun j hj => by rw [zj_s_ne _ _ (by omega)]; exact f2.2 j hj⟩ (by rw [zj_s_ne _ _ (by omega)]; exact f3) (by rw [zj_s_ne _ _ (by omega)]; exact f4) (fun j hj => ?_)
        rw [zj_s_eq]
        by_cases ej : j = i
        · subst ej
          rw [zz_upd_at, e82, zs_ten_of hJ f4 f3, f2.2 j hi]; rfl
        · rw [zz_upd_ne _ _ ej]; exact f5 j (by omega)
  show zj_J E Γ 3 0 [(0, .ref (E.2.1 k)), (1, .int (nI c0))] [] h g
  refine zj_aload_n (i := 0) (pc := 0) K dX0_gatherPool_0 rfl rfl ?_
  refine zj_iload_n (i := 1) (pc := 1) K dX0_gatherPool_1 rfl rfl ?_
  refine zj_cV1P (pc := 2) K lm_X0_131 hs_C (m_X0_listLawful hk eJ hJ rfl hc) (by decide) rfl (Nat.le_of_ble_eq_true rfl) dX0_gatherPool_2 (fun v q1 g1 hp => ?_)
  obtain ⟨rfl, rfl, r1, r2, r3⟩ := hp
  have eJ1 : q1 8 6 = nI J := by rw [r1 8 (by omega) (by omega)]; exact eJ
  have eC1 : q1 8 7 = nI C := by rw [r1 8 (by omega) (by omega)]; exact eC
  refine zj_aload_n (i := 0) (pc := 5) K dX0_gatherPool_5 rfl rfl ?_
  refine zj_iload_n (i := 1) (pc := 6) K dX0_gatherPool_6 rfl rfl ?_
  refine zj_cV1P (pc := 7) K lm_X0_135 hs_C (m_X0_countBenches hk eJ1 hJ eC1 hC) (by decide) rfl (Nat.le_of_ble_eq_true rfl) dX0_gatherPool_7 (fun v q2 g2 hp => ?_)
  obtain ⟨rfl, rfl, s1, s2, s3⟩ := hp
  refine zj_iconst (v := 0) (pc := 10) K dX0_gatherPool_10 (by decide) ?_
  refine zj_istore_n (i := 2) (pc := 11) K dX0_gatherPool_11 rfl rfl rfl rfl ?_
  rw [r1 (k + 3) (by omega) (by omega), r1 10 (by omega) (by omega), r1 9 (by omega) (by omega), r1 8 (by omega) (by omega)] at s2
  rw [r1 (k + 3) (by omega) (by omega)] at s3
  exact loop ((zd_l (zθC h k J C u) c0).length + 1) 0 _ _ _ _ (by omega) (by omega) rfl (fun a a1 a2 a3 a4 a5 => by rw [s1 a a2 a3]; exact r1 a a1 a4) ⟨by rw [s1 k (by omega) (by omega)]; exact r3.1, fun j hj => by rw [s1 (k + 8) (by omega) (by omega)]; exact r3.2 j hj⟩ s2 s3 (fun j hj => absurd hj (Nat.not_lt_zero j))

set_option maxHeartbeats 4000000 in
set_option maxRecDepth 20000 in
theorem m_X0_drawOne {l : Launch} {E : zj_E} {h : zj_H} {g : zj_G} {k J C u c0 : Nat} (hk : zj_isC k) (eJ : h 8 6 = nI J) (hJ : J ≤ 9) (eC : h 8 7 = nI C) (hC : C ≤ 14) (eU : h 8 1 = nI u) (hU : u ≤ 20) (hT : ∀ si c b, 0 ≤ zd_t (zθC h k J C u) si c b) {x : Int32} (ex : x = nI c0) (hc : c0 < 14) : zj_M l E yX0_drawOne cX0_drawOne 3 (some .int) 4 [.ref (E.2.1 k), .int x] h g (fun v h' g' => ∃ r : Int32, v = some (.int r) ∧ g' = g ∧ (∀ a, a ≠ k → a ≠ k + 1 → a ≠ k + 2 → a ≠ k + 3 → a ≠ k + 6 → a ≠ k + 7 → a ≠ k + 8 → a ≠ k + 9 → h' a = h a) ∧ (((zd_pool (zθC h k J C u) (h (k + 3)) c0) = [] ∧ r = -1 ∧ h' (k + 1) = h (k + 1) ∧ h' (k + 2) = h (k + 2) ∧ h' (k + 3) = h (k + 3)) ∨ ((zd_pool (zθC h k J C u) (h (k + 3)) c0) ≠ [] ∧ r = (zd_pool (zθC h k J C u) (h (k + 3)) c0).getD (zp_ix (zd_seed (h (k + 1) 0)) (zd_pool (zθC h k J C u) (h (k + 3)) c0).length) 0 ∧ h' (k + 1) = upd (h (k + 1)) 0 (zd_seed (h (k + 1) 0)) ∧ h' (k + 2) = upd (h (k + 2)) c0 1 ∧ h' (k + 3) = upd (h (k + 3)) c0 r))) := by
  refine zj_M.of RX0 (by decide) rfl (Nat.le_of_ble_eq_true rfl) ?_
  intro Γ hΓ K Rt
  subst hΓ
  obtain ⟨hs_C, hs_Cd, hs_Cs, hs_Ci, hs_Cb, hs_Cf, hs_Cp, hs_Cl, hs_Cn, hs_Ct⟩ := zj_shC hk
  obtain ⟨hk12, hk22⟩ := zj_C12 hk
  show zj_J E Γ 3 0 [(0, .ref (E.2.1 k)), (1, .int x)] [] h g
  refine zj_aload_n (i := 0) (pc := 0) K dX0_drawOne_0 rfl rfl ?_
  refine zj_iload_n (i := 1) (pc := 1) K dX0_drawOne_1 rfl rfl ?_
  refine zj_cV1P (pc := 2) K lm_X0_156 hs_C (m_X0_gatherPool hk eJ hJ eC hC eU hU hT ex hc) (by decide) rfl (Nat.le_of_ble_eq_true rfl) dX0_drawOne_2 (fun v q g1 hp => ?_)
  obtain ⟨rfl, rfl, r1, r2, r3, r4, r5⟩ := hp
  have hl84 : (zd_l (zθC h k J C u) c0).length ≤ 84 := zl_all_len _ hJ
  have hpl : (zd_pool (zθC h k J C u) (h (k + 3)) c0).length ≤ 84 := by rw [zd_pool_len]; exact Nat.le_trans (zp_le_n _ _ _) hl84
  have q1 : q (k + 1) = h (k + 1) := r1 _ (by omega) (by omega) (by omega) (by omega) (by omega)
  have q2 : q (k + 2) = h (k + 2) := r1 _ (by omega) (by omega) (by omega) (by omega) (by omega)
  have q3 : q (k + 3) = h (k + 3) := r1 _ (by omega) (by omega) (by omega) (by omega) (by omega)
  refine zj_aload_n (i := 0) (pc := 5) K dX0_drawOne_5 rfl rfl ?_
  refine zj_getI (pc := 6) K lf_X0_141 hs_C rfl dX0_drawOne_6 ?_
  refine zj_if_gt (tgt := 14) (pc := 9) K dX0_drawOne_9 (by decide) (fun c_9 => ?_) (fun c_9 => ?_)
  · have hm : 0 < (zd_pool (zθC h k J C u) (h (k + 3)) c0).length := by
      rw [r5] at c_9
      exact (nI_ltI (a := 0) (by omega) (by omega)).mp c_9
    refine zj_aload_n (i := 0) (pc := 14) K dX0_drawOne_14 rfl rfl ?_
    refine zj_getR (pc := 15) K lf_X0_18 hs_C rfl dX0_drawOne_15 ?_
    refine zj_aload_n (i := 0) (pc := 18) K dX0_drawOne_18 rfl rfl ?_
    refine zj_getR (pc := 19) K lf_X0_18 hs_C rfl dX0_drawOne_19 ?_
    refine zj_getI (pc := 22) K lf_X0_159 hs_Cd rfl dX0_drawOne_22 ?_
    refine zj_ldc (pc := 25) K lk_X0_162 dX0_drawOne_25 ?_
    refine zj_imul (pc := 27) K dX0_drawOne_27 ?_
    refine zj_sipush (v := 12345) (pc := 28) K dX0_drawOne_28 (by decide) ?_
    refine zj_iadd (pc := 31) K dX0_drawOne_31 ?_
    refine zj_putI (pc := 32) K lf_X0_159 hs_Cd rfl dX0_drawOne_32 ?_
    refine zj_aload_n (i := 0) (pc := 35) K dX0_drawOne_35 rfl rfl ?_
    refine zj_aload_n (i := 0) (pc := 36) K dX0_drawOne_36 rfl rfl ?_
    refine zj_getR (pc := 37) K lf_X0_18 hs_C rfl dX0_drawOne_37 ?_
    refine zj_getI (pc := 40) K lf_X0_159 hs_Cd rfl dX0_drawOne_40 ?_
    refine zj_bipush (v := 8) (pc := 43) K dX0_drawOne_43 (by decide) ?_
    refine zj_iushr (pc := 45) K dX0_drawOne_45 ?_
    refine zj_aload_n (i := 0) (pc := 46) K dX0_drawOne_46 rfl rfl ?_
    refine zj_getI (pc := 47) K lf_X0_141 hs_C rfl dX0_drawOne_47 ?_
    refine zj_irem (pc := 50) K dX0_drawOne_50 (by rw [zj_s_ne _ _ (by omega), r5]; exact nI_ne0 hm (by omega)) ?_
    refine zj_cV1I (pc := 51) K lm_X0_163 hs_C (m_X0_pooledAt (n := (zd_l (zθC h k J C u) c0).length) (p := zp_ix (zd_seed (h (k + 1) 0)) (zd_pool (zθC h k J C u) (h (k + 3)) c0).length) hk (by rw [zj_s_ne _ _ (by omega)]; exact r2.1) hl84 (by rw [zj_s_eq, zz_upd_at, zj_s_ne _ _ (by omega), r5, q1]; exact zp_rem hm (by omega)) (by rw [zj_s_ne _ _ (by omega), zj_s_ne _ _ (by omega), zj_s_ne _ _ (by omega), r4, zp_fl_len, zp_le_congr r3, ← zd_pool_len]; exact zp_ix_lt hm)) (by decide) rfl (Nat.le_of_ble_eq_true rfl) dX0_drawOne_51 ?_
    refine zj_top (x' := (zd_pool (zθC h k J C u) (h (k + 3)) c0).getD (zp_ix (zd_seed (h (k + 1) 0)) (zd_pool (zθC h k J C u) (h (k + 3)) c0).length) 0) (by rw [zj_s_ne _ _ (by omega), zj_s_ne _ _ (by omega), zj_s_ne _ _ (by omega), r4, zp_fl_congr r2.2 r3]; rfl) ?_
    refine zj_istore_n (i := 2) (pc := 54) K dX0_drawOne_54 rfl rfl rfl rfl ?_
    refine zj_aload_n (i := 0) (pc := 55) K dX0_drawOne_55 rfl rfl ?_
    refine zj_getR (pc := 56) K lf_X0_18 hs_C rfl dX0_drawOne_56 ?_
    refine zj_getR (pc := 59) K lf_X0_59 hs_Cd rfl dX0_drawOne_59 ?_
    refine zj_iload_n (i := 1) (pc := 62) K dX0_drawOne_62 rfl rfl ?_
    refine zj_iload_n (i := 2) (pc := 63) K dX0_drawOne_63 rfl rfl ?_
    refine zj_ast (j := c0) (pc := 64) K hs_Ci ex (by omega) (by first | decide | omega) dX0_drawOne_64 ?_
    refine zj_aload_n (i := 0) (pc := 65) K dX0_drawOne_65 rfl rfl ?_
    refine zj_getR (pc := 66) K lf_X0_18 hs_C rfl dX0_drawOne_66 ?_
    refine zj_getR (pc := 69) K lf_X0_52 hs_Cd rfl dX0_drawOne_69 ?_
    refine zj_iload_n (i := 1) (pc := 72) K dX0_drawOne_72 rfl rfl ?_
    refine zj_iconst (v := 1) (pc := 73) K dX0_drawOne_73 (by decide) ?_
    refine zj_ast (j := c0) (pc := 74) K hs_Cs ex (by omega) (by first | decide | omega) dX0_drawOne_74 ?_
    refine zj_iload_n (i := 2) (pc := 75) K dX0_drawOne_75 rfl rfl ?_
    exact zj_iret K Rt dX0_drawOne_76 (⟨_, rfl, rfl, fun a a1 a2 a3 a4 a5 a6 a7 a8 => by rw [zj_s_ne _ _ a3, zj_s_ne _ _ a4, zj_s_ne _ _ a2]; exact r1 a a1 a5 a6 a7 a8, Or.inr ⟨fun e => by rw [e] at hm; exact absurd hm (by decide), rfl, by rw [zj_s_ne _ _ (by omega), zj_s_ne _ _ (by omega), zj_s_eq, q1]; rfl, by rw [zj_s_eq, zj_s_ne _ _ (by omega), zj_s_ne _ _ (by omega), q2], by rw [zj_s_ne _ _ (by omega), zj_s_eq, zj_s_ne _ _ (by omega), q3]⟩⟩)
  · have hm : (zd_pool (zθC h k J C u) (h (k + 3)) c0) = [] := by
      rw [r5] at c_9
      apply List.eq_nil_of_length_eq_zero
      apply Classical.byContradiction
      intro z
      exact c_9 ((nI_ltI (a := 0) (by omega) (by omega)).mpr (by omega))
    refine zj_iconst (v := -1) (pc := 12) K dX0_drawOne_12 (by decide) ?_
    exact zj_iret K Rt dX0_drawOne_13 (⟨-1, rfl, rfl, fun a a1 a2 a3 a4 a5 a6 a7 a8 => r1 a a1 a5 a6 a7 a8, Or.inl ⟨hm, rfl, q1, q2, q3⟩⟩)

set_option maxHeartbeats 4000000 in
set_option maxRecDepth 20000 in
theorem m_X0_drawEveryOpen {l : Launch} {E : zj_E} {h : zj_H} {g : zj_G} {k J C u : Nat} (hk : zj_isC k) (eJ : h 8 6 = nI J) (hJ : J ≤ 9) (eC : h 8 7 = nI C) (hC : C ≤ 14) (eU : h 8 1 = nI u) (hU : u ≤ 20) (hT : ∀ si c b, 0 ≤ zd_t (zθC h k J C u) si c b)  : zj_M l E yX0_drawEveryOpen cX0_drawEveryOpen 3 (some .int) 5 [.ref (E.2.1 k)] h g (fun v h' g' => v = some (.int (nI (zd_all (zθC h k J C u) (h (k + 1) 0) (h (k + 2)) (h (k + 3)) C).1)) ∧ g' = g ∧ (∀ a, a ≠ k → a ≠ k + 1 → a ≠ k + 2 → a ≠ k + 3 → a ≠ k + 6 → a ≠ k + 7 → a ≠ k + 8 → a ≠ k + 9 → h' a = h a) ∧ h' (k + 1) = upd (h (k + 1)) 0 (zd_all (zθC h k J C u) (h (k + 1) 0) (h (k + 2)) (h (k + 3)) C).2.1 ∧ h' (k + 2) = (zd_all (zθC h k J C u) (h (k + 1) 0) (h (k + 2)) (h (k + 3)) C).2.2.1 ∧ h' (k + 3) = (zd_all (zθC h k J C u) (h (k + 1) 0) (h (k + 2)) (h (k + 3)) C).2.2.2) := by
  refine zj_M.of RX0 (by decide) rfl (Nat.le_of_ble_eq_true rfl) ?_
  intro Γ hΓ K Rt
  subst hΓ
  obtain ⟨hs_C, hs_Cd, hs_Cs, hs_Ci, hs_Cb, hs_Cf, hs_Cp, hs_Cl, hs_Cn, hs_Ct⟩ := zj_shC hk
  obtain ⟨hk12, hk22⟩ := zj_C12 hk
  have loop : ∀ (m i : Nat) (x1 x2 : Int32) (q : zj_H), C + 1 ≤ i + m → i ≤ C → (x1 = nI (zd_all (zθC h k J C u) (h (k + 1) 0) (h (k + 2)) (h (k + 3)) i).1) → (x2 = nI i) → (∀ a, a ≠ k → a ≠ k + 1 → a ≠ k + 2 → a ≠ k + 3 → a ≠ k + 6 → a ≠ k + 7 → a ≠ k + 8 → a ≠ k + 9 → q a = h a) → (q (k + 1) = upd (h (k + 1)) 0 (zd_all (zθC h k J C u) (h (k + 1) 0) (h (k + 2)) (h (k + 3)) i).2.1) → (q (k + 2) = (zd_all (zθC h k J C u) (h (k + 1) 0) (h (k + 2)) (h (k + 3)) i).2.2.1) → (q (k + 3) = (zd_all (zθC h k J C u) (h (k + 1) 0) (h (k + 2)) (h (k + 3)) i).2.2.2) → zj_J E Γ 3 4 [(0, .ref (E.2.1 k)), (1, .int x1), (2, .int x2)] [] q g := by
    intro m
    induction m with
    | zero => intro i x1 x2 q  h1 h2; omega
    | succ m ih =>
      intro i x1 x2 q  h1 h2 e1 e2 f1 f2 f3 f4
      have e8 : q 8 = h 8 := f1 8 (by omega) (by omega) (by omega) (by omega) (by omega) (by omega) (by omega) (by omega)
      have e9 : q 9 = h 9 := f1 9 (by omega) (by omega) (by omega) (by omega) (by omega) (by omega) (by omega) (by omega)
      have e10 : q 10 = h 10 := f1 10 (by omega) (by omega) (by omega) (by omega) (by omega) (by omega) (by omega) (by omega)
      have eb : q (k + 4) = h (k + 4) := f1 _ (by omega) (by omega) (by omega) (by omega) (by omega) (by omega) (by omega) (by omega)
      have ea : q (k + 1) 1 = h (k + 1) 1 := by rw [f2]; rfl
      have eC2 : q 8 7 = nI C := by rw [e8]; exact eC
      have eth : zθC q k J C u = (zθC h k J C u) := zθC_congr e8 e9 e10 eb ea
      have hle := zd_all_le (zθC h k J C u) (h (k + 1) 0) (h (k + 2)) (h (k + 3)) i
      refine zj_iload_n (i := 2) (pc := 4) K dX0_drawEveryOpen_4 rfl rfl ?_
      refine zj_aload_n (i := 0) (pc := 5) K dX0_drawEveryOpen_5 rfl rfl ?_
      refine zj_getR (pc := 6) K lf_X0_9 hs_C rfl dX0_drawEveryOpen_6 ?_
      refine zj_getI (pc := 9) K lf_X0_55 hs_D rfl dX0_drawEveryOpen_9 ?_
      refine zj_icmp_ge (tgt := 45) (pc := 12) K dX0_drawEveryOpen_12 (by decide) (fun c_12 => ?_) (fun c_12 => ?_)
      · have hi : i = C := Nat.le_antisymm h2 (zz_ge e2 eC2 (by omega) (by omega) c_12)
        subst hi
        refine zj_iload_n (i := 1) (pc := 45) K dX0_drawEveryOpen_45 rfl rfl ?_
        exact zj_iret K Rt dX0_drawEveryOpen_46 (⟨by rw [e1], rfl, f1, f2, f3, f4⟩)
      · have hi : i < C := zz_nge e2 eC2 (by omega) (by omega) c_12
        refine zj_aload_n (i := 0) (pc := 15) K dX0_drawEveryOpen_15 rfl rfl ?_
        refine zj_getR (pc := 16) K lf_X0_18 hs_C rfl dX0_drawEveryOpen_16 ?_
        refine zj_getR (pc := 19) K lf_X0_52 hs_Cd rfl dX0_drawEveryOpen_19 ?_
        refine zj_iload_n (i := 2) (pc := 22) K dX0_drawEveryOpen_22 rfl rfl ?_
        refine zj_ald (j := _) (pc := 23) K hs_Cs (by first | assumption | rfl) (by first | assumption | omega) (by first | decide | omega) dX0_drawEveryOpen_23 ?_
        refine zj_if_ne (tgt := 39) (pc := 24) K dX0_drawEveryOpen_24 (by decide) (fun c_24 => ?_) (fun c_24 => ?_)
        · rw [f3] at c_24
          have hnd : (zd_all (zθC h k J C u) (h (k + 1) 0) (h (k + 2)) (h (k + 3)) (i + 1)) = (zd_all (zθC h k J C u) (h (k + 1) 0) (h (k + 2)) (h (k + 3)) i) := by rw [zd_all, if_neg (fun z => c_24 z.1)]
          refine zj_iinc (v := 1) (pc := 39) K dX0_drawEveryOpen_39 rfl (by decide) rfl rfl rfl ?_
          refine zj_goto (tgt := 4) (pc := 42) K dX0_drawEveryOpen_42 (by decide) ?_
          first
          | exact ih (i + 1) _ _ _ (by omega) (by omega) (by rw [hnd]; exact e1) (zz_up e2) f1 (by rw [hnd]; exact f2) (by rw [hnd]; exact f3) (by rw [hnd]; exact f4)
          | exact ih (i + 1) _ _ _ (by omega) (by omega) (by rw [hnd]; exact e1) (zz_up e2) (fun a a1 a2 a3 a4 a5 a6 a7 a8 => by rw [zs1 a a1 a2 a3 a4 a5 a6 a7 a8]; exact f1 a a1 a2 a3 a4 a5 a6 a7 a8) (by rw [hnd, zs2]) (by rw [hnd, zs3]) (by rw [hnd, zs4])
          | exact ih (i + 1) _ _ _ (by omega) (by omega) (by rw [hdr, e1]; exact nI_1 _) (zz_up e2) (fun a a1 a2 a3 a4 a5 a6 a7 a8 => by rw [zs1 a a1 a2 a3 a4 a5 a6 a7 a8]; exact f1 a a1 a2 a3 a4 a5 a6 a7 a8) (by rw [hdr, zs2, zz_upd2]; rfl) (by rw [hdr, zs3]) (by rw [hdr, zs4, er]; rfl)
        · rw [f3] at c_24
          refine zj_aload_n (i := 0) (pc := 27) K dX0_drawEveryOpen_27 rfl rfl ?_
          refine zj_iload_n (i := 2) (pc := 28) K dX0_drawEveryOpen_28 rfl rfl ?_
          refine zj_cV1P (pc := 29) K lm_X0_166 hs_C (m_X0_drawOne (J := J) (C := C) (u := u) hk (by rw [e8]; exact eJ) hJ eC2 hC (by rw [e8]; exact eU) hU (by rw [eth]; exact hT) e2 (by omega)) (by decide) rfl (Nat.le_of_ble_eq_true rfl) dX0_drawEveryOpen_29 (fun v q2 g2 hp => ?_)
          obtain ⟨r, rfl, rfl, zs1, hr⟩ := hp
          rw [eth, f4, f2, f3] at hr
          refine zj_iconst (v := -1) (pc := 32) K dX0_drawEveryOpen_32 (by decide) ?_
          refine zj_icmp_eq (tgt := 39) (pc := 33) K dX0_drawEveryOpen_33 (by decide) (fun c_33 => ?_) (fun c_33 => ?_)
          · have hpe : zd_pool (zθC h k J C u) (zd_all (zθC h k J C u) (h (k + 1) 0) (h (k + 2)) (h (k + 3)) i).2.2.2 i = [] := by
              rcases hr with ⟨hr, -⟩ | ⟨hr, er, -⟩
              · exact hr
              · exfalso
                have hm := zz_getD_mem (zp_ix_lt (s := zd_seed (upd (h (k + 1)) 0 (zd_all (zθC h k J C u) (h (k + 1) 0) (h (k + 2)) (h (k + 3)) i).2.1 0)) (List.length_pos_iff.mpr hr))
                rw [← er, c_33] at hm
                exact (zl_ne hJ (zd_pool_mem hm)).1 rfl
            obtain ⟨_, _, zs2, zs3, zs4⟩ := hr.resolve_right (fun z => z.1 hpe)
            have hnd : (zd_all (zθC h k J C u) (h (k + 1) 0) (h (k + 2)) (h (k + 3)) (i + 1)) = (zd_all (zθC h k J C u) (h (k + 1) 0) (h (k + 2)) (h (k + 3)) i) := by rw [zd_all, if_neg (fun z => z.2 hpe)]
            refine zj_iinc (v := 1) (pc := 39) K dX0_drawEveryOpen_39 rfl (by decide) rfl rfl rfl ?_
            refine zj_goto (tgt := 4) (pc := 42) K dX0_drawEveryOpen_42 (by decide) ?_
            first
            | exact ih (i + 1) _ _ _ (by omega) (by omega) (by rw [hnd]; exact e1) (zz_up e2) f1 (by rw [hnd]; exact f2) (by rw [hnd]; exact f3) (by rw [hnd]; exact f4)
            | exact ih (i + 1) _ _ _ (by omega) (by omega) (by rw [hnd]; exact e1) (zz_up e2) (fun a a1 a2 a3 a4 a5 a6 a7 a8 => by rw [zs1 a a1 a2 a3 a4 a5 a6 a7 a8]; exact f1 a a1 a2 a3 a4 a5 a6 a7 a8) (by rw [hnd, zs2]) (by rw [hnd, zs3]) (by rw [hnd, zs4])
            | exact ih (i + 1) _ _ _ (by omega) (by omega) (by rw [hdr, e1]; exact nI_1 _) (zz_up e2) (fun a a1 a2 a3 a4 a5 a6 a7 a8 => by rw [zs1 a a1 a2 a3 a4 a5 a6 a7 a8]; exact f1 a a1 a2 a3 a4 a5 a6 a7 a8) (by rw [hdr, zs2, zz_upd2]; rfl) (by rw [hdr, zs3]) (by rw [hdr, zs4, er]; rfl)
          · have hr2 : r ≠ -1 := c_33
            obtain ⟨hpe, er, zs2, zs3, zs4⟩ := hr.resolve_left (fun z => hr2 z.2.1)
            have hdr := (show (zd_all (zθC h k J C u) (h (k + 1) 0) (h (k + 2)) (h (k + 3)) (i + 1)) = _ by rw [zd_all, if_pos ⟨c_24, hpe⟩])
            refine zj_iinc (v := 1) (pc := 36) K dX0_drawEveryOpen_36 rfl (by decide) rfl rfl rfl ?_
            refine zj_iinc (v := 1) (pc := 39) K dX0_drawEveryOpen_39 rfl (by decide) rfl rfl rfl ?_
            refine zj_goto (tgt := 4) (pc := 42) K dX0_drawEveryOpen_42 (by decide) ?_
            first
            | exact ih (i + 1) _ _ _ (by omega) (by omega) (by rw [hnd]; exact e1) (zz_up e2) f1 (by rw [hnd]; exact f2) (by rw [hnd]; exact f3) (by rw [hnd]; exact f4)
            | exact ih (i + 1) _ _ _ (by omega) (by omega) (by rw [hnd]; exact e1) (zz_up e2) (fun a a1 a2 a3 a4 a5 a6 a7 a8 => by rw [zs1 a a1 a2 a3 a4 a5 a6 a7 a8]; exact f1 a a1 a2 a3 a4 a5 a6 a7 a8) (by rw [hnd, zs2]) (by rw [hnd, zs3]) (by rw [hnd, zs4])
            | exact ih (i + 1) _ _ _ (by omega) (by omega) (by rw [hdr, e1]; exact nI_1 _) (zz_up e2) (fun a a1 a2 a3 a4 a5 a6 a7 a8 => by rw [zs1 a a1 a2 a3 a4 a5 a6 a7 a8]; exact f1 a a1 a2 a3 a4 a5 a6 a7 a8) (by rw [hdr, zs2, zz_upd2]; rfl) (by rw [hdr, zs3]) (by rw [hdr, zs4, er]; rfl)
  show zj_J E Γ 3 0 [(0, .ref (E.2.1 k))] [] h g
  refine zj_iconst (v := 0) (pc := 0) K dX0_drawEveryOpen_0 (by decide) ?_
  refine zj_istore_n (i := 1) (pc := 1) K dX0_drawEveryOpen_1 rfl rfl rfl rfl ?_
  refine zj_iconst (v := 0) (pc := 2) K dX0_drawEveryOpen_2 (by decide) ?_
  refine zj_istore_n (i := 2) (pc := 3) K dX0_drawEveryOpen_3 rfl rfl rfl rfl ?_
  exact loop (C + 1) 0 _ _ _ (by omega) (by omega) rfl rfl (fun _ _ _ _ _ _ _ _ _ => rfl) (zz_upd_self _ _).symm rfl rfl

set_option maxHeartbeats 4000000 in
set_option maxRecDepth 20000 in
theorem m_X0_repair {l : Launch} {E : zj_E} {h : zj_H} {g : zj_G} {k J C u c0 gg : Nat} (hk : zj_isC k) (eJ : h 8 6 = nI J) (hJ : J ≤ 9) (eC : h 8 7 = nI C) (hC : C ≤ 14) {x1 x2 : Int32} (ex1 : x1 = nI c0) (ex2 : x2 = nI gg) (hc : c0 < 14) (hg : gg < 9) : zj_M l E yX0_repair cX0_repair 9 (some .int) 3 [.ref (E.2.1 k), .int x1, .int x2] h g (fun v h' g' => v = some (.int (zc_opt (zr_b (zθC h k J C u) (h (k + 3)) c0 gg).1)) ∧ g' = g ∧ (∀ a, a ≠ k + 2 → a ≠ k + 3 → a ≠ k + 6 → a ≠ k + 7 → h' a = h a) ∧ h' (k + 2) = upd (h (k + 2)) c0 (zr_st (zr_b (zθC h k J C u) (h (k + 3)) c0 gg).1) ∧ h' (k + 3) = upd (h (k + 3)) c0 (zr_si (h (k + 3) c0) gg (zr_b (zθC h k J C u) (h (k + 3)) c0 gg).1)) := by
  refine zj_M.of RX0 (by decide) rfl (Nat.le_of_ble_eq_true rfl) ?_
  intro Γ hΓ K Rt
  subst hΓ
  obtain ⟨hs_C, hs_Cd, hs_Cs, hs_Ci, hs_Cb, hs_Cf, hs_Cp, hs_Cl, hs_Cn, hs_Ct⟩ := zj_shC hk
  obtain ⟨hk12, hk22⟩ := zj_C12 hk
  have loop : ∀ (m i : Nat) (x3 x4 x5 x6 : Int32) (q : zj_H) (fP fL : Nat → Int32), J + 1 ≤ i + m → i ≤ J → (x3 = (zr_stay (h (k + 3) c0) gg)) → (x4 = zc_opt (zr_best (fun j => !bt (h (k + 3) c0) j && (zθC h k J C u).2.2.2.2.2.2.2.2 c0 ((zr_stay (h (k + 3) c0) gg) ||| zz_bit j)) (fun j => zd_t (zθC h k J C u) (h (k + 3)) c0 ((zr_stay (h (k + 3) c0) gg) ||| zz_bit j)) i).1) → (x5 = (zr_best (fun j => !bt (h (k + 3) c0) j && (zθC h k J C u).2.2.2.2.2.2.2.2 c0 ((zr_stay (h (k + 3) c0) gg) ||| zz_bit j)) (fun j => zd_t (zθC h k J C u) (h (k + 3)) c0 ((zr_stay (h (k + 3) c0) gg) ||| zz_bit j)) i).2) → (x6 = nI i) → (∀ a, a ≠ k + 6 → a ≠ k + 7 → q a = h a) → (q (k + 7) = zb_Ln (h (k + 3)) (h 10) (h 9) (h 8 4) (nI c0) J (fun j => if j < 9 then 0 else fL j) C) → (q (k + 6) = zb_Pn (h (k + 3)) (nI c0) J (fun j => if j < 81 then 0 else fP j) C) → zj_J E Γ 9 30 [(0, .ref (E.2.1 k)), (1, .int x1), (2, .int x2), (3, .int x3), (4, .int x4), (5, .int x5), (6, .int x6)] [] q g := by
    intro m
    induction m with
    | zero => intro i x3 x4 x5 x6 q fP fL h1 h2; omega
    | succ m ih =>
      intro i x3 x4 x5 x6 q fP fL h1 h2 e3 e4 e5 e6 zs1 zs2 zs3
      have eJ2 : q 8 6 = nI J := by rw [zs1 8 (by omega) (by omega)]; exact eJ
      have e8 : q 8 = h 8 := zs1 _ (by omega) (by omega)
      have esi : q (k + 3) = h (k + 3) := zs1 _ (by omega) (by omega)
      have eba : q (k + 4) = h (k + 4) := zs1 _ (by omega) (by omega)
      have ed : q (k + 1) = h (k + 1) := zs1 _ (by omega) (by omega)
      refine zj_iload (pc := 30) K dX0_repair_30 rfl ?_
      refine zj_aload_n (i := 0) (pc := 32) K dX0_repair_32 rfl rfl ?_
      refine zj_getR (pc := 33) K lf_X0_9 hs_C rfl dX0_repair_33 ?_
      refine zj_getI (pc := 36) K lf_X0_86 hs_D rfl dX0_repair_36 ?_
      refine zj_icmp_ge (tgt := 112) (pc := 39) K dX0_repair_39 (by decide) (fun c_39 => ?_) (fun c_39 => ?_)
      · have hi : i = J := Nat.le_antisymm h2 (zz_ge e6 eJ2 (by omega) (by omega) c_39)
        refine zj_aload_n (i := 0) (pc := 112) K dX0_repair_112 rfl rfl ?_
        refine zj_getR (pc := 113) K lf_X0_18 hs_C rfl dX0_repair_113 ?_
        refine zj_getR (pc := 116) K lf_X0_59 hs_Cd rfl dX0_repair_116 ?_
        refine zj_iload_n (i := 1) (pc := 119) K dX0_repair_119 rfl rfl ?_
        refine zj_iload (pc := 120) K dX0_repair_120 rfl ?_
        refine zj_iconst (v := -1) (pc := 122) K dX0_repair_122 (by decide) ?_
        refine zj_icmp_ne (tgt := 130) (pc := 123) K dX0_repair_123 (by decide) (fun c_123 => ?_) (fun c_123 => ?_)
        · have hso : ∃ f, (zr_b (zθC h k J C u) (h (k + 3)) c0 gg).1 = some f := by
            cases hq : (zr_b (zθC h k J C u) (h (k + 3)) c0 gg).1 with
            | none => exact absurd (by rw [e4, hi, show zr_best (fun j => !bt (h (k + 3) c0) j && (zθC h k J C u).2.2.2.2.2.2.2.2 c0 ((zr_stay (h (k + 3) c0) gg) ||| zz_bit j)) (fun j => zd_t (zθC h k J C u) (h (k + 3)) c0 ((zr_stay (h (k + 3) c0) gg) ||| zz_bit j)) J = (zr_b (zθC h k J C u) (h (k + 3)) c0 gg) from rfl, hq]; rfl) c_123
            | some f => exact ⟨f, rfl⟩
          obtain ⟨f, hf⟩ := hso
          refine zj_iload_n (i := 3) (pc := 130) K dX0_repair_130 rfl rfl ?_
          refine zj_iconst (v := 1) (pc := 131) K dX0_repair_131 (by decide) ?_
          refine zj_iload (pc := 132) K dX0_repair_132 rfl ?_
          refine zj_ishl (pc := 134) K dX0_repair_134 ?_
          refine zj_ior (pc := 135) K dX0_repair_135 ?_
          refine zj_ast (j := c0) (pc := 136) K hs_Ci ex1 hc (by first | decide | omega) dX0_repair_136 ?_
          refine zj_aload_n (i := 0) (pc := 137) K dX0_repair_137 rfl rfl ?_
          refine zj_getR (pc := 138) K lf_X0_18 hs_C rfl dX0_repair_138 ?_
          refine zj_getR (pc := 141) K lf_X0_52 hs_Cd rfl dX0_repair_141 ?_
          refine zj_iload_n (i := 1) (pc := 144) K dX0_repair_144 rfl rfl ?_
          refine zj_iload (pc := 145) K dX0_repair_145 rfl ?_
          refine zj_iconst (v := -1) (pc := 147) K dX0_repair_147 (by decide) ?_
          refine zj_icmp_ne (tgt := 155) (pc := 148) K dX0_repair_148 (by decide) (fun c_148 => ?_) (fun c_148 => ?_)
          · refine zj_iconst (v := 1) (pc := 155) K dX0_repair_155 (by decide) ?_
            refine zj_ast (j := c0) (pc := 156) K hs_Cs ex1 hc (by first | decide | omega) dX0_repair_156 ?_
            refine zj_iload (pc := 157) K dX0_repair_157 rfl ?_
            exact zj_iret K Rt dX0_repair_159 (by
              have ez : zc_opt (zr_b (zθC h k J C u) (h (k + 3)) c0 gg).1 = x4 := by rw [e4, hi]; rfl
              refine ⟨by rw [ez], rfl, fun a a1 a2 a3 a4 => by rw [zj_s_ne _ _ a1, zj_s_ne _ _ a2]; exact zs1 a a3 a4, ?_, ?_⟩
              · rw [zj_s_eq, zj_s_ne _ _ (by omega), zs1 _ (by omega) (by omega)]
                first
                | (rw [hf]; rfl)
                | (exfalso; exact c_148 c_123)
                | (exfalso; exact c_123 c_148)
              · rw [zj_s_ne _ _ (by omega), zj_s_eq, esi]
                first
                | (rw [hf, e3, ← ez, hf]; rfl)
                | (rw [hf]; rfl))
          · refine zj_iconst (v := 0) (pc := 151) K dX0_repair_151 (by decide) ?_
            refine zj_goto (tgt := 156) (pc := 152) K dX0_repair_152 (by decide) ?_
            refine zj_ast (j := c0) (pc := 156) K hs_Cs ex1 hc (by first | decide | omega) dX0_repair_156 ?_
            refine zj_iload (pc := 157) K dX0_repair_157 rfl ?_
            exact zj_iret K Rt dX0_repair_159 (by
              have ez : zc_opt (zr_b (zθC h k J C u) (h (k + 3)) c0 gg).1 = x4 := by rw [e4, hi]; rfl
              refine ⟨by rw [ez], rfl, fun a a1 a2 a3 a4 => by rw [zj_s_ne _ _ a1, zj_s_ne _ _ a2]; exact zs1 a a3 a4, ?_, ?_⟩
              · rw [zj_s_eq, zj_s_ne _ _ (by omega), zs1 _ (by omega) (by omega)]
                first
                | (rw [hf]; rfl)
                | (exfalso; exact c_148 c_123)
                | (exfalso; exact c_123 c_148)
              · rw [zj_s_ne _ _ (by omega), zj_s_eq, esi]
                first
                | (rw [hf, e3, ← ez, hf]; rfl)
                | (rw [hf]; rfl))
        · have hf : (zr_b (zθC h k J C u) (h (k + 3)) c0 gg).1 = none := zc_opt_none (fun f z => by have := (zr_best_lt z).1; have h9 : f < J := this; omega) (by have e4c := e4; rw [hi] at e4c; rw [show (zr_b (zθC h k J C u) (h (k + 3)) c0 gg) = zr_best (fun j => !bt (h (k + 3) c0) j && (zθC h k J C u).2.2.2.2.2.2.2.2 c0 ((zr_stay (h (k + 3) c0) gg) ||| zz_bit j)) (fun j => zd_t (zθC h k J C u) (h (k + 3)) c0 ((zr_stay (h (k + 3) c0) gg) ||| zz_bit j)) J from rfl, ← e4c]; exact c_123)
          refine zj_iconst (v := 0) (pc := 126) K dX0_repair_126 (by decide) ?_
          refine zj_goto (tgt := 136) (pc := 127) K dX0_repair_127 (by decide) ?_
          refine zj_ast (j := c0) (pc := 136) K hs_Ci ex1 hc (by first | decide | omega) dX0_repair_136 ?_
          refine zj_aload_n (i := 0) (pc := 137) K dX0_repair_137 rfl rfl ?_
          refine zj_getR (pc := 138) K lf_X0_18 hs_C rfl dX0_repair_138 ?_
          refine zj_getR (pc := 141) K lf_X0_52 hs_Cd rfl dX0_repair_141 ?_
          refine zj_iload_n (i := 1) (pc := 144) K dX0_repair_144 rfl rfl ?_
          refine zj_iload (pc := 145) K dX0_repair_145 rfl ?_
          refine zj_iconst (v := -1) (pc := 147) K dX0_repair_147 (by decide) ?_
          refine zj_icmp_ne (tgt := 155) (pc := 148) K dX0_repair_148 (by decide) (fun c_148 => ?_) (fun c_148 => ?_)
          · refine zj_iconst (v := 1) (pc := 155) K dX0_repair_155 (by decide) ?_
            refine zj_ast (j := c0) (pc := 156) K hs_Cs ex1 hc (by first | decide | omega) dX0_repair_156 ?_
            refine zj_iload (pc := 157) K dX0_repair_157 rfl ?_
            exact zj_iret K Rt dX0_repair_159 (by
              have ez : zc_opt (zr_b (zθC h k J C u) (h (k + 3)) c0 gg).1 = x4 := by rw [e4, hi]; rfl
              refine ⟨by rw [ez], rfl, fun a a1 a2 a3 a4 => by rw [zj_s_ne _ _ a1, zj_s_ne _ _ a2]; exact zs1 a a3 a4, ?_, ?_⟩
              · rw [zj_s_eq, zj_s_ne _ _ (by omega), zs1 _ (by omega) (by omega)]
                first
                | (rw [hf]; rfl)
                | (exfalso; exact c_148 c_123)
                | (exfalso; exact c_123 c_148)
              · rw [zj_s_ne _ _ (by omega), zj_s_eq, esi]
                first
                | (rw [hf, e3, ← ez, hf]; rfl)
                | (rw [hf]; rfl))
          · refine zj_iconst (v := 0) (pc := 151) K dX0_repair_151 (by decide) ?_
            refine zj_goto (tgt := 156) (pc := 152) K dX0_repair_152 (by decide) ?_
            refine zj_ast (j := c0) (pc := 156) K hs_Cs ex1 hc (by first | decide | omega) dX0_repair_156 ?_
            refine zj_iload (pc := 157) K dX0_repair_157 rfl ?_
            exact zj_iret K Rt dX0_repair_159 (by
              have ez : zc_opt (zr_b (zθC h k J C u) (h (k + 3)) c0 gg).1 = x4 := by rw [e4, hi]; rfl
              refine ⟨by rw [ez], rfl, fun a a1 a2 a3 a4 => by rw [zj_s_ne _ _ a1, zj_s_ne _ _ a2]; exact zs1 a a3 a4, ?_, ?_⟩
              · rw [zj_s_eq, zj_s_ne _ _ (by omega), zs1 _ (by omega) (by omega)]
                first
                | (rw [hf]; rfl)
                | (exfalso; exact c_148 c_123)
                | (exfalso; exact c_123 c_148)
              · rw [zj_s_ne _ _ (by omega), zj_s_eq, esi]
                first
                | (rw [hf, e3, ← ez, hf]; rfl)
                | (rw [hf]; rfl))
      · have hi : i < J := zz_nge e6 eJ2 (by omega) (by omega) c_39
        refine zj_iload_n (i := 3) (pc := 42) K dX0_repair_42 rfl rfl ?_
        refine zj_iconst (v := 1) (pc := 43) K dX0_repair_43 (by decide) ?_
        refine zj_iload (pc := 44) K dX0_repair_44 rfl ?_
        refine zj_ishl (pc := 46) K dX0_repair_46 ?_
        refine zj_ior (pc := 47) K dX0_repair_47 ?_
        refine zj_istore (pc := 48) K dX0_repair_48 rfl rfl rfl ?_
        refine zj_aload_n (i := 0) (pc := 50) K dX0_repair_50 rfl rfl ?_
        refine zj_getR (pc := 51) K lf_X0_18 hs_C rfl dX0_repair_51 ?_
        refine zj_getR (pc := 54) K lf_X0_59 hs_Cd rfl dX0_repair_54 ?_
        refine zj_iload_n (i := 1) (pc := 57) K dX0_repair_57 rfl rfl ?_
        refine zj_ald (j := c0) (pc := 58) K hs_Ci ex1 hc (by first | decide | omega) dX0_repair_58 ?_
        refine zj_iload (pc := 59) K dX0_repair_59 rfl ?_
        refine zj_cN2I (pc := 61) K lm_X0_62 (m_X7_has (by assumption) (by omega)) (by decide) rfl (Nat.le_of_ble_eq_true rfl) dX0_repair_61 ?_
        refine zj_if_ne (tgt := 106) (pc := 64) K dX0_repair_64 (by decide) (fun c_64 => ?_) (fun c_64 => ?_)
        · replace c_64 := zz_n0.mp c_64
          rw [esi] at c_64
          have hnd : zr_best (fun j => !bt (h (k + 3) c0) j && (zθC h k J C u).2.2.2.2.2.2.2.2 c0 ((zr_stay (h (k + 3) c0) gg) ||| zz_bit j)) (fun j => zd_t (zθC h k J C u) (h (k + 3)) c0 ((zr_stay (h (k + 3) c0) gg) ||| zz_bit j)) (i + 1) = zr_best (fun j => !bt (h (k + 3) c0) j && (zθC h k J C u).2.2.2.2.2.2.2.2 c0 ((zr_stay (h (k + 3) c0) gg) ||| zz_bit j)) (fun j => zd_t (zθC h k J C u) (h (k + 3)) c0 ((zr_stay (h (k + 3) c0) gg) ||| zz_bit j)) i := by rw [zr_best, if_neg (fun z => by have := z.1; simp [c_64] at this)]
          refine zj_iinc (v := 1) (pc := 106) K dX0_repair_106 rfl (by decide) rfl rfl rfl ?_
          refine zj_goto (tgt := 30) (pc := 109) K dX0_repair_109 (by decide) ?_
          refine zj_pick [0, 1, 2, 3, 4, 5, 6] ?_
          first
          | exact ih (i + 1) _ _ _ _ _ fP fL (by omega) (by omega) e3 (by rw [hnd]; exact e4) (by rw [hnd]; exact e5) (zz_up e6) zs1 zs2 zs3
          | exact ih (i + 1) _ _ _ _ _ fP fL (by omega) (by omega) e3 (by rw [hdr]; exact e6) (by rw [hdr]; exact ht) (zz_up e6) zs1 zs2 zs3
        · replace c_64 := zz_i0.mp c_64
          rw [esi] at c_64
          refine zj_aload_n (i := 0) (pc := 67) K dX0_repair_67 rfl rfl ?_
          refine zj_iload_n (i := 1) (pc := 68) K dX0_repair_68 rfl rfl ?_
          refine zj_iload (pc := 69) K dX0_repair_69 rfl ?_
          refine zj_cV2I (pc := 71) K lm_X0_128 hs_C (m_X0_isLawful hk (by assumption) (by omega)) (by decide) rfl (Nat.le_of_ble_eq_true rfl) dX0_repair_71 ?_
          refine zj_if_eq (tgt := 106) (pc := 74) K dX0_repair_74 (by decide) (fun c_74 => ?_) (fun c_74 => ?_)
          · replace c_74 := zz_i0.mp c_74
            rw [eba, ed, e8, e3, e6] at c_74
            have c_74 : (zθC h k J C u).2.2.2.2.2.2.2.2 c0 ((zr_stay (h (k + 3) c0) gg) ||| zz_bit i) = false := c_74
            have hnd : zr_best (fun j => !bt (h (k + 3) c0) j && (zθC h k J C u).2.2.2.2.2.2.2.2 c0 ((zr_stay (h (k + 3) c0) gg) ||| zz_bit j)) (fun j => zd_t (zθC h k J C u) (h (k + 3)) c0 ((zr_stay (h (k + 3) c0) gg) ||| zz_bit j)) (i + 1) = zr_best (fun j => !bt (h (k + 3) c0) j && (zθC h k J C u).2.2.2.2.2.2.2.2 c0 ((zr_stay (h (k + 3) c0) gg) ||| zz_bit j)) (fun j => zd_t (zθC h k J C u) (h (k + 3)) c0 ((zr_stay (h (k + 3) c0) gg) ||| zz_bit j)) i := by rw [zr_best, if_neg (fun z => by have := z.1; simp [c_74] at this)]
            refine zj_iinc (v := 1) (pc := 106) K dX0_repair_106 rfl (by decide) rfl rfl rfl ?_
            refine zj_goto (tgt := 30) (pc := 109) K dX0_repair_109 (by decide) ?_
            refine zj_pick [0, 1, 2, 3, 4, 5, 6] ?_
            first
            | exact ih (i + 1) _ _ _ _ _ fP fL (by omega) (by omega) e3 (by rw [hnd]; exact e4) (by rw [hnd]; exact e5) (zz_up e6) zs1 zs2 zs3
            | exact ih (i + 1) _ _ _ _ _ fP fL (by omega) (by omega) e3 (by rw [hdr]; exact e6) (by rw [hdr]; exact ht) (zz_up e6) zs1 zs2 zs3
          · replace c_74 := zz_n0.mp c_74
            rw [eba, ed, e8, e3, e6] at c_74
            have c_74 : (zθC h k J C u).2.2.2.2.2.2.2.2 c0 ((zr_stay (h (k + 3) c0) gg) ||| zz_bit i) = true := c_74
            have hcon : (fun j => !bt (h (k + 3) c0) j && (zθC h k J C u).2.2.2.2.2.2.2.2 c0 ((zr_stay (h (k + 3) c0) gg) ||| zz_bit j)) i = true := by simp [c_64, c_74]
            have ht : q 8 2 * zt_cp (q (k + 6)) (x3 ||| (1 : Int32) <<< (x6 &&& 31)) J + q 8 3 * zt_cl (q (k + 7)) (x3 ||| (1 : Int32) <<< (x6 &&& 31)) J = (fun j => zd_t (zθC h k J C u) (h (k + 3)) c0 ((zr_stay (h (k + 3) c0) gg) ||| zz_bit j)) i := by rw [e8, zs_ten_of hJ zs3 zs2, e3, e6]; rfl
            refine zj_aload_n (i := 0) (pc := 77) K dX0_repair_77 rfl rfl ?_
            refine zj_iload (pc := 78) K dX0_repair_78 rfl ?_
            refine zj_cV1I (pc := 80) K lm_X0_138 hs_C (m_X0_tensionOf hk eJ2 hJ) (by decide) rfl (Nat.le_of_ble_eq_true rfl) dX0_repair_80 ?_
            refine zj_istore (pc := 83) K dX0_repair_83 rfl rfl rfl ?_
            refine zj_iload (pc := 85) K dX0_repair_85 rfl ?_
            refine zj_iconst (v := -1) (pc := 87) K dX0_repair_87 (by decide) ?_
            refine zj_icmp_eq (tgt := 98) (pc := 88) K dX0_repair_88 (by decide) (fun c_88 => ?_) (fun c_88 => ?_)
            · have hno : (zr_best (fun j => !bt (h (k + 3) c0) j && (zθC h k J C u).2.2.2.2.2.2.2.2 c0 ((zr_stay (h (k + 3) c0) gg) ||| zz_bit j)) (fun j => zd_t (zθC h k J C u) (h (k + 3)) c0 ((zr_stay (h (k + 3) c0) gg) ||| zz_bit j)) i).1 = none := zc_opt_none (fun f z => by have := (zr_best_lt z).1; omega) (by rw [← e4]; exact c_88)
              have hdr : zr_best (fun j => !bt (h (k + 3) c0) j && (zθC h k J C u).2.2.2.2.2.2.2.2 c0 ((zr_stay (h (k + 3) c0) gg) ||| zz_bit j)) (fun j => zd_t (zθC h k J C u) (h (k + 3)) c0 ((zr_stay (h (k + 3) c0) gg) ||| zz_bit j)) (i + 1) = (some i, (fun j => zd_t (zθC h k J C u) (h (k + 3)) c0 ((zr_stay (h (k + 3) c0) gg) ||| zz_bit j)) i) := by rw [zr_best, if_pos ⟨hcon, Or.inl hno⟩]
              refine zj_iload (pc := 98) K dX0_repair_98 rfl ?_
              refine zj_istore (pc := 100) K dX0_repair_100 rfl rfl rfl ?_
              refine zj_iload (pc := 102) K dX0_repair_102 rfl ?_
              refine zj_istore (pc := 104) K dX0_repair_104 rfl rfl rfl ?_
              refine zj_iinc (v := 1) (pc := 106) K dX0_repair_106 rfl (by decide) rfl rfl rfl ?_
              refine zj_goto (tgt := 30) (pc := 109) K dX0_repair_109 (by decide) ?_
              refine zj_pick [0, 1, 2, 3, 4, 5, 6] ?_
              first
              | exact ih (i + 1) _ _ _ _ _ fP fL (by omega) (by omega) e3 (by rw [hnd]; exact e4) (by rw [hnd]; exact e5) (zz_up e6) zs1 zs2 zs3
              | exact ih (i + 1) _ _ _ _ _ fP fL (by omega) (by omega) e3 (by rw [hdr]; exact e6) (by rw [hdr]; exact ht) (zz_up e6) zs1 zs2 zs3
            · refine zj_iload (pc := 91) K dX0_repair_91 rfl ?_
              refine zj_iload (pc := 93) K dX0_repair_93 rfl ?_
              refine zj_icmp_ge (tgt := 106) (pc := 95) K dX0_repair_95 (by decide) (fun c_95 => ?_) (fun c_95 => ?_)
              · rw [ht, e5] at c_95
                have hnd : zr_best (fun j => !bt (h (k + 3) c0) j && (zθC h k J C u).2.2.2.2.2.2.2.2 c0 ((zr_stay (h (k + 3) c0) gg) ||| zz_bit j)) (fun j => zd_t (zθC h k J C u) (h (k + 3)) c0 ((zr_stay (h (k + 3) c0) gg) ||| zz_bit j)) (i + 1) = zr_best (fun j => !bt (h (k + 3) c0) j && (zθC h k J C u).2.2.2.2.2.2.2.2 c0 ((zr_stay (h (k + 3) c0) gg) ||| zz_bit j)) (fun j => zd_t (zθC h k J C u) (h (k + 3)) c0 ((zr_stay (h (k + 3) c0) gg) ||| zz_bit j)) i := by rw [zr_best, if_neg (fun z => z.2.elim (fun y => c_88 (by rw [e4, y]; rfl)) (fun y => absurd c_95 (Int32.not_le.mpr y)))]
                refine zj_iinc (v := 1) (pc := 106) K dX0_repair_106 rfl (by decide) rfl rfl rfl ?_
                refine zj_goto (tgt := 30) (pc := 109) K dX0_repair_109 (by decide) ?_
                refine zj_pick [0, 1, 2, 3, 4, 5, 6] ?_
                first
                | exact ih (i + 1) _ _ _ _ _ fP fL (by omega) (by omega) e3 (by rw [hnd]; exact e4) (by rw [hnd]; exact e5) (zz_up e6) zs1 zs2 zs3
                | exact ih (i + 1) _ _ _ _ _ fP fL (by omega) (by omega) e3 (by rw [hdr]; exact e6) (by rw [hdr]; exact ht) (zz_up e6) zs1 zs2 zs3
              · rw [ht, e5] at c_95
                have hdr : zr_best (fun j => !bt (h (k + 3) c0) j && (zθC h k J C u).2.2.2.2.2.2.2.2 c0 ((zr_stay (h (k + 3) c0) gg) ||| zz_bit j)) (fun j => zd_t (zθC h k J C u) (h (k + 3)) c0 ((zr_stay (h (k + 3) c0) gg) ||| zz_bit j)) (i + 1) = (some i, (fun j => zd_t (zθC h k J C u) (h (k + 3)) c0 ((zr_stay (h (k + 3) c0) gg) ||| zz_bit j)) i) := by rw [zr_best, if_pos ⟨hcon, Or.inr (Int32.not_le.mp c_95)⟩]
                refine zj_iload (pc := 98) K dX0_repair_98 rfl ?_
                refine zj_istore (pc := 100) K dX0_repair_100 rfl rfl rfl ?_
                refine zj_iload (pc := 102) K dX0_repair_102 rfl ?_
                refine zj_istore (pc := 104) K dX0_repair_104 rfl rfl rfl ?_
                refine zj_iinc (v := 1) (pc := 106) K dX0_repair_106 rfl (by decide) rfl rfl rfl ?_
                refine zj_goto (tgt := 30) (pc := 109) K dX0_repair_109 (by decide) ?_
                refine zj_pick [0, 1, 2, 3, 4, 5, 6] ?_
                first
                | exact ih (i + 1) _ _ _ _ _ fP fL (by omega) (by omega) e3 (by rw [hnd]; exact e4) (by rw [hnd]; exact e5) (zz_up e6) zs1 zs2 zs3
                | exact ih (i + 1) _ _ _ _ _ fP fL (by omega) (by omega) e3 (by rw [hdr]; exact e6) (by rw [hdr]; exact ht) (zz_up e6) zs1 zs2 zs3
  show zj_J E Γ 9 0 [(0, .ref (E.2.1 k)), (1, .int x1), (2, .int x2)] [] h g
  refine zj_aload_n (i := 0) (pc := 0) K dX0_repair_0 rfl rfl ?_
  refine zj_getR (pc := 1) K lf_X0_18 hs_C rfl dX0_repair_1 ?_
  refine zj_getR (pc := 4) K lf_X0_59 hs_Cd rfl dX0_repair_4 ?_
  refine zj_iload_n (i := 1) (pc := 7) K dX0_repair_7 rfl rfl ?_
  refine zj_ald (j := c0) (pc := 8) K hs_Ci ex1 hc (by first | decide | omega) dX0_repair_8 ?_
  refine zj_iconst (v := 1) (pc := 9) K dX0_repair_9 (by decide) ?_
  refine zj_iload_n (i := 2) (pc := 10) K dX0_repair_10 rfl rfl ?_
  refine zj_ishl (pc := 11) K dX0_repair_11 ?_
  refine zj_iconst (v := -1) (pc := 12) K dX0_repair_12 (by decide) ?_
  refine zj_ixor (pc := 13) K dX0_repair_13 ?_
  refine zj_iand (pc := 14) K dX0_repair_14 ?_
  refine zj_istore_n (i := 3) (pc := 15) K dX0_repair_15 rfl rfl rfl rfl ?_
  refine zj_aload_n (i := 0) (pc := 16) K dX0_repair_16 rfl rfl ?_
  refine zj_iload_n (i := 1) (pc := 17) K dX0_repair_17 rfl rfl ?_
  refine zj_cV1P (pc := 18) K lm_X0_135 hs_C (m_X0_countBenches hk eJ hJ eC hC) (by decide) rfl (Nat.le_of_ble_eq_true rfl) dX0_repair_18 (fun v q g1 hp => ?_)
  obtain ⟨rfl, rfl, zs1, zs2, zs3⟩ := hp
  rw [ex1] at zs2 zs3
  refine zj_iconst (v := -1) (pc := 21) K dX0_repair_21 (by decide) ?_
  refine zj_istore (pc := 22) K dX0_repair_22 rfl rfl rfl ?_
  refine zj_iconst (v := 0) (pc := 24) K dX0_repair_24 (by decide) ?_
  refine zj_istore (pc := 25) K dX0_repair_25 rfl rfl rfl ?_
  refine zj_iconst (v := 0) (pc := 27) K dX0_repair_27 (by decide) ?_
  refine zj_istore (pc := 28) K dX0_repair_28 rfl rfl rfl ?_
  exact loop (J + 1) 0 _ _ _ _ _ _ _ (by omega) (by omega) (by rw [ex2]; rfl) rfl rfl rfl zs1 zs2 zs3
