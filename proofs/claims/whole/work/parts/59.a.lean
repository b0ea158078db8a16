-- the class's reader: its cells against the TOKEN that stands next and the draft
def zu_tq (h : zj_H) (t : Nat → Int32) (n : Nat) (q : zuK) : Prop := h 3 4 = nI q.2.1 ∧ h 3 5 = nI q.2.2.1 ∧ h 3 6 = nI q.1 ∧ (q.1 = 3 → h 3 7 = q.2.2.2) ∧ zu_tk t n q
def zu_C (h : zj_H) (t : Nat → Int32) (n : Nat) (r : zuR) : Prop := match r with
  | .inl (k, p) => h 3 2 = nI k ∧ 1 ≤ k ∧ k ≤ 4 ∧ h 3 4 = nI p
  | .inr (q, _) => h 3 2 = 0 ∧ zu_tq h t n q
def zu_d (h : zj_H) (w : zuW) : Prop := h 4 0 = w 4 ∧ h 4 1 = w 0 ∧ h 4 2 = w 1 ∧ h 4 3 = w 2 ∧ h 4 4 = w 3 ∧ h 4 5 = (if w 6 = 0 then 1 else w 6) ∧ h 3 8 = zz_i (decide (¬ w 6 = 0)) ∧ h 4 6 = w 7 ∧ h 4 7 = w 18 ∧ (∀ j, j < (w 7).toNatClampNeg → h 5 j = w (8 + j)) ∧ (∀ c, c < (w 18).toNatClampNeg → h 6 c = w (19 + c)) ∧ (∀ c, c < (w 18).toNatClampNeg → h 7 c = w (33 + c))
def zu_D (h : zj_H) (r : zuR) : Prop := match r with
  | .inl _ => True
  | .inr (_, w) => zu_d h w
/-- how many judges and cases a row has, and what is not told yet -/
def zu_jc (w : zuW) : Prop := ∃ J C, J ≤ 9 ∧ C ≤ 14 ∧ w 7 = nI J ∧ w 18 = nI C ∧ 0 ≤ w 6 ∧ ∀ c, C ≤ c → c < 14 → w (33 + c) = 0
def zu_fr (h h' : zj_H) : Prop := ∀ a, (a < 3 ∨ 8 ≤ a) → h' a = h a
def zu_S (h h' : zj_H) (t : Nat → Int32) (n : Nat) (l : Int32) (r : zuR) : Prop := zu_fr h h' ∧ h' 3 3 = l ∧ zu_C h' t n r ∧ zu_D h' r
theorem zu_fr.tr {h h1 h2 : zj_H} (a : zu_fr h h1) (b : zu_fr h1 h2) : zu_fr h h2 := fun c hc => (b c hc).trans (a c hc)
theorem zu_S.tr {h h1 h2 : zj_H} {t : Nat → Int32} {n : Nat} {l : Int32} {r : zuR} (a : zu_fr h h1) (b : zu_S h1 h2 t n l r) : zu_S h h2 t n l r := ⟨a.tr b.1, b.2⟩
theorem zu_tq_c {h h' : zj_H} {t : Nat → Int32} {n : Nat} {q : zuK} (e3 : ∀ b, b = 4 ∨ b = 5 ∨ b = 6 ∨ b = 7 → h' 3 b = h 3 b) (hq : zu_tq h t n q) : zu_tq h' t n q := by
  obtain ⟨a1, a2, a3, a4, a5⟩ := hq
  refine ⟨?_, ?_, ?_, fun z => ?_, a5⟩
  · rw [e3 4 (by decide)]; exact a1
  · rw [e3 5 (by decide)]; exact a2
  · rw [e3 6 (by decide)]; exact a3
  · rw [e3 7 (by decide)]; exact a4 z
theorem zu_C_c {h h' : zj_H} {t : Nat → Int32} {n : Nat} {r : zuR} (e3 : ∀ b, b = 2 ∨ b = 4 ∨ b = 5 ∨ b = 6 ∨ b = 7 → h' 3 b = h 3 b) (hC : zu_C h t n r) : zu_C h' t n r := by
  match r, hC with
  | .inl (k, p), hC => exact ⟨by rw [e3 2 (by decide)]; exact hC.1, hC.2.1, hC.2.2.1, by rw [e3 4 (by decide)]; exact hC.2.2.2⟩
  | .inr (q, w), hC => exact ⟨by rw [e3 2 (by decide)]; exact hC.1, zu_tq_c (fun b hb => e3 b (Or.inr hb)) hC.2⟩
theorem zu_d_c {h h' : zj_H} {w : zuW} (e3 : h' 3 8 = h 3 8) (e4 : h' 4 = h 4) (e5 : h' 5 = h 5) (e6 : h' 6 = h 6) (e7 : h' 7 = h 7) (hd : zu_d h w) : zu_d h' w := by
  unfold zu_d at hd ⊢
  rw [e3, e4, e5, e6, e7]; exact hd
theorem zu_D_c {h h' : zj_H} {r : zuR} (e3 : h' 3 8 = h 3 8) (e4 : h' 4 = h 4) (e5 : h' 5 = h 5) (e6 : h' 6 = h 6) (e7 : h' 7 = h 7) (hd : zu_D h r) : zu_D h' r := by
  match r, hd with
  | .inl _, _ => trivial
  | .inr (q, w), hd => exact zu_d_c e3 e4 e5 e6 e7 hd
/-- a step of the class's reader, by places -/
theorem zu_stepP {h h' : zj_H} {g g' : zj_G} {v : Option Value} {t : Nat → Int32} {n a : Nat} (et : h 2 = t) (ha : a ≤ n) (hp : v = none ∧ g' = g ∧ (∀ b, b ≠ 3 → h' b = h b) ∧ (∀ b, (b < 4 ∨ 8 ≤ b) → h' 3 b = h 3 b) ∧ ∃ K s e, zw_tok (h 2) n a K s e (h' 3 7) ∧ h' 3 4 = nI s ∧ h' 3 5 = nI e ∧ h' 3 6 = nI K ∧ e ≤ n) :
    v = none ∧ g' = g ∧ (∀ b, b ≠ 3 → h' b = h b) ∧ (∀ b, (b < 4 ∨ 8 ≤ b) → h' 3 b = h 3 b) ∧ zu_tq h' t n (zw_T t n a) := by
  subst et
  obtain ⟨p1, p2, p3, p4, K, s, e, p5, p6, p7, p8, p9⟩ := hp
  obtain ⟨u0, u1, u2, u3, u4⟩ := zw_T_of p5
  refine ⟨p1, p2, p3, p4, ?_, ?_, ?_, fun z => ?_, ?_⟩
  · rw [u2]; exact p6
  · rw [u3]; exact p7
  · rw [u1]; exact p8
  · rw [u1] at z; exact (u4 z).symm
  · exact ⟨a, ha, u0⟩
/-- what takeNumber leaves -/
def zu_N (h h' : zj_H) (x : Int32) (t : Nat → Int32) (n : Nat) (lo hi : Int32) (k : Nat) (r : zuR) : Prop :=
  (∀ a, a ≠ 3 → h' a = h a) ∧ h' 3 3 = h 3 3 ∧ h' 3 8 = h 3 8 ∧ zu_C h' t n (zu_num (zw_T t n) lo hi k r) ∧ ∀ q w, zu_num (zw_T t n) lo hi k r = .inr (q, w) → ∃ q0 w0, r = .inr (q0, w0) ∧ w = upd w0 k x ∧ lo ≤ x ∧ x ≤ hi
theorem zu_num_3 {T : Nat → zuK} {lo hi : Int32} {k : Nat} {q : zuK} {w : zuW} (h : q.1 = 3) (h1 : ¬ q.2.2.2 < lo) (h2 : q.2.2.2 ≤ hi) : zu_num T lo hi k (.inr (q, w)) = .inr (T q.2.2.1, upd w k q.2.2.2) := by
  show (if q.1 = 3 then _ else _) = _
  rw [if_pos h, if_pos (by rw [decide_eq_true (Int32.not_lt.mp h1), decide_eq_true h2]; rfl)]
theorem zu_num_2 {T : Nat → zuK} {lo hi : Int32} {k : Nat} {q : zuK} {w : zuW} (h : q.1 = 3) (h1 : q.2.2.2 < lo ∨ ¬ q.2.2.2 ≤ hi) : zu_num T lo hi k (.inr (q, w)) = .inl (2, q.2.1) := by
  show (if q.1 = 3 then _ else _) = _
  rw [if_pos h, if_neg]
  intro z
  rw [Bool.and_eq_true] at z
  rcases h1 with h1 | h1
  · exact absurd h1 (Int32.not_lt.mpr (of_decide_eq_true z.1))
  · exact h1 (of_decide_eq_true z.2)
theorem zu_num_1 {T : Nat → zuK} {lo hi : Int32} {k : Nat} {q : zuK} {w : zuW} (h : ¬ q.1 = 3) : zu_num T lo hi k (.inr (q, w)) = .inl (1, q.2.1) := by
  show (if q.1 = 3 then _ else _) = _
  rw [if_neg h]
theorem zu_sign_4 {T : Nat → zuK} {q : zuK} {w : zuW} (h : q.1 = 4) : zu_sign T (.inr (q, w)) = .inr (T q.2.2.1, w) := by
  show (if q.1 = 4 then _ else _) = _
  rw [if_pos h]
theorem zu_sign_1 {T : Nat → zuK} {q : zuK} {w : zuW} (h : ¬ q.1 = 4) : zu_sign T (.inr (q, w)) = .inl (1, q.2.1) := by
  show (if q.1 = 4 then _ else _) = _
  rw [if_neg h]
theorem zu_flt {h : zj_H} {t : Nat → Int32} {n : Nat} {r : zuR} (hC : zu_C h t n r) (hf : ¬ h 3 2 = 0) : ∃ e, r = .inl e := by
  match r, hC with
  | .inl e, _ => exact ⟨e, rfl⟩
  | .inr (q, w), hC => exact absurd hC.1 hf
theorem zu_nof {h : zj_H} {t : Nat → Int32} {n : Nat} {r : zuR} (hC : zu_C h t n r) (hf : h 3 2 = 0) : ∃ q w, r = .inr (q, w) := by
  match r, hC with
  | .inl (k, p), hC =>
    exfalso
    have h1 := hC.1
    rw [hf] at h1
    have := (nI_eq (a := 0) (by omega) (by have := hC.2.2.1; omega)).mp h1
    have := hC.2.1
    omega
  | .inr (q, w), _ => exact ⟨q, w, rfl⟩
/-- the class's field f of the draft is place k of the row -/
def zu_fk (f k : Nat) : Prop := (f = 0 ∧ k = 4) ∨ (f = 1 ∧ k = 0) ∨ (f = 2 ∧ k = 1) ∨ (f = 3 ∧ k = 2) ∨ (f = 4 ∧ k = 3)
theorem zu_put {h h' : zj_H} {x : Int32} {t : Nat → Int32} {n : Nat} {lo hi : Int32} {f k : Nat} {r : zuR} (hfk : zu_fk f k) (hD : zu_D h r) (hN : zu_N h h' x t n lo hi k r) :
    zu_S h (zj_s h' 4 (upd (h' 4) f x)) t n (h 3 3) (zu_num (zw_T t n) lo hi k r) := by
  obtain ⟨n1, n2, n3, n4, n5⟩ := hN
  refine ⟨fun a ha => by rw [zj_s_ne _ _ (by omega)]; exact n1 a (by omega), by rw [zj_s_ne _ _ (by decide)]; exact n2, zu_C_c (fun b _ => by rw [zj_s_ne _ _ (by decide)]) n4, ?_⟩
  cases hr : zu_num (zw_T t n) lo hi k r with
  | inl e => trivial
  | inr qw =>
    obtain ⟨q, w⟩ := qw
    obtain ⟨q0, w0, rfl, rfl, _, _⟩ := n5 q w hr
    obtain ⟨d0, d1, d2, d3, d4, d5, d6, d7, d8, d9, d10, d11⟩ : zu_d h w0 := hD
    show zu_d (zj_s h' 4 (upd (h' 4) f x)) (upd w0 k x)
    unfold zu_d
    rw [zj_s_eq, zj_s_ne _ _ (show (3 : Nat) ≠ 4 by decide), zj_s_ne _ _ (show (5 : Nat) ≠ 4 by decide), zj_s_ne _ _ (show (6 : Nat) ≠ 4 by decide), zj_s_ne _ _ (show (7 : Nat) ≠ 4 by decide), n3, n1 4 (by decide), n1 5 (by decide), n1 6 (by decide), n1 7 (by decide)]
    have e6 : upd w0 k x 6 = w0 6 := zz_upd_ne _ _ (by rcases hfk with z | z | z | z | z <;> omega)
    have e7 : upd w0 k x 7 = w0 7 := zz_upd_ne _ _ (by rcases hfk with z | z | z | z | z <;> omega)
    have e18 : upd w0 k x 18 = w0 18 := zz_upd_ne _ _ (by rcases hfk with z | z | z | z | z <;> omega)
    have eJ : ∀ j, upd w0 k x (8 + j) = w0 (8 + j) := fun j => zz_upd_ne _ _ (by rcases hfk with z | z | z | z | z <;> omega)
    have eC : ∀ j, upd w0 k x (19 + j) = w0 (19 + j) := fun j => zz_upd_ne _ _ (by rcases hfk with z | z | z | z | z <;> omega)
    have eB : ∀ j, upd w0 k x (33 + j) = w0 (33 + j) := fun j => zz_upd_ne _ _ (by rcases hfk with z | z | z | z | z <;> omega)
    rw [e6, e7, e18]
    refine ⟨?_, ?_, ?_, ?_, ?_, ?_, d6, ?_, ?_, fun j hj => (d9 j hj).trans (eJ j).symm, fun j hj => (d10 j hj).trans (eC j).symm, fun j hj => (d11 j hj).trans (eB j).symm⟩
    · rcases hfk with ⟨rfl, rfl⟩ | ⟨rfl, rfl⟩ | ⟨rfl, rfl⟩ | ⟨rfl, rfl⟩ | ⟨rfl, rfl⟩ <;> first | exact d0 | rfl
    · rcases hfk with ⟨rfl, rfl⟩ | ⟨rfl, rfl⟩ | ⟨rfl, rfl⟩ | ⟨rfl, rfl⟩ | ⟨rfl, rfl⟩ <;> first | exact d1 | rfl
    · rcases hfk with ⟨rfl, rfl⟩ | ⟨rfl, rfl⟩ | ⟨rfl, rfl⟩ | ⟨rfl, rfl⟩ | ⟨rfl, rfl⟩ <;> first | exact d2 | rfl
    · rcases hfk with ⟨rfl, rfl⟩ | ⟨rfl, rfl⟩ | ⟨rfl, rfl⟩ | ⟨rfl, rfl⟩ | ⟨rfl, rfl⟩ <;> first | exact d3 | rfl
    · rcases hfk with ⟨rfl, rfl⟩ | ⟨rfl, rfl⟩ | ⟨rfl, rfl⟩ | ⟨rfl, rfl⟩ | ⟨rfl, rfl⟩ <;> first | exact d4 | rfl
    · rcases hfk with ⟨rfl, rfl⟩ | ⟨rfl, rfl⟩ | ⟨rfl, rfl⟩ | ⟨rfl, rfl⟩ | ⟨rfl, rfl⟩ <;> exact d5
    · rcases hfk with ⟨rfl, rfl⟩ | ⟨rfl, rfl⟩ | ⟨rfl, rfl⟩ | ⟨rfl, rfl⟩ | ⟨rfl, rfl⟩ <;> exact d7
    · rcases hfk with ⟨rfl, rfl⟩ | ⟨rfl, rfl⟩ | ⟨rfl, rfl⟩ | ⟨rfl, rfl⟩ | ⟨rfl, rfl⟩ <;> exact d8
set_option maxHeartbeats 4000000 in
set_option maxRecDepth 20000 in
theorem m_X4_takeNumber {l : Launch} {E : zj_E} {h : zj_H} {g : zj_G} {n : Nat} {t : Nat → Int32} (et : h 2 = t) (eL : h 1 1 = nI n) (hn : n ≤ 540) {r : zuR} (hC : zu_C h t n r) {lo hi : Int32} {k : Nat} : zj_M l E yX4_takeNumber cX4_takeNumber 4 (some .int) 2 [.ref (E.2.1 3), .int lo, .int hi] h g (fun v h' g' => ∃ x, v = some (.int x) ∧ g' = g ∧ zu_N h h' x t n lo hi k r) := by
  refine zj_M.of RX4 (by decide) rfl (Nat.le_of_ble_eq_true rfl) ?_
  intro Γ hΓ K Rt
  subst hΓ
  show zj_J E Γ 4 0 [(0, .ref (E.2.1 3)), (1, .int lo), (2, .int hi)] [] h g
  refine zj_aload_n (i := 0) (pc := 0) K dX4_takeNumber_0 rfl rfl ?_
  refine zj_getI (pc := 1) K lf_X4_25 hs_R rfl dX4_takeNumber_1 ?_
  refine zj_if_eq (tgt := 9) (pc := 4) K dX4_takeNumber_4 (by decide) (fun c_4 => ?_) (fun c_4 => ?_)
  · obtain ⟨q, w, rfl⟩ := zu_nof hC c_4
    obtain ⟨-, q4, q5, q6, q7, q8⟩ := hC
    have ht := zu_tk_1 q8
    refine zj_aload_n (i := 0) (pc := 9) K dX4_takeNumber_9 rfl rfl ?_
    refine zj_getI (pc := 10) K lf_X4_42 hs_R rfl dX4_takeNumber_10 ?_
    refine zj_iconst (v := 3) (pc := 13) K dX4_takeNumber_13 (by decide) ?_
    refine zj_icmp_eq (tgt := 24) (pc := 14) K dX4_takeNumber_14 (by decide) (fun c_14 => ?_) (fun c_14 => ?_)
    · have hK3 : q.1 = 3 := by
        rw [q6] at c_14
        exact (nI_eq (b := 3) (by omega) (by omega)).mp c_14
      have ev := q7 hK3
      refine zj_aload_n (i := 0) (pc := 24) K dX4_takeNumber_24 rfl rfl ?_
      refine zj_getI (pc := 25) K lf_X4_124 hs_R rfl dX4_takeNumber_25 ?_
      refine zj_iload_n (i := 1) (pc := 28) K dX4_takeNumber_28 rfl rfl ?_
      refine zj_icmp_lt (tgt := 40) (pc := 29) K dX4_takeNumber_29 (by decide) (fun c_29 => ?_) (fun c_29 => ?_)
      · rw [ev] at c_29
        have hr := zu_num_2 (T := zw_T t n) (hi := hi) (k := k) (w := w) hK3 (Or.inl c_29)
        refine zj_aload_n (i := 0) (pc := 40) K dX4_takeNumber_40 rfl rfl ?_
        refine zj_iconst (v := 2) (pc := 41) K dX4_takeNumber_41 (by decide) ?_
        refine zj_putI (pc := 42) K lf_X4_25 hs_R rfl dX4_takeNumber_42 ?_
        refine zj_iconst (v := -1) (pc := 45) K dX4_takeNumber_45 (by decide) ?_
        exact zj_iret K Rt dX4_takeNumber_46 (⟨-1, rfl, rfl, fun a ha => zj_s_ne _ _ ha, rfl, rfl, by rw [hr]; exact ⟨rfl, by decide, by decide, q4⟩, fun q w z => by rw [hr] at z; cases z⟩)
      · rw [ev] at c_29
        refine zj_aload_n (i := 0) (pc := 32) K dX4_takeNumber_32 rfl rfl ?_
        refine zj_getI (pc := 33) K lf_X4_124 hs_R rfl dX4_takeNumber_33 ?_
        refine zj_iload_n (i := 2) (pc := 36) K dX4_takeNumber_36 rfl rfl ?_
        refine zj_icmp_le (tgt := 47) (pc := 37) K dX4_takeNumber_37 (by decide) (fun c_37 => ?_) (fun c_37 => ?_)
        · rw [ev] at c_37
          have hr := zu_num_3 (T := zw_T t n) (hi := hi) (k := k) (w := w) hK3 c_29 c_37
          refine zj_aload_n (i := 0) (pc := 47) K dX4_takeNumber_47 rfl rfl ?_
          refine zj_getI (pc := 48) K lf_X4_124 hs_R rfl dX4_takeNumber_48 ?_
          refine zj_istore_n (i := 3) (pc := 51) K dX4_takeNumber_51 rfl rfl rfl rfl ?_
          refine zj_aload_n (i := 0) (pc := 52) K dX4_takeNumber_52 rfl rfl ?_
          refine zj_cV0P (pc := 53) K lm_X4_39 hs_R (m_X4_step (n := n) (a := q.2.2.1) (by first | exact eL | exact eLq) hn q5 ht.2.2) (by decide) rfl (Nat.le_of_ble_eq_true rfl) dX4_takeNumber_53 (fun v1 h1 g1 hp1 => ?_)
          obtain ⟨rfl, rfl, p3, p4, p5⟩ := zu_stepP (by first | exact et | exact etq) ht.2.2 hp1
          refine zj_iload_n (i := 3) (pc := 56) K dX4_takeNumber_56 rfl rfl ?_
          exact zj_iret K Rt dX4_takeNumber_57 (by
            refine ⟨_, rfl, rfl, p3, p4 3 (by decide), p4 8 (by decide), ?_, fun q1 w1 z => ?_⟩
            · rw [hr]; exact ⟨by rw [p4 2 (by decide)]; exact c_4, p5⟩
            · rw [hr] at z; cases z; exact ⟨q, w, rfl, by rw [ev], by rw [ev]; exact Int32.not_lt.mp c_29, by rw [ev]; exact c_37⟩)
        · rw [ev] at c_37
          have hr := zu_num_2 (T := zw_T t n) (lo := lo) (k := k) (w := w) hK3 (Or.inr c_37)
          refine zj_aload_n (i := 0) (pc := 40) K dX4_takeNumber_40 rfl rfl ?_
          refine zj_iconst (v := 2) (pc := 41) K dX4_takeNumber_41 (by decide) ?_
          refine zj_putI (pc := 42) K lf_X4_25 hs_R rfl dX4_takeNumber_42 ?_
          refine zj_iconst (v := -1) (pc := 45) K dX4_takeNumber_45 (by decide) ?_
          exact zj_iret K Rt dX4_takeNumber_46 (⟨-1, rfl, rfl, fun a ha => zj_s_ne _ _ ha, rfl, rfl, by rw [hr]; exact ⟨rfl, by decide, by decide, q4⟩, fun q w z => by rw [hr] at z; cases z⟩)
    · have hK3 : ¬ q.1 = 3 := fun z => c_14 (by rw [q6, z]; rfl)
      refine zj_aload_n (i := 0) (pc := 17) K dX4_takeNumber_17 rfl rfl ?_
      refine zj_iconst (v := 1) (pc := 18) K dX4_takeNumber_18 (by decide) ?_
      refine zj_putI (pc := 19) K lf_X4_25 hs_R rfl dX4_takeNumber_19 ?_
      refine zj_iconst (v := -1) (pc := 22) K dX4_takeNumber_22 (by decide) ?_
      exact zj_iret K Rt dX4_takeNumber_23 (by
        have hr := zu_num_1 (T := zw_T t n) (lo := lo) (hi := hi) (k := k) (w := w) hK3
        exact ⟨-1, rfl, rfl, fun a ha => zj_s_ne _ _ ha, rfl, rfl, by rw [hr]; exact ⟨rfl, by decide, by decide, q4⟩, fun q w z => by rw [hr] at z; cases z⟩)
  · obtain ⟨e, rfl⟩ := zu_flt hC c_4
    refine zj_iconst (v := -1) (pc := 7) K dX4_takeNumber_7 (by decide) ?_
    exact zj_iret K Rt dX4_takeNumber_8 (⟨-1, rfl, rfl, fun _ _ => rfl, rfl, rfl, hC, fun q w z => by cases z⟩)

set_option maxHeartbeats 4000000 in
set_option maxRecDepth 20000 in
theorem m_X4_takeSign {l : Launch} {E : zj_E} {h : zj_H} {g : zj_G} {n : Nat} {t : Nat → Int32} (et : h 2 = t) (eL : h 1 1 = nI n) (hn : n ≤ 540) {r : zuR} (hC : zu_C h t n r) (hD : zu_D h r) : zj_M l E yX4_takeSign cX4_takeSign 1 none 2 [.ref (E.2.1 3)] h g (fun v h' g' => v = none ∧ g' = g ∧ ∃ l, zu_S h h' t n l (zu_sign (zw_T t n) r) ∧ ∀ q w, zu_sign (zw_T t n) r = .inr (q, w) → l = h 3 3 + 1) := by
  refine zj_M.of RX4 (by decide) rfl (Nat.le_of_ble_eq_true rfl) ?_
  intro Γ hΓ K Rt
  subst hΓ
  show zj_J E Γ 1 0 [(0, .ref (E.2.1 3))] [] h g
  refine zj_aload_n (i := 0) (pc := 0) K dX4_takeSign_0 rfl rfl ?_
  refine zj_getI (pc := 1) K lf_X4_25 hs_R rfl dX4_takeSign_1 ?_
  refine zj_if_eq (tgt := 8) (pc := 4) K dX4_takeSign_4 (by decide) (fun c_4 => ?_) (fun c_4 => ?_)
  · obtain ⟨q, w, rfl⟩ := zu_nof hC c_4
    obtain ⟨-, q4, q5, q6, q7, q8⟩ := hC
    have ht := zu_tk_1 q8
    refine zj_aload_n (i := 0) (pc := 8) K dX4_takeSign_8 rfl rfl ?_
    refine zj_getI (pc := 9) K lf_X4_42 hs_R rfl dX4_takeSign_9 ?_
    refine zj_iconst (v := 4) (pc := 12) K dX4_takeSign_12 (by decide) ?_
    refine zj_icmp_eq (tgt := 22) (pc := 13) K dX4_takeSign_13 (by decide) (fun c_13 => ?_) (fun c_13 => ?_)
    · have hK4 : q.1 = 4 := by
        rw [q6] at c_13
        exact (nI_eq (b := 4) (by omega) (by omega)).mp c_13
      have hr := zu_sign_4 (T := zw_T t n) (w := w) hK4
      refine zj_aload_n (i := 0) (pc := 22) K dX4_takeSign_22 rfl rfl ?_
      refine zj_dup (pc := 23) K dX4_takeSign_23 rfl ?_
      refine zj_getI (pc := 24) K lf_X4_29 hs_R rfl dX4_takeSign_24 ?_
      refine zj_iconst (v := 1) (pc := 27) K dX4_takeSign_27 (by decide) ?_
      refine zj_iadd (pc := 28) K dX4_takeSign_28 ?_
      refine zj_putI (pc := 29) K lf_X4_29 hs_R rfl dX4_takeSign_29 ?_
      refine zj_aload_n (i := 0) (pc := 32) K dX4_takeSign_32 rfl rfl ?_
      refine zj_cV0P (pc := 33) K lm_X4_39 hs_R (m_X4_step (n := n) (a := q.2.2.1) (by first | exact eL | exact eLq) hn q5 ht.2.2) (by decide) rfl (Nat.le_of_ble_eq_true rfl) dX4_takeSign_33 (fun v1 h1 g1 hp1 => ?_)
      obtain ⟨rfl, rfl, p3, p4, p5⟩ := zu_stepP (by first | exact et | exact etq) ht.2.2 hp1
      exact zj_vret K Rt dX4_takeSign_36 (by
        refine ⟨rfl, rfl, h 3 3 + 1, ⟨fun a ha => (p3 a (by omega)).trans (zj_s_ne _ _ (by omega)), p4 3 (by decide), ?_, ?_⟩, fun _ _ _ => rfl⟩
        · rw [hr]; exact ⟨by rw [p4 2 (by decide)]; exact c_4, p5⟩
        · rw [hr]; exact zu_d_c (p4 8 (by decide)) (p3 4 (by decide)) (p3 5 (by decide)) (p3 6 (by decide)) (p3 7 (by decide)) hD)
    · have hK4 : ¬ q.1 = 4 := fun z => c_13 (by rw [q6, z]; rfl)
      have hr := zu_sign_1 (T := zw_T t n) (w := w) hK4
      refine zj_aload_n (i := 0) (pc := 16) K dX4_takeSign_16 rfl rfl ?_
      refine zj_iconst (v := 1) (pc := 17) K dX4_takeSign_17 (by decide) ?_
      refine zj_putI (pc := 18) K lf_X4_25 hs_R rfl dX4_takeSign_18 ?_
      exact zj_vret K Rt dX4_takeSign_21 (⟨rfl, rfl, h 3 3, ⟨fun a ha => zj_s_ne _ _ (by omega), rfl, by rw [hr]; exact ⟨rfl, by decide, by decide, q4⟩, by rw [hr]; trivial⟩, fun q w z => by rw [hr] at z; cases z⟩)
  · obtain ⟨e, rfl⟩ := zu_flt hC c_4
    exact zj_vret K Rt dX4_takeSign_7 (⟨rfl, rfl, h 3 3, ⟨fun _ _ => rfl, rfl, hC, trivial⟩, fun q w z => by cases z⟩)
