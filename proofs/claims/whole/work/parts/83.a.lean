-- the tape, the TEXT
theorem zI_tape {h q : zj_H} {J C u n n' nx ct : Nat} (e : ∀ a, 8 ≤ a → a < 78 → q a = h a) (e80 : q 80 = h 80) (e83 : q 83 = h 83) (e17 : q 78 17 = h 78 17) (e06 : q 0 6 = q 78 8) (a : zI h J C u n nx ct) (t : zI3 q n') : zI q J C u n' nx ct := by
  obtain ⟨a1, a2, _, a4, _⟩ := a
  have s80 : ∀ i, i < 47 → i ≠ 5 → i ≠ 17 → q 80 i = h 80 i := fun i _ _ _ => by rw [e80]
  refine ⟨zI1_c (e 8 (by omega) (by omega)) (e 9 (by omega) (by omega)) (e 10 (by omega) (by omega)) (e 25 (by omega) (by omega)) s80 a1, ⟨?_, ?_⟩, t, zI4_c (e 32 (by omega) (by omega)) e17 (fun a h1 h2 => e a (by omega) h2) e83 s80 a4, e06⟩
  · rw [zδC_c (fun a h1 h2 => e a (by omega) (by omega)), zδM_congr e80]; exact a2.1
  · rw [e 13 (by omega) (by omega)]; exact a2.2
theorem zI_feed {h h1 h2 : zj_H} {J C u n nx ct : Nat} {v v' : Option Value} {w1 w2 w3 w4 w5 : Int32} (a : zI h J C u n nx ct) (k : ∀ a, a ≠ 1 → a ≠ 2 → h1 a = h a) (k1 : if n + 20 ≤ 540 then v = some (.int (nI (n + 20))) ∧ h1 1 1 = nI (n + 20) ∧ (∀ b, h1 2 b = if n ≤ b ∧ b < n + 20 then zt_byte (zt_pick w1 w2 w3 w4 w5 ((b - n) / 4)) ((b - n) % 4) else h 2 b) else v = some (.int (-1)) ∧ h1 = h) (m : ∀ a, a ≠ 78 → a ≠ 79 → h2 a = h1 a) (m0 : ∀ b, b ≠ 0 → b ≠ 2 → h2 78 b = h1 78 b) (m1 : if n + 20 ≤ 540 then v' = some (.int (nI (n + 20))) ∧ h2 78 2 = nI (n + 20) ∧ (∀ b, h2 79 b = if n ≤ b ∧ b < n + 20 then zm_byte (zt_pick w1 w2 w3 w4 w5 ((b - n) / 4)) ((b - n) % 4) else h1 79 b) else v' = some (.int (-1)) ∧ h2 79 = h1 79 ∧ h2 78 2 = h1 78 2) : v = v' ∧ (∃ r, v = some (.int r)) ∧ zIx h2 := by
  have a3 := a.2.2.1
  have a5 := a.2.2.2.2
  have q78 : h1 78 = h 78 := k 78 (by decide) (by decide)
  have q79 : h1 79 = h 79 := k 79 (by decide) (by decide)
  have e : ∀ a, a ≠ 1 → a ≠ 2 → a ≠ 78 → a ≠ 79 → h2 a = h a := fun a h1 h2 h3 h4 => (m a h3 h4).trans (k a h1 h2)
  have e06 : h2 0 6 = h2 78 8 := by rw [e 0 (by decide) (by decide) (by decide) (by decide), m0 8 (by decide) (by decide), q78]; exact a5
  have fin : ∀ n', zI3 h2 n' → zIx h2 := fun n' t => ⟨J, C, u, n', nx, ct, zI_tape (fun a h1 h2 => e a (by omega) (by omega) (by omega) (by omega)) (e 80 (by decide) (by decide) (by decide) (by decide)) (e 83 (by decide) (by decide) (by decide) (by decide)) (by rw [m0 17 (by decide) (by decide), q78]) e06 a t⟩
  by_cases hn : n + 20 ≤ 540
  · rw [if_pos hn] at k1 m1
    refine ⟨k1.1.trans m1.1.symm, ⟨_, k1.1⟩, fin (n + 20) ⟨?_, hn, m1.2.1, fun i hi => ?_⟩⟩
    · rw [m 1 (by decide) (by decide)]; exact k1.2.1
    · rw [m 2 (by decide) (by decide), k1.2.2 i, m1.2.2 i]
      by_cases hb : n ≤ i ∧ i < n + 20
      · rw [if_pos hb, if_pos hb]; exact zb_byte (Nat.mod_lt _ (by decide))
      · rw [if_neg hb, if_neg hb, q79]; exact a3.2.2.2 i (by omega)
  · rw [if_neg hn] at k1 m1
    refine ⟨k1.1.trans m1.1.symm, ⟨_, k1.1⟩, fin n (zI3_c ?_ ?_ (m1.2.1.trans q79) (by rw [m1.2.2, q78]) a3)⟩
    · rw [m 1 (by decide) (by decide), k1.2]
    · rw [m 2 (by decide) (by decide), k1.2]
theorem zI_end {h h1 h2 : zj_H} {J C u n nx ct : Nat} {x : Int32} (a : zI h J C u n nx ct) (k : h1 = if zz_in x (n + 1) = true then zj_s h 1 (upd (h 1) 1 x) else h) (m : ∀ a, a ≠ 78 → h2 a = h1 a) (m0 : ∀ b, b ≠ 0 → b ≠ 2 → h2 78 b = h1 78 b) (m1 : h2 78 2 = if zz_in x (n + 1) = true then x else h1 78 2) : zIx h2 := by
  have a3 := a.2.2.1
  have a5 := a.2.2.2.2
  have k1 : ∀ a, a ≠ 1 → h1 a = h a := fun a ha => by
    rw [k]
    split
    · exact zj_s_ne _ _ ha
    · rfl
  have e : ∀ a, a ≠ 1 → a ≠ 78 → h2 a = h a := fun a h1 h2 => (m a h2).trans (k1 a h1)
  have q78 : h1 78 = h 78 := k1 78 (by decide)
  have e06 : h2 0 6 = h2 78 8 := by rw [e 0 (by decide) (by decide), m0 8 (by decide) (by decide), q78]; exact a5
  have fin : ∀ n', zI3 h2 n' → zIx h2 := fun n' t => ⟨J, C, u, n', nx, ct, zI_tape (fun a h1 h2 => e a (by omega) (by omega)) (e 80 (by decide) (by decide)) (e 83 (by decide) (by decide)) (by rw [m0 17 (by decide) (by decide), q78]) e06 a t⟩
  by_cases hz : zz_in x (n + 1) = true
  · rw [if_pos hz] at k m1
    have hn := a3.2.1
    obtain ⟨c, hc, ec⟩ := zz_in_ex hz (by omega)
    refine fin c ⟨?_, by omega, by rw [m1, ec], ?_⟩
    · rw [m 1 (by decide), k, zj_s_eq, zz_upd_at, ec]
    · rw [e 2 (by decide) (by decide), e 79 (by decide) (by decide)]
      exact fun i hi => a3.2.2.2 i (by omega)
  · rw [if_neg hz] at k m1
    refine fin n (zI3_c ?_ (e 2 (by decide) (by decide)) (e 79 (by decide) (by decide)) (by rw [m1, q78]) a3)
    rw [m 1 (by decide), k]
theorem zI_text {h h1 h2 : zj_H} {J C u n nx ct : Nat} {v v' : Option Value} (a : zI h J C u n nx ct) (k1 : h1 1 1 = 0) (k2 : h1 2 = h 2) (k3 : ∀ a, 78 ≤ a → h1 a = h a)
    (k4 : match zu_text (zw_T (h 2) n) (zu_is (h 2)) n with
      | .inl (k, p) => v = some (.int (-1 - nI p)) ∧ h1 0 6 = nI k ∧ ∀ a, 8 ≤ a → h1 a = h a
      | .inr (l, w) => v = some (.int (nI l)) ∧ h1 0 6 = 0 ∧ h1 32 1 = h 32 1 ∧ (∀ a, 34 ≤ a → h1 a = h a) ∧ ∃ J C u, zu_wf w J C ∧ u ≤ 20 ∧ w 0 = nI u ∧ zt_told h1 w J C ∧ zt_new h1 w C ∧ zt_anew h1 w J C u)
    (m : ∀ a, a ≠ 78 → a ≠ 80 → a ≠ 81 → h2 a = h1 a) (m2 : h2 78 2 = 0)
    (m4 : match zu_text (zw_T (h 79) n) (zu_is (h 79)) n with
      | .inl (k, p) => v' = some (.int (-1 - nI p)) ∧ h2 78 8 = nI k ∧ h2 80 = h1 80 ∧ h2 78 17 = h1 78 17
      | .inr (l, w) => v' = some (.int (nI l)) ∧ h2 78 8 = 0 ∧ (∀ i, i < 89 → h2 80 i = w i) ∧ h2 78 17 = 0 ∧ ∃ J C, zu_wf w J C) : v = v' ∧ (∃ r, v = some (.int r)) ∧ zIx h2 := by
  have hr := a.2.2.1.2.2.2
  rw [← zu_text_c hr] at m4
  have t0 : zI3 h2 0 := ⟨by rw [m 1 (by decide) (by decide) (by decide)]; exact k1, by decide, m2, fun i hi => absurd hi (Nat.not_lt_zero i)⟩
  cases hz : zu_text (zw_T (h 2) n) (zu_is (h 2)) n with
  | inl e =>
    obtain ⟨f, p⟩ := e
    rw [hz] at k4 m4
    refine ⟨k4.1.trans m4.1.symm, ⟨_, k4.1⟩, J, C, u, 0, nx, ct, zI_tape (fun a i1 i2 => (m a (by omega) (by omega) (by omega)).trans (k4.2.2 a i1)) (m4.2.2.1.trans (k3 80 (by decide))) ((m 83 (by decide) (by decide) (by decide)).trans (k3 83 (by decide))) (by rw [m4.2.2.2, k3 78 (by decide)]) ?_ a t0⟩
    rw [m 0 (by decide) (by decide) (by decide), k4.2.1, m4.2.1]
  | inr e =>
    obtain ⟨f, w⟩ := e
    rw [hz] at k4 m4
    obtain ⟨p1, p2, p3, p4, J', C', u', wf, hu, eu, pt, pn, pa⟩ := k4
    obtain ⟨r1, r2, r3, r4, _⟩ := m4
    obtain ⟨x1, x2, x3, x4, x5, x6, x7, x8, x9, x10, x11, x12, x13, x14, x15, x16⟩ := wf
    obtain ⟨t1, t2, t3, t4, t5, t6, t7, t8, t9, t10⟩ := pt
    obtain ⟨n1, n2, n3, n4, n5, n6⟩ := pn
    have g8 : h2 8 = h1 8 := m 8 (by decide) (by decide) (by decide)
    have g9 : h2 9 = h1 9 := m 9 (by decide) (by decide) (by decide)
    have g10 : h2 10 = h1 10 := m 10 (by decide) (by decide) (by decide)
    have g13 : h2 13 = h1 13 := m 13 (by decide) (by decide) (by decide)
    have g14 : h2 (13 + 1) = h1 14 := m 14 (by decide) (by decide) (by decide)
    have g15 : h2 (13 + 2) = h1 15 := m 15 (by decide) (by decide) (by decide)
    have g16 : h2 (13 + 3) = h1 16 := m 16 (by decide) (by decide) (by decide)
    have g25 : h2 25 = h1 25 := m 25 (by decide) (by decide) (by decide)
    have g32 : h2 32 = h1 32 := m 32 (by decide) (by decide) (by decide)
    have te : zτe (zτC h2 J' C' u') (zτM h2 80 J' C' u') := by
      refine ⟨rfl, rfl, rfl, ?_, ?_, ?_, fun j hj => ?_, fun c hc => ?_, fun b => ?_⟩
      · show h2 8 2 = h2 80 1
        rw [g8, t3, r3 1 (by decide)]
      · show h2 8 3 = h2 80 2
        rw [g8, t4, r3 2 (by decide)]
      · show h2 8 4 = h2 80 3
        rw [g8, t5, r3 3 (by decide)]
      · have hj : j < J' := hj
        show h2 9 j = h2 80 (8 + j)
        rw [g9, t9 j hj, r3 (8 + j) (by omega)]
      · have hc : c < C' := hc
        show h2 10 c = h2 80 (19 + c)
        rw [g10, t10 c hc, r3 (19 + c) (by omega)]
      · show decide (¬ b &&& h2 8 8 = 0) = zm_sen (zmS h2 80) (h2 80 6) b J'
        rw [g8, t8]
        refine zc_mask_sen x1 (fun j hj => ?_)
        have ez : zmS h2 80 j = h1 9 j := by
          show h2 80 (8 + j) = _
          rw [r3 (8 + j) (by omega), t9 j hj]
        have h1j : (1 : Int32) ≤ h1 9 j := by rw [t9 j hj]; exact x16 j hj
        rw [ez, r3 6 (by decide)]
        by_cases h6 : w 6 = 0
        · rw [if_pos h6, h6]
          exact ⟨fun _ => Int32.le_trans (by decide) h1j, fun _ => h1j⟩
        · rw [if_neg h6]
    have z1 : zI1 h2 J' C' u' := by
      refine ⟨by rw [g8, t6]; exact x3, x1, by rw [g8, t7]; exact x4, x2, by rw [g8, t2]; exact eu, hu, by rw [r3 7 (by decide)]; exact x3, by rw [r3 18 (by decide)]; exact x4, by rw [r3 0 (by decide)]; exact eu, te, ?_, ?_, ?_, fun c hc => ?_, fun c hc => ?_⟩
      · rw [g8, t3]; exact x8
      · rw [g8, t4]; exact x9
      · rw [g8, t5]; exact x10
      · rw [g10, t10 c hc]; exact x14 c hc
      · rw [g25, pa c hc, ← zτC_congr g8 g9 g10]
        have hd : zδe C' (zt_δ0 w) (zδ0M h2) := ⟨(r3 4 (by decide)).symm, rfl, fun _ _ => rfl, fun _ _ => rfl, fun k hk => (r3 (33 + k) (by omega)).symm⟩
        exact (zo_all_e (τ := zτC h2 J' C' u') (τ' := zτM h2 80 J' C' u') te hd).2.2.2.2.1 c hc
    refine ⟨p1.trans r1.symm, ⟨_, p1⟩, J', C', u', 0, nx, 0, z1, ⟨⟨?_, ?_, fun c hc => ?_, fun c hc => ?_, fun c hc => ?_⟩, ?_⟩, t0, ⟨a.2.2.2.1.1, by decide, ?_, ?_, r4, fun r hr => absurd hr (Nat.not_lt_zero r)⟩, ?_⟩
    · show h2 13 0 = h2 80 5
      rw [g13, n1, r3 5 (by decide), x11]
    · show h2 13 1 = h2 80 17
      rw [g13, n2, r3 17 (by decide), x12]
    · show h2 (13 + 1) c = h2 80 (75 + c)
      rw [g14, n3 c (by omega), r3 (75 + c) (by omega), (x15 c (by omega)).2]
    · show h2 (13 + 2) c = h2 80 (61 + c)
      rw [g15, n4 c (by omega), r3 (61 + c) (by omega), (x15 c (by omega)).1]
    · show h2 (13 + 3) c = h2 80 (47 + c)
      rw [g16, n5 c hc, r3 (47 + c) (by omega), x13 c hc]
    · rw [g13, n2]; exact ⟨0, by decide, rfl⟩
    · rw [g32, p3]; exact a.2.2.2.1.2.2.1
    · rw [g32, n6]; rfl
    · rw [m 0 (by decide) (by decide) (by decide), p2, r2]
