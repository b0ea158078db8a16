-- calls that change keep the relation
theorem zI_fr {h h1 h2 : zj_H} (k : zk_fr h h1) (m : zm_fr h1 h2) : (∀ a, (a < 12 ∨ (22 ≤ a ∧ a ≤ 31)) → h2 a = h a) ∧ (∀ a, a < 78 → h2 a = h1 a) ∧ h2 79 = h 79 ∧ h2 78 2 = h 78 2 ∧ h2 78 8 = h 78 8 ∧ h1 80 = h 80 ∧ h1 83 = h 83 ∧ h1 78 = h 78 := by
  have q78 : h1 78 = h 78 := k 78 (by omega)
  refine ⟨fun a ha => (m.1 a (by omega)).trans (k a (by omega)), m.1, m.2.1.trans (k 79 (by omega)), by rw [m.2.2.1, q78], by rw [m.2.2.2.1, q78], k 80 (by omega), k 83 (by omega), q78⟩
theorem zδC_c {h q : zj_H} {d : Nat} (e : ∀ a, d ≤ a → a < d + 4 → q a = h a) : zδC q d = zδC h d := by
  unfold zδC
  rw [e d (by omega) (by omega), e (d + 1) (by omega) (by omega), e (d + 2) (by omega) (by omega), e (d + 3) (by omega) (by omega)]
theorem zrg_ne {nx ct r : Nat} (hn : nx < 11) (hc : ct ≤ 10) (hr : r < ct) : zrg nx ct r ≠ nx ∧ zrg nx ct r < 11 := by
  unfold zrg; omega
theorem zI3_c {h q : zj_H} {n : Nat} (e1 : q 1 = h 1) (e2 : q 2 = h 2) (e79 : q 79 = h 79) (e78 : q 78 2 = h 78 2) (a : zI3 h n) : zI3 q n := ⟨by rw [e1]; exact a.1, a.2.1, by rw [e78]; exact a.2.2.1, by rw [e2, e79]; exact a.2.2.2⟩
theorem zI_stay {h h1 h2 : zj_H} {J C u n nx ct : Nat} (a : zI h J C u n nx ct) (k : zk_fr h h1) (ks : zk_stay h h1 nx) (m : zm_fr h1 h2) (ms : zm_stay h1 h2) : zI h2 J C u n nx ct := by
  obtain ⟨f1, f2, f3, f4, f5, f6, f7, f8⟩ := zI_fr k m
  obtain ⟨a1, a2, a3, a4, a5⟩ := a
  have hC : C ≤ 14 := a1.2.2.2.1
  have e80 : ∀ i, i < 89 → h2 80 i = h 80 i := fun i hi => by rw [ms.1 i hi, f6]
  have s80 : ∀ i, i < 47 → i ≠ 5 → i ≠ 17 → h2 80 i = h 80 i := fun i hi _ _ => e80 i (by omega)
  have e83 : h2 83 = h 83 := ms.2.1.trans f7
  have d13 : zδC h2 13 = zδC h 13 := (zδC_c (fun a _ hb => f2 a (by omega))).trans ks.1
  refine ⟨zI1_c (f1 8 (by omega)) (f1 9 (by omega)) (f1 10 (by omega)) (f1 25 (by omega)) s80 a1, ⟨?_, ?_⟩, zI3_c (f1 1 (by omega)) (f1 2 (by omega)) f3 f4 a3, ?_, ?_⟩
  · rw [d13]
    exact a2.1.tr (zδM_e hC e80).sy
  · have hx : h2 13 1 = h 13 1 := congrArg (fun d : zδ => d.2.1) d13
    rw [hx]; exact a2.2
  · obtain ⟨b1, b2, b3, b4, b5, b6⟩ := a4
    refine ⟨b1, b2, by rw [f2 32 (by decide), ks.2.1]; exact b3, by rw [f2 32 (by decide), ks.2.2.1]; exact b4, by rw [ms.2.2, f8]; exact b5, fun r hr => ?_⟩
    obtain ⟨c1, c2, c3⟩ := b6 r hr
    have hz := zrg_ne b1 b2 hr
    have er : ∀ a, 34 + 4 * zrg nx ct r ≤ a → a < 34 + 4 * zrg nx ct r + 4 → h2 a = h a := fun a h1 h2 => (f2 a (by omega)).trans (ks.2.2.2 a (by omega) (by omega) (by omega))
    refine ⟨?_, by rw [er _ (by omega) (by omega)]; exact c2, fun i i1 i2 i3 => by rw [e83, s80 i i1 i2 i3]; exact c3 i i1 i2 i3⟩
    rw [zδC_c er]
    unfold zδS
    rw [e83]; exact c1
  · rw [f1 0 (by omega), f5]; exact a5
theorem zI_keep {h h1 h2 : zj_H} {J C u n nx ct : Nat} {δ1 δ2 : zδ} (a : zI h J C u n nx ct) (k : zk_fr h h1) (ks : zk_keep h h1 nx ct δ1) (m : zm_fr h1 h2) (mt : zm_stat h1 h2) (md : zδe C (zδM h2 80) δ2) (mk : zm_keep h1 h2 ct (h1 80)) (he : zδe C δ1 δ2) (hw : zaw δ1.2.1) : zI h2 J C u n ((nx + 1) % 11) (min (ct + 1) 10) := by
  obtain ⟨f1, f2, f3, f4, f5, f6, f7, f8⟩ := zI_fr k m
  obtain ⟨a1, a2, a3, a4, a5⟩ := a
  have hC : C ≤ 14 := a1.2.2.2.1
  have s80 : ∀ i, i < 47 → i ≠ 5 → i ≠ 17 → h2 80 i = h 80 i := fun i i1 i2 i3 => by rw [mt i i1 i2 i3, f6]
  have d13 : zδC h2 13 = δ1 := (zδC_c (fun a _ hb => f2 a (by omega))).trans ks.1
  refine ⟨zI1_c (f1 8 (by omega)) (f1 9 (by omega)) (f1 10 (by omega)) (f1 25 (by omega)) s80 a1, ⟨?_, ?_⟩, zI3_c (f1 1 (by omega)) (f1 2 (by omega)) f3 f4 a3, ?_, ?_⟩
  · rw [d13]
    exact he.tr md.sy
  · have hx : h2 13 1 = δ1.2.1 := congrArg (fun d : zδ => d.2.1) d13
    rw [hx]; exact hw
  · obtain ⟨b1, b2, b3, b4, b5, b6⟩ := a4
    refine ⟨Nat.mod_lt _ (by decide), Nat.min_le_right _ _, by rw [f2 32 (by decide), ks.2.1], by rw [f2 32 (by decide), ks.2.2.1], mk.1, fun r hr => ?_⟩
    by_cases hl : r + 1 = min (ct + 1) 10
    · have hz : zrg ((nx + 1) % 11) (min (ct + 1) 10) r = nx := by unfold zrg; omega
      have e83 : ∀ i, i < 89 → h2 83 (89 * r + i) = h 80 i := fun i hi => by rw [mk.2 r i hr hi, if_pos hl, f6]
      rw [hz]
      obtain ⟨r1, r2, r3, r4, r5⟩ := ks.2.2.2.1
      have g0 : h2 (34 + 4 * nx) = h1 (34 + 4 * nx) := f2 _ (by omega)
      have g1 : h2 (34 + 4 * nx + 1) = h1 (34 + 4 * nx + 1) := f2 _ (by omega)
      have g2 : h2 (34 + 4 * nx + 2) = h1 (34 + 4 * nx + 2) := f2 _ (by omega)
      have g3 : h2 (34 + 4 * nx + 3) = h1 (34 + 4 * nx + 3) := f2 _ (by omega)
      refine ⟨⟨?_, ?_, fun c hc => ?_, fun c hc => ?_, fun c hc => ?_⟩, ?_, fun i i1 i2 i3 => by rw [e83 i (by omega), s80 i i1 i2 i3]⟩
      · show h2 (34 + 4 * nx) 0 = h2 83 (89 * r + 5)
        rw [g0, r1, e83 5 (by decide)]; exact a2.1.1
      · show h2 (34 + 4 * nx) 1 = h2 83 (89 * r + 17)
        rw [g0, r2, e83 17 (by decide)]; exact a2.1.2.1
      · show h2 (34 + 4 * nx + 1) c = h2 83 (89 * r + (75 + c))
        rw [g1, r3 c (by omega), e83 (75 + c) (by omega)]; exact a2.1.2.2.1 c hc
      · show h2 (34 + 4 * nx + 2) c = h2 83 (89 * r + (61 + c))
        rw [g2, r4 c (by omega), e83 (61 + c) (by omega)]; exact a2.1.2.2.2.1 c hc
      · show h2 (34 + 4 * nx + 3) c = h2 83 (89 * r + (47 + c))
        rw [g3, r5 c (by omega), e83 (47 + c) (by omega)]; exact a2.1.2.2.2.2 c hc
      · rw [g0, r2]; exact a2.2
    · obtain ⟨s, hs⟩ : ∃ s, s = if ct = 10 then 1 else 0 := ⟨_, rfl⟩
      have hs2 : (ct = 10 ∧ s = 1) ∨ (ct < 10 ∧ s = 0) := by
        by_cases h10 : ct = 10
        · left; rw [if_pos h10] at hs; exact ⟨h10, hs⟩
        · right; rw [if_neg h10] at hs; exact ⟨by omega, hs⟩
      have hr2 : r + s < ct := by omega
      have hz : zrg ((nx + 1) % 11) (min (ct + 1) 10) r = zrg nx ct (r + s) := by unfold zrg; omega
      have e83 : ∀ i, i < 89 → h2 83 (89 * r + i) = h 83 (89 * (r + s) + i) := fun i hi => by rw [mk.2 r i hr hi, if_neg hl, ← hs, f7]
      have hzn := zrg_ne b1 b2 hr2
      rw [hz]
      obtain ⟨c1, c2, c3⟩ := b6 (r + s) hr2
      have er : ∀ a, 34 + 4 * zrg nx ct (r + s) ≤ a → a < 34 + 4 * zrg nx ct (r + s) + 4 → h2 a = h a := fun a h1 h2 => (f2 a (by omega)).trans (ks.2.2.2.2 a (by omega) (by omega) (by omega))
      refine ⟨?_, by rw [er _ (by omega) (by omega)]; exact c2, fun i i1 i2 i3 => by rw [e83 i (by omega), s80 i i1 i2 i3]; exact c3 i i1 i2 i3⟩
      rw [zδC_c er]
      exact c1.tr ⟨(e83 5 (by decide)).symm, (e83 17 (by decide)).symm, fun c hc => (e83 (75 + c) (by omega)).symm, fun c hc => (e83 (61 + c) (by omega)).symm, fun c hc => (e83 (47 + c) (by omega)).symm⟩
  · rw [f1 0 (by omega), f5]; exact a5
theorem zI_change {h h1 h2 : zj_H} {J C u n nx ct : Nat} {v v' : Option Value} {o o' : Option (Int32 × zδ)} (a : zI h J C u n nx ct) (k : zk_fr h h1) (ks : zk_post h h1 nx ct v o) (m : zm_fr h1 h2) (ms : zm_post C h1 h2 ct v' o') (he : zoe C o o') (hw : ∀ r δ, o = some (r, δ) → zaw δ.2.1) : v = v' ∧ (∃ r, v = some (.int r)) ∧ zIx h2 := by
  cases ho : o with
  | none =>
    cases ho' : o' with
    | none =>
      rw [ho] at ks; rw [ho'] at ms
      exact ⟨ks.1.trans ms.1.symm, ⟨_, ks.1⟩, J, C, u, n, nx, ct, zI_stay a k ks.2 m ms.2⟩
    | some y => rw [ho, ho'] at he; exact absurd he id
  | some x =>
    cases ho' : o' with
    | none => rw [ho, ho'] at he; exact absurd he id
    | some y =>
      obtain ⟨r, d⟩ := x
      obtain ⟨r', d'⟩ := y
      rw [ho] at ks; rw [ho'] at ms; rw [ho, ho'] at he
      refine ⟨?_, ⟨_, ks.1⟩, J, C, u, n, _, _, zI_keep a k ks.2 m ms.2.1 ms.2.2.1 ms.2.2.2 he.2 (hw r d ho)⟩
      rw [ks.1, ms.1, he.1]
theorem zI_undo {h h1 h2 : zj_H} {J C u n nx ct : Nat} (a : zI h J C u n nx ct) (h0 : ct ≠ 0) (k : ∀ a, a ≠ 32 → a ≠ 13 → a ≠ 14 → a ≠ 15 → a ≠ 16 → h1 a = h a) (k1 : h1 32 1 = nI ((nx + 10) % 11)) (k2 : h1 32 2 = nI (ct - 1)) (kr : zk_row h1 13 (zδC h (34 + 4 * ((nx + 10) % 11)))) (m : zm_fr h1 h2) (m1 : h2 78 17 = nI (ct - 1)) (m2 : h2 83 = h1 83) (m3 : ∀ i, i < 89 → h2 80 i = h1 83 (89 * (ct - 1) + i)) : zI h2 J C u n ((nx + 10) % 11) (ct - 1) := by
  obtain ⟨a1, a2, a3, a4, a5⟩ := a
  obtain ⟨b1, b2, b3, b4, b5, b6⟩ := a4
  have hC : C ≤ 14 := a1.2.2.2.1
  have f1 : ∀ a, a < 78 → a ≠ 32 → a ≠ 13 → a ≠ 14 → a ≠ 15 → a ≠ 16 → h2 a = h a := fun a h0 h1 h2 h3 h4 h5 => (m.1 a h0).trans (k a h1 h2 h3 h4 h5)
  have q78 : h1 78 = h 78 := k 78 (by decide) (by decide) (by decide) (by decide) (by decide)
  have q79 : h2 79 = h 79 := m.2.1.trans (k 79 (by decide) (by decide) (by decide) (by decide) (by decide))
  have q83 : h1 83 = h 83 := k 83 (by decide) (by decide) (by decide) (by decide) (by decide)
  have hzl : zrg nx ct (ct - 1) = (nx + 10) % 11 := by unfold zrg; omega
  obtain ⟨c1, c2, c3⟩ := b6 (ct - 1) (by omega)
  rw [hzl] at c1 c2
  have e80 : ∀ i, i < 89 → h2 80 i = h 83 (89 * (ct - 1) + i) := fun i hi => by rw [m3 i hi, q83]
  have s80 : ∀ i, i < 47 → i ≠ 5 → i ≠ 17 → h2 80 i = h 80 i := fun i i1 i2 i3 => by rw [e80 i (by omega)]; exact c3 i i1 i2 i3
  obtain ⟨r1, r2, r3, r4, r5⟩ := kr
  have w13 : h2 13 = h1 13 := m.1 13 (by decide)
  have w14 : h2 (13 + 1) = h1 (13 + 1) := m.1 14 (by decide)
  have w15 : h2 (13 + 2) = h1 (13 + 2) := m.1 15 (by decide)
  have w16 : h2 (13 + 3) = h1 (13 + 3) := m.1 16 (by decide)
  have d13 : zδe C (zδC h2 13) (zδC h (34 + 4 * ((nx + 10) % 11))) := by
    refine ⟨?_, ?_, fun c hc => ?_, fun c hc => ?_, fun c hc => ?_⟩
    · show h2 13 0 = _
      rw [w13]; exact r1
    · show h2 13 1 = _
      rw [w13]; exact r2
    · show h2 (13 + 1) c = _
      rw [w14]; exact r3 c (by omega)
    · show h2 (13 + 2) c = _
      rw [w15]; exact r4 c (by omega)
    · show h2 (13 + 3) c = _
      rw [w16]; exact r5 c (by omega)
  refine ⟨zI1_c (f1 8 (by decide) (by decide) (by decide) (by decide) (by decide) (by decide)) (f1 9 (by decide) (by decide) (by decide) (by decide) (by decide) (by decide)) (f1 10 (by decide) (by decide) (by decide) (by decide) (by decide) (by decide)) (f1 25 (by decide) (by decide) (by decide) (by decide) (by decide) (by decide)) s80 a1, ⟨?_, ?_⟩, zI3_c (f1 1 (by decide) (by decide) (by decide) (by decide) (by decide) (by decide)) (f1 2 (by decide) (by decide) (by decide) (by decide) (by decide) (by decide)) q79 (by rw [m.2.2.1, q78]) a3, ?_, ?_⟩
  · exact (d13.tr c1).tr ⟨(e80 5 (by decide)).symm, (e80 17 (by decide)).symm, fun c hc => (e80 (75 + c) (by omega)).symm, fun c hc => (e80 (61 + c) (by omega)).symm, fun c hc => (e80 (47 + c) (by omega)).symm⟩
  · rw [w13, r2]; exact c2
  · refine ⟨Nat.mod_lt _ (by decide), by omega, by rw [m.1 32 (by decide)]; exact k1, by rw [m.1 32 (by decide)]; exact k2, m1, fun r hr => ?_⟩
    obtain ⟨d1, d2, d3⟩ := b6 r (by omega)
    have hz : zrg ((nx + 10) % 11) (ct - 1) r = zrg nx ct r := by unfold zrg; omega
    have hzn := zrg_ne b1 b2 (show r < ct by omega)
    rw [hz]
    have er : ∀ a, 34 + 4 * zrg nx ct r ≤ a → a < 34 + 4 * zrg nx ct r + 4 → h2 a = h a := fun a i1 i2 => f1 a (by omega) (by omega) (by omega) (by omega) (by omega) (by omega)
    refine ⟨?_, by rw [er _ (by omega) (by omega)]; exact d2, fun i i1 i2 i3 => by rw [m2, q83, s80 i i1 i2 i3]; exact d3 i i1 i2 i3⟩
    rw [zδC_c er]
    unfold zδS
    rw [m2, q83]; exact d1
  · rw [f1 0 (by decide) (by decide) (by decide) (by decide) (by decide) (by decide), m.2.2.2.1, q78]; exact a5
