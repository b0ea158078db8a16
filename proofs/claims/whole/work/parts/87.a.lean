-- the law's loop
theorem zy_loop {E : zj_E} {b Ln : Nat} {xs : Nat → Int32} {p : Program} {l : Launch} {e : Env} {s : State} {m : MethodId} {below : List Frame} {meth : Method} {c : Code} {A : Nat → Prop} {Q : State → Prop}
    (mkK : ∀ ce sl, ce ≤ 601024 → sl ≤ 7293034 → zj_C E (p, l, e, room_1, s, m, #[Value.ref b], below, meth, c, A, Q, ce, sl) cL_law 7 RL 12) (hX0 : va_X b Ln xs s s.heap ∧ b < s.heap.size ∧ ¬ A b) (hZ : zx_Z s) (hlt : l.stackTraces = false) (hL : Ln ≤ 3072)
    (hend : ∀ ce sl h g xi, ce ≤ 601024 → sl ≤ 7293034 → zj_J E (p, l, e, room_1, s, m, #[Value.ref b], below, meth, c, A, Q, ce, sl) 7 1061 (zyL E b xi) [] h g) :
    ∀ (f k : Nat) (xi : Int32) (h : zj_H) (g : zj_G), Ln < 6 * (k + f) → 6 * k ≤ Ln → xi = nI (6 * k) → zIx h → zj_J E (p, l, e, room_1, s, m, #[Value.ref b], below, meth, c, A, Q, 89 + k, 3899 + 6 * k) 7 23 (zyL E b xi) [] h g := by
  intro f
  induction f with
  | zero => intro k xi h g h1 h2 ei hz; exact absurd h1 (by omega)
  | succ f ih =>
    intro k xi h g h1 h2 ei hz
    have K := mkK (89 + k) (3899 + 6 * k) (by omega) (by omega)
    have K1 := mkK (89 + k + 1) (3899 + 6 * k + 6) (by omega) (by omega)
    have X : zy_C (p, l, e, room_1, s, m, #[Value.ref b], below, meth, c, A, Q, 89 + k, 3899 + 6 * k) b Ln xs := hX0
    refine zj_iload (pc := 23) K dL_law_23 rfl ?_
    refine zj_aload_n (i := 0) (pc := 25) K dL_law_25 rfl rfl ?_
    refine zy_slen (pc := 26) K X dL_law_26 ?_
    refine zj_bipush (v := 6) (pc := 27) K dL_law_27 (by decide) ?_
    refine zj_isub (pc := 29) K dL_law_29 ?_
    refine zj_icmp_gt (tgt := 1061) (pc := 30) K dL_law_30 (by decide) (fun _ => hend _ _ h g xi (by omega) (by omega)) (fun hc => ?_)
    have hi : 6 * k + 6 ≤ Ln := zy_lt hL (by omega) (by rw [← ei]; exact hc)
    have hcl : xi.toNatClampNeg = 6 * k := by rw [ei, nI_clamp (by omega)]
    refine zj_aload_n (i := 0) (pc := 33) K dL_law_33 rfl rfl ?_
    refine zj_iload (pc := 34) K dL_law_34 rfl ?_
    refine zy_sld (pc := 36) K X (by rw [ei]; exact vp_in_nI (by omega) (by omega)) dL_law_36 ?_
    refine zj_bipush (v := 31) (pc := 37) K dL_law_37 (by decide) ?_
    refine zj_iand (pc := 39) K dL_law_39 ?_
    obtain ⟨q, hq, eq⟩ := zb_31 (x := xs xi.toNatClampNeg)
    rw [eq]
    have fin1 : ∀ h' g', zIx h' → zj_J E (p, l, e, room_1, s, m, #[Value.ref b], below, meth, c, A, Q, 89 + k + 1, 3899 + 6 * k + 6) 7 1055 (zyL E b xi) [] h' g' := by
      intro h' g' hz'
      refine zj_iinc (pc := 1055) K1 dL_law_1055 (v := 6) rfl (by decide) rfl rfl rfl ?_
      refine zj_goto (tgt := 23) (pc := 1058) K1 dL_law_1058 (by decide) ?_
      have e2 : 3899 + 6 * k + 6 = 3899 + 6 * (k + 1) := by omega
      have e1 : 89 + k + 1 = 89 + (k + 1) := by omega
      rw [e1, e2]
      exact ih (k + 1) (xi + 6) h' g' (by omega) (by omega) (by rw [ei, show (6 : Int32) = nI 6 from rfl, nI_add, show 6 * k + 6 = 6 * (k + 1) by omega]) hz'
    have fin : ∀ h' g', zIx h' → zj_J E (p, l, e, room_1, s, m, #[Value.ref b], below, meth, c, A, Q, 89 + k, 3899 + 6 * k) 7 1055 (zyL E b xi) [] h' g' := fun h' g' hz' => zy_wide (by omega) (by omega) (fin1 h' g' hz')
    obtain ⟨J, C, u, n, nx, ct, a⟩ := hz
    have hq30 : q = 0 ∨ q = 1 ∨ q = 2 ∨ q = 3 ∨ q = 4 ∨ q = 5 ∨ q = 6 ∨ q = 7 ∨ q = 8 ∨ q = 9 ∨ q = 10 ∨ q = 11 ∨ q = 12 ∨ q = 13 ∨ q = 14 ∨ q = 15 ∨ q = 16 ∨ q = 17 ∨ q = 18 ∨ q = 19 ∨ q = 20 ∨ q = 21 ∨ q = 22 ∨ q = 23 ∨ q = 24 ∨ q = 25 ∨ q = 26 ∨ q = 27 ∨ q = 28 ∨ q = 29 ∨ q = 30 ∨ q = 31 := by omega
    rcases hq30 with rfl | rfl | rfl | rfl | rfl | rfl | rfl | rfl | rfl | rfl | rfl | rfl | rfl | rfl | rfl | rfl | rfl | rfl | rfl | rfl | rfl | rfl | rfl | rfl | rfl | rfl | rfl | rfl | rfl | rfl | rfl | rfl
    · refine zj_tableIn (off := 132) (tgt := 172) (pc := 40) K dL_law_40 (by decide) (by decide) rfl (by decide) ?_
      exact zyk_feed K (by decide) X hL ei hi a fin
    · refine zj_tableIn (off := 205) (tgt := 245) (pc := 40) K dL_law_40 (by decide) (by decide) rfl (by decide) ?_
      exact zyk_end K (by decide) X hL ei hi a fin
    · refine zj_tableIn (off := 230) (tgt := 270) (pc := 40) K dL_law_40 (by decide) (by decide) rfl (by decide) ?_
      exact zyk_text K (by decide) X hL ei hi a fin
    · refine zj_tableIn (off := 243) (tgt := 283) (pc := 40) K dL_law_40 (by decide) (by decide) rfl (by decide) ?_
      exact zyk_fault K (by decide) X hL ei hi a fin
    · refine zj_tableIn (off := 256) (tgt := 296) (pc := 40) K dL_law_40 (by decide) (by decide) rfl (by decide) ?_
      exact zyk_now K (by decide) X hL ei hi a fin
    · refine zj_tableIn (off := 281) (tgt := 321) (pc := 40) K dL_law_40 (by decide) (by decide) rfl (by decide) ?_
      exact zyk_judge K K1 hZ hlt (show 89 + k + 1 ≤ 601024 by omega) (show 3899 + 6 * k + 6 ≤ 7293034 by omega) (by decide) X hL ei hi a fin1
    · refine zj_tableIn (off := 349) (tgt := 389) (pc := 40) K dL_law_40 (by decide) (by decide) rfl (by decide) ?_
      exact zyk_of K K1 hZ hlt (show 89 + k + 1 ≤ 601024 by omega) (show 3899 + 6 * k + 6 ≤ 7293034 by omega) (by decide) X hL ei hi a fin1
    · refine zj_tableIn (off := 417) (tgt := 457) (pc := 40) K dL_law_40 (by decide) (by decide) rfl (by decide) ?_
      exact zyk_pair K (by decide) X hL ei hi a fin
    · refine zj_tableIn (off := 454) (tgt := 494) (pc := 40) K dL_law_40 (by decide) (by decide) rfl (by decide) ?_
      exact zyk_spread K (by decide) X hL ei hi a fin
    · refine zj_tableIn (off := 479) (tgt := 519) (pc := 40) K dL_law_40 (by decide) (by decide) rfl (by decide) ?_
      exact zyk_lawful K (by decide) X hL ei hi a fin
    · refine zj_tableIn (off := 504) (tgt := 544) (pc := 40) K dL_law_40 (by decide) (by decide) rfl (by decide) ?_
      exact zyk_bench K (by decide) X hL ei hi a fin
    · refine zj_tableIn (off := 541) (tgt := 581) (pc := 40) K dL_law_40 (by decide) (by decide) rfl (by decide) ?_
      exact zyk_rank K (by decide) X hL ei hi a fin
    · refine zj_tableIn (off := 578) (tgt := 618) (pc := 40) K dL_law_40 (by decide) (by decide) rfl (by decide) ?_
      exact zyk_tension K (by decide) X hL ei hi a fin
    · refine zj_tableIn (off := 615) (tgt := 655) (pc := 40) K dL_law_40 (by decide) (by decide) rfl (by decide) ?_
      exact zyk_pool K (by decide) X hL ei hi a fin
    · refine zj_tableIn (off := 640) (tgt := 680) (pc := 40) K dL_law_40 (by decide) (by decide) rfl (by decide) ?_
      exact zyk_chances K (by decide) X hL ei hi a fin
    · refine zj_tableIn (off := 677) (tgt := 717) (pc := 40) K dL_law_40 (by decide) (by decide) rfl (by decide) ?_
      exact zyk_worst K (by decide) X hL ei hi a fin
    · refine zj_tableIn (off := 702) (tgt := 742) (pc := 40) K dL_law_40 (by decide) (by decide) rfl (by decide) ?_
      exact zyk_draw K (by decide) X hL ei hi a fin
    · refine zj_tableIn (off := 727) (tgt := 767) (pc := 40) K dL_law_40 (by decide) (by decide) rfl (by decide) ?_
      exact zyk_drawAll K (by decide) X hL ei hi a fin
    · refine zj_tableIn (off := 740) (tgt := 780) (pc := 40) K dL_law_40 (by decide) (by decide) rfl (by decide) ?_
      exact zyk_recuse K (by decide) X hL ei hi a fin
    · refine zj_tableIn (off := 777) (tgt := 817) (pc := 40) K dL_law_40 (by decide) (by decide) rfl (by decide) ?_
      exact zyk_leave K (by decide) X hL ei hi a fin
    · refine zj_tableIn (off := 802) (tgt := 842) (pc := 40) K dL_law_40 (by decide) (by decide) rfl (by decide) ?_
      exact zyk_come K (by decide) X hL ei hi a fin
    · refine zj_tableIn (off := 827) (tgt := 867) (pc := 40) K dL_law_40 (by decide) (by decide) rfl (by decide) ?_
      exact zyk_hear K (by decide) X hL ei hi a fin
    · refine zj_tableIn (off := 852) (tgt := 892) (pc := 40) K dL_law_40 (by decide) (by decide) rfl (by decide) ?_
      exact zyk_evenness K (by decide) X hL ei hi a fin
    · refine zj_tableIn (off := 865) (tgt := 905) (pc := 40) K dL_law_40 (by decide) (by decide) rfl (by decide) ?_
      exact zyk_better K (by decide) X hL ei hi a fin
    · refine zj_tableIn (off := 890) (tgt := 930) (pc := 40) K dL_law_40 (by decide) (by decide) rfl (by decide) ?_
      exact zyk_exchange K (by decide) X hL ei hi a fin
    · refine zj_tableIn (off := 951) (tgt := 991) (pc := 40) K dL_law_40 (by decide) (by decide) rfl (by decide) ?_
      exact zyk_smooth K (by decide) X hL ei hi a fin
    · refine zj_tableIn (off := 964) (tgt := 1004) (pc := 40) K dL_law_40 (by decide) (by decide) rfl (by decide) ?_
      exact zyk_same K (by decide) X hL ei hi a fin
    · refine zj_tableIn (off := 977) (tgt := 1017) (pc := 40) K dL_law_40 (by decide) (by decide) rfl (by decide) ?_
      exact zyk_anew K (by decide) X hL ei hi a fin
    · refine zj_tableIn (off := 1002) (tgt := 1042) (pc := 40) K dL_law_40 (by decide) (by decide) rfl (by decide) ?_
      exact zyk_undo K (by decide) X hL ei hi a fin
    · exact zj_tableOut (tgt := 1055) (pc := 40) K dL_law_40 (Or.inr (by decide)) (by decide) (fin h g ⟨J, C, u, n, nx, ct, a⟩)
    · exact zj_tableOut (tgt := 1055) (pc := 40) K dL_law_40 (Or.inr (by decide)) (by decide) (fin h g ⟨J, C, u, n, nx, ct, a⟩)
    · exact zj_tableOut (tgt := 1055) (pc := 40) K dL_law_40 (Or.inr (by decide)) (by decide) (fin h g ⟨J, C, u, n, nx, ct, a⟩)
