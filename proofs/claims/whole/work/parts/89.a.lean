-- the law's beginning: both objects, the law's longs
section ZN
variable {D : va_G} {dA : Nat → ClassId} {Γ : zi_Γ} {cc : ByteArray} {nL d pc mc ms ce sl : Nat} {own : String} {L : List (Nat × Value)} {S : List Value} {pre rest : va_W}
theorem zi_astore_n (K : zi_C D dA Γ cc nL own d mc ms) {k0 : Fin 4} {i : Nat} {x : Nat} (hdg : decode cc pc = .ok (.astore_n k0, 1)) (hi : (k0 : Nat) = i) (hn : Nat.blt i nL = true) (ha : zj_asc L = true) (h1 : zj_one L = true) (k : zi_J D Γ nL (pc + 1) (zj_ins L i (.ref x)) S pre rest ce sl) : zi_J D Γ nL pc L (.ref x :: S) pre rest ce sl := by
  obtain ⟨p, l, e, R, s, m, args, below, meth, c, A, Q⟩ := Γ
  obtain ⟨hx, hb, hml, hown, hts, hK, hA, hX, hfr, hlo, hmc, hms⟩ := K
  intro ls H locs hl hP hD hS
  exact lv_astore_n (i := i) hx hb hdg hi hl (Nat.blt_eq.mp hn) rfl (fun ls hl => k ls H locs (zj_has_of (lv' := []) ha (zj_one_of h1) hl) hP hD hS)
theorem zi_istore (K : zi_C D dA Γ cc nL own d mc ms) {i : Nat} {x : Int32} (hdg : decode cc pc = .ok (.istore i, 2)) (hn : Nat.blt i nL = true) (ha : zj_asc L = true) (h1 : zj_one L = true) (k : zi_J D Γ nL (pc + 2) (zj_ins L i (.int x)) S pre rest ce sl) : zi_J D Γ nL pc L (.int x :: S) pre rest ce sl := by
  obtain ⟨p, l, e, R, s, m, args, below, meth, c, A, Q⟩ := Γ
  obtain ⟨hx, hb, hml, hown, hts, hK, hA, hX, hfr, hlo, hmc, hms⟩ := K
  intro ls H locs hl hP hD hS
  exact lv_istore hx hb hdg hl (Nat.blt_eq.mp hn) rfl (fun ls hl => k ls H locs (zj_has_of (lv' := []) ha (zj_one_of h1) hl) hP hD hS)
end ZN
theorem zi_at_get {k : Nat} (hk : k < 89) : zj_at k (zj_shL.getD k (zj_arr 0)) := by
  have hl : k < zj_shL.length := hk
  show zj_shL[k]? = some (zj_shL[k]?.getD (zj_arr 0))
  rw [List.getElem?_eq_getElem hl]; rfl
theorem zi_get2 {D : va_G} {dA : Nat → ClassId} {aK aV ad : Nat → Nat} {k : Nat} {q : Nat × va_E} (hq : (zj_ws (D, ad, dA, aK, aV) zi_h0 zi_g0)[k]? = some q) : (zi_L2 dA ad)[k]? = some q := by
  have hk : k < 89 := by
    have h1 := (List.getElem?_eq_some_iff.mp hq).1
    unfold zj_ws at h1
    rw [List.length_mapIdx] at h1
    exact h1
  have h2 := zj_ws_get (D, ad, dA, aK, aV) zi_h0 zi_g0 (zi_at_get hk)
  rw [zj_ent2_eq] at h2
  rw [h2] at hq
  rw [← hq]
  rcases (show k = 0 ∨ k = 1 ∨ k = 2 ∨ k = 3 ∨ k = 4 ∨ k = 5 ∨ k = 6 ∨ k = 7 ∨ k = 8 ∨ k = 9 ∨ k = 10 ∨ k = 11 ∨ k = 12 ∨ k = 13 ∨ k = 14 ∨ k = 15 ∨ k = 16 ∨ k = 17 ∨ k = 18 ∨ k = 19 ∨ k = 20 ∨ k = 21 ∨ k = 22 ∨ k = 23 ∨ k = 24 ∨ k = 25 ∨ k = 26 ∨ k = 27 ∨ k = 28 ∨ k = 29 ∨ k = 30 ∨ k = 31 ∨ k = 32 ∨ k = 33 ∨ k = 34 ∨ k = 35 ∨ k = 36 ∨ k = 37 ∨ k = 38 ∨ k = 39 ∨ k = 40 ∨ k = 41 ∨ k = 42 ∨ k = 43 ∨ k = 44 ∨ k = 45 ∨ k = 46 ∨ k = 47 ∨ k = 48 ∨ k = 49 ∨ k = 50 ∨ k = 51 ∨ k = 52 ∨ k = 53 ∨ k = 54 ∨ k = 55 ∨ k = 56 ∨ k = 57 ∨ k = 58 ∨ k = 59 ∨ k = 60 ∨ k = 61 ∨ k = 62 ∨ k = 63 ∨ k = 64 ∨ k = 65 ∨ k = 66 ∨ k = 67 ∨ k = 68 ∨ k = 69 ∨ k = 70 ∨ k = 71 ∨ k = 72 ∨ k = 73 ∨ k = 74 ∨ k = 75 ∨ k = 76 ∨ k = 77 ∨ k = 78 ∨ k = 79 ∨ k = 80 ∨ k = 81 ∨ k = 82 ∨ k = 83 ∨ k = 84 ∨ k = 85 ∨ k = 86 ∨ k = 87 ∨ k = 88 by omega) with rfl | rfl | rfl | rfl | rfl | rfl | rfl | rfl | rfl | rfl | rfl | rfl | rfl | rfl | rfl | rfl | rfl | rfl | rfl | rfl | rfl | rfl | rfl | rfl | rfl | rfl | rfl | rfl | rfl | rfl | rfl | rfl | rfl | rfl | rfl | rfl | rfl | rfl | rfl | rfl | rfl | rfl | rfl | rfl | rfl | rfl | rfl | rfl | rfl | rfl | rfl | rfl | rfl | rfl | rfl | rfl | rfl | rfl | rfl | rfl | rfl | rfl | rfl | rfl | rfl | rfl | rfl | rfl | rfl | rfl | rfl | rfl | rfl | rfl | rfl | rfl | rfl | rfl | rfl | rfl | rfl | rfl | rfl | rfl | rfl | rfl | rfl | rfl | rfl
  · exact zi_e_0
  · exact zi_e_1
  · exact zi_e_2
  · exact zi_e_3
  · exact zi_e_4
  · exact zi_e_5
  · exact zi_e_6
  · exact zi_e_7
  · exact zi_e_8
  · exact zi_e_9
  · exact zi_e_10
  · exact zi_e_11
  · exact zi_e_12
  · exact zi_e_13
  · exact zi_e_14
  · exact zi_e_15
  · exact zi_e_16
  · exact zi_e_17
  · exact zi_e_18
  · exact zi_e_19
  · exact zi_e_20
  · exact zi_e_21
  · exact zi_e_22
  · exact zi_e_23
  · exact zi_e_24
  · exact zi_e_25
  · exact zi_e_26
  · exact zi_e_27
  · exact zi_e_28
  · exact zi_e_29
  · exact zi_e_30
  · exact zi_e_31
  · exact zi_e_32
  · exact zi_e_33
  · exact zi_e_34
  · exact zi_e_35
  · exact zi_e_36
  · exact zi_e_37
  · exact zi_e_38
  · exact zi_e_39
  · exact zi_e_40
  · exact zi_e_41
  · exact zi_e_42
  · exact zi_e_43
  · exact zi_e_44
  · exact zi_e_45
  · exact zi_e_46
  · exact zi_e_47
  · exact zi_e_48
  · exact zi_e_49
  · exact zi_e_50
  · exact zi_e_51
  · exact zi_e_52
  · exact zi_e_53
  · exact zi_e_54
  · exact zi_e_55
  · exact zi_e_56
  · exact zi_e_57
  · exact zi_e_58
  · exact zi_e_59
  · exact zi_e_60
  · exact zi_e_61
  · exact zi_e_62
  · exact zi_e_63
  · exact zi_e_64
  · exact zi_e_65
  · exact zi_e_66
  · exact zi_e_67
  · exact zi_e_68
  · exact zi_e_69
  · exact zi_e_70
  · exact zi_e_71
  · exact zi_e_72
  · exact zi_e_73
  · exact zi_e_74
  · exact zi_e_75
  · exact zi_e_76
  · exact zi_e_77
  · exact zi_e_78
  · exact zi_e_79
  · exact zi_e_80
  · exact zi_e_81
  · exact zi_e_82
  · exact zi_e_83
  · exact zi_e_84
  · exact zi_e_85
  · exact zi_e_86
  · exact zi_e_87
  · exact zi_e_88
theorem zi_P2 {D : va_G} {dA : Nat → ClassId} {aK aV ad : Nat → Nat} {H : Heap} (hP : va_P D zj_cl (zi_L2 dA ad) H) : va_P D zj_cl (zj_ws (D, ad, dA, aK, aV) zi_h0 zi_g0) H := fun k q hq => hP k q (zi_get2 hq)
theorem zi_D2 {A : Nat → Prop} {D : va_G} {dA : Nat → ClassId} {aK aV ad : Nat → Nat} (hD : va_D A (zi_L2 dA ad)) : va_D A (zj_ws (D, ad, dA, aK, aV) zi_h0 zi_g0) := ⟨fun i j p q hp hq e => hD.1 i j p q (zi_get2 hp) (zi_get2 hq) e, fun k q hq => hD.2 k q (zi_get2 hq)⟩
theorem zi_o34_c {dA : Nat → ClassId} {a a' : Nat → Nat} {f : Nat → Option Nat} (h : ∀ k, k < 34 → a k = a' k) : zi_o34 dA a f = zi_o34 dA a' f := by
  unfold zi_o34
  rw [h 0 (by decide), h 1 (by decide), h 2 (by decide), h 3 (by decide), h 4 (by decide), h 5 (by decide), h 6 (by decide), h 7 (by decide), h 8 (by decide), h 9 (by decide), h 10 (by decide), h 11 (by decide), h 12 (by decide), h 13 (by decide), h 14 (by decide), h 15 (by decide), h 16 (by decide), h 17 (by decide), h 18 (by decide), h 19 (by decide), h 20 (by decide), h 21 (by decide), h 22 (by decide), h 23 (by decide), h 24 (by decide), h 25 (by decide), h 26 (by decide), h 27 (by decide), h 28 (by decide), h 29 (by decide), h 30 (by decide), h 31 (by decide), h 32 (by decide), h 33 (by decide)]
theorem zi_ads_lo {a : Nat → Nat} {t : List Nat} {k : Nat} (h : k < 78) : a k = zi_ads a t k := by unfold zi_ads; rw [if_pos h]
/-- what stands when both objects and the longs are made, by the walk's own addresses -/
theorem zi_made {dA : Nat → ClassId} {a : Nat → Nat} {f : Nat → Option Nat} {h0 a1 a2 a3 a4 a5 a6 a7 a8 a9 q8 : Nat} {ws : va_W} (hf : ∀ k, k < 11 → f k = some (a (34 + 4 * k))) (hw : ws = zi_o78 dA a f ++ zi_mod dA h0 a1 a2 a3 a4 a5 a6 a7 a8 a9 ++ [(q8, .inl (dA 2, 1, .inr (.inl (fun _ => 0))))]) :
    ∃ ad : Nat → Nat, ad 0 = a 0 ∧ ad 78 = h0 ∧ ad 88 = q8 ∧ (∀ (D : va_G) (H : Heap), va_P D zj_cl ws H → va_P D zj_cl (zi_L2 dA ad) H) ∧ ∀ A : Nat → Prop, va_D A ws → va_D A (zi_L2 dA ad) := by
  refine ⟨zi_ads a [h0, a1, a2, a3, a4, a5, a6, a7, a8, a9, q8], rfl, rfl, rfl, ?_⟩
  generalize hg : zi_ads a [h0, a1, a2, a3, a4, a5, a6, a7, a8, a9, q8] = ad
  have h1 : ∀ k, k < 78 → a k = ad k := fun k hk => by rw [← hg]; exact zi_ads_lo hk
  have e1 : zi_o34 dA a f = zi_o34 dA ad f := zi_o34_c (fun k hk => h1 k (by omega))
  have e2 : zi_dkr dA (fun k => a (34 + k)) 11 = zi_dkr dA (fun k => ad (34 + k)) 11 := zi_dkr_c (fun k hk => h1 (34 + k) (by omega))
  have e3 : zi_mod dA h0 a1 a2 a3 a4 a5 a6 a7 a8 a9 = zi_mod dA (ad 78) (ad 79) (ad 80) (ad 81) (ad 82) (ad 83) (ad 84) (ad 85) (ad 86) (ad 87) := by rw [← hg]; rfl
  have e4 : q8 = ad 88 := by rw [← hg]; rfl
  have ef : ∀ k, k < 11 → f k = some (ad (34 + 4 * k)) := fun k hk => by rw [hf k hk, h1 _ (by omega)]
  have ew : ws = zi_o33 dA ad ++ (ad 33, .inl (dA 3, 11, .inr (.inr (.inr (.inr f))))) :: zi_tl dA ad (ad 78) (ad 79) (ad 80) (ad 81) (ad 82) (ad 83) (ad 84) (ad 85) (ad 86) (ad 87) (ad 88) := by
    rw [hw, zi_o78, e1, e2, e3, e4, zi_o33_eq]
    unfold zi_tl
    simp only [List.append_assoc, List.cons_append, List.nil_append]
  have eL : zi_L2 dA ad = zi_o33 dA ad ++ (ad 33, .inl (dA 3, 11, .inr (.inr (.inr (.inr (fun k => some (ad (34 + 4 * k)))))))) :: zi_tl dA ad (ad 78) (ad 79) (ad 80) (ad 81) (ad 82) (ad 83) (ad 84) (ad 85) (ad 86) (ad 87) (ad 88) := by
    unfold zi_L2
    rw [zi_o33_eq, List.append_assoc]; rfl
  rw [ew, eL]
  exact ⟨fun D H hP => zi_P_f ef hP, fun A hD => zi_D_f hD⟩
theorem ziw_c7 : Cond.classLink RL 8 RX7 ∈ zj_tbl := List.mem_filter.mpr ⟨List.mem_of_getElem? (i := 75) (by decide +kernel), by decide +kernel⟩
theorem ziw_c8 : Cond.classLink RL 19 RX8 ∈ zj_tbl := List.mem_filter.mpr ⟨List.mem_of_getElem? (i := 904) (by decide +kernel), by decide +kernel⟩
theorem ziw_m7 : Cond.methodLink RL 18 yX7_init ∈ zj_tbl := List.mem_filter.mpr ⟨List.mem_of_getElem? (i := 77) (by decide +kernel), by decide +kernel⟩
theorem ziw_m8 : Cond.methodLink RL 21 yX8_init ∈ zj_tbl := List.mem_filter.mpr ⟨List.mem_of_getElem? (i := 905) (by decide +kernel), by decide +kernel⟩
theorem ziw_n7 : Cond.instantiable RX7 7 ∈ zj_tbl := List.mem_filter.mpr ⟨List.mem_of_getElem? (i := 76) (by decide +kernel), by decide +kernel⟩
theorem ziw_n8 : Cond.instantiable RX8 28 ∈ zj_tbl := List.mem_filter.mpr ⟨List.mem_of_getElem? (i := 898) (by decide +kernel), by decide +kernel⟩
theorem ziw_i7 : Cond.instanceMethod yX7_init ∈ zj_tbl := List.mem_filter.mpr ⟨List.mem_of_getElem? (i := 78) (by decide +kernel), by decide +kernel⟩
theorem ziw_i8 : Cond.instanceMethod yX8_init ∈ zj_tbl := List.mem_filter.mpr ⟨List.mem_of_getElem? (i := 906) (by decide +kernel), by decide +kernel⟩
theorem ziw_al : Cond.arrayClass .long ∈ zj_tbl := List.mem_filter.mpr ⟨List.mem_of_getElem? (i := 1254) (by decide +kernel), by decide +kernel⟩
set_option maxHeartbeats 4000000 in
theorem zi_law {D : va_G} {dA : Nat → ClassId} {Γ : zi_Γ} {b : Nat} (K : zi_C D dA Γ cL_law 7 RL 12 601024 7293034)
    (kk : ∀ (ad : Nat → Nat) (ws : va_W), (∀ (D : va_G) (H : Heap), va_P D zj_cl ws H → va_P D zj_cl (zi_L2 dA ad) H) → (∀ A : Nat → Prop, va_D A ws → va_D A (zi_L2 dA ad)) → zi_J D Γ 7 23 [(0, .ref b), (1, .ref (ad 0)), (2, .ref (ad 78)), (3, .ref (ad 88)), (4, .int 0)] [] [] ws 89 3899) : zi_J D Γ 7 0 [(0, .ref b)] [] [] [] 0 0 := by
  refine zi_new (pc := 0) (ci := 7) (C := RX7) (T := TX7) (N := 7) (fs := [.null, .null, .null, .null, .null, .null, .int 0]) K tyX7 rfl tyX7_ok zi_df7 ziw_c7 ziw_n7 zi_RX7 (Nat.le_of_ble_eq_true rfl) (Nat.le_of_ble_eq_true rfl) dL_law_0 (fun q7 => ?_)
  refine zi_dup (pc := 3) K dL_law_3 rfl ?_
  refine zi_call (pc := 4) (As := []) (q := q7) (rest0 := []) K zw_yX7_init ziw_m7 ziw_i7 rfl c_X7_init (by decide) rfl (Nat.le_of_ble_eq_true rfl) (Nat.le_of_ble_eq_true rfl) (Nat.le_of_ble_eq_true rfl) dL_law_4 (fun blk hb => ?_)
  obtain ⟨a, f, ea, hf, rfl⟩ := hb
  refine zi_astore_n (i := 1) (pc := 7) K dL_law_7 rfl rfl rfl rfl ?_
  refine zi_new (pc := 8) (ci := 8) (C := RX8) (T := TX8) (N := 28) (fs := [.int 0, .null, .int 0, .int 0, .int 0, .int 0, .int 0, .int 0, .int 0, .int 0, .long 0, .null, .null, .null, .null, .null, .null, .int 0, .null, .null, .int 0, .int 0, .int 0, .int 0, .int 0, .int 0, .int 0, .int 0]) K tyX8 rfl tyX8_ok zi_df8 ziw_c8 ziw_n8 zi_RX8 (Nat.le_of_ble_eq_true rfl) (Nat.le_of_ble_eq_true rfl) dL_law_8 (fun q8 => ?_)
  refine zi_dup (pc := 11) K dL_law_11 rfl ?_
  refine zi_call (pc := 12) (As := []) (q := q8) (rest0 := [] ++ zi_o78 dA a f) K zw_yX8_init ziw_m8 ziw_i8 rfl c_X8_init (by decide) rfl (Nat.le_of_ble_eq_true rfl) (Nat.le_of_ble_eq_true rfl) (Nat.le_of_ble_eq_true rfl) dL_law_12 (fun blk hb => ?_)
  obtain ⟨a1, a2, a3, a4, a5, a6, a7, a8, a9, rfl⟩ := hb
  refine zi_astore_n (i := 2) (pc := 15) K dL_law_15 rfl rfl rfl rfl ?_
  refine zi_iconst (v := 1) (pc := 16) K dL_law_16 (by decide) ?_
  refine zi_newa (pc := 17) (atype := .long) (ty := .long) (kd := 2) (N := 1) (a0 := (1, .inr (.inl (fun _ => 0)))) K rfl ziw_al rfl (fun C z => by cases z) (fun _ => rfl) (by decide) (by decide) (Nat.le_of_ble_eq_true rfl) (Nat.le_of_ble_eq_true rfl) (Nat.le_of_ble_eq_true rfl) dL_law_17 (fun qL => ?_)
  refine zi_astore_n (i := 3) (pc := 19) K dL_law_19 rfl rfl rfl rfl ?_
  refine zi_iconst (v := 0) (pc := 20) K dL_law_20 (by decide) ?_
  refine zi_istore (i := 4) (pc := 21) K dL_law_21 rfl rfl rfl ?_
  obtain ⟨ad, d0, d1, d2, dP, dD⟩ := zi_made (dA := dA) (a := a) (f := f) (h0 := q8) (a1 := a1) (a2 := a2) (a3 := a3) (a4 := a4) (a5 := a5) (a6 := a6) (a7 := a7) (a8 := a8) (a9 := a9) (q8 := qL) hf rfl
  have z := kk ad _ dP dD
  rw [d0, d1, d2, ea] at z
  exact z
