theorem zm_dec_t {p : Bool} {q : Prop} [Decidable q] {r : Bool} (h1 : q) (h2 : p = true) (h3 : r = true) : (decide q && (p && r)) = true := by rw [decide_eq_true h1, h2, h3]; rfl
def zm_cnt (h : zj_H) (J : Nat) (j : Nat) (w : Int32) (c : Nat) : Bool := if w = 3 then bt (h 80 (61 + c)) j else if w = 4 then decide (zc_opt (zc_pre (zmS h 80) (h 80 (61 + c)) J) = nI j) else bt (h 80 (47 + c)) j
theorem zm_cnt3 {h : zj_H} {J j : Nat} {w : Int32} {c : Nat} (h3 : w = 3) : zm_cnt h J j w c = bt (h 80 (61 + c)) j := by unfold zm_cnt; rw [if_pos h3]
theorem zm_cnt4 {h : zj_H} {J j : Nat} {w : Int32} {c : Nat} (h3 : ¬ w = 3) (h4 : w = 4) : zm_cnt h J j w c = decide (zc_opt (zc_pre (zmS h 80) (h 80 (61 + c)) J) = nI j) := by unfold zm_cnt; rw [if_neg h3, if_pos h4]
theorem zm_cnt5 {h : zj_H} {J j : Nat} {w : Int32} {c : Nat} (h3 : ¬ w = 3) (h4 : ¬ w = 4) : zm_cnt h J j w c = bt (h 80 (47 + c)) j := by unfold zm_cnt; rw [if_neg h3, if_neg h4]
theorem zm_sum_f {p : Nat → Bool} {f : Nat → Int32} {i : Nat} {x : Int32} (ex : x = zc_sum (fun j => if p j = true then f j else 0) i) (h : p i = false) : x = zc_sum (fun j => if p j = true then f j else 0) (i + 1) := zc_sum_f ex h
set_option maxHeartbeats 4000000 in
set_option maxRecDepth 20000 in
theorem m_X8_pairOf {l : Launch} {E : zj_E} {h : zj_H} {g : zj_G} {s C i j : Nat} (hs_s : zj_at s (zj_arr 89)) (eC : h s 18 = nI C) (hC : C ≤ 14) {x y w : Int32} (ex : x = nI i) (ey : y = nI j) (hi9 : i < 9) (hj9 : j < 9) : zj_M l E yX8_pairOf cX8_pairOf 6 (some .int) 1 [.ref (E.2.1 s), .int x, .int y, .int w] h g (zj_pI (nI (zs_pair C (zmB h s) w i j)) h g) := by
  refine zj_M.of RX8 (by decide) rfl (Nat.le_of_ble_eq_true rfl) ?_
  intro Γ hΓ K Rt
  subst hΓ
  have loop : ∀ (n c : Nat) (x4 x5 : Int32), C + 1 ≤ c + n → c ≤ C → (x4 = nI (zc_cnt (fun q => decide (¬ nI q = w) && (bt (zmB h s q) i && bt (zmB h s q) j)) c)) → (x5 = nI c) → zj_J E Γ 6 6 [(0, .ref (E.2.1 s)), (1, .int x), (2, .int y), (3, .int w), (4, .int x4), (5, .int x5)] [] h g := by
    intro n
    induction n with
    | zero => intro c x4 x5  h1 h2; omega
    | succ n ih =>
      intro c x4 x5  h1 h2 e4 e5
      refine zj_iload (pc := 6) K dX8_pairOf_6 rfl ?_
      refine zj_aload_n (i := 0) (pc := 8) K dX8_pairOf_8 rfl rfl ?_
      refine zj_bipush (v := 18) (pc := 9) K dX8_pairOf_9 (by decide) ?_
      refine zj_ald (j := 18) (pc := 11) K hs_s rfl (by decide) (by first | decide | omega) dX8_pairOf_11 ?_
      refine zj_icmp_ge (tgt := 58) (pc := 12) K dX8_pairOf_12 (by decide) (fun c_12 => ?_) (fun c_12 => ?_)
      · have hi : c = C := Nat.le_antisymm h2 (zz_ge e5 eC (by omega) (by omega) c_12)
        subst hi
        refine zj_iload (pc := 58) K dX8_pairOf_58 rfl ?_
        exact zj_iret K Rt dX8_pairOf_60 (⟨by rw [e4]; rfl, rfl, rfl⟩)
      · have hi : c < C := zz_nge e5 eC (by omega) (by omega) c_12
        refine zj_iload (pc := 15) K dX8_pairOf_15 rfl ?_
        refine zj_iload_n (i := 3) (pc := 17) K dX8_pairOf_17 rfl rfl ?_
        refine zj_icmp_eq (tgt := 52) (pc := 18) K dX8_pairOf_18 (by decide) (fun c_18 => ?_) (fun c_18 => ?_)
        · have hpf : (decide (¬ nI c = w) && (bt (zmB h s c) i && bt (zmB h s c) j)) = false := by rw [decide_eq_false (fun z => z (by rw [← e5]; exact c_18))]; rfl
          refine zj_iinc (v := 1) (pc := 52) K dX8_pairOf_52 rfl (by decide) rfl rfl rfl ?_
          refine zj_goto (tgt := 6) (pc := 55) K dX8_pairOf_55 (by decide) ?_
          exact ih (c + 1) _ _ (by omega) (by omega) (by first | exact zc_cnt_t e4 hpt | exact zc_cnt_f e4 hpf) (zz_up e5)
        · have c_18 : ¬ nI c = w := by rw [← e5]; exact c_18
          refine zj_aload_n (i := 0) (pc := 21) K dX8_pairOf_21 rfl rfl ?_
          refine zj_bipush (v := 61) (pc := 22) K dX8_pairOf_22 (by decide) ?_
          refine zj_iload (pc := 24) K dX8_pairOf_24 rfl ?_
          refine zj_iadd (pc := 26) K dX8_pairOf_26 ?_
          refine zj_ald (j := 61 + c) (pc := 27) K hs_s (zm_ix rfl e5) (by omega) (by first | decide | omega) dX8_pairOf_27 ?_
          refine zj_iload_n (i := 1) (pc := 28) K dX8_pairOf_28 rfl rfl ?_
          refine zj_cS2I (pc := 29) K lm_X8_105 (m_X8_has ex (by omega)) (by decide) rfl (Nat.le_of_ble_eq_true rfl) dX8_pairOf_29 ?_
          refine zj_if_eq (tgt := 52) (pc := 32) K dX8_pairOf_32 (by decide) (fun c_32 => ?_) (fun c_32 => ?_)
          · replace c_32 := zz_i0.mp c_32
            have hpf : (decide (¬ nI c = w) && (bt (zmB h s c) i && bt (zmB h s c) j)) = false := by rw [show bt (zmB h s c) i = false from c_32]; simp
            refine zj_iinc (v := 1) (pc := 52) K dX8_pairOf_52 rfl (by decide) rfl rfl rfl ?_
            refine zj_goto (tgt := 6) (pc := 55) K dX8_pairOf_55 (by decide) ?_
            exact ih (c + 1) _ _ (by omega) (by omega) (by first | exact zc_cnt_t e4 hpt | exact zc_cnt_f e4 hpf) (zz_up e5)
          · replace c_32 := zz_n0.mp c_32
            refine zj_aload_n (i := 0) (pc := 35) K dX8_pairOf_35 rfl rfl ?_
            refine zj_bipush (v := 61) (pc := 36) K dX8_pairOf_36 (by decide) ?_
            refine zj_iload (pc := 38) K dX8_pairOf_38 rfl ?_
            refine zj_iadd (pc := 40) K dX8_pairOf_40 ?_
            refine zj_ald (j := 61 + c) (pc := 41) K hs_s (zm_ix rfl e5) (by omega) (by first | decide | omega) dX8_pairOf_41 ?_
            refine zj_iload_n (i := 2) (pc := 42) K dX8_pairOf_42 rfl rfl ?_
            refine zj_cS2I (pc := 43) K lm_X8_105 (m_X8_has ey (by omega)) (by decide) rfl (Nat.le_of_ble_eq_true rfl) dX8_pairOf_43 ?_
            refine zj_if_eq (tgt := 52) (pc := 46) K dX8_pairOf_46 (by decide) (fun c_46 => ?_) (fun c_46 => ?_)
            · replace c_46 := zz_i0.mp c_46
              have hpf : (decide (¬ nI c = w) && (bt (zmB h s c) i && bt (zmB h s c) j)) = false := by rw [show bt (zmB h s c) j = false from c_46]; simp
              refine zj_iinc (v := 1) (pc := 52) K dX8_pairOf_52 rfl (by decide) rfl rfl rfl ?_
              refine zj_goto (tgt := 6) (pc := 55) K dX8_pairOf_55 (by decide) ?_
              exact ih (c + 1) _ _ (by omega) (by omega) (by first | exact zc_cnt_t e4 hpt | exact zc_cnt_f e4 hpf) (zz_up e5)
            · replace c_46 := zz_n0.mp c_46
              have hpt : (decide (¬ nI c = w) && (bt (zmB h s c) i && bt (zmB h s c) j)) = true := zm_dec_t c_18 c_32 c_46
              refine zj_iinc (v := 1) (pc := 49) K dX8_pairOf_49 rfl (by decide) rfl rfl rfl ?_
              refine zj_iinc (v := 1) (pc := 52) K dX8_pairOf_52 rfl (by decide) rfl rfl rfl ?_
              refine zj_goto (tgt := 6) (pc := 55) K dX8_pairOf_55 (by decide) ?_
              exact ih (c + 1) _ _ (by omega) (by omega) (by first | exact zc_cnt_t e4 hpt | exact zc_cnt_f e4 hpf) (zz_up e5)
  show zj_J E Γ 6 0 [(0, .ref (E.2.1 s)), (1, .int x), (2, .int y), (3, .int w)] [] h g
  refine zj_iconst (v := 0) (pc := 0) K dX8_pairOf_0 (by decide) ?_
  refine zj_istore (pc := 1) K dX8_pairOf_1 rfl rfl rfl ?_
  refine zj_iconst (v := 0) (pc := 3) K dX8_pairOf_3 (by decide) ?_
  refine zj_istore (pc := 4) K dX8_pairOf_4 rfl rfl rfl ?_
  exact loop (C + 1) 0 _ _ (by omega) (by omega) rfl rfl

set_option maxHeartbeats 4000000 in
set_option maxRecDepth 20000 in
theorem m_X8_loadOf {l : Launch} {E : zj_E} {h : zj_H} {g : zj_G} {s J C j : Nat} (hs_s : zj_at s (zj_arr 89)) (eJ : h s 7 = nI J) (hJ : J ≤ 9) (eC : h s 18 = nI C) (hC : C ≤ 14) {x w : Int32} (ex : x = nI j) (hj9 : j < 9) : zj_M l E yX8_loadOf cX8_loadOf 5 (some .int) 2 [.ref (E.2.1 s), .int x, .int w] h g (zj_pI (zs_load C J (zmB h s) (zmW h s) (zmS h s) (h s 3) w j) h g) := by
  refine zj_M.of RX8 (by decide) rfl (Nat.le_of_ble_eq_true rfl) ?_
  intro Γ hΓ K Rt
  subst hΓ
  have loop : ∀ (n c : Nat) (x3 x4 : Int32), C + 1 ≤ c + n → c ≤ C → (x3 = zc_sum (fun q => if (decide (¬ nI q = w) && bt (zmB h s q) j) = true then zmW h s q + (if zc_opt (zc_pre (zmS h s) (zmB h s q) J) = nI j then h s 3 else 0) else 0) c) → (x4 = nI c) → zj_J E Γ 5 5 [(0, .ref (E.2.1 s)), (1, .int x), (2, .int w), (3, .int x3), (4, .int x4)] [] h g := by
    intro n
    induction n with
    | zero => intro c x3 x4  h1 h2; omega
    | succ n ih =>
      intro c x3 x4  h1 h2 e3 e4
      refine zj_iload (pc := 5) K dX8_loadOf_5 rfl ?_
      refine zj_aload_n (i := 0) (pc := 7) K dX8_loadOf_7 rfl rfl ?_
      refine zj_bipush (v := 18) (pc := 8) K dX8_loadOf_8 (by decide) ?_
      refine zj_ald (j := 18) (pc := 10) K hs_s rfl (by decide) (by first | decide | omega) dX8_loadOf_10 ?_
      refine zj_icmp_ge (tgt := 73) (pc := 11) K dX8_loadOf_11 (by decide) (fun c_11 => ?_) (fun c_11 => ?_)
      · have hi : c = C := Nat.le_antisymm h2 (zz_ge e4 eC (by omega) (by omega) c_11)
        subst hi
        refine zj_iload_n (i := 3) (pc := 73) K dX8_loadOf_73 rfl rfl ?_
        exact zj_iret K Rt dX8_loadOf_74 (⟨by rw [e3]; rfl, rfl, rfl⟩)
      · have hi : c < C := zz_nge e4 eC (by omega) (by omega) c_11
        refine zj_iload (pc := 14) K dX8_loadOf_14 rfl ?_
        refine zj_iload_n (i := 2) (pc := 16) K dX8_loadOf_16 rfl rfl ?_
        refine zj_icmp_eq (tgt := 67) (pc := 17) K dX8_loadOf_17 (by decide) (fun c_17 => ?_) (fun c_17 => ?_)
        · have hpf : (decide (¬ nI c = w) && bt (zmB h s c) j) = false := by rw [decide_eq_false (fun z => z (by rw [← e4]; exact c_17))]; rfl
          refine zj_iinc (v := 1) (pc := 67) K dX8_loadOf_67 rfl (by decide) rfl rfl rfl ?_
          refine zj_goto (tgt := 5) (pc := 70) K dX8_loadOf_70 (by decide) ?_
          exact ih (c + 1) _ _ (by omega) (by omega) (by first | exact zc_sum_t (p := fun q => decide (¬ nI q = w) && bt (zmB h s q) j) (f := fun q => zmW h s q + (if zc_opt (zc_pre (zmS h s) (zmB h s q) J) = nI j then h s 3 else 0)) e3 hpt (by show _ = zmW h s c + _; rw [hch]; rfl) | exact zc_sum_f (p := fun q => decide (¬ nI q = w) && bt (zmB h s q) j) (f := fun q => zmW h s q + (if zc_opt (zc_pre (zmS h s) (zmB h s q) J) = nI j then h s 3 else 0)) e3 hpf) (zz_up e4)
        · have c_17 : ¬ nI c = w := by rw [← e4]; exact c_17
          refine zj_aload_n (i := 0) (pc := 20) K dX8_loadOf_20 rfl rfl ?_
          refine zj_bipush (v := 61) (pc := 21) K dX8_loadOf_21 (by decide) ?_
          refine zj_iload (pc := 23) K dX8_loadOf_23 rfl ?_
          refine zj_iadd (pc := 25) K dX8_loadOf_25 ?_
          refine zj_ald (j := 61 + c) (pc := 26) K hs_s (zm_ix rfl e4) (by omega) (by first | decide | omega) dX8_loadOf_26 ?_
          refine zj_iload_n (i := 1) (pc := 27) K dX8_loadOf_27 rfl rfl ?_
          refine zj_cS2I (pc := 28) K lm_X8_105 (m_X8_has ex (by omega)) (by decide) rfl (Nat.le_of_ble_eq_true rfl) dX8_loadOf_28 ?_
          refine zj_if_eq (tgt := 67) (pc := 31) K dX8_loadOf_31 (by decide) (fun c_31 => ?_) (fun c_31 => ?_)
          · replace c_31 := zz_i0.mp c_31
            have hpf : (decide (¬ nI c = w) && bt (zmB h s c) j) = false := by rw [show bt (zmB h s c) j = false from c_31]; simp
            refine zj_iinc (v := 1) (pc := 67) K dX8_loadOf_67 rfl (by decide) rfl rfl rfl ?_
            refine zj_goto (tgt := 5) (pc := 70) K dX8_loadOf_70 (by decide) ?_
            exact ih (c + 1) _ _ (by omega) (by omega) (by first | exact zc_sum_t (p := fun q => decide (¬ nI q = w) && bt (zmB h s q) j) (f := fun q => zmW h s q + (if zc_opt (zc_pre (zmS h s) (zmB h s q) J) = nI j then h s 3 else 0)) e3 hpt (by show _ = zmW h s c + _; rw [hch]; rfl) | exact zc_sum_f (p := fun q => decide (¬ nI q = w) && bt (zmB h s q) j) (f := fun q => zmW h s q + (if zc_opt (zc_pre (zmS h s) (zmB h s q) J) = nI j then h s 3 else 0)) e3 hpf) (zz_up e4)
          · replace c_31 := zz_n0.mp c_31
            have hpt : (decide (¬ nI c = w) && bt (zmB h s c) j) = true := by rw [decide_eq_true c_17, show bt (zmB h s c) j = true from c_31]; rfl
            refine zj_iload_n (i := 3) (pc := 34) K dX8_loadOf_34 rfl rfl ?_
            refine zj_aload_n (i := 0) (pc := 35) K dX8_loadOf_35 rfl rfl ?_
            refine zj_bipush (v := 19) (pc := 36) K dX8_loadOf_36 (by decide) ?_
            refine zj_iload (pc := 38) K dX8_loadOf_38 rfl ?_
            refine zj_iadd (pc := 40) K dX8_loadOf_40 ?_
            refine zj_ald (j := 19 + c) (pc := 41) K hs_s (zm_ix rfl e4) (by omega) (by first | decide | omega) dX8_loadOf_41 ?_
            refine zj_aload_n (i := 0) (pc := 42) K dX8_loadOf_42 rfl rfl ?_
            refine zj_aload_n (i := 0) (pc := 43) K dX8_loadOf_43 rfl rfl ?_
            refine zj_bipush (v := 61) (pc := 44) K dX8_loadOf_44 (by decide) ?_
            refine zj_iload (pc := 46) K dX8_loadOf_46 rfl ?_
            refine zj_iadd (pc := 48) K dX8_loadOf_48 ?_
            refine zj_ald (j := 61 + c) (pc := 49) K hs_s (zm_ix rfl e4) (by omega) (by first | decide | omega) dX8_loadOf_49 ?_
            refine zj_cS2I (pc := 50) K lm_X8_139 (m_X8_presides hs_s eJ hJ) (by decide) rfl (Nat.le_of_ble_eq_true rfl) dX8_loadOf_50 ?_
            refine zj_iload_n (i := 1) (pc := 53) K dX8_loadOf_53 rfl rfl ?_
            refine zj_icmp_ne (tgt := 63) (pc := 54) K dX8_loadOf_54 (by decide) (fun c_54 => ?_) (fun c_54 => ?_)
            · have hch : (if zc_opt (zc_pre (zmS h s) (zmB h s c) J) = nI j then h s 3 else 0) = 0 := if_neg (by rw [← ex]; exact c_54)
              refine zj_iconst (v := 0) (pc := 63) K dX8_loadOf_63 (by decide) ?_
              refine zj_iadd (pc := 64) K dX8_loadOf_64 ?_
              refine zj_iadd (pc := 65) K dX8_loadOf_65 ?_
              refine zj_istore_n (i := 3) (pc := 66) K dX8_loadOf_66 rfl rfl rfl rfl ?_
              refine zj_iinc (v := 1) (pc := 67) K dX8_loadOf_67 rfl (by decide) rfl rfl rfl ?_
              refine zj_goto (tgt := 5) (pc := 70) K dX8_loadOf_70 (by decide) ?_
              exact ih (c + 1) _ _ (by omega) (by omega) (by first | exact zc_sum_t (p := fun q => decide (¬ nI q = w) && bt (zmB h s q) j) (f := fun q => zmW h s q + (if zc_opt (zc_pre (zmS h s) (zmB h s q) J) = nI j then h s 3 else 0)) e3 hpt (by show _ = zmW h s c + _; rw [hch]; rfl) | exact zc_sum_f (p := fun q => decide (¬ nI q = w) && bt (zmB h s q) j) (f := fun q => zmW h s q + (if zc_opt (zc_pre (zmS h s) (zmB h s q) J) = nI j then h s 3 else 0)) e3 hpf) (zz_up e4)
            · have hch : (if zc_opt (zc_pre (zmS h s) (zmB h s c) J) = nI j then h s 3 else 0) = h s 3 := if_pos (by rw [← ex]; exact c_54)
              refine zj_aload_n (i := 0) (pc := 57) K dX8_loadOf_57 rfl rfl ?_
              refine zj_iconst (v := 3) (pc := 58) K dX8_loadOf_58 (by decide) ?_
              refine zj_ald (j := 3) (pc := 59) K hs_s rfl (by decide) (by first | decide | omega) dX8_loadOf_59 ?_
              refine zj_goto (tgt := 64) (pc := 60) K dX8_loadOf_60 (by decide) ?_
              refine zj_iadd (pc := 64) K dX8_loadOf_64 ?_
              refine zj_iadd (pc := 65) K dX8_loadOf_65 ?_
              refine zj_istore_n (i := 3) (pc := 66) K dX8_loadOf_66 rfl rfl rfl rfl ?_
              refine zj_iinc (v := 1) (pc := 67) K dX8_loadOf_67 rfl (by decide) rfl rfl rfl ?_
              refine zj_goto (tgt := 5) (pc := 70) K dX8_loadOf_70 (by decide) ?_
              exact ih (c + 1) _ _ (by omega) (by omega) (by first | exact zc_sum_t (p := fun q => decide (¬ nI q = w) && bt (zmB h s q) j) (f := fun q => zmW h s q + (if zc_opt (zc_pre (zmS h s) (zmB h s q) J) = nI j then h s 3 else 0)) e3 hpt (by show _ = zmW h s c + _; rw [hch]; rfl) | exact zc_sum_f (p := fun q => decide (¬ nI q = w) && bt (zmB h s q) j) (f := fun q => zmW h s q + (if zc_opt (zc_pre (zmS h s) (zmB h s q) J) = nI j then h s 3 else 0)) e3 hpf) (zz_up e4)
  show zj_J E Γ 5 0 [(0, .ref (E.2.1 s)), (1, .int x), (2, .int w)] [] h g
  refine zj_iconst (v := 0) (pc := 0) K dX8_loadOf_0 (by decide) ?_
  refine zj_istore_n (i := 3) (pc := 1) K dX8_loadOf_1 rfl rfl rfl rfl ?_
  refine zj_iconst (v := 0) (pc := 2) K dX8_loadOf_2 (by decide) ?_
  refine zj_istore (pc := 3) K dX8_loadOf_3 rfl rfl rfl ?_
  exact loop (C + 1) 0 _ _ (by omega) (by omega) rfl rfl

set_option maxHeartbeats 4000000 in
set_option maxRecDepth 20000 in
theorem m_X8_tensionOf {l : Launch} {E : zj_E} {h : zj_H} {g : zj_G} {s J C : Nat} (hs_s : zj_at s (zj_arr 89)) (eJ : h s 7 = nI J) (hJ : J ≤ 9) (eC : h s 18 = nI C) (hC : C ≤ 14) {w b : Int32} : zj_M l E yX8_tensionOf cX8_tensionOf 7 (some .int) 3 [.ref (E.2.1 s), .int w, .int b] h g (zj_pI (zs_ten (h s 1) (h s 2) (h s 3) J C (zmS h s) (zmW h s) (zmB h s) w b) h g) := by
  refine zj_M.of RX8 (by decide) rfl (Nat.le_of_ble_eq_true rfl) ?_
  intro Γ hΓ K Rt
  subst hΓ
  have loop : ∀ (n i : Nat) (x3 x4 x5 : Int32), J + 1 ≤ i + n → i ≤ J → (x3 = zc_sum (fun a => if bt b a = true then zc_sum (fun c => if bt b c = true then nI (zs_pair C (zmB h s) w a c) else 0) a else 0) i) → (x4 = zc_sum (fun a => if bt b a = true then zs_load C J (zmB h s) (zmW h s) (zmS h s) (h s 3) w a else 0) i) → (x5 = nI i) → zj_J E Γ 7 8 [(0, .ref (E.2.1 s)), (1, .int w), (2, .int b), (3, .int x3), (4, .int x4), (5, .int x5)] [] h g := by
    intro n
    induction n with
    | zero => intro i x3 x4 x5  h1 h2; omega
    | succ n ih =>
      intro i x3 x4 x5  h1 h2 e3 e4 e5
      have inner : bt b i = true → i < J → ∀ (m c : Nat) (y3 y4 y6 : Int32), i + 1 ≤ c + m → c ≤ i → (y3 = zc_sum (fun a => if bt b a = true then zc_sum (fun c => if bt b c = true then nI (zs_pair C (zmB h s) w a c) else 0) a else 0) i + zc_sum (fun c => if bt b c = true then nI (zs_pair C (zmB h s) w i c) else 0) c) → (y4 = zc_sum (fun a => if bt b a = true then zs_load C J (zmB h s) (zmW h s) (zmS h s) (h s 3) w a else 0) (i + 1)) → (y6 = nI c) → zj_J E Γ 7 44 [(0, .ref (E.2.1 s)), (1, .int w), (2, .int b), (3, .int y3), (4, .int y4), (5, .int x5), (6, .int y6)] [] h g := by
        intro c_23 hi m
        induction m with
        | zero => intro c y3 y4 y6  h3 h4; omega
        | succ m ih2 =>
          intro c y3 y4 y6  h3 h4 e3 e4 e6
          refine zj_iload (pc := 44) K dX8_tensionOf_44 rfl ?_
          refine zj_iload (pc := 46) K dX8_tensionOf_46 rfl ?_
          refine zj_icmp_ge (tgt := 78) (pc := 48) K dX8_tensionOf_48 (by decide) (fun c_48 => ?_) (fun c_48 => ?_)
          · have hi2 : c = i := Nat.le_antisymm h4 (zz_ge e6 e5 (by omega) (by omega) c_48)
            refine zj_iinc (v := 1) (pc := 78) K dX8_tensionOf_78 rfl (by decide) rfl rfl rfl ?_
            refine zj_goto (tgt := 8) (pc := 81) K dX8_tensionOf_81 (by decide) ?_
            refine zj_pick [0, 1, 2, 3, 4, 5] ?_
            exact ih (i + 1) _ _ _ (by omega) (by omega) (by rw [e3, hi2, zc_sum, c_23]; simp) e4 (zz_up e5)
          · have hi2 : c < i := zz_nge e6 e5 (by omega) (by omega) c_48
            refine zj_iload_n (i := 2) (pc := 51) K dX8_tensionOf_51 rfl rfl ?_
            refine zj_iload (pc := 52) K dX8_tensionOf_52 rfl ?_
            refine zj_cS2I (pc := 54) K lm_X8_105 (m_X8_has e6 (by omega)) (by decide) rfl (Nat.le_of_ble_eq_true rfl) dX8_tensionOf_54 ?_
            refine zj_if_eq (tgt := 72) (pc := 57) K dX8_tensionOf_57 (by decide) (fun c_57 => ?_) (fun c_57 => ?_)
            · replace c_57 := zz_i0.mp c_57
              refine zj_iinc (v := 1) (pc := 72) K dX8_tensionOf_72 rfl (by decide) rfl rfl rfl ?_
              refine zj_goto (tgt := 44) (pc := 75) K dX8_tensionOf_75 (by decide) ?_
              exact ih2 (c + 1) _ _ _ (by omega) (by omega) (by rw [e3, zc_sum, c_57]; simp [Int32.add_assoc]) e4 (zz_up e6)
            · replace c_57 := zz_n0.mp c_57
              refine zj_iload_n (i := 3) (pc := 60) K dX8_tensionOf_60 rfl rfl ?_
              refine zj_aload_n (i := 0) (pc := 61) K dX8_tensionOf_61 rfl rfl ?_
              refine zj_iload (pc := 62) K dX8_tensionOf_62 rfl ?_
              refine zj_iload (pc := 64) K dX8_tensionOf_64 rfl ?_
              refine zj_iload_n (i := 1) (pc := 66) K dX8_tensionOf_66 rfl rfl ?_
              refine zj_cS4I (pc := 67) K lm_X8_147 (m_X8_pairOf hs_s eC hC e5 e6 (by omega) (by omega)) (by decide) rfl (Nat.le_of_ble_eq_true rfl) dX8_tensionOf_67 ?_
              refine zj_iadd (pc := 70) K dX8_tensionOf_70 ?_
              refine zj_istore_n (i := 3) (pc := 71) K dX8_tensionOf_71 rfl rfl rfl rfl ?_
              refine zj_iinc (v := 1) (pc := 72) K dX8_tensionOf_72 rfl (by decide) rfl rfl rfl ?_
              refine zj_goto (tgt := 44) (pc := 75) K dX8_tensionOf_75 (by decide) ?_
              exact ih2 (c + 1) _ _ _ (by omega) (by omega) (by rw [e3, zc_sum, c_57]; simp [Int32.add_assoc]) e4 (zz_up e6)
      refine zj_iload (pc := 8) K dX8_tensionOf_8 rfl ?_
      refine zj_aload_n (i := 0) (pc := 10) K dX8_tensionOf_10 rfl rfl ?_
      refine zj_bipush (v := 7) (pc := 11) K dX8_tensionOf_11 (by decide) ?_
      refine zj_ald (j := 7) (pc := 13) K hs_s rfl (by decide) (by first | decide | omega) dX8_tensionOf_13 ?_
      refine zj_icmp_ge (tgt := 84) (pc := 14) K dX8_tensionOf_14 (by decide) (fun c_14 => ?_) (fun c_14 => ?_)
      · have hi : i = J := Nat.le_antisymm h2 (zz_ge e5 eJ (by omega) (by omega) c_14)
        refine zj_aload_n (i := 0) (pc := 84) K dX8_tensionOf_84 rfl rfl ?_
        refine zj_iconst (v := 1) (pc := 85) K dX8_tensionOf_85 (by decide) ?_
        refine zj_ald (j := 1) (pc := 86) K hs_s rfl (by decide) (by first | decide | omega) dX8_tensionOf_86 ?_
        refine zj_iload_n (i := 3) (pc := 87) K dX8_tensionOf_87 rfl rfl ?_
        refine zj_imul (pc := 88) K dX8_tensionOf_88 ?_
        refine zj_aload_n (i := 0) (pc := 89) K dX8_tensionOf_89 rfl rfl ?_
        refine zj_iconst (v := 2) (pc := 90) K dX8_tensionOf_90 (by decide) ?_
        refine zj_ald (j := 2) (pc := 91) K hs_s rfl (by decide) (by first | decide | omega) dX8_tensionOf_91 ?_
        refine zj_iload (pc := 92) K dX8_tensionOf_92 rfl ?_
        refine zj_imul (pc := 94) K dX8_tensionOf_94 ?_
        refine zj_iadd (pc := 95) K dX8_tensionOf_95 ?_
        exact zj_iret K Rt dX8_tensionOf_96 (⟨by rw [e3, e4, hi]; rfl, rfl, rfl⟩)
      · have hi : i < J := zz_nge e5 eJ (by omega) (by omega) c_14
        refine zj_iload_n (i := 2) (pc := 17) K dX8_tensionOf_17 rfl rfl ?_
        refine zj_iload (pc := 18) K dX8_tensionOf_18 rfl ?_
        refine zj_cS2I (pc := 20) K lm_X8_105 (m_X8_has e5 (by omega)) (by decide) rfl (Nat.le_of_ble_eq_true rfl) dX8_tensionOf_20 ?_
        refine zj_if_ne (tgt := 29) (pc := 23) K dX8_tensionOf_23 (by decide) (fun c_23 => ?_) (fun c_23 => ?_)
        · replace c_23 := zz_n0.mp c_23
          refine zj_iload (pc := 29) K dX8_tensionOf_29 rfl ?_
          refine zj_aload_n (i := 0) (pc := 31) K dX8_tensionOf_31 rfl rfl ?_
          refine zj_iload (pc := 32) K dX8_tensionOf_32 rfl ?_
          refine zj_iload_n (i := 1) (pc := 34) K dX8_tensionOf_34 rfl rfl ?_
          refine zj_cS3I (pc := 35) K lm_X8_143 (m_X8_loadOf hs_s eJ hJ eC hC e5 (by omega)) (by decide) rfl (Nat.le_of_ble_eq_true rfl) dX8_tensionOf_35 ?_
          refine zj_iadd (pc := 38) K dX8_tensionOf_38 ?_
          refine zj_istore (pc := 39) K dX8_tensionOf_39 rfl rfl rfl ?_
          refine zj_iconst (v := 0) (pc := 41) K dX8_tensionOf_41 (by decide) ?_
          refine zj_istore (pc := 42) K dX8_tensionOf_42 rfl rfl rfl ?_
          exact inner c_23 hi (i + 1) 0 _ _ _ (by omega) (by omega) (by rw [e3, zc_sum]; simp) (by rw [e4, zc_sum, if_pos c_23]) rfl
        · replace c_23 := zz_i0.mp c_23
          refine zj_goto (tgt := 78) (pc := 26) K dX8_tensionOf_26 (by decide) ?_
          refine zj_iinc (v := 1) (pc := 78) K dX8_tensionOf_78 rfl (by decide) rfl rfl rfl ?_
          refine zj_goto (tgt := 8) (pc := 81) K dX8_tensionOf_81 (by decide) ?_
          exact ih (i + 1) _ _ _ (by omega) (by omega) (by rw [e3, zc_sum, c_23]; simp) (by rw [e4, zc_sum, c_23]; simp) (zz_up e5)
  show zj_J E Γ 7 0 [(0, .ref (E.2.1 s)), (1, .int w), (2, .int b)] [] h g
  refine zj_iconst (v := 0) (pc := 0) K dX8_tensionOf_0 (by decide) ?_
  refine zj_istore_n (i := 3) (pc := 1) K dX8_tensionOf_1 rfl rfl rfl rfl ?_
  refine zj_iconst (v := 0) (pc := 2) K dX8_tensionOf_2 (by decide) ?_
  refine zj_istore (pc := 3) K dX8_tensionOf_3 rfl rfl rfl ?_
  refine zj_iconst (v := 0) (pc := 5) K dX8_tensionOf_5 (by decide) ?_
  refine zj_istore (pc := 6) K dX8_tensionOf_6 rfl rfl rfl ?_
  exact loop (J + 1) 0 _ _ _ (by omega) (by omega) rfl rfl rfl

set_option maxHeartbeats 4000000 in
set_option maxRecDepth 20000 in
theorem m_X8_having {l : Launch} {E : zj_E} {h : zj_H} {g : zj_G} {C : Nat} (eC : h 80 18 = nI C) (hC : C ≤ 14) {st : Int32} : zj_M l E yX8_having cX8_having 4 (some .int) 1 [.ref (E.2.1 78), .int st] h g (zj_pI (nI (zc_cnt (fun c => decide (h 80 (75 + c) = st)) C)) h g) := by
  refine zj_M.of RX8 (by decide) rfl (Nat.le_of_ble_eq_true rfl) ?_
  intro Γ hΓ K Rt
  subst hΓ
  have loop : ∀ (n i : Nat) (x2 x3 : Int32), C + 1 ≤ i + n → i ≤ C → (x2 = nI (zc_cnt (fun c => decide (h 80 (75 + c) = st)) i)) → (x3 = nI i) → zj_J E Γ 4 4 [(0, .ref (E.2.1 78)), (1, .int st), (2, .int x2), (3, .int x3)] [] h g := by
    intro n
    induction n with
    | zero => intro i x2 x3  h1 h2; omega
    | succ n ih =>
      intro i x2 x3  h1 h2 e2 e3
      refine zj_iload_n (i := 3) (pc := 4) K dX8_having_4 rfl rfl ?_
      refine zj_aload_n (i := 0) (pc := 5) K dX8_having_5 rfl rfl ?_
      refine zj_cV0I (pc := 6) K lm_X8_136 hs_M (m_X8_cases) (by decide) rfl (Nat.le_of_ble_eq_true rfl) dX8_having_6 ?_
      refine zj_icmp_ge (tgt := 34) (pc := 9) K dX8_having_9 (by decide) (fun c_9 => ?_) (fun c_9 => ?_)
      · have hi : i = C := Nat.le_antisymm h2 (zz_ge e3 eC (by omega) (by omega) c_9)
        subst hi
        refine zj_iload_n (i := 2) (pc := 34) K dX8_having_34 rfl rfl ?_
        exact zj_iret K Rt dX8_having_35 (⟨by rw [e2], rfl, rfl⟩)
      · have hi : i < C := zz_nge e3 eC (by omega) (by omega) c_9
        refine zj_aload_n (i := 0) (pc := 12) K dX8_having_12 rfl rfl ?_
        refine zj_getR (pc := 13) K lf_X8_64 hs_M rfl dX8_having_13 ?_
        refine zj_bipush (v := 75) (pc := 16) K dX8_having_16 (by decide) ?_
        refine zj_iload_n (i := 3) (pc := 18) K dX8_having_18 rfl rfl ?_
        refine zj_iadd (pc := 19) K dX8_having_19 ?_
        refine zj_ald (j := 75 + i) (pc := 20) K hs_Mnow (zm_ix rfl e3) (by omega) (by first | decide | omega) dX8_having_20 ?_
        refine zj_iload_n (i := 1) (pc := 21) K dX8_having_21 rfl rfl ?_
        refine zj_icmp_ne (tgt := 28) (pc := 22) K dX8_having_22 (by decide) (fun c_22 => ?_) (fun c_22 => ?_)
        · refine zj_iinc (v := 1) (pc := 28) K dX8_having_28 rfl (by decide) rfl rfl rfl ?_
          refine zj_goto (tgt := 4) (pc := 31) K dX8_having_31 (by decide) ?_
          exact ih (i + 1) _ _ (by omega) (by omega) (by first | exact zc_cnt_t e2 (decide_eq_true c_22) | exact zc_cnt_f e2 (decide_eq_false c_22)) (zz_up e3)
        · refine zj_iinc (v := 1) (pc := 25) K dX8_having_25 rfl (by decide) rfl rfl rfl ?_
          refine zj_iinc (v := 1) (pc := 28) K dX8_having_28 rfl (by decide) rfl rfl rfl ?_
          refine zj_goto (tgt := 4) (pc := 31) K dX8_having_31 (by decide) ?_
          exact ih (i + 1) _ _ (by omega) (by omega) (by first | exact zc_cnt_t e2 (decide_eq_true c_22) | exact zc_cnt_f e2 (decide_eq_false c_22)) (zz_up e3)
  show zj_J E Γ 4 0 [(0, .ref (E.2.1 78)), (1, .int st)] [] h g
  refine zj_iconst (v := 0) (pc := 0) K dX8_having_0 (by decide) ?_
  refine zj_istore_n (i := 2) (pc := 1) K dX8_having_1 rfl rfl rfl rfl ?_
  refine zj_iconst (v := 0) (pc := 2) K dX8_having_2 (by decide) ?_
  refine zj_istore_n (i := 3) (pc := 3) K dX8_having_3 rfl rfl rfl rfl ?_
  exact loop (C + 1) 0 _ _ (by omega) (by omega) rfl rfl

set_option maxHeartbeats 4000000 in
set_option maxRecDepth 20000 in
theorem m_X8_now {l : Launch} {E : zj_E} {h : zj_H} {g : zj_G} {C : Nat} (eC : h 80 18 = nI C) (hC : C ≤ 14) {x : Int32} : zj_M l E yX8_now cX8_now 2 (some .int) 2 [.ref (E.2.1 78), .int x] h g (zj_pI (if x = 0 then h 80 7 else if x = 1 then h 80 18 else if x = 2 then h 80 5 else if x = 3 then nI (zc_cnt (fun c => decide (h 80 (75 + c) = 1)) C) else if x = 4 then nI (zc_cnt (fun c => decide (h 80 (75 + c) = 2)) C) else if x = 5 then h 78 17 else if x = 6 then h 78 2 else -1) (zj_s h 78 (upd (h 78) 0 0)) g) := by
  refine zj_M.of RX8 (by decide) rfl (Nat.le_of_ble_eq_true rfl) ?_
  intro Γ hΓ K Rt
  subst hΓ
  show zj_J E Γ 2 0 [(0, .ref (E.2.1 78)), (1, .int x)] [] h g
  refine zj_aload_n (i := 0) (pc := 0) K dX8_now_0 rfl rfl ?_
  refine zj_iconst (v := 0) (pc := 1) K dX8_now_1 (by decide) ?_
  refine zj_putI (pc := 2) K lf_X8_1 hs_M rfl dX8_now_2 ?_
  refine zj_iload_n (i := 1) (pc := 5) K dX8_now_5 rfl rfl ?_
  by_cases s_0 : x = 0
  · refine zj_tableIn (off := 42) (tgt := 48) K dX8_now_6 (by rw [s_0]; decide) (by rw [s_0]; decide) (by rw [s_0]; rfl) (by decide) ?_
    refine zj_aload_n (i := 0) (pc := 48) K dX8_now_48 rfl rfl ?_
    refine zj_cV0I (pc := 49) K lm_X8_132 hs_M (m_X8_judges) (by decide) rfl (Nat.le_of_ble_eq_true rfl) dX8_now_49 ?_
    exact zj_iret K Rt dX8_now_52 (⟨by rw [if_pos s_0]; rfl, rfl, rfl⟩)
  by_cases s_1 : x = 1
  · refine zj_tableIn (off := 47) (tgt := 53) K dX8_now_6 (by rw [s_1]; decide) (by rw [s_1]; decide) (by rw [s_1]; rfl) (by decide) ?_
    refine zj_aload_n (i := 0) (pc := 53) K dX8_now_53 rfl rfl ?_
    refine zj_cV0I (pc := 54) K lm_X8_136 hs_M (m_X8_cases) (by decide) rfl (Nat.le_of_ble_eq_true rfl) dX8_now_54 ?_
    exact zj_iret K Rt dX8_now_57 (⟨by rw [if_neg s_0, if_pos s_1]; rfl, rfl, rfl⟩)
  by_cases s_2 : x = 2
  · refine zj_tableIn (off := 52) (tgt := 58) K dX8_now_6 (by rw [s_2]; decide) (by rw [s_2]; decide) (by rw [s_2]; rfl) (by decide) ?_
    refine zj_aload_n (i := 0) (pc := 58) K dX8_now_58 rfl rfl ?_
    refine zj_getR (pc := 59) K lf_X8_64 hs_M rfl dX8_now_59 ?_
    refine zj_iconst (v := 5) (pc := 62) K dX8_now_62 (by decide) ?_
    refine zj_ald (j := 5) (pc := 63) K hs_Mnow rfl (by decide) (by first | decide | omega) dX8_now_63 ?_
    exact zj_iret K Rt dX8_now_64 (⟨by rw [if_neg s_0, if_neg s_1, if_pos s_2]; rfl, rfl, rfl⟩)
  by_cases s_3 : x = 3
  · refine zj_tableIn (off := 59) (tgt := 65) K dX8_now_6 (by rw [s_3]; decide) (by rw [s_3]; decide) (by rw [s_3]; rfl) (by decide) ?_
    refine zj_aload_n (i := 0) (pc := 65) K dX8_now_65 rfl rfl ?_
    refine zj_iconst (v := 1) (pc := 66) K dX8_now_66 (by decide) ?_
    refine zj_cV1I (pc := 67) K lm_X8_151 hs_M (m_X8_having (C := C) (by rw [zj_s_ne _ _ (by decide)]; exact eC) hC) (by decide) rfl (Nat.le_of_ble_eq_true rfl) dX8_now_67 ?_
    exact zj_iret K Rt dX8_now_70 (⟨by rw [if_neg s_0, if_neg s_1, if_neg s_2, if_pos s_3, zj_s_ne _ _ (by decide)], rfl, rfl⟩)
  by_cases s_4 : x = 4
  · refine zj_tableIn (off := 65) (tgt := 71) K dX8_now_6 (by rw [s_4]; decide) (by rw [s_4]; decide) (by rw [s_4]; rfl) (by decide) ?_
    refine zj_aload_n (i := 0) (pc := 71) K dX8_now_71 rfl rfl ?_
    refine zj_iconst (v := 2) (pc := 72) K dX8_now_72 (by decide) ?_
    refine zj_cV1I (pc := 73) K lm_X8_151 hs_M (m_X8_having (C := C) (by rw [zj_s_ne _ _ (by decide)]; exact eC) hC) (by decide) rfl (Nat.le_of_ble_eq_true rfl) dX8_now_73 ?_
    exact zj_iret K Rt dX8_now_76 (⟨by rw [if_neg s_0, if_neg s_1, if_neg s_2, if_neg s_3, if_pos s_4, zj_s_ne _ _ (by decide)], rfl, rfl⟩)
  by_cases s_5 : x = 5
  · refine zj_tableIn (off := 71) (tgt := 77) K dX8_now_6 (by rw [s_5]; decide) (by rw [s_5]; decide) (by rw [s_5]; rfl) (by decide) ?_
    refine zj_aload_n (i := 0) (pc := 77) K dX8_now_77 rfl rfl ?_
    refine zj_getI (pc := 78) K lf_X8_129 hs_M rfl dX8_now_78 ?_
    exact zj_iret K Rt dX8_now_81 (⟨by rw [if_neg s_0, if_neg s_1, if_neg s_2, if_neg s_3, if_neg s_4, if_pos s_5]; rfl, rfl, rfl⟩)
  by_cases s_6 : x = 6
  · refine zj_tableIn (off := 76) (tgt := 82) K dX8_now_6 (by rw [s_6]; decide) (by rw [s_6]; decide) (by rw [s_6]; rfl) (by decide) ?_
    refine zj_aload_n (i := 0) (pc := 82) K dX8_now_82 rfl rfl ?_
    refine zj_getI (pc := 83) K lf_X8_11 hs_M rfl dX8_now_83 ?_
    exact zj_iret K Rt dX8_now_86 (⟨by rw [if_neg s_0, if_neg s_1, if_neg s_2, if_neg s_3, if_neg s_4, if_neg s_5, if_pos s_6]; rfl, rfl, rfl⟩)
  refine zj_tableOut (tgt := 87) K dX8_now_6 (zz_out (n := 6) (by decide) (fun k hk => by
    rcases (show k = 0 ∨ k = 1 ∨ k = 2 ∨ k = 3 ∨ k = 4 ∨ k = 5 ∨ k = 6 by omega) with rfl | rfl | rfl | rfl | rfl | rfl | rfl
    · exact s_0
    · exact s_1
    · exact s_2
    · exact s_3
    · exact s_4
    · exact s_5
    · exact s_6)) (by decide) ?_
  refine zj_iconst (v := -1) (pc := 87) K dX8_now_87 (by decide) ?_
  exact zj_iret K Rt dX8_now_88 (⟨by rw [if_neg s_0, if_neg s_1, if_neg s_2, if_neg s_3, if_neg s_4, if_neg s_5, if_neg s_6], rfl, rfl⟩)

set_option maxHeartbeats 4000000 in
set_option maxRecDepth 20000 in
theorem m_X8_countsOf {l : Launch} {E : zj_E} {h : zj_H} {g : zj_G} {J C j : Nat} (eJ : h 80 7 = nI J) (hJ : J ≤ 9) (eC : h 80 18 = nI C) (hC : C ≤ 14) {x w : Int32} (ex : x = nI j) (hj9 : j < 9) : zj_M l E yX8_countsOf cX8_countsOf 5 (some .int) 2 [.ref (E.2.1 78), .int x, .int w] h g (zj_pI (nI (zc_cnt (zm_cnt h J j w) C)) h g) := by
  refine zj_M.of RX8 (by decide) rfl (Nat.le_of_ble_eq_true rfl) ?_
  intro Γ hΓ K Rt
  subst hΓ
  have loop : ∀ (n i : Nat) (x3 x4 : Int32), C + 1 ≤ i + n → i ≤ C → (x3 = nI (zc_cnt (zm_cnt h J j w) i)) → (x4 = nI i) → zj_J E Γ 5 5 [(0, .ref (E.2.1 78)), (1, .int x), (2, .int w), (3, .int x3), (4, .int x4)] [] h g := by
    intro n
    induction n with
    | zero => intro i x3 x4  h1 h2; omega
    | succ n ih =>
      intro i x3 x4  h1 h2 e3 e4
      refine zj_iload (pc := 5) K dX8_countsOf_5 rfl ?_
      refine zj_aload_n (i := 0) (pc := 7) K dX8_countsOf_7 rfl rfl ?_
      refine zj_cV0I (pc := 8) K lm_X8_136 hs_M (m_X8_cases) (by decide) rfl (Nat.le_of_ble_eq_true rfl) dX8_countsOf_8 ?_
      refine zj_icmp_ge (tgt := 94) (pc := 11) K dX8_countsOf_11 (by decide) (fun c_11 => ?_) (fun c_11 => ?_)
      · have hi : i = C := Nat.le_antisymm h2 (zz_ge e4 eC (by omega) (by omega) c_11)
        subst hi
        refine zj_iload_n (i := 3) (pc := 94) K dX8_countsOf_94 rfl rfl ?_
        exact zj_iret K Rt dX8_countsOf_95 (⟨by rw [e3], rfl, rfl⟩)
      · have hi : i < C := zz_nge e4 eC (by omega) (by omega) c_11
        refine zj_iload_n (i := 2) (pc := 14) K dX8_countsOf_14 rfl rfl ?_
        refine zj_iconst (v := 3) (pc := 15) K dX8_countsOf_15 (by decide) ?_
        refine zj_icmp_ne (tgt := 39) (pc := 16) K dX8_countsOf_16 (by decide) (fun c_16 => ?_) (fun c_16 => ?_)
        · refine zj_iload_n (i := 2) (pc := 39) K dX8_countsOf_39 rfl rfl ?_
          refine zj_iconst (v := 4) (pc := 40) K dX8_countsOf_40 (by decide) ?_
          refine zj_icmp_ne (tgt := 68) (pc := 41) K dX8_countsOf_41 (by decide) (fun c_41 => ?_) (fun c_41 => ?_)
          · have hcn := zm_cnt5 (h := h) (J := J) (j := j) (c := i) c_16 c_41
            refine zj_aload_n (i := 0) (pc := 68) K dX8_countsOf_68 rfl rfl ?_
            refine zj_getR (pc := 69) K lf_X8_64 hs_M rfl dX8_countsOf_69 ?_
            refine zj_bipush (v := 47) (pc := 72) K dX8_countsOf_72 (by decide) ?_
            refine zj_iload (pc := 74) K dX8_countsOf_74 rfl ?_
            refine zj_iadd (pc := 76) K dX8_countsOf_76 ?_
            refine zj_ald (j := 47 + i) (pc := 77) K hs_Mnow (zm_ix rfl e4) (by omega) (by first | decide | omega) dX8_countsOf_77 ?_
            refine zj_iload_n (i := 1) (pc := 78) K dX8_countsOf_78 rfl rfl ?_
            refine zj_cS2I (pc := 79) K lm_X8_105 (m_X8_has ex (by omega)) (by decide) rfl (Nat.le_of_ble_eq_true rfl) dX8_countsOf_79 ?_
            refine zj_if_eq (tgt := 88) (pc := 82) K dX8_countsOf_82 (by decide) (fun c_82 => ?_) (fun c_82 => ?_)
            · replace c_82 := zz_i0.mp c_82
              rw [c_82] at hcn
              refine zj_iinc (v := 1) (pc := 88) K dX8_countsOf_88 rfl (by decide) rfl rfl rfl ?_
              refine zj_goto (tgt := 5) (pc := 91) K dX8_countsOf_91 (by decide) ?_
              exact ih (i + 1) _ _ (by omega) (by omega) (by first | exact zc_cnt_t e3 hcn | exact zc_cnt_f e3 hcn) (zz_up e4)
            · replace c_82 := zz_n0.mp c_82
              rw [c_82] at hcn
              refine zj_iinc (v := 1) (pc := 85) K dX8_countsOf_85 rfl (by decide) rfl rfl rfl ?_
              refine zj_iinc (v := 1) (pc := 88) K dX8_countsOf_88 rfl (by decide) rfl rfl rfl ?_
              refine zj_goto (tgt := 5) (pc := 91) K dX8_countsOf_91 (by decide) ?_
              exact ih (i + 1) _ _ (by omega) (by omega) (by first | exact zc_cnt_t e3 hcn | exact zc_cnt_f e3 hcn) (zz_up e4)
          · have hcn := zm_cnt4 (h := h) (J := J) (j := j) (c := i) c_16 c_41
            refine zj_aload_n (i := 0) (pc := 44) K dX8_countsOf_44 rfl rfl ?_
            refine zj_getR (pc := 45) K lf_X8_64 hs_M rfl dX8_countsOf_45 ?_
            refine zj_aload_n (i := 0) (pc := 48) K dX8_countsOf_48 rfl rfl ?_
            refine zj_getR (pc := 49) K lf_X8_64 hs_M rfl dX8_countsOf_49 ?_
            refine zj_bipush (v := 61) (pc := 52) K dX8_countsOf_52 (by decide) ?_
            refine zj_iload (pc := 54) K dX8_countsOf_54 rfl ?_
            refine zj_iadd (pc := 56) K dX8_countsOf_56 ?_
            refine zj_ald (j := 61 + i) (pc := 57) K hs_Mnow (zm_ix rfl e4) (by omega) (by first | decide | omega) dX8_countsOf_57 ?_
            refine zj_cS2I (pc := 58) K lm_X8_139 (m_X8_presides hs_Mnow eJ hJ) (by decide) rfl (Nat.le_of_ble_eq_true rfl) dX8_countsOf_58 ?_
            refine zj_iload_n (i := 1) (pc := 61) K dX8_countsOf_61 rfl rfl ?_
            refine zj_icmp_ne (tgt := 88) (pc := 62) K dX8_countsOf_62 (by decide) (fun c_62 => ?_) (fun c_62 => ?_)
            · rw [decide_eq_false (by rw [← ex]; exact c_62)] at hcn
              refine zj_iinc (v := 1) (pc := 88) K dX8_countsOf_88 rfl (by decide) rfl rfl rfl ?_
              refine zj_goto (tgt := 5) (pc := 91) K dX8_countsOf_91 (by decide) ?_
              exact ih (i + 1) _ _ (by omega) (by omega) (by first | exact zc_cnt_t e3 hcn | exact zc_cnt_f e3 hcn) (zz_up e4)
            · rw [decide_eq_true (by rw [← ex]; exact c_62)] at hcn
              refine zj_goto (tgt := 85) (pc := 65) K dX8_countsOf_65 (by decide) ?_
              refine zj_iinc (v := 1) (pc := 85) K dX8_countsOf_85 rfl (by decide) rfl rfl rfl ?_
              refine zj_iinc (v := 1) (pc := 88) K dX8_countsOf_88 rfl (by decide) rfl rfl rfl ?_
              refine zj_goto (tgt := 5) (pc := 91) K dX8_countsOf_91 (by decide) ?_
              exact ih (i + 1) _ _ (by omega) (by omega) (by first | exact zc_cnt_t e3 hcn | exact zc_cnt_f e3 hcn) (zz_up e4)
        · have hcn := zm_cnt3 (h := h) (J := J) (j := j) (c := i) c_16
          refine zj_aload_n (i := 0) (pc := 19) K dX8_countsOf_19 rfl rfl ?_
          refine zj_getR (pc := 20) K lf_X8_64 hs_M rfl dX8_countsOf_20 ?_
          refine zj_bipush (v := 61) (pc := 23) K dX8_countsOf_23 (by decide) ?_
          refine zj_iload (pc := 25) K dX8_countsOf_25 rfl ?_
          refine zj_iadd (pc := 27) K dX8_countsOf_27 ?_
          refine zj_ald (j := 61 + i) (pc := 28) K hs_Mnow (zm_ix rfl e4) (by omega) (by first | decide | omega) dX8_countsOf_28 ?_
          refine zj_iload_n (i := 1) (pc := 29) K dX8_countsOf_29 rfl rfl ?_
          refine zj_cS2I (pc := 30) K lm_X8_105 (m_X8_has ex (by omega)) (by decide) rfl (Nat.le_of_ble_eq_true rfl) dX8_countsOf_30 ?_
          refine zj_if_eq (tgt := 88) (pc := 33) K dX8_countsOf_33 (by decide) (fun c_33 => ?_) (fun c_33 => ?_)
          · replace c_33 := zz_i0.mp c_33
            rw [c_33] at hcn
            refine zj_iinc (v := 1) (pc := 88) K dX8_countsOf_88 rfl (by decide) rfl rfl rfl ?_
            refine zj_goto (tgt := 5) (pc := 91) K dX8_countsOf_91 (by decide) ?_
            exact ih (i + 1) _ _ (by omega) (by omega) (by first | exact zc_cnt_t e3 hcn | exact zc_cnt_f e3 hcn) (zz_up e4)
          · replace c_33 := zz_n0.mp c_33
            rw [c_33] at hcn
            refine zj_goto (tgt := 85) (pc := 36) K dX8_countsOf_36 (by decide) ?_
            refine zj_iinc (v := 1) (pc := 85) K dX8_countsOf_85 rfl (by decide) rfl rfl rfl ?_
            refine zj_iinc (v := 1) (pc := 88) K dX8_countsOf_88 rfl (by decide) rfl rfl rfl ?_
            refine zj_goto (tgt := 5) (pc := 91) K dX8_countsOf_91 (by decide) ?_
            exact ih (i + 1) _ _ (by omega) (by omega) (by first | exact zc_cnt_t e3 hcn | exact zc_cnt_f e3 hcn) (zz_up e4)
  show zj_J E Γ 5 0 [(0, .ref (E.2.1 78)), (1, .int x), (2, .int w)] [] h g
  refine zj_iconst (v := 0) (pc := 0) K dX8_countsOf_0 (by decide) ?_
  refine zj_istore_n (i := 3) (pc := 1) K dX8_countsOf_1 rfl rfl rfl rfl ?_
  refine zj_iconst (v := 0) (pc := 2) K dX8_countsOf_2 (by decide) ?_
  refine zj_istore (pc := 3) K dX8_countsOf_3 rfl rfl rfl ?_
  exact loop (C + 1) 0 _ _ (by omega) (by omega) rfl rfl

set_option maxHeartbeats 4000000 in
set_option maxRecDepth 20000 in
theorem m_X8_isLawful {l : Launch} {E : zj_E} {h : zj_H} {g : zj_G} {s J c : Nat} (hs_s : zj_at s (zj_arr 89)) (eJ : h s 7 = nI J) (hJ : J ≤ 9) {x b : Int32} (ex : x = nI c) (hc : c < 14) : zj_M l E yX8_isLawful cX8_isLawful 4 (some .boolean) 1 [.ref (E.2.1 s), .int x, .int b] h g (zj_pI (zz_i (zm_law h s J c b)) h g) := by
  refine zj_M.of RX8 (by decide) rfl (Nat.le_of_ble_eq_true rfl) ?_
  intro Γ hΓ K Rt
  subst hΓ
  have loop : b &&& (h s (47 + c) ||| h s 17) = 0 → ∀ (n i : Nat) (x3 : Int32), J + 1 ≤ i + n → i ≤ J → (x3 = nI i) → (zm_sen (zmS h s) (h s 6) b i = false) → zj_J E Γ 4 20 [(0, .ref (E.2.1 s)), (1, .int x), (2, .int b), (3, .int x3)] [] h g := by
    intro c_13 n
    induction n with
    | zero => intro i x3  h1 h2; omega
    | succ n ih =>
      intro i x3  h1 h2 e3 hno
      refine zj_iload_n (i := 3) (pc := 20) K dX8_isLawful_20 rfl rfl ?_
      refine zj_aload_n (i := 0) (pc := 21) K dX8_isLawful_21 rfl rfl ?_
      refine zj_bipush (v := 7) (pc := 22) K dX8_isLawful_22 (by decide) ?_
      refine zj_ald (j := 7) (pc := 24) K hs_s rfl (by decide) (by first | decide | omega) dX8_isLawful_24 ?_
      refine zj_icmp_ge (tgt := 57) (pc := 25) K dX8_isLawful_25 (by decide) (fun c_25 => ?_) (fun c_25 => ?_)
      · have hi : i = J := Nat.le_antisymm h2 (zz_ge e3 eJ (by omega) (by omega) c_25)
        subst hi
        refine zj_iconst (v := 0) (pc := 57) K dX8_isLawful_57 (by decide) ?_
        exact zj_zret K Rt dX8_isLawful_58 (by decide) (⟨by rw [zm_law, hno, Bool.and_false]; rfl, rfl, rfl⟩)
      · have hi : i < J := zz_nge e3 eJ (by omega) (by omega) c_25
        refine zj_iload_n (i := 2) (pc := 28) K dX8_isLawful_28 rfl rfl ?_
        refine zj_iload_n (i := 3) (pc := 29) K dX8_isLawful_29 rfl rfl ?_
        refine zj_cS2I (pc := 30) K lm_X8_105 (m_X8_has e3 (by omega)) (by decide) rfl (Nat.le_of_ble_eq_true rfl) dX8_isLawful_30 ?_
        refine zj_if_eq (tgt := 51) (pc := 33) K dX8_isLawful_33 (by decide) (fun c_33 => ?_) (fun c_33 => ?_)
        · replace c_33 := zz_i0.mp c_33
          have hnx : zm_sen (zmS h s) (h s 6) b (i + 1) = false := by rw [zm_sen, hno, c_33]; rfl
          refine zj_iinc (v := 1) (pc := 51) K dX8_isLawful_51 rfl (by decide) rfl rfl rfl ?_
          refine zj_goto (tgt := 20) (pc := 54) K dX8_isLawful_54 (by decide) ?_
          exact ih (i + 1) _ (by omega) (by omega) (zz_up e3) hnx
        · replace c_33 := zz_n0.mp c_33
          refine zj_aload_n (i := 0) (pc := 36) K dX8_isLawful_36 rfl rfl ?_
          refine zj_bipush (v := 8) (pc := 37) K dX8_isLawful_37 (by decide) ?_
          refine zj_iload_n (i := 3) (pc := 39) K dX8_isLawful_39 rfl rfl ?_
          refine zj_iadd (pc := 40) K dX8_isLawful_40 ?_
          refine zj_ald (j := 8 + i) (pc := 41) K hs_s (zm_ix rfl e3) (by omega) (by first | decide | omega) dX8_isLawful_41 ?_
          refine zj_aload_n (i := 0) (pc := 42) K dX8_isLawful_42 rfl rfl ?_
          refine zj_bipush (v := 6) (pc := 43) K dX8_isLawful_43 (by decide) ?_
          refine zj_ald (j := 6) (pc := 45) K hs_s rfl (by decide) (by first | decide | omega) dX8_isLawful_45 ?_
          refine zj_icmp_lt (tgt := 51) (pc := 46) K dX8_isLawful_46 (by decide) (fun c_46 => ?_) (fun c_46 => ?_)
          · have hnx : zm_sen (zmS h s) (h s 6) b (i + 1) = false := by rw [zm_sen, hno, decide_eq_false (fun z => absurd (show zmS h s i < h s 6 from c_46) (Int32.not_lt.mpr z)), Bool.and_false]; rfl
            refine zj_iinc (v := 1) (pc := 51) K dX8_isLawful_51 rfl (by decide) rfl rfl rfl ?_
            refine zj_goto (tgt := 20) (pc := 54) K dX8_isLawful_54 (by decide) ?_
            exact ih (i + 1) _ (by omega) (by omega) (zz_up e3) hnx
          · have hyx : zm_sen (zmS h s) (h s 6) b J = true := zm_sen_up (i := i + 1) (by omega) (by rw [zm_sen, hno, c_33, decide_eq_true (Int32.not_lt.mp (show ¬ zmS h s i < h s 6 from c_46))]; rfl)
            refine zj_iconst (v := 1) (pc := 49) K dX8_isLawful_49 (by decide) ?_
            exact zj_zret K Rt dX8_isLawful_50 (by decide) (⟨by rw [zm_law, decide_eq_true c_13, hyx]; rfl, rfl, rfl⟩)
  show zj_J E Γ 4 0 [(0, .ref (E.2.1 s)), (1, .int x), (2, .int b)] [] h g
  refine zj_iload_n (i := 2) (pc := 0) K dX8_isLawful_0 rfl rfl ?_
  refine zj_aload_n (i := 0) (pc := 1) K dX8_isLawful_1 rfl rfl ?_
  refine zj_bipush (v := 47) (pc := 2) K dX8_isLawful_2 (by decide) ?_
  refine zj_iload_n (i := 1) (pc := 4) K dX8_isLawful_4 rfl rfl ?_
  refine zj_iadd (pc := 5) K dX8_isLawful_5 ?_
  refine zj_ald (j := 47 + c) (pc := 6) K hs_s (zm_ix rfl ex) (by omega) (by first | decide | omega) dX8_isLawful_6 ?_
  refine zj_aload_n (i := 0) (pc := 7) K dX8_isLawful_7 rfl rfl ?_
  refine zj_bipush (v := 17) (pc := 8) K dX8_isLawful_8 (by decide) ?_
  refine zj_ald (j := 17) (pc := 10) K hs_s rfl (by decide) (by first | decide | omega) dX8_isLawful_10 ?_
  refine zj_ior (pc := 11) K dX8_isLawful_11 ?_
  refine zj_iand (pc := 12) K dX8_isLawful_12 ?_
  refine zj_if_eq (tgt := 18) (pc := 13) K dX8_isLawful_13 (by decide) (fun c_13 => ?_) (fun c_13 => ?_)
  · refine zj_iconst (v := 0) (pc := 18) K dX8_isLawful_18 (by decide) ?_
    refine zj_istore_n (i := 3) (pc := 19) K dX8_isLawful_19 rfl rfl rfl rfl ?_
    exact loop c_13 (J + 1) 0 _ (by omega) (by omega) rfl rfl
  · refine zj_iconst (v := 0) (pc := 16) K dX8_isLawful_16 (by decide) ?_
    exact zj_zret K Rt dX8_isLawful_17 (by decide) (⟨by rw [zm_law, decide_eq_false c_13]; rfl, rfl, rfl⟩)
