theorem zc_sum_t {p : Nat → Bool} {f : Nat → Int32} {i : Nat} {x y : Int32} (ex : x = zc_sum (fun j => if p j = true then f j else 0) i) (h : p i = true) (ey : y = f i) : x + y = zc_sum (fun j => if p j = true then f j else 0) (i + 1) := by
  rw [ex, ey]; simp [zc_sum, h]
theorem zc_sum_f {p : Nat → Bool} {f : Nat → Int32} {i : Nat} {x : Int32} (ex : x = zc_sum (fun j => if p j = true then f j else 0) i) (h : p i = false) : x = zc_sum (fun j => if p j = true then f j else 0) (i + 1) := by
  rw [ex]; simp [zc_sum, h]
theorem zc_sum_z {f : Nat → Int32} : ∀ {n : Nat}, (∀ i, i < n → f i = 0) → zc_sum f n = 0
  | 0, _ => rfl
  | n + 1, h => by unfold zc_sum; rw [zc_sum_z (fun i hi => h i (Nat.lt_succ_of_lt hi)), h n (Nat.lt_succ_self n)]; rfl
/-- PAIRS of a with those of b behind it -/
def zt_pb (P : Nat → Int32) (b : Int32) (J a : Nat) : Int32 := zc_sum (fun c => if (decide (a < c) && bt b c) = true then P (a * 9 + c) else 0) J
def zt_cp (P : Nat → Int32) (b : Int32) (J : Nat) : Int32 := zc_sum (fun a => if bt b a = true then zt_pb P b J a else 0) J
def zt_cl (Lo : Nat → Int32) (b : Int32) (J : Nat) : Int32 := zc_sum (fun a => if bt b a = true then Lo a else 0) J
/-- squares of PAIRS -/
def zt_eb (P : Nat → Int32) (J a : Nat) : Int32 := zc_sum (fun c => if decide (a < c) = true then P (a * 9 + c) * P (a * 9 + c) else 0) J
def zt_ev (P : Nat → Int32) (J : Nat) : Int32 := zc_sum (fun a => zt_eb P J a) J
theorem zc_sum_lo {p : Nat → Bool} {f : Nat → Int32} {a : Nat} : zc_sum (fun c => if (decide (a < c) && p c) = true then f c else 0) (a + 1) = 0 := zc_sum_z (fun i hi => by
  have : ¬ a < i := by omega
  simp [this])
theorem zc_sum_lo1 {f : Nat → Int32} {a : Nat} : zc_sum (fun c => if decide (a < c) = true then f c else 0) (a + 1) = 0 := zc_sum_z (fun i hi => by
  have : ¬ a < i := by omega
  simp [this])
/-- greatest and least, from a start -/
def zc_max (f : Nat → Int32) (s : Int32) : Nat → Int32
  | 0 => s
  | n + 1 => if zc_max f s n < f n then f n else zc_max f s n
def zc_min (f : Nat → Int32) (s : Int32) : Nat → Int32
  | 0 => s
  | n + 1 => if f n < zc_min f s n then f n else zc_min f s n
/-- over (a, c), c from a + 1 on: greatest, least -/
def zc_maxb (P : Nat → Int32) (a : Nat) (s : Int32) : Nat → Int32
  | 0 => s
  | c + 1 => if a < c then (if zc_maxb P a s c < P (a * 9 + c) then P (a * 9 + c) else zc_maxb P a s c) else zc_maxb P a s c
def zc_minb (P : Nat → Int32) (a : Nat) (s : Int32) : Nat → Int32
  | 0 => s
  | c + 1 => if a < c then (if P (a * 9 + c) < zc_minb P a s c then P (a * 9 + c) else zc_minb P a s c) else zc_minb P a s c
def zc_max2 (P : Nat → Int32) (J : Nat) : Nat → Int32
  | 0 => 0
  | a + 1 => zc_maxb P a (zc_max2 P J a) J
def zc_min2 (P : Nat → Int32) (J : Nat) : Nat → Int32
  | 0 => 2147483647
  | a + 1 => zc_minb P a (zc_min2 P J a) J
theorem zc_maxb_lo {P : Nat → Int32} {a : Nat} {s : Int32} : ∀ {n : Nat}, n ≤ a + 1 → zc_maxb P a s n = s
  | 0, _ => rfl
  | n + 1, h => by unfold zc_maxb; rw [if_neg (by omega)]; exact zc_maxb_lo (by omega)
theorem zc_minb_lo {P : Nat → Int32} {a : Nat} {s : Int32} : ∀ {n : Nat}, n ≤ a + 1 → zc_minb P a s n = s
  | 0, _ => rfl
  | n + 1, h => by unfold zc_minb; rw [if_neg (by omega)]; exact zc_minb_lo (by omega)
def zl_law (bar away sen b : Int32) : Bool := decide (b &&& (bar ||| away) = 0) && decide (¬ b &&& sen = 0)
/-- PAIRS and LOADS after the first c cases -/
def zb_Pn (B : Nat → Int32) (wo : Int32) (J : Nat) (f : Nat → Int32) : Nat → (Nat → Int32)
  | 0 => f
  | c + 1 => if ¬ nI c = wo ∧ ¬ B c = 0 then zb_P (B c) J J 0 (zb_Pn B wo J f c) else zb_Pn B wo J f c
def zb_Ln (B W : Nat → Int32) (sen : Nat → Int32) (chair wo : Int32) (J : Nat) (f : Nat → Int32) : Nat → (Nat → Int32)
  | 0 => f
  | c + 1 => if ¬ nI c = wo ∧ ¬ B c = 0 then zb_L (B c) (W c) chair (zc_opt (zc_pre sen (B c) J)) J (zb_Ln B W sen chair wo J f c) else zb_Ln B W sen chair wo J f c
theorem zb_P0 {b : Int32} {J : Nat} {f : Nat → Int32} : zb_P b J 0 0 f = f := by
  funext q; unfold zb_P; rw [if_neg (by omega)]
theorem zb_L0 {b w ch fi : Int32} {f : Nat → Int32} : zb_L b w ch fi 0 f = f := by
  funext q; unfold zb_L; rw [if_neg (by omega)]
set_option maxHeartbeats 4000000 in
set_option maxRecDepth 20000 in
theorem m_X0_countBench {l : Launch} {E : zj_E} {h : zj_H} {g : zj_G} {k J : Nat} (hk : zj_isC k) (eJ : h 8 6 = nI J) (hJ : J ≤ 9) {b w fi : Int32} : zj_M l E yX0_countBench cX0_countBench 6 none 1 [.ref (E.2.1 k), .int b, .int w, .int fi] h g (fun v h' g' => v = none ∧ g' = g ∧ (∀ a, a ≠ k + 6 → a ≠ k + 7 → h' a = h a) ∧ h' (k + 7) = zb_L b w (h 8 4) fi J (h (k + 7)) ∧ h' (k + 6) = zb_P b J J 0 (h (k + 6))) := by
  refine zj_M.of RX0 (by decide) rfl (Nat.le_of_ble_eq_true rfl) ?_
  intro Γ hΓ K Rt
  subst hΓ
  obtain ⟨hs_C, hs_Cd, hs_Cs, hs_Ci, hs_Cb, hs_Cf, hs_Cp, hs_Cl, hs_Cn, hs_Ct⟩ := zj_shC hk
  obtain ⟨hk12, hk22⟩ := zj_C12 hk
  have loop : ∀ (n i : Nat) (x4 : Int32) (q : zj_H), J + 1 ≤ i + n → i ≤ J → (x4 = nI i) → (∀ a, a ≠ k + 6 → a ≠ k + 7 → q a = h a) → (q (k + 7) = zb_L b w (h 8 4) fi i (h (k + 7))) → (q (k + 6) = zb_P b J i 0 (h (k + 6))) → zj_J E Γ 6 3 [(0, .ref (E.2.1 k)), (1, .int b), (2, .int w), (3, .int fi), (4, .int x4)] [] q g := by
    intro n
    induction n with
    | zero => intro i x4 q  h1 h2; omega
    | succ n ih =>
      intro i x4 q  h1 h2 e4 f1 f2 f3
      have eJ2 : q 8 6 = nI J := by rw [f1 8 (by omega) (by omega)]; exact eJ
      have inner : bt b i = true → i < J → ∀ (m c : Nat) (x5 : Int32) (q2 : zj_H), J + 1 ≤ c + m → c ≤ J → (i < c) → (x5 = nI c) → (∀ a, a ≠ k + 6 → a ≠ k + 7 → q2 a = h a) → (q2 (k + 7) = zb_L b w (h 8 4) fi (i + 1) (h (k + 7))) → (q2 (k + 6) = zb_P b J i c (h (k + 6))) → zj_J E Γ 6 59 [(0, .ref (E.2.1 k)), (1, .int b), (2, .int w), (3, .int fi), (4, .int x4), (5, .int x5)] [] q2 g := by
        intro c_21 hi m
        induction m with
        | zero => intro c x5 q2  h3 h4; omega
        | succ m ih2 =>
          intro c x5 q2  h3 h4 hlo e5 p1 p2 p3
          have eJ2 : q2 8 6 = nI J := by rw [p1 8 (by omega) (by omega)]; exact eJ
          refine zj_iload (pc := 59) K dX0_countBench_59 rfl ?_
          refine zj_aload_n (i := 0) (pc := 61) K dX0_countBench_61 rfl rfl ?_
          refine zj_getR (pc := 62) K lf_X0_9 hs_C rfl dX0_countBench_62 ?_
          refine zj_getI (pc := 65) K lf_X0_86 hs_D rfl dX0_countBench_65 ?_
          refine zj_icmp_ge (tgt := 102) (pc := 68) K dX0_countBench_68 (by decide) (fun c_68 => ?_) (fun c_68 => ?_)
          · have hi2 : c = J := Nat.le_antisymm h4 (zz_ge e5 eJ2 (by omega) (by omega) c_68)
            subst hi2
            refine zj_iinc (v := 1) (pc := 102) K dX0_countBench_102 rfl (by decide) rfl rfl rfl ?_
            refine zj_goto (tgt := 3) (pc := 105) K dX0_countBench_105 (by decide) ?_
            refine zj_pick [0, 1, 2, 3, 4] ?_
            exact ih (i + 1) _ _ (by omega) (by omega) (zz_up e4) p1 p2 (by rw [p3]; exact zb_P_n)
          · have hi2 : c < J := zz_nge e5 eJ2 (by omega) (by omega) c_68
            refine zj_iload_n (i := 1) (pc := 71) K dX0_countBench_71 rfl rfl ?_
            refine zj_iload (pc := 72) K dX0_countBench_72 rfl ?_
            refine zj_cN2I (pc := 74) K lm_X0_62 (m_X7_has (by assumption) (by omega)) (by decide) rfl (Nat.le_of_ble_eq_true rfl) dX0_countBench_74 ?_
            refine zj_if_eq (tgt := 96) (pc := 77) K dX0_countBench_77 (by decide) (fun c_77 => ?_) (fun c_77 => ?_)
            · replace c_77 := zz_i0.mp c_77
              refine zj_iinc (v := 1) (pc := 96) K dX0_countBench_96 rfl (by decide) rfl rfl rfl ?_
              refine zj_goto (tgt := 59) (pc := 99) K dX0_countBench_99 (by decide) ?_
              first
              | exact ih2 (c + 1) _ _ (by omega) (by omega) (by omega) (zz_up e5) p1 p2 (by rw [p3]; exact zb_P_f c_77)
              | exact ih2 (c + 1) _ _ (by omega) (by omega) (by omega) (zz_up e5) (fun a a1 a2 => by rw [zj_s_ne _ _ a1]; exact p1 a a1 a2) (by rw [zj_s_ne _ _ (by omega)]; exact p2) (by rw [zj_s_eq, p3]; exact zb_P_t c_21 c_77 (by omega) hi2 hJ)
            · replace c_77 := zz_n0.mp c_77
              refine zj_aload_n (i := 0) (pc := 80) K dX0_countBench_80 rfl rfl ?_
              refine zj_getR (pc := 81) K lf_X0_29 hs_C rfl dX0_countBench_81 ?_
              refine zj_iload (pc := 84) K dX0_countBench_84 rfl ?_
              refine zj_iload (pc := 86) K dX0_countBench_86 rfl ?_
              refine zj_cN2I (pc := 88) K lm_X0_92 (m_X7_pairPlace (by assumption) (by assumption) (by omega) (by omega)) (by decide) rfl (Nat.le_of_ble_eq_true rfl) dX0_countBench_88 ?_
              refine zj_dup2 (pc := 91) K dX0_countBench_91 rfl rfl ?_
              refine zj_ald (j := i * 9 + c) (pc := 92) K hs_Cp rfl (by omega) (by first | decide | omega) dX0_countBench_92 ?_
              refine zj_iconst (v := 1) (pc := 93) K dX0_countBench_93 (by decide) ?_
              refine zj_iadd (pc := 94) K dX0_countBench_94 ?_
              refine zj_ast (j := i * 9 + c) (pc := 95) K hs_Cp rfl (by omega) (by first | decide | omega) dX0_countBench_95 ?_
              refine zj_iinc (v := 1) (pc := 96) K dX0_countBench_96 rfl (by decide) rfl rfl rfl ?_
              refine zj_goto (tgt := 59) (pc := 99) K dX0_countBench_99 (by decide) ?_
              first
              | exact ih2 (c + 1) _ _ (by omega) (by omega) (by omega) (zz_up e5) p1 p2 (by rw [p3]; exact zb_P_f c_77)
              | exact ih2 (c + 1) _ _ (by omega) (by omega) (by omega) (zz_up e5) (fun a a1 a2 => by rw [zj_s_ne _ _ a1]; exact p1 a a1 a2) (by rw [zj_s_ne _ _ (by omega)]; exact p2) (by rw [zj_s_eq, p3]; exact zb_P_t c_21 c_77 (by omega) hi2 hJ)
      refine zj_iload (pc := 3) K dX0_countBench_3 rfl ?_
      refine zj_aload_n (i := 0) (pc := 5) K dX0_countBench_5 rfl rfl ?_
      refine zj_getR (pc := 6) K lf_X0_9 hs_C rfl dX0_countBench_6 ?_
      refine zj_getI (pc := 9) K lf_X0_86 hs_D rfl dX0_countBench_9 ?_
      refine zj_icmp_ge (tgt := 108) (pc := 12) K dX0_countBench_12 (by decide) (fun c_12 => ?_) (fun c_12 => ?_)
      · have hi : i = J := Nat.le_antisymm h2 (zz_ge e4 eJ2 (by omega) (by omega) c_12)
        subst hi
        exact zj_vret K Rt dX0_countBench_108 (⟨rfl, rfl, f1, f2, f3⟩)
      · have hi : i < J := zz_nge e4 eJ2 (by omega) (by omega) c_12
        refine zj_iload_n (i := 1) (pc := 15) K dX0_countBench_15 rfl rfl ?_
        refine zj_iload (pc := 16) K dX0_countBench_16 rfl ?_
        refine zj_cN2I (pc := 18) K lm_X0_62 (m_X7_has (by assumption) (by omega)) (by decide) rfl (Nat.le_of_ble_eq_true rfl) dX0_countBench_18 ?_
        refine zj_if_eq (tgt := 102) (pc := 21) K dX0_countBench_21 (by decide) (fun c_21 => ?_) (fun c_21 => ?_)
        · replace c_21 := zz_i0.mp c_21
          refine zj_iinc (v := 1) (pc := 102) K dX0_countBench_102 rfl (by decide) rfl rfl rfl ?_
          refine zj_goto (tgt := 3) (pc := 105) K dX0_countBench_105 (by decide) ?_
          exact ih (i + 1) _ _ (by omega) (by omega) (zz_up e4) f1 (by rw [f2]; exact zb_L_f c_21) (by rw [f3]; exact zb_P_x c_21)
        · replace c_21 := zz_n0.mp c_21
          refine zj_aload_n (i := 0) (pc := 24) K dX0_countBench_24 rfl rfl ?_
          refine zj_getR (pc := 25) K lf_X0_33 hs_C rfl dX0_countBench_25 ?_
          refine zj_iload (pc := 28) K dX0_countBench_28 rfl ?_
          refine zj_dup2 (pc := 30) K dX0_countBench_30 rfl rfl ?_
          refine zj_ald (j := i) (pc := 31) K hs_Cl e4 (by omega) (by first | decide | omega) dX0_countBench_31 ?_
          refine zj_iload (pc := 32) K dX0_countBench_32 rfl ?_
          refine zj_iload_n (i := 3) (pc := 34) K dX0_countBench_34 rfl rfl ?_
          refine zj_icmp_ne (tgt := 50) (pc := 35) K dX0_countBench_35 (by decide) (fun c_35 => ?_) (fun c_35 => ?_)
          · refine zj_iload_n (i := 2) (pc := 50) K dX0_countBench_50 rfl rfl ?_
            refine zj_iadd (pc := 51) K dX0_countBench_51 ?_
            refine zj_ast (j := i) (pc := 52) K hs_Cl e4 (by omega) (by first | decide | omega) dX0_countBench_52 ?_
            refine zj_iload (pc := 53) K dX0_countBench_53 rfl ?_
            refine zj_iconst (v := 1) (pc := 55) K dX0_countBench_55 (by decide) ?_
            refine zj_iadd (pc := 56) K dX0_countBench_56 ?_
            refine zj_istore (pc := 57) K dX0_countBench_57 rfl rfl rfl ?_
            first
            | exact inner c_21 hi (J + 1) (i + 1) _ _ (by omega) (by omega) (by omega) (zz_up e4) (fun a a1 a2 => by rw [zj_s_ne _ _ a2]; exact f1 a a1 a2) (by rw [zj_s_eq, ← zb_L_t c_21, f2, if_neg (by rw [← e4]; exact c_35)]) (by rw [zj_s_ne _ _ (by omega), f3]; exact zb_P_s)
            | exact inner c_21 hi (J + 1) (i + 1) _ _ (by omega) (by omega) (by omega) (zz_up e4) (fun a a1 a2 => by rw [zj_s_ne _ _ a2]; exact f1 a a1 a2) (by rw [zj_s_eq, ← zb_L_t c_21, f2, if_pos (by rw [← e4]; exact c_35), f1 8 (by omega) (by omega)]) (by rw [zj_s_ne _ _ (by omega), f3]; exact zb_P_s)
          · refine zj_iload_n (i := 2) (pc := 38) K dX0_countBench_38 rfl rfl ?_
            refine zj_aload_n (i := 0) (pc := 39) K dX0_countBench_39 rfl rfl ?_
            refine zj_getR (pc := 40) K lf_X0_9 hs_C rfl dX0_countBench_40 ?_
            refine zj_getI (pc := 43) K lf_X0_89 hs_D rfl dX0_countBench_43 ?_
            refine zj_iadd (pc := 46) K dX0_countBench_46 ?_
            refine zj_goto (tgt := 51) (pc := 47) K dX0_countBench_47 (by decide) ?_
            refine zj_iadd (pc := 51) K dX0_countBench_51 ?_
            refine zj_ast (j := i) (pc := 52) K hs_Cl e4 (by omega) (by first | decide | omega) dX0_countBench_52 ?_
            refine zj_iload (pc := 53) K dX0_countBench_53 rfl ?_
            refine zj_iconst (v := 1) (pc := 55) K dX0_countBench_55 (by decide) ?_
            refine zj_iadd (pc := 56) K dX0_countBench_56 ?_
            refine zj_istore (pc := 57) K dX0_countBench_57 rfl rfl rfl ?_
            first
            | exact inner c_21 hi (J + 1) (i + 1) _ _ (by omega) (by omega) (by omega) (zz_up e4) (fun a a1 a2 => by rw [zj_s_ne _ _ a2]; exact f1 a a1 a2) (by rw [zj_s_eq, ← zb_L_t c_21, f2, if_neg (by rw [← e4]; exact c_35)]) (by rw [zj_s_ne _ _ (by omega), f3]; exact zb_P_s)
            | exact inner c_21 hi (J + 1) (i + 1) _ _ (by omega) (by omega) (by omega) (zz_up e4) (fun a a1 a2 => by rw [zj_s_ne _ _ a2]; exact f1 a a1 a2) (by rw [zj_s_eq, ← zb_L_t c_21, f2, if_pos (by rw [← e4]; exact c_35), f1 8 (by omega) (by omega)]) (by rw [zj_s_ne _ _ (by omega), f3]; exact zb_P_s)
  show zj_J E Γ 6 0 [(0, .ref (E.2.1 k)), (1, .int b), (2, .int w), (3, .int fi)] [] h g
  refine zj_iconst (v := 0) (pc := 0) K dX0_countBench_0 (by decide) ?_
  refine zj_istore (pc := 1) K dX0_countBench_1 rfl rfl rfl ?_
  exact loop (J + 1) 0 _ h (by omega) (by omega) rfl (fun _ _ _ => rfl) zb_L0.symm zb_P0.symm

set_option maxHeartbeats 4000000 in
set_option maxRecDepth 20000 in
theorem m_X0_countBenches {l : Launch} {E : zj_E} {h : zj_H} {g : zj_G} {k J C : Nat} (hk : zj_isC k) (eJ : h 8 6 = nI J) (hJ : J ≤ 9) (eC : h 8 7 = nI C) (hC : C ≤ 14) {wo : Int32} : zj_M l E yX0_countBenches cX0_countBenches 4 none 2 [.ref (E.2.1 k), .int wo] h g (fun v h' g' => v = none ∧ g' = g ∧ (∀ a, a ≠ k + 6 → a ≠ k + 7 → h' a = h a) ∧ h' (k + 7) = zb_Ln (h (k + 3)) (h 10) (h 9) (h 8 4) wo J (fun j => if j < 9 then 0 else h (k + 7) j) C ∧ h' (k + 6) = zb_Pn (h (k + 3)) wo J (fun j => if j < 81 then 0 else h (k + 6) j) C) := by
  refine zj_M.of RX0 (by decide) rfl (Nat.le_of_ble_eq_true rfl) ?_
  intro Γ hΓ K Rt
  subst hΓ
  obtain ⟨hs_C, hs_Cd, hs_Cs, hs_Ci, hs_Cb, hs_Cf, hs_Cp, hs_Cl, hs_Cn, hs_Ct⟩ := zj_shC hk
  obtain ⟨hk12, hk22⟩ := zj_C12 hk
  have loop : ∀ (n i : Nat) (x2 : Int32) (q : zj_H), C + 1 ≤ i + n → i ≤ C → (x2 = nI i) → (∀ a, a ≠ k + 6 → a ≠ k + 7 → q a = h a) → (q (k + 7) = zb_Ln (h (k + 3)) (h 10) (h 9) (h 8 4) wo J (fun j => if j < 9 then 0 else h (k + 7) j) i) → (q (k + 6) = zb_Pn (h (k + 3)) wo J (fun j => if j < 81 then 0 else h (k + 6) j) i) → zj_J E Γ 4 18 [(0, .ref (E.2.1 k)), (1, .int wo), (2, .int x2)] [] q g := by
    intro n
    induction n with
    | zero => intro i x2 q  h1 h2; omega
    | succ n ih =>
      intro i x2 q  h1 h2 e2 f1 f2 f3
      have eJ2 : q 8 6 = nI J := by rw [f1 8 (by omega) (by omega)]; exact eJ
      have eC2 : q 8 7 = nI C := by rw [f1 8 (by omega) (by omega)]; exact eC
      have eB2 : q (k + 3) = h (k + 3) := f1 _ (by omega) (by omega)
      have eW2 : q 10 = h 10 := f1 _ (by omega) (by omega)
      have eS2 : q 9 = h 9 := f1 _ (by omega) (by omega)
      have e82 : q 8 = h 8 := f1 _ (by omega) (by omega)
      refine zj_iload_n (i := 2) (pc := 18) K dX0_countBenches_18 rfl rfl ?_
      refine zj_aload_n (i := 0) (pc := 19) K dX0_countBenches_19 rfl rfl ?_
      refine zj_getR (pc := 20) K lf_X0_9 hs_C rfl dX0_countBenches_20 ?_
      refine zj_getI (pc := 23) K lf_X0_55 hs_D rfl dX0_countBenches_23 ?_
      refine zj_icmp_ge (tgt := 76) (pc := 26) K dX0_countBenches_26 (by decide) (fun c_26 => ?_) (fun c_26 => ?_)
      · have hi : i = C := Nat.le_antisymm h2 (zz_ge e2 eC2 (by omega) (by omega) c_26)
        subst hi
        exact zj_vret K Rt dX0_countBenches_76 (⟨rfl, rfl, f1, f2, f3⟩)
      · have hi : i < C := zz_nge e2 eC2 (by omega) (by omega) c_26
        refine zj_aload_n (i := 0) (pc := 29) K dX0_countBenches_29 rfl rfl ?_
        refine zj_getR (pc := 30) K lf_X0_18 hs_C rfl dX0_countBenches_30 ?_
        refine zj_getR (pc := 33) K lf_X0_59 hs_Cd rfl dX0_countBenches_33 ?_
        refine zj_iload_n (i := 2) (pc := 36) K dX0_countBenches_36 rfl rfl ?_
        refine zj_ald (j := _) (pc := 37) K hs_Ci (by first | assumption | rfl) (by first | assumption | omega) (by first | decide | omega) dX0_countBenches_37 ?_
        refine zj_istore_n (i := 3) (pc := 38) K dX0_countBenches_38 rfl rfl rfl rfl ?_
        refine zj_iload_n (i := 2) (pc := 39) K dX0_countBenches_39 rfl rfl ?_
        refine zj_iload_n (i := 1) (pc := 40) K dX0_countBenches_40 rfl rfl ?_
        refine zj_icmp_eq (tgt := 70) (pc := 41) K dX0_countBenches_41 (by decide) (fun c_41 => ?_) (fun c_41 => ?_)
        · refine zj_iinc (v := 1) (pc := 70) K dX0_countBenches_70 rfl (by decide) rfl rfl rfl ?_
          refine zj_goto (tgt := 18) (pc := 73) K dX0_countBenches_73 (by decide) ?_
          refine zj_pick [0, 1, 2] ?_
          first
          | exact ih (i + 1) _ _ (by omega) (by omega) (zz_up e2) f1 (by rw [f2, zb_Ln, if_neg (fun z => z.1 (by rw [← e2]; exact c_41))]) (by rw [f3, zb_Pn, if_neg (fun z => z.1 (by rw [← e2]; exact c_41))])
          | exact ih (i + 1) _ _ (by omega) (by omega) (zz_up e2) f1 (by rw [f2, zb_Ln, if_neg (fun z => z.2 (by rw [← eB2]; exact c_45))]) (by rw [f3, zb_Pn, if_neg (fun z => z.2 (by rw [← eB2]; exact c_45))])
          | exact ih (i + 1) _ _ (by omega) (by omega) (zz_up e2) (fun a a1 a2 => by rw [p1 a a1 a2]; exact f1 a a1 a2) (by rw [p2, f2, zb_Ln, if_pos ⟨by rw [← e2]; exact c_41, by rw [← eB2]; exact c_45⟩, eW2, e82, ← eB2, show q (8 + 1) = h 9 from eS2]) (by rw [p3, f3, zb_Pn, if_pos ⟨by rw [← e2]; exact c_41, by rw [← eB2]; exact c_45⟩, ← eB2])
        · refine zj_iload_n (i := 3) (pc := 44) K dX0_countBenches_44 rfl rfl ?_
          refine zj_if_eq (tgt := 70) (pc := 45) K dX0_countBenches_45 (by decide) (fun c_45 => ?_) (fun c_45 => ?_)
          · refine zj_iinc (v := 1) (pc := 70) K dX0_countBenches_70 rfl (by decide) rfl rfl rfl ?_
            refine zj_goto (tgt := 18) (pc := 73) K dX0_countBenches_73 (by decide) ?_
            refine zj_pick [0, 1, 2] ?_
            first
            | exact ih (i + 1) _ _ (by omega) (by omega) (zz_up e2) f1 (by rw [f2, zb_Ln, if_neg (fun z => z.1 (by rw [← e2]; exact c_41))]) (by rw [f3, zb_Pn, if_neg (fun z => z.1 (by rw [← e2]; exact c_41))])
            | exact ih (i + 1) _ _ (by omega) (by omega) (zz_up e2) f1 (by rw [f2, zb_Ln, if_neg (fun z => z.2 (by rw [← eB2]; exact c_45))]) (by rw [f3, zb_Pn, if_neg (fun z => z.2 (by rw [← eB2]; exact c_45))])
            | exact ih (i + 1) _ _ (by omega) (by omega) (zz_up e2) (fun a a1 a2 => by rw [p1 a a1 a2]; exact f1 a a1 a2) (by rw [p2, f2, zb_Ln, if_pos ⟨by rw [← e2]; exact c_41, by rw [← eB2]; exact c_45⟩, eW2, e82, ← eB2, show q (8 + 1) = h 9 from eS2]) (by rw [p3, f3, zb_Pn, if_pos ⟨by rw [← e2]; exact c_41, by rw [← eB2]; exact c_45⟩, ← eB2])
          · refine zj_aload_n (i := 0) (pc := 48) K dX0_countBenches_48 rfl rfl ?_
            refine zj_iload_n (i := 3) (pc := 49) K dX0_countBenches_49 rfl rfl ?_
            refine zj_aload_n (i := 0) (pc := 50) K dX0_countBenches_50 rfl rfl ?_
            refine zj_getR (pc := 51) K lf_X0_9 hs_C rfl dX0_countBenches_51 ?_
            refine zj_getR (pc := 54) K lf_X0_79 hs_D rfl dX0_countBenches_54 ?_
            refine zj_iload_n (i := 2) (pc := 57) K dX0_countBenches_57 rfl rfl ?_
            refine zj_ald (j := _) (pc := 58) K hs_Dw (by first | assumption | rfl) (by first | assumption | omega) (by first | decide | omega) dX0_countBenches_58 ?_
            refine zj_aload_n (i := 0) (pc := 59) K dX0_countBenches_59 rfl rfl ?_
            refine zj_getR (pc := 60) K lf_X0_9 hs_C rfl dX0_countBenches_60 ?_
            refine zj_iload_n (i := 3) (pc := 63) K dX0_countBenches_63 rfl rfl ?_
            refine zj_cV1I (pc := 64) K lm_X0_66 hs_D (m_X6_presiding (Or.inr rfl) (by assumption) (by omega)) (by decide) rfl (Nat.le_of_ble_eq_true rfl) dX0_countBenches_64 ?_
            refine zj_cV3P (pc := 67) K lm_X0_82 hs_C (m_X0_countBench hk eJ2 hJ) (by decide) rfl (Nat.le_of_ble_eq_true rfl) dX0_countBenches_67 (fun v q2 g2 hp => ?_)
            obtain ⟨rfl, rfl, p1, p2, p3⟩ := hp
            refine zj_iinc (v := 1) (pc := 70) K dX0_countBenches_70 rfl (by decide) rfl rfl rfl ?_
            refine zj_goto (tgt := 18) (pc := 73) K dX0_countBenches_73 (by decide) ?_
            refine zj_pick [0, 1, 2] ?_
            first
            | exact ih (i + 1) _ _ (by omega) (by omega) (zz_up e2) f1 (by rw [f2, zb_Ln, if_neg (fun z => z.1 (by rw [← e2]; exact c_41))]) (by rw [f3, zb_Pn, if_neg (fun z => z.1 (by rw [← e2]; exact c_41))])
            | exact ih (i + 1) _ _ (by omega) (by omega) (zz_up e2) f1 (by rw [f2, zb_Ln, if_neg (fun z => z.2 (by rw [← eB2]; exact c_45))]) (by rw [f3, zb_Pn, if_neg (fun z => z.2 (by rw [← eB2]; exact c_45))])
            | exact ih (i + 1) _ _ (by omega) (by omega) (zz_up e2) (fun a a1 a2 => by rw [p1 a a1 a2]; exact f1 a a1 a2) (by rw [p2, f2, zb_Ln, if_pos ⟨by rw [← e2]; exact c_41, by rw [← eB2]; exact c_45⟩, eW2, e82, ← eB2, show q (8 + 1) = h 9 from eS2]) (by rw [p3, f3, zb_Pn, if_pos ⟨by rw [← e2]; exact c_41, by rw [← eB2]; exact c_45⟩, ← eB2])
  show zj_J E Γ 4 0 [(0, .ref (E.2.1 k)), (1, .int wo)] [] h g
  refine zj_aload_n (i := 0) (pc := 0) K dX0_countBenches_0 rfl rfl ?_
  refine zj_getR (pc := 1) K lf_X0_29 hs_C rfl dX0_countBenches_1 ?_
  refine zj_iconst (v := 0) (pc := 4) K dX0_countBenches_4 (by decide) ?_
  refine zj_cS2W (pc := 5) K lm_X0_73 (m_J7_fill_53178 (by assumption) (by omega)) (by decide) rfl (Nat.le_of_ble_eq_true rfl) dX0_countBenches_5 ?_
  refine zj_aload_n (i := 0) (pc := 8) K dX0_countBenches_8 rfl rfl ?_
  refine zj_getR (pc := 9) K lf_X0_33 hs_C rfl dX0_countBenches_9 ?_
  refine zj_iconst (v := 0) (pc := 12) K dX0_countBenches_12 (by decide) ?_
  refine zj_cS2W (pc := 13) K lm_X0_73 (m_J7_fill_53178 (by assumption) (by omega)) (by decide) rfl (Nat.le_of_ble_eq_true rfl) dX0_countBenches_13 ?_
  refine zj_iconst (v := 0) (pc := 16) K dX0_countBenches_16 (by decide) ?_
  refine zj_istore_n (i := 2) (pc := 17) K dX0_countBenches_17 rfl rfl rfl rfl ?_
  exact loop (C + 1) 0 _ _ (by omega) (by omega) rfl (fun a a1 a2 => by rw [zj_s_ne _ _ a2, zj_s_ne _ _ a1]) (by rw [zj_s_eq, zj_s_ne _ _ (by omega)]; rfl) (by rw [zj_s_ne _ _ (by omega), zj_s_eq]; rfl)

set_option maxHeartbeats 4000000 in
set_option maxRecDepth 20000 in
theorem m_X0_pairsBehind {l : Launch} {E : zj_E} {h : zj_H} {g : zj_G} {k J : Nat} (hk : zj_isC k) (eJ : h 8 6 = nI J) (hJ : J ≤ 9) {b x : Int32} {a : Nat} (ex : x = nI a) (ha : a < J) : zj_M l E yX0_pairsBehind cX0_pairsBehind 5 (some .int) 1 [.ref (E.2.1 k), .int b, .int x] h g (zj_pI (zt_pb (h (k + 6)) b J a) h g) := by
  refine zj_M.of RX0 (by decide) rfl (Nat.le_of_ble_eq_true rfl) ?_
  intro Γ hΓ K Rt
  subst hΓ
  obtain ⟨hs_C, hs_Cd, hs_Cs, hs_Ci, hs_Cb, hs_Cf, hs_Cp, hs_Cl, hs_Cn, hs_Ct⟩ := zj_shC hk
  obtain ⟨hk12, hk22⟩ := zj_C12 hk
  have loop : ∀ (n i : Nat) (x3 x4 : Int32), J + 1 ≤ i + n → i ≤ J → (a < i) → (x3 = zc_sum (fun c => if (decide (a < c) && bt b c) = true then h (k + 6) (a * 9 + c) else 0) i) → (x4 = nI i) → zj_J E Γ 5 7 [(0, .ref (E.2.1 k)), (1, .int b), (2, .int x), (3, .int x3), (4, .int x4)] [] h g := by
    intro n
    induction n with
    | zero => intro i x3 x4  h1 h2; omega
    | succ n ih =>
      intro i x3 x4  h1 h2 hlo e3 e4
      refine zj_iload (pc := 7) K dX0_pairsBehind_7 rfl ?_
      refine zj_aload_n (i := 0) (pc := 9) K dX0_pairsBehind_9 rfl rfl ?_
      refine zj_getR (pc := 10) K lf_X0_9 hs_C rfl dX0_pairsBehind_10 ?_
      refine zj_getI (pc := 13) K lf_X0_86 hs_D rfl dX0_pairsBehind_13 ?_
      refine zj_icmp_ge (tgt := 48) (pc := 16) K dX0_pairsBehind_16 (by decide) (fun c_16 => ?_) (fun c_16 => ?_)
      · have hi : i = J := Nat.le_antisymm h2 (zz_ge e4 eJ (by omega) (by omega) c_16)
        subst hi
        refine zj_iload_n (i := 3) (pc := 48) K dX0_pairsBehind_48 rfl rfl ?_
        exact zj_iret K Rt dX0_pairsBehind_49 (⟨by rw [e3]; rfl, rfl, rfl⟩)
      · have hi : i < J := zz_nge e4 eJ (by omega) (by omega) c_16
        refine zj_iload_n (i := 1) (pc := 19) K dX0_pairsBehind_19 rfl rfl ?_
        refine zj_iload (pc := 20) K dX0_pairsBehind_20 rfl ?_
        refine zj_cN2I (pc := 22) K lm_X0_62 (m_X7_has (by assumption) (by omega)) (by decide) rfl (Nat.le_of_ble_eq_true rfl) dX0_pairsBehind_22 ?_
        refine zj_if_eq (tgt := 42) (pc := 25) K dX0_pairsBehind_25 (by decide) (fun c_25 => ?_) (fun c_25 => ?_)
        · replace c_25 := zz_i0.mp c_25
          refine zj_iinc (v := 1) (pc := 42) K dX0_pairsBehind_42 rfl (by decide) rfl rfl rfl ?_
          refine zj_goto (tgt := 7) (pc := 45) K dX0_pairsBehind_45 (by decide) ?_
          exact ih (i + 1) _ _ (by omega) (by omega) (by omega) (by first | exact zc_sum_f e3 (by rw [c_25]; simp) | exact zc_sum_t e3 (by rw [c_25]; simp [hlo]) rfl) (zz_up e4)
        · replace c_25 := zz_n0.mp c_25
          refine zj_iload_n (i := 3) (pc := 28) K dX0_pairsBehind_28 rfl rfl ?_
          refine zj_aload_n (i := 0) (pc := 29) K dX0_pairsBehind_29 rfl rfl ?_
          refine zj_getR (pc := 30) K lf_X0_29 hs_C rfl dX0_pairsBehind_30 ?_
          refine zj_iload_n (i := 2) (pc := 33) K dX0_pairsBehind_33 rfl rfl ?_
          refine zj_iload (pc := 34) K dX0_pairsBehind_34 rfl ?_
          refine zj_cN2I (pc := 36) K lm_X0_92 (m_X7_pairPlace (by assumption) (by assumption) (by omega) (by omega)) (by decide) rfl (Nat.le_of_ble_eq_true rfl) dX0_pairsBehind_36 ?_
          refine zj_ald (j := a * 9 + i) (pc := 39) K hs_Cp rfl (by omega) (by first | decide | omega) dX0_pairsBehind_39 ?_
          refine zj_iadd (pc := 40) K dX0_pairsBehind_40 ?_
          refine zj_istore_n (i := 3) (pc := 41) K dX0_pairsBehind_41 rfl rfl rfl rfl ?_
          refine zj_iinc (v := 1) (pc := 42) K dX0_pairsBehind_42 rfl (by decide) rfl rfl rfl ?_
          refine zj_goto (tgt := 7) (pc := 45) K dX0_pairsBehind_45 (by decide) ?_
          exact ih (i + 1) _ _ (by omega) (by omega) (by omega) (by first | exact zc_sum_f e3 (by rw [c_25]; simp) | exact zc_sum_t e3 (by rw [c_25]; simp [hlo]) rfl) (zz_up e4)
  show zj_J E Γ 5 0 [(0, .ref (E.2.1 k)), (1, .int b), (2, .int x)] [] h g
  refine zj_iconst (v := 0) (pc := 0) K dX0_pairsBehind_0 (by decide) ?_
  refine zj_istore_n (i := 3) (pc := 1) K dX0_pairsBehind_1 rfl rfl rfl rfl ?_
  refine zj_iload_n (i := 2) (pc := 2) K dX0_pairsBehind_2 rfl rfl ?_
  refine zj_iconst (v := 1) (pc := 3) K dX0_pairsBehind_3 (by decide) ?_
  refine zj_iadd (pc := 4) K dX0_pairsBehind_4 ?_
  refine zj_istore (pc := 5) K dX0_pairsBehind_5 rfl rfl rfl ?_
  exact loop (J + 1) (a + 1) _ _ (by omega) (by omega) (by omega) zc_sum_lo.symm (zz_up ex)

set_option maxHeartbeats 4000000 in
set_option maxRecDepth 20000 in
theorem m_X0_tensionOf {l : Launch} {E : zj_E} {h : zj_H} {g : zj_G} {k J : Nat} (hk : zj_isC k) (eJ : h 8 6 = nI J) (hJ : J ≤ 9) {b : Int32} : zj_M l E yX0_tensionOf cX0_tensionOf 5 (some .int) 2 [.ref (E.2.1 k), .int b] h g (zj_pI (h 8 2 * zt_cp (h (k + 6)) b J + h 8 3 * zt_cl (h (k + 7)) b J) h g) := by
  refine zj_M.of RX0 (by decide) rfl (Nat.le_of_ble_eq_true rfl) ?_
  intro Γ hΓ K Rt
  subst hΓ
  obtain ⟨hs_C, hs_Cd, hs_Cs, hs_Ci, hs_Cb, hs_Cf, hs_Cp, hs_Cl, hs_Cn, hs_Ct⟩ := zj_shC hk
  obtain ⟨hk12, hk22⟩ := zj_C12 hk
  have loop : ∀ (n i : Nat) (x2 x3 x4 : Int32), J + 1 ≤ i + n → i ≤ J → (x2 = zc_sum (fun a => if bt b a = true then zt_pb (h (k + 6)) b J a else 0) i) → (x3 = zc_sum (fun a => if bt b a = true then h (k + 7) a else 0) i) → (x4 = nI i) → zj_J E Γ 5 7 [(0, .ref (E.2.1 k)), (1, .int b), (2, .int x2), (3, .int x3), (4, .int x4)] [] h g := by
    intro n
    induction n with
    | zero => intro i x2 x3 x4  h1 h2; omega
    | succ n ih =>
      intro i x2 x3 x4  h1 h2 e2 e3 e4
      refine zj_iload (pc := 7) K dX0_tensionOf_7 rfl ?_
      refine zj_aload_n (i := 0) (pc := 9) K dX0_tensionOf_9 rfl rfl ?_
      refine zj_getR (pc := 10) K lf_X0_9 hs_C rfl dX0_tensionOf_10 ?_
      refine zj_getI (pc := 13) K lf_X0_86 hs_D rfl dX0_tensionOf_13 ?_
      refine zj_icmp_ge (tgt := 54) (pc := 16) K dX0_tensionOf_16 (by decide) (fun c_16 => ?_) (fun c_16 => ?_)
      · have hi : i = J := Nat.le_antisymm h2 (zz_ge e4 eJ (by omega) (by omega) c_16)
        refine zj_aload_n (i := 0) (pc := 54) K dX0_tensionOf_54 rfl rfl ?_
        refine zj_getR (pc := 55) K lf_X0_9 hs_C rfl dX0_tensionOf_55 ?_
        refine zj_getI (pc := 58) K lf_X0_99 hs_D rfl dX0_tensionOf_58 ?_
        refine zj_iload_n (i := 2) (pc := 61) K dX0_tensionOf_61 rfl rfl ?_
        refine zj_imul (pc := 62) K dX0_tensionOf_62 ?_
        refine zj_aload_n (i := 0) (pc := 63) K dX0_tensionOf_63 rfl rfl ?_
        refine zj_getR (pc := 64) K lf_X0_9 hs_C rfl dX0_tensionOf_64 ?_
        refine zj_getI (pc := 67) K lf_X0_102 hs_D rfl dX0_tensionOf_67 ?_
        refine zj_iload_n (i := 3) (pc := 70) K dX0_tensionOf_70 rfl rfl ?_
        refine zj_imul (pc := 71) K dX0_tensionOf_71 ?_
        refine zj_iadd (pc := 72) K dX0_tensionOf_72 ?_
        exact zj_iret K Rt dX0_tensionOf_73 (⟨by rw [e2, e3, hi]; rfl, rfl, rfl⟩)
      · have hi : i < J := zz_nge e4 eJ (by omega) (by omega) c_16
        refine zj_iload_n (i := 1) (pc := 19) K dX0_tensionOf_19 rfl rfl ?_
        refine zj_iload (pc := 20) K dX0_tensionOf_20 rfl ?_
        refine zj_cN2I (pc := 22) K lm_X0_62 (m_X7_has (by assumption) (by omega)) (by decide) rfl (Nat.le_of_ble_eq_true rfl) dX0_tensionOf_22 ?_
        refine zj_if_eq (tgt := 48) (pc := 25) K dX0_tensionOf_25 (by decide) (fun c_25 => ?_) (fun c_25 => ?_)
        · replace c_25 := zz_i0.mp c_25
          refine zj_iinc (v := 1) (pc := 48) K dX0_tensionOf_48 rfl (by decide) rfl rfl rfl ?_
          refine zj_goto (tgt := 7) (pc := 51) K dX0_tensionOf_51 (by decide) ?_
          exact ih (i + 1) _ _ _ (by omega) (by omega) (by first | exact zc_sum_f e2 c_25 | exact zc_sum_t e2 c_25 rfl) (by first | exact zc_sum_f e3 c_25 | exact zc_sum_t e3 c_25 rfl) (zz_up e4)
        · replace c_25 := zz_n0.mp c_25
          refine zj_iload_n (i := 3) (pc := 28) K dX0_tensionOf_28 rfl rfl ?_
          refine zj_aload_n (i := 0) (pc := 29) K dX0_tensionOf_29 rfl rfl ?_
          refine zj_getR (pc := 30) K lf_X0_33 hs_C rfl dX0_tensionOf_30 ?_
          refine zj_iload (pc := 33) K dX0_tensionOf_33 rfl ?_
          refine zj_ald (j := _) (pc := 35) K hs_Cl (by first | assumption | rfl) (by first | assumption | omega) (by first | decide | omega) dX0_tensionOf_35 ?_
          refine zj_iadd (pc := 36) K dX0_tensionOf_36 ?_
          refine zj_istore_n (i := 3) (pc := 37) K dX0_tensionOf_37 rfl rfl rfl rfl ?_
          refine zj_iload_n (i := 2) (pc := 38) K dX0_tensionOf_38 rfl rfl ?_
          refine zj_aload_n (i := 0) (pc := 39) K dX0_tensionOf_39 rfl rfl ?_
          refine zj_iload_n (i := 1) (pc := 40) K dX0_tensionOf_40 rfl rfl ?_
          refine zj_iload (pc := 41) K dX0_tensionOf_41 rfl ?_
          refine zj_cV2I (pc := 43) K lm_X0_96 hs_C (m_X0_pairsBehind hk (by assumption) (by omega) (by assumption) (by omega)) (by decide) rfl (Nat.le_of_ble_eq_true rfl) dX0_tensionOf_43 ?_
          refine zj_iadd (pc := 46) K dX0_tensionOf_46 ?_
          refine zj_istore_n (i := 2) (pc := 47) K dX0_tensionOf_47 rfl rfl rfl rfl ?_
          refine zj_iinc (v := 1) (pc := 48) K dX0_tensionOf_48 rfl (by decide) rfl rfl rfl ?_
          refine zj_goto (tgt := 7) (pc := 51) K dX0_tensionOf_51 (by decide) ?_
          exact ih (i + 1) _ _ _ (by omega) (by omega) (by first | exact zc_sum_f e2 c_25 | exact zc_sum_t e2 c_25 rfl) (by first | exact zc_sum_f e3 c_25 | exact zc_sum_t e3 c_25 rfl) (zz_up e4)
  show zj_J E Γ 5 0 [(0, .ref (E.2.1 k)), (1, .int b)] [] h g
  refine zj_iconst (v := 0) (pc := 0) K dX0_tensionOf_0 (by decide) ?_
  refine zj_istore_n (i := 2) (pc := 1) K dX0_tensionOf_1 rfl rfl rfl rfl ?_
  refine zj_iconst (v := 0) (pc := 2) K dX0_tensionOf_2 (by decide) ?_
  refine zj_istore_n (i := 3) (pc := 3) K dX0_tensionOf_3 rfl rfl rfl rfl ?_
  refine zj_iconst (v := 0) (pc := 4) K dX0_tensionOf_4 (by decide) ?_
  refine zj_istore (pc := 5) K dX0_tensionOf_5 rfl rfl rfl ?_
  exact loop (J + 1) 0 _ _ _ (by omega) (by omega) rfl rfl rfl
