theorem zz_pp_lt {a b : Nat} (ha : a < 9) (hb : b < 9) : zz_pp a b < 81 := by unfold zz_pp; split <;> omega
/-- EXCHANGE: the benches then -/
def zx_si (si : Nat → Int32) (a i b j : Nat) : Nat → Int32 := upd (upd si a (zr_stay (si a) i ||| zz_bit j)) b (zr_stay (upd si a (zr_stay (si a) i ||| zz_bit j) b) j ||| zz_bit i)
/-- may it be -/
def zx_may (J C : Nat) (st si : Nat → Int32) (pl : Nat → Int32 → Bool) (xa xx xb xy : Int32) : Bool :=
  zz_in xa C && decide (st xa.toNatClampNeg = 1) && (zz_in xb C && decide (st xb.toNatClampNeg = 1)) && zz_in xx J && zz_in xy J &&
  (bt (si xa.toNatClampNeg) xx.toNatClampNeg && !bt (si xb.toNatClampNeg) xx.toNatClampNeg && bt (si xb.toNatClampNeg) xy.toNatClampNeg && !bt (si xa.toNatClampNeg) xy.toNatClampNeg &&
   pl xa.toNatClampNeg (zr_stay (si xa.toNatClampNeg) xx.toNatClampNeg ||| zz_bit xy.toNatClampNeg) && pl xb.toNatClampNeg (zr_stay (si xb.toNatClampNeg) xy.toNatClampNeg ||| zz_bit xx.toNatClampNeg))
theorem zx_set {x : Int32} {C : Nat} {st : Nat → Int32} (h : (zz_in x C && decide (st x.toNatClampNeg = 1)) = true) (hC : C ≤ 14) : ∃ j, j < C ∧ x = nI j ∧ st j = 1 := by
  rw [Bool.and_eq_true] at h
  obtain ⟨j, hj, e⟩ := zz_in_ex h.1 (by omega)
  have h2 := of_decide_eq_true h.2
  rw [e, nI_clamp (by omega)] at h2
  exact ⟨j, hj, e, h2⟩
section ZXM
variable {J C : Nat} {st si : Nat → Int32} {pl : Nat → Int32 → Bool} {xa xx xb xy : Int32}
theorem zx_may_f1 (h : (zz_in xa C && decide (st xa.toNatClampNeg = 1)) = false) : zx_may J C st si pl xa xx xb xy = false := by unfold zx_may; rw [h]; simp
theorem zx_may_f2 (h : (zz_in xb C && decide (st xb.toNatClampNeg = 1)) = false) : zx_may J C st si pl xa xx xb xy = false := by unfold zx_may; rw [h]; simp
theorem zx_may_f3 (h : zz_in xx J = false) : zx_may J C st si pl xa xx xb xy = false := by unfold zx_may; rw [h]; simp
theorem zx_may_f4 (h : zz_in xy J = false) : zx_may J C st si pl xa xx xb xy = false := by unfold zx_may; rw [h]; simp
theorem zx_may_of {ja ji jb jj : Nat} (hJ : J ≤ 9) (hC : C ≤ 14) (ea : xa = nI ja) (ei : xx = nI ji) (eb : xb = nI jb) (ej : xy = nI jj) (ha : ja < C) (hi : ji < J) (hb : jb < C) (hj : jj < J) (sa : st ja = 1) (sb : st jb = 1) :
    zx_may J C st si pl xa xx xb xy = (bt (si ja) ji && !bt (si jb) ji && bt (si jb) jj && !bt (si ja) jj && pl ja (zr_stay (si ja) ji ||| zz_bit jj) && pl jb (zr_stay (si jb) jj ||| zz_bit ji)) := by
  subst ea; subst ei; subst eb; subst ej
  unfold zx_may
  rw [nI_clamp (by omega), nI_clamp (by omega), nI_clamp (by omega), nI_clamp (by omega), zz_in_nI ha (by omega), zz_in_nI hi (by omega), zz_in_nI hb (by omega), zz_in_nI hj (by omega), sa, sb]
  simp
end ZXM
/-- PAIRS when beside those of b the i-th goes and the j-th comes, the first n judges: how the squares change, the PAIRS then -/
def zx_mv (P : Nat → Int32) (b : Int32) (i j : Nat) : Nat → Int32 × (Nat → Int32)
  | 0 => (0, P)
  | c + 1 => if bt b c = true then
      ((zx_mv P b i j c).1 + (1 - 2 * (zx_mv P b i j c).2 (zz_pp c i)) + (1 + 2 * upd (zx_mv P b i j c).2 (zz_pp c i) ((zx_mv P b i j c).2 (zz_pp c i) - 1) (zz_pp c j)),
        upd (upd (zx_mv P b i j c).2 (zz_pp c i) ((zx_mv P b i j c).2 (zz_pp c i) - 1)) (zz_pp c j) (upd (zx_mv P b i j c).2 (zz_pp c i) ((zx_mv P b i j c).2 (zz_pp c i) - 1) (zz_pp c j) + 1))
    else zx_mv P b i j c
set_option maxHeartbeats 4000000 in
set_option maxRecDepth 20000 in
theorem m_X0_repairAllOf {l : Launch} {E : zj_E} {h : zj_H} {g : zj_G} {k J C u gg : Nat} (hk : zj_isC k) (eJ : h 8 6 = nI J) (hJ : J ≤ 9) (eC : h 8 7 = nI C) (hC : C ≤ 14) {x1 : Int32} (ex1 : x1 = nI gg) (hg : gg < 9) : zj_M l E yX0_repairAllOf cX0_repairAllOf 4 (some .int) 4 [.ref (E.2.1 k), .int x1] h g (fun v h' g' => v = some (.int (nI (zr_all (zθC h k J C u) gg (h (k + 2)) (h (k + 3)) C).1)) ∧ g' = g ∧ (∀ a, a ≠ k + 2 → a ≠ k + 3 → a ≠ k + 6 → a ≠ k + 7 → h' a = h a) ∧ h' (k + 2) = (zr_all (zθC h k J C u) gg (h (k + 2)) (h (k + 3)) C).2.1 ∧ h' (k + 3) = (zr_all (zθC h k J C u) gg (h (k + 2)) (h (k + 3)) C).2.2) := by
  refine zj_M.of RX0 (by decide) rfl (Nat.le_of_ble_eq_true rfl) ?_
  intro Γ hΓ K Rt
  subst hΓ
  obtain ⟨hs_C, hs_Cd, hs_Cs, hs_Ci, hs_Cb, hs_Cf, hs_Cp, hs_Cl, hs_Cn, hs_Ct⟩ := zj_shC hk
  obtain ⟨hk12, hk22⟩ := zj_C12 hk
  have loop : ∀ (m i : Nat) (x2 x3 : Int32) (q : zj_H), C + 1 ≤ i + m → i ≤ C → (x2 = nI (zr_all (zθC h k J C u) gg (h (k + 2)) (h (k + 3)) i).1) → (x3 = nI i) → (∀ a, a ≠ k + 2 → a ≠ k + 3 → a ≠ k + 6 → a ≠ k + 7 → q a = h a) → (q (k + 2) = (zr_all (zθC h k J C u) gg (h (k + 2)) (h (k + 3)) i).2.1) → (q (k + 3) = (zr_all (zθC h k J C u) gg (h (k + 2)) (h (k + 3)) i).2.2) → zj_J E Γ 4 4 [(0, .ref (E.2.1 k)), (1, .int x1), (2, .int x2), (3, .int x3)] [] q g := by
    intro m
    induction m with
    | zero => intro i x2 x3 q  h1 h2; omega
    | succ m ih =>
      intro i x2 x3 q  h1 h2 e2 e3 zf1 zf2 zf3
      have e8 : q 8 = h 8 := zf1 8 (by omega) (by omega) (by omega) (by omega)
      have e9 : q 9 = h 9 := zf1 9 (by omega) (by omega) (by omega) (by omega)
      have e10 : q 10 = h 10 := zf1 10 (by omega) (by omega) (by omega) (by omega)
      have eb : q (k + 4) = h (k + 4) := zf1 _ (by omega) (by omega) (by omega) (by omega)
      have ea : q (k + 1) = h (k + 1) := zf1 _ (by omega) (by omega) (by omega) (by omega)
      have eC2 : q 8 7 = nI C := by rw [e8]; exact eC
      have eth : zθC q k J C u = (zθC h k J C u) := zθC_congr e8 e9 e10 eb (by rw [ea])
      refine zj_iload_n (i := 3) (pc := 4) K dX0_repairAllOf_4 rfl rfl ?_
      refine zj_aload_n (i := 0) (pc := 5) K dX0_repairAllOf_5 rfl rfl ?_
      refine zj_getR (pc := 6) K lf_X0_9 hs_C rfl dX0_repairAllOf_6 ?_
      refine zj_getI (pc := 9) K lf_X0_55 hs_D rfl dX0_repairAllOf_9 ?_
      refine zj_icmp_ge (tgt := 63) (pc := 12) K dX0_repairAllOf_12 (by decide) (fun c_12 => ?_) (fun c_12 => ?_)
      · have hi : i = C := Nat.le_antisymm h2 (zz_ge e3 eC2 (by omega) (by omega) c_12)
        subst hi
        refine zj_iload_n (i := 2) (pc := 63) K dX0_repairAllOf_63 rfl rfl ?_
        exact zj_iret K Rt dX0_repairAllOf_64 (⟨by rw [e2], rfl, zf1, zf2, zf3⟩)
      · have hi : i < C := zz_nge e3 eC2 (by omega) (by omega) c_12
        refine zj_aload_n (i := 0) (pc := 15) K dX0_repairAllOf_15 rfl rfl ?_
        refine zj_getR (pc := 16) K lf_X0_18 hs_C rfl dX0_repairAllOf_16 ?_
        refine zj_getR (pc := 19) K lf_X0_52 hs_Cd rfl dX0_repairAllOf_19 ?_
        refine zj_iload_n (i := 3) (pc := 22) K dX0_repairAllOf_22 rfl rfl ?_
        refine zj_ald (j := _) (pc := 23) K hs_Cs (by first | assumption | rfl) (by first | assumption | omega) (by first | decide | omega) dX0_repairAllOf_23 ?_
        refine zj_iconst (v := 1) (pc := 24) K dX0_repairAllOf_24 (by decide) ?_
        refine zj_icmp_ne (tgt := 57) (pc := 25) K dX0_repairAllOf_25 (by decide) (fun c_25 => ?_) (fun c_25 => ?_)
        · rw [zf2] at c_25
          have hnd : (zr_all (zθC h k J C u) gg (h (k + 2)) (h (k + 3)) (i + 1)) = (zr_all (zθC h k J C u) gg (h (k + 2)) (h (k + 3)) i) := by rw [zr_all, if_neg (fun z => c_25 z.1)]
          refine zj_iinc (v := 1) (pc := 57) K dX0_repairAllOf_57 rfl (by decide) rfl rfl rfl ?_
          refine zj_goto (tgt := 4) (pc := 60) K dX0_repairAllOf_60 (by decide) ?_
          first
          | exact ih (i + 1) _ _ _ (by omega) (by omega) (by rw [hnd]; exact e2) (zz_up e3) zf1 (by rw [hnd]; exact zf2) (by rw [hnd]; exact zf3)
          | exact ih (i + 1) _ _ _ (by omega) (by omega) (by rw [hdr]; exact e2) (zz_up e3) (fun a a1 a2 a3 a4 => by rw [zs1 a a1 a2 a3 a4]; exact zf1 a a1 a2 a3 a4) (by rw [hdr, zs2]) (by rw [hdr, zs3])
          | exact ih (i + 1) _ _ _ (by omega) (by omega) (by rw [hdr, e2]; exact nI_1 _) (zz_up e3) (fun a a1 a2 a3 a4 => by rw [zs1 a a1 a2 a3 a4]; exact zf1 a a1 a2 a3 a4) (by rw [hdr, zs2]) (by rw [hdr, zs3])
        · rw [zf2] at c_25
          refine zj_aload_n (i := 0) (pc := 28) K dX0_repairAllOf_28 rfl rfl ?_
          refine zj_getR (pc := 29) K lf_X0_18 hs_C rfl dX0_repairAllOf_29 ?_
          refine zj_getR (pc := 32) K lf_X0_59 hs_Cd rfl dX0_repairAllOf_32 ?_
          refine zj_iload_n (i := 3) (pc := 35) K dX0_repairAllOf_35 rfl rfl ?_
          refine zj_ald (j := _) (pc := 36) K hs_Ci (by first | assumption | rfl) (by first | assumption | omega) (by first | decide | omega) dX0_repairAllOf_36 ?_
          refine zj_iload_n (i := 1) (pc := 37) K dX0_repairAllOf_37 rfl rfl ?_
          refine zj_cN2I (pc := 38) K lm_X0_62 (m_X7_has (by assumption) (by omega)) (by decide) rfl (Nat.le_of_ble_eq_true rfl) dX0_repairAllOf_38 ?_
          refine zj_if_eq (tgt := 57) (pc := 41) K dX0_repairAllOf_41 (by decide) (fun c_41 => ?_) (fun c_41 => ?_)
          · replace c_41 := zz_i0.mp c_41
            rw [zf3] at c_41
            have hnd : (zr_all (zθC h k J C u) gg (h (k + 2)) (h (k + 3)) (i + 1)) = (zr_all (zθC h k J C u) gg (h (k + 2)) (h (k + 3)) i) := by rw [zr_all, if_neg (fun z => by rw [c_41] at z; exact absurd z.2 (by decide))]
            refine zj_iinc (v := 1) (pc := 57) K dX0_repairAllOf_57 rfl (by decide) rfl rfl rfl ?_
            refine zj_goto (tgt := 4) (pc := 60) K dX0_repairAllOf_60 (by decide) ?_
            first
            | exact ih (i + 1) _ _ _ (by omega) (by omega) (by rw [hnd]; exact e2) (zz_up e3) zf1 (by rw [hnd]; exact zf2) (by rw [hnd]; exact zf3)
            | exact ih (i + 1) _ _ _ (by omega) (by omega) (by rw [hdr]; exact e2) (zz_up e3) (fun a a1 a2 a3 a4 => by rw [zs1 a a1 a2 a3 a4]; exact zf1 a a1 a2 a3 a4) (by rw [hdr, zs2]) (by rw [hdr, zs3])
            | exact ih (i + 1) _ _ _ (by omega) (by omega) (by rw [hdr, e2]; exact nI_1 _) (zz_up e3) (fun a a1 a2 a3 a4 => by rw [zs1 a a1 a2 a3 a4]; exact zf1 a a1 a2 a3 a4) (by rw [hdr, zs2]) (by rw [hdr, zs3])
          · replace c_41 := zz_n0.mp c_41
            rw [zf3] at c_41
            have hdr := (show (zr_all (zθC h k J C u) gg (h (k + 2)) (h (k + 3)) (i + 1)) = _ by rw [zr_all, if_pos ⟨c_25, c_41⟩])
            refine zj_aload_n (i := 0) (pc := 44) K dX0_repairAllOf_44 rfl rfl ?_
            refine zj_iload_n (i := 3) (pc := 45) K dX0_repairAllOf_45 rfl rfl ?_
            refine zj_iload_n (i := 1) (pc := 46) K dX0_repairAllOf_46 rfl rfl ?_
            refine zj_cV2P (pc := 47) K lm_X0_169 hs_C (m_X0_repair (J := J) (C := C) (u := u) (gg := gg) hk (by rw [e8]; exact eJ) hJ eC2 hC e3 ex1 (by omega) hg) (by decide) rfl (Nat.le_of_ble_eq_true rfl) dX0_repairAllOf_47 (fun v q2 g2 hp => ?_)
            obtain ⟨rfl, rfl, zs1, zs2, zs3⟩ := hp
            rw [eth, zf2, zf3] at zs2
            rw [eth, zf3] at zs3
            refine zj_iconst (v := -1) (pc := 50) K dX0_repairAllOf_50 (by decide) ?_
            refine zj_icmp_eq (tgt := 57) (pc := 51) K dX0_repairAllOf_51 (by decide) (fun c_51 => ?_) (fun c_51 => ?_)
            · have hno : (zr_b (zθC h k J C u) (zr_all (zθC h k J C u) gg (h (k + 2)) (h (k + 3)) i).2.2 i gg).1 = none := zc_opt_none (fun f z => by have z1 := (zr_best_lt z).1; have z2 : f < J := z1; omega) (by rw [eth, zf3] at c_51; exact c_51)
              rw [hno] at hdr zs2 zs3
              refine zj_iinc (v := 1) (pc := 57) K dX0_repairAllOf_57 rfl (by decide) rfl rfl rfl ?_
              refine zj_goto (tgt := 4) (pc := 60) K dX0_repairAllOf_60 (by decide) ?_
              first
              | exact ih (i + 1) _ _ _ (by omega) (by omega) (by rw [hnd]; exact e2) (zz_up e3) zf1 (by rw [hnd]; exact zf2) (by rw [hnd]; exact zf3)
              | exact ih (i + 1) _ _ _ (by omega) (by omega) (by rw [hdr]; exact e2) (zz_up e3) (fun a a1 a2 a3 a4 => by rw [zs1 a a1 a2 a3 a4]; exact zf1 a a1 a2 a3 a4) (by rw [hdr, zs2]) (by rw [hdr, zs3])
              | exact ih (i + 1) _ _ _ (by omega) (by omega) (by rw [hdr, e2]; exact nI_1 _) (zz_up e3) (fun a a1 a2 a3 a4 => by rw [zs1 a a1 a2 a3 a4]; exact zf1 a a1 a2 a3 a4) (by rw [hdr, zs2]) (by rw [hdr, zs3])
            · have hno : (zr_b (zθC h k J C u) (zr_all (zθC h k J C u) gg (h (k + 2)) (h (k + 3)) i).2.2 i gg).1 ≠ none := fun z => c_51 (by rw [eth, zf3, z]; rfl)
              rw [if_neg hno] at hdr
              refine zj_iinc (v := 1) (pc := 54) K dX0_repairAllOf_54 rfl (by decide) rfl rfl rfl ?_
              refine zj_iinc (v := 1) (pc := 57) K dX0_repairAllOf_57 rfl (by decide) rfl rfl rfl ?_
              refine zj_goto (tgt := 4) (pc := 60) K dX0_repairAllOf_60 (by decide) ?_
              first
              | exact ih (i + 1) _ _ _ (by omega) (by omega) (by rw [hnd]; exact e2) (zz_up e3) zf1 (by rw [hnd]; exact zf2) (by rw [hnd]; exact zf3)
              | exact ih (i + 1) _ _ _ (by omega) (by omega) (by rw [hdr]; exact e2) (zz_up e3) (fun a a1 a2 a3 a4 => by rw [zs1 a a1 a2 a3 a4]; exact zf1 a a1 a2 a3 a4) (by rw [hdr, zs2]) (by rw [hdr, zs3])
              | exact ih (i + 1) _ _ _ (by omega) (by omega) (by rw [hdr, e2]; exact nI_1 _) (zz_up e3) (fun a a1 a2 a3 a4 => by rw [zs1 a a1 a2 a3 a4]; exact zf1 a a1 a2 a3 a4) (by rw [hdr, zs2]) (by rw [hdr, zs3])
  show zj_J E Γ 4 0 [(0, .ref (E.2.1 k)), (1, .int x1)] [] h g
  refine zj_iconst (v := 0) (pc := 0) K dX0_repairAllOf_0 (by decide) ?_
  refine zj_istore_n (i := 2) (pc := 1) K dX0_repairAllOf_1 rfl rfl rfl rfl ?_
  refine zj_iconst (v := 0) (pc := 2) K dX0_repairAllOf_2 (by decide) ?_
  refine zj_istore_n (i := 3) (pc := 3) K dX0_repairAllOf_3 rfl rfl rfl rfl ?_
  exact loop (C + 1) 0 _ _ _ (by omega) (by omega) rfl rfl (fun _ _ _ _ _ => rfl) rfl rfl

set_option maxHeartbeats 4000000 in
set_option maxRecDepth 20000 in
theorem m_X0_swapped {l : Launch} {E : zj_E} {h : zj_H} {g : zj_G} {b x y : Int32} {i j : Nat} (exi : x = nI i) (exj : y = nI j) : zj_M l E yX0_swapped cX0_swapped 3 (some .int) 0 [.int b, .int x, .int y] h g (zj_pI (zr_stay b i ||| zz_bit j) h g) := by
  refine zj_M.of RX0 (by decide) rfl (Nat.le_of_ble_eq_true rfl) ?_
  intro Γ hΓ K Rt
  subst hΓ
  show zj_J E Γ 3 0 [(0, .int b), (1, .int x), (2, .int y)] [] h g
  refine zj_iload_n (i := 0) (pc := 0) K dX0_swapped_0 rfl rfl ?_
  refine zj_iconst (v := 1) (pc := 1) K dX0_swapped_1 (by decide) ?_
  refine zj_iload_n (i := 1) (pc := 2) K dX0_swapped_2 rfl rfl ?_
  refine zj_ishl (pc := 3) K dX0_swapped_3 ?_
  refine zj_iconst (v := -1) (pc := 4) K dX0_swapped_4 (by decide) ?_
  refine zj_ixor (pc := 5) K dX0_swapped_5 ?_
  refine zj_iand (pc := 6) K dX0_swapped_6 ?_
  refine zj_iconst (v := 1) (pc := 7) K dX0_swapped_7 (by decide) ?_
  refine zj_iload_n (i := 2) (pc := 8) K dX0_swapped_8 rfl rfl ?_
  refine zj_ishl (pc := 9) K dX0_swapped_9 ?_
  refine zj_ior (pc := 10) K dX0_swapped_10 ?_
  exact zj_iret K Rt dX0_swapped_11 (⟨by rw [exi, exj]; rfl, rfl, rfl⟩)

set_option maxHeartbeats 4000000 in
set_option maxRecDepth 20000 in
theorem m_X0_changePlaces {l : Launch} {E : zj_E} {h : zj_H} {g : zj_G} {k a b i j : Nat} (hk : zj_isC k) {xa xx xb xy : Int32} (ea : xa = nI a) (ei : xx = nI i) (eb : xb = nI b) (ej : xy = nI j) (ha : a < 14) (hb : b < 14) : zj_M l E yX0_changePlaces cX0_changePlaces 5 none 1 [.ref (E.2.1 k), .int xa, .int xx, .int xb, .int xy] h g (zj_pV (zj_s h (k + 3) (zx_si (h (k + 3)) a i b j)) g) := by
  refine zj_M.of RX0 (by decide) rfl (Nat.le_of_ble_eq_true rfl) ?_
  intro Γ hΓ K Rt
  subst hΓ
  obtain ⟨hs_C, hs_Cd, hs_Cs, hs_Ci, hs_Cb, hs_Cf, hs_Cp, hs_Cl, hs_Cn, hs_Ct⟩ := zj_shC hk
  obtain ⟨hk12, hk22⟩ := zj_C12 hk
  show zj_J E Γ 5 0 [(0, .ref (E.2.1 k)), (1, .int xa), (2, .int xx), (3, .int xb), (4, .int xy)] [] h g
  refine zj_aload_n (i := 0) (pc := 0) K dX0_changePlaces_0 rfl rfl ?_
  refine zj_getR (pc := 1) K lf_X0_18 hs_C rfl dX0_changePlaces_1 ?_
  refine zj_getR (pc := 4) K lf_X0_59 hs_Cd rfl dX0_changePlaces_4 ?_
  refine zj_iload_n (i := 1) (pc := 7) K dX0_changePlaces_7 rfl rfl ?_
  refine zj_aload_n (i := 0) (pc := 8) K dX0_changePlaces_8 rfl rfl ?_
  refine zj_getR (pc := 9) K lf_X0_18 hs_C rfl dX0_changePlaces_9 ?_
  refine zj_getR (pc := 12) K lf_X0_59 hs_Cd rfl dX0_changePlaces_12 ?_
  refine zj_iload_n (i := 1) (pc := 15) K dX0_changePlaces_15 rfl rfl ?_
  refine zj_ald (j := a) (pc := 16) K hs_Ci ea ha (by first | decide | omega) dX0_changePlaces_16 ?_
  refine zj_iload_n (i := 2) (pc := 17) K dX0_changePlaces_17 rfl rfl ?_
  refine zj_iload (pc := 18) K dX0_changePlaces_18 rfl ?_
  refine zj_cS3I (pc := 20) K lm_X0_178 (m_X0_swapped ei ej) (by decide) rfl (Nat.le_of_ble_eq_true rfl) dX0_changePlaces_20 ?_
  refine zj_ast (j := a) (pc := 23) K hs_Ci ea ha (by first | decide | omega) dX0_changePlaces_23 ?_
  refine zj_aload_n (i := 0) (pc := 24) K dX0_changePlaces_24 rfl rfl ?_
  refine zj_getR (pc := 25) K lf_X0_18 hs_C rfl dX0_changePlaces_25 ?_
  refine zj_getR (pc := 28) K lf_X0_59 hs_Cd rfl dX0_changePlaces_28 ?_
  refine zj_iload_n (i := 3) (pc := 31) K dX0_changePlaces_31 rfl rfl ?_
  refine zj_aload_n (i := 0) (pc := 32) K dX0_changePlaces_32 rfl rfl ?_
  refine zj_getR (pc := 33) K lf_X0_18 hs_C rfl dX0_changePlaces_33 ?_
  refine zj_getR (pc := 36) K lf_X0_59 hs_Cd rfl dX0_changePlaces_36 ?_
  refine zj_iload_n (i := 3) (pc := 39) K dX0_changePlaces_39 rfl rfl ?_
  refine zj_ald (j := b) (pc := 40) K hs_Ci eb hb (by first | decide | omega) dX0_changePlaces_40 ?_
  refine zj_iload (pc := 41) K dX0_changePlaces_41 rfl ?_
  refine zj_iload_n (i := 2) (pc := 43) K dX0_changePlaces_43 rfl rfl ?_
  refine zj_cS3I (pc := 44) K lm_X0_178 (m_X0_swapped ej ei) (by decide) rfl (Nat.le_of_ble_eq_true rfl) dX0_changePlaces_44 ?_
  refine zj_ast (j := b) (pc := 47) K hs_Ci eb hb (by first | decide | omega) dX0_changePlaces_47 ?_
  exact zj_vret K Rt dX0_changePlaces_48 (⟨rfl, by rw [zj_s_s, zj_s_eq]; rfl, rfl⟩)

set_option maxHeartbeats 4000000 in
set_option maxRecDepth 20000 in
theorem m_X0_mayExchange {l : Launch} {E : zj_E} {h : zj_H} {g : zj_G} {k J C : Nat} (hk : zj_isC k) (eJ : h 8 6 = nI J) (hJ : J ≤ 9) (eC : h 8 7 = nI C) (hC : C ≤ 14) {xa xx xb xy : Int32} : zj_M l E yX0_mayExchange cX0_mayExchange 7 (some .boolean) 2 [.ref (E.2.1 k), .int xa, .int xx, .int xb, .int xy] h g (zj_pI (zz_i (zx_may J C (h (k + 2)) (h (k + 3)) (fun c => zl_law (h (k + 4) c) (h (k + 1) 1) (h 8 8)) xa xx xb xy)) h g) := by
  refine zj_M.of RX0 (by decide) rfl (Nat.le_of_ble_eq_true rfl) ?_
  intro Γ hΓ K Rt
  subst hΓ
  obtain ⟨hs_C, hs_Cd, hs_Cs, hs_Ci, hs_Cb, hs_Cf, hs_Cp, hs_Cl, hs_Cn, hs_Ct⟩ := zj_shC hk
  obtain ⟨hk12, hk22⟩ := zj_C12 hk
  show zj_J E Γ 7 0 [(0, .ref (E.2.1 k)), (1, .int xa), (2, .int xx), (3, .int xb), (4, .int xy)] [] h g
  refine zj_aload_n (i := 0) (pc := 0) K dX0_mayExchange_0 rfl rfl ?_
  refine zj_iload_n (i := 1) (pc := 1) K dX0_mayExchange_1 rfl rfl ?_
  refine zj_cV1I (pc := 2) K lm_X0_172 hs_C (m_X0_isSet hk eC hC) (by decide) rfl (Nat.le_of_ble_eq_true rfl) dX0_mayExchange_2 ?_
  refine zj_if_eq (tgt := 39) (pc := 5) K dX0_mayExchange_5 (by decide) (fun c_5 => ?_) (fun c_5 => ?_)
  · replace c_5 := zz_i0.mp c_5
    refine zj_iconst (v := 0) (pc := 39) K dX0_mayExchange_39 (by decide) ?_
    exact zj_zret K Rt dX0_mayExchange_40 (by decide) (⟨by first
          | (rw [zx_may_f1 c_5]; rfl) | (rw [zx_may_f2 c_13]; rfl) | (rw [zx_may_f3 c_24]; rfl) | (rw [zx_may_f4 c_36]; rfl)
          | (rw [zx_may_of hJ hC ejA eji ejB ejj hja hji hjb hjj hsa hsb]; simp [c_69, c_78, c_88, c_98, c_116, c_132, zz_i])
          | (rw [zx_may_of hJ hC ejA eji ejB ejj hja hji hjb hjj hsa hsb]; simp [c_69, c_78, c_88, c_98, c_116, zz_i])
          | (rw [zx_may_of hJ hC ejA eji ejB ejj hja hji hjb hjj hsa hsb]; simp [c_69, c_78, c_88, c_98, zz_i])
          | (rw [zx_may_of hJ hC ejA eji ejB ejj hja hji hjb hjj hsa hsb]; simp [c_69, c_78, c_88, zz_i])
          | (rw [zx_may_of hJ hC ejA eji ejB ejj hja hji hjb hjj hsa hsb]; simp [c_69, c_78, zz_i])
          | (rw [zx_may_of hJ hC ejA eji ejB ejj hja hji hjb hjj hsa hsb]; simp [c_69, zz_i]), rfl, rfl⟩)
  · replace c_5 := zz_n0.mp c_5
    obtain ⟨ja, hja, ejA, hsa⟩ := zx_set c_5 hC
    refine zj_aload_n (i := 0) (pc := 8) K dX0_mayExchange_8 rfl rfl ?_
    refine zj_iload_n (i := 3) (pc := 9) K dX0_mayExchange_9 rfl rfl ?_
    refine zj_cV1I (pc := 10) K lm_X0_172 hs_C (m_X0_isSet hk eC hC) (by decide) rfl (Nat.le_of_ble_eq_true rfl) dX0_mayExchange_10 ?_
    refine zj_if_eq (tgt := 39) (pc := 13) K dX0_mayExchange_13 (by decide) (fun c_13 => ?_) (fun c_13 => ?_)
    · replace c_13 := zz_i0.mp c_13
      refine zj_iconst (v := 0) (pc := 39) K dX0_mayExchange_39 (by decide) ?_
      exact zj_zret K Rt dX0_mayExchange_40 (by decide) (⟨by first
            | (rw [zx_may_f1 c_5]; rfl) | (rw [zx_may_f2 c_13]; rfl) | (rw [zx_may_f3 c_24]; rfl) | (rw [zx_may_f4 c_36]; rfl)
            | (rw [zx_may_of hJ hC ejA eji ejB ejj hja hji hjb hjj hsa hsb]; simp [c_69, c_78, c_88, c_98, c_116, c_132, zz_i])
            | (rw [zx_may_of hJ hC ejA eji ejB ejj hja hji hjb hjj hsa hsb]; simp [c_69, c_78, c_88, c_98, c_116, zz_i])
            | (rw [zx_may_of hJ hC ejA eji ejB ejj hja hji hjb hjj hsa hsb]; simp [c_69, c_78, c_88, c_98, zz_i])
            | (rw [zx_may_of hJ hC ejA eji ejB ejj hja hji hjb hjj hsa hsb]; simp [c_69, c_78, c_88, zz_i])
            | (rw [zx_may_of hJ hC ejA eji ejB ejj hja hji hjb hjj hsa hsb]; simp [c_69, c_78, zz_i])
            | (rw [zx_may_of hJ hC ejA eji ejB ejj hja hji hjb hjj hsa hsb]; simp [c_69, zz_i]), rfl, rfl⟩)
    · replace c_13 := zz_n0.mp c_13
      obtain ⟨jb, hjb, ejB, hsb⟩ := zx_set c_13 hC
      refine zj_aload_n (i := 0) (pc := 16) K dX0_mayExchange_16 rfl rfl ?_
      refine zj_getR (pc := 17) K lf_X0_9 hs_C rfl dX0_mayExchange_17 ?_
      refine zj_iload_n (i := 2) (pc := 20) K dX0_mayExchange_20 rfl rfl ?_
      refine zj_cV1I (pc := 21) K lm_X0_175 hs_D (m_X6_hasJudge (Or.inr rfl) (by assumption) (by omega)) (by decide) rfl (Nat.le_of_ble_eq_true rfl) dX0_mayExchange_21 ?_
      refine zj_if_eq (tgt := 39) (pc := 24) K dX0_mayExchange_24 (by decide) (fun c_24 => ?_) (fun c_24 => ?_)
      · replace c_24 := zz_i0.mp c_24
        refine zj_iconst (v := 0) (pc := 39) K dX0_mayExchange_39 (by decide) ?_
        exact zj_zret K Rt dX0_mayExchange_40 (by decide) (⟨by first
              | (rw [zx_may_f1 c_5]; rfl) | (rw [zx_may_f2 c_13]; rfl) | (rw [zx_may_f3 c_24]; rfl) | (rw [zx_may_f4 c_36]; rfl)
              | (rw [zx_may_of hJ hC ejA eji ejB ejj hja hji hjb hjj hsa hsb]; simp [c_69, c_78, c_88, c_98, c_116, c_132, zz_i])
              | (rw [zx_may_of hJ hC ejA eji ejB ejj hja hji hjb hjj hsa hsb]; simp [c_69, c_78, c_88, c_98, c_116, zz_i])
              | (rw [zx_may_of hJ hC ejA eji ejB ejj hja hji hjb hjj hsa hsb]; simp [c_69, c_78, c_88, c_98, zz_i])
              | (rw [zx_may_of hJ hC ejA eji ejB ejj hja hji hjb hjj hsa hsb]; simp [c_69, c_78, c_88, zz_i])
              | (rw [zx_may_of hJ hC ejA eji ejB ejj hja hji hjb hjj hsa hsb]; simp [c_69, c_78, zz_i])
              | (rw [zx_may_of hJ hC ejA eji ejB ejj hja hji hjb hjj hsa hsb]; simp [c_69, zz_i]), rfl, rfl⟩)
      · replace c_24 := zz_n0.mp c_24
        obtain ⟨ji, hji, eji⟩ := zz_in_ex c_24 (by omega)
        refine zj_aload_n (i := 0) (pc := 27) K dX0_mayExchange_27 rfl rfl ?_
        refine zj_getR (pc := 28) K lf_X0_9 hs_C rfl dX0_mayExchange_28 ?_
        refine zj_iload (pc := 31) K dX0_mayExchange_31 rfl ?_
        refine zj_cV1I (pc := 33) K lm_X0_175 hs_D (m_X6_hasJudge (Or.inr rfl) (by assumption) (by omega)) (by decide) rfl (Nat.le_of_ble_eq_true rfl) dX0_mayExchange_33 ?_
        refine zj_if_ne (tgt := 41) (pc := 36) K dX0_mayExchange_36 (by decide) (fun c_36 => ?_) (fun c_36 => ?_)
        · replace c_36 := zz_n0.mp c_36
          obtain ⟨jj, hjj, ejj⟩ := zz_in_ex c_36 (by omega)
          refine zj_aload_n (i := 0) (pc := 41) K dX0_mayExchange_41 rfl rfl ?_
          refine zj_getR (pc := 42) K lf_X0_18 hs_C rfl dX0_mayExchange_42 ?_
          refine zj_getR (pc := 45) K lf_X0_59 hs_Cd rfl dX0_mayExchange_45 ?_
          refine zj_iload_n (i := 1) (pc := 48) K dX0_mayExchange_48 rfl rfl ?_
          refine zj_ald (j := ja) (pc := 49) K hs_Ci ejA (by omega) (by first | decide | omega) dX0_mayExchange_49 ?_
          refine zj_istore (pc := 50) K dX0_mayExchange_50 rfl rfl rfl ?_
          refine zj_aload_n (i := 0) (pc := 52) K dX0_mayExchange_52 rfl rfl ?_
          refine zj_getR (pc := 53) K lf_X0_18 hs_C rfl dX0_mayExchange_53 ?_
          refine zj_getR (pc := 56) K lf_X0_59 hs_Cd rfl dX0_mayExchange_56 ?_
          refine zj_iload_n (i := 3) (pc := 59) K dX0_mayExchange_59 rfl rfl ?_
          refine zj_ald (j := jb) (pc := 60) K hs_Ci ejB (by omega) (by first | decide | omega) dX0_mayExchange_60 ?_
          refine zj_istore (pc := 61) K dX0_mayExchange_61 rfl rfl rfl ?_
          refine zj_iload (pc := 63) K dX0_mayExchange_63 rfl ?_
          refine zj_iload_n (i := 2) (pc := 65) K dX0_mayExchange_65 rfl rfl ?_
          refine zj_cN2I (pc := 66) K lm_X0_62 (m_X7_has eji (by omega)) (by decide) rfl (Nat.le_of_ble_eq_true rfl) dX0_mayExchange_66 ?_
          refine zj_if_eq (tgt := 101) (pc := 69) K dX0_mayExchange_69 (by decide) (fun c_69 => ?_) (fun c_69 => ?_)
          · replace c_69 := zz_i0.mp c_69
            refine zj_iconst (v := 0) (pc := 101) K dX0_mayExchange_101 (by decide) ?_
            exact zj_zret K Rt dX0_mayExchange_102 (by decide) (⟨by first
                  | (rw [zx_may_f1 c_5]; rfl) | (rw [zx_may_f2 c_13]; rfl) | (rw [zx_may_f3 c_24]; rfl) | (rw [zx_may_f4 c_36]; rfl)
                  | (rw [zx_may_of hJ hC ejA eji ejB ejj hja hji hjb hjj hsa hsb]; simp [c_69, c_78, c_88, c_98, c_116, c_132, zz_i])
                  | (rw [zx_may_of hJ hC ejA eji ejB ejj hja hji hjb hjj hsa hsb]; simp [c_69, c_78, c_88, c_98, c_116, zz_i])
                  | (rw [zx_may_of hJ hC ejA eji ejB ejj hja hji hjb hjj hsa hsb]; simp [c_69, c_78, c_88, c_98, zz_i])
                  | (rw [zx_may_of hJ hC ejA eji ejB ejj hja hji hjb hjj hsa hsb]; simp [c_69, c_78, c_88, zz_i])
                  | (rw [zx_may_of hJ hC ejA eji ejB ejj hja hji hjb hjj hsa hsb]; simp [c_69, c_78, zz_i])
                  | (rw [zx_may_of hJ hC ejA eji ejB ejj hja hji hjb hjj hsa hsb]; simp [c_69, zz_i]), rfl, rfl⟩)
          · replace c_69 := zz_n0.mp c_69
            refine zj_iload (pc := 72) K dX0_mayExchange_72 rfl ?_
            refine zj_iload_n (i := 2) (pc := 74) K dX0_mayExchange_74 rfl rfl ?_
            refine zj_cN2I (pc := 75) K lm_X0_62 (m_X7_has eji (by omega)) (by decide) rfl (Nat.le_of_ble_eq_true rfl) dX0_mayExchange_75 ?_
            refine zj_if_ne (tgt := 101) (pc := 78) K dX0_mayExchange_78 (by decide) (fun c_78 => ?_) (fun c_78 => ?_)
            · replace c_78 := zz_n0.mp c_78
              refine zj_iconst (v := 0) (pc := 101) K dX0_mayExchange_101 (by decide) ?_
              exact zj_zret K Rt dX0_mayExchange_102 (by decide) (⟨by first
                    | (rw [zx_may_f1 c_5]; rfl) | (rw [zx_may_f2 c_13]; rfl) | (rw [zx_may_f3 c_24]; rfl) | (rw [zx_may_f4 c_36]; rfl)
                    | (rw [zx_may_of hJ hC ejA eji ejB ejj hja hji hjb hjj hsa hsb]; simp [c_69, c_78, c_88, c_98, c_116, c_132, zz_i])
                    | (rw [zx_may_of hJ hC ejA eji ejB ejj hja hji hjb hjj hsa hsb]; simp [c_69, c_78, c_88, c_98, c_116, zz_i])
                    | (rw [zx_may_of hJ hC ejA eji ejB ejj hja hji hjb hjj hsa hsb]; simp [c_69, c_78, c_88, c_98, zz_i])
                    | (rw [zx_may_of hJ hC ejA eji ejB ejj hja hji hjb hjj hsa hsb]; simp [c_69, c_78, c_88, zz_i])
                    | (rw [zx_may_of hJ hC ejA eji ejB ejj hja hji hjb hjj hsa hsb]; simp [c_69, c_78, zz_i])
                    | (rw [zx_may_of hJ hC ejA eji ejB ejj hja hji hjb hjj hsa hsb]; simp [c_69, zz_i]), rfl, rfl⟩)
            · replace c_78 := zz_i0.mp c_78
              refine zj_iload (pc := 81) K dX0_mayExchange_81 rfl ?_
              refine zj_iload (pc := 83) K dX0_mayExchange_83 rfl ?_
              refine zj_cN2I (pc := 85) K lm_X0_62 (m_X7_has ejj (by omega)) (by decide) rfl (Nat.le_of_ble_eq_true rfl) dX0_mayExchange_85 ?_
              refine zj_if_eq (tgt := 101) (pc := 88) K dX0_mayExchange_88 (by decide) (fun c_88 => ?_) (fun c_88 => ?_)
              · replace c_88 := zz_i0.mp c_88
                refine zj_iconst (v := 0) (pc := 101) K dX0_mayExchange_101 (by decide) ?_
                exact zj_zret K Rt dX0_mayExchange_102 (by decide) (⟨by first
                      | (rw [zx_may_f1 c_5]; rfl) | (rw [zx_may_f2 c_13]; rfl) | (rw [zx_may_f3 c_24]; rfl) | (rw [zx_may_f4 c_36]; rfl)
                      | (rw [zx_may_of hJ hC ejA eji ejB ejj hja hji hjb hjj hsa hsb]; simp [c_69, c_78, c_88, c_98, c_116, c_132, zz_i])
                      | (rw [zx_may_of hJ hC ejA eji ejB ejj hja hji hjb hjj hsa hsb]; simp [c_69, c_78, c_88, c_98, c_116, zz_i])
                      | (rw [zx_may_of hJ hC ejA eji ejB ejj hja hji hjb hjj hsa hsb]; simp [c_69, c_78, c_88, c_98, zz_i])
                      | (rw [zx_may_of hJ hC ejA eji ejB ejj hja hji hjb hjj hsa hsb]; simp [c_69, c_78, c_88, zz_i])
                      | (rw [zx_may_of hJ hC ejA eji ejB ejj hja hji hjb hjj hsa hsb]; simp [c_69, c_78, zz_i])
                      | (rw [zx_may_of hJ hC ejA eji ejB ejj hja hji hjb hjj hsa hsb]; simp [c_69, zz_i]), rfl, rfl⟩)
              · replace c_88 := zz_n0.mp c_88
                refine zj_iload (pc := 91) K dX0_mayExchange_91 rfl ?_
                refine zj_iload (pc := 93) K dX0_mayExchange_93 rfl ?_
                refine zj_cN2I (pc := 95) K lm_X0_62 (m_X7_has ejj (by omega)) (by decide) rfl (Nat.le_of_ble_eq_true rfl) dX0_mayExchange_95 ?_
                refine zj_if_eq (tgt := 103) (pc := 98) K dX0_mayExchange_98 (by decide) (fun c_98 => ?_) (fun c_98 => ?_)
                · replace c_98 := zz_i0.mp c_98
                  refine zj_aload_n (i := 0) (pc := 103) K dX0_mayExchange_103 rfl rfl ?_
                  refine zj_iload_n (i := 1) (pc := 104) K dX0_mayExchange_104 rfl rfl ?_
                  refine zj_iload (pc := 105) K dX0_mayExchange_105 rfl ?_
                  refine zj_iload_n (i := 2) (pc := 107) K dX0_mayExchange_107 rfl rfl ?_
                  refine zj_iload (pc := 108) K dX0_mayExchange_108 rfl ?_
                  refine zj_cS3I (pc := 110) K lm_X0_178 (m_X0_swapped eji ejj) (by decide) rfl (Nat.le_of_ble_eq_true rfl) dX0_mayExchange_110 ?_
                  refine zj_cV2I (pc := 113) K lm_X0_128 hs_C (m_X0_isLawful hk ejA (by omega)) (by decide) rfl (Nat.le_of_ble_eq_true rfl) dX0_mayExchange_113 ?_
                  refine zj_if_eq (tgt := 139) (pc := 116) K dX0_mayExchange_116 (by decide) (fun c_116 => ?_) (fun c_116 => ?_)
                  · replace c_116 := zz_i0.mp c_116
                    refine zj_iconst (v := 0) (pc := 139) K dX0_mayExchange_139 (by decide) ?_
                    exact zj_zret K Rt dX0_mayExchange_140 (by decide) (⟨by first
                          | (rw [zx_may_f1 c_5]; rfl) | (rw [zx_may_f2 c_13]; rfl) | (rw [zx_may_f3 c_24]; rfl) | (rw [zx_may_f4 c_36]; rfl)
                          | (rw [zx_may_of hJ hC ejA eji ejB ejj hja hji hjb hjj hsa hsb]; simp [c_69, c_78, c_88, c_98, c_116, c_132, zz_i])
                          | (rw [zx_may_of hJ hC ejA eji ejB ejj hja hji hjb hjj hsa hsb]; simp [c_69, c_78, c_88, c_98, c_116, zz_i])
                          | (rw [zx_may_of hJ hC ejA eji ejB ejj hja hji hjb hjj hsa hsb]; simp [c_69, c_78, c_88, c_98, zz_i])
                          | (rw [zx_may_of hJ hC ejA eji ejB ejj hja hji hjb hjj hsa hsb]; simp [c_69, c_78, c_88, zz_i])
                          | (rw [zx_may_of hJ hC ejA eji ejB ejj hja hji hjb hjj hsa hsb]; simp [c_69, c_78, zz_i])
                          | (rw [zx_may_of hJ hC ejA eji ejB ejj hja hji hjb hjj hsa hsb]; simp [c_69, zz_i]), rfl, rfl⟩)
                  · replace c_116 := zz_n0.mp c_116
                    refine zj_aload_n (i := 0) (pc := 119) K dX0_mayExchange_119 rfl rfl ?_
                    refine zj_iload_n (i := 3) (pc := 120) K dX0_mayExchange_120 rfl rfl ?_
                    refine zj_iload (pc := 121) K dX0_mayExchange_121 rfl ?_
                    refine zj_iload (pc := 123) K dX0_mayExchange_123 rfl ?_
                    refine zj_iload_n (i := 2) (pc := 125) K dX0_mayExchange_125 rfl rfl ?_
                    refine zj_cS3I (pc := 126) K lm_X0_178 (m_X0_swapped ejj eji) (by decide) rfl (Nat.le_of_ble_eq_true rfl) dX0_mayExchange_126 ?_
                    refine zj_cV2I (pc := 129) K lm_X0_128 hs_C (m_X0_isLawful hk ejB (by omega)) (by decide) rfl (Nat.le_of_ble_eq_true rfl) dX0_mayExchange_129 ?_
                    refine zj_if_eq (tgt := 139) (pc := 132) K dX0_mayExchange_132 (by decide) (fun c_132 => ?_) (fun c_132 => ?_)
                    · replace c_132 := zz_i0.mp c_132
                      refine zj_iconst (v := 0) (pc := 139) K dX0_mayExchange_139 (by decide) ?_
                      exact zj_zret K Rt dX0_mayExchange_140 (by decide) (⟨by first
                            | (rw [zx_may_f1 c_5]; rfl) | (rw [zx_may_f2 c_13]; rfl) | (rw [zx_may_f3 c_24]; rfl) | (rw [zx_may_f4 c_36]; rfl)
                            | (rw [zx_may_of hJ hC ejA eji ejB ejj hja hji hjb hjj hsa hsb]; simp [c_69, c_78, c_88, c_98, c_116, c_132, zz_i])
                            | (rw [zx_may_of hJ hC ejA eji ejB ejj hja hji hjb hjj hsa hsb]; simp [c_69, c_78, c_88, c_98, c_116, zz_i])
                            | (rw [zx_may_of hJ hC ejA eji ejB ejj hja hji hjb hjj hsa hsb]; simp [c_69, c_78, c_88, c_98, zz_i])
                            | (rw [zx_may_of hJ hC ejA eji ejB ejj hja hji hjb hjj hsa hsb]; simp [c_69, c_78, c_88, zz_i])
                            | (rw [zx_may_of hJ hC ejA eji ejB ejj hja hji hjb hjj hsa hsb]; simp [c_69, c_78, zz_i])
                            | (rw [zx_may_of hJ hC ejA eji ejB ejj hja hji hjb hjj hsa hsb]; simp [c_69, zz_i]), rfl, rfl⟩)
                    · replace c_132 := zz_n0.mp c_132
                      refine zj_iconst (v := 1) (pc := 135) K dX0_mayExchange_135 (by decide) ?_
                      refine zj_goto (tgt := 140) (pc := 136) K dX0_mayExchange_136 (by decide) ?_
                      exact zj_zret K Rt dX0_mayExchange_140 (by decide) (⟨by first
                            | (rw [zx_may_f1 c_5]; rfl) | (rw [zx_may_f2 c_13]; rfl) | (rw [zx_may_f3 c_24]; rfl) | (rw [zx_may_f4 c_36]; rfl)
                            | (rw [zx_may_of hJ hC ejA eji ejB ejj hja hji hjb hjj hsa hsb]; simp [c_69, c_78, c_88, c_98, c_116, c_132, zz_i])
                            | (rw [zx_may_of hJ hC ejA eji ejB ejj hja hji hjb hjj hsa hsb]; simp [c_69, c_78, c_88, c_98, c_116, zz_i])
                            | (rw [zx_may_of hJ hC ejA eji ejB ejj hja hji hjb hjj hsa hsb]; simp [c_69, c_78, c_88, c_98, zz_i])
                            | (rw [zx_may_of hJ hC ejA eji ejB ejj hja hji hjb hjj hsa hsb]; simp [c_69, c_78, c_88, zz_i])
                            | (rw [zx_may_of hJ hC ejA eji ejB ejj hja hji hjb hjj hsa hsb]; simp [c_69, c_78, zz_i])
                            | (rw [zx_may_of hJ hC ejA eji ejB ejj hja hji hjb hjj hsa hsb]; simp [c_69, zz_i]), rfl, rfl⟩)
                · replace c_98 := zz_n0.mp c_98
                  refine zj_iconst (v := 0) (pc := 101) K dX0_mayExchange_101 (by decide) ?_
                  exact zj_zret K Rt dX0_mayExchange_102 (by decide) (⟨by first
                        | (rw [zx_may_f1 c_5]; rfl) | (rw [zx_may_f2 c_13]; rfl) | (rw [zx_may_f3 c_24]; rfl) | (rw [zx_may_f4 c_36]; rfl)
                        | (rw [zx_may_of hJ hC ejA eji ejB ejj hja hji hjb hjj hsa hsb]; simp [c_69, c_78, c_88, c_98, c_116, c_132, zz_i])
                        | (rw [zx_may_of hJ hC ejA eji ejB ejj hja hji hjb hjj hsa hsb]; simp [c_69, c_78, c_88, c_98, c_116, zz_i])
                        | (rw [zx_may_of hJ hC ejA eji ejB ejj hja hji hjb hjj hsa hsb]; simp [c_69, c_78, c_88, c_98, zz_i])
                        | (rw [zx_may_of hJ hC ejA eji ejB ejj hja hji hjb hjj hsa hsb]; simp [c_69, c_78, c_88, zz_i])
                        | (rw [zx_may_of hJ hC ejA eji ejB ejj hja hji hjb hjj hsa hsb]; simp [c_69, c_78, zz_i])
                        | (rw [zx_may_of hJ hC ejA eji ejB ejj hja hji hjb hjj hsa hsb]; simp [c_69, zz_i]), rfl, rfl⟩)
        · replace c_36 := zz_i0.mp c_36
          refine zj_iconst (v := 0) (pc := 39) K dX0_mayExchange_39 (by decide) ?_
          exact zj_zret K Rt dX0_mayExchange_40 (by decide) (⟨by first
                | (rw [zx_may_f1 c_5]; rfl) | (rw [zx_may_f2 c_13]; rfl) | (rw [zx_may_f3 c_24]; rfl) | (rw [zx_may_f4 c_36]; rfl)
                | (rw [zx_may_of hJ hC ejA eji ejB ejj hja hji hjb hjj hsa hsb]; simp [c_69, c_78, c_88, c_98, c_116, c_132, zz_i])
                | (rw [zx_may_of hJ hC ejA eji ejB ejj hja hji hjb hjj hsa hsb]; simp [c_69, c_78, c_88, c_98, c_116, zz_i])
                | (rw [zx_may_of hJ hC ejA eji ejB ejj hja hji hjb hjj hsa hsb]; simp [c_69, c_78, c_88, c_98, zz_i])
                | (rw [zx_may_of hJ hC ejA eji ejB ejj hja hji hjb hjj hsa hsb]; simp [c_69, c_78, c_88, zz_i])
                | (rw [zx_may_of hJ hC ejA eji ejB ejj hja hji hjb hjj hsa hsb]; simp [c_69, c_78, zz_i])
                | (rw [zx_may_of hJ hC ejA eji ejB ejj hja hji hjb hjj hsa hsb]; simp [c_69, zz_i]), rfl, rfl⟩)

set_option maxHeartbeats 4000000 in
set_option maxRecDepth 20000 in
theorem m_X0_movePairs {l : Launch} {E : zj_E} {h : zj_H} {g : zj_G} {k J i j : Nat} (hk : zj_isC k) (eJ : h 8 6 = nI J) (hJ : J ≤ 9) {b x2 x3 : Int32} (ei : x2 = nI i) (ej : x3 = nI j) (hi9 : i < 9) (hj9 : j < 9) : zj_M l E yX0_movePairs cX0_movePairs 8 (some .int) 1 [.ref (E.2.1 k), .int b, .int x2, .int x3] h g (fun v h' g' => v = some (.int (zx_mv (h (k + 6)) b i j J).1) ∧ g' = g ∧ (∀ a, a ≠ k + 6 → h' a = h a) ∧ h' (k + 6) = (zx_mv (h (k + 6)) b i j J).2) := by
  refine zj_M.of RX0 (by decide) rfl (Nat.le_of_ble_eq_true rfl) ?_
  intro Γ hΓ K Rt
  subst hΓ
  obtain ⟨hs_C, hs_Cd, hs_Cs, hs_Ci, hs_Cb, hs_Cf, hs_Cp, hs_Cl, hs_Cn, hs_Ct⟩ := zj_shC hk
  obtain ⟨hk12, hk22⟩ := zj_C12 hk
  have loop : ∀ (m c : Nat) (x4 x5 : Int32) (q : zj_H), J + 1 ≤ c + m → c ≤ J → (x4 = (zx_mv (h (k + 6)) b i j c).1) → (x5 = nI c) → (∀ a, a ≠ k + 6 → q a = h a) → (q (k + 6) = (zx_mv (h (k + 6)) b i j c).2) → zj_J E Γ 8 6 [(0, .ref (E.2.1 k)), (1, .int b), (2, .int x2), (3, .int x3), (4, .int x4), (5, .int x5)] [] q g := by
    intro m
    induction m with
    | zero => intro c x4 x5 q  h1 h2; omega
    | succ m ih =>
      intro c x4 x5 q  h1 h2 e4 e5 zf1 zf2
      have eJ2 : q 8 6 = nI J := by rw [zf1 8 (by omega)]; exact eJ
      refine zj_iload (pc := 6) K dX0_movePairs_6 rfl ?_
      refine zj_aload_n (i := 0) (pc := 8) K dX0_movePairs_8 rfl rfl ?_
      refine zj_getR (pc := 9) K lf_X0_9 hs_C rfl dX0_movePairs_9 ?_
      refine zj_getI (pc := 12) K lf_X0_86 hs_D rfl dX0_movePairs_12 ?_
      refine zj_icmp_ge (tgt := 103) (pc := 15) K dX0_movePairs_15 (by decide) (fun c_15 => ?_) (fun c_15 => ?_)
      · have hi : c = J := Nat.le_antisymm h2 (zz_ge e5 eJ2 (by omega) (by omega) c_15)
        subst hi
        refine zj_iload (pc := 103) K dX0_movePairs_103 rfl ?_
        exact zj_iret K Rt dX0_movePairs_105 (⟨by rw [e4], rfl, zf1, zf2⟩)
      · have hi : c < J := zz_nge e5 eJ2 (by omega) (by omega) c_15
        refine zj_iload_n (i := 1) (pc := 18) K dX0_movePairs_18 rfl rfl ?_
        refine zj_iload (pc := 19) K dX0_movePairs_19 rfl ?_
        refine zj_cN2I (pc := 21) K lm_X0_62 (m_X7_has (by assumption) (by omega)) (by decide) rfl (Nat.le_of_ble_eq_true rfl) dX0_movePairs_21 ?_
        refine zj_if_eq (tgt := 97) (pc := 24) K dX0_movePairs_24 (by decide) (fun c_24 => ?_) (fun c_24 => ?_)
        · replace c_24 := zz_i0.mp c_24
          refine zj_iinc (v := 1) (pc := 97) K dX0_movePairs_97 rfl (by decide) rfl rfl rfl ?_
          refine zj_goto (tgt := 6) (pc := 100) K dX0_movePairs_100 (by decide) ?_
          refine zj_pick [0, 1, 2, 3, 4, 5] ?_
          first
          | exact ih (c + 1) _ _ _ (by omega) (by omega) (by rw [zx_mv, if_neg (by rw [c_24]; decide)]; exact e4) (zz_up e5) zf1 (by rw [zx_mv, if_neg (by rw [c_24]; decide)]; exact zf2)
          | exact ih (c + 1) _ _ _ (by omega) (by omega) (by rw [zx_mv, if_pos c_24, e4, zj_s_eq, zf2]) (zz_up e5) (fun a a1 => by rw [zj_s_ne _ _ a1, zj_s_ne _ _ a1]; exact zf1 a a1) (by rw [zx_mv, if_pos c_24, zj_s_eq, zj_s_eq, zf2])
        · replace c_24 := zz_n0.mp c_24
          refine zj_iload (pc := 27) K dX0_movePairs_27 rfl ?_
          refine zj_iload_n (i := 2) (pc := 29) K dX0_movePairs_29 rfl rfl ?_
          refine zj_cN2I (pc := 30) K lm_X0_92 (m_X7_pairPlace2 e5 ei (by omega) hi9) (by decide) rfl (Nat.le_of_ble_eq_true rfl) dX0_movePairs_30 ?_
          refine zj_istore (pc := 33) K dX0_movePairs_33 rfl rfl rfl ?_
          refine zj_iload (pc := 35) K dX0_movePairs_35 rfl ?_
          refine zj_iload_n (i := 3) (pc := 37) K dX0_movePairs_37 rfl rfl ?_
          refine zj_cN2I (pc := 38) K lm_X0_92 (m_X7_pairPlace2 e5 ej (by omega) hj9) (by decide) rfl (Nat.le_of_ble_eq_true rfl) dX0_movePairs_38 ?_
          refine zj_istore (pc := 41) K dX0_movePairs_41 rfl rfl rfl ?_
          refine zj_iload (pc := 43) K dX0_movePairs_43 rfl ?_
          refine zj_iconst (v := 1) (pc := 45) K dX0_movePairs_45 (by decide) ?_
          refine zj_iconst (v := 2) (pc := 46) K dX0_movePairs_46 (by decide) ?_
          refine zj_aload_n (i := 0) (pc := 47) K dX0_movePairs_47 rfl rfl ?_
          refine zj_getR (pc := 48) K lf_X0_29 hs_C rfl dX0_movePairs_48 ?_
          refine zj_iload (pc := 51) K dX0_movePairs_51 rfl ?_
          refine zj_ald (j := zz_pp c i) (pc := 53) K hs_Cp rfl (zz_pp_lt (by omega) hi9) (by first | decide | omega) dX0_movePairs_53 ?_
          refine zj_imul (pc := 54) K dX0_movePairs_54 ?_
          refine zj_isub (pc := 55) K dX0_movePairs_55 ?_
          refine zj_iadd (pc := 56) K dX0_movePairs_56 ?_
          refine zj_istore (pc := 57) K dX0_movePairs_57 rfl rfl rfl ?_
          refine zj_aload_n (i := 0) (pc := 59) K dX0_movePairs_59 rfl rfl ?_
          refine zj_getR (pc := 60) K lf_X0_29 hs_C rfl dX0_movePairs_60 ?_
          refine zj_iload (pc := 63) K dX0_movePairs_63 rfl ?_
          refine zj_dup2 (pc := 65) K dX0_movePairs_65 rfl rfl ?_
          refine zj_ald (j := zz_pp c i) (pc := 66) K hs_Cp rfl (zz_pp_lt (by omega) hi9) (by first | decide | omega) dX0_movePairs_66 ?_
          refine zj_iconst (v := 1) (pc := 67) K dX0_movePairs_67 (by decide) ?_
          refine zj_isub (pc := 68) K dX0_movePairs_68 ?_
          refine zj_ast (j := zz_pp c i) (pc := 69) K hs_Cp rfl (zz_pp_lt (by omega) hi9) (by first | decide | omega) dX0_movePairs_69 ?_
          refine zj_iload (pc := 70) K dX0_movePairs_70 rfl ?_
          refine zj_iconst (v := 1) (pc := 72) K dX0_movePairs_72 (by decide) ?_
          refine zj_iconst (v := 2) (pc := 73) K dX0_movePairs_73 (by decide) ?_
          refine zj_aload_n (i := 0) (pc := 74) K dX0_movePairs_74 rfl rfl ?_
          refine zj_getR (pc := 75) K lf_X0_29 hs_C rfl dX0_movePairs_75 ?_
          refine zj_iload (pc := 78) K dX0_movePairs_78 rfl ?_
          refine zj_ald (j := zz_pp c j) (pc := 80) K hs_Cp rfl (zz_pp_lt (by omega) hj9) (by first | decide | omega) dX0_movePairs_80 ?_
          refine zj_imul (pc := 81) K dX0_movePairs_81 ?_
          refine zj_iadd (pc := 82) K dX0_movePairs_82 ?_
          refine zj_iadd (pc := 83) K dX0_movePairs_83 ?_
          refine zj_istore (pc := 84) K dX0_movePairs_84 rfl rfl rfl ?_
          refine zj_aload_n (i := 0) (pc := 86) K dX0_movePairs_86 rfl rfl ?_
          refine zj_getR (pc := 87) K lf_X0_29 hs_C rfl dX0_movePairs_87 ?_
          refine zj_iload (pc := 90) K dX0_movePairs_90 rfl ?_
          refine zj_dup2 (pc := 92) K dX0_movePairs_92 rfl rfl ?_
          refine zj_ald (j := zz_pp c j) (pc := 93) K hs_Cp rfl (zz_pp_lt (by omega) hj9) (by first | decide | omega) dX0_movePairs_93 ?_
          refine zj_iconst (v := 1) (pc := 94) K dX0_movePairs_94 (by decide) ?_
          refine zj_iadd (pc := 95) K dX0_movePairs_95 ?_
          refine zj_ast (j := zz_pp c j) (pc := 96) K hs_Cp rfl (zz_pp_lt (by omega) hj9) (by first | decide | omega) dX0_movePairs_96 ?_
          refine zj_iinc (v := 1) (pc := 97) K dX0_movePairs_97 rfl (by decide) rfl rfl rfl ?_
          refine zj_goto (tgt := 6) (pc := 100) K dX0_movePairs_100 (by decide) ?_
          refine zj_pick [0, 1, 2, 3, 4, 5] ?_
          first
          | exact ih (c + 1) _ _ _ (by omega) (by omega) (by rw [zx_mv, if_neg (by rw [c_24]; decide)]; exact e4) (zz_up e5) zf1 (by rw [zx_mv, if_neg (by rw [c_24]; decide)]; exact zf2)
          | exact ih (c + 1) _ _ _ (by omega) (by omega) (by rw [zx_mv, if_pos c_24, e4, zj_s_eq, zf2]) (zz_up e5) (fun a a1 => by rw [zj_s_ne _ _ a1, zj_s_ne _ _ a1]; exact zf1 a a1) (by rw [zx_mv, if_pos c_24, zj_s_eq, zj_s_eq, zf2])
  show zj_J E Γ 8 0 [(0, .ref (E.2.1 k)), (1, .int b), (2, .int x2), (3, .int x3)] [] h g
  refine zj_iconst (v := 0) (pc := 0) K dX0_movePairs_0 (by decide) ?_
  refine zj_istore (pc := 1) K dX0_movePairs_1 rfl rfl rfl ?_
  refine zj_iconst (v := 0) (pc := 3) K dX0_movePairs_3 (by decide) ?_
  refine zj_istore (pc := 4) K dX0_movePairs_4 rfl rfl rfl ?_
  exact loop (J + 1) 0 _ _ _ (by omega) (by omega) rfl rfl (fun _ _ => rfl) rfl
