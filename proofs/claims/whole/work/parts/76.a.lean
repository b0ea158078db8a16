theorem zi_moX3 : Cond.methodLink RX3 3 objectInit ∈ zj_tbl := List.mem_filter.mpr ⟨List.mem_of_getElem? (i := 318) (by decide +kernel), by decide +kernel⟩
theorem zi_clX3_11 : Cond.classLink RX3 11 RX1 ∈ zj_tbl := List.mem_filter.mpr ⟨List.mem_of_getElem? (i := 319) (by decide +kernel), by decide +kernel⟩
theorem zi_mlX3_17 : Cond.methodLink RX3 17 yX1_init ∈ zj_tbl := List.mem_filter.mpr ⟨List.mem_of_getElem? (i := 321) (by decide +kernel), by decide +kernel⟩
theorem zi_eq {D : va_G} {Γ : zi_Γ} {nL pc ce sl ce' sl' : Nat} {L : List (Nat × Value)} {S : List Value} {pre rest rest' : va_W} (hr : rest = rest') (hc : ce ≤ ce') (hs : sl ≤ sl') (k : zi_J D Γ nL pc L S pre rest' ce' sl') : zi_J D Γ nL pc L S pre rest ce sl := by
  obtain ⟨p, l, e, R, s, m, args, below, meth, c, A, Q⟩ := Γ
  intro ls H locs hl hP hD hS
  subst hr
  exact W.widen hc hs (k ls H locs hl hP hD hS)
/-- the first n dockets of a history, at addresses ad 0, ad 1 .. -/
def zi_dk4 (dA : Nat → ClassId) (a b c d : Nat) : va_W := [(a, .inr (1, [.int 0, .int 0, .ref b, .ref c, .ref d])), (b, .inl (dA 0, 14, .inl (fun _ => 0))), (c, .inl (dA 0, 14, .inl (fun _ => 0))), (d, .inl (dA 0, 14, .inl (fun _ => 0)))]
def zi_dkr (dA : Nat → ClassId) (ad : Nat → Nat) : Nat → va_W
  | 0 => []
  | n + 1 => zi_dkr dA ad n ++ zi_dk4 dA (ad (4 * n)) (ad (4 * n + 1)) (ad (4 * n + 2)) (ad (4 * n + 3))
theorem zi_dkr_len (dA : Nat → ClassId) (ad : Nat → Nat) : ∀ n, (zi_dkr dA ad n).length = 4 * n
  | 0 => rfl
  | n + 1 => by
    rw [zi_dkr, List.length_append, zi_dkr_len dA ad n]
    show 4 * n + 4 = 4 * (n + 1)
    omega
theorem zi_dkr_c {dA : Nat → ClassId} {ad ad' : Nat → Nat} : ∀ {n : Nat}, (∀ k, k < 4 * n → ad k = ad' k) → zi_dkr dA ad n = zi_dkr dA ad' n
  | 0, _ => rfl
  | n + 1, h => by rw [zi_dkr, zi_dkr, zi_dkr_c (fun k hk => h k (by omega)), h (4 * n) (by omega), h (4 * n + 1) (by omega), h (4 * n + 2) (by omega), h (4 * n + 3) (by omega)]
def zi_ext (ad : Nat → Nat) (n a b c d : Nat) : Nat → Nat := fun k => if k < 4 * n then ad k else if k = 4 * n then a else if k = 4 * n + 1 then b else if k = 4 * n + 2 then c else d
theorem zi_ext_lo {ad : Nat → Nat} {n a b c d k : Nat} (h : k < 4 * n) : zi_ext ad n a b c d k = ad k := if_pos h
theorem zi_ext_0 {ad : Nat → Nat} {n a b c d : Nat} : zi_ext ad n a b c d (4 * n) = a := by unfold zi_ext; rw [if_neg (by omega), if_pos rfl]
theorem zi_ext_1 {ad : Nat → Nat} {n a b c d : Nat} : zi_ext ad n a b c d (4 * n + 1) = b := by unfold zi_ext; rw [if_neg (by omega), if_neg (by omega), if_pos rfl]
theorem zi_ext_2 {ad : Nat → Nat} {n a b c d : Nat} : zi_ext ad n a b c d (4 * n + 2) = c := by unfold zi_ext; rw [if_neg (by omega), if_neg (by omega), if_neg (by omega), if_pos rfl]
theorem zi_ext_3 {ad : Nat → Nat} {n a b c d : Nat} : zi_ext ad n a b c d (4 * n + 3) = d := by unfold zi_ext; rw [if_neg (by omega), if_neg (by omega), if_neg (by omega), if_neg (by omega)]
theorem zi_dkr_ext {dA : Nat → ClassId} {ad : Nat → Nat} {n a b c d : Nat} : zi_dkr dA (zi_ext ad n a b c d) (n + 1) = zi_dkr dA ad n ++ zi_dk4 dA a b c d := by
  rw [zi_dkr, zi_ext_0, zi_ext_1, zi_ext_2, zi_ext_3, zi_dkr_c (ad' := ad) (fun k hk => zi_ext_lo hk)]
theorem zi_hat {x y : Nat × va_E} {l r : va_W} {n : Nat} (hl : l.length = n) {k : Nat} : (x :: y :: (l ++ r))[2 + n + k]? = r[k]? := by
  rw [show 2 + n + k = (n + k + 1) + 1 by omega]
  show (l ++ r)[n + k]? = r[k]?
  rw [List.getElem?_append_right (by omega), show n + k - l.length = k by omega]
set_option maxHeartbeats 8000000 in
theorem c_X3_init {l : Launch} {D : va_G} {dA : Nat → ClassId} {pre : va_W} {h0 : Nat} : zi_M l D dA yX3_init cX3_init 2 2 45 528 [.ref h0] pre [(h0, .inr (3, [.null, .int 0, .int 0]))] (fun rest => ∃ (ar : Nat) (ad : Nat → Nat) (fd : Nat → Option Nat), (∀ k, k < 11 → fd k = some (ad (4 * k))) ∧ rest = (h0, .inr (3, [.ref ar, .int 0, .int 0])) :: (ar, .inl (dA 3, 11, .inr (.inr (.inr (.inr fd))))) :: zi_dkr dA ad 11) := by
  refine zi_M.of RX3 (by decide) rfl rfl (Nat.le_of_ble_eq_true rfl) ?_
  intro Γ hΓ K Rt
  subst hΓ
  have loop : ∀ (m i : Nat) (x1 : Int32) (ar : Nat) (ad : Nat → Nat) (fd : Nat → Option Nat), 12 ≤ i + m → i ≤ 11 → x1 = nI i → (∀ k, k < i → fd k = some (ad (4 * k))) → zi_J D Γ 2 15 [(0, .ref h0), (1, .int x1)] [] pre ((h0, .inr (3, [.ref ar, .int 0, .int 0])) :: (ar, .inl (dA 3, 11, .inr (.inr (.inr (.inr fd))))) :: zi_dkr dA ad i) (1 + 4 * i) (11 + 47 * i) := by
    intro m
    induction m with
    | zero => intro i x1 ar ad fd h1 h2; omega
    | succ m ih =>
      intro i x1 ar ad fd h1 h2 e1 hfd
      refine zi_iload_n (i := 1) (pc := 15) K dX3_init_15 rfl rfl ?_
      refine zi_bipush (v := 11) (pc := 16) K dX3_init_16 (by decide) ?_
      refine zi_icmp_ge (tgt := 40) (pc := 18) K dX3_init_18 (by decide) (fun c0 => ?_) (fun c0 => ?_)
      · have hi : i = 11 := Nat.le_antisymm h2 (zz_ge e1 (show (11 : Int32) = nI 11 from rfl) (by omega) (by decide) c0)
        subst hi
        refine zi_aload_n (i := 0) (pc := 40) K dX3_init_40 rfl rfl ?_
        refine zi_iconst (v := 0) (pc := 41) K dX3_init_41 (by decide) ?_
        refine zi_put (pc := 42) (i := 0) K Rt lf_X3_18 rfl (fun C T N z => by cases z; rfl) rfl rfl (Nat.le_of_ble_eq_true rfl) dX3_init_42 ?_
        refine zi_aload_n (i := 0) (pc := 45) K dX3_init_45 rfl rfl ?_
        refine zi_iconst (v := 0) (pc := 46) K dX3_init_46 (by decide) ?_
        refine zi_put (pc := 47) (i := 0) K Rt lf_X3_22 rfl (fun C T N z => by cases z; rfl) rfl rfl (Nat.le_of_ble_eq_true rfl) dX3_init_47 ?_
        exact zi_ret (pc := 50) K Rt (Nat.le_of_ble_eq_true rfl) (Nat.le_of_ble_eq_true rfl) dX3_init_50 ⟨ar, ad, fd, hfd, rfl⟩
      · have hi : i < 11 := zz_nge e1 (show (11 : Int32) = nI 11 from rfl) (by omega) (by decide) c0
        refine zi_aload_n (i := 0) (pc := 21) K dX3_init_21 rfl rfl ?_
        refine zi_get (pc := 22) (i := 0) K lf_X3_13 rfl rfl dX3_init_22 ?_
        refine zi_iload_n (i := 1) (pc := 25) K dX3_init_25 rfl rfl ?_
        refine zi_new (pc := 26) (ci := 1) (C := RX1) (T := TX1) (N := 5) (fs := [.int 0, .int 0, .null, .null, .null]) K tyX1 rfl tyX1_ok zi_df1 zi_clX3_11 zi_in1 zi_RX1 (by omega) (by omega) dX3_init_26 (fun q0 => ?_)
        refine zi_dup (pc := 29) K dX3_init_29 rfl ?_
        refine zi_call (pc := 30) (As := []) (q := q0) K zw_yX1_init zi_mlX3_17 zi_im1 rfl c_X1_init (by decide) rfl (Nat.le_of_ble_eq_true rfl) (by omega) (by omega) dX3_init_30 (fun blk hb => ?_)
        obtain ⟨b1, b2, b3, rfl⟩ := hb
        refine zi_eq (rest' := (h0, .inr (3, [.ref ar, .int 0, .int 0])) :: (ar, .inl (dA 3, 11, .inr (.inr (.inr (.inr fd))))) :: (zi_dkr dA ad i ++ zi_dk4 dA q0 b1 b2 b3)) (ce' := 1 + 4 * (i + 1)) (sl' := 11 + 47 * (i + 1)) rfl (by omega) (by omega) ?_
        refine zi_ast (i := 1) (j := 2 + 4 * i + 0) (v := q0) (pc := 33) K rfl ((zi_hat (zi_dkr_len dA ad i)).trans rfl) (by rw [e1]; exact vp_in_nI hi (by decide)) dX3_init_33 ?_
        refine zi_iinc (v := 1) (pc := 34) K dX3_init_34 rfl (by decide) rfl rfl rfl ?_
        refine zi_goto (tgt := 15) (pc := 37) K dX3_init_37 (by decide) ?_
        refine zi_eq (rest' := (h0, .inr (3, [.ref ar, .int 0, .int 0])) :: (ar, .inl (dA 3, 11, .inr (.inr (.inr (.inr (va_up fd x1.toNatClampNeg (some q0)))))) ) :: zi_dkr dA (zi_ext ad i q0 b1 b2 b3) (i + 1)) (ce' := 1 + 4 * (i + 1)) (sl' := 11 + 47 * (i + 1)) (by rw [zi_dkr_ext]; rfl) (Nat.le_refl _) (Nat.le_refl _) ?_
        refine ih (i + 1) _ ar _ _ (by omega) (by omega) (zz_up e1) (fun k hk => ?_)
        rw [e1, nI_clamp (by omega)]
        unfold va_up
        by_cases ek : k = i
        · subst ek; rw [if_pos rfl, zi_ext_0]
        · rw [if_neg ek, zi_ext_lo (by omega)]; exact hfd k (by omega)
  show zi_J D Γ 2 0 [(0, .ref h0)] [] pre [(h0, .inr (3, [.null, .int 0, .int 0]))] 0 0
  refine zi_aload_n (i := 0) (pc := 0) K dX3_init_0 rfl rfl ?_
  refine zi_obj (pc := 1) K zi_moX3 (by decide) (Nat.le_of_ble_eq_true rfl) dX3_init_1 ?_
  refine zi_aload_n (i := 0) (pc := 4) K dX3_init_4 rfl rfl ?_
  refine zi_bipush (v := 11) (pc := 5) K dX3_init_5 (by decide) ?_
  refine zi_newq (pc := 7) (N := 11) K zi_clX3_11 (by decide) (by decide) (Nat.le_of_ble_eq_true rfl) (Nat.le_of_ble_eq_true rfl) (Nat.le_of_ble_eq_true rfl) dX3_init_7 (fun q1 => ?_)
  refine zi_put (pc := 10) (i := 0) K Rt lf_X3_13 rfl (fun C T N z => by cases z; rfl) rfl rfl (Nat.le_of_ble_eq_true rfl) dX3_init_10 ?_
  refine zi_iconst (v := 0) (pc := 13) K dX3_init_13 (by decide) ?_
  refine zi_istore_n (i := 1) (pc := 14) K dX3_init_14 rfl rfl rfl rfl ?_
  exact loop 12 0 _ q1 (fun _ => 0) (fun _ => none) (by decide) (by decide) rfl (fun k hk => absurd hk (Nat.not_lt_zero k))
