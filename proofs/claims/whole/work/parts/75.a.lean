theorem zi_moX5 : Cond.methodLink RX5 3 objectInit ∈ zj_tbl := List.mem_filter.mpr ⟨List.mem_of_getElem? (i := 88) (by decide +kernel), by decide +kernel⟩
theorem zi_ac1 : Cond.arrayClass .byte ∈ zj_tbl := List.mem_filter.mpr ⟨List.mem_of_getElem? (i := 99) (by decide +kernel), by decide +kernel⟩
theorem zi_moX6 : Cond.methodLink RX6 3 objectInit ∈ zj_tbl := List.mem_filter.mpr ⟨List.mem_of_getElem? (i := 111) (by decide +kernel), by decide +kernel⟩
theorem zi_ac0 : Cond.arrayClass .int ∈ zj_tbl := List.mem_filter.mpr ⟨List.mem_of_getElem? (i := 174) (by decide +kernel), by decide +kernel⟩
theorem zi_moX1 : Cond.methodLink RX1 3 objectInit ∈ zj_tbl := List.mem_filter.mpr ⟨List.mem_of_getElem? (i := 220) (by decide +kernel), by decide +kernel⟩
theorem zi_moX2 : Cond.methodLink RX2 1 objectInit ∈ zj_tbl := List.mem_filter.mpr ⟨List.mem_of_getElem? (i := 252) (by decide +kernel), by decide +kernel⟩
theorem zi_moX4 : Cond.methodLink RX4 3 objectInit ∈ zj_tbl := List.mem_filter.mpr ⟨List.mem_of_getElem? (i := 105) (by decide +kernel), by decide +kernel⟩
theorem zi_clX4_15 : Cond.classLink RX4 15 RX6 ∈ zj_tbl := List.mem_filter.mpr ⟨List.mem_of_getElem? (i := 106) (by decide +kernel), by decide +kernel⟩
theorem zi_in6 : Cond.instantiable RX6 12 ∈ zj_tbl := List.mem_filter.mpr ⟨List.mem_of_getElem? (i := 107) (by decide +kernel), by decide +kernel⟩
theorem zi_im6 : Cond.instanceMethod yX6_init ∈ zj_tbl := List.mem_filter.mpr ⟨List.mem_of_getElem? (i := 109) (by decide +kernel), by decide +kernel⟩
theorem zi_mlX4_17 : Cond.methodLink RX4 17 yX6_init ∈ zj_tbl := List.mem_filter.mpr ⟨List.mem_of_getElem? (i := 108) (by decide +kernel), by decide +kernel⟩
theorem zi_moX0 : Cond.methodLink RX0 3 objectInit ∈ zj_tbl := List.mem_filter.mpr ⟨List.mem_of_getElem? (i := 214) (by decide +kernel), by decide +kernel⟩
theorem zi_clX0_15 : Cond.classLink RX0 15 RX1 ∈ zj_tbl := List.mem_filter.mpr ⟨List.mem_of_getElem? (i := 215) (by decide +kernel), by decide +kernel⟩
theorem zi_in1 : Cond.instantiable RX1 5 ∈ zj_tbl := List.mem_filter.mpr ⟨List.mem_of_getElem? (i := 216) (by decide +kernel), by decide +kernel⟩
theorem zi_im1 : Cond.instanceMethod yX1_init ∈ zj_tbl := List.mem_filter.mpr ⟨List.mem_of_getElem? (i := 218) (by decide +kernel), by decide +kernel⟩
theorem zi_mlX0_17 : Cond.methodLink RX0 17 yX1_init ∈ zj_tbl := List.mem_filter.mpr ⟨List.mem_of_getElem? (i := 217) (by decide +kernel), by decide +kernel⟩
theorem zi_clX0_22 : Cond.classLink RX0 22 RX2 ∈ zj_tbl := List.mem_filter.mpr ⟨List.mem_of_getElem? (i := 247) (by decide +kernel), by decide +kernel⟩
theorem zi_in2 : Cond.instantiable RX2 5 ∈ zj_tbl := List.mem_filter.mpr ⟨List.mem_of_getElem? (i := 248) (by decide +kernel), by decide +kernel⟩
theorem zi_im2 : Cond.instanceMethod yX2_init ∈ zj_tbl := List.mem_filter.mpr ⟨List.mem_of_getElem? (i := 250) (by decide +kernel), by decide +kernel⟩
theorem zi_moX8 : Cond.methodLink RX8 58 objectInit ∈ zj_tbl := List.mem_filter.mpr ⟨List.mem_of_getElem? (i := 908) (by decide +kernel), by decide +kernel⟩
theorem zi_df0 : ∀ j, j < 10 → defaultValue (tyX0 j) = vp_V [.null, .null, .null, .null, .null, .null, .null, .int 0, .int 0, .int 0] j := fun j hj => match j, hj with
  | 0, _ => rfl
  | 1, _ => rfl
  | 2, _ => rfl
  | 3, _ => rfl
  | 4, _ => rfl
  | 5, _ => rfl
  | 6, _ => rfl
  | 7, _ => rfl
  | 8, _ => rfl
  | 9, _ => rfl
  | k + 10, h => absurd h (by omega)
theorem zi_df1 : ∀ j, j < 5 → defaultValue (tyX1 j) = vp_V [.int 0, .int 0, .null, .null, .null] j := fun j hj => match j, hj with
  | 0, _ => rfl
  | 1, _ => rfl
  | 2, _ => rfl
  | 3, _ => rfl
  | 4, _ => rfl
  | k + 5, h => absurd h (by omega)
theorem zi_df2 : ∀ j, j < 5 → defaultValue (tyX2 j) = vp_V [.int 0, .int 0, .int 0, .int 0, .int 0] j := fun j hj => match j, hj with
  | 0, _ => rfl
  | 1, _ => rfl
  | 2, _ => rfl
  | 3, _ => rfl
  | 4, _ => rfl
  | k + 5, h => absurd h (by omega)
theorem zi_df3 : ∀ j, j < 3 → defaultValue (tyX3 j) = vp_V [.null, .int 0, .int 0] j := fun j hj => match j, hj with
  | 0, _ => rfl
  | 1, _ => rfl
  | 2, _ => rfl
  | k + 3, h => absurd h (by omega)
theorem zi_df4 : ∀ j, j < 9 → defaultValue (tyX4 j) = vp_V [.null, .null, .int 0, .int 0, .int 0, .int 0, .int 0, .int 0, .int 0] j := fun j hj => match j, hj with
  | 0, _ => rfl
  | 1, _ => rfl
  | 2, _ => rfl
  | 3, _ => rfl
  | 4, _ => rfl
  | 5, _ => rfl
  | 6, _ => rfl
  | 7, _ => rfl
  | 8, _ => rfl
  | k + 9, h => absurd h (by omega)
theorem zi_df5 : ∀ j, j < 2 → defaultValue (tyX5 j) = vp_V [.null, .int 0] j := fun j hj => match j, hj with
  | 0, _ => rfl
  | 1, _ => rfl
  | k + 2, h => absurd h (by omega)
theorem zi_df6 : ∀ j, j < 12 → defaultValue (tyX6 j) = vp_V [.int 0, .int 0, .int 0, .int 0, .int 0, .int 0, .int 0, .int 0, .int 0, .null, .null, .null] j := fun j hj => match j, hj with
  | 0, _ => rfl
  | 1, _ => rfl
  | 2, _ => rfl
  | 3, _ => rfl
  | 4, _ => rfl
  | 5, _ => rfl
  | 6, _ => rfl
  | 7, _ => rfl
  | 8, _ => rfl
  | 9, _ => rfl
  | 10, _ => rfl
  | 11, _ => rfl
  | k + 12, h => absurd h (by omega)
theorem zi_df7 : ∀ j, j < 7 → defaultValue (tyX7 j) = vp_V [.null, .null, .null, .null, .null, .null, .int 0] j := fun j hj => match j, hj with
  | 0, _ => rfl
  | 1, _ => rfl
  | 2, _ => rfl
  | 3, _ => rfl
  | 4, _ => rfl
  | 5, _ => rfl
  | 6, _ => rfl
  | k + 7, h => absurd h (by omega)
theorem zi_df8 : ∀ j, j < 28 → defaultValue (tyX8 j) = vp_V [.int 0, .null, .int 0, .int 0, .int 0, .int 0, .int 0, .int 0, .int 0, .int 0, .long 0, .null, .null, .null, .null, .null, .null, .int 0, .null, .null, .int 0, .int 0, .int 0, .int 0, .int 0, .int 0, .int 0, .int 0] j := fun j hj => match j, hj with
  | 0, _ => rfl
  | 1, _ => rfl
  | 2, _ => rfl
  | 3, _ => rfl
  | 4, _ => rfl
  | 5, _ => rfl
  | 6, _ => rfl
  | 7, _ => rfl
  | 8, _ => rfl
  | 9, _ => rfl
  | 10, _ => rfl
  | 11, _ => rfl
  | 12, _ => rfl
  | 13, _ => rfl
  | 14, _ => rfl
  | 15, _ => rfl
  | 16, _ => rfl
  | 17, _ => rfl
  | 18, _ => rfl
  | 19, _ => rfl
  | 20, _ => rfl
  | 21, _ => rfl
  | 22, _ => rfl
  | 23, _ => rfl
  | 24, _ => rfl
  | 25, _ => rfl
  | 26, _ => rfl
  | 27, _ => rfl
  | k + 28, h => absurd h (by omega)
set_option maxHeartbeats 8000000 in
set_option maxRecDepth 40000 in
theorem c_X5_init {l : Launch} {D : va_G} {dA : Nat → ClassId} {pre : va_W} {h0 : Nat} : zi_M l D dA yX5_init cX5_init 1 1 1 540 [.ref h0] pre [(h0, .inr (5, [.null, .int 0]))] (fun rest => ∃ a1, rest = [(h0, .inr (5, [.ref a1, .int 0])), (a1, .inl (dA 1, 540, .inl (fun _ => 0)))]) := by
  refine zi_M.of RX5 (by decide) rfl rfl (Nat.le_of_ble_eq_true rfl) ?_
  intro Γ hΓ K Rt
  subst hΓ
  show zi_J D Γ 1 0 [(0, .ref h0)] [] pre [(h0, .inr (5, [.null, .int 0]))] 0 0
  refine zi_aload_n (i := 0) (pc := 0) K dX5_init_0 rfl rfl ?_
  refine zi_obj (pc := 1) K zi_moX5 (by decide) (Nat.le_of_ble_eq_true rfl) dX5_init_1 ?_
  refine zi_aload_n (i := 0) (pc := 4) K dX5_init_4 rfl rfl ?_
  refine zi_sipush (v := 540) (pc := 5) K dX5_init_5 (by decide) ?_
  refine zi_newa (pc := 8) (atype := .byte) (ty := .byte) (kd := 1) (N := 540) (a0 := (540, .inl (fun _ => 0))) K rfl zi_ac1 rfl (fun C z => by cases z) (fun _ => rfl) (by decide) (by decide) (Nat.le_of_ble_eq_true rfl) (Nat.le_of_ble_eq_true rfl) (Nat.le_of_ble_eq_true rfl) dX5_init_8 (fun q1_8 => ?_)
  refine zi_put (pc := 10) (i := 0) K Rt lf_X5_9 rfl (fun C T N z => by cases z; rfl) rfl rfl (Nat.le_of_ble_eq_true rfl) dX5_init_10 ?_
  refine zi_aload_n (i := 0) (pc := 13) K dX5_init_13 rfl rfl ?_
  refine zi_iconst (v := 0) (pc := 14) K dX5_init_14 (by decide) ?_
  refine zi_put (pc := 15) (i := 0) K Rt lf_X5_15 rfl (fun C T N z => by cases z; rfl) rfl rfl (Nat.le_of_ble_eq_true rfl) dX5_init_15 ?_
  exact zi_ret (pc := 18) K Rt (Nat.le_of_ble_eq_true rfl) (Nat.le_of_ble_eq_true rfl) dX5_init_18 ⟨_, rfl⟩
set_option maxHeartbeats 8000000 in
set_option maxRecDepth 40000 in
theorem c_X6_init {l : Launch} {D : va_G} {dA : Nat → ClassId} {pre : va_W} {h0 : Nat} : zi_M l D dA yX6_init cX6_init 1 1 3 37 [.ref h0] pre [(h0, .inr (6, [.int 0, .int 0, .int 0, .int 0, .int 0, .int 0, .int 0, .int 0, .int 0, .null, .null, .null]))] (fun rest => ∃ a1 a2 a3, rest = [(h0, .inr (6, [.int 0, .int 0, .int 0, .int 0, .int 0, .int 1, .int 0, .int 0, .int 0, .ref a1, .ref a2, .ref a3])), (a1, .inl (dA 0, 9, .inl (fun _ => 0))), (a2, .inl (dA 0, 14, .inl (fun _ => 0))), (a3, .inl (dA 0, 14, .inl (fun _ => 0)))]) := by
  refine zi_M.of RX6 (by decide) rfl rfl (Nat.le_of_ble_eq_true rfl) ?_
  intro Γ hΓ K Rt
  subst hΓ
  show zi_J D Γ 1 0 [(0, .ref h0)] [] pre [(h0, .inr (6, [.int 0, .int 0, .int 0, .int 0, .int 0, .int 0, .int 0, .int 0, .int 0, .null, .null, .null]))] 0 0
  refine zi_aload_n (i := 0) (pc := 0) K dX6_init_0 rfl rfl ?_
  refine zi_obj (pc := 1) K zi_moX6 (by decide) (Nat.le_of_ble_eq_true rfl) dX6_init_1 ?_
  refine zi_aload_n (i := 0) (pc := 4) K dX6_init_4 rfl rfl ?_
  refine zi_bipush (v := 9) (pc := 5) K dX6_init_5 (by decide) ?_
  refine zi_newa (pc := 7) (atype := .int) (ty := .int) (kd := 0) (N := 9) (a0 := (9, .inl (fun _ => 0))) K rfl zi_ac0 rfl (fun C z => by cases z) (fun _ => rfl) (by decide) (by decide) (Nat.le_of_ble_eq_true rfl) (Nat.le_of_ble_eq_true rfl) (Nat.le_of_ble_eq_true rfl) dX6_init_7 (fun q1_7 => ?_)
  refine zi_put (pc := 9) (i := 0) K Rt lf_X6_9 rfl (fun C T N z => by cases z; rfl) rfl rfl (Nat.le_of_ble_eq_true rfl) dX6_init_9 ?_
  refine zi_aload_n (i := 0) (pc := 12) K dX6_init_12 rfl rfl ?_
  refine zi_bipush (v := 14) (pc := 13) K dX6_init_13 (by decide) ?_
  refine zi_newa (pc := 15) (atype := .int) (ty := .int) (kd := 0) (N := 14) (a0 := (14, .inl (fun _ => 0))) K rfl zi_ac0 rfl (fun C z => by cases z) (fun _ => rfl) (by decide) (by decide) (Nat.le_of_ble_eq_true rfl) (Nat.le_of_ble_eq_true rfl) (Nat.le_of_ble_eq_true rfl) dX6_init_15 (fun q2_15 => ?_)
  refine zi_put (pc := 17) (i := 0) K Rt lf_X6_15 rfl (fun C T N z => by cases z; rfl) rfl rfl (Nat.le_of_ble_eq_true rfl) dX6_init_17 ?_
  refine zi_aload_n (i := 0) (pc := 20) K dX6_init_20 rfl rfl ?_
  refine zi_bipush (v := 14) (pc := 21) K dX6_init_21 (by decide) ?_
  refine zi_newa (pc := 23) (atype := .int) (ty := .int) (kd := 0) (N := 14) (a0 := (14, .inl (fun _ => 0))) K rfl zi_ac0 rfl (fun C z => by cases z) (fun _ => rfl) (by decide) (by decide) (Nat.le_of_ble_eq_true rfl) (Nat.le_of_ble_eq_true rfl) (Nat.le_of_ble_eq_true rfl) dX6_init_23 (fun q3_23 => ?_)
  refine zi_put (pc := 25) (i := 0) K Rt lf_X6_18 rfl (fun C T N z => by cases z; rfl) rfl rfl (Nat.le_of_ble_eq_true rfl) dX6_init_25 ?_
  refine zi_aload_n (i := 0) (pc := 28) K dX6_init_28 rfl rfl ?_
  refine zi_iconst (v := 1) (pc := 29) K dX6_init_29 (by decide) ?_
  refine zi_put (pc := 30) (i := 0) K Rt lf_X6_21 rfl (fun C T N z => by cases z; rfl) rfl rfl (Nat.le_of_ble_eq_true rfl) dX6_init_30 ?_
  exact zi_ret (pc := 33) K Rt (Nat.le_of_ble_eq_true rfl) (Nat.le_of_ble_eq_true rfl) dX6_init_33 ⟨_, _, _, rfl⟩
set_option maxHeartbeats 8000000 in
set_option maxRecDepth 40000 in
theorem c_X1_init {l : Launch} {D : va_G} {dA : Nat → ClassId} {pre : va_W} {h0 : Nat} : zi_M l D dA yX1_init cX1_init 1 1 3 42 [.ref h0] pre [(h0, .inr (1, [.int 0, .int 0, .null, .null, .null]))] (fun rest => ∃ a1 a2 a3, rest = [(h0, .inr (1, [.int 0, .int 0, .ref a1, .ref a2, .ref a3])), (a1, .inl (dA 0, 14, .inl (fun _ => 0))), (a2, .inl (dA 0, 14, .inl (fun _ => 0))), (a3, .inl (dA 0, 14, .inl (fun _ => 0)))]) := by
  refine zi_M.of RX1 (by decide) rfl rfl (Nat.le_of_ble_eq_true rfl) ?_
  intro Γ hΓ K Rt
  subst hΓ
  show zi_J D Γ 1 0 [(0, .ref h0)] [] pre [(h0, .inr (1, [.int 0, .int 0, .null, .null, .null]))] 0 0
  refine zi_aload_n (i := 0) (pc := 0) K dX1_init_0 rfl rfl ?_
  refine zi_obj (pc := 1) K zi_moX1 (by decide) (Nat.le_of_ble_eq_true rfl) dX1_init_1 ?_
  refine zi_aload_n (i := 0) (pc := 4) K dX1_init_4 rfl rfl ?_
  refine zi_bipush (v := 14) (pc := 5) K dX1_init_5 (by decide) ?_
  refine zi_newa (pc := 7) (atype := .int) (ty := .int) (kd := 0) (N := 14) (a0 := (14, .inl (fun _ => 0))) K rfl zi_ac0 rfl (fun C z => by cases z) (fun _ => rfl) (by decide) (by decide) (Nat.le_of_ble_eq_true rfl) (Nat.le_of_ble_eq_true rfl) (Nat.le_of_ble_eq_true rfl) dX1_init_7 (fun q1_7 => ?_)
  refine zi_put (pc := 9) (i := 0) K Rt lf_X1_9 rfl (fun C T N z => by cases z; rfl) rfl rfl (Nat.le_of_ble_eq_true rfl) dX1_init_9 ?_
  refine zi_aload_n (i := 0) (pc := 12) K dX1_init_12 rfl rfl ?_
  refine zi_bipush (v := 14) (pc := 13) K dX1_init_13 (by decide) ?_
  refine zi_newa (pc := 15) (atype := .int) (ty := .int) (kd := 0) (N := 14) (a0 := (14, .inl (fun _ => 0))) K rfl zi_ac0 rfl (fun C z => by cases z) (fun _ => rfl) (by decide) (by decide) (Nat.le_of_ble_eq_true rfl) (Nat.le_of_ble_eq_true rfl) (Nat.le_of_ble_eq_true rfl) dX1_init_15 (fun q2_15 => ?_)
  refine zi_put (pc := 17) (i := 0) K Rt lf_X1_15 rfl (fun C T N z => by cases z; rfl) rfl rfl (Nat.le_of_ble_eq_true rfl) dX1_init_17 ?_
  refine zi_aload_n (i := 0) (pc := 20) K dX1_init_20 rfl rfl ?_
  refine zi_bipush (v := 14) (pc := 21) K dX1_init_21 (by decide) ?_
  refine zi_newa (pc := 23) (atype := .int) (ty := .int) (kd := 0) (N := 14) (a0 := (14, .inl (fun _ => 0))) K rfl zi_ac0 rfl (fun C z => by cases z) (fun _ => rfl) (by decide) (by decide) (Nat.le_of_ble_eq_true rfl) (Nat.le_of_ble_eq_true rfl) (Nat.le_of_ble_eq_true rfl) dX1_init_23 (fun q3_23 => ?_)
  refine zi_put (pc := 25) (i := 0) K Rt lf_X1_18 rfl (fun C T N z => by cases z; rfl) rfl rfl (Nat.le_of_ble_eq_true rfl) dX1_init_25 ?_
  exact zi_ret (pc := 28) K Rt (Nat.le_of_ble_eq_true rfl) (Nat.le_of_ble_eq_true rfl) dX1_init_28 ⟨_, _, _, rfl⟩
set_option maxHeartbeats 8000000 in
set_option maxRecDepth 40000 in
theorem c_X2_init {l : Launch} {D : va_G} {dA : Nat → ClassId} {pre : va_W} {h0 : Nat} : zi_M l D dA yX2_init cX2_init 1 1 0 0 [.ref h0] pre [(h0, .inr (2, [.int 0, .int 0, .int 0, .int 0, .int 0]))] (fun rest => rest = [(h0, .inr (2, [.int 0, .int 0, .int 0, .int 0, .int 0]))]) := by
  refine zi_M.of RX2 (by decide) rfl rfl (Nat.le_of_ble_eq_true rfl) ?_
  intro Γ hΓ K Rt
  subst hΓ
  show zi_J D Γ 1 0 [(0, .ref h0)] [] pre [(h0, .inr (2, [.int 0, .int 0, .int 0, .int 0, .int 0]))] 0 0
  refine zi_aload_n (i := 0) (pc := 0) K dX2_init_0 rfl rfl ?_
  refine zi_obj (pc := 1) K zi_moX2 (by decide) (Nat.le_of_ble_eq_true rfl) dX2_init_1 ?_
  exact zi_ret (pc := 4) K Rt (Nat.le_of_ble_eq_true rfl) (Nat.le_of_ble_eq_true rfl) dX2_init_4 rfl
set_option maxHeartbeats 8000000 in
set_option maxRecDepth 40000 in
theorem c_X4_init {l : Launch} {D : va_G} {dA : Nat → ClassId} {pre : va_W} {h0 : Nat} {tp : Nat} : zi_M l D dA yX4_init cX4_init 2 2 4 49 [.ref h0, .ref tp] pre [(h0, .inr (4, [.null, .null, .int 0, .int 0, .int 0, .int 0, .int 0, .int 0, .int 0]))] (fun rest => ∃ a1 a2 a3 a4, rest = [(h0, .inr (4, [.ref tp, .ref a1, .int 0, .int 0, .int 0, .int 0, .int 0, .int 0, .int 0])), (a1, .inr (6, [.int 0, .int 0, .int 0, .int 0, .int 0, .int 1, .int 0, .int 0, .int 0, .ref a2, .ref a3, .ref a4])), (a2, .inl (dA 0, 9, .inl (fun _ => 0))), (a3, .inl (dA 0, 14, .inl (fun _ => 0))), (a4, .inl (dA 0, 14, .inl (fun _ => 0)))]) := by
  refine zi_M.of RX4 (by decide) rfl rfl (Nat.le_of_ble_eq_true rfl) ?_
  intro Γ hΓ K Rt
  subst hΓ
  show zi_J D Γ 2 0 [(0, .ref h0), (1, .ref tp)] [] pre [(h0, .inr (4, [.null, .null, .int 0, .int 0, .int 0, .int 0, .int 0, .int 0, .int 0]))] 0 0
  refine zi_aload_n (i := 0) (pc := 0) K dX4_init_0 rfl rfl ?_
  refine zi_obj (pc := 1) K zi_moX4 (by decide) (Nat.le_of_ble_eq_true rfl) dX4_init_1 ?_
  refine zi_aload_n (i := 0) (pc := 4) K dX4_init_4 rfl rfl ?_
  refine zi_aload_n (i := 1) (pc := 5) K dX4_init_5 rfl rfl ?_
  refine zi_put (pc := 6) (i := 0) K Rt lf_X4_9 rfl (fun C T N z => by cases z; rfl) rfl rfl (Nat.le_of_ble_eq_true rfl) dX4_init_6 ?_
  refine zi_aload_n (i := 0) (pc := 9) K dX4_init_9 rfl rfl ?_
  refine zi_new (pc := 10) (ci := 6) (C := RX6) (T := TX6) (N := 12) (fs := [.int 0, .int 0, .int 0, .int 0, .int 0, .int 0, .int 0, .int 0, .int 0, .null, .null, .null]) K tyX6 rfl tyX6_ok zi_df6 zi_clX4_15 zi_in6 zi_RX6 (Nat.le_of_ble_eq_true rfl) (Nat.le_of_ble_eq_true rfl) dX4_init_10 (fun q1_10 => ?_)
  refine zi_dup (pc := 13) K dX4_init_13 rfl ?_
  refine zi_call (pc := 14) (As := []) (q := q1_10) K zw_yX6_init zi_mlX4_17 zi_im6 rfl c_X6_init (by decide) rfl (Nat.le_of_ble_eq_true rfl) (Nat.le_of_ble_eq_true rfl) (Nat.le_of_ble_eq_true rfl) dX4_init_14 (fun blk14 hb14 => ?_)
  obtain ⟨b14_1, b14_2, b14_3, rfl⟩ := hb14
  refine zi_put (pc := 17) (i := 0) K Rt lf_X4_18 rfl (fun C T N z => by cases z; rfl) rfl rfl (Nat.le_of_ble_eq_true rfl) dX4_init_17 ?_
  exact zi_ret (pc := 20) K Rt (Nat.le_of_ble_eq_true rfl) (Nat.le_of_ble_eq_true rfl) dX4_init_20 ⟨_, _, _, _, rfl⟩
set_option maxHeartbeats 8000000 in
set_option maxRecDepth 40000 in
theorem c_X0_init {l : Launch} {D : va_G} {dA : Nat → ClassId} {pre : va_W} {h0 : Nat} {tl : Nat} : zi_M l D dA yX0_init cX0_init 2 2 9 310 [.ref h0, .ref tl] pre [(h0, .inr (0, [.null, .null, .null, .null, .null, .null, .null, .int 0, .int 0, .int 0]))] (fun rest => ∃ a1 a2 a3 a4 a5 a6 a7 a8 a9, rest = [(h0, .inr (0, [.ref tl, .ref a1, .ref a5, .ref a6, .ref a7, .ref a8, .ref a9, .int 0, .int 0, .int 0])), (a1, .inr (1, [.int 0, .int 0, .ref a2, .ref a3, .ref a4])), (a2, .inl (dA 0, 14, .inl (fun _ => 0))), (a3, .inl (dA 0, 14, .inl (fun _ => 0))), (a4, .inl (dA 0, 14, .inl (fun _ => 0))), (a5, .inr (2, [.int 0, .int 0, .int 0, .int 0, .int 0])), (a6, .inl (dA 0, 81, .inl (fun _ => 0))), (a7, .inl (dA 0, 9, .inl (fun _ => 0))), (a8, .inl (dA 0, 84, .inl (fun _ => 0))), (a9, .inl (dA 0, 84, .inl (fun _ => 0)))]) := by
  refine zi_M.of RX0 (by decide) rfl rfl (Nat.le_of_ble_eq_true rfl) ?_
  intro Γ hΓ K Rt
  subst hΓ
  show zi_J D Γ 2 0 [(0, .ref h0), (1, .ref tl)] [] pre [(h0, .inr (0, [.null, .null, .null, .null, .null, .null, .null, .int 0, .int 0, .int 0]))] 0 0
  refine zi_aload_n (i := 0) (pc := 0) K dX0_init_0 rfl rfl ?_
  refine zi_obj (pc := 1) K zi_moX0 (by decide) (Nat.le_of_ble_eq_true rfl) dX0_init_1 ?_
  refine zi_aload_n (i := 0) (pc := 4) K dX0_init_4 rfl rfl ?_
  refine zi_aload_n (i := 1) (pc := 5) K dX0_init_5 rfl rfl ?_
  refine zi_put (pc := 6) (i := 0) K Rt lf_X0_9 rfl (fun C T N z => by cases z; rfl) rfl rfl (Nat.le_of_ble_eq_true rfl) dX0_init_6 ?_
  refine zi_aload_n (i := 0) (pc := 9) K dX0_init_9 rfl rfl ?_
  refine zi_new (pc := 10) (ci := 1) (C := RX1) (T := TX1) (N := 5) (fs := [.int 0, .int 0, .null, .null, .null]) K tyX1 rfl tyX1_ok zi_df1 zi_clX0_15 zi_in1 zi_RX1 (Nat.le_of_ble_eq_true rfl) (Nat.le_of_ble_eq_true rfl) dX0_init_10 (fun q1_10 => ?_)
  refine zi_dup (pc := 13) K dX0_init_13 rfl ?_
  refine zi_call (pc := 14) (As := []) (q := q1_10) K zw_yX1_init zi_mlX0_17 zi_im1 rfl c_X1_init (by decide) rfl (Nat.le_of_ble_eq_true rfl) (Nat.le_of_ble_eq_true rfl) (Nat.le_of_ble_eq_true rfl) dX0_init_14 (fun blk14 hb14 => ?_)
  obtain ⟨b14_1, b14_2, b14_3, rfl⟩ := hb14
  refine zi_put (pc := 17) (i := 0) K Rt lf_X0_18 rfl (fun C T N z => by cases z; rfl) rfl rfl (Nat.le_of_ble_eq_true rfl) dX0_init_17 ?_
  refine zi_aload_n (i := 0) (pc := 20) K dX0_init_20 rfl rfl ?_
  refine zi_new (pc := 21) (ci := 2) (C := RX2) (T := TX2) (N := 5) (fs := [.int 0, .int 0, .int 0, .int 0, .int 0]) K tyX2 rfl tyX2_ok zi_df2 zi_clX0_22 zi_in2 zi_RX2 (Nat.le_of_ble_eq_true rfl) (Nat.le_of_ble_eq_true rfl) dX0_init_21 (fun q2_21 => ?_)
  refine zi_dup (pc := 24) K dX0_init_24 rfl ?_
  refine zi_callN (pc := 25) K zw_yX2_init zi_im2 c_X2_init (by decide) rfl (Nat.le_of_ble_eq_true rfl) (Nat.le_of_ble_eq_true rfl) (Nat.le_of_ble_eq_true rfl) dX0_init_25 (fun blk25 hb25 => ?_)
  subst hb25
  refine zi_put (pc := 28) (i := 0) K Rt lf_X0_25 rfl (fun C T N z => by cases z; rfl) rfl rfl (Nat.le_of_ble_eq_true rfl) dX0_init_28 ?_
  refine zi_aload_n (i := 0) (pc := 31) K dX0_init_31 rfl rfl ?_
  refine zi_bipush (v := 81) (pc := 32) K dX0_init_32 (by decide) ?_
  refine zi_newa (pc := 34) (atype := .int) (ty := .int) (kd := 0) (N := 81) (a0 := (81, .inl (fun _ => 0))) K rfl zi_ac0 rfl (fun C z => by cases z) (fun _ => rfl) (by decide) (by decide) (Nat.le_of_ble_eq_true rfl) (Nat.le_of_ble_eq_true rfl) (Nat.le_of_ble_eq_true rfl) dX0_init_34 (fun q3_34 => ?_)
  refine zi_put (pc := 36) (i := 0) K Rt lf_X0_29 rfl (fun C T N z => by cases z; rfl) rfl rfl (Nat.le_of_ble_eq_true rfl) dX0_init_36 ?_
  refine zi_aload_n (i := 0) (pc := 39) K dX0_init_39 rfl rfl ?_
  refine zi_bipush (v := 9) (pc := 40) K dX0_init_40 (by decide) ?_
  refine zi_newa (pc := 42) (atype := .int) (ty := .int) (kd := 0) (N := 9) (a0 := (9, .inl (fun _ => 0))) K rfl zi_ac0 rfl (fun C z => by cases z) (fun _ => rfl) (by decide) (by decide) (Nat.le_of_ble_eq_true rfl) (Nat.le_of_ble_eq_true rfl) (Nat.le_of_ble_eq_true rfl) dX0_init_42 (fun q4_42 => ?_)
  refine zi_put (pc := 44) (i := 0) K Rt lf_X0_33 rfl (fun C T N z => by cases z; rfl) rfl rfl (Nat.le_of_ble_eq_true rfl) dX0_init_44 ?_
  refine zi_aload_n (i := 0) (pc := 47) K dX0_init_47 rfl rfl ?_
  refine zi_bipush (v := 84) (pc := 48) K dX0_init_48 (by decide) ?_
  refine zi_newa (pc := 50) (atype := .int) (ty := .int) (kd := 0) (N := 84) (a0 := (84, .inl (fun _ => 0))) K rfl zi_ac0 rfl (fun C z => by cases z) (fun _ => rfl) (by decide) (by decide) (Nat.le_of_ble_eq_true rfl) (Nat.le_of_ble_eq_true rfl) (Nat.le_of_ble_eq_true rfl) dX0_init_50 (fun q5_50 => ?_)
  refine zi_put (pc := 52) (i := 0) K Rt lf_X0_36 rfl (fun C T N z => by cases z; rfl) rfl rfl (Nat.le_of_ble_eq_true rfl) dX0_init_52 ?_
  refine zi_aload_n (i := 0) (pc := 55) K dX0_init_55 rfl rfl ?_
  refine zi_bipush (v := 84) (pc := 56) K dX0_init_56 (by decide) ?_
  refine zi_newa (pc := 58) (atype := .int) (ty := .int) (kd := 0) (N := 84) (a0 := (84, .inl (fun _ => 0))) K rfl zi_ac0 rfl (fun C z => by cases z) (fun _ => rfl) (by decide) (by decide) (Nat.le_of_ble_eq_true rfl) (Nat.le_of_ble_eq_true rfl) (Nat.le_of_ble_eq_true rfl) dX0_init_58 (fun q6_58 => ?_)
  refine zi_put (pc := 60) (i := 0) K Rt lf_X0_39 rfl (fun C T N z => by cases z; rfl) rfl rfl (Nat.le_of_ble_eq_true rfl) dX0_init_60 ?_
  exact zi_ret (pc := 63) K Rt (Nat.le_of_ble_eq_true rfl) (Nat.le_of_ble_eq_true rfl) dX0_init_63 ⟨_, _, _, _, _, _, _, _, _, rfl⟩
set_option maxHeartbeats 8000000 in
set_option maxRecDepth 40000 in
theorem c_X8_init {l : Launch} {D : va_G} {dA : Nat → ClassId} {pre : va_W} {h0 : Nat} : zi_M l D dA yX8_init cX8_init 1 1 9 2043 [.ref h0] pre [(h0, .inr (8, [.int 0, .null, .int 0, .int 0, .int 0, .int 0, .int 0, .int 0, .int 0, .int 0, .long 0, .null, .null, .null, .null, .null, .null, .int 0, .null, .null, .int 0, .int 0, .int 0, .int 0, .int 0, .int 0, .int 0, .int 0]))] (fun rest => ∃ a1 a2 a3 a4 a5 a6 a7 a8 a9, rest = [(h0, .inr (8, [.int 0, .ref a1, .int 0, .int 0, .int 0, .int 0, .int 0, .int 0, .int 0, .int 0, .long 0, .ref a2, .ref a3, .ref a4, .ref a5, .ref a6, .ref a7, .int 0, .ref a8, .ref a9, .int 0, .int 0, .int 0, .int 0, .int 0, .int 0, .int 0, .int 0])), (a1, .inl (dA 0, 540, .inl (fun _ => 0))), (a2, .inl (dA 0, 89, .inl (fun _ => 0))), (a3, .inl (dA 0, 89, .inl (fun _ => 0))), (a4, .inl (dA 0, 89, .inl (fun _ => 0))), (a5, .inl (dA 0, 890, .inl (fun _ => 0))), (a6, .inl (dA 0, 89, .inl (fun _ => 0))), (a7, .inl (dA 0, 89, .inl (fun _ => 0))), (a8, .inl (dA 0, 84, .inl (fun _ => 0))), (a9, .inl (dA 0, 84, .inl (fun _ => 0)))]) := by
  refine zi_M.of RX8 (by decide) rfl rfl (Nat.le_of_ble_eq_true rfl) ?_
  intro Γ hΓ K Rt
  subst hΓ
  show zi_J D Γ 1 0 [(0, .ref h0)] [] pre [(h0, .inr (8, [.int 0, .null, .int 0, .int 0, .int 0, .int 0, .int 0, .int 0, .int 0, .int 0, .long 0, .null, .null, .null, .null, .null, .null, .int 0, .null, .null, .int 0, .int 0, .int 0, .int 0, .int 0, .int 0, .int 0, .int 0]))] 0 0
  refine zi_aload_n (i := 0) (pc := 0) K dX8_init_0 rfl rfl ?_
  refine zi_obj (pc := 1) K zi_moX8 (by decide) (Nat.le_of_ble_eq_true rfl) dX8_init_1 ?_
  refine zi_aload_n (i := 0) (pc := 4) K dX8_init_4 rfl rfl ?_
  refine zi_sipush (v := 540) (pc := 5) K dX8_init_5 (by decide) ?_
  refine zi_newa (pc := 8) (atype := .int) (ty := .int) (kd := 0) (N := 540) (a0 := (540, .inl (fun _ => 0))) K rfl zi_ac0 rfl (fun C z => by cases z) (fun _ => rfl) (by decide) (by decide) (Nat.le_of_ble_eq_true rfl) (Nat.le_of_ble_eq_true rfl) (Nat.le_of_ble_eq_true rfl) dX8_init_8 (fun q1_8 => ?_)
  refine zi_put (pc := 10) (i := 0) K Rt lf_X8_7 rfl (fun C T N z => by cases z; rfl) rfl rfl (Nat.le_of_ble_eq_true rfl) dX8_init_10 ?_
  refine zi_aload_n (i := 0) (pc := 13) K dX8_init_13 rfl rfl ?_
  refine zi_bipush (v := 89) (pc := 14) K dX8_init_14 (by decide) ?_
  refine zi_newa (pc := 16) (atype := .int) (ty := .int) (kd := 0) (N := 89) (a0 := (89, .inl (fun _ => 0))) K rfl zi_ac0 rfl (fun C z => by cases z) (fun _ => rfl) (by decide) (by decide) (Nat.le_of_ble_eq_true rfl) (Nat.le_of_ble_eq_true rfl) (Nat.le_of_ble_eq_true rfl) dX8_init_16 (fun q2_16 => ?_)
  refine zi_put (pc := 18) (i := 0) K Rt lf_X8_64 rfl (fun C T N z => by cases z; rfl) rfl rfl (Nat.le_of_ble_eq_true rfl) dX8_init_18 ?_
  refine zi_aload_n (i := 0) (pc := 21) K dX8_init_21 rfl rfl ?_
  refine zi_bipush (v := 89) (pc := 22) K dX8_init_22 (by decide) ?_
  refine zi_newa (pc := 24) (atype := .int) (ty := .int) (kd := 0) (N := 89) (a0 := (89, .inl (fun _ => 0))) K rfl zi_ac0 rfl (fun C z => by cases z) (fun _ => rfl) (by decide) (by decide) (Nat.le_of_ble_eq_true rfl) (Nat.le_of_ble_eq_true rfl) (Nat.le_of_ble_eq_true rfl) dX8_init_24 (fun q3_24 => ?_)
  refine zi_put (pc := 26) (i := 0) K Rt lf_X8_67 rfl (fun C T N z => by cases z; rfl) rfl rfl (Nat.le_of_ble_eq_true rfl) dX8_init_26 ?_
  refine zi_aload_n (i := 0) (pc := 29) K dX8_init_29 rfl rfl ?_
  refine zi_bipush (v := 89) (pc := 30) K dX8_init_30 (by decide) ?_
  refine zi_newa (pc := 32) (atype := .int) (ty := .int) (kd := 0) (N := 89) (a0 := (89, .inl (fun _ => 0))) K rfl zi_ac0 rfl (fun C z => by cases z) (fun _ => rfl) (by decide) (by decide) (Nat.le_of_ble_eq_true rfl) (Nat.le_of_ble_eq_true rfl) (Nat.le_of_ble_eq_true rfl) dX8_init_32 (fun q4_32 => ?_)
  refine zi_put (pc := 34) (i := 0) K Rt lf_X8_70 rfl (fun C T N z => by cases z; rfl) rfl rfl (Nat.le_of_ble_eq_true rfl) dX8_init_34 ?_
  refine zi_aload_n (i := 0) (pc := 37) K dX8_init_37 rfl rfl ?_
  refine zi_sipush (v := 890) (pc := 38) K dX8_init_38 (by decide) ?_
  refine zi_newa (pc := 41) (atype := .int) (ty := .int) (kd := 0) (N := 890) (a0 := (890, .inl (fun _ => 0))) K rfl zi_ac0 rfl (fun C z => by cases z) (fun _ => rfl) (by decide) (by decide) (Nat.le_of_ble_eq_true rfl) (Nat.le_of_ble_eq_true rfl) (Nat.le_of_ble_eq_true rfl) dX8_init_41 (fun q5_41 => ?_)
  refine zi_put (pc := 43) (i := 0) K Rt lf_X8_73 rfl (fun C T N z => by cases z; rfl) rfl rfl (Nat.le_of_ble_eq_true rfl) dX8_init_43 ?_
  refine zi_aload_n (i := 0) (pc := 46) K dX8_init_46 rfl rfl ?_
  refine zi_bipush (v := 89) (pc := 47) K dX8_init_47 (by decide) ?_
  refine zi_newa (pc := 49) (atype := .int) (ty := .int) (kd := 0) (N := 89) (a0 := (89, .inl (fun _ => 0))) K rfl zi_ac0 rfl (fun C z => by cases z) (fun _ => rfl) (by decide) (by decide) (Nat.le_of_ble_eq_true rfl) (Nat.le_of_ble_eq_true rfl) (Nat.le_of_ble_eq_true rfl) dX8_init_49 (fun q6_49 => ?_)
  refine zi_put (pc := 51) (i := 0) K Rt lf_X8_76 rfl (fun C T N z => by cases z; rfl) rfl rfl (Nat.le_of_ble_eq_true rfl) dX8_init_51 ?_
  refine zi_aload_n (i := 0) (pc := 54) K dX8_init_54 rfl rfl ?_
  refine zi_bipush (v := 89) (pc := 55) K dX8_init_55 (by decide) ?_
  refine zi_newa (pc := 57) (atype := .int) (ty := .int) (kd := 0) (N := 89) (a0 := (89, .inl (fun _ => 0))) K rfl zi_ac0 rfl (fun C z => by cases z) (fun _ => rfl) (by decide) (by decide) (Nat.le_of_ble_eq_true rfl) (Nat.le_of_ble_eq_true rfl) (Nat.le_of_ble_eq_true rfl) dX8_init_57 (fun q7_57 => ?_)
  refine zi_put (pc := 59) (i := 0) K Rt lf_X8_79 rfl (fun C T N z => by cases z; rfl) rfl rfl (Nat.le_of_ble_eq_true rfl) dX8_init_59 ?_
  refine zi_aload_n (i := 0) (pc := 62) K dX8_init_62 rfl rfl ?_
  refine zi_bipush (v := 84) (pc := 63) K dX8_init_63 (by decide) ?_
  refine zi_newa (pc := 65) (atype := .int) (ty := .int) (kd := 0) (N := 84) (a0 := (84, .inl (fun _ => 0))) K rfl zi_ac0 rfl (fun C z => by cases z) (fun _ => rfl) (by decide) (by decide) (Nat.le_of_ble_eq_true rfl) (Nat.le_of_ble_eq_true rfl) (Nat.le_of_ble_eq_true rfl) dX8_init_65 (fun q8_65 => ?_)
  refine zi_put (pc := 67) (i := 0) K Rt lf_X8_82 rfl (fun C T N z => by cases z; rfl) rfl rfl (Nat.le_of_ble_eq_true rfl) dX8_init_67 ?_
  refine zi_aload_n (i := 0) (pc := 70) K dX8_init_70 rfl rfl ?_
  refine zi_bipush (v := 84) (pc := 71) K dX8_init_71 (by decide) ?_
  refine zi_newa (pc := 73) (atype := .int) (ty := .int) (kd := 0) (N := 84) (a0 := (84, .inl (fun _ => 0))) K rfl zi_ac0 rfl (fun C z => by cases z) (fun _ => rfl) (by decide) (by decide) (Nat.le_of_ble_eq_true rfl) (Nat.le_of_ble_eq_true rfl) (Nat.le_of_ble_eq_true rfl) dX8_init_73 (fun q9_73 => ?_)
  refine zi_put (pc := 75) (i := 0) K Rt lf_X8_85 rfl (fun C T N z => by cases z; rfl) rfl rfl (Nat.le_of_ble_eq_true rfl) dX8_init_75 ?_
  exact zi_ret (pc := 78) K Rt (Nat.le_of_ble_eq_true rfl) (Nat.le_of_ble_eq_true rfl) dX8_init_78 ⟨_, _, _, _, _, _, _, _, _, rfl⟩
