theorem zz_mi : Cond.initialized "java/lang/Math" ∈ zj_tbl := List.mem_filter.mpr ⟨List.mem_of_getElem? (i := 63) (by decide +kernel), by decide +kernel⟩
theorem zz_mins : Cond.static Lib.Math.min.name ∈ zj_tbl := List.mem_filter.mpr ⟨List.mem_of_getElem? (i := 387) (by decide +kernel), by decide +kernel⟩
theorem zz_minc : Cond.code Lib.Math.min.name Lib.Math.min.code 2 (some .int) ∈ zj_tbl := List.mem_filter.mpr ⟨List.mem_of_getElem? (i := 388) (by decide +kernel), by decide +kernel⟩
theorem lx_X4_153 : Cond.methodLink RX4 153 Lib.Math.min.name ∈ zj_tbl := List.mem_filter.mpr ⟨List.mem_of_getElem? (i := 386) (by decide +kernel), by decide +kernel⟩
theorem lx_X0_113 : Cond.methodLink RX0 113 Lib.Math.min.name ∈ zj_tbl := List.mem_filter.mpr ⟨List.mem_of_getElem? (i := 570) (by decide +kernel), by decide +kernel⟩
theorem lx_X3_29 : Cond.methodLink RX3 29 Lib.Math.min.name ∈ zj_tbl := List.mem_filter.mpr ⟨List.mem_of_getElem? (i := 684) (by decide +kernel), by decide +kernel⟩
theorem zz_maxs : Cond.static Lib.Math.max.name ∈ zj_tbl := List.mem_filter.mpr ⟨List.mem_of_getElem? (i := 608) (by decide +kernel), by decide +kernel⟩
theorem zz_maxc : Cond.code Lib.Math.max.name Lib.Math.max.code 2 (some .int) ∈ zj_tbl := List.mem_filter.mpr ⟨List.mem_of_getElem? (i := 609) (by decide +kernel), by decide +kernel⟩
theorem lx_X0_108 : Cond.methodLink RX0 108 Lib.Math.max.name ∈ zj_tbl := List.mem_filter.mpr ⟨List.mem_of_getElem? (i := 607) (by decide +kernel), by decide +kernel⟩
def zj_pI (r : Int32) (h1 : zj_H) (g1 : zj_G) : zj_P := fun v h' g' => v = some (.int r) ∧ h' = h1 ∧ g' = g1
def zj_pV (h1 : zj_H) (g1 : zj_G) : zj_P := fun v h' g' => v = none ∧ h' = h1 ∧ g' = g1
def zz_i : Bool → Int32
  | true => 1
  | false => 0
theorem zz_i0 {b : Bool} : zz_i b = 0 ↔ b = false := by cases b <;> decide
theorem zz_n0 {b : Bool} : ¬ zz_i b = 0 ↔ b = true := by cases b <;> decide
theorem zz_i1 {b : Bool} : zz_i b = 1 ↔ b = true := by cases b <;> decide
theorem zz_01 (b : Bool) : zz_i b = 0 ∨ zz_i b = 1 := by cases b <;> decide
section ZJ2
variable {E : zj_E} {Γ : zj_Γ} {cc : ByteArray} {nL d pc : Nat} {own : String} {L : List (Nat × Value)} {S : List Value} {h : zj_H} {g : zj_G}

theorem zj_cV0I (K : zj_C E Γ cc nL own d) {i ci index dd mL n : Nat} {fs : List (Nat ⊕ Bool)} {y : MethodName} {b : ByteArray} {ret : Option FieldType} {r : Int32} {h1 : zj_H} {g1 : zj_G} (hlk : zj_vl own index ci y b mL ret n) (hs : zj_at i (.inl (ci, fs))) (hM : zj_M Γ.2.1 E y b mL ret dd (.ref (E.2.1 i) :: []) h g (zj_pI r h1 g1)) (hdd : dd + 1 ≤ d) (hn : 0 = n) (hcat : (S.map fun v => v.category).sum ≤ 8) (hdg : decode cc pc = .ok (.invokevirtual index, 3)) (kk : zj_J E Γ nL (pc + 3) L (.int r :: S) h1 g1) : zj_J E Γ nL pc L (.ref (E.2.1 i) :: S) h g :=
  zj_callV (As := []) K hlk hs hM hdd hn hcat hdg (fun v h' g' hp => by obtain ⟨rfl, rfl, rfl⟩ := hp; exact kk)
theorem zj_cV0W (K : zj_C E Γ cc nL own d) {i ci index dd mL n : Nat} {fs : List (Nat ⊕ Bool)} {y : MethodName} {b : ByteArray} {ret : Option FieldType} {h1 : zj_H} {g1 : zj_G} (hlk : zj_vl own index ci y b mL ret n) (hs : zj_at i (.inl (ci, fs))) (hM : zj_M Γ.2.1 E y b mL ret dd (.ref (E.2.1 i) :: []) h g (zj_pV h1 g1)) (hdd : dd + 1 ≤ d) (hn : 0 = n) (hcat : (S.map fun v => v.category).sum ≤ 8) (hdg : decode cc pc = .ok (.invokevirtual index, 3)) (kk : zj_J E Γ nL (pc + 3) L S h1 g1) : zj_J E Γ nL pc L (.ref (E.2.1 i) :: S) h g :=
  zj_callV (As := []) K hlk hs hM hdd hn hcat hdg (fun v h' g' hp => by obtain ⟨rfl, rfl, rfl⟩ := hp; exact kk)
theorem zj_cV0P (K : zj_C E Γ cc nL own d) {i ci index dd mL n : Nat} {fs : List (Nat ⊕ Bool)} {y : MethodName} {b : ByteArray} {ret : Option FieldType} {Post : zj_P} (hlk : zj_vl own index ci y b mL ret n) (hs : zj_at i (.inl (ci, fs))) (hM : zj_M Γ.2.1 E y b mL ret dd (.ref (E.2.1 i) :: []) h g Post) (hdd : dd + 1 ≤ d) (hn : 0 = n) (hcat : (S.map fun v => v.category).sum ≤ 8) (hdg : decode cc pc = .ok (.invokevirtual index, 3)) (kk : ∀ v h' g', Post v h' g' → zj_J E Γ nL (pc + 3) L (v.toList ++ S) h' g') : zj_J E Γ nL pc L (.ref (E.2.1 i) :: S) h g :=
  zj_callV (As := []) K hlk hs hM hdd hn hcat hdg kk
theorem zj_cS0I (K : zj_C E Γ cc nL own d) {index dd mL n : Nat} {y : MethodName} {b : ByteArray} {ret : Option FieldType} {r : Int32} {h1 : zj_H} {g1 : zj_G} (hlk : zj_sl own index y b mL ret n) (hM : zj_M Γ.2.1 E y b mL ret dd [] h g (zj_pI r h1 g1)) (hdd : dd + 1 ≤ d) (hn : 0 = n) (hcat : (S.map fun v => v.category).sum ≤ 8) (hdg : decode cc pc = .ok (.invokestatic index, 3)) (kk : zj_J E Γ nL (pc + 3) L (.int r :: S) h1 g1) : zj_J E Γ nL pc L (S) h g :=
  zj_callS (As := []) K hlk hM hdd hn hcat hdg (fun v h' g' hp => by obtain ⟨rfl, rfl, rfl⟩ := hp; exact kk)
theorem zj_cS0W (K : zj_C E Γ cc nL own d) {index dd mL n : Nat} {y : MethodName} {b : ByteArray} {ret : Option FieldType} {h1 : zj_H} {g1 : zj_G} (hlk : zj_sl own index y b mL ret n) (hM : zj_M Γ.2.1 E y b mL ret dd [] h g (zj_pV h1 g1)) (hdd : dd + 1 ≤ d) (hn : 0 = n) (hcat : (S.map fun v => v.category).sum ≤ 8) (hdg : decode cc pc = .ok (.invokestatic index, 3)) (kk : zj_J E Γ nL (pc + 3) L S h1 g1) : zj_J E Γ nL pc L (S) h g :=
  zj_callS (As := []) K hlk hM hdd hn hcat hdg (fun v h' g' hp => by obtain ⟨rfl, rfl, rfl⟩ := hp; exact kk)
theorem zj_cS0P (K : zj_C E Γ cc nL own d) {index dd mL n : Nat} {y : MethodName} {b : ByteArray} {ret : Option FieldType} {Post : zj_P} (hlk : zj_sl own index y b mL ret n) (hM : zj_M Γ.2.1 E y b mL ret dd [] h g Post) (hdd : dd + 1 ≤ d) (hn : 0 = n) (hcat : (S.map fun v => v.category).sum ≤ 8) (hdg : decode cc pc = .ok (.invokestatic index, 3)) (kk : ∀ v h' g', Post v h' g' → zj_J E Γ nL (pc + 3) L (v.toList ++ S) h' g') : zj_J E Γ nL pc L (S) h g :=
  zj_callS (As := []) K hlk hM hdd hn hcat hdg kk
theorem zj_cN0I (K : zj_C E Γ cc nL own d) {index dd mL n : Nat} {y : MethodName} {b : ByteArray} {ret : Option FieldType} {r : Int32} {h1 : zj_H} {g1 : zj_G} (hlk : zj_nl own index y b mL ret n) (hM : zj_M Γ.2.1 E y b mL ret dd [] h g (zj_pI r h1 g1)) (hdd : dd + 1 ≤ d) (hn : 0 = n) (hcat : (S.map fun v => v.category).sum ≤ 8) (hdg : decode cc pc = .ok (.invokestatic index, 3)) (kk : zj_J E Γ nL (pc + 3) L (.int r :: S) h1 g1) : zj_J E Γ nL pc L (S) h g :=
  zj_callN (As := []) K hlk hM hdd hn hcat hdg (fun v h' g' hp => by obtain ⟨rfl, rfl, rfl⟩ := hp; exact kk)
theorem zj_cN0W (K : zj_C E Γ cc nL own d) {index dd mL n : Nat} {y : MethodName} {b : ByteArray} {ret : Option FieldType} {h1 : zj_H} {g1 : zj_G} (hlk : zj_nl own index y b mL ret n) (hM : zj_M Γ.2.1 E y b mL ret dd [] h g (zj_pV h1 g1)) (hdd : dd + 1 ≤ d) (hn : 0 = n) (hcat : (S.map fun v => v.category).sum ≤ 8) (hdg : decode cc pc = .ok (.invokestatic index, 3)) (kk : zj_J E Γ nL (pc + 3) L S h1 g1) : zj_J E Γ nL pc L (S) h g :=
  zj_callN (As := []) K hlk hM hdd hn hcat hdg (fun v h' g' hp => by obtain ⟨rfl, rfl, rfl⟩ := hp; exact kk)
theorem zj_cN0P (K : zj_C E Γ cc nL own d) {index dd mL n : Nat} {y : MethodName} {b : ByteArray} {ret : Option FieldType} {Post : zj_P} (hlk : zj_nl own index y b mL ret n) (hM : zj_M Γ.2.1 E y b mL ret dd [] h g Post) (hdd : dd + 1 ≤ d) (hn : 0 = n) (hcat : (S.map fun v => v.category).sum ≤ 8) (hdg : decode cc pc = .ok (.invokestatic index, 3)) (kk : ∀ v h' g', Post v h' g' → zj_J E Γ nL (pc + 3) L (v.toList ++ S) h' g') : zj_J E Γ nL pc L (S) h g :=
  zj_callN (As := []) K hlk hM hdd hn hcat hdg kk
theorem zj_cV1I (K : zj_C E Γ cc nL own d) {i ci index dd mL n : Nat} {fs : List (Nat ⊕ Bool)} {v1 : Value} {y : MethodName} {b : ByteArray} {ret : Option FieldType} {r : Int32} {h1 : zj_H} {g1 : zj_G} (hlk : zj_vl own index ci y b mL ret n) (hs : zj_at i (.inl (ci, fs))) (hM : zj_M Γ.2.1 E y b mL ret dd (.ref (E.2.1 i) :: [v1]) h g (zj_pI r h1 g1)) (hdd : dd + 1 ≤ d) (hn : 1 = n) (hcat : (S.map fun v => v.category).sum ≤ 8) (hdg : decode cc pc = .ok (.invokevirtual index, 3)) (kk : zj_J E Γ nL (pc + 3) L (.int r :: S) h1 g1) : zj_J E Γ nL pc L (v1 :: .ref (E.2.1 i) :: S) h g :=
  zj_callV (As := [v1]) K hlk hs hM hdd hn hcat hdg (fun v h' g' hp => by obtain ⟨rfl, rfl, rfl⟩ := hp; exact kk)
theorem zj_cV1W (K : zj_C E Γ cc nL own d) {i ci index dd mL n : Nat} {fs : List (Nat ⊕ Bool)} {v1 : Value} {y : MethodName} {b : ByteArray} {ret : Option FieldType} {h1 : zj_H} {g1 : zj_G} (hlk : zj_vl own index ci y b mL ret n) (hs : zj_at i (.inl (ci, fs))) (hM : zj_M Γ.2.1 E y b mL ret dd (.ref (E.2.1 i) :: [v1]) h g (zj_pV h1 g1)) (hdd : dd + 1 ≤ d) (hn : 1 = n) (hcat : (S.map fun v => v.category).sum ≤ 8) (hdg : decode cc pc = .ok (.invokevirtual index, 3)) (kk : zj_J E Γ nL (pc + 3) L S h1 g1) : zj_J E Γ nL pc L (v1 :: .ref (E.2.1 i) :: S) h g :=
  zj_callV (As := [v1]) K hlk hs hM hdd hn hcat hdg (fun v h' g' hp => by obtain ⟨rfl, rfl, rfl⟩ := hp; exact kk)
theorem zj_cV1P (K : zj_C E Γ cc nL own d) {i ci index dd mL n : Nat} {fs : List (Nat ⊕ Bool)} {v1 : Value} {y : MethodName} {b : ByteArray} {ret : Option FieldType} {Post : zj_P} (hlk : zj_vl own index ci y b mL ret n) (hs : zj_at i (.inl (ci, fs))) (hM : zj_M Γ.2.1 E y b mL ret dd (.ref (E.2.1 i) :: [v1]) h g Post) (hdd : dd + 1 ≤ d) (hn : 1 = n) (hcat : (S.map fun v => v.category).sum ≤ 8) (hdg : decode cc pc = .ok (.invokevirtual index, 3)) (kk : ∀ v h' g', Post v h' g' → zj_J E Γ nL (pc + 3) L (v.toList ++ S) h' g') : zj_J E Γ nL pc L (v1 :: .ref (E.2.1 i) :: S) h g :=
  zj_callV (As := [v1]) K hlk hs hM hdd hn hcat hdg kk
theorem zj_cS1I (K : zj_C E Γ cc nL own d) {index dd mL n : Nat} {v1 : Value} {y : MethodName} {b : ByteArray} {ret : Option FieldType} {r : Int32} {h1 : zj_H} {g1 : zj_G} (hlk : zj_sl own index y b mL ret n) (hM : zj_M Γ.2.1 E y b mL ret dd [v1] h g (zj_pI r h1 g1)) (hdd : dd + 1 ≤ d) (hn : 1 = n) (hcat : (S.map fun v => v.category).sum ≤ 8) (hdg : decode cc pc = .ok (.invokestatic index, 3)) (kk : zj_J E Γ nL (pc + 3) L (.int r :: S) h1 g1) : zj_J E Γ nL pc L (v1 :: S) h g :=
  zj_callS (As := [v1]) K hlk hM hdd hn hcat hdg (fun v h' g' hp => by obtain ⟨rfl, rfl, rfl⟩ := hp; exact kk)
theorem zj_cS1W (K : zj_C E Γ cc nL own d) {index dd mL n : Nat} {v1 : Value} {y : MethodName} {b : ByteArray} {ret : Option FieldType} {h1 : zj_H} {g1 : zj_G} (hlk : zj_sl own index y b mL ret n) (hM : zj_M Γ.2.1 E y b mL ret dd [v1] h g (zj_pV h1 g1)) (hdd : dd + 1 ≤ d) (hn : 1 = n) (hcat : (S.map fun v => v.category).sum ≤ 8) (hdg : decode cc pc = .ok (.invokestatic index, 3)) (kk : zj_J E Γ nL (pc + 3) L S h1 g1) : zj_J E Γ nL pc L (v1 :: S) h g :=
  zj_callS (As := [v1]) K hlk hM hdd hn hcat hdg (fun v h' g' hp => by obtain ⟨rfl, rfl, rfl⟩ := hp; exact kk)
theorem zj_cS1P (K : zj_C E Γ cc nL own d) {index dd mL n : Nat} {v1 : Value} {y : MethodName} {b : ByteArray} {ret : Option FieldType} {Post : zj_P} (hlk : zj_sl own index y b mL ret n) (hM : zj_M Γ.2.1 E y b mL ret dd [v1] h g Post) (hdd : dd + 1 ≤ d) (hn : 1 = n) (hcat : (S.map fun v => v.category).sum ≤ 8) (hdg : decode cc pc = .ok (.invokestatic index, 3)) (kk : ∀ v h' g', Post v h' g' → zj_J E Γ nL (pc + 3) L (v.toList ++ S) h' g') : zj_J E Γ nL pc L (v1 :: S) h g :=
  zj_callS (As := [v1]) K hlk hM hdd hn hcat hdg kk
theorem zj_cN1I (K : zj_C E Γ cc nL own d) {index dd mL n : Nat} {v1 : Value} {y : MethodName} {b : ByteArray} {ret : Option FieldType} {r : Int32} {h1 : zj_H} {g1 : zj_G} (hlk : zj_nl own index y b mL ret n) (hM : zj_M Γ.2.1 E y b mL ret dd [v1] h g (zj_pI r h1 g1)) (hdd : dd + 1 ≤ d) (hn : 1 = n) (hcat : (S.map fun v => v.category).sum ≤ 8) (hdg : decode cc pc = .ok (.invokestatic index, 3)) (kk : zj_J E Γ nL (pc + 3) L (.int r :: S) h1 g1) : zj_J E Γ nL pc L (v1 :: S) h g :=
  zj_callN (As := [v1]) K hlk hM hdd hn hcat hdg (fun v h' g' hp => by obtain ⟨rfl, rfl, rfl⟩ := hp; exact kk)
theorem zj_cN1W (K : zj_C E Γ cc nL own d) {index dd mL n : Nat} {v1 : Value} {y : MethodName} {b : ByteArray} {ret : Option FieldType} {h1 : zj_H} {g1 : zj_G} (hlk : zj_nl own index y b mL ret n) (hM : zj_M Γ.2.1 E y b mL ret dd [v1] h g (zj_pV h1 g1)) (hdd : dd + 1 ≤ d) (hn : 1 = n) (hcat : (S.map fun v => v.category).sum ≤ 8) (hdg : decode cc pc = .ok (.invokestatic index, 3)) (kk : zj_J E Γ nL (pc + 3) L S h1 g1) : zj_J E Γ nL pc L (v1 :: S) h g :=
  zj_callN (As := [v1]) K hlk hM hdd hn hcat hdg (fun v h' g' hp => by obtain ⟨rfl, rfl, rfl⟩ := hp; exact kk)
theorem zj_cN1P (K : zj_C E Γ cc nL own d) {index dd mL n : Nat} {v1 : Value} {y : MethodName} {b : ByteArray} {ret : Option FieldType} {Post : zj_P} (hlk : zj_nl own index y b mL ret n) (hM : zj_M Γ.2.1 E y b mL ret dd [v1] h g Post) (hdd : dd + 1 ≤ d) (hn : 1 = n) (hcat : (S.map fun v => v.category).sum ≤ 8) (hdg : decode cc pc = .ok (.invokestatic index, 3)) (kk : ∀ v h' g', Post v h' g' → zj_J E Γ nL (pc + 3) L (v.toList ++ S) h' g') : zj_J E Γ nL pc L (v1 :: S) h g :=
  zj_callN (As := [v1]) K hlk hM hdd hn hcat hdg kk
theorem zj_cV2I (K : zj_C E Γ cc nL own d) {i ci index dd mL n : Nat} {fs : List (Nat ⊕ Bool)} {v1 v2 : Value} {y : MethodName} {b : ByteArray} {ret : Option FieldType} {r : Int32} {h1 : zj_H} {g1 : zj_G} (hlk : zj_vl own index ci y b mL ret n) (hs : zj_at i (.inl (ci, fs))) (hM : zj_M Γ.2.1 E y b mL ret dd (.ref (E.2.1 i) :: [v1, v2]) h g (zj_pI r h1 g1)) (hdd : dd + 1 ≤ d) (hn : 2 = n) (hcat : (S.map fun v => v.category).sum ≤ 8) (hdg : decode cc pc = .ok (.invokevirtual index, 3)) (kk : zj_J E Γ nL (pc + 3) L (.int r :: S) h1 g1) : zj_J E Γ nL pc L (v2 :: v1 :: .ref (E.2.1 i) :: S) h g :=
  zj_callV (As := [v1, v2]) K hlk hs hM hdd hn hcat hdg (fun v h' g' hp => by obtain ⟨rfl, rfl, rfl⟩ := hp; exact kk)
theorem zj_cV2W (K : zj_C E Γ cc nL own d) {i ci index dd mL n : Nat} {fs : List (Nat ⊕ Bool)} {v1 v2 : Value} {y : MethodName} {b : ByteArray} {ret : Option FieldType} {h1 : zj_H} {g1 : zj_G} (hlk : zj_vl own index ci y b mL ret n) (hs : zj_at i (.inl (ci, fs))) (hM : zj_M Γ.2.1 E y b mL ret dd (.ref (E.2.1 i) :: [v1, v2]) h g (zj_pV h1 g1)) (hdd : dd + 1 ≤ d) (hn : 2 = n) (hcat : (S.map fun v => v.category).sum ≤ 8) (hdg : decode cc pc = .ok (.invokevirtual index, 3)) (kk : zj_J E Γ nL (pc + 3) L S h1 g1) : zj_J E Γ nL pc L (v2 :: v1 :: .ref (E.2.1 i) :: S) h g :=
  zj_callV (As := [v1, v2]) K hlk hs hM hdd hn hcat hdg (fun v h' g' hp => by obtain ⟨rfl, rfl, rfl⟩ := hp; exact kk)
theorem zj_cV2P (K : zj_C E Γ cc nL own d) {i ci index dd mL n : Nat} {fs : List (Nat ⊕ Bool)} {v1 v2 : Value} {y : MethodName} {b : ByteArray} {ret : Option FieldType} {Post : zj_P} (hlk : zj_vl own index ci y b mL ret n) (hs : zj_at i (.inl (ci, fs))) (hM : zj_M Γ.2.1 E y b mL ret dd (.ref (E.2.1 i) :: [v1, v2]) h g Post) (hdd : dd + 1 ≤ d) (hn : 2 = n) (hcat : (S.map fun v => v.category).sum ≤ 8) (hdg : decode cc pc = .ok (.invokevirtual index, 3)) (kk : ∀ v h' g', Post v h' g' → zj_J E Γ nL (pc + 3) L (v.toList ++ S) h' g') : zj_J E Γ nL pc L (v2 :: v1 :: .ref (E.2.1 i) :: S) h g :=
  zj_callV (As := [v1, v2]) K hlk hs hM hdd hn hcat hdg kk
theorem zj_cS2I (K : zj_C E Γ cc nL own d) {index dd mL n : Nat} {v1 v2 : Value} {y : MethodName} {b : ByteArray} {ret : Option FieldType} {r : Int32} {h1 : zj_H} {g1 : zj_G} (hlk : zj_sl own index y b mL ret n) (hM : zj_M Γ.2.1 E y b mL ret dd [v1, v2] h g (zj_pI r h1 g1)) (hdd : dd + 1 ≤ d) (hn : 2 = n) (hcat : (S.map fun v => v.category).sum ≤ 8) (hdg : decode cc pc = .ok (.invokestatic index, 3)) (kk : zj_J E Γ nL (pc + 3) L (.int r :: S) h1 g1) : zj_J E Γ nL pc L (v2 :: v1 :: S) h g :=
  zj_callS (As := [v1, v2]) K hlk hM hdd hn hcat hdg (fun v h' g' hp => by obtain ⟨rfl, rfl, rfl⟩ := hp; exact kk)
theorem zj_cS2W (K : zj_C E Γ cc nL own d) {index dd mL n : Nat} {v1 v2 : Value} {y : MethodName} {b : ByteArray} {ret : Option FieldType} {h1 : zj_H} {g1 : zj_G} (hlk : zj_sl own index y b mL ret n) (hM : zj_M Γ.2.1 E y b mL ret dd [v1, v2] h g (zj_pV h1 g1)) (hdd : dd + 1 ≤ d) (hn : 2 = n) (hcat : (S.map fun v => v.category).sum ≤ 8) (hdg : decode cc pc = .ok (.invokestatic index, 3)) (kk : zj_J E Γ nL (pc + 3) L S h1 g1) : zj_J E Γ nL pc L (v2 :: v1 :: S) h g :=
  zj_callS (As := [v1, v2]) K hlk hM hdd hn hcat hdg (fun v h' g' hp => by obtain ⟨rfl, rfl, rfl⟩ := hp; exact kk)
theorem zj_cS2P (K : zj_C E Γ cc nL own d) {index dd mL n : Nat} {v1 v2 : Value} {y : MethodName} {b : ByteArray} {ret : Option FieldType} {Post : zj_P} (hlk : zj_sl own index y b mL ret n) (hM : zj_M Γ.2.1 E y b mL ret dd [v1, v2] h g Post) (hdd : dd + 1 ≤ d) (hn : 2 = n) (hcat : (S.map fun v => v.category).sum ≤ 8) (hdg : decode cc pc = .ok (.invokestatic index, 3)) (kk : ∀ v h' g', Post v h' g' → zj_J E Γ nL (pc + 3) L (v.toList ++ S) h' g') : zj_J E Γ nL pc L (v2 :: v1 :: S) h g :=
  zj_callS (As := [v1, v2]) K hlk hM hdd hn hcat hdg kk
theorem zj_cN2I (K : zj_C E Γ cc nL own d) {index dd mL n : Nat} {v1 v2 : Value} {y : MethodName} {b : ByteArray} {ret : Option FieldType} {r : Int32} {h1 : zj_H} {g1 : zj_G} (hlk : zj_nl own index y b mL ret n) (hM : zj_M Γ.2.1 E y b mL ret dd [v1, v2] h g (zj_pI r h1 g1)) (hdd : dd + 1 ≤ d) (hn : 2 = n) (hcat : (S.map fun v => v.category).sum ≤ 8) (hdg : decode cc pc = .ok (.invokestatic index, 3)) (kk : zj_J E Γ nL (pc + 3) L (.int r :: S) h1 g1) : zj_J E Γ nL pc L (v2 :: v1 :: S) h g :=
  zj_callN (As := [v1, v2]) K hlk hM hdd hn hcat hdg (fun v h' g' hp => by obtain ⟨rfl, rfl, rfl⟩ := hp; exact kk)
theorem zj_cN2W (K : zj_C E Γ cc nL own d) {index dd mL n : Nat} {v1 v2 : Value} {y : MethodName} {b : ByteArray} {ret : Option FieldType} {h1 : zj_H} {g1 : zj_G} (hlk : zj_nl own index y b mL ret n) (hM : zj_M Γ.2.1 E y b mL ret dd [v1, v2] h g (zj_pV h1 g1)) (hdd : dd + 1 ≤ d) (hn : 2 = n) (hcat : (S.map fun v => v.category).sum ≤ 8) (hdg : decode cc pc = .ok (.invokestatic index, 3)) (kk : zj_J E Γ nL (pc + 3) L S h1 g1) : zj_J E Γ nL pc L (v2 :: v1 :: S) h g :=
  zj_callN (As := [v1, v2]) K hlk hM hdd hn hcat hdg (fun v h' g' hp => by obtain ⟨rfl, rfl, rfl⟩ := hp; exact kk)
theorem zj_cN2P (K : zj_C E Γ cc nL own d) {index dd mL n : Nat} {v1 v2 : Value} {y : MethodName} {b : ByteArray} {ret : Option FieldType} {Post : zj_P} (hlk : zj_nl own index y b mL ret n) (hM : zj_M Γ.2.1 E y b mL ret dd [v1, v2] h g Post) (hdd : dd + 1 ≤ d) (hn : 2 = n) (hcat : (S.map fun v => v.category).sum ≤ 8) (hdg : decode cc pc = .ok (.invokestatic index, 3)) (kk : ∀ v h' g', Post v h' g' → zj_J E Γ nL (pc + 3) L (v.toList ++ S) h' g') : zj_J E Γ nL pc L (v2 :: v1 :: S) h g :=
  zj_callN (As := [v1, v2]) K hlk hM hdd hn hcat hdg kk
theorem zj_cV3I (K : zj_C E Γ cc nL own d) {i ci index dd mL n : Nat} {fs : List (Nat ⊕ Bool)} {v1 v2 v3 : Value} {y : MethodName} {b : ByteArray} {ret : Option FieldType} {r : Int32} {h1 : zj_H} {g1 : zj_G} (hlk : zj_vl own index ci y b mL ret n) (hs : zj_at i (.inl (ci, fs))) (hM : zj_M Γ.2.1 E y b mL ret dd (.ref (E.2.1 i) :: [v1, v2, v3]) h g (zj_pI r h1 g1)) (hdd : dd + 1 ≤ d) (hn : 3 = n) (hcat : (S.map fun v => v.category).sum ≤ 8) (hdg : decode cc pc = .ok (.invokevirtual index, 3)) (kk : zj_J E Γ nL (pc + 3) L (.int r :: S) h1 g1) : zj_J E Γ nL pc L (v3 :: v2 :: v1 :: .ref (E.2.1 i) :: S) h g :=
  zj_callV (As := [v1, v2, v3]) K hlk hs hM hdd hn hcat hdg (fun v h' g' hp => by obtain ⟨rfl, rfl, rfl⟩ := hp; exact kk)
theorem zj_cV3W (K : zj_C E Γ cc nL own d) {i ci index dd mL n : Nat} {fs : List (Nat ⊕ Bool)} {v1 v2 v3 : Value} {y : MethodName} {b : ByteArray} {ret : Option FieldType} {h1 : zj_H} {g1 : zj_G} (hlk : zj_vl own index ci y b mL ret n) (hs : zj_at i (.inl (ci, fs))) (hM : zj_M Γ.2.1 E y b mL ret dd (.ref (E.2.1 i) :: [v1, v2, v3]) h g (zj_pV h1 g1)) (hdd : dd + 1 ≤ d) (hn : 3 = n) (hcat : (S.map fun v => v.category).sum ≤ 8) (hdg : decode cc pc = .ok (.invokevirtual index, 3)) (kk : zj_J E Γ nL (pc + 3) L S h1 g1) : zj_J E Γ nL pc L (v3 :: v2 :: v1 :: .ref (E.2.1 i) :: S) h g :=
  zj_callV (As := [v1, v2, v3]) K hlk hs hM hdd hn hcat hdg (fun v h' g' hp => by obtain ⟨rfl, rfl, rfl⟩ := hp; exact kk)
theorem zj_cV3P (K : zj_C E Γ cc nL own d) {i ci index dd mL n : Nat} {fs : List (Nat ⊕ Bool)} {v1 v2 v3 : Value} {y : MethodName} {b : ByteArray} {ret : Option FieldType} {Post : zj_P} (hlk : zj_vl own index ci y b mL ret n) (hs : zj_at i (.inl (ci, fs))) (hM : zj_M Γ.2.1 E y b mL ret dd (.ref (E.2.1 i) :: [v1, v2, v3]) h g Post) (hdd : dd + 1 ≤ d) (hn : 3 = n) (hcat : (S.map fun v => v.category).sum ≤ 8) (hdg : decode cc pc = .ok (.invokevirtual index, 3)) (kk : ∀ v h' g', Post v h' g' → zj_J E Γ nL (pc + 3) L (v.toList ++ S) h' g') : zj_J E Γ nL pc L (v3 :: v2 :: v1 :: .ref (E.2.1 i) :: S) h g :=
  zj_callV (As := [v1, v2, v3]) K hlk hs hM hdd hn hcat hdg kk
theorem zj_cS3I (K : zj_C E Γ cc nL own d) {index dd mL n : Nat} {v1 v2 v3 : Value} {y : MethodName} {b : ByteArray} {ret : Option FieldType} {r : Int32} {h1 : zj_H} {g1 : zj_G} (hlk : zj_sl own index y b mL ret n) (hM : zj_M Γ.2.1 E y b mL ret dd [v1, v2, v3] h g (zj_pI r h1 g1)) (hdd : dd + 1 ≤ d) (hn : 3 = n) (hcat : (S.map fun v => v.category).sum ≤ 8) (hdg : decode cc pc = .ok (.invokestatic index, 3)) (kk : zj_J E Γ nL (pc + 3) L (.int r :: S) h1 g1) : zj_J E Γ nL pc L (v3 :: v2 :: v1 :: S) h g :=
  zj_callS (As := [v1, v2, v3]) K hlk hM hdd hn hcat hdg (fun v h' g' hp => by obtain ⟨rfl, rfl, rfl⟩ := hp; exact kk)
theorem zj_cS3W (K : zj_C E Γ cc nL own d) {index dd mL n : Nat} {v1 v2 v3 : Value} {y : MethodName} {b : ByteArray} {ret : Option FieldType} {h1 : zj_H} {g1 : zj_G} (hlk : zj_sl own index y b mL ret n) (hM : zj_M Γ.2.1 E y b mL ret dd [v1, v2, v3] h g (zj_pV h1 g1)) (hdd : dd + 1 ≤ d) (hn : 3 = n) (hcat : (S.map fun v => v.category).sum ≤ 8) (hdg : decode cc pc = .ok (.invokestatic index, 3)) (kk : zj_J E Γ nL (pc + 3) L S h1 g1) : zj_J E Γ nL pc L (v3 :: v2 :: v1 :: S) h g :=
  zj_callS (As := [v1, v2, v3]) K hlk hM hdd hn hcat hdg (fun v h' g' hp => by obtain ⟨rfl, rfl, rfl⟩ := hp; exact kk)
theorem zj_cS3P (K : zj_C E Γ cc nL own d) {index dd mL n : Nat} {v1 v2 v3 : Value} {y : MethodName} {b : ByteArray} {ret : Option FieldType} {Post : zj_P} (hlk : zj_sl own index y b mL ret n) (hM : zj_M Γ.2.1 E y b mL ret dd [v1, v2, v3] h g Post) (hdd : dd + 1 ≤ d) (hn : 3 = n) (hcat : (S.map fun v => v.category).sum ≤ 8) (hdg : decode cc pc = .ok (.invokestatic index, 3)) (kk : ∀ v h' g', Post v h' g' → zj_J E Γ nL (pc + 3) L (v.toList ++ S) h' g') : zj_J E Γ nL pc L (v3 :: v2 :: v1 :: S) h g :=
  zj_callS (As := [v1, v2, v3]) K hlk hM hdd hn hcat hdg kk
theorem zj_cN3I (K : zj_C E Γ cc nL own d) {index dd mL n : Nat} {v1 v2 v3 : Value} {y : MethodName} {b : ByteArray} {ret : Option FieldType} {r : Int32} {h1 : zj_H} {g1 : zj_G} (hlk : zj_nl own index y b mL ret n) (hM : zj_M Γ.2.1 E y b mL ret dd [v1, v2, v3] h g (zj_pI r h1 g1)) (hdd : dd + 1 ≤ d) (hn : 3 = n) (hcat : (S.map fun v => v.category).sum ≤ 8) (hdg : decode cc pc = .ok (.invokestatic index, 3)) (kk : zj_J E Γ nL (pc + 3) L (.int r :: S) h1 g1) : zj_J E Γ nL pc L (v3 :: v2 :: v1 :: S) h g :=
  zj_callN (As := [v1, v2, v3]) K hlk hM hdd hn hcat hdg (fun v h' g' hp => by obtain ⟨rfl, rfl, rfl⟩ := hp; exact kk)
theorem zj_cN3W (K : zj_C E Γ cc nL own d) {index dd mL n : Nat} {v1 v2 v3 : Value} {y : MethodName} {b : ByteArray} {ret : Option FieldType} {h1 : zj_H} {g1 : zj_G} (hlk : zj_nl own index y b mL ret n) (hM : zj_M Γ.2.1 E y b mL ret dd [v1, v2, v3] h g (zj_pV h1 g1)) (hdd : dd + 1 ≤ d) (hn : 3 = n) (hcat : (S.map fun v => v.category).sum ≤ 8) (hdg : decode cc pc = .ok (.invokestatic index, 3)) (kk : zj_J E Γ nL (pc + 3) L S h1 g1) : zj_J E Γ nL pc L (v3 :: v2 :: v1 :: S) h g :=
  zj_callN (As := [v1, v2, v3]) K hlk hM hdd hn hcat hdg (fun v h' g' hp => by obtain ⟨rfl, rfl, rfl⟩ := hp; exact kk)
theorem zj_cN3P (K : zj_C E Γ cc nL own d) {index dd mL n : Nat} {v1 v2 v3 : Value} {y : MethodName} {b : ByteArray} {ret : Option FieldType} {Post : zj_P} (hlk : zj_nl own index y b mL ret n) (hM : zj_M Γ.2.1 E y b mL ret dd [v1, v2, v3] h g Post) (hdd : dd + 1 ≤ d) (hn : 3 = n) (hcat : (S.map fun v => v.category).sum ≤ 8) (hdg : decode cc pc = .ok (.invokestatic index, 3)) (kk : ∀ v h' g', Post v h' g' → zj_J E Γ nL (pc + 3) L (v.toList ++ S) h' g') : zj_J E Γ nL pc L (v3 :: v2 :: v1 :: S) h g :=
  zj_callN (As := [v1, v2, v3]) K hlk hM hdd hn hcat hdg kk
theorem zj_cV4I (K : zj_C E Γ cc nL own d) {i ci index dd mL n : Nat} {fs : List (Nat ⊕ Bool)} {v1 v2 v3 v4 : Value} {y : MethodName} {b : ByteArray} {ret : Option FieldType} {r : Int32} {h1 : zj_H} {g1 : zj_G} (hlk : zj_vl own index ci y b mL ret n) (hs : zj_at i (.inl (ci, fs))) (hM : zj_M Γ.2.1 E y b mL ret dd (.ref (E.2.1 i) :: [v1, v2, v3, v4]) h g (zj_pI r h1 g1)) (hdd : dd + 1 ≤ d) (hn : 4 = n) (hcat : (S.map fun v => v.category).sum ≤ 8) (hdg : decode cc pc = .ok (.invokevirtual index, 3)) (kk : zj_J E Γ nL (pc + 3) L (.int r :: S) h1 g1) : zj_J E Γ nL pc L (v4 :: v3 :: v2 :: v1 :: .ref (E.2.1 i) :: S) h g :=
  zj_callV (As := [v1, v2, v3, v4]) K hlk hs hM hdd hn hcat hdg (fun v h' g' hp => by obtain ⟨rfl, rfl, rfl⟩ := hp; exact kk)
theorem zj_cV4W (K : zj_C E Γ cc nL own d) {i ci index dd mL n : Nat} {fs : List (Nat ⊕ Bool)} {v1 v2 v3 v4 : Value} {y : MethodName} {b : ByteArray} {ret : Option FieldType} {h1 : zj_H} {g1 : zj_G} (hlk : zj_vl own index ci y b mL ret n) (hs : zj_at i (.inl (ci, fs))) (hM : zj_M Γ.2.1 E y b mL ret dd (.ref (E.2.1 i) :: [v1, v2, v3, v4]) h g (zj_pV h1 g1)) (hdd : dd + 1 ≤ d) (hn : 4 = n) (hcat : (S.map fun v => v.category).sum ≤ 8) (hdg : decode cc pc = .ok (.invokevirtual index, 3)) (kk : zj_J E Γ nL (pc + 3) L S h1 g1) : zj_J E Γ nL pc L (v4 :: v3 :: v2 :: v1 :: .ref (E.2.1 i) :: S) h g :=
  zj_callV (As := [v1, v2, v3, v4]) K hlk hs hM hdd hn hcat hdg (fun v h' g' hp => by obtain ⟨rfl, rfl, rfl⟩ := hp; exact kk)
theorem zj_cV4P (K : zj_C E Γ cc nL own d) {i ci index dd mL n : Nat} {fs : List (Nat ⊕ Bool)} {v1 v2 v3 v4 : Value} {y : MethodName} {b : ByteArray} {ret : Option FieldType} {Post : zj_P} (hlk : zj_vl own index ci y b mL ret n) (hs : zj_at i (.inl (ci, fs))) (hM : zj_M Γ.2.1 E y b mL ret dd (.ref (E.2.1 i) :: [v1, v2, v3, v4]) h g Post) (hdd : dd + 1 ≤ d) (hn : 4 = n) (hcat : (S.map fun v => v.category).sum ≤ 8) (hdg : decode cc pc = .ok (.invokevirtual index, 3)) (kk : ∀ v h' g', Post v h' g' → zj_J E Γ nL (pc + 3) L (v.toList ++ S) h' g') : zj_J E Γ nL pc L (v4 :: v3 :: v2 :: v1 :: .ref (E.2.1 i) :: S) h g :=
  zj_callV (As := [v1, v2, v3, v4]) K hlk hs hM hdd hn hcat hdg kk
theorem zj_cS4I (K : zj_C E Γ cc nL own d) {index dd mL n : Nat} {v1 v2 v3 v4 : Value} {y : MethodName} {b : ByteArray} {ret : Option FieldType} {r : Int32} {h1 : zj_H} {g1 : zj_G} (hlk : zj_sl own index y b mL ret n) (hM : zj_M Γ.2.1 E y b mL ret dd [v1, v2, v3, v4] h g (zj_pI r h1 g1)) (hdd : dd + 1 ≤ d) (hn : 4 = n) (hcat : (S.map fun v => v.category).sum ≤ 8) (hdg : decode cc pc = .ok (.invokestatic index, 3)) (kk : zj_J E Γ nL (pc + 3) L (.int r :: S) h1 g1) : zj_J E Γ nL pc L (v4 :: v3 :: v2 :: v1 :: S) h g :=
  zj_callS (As := [v1, v2, v3, v4]) K hlk hM hdd hn hcat hdg (fun v h' g' hp => by obtain ⟨rfl, rfl, rfl⟩ := hp; exact kk)
theorem zj_cS4W (K : zj_C E Γ cc nL own d) {index dd mL n : Nat} {v1 v2 v3 v4 : Value} {y : MethodName} {b : ByteArray} {ret : Option FieldType} {h1 : zj_H} {g1 : zj_G} (hlk : zj_sl own index y b mL ret n) (hM : zj_M Γ.2.1 E y b mL ret dd [v1, v2, v3, v4] h g (zj_pV h1 g1)) (hdd : dd + 1 ≤ d) (hn : 4 = n) (hcat : (S.map fun v => v.category).sum ≤ 8) (hdg : decode cc pc = .ok (.invokestatic index, 3)) (kk : zj_J E Γ nL (pc + 3) L S h1 g1) : zj_J E Γ nL pc L (v4 :: v3 :: v2 :: v1 :: S) h g :=
  zj_callS (As := [v1, v2, v3, v4]) K hlk hM hdd hn hcat hdg (fun v h' g' hp => by obtain ⟨rfl, rfl, rfl⟩ := hp; exact kk)
theorem zj_cS4P (K : zj_C E Γ cc nL own d) {index dd mL n : Nat} {v1 v2 v3 v4 : Value} {y : MethodName} {b : ByteArray} {ret : Option FieldType} {Post : zj_P} (hlk : zj_sl own index y b mL ret n) (hM : zj_M Γ.2.1 E y b mL ret dd [v1, v2, v3, v4] h g Post) (hdd : dd + 1 ≤ d) (hn : 4 = n) (hcat : (S.map fun v => v.category).sum ≤ 8) (hdg : decode cc pc = .ok (.invokestatic index, 3)) (kk : ∀ v h' g', Post v h' g' → zj_J E Γ nL (pc + 3) L (v.toList ++ S) h' g') : zj_J E Γ nL pc L (v4 :: v3 :: v2 :: v1 :: S) h g :=
  zj_callS (As := [v1, v2, v3, v4]) K hlk hM hdd hn hcat hdg kk
theorem zj_cN4I (K : zj_C E Γ cc nL own d) {index dd mL n : Nat} {v1 v2 v3 v4 : Value} {y : MethodName} {b : ByteArray} {ret : Option FieldType} {r : Int32} {h1 : zj_H} {g1 : zj_G} (hlk : zj_nl own index y b mL ret n) (hM : zj_M Γ.2.1 E y b mL ret dd [v1, v2, v3, v4] h g (zj_pI r h1 g1)) (hdd : dd + 1 ≤ d) (hn : 4 = n) (hcat : (S.map fun v => v.category).sum ≤ 8) (hdg : decode cc pc = .ok (.invokestatic index, 3)) (kk : zj_J E Γ nL (pc + 3) L (.int r :: S) h1 g1) : zj_J E Γ nL pc L (v4 :: v3 :: v2 :: v1 :: S) h g :=
  zj_callN (As := [v1, v2, v3, v4]) K hlk hM hdd hn hcat hdg (fun v h' g' hp => by obtain ⟨rfl, rfl, rfl⟩ := hp; exact kk)
theorem zj_cN4W (K : zj_C E Γ cc nL own d) {index dd mL n : Nat} {v1 v2 v3 v4 : Value} {y : MethodName} {b : ByteArray} {ret : Option FieldType} {h1 : zj_H} {g1 : zj_G} (hlk : zj_nl own index y b mL ret n) (hM : zj_M Γ.2.1 E y b mL ret dd [v1, v2, v3, v4] h g (zj_pV h1 g1)) (hdd : dd + 1 ≤ d) (hn : 4 = n) (hcat : (S.map fun v => v.category).sum ≤ 8) (hdg : decode cc pc = .ok (.invokestatic index, 3)) (kk : zj_J E Γ nL (pc + 3) L S h1 g1) : zj_J E Γ nL pc L (v4 :: v3 :: v2 :: v1 :: S) h g :=
  zj_callN (As := [v1, v2, v3, v4]) K hlk hM hdd hn hcat hdg (fun v h' g' hp => by obtain ⟨rfl, rfl, rfl⟩ := hp; exact kk)
theorem zj_cN4P (K : zj_C E Γ cc nL own d) {index dd mL n : Nat} {v1 v2 v3 v4 : Value} {y : MethodName} {b : ByteArray} {ret : Option FieldType} {Post : zj_P} (hlk : zj_nl own index y b mL ret n) (hM : zj_M Γ.2.1 E y b mL ret dd [v1, v2, v3, v4] h g Post) (hdd : dd + 1 ≤ d) (hn : 4 = n) (hcat : (S.map fun v => v.category).sum ≤ 8) (hdg : decode cc pc = .ok (.invokestatic index, 3)) (kk : ∀ v h' g', Post v h' g' → zj_J E Γ nL (pc + 3) L (v.toList ++ S) h' g') : zj_J E Γ nL pc L (v4 :: v3 :: v2 :: v1 :: S) h g :=
  zj_callN (As := [v1, v2, v3, v4]) K hlk hM hdd hn hcat hdg kk
theorem zj_cV5I (K : zj_C E Γ cc nL own d) {i ci index dd mL n : Nat} {fs : List (Nat ⊕ Bool)} {v1 v2 v3 v4 v5 : Value} {y : MethodName} {b : ByteArray} {ret : Option FieldType} {r : Int32} {h1 : zj_H} {g1 : zj_G} (hlk : zj_vl own index ci y b mL ret n) (hs : zj_at i (.inl (ci, fs))) (hM : zj_M Γ.2.1 E y b mL ret dd (.ref (E.2.1 i) :: [v1, v2, v3, v4, v5]) h g (zj_pI r h1 g1)) (hdd : dd + 1 ≤ d) (hn : 5 = n) (hcat : (S.map fun v => v.category).sum ≤ 8) (hdg : decode cc pc = .ok (.invokevirtual index, 3)) (kk : zj_J E Γ nL (pc + 3) L (.int r :: S) h1 g1) : zj_J E Γ nL pc L (v5 :: v4 :: v3 :: v2 :: v1 :: .ref (E.2.1 i) :: S) h g :=
  zj_callV (As := [v1, v2, v3, v4, v5]) K hlk hs hM hdd hn hcat hdg (fun v h' g' hp => by obtain ⟨rfl, rfl, rfl⟩ := hp; exact kk)
theorem zj_cV5W (K : zj_C E Γ cc nL own d) {i ci index dd mL n : Nat} {fs : List (Nat ⊕ Bool)} {v1 v2 v3 v4 v5 : Value} {y : MethodName} {b : ByteArray} {ret : Option FieldType} {h1 : zj_H} {g1 : zj_G} (hlk : zj_vl own index ci y b mL ret n) (hs : zj_at i (.inl (ci, fs))) (hM : zj_M Γ.2.1 E y b mL ret dd (.ref (E.2.1 i) :: [v1, v2, v3, v4, v5]) h g (zj_pV h1 g1)) (hdd : dd + 1 ≤ d) (hn : 5 = n) (hcat : (S.map fun v => v.category).sum ≤ 8) (hdg : decode cc pc = .ok (.invokevirtual index, 3)) (kk : zj_J E Γ nL (pc + 3) L S h1 g1) : zj_J E Γ nL pc L (v5 :: v4 :: v3 :: v2 :: v1 :: .ref (E.2.1 i) :: S) h g :=
  zj_callV (As := [v1, v2, v3, v4, v5]) K hlk hs hM hdd hn hcat hdg (fun v h' g' hp => by obtain ⟨rfl, rfl, rfl⟩ := hp; exact kk)
theorem zj_cV5P (K : zj_C E Γ cc nL own d) {i ci index dd mL n : Nat} {fs : List (Nat ⊕ Bool)} {v1 v2 v3 v4 v5 : Value} {y : MethodName} {b : ByteArray} {ret : Option FieldType} {Post : zj_P} (hlk : zj_vl own index ci y b mL ret n) (hs : zj_at i (.inl (ci, fs))) (hM : zj_M Γ.2.1 E y b mL ret dd (.ref (E.2.1 i) :: [v1, v2, v3, v4, v5]) h g Post) (hdd : dd + 1 ≤ d) (hn : 5 = n) (hcat : (S.map fun v => v.category).sum ≤ 8) (hdg : decode cc pc = .ok (.invokevirtual index, 3)) (kk : ∀ v h' g', Post v h' g' → zj_J E Γ nL (pc + 3) L (v.toList ++ S) h' g') : zj_J E Γ nL pc L (v5 :: v4 :: v3 :: v2 :: v1 :: .ref (E.2.1 i) :: S) h g :=
  zj_callV (As := [v1, v2, v3, v4, v5]) K hlk hs hM hdd hn hcat hdg kk
theorem zj_cS5I (K : zj_C E Γ cc nL own d) {index dd mL n : Nat} {v1 v2 v3 v4 v5 : Value} {y : MethodName} {b : ByteArray} {ret : Option FieldType} {r : Int32} {h1 : zj_H} {g1 : zj_G} (hlk : zj_sl own index y b mL ret n) (hM : zj_M Γ.2.1 E y b mL ret dd [v1, v2, v3, v4, v5] h g (zj_pI r h1 g1)) (hdd : dd + 1 ≤ d) (hn : 5 = n) (hcat : (S.map fun v => v.category).sum ≤ 8) (hdg : decode cc pc = .ok (.invokestatic index, 3)) (kk : zj_J E Γ nL (pc + 3) L (.int r :: S) h1 g1) : zj_J E Γ nL pc L (v5 :: v4 :: v3 :: v2 :: v1 :: S) h g :=
  zj_callS (As := [v1, v2, v3, v4, v5]) K hlk hM hdd hn hcat hdg (fun v h' g' hp => by obtain ⟨rfl, rfl, rfl⟩ := hp; exact kk)
theorem zj_cS5W (K : zj_C E Γ cc nL own d) {index dd mL n : Nat} {v1 v2 v3 v4 v5 : Value} {y : MethodName} {b : ByteArray} {ret : Option FieldType} {h1 : zj_H} {g1 : zj_G} (hlk : zj_sl own index y b mL ret n) (hM : zj_M Γ.2.1 E y b mL ret dd [v1, v2, v3, v4, v5] h g (zj_pV h1 g1)) (hdd : dd + 1 ≤ d) (hn : 5 = n) (hcat : (S.map fun v => v.category).sum ≤ 8) (hdg : decode cc pc = .ok (.invokestatic index, 3)) (kk : zj_J E Γ nL (pc + 3) L S h1 g1) : zj_J E Γ nL pc L (v5 :: v4 :: v3 :: v2 :: v1 :: S) h g :=
  zj_callS (As := [v1, v2, v3, v4, v5]) K hlk hM hdd hn hcat hdg (fun v h' g' hp => by obtain ⟨rfl, rfl, rfl⟩ := hp; exact kk)
theorem zj_cS5P (K : zj_C E Γ cc nL own d) {index dd mL n : Nat} {v1 v2 v3 v4 v5 : Value} {y : MethodName} {b : ByteArray} {ret : Option FieldType} {Post : zj_P} (hlk : zj_sl own index y b mL ret n) (hM : zj_M Γ.2.1 E y b mL ret dd [v1, v2, v3, v4, v5] h g Post) (hdd : dd + 1 ≤ d) (hn : 5 = n) (hcat : (S.map fun v => v.category).sum ≤ 8) (hdg : decode cc pc = .ok (.invokestatic index, 3)) (kk : ∀ v h' g', Post v h' g' → zj_J E Γ nL (pc + 3) L (v.toList ++ S) h' g') : zj_J E Γ nL pc L (v5 :: v4 :: v3 :: v2 :: v1 :: S) h g :=
  zj_callS (As := [v1, v2, v3, v4, v5]) K hlk hM hdd hn hcat hdg kk
theorem zj_cN5I (K : zj_C E Γ cc nL own d) {index dd mL n : Nat} {v1 v2 v3 v4 v5 : Value} {y : MethodName} {b : ByteArray} {ret : Option FieldType} {r : Int32} {h1 : zj_H} {g1 : zj_G} (hlk : zj_nl own index y b mL ret n) (hM : zj_M Γ.2.1 E y b mL ret dd [v1, v2, v3, v4, v5] h g (zj_pI r h1 g1)) (hdd : dd + 1 ≤ d) (hn : 5 = n) (hcat : (S.map fun v => v.category).sum ≤ 8) (hdg : decode cc pc = .ok (.invokestatic index, 3)) (kk : zj_J E Γ nL (pc + 3) L (.int r :: S) h1 g1) : zj_J E Γ nL pc L (v5 :: v4 :: v3 :: v2 :: v1 :: S) h g :=
  zj_callN (As := [v1, v2, v3, v4, v5]) K hlk hM hdd hn hcat hdg (fun v h' g' hp => by obtain ⟨rfl, rfl, rfl⟩ := hp; exact kk)
theorem zj_cN5W (K : zj_C E Γ cc nL own d) {index dd mL n : Nat} {v1 v2 v3 v4 v5 : Value} {y : MethodName} {b : ByteArray} {ret : Option FieldType} {h1 : zj_H} {g1 : zj_G} (hlk : zj_nl own index y b mL ret n) (hM : zj_M Γ.2.1 E y b mL ret dd [v1, v2, v3, v4, v5] h g (zj_pV h1 g1)) (hdd : dd + 1 ≤ d) (hn : 5 = n) (hcat : (S.map fun v => v.category).sum ≤ 8) (hdg : decode cc pc = .ok (.invokestatic index, 3)) (kk : zj_J E Γ nL (pc + 3) L S h1 g1) : zj_J E Γ nL pc L (v5 :: v4 :: v3 :: v2 :: v1 :: S) h g :=
  zj_callN (As := [v1, v2, v3, v4, v5]) K hlk hM hdd hn hcat hdg (fun v h' g' hp => by obtain ⟨rfl, rfl, rfl⟩ := hp; exact kk)
theorem zj_cN5P (K : zj_C E Γ cc nL own d) {index dd mL n : Nat} {v1 v2 v3 v4 v5 : Value} {y : MethodName} {b : ByteArray} {ret : Option FieldType} {Post : zj_P} (hlk : zj_nl own index y b mL ret n) (hM : zj_M Γ.2.1 E y b mL ret dd [v1, v2, v3, v4, v5] h g Post) (hdd : dd + 1 ≤ d) (hn : 5 = n) (hcat : (S.map fun v => v.category).sum ≤ 8) (hdg : decode cc pc = .ok (.invokestatic index, 3)) (kk : ∀ v h' g', Post v h' g' → zj_J E Γ nL (pc + 3) L (v.toList ++ S) h' g') : zj_J E Γ nL pc L (v5 :: v4 :: v3 :: v2 :: v1 :: S) h g :=
  zj_callN (As := [v1, v2, v3, v4, v5]) K hlk hM hdd hn hcat hdg kk
theorem zj_cS6I (K : zj_C E Γ cc nL own d) {index dd mL n : Nat} {v1 v2 v3 v4 v5 v6 : Value} {y : MethodName} {b : ByteArray} {ret : Option FieldType} {r : Int32} {h1 : zj_H} {g1 : zj_G} (hlk : zj_sl own index y b mL ret n) (hM : zj_M Γ.2.1 E y b mL ret dd [v1, v2, v3, v4, v5, v6] h g (zj_pI r h1 g1)) (hdd : dd + 1 ≤ d) (hn : 6 = n) (hcat : (S.map fun v => v.category).sum ≤ 8) (hdg : decode cc pc = .ok (.invokestatic index, 3)) (kk : zj_J E Γ nL (pc + 3) L (.int r :: S) h1 g1) : zj_J E Γ nL pc L (v6 :: v5 :: v4 :: v3 :: v2 :: v1 :: S) h g :=
  zj_callS (As := [v1, v2, v3, v4, v5, v6]) K hlk hM hdd hn hcat hdg (fun v h' g' hp => by obtain ⟨rfl, rfl, rfl⟩ := hp; exact kk)
theorem zj_cS6W (K : zj_C E Γ cc nL own d) {index dd mL n : Nat} {v1 v2 v3 v4 v5 v6 : Value} {y : MethodName} {b : ByteArray} {ret : Option FieldType} {h1 : zj_H} {g1 : zj_G} (hlk : zj_sl own index y b mL ret n) (hM : zj_M Γ.2.1 E y b mL ret dd [v1, v2, v3, v4, v5, v6] h g (zj_pV h1 g1)) (hdd : dd + 1 ≤ d) (hn : 6 = n) (hcat : (S.map fun v => v.category).sum ≤ 8) (hdg : decode cc pc = .ok (.invokestatic index, 3)) (kk : zj_J E Γ nL (pc + 3) L S h1 g1) : zj_J E Γ nL pc L (v6 :: v5 :: v4 :: v3 :: v2 :: v1 :: S) h g :=
  zj_callS (As := [v1, v2, v3, v4, v5, v6]) K hlk hM hdd hn hcat hdg (fun v h' g' hp => by obtain ⟨rfl, rfl, rfl⟩ := hp; exact kk)
theorem zj_cS6P (K : zj_C E Γ cc nL own d) {index dd mL n : Nat} {v1 v2 v3 v4 v5 v6 : Value} {y : MethodName} {b : ByteArray} {ret : Option FieldType} {Post : zj_P} (hlk : zj_sl own index y b mL ret n) (hM : zj_M Γ.2.1 E y b mL ret dd [v1, v2, v3, v4, v5, v6] h g Post) (hdd : dd + 1 ≤ d) (hn : 6 = n) (hcat : (S.map fun v => v.category).sum ≤ 8) (hdg : decode cc pc = .ok (.invokestatic index, 3)) (kk : ∀ v h' g', Post v h' g' → zj_J E Γ nL (pc + 3) L (v.toList ++ S) h' g') : zj_J E Γ nL pc L (v6 :: v5 :: v4 :: v3 :: v2 :: v1 :: S) h g :=
  zj_callS (As := [v1, v2, v3, v4, v5, v6]) K hlk hM hdd hn hcat hdg kk
theorem zj_cN6I (K : zj_C E Γ cc nL own d) {index dd mL n : Nat} {v1 v2 v3 v4 v5 v6 : Value} {y : MethodName} {b : ByteArray} {ret : Option FieldType} {r : Int32} {h1 : zj_H} {g1 : zj_G} (hlk : zj_nl own index y b mL ret n) (hM : zj_M Γ.2.1 E y b mL ret dd [v1, v2, v3, v4, v5, v6] h g (zj_pI r h1 g1)) (hdd : dd + 1 ≤ d) (hn : 6 = n) (hcat : (S.map fun v => v.category).sum ≤ 8) (hdg : decode cc pc = .ok (.invokestatic index, 3)) (kk : zj_J E Γ nL (pc + 3) L (.int r :: S) h1 g1) : zj_J E Γ nL pc L (v6 :: v5 :: v4 :: v3 :: v2 :: v1 :: S) h g :=
  zj_callN (As := [v1, v2, v3, v4, v5, v6]) K hlk hM hdd hn hcat hdg (fun v h' g' hp => by obtain ⟨rfl, rfl, rfl⟩ := hp; exact kk)
theorem zj_cN6W (K : zj_C E Γ cc nL own d) {index dd mL n : Nat} {v1 v2 v3 v4 v5 v6 : Value} {y : MethodName} {b : ByteArray} {ret : Option FieldType} {h1 : zj_H} {g1 : zj_G} (hlk : zj_nl own index y b mL ret n) (hM : zj_M Γ.2.1 E y b mL ret dd [v1, v2, v3, v4, v5, v6] h g (zj_pV h1 g1)) (hdd : dd + 1 ≤ d) (hn : 6 = n) (hcat : (S.map fun v => v.category).sum ≤ 8) (hdg : decode cc pc = .ok (.invokestatic index, 3)) (kk : zj_J E Γ nL (pc + 3) L S h1 g1) : zj_J E Γ nL pc L (v6 :: v5 :: v4 :: v3 :: v2 :: v1 :: S) h g :=
  zj_callN (As := [v1, v2, v3, v4, v5, v6]) K hlk hM hdd hn hcat hdg (fun v h' g' hp => by obtain ⟨rfl, rfl, rfl⟩ := hp; exact kk)
theorem zj_cN6P (K : zj_C E Γ cc nL own d) {index dd mL n : Nat} {v1 v2 v3 v4 v5 v6 : Value} {y : MethodName} {b : ByteArray} {ret : Option FieldType} {Post : zj_P} (hlk : zj_nl own index y b mL ret n) (hM : zj_M Γ.2.1 E y b mL ret dd [v1, v2, v3, v4, v5, v6] h g Post) (hdd : dd + 1 ≤ d) (hn : 6 = n) (hcat : (S.map fun v => v.category).sum ≤ 8) (hdg : decode cc pc = .ok (.invokestatic index, 3)) (kk : ∀ v h' g', Post v h' g' → zj_J E Γ nL (pc + 3) L (v.toList ++ S) h' g') : zj_J E Γ nL pc L (v6 :: v5 :: v4 :: v3 :: v2 :: v1 :: S) h g :=
  zj_callN (As := [v1, v2, v3, v4, v5, v6]) K hlk hM hdd hn hcat hdg kk
theorem zj_copy (K : zj_C E Γ cc nL own d) {i j n0 n1 n index : Nat} {x : Int32} (hd : 2 ≤ d) (hl0 : Cond.methodLink own index arraycopyName ∈ zj_tbl) (hs0 : zj_at i (.inr (0, n0))) (hs1 : zj_at j (.inr (0, n1))) (ex : x = nI n) (hn : n ≤ 1000) (hn0 : n ≤ n0) (hn1 : n ≤ n1) (hcat : (S.map fun v => v.category).sum ≤ 8) (hdg : decode cc pc = .ok (.invokestatic index, 3))
    (kk : zj_J E Γ nL (pc + 3) L S (zj_s h j (fun b => if b < n then h i b else h j b)) g) : zj_J E Γ nL pc L (.int x :: .int 0 :: .ref (E.2.1 j) :: .int 0 :: .ref (E.2.1 i) :: S) h g := by
  obtain ⟨p, l, e, R, s, m, args, below, meth, c, A, Q, cells, slots⟩ := Γ
  obtain ⟨hx, hb, hml, hown, hts, hK, hA, hD, hX, hfr, hlo, hce, hsl⟩ := K
  intro ls H locs hl hP hS
  subst ex
  have e0 : (0 : Int32).toNatClampNeg = 0 := rfl
  have en : (nI n).toNatClampNeg = n := nI_clamp (by omega)
  refine va_copyi hx hb (by rw [hml]; exact hl.1.symm) hown (hts _ hl0) (hts _ zz_acn) (hts _ zz_acs) (hts _ zz_aci) hK hP (hD h g) hS i j 0 0 (zj_ws_get E h g hs0) (zj_ws_get E h g hs1) rfl rfl rfl (by decide) (by decide) (nI_pos (by omega)) (by rw [e0, en]; omega) (by rw [e0, en]; omega) (fun _ _ => rfl) ?_ ?_ hdg ?_
  · omega
  · have : nativeFrameWords "java/lang/System" "arraycopy" 5 + 11 ≤ 40 := by decide
    omega
  · intro H1 locs1 hP1 hD1 hS1
    refine kk ls H1 locs1 hl ?_ hS1
    have e := zj_ws_set E h (zj_s h j (fun b => if b < n then h i b else h j b)) g g hs1 (fun a n => zj_s_ne _ _ n) (fun a n => rfl)
    rw [← e]
    have ef : (fun b => if b < n then h i b else h j b) = va_cpy (h i) (h j) 0 0 n := by
      funext b; unfold va_cpy; simp
    have e2 : zj_ent E (zj_s h j (fun b => if b < n then h i b else h j b)) g j (.inr (0, n1)) = .inl (E.2.2.1 0, n1, .inl (zj_s h j (fun b => if b < n then h i b else h j b) j)) := rfl
    rw [e2, zj_s_eq, ef]
    have e3 : va_cpy (h i) (h j) (0 : Int32).toNatClampNeg (0 : Int32).toNatClampNeg (nI n).toNatClampNeg = va_cpy (h i) (h j) 0 0 n := by rw [en]; rfl
    rw [e3] at hP1
    exact hP1
theorem zj_mmin (K : zj_C E Γ cc nL own d) {index : Nat} {x y : Int32} (hl0 : Cond.methodLink own index Lib.Math.min.name ∈ zj_tbl) (hd : 1 ≤ d) (hcat : (S.map fun v => v.category).sum ≤ 8) (hdg : decode cc pc = .ok (.invokestatic index, 3)) (kk : zj_J E Γ nL (pc + 3) L (.int (if y < x then y else x) :: S) h g) : zj_J E Γ nL pc L (.int y :: .int x :: S) h g := by
  obtain ⟨p, l, e, R, s, m, args, below, meth, c, A, Q, cells, slots⟩ := Γ
  obtain ⟨hx, hb, hml, hown, hts, hK, hA, hD, hX, hfr, hlo, hce, hsl⟩ := K
  intro ls H locs hl hP hS
  exact va_mmin hx hb (by rw [hml]; exact hl.1.symm) hown (hts _ hl0) (hts _ zz_mins) (hts _ zz_mi) (hts _ zz_minc) (by omega) (by omega) hce hsl hdg (kk ls H locs hl hP hS)
theorem zj_mmax (K : zj_C E Γ cc nL own d) {index : Nat} {x y : Int32} (hl0 : Cond.methodLink own index Lib.Math.max.name ∈ zj_tbl) (hd : 1 ≤ d) (hcat : (S.map fun v => v.category).sum ≤ 8) (hdg : decode cc pc = .ok (.invokestatic index, 3)) (kk : zj_J E Γ nL (pc + 3) L (.int (if x < y then y else x) :: S) h g) : zj_J E Γ nL pc L (.int y :: .int x :: S) h g := by
  obtain ⟨p, l, e, R, s, m, args, below, meth, c, A, Q, cells, slots⟩ := Γ
  obtain ⟨hx, hb, hml, hown, hts, hK, hA, hD, hX, hfr, hlo, hce, hsl⟩ := K
  intro ls H locs hl hP hS
  refine va_mmax hx hb (by rw [hml]; exact hl.1.symm) hown (hts _ hl0) (hts _ zz_maxs) (hts _ zz_mi) (hts _ zz_maxc) (by omega) (by omega) hce hsl hdg (kk ls H locs hl hP hS)
def zj_pickL (L : List (Nat × Value)) : List Nat → List (Nat × Value)
  | [] => []
  | k :: ks => match zj_get L k with
    | some v => (k, v) :: zj_pickL L ks
    | none => zj_pickL L ks
theorem zj_pickL_mem {L : List (Nat × Value)} : ∀ {ks : List Nat} {q : Nat × Value}, q ∈ zj_pickL L ks → q ∈ L := by
  intro ks
  induction ks with
  | nil => intro q h; cases h
  | cons k ks ih =>
    intro q h
    unfold zj_pickL at h
    cases hv : zj_get L k with
    | none => rw [hv] at h; exact ih h
    | some v =>
      rw [hv] at h
      rcases List.mem_cons.mp h with rfl | h
      · exact zj_get_mem hv
      · exact ih h
/-- the heap by a name -/
theorem zj_hn (k : ∀ h2 : zj_H, h2 = h → zj_J E Γ nL pc L S h2 g) : zj_J E Γ nL pc L S h g := k h rfl
/-- only these locals -/
theorem zj_pick (ks : List Nat) (k : zj_J E Γ nL pc (zj_pickL L ks) S h g) : zj_J E Γ nL pc L S h g := zj_less (fun _ hq => zj_pickL_mem hq) k
end ZJ2

theorem hs_B : zj_at 0 (.inl (7, [.inl 1, .inl 3, .inl 8, .inl 12, .inl 22, .inl 32, .inr false])) := rfl
theorem hs_T : zj_at 1 (.inl (5, [.inl 2, .inr false])) := rfl
theorem hs_Tb : zj_at 2 (.inr (1, 540)) := rfl
theorem hs_R : zj_at 3 (.inl (4, [.inl 1, .inl 4, .inr false, .inr false, .inr false, .inr false, .inr false, .inr false, .inr false])) := rfl
theorem hs_F : zj_at 4 (.inl (6, [.inr false, .inr false, .inr false, .inr false, .inr false, .inr false, .inr false, .inr false, .inr false, .inl 5, .inl 6, .inl 7])) := rfl
theorem hs_Fs : zj_at 5 (zj_arr 9) := rfl
theorem hs_Fw : zj_at 6 (zj_arr 14) := rfl
theorem hs_Fb : zj_at 7 (zj_arr 14) := rfl
theorem hs_D : zj_at 8 (.inl (6, [.inr false, .inr false, .inr false, .inr false, .inr false, .inr false, .inr false, .inr false, .inr false, .inl 9, .inl 10, .inl 11])) := rfl
theorem hs_Ds : zj_at 9 (zj_arr 9) := rfl
theorem hs_Dw : zj_at 10 (zj_arr 14) := rfl
theorem hs_Db : zj_at 11 (zj_arr 14) := rfl
theorem hs_C : zj_at 12 (.inl (0, [.inl 8, .inl 13, .inl 17, .inl 18, .inl 19, .inl 20, .inl 21, .inr false, .inr false, .inr false])) := rfl
theorem hs_Cd : zj_at 13 (.inl (1, [.inr false, .inr false, .inl 14, .inl 15, .inl 16])) := rfl
theorem hs_Cs : zj_at 14 (zj_arr 14) := rfl
theorem hs_Ci : zj_at 15 (zj_arr 14) := rfl
theorem hs_Cb : zj_at 16 (zj_arr 14) := rfl
theorem hs_Cf : zj_at 17 (zj_found) := rfl
theorem hs_Cp : zj_at 18 (zj_arr 81) := rfl
theorem hs_Cl : zj_at 19 (zj_arr 9) := rfl
theorem hs_Cn : zj_at 20 (zj_arr 84) := rfl
theorem hs_Ct : zj_at 21 (zj_arr 84) := rfl
theorem hs_A : zj_at 22 (.inl (0, [.inl 8, .inl 23, .inl 27, .inl 28, .inl 29, .inl 30, .inl 31, .inr false, .inr false, .inr false])) := rfl
theorem hs_Ad : zj_at 23 (.inl (1, [.inr false, .inr false, .inl 24, .inl 25, .inl 26])) := rfl
theorem hs_As : zj_at 24 (zj_arr 14) := rfl
theorem hs_Ai : zj_at 25 (zj_arr 14) := rfl
theorem hs_Ab : zj_at 26 (zj_arr 14) := rfl
theorem hs_Af : zj_at 27 (zj_found) := rfl
theorem hs_Ap : zj_at 28 (zj_arr 81) := rfl
theorem hs_Al : zj_at 29 (zj_arr 9) := rfl
theorem hs_An : zj_at 30 (zj_arr 84) := rfl
theorem hs_At : zj_at 31 (zj_arr 84) := rfl
theorem hs_H : zj_at 32 (.inl (3, [.inl 33, .inr false, .inr false])) := rfl
theorem hs_Hr : zj_at 33 (.inr (3, 11)) := rfl
theorem hs_M : zj_at 78 (.inl (8, [.inr false, .inl 79, .inr false, .inr false, .inr false, .inr false, .inr false, .inr false, .inr false, .inr false, .inr true, .inl 80, .inl 81, .inl 82, .inl 83, .inl 84, .inl 85, .inr false, .inl 86, .inl 87, .inr false, .inr false, .inr false, .inr false, .inr false, .inr false, .inr false, .inr false])) := rfl
theorem hs_Mtape : zj_at 79 (zj_arr 540) := rfl
theorem hs_Mnow : zj_at 80 (zj_arr 89) := rfl
theorem hs_Mread : zj_at 81 (zj_arr 89) := rfl
theorem hs_Mfresh : zj_at 82 (zj_arr 89) := rfl
theorem hs_Msnaps : zj_at 83 (zj_arr 890) := rfl
theorem hs_Mbefore : zj_at 84 (zj_arr 89) := rfl
theorem hs_Mlive : zj_at 85 (zj_arr 89) := rfl
theorem hs_Mben : zj_at 86 (zj_arr 84) := rfl
theorem hs_Mpool : zj_at 87 (zj_arr 84) := rfl
theorem hs_O : zj_at 88 (.inr (2, 1)) := rfl
def zj_isC (k : Nat) : Prop := k = 12 ∨ k = 22
def zj_isT (k : Nat) : Prop := k = 4 ∨ k = 8
def zj_isD (k : Nat) : Prop := k = 13 ∨ k = 23 ∨ ∃ j, j < 11 ∧ k = 34 + 4 * j
theorem zj_shC {k : Nat} (hk : zj_isC k) : zj_at k (zj_court k) ∧ zj_at (k + 1) (zj_dock (k + 1)) ∧ zj_at (k + 2) (zj_arr 14) ∧ zj_at (k + 3) (zj_arr 14) ∧ zj_at (k + 4) (zj_arr 14) ∧ zj_at (k + 5) zj_found ∧ zj_at (k + 6) (zj_arr 81) ∧ zj_at (k + 7) (zj_arr 9) ∧ zj_at (k + 8) (zj_arr 84) ∧ zj_at (k + 9) (zj_arr 84) := by
  rcases hk with rfl | rfl <;> exact ⟨rfl, rfl, rfl, rfl, rfl, rfl, rfl, rfl, rfl, rfl⟩
theorem zj_shT {k : Nat} (hk : zj_isT k) : zj_at k (zj_told k) ∧ zj_at (k + 1) (zj_arr 9) ∧ zj_at (k + 2) (zj_arr 14) ∧ zj_at (k + 3) (zj_arr 14) := by
  rcases hk with rfl | rfl <;> exact ⟨rfl, rfl, rfl, rfl⟩
theorem zj_shD {k : Nat} (hk : zj_isD k) : zj_at k (zj_dock k) ∧ zj_at (k + 1) (zj_arr 14) ∧ zj_at (k + 2) (zj_arr 14) ∧ zj_at (k + 3) (zj_arr 14) := by
  rcases hk with rfl | rfl | ⟨j, hj, rfl⟩
  · exact ⟨rfl, rfl, rfl, rfl⟩
  · exact ⟨rfl, rfl, rfl, rfl⟩
  · have hj2 : j = 0 ∨ j = 1 ∨ j = 2 ∨ j = 3 ∨ j = 4 ∨ j = 5 ∨ j = 6 ∨ j = 7 ∨ j = 8 ∨ j = 9 ∨ j = 10 := by omega
    rcases hj2 with rfl | rfl | rfl | rfl | rfl | rfl | rfl | rfl | rfl | rfl | rfl <;> exact ⟨rfl, rfl, rfl, rfl⟩
theorem zj_C12 {k : Nat} (hk : zj_isC k) : 12 ≤ k ∧ k ≤ 22 := by rcases hk with rfl | rfl <;> exact ⟨by decide, by decide⟩
theorem zj_CD {k : Nat} (hk : zj_isC k) : zj_isD (k + 1) := by
  rcases hk with rfl | rfl
  · exact Or.inl rfl
  · exact Or.inr (Or.inl rfl)

