-- String constants: rows over zj_X
section ZK
variable {E : zj_E} {Γ : zj_Γ} {cc : ByteArray} {nL d pc : Nat} {own : String} {L : List (Nat × Value)} {S : List Value} {h : zj_H} {g : zj_G}
theorem zj_ldcS (K : zj_C E Γ cc nL own d) {i index : Nat} {tx : String} (hk : zj_skey[i]? = some (index, tx)) (ho : own = RX4) (hdg : decode cc pc = .ok (.ldc index, 2)) (k : zj_J E Γ nL (pc + 2) L (.ref (E.2.2.2.1 i) :: S) h g) : zj_J E Γ nL pc L S h g := by
  obtain ⟨p, l, e, R, s, m, args, below, meth, c, A, Q, cells, slots⟩ := Γ
  obtain ⟨hx, hb, hml, hown, hts, hK, hA, hD, hX, hfr, hlo, hce, hsl⟩ := K
  subst ho
  intro ls H locs hl hP hS
  exact va_ldcS hx hb hown (hX.2.1 i (index, tx) hk) hdg (k ls H locs hl hP hS)
theorem zj_kval (K : zj_C E Γ cc nL own d) {i index : Nat} (hi : i < 5) (hw : Cond.fieldLink own index "java/lang/String" "value" "[B" ∈ zj_tbl) (hdg : decode cc pc = .ok (.getfield index, 3)) (k : zj_J E Γ nL (pc + 3) L (.ref (E.2.2.2.2 i) :: S) h g) : zj_J E Γ nL pc L (.ref (E.2.2.2.1 i) :: S) h g := by
  obtain ⟨p, l, e, R, s, m, args, below, meth, c, A, Q, cells, slots⟩ := Γ
  obtain ⟨hx, hb, hml, hown, hts, hK, hA, hD, hX, hfr, hlo, hce, hsl⟩ := K
  intro ls H locs hl hP hS
  exact vk_getf hx hb (hX.2.2.1.1 i hi).2.2.1 hS hown (hts _ hw) (fun _ z => z) hdg (k ls H locs hl hP hS)
theorem zj_kcod (K : zj_C E Γ cc nL own d) {i index : Nat} (hi : i < 5) (hw : Cond.fieldLink own index "java/lang/String" "coder" "B" ∈ zj_tbl) (hdg : decode cc pc = .ok (.getfield index, 3)) (k : zj_J E Γ nL (pc + 3) L (.int 0 :: S) h g) : zj_J E Γ nL pc L (.ref (E.2.2.2.1 i) :: S) h g := by
  obtain ⟨p, l, e, R, s, m, args, below, meth, c, A, Q, cells, slots⟩ := Γ
  obtain ⟨hx, hb, hml, hown, hts, hK, hA, hD, hX, hfr, hlo, hce, hsl⟩ := K
  intro ls H locs hl hP hS
  exact vk_getf hx hb (hX.2.2.1.1 i hi).2.1 hS hown (hts _ hw) (fun _ z => z) hdg (k ls H locs hl hP hS)
theorem zj_klen (K : zj_C E Γ cc nL own d) {i : Nat} (hi : i < 5) (hdg : decode cc pc = .ok (.arraylength, 1)) (k : zj_J E Γ nL (pc + 1) L (.int (nI (zj_slen.getD i 0)) :: S) h g) : zj_J E Γ nL pc L (.ref (E.2.2.2.2 i) :: S) h g := by
  obtain ⟨p, l, e, R, s, m, args, below, meth, c, A, Q, cells, slots⟩ := Γ
  obtain ⟨hx, hb, hml, hown, hts, hK, hA, hD, hX, hfr, hlo, hce, hsl⟩ := K
  intro ls H locs hl hP hS
  exact va_tlen hx hb (hX.2.2.1.1 i hi).2.2.2 hS rfl hdg (k ls H locs hl hP hS)
theorem zj_kald (K : zj_C E Γ cc nL own d) {i j : Nat} {x : Int32} (hi : i < 5) (ex : x = nI j) (hj : j < zj_slen.getD i 0) (hj2 : j < 2 ^ 31) (hj3 : zj_slen.getD i 0 < 2 ^ 31) (hdg : decode cc pc = .ok (.baload, 1)) (k : zj_J E Γ nL (pc + 1) L (.int ((zj_sbyt.getD i []).getD j 0) :: S) h g) : zj_J E Γ nL pc L (.int x :: .ref (E.2.2.2.2 i) :: S) h g := by
  obtain ⟨p, l, e, R, s, m, args, below, meth, c, A, Q, cells, slots⟩ := Γ
  obtain ⟨hx, hb, hml, hown, hts, hK, hA, hD, hX, hfr, hlo, hce, hsl⟩ := K
  intro ls H locs hl hP hS
  subst ex
  exact va_tb hx hb (hX.2.2.1.1 i hi).2.2.2 hS (vp_in_nI hj hj3) (by show Value.int _ = Value.int _; rw [nI_clamp hj2]) hdg (k ls H locs hl hP hS)
theorem zj_kgz (K : zj_C E Γ cc nL own d) {index : Nat} (hw : Cond.fieldLink own index "java/lang/String" "COMPACT_STRINGS" "Z" ∈ zj_tbl) (hdg : decode cc pc = .ok (.getstatic index, 3)) (k : zj_J E Γ nL (pc + 3) L (.int 1 :: S) h g) : zj_J E Γ nL pc L S h g := by
  obtain ⟨p, l, e, R, s, m, args, below, meth, c, A, Q, cells, slots⟩ := Γ
  obtain ⟨hx, hb, hml, hown, hts, hK, hA, hD, hX, hfr, hlo, hce, hsl⟩ := K
  intro ls H locs hl hP hS
  exact va_gets hx hb hX.2.2.2.1 hS hown (hts _ hw) (fun _ z => z) hdg (k ls H locs hl hP hS)
theorem zj_kgq (K : zj_C E Γ cc nL own d) {index : Nat} (hw : Cond.fieldLink own index "jdk/internal/util/Preconditions" "SIOOBE_FORMATTER" "Ljava/util/function/BiFunction;" ∈ zj_tbl) (hdg : decode cc pc = .ok (.getstatic index, 3)) (k0 : zj_J E Γ nL (pc + 3) L (.null :: S) h g) (k1 : ∀ t, zj_J E Γ nL (pc + 3) L (.ref t :: S) h g) : zj_J E Γ nL pc L S h g := by
  obtain ⟨p, l, e, R, s, m, args, below, meth, c, A, Q, cells, slots⟩ := Γ
  obtain ⟨hx, hb, hml, hown, hts, hK, hA, hD, hX, hfr, hlo, hce, hsl⟩ := K
  intro ls H locs hl hP hS
  rcases hX.2.2.2.2.1 with z | ⟨t, z⟩
  · exact va_gets hx hb z hS hown (hts _ hw) (fun _ z => z) hdg (k0 ls H locs hl hP hS)
  · exact va_gets hx hb z hS hown (hts _ hw) (fun _ z => z) hdg (k1 t ls H locs hl hP hS)
theorem zj_nret (K : zj_C E Γ cc nL own d) {Post : zj_P} {v : Int32} {ty : FieldType} (Rt : zj_R E Γ (some ty) Post) (hdg : decode cc pc = .ok (.ireturn, 1)) (hn : narrow ty (.int v) = .int v) (hp : Post (some (.int v)) h g) : zj_J E Γ nL pc L [.int v] h g := by
  obtain ⟨p, l, e, R, s, m, args, below, meth, c, A, Q, cells, slots⟩ := Γ
  obtain ⟨hx, hb, hml, hown, hts, hK, hA, hD, hX, hfr, hlo, hce, hsl⟩ := K
  obtain ⟨hr, hlocks, hQ⟩ := Rt
  subst hQ
  intro ls H locs hl hP hS
  exact W.zret (v := v) hx hb hr hn (fun t ht hW => ⟨⟨_, h, g, rfl, hp, by rw [ht]; exact hP⟩, hS.F ht⟩) hS.2.2 hdg hlocks
def zj_kl (own : String) (index : Nat) (y : MethodName) (b : ByteArray) (mL : Nat) (ret : Option FieldType) (n : Nat) : Prop := zj_mw y b mL ret n ∧ Cond.methodLink own index y ∈ zj_tbl ∧ Cond.instanceMethod y ∈ zj_tbl ∧ Cond.selects "java/lang/String" y y ∈ zj_tbl
theorem zj_callK (K : zj_C E Γ cc nL own d) {i index dd mL n : Nat} {y : MethodName} {b : ByteArray} {ret : Option FieldType} {As : List Value} {Post : zj_P} (hi : i < 5) (hlk : zj_kl own index y b mL ret n) (hM : zj_M Γ.2.1 E y b mL ret dd (.ref (E.2.2.2.1 i) :: As) h g Post) (hdd : dd + 1 ≤ d) (hn : As.length = n) (hcat : (S.map fun v => v.category).sum ≤ 8) (hdg : decode cc pc = .ok (.invokevirtual index, 3))
    (kk : ∀ v h' g', Post v h' g' → zj_J E Γ nL (pc + 3) L (v.toList ++ S) h' g') : zj_J E Γ nL pc L (As.reverse ++ .ref (E.2.2.2.1 i) :: S) h g := by
  obtain ⟨p, l, e, R, s, m, args, below, meth, c, A, Q, cells, slots⟩ := Γ
  obtain ⟨hx, hb, hml, hown, hts, hK, hA, hD, hX, hfr, hlo, hce, hsl⟩ := K
  obtain ⟨⟨hwc, hwi, hwd, h16⟩, hwl, hwm, hws⟩ := hlk
  intro ls H locs hl hP hS
  have hfree := zj_free (h := h) (g := g) hD hA hS
  have hG := zj_good hwc
  have hroom : (zj_room dd).frames + 1 ≤ R.frames ∧ 8 + (mL + 11) + (zj_room dd).locals ≤ R.locals := by
    have e16 : mL ≤ 16 := Nat.le_of_ble_eq_true h16
    refine ⟨Nat.le_trans hdd hfr, ?_⟩
    show 8 + (mL + 11) + 35 * dd ≤ R.locals
    omega
  refine zj_after (va_runV (As := As) (rest := S) (C := "java/lang/String") (n := n) ⟨hx, hb, hml, hown, hts⟩ (hM H.size) ⟨callB_of n hts hG rfl rfl rfl (hts _ hwi) (hts _ hwl) hwd hroom, hts _ hwm, hts _ hws⟩ ⟨zj_blind, vk_recv hX.2.2.1 hi hS, fun U hU hW => ⟨rfl, by rw [hU], by rw [hU]; exact hP, va_K.moved hW.alike hK, fun h g => (hD h g).weaken (fun _ _ _ _ => trivial), by rw [hU]; exact hX.warm hW hfree hS.2.1⟩⟩ rfl hn hl.1 rfl (lv_room hcat) hdg ⟨hce, hsl⟩) hl hS hfree kk
theorem zj_cK0I (K : zj_C E Γ cc nL own d) {i index dd mL n : Nat} {y : MethodName} {b : ByteArray} {ret : Option FieldType} {r : Int32} {h1 : zj_H} {g1 : zj_G} (hi : i < 5) (hlk : zj_kl own index y b mL ret n) (hM : zj_M Γ.2.1 E y b mL ret dd [.ref (E.2.2.2.1 i)] h g (zj_pI r h1 g1)) (hdd : dd + 1 ≤ d) (hn : 0 = n) (hcat : (S.map fun v => v.category).sum ≤ 8) (hdg : decode cc pc = .ok (.invokevirtual index, 3)) (kk : zj_J E Γ nL (pc + 3) L (.int r :: S) h1 g1) : zj_J E Γ nL pc L (.ref (E.2.2.2.1 i) :: S) h g :=
  zj_callK (As := []) K hi hlk hM hdd hn hcat hdg (fun v h' g' hp => by obtain ⟨rfl, rfl, rfl⟩ := hp; exact kk)
theorem zj_cK1I (K : zj_C E Γ cc nL own d) {i index dd mL n : Nat} {v1 : Value} {y : MethodName} {b : ByteArray} {ret : Option FieldType} {r : Int32} {h1 : zj_H} {g1 : zj_G} (hi : i < 5) (hlk : zj_kl own index y b mL ret n) (hM : zj_M Γ.2.1 E y b mL ret dd [.ref (E.2.2.2.1 i), v1] h g (zj_pI r h1 g1)) (hdd : dd + 1 ≤ d) (hn : 1 = n) (hcat : (S.map fun v => v.category).sum ≤ 8) (hdg : decode cc pc = .ok (.invokevirtual index, 3)) (kk : zj_J E Γ nL (pc + 3) L (.int r :: S) h1 g1) : zj_J E Γ nL pc L (v1 :: .ref (E.2.2.2.1 i) :: S) h g :=
  zj_callK (As := [v1]) K hi hlk hM hdd hn hcat hdg (fun v h' g' hp => by obtain ⟨rfl, rfl, rfl⟩ := hp; exact kk)
end ZK
theorem zk_shr : ∀ i, i < 5 → nI (zj_slen.getD i 0) >>> ((0 : Int32) &&& 31) = nI (zj_slen.getD i 0) := by decide +kernel
theorem zk_len : ∀ i, i < 5 → (zj_sbyt.getD i []).length = zj_slen.getD i 0 := by decide +kernel
theorem zk_byt : ∀ i, i < 5 → ∀ k, k < zj_slen.getD i 0 → (zj_sbyt.getD i []).getD k 0 &&& 255 = (zj_sbyt.getD i []).getD k 0 := by decide +kernel
theorem zk_l6 : ∀ i, i < 5 → zj_slen.getD i 0 ≤ 6 := by decide +kernel
theorem zk_chr {i k : Nat} (hi : i < 5) (hk : k < zj_slen.getD i 0) : (((zj_sbyt.getD i []).getD k 0 &&& 255).toUInt32 % 65536).toInt32 = (zj_sbyt.getD i []).getD k 0 := by rw [sc_c2, zk_byt i hi k hk]
theorem zk_nar {i k : Nat} (hi : i < 5) (hk : k < zj_slen.getD i 0) : narrow .char (.int ((zj_sbyt.getD i []).getD k 0)) = .int ((zj_sbyt.getD i []).getD k 0) := by rw [← zk_byt i hi k hk]; exact sc_nar _
theorem zu_tk_1 {t : Nat → Int32} {n : Nat} {q : zuK} (h : zu_tk t n q) : q.1 ≤ 4 ∧ q.2.1 ≤ q.2.2.1 ∧ q.2.2.1 ≤ n := by
  obtain ⟨a, _, h⟩ := h
  have hz := zw_tok_e h
  refine ⟨?_, hz.2.2.1, hz.2.1⟩
  obtain ⟨p, hp, h⟩ := h
  rcases h with ⟨a1, a2, a3, a4⟩ | ⟨a1, a2, q1, hq, h⟩
  · omega
  · rcases h with ⟨c1, c2, c3⟩ | ⟨c1, c2, h⟩
    · split at c2 <;> omega
    · rcases h with ⟨_, e3⟩ | ⟨_, _, e3, _⟩ | ⟨_, _, e3⟩ <;> omega
theorem zu_tk_2 {t : Nat → Int32} {n : Nat} {q : zuK} (h : zu_tk t n q) (h2 : q.1 = 2) : q.2.1 < q.2.2.1 := by
  obtain ⟨a, _, h⟩ := h
  rw [h2] at h
  exact (zw_tok_2 h).1
theorem zkf_9 : Cond.fieldLink RJ0 9 "java/lang/String" "value" "[B" ∈ zj_tbl := List.mem_filter.mpr ⟨List.mem_of_getElem? (i := 1268) (by decide +kernel), by decide +kernel⟩
theorem zkf_15 : Cond.fieldLink RJ0 15 "java/lang/String" "coder" "B" ∈ zj_tbl := List.mem_filter.mpr ⟨List.mem_of_getElem? (i := 1269) (by decide +kernel), by decide +kernel⟩
theorem zkf_38 : Cond.fieldLink RJ0 38 "java/lang/String" "COMPACT_STRINGS" "Z" ∈ zj_tbl := List.mem_filter.mpr ⟨List.mem_of_getElem? (i := 413) (by decide +kernel), by decide +kernel⟩
theorem zkf_1053 : Cond.fieldLink RJ0 1053 "jdk/internal/util/Preconditions" "SIOOBE_FORMATTER" "Ljava/util/function/BiFunction;" ∈ zj_tbl := List.mem_filter.mpr ⟨List.mem_of_getElem? (i := 429) (by decide +kernel), by decide +kernel⟩
theorem zk1_J0_335 : Cond.methodLink RJ0 335 yJ0_coder_7d493 ∈ zj_tbl := List.mem_filter.mpr ⟨List.mem_of_getElem? (i := 409) (by decide +kernel), by decide +kernel⟩
theorem zk2_J0_335 : Cond.instanceMethod yJ0_coder_7d493 ∈ zj_tbl := List.mem_filter.mpr ⟨List.mem_of_getElem? (i := 410) (by decide +kernel), by decide +kernel⟩
theorem zk3_J0_335 : Cond.selects "java/lang/String" yJ0_coder_7d493 yJ0_coder_7d493 ∈ zj_tbl := List.mem_filter.mpr ⟨List.mem_of_getElem? (i := 411) (by decide +kernel), by decide +kernel⟩
theorem lkk_J0_335 : zj_kl RJ0 335 yJ0_coder_7d493 cJ0_coder_7d493 1 (some .byte) 0 := ⟨zw_yJ0_coder_7d493, zk1_J0_335, zk2_J0_335, zk3_J0_335⟩
theorem zk1_J0_492 : Cond.methodLink RJ0 492 yJ0_isLatin1_aae02 ∈ zj_tbl := List.mem_filter.mpr ⟨List.mem_of_getElem? (i := 419) (by decide +kernel), by decide +kernel⟩
theorem zk2_J0_492 : Cond.instanceMethod yJ0_isLatin1_aae02 ∈ zj_tbl := List.mem_filter.mpr ⟨List.mem_of_getElem? (i := 420) (by decide +kernel), by decide +kernel⟩
theorem zk3_J0_492 : Cond.selects "java/lang/String" yJ0_isLatin1_aae02 yJ0_isLatin1_aae02 ∈ zj_tbl := List.mem_filter.mpr ⟨List.mem_of_getElem? (i := 421) (by decide +kernel), by decide +kernel⟩
theorem lkk_J0_492 : zj_kl RJ0 492 yJ0_isLatin1_aae02 cJ0_isLatin1_aae02 1 (some .boolean) 0 := ⟨zw_yJ0_isLatin1_aae02, zk1_J0_492, zk2_J0_492, zk3_J0_492⟩
theorem zk1_X4_138 : Cond.methodLink RX4 138 yJ0_length_8abf5 ∈ zj_tbl := List.mem_filter.mpr ⟨List.mem_of_getElem? (i := 405) (by decide +kernel), by decide +kernel⟩
theorem zk2_X4_138 : Cond.instanceMethod yJ0_length_8abf5 ∈ zj_tbl := List.mem_filter.mpr ⟨List.mem_of_getElem? (i := 406) (by decide +kernel), by decide +kernel⟩
theorem zk3_X4_138 : Cond.selects "java/lang/String" yJ0_length_8abf5 yJ0_length_8abf5 ∈ zj_tbl := List.mem_filter.mpr ⟨List.mem_of_getElem? (i := 407) (by decide +kernel), by decide +kernel⟩
theorem lkk_X4_138 : zj_kl RX4 138 yJ0_length_8abf5 cJ0_length_8abf5 1 (some .int) 0 := ⟨zw_yJ0_length_8abf5, zk1_X4_138, zk2_X4_138, zk3_X4_138⟩
theorem zk1_X4_146 : Cond.methodLink RX4 146 yJ0_charAt_5068e ∈ zj_tbl := List.mem_filter.mpr ⟨List.mem_of_getElem? (i := 415) (by decide +kernel), by decide +kernel⟩
theorem zk2_X4_146 : Cond.instanceMethod yJ0_charAt_5068e ∈ zj_tbl := List.mem_filter.mpr ⟨List.mem_of_getElem? (i := 416) (by decide +kernel), by decide +kernel⟩
theorem zk3_X4_146 : Cond.selects "java/lang/String" yJ0_charAt_5068e yJ0_charAt_5068e ∈ zj_tbl := List.mem_filter.mpr ⟨List.mem_of_getElem? (i := 417) (by decide +kernel), by decide +kernel⟩
theorem lkk_X4_146 : zj_kl RX4 146 yJ0_charAt_5068e cJ0_charAt_5068e 2 (some .char) 1 := ⟨zw_yJ0_charAt_5068e, zk1_X4_146, zk2_X4_146, zk3_X4_146⟩
set_option maxHeartbeats 4000000 in
set_option maxRecDepth 20000 in
theorem m_J0_coder_7d493 {l : Launch} {E : zj_E} {h : zj_H} {g : zj_G} {i : Nat} (hi : i < 5) : zj_M l E yJ0_coder_7d493 cJ0_coder_7d493 1 (some .byte) 0 [.ref (E.2.2.2.1 i)] h g (zj_pI 0 h g) := by
  refine zj_M.of RJ0 (by decide) rfl (Nat.le_of_ble_eq_true rfl) ?_
  intro Γ hΓ K Rt
  subst hΓ
  show zj_J E Γ 1 0 [(0, .ref (E.2.2.2.1 i))] [] h g
  refine zj_kgz (pc := 0) K zkf_38 dJ0_coder_7d493_0 ?_
  refine zj_if_eq (tgt := 13) (pc := 3) K dJ0_coder_7d493_3 (by decide) (fun c_3 => ?_) (fun c_3 => ?_)
  · exact absurd c_3 (by decide)
  · refine zj_aload_n (i := 0) (pc := 6) K dJ0_coder_7d493_6 rfl rfl ?_
    refine zj_kcod (pc := 7) K hi zkf_15 dJ0_coder_7d493_7 ?_
    refine zj_goto (tgt := 14) (pc := 10) K dJ0_coder_7d493_10 (by decide) ?_
    exact zj_nret K Rt dJ0_coder_7d493_14 rfl (⟨rfl, rfl, rfl⟩)

set_option maxHeartbeats 4000000 in
set_option maxRecDepth 20000 in
theorem m_J0_length_8abf5 {l : Launch} {E : zj_E} {h : zj_H} {g : zj_G} {i : Nat} (hi : i < 5) : zj_M l E yJ0_length_8abf5 cJ0_length_8abf5 1 (some .int) 1 [.ref (E.2.2.2.1 i)] h g (zj_pI (nI (zj_slen.getD i 0)) h g) := by
  refine zj_M.of RJ0 (by decide) rfl (Nat.le_of_ble_eq_true rfl) ?_
  intro Γ hΓ K Rt
  subst hΓ
  show zj_J E Γ 1 0 [(0, .ref (E.2.2.2.1 i))] [] h g
  refine zj_aload_n (i := 0) (pc := 0) K dJ0_length_8abf5_0 rfl rfl ?_
  refine zj_kval (pc := 1) K hi zkf_9 dJ0_length_8abf5_1 ?_
  refine zj_klen (pc := 4) K hi dJ0_length_8abf5_4 ?_
  refine zj_aload_n (i := 0) (pc := 5) K dJ0_length_8abf5_5 rfl rfl ?_
  refine zj_cK0I (pc := 6) K hi lkk_J0_335 (m_J0_coder_7d493 hi) (by decide) rfl (Nat.le_of_ble_eq_true rfl) dJ0_length_8abf5_6 ?_
  refine zj_ishr (pc := 9) K dJ0_length_8abf5_9 ?_
  exact zj_iret K Rt dJ0_length_8abf5_10 (⟨by rw [zk_shr i hi], rfl, rfl⟩)

set_option maxHeartbeats 4000000 in
set_option maxRecDepth 20000 in
theorem m_J0_isLatin1_aae02 {l : Launch} {E : zj_E} {h : zj_H} {g : zj_G} {i : Nat} (hi : i < 5) : zj_M l E yJ0_isLatin1_aae02 cJ0_isLatin1_aae02 1 (some .boolean) 0 [.ref (E.2.2.2.1 i)] h g (zj_pI 1 h g) := by
  refine zj_M.of RJ0 (by decide) rfl (Nat.le_of_ble_eq_true rfl) ?_
  intro Γ hΓ K Rt
  subst hΓ
  show zj_J E Γ 1 0 [(0, .ref (E.2.2.2.1 i))] [] h g
  refine zj_kgz (pc := 0) K zkf_38 dJ0_isLatin1_aae02_0 ?_
  refine zj_if_eq (tgt := 17) (pc := 3) K dJ0_isLatin1_aae02_3 (by decide) (fun c_3 => ?_) (fun c_3 => ?_)
  · exact absurd c_3 (by decide)
  · refine zj_aload_n (i := 0) (pc := 6) K dJ0_isLatin1_aae02_6 rfl rfl ?_
    refine zj_kcod (pc := 7) K hi zkf_15 dJ0_isLatin1_aae02_7 ?_
    refine zj_if_ne (tgt := 17) (pc := 10) K dJ0_isLatin1_aae02_10 (by decide) (fun c_10 => ?_) (fun c_10 => ?_)
    · exact absurd rfl c_10
    · refine zj_iconst (v := 1) (pc := 13) K dJ0_isLatin1_aae02_13 (by decide) ?_
      refine zj_goto (tgt := 18) (pc := 14) K dJ0_isLatin1_aae02_14 (by decide) ?_
      exact zj_zret K Rt dJ0_isLatin1_aae02_18 (by decide) (⟨rfl, rfl, rfl⟩)

set_option maxHeartbeats 4000000 in
set_option maxRecDepth 20000 in
theorem m_J3_n {l : Launch} {E : zj_E} {h : zj_H} {g : zj_G} {x y : Int32} (h0 : ¬ x < 0) (h1 : x < y) : zj_M l E yJ3_checkIndex_8e157 cJ3_checkIndex_8e157 3 (some .int) 0 [.int x, .int y, .null] h g (zj_pI x h g) := by
  refine zj_M.of RJ3 (by decide) rfl (Nat.le_of_ble_eq_true rfl) ?_
  intro Γ hΓ K Rt
  subst hΓ
  show zj_J E Γ 3 0 [(0, .int x), (1, .int y), (2, .null)] [] h g
  refine zj_iload_n (i := 0) (pc := 0) K dJ3_checkIndex_8e157_0 rfl rfl ?_
  refine zj_if_lt (tgt := 9) (pc := 1) K dJ3_checkIndex_8e157_1 (by decide) (fun c_1 => ?_) (fun c_1 => ?_)
  · exact absurd c_1 h0
  · refine zj_iload_n (i := 0) (pc := 4) K dJ3_checkIndex_8e157_4 rfl rfl ?_
    refine zj_iload_n (i := 1) (pc := 5) K dJ3_checkIndex_8e157_5 rfl rfl ?_
    refine zj_icmp_lt (tgt := 16) (pc := 6) K dJ3_checkIndex_8e157_6 (by decide) (fun c_6 => ?_) (fun c_6 => ?_)
    · refine zj_iload_n (i := 0) (pc := 16) K dJ3_checkIndex_8e157_16 rfl rfl ?_
      exact zj_iret K Rt dJ3_checkIndex_8e157_17 (⟨rfl, rfl, rfl⟩)
    · exact absurd h1 c_6

set_option maxHeartbeats 4000000 in
set_option maxRecDepth 20000 in
theorem m_J3_r {l : Launch} {E : zj_E} {h : zj_H} {g : zj_G} {t : Nat} {x y : Int32} (h0 : ¬ x < 0) (h1 : x < y) : zj_M l E yJ3_checkIndex_8e157 cJ3_checkIndex_8e157 3 (some .int) 0 [.int x, .int y, .ref t] h g (zj_pI x h g) := by
  refine zj_M.of RJ3 (by decide) rfl (Nat.le_of_ble_eq_true rfl) ?_
  intro Γ hΓ K Rt
  subst hΓ
  show zj_J E Γ 3 0 [(0, .int x), (1, .int y), (2, .ref t)] [] h g
  refine zj_iload_n (i := 0) (pc := 0) K dJ3_checkIndex_8e157_0 rfl rfl ?_
  refine zj_if_lt (tgt := 9) (pc := 1) K dJ3_checkIndex_8e157_1 (by decide) (fun c_1 => ?_) (fun c_1 => ?_)
  · exact absurd c_1 h0
  · refine zj_iload_n (i := 0) (pc := 4) K dJ3_checkIndex_8e157_4 rfl rfl ?_
    refine zj_iload_n (i := 1) (pc := 5) K dJ3_checkIndex_8e157_5 rfl rfl ?_
    refine zj_icmp_lt (tgt := 16) (pc := 6) K dJ3_checkIndex_8e157_6 (by decide) (fun c_6 => ?_) (fun c_6 => ?_)
    · refine zj_iload_n (i := 0) (pc := 16) K dJ3_checkIndex_8e157_16 rfl rfl ?_
      exact zj_iret K Rt dJ3_checkIndex_8e157_17 (⟨rfl, rfl, rfl⟩)
    · exact absurd h1 c_6

set_option maxHeartbeats 4000000 in
set_option maxRecDepth 20000 in
theorem m_J0_checkIndex_df160 {l : Launch} {E : zj_E} {h : zj_H} {g : zj_G} {x y : Int32} (h0 : ¬ x < 0) (h1 : x < y) : zj_M l E yJ0_checkIndex_df160 cJ0_checkIndex_df160 2 none 1 [.int x, .int y] h g (zj_pV h g) := by
  refine zj_M.of RJ0 (by decide) rfl (Nat.le_of_ble_eq_true rfl) ?_
  intro Γ hΓ K Rt
  subst hΓ
  show zj_J E Γ 2 0 [(0, .int x), (1, .int y)] [] h g
  refine zj_iload_n (i := 0) (pc := 0) K dJ0_checkIndex_df160_0 rfl rfl ?_
  refine zj_iload_n (i := 1) (pc := 1) K dJ0_checkIndex_df160_1 rfl rfl ?_
  refine zj_kgq (pc := 2) K zkf_1053 dJ0_checkIndex_df160_2 ?_ (fun t => ?_)
  · refine zj_cS3I (pc := 5) K lm_J0_1059 (m_J3_n h0 h1) (by decide) rfl (Nat.le_of_ble_eq_true rfl) dJ0_checkIndex_df160_5 ?_
    refine zj_pop (pc := 8) K dJ0_checkIndex_df160_8 rfl ?_
    exact zj_vret K Rt dJ0_checkIndex_df160_9 ⟨rfl, rfl, rfl⟩
  · refine zj_cS3I (pc := 5) K lm_J0_1059 (m_J3_r h0 h1) (by decide) rfl (Nat.le_of_ble_eq_true rfl) dJ0_checkIndex_df160_5 ?_
    refine zj_pop (pc := 8) K dJ0_checkIndex_df160_8 rfl ?_
    exact zj_vret K Rt dJ0_checkIndex_df160_9 ⟨rfl, rfl, rfl⟩

set_option maxHeartbeats 4000000 in
set_option maxRecDepth 20000 in
theorem m_J1_charAt_3b067 {l : Launch} {E : zj_E} {h : zj_H} {g : zj_G} {i : Nat} (hi : i < 5) {k : Nat} (hk : k < zj_slen.getD i 0) {x : Int32} (ex : x = nI k) : zj_M l E yJ1_charAt_3b067 cJ1_charAt_3b067 2 (some .char) 2 [.ref (E.2.2.2.2 i), .int x] h g (zj_pI ((zj_sbyt.getD i []).getD k 0) h g) := by
  refine zj_M.of RJ1 (by decide) rfl (Nat.le_of_ble_eq_true rfl) ?_
  intro Γ hΓ K Rt
  subst hΓ
  have hk6 := zk_l6 i hi
  have h0 : ¬ x < 0 := by rw [ex]; exact nI_pos (by omega)
  have h1 : x < nI (zj_slen.getD i 0) := by rw [ex]; exact nI_lt hk (by omega)
  show zj_J E Γ 2 0 [(0, .ref (E.2.2.2.2 i)), (1, .int x)] [] h g
  refine zj_iload_n (i := 1) (pc := 0) K dJ1_charAt_3b067_0 rfl rfl ?_
  refine zj_aload_n (i := 0) (pc := 1) K dJ1_charAt_3b067_1 rfl rfl ?_
  refine zj_klen (pc := 2) K hi dJ1_charAt_3b067_2 ?_
  refine zj_cS2W (pc := 3) K lm_J1_9 (m_J0_checkIndex_df160 h0 h1) (by decide) rfl (Nat.le_of_ble_eq_true rfl) dJ1_charAt_3b067_3 ?_
  refine zj_aload_n (i := 0) (pc := 6) K dJ1_charAt_3b067_6 rfl rfl ?_
  refine zj_iload_n (i := 1) (pc := 7) K dJ1_charAt_3b067_7 rfl rfl ?_
  refine zj_kald (j := k) (pc := 8) K hi ex hk (by omega) (by omega) dJ1_charAt_3b067_8 ?_
  refine zj_sipush (v := 255) (pc := 9) K dJ1_charAt_3b067_9 (by decide) ?_
  refine zj_iand (pc := 12) K dJ1_charAt_3b067_12 ?_
  refine zj_i2c (pc := 13) K dJ1_charAt_3b067_13 ?_
  refine zj_top (zk_chr hi hk) ?_
  exact zj_nret K Rt dJ1_charAt_3b067_14 (zk_nar hi hk) (⟨rfl, rfl, rfl⟩)

set_option maxHeartbeats 4000000 in
set_option maxRecDepth 20000 in
theorem m_J0_charAt_5068e {l : Launch} {E : zj_E} {h : zj_H} {g : zj_G} {i : Nat} (hi : i < 5) {k : Nat} (hk : k < zj_slen.getD i 0) {x : Int32} (ex : x = nI k) : zj_M l E yJ0_charAt_5068e cJ0_charAt_5068e 2 (some .char) 3 [.ref (E.2.2.2.1 i), .int x] h g (zj_pI ((zj_sbyt.getD i []).getD k 0) h g) := by
  refine zj_M.of RJ0 (by decide) rfl (Nat.le_of_ble_eq_true rfl) ?_
  intro Γ hΓ K Rt
  subst hΓ
  show zj_J E Γ 2 0 [(0, .ref (E.2.2.2.1 i)), (1, .int x)] [] h g
  refine zj_aload_n (i := 0) (pc := 0) K dJ0_charAt_5068e_0 rfl rfl ?_
  refine zj_cK0I (pc := 1) K hi lkk_J0_492 (m_J0_isLatin1_aae02 hi) (by decide) rfl (Nat.le_of_ble_eq_true rfl) dJ0_charAt_5068e_1 ?_
  refine zj_if_eq (tgt := 16) (pc := 4) K dJ0_charAt_5068e_4 (by decide) (fun c_4 => ?_) (fun c_4 => ?_)
  · exact absurd c_4 (by decide)
  · refine zj_aload_n (i := 0) (pc := 7) K dJ0_charAt_5068e_7 rfl rfl ?_
    refine zj_kval (pc := 8) K hi zkf_9 dJ0_charAt_5068e_8 ?_
    refine zj_iload_n (i := 1) (pc := 11) K dJ0_charAt_5068e_11 rfl rfl ?_
    refine zj_cS2I (pc := 12) K lm_J0_495 (m_J1_charAt_3b067 hi hk ex) (by decide) rfl (Nat.le_of_ble_eq_true rfl) dJ0_charAt_5068e_12 ?_
    exact zj_nret K Rt dJ0_charAt_5068e_15 (zk_nar hi hk) (⟨rfl, rfl, rfl⟩)

set_option maxHeartbeats 4000000 in
set_option maxRecDepth 20000 in
theorem m_X4_isWord {l : Launch} {E : zj_E} {h : zj_H} {g : zj_G} {n : Nat} {q : zuK} (eq4 : h 3 4 = nI q.2.1) (eq5 : h 3 5 = nI q.2.2.1) (eq6 : h 3 6 = nI q.1) (hn : n ≤ 540) (hq : zu_tk (h 2) n q) {i : Nat} (hi : i < 5) : zj_M l E yX4_isWord cX4_isWord 3 (some .boolean) 4 [.ref (E.2.1 3), .ref (E.2.2.2.1 i)] h g (zj_pI (zz_i (zu_is (h 2) q i)) h g) := by
  refine zj_M.of RX4 (by decide) rfl (Nat.le_of_ble_eq_true rfl) ?_
  intro Γ hΓ K Rt
  subst hΓ
  have hk6 := zk_l6 i hi
  have hkl := zk_len i hi
  have hq1 := zu_tk_1 hq
  have hq2 := zu_tk_2 hq
  have loop : q.1 = 2 → q.2.2.1 = q.2.1 + zj_slen.getD i 0 → ∀ (m k : Nat) (x2 : Int32), zj_slen.getD i 0 + 1 ≤ k + m → k ≤ zj_slen.getD i 0 → x2 = nI k → (∀ j, j < k → h 2 (q.2.1 + j) = (zj_sbyt.getD i []).getD j 0) → zj_J E Γ 3 28 [(0, .ref (E.2.1 3)), (1, .ref (E.2.2.2.1 i)), (2, .int x2)] [] h g := by
    intro hK2 hlen m
    induction m with
    | zero => intro k x2 h1 h2; omega
    | succ m ih =>
      intro k x2 h1 h2 ex2 hal
      refine zj_iload_n (i := 2) (pc := 28) K dX4_isWord_28 rfl rfl ?_
      refine zj_aload_n (i := 1) (pc := 29) K dX4_isWord_29 rfl rfl ?_
      refine zj_cK0I (pc := 30) K hi lkk_X4_138 (m_J0_length_8abf5 hi) (by decide) rfl (Nat.le_of_ble_eq_true rfl) dX4_isWord_30 ?_
      refine zj_icmp_ge (tgt := 66) (pc := 33) K dX4_isWord_33 (by decide) (fun c_33 => ?_) (fun c_33 => ?_)
      · have hkk : k = zj_slen.getD i 0 := Nat.le_antisymm h2 (zz_ge ex2 rfl (by omega) (by omega) c_33)
        have hz : zu_is (h 2) q i = true := zu_is_t.mpr ⟨hK2, by rw [hkl]; omega, fun j hj => hal j (by omega)⟩
        refine zj_iconst (v := 1) (pc := 66) K dX4_isWord_66 (by decide) ?_
        exact zj_zret K Rt dX4_isWord_67 (by decide) (⟨by rw [hz]; rfl, rfl, rfl⟩)
      · have hk : k < zj_slen.getD i 0 := zz_nge ex2 rfl (by omega) (by omega) c_33
        refine zj_aload_n (i := 0) (pc := 36) K dX4_isWord_36 rfl rfl ?_
        refine zj_getR (pc := 37) K lf_X4_9 hs_R rfl dX4_isWord_37 ?_
        refine zj_getR (pc := 40) K lf_X4_142 hs_T rfl dX4_isWord_40 ?_
        refine zj_aload_n (i := 0) (pc := 43) K dX4_isWord_43 rfl rfl ?_
        refine zj_getI (pc := 44) K lf_X4_135 hs_R rfl dX4_isWord_44 ?_
        refine zj_iload_n (i := 2) (pc := 47) K dX4_isWord_47 rfl rfl ?_
        refine zj_iadd (pc := 48) K dX4_isWord_48 ?_
        refine zj_bld (j := q.2.1 + k) (pc := 49) K hs_Tb (by rw [eq4, ex2, nI_add]) (by omega) (by first | decide | omega) dX4_isWord_49 ?_
        refine zj_aload_n (i := 1) (pc := 50) K dX4_isWord_50 rfl rfl ?_
        refine zj_iload_n (i := 2) (pc := 51) K dX4_isWord_51 rfl rfl ?_
        refine zj_cK1I (pc := 52) K hi lkk_X4_146 (m_J0_charAt_5068e hi hk ex2) (by decide) rfl (Nat.le_of_ble_eq_true rfl) dX4_isWord_52 ?_
        refine zj_icmp_eq (tgt := 60) (pc := 55) K dX4_isWord_55 (by decide) (fun c_55 => ?_) (fun c_55 => ?_)
        · refine zj_iinc (v := 1) (pc := 60) K dX4_isWord_60 rfl (by decide) rfl rfl rfl ?_
          refine zj_goto (tgt := 28) (pc := 63) K dX4_isWord_63 (by decide) ?_
          refine ih (k + 1) _ (by omega) (by omega) (zz_up ex2) (fun j hj => ?_)
          by_cases e : j = k
          · rw [e]; exact c_55
          · exact hal j (by omega)
        · have hz : zu_is (h 2) q i = false := zu_is_f (fun z => c_55 (z.2.2 k (by omega)))
          refine zj_iconst (v := 0) (pc := 58) K dX4_isWord_58 (by decide) ?_
          exact zj_zret K Rt dX4_isWord_59 (by decide) (⟨by rw [hz]; rfl, rfl, rfl⟩)
  show zj_J E Γ 3 0 [(0, .ref (E.2.1 3)), (1, .ref (E.2.2.2.1 i))] [] h g
  refine zj_aload_n (i := 0) (pc := 0) K dX4_isWord_0 rfl rfl ?_
  refine zj_getI (pc := 1) K lf_X4_42 hs_R rfl dX4_isWord_1 ?_
  refine zj_iconst (v := 2) (pc := 4) K dX4_isWord_4 (by decide) ?_
  refine zj_icmp_ne (tgt := 24) (pc := 5) K dX4_isWord_5 (by decide) (fun c_5 => ?_) (fun c_5 => ?_)
  · have hz : zu_is (h 2) q i = false := zu_is_f (fun z => c_5 (by rw [eq6, z.1]; rfl))
    refine zj_iconst (v := 0) (pc := 24) K dX4_isWord_24 (by decide) ?_
    exact zj_zret K Rt dX4_isWord_25 (by decide) (⟨by rw [hz]; rfl, rfl, rfl⟩)
  · have hK2 : q.1 = 2 := by
      rw [eq6] at c_5
      exact (nI_eq (b := 2) (by omega) (by omega)).mp c_5
    have hse := hq2 hK2
    refine zj_aload_n (i := 0) (pc := 8) K dX4_isWord_8 rfl rfl ?_
    refine zj_getI (pc := 9) K lf_X4_32 hs_R rfl dX4_isWord_9 ?_
    refine zj_aload_n (i := 0) (pc := 12) K dX4_isWord_12 rfl rfl ?_
    refine zj_getI (pc := 13) K lf_X4_135 hs_R rfl dX4_isWord_13 ?_
    refine zj_isub (pc := 16) K dX4_isWord_16 ?_
    refine zj_aload_n (i := 1) (pc := 17) K dX4_isWord_17 rfl rfl ?_
    refine zj_cK0I (pc := 18) K hi lkk_X4_138 (m_J0_length_8abf5 hi) (by decide) rfl (Nat.le_of_ble_eq_true rfl) dX4_isWord_18 ?_
    refine zj_icmp_eq (tgt := 26) (pc := 21) K dX4_isWord_21 (by decide) (fun c_21 => ?_) (fun c_21 => ?_)
    · have hlen : q.2.2.1 = q.2.1 + zj_slen.getD i 0 := by
        rw [zw_sub (p := q.2.1) (j := q.2.2.1 - q.2.1) (by rw [eq5]; congr 1; omega) eq4] at c_21
        have := (nI_eq (by omega) (by omega)).mp c_21
        omega
      refine zj_iconst (v := 0) (pc := 26) K dX4_isWord_26 (by decide) ?_
      refine zj_istore_n (i := 2) (pc := 27) K dX4_isWord_27 rfl rfl rfl rfl ?_
      exact loop hK2 hlen (zj_slen.getD i 0 + 1) 0 _ (by omega) (by omega) rfl (fun j hj => by omega)
    · have hz : zu_is (h 2) q i = false := zu_is_f (fun z => c_21 (by rw [zw_sub (p := q.2.1) (j := q.2.2.1 - q.2.1) (by rw [eq5]; congr 1; omega) eq4, z.2.1, hkl]))
      refine zj_iconst (v := 0) (pc := 24) K dX4_isWord_24 (by decide) ?_
      exact zj_zret K Rt dX4_isWord_25 (by decide) (⟨by rw [hz]; rfl, rfl, rfl⟩)
