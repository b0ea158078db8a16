-- the law's cases
section ZM
variable {E : zj_E} {Γ : zj_Γ} {d : Nat} {h : zj_H} {g : zj_G} {b Ln : Nat} {xs : Nat → Int32} {J C u n nx ct : Nat}
variable {p : Program} {l : Launch} {e : Env} {R : Room} {s : State} {m : MethodId} {av : Array Value} {below : List Frame} {meth : Method} {c : Code} {A : Nat → Prop} {Q : State → Prop} {cells slots : Nat}
theorem zyk_lt {x : Int32} {k : Nat} (hz : zz_in x k = true) (hk : k ≤ 1000) : x.toNatClampNeg < k := by
  obtain ⟨j, hj, rfl⟩ := zz_in_ex hz (by omega)
  rw [nI_clamp (by omega)]; exact hj
theorem zyk_mem {xi : Int32} {v5 v6 : Value} {q : Nat × Value} (hq : q ∈ zyL E b xi) : q ∈ zj_ins (zj_ins (zyL E b xi) 5 v5) 6 v6 := by
  show q ∈ [(0, Value.ref b), (1, .ref (E.2.1 0)), (2, .ref (E.2.1 78)), (3, .ref (E.2.1 88)), (4, .int xi), (5, v5), (6, v6)]
  rcases List.mem_cons.mp hq with rfl | hq
  · simp
  · rcases List.mem_cons.mp hq with rfl | hq
    · simp
    · rcases List.mem_cons.mp hq with rfl | hq
      · simp
      · rcases List.mem_cons.mp hq with rfl | hq
        · simp
        · rcases List.mem_cons.mp hq with rfl | hq
          · simp
          · cases hq
theorem zyk_feed (K : zj_C E Γ cL_law 7 RL d) (hd : 10 ≤ d) (X : zy_C Γ b Ln xs) (hL : Ln ≤ 3072) {i : Nat} {xi : Int32} (ei : xi = nI i) (hi : i + 6 ≤ Ln) (a : zI h J C u n nx ct) (fin : ∀ h' g', zIx h' → zj_J E Γ 7 1055 (zyL E b xi) [] h' g') : zj_J E Γ 7 172 (zyL E b xi) [] h g := by
  obtain ⟨P7, M7, T⟩ := zy_feed (l := Γ.2.1) (E := E) a (w1 := xs (i + 1)) (w2 := xs (i + 2)) (w3 := xs (i + 3)) (w4 := xs (i + 4)) (w5 := xs (i + 5)) g
  refine zj_aload_n (i := 1) (pc := 172) K dL_law_172 rfl rfl ?_
  refine zy_arg (k := 1) (pc := 173) K X hL ei (by omega) (by decide) rfl rfl dL_law_173 dL_law_174 dL_law_176 dL_law_177 dL_law_178 ?_
  refine zy_arg (k := 2) (pc := 179) K X hL ei (by omega) (by decide) rfl rfl dL_law_179 dL_law_180 dL_law_182 dL_law_183 dL_law_184 ?_
  refine zy_arg (k := 3) (pc := 185) K X hL ei (by omega) (by decide) rfl rfl dL_law_185 dL_law_186 dL_law_188 dL_law_189 dL_law_190 ?_
  refine zy_arg (k := 4) (pc := 191) K X hL ei (by omega) (by decide) rfl rfl dL_law_191 dL_law_192 dL_law_194 dL_law_195 dL_law_196 ?_
  refine zy_arg (k := 5) (pc := 197) K X hL ei (by omega) (by decide) rfl rfl dL_law_197 dL_law_198 dL_law_200 dL_law_201 dL_law_202 ?_
  refine zj_cV5P (i := 0) (pc := 203) K lm_L_22 hs_B M7 (by omega) rfl (Nat.le_of_ble_eq_true rfl) dL_law_203 (fun v h1 g1 hp => ?_)
  obtain ⟨r, rfl, P8, M8, T⟩ := T v h1 g1 hp
  refine zj_aload_n (i := 2) (pc := 206) K dL_law_206 rfl rfl ?_
  refine zy_arg (k := 1) (pc := 207) K X hL ei (by omega) (by decide) rfl rfl dL_law_207 dL_law_208 dL_law_210 dL_law_211 dL_law_212 ?_
  refine zy_arg (k := 2) (pc := 213) K X hL ei (by omega) (by decide) rfl rfl dL_law_213 dL_law_214 dL_law_216 dL_law_217 dL_law_218 ?_
  refine zy_arg (k := 3) (pc := 219) K X hL ei (by omega) (by decide) rfl rfl dL_law_219 dL_law_220 dL_law_222 dL_law_223 dL_law_224 ?_
  refine zy_arg (k := 4) (pc := 225) K X hL ei (by omega) (by decide) rfl rfl dL_law_225 dL_law_226 dL_law_228 dL_law_229 dL_law_230 ?_
  refine zy_arg (k := 5) (pc := 231) K X hL ei (by omega) (by decide) rfl rfl dL_law_231 dL_law_232 dL_law_234 dL_law_235 dL_law_236 ?_
  refine zj_cV5P (i := 78) (pc := 237) K lm_L_26 hs_M M8 (by omega) rfl (Nat.le_of_ble_eq_true rfl) dL_law_237 (fun v' h2 g2 hp2 => ?_)
  obtain ⟨rfl, hz⟩ := T v' h2 g2 hp2
  exact zj_icmp_eq (tgt := 1055) (pc := 240) K dL_law_240 (by decide) (fun _ => fin h2 g2 hz) (fun z => absurd rfl z)
theorem zyk_end (K : zj_C E Γ cL_law 7 RL d) (hd : 10 ≤ d) (X : zy_C Γ b Ln xs) (hL : Ln ≤ 3072) {i : Nat} {xi : Int32} (ei : xi = nI i) (hi : i + 6 ≤ Ln) (a : zI h J C u n nx ct) (fin : ∀ h' g', zIx h' → zj_J E Γ 7 1055 (zyL E b xi) [] h' g') : zj_J E Γ 7 245 (zyL E b xi) [] h g := by
  obtain ⟨P7, M7, T⟩ := zy_end (l := Γ.2.1) (E := E) a (x := xs (i + 1)) g
  refine zj_aload_n (i := 1) (pc := 245) K dL_law_245 rfl rfl ?_
  refine zy_arg (k := 1) (pc := 246) K X hL ei (by omega) (by decide) rfl rfl dL_law_246 dL_law_247 dL_law_249 dL_law_250 dL_law_251 ?_
  refine zj_cV1P (i := 0) (pc := 252) K lm_L_27 hs_B M7 (by omega) rfl (Nat.le_of_ble_eq_true rfl) dL_law_252 (fun v h1 g1 hp => ?_)
  obtain ⟨r, rfl, P8, M8, T⟩ := T v h1 g1 hp
  refine zj_aload_n (i := 2) (pc := 255) K dL_law_255 rfl rfl ?_
  refine zy_arg (k := 1) (pc := 256) K X hL ei (by omega) (by decide) rfl rfl dL_law_256 dL_law_257 dL_law_259 dL_law_260 dL_law_261 ?_
  refine zj_cV1P (i := 78) (pc := 262) K lm_L_31 hs_M M8 (by omega) rfl (Nat.le_of_ble_eq_true rfl) dL_law_262 (fun v' h2 g2 hp2 => ?_)
  obtain ⟨rfl, hz⟩ := T v' h2 g2 hp2
  exact zj_icmp_eq (tgt := 1055) (pc := 265) K dL_law_265 (by decide) (fun _ => fin h2 g2 hz) (fun z => absurd rfl z)
theorem zyk_text (K : zj_C E Γ cL_law 7 RL d) (hd : 10 ≤ d) (X : zy_C Γ b Ln xs) (hL : Ln ≤ 3072) {i : Nat} {xi : Int32} (ei : xi = nI i) (hi : i + 6 ≤ Ln) (a : zI h J C u n nx ct) (fin : ∀ h' g', zIx h' → zj_J E Γ 7 1055 (zyL E b xi) [] h' g') : zj_J E Γ 7 270 (zyL E b xi) [] h g := by
  obtain ⟨P7, M7, T⟩ := zy_text (l := Γ.2.1) (E := E) a  g
  refine zj_aload_n (i := 1) (pc := 270) K dL_law_270 rfl rfl ?_
  refine zj_cV0P (i := 0) (pc := 271) K lm_L_32 hs_B M7 (by omega) rfl (Nat.le_of_ble_eq_true rfl) dL_law_271 (fun v h1 g1 hp => ?_)
  obtain ⟨r, rfl, P8, M8, T⟩ := T v h1 g1 hp
  refine zj_aload_n (i := 2) (pc := 274) K dL_law_274 rfl rfl ?_
  refine zj_cV0P (i := 78) (pc := 275) K lm_L_36 hs_M M8 (by omega) rfl (Nat.le_of_ble_eq_true rfl) dL_law_275 (fun v' h2 g2 hp2 => ?_)
  obtain ⟨rfl, hz⟩ := T v' h2 g2 hp2
  exact zj_icmp_eq (tgt := 1055) (pc := 278) K dL_law_278 (by decide) (fun _ => fin h2 g2 hz) (fun z => absurd rfl z)
theorem zyk_fault (K : zj_C E Γ cL_law 7 RL d) (hd : 10 ≤ d) (X : zy_C Γ b Ln xs) (hL : Ln ≤ 3072) {i : Nat} {xi : Int32} (ei : xi = nI i) (hi : i + 6 ≤ Ln) (a : zI h J C u n nx ct) (fin : ∀ h' g', zIx h' → zj_J E Γ 7 1055 (zyL E b xi) [] h' g') : zj_J E Γ 7 283 (zyL E b xi) [] h g := by
  obtain ⟨P7, M7, T⟩ := zy_fault (l := Γ.2.1) (E := E) a  g
  refine zj_aload_n (i := 1) (pc := 283) K dL_law_283 rfl rfl ?_
  refine zj_cV0P (i := 0) (pc := 284) K lm_L_37 hs_B M7 (by omega) rfl (Nat.le_of_ble_eq_true rfl) dL_law_284 (fun v h1 g1 hp => ?_)
  obtain ⟨r, rfl, P8, M8, T⟩ := T v h1 g1 hp
  refine zj_aload_n (i := 2) (pc := 287) K dL_law_287 rfl rfl ?_
  refine zj_cV0P (i := 78) (pc := 288) K lm_L_40 hs_M M8 (by omega) rfl (Nat.le_of_ble_eq_true rfl) dL_law_288 (fun v' h2 g2 hp2 => ?_)
  obtain ⟨rfl, hz⟩ := T v' h2 g2 hp2
  exact zj_icmp_eq (tgt := 1055) (pc := 291) K dL_law_291 (by decide) (fun _ => fin h2 g2 hz) (fun z => absurd rfl z)
theorem zyk_now (K : zj_C E Γ cL_law 7 RL d) (hd : 10 ≤ d) (X : zy_C Γ b Ln xs) (hL : Ln ≤ 3072) {i : Nat} {xi : Int32} (ei : xi = nI i) (hi : i + 6 ≤ Ln) (a : zI h J C u n nx ct) (fin : ∀ h' g', zIx h' → zj_J E Γ 7 1055 (zyL E b xi) [] h' g') : zj_J E Γ 7 296 (zyL E b xi) [] h g := by
  obtain ⟨P7, M7, T⟩ := zy_now (l := Γ.2.1) (E := E) a (x := xs (i + 1)) g
  refine zj_aload_n (i := 1) (pc := 296) K dL_law_296 rfl rfl ?_
  refine zy_arg (k := 1) (pc := 297) K X hL ei (by omega) (by decide) rfl rfl dL_law_297 dL_law_298 dL_law_300 dL_law_301 dL_law_302 ?_
  refine zj_cV1P (i := 0) (pc := 303) K lm_L_41 hs_B M7 (by omega) rfl (Nat.le_of_ble_eq_true rfl) dL_law_303 (fun v h1 g1 hp => ?_)
  obtain ⟨r, rfl, P8, M8, T⟩ := T v h1 g1 hp
  refine zj_aload_n (i := 2) (pc := 306) K dL_law_306 rfl rfl ?_
  refine zy_arg (k := 1) (pc := 307) K X hL ei (by omega) (by decide) rfl rfl dL_law_307 dL_law_308 dL_law_310 dL_law_311 dL_law_312 ?_
  refine zj_cV1P (i := 78) (pc := 313) K lm_L_45 hs_M M8 (by omega) rfl (Nat.le_of_ble_eq_true rfl) dL_law_313 (fun v' h2 g2 hp2 => ?_)
  obtain ⟨rfl, hz⟩ := T v' h2 g2 hp2
  exact zj_icmp_eq (tgt := 1055) (pc := 316) K dL_law_316 (by decide) (fun _ => fin h2 g2 hz) (fun z => absurd rfl z)
theorem zyk_judge (K0 : zj_C E (p, l, e, R, s, m, av, below, meth, c, A, Q, cells, slots) cL_law 7 RL d) (K : zj_C E (p, l, e, R, s, m, av, below, meth, c, A, Q, cells + 1, slots + 6) cL_law 7 RL d) (hZ : zx_Z s) (hlt : l.stackTraces = false) (hr1 : cells + 1 ≤ R.cells) (hr6 : slots + 6 ≤ R.slots) (hd : 10 ≤ d) (X : zy_C (p, l, e, R, s, m, av, below, meth, c, A, Q, cells, slots) b Ln xs) (hL : Ln ≤ 3072) {i : Nat} {xi : Int32} (ei : xi = nI i) (hi : i + 6 ≤ Ln) (a : zI h J C u n nx ct) (fin : ∀ h' g', zIx h' → zj_J E (p, l, e, R, s, m, av, below, meth, c, A, Q, cells + 1, slots + 6) 7 1055 (zyL E b xi) [] h' g') : zj_J E (p, l, e, R, s, m, av, below, meth, c, A, Q, cells, slots) 7 321 (zyL E b xi) [] h g := by
  have X0 : zy_C (p, l, e, R, s, m, av, below, meth, c, A, Q, cells, slots) b Ln xs := X
  have X : zy_C (p, l, e, R, s, m, av, below, meth, c, A, Q, cells + 1, slots + 6) b Ln xs := X0
  refine zj_aload_n (i := 1) (pc := 321) K0 dL_law_321 rfl rfl ?_
  refine zy_arg (k := 1) (pc := 322) K0 X0 hL ei (by omega) (by decide) rfl rfl dL_law_322 dL_law_323 dL_law_325 dL_law_326 dL_law_327 ?_
  refine zy_arg (k := 2) (pc := 328) K0 X0 hL ei (by omega) (by decide) rfl rfl dL_law_328 dL_law_329 dL_law_331 dL_law_332 dL_law_333 ?_
  refine zj_aload_n (i := 3) (pc := 334) K0 dL_law_334 rfl rfl ?_
  refine zj_callSW (As := [.ref (E.2.1 0), .int (xs (i + 1)), .int (xs (i + 2)), .ref (E.2.1 88)]) (S := []) (pc := 335) K0 hZ zyg_judge zyd_judge (by decide) (m_L_judge (u := u) a.1.1 a.hJ a.1.2.2.1 a.hC hlt) (by omega) rfl (Nat.le_of_ble_eq_true rfl) dL_law_335 hr1 hr6 (fun v h1 g1 hp => ?_)
  rcases hp with ⟨rfl, r, g0, ⟨hin, hr, rfl, hk⟩, rfl⟩ | ⟨rfl, hno, rfl, rfl⟩
  · have e80 : h1 80 = h 80 := hk 80 (by decide) (by decide) (by decide) (by decide) (by decide) (by decide)
    obtain ⟨x1, x2, x3, x4⟩ := zI_m a e80
    cases hr
    refine zj_istore (pc := 338) K dL_law_338 rfl rfl rfl ?_
    refine zj_aload_n (i := 2) (pc := 340) K dL_law_340 rfl rfl ?_
    refine zy_arg (k := 1) (pc := 341) K X hL ei (by omega) (by decide) rfl rfl dL_law_341 dL_law_342 dL_law_344 dL_law_345 dL_law_346 ?_
    refine zy_arg (k := 2) (pc := 347) K X hL ei (by omega) (by decide) rfl rfl dL_law_347 dL_law_348 dL_law_350 dL_law_351 dL_law_352 ?_
    refine zj_cV2P (i := 78) (pc := 353) K lm_L_51 hs_M (m_X8_judge (u := u) x1 a.hJ x2 a.hC) (by omega) rfl (Nat.le_of_ble_eq_true rfl) dL_law_353 (fun v' h2 g2 hp2 => ?_)
    obtain ⟨rfl, hs2, hp3⟩ := hp2
    rw [if_pos hin] at hp3
    obtain ⟨rfl, h0⟩ := hp3
    refine zj_istore (pc := 356) K dL_law_356 rfl rfl rfl ?_
    refine zj_aload_n (i := 2) (pc := 358) K dL_law_358 rfl rfl ?_
    refine zj_cV0I (i := 78) (pc := 359) K lm_L_52 hs_M m_X8_thrown (by omega) rfl (Nat.le_of_ble_eq_true rfl) dL_law_359 ?_
    refine zj_iload (pc := 362) K dL_law_362 rfl ?_
    refine zj_icmp_eq (tgt := 369) (pc := 364) K dL_law_364 (by decide) (fun _ => ?_) (fun z => absurd h0 z)
    refine zj_iload (pc := 369) K dL_law_369 rfl ?_
    refine zj_if_ne (tgt := 386) (pc := 371) K dL_law_371 (by decide) (fun z => absurd rfl z) (fun _ => ?_)
    refine zj_aload_n (i := 3) (pc := 374) K dL_law_374 rfl rfl ?_
    refine zj_iconst (v := 0) (pc := 375) K dL_law_375 (by decide) ?_
    refine zj_lld (j := 0) (pc := 376) K hs_O rfl (by decide) (by decide) dL_law_376 ?_
    refine zj_iload (pc := 377) K dL_law_377 rfl ?_
    refine zj_i2l (pc := 379) K dL_law_379 ?_
    refine zj_lcmp (pc := 380) K dL_law_380 ?_
    have eq : zq_jud (zτC h J C u) (zδC h 13) (xs (i + 1)).toNatClampNeg (xs (i + 2)) = zq_jud (zτM h1 80 J C u) (zδM h1 80) (xs (i + 1)).toNatClampNeg (xs (i + 2)) := by
      rw [zτM_congr e80, zδM_congr e80]
      exact zq_jud_e (show (xs (i + 1)).toNatClampNeg < J from zyk_lt (Bool.and_eq_true_iff.mp hin).1 (by have := a.hJ; omega)) a.te a.de _
    refine zj_if_eq (tgt := 386) (pc := 381) K dL_law_381 (by decide) (fun _ => ?_) (fun z => absurd ((lg_cmp_eq _ _).mpr ?_) z)
    · refine zj_goto (tgt := 1055) (pc := 386) K dL_law_386 (by decide) ?_
      refine zj_less (L' := zyL E b xi) (fun q hq => ?_) (fin h2 _ ⟨J, C, u, n, nx, ct, zI_ask hk hs2 a⟩)
      exact zyk_mem hq
    · rw [zj_sg_eq, ← eq]; rfl
  · obtain ⟨x1, x2, x3, x4⟩ := zI_m a rfl
    refine zj_istore (pc := 338) K dL_law_338 rfl rfl rfl ?_
    refine zj_aload_n (i := 2) (pc := 340) K dL_law_340 rfl rfl ?_
    refine zy_arg (k := 1) (pc := 341) K X hL ei (by omega) (by decide) rfl rfl dL_law_341 dL_law_342 dL_law_344 dL_law_345 dL_law_346 ?_
    refine zy_arg (k := 2) (pc := 347) K X hL ei (by omega) (by decide) rfl rfl dL_law_347 dL_law_348 dL_law_350 dL_law_351 dL_law_352 ?_
    refine zj_cV2P (i := 78) (pc := 353) K lm_L_51 hs_M (m_X8_judge (u := u) x1 a.hJ x2 a.hC) (by omega) rfl (Nat.le_of_ble_eq_true rfl) dL_law_353 (fun v' h2 g2 hp2 => ?_)
    obtain ⟨rfl, hs2, hp3⟩ := hp2
    rw [if_neg (by rw [hno]; decide)] at hp3
    obtain ⟨rfl, h0⟩ := hp3
    refine zj_istore (pc := 356) K dL_law_356 rfl rfl rfl ?_
    refine zj_aload_n (i := 2) (pc := 358) K dL_law_358 rfl rfl ?_
    refine zj_cV0I (i := 78) (pc := 359) K lm_L_52 hs_M m_X8_thrown (by omega) rfl (Nat.le_of_ble_eq_true rfl) dL_law_359 ?_
    refine zj_iload (pc := 362) K dL_law_362 rfl ?_
    refine zj_icmp_eq (tgt := 369) (pc := 364) K dL_law_364 (by decide) (fun _ => ?_) (fun z => absurd h0 z)
    refine zj_iload (pc := 369) K dL_law_369 rfl ?_
    refine zj_if_ne (tgt := 386) (pc := 371) K dL_law_371 (by decide) (fun _ => ?_) (fun z => absurd z (by decide))
    refine zj_goto (tgt := 1055) (pc := 386) K dL_law_386 (by decide) ?_
    refine zj_less (L' := zyL E b xi) (fun q hq => ?_) (fin h2 _ ⟨J, C, u, n, nx, ct, zI_ask zk_q_rf hs2 a⟩)
    exact zyk_mem hq
theorem zyk_of (K0 : zj_C E (p, l, e, R, s, m, av, below, meth, c, A, Q, cells, slots) cL_law 7 RL d) (K : zj_C E (p, l, e, R, s, m, av, below, meth, c, A, Q, cells + 1, slots + 6) cL_law 7 RL d) (hZ : zx_Z s) (hlt : l.stackTraces = false) (hr1 : cells + 1 ≤ R.cells) (hr6 : slots + 6 ≤ R.slots) (hd : 10 ≤ d) (X : zy_C (p, l, e, R, s, m, av, below, meth, c, A, Q, cells, slots) b Ln xs) (hL : Ln ≤ 3072) {i : Nat} {xi : Int32} (ei : xi = nI i) (hi : i + 6 ≤ Ln) (a : zI h J C u n nx ct) (fin : ∀ h' g', zIx h' → zj_J E (p, l, e, R, s, m, av, below, meth, c, A, Q, cells + 1, slots + 6) 7 1055 (zyL E b xi) [] h' g') : zj_J E (p, l, e, R, s, m, av, below, meth, c, A, Q, cells, slots) 7 389 (zyL E b xi) [] h g := by
  have X0 : zy_C (p, l, e, R, s, m, av, below, meth, c, A, Q, cells, slots) b Ln xs := X
  have X : zy_C (p, l, e, R, s, m, av, below, meth, c, A, Q, cells + 1, slots + 6) b Ln xs := X0
  refine zj_aload_n (i := 1) (pc := 389) K0 dL_law_389 rfl rfl ?_
  refine zy_arg (k := 1) (pc := 390) K0 X0 hL ei (by omega) (by decide) rfl rfl dL_law_390 dL_law_391 dL_law_393 dL_law_394 dL_law_395 ?_
  refine zy_arg (k := 2) (pc := 396) K0 X0 hL ei (by omega) (by decide) rfl rfl dL_law_396 dL_law_397 dL_law_399 dL_law_400 dL_law_401 ?_
  refine zj_aload_n (i := 3) (pc := 402) K0 dL_law_402 rfl rfl ?_
  refine zj_callSW (As := [.ref (E.2.1 0), .int (xs (i + 1)), .int (xs (i + 2)), .ref (E.2.1 88)]) (S := []) (pc := 403) K0 hZ zyg_of zyd_of (by decide) (m_L_of (u := u) a.1.1 a.hJ a.1.2.2.1 a.hC hlt) (by omega) rfl (Nat.le_of_ble_eq_true rfl) dL_law_403 hr1 hr6 (fun v h1 g1 hp => ?_)
  rcases hp with ⟨rfl, r, g0, ⟨hin, hr, rfl, hk⟩, rfl⟩ | ⟨rfl, hno, rfl, rfl⟩
  · have e80 : h1 80 = h 80 := hk 80 (by decide) (by decide) (by decide) (by decide) (by decide) (by decide)
    obtain ⟨x1, x2, x3, x4⟩ := zI_m a e80
    cases hr
    refine zj_istore (pc := 406) K dL_law_406 rfl rfl rfl ?_
    refine zj_aload_n (i := 2) (pc := 408) K dL_law_408 rfl rfl ?_
    refine zy_arg (k := 1) (pc := 409) K X hL ei (by omega) (by decide) rfl rfl dL_law_409 dL_law_410 dL_law_412 dL_law_413 dL_law_414 ?_
    refine zy_arg (k := 2) (pc := 415) K X hL ei (by omega) (by decide) rfl rfl dL_law_415 dL_law_416 dL_law_418 dL_law_419 dL_law_420 ?_
    refine zj_cV2P (i := 78) (pc := 421) K lm_L_57 hs_M (m_X8_of (u := u) x1 a.hJ x2 a.hC) (by omega) rfl (Nat.le_of_ble_eq_true rfl) dL_law_421 (fun v' h2 g2 hp2 => ?_)
    obtain ⟨rfl, hs2, hp3⟩ := hp2
    rw [if_pos hin] at hp3
    obtain ⟨rfl, h0⟩ := hp3
    refine zj_istore (pc := 424) K dL_law_424 rfl rfl rfl ?_
    refine zj_aload_n (i := 2) (pc := 426) K dL_law_426 rfl rfl ?_
    refine zj_cV0I (i := 78) (pc := 427) K lm_L_52 hs_M m_X8_thrown (by omega) rfl (Nat.le_of_ble_eq_true rfl) dL_law_427 ?_
    refine zj_iload (pc := 430) K dL_law_430 rfl ?_
    refine zj_icmp_eq (tgt := 437) (pc := 432) K dL_law_432 (by decide) (fun _ => ?_) (fun z => absurd h0 z)
    refine zj_iload (pc := 437) K dL_law_437 rfl ?_
    refine zj_if_ne (tgt := 454) (pc := 439) K dL_law_439 (by decide) (fun z => absurd rfl z) (fun _ => ?_)
    refine zj_aload_n (i := 3) (pc := 442) K dL_law_442 rfl rfl ?_
    refine zj_iconst (v := 0) (pc := 443) K dL_law_443 (by decide) ?_
    refine zj_lld (j := 0) (pc := 444) K hs_O rfl (by decide) (by decide) dL_law_444 ?_
    refine zj_iload (pc := 445) K dL_law_445 rfl ?_
    refine zj_i2l (pc := 447) K dL_law_447 ?_
    refine zj_lcmp (pc := 448) K dL_law_448 ?_
    have eq : zq_of (zτC h J C u) (zδC h 13) (xs (i + 1)).toNatClampNeg (xs (i + 2)) = zq_of (zτM h1 80 J C u) (zδM h1 80) (xs (i + 1)).toNatClampNeg (xs (i + 2)) := by
      rw [zτM_congr e80, zδM_congr e80]
      exact zq_of_e (show (xs (i + 1)).toNatClampNeg < C from zyk_lt (Bool.and_eq_true_iff.mp hin).1 (by have := a.hC; omega)) a.te a.de _
    refine zj_if_eq (tgt := 454) (pc := 449) K dL_law_449 (by decide) (fun _ => ?_) (fun z => absurd ((lg_cmp_eq _ _).mpr ?_) z)
    · refine zj_goto (tgt := 1055) (pc := 454) K dL_law_454 (by decide) ?_
      refine zj_less (L' := zyL E b xi) (fun q hq => ?_) (fin h2 _ ⟨J, C, u, n, nx, ct, zI_ask hk hs2 a⟩)
      exact zyk_mem hq
    · rw [zj_sg_eq, ← eq]; rfl
  · obtain ⟨x1, x2, x3, x4⟩ := zI_m a rfl
    refine zj_istore (pc := 406) K dL_law_406 rfl rfl rfl ?_
    refine zj_aload_n (i := 2) (pc := 408) K dL_law_408 rfl rfl ?_
    refine zy_arg (k := 1) (pc := 409) K X hL ei (by omega) (by decide) rfl rfl dL_law_409 dL_law_410 dL_law_412 dL_law_413 dL_law_414 ?_
    refine zy_arg (k := 2) (pc := 415) K X hL ei (by omega) (by decide) rfl rfl dL_law_415 dL_law_416 dL_law_418 dL_law_419 dL_law_420 ?_
    refine zj_cV2P (i := 78) (pc := 421) K lm_L_57 hs_M (m_X8_of (u := u) x1 a.hJ x2 a.hC) (by omega) rfl (Nat.le_of_ble_eq_true rfl) dL_law_421 (fun v' h2 g2 hp2 => ?_)
    obtain ⟨rfl, hs2, hp3⟩ := hp2
    rw [if_neg (by rw [hno]; decide)] at hp3
    obtain ⟨rfl, h0⟩ := hp3
    refine zj_istore (pc := 424) K dL_law_424 rfl rfl rfl ?_
    refine zj_aload_n (i := 2) (pc := 426) K dL_law_426 rfl rfl ?_
    refine zj_cV0I (i := 78) (pc := 427) K lm_L_52 hs_M m_X8_thrown (by omega) rfl (Nat.le_of_ble_eq_true rfl) dL_law_427 ?_
    refine zj_iload (pc := 430) K dL_law_430 rfl ?_
    refine zj_icmp_eq (tgt := 437) (pc := 432) K dL_law_432 (by decide) (fun _ => ?_) (fun z => absurd h0 z)
    refine zj_iload (pc := 437) K dL_law_437 rfl ?_
    refine zj_if_ne (tgt := 454) (pc := 439) K dL_law_439 (by decide) (fun _ => ?_) (fun z => absurd z (by decide))
    refine zj_goto (tgt := 1055) (pc := 454) K dL_law_454 (by decide) ?_
    refine zj_less (L' := zyL E b xi) (fun q hq => ?_) (fin h2 _ ⟨J, C, u, n, nx, ct, zI_ask zk_q_rf hs2 a⟩)
    exact zyk_mem hq
theorem zyk_pair (K : zj_C E Γ cL_law 7 RL d) (hd : 10 ≤ d) (X : zy_C Γ b Ln xs) (hL : Ln ≤ 3072) {i : Nat} {xi : Int32} (ei : xi = nI i) (hi : i + 6 ≤ Ln) (a : zI h J C u n nx ct) (fin : ∀ h' g', zIx h' → zj_J E Γ 7 1055 (zyL E b xi) [] h' g') : zj_J E Γ 7 457 (zyL E b xi) [] h g := by
  obtain ⟨P7, M7, T⟩ := zy_pair (l := Γ.2.1) (E := E) a (w1 := xs (i + 1)) (w2 := xs (i + 2)) g
  refine zj_aload_n (i := 1) (pc := 457) K dL_law_457 rfl rfl ?_
  refine zy_arg (k := 1) (pc := 458) K X hL ei (by omega) (by decide) rfl rfl dL_law_458 dL_law_459 dL_law_461 dL_law_462 dL_law_463 ?_
  refine zy_arg (k := 2) (pc := 464) K X hL ei (by omega) (by decide) rfl rfl dL_law_464 dL_law_465 dL_law_467 dL_law_468 dL_law_469 ?_
  refine zj_cV2P (i := 0) (pc := 470) K lm_L_58 hs_B M7 (by omega) rfl (Nat.le_of_ble_eq_true rfl) dL_law_470 (fun v h1 g1 hp => ?_)
  obtain ⟨r, rfl, P8, M8, T⟩ := T v h1 g1 hp
  refine zj_aload_n (i := 2) (pc := 473) K dL_law_473 rfl rfl ?_
  refine zy_arg (k := 1) (pc := 474) K X hL ei (by omega) (by decide) rfl rfl dL_law_474 dL_law_475 dL_law_477 dL_law_478 dL_law_479 ?_
  refine zy_arg (k := 2) (pc := 480) K X hL ei (by omega) (by decide) rfl rfl dL_law_480 dL_law_481 dL_law_483 dL_law_484 dL_law_485 ?_
  refine zj_cV2P (i := 78) (pc := 486) K lm_L_61 hs_M M8 (by omega) rfl (Nat.le_of_ble_eq_true rfl) dL_law_486 (fun v' h2 g2 hp2 => ?_)
  obtain ⟨rfl, hz⟩ := T v' h2 g2 hp2
  exact zj_icmp_eq (tgt := 1055) (pc := 489) K dL_law_489 (by decide) (fun _ => fin h2 g2 hz) (fun z => absurd rfl z)
theorem zyk_spread (K : zj_C E Γ cL_law 7 RL d) (hd : 10 ≤ d) (X : zy_C Γ b Ln xs) (hL : Ln ≤ 3072) {i : Nat} {xi : Int32} (ei : xi = nI i) (hi : i + 6 ≤ Ln) (a : zI h J C u n nx ct) (fin : ∀ h' g', zIx h' → zj_J E Γ 7 1055 (zyL E b xi) [] h' g') : zj_J E Γ 7 494 (zyL E b xi) [] h g := by
  obtain ⟨P7, M7, T⟩ := zy_spread (l := Γ.2.1) (E := E) a (w1 := xs (i + 1)) g
  refine zj_aload_n (i := 1) (pc := 494) K dL_law_494 rfl rfl ?_
  refine zy_arg (k := 1) (pc := 495) K X hL ei (by omega) (by decide) rfl rfl dL_law_495 dL_law_496 dL_law_498 dL_law_499 dL_law_500 ?_
  refine zj_cV1P (i := 0) (pc := 501) K lm_L_62 hs_B M7 (by omega) rfl (Nat.le_of_ble_eq_true rfl) dL_law_501 (fun v h1 g1 hp => ?_)
  obtain ⟨r, rfl, P8, M8, T⟩ := T v h1 g1 hp
  refine zj_aload_n (i := 2) (pc := 504) K dL_law_504 rfl rfl ?_
  refine zy_arg (k := 1) (pc := 505) K X hL ei (by omega) (by decide) rfl rfl dL_law_505 dL_law_506 dL_law_508 dL_law_509 dL_law_510 ?_
  refine zj_cV1P (i := 78) (pc := 511) K lm_L_65 hs_M M8 (by omega) rfl (Nat.le_of_ble_eq_true rfl) dL_law_511 (fun v' h2 g2 hp2 => ?_)
  obtain ⟨rfl, hz⟩ := T v' h2 g2 hp2
  exact zj_icmp_eq (tgt := 1055) (pc := 514) K dL_law_514 (by decide) (fun _ => fin h2 g2 hz) (fun z => absurd rfl z)
theorem zyk_lawful (K : zj_C E Γ cL_law 7 RL d) (hd : 10 ≤ d) (X : zy_C Γ b Ln xs) (hL : Ln ≤ 3072) {i : Nat} {xi : Int32} (ei : xi = nI i) (hi : i + 6 ≤ Ln) (a : zI h J C u n nx ct) (fin : ∀ h' g', zIx h' → zj_J E Γ 7 1055 (zyL E b xi) [] h' g') : zj_J E Γ 7 519 (zyL E b xi) [] h g := by
  obtain ⟨P7, M7, T⟩ := zy_lawful (l := Γ.2.1) (E := E) a (w1 := xs (i + 1)) g
  refine zj_aload_n (i := 1) (pc := 519) K dL_law_519 rfl rfl ?_
  refine zy_arg (k := 1) (pc := 520) K X hL ei (by omega) (by decide) rfl rfl dL_law_520 dL_law_521 dL_law_523 dL_law_524 dL_law_525 ?_
  refine zj_cV1P (i := 0) (pc := 526) K lm_L_66 hs_B M7 (by omega) rfl (Nat.le_of_ble_eq_true rfl) dL_law_526 (fun v h1 g1 hp => ?_)
  obtain ⟨r, rfl, P8, M8, T⟩ := T v h1 g1 hp
  refine zj_aload_n (i := 2) (pc := 529) K dL_law_529 rfl rfl ?_
  refine zy_arg (k := 1) (pc := 530) K X hL ei (by omega) (by decide) rfl rfl dL_law_530 dL_law_531 dL_law_533 dL_law_534 dL_law_535 ?_
  refine zj_cV1P (i := 78) (pc := 536) K lm_L_69 hs_M M8 (by omega) rfl (Nat.le_of_ble_eq_true rfl) dL_law_536 (fun v' h2 g2 hp2 => ?_)
  obtain ⟨rfl, hz⟩ := T v' h2 g2 hp2
  exact zj_icmp_eq (tgt := 1055) (pc := 539) K dL_law_539 (by decide) (fun _ => fin h2 g2 hz) (fun z => absurd rfl z)
theorem zyk_bench (K : zj_C E Γ cL_law 7 RL d) (hd : 10 ≤ d) (X : zy_C Γ b Ln xs) (hL : Ln ≤ 3072) {i : Nat} {xi : Int32} (ei : xi = nI i) (hi : i + 6 ≤ Ln) (a : zI h J C u n nx ct) (fin : ∀ h' g', zIx h' → zj_J E Γ 7 1055 (zyL E b xi) [] h' g') : zj_J E Γ 7 544 (zyL E b xi) [] h g := by
  obtain ⟨P7, M7, T⟩ := zy_bench (l := Γ.2.1) (E := E) a (w1 := xs (i + 1)) (w2 := xs (i + 2)) g
  refine zj_aload_n (i := 1) (pc := 544) K dL_law_544 rfl rfl ?_
  refine zy_arg (k := 1) (pc := 545) K X hL ei (by omega) (by decide) rfl rfl dL_law_545 dL_law_546 dL_law_548 dL_law_549 dL_law_550 ?_
  refine zy_arg (k := 2) (pc := 551) K X hL ei (by omega) (by decide) rfl rfl dL_law_551 dL_law_552 dL_law_554 dL_law_555 dL_law_556 ?_
  refine zj_cV2P (i := 0) (pc := 557) K lm_L_70 hs_B M7 (by omega) rfl (Nat.le_of_ble_eq_true rfl) dL_law_557 (fun v h1 g1 hp => ?_)
  obtain ⟨r, rfl, P8, M8, T⟩ := T v h1 g1 hp
  refine zj_aload_n (i := 2) (pc := 560) K dL_law_560 rfl rfl ?_
  refine zy_arg (k := 1) (pc := 561) K X hL ei (by omega) (by decide) rfl rfl dL_law_561 dL_law_562 dL_law_564 dL_law_565 dL_law_566 ?_
  refine zy_arg (k := 2) (pc := 567) K X hL ei (by omega) (by decide) rfl rfl dL_law_567 dL_law_568 dL_law_570 dL_law_571 dL_law_572 ?_
  refine zj_cV2P (i := 78) (pc := 573) K lm_L_73 hs_M M8 (by omega) rfl (Nat.le_of_ble_eq_true rfl) dL_law_573 (fun v' h2 g2 hp2 => ?_)
  obtain ⟨rfl, hz⟩ := T v' h2 g2 hp2
  exact zj_icmp_eq (tgt := 1055) (pc := 576) K dL_law_576 (by decide) (fun _ => fin h2 g2 hz) (fun z => absurd rfl z)
theorem zyk_rank (K : zj_C E Γ cL_law 7 RL d) (hd : 10 ≤ d) (X : zy_C Γ b Ln xs) (hL : Ln ≤ 3072) {i : Nat} {xi : Int32} (ei : xi = nI i) (hi : i + 6 ≤ Ln) (a : zI h J C u n nx ct) (fin : ∀ h' g', zIx h' → zj_J E Γ 7 1055 (zyL E b xi) [] h' g') : zj_J E Γ 7 581 (zyL E b xi) [] h g := by
  obtain ⟨P7, M7, T⟩ := zy_rank (l := Γ.2.1) (E := E) a (w1 := xs (i + 1)) (w2 := xs (i + 2)) g
  refine zj_aload_n (i := 1) (pc := 581) K dL_law_581 rfl rfl ?_
  refine zy_arg (k := 1) (pc := 582) K X hL ei (by omega) (by decide) rfl rfl dL_law_582 dL_law_583 dL_law_585 dL_law_586 dL_law_587 ?_
  refine zy_arg (k := 2) (pc := 588) K X hL ei (by omega) (by decide) rfl rfl dL_law_588 dL_law_589 dL_law_591 dL_law_592 dL_law_593 ?_
  refine zj_cV2P (i := 0) (pc := 594) K lm_L_74 hs_B M7 (by omega) rfl (Nat.le_of_ble_eq_true rfl) dL_law_594 (fun v h1 g1 hp => ?_)
  obtain ⟨r, rfl, P8, M8, T⟩ := T v h1 g1 hp
  refine zj_aload_n (i := 2) (pc := 597) K dL_law_597 rfl rfl ?_
  refine zy_arg (k := 1) (pc := 598) K X hL ei (by omega) (by decide) rfl rfl dL_law_598 dL_law_599 dL_law_601 dL_law_602 dL_law_603 ?_
  refine zy_arg (k := 2) (pc := 604) K X hL ei (by omega) (by decide) rfl rfl dL_law_604 dL_law_605 dL_law_607 dL_law_608 dL_law_609 ?_
  refine zj_cV2P (i := 78) (pc := 610) K lm_L_77 hs_M M8 (by omega) rfl (Nat.le_of_ble_eq_true rfl) dL_law_610 (fun v' h2 g2 hp2 => ?_)
  obtain ⟨rfl, hz⟩ := T v' h2 g2 hp2
  exact zj_icmp_eq (tgt := 1055) (pc := 613) K dL_law_613 (by decide) (fun _ => fin h2 g2 hz) (fun z => absurd rfl z)
theorem zyk_tension (K : zj_C E Γ cL_law 7 RL d) (hd : 10 ≤ d) (X : zy_C Γ b Ln xs) (hL : Ln ≤ 3072) {i : Nat} {xi : Int32} (ei : xi = nI i) (hi : i + 6 ≤ Ln) (a : zI h J C u n nx ct) (fin : ∀ h' g', zIx h' → zj_J E Γ 7 1055 (zyL E b xi) [] h' g') : zj_J E Γ 7 618 (zyL E b xi) [] h g := by
  obtain ⟨P7, M7, T⟩ := zy_tension (l := Γ.2.1) (E := E) a (w1 := xs (i + 1)) (w2 := xs (i + 2)) g
  refine zj_aload_n (i := 1) (pc := 618) K dL_law_618 rfl rfl ?_
  refine zy_arg (k := 1) (pc := 619) K X hL ei (by omega) (by decide) rfl rfl dL_law_619 dL_law_620 dL_law_622 dL_law_623 dL_law_624 ?_
  refine zy_arg (k := 2) (pc := 625) K X hL ei (by omega) (by decide) rfl rfl dL_law_625 dL_law_626 dL_law_628 dL_law_629 dL_law_630 ?_
  refine zj_cV2P (i := 0) (pc := 631) K lm_L_78 hs_B M7 (by omega) rfl (Nat.le_of_ble_eq_true rfl) dL_law_631 (fun v h1 g1 hp => ?_)
  obtain ⟨r, rfl, P8, M8, T⟩ := T v h1 g1 hp
  refine zj_aload_n (i := 2) (pc := 634) K dL_law_634 rfl rfl ?_
  refine zy_arg (k := 1) (pc := 635) K X hL ei (by omega) (by decide) rfl rfl dL_law_635 dL_law_636 dL_law_638 dL_law_639 dL_law_640 ?_
  refine zy_arg (k := 2) (pc := 641) K X hL ei (by omega) (by decide) rfl rfl dL_law_641 dL_law_642 dL_law_644 dL_law_645 dL_law_646 ?_
  refine zj_cV2P (i := 78) (pc := 647) K lm_L_81 hs_M M8 (by omega) rfl (Nat.le_of_ble_eq_true rfl) dL_law_647 (fun v' h2 g2 hp2 => ?_)
  obtain ⟨rfl, hz⟩ := T v' h2 g2 hp2
  exact zj_icmp_eq (tgt := 1055) (pc := 650) K dL_law_650 (by decide) (fun _ => fin h2 g2 hz) (fun z => absurd rfl z)
theorem zyk_pool (K : zj_C E Γ cL_law 7 RL d) (hd : 10 ≤ d) (X : zy_C Γ b Ln xs) (hL : Ln ≤ 3072) {i : Nat} {xi : Int32} (ei : xi = nI i) (hi : i + 6 ≤ Ln) (a : zI h J C u n nx ct) (fin : ∀ h' g', zIx h' → zj_J E Γ 7 1055 (zyL E b xi) [] h' g') : zj_J E Γ 7 655 (zyL E b xi) [] h g := by
  obtain ⟨P7, M7, T⟩ := zy_pool (l := Γ.2.1) (E := E) a (w1 := xs (i + 1)) g
  refine zj_aload_n (i := 1) (pc := 655) K dL_law_655 rfl rfl ?_
  refine zy_arg (k := 1) (pc := 656) K X hL ei (by omega) (by decide) rfl rfl dL_law_656 dL_law_657 dL_law_659 dL_law_660 dL_law_661 ?_
  refine zj_cV1P (i := 0) (pc := 662) K lm_L_82 hs_B M7 (by omega) rfl (Nat.le_of_ble_eq_true rfl) dL_law_662 (fun v h1 g1 hp => ?_)
  obtain ⟨r, rfl, P8, M8, T⟩ := T v h1 g1 hp
  refine zj_aload_n (i := 2) (pc := 665) K dL_law_665 rfl rfl ?_
  refine zy_arg (k := 1) (pc := 666) K X hL ei (by omega) (by decide) rfl rfl dL_law_666 dL_law_667 dL_law_669 dL_law_670 dL_law_671 ?_
  refine zj_cV1P (i := 78) (pc := 672) K lm_L_85 hs_M M8 (by omega) rfl (Nat.le_of_ble_eq_true rfl) dL_law_672 (fun v' h2 g2 hp2 => ?_)
  obtain ⟨rfl, hz⟩ := T v' h2 g2 hp2
  exact zj_icmp_eq (tgt := 1055) (pc := 675) K dL_law_675 (by decide) (fun _ => fin h2 g2 hz) (fun z => absurd rfl z)
theorem zyk_chances (K : zj_C E Γ cL_law 7 RL d) (hd : 10 ≤ d) (X : zy_C Γ b Ln xs) (hL : Ln ≤ 3072) {i : Nat} {xi : Int32} (ei : xi = nI i) (hi : i + 6 ≤ Ln) (a : zI h J C u n nx ct) (fin : ∀ h' g', zIx h' → zj_J E Γ 7 1055 (zyL E b xi) [] h' g') : zj_J E Γ 7 680 (zyL E b xi) [] h g := by
  obtain ⟨P7, M7, T⟩ := zy_chances (l := Γ.2.1) (E := E) a (w1 := xs (i + 1)) (w2 := xs (i + 2)) g
  refine zj_aload_n (i := 1) (pc := 680) K dL_law_680 rfl rfl ?_
  refine zy_arg (k := 1) (pc := 681) K X hL ei (by omega) (by decide) rfl rfl dL_law_681 dL_law_682 dL_law_684 dL_law_685 dL_law_686 ?_
  refine zy_arg (k := 2) (pc := 687) K X hL ei (by omega) (by decide) rfl rfl dL_law_687 dL_law_688 dL_law_690 dL_law_691 dL_law_692 ?_
  refine zj_cV2P (i := 0) (pc := 693) K lm_L_86 hs_B M7 (by omega) rfl (Nat.le_of_ble_eq_true rfl) dL_law_693 (fun v h1 g1 hp => ?_)
  obtain ⟨r, rfl, P8, M8, T⟩ := T v h1 g1 hp
  refine zj_aload_n (i := 2) (pc := 696) K dL_law_696 rfl rfl ?_
  refine zy_arg (k := 1) (pc := 697) K X hL ei (by omega) (by decide) rfl rfl dL_law_697 dL_law_698 dL_law_700 dL_law_701 dL_law_702 ?_
  refine zy_arg (k := 2) (pc := 703) K X hL ei (by omega) (by decide) rfl rfl dL_law_703 dL_law_704 dL_law_706 dL_law_707 dL_law_708 ?_
  refine zj_cV2P (i := 78) (pc := 709) K lm_L_89 hs_M M8 (by omega) rfl (Nat.le_of_ble_eq_true rfl) dL_law_709 (fun v' h2 g2 hp2 => ?_)
  obtain ⟨rfl, hz⟩ := T v' h2 g2 hp2
  exact zj_icmp_eq (tgt := 1055) (pc := 712) K dL_law_712 (by decide) (fun _ => fin h2 g2 hz) (fun z => absurd rfl z)
theorem zyk_worst (K : zj_C E Γ cL_law 7 RL d) (hd : 10 ≤ d) (X : zy_C Γ b Ln xs) (hL : Ln ≤ 3072) {i : Nat} {xi : Int32} (ei : xi = nI i) (hi : i + 6 ≤ Ln) (a : zI h J C u n nx ct) (fin : ∀ h' g', zIx h' → zj_J E Γ 7 1055 (zyL E b xi) [] h' g') : zj_J E Γ 7 717 (zyL E b xi) [] h g := by
  obtain ⟨P7, M7, T⟩ := zy_worst (l := Γ.2.1) (E := E) a (w1 := xs (i + 1)) g
  refine zj_aload_n (i := 1) (pc := 717) K dL_law_717 rfl rfl ?_
  refine zy_arg (k := 1) (pc := 718) K X hL ei (by omega) (by decide) rfl rfl dL_law_718 dL_law_719 dL_law_721 dL_law_722 dL_law_723 ?_
  refine zj_cV1P (i := 0) (pc := 724) K lm_L_90 hs_B M7 (by omega) rfl (Nat.le_of_ble_eq_true rfl) dL_law_724 (fun v h1 g1 hp => ?_)
  obtain ⟨r, rfl, P8, M8, T⟩ := T v h1 g1 hp
  refine zj_aload_n (i := 2) (pc := 727) K dL_law_727 rfl rfl ?_
  refine zy_arg (k := 1) (pc := 728) K X hL ei (by omega) (by decide) rfl rfl dL_law_728 dL_law_729 dL_law_731 dL_law_732 dL_law_733 ?_
  refine zj_cV1P (i := 78) (pc := 734) K lm_L_93 hs_M M8 (by omega) rfl (Nat.le_of_ble_eq_true rfl) dL_law_734 (fun v' h2 g2 hp2 => ?_)
  obtain ⟨rfl, hz⟩ := T v' h2 g2 hp2
  exact zj_icmp_eq (tgt := 1055) (pc := 737) K dL_law_737 (by decide) (fun _ => fin h2 g2 hz) (fun z => absurd rfl z)
theorem zyk_draw (K : zj_C E Γ cL_law 7 RL d) (hd : 10 ≤ d) (X : zy_C Γ b Ln xs) (hL : Ln ≤ 3072) {i : Nat} {xi : Int32} (ei : xi = nI i) (hi : i + 6 ≤ Ln) (a : zI h J C u n nx ct) (fin : ∀ h' g', zIx h' → zj_J E Γ 7 1055 (zyL E b xi) [] h' g') : zj_J E Γ 7 742 (zyL E b xi) [] h g := by
  obtain ⟨P7, M7, T⟩ := zy_draw (l := Γ.2.1) (E := E) a (w1 := xs (i + 1)) g
  refine zj_aload_n (i := 1) (pc := 742) K dL_law_742 rfl rfl ?_
  refine zy_arg (k := 1) (pc := 743) K X hL ei (by omega) (by decide) rfl rfl dL_law_743 dL_law_744 dL_law_746 dL_law_747 dL_law_748 ?_
  refine zj_cV1P (i := 0) (pc := 749) K lm_L_94 hs_B M7 (by omega) rfl (Nat.le_of_ble_eq_true rfl) dL_law_749 (fun v h1 g1 hp => ?_)
  obtain ⟨r, rfl, P8, M8, T⟩ := T v h1 g1 hp
  refine zj_aload_n (i := 2) (pc := 752) K dL_law_752 rfl rfl ?_
  refine zy_arg (k := 1) (pc := 753) K X hL ei (by omega) (by decide) rfl rfl dL_law_753 dL_law_754 dL_law_756 dL_law_757 dL_law_758 ?_
  refine zj_cV1P (i := 78) (pc := 759) K lm_L_97 hs_M M8 (by omega) rfl (Nat.le_of_ble_eq_true rfl) dL_law_759 (fun v' h2 g2 hp2 => ?_)
  obtain ⟨rfl, hz⟩ := T v' h2 g2 hp2
  exact zj_icmp_eq (tgt := 1055) (pc := 762) K dL_law_762 (by decide) (fun _ => fin h2 g2 hz) (fun z => absurd rfl z)
theorem zyk_drawAll (K : zj_C E Γ cL_law 7 RL d) (hd : 10 ≤ d) (X : zy_C Γ b Ln xs) (hL : Ln ≤ 3072) {i : Nat} {xi : Int32} (ei : xi = nI i) (hi : i + 6 ≤ Ln) (a : zI h J C u n nx ct) (fin : ∀ h' g', zIx h' → zj_J E Γ 7 1055 (zyL E b xi) [] h' g') : zj_J E Γ 7 767 (zyL E b xi) [] h g := by
  obtain ⟨P7, M7, T⟩ := zy_drawAll (l := Γ.2.1) (E := E) a  g
  refine zj_aload_n (i := 1) (pc := 767) K dL_law_767 rfl rfl ?_
  refine zj_cV0P (i := 0) (pc := 768) K lm_L_98 hs_B M7 (by omega) rfl (Nat.le_of_ble_eq_true rfl) dL_law_768 (fun v h1 g1 hp => ?_)
  obtain ⟨r, rfl, P8, M8, T⟩ := T v h1 g1 hp
  refine zj_aload_n (i := 2) (pc := 771) K dL_law_771 rfl rfl ?_
  refine zj_cV0P (i := 78) (pc := 772) K lm_L_101 hs_M M8 (by omega) rfl (Nat.le_of_ble_eq_true rfl) dL_law_772 (fun v' h2 g2 hp2 => ?_)
  obtain ⟨rfl, hz⟩ := T v' h2 g2 hp2
  exact zj_icmp_eq (tgt := 1055) (pc := 775) K dL_law_775 (by decide) (fun _ => fin h2 g2 hz) (fun z => absurd rfl z)
theorem zyk_recuse (K : zj_C E Γ cL_law 7 RL d) (hd : 10 ≤ d) (X : zy_C Γ b Ln xs) (hL : Ln ≤ 3072) {i : Nat} {xi : Int32} (ei : xi = nI i) (hi : i + 6 ≤ Ln) (a : zI h J C u n nx ct) (fin : ∀ h' g', zIx h' → zj_J E Γ 7 1055 (zyL E b xi) [] h' g') : zj_J E Γ 7 780 (zyL E b xi) [] h g := by
  obtain ⟨P7, M7, T⟩ := zy_recuse (l := Γ.2.1) (E := E) a (w1 := xs (i + 1)) (w2 := xs (i + 2)) g
  refine zj_aload_n (i := 1) (pc := 780) K dL_law_780 rfl rfl ?_
  refine zy_arg (k := 1) (pc := 781) K X hL ei (by omega) (by decide) rfl rfl dL_law_781 dL_law_782 dL_law_784 dL_law_785 dL_law_786 ?_
  refine zy_arg (k := 2) (pc := 787) K X hL ei (by omega) (by decide) rfl rfl dL_law_787 dL_law_788 dL_law_790 dL_law_791 dL_law_792 ?_
  refine zj_cV2P (i := 0) (pc := 793) K lm_L_102 hs_B M7 (by omega) rfl (Nat.le_of_ble_eq_true rfl) dL_law_793 (fun v h1 g1 hp => ?_)
  obtain ⟨r, rfl, P8, M8, T⟩ := T v h1 g1 hp
  refine zj_aload_n (i := 2) (pc := 796) K dL_law_796 rfl rfl ?_
  refine zy_arg (k := 1) (pc := 797) K X hL ei (by omega) (by decide) rfl rfl dL_law_797 dL_law_798 dL_law_800 dL_law_801 dL_law_802 ?_
  refine zy_arg (k := 2) (pc := 803) K X hL ei (by omega) (by decide) rfl rfl dL_law_803 dL_law_804 dL_law_806 dL_law_807 dL_law_808 ?_
  refine zj_cV2P (i := 78) (pc := 809) K lm_L_105 hs_M M8 (by omega) rfl (Nat.le_of_ble_eq_true rfl) dL_law_809 (fun v' h2 g2 hp2 => ?_)
  obtain ⟨rfl, hz⟩ := T v' h2 g2 hp2
  exact zj_icmp_eq (tgt := 1055) (pc := 812) K dL_law_812 (by decide) (fun _ => fin h2 g2 hz) (fun z => absurd rfl z)
theorem zyk_leave (K : zj_C E Γ cL_law 7 RL d) (hd : 10 ≤ d) (X : zy_C Γ b Ln xs) (hL : Ln ≤ 3072) {i : Nat} {xi : Int32} (ei : xi = nI i) (hi : i + 6 ≤ Ln) (a : zI h J C u n nx ct) (fin : ∀ h' g', zIx h' → zj_J E Γ 7 1055 (zyL E b xi) [] h' g') : zj_J E Γ 7 817 (zyL E b xi) [] h g := by
  obtain ⟨P7, M7, T⟩ := zy_leave (l := Γ.2.1) (E := E) a (w1 := xs (i + 1)) g
  refine zj_aload_n (i := 1) (pc := 817) K dL_law_817 rfl rfl ?_
  refine zy_arg (k := 1) (pc := 818) K X hL ei (by omega) (by decide) rfl rfl dL_law_818 dL_law_819 dL_law_821 dL_law_822 dL_law_823 ?_
  refine zj_cV1P (i := 0) (pc := 824) K lm_L_106 hs_B M7 (by omega) rfl (Nat.le_of_ble_eq_true rfl) dL_law_824 (fun v h1 g1 hp => ?_)
  obtain ⟨r, rfl, P8, M8, T⟩ := T v h1 g1 hp
  refine zj_aload_n (i := 2) (pc := 827) K dL_law_827 rfl rfl ?_
  refine zy_arg (k := 1) (pc := 828) K X hL ei (by omega) (by decide) rfl rfl dL_law_828 dL_law_829 dL_law_831 dL_law_832 dL_law_833 ?_
  refine zj_cV1P (i := 78) (pc := 834) K lm_L_109 hs_M M8 (by omega) rfl (Nat.le_of_ble_eq_true rfl) dL_law_834 (fun v' h2 g2 hp2 => ?_)
  obtain ⟨rfl, hz⟩ := T v' h2 g2 hp2
  exact zj_icmp_eq (tgt := 1055) (pc := 837) K dL_law_837 (by decide) (fun _ => fin h2 g2 hz) (fun z => absurd rfl z)
theorem zyk_come (K : zj_C E Γ cL_law 7 RL d) (hd : 10 ≤ d) (X : zy_C Γ b Ln xs) (hL : Ln ≤ 3072) {i : Nat} {xi : Int32} (ei : xi = nI i) (hi : i + 6 ≤ Ln) (a : zI h J C u n nx ct) (fin : ∀ h' g', zIx h' → zj_J E Γ 7 1055 (zyL E b xi) [] h' g') : zj_J E Γ 7 842 (zyL E b xi) [] h g := by
  obtain ⟨P7, M7, T⟩ := zy_come (l := Γ.2.1) (E := E) a (w1 := xs (i + 1)) g
  refine zj_aload_n (i := 1) (pc := 842) K dL_law_842 rfl rfl ?_
  refine zy_arg (k := 1) (pc := 843) K X hL ei (by omega) (by decide) rfl rfl dL_law_843 dL_law_844 dL_law_846 dL_law_847 dL_law_848 ?_
  refine zj_cV1P (i := 0) (pc := 849) K lm_L_110 hs_B M7 (by omega) rfl (Nat.le_of_ble_eq_true rfl) dL_law_849 (fun v h1 g1 hp => ?_)
  obtain ⟨r, rfl, P8, M8, T⟩ := T v h1 g1 hp
  refine zj_aload_n (i := 2) (pc := 852) K dL_law_852 rfl rfl ?_
  refine zy_arg (k := 1) (pc := 853) K X hL ei (by omega) (by decide) rfl rfl dL_law_853 dL_law_854 dL_law_856 dL_law_857 dL_law_858 ?_
  refine zj_cV1P (i := 78) (pc := 859) K lm_L_113 hs_M M8 (by omega) rfl (Nat.le_of_ble_eq_true rfl) dL_law_859 (fun v' h2 g2 hp2 => ?_)
  obtain ⟨rfl, hz⟩ := T v' h2 g2 hp2
  exact zj_icmp_eq (tgt := 1055) (pc := 862) K dL_law_862 (by decide) (fun _ => fin h2 g2 hz) (fun z => absurd rfl z)
theorem zyk_hear (K : zj_C E Γ cL_law 7 RL d) (hd : 10 ≤ d) (X : zy_C Γ b Ln xs) (hL : Ln ≤ 3072) {i : Nat} {xi : Int32} (ei : xi = nI i) (hi : i + 6 ≤ Ln) (a : zI h J C u n nx ct) (fin : ∀ h' g', zIx h' → zj_J E Γ 7 1055 (zyL E b xi) [] h' g') : zj_J E Γ 7 867 (zyL E b xi) [] h g := by
  obtain ⟨P7, M7, T⟩ := zy_hear (l := Γ.2.1) (E := E) a (w1 := xs (i + 1)) g
  refine zj_aload_n (i := 1) (pc := 867) K dL_law_867 rfl rfl ?_
  refine zy_arg (k := 1) (pc := 868) K X hL ei (by omega) (by decide) rfl rfl dL_law_868 dL_law_869 dL_law_871 dL_law_872 dL_law_873 ?_
  refine zj_cV1P (i := 0) (pc := 874) K lm_L_114 hs_B M7 (by omega) rfl (Nat.le_of_ble_eq_true rfl) dL_law_874 (fun v h1 g1 hp => ?_)
  obtain ⟨r, rfl, P8, M8, T⟩ := T v h1 g1 hp
  refine zj_aload_n (i := 2) (pc := 877) K dL_law_877 rfl rfl ?_
  refine zy_arg (k := 1) (pc := 878) K X hL ei (by omega) (by decide) rfl rfl dL_law_878 dL_law_879 dL_law_881 dL_law_882 dL_law_883 ?_
  refine zj_cV1P (i := 78) (pc := 884) K lm_L_117 hs_M M8 (by omega) rfl (Nat.le_of_ble_eq_true rfl) dL_law_884 (fun v' h2 g2 hp2 => ?_)
  obtain ⟨rfl, hz⟩ := T v' h2 g2 hp2
  exact zj_icmp_eq (tgt := 1055) (pc := 887) K dL_law_887 (by decide) (fun _ => fin h2 g2 hz) (fun z => absurd rfl z)
theorem zyk_evenness (K : zj_C E Γ cL_law 7 RL d) (hd : 10 ≤ d) (X : zy_C Γ b Ln xs) (hL : Ln ≤ 3072) {i : Nat} {xi : Int32} (ei : xi = nI i) (hi : i + 6 ≤ Ln) (a : zI h J C u n nx ct) (fin : ∀ h' g', zIx h' → zj_J E Γ 7 1055 (zyL E b xi) [] h' g') : zj_J E Γ 7 892 (zyL E b xi) [] h g := by
  obtain ⟨P7, M7, T⟩ := zy_evenness (l := Γ.2.1) (E := E) a  g
  refine zj_aload_n (i := 1) (pc := 892) K dL_law_892 rfl rfl ?_
  refine zj_cV0P (i := 0) (pc := 893) K lm_L_118 hs_B M7 (by omega) rfl (Nat.le_of_ble_eq_true rfl) dL_law_893 (fun v h1 g1 hp => ?_)
  obtain ⟨r, rfl, P8, M8, T⟩ := T v h1 g1 hp
  refine zj_aload_n (i := 2) (pc := 896) K dL_law_896 rfl rfl ?_
  refine zj_cV0P (i := 78) (pc := 897) K lm_L_121 hs_M M8 (by omega) rfl (Nat.le_of_ble_eq_true rfl) dL_law_897 (fun v' h2 g2 hp2 => ?_)
  obtain ⟨rfl, hz⟩ := T v' h2 g2 hp2
  exact zj_icmp_eq (tgt := 1055) (pc := 900) K dL_law_900 (by decide) (fun _ => fin h2 g2 hz) (fun z => absurd rfl z)
theorem zyk_better (K : zj_C E Γ cL_law 7 RL d) (hd : 10 ≤ d) (X : zy_C Γ b Ln xs) (hL : Ln ≤ 3072) {i : Nat} {xi : Int32} (ei : xi = nI i) (hi : i + 6 ≤ Ln) (a : zI h J C u n nx ct) (fin : ∀ h' g', zIx h' → zj_J E Γ 7 1055 (zyL E b xi) [] h' g') : zj_J E Γ 7 905 (zyL E b xi) [] h g := by
  obtain ⟨P7, M7, T⟩ := zy_btr (l := Γ.2.1) (E := E) a (w1 := xs (i + 1)) g
  refine zj_aload_n (i := 1) (pc := 905) K dL_law_905 rfl rfl ?_
  refine zy_arg (k := 1) (pc := 906) K X hL ei (by omega) (by decide) rfl rfl dL_law_906 dL_law_907 dL_law_909 dL_law_910 dL_law_911 ?_
  refine zj_cV1P (i := 0) (pc := 912) K lm_L_122 hs_B M7 (by omega) rfl (Nat.le_of_ble_eq_true rfl) dL_law_912 (fun v h1 g1 hp => ?_)
  obtain ⟨r, rfl, P8, M8, T⟩ := T v h1 g1 hp
  refine zj_aload_n (i := 2) (pc := 915) K dL_law_915 rfl rfl ?_
  refine zy_arg (k := 1) (pc := 916) K X hL ei (by omega) (by decide) rfl rfl dL_law_916 dL_law_917 dL_law_919 dL_law_920 dL_law_921 ?_
  refine zj_cV1P (i := 78) (pc := 922) K lm_L_125 hs_M M8 (by omega) rfl (Nat.le_of_ble_eq_true rfl) dL_law_922 (fun v' h2 g2 hp2 => ?_)
  obtain ⟨rfl, hz⟩ := T v' h2 g2 hp2
  exact zj_icmp_eq (tgt := 1055) (pc := 925) K dL_law_925 (by decide) (fun _ => fin h2 g2 hz) (fun z => absurd rfl z)
theorem zyk_exchange (K : zj_C E Γ cL_law 7 RL d) (hd : 10 ≤ d) (X : zy_C Γ b Ln xs) (hL : Ln ≤ 3072) {i : Nat} {xi : Int32} (ei : xi = nI i) (hi : i + 6 ≤ Ln) (a : zI h J C u n nx ct) (fin : ∀ h' g', zIx h' → zj_J E Γ 7 1055 (zyL E b xi) [] h' g') : zj_J E Γ 7 930 (zyL E b xi) [] h g := by
  obtain ⟨P7, M7, T⟩ := zy_exchange (l := Γ.2.1) (E := E) a (w1 := xs (i + 1)) (w2 := xs (i + 2)) (w3 := xs (i + 3)) (w4 := xs (i + 4)) g
  refine zj_aload_n (i := 1) (pc := 930) K dL_law_930 rfl rfl ?_
  refine zy_arg (k := 1) (pc := 931) K X hL ei (by omega) (by decide) rfl rfl dL_law_931 dL_law_932 dL_law_934 dL_law_935 dL_law_936 ?_
  refine zy_arg (k := 2) (pc := 937) K X hL ei (by omega) (by decide) rfl rfl dL_law_937 dL_law_938 dL_law_940 dL_law_941 dL_law_942 ?_
  refine zy_arg (k := 3) (pc := 943) K X hL ei (by omega) (by decide) rfl rfl dL_law_943 dL_law_944 dL_law_946 dL_law_947 dL_law_948 ?_
  refine zy_arg (k := 4) (pc := 949) K X hL ei (by omega) (by decide) rfl rfl dL_law_949 dL_law_950 dL_law_952 dL_law_953 dL_law_954 ?_
  refine zj_cV4P (i := 0) (pc := 955) K lm_L_126 hs_B M7 (by omega) rfl (Nat.le_of_ble_eq_true rfl) dL_law_955 (fun v h1 g1 hp => ?_)
  obtain ⟨r, rfl, P8, M8, T⟩ := T v h1 g1 hp
  refine zj_aload_n (i := 2) (pc := 958) K dL_law_958 rfl rfl ?_
  refine zy_arg (k := 1) (pc := 959) K X hL ei (by omega) (by decide) rfl rfl dL_law_959 dL_law_960 dL_law_962 dL_law_963 dL_law_964 ?_
  refine zy_arg (k := 2) (pc := 965) K X hL ei (by omega) (by decide) rfl rfl dL_law_965 dL_law_966 dL_law_968 dL_law_969 dL_law_970 ?_
  refine zy_arg (k := 3) (pc := 971) K X hL ei (by omega) (by decide) rfl rfl dL_law_971 dL_law_972 dL_law_974 dL_law_975 dL_law_976 ?_
  refine zy_arg (k := 4) (pc := 977) K X hL ei (by omega) (by decide) rfl rfl dL_law_977 dL_law_978 dL_law_980 dL_law_981 dL_law_982 ?_
  refine zj_cV4P (i := 78) (pc := 983) K lm_L_130 hs_M M8 (by omega) rfl (Nat.le_of_ble_eq_true rfl) dL_law_983 (fun v' h2 g2 hp2 => ?_)
  obtain ⟨rfl, hz⟩ := T v' h2 g2 hp2
  exact zj_icmp_eq (tgt := 1055) (pc := 986) K dL_law_986 (by decide) (fun _ => fin h2 g2 hz) (fun z => absurd rfl z)
theorem zyk_smooth (K : zj_C E Γ cL_law 7 RL d) (hd : 10 ≤ d) (X : zy_C Γ b Ln xs) (hL : Ln ≤ 3072) {i : Nat} {xi : Int32} (ei : xi = nI i) (hi : i + 6 ≤ Ln) (a : zI h J C u n nx ct) (fin : ∀ h' g', zIx h' → zj_J E Γ 7 1055 (zyL E b xi) [] h' g') : zj_J E Γ 7 991 (zyL E b xi) [] h g := by
  obtain ⟨P7, M7, T⟩ := zy_smooth (l := Γ.2.1) (E := E) a  g
  refine zj_aload_n (i := 1) (pc := 991) K dL_law_991 rfl rfl ?_
  refine zj_cV0P (i := 0) (pc := 992) K lm_L_131 hs_B M7 (by omega) rfl (Nat.le_of_ble_eq_true rfl) dL_law_992 (fun v h1 g1 hp => ?_)
  obtain ⟨r, rfl, P8, M8, T⟩ := T v h1 g1 hp
  refine zj_aload_n (i := 2) (pc := 995) K dL_law_995 rfl rfl ?_
  refine zj_cV0P (i := 78) (pc := 996) K lm_L_134 hs_M M8 (by omega) rfl (Nat.le_of_ble_eq_true rfl) dL_law_996 (fun v' h2 g2 hp2 => ?_)
  obtain ⟨rfl, hz⟩ := T v' h2 g2 hp2
  exact zj_icmp_eq (tgt := 1055) (pc := 999) K dL_law_999 (by decide) (fun _ => fin h2 g2 hz) (fun z => absurd rfl z)
theorem zyk_same (K : zj_C E Γ cL_law 7 RL d) (hd : 10 ≤ d) (X : zy_C Γ b Ln xs) (hL : Ln ≤ 3072) {i : Nat} {xi : Int32} (ei : xi = nI i) (hi : i + 6 ≤ Ln) (a : zI h J C u n nx ct) (fin : ∀ h' g', zIx h' → zj_J E Γ 7 1055 (zyL E b xi) [] h' g') : zj_J E Γ 7 1004 (zyL E b xi) [] h g := by
  obtain ⟨P7, M7, T⟩ := zy_same (l := Γ.2.1) (E := E) a  g
  refine zj_aload_n (i := 1) (pc := 1004) K dL_law_1004 rfl rfl ?_
  refine zj_cV0P (i := 0) (pc := 1005) K lm_L_135 hs_B M7 (by omega) rfl (Nat.le_of_ble_eq_true rfl) dL_law_1005 (fun v h1 g1 hp => ?_)
  obtain ⟨r, rfl, P8, M8, T⟩ := T v h1 g1 hp
  refine zj_aload_n (i := 2) (pc := 1008) K dL_law_1008 rfl rfl ?_
  refine zj_cV0P (i := 78) (pc := 1009) K lm_L_138 hs_M M8 (by omega) rfl (Nat.le_of_ble_eq_true rfl) dL_law_1009 (fun v' h2 g2 hp2 => ?_)
  obtain ⟨rfl, hz⟩ := T v' h2 g2 hp2
  exact zj_icmp_eq (tgt := 1055) (pc := 1012) K dL_law_1012 (by decide) (fun _ => fin h2 g2 hz) (fun z => absurd rfl z)
theorem zyk_anew (K : zj_C E Γ cL_law 7 RL d) (hd : 10 ≤ d) (X : zy_C Γ b Ln xs) (hL : Ln ≤ 3072) {i : Nat} {xi : Int32} (ei : xi = nI i) (hi : i + 6 ≤ Ln) (a : zI h J C u n nx ct) (fin : ∀ h' g', zIx h' → zj_J E Γ 7 1055 (zyL E b xi) [] h' g') : zj_J E Γ 7 1017 (zyL E b xi) [] h g := by
  obtain ⟨P7, M7, T⟩ := zy_anew (l := Γ.2.1) (E := E) a (x := xs (i + 1)) g
  refine zj_aload_n (i := 1) (pc := 1017) K dL_law_1017 rfl rfl ?_
  refine zy_arg (k := 1) (pc := 1018) K X hL ei (by omega) (by decide) rfl rfl dL_law_1018 dL_law_1019 dL_law_1021 dL_law_1022 dL_law_1023 ?_
  refine zj_cV1P (i := 0) (pc := 1024) K lm_L_139 hs_B M7 (by omega) rfl (Nat.le_of_ble_eq_true rfl) dL_law_1024 (fun v h1 g1 hp => ?_)
  obtain ⟨r, rfl, P8, M8, T⟩ := T v h1 g1 hp
  refine zj_aload_n (i := 2) (pc := 1027) K dL_law_1027 rfl rfl ?_
  refine zy_arg (k := 1) (pc := 1028) K X hL ei (by omega) (by decide) rfl rfl dL_law_1028 dL_law_1029 dL_law_1031 dL_law_1032 dL_law_1033 ?_
  refine zj_cV1P (i := 78) (pc := 1034) K lm_L_142 hs_M M8 (by omega) rfl (Nat.le_of_ble_eq_true rfl) dL_law_1034 (fun v' h2 g2 hp2 => ?_)
  obtain ⟨rfl, hz⟩ := T v' h2 g2 hp2
  exact zj_icmp_eq (tgt := 1055) (pc := 1037) K dL_law_1037 (by decide) (fun _ => fin h2 g2 hz) (fun z => absurd rfl z)
theorem zyk_undo (K : zj_C E Γ cL_law 7 RL d) (hd : 10 ≤ d) (X : zy_C Γ b Ln xs) (hL : Ln ≤ 3072) {i : Nat} {xi : Int32} (ei : xi = nI i) (hi : i + 6 ≤ Ln) (a : zI h J C u n nx ct) (fin : ∀ h' g', zIx h' → zj_J E Γ 7 1055 (zyL E b xi) [] h' g') : zj_J E Γ 7 1042 (zyL E b xi) [] h g := by
  obtain ⟨P7, M7, T⟩ := zy_undo (l := Γ.2.1) (E := E) a  g
  refine zj_aload_n (i := 1) (pc := 1042) K dL_law_1042 rfl rfl ?_
  refine zj_cV0P (i := 0) (pc := 1043) K lm_L_143 hs_B M7 (by omega) rfl (Nat.le_of_ble_eq_true rfl) dL_law_1043 (fun v h1 g1 hp => ?_)
  obtain ⟨r, rfl, P8, M8, T⟩ := T v h1 g1 hp
  refine zj_aload_n (i := 2) (pc := 1046) K dL_law_1046 rfl rfl ?_
  refine zj_cV0P (i := 78) (pc := 1047) K lm_L_146 hs_M M8 (by omega) rfl (Nat.le_of_ble_eq_true rfl) dL_law_1047 (fun v' h2 g2 hp2 => ?_)
  obtain ⟨rfl, hz⟩ := T v' h2 g2 hp2
  exact zj_icmp_eq (tgt := 1055) (pc := 1050) K dL_law_1050 (by decide) (fun _ => fin h2 g2 hz) (fun z => absurd rfl z)
end ZM
