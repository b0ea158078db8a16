def zw_pu (t : Nat → Int32) (p : Nat) : Nat → Bool
  | 0 => true
  | m + 1 => zw_pu t p m && decide (zw_let (t (p + m)) = zw_let (t p))
def zw_code (t : Nat → Int32) (p : Nat) : Nat → Int64
  | 0 => 0
  | m + 1 => 27 * zw_code t p m + (t (p + m)).toInt64 - 96
theorem zw_pu_t {t : Nat → Int32} {p : Nat} : ∀ {m : Nat}, zw_pu t p m = true → ∀ k, k < m → zw_let (t (p + k)) = zw_let (t p)
  | 0, _, k, hk => absurd hk (Nat.not_lt_zero k)
  | m + 1, h, k, hk => by
    rw [zw_pu, Bool.and_eq_true] at h
    by_cases e : k = m
    · rw [e]; exact of_decide_eq_true h.2
    · exact zw_pu_t h.1 k (by omega)
theorem zw_pu_of {t : Nat → Int32} {p : Nat} : ∀ {m : Nat}, (∀ k, k < m → zw_let (t (p + k)) = zw_let (t p)) → zw_pu t p m = true
  | 0, _ => rfl
  | m + 1, h => by rw [zw_pu, zw_pu_of (fun k hk => h k (by omega)), decide_eq_true (h m (by omega))]; rfl
theorem zw_let_dig {x : Int32} (h : zw_let x = true) : zw_dig x = false := by
  unfold zw_let at h
  rw [Bool.and_eq_true] at h
  exact zw_f2 (Int32.lt_of_lt_of_le (by decide) (of_decide_eq_true h.1))
theorem zw_an_dig {t : Nat → Int32} {i : Nat} (h : zw_an t i = true) (hl : zw_let (t i) = false) : zw_dig (t i) = true := by unfold zw_an at h; rw [hl, Bool.false_or] at h; exact h
/-- what the reference calls the sort of a TOKEN -/
def zw_so (n K : Nat) : Nat := if K = 1 then (if 500 < n then 1 else 0) else if K = 0 then 1 else K
theorem zw_10 (v c : Int32) : 10 * v + c - 48 = v * 10 + (c - 48) := by rw [Int32.mul_comm, Int32.sub_eq_add_neg, Int32.sub_eq_add_neg, Int32.add_assoc]
theorem zw_sg {g : zj_G} {a b : Nat} {x : Int64} (h : ¬ (a = 78 ∧ b = 10)) : zj_sg g 78 (vp_updL (g 78) 10 x) a b = g a b := by
  by_cases e : a = 78
  · subst e; rw [zj_sg_eq]; unfold vp_updL; rw [if_neg (fun z => h ⟨rfl, z⟩)]
  · rw [zj_sg_ne _ _ e]
theorem zz_inj {a b : Bool} (h : zz_i a = zz_i b) : a = b := by cases a <;> cases b <;> first | rfl | (exact absurd h (by decide))
theorem zw_same {t : Nat → Int32} {p j : Nat} (z : ∀ i, p ≤ i → i < p + j → zw_dig (t i) = false) (zan : ∀ k, k < j → zw_an t (p + k) = true) (hj : 0 < j) : ∀ k, k < j → zw_let (t (p + k)) = zw_let (t p) := fun k hk => by
  have h1 : ∀ k, k < j → zw_let (t (p + k)) = true := fun k hk => by
    have h2 := zan k hk
    unfold zw_an at h2
    rw [z (p + k) (by omega) (by omega), Bool.or_false] at h2; exact h2
  have h3 := h1 0 hj
  rw [Nat.add_zero] at h3
  rw [h1 k hk, h3]
theorem zw_same2 {t : Nat → Int32} {p j : Nat} (z : ∀ i, p ≤ i → i < p + j → zw_dig (t i) = true) (hj : 0 < j) : ∀ k, k < j → zw_let (t (p + k)) = zw_let (t p) := fun k hk => by
  have h1 : ∀ k, k < j → zw_let (t (p + k)) = false := fun k hk => by
    cases h : zw_let (t (p + k)) with
    | false => rfl
    | true => have := zw_let_dig h; rw [z (p + k) (by omega) (by omega)] at this; cases this
  have h3 := h1 0 hj
  rw [Nat.add_zero] at h3
  rw [h1 k hk, h3]
set_option maxHeartbeats 4000000 in
set_option maxRecDepth 20000 in
theorem m_X8_go {l : Launch} {E : zj_E} {h : zj_H} {g : zj_G} {n a : Nat} (eL : h 78 3 = nI n) (hn : n ≤ 540) (ea : h 78 4 = nI a) (ha : a ≤ n) : zj_M l E yX8_go cX8_go 5 none 1 [.ref (E.2.1 78)] h g (fun v h' g' => v = none ∧ (∀ a, a ≠ 78 → h' a = h a) ∧ (∀ b, (b < 4 ∨ 8 ≤ b) → h' 78 b = h 78 b) ∧ (∀ a b, ¬ (a = 78 ∧ b = 10) → g' a b = g a b) ∧ ∃ K s e, zw_tok (h 79) n a K s e (h' 78 7) ∧ h' 78 5 = nI s ∧ h' 78 4 = nI e ∧ h' 78 6 = nI (zw_so n K) ∧ e ≤ n ∧ (K = 2 → g' 78 10 = zw_code (h 79) s (min (e - s) 7))) := by
  refine zj_M.of RX8 (by decide) rfl (Nat.le_of_ble_eq_true rfl) ?_
  intro Γ hΓ K Rt
  subst hΓ
  have lpW : ∀ (p : Nat), p < min n 500 → zw_e (fun i => zw_bl (h 79 i)) n a p → zw_an (h 79) p = true → ∀ (m j : Nat) (x1 x2 x3 : Int32) (q : zj_H) (g1 : zj_G), n + 1 ≤ p + j + m → p + j ≤ n → (∀ a, a ≠ 78 → q a = h a) → (∀ b, (b < 4 ∨ 8 ≤ b) → q 78 b = h 78 b) → (∀ a b, ¬ (a = 78 ∧ b = 10) → g1 a b = g a b) → q 78 5 = nI p → q 78 4 = nI (p + j) → x2 = zz_i (zw_let (h 79 p)) → x3 = zz_i (zw_pu (h 79) p j) → (∀ k, k < j → zw_an (h 79) (p + k) = true) → (j ≤ 4 → q 78 7 = zw_val (h 79) p j) → g1 78 10 = zw_code (h 79) p (min j 7) → zj_J E Γ 5 177 [(0, .ref (E.2.1 78)), (1, .int x1), (2, .int x2), (3, .int x3)] [] q g1 := by
    intro p hp hpe hpa m
    have hmin : min n 500 ≤ n := Nat.min_le_left _ _
    induction m with
    | zero => intro j x1 x2 x3 q g1 h1 h2; omega
    | succ m ih =>
      intro j x1 x2 x3 q g1 h1 h2 zf1 zf2 zf3 e5 e4 e2 e3 zan zvl zco
      have eLq : q 78 3 = nI n := by rw [zf2 3 (by decide)]; exact eL
      have eb : q 79 = h 79 := zf1 79 (by decide)
      have esub : q 78 4 - q 78 5 = nI j := zw_sub e4 e5
      refine zj_aload_n (i := 0) (pc := 177) K dX8_go_177 rfl rfl ?_
      refine zj_aload_n (i := 0) (pc := 178) K dX8_go_178 rfl rfl ?_
      refine zj_getI (pc := 179) K lf_X8_21 hs_M rfl dX8_go_179 ?_
      refine zj_cV1I (pc := 182) K lm_X8_44 hs_M (m_X8_tapeAt (n := n) (i := p + j) eLq hn e4 (by omega)) (by decide) rfl (Nat.le_of_ble_eq_true rfl) dX8_go_182 ?_
      refine zj_cS1I (pc := 185) K lm_X8_30 (m_X8_isLetter) (by decide) rfl (Nat.le_of_ble_eq_true rfl) dX8_go_185 ?_
      refine zj_if_ne (tgt := 205) (pc := 188) K dX8_go_188 (by decide) (fun c_188 => ?_) (fun c_188 => ?_)
      · replace c_188 := zz_n0.mp c_188
        have hin : p + j < n := by
          apply Classical.byContradiction
          intro z
          rw [if_neg z] at c_188
          revert c_188; decide
        rw [if_pos hin, eb] at c_188
        have hA : zw_an (h 79) (p + j) = true := by unfold zw_an; rw [c_188]; simp
        refine zj_aload_n (i := 0) (pc := 205) K dX8_go_205 rfl rfl ?_
        refine zj_getR (pc := 206) K lf_X8_7 hs_M rfl dX8_go_206 ?_
        refine zj_aload_n (i := 0) (pc := 209) K dX8_go_209 rfl rfl ?_
        refine zj_getI (pc := 210) K lf_X8_21 hs_M rfl dX8_go_210 ?_
        refine zj_ald (j := p + j) (pc := 213) K hs_Mtape e4 (by omega) (by first | decide | omega) dX8_go_213 ?_
        refine zj_istore (pc := 214) K dX8_go_214 rfl rfl rfl ?_
        refine zj_iload_n (i := 3) (pc := 216) K dX8_go_216 rfl rfl ?_
        refine zj_if_eq (tgt := 233) (pc := 217) K dX8_go_217 (by decide) (fun c_217 => ?_) (fun c_217 => ?_)
        · rw [e3] at c_217
          have hpn : zw_pu (h 79) p (j + 1) = false := by rw [zw_pu, zz_i0.mp c_217, Bool.false_and]
          refine zj_iconst (v := 0) (pc := 233) K dX8_go_233 (by decide) ?_
          refine zj_istore_n (i := 3) (pc := 234) K dX8_go_234 rfl rfl rfl rfl ?_
          refine zj_aload_n (i := 0) (pc := 235) K dX8_go_235 rfl rfl ?_
          refine zj_getI (pc := 236) K lf_X8_21 hs_M rfl dX8_go_236 ?_
          refine zj_aload_n (i := 0) (pc := 239) K dX8_go_239 rfl rfl ?_
          refine zj_getI (pc := 240) K lf_X8_24 hs_M rfl dX8_go_240 ?_
          refine zj_isub (pc := 243) K dX8_go_243 ?_
          refine zj_bipush (v := 7) (pc := 244) K dX8_go_244 (by decide) ?_
          refine zj_icmp_ge (tgt := 269) (pc := 246) K dX8_go_246 (by decide) (fun c_246 => ?_) (fun c_246 => ?_)
          · rw [esub] at c_246
            have h7 : 7 ≤ j := zz_ge rfl (show (7 : Int32) = nI 7 from rfl) (by omega) (by omega) c_246
            refine zj_aload_n (i := 0) (pc := 269) K dX8_go_269 rfl rfl ?_
            refine zj_getI (pc := 270) K lf_X8_21 hs_M rfl dX8_go_270 ?_
            refine zj_aload_n (i := 0) (pc := 273) K dX8_go_273 rfl rfl ?_
            refine zj_getI (pc := 274) K lf_X8_24 hs_M rfl dX8_go_274 ?_
            refine zj_isub (pc := 277) K dX8_go_277 ?_
            refine zj_iconst (v := 4) (pc := 278) K dX8_go_278 (by decide) ?_
            refine zj_icmp_ge (tgt := 299) (pc := 279) K dX8_go_279 (by decide) (fun c_279 => ?_) (fun c_279 => ?_)
            · rw [esub] at c_279
              have h4 : 4 ≤ j := zz_ge rfl (show (4 : Int32) = nI 4 from rfl) (by omega) (by omega) c_279
              refine zj_aload_n (i := 0) (pc := 299) K dX8_go_299 rfl rfl ?_
              refine zj_dup (pc := 300) K dX8_go_300 rfl ?_
              refine zj_getI (pc := 301) K lf_X8_21 hs_M rfl dX8_go_301 ?_
              refine zj_iconst (v := 1) (pc := 304) K dX8_go_304 (by decide) ?_
              refine zj_iadd (pc := 305) K dX8_go_305 ?_
              refine zj_putI (pc := 306) K lf_X8_21 hs_M rfl dX8_go_306 ?_
              refine zj_goto (tgt := 177) (pc := 309) K dX8_go_309 (by decide) ?_
              refine zj_pick [0, 1, 2, 3] ?_
              have zan2 : ∀ k, k < j + 1 → zw_an (h 79) (p + k) = true := fun k hk => by
                by_cases e : k = j
                · rw [e]; exact hA
                · exact zan k (by omega)
              refine ih (j + 1) _ _ _ _ _ (by omega) (by omega) (fun c c1 => by (repeat rw [zj_s_ne _ _ c1]); exact zf1 c c1) (fun b hb => by (repeat rw [zj_s_eq]); (repeat rw [zz_upd_ne _ _ (by omega)]); exact zf2 b hb) ?_ ?_ ?_ e2 (by rw [hpn]; rfl) zan2 (fun z => ?_) ?_
              · first
                | exact zf3
                | exact fun a b hab => (zw_sg hab).trans (zf3 a b hab)
              · (repeat rw [zj_s_eq]); (repeat rw [zz_upd_ne _ _ (by decide)]); exact e5
              · first
                | (rw [zj_s_eq, zz_upd_at, e4, nI_1]; rfl)
                | (rw [zj_s_eq, zz_upd_at, zj_s_eq, zz_upd_ne _ _ (by decide), e4, nI_1]; rfl)
              · first
                | (exfalso; omega)
                | (rw [zj_s_eq, zz_upd_ne _ _ (by decide), zj_s_eq, zz_upd_at, zvl (by omega), eb, zw_10]; rfl)
              · first
                | (rw [show min (j + 1) 7 = 7 by omega]; rw [show min j 7 = 7 by omega] at zco; exact zco)
                | (rw [show min (j + 1) 7 = j + 1 by omega, zj_sg_eq]; unfold vp_updL; rw [if_pos rfl, zco, show min j 7 = j by omega, eb]; rfl)
            · rw [esub] at c_279
              have h4 : j < 4 := zz_nge rfl (show (4 : Int32) = nI 4 from rfl) (by omega) (by omega) c_279
              refine zj_aload_n (i := 0) (pc := 282) K dX8_go_282 rfl rfl ?_
              refine zj_bipush (v := 10) (pc := 283) K dX8_go_283 (by decide) ?_
              refine zj_aload_n (i := 0) (pc := 285) K dX8_go_285 rfl rfl ?_
              refine zj_getI (pc := 286) K lf_X8_41 hs_M rfl dX8_go_286 ?_
              refine zj_imul (pc := 289) K dX8_go_289 ?_
              refine zj_iload (pc := 290) K dX8_go_290 rfl ?_
              refine zj_iadd (pc := 292) K dX8_go_292 ?_
              refine zj_bipush (v := 48) (pc := 293) K dX8_go_293 (by decide) ?_
              refine zj_isub (pc := 295) K dX8_go_295 ?_
              refine zj_putI (pc := 296) K lf_X8_41 hs_M rfl dX8_go_296 ?_
              refine zj_aload_n (i := 0) (pc := 299) K dX8_go_299 rfl rfl ?_
              refine zj_dup (pc := 300) K dX8_go_300 rfl ?_
              refine zj_getI (pc := 301) K lf_X8_21 hs_M rfl dX8_go_301 ?_
              refine zj_iconst (v := 1) (pc := 304) K dX8_go_304 (by decide) ?_
              refine zj_iadd (pc := 305) K dX8_go_305 ?_
              refine zj_putI (pc := 306) K lf_X8_21 hs_M rfl dX8_go_306 ?_
              refine zj_goto (tgt := 177) (pc := 309) K dX8_go_309 (by decide) ?_
              refine zj_pick [0, 1, 2, 3] ?_
              have zan2 : ∀ k, k < j + 1 → zw_an (h 79) (p + k) = true := fun k hk => by
                by_cases e : k = j
                · rw [e]; exact hA
                · exact zan k (by omega)
              refine ih (j + 1) _ _ _ _ _ (by omega) (by omega) (fun c c1 => by (repeat rw [zj_s_ne _ _ c1]); exact zf1 c c1) (fun b hb => by (repeat rw [zj_s_eq]); (repeat rw [zz_upd_ne _ _ (by omega)]); exact zf2 b hb) ?_ ?_ ?_ e2 (by rw [hpn]; rfl) zan2 (fun z => ?_) ?_
              · first
                | exact zf3
                | exact fun a b hab => (zw_sg hab).trans (zf3 a b hab)
              · (repeat rw [zj_s_eq]); (repeat rw [zz_upd_ne _ _ (by decide)]); exact e5
              · first
                | (rw [zj_s_eq, zz_upd_at, e4, nI_1]; rfl)
                | (rw [zj_s_eq, zz_upd_at, zj_s_eq, zz_upd_ne _ _ (by decide), e4, nI_1]; rfl)
              · first
                | (exfalso; omega)
                | (rw [zj_s_eq, zz_upd_ne _ _ (by decide), zj_s_eq, zz_upd_at, zvl (by omega), eb, zw_10]; rfl)
              · first
                | (rw [show min (j + 1) 7 = 7 by omega]; rw [show min j 7 = 7 by omega] at zco; exact zco)
                | (rw [show min (j + 1) 7 = j + 1 by omega, zj_sg_eq]; unfold vp_updL; rw [if_pos rfl, zco, show min j 7 = j by omega, eb]; rfl)
          · rw [esub] at c_246
            have h7 : j < 7 := zz_nge rfl (show (7 : Int32) = nI 7 from rfl) (by omega) (by omega) c_246
            refine zj_aload_n (i := 0) (pc := 249) K dX8_go_249 rfl rfl ?_
            refine zj_ldc2 (pc := 250) K lk_X8_48 dX8_go_250 ?_
            refine zj_aload_n (i := 0) (pc := 253) K dX8_go_253 rfl rfl ?_
            refine zj_getJ (pc := 254) K lf_X8_37 hs_M rfl dX8_go_254 ?_
            refine zj_lmul (pc := 257) K dX8_go_257 ?_
            refine zj_iload (pc := 258) K dX8_go_258 rfl ?_
            refine zj_i2l (pc := 260) K dX8_go_260 ?_
            refine zj_ladd (pc := 261) K dX8_go_261 ?_
            refine zj_ldc2 (pc := 262) K lk_X8_50 dX8_go_262 ?_
            refine zj_lsub (pc := 265) K dX8_go_265 ?_
            refine zj_putJ (pc := 266) K lf_X8_37 hs_M rfl dX8_go_266 ?_
            refine zj_aload_n (i := 0) (pc := 269) K dX8_go_269 rfl rfl ?_
            refine zj_getI (pc := 270) K lf_X8_21 hs_M rfl dX8_go_270 ?_
            refine zj_aload_n (i := 0) (pc := 273) K dX8_go_273 rfl rfl ?_
            refine zj_getI (pc := 274) K lf_X8_24 hs_M rfl dX8_go_274 ?_
            refine zj_isub (pc := 277) K dX8_go_277 ?_
            refine zj_iconst (v := 4) (pc := 278) K dX8_go_278 (by decide) ?_
            refine zj_icmp_ge (tgt := 299) (pc := 279) K dX8_go_279 (by decide) (fun c_279 => ?_) (fun c_279 => ?_)
            · rw [esub] at c_279
              have h4 : 4 ≤ j := zz_ge rfl (show (4 : Int32) = nI 4 from rfl) (by omega) (by omega) c_279
              refine zj_aload_n (i := 0) (pc := 299) K dX8_go_299 rfl rfl ?_
              refine zj_dup (pc := 300) K dX8_go_300 rfl ?_
              refine zj_getI (pc := 301) K lf_X8_21 hs_M rfl dX8_go_301 ?_
              refine zj_iconst (v := 1) (pc := 304) K dX8_go_304 (by decide) ?_
              refine zj_iadd (pc := 305) K dX8_go_305 ?_
              refine zj_putI (pc := 306) K lf_X8_21 hs_M rfl dX8_go_306 ?_
              refine zj_goto (tgt := 177) (pc := 309) K dX8_go_309 (by decide) ?_
              refine zj_pick [0, 1, 2, 3] ?_
              have zan2 : ∀ k, k < j + 1 → zw_an (h 79) (p + k) = true := fun k hk => by
                by_cases e : k = j
                · rw [e]; exact hA
                · exact zan k (by omega)
              refine ih (j + 1) _ _ _ _ _ (by omega) (by omega) (fun c c1 => by (repeat rw [zj_s_ne _ _ c1]); exact zf1 c c1) (fun b hb => by (repeat rw [zj_s_eq]); (repeat rw [zz_upd_ne _ _ (by omega)]); exact zf2 b hb) ?_ ?_ ?_ e2 (by rw [hpn]; rfl) zan2 (fun z => ?_) ?_
              · first
                | exact zf3
                | exact fun a b hab => (zw_sg hab).trans (zf3 a b hab)
              · (repeat rw [zj_s_eq]); (repeat rw [zz_upd_ne _ _ (by decide)]); exact e5
              · first
                | (rw [zj_s_eq, zz_upd_at, e4, nI_1]; rfl)
                | (rw [zj_s_eq, zz_upd_at, zj_s_eq, zz_upd_ne _ _ (by decide), e4, nI_1]; rfl)
              · first
                | (exfalso; omega)
                | (rw [zj_s_eq, zz_upd_ne _ _ (by decide), zj_s_eq, zz_upd_at, zvl (by omega), eb, zw_10]; rfl)
              · first
                | (rw [show min (j + 1) 7 = 7 by omega]; rw [show min j 7 = 7 by omega] at zco; exact zco)
                | (rw [show min (j + 1) 7 = j + 1 by omega, zj_sg_eq]; unfold vp_updL; rw [if_pos rfl, zco, show min j 7 = j by omega, eb]; rfl)
            · rw [esub] at c_279
              have h4 : j < 4 := zz_nge rfl (show (4 : Int32) = nI 4 from rfl) (by omega) (by omega) c_279
              refine zj_aload_n (i := 0) (pc := 282) K dX8_go_282 rfl rfl ?_
              refine zj_bipush (v := 10) (pc := 283) K dX8_go_283 (by decide) ?_
              refine zj_aload_n (i := 0) (pc := 285) K dX8_go_285 rfl rfl ?_
              refine zj_getI (pc := 286) K lf_X8_41 hs_M rfl dX8_go_286 ?_
              refine zj_imul (pc := 289) K dX8_go_289 ?_
              refine zj_iload (pc := 290) K dX8_go_290 rfl ?_
              refine zj_iadd (pc := 292) K dX8_go_292 ?_
              refine zj_bipush (v := 48) (pc := 293) K dX8_go_293 (by decide) ?_
              refine zj_isub (pc := 295) K dX8_go_295 ?_
              refine zj_putI (pc := 296) K lf_X8_41 hs_M rfl dX8_go_296 ?_
              refine zj_aload_n (i := 0) (pc := 299) K dX8_go_299 rfl rfl ?_
              refine zj_dup (pc := 300) K dX8_go_300 rfl ?_
              refine zj_getI (pc := 301) K lf_X8_21 hs_M rfl dX8_go_301 ?_
              refine zj_iconst (v := 1) (pc := 304) K dX8_go_304 (by decide) ?_
              refine zj_iadd (pc := 305) K dX8_go_305 ?_
              refine zj_putI (pc := 306) K lf_X8_21 hs_M rfl dX8_go_306 ?_
              refine zj_goto (tgt := 177) (pc := 309) K dX8_go_309 (by decide) ?_
              refine zj_pick [0, 1, 2, 3] ?_
              have zan2 : ∀ k, k < j + 1 → zw_an (h 79) (p + k) = true := fun k hk => by
                by_cases e : k = j
                · rw [e]; exact hA
                · exact zan k (by omega)
              refine ih (j + 1) _ _ _ _ _ (by omega) (by omega) (fun c c1 => by (repeat rw [zj_s_ne _ _ c1]); exact zf1 c c1) (fun b hb => by (repeat rw [zj_s_eq]); (repeat rw [zz_upd_ne _ _ (by omega)]); exact zf2 b hb) ?_ ?_ ?_ e2 (by rw [hpn]; rfl) zan2 (fun z => ?_) ?_
              · first
                | exact zf3
                | exact fun a b hab => (zw_sg hab).trans (zf3 a b hab)
              · (repeat rw [zj_s_eq]); (repeat rw [zz_upd_ne _ _ (by decide)]); exact e5
              · first
                | (rw [zj_s_eq, zz_upd_at, e4, nI_1]; rfl)
                | (rw [zj_s_eq, zz_upd_at, zj_s_eq, zz_upd_ne _ _ (by decide), e4, nI_1]; rfl)
              · first
                | (exfalso; omega)
                | (rw [zj_s_eq, zz_upd_ne _ _ (by decide), zj_s_eq, zz_upd_at, zvl (by omega), eb, zw_10]; rfl)
              · first
                | (rw [show min (j + 1) 7 = 7 by omega]; rw [show min j 7 = 7 by omega] at zco; exact zco)
                | (rw [show min (j + 1) 7 = j + 1 by omega, zj_sg_eq]; unfold vp_updL; rw [if_pos rfl, zco, show min j 7 = j by omega, eb]; rfl)
        · rw [e3] at c_217
          refine zj_iload (pc := 220) K dX8_go_220 rfl ?_
          refine zj_cS1I (pc := 222) K lm_X8_30 (m_X8_isLetter) (by decide) rfl (Nat.le_of_ble_eq_true rfl) dX8_go_222 ?_
          refine zj_iload_n (i := 2) (pc := 225) K dX8_go_225 rfl rfl ?_
          refine zj_icmp_ne (tgt := 233) (pc := 226) K dX8_go_226 (by decide) (fun c_226 => ?_) (fun c_226 => ?_)
          · rw [eb, e2] at c_226
            have hpn : zw_pu (h 79) p (j + 1) = false := by rw [zw_pu, decide_eq_false (fun z => c_226 (by rw [z])), Bool.and_false]
            refine zj_iconst (v := 0) (pc := 233) K dX8_go_233 (by decide) ?_
            refine zj_istore_n (i := 3) (pc := 234) K dX8_go_234 rfl rfl rfl rfl ?_
            refine zj_aload_n (i := 0) (pc := 235) K dX8_go_235 rfl rfl ?_
            refine zj_getI (pc := 236) K lf_X8_21 hs_M rfl dX8_go_236 ?_
            refine zj_aload_n (i := 0) (pc := 239) K dX8_go_239 rfl rfl ?_
            refine zj_getI (pc := 240) K lf_X8_24 hs_M rfl dX8_go_240 ?_
            refine zj_isub (pc := 243) K dX8_go_243 ?_
            refine zj_bipush (v := 7) (pc := 244) K dX8_go_244 (by decide) ?_
            refine zj_icmp_ge (tgt := 269) (pc := 246) K dX8_go_246 (by decide) (fun c_246 => ?_) (fun c_246 => ?_)
            · rw [esub] at c_246
              have h7 : 7 ≤ j := zz_ge rfl (show (7 : Int32) = nI 7 from rfl) (by omega) (by omega) c_246
              refine zj_aload_n (i := 0) (pc := 269) K dX8_go_269 rfl rfl ?_
              refine zj_getI (pc := 270) K lf_X8_21 hs_M rfl dX8_go_270 ?_
              refine zj_aload_n (i := 0) (pc := 273) K dX8_go_273 rfl rfl ?_
              refine zj_getI (pc := 274) K lf_X8_24 hs_M rfl dX8_go_274 ?_
              refine zj_isub (pc := 277) K dX8_go_277 ?_
              refine zj_iconst (v := 4) (pc := 278) K dX8_go_278 (by decide) ?_
              refine zj_icmp_ge (tgt := 299) (pc := 279) K dX8_go_279 (by decide) (fun c_279 => ?_) (fun c_279 => ?_)
              · rw [esub] at c_279
                have h4 : 4 ≤ j := zz_ge rfl (show (4 : Int32) = nI 4 from rfl) (by omega) (by omega) c_279
                refine zj_aload_n (i := 0) (pc := 299) K dX8_go_299 rfl rfl ?_
                refine zj_dup (pc := 300) K dX8_go_300 rfl ?_
                refine zj_getI (pc := 301) K lf_X8_21 hs_M rfl dX8_go_301 ?_
                refine zj_iconst (v := 1) (pc := 304) K dX8_go_304 (by decide) ?_
                refine zj_iadd (pc := 305) K dX8_go_305 ?_
                refine zj_putI (pc := 306) K lf_X8_21 hs_M rfl dX8_go_306 ?_
                refine zj_goto (tgt := 177) (pc := 309) K dX8_go_309 (by decide) ?_
                refine zj_pick [0, 1, 2, 3] ?_
                have zan2 : ∀ k, k < j + 1 → zw_an (h 79) (p + k) = true := fun k hk => by
                  by_cases e : k = j
                  · rw [e]; exact hA
                  · exact zan k (by omega)
                refine ih (j + 1) _ _ _ _ _ (by omega) (by omega) (fun c c1 => by (repeat rw [zj_s_ne _ _ c1]); exact zf1 c c1) (fun b hb => by (repeat rw [zj_s_eq]); (repeat rw [zz_upd_ne _ _ (by omega)]); exact zf2 b hb) ?_ ?_ ?_ e2 (by rw [hpn]; rfl) zan2 (fun z => ?_) ?_
                · first
                  | exact zf3
                  | exact fun a b hab => (zw_sg hab).trans (zf3 a b hab)
                · (repeat rw [zj_s_eq]); (repeat rw [zz_upd_ne _ _ (by decide)]); exact e5
                · first
                  | (rw [zj_s_eq, zz_upd_at, e4, nI_1]; rfl)
                  | (rw [zj_s_eq, zz_upd_at, zj_s_eq, zz_upd_ne _ _ (by decide), e4, nI_1]; rfl)
                · first
                  | (exfalso; omega)
                  | (rw [zj_s_eq, zz_upd_ne _ _ (by decide), zj_s_eq, zz_upd_at, zvl (by omega), eb, zw_10]; rfl)
                · first
                  | (rw [show min (j + 1) 7 = 7 by omega]; rw [show min j 7 = 7 by omega] at zco; exact zco)
                  | (rw [show min (j + 1) 7 = j + 1 by omega, zj_sg_eq]; unfold vp_updL; rw [if_pos rfl, zco, show min j 7 = j by omega, eb]; rfl)
              · rw [esub] at c_279
                have h4 : j < 4 := zz_nge rfl (show (4 : Int32) = nI 4 from rfl) (by omega) (by omega) c_279
                refine zj_aload_n (i := 0) (pc := 282) K dX8_go_282 rfl rfl ?_
                refine zj_bipush (v := 10) (pc := 283) K dX8_go_283 (by decide) ?_
                refine zj_aload_n (i := 0) (pc := 285) K dX8_go_285 rfl rfl ?_
                refine zj_getI (pc := 286) K lf_X8_41 hs_M rfl dX8_go_286 ?_
                refine zj_imul (pc := 289) K dX8_go_289 ?_
                refine zj_iload (pc := 290) K dX8_go_290 rfl ?_
                refine zj_iadd (pc := 292) K dX8_go_292 ?_
                refine zj_bipush (v := 48) (pc := 293) K dX8_go_293 (by decide) ?_
                refine zj_isub (pc := 295) K dX8_go_295 ?_
                refine zj_putI (pc := 296) K lf_X8_41 hs_M rfl dX8_go_296 ?_
                refine zj_aload_n (i := 0) (pc := 299) K dX8_go_299 rfl rfl ?_
                refine zj_dup (pc := 300) K dX8_go_300 rfl ?_
                refine zj_getI (pc := 301) K lf_X8_21 hs_M rfl dX8_go_301 ?_
                refine zj_iconst (v := 1) (pc := 304) K dX8_go_304 (by decide) ?_
                refine zj_iadd (pc := 305) K dX8_go_305 ?_
                refine zj_putI (pc := 306) K lf_X8_21 hs_M rfl dX8_go_306 ?_
                refine zj_goto (tgt := 177) (pc := 309) K dX8_go_309 (by decide) ?_
                refine zj_pick [0, 1, 2, 3] ?_
                have zan2 : ∀ k, k < j + 1 → zw_an (h 79) (p + k) = true := fun k hk => by
                  by_cases e : k = j
                  · rw [e]; exact hA
                  · exact zan k (by omega)
                refine ih (j + 1) _ _ _ _ _ (by omega) (by omega) (fun c c1 => by (repeat rw [zj_s_ne _ _ c1]); exact zf1 c c1) (fun b hb => by (repeat rw [zj_s_eq]); (repeat rw [zz_upd_ne _ _ (by omega)]); exact zf2 b hb) ?_ ?_ ?_ e2 (by rw [hpn]; rfl) zan2 (fun z => ?_) ?_
                · first
                  | exact zf3
                  | exact fun a b hab => (zw_sg hab).trans (zf3 a b hab)
                · (repeat rw [zj_s_eq]); (repeat rw [zz_upd_ne _ _ (by decide)]); exact e5
                · first
                  | (rw [zj_s_eq, zz_upd_at, e4, nI_1]; rfl)
                  | (rw [zj_s_eq, zz_upd_at, zj_s_eq, zz_upd_ne _ _ (by decide), e4, nI_1]; rfl)
                · first
                  | (exfalso; omega)
                  | (rw [zj_s_eq, zz_upd_ne _ _ (by decide), zj_s_eq, zz_upd_at, zvl (by omega), eb, zw_10]; rfl)
                · first
                  | (rw [show min (j + 1) 7 = 7 by omega]; rw [show min j 7 = 7 by omega] at zco; exact zco)
                  | (rw [show min (j + 1) 7 = j + 1 by omega, zj_sg_eq]; unfold vp_updL; rw [if_pos rfl, zco, show min j 7 = j by omega, eb]; rfl)
            · rw [esub] at c_246
              have h7 : j < 7 := zz_nge rfl (show (7 : Int32) = nI 7 from rfl) (by omega) (by omega) c_246
              refine zj_aload_n (i := 0) (pc := 249) K dX8_go_249 rfl rfl ?_
              refine zj_ldc2 (pc := 250) K lk_X8_48 dX8_go_250 ?_
              refine zj_aload_n (i := 0) (pc := 253) K dX8_go_253 rfl rfl ?_
              refine zj_getJ (pc := 254) K lf_X8_37 hs_M rfl dX8_go_254 ?_
              refine zj_lmul (pc := 257) K dX8_go_257 ?_
              refine zj_iload (pc := 258) K dX8_go_258 rfl ?_
              refine zj_i2l (pc := 260) K dX8_go_260 ?_
              refine zj_ladd (pc := 261) K dX8_go_261 ?_
              refine zj_ldc2 (pc := 262) K lk_X8_50 dX8_go_262 ?_
              refine zj_lsub (pc := 265) K dX8_go_265 ?_
              refine zj_putJ (pc := 266) K lf_X8_37 hs_M rfl dX8_go_266 ?_
              refine zj_aload_n (i := 0) (pc := 269) K dX8_go_269 rfl rfl ?_
              refine zj_getI (pc := 270) K lf_X8_21 hs_M rfl dX8_go_270 ?_
              refine zj_aload_n (i := 0) (pc := 273) K dX8_go_273 rfl rfl ?_
              refine zj_getI (pc := 274) K lf_X8_24 hs_M rfl dX8_go_274 ?_
              refine zj_isub (pc := 277) K dX8_go_277 ?_
              refine zj_iconst (v := 4) (pc := 278) K dX8_go_278 (by decide) ?_
              refine zj_icmp_ge (tgt := 299) (pc := 279) K dX8_go_279 (by decide) (fun c_279 => ?_) (fun c_279 => ?_)
              · rw [esub] at c_279
                have h4 : 4 ≤ j := zz_ge rfl (show (4 : Int32) = nI 4 from rfl) (by omega) (by omega) c_279
                refine zj_aload_n (i := 0) (pc := 299) K dX8_go_299 rfl rfl ?_
                refine zj_dup (pc := 300) K dX8_go_300 rfl ?_
                refine zj_getI (pc := 301) K lf_X8_21 hs_M rfl dX8_go_301 ?_
                refine zj_iconst (v := 1) (pc := 304) K dX8_go_304 (by decide) ?_
                refine zj_iadd (pc := 305) K dX8_go_305 ?_
                refine zj_putI (pc := 306) K lf_X8_21 hs_M rfl dX8_go_306 ?_
                refine zj_goto (tgt := 177) (pc := 309) K dX8_go_309 (by decide) ?_
                refine zj_pick [0, 1, 2, 3] ?_
                have zan2 : ∀ k, k < j + 1 → zw_an (h 79) (p + k) = true := fun k hk => by
                  by_cases e : k = j
                  · rw [e]; exact hA
                  · exact zan k (by omega)
                refine ih (j + 1) _ _ _ _ _ (by omega) (by omega) (fun c c1 => by (repeat rw [zj_s_ne _ _ c1]); exact zf1 c c1) (fun b hb => by (repeat rw [zj_s_eq]); (repeat rw [zz_upd_ne _ _ (by omega)]); exact zf2 b hb) ?_ ?_ ?_ e2 (by rw [hpn]; rfl) zan2 (fun z => ?_) ?_
                · first
                  | exact zf3
                  | exact fun a b hab => (zw_sg hab).trans (zf3 a b hab)
                · (repeat rw [zj_s_eq]); (repeat rw [zz_upd_ne _ _ (by decide)]); exact e5
                · first
                  | (rw [zj_s_eq, zz_upd_at, e4, nI_1]; rfl)
                  | (rw [zj_s_eq, zz_upd_at, zj_s_eq, zz_upd_ne _ _ (by decide), e4, nI_1]; rfl)
                · first
                  | (exfalso; omega)
                  | (rw [zj_s_eq, zz_upd_ne _ _ (by decide), zj_s_eq, zz_upd_at, zvl (by omega), eb, zw_10]; rfl)
                · first
                  | (rw [show min (j + 1) 7 = 7 by omega]; rw [show min j 7 = 7 by omega] at zco; exact zco)
                  | (rw [show min (j + 1) 7 = j + 1 by omega, zj_sg_eq]; unfold vp_updL; rw [if_pos rfl, zco, show min j 7 = j by omega, eb]; rfl)
              · rw [esub] at c_279
                have h4 : j < 4 := zz_nge rfl (show (4 : Int32) = nI 4 from rfl) (by omega) (by omega) c_279
                refine zj_aload_n (i := 0) (pc := 282) K dX8_go_282 rfl rfl ?_
                refine zj_bipush (v := 10) (pc := 283) K dX8_go_283 (by decide) ?_
                refine zj_aload_n (i := 0) (pc := 285) K dX8_go_285 rfl rfl ?_
                refine zj_getI (pc := 286) K lf_X8_41 hs_M rfl dX8_go_286 ?_
                refine zj_imul (pc := 289) K dX8_go_289 ?_
                refine zj_iload (pc := 290) K dX8_go_290 rfl ?_
                refine zj_iadd (pc := 292) K dX8_go_292 ?_
                refine zj_bipush (v := 48) (pc := 293) K dX8_go_293 (by decide) ?_
                refine zj_isub (pc := 295) K dX8_go_295 ?_
                refine zj_putI (pc := 296) K lf_X8_41 hs_M rfl dX8_go_296 ?_
                refine zj_aload_n (i := 0) (pc := 299) K dX8_go_299 rfl rfl ?_
                refine zj_dup (pc := 300) K dX8_go_300 rfl ?_
                refine zj_getI (pc := 301) K lf_X8_21 hs_M rfl dX8_go_301 ?_
                refine zj_iconst (v := 1) (pc := 304) K dX8_go_304 (by decide) ?_
                refine zj_iadd (pc := 305) K dX8_go_305 ?_
                refine zj_putI (pc := 306) K lf_X8_21 hs_M rfl dX8_go_306 ?_
                refine zj_goto (tgt := 177) (pc := 309) K dX8_go_309 (by decide) ?_
                refine zj_pick [0, 1, 2, 3] ?_
                have zan2 : ∀ k, k < j + 1 → zw_an (h 79) (p + k) = true := fun k hk => by
                  by_cases e : k = j
                  · rw [e]; exact hA
                  · exact zan k (by omega)
                refine ih (j + 1) _ _ _ _ _ (by omega) (by omega) (fun c c1 => by (repeat rw [zj_s_ne _ _ c1]); exact zf1 c c1) (fun b hb => by (repeat rw [zj_s_eq]); (repeat rw [zz_upd_ne _ _ (by omega)]); exact zf2 b hb) ?_ ?_ ?_ e2 (by rw [hpn]; rfl) zan2 (fun z => ?_) ?_
                · first
                  | exact zf3
                  | exact fun a b hab => (zw_sg hab).trans (zf3 a b hab)
                · (repeat rw [zj_s_eq]); (repeat rw [zz_upd_ne _ _ (by decide)]); exact e5
                · first
                  | (rw [zj_s_eq, zz_upd_at, e4, nI_1]; rfl)
                  | (rw [zj_s_eq, zz_upd_at, zj_s_eq, zz_upd_ne _ _ (by decide), e4, nI_1]; rfl)
                · first
                  | (exfalso; omega)
                  | (rw [zj_s_eq, zz_upd_ne _ _ (by decide), zj_s_eq, zz_upd_at, zvl (by omega), eb, zw_10]; rfl)
                · first
                  | (rw [show min (j + 1) 7 = 7 by omega]; rw [show min j 7 = 7 by omega] at zco; exact zco)
                  | (rw [show min (j + 1) 7 = j + 1 by omega, zj_sg_eq]; unfold vp_updL; rw [if_pos rfl, zco, show min j 7 = j by omega, eb]; rfl)
          · rw [eb, e2] at c_226
            have hpn : zw_pu (h 79) p (j + 1) = true := by rw [zw_pu, zz_n0.mp c_217, decide_eq_true (zz_inj c_226)]; rfl
            refine zj_iconst (v := 1) (pc := 229) K dX8_go_229 (by decide) ?_
            refine zj_goto (tgt := 234) (pc := 230) K dX8_go_230 (by decide) ?_
            refine zj_istore_n (i := 3) (pc := 234) K dX8_go_234 rfl rfl rfl rfl ?_
            refine zj_aload_n (i := 0) (pc := 235) K dX8_go_235 rfl rfl ?_
            refine zj_getI (pc := 236) K lf_X8_21 hs_M rfl dX8_go_236 ?_
            refine zj_aload_n (i := 0) (pc := 239) K dX8_go_239 rfl rfl ?_
            refine zj_getI (pc := 240) K lf_X8_24 hs_M rfl dX8_go_240 ?_
            refine zj_isub (pc := 243) K dX8_go_243 ?_
            refine zj_bipush (v := 7) (pc := 244) K dX8_go_244 (by decide) ?_
            refine zj_icmp_ge (tgt := 269) (pc := 246) K dX8_go_246 (by decide) (fun c_246 => ?_) (fun c_246 => ?_)
            · rw [esub] at c_246
              have h7 : 7 ≤ j := zz_ge rfl (show (7 : Int32) = nI 7 from rfl) (by omega) (by omega) c_246
              refine zj_aload_n (i := 0) (pc := 269) K dX8_go_269 rfl rfl ?_
              refine zj_getI (pc := 270) K lf_X8_21 hs_M rfl dX8_go_270 ?_
              refine zj_aload_n (i := 0) (pc := 273) K dX8_go_273 rfl rfl ?_
              refine zj_getI (pc := 274) K lf_X8_24 hs_M rfl dX8_go_274 ?_
              refine zj_isub (pc := 277) K dX8_go_277 ?_
              refine zj_iconst (v := 4) (pc := 278) K dX8_go_278 (by decide) ?_
              refine zj_icmp_ge (tgt := 299) (pc := 279) K dX8_go_279 (by decide) (fun c_279 => ?_) (fun c_279 => ?_)
              · rw [esub] at c_279
                have h4 : 4 ≤ j := zz_ge rfl (show (4 : Int32) = nI 4 from rfl) (by omega) (by omega) c_279
                refine zj_aload_n (i := 0) (pc := 299) K dX8_go_299 rfl rfl ?_
                refine zj_dup (pc := 300) K dX8_go_300 rfl ?_
                refine zj_getI (pc := 301) K lf_X8_21 hs_M rfl dX8_go_301 ?_
                refine zj_iconst (v := 1) (pc := 304) K dX8_go_304 (by decide) ?_
                refine zj_iadd (pc := 305) K dX8_go_305 ?_
                refine zj_putI (pc := 306) K lf_X8_21 hs_M rfl dX8_go_306 ?_
                refine zj_goto (tgt := 177) (pc := 309) K dX8_go_309 (by decide) ?_
                refine zj_pick [0, 1, 2, 3] ?_
                have zan2 : ∀ k, k < j + 1 → zw_an (h 79) (p + k) = true := fun k hk => by
                  by_cases e : k = j
                  · rw [e]; exact hA
                  · exact zan k (by omega)
                refine ih (j + 1) _ _ _ _ _ (by omega) (by omega) (fun c c1 => by (repeat rw [zj_s_ne _ _ c1]); exact zf1 c c1) (fun b hb => by (repeat rw [zj_s_eq]); (repeat rw [zz_upd_ne _ _ (by omega)]); exact zf2 b hb) ?_ ?_ ?_ e2 (by rw [hpn]; rfl) zan2 (fun z => ?_) ?_
                · first
                  | exact zf3
                  | exact fun a b hab => (zw_sg hab).trans (zf3 a b hab)
                · (repeat rw [zj_s_eq]); (repeat rw [zz_upd_ne _ _ (by decide)]); exact e5
                · first
                  | (rw [zj_s_eq, zz_upd_at, e4, nI_1]; rfl)
                  | (rw [zj_s_eq, zz_upd_at, zj_s_eq, zz_upd_ne _ _ (by decide), e4, nI_1]; rfl)
                · first
                  | (exfalso; omega)
                  | (rw [zj_s_eq, zz_upd_ne _ _ (by decide), zj_s_eq, zz_upd_at, zvl (by omega), eb, zw_10]; rfl)
                · first
                  | (rw [show min (j + 1) 7 = 7 by omega]; rw [show min j 7 = 7 by omega] at zco; exact zco)
                  | (rw [show min (j + 1) 7 = j + 1 by omega, zj_sg_eq]; unfold vp_updL; rw [if_pos rfl, zco, show min j 7 = j by omega, eb]; rfl)
              · rw [esub] at c_279
                have h4 : j < 4 := zz_nge rfl (show (4 : Int32) = nI 4 from rfl) (by omega) (by omega) c_279
                refine zj_aload_n (i := 0) (pc := 282) K dX8_go_282 rfl rfl ?_
                refine zj_bipush (v := 10) (pc := 283) K dX8_go_283 (by decide) ?_
                refine zj_aload_n (i := 0) (pc := 285) K dX8_go_285 rfl rfl ?_
                refine zj_getI (pc := 286) K lf_X8_41 hs_M rfl dX8_go_286 ?_
                refine zj_imul (pc := 289) K dX8_go_289 ?_
                refine zj_iload (pc := 290) K dX8_go_290 rfl ?_
                refine zj_iadd (pc := 292) K dX8_go_292 ?_
                refine zj_bipush (v := 48) (pc := 293) K dX8_go_293 (by decide) ?_
                refine zj_isub (pc := 295) K dX8_go_295 ?_
                refine zj_putI (pc := 296) K lf_X8_41 hs_M rfl dX8_go_296 ?_
                refine zj_aload_n (i := 0) (pc := 299) K dX8_go_299 rfl rfl ?_
                refine zj_dup (pc := 300) K dX8_go_300 rfl ?_
                refine zj_getI (pc := 301) K lf_X8_21 hs_M rfl dX8_go_301 ?_
                refine zj_iconst (v := 1) (pc := 304) K dX8_go_304 (by decide) ?_
                refine zj_iadd (pc := 305) K dX8_go_305 ?_
                refine zj_putI (pc := 306) K lf_X8_21 hs_M rfl dX8_go_306 ?_
                refine zj_goto (tgt := 177) (pc := 309) K dX8_go_309 (by decide) ?_
                refine zj_pick [0, 1, 2, 3] ?_
                have zan2 : ∀ k, k < j + 1 → zw_an (h 79) (p + k) = true := fun k hk => by
                  by_cases e : k = j
                  · rw [e]; exact hA
                  · exact zan k (by omega)
                refine ih (j + 1) _ _ _ _ _ (by omega) (by omega) (fun c c1 => by (repeat rw [zj_s_ne _ _ c1]); exact zf1 c c1) (fun b hb => by (repeat rw [zj_s_eq]); (repeat rw [zz_upd_ne _ _ (by omega)]); exact zf2 b hb) ?_ ?_ ?_ e2 (by rw [hpn]; rfl) zan2 (fun z => ?_) ?_
                · first
                  | exact zf3
                  | exact fun a b hab => (zw_sg hab).trans (zf3 a b hab)
                · (repeat rw [zj_s_eq]); (repeat rw [zz_upd_ne _ _ (by decide)]); exact e5
                · first
                  | (rw [zj_s_eq, zz_upd_at, e4, nI_1]; rfl)
                  | (rw [zj_s_eq, zz_upd_at, zj_s_eq, zz_upd_ne _ _ (by decide), e4, nI_1]; rfl)
                · first
                  | (exfalso; omega)
                  | (rw [zj_s_eq, zz_upd_ne _ _ (by decide), zj_s_eq, zz_upd_at, zvl (by omega), eb, zw_10]; rfl)
                · first
                  | (rw [show min (j + 1) 7 = 7 by omega]; rw [show min j 7 = 7 by omega] at zco; exact zco)
                  | (rw [show min (j + 1) 7 = j + 1 by omega, zj_sg_eq]; unfold vp_updL; rw [if_pos rfl, zco, show min j 7 = j by omega, eb]; rfl)
            · rw [esub] at c_246
              have h7 : j < 7 := zz_nge rfl (show (7 : Int32) = nI 7 from rfl) (by omega) (by omega) c_246
              refine zj_aload_n (i := 0) (pc := 249) K dX8_go_249 rfl rfl ?_
              refine zj_ldc2 (pc := 250) K lk_X8_48 dX8_go_250 ?_
              refine zj_aload_n (i := 0) (pc := 253) K dX8_go_253 rfl rfl ?_
              refine zj_getJ (pc := 254) K lf_X8_37 hs_M rfl dX8_go_254 ?_
              refine zj_lmul (pc := 257) K dX8_go_257 ?_
              refine zj_iload (pc := 258) K dX8_go_258 rfl ?_
              refine zj_i2l (pc := 260) K dX8_go_260 ?_
              refine zj_ladd (pc := 261) K dX8_go_261 ?_
              refine zj_ldc2 (pc := 262) K lk_X8_50 dX8_go_262 ?_
              refine zj_lsub (pc := 265) K dX8_go_265 ?_
              refine zj_putJ (pc := 266) K lf_X8_37 hs_M rfl dX8_go_266 ?_
              refine zj_aload_n (i := 0) (pc := 269) K dX8_go_269 rfl rfl ?_
              refine zj_getI (pc := 270) K lf_X8_21 hs_M rfl dX8_go_270 ?_
              refine zj_aload_n (i := 0) (pc := 273) K dX8_go_273 rfl rfl ?_
              refine zj_getI (pc := 274) K lf_X8_24 hs_M rfl dX8_go_274 ?_
              refine zj_isub (pc := 277) K dX8_go_277 ?_
              refine zj_iconst (v := 4) (pc := 278) K dX8_go_278 (by decide) ?_
              refine zj_icmp_ge (tgt := 299) (pc := 279) K dX8_go_279 (by decide) (fun c_279 => ?_) (fun c_279 => ?_)
              · rw [esub] at c_279
                have h4 : 4 ≤ j := zz_ge rfl (show (4 : Int32) = nI 4 from rfl) (by omega) (by omega) c_279
                refine zj_aload_n (i := 0) (pc := 299) K dX8_go_299 rfl rfl ?_
                refine zj_dup (pc := 300) K dX8_go_300 rfl ?_
                refine zj_getI (pc := 301) K lf_X8_21 hs_M rfl dX8_go_301 ?_
                refine zj_iconst (v := 1) (pc := 304) K dX8_go_304 (by decide) ?_
                refine zj_iadd (pc := 305) K dX8_go_305 ?_
                refine zj_putI (pc := 306) K lf_X8_21 hs_M rfl dX8_go_306 ?_
                refine zj_goto (tgt := 177) (pc := 309) K dX8_go_309 (by decide) ?_
                refine zj_pick [0, 1, 2, 3] ?_
                have zan2 : ∀ k, k < j + 1 → zw_an (h 79) (p + k) = true := fun k hk => by
                  by_cases e : k = j
                  · rw [e]; exact hA
                  · exact zan k (by omega)
                refine ih (j + 1) _ _ _ _ _ (by omega) (by omega) (fun c c1 => by (repeat rw [zj_s_ne _ _ c1]); exact zf1 c c1) (fun b hb => by (repeat rw [zj_s_eq]); (repeat rw [zz_upd_ne _ _ (by omega)]); exact zf2 b hb) ?_ ?_ ?_ e2 (by rw [hpn]; rfl) zan2 (fun z => ?_) ?_
                · first
                  | exact zf3
                  | exact fun a b hab => (zw_sg hab).trans (zf3 a b hab)
                · (repeat rw [zj_s_eq]); (repeat rw [zz_upd_ne _ _ (by decide)]); exact e5
                · first
                  | (rw [zj_s_eq, zz_upd_at, e4, nI_1]; rfl)
                  | (rw [zj_s_eq, zz_upd_at, zj_s_eq, zz_upd_ne _ _ (by decide), e4, nI_1]; rfl)
                · first
                  | (exfalso; omega)
                  | (rw [zj_s_eq, zz_upd_ne _ _ (by decide), zj_s_eq, zz_upd_at, zvl (by omega), eb, zw_10]; rfl)
                · first
                  | (rw [show min (j + 1) 7 = 7 by omega]; rw [show min j 7 = 7 by omega] at zco; exact zco)
                  | (rw [show min (j + 1) 7 = j + 1 by omega, zj_sg_eq]; unfold vp_updL; rw [if_pos rfl, zco, show min j 7 = j by omega, eb]; rfl)
              · rw [esub] at c_279
                have h4 : j < 4 := zz_nge rfl (show (4 : Int32) = nI 4 from rfl) (by omega) (by omega) c_279
                refine zj_aload_n (i := 0) (pc := 282) K dX8_go_282 rfl rfl ?_
                refine zj_bipush (v := 10) (pc := 283) K dX8_go_283 (by decide) ?_
                refine zj_aload_n (i := 0) (pc := 285) K dX8_go_285 rfl rfl ?_
                refine zj_getI (pc := 286) K lf_X8_41 hs_M rfl dX8_go_286 ?_
                refine zj_imul (pc := 289) K dX8_go_289 ?_
                refine zj_iload (pc := 290) K dX8_go_290 rfl ?_
                refine zj_iadd (pc := 292) K dX8_go_292 ?_
                refine zj_bipush (v := 48) (pc := 293) K dX8_go_293 (by decide) ?_
                refine zj_isub (pc := 295) K dX8_go_295 ?_
                refine zj_putI (pc := 296) K lf_X8_41 hs_M rfl dX8_go_296 ?_
                refine zj_aload_n (i := 0) (pc := 299) K dX8_go_299 rfl rfl ?_
                refine zj_dup (pc := 300) K dX8_go_300 rfl ?_
                refine zj_getI (pc := 301) K lf_X8_21 hs_M rfl dX8_go_301 ?_
                refine zj_iconst (v := 1) (pc := 304) K dX8_go_304 (by decide) ?_
                refine zj_iadd (pc := 305) K dX8_go_305 ?_
                refine zj_putI (pc := 306) K lf_X8_21 hs_M rfl dX8_go_306 ?_
                refine zj_goto (tgt := 177) (pc := 309) K dX8_go_309 (by decide) ?_
                refine zj_pick [0, 1, 2, 3] ?_
                have zan2 : ∀ k, k < j + 1 → zw_an (h 79) (p + k) = true := fun k hk => by
                  by_cases e : k = j
                  · rw [e]; exact hA
                  · exact zan k (by omega)
                refine ih (j + 1) _ _ _ _ _ (by omega) (by omega) (fun c c1 => by (repeat rw [zj_s_ne _ _ c1]); exact zf1 c c1) (fun b hb => by (repeat rw [zj_s_eq]); (repeat rw [zz_upd_ne _ _ (by omega)]); exact zf2 b hb) ?_ ?_ ?_ e2 (by rw [hpn]; rfl) zan2 (fun z => ?_) ?_
                · first
                  | exact zf3
                  | exact fun a b hab => (zw_sg hab).trans (zf3 a b hab)
                · (repeat rw [zj_s_eq]); (repeat rw [zz_upd_ne _ _ (by decide)]); exact e5
                · first
                  | (rw [zj_s_eq, zz_upd_at, e4, nI_1]; rfl)
                  | (rw [zj_s_eq, zz_upd_at, zj_s_eq, zz_upd_ne _ _ (by decide), e4, nI_1]; rfl)
                · first
                  | (exfalso; omega)
                  | (rw [zj_s_eq, zz_upd_ne _ _ (by decide), zj_s_eq, zz_upd_at, zvl (by omega), eb, zw_10]; rfl)
                · first
                  | (rw [show min (j + 1) 7 = 7 by omega]; rw [show min j 7 = 7 by omega] at zco; exact zco)
                  | (rw [show min (j + 1) 7 = j + 1 by omega, zj_sg_eq]; unfold vp_updL; rw [if_pos rfl, zco, show min j 7 = j by omega, eb]; rfl)
      · replace c_188 := zz_i0.mp c_188
        refine zj_aload_n (i := 0) (pc := 191) K dX8_go_191 rfl rfl ?_
        refine zj_aload_n (i := 0) (pc := 192) K dX8_go_192 rfl rfl ?_
        refine zj_getI (pc := 193) K lf_X8_21 hs_M rfl dX8_go_193 ?_
        refine zj_cV1I (pc := 196) K lm_X8_44 hs_M (m_X8_tapeAt (n := n) (i := p + j) eLq hn e4 (by omega)) (by decide) rfl (Nat.le_of_ble_eq_true rfl) dX8_go_196 ?_
        refine zj_cS1I (pc := 199) K lm_X8_34 (m_X8_isDigit) (by decide) rfl (Nat.le_of_ble_eq_true rfl) dX8_go_199 ?_
        refine zj_if_eq (tgt := 312) (pc := 202) K dX8_go_202 (by decide) (fun c_202 => ?_) (fun c_202 => ?_)
        · replace c_202 := zz_i0.mp c_202
          have hE : zw_e (zw_an (h 79)) n p (p + j) := ⟨by omega, h2, zw_sh (p := zw_an (h 79)) zan, fun z => by
            rw [if_pos z, eb] at c_188 c_202
            unfold zw_an; rw [c_188, c_202]; rfl⟩
          have hj1 : 0 < j := Nat.pos_of_ne_zero (fun z => by
            have h9 := hE.2.2.2
            rw [z, Nat.add_zero] at h9
            have := h9 (by omega)
            rw [hpa] at this; cases this)
          refine zj_aload_n (i := 0) (pc := 312) K dX8_go_312 rfl rfl ?_
          refine zj_iload_n (i := 3) (pc := 313) K dX8_go_313 rfl rfl ?_
          refine zj_if_eq (tgt := 334) (pc := 314) K dX8_go_314 (by decide) (fun c_314 => ?_) (fun c_314 => ?_)
          · rw [e3] at c_314
            have hpu0 := zz_i0.mp c_314
            have hsome : ¬ ∀ i, p ≤ i → i < p + j → zw_dig (h 79 i) = false := fun z => absurd (zw_pu_of (t := h 79) (p := p) (m := j) (fun k hk => zw_same z zan hj1 k hk)) (by rw [hpu0]; decide)
            have hnot : ¬ ((∀ i, p ≤ i → i < p + j → zw_dig (h 79 i) = true) ∧ p + j - p ≤ 4) := fun z => absurd (zw_pu_of (t := h 79) (p := p) (m := j) (fun k hk => zw_same2 z.1 hj1 k hk)) (by rw [hpu0]; decide)
            refine zj_iconst (v := 1) (pc := 334) K dX8_go_334 (by decide) ?_
            refine zj_goto (tgt := 347) (pc := 335) K dX8_go_335 (by decide) ?_
            refine zj_putI (pc := 347) K lf_X8_27 hs_M rfl dX8_go_347 ?_
            exact zj_vret K Rt dX8_go_350 (by
              first
              | (exfalso; exact c_318 c_339)
              | (exfalso; exact c_339 c_318)
              | (refine ⟨rfl, fun c c1 => by (repeat rw [zj_s_ne _ _ c1]); exact zf1 c c1, fun b hb => by (repeat rw [zj_s_eq]); (repeat rw [zz_upd_ne _ _ (by omega)]); exact zf2 b hb, zf3, 2, p, p + j, ⟨p, hpe, Or.inr ⟨hp, rfl, p + j, hE, Or.inr ⟨by omega, rfl, Or.inl ⟨zw_sh (p := fun i => zw_dig (h 79 i)) (fun k hk => zw_let_dig (by rw [zw_pu_t hpu k hk]; exact hlet)), rfl⟩⟩⟩⟩, ?_, ?_, ?_, h2, ?_⟩
                 · rw [zj_s_eq, zz_upd_ne _ _ (by decide)]; exact e5
                 · rw [zj_s_eq, zz_upd_ne _ _ (by decide)]; exact e4
                 · rw [zj_s_eq]; exact zz_upd_at _ _ _
                 · intro z; first | exact absurd z (by decide) | (rw [show p + j - p = j by omega]; exact zco))
              | (refine ⟨rfl, fun c c1 => by (repeat rw [zj_s_ne _ _ c1]); exact zf1 c c1, fun b hb => by (repeat rw [zj_s_eq]); (repeat rw [zz_upd_ne _ _ (by omega)]); exact zf2 b hb, zf3, 3, p, p + j, ⟨p, hpe, Or.inr ⟨hp, rfl, p + j, hE, Or.inr ⟨by omega, rfl, Or.inr (Or.inl ⟨zw_sh (p := fun i => zw_dig (h 79 i)) (fun k hk => zw_an_dig (zan k hk) (by rw [zw_pu_t hpu k hk]; exact hnlet)), by omega, rfl, by rw [show p + j - p = j by omega, zj_s_eq, zz_upd_ne _ _ (by decide)]; exact zvl hj4⟩)⟩⟩⟩, ?_, ?_, ?_, h2, ?_⟩
                 · rw [zj_s_eq, zz_upd_ne _ _ (by decide)]; exact e5
                 · rw [zj_s_eq, zz_upd_ne _ _ (by decide)]; exact e4
                 · rw [zj_s_eq]; exact zz_upd_at _ _ _
                 · intro z; first | exact absurd z (by decide) | (rw [show p + j - p = j by omega]; exact zco))
              | (refine ⟨rfl, fun c c1 => by (repeat rw [zj_s_ne _ _ c1]); exact zf1 c c1, fun b hb => by (repeat rw [zj_s_eq]); (repeat rw [zz_upd_ne _ _ (by omega)]); exact zf2 b hb, zf3, 0, p, p + j, ⟨p, hpe, Or.inr ⟨hp, rfl, p + j, hE, Or.inr ⟨by omega, rfl, Or.inr (Or.inr ⟨hsome, hnot, rfl⟩)⟩⟩⟩, ?_, ?_, ?_, h2, ?_⟩
                 · rw [zj_s_eq, zz_upd_ne _ _ (by decide)]; exact e5
                 · rw [zj_s_eq, zz_upd_ne _ _ (by decide)]; exact e4
                 · rw [zj_s_eq]; exact zz_upd_at _ _ _
                 · intro z; first | exact absurd z (by decide) | (rw [show p + j - p = j by omega]; exact zco)))
          · rw [e3] at c_314
            have hpu := zz_n0.mp c_314
            refine zj_iload_n (i := 2) (pc := 317) K dX8_go_317 rfl rfl ?_
            refine zj_if_ne (tgt := 338) (pc := 318) K dX8_go_318 (by decide) (fun c_318 => ?_) (fun c_318 => ?_)
            · have hlet := zz_n0.mp (show ¬ zz_i (zw_let (h 79 p)) = 0 by rw [← e2]; exact c_318)
              refine zj_iload_n (i := 2) (pc := 338) K dX8_go_338 rfl rfl ?_
              refine zj_if_eq (tgt := 346) (pc := 339) K dX8_go_339 (by decide) (fun c_339 => ?_) (fun c_339 => ?_)
              · refine zj_iconst (v := 3) (pc := 346) K dX8_go_346 (by decide) ?_
                refine zj_putI (pc := 347) K lf_X8_27 hs_M rfl dX8_go_347 ?_
                exact zj_vret K Rt dX8_go_350 (by
                  first
                  | (exfalso; exact c_318 c_339)
                  | (exfalso; exact c_339 c_318)
                  | (refine ⟨rfl, fun c c1 => by (repeat rw [zj_s_ne _ _ c1]); exact zf1 c c1, fun b hb => by (repeat rw [zj_s_eq]); (repeat rw [zz_upd_ne _ _ (by omega)]); exact zf2 b hb, zf3, 2, p, p + j, ⟨p, hpe, Or.inr ⟨hp, rfl, p + j, hE, Or.inr ⟨by omega, rfl, Or.inl ⟨zw_sh (p := fun i => zw_dig (h 79 i)) (fun k hk => zw_let_dig (by rw [zw_pu_t hpu k hk]; exact hlet)), rfl⟩⟩⟩⟩, ?_, ?_, ?_, h2, ?_⟩
                     · rw [zj_s_eq, zz_upd_ne _ _ (by decide)]; exact e5
                     · rw [zj_s_eq, zz_upd_ne _ _ (by decide)]; exact e4
                     · rw [zj_s_eq]; exact zz_upd_at _ _ _
                     · intro z; first | exact absurd z (by decide) | (rw [show p + j - p = j by omega]; exact zco))
                  | (refine ⟨rfl, fun c c1 => by (repeat rw [zj_s_ne _ _ c1]); exact zf1 c c1, fun b hb => by (repeat rw [zj_s_eq]); (repeat rw [zz_upd_ne _ _ (by omega)]); exact zf2 b hb, zf3, 3, p, p + j, ⟨p, hpe, Or.inr ⟨hp, rfl, p + j, hE, Or.inr ⟨by omega, rfl, Or.inr (Or.inl ⟨zw_sh (p := fun i => zw_dig (h 79 i)) (fun k hk => zw_an_dig (zan k hk) (by rw [zw_pu_t hpu k hk]; exact hnlet)), by omega, rfl, by rw [show p + j - p = j by omega, zj_s_eq, zz_upd_ne _ _ (by decide)]; exact zvl hj4⟩)⟩⟩⟩, ?_, ?_, ?_, h2, ?_⟩
                     · rw [zj_s_eq, zz_upd_ne _ _ (by decide)]; exact e5
                     · rw [zj_s_eq, zz_upd_ne _ _ (by decide)]; exact e4
                     · rw [zj_s_eq]; exact zz_upd_at _ _ _
                     · intro z; first | exact absurd z (by decide) | (rw [show p + j - p = j by omega]; exact zco))
                  | (refine ⟨rfl, fun c c1 => by (repeat rw [zj_s_ne _ _ c1]); exact zf1 c c1, fun b hb => by (repeat rw [zj_s_eq]); (repeat rw [zz_upd_ne _ _ (by omega)]); exact zf2 b hb, zf3, 0, p, p + j, ⟨p, hpe, Or.inr ⟨hp, rfl, p + j, hE, Or.inr ⟨by omega, rfl, Or.inr (Or.inr ⟨hsome, hnot, rfl⟩)⟩⟩⟩, ?_, ?_, ?_, h2, ?_⟩
                     · rw [zj_s_eq, zz_upd_ne _ _ (by decide)]; exact e5
                     · rw [zj_s_eq, zz_upd_ne _ _ (by decide)]; exact e4
                     · rw [zj_s_eq]; exact zz_upd_at _ _ _
                     · intro z; first | exact absurd z (by decide) | (rw [show p + j - p = j by omega]; exact zco)))
              · refine zj_iconst (v := 2) (pc := 342) K dX8_go_342 (by decide) ?_
                refine zj_goto (tgt := 347) (pc := 343) K dX8_go_343 (by decide) ?_
                refine zj_putI (pc := 347) K lf_X8_27 hs_M rfl dX8_go_347 ?_
                exact zj_vret K Rt dX8_go_350 (by
                  first
                  | (exfalso; exact c_318 c_339)
                  | (exfalso; exact c_339 c_318)
                  | (refine ⟨rfl, fun c c1 => by (repeat rw [zj_s_ne _ _ c1]); exact zf1 c c1, fun b hb => by (repeat rw [zj_s_eq]); (repeat rw [zz_upd_ne _ _ (by omega)]); exact zf2 b hb, zf3, 2, p, p + j, ⟨p, hpe, Or.inr ⟨hp, rfl, p + j, hE, Or.inr ⟨by omega, rfl, Or.inl ⟨zw_sh (p := fun i => zw_dig (h 79 i)) (fun k hk => zw_let_dig (by rw [zw_pu_t hpu k hk]; exact hlet)), rfl⟩⟩⟩⟩, ?_, ?_, ?_, h2, ?_⟩
                     · rw [zj_s_eq, zz_upd_ne _ _ (by decide)]; exact e5
                     · rw [zj_s_eq, zz_upd_ne _ _ (by decide)]; exact e4
                     · rw [zj_s_eq]; exact zz_upd_at _ _ _
                     · intro z; first | exact absurd z (by decide) | (rw [show p + j - p = j by omega]; exact zco))
                  | (refine ⟨rfl, fun c c1 => by (repeat rw [zj_s_ne _ _ c1]); exact zf1 c c1, fun b hb => by (repeat rw [zj_s_eq]); (repeat rw [zz_upd_ne _ _ (by omega)]); exact zf2 b hb, zf3, 3, p, p + j, ⟨p, hpe, Or.inr ⟨hp, rfl, p + j, hE, Or.inr ⟨by omega, rfl, Or.inr (Or.inl ⟨zw_sh (p := fun i => zw_dig (h 79 i)) (fun k hk => zw_an_dig (zan k hk) (by rw [zw_pu_t hpu k hk]; exact hnlet)), by omega, rfl, by rw [show p + j - p = j by omega, zj_s_eq, zz_upd_ne _ _ (by decide)]; exact zvl hj4⟩)⟩⟩⟩, ?_, ?_, ?_, h2, ?_⟩
                     · rw [zj_s_eq, zz_upd_ne _ _ (by decide)]; exact e5
                     · rw [zj_s_eq, zz_upd_ne _ _ (by decide)]; exact e4
                     · rw [zj_s_eq]; exact zz_upd_at _ _ _
                     · intro z; first | exact absurd z (by decide) | (rw [show p + j - p = j by omega]; exact zco))
                  | (refine ⟨rfl, fun c c1 => by (repeat rw [zj_s_ne _ _ c1]); exact zf1 c c1, fun b hb => by (repeat rw [zj_s_eq]); (repeat rw [zz_upd_ne _ _ (by omega)]); exact zf2 b hb, zf3, 0, p, p + j, ⟨p, hpe, Or.inr ⟨hp, rfl, p + j, hE, Or.inr ⟨by omega, rfl, Or.inr (Or.inr ⟨hsome, hnot, rfl⟩)⟩⟩⟩, ?_, ?_, ?_, h2, ?_⟩
                     · rw [zj_s_eq, zz_upd_ne _ _ (by decide)]; exact e5
                     · rw [zj_s_eq, zz_upd_ne _ _ (by decide)]; exact e4
                     · rw [zj_s_eq]; exact zz_upd_at _ _ _
                     · intro z; first | exact absurd z (by decide) | (rw [show p + j - p = j by omega]; exact zco)))
            · have hnlet := zz_i0.mp (show zz_i (zw_let (h 79 p)) = 0 by rw [← e2]; exact c_318)
              refine zj_aload_n (i := 0) (pc := 321) K dX8_go_321 rfl rfl ?_
              refine zj_getI (pc := 322) K lf_X8_21 hs_M rfl dX8_go_322 ?_
              refine zj_aload_n (i := 0) (pc := 325) K dX8_go_325 rfl rfl ?_
              refine zj_getI (pc := 326) K lf_X8_24 hs_M rfl dX8_go_326 ?_
              refine zj_isub (pc := 329) K dX8_go_329 ?_
              refine zj_iconst (v := 4) (pc := 330) K dX8_go_330 (by decide) ?_
              refine zj_icmp_le (tgt := 338) (pc := 331) K dX8_go_331 (by decide) (fun c_331 => ?_) (fun c_331 => ?_)
              · rw [esub] at c_331
                have hj4 : j ≤ 4 := (nI_leI (b := 4) (by omega) (by omega)).mp c_331
                refine zj_iload_n (i := 2) (pc := 338) K dX8_go_338 rfl rfl ?_
                refine zj_if_eq (tgt := 346) (pc := 339) K dX8_go_339 (by decide) (fun c_339 => ?_) (fun c_339 => ?_)
                · refine zj_iconst (v := 3) (pc := 346) K dX8_go_346 (by decide) ?_
                  refine zj_putI (pc := 347) K lf_X8_27 hs_M rfl dX8_go_347 ?_
                  exact zj_vret K Rt dX8_go_350 (by
                    first
                    | (exfalso; exact c_318 c_339)
                    | (exfalso; exact c_339 c_318)
                    | (refine ⟨rfl, fun c c1 => by (repeat rw [zj_s_ne _ _ c1]); exact zf1 c c1, fun b hb => by (repeat rw [zj_s_eq]); (repeat rw [zz_upd_ne _ _ (by omega)]); exact zf2 b hb, zf3, 2, p, p + j, ⟨p, hpe, Or.inr ⟨hp, rfl, p + j, hE, Or.inr ⟨by omega, rfl, Or.inl ⟨zw_sh (p := fun i => zw_dig (h 79 i)) (fun k hk => zw_let_dig (by rw [zw_pu_t hpu k hk]; exact hlet)), rfl⟩⟩⟩⟩, ?_, ?_, ?_, h2, ?_⟩
                       · rw [zj_s_eq, zz_upd_ne _ _ (by decide)]; exact e5
                       · rw [zj_s_eq, zz_upd_ne _ _ (by decide)]; exact e4
                       · rw [zj_s_eq]; exact zz_upd_at _ _ _
                       · intro z; first | exact absurd z (by decide) | (rw [show p + j - p = j by omega]; exact zco))
                    | (refine ⟨rfl, fun c c1 => by (repeat rw [zj_s_ne _ _ c1]); exact zf1 c c1, fun b hb => by (repeat rw [zj_s_eq]); (repeat rw [zz_upd_ne _ _ (by omega)]); exact zf2 b hb, zf3, 3, p, p + j, ⟨p, hpe, Or.inr ⟨hp, rfl, p + j, hE, Or.inr ⟨by omega, rfl, Or.inr (Or.inl ⟨zw_sh (p := fun i => zw_dig (h 79 i)) (fun k hk => zw_an_dig (zan k hk) (by rw [zw_pu_t hpu k hk]; exact hnlet)), by omega, rfl, by rw [show p + j - p = j by omega, zj_s_eq, zz_upd_ne _ _ (by decide)]; exact zvl hj4⟩)⟩⟩⟩, ?_, ?_, ?_, h2, ?_⟩
                       · rw [zj_s_eq, zz_upd_ne _ _ (by decide)]; exact e5
                       · rw [zj_s_eq, zz_upd_ne _ _ (by decide)]; exact e4
                       · rw [zj_s_eq]; exact zz_upd_at _ _ _
                       · intro z; first | exact absurd z (by decide) | (rw [show p + j - p = j by omega]; exact zco))
                    | (refine ⟨rfl, fun c c1 => by (repeat rw [zj_s_ne _ _ c1]); exact zf1 c c1, fun b hb => by (repeat rw [zj_s_eq]); (repeat rw [zz_upd_ne _ _ (by omega)]); exact zf2 b hb, zf3, 0, p, p + j, ⟨p, hpe, Or.inr ⟨hp, rfl, p + j, hE, Or.inr ⟨by omega, rfl, Or.inr (Or.inr ⟨hsome, hnot, rfl⟩)⟩⟩⟩, ?_, ?_, ?_, h2, ?_⟩
                       · rw [zj_s_eq, zz_upd_ne _ _ (by decide)]; exact e5
                       · rw [zj_s_eq, zz_upd_ne _ _ (by decide)]; exact e4
                       · rw [zj_s_eq]; exact zz_upd_at _ _ _
                       · intro z; first | exact absurd z (by decide) | (rw [show p + j - p = j by omega]; exact zco)))
                · refine zj_iconst (v := 2) (pc := 342) K dX8_go_342 (by decide) ?_
                  refine zj_goto (tgt := 347) (pc := 343) K dX8_go_343 (by decide) ?_
                  refine zj_putI (pc := 347) K lf_X8_27 hs_M rfl dX8_go_347 ?_
                  exact zj_vret K Rt dX8_go_350 (by
                    first
                    | (exfalso; exact c_318 c_339)
                    | (exfalso; exact c_339 c_318)
                    | (refine ⟨rfl, fun c c1 => by (repeat rw [zj_s_ne _ _ c1]); exact zf1 c c1, fun b hb => by (repeat rw [zj_s_eq]); (repeat rw [zz_upd_ne _ _ (by omega)]); exact zf2 b hb, zf3, 2, p, p + j, ⟨p, hpe, Or.inr ⟨hp, rfl, p + j, hE, Or.inr ⟨by omega, rfl, Or.inl ⟨zw_sh (p := fun i => zw_dig (h 79 i)) (fun k hk => zw_let_dig (by rw [zw_pu_t hpu k hk]; exact hlet)), rfl⟩⟩⟩⟩, ?_, ?_, ?_, h2, ?_⟩
                       · rw [zj_s_eq, zz_upd_ne _ _ (by decide)]; exact e5
                       · rw [zj_s_eq, zz_upd_ne _ _ (by decide)]; exact e4
                       · rw [zj_s_eq]; exact zz_upd_at _ _ _
                       · intro z; first | exact absurd z (by decide) | (rw [show p + j - p = j by omega]; exact zco))
                    | (refine ⟨rfl, fun c c1 => by (repeat rw [zj_s_ne _ _ c1]); exact zf1 c c1, fun b hb => by (repeat rw [zj_s_eq]); (repeat rw [zz_upd_ne _ _ (by omega)]); exact zf2 b hb, zf3, 3, p, p + j, ⟨p, hpe, Or.inr ⟨hp, rfl, p + j, hE, Or.inr ⟨by omega, rfl, Or.inr (Or.inl ⟨zw_sh (p := fun i => zw_dig (h 79 i)) (fun k hk => zw_an_dig (zan k hk) (by rw [zw_pu_t hpu k hk]; exact hnlet)), by omega, rfl, by rw [show p + j - p = j by omega, zj_s_eq, zz_upd_ne _ _ (by decide)]; exact zvl hj4⟩)⟩⟩⟩, ?_, ?_, ?_, h2, ?_⟩
                       · rw [zj_s_eq, zz_upd_ne _ _ (by decide)]; exact e5
                       · rw [zj_s_eq, zz_upd_ne _ _ (by decide)]; exact e4
                       · rw [zj_s_eq]; exact zz_upd_at _ _ _
                       · intro z; first | exact absurd z (by decide) | (rw [show p + j - p = j by omega]; exact zco))
                    | (refine ⟨rfl, fun c c1 => by (repeat rw [zj_s_ne _ _ c1]); exact zf1 c c1, fun b hb => by (repeat rw [zj_s_eq]); (repeat rw [zz_upd_ne _ _ (by omega)]); exact zf2 b hb, zf3, 0, p, p + j, ⟨p, hpe, Or.inr ⟨hp, rfl, p + j, hE, Or.inr ⟨by omega, rfl, Or.inr (Or.inr ⟨hsome, hnot, rfl⟩)⟩⟩⟩, ?_, ?_, ?_, h2, ?_⟩
                       · rw [zj_s_eq, zz_upd_ne _ _ (by decide)]; exact e5
                       · rw [zj_s_eq, zz_upd_ne _ _ (by decide)]; exact e4
                       · rw [zj_s_eq]; exact zz_upd_at _ _ _
                       · intro z; first | exact absurd z (by decide) | (rw [show p + j - p = j by omega]; exact zco)))
              · rw [esub] at c_331
                have hj4 : ¬ j ≤ 4 := fun z => c_331 ((nI_leI (b := 4) (by omega) (by omega)).mpr z)
                have hsome : ¬ ∀ i, p ≤ i → i < p + j → zw_dig (h 79 i) = false := fun z => absurd (zw_an_dig hpa hnlet) (by rw [z p (by omega) (by omega)]; decide)
                have hnot : ¬ ((∀ i, p ≤ i → i < p + j → zw_dig (h 79 i) = true) ∧ p + j - p ≤ 4) := fun z => hj4 (by have := z.2; omega)
                refine zj_iconst (v := 1) (pc := 334) K dX8_go_334 (by decide) ?_
                refine zj_goto (tgt := 347) (pc := 335) K dX8_go_335 (by decide) ?_
                refine zj_putI (pc := 347) K lf_X8_27 hs_M rfl dX8_go_347 ?_
                exact zj_vret K Rt dX8_go_350 (by
                  first
                  | (exfalso; exact c_318 c_339)
                  | (exfalso; exact c_339 c_318)
                  | (refine ⟨rfl, fun c c1 => by (repeat rw [zj_s_ne _ _ c1]); exact zf1 c c1, fun b hb => by (repeat rw [zj_s_eq]); (repeat rw [zz_upd_ne _ _ (by omega)]); exact zf2 b hb, zf3, 2, p, p + j, ⟨p, hpe, Or.inr ⟨hp, rfl, p + j, hE, Or.inr ⟨by omega, rfl, Or.inl ⟨zw_sh (p := fun i => zw_dig (h 79 i)) (fun k hk => zw_let_dig (by rw [zw_pu_t hpu k hk]; exact hlet)), rfl⟩⟩⟩⟩, ?_, ?_, ?_, h2, ?_⟩
                     · rw [zj_s_eq, zz_upd_ne _ _ (by decide)]; exact e5
                     · rw [zj_s_eq, zz_upd_ne _ _ (by decide)]; exact e4
                     · rw [zj_s_eq]; exact zz_upd_at _ _ _
                     · intro z; first | exact absurd z (by decide) | (rw [show p + j - p = j by omega]; exact zco))
                  | (refine ⟨rfl, fun c c1 => by (repeat rw [zj_s_ne _ _ c1]); exact zf1 c c1, fun b hb => by (repeat rw [zj_s_eq]); (repeat rw [zz_upd_ne _ _ (by omega)]); exact zf2 b hb, zf3, 3, p, p + j, ⟨p, hpe, Or.inr ⟨hp, rfl, p + j, hE, Or.inr ⟨by omega, rfl, Or.inr (Or.inl ⟨zw_sh (p := fun i => zw_dig (h 79 i)) (fun k hk => zw_an_dig (zan k hk) (by rw [zw_pu_t hpu k hk]; exact hnlet)), by omega, rfl, by rw [show p + j - p = j by omega, zj_s_eq, zz_upd_ne _ _ (by decide)]; exact zvl hj4⟩)⟩⟩⟩, ?_, ?_, ?_, h2, ?_⟩
                     · rw [zj_s_eq, zz_upd_ne _ _ (by decide)]; exact e5
                     · rw [zj_s_eq, zz_upd_ne _ _ (by decide)]; exact e4
                     · rw [zj_s_eq]; exact zz_upd_at _ _ _
                     · intro z; first | exact absurd z (by decide) | (rw [show p + j - p = j by omega]; exact zco))
                  | (refine ⟨rfl, fun c c1 => by (repeat rw [zj_s_ne _ _ c1]); exact zf1 c c1, fun b hb => by (repeat rw [zj_s_eq]); (repeat rw [zz_upd_ne _ _ (by omega)]); exact zf2 b hb, zf3, 0, p, p + j, ⟨p, hpe, Or.inr ⟨hp, rfl, p + j, hE, Or.inr ⟨by omega, rfl, Or.inr (Or.inr ⟨hsome, hnot, rfl⟩)⟩⟩⟩, ?_, ?_, ?_, h2, ?_⟩
                     · rw [zj_s_eq, zz_upd_ne _ _ (by decide)]; exact e5
                     · rw [zj_s_eq, zz_upd_ne _ _ (by decide)]; exact e4
                     · rw [zj_s_eq]; exact zz_upd_at _ _ _
                     · intro z; first | exact absurd z (by decide) | (rw [show p + j - p = j by omega]; exact zco)))
        · replace c_202 := zz_n0.mp c_202
          have hin : p + j < n := by
            apply Classical.byContradiction
            intro z
            rw [if_neg z] at c_202
            revert c_202; decide
          rw [if_pos hin, eb] at c_202
          have hA : zw_an (h 79) (p + j) = true := by unfold zw_an; rw [c_202]; simp
          refine zj_aload_n (i := 0) (pc := 205) K dX8_go_205 rfl rfl ?_
          refine zj_getR (pc := 206) K lf_X8_7 hs_M rfl dX8_go_206 ?_
          refine zj_aload_n (i := 0) (pc := 209) K dX8_go_209 rfl rfl ?_
          refine zj_getI (pc := 210) K lf_X8_21 hs_M rfl dX8_go_210 ?_
          refine zj_ald (j := p + j) (pc := 213) K hs_Mtape e4 (by omega) (by first | decide | omega) dX8_go_213 ?_
          refine zj_istore (pc := 214) K dX8_go_214 rfl rfl rfl ?_
          refine zj_iload_n (i := 3) (pc := 216) K dX8_go_216 rfl rfl ?_
          refine zj_if_eq (tgt := 233) (pc := 217) K dX8_go_217 (by decide) (fun c_217 => ?_) (fun c_217 => ?_)
          · rw [e3] at c_217
            have hpn : zw_pu (h 79) p (j + 1) = false := by rw [zw_pu, zz_i0.mp c_217, Bool.false_and]
            refine zj_iconst (v := 0) (pc := 233) K dX8_go_233 (by decide) ?_
            refine zj_istore_n (i := 3) (pc := 234) K dX8_go_234 rfl rfl rfl rfl ?_
            refine zj_aload_n (i := 0) (pc := 235) K dX8_go_235 rfl rfl ?_
            refine zj_getI (pc := 236) K lf_X8_21 hs_M rfl dX8_go_236 ?_
            refine zj_aload_n (i := 0) (pc := 239) K dX8_go_239 rfl rfl ?_
            refine zj_getI (pc := 240) K lf_X8_24 hs_M rfl dX8_go_240 ?_
            refine zj_isub (pc := 243) K dX8_go_243 ?_
            refine zj_bipush (v := 7) (pc := 244) K dX8_go_244 (by decide) ?_
            refine zj_icmp_ge (tgt := 269) (pc := 246) K dX8_go_246 (by decide) (fun c_246 => ?_) (fun c_246 => ?_)
            · rw [esub] at c_246
              have h7 : 7 ≤ j := zz_ge rfl (show (7 : Int32) = nI 7 from rfl) (by omega) (by omega) c_246
              refine zj_aload_n (i := 0) (pc := 269) K dX8_go_269 rfl rfl ?_
              refine zj_getI (pc := 270) K lf_X8_21 hs_M rfl dX8_go_270 ?_
              refine zj_aload_n (i := 0) (pc := 273) K dX8_go_273 rfl rfl ?_
              refine zj_getI (pc := 274) K lf_X8_24 hs_M rfl dX8_go_274 ?_
              refine zj_isub (pc := 277) K dX8_go_277 ?_
              refine zj_iconst (v := 4) (pc := 278) K dX8_go_278 (by decide) ?_
              refine zj_icmp_ge (tgt := 299) (pc := 279) K dX8_go_279 (by decide) (fun c_279 => ?_) (fun c_279 => ?_)
              · rw [esub] at c_279
                have h4 : 4 ≤ j := zz_ge rfl (show (4 : Int32) = nI 4 from rfl) (by omega) (by omega) c_279
                refine zj_aload_n (i := 0) (pc := 299) K dX8_go_299 rfl rfl ?_
                refine zj_dup (pc := 300) K dX8_go_300 rfl ?_
                refine zj_getI (pc := 301) K lf_X8_21 hs_M rfl dX8_go_301 ?_
                refine zj_iconst (v := 1) (pc := 304) K dX8_go_304 (by decide) ?_
                refine zj_iadd (pc := 305) K dX8_go_305 ?_
                refine zj_putI (pc := 306) K lf_X8_21 hs_M rfl dX8_go_306 ?_
                refine zj_goto (tgt := 177) (pc := 309) K dX8_go_309 (by decide) ?_
                refine zj_pick [0, 1, 2, 3] ?_
                have zan2 : ∀ k, k < j + 1 → zw_an (h 79) (p + k) = true := fun k hk => by
                  by_cases e : k = j
                  · rw [e]; exact hA
                  · exact zan k (by omega)
                refine ih (j + 1) _ _ _ _ _ (by omega) (by omega) (fun c c1 => by (repeat rw [zj_s_ne _ _ c1]); exact zf1 c c1) (fun b hb => by (repeat rw [zj_s_eq]); (repeat rw [zz_upd_ne _ _ (by omega)]); exact zf2 b hb) ?_ ?_ ?_ e2 (by rw [hpn]; rfl) zan2 (fun z => ?_) ?_
                · first
                  | exact zf3
                  | exact fun a b hab => (zw_sg hab).trans (zf3 a b hab)
                · (repeat rw [zj_s_eq]); (repeat rw [zz_upd_ne _ _ (by decide)]); exact e5
                · first
                  | (rw [zj_s_eq, zz_upd_at, e4, nI_1]; rfl)
                  | (rw [zj_s_eq, zz_upd_at, zj_s_eq, zz_upd_ne _ _ (by decide), e4, nI_1]; rfl)
                · first
                  | (exfalso; omega)
                  | (rw [zj_s_eq, zz_upd_ne _ _ (by decide), zj_s_eq, zz_upd_at, zvl (by omega), eb, zw_10]; rfl)
                · first
                  | (rw [show min (j + 1) 7 = 7 by omega]; rw [show min j 7 = 7 by omega] at zco; exact zco)
                  | (rw [show min (j + 1) 7 = j + 1 by omega, zj_sg_eq]; unfold vp_updL; rw [if_pos rfl, zco, show min j 7 = j by omega, eb]; rfl)
              · rw [esub] at c_279
                have h4 : j < 4 := zz_nge rfl (show (4 : Int32) = nI 4 from rfl) (by omega) (by omega) c_279
                refine zj_aload_n (i := 0) (pc := 282) K dX8_go_282 rfl rfl ?_
                refine zj_bipush (v := 10) (pc := 283) K dX8_go_283 (by decide) ?_
                refine zj_aload_n (i := 0) (pc := 285) K dX8_go_285 rfl rfl ?_
                refine zj_getI (pc := 286) K lf_X8_41 hs_M rfl dX8_go_286 ?_
                refine zj_imul (pc := 289) K dX8_go_289 ?_
                refine zj_iload (pc := 290) K dX8_go_290 rfl ?_
                refine zj_iadd (pc := 292) K dX8_go_292 ?_
                refine zj_bipush (v := 48) (pc := 293) K dX8_go_293 (by decide) ?_
                refine zj_isub (pc := 295) K dX8_go_295 ?_
                refine zj_putI (pc := 296) K lf_X8_41 hs_M rfl dX8_go_296 ?_
                refine zj_aload_n (i := 0) (pc := 299) K dX8_go_299 rfl rfl ?_
                refine zj_dup (pc := 300) K dX8_go_300 rfl ?_
                refine zj_getI (pc := 301) K lf_X8_21 hs_M rfl dX8_go_301 ?_
                refine zj_iconst (v := 1) (pc := 304) K dX8_go_304 (by decide) ?_
                refine zj_iadd (pc := 305) K dX8_go_305 ?_
                refine zj_putI (pc := 306) K lf_X8_21 hs_M rfl dX8_go_306 ?_
                refine zj_goto (tgt := 177) (pc := 309) K dX8_go_309 (by decide) ?_
                refine zj_pick [0, 1, 2, 3] ?_
                have zan2 : ∀ k, k < j + 1 → zw_an (h 79) (p + k) = true := fun k hk => by
                  by_cases e : k = j
                  · rw [e]; exact hA
                  · exact zan k (by omega)
                refine ih (j + 1) _ _ _ _ _ (by omega) (by omega) (fun c c1 => by (repeat rw [zj_s_ne _ _ c1]); exact zf1 c c1) (fun b hb => by (repeat rw [zj_s_eq]); (repeat rw [zz_upd_ne _ _ (by omega)]); exact zf2 b hb) ?_ ?_ ?_ e2 (by rw [hpn]; rfl) zan2 (fun z => ?_) ?_
                · first
                  | exact zf3
                  | exact fun a b hab => (zw_sg hab).trans (zf3 a b hab)
                · (repeat rw [zj_s_eq]); (repeat rw [zz_upd_ne _ _ (by decide)]); exact e5
                · first
                  | (rw [zj_s_eq, zz_upd_at, e4, nI_1]; rfl)
                  | (rw [zj_s_eq, zz_upd_at, zj_s_eq, zz_upd_ne _ _ (by decide), e4, nI_1]; rfl)
                · first
                  | (exfalso; omega)
                  | (rw [zj_s_eq, zz_upd_ne _ _ (by decide), zj_s_eq, zz_upd_at, zvl (by omega), eb, zw_10]; rfl)
                · first
                  | (rw [show min (j + 1) 7 = 7 by omega]; rw [show min j 7 = 7 by omega] at zco; exact zco)
                  | (rw [show min (j + 1) 7 = j + 1 by omega, zj_sg_eq]; unfold vp_updL; rw [if_pos rfl, zco, show min j 7 = j by omega, eb]; rfl)
            · rw [esub] at c_246
              have h7 : j < 7 := zz_nge rfl (show (7 : Int32) = nI 7 from rfl) (by omega) (by omega) c_246
              refine zj_aload_n (i := 0) (pc := 249) K dX8_go_249 rfl rfl ?_
              refine zj_ldc2 (pc := 250) K lk_X8_48 dX8_go_250 ?_
              refine zj_aload_n (i := 0) (pc := 253) K dX8_go_253 rfl rfl ?_
              refine zj_getJ (pc := 254) K lf_X8_37 hs_M rfl dX8_go_254 ?_
              refine zj_lmul (pc := 257) K dX8_go_257 ?_
              refine zj_iload (pc := 258) K dX8_go_258 rfl ?_
              refine zj_i2l (pc := 260) K dX8_go_260 ?_
              refine zj_ladd (pc := 261) K dX8_go_261 ?_
              refine zj_ldc2 (pc := 262) K lk_X8_50 dX8_go_262 ?_
              refine zj_lsub (pc := 265) K dX8_go_265 ?_
              refine zj_putJ (pc := 266) K lf_X8_37 hs_M rfl dX8_go_266 ?_
              refine zj_aload_n (i := 0) (pc := 269) K dX8_go_269 rfl rfl ?_
              refine zj_getI (pc := 270) K lf_X8_21 hs_M rfl dX8_go_270 ?_
              refine zj_aload_n (i := 0) (pc := 273) K dX8_go_273 rfl rfl ?_
              refine zj_getI (pc := 274) K lf_X8_24 hs_M rfl dX8_go_274 ?_
              refine zj_isub (pc := 277) K dX8_go_277 ?_
              refine zj_iconst (v := 4) (pc := 278) K dX8_go_278 (by decide) ?_
              refine zj_icmp_ge (tgt := 299) (pc := 279) K dX8_go_279 (by decide) (fun c_279 => ?_) (fun c_279 => ?_)
              · rw [esub] at c_279
                have h4 : 4 ≤ j := zz_ge rfl (show (4 : Int32) = nI 4 from rfl) (by omega) (by omega) c_279
                refine zj_aload_n (i := 0) (pc := 299) K dX8_go_299 rfl rfl ?_
                refine zj_dup (pc := 300) K dX8_go_300 rfl ?_
                refine zj_getI (pc := 301) K lf_X8_21 hs_M rfl dX8_go_301 ?_
                refine zj_iconst (v := 1) (pc := 304) K dX8_go_304 (by decide) ?_
                refine zj_iadd (pc := 305) K dX8_go_305 ?_
                refine zj_putI (pc := 306) K lf_X8_21 hs_M rfl dX8_go_306 ?_
                refine zj_goto (tgt := 177) (pc := 309) K dX8_go_309 (by decide) ?_
                refine zj_pick [0, 1, 2, 3] ?_
                have zan2 : ∀ k, k < j + 1 → zw_an (h 79) (p + k) = true := fun k hk => by
                  by_cases e : k = j
                  · rw [e]; exact hA
                  · exact zan k (by omega)
                refine ih (j + 1) _ _ _ _ _ (by omega) (by omega) (fun c c1 => by (repeat rw [zj_s_ne _ _ c1]); exact zf1 c c1) (fun b hb => by (repeat rw [zj_s_eq]); (repeat rw [zz_upd_ne _ _ (by omega)]); exact zf2 b hb) ?_ ?_ ?_ e2 (by rw [hpn]; rfl) zan2 (fun z => ?_) ?_
                · first
                  | exact zf3
                  | exact fun a b hab => (zw_sg hab).trans (zf3 a b hab)
                · (repeat rw [zj_s_eq]); (repeat rw [zz_upd_ne _ _ (by decide)]); exact e5
                · first
                  | (rw [zj_s_eq, zz_upd_at, e4, nI_1]; rfl)
                  | (rw [zj_s_eq, zz_upd_at, zj_s_eq, zz_upd_ne _ _ (by decide), e4, nI_1]; rfl)
                · first
                  | (exfalso; omega)
                  | (rw [zj_s_eq, zz_upd_ne _ _ (by decide), zj_s_eq, zz_upd_at, zvl (by omega), eb, zw_10]; rfl)
                · first
                  | (rw [show min (j + 1) 7 = 7 by omega]; rw [show min j 7 = 7 by omega] at zco; exact zco)
                  | (rw [show min (j + 1) 7 = j + 1 by omega, zj_sg_eq]; unfold vp_updL; rw [if_pos rfl, zco, show min j 7 = j by omega, eb]; rfl)
              · rw [esub] at c_279
                have h4 : j < 4 := zz_nge rfl (show (4 : Int32) = nI 4 from rfl) (by omega) (by omega) c_279
                refine zj_aload_n (i := 0) (pc := 282) K dX8_go_282 rfl rfl ?_
                refine zj_bipush (v := 10) (pc := 283) K dX8_go_283 (by decide) ?_
                refine zj_aload_n (i := 0) (pc := 285) K dX8_go_285 rfl rfl ?_
                refine zj_getI (pc := 286) K lf_X8_41 hs_M rfl dX8_go_286 ?_
                refine zj_imul (pc := 289) K dX8_go_289 ?_
                refine zj_iload (pc := 290) K dX8_go_290 rfl ?_
                refine zj_iadd (pc := 292) K dX8_go_292 ?_
                refine zj_bipush (v := 48) (pc := 293) K dX8_go_293 (by decide) ?_
                refine zj_isub (pc := 295) K dX8_go_295 ?_
                refine zj_putI (pc := 296) K lf_X8_41 hs_M rfl dX8_go_296 ?_
                refine zj_aload_n (i := 0) (pc := 299) K dX8_go_299 rfl rfl ?_
                refine zj_dup (pc := 300) K dX8_go_300 rfl ?_
                refine zj_getI (pc := 301) K lf_X8_21 hs_M rfl dX8_go_301 ?_
                refine zj_iconst (v := 1) (pc := 304) K dX8_go_304 (by decide) ?_
                refine zj_iadd (pc := 305) K dX8_go_305 ?_
                refine zj_putI (pc := 306) K lf_X8_21 hs_M rfl dX8_go_306 ?_
                refine zj_goto (tgt := 177) (pc := 309) K dX8_go_309 (by decide) ?_
                refine zj_pick [0, 1, 2, 3] ?_
                have zan2 : ∀ k, k < j + 1 → zw_an (h 79) (p + k) = true := fun k hk => by
                  by_cases e : k = j
                  · rw [e]; exact hA
                  · exact zan k (by omega)
                refine ih (j + 1) _ _ _ _ _ (by omega) (by omega) (fun c c1 => by (repeat rw [zj_s_ne _ _ c1]); exact zf1 c c1) (fun b hb => by (repeat rw [zj_s_eq]); (repeat rw [zz_upd_ne _ _ (by omega)]); exact zf2 b hb) ?_ ?_ ?_ e2 (by rw [hpn]; rfl) zan2 (fun z => ?_) ?_
                · first
                  | exact zf3
                  | exact fun a b hab => (zw_sg hab).trans (zf3 a b hab)
                · (repeat rw [zj_s_eq]); (repeat rw [zz_upd_ne _ _ (by decide)]); exact e5
                · first
                  | (rw [zj_s_eq, zz_upd_at, e4, nI_1]; rfl)
                  | (rw [zj_s_eq, zz_upd_at, zj_s_eq, zz_upd_ne _ _ (by decide), e4, nI_1]; rfl)
                · first
                  | (exfalso; omega)
                  | (rw [zj_s_eq, zz_upd_ne _ _ (by decide), zj_s_eq, zz_upd_at, zvl (by omega), eb, zw_10]; rfl)
                · first
                  | (rw [show min (j + 1) 7 = 7 by omega]; rw [show min j 7 = 7 by omega] at zco; exact zco)
                  | (rw [show min (j + 1) 7 = j + 1 by omega, zj_sg_eq]; unfold vp_updL; rw [if_pos rfl, zco, show min j 7 = j by omega, eb]; rfl)
          · rw [e3] at c_217
            refine zj_iload (pc := 220) K dX8_go_220 rfl ?_
            refine zj_cS1I (pc := 222) K lm_X8_30 (m_X8_isLetter) (by decide) rfl (Nat.le_of_ble_eq_true rfl) dX8_go_222 ?_
            refine zj_iload_n (i := 2) (pc := 225) K dX8_go_225 rfl rfl ?_
            refine zj_icmp_ne (tgt := 233) (pc := 226) K dX8_go_226 (by decide) (fun c_226 => ?_) (fun c_226 => ?_)
            · rw [eb, e2] at c_226
              have hpn : zw_pu (h 79) p (j + 1) = false := by rw [zw_pu, decide_eq_false (fun z => c_226 (by rw [z])), Bool.and_false]
              refine zj_iconst (v := 0) (pc := 233) K dX8_go_233 (by decide) ?_
              refine zj_istore_n (i := 3) (pc := 234) K dX8_go_234 rfl rfl rfl rfl ?_
              refine zj_aload_n (i := 0) (pc := 235) K dX8_go_235 rfl rfl ?_
              refine zj_getI (pc := 236) K lf_X8_21 hs_M rfl dX8_go_236 ?_
              refine zj_aload_n (i := 0) (pc := 239) K dX8_go_239 rfl rfl ?_
              refine zj_getI (pc := 240) K lf_X8_24 hs_M rfl dX8_go_240 ?_
              refine zj_isub (pc := 243) K dX8_go_243 ?_
              refine zj_bipush (v := 7) (pc := 244) K dX8_go_244 (by decide) ?_
              refine zj_icmp_ge (tgt := 269) (pc := 246) K dX8_go_246 (by decide) (fun c_246 => ?_) (fun c_246 => ?_)
              · rw [esub] at c_246
                have h7 : 7 ≤ j := zz_ge rfl (show (7 : Int32) = nI 7 from rfl) (by omega) (by omega) c_246
                refine zj_aload_n (i := 0) (pc := 269) K dX8_go_269 rfl rfl ?_
                refine zj_getI (pc := 270) K lf_X8_21 hs_M rfl dX8_go_270 ?_
                refine zj_aload_n (i := 0) (pc := 273) K dX8_go_273 rfl rfl ?_
                refine zj_getI (pc := 274) K lf_X8_24 hs_M rfl dX8_go_274 ?_
                refine zj_isub (pc := 277) K dX8_go_277 ?_
                refine zj_iconst (v := 4) (pc := 278) K dX8_go_278 (by decide) ?_
                refine zj_icmp_ge (tgt := 299) (pc := 279) K dX8_go_279 (by decide) (fun c_279 => ?_) (fun c_279 => ?_)
                · rw [esub] at c_279
                  have h4 : 4 ≤ j := zz_ge rfl (show (4 : Int32) = nI 4 from rfl) (by omega) (by omega) c_279
                  refine zj_aload_n (i := 0) (pc := 299) K dX8_go_299 rfl rfl ?_
                  refine zj_dup (pc := 300) K dX8_go_300 rfl ?_
                  refine zj_getI (pc := 301) K lf_X8_21 hs_M rfl dX8_go_301 ?_
                  refine zj_iconst (v := 1) (pc := 304) K dX8_go_304 (by decide) ?_
                  refine zj_iadd (pc := 305) K dX8_go_305 ?_
                  refine zj_putI (pc := 306) K lf_X8_21 hs_M rfl dX8_go_306 ?_
                  refine zj_goto (tgt := 177) (pc := 309) K dX8_go_309 (by decide) ?_
                  refine zj_pick [0, 1, 2, 3] ?_
                  have zan2 : ∀ k, k < j + 1 → zw_an (h 79) (p + k) = true := fun k hk => by
                    by_cases e : k = j
                    · rw [e]; exact hA
                    · exact zan k (by omega)
                  refine ih (j + 1) _ _ _ _ _ (by omega) (by omega) (fun c c1 => by (repeat rw [zj_s_ne _ _ c1]); exact zf1 c c1) (fun b hb => by (repeat rw [zj_s_eq]); (repeat rw [zz_upd_ne _ _ (by omega)]); exact zf2 b hb) ?_ ?_ ?_ e2 (by rw [hpn]; rfl) zan2 (fun z => ?_) ?_
                  · first
                    | exact zf3
                    | exact fun a b hab => (zw_sg hab).trans (zf3 a b hab)
                  · (repeat rw [zj_s_eq]); (repeat rw [zz_upd_ne _ _ (by decide)]); exact e5
                  · first
                    | (rw [zj_s_eq, zz_upd_at, e4, nI_1]; rfl)
                    | (rw [zj_s_eq, zz_upd_at, zj_s_eq, zz_upd_ne _ _ (by decide), e4, nI_1]; rfl)
                  · first
                    | (exfalso; omega)
                    | (rw [zj_s_eq, zz_upd_ne _ _ (by decide), zj_s_eq, zz_upd_at, zvl (by omega), eb, zw_10]; rfl)
                  · first
                    | (rw [show min (j + 1) 7 = 7 by omega]; rw [show min j 7 = 7 by omega] at zco; exact zco)
                    | (rw [show min (j + 1) 7 = j + 1 by omega, zj_sg_eq]; unfold vp_updL; rw [if_pos rfl, zco, show min j 7 = j by omega, eb]; rfl)
                · rw [esub] at c_279
                  have h4 : j < 4 := zz_nge rfl (show (4 : Int32) = nI 4 from rfl) (by omega) (by omega) c_279
                  refine zj_aload_n (i := 0) (pc := 282) K dX8_go_282 rfl rfl ?_
                  refine zj_bipush (v := 10) (pc := 283) K dX8_go_283 (by decide) ?_
                  refine zj_aload_n (i := 0) (pc := 285) K dX8_go_285 rfl rfl ?_
                  refine zj_getI (pc := 286) K lf_X8_41 hs_M rfl dX8_go_286 ?_
                  refine zj_imul (pc := 289) K dX8_go_289 ?_
                  refine zj_iload (pc := 290) K dX8_go_290 rfl ?_
                  refine zj_iadd (pc := 292) K dX8_go_292 ?_
                  refine zj_bipush (v := 48) (pc := 293) K dX8_go_293 (by decide) ?_
                  refine zj_isub (pc := 295) K dX8_go_295 ?_
                  refine zj_putI (pc := 296) K lf_X8_41 hs_M rfl dX8_go_296 ?_
                  refine zj_aload_n (i := 0) (pc := 299) K dX8_go_299 rfl rfl ?_
                  refine zj_dup (pc := 300) K dX8_go_300 rfl ?_
                  refine zj_getI (pc := 301) K lf_X8_21 hs_M rfl dX8_go_301 ?_
                  refine zj_iconst (v := 1) (pc := 304) K dX8_go_304 (by decide) ?_
                  refine zj_iadd (pc := 305) K dX8_go_305 ?_
                  refine zj_putI (pc := 306) K lf_X8_21 hs_M rfl dX8_go_306 ?_
                  refine zj_goto (tgt := 177) (pc := 309) K dX8_go_309 (by decide) ?_
                  refine zj_pick [0, 1, 2, 3] ?_
                  have zan2 : ∀ k, k < j + 1 → zw_an (h 79) (p + k) = true := fun k hk => by
                    by_cases e : k = j
                    · rw [e]; exact hA
                    · exact zan k (by omega)
                  refine ih (j + 1) _ _ _ _ _ (by omega) (by omega) (fun c c1 => by (repeat rw [zj_s_ne _ _ c1]); exact zf1 c c1) (fun b hb => by (repeat rw [zj_s_eq]); (repeat rw [zz_upd_ne _ _ (by omega)]); exact zf2 b hb) ?_ ?_ ?_ e2 (by rw [hpn]; rfl) zan2 (fun z => ?_) ?_
                  · first
                    | exact zf3
                    | exact fun a b hab => (zw_sg hab).trans (zf3 a b hab)
                  · (repeat rw [zj_s_eq]); (repeat rw [zz_upd_ne _ _ (by decide)]); exact e5
                  · first
                    | (rw [zj_s_eq, zz_upd_at, e4, nI_1]; rfl)
                    | (rw [zj_s_eq, zz_upd_at, zj_s_eq, zz_upd_ne _ _ (by decide), e4, nI_1]; rfl)
                  · first
                    | (exfalso; omega)
                    | (rw [zj_s_eq, zz_upd_ne _ _ (by decide), zj_s_eq, zz_upd_at, zvl (by omega), eb, zw_10]; rfl)
                  · first
                    | (rw [show min (j + 1) 7 = 7 by omega]; rw [show min j 7 = 7 by omega] at zco; exact zco)
                    | (rw [show min (j + 1) 7 = j + 1 by omega, zj_sg_eq]; unfold vp_updL; rw [if_pos rfl, zco, show min j 7 = j by omega, eb]; rfl)
              · rw [esub] at c_246
                have h7 : j < 7 := zz_nge rfl (show (7 : Int32) = nI 7 from rfl) (by omega) (by omega) c_246
                refine zj_aload_n (i := 0) (pc := 249) K dX8_go_249 rfl rfl ?_
                refine zj_ldc2 (pc := 250) K lk_X8_48 dX8_go_250 ?_
                refine zj_aload_n (i := 0) (pc := 253) K dX8_go_253 rfl rfl ?_
                refine zj_getJ (pc := 254) K lf_X8_37 hs_M rfl dX8_go_254 ?_
                refine zj_lmul (pc := 257) K dX8_go_257 ?_
                refine zj_iload (pc := 258) K dX8_go_258 rfl ?_
                refine zj_i2l (pc := 260) K dX8_go_260 ?_
                refine zj_ladd (pc := 261) K dX8_go_261 ?_
                refine zj_ldc2 (pc := 262) K lk_X8_50 dX8_go_262 ?_
                refine zj_lsub (pc := 265) K dX8_go_265 ?_
                refine zj_putJ (pc := 266) K lf_X8_37 hs_M rfl dX8_go_266 ?_
                refine zj_aload_n (i := 0) (pc := 269) K dX8_go_269 rfl rfl ?_
                refine zj_getI (pc := 270) K lf_X8_21 hs_M rfl dX8_go_270 ?_
                refine zj_aload_n (i := 0) (pc := 273) K dX8_go_273 rfl rfl ?_
                refine zj_getI (pc := 274) K lf_X8_24 hs_M rfl dX8_go_274 ?_
                refine zj_isub (pc := 277) K dX8_go_277 ?_
                refine zj_iconst (v := 4) (pc := 278) K dX8_go_278 (by decide) ?_
                refine zj_icmp_ge (tgt := 299) (pc := 279) K dX8_go_279 (by decide) (fun c_279 => ?_) (fun c_279 => ?_)
                · rw [esub] at c_279
                  have h4 : 4 ≤ j := zz_ge rfl (show (4 : Int32) = nI 4 from rfl) (by omega) (by omega) c_279
                  refine zj_aload_n (i := 0) (pc := 299) K dX8_go_299 rfl rfl ?_
                  refine zj_dup (pc := 300) K dX8_go_300 rfl ?_
                  refine zj_getI (pc := 301) K lf_X8_21 hs_M rfl dX8_go_301 ?_
                  refine zj_iconst (v := 1) (pc := 304) K dX8_go_304 (by decide) ?_
                  refine zj_iadd (pc := 305) K dX8_go_305 ?_
                  refine zj_putI (pc := 306) K lf_X8_21 hs_M rfl dX8_go_306 ?_
                  refine zj_goto (tgt := 177) (pc := 309) K dX8_go_309 (by decide) ?_
                  refine zj_pick [0, 1, 2, 3] ?_
                  have zan2 : ∀ k, k < j + 1 → zw_an (h 79) (p + k) = true := fun k hk => by
                    by_cases e : k = j
                    · rw [e]; exact hA
                    · exact zan k (by omega)
                  refine ih (j + 1) _ _ _ _ _ (by omega) (by omega) (fun c c1 => by (repeat rw [zj_s_ne _ _ c1]); exact zf1 c c1) (fun b hb => by (repeat rw [zj_s_eq]); (repeat rw [zz_upd_ne _ _ (by omega)]); exact zf2 b hb) ?_ ?_ ?_ e2 (by rw [hpn]; rfl) zan2 (fun z => ?_) ?_
                  · first
                    | exact zf3
                    | exact fun a b hab => (zw_sg hab).trans (zf3 a b hab)
                  · (repeat rw [zj_s_eq]); (repeat rw [zz_upd_ne _ _ (by decide)]); exact e5
                  · first
                    | (rw [zj_s_eq, zz_upd_at, e4, nI_1]; rfl)
                    | (rw [zj_s_eq, zz_upd_at, zj_s_eq, zz_upd_ne _ _ (by decide), e4, nI_1]; rfl)
                  · first
                    | (exfalso; omega)
                    | (rw [zj_s_eq, zz_upd_ne _ _ (by decide), zj_s_eq, zz_upd_at, zvl (by omega), eb, zw_10]; rfl)
                  · first
                    | (rw [show min (j + 1) 7 = 7 by omega]; rw [show min j 7 = 7 by omega] at zco; exact zco)
                    | (rw [show min (j + 1) 7 = j + 1 by omega, zj_sg_eq]; unfold vp_updL; rw [if_pos rfl, zco, show min j 7 = j by omega, eb]; rfl)
                · rw [esub] at c_279
                  have h4 : j < 4 := zz_nge rfl (show (4 : Int32) = nI 4 from rfl) (by omega) (by omega) c_279
                  refine zj_aload_n (i := 0) (pc := 282) K dX8_go_282 rfl rfl ?_
                  refine zj_bipush (v := 10) (pc := 283) K dX8_go_283 (by decide) ?_
                  refine zj_aload_n (i := 0) (pc := 285) K dX8_go_285 rfl rfl ?_
                  refine zj_getI (pc := 286) K lf_X8_41 hs_M rfl dX8_go_286 ?_
                  refine zj_imul (pc := 289) K dX8_go_289 ?_
                  refine zj_iload (pc := 290) K dX8_go_290 rfl ?_
                  refine zj_iadd (pc := 292) K dX8_go_292 ?_
                  refine zj_bipush (v := 48) (pc := 293) K dX8_go_293 (by decide) ?_
                  refine zj_isub (pc := 295) K dX8_go_295 ?_
                  refine zj_putI (pc := 296) K lf_X8_41 hs_M rfl dX8_go_296 ?_
                  refine zj_aload_n (i := 0) (pc := 299) K dX8_go_299 rfl rfl ?_
                  refine zj_dup (pc := 300) K dX8_go_300 rfl ?_
                  refine zj_getI (pc := 301) K lf_X8_21 hs_M rfl dX8_go_301 ?_
                  refine zj_iconst (v := 1) (pc := 304) K dX8_go_304 (by decide) ?_
                  refine zj_iadd (pc := 305) K dX8_go_305 ?_
                  refine zj_putI (pc := 306) K lf_X8_21 hs_M rfl dX8_go_306 ?_
                  refine zj_goto (tgt := 177) (pc := 309) K dX8_go_309 (by decide) ?_
                  refine zj_pick [0, 1, 2, 3] ?_
                  have zan2 : ∀ k, k < j + 1 → zw_an (h 79) (p + k) = true := fun k hk => by
                    by_cases e : k = j
                    · rw [e]; exact hA
                    · exact zan k (by omega)
                  refine ih (j + 1) _ _ _ _ _ (by omega) (by omega) (fun c c1 => by (repeat rw [zj_s_ne _ _ c1]); exact zf1 c c1) (fun b hb => by (repeat rw [zj_s_eq]); (repeat rw [zz_upd_ne _ _ (by omega)]); exact zf2 b hb) ?_ ?_ ?_ e2 (by rw [hpn]; rfl) zan2 (fun z => ?_) ?_
                  · first
                    | exact zf3
                    | exact fun a b hab => (zw_sg hab).trans (zf3 a b hab)
                  · (repeat rw [zj_s_eq]); (repeat rw [zz_upd_ne _ _ (by decide)]); exact e5
                  · first
                    | (rw [zj_s_eq, zz_upd_at, e4, nI_1]; rfl)
                    | (rw [zj_s_eq, zz_upd_at, zj_s_eq, zz_upd_ne _ _ (by decide), e4, nI_1]; rfl)
                  · first
                    | (exfalso; omega)
                    | (rw [zj_s_eq, zz_upd_ne _ _ (by decide), zj_s_eq, zz_upd_at, zvl (by omega), eb, zw_10]; rfl)
                  · first
                    | (rw [show min (j + 1) 7 = 7 by omega]; rw [show min j 7 = 7 by omega] at zco; exact zco)
                    | (rw [show min (j + 1) 7 = j + 1 by omega, zj_sg_eq]; unfold vp_updL; rw [if_pos rfl, zco, show min j 7 = j by omega, eb]; rfl)
            · rw [eb, e2] at c_226
              have hpn : zw_pu (h 79) p (j + 1) = true := by rw [zw_pu, zz_n0.mp c_217, decide_eq_true (zz_inj c_226)]; rfl
              refine zj_iconst (v := 1) (pc := 229) K dX8_go_229 (by decide) ?_
              refine zj_goto (tgt := 234) (pc := 230) K dX8_go_230 (by decide) ?_
              refine zj_istore_n (i := 3) (pc := 234) K dX8_go_234 rfl rfl rfl rfl ?_
              refine zj_aload_n (i := 0) (pc := 235) K dX8_go_235 rfl rfl ?_
              refine zj_getI (pc := 236) K lf_X8_21 hs_M rfl dX8_go_236 ?_
              refine zj_aload_n (i := 0) (pc := 239) K dX8_go_239 rfl rfl ?_
              refine zj_getI (pc := 240) K lf_X8_24 hs_M rfl dX8_go_240 ?_
              refine zj_isub (pc := 243) K dX8_go_243 ?_
              refine zj_bipush (v := 7) (pc := 244) K dX8_go_244 (by decide) ?_
              refine zj_icmp_ge (tgt := 269) (pc := 246) K dX8_go_246 (by decide) (fun c_246 => ?_) (fun c_246 => ?_)
              · rw [esub] at c_246
                have h7 : 7 ≤ j := zz_ge rfl (show (7 : Int32) = nI 7 from rfl) (by omega) (by omega) c_246
                refine zj_aload_n (i := 0) (pc := 269) K dX8_go_269 rfl rfl ?_
                refine zj_getI (pc := 270) K lf_X8_21 hs_M rfl dX8_go_270 ?_
                refine zj_aload_n (i := 0) (pc := 273) K dX8_go_273 rfl rfl ?_
                refine zj_getI (pc := 274) K lf_X8_24 hs_M rfl dX8_go_274 ?_
                refine zj_isub (pc := 277) K dX8_go_277 ?_
                refine zj_iconst (v := 4) (pc := 278) K dX8_go_278 (by decide) ?_
                refine zj_icmp_ge (tgt := 299) (pc := 279) K dX8_go_279 (by decide) (fun c_279 => ?_) (fun c_279 => ?_)
                · rw [esub] at c_279
                  have h4 : 4 ≤ j := zz_ge rfl (show (4 : Int32) = nI 4 from rfl) (by omega) (by omega) c_279
                  refine zj_aload_n (i := 0) (pc := 299) K dX8_go_299 rfl rfl ?_
                  refine zj_dup (pc := 300) K dX8_go_300 rfl ?_
                  refine zj_getI (pc := 301) K lf_X8_21 hs_M rfl dX8_go_301 ?_
                  refine zj_iconst (v := 1) (pc := 304) K dX8_go_304 (by decide) ?_
                  refine zj_iadd (pc := 305) K dX8_go_305 ?_
                  refine zj_putI (pc := 306) K lf_X8_21 hs_M rfl dX8_go_306 ?_
                  refine zj_goto (tgt := 177) (pc := 309) K dX8_go_309 (by decide) ?_
                  refine zj_pick [0, 1, 2, 3] ?_
                  have zan2 : ∀ k, k < j + 1 → zw_an (h 79) (p + k) = true := fun k hk => by
                    by_cases e : k = j
                    · rw [e]; exact hA
                    · exact zan k (by omega)
                  refine ih (j + 1) _ _ _ _ _ (by omega) (by omega) (fun c c1 => by (repeat rw [zj_s_ne _ _ c1]); exact zf1 c c1) (fun b hb => by (repeat rw [zj_s_eq]); (repeat rw [zz_upd_ne _ _ (by omega)]); exact zf2 b hb) ?_ ?_ ?_ e2 (by rw [hpn]; rfl) zan2 (fun z => ?_) ?_
                  · first
                    | exact zf3
                    | exact fun a b hab => (zw_sg hab).trans (zf3 a b hab)
                  · (repeat rw [zj_s_eq]); (repeat rw [zz_upd_ne _ _ (by decide)]); exact e5
                  · first
                    | (rw [zj_s_eq, zz_upd_at, e4, nI_1]; rfl)
                    | (rw [zj_s_eq, zz_upd_at, zj_s_eq, zz_upd_ne _ _ (by decide), e4, nI_1]; rfl)
                  · first
                    | (exfalso; omega)
                    | (rw [zj_s_eq, zz_upd_ne _ _ (by decide), zj_s_eq, zz_upd_at, zvl (by omega), eb, zw_10]; rfl)
                  · first
                    | (rw [show min (j + 1) 7 = 7 by omega]; rw [show min j 7 = 7 by omega] at zco; exact zco)
                    | (rw [show min (j + 1) 7 = j + 1 by omega, zj_sg_eq]; unfold vp_updL; rw [if_pos rfl, zco, show min j 7 = j by omega, eb]; rfl)
                · rw [esub] at c_279
                  have h4 : j < 4 := zz_nge rfl (show (4 : Int32) = nI 4 from rfl) (by omega) (by omega) c_279
                  refine zj_aload_n (i := 0) (pc := 282) K dX8_go_282 rfl rfl ?_
                  refine zj_bipush (v := 10) (pc := 283) K dX8_go_283 (by decide) ?_
                  refine zj_aload_n (i := 0) (pc := 285) K dX8_go_285 rfl rfl ?_
                  refine zj_getI (pc := 286) K lf_X8_41 hs_M rfl dX8_go_286 ?_
                  refine zj_imul (pc := 289) K dX8_go_289 ?_
                  refine zj_iload (pc := 290) K dX8_go_290 rfl ?_
                  refine zj_iadd (pc := 292) K dX8_go_292 ?_
                  refine zj_bipush (v := 48) (pc := 293) K dX8_go_293 (by decide) ?_
                  refine zj_isub (pc := 295) K dX8_go_295 ?_
                  refine zj_putI (pc := 296) K lf_X8_41 hs_M rfl dX8_go_296 ?_
                  refine zj_aload_n (i := 0) (pc := 299) K dX8_go_299 rfl rfl ?_
                  refine zj_dup (pc := 300) K dX8_go_300 rfl ?_
                  refine zj_getI (pc := 301) K lf_X8_21 hs_M rfl dX8_go_301 ?_
                  refine zj_iconst (v := 1) (pc := 304) K dX8_go_304 (by decide) ?_
                  refine zj_iadd (pc := 305) K dX8_go_305 ?_
                  refine zj_putI (pc := 306) K lf_X8_21 hs_M rfl dX8_go_306 ?_
                  refine zj_goto (tgt := 177) (pc := 309) K dX8_go_309 (by decide) ?_
                  refine zj_pick [0, 1, 2, 3] ?_
                  have zan2 : ∀ k, k < j + 1 → zw_an (h 79) (p + k) = true := fun k hk => by
                    by_cases e : k = j
                    · rw [e]; exact hA
                    · exact zan k (by omega)
                  refine ih (j + 1) _ _ _ _ _ (by omega) (by omega) (fun c c1 => by (repeat rw [zj_s_ne _ _ c1]); exact zf1 c c1) (fun b hb => by (repeat rw [zj_s_eq]); (repeat rw [zz_upd_ne _ _ (by omega)]); exact zf2 b hb) ?_ ?_ ?_ e2 (by rw [hpn]; rfl) zan2 (fun z => ?_) ?_
                  · first
                    | exact zf3
                    | exact fun a b hab => (zw_sg hab).trans (zf3 a b hab)
                  · (repeat rw [zj_s_eq]); (repeat rw [zz_upd_ne _ _ (by decide)]); exact e5
                  · first
                    | (rw [zj_s_eq, zz_upd_at, e4, nI_1]; rfl)
                    | (rw [zj_s_eq, zz_upd_at, zj_s_eq, zz_upd_ne _ _ (by decide), e4, nI_1]; rfl)
                  · first
                    | (exfalso; omega)
                    | (rw [zj_s_eq, zz_upd_ne _ _ (by decide), zj_s_eq, zz_upd_at, zvl (by omega), eb, zw_10]; rfl)
                  · first
                    | (rw [show min (j + 1) 7 = 7 by omega]; rw [show min j 7 = 7 by omega] at zco; exact zco)
                    | (rw [show min (j + 1) 7 = j + 1 by omega, zj_sg_eq]; unfold vp_updL; rw [if_pos rfl, zco, show min j 7 = j by omega, eb]; rfl)
              · rw [esub] at c_246
                have h7 : j < 7 := zz_nge rfl (show (7 : Int32) = nI 7 from rfl) (by omega) (by omega) c_246
                refine zj_aload_n (i := 0) (pc := 249) K dX8_go_249 rfl rfl ?_
                refine zj_ldc2 (pc := 250) K lk_X8_48 dX8_go_250 ?_
                refine zj_aload_n (i := 0) (pc := 253) K dX8_go_253 rfl rfl ?_
                refine zj_getJ (pc := 254) K lf_X8_37 hs_M rfl dX8_go_254 ?_
                refine zj_lmul (pc := 257) K dX8_go_257 ?_
                refine zj_iload (pc := 258) K dX8_go_258 rfl ?_
                refine zj_i2l (pc := 260) K dX8_go_260 ?_
                refine zj_ladd (pc := 261) K dX8_go_261 ?_
                refine zj_ldc2 (pc := 262) K lk_X8_50 dX8_go_262 ?_
                refine zj_lsub (pc := 265) K dX8_go_265 ?_
                refine zj_putJ (pc := 266) K lf_X8_37 hs_M rfl dX8_go_266 ?_
                refine zj_aload_n (i := 0) (pc := 269) K dX8_go_269 rfl rfl ?_
                refine zj_getI (pc := 270) K lf_X8_21 hs_M rfl dX8_go_270 ?_
                refine zj_aload_n (i := 0) (pc := 273) K dX8_go_273 rfl rfl ?_
                refine zj_getI (pc := 274) K lf_X8_24 hs_M rfl dX8_go_274 ?_
                refine zj_isub (pc := 277) K dX8_go_277 ?_
                refine zj_iconst (v := 4) (pc := 278) K dX8_go_278 (by decide) ?_
                refine zj_icmp_ge (tgt := 299) (pc := 279) K dX8_go_279 (by decide) (fun c_279 => ?_) (fun c_279 => ?_)
                · rw [esub] at c_279
                  have h4 : 4 ≤ j := zz_ge rfl (show (4 : Int32) = nI 4 from rfl) (by omega) (by omega) c_279
                  refine zj_aload_n (i := 0) (pc := 299) K dX8_go_299 rfl rfl ?_
                  refine zj_dup (pc := 300) K dX8_go_300 rfl ?_
                  refine zj_getI (pc := 301) K lf_X8_21 hs_M rfl dX8_go_301 ?_
                  refine zj_iconst (v := 1) (pc := 304) K dX8_go_304 (by decide) ?_
                  refine zj_iadd (pc := 305) K dX8_go_305 ?_
                  refine zj_putI (pc := 306) K lf_X8_21 hs_M rfl dX8_go_306 ?_
                  refine zj_goto (tgt := 177) (pc := 309) K dX8_go_309 (by decide) ?_
                  refine zj_pick [0, 1, 2, 3] ?_
                  have zan2 : ∀ k, k < j + 1 → zw_an (h 79) (p + k) = true := fun k hk => by
                    by_cases e : k = j
                    · rw [e]; exact hA
                    · exact zan k (by omega)
                  refine ih (j + 1) _ _ _ _ _ (by omega) (by omega) (fun c c1 => by (repeat rw [zj_s_ne _ _ c1]); exact zf1 c c1) (fun b hb => by (repeat rw [zj_s_eq]); (repeat rw [zz_upd_ne _ _ (by omega)]); exact zf2 b hb) ?_ ?_ ?_ e2 (by rw [hpn]; rfl) zan2 (fun z => ?_) ?_
                  · first
                    | exact zf3
                    | exact fun a b hab => (zw_sg hab).trans (zf3 a b hab)
                  · (repeat rw [zj_s_eq]); (repeat rw [zz_upd_ne _ _ (by decide)]); exact e5
                  · first
                    | (rw [zj_s_eq, zz_upd_at, e4, nI_1]; rfl)
                    | (rw [zj_s_eq, zz_upd_at, zj_s_eq, zz_upd_ne _ _ (by decide), e4, nI_1]; rfl)
                  · first
                    | (exfalso; omega)
                    | (rw [zj_s_eq, zz_upd_ne _ _ (by decide), zj_s_eq, zz_upd_at, zvl (by omega), eb, zw_10]; rfl)
                  · first
                    | (rw [show min (j + 1) 7 = 7 by omega]; rw [show min j 7 = 7 by omega] at zco; exact zco)
                    | (rw [show min (j + 1) 7 = j + 1 by omega, zj_sg_eq]; unfold vp_updL; rw [if_pos rfl, zco, show min j 7 = j by omega, eb]; rfl)
                · rw [esub] at c_279
                  have h4 : j < 4 := zz_nge rfl (show (4 : Int32) = nI 4 from rfl) (by omega) (by omega) c_279
                  refine zj_aload_n (i := 0) (pc := 282) K dX8_go_282 rfl rfl ?_
                  refine zj_bipush (v := 10) (pc := 283) K dX8_go_283 (by decide) ?_
                  refine zj_aload_n (i := 0) (pc := 285) K dX8_go_285 rfl rfl ?_
                  refine zj_getI (pc := 286) K lf_X8_41 hs_M rfl dX8_go_286 ?_
                  refine zj_imul (pc := 289) K dX8_go_289 ?_
                  refine zj_iload (pc := 290) K dX8_go_290 rfl ?_
                  refine zj_iadd (pc := 292) K dX8_go_292 ?_
                  refine zj_bipush (v := 48) (pc := 293) K dX8_go_293 (by decide) ?_
                  refine zj_isub (pc := 295) K dX8_go_295 ?_
                  refine zj_putI (pc := 296) K lf_X8_41 hs_M rfl dX8_go_296 ?_
                  refine zj_aload_n (i := 0) (pc := 299) K dX8_go_299 rfl rfl ?_
                  refine zj_dup (pc := 300) K dX8_go_300 rfl ?_
                  refine zj_getI (pc := 301) K lf_X8_21 hs_M rfl dX8_go_301 ?_
                  refine zj_iconst (v := 1) (pc := 304) K dX8_go_304 (by decide) ?_
                  refine zj_iadd (pc := 305) K dX8_go_305 ?_
                  refine zj_putI (pc := 306) K lf_X8_21 hs_M rfl dX8_go_306 ?_
                  refine zj_goto (tgt := 177) (pc := 309) K dX8_go_309 (by decide) ?_
                  refine zj_pick [0, 1, 2, 3] ?_
                  have zan2 : ∀ k, k < j + 1 → zw_an (h 79) (p + k) = true := fun k hk => by
                    by_cases e : k = j
                    · rw [e]; exact hA
                    · exact zan k (by omega)
                  refine ih (j + 1) _ _ _ _ _ (by omega) (by omega) (fun c c1 => by (repeat rw [zj_s_ne _ _ c1]); exact zf1 c c1) (fun b hb => by (repeat rw [zj_s_eq]); (repeat rw [zz_upd_ne _ _ (by omega)]); exact zf2 b hb) ?_ ?_ ?_ e2 (by rw [hpn]; rfl) zan2 (fun z => ?_) ?_
                  · first
                    | exact zf3
                    | exact fun a b hab => (zw_sg hab).trans (zf3 a b hab)
                  · (repeat rw [zj_s_eq]); (repeat rw [zz_upd_ne _ _ (by decide)]); exact e5
                  · first
                    | (rw [zj_s_eq, zz_upd_at, e4, nI_1]; rfl)
                    | (rw [zj_s_eq, zz_upd_at, zj_s_eq, zz_upd_ne _ _ (by decide), e4, nI_1]; rfl)
                  · first
                    | (exfalso; omega)
                    | (rw [zj_s_eq, zz_upd_ne _ _ (by decide), zj_s_eq, zz_upd_at, zvl (by omega), eb, zw_10]; rfl)
                  · first
                    | (rw [show min (j + 1) 7 = 7 by omega]; rw [show min j 7 = 7 by omega] at zco; exact zco)
                    | (rw [show min (j + 1) 7 = j + 1 by omega, zj_sg_eq]; unfold vp_updL; rw [if_pos rfl, zco, show min j 7 = j by omega, eb]; rfl)
  have tl : ∀ (i : Nat) (q : zj_H), i ≤ n → (∀ a, a ≠ 78 → q a = h a) → (∀ b, (b < 4 ∨ 8 ≤ b) → q 78 b = h 78 b) → q 78 4 = nI i → zw_e (fun i => zw_bl (h 79 i)) n a i → zj_J E Γ 5 52 [(0, .ref (E.2.1 78))] [] q g := by
    intro i q h2 zf1 zf2 e4 hE1
    have eLq : q 78 3 = nI n := by rw [zf2 3 (by decide)]; exact eL
    have eb : q 79 = h 79 := zf1 79 (by decide)
    have hmin : min n 500 ≤ n := Nat.min_le_left _ _
    have h500 : min n 500 ≤ 500 := Nat.min_le_right _ _
    first
    | skip
      refine zj_aload_n (i := 0) (pc := 52) K dX8_go_52 rfl rfl ?_
      refine zj_aload_n (i := 0) (pc := 53) K dX8_go_53 rfl rfl ?_
      refine zj_getI (pc := 54) K lf_X8_21 hs_M rfl dX8_go_54 ?_
      refine zj_putI (pc := 57) K lf_X8_24 hs_M rfl dX8_go_57 ?_
      refine zj_aload_n (i := 0) (pc := 60) K dX8_go_60 rfl rfl ?_
      refine zj_getI (pc := 61) K lf_X8_18 hs_M rfl dX8_go_61 ?_
      refine zj_sipush (v := 500) (pc := 64) K dX8_go_64 (by decide) ?_
      refine zj_icmp_le (tgt := 93) (pc := 67) K dX8_go_67 (by decide) (fun c_67 => ?_) (fun c_67 => ?_)
      · have hn5 : n ≤ 500 := (nI_leI (b := 500) (by omega) (by omega)).mp (show nI n ≤ nI 500 by have z := c_67; rw [zj_s_eq, zz_upd_ne _ _ (by decide), eLq] at z; exact z)
        refine zj_aload_n (i := 0) (pc := 93) K dX8_go_93 rfl rfl ?_
        refine zj_getI (pc := 94) K lf_X8_21 hs_M rfl dX8_go_94 ?_
        refine zj_aload_n (i := 0) (pc := 97) K dX8_go_97 rfl rfl ?_
        refine zj_getI (pc := 98) K lf_X8_18 hs_M rfl dX8_go_98 ?_
        refine zj_icmp_lt (tgt := 110) (pc := 101) K dX8_go_101 (by decide) (fun c_101 => ?_) (fun c_101 => ?_)
        · have hin : i < n := (nI_ltI (by omega) (by omega)).mp (show nI i < nI n by have z := c_101; rw [zj_s_eq, zz_upd_ne _ _ (by decide), zz_upd_ne _ _ (by decide), e4, eLq] at z; exact z)
          have hlt : i < min n 500 := by omega
          refine zj_aload_n (i := 0) (pc := 110) K dX8_go_110 rfl rfl ?_
          refine zj_getR (pc := 111) K lf_X8_7 hs_M rfl dX8_go_111 ?_
          refine zj_aload_n (i := 0) (pc := 114) K dX8_go_114 rfl rfl ?_
          refine zj_getI (pc := 115) K lf_X8_21 hs_M rfl dX8_go_115 ?_
          refine zj_ald (j := i) (pc := 118) K hs_Mtape e4 (by omega) (by first | decide | omega) dX8_go_118 ?_
          refine zj_istore_n (i := 1) (pc := 119) K dX8_go_119 rfl rfl rfl rfl ?_
          refine zj_iload_n (i := 1) (pc := 120) K dX8_go_120 rfl rfl ?_
          refine zj_cS1I (pc := 121) K lm_X8_30 (m_X8_isLetter) (by decide) rfl (Nat.le_of_ble_eq_true rfl) dX8_go_121 ?_
          refine zj_if_ne (tgt := 160) (pc := 124) K dX8_go_124 (by decide) (fun c_124 => ?_) (fun c_124 => ?_)
          · replace c_124 := zz_n0.mp c_124
            rw [zj_s_ne _ _ (by decide), eb] at c_124
            have hA1 : zw_an (h 79) i = true := by unfold zw_an; rw [c_124]; simp
            refine zj_iload_n (i := 1) (pc := 160) K dX8_go_160 rfl rfl ?_
            refine zj_cS1I (pc := 161) K lm_X8_30 (m_X8_isLetter) (by decide) rfl (Nat.le_of_ble_eq_true rfl) dX8_go_161 ?_
            refine zj_istore_n (i := 2) (pc := 164) K dX8_go_164 rfl rfl rfl rfl ?_
            refine zj_iconst (v := 1) (pc := 165) K dX8_go_165 (by decide) ?_
            refine zj_istore_n (i := 3) (pc := 166) K dX8_go_166 rfl rfl rfl rfl ?_
            refine zj_aload_n (i := 0) (pc := 167) K dX8_go_167 rfl rfl ?_
            refine zj_lconst (v := 0) (pc := 168) K dX8_go_168 (by decide) ?_
            refine zj_putJ (pc := 169) K lf_X8_37 hs_M rfl dX8_go_169 ?_
            refine zj_aload_n (i := 0) (pc := 172) K dX8_go_172 rfl rfl ?_
            refine zj_iconst (v := 0) (pc := 173) K dX8_go_173 (by decide) ?_
            refine zj_putI (pc := 174) K lf_X8_41 hs_M rfl dX8_go_174 ?_
            refine lpW i hlt hE1 hA1 (n + 1) 0 _ _ _ _ _ (by omega) (by omega) (fun c c1 => by (repeat rw [zj_s_ne _ _ c1]); exact zf1 c c1) (fun b hb => by (repeat rw [zj_s_eq]); (repeat rw [zz_upd_ne _ _ (by omega)]); exact zf2 b hb) (fun a b hab => zw_sg hab) ?_ ?_ (by rw [zj_s_ne _ _ (by decide), eb]) rfl (fun k hk => by omega) (fun _ => ?_) ?_
            · (repeat rw [zj_s_eq]); rw [zz_upd_ne _ _ (by decide), zz_upd_at]; exact e4
            · (repeat rw [zj_s_eq]); (repeat rw [zz_upd_ne _ _ (by decide)]); exact e4
            · rw [zj_s_eq, zz_upd_at]; rfl
            · rw [zj_sg_eq]; unfold vp_updL; rw [if_pos rfl]; rfl
          · replace c_124 := zz_i0.mp c_124
            rw [zj_s_ne _ _ (by decide), eb] at c_124
            refine zj_iload_n (i := 1) (pc := 127) K dX8_go_127 rfl rfl ?_
            refine zj_cS1I (pc := 128) K lm_X8_34 (m_X8_isDigit) (by decide) rfl (Nat.le_of_ble_eq_true rfl) dX8_go_128 ?_
            refine zj_if_ne (tgt := 160) (pc := 131) K dX8_go_131 (by decide) (fun c_131 => ?_) (fun c_131 => ?_)
            · replace c_131 := zz_n0.mp c_131
              rw [zj_s_ne _ _ (by decide), eb] at c_131
              have hA1 : zw_an (h 79) i = true := by unfold zw_an; rw [c_131]; simp
              refine zj_iload_n (i := 1) (pc := 160) K dX8_go_160 rfl rfl ?_
              refine zj_cS1I (pc := 161) K lm_X8_30 (m_X8_isLetter) (by decide) rfl (Nat.le_of_ble_eq_true rfl) dX8_go_161 ?_
              refine zj_istore_n (i := 2) (pc := 164) K dX8_go_164 rfl rfl rfl rfl ?_
              refine zj_iconst (v := 1) (pc := 165) K dX8_go_165 (by decide) ?_
              refine zj_istore_n (i := 3) (pc := 166) K dX8_go_166 rfl rfl rfl rfl ?_
              refine zj_aload_n (i := 0) (pc := 167) K dX8_go_167 rfl rfl ?_
              refine zj_lconst (v := 0) (pc := 168) K dX8_go_168 (by decide) ?_
              refine zj_putJ (pc := 169) K lf_X8_37 hs_M rfl dX8_go_169 ?_
              refine zj_aload_n (i := 0) (pc := 172) K dX8_go_172 rfl rfl ?_
              refine zj_iconst (v := 0) (pc := 173) K dX8_go_173 (by decide) ?_
              refine zj_putI (pc := 174) K lf_X8_41 hs_M rfl dX8_go_174 ?_
              refine lpW i hlt hE1 hA1 (n + 1) 0 _ _ _ _ _ (by omega) (by omega) (fun c c1 => by (repeat rw [zj_s_ne _ _ c1]); exact zf1 c c1) (fun b hb => by (repeat rw [zj_s_eq]); (repeat rw [zz_upd_ne _ _ (by omega)]); exact zf2 b hb) (fun a b hab => zw_sg hab) ?_ ?_ (by rw [zj_s_ne _ _ (by decide), eb]) rfl (fun k hk => by omega) (fun _ => ?_) ?_
              · (repeat rw [zj_s_eq]); rw [zz_upd_ne _ _ (by decide), zz_upd_at]; exact e4
              · (repeat rw [zj_s_eq]); (repeat rw [zz_upd_ne _ _ (by decide)]); exact e4
              · rw [zj_s_eq, zz_upd_at]; rfl
              · rw [zj_sg_eq]; unfold vp_updL; rw [if_pos rfl]; rfl
            · replace c_131 := zz_i0.mp c_131
              rw [zj_s_ne _ _ (by decide), eb] at c_131
              have hnan : zw_an (h 79) i = false := by unfold zw_an; rw [c_124, c_131]; rfl
              refine zj_aload_n (i := 0) (pc := 134) K dX8_go_134 rfl rfl ?_
              refine zj_iload_n (i := 1) (pc := 135) K dX8_go_135 rfl rfl ?_
              refine zj_bipush (v := 59) (pc := 136) K dX8_go_136 (by decide) ?_
              refine zj_icmp_ne (tgt := 145) (pc := 138) K dX8_go_138 (by decide) (fun c_138 => ?_) (fun c_138 => ?_)
              · rw [zj_s_ne _ _ (by decide), eb] at c_138
                refine zj_iconst (v := 1) (pc := 145) K dX8_go_145 (by decide) ?_
                refine zj_putI (pc := 146) K lf_X8_27 hs_M rfl dX8_go_146 ?_
                refine zj_aload_n (i := 0) (pc := 149) K dX8_go_149 rfl rfl ?_
                refine zj_dup (pc := 150) K dX8_go_150 rfl ?_
                refine zj_getI (pc := 151) K lf_X8_21 hs_M rfl dX8_go_151 ?_
                refine zj_iconst (v := 1) (pc := 154) K dX8_go_154 (by decide) ?_
                refine zj_iadd (pc := 155) K dX8_go_155 ?_
                refine zj_putI (pc := 156) K lf_X8_21 hs_M rfl dX8_go_156 ?_
                exact zj_vret K Rt dX8_go_159 (by
                  first
                  | (refine ⟨rfl, fun c c1 => by (repeat rw [zj_s_ne _ _ c1]); exact zf1 c c1, fun b hb => by (repeat rw [zj_s_eq]); (repeat rw [zz_upd_ne _ _ (by omega)]); exact zf2 b hb, fun _ _ _ => rfl, 4, i, i + 1, ⟨i, hE1, Or.inr ⟨hlt, rfl, i, ⟨Nat.le_refl _, h2, fun k k1 k2 => by omega, fun _ => hnan⟩, Or.inl ⟨rfl, by rw [if_pos c_138], rfl⟩⟩⟩, ?_, ?_, ?_, by omega, fun z => absurd z (by decide)⟩
                     · (repeat rw [zj_s_eq]); rw [zz_upd_ne _ _ (by decide), zz_upd_ne _ _ (by decide), zz_upd_at]; exact e4
                     · (repeat rw [zj_s_eq]); rw [zz_upd_at, zz_upd_ne _ _ (by decide), zz_upd_ne _ _ (by decide), e4, nI_1]
                     · (repeat rw [zj_s_eq]); exact (zz_upd_ne _ _ (by decide)).trans (zz_upd_at _ _ _))
                  | (refine ⟨rfl, fun c c1 => by (repeat rw [zj_s_ne _ _ c1]); exact zf1 c c1, fun b hb => by (repeat rw [zj_s_eq]); (repeat rw [zz_upd_ne _ _ (by omega)]); exact zf2 b hb, fun _ _ _ => rfl, 0, i, i + 1, ⟨i, hE1, Or.inr ⟨hlt, rfl, i, ⟨Nat.le_refl _, h2, fun k k1 k2 => by omega, fun _ => hnan⟩, Or.inl ⟨rfl, by rw [if_neg c_138], rfl⟩⟩⟩, ?_, ?_, ?_, by omega, fun z => absurd z (by decide)⟩
                     · (repeat rw [zj_s_eq]); rw [zz_upd_ne _ _ (by decide), zz_upd_ne _ _ (by decide), zz_upd_at]; exact e4
                     · (repeat rw [zj_s_eq]); rw [zz_upd_at, zz_upd_ne _ _ (by decide), zz_upd_ne _ _ (by decide), e4, nI_1]
                     · (repeat rw [zj_s_eq]); exact (zz_upd_ne _ _ (by decide)).trans (zz_upd_at _ _ _)))
              · rw [zj_s_ne _ _ (by decide), eb] at c_138
                refine zj_iconst (v := 4) (pc := 141) K dX8_go_141 (by decide) ?_
                refine zj_goto (tgt := 146) (pc := 142) K dX8_go_142 (by decide) ?_
                refine zj_putI (pc := 146) K lf_X8_27 hs_M rfl dX8_go_146 ?_
                refine zj_aload_n (i := 0) (pc := 149) K dX8_go_149 rfl rfl ?_
                refine zj_dup (pc := 150) K dX8_go_150 rfl ?_
                refine zj_getI (pc := 151) K lf_X8_21 hs_M rfl dX8_go_151 ?_
                refine zj_iconst (v := 1) (pc := 154) K dX8_go_154 (by decide) ?_
                refine zj_iadd (pc := 155) K dX8_go_155 ?_
                refine zj_putI (pc := 156) K lf_X8_21 hs_M rfl dX8_go_156 ?_
                exact zj_vret K Rt dX8_go_159 (by
                  first
                  | (refine ⟨rfl, fun c c1 => by (repeat rw [zj_s_ne _ _ c1]); exact zf1 c c1, fun b hb => by (repeat rw [zj_s_eq]); (repeat rw [zz_upd_ne _ _ (by omega)]); exact zf2 b hb, fun _ _ _ => rfl, 4, i, i + 1, ⟨i, hE1, Or.inr ⟨hlt, rfl, i, ⟨Nat.le_refl _, h2, fun k k1 k2 => by omega, fun _ => hnan⟩, Or.inl ⟨rfl, by rw [if_pos c_138], rfl⟩⟩⟩, ?_, ?_, ?_, by omega, fun z => absurd z (by decide)⟩
                     · (repeat rw [zj_s_eq]); rw [zz_upd_ne _ _ (by decide), zz_upd_ne _ _ (by decide), zz_upd_at]; exact e4
                     · (repeat rw [zj_s_eq]); rw [zz_upd_at, zz_upd_ne _ _ (by decide), zz_upd_ne _ _ (by decide), e4, nI_1]
                     · (repeat rw [zj_s_eq]); exact (zz_upd_ne _ _ (by decide)).trans (zz_upd_at _ _ _))
                  | (refine ⟨rfl, fun c c1 => by (repeat rw [zj_s_ne _ _ c1]); exact zf1 c c1, fun b hb => by (repeat rw [zj_s_eq]); (repeat rw [zz_upd_ne _ _ (by omega)]); exact zf2 b hb, fun _ _ _ => rfl, 0, i, i + 1, ⟨i, hE1, Or.inr ⟨hlt, rfl, i, ⟨Nat.le_refl _, h2, fun k k1 k2 => by omega, fun _ => hnan⟩, Or.inl ⟨rfl, by rw [if_neg c_138], rfl⟩⟩⟩, ?_, ?_, ?_, by omega, fun z => absurd z (by decide)⟩
                     · (repeat rw [zj_s_eq]); rw [zz_upd_ne _ _ (by decide), zz_upd_ne _ _ (by decide), zz_upd_at]; exact e4
                     · (repeat rw [zj_s_eq]); rw [zz_upd_at, zz_upd_ne _ _ (by decide), zz_upd_ne _ _ (by decide), e4, nI_1]
                     · (repeat rw [zj_s_eq]); exact (zz_upd_ne _ _ (by decide)).trans (zz_upd_at _ _ _)))
        · have hin : ¬ i < n := fun z => c_101 (by rw [zj_s_eq, zz_upd_ne _ _ (by decide), zz_upd_ne _ _ (by decide), e4, eLq]; exact (nI_ltI (by omega) (by omega)).mpr z)
          refine zj_aload_n (i := 0) (pc := 104) K dX8_go_104 rfl rfl ?_
          refine zj_iconst (v := 0) (pc := 105) K dX8_go_105 (by decide) ?_
          refine zj_putI (pc := 106) K lf_X8_27 hs_M rfl dX8_go_106 ?_
          exact zj_vret K Rt dX8_go_109 (by
            refine ⟨rfl, fun c c1 => by (repeat rw [zj_s_ne _ _ c1]); exact zf1 c c1, fun b hb => by (repeat rw [zj_s_eq]); (repeat rw [zz_upd_ne _ _ (by omega)]); exact zf2 b hb, fun _ _ _ => rfl, 1, min n 500, i, ⟨i, hE1, Or.inl ⟨by omega, rfl, rfl, rfl⟩⟩, ?_, ?_, ?_, h2, fun z => absurd z (by decide)⟩
            · rw [zj_s_eq, zz_upd_ne _ _ (by decide), zj_s_eq, zz_upd_at, e4]; exact congrArg nI (by omega)
            · (repeat rw [zj_s_eq]); (repeat rw [zz_upd_ne _ _ (by decide)]); exact e4
            · rw [zj_s_eq, zz_upd_at, zw_so, if_pos rfl, if_neg (by omega)]; rfl)
      · have hn5 : ¬ n ≤ 500 := fun z => c_67 (by rw [zj_s_eq, zz_upd_ne _ _ (by decide), eLq]; exact (nI_leI (b := 500) (by omega) (by omega)).mpr z)
        refine zj_aload_n (i := 0) (pc := 70) K dX8_go_70 rfl rfl ?_
        refine zj_getI (pc := 71) K lf_X8_24 hs_M rfl dX8_go_71 ?_
        refine zj_sipush (v := 500) (pc := 74) K dX8_go_74 (by decide) ?_
        refine zj_icmp_lt (tgt := 93) (pc := 77) K dX8_go_77 (by decide) (fun c_77 => ?_) (fun c_77 => ?_)
        · have hi5 : i < 500 := (nI_ltI (b := 500) (by omega) (by omega)).mp (show nI i < nI 500 by have z := c_77; rw [zj_s_eq, zz_upd_at, e4] at z; exact z)
          refine zj_aload_n (i := 0) (pc := 93) K dX8_go_93 rfl rfl ?_
          refine zj_getI (pc := 94) K lf_X8_21 hs_M rfl dX8_go_94 ?_
          refine zj_aload_n (i := 0) (pc := 97) K dX8_go_97 rfl rfl ?_
          refine zj_getI (pc := 98) K lf_X8_18 hs_M rfl dX8_go_98 ?_
          refine zj_icmp_lt (tgt := 110) (pc := 101) K dX8_go_101 (by decide) (fun c_101 => ?_) (fun c_101 => ?_)
          · have hin : i < n := (nI_ltI (by omega) (by omega)).mp (show nI i < nI n by have z := c_101; rw [zj_s_eq, zz_upd_ne _ _ (by decide), zz_upd_ne _ _ (by decide), e4, eLq] at z; exact z)
            have hlt : i < min n 500 := by omega
            refine zj_aload_n (i := 0) (pc := 110) K dX8_go_110 rfl rfl ?_
            refine zj_getR (pc := 111) K lf_X8_7 hs_M rfl dX8_go_111 ?_
            refine zj_aload_n (i := 0) (pc := 114) K dX8_go_114 rfl rfl ?_
            refine zj_getI (pc := 115) K lf_X8_21 hs_M rfl dX8_go_115 ?_
            refine zj_ald (j := i) (pc := 118) K hs_Mtape e4 (by omega) (by first | decide | omega) dX8_go_118 ?_
            refine zj_istore_n (i := 1) (pc := 119) K dX8_go_119 rfl rfl rfl rfl ?_
            refine zj_iload_n (i := 1) (pc := 120) K dX8_go_120 rfl rfl ?_
            refine zj_cS1I (pc := 121) K lm_X8_30 (m_X8_isLetter) (by decide) rfl (Nat.le_of_ble_eq_true rfl) dX8_go_121 ?_
            refine zj_if_ne (tgt := 160) (pc := 124) K dX8_go_124 (by decide) (fun c_124 => ?_) (fun c_124 => ?_)
            · replace c_124 := zz_n0.mp c_124
              rw [zj_s_ne _ _ (by decide), eb] at c_124
              have hA1 : zw_an (h 79) i = true := by unfold zw_an; rw [c_124]; simp
              refine zj_iload_n (i := 1) (pc := 160) K dX8_go_160 rfl rfl ?_
              refine zj_cS1I (pc := 161) K lm_X8_30 (m_X8_isLetter) (by decide) rfl (Nat.le_of_ble_eq_true rfl) dX8_go_161 ?_
              refine zj_istore_n (i := 2) (pc := 164) K dX8_go_164 rfl rfl rfl rfl ?_
              refine zj_iconst (v := 1) (pc := 165) K dX8_go_165 (by decide) ?_
              refine zj_istore_n (i := 3) (pc := 166) K dX8_go_166 rfl rfl rfl rfl ?_
              refine zj_aload_n (i := 0) (pc := 167) K dX8_go_167 rfl rfl ?_
              refine zj_lconst (v := 0) (pc := 168) K dX8_go_168 (by decide) ?_
              refine zj_putJ (pc := 169) K lf_X8_37 hs_M rfl dX8_go_169 ?_
              refine zj_aload_n (i := 0) (pc := 172) K dX8_go_172 rfl rfl ?_
              refine zj_iconst (v := 0) (pc := 173) K dX8_go_173 (by decide) ?_
              refine zj_putI (pc := 174) K lf_X8_41 hs_M rfl dX8_go_174 ?_
              refine lpW i hlt hE1 hA1 (n + 1) 0 _ _ _ _ _ (by omega) (by omega) (fun c c1 => by (repeat rw [zj_s_ne _ _ c1]); exact zf1 c c1) (fun b hb => by (repeat rw [zj_s_eq]); (repeat rw [zz_upd_ne _ _ (by omega)]); exact zf2 b hb) (fun a b hab => zw_sg hab) ?_ ?_ (by rw [zj_s_ne _ _ (by decide), eb]) rfl (fun k hk => by omega) (fun _ => ?_) ?_
              · (repeat rw [zj_s_eq]); rw [zz_upd_ne _ _ (by decide), zz_upd_at]; exact e4
              · (repeat rw [zj_s_eq]); (repeat rw [zz_upd_ne _ _ (by decide)]); exact e4
              · rw [zj_s_eq, zz_upd_at]; rfl
              · rw [zj_sg_eq]; unfold vp_updL; rw [if_pos rfl]; rfl
            · replace c_124 := zz_i0.mp c_124
              rw [zj_s_ne _ _ (by decide), eb] at c_124
              refine zj_iload_n (i := 1) (pc := 127) K dX8_go_127 rfl rfl ?_
              refine zj_cS1I (pc := 128) K lm_X8_34 (m_X8_isDigit) (by decide) rfl (Nat.le_of_ble_eq_true rfl) dX8_go_128 ?_
              refine zj_if_ne (tgt := 160) (pc := 131) K dX8_go_131 (by decide) (fun c_131 => ?_) (fun c_131 => ?_)
              · replace c_131 := zz_n0.mp c_131
                rw [zj_s_ne _ _ (by decide), eb] at c_131
                have hA1 : zw_an (h 79) i = true := by unfold zw_an; rw [c_131]; simp
                refine zj_iload_n (i := 1) (pc := 160) K dX8_go_160 rfl rfl ?_
                refine zj_cS1I (pc := 161) K lm_X8_30 (m_X8_isLetter) (by decide) rfl (Nat.le_of_ble_eq_true rfl) dX8_go_161 ?_
                refine zj_istore_n (i := 2) (pc := 164) K dX8_go_164 rfl rfl rfl rfl ?_
                refine zj_iconst (v := 1) (pc := 165) K dX8_go_165 (by decide) ?_
                refine zj_istore_n (i := 3) (pc := 166) K dX8_go_166 rfl rfl rfl rfl ?_
                refine zj_aload_n (i := 0) (pc := 167) K dX8_go_167 rfl rfl ?_
                refine zj_lconst (v := 0) (pc := 168) K dX8_go_168 (by decide) ?_
                refine zj_putJ (pc := 169) K lf_X8_37 hs_M rfl dX8_go_169 ?_
                refine zj_aload_n (i := 0) (pc := 172) K dX8_go_172 rfl rfl ?_
                refine zj_iconst (v := 0) (pc := 173) K dX8_go_173 (by decide) ?_
                refine zj_putI (pc := 174) K lf_X8_41 hs_M rfl dX8_go_174 ?_
                refine lpW i hlt hE1 hA1 (n + 1) 0 _ _ _ _ _ (by omega) (by omega) (fun c c1 => by (repeat rw [zj_s_ne _ _ c1]); exact zf1 c c1) (fun b hb => by (repeat rw [zj_s_eq]); (repeat rw [zz_upd_ne _ _ (by omega)]); exact zf2 b hb) (fun a b hab => zw_sg hab) ?_ ?_ (by rw [zj_s_ne _ _ (by decide), eb]) rfl (fun k hk => by omega) (fun _ => ?_) ?_
                · (repeat rw [zj_s_eq]); rw [zz_upd_ne _ _ (by decide), zz_upd_at]; exact e4
                · (repeat rw [zj_s_eq]); (repeat rw [zz_upd_ne _ _ (by decide)]); exact e4
                · rw [zj_s_eq, zz_upd_at]; rfl
                · rw [zj_sg_eq]; unfold vp_updL; rw [if_pos rfl]; rfl
              · replace c_131 := zz_i0.mp c_131
                rw [zj_s_ne _ _ (by decide), eb] at c_131
                have hnan : zw_an (h 79) i = false := by unfold zw_an; rw [c_124, c_131]; rfl
                refine zj_aload_n (i := 0) (pc := 134) K dX8_go_134 rfl rfl ?_
                refine zj_iload_n (i := 1) (pc := 135) K dX8_go_135 rfl rfl ?_
                refine zj_bipush (v := 59) (pc := 136) K dX8_go_136 (by decide) ?_
                refine zj_icmp_ne (tgt := 145) (pc := 138) K dX8_go_138 (by decide) (fun c_138 => ?_) (fun c_138 => ?_)
                · rw [zj_s_ne _ _ (by decide), eb] at c_138
                  refine zj_iconst (v := 1) (pc := 145) K dX8_go_145 (by decide) ?_
                  refine zj_putI (pc := 146) K lf_X8_27 hs_M rfl dX8_go_146 ?_
                  refine zj_aload_n (i := 0) (pc := 149) K dX8_go_149 rfl rfl ?_
                  refine zj_dup (pc := 150) K dX8_go_150 rfl ?_
                  refine zj_getI (pc := 151) K lf_X8_21 hs_M rfl dX8_go_151 ?_
                  refine zj_iconst (v := 1) (pc := 154) K dX8_go_154 (by decide) ?_
                  refine zj_iadd (pc := 155) K dX8_go_155 ?_
                  refine zj_putI (pc := 156) K lf_X8_21 hs_M rfl dX8_go_156 ?_
                  exact zj_vret K Rt dX8_go_159 (by
                    first
                    | (refine ⟨rfl, fun c c1 => by (repeat rw [zj_s_ne _ _ c1]); exact zf1 c c1, fun b hb => by (repeat rw [zj_s_eq]); (repeat rw [zz_upd_ne _ _ (by omega)]); exact zf2 b hb, fun _ _ _ => rfl, 4, i, i + 1, ⟨i, hE1, Or.inr ⟨hlt, rfl, i, ⟨Nat.le_refl _, h2, fun k k1 k2 => by omega, fun _ => hnan⟩, Or.inl ⟨rfl, by rw [if_pos c_138], rfl⟩⟩⟩, ?_, ?_, ?_, by omega, fun z => absurd z (by decide)⟩
                       · (repeat rw [zj_s_eq]); rw [zz_upd_ne _ _ (by decide), zz_upd_ne _ _ (by decide), zz_upd_at]; exact e4
                       · (repeat rw [zj_s_eq]); rw [zz_upd_at, zz_upd_ne _ _ (by decide), zz_upd_ne _ _ (by decide), e4, nI_1]
                       · (repeat rw [zj_s_eq]); exact (zz_upd_ne _ _ (by decide)).trans (zz_upd_at _ _ _))
                    | (refine ⟨rfl, fun c c1 => by (repeat rw [zj_s_ne _ _ c1]); exact zf1 c c1, fun b hb => by (repeat rw [zj_s_eq]); (repeat rw [zz_upd_ne _ _ (by omega)]); exact zf2 b hb, fun _ _ _ => rfl, 0, i, i + 1, ⟨i, hE1, Or.inr ⟨hlt, rfl, i, ⟨Nat.le_refl _, h2, fun k k1 k2 => by omega, fun _ => hnan⟩, Or.inl ⟨rfl, by rw [if_neg c_138], rfl⟩⟩⟩, ?_, ?_, ?_, by omega, fun z => absurd z (by decide)⟩
                       · (repeat rw [zj_s_eq]); rw [zz_upd_ne _ _ (by decide), zz_upd_ne _ _ (by decide), zz_upd_at]; exact e4
                       · (repeat rw [zj_s_eq]); rw [zz_upd_at, zz_upd_ne _ _ (by decide), zz_upd_ne _ _ (by decide), e4, nI_1]
                       · (repeat rw [zj_s_eq]); exact (zz_upd_ne _ _ (by decide)).trans (zz_upd_at _ _ _)))
                · rw [zj_s_ne _ _ (by decide), eb] at c_138
                  refine zj_iconst (v := 4) (pc := 141) K dX8_go_141 (by decide) ?_
                  refine zj_goto (tgt := 146) (pc := 142) K dX8_go_142 (by decide) ?_
                  refine zj_putI (pc := 146) K lf_X8_27 hs_M rfl dX8_go_146 ?_
                  refine zj_aload_n (i := 0) (pc := 149) K dX8_go_149 rfl rfl ?_
                  refine zj_dup (pc := 150) K dX8_go_150 rfl ?_
                  refine zj_getI (pc := 151) K lf_X8_21 hs_M rfl dX8_go_151 ?_
                  refine zj_iconst (v := 1) (pc := 154) K dX8_go_154 (by decide) ?_
                  refine zj_iadd (pc := 155) K dX8_go_155 ?_
                  refine zj_putI (pc := 156) K lf_X8_21 hs_M rfl dX8_go_156 ?_
                  exact zj_vret K Rt dX8_go_159 (by
                    first
                    | (refine ⟨rfl, fun c c1 => by (repeat rw [zj_s_ne _ _ c1]); exact zf1 c c1, fun b hb => by (repeat rw [zj_s_eq]); (repeat rw [zz_upd_ne _ _ (by omega)]); exact zf2 b hb, fun _ _ _ => rfl, 4, i, i + 1, ⟨i, hE1, Or.inr ⟨hlt, rfl, i, ⟨Nat.le_refl _, h2, fun k k1 k2 => by omega, fun _ => hnan⟩, Or.inl ⟨rfl, by rw [if_pos c_138], rfl⟩⟩⟩, ?_, ?_, ?_, by omega, fun z => absurd z (by decide)⟩
                       · (repeat rw [zj_s_eq]); rw [zz_upd_ne _ _ (by decide), zz_upd_ne _ _ (by decide), zz_upd_at]; exact e4
                       · (repeat rw [zj_s_eq]); rw [zz_upd_at, zz_upd_ne _ _ (by decide), zz_upd_ne _ _ (by decide), e4, nI_1]
                       · (repeat rw [zj_s_eq]); exact (zz_upd_ne _ _ (by decide)).trans (zz_upd_at _ _ _))
                    | (refine ⟨rfl, fun c c1 => by (repeat rw [zj_s_ne _ _ c1]); exact zf1 c c1, fun b hb => by (repeat rw [zj_s_eq]); (repeat rw [zz_upd_ne _ _ (by omega)]); exact zf2 b hb, fun _ _ _ => rfl, 0, i, i + 1, ⟨i, hE1, Or.inr ⟨hlt, rfl, i, ⟨Nat.le_refl _, h2, fun k k1 k2 => by omega, fun _ => hnan⟩, Or.inl ⟨rfl, by rw [if_neg c_138], rfl⟩⟩⟩, ?_, ?_, ?_, by omega, fun z => absurd z (by decide)⟩
                       · (repeat rw [zj_s_eq]); rw [zz_upd_ne _ _ (by decide), zz_upd_ne _ _ (by decide), zz_upd_at]; exact e4
                       · (repeat rw [zj_s_eq]); rw [zz_upd_at, zz_upd_ne _ _ (by decide), zz_upd_ne _ _ (by decide), e4, nI_1]
                       · (repeat rw [zj_s_eq]); exact (zz_upd_ne _ _ (by decide)).trans (zz_upd_at _ _ _)))
          · have hin : ¬ i < n := fun z => c_101 (by rw [zj_s_eq, zz_upd_ne _ _ (by decide), zz_upd_ne _ _ (by decide), e4, eLq]; exact (nI_ltI (by omega) (by omega)).mpr z)
            refine zj_aload_n (i := 0) (pc := 104) K dX8_go_104 rfl rfl ?_
            refine zj_iconst (v := 0) (pc := 105) K dX8_go_105 (by decide) ?_
            refine zj_putI (pc := 106) K lf_X8_27 hs_M rfl dX8_go_106 ?_
            exact zj_vret K Rt dX8_go_109 (by
              refine ⟨rfl, fun c c1 => by (repeat rw [zj_s_ne _ _ c1]); exact zf1 c c1, fun b hb => by (repeat rw [zj_s_eq]); (repeat rw [zz_upd_ne _ _ (by omega)]); exact zf2 b hb, fun _ _ _ => rfl, 1, min n 500, i, ⟨i, hE1, Or.inl ⟨by omega, rfl, rfl, rfl⟩⟩, ?_, ?_, ?_, h2, fun z => absurd z (by decide)⟩
              · rw [zj_s_eq, zz_upd_ne _ _ (by decide), zj_s_eq, zz_upd_at, e4]; exact congrArg nI (by omega)
              · (repeat rw [zj_s_eq]); (repeat rw [zz_upd_ne _ _ (by decide)]); exact e4
              · rw [zj_s_eq, zz_upd_at, zw_so, if_pos rfl, if_neg (by omega)]; rfl)
        · have hi5 : ¬ i < 500 := fun z => c_77 (by rw [zj_s_eq, zz_upd_at, e4]; exact (nI_ltI (b := 500) (by omega) (by omega)).mpr z)
          refine zj_aload_n (i := 0) (pc := 80) K dX8_go_80 rfl rfl ?_
          refine zj_sipush (v := 500) (pc := 81) K dX8_go_81 (by decide) ?_
          refine zj_putI (pc := 84) K lf_X8_24 hs_M rfl dX8_go_84 ?_
          refine zj_aload_n (i := 0) (pc := 87) K dX8_go_87 rfl rfl ?_
          refine zj_iconst (v := 1) (pc := 88) K dX8_go_88 (by decide) ?_
          refine zj_putI (pc := 89) K lf_X8_27 hs_M rfl dX8_go_89 ?_
          exact zj_vret K Rt dX8_go_92 (by
            refine ⟨rfl, fun c c1 => by (repeat rw [zj_s_ne _ _ c1]); exact zf1 c c1, fun b hb => by (repeat rw [zj_s_eq]); (repeat rw [zz_upd_ne _ _ (by omega)]); exact zf2 b hb, fun _ _ _ => rfl, 1, min n 500, i, ⟨i, hE1, Or.inl ⟨by omega, rfl, rfl, rfl⟩⟩, ?_, ?_, ?_, h2, fun z => absurd z (by decide)⟩
            · (repeat rw [zj_s_eq]); rw [zz_upd_ne _ _ (by decide), zz_upd_at, show min n 500 = 500 by omega]; rfl
            · (repeat rw [zj_s_eq]); (repeat rw [zz_upd_ne _ _ (by decide)]); exact e4
            · rw [zj_s_eq, zz_upd_at, zw_so, if_pos rfl, if_pos (by omega)]; rfl)
  have loop : ∀ (m i : Nat) (q : zj_H), n + 1 ≤ i + m → i ≤ n → (∀ a, a ≠ 78 → q a = h a) → (∀ b, (b < 4 ∨ 8 ≤ b) → q 78 b = h 78 b) → q 78 4 = nI i → a ≤ i → (∀ k, a ≤ k → k < i → zw_bl (h 79 k) = true) → zj_J E Γ 5 0 [(0, .ref (E.2.1 78))] [] q g := by
    intro m
    induction m with
    | zero => intro i q h1 h2; omega
    | succ m ih =>
      intro i q h1 h2 zf1 zf2 e4 hai hbl
      have eLq : q 78 3 = nI n := by rw [zf2 3 (by decide)]; exact eL
      have eb : q 79 = h 79 := zf1 79 (by decide)
      have hmin : min n 500 ≤ n := Nat.min_le_left _ _
      
      refine zj_aload_n (i := 0) (pc := 0) K dX8_go_0 rfl rfl ?_
      refine zj_getI (pc := 1) K lf_X8_21 hs_M rfl dX8_go_1 ?_
      refine zj_aload_n (i := 0) (pc := 4) K dX8_go_4 rfl rfl ?_
      refine zj_getI (pc := 5) K lf_X8_18 hs_M rfl dX8_go_5 ?_
      refine zj_icmp_ge (tgt := 52) (pc := 8) K dX8_go_8 (by decide) (fun c_8 => ?_) (fun c_8 => ?_)
      · have hn1 : i = n := Nat.le_antisymm h2 (zz_ge e4 eLq (by omega) (by omega) c_8)
        have hE1 : zw_e (fun i => zw_bl (h 79 i)) n a i := ⟨hai, h2, hbl, fun z => by omega⟩
        exact tl i q h2 zf1 zf2 e4 hE1
      · have hn1 : i < n := zz_nge e4 eLq (by omega) (by omega) c_8
        refine zj_aload_n (i := 0) (pc := 11) K dX8_go_11 rfl rfl ?_
        refine zj_getR (pc := 12) K lf_X8_7 hs_M rfl dX8_go_12 ?_
        refine zj_aload_n (i := 0) (pc := 15) K dX8_go_15 rfl rfl ?_
        refine zj_getI (pc := 16) K lf_X8_21 hs_M rfl dX8_go_16 ?_
        refine zj_ald (j := i) (pc := 19) K hs_Mtape e4 (by omega) (by first | decide | omega) dX8_go_19 ?_
        refine zj_bipush (v := 32) (pc := 20) K dX8_go_20 (by decide) ?_
        refine zj_icmp_eq (tgt := 39) (pc := 22) K dX8_go_22 (by decide) (fun c_22 => ?_) (fun c_22 => ?_)
        · rw [eb] at c_22
          have hb1 : zw_bl (h 79 i) = true := by unfold zw_bl; rw [decide_eq_true c_22, Bool.true_or]
          refine zj_aload_n (i := 0) (pc := 39) K dX8_go_39 rfl rfl ?_
          refine zj_dup (pc := 40) K dX8_go_40 rfl ?_
          refine zj_getI (pc := 41) K lf_X8_21 hs_M rfl dX8_go_41 ?_
          refine zj_iconst (v := 1) (pc := 44) K dX8_go_44 (by decide) ?_
          refine zj_iadd (pc := 45) K dX8_go_45 ?_
          refine zj_putI (pc := 46) K lf_X8_21 hs_M rfl dX8_go_46 ?_
          refine zj_goto (tgt := 0) (pc := 49) K dX8_go_49 (by decide) ?_
          refine ih (i + 1) _ (by omega) (by omega) (fun c c1 => by (repeat rw [zj_s_ne _ _ c1]); exact zf1 c c1) (fun b hb => by (repeat rw [zj_s_eq]); (repeat rw [zz_upd_ne _ _ (by omega)]); exact zf2 b hb) (by rw [zj_s_eq, zz_upd_at, e4, nI_1]) (by omega) (fun k k1 k2 => ?_)
          by_cases e : k = i
          · rw [e]; exact hb1
          · exact hbl k k1 (by omega)
        · rw [eb] at c_22
          refine zj_aload_n (i := 0) (pc := 25) K dX8_go_25 rfl rfl ?_
          refine zj_getR (pc := 26) K lf_X8_7 hs_M rfl dX8_go_26 ?_
          refine zj_aload_n (i := 0) (pc := 29) K dX8_go_29 rfl rfl ?_
          refine zj_getI (pc := 30) K lf_X8_21 hs_M rfl dX8_go_30 ?_
          refine zj_ald (j := i) (pc := 33) K hs_Mtape e4 (by omega) (by first | decide | omega) dX8_go_33 ?_
          refine zj_bipush (v := 10) (pc := 34) K dX8_go_34 (by decide) ?_
          refine zj_icmp_ne (tgt := 52) (pc := 36) K dX8_go_36 (by decide) (fun c_36 => ?_) (fun c_36 => ?_)
          · rw [eb] at c_36
            have hE1 : zw_e (fun i => zw_bl (h 79 i)) n a i := ⟨hai, h2, hbl, fun z => (show (decide (h 79 i = 32) || decide (h 79 i = 10)) = false by rw [decide_eq_false c_22, decide_eq_false c_36]; rfl)⟩
            exact tl i q h2 zf1 zf2 e4 hE1
          · rw [eb] at c_36
            have hb1 : zw_bl (h 79 i) = true := by unfold zw_bl; rw [decide_eq_true c_36, Bool.or_true]
            refine zj_aload_n (i := 0) (pc := 39) K dX8_go_39 rfl rfl ?_
            refine zj_dup (pc := 40) K dX8_go_40 rfl ?_
            refine zj_getI (pc := 41) K lf_X8_21 hs_M rfl dX8_go_41 ?_
            refine zj_iconst (v := 1) (pc := 44) K dX8_go_44 (by decide) ?_
            refine zj_iadd (pc := 45) K dX8_go_45 ?_
            refine zj_putI (pc := 46) K lf_X8_21 hs_M rfl dX8_go_46 ?_
            refine zj_goto (tgt := 0) (pc := 49) K dX8_go_49 (by decide) ?_
            refine ih (i + 1) _ (by omega) (by omega) (fun c c1 => by (repeat rw [zj_s_ne _ _ c1]); exact zf1 c c1) (fun b hb => by (repeat rw [zj_s_eq]); (repeat rw [zz_upd_ne _ _ (by omega)]); exact zf2 b hb) (by rw [zj_s_eq, zz_upd_at, e4, nI_1]) (by omega) (fun k k1 k2 => ?_)
            by_cases e : k = i
            · rw [e]; exact hb1
            · exact hbl k k1 (by omega)
  show zj_J E Γ 5 0 [(0, .ref (E.2.1 78))] [] h g
  exact loop (n + 1) a h (by omega) ha (fun _ _ => rfl) (fun _ _ => rfl) ea (Nat.le_refl _) (fun k k1 k2 => by omega)
