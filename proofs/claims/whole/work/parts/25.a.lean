theorem zc_sum_add (f f2 : Nat → Int32) : ∀ n, zc_sum (fun i => f i + f2 i) n = zc_sum f n + zc_sum f2 n
  | 0 => rfl
  | n + 1 => by
    unfold zc_sum
    rw [zc_sum_add f f2 n, Int32.add_assoc, Int32.add_assoc]
    congr 1
    rw [← Int32.add_assoc, ← Int32.add_assoc, Int32.add_comm (zc_sum f2 n) (f n)]
/-- over all twos, the less one outside or the greater one outside -/
theorem zc_swap (p : Nat → Bool) (F : Nat → Nat → Int32) : ∀ N, zc_sum (fun a => if p a = true then zc_sum (fun c => if (decide (a < c) && p c) = true then F a c else 0) N else 0) N = zc_sum (fun c => if p c = true then zc_sum (fun a => if p a = true then F a c else 0) c else 0) N
  | 0 => rfl
  | N + 1 => by
    have ih := zc_swap p F N
    have e1 : ∀ a, a < N → (if p a = true then zc_sum (fun c => if (decide (a < c) && p c) = true then F a c else 0) (N + 1) else 0) = (if p a = true then zc_sum (fun c => if (decide (a < c) && p c) = true then F a c else 0) N else 0) + (if p N = true then (if p a = true then F a N else 0) else 0) := by
      intro a ha
      cases hp : p a with
      | false => cases p N <;> simp
      | true =>
        cases hN : p N <;> simp [zc_sum, hN, ha]
    have e2 : zc_sum (fun c => if (decide (N < c) && p c) = true then F N c else 0) (N + 1) = 0 := zc_sum_lo
    rw [zc_sum, zc_sum_congr e1, zc_sum_add, ih, e2, zc_sum]
    have e3 : (if p N = true then (0 : Int32) else 0) = 0 := by split <;> rfl
    rw [e3]
    have e4 : zc_sum (fun a => if p N = true then (if p a = true then F a N else 0) else 0) N = (if p N = true then zc_sum (fun a => if p a = true then F a N else 0) N else 0) := by
      cases hN : p N with
      | true => simp
      | false => simp; exact zc_sum_z (fun _ _ => rfl)
    rw [e4]; simp
/-- PAIR, LOAD, TENSION of benches B of C cases, but that of wo -/
def zs_pair (C : Nat) (B : Nat → Int32) (wo : Int32) (a c : Nat) : Nat := zc_cnt (fun i => decide (¬ nI i = wo) && (bt (B i) a && bt (B i) c)) C
def zs_load (C J : Nat) (B W sen : Nat → Int32) (chair wo : Int32) (j : Nat) : Int32 := zc_sum (fun i => if (decide (¬ nI i = wo) && bt (B i) j) = true then W i + (if zc_opt (zc_pre sen (B i) J) = nI j then chair else 0) else 0) C
def zs_ten (even loaded chair : Int32) (J C : Nat) (sen W B : Nat → Int32) (wo b : Int32) : Int32 := even * zc_sum (fun a => if bt b a = true then zc_sum (fun c => if bt b c = true then nI (zs_pair C B wo a c) else 0) a else 0) J + loaded * zc_sum (fun a => if bt b a = true then zs_load C J B W sen chair wo a else 0) J
theorem zs_pair_comm (C : Nat) (B : Nat → Int32) (wo : Int32) (a c : Nat) : zs_pair C B wo a c = zs_pair C B wo c a := by
  unfold zs_pair
  exact zc_cnt_congr (fun i _ => by rw [Bool.and_comm (bt (B i) a)])
theorem zb_Pn_val {B : Nat → Int32} {wo : Int32} {J a c : Nat} {f : Nat → Int32} (hac : a < c) (hcJ : c < J) (hJ : J ≤ 9) : ∀ C, zb_Pn B wo J f C (a * 9 + c) = f (a * 9 + c) + nI (zs_pair C B wo a c)
  | 0 => by unfold zb_Pn zs_pair zc_cnt; rw [nI_0]; simp
  | C + 1 => by
    have ih := zb_Pn_val (B := B) (wo := wo) (f := f) hac hcJ hJ C
    have d1 : (a * 9 + c) / 9 = a := by omega
    have d2 : (a * 9 + c) % 9 = c := by omega
    have es : zs_pair (C + 1) B wo a c = zs_pair C B wo a c + (if (decide (¬ nI C = wo) && (bt (B C) a && bt (B C) c)) = true then 1 else 0) := rfl
    rw [es]
    unfold zb_Pn
    by_cases hw : ¬ nI C = wo ∧ ¬ B C = 0
    · rw [if_pos hw]
      unfold zb_P
      rw [d1, d2, ih]
      by_cases hb : bt (B C) a = true ∧ bt (B C) c = true
      · rw [if_pos ⟨by omega, hac, hcJ, hb.1, hb.2⟩, if_pos (by simp [hw.1, hb.1, hb.2]), ← nI_1, Int32.add_assoc]
      · rw [if_neg (fun z => hb z.2.2.2), if_neg (by simp; intro _ h1; exact Bool.eq_false_iff.mpr (fun h2 => hb ⟨h1, h2⟩))]; rfl
    · rw [if_neg hw, ih, if_neg]
      · rfl
      · intro z
        simp at z
        apply hw
        refine ⟨z.1, fun e0 => ?_⟩
        have := z.2.1
        rw [e0, b_0] at this
        cases this
theorem zb_Ln_val {B W sen : Nat → Int32} {chair wo : Int32} {J j : Nat} {f : Nat → Int32} (hj : j < J) : ∀ C, zb_Ln B W sen chair wo J f C j = f j + zs_load C J B W sen chair wo j
  | 0 => by unfold zb_Ln zs_load zc_sum; simp
  | C + 1 => by
    have ih := zb_Ln_val (B := B) (W := W) (sen := sen) (chair := chair) (wo := wo) (f := f) hj C
    have es : zs_load (C + 1) J B W sen chair wo j = zs_load C J B W sen chair wo j + (if (decide (¬ nI C = wo) && bt (B C) j) = true then W C + (if zc_opt (zc_pre sen (B C) J) = nI j then chair else 0) else 0) := rfl
    rw [es]
    unfold zb_Ln
    by_cases hw : ¬ nI C = wo ∧ ¬ B C = 0
    · rw [if_pos hw]
      unfold zb_L
      by_cases hb : bt (B C) j = true
      · have hc : (decide (¬ nI C = wo) && bt (B C) j) = true := by simp [hw.1, hb]
        rw [if_pos (show j < J ∧ bt (B C) j = true from ⟨hj, hb⟩), ih, if_pos hc, Int32.add_assoc]
        congr 2
        by_cases hp : zc_opt (zc_pre sen (B C) J) = nI j
        · rw [if_pos hp, if_pos hp.symm]
        · rw [if_neg hp, if_neg (fun z : nI j = _ => hp z.symm)]; simp
      · rw [if_neg (fun z => hb z.2), ih, if_neg (by simp [hb])]; simp
    · rw [if_neg hw, ih, if_neg]
      · simp
      · intro z
        simp at z
        apply hw
        refine ⟨z.1, fun e0 => ?_⟩
        have := z.2
        rw [e0, b_0] at this
        cases this
theorem zs_ten_of {even loaded chair : Int32} {J C : Nat} {sen W B : Nat → Int32} {wo b : Int32} {P Lo fP fL : Nat → Int32} (hJ : J ≤ 9) (eP : P = zb_Pn B wo J (fun j => if j < 81 then 0 else fP j) C) (eL : Lo = zb_Ln B W sen chair wo J (fun j => if j < 9 then 0 else fL j) C) :
    even * zt_cp P b J + loaded * zt_cl Lo b J = zs_ten even loaded chair J C sen W B wo b := by
  have hP : ∀ a c, a < c → c < J → P (a * 9 + c) = nI (zs_pair C B wo c a) := by
    intro a c h1 h2
    rw [eP, zb_Pn_val h1 h2 hJ, if_pos (by omega), zs_pair_comm]; simp
  have e1 : zt_cp P b J = zc_sum (fun a => if bt b a = true then zc_sum (fun c => if bt b c = true then nI (zs_pair C B wo a c) else 0) a else 0) J := by
    rw [← zc_swap (bt b) (fun a c => nI (zs_pair C B wo c a)) J]
    unfold zt_cp zt_pb
    refine zc_sum_congr (fun a ha => ?_)
    split
    · refine zc_sum_congr (fun c hc => ?_)
      by_cases hac : a < c
      · rw [hP a c hac hc]
      · simp [hac]
    · rfl
  have e2 : zt_cl Lo b J = zc_sum (fun a => if bt b a = true then zs_load C J B W sen chair wo a else 0) J := by
    unfold zt_cl
    refine zc_sum_congr (fun a ha => ?_)
    rw [eL, zb_Ln_val ha, if_pos (show a < 9 by omega)]; simp
  unfold zs_ten
  rw [e1, e2]
/-- POOL: the least tension above w; how many up to w; the tension up to which it goes -/
def zp_la (ts : Nat → Int32) (w : Int32) : Nat → Int32
  | 0 => 2147483647
  | i + 1 => if w < ts i then (if ts i < zp_la ts w i then ts i else zp_la ts w i) else zp_la ts w i
def zp_le (ts : Nat → Int32) (n : Nat) (w : Int32) : Nat := zc_cnt (fun i => decide (ts i ≤ w)) n
def zp_run (ts : Nat → Int32) (n u : Nat) : Nat → Int32 → Int32
  | 0, w => w
  | f + 1, w => if zp_le ts n w < u ∧ zp_le ts n w < n then zp_run ts n u f (zp_la ts w n) else w
def zp_W (ts : Nat → Int32) (n u : Nat) : Int32 := zp_run ts n u (n + 1) (-1)
def zp_fl (B ts : Nat → Int32) (w : Int32) : Nat → List Int32
  | 0 => []
  | i + 1 => zp_fl B ts w i ++ (if ts i ≤ w then [B i] else [])
theorem zp_la_congr {ts ts' : Nat → Int32} {w : Int32} : ∀ {n : Nat}, (∀ i, i < n → ts i = ts' i) → zp_la ts w n = zp_la ts' w n
  | 0, _ => rfl
  | n + 1, h => by unfold zp_la; rw [zp_la_congr (fun i hi => h i (Nat.lt_succ_of_lt hi)), h n (Nat.lt_succ_self n)]
theorem zp_le_congr {ts ts' : Nat → Int32} {w : Int32} {n : Nat} (h : ∀ i, i < n → ts i = ts' i) : zp_le ts n w = zp_le ts' n w := zc_cnt_congr (fun i hi => by rw [h i hi])
theorem zp_run_congr {ts ts' : Nat → Int32} {n u : Nat} (h : ∀ i, i < n → ts i = ts' i) : ∀ (f : Nat) (w : Int32), zp_run ts n u f w = zp_run ts' n u f w
  | 0, _ => rfl
  | f + 1, w => by unfold zp_run; rw [zp_le_congr h, zp_la_congr h, zp_run_congr h f]
theorem zp_fl_congr {B B' ts ts' : Nat → Int32} {w : Int32} : ∀ {n : Nat}, (∀ i, i < n → B i = B' i) → (∀ i, i < n → ts i = ts' i) → zp_fl B ts w n = zp_fl B' ts' w n
  | 0, _, _ => rfl
  | n + 1, h, h2 => by unfold zp_fl; rw [zp_fl_congr (fun i hi => h i (Nat.lt_succ_of_lt hi)) (fun i hi => h2 i (Nat.lt_succ_of_lt hi)), h n (Nat.lt_succ_self n), h2 n (Nat.lt_succ_self n)]
theorem zp_fl_len {B ts : Nat → Int32} {w : Int32} : ∀ n, (zp_fl B ts w n).length = zp_le ts n w
  | 0 => rfl
  | n + 1 => by
    have ih := zp_fl_len (B := B) (ts := ts) (w := w) n
    have e : zp_le ts (n + 1) w = zp_le ts n w + (if decide (ts n ≤ w) = true then 1 else 0) := rfl
    rw [e]
    unfold zp_fl
    rw [List.length_append, ih]
    by_cases h : ts n ≤ w
    · simp [h]
    · simp [h]
theorem zp_stop {ts : Nat → Int32} {n u : Nat} {w : Int32} (h : ¬ (zp_le ts n w < u ∧ zp_le ts n w < n)) : ∀ f, zp_run ts n u f w = w
  | 0 => rfl
  | f + 1 => by unfold zp_run; rw [if_neg h]
theorem zp_la_le {ts : Nat → Int32} {w : Int32} : ∀ {n : Nat} {i : Nat}, i < n → w < ts i → zp_la ts w n ≤ ts i
  | 0, i, h, _ => absurd h (Nat.not_lt_zero i)
  | n + 1, i, h, hw => by
    unfold zp_la
    by_cases e : i = n
    · subst e
      rw [if_pos hw]
      split
      · exact Int32.le_refl _
      · next z => exact Int32.not_lt.mp z
    · have ih := zp_la_le (n := n) (show i < n by omega) hw
      split
      · split
        · next z => exact Int32.le_trans (Int32.le_of_lt z) ih
        · exact ih
      · exact ih
theorem zz_le_max (x : Int32) : x ≤ 2147483647 := by
  apply Int32.le_iff_toInt_le.mpr
  have h1 := Int32.toInt_lt x
  have h2 : (2147483647 : Int32).toInt = 2147483647 := by decide
  omega
theorem zp_la_at {ts : Nat → Int32} {w : Int32} : ∀ {n : Nat}, (∃ i, i < n ∧ w < ts i) → ∃ j, j < n ∧ w < ts j ∧ zp_la ts w n = ts j
  | 0, ⟨i, h, _⟩ => absurd h (Nat.not_lt_zero i)
  | n + 1, h => by
    unfold zp_la
    by_cases hn : w < ts n
    · rw [if_pos hn]
      by_cases hl : ts n < zp_la ts w n
      · rw [if_pos hl]; exact ⟨n, Nat.lt_succ_self n, hn, rfl⟩
      · rw [if_neg hl]
        by_cases he : ∃ i, i < n ∧ w < ts i
        · obtain ⟨j, h1, h2, h3⟩ := zp_la_at he
          exact ⟨j, by omega, h2, h3⟩
        · have hm : ∀ m, m ≤ n → zp_la ts w m = 2147483647 := by
            intro m
            induction m with
            | zero => intro _; rfl
            | succ m ih =>
              intro hm
              unfold zp_la
              rw [if_neg (fun z => he ⟨m, by omega, z⟩)]
              exact ih (by omega)
          have e := hm n (Nat.le_refl n)
          rw [e] at hl ⊢
          refine ⟨n, Nat.lt_succ_self n, hn, ?_⟩
          exact (Int32.le_antisymm (zz_le_max _) (Int32.not_lt.mp hl)).symm
    · rw [if_neg hn]
      obtain ⟨i, h1, h2⟩ := h
      have : i ≠ n := fun e => hn (e ▸ h2)
      obtain ⟨j, g1, g2, g3⟩ := zp_la_at (n := n) ⟨i, by omega, h2⟩
      exact ⟨j, by omega, g2, g3⟩
theorem zc_cnt_all {p : Nat → Bool} : ∀ {n : Nat}, (∀ i, i < n → p i = true) → zc_cnt p n = n
  | 0, _ => rfl
  | n + 1, h => by unfold zc_cnt; rw [zc_cnt_all (fun i hi => h i (Nat.lt_succ_of_lt hi)), h n (Nat.lt_succ_self n)]; rfl
theorem zc_cnt_pos {p : Nat → Bool} : ∀ {n j : Nat}, j < n → p j = true → 1 ≤ zc_cnt p n
  | 0, j, h, _ => absurd h (Nat.not_lt_zero j)
  | n + 1, j, h, hp => by
    unfold zc_cnt
    by_cases e : j = n
    · subst e; rw [if_pos hp]; omega
    · have := zc_cnt_pos (n := n) (show j < n by omega) hp; omega
theorem zc_cnt_or {p q r : Nat → Bool} : ∀ {n : Nat}, (∀ i, i < n → r i = (p i || q i)) → (∀ i, i < n → ¬ (p i = true ∧ q i = true)) → zc_cnt r n = zc_cnt p n + zc_cnt q n
  | 0, _, _ => rfl
  | n + 1, h, h2 => by
    unfold zc_cnt
    rw [zc_cnt_or (fun i hi => h i (Nat.lt_succ_of_lt hi)) (fun i hi => h2 i (Nat.lt_succ_of_lt hi)), h n (Nat.lt_succ_self n)]
    have := h2 n (Nat.lt_succ_self n)
    cases hp : p n <;> cases hq : q n <;> simp_all <;> omega
theorem zp_next {ts : Nat → Int32} {n : Nat} {w : Int32} (h : zp_le ts n w < n) : w < zp_la ts w n ∧ zp_le ts n (zp_la ts w n) = zp_le ts n w + zc_cnt (fun i => decide (ts i = zp_la ts w n)) n ∧ 1 ≤ zc_cnt (fun i => decide (ts i = zp_la ts w n)) n := by
  have he : ∃ i, i < n ∧ w < ts i := by
    apply Classical.byContradiction
    intro hne
    have : zp_le ts n w = n := zc_cnt_all (fun i hi => decide_eq_true (Int32.not_lt.mp (fun z => hne ⟨i, hi, z⟩)))
    omega
  obtain ⟨j, h1, h2, h3⟩ := zp_la_at he
  have hw : w < zp_la ts w n := by rw [h3]; exact h2
  refine ⟨hw, ?_, zc_cnt_pos h1 (decide_eq_true h3.symm)⟩
  refine zc_cnt_or (fun i hi => ?_) (fun i hi z => ?_)
  · by_cases hi2 : w < ts i
    · have hle := zp_la_le hi hi2
      have hnw : ¬ ts i ≤ w := Int32.not_le.mpr hi2
      rw [decide_eq_false hnw, Bool.false_or]
      by_cases e : ts i = zp_la ts w n
      · rw [e]; simp
      · rw [decide_eq_false e, decide_eq_false (fun z => e (Int32.le_antisymm z hle))]
    · have hle : ts i ≤ w := Int32.not_lt.mp hi2
      rw [decide_eq_true hle, Bool.true_or]
      exact decide_eq_true (Int32.le_trans hle (Int32.le_of_lt hw))
  · have a1 := of_decide_eq_true z.1
    have a2 := of_decide_eq_true z.2
    rw [a2] at a1
    exact absurd hw (Int32.not_lt.mpr a1)
theorem zp_le_n (ts : Nat → Int32) (n : Nat) (w : Int32) : zp_le ts n w ≤ n := zc_cnt_le _ n
/-- the place in POOL -/
def zp_ix (s : Int32) (m : Nat) : Nat := (s.toBitVec.toNat / 256) % m
theorem zp_rem {s : Int32} {m : Nat} (h0 : 0 < m) (hm : m ≤ 1000) : (s.toUInt32 >>> ((8 : Int32).toUInt32 &&& Int32.toUInt32 31)).toInt32 - (s.toUInt32 >>> ((8 : Int32).toUInt32 &&& Int32.toUInt32 31)).toInt32 / nI m * nI m = nI (zp_ix s m) := by
  have hlt : s.toBitVec.toNat / 256 < 2 ^ 31 := by
    have := s.toBitVec.isLt; omega
  have e : (s.toUInt32 >>> ((8 : Int32).toUInt32 &&& Int32.toUInt32 31)).toInt32 = nI (s.toBitVec.toNat / 256) := by
    apply Int32.toBitVec_inj.mp
    apply BitVec.eq_of_toNat_eq
    rw [pk_ushr s 8 8 (by decide)]
    show _ = (nI (s.toBitVec.toNat / 256)).toBitVec.toNat
    have : (nI (s.toBitVec.toNat / 256)).toBitVec = BitVec.ofNat 32 (s.toBitVec.toNat / 256) := rfl
    rw [this, BitVec.toNat_ofNat]
    omega
  rw [e]
  exact pk_rem hlt h0 (by omega)
theorem zp_ix_lt {s : Int32} {m : Nat} (h : 0 < m) : zp_ix s m < m := Nat.mod_lt _ h
theorem zp_fl_pre {B ts : Nat → Int32} {w : Int32} {p : Nat} : ∀ {i n : Nat}, i ≤ n → p < (zp_fl B ts w i).length → (zp_fl B ts w i).getD p 0 = (zp_fl B ts w n).getD p 0 := by
  intro i n
  induction n with
  | zero => intro h hp; rw [show i = 0 by omega]
  | succ n ih =>
    intro h hp
    by_cases e : i = n + 1
    · rw [e]
    · have h2 := ih (by omega) hp
      rw [h2]
      have hlen : (zp_fl B ts w i).length ≤ (zp_fl B ts w n).length := by
        clear ih h2 hp
        have hin : i ≤ n := by omega
        clear e h
        induction n with
        | zero => rw [show i = 0 by omega]; exact Nat.le_refl _
        | succ n ih2 =>
          by_cases e2 : i = n + 1
          · rw [e2]; exact Nat.le_refl _
          · have := ih2 (by omega)
            conv => rhs; unfold zp_fl
            rw [List.length_append]; omega
      conv => rhs; unfold zp_fl
      rw [List.getD_eq_getElem?_getD, List.getD_eq_getElem?_getD, List.getElem?_append_left (by omega)]
set_option maxHeartbeats 4000000 in
set_option maxRecDepth 20000 in
theorem m_X0_leastTensionAbove {l : Launch} {E : zj_E} {h : zj_H} {g : zj_G} {k n : Nat} (hk : zj_isC k) (en : h k 7 = nI n) (hn : n ≤ 84) {w : Int32} : zj_M l E yX0_leastTensionAbove cX0_leastTensionAbove 4 (some .int) 1 [.ref (E.2.1 k), .int w] h g (zj_pI (zp_la (h (k + 9)) w n) h g) := by
  refine zj_M.of RX0 (by decide) rfl (Nat.le_of_ble_eq_true rfl) ?_
  intro Γ hΓ K Rt
  subst hΓ
  obtain ⟨hs_C, hs_Cd, hs_Cs, hs_Ci, hs_Cb, hs_Cf, hs_Cp, hs_Cl, hs_Cn, hs_Ct⟩ := zj_shC hk
  obtain ⟨hk12, hk22⟩ := zj_C12 hk
  have loop : ∀ (m i : Nat) (x2 x3 : Int32), n + 1 ≤ i + m → i ≤ n → (x2 = zp_la (h (k + 9)) w i) → (x3 = nI i) → zj_J E Γ 4 5 [(0, .ref (E.2.1 k)), (1, .int w), (2, .int x2), (3, .int x3)] [] h g := by
    intro m
    induction m with
    | zero => intro i x2 x3  h1 h2; omega
    | succ m ih =>
      intro i x2 x3  h1 h2 e2 e3
      refine zj_iload_n (i := 3) (pc := 5) K dX0_leastTensionAbove_5 rfl rfl ?_
      refine zj_aload_n (i := 0) (pc := 6) K dX0_leastTensionAbove_6 rfl rfl ?_
      refine zj_getI (pc := 7) K lf_X0_122 hs_C rfl dX0_leastTensionAbove_7 ?_
      refine zj_icmp_ge (tgt := 40) (pc := 10) K dX0_leastTensionAbove_10 (by decide) (fun c_10 => ?_) (fun c_10 => ?_)
      · have hi : i = n := Nat.le_antisymm h2 (zz_ge e3 en (by omega) (by omega) c_10)
        subst hi
        refine zj_iload_n (i := 2) (pc := 40) K dX0_leastTensionAbove_40 rfl rfl ?_
        exact zj_iret K Rt dX0_leastTensionAbove_41 (⟨by rw [e2], rfl, rfl⟩)
      · have hi : i < n := zz_nge e3 en (by omega) (by omega) c_10
        refine zj_aload_n (i := 0) (pc := 13) K dX0_leastTensionAbove_13 rfl rfl ?_
        refine zj_getR (pc := 14) K lf_X0_39 hs_C rfl dX0_leastTensionAbove_14 ?_
        refine zj_iload_n (i := 3) (pc := 17) K dX0_leastTensionAbove_17 rfl rfl ?_
        refine zj_ald (j := _) (pc := 18) K hs_Ct (by first | assumption | rfl) (by first | assumption | omega) (by first | decide | omega) dX0_leastTensionAbove_18 ?_
        refine zj_iload_n (i := 1) (pc := 19) K dX0_leastTensionAbove_19 rfl rfl ?_
        refine zj_icmp_le (tgt := 34) (pc := 20) K dX0_leastTensionAbove_20 (by decide) (fun c_20 => ?_) (fun c_20 => ?_)
        · refine zj_iinc (v := 1) (pc := 34) K dX0_leastTensionAbove_34 rfl (by decide) rfl rfl rfl ?_
          refine zj_goto (tgt := 5) (pc := 37) K dX0_leastTensionAbove_37 (by decide) ?_
          exact ih (i + 1) _ _ (by omega) (by omega) (by first | (rw [zp_la, if_neg (fun z => absurd c_20 (Int32.not_le.mpr z))]; exact e2) | (rw [zp_la, if_pos (Int32.not_le.mp c_20), ← e2])) (zz_up e3)
        · refine zj_iload_n (i := 2) (pc := 23) K dX0_leastTensionAbove_23 rfl rfl ?_
          refine zj_aload_n (i := 0) (pc := 24) K dX0_leastTensionAbove_24 rfl rfl ?_
          refine zj_getR (pc := 25) K lf_X0_39 hs_C rfl dX0_leastTensionAbove_25 ?_
          refine zj_iload_n (i := 3) (pc := 28) K dX0_leastTensionAbove_28 rfl rfl ?_
          refine zj_ald (j := _) (pc := 29) K hs_Ct (by first | assumption | rfl) (by first | assumption | omega) (by first | decide | omega) dX0_leastTensionAbove_29 ?_
          refine zj_mmin (pc := 30) K lx_X0_113 (by decide) (Nat.le_of_ble_eq_true rfl) dX0_leastTensionAbove_30 ?_
          refine zj_istore_n (i := 2) (pc := 33) K dX0_leastTensionAbove_33 rfl rfl rfl rfl ?_
          refine zj_iinc (v := 1) (pc := 34) K dX0_leastTensionAbove_34 rfl (by decide) rfl rfl rfl ?_
          refine zj_goto (tgt := 5) (pc := 37) K dX0_leastTensionAbove_37 (by decide) ?_
          exact ih (i + 1) _ _ (by omega) (by omega) (by first | (rw [zp_la, if_neg (fun z => absurd c_20 (Int32.not_le.mpr z))]; exact e2) | (rw [zp_la, if_pos (Int32.not_le.mp c_20), ← e2])) (zz_up e3)
  show zj_J E Γ 4 0 [(0, .ref (E.2.1 k)), (1, .int w)] [] h g
  refine zj_ldc (pc := 0) K lk_X0_107 dX0_leastTensionAbove_0 ?_
  refine zj_istore_n (i := 2) (pc := 2) K dX0_leastTensionAbove_2 rfl rfl rfl rfl ?_
  refine zj_iconst (v := 0) (pc := 3) K dX0_leastTensionAbove_3 (by decide) ?_
  refine zj_istore_n (i := 3) (pc := 4) K dX0_leastTensionAbove_4 rfl rfl rfl rfl ?_
  exact loop (n + 1) 0 _ _ (by omega) (by omega) rfl rfl

set_option maxHeartbeats 4000000 in
set_option maxRecDepth 20000 in
theorem m_X0_countListedAt {l : Launch} {E : zj_E} {h : zj_H} {g : zj_G} {k n : Nat} (hk : zj_isC k) (en : h k 7 = nI n) (hn : n ≤ 84) {w : Int32} : zj_M l E yX0_countListedAt cX0_countListedAt 4 (some .int) 0 [.ref (E.2.1 k), .int w] h g (zj_pI (nI (zc_cnt (fun i => decide (h (k + 9) i = w)) n)) h g) := by
  refine zj_M.of RX0 (by decide) rfl (Nat.le_of_ble_eq_true rfl) ?_
  intro Γ hΓ K Rt
  subst hΓ
  obtain ⟨hs_C, hs_Cd, hs_Cs, hs_Ci, hs_Cb, hs_Cf, hs_Cp, hs_Cl, hs_Cn, hs_Ct⟩ := zj_shC hk
  obtain ⟨hk12, hk22⟩ := zj_C12 hk
  have loop : ∀ (m i : Nat) (x2 x3 : Int32), n + 1 ≤ i + m → i ≤ n → (x2 = nI (zc_cnt (fun i => decide (h (k + 9) i = w)) i)) → (x3 = nI i) → zj_J E Γ 4 4 [(0, .ref (E.2.1 k)), (1, .int w), (2, .int x2), (3, .int x3)] [] h g := by
    intro m
    induction m with
    | zero => intro i x2 x3  h1 h2; omega
    | succ m ih =>
      intro i x2 x3  h1 h2 e2 e3
      refine zj_iload_n (i := 3) (pc := 4) K dX0_countListedAt_4 rfl rfl ?_
      refine zj_aload_n (i := 0) (pc := 5) K dX0_countListedAt_5 rfl rfl ?_
      refine zj_getI (pc := 6) K lf_X0_122 hs_C rfl dX0_countListedAt_6 ?_
      refine zj_icmp_ge (tgt := 31) (pc := 9) K dX0_countListedAt_9 (by decide) (fun c_9 => ?_) (fun c_9 => ?_)
      · have hi : i = n := Nat.le_antisymm h2 (zz_ge e3 en (by omega) (by omega) c_9)
        subst hi
        refine zj_iload_n (i := 2) (pc := 31) K dX0_countListedAt_31 rfl rfl ?_
        exact zj_iret K Rt dX0_countListedAt_32 (⟨by rw [e2], rfl, rfl⟩)
      · have hi : i < n := zz_nge e3 en (by omega) (by omega) c_9
        refine zj_aload_n (i := 0) (pc := 12) K dX0_countListedAt_12 rfl rfl ?_
        refine zj_getR (pc := 13) K lf_X0_39 hs_C rfl dX0_countListedAt_13 ?_
        refine zj_iload_n (i := 3) (pc := 16) K dX0_countListedAt_16 rfl rfl ?_
        refine zj_ald (j := _) (pc := 17) K hs_Ct (by first | assumption | rfl) (by first | assumption | omega) (by first | decide | omega) dX0_countListedAt_17 ?_
        refine zj_iload_n (i := 1) (pc := 18) K dX0_countListedAt_18 rfl rfl ?_
        refine zj_icmp_ne (tgt := 25) (pc := 19) K dX0_countListedAt_19 (by decide) (fun c_19 => ?_) (fun c_19 => ?_)
        · refine zj_iinc (v := 1) (pc := 25) K dX0_countListedAt_25 rfl (by decide) rfl rfl rfl ?_
          refine zj_goto (tgt := 4) (pc := 28) K dX0_countListedAt_28 (by decide) ?_
          exact ih (i + 1) _ _ (by omega) (by omega) (by first | exact zc_cnt_t e2 (decide_eq_true c_19) | exact zc_cnt_f e2 (decide_eq_false c_19) ) (zz_up e3)
        · refine zj_iinc (v := 1) (pc := 22) K dX0_countListedAt_22 rfl (by decide) rfl rfl rfl ?_
          refine zj_iinc (v := 1) (pc := 25) K dX0_countListedAt_25 rfl (by decide) rfl rfl rfl ?_
          refine zj_goto (tgt := 4) (pc := 28) K dX0_countListedAt_28 (by decide) ?_
          exact ih (i + 1) _ _ (by omega) (by omega) (by first | exact zc_cnt_t e2 (decide_eq_true c_19) | exact zc_cnt_f e2 (decide_eq_false c_19) ) (zz_up e3)
  show zj_J E Γ 4 0 [(0, .ref (E.2.1 k)), (1, .int w)] [] h g
  refine zj_iconst (v := 0) (pc := 0) K dX0_countListedAt_0 (by decide) ?_
  refine zj_istore_n (i := 2) (pc := 1) K dX0_countListedAt_1 rfl rfl rfl rfl ?_
  refine zj_iconst (v := 0) (pc := 2) K dX0_countListedAt_2 (by decide) ?_
  refine zj_istore_n (i := 3) (pc := 3) K dX0_countListedAt_3 rfl rfl rfl rfl ?_
  exact loop (n + 1) 0 _ _ (by omega) (by omega) rfl rfl

set_option maxHeartbeats 4000000 in
set_option maxRecDepth 20000 in
theorem m_X0_pooledWith {l : Launch} {E : zj_E} {h : zj_H} {g : zj_G} {k n : Nat} (hk : zj_isC k) (en : h k 7 = nI n) (hn : n ≤ 84) {x : Int32} {j : Nat} (ex : x = nI j) (hj : j < 9) : zj_M l E yX0_pooledWith cX0_pooledWith 4 (some .int) 1 [.ref (E.2.1 k), .int x] h g (zj_pI (nI (zc_cnt (fun i => decide (h (k + 9) i ≤ h k 9) && bt (h (k + 8) i) j) n)) h g) := by
  refine zj_M.of RX0 (by decide) rfl (Nat.le_of_ble_eq_true rfl) ?_
  intro Γ hΓ K Rt
  subst hΓ
  obtain ⟨hs_C, hs_Cd, hs_Cs, hs_Ci, hs_Cb, hs_Cf, hs_Cp, hs_Cl, hs_Cn, hs_Ct⟩ := zj_shC hk
  obtain ⟨hk12, hk22⟩ := zj_C12 hk
  have loop : ∀ (m i : Nat) (x2 x3 : Int32), n + 1 ≤ i + m → i ≤ n → (x2 = nI (zc_cnt (fun i => decide (h (k + 9) i ≤ h k 9) && bt (h (k + 8) i) j) i)) → (x3 = nI i) → zj_J E Γ 4 4 [(0, .ref (E.2.1 k)), (1, .int x), (2, .int x2), (3, .int x3)] [] h g := by
    intro m
    induction m with
    | zero => intro i x2 x3  h1 h2; omega
    | succ m ih =>
      intro i x2 x3  h1 h2 e2 e3
      refine zj_iload_n (i := 3) (pc := 4) K dX0_pooledWith_4 rfl rfl ?_
      refine zj_aload_n (i := 0) (pc := 5) K dX0_pooledWith_5 rfl rfl ?_
      refine zj_getI (pc := 6) K lf_X0_122 hs_C rfl dX0_pooledWith_6 ?_
      refine zj_icmp_ge (tgt := 47) (pc := 9) K dX0_pooledWith_9 (by decide) (fun c_9 => ?_) (fun c_9 => ?_)
      · have hi : i = n := Nat.le_antisymm h2 (zz_ge e3 en (by omega) (by omega) c_9)
        subst hi
        refine zj_iload_n (i := 2) (pc := 47) K dX0_pooledWith_47 rfl rfl ?_
        exact zj_iret K Rt dX0_pooledWith_48 (⟨by rw [e2], rfl, rfl⟩)
      · have hi : i < n := zz_nge e3 en (by omega) (by omega) c_9
        refine zj_aload_n (i := 0) (pc := 12) K dX0_pooledWith_12 rfl rfl ?_
        refine zj_getR (pc := 13) K lf_X0_39 hs_C rfl dX0_pooledWith_13 ?_
        refine zj_iload_n (i := 3) (pc := 16) K dX0_pooledWith_16 rfl rfl ?_
        refine zj_ald (j := _) (pc := 17) K hs_Ct (by first | assumption | rfl) (by first | assumption | omega) (by first | decide | omega) dX0_pooledWith_17 ?_
        refine zj_aload_n (i := 0) (pc := 18) K dX0_pooledWith_18 rfl rfl ?_
        refine zj_getI (pc := 19) K lf_X0_144 hs_C rfl dX0_pooledWith_19 ?_
        refine zj_icmp_gt (tgt := 41) (pc := 22) K dX0_pooledWith_22 (by decide) (fun c_22 => ?_) (fun c_22 => ?_)
        · refine zj_iinc (v := 1) (pc := 41) K dX0_pooledWith_41 rfl (by decide) rfl rfl rfl ?_
          refine zj_goto (tgt := 4) (pc := 44) K dX0_pooledWith_44 (by decide) ?_
          exact ih (i + 1) _ _ (by omega) (by omega) (by first | exact zc_cnt_t e2 (by rw [decide_eq_true (Int32.not_lt.mp c_22), c_35]; rfl) | exact zc_cnt_f e2 (by rw [decide_eq_false (Int32.not_le.mpr c_22)]; rfl) | exact zc_cnt_f e2 (by rw [c_35, Bool.and_false]) ) (zz_up e3)
        · refine zj_aload_n (i := 0) (pc := 25) K dX0_pooledWith_25 rfl rfl ?_
          refine zj_getR (pc := 26) K lf_X0_36 hs_C rfl dX0_pooledWith_26 ?_
          refine zj_iload_n (i := 3) (pc := 29) K dX0_pooledWith_29 rfl rfl ?_
          refine zj_ald (j := _) (pc := 30) K hs_Cn (by first | assumption | rfl) (by first | assumption | omega) (by first | decide | omega) dX0_pooledWith_30 ?_
          refine zj_iload_n (i := 1) (pc := 31) K dX0_pooledWith_31 rfl rfl ?_
          refine zj_cN2I (pc := 32) K lm_X0_62 (m_X7_has (by assumption) (by omega)) (by decide) rfl (Nat.le_of_ble_eq_true rfl) dX0_pooledWith_32 ?_
          refine zj_if_eq (tgt := 41) (pc := 35) K dX0_pooledWith_35 (by decide) (fun c_35 => ?_) (fun c_35 => ?_)
          · replace c_35 := zz_i0.mp c_35
            refine zj_iinc (v := 1) (pc := 41) K dX0_pooledWith_41 rfl (by decide) rfl rfl rfl ?_
            refine zj_goto (tgt := 4) (pc := 44) K dX0_pooledWith_44 (by decide) ?_
            exact ih (i + 1) _ _ (by omega) (by omega) (by first | exact zc_cnt_t e2 (by rw [decide_eq_true (Int32.not_lt.mp c_22), c_35]; rfl) | exact zc_cnt_f e2 (by rw [decide_eq_false (Int32.not_le.mpr c_22)]; rfl) | exact zc_cnt_f e2 (by rw [c_35, Bool.and_false]) ) (zz_up e3)
          · replace c_35 := zz_n0.mp c_35
            refine zj_iinc (v := 1) (pc := 38) K dX0_pooledWith_38 rfl (by decide) rfl rfl rfl ?_
            refine zj_iinc (v := 1) (pc := 41) K dX0_pooledWith_41 rfl (by decide) rfl rfl rfl ?_
            refine zj_goto (tgt := 4) (pc := 44) K dX0_pooledWith_44 (by decide) ?_
            exact ih (i + 1) _ _ (by omega) (by omega) (by first | exact zc_cnt_t e2 (by rw [decide_eq_true (Int32.not_lt.mp c_22), c_35]; rfl) | exact zc_cnt_f e2 (by rw [decide_eq_false (Int32.not_le.mpr c_22)]; rfl) | exact zc_cnt_f e2 (by rw [c_35, Bool.and_false]) ) (zz_up e3)
  show zj_J E Γ 4 0 [(0, .ref (E.2.1 k)), (1, .int x)] [] h g
  refine zj_iconst (v := 0) (pc := 0) K dX0_pooledWith_0 (by decide) ?_
  refine zj_istore_n (i := 2) (pc := 1) K dX0_pooledWith_1 rfl rfl rfl rfl ?_
  refine zj_iconst (v := 0) (pc := 2) K dX0_pooledWith_2 (by decide) ?_
  refine zj_istore_n (i := 3) (pc := 3) K dX0_pooledWith_3 rfl rfl rfl rfl ?_
  exact loop (n + 1) 0 _ _ (by omega) (by omega) rfl rfl

set_option maxHeartbeats 4000000 in
set_option maxRecDepth 20000 in
theorem m_X0_pooledAt {l : Launch} {E : zj_E} {h : zj_H} {g : zj_G} {k n : Nat} (hk : zj_isC k) (en : h k 7 = nI n) (hn : n ≤ 84) {x : Int32} {p : Nat} (ex : x = nI p) (hp : p < (zp_fl (h (k + 8)) (h (k + 9)) (h k 9) n).length) : zj_M l E yX0_pooledAt cX0_pooledAt 4 (some .int) 0 [.ref (E.2.1 k), .int x] h g (zj_pI ((zp_fl (h (k + 8)) (h (k + 9)) (h k 9) n).getD p 0) h g) := by
  refine zj_M.of RX0 (by decide) rfl (Nat.le_of_ble_eq_true rfl) ?_
  intro Γ hΓ K Rt
  subst hΓ
  obtain ⟨hs_C, hs_Cd, hs_Cs, hs_Ci, hs_Cb, hs_Cf, hs_Cp, hs_Cl, hs_Cn, hs_Ct⟩ := zj_shC hk
  obtain ⟨hk12, hk22⟩ := zj_C12 hk
  have hpn : (zp_fl (h (k + 8)) (h (k + 9)) (h k 9) n).length ≤ n := by rw [zp_fl_len]; exact zp_le_n _ _ _
  have loop : ∀ (m i : Nat) (x2 x3 : Int32), n + 1 ≤ i + m → i ≤ n → (x2 = nI (p - (zp_fl (h (k + 8)) (h (k + 9)) (h k 9) i).length)) → (x3 = nI i) → ((zp_fl (h (k + 8)) (h (k + 9)) (h k 9) i).length ≤ p) → zj_J E Γ 4 4 [(0, .ref (E.2.1 k)), (1, .int x), (2, .int x2), (3, .int x3)] [] h g := by
    intro m
    induction m with
    | zero => intro i x2 x3  h1 h2; omega
    | succ m ih =>
      intro i x2 x3  h1 h2 e2 e3 hpi
      refine zj_iload_n (i := 3) (pc := 4) K dX0_pooledAt_4 rfl rfl ?_
      refine zj_aload_n (i := 0) (pc := 5) K dX0_pooledAt_5 rfl rfl ?_
      refine zj_getI (pc := 6) K lf_X0_122 hs_C rfl dX0_pooledAt_6 ?_
      refine zj_icmp_ge (tgt := 45) (pc := 9) K dX0_pooledAt_9 (by decide) (fun c_9 => ?_) (fun c_9 => ?_)
      · have hi : i = n := Nat.le_antisymm h2 (zz_ge e3 en (by omega) (by omega) c_9)
        rw [hi] at hpi; omega
      · have hi : i < n := zz_nge e3 en (by omega) (by omega) c_9
        refine zj_aload_n (i := 0) (pc := 12) K dX0_pooledAt_12 rfl rfl ?_
        refine zj_getR (pc := 13) K lf_X0_39 hs_C rfl dX0_pooledAt_13 ?_
        refine zj_iload_n (i := 3) (pc := 16) K dX0_pooledAt_16 rfl rfl ?_
        refine zj_ald (j := _) (pc := 17) K hs_Ct (by first | assumption | rfl) (by first | assumption | omega) (by first | decide | omega) dX0_pooledAt_17 ?_
        refine zj_aload_n (i := 0) (pc := 18) K dX0_pooledAt_18 rfl rfl ?_
        refine zj_getI (pc := 19) K lf_X0_144 hs_C rfl dX0_pooledAt_19 ?_
        refine zj_icmp_gt (tgt := 39) (pc := 22) K dX0_pooledAt_22 (by decide) (fun c_22 => ?_) (fun c_22 => ?_)
        · have ei : zp_fl (h (k + 8)) (h (k + 9)) (h k 9) (i + 1) = zp_fl (h (k + 8)) (h (k + 9)) (h k 9) i := by rw [zp_fl, if_neg (Int32.not_le.mpr c_22), List.append_nil]
          refine zj_iinc (v := 1) (pc := 39) K dX0_pooledAt_39 rfl (by decide) rfl rfl rfl ?_
          refine zj_goto (tgt := 4) (pc := 42) K dX0_pooledAt_42 (by decide) ?_
          exact ih (i + 1) _ _ (by omega) (by omega) (by first | (rw [ei, List.length_append, List.length_singleton, e2, show p - (zp_fl (h (k + 8)) (h (k + 9)) (h k 9) i).length = (p - ((zp_fl (h (k + 8)) (h (k + 9)) (h k 9) i).length + 1)) + 1 by omega]; exact pk_m1 _) | (rw [ei]; exact e2)) (zz_up e3) (by first | (rw [ei, List.length_append, List.length_singleton]; exact ep) | (rw [ei]; exact hpi))
        · have ei : zp_fl (h (k + 8)) (h (k + 9)) (h k 9) (i + 1) = zp_fl (h (k + 8)) (h (k + 9)) (h k 9) i ++ [h (k + 8) i] := by rw [zp_fl, if_pos (Int32.not_lt.mp c_22)]
          refine zj_iload_n (i := 2) (pc := 25) K dX0_pooledAt_25 rfl rfl ?_
          refine zj_if_ne (tgt := 36) (pc := 26) K dX0_pooledAt_26 (by decide) (fun c_26 => ?_) (fun c_26 => ?_)
          · have ep : (zp_fl (h (k + 8)) (h (k + 9)) (h k 9) i).length + 1 ≤ p := by
              apply Classical.byContradiction
              intro z
              apply c_26
              rw [e2, show p - (zp_fl (h (k + 8)) (h (k + 9)) (h k 9) i).length = 0 by omega]
              rfl
            refine zj_iinc (v := -1) (pc := 36) K dX0_pooledAt_36 rfl (by decide) rfl rfl rfl ?_
            refine zj_iinc (v := 1) (pc := 39) K dX0_pooledAt_39 rfl (by decide) rfl rfl rfl ?_
            refine zj_goto (tgt := 4) (pc := 42) K dX0_pooledAt_42 (by decide) ?_
            exact ih (i + 1) _ _ (by omega) (by omega) (by first | (rw [ei, List.length_append, List.length_singleton, e2, show p - (zp_fl (h (k + 8)) (h (k + 9)) (h k 9) i).length = (p - ((zp_fl (h (k + 8)) (h (k + 9)) (h k 9) i).length + 1)) + 1 by omega]; exact pk_m1 _) | (rw [ei]; exact e2)) (zz_up e3) (by first | (rw [ei, List.length_append, List.length_singleton]; exact ep) | (rw [ei]; exact hpi))
          · have ep : p = (zp_fl (h (k + 8)) (h (k + 9)) (h k 9) i).length := by
              rw [e2] at c_26
              have := (nI_eq (a := p - (zp_fl (h (k + 8)) (h (k + 9)) (h k 9) i).length) (b := 0) (by omega) (by omega)).mp (by rw [c_26]; rfl)
              omega
            refine zj_aload_n (i := 0) (pc := 29) K dX0_pooledAt_29 rfl rfl ?_
            refine zj_getR (pc := 30) K lf_X0_36 hs_C rfl dX0_pooledAt_30 ?_
            refine zj_iload_n (i := 3) (pc := 33) K dX0_pooledAt_33 rfl rfl ?_
            refine zj_ald (j := _) (pc := 34) K hs_Cn (by first | assumption | rfl) (by first | assumption | omega) (by first | decide | omega) dX0_pooledAt_34 ?_
            exact zj_iret K Rt dX0_pooledAt_35 (⟨by rw [← zp_fl_pre (show i + 1 ≤ n from hi) (p := p) (by rw [ei, List.length_append, List.length_singleton]; omega), ei, ep]; simp, rfl, rfl⟩)
  show zj_J E Γ 4 0 [(0, .ref (E.2.1 k)), (1, .int x)] [] h g
  refine zj_iload_n (i := 1) (pc := 0) K dX0_pooledAt_0 rfl rfl ?_
  refine zj_istore_n (i := 2) (pc := 1) K dX0_pooledAt_1 rfl rfl rfl rfl ?_
  refine zj_iconst (v := 0) (pc := 2) K dX0_pooledAt_2 (by decide) ?_
  refine zj_istore_n (i := 3) (pc := 3) K dX0_pooledAt_3 rfl rfl rfl rfl ?_
  exact loop (n + 1) 0 _ _ (by omega) (by omega) ex rfl (Nat.zero_le _)
