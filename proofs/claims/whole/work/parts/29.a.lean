/-- PAIRS, squared and summed over all places -/
def zy_sq (F : Nat → Int32) : Int32 := zc_sum (fun q => F q * F q) 81
theorem zy_sum_upd (F : Nat → Int32) (u : Nat) (x : Int32) : ∀ n, zc_sum (fun q => upd F u x q * upd F u x q) n = zc_sum (fun q => F q * F q) n + (if u < n then x * x - F u * F u else 0)
  | 0 => by simp [zc_sum]
  | n + 1 => by
    have ih := zy_sum_upd F u x n
    rw [zc_sum, zc_sum, ih]
    by_cases e : n = u
    · subst e
      rw [zz_upd_at, if_neg (Nat.lt_irrefl n), if_pos (Nat.lt_succ_self n)]
      grind
    · rw [zz_upd_ne _ _ e]
      by_cases h : u < n
      · rw [if_pos h, if_pos (by omega)]; grind
      · rw [if_neg h, if_neg (by omega)]; grind
theorem zy_sq_upd (F : Nat → Int32) {u : Nat} (x : Int32) (hu : u < 81) : zy_sq (upd F u x) = zy_sq F + (x * x - F u * F u) := by
  unfold zy_sq; rw [zy_sum_upd, if_pos hu]
theorem zy_mv1 (P : Nat → Int32) (b : Int32) {i j : Nat} (hi : i < 9) (hj : j < 9) : ∀ n, n ≤ 9 → (zx_mv P b i j n).1 = zy_sq (zx_mv P b i j n).2 - zy_sq P
  | 0, _ => by show (0 : Int32) = zy_sq P - zy_sq P; simp
  | n + 1, hn => by
    have ih := zy_mv1 P b hi hj n (by omega)
    unfold zx_mv
    by_cases h : bt b n = true
    · rw [if_pos h]
      show _ + _ + _ = zy_sq (upd (upd _ _ _) _ _) - zy_sq P
      rw [zy_sq_upd _ _ (zz_pp_lt (by omega) hj), zy_sq_upd _ _ (zz_pp_lt (by omega) hi), ih]
      grind
    · rw [if_neg h]; exact ih
theorem zy_gain (P si : Nat → Int32) {J a i b j : Nat} (hJ : J ≤ 9) (hi : i < 9) (hj : j < 9) : zx_gain P si J a i b j = zy_sq P - zy_sq (zx_mv (zx_mv P (zr_stay (si a) i) i j J).2 (zr_stay (si b) j) j i J).2 := by
  unfold zx_gain
  rw [zy_mv1 _ _ hi hj J hJ, zy_mv1 _ _ hj hi J hJ]
  grind
/-- EVENNESS by counting: squares of PAIRS of all twos -/
def zs_even (J C : Nat) (si : Nat → Int32) : Int32 := zc_sum (fun a => zc_sum (fun c => nI (zs_pair C si (-1) a c) * nI (zs_pair C si (-1) a c)) a) J
theorem zy_sum_app (f : Nat → Int32) (n : Nat) : ∀ m, zc_sum f (n + m) = zc_sum f n + zc_sum (fun i => f (n + i)) m
  | 0 => by simp [zc_sum]
  | m + 1 => by
    have ih := zy_sum_app f n m
    show zc_sum f (n + m) + f (n + m) = _
    rw [ih, zc_sum]; grind
theorem zy_rows (f : Nat → Int32) : ∀ n, zc_sum f (n * 9) = zc_sum (fun a => zc_sum (fun c => f (a * 9 + c)) 9) n
  | 0 => rfl
  | n + 1 => by
    rw [show (n + 1) * 9 = n * 9 + 9 by omega, zy_sum_app, zy_rows f n]; rfl
theorem zy_sum_ext (f : Nat → Int32) {n m : Nat} (h : n ≤ m) (hz : ∀ i, n ≤ i → i < m → f i = 0) : zc_sum f m = zc_sum f n := by
  obtain ⟨d, rfl⟩ : ∃ d, m = n + d := ⟨m - n, by omega⟩
  rw [zy_sum_app, zc_sum_z (fun i hi => hz (n + i) (by omega) (by omega))]; simp
/-- over a table that is 0 off the twos of the first J, the squares are those of the twos -/
theorem zy_sq_even {F : Nat → Int32} {J : Nat} {G : Nat → Nat → Int32} (hJ : J ≤ 9) (h1 : ∀ a c, a < c → c < J → F (a * 9 + c) = G c a) (h0 : ∀ a c, a < 9 → c < 9 → ¬ (a < c ∧ c < J) → F (a * 9 + c) = 0) : zy_sq F = zc_sum (fun a => zc_sum (fun c => G a c * G a c) a) J := by
  unfold zy_sq
  rw [show 81 = 9 * 9 from rfl, zy_rows]
  have e1 : zc_sum (fun a => zc_sum (fun c => F (a * 9 + c) * F (a * 9 + c)) 9) 9 = zc_sum (fun a => if (fun _ : Nat => true) a = true then zc_sum (fun c => if (decide (a < c) && (fun _ : Nat => true) c) = true then G c a * G c a else 0) J else 0) J := by
    rw [zy_sum_ext _ hJ (fun a ha ha9 => zc_sum_z (fun c hc => by rw [h0 a c ha9 hc (by omega)]; rfl))]
    refine zc_sum_congr (fun a ha => ?_)
    rw [if_pos rfl, zy_sum_ext _ hJ (fun c hc hc9 => by rw [h0 a c (by omega) hc9 (by omega)]; rfl)]
    refine zc_sum_congr (fun c hc => ?_)
    by_cases hac : a < c
    · rw [h1 a c hac hc]; simp [hac]
    · rw [h0 a c (by omega) (by omega) (fun z => hac z.1)]; simp [hac]
  rw [e1, zc_swap (fun _ => true) (fun a c => G c a * G c a) J]
  simp
theorem zb_Pn_0 {B : Nat → Int32} {wo : Int32} {J q : Nat} {f : Nat → Int32} (h : ¬ (q / 9 < q % 9 ∧ q % 9 < J)) : ∀ C, zb_Pn B wo J f C q = f q
  | 0 => rfl
  | C + 1 => by
    have ih := zb_Pn_0 (B := B) (wo := wo) (f := f) h C
    unfold zb_Pn
    split
    · unfold zb_P; rw [if_neg (fun z => h ⟨z.2.1, z.2.2.1⟩)]; exact ih
    · exact ih
theorem zy_ev_class {si fP : Nat → Int32} {J C : Nat} (hJ : J ≤ 9) : zt_ev (zb_Pn si (-1) J (fun j => if j < 81 then 0 else fP j) C) J = zs_even J C si := by
  unfold zt_ev zt_eb zs_even
  have := zc_swap (fun _ => true) (fun a c => nI (zs_pair C si (-1) c a) * nI (zs_pair C si (-1) c a)) J
  simp only [Bool.and_true, if_true] at this
  rw [← this]
  refine zc_sum_congr (fun a ha => zc_sum_congr (fun c hc => ?_))
  by_cases hac : a < c
  · rw [zb_Pn_val hac hc hJ, if_pos (show a * 9 + c < 81 by omega), zs_pair_comm]; simp [hac]
  · simp [hac]

theorem zy_one (w : Nat) (x : Int32) : ∀ n, zc_sum (fun c => if c = w then x else 0) n = if w < n then x else 0
  | 0 => rfl
  | n + 1 => by
    rw [zc_sum, zy_one w x n]
    by_cases e : n = w
    · subst e; simp
    · by_cases h : w < n
      · rw [if_pos h, if_neg e, if_pos (by omega)]; simp
      · rw [if_neg h, if_neg e, if_neg (by omega)]; simp
theorem zy_pp {c i u v : Nat} (hc : c < 9) (hi : i < 9) (hu : u < 9) (hv : v < 9) (hci : c ≠ i) : u * 9 + v = zz_pp c i ↔ (c = u ∧ i = v ∧ u < v) ∨ (i = u ∧ c = v ∧ u < v) := by
  unfold zz_pp; split <;> omega
theorem zy_n {s : Int32} {i u v J : Nat} (hJ : J ≤ 9) (hi : i < J) (hu : u < 9) (hv : v < 9) (hs : bt s i = false) : zx_n s i (u * 9 + v) J = if (u < v ∧ v < J) ∧ ((i = v ∧ bt s u = true) ∨ (i = u ∧ bt s v = true)) then 1 else 0 := by
  unfold zx_n
  by_cases hT : (u < v ∧ v < J) ∧ ((i = v ∧ bt s u = true) ∨ (i = u ∧ bt s v = true))
  · rw [if_pos hT]
    rcases hT.2 with ⟨e1, e2⟩ | ⟨e1, e2⟩
    · have key : ∀ c, c < J → (if (bt s c && decide (u * 9 + v = zz_pp c i)) = true then (1 : Int32) else 0) = if c = u then 1 else 0 := by
        intro c hc
        by_cases hcu : c = u
        · rw [hcu, e2, if_pos rfl, decide_eq_true ((zy_pp (by omega) (by omega) hu hv (by omega)).mpr (Or.inl ⟨rfl, e1, hT.1.1⟩))]; rfl
        · rw [if_neg hcu, if_neg]
          intro z
          rw [Bool.and_eq_true] at z
          by_cases hci : c = i
          · rw [hci, hs] at z; exact absurd z.1 (by decide)
          · rcases (zy_pp (by omega) (by omega) hu hv hci).mp (of_decide_eq_true z.2) with y | y
            · exact hcu y.1
            · omega
      rw [zc_sum_congr key, zy_one, if_pos (by omega)]
    · have key : ∀ c, c < J → (if (bt s c && decide (u * 9 + v = zz_pp c i)) = true then (1 : Int32) else 0) = if c = v then 1 else 0 := by
        intro c hc
        by_cases hcu : c = v
        · rw [hcu, e2, if_pos rfl, decide_eq_true ((zy_pp (by omega) (by omega) hu hv (by omega)).mpr (Or.inr ⟨e1, rfl, hT.1.1⟩))]; rfl
        · rw [if_neg hcu, if_neg]
          intro z
          rw [Bool.and_eq_true] at z
          by_cases hci : c = i
          · rw [hci, hs] at z; exact absurd z.1 (by decide)
          · rcases (zy_pp (by omega) (by omega) hu hv hci).mp (of_decide_eq_true z.2) with y | y
            · omega
            · exact hcu y.2.1
      rw [zc_sum_congr key, zy_one, if_pos (by omega)]
  · rw [if_neg hT]
    refine zc_sum_z (fun c hc => ?_)
    rw [if_neg]
    intro z
    rw [Bool.and_eq_true] at z
    by_cases hci : c = i
    · rw [hci, hs] at z; exact absurd z.1 (by decide)
    · rcases (zy_pp (by omega) (by omega) hu hv hci).mp (of_decide_eq_true z.2) with y | y
      · exact hT ⟨⟨y.2.2, by omega⟩, Or.inl ⟨y.2.1, by rw [← y.1]; exact z.1⟩⟩
      · exact hT ⟨⟨y.2.2, by omega⟩, Or.inr ⟨y.1, by rw [← y.2.1]; exact z.1⟩⟩
theorem zy_stay {b : Int32} {i c : Nat} (hi : i < 9) (hc : c < 9) : bt (zr_stay b i) c = (bt b c && decide (¬ c = i)) := by
  unfold zr_stay
  rw [b_and, b_xor, zz_bt_bit (by omega), b_m1 c (by omega)]
  by_cases e : c = i <;> simp [e]
def zy_ind (b : Int32) (u v : Nat) : Int32 := if (bt b u && bt b v) = true then 1 else 0
theorem zy_ind_ex {b : Int32} {i j u v J : Nat} (hJ : J ≤ 9) (hi : i < J) (hj : j < J) (huv : u < v) (hv : v < J) (h1 : bt b i = true) (h2 : bt b j = false) : zy_ind (zr_stay b i ||| zz_bit j) u v = zy_ind b u v - zx_n (zr_stay b i) i (u * 9 + v) J + zx_n (zr_stay b i) j (u * 9 + v) J := by
  have hsi : bt (zr_stay b i) i = false := by rw [zy_stay (by omega) (by omega)]; simp
  have hsj : bt (zr_stay b i) j = false := by rw [zy_stay (by omega) (by omega), h2]; rfl
  rw [zy_n hJ hi (by omega) (by omega) hsi, zy_n hJ hj (by omega) (by omega) hsj]
  unfold zy_ind
  rw [b_or, b_or, zz_bt_bit (by omega), zz_bt_bit (by omega), zy_stay (by omega) (by omega), zy_stay (by omega) (by omega)]
  have hij : i ≠ j := fun e => by rw [e, h2] at h1; cases h1
  have huv' : u < v ∧ v < J := ⟨huv, hv⟩
  by_cases eui : u = i
  · subst eui
    by_cases evj : v = j
    · subst evj; simp [h1, h2, huv', hij]
    · cases hbv : bt b v <;> simp [h1, h2, huv', hij, evj, hbv, show ¬ j = v from fun e => evj e.symm, show ¬ u = v by omega, show ¬ v = u by omega, show ¬ j = u from fun e => hij e.symm]
  · by_cases euj : u = j
    · subst euj
      by_cases evi : v = i
      · subst evi; simp [h1, h2, huv', show ¬ u = v by omega, show ¬ v = u by omega]
      · cases hbv : bt b v <;> simp [h1, h2, huv', evi, hbv, eui, show ¬ i = v from fun e => evi e.symm, show ¬ i = u from fun e => eui e.symm, show ¬ u = v by omega, show ¬ v = u by omega]
    · by_cases evi : v = i
      · subst evi
        cases hbu : bt b u <;> simp [h1, h2, huv', hbu, eui, euj, show ¬ v = u by omega, show ¬ j = u from fun e => euj e.symm, show ¬ j = v from fun e => hij e.symm, hij]
      · by_cases evj : v = j
        · subst evj
          cases hbu : bt b u <;> simp [h1, h2, huv', hbu, eui, euj, evi, show ¬ i = u from fun e => eui e.symm, show ¬ i = v from fun e => evi e.symm, show ¬ v = u by omega]
        · simp [eui, euj, evi, evj, show ¬ i = u from fun e => eui e.symm, show ¬ i = v from fun e => evi e.symm, show ¬ j = u from fun e => euj e.symm, show ¬ j = v from fun e => evj e.symm]
theorem zy_pair_sum {C : Nat} (hC : C ≤ 14) (B : Nat → Int32) (u v : Nat) : nI (zs_pair C B (-1) u v) = zc_sum (fun c => zy_ind (B c) u v) C := by
  unfold zs_pair
  induction C with
  | zero => rfl
  | succ C ih =>
    have ih := ih (by omega)
    have hne : ¬ nI C = -1 := by
      intro e
      have e2 : (nI C).toInt = (-1 : Int32).toInt := by rw [e]
      rw [nI_toInt (by omega)] at e2
      have : (-1 : Int32).toInt = -1 := by decide
      omega
    have e0 : zc_cnt (fun i => decide (¬ nI i = -1) && (bt (B i) u && bt (B i) v)) (C + 1) = zc_cnt (fun i => decide (¬ nI i = -1) && (bt (B i) u && bt (B i) v)) C + (if (decide (¬ nI C = -1) && (bt (B C) u && bt (B C) v)) = true then 1 else 0) := rfl
    rw [e0, zc_sum, ← ih, decide_eq_true hne, Bool.true_and]
    unfold zy_ind
    cases bt (B C) u && bt (B C) v with
    | true => exact (nI_1 _).symm
    | false => simp
theorem zy_sum_upd1 (F : Int32 → Int32) (B : Nat → Int32) (a : Nat) (x : Int32) : ∀ n, zc_sum (fun c => F (upd B a x c)) n = zc_sum (fun c => F (B c)) n + (if a < n then F x - F (B a) else 0)
  | 0 => by simp [zc_sum]
  | n + 1 => by
    have ih := zy_sum_upd1 F B a x n
    rw [zc_sum, zc_sum, ih]
    by_cases e : n = a
    · subst e
      rw [zz_upd_at, if_neg (Nat.lt_irrefl n), if_pos (Nat.lt_succ_self n)]
      grind
    · rw [zz_upd_ne _ _ e]
      by_cases h : a < n
      · rw [if_pos h, if_pos (by omega)]; grind
      · rw [if_neg h, if_neg (by omega)]; grind
theorem zy_better {si fP : Nat → Int32} {J C a b i j : Nat} (hJ : J ≤ 9) (hC : C ≤ 14) (ha : a < C) (hb : b < C) (hi : i < J) (hj : j < J) (h1 : bt (si a) i = true) (h2 : bt (si b) i = false) (h3 : bt (si b) j = true) (h4 : bt (si a) j = false) :
    zx_gain (zb_Pn si (-1) J (fun q => if q < 81 then 0 else fP q) C) si J a i b j = zs_even J C si - zs_even J C (zx_si si a i b j) := by
  have hab : b ≠ a := fun e => by rw [e, h1] at h2; cases h2
  rw [zy_gain _ _ hJ (by omega) (by omega)]
  have hs1 : bt (zr_stay (si a) i) i = false := by rw [zy_stay (by omega) (by omega)]; simp
  have hs2 : bt (zr_stay (si a) i) j = false := by rw [zy_stay (by omega) (by omega), h4]; rfl
  have hs3 : bt (zr_stay (si b) j) j = false := by rw [zy_stay (by omega) (by omega)]; simp
  have hs4 : bt (zr_stay (si b) j) i = false := by rw [zy_stay (by omega) (by omega), h2]; rfl
  have ebb : upd si a (zr_stay (si a) i ||| zz_bit j) b = si b := zz_upd_ne _ _ hab
  rw [zy_sq_even (J := J) (G := fun u v => nI (zs_pair C si (-1) u v)) hJ (fun u v huv hv => by rw [zb_Pn_val huv hv hJ, if_pos (show u * 9 + v < 81 by omega), zs_pair_comm]; simp)
    (fun u v hu hv h => by rw [zb_Pn_0 (by rw [show (u * 9 + v) / 9 = u by omega, show (u * 9 + v) % 9 = v by omega]; exact h)]; simp; omega)]
  rw [zy_sq_even (J := J) (G := fun u v => nI (zs_pair C (zx_si si a i b j) (-1) u v)) hJ (fun u v huv hv => ?_) (fun u v hu hv h => ?_)]
  · rfl
  · rw [zx_mv_val, zx_mv_val, zb_Pn_val huv hv hJ, if_pos (show u * 9 + v < 81 by omega), zs_pair_comm C (zx_si si a i b j), zy_pair_sum hC, zy_pair_sum hC]
    unfold zx_si
    rw [zy_sum_upd1 (fun x => zy_ind x u v), zy_sum_upd1 (fun x => zy_ind x u v), if_pos ha, if_pos hb, ebb, zy_ind_ex hJ hi hj huv hv h1 h4, zy_ind_ex hJ hj hi huv hv h3 h2]
    grind
  · rw [zx_mv_val, zx_mv_val, zb_Pn_0 (by rw [show (u * 9 + v) / 9 = u by omega, show (u * 9 + v) % 9 = v by omega]; exact h), if_pos (show u * 9 + v < 81 by omega)]
    rw [zy_n hJ hi hu hv hs1, zy_n hJ hj hu hv hs2, zy_n hJ hj hu hv hs3, zy_n hJ hi hu hv hs4, if_neg (fun z => h z.1), if_neg (fun z => h z.1), if_neg (fun z => h z.1), if_neg (fun z => h z.1)]
    rfl
