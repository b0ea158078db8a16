-- one call of the class, then the same of the reference: the answers are equal, the relation stands
def zy_two (l : Launch) (E : zj_E) (y7 : MethodName) (b7 : ByteArray) (L7 d7 : Nat) (y8 : MethodName) (b8 : ByteArray) (L8 d8 : Nat) (ret : Option FieldType) (As : List Value) (h : zj_H) : Prop :=
  ∀ g : zj_G, ∃ P7, zj_M l E y7 b7 L7 ret d7 (.ref (E.2.1 0) :: As) h g P7 ∧ ∀ v h1 g1, P7 v h1 g1 → ∃ r, v = some (.int r) ∧ ∃ P8, zj_M l E y8 b8 L8 ret d8 (.ref (E.2.1 78) :: As) h1 g1 P8 ∧ ∀ v' h2 g2, P8 v' h2 g2 → v' = some (.int r) ∧ zIx h2
section ZY
variable {l : Launch} {E : zj_E} {h : zj_H} {J C u n nx ct : Nat}
theorem zI_m {h1 : zj_H} (a : zI h J C u n nx ct) (e80 : h1 80 = h 80) : h1 80 7 = nI J ∧ h1 80 18 = nI C ∧ h1 80 0 = nI u ∧ (∀ δ si c b, 0 ≤ zd_t (zθo (zτM h1 80 J C u) δ) si c b) := by
  refine ⟨by rw [e80]; exact a.1.2.2.2.2.2.2.1, by rw [e80]; exact a.1.2.2.2.2.2.2.2.1, by rw [e80]; exact a.1.2.2.2.2.2.2.2.2.1, ?_⟩
  rw [zτM_congr e80]; exact a.1.hTM
theorem zI.te (a : zI h J C u n nx ct) : zτe (zτC h J C u) (zτM h 80 J C u) := a.1.2.2.2.2.2.2.2.2.2.1
theorem zI.de (a : zI h J C u n nx ct) : zδe C (zδC h 13) (zδM h 80) := a.2.1.1
theorem zI.hC (a : zI h J C u n nx ct) : C ≤ 14 := a.1.2.2.2.1
theorem zI.hJ (a : zI h J C u n nx ct) : J ≤ 9 := a.1.2.1
theorem zm_same_rf {q : zj_H} : zm_same q q := ⟨fun _ _ => rfl, rfl, rfl, rfl, rfl, rfl, rfl⟩
theorem zk_q_rf {q : zj_H} : zk_q q q := fun _ _ _ _ _ _ _ => rfl
theorem zy_ask {y7 y8 : MethodName} {b7 b8 : ByteArray} {L7 d7 L8 d8 : Nat} {ret : Option FieldType} {As : List Value} {q7 q8 : Int32} (a : zI h J C u n nx ct)
    (M7 : ∀ g, zj_M l E y7 b7 L7 ret d7 (.ref (E.2.1 0) :: As) h g (fun v h' g' => v = some (.int q7) ∧ g' = g ∧ zk_q h h'))
    (M8 : ∀ h1 g1, h1 80 = h 80 → h1 78 = h 78 → zj_M l E y8 b8 L8 ret d8 (.ref (E.2.1 78) :: As) h1 g1 (fun v h' g' => v = some (.int q8) ∧ g' = g1 ∧ zm_same h1 h' ∧ h' 78 0 = 0)) (hq : q7 = q8) : zy_two l E y7 b7 L7 d7 y8 b8 L8 d8 ret As h := by
  intro g
  refine ⟨_, M7 g, fun v h1 g1 hp => ⟨q7, hp.1, _, M8 h1 g1 (hp.2.2 80 (by decide) (by decide) (by decide) (by decide) (by decide) (by decide)) (hp.2.2 78 (by decide) (by decide) (by decide) (by decide) (by decide) (by decide)), fun v' h2 g2 hp2 => ⟨by rw [hq]; exact hp2.1, J, C, u, n, nx, ct, zI_ask hp.2.2 hp2.2.2.1 a⟩⟩⟩
theorem zk_post_int {h1 : zj_H} {v : Option Value} {o : Option (Int32 × zδ)} (ks : zk_post h h1 nx ct v o) : ∃ r, v = some (.int r) := by
  cases o with
  | none => exact ⟨_, ks.1⟩
  | some x => obtain ⟨r, d⟩ := x; exact ⟨r, ks.1⟩
theorem zy_chg {y7 y8 : MethodName} {b7 b8 : ByteArray} {L7 d7 L8 d8 : Nat} {ret : Option FieldType} {As : List Value} {o7 o8 : Option (Int32 × zδ)} (a : zI h J C u n nx ct)
    (M7 : ∀ g, zj_M l E y7 b7 L7 ret d7 (.ref (E.2.1 0) :: As) h g (fun v h' g' => g' = g ∧ zk_fr h h' ∧ zk_post h h' nx ct v o7))
    (M8 : ∀ h1 g1, h1 80 = h 80 → h1 78 17 = nI ct → zj_M l E y8 b8 L8 ret d8 (.ref (E.2.1 78) :: As) h1 g1 (fun v h' g' => g' = g1 ∧ zm_fr h1 h' ∧ zm_post C h1 h' ct v o8)) (he : zoe C o7 o8) (hw : ∀ r δ, o7 = some (r, δ) → zaw δ.2.1) : zy_two l E y7 b7 L7 d7 y8 b8 L8 d8 ret As h := by
  intro g
  refine ⟨_, M7 g, fun v h1 g1 hp => ?_⟩
  obtain ⟨r, hr⟩ := zk_post_int hp.2.2
  refine ⟨r, hr, _, M8 h1 g1 (hp.2.1 80 (by omega)) (by rw [hp.2.1 78 (by omega)]; exact a.2.2.2.1.2.2.2.2.1), fun v' h2 g2 hp2 => ?_⟩
  obtain ⟨z1, _, z3⟩ := zI_change a hp.2.1 hp.2.2 hp2.2.1 hp2.2.2 he hw
  exact ⟨by rw [← z1]; exact hr, z3⟩
theorem zy_pair (a : zI h J C u n nx ct) {w1 w2 : Int32} : zy_two l E yX7_pair cX7_pair 3 3 yX8_pair cX8_pair 3 2 (some .int) [.int w1, .int w2] h := by
  refine zy_ask a (fun g => m_X7_pair (u := u) a.1.1 a.hJ a.1.2.2.1 a.hC) (fun h1 g1 e80 e78 => ?_) (zq_pair_e a.te a.de _ _)
  obtain ⟨x1, x2, x3, x4⟩ := zI_m a e80
  have z := m_X8_pair (l := l) (E := E) (h := h1) (g := g1) (u := u) (x := w1) (y := w2) x1 a.hJ x2 a.hC
  rw [zτM_congr e80, zδM_congr e80] at z
  exact z
theorem zy_spread (a : zI h J C u n nx ct) {w1 : Int32} : zy_two l E yX7_spread cX7_spread 2 3 yX8_spread cX8_spread 7 3 (some .int) [.int w1] h := by
  refine zy_ask a (fun g => m_X7_spread (u := u) a.1.1 a.hJ a.1.2.2.1 a.hC) (fun h1 g1 e80 e78 => ?_) (zq_spr_e a.te a.de _)
  obtain ⟨x1, x2, x3, x4⟩ := zI_m a e80
  have hL8 : ∀ j, 0 ≤ zq_L (zτM h1 80 J C u) (zδM h1 80) j := by
    rw [zτM_congr e80, zδM_congr e80, ← zq_L_e a.te a.de]
    exact fun j => a.1.hL _ j
  have z := m_X8_spread (l := l) (E := E) (h := h1) (g := g1) (u := u) (x := w1) x1 a.hJ x2 a.hC hL8
  rw [zτM_congr e80, zδM_congr e80] at z
  exact z
theorem zy_lawful (a : zI h J C u n nx ct) {w1 : Int32} : zy_two l E yX7_lawful cX7_lawful 2 3 yX8_lawful cX8_lawful 2 3 (some .int) [.int w1] h := by
  refine zy_ask a (fun g => m_X7_lawful (u := u) a.1.1 a.hJ a.1.2.2.1 a.hC) (fun h1 g1 e80 e78 => ?_) (zq_law_e a.hC a.te a.de _)
  obtain ⟨x1, x2, x3, x4⟩ := zI_m a e80
  have z := m_X8_lawful (l := l) (E := E) (h := h1) (g := g1) (u := u) (x := w1) x1 a.hJ x2 a.hC
  rw [zτM_congr e80, zδM_congr e80] at z
  exact z
theorem zy_bench (a : zI h J C u n nx ct) {w1 w2 : Int32} : zy_two l E yX7_bench cX7_bench 3 3 yX8_bench cX8_bench 3 3 (some .int) [.int w1, .int w2] h := by
  refine zy_ask a (fun g => m_X7_bench (u := u) a.1.1 a.hJ a.1.2.2.1 a.hC) (fun h1 g1 e80 e78 => ?_) (zq_ben_e a.hC a.te a.de _ _)
  obtain ⟨x1, x2, x3, x4⟩ := zI_m a e80
  have z := m_X8_bench (l := l) (E := E) (h := h1) (g := g1) (u := u) (x := w1) (y := w2) x1 a.hJ x2 a.hC
  rw [zτM_congr e80, zδM_congr e80] at z
  exact z
theorem zy_rank (a : zI h J C u n nx ct) {w1 w2 : Int32} : zy_two l E yX7_rank cX7_rank 3 3 yX8_rank cX8_rank 4 3 (some .int) [.int w1, .int w2] h := by
  refine zy_ask a (fun g => m_X7_rank (u := u) a.1.1 a.hJ a.1.2.2.1 a.hC) (fun h1 g1 e80 e78 => ?_) (zq_rank_e a.hC a.te a.de _ _)
  obtain ⟨x1, x2, x3, x4⟩ := zI_m a e80
  have z := m_X8_rank (l := l) (E := E) (h := h1) (g := g1) (u := u) (x := w1) (y := w2) x1 a.hJ x2 a.hC
  rw [zτM_congr e80, zδM_congr e80] at z
  exact z
theorem zy_tension (a : zI h J C u n nx ct) {w1 w2 : Int32} : zy_two l E yX7_tension cX7_tension 3 3 yX8_tension cX8_tension 3 4 (some .int) [.int w1, .int w2] h := by
  refine zy_ask a (fun g => m_X7_tension (u := u) a.1.1 a.hJ a.1.2.2.1 a.hC) (fun h1 g1 e80 e78 => ?_) (zq_ten_e a.hC a.te a.de _ _)
  obtain ⟨x1, x2, x3, x4⟩ := zI_m a e80
  have z := m_X8_tension (l := l) (E := E) (h := h1) (g := g1) (u := u) (x := w1) (y := w2) x1 a.hJ x2 a.hC
  rw [zτM_congr e80, zδM_congr e80] at z
  exact z
theorem zy_pool (a : zI h J C u n nx ct) {w1 : Int32} : zy_two l E yX7_pool cX7_pool 2 4 yX8_pool cX8_pool 2 5 (some .int) [.int w1] h := by
  refine zy_ask a (fun g => m_X7_pool (u := u) a.1.1 a.hJ a.1.2.2.1 a.hC a.1.2.2.2.2.1 a.1.2.2.2.2.2.1 a.1.hT) (fun h1 g1 e80 e78 => ?_) (zq_pool_e a.hC a.te a.de _)
  obtain ⟨x1, x2, x3, x4⟩ := zI_m a e80
  have z := m_X8_pool (l := l) (E := E) (h := h1) (g := g1) (u := u) (x := w1) x1 a.hJ x2 a.hC x3 a.1.2.2.2.2.2.1 x4
  rw [zτM_congr e80, zδM_congr e80] at z
  exact z
theorem zy_chances (a : zI h J C u n nx ct) {w1 w2 : Int32} : zy_two l E yX7_chances cX7_chances 3 4 yX8_chances cX8_chances 5 5 (some .int) [.int w1, .int w2] h := by
  refine zy_ask a (fun g => m_X7_chances (u := u) a.1.1 a.hJ a.1.2.2.1 a.hC a.1.2.2.2.2.1 a.1.2.2.2.2.2.1 a.1.hT) (fun h1 g1 e80 e78 => ?_) (zq_ch_e a.hC a.te a.de _ _)
  obtain ⟨x1, x2, x3, x4⟩ := zI_m a e80
  have z := m_X8_chances (l := l) (E := E) (h := h1) (g := g1) (u := u) (x := w1) (y := w2) x1 a.hJ x2 a.hC x3 a.1.2.2.2.2.2.1 x4
  rw [zτM_congr e80, zδM_congr e80] at z
  exact z
theorem zy_worst (a : zI h J C u n nx ct) {w1 : Int32} : zy_two l E yX7_worst cX7_worst 2 4 yX8_worst cX8_worst 2 5 (some .int) [.int w1] h := by
  refine zy_ask a (fun g => m_X7_worst (u := u) a.1.1 a.hJ a.1.2.2.1 a.hC a.1.2.2.2.2.1 a.1.2.2.2.2.2.1 a.1.hT) (fun h1 g1 e80 e78 => ?_) (zq_wor_e a.hC a.te a.de _)
  obtain ⟨x1, x2, x3, x4⟩ := zI_m a e80
  have z := m_X8_worst (l := l) (E := E) (h := h1) (g := g1) (u := u) (x := w1) x1 a.hJ x2 a.hC x3 a.1.2.2.2.2.2.1 x4
  rw [zτM_congr e80, zδM_congr e80] at z
  exact z
theorem zy_btr (a : zI h J C u n nx ct) {w1 : Int32} : zy_two l E yX7_better cX7_better 2 5 yX8_better cX8_better 2 4 (some .int) [.int w1] h := by
  refine zy_ask a (fun g => m_X7_better (u := u) a.1.1 a.hJ a.1.2.2.1 a.hC) (fun h1 g1 e80 e78 => ?_) (zq_bet_e a.hC a.te a.de _)
  obtain ⟨x1, x2, x3, x4⟩ := zI_m a e80
  have z := m_X8_better (l := l) (E := E) (h := h1) (g := g1) (u := u) (x := w1) x1 a.hJ x2 a.hC
  rw [zτM_congr e80, zδM_congr e80] at z
  exact z
theorem zy_evenness (a : zI h J C u n nx ct) : zy_two l E yX7_evenness cX7_evenness 1 3 yX8_evenness cX8_evenness 1 3 (some .int) [] h := by
  refine zy_ask a (fun g => m_X7_evenness (u := u) a.1.1 a.hJ a.1.2.2.1 a.hC) (fun h1 g1 e80 e78 => ?_) (zs_even_e (B := h 15) (B' := zmB h 80) a.de.2.2.2.1)
  obtain ⟨x1, x2, x3, x4⟩ := zI_m a e80
  have z := m_X8_evenness (l := l) (E := E) (h := h1) (g := g1) (u := u)  x1 a.hJ x2 a.hC
  rw [show zmB h1 80 = zmB h 80 by unfold zmB; rw [e80]] at z
  exact z
theorem zy_draw (a : zI h J C u n nx ct) {w1 : Int32} : zy_two l E yX7_draw cX7_draw 3 5 yX8_draw cX8_draw 2 6 (some .int) [.int w1] h := by
  refine zy_chg a (fun g => m_X7_draw (u := u) a.1.1 a.hJ a.1.2.2.1 a.hC a.1.2.2.2.2.1 a.1.2.2.2.2.2.1 a.1.hT a.2.2.2.1.2.2.1 a.2.2.2.1.1 a.2.2.2.1.2.2.2.1 a.2.2.2.1.2.1) (fun h1 g1 e80 ec => ?_) (zo_draw_e a.hC a.te a.de _) (fun r δ ho => zaw_draw a.2.1.2 ho)
  obtain ⟨x1, x2, x3, x4⟩ := zI_m a e80
  have z := m_X8_draw (l := l) (E := E) (h := h1) (g := g1) (u := u) (x := w1) x1 a.hJ x2 a.hC x3 a.1.2.2.2.2.2.1 x4 ec a.2.2.2.1.2.1
  rw [zτM_congr e80, zδM_congr e80] at z
  exact z
theorem zy_recuse (a : zI h J C u n nx ct) {w1 w2 : Int32} : zy_two l E yX7_recuse cX7_recuse 4 4 yX8_recuse cX8_recuse 3 5 (some .int) [.int w1, .int w2] h := by
  refine zy_chg a (fun g => m_X7_recuse (u := u) a.1.1 a.hJ a.1.2.2.1 a.hC a.1.2.2.2.2.1 a.1.2.2.2.2.2.1 a.1.hT a.2.2.2.1.2.2.1 a.2.2.2.1.1 a.2.2.2.1.2.2.2.1 a.2.2.2.1.2.1) (fun h1 g1 e80 ec => ?_) (zo_rec_e a.hJ a.hC a.te a.de _ _) (fun r δ ho => zaw_rec a.2.1.2 ho)
  obtain ⟨x1, x2, x3, x4⟩ := zI_m a e80
  have z := m_X8_recuse (l := l) (E := E) (h := h1) (g := g1) (u := u) (x := w1) (y := w2) x1 a.hJ x2 a.hC ec a.2.2.2.1.2.1
  rw [zτM_congr e80, zδM_congr e80] at z
  exact z
theorem zy_leave (a : zI h J C u n nx ct) {w1 : Int32} : zy_two l E yX7_leave cX7_leave 2 5 yX8_leave cX8_leave 4 5 (some .int) [.int w1] h := by
  refine zy_chg a (fun g => m_X7_leave (u := u) a.1.1 a.hJ a.1.2.2.1 a.hC a.1.2.2.2.2.1 a.1.2.2.2.2.2.1 a.1.hT a.2.2.2.1.2.2.1 a.2.2.2.1.1 a.2.2.2.1.2.2.2.1 a.2.2.2.1.2.1) (fun h1 g1 e80 ec => ?_) (zo_leave_e a.te a.de _) (fun r δ ho => zaw_leave (τ := zτC h J C u) (δ := zδC h 13) a.hJ a.2.1.2 ho)
  obtain ⟨x1, x2, x3, x4⟩ := zI_m a e80
  have z := m_X8_leave (l := l) (E := E) (h := h1) (g := g1) (u := u) (y := w1) x1 a.hJ x2 a.hC ec a.2.2.2.1.2.1
  rw [zτM_congr e80, zδM_congr e80] at z
  exact z
theorem zy_come (a : zI h J C u n nx ct) {w1 : Int32} : zy_two l E yX7_come cX7_come 2 4 yX8_come cX8_come 2 2 (some .int) [.int w1] h := by
  obtain ⟨aw, haw, eaw⟩ := a.2.1.2
  refine zy_chg a (fun g => m_X7_come (u := u) a.1.1 a.hJ a.1.2.2.1 a.hC a.1.2.2.2.2.1 a.1.2.2.2.2.2.1 a.1.hT a.2.2.2.1.2.2.1 a.2.2.2.1.1 a.2.2.2.1.2.2.2.1 a.2.2.2.1.2.1 eaw haw) (fun h1 g1 e80 ec => ?_) (zo_come_e a.te a.de _) (fun r δ ho => zaw_come (τ := zτC h J C u) (δ := zδC h 13) a.hJ a.2.1.2 ho)
  obtain ⟨x1, x2, x3, x4⟩ := zI_m a e80
  have eaw8 : h1 80 17 = nI aw := by
    have z17 : h 13 1 = h 80 17 := a.de.2.1
    rw [e80, ← z17]; exact eaw
  have z := m_X8_come (l := l) (E := E) (h := h1) (g := g1) (u := u) (y := w1) x1 a.hJ x2 a.hC ec a.2.2.2.1.2.1 eaw8 haw
  rw [zτM_congr e80, zδM_congr e80] at z
  exact z
theorem zy_hear (a : zI h J C u n nx ct) {w1 : Int32} : zy_two l E yX7_hear cX7_hear 2 4 yX8_hear cX8_hear 2 2 (some .int) [.int w1] h := by
  refine zy_chg a (fun g => m_X7_hear (u := u) a.1.1 a.hJ a.1.2.2.1 a.hC a.1.2.2.2.2.1 a.1.2.2.2.2.2.1 a.1.hT a.2.2.2.1.2.2.1 a.2.2.2.1.1 a.2.2.2.1.2.2.2.1 a.2.2.2.1.2.1) (fun h1 g1 e80 ec => ?_) (zo_hear_e a.hC a.te a.de _) (fun r δ ho => zaw_hear a.2.1.2 ho)
  obtain ⟨x1, x2, x3, x4⟩ := zI_m a e80
  have z := m_X8_hear (l := l) (E := E) (h := h1) (g := g1) (u := u) (x := w1) x1 a.hJ x2 a.hC ec a.2.2.2.1.2.1
  rw [zτM_congr e80, zδM_congr e80] at z
  exact z
theorem zy_exchange (a : zI h J C u n nx ct) {w1 w2 w3 w4 : Int32} : zy_two l E yX7_exchange cX7_exchange 5 4 yX8_exchange cX8_exchange 5 3 (some .int) [.int w1, .int w2, .int w3, .int w4] h := by
  refine zy_chg a (fun g => m_X7_exchange (u := u) a.1.1 a.hJ a.1.2.2.1 a.hC a.1.2.2.2.2.1 a.1.2.2.2.2.2.1 a.1.hT a.2.2.2.1.2.2.1 a.2.2.2.1.1 a.2.2.2.1.2.2.2.1 a.2.2.2.1.2.1) (fun h1 g1 e80 ec => ?_) (zo_ex_e a.hJ a.hC a.te a.de _ _ _ _) (fun r δ ho => zaw_ex a.2.1.2 ho)
  obtain ⟨x1, x2, x3, x4⟩ := zI_m a e80
  have z := m_X8_exchange (l := l) (E := E) (h := h1) (g := g1) (u := u) (xa := w1) (xx := w2) (xb := w3) (xy := w4) x1 a.hJ x2 a.hC ec a.2.2.2.1.2.1
  rw [zτM_congr e80, zδM_congr e80] at z
  exact z
theorem zy_smooth (a : zI h J C u n nx ct) : zy_two l E yX7_smooth cX7_smooth 2 5 yX8_smooth cX8_smooth 2 4 (some .int) [] h := by
  refine zy_chg a (fun g => m_X7_smooth (u := u) a.1.1 a.hJ a.1.2.2.1 a.hC a.1.2.2.2.2.1 a.1.2.2.2.2.2.1 a.1.hT a.2.2.2.1.2.2.1 a.2.2.2.1.1 a.2.2.2.1.2.2.2.1 a.2.2.2.1.2.1) (fun h1 g1 e80 ec => ?_) (zo_smo_e a.hC a.te a.de) (fun r δ ho => zaw_smo a.2.1.2 ho)
  obtain ⟨x1, x2, x3, x4⟩ := zI_m a e80
  have z := m_X8_smooth (l := l) (E := E) (h := h1) (g := g1) (u := u)  x1 a.hJ x2 a.hC ec a.2.2.2.1.2.1
  rw [zτM_congr e80, zδM_congr e80] at z
  exact z
theorem zy_feed (a : zI h J C u n nx ct) {w1 w2 w3 w4 w5 : Int32} : zy_two l E yX7_feed cX7_feed 6 1 yX8_feed cX8_feed 6 1 (some .int) [.int w1, .int w2, .int w3, .int w4, .int w5] h := by
  intro g
  refine ⟨_, m_X7_feed (n := n) a.2.2.1.1 a.2.2.1.2.1, fun v h1 g1 hp => ?_⟩
  have hi : ∃ r, v = some (.int r) := by
    have z := hp.2.2
    by_cases hn : n + 20 ≤ 540
    · rw [if_pos hn] at z; exact ⟨_, z.1⟩
    · rw [if_neg hn] at z; exact ⟨_, z.1⟩
  obtain ⟨r, hr⟩ := hi
  refine ⟨r, hr, _, m_X8_feed (n := n) (by rw [hp.2.1 78 (by decide) (by decide)]; exact a.2.2.1.2.2.1) a.2.2.1.2.1, fun v' h2 g2 hp2 => ?_⟩
  obtain ⟨z1, _, z3⟩ := zI_feed a hp.2.1 hp.2.2 hp2.2.1 hp2.2.2.2.1 hp2.2.2.2.2
  exact ⟨by rw [← z1]; exact hr, z3⟩
theorem zy_end (a : zI h J C u n nx ct) {x : Int32} : zy_two l E yX7_end cX7_end 2 0 yX8_end cX8_end 2 0 (some .boolean) [.int x] h := by
  intro g
  refine ⟨_, m_X7_end (n := n) a.2.2.1.1 a.2.2.1.2.1, fun v h1 g1 hp => ?_⟩
  have q78 : h1 78 = h 78 := by
    rw [hp.2.2]
    split
    · exact zj_s_ne _ _ (by decide)
    · rfl
  refine ⟨_, hp.2.1, _, m_X8_end (n := n) (by rw [q78]; exact a.2.2.1.2.2.1) a.2.2.1.2.1, fun v' h2 g2 hp2 => ⟨hp2.2.1, zI_end a hp.2.2 hp2.2.2.1 hp2.2.2.2.2.1 hp2.2.2.2.2.2⟩⟩
theorem zy_text (a : zI h J C u n nx ct) : zy_two l E yX7_text cX7_text 2 8 yX8_text cX8_text 3 5 (some .int) [] h := by
  intro g
  refine ⟨_, m_X7_text (n := n) (t := h 2) rfl a.2.2.1.1 a.2.2.1.2.1, fun v h1 g1 hp => ?_⟩
  have hi : ∃ r, v = some (.int r) := by
    have z := hp.2.2.2.2
    cases hz : zu_text (zw_T (h 2) n) (zu_is (h 2)) n with
    | inl e => obtain ⟨k, p⟩ := e; rw [hz] at z; exact ⟨_, z.1⟩
    | inr e => obtain ⟨k, p⟩ := e; rw [hz] at z; exact ⟨_, z.1⟩
  obtain ⟨r, hr⟩ := hi
  refine ⟨r, hr, _, m_X8_text (n := n) (t := h 79) (hp.2.2.2.1 79 (by decide)) (by rw [hp.2.2.2.1 78 (by decide)]; exact a.2.2.1.2.2.1) a.2.2.1.2.1, fun v' h2 g2 hp2 => ?_⟩
  obtain ⟨z1, _, z3⟩ := zI_text a hp.2.1 hp.2.2.1 hp.2.2.2.1 hp.2.2.2.2 hp2.2.1 hp2.2.2.2.1 hp2.2.2.2.2
  exact ⟨by rw [← z1]; exact hr, z3⟩
theorem zI_zero (a : zI h J C u n nx ct) : zIx (zj_s h 78 (upd (h 78) 0 0)) := ⟨J, C, u, n, nx, ct, zI_ask zk_q_rf (zm_same_0 h 0) a⟩
theorem zy_fault (a : zI h J C u n nx ct) : zy_two l E yX7_fault cX7_fault 1 0 yX8_fault cX8_fault 1 0 (some .int) [] h := by
  intro g
  refine ⟨_, m_X7_fault, fun v h1 g1 hp => ?_⟩
  obtain ⟨rfl, rfl, rfl⟩ := hp
  refine ⟨_, rfl, _, m_X8_fault, fun v' h2 g2 hp2 => ?_⟩
  obtain ⟨rfl, rfl, rfl⟩ := hp2
  exact ⟨by rw [a.2.2.2.2], zI_zero a⟩
theorem zy_now (a : zI h J C u n nx ct) {x : Int32} : zy_two l E yX7_now cX7_now 2 1 yX8_now cX8_now 2 2 (some .int) [.int x] h := by
  intro g
  refine ⟨_, m_X7_now (n := n) a.1.2.2.1 a.hC, fun v h1 g1 hp => ?_⟩
  obtain ⟨rfl, rfl, rfl⟩ := hp
  refine ⟨_, rfl, _, m_X8_now a.1.2.2.2.2.2.2.2.1 a.hC, fun v' h2 g2 hp2 => ?_⟩
  obtain ⟨rfl, rfl, rfl⟩ := hp2
  refine ⟨?_, zI_zero a⟩
  have e0 := a.1.1.trans a.1.2.2.2.2.2.2.1.symm
  have e1 := a.1.2.2.1.trans a.1.2.2.2.2.2.2.2.1.symm
  have e2 : h1 13 0 = h1 80 5 := a.de.1
  have e3 : ∀ k : Int32, zc_cnt (fun c => decide (h1 14 c = k)) C = zc_cnt (fun c => decide (h1 80 (75 + c) = k)) C := fun k => zc_cnt_congr (fun c hc => by
    have z : h1 14 c = h1 80 (75 + c) := a.de.2.2.1 c hc
    rw [z])
  have e5 := a.2.2.2.1.2.2.2.1.trans a.2.2.2.1.2.2.2.2.1.symm
  have e6 := a.2.2.1.1.trans a.2.2.1.2.2.1.symm
  rw [e0, e1, e2, e3, e3, e5, e6]
theorem zy_same (a : zI h J C u n nx ct) : zy_two l E yX7_same cX7_same 3 0 yX8_same cX8_same 3 8 (some .int) [] h := by
  intro g
  refine ⟨_, m_X7_same a.1.2.2.1 a.hC, fun v h1 g1 hp => ?_⟩
  obtain ⟨rfl, rfl, rfl⟩ := hp
  obtain ⟨x1, x2, x3, x4⟩ := zI_m a rfl
  refine ⟨_, rfl, _, m_X8_same (J := J) (u := u) x1 a.hJ x2 a.hC x3 a.1.2.2.2.2.2.1 x4, fun v' h2 g2 hp2 => ⟨?_, J, C, u, n, nx, ct, zI_ask zk_q_rf hp2.2.2.1 a⟩⟩
  have e3 : zc_cnt (fun c => decide (h1 15 c = h1 25 c)) C = zc_cnt (fun c => decide (zmB h1 80 c = (zo_all (zτM h1 80 J C u) (zδ0M h1)).2.2.2.2.1 c)) C := zc_cnt_congr (fun c hc => by
    have z : h1 15 c = zmB h1 80 c := a.de.2.2.2.1 c hc
    rw [z, a.1.2.2.2.2.2.2.2.2.2.2.2.2.2.2 c hc])
  rw [e3]; exact hp2.1
theorem zy_anew (a : zI h J C u n nx ct) {x : Int32} : zy_two l E yX7_anew cX7_anew 2 1 yX8_anew cX8_anew 2 8 (some .int) [.int x] h := by
  intro g
  refine ⟨_, m_X7_anew a.1.2.2.1 a.hC, fun v h1 g1 hp => ?_⟩
  obtain ⟨rfl, rfl, rfl⟩ := hp
  obtain ⟨x1, x2, x3, x4⟩ := zI_m a rfl
  refine ⟨_, rfl, _, m_X8_anew (J := J) (u := u) x1 a.hJ x2 a.hC x3 a.1.2.2.2.2.2.1 x4, fun v' h2 g2 hp2 => ⟨?_, J, C, u, n, nx, ct, zI_ask zk_q_rf hp2.2.2.1 a⟩⟩
  rw [hp2.1]
  by_cases hz : zz_in x C = true
  · have hC := a.hC
    obtain ⟨c, hc, ec⟩ := zz_in_ex hz (by omega)
    rw [if_pos hz, if_pos hz, a.1.2.2.2.2.2.2.2.2.2.2.2.2.2.2 _ (by rw [ec, nI_clamp (by omega)]; exact hc)]
  · rw [if_neg hz, if_neg hz]
theorem zy_drawAll (a : zI h J C u n nx ct) : zy_two l E yX7_drawAll cX7_drawAll 2 6 yX8_drawAll cX8_drawAll 2 7 (some .int) [] h := by
  intro g
  refine ⟨_, m_X7_drawAll a.1.1 a.hJ a.1.2.2.1 a.hC a.1.2.2.2.2.1 a.1.2.2.2.2.2.1 a.1.hT a.2.2.2.1.2.2.1 a.2.2.2.1.1 a.2.2.2.1.2.2.2.1 a.2.2.2.1.2.1, fun v h1 g1 hp => ?_⟩
  obtain ⟨p1, p2, p3, p4⟩ := hp
  have e80 := p3 80 (by omega)
  obtain ⟨x1, x2, x3, x4⟩ := zI_m a e80
  refine ⟨_, p2, _, m_X8_drawAll (J := J) (u := u) (ct := ct) x1 a.hJ x2 a.hC x3 a.1.2.2.2.2.2.1 x4 (by rw [p3 78 (by omega)]; exact a.2.2.2.1.2.2.2.2.1) a.2.2.2.1.2.1, fun v' h2 g2 hp2 => ?_⟩
  obtain ⟨r1, r2, r3, r4⟩ := hp2
  rw [zτM_congr e80, zδM_congr e80] at r2 r4
  obtain ⟨w1, w2⟩ := zo_all_e a.te a.de
  rw [← w1] at r2 r4
  refine ⟨r2, ?_⟩
  by_cases h0 : (zo_all (zτC h J C u) (zδC h 13)).1 = 0
  · rw [if_pos h0] at p4 r4
    exact ⟨J, C, u, n, nx, ct, zI_stay a p3 p4 r3 r4⟩
  · rw [if_neg h0] at p4 r4
    exact ⟨J, C, u, n, _, _, zI_keep a p3 p4 r3 r4.1 r4.2.1 r4.2.2 w2 a.2.1.2⟩
theorem zy_undo (a : zI h J C u n nx ct) : zy_two l E yX7_undo cX7_undo 1 4 yX8_undo cX8_undo 1 1 (some .int) [] h := by
  intro g
  refine ⟨_, m_X7_undo a.2.2.2.1.2.2.1 a.2.2.2.1.1 a.2.2.2.1.2.2.2.1 a.2.2.2.1.2.1, fun v h1 g1 hp => ?_⟩
  obtain ⟨p1, p2⟩ := hp
  by_cases h0 : ct = 0
  · rw [if_pos h0] at p2
    obtain ⟨p3, rfl⟩ := p2
    obtain ⟨x1, x2, _, _⟩ := zI_m a rfl
    refine ⟨_, p3, _, m_X8_undo (J := J) (u := u) (ct := ct) x1 a.hJ x2 a.hC a.2.2.2.1.2.2.2.2.1 a.2.2.2.1.2.1, fun v' h2 g2 hp2 => ?_⟩
    obtain ⟨r1, r2, r3⟩ := hp2
    rw [if_pos h0] at r3
    exact ⟨r3.1, J, C, u, n, nx, ct, zI_stay a (fun _ _ => rfl) ⟨rfl, rfl, rfl, fun _ _ _ _ => rfl⟩ r2 r3.2⟩
  · rw [if_neg h0] at p2
    obtain ⟨p3, p4, p5, p6, p7⟩ := p2
    have e80 := p4 80 (by decide) (by decide) (by decide) (by decide) (by decide)
    have e78 := p4 78 (by decide) (by decide) (by decide) (by decide) (by decide)
    obtain ⟨x1, x2, _, _⟩ := zI_m a e80
    refine ⟨_, p3, _, m_X8_undo (J := J) (u := u) (ct := ct) x1 a.hJ x2 a.hC (by rw [e78]; exact a.2.2.2.1.2.2.2.2.1) a.2.2.2.1.2.1, fun v' h2 g2 hp2 => ?_⟩
    obtain ⟨r1, r2, r3⟩ := hp2
    rw [if_neg h0] at r3
    exact ⟨r3.1, J, C, u, n, _, _, zI_undo a h0 p4 p5 p6 p7 r2 r3.2.1 r3.2.2.1 r3.2.2.2⟩
end ZY
