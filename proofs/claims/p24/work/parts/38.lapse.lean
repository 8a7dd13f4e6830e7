section LAPSE
abbrev cm (q : S3) (m : Nat) (w : S7) : S7 := F_X5_closeMonth q.1 q.2.1 q.2.2 w (nI m)
/-- d closings, and no lapse -/
def Sv (q : S3) : Nat → Nat → S7 → Prop
  | 0, _, _ => True
  | d + 1, m, w => ¬ (cm q m w).1 = 2 ∧ Sv q d (m + 1) (cm q m w)
theorem nI_back (np i : Nat) : (nI np + nI (i + 1)) - 1 = nI (np + i) := by
  rw [nI_add, show np + (i + 1) = (np + i) + 1 from rfl, nI_pred]
theorem nI_nm1 {a : Nat} (h : a < 2 ^ 31) : ¬ nI a = -1 := fun z => by
  have h1 := nI_toInt h
  rw [z, km1] at h1
  omega
theorem lap_iff {q : S3} {np : Nat} : ∀ (d i : Nat) (w : S7) (dn : Nat → Bool), np + i + d ≤ 240 → ((Lp_X5_lapse q.1 q.2.1 q.2.2 np d i w dn).1 = -1 ↔ Sv q d (np + i) w) := by
  intro d
  induction d with
  | zero => intro i w dn _; exact ⟨fun _ => trivial, fun _ => rfl⟩
  | succ d ih =>
    intro i w dn h
    rw [Lp_X5_lapse, Sv, nI_back]
    by_cases e : (F_X5_closeMonth q.1 q.2.1 q.2.2 w (nI (np + i))).1 = 2
    · rw [if_pos e]
      constructor
      · intro z
        have z2 : nI np + nI (i + 1) = -1 := z
        rw [nI_add] at z2
        exact absurd z2 (nI_nm1 (by omega))
      · intro z
        exact absurd e z.1
    · rw [if_neg e]
      have h2 := ih (i + 1) (F_X5_closeMonth q.1 q.2.1 q.2.2 w (nI (np + i))) dn (by omega)
      exact ⟨fun z => ⟨e, h2.mp z⟩, fun z => h2.mpr z.2⟩
theorem lap_sim {q : S3} {g s k : Int} (C : Cfg q g s k) {np j : Nat} (hj : j ≤ 61) : ∀ (d i : Nat) (v w : S7) (dn : Nat → Bool), np + i + d ≤ 240 → Rs (np + i) v w → Bd s g (np + i) j w → (Lp_X4_firstLapsed q np d i v).1 = (Lp_X5_lapse q.1 q.2.1 q.2.2 np d i w dn).1 := by
  intro d
  induction d with
  | zero => intro i v w dn _ _ _; rfl
  | succ d ih =>
    intro i v w dn h R B
    rw [Lp_X4_firstLapsed, Lp_X5_lapse, nI_back]
    obtain ⟨R', B'⟩ := step_close C (m := np + i) (by omega) hj R B
    have e := R'.1
    by_cases e2 : (F_X5_closeMonth q.1 q.2.1 q.2.2 w (nI (np + i))).1 = 2
    · rw [if_pos (e.trans e2), if_pos e2]
      show nI (np + i) + 1 = nI np + nI (i + 1)
      rw [nI_add, nI_1]
      rfl
    · rw [if_neg (fun z => e2 (e.symm.trans z)), if_neg e2]
      exact ih (i + 1) _ _ dn (by omega) R' B'
/-- a live policy's numbers -/
def St (s g : Int) (m : Nat) (w : S7) (ac ln ar gr : Int) : Prop := w.2.1.toInt = ac ∧ w.2.2.1.toInt = ln ∧ w.2.2.2.1.toInt = ar ∧ w.2.2.2.2.1.toInt = gr ∧ (w.1 = 0 ∨ w.1 = 1) ∧ 0 ≤ gr ∧ gr ≤ 2 ∧ ar ≤ gr * zub s (zage g m) ac ∧ 0 ≤ ac ∧ ac ≤ 400000000 ∧ 0 ≤ ln ∧ ln ≤ 400000000 ∧ 0 ≤ ar ∧ ar ≤ 4000000
-- what the numbers do
theorem zint_mono {a b n : Int} (h : a ≤ b) : zint a n ≤ zint b n := by
  unfold zint
  (repeat' split) <;> omega
theorem zfree_next {a n : Int} (a0 : 0 ≤ a) (n0 : 0 ≤ n) : zfree (a + zint a n) (n + 5 * n / 1200) ≤ zfree a n + zfree a n / 300 + 2 := by
  unfold zfree zint
  split
  · split <;> omega
  · split
    · split <;> omega
    · split <;> omega
theorem zfree_up {a b n c : Int} (h : a ≤ b) (c0 : 1 ≤ c) (hc : c ≤ zfree a n) : zfree b n = zfree a n + (b - a) := by
  unfold zfree at hc ⊢
  split at hc
  · omega
  · rw [if_neg (by omega), if_neg (by omega)]
    omega
theorem zch_lo {s k g a : Int} (h0 : 0 ≤ a) (hs : 100000 ≤ s) (hg : g ≤ 90) : zub s g a / 150 + 4 ≤ zch s k g a := by
  have r := zrate_b hg
  have u0 := zU_pos (a := a) hs
  have hR : zU s a ≤ 40 * (zds s k g a - a) + 40 := by
    obtain ⟨e1, e2⟩ := zac_b h0 g
    unfold zds zU
    generalize a * zcor g = P at e1 e2 ⊢
    split <;> split <;> split <;> omega
  have h1 := Int.mul_le_mul_of_nonneg_right hR (show 0 ≤ zrate g by omega)
  have h2 : 0 ≤ zU s a * zrate g := Int.mul_nonneg (by omega) (by omega)
  rw [Int.add_mul, Int.mul_assoc] at h1
  unfold zub zch
  generalize zU s a * zrate g = X at h1 h2 ⊢
  generalize (zds s k g a - a) * zrate g = Y at h1 ⊢
  omega
theorem zch_lip {s k g a b : Int} (h0 : 0 ≤ a) (hab : a ≤ b) (hg : g ≤ 90) : zch s k g b ≤ zch s k g a + (b - a) := by
  have r := zrate_b hg
  obtain ⟨c1, c2⟩ := zcor_b g
  have hR : zds s k g b - b ≤ (zds s k g a - a) + 4 * (b - a) := by
    have e1 := Int.mul_le_mul_of_nonneg_left c1 (show 0 ≤ b - a by omega)
    have e2 := Int.mul_le_mul_of_nonneg_left c2 (show 0 ≤ b - a by omega)
    have e3 : b * zcor g = a * zcor g + (b - a) * zcor g := by
      rw [← Int.add_mul]
      congr 1
      omega
    unfold zds
    rw [e3]
    generalize (b - a) * zcor g = Q at e1 e2 ⊢
    generalize a * zcor g = P
    split <;> split <;> split <;> omega
  have h1 := Int.mul_le_mul_of_nonneg_right hR (show 0 ≤ zrate g by omega)
  have h2 : (b - a) * zrate g ≤ (b - a) * 130 := Int.mul_le_mul_of_nonneg_left r.2 (by omega)
  rw [Int.add_mul, Int.mul_assoc] at h1
  unfold zch
  generalize (b - a) * zrate g = Z at h1 h2
  generalize (zds s k g b - b) * zrate g = X at h1 ⊢
  generalize (zds s k g a - a) * zrate g = Y at h1 ⊢
  omega
/-- who can't pay now can't pay the next time -/
theorem fail_num {c ar U0 U1 c' f f' gr : Int} (g0 : gr = 0 ∨ gr = 1) (hf : f < c + ar) (hc : c ≤ U0) (har : ar ≤ gr * U0) (hU : U0 ≤ U1) (hc' : U1 / 150 + 4 ≤ c') (hf' : f' ≤ f + f / 300 + 2) (u0 : 0 ≤ U0) : f' < c' + (ar + c) := by
  rcases g0 with rfl | rfl <;> omega
section
variable {q : S3} {g s k : Int}
theorem st_of (C : Cfg q g s k) {m j : Nat} {w : S7} (hm : m ≤ 240) (hj : j ≤ 61) (B : Bd s g m j w) (h : w.1 = 0 ∨ w.1 = 1) : ∃ ac ln ar gr : Int, St s g m w ac ln ar gr := by
  obtain ⟨y1, y2⟩ := zage_b C hm
  obtain ⟨-, -, -, -, -, c6, c7, -⟩ := C
  obtain ⟨ac, ln, ar, gr, lm, b1, b2, b3, b4, b5, b6, b7, b8, b9, b10, b11⟩ := B
  have hL := zL_b hm
  have hub := zub_b (g := zage g m) (a := ac) c6 c7 y2 (by omega)
  obtain ⟨s1, s2, s3⟩ := live_le h
  rcases b11 with ⟨h9, h1, h2⟩ | ⟨h9, ⟨h1, h2⟩ | ⟨h1, h2⟩⟩ | ⟨h9, -⟩ | h9
  · exact ⟨ac, ln, ar, gr, b1, b2, b3, b4, h, by omega, by omega, by rw [h2]; omega, b6, by omega, b8, by omega, b10, by omega⟩
  · exact ⟨ac, ln, ar, gr, b1, b2, b3, b4, h, by omega, by omega, by rw [h1]; omega, b6, by omega, b8, by omega, b10, by omega⟩
  · exact ⟨ac, ln, ar, gr, b1, b2, b3, b4, h, by omega, by omega, by rw [h1]; omega, b6, by omega, b8, by omega, b10, by omega⟩
  · exact absurd h9 s2
  · exact absurd h9 s3
theorem st_as (C : Cfg q g s k) {m j : Nat} {w : S7} (hm : m ≤ 240) (hj : j ≤ 61) (B : Bd s g m j w) (h : w.1 = 0 ∨ w.1 = 1) {a1 a2 a3 a4 : Int} (h1 : w.2.1.toInt = a1) (h2 : w.2.2.1.toInt = a2) (h3 : w.2.2.2.1.toInt = a3) (h4 : w.2.2.2.2.1.toInt = a4) : St s g m w a1 a2 a3 a4 := by
  obtain ⟨x1, x2, x3, x4, T⟩ := st_of C hm hj B h
  obtain ⟨z1, z2, z3, z4, -⟩ := id T
  rw [h1] at z1
  rw [h2] at z2
  rw [h3] at z3
  rw [h4] at z4
  rw [z1, z2, z3, z4]
  exact T
theorem cl_st (C : Cfg q g s k) {m j : Nat} {v w : S7} (hm : m + 1 ≤ 240) (hj : j ≤ 61) (R : Rs m v w) (B : Bd s g m j w) {ac ln ar gr : Int} (T : St s g m w ac ln ar gr) :
    (zch s k (zage g m) ac + ar ≤ zfree ac ln ∧ ¬ (cm q m w).1 = 2 ∧ St s g (m + 1) (cm q m w) ((ac - (zch s k (zage g m) ac + ar)) + zint (ac - (zch s k (zage g m) ac + ar)) ln) (ln + 5 * ln / 1200) 0 0) ∨
    (zfree ac ln < zch s k (zage g m) ac + ar ∧ ¬ gr = 2 ∧ ¬ (cm q m w).1 = 2 ∧ St s g (m + 1) (cm q m w) (ac + zint ac ln) (ln + 5 * ln / 1200) (ar + zch s k (zage g m) ac) (gr + 1)) ∨
    (zfree ac ln < zch s k (zage g m) ac + ar ∧ gr = 2 ∧ (cm q m w).1 = 2) := by
  obtain ⟨t1, t2, t3, t4, t5, t6, t7, t8, t9, t10, t11, t12, t13, t14⟩ := T
  obtain ⟨L1, -, -⟩ := lc_model C (m := m) (by omega) t5 t1 t2 t3 t4 t9 t10 t11 t12 t13 t14 t6 t7
  obtain ⟨-, B'⟩ := step_close C (m := m) (j := j) hm hj R B
  rcases L1 with ⟨u0, u1, u2, u3, u4, u5⟩ | ⟨u0, u9, u1, u2, u3, u4, u5⟩ | ⟨u0, u9, u1, -⟩
  · refine Or.inl ⟨u0, fun z => absurd (u1.symm.trans z) (by decide), ?_⟩
    exact st_as C (by omega) hj B' (Or.inl u1) u2 u3 u4 u5
  · refine Or.inr (Or.inl ⟨u0, u9, fun z => absurd (u1.symm.trans z) (by decide), ?_⟩)
    exact st_as C (by omega) hj B' (Or.inr u1) u2 u3 u4 u5
  · exact Or.inr (Or.inr ⟨u0, u9, u1⟩)
theorem sv_easy (C : Cfg q g s k) {j : Nat} (hj : j ≤ 61) : ∀ (d m : Nat) (v w : S7) (ac ln ar gr : Int), m + d ≤ 240 → Rs m v w → Bd s g m j w → St s g m w ac ln ar gr → gr + d ≤ 2 → Sv q d m w := by
  intro d
  induction d with
  | zero => intro m v w ac ln ar gr _ _ _ _ _; trivial
  | succ d ih =>
    intro m v w ac ln ar gr hm R B T h
    obtain ⟨R', B'⟩ := step_close C (m := m) (j := j) (by omega) hj R B
    rcases cl_st C (by omega) hj R B T with ⟨-, u1, u2⟩ | ⟨-, -, u1, u2⟩ | ⟨-, u1, -⟩
    · exact ⟨u1, ih (m + 1) _ _ _ _ _ _ (by omega) R' B' u2 (by have := T.2.2.2.2.2.1; omega)⟩
    · exact ⟨u1, ih (m + 1) _ _ _ _ _ _ (by omega) R' B' u2 (by omega)⟩
    · omega
theorem fail_next (C : Cfg q g s k) {m : Nat} {w : S7} (hm : m + 1 ≤ 240) {ac ln ar gr : Int} (T : St s g m w ac ln ar gr) (hf : zfree ac ln < zch s k (zage g m) ac + ar) (hg : ¬ gr = 2) :
    zfree (ac + zint ac ln) (ln + 5 * ln / 1200) < zch s k (zage g (m + 1)) (ac + zint ac ln) + (ar + zch s k (zage g m) ac) := by
  obtain ⟨t1, t2, t3, t4, t5, t6, t7, t8, t9, t10, t11, t12, t13, t14⟩ := T
  obtain ⟨y1, y2⟩ := zage_b C (m := m) (by omega)
  obtain ⟨y3, y4⟩ := zage_b C (m := m + 1) hm
  have hg1 := zage_mono g m
  obtain ⟨-, -, -, -, -, c6, c7, -⟩ := C
  have hz := zint_b t9 t11
  have hub := zub_b (g := zage g m) (a := ac) c6 c7 y2 t10
  have hm9 := zub_mono (s := s) (a := ac) (a' := ac + zint ac ln) c6 hg1 y4 (by omega)
  exact fail_num (by omega) hf (zch_ub t9 c6 y2) t8 hm9 (zch_lo (by omega) c6 y4) (zfree_next t9 t11) (by omega)
theorem sv_fail (C : Cfg q g s k) {j : Nat} (hj : j ≤ 61) : ∀ (d m : Nat) (v w : S7) (ac ln ar gr : Int), m + d ≤ 240 → Rs m v w → Bd s g m j w → St s g m w ac ln ar gr → zfree ac ln < zch s k (zage g m) ac + ar → Sv q d m w → gr + d ≤ 2 := by
  intro d
  induction d with
  | zero => intro m v w ac ln ar gr _ _ _ T _ _; have := T.2.2.2.2.2.2.1; omega
  | succ d ih =>
    intro m v w ac ln ar gr hm R B T hf h
    obtain ⟨R', B'⟩ := step_close C (m := m) (j := j) (by omega) hj R B
    rcases cl_st C (by omega) hj R B T with ⟨u0, -⟩ | ⟨-, u0, u1, u2⟩ | ⟨-, -, u1⟩
    · omega
    · have := ih (m + 1) _ _ _ _ _ _ (by omega) R' B' u2 (fail_next C (by omega) T hf u0) h.2
      omega
    · exact absurd u1 h.1
/-- the better of two policies holds as long -/
def Ge (la aa ra ga lb ab rb gb : Int) : Prop := la = lb ∧ ga ≤ gb ∧ ra ≤ rb ∧ (aa = ab ∨ (ra = 0 ∧ ab ≤ aa))
theorem sv_mono (C : Cfg q g s k) {j : Nat} (hj : j ≤ 61) : ∀ (d m : Nat) (v w v' w' : S7) (ac ln ar gr ac' ln' ar' gr' : Int), m + d ≤ 240 → Rs m v w → Bd s g m j w → St s g m w ac ln ar gr → Rs m v' w' → Bd s g m j w' → St s g m w' ac' ln' ar' gr' → Ge ln' ac' ar' gr' ln ac ar gr → Sv q d m w → Sv q d m w' := by
  intro d
  induction d with
  | zero => intros; trivial
  | succ d ih =>
    intro m v w v' w' ac ln ar gr ac' ln' ar' gr' hm R B T R' B' T' hG h
    obtain ⟨R1, B1⟩ := step_close C (m := m) (j := j) (by omega) hj R B
    obtain ⟨R1', B1'⟩ := step_close C (m := m) (j := j) (by omega) hj R' B'
    obtain ⟨y1, y2⟩ := zage_b C (m := m) (by omega)
    have hC := C
    obtain ⟨-, -, -, -, -, c6, c7, -⟩ := hC
    by_cases hf : zfree ac ln < zch s k (zage g m) ac + ar
    · have h1 := sv_fail C hj (d + 1) m v w ac ln ar gr hm R B T hf h
      have hg := hG.2.1
      exact sv_easy C hj (d + 1) m v' w' ac' ln' ar' gr' hm R' B' T' (by omega)
    · obtain ⟨g1, g2, g3, g4⟩ := hG
      subst g1
      have h9 := zch_b (k := k) T.2.2.2.2.2.2.2.2.1 T.2.2.2.2.2.2.2.2.2.1 c6 c7 y2
      have a0 : 0 ≤ ac := T.2.2.2.2.2.2.2.2.1
      have r0 : 0 ≤ ar := T.2.2.2.2.2.2.2.2.2.2.2.2.1
      have hpay : zch s k (zage g m) ac' + ar' ≤ zfree ac' ln' ∧ ac - (zch s k (zage g m) ac + ar) ≤ ac' - (zch s k (zage g m) ac' + ar') := by
        rcases g4 with e | ⟨e1, e2⟩
        · rw [e]
          omega
        · have h2 := zch_lip (s := s) (k := k) a0 e2 y2
          have h3 := zfree_up (n := ln') (c := zch s k (zage g m) ac + ar) e2 (by omega) (by omega)
          omega
      rcases cl_st C (by omega) hj R B T with ⟨u0, u1, u2⟩ | ⟨u0, -⟩ | ⟨u0, -⟩
      · rcases cl_st C (by omega) hj R' B' T' with ⟨p0, p1, p2⟩ | ⟨p0, -⟩ | ⟨p0, -⟩
        · have hz := zint_mono (n := ln') hpay.2
          exact ⟨p1, ih (m + 1) _ _ _ _ _ _ _ _ _ _ _ _ (by omega) R1 B1 u2 R1' B1' p2 ⟨rfl, Int.le_refl _, Int.le_refl _, Or.inr ⟨rfl, by omega⟩⟩ h.2⟩
        · omega
        · omega
      · exact absurd u0 hf
      · exact absurd u0 hf
/-- a premium of p -/
def pr (w : S7) (p : Nat) : S7 := if nI p ≤ 0 then w else (F_X5_premium w (nI p)).2
def prc (v : S7) (p : Nat) : S7 := if nI p ≤ 0 then v else (F_X3_takePremium v (nI p)).2
theorem nI_le0 {p : Nat} (h : p < 2 ^ 31) : nI p ≤ 0 ↔ p = 0 := by
  rw [le32 (nI_toInt h) k0]
  omega
theorem pr_RB (C : Cfg q g s k) {m j : Nat} (hm : m ≤ 240) (hj : j ≤ 60) {v w : S7} (R : Rs m v w) (B : Bd s g m j w) {p : Nat} (hp : p ≤ 2000000) : Rs m (prc v p) (pr w p) ∧ Bd s g m (j + 1) (pr w p) := by
  unfold prc pr
  by_cases h : nI p ≤ 0
  · rw [if_pos h, if_pos h]
    exact ⟨R, B.next⟩
  · rw [if_neg h, if_neg h]
    rw [nI_le0 (by omega)] at h
    obtain ⟨-, t2, t3⟩ := sa_premium C hm hj R B (nI_toInt (n := p) (by omega)) (by omega) (by omega)
    exact ⟨t2, t3⟩
theorem pr_St (C : Cfg q g s k) {m j : Nat} (hm : m ≤ 240) (hj : j ≤ 60) {v w : S7} (R : Rs m v w) (B : Bd s g m j w) {p : Nat} (hp : p ≤ 2000000) {ac ln ar gr : Int} (T : St s g m w ac ln ar gr) :
    (ar ≤ p ∧ St s g m (pr w p) (ac + (p - ar)) ln 0 0) ∨ (p ≤ ar ∧ St s g m (pr w p) ac ln (ar - p) gr) := by
  obtain ⟨-, B'⟩ := pr_RB C hm hj R B hp
  obtain ⟨t1, t2, t3, t4, t5, t6, t7, t8, t9, t10, t11, t12, t13, t14⟩ := id T
  obtain ⟨s1, s2, s3⟩ := live_le t5
  have hx := nI_toInt (n := p) (by omega)
  by_cases h : nI p ≤ 0
  · right
    rw [nI_le0 (by omega)] at h
    subst h
    refine ⟨by omega, ?_⟩
    rw [show ar - ((0 : Nat) : Int) = ar by omega]
    unfold pr
    rw [if_pos (by rw [nI_le0 (by omega)])]
    exact T
  · have e : pr w p = (F_X5_premium w (nI p)).2 := if_neg h
    rw [nI_le0 (by omega)] at h
    rw [e] at B' ⊢
    unfold F_X5_premium at B' ⊢
    rw [if_pos s1] at B' ⊢
    by_cases h2 : ar ≤ p
    · left
      rw [if_pos ((le32 t3 hx).mpr h2), Int32.sub_self, if_pos rfl] at B' ⊢
      refine ⟨h2, st_as C hm (by omega) B' (Or.inl rfl) (a32 t1 (s32 hx t3 (by omega) (by omega)) (by omega) (by omega)) t2 k0 k0⟩
    · right
      rw [if_neg (fun z => h2 ((le32 t3 hx).mp z)), if_neg (fun z => by have := (eq32 (s32 t3 hx (by omega) (by omega)) k0).mp z; omega), Int32.sub_self] at B' ⊢
      have e0 : ac + 0 = ac := by omega
      have e1 := a32 t1 k0 (by omega) (by omega)
      rw [e0] at e1
      refine ⟨by omega, st_as C hm (by omega) B' t5 e1 t2 (s32 t3 hx (by omega) (by omega)) t4⟩
theorem pr_mono (C : Cfg q g s k) {m j d : Nat} (hm : m + d ≤ 240) (hj : j ≤ 60) {v w : S7} (R : Rs m v w) (B : Bd s g m j w) (hl : w.1 = 0 ∨ w.1 = 1) {p p' : Nat} (hp : p' ≤ 2000000) (h : p ≤ p') (hs : Sv q d m (pr w p)) : Sv q d m (pr w p') := by
  by_cases e : p = p'
  · rw [← e]
    exact hs
  · obtain ⟨ac, ln, ar, gr, T⟩ := st_of C (by omega) (by omega) B hl
    obtain ⟨R1, B1⟩ := pr_RB C (m := m) (by omega) hj R B (p := p) (by omega)
    obtain ⟨R2, B2⟩ := pr_RB C (m := m) (by omega) hj R B (p := p') hp
    have g0 := T.2.2.2.2.2.1
    rcases pr_St C (m := m) (by omega) hj R B (p := p) (by omega) T with ⟨a1, a2⟩ | ⟨a1, a2⟩
    · rcases pr_St C (m := m) (by omega) hj R B (p := p') hp T with ⟨b1, b2⟩ | ⟨b1, b2⟩
      · exact sv_mono C (by omega) d m _ _ _ _ _ _ _ _ _ _ _ _ hm R1 B1 a2 R2 B2 b2 ⟨rfl, Int.le_refl _, Int.le_refl _, Or.inr ⟨rfl, by omega⟩⟩ hs
      · omega
    · rcases pr_St C (m := m) (by omega) hj R B (p := p') hp T with ⟨b1, b2⟩ | ⟨b1, b2⟩
      · exact sv_mono C (by omega) d m _ _ _ _ _ _ _ _ _ _ _ _ hm R1 B1 a2 R2 B2 b2 ⟨rfl, by omega, by omega, Or.inr ⟨rfl, by omega⟩⟩ hs
      · exact sv_mono C (by omega) d m _ _ _ _ _ _ _ _ _ _ _ _ hm R1 B1 a2 R2 B2 b2 ⟨rfl, Int.le_refl _, by omega, Or.inl rfl⟩ hs
end
end LAPSE
