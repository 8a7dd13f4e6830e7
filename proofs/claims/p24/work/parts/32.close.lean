section CLOSE
def zL : Nat → Int
  | 0 => 122000000
  | m + 1 => zL m + 5 * zL m / 1200
theorem zL_pos (m : Nat) : 0 ≤ zL m := by
  induction m with
  | zero => show (0 : Int) ≤ 122000000; omega
  | succ m ih => show 0 ≤ zL m + 5 * zL m / 1200; omega
theorem zL_mono1 (m : Nat) : zL m ≤ zL (m + 1) := by
  have := zL_pos m
  show zL m ≤ zL m + 5 * zL m / 1200
  omega
theorem zL_mono {a b : Nat} (h : a ≤ b) : zL a ≤ zL b := by
  induction h with
  | refl => exact Int.le_refl _
  | step _ ih => exact Int.le_trans ih (zL_mono1 _)
theorem zL_240 : zL 240 ≤ 400000000 := by decide +kernel
theorem zL_b {m : Nat} (hm : m ≤ 240) : zL m ≤ 400000000 := Int.le_trans (zL_mono hm) zL_240
def zU (s a : Int) : Int := if s < 3 * a / 2 then 3 * a / 2 else s
def zub (s g a : Int) : Int := 500 + zU s a * zrate g / 100000
theorem zds_risk {s k a : Int} (g : Int) (h0 : 0 ≤ a) (hs : 100000 ≤ s) : zds s k g a - a ≤ zU s a := by
  obtain ⟨e1, e2⟩ := zac_b h0 g
  unfold zds zU
  generalize a * zcor g = P at e1 e2 ⊢
  split <;> split <;> split <;> omega
theorem zU_pos {s a : Int} (hs : 100000 ≤ s) : 100000 ≤ zU s a := by
  unfold zU
  split <;> omega
theorem zU_mono {s a b : Int} (h : a ≤ b) : zU s a ≤ zU s b := by
  unfold zU
  split <;> split <;> omega
theorem zch_ub {s k g a : Int} (h0 : 0 ≤ a) (hs : 100000 ≤ s) (hg : g ≤ 90) : zch s k g a ≤ zub s g a := by
  have r := zrate_b hg
  have h1 := Int.mul_le_mul_of_nonneg_right (zds_risk (k := k) g h0 hs) (show 0 ≤ zrate g by omega)
  have h2 := Int.ediv_le_ediv (show (0 : Int) < 100000 by omega) h1
  unfold zch zub
  omega
theorem zub_mono {s g g' a a' : Int} (hs : 100000 ≤ s) (hg : g ≤ g') (hg' : g' ≤ 90) (ha : a ≤ a') : zub s g a ≤ zub s g' a' := by
  have r := zrate_b hg'
  have r0 := zrate_b (Int.le_trans hg hg')
  have h1 := Int.mul_le_mul_of_nonneg_left (zrate_mono hg) (show 0 ≤ zU s a by have := zU_pos (a := a) hs; omega)
  have h2 := Int.mul_le_mul_of_nonneg_right (zU_mono (s := s) ha) (show 0 ≤ zrate g' by omega)
  have h3 := Int.ediv_le_ediv (show (0 : Int) < 100000 by omega) (Int.le_trans h1 h2)
  unfold zub
  omega
theorem zub_b {s g a : Int} (hs : 100000 ≤ s) (hs2 : s ≤ 50000000) (hg : g ≤ 90) (ha : a ≤ 400000000) : 500 ≤ zub s g a ∧ zub s g a ≤ 780500 := by
  have r := zrate_b hg
  have u0 := zU_pos (a := a) hs
  have u1 : zU s a ≤ 600000000 := by
    unfold zU
    split <;> omega
  have h0 : 0 ≤ zU s a * zrate g := Int.mul_nonneg (by omega) (by omega)
  have h1 := Int.mul_le_mul_of_nonneg_right u1 (show 0 ≤ zrate g by omega)
  unfold zub
  omega
/-- what the closing of a month does to a live policy -/
def LC (c ac ln ar gr : Int) (v : S7) : Prop :=
  (c + ar ≤ zfree ac ln ∧ v.1 = 0 ∧ v.2.1.toInt = (ac - (c + ar)) + zint (ac - (c + ar)) ln ∧ v.2.2.1.toInt = ln + 5 * ln / 1200 ∧ v.2.2.2.1.toInt = 0 ∧ v.2.2.2.2.1.toInt = 0) ∨
  (zfree ac ln < c + ar ∧ ¬ gr = 2 ∧ v.1 = 1 ∧ v.2.1.toInt = ac + zint ac ln ∧ v.2.2.1.toInt = ln + 5 * ln / 1200 ∧ v.2.2.2.1.toInt = ar + c ∧ v.2.2.2.2.1.toInt = gr + 1) ∨
  (zfree ac ln < c + ar ∧ gr = 2 ∧ v.1 = 2 ∧ v.2.1.toInt = 0 ∧ v.2.2.1.toInt = 0 ∧ v.2.2.2.1.toInt = ar + c ∧ v.2.2.2.2.1.toInt = 0)
theorem zfree_le {a n : Int} (ha : 0 ≤ a) (hn : 0 ≤ n) : zfree a n ≤ a := by
  unfold zfree
  split <;> omega
theorem live_le {x : Int32} (h : x = 0 ∨ x = 1) : x ≤ 1 ∧ ¬ x = 2 ∧ ¬ x = 3 := by
  rcases h with rfl | rfl <;> decide
theorem lc_model {q : S3} {g s k : Int} (C : Cfg q g s k) {m : Nat} (hm : m ≤ 240) {w : S7} (hst : w.1 = 0 ∨ w.1 = 1) {ac ln ar gr : Int} (ha : w.2.1.toInt = ac) (hn : w.2.2.1.toInt = ln) (hr : w.2.2.2.1.toInt = ar) (hg : w.2.2.2.2.1.toInt = gr)
    (a0 : 0 ≤ ac) (a1 : ac ≤ 400000000) (n0 : 0 ≤ ln) (n1 : ln ≤ 400000000) (r0 : 0 ≤ ar) (r1 : ar ≤ 4000000) (g0 : 0 ≤ gr) (g1 : gr ≤ 2) :
    LC (zch s k (zage g m) ac) ac ln ar gr (F_X5_closeMonth q.1 q.2.1 q.2.2 w (nI m)) ∧ (F_X5_closeMonth q.1 q.2.1 q.2.2 w (nI m)).2.2.2.2.2.2 = w.2.2.2.2.2.2 ∧ ((F_X5_closeMonth q.1 q.2.1 q.2.2 w (nI m)).1 = 2 → (F_X5_closeMonth q.1 q.2.1 q.2.2 w (nI m)).2.2.2.2.2.1 = 0) := by
  obtain ⟨s1, s2, s3⟩ := live_le hst
  have hc := v_chargeIn C hm ha a0 a1
  obtain ⟨y1, y2⟩ := zage_b C hm
  obtain ⟨-, -, -, -, -, c6, c7, -⟩ := C
  obtain ⟨-, -, p3, p4⟩ := zch_b (k := k) a0 a1 c6 c7 y2
  have hf := v_free5 ha hn a0 a1 n0 n1
  have hcr := a32 hc hr (by omega) (by omega)
  have hle := zfree_le a0 n0
  unfold LC
  generalize hcc : zch s k (zage g m) ac = cc at hc hcr p3 p4 ⊢
  unfold F_X5_closeMonth
  rw [if_neg s2, if_pos s1]
  by_cases h : zfree ac ln < cc + ar
  · rw [if_pos ((lt32 hf hcr).mpr h)]
    by_cases h2 : gr = 2
    · rw [if_pos ((eq32 (a32 hg k1 (by omega) (by omega)) k3).mpr (by omega))]
      refine ⟨Or.inr (Or.inr ⟨h, h2, rfl, k0, k0, ?_, k0⟩), rfl, fun _ => rfl⟩
      exact a32 hr hc (by omega) (by omega)
    · rw [if_neg (fun z => by have := (eq32 (a32 hg k1 (by omega) (by omega)) k3).mp z; omega)]
      obtain ⟨t1, t2, t3, t4⟩ := v_earn (v := (1, w.2.1, w.2.2.1, (w.2.2.2.1 + (F_X5_chargeIn q.1 q.2.1 q.2.2 w (nI m))), (w.2.2.2.2.1 + 1), w.2.2.2.2.2.1, w.2.2.2.2.2.2)) rfl ha hn a0 a1 n0 n1
      refine ⟨Or.inr (Or.inl ⟨h, h2, t3, t1, t2, ?_, ?_⟩), ?_, ?_⟩
      · rw [t4]
        exact a32 hr hc (by omega) (by omega)
      · rw [t4]
        exact a32 hg k1 (by omega) (by omega)
      · rw [t4]
      · intro z
        rw [t3] at z
        exact absurd (show (1 : Int32) = 2 from z) (by decide)
  · rw [if_neg (fun z => h ((lt32 hf hcr).mp z))]
    obtain ⟨t1, t2, t3, t4⟩ := v_earn (v := (0, (w.2.1 - ((F_X5_chargeIn q.1 q.2.1 q.2.2 w (nI m)) + w.2.2.2.1)), w.2.2.1, 0, 0, w.2.2.2.2.2.1, w.2.2.2.2.2.2)) (a := ac - (cc + ar)) rfl (s32 ha hcr (by omega) (by omega)) hn (by omega) (by omega) n0 n1
    refine ⟨Or.inl ⟨by omega, t3, t1, t2, ?_, ?_⟩, ?_, ?_⟩
    · rw [t4]
      exact k0
    · rw [t4]
      exact k0
    · rw [t4]
    · intro z
      rw [t3] at z
      exact absurd (show (0 : Int32) = 2 from z) (by decide)
theorem live3 {v : S7} (h : v.1 = 0 ∨ v.1 = 1) : F_X3_isLive v = true := by
  unfold F_X3_isLive
  rcases h with h | h
  · rw [if_pos h]
  · rw [if_neg (by rw [h]; decide), if_pos h]
theorem notlive3 {v : S7} (h : v.1 = 2 ∨ v.1 = 3) : F_X3_isLive v = false := by
  unfold F_X3_isLive
  rcases h with h | h
  · rw [if_neg (show ¬ v.1 = 0 by rw [h]; decide), if_neg (show ¬ v.1 = 1 by rw [h]; decide)]
  · rw [if_neg (show ¬ v.1 = 0 by rw [h]; decide), if_neg (show ¬ v.1 = 1 by rw [h]; decide)]
theorem zint_00 : zint 0 0 = 0 := by decide
theorem lc_class {q : S3} {g s k : Int} (C : Cfg q g s k) {m : Nat} (hm : m ≤ 240) {w : S7} (hst : w.1 = 0 ∨ w.1 = 1) {ac ln ar gr : Int} (ha : w.2.1.toInt = ac) (hn : w.2.2.1.toInt = ln) (hr : w.2.2.2.1.toInt = ar) (hg : w.2.2.2.2.1.toInt = gr)
    (a0 : 0 ≤ ac) (a1 : ac ≤ 400000000) (n0 : 0 ≤ ln) (n1 : ln ≤ 400000000) (r0 : 0 ≤ ar) (r1 : ar ≤ 4000000) (g0 : 0 ≤ gr) (g1 : gr ≤ 2) :
    LC (zch s k (zage g m) ac) ac ln ar gr (F_X4_endMonth q w (nI m)) ∧ (F_X4_endMonth q w (nI m)).2.2.2.2.2.2 = w.2.2.2.2.2.2 ∧ ((F_X4_endMonth q w (nI m)).1 = 2 → (F_X4_endMonth q w (nI m)).2.2.2.2.2.1 = nI m + 1) := by
  have hc := v_chargeFor C hm ha a0 a1
  obtain ⟨y1, y2⟩ := zage_b C hm
  obtain ⟨-, -, -, -, -, c6, c7, -⟩ := C
  obtain ⟨-, -, p3, p4⟩ := zch_b (k := k) a0 a1 c6 c7 y2
  have hf := v_free3 ha hn a0 a1 n0 n1
  have hcr := a32 hc hr (by omega) (by omega)
  have hle := zfree_le a0 n0
  unfold LC
  generalize hcc : zch s k (zage g m) ac = cc at hc hcr p3 p4 ⊢
  unfold F_X4_endMonth
  rw [live3 hst, if_neg (show ¬ bI true = 0 by decide)]
  unfold F_X3_settle
  by_cases h : zfree ac ln < cc + ar
  · rw [if_pos ((lt32 hf hcr).mpr h)]
    by_cases h2 : gr = 2
    · rw [if_pos ((eq32 (a32 hg k1 (by omega) (by omega)) k3).mpr (by omega))]
      unfold F_X3_lapse
      obtain ⟨t1, t2, t3, t4⟩ := v_int (v := (2, 0, 0, (w.2.2.2.1 + (F_X2_chargeFor q w.2.1 (nI m))), 0, (nI m + 1), w.2.2.2.2.2.2)) rfl k0 k0 (by omega) (by omega) (by omega) (by omega)
      rw [zint_00] at t1
      refine ⟨Or.inr (Or.inr ⟨h, h2, t3, t1, t2, ?_, ?_⟩), ?_, fun _ => ?_⟩
      · rw [t4]
        exact a32 hr hc (by omega) (by omega)
      · rw [t4]
        exact k0
      · rw [t4]
      · rw [t4]
    · rw [if_neg (fun z => by have := (eq32 (a32 hg k1 (by omega) (by omega)) k3).mp z; omega)]
      obtain ⟨t1, t2, t3, t4⟩ := v_int (v := (1, w.2.1, w.2.2.1, (w.2.2.2.1 + (F_X2_chargeFor q w.2.1 (nI m))), (w.2.2.2.2.1 + 1), w.2.2.2.2.2.1, w.2.2.2.2.2.2)) rfl ha hn a0 a1 n0 n1
      refine ⟨Or.inr (Or.inl ⟨h, h2, t3, t1, t2, ?_, ?_⟩), ?_, ?_⟩
      · rw [t4]
        exact a32 hr hc (by omega) (by omega)
      · rw [t4]
        exact a32 hg k1 (by omega) (by omega)
      · rw [t4]
      · intro z
        rw [t3] at z
        exact absurd (show (1 : Int32) = 2 from z) (by decide)
  · rw [if_neg (fun z => h ((lt32 hf hcr).mp z))]
    unfold F_X3_putInForce
    obtain ⟨t1, t2, t3, t4⟩ := v_int (v := (0, (w.2.1 - ((F_X2_chargeFor q w.2.1 (nI m)) + w.2.2.2.1)), w.2.2.1, 0, 0, w.2.2.2.2.2.1, w.2.2.2.2.2.2)) (a := ac - (cc + ar)) rfl (s32 ha hcr (by omega) (by omega)) hn (by omega) (by omega) n0 n1
    refine ⟨Or.inl ⟨by omega, t3, t1, t2, ?_, ?_⟩, ?_, ?_⟩
    · rw [t4]
      exact k0
    · rw [t4]
      exact k0
    · rw [t4]
    · intro z
      rw [t3] at z
      exact absurd (show (0 : Int32) = 2 from z) (by decide)
/-- the class's standing v and the model's w, in month m -/
def Rs (m : Nat) (v w : S7) : Prop := v.1 = w.1 ∧ v.2.1 = w.2.1 ∧ v.2.2.1 = w.2.2.1 ∧ v.2.2.2.1 = w.2.2.2.1 ∧ (w.1 = 1 → v.2.2.2.2.1 = w.2.2.2.2.1) ∧ (¬ w.1 = 1 → v.2.2.2.2.1 = 0) ∧ (w.1 = 2 → w.2.2.2.2.2.1 = nI m - v.2.2.2.2.2.1) ∧ (w.1 = 3 → w.2.2.2.2.2.2 = v.2.2.2.2.2.2) ∧ (¬ w.1 = 3 → w.2.2.2.2.2.2 = -1)
/-- where the model's numbers lie, in month m behind j acts -/
def Bd (s g : Int) (m j : Nat) (w : S7) : Prop := ∃ ac ln ar gr lm : Int, w.2.1.toInt = ac ∧ w.2.2.1.toInt = ln ∧ w.2.2.2.1.toInt = ar ∧ w.2.2.2.2.1.toInt = gr ∧ w.2.2.2.2.2.1.toInt = lm ∧ 0 ≤ ac ∧ ac + (61 - (j : Int)) * 2000000 ≤ zL m ∧ 0 ≤ ln ∧ ln ≤ zL m ∧ 0 ≤ ar ∧
  ((w.1 = 0 ∧ ar = 0 ∧ gr = 0) ∨ (w.1 = 1 ∧ ((gr = 1 ∧ ar ≤ zub s (zage g m) ac) ∨ (gr = 2 ∧ ar ≤ 2 * zub s (zage g m) ac))) ∨ (w.1 = 2 ∧ ac = 0 ∧ ln = 0 ∧ ar ≤ 2500000 ∧ 0 ≤ lm ∧ lm ≤ m) ∨ w.1 = 3)
theorem sub_succ (m : Nat) (x : Int32) : nI (m + 1) - x = (nI m - x) + 1 := by
  rw [nI_succ, Int32.sub_eq_add_neg, Int32.sub_eq_add_neg, Int32.add_assoc, Int32.add_assoc, Int32.add_comm 1]
theorem sub_self1 (m : Nat) : nI (m + 1) - (nI m + 1) = 0 := by
  rw [nI_succ, Int32.sub_self]
theorem i_inj {x y : Int32} {a : Int} (hx : x.toInt = a) (hy : y.toInt = a) : x = y := Int32.toInt_inj.mp (hx.trans hy.symm)
theorem step_close {q : S3} {g s k : Int} (C : Cfg q g s k) {m j : Nat} (hm : m + 1 ≤ 240) (hj : j ≤ 61) {v w : S7} (R : Rs m v w) (B : Bd s g m j w) :
    Rs (m + 1) (F_X4_endMonth q v (nI m)) (F_X5_closeMonth q.1 q.2.1 q.2.2 w (nI m)) ∧ Bd s g (m + 1) j (F_X5_closeMonth q.1 q.2.1 q.2.2 w (nI m)) := by
  obtain ⟨r1, r2, r3, r4, r5, r6, r7, r8, r9⟩ := R
  obtain ⟨ac, ln, ar, gr, lm, b1, b2, b3, b4, b5, b6, b7, b8, b9, b10, b11⟩ := B
  have hL := zL_b (m := m) (by omega)
  have hL1 : zL (m + 1) = zL m + 5 * zL m / 1200 := rfl
  have hLp := zL_pos m
  have hg1 := zage_mono g m
  obtain ⟨y1, y2⟩ := zage_b C (m := m) (by omega)
  obtain ⟨y3, y4⟩ := zage_b C (m := m + 1) hm
  have hC := C
  obtain ⟨-, -, -, -, -, c6, c7, -⟩ := C
  have live : (w.1 = 0 ∨ w.1 = 1) → 0 ≤ gr → gr ≤ 2 → (w.1 = 0 → ar = 0 ∧ gr = 0) → (w.1 = 1 → 1 ≤ gr) → ar ≤ gr * zub s (zage g m) ac → ar ≤ 4000000 → Rs (m + 1) (F_X4_endMonth q v (nI m)) (F_X5_closeMonth q.1 q.2.1 q.2.2 w (nI m)) ∧ Bd s g (m + 1) j (F_X5_closeMonth q.1 q.2.1 q.2.2 w (nI m)) := by
    intro hst g0 g1 hs0 hs1 hub hr4
    obtain ⟨s1, s2, s3⟩ := live_le hst
    have hvg : v.2.2.2.2.1.toInt = gr := by
      by_cases h1 : w.1 = 1
      · rw [r5 h1, b4]
      · rw [r6 h1, k0]
        rcases hst with h0 | h0
        · exact (hs0 h0).2.symm
        · exact absurd h0 h1
    obtain ⟨L1, L2, L3⟩ := lc_model hC (m := m) (by omega) hst b1 b2 b3 b4 b6 (by omega) b8 (by omega) b10 hr4 g0 g1
    obtain ⟨K1, K2, K3⟩ := lc_class hC (m := m) (by omega) (w := v) (by rw [r1]; exact hst) (by rw [r2]; exact b1) (by rw [r3]; exact b2) (by rw [r4]; exact b3) hvg b6 (by omega) b8 (by omega) b10 hr4 g0 g1
    have hz := zint_b b6 b8
    have hcu := zch_ub (k := k) (g := zage g m) b6 c6 y2
    obtain ⟨-, -, p3, p4⟩ := zch_b (k := k) b6 (by omega) c6 c7 y2
    have hpw : w.2.2.2.2.2.2 = -1 := r9 s3
    rw [hpw] at L2
    generalize F_X5_closeMonth q.1 q.2.1 q.2.2 w (nI m) = w' at L1 L2 L3 ⊢
    generalize F_X4_endMonth q v (nI m) = v' at K1 K2 K3 ⊢
    generalize zch s k (zage g m) ac = cc at L1 K1 hcu p3 p4
    rcases L1 with ⟨t0, t1, t2, t3, t4, t5⟩ | ⟨t0, t9, t1, t2, t3, t4, t5⟩ | ⟨t0, t9, t1, t2, t3, t4, t5⟩
    · have hfl := zfree_le b6 b8
      have hz2 := zint_b (a := ac - (cc + ar)) (n := ln) (by omega) b8
      rcases K1 with ⟨u0, u1, u2, u3, u4, u5⟩ | ⟨u0, -⟩ | ⟨u0, -⟩
      · refine ⟨⟨u1.trans t1.symm, i_inj u2 t2, i_inj u3 t3, i_inj u4 t4, fun h => absurd (t1.symm.trans h) (by decide), fun _ => i_inj u5 k0, fun h => absurd (t1.symm.trans h) (by decide), fun h => absurd (t1.symm.trans h) (by decide), fun _ => L2⟩, ?_⟩
        exact ⟨_, _, _, _, _, t2, t3, t4, t5, rfl, by omega, by omega, by omega, by omega, by omega, Or.inl ⟨t1, rfl, rfl⟩⟩
      · omega
      · omega
    · rcases K1 with ⟨u0, -⟩ | ⟨u0, u9, u1, u2, u3, u4, u5⟩ | ⟨u0, u9, -⟩
      · omega
      · refine ⟨⟨u1.trans t1.symm, i_inj u2 t2, i_inj u3 t3, i_inj u4 t4, fun _ => i_inj u5 t5, fun h => absurd t1 h, fun h => absurd (t1.symm.trans h) (by decide), fun h => absurd (t1.symm.trans h) (by decide), fun _ => L2⟩, ?_⟩
        have hm9 := zub_mono (s := s) (a := ac) (a' := ac + zint ac ln) c6 hg1 y4 (by omega)
        refine ⟨_, _, _, _, _, t2, t3, t4, t5, rfl, by omega, by omega, by omega, by omega, by omega, Or.inr (Or.inl ⟨t1, ?_⟩)⟩
        rcases (show gr = 0 ∨ gr = 1 by omega) with h0 | h0
        · rw [h0] at hub ⊢
          exact Or.inl ⟨by omega, by omega⟩
        · rw [h0] at hub ⊢
          exact Or.inr ⟨by omega, by omega⟩
      · omega
    · rcases K1 with ⟨u0, -⟩ | ⟨u0, u9, -⟩ | ⟨u0, u9, u1, u2, u3, u4, u5⟩
      · omega
      · exact absurd t9 u9
      · have hb9 := zub_b (g := zage g m) c6 c7 y2 (show ac ≤ 400000000 by omega)
        refine ⟨⟨u1.trans t1.symm, i_inj u2 t2, i_inj u3 t3, i_inj u4 t4, fun h => absurd (t1.symm.trans h) (by decide), fun _ => i_inj u5 k0, fun _ => ?_, fun h => absurd (t1.symm.trans h) (by decide), fun _ => L2⟩, ?_⟩
        · rw [L3 t1, K3 u1, sub_self1]
        · rw [t9] at hub
          refine ⟨_, _, _, _, 0, t2, t3, t4, t5, by rw [L3 t1, k0], by omega, by omega, by omega, by omega, by omega, Or.inr (Or.inr (Or.inl ⟨t1, rfl, rfl, by omega, by omega, by omega⟩))⟩
  have hb9 := zub_b (g := zage g m) (a := ac) c6 c7 y2 (by omega)
  rcases b11 with ⟨h, h1, h2⟩ | ⟨h, h1⟩ | ⟨h, h1, h2, h3, h4, h5⟩ | h
  · exact live (Or.inl h) (by omega) (by omega) (fun _ => ⟨h1, h2⟩) (fun h9 => absurd (h.symm.trans h9) (by decide)) (by rw [h2]; omega) (by omega)
  · rcases h1 with ⟨h1, h2⟩ | ⟨h1, h2⟩
    · exact live (Or.inr h) (by omega) (by omega) (fun h9 => absurd (h.symm.trans h9) (by decide)) (fun _ => by omega) (by rw [h1]; omega) (by omega)
    · exact live (Or.inr h) (by omega) (by omega) (fun h9 => absurd (h.symm.trans h9) (by decide)) (fun _ => by omega) (by rw [h1]; omega) (by omega)
  · have e5 : F_X5_closeMonth q.1 q.2.1 q.2.2 w (nI m) = (w.1, w.2.1, w.2.2.1, w.2.2.2.1, w.2.2.2.2.1, (w.2.2.2.2.2.1 + 1), w.2.2.2.2.2.2) := by
      unfold F_X5_closeMonth
      rw [if_pos h, if_neg (by rw [h]; decide)]
    have e4 : F_X4_endMonth q v (nI m) = v := by
      unfold F_X4_endMonth
      rw [notlive3 (by rw [r1]; first | exact Or.inl h | exact Or.inr h), if_pos (show bI false = 0 by decide)]
    rw [e5, e4]
    refine ⟨⟨r1, r2, r3, r4, r5, r6, fun h9 => ?_, r8, r9⟩, ?_⟩
    · show w.2.2.2.2.2.1 + 1 = _
      rw [r7 h9, sub_succ]
    · refine ⟨ac, ln, ar, gr, lm + 1, b1, b2, b3, b4, a32 b5 k1 (by omega) (by omega), b6, by omega, b8, by omega, b10, Or.inr (Or.inr (Or.inl ⟨h, h1, h2, h3, by omega, by omega⟩))⟩
  · have e5 : F_X5_closeMonth q.1 q.2.1 q.2.2 w (nI m) = w := by
      unfold F_X5_closeMonth
      rw [if_neg (by rw [h]; decide), if_neg (by rw [h]; decide)]
    have e4 : F_X4_endMonth q v (nI m) = v := by
      unfold F_X4_endMonth
      rw [notlive3 (by rw [r1]; first | exact Or.inl h | exact Or.inr h), if_pos (show bI false = 0 by decide)]
    rw [e5, e4]
    exact ⟨⟨r1, r2, r3, r4, r5, r6, fun h9 => absurd (h.symm.trans h9) (by decide), r8, r9⟩, ac, ln, ar, gr, lm, b1, b2, b3, b4, b5, b6, by omega, b8, by omega, b10, Or.inr (Or.inr (Or.inr h))⟩
end CLOSE
