section VAL
def zage (g : Int) (m : Nat) : Int := g + (m : Int) / 12
/-- the plan's numbers -/
def Cfg (q : S3) (g s k : Int) : Prop := q.1.toInt = g ∧ q.2.1.toInt = s ∧ q.2.2.toInt = k ∧ 18 ≤ g ∧ g ≤ 70 ∧ 100000 ≤ s ∧ s ≤ 50000000 ∧ (k = 0 ∨ k = 1)
theorem zcor_b (g : Int) : 105 ≤ zcor g ∧ zcor g ≤ 250 := by
  unfold zcor
  split
  · omega
  · split <;> omega
theorem zrate_b {g : Int} (h1 : g ≤ 90) : 10 ≤ zrate g ∧ zrate g ≤ 130 := by
  unfold zrate
  split <;> omega
theorem zrate_mono {g h : Int} (h1 : g ≤ h) : zrate g ≤ zrate h := by
  unfold zrate
  split <;> split <;> omega
theorem zage_b {q : S3} {g s k : Int} (C : Cfg q g s k) {m : Nat} (hm : m ≤ 240) : 18 ≤ zage g m ∧ zage g m ≤ 90 := by
  obtain ⟨-, -, -, h4, h5, -⟩ := C
  unfold zage
  omega
theorem zage_mono (g : Int) (m : Nat) : zage g m ≤ zage g (m + 1) := by
  unfold zage
  omega
/-- a times the corridor -/
theorem zac_b {a : Int} (ha : 0 ≤ a) (g : Int) : 105 * a ≤ a * zcor g ∧ a * zcor g ≤ 250 * a := by
  obtain ⟨h1, h2⟩ := zcor_b g
  have e1 := Int.mul_le_mul_of_nonneg_left h1 ha
  have e2 := Int.mul_le_mul_of_nonneg_left h2 ha
  constructor <;> omega
theorem zds_b {s k a : Int} (g : Int) (h0 : 0 ≤ a) (h1 : a ≤ 400000000) (hs : 100000 ≤ s) (hs2 : s ≤ 50000000) : a ≤ zds s k g a ∧ zds s k g a ≤ 1000000000 := by
  obtain ⟨e1, e2⟩ := zac_b h0 g
  unfold zds
  generalize a * zcor g = P at e1 e2 ⊢
  split <;> split <;> omega
theorem zch_b {s k a g : Int} (h0 : 0 ≤ a) (h1 : a ≤ 400000000) (hs : 100000 ≤ s) (hs2 : s ≤ 50000000) (hg : g ≤ 90) : 0 ≤ (zds s k g a - a) * zrate g ∧ (zds s k g a - a) * zrate g ≤ 130000000000 ∧ 500 ≤ zch s k g a ∧ zch s k g a ≤ 1300500 := by
  obtain ⟨d1, d2⟩ := zds_b (k := k) g h0 h1 hs hs2
  obtain ⟨r1, r2⟩ := zrate_b hg
  have e1 : 0 ≤ (zds s k g a - a) * zrate g := Int.mul_nonneg (by omega) (by omega)
  have e2 : (zds s k g a - a) * zrate g ≤ 1000000000 * zrate g := Int.mul_le_mul_of_nonneg_right (by omega) (by omega)
  have e3 : (zds s k g a - a) * zrate g ≤ 130000000000 := by omega
  unfold zch
  refine ⟨e1, e3, ?_, ?_⟩
  · have := Int.ediv_nonneg e1 (show (0 : Int) ≤ 100000 by omega)
    omega
  · omega
theorem v_age {q : S3} {g s k : Int} (C : Cfg q g s k) {m : Nat} (hm : m ≤ 240) : (F_X2_ageIn q (nI m)).toInt = zage g m := by
  obtain ⟨h1, -, -, h4, h5, -⟩ := C
  exact a32 h1 (d32 (nI_toInt (by omega)) k12 (by omega) (by omega)) (by omega) (by omega)
theorem v_age5 {q : S3} {g s k : Int} (C : Cfg q g s k) {m : Nat} (hm : m ≤ 240) : (F_X5_ageIn q.1 (nI m)).toInt = zage g m := v_age C hm
theorem v_rateFor {x : Int32} {g : Int} (hx : x.toInt = g) (h0 : 0 ≤ g) (h1 : g ≤ 200) : (F_X2_rateFor x).toInt = zrate g := by
  unfold F_X2_rateFor zrate
  by_cases c1 : 30 < g
  · rw [if_pos ((lt32 k30 hx).mpr c1), if_neg (show ¬ g ≤ 30 by omega)]
    exact a32 k10 (m32 k2 (s32 hx k30 (by omega) (by omega)) (by omega) (by omega)) (by omega) (by omega)
  · rw [if_neg (fun q => c1 ((lt32 k30 hx).mp q)), if_pos (show g ≤ 30 by omega)]
    exact k10
theorem v_deathSumFor {q : S3} {g s k : Int} (C : Cfg q g s k) {m : Nat} (hm : m ≤ 240) {x : Int32} {a : Int} (hx : x.toInt = a) (h0 : 0 ≤ a) (h1 : a ≤ 400000000) : (F_X2_deathSumFor q x (nI m)).toInt = zds s k (zage g m) a := by
  have hg := v_age C hm
  obtain ⟨g1, g2⟩ := zage_b C hm
  obtain ⟨c1, c2, c3, c4, c5, c6, c7, c8⟩ := C
  obtain ⟨e1, e2⟩ := zac_b h0 (zage g m)
  obtain ⟨d1, d2⟩ := zds_b (k := k) (zage g m) h0 h1 c6 c7
  have hP : ((x.toInt64 * (F_X2_corridorFor (F_X2_ageIn q (nI m))).toInt64) / 100 : Int64).toInt = a * zcor (zage g m) / 100 :=
    d64 (m64 (w64 hx) (w64 (v_corridorFor hg (by omega) (by omega))) (by omega) (by omega)) l100 (by omega) (by omega)
  unfold F_X2_deathSumFor
  unfold zds at d1 d2 ⊢
  by_cases hk : k = 1
  · rw [if_pos ((eq32 c3 k1).mpr hk)]
    rw [if_pos hk] at d1 d2 ⊢
    exact n32 (l_ite (lt64 hP (a64 (w64 c2) (w64 hx) (by omega) (by omega))) (fun _ => a64 (w64 c2) (w64 hx) (by omega) (by omega)) (fun _ => hP)) (by omega) (by omega)
  · rw [if_neg (fun q => hk ((eq32 c3 k1).mp q))]
    rw [if_neg hk] at d1 d2 ⊢
    exact n32 (l_ite (lt64 hP (w64 c2)) (fun _ => w64 c2) (fun _ => hP)) (by omega) (by omega)
theorem v_deathSumIn {q : S3} {g s k : Int} (C : Cfg q g s k) {m : Nat} (hm : m ≤ 240) {v : S7} {a : Int} (hx : v.2.1.toInt = a) (h0 : 0 ≤ a) (h1 : a ≤ 400000000) : (F_X5_deathSumIn q.1 q.2.1 q.2.2 v (nI m)).toInt = zds s k (zage g m) a := by
  have hg := v_age5 C hm
  obtain ⟨g1, g2⟩ := zage_b C hm
  obtain ⟨c1, c2, c3, c4, c5, c6, c7, c8⟩ := C
  obtain ⟨e1, e2⟩ := zac_b h0 (zage g m)
  have hP : ((v.2.1.toInt64 * (F_X5_corridorAt (F_X5_ageIn q.1 (nI m))).toInt64) / 100 : Int64).toInt = a * zcor (zage g m) / 100 :=
    d64 (m64 (w64 hx) (w64 (v_corridorAt hg (by omega) (by omega))) (by omega) (by omega)) l100 (by omega) (by omega)
  unfold F_X5_deathSumIn zds
  by_cases hk : k = 0
  · rw [if_pos ((eq32 c3 k0).mpr hk), if_neg (show ¬ k = 1 by omega)]
    by_cases h : a * zcor (zage g m) / 100 < s
    · rw [if_pos h, if_pos ((lcmp_ge (w64 c2) hP).mpr (by omega))]
      exact w64 c2
    · rw [if_neg h]
      by_cases h9 : a * zcor (zage g m) / 100 = s
      · rw [if_pos ((lcmp_ge (w64 c2) hP).mpr (by omega)), h9]
        exact w64 c2
      · rw [if_neg (fun q => by have := (lcmp_ge (w64 c2) hP).mp q; omega)]
        exact hP
  · have hA : (q.2.1.toInt64 + v.2.1.toInt64 : Int64).toInt = s + a := a64 (w64 c2) (w64 hx) (by omega) (by omega)
    rw [if_neg (fun q => hk ((eq32 c3 k0).mp q)), if_pos (show k = 1 by omega)]
    by_cases h : a * zcor (zage g m) / 100 < s + a
    · rw [if_pos h, if_pos ((lcmp_ge hA hP).mpr (by omega))]
      exact hA
    · rw [if_neg h]
      by_cases h9 : a * zcor (zage g m) / 100 = s + a
      · rw [if_pos ((lcmp_ge hA hP).mpr (by omega)), h9]
        exact hA
      · rw [if_neg (fun q => by have := (lcmp_ge hA hP).mp q; omega)]
        exact hP
theorem v_chargeFor {q : S3} {g s k : Int} (C : Cfg q g s k) {m : Nat} (hm : m ≤ 240) {x : Int32} {a : Int} (hx : x.toInt = a) (h0 : 0 ≤ a) (h1 : a ≤ 400000000) : (F_X2_chargeFor q x (nI m)).toInt = zch s k (zage g m) a := by
  have hg := v_age C hm
  have hd := v_deathSumFor C hm hx h0 h1
  obtain ⟨g1, g2⟩ := zage_b C hm
  obtain ⟨c1, c2, c3, c4, c5, c6, c7, c8⟩ := C
  obtain ⟨d1, d2⟩ := zds_b (k := k) (zage g m) h0 h1 c6 c7
  obtain ⟨p1, p2, p3, p4⟩ := zch_b (k := k) h0 h1 c6 c7 g2
  unfold F_X2_chargeFor
  unfold zch at p3 p4 ⊢
  have hr : (if 0 < ((F_X2_deathSumFor q x (nI m)) - x) then ((F_X2_deathSumFor q x (nI m)) - x) else 0 : Int32).toInt = zds s k (zage g m) a - a := by
    have e : ((F_X2_deathSumFor q x (nI m)) - x : Int32).toInt = zds s k (zage g m) a - a := s32 hd hx (by omega) (by omega)
    by_cases h : 0 < zds s k (zage g m) a - a
    · rw [if_pos ((lt32 k0 e).mpr h)]
      exact e
    · rw [if_neg (fun q => h ((lt32 k0 e).mp q)), k0]
      omega
  exact n32 (a64 l500 (d64 (m64 (w64 hr) (w64 (v_rateFor hg (by omega) (by omega))) (by omega) (by omega)) l100k (by omega) (by omega)) (by omega) (by omega)) (by omega) (by omega)
theorem v_chargeIn {q : S3} {g s k : Int} (C : Cfg q g s k) {m : Nat} (hm : m ≤ 240) {v : S7} {a : Int} (hx : v.2.1.toInt = a) (h0 : 0 ≤ a) (h1 : a ≤ 400000000) : (F_X5_chargeIn q.1 q.2.1 q.2.2 v (nI m)).toInt = zch s k (zage g m) a := by
  have hg := v_age5 C hm
  have hd := v_deathSumIn C hm hx h0 h1
  obtain ⟨g1, g2⟩ := zage_b C hm
  obtain ⟨c1, c2, c3, c4, c5, c6, c7, c8⟩ := C
  obtain ⟨d1, d2⟩ := zds_b (k := k) (zage g m) h0 h1 c6 c7
  obtain ⟨p1, p2, p3, p4⟩ := zch_b (k := k) h0 h1 c6 c7 g2
  have e : ((F_X5_deathSumIn q.1 q.2.1 q.2.2 v (nI m)) - v.2.1.toInt64 : Int64).toInt = zds s k (zage g m) a - a := s64 hd (w64 hx) (by omega) (by omega)
  have hge : 0 ≤ lg_cmp ((F_X5_deathSumIn q.1 q.2.1 q.2.2 v (nI m)) - v.2.1.toInt64) 0 := (lcmp_ge e l0).mpr (by omega)
  unfold F_X5_chargeIn
  unfold zch at p3 p4 ⊢
  unfold zrate at p1 p2 p3 p4 ⊢
  by_cases c9 : 30 < zage g m
  · rw [if_pos ((lt32 k30 hg).mpr c9), if_pos hge]
    rw [if_neg (show ¬ zage g m ≤ 30 by omega)] at p1 p2 p3 p4 ⊢
    have hr : (10 + (2 * ((F_X5_ageIn q.1 (nI m)) - 30)) : Int32).toInt = 10 + 2 * (zage g m - 30) := a32 k10 (m32 k2 (s32 hg k30 (by omega) (by omega)) (by omega) (by omega)) (by omega) (by omega)
    exact a32 k500 (n32 (d64 (m64 e (w64 hr) (by omega) (by omega)) l100k (by omega) (by omega)) (by omega) (by omega)) (by omega) (by omega)
  · rw [if_neg (fun q => c9 ((lt32 k30 hg).mp q)), if_pos hge]
    rw [if_pos (show zage g m ≤ 30 by omega)] at p1 p2 p3 p4 ⊢
    exact a32 k500 (n32 (d64 (m64 e (w64 k10) (by omega) (by omega)) l100k (by omega) (by omega)) (by omega) (by omega)) (by omega) (by omega)
theorem v_free3 {v : S7} {a n : Int} (ha : v.2.1.toInt = a) (hn : v.2.2.1.toInt = n) (a0 : 0 ≤ a) (a1 : a ≤ 400000000) (n0 : 0 ≤ n) (n1 : n ≤ 400000000) : (F_X3_freePart v).toInt = zfree a n := by
  unfold F_X3_freePart zfree
  have e : (v.2.1 - v.2.2.1 : Int32).toInt = a - n := s32 ha hn (by omega) (by omega)
  by_cases h : a ≤ n
  · rw [if_pos h, if_neg (fun q => by have := (lt32 k0 e).mp q; omega)]
    exact k0
  · rw [if_neg h, if_pos ((lt32 k0 e).mpr (by omega))]
    exact e
theorem v_free5 {v : S7} {a n : Int} (ha : v.2.1.toInt = a) (hn : v.2.2.1.toInt = n) (a0 : 0 ≤ a) (a1 : a ≤ 400000000) (n0 : 0 ≤ n) (n1 : n ≤ 400000000) : (F_X5_freePart v).toInt = zfree a n := by
  unfold F_X5_freePart zfree
  by_cases h : a ≤ n
  · rw [if_pos h, if_pos ((le32 ha hn).mpr h)]
    exact k0
  · rw [if_neg h, if_neg (fun q => h ((le32 ha hn).mp q))]
    exact s32 ha hn (by omega) (by omega)
theorem zint_b {a n : Int} (a0 : 0 ≤ a) (n0 : 0 ≤ n) : 0 ≤ zint a n ∧ 300 * zint a n ≤ a := by
  unfold zint
  split
  · omega
  · split <;> omega
theorem zint_lo {a n : Int} (h : a ≤ n) : ((2 * a + 3 * 0) + 4 * (0 - 0)) / 1200 = zint a n := by
  unfold zint
  rw [if_pos h]
  omega
theorem zint_mid {a n : Int} (h : n ≤ a) (h2 : a - n ≤ 1000000) : ((2 * n + 3 * (a - n)) + 4 * ((a - n) - (a - n))) / 1200 = zint a n := by
  unfold zint
  split
  · omega
  · first | omega | (rw [if_pos h2]; omega)
theorem zint_hi {a n : Int} (h2 : 1000000 ≤ a - n) : ((2 * n + 3 * 1000000) + 4 * ((a - n) - 1000000)) / 1200 = zint a n := by
  unfold zint
  rw [if_neg (show ¬ a ≤ n by omega)]
  split <;> omega
theorem v_int {v w : S7} {a n : Int} (hw : w = F_X3_addInterest v) (ha : v.2.1.toInt = a) (hn : v.2.2.1.toInt = n) (a0 : 0 ≤ a) (a1 : a ≤ 400000000) (n0 : 0 ≤ n) (n1 : n ≤ 400000000) : w.2.1.toInt = a + zint a n ∧ w.2.2.1.toInt = n + 5 * n / 1200 ∧ w.1 = v.1 ∧ w.2.2.2 = v.2.2.2 := by
  have z9 := zint_b a0 n0
  have hL : (v.2.2.1 + ((5 * v.2.2.1.toInt64) / 1200).toInt32 : Int32).toInt = n + 5 * n / 1200 := a32 hn (n32 (d64 (m64 l5 (w64 hn) (by omega) (by omega)) l1200 (by omega) (by omega)) (by omega) (by omega)) (by omega) (by omega)
  subst hw
  unfold F_X3_addInterest
  refine ⟨?_, hL, rfl, rfl⟩
  show (v.2.1 + _ : Int32).toInt = _
  by_cases h : a ≤ n
  · have e1 : (if v.2.2.1 < v.2.1 then v.2.2.1 else v.2.1 : Int32) = v.2.1 := if_neg (fun q => by have := (lt32 hn ha).mp q; omega)
    rw [e1]
    have e2 : (v.2.1.toInt64 - v.2.1.toInt64 : Int64).toInt = 0 := by
      have := s64 (w64 ha) (w64 ha) (by omega) (by omega)
      omega
    have e3 : (if 1000000 < (v.2.1.toInt64 - v.2.1.toInt64) then 1000000 else (v.2.1.toInt64 - v.2.1.toInt64) : Int64) = v.2.1.toInt64 - v.2.1.toInt64 := if_neg (fun q => by have := (lt64 l1m e2).mp q; omega)
    rw [e3]
    have e4 := d64 (a64 (a64 (m64 l2 (w64 ha) (by omega) (by omega)) (m64 l3 e2 (by omega) (by omega)) (by omega) (by omega)) (m64 l4 (s64 e2 e2 (by omega) (by omega)) (by omega) (by omega)) (by omega) (by omega)) l1200 (by omega) (by omega)
    rw [zint_lo h] at e4
    exact a32 ha (n32 e4 (by omega) (by omega)) (by omega) (by omega)
  · have e1 : (if v.2.2.1 < v.2.1 then v.2.2.1 else v.2.1 : Int32) = v.2.2.1 := if_pos ((lt32 hn ha).mpr (by omega))
    rw [e1]
    have e2 : (v.2.1.toInt64 - v.2.2.1.toInt64 : Int64).toInt = a - n := s64 (w64 ha) (w64 hn) (by omega) (by omega)
    by_cases h2 : a - n ≤ 1000000
    · have e3 : (if 1000000 < (v.2.1.toInt64 - v.2.2.1.toInt64) then 1000000 else (v.2.1.toInt64 - v.2.2.1.toInt64) : Int64) = v.2.1.toInt64 - v.2.2.1.toInt64 := if_neg (fun q => by have := (lt64 l1m e2).mp q; omega)
      rw [e3]
      have e4 := d64 (a64 (a64 (m64 l2 (w64 hn) (by omega) (by omega)) (m64 l3 e2 (by omega) (by omega)) (by omega) (by omega)) (m64 l4 (s64 e2 e2 (by omega) (by omega)) (by omega) (by omega)) (by omega) (by omega)) l1200 (by omega) (by omega)
      rw [zint_mid (by omega) h2] at e4
      exact a32 ha (n32 e4 (by omega) (by omega)) (by omega) (by omega)
    · have e3 : (if 1000000 < (v.2.1.toInt64 - v.2.2.1.toInt64) then 1000000 else (v.2.1.toInt64 - v.2.2.1.toInt64) : Int64) = 1000000 := if_pos ((lt64 l1m e2).mpr (by omega))
      rw [e3]
      have e4 := d64 (a64 (a64 (m64 l2 (w64 hn) (by omega) (by omega)) (m64 l3 l1m (by omega) (by omega)) (by omega) (by omega)) (m64 l4 (s64 e2 l1m (by omega) (by omega)) (by omega) (by omega)) (by omega) (by omega)) l1200 (by omega) (by omega)
      rw [zint_hi (by omega)] at e4
      exact a32 ha (n32 e4 (by omega) (by omega)) (by omega) (by omega)
theorem v_earn {v w : S7} {a n : Int} (hw : w = F_X5_earn v) (ha : v.2.1.toInt = a) (hn : v.2.2.1.toInt = n) (a0 : 0 ≤ a) (a1 : a ≤ 400000000) (n0 : 0 ≤ n) (n1 : n ≤ 400000000) : w.2.1.toInt = a + zint a n ∧ w.2.2.1.toInt = n + 5 * n / 1200 ∧ w.1 = v.1 ∧ w.2.2.2 = v.2.2.2 := by
  have z9 := zint_b a0 n0
  have hL : (v.2.2.1 + ((5 * v.2.2.1.toInt64) / 1200).toInt32 : Int32).toInt = n + 5 * n / 1200 := a32 hn (n32 (d64 (m64 l5 (w64 hn) (by omega) (by omega)) l1200 (by omega) (by omega)) (by omega) (by omega)) (by omega) (by omega)
  subst hw
  unfold F_X5_earn
  by_cases h : n ≤ a
  · rw [if_pos ((le32 hn ha).mpr h)]
    have e2 : (v.2.1.toInt64 - v.2.2.1.toInt64 : Int64).toInt = a - n := s64 (w64 ha) (w64 hn) (by omega) (by omega)
    by_cases h2 : 1000000 ≤ a - n
    · rw [if_pos ((lcmp_ge e2 l1m).mpr h2)]
      have e4 := d64 (a64 (a64 (m64 l2 (w64 hn) (by omega) (by omega)) (m64 l3 l1m (by omega) (by omega)) (by omega) (by omega)) (m64 l4 (s64 e2 l1m (by omega) (by omega)) (by omega) (by omega)) (by omega) (by omega)) l1200 (by omega) (by omega)
      rw [zint_hi h2] at e4
      exact ⟨a32 ha (n32 e4 (by omega) (by omega)) (by omega) (by omega), hL, rfl, rfl⟩
    · rw [if_neg (fun q => h2 ((lcmp_ge e2 l1m).mp q))]
      have e4 := d64 (a64 (a64 (m64 l2 (w64 hn) (by omega) (by omega)) (m64 l3 e2 (by omega) (by omega)) (by omega) (by omega)) (m64 l4 (s64 e2 e2 (by omega) (by omega)) (by omega) (by omega)) (by omega) (by omega)) l1200 (by omega) (by omega)
      rw [zint_mid h (by omega)] at e4
      exact ⟨a32 ha (n32 e4 (by omega) (by omega)) (by omega) (by omega), hL, rfl, rfl⟩
  · rw [if_neg (fun q => h ((le32 hn ha).mp q))]
    have e2 : (v.2.1.toInt64 - v.2.1.toInt64 : Int64).toInt = 0 := by
      have := s64 (w64 ha) (w64 ha) (by omega) (by omega)
      omega
    rw [if_neg (fun q => by have := (lcmp_ge e2 l1m).mp q; omega)]
    have e4 := d64 (a64 (a64 (m64 l2 (w64 ha) (by omega) (by omega)) (m64 l3 e2 (by omega) (by omega)) (by omega) (by omega)) (m64 l4 (s64 e2 e2 (by omega) (by omega)) (by omega) (by omega)) (by omega) (by omega)) l1200 (by omega) (by omega)
    rw [zint_lo (n := n) (by omega)] at e4
    exact ⟨a32 ha (n32 e4 (by omega) (by omega)) (by omega) (by omega), hL, rfl, rfl⟩
end VAL
