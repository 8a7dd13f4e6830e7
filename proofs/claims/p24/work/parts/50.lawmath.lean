section LMATH
theorem lcmp_le {x y : Int64} {a b : Int} (hx : x.toInt = a) (hy : y.toInt = b) : lg_cmp x y ≤ 0 ↔ a ≤ b := by
  unfold lg_cmp
  by_cases h1 : y < x
  · rw [if_pos h1]
    rw [lt64 hy hx] at h1
    constructor
    · intro q; exact absurd q (by decide)
    · intro q; omega
  · rw [if_neg h1]
    rw [lt64 hy hx] at h1
    by_cases h2 : x = y
    · rw [if_pos h2]
      subst h2
      constructor
      · intro _; omega
      · intro _; decide
    · rw [if_neg h2]
      constructor
      · intro _; omega
      · intro _; decide
theorem l_inj {x y : Int64} {a : Int} (hx : x.toInt = a) (hy : y.toInt = a) : x = y := Int64.toInt_inj.mp (hx.trans hy.symm)
-- the corridor
theorem corL_L {x : Int32} {g : Int} (hx : x.toInt = g) (h1 : g ≤ 200) : ∀ (d i : Nat), i + d = 29 → ((i : Int) ≤ g - 40 ∨ i = 0) → (Lp_L_corridor x d i (nI (250 - 5 * i))).toInt = zcor g := by
  intro d
  induction d with
  | zero =>
    intro i h2 h3
    have e : i = 29 := by omega
    subst e
    have e2 : Lp_L_corridor x 0 29 (nI (250 - 5 * 29)) = nI 105 := by
      rw [Lp_L_corridor]
      split <;> rfl
    rw [e2, nI_toInt (by omega)]
    unfold zcor
    rw [if_neg (by omega), if_pos (by omega)]
    rfl
  | succ d ih =>
    intro i h2 h3
    rw [Lp_L_corridor]
    by_cases c1 : g < 41 + (i : Int)
    · rw [if_pos ((lt32 hx (nI_toInt (n := 41 + i) (by omega))).mpr (by omega)), nI_toInt (by omega)]
      unfold zcor
      by_cases c2 : g ≤ 40
      · rw [if_pos c2]
        omega
      · rw [if_neg c2, if_neg (by omega)]
        omega
    · rw [if_neg (fun z => c1 (by have := (lt32 hx (nI_toInt (n := 41 + i) (by omega))).mp z; omega)), if_neg (fun z => by have := (le32 (nI_toInt (n := 250 - 5 * i) (by omega)) k105).mp z; omega)]
      have e := co1 (i := i) (d := d) (t := nI (250 - 5 * i)) ⟨by omega, rfl⟩
      rw [e.2]
      exact ih (i + 1) (by omega) (by omega)
theorem v_corL {x : Int32} {g : Int} (hx : x.toInt = g) (h1 : g ≤ 200) : (F_L_corridor x).toInt = zcor g := by
  unfold F_L_corridor
  rw [co2]
  exact corL_L hx h1 29 0 (by omega) (Or.inr rfl)
-- the death sum and the charge
abbrev w5 (q : S3) (pp nn : Int32) : S5 := (q.1, q.2.1, q.2.2, pp, nn)
theorem v_deathL {q : S3} {g s k : Int} (C : Cfg q g s k) {m : Nat} (hm : m ≤ 240) {v : S7} {a : Int} (hx : v.2.1.toInt = a) (h0 : 0 ≤ a) (h1 : a ≤ 400000000) (pp nn : Int32) : (F_L_death (w5 q pp nn) v (nI m)).toInt = zds s k (zage g m) a := by
  have hg : (q.1 + (nI m / 12) : Int32).toInt = zage g m := v_age C hm
  obtain ⟨g1, g2⟩ := zage_b C hm
  obtain ⟨c1, c2, c3, c4, c5, c6, c7, c8⟩ := C
  obtain ⟨e1, e2⟩ := zac_b h0 (zage g m)
  have hP : ((v.2.1.toInt64 * (F_L_corridor (q.1 + (nI m / 12))).toInt64) / 100 : Int64).toInt = a * zcor (zage g m) / 100 :=
    d64 (m64 (w64 hx) (w64 (v_corL hg (by omega))) (by omega) (by omega)) l100 (by omega) (by omega)
  unfold F_L_death zds
  show Int64.toInt (if q.2.2 = 1 then _ else _) = _
  by_cases hk : k = 1
  · have hA : (q.2.1.toInt64 + v.2.1.toInt64 : Int64).toInt = s + a := a64 (w64 c2) (w64 hx) (by omega) (by omega)
    rw [if_pos ((eq32 c3 k1).mpr hk), if_pos hk]
    by_cases h : a * zcor (zage g m) / 100 < s + a
    · rw [if_pos h, if_neg (fun z => by have := (lcmp_le hA hP).mp z; omega)]
      exact hA
    · rw [if_neg h, if_pos ((lcmp_le hA hP).mpr (by omega))]
      exact hP
  · have hA : (q.2.1.toInt64 + 0 : Int64).toInt = s := by
      have := a64 (w64 c2) l0 (by omega) (by omega)
      omega
    rw [if_neg (fun z => hk ((eq32 c3 k1).mp z)), if_neg hk]
    by_cases h : a * zcor (zage g m) / 100 < s
    · rw [if_pos h, if_neg (fun z => by have := (lcmp_le hA hP).mp z; omega)]
      exact hA
    · rw [if_neg h, if_pos ((lcmp_le hA hP).mpr (by omega))]
      exact hP
theorem chL_L (k9 : Int64) : ∀ (d i : Nat) (t : Int32), t.toInt = 10 + 2 * (i : Int) → i + d ≤ 300 → ∃ t2 : Int32, t2.toInt = 10 + 2 * ((i + d : Nat) : Int) ∧ Lp_L_charge d i t k9 = Lp_L_charge 0 (i + d) t2 k9 := by
  intro d
  induction d with
  | zero => intro i t h1 h2; exact ⟨t, h1, rfl⟩
  | succ d ih =>
    intro i t h1 h2
    rw [Lp_L_charge]
    obtain ⟨t2, e1, e2⟩ := ih (i + 1) (t + 2) (by rw [a32 h1 k2 (by omega) (by omega)]; omega) (by omega)
    refine ⟨t2, by rw [e1]; omega, ?_⟩
    rw [e2]
    exact congrArg (fun z => Lp_L_charge 0 z t2 k9) (by omega)
theorem v_chargeL {q : S3} {g s k : Int} (C : Cfg q g s k) {m : Nat} (hm : m ≤ 240) {v : S7} {a : Int} (hx : v.2.1.toInt = a) (h0 : 0 ≤ a) (h1 : a ≤ 400000000) (pp nn : Int32) : (F_L_charge (w5 q pp nn) v m).toInt = zch s k (zage g m) a := by
  have hg : (q.1 + (nI m / 12) : Int32).toInt = zage g m := v_age C hm
  have hd := v_deathL C hm hx h0 h1 pp nn
  obtain ⟨g1, g2⟩ := zage_b C hm
  obtain ⟨c1, c2, c3, c4, c5, c6, c7, c8⟩ := C
  obtain ⟨d1, d2⟩ := zds_b (k := k) (zage g m) h0 h1 c6 c7
  obtain ⟨p1, p2, p3, p4⟩ := zch_b (k := k) h0 h1 c6 c7 g2
  have hcl : (q.1 + (nI m / 12) : Int32).toNatClampNeg = (zage g m).toNat := by
    show (q.1 + (nI m / 12) : Int32).toInt.toNat = _
    rw [hg]
  have e : ((F_L_death (w5 q pp nn) v (nI m)) - v.2.1.toInt64 : Int64).toInt = zds s k (zage g m) a - a := s64 hd (w64 hx) (by omega) (by omega)
  unfold F_L_charge
  show (Lp_L_charge ((q.1 + (nI m / 12) : Int32).toNatClampNeg - 30) 0 10 _).toInt = _
  rw [hcl]
  obtain ⟨t2, e1, e2⟩ := chL_L ((F_L_death (w5 q pp nn) v (nI m)) - v.2.1.toInt64) ((zage g m).toNat - 30) 0 10 (by decide) (by omega)
  rw [e2, Lp_L_charge]
  have hr : t2.toInt = zrate (zage g m) := by
    rw [e1]
    unfold zrate
    split <;> omega
  unfold zch at p3 p4 ⊢
  by_cases h : zds s k (zage g m) a - a ≤ 0
  · rw [if_pos ((lcmp_le e l0).mpr h)]
    have e9 : zds s k (zage g m) a - a = 0 := by omega
    rw [e9]
    have e8 : (0 : Int) * zrate (zage g m) / 100000 = 0 := by rw [Int.zero_mul]; rfl
    rw [e8]
    exact a32 k500 (n32 l0 (by omega) (by omega)) (by omega) (by omega)
  · rw [if_neg (fun z => h ((lcmp_le e l0).mp z))]
    exact a32 k500 (n32 (d64 (m64 e (w64 hr) (by omega) (by omega)) l100k (by omega) (by omega)) (by omega) (by omega)) (by omega) (by omega)
theorem ag_of {q : S3} {g s k : Int} (C : Cfg q g s k) (pp nn : Int32) : AG (w5 q pp nn) := by
  obtain ⟨c1, -, -, c4, c5, -⟩ := C
  show 0 ≤ q.1.toInt ∧ q.1.toInt ≤ 100
  omega
-- the interest
theorem v_earnL {v w : S7} {a n : Int} (hw : w = Lp_L_closes 0 0 v) (ha : v.2.1.toInt = a) (hn : v.2.2.1.toInt = n) (a0 : 0 ≤ a) (a1 : a ≤ 400000000) (n0 : 0 ≤ n) (n1 : n ≤ 400000000) : w.2.1.toInt = a + zint a n ∧ w.2.2.1.toInt = n + 5 * n / 1200 ∧ w.1 = v.1 ∧ w.2.2.2 = v.2.2.2 := by
  have z9 := zint_b a0 n0
  have l3m : (3000000 : Int64).toInt = 3000000 := by decide +kernel
  have hL : (v.2.2.1 + ((v.2.2.1.toInt64 * 5) / 1200).toInt32 : Int32).toInt = n + 5 * n / 1200 := by
    have h := a32 hn (n32 (d64 (m64 (w64 hn) l5 (by omega) (by omega)) l1200 (by omega) (by omega)) (by omega) (by omega)) (by omega) (by omega)
    rw [h]
    omega
  subst hw
  rw [Lp_L_closes]
  by_cases h : n ≤ a
  · rw [if_pos ((le32 hn ha).mpr h)]
    have e2 : (v.2.1.toInt64 - v.2.2.1.toInt64 : Int64).toInt = a - n := s64 (w64 ha) (w64 hn) (by omega) (by omega)
    have e3 : ((v.2.1.toInt64 - v.2.2.1.toInt64) - 1000000 : Int64).toInt = a - n - 1000000 := s64 e2 l1m (by omega) (by omega)
    by_cases h2 : a - n ≤ 1000000
    · rw [if_pos ((lcmp_le e3 l0).mpr (by omega))]
      have e4 := d64 (a64 (m64 (w64 hn) l2 (by omega) (by omega)) (m64 e2 l3 (by omega) (by omega)) (by omega) (by omega)) l1200 (by omega) (by omega)
      have e5 := zint_mid h h2
      have e6 : (n * 2 + (a - n) * 3) / 1200 = zint a n := by rw [← e5]; congr 1; omega
      rw [e6] at e4
      exact ⟨a32 ha (n32 e4 (by omega) (by omega)) (by omega) (by omega), hL, rfl, rfl⟩
    · rw [if_neg (fun q => by have := (lcmp_le e3 l0).mp q; omega)]
      have e4 := d64 (a64 (m64 (w64 hn) l2 (by omega) (by omega)) (a64 l3m (m64 e3 l4 (by omega) (by omega)) (by omega) (by omega)) (by omega) (by omega)) l1200 (by omega) (by omega)
      have e5 := zint_hi (a := a) (n := n) (by omega)
      have e6 : (n * 2 + (3000000 + (a - n - 1000000) * 4)) / 1200 = zint a n := by rw [← e5]; congr 1; omega
      rw [e6] at e4
      exact ⟨a32 ha (n32 e4 (by omega) (by omega)) (by omega) (by omega), hL, rfl, rfl⟩
  · rw [if_neg (fun q => h ((le32 hn ha).mp q))]
    have e2 : (v.2.1.toInt64 - v.2.1.toInt64 : Int64).toInt = 0 := by
      have := s64 (w64 ha) (w64 ha) (by omega) (by omega)
      omega
    have e3 : ((v.2.1.toInt64 - v.2.1.toInt64) - 1000000 : Int64).toInt = 0 - 1000000 := s64 e2 l1m (by omega) (by omega)
    rw [if_pos ((lcmp_le e3 l0).mpr (by omega))]
    have e4 := d64 (a64 (m64 (w64 ha) l2 (by omega) (by omega)) (m64 e2 l3 (by omega) (by omega)) (by omega) (by omega)) l1200 (by omega) (by omega)
    have e5 := zint_lo (a := a) (n := n) (by omega)
    have e6 : (a * 2 + 0 * 3) / 1200 = zint a n := by rw [← e5]; congr 1; omega
    rw [e6] at e4
    exact ⟨a32 ha (n32 e4 (by omega) (by omega)) (by omega) (by omega), hL, rfl, rfl⟩
theorem ext7 {v w : S7} (h1 : v.1 = w.1) (h2 : v.2.1 = w.2.1) (h3 : v.2.2.1 = w.2.2.1) (h4 : v.2.2.2 = w.2.2.2) : v = w := by
  obtain ⟨a, b, c, d⟩ := v
  obtain ⟨a', b', c', d'⟩ := w
  cases h1
  cases h2
  cases h3
  cases h4
  rfl
theorem earn_eqL {v : S7} {a n : Int} (ha : v.2.1.toInt = a) (hn : v.2.2.1.toInt = n) (a0 : 0 ≤ a) (a1 : a ≤ 400000000) (n0 : 0 ≤ n) (n1 : n ≤ 400000000) : Lp_L_closes 0 0 v = F_X5_earn v := by
  obtain ⟨t1, t2, t3, t4⟩ := v_earnL rfl ha hn a0 a1 n0 n1
  obtain ⟨u1, u2, u3, u4⟩ := v_earn rfl ha hn a0 a1 n0 n1
  exact ext7 (t3.trans u3.symm) (i_inj t1 u1) (i_inj t2 u2) (t4.trans u4.symm)
/-- the months of grace and of lapse -/
def EX (m : Nat) (w : S7) : Prop := 0 ≤ w.2.2.2.2.1.toInt ∧ w.2.2.2.2.1.toInt ≤ 2 ∧ 0 ≤ w.2.2.2.2.2.1.toInt ∧ w.2.2.2.2.2.1.toInt ≤ m ∧ (w.1 = 2 → w.2.2.2.2.1 = 0)
theorem st_of4 {s g : Int} {m j : Nat} {w : S7} (B : Bd s g m j w) : w.1 = 0 ∨ w.1 = 1 ∨ w.1 = 2 ∨ w.1 = 3 := by
  obtain ⟨ac, ln, ar, gr, lm, b1, b2, b3, b4, b5, b6, b7, b8, b9, b10, b11⟩ := B
  rcases b11 with ⟨h, -⟩ | ⟨h, -⟩ | ⟨h, -⟩ | h
  · exact Or.inl h
  · exact Or.inr (Or.inl h)
  · exact Or.inr (Or.inr (Or.inl h))
  · exact Or.inr (Or.inr (Or.inr h))
theorem add0 (x : Int32) : x + 0 = x := Int32.add_zero x
theorem sub0 (x : Int32) : x - 0 = x := Int32.sub_zero x
theorem neg32 {x : Int32} {a : Int} (hx : x.toInt = a) (h1 : -2147483648 < a) (h2 : a < 2147483648) : (-x).toInt = -a := by
  rw [Int32.toInt_neg, hx, b32 (by omega) (by omega)]
section ACTEQ
variable {q : S3} {g s k : Int} {m j : Nat} {w : S7} {x : Int32} {xi : Int}
theorem live2 {s g : Int} {m j : Nat} {w : S7} (B : Bd s g m j w) : (2 ≤ w.1 ↔ 1 < w.1) ∧ (2 ≤ w.1 ↔ ¬ w.1 ≤ 1) := by
  rcases st_of4 B with h | h | h | h <;> rw [h] <;> decide
theorem ae_free (hm : m ≤ 240) (hj : j ≤ 61) (B : Bd s g m j w) (hx : x.toInt = xi) (x0 : 1 ≤ xi) : (w.2.1 - w.2.2.1) < x ↔ F_X5_freePart w < x := by
  obtain ⟨ac, ln, ar, gr, lm, b1, b2, b3, b4, b5, b6, b7, b8, b9, b10, b11⟩ := B
  have hL := zL_b hm
  rw [lt32 (s32 b1 b2 (by omega) (by omega)) hx, lt32 (v_free5 b1 b2 b6 (by omega) b8 (by omega)) hx]
  unfold zfree
  split <;> omega
theorem ae_premium (C : Cfg q g s k) (hm : m ≤ 240) (hj : j ≤ 61) (B : Bd s g m j w) (hx : x.toInt = xi) (x0 : 1 ≤ xi) (x1 : xi ≤ 2000000) (pp nn mm : Int32) : F_L_acts (w5 q pp nn) w 0 x mm = F_X5_premium w x := by
  have h2 := live2 B
  obtain ⟨ac, ln, ar, gr, lm, b1, b2, b3, b4, b5, b6, b7, b8, b9, b10, b11⟩ := B
  have hL := zL_b hm
  obtain ⟨y1, y2⟩ := zage_b C hm
  obtain ⟨-, -, -, -, -, c6, c7, -⟩ := C
  have hub := zub_b (g := zage g m) (a := ac) c6 c7 y2 (by omega)
  unfold F_L_acts F_X5_premium
  rw [if_pos rfl]
  by_cases hl : w.1 ≤ 1
  · rw [if_neg (fun z => (h2.2.mp z) hl), if_pos hl]
    have har : ar ≤ 1561000 := by
      rcases b11 with ⟨h, h1, h2⟩ | ⟨h, ⟨h1, h2⟩ | ⟨h1, h2⟩⟩ | ⟨h, -⟩ | h
      · omega
      · omega
      · omega
      · rw [h] at hl
        exact absurd hl (by decide)
      · rw [h] at hl
        exact absurd hl (by decide)
    have hs : (x - w.2.2.2.1 : Int32).toInt = xi - ar := s32 hx b3 (by omega) (by omega)
    by_cases h : ar ≤ xi
    · rw [if_pos ((le32 k0 hs).mpr (by omega)), if_pos ((le32 b3 hx).mpr h), Int32.sub_self, if_pos rfl]
    · have hn : (-(x - w.2.2.2.1) : Int32) = w.2.2.2.1 - x := i_inj (neg32 hs (by omega) (by omega)) (by rw [s32 b3 hx (by omega) (by omega)]; omega)
      rw [if_neg (fun z => by have := (le32 k0 hs).mp z; omega), if_neg (fun z => h ((le32 b3 hx).mp z)), hn, Int32.sub_self, if_neg (fun z => by have := (eq32 (s32 b3 hx (by omega) (by omega)) k0).mp z; omega)]
  · rw [if_pos (h2.2.mpr hl), if_neg hl]
theorem ae_loan (hm : m ≤ 240) (hj : j ≤ 61) (B : Bd s g m j w) (hx : x.toInt = xi) (x0 : 1 ≤ xi) (pp nn mm : Int32) : F_L_acts (w5 q pp nn) w 1 x mm = F_X5_act q.1 q.2.1 q.2.2 w 1 x mm := by
  have hf := ae_free hm hj B hx x0
  unfold F_L_acts F_X5_act
  simp only [if_neg (show ¬ (1 : Int32) = 0 by decide), if_true, Int32.add_zero]
  by_cases h0 : w.1 = 0
  · rw [if_pos h0, if_pos h0]
    by_cases h : F_X5_freePart w < x
    · rw [if_pos (hf.mpr h), if_pos h]
    · rw [if_neg (fun z => h (hf.mp z)), if_neg h]
  · rw [if_neg h0, if_neg h0]
theorem ae_repay (B : Bd s g m j w) (pp nn mm : Int32) : F_L_acts (w5 q pp nn) w 2 x mm = F_X5_act q.1 q.2.1 q.2.2 w 2 x mm := by
  have h2 := live2 B
  unfold F_L_acts F_X5_act
  simp only [if_neg (show ¬ (2 : Int32) = 0 by decide), if_neg (show ¬ (2 : Int32) = 1 by decide), if_true, Int32.sub_zero]
  by_cases h0 : 1 < w.1
  · rw [if_pos (h2.1.mpr h0), if_pos h0]
  · rw [if_neg (fun z => h0 (h2.1.mp z)), if_neg h0]
theorem ae_withdraw (hm : m ≤ 240) (hj : j ≤ 61) (B : Bd s g m j w) (hx : x.toInt = xi) (x0 : 1 ≤ xi) (pp nn mm : Int32) : F_L_acts (w5 q pp nn) w 3 x mm = F_X5_act q.1 q.2.1 q.2.2 w 3 x mm := by
  have hf := ae_free hm hj B hx x0
  unfold F_L_acts F_X5_act
  simp only [if_neg (show ¬ (3 : Int32) = 0 by decide), if_neg (show ¬ (3 : Int32) = 1 by decide), if_neg (show ¬ (3 : Int32) = 2 by decide), if_true, Int32.sub_zero]
  by_cases h0 : w.1 = 0
  · rw [if_pos h0, if_pos h0]
    by_cases h : F_X5_freePart w < x
    · rw [if_pos (hf.mpr h), if_pos h]
    · rw [if_neg (fun z => h (hf.mp z)), if_neg h]
  · rw [if_neg h0, if_neg h0]
theorem ae_revive (hm : m ≤ 240) (B : Bd s g m j w) (E : EX m w) (hx : x.toInt = xi) (x0 : 1 ≤ xi) (x1 : xi ≤ 2000000) (pp nn mm : Int32) : F_L_acts (w5 q pp nn) w 4 x mm = F_X5_revive w x := by
  obtain ⟨ac, ln, ar, gr, lm, b1, b2, b3, b4, b5, b6, b7, b8, b9, b10, b11⟩ := B
  obtain ⟨-, -, ex3, ex4, ex5⟩ := E
  rw [b5] at ex3 ex4
  unfold F_L_acts F_X5_revive
  simp only [if_neg (show ¬ (4 : Int32) = 0 by decide), if_neg (show ¬ (4 : Int32) = 1 by decide), if_neg (show ¬ (4 : Int32) = 2 by decide), if_neg (show ¬ (4 : Int32) = 3 by decide), if_true]
  by_cases h0 : w.1 = 2
  · rw [if_pos h0, if_pos h0]
    by_cases h : 24 ≤ w.2.2.2.2.2.1
    · rw [if_pos h, if_pos h]
    · rw [if_neg h, if_neg h]
      have hl24 : lm < 24 := by
        rcases Int.lt_or_le lm 24 with z | z
        · exact z
        · exact absurd ((le32 k24 b5).mpr z) h
      have har : ar ≤ 2500000 := by
        rcases b11 with ⟨h, -⟩ | ⟨h, -⟩ | ⟨h, h1, h2, h3, -⟩ | h
        · exact absurd (h0.symm.trans h) (by decide)
        · exact absurd (h0.symm.trans h) (by decide)
        · exact h3
        · exact absurd (h0.symm.trans h) (by decide)
      have hdue : (w.2.2.2.1 + (500 * w.2.2.2.2.2.1) : Int32).toInt = ar + 500 * lm := a32 b3 (m32 k500 b5 (by omega) (by omega)) (by omega) (by omega)
      have e1 : ((x - w.2.2.2.1) - (500 * w.2.2.2.2.2.1) : Int32) = x - (w.2.2.2.1 + (500 * w.2.2.2.2.2.1)) := i_inj (s32 (s32 hx b3 (by omega) (by omega)) (m32 k500 b5 (by omega) (by omega)) (by omega) (by omega)) (by rw [s32 hx hdue (by omega) (by omega)]; omega)
      by_cases h2 : ar + 500 * lm ≤ xi
      · rw [if_neg (fun z => by have := (lt32 hx hdue).mp z; omega), if_pos ((le32 hdue hx).mpr h2), e1, ex5 h0]
      · rw [if_pos ((lt32 hx hdue).mpr (by omega)), if_neg (fun z => h2 ((le32 hdue hx).mp z))]
  · rw [if_neg h0, if_neg h0]
theorem ae_death (C : Cfg q g s k) (hm : m ≤ 240) (hj : j ≤ 61) (B : Bd s g m j w) (pp nn : Int32) : F_L_acts (w5 q pp nn) w 5 x (nI m) = F_X5_act q.1 q.2.1 q.2.2 w 5 x (nI m) := by
  have h2 := live2 B
  obtain ⟨ac, ln, ar, gr, lm, b1, b2, b3, b4, b5, b6, b7, b8, b9, b10, b11⟩ := B
  have hL := zL_b hm
  have hd5 := v_deathSumIn C hm b1 b6 (by omega)
  have hdL := v_deathL C hm b1 b6 (by omega) pp nn
  have hd : F_L_death (w5 q pp nn) w (nI m) = F_X5_deathSumIn q.1 q.2.1 q.2.2 w (nI m) := l_inj hdL hd5
  obtain ⟨-, -, -, -, -, c6, c7, -⟩ := C
  obtain ⟨d1, d2⟩ := zds_b (k := k) (zage g m) b6 (show ac ≤ 400000000 by omega) c6 c7
  have e5 : ((F_X5_deathSumIn q.1 q.2.1 q.2.2 w (nI m)) - w.2.2.1.toInt64 : Int64).toInt = zds s k (zage g m) ac - ln := s64 hd5 (w64 b2) (by omega) (by omega)
  unfold F_L_acts F_X5_act
  simp only [if_neg (show ¬ (5 : Int32) = 0 by decide), if_neg (show ¬ (5 : Int32) = 1 by decide), if_neg (show ¬ (5 : Int32) = 2 by decide), if_neg (show ¬ (5 : Int32) = 3 by decide), if_neg (show ¬ (5 : Int32) = 4 by decide), if_true]
  rw [hd]
  by_cases h0 : 1 < w.1
  · rw [if_pos (h2.1.mpr h0), if_pos h0]
  · rw [if_neg (fun z => h0 (h2.1.mp z)), if_neg h0]
    rcases Int.lt_trichotomy (zds s k (zage g m) ac - ln) 0 with h | h | h
    · rw [if_pos ((lcmp_le e5 l0).mpr (by omega)), if_neg (fun z => by have := (lcmp_ge e5 l0).mp z; omega)]
    · rw [if_pos ((lcmp_le e5 l0).mpr (by omega)), if_pos ((lcmp_ge e5 l0).mpr (by omega))]
      have e0 : ((F_X5_deathSumIn q.1 q.2.1 q.2.2 w (nI m)) - w.2.2.1.toInt64 : Int64).toInt32 = 0 := i_inj (n32 e5 (by omega) (by omega)) (by rw [k0, h])
      rw [e0]
    · rw [if_neg (fun z => by have := (lcmp_le e5 l0).mp z; omega), if_pos ((lcmp_ge e5 l0).mpr (by omega))]
theorem act_eqL (C : Cfg q g s k) (hm : m ≤ 240) (hj : j ≤ 61) (B : Bd s g m j w) (E : EX m w) {a : Int32} (h0 : 0 ≤ a) (h5 : a ≤ 5) (x0 : 1 ≤ x) (x1 : x ≤ 2000000) (pp nn : Int32) : F_L_acts (w5 q pp nn) w a x (nI m) = F_X5_act q.1 q.2.1 q.2.2 w a x (nI m) := by
  rw [Int32.le_iff_toInt_le, k1] at x0
  rw [Int32.le_iff_toInt_le, show (2000000 : Int32).toInt = 2000000 by decide +kernel] at x1
  rcases a_of h0 h5 with rfl | rfl | rfl | rfl | rfl | rfl
  · rw [ae_premium C hm hj B rfl x0 x1]
    unfold F_X5_act
    rw [if_pos rfl]
  · exact ae_loan hm hj B rfl x0 pp nn _
  · exact ae_repay B pp nn _
  · exact ae_withdraw hm hj B rfl x0 pp nn _
  · rw [ae_revive hm B E rfl x0 x1]
    unfold F_X5_act
    simp only [if_neg (show ¬ (4 : Int32) = 0 by decide), if_neg (show ¬ (4 : Int32) = 1 by decide), if_neg (show ¬ (4 : Int32) = 2 by decide), if_neg (show ¬ (4 : Int32) = 3 by decide), if_true]
  · exact ae_death C hm hj B pp nn
-- the closing of a month
theorem close_live (C : Cfg q g s k) (hm : m ≤ 240) (hj : j ≤ 61) (B : Bd s g m j w) (hl : w.1 = 0 ∨ w.1 = 1) (pp nn : Int32) : F_L_closes (w5 q pp nn) w m = F_X5_closeMonth q.1 q.2.1 q.2.2 w (nI m) := by
  obtain ⟨s1, s2, s3⟩ := live_le hl
  obtain ⟨ac, ln, ar, gr, lm, b1, b2, b3, b4, b5, b6, b7, b8, b9, b10, b11⟩ := B
  have hL := zL_b hm
  have hcX := v_chargeIn C hm b1 b6 (by omega)
  have hcL := v_chargeL C hm (v := (w.1, w.2.1, w.2.2.1, w.2.2.2.1, w.2.2.2.2.1, w.2.2.2.2.2.1, w.2.2.2.2.2.2)) b1 b6 (by omega) pp nn
  have hc : F_L_charge (w5 q pp nn) (w.1, w.2.1, w.2.2.1, w.2.2.2.1, w.2.2.2.2.1, w.2.2.2.2.2.1, w.2.2.2.2.2.2) m = F_X5_chargeIn q.1 q.2.1 q.2.2 w (nI m) := i_inj hcL hcX
  obtain ⟨y1, y2⟩ := zage_b C hm
  obtain ⟨-, -, -, -, -, c6, c7, -⟩ := C
  have hub := zub_b (g := zage g m) (a := ac) c6 c7 y2 (by omega)
  obtain ⟨-, -, p3, p4⟩ := zch_b (k := k) b6 (show ac ≤ 400000000 by omega) c6 c7 y2
  have har : ar ≤ 1561000 := by
    rcases b11 with ⟨h, h1, h2⟩ | ⟨h, ⟨h1, h2⟩ | ⟨h1, h2⟩⟩ | ⟨h, -⟩ | h
    · omega
    · omega
    · omega
    · exact absurd h s2
    · exact absurd h s3
  have hf := v_free5 b1 b2 b6 (by omega) b8 (by omega)
  have hle := zfree_le b6 b8
  unfold F_L_closes F_X5_closeMonth
  simp only [if_neg s2, if_pos s1, Int32.add_zero, Int32.sub_zero, hc]
  have hfe : F_X5_freePart w = if w.2.1 ≤ w.2.2.1 then 0 else (w.2.1 - w.2.2.1) := rfl
  generalize F_X5_chargeIn q.1 q.2.1 q.2.2 w (nI m) = cI at hcX ⊢
  generalize zch s k (zage g m) ac = cc at hcX p3 p4
  have hdue := a32 hcX b3 (by omega) (by omega)
  have eG := earn_eqL (v := (1, w.2.1, w.2.2.1, (cI + w.2.2.2.1), (w.2.2.2.2.1 + 1), w.2.2.2.2.2.1, w.2.2.2.2.2.2)) b1 b2 b6 (by omega) b8 (by omega)
  have eP : ¬ F_X5_freePart w < (cI + w.2.2.2.1) → Lp_L_closes 0 0 (0, (w.2.1 - (cI + w.2.2.2.1)), w.2.2.1, 0, 0, w.2.2.2.2.2.1, w.2.2.2.2.2.2) = F_X5_earn (0, (w.2.1 - (cI + w.2.2.2.1)), w.2.2.1, 0, 0, w.2.2.2.2.2.1, w.2.2.2.2.2.2) := fun z => by
    have h9 : cc + ar ≤ zfree ac ln := by
      rcases Int.lt_or_le (zfree ac ln) (cc + ar) with q9 | q9
      · exact absurd ((lt32 hf hdue).mpr q9) z
      · exact q9
    exact earn_eqL (a := ac - (cc + ar)) (n := ln) (s32 b1 hdue (by omega) (by omega)) b2 (by omega) (by omega) b8 (by omega)
  have tail : (if F_X5_freePart w < (cI + w.2.2.2.1) then (if (w.2.2.2.2.1 + 1) = 3 then ((2, 0, 0, (cI + w.2.2.2.1), 0, 0, w.2.2.2.2.2.2) : S7) else Lp_L_closes 0 0 (1, w.2.1, w.2.2.1, (cI + w.2.2.2.1), (w.2.2.2.2.1 + 1), w.2.2.2.2.2.1, w.2.2.2.2.2.2)) else Lp_L_closes 0 0 (0, (w.2.1 - (cI + w.2.2.2.1)), w.2.2.1, 0, 0, w.2.2.2.2.2.1, w.2.2.2.2.2.2)) =
      (if F_X5_freePart w < (cI + w.2.2.2.1) then (if (w.2.2.2.2.1 + 1) = 3 then (2, 0, 0, (w.2.2.2.1 + cI), 0, 0, w.2.2.2.2.2.2) else F_X5_earn (1, w.2.1, w.2.2.1, (w.2.2.2.1 + cI), (w.2.2.2.2.1 + 1), w.2.2.2.2.2.1, w.2.2.2.2.2.2)) else F_X5_earn (0, (w.2.1 - (cI + w.2.2.2.1)), w.2.2.1, 0, 0, w.2.2.2.2.2.1, w.2.2.2.2.2.2)) := by
    by_cases h : F_X5_freePart w < (cI + w.2.2.2.1)
    · rw [if_pos h, if_pos h, eG, Int32.add_comm w.2.2.2.1 cI]
    · rw [if_neg h, if_neg h]
      exact eP h
  rw [← tail]
  by_cases hla : w.2.1 ≤ w.2.2.1
  · rw [if_pos hla] at hfe
    rw [if_pos hla, hfe]
  · rw [if_neg hla] at hfe
    rw [if_neg hla, hfe]
theorem close_eqL (C : Cfg q g s k) (hm : m ≤ 240) (hj : j ≤ 61) (B : Bd s g m j w) (pp nn : Int32) : F_L_closes (w5 q pp nn) w m = F_X5_closeMonth q.1 q.2.1 q.2.2 w (nI m) := by
  rcases st_of4 B with h | h | h | h
  · exact close_live C hm hj B (Or.inl h) pp nn
  · exact close_live C hm hj B (Or.inr h) pp nn
  · unfold F_L_closes F_X5_closeMonth
    rw [if_pos h, if_pos h, if_neg (show ¬ w.1 ≤ 1 by rw [h]; decide)]
  · unfold F_L_closes F_X5_closeMonth
    rw [if_neg (show ¬ w.1 = 2 by rw [h]; decide), if_neg (show ¬ w.1 ≤ 1 by rw [h]; decide), if_neg (show ¬ w.1 = 2 by rw [h]; decide), if_neg (show ¬ w.1 ≤ 1 by rw [h]; decide), Int32.add_zero]
end ACTEQ
-- the months of grace and lapse
theorem EX.mono {m : Nat} {w : S7} (E : EX m w) : EX (m + 1) w := by
  obtain ⟨h1, h2, h3, h4, h5⟩ := E
  exact ⟨h1, h2, h3, by omega, h5⟩
theorem ex_of {m : Nat} {w w' : S7} (E : EX m w) (h1 : w'.2.2.2.2.1 = w.2.2.2.2.1 ∨ w'.2.2.2.2.1 = 0) (h2 : w'.2.2.2.2.2.1 = w.2.2.2.2.2.1) (h3 : w'.1 = 2 → w.1 = 2) : EX m w' := by
  obtain ⟨e1, e2, e3, e4, e5⟩ := E
  unfold EX
  rw [h2]
  rcases h1 with h | h
  · rw [h]
    exact ⟨e1, e2, e3, e4, fun z => e5 (h3 z)⟩
  · rw [h]
    exact ⟨by decide, by decide, e3, e4, fun _ => rfl⟩
theorem ex_premium {m : Nat} {w : S7} (E : EX m w) (x : Int32) : EX m (F_X5_premium w x).2 := by
  have n0 : ¬ (0 : Int32) = 2 := by decide
  unfold F_X5_premium
  by_cases h1 : w.1 ≤ 1
  · rw [if_pos h1]
    by_cases h2 : w.2.2.2.1 ≤ x
    · rw [if_pos h2]
      by_cases h3 : (w.2.2.2.1 - w.2.2.2.1) = 0
      · rw [if_pos h3]
        exact ex_of E (Or.inr rfl) rfl (fun z => absurd z n0)
      · rw [if_neg h3]
        exact ex_of E (Or.inl rfl) rfl (fun z => z)
    · rw [if_neg h2]
      by_cases h3 : (w.2.2.2.1 - x) = 0
      · rw [if_pos h3]
        exact ex_of E (Or.inr rfl) rfl (fun z => absurd z n0)
      · rw [if_neg h3]
        exact ex_of E (Or.inl rfl) rfl (fun z => z)
  · rw [if_neg h1]
    exact E
theorem ex_revive {m : Nat} {w : S7} (E : EX m w) (x : Int32) : EX m (F_X5_revive w x).2 := by
  have n0 : ¬ (0 : Int32) = 2 := by decide
  unfold F_X5_revive
  by_cases h1 : w.1 = 2
  · rw [if_pos h1]
    by_cases h2 : 24 ≤ w.2.2.2.2.2.1
    · rw [if_pos h2]
      exact E
    · rw [if_neg h2]
      by_cases h3 : (w.2.2.2.1 + (500 * w.2.2.2.2.2.1)) ≤ x
      · rw [if_pos h3]
        exact ex_of E (Or.inr rfl) rfl (fun z => absurd z n0)
      · rw [if_neg h3]
        exact E
  · rw [if_neg h1]
    exact E
theorem ex_act {q : S3} {m : Nat} {w : S7} (E : EX m w) (a x mm : Int32) : EX m (F_X5_act q.1 q.2.1 q.2.2 w a x mm).2 := by
  have n3 : ¬ (3 : Int32) = 2 := by decide
  have same : ∀ v : S7, v.1 = w.1 → v.2.2.2.2 = w.2.2.2.2 → EX m v := fun v h1 h2 => ex_of E (Or.inl (by rw [h2])) (by rw [h2]) (fun z => by rw [← h1]; exact z)
  unfold F_X5_act
  by_cases h0 : a = 0
  · rw [if_pos h0]
    exact ex_premium E x
  · rw [if_neg h0]
    by_cases h1 : a = 1
    · rw [if_pos h1]
      by_cases c1 : w.1 = 0
      · rw [if_pos c1]
        by_cases c2 : F_X5_freePart w < x
        · rw [if_pos c2]
          exact same _ rfl rfl
        · rw [if_neg c2]
          exact same _ rfl rfl
      · rw [if_neg c1]
        exact same _ rfl rfl
    · rw [if_neg h1]
      by_cases h2 : a = 2
      · rw [if_pos h2]
        by_cases c1 : 1 < w.1
        · rw [if_pos c1]
          exact same _ rfl rfl
        · rw [if_neg c1]
          by_cases c2 : w.2.2.1 < x
          · rw [if_pos c2]
            exact same _ rfl rfl
          · rw [if_neg c2]
            exact same _ rfl rfl
      · rw [if_neg h2]
        by_cases h3 : a = 3
        · rw [if_pos h3]
          by_cases c1 : w.1 = 0
          · rw [if_pos c1]
            by_cases c2 : F_X5_freePart w < x
            · rw [if_pos c2]
              exact same _ rfl rfl
            · rw [if_neg c2]
              exact same _ rfl rfl
          · rw [if_neg c1]
            exact same _ rfl rfl
        · rw [if_neg h3]
          by_cases h4 : a = 4
          · rw [if_pos h4]
            exact ex_revive E x
          · rw [if_neg h4]
            by_cases c1 : 1 < w.1
            · rw [if_pos c1]
              exact E
            · rw [if_neg c1]
              split
              · exact ex_of E (Or.inl rfl) rfl (fun z => absurd z n3)
              · exact ex_of E (Or.inl rfl) rfl (fun z => absurd z n3)
theorem ite_keep {c : Prop} [d : Decidable c] {a b : S7} {x : Int32} {y : Int32 × Int32 × Int32 × Int32} (h1 : a.1 = x ∧ a.2.2.2 = y) (h2 : b.1 = x ∧ b.2.2.2 = y) : (if c then a else b).1 = x ∧ (if c then a else b).2.2.2 = y := by
  by_cases h : c
  · rw [if_pos h]
    exact h1
  · rw [if_neg h]
    exact h2
theorem tup_keep (v : S7) (a b : Int32) : ((v.1, a, b, v.2.2.2.1, v.2.2.2.2.1, v.2.2.2.2.2.1, v.2.2.2.2.2.2) : S7).1 = v.1 ∧ ((v.1, a, b, v.2.2.2.1, v.2.2.2.2.1, v.2.2.2.2.2.1, v.2.2.2.2.2.2) : S7).2.2.2 = v.2.2.2 := ⟨rfl, rfl⟩
theorem earn_keep (v : S7) : (F_X5_earn v).1 = v.1 ∧ (F_X5_earn v).2.2.2 = v.2.2.2 := by
  unfold F_X5_earn
  exact ite_keep (ite_keep (tup_keep v _ _) (tup_keep v _ _)) (ite_keep (tup_keep v _ _) (tup_keep v _ _))
theorem ex_close {q : S3} {m : Nat} {w : S7} (hm : m ≤ 240) (E : EX m w) (h4 : w.1 = 0 ∨ w.1 = 1 ∨ w.1 = 2 ∨ w.1 = 3) : EX (m + 1) (F_X5_closeMonth q.1 q.2.1 q.2.2 w (nI m)) := by
  have E2 := E
  obtain ⟨e1, e2, e3, e4, e5⟩ := E
  have live : (w.1 = 0 ∨ w.1 = 1) → EX (m + 1) (F_X5_closeMonth q.1 q.2.1 q.2.2 w (nI m)) := fun hl => by
    obtain ⟨s1, s2, s3⟩ := live_le hl
    unfold F_X5_closeMonth
    rw [if_neg s2, if_pos s1]
    split
    · split
      · exact ⟨by show (0 : Int) ≤ (0 : Int32).toInt; decide, by show (0 : Int32).toInt ≤ (2 : Int); decide, by show (0 : Int) ≤ (0 : Int32).toInt; decide, by show ((0 : Int32).toInt : Int) ≤ ((m + 1 : Nat) : Int); rw [k0]; omega, fun _ => rfl⟩
      · rename_i h3
        obtain ⟨t1, t2⟩ := earn_keep (1, w.2.1, w.2.2.1, (w.2.2.2.1 + (F_X5_chargeIn q.1 q.2.1 q.2.2 w (nI m))), (w.2.2.2.2.1 + 1), w.2.2.2.2.2.1, w.2.2.2.2.2.2)
        unfold EX
        rw [t1, t2]
        have hg := a32 (x := w.2.2.2.2.1) (y := 1) rfl k1 (by omega) (by omega)
        have h9 : ¬ w.2.2.2.2.1.toInt + 1 = 3 := fun z => h3 ((eq32 hg k3).mpr z)
        show 0 ≤ (w.2.2.2.2.1 + 1 : Int32).toInt ∧ (w.2.2.2.2.1 + 1 : Int32).toInt ≤ 2 ∧ 0 ≤ w.2.2.2.2.2.1.toInt ∧ w.2.2.2.2.2.1.toInt ≤ ((m + 1 : Nat) : Int) ∧ ((1 : Int32) = 2 → _)
        rw [hg]
        exact ⟨by omega, by omega, e3, by omega, fun z => absurd z (by decide)⟩
    · obtain ⟨t1, t2⟩ := earn_keep (0, (w.2.1 - ((F_X5_chargeIn q.1 q.2.1 q.2.2 w (nI m)) + w.2.2.2.1)), w.2.2.1, 0, 0, w.2.2.2.2.2.1, w.2.2.2.2.2.2)
      unfold EX
      rw [t1, t2]
      exact ⟨by show (0 : Int) ≤ (0 : Int32).toInt; decide, by show (0 : Int32).toInt ≤ (2 : Int); decide, e3, by show w.2.2.2.2.2.1.toInt ≤ ((m + 1 : Nat) : Int); omega, fun _ => rfl⟩
  rcases h4 with h | h | h | h
  · exact live (Or.inl h)
  · exact live (Or.inr h)
  · unfold F_X5_closeMonth
    rw [if_pos h, if_neg (show ¬ w.1 ≤ 1 by rw [h]; decide)]
    have hg := a32 (x := w.2.2.2.2.2.1) (y := 1) rfl k1 (by omega) (by omega)
    unfold EX
    show 0 ≤ w.2.2.2.2.1.toInt ∧ w.2.2.2.2.1.toInt ≤ 2 ∧ 0 ≤ (w.2.2.2.2.2.1 + 1 : Int32).toInt ∧ (w.2.2.2.2.2.1 + 1 : Int32).toInt ≤ ((m + 1 : Nat) : Int) ∧ (w.1 = 2 → w.2.2.2.2.1 = 0)
    rw [hg]
    exact ⟨e1, e2, by omega, by omega, e5⟩
  · unfold F_X5_closeMonth
    rw [if_neg (show ¬ w.1 = 2 by rw [h]; decide), if_neg (show ¬ w.1 ≤ 1 by rw [h]; decide)]
    exact E2.mono
end LMATH
