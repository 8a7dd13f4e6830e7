section ACT
/-- what the class does with an act -/
def cact (q : S3) (v : S7) (a x m : Int32) : Bool × S7 :=
  if a = 0 then F_X3_takePremium v x else if a = 1 then F_X3_lend v x else if a = 2 then F_X3_repay v x else if a = 3 then F_X3_withdraw v x else if a = 4 then F_X3_revive v x m else if a = 5 then F_X3_die v (F_X2_deathSumFor q v.2.1 m) else (false, v)
theorem Bd.next {s g : Int} {m j : Nat} {w : S7} (B : Bd s g m j w) : Bd s g m (j + 1) w := by
  obtain ⟨ac, ln, ar, gr, lm, b1, b2, b3, b4, b5, b6, b7, b8, b9, b10, b11⟩ := B
  exact ⟨ac, ln, ar, gr, lm, b1, b2, b3, b4, b5, b6, by omega, b8, b9, b10, b11⟩
theorem eta7 (w : S7) : (w.1, w.2.1, w.2.2.1, w.2.2.2.1, w.2.2.2.2.1, w.2.2.2.2.2.1, w.2.2.2.2.2.2) = w := rfl
def SA (q : S3) (s g : Int) (m j : Nat) (v w : S7) (c d : Bool × S7) : Prop := c.1 = d.1 ∧ Rs m c.2 d.2 ∧ Bd s g m (j + 1) d.2
section
variable {q : S3} {g s k : Int} {m j : Nat} {v w : S7} {x : Int32} {xi : Int}
theorem st_ne {a b : Int32} (h : a = 0) (hb : b ≠ 0) : ¬ a = b := fun e => hb (e.symm.trans h)
theorem sa_premium (C : Cfg q g s k) (hm : m ≤ 240) (hj : j ≤ 60) (R : Rs m v w) (B : Bd s g m j w) (hx : x.toInt = xi) (x0 : 1 ≤ xi) (x1 : xi ≤ 2000000) : SA q s g m j v w (F_X3_takePremium v x) (F_X5_premium w x) := by
  obtain ⟨y1, y2⟩ := zage_b C hm
  obtain ⟨-, -, -, -, -, c6, c7, -⟩ := C
  obtain ⟨r1, r2, r3, r4, r5, r6, r7, r8, r9⟩ := id R
  obtain ⟨ac, ln, ar, gr, lm, b1, b2, b3, b4, b5, b6, b7, b8, b9, b10, b11⟩ := id B
  have hL := zL_b hm
  have hub := zub_b (g := zage g m) (a := ac) c6 c7 y2 (by omega)
  unfold F_X3_takePremium F_X5_premium
  by_cases hst : w.1 = 0 ∨ w.1 = 1
  · obtain ⟨s1, s2, s3⟩ := live_le hst
    have har : ar ≤ 1561000 ∧ (w.1 = 0 → ar = 0) := by
      rcases b11 with ⟨h, h1, h2⟩ | ⟨h, ⟨h1, h2⟩ | ⟨h1, h2⟩⟩ | ⟨h, -⟩ | h
      · exact ⟨by omega, fun _ => h1⟩
      · exact ⟨by omega, fun h9 => absurd (h.symm.trans h9) (by decide)⟩
      · exact ⟨by omega, fun h9 => absurd (h.symm.trans h9) (by decide)⟩
      · exact absurd h s2
      · exact absurd h s3
    have h3 : v.2.2.2.1.toInt = ar := by rw [r4]; exact b3
    rw [live3 (by rw [r1]; exact hst), if_neg (show ¬ bI true = 0 by decide), if_pos s1]
    by_cases h : ar ≤ xi
    · have e1 : (if v.2.2.2.1 < x then v.2.2.2.1 else x : Int32) = v.2.2.2.1 := by
        by_cases h2 : ar < xi
        · exact if_pos ((lt32 h3 hx).mpr h2)
        · rw [if_neg (fun z => h2 ((lt32 h3 hx).mp z))]
          exact i_inj hx (by rw [h3]; omega)
      rw [e1, Int32.sub_self, if_pos rfl, if_pos ((le32 b3 hx).mpr h), Int32.sub_self, if_pos rfl]
      unfold F_X3_putInForce
      refine ⟨rfl, ⟨rfl, ?_, r3, rfl, fun h9 => absurd (show (0 : Int32) = 1 from h9) (by decide), fun _ => rfl, fun h9 => absurd (show (0 : Int32) = 2 from h9) (by decide), fun h9 => absurd (show (0 : Int32) = 3 from h9) (by decide), fun _ => r9 s3⟩, ?_⟩
      · show v.2.1 + (x - v.2.2.2.1) = w.2.1 + (x - w.2.2.2.1)
        rw [r2, r4]
      · exact ⟨_, _, _, _, _, a32 b1 (s32 hx b3 (by omega) (by omega)) (by omega) (by omega), b2, k0, k0, b5, by omega, by omega, b8, b9, by omega, Or.inl ⟨rfl, rfl, rfl⟩⟩
    · have e1 : (if v.2.2.2.1 < x then v.2.2.2.1 else x : Int32) = x := if_neg (fun z => by have := (lt32 h3 hx).mp z; omega)
      have h1 : w.1 = 1 := by
        rcases hst with h0 | h0
        · have := har.2 h0
          omega
        · exact h0
      rw [e1, Int32.sub_self, if_neg (fun z => by have := (eq32 (s32 h3 hx (by omega) (by omega)) k0).mp z; omega), if_neg (fun z => h ((le32 b3 hx).mp z)), if_neg (fun z => by have := (eq32 (s32 b3 hx (by omega) (by omega)) k0).mp z; omega)]
      refine ⟨rfl, ⟨r1, ?_, r3, ?_, r5, r6, r7, r8, r9⟩, ?_⟩
      · show v.2.1 + 0 = w.2.1 + 0
        rw [r2]
      · show v.2.2.2.1 - x = w.2.2.2.1 - x
        rw [r4]
      · refine ⟨_, _, _, _, _, a32 b1 k0 (by omega) (by omega), b2, s32 b3 hx (by omega) (by omega), b4, b5, by omega, by omega, b8, b9, by omega, Or.inr (Or.inl ⟨h1, ?_⟩)⟩
        rw [show ac + 0 = ac by omega]
        rcases b11 with ⟨h9, -⟩ | ⟨-, ⟨g1, g2⟩ | ⟨g1, g2⟩⟩ | ⟨h9, -⟩ | h9
        · exact absurd (h1.symm.trans h9) (by decide)
        · exact Or.inl ⟨g1, by omega⟩
        · exact Or.inr ⟨g1, by omega⟩
        · exact absurd h9 s2
        · exact absurd h9 s3
  · have h23 : w.1 = 2 ∨ w.1 = 3 := by
      rcases b11 with ⟨h, -⟩ | ⟨h, -⟩ | ⟨h, -⟩ | h
      · exact absurd (Or.inl h) hst
      · exact absurd (Or.inr h) hst
      · exact Or.inl h
      · exact Or.inr h
    rw [notlive3 (by rw [r1]; exact h23), if_pos (show bI false = 0 by decide), if_neg (show ¬ w.1 ≤ 1 by rcases h23 with h | h <;> rw [h] <;> decide)]
    exact ⟨rfl, R, B.next⟩
theorem sa_loan (C : Cfg q g s k) (hm : m ≤ 240) (hj : j ≤ 60) (R : Rs m v w) (B : Bd s g m j w) (hx : x.toInt = xi) (x0 : 1 ≤ xi) (x1 : xi ≤ 2000000) : SA q s g m j v w (F_X3_lend v x) (F_X5_act q.1 q.2.1 q.2.2 w 1 x (nI m)) := by
  obtain ⟨r1, r2, r3, r4, r5, r6, r7, r8, r9⟩ := id R
  obtain ⟨ac, ln, ar, gr, lm, b1, b2, b3, b4, b5, b6, b7, b8, b9, b10, b11⟩ := id B
  have hL := zL_b hm
  unfold F_X3_lend F_X5_act
  rw [if_neg (show ¬ (1 : Int32) = 0 by decide), if_pos (show (1 : Int32) = 1 from rfl)]
  by_cases hst : w.1 = 0
  · rw [if_pos (r1.trans hst), if_pos hst]
    have hf3 := v_free3 (v := v) (by rw [r2]; exact b1) (by rw [r3]; exact b2) b6 (by omega) b8 (by omega)
    have hf5 := v_free5 b1 b2 b6 (by omega) b8 (by omega)
    by_cases h : xi ≤ zfree ac ln
    · rw [if_pos ((le32 hx hf3).mpr h), if_neg (fun z => by have := (lt32 hf5 hx).mp z; omega)]
      have hle : ln + xi ≤ ac := by
        unfold zfree at h
        split at h <;> omega
      refine ⟨rfl, ⟨r1, r2, ?_, r4, r5, r6, r7, r8, r9⟩, ?_⟩
      · show v.2.2.1 + x = w.2.2.1 + x
        rw [r3]
      · refine ⟨_, _, _, _, _, b1, a32 b2 hx (by omega) (by omega), b3, b4, b5, b6, by omega, by omega, by omega, b10, ?_⟩
        rcases b11 with ⟨h9, h8⟩ | ⟨h9, -⟩ | ⟨h9, -⟩ | h9
        · exact Or.inl ⟨h9, h8⟩
        · exact absurd (hst.symm.trans h9) (by decide)
        · exact absurd (hst.symm.trans h9) (by decide)
        · exact absurd (hst.symm.trans h9) (by decide)
    · rw [if_neg (fun z => h ((le32 hx hf3).mp z)), if_pos ((lt32 hf5 hx).mpr (by omega)), Int32.add_zero, eta7]
      exact ⟨rfl, R, B.next⟩
  · rw [if_neg (fun z => hst (r1.symm.trans z)), if_neg hst, Int32.add_zero, eta7]
    exact ⟨rfl, R, B.next⟩
theorem sa_repay (C : Cfg q g s k) (hm : m ≤ 240) (hj : j ≤ 60) (R : Rs m v w) (B : Bd s g m j w) (hx : x.toInt = xi) (x0 : 1 ≤ xi) (x1 : xi ≤ 2000000) : SA q s g m j v w (F_X3_repay v x) (F_X5_act q.1 q.2.1 q.2.2 w 2 x (nI m)) := by
  obtain ⟨r1, r2, r3, r4, r5, r6, r7, r8, r9⟩ := id R
  obtain ⟨ac, ln, ar, gr, lm, b1, b2, b3, b4, b5, b6, b7, b8, b9, b10, b11⟩ := id B
  have hL := zL_b hm
  unfold F_X3_repay F_X5_act
  rw [if_neg (show ¬ (2 : Int32) = 0 by decide), if_neg (show ¬ (2 : Int32) = 1 by decide), if_pos (show (2 : Int32) = 2 from rfl)]
  by_cases hst : w.1 = 0 ∨ w.1 = 1
  · obtain ⟨s1, s2, s3⟩ := live_le hst
    rw [live3 (by rw [r1]; exact hst), if_neg (show ¬ bI true = 0 by decide), if_neg (show ¬ 1 < w.1 by rcases hst with h | h <;> rw [h] <;> decide)]
    by_cases h : xi ≤ ln
    · rw [if_pos ((le32 hx (by rw [r3]; exact b2)).mpr h), if_neg (fun z => by have := (lt32 b2 hx).mp z; omega)]
      refine ⟨rfl, ⟨r1, r2, ?_, r4, r5, r6, r7, r8, r9⟩, ?_⟩
      · show v.2.2.1 - x = w.2.2.1 - x
        rw [r3]
      · refine ⟨_, _, _, _, _, b1, s32 b2 hx (by omega) (by omega), b3, b4, b5, b6, by omega, by omega, by omega, b10, ?_⟩
        rcases b11 with h9 | h9 | ⟨h9, -⟩ | h9
        · exact Or.inl h9
        · exact Or.inr (Or.inl h9)
        · exact absurd h9 s2
        · exact absurd h9 s3
    · rw [if_neg (fun z => h ((le32 hx (by rw [r3]; exact b2)).mp z)), if_pos ((lt32 b2 hx).mpr (by omega)), Int32.sub_zero, eta7]
      exact ⟨rfl, R, B.next⟩
  · have h23 : w.1 = 2 ∨ w.1 = 3 := by
      rcases b11 with ⟨h, -⟩ | ⟨h, -⟩ | ⟨h, -⟩ | h
      · exact absurd (Or.inl h) hst
      · exact absurd (Or.inr h) hst
      · exact Or.inl h
      · exact Or.inr h
    rw [notlive3 (by rw [r1]; exact h23), if_pos (show bI false = 0 by decide), if_pos (show 1 < w.1 by rcases h23 with h | h <;> rw [h] <;> decide), Int32.sub_zero, eta7]
    exact ⟨rfl, R, B.next⟩
theorem sa_withdraw (C : Cfg q g s k) (hm : m ≤ 240) (hj : j ≤ 60) (R : Rs m v w) (B : Bd s g m j w) (hx : x.toInt = xi) (x0 : 1 ≤ xi) (x1 : xi ≤ 2000000) : SA q s g m j v w (F_X3_withdraw v x) (F_X5_act q.1 q.2.1 q.2.2 w 3 x (nI m)) := by
  obtain ⟨r1, r2, r3, r4, r5, r6, r7, r8, r9⟩ := id R
  obtain ⟨ac, ln, ar, gr, lm, b1, b2, b3, b4, b5, b6, b7, b8, b9, b10, b11⟩ := id B
  have hL := zL_b hm
  unfold F_X3_withdraw F_X5_act
  rw [if_neg (show ¬ (3 : Int32) = 0 by decide), if_neg (show ¬ (3 : Int32) = 1 by decide), if_neg (show ¬ (3 : Int32) = 2 by decide), if_pos (show (3 : Int32) = 3 from rfl)]
  by_cases hst : w.1 = 0
  · rw [if_pos (r1.trans hst), if_pos hst]
    have hf3 := v_free3 (v := v) (by rw [r2]; exact b1) (by rw [r3]; exact b2) b6 (by omega) b8 (by omega)
    have hf5 := v_free5 b1 b2 b6 (by omega) b8 (by omega)
    by_cases h : xi ≤ zfree ac ln
    · rw [if_pos ((le32 hx hf3).mpr h), if_neg (fun z => by have := (lt32 hf5 hx).mp z; omega)]
      have hle : ln + xi ≤ ac := by
        unfold zfree at h
        split at h <;> omega
      refine ⟨rfl, ⟨r1, ?_, r3, r4, r5, r6, r7, r8, r9⟩, ?_⟩
      · show v.2.1 - x = w.2.1 - x
        rw [r2]
      · refine ⟨_, _, _, _, _, s32 b1 hx (by omega) (by omega), b2, b3, b4, b5, by omega, by omega, by omega, by omega, b10, ?_⟩
        rcases b11 with ⟨h9, h8⟩ | ⟨h9, -⟩ | ⟨h9, -⟩ | h9
        · exact Or.inl ⟨h9, h8⟩
        · exact absurd (hst.symm.trans h9) (by decide)
        · exact absurd (hst.symm.trans h9) (by decide)
        · exact absurd (hst.symm.trans h9) (by decide)
    · rw [if_neg (fun z => h ((le32 hx hf3).mp z)), if_pos ((lt32 hf5 hx).mpr (by omega)), Int32.sub_zero, eta7]
      exact ⟨rfl, R, B.next⟩
  · rw [if_neg (fun z => hst (r1.symm.trans z)), if_neg hst, Int32.sub_zero, eta7]
    exact ⟨rfl, R, B.next⟩
theorem sa_revive (C : Cfg q g s k) (hm : m ≤ 240) (hj : j ≤ 60) (R : Rs m v w) (B : Bd s g m j w) (hx : x.toInt = xi) (x0 : 1 ≤ xi) (x1 : xi ≤ 2000000) : SA q s g m j v w (F_X3_revive v x (nI m)) (F_X5_revive w x) := by
  obtain ⟨r1, r2, r3, r4, r5, r6, r7, r8, r9⟩ := id R
  obtain ⟨ac, ln, ar, gr, lm, b1, b2, b3, b4, b5, b6, b7, b8, b9, b10, b11⟩ := id B
  have hL := zL_b hm
  unfold F_X3_revive F_X5_revive
  by_cases hst : w.1 = 2
  · rw [if_pos (r1.trans hst), if_pos hst, ← r7 hst]
    have b12 : ac = 0 ∧ ln = 0 ∧ ar ≤ 2500000 ∧ 0 ≤ lm ∧ lm ≤ m := by
      rcases b11 with ⟨h9, -⟩ | ⟨h9, -⟩ | ⟨-, h9⟩ | h9
      · exact absurd (hst.symm.trans h9) (by decide)
      · exact absurd (hst.symm.trans h9) (by decide)
      · exact h9
      · exact absurd (hst.symm.trans h9) (by decide)
    obtain ⟨q1, q2, q3, q4, q5⟩ := b12
    by_cases h : 24 ≤ lm
    · rw [if_pos ((le32 k24 b5).mpr h), if_pos ((le32 k24 b5).mpr h)]
      exact ⟨rfl, R, B.next⟩
    · rw [if_neg (fun z => h ((le32 k24 b5).mp z)), if_neg (fun z => h ((le32 k24 b5).mp z))]
      have hdue : (w.2.2.2.1 + (500 * w.2.2.2.2.2.1) : Int32).toInt = ar + 500 * lm := a32 b3 (m32 k500 b5 (by omega) (by omega)) (by omega) (by omega)
      rw [r4]
      by_cases h2 : ar + 500 * lm ≤ xi
      · rw [if_pos ((le32 hdue hx).mpr h2), if_pos ((le32 hdue hx).mpr h2)]
        unfold F_X3_putInForce
        have hac : v.2.1 = 0 := by rw [r2]; exact i_inj b1 (by rw [k0, q1])
        refine ⟨rfl, ⟨rfl, ?_, r3, rfl, fun h9 => absurd (show (0 : Int32) = 1 from h9) (by decide), fun _ => rfl, fun h9 => absurd (show (0 : Int32) = 2 from h9) (by decide), fun h9 => absurd (show (0 : Int32) = 3 from h9) (by decide), fun _ => r9 (by rw [hst]; decide)⟩, ?_⟩
        · show v.2.1 + _ = _
          rw [hac, Int32.zero_add]
        · exact ⟨_, _, _, _, _, s32 hx hdue (by omega) (by omega), b2, k0, k0, b5, by omega, by omega, by omega, by omega, by omega, Or.inl ⟨rfl, rfl, rfl⟩⟩
      · rw [if_neg (fun z => h2 ((le32 hdue hx).mp z)), if_neg (fun z => h2 ((le32 hdue hx).mp z))]
        exact ⟨rfl, R, B.next⟩
  · rw [if_neg (fun z => hst (r1.symm.trans z)), if_neg hst]
    exact ⟨rfl, R, B.next⟩
theorem sa_death (C : Cfg q g s k) (hm : m ≤ 240) (hj : j ≤ 60) (R : Rs m v w) (B : Bd s g m j w) : SA q s g m j v w (F_X3_die v (F_X2_deathSumFor q v.2.1 (nI m))) (F_X5_act q.1 q.2.1 q.2.2 w 5 x (nI m)) := by
  obtain ⟨r1, r2, r3, r4, r5, r6, r7, r8, r9⟩ := id R
  obtain ⟨ac, ln, ar, gr, lm, b1, b2, b3, b4, b5, b6, b7, b8, b9, b10, b11⟩ := id B
  have hL := zL_b hm
  have hd3 := v_deathSumFor C hm (x := v.2.1) (by rw [r2]; exact b1) b6 (by omega)
  have hd5 := v_deathSumIn C hm b1 b6 (by omega)
  obtain ⟨-, -, -, -, -, c6, c7, -⟩ := C
  obtain ⟨d1, d2⟩ := zds_b (k := k) (zage g m) b6 (show ac ≤ 400000000 by omega) c6 c7
  have e3 : ((F_X2_deathSumFor q v.2.1 (nI m)) - v.2.2.1 : Int32).toInt = zds s k (zage g m) ac - ln := s32 hd3 (by rw [r3]; exact b2) (by omega) (by omega)
  have e5 : ((F_X5_deathSumIn q.1 q.2.1 q.2.2 w (nI m)) - w.2.2.1.toInt64 : Int64).toInt = zds s k (zage g m) ac - ln := s64 hd5 (w64 b2) (by omega) (by omega)
  unfold F_X3_die F_X5_act
  rw [if_neg (show ¬ (5 : Int32) = 0 by decide), if_neg (show ¬ (5 : Int32) = 1 by decide), if_neg (show ¬ (5 : Int32) = 2 by decide), if_neg (show ¬ (5 : Int32) = 3 by decide), if_neg (show ¬ (5 : Int32) = 4 by decide)]
  by_cases hst : w.1 = 0 ∨ w.1 = 1
  · rw [live3 (by rw [r1]; exact hst), if_neg (show ¬ bI true = 0 by decide), if_neg (show ¬ 1 < w.1 by rcases hst with h | h <;> rw [h] <;> decide)]
    by_cases h : 0 ≤ zds s k (zage g m) ac - ln
    · rw [if_pos ((lcmp_ge e5 l0).mpr h)]
      have e9 : (if 0 < ((F_X2_deathSumFor q v.2.1 (nI m)) - v.2.2.1) then ((F_X2_deathSumFor q v.2.1 (nI m)) - v.2.2.1) else 0 : Int32) = ((F_X5_deathSumIn q.1 q.2.1 q.2.2 w (nI m)) - w.2.2.1.toInt64).toInt32 := by
        refine i_inj ?_ (n32 e5 (by omega) (by omega))
        by_cases h2 : 0 < zds s k (zage g m) ac - ln
        · rw [if_pos ((lt32 k0 e3).mpr h2)]
          exact e3
        · rw [if_neg (fun z => h2 ((lt32 k0 e3).mp z)), k0]
          omega
      rw [e9]
      refine ⟨rfl, ⟨rfl, r2, r3, r4, fun h9 => absurd (show (3 : Int32) = 1 from h9) (by decide), fun _ => rfl, fun h9 => absurd (show (3 : Int32) = 2 from h9) (by decide), fun _ => rfl, fun h9 => absurd rfl h9⟩, ?_⟩
      exact ⟨_, _, _, _, _, b1, b2, b3, b4, b5, b6, by omega, b8, b9, b10, Or.inr (Or.inr (Or.inr rfl))⟩
    · rw [if_neg (fun z => h ((lcmp_ge e5 l0).mp z)), if_neg (fun z => by have := (lt32 k0 e3).mp z; omega)]
      refine ⟨rfl, ⟨rfl, r2, r3, r4, fun h9 => absurd (show (3 : Int32) = 1 from h9) (by decide), fun _ => rfl, fun h9 => absurd (show (3 : Int32) = 2 from h9) (by decide), fun _ => rfl, fun h9 => absurd rfl h9⟩, ?_⟩
      exact ⟨_, _, _, _, _, b1, b2, b3, b4, b5, b6, by omega, b8, b9, b10, Or.inr (Or.inr (Or.inr rfl))⟩
  · have h23 : w.1 = 2 ∨ w.1 = 3 := by
      rcases b11 with ⟨h, -⟩ | ⟨h, -⟩ | ⟨h, -⟩ | h
      · exact absurd (Or.inl h) hst
      · exact absurd (Or.inr h) hst
      · exact Or.inl h
      · exact Or.inr h
    rw [notlive3 (by rw [r1]; exact h23), if_pos (show bI false = 0 by decide), if_pos (show 1 < w.1 by rcases h23 with h | h <;> rw [h] <;> decide)]
    exact ⟨rfl, R, B.next⟩
theorem a_of {a : Int32} (h0 : 0 ≤ a) (h5 : a ≤ 5) : a = 0 ∨ a = 1 ∨ a = 2 ∨ a = 3 ∨ a = 4 ∨ a = 5 := by
  rw [Int32.le_iff_toInt_le, k0] at h0
  rw [Int32.le_iff_toInt_le, k5] at h5
  rcases (show a.toInt = 0 ∨ a.toInt = 1 ∨ a.toInt = 2 ∨ a.toInt = 3 ∨ a.toInt = 4 ∨ a.toInt = 5 by omega) with h | h | h | h | h | h
  · exact Or.inl (i_inj h k0)
  · exact Or.inr (Or.inl (i_inj h k1))
  · exact Or.inr (Or.inr (Or.inl (i_inj h k2)))
  · exact Or.inr (Or.inr (Or.inr (Or.inl (i_inj h k3))))
  · exact Or.inr (Or.inr (Or.inr (Or.inr (Or.inl (i_inj h k4)))))
  · exact Or.inr (Or.inr (Or.inr (Or.inr (Or.inr (i_inj h k5)))))
theorem step_act (C : Cfg q g s k) (hm : m ≤ 240) (hj : j ≤ 60) (R : Rs m v w) (B : Bd s g m j w) {a : Int32} (h0 : 0 ≤ a) (h5 : a ≤ 5) (x0 : 1 ≤ x) (x1 : x ≤ 2000000) : SA q s g m j v w (cact q v a x (nI m)) (F_X5_act q.1 q.2.1 q.2.2 w a x (nI m)) := by
  rw [Int32.le_iff_toInt_le, k1] at x0
  rw [Int32.le_iff_toInt_le, show (2000000 : Int32).toInt = 2000000 by decide +kernel] at x1
  unfold cact
  rcases a_of h0 h5 with rfl | rfl | rfl | rfl | rfl | rfl
  · rw [if_pos rfl]
    unfold F_X5_act
    rw [if_pos rfl]
    exact sa_premium C hm hj R B rfl x0 x1
  · rw [if_neg (show ¬ (1 : Int32) = 0 by decide), if_pos rfl]
    exact sa_loan C hm hj R B rfl x0 x1
  · rw [if_neg (show ¬ (2 : Int32) = 0 by decide), if_neg (show ¬ (2 : Int32) = 1 by decide), if_pos rfl]
    exact sa_repay C hm hj R B rfl x0 x1
  · rw [if_neg (show ¬ (3 : Int32) = 0 by decide), if_neg (show ¬ (3 : Int32) = 1 by decide), if_neg (show ¬ (3 : Int32) = 2 by decide), if_pos rfl]
    exact sa_withdraw C hm hj R B rfl x0 x1
  · rw [if_neg (show ¬ (4 : Int32) = 0 by decide), if_neg (show ¬ (4 : Int32) = 1 by decide), if_neg (show ¬ (4 : Int32) = 2 by decide), if_neg (show ¬ (4 : Int32) = 3 by decide), if_pos rfl]
    unfold F_X5_act
    rw [if_neg (show ¬ (4 : Int32) = 0 by decide), if_neg (show ¬ (4 : Int32) = 1 by decide), if_neg (show ¬ (4 : Int32) = 2 by decide), if_neg (show ¬ (4 : Int32) = 3 by decide), if_pos rfl]
    exact sa_revive C hm hj R B rfl x0 x1
  · rw [if_neg (show ¬ (5 : Int32) = 0 by decide), if_neg (show ¬ (5 : Int32) = 1 by decide), if_neg (show ¬ (5 : Int32) = 2 by decide), if_neg (show ¬ (5 : Int32) = 3 by decide), if_neg (show ¬ (5 : Int32) = 4 by decide), if_pos rfl]
    exact sa_death C hm hj R B
end
end ACT
