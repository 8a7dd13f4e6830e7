section NEED
section
variable {np n : Nat} {q : S3} {mo ki am : N32} {sk : Nat → Bool} {r : T9}
theorem lap5 (I : Inv np n q mo ki am sk r) (dn' : Nat → Bool) (p : Nat) {W : Nat} : (F_X5_lapse q.1 q.2.1 q.2.2 mo ki am sk dn' (nI p) np n W).1 = (Lp_X5_lapse q.1 q.2.1 q.2.2 np W 0 (pr (gN q mo ki am sk n np).1 p) (F_X5_goNow q.1 q.2.1 q.2.2 mo ki am sk dn' np n).2).1 := by
  unfold F_X5_lapse pr
  rw [goNow_F I.1]
  by_cases h : nI p ≤ 0
  · rw [if_pos h, if_pos h]
  · rw [if_neg h, if_neg h]
theorem lap5_iff (I : Inv np n q mo ki am sk r) (dn' : Nat → Bool) (p : Nat) {W : Nat} (hW : np + W ≤ 240) : (F_X5_lapse q.1 q.2.1 q.2.2 mo ki am sk dn' (nI p) np n W).1 = -1 ↔ Sv q W np (pr (gN q mo ki am sk n np).1 p) := by
  rw [lap5 I]
  exact lap_iff W 0 _ _ (by omega)
theorem lap4 (I : Inv np n q mo ki am sk r) (dn' : Nat → Bool) {p W : Nat} (hp : p ≤ 2000000) (hW : np + W ≤ 240) : (F_X4_firstLapsed q (tV r) (nI p) np W).1 = (F_X5_lapse q.1 q.2.1 q.2.2 mo ki am sk dn' (nI p) np n W).1 := by
  obtain ⟨g, s, k, C⟩ := id I.2.2.1
  obtain ⟨R, j, hj, B⟩ := I.now C
  have hn := I.1
  obtain ⟨R2, B2⟩ := pr_RB C (m := np) (j := j) (by omega) (by omega) R B hp
  rw [lap5 I]
  have e : (F_X4_firstLapsed q (tV r) (nI p) np W).1 = (Lp_X4_firstLapsed q np W 0 (prc (tV r) p)).1 := by
    unfold F_X4_firstLapsed prc
    by_cases h : nI p ≤ 0
    · rw [if_pos h, if_pos h]
      rfl
    · rw [if_neg h, if_neg h]
      rfl
  rw [e]
  exact lap_sim C (by omega) W 0 _ _ _ (by omega) R2 B2
theorem p_wouldLapse (I : Inv np n q mo ki am sk r) (tr w : S7) (dn' : Nat → Bool) (x : Int32) :
    (∃ (kk : Int32) (w2 : S7) (dn2 : Nat → Bool), ¬ kk = 0 ∧ (F_X4_wouldLapse q (tV r) tr x np).1 = kk ∧ F_X5_wouldLapse q.1 q.2.1 q.2.2 w mo ki am sk dn' x np n = (0, w2, kk, dn2)) ∨
    (∃ (a : Int32) (tr2 w2 : S7) (dn2 : Nat → Bool), F_X4_wouldLapse q (tV r) tr x np = (0, a, tr2) ∧ F_X5_wouldLapse q.1 q.2.1 q.2.2 w mo ki am sk dn' x np n = (a, w2, 0, dn2)) := by
  have hp := I.2.1
  unfold F_X4_wouldLapse F_X5_wouldLapse
  by_cases h1 : 1 ≤ x ∧ x ≤ 120
  · rw [if_neg (show ¬ x < 1 from nlt_le.mpr h1.1), if_pos h1.2, in_t h1.1 h1.2, if_neg (show ¬ bI true = 0 by decide)]
    obtain ⟨e1, e2, e3⟩ := w_le (b := 120) (by omega) nI_120' (nlt_le.mpr h1.1) h1.2
    obtain ⟨g, s, k, C⟩ := id I.2.2.1
    rw [goNow_F I.1]
    rcases (I.now C).live with ⟨l1, -, l2⟩ | ⟨l1, l2⟩
    · rw [l2, if_neg (show ¬ bI true = 0 by decide), if_pos l1]
      have h4 := lap4 I ((F_X5_goNow q.1 q.2.1 q.2.2 mo ki am sk dn' np n).2) (p := 0) (W := x.toNatClampNeg) (by omega) (by omega)
      rw [nI_0] at h4
      rw [← h4]
      exact Or.inr ⟨_, _, _, _, rfl, rfl⟩
    · rw [l2, if_pos (show bI false = 0 by decide), if_neg l1]
      exact Or.inr ⟨_, _, _, _, rfl, rfl⟩
  · rw [in_f h1, if_pos (show bI false = 0 by decide)]
    by_cases h4 : x < 1
    · rw [if_pos h4]
      exact Or.inl ⟨1, w, dn', by decide, rfl, rfl⟩
    · rw [if_neg h4, if_neg (fun z => h1 ⟨nlt_le.mp h4, z⟩)]
      exact Or.inl ⟨1, w, dn', by decide, rfl, rfl⟩
-- the two searches
theorem nI_sub {a b : Nat} (h : a ≤ b) (hb : b < 2 ^ 31) : nI b - nI a = nI (b - a) :=
  i_inj (a := (b : Int) - a) (s32 (nI_toInt hb) (nI_toInt (by omega)) (by omega) (by omega)) (by rw [nI_toInt (by omega)]; omega)
theorem nI_half {a : Nat} (ha : a < 2 ^ 31) : nI a / 2 = nI (a / 2) :=
  i_inj (a := (a : Int) / 2) (d32 (nI_toInt ha) k2 (by omega) (by omega)) (by rw [nI_toInt (by omega)]; omega)
theorem lp_class {v : S7} {W : Nat} : ∀ (d i lo hi : Nat) (t : S7), lo ≤ hi → hi ≤ 2000000 → hi - lo ≤ 2 ^ d → ¬ (F_X4_firstLapsed q v (nI lo) np W).1 = -1 → (F_X4_firstLapsed q v (nI hi) np W).1 = -1 →
    ∃ (h : Nat) (t2 : S7), Lp_X4_leastPremium q v np W d i (nI lo) (nI hi) t = (nI (h + 1), t2) ∧ h + 1 ≤ 2000000 ∧ (F_X4_firstLapsed q v (nI (h + 1)) np W).1 = -1 ∧ ¬ (F_X4_firstLapsed q v (nI h) np W).1 = -1 := by
  intro d
  induction d with
  | zero =>
    intro i lo hi t h1 h2 h3 h4 h5
    have e : lo ≠ hi := fun z => h4 (by rw [z]; exact h5)
    have e2 : hi = lo + 1 := by
      have : 2 ^ 0 = 1 := rfl
      omega
    subst e2
    exact ⟨lo, t, rfl, h2, h5, h4⟩
  | succ d ih =>
    intro i lo hi t h1 h2 h3 h4 h5
    have e : lo ≠ hi := fun z => h4 (by rw [z]; exact h5)
    rw [Lp_X4_leastPremium, nI_sub h1 (by omega)]
    by_cases h6 : hi - lo ≤ 1
    · rw [if_pos ((le32 (nI_toInt (by omega)) k1).mpr (by omega))]
      have e2 : hi = lo + 1 := by omega
      subst e2
      exact ⟨lo, t, rfl, h2, h5, h4⟩
    · rw [if_neg (fun z => by have := (le32 (nI_toInt (by omega)) k1).mp z; omega), nI_half (by omega), nI_add]
      have hpow : 2 ^ (d + 1) = 2 * 2 ^ d := by rw [Nat.pow_succ, Nat.mul_comm]
      by_cases h7 : (F_X4_firstLapsed q v (nI (lo + (hi - lo) / 2)) np W).1 = -1
      · rw [if_pos h7]
        exact ih (i + 1) lo (lo + (hi - lo) / 2) _ (by omega) (by omega) (by omega) h4 h7
      · rw [if_neg h7]
        exact ih (i + 1) (lo + (hi - lo) / 2) hi _ (by omega) h2 (by omega) h7 h5
theorem lp_model (I : Inv np n q mo ki am sk r) {W : Nat} (hW : np + W ≤ 240) : ∀ (d i lo hi : Nat) (v : S7) (dn' : Nat → Bool), lo ≤ hi → hi ≤ 2000000 → hi - lo < 2 ^ d → Sv q W np (pr (gN q mo ki am sk n np).1 hi) → (∀ p, p < lo → ¬ Sv q W np (pr (gN q mo ki am sk n np).1 p)) →
    ∃ (h : Nat) (w2 : S7) (dn2 : Nat → Bool), Lp_X5_needed q.1 q.2.1 q.2.2 mo ki am sk (nI W) np n d i lo hi v dn' = (nI h, w2, 0, dn2) ∧ h ≤ 2000000 ∧ Sv q W np (pr (gN q mo ki am sk n np).1 h) ∧ ∀ p, p < h → ¬ Sv q W np (pr (gN q mo ki am sk n np).1 p) := by
  intro d
  induction d with
  | zero =>
    intro i lo hi v dn' h1 h2 h3 h4 h5
    have e : lo = hi := by
      have : 2 ^ 0 = 1 := rfl
      omega
    subst e
    exact ⟨lo, v, dn', rfl, h2, h4, h5⟩
  | succ d ih =>
    intro i lo hi v dn' h1 h2 h3 h4 h5
    rw [Lp_X5_needed]
    by_cases h6 : lo = hi
    · rw [if_pos (nI_le (by omega) (by omega))]
      subst h6
      exact ⟨lo, v, dn', rfl, h2, h4, h5⟩
    · rw [if_neg (fun z => by have := (nI_leI (a := hi) (b := lo) (by omega) (by omega)).mp z; omega), nI_clamp (show W < 2 ^ 31 by omega)]
      have hpow : 2 ^ (d + 1) = 2 * 2 ^ d := by rw [Nat.pow_succ, Nat.mul_comm]
      have hi7 := lap5_iff I dn' ((lo + hi) / 2) hW
      by_cases h7 : (F_X5_lapse q.1 q.2.1 q.2.2 mo ki am sk dn' (nI ((lo + hi) / 2)) np n W).1 = -1
      · rw [if_pos h7]
        exact ih (i + 1) lo ((lo + hi) / 2) _ _ (by omega) (by omega) (by omega) (hi7.mp h7) h5
      · rw [if_neg h7]
        obtain ⟨g, s, k, C⟩ := id I.2.2.1
        obtain ⟨R, j, hj, B⟩ := I.now C
        have hn := I.1
        have hl : (gN q mo ki am sk n np).1.1 = 0 ∨ (gN q mo ki am sk n np).1.1 = 1 ∨ ∀ p p', Sv q W np (pr (gN q mo ki am sk n np).1 p) ↔ Sv q W np (pr (gN q mo ki am sk n np).1 p') := by
          rcases (I.now C).live with ⟨-, l1 | l1, -⟩ | ⟨l1, -⟩
          · exact Or.inl l1
          · exact Or.inr (Or.inl l1)
          · refine Or.inr (Or.inr fun p p' => ?_)
            have e9 : ∀ p, pr (gN q mo ki am sk n np).1 p = (gN q mo ki am sk n np).1 := by
              intro p
              unfold pr
              by_cases h : nI p ≤ 0
              · rw [if_pos h]
              · rw [if_neg h]
                unfold F_X5_premium
                rw [if_neg l1]
            rw [e9, e9]
        refine ih (i + 1) ((lo + hi) / 2 + 1) hi _ _ (by omega) h2 (by omega) h4 (fun p hp2 hs => h7 (hi7.mpr ?_))
        rcases hl with hl | hl | hl
        · exact pr_mono C (m := np) (by omega) (by omega) R B (Or.inl hl) (by omega) (by omega) hs
        · exact pr_mono C (m := np) (by omega) (by omega) R B (Or.inr hl) (by omega) (by omega) hs
        · exact (hl _ _).mp hs
theorem p_needed (I : Inv np n q mo ki am sk r) (tr w : S7) (dn' : Nat → Bool) (x : Int32) :
    (∃ (kk : Int32) (w2 : S7) (dn2 : Nat → Bool), ¬ kk = 0 ∧ (F_X4_needed q (tV r) tr x np).1 = kk ∧ F_X5_needed q.1 q.2.1 q.2.2 w mo ki am sk dn' x np n = (0, w2, kk, dn2)) ∨
    (∃ (a : Int32) (tr2 w2 : S7) (dn2 : Nat → Bool), F_X4_needed q (tV r) tr x np = (0, a, tr2) ∧ F_X5_needed q.1 q.2.1 q.2.2 w mo ki am sk dn' x np n = (a, w2, 0, dn2)) := by
  have hp := I.2.1
  have hn := I.1
  unfold F_X4_needed F_X5_needed
  by_cases h1 : 1 ≤ x ∧ x ≤ 36
  · rw [if_neg (show ¬ x < 1 from nlt_le.mpr h1.1), if_pos h1.2, in_t h1.1 h1.2, if_neg (show ¬ bI true = 0 by decide)]
    obtain ⟨e1, e2, e3⟩ := w_le (b := 36) (by omega) nI_36.symm (nlt_le.mpr h1.1) h1.2
    obtain ⟨g, s, k, C⟩ := id I.2.2.1
    rw [goNow_F I.1]
    rcases (I.now C).live with ⟨l1, l3, l2⟩ | ⟨l1, l2⟩
    · rw [l2, if_neg (show ¬ bI true = 0 by decide), if_neg (show ¬ 1 < (gN q mo ki am sk n np).1.1 from nlt_le.mpr l1)]
      obtain ⟨R, j, hj, B⟩ := I.now C
      generalize hdn : (F_X5_goNow q.1 q.2.1 q.2.2 mo ki am sk dn' np n).2 = dn3
      generalize hWx : x.toNatClampNeg = W at e1 e2 e3 ⊢
      subst e1
      have f4 : ∀ p, p ≤ 2000000 → ((F_X4_firstLapsed q (tV r) (nI p) np W).1 = -1 ↔ Sv q W np (pr (gN q mo ki am sk n np).1 p)) := fun p h => by
        rw [lap4 I dn3 h (by omega)]
        exact lap5_iff I dn3 p (by omega)
      have mono : ∀ p p', p ≤ p' → p' ≤ 2000000 → Sv q W np (pr (gN q mo ki am sk n np).1 p) → Sv q W np (pr (gN q mo ki am sk n np).1 p') := fun p p' h h2 hs => pr_mono C (m := np) (by omega) (by omega) R B l3 h2 h hs
      have f0 := f4 0 (by omega)
      have f2 := f4 2000000 (by omega)
      have g2 := lap5_iff I dn3 2000000 (W := W) (by omega)
      rw [nI_0] at f0
      rw [← nI_2m] at f2 g2
      by_cases h2 : Sv q W np (pr (gN q mo ki am sk n np).1 2000000)
      · rw [if_pos (g2.mpr h2)]
        obtain ⟨h, w2, dn2, t1, t2, t3, t4⟩ := lp_model I (W := W) (by omega) 21 0 0 2000000 (F_X5_lapse q.1 q.2.1 q.2.2 mo ki am sk dn3 2000000 np n W).2.1 (F_X5_lapse q.1 q.2.1 q.2.2 mo ki am sk dn3 2000000 np n W).2.2 (by omega) (by omega) (by decide) h2 (fun p h => by omega)
        rw [t1]
        by_cases h0 : Sv q W np (pr (gN q mo ki am sk n np).1 0)
        · rw [if_pos (f0.mpr h0)]
          have e0 : h = 0 := by
            rcases Nat.eq_zero_or_pos h with z | z
            · exact z
            · exact absurd h0 (t4 0 z)
          rw [e0, nI_0]
          exact Or.inr ⟨_, _, _, _, rfl, rfl⟩
        · rw [if_neg (fun z => h0 (f0.mp z)), if_pos (f2.mpr h2)]
          obtain ⟨c, tr2, c1, c2, c3, c4⟩ := lp_class (np := np) (q := q) (v := tV r) (W := W) 21 0 0 2000000 (F_X4_firstLapsed q (tV r) 2000000 np W).2 (by omega) (by omega) (by decide) (by rw [nI_0]; exact fun z => h0 (f0.mp z)) (by rw [← nI_2m]; exact f2.mpr h2)
          have ec : F_X4_leastPremium q (tV r) (F_X4_firstLapsed q (tV r) 2000000 np W).2 np W = (nI (c + 1), tr2) := by
            unfold F_X4_leastPremium
            rw [nI_0, ← nI_2m] at c1
            exact c1
          rw [ec]
          have c3' := (f4 (c + 1) c2).mp c3
          have c4' : ¬ Sv q W np (pr (gN q mo ki am sk n np).1 c) := fun z => c4 ((f4 c (by omega)).mpr z)
          have e9 : h = c + 1 := by
            rcases Nat.lt_trichotomy h (c + 1) with z | z | z
            · exact absurd (mono h c (by omega) (by omega) t3) c4'
            · exact z
            · exact absurd c3' (t4 _ z)
          rw [e9]
          exact Or.inr ⟨_, _, _, _, rfl, rfl⟩
      · rw [if_neg (fun z => h2 (g2.mp z))]
        have h0 : ¬ Sv q W np (pr (gN q mo ki am sk n np).1 0) := fun z => h2 (mono 0 2000000 (by omega) (by omega) z)
        rw [if_neg (fun z => h0 (f0.mp z)), if_neg (fun z => h2 (f2.mp z))]
        exact Or.inr ⟨_, _, _, _, rfl, rfl⟩
    · rw [l2, if_pos (show bI false = 0 by decide), if_pos (show 1 < (gN q mo ki am sk n np).1.1 from lt_of_nle' l1)]
      exact Or.inr ⟨_, _, _, _, rfl, rfl⟩
  · rw [in_f h1, if_pos (show bI false = 0 by decide)]
    by_cases h4 : x < 1
    · rw [if_pos h4]
      exact Or.inl ⟨1, w, dn', by decide, rfl, rfl⟩
    · rw [if_neg h4, if_neg (fun z => h1 ⟨nlt_le.mp h4, z⟩)]
      exact Or.inl ⟨1, w, dn', by decide, rfl, rfl⟩
end
end NEED
