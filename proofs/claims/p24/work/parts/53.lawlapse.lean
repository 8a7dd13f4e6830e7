section LLAPSE
section
variable {np n : Nat} {q : S3} {mo ki am : N32} {sk : Nat → Bool} {r : T9} {qf af mf df sf cf lf rf gf tf : N32} {w : S7}
theorem nI_1' : nI 1 = 1 := by decide +kernel
theorem nI_24' : (24 : Int32) = nI 24 := by decide +kernel
theorem lapL_sim {g s k : Int} (C : Cfg q g s k) {np n j : Nat} (hj : j ≤ 61) : ∀ (d i : Nat) (v w : S7) (dn : Nat → Bool), np + i + d ≤ 240 → Rs (np + i) v w → Bd s g (np + i) j w → Lp_L_lapses q np n d i w = (Lp_X5_lapse q.1 q.2.1 q.2.2 np d i w dn).1 := by
  intro d
  induction d with
  | zero => intro i v w dn _ _ _; rfl
  | succ d ih =>
    intro i v w dn h R B
    have ec : F_L_closes (q.1, q.2.1, q.2.2, nI np, nI n) w (np + i) = F_X5_closeMonth q.1 q.2.1 q.2.2 w (nI (np + i)) := close_eqL C (show np + i ≤ 240 by omega) hj B (nI np) (nI n)
    rw [Lp_L_lapses, Lp_X5_lapse, nI_back, ec]
    obtain ⟨R', B'⟩ := step_close C (m := np + i) (by omega) hj R B
    by_cases e2 : (F_X5_closeMonth q.1 q.2.1 q.2.2 w (nI (np + i))).1 = 2
    · rw [if_pos e2, if_pos e2]
      show nI np + nI i + 1 = nI np + nI (i + 1)
      rw [nI_add, nI_add, nI_1]
      rfl
    · rw [if_neg e2, if_neg e2]
      exact ih (i + 1) _ _ dn (by omega) R' B'
theorem lapL_pos {np n : Nat} : ∀ (d i : Nat) (w : S7), np + i + d ≤ 240 → Lp_L_lapses q np n d i w = -1 ∨ (¬ Lp_L_lapses q np n d i w = -1 ∧ ¬ Lp_L_lapses q np n d i w ≤ 0) := by
  intro d
  induction d with
  | zero => intro i w _; exact Or.inl rfl
  | succ d ih =>
    intro i w h
    rw [Lp_L_lapses]
    split
    · refine Or.inr ?_
      rw [nI_add, nI_1]
      exact ⟨nI_nm1 (by omega), nI_nle (by omega) (by omega)⟩
    · exact ih (i + 1) _ (by omega)
theorem lapL_F (I : Inv np n q mo ki am sk r) (L : LInv np n q mo ki am sk qf af mf df sf cf lf rf gf tf w) {p W : Nat} (hp : p ≤ 2000000) (hW : np + W ≤ 240) : F_L_lapses q w (nI p) np n W = (F_X4_firstLapsed q (tV r) (nI p) np W).1 ∧ (F_L_lapses q w (nI p) np n W = -1 ∨ (¬ F_L_lapses q w (nI p) np n W = -1 ∧ ¬ F_L_lapses q w (nI p) np n W ≤ 0)) := by
  obtain ⟨g, s, k, C⟩ := id I.2.2.1
  obtain ⟨R, j, hj, B⟩ := a_RB I L C
  have hn := I.1
  obtain ⟨R2, B2⟩ := pr_RB C (m := np) (j := j) (by omega) (by omega) R B hp
  have e0 : F_L_lapses q w (nI p) np n W = Lp_L_lapses q np n W 0 (pr w p) := by
    unfold F_L_lapses pr
    by_cases h : nI p ≤ 0
    · rw [if_pos h, if_pos h]
    · rw [if_neg h, if_neg h]
      have h1 : 1 ≤ p := by
        rcases Nat.eq_zero_or_pos p with z | z
        · exact absurd ((nI_le0 (by omega)).mpr z) h
        · exact z
      have ea : F_L_acts (q.1, q.2.1, q.2.2, nI np, nI n) w 0 (nI p) (nI np) = F_X5_premium w (nI p) := ae_premium C (show np ≤ 240 by omega) (show j ≤ 61 by omega) B (nI_toInt (by omega)) (by omega) (by omega) (nI np) (nI n) (nI np)
      rw [ea]
      split <;> rfl
  rw [e0]
  refine ⟨?_, lapL_pos W 0 _ (by omega)⟩
  rw [lap4 I fF hp hW, lap5 I, ← L.2.2.1]
  exact lapL_sim C (show j + 1 ≤ 61 by omega) W 0 _ _ _ (by omega) R2 B2
theorem a_would (I : Inv np n q mo ki am sk r) (L : LInv np n q mo ki am sk qf af mf df sf cf lf rf gf tf w) {W : Nat} (h1 : 1 ≤ W) (h2 : W ≤ 120) (tr : S7) :
    ∃ (a : Int32) (tr2 : S7), F_X4_wouldLapse q (tV r) tr (nI W) np = (0, a, tr2) ∧ (¬ 2 ≤ w.1 → a = F_L_lapses q w 0 np n W) ∧ (2 ≤ w.1 → a = -1) := by
  have hp := I.2.1
  unfold F_X4_wouldLapse
  rw [if_neg (fun z => by have := (lt32 (nI_toInt (n := W) (by omega)) k1).mp z; omega), if_pos (by rw [← nI_120]; exact nI_le h2 (by omega)), nI_clamp (by omega)]
  rcases a_live I L with ⟨l1, -, l2⟩ | ⟨l1, -, l2⟩
  · rw [l2, if_neg (show ¬ bI true = 0 by decide)]
    have h := (lapL_F I L (p := 0) (W := W) (by omega) (by omega)).1
    rw [nI_0] at h
    exact ⟨_, _, rfl, fun _ => h.symm, fun z => absurd z l1⟩
  · rw [l2, if_pos (show bI false = 0 by decide)]
    exact ⟨_, _, rfl, fun z => absurd l1 z, fun _ => rfl⟩
theorem lapL_mono (I : Inv np n q mo ki am sk r) (L : LInv np n q mo ki am sk qf af mf df sf cf lf rf gf tf w) (hl : w.1 = 0 ∨ w.1 = 1) {p p' W : Nat} (hp : p ≤ p') (hp' : p' ≤ 2000000) (hW : np + W ≤ 240) (h : F_L_lapses q w (nI p) np n W = -1) : F_L_lapses q w (nI p') np n W = -1 := by
  obtain ⟨g, s, k, C⟩ := id I.2.2.1
  obtain ⟨R, j, hj, B⟩ := a_RB I L C
  have hn := I.1
  have f : ∀ p, p ≤ 2000000 → (F_L_lapses q w (nI p) np n W = -1 ↔ Sv q W np (pr w p)) := fun p h => by
    rw [(lapL_F I L h hW).1, lap4 I fF h hW, L.2.2.1]
    exact lap5_iff I fF p hW
  rw [f p' hp']
  exact pr_mono C (m := np) hW (by omega) R B hl hp' hp ((f p (by omega)).mp h)
/-- what isPolicy holds of the premium that is needed -/
def NeedOk (q : S3) (w : S7) (np n W : Nat) (a : Int32) : Prop :=
  (a = -1 ∧ ¬ F_L_lapses q w 2000000 np n W ≤ 0) ∨ (∃ p : Nat, p ≤ 2000000 ∧ a = nI p ∧ F_L_lapses q w (nI p) np n W = -1 ∧ (p = 0 ∨ (1 ≤ p ∧ ¬ F_L_lapses q w (nI (p - 1)) np n W ≤ 0 ∧ ¬ F_L_lapses q w (nI (p / 2)) np n W ≤ 0)))
theorem a_need (I : Inv np n q mo ki am sk r) (L : LInv np n q mo ki am sk qf af mf df sf cf lf rf gf tf w) {W : Nat} (h1 : 1 ≤ W) (h2 : W ≤ 36) (tr : S7) :
    ∃ (a : Int32) (tr2 : S7), F_X4_needed q (tV r) tr (nI W) np = (0, a, tr2) ∧ (¬ 2 ≤ w.1 → NeedOk q w np n W a) ∧ (2 ≤ w.1 → a = -1) := by
  have hp := I.2.1
  unfold F_X4_needed
  rw [if_neg (fun z => by have := (lt32 (nI_toInt (n := W) (by omega)) k1).mp z; omega), if_pos (by rw [← nI_36]; exact nI_le h2 (by omega)), nI_clamp (by omega)]
  rcases a_live I L with ⟨l1, l3, l2⟩ | ⟨l1, -, l2⟩
  · rw [l2, if_neg (show ¬ bI true = 0 by decide)]
    have f := fun (p : Nat) (h : p ≤ 2000000) => lapL_F I L (p := p) (W := W) h (by omega)
    have f0 := f 0 (by omega)
    have f2 := f 2000000 (by omega)
    rw [nI_0] at f0
    rw [← nI_2m] at f2
    by_cases c0 : (F_X4_firstLapsed q (tV r) 0 np W).1 = -1
    · rw [if_pos c0]
      exact ⟨_, _, rfl, fun _ => Or.inr ⟨0, by omega, nI_0.symm, by rw [nI_0, f0.1, c0], Or.inl rfl⟩, fun z => absurd z l1⟩
    · rw [if_neg c0]
      by_cases c2 : (F_X4_firstLapsed q (tV r) 2000000 np W).1 = -1
      · rw [if_pos c2]
        obtain ⟨c, tr2, d1, d2, d3, d4⟩ := lp_class (np := np) (q := q) (v := tV r) (W := W) 21 0 0 2000000 (F_X4_firstLapsed q (tV r) 2000000 np W).2 (by omega) (by omega) (by decide) (by rw [nI_0]; exact c0) (by rw [← nI_2m]; exact c2)
        have ec : F_X4_leastPremium q (tV r) (F_X4_firstLapsed q (tV r) 2000000 np W).2 np W = (nI (c + 1), tr2) := by
          unfold F_X4_leastPremium
          rw [nI_0, ← nI_2m] at d1
          exact d1
        rw [ec]
        have n4 : ¬ F_L_lapses q w (nI c) np n W = -1 := fun z => d4 ((f c (by omega)).1.symm.trans z)
        have nh : ¬ F_L_lapses q w (nI ((c + 1) / 2)) np n W = -1 := fun z => n4 (lapL_mono I L l3 (by omega) (by omega) (by omega) z)
        refine ⟨_, _, rfl, fun _ => Or.inr ⟨c + 1, d2, rfl, (f (c + 1) d2).1.trans d3, Or.inr ⟨by omega, ?_, ?_⟩⟩, fun z => absurd z l1⟩
        · rw [Nat.add_sub_cancel]
          rcases (f c (by omega)).2 with z | z
          · exact absurd z n4
          · exact z.2
        · rcases (f ((c + 1) / 2) (by omega)).2 with z | z
          · exact absurd z nh
          · exact z.2
      · rw [if_neg c2]
        refine ⟨_, _, rfl, fun _ => Or.inl ⟨rfl, ?_⟩, fun z => absurd z l1⟩
        rcases f2.2 with z | z
        · exact absurd (f2.1.symm.trans z) c2
        · exact z.2
  · rw [l2, if_pos (show bI false = 0 by decide)]
    exact ⟨_, _, rfl, fun z => absurd l1 z, fun _ => rfl⟩
-- the class's side of the deeds
theorem d_tell {dn : Nat → Bool} {y1 y2 y3 y4 y5 y6 y7 : N32} {v : S7} (I : Inv np n q mo ki am sk (dn, y1, y2, y3, y4, y5, y6, y7, v)) (hn : n + 1 ≤ 60) {M : Nat} (hM : M ≤ np) {a x : Int32} (h : 0 ≤ a ∧ a ≤ 5 ∧ 1 ≤ x ∧ x ≤ 2000000) :
    ∃ (dn2 : Nat → Bool) (z1 z2 z3 z4 z5 z6 z7 : N32) (v2 : S7), F_X4_tell mo ki am sk dn y1 y2 y3 y4 y5 y6 y7 q v (nI M) a x np n = (0, dn2 n, nI (n + 1), upd mo n (nI M), upd ki n a, upd am n x, updB sk n false, dn2, z1, z2, z3, z4, z5, z6, z7, v2) ∧ Inv np (n + 1) q (upd mo n (nI M)) (upd ki n a) (upd am n x) (updB sk n false) (dn2, z1, z2, z3, z4, z5, z6, z7, v2) := by
  have hp := I.2.1
  unfold F_X4_tell
  rw [if_neg (nI_pos (by omega)), if_pos (nI_le hM (by omega)), if_neg (show ¬ a < 0 from nlt_le.mpr h.1), if_pos h.2.1, if_neg (show ¬ x < 1 from nlt_le.mpr h.2.2.1), if_pos h.2.2.2, isFull_f (by omega), if_pos (show bI false = 0 by decide), nI_clamp (show M < 2 ^ 31 by omega)]
  by_cases hMn : M = np
  · subst hMn
    rw [if_pos rfl, perform_t (by omega) (by omega), pk_us, pk_us, pk_us, noteDone_t (by omega) (by omega), wasDone_t (by omega) (by omega)]
    have I2 := tell_now I (by omega) (a := a) (x := x) h
    exact ⟨_, _, _, _, _, _, _, _, _, rfl, I2⟩
  · rw [if_neg (fun z => hMn ((nI_eq (by omega) (by omega)).mp z)), wasDone_t (by omega) (by omega)]
    have I2 := tell_late I (by omega) hM (a := a) (x := x) h
    exact ⟨_, _, _, _, _, _, _, _, _, rfl, I2⟩
theorem d_full {dn : Nat → Bool} {y1 y2 y3 y4 y5 y6 y7 : N32} {v : S7} (hp : np ≤ 120) {M : Nat} (hM : M ≤ np) {a x : Int32} (h : 0 ≤ a ∧ a ≤ 5 ∧ 1 ≤ x ∧ x ≤ 2000000) : (F_X4_tell mo ki am sk dn y1 y2 y3 y4 y5 y6 y7 q v (nI M) a x np 60).1 = 2 := by
  unfold F_X4_tell
  rw [if_neg (nI_pos (by omega)), if_pos (nI_le hM (by omega)), if_neg (show ¬ a < 0 from nlt_le.mpr h.1), if_pos h.2.1, if_neg (show ¬ x < 1 from nlt_le.mpr h.2.2.1), if_pos h.2.2.2, isFull_t, if_neg (show ¬ bI true = 0 by decide)]
theorem d_strike {dn : Nat → Bool} {y1 y2 y3 y4 y5 y6 y7 : N32} {v : S7} (I : Inv np n q mo ki am sk (dn, y1, y2, y3, y4, y5, y6, y7, v)) {i M : Nat} (hi : i < n) (hs : sk i = false) (hM : M ≤ np) (hmo : mo i = nI M) :
    ∃ (dn2 : Nat → Bool) (z1 z2 z3 z4 z5 z6 z7 : N32) (v2 : S7), F_X4_strike mo ki am sk dn y1 y2 y3 y4 y5 y6 y7 q v (nI i) np n = (0, nI M, updB sk i true, dn2, z1, z2, z3, z4, z5, z6, z7, v2) ∧ Inv np n q mo ki am (updB sk i true) (dn2, z1, z2, z3, z4, z5, z6, z7, v2) := by
  have hn := I.1
  have hp := I.2.1
  have e1 : F_X0_monthOf (nI n) mo (nI i) = mo i := by
    unfold F_X0_monthOf
    rw [has_t hn hi, if_neg (show ¬ bI true = 0 by decide), nI_clamp (by omega)]
  have e2 : F_X0_cross (nI n) sk (nI i) = updB sk i true := by
    unfold F_X0_cross
    rw [has_t hn hi, if_neg (show ¬ bI true = 0 by decide), nI_clamp (by omega)]
  unfold F_X4_strike
  rw [stands_t hn hi, hs, if_neg (show ¬ bI (!false) = 0 by decide), e1, e2, hmo, nI_clamp (by omega)]
  exact ⟨_, _, _, _, _, _, _, _, _, rfl, strike_I I hM hmo⟩
theorem d_struck {dn : Nat → Bool} {y1 y2 y3 y4 y5 y6 y7 : N32} {v : S7} (hn : n ≤ 60) {i : Nat} (hi : i < n) (hs : sk i = true) : ¬ (F_X4_strike mo ki am sk dn y1 y2 y3 y4 y5 y6 y7 q v (nI i) np n).1 = 0 := by
  unfold F_X4_strike
  rw [stands_t hn hi, hs, if_pos (show bI (!true) = 0 by decide)]
  exact (show ¬ (1 : Int32) = 0 by decide)
theorem d_close {dn : Nat → Bool} {y1 y2 y3 y4 y5 y6 y7 : N32} {v : S7} (I : Inv np n q mo ki am sk (dn, y1, y2, y3, y4, y5, y6, y7, v)) {W : Nat} (h1 : 1 ≤ W) (h2 : W ≤ 24) (h3 : np + W ≤ 120) :
    ∃ (v2 : S7) (z1 z2 z3 z4 z5 z6 z7 : N32), F_X4_close q v y1 y2 y3 y4 y5 y6 y7 (nI W) np = (0, nI (np + W), nI (np + W), v2, z1, z2, z3, z4, z5, z6, z7) ∧ Inv (np + W) n q mo ki am sk (dn, z1, z2, z3, z4, z5, z6, z7, v2) := by
  rcases p_close I (nI W) with ⟨kk, k0, k1, k2⟩ | ⟨np2, v2, z1, z2, z3, z4, z5, z6, z7, e1, e2, I2⟩
  · exfalso
    unfold F_X5_close at k2
    rw [in_t (by rw [← nI_1']; exact nI_le h1 (by omega)) (by rw [nI_24']; exact nI_le h2 (by omega)), if_neg (show ¬ bI true = 0 by decide), nI_add, if_pos (by rw [← nI_120]; exact nI_le h3 (by omega))] at k2
    have := congrArg (fun z => z.2.2) k2
    exact k0 this.symm
  · unfold F_X5_close at e2
    rw [in_t (by rw [← nI_1']; exact nI_le h1 (by omega)) (by rw [nI_24']; exact nI_le h2 (by omega)), if_neg (show ¬ bI true = 0 by decide), nI_add, if_pos (by rw [← nI_120]; exact nI_le h3 (by omega))] at e2
    have e9 : nI (np + W) = nI np2 := congrArg (fun z => z.1) e2
    have e8 : np + W = np2 := (nI_eq (by omega) (by have := I2.2.1; omega)).mp e9
    subst e8
    exact ⟨v2, z1, z2, z3, z4, z5, z6, z7, e1, I2⟩
theorem d_begin {dn : Nat → Bool} {y1 y2 y3 y4 y5 y6 y7 : N32} {v : S7} (I : Inv np n q mo ki am sk (dn, y1, y2, y3, y4, y5, y6, y7, v)) {x1 x2 x3 : Int32} (h1 : 18 ≤ x1 ∧ x1 ≤ 70) (h2 : 100000 ≤ x2 ∧ x2 ≤ 50000000) (h3 : 0 ≤ x3 ∧ x3 ≤ 1) :
    F_X4_begin (nI np) q (nI n) v x1 x2 x3 = (0, nI np, nI 0, (x1, x2, x3), nI 0, z7) ∧ Inv 0 0 (x1, x2, x3) mo ki am sk (dn, y1, y2, y3, y4, y5, y6, y7, z7) := by
  rcases p_begin I x1 x2 x3 with ⟨kk, k0, k1, k2⟩ | ⟨e1, e2, I2⟩
  · exfalso
    unfold F_X5_begin at k2
    rw [in_t h1.1 h1.2, if_neg (show ¬ bI true = 0 by decide), in_t h2.1 h2.2, if_neg (show ¬ bI true = 0 by decide), in_t h3.1 h3.2, if_neg (show ¬ bI true = 0 by decide)] at k2
    exact k0 (congrArg (fun z => z.2.2.2.2.2.2) k2).symm
  · exact ⟨e1, I2⟩
end
end LLAPSE
