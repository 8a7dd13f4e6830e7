section PCALLS
section
variable {np n : Nat} {q : S3} {mo ki am : N32} {sk : Nat → Bool} {r : T9} {dn y1 : Nat → Bool}
theorem Inv.sim {g s k : Int} (I : Inv np n q mo ki am sk r) (C : Cfg q g s k) {m : Nat} (hm : m ≤ np) : Rs m (tR r m) (gS q mo ki am sk n m) := by
  obtain ⟨hn, hp, -, hA, -, hr, -⟩ := I
  rw [hr m hm]
  exact (sim_run C hn hA m (by omega)).1
theorem Inv.now {g s k : Int} (I : Inv np n q mo ki am sk r) (C : Cfg q g s k) : RB s g n mo np n (tV r) (gN q mo ki am sk n np).1 := by
  obtain ⟨hn, hp, -, hA, -, -, hv, -⟩ := I
  rw [hv]
  exact (sim_now C hn hA (by omega)).1
theorem Inv.flag (I : Inv np n q mo ki am sk r) {k m : Nat} (hk : k < n) (hs : sk k = false) (hm : m ≤ np) (hmo : mo k = nI m) (dn : Nat → Bool) : r.1 k = (F_X5_goNow q.1 q.2.1 q.2.2 mo ki am sk dn np n).2 k := by
  obtain ⟨hn, hp, ⟨g, s, kk, C⟩, hA, -, -, -, hf⟩ := I
  rw [hf k m hk hs hm hmo, goNow_fl hn dn np (by omega) hk hs hmo hm]
  exact (sim_now C hn hA (by omega)).2 k hk (onC_t.mpr ⟨hs, hmo⟩)
-- what is told
theorem p_state (I : Inv np n q mo ki am sk r) (dn' : Nat → Bool) : F_X4_state (tV r) = (F_X5_state q.1 q.2.1 q.2.2 mo ki am sk dn' np n).1 := by
  obtain ⟨g, s, k, C⟩ := id I.2.2.1
  have h := (I.now C).1
  show (tV r).1 = (F_X5_goNow q.1 q.2.1 q.2.2 mo ki am sk dn' np n).1.1
  rw [goNow_F I.1]
  exact h.1
theorem p_account (I : Inv np n q mo ki am sk r) (dn' : Nat → Bool) : F_X4_account (tV r) = (F_X5_account q.1 q.2.1 q.2.2 mo ki am sk dn' np n).1 := by
  obtain ⟨g, s, k, C⟩ := id I.2.2.1
  have h := (I.now C).1
  show (tV r).2.1 = (F_X5_goNow q.1 q.2.1 q.2.2 mo ki am sk dn' np n).1.2.1
  rw [goNow_F I.1]
  exact h.2.1
theorem p_loan (I : Inv np n q mo ki am sk r) (dn' : Nat → Bool) : F_X4_loan (tV r) = (F_X5_loan q.1 q.2.1 q.2.2 mo ki am sk dn' np n).1 := by
  obtain ⟨g, s, k, C⟩ := id I.2.2.1
  have h := (I.now C).1
  show (tV r).2.2.1 = (F_X5_goNow q.1 q.2.1 q.2.2 mo ki am sk dn' np n).1.2.2.1
  rw [goNow_F I.1]
  exact h.2.2.1
theorem p_arrears (I : Inv np n q mo ki am sk r) (dn' : Nat → Bool) : F_X4_arrears (tV r) = (F_X5_arrears q.1 q.2.1 q.2.2 mo ki am sk dn' np n).1 := by
  obtain ⟨g, s, k, C⟩ := id I.2.2.1
  have h := (I.now C).1
  show (tV r).2.2.2.1 = (F_X5_goNow q.1 q.2.1 q.2.2 mo ki am sk dn' np n).1.2.2.2.1
  rw [goNow_F I.1]
  exact h.2.2.2.1
theorem p_grace (I : Inv np n q mo ki am sk r) (dn' : Nat → Bool) : F_X4_grace (tV r) = (F_X5_grace q.1 q.2.1 q.2.2 mo ki am sk dn' np n).1 := by
  obtain ⟨g, s, k, C⟩ := id I.2.2.1
  obtain ⟨h1, h2, h3, h4, h5, h6, h7, h8, h9⟩ := (I.now C).1
  unfold F_X5_grace F_X5_look
  show (tV r).2.2.2.2.1 = _
  rw [goNow_F I.1]
  by_cases h : (gN q mo ki am sk n np).1.1 = 1
  · rw [if_pos h]
    exact h5 h
  · rw [if_neg h]
    exact h6 h
theorem p_paid (I : Inv np n q mo ki am sk r) (dn' : Nat → Bool) : F_X4_paid (tV r) = (F_X5_paid q.1 q.2.1 q.2.2 mo ki am sk dn' np n).1 := by
  obtain ⟨g, s, k, C⟩ := id I.2.2.1
  obtain ⟨h1, h2, h3, h4, h5, h6, h7, h8, h9⟩ := (I.now C).1
  show F_X4_paid (tV r) = (F_X5_goNow q.1 q.2.1 q.2.2 mo ki am sk dn' np n).1.2.2.2.2.2.2
  rw [goNow_F I.1]
  unfold F_X4_paid
  by_cases h : (gN q mo ki am sk n np).1.1 = 3
  · rw [if_pos (h1.trans h)]
    exact (h8 h).symm
  · rw [if_neg (fun z => h (h1.symm.trans z))]
    exact (h9 h).symm
theorem RB.live {s g : Int} {m i : Nat} {v w : S7} (h : RB s g n mo m i v w) : (w.1 ≤ 1 ∧ (w.1 = 0 ∨ w.1 = 1) ∧ F_X3_isLive v = true) ∨ (¬ w.1 ≤ 1 ∧ F_X3_isLive v = false) := by
  obtain ⟨hR, j, hj, ac, ln, ar, gr, lm, b1, b2, b3, b4, b5, b6, b7, b8, b9, b10, b11⟩ := h
  rcases b11 with ⟨h, -⟩ | ⟨h, -⟩ | ⟨h, -⟩ | h
  · exact Or.inl ⟨by rw [h]; decide, Or.inl h, live3 (Or.inl (hR.1.trans h))⟩
  · exact Or.inl ⟨by rw [h]; decide, Or.inr h, live3 (Or.inr (hR.1.trans h))⟩
  · exact Or.inr ⟨by rw [h]; decide, notlive3 (Or.inl (hR.1.trans h))⟩
  · exact Or.inr ⟨by rw [h]; decide, notlive3 (Or.inr (hR.1.trans h))⟩
theorem RB.ac {s g : Int} {m i : Nat} {v w : S7} (hn : n ≤ 60) (hm : m ≤ 240) (h : RB s g n mo m i v w) : ∃ a : Int, w.2.1.toInt = a ∧ v.2.1.toInt = a ∧ 0 ≤ a ∧ a ≤ 400000000 := by
  obtain ⟨hR, j, hj, ac, ln, ar, gr, lm, b1, b2, b3, b4, b5, b6, b7, b8, b9, b10, b11⟩ := h
  have := zL_b hm
  exact ⟨ac, b1, by rw [hR.2.1]; exact b1, b6, by omega⟩
theorem p_deathSum (I : Inv np n q mo ki am sk r) (dn' : Nat → Bool) : F_X4_deathSum (nI np) q (tV r) = (F_X5_deathSum q.1 q.2.1 q.2.2 mo ki am sk dn' np n).1 := by
  obtain ⟨g, s, k, C⟩ := id I.2.2.1
  have hB := I.now C
  have hp := I.2.1
  unfold F_X4_deathSum F_X5_deathSum F_X5_look
  rw [goNow_F I.1]
  rcases hB.live with ⟨h1, -, h2⟩ | ⟨h1, h2⟩
  · rw [h2, if_neg (show ¬ bI true = 0 by decide), if_pos h1]
    obtain ⟨a, e1, e2, a0, a1⟩ := hB.ac I.1 (by omega)
    have hd := v_deathSumFor C (m := np) (by omega) e2 a0 a1
    have hd5 := v_deathSumIn C (m := np) (by omega) e1 a0 a1
    obtain ⟨-, -, -, -, -, c6, c7, -⟩ := C
    obtain ⟨d1, d2⟩ := zds_b (k := k) (zage g np) a0 a1 c6 c7
    exact i_inj hd (n32 hd5 (by omega) (by omega))
  · rw [h2, if_pos (show bI false = 0 by decide), if_neg h1]
theorem p_charge (I : Inv np n q mo ki am sk r) (dn' : Nat → Bool) : F_X4_charge (nI np) q (tV r) = (F_X5_charge q.1 q.2.1 q.2.2 mo ki am sk dn' np n).1 := by
  obtain ⟨g, s, k, C⟩ := id I.2.2.1
  have hB := I.now C
  have hp := I.2.1
  unfold F_X4_charge F_X5_charge F_X5_look
  rw [goNow_F I.1]
  rcases hB.live with ⟨h1, -, h2⟩ | ⟨h1, h2⟩
  · rw [h2, if_neg (show ¬ bI true = 0 by decide), if_pos h1]
    obtain ⟨a, e1, e2, a0, a1⟩ := hB.ac I.1 (by omega)
    exact i_inj (v_chargeFor C (m := np) (by omega) e2 a0 a1) (v_chargeIn C (m := np) (by omega) e1 a0 a1)
  · rw [h2, if_pos (show bI false = 0 by decide), if_neg h1]
-- begin
theorem p_begin {dn : Nat → Bool} {y1 y2 y3 y4 y5 y6 y7 : N32} {v : S7} (I : Inv np n q mo ki am sk (dn, y1, y2, y3, y4, y5, y6, y7, v)) (x1 x2 x3 : Int32) :
    (∃ kk : Int32, ¬ kk = 0 ∧ (F_X4_begin (nI np) q (nI n) v x1 x2 x3).1 = kk ∧ F_X5_begin q.1 q.2.1 q.2.2 (nI np) (nI n) x1 x2 x3 = (0, q.1, q.2.1, q.2.2, nI np, nI n, kk)) ∨
    (F_X4_begin (nI np) q (nI n) v x1 x2 x3 = (0, nI np, nI 0, (x1, x2, x3), nI 0, z7) ∧ F_X5_begin q.1 q.2.1 q.2.2 (nI np) (nI n) x1 x2 x3 = (nI np, x1, x2, x3, nI 0, nI 0, 0) ∧ Inv 0 0 (x1, x2, x3) mo ki am sk (dn, y1, y2, y3, y4, y5, y6, y7, z7)) := by
  unfold F_X4_begin F_X5_begin
  by_cases h1 : 18 ≤ x1 ∧ x1 ≤ 70
  · rw [if_neg (show ¬ x1 < 18 from nlt_le.mpr h1.1), if_pos h1.2, in_t h1.1 h1.2, if_neg (show ¬ bI true = 0 by decide)]
    by_cases h2 : 100000 ≤ x2 ∧ x2 ≤ 50000000
    · rw [if_neg (show ¬ x2 < 100000 from nlt_le.mpr h2.1), if_pos h2.2, in_t h2.1 h2.2, if_neg (show ¬ bI true = 0 by decide)]
      by_cases h3 : 0 ≤ x3 ∧ x3 ≤ 1
      · rw [if_neg (show ¬ x3 < 0 from nlt_le.mpr h3.1), if_pos h3.2, in_t h3.1 h3.2, if_neg (show ¬ bI true = 0 by decide)]
        refine Or.inr ⟨rfl, rfl, by omega, by omega, ⟨x1.toInt, x2.toInt, x3.toInt, rfl, rfl, rfl, ?_⟩, fun k hk => by omega, fun k hk => by omega, fun m hm => ?_, rfl, fun k m hk => by omega⟩
        · obtain ⟨a1, a2⟩ := h1
          obtain ⟨b1, b2⟩ := h2
          obtain ⟨c1, c2⟩ := h3
          rw [Int32.le_iff_toInt_le] at a1 a2 b1 b2 c1 c2
          rw [show (18 : Int32).toInt = 18 by decide] at a1
          rw [show (70 : Int32).toInt = 70 by decide] at a2
          rw [show (100000 : Int32).toInt = 100000 by decide +kernel] at b1
          rw [show (50000000 : Int32).toInt = 50000000 by decide +kernel] at b2
          rw [k0] at c1
          rw [k1] at c2
          omega
        · have e : m = 0 := by omega
          subst e
          exact I.2.2.2.2.2.1 0 (by omega)
      · rw [in_f h3, if_pos (show bI false = 0 by decide)]
        by_cases h4 : x3 < 0
        · rw [if_pos h4]
          exact Or.inl ⟨1, by decide, rfl, rfl⟩
        · rw [if_neg h4, if_neg (fun z => h3 ⟨nlt_le.mp h4, z⟩)]
          exact Or.inl ⟨1, by decide, rfl, rfl⟩
    · rw [in_f h2, if_pos (show bI false = 0 by decide)]
      by_cases h4 : x2 < 100000
      · rw [if_pos h4]
        exact Or.inl ⟨1, by decide, rfl, rfl⟩
      · rw [if_neg h4, if_neg (fun z => h2 ⟨nlt_le.mp h4, z⟩)]
        exact Or.inl ⟨1, by decide, rfl, rfl⟩
  · rw [in_f h1, if_pos (show bI false = 0 by decide)]
    by_cases h4 : x1 < 18
    · rw [if_pos h4]
      exact Or.inl ⟨1, by decide, rfl, rfl⟩
    · rw [if_neg h4, if_neg (fun z => h1 ⟨nlt_le.mp h4, z⟩)]
      exact Or.inl ⟨1, by decide, rfl, rfl⟩
-- corridor
theorem p_corridor (x : Int32) : (∃ kk : Int32, ¬ kk = 0 ∧ (F_X4_corridor x).1 = kk ∧ F_X5_corridor x = (0, kk)) ∨ (∃ a : Int32, F_X4_corridor x = (0, a) ∧ F_X5_corridor x = (a, 0)) := by
  unfold F_X4_corridor F_X5_corridor
  by_cases h1 : 18 ≤ x ∧ x ≤ 120
  · rw [if_neg (show ¬ x < 18 from nlt_le.mpr h1.1), if_pos h1.2, in_t h1.1 h1.2, if_neg (show ¬ bI true = 0 by decide)]
    refine Or.inr ⟨F_X2_corridorFor x, rfl, ?_⟩
    obtain ⟨a1, a2⟩ := h1
    rw [Int32.le_iff_toInt_le] at a1 a2
    rw [show (18 : Int32).toInt = 18 by decide] at a1
    rw [show (120 : Int32).toInt = 120 by decide] at a2
    rw [i_inj (v_corridorAt (x := x) rfl (by omega) (by omega)) (v_corridorFor rfl (by omega) (by omega))]
  · rw [in_f h1, if_pos (show bI false = 0 by decide)]
    by_cases h4 : x < 18
    · rw [if_pos h4]
      exact Or.inl ⟨1, by decide, rfl, rfl⟩
    · rw [if_neg h4, if_neg (fun z => h1 ⟨nlt_le.mp h4, z⟩)]
      exact Or.inl ⟨1, by decide, rfl, rfl⟩
-- the months
theorem isMonth_f {x : Int32} (h : ¬ (0 ≤ x ∧ x ≤ nI np)) (w : S7) (dn' : Nat → Bool) : F_X5_isMonth q.1 q.2.1 q.2.2 w mo ki am sk dn' x np n = (false, w, 1, dn') := by
  unfold F_X5_isMonth
  rw [in_f h, if_pos (show bI false = 0 by decide)]
theorem isMonth_t (hn : n ≤ 60) {M : Nat} (hM : M ≤ np) (hp : np ≤ 120) (w : S7) (dn' : Nat → Bool) : ∃ dn2, F_X5_isMonth q.1 q.2.1 q.2.2 w mo ki am sk dn' (nI M) np n = (true, gS q mo ki am sk n M, 0, dn2) := by
  unfold F_X5_isMonth
  rw [in_t (nI_pos' (by omega)) (nI_le hM (by omega)), if_neg (show ¬ bI true = 0 by decide), nI_clamp (by omega), goTo_F hn]
  exact ⟨_, rfl⟩
theorem month_cases (hp : np ≤ 120) (x : Int32) : (∃ M, M ≤ np ∧ x = nI M) ∨ (¬ (0 ≤ x ∧ x ≤ nI np) ∧ (x < 0 ∨ (¬ x < 0 ∧ ¬ x ≤ nI np))) := by
  by_cases h : 0 ≤ x ∧ x ≤ nI np
  · exact Or.inl ⟨x.toNatClampNeg, cl_le (by omega) h.1 h.2, cl_of h.1⟩
  · refine Or.inr ⟨h, ?_⟩
    by_cases h1 : x < 0
    · exact Or.inl h1
    · exact Or.inr ⟨h1, fun z => h ⟨nlt_le.mp h1, z⟩⟩
theorem p_accountAt {dn : Nat → Bool} {y1 y2 y3 y4 y5 y6 y7 : N32} {v : S7} (I : Inv np n q mo ki am sk (dn, y1, y2, y3, y4, y5, y6, y7, v)) (tr w : S7) (dn' : Nat → Bool) (x : Int32) :
    (∃ (kk : Int32) (w2 : S7) (dn2 : Nat → Bool), ¬ kk = 0 ∧ (F_X4_accountAt (nI np) y1 y2 y3 y4 y5 y6 y7 tr x).1 = kk ∧ F_X5_accountAt q.1 q.2.1 q.2.2 w mo ki am sk dn' x np n = (0, w2, kk, dn2)) ∨
    (∃ (a : Int32) (tr2 w2 : S7) (dn2 : Nat → Bool), F_X4_accountAt (nI np) y1 y2 y3 y4 y5 y6 y7 tr x = (0, a, tr2) ∧ F_X5_accountAt q.1 q.2.1 q.2.2 w mo ki am sk dn' x np n = (a, w2, 0, dn2)) := by
  unfold F_X4_accountAt F_X5_accountAt
  have hp := I.2.1
  rcases month_cases hp x with ⟨M, hM, rfl⟩ | ⟨h, h2⟩
  · obtain ⟨dn2, e⟩ := isMonth_t (q := q) (mo := mo) (ki := ki) (am := am) (sk := sk) I.1 hM hp w dn'
    rw [e, if_neg (nI_pos (by omega)), if_pos (nI_le hM (by omega)), recall_t (by omega), if_neg (show ¬ bI true = 0 by decide)]
    obtain ⟨g, s, k, C⟩ := id I.2.2.1
    refine Or.inr ⟨_, _, gS q mo ki am sk n M, dn2, rfl, ?_⟩
    show ((gS q mo ki am sk n M).2.1, _, _, _) = _
    rw [← (I.sim C hM).2.1]
    rfl
  · rw [isMonth_f h]
    rcases h2 with h2 | ⟨h2, h3⟩
    · rw [if_pos h2]
      exact Or.inl ⟨1, w, dn', by decide, rfl, rfl⟩
    · rw [if_neg h2, if_neg h3]
      exact Or.inl ⟨1, w, dn', by decide, rfl, rfl⟩
theorem p_stateAt {dn : Nat → Bool} {y1 y2 y3 y4 y5 y6 y7 : N32} {v : S7} (I : Inv np n q mo ki am sk (dn, y1, y2, y3, y4, y5, y6, y7, v)) (tr w : S7) (dn' : Nat → Bool) (x : Int32) :
    (∃ (kk : Int32) (w2 : S7) (dn2 : Nat → Bool), ¬ kk = 0 ∧ (F_X4_stateAt (nI np) y1 y2 y3 y4 y5 y6 y7 tr x).1 = kk ∧ F_X5_stateAt q.1 q.2.1 q.2.2 w mo ki am sk dn' x np n = (0, w2, kk, dn2)) ∨
    (∃ (a : Int32) (tr2 w2 : S7) (dn2 : Nat → Bool), F_X4_stateAt (nI np) y1 y2 y3 y4 y5 y6 y7 tr x = (0, a, tr2) ∧ F_X5_stateAt q.1 q.2.1 q.2.2 w mo ki am sk dn' x np n = (a, w2, 0, dn2)) := by
  unfold F_X4_stateAt F_X5_stateAt
  have hp := I.2.1
  rcases month_cases hp x with ⟨M, hM, rfl⟩ | ⟨h, h2⟩
  · obtain ⟨dn2, e⟩ := isMonth_t (q := q) (mo := mo) (ki := ki) (am := am) (sk := sk) I.1 hM hp w dn'
    rw [e, if_neg (nI_pos (by omega)), if_pos (nI_le hM (by omega)), recall_t (by omega), if_neg (show ¬ bI true = 0 by decide)]
    obtain ⟨g, s, k, C⟩ := id I.2.2.1
    refine Or.inr ⟨_, _, gS q mo ki am sk n M, dn2, rfl, ?_⟩
    show ((gS q mo ki am sk n M).1, _, _, _) = _
    rw [← (I.sim C hM).1]
    rfl
  · rw [isMonth_f h]
    rcases h2 with h2 | ⟨h2, h3⟩
    · rw [if_pos h2]
      exact Or.inl ⟨1, w, dn', by decide, rfl, rfl⟩
    · rw [if_neg h2, if_neg h3]
      exact Or.inl ⟨1, w, dn', by decide, rfl, rfl⟩
theorem afs_L (hn : n ≤ 60) : ∀ d i : Nat, Lp_X4_accountFromStart mo ki am sk q n d i (rS q mo ki am sk n i) = (0, (rS q mo ki am sk n (i + d)).2.1, rS q mo ki am sk n (i + d)) := by
  intro d
  induction d with
  | zero => intro i; rfl
  | succ d ih =>
    intro i
    rw [Lp_X4_accountFromStart, pall_F hn, rS_succ, ih, show i + 1 + d = i + (d + 1) by omega]
theorem p_accountFromStart (I : Inv np n q mo ki am sk r) (tr w : S7) (dn' : Nat → Bool) (x : Int32) :
    (∃ (kk : Int32) (w2 : S7) (dn2 : Nat → Bool), ¬ kk = 0 ∧ (F_X4_accountFromStart mo ki am sk q tr x np n).1 = kk ∧ F_X5_accountFromStart q.1 q.2.1 q.2.2 w mo ki am sk dn' x np n = (0, w2, kk, dn2)) ∨
    (∃ (a : Int32) (tr2 w2 : S7) (dn2 : Nat → Bool), F_X4_accountFromStart mo ki am sk q tr x np n = (0, a, tr2) ∧ F_X5_accountFromStart q.1 q.2.1 q.2.2 w mo ki am sk dn' x np n = (a, w2, 0, dn2)) := by
  unfold F_X4_accountFromStart F_X5_accountFromStart
  have hp := I.2.1
  rcases month_cases hp x with ⟨M, hM, rfl⟩ | ⟨h, h2⟩
  · obtain ⟨dn2, e⟩ := isMonth_t (q := q) (mo := mo) (ki := ki) (am := am) (sk := sk) I.1 hM hp w dn'
    rw [e, if_neg (nI_pos (by omega)), if_pos (nI_le hM (by omega)), if_neg (show ¬ bI true = 0 by decide), nI_clamp (by omega)]
    obtain ⟨g, s, k, C⟩ := id I.2.2.1
    have e9 := afs_L (q := q) (mo := mo) (ki := ki) (am := am) (sk := sk) I.1 M 0
    rw [Nat.zero_add] at e9
    refine Or.inr ⟨_, _, gS q mo ki am sk n M, dn2, e9, ?_⟩
    show ((gS q mo ki am sk n M).2.1, _, _, _) = _
    rw [(sim_run (sk := sk) C I.1 I.2.2.2.1 M (by omega)).1.2.1]
  · rw [isMonth_f h]
    rcases h2 with h2 | ⟨h2, h3⟩
    · rw [if_pos h2]
      exact Or.inl ⟨1, w, dn', by decide, rfl, rfl⟩
    · rw [if_neg h2, if_neg h3]
      exact Or.inl ⟨1, w, dn', by decide, rfl, rfl⟩
-- the acts' numbers
theorem p_isDone (I : Inv np n q mo ki am sk r) (w : S7) (dn' : Nat → Bool) (x : Int32) :
    (∃ (kk : Int32) (w2 : S7) (dn2 : Nat → Bool), ¬ kk = 0 ∧ (F_X4_isDone (nI n) sk r.1 x).1 = kk ∧ F_X5_isDone q.1 q.2.1 q.2.2 w mo ki am sk dn' x np n = (false, w2, kk, dn2)) ∨
    (∃ (b : Bool) (w2 : S7) (dn2 : Nat → Bool), F_X4_isDone (nI n) sk r.1 x = (0, b) ∧ F_X5_isDone q.1 q.2.1 q.2.2 w mo ki am sk dn' x np n = (b, w2, 0, dn2)) := by
  have hn := I.1
  unfold F_X4_isDone F_X5_isDone F_X5_isAct
  rcases act_ix hn x with ⟨i, hi, rfl⟩ | ⟨h1, h2⟩
  · have hin : F_X5_in (nI i) 0 (nI n - 1) = true := in_t (nI_pos' (by omega)) (by
      cases n with
      | zero => omega
      | succ n => rw [nI_pred]; exact nI_le (by omega) (by omega))
    rw [hin, stands_t hn hi, if_neg (show ¬ bI true = 0 by decide), nI_clamp (by omega)]
    cases hs : sk i with
    | true => exact Or.inl ⟨1, w, dn', by decide, rfl, rfl⟩
    | false =>
      obtain ⟨M, hM, hmo⟩ := I.2.2.2.2.1 i hi
      have e := I.flag hi hs hM hmo dn'
      refine Or.inr ⟨(F_X5_goNow q.1 q.2.1 q.2.2 mo ki am sk dn' np n).2 i, (F_X5_goNow q.1 q.2.1 q.2.2 mo ki am sk dn' np n).1, (F_X5_goNow q.1 q.2.1 q.2.2 mo ki am sk dn' np n).2, ?_, rfl⟩
      show ((0 : Int32), F_X0_wasDone (nI n) r.1 (nI i)) = _
      unfold F_X0_wasDone
      rw [has_t hn hi, if_neg (show ¬ bI true = 0 by decide), nI_clamp (by omega), e]
      cases (F_X5_goNow q.1 q.2.1 q.2.2 mo ki am sk dn' np n).2 i <;> rfl
  · have hs : F_X0_stands (nI n) sk x = false := by
      unfold F_X0_stands
      rw [h1, if_pos (show bI false = 0 by decide)]
    rw [hs, h2, if_pos (show bI false = 0 by decide), if_pos (show bI false = 0 by decide)]
    exact Or.inl ⟨1, w, dn', by decide, rfl, rfl⟩
-- close
theorem close_L (I : Inv np n q mo ki am sk r) : ∀ (d i : Nat) (y1 y2 y3 y4 y5 y6 y7 : N32), np + i + d ≤ 120 → (∀ m, m ≤ np + i → hrow y1 y2 y3 y4 y5 y6 y7 m = rS q mo ki am sk n m) →
    ∃ (y1' y2' y3' y4' y5' y6' y7' : N32) (v2 : S7), Lp_X4_close q np d i (rN q mo ki am sk n (np + i)).1 y1 y2 y3 y4 y5 y6 y7 = (0, nI (np + i + d), nI (np + i + d), v2, y1', y2', y3', y4', y5', y6', y7') ∧ v2 = (rN q mo ki am sk n (np + i + d)).1 ∧ ∀ m, m ≤ np + i + d → hrow y1' y2' y3' y4' y5' y6' y7' m = rS q mo ki am sk n m := by
  intro d
  induction d with
  | zero =>
    intro i y1 y2 y3 y4 y5 y6 y7 h1 h2
    exact ⟨y1, y2, y3, y4, y5, y6, y7, _, rfl, rfl, h2⟩
  | succ d ih =>
    intro i y1 y2 y3 y4 y5 y6 y7 h1 h2
    have e1 : F_X4_endMonth q (rN q mo ki am sk n (np + i)).1 (nI (np + i)) = rS q mo ki am sk n (np + i + 1) := rS_succ (np + i) fF
    have e2 : (rN q mo ki am sk n (np + (i + 1))).1 = rS q mo ki am sk n (np + i + 1) := by
      unfold rN
      have e3 : gl (onC mo sk (np + (i + 1))) (cA q ki am (np + (i + 1))) n 0 (rS q mo ki am sk n (np + (i + 1))) fF = gl (fun _ => false) (cA q ki am (np + (i + 1))) n 0 (rS q mo ki am sk n (np + (i + 1))) fF := by
        refine gl_congr n 0 _ _ (fun k _ hk => ?_) (fun k _ _ _ _ => rfl)
        obtain ⟨j, hj, hmo⟩ := I.2.2.2.2.1 k (by omega)
        exact onC_f (fun z => by
          have := (nI_eq (a := j) (b := np + (i + 1)) (by have := I.2.1; omega) (by omega)).mp (hmo.symm.trans z.2)
          omega)
      rw [e3]
      have e4 : ∀ (d i : Nat) (v : S7) (dn : Nat → Bool) (f : Nat → S7 → Bool × S7), (gl (fun _ => false) f d i v dn).1 = v := by
        intro d
        induction d with
        | zero => intro i v dn f; rfl
        | succ d ih => intro i v dn f; exact ih (i + 1) v dn f
      exact e4 n 0 _ _ _
    rw [Lp_X4_close, e1, nI_1, keep_t (by omega), ← e2]
    obtain ⟨z1, z2, z3, z4, z5, z6, z7, v2, t1, t2, t3⟩ := ih (i + 1) _ _ _ _ _ _ _ (by omega) (fun m hm => (hrow_upd y1 y2 y3 y4 y5 y6 y7 (np + i + 1) m (rN q mo ki am sk n (np + (i + 1))).1).trans (by
      by_cases h : m = np + i + 1
      · rw [if_pos h, h, e2]
      · rw [if_neg h]
        exact h2 m (by omega)))
    have e5 : np + (i + 1) + d = np + i + (d + 1) := by omega
    rw [e5] at t1 t2 t3
    exact ⟨z1, z2, z3, z4, z5, z6, z7, v2, t1, t2, t3⟩
theorem p_close {dn : Nat → Bool} {y1 y2 y3 y4 y5 y6 y7 : N32} {v : S7} (I : Inv np n q mo ki am sk (dn, y1, y2, y3, y4, y5, y6, y7, v)) (x : Int32) :
    (∃ kk : Int32, ¬ kk = 0 ∧ (F_X4_close q v y1 y2 y3 y4 y5 y6 y7 x np).1 = kk ∧ F_X5_close (nI np) x = (0, nI np, kk)) ∨
    (∃ (np2 : Nat) (v2 : S7) (z1 z2 z3 z4 z5 z6 z7 : N32), F_X4_close q v y1 y2 y3 y4 y5 y6 y7 x np = (0, nI np2, nI np2, v2, z1, z2, z3, z4, z5, z6, z7) ∧ F_X5_close (nI np) x = (nI np2, nI np2, 0) ∧ Inv np2 n q mo ki am sk (dn, z1, z2, z3, z4, z5, z6, z7, v2)) := by
  have hp := I.2.1
  unfold F_X4_close F_X5_close
  by_cases h1 : 1 ≤ x ∧ x ≤ 24
  · rw [if_neg (show ¬ x < 1 from nlt_le.mpr h1.1), if_pos h1.2, in_t h1.1 h1.2, if_neg (show ¬ bI true = 0 by decide)]
    have hw := w_le (b := 24) (by omega) (by decide +kernel) (nlt_le.mpr h1.1) h1.2
    by_cases h3 : (nI np + x) ≤ 120
    · rw [if_pos h3, if_pos h3]
      have hle := close_le hp hw h3
      obtain ⟨e1, e2, e3⟩ := hw
      obtain ⟨z1, z2, z3, z4, z5, z6, z7, v2, t1, t2, t3⟩ := close_L I x.toNatClampNeg 0 y1 y2 y3 y4 y5 y6 y7 (by omega) (fun m hm => I.2.2.2.2.2.1 m (by omega))
      rw [Nat.add_zero] at t1 t2 t3
      have hv : v = (rN q mo ki am sk n np).1 := I.2.2.2.2.2.2.1
      rw [hv, t1]
      refine Or.inr ⟨np + x.toNatClampNeg, v2, z1, z2, z3, z4, z5, z6, z7, rfl, ?_, I.1, hle, I.2.2.1, I.2.2.2.1, fun k hk => ?_, t3, t2, fun k m hk hs hm hmo => ?_⟩
      · have e9 : nI np + x = nI (np + x.toNatClampNeg) := by
          rw [← nI_add, ← e1]
        rw [e9]
      · obtain ⟨j, hj, hmo⟩ := I.2.2.2.2.1 k hk
        exact ⟨j, by omega, hmo⟩
      · obtain ⟨j, hj, hmo2⟩ := I.2.2.2.2.1 k hk
        have e9 : m = j := (nI_eq (by omega) (by omega)).mp (hmo.symm.trans hmo2)
        exact I.2.2.2.2.2.2.2 k m hk hs (by omega) hmo
    · rw [if_neg h3, if_neg h3]
      exact Or.inl ⟨2, by decide, rfl, rfl⟩
  · rw [in_f h1, if_pos (show bI false = 0 by decide)]
    by_cases h4 : x < 1
    · rw [if_pos h4]
      exact Or.inl ⟨1, by decide, rfl, rfl⟩
    · rw [if_neg h4, if_neg (fun z => h1 ⟨nlt_le.mp h4, z⟩)]
      exact Or.inl ⟨1, by decide, rfl, rfl⟩
end
end PCALLS
