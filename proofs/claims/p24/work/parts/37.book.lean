section PBOOK
section
variable {np n : Nat} {q : S3} {mo ki am : N32} {sk : Nat → Bool}
theorem wasDone_t (hn : n ≤ 60) {i : Nat} (hi : i < n) (dn : Nat → Bool) : F_X0_wasDone (nI n) dn (nI i) = dn i := by
  unfold F_X0_wasDone
  rw [has_t hn hi, if_neg (show ¬ bI true = 0 by decide), nI_clamp (by omega)]
  cases dn i <;> rfl
theorem ext_Ak {a x : Int32} (hA : Ak n ki am) (h : 0 ≤ a ∧ a ≤ 5 ∧ 1 ≤ x ∧ x ≤ 2000000) : Ak (n + 1) (upd ki n a) (upd am n x) := by
  intro k hk
  by_cases e : k = n
  · subst e
    rw [pk_us, pk_us]
    exact h
  · rw [pk_un e, pk_un e]
    exact hA k (by omega)
theorem ext_mo {M : Nat} (hM : M ≤ np) (h : ∀ k, k < n → ∃ j, j ≤ np ∧ mo k = nI j) : ∀ k, k < n + 1 → ∃ j, j ≤ np ∧ upd mo n (nI M) k = nI j := by
  intro k hk
  by_cases e : k = n
  · subst e
    exact ⟨M, hM, pk_us⟩
  · rw [pk_un e]
    exact h k (by omega)
theorem ext_rN {M m k : Nat} (hM : M < 2 ^ 31) (hm : m < M) (a x : Int32) : (rN q (upd mo n (nI M)) (upd ki n a) (upd am n x) (updB sk n false) (n + 1) m).2 k = (rN q mo ki am sk n m).2 k := by
  unfold rN
  rw [ext_rS hM a x m (by omega), ext_gl hM (by omega) (by omega)]
theorem ext_now {M : Nat} (hM : M < 2 ^ 31) (a x : Int32) : rN q (upd mo n (nI M)) (upd ki n a) (upd am n x) (updB sk n false) (n + 1) M = ((cact q (rN q mo ki am sk n M).1 a x (nI M)).2, updB (rN q mo ki am sk n M).2 n (cact q (rN q mo ki am sk n M).1 a x (nI M)).1) := by
  unfold rN
  rw [ext_rS hM a x M (by omega), ext_at hM]
theorem tell_b {r2 : T9} {M : Nat} {mo2 ki2 am2 : N32} {sk2 : Nat → Bool} (I2 : Inv np (n + 1) q mo2 ki2 am2 sk2 r2) (hM : M ≤ np) (h1 : mo2 n = nI M) (h2 : sk2 n = false) (dn' : Nat → Bool) : F_X0_wasDone (nI (n + 1)) r2.1 (nI n) = (F_X5_goNow q.1 q.2.1 q.2.2 mo2 ki2 am2 sk2 dn' np (n + 1)).2 n := by
  rw [wasDone_t I2.1 (by omega)]
  exact I2.flag (by omega) h2 hM h1 dn'
theorem tell_now {dn : Nat → Bool} {y1 y2 y3 y4 y5 y6 y7 : N32} {v : S7} (I : Inv np n q mo ki am sk (dn, y1, y2, y3, y4, y5, y6, y7, v)) (hn : n + 1 ≤ 60) {a x : Int32} (h : 0 ≤ a ∧ a ≤ 5 ∧ 1 ≤ x ∧ x ≤ 2000000) :
    Inv np (n + 1) q (upd mo n (nI np)) (upd ki n a) (upd am n x) (updB sk n false) (updB dn n (cact q v a x (nI np)).1, y1, y2, y3, y4, y5, y6, y7, (cact q v a x (nI np)).2) := by
  obtain ⟨i1, i2, i3, i4, i5, i6, i7, i8⟩ := I
  have e7 : v = (rN q mo ki am sk n np).1 := i7
  refine ⟨hn, i2, i3, ext_Ak i4 h, ext_mo (Nat.le_refl _) i5, fun m hm => ?_, ?_, fun k m hk hs hm hmo => ?_⟩
  · rw [ext_rS (by omega) a x m hm]
    exact i6 m hm
  · rw [ext_now (by omega), ← e7]
    rfl
  · by_cases e : k = n
    · subst e
      rw [pk_us] at hmo
      have e9 : m = np := ((nI_eq (by omega) (by omega)).mp hmo).symm
      subst e9
      rw [ext_now (by omega), ← e7]
      show updB dn k _ k = updB _ k _ k
      rw [updB_self, updB_self]
    · rw [updB_ne _ _ e] at hs
      rw [pk_un e] at hmo
      show updB dn n _ k = _
      rw [updB_ne _ _ e]
      have e8 : dn k = (rN q mo ki am sk n m).2 k := i8 k m (by omega) hs hm hmo
      rw [e8]
      by_cases e9 : m = np
      · subst e9
        rw [ext_now (by omega)]
        show _ = updB _ n _ k
        rw [updB_ne _ _ e]
      · rw [ext_rN (by omega) (by omega)]
theorem tell_late {dn : Nat → Bool} {y1 y2 y3 y4 y5 y6 y7 : N32} {v : S7} (I : Inv np n q mo ki am sk (dn, y1, y2, y3, y4, y5, y6, y7, v)) (hn : n + 1 ≤ 60) {M : Nat} (hM : M ≤ np) {a x : Int32} (h : 0 ≤ a ∧ a ≤ 5 ∧ 1 ≤ x ∧ x ≤ 2000000) :
    Inv np (n + 1) q (upd mo n (nI M)) (upd ki n a) (upd am n x) (updB sk n false) (F_X4_workOutFrom (upd mo n (nI M)) (upd ki n a) (upd am n x) (updB sk n false) dn y1 y2 y3 y4 y5 y6 y7 q v (n + 1) np M) := by
  obtain ⟨i1, i2, i3, i4, i5, i6, i7, i8⟩ := I
  have h0 : hrow y1 y2 y3 y4 y5 y6 y7 M = rS q (upd mo n (nI M)) (upd ki n a) (upd am n x) (updB sk n false) (n + 1) M := by
    rw [ext_rS (by omega) a x M (by omega)]
    exact i6 M hM
  obtain ⟨t1, t2, t3⟩ := wof_F (q := q) hn i2 hM dn y1 y2 y3 y4 y5 y6 y7 v h0
  refine ⟨hn, i2, i3, ext_Ak i4 h, ext_mo hM i5, fun m hm => ?_, t2, fun k m hk hs hm hmo => ?_⟩
  · rw [t1 m hm]
    by_cases e : m ≤ M
    · rw [if_pos e, ext_rS (by omega) a x m e]
      exact i6 m hm
    · rw [if_neg e]
  · rw [t3 k m hk hs hm hmo]
    by_cases e : M ≤ m
    · rw [if_pos e]
    · rw [if_neg e]
      have e2 : k ≠ n := fun z => by
        subst z
        rw [pk_us] at hmo
        have := (nI_eq (a := M) (b := m) (by omega) (by omega)).mp hmo
        omega
      rw [ext_rN (by omega) (by omega)]
      rw [updB_ne _ _ e2] at hs
      rw [pk_un e2] at hmo
      exact i8 k m (by omega) hs hm hmo
theorem isFull_f (hn : n < 60) : F_X0_isFull (nI n) = false := by
  unfold F_X0_isFull
  rw [if_pos (by rw [Int32.lt_iff_toInt_lt, nI_toInt (by omega), show (60 : Int32).toInt = 60 by decide]; omega)]
theorem isFull_t : F_X0_isFull (nI 60) = true := by decide +kernel
theorem p_tell {dn : Nat → Bool} {y1 y2 y3 y4 y5 y6 y7 : N32} {v : S7} (I : Inv np n q mo ki am sk (dn, y1, y2, y3, y4, y5, y6, y7, v)) (w : S7) (dn' : Nat → Bool) (m a x : Int32) :
    (∃ kk : Int32, ¬ kk = 0 ∧ (F_X4_tell mo ki am sk dn y1 y2 y3 y4 y5 y6 y7 q v m a x np n).1 = kk ∧ F_X5_tell q.1 q.2.1 q.2.2 w mo ki am sk dn' m a x np n = (false, nI n, w, kk, mo, ki, am, sk, dn')) ∨
    (∃ (b : Bool) (mo2 ki2 am2 : N32) (sk2 dn2 : Nat → Bool) (z1 z2 z3 z4 z5 z6 z7 : N32) (v2 w2 : S7) (dn5 : Nat → Bool), F_X4_tell mo ki am sk dn y1 y2 y3 y4 y5 y6 y7 q v m a x np n = (0, b, nI (n + 1), mo2, ki2, am2, sk2, dn2, z1, z2, z3, z4, z5, z6, z7, v2) ∧ F_X5_tell q.1 q.2.1 q.2.2 w mo ki am sk dn' m a x np n = (b, nI (n + 1), w2, 0, mo2, ki2, am2, sk2, dn5) ∧ Inv np (n + 1) q mo2 ki2 am2 sk2 (dn2, z1, z2, z3, z4, z5, z6, z7, v2)) := by
  have hn := I.1
  have hp := I.2.1
  unfold F_X4_tell F_X5_tell
  rcases month_cases hp m with ⟨M, hM, rfl⟩ | ⟨h, h2⟩
  · rw [if_neg (nI_pos (by omega)), if_pos (nI_le hM (by omega)), in_t (nI_pos' (by omega)) (nI_le hM (by omega)), if_neg (show ¬ bI true = 0 by decide)]
    by_cases ha : 0 ≤ a ∧ a ≤ 5
    · rw [if_neg (show ¬ a < 0 from nlt_le.mpr ha.1), if_pos ha.2, in_t ha.1 ha.2, if_neg (show ¬ bI true = 0 by decide)]
      by_cases hx : 1 ≤ x ∧ x ≤ 2000000
      · rw [if_neg (show ¬ x < 1 from nlt_le.mpr hx.1), if_pos hx.2, in_t hx.1 hx.2, if_neg (show ¬ bI true = 0 by decide)]
        by_cases h60 : n = 60
        · subst h60
          rw [isFull_t, if_neg (show ¬ bI true = 0 by decide), if_pos nI_60]
          exact Or.inl ⟨2, by decide, rfl, rfl⟩
        · rw [isFull_f (by omega), if_pos (show bI false = 0 by decide), if_neg (show ¬ nI n = 60 from fun z => h60 ((nI_eq (by omega) (by omega)).mp (z.trans nI_60.symm)))]
          rw [nI_pred, nI_clamp (show n < 2 ^ 31 by omega), nI_clamp (show M < 2 ^ 31 by omega)]
          right
          by_cases hMn : M = np
          · subst hMn
            rw [if_pos rfl]
            rw [perform_t (by omega) (by omega), pk_us, pk_us, pk_us, noteDone_t (by omega) (by omega)]
            have I2 := tell_now I (by omega) (a := a) (x := x) ⟨ha.1, ha.2, hx⟩
            have eb := tell_b I2 (Nat.le_refl _) pk_us (updB_self _ _ _) dn'
            rw [← eb]
            exact ⟨_, _, _, _, _, _, _, _, _, _, _, _, _, _, _, _, rfl, rfl, I2⟩
          · rw [if_neg (fun z => hMn ((nI_eq (by omega) (by omega)).mp z))]
            have I2 := tell_late I (by omega) hM (a := a) (x := x) ⟨ha.1, ha.2, hx⟩
            have eb := tell_b I2 hM pk_us (updB_self _ _ _) dn'
            rw [← eb]
            exact ⟨_, _, _, _, _, _, _, _, _, _, _, _, _, _, _, _, rfl, rfl, I2⟩
      · rw [in_f hx, if_pos (show bI false = 0 by decide)]
        by_cases h4 : x < 1
        · rw [if_pos h4]
          exact Or.inl ⟨1, by decide, rfl, rfl⟩
        · rw [if_neg h4, if_neg (fun z => hx ⟨nlt_le.mp h4, z⟩)]
          exact Or.inl ⟨1, by decide, rfl, rfl⟩
    · rw [in_f ha, if_pos (show bI false = 0 by decide)]
      by_cases h4 : a < 0
      · rw [if_pos h4]
        exact Or.inl ⟨1, by decide, rfl, rfl⟩
      · rw [if_neg h4, if_neg (fun z => ha ⟨nlt_le.mp h4, z⟩)]
        exact Or.inl ⟨1, by decide, rfl, rfl⟩
  · rw [in_f h, if_pos (show bI false = 0 by decide)]
    rcases h2 with h2 | ⟨h2, h3⟩
    · rw [if_pos h2]
      exact Or.inl ⟨1, by decide, rfl, rfl⟩
    · rw [if_neg h2, if_neg h3]
      exact Or.inl ⟨1, by decide, rfl, rfl⟩
theorem strike_I {dn : Nat → Bool} {y1 y2 y3 y4 y5 y6 y7 : N32} {v : S7} (I : Inv np n q mo ki am sk (dn, y1, y2, y3, y4, y5, y6, y7, v)) {M i : Nat} (hM : M ≤ np) (hi : mo i = nI M) :
    Inv np n q mo ki am (updB sk i true) (F_X4_workOutFrom mo ki am (updB sk i true) dn y1 y2 y3 y4 y5 y6 y7 q v n np M) := by
  obtain ⟨i1, i2, i3, i4, i5, i6, i7, i8⟩ := I
  have h0 : hrow y1 y2 y3 y4 y5 y6 y7 M = rS q mo ki am (updB sk i true) n M := by
    rw [str_rS (by omega) hi M (by omega)]
    exact i6 M hM
  obtain ⟨t1, t2, t3⟩ := wof_F (q := q) i1 i2 hM dn y1 y2 y3 y4 y5 y6 y7 v h0
  refine ⟨i1, i2, i3, i4, i5, fun m hm => ?_, t2, fun k m hk hs hm hmo => ?_⟩
  · rw [t1 m hm]
    by_cases e : m ≤ M
    · rw [if_pos e, str_rS (by omega) hi m e]
      exact i6 m hm
    · rw [if_neg e]
  · rw [t3 k m hk hs hm hmo]
    by_cases e : M ≤ m
    · rw [if_pos e]
    · rw [if_neg e]
      have e2 : k ≠ i := fun z => by
        subst z
        rw [updB_self] at hs
        exact absurd hs (by decide)
      rw [updB_ne _ _ e2] at hs
      have e8 : dn k = (rN q mo ki am sk n m).2 k := i8 k m (by omega) hs hm hmo
      refine e8.trans ?_
      unfold rN
      rw [str_rS (by omega) hi m (by omega), str_gl (by omega) (by omega) (by omega) hi]
theorem p_strike {dn : Nat → Bool} {y1 y2 y3 y4 y5 y6 y7 : N32} {v : S7} (I : Inv np n q mo ki am sk (dn, y1, y2, y3, y4, y5, y6, y7, v)) (x : Int32) :
    (∃ kk : Int32, ¬ kk = 0 ∧ (F_X4_strike mo ki am sk dn y1 y2 y3 y4 y5 y6 y7 q v x np n).1 = kk ∧ F_X5_strike mo sk x n = (0, kk, sk)) ∨
    (∃ (a : Int32) (sk2 dn2 : Nat → Bool) (z1 z2 z3 z4 z5 z6 z7 : N32) (v2 : S7), F_X4_strike mo ki am sk dn y1 y2 y3 y4 y5 y6 y7 q v x np n = (0, a, sk2, dn2, z1, z2, z3, z4, z5, z6, z7, v2) ∧ F_X5_strike mo sk x n = (a, 0, sk2) ∧ Inv np n q mo ki am sk2 (dn2, z1, z2, z3, z4, z5, z6, z7, v2)) := by
  have hn := I.1
  have hp := I.2.1
  unfold F_X4_strike F_X5_strike F_X5_isAct
  rcases act_ix hn x with ⟨i, hi, rfl⟩ | ⟨h1, h2⟩
  · have hin : F_X5_in (nI i) 0 (nI n - 1) = true := in_t (nI_pos' (by omega)) (by
      cases n with
      | zero => omega
      | succ n => rw [nI_pred]; exact nI_le (by omega) (by omega))
    rw [hin, stands_t hn hi, if_neg (show ¬ bI true = 0 by decide), nI_clamp (by omega)]
    cases hs : sk i with
    | true => exact Or.inl ⟨1, by decide, rfl, rfl⟩
    | false =>
      obtain ⟨M, hM, hmo⟩ := I.2.2.2.2.1 i hi
      have e1 : F_X0_monthOf (nI n) mo (nI i) = mo i := by
        unfold F_X0_monthOf
        rw [has_t hn hi, if_neg (show ¬ bI true = 0 by decide), nI_clamp (by omega)]
      have e2 : F_X0_cross (nI n) sk (nI i) = updB sk i true := by
        unfold F_X0_cross
        rw [has_t hn hi, if_neg (show ¬ bI true = 0 by decide), nI_clamp (by omega)]
      rw [e1, e2, hmo, nI_clamp (by omega)]
      have I2 := strike_I I hM hmo
      right
      exact ⟨nI M, _, _, _, _, _, _, _, _, _, _, rfl, rfl, I2⟩
  · have hs : F_X0_stands (nI n) sk x = false := by
      unfold F_X0_stands
      rw [h1, if_pos (show bI false = 0 by decide)]
    rw [hs, h2, if_pos (show bI false = 0 by decide)]
    exact Or.inl ⟨1, by decide, rfl, rfl⟩
end
end PBOOK
