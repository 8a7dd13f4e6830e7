section LDEED
section
variable {np n : Nat} {q : S3} {mo ki am : N32} {sk : Nat → Bool} {r : T9} {qf af mf df sf cf lf rf gf tf : N32} {w : S7}
theorem t_tell (I : Inv np n q mo ki am sk r) (L : LInv np n q mo ki am sk qf af mf df sf cf lf rf gf tf w) (hn : n + 1 ≤ 60) {M : Nat} (hM : M ≤ np) {a x : Int32} (h : 0 ≤ a ∧ a ≤ 5 ∧ 1 ≤ x ∧ x ≤ 2000000) :
    LInv np (n + 1) q (upd mo n (nI M)) (upd ki n a) (upd am n x) (updB sk n false) (upd qf n (nI M)) (upd af n a) (upd mf n x) (F_L_works q np (n + 1) (upd qf n (nI M)) (upd af n a) (upd mf n x) df sf cf lf rf gf tf M).1 (F_L_works q np (n + 1) (upd qf n (nI M)) (upd af n a) (upd mf n x) df sf cf lf rf gf tf M).2.2.1 (F_L_works q np (n + 1) (upd qf n (nI M)) (upd af n a) (upd mf n x) df sf cf lf rf gf tf M).2.2.2.1 (F_L_works q np (n + 1) (upd qf n (nI M)) (upd af n a) (upd mf n x) df sf cf lf rf gf tf M).2.2.2.2.1 (F_L_works q np (n + 1) (upd qf n (nI M)) (upd af n a) (upd mf n x) df sf cf lf rf gf tf M).2.2.2.2.2.1 (F_L_works q np (n + 1) (upd qf n (nI M)) (upd af n a) (upd mf n x) df sf cf lf rf gf tf M).2.2.2.2.2.2.1 (F_L_works q np (n + 1) (upd qf n (nI M)) (upd af n a) (upd mf n x) df sf cf lf rf gf tf M).2.2.2.2.2.2.2 (F_L_works q np (n + 1) (upd qf n (nI M)) (upd af n a) (upd mf n x) df sf cf lf rf gf tf M).2.1 := by
  obtain ⟨i1, i2, i3, i4, i5, -⟩ := I
  obtain ⟨K, h1, h2, h3⟩ := L
  refine works_LInv i3 hn (ext_Ak i4 h) (fun k hk => ?_) i2 hM (fun m hm => ?_) (fun k m hk hs hm hmo => ?_)
  · by_cases e : k = n
    · subst e
      rw [pk_us, pk_us, pk_us, pk_us, pk_us, pk_us, updB_self, if_neg (by decide)]
      exact ⟨rfl, rfl, rfl⟩
    · rw [pk_un e, pk_un e, pk_un e, pk_un e, pk_un e, pk_un e, updB_ne _ _ e]
      exact K k (by omega)
  · rw [xm_gS (by omega) a x m hm]
    exact h1 m (by omega)
  · have e : k ≠ n := fun z => by
      subst z
      rw [pk_us] at hmo
      have := (nI_eq (a := M) (b := m) (by omega) (by omega)).mp hmo
      omega
    rw [updB_ne _ _ e] at hs
    rw [pk_un e] at hmo
    rw [xm_gN (by omega) hm]
    exact h3 k m (by omega) hs (by omega) hmo
theorem t_strike (I : Inv np n q mo ki am sk r) (L : LInv np n q mo ki am sk qf af mf df sf cf lf rf gf tf w) {i M : Nat} (hi : i < n) (hM : M ≤ np) (hmo : mo i = nI M) :
    LInv np n q mo ki am (updB sk i true) (upd qf i (-1)) af mf (F_L_works q np n (upd qf i (-1)) af mf df sf cf lf rf gf tf M).1 (F_L_works q np n (upd qf i (-1)) af mf df sf cf lf rf gf tf M).2.2.1 (F_L_works q np n (upd qf i (-1)) af mf df sf cf lf rf gf tf M).2.2.2.1 (F_L_works q np n (upd qf i (-1)) af mf df sf cf lf rf gf tf M).2.2.2.2.1 (F_L_works q np n (upd qf i (-1)) af mf df sf cf lf rf gf tf M).2.2.2.2.2.1 (F_L_works q np n (upd qf i (-1)) af mf df sf cf lf rf gf tf M).2.2.2.2.2.2.1 (F_L_works q np n (upd qf i (-1)) af mf df sf cf lf rf gf tf M).2.2.2.2.2.2.2 (F_L_works q np n (upd qf i (-1)) af mf df sf cf lf rf gf tf M).2.1 := by
  obtain ⟨i1, i2, i3, i4, i5, -⟩ := I
  obtain ⟨K, h1, h2, h3⟩ := L
  refine works_LInv i3 i1 i4 (fun k hk => ?_) i2 hM (fun m hm => ?_) (fun k m hk hs hm hmo2 => ?_)
  · by_cases e : k = i
    · subst e
      rw [pk_us, updB_self, if_pos rfl]
      exact ⟨rfl, (K k hk).2⟩
    · rw [pk_un e, updB_ne _ _ e]
      exact K k hk
  · rw [xs_gS (by omega) hmo m hm]
    exact h1 m (by omega)
  · have e : k ≠ i := fun z => by
      subst z
      rw [updB_self] at hs
      exact absurd hs (by decide)
    rw [updB_ne _ _ e] at hs
    rw [xs_gN (by omega) hm hmo]
    exact h3 k m hk hs (by omega) hmo2
theorem t_close (I : Inv np n q mo ki am sk r) (L : LInv np n q mo ki am sk qf af mf df sf cf lf rf gf tf w) {np2 : Nat} (h1 : np ≤ np2) (h2 : np2 ≤ 120) :
    LInv np2 n q mo ki am sk qf af mf (F_L_works q np2 n qf af mf df sf cf lf rf gf tf np).1 (F_L_works q np2 n qf af mf df sf cf lf rf gf tf np).2.2.1 (F_L_works q np2 n qf af mf df sf cf lf rf gf tf np).2.2.2.1 (F_L_works q np2 n qf af mf df sf cf lf rf gf tf np).2.2.2.2.1 (F_L_works q np2 n qf af mf df sf cf lf rf gf tf np).2.2.2.2.2.1 (F_L_works q np2 n qf af mf df sf cf lf rf gf tf np).2.2.2.2.2.2.1 (F_L_works q np2 n qf af mf df sf cf lf rf gf tf np).2.2.2.2.2.2.2 (F_L_works q np2 n qf af mf df sf cf lf rf gf tf np).2.1 := by
  obtain ⟨i1, i2, i3, i4, i5, -⟩ := I
  obtain ⟨K, g1, g2, g3⟩ := L
  exact works_LInv i3 i1 i4 K h2 h1 (fun m hm => g1 m hm) (fun k m hk hs hm hmo => g3 k m hk hs (by omega) hmo)
theorem t_zero {q2 : S3} (hC : ∃ g s k : Int, Cfg q2 g s k) (h0 : tk sf cf lf rf gf tf 0 = F_X5_start) :
    LInv 0 0 q2 mo ki am sk qf af mf (F_L_works q2 0 0 qf af mf df sf cf lf rf gf tf 0).1 (F_L_works q2 0 0 qf af mf df sf cf lf rf gf tf 0).2.2.1 (F_L_works q2 0 0 qf af mf df sf cf lf rf gf tf 0).2.2.2.1 (F_L_works q2 0 0 qf af mf df sf cf lf rf gf tf 0).2.2.2.2.1 (F_L_works q2 0 0 qf af mf df sf cf lf rf gf tf 0).2.2.2.2.2.1 (F_L_works q2 0 0 qf af mf df sf cf lf rf gf tf 0).2.2.2.2.2.2.1 (F_L_works q2 0 0 qf af mf df sf cf lf rf gf tf 0).2.2.2.2.2.2.2 (F_L_works q2 0 0 qf af mf df sf cf lf rf gf tf 0).2.1 := by
  refine works_LInv hC (by omega) (fun k hk => by omega) (fun k hk => by omega) (by omega) (by omega) (fun m hm => ?_) (fun k m hk => by omega)
  have e : m = 0 := by omega
  subst e
  exact h0
theorem LInv.row0 (L : LInv np n q mo ki am sk qf af mf df sf cf lf rf gf tf w) : tk sf cf lf rf gf tf 0 = F_X5_start := L.2.1 0 (Nat.zero_le _)
theorem linv0 (mo ki am : N32) (sk : Nat → Bool) (qf af mf df : N32) : LInv 0 0 (30, 5000000, 0) mo ki am sk qf af mf df (fun _ => 0) (fun _ => 0) (fun _ => 0) (fun _ => 0) (fun _ => 0) (upd (fun _ => 0) 0 (-1)) (0, 0, 0, 0, 0, 0, -1) := by
  refine ⟨fun k hk => by omega, fun m hm => ?_, rfl, fun k m hk => by omega⟩
  have e : m = 0 := by omega
  subst e
  exact (show tk (fun _ => 0) (fun _ => 0) (fun _ => 0) (fun _ => 0) (fun _ => 0) (upd (fun _ => 0) 0 (-1)) 0 = F_X5_start by decide +kernel)
-- what isPolicy compares
theorem a_RB {g s k : Int} (I : Inv np n q mo ki am sk r) (L : LInv np n q mo ki am sk qf af mf df sf cf lf rf gf tf w) (C : Cfg q g s k) : RB s g n mo np n (tV r) w := by
  rw [L.2.2.1]
  exact I.now C
theorem a_row {g s k : Int} (I : Inv np n q mo ki am sk r) (L : LInv np n q mo ki am sk qf af mf df sf cf lf rf gf tf w) (C : Cfg q g s k) {m : Nat} (hm : m ≤ np) : (tR r m).2.1 = cf m ∧ (tR r m).1 = sf m := by
  have h := I.sim C hm
  rw [← L.2.1 m hm] at h
  exact ⟨h.2.1, h.1⟩
theorem a_live (I : Inv np n q mo ki am sk r) (L : LInv np n q mo ki am sk qf af mf df sf cf lf rf gf tf w) : (¬ 2 ≤ w.1 ∧ (w.1 = 0 ∨ w.1 = 1) ∧ F_X3_isLive (tV r) = true) ∨ (2 ≤ w.1 ∧ ¬ w.1 ≤ 1 ∧ F_X3_isLive (tV r) = false) := by
  obtain ⟨g, s, k, C⟩ := id I.2.2.1
  have hB := a_RB I L C
  rcases hB.live with ⟨h1, h2, h3⟩ | ⟨h1, h3⟩
  · exact Or.inl ⟨by rcases h2 with h | h <;> rw [h] <;> decide, h2, h3⟩
  · obtain ⟨-, j, hj, hB⟩ := hB
    exact Or.inr ⟨(live2 hB).2.mpr h1, h1, h3⟩
theorem a_get (I : Inv np n q mo ki am sk r) (L : LInv np n q mo ki am sk qf af mf df sf cf lf rf gf tf w) : F_X4_state (tV r) = w.1 ∧ F_X4_account (tV r) = w.2.1 ∧ F_X4_loan (tV r) = w.2.2.1 ∧ F_X4_arrears (tV r) = w.2.2.2.1 ∧ (w.1 = 1 → F_X4_grace (tV r) = w.2.2.2.2.1) ∧ (¬ w.1 = 1 → F_X4_grace (tV r) = 0) ∧ F_X4_paid (tV r) = w.2.2.2.2.2.2 := by
  obtain ⟨g, s, k, C⟩ := id I.2.2.1
  obtain ⟨h1, h2, h3, h4, h5, h6, h7, h8, h9⟩ := (a_RB I L C).1
  refine ⟨h1, h2, h3, h4, h5, h6, ?_⟩
  unfold F_X4_paid
  by_cases h : w.1 = 3
  · rw [if_pos (h1.trans h)]
    exact (h8 h).symm
  · rw [if_neg (fun z => h (h1.symm.trans z))]
    exact (h9 h).symm
theorem a_dc (I : Inv np n q mo ki am sk r) (L : LInv np n q mo ki am sk qf af mf df sf cf lf rf gf tf w) (hl : ¬ 2 ≤ w.1) : lg_cmp (F_X4_deathSum (nI np) q (tV r)).toInt64 (F_L_death (w5 q (nI np) (nI n)) w (nI np)) = 0 ∧ F_X4_charge (nI np) q (tV r) = F_L_charge (w5 q (nI np) (nI n)) w np := by
  obtain ⟨g, s, k, C⟩ := id I.2.2.1
  have hB := a_RB I L C
  have hp := I.2.1
  rcases a_live I L with ⟨-, h2, h3⟩ | ⟨h, -⟩
  · obtain ⟨a, e1, e2, a0, a1⟩ := hB.ac I.1 (by omega)
    have hd := v_deathSumFor C (m := np) (by omega) e2 a0 a1
    have hdL := v_deathL C (m := np) (by omega) e1 a0 a1 (nI np) (nI n)
    unfold F_X4_deathSum F_X4_charge
    rw [h3, if_neg (show ¬ bI true = 0 by decide), if_neg (show ¬ bI true = 0 by decide)]
    refine ⟨?_, i_inj (v_chargeFor C (m := np) (by omega) e2 a0 a1) (v_chargeL C (m := np) (by omega) e1 a0 a1 (nI np) (nI n))⟩
    rw [l_inj (w64 hd) hdL]
    exact lcmp_self _
  · exact absurd h hl
theorem a_dn (I : Inv np n q mo ki am sk r) (L : LInv np n q mo ki am sk qf af mf df sf cf lf rf gf tf w) (hl : 2 ≤ w.1) : lg_cmp (F_X4_deathSum (nI np) q (tV r)).toInt64 0 = 0 ∧ F_X4_charge (nI np) q (tV r) = 0 := by
  rcases a_live I L with ⟨h, -⟩ | ⟨-, -, h3⟩
  · exact absurd hl h
  · unfold F_X4_deathSum F_X4_charge
    rw [h3, if_pos (show bI false = 0 by decide), if_pos (show bI false = 0 by decide)]
    exact ⟨by decide, rfl⟩
theorem a_acct {dn : Nat → Bool} {y1 y2 y3 y4 y5 y6 y7 : N32} {v : S7} (I : Inv np n q mo ki am sk (dn, y1, y2, y3, y4, y5, y6, y7, v)) (L : LInv np n q mo ki am sk qf af mf df sf cf lf rf gf tf w) {m : Nat} (hm : m ≤ np) (tr : S7) :
    F_X4_accountAt (nI np) y1 y2 y3 y4 y5 y6 y7 tr (nI m) = (0, cf m, hrow y1 y2 y3 y4 y5 y6 y7 m) ∧ F_X4_stateAt (nI np) y1 y2 y3 y4 y5 y6 y7 tr (nI m) = (0, sf m, hrow y1 y2 y3 y4 y5 y6 y7 m) := by
  have hp := I.2.1
  obtain ⟨g, s, k, C⟩ := id I.2.2.1
  have h := a_row I L C hm
  have h1 : (hrow y1 y2 y3 y4 y5 y6 y7 m).2.1 = cf m := h.1
  have h2 : (hrow y1 y2 y3 y4 y5 y6 y7 m).1 = sf m := h.2
  unfold F_X4_accountAt F_X4_stateAt
  rw [if_neg (nI_pos (by omega)), if_pos (nI_le hm (by omega)), if_neg (nI_pos (by omega)), if_pos (nI_le hm (by omega)), recall_t (by omega), h1, h2]
  exact ⟨rfl, rfl⟩
theorem a_afs (I : Inv np n q mo ki am sk r) (L : LInv np n q mo ki am sk qf af mf df sf cf lf rf gf tf w) {m : Nat} (hm : m ≤ np) (tr : S7) : ∃ tr2 : S7, F_X4_accountFromStart mo ki am sk q tr (nI m) np n = (0, cf m, tr2) := by
  have hp := I.2.1
  obtain ⟨g, s, k, C⟩ := id I.2.2.1
  have h := (sim_run (sk := sk) (mo := mo) C I.1 I.2.2.2.1 m (by omega)).1.2.1
  rw [← L.2.1 m hm] at h
  have e9 := afs_L (q := q) (mo := mo) (ki := ki) (am := am) (sk := sk) I.1 m 0
  rw [Nat.zero_add] at e9
  unfold F_X4_accountFromStart
  rw [if_neg (nI_pos (by omega)), if_pos (nI_le hm (by omega)), nI_clamp (by omega)]
  refine ⟨rS q mo ki am sk n m, e9.trans ?_⟩
  rw [h]
  rfl
theorem a_corr {x : Int32} {g : Int} (hx : x.toInt = g) (h0 : 18 ≤ g) (h1 : g ≤ 120) : F_X4_corridor x = (0, F_L_corridor x) := by
  unfold F_X4_corridor
  rw [if_neg (fun z => by have := (lt32 hx (show (18 : Int32).toInt = 18 by decide)).mp z; omega), if_pos ((le32 hx (show (120 : Int32).toInt = 120 by decide)).mpr h1)]
  rw [i_inj (v_corL hx (by omega)) (v_corridorFor hx (by omega) (by omega))]
theorem a_done {dn : Nat → Bool} {y1 y2 y3 y4 y5 y6 y7 : N32} {v : S7} (I : Inv np n q mo ki am sk (dn, y1, y2, y3, y4, y5, y6, y7, v)) (L : LInv np n q mo ki am sk qf af mf df sf cf lf rf gf tf w) {i : Nat} (hi : i < n) :
    (¬ (F_X4_isDone (nI n) sk dn (nI i)).1 = 0 ∧ qf i < 0) ∨ ((F_X4_isDone (nI n) sk dn (nI i)).1 = 0 ∧ ¬ qf i < 0 ∧ bI (F_X4_isDone (nI n) sk dn (nI i)).2 = df i) := by
  have hn := I.1
  have hq := (L.1 i hi).1
  unfold F_X4_isDone
  rw [stands_t hn hi]
  cases hs : sk i with
  | true =>
    rw [hs, if_pos rfl] at hq
    rw [hq]
    rw [if_pos (show bI (!true) = 0 by decide)]
    exact Or.inl ⟨(show ¬ (1 : Int32) = 0 by decide), by decide⟩
  | false =>
    rw [hs, if_neg (by decide)] at hq
    obtain ⟨M, hM, hmo⟩ := I.2.2.2.2.1 i hi
    have hp := I.2.1
    refine Or.inr ⟨rfl, by rw [hq, hmo]; exact nI_pos (by omega), ?_⟩
    have e1 : dn i = (rN q mo ki am sk n M).2 i := I.2.2.2.2.2.2.2 i M hi hs hM hmo
    obtain ⟨g, s, k, C⟩ := id I.2.2.1
    have e2 := (sim_now (sk := sk) (mo := mo) C hn I.2.2.2.1 (show M ≤ 240 by omega)).2 i hi (onC_t.mpr ⟨hs, hmo⟩)
    have e3 := L.2.2.2 i M hi hs hM hmo
    show bI (F_X0_wasDone (nI n) dn (nI i)) = df i
    rw [wasDone_t hn hi, e1, e2, e3]
end
end LDEED
