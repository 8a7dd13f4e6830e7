section INV
abbrev N32 : Type := Nat → Int32
/-- what is done of the acts, the seven rows of history, the standing now -/
abbrev T9 : Type := (Nat → Bool) × N32 × N32 × N32 × N32 × N32 × N32 × N32 × S7
def hrow (y1 y2 y3 y4 y5 y6 y7 : N32) (m : Nat) : S7 := (y1 m, y2 m, y3 m, y4 m, y5 m, y6 m, y7 m)
def tR (r : T9) (m : Nat) : S7 := hrow r.2.1 r.2.2.1 r.2.2.2.1 r.2.2.2.2.1 r.2.2.2.2.2.1 r.2.2.2.2.2.2.1 r.2.2.2.2.2.2.2.1 m
def tV (r : T9) : S7 := r.2.2.2.2.2.2.2.2
/-- what holds between two calls -/
def Inv (np n : Nat) (q : S3) (mo ki am : N32) (sk : Nat → Bool) (r : T9) : Prop :=
  n ≤ 60 ∧ np ≤ 120 ∧ (∃ g s k : Int, Cfg q g s k) ∧ Ak n ki am ∧ (∀ k, k < n → ∃ j, j ≤ np ∧ mo k = nI j) ∧ (∀ m, m ≤ np → tR r m = rS q mo ki am sk n m) ∧ tV r = (rN q mo ki am sk n np).1 ∧
  ∀ k m, k < n → sk k = false → m ≤ np → mo k = nI m → r.1 k = (rN q mo ki am sk n m).2 k
theorem Inv.hmo {np n : Nat} {q : S3} {mo ki am : N32} {sk : Nat → Bool} {r : T9} (I : Inv np n q mo ki am sk r) : ∀ k, k < n → 0 ≤ mo k ∧ mo k ≤ nI np := by
  obtain ⟨-, hp, -, -, h, -⟩ := I
  intro k hk
  obtain ⟨j, hj, e⟩ := h k hk
  rw [e]
  exact ⟨nI_pos' (by omega), nI_le hj (by omega)⟩
theorem hasRow_t {M : Nat} (h : M < 121) : F_X1_hasRow (nI M) = true := by
  unfold F_X1_hasRow
  rw [if_neg (nI_pos (by omega)), if_neg (fun z => by rw [Int32.le_iff_toInt_le, nI_toInt (by omega), show (121 : Int32).toInt = 121 by decide] at z; omega)]
theorem recall_t {M : Nat} (h : M < 121) (y1 y2 y3 y4 y5 y6 y7 : N32) (v : S7) : F_X1_recall y1 y2 y3 y4 y5 y6 y7 v (nI M) = hrow y1 y2 y3 y4 y5 y6 y7 M := by
  unfold F_X1_recall hrow
  rw [hasRow_t h, if_neg (show ¬ bI true = 0 by decide), nI_clamp (by omega)]
theorem keep_t {M : Nat} (h : M < 121) (y1 y2 y3 y4 y5 y6 y7 : N32) (v : S7) : F_X1_keep y1 y2 y3 y4 y5 y6 y7 v (nI M) = (upd y1 M v.1, upd y2 M v.2.1, upd y3 M v.2.2.1, upd y4 M v.2.2.2.1, upd y5 M v.2.2.2.2.1, upd y6 M v.2.2.2.2.2.1, upd y7 M v.2.2.2.2.2.2) := by
  unfold F_X1_keep
  rw [hasRow_t h, if_neg (show ¬ bI true = 0 by decide), nI_clamp (by omega)]
theorem hrow_upd (y1 y2 y3 y4 y5 y6 y7 : N32) (M m : Nat) (v : S7) : hrow (upd y1 M v.1) (upd y2 M v.2.1) (upd y3 M v.2.2.1) (upd y4 M v.2.2.2.1) (upd y5 M v.2.2.2.2.1) (upd y6 M v.2.2.2.2.2.1) (upd y7 M v.2.2.2.2.2.2) m = if m = M then v else hrow y1 y2 y3 y4 y5 y6 y7 m := by
  unfold hrow upd
  by_cases h : m = M
  · simp only [if_pos h]
  · simp only [if_neg h]
section
variable {q : S3} {n np : Nat} {mo ki am : N32} {sk : Nat → Bool}
theorem rS_succ (m : Nat) (dn : Nat → Bool) : F_X4_endMonth q (gl (onC mo sk m) (cA q ki am m) n 0 (rS q mo ki am sk n m) dn).1 (nI m) = rS q mo ki am sk n (m + 1) := by
  rw [gl_st _ _ n 0 _ dn fF]
  rfl
theorem wof_L (hn : n ≤ 60) (hp : np ≤ 120) {m0 : Nat} (hm : m0 ≤ np) : ∀ (d i : Nat) (dn : Nat → Bool) (y1 y2 y3 y4 y5 y6 y7 : N32), i + d = np - m0 →
    (∀ m, m ≤ np → tR (Lp_X4_workOutFrom mo ki am sk q n np m0 d i (rS q mo ki am sk n (m0 + i)) dn y1 y2 y3 y4 y5 y6 y7) m = if m ≤ m0 + i then hrow y1 y2 y3 y4 y5 y6 y7 m else rS q mo ki am sk n m) ∧
    tV (Lp_X4_workOutFrom mo ki am sk q n np m0 d i (rS q mo ki am sk n (m0 + i)) dn y1 y2 y3 y4 y5 y6 y7) = (rN q mo ki am sk n np).1 ∧
    ∀ k m, k < n → sk k = false → m ≤ np → mo k = nI m → (Lp_X4_workOutFrom mo ki am sk q n np m0 d i (rS q mo ki am sk n (m0 + i)) dn y1 y2 y3 y4 y5 y6 y7).1 k = if m0 + i ≤ m then (rN q mo ki am sk n m).2 k else dn k := by
  intro d
  induction d with
  | zero =>
    intro i dn y1 y2 y3 y4 y5 y6 y7 hi
    have e : m0 + i = np := by omega
    rw [Lp_X4_workOutFrom, e, pan_F hn]
    refine ⟨fun m h => by rw [if_pos h]; rfl, gl_st _ _ n 0 _ _ _, fun k m hk hs hmn hmo => ?_⟩
    show (gl (onC mo sk np) (cA q ki am np) n 0 (rS q mo ki am sk n np) dn).2 k = _
    by_cases h : np ≤ m
    · have e2 : m = np := by omega
      subst e2
      rw [if_pos h]
      exact gl_in _ _ n 0 _ _ _ k (by omega) (by omega) (onC_t.mpr ⟨hs, hmo⟩)
    · rw [if_neg h]
      exact gl_out _ _ n 0 _ _ k (Or.inr (Or.inr (onC_f (fun h2 => h (by have := (nI_eq (a := m) (b := np) (by omega) (by omega)).mp (hmo.symm.trans h2.2); omega)))))
  | succ d ih =>
    intro i dn y1 y2 y3 y4 y5 y6 y7 hi
    rw [Lp_X4_workOutFrom, pan_F hn, rS_succ, nI_1, keep_t (by omega)]
    obtain ⟨t1, t2, t3⟩ := ih (i + 1) (gl (onC mo sk (m0 + i)) (cA q ki am (m0 + i)) n 0 (rS q mo ki am sk n (m0 + i)) dn).2 _ _ _ _ _ _ _ (by omega)
    refine ⟨fun m h => ?_, t2, fun k m hk hs hmn hmo => ?_⟩
    · refine (t1 m h).trans ?_
      rw [hrow_upd]
      by_cases h1 : m ≤ m0 + i
      · rw [if_pos (show m ≤ m0 + (i + 1) by omega), if_neg (show ¬ m = m0 + i + 1 by omega), if_pos h1]
      · rw [if_neg h1]
        by_cases h2 : m = m0 + i + 1
        · rw [if_pos (show m ≤ m0 + (i + 1) by omega), if_pos h2, h2]
        · rw [if_neg (show ¬ m ≤ m0 + (i + 1) by omega)]
    · refine (t3 k m hk hs hmn hmo).trans ?_
      by_cases h1 : m0 + (i + 1) ≤ m
      · rw [if_pos h1, if_pos (by omega)]
      · rw [if_neg h1]
        by_cases h2 : m = m0 + i
        · subst h2
          rw [if_pos (by omega)]
          exact gl_in _ _ n 0 _ _ _ k (by omega) (by omega) (onC_t.mpr ⟨hs, hmo⟩)
        · rw [if_neg (by omega)]
          exact gl_out _ _ n 0 _ _ k (Or.inr (Or.inr (onC_f (fun h3 => h2 ((nI_eq (by omega) (by omega)).mp (hmo.symm.trans h3.2))))))
theorem wof_F (hn : n ≤ 60) (hp : np ≤ 120) {m0 : Nat} (hm : m0 ≤ np) (dn : Nat → Bool) (y1 y2 y3 y4 y5 y6 y7 : N32) (v : S7) (h0 : hrow y1 y2 y3 y4 y5 y6 y7 m0 = rS q mo ki am sk n m0) :
    (∀ m, m ≤ np → tR (F_X4_workOutFrom mo ki am sk dn y1 y2 y3 y4 y5 y6 y7 q v n np m0) m = if m ≤ m0 then hrow y1 y2 y3 y4 y5 y6 y7 m else rS q mo ki am sk n m) ∧
    tV (F_X4_workOutFrom mo ki am sk dn y1 y2 y3 y4 y5 y6 y7 q v n np m0) = (rN q mo ki am sk n np).1 ∧
    ∀ k m, k < n → sk k = false → m ≤ np → mo k = nI m → (F_X4_workOutFrom mo ki am sk dn y1 y2 y3 y4 y5 y6 y7 q v n np m0).1 k = if m0 ≤ m then (rN q mo ki am sk n m).2 k else dn k := by
  unfold F_X4_workOutFrom
  rw [recall_t (by omega), h0]
  exact wof_L hn hp hm (np - m0) 0 dn y1 y2 y3 y4 y5 y6 y7 (by omega)
/-- a book with one act more: the other months are as they were -/
theorem ext_gl {M j : Nat} (hM : M < 2 ^ 31) (hj : j < 2 ^ 31) (h : j ≠ M) (a x : Int32) (v : S7) (dn : Nat → Bool) : gl (onC (upd mo n (nI M)) (updB sk n false) j) (cA q (upd ki n a) (upd am n x) j) (n + 1) 0 v dn = gl (onC mo sk j) (cA q ki am j) n 0 v dn := by
  rw [gl_snoc, Nat.zero_add, if_neg (fun z => h ((nI_eq hM hj).mp ((show upd mo n (nI M) n = nI M from pk_us).symm.trans (onC_t.mp z).2)).symm)]
  refine gl_congr n 0 v dn (fun k _ hk => ?_) (fun k _ hk _ v => ?_)
  · unfold onC
    rw [pk_un (by omega), updB_ne _ _ (by omega)]
  · show cact q v (upd ki n a k) (upd am n x k) (nI j) = cact q v (ki k) (am k) (nI j)
    rw [pk_un (by omega), pk_un (by omega)]
theorem ext_at {M : Nat} (hM : M < 2 ^ 31) (a x : Int32) (v : S7) (dn : Nat → Bool) : gl (onC (upd mo n (nI M)) (updB sk n false) M) (cA q (upd ki n a) (upd am n x) M) (n + 1) 0 v dn = ((cact q (gl (onC mo sk M) (cA q ki am M) n 0 v dn).1 a x (nI M)).2, updB (gl (onC mo sk M) (cA q ki am M) n 0 v dn).2 n (cact q (gl (onC mo sk M) (cA q ki am M) n 0 v dn).1 a x (nI M)).1) := by
  have e : gl (onC (upd mo n (nI M)) (updB sk n false) M) (cA q (upd ki n a) (upd am n x) M) n 0 v dn = gl (onC mo sk M) (cA q ki am M) n 0 v dn := by
    refine gl_congr n 0 v dn (fun k _ hk => ?_) (fun k _ hk _ v => ?_)
    · unfold onC
      rw [pk_un (by omega), updB_ne _ _ (by omega)]
    · show cact q v (upd ki n a k) (upd am n x k) (nI M) = cact q v (ki k) (am k) (nI M)
      rw [pk_un (by omega), pk_un (by omega)]
  rw [gl_snoc, Nat.zero_add, if_pos (onC_t.mpr ⟨updB_self _ _ _, pk_us⟩), e]
  show ((cact q _ (upd ki n a n) (upd am n x n) (nI M)).2, updB _ n (cact q _ (upd ki n a n) (upd am n x n) (nI M)).1) = _
  rw [pk_us, pk_us]
theorem ext_rS {M : Nat} (hM : M < 2 ^ 31) (a x : Int32) : ∀ m, m ≤ M → rS q (upd mo n (nI M)) (upd ki n a) (upd am n x) (updB sk n false) (n + 1) m = rS q mo ki am sk n m :=
  gr_congr M (fun j hj v => by rw [ext_gl hM (by omega) (by omega)])
/-- a book with one act struck -/
theorem str_gl {M j i : Nat} (hM : M < 2 ^ 31) (hj : j < 2 ^ 31) (h : j ≠ M) (hi : mo i = nI M) (v : S7) (dn : Nat → Bool) : gl (onC mo (updB sk i true) j) (cA q ki am j) n 0 v dn = gl (onC mo sk j) (cA q ki am j) n 0 v dn := by
  refine gl_congr n 0 v dn (fun k _ hk => ?_) (fun k _ hk _ v => rfl)
  by_cases e : k = i
  · subst e
    rw [onC_f (fun z => h ((nI_eq hM hj).mp (hi.symm.trans z.2)).symm), onC_f (fun z => h ((nI_eq hM hj).mp (hi.symm.trans z.2)).symm)]
  · unfold onC
    rw [updB_ne _ _ e]
theorem str_rS {M i : Nat} (hM : M < 2 ^ 31) (hi : mo i = nI M) : ∀ m, m ≤ M → rS q mo ki am (updB sk i true) n m = rS q mo ki am sk n m :=
  gr_congr M (fun j hj v => by rw [str_gl hM (by omega) (by omega) hi])
-- ranges
theorem in_t {x y z : Int32} (h1 : y ≤ x) (h2 : x ≤ z) : F_X5_in x y z = true := by
  unfold F_X5_in
  rw [Int32.le_iff_toInt_le] at h1 h2
  rw [if_neg (fun h => by rw [Int32.lt_iff_toInt_lt] at h; omega), if_neg (fun h => by rw [Int32.lt_iff_toInt_lt] at h; omega)]
theorem in_f {x y z : Int32} (h : ¬ (y ≤ x ∧ x ≤ z)) : F_X5_in x y z = false := by
  cases e : F_X5_in x y z with
  | false => rfl
  | true => exact absurd (in5 (by rw [e]; decide)) h
theorem nlt_le {x y : Int32} : ¬ x < y ↔ y ≤ x := by
  rw [Int32.lt_iff_toInt_lt, Int32.le_iff_toInt_le]
  omega
theorem lt_of_nle' {x y : Int32} (h : ¬ y ≤ x) : x < y := by
  rw [Int32.le_iff_toInt_le] at h
  rw [Int32.lt_iff_toInt_lt]
  omega
/-- a number that names an act, or one that doesn't -/
theorem act_ix (hn : n ≤ 60) (x : Int32) : (∃ i, i < n ∧ x = nI i) ∨ (F_X0_has (nI n) x = false ∧ F_X5_in x 0 (nI n - 1) = false) := by
  by_cases h : 0 ≤ x ∧ x ≤ nI n - 1
  · cases n with
    | zero =>
      exfalso
      obtain ⟨h1, h2⟩ := h
      rw [Int32.le_iff_toInt_le] at h1 h2
      have e0 : (0 : Int32).toInt = 0 := by decide
      have e1 : (nI 0 - 1 : Int32).toInt = -1 := by decide +kernel
      omega
    | succ n =>
      rw [nI_pred] at h
      exact Or.inl ⟨x.toNatClampNeg, by have := cl_le (by omega) h.1 h.2; omega, cl_of h.1⟩
  · refine Or.inr ⟨?_, in_f h⟩
    unfold F_X0_has
    by_cases h1 : x < 0
    · rw [if_pos h1]
    · rw [if_neg h1]
      have h0 := nlt_le.mp h1
      by_cases h2 : nI n ≤ x
      · rw [if_pos h2]
      · exfalso
        apply h
        refine ⟨h0, ?_⟩
        cases n with
        | zero =>
          exfalso
          exact h2 (by rw [nI_0]; exact h0)
        | succ n =>
          rw [nI_pred]
          have h3 := lt_of_nle' h2
          rw [Int32.lt_iff_toInt_lt, nI_toInt (by omega)] at h3
          rw [Int32.le_iff_toInt_le, nI_toInt (by omega)]
          omega
end
end INV
