section LRUN
section
variable {q : S3} {g s k : Int} {n m : Nat} {mo ki am : N32} {sk : Nat → Bool}
/-- where the law's policy lies, in month m with the acts from i on to come -/
def LR (s g : Int) (n : Nat) (mo : N32) (m i : Nat) (w : S7) : Prop := EX m w ∧ ∃ v, RB s g n mo m i v w
theorem lr_skip {i : Nat} {w : S7} (h : LR s g n mo m i w) : LR s g n mo m (i + 1) w := by
  obtain ⟨E, v, hR, j, hj, hB⟩ := h
  have hle : cR (later mo m (i + 1)) n ≤ cR (later mo m i) n := cR_mono n (fun k _ h => by
    rw [later_t] at h ⊢
    omega)
  exact ⟨E, v, hR, j, by omega, hB⟩
theorem lr_step (C : Cfg q g s k) (hn : n ≤ 60) (hm : m ≤ 240) (hA : Ak n ki am) {i : Nat} (hi : i < n) {w : S7} (h : LR s g n mo m i w) (on : onC mo sk m i = true) : (∃ j, j ≤ 60 ∧ Bd s g m j w) ∧ LR s g n mo m (i + 1) (mA q ki am m i w).2 := by
  obtain ⟨E, v, hR, j, hj, hB⟩ := h
  have hon := onC_t.mp on
  have hmn : mn mo i = m := by
    unfold mn
    rw [hon.2, nI_clamp (by omega)]
  have hlt : cR (later mo m (i + 1)) n + 1 ≤ cR (later mo m i) n := cR_lt n i hi (fun k _ h => by
    rw [later_t] at h ⊢
    omega) (later_f (by omega)) (later_t.mpr (by omega))
  obtain ⟨a1, a2, a3, a4⟩ := hA i hi
  obtain ⟨t1, t2, t3⟩ := step_act C hm (j := j) (by omega) hR hB a1 a2 a3 a4
  exact ⟨⟨j, by omega, hB⟩, ex_act E _ _ _, (cA q ki am m i v).2, t2, j + 1, by omega, t3⟩
/-- the law's book of acts -/
def Bk (n : Nat) (mo ki am : N32) (sk : Nat → Bool) (qf af mf : N32) : Prop := ∀ k, k < n → qf k = (if sk k = true then -1 else mo k) ∧ af k = ki k ∧ mf k = am k
theorem nI_nm1' {a : Nat} (h : a < 2 ^ 31) : ¬ (-1 : Int32) = nI a := fun z => nI_nm1 h z.symm
theorem bk_on {qf af mf : N32} (K : Bk n mo ki am sk qf af mf) (hm : m < 2 ^ 31) {i : Nat} (hi : i < n) : qf i = nI m ↔ onC mo sk m i = true := by
  rw [(K i hi).1, onC_t]
  cases hs : sk i with
  | true =>
    rw [if_pos rfl]
    constructor
    · intro z; exact absurd z (nI_nm1' hm)
    · intro z; exact absurd z.1 (by decide)
  | false =>
    rw [if_neg (by decide)]
    constructor
    · intro z; exact ⟨rfl, z⟩
    · intro z; exact z.2
theorem li_eq (C : Cfg q g s k) (hn : n ≤ 60) (hm : m ≤ 240) (hA : Ak n ki am) {qf af mf : N32} (K : Bk n mo ki am sk qf af mf) (np : Nat) : ∀ (d i : Nat) (w : S7) (d9 : N32) (dn : Nat → Bool), i + d = n → LR s g n mo m i w →
    (LI_works q np n qf af mf (nI m) d i w d9).1 = (gl (onC mo sk m) (mA q ki am m) d i w dn).1 ∧ LR s g n mo m n (gl (onC mo sk m) (mA q ki am m) d i w dn).1 ∧
    ∀ k, (LI_works q np n qf af mf (nI m) d i w d9).2 k = if i ≤ k ∧ k < n ∧ onC mo sk m k = true then bI ((gl (onC mo sk m) (mA q ki am m) d i w dn).2 k) else d9 k := by
  intro d
  induction d with
  | zero =>
    intro i w d9 dn hi h
    have e : i = n := by omega
    subst e
    exact ⟨rfl, h, fun k => by rw [if_neg (by omega)]; rfl⟩
  | succ d ih =>
    intro i w d9 dn hi h
    rw [LI_works, gl, nI_clamp (by omega), (K i (by omega)).2.1, (K i (by omega)).2.2]
    by_cases on : onC mo sk m i = true
    · obtain ⟨⟨j, hj, hB⟩, hL⟩ := lr_step C hn hm hA (show i < n by omega) h on
      obtain ⟨a1, a2, a3, a4⟩ := hA i (by omega)
      have ea : F_L_acts (q.1, q.2.1, q.2.2, nI np, nI n) w (ki i) (am i) (nI m) = mA q ki am m i w := act_eqL C hm (by omega) hB h.1 a1 a2 a3 a4 (nI np) (nI n)
      rw [if_pos ((bk_on K (by omega) (by omega)).mpr on), if_pos on, ea]
      have main : ∀ b : Bool, (mA q ki am m i w).1 = b → (if bI (mA q ki am m i w).1 = 0 then LI_works q np n qf af mf (nI m) d (i + 1) (mA q ki am m i w).2 (upd d9 i 0) else LI_works q np n qf af mf (nI m) d (i + 1) (mA q ki am m i w).2 (upd d9 i 1)) = LI_works q np n qf af mf (nI m) d (i + 1) (mA q ki am m i w).2 (upd d9 i (bI b)) := by
        intro b hb
        rw [hb]
        cases b with
        | true => rw [if_neg (show ¬ bI true = 0 by decide)]; rfl
        | false => rw [if_pos (show bI false = 0 by decide)]; rfl
      rw [main _ rfl]
      obtain ⟨u1, u2, u3⟩ := ih (i + 1) (mA q ki am m i w).2 (upd d9 i (bI (mA q ki am m i w).1)) (updB dn i (mA q ki am m i w).1) (by omega) hL
      refine ⟨u1, u2, fun k => ?_⟩
      rw [u3 k]
      by_cases e : k = i
      · subst e
        rw [if_neg (by omega), if_pos ⟨by omega, by omega, on⟩, gl_out _ _ _ _ _ _ k (Or.inl (by omega)), updB_self, pk_us]
      · by_cases h9 : i + 1 ≤ k ∧ k < n ∧ onC mo sk m k = true
        · rw [if_pos h9, if_pos ⟨by omega, h9.2⟩]
        · rw [if_neg h9, if_neg (fun z => h9 ⟨by omega, z.2⟩), pk_un e]
    · rw [if_neg (fun z => on ((bk_on K (by omega) (by omega)).mp z)), if_neg on]
      obtain ⟨u1, u2, u3⟩ := ih (i + 1) w d9 dn (by omega) (lr_skip h)
      refine ⟨u1, u2, fun k => ?_⟩
      rw [u3 k]
      by_cases e : k = i
      · subst e
        rw [if_neg (by omega), if_neg (fun z => on z.2.2)]
      · by_cases h9 : i + 1 ≤ k ∧ k < n ∧ onC mo sk m k = true
        · rw [if_pos h9, if_pos ⟨by omega, h9.2⟩]
        · rw [if_neg h9, if_neg (fun z => h9 ⟨by omega, z.2⟩)]
-- the months' beginnings
theorem ex_gl : ∀ (d i : Nat) (w : S7) (dn : Nat → Bool), EX m w → EX m (gl (onC mo sk m) (mA q ki am m) d i w dn).1 := by
  intro d
  induction d with
  | zero => intro i w dn h; exact h
  | succ d ih =>
    intro i w dn h
    rw [gl]
    split
    · exact ih _ _ _ (ex_act h _ _ _)
    · exact ih _ _ _ h
theorem ex_run (C : Cfg q g s k) (hn : n ≤ 60) (hA : Ak n ki am) : ∀ m, m ≤ 200 → EX m (gS q mo ki am sk n m) := by
  intro m
  induction m with
  | zero => intro _; exact (show EX 0 F_X5_start from ⟨by decide, by decide, by decide, by decide, fun _ => rfl⟩)
  | succ m ih =>
    intro hm
    obtain ⟨⟨hR, j, hj, hB⟩, -⟩ := sim_gl (sk := sk) C hn (show m ≤ 240 by omega) hA n 0 _ _ fF fF (by omega) (sim_run (sk := sk) C hn hA m (by omega))
    exact ex_close (q := q) (by omega) (ex_gl n 0 _ fF (ih (by omega))) (st_of4 hB)
theorem lr_run (C : Cfg q g s k) (hn : n ≤ 60) (hA : Ak n ki am) (hm : m ≤ 200) : LR s g n mo m 0 (gS q mo ki am sk n m) := ⟨ex_run C hn hA m hm, _, sim_run (sk := sk) C hn hA m (by omega)⟩
def tk (sf cf lf rf gf tf : N32) (m : Nat) : S7 := (sf m, cf m, lf m, rf m, irm (gf m) 8, gf m / 8, tf m)
theorem takes_t (sf cf lf rf gf tf : N32) {M : Nat} (h : M < 2 ^ 31) : F_L_takes sf cf lf rf gf tf M = tk sf cf lf rf gf tf M := by
  unfold F_L_takes tk
  rw [nI_clamp h]
theorem keeps_t (v : S7) (sf cf lf rf gf tf : N32) {M : Nat} (h : M < 2 ^ 31) : F_L_keeps v sf cf lf rf gf tf M = (upd sf M v.1, upd cf M v.2.1, upd lf M v.2.2.1, upd rf M v.2.2.2.1, upd gf M (v.2.2.2.2.1 + (8 * v.2.2.2.2.2.1)), upd tf M v.2.2.2.2.2.2) := by
  unfold F_L_keeps
  rw [nI_clamp h]
theorem pack_t {x y : Int32} (x0 : 0 ≤ x.toInt) (x1 : x.toInt ≤ 2) (y0 : 0 ≤ y.toInt) (y1 : y.toInt ≤ 1000) : irm (x + (8 * y)) 8 = x ∧ (x + (8 * y)) / 8 = y := by
  obtain ⟨a, ha, rfl⟩ := nI_of (x := x) (fun z => by rw [Int32.lt_iff_toInt_lt, k0] at z; omega)
  obtain ⟨b, hb, rfl⟩ := nI_of (x := y) (fun z => by rw [Int32.lt_iff_toInt_lt, k0] at z; omega)
  rw [nI_toInt ha] at x1
  rw [nI_toInt hb] at y1
  unfold irm
  rw [show (8 : Int32) = nI 8 by decide +kernel, pk_mul, nI_add, pk_div (by omega) (by omega) (by omega), pk_mul, pk_sub (by omega)]
  exact ⟨congrArg nI (by omega), congrArg nI (by omega)⟩
theorem tk_upd {M : Nat} {v : S7} (E : EX M v) (hM : M ≤ 200) (sf cf lf rf gf tf : N32) (m : Nat) : tk (upd sf M v.1) (upd cf M v.2.1) (upd lf M v.2.2.1) (upd rf M v.2.2.2.1) (upd gf M (v.2.2.2.2.1 + (8 * v.2.2.2.2.2.1))) (upd tf M v.2.2.2.2.2.2) m = if m = M then v else tk sf cf lf rf gf tf m := by
  obtain ⟨e1, e2, e3, e4, -⟩ := E
  by_cases h : m = M
  · subst h
    obtain ⟨p1, p2⟩ := pack_t e1 e2 e3 (by omega)
    rw [if_pos rfl]
    unfold tk
    rw [pk_us, pk_us, pk_us, pk_us, pk_us, pk_us, p1, p2]
  · rw [if_neg h]
    unfold tk
    rw [pk_un h, pk_un h, pk_un h, pk_un h, pk_un h, pk_un h]
abbrev T8 : Type := N32 × S7 × N32 × N32 × N32 × N32 × N32 × N32
def tkR (r : T8) (m : Nat) : S7 := tk r.2.2.1 r.2.2.2.1 r.2.2.2.2.1 r.2.2.2.2.2.1 r.2.2.2.2.2.2.1 r.2.2.2.2.2.2.2 m
theorem lo_eq (C : Cfg q g s k) (hn : n ≤ 60) (hA : Ak n ki am) {qf af mf : N32} (K : Bk n mo ki am sk qf af mf) {np m0 : Nat} (hp : np ≤ 120) : ∀ (d i : Nat) (d9 : N32) (v9 : S7) (s9 c9 l9 r9 g9 t9 : N32), m0 + i + d = np + 1 → (∀ m, m < m0 + i → tk s9 c9 l9 r9 g9 t9 m = gS q mo ki am sk n m) → (m0 + i ≤ np → v9 = gS q mo ki am sk n (m0 + i)) → (np < m0 + i → v9 = (gN q mo ki am sk n np).1) →
    (∀ m, m ≤ np → tkR (LO_works q np n qf af mf m0 d i d9 v9 s9 c9 l9 r9 g9 t9) m = gS q mo ki am sk n m) ∧ (LO_works q np n qf af mf m0 d i d9 v9 s9 c9 l9 r9 g9 t9).2.1 = (gN q mo ki am sk n np).1 ∧
    ∀ k m, k < n → sk k = false → m ≤ np → mo k = nI m → (LO_works q np n qf af mf m0 d i d9 v9 s9 c9 l9 r9 g9 t9).1 k = if m0 + i ≤ m then bI ((gN q mo ki am sk n m).2 k) else d9 k := by
  intro d
  induction d with
  | zero =>
    intro i d9 v9 s9 c9 l9 r9 g9 t9 hi h1 h2 h3
    exact ⟨fun m hm => h1 m (by omega), h3 (by omega), fun k m hk hs hm hmo => by rw [if_neg (by omega)]; rfl⟩
  | succ d ih =>
    intro i d9 v9 s9 c9 l9 r9 g9 t9 hi h1 h2 h3
    have hM : m0 + i ≤ np := by omega
    have hv := h2 hM
    have hLR : LR s g n mo (m0 + i) 0 v9 := by rw [hv]; exact lr_run C hn hA (by omega)
    obtain ⟨u1, u2, u3⟩ := li_eq C hn (show m0 + i ≤ 240 by omega) hA K np n 0 v9 d9 fF (by omega) hLR
    have eN : gl (onC mo sk (m0 + i)) (mA q ki am (m0 + i)) n 0 v9 fF = gN q mo ki am sk n (m0 + i) := by rw [hv]; rfl
    rw [eN] at u1 u2 u3
    have rows : ∀ m, m < m0 + (i + 1) → tk (upd s9 (m0 + i) v9.1) (upd c9 (m0 + i) v9.2.1) (upd l9 (m0 + i) v9.2.2.1) (upd r9 (m0 + i) v9.2.2.2.1) (upd g9 (m0 + i) (v9.2.2.2.2.1 + (8 * v9.2.2.2.2.2.1))) (upd t9 (m0 + i) v9.2.2.2.2.2.2) m = gS q mo ki am sk n m := fun m hm => by
      rw [tk_upd hLR.1 (by omega)]
      by_cases e : m = m0 + i
      · rw [if_pos e, e, hv]
      · rw [if_neg e]
        exact h1 m (by omega)
    have flags : ∀ k m, k < n → sk k = false → m ≤ np → mo k = nI m → (if m0 + (i + 1) ≤ m then bI ((gN q mo ki am sk n m).2 k) else (LI_works q np n qf af mf (nI (m0 + i)) n 0 v9 d9).2 k) = if m0 + i ≤ m then bI ((gN q mo ki am sk n m).2 k) else d9 k := fun k m hk hs hm hmo => by
      by_cases e1 : m0 + (i + 1) ≤ m
      · rw [if_pos e1, if_pos (by omega)]
      · rw [if_neg e1, u3 k]
        by_cases e2 : m = m0 + i
        · subst e2
          rw [if_pos (Nat.le_refl _), if_pos ⟨Nat.zero_le _, hk, onC_t.mpr ⟨hs, hmo⟩⟩]
        · rw [if_neg (show ¬ m0 + i ≤ m by omega), if_neg (fun z => e2 ((nI_eq (by omega) (by omega)).mp (hmo.symm.trans (onC_t.mp z.2.2).2)))]
    rw [LO_works, keeps_t _ _ _ _ _ _ _ (by omega)]
    by_cases hl : np ≤ m0 + i
    · have e9 : m0 + i = np := by omega
      rw [if_pos (nI_le hl (by omega))]
      obtain ⟨t1, t2, t3⟩ := ih (i + 1) (LI_works q np n qf af mf (nI (m0 + i)) n 0 v9 d9).2 (LI_works q np n qf af mf (nI (m0 + i)) n 0 v9 d9).1 _ _ _ _ _ _ (by omega) rows (fun z => by omega) (fun _ => by rw [u1, e9])
      exact ⟨t1, t2, fun k m hk hs hm hmo => (t3 k m hk hs hm hmo).trans (flags k m hk hs hm hmo)⟩
    · rw [if_neg (nI_ge (by omega) (by omega))]
      obtain ⟨-, v', -, j, hj, hB⟩ := u2
      have ec : F_L_closes (q.1, q.2.1, q.2.2, nI np, nI n) (LI_works q np n qf af mf (nI (m0 + i)) n 0 v9 d9).1 (m0 + i) = gS q mo ki am sk n (m0 + (i + 1)) := by
        rw [u1]
        exact (close_eqL C (show m0 + i ≤ 240 by omega) (show j ≤ 61 by omega) hB (nI np) (nI n)).trans rfl
      obtain ⟨t1, t2, t3⟩ := ih (i + 1) (LI_works q np n qf af mf (nI (m0 + i)) n 0 v9 d9).2 (F_L_closes (q.1, q.2.1, q.2.2, nI np, nI n) (LI_works q np n qf af mf (nI (m0 + i)) n 0 v9 d9).1 (m0 + i)) _ _ _ _ _ _ (by omega) rows (fun _ => ec) (fun z => by omega)
      exact ⟨t1, t2, fun k m hk hs hm hmo => (t3 k m hk hs hm hmo).trans (flags k m hk hs hm hmo)⟩
/-- the law's policy, as it holds between two deeds -/
def LInv (np n : Nat) (q : S3) (mo ki am : N32) (sk : Nat → Bool) (qf af mf df sf cf lf rf gf tf : N32) (w : S7) : Prop :=
  Bk n mo ki am sk qf af mf ∧ (∀ m, m ≤ np → tk sf cf lf rf gf tf m = gS q mo ki am sk n m) ∧ w = (gN q mo ki am sk n np).1 ∧ ∀ k m, k < n → sk k = false → m ≤ np → mo k = nI m → df k = bI ((gN q mo ki am sk n m).2 k)
theorem works_LInv (hC : ∃ g s k : Int, Cfg q g s k) (hn : n ≤ 60) (hA : Ak n ki am) {qf af mf df sf cf lf rf gf tf : N32} (K : Bk n mo ki am sk qf af mf) {np m0 : Nat} (hp : np ≤ 120) (hm : m0 ≤ np) (h1 : ∀ m, m ≤ m0 → tk sf cf lf rf gf tf m = gS q mo ki am sk n m) (h2 : ∀ k m, k < n → sk k = false → m < m0 → mo k = nI m → df k = bI ((gN q mo ki am sk n m).2 k)) :
    LInv np n q mo ki am sk qf af mf (F_L_works q np n qf af mf df sf cf lf rf gf tf m0).1 (F_L_works q np n qf af mf df sf cf lf rf gf tf m0).2.2.1 (F_L_works q np n qf af mf df sf cf lf rf gf tf m0).2.2.2.1 (F_L_works q np n qf af mf df sf cf lf rf gf tf m0).2.2.2.2.1 (F_L_works q np n qf af mf df sf cf lf rf gf tf m0).2.2.2.2.2.1 (F_L_works q np n qf af mf df sf cf lf rf gf tf m0).2.2.2.2.2.2.1 (F_L_works q np n qf af mf df sf cf lf rf gf tf m0).2.2.2.2.2.2.2 (F_L_works q np n qf af mf df sf cf lf rf gf tf m0).2.1 := by
  obtain ⟨g, s, k, C⟩ := hC
  unfold F_L_works
  obtain ⟨t1, t2, t3⟩ := lo_eq C hn hA K hp (m0 := m0) (np + 1 - m0) 0 df (F_L_takes sf cf lf rf gf tf m0) sf cf lf rf gf tf (by omega) (fun m hm => h1 m (by omega)) (fun _ => by rw [takes_t _ _ _ _ _ _ (by omega)]; exact h1 m0 (by omega)) (fun z => by omega)
  refine ⟨K, t1, t2, fun k m hk hs hm hmo => (t3 k m hk hs hm hmo).trans ?_⟩
  by_cases e : m0 + 0 ≤ m
  · rw [if_pos e]
  · rw [if_neg e]
    exact h2 k m hk hs (by omega) hmo
-- books with one act more, or one struck: the reference's run
theorem xm_gl {M j : Nat} (hM : M < 2 ^ 31) (hj : j < 2 ^ 31) (h : j ≠ M) (a x : Int32) (v : S7) (dn : Nat → Bool) : gl (onC (upd mo n (nI M)) (updB sk n false) j) (mA q (upd ki n a) (upd am n x) j) (n + 1) 0 v dn = gl (onC mo sk j) (mA q ki am j) n 0 v dn := by
  rw [gl_snoc, Nat.zero_add, if_neg (fun z => h ((nI_eq hM hj).mp ((show upd mo n (nI M) n = nI M from pk_us).symm.trans (onC_t.mp z).2)).symm)]
  refine gl_congr n 0 v dn (fun k _ hk => ?_) (fun k _ hk _ v => ?_)
  · unfold onC
    rw [pk_un (by omega), updB_ne _ _ (by omega)]
  · show F_X5_act q.1 q.2.1 q.2.2 v (upd ki n a k) (upd am n x k) (nI j) = F_X5_act q.1 q.2.1 q.2.2 v (ki k) (am k) (nI j)
    rw [pk_un (by omega), pk_un (by omega)]
theorem xm_gS {M : Nat} (hM : M < 2 ^ 31) (a x : Int32) : ∀ m, m ≤ M → gS q (upd mo n (nI M)) (upd ki n a) (upd am n x) (updB sk n false) (n + 1) m = gS q mo ki am sk n m :=
  gr_congr M (fun j hj v => by rw [xm_gl hM (by omega) (by omega)])
theorem xm_gN {M m k : Nat} (hM : M < 2 ^ 31) (hm : m < M) (a x : Int32) : (gN q (upd mo n (nI M)) (upd ki n a) (upd am n x) (updB sk n false) (n + 1) m).2 k = (gN q mo ki am sk n m).2 k := by
  unfold gN
  rw [xm_gS hM a x m (by omega), xm_gl hM (by omega) (by omega)]
theorem xs_gl {M j i : Nat} (hM : M < 2 ^ 31) (hj : j < 2 ^ 31) (h : j ≠ M) (hi : mo i = nI M) (v : S7) (dn : Nat → Bool) : gl (onC mo (updB sk i true) j) (mA q ki am j) n 0 v dn = gl (onC mo sk j) (mA q ki am j) n 0 v dn := by
  refine gl_congr n 0 v dn (fun k _ hk => ?_) (fun k _ hk _ v => rfl)
  by_cases e : k = i
  · subst e
    rw [onC_f (fun z => h ((nI_eq hM hj).mp (hi.symm.trans z.2)).symm), onC_f (fun z => h ((nI_eq hM hj).mp (hi.symm.trans z.2)).symm)]
  · unfold onC
    rw [updB_ne _ _ e]
theorem xs_gS {M i : Nat} (hM : M < 2 ^ 31) (hi : mo i = nI M) : ∀ m, m ≤ M → gS q mo ki am (updB sk i true) n m = gS q mo ki am sk n m :=
  gr_congr M (fun j hj v => by rw [xs_gl hM (by omega) (by omega) hi])
theorem xs_gN {M i m k : Nat} (hM : M < 2 ^ 31) (hm : m < M) (hi : mo i = nI M) : (gN q mo ki am (updB sk i true) n m).2 k = (gN q mo ki am sk n m).2 k := by
  unfold gN
  rw [xs_gS hM hi m (by omega), xs_gl hM (by omega) (by omega) hi]
end
end LRUN
