section RUN
/-- a month's acts, from the i-th on, d of them: those that are on are done in turn, and whether they were is noted -/
def gl (on : Nat → Bool) (f : Nat → S7 → Bool × S7) : Nat → Nat → S7 → (Nat → Bool) → S7 × (Nat → Bool)
  | 0, _, v, dn => (v, dn)
  | d + 1, i, v, dn => if on i = true then gl on f d (i + 1) (f i v).2 (updB dn i (f i v).1) else gl on f d (i + 1) v dn
theorem updB_self (g : Nat → Bool) (k : Nat) (b : Bool) : updB g k b k = b := if_pos rfl
theorem updB_ne (g : Nat → Bool) {k j : Nat} (b : Bool) (h : j ≠ k) : updB g k b j = g j := if_neg h
theorem gl_st (on : Nat → Bool) (f : Nat → S7 → Bool × S7) : ∀ (d i : Nat) (v : S7) (dn dn2 : Nat → Bool), (gl on f d i v dn).1 = (gl on f d i v dn2).1 := by
  intro d
  induction d with
  | zero => intro i v dn dn2; rfl
  | succ d ih =>
    intro i v dn dn2
    rw [gl, gl]
    by_cases h : on i = true
    · rw [if_pos h, if_pos h]
      exact ih _ _ _ _
    · rw [if_neg h, if_neg h]
      exact ih _ _ _ _
theorem gl_out (on : Nat → Bool) (f : Nat → S7 → Bool × S7) : ∀ (d i : Nat) (v : S7) (dn : Nat → Bool) (k : Nat), (k < i ∨ i + d ≤ k ∨ on k = false) → (gl on f d i v dn).2 k = dn k := by
  intro d
  induction d with
  | zero => intro i v dn k _; rfl
  | succ d ih =>
    intro i v dn k hk
    have hk2 : k < i + 1 ∨ i + 1 + d ≤ k ∨ on k = false := by
      rcases hk with h | h | h
      · exact Or.inl (by omega)
      · exact Or.inr (Or.inl (by omega))
      · exact Or.inr (Or.inr h)
    rw [gl]
    by_cases h : on i = true
    · rw [if_pos h, ih _ _ _ _ hk2, updB_ne]
      intro e
      rcases hk with h1 | h1 | h1
      · omega
      · omega
      · rw [e, h] at h1
        cases h1
    · rw [if_neg h]
      exact ih _ _ _ _ hk2
theorem gl_in (on : Nat → Bool) (f : Nat → S7 → Bool × S7) : ∀ (d i : Nat) (v : S7) (dn dn2 : Nat → Bool) (k : Nat), i ≤ k → k < i + d → on k = true → (gl on f d i v dn).2 k = (gl on f d i v dn2).2 k := by
  intro d
  induction d with
  | zero => intro i v dn dn2 k h1 h2; omega
  | succ d ih =>
    intro i v dn dn2 k h1 h2 h3
    rw [gl, gl]
    by_cases e : k = i
    · subst e
      rw [if_pos h3, if_pos h3, gl_out on f d (k + 1) _ _ k (Or.inl (by omega)), gl_out on f d (k + 1) _ _ k (Or.inl (by omega)), updB_self, updB_self]
    · by_cases h : on i = true
      · rw [if_pos h, if_pos h]
        exact ih _ _ _ _ _ (by omega) (by omega) h3
      · rw [if_neg h, if_neg h]
        exact ih _ _ _ _ _ (by omega) (by omega) h3
theorem gl_congr {on on' : Nat → Bool} {f f' : Nat → S7 → Bool × S7} : ∀ (d i : Nat) (v : S7) (dn : Nat → Bool), (∀ k, i ≤ k → k < i + d → on k = on' k) → (∀ k, i ≤ k → k < i + d → on k = true → ∀ v, f k v = f' k v) → gl on f d i v dn = gl on' f' d i v dn := by
  intro d
  induction d with
  | zero => intro i v dn _ _; rfl
  | succ d ih =>
    intro i v dn h1 h2
    rw [gl, gl]
    have e := h1 i (by omega) (by omega)
    by_cases h : on i = true
    · rw [if_pos h, if_pos (e ▸ h), h2 i (by omega) (by omega) h]
      exact ih _ _ _ (fun k a b => h1 k (by omega) (by omega)) (fun k a b => h2 k (by omega) (by omega))
    · rw [if_neg h, if_neg (e ▸ h)]
      exact ih _ _ _ (fun k a b => h1 k (by omega) (by omega)) (fun k a b => h2 k (by omega) (by omega))
theorem gl_snoc (on : Nat → Bool) (f : Nat → S7 → Bool × S7) : ∀ (d i : Nat) (v : S7) (dn : Nat → Bool), gl on f (d + 1) i v dn = if on (i + d) = true then ((f (i + d) (gl on f d i v dn).1).2, updB (gl on f d i v dn).2 (i + d) (f (i + d) (gl on f d i v dn).1).1) else gl on f d i v dn := by
  intro d
  induction d with
  | zero =>
    intro i v dn
    rw [gl]
    rfl
  | succ d ih =>
    intro i v dn
    have e : i + 1 + d = i + (d + 1) := by omega
    have e0 : gl on f (d + 1 + 1) i v dn = if on i = true then gl on f (d + 1) (i + 1) (f i v).2 (updB dn i (f i v).1) else gl on f (d + 1) (i + 1) v dn := rfl
    have e1 : gl on f (d + 1) i v dn = if on i = true then gl on f d (i + 1) (f i v).2 (updB dn i (f i v).1) else gl on f d (i + 1) v dn := rfl
    rw [e0, e1]
    by_cases h : on i = true
    · rw [if_pos h, if_pos h, ih, e]
    · rw [if_neg h, if_neg h, ih, e]
/-- the standing at the beginning of a month, gone through from the first -/
def gr (on : Nat → Nat → Bool) (f : Nat → Nat → S7 → Bool × S7) (cl : Nat → S7 → S7) (n : Nat) (z : S7) : Nat → S7
  | 0 => z
  | m + 1 => cl m (gl (on m) (f m) n 0 (gr on f cl n z m) (fun _ => false)).1
theorem gr_congr {on on' : Nat → Nat → Bool} {f f' : Nat → Nat → S7 → Bool × S7} {cl : Nat → S7 → S7} {n n' : Nat} {z : S7} (M : Nat) (h : ∀ m, m < M → ∀ v, (gl (on m) (f m) n 0 v (fun _ => false)).1 = (gl (on' m) (f' m) n' 0 v (fun _ => false)).1) : ∀ m, m ≤ M → gr on f cl n z m = gr on' f' cl n' z m := by
  intro m
  induction m with
  | zero => intro _; rfl
  | succ m ih =>
    intro hm
    rw [gr, gr, ih (by omega), h m (by omega)]
def onC (mo : Nat → Int32) (sk : Nat → Bool) (m k : Nat) : Bool := !sk k && decide (mo k = nI m)
theorem onC_t {mo : Nat → Int32} {sk : Nat → Bool} {m k : Nat} : onC mo sk m k = true ↔ sk k = false ∧ mo k = nI m := by
  unfold onC
  cases sk k <;> simp
theorem onC_f {mo : Nat → Int32} {sk : Nat → Bool} {m k : Nat} (h : ¬ (sk k = false ∧ mo k = nI m)) : onC mo sk m k = false := by
  cases e : onC mo sk m k with
  | false => rfl
  | true => exact absurd (onC_t.mp e) h
abbrev cA (q : S3) (ki am : Nat → Int32) (m k : Nat) (v : S7) : Bool × S7 := cact q v (ki k) (am k) (nI m)
abbrev mA (q : S3) (ki am : Nat → Int32) (m k : Nat) (w : S7) : Bool × S7 := F_X5_act q.1 q.2.1 q.2.2 w (ki k) (am k) (nI m)
abbrev z7 : S7 := (0, 0, 0, 0, 0, 0, 0)
abbrev fF : Nat → Bool := fun _ => false
/-- the class's, and the model's -/
def rS (q : S3) (mo ki am : Nat → Int32) (sk : Nat → Bool) (n : Nat) : Nat → S7 := gr (onC mo sk) (cA q ki am) (fun m v => F_X4_endMonth q v (nI m)) n z7
def gS (q : S3) (mo ki am : Nat → Int32) (sk : Nat → Bool) (n : Nat) : Nat → S7 := gr (onC mo sk) (mA q ki am) (fun m v => F_X5_closeMonth q.1 q.2.1 q.2.2 v (nI m)) n F_X5_start
def rN (q : S3) (mo ki am : Nat → Int32) (sk : Nat → Bool) (n m : Nat) : S7 × (Nat → Bool) := gl (onC mo sk m) (cA q ki am m) n 0 (rS q mo ki am sk n m) fF
def gN (q : S3) (mo ki am : Nat → Int32) (sk : Nat → Bool) (n m : Nat) : S7 × (Nat → Bool) := gl (onC mo sk m) (mA q ki am m) n 0 (gS q mo ki am sk n m) fF
-- how many acts are left
def cR (P : Nat → Bool) : Nat → Nat
  | 0 => 0
  | k + 1 => cR P k + (if P k = true then 1 else 0)
theorem cR_le (P : Nat → Bool) (n : Nat) : cR P n ≤ n := by
  induction n with
  | zero => exact Nat.le_refl _
  | succ n ih =>
    rw [cR]
    split <;> omega
theorem cR_mono {P Q : Nat → Bool} (n : Nat) (h : ∀ k, k < n → P k = true → Q k = true) : cR P n ≤ cR Q n := by
  induction n with
  | zero => exact Nat.le_refl _
  | succ n ih =>
    have h1 := ih (fun k hk => h k (by omega))
    rw [cR, cR]
    by_cases e : P n = true
    · rw [if_pos e, if_pos (h n (by omega) e)]
      omega
    · rw [if_neg e]
      omega
theorem cR_lt {P Q : Nat → Bool} (n i : Nat) (hi : i < n) (h : ∀ k, k < n → P k = true → Q k = true) (h1 : P i = false) (h2 : Q i = true) : cR P n + 1 ≤ cR Q n := by
  induction n with
  | zero => omega
  | succ n ih =>
    rw [cR, cR]
    by_cases e : i = n
    · subst e
      have h3 := cR_mono (P := P) (Q := Q) i (fun k hk => h k (by omega))
      rw [if_neg (by rw [h1]; decide), if_pos h2]
      omega
    · have h3 := ih (by omega) (fun k hk => h k (by omega))
      by_cases e : P n = true
      · rw [if_pos e, if_pos (h n (by omega) e)]
        omega
      · rw [if_neg e]
        omega
def mn (mo : Nat → Int32) (k : Nat) : Nat := (mo k).toNatClampNeg
def later (mo : Nat → Int32) (m i k : Nat) : Bool := decide (m < mn mo k ∨ (mn mo k = m ∧ i ≤ k))
theorem later_t {mo : Nat → Int32} {m i k : Nat} : later mo m i k = true ↔ (m < mn mo k ∨ (mn mo k = m ∧ i ≤ k)) := by
  unfold later
  exact decide_eq_true_iff
theorem later_f {mo : Nat → Int32} {m i k : Nat} (h : ¬ (m < mn mo k ∨ (mn mo k = m ∧ i ≤ k))) : later mo m i k = false := by
  unfold later
  exact decide_eq_false h
/-- the acts that were told -/
def Ak (n : Nat) (ki am : Nat → Int32) : Prop := ∀ k, k < n → 0 ≤ ki k ∧ ki k ≤ 5 ∧ 1 ≤ am k ∧ am k ≤ 2000000
def RB (s g : Int) (n : Nat) (mo : Nat → Int32) (m i : Nat) (v w : S7) : Prop := Rs m v w ∧ ∃ j, j + cR (later mo m i) n ≤ n ∧ Bd s g m j w
section
variable {q : S3} {g s k : Int} {n m : Nat} {mo ki am : Nat → Int32} {sk : Nat → Bool}
theorem sim_gl (C : Cfg q g s k) (hn : n ≤ 60) (hm : m ≤ 240) (hA : Ak n ki am) : ∀ (d i : Nat) (v w : S7) (dn dn' : Nat → Bool), i + d = n → RB s g n mo m i v w →
    RB s g n mo m n (gl (onC mo sk m) (cA q ki am m) d i v dn).1 (gl (onC mo sk m) (mA q ki am m) d i w dn').1 ∧ ∀ k, i ≤ k → k < n → onC mo sk m k = true → (gl (onC mo sk m) (cA q ki am m) d i v dn).2 k = (gl (onC mo sk m) (mA q ki am m) d i w dn').2 k := by
  intro d
  induction d with
  | zero =>
    intro i v w dn dn' hi h
    have e : i = n := by omega
    subst e
    exact ⟨h, fun k h1 h2 => by omega⟩
  | succ d ih =>
    intro i v w dn dn' hi h
    obtain ⟨hR, j, hj, hB⟩ := h
    have hle : cR (later mo m (i + 1)) n ≤ cR (later mo m i) n := cR_mono n (fun k _ h => by
      rw [later_t] at h ⊢
      omega)
    rw [gl, gl]
    by_cases h : onC mo sk m i = true
    · rw [if_pos h, if_pos h]
      have hon := onC_t.mp h
      have hmn : mn mo i = m := by
        unfold mn
        rw [hon.2, nI_clamp (by omega)]
      have hlt : cR (later mo m (i + 1)) n + 1 ≤ cR (later mo m i) n := cR_lt n i (by omega) (fun k _ h => by
        rw [later_t] at h ⊢
        omega) (later_f (by omega)) (later_t.mpr (by omega))
      obtain ⟨a1, a2, a3, a4⟩ := hA i (by omega)
      obtain ⟨t1, t2, t3⟩ := step_act C hm (j := j) (by omega) hR hB a1 a2 a3 a4
      obtain ⟨u1, u2⟩ := ih (i + 1) (cA q ki am m i v).2 (mA q ki am m i w).2 (updB dn i (cA q ki am m i v).1) (updB dn' i (mA q ki am m i w).1) (by omega) ⟨t2, j + 1, by omega, t3⟩
      refine ⟨u1, fun k h1 h2 h3 => ?_⟩
      by_cases e : k = i
      · subst e
        rw [gl_out _ _ _ _ _ _ k (Or.inl (by omega)), gl_out _ _ _ _ _ _ k (Or.inl (by omega)), updB_self, updB_self]
        exact t1
      · exact u2 k (by omega) h2 h3
    · rw [if_neg h, if_neg h]
      obtain ⟨u1, u2⟩ := ih (i + 1) v w dn dn' (by omega) ⟨hR, j, by omega, hB⟩
      refine ⟨u1, fun k h1 h2 h3 => ?_⟩
      by_cases e : k = i
      · subst e
        exact absurd h3 h
      · exact u2 k (by omega) h2 h3
theorem sim_start (s g : Int) : Rs 0 z7 F_X5_start ∧ Bd s g 0 0 F_X5_start := by
  refine ⟨⟨rfl, rfl, rfl, rfl, fun _ => rfl, fun _ => rfl, fun h => absurd (show (0 : Int32) = 2 from h) (by decide), fun h => absurd (show (0 : Int32) = 3 from h) (by decide), fun _ => rfl⟩, 0, 0, 0, 0, 0, k0, k0, k0, k0, k0, by omega, ?_, by omega, ?_, by omega, Or.inl ⟨rfl, rfl, rfl⟩⟩
  · show (0 : Int) + (61 - ((0 : Nat) : Int)) * 2000000 ≤ 122000000
    omega
  · show (0 : Int) ≤ 122000000
    omega
theorem sim_run (C : Cfg q g s k) (hn : n ≤ 60) (hA : Ak n ki am) : ∀ m, m ≤ 240 → RB s g n mo m 0 (rS q mo ki am sk n m) (gS q mo ki am sk n m) := by
  intro m
  induction m with
  | zero =>
    intro _
    obtain ⟨h1, h2⟩ := sim_start s g
    exact ⟨h1, 0, by have := cR_le (later mo 0 0) n; omega, h2⟩
  | succ m ih =>
    intro hm
    obtain ⟨⟨hR, j, hj, hB⟩, -⟩ := sim_gl (sk := sk) C hn (show m ≤ 240 by omega) hA n 0 _ _ fF fF (by omega) (ih (by omega))
    obtain ⟨t1, t2⟩ := step_close C (m := m) (j := j) hm (by omega) hR hB
    have hle : cR (later mo (m + 1) 0) n ≤ cR (later mo m n) n := cR_mono n (fun k _ h => by
      rw [later_t] at h ⊢
      omega)
    exact ⟨t1, j, by omega, t2⟩
theorem sim_now (C : Cfg q g s k) (hn : n ≤ 60) (hA : Ak n ki am) (hm : m ≤ 240) : RB s g n mo m n (rN q mo ki am sk n m).1 (gN q mo ki am sk n m).1 ∧ ∀ k, k < n → onC mo sk m k = true → (rN q mo ki am sk n m).2 k = (gN q mo ki am sk n m).2 k := by
  obtain ⟨h1, h2⟩ := sim_gl (sk := sk) C hn hm hA n 0 _ _ fF fF (by omega) (sim_run (sk := sk) C hn hA m hm)
  exact ⟨h1, fun k hk h => h2 k (by omega) hk h⟩
-- the loops of the code
theorem has_t (hn : n ≤ 60) {i : Nat} (hi : i < n) : F_X0_has (nI n) (nI i) = true := by
  unfold F_X0_has
  rw [if_neg (nI_pos (by omega)), if_neg (nI_ge hi (by omega)), if_neg (by rw [← nI_60]; exact nI_ge (by omega) (by omega))]
theorem stands_t (hn : n ≤ 60) {i : Nat} (hi : i < n) : F_X0_stands (nI n) sk (nI i) = !sk i := by
  unfold F_X0_stands
  rw [has_t hn hi, if_neg (show ¬ bI true = 0 by decide), nI_clamp (by omega)]
  cases sk i <;> rfl
theorem standsIn_t (hn : n ≤ 60) {i : Nat} (hi : i < n) : F_X0_standsIn (nI n) mo sk (nI i) (nI m) = onC mo sk m i := by
  unfold F_X0_standsIn onC
  rw [stands_t hn hi, nI_clamp (by omega)]
  cases sk i with
  | true => rfl
  | false =>
    rw [if_neg (show ¬ bI (!false) = 0 by decide)]
    by_cases h : mo i = nI m
    · rw [if_pos h, decide_eq_true h]; rfl
    · rw [if_neg h, decide_eq_false h]; rfl
theorem perform_t (hn : n ≤ 60) {i : Nat} (hi : i < n) (v : S7) : F_X4_perform (nI n) mo ki am q v (nI i) = cact q v (ki i) (am i) (mo i) := by
  unfold F_X4_perform cact F_X0_kindOf F_X0_amountOf F_X0_monthOf
  rw [has_t hn hi, if_neg (show ¬ bI true = 0 by decide), if_neg (show ¬ bI true = 0 by decide), if_neg (show ¬ bI true = 0 by decide), nI_clamp (by omega)]
theorem noteDone_t (hn : n ≤ 60) {i : Nat} (hi : i < n) (dn : Nat → Bool) (b : Bool) : F_X0_noteDone (nI n) dn (nI i) b = updB dn i b := by
  unfold F_X0_noteDone
  rw [has_t hn hi, if_neg (show ¬ bI true = 0 by decide), nI_clamp (by omega)]
theorem bI_if {α : Type} {b : Bool} {x y : α} : (if bI b = 0 then x else y) = if b = true then y else x := by cases b <;> rfl
theorem pan_eq (hn : n ≤ 60) : ∀ (d i : Nat) (v : S7) (dn : Nat → Bool), i + d = n → Lp_X4_performAndNote mo ki am sk q (nI m) n d i v dn = ((gl (onC mo sk m) (cA q ki am m) d i v dn).2, (gl (onC mo sk m) (cA q ki am m) d i v dn).1) := by
  intro d
  induction d with
  | zero => intro i v dn _; rfl
  | succ d ih =>
    intro i v dn hi
    rw [Lp_X4_performAndNote, gl, standsIn_t hn (by omega), bI_if]
    by_cases h : onC mo sk m i = true
    · rw [if_pos h, if_pos h, perform_t hn (by omega), noteDone_t hn (by omega), (onC_t.mp h).2]
      exact ih _ _ _ (by omega)
    · rw [if_neg h, if_neg h]
      exact ih _ _ _ (by omega)
theorem pall_eq (hn : n ≤ 60) : ∀ (d i : Nat) (v : S7) (dn : Nat → Bool), i + d = n → Lp_X4_performAll mo ki am sk q (nI m) n d i v = (gl (onC mo sk m) (cA q ki am m) d i v dn).1 := by
  intro d
  induction d with
  | zero => intro i v dn _; rfl
  | succ d ih =>
    intro i v dn hi
    rw [Lp_X4_performAll, gl, standsIn_t hn (by omega), bI_if]
    by_cases h : onC mo sk m i = true
    · rw [if_pos h, if_pos h, perform_t hn (by omega), (onC_t.mp h).2]
      exact ih _ _ _ (by omega)
    · rw [if_neg h, if_neg h]
      exact ih _ _ _ (by omega)
theorem doActs_eq (hn : n ≤ 60) : ∀ (d i : Nat) (w : S7) (dn : Nat → Bool), i + d = n → Lp_X5_doActs q.1 q.2.1 q.2.2 mo ki am sk (nI m) d i w dn = gl (onC mo sk m) (mA q ki am m) d i w dn := by
  intro d
  induction d with
  | zero => intro i w dn _; rfl
  | succ d ih =>
    intro i w dn hi
    rw [Lp_X5_doActs, gl, nI_clamp (by omega)]
    by_cases h : onC mo sk m i = true
    · obtain ⟨h1, h2⟩ := onC_t.mp h
      rw [if_pos h, if_pos h2, h1, if_pos (show bI false = 0 by decide)]
      exact ih _ _ _ (by omega)
    · rw [if_neg h]
      by_cases h2 : mo i = nI m
      · have h1 : sk i = true := by
          cases e : sk i with
          | true => rfl
          | false => exact absurd (onC_t.mpr ⟨e, h2⟩) h
        rw [if_pos h2, h1, if_neg (show ¬ bI true = 0 by decide)]
        exact ih _ _ _ (by omega)
      · rw [if_neg h2]
        exact ih _ _ _ (by omega)
theorem pan_F (hn : n ≤ 60) (v : S7) (dn : Nat → Bool) : F_X4_performAndNote mo ki am sk dn q v (nI m) n = ((gl (onC mo sk m) (cA q ki am m) n 0 v dn).2, (gl (onC mo sk m) (cA q ki am m) n 0 v dn).1) := pan_eq hn n 0 v dn (by omega)
theorem pall_F (hn : n ≤ 60) (v : S7) : F_X4_performAll mo ki am sk q v (nI m) n = (gl (onC mo sk m) (cA q ki am m) n 0 v fF).1 := pall_eq hn n 0 v fF (by omega)
theorem doActs_F (hn : n ≤ 60) (w : S7) (dn : Nat → Bool) : F_X5_doActs q.1 q.2.1 q.2.2 w mo ki am sk dn (nI m) n = gl (onC mo sk m) (mA q ki am m) n 0 w dn := doActs_eq hn n 0 w dn (by omega)
/-- going through to a month: the standing, and what is noted of an act -/
theorem goTo_eq (hn : n ≤ 60) : ∀ (d i : Nat) (dn : Nat → Bool), (Lp_X5_goTo q.1 q.2.1 q.2.2 mo ki am sk n d i (gS q mo ki am sk n i) dn).1 = gS q mo ki am sk n (i + d) ∧
    ∀ k m, k < n → sk k = false → mo k = nI m → m < 2 ^ 31 → i + d < 2 ^ 31 → (Lp_X5_goTo q.1 q.2.1 q.2.2 mo ki am sk n d i (gS q mo ki am sk n i) dn).2 k = if i ≤ m ∧ m < i + d then (gN q mo ki am sk n m).2 k else dn k := by
  intro d
  induction d with
  | zero =>
    intro i dn
    exact ⟨rfl, fun k m _ _ _ _ _ => by rw [if_neg (by omega)]; rfl⟩
  | succ d ih =>
    intro i dn
    rw [Lp_X5_goTo, doActs_F hn]
    have e1 : F_X5_closeMonth q.1 q.2.1 q.2.2 (gl (onC mo sk i) (mA q ki am i) n 0 (gS q mo ki am sk n i) dn).1 (nI i) = gS q mo ki am sk n (i + 1) := by
      rw [gl_st _ _ n 0 _ dn fF]
      rfl
    rw [e1]
    obtain ⟨t1, t2⟩ := ih (i + 1) (gl (onC mo sk i) (mA q ki am i) n 0 (gS q mo ki am sk n i) dn).2
    refine ⟨by rw [t1]; congr 1; omega, fun k m hk hs hmo hm hd => ?_⟩
    rw [t2 k m hk hs hmo hm (by omega)]
    by_cases h1 : m = i
    · subst h1
      rw [if_neg (by omega), if_pos (by omega)]
      exact gl_in _ _ n 0 _ dn fF k (by omega) (by omega) (onC_t.mpr ⟨hs, hmo⟩)
    · have hof : onC mo sk i k = false := onC_f (fun h => h1 ((nI_eq hm (by omega)).mp (hmo.symm.trans h.2)))
      rw [gl_out _ _ n 0 _ dn k (Or.inr (Or.inr hof))]
      by_cases h2 : i + 1 ≤ m ∧ m < i + 1 + d
      · rw [if_pos h2, if_pos (by omega)]
      · rw [if_neg h2, if_neg (by omega)]
theorem goTo_F (hn : n ≤ 60) (dn : Nat → Bool) (M : Nat) : (F_X5_goTo q.1 q.2.1 q.2.2 mo ki am sk dn n M).1 = gS q mo ki am sk n M := by
  have h := (goTo_eq (q := q) (mo := mo) (ki := ki) (am := am) (sk := sk) hn M 0 dn).1
  rw [Nat.zero_add] at h
  exact h
theorem goNow_F (hn : n ≤ 60) (dn : Nat → Bool) (M : Nat) : (F_X5_goNow q.1 q.2.1 q.2.2 mo ki am sk dn M n).1 = (gN q mo ki am sk n M).1 := by
  unfold F_X5_goNow
  rw [goTo_F hn, doActs_F hn]
  exact gl_st _ _ n 0 _ _ fF
theorem goNow_fl (hn : n ≤ 60) (dn : Nat → Bool) (M : Nat) (hM : M < 2 ^ 31) {k m : Nat} (hk : k < n) (hs : sk k = false) (hmo : mo k = nI m) (hm : m ≤ M) : (F_X5_goNow q.1 q.2.1 q.2.2 mo ki am sk dn M n).2 k = (gN q mo ki am sk n m).2 k := by
  unfold F_X5_goNow
  rw [goTo_F hn, doActs_F hn]
  have h := (goTo_eq (q := q) (mo := mo) (ki := ki) (am := am) (sk := sk) hn M 0 dn).2 k m hk hs hmo (by omega) (by omega)
  by_cases e : m = M
  · subst e
    exact gl_in _ _ n 0 _ _ fF k (by omega) (by omega) (onC_t.mpr ⟨hs, hmo⟩)
  · rw [if_pos (by omega)] at h
    have hof : onC mo sk M k = false := onC_f (fun h => e ((nI_eq (by omega) hM).mp (hmo.symm.trans h.2)))
    show (gl (onC mo sk M) (mA q ki am M) n 0 (gS q mo ki am sk n M) _).2 k = _
    rw [gl_out _ _ n 0 _ _ k (Or.inr (Or.inr hof))]
    exact h
end
end RUN
