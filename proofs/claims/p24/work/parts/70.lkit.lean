/-- what stands through the law's run -/
def LWX (pP : Program) (l : Launch) (sS : State) (mM : MethodId) (args : Array Value) (cC : Code) (G : GG) (A : Nat → Prop) (b L : Nat) (xs : Nat → Int32) : Prop :=
  CallFix pP mM cC cL_law 23 sS args wsL_law RL ∧ Kn G sS ∧ XE sS ∧ XZ A sS sS.heap ∧ l.stackTraces = false ∧ va_X b L xs sS sS.heap ∧ b < sS.heap.size ∧ ¬ A b ∧ L ≤ 260
def LHd (pP : Program) (l : Launch) (eE : Env) (sS : State) (mM : MethodId) (args : Array Value) (below : List Frame) (meth : Method) (cC : Code) (Q : State → Prop) (G : GG) (A : Nat → Prop) (h : Nat → Nat) (b t cells slots : Nat) : Prop :=
  ∀ (np n : Nat) (q : S3) (mo ki am : N32) (sk dn : Nat → Bool) (y1 y2 y3 y4 y5 y6 y7 : N32) (v tr : S7) (qf af mf df sf cf lf rf gf tf : N32) (w : S7), Inv np n q mo ki am sk (dn, y1, y2, y3, y4, y5, y6, y7, v) → LInv np n q mo ki am sk qf af mf df sf cf lf rf gf tf w → np ≤ 61 → ∀ (H : Heap) (locs : List Loc) (ls : Array Slot), Wd G A sS.heap [cF h (nI np), cP (h 1) q, cB h (nI n), cH h, cS (h 4) v, cS (h 5) tr, aI G (h 6) 60 mo, aI G (h 7) 60 ki, aI G (h 8) 60 am, aZ G (h 9) 60 sk, aZ G (h 10) 60 dn, aI G (h 11) 121 y1, aI G (h 12) 121 y2, aI G (h 13) 121 y3, aI G (h 14) 121 y4, aI G (h 15) 121 y5, aI G (h 16) 121 y6, aI G (h 17) 121 y7, aI G (h 18) 5 (nF (q.1, q.2.1, q.2.2, nI np, nI n)), aI G (h 19) 60 qf, aI G (h 20) 60 af, aI G (h 21) 60 mf, aI G (h 22) 60 df, aI G (h 23) 7 (pF w), aI G (h 24) 64 sf, aI G (h 25) 64 cf, aI G (h 26) 64 lf, aI G (h 27) 64 rf, aI G (h 28) 64 gf, aI G (h 29) 64 tf] H locs → lv_has ls 23 [(15, .int (nI t)), (14, .int 1), (0, .ref b), (1, .ref (h 0)), (2, .ref (h 18)), (3, .ref (h 19)), (4, .ref (h 20)), (5, .ref (h 21)), (6, .ref (h 22)), (7, .ref (h 23)), (8, .ref (h 24)), (9, .ref (h 25)), (10, .ref (h 26)), (11, .ref (h 27)), (12, .ref (h 28)), (13, .ref (h 29))] → W pP l eE room_1 sS mM args below meth cC H locs cells slots Q (F0 mM 118 ls [])
def LKd (pP : Program) (l : Launch) (eE : Env) (sS : State) (mM : MethodId) (args : Array Value) (below : List Frame) (meth : Method) (cC : Code) (Q : State → Prop) (G : GG) (A : Nat → Prop) (h : Nat → Nat) (b pc Y t cells slots : Nat) : Prop :=
  ∀ (np n : Nat) (q : S3) (mo ki am : N32) (sk dn : Nat → Bool) (y1 y2 y3 y4 y5 y6 y7 : N32) (v tr : S7) (qf af mf df sf cf lf rf gf tf : N32) (w : S7), Inv np n q mo ki am sk (dn, y1, y2, y3, y4, y5, y6, y7, v) → LInv np n q mo ki am sk qf af mf df sf cf lf rf gf tf w → np ≤ 61 → ∀ (H : Heap) (locs : List Loc) (ls : Array Slot), Wd G A sS.heap [cF h (nI np), cP (h 1) q, cB h (nI n), cH h, cS (h 4) v, cS (h 5) tr, aI G (h 6) 60 mo, aI G (h 7) 60 ki, aI G (h 8) 60 am, aZ G (h 9) 60 sk, aZ G (h 10) 60 dn, aI G (h 11) 121 y1, aI G (h 12) 121 y2, aI G (h 13) 121 y3, aI G (h 14) 121 y4, aI G (h 15) 121 y5, aI G (h 16) 121 y6, aI G (h 17) 121 y7, aI G (h 18) 5 (nF (q.1, q.2.1, q.2.2, nI np, nI n)), aI G (h 19) 60 qf, aI G (h 20) 60 af, aI G (h 21) 60 mf, aI G (h 22) 60 df, aI G (h 23) 7 (pF w), aI G (h 24) 64 sf, aI G (h 25) 64 cf, aI G (h 26) 64 lf, aI G (h 27) 64 rf, aI G (h 28) 64 gf, aI G (h 29) 64 tf] H locs → lv_has ls 23 [(18, .int (nI Y)), (15, .int (nI t)), (14, .int 1), (0, .ref b), (1, .ref (h 0)), (2, .ref (h 18)), (3, .ref (h 19)), (4, .ref (h 20)), (5, .ref (h 21)), (6, .ref (h 22)), (7, .ref (h 23)), (8, .ref (h 24)), (9, .ref (h 25)), (10, .ref (h 26)), (11, .ref (h 27)), (12, .ref (h 28)), (13, .ref (h 29))] → W pP l eE room_1 sS mM args below meth cC H locs cells slots Q (F0 mM pc ls [])
theorem nI_zero {a : Nat} (h : a < 2 ^ 31) (e : nI a = 0) : a = 0 := (nI_eq h (by omega)).mp (e.trans nI_0.symm)
theorem rng_nI {lo hi : Int32} (a k c : Nat) (h1 : lo = nI a) (h2 : hi = nI c) (h3 : a ≤ k) (h4 : k ≤ c) (h5 : c < 2 ^ 31) : lo ≤ nI k ∧ nI k ≤ hi := by
  subst h1
  subst h2
  exact ⟨nI_le h3 (by omega), nI_le h4 h5⟩
theorem upd_same {f : N32} {k : Nat} {x : Int32} (h : f k = x) : upd f k x = f := by
  funext j
  by_cases e : j = k
  · subst e
    rw [pk_us, h]
  · rw [pk_un e]
theorem a_flag {np n : Nat} {q : S3} {mo ki am : N32} {sk : Nat → Bool} {qf af mf df sf cf lf rf gf tf : N32} {w : S7} {dn : Nat → Bool} {y1 y2 y3 y4 y5 y6 y7 : N32} {v : S7} (I : Inv np n q mo ki am sk (dn, y1, y2, y3, y4, y5, y6, y7, v)) (L : LInv np n q mo ki am sk qf af mf df sf cf lf rf gf tf w) {i M : Nat} (hi : i < n) (hs : sk i = false) (hM : M ≤ np) (hmo : mo i = nI M) : bI (dn i) = df i := by
  have hp := I.2.1
  have e1 : dn i = (rN q mo ki am sk n M).2 i := I.2.2.2.2.2.2.2 i M hi hs hM hmo
  obtain ⟨g, s, k, C⟩ := id I.2.2.1
  have e2 := (sim_now (sk := sk) (mo := mo) C I.1 I.2.2.2.1 (show M ≤ 240 by omega)).2 i hi (onC_t.mpr ⟨hs, hmo⟩)
  rw [e1, e2, L.2.2.2 i M hi hs hM hmo]
theorem d_full' {np n : Nat} {q : S3} {mo ki am : N32} {sk : Nat → Bool} {dn : Nat → Bool} {y1 y2 y3 y4 y5 y6 y7 : N32} {v : S7} (hp : np ≤ 120) (hn : n = 60) {M : Nat} (hM : M ≤ np) {a x : Int32} (h : 0 ≤ a ∧ a ≤ 5 ∧ 1 ≤ x ∧ x ≤ 2000000) : (F_X4_tell mo ki am sk dn y1 y2 y3 y4 y5 y6 y7 q v (nI M) a x np n).1 = 2 := by
  subst hn
  exact d_full hp hM h
theorem ag_inv {np n : Nat} {q : S3} {mo ki am : N32} {sk : Nat → Bool} {r : T9} (I : Inv np n q mo ki am sk r) (pp nn : Int32) : AG (q.1, q.2.1, q.2.2, pp, nn) := by
  obtain ⟨g, s, k, C⟩ := id I.2.2.1
  exact ag_of C pp nn
theorem le5 {a : Nat} (ha : a < 2 ^ 31) (h : nI a ≤ 5) : a ≤ 5 := by
  rw [show (5 : Int32) = nI 5 by decide +kernel, nI_leI ha (by omega)] at h
  exact h
theorem lt60 {n : Nat} (hn : n < 2 ^ 31) (h : ¬ 60 ≤ nI n) : n + 1 ≤ 60 := by
  rw [← nI_60, nI_leI (by omega) hn] at h
  omega
theorem eq60 {n : Nat} (hn : n ≤ 60) (h : 60 ≤ nI n) : n = 60 := by
  rw [← nI_60, nI_leI (by omega) (by omega)] at h
  omega
theorem lt62 {n : Nat} (hn : n < 2 ^ 31) (h : ¬ 62 ≤ nI n) : n ≤ 61 := by
  rw [show (62 : Int32) = nI 62 by decide +kernel, nI_leI (by omega) hn] at h
  omega
theorem nle0 {n : Nat} (hn : n < 2 ^ 31) (h : ¬ nI n ≤ 0) : 0 < n := by
  rcases Nat.eq_zero_or_pos n with z | z
  · exact absurd (by rw [z, nI_0]; decide) h
  · exact z
theorem lt80 {n : Nat} (hn : n < 2 ^ 31) (h : ¬ 80 ≤ nI n) : n < 80 := by
  rw [show (80 : Int32) = nI 80 by decide +kernel, nI_leI (by omega) hn] at h
  omega
theorem nle_lt {a c : Nat} (ha : a < 2 ^ 31) (hc : c < 2 ^ 31) (h : ¬ nI a ≤ nI c) : c < a := by
  rw [nI_leI ha hc] at h
  omega
set_option maxRecDepth 100000 in
theorem k_L_law_c136 : Cond.constant RL 136 (100000) ∈ wsL_law := by decide +kernel
set_option maxRecDepth 100000 in
theorem k_L_law_c137 : Cond.constant RL 137 (49900001) ∈ wsL_law := by decide +kernel
set_option maxRecDepth 100000 in
theorem k_L_law_c142 : Cond.constant RL 142 (400000) ∈ wsL_law := by decide +kernel
set_option maxRecDepth 100000 in
theorem k_L_law_c127 : Cond.constant RL 127 (2000000) ∈ wsL_law := by decide +kernel
