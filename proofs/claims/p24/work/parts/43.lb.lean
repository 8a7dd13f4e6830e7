def LI_works (e : S3) (np n : Nat) (qf af mf : Nat → Int32) (x : Int32) : Nat → Nat → S7 → (Nat → Int32) → S7 × (Nat → Int32)
  | 0, i, v9, d9 => (v9, d9)
  | d + 1, i, v9, d9 => if (qf (nI i).toNatClampNeg) = x then (if bI ((F_L_acts (e.1, e.2.1, e.2.2, nI np, nI n) v9 (af (nI i).toNatClampNeg) (mf (nI i).toNatClampNeg) x).1) = 0 then LI_works e np n qf af mf x d (i + 1) ((F_L_acts (e.1, e.2.1, e.2.2, nI np, nI n) v9 (af (nI i).toNatClampNeg) (mf (nI i).toNatClampNeg) x).2) (upd d9 (nI i).toNatClampNeg 0)
    else LI_works e np n qf af mf x d (i + 1) ((F_L_acts (e.1, e.2.1, e.2.2, nI np, nI n) v9 (af (nI i).toNatClampNeg) (mf (nI i).toNatClampNeg) x).2) (upd d9 (nI i).toNatClampNeg 1))
  else LI_works e np n qf af mf x d (i + 1) v9 d9
def LO_works (e : S3) (np n : Nat) (qf af mf : Nat → Int32) (m0 : Nat) : Nat → Nat → (Nat → Int32) → S7 → (Nat → Int32) → (Nat → Int32) → (Nat → Int32) → (Nat → Int32) → (Nat → Int32) → (Nat → Int32) → (Nat → Int32) × S7 × (Nat → Int32) × (Nat → Int32) × (Nat → Int32) × (Nat → Int32) × (Nat → Int32) × (Nat → Int32)
  | 0, i, d9, v9, s9, c9, l9, r9, g9, t9 => (d9, v9, s9, c9, l9, r9, g9, t9)
  | d + 1, i, d9, v9, s9, c9, l9, r9, g9, t9 => if nI np ≤ nI (m0 + i) then LO_works e np n qf af mf m0 d (i + 1) ((LI_works e np n qf af mf (nI (m0 + i)) n 0 v9 d9).2) ((LI_works e np n qf af mf (nI (m0 + i)) n 0 v9 d9).1) ((F_L_keeps v9 s9 c9 l9 r9 g9 t9 (m0 + i)).1) ((F_L_keeps v9 s9 c9 l9 r9 g9 t9 (m0 + i)).2.1) ((F_L_keeps v9 s9 c9 l9 r9 g9 t9 (m0 + i)).2.2.1) ((F_L_keeps v9 s9 c9 l9 r9 g9 t9 (m0 + i)).2.2.2.1) ((F_L_keeps v9 s9 c9 l9 r9 g9 t9 (m0 + i)).2.2.2.2.1) ((F_L_keeps v9 s9 c9 l9 r9 g9 t9 (m0 + i)).2.2.2.2.2)
  else LO_works e np n qf af mf m0 d (i + 1) ((LI_works e np n qf af mf (nI (m0 + i)) n 0 v9 d9).2) (F_L_closes (e.1, e.2.1, e.2.2, nI np, nI n) ((LI_works e np n qf af mf (nI (m0 + i)) n 0 v9 d9).1) (m0 + i)) ((F_L_keeps v9 s9 c9 l9 r9 g9 t9 (m0 + i)).1) ((F_L_keeps v9 s9 c9 l9 r9 g9 t9 (m0 + i)).2.1) ((F_L_keeps v9 s9 c9 l9 r9 g9 t9 (m0 + i)).2.2.1) ((F_L_keeps v9 s9 c9 l9 r9 g9 t9 (m0 + i)).2.2.2.1) ((F_L_keeps v9 s9 c9 l9 r9 g9 t9 (m0 + i)).2.2.2.2.1) ((F_L_keeps v9 s9 c9 l9 r9 g9 t9 (m0 + i)).2.2.2.2.2)
def F_L_works (e : S3) (np n : Nat) (qf af mf df : Nat → Int32) (sf cf lf rf gf tf : Nat → Int32) (m0 : Nat) : (Nat → Int32) × S7 × (Nat → Int32) × (Nat → Int32) × (Nat → Int32) × (Nat → Int32) × (Nat → Int32) × (Nat → Int32) :=
  LO_works e np n qf af mf m0 (np + 1 - m0) 0 df (F_L_takes sf cf lf rf gf tf m0) sf cf lf rf gf tf

abbrev rm_L_works : Room := { frames := 4, cells := 0, slots := 0, locals := 106 }
set_option maxHeartbeats 4000000 in
set_option maxRecDepth 100000 in
theorem iw_L_works {pP : Program} {l : Launch} {eE : Env} {sS : State} {mM : MethodId} {args : Array Value} {below : List Frame} {meth : Method} {cC : Code} {Q : State → Prop} {G : GG} {A : Nat → Prop} {h : Nat → Nat} (S : CallFix pP mM cC cL_works 15 sS args wsL_works RL) (hK : Kn G sS) (e : S3) (np n : Nat) (hn : n ≤ 60) (qf af mf : Nat → Int32) (x fr : Int32) : ∀ (d i : Nat) (v9 : S7) (d9 : Nat → Int32) (s9 : Nat → Int32) (c9 : Nat → Int32) (l9 : Nat → Int32) (r9 : Nat → Int32) (g9 : Nat → Int32) (t9 : Nat → Int32), i + d = n → ∀ (H : Heap) (locs : List Loc) (ls : Array Slot), Wd G A sS.heap [aI G (h 18) 5 (nF (e.1, e.2.1, e.2.2, nI np, nI n)), aI G (h 19) 60 qf, aI G (h 20) 60 af, aI G (h 21) 60 mf, aI G (h 22) 60 d9, aI G (h 23) 7 (pF v9), aI G (h 24) 64 s9, aI G (h 25) 64 c9, aI G (h 26) 64 l9, aI G (h 27) 64 r9, aI G (h 28) 64 g9, aI G (h 29) 64 t9] H locs → lv_has ls 15 [(14, .int (nI i)), (13, .int x), (0, .ref (h 18)), (1, .ref (h 19)), (2, .ref (h 20)), (3, .ref (h 21)), (4, .ref (h 22)), (5, .ref (h 23)), (6, .ref (h 24)), (7, .ref (h 25)), (8, .ref (h 26)), (9, .ref (h 27)), (10, .ref (h 28)), (11, .ref (h 29)), (12, .int fr)] →
    (∀ (H : Heap) (locs : List Loc) (ls : Array Slot), Wd G A sS.heap [aI G (h 18) 5 (nF (e.1, e.2.1, e.2.2, nI np, nI n)), aI G (h 19) 60 qf, aI G (h 20) 60 af, aI G (h 21) 60 mf, aI G (h 22) 60 ((LI_works e np n qf af mf x d i v9 d9).2), aI G (h 23) 7 (pF ((LI_works e np n qf af mf x d i v9 d9).1)), aI G (h 24) 64 s9, aI G (h 25) 64 c9, aI G (h 26) 64 l9, aI G (h 27) 64 r9, aI G (h 28) 64 g9, aI G (h 29) 64 t9] H locs → lv_has ls 15 [(14, .int (nI n)), (13, .int x), (0, .ref (h 18)), (1, .ref (h 19)), (2, .ref (h 20)), (3, .ref (h 21)), (4, .ref (h 22)), (5, .ref (h 23)), (6, .ref (h 24)), (7, .ref (h 25)), (8, .ref (h 26)), (9, .ref (h 27)), (10, .ref (h 28)), (11, .ref (h 29)), (12, .int fr)] → W pP l eE rm_L_works sS mM args below meth cC H locs 0 0 Q (F0 mM 105 ls [])) →
    W pP l eE rm_L_works sS mM args below meth cC H locs 0 0 Q (F0 mM 53 ls []) := by
  have hx := S.1
  have hb := S.2.1
  intro d
  induction d with
  | zero =>
    intro i v9 d9 s9 c9 l9 r9 g9 t9 hi H locs ls hW hl K
    have hc : nI n ≤ nI i := nI_le (by omega) (by omega)
    refine lv_iload hx hb dL_works_53 (lv_at hl 0 rfl) ?_
    refine lv_aload_n hx hb dL_works_55 rfl (lv_at hl 2 rfl) ?_
    refine lv_iconst (v := 4) hx hb dL_works_56 (by decide) ?_
    refine k_vld S hK hW 0 rfl (i := 4) (k := 4) (x := (nI n)) vi5_4 ix_4 rfl dL_works_57 ?_
    refine lv_icmp_ge (tgt := 105) hx hb dL_works_58 (by decide) (fun c_1 => ?_) (fun c_1 => ?_)
    ·
      have e9 : i = n := by omega
      subst e9
      exact K H _ ls (hW.re [0, 1, 2, 3, 4, 5, 6, 7, 8, 9, 10, 11] rfl rfl) (lv_sub hl [0, 1, 2, 3, 4, 5, 6, 7, 8, 9, 10, 11, 12, 13, 14] rfl)
    ·
      exact absurd hc c_1
  | succ d ih =>
    intro i v9 d9 s9 c9 l9 r9 g9 t9 hi H locs ls hW hl K
    have hc : ¬ nI n ≤ nI i := nI_ge (by omega) (by omega)
    refine lv_iload hx hb dL_works_53 (lv_at hl 0 rfl) ?_
    refine lv_aload_n hx hb dL_works_55 rfl (lv_at hl 2 rfl) ?_
    refine lv_iconst (v := 4) hx hb dL_works_56 (by decide) ?_
    refine k_vld S hK hW 0 rfl (i := 4) (k := 4) (x := (nI n)) vi5_4 ix_4 rfl dL_works_57 ?_
    refine lv_icmp_ge (tgt := 105) hx hb dL_works_58 (by decide) (fun c_2 => ?_) (fun c_2 => ?_)
    ·
      exact absurd c_2 hc
    ·
      refine lv_aload_n hx hb dL_works_61 rfl (lv_at hl 3 rfl) ?_
      refine lv_iload hx hb dL_works_62 (lv_at hl 0 rfl) ?_
      refine k_iald (n := 60) S hK hW 1 rfl (i := nI i) (vp_in_nI (by omega) (by omega)) dL_works_64 ?_
      refine lv_iload hx hb dL_works_65 (lv_at hl 1 rfl) ?_
      refine lv_icmp_ne (tgt := 99) hx hb dL_works_67 (by decide) (fun c_3 => ?_) (fun c_3 => ?_)
      ·
        refine lv_iinc (v := (nI i + 1)) (lv' := [(14, .int (nI i + 1)), (13, .int x), (0, .ref (h 18)), (1, .ref (h 19)), (2, .ref (h 20)), (3, .ref (h 21)), (4, .ref (h 22)), (5, .ref (h 23)), (6, .ref (h 24)), (7, .ref (h 25)), (8, .ref (h 26)), (9, .ref (h 27)), (10, .ref (h 28)), (11, .ref (h 29)), (12, .int fr)]) hx hb dL_works_99 hl (k := 0) rfl rfl (by decide) rfl (fun ls hl => ?_)
        refine lv_goto (tgt := 53) hx hb dL_works_102 (by decide) ?_
        have eS : LI_works e np n qf af mf x (d + 1) i v9 d9 = LI_works e np n qf af mf x d (i + 1) v9 d9 := by
          rw [LI_works, if_neg c_3]
        rw [eS] at K
        rw [nI_1] at hl
        exact ih (i + 1) v9 d9 s9 c9 l9 r9 g9 t9 (by omega) H _ ls (hW.re [0, 1, 2, 3, 4, 5, 6, 7, 8, 9, 10, 11] rfl rfl) (lv_sub hl [0, 1, 2, 3, 4, 5, 6, 7, 8, 9, 10, 11, 12, 13, 14] rfl) K
      ·
        refine lv_aload hx hb dL_works_70 (lv_at hl 6 rfl) ?_
        refine lv_iload hx hb dL_works_72 (lv_at hl 0 rfl) ?_
        refine lv_aload_n hx hb dL_works_74 rfl (lv_at hl 2 rfl) ?_
        refine lv_aload hx hb dL_works_75 (lv_at hl 7 rfl) ?_
        refine lv_aload_n hx hb dL_works_77 rfl (lv_at hl 4 rfl) ?_
        refine lv_iload hx hb dL_works_78 (lv_at hl 0 rfl) ?_
        refine k_iald (n := 60) S hK hW 2 rfl (i := nI i) (vp_in_nI (by omega) (by omega)) dL_works_80 ?_
        refine lv_aload_n hx hb dL_works_81 rfl (lv_at hl 5 rfl) ?_
        refine lv_iload hx hb dL_works_82 (lv_at hl 0 rfl) ?_
        refine k_iald (n := 60) S hK hW 3 rfl (i := nI i) (vp_in_nI (by omega) (by omega)) dL_works_84 ?_
        refine lv_iload hx hb dL_works_85 (lv_at hl 1 rfl) ?_
        refine k_callSi (As := [.ref (h 18), .ref (h 23), .int (af (nI i).toNatClampNeg), .int (mf (nI i).toNatClampNeg), .int x]) (rest := [.int (nI i), .ref (h 22)]) (wr := [aI G (h 19) 60 qf, aI G (h 20) 60 af, aI G (h 21) 60 mf, aI G (h 22) 60 d9, aI G (h 24) 64 s9, aI G (h 25) 64 c9, aI G (h 26) 64 l9, aI G (h 27) 64 r9, aI G (h 28) 64 g9, aI G (h 29) 64 t9]) (c_L_acts l G h (h 23) (e.1, e.2.1, e.2.2, nI np, nI n) v9 (af (nI i).toNatClampNeg) (mf (nI i).toNatClampNeg) x) S hK hW gL_works_L_acts rfl ⟨rfl, rfl⟩ nd_L_acts ⟨rfl, rfl⟩ [0, 5] [1, 2, 3, 4, 6, 7, 8, 9, 10, 11] rfl rfl rfl rfl (by decide) rfl hl.1 rfl dL_works_87 ⟨Nat.zero_le _, Nat.zero_le _⟩ (fun H locs hW => ?_)
        have hW : Wd G A sS.heap [aI G (h 19) 60 qf, aI G (h 20) 60 af, aI G (h 21) 60 mf, aI G (h 22) 60 d9, aI G (h 24) 64 s9, aI G (h 25) 64 c9, aI G (h 26) 64 l9, aI G (h 27) 64 r9, aI G (h 28) 64 g9, aI G (h 29) 64 t9, aI G (h 18) 5 (nF (e.1, e.2.1, e.2.2, nI np, nI n)), aI G (h 23) 7 (pF ((F_L_acts (e.1, e.2.1, e.2.2, nI np, nI n) v9 (af (nI i).toNatClampNeg) (mf (nI i).toNatClampNeg) x).2))] H locs := hW
        refine lv_if_eq (tgt := 97) hx hb dL_works_90 (by decide) (fun c_4 => ?_) (fun c_4 => ?_)
        ·
          refine lv_iconst (v := 0) hx hb dL_works_97 (by decide) ?_
          refine k_iast (n := 60) (ws' := [aI G (h 19) 60 qf, aI G (h 20) 60 af, aI G (h 21) 60 mf, aI G (h 22) 60 (upd d9 (nI i).toNatClampNeg 0), aI G (h 24) 64 s9, aI G (h 25) 64 c9, aI G (h 26) 64 l9, aI G (h 27) 64 r9, aI G (h 28) 64 g9, aI G (h 29) 64 t9, aI G (h 18) 5 (nF (e.1, e.2.1, e.2.2, nI np, nI n)), aI G (h 23) 7 (pF ((F_L_acts (e.1, e.2.1, e.2.2, nI np, nI n) v9 (af (nI i).toNatClampNeg) (mf (nI i).toNatClampNeg) x).2))]) S hK hW 3 rfl (i := nI i) (vp_in_nI (by omega) (by omega)) rfl dL_works_98 (fun H locs hW => ?_)
          refine lv_iinc (v := (nI i + 1)) (lv' := [(14, .int (nI i + 1)), (13, .int x), (0, .ref (h 18)), (1, .ref (h 19)), (2, .ref (h 20)), (3, .ref (h 21)), (4, .ref (h 22)), (5, .ref (h 23)), (6, .ref (h 24)), (7, .ref (h 25)), (8, .ref (h 26)), (9, .ref (h 27)), (10, .ref (h 28)), (11, .ref (h 29)), (12, .int fr)]) hx hb dL_works_99 hl (k := 0) rfl rfl (by decide) rfl (fun ls hl => ?_)
          refine lv_goto (tgt := 53) hx hb dL_works_102 (by decide) ?_
          have eS : LI_works e np n qf af mf x (d + 1) i v9 d9 = LI_works e np n qf af mf x d (i + 1) ((F_L_acts (e.1, e.2.1, e.2.2, nI np, nI n) v9 (af (nI i).toNatClampNeg) (mf (nI i).toNatClampNeg) x).2) (upd d9 (nI i).toNatClampNeg 0) := by
            rw [LI_works, if_pos c_3, if_pos c_4]
          rw [eS] at K
          rw [nI_1] at hl
          exact ih (i + 1) ((F_L_acts (e.1, e.2.1, e.2.2, nI np, nI n) v9 (af (nI i).toNatClampNeg) (mf (nI i).toNatClampNeg) x).2) (upd d9 (nI i).toNatClampNeg 0) s9 c9 l9 r9 g9 t9 (by omega) H _ ls (hW.re [10, 0, 1, 2, 3, 11, 4, 5, 6, 7, 8, 9] rfl rfl) (lv_sub hl [0, 1, 2, 3, 4, 5, 6, 7, 8, 9, 10, 11, 12, 13, 14] rfl) K
        ·
          refine lv_iconst (v := 1) hx hb dL_works_93 (by decide) ?_
          refine lv_goto (tgt := 98) hx hb dL_works_94 (by decide) ?_
          refine k_iast (n := 60) (ws' := [aI G (h 19) 60 qf, aI G (h 20) 60 af, aI G (h 21) 60 mf, aI G (h 22) 60 (upd d9 (nI i).toNatClampNeg 1), aI G (h 24) 64 s9, aI G (h 25) 64 c9, aI G (h 26) 64 l9, aI G (h 27) 64 r9, aI G (h 28) 64 g9, aI G (h 29) 64 t9, aI G (h 18) 5 (nF (e.1, e.2.1, e.2.2, nI np, nI n)), aI G (h 23) 7 (pF ((F_L_acts (e.1, e.2.1, e.2.2, nI np, nI n) v9 (af (nI i).toNatClampNeg) (mf (nI i).toNatClampNeg) x).2))]) S hK hW 3 rfl (i := nI i) (vp_in_nI (by omega) (by omega)) rfl dL_works_98 (fun H locs hW => ?_)
          refine lv_iinc (v := (nI i + 1)) (lv' := [(14, .int (nI i + 1)), (13, .int x), (0, .ref (h 18)), (1, .ref (h 19)), (2, .ref (h 20)), (3, .ref (h 21)), (4, .ref (h 22)), (5, .ref (h 23)), (6, .ref (h 24)), (7, .ref (h 25)), (8, .ref (h 26)), (9, .ref (h 27)), (10, .ref (h 28)), (11, .ref (h 29)), (12, .int fr)]) hx hb dL_works_99 hl (k := 0) rfl rfl (by decide) rfl (fun ls hl => ?_)
          refine lv_goto (tgt := 53) hx hb dL_works_102 (by decide) ?_
          have eS : LI_works e np n qf af mf x (d + 1) i v9 d9 = LI_works e np n qf af mf x d (i + 1) ((F_L_acts (e.1, e.2.1, e.2.2, nI np, nI n) v9 (af (nI i).toNatClampNeg) (mf (nI i).toNatClampNeg) x).2) (upd d9 (nI i).toNatClampNeg 1) := by
            rw [LI_works, if_pos c_3, if_neg c_4]
          rw [eS] at K
          rw [nI_1] at hl
          exact ih (i + 1) ((F_L_acts (e.1, e.2.1, e.2.2, nI np, nI n) v9 (af (nI i).toNatClampNeg) (mf (nI i).toNatClampNeg) x).2) (upd d9 (nI i).toNatClampNeg 1) s9 c9 l9 r9 g9 t9 (by omega) H _ ls (hW.re [10, 0, 1, 2, 3, 11, 4, 5, 6, 7, 8, 9] rfl rfl) (lv_sub hl [0, 1, 2, 3, 4, 5, 6, 7, 8, 9, 10, 11, 12, 13, 14] rfl) K
theorem nd_L_works : yL_works.cls ≠ "java/lang/invoke/MethodHandle" ∧ yL_works.cls ≠ "java/lang/invoke/VarHandle" ∧ (parseMethodDescriptor yL_works.desc).map (fun d => d.parameters.length) = some 13 := by decide +kernel
set_option maxHeartbeats 4000000 in
set_option maxRecDepth 100000 in
theorem c_L_works (l : Launch) (G : GG) (h : Nat → Nat) (e : S3) (np n : Nat) (qf af mf df : Nat → Int32) (sf cf lf rf gf tf : Nat → Int32) (m0 : Nat) (v : S7) (hn : n ≤ 60) (hp : np < 64) (hm : m0 ≤ np) (hw : AG (e.1, e.2.1, e.2.2, nI np, nI n)) : CV l G yL_works wsL_works rm_L_works [.ref (h 18), .ref (h 19), .ref (h 20), .ref (h 21), .ref (h 22), .ref (h 23), .ref (h 24), .ref (h 25), .ref (h 26), .ref (h 27), .ref (h 28), .ref (h 29), .int (nI m0)] [aI G (h 18) 5 (nF (e.1, e.2.1, e.2.2, nI np, nI n)), aI G (h 19) 60 qf, aI G (h 20) 60 af, aI G (h 21) 60 mf, aI G (h 22) 60 df, aI G (h 23) 7 (pF v), aI G (h 24) 64 sf, aI G (h 25) 64 cf, aI G (h 26) 64 lf, aI G (h 27) 64 rf, aI G (h 28) 64 gf, aI G (h 29) 64 tf] [aI G (h 18) 5 (nF (e.1, e.2.1, e.2.2, nI np, nI n)), aI G (h 19) 60 qf, aI G (h 20) 60 af, aI G (h 21) 60 mf, aI G (h 22) 60 ((F_L_works e np n qf af mf df sf cf lf rf gf tf m0).1), aI G (h 23) 7 (pF ((F_L_works e np n qf af mf df sf cf lf rf gf tf m0).2.1)), aI G (h 24) 64 ((F_L_works e np n qf af mf df sf cf lf rf gf tf m0).2.2.1), aI G (h 25) 64 ((F_L_works e np n qf af mf df sf cf lf rf gf tf m0).2.2.2.1), aI G (h 26) 64 ((F_L_works e np n qf af mf df sf cf lf rf gf tf m0).2.2.2.2.1), aI G (h 27) 64 ((F_L_works e np n qf af mf df sf cf lf rf gf tf m0).2.2.2.2.2.1), aI G (h 28) 64 ((F_L_works e np n qf af mf df sf cf lf rf gf tf m0).2.2.2.2.2.2.1), aI G (h 29) 64 ((F_L_works e np n qf af mf df sf cf lf rf gf tf m0).2.2.2.2.2.2.2)] := by
  refine CV_of (own := RL) (by decide +kernel) rfl rfl (Nat.le_of_ble_eq_true rfl) ?_
  intro pP eE sS mM args below meth cC A S hK hr hlk hmn hW ls hl
  have hx := S.1
  have hb := S.2.1
  have hl : lv_has ls 15 [(0, .ref (h 18)), (1, .ref (h 19)), (2, .ref (h 20)), (3, .ref (h 21)), (4, .ref (h 22)), (5, .ref (h 23)), (6, .ref (h 24)), (7, .ref (h 25)), (8, .ref (h 26)), (9, .ref (h 27)), (10, .ref (h 28)), (11, .ref (h 29)), (12, .int (nI m0))] := hl
  have hW : Wd G A sS.heap [aI G (h 18) 5 (nF (e.1, e.2.1, e.2.2, nI np, nI n)), aI G (h 19) 60 qf, aI G (h 20) 60 af, aI G (h 21) 60 mf, aI G (h 22) 60 df, aI G (h 23) 7 (pF v), aI G (h 24) 64 sf, aI G (h 25) 64 cf, aI G (h 26) 64 lf, aI G (h 27) 64 rf, aI G (h 28) 64 gf, aI G (h 29) 64 tf] sS.heap [] := hW
  have key : ∀ (d i : Nat) (d9 : Nat → Int32) (v9 : S7) (s9 : Nat → Int32) (c9 : Nat → Int32) (l9 : Nat → Int32) (r9 : Nat → Int32) (g9 : Nat → Int32) (t9 : Nat → Int32), m0 + i + d = np + 1 → LO_works e np n qf af mf m0 d i d9 v9 s9 c9 l9 r9 g9 t9 = (F_L_works e np n qf af mf df sf cf lf rf gf tf m0) → ∀ (H : Heap) (locs : List Loc) (ls : Array Slot), Wd G A sS.heap [aI G (h 18) 5 (nF (e.1, e.2.1, e.2.2, nI np, nI n)), aI G (h 19) 60 qf, aI G (h 20) 60 af, aI G (h 21) 60 mf, aI G (h 22) 60 d9, aI G (h 23) 7 (pF v9), aI G (h 24) 64 s9, aI G (h 25) 64 c9, aI G (h 26) 64 l9, aI G (h 27) 64 r9, aI G (h 28) 64 g9, aI G (h 29) 64 t9] H locs → lv_has ls 15 [(13, .int (nI (m0 + i))), (0, .ref (h 18)), (1, .ref (h 19)), (2, .ref (h 20)), (3, .ref (h 21)), (4, .ref (h 22)), (5, .ref (h 23)), (6, .ref (h 24)), (7, .ref (h 25)), (8, .ref (h 26)), (9, .ref (h 27)), (10, .ref (h 28)), (11, .ref (h 29)), (12, .int (nI m0))] → W pP l eE rm_L_works sS mM args below meth cC H locs 0 0 (MQ below (QV G A [aI G (h 18) 5 (nF (e.1, e.2.1, e.2.2, nI np, nI n)), aI G (h 19) 60 qf, aI G (h 20) 60 af, aI G (h 21) 60 mf, aI G (h 22) 60 ((F_L_works e np n qf af mf df sf cf lf rf gf tf m0).1), aI G (h 23) 7 (pF ((F_L_works e np n qf af mf df sf cf lf rf gf tf m0).2.1)), aI G (h 24) 64 ((F_L_works e np n qf af mf df sf cf lf rf gf tf m0).2.2.1), aI G (h 25) 64 ((F_L_works e np n qf af mf df sf cf lf rf gf tf m0).2.2.2.1), aI G (h 26) 64 ((F_L_works e np n qf af mf df sf cf lf rf gf tf m0).2.2.2.2.1), aI G (h 27) 64 ((F_L_works e np n qf af mf df sf cf lf rf gf tf m0).2.2.2.2.2.1), aI G (h 28) 64 ((F_L_works e np n qf af mf df sf cf lf rf gf tf m0).2.2.2.2.2.2.1), aI G (h 29) 64 ((F_L_works e np n qf af mf df sf cf lf rf gf tf m0).2.2.2.2.2.2.2)]) args sS 0 0 A) (F0 mM 23 ls []) := by
    intro d
    induction d with
    | zero =>
      intro i d9 v9 s9 c9 l9 r9 g9 t9 hi hF H locs ls hW hl
      have hc : nI np < nI (m0 + i) := nI_lt (by omega) (by omega)
      refine lv_iload hx hb dL_works_23 (lv_at hl 0 rfl) ?_
      refine lv_aload_n hx hb dL_works_25 rfl (lv_at hl 1 rfl) ?_
      refine lv_iconst (v := 3) hx hb dL_works_26 (by decide) ?_
      refine k_vld S hK hW 0 rfl (i := 3) (k := 3) (x := (nI np)) vi5_3 ix_3 rfl dL_works_27 ?_
      refine lv_icmp_gt (tgt := 127) hx hb dL_works_28 (by decide) (fun c_5 => ?_) (fun c_5 => ?_)
      ·
        have eF : (F_L_works e np n qf af mf df sf cf lf rf gf tf m0) = (d9, v9, s9, c9, l9, r9, g9, t9) := hF.symm
        exact k_vret (wf := [aI G (h 18) 5 (nF (e.1, e.2.1, e.2.2, nI np, nI n)), aI G (h 19) 60 qf, aI G (h 20) 60 af, aI G (h 21) 60 mf, aI G (h 22) 60 d9, aI G (h 23) 7 (pF v9), aI G (h 24) 64 s9, aI G (h 25) 64 c9, aI G (h 26) 64 l9, aI G (h 27) 64 r9, aI G (h 28) 64 g9, aI G (h 29) 64 t9]) S hr hlk hK hW [0, 1, 2, 3, 4, 5, 6, 7, 8, 9, 10, 11] rfl rfl (congrArg (fun (z : (Nat → Int32) × S7 × (Nat → Int32) × (Nat → Int32) × (Nat → Int32) × (Nat → Int32) × (Nat → Int32) × (Nat → Int32)) => [aI G (h 18) 5 (nF (e.1, e.2.1, e.2.2, nI np, nI n)), aI G (h 19) 60 qf, aI G (h 20) 60 af, aI G (h 21) 60 mf, aI G (h 22) 60 z.1, aI G (h 23) 7 (pF z.2.1), aI G (h 24) 64 z.2.2.1, aI G (h 25) 64 z.2.2.2.1, aI G (h 26) 64 z.2.2.2.2.1, aI G (h 27) 64 z.2.2.2.2.2.1, aI G (h 28) 64 z.2.2.2.2.2.2.1, aI G (h 29) 64 z.2.2.2.2.2.2.2]) eF).symm dL_works_127
      ·
        exact absurd hc c_5
    | succ d ih =>
      intro i d9 v9 s9 c9 l9 r9 g9 t9 hi hF H locs ls hW hl
      have hc : ¬ nI np < nI (m0 + i) := nI_nlt (by omega) (by omega)
      refine lv_iload hx hb dL_works_23 (lv_at hl 0 rfl) ?_
      refine lv_aload_n hx hb dL_works_25 rfl (lv_at hl 1 rfl) ?_
      refine lv_iconst (v := 3) hx hb dL_works_26 (by decide) ?_
      refine k_vld S hK hW 0 rfl (i := 3) (k := 3) (x := (nI np)) vi5_3 ix_3 rfl dL_works_27 ?_
      refine lv_icmp_gt (tgt := 127) hx hb dL_works_28 (by decide) (fun c_6 => ?_) (fun c_6 => ?_)
      ·
        exact absurd c_6 hc
      ·
        refine lv_aload hx hb dL_works_31 (lv_at hl 6 rfl) ?_
        refine lv_aload hx hb dL_works_33 (lv_at hl 7 rfl) ?_
        refine lv_aload hx hb dL_works_35 (lv_at hl 8 rfl) ?_
        refine lv_aload hx hb dL_works_37 (lv_at hl 9 rfl) ?_
        refine lv_aload hx hb dL_works_39 (lv_at hl 10 rfl) ?_
        refine lv_aload hx hb dL_works_41 (lv_at hl 11 rfl) ?_
        refine lv_aload hx hb dL_works_43 (lv_at hl 12 rfl) ?_
        refine lv_iload hx hb dL_works_45 (lv_at hl 0 rfl) ?_
        refine k_callSv (As := [.ref (h 23), .ref (h 24), .ref (h 25), .ref (h 26), .ref (h 27), .ref (h 28), .ref (h 29), .int (nI (m0 + i))]) (rest := []) (wr := [aI G (h 18) 5 (nF (e.1, e.2.1, e.2.2, nI np, nI n)), aI G (h 19) 60 qf, aI G (h 20) 60 af, aI G (h 21) 60 mf, aI G (h 22) 60 d9]) (c_L_keeps l G h v9 s9 c9 l9 r9 g9 t9 (m0 + i) (by omega)) S hK hW gL_works_L_keeps rfl ⟨rfl, rfl⟩ nd_L_keeps ⟨rfl, rfl⟩ [5, 6, 7, 8, 9, 10, 11] [0, 1, 2, 3, 4] rfl rfl rfl rfl (by decide) rfl hl.1 rfl dL_works_47 ⟨Nat.zero_le _, Nat.zero_le _⟩ (fun H locs hW => ?_)
        have hW : Wd G A sS.heap [aI G (h 18) 5 (nF (e.1, e.2.1, e.2.2, nI np, nI n)), aI G (h 19) 60 qf, aI G (h 20) 60 af, aI G (h 21) 60 mf, aI G (h 22) 60 d9, aI G (h 23) 7 (pF v9), aI G (h 24) 64 ((F_L_keeps v9 s9 c9 l9 r9 g9 t9 (m0 + i)).1), aI G (h 25) 64 ((F_L_keeps v9 s9 c9 l9 r9 g9 t9 (m0 + i)).2.1), aI G (h 26) 64 ((F_L_keeps v9 s9 c9 l9 r9 g9 t9 (m0 + i)).2.2.1), aI G (h 27) 64 ((F_L_keeps v9 s9 c9 l9 r9 g9 t9 (m0 + i)).2.2.2.1), aI G (h 28) 64 ((F_L_keeps v9 s9 c9 l9 r9 g9 t9 (m0 + i)).2.2.2.2.1), aI G (h 29) 64 ((F_L_keeps v9 s9 c9 l9 r9 g9 t9 (m0 + i)).2.2.2.2.2)] H locs := hW
        refine lv_iconst (v := 0) hx hb dL_works_50 (by decide) ?_
        refine lv_istore (lv' := [(14, .int 0), (13, .int (nI (m0 + i))), (0, .ref (h 18)), (1, .ref (h 19)), (2, .ref (h 20)), (3, .ref (h 21)), (4, .ref (h 22)), (5, .ref (h 23)), (6, .ref (h 24)), (7, .ref (h 25)), (8, .ref (h 26)), (9, .ref (h 27)), (10, .ref (h 28)), (11, .ref (h 29)), (12, .int (nI m0))]) hx hb dL_works_51 hl (by decide) rfl (fun ls hl => ?_)
        refine iw_L_works S hK e np n hn qf af mf (nI (m0 + i)) (nI m0) n 0 v9 d9 ((F_L_keeps v9 s9 c9 l9 r9 g9 t9 (m0 + i)).1) ((F_L_keeps v9 s9 c9 l9 r9 g9 t9 (m0 + i)).2.1) ((F_L_keeps v9 s9 c9 l9 r9 g9 t9 (m0 + i)).2.2.1) ((F_L_keeps v9 s9 c9 l9 r9 g9 t9 (m0 + i)).2.2.2.1) ((F_L_keeps v9 s9 c9 l9 r9 g9 t9 (m0 + i)).2.2.2.2.1) ((F_L_keeps v9 s9 c9 l9 r9 g9 t9 (m0 + i)).2.2.2.2.2) (by omega) H _ ls (hW.re [0, 1, 2, 3, 4, 5, 6, 7, 8, 9, 10, 11] rfl rfl) (by rw [nI_0]; exact lv_sub hl [0, 1, 2, 3, 4, 5, 6, 7, 8, 9, 10, 11, 12, 13, 14] rfl) (fun H locs ls hW hl => ?_)
        have hW : Wd G A sS.heap [aI G (h 18) 5 (nF (e.1, e.2.1, e.2.2, nI np, nI n)), aI G (h 19) 60 qf, aI G (h 20) 60 af, aI G (h 21) 60 mf, aI G (h 22) 60 ((LI_works e np n qf af mf (nI (m0 + i)) n 0 v9 d9).2), aI G (h 23) 7 (pF ((LI_works e np n qf af mf (nI (m0 + i)) n 0 v9 d9).1)), aI G (h 24) 64 ((F_L_keeps v9 s9 c9 l9 r9 g9 t9 (m0 + i)).1), aI G (h 25) 64 ((F_L_keeps v9 s9 c9 l9 r9 g9 t9 (m0 + i)).2.1), aI G (h 26) 64 ((F_L_keeps v9 s9 c9 l9 r9 g9 t9 (m0 + i)).2.2.1), aI G (h 27) 64 ((F_L_keeps v9 s9 c9 l9 r9 g9 t9 (m0 + i)).2.2.2.1), aI G (h 28) 64 ((F_L_keeps v9 s9 c9 l9 r9 g9 t9 (m0 + i)).2.2.2.2.1), aI G (h 29) 64 ((F_L_keeps v9 s9 c9 l9 r9 g9 t9 (m0 + i)).2.2.2.2.2)] H locs := hW
        refine lv_iload hx hb dL_works_105 (lv_at hl 1 rfl) ?_
        refine lv_aload_n hx hb dL_works_107 rfl (lv_at hl 2 rfl) ?_
        refine lv_iconst (v := 3) hx hb dL_works_108 (by decide) ?_
        refine k_vld S hK hW 0 rfl (i := 3) (k := 3) (x := (nI np)) vi5_3 ix_3 rfl dL_works_109 ?_
        refine lv_icmp_ge (tgt := 121) hx hb dL_works_110 (by decide) (fun c_7 => ?_) (fun c_7 => ?_)
        ·
          refine lv_iinc (v := (nI (m0 + i) + 1)) (lv' := [(13, .int (nI (m0 + i) + 1)), (14, .int (nI n)), (0, .ref (h 18)), (1, .ref (h 19)), (2, .ref (h 20)), (3, .ref (h 21)), (4, .ref (h 22)), (5, .ref (h 23)), (6, .ref (h 24)), (7, .ref (h 25)), (8, .ref (h 26)), (9, .ref (h 27)), (10, .ref (h 28)), (11, .ref (h 29)), (12, .int (nI m0))]) hx hb dL_works_121 hl (k := 1) rfl rfl (by decide) rfl (fun ls hl => ?_)
          refine lv_goto (tgt := 23) hx hb dL_works_124 (by decide) ?_
          have eS : LO_works e np n qf af mf m0 (d + 1) i d9 v9 s9 c9 l9 r9 g9 t9 = LO_works e np n qf af mf m0 d (i + 1) ((LI_works e np n qf af mf (nI (m0 + i)) n 0 v9 d9).2) ((LI_works e np n qf af mf (nI (m0 + i)) n 0 v9 d9).1) ((F_L_keeps v9 s9 c9 l9 r9 g9 t9 (m0 + i)).1) ((F_L_keeps v9 s9 c9 l9 r9 g9 t9 (m0 + i)).2.1) ((F_L_keeps v9 s9 c9 l9 r9 g9 t9 (m0 + i)).2.2.1) ((F_L_keeps v9 s9 c9 l9 r9 g9 t9 (m0 + i)).2.2.2.1) ((F_L_keeps v9 s9 c9 l9 r9 g9 t9 (m0 + i)).2.2.2.2.1) ((F_L_keeps v9 s9 c9 l9 r9 g9 t9 (m0 + i)).2.2.2.2.2) := by
            rw [LO_works, if_pos c_7]
          rw [nI_1] at hl
          exact ih (i + 1) ((LI_works e np n qf af mf (nI (m0 + i)) n 0 v9 d9).2) ((LI_works e np n qf af mf (nI (m0 + i)) n 0 v9 d9).1) ((F_L_keeps v9 s9 c9 l9 r9 g9 t9 (m0 + i)).1) ((F_L_keeps v9 s9 c9 l9 r9 g9 t9 (m0 + i)).2.1) ((F_L_keeps v9 s9 c9 l9 r9 g9 t9 (m0 + i)).2.2.1) ((F_L_keeps v9 s9 c9 l9 r9 g9 t9 (m0 + i)).2.2.2.1) ((F_L_keeps v9 s9 c9 l9 r9 g9 t9 (m0 + i)).2.2.2.2.1) ((F_L_keeps v9 s9 c9 l9 r9 g9 t9 (m0 + i)).2.2.2.2.2) (by omega) (eS.symm.trans hF) _ _ _ (hW.re [0, 1, 2, 3, 4, 5, 6, 7, 8, 9, 10, 11] rfl rfl) (lv_sub hl [0, 2, 3, 4, 5, 6, 7, 8, 9, 10, 11, 12, 13, 14] rfl)
        ·
          refine lv_aload_n hx hb dL_works_113 rfl (lv_at hl 2 rfl) ?_
          refine lv_aload hx hb dL_works_114 (lv_at hl 7 rfl) ?_
          refine lv_iload hx hb dL_works_116 (lv_at hl 1 rfl) ?_
          refine k_callSv (As := [.ref (h 18), .ref (h 23), .int (nI (m0 + i))]) (rest := []) (wr := [aI G (h 19) 60 qf, aI G (h 20) 60 af, aI G (h 21) 60 mf, aI G (h 22) 60 ((LI_works e np n qf af mf (nI (m0 + i)) n 0 v9 d9).2), aI G (h 24) 64 ((F_L_keeps v9 s9 c9 l9 r9 g9 t9 (m0 + i)).1), aI G (h 25) 64 ((F_L_keeps v9 s9 c9 l9 r9 g9 t9 (m0 + i)).2.1), aI G (h 26) 64 ((F_L_keeps v9 s9 c9 l9 r9 g9 t9 (m0 + i)).2.2.1), aI G (h 27) 64 ((F_L_keeps v9 s9 c9 l9 r9 g9 t9 (m0 + i)).2.2.2.1), aI G (h 28) 64 ((F_L_keeps v9 s9 c9 l9 r9 g9 t9 (m0 + i)).2.2.2.2.1), aI G (h 29) 64 ((F_L_keeps v9 s9 c9 l9 r9 g9 t9 (m0 + i)).2.2.2.2.2)]) (c_L_closes l G h (h 23) (e.1, e.2.1, e.2.2, nI np, nI n) ((LI_works e np n qf af mf (nI (m0 + i)) n 0 v9 d9).1) (m0 + i) hw (by omega)) S hK hW gL_works_L_closes rfl ⟨rfl, rfl⟩ nd_L_closes ⟨rfl, rfl⟩ [0, 5] [1, 2, 3, 4, 6, 7, 8, 9, 10, 11] rfl rfl rfl rfl (by decide) rfl hl.1 rfl dL_works_118 ⟨Nat.zero_le _, Nat.zero_le _⟩ (fun H locs hW => ?_)
          have hW : Wd G A sS.heap [aI G (h 19) 60 qf, aI G (h 20) 60 af, aI G (h 21) 60 mf, aI G (h 22) 60 ((LI_works e np n qf af mf (nI (m0 + i)) n 0 v9 d9).2), aI G (h 24) 64 ((F_L_keeps v9 s9 c9 l9 r9 g9 t9 (m0 + i)).1), aI G (h 25) 64 ((F_L_keeps v9 s9 c9 l9 r9 g9 t9 (m0 + i)).2.1), aI G (h 26) 64 ((F_L_keeps v9 s9 c9 l9 r9 g9 t9 (m0 + i)).2.2.1), aI G (h 27) 64 ((F_L_keeps v9 s9 c9 l9 r9 g9 t9 (m0 + i)).2.2.2.1), aI G (h 28) 64 ((F_L_keeps v9 s9 c9 l9 r9 g9 t9 (m0 + i)).2.2.2.2.1), aI G (h 29) 64 ((F_L_keeps v9 s9 c9 l9 r9 g9 t9 (m0 + i)).2.2.2.2.2), aI G (h 18) 5 (nF (e.1, e.2.1, e.2.2, nI np, nI n)), aI G (h 23) 7 (pF (F_L_closes (e.1, e.2.1, e.2.2, nI np, nI n) ((LI_works e np n qf af mf (nI (m0 + i)) n 0 v9 d9).1) (m0 + i)))] H locs := hW
          refine lv_iinc (v := (nI (m0 + i) + 1)) (lv' := [(13, .int (nI (m0 + i) + 1)), (14, .int (nI n)), (0, .ref (h 18)), (1, .ref (h 19)), (2, .ref (h 20)), (3, .ref (h 21)), (4, .ref (h 22)), (5, .ref (h 23)), (6, .ref (h 24)), (7, .ref (h 25)), (8, .ref (h 26)), (9, .ref (h 27)), (10, .ref (h 28)), (11, .ref (h 29)), (12, .int (nI m0))]) hx hb dL_works_121 hl (k := 1) rfl rfl (by decide) rfl (fun ls hl => ?_)
          refine lv_goto (tgt := 23) hx hb dL_works_124 (by decide) ?_
          have eS : LO_works e np n qf af mf m0 (d + 1) i d9 v9 s9 c9 l9 r9 g9 t9 = LO_works e np n qf af mf m0 d (i + 1) ((LI_works e np n qf af mf (nI (m0 + i)) n 0 v9 d9).2) (F_L_closes (e.1, e.2.1, e.2.2, nI np, nI n) ((LI_works e np n qf af mf (nI (m0 + i)) n 0 v9 d9).1) (m0 + i)) ((F_L_keeps v9 s9 c9 l9 r9 g9 t9 (m0 + i)).1) ((F_L_keeps v9 s9 c9 l9 r9 g9 t9 (m0 + i)).2.1) ((F_L_keeps v9 s9 c9 l9 r9 g9 t9 (m0 + i)).2.2.1) ((F_L_keeps v9 s9 c9 l9 r9 g9 t9 (m0 + i)).2.2.2.1) ((F_L_keeps v9 s9 c9 l9 r9 g9 t9 (m0 + i)).2.2.2.2.1) ((F_L_keeps v9 s9 c9 l9 r9 g9 t9 (m0 + i)).2.2.2.2.2) := by
            rw [LO_works, if_neg c_7]
          rw [nI_1] at hl
          exact ih (i + 1) ((LI_works e np n qf af mf (nI (m0 + i)) n 0 v9 d9).2) (F_L_closes (e.1, e.2.1, e.2.2, nI np, nI n) ((LI_works e np n qf af mf (nI (m0 + i)) n 0 v9 d9).1) (m0 + i)) ((F_L_keeps v9 s9 c9 l9 r9 g9 t9 (m0 + i)).1) ((F_L_keeps v9 s9 c9 l9 r9 g9 t9 (m0 + i)).2.1) ((F_L_keeps v9 s9 c9 l9 r9 g9 t9 (m0 + i)).2.2.1) ((F_L_keeps v9 s9 c9 l9 r9 g9 t9 (m0 + i)).2.2.2.1) ((F_L_keeps v9 s9 c9 l9 r9 g9 t9 (m0 + i)).2.2.2.2.1) ((F_L_keeps v9 s9 c9 l9 r9 g9 t9 (m0 + i)).2.2.2.2.2) (by omega) (eS.symm.trans hF) _ _ _ (hW.re [10, 0, 1, 2, 3, 11, 4, 5, 6, 7, 8, 9] rfl rfl) (lv_sub hl [0, 2, 3, 4, 5, 6, 7, 8, 9, 10, 11, 12, 13, 14] rfl)
  refine lv_aload hx hb dL_works_0 (lv_at hl 5 rfl) ?_
  refine lv_aload hx hb dL_works_2 (lv_at hl 6 rfl) ?_
  refine lv_aload hx hb dL_works_4 (lv_at hl 7 rfl) ?_
  refine lv_aload hx hb dL_works_6 (lv_at hl 8 rfl) ?_
  refine lv_aload hx hb dL_works_8 (lv_at hl 9 rfl) ?_
  refine lv_aload hx hb dL_works_10 (lv_at hl 10 rfl) ?_
  refine lv_aload hx hb dL_works_12 (lv_at hl 11 rfl) ?_
  refine lv_iload hx hb dL_works_14 (lv_at hl 12 rfl) ?_
  refine k_callSv (As := [.ref (h 23), .ref (h 24), .ref (h 25), .ref (h 26), .ref (h 27), .ref (h 28), .ref (h 29), .int (nI m0)]) (rest := []) (wr := [aI G (h 18) 5 (nF (e.1, e.2.1, e.2.2, nI np, nI n)), aI G (h 19) 60 qf, aI G (h 20) 60 af, aI G (h 21) 60 mf, aI G (h 22) 60 df]) (c_L_takes l G h v sf cf lf rf gf tf m0 (by omega)) S hK hW gL_works_L_takes rfl ⟨rfl, rfl⟩ nd_L_takes ⟨rfl, rfl⟩ [5, 6, 7, 8, 9, 10, 11] [0, 1, 2, 3, 4] rfl rfl rfl rfl (by decide) rfl hl.1 rfl dL_works_16 ⟨Nat.zero_le _, Nat.zero_le _⟩ (fun H locs hW => ?_)
  have hW : Wd G A sS.heap [aI G (h 18) 5 (nF (e.1, e.2.1, e.2.2, nI np, nI n)), aI G (h 19) 60 qf, aI G (h 20) 60 af, aI G (h 21) 60 mf, aI G (h 22) 60 df, aI G (h 23) 7 (pF (F_L_takes sf cf lf rf gf tf m0)), aI G (h 24) 64 sf, aI G (h 25) 64 cf, aI G (h 26) 64 lf, aI G (h 27) 64 rf, aI G (h 28) 64 gf, aI G (h 29) 64 tf] H locs := hW
  refine lv_iload hx hb dL_works_19 (lv_at hl 12 rfl) ?_
  refine lv_istore (lv' := [(13, .int (nI m0)), (0, .ref (h 18)), (1, .ref (h 19)), (2, .ref (h 20)), (3, .ref (h 21)), (4, .ref (h 22)), (5, .ref (h 23)), (6, .ref (h 24)), (7, .ref (h 25)), (8, .ref (h 26)), (9, .ref (h 27)), (10, .ref (h 28)), (11, .ref (h 29)), (12, .int (nI m0))]) hx hb dL_works_21 hl (by decide) rfl (fun ls hl => ?_)
  exact key (np + 1 - m0) 0 df (F_L_takes sf cf lf rf gf tf m0) sf cf lf rf gf tf (by omega) rfl _ _ _ (hW.re [0, 1, 2, 3, 4, 5, 6, 7, 8, 9, 10, 11] rfl rfl) (lv_sub hl [0, 1, 2, 3, 4, 5, 6, 7, 8, 9, 10, 11, 12, 13] rfl)
def Lp_L_lapses (e : S3) (np : Nat) (n : Nat) : Nat → Nat → S7 → Int32
  | 0, i, v9 => (-1)
  | d + 1, i, v9 => if (F_L_closes (e.1, e.2.1, e.2.2, nI np, nI n) v9 (np + i)).1 = 2 then ((nI np + nI i) + 1)
  else Lp_L_lapses e np n d (i + 1) (F_L_closes (e.1, e.2.1, e.2.2, nI np, nI n) v9 (np + i))
def F_L_lapses (e : S3) (v : S7) (x : Int32) (np : Nat) (n : Nat) (w9 : Nat) : Int32 :=
  if x ≤ 0 then Lp_L_lapses e np n w9 0 v
  else (if bI ((F_L_acts (e.1, e.2.1, e.2.2, nI np, nI n) v 0 x (nI np)).1) = 0 then Lp_L_lapses e np n w9 0 ((F_L_acts (e.1, e.2.1, e.2.2, nI np, nI n) v 0 x (nI np)).2)
    else Lp_L_lapses e np n w9 0 ((F_L_acts (e.1, e.2.1, e.2.2, nI np, nI n) v 0 x (nI np)).2))
set_option maxRecDepth 100000 in
theorem k_L_lapses_acI : Cond.arrayClass .int ∈ wsL_lapses := by decide +kernel
theorem nd_L_lapses : yL_lapses.cls ≠ "java/lang/invoke/MethodHandle" ∧ yL_lapses.cls ≠ "java/lang/invoke/VarHandle" ∧ (parseMethodDescriptor yL_lapses.desc).map (fun d => d.parameters.length) = some 4 := by decide +kernel
abbrev rm_L_lapses : Room := { frames := 4, cells := 1, slots := 7, locals := 106 }
set_option maxHeartbeats 4000000 in
set_option maxRecDepth 100000 in
theorem c_L_lapses (l : Launch) (G : GG) (h : Nat → Nat) (e : S3) (v : S7) (x : Int32) (np : Nat) (n : Nat) (w9 : Nat)  (hw : AG (e.1, e.2.1, e.2.2, nI np, nI n)) (hp : np ≤ 120) (hw9 : w9 ≤ 120) : CM l G yL_lapses wsL_lapses rm_L_lapses [.ref (h 18), .ref (h 23), .int (nI w9), .int x] [aI G (h 18) 5 (nF (e.1, e.2.1, e.2.2, nI np, nI n)), aI G (h 23) 7 (pF v)] (F_L_lapses e v x np n w9) [aI G (h 18) 5 (nF (e.1, e.2.1, e.2.2, nI np, nI n)), aI G (h 23) 7 (pF v)] 1 7 := by
  refine CM_of (own := RL) (by decide +kernel) rfl rfl (Nat.le_of_ble_eq_true rfl) ?_
  intro pP eE sS mM args below meth cC A S hK hr hlk hmn hW ls hl
  have hx := S.1
  have hb := S.2.1
  have hl : lv_has ls 7 [(0, .ref (h 18)), (1, .ref (h 23)), (2, .int (nI w9)), (3, .int x)] := hl
  have hW : Wd G A sS.heap [aI G (h 18) 5 (nF (e.1, e.2.1, e.2.2, nI np, nI n)), aI G (h 23) 7 (pF v)] sS.heap [] := hW
  have key : ∀ (d i : Nat) (q2 : Nat) (v9 : S7), i + d = w9 → Lp_L_lapses e np n d i v9 = (F_L_lapses e v x np n w9) → ∀ (H : Heap) (locs : List Loc) (ls : Array Slot), Wd G A sS.heap [aI G (h 18) 5 (nF (e.1, e.2.1, e.2.2, nI np, nI n)), aI G (h 23) 7 (pF v), aI G q2 7 (pF v9)] H locs → lv_has ls 7 [(6, .int (nI i)), (4, .ref q2), (0, .ref (h 18)), (1, .ref (h 23)), (2, .int (nI w9))] → W pP l eE rm_L_lapses sS mM args below meth cC H locs 1 7 (MQ below (QI G A (F_L_lapses e v x np n w9) [aI G (h 18) 5 (nF (e.1, e.2.1, e.2.2, nI np, nI n)), aI G (h 23) 7 (pF v)]) args sS 1 7 A) (F0 mM 59 ls []) := by
    intro d
    induction d with
    | zero =>
      intro i q2 v9 hi hF H locs ls hW hl
      have hc : nI w9 ≤ nI i := nI_le (by omega) (by omega)
      refine lv_iload hx hb dL_lapses_59 (lv_at hl 0 rfl) ?_
      refine lv_iload_n hx hb dL_lapses_61 rfl (lv_at hl 4 rfl) ?_
      refine lv_icmp_ge (tgt := 100) hx hb dL_lapses_62 (by decide) (fun c_1 => ?_) (fun c_1 => ?_)
      ·
        refine lv_iconst (v := (-1)) hx hb dL_lapses_100 (by decide) ?_
        have eF : (F_L_lapses e v x np n w9) = (-1) := hF.symm.trans (by
          rw [Lp_L_lapses])
        exact k_iret (wf := [aI G (h 18) 5 (nF (e.1, e.2.1, e.2.2, nI np, nI n)), aI G (h 23) 7 (pF v)]) S hr hlk hK hW [0, 1] rfl rfl rfl (congrArg (fun (z : Int32) => z) eF).symm dL_lapses_101
      ·
        exact absurd hc c_1
    | succ d ih =>
      intro i q2 v9 hi hF H locs ls hW hl
      have hc : ¬ nI w9 ≤ nI i := nI_ge (by omega) (by omega)
      refine lv_iload hx hb dL_lapses_59 (lv_at hl 0 rfl) ?_
      refine lv_iload_n hx hb dL_lapses_61 rfl (lv_at hl 4 rfl) ?_
      refine lv_icmp_ge (tgt := 100) hx hb dL_lapses_62 (by decide) (fun c_2 => ?_) (fun c_2 => ?_)
      ·
        exact absurd c_2 hc
      ·
        refine lv_aload_n hx hb dL_lapses_65 rfl (lv_at hl 2 rfl) ?_
        refine lv_aload hx hb dL_lapses_66 (lv_at hl 1 rfl) ?_
        refine lv_aload_n hx hb dL_lapses_68 rfl (lv_at hl 2 rfl) ?_
        refine lv_iconst (v := 3) hx hb dL_lapses_69 (by decide) ?_
        refine k_vld S hK hW 0 rfl (i := 3) (k := 3) (x := (nI np)) vi5_3 ix_3 rfl dL_lapses_70 ?_
        refine lv_iload hx hb dL_lapses_71 (lv_at hl 0 rfl) ?_
        refine lv_iadd hx hb dL_lapses_73 ?_
        rw [nI_add np i]
        refine k_callSv (As := [.ref (h 18), .ref q2, .int (nI (np + i))]) (rest := []) (wr := [aI G (h 23) 7 (pF v)]) (c_L_closes l G h q2 (e.1, e.2.1, e.2.2, nI np, nI n) v9 (np + i) hw (by omega)) S hK hW gL_lapses_L_closes rfl ⟨rfl, rfl⟩ nd_L_closes ⟨rfl, rfl⟩ [0, 2] [1] rfl rfl rfl rfl (by decide) rfl hl.1 rfl dL_lapses_74 ⟨Nat.le_refl _, Nat.le_refl _⟩ (fun H locs hW => ?_)
        have hW : Wd G A sS.heap [aI G (h 23) 7 (pF v), aI G (h 18) 5 (nF (e.1, e.2.1, e.2.2, nI np, nI n)), aI G q2 7 (pF (F_L_closes (e.1, e.2.1, e.2.2, nI np, nI n) v9 (np + i)))] H locs := hW
        refine lv_aload hx hb dL_lapses_77 (lv_at hl 1 rfl) ?_
        refine lv_iconst (v := 0) hx hb dL_lapses_79 (by decide) ?_
        refine k_vld S hK hW 2 rfl (i := 0) (k := 0) (x := ((F_L_closes (e.1, e.2.1, e.2.2, nI np, nI n) v9 (np + i)).1)) vi7_0 ix_0 rfl dL_lapses_80 ?_
        refine lv_iconst (v := 2) hx hb dL_lapses_81 (by decide) ?_
        refine lv_icmp_ne (tgt := 94) hx hb dL_lapses_82 (by decide) (fun c_3 => ?_) (fun c_3 => ?_)
        ·
          refine lv_iinc (v := (nI i + 1)) (lv' := [(6, .int (nI i + 1)), (4, .ref q2), (0, .ref (h 18)), (1, .ref (h 23)), (2, .int (nI w9))]) hx hb dL_lapses_94 hl (k := 0) rfl rfl (by decide) rfl (fun ls hl => ?_)
          refine lv_goto (tgt := 59) hx hb dL_lapses_97 (by decide) ?_
          have eS : Lp_L_lapses e np n (d + 1) i v9 = Lp_L_lapses e np n d (i + 1) (F_L_closes (e.1, e.2.1, e.2.2, nI np, nI n) v9 (np + i)) := by
            rw [Lp_L_lapses, if_neg c_3]
          have hl : lv_has ls 7 [(6, .int (nI (i + 1))), (4, .ref q2), (0, .ref (h 18)), (1, .ref (h 23)), (2, .int (nI w9))] := by
            first | exact lv_sub hl [0, 1, 2, 3, 4] rfl | (rw [← nI_1]; exact lv_sub hl [0, 1, 2, 3, 4] rfl)
          exact ih (i + 1) q2 (F_L_closes (e.1, e.2.1, e.2.2, nI np, nI n) v9 (np + i)) (by omega) (eS.symm.trans hF) _ _ _ (hW.re [1, 0, 2] rfl rfl) hl
        ·
          refine lv_aload_n hx hb dL_lapses_85 rfl (lv_at hl 2 rfl) ?_
          refine lv_iconst (v := 3) hx hb dL_lapses_86 (by decide) ?_
          refine k_vld S hK hW 1 rfl (i := 3) (k := 3) (x := (nI np)) vi5_3 ix_3 rfl dL_lapses_87 ?_
          refine lv_iload hx hb dL_lapses_88 (lv_at hl 0 rfl) ?_
          refine lv_iadd hx hb dL_lapses_90 ?_
          refine lv_iconst (v := 1) hx hb dL_lapses_91 (by decide) ?_
          refine lv_iadd hx hb dL_lapses_92 ?_
          have eF : (F_L_lapses e v x np n w9) = ((nI np + nI i) + 1) := hF.symm.trans (by
            rw [Lp_L_lapses, if_pos c_3])
          exact k_iret (wf := [aI G (h 18) 5 (nF (e.1, e.2.1, e.2.2, nI np, nI n)), aI G (h 23) 7 (pF v)]) S hr hlk hK hW [1, 0] rfl rfl rfl (congrArg (fun (z : Int32) => z) eF).symm dL_lapses_93
  refine lv_bipush (v := 7) hx hb dL_lapses_0 (by decide) ?_
  refine k_newaI S hK hW k_L_lapses_acI 7 (by decide) rfl rfl rfl rfl dL_lapses_2 (fun q2 H hW => ?_)
  have hW : Wd G A sS.heap [aI G (h 18) 5 (nF (e.1, e.2.1, e.2.2, nI np, nI n)), aI G (h 23) 7 (pF v), aI G q2 7 (pF (0, 0, 0, 0, 0, 0, 0))] H [] := by rw [pF_z]; exact hW
  refine lv_astore (lv' := [(4, .ref q2), (0, .ref (h 18)), (1, .ref (h 23)), (2, .int (nI w9)), (3, .int x)]) hx hb dL_lapses_4 hl (by decide) rfl (fun ls hl => ?_)
  refine lv_iconst (v := 0) hx hb dL_lapses_6 (by decide) ?_
  refine lv_istore (lv' := [(5, .int 0), (4, .ref q2), (0, .ref (h 18)), (1, .ref (h 23)), (2, .int (nI w9)), (3, .int x)]) hx hb dL_lapses_7 hl (by decide) rfl (fun ls hl => ?_)
  refine lv_iload hx hb dL_lapses_9 (lv_at hl 0 rfl) ?_
  refine lv_bipush (v := 7) hx hb dL_lapses_11 (by decide) ?_
  refine lv_icmp_ge (tgt := 31) hx hb dL_lapses_13 (by decide) (fun c_4 => ?_) (fun c_4 => ?_)
  ·
    exact absurd c_4 (by decide)
  ·
    refine lv_aload hx hb dL_lapses_16 (lv_at hl 1 rfl) ?_
    refine lv_iload hx hb dL_lapses_18 (lv_at hl 0 rfl) ?_
    refine lv_aload_n hx hb dL_lapses_20 rfl (lv_at hl 3 rfl) ?_
    refine lv_iload hx hb dL_lapses_21 (lv_at hl 0 rfl) ?_
    refine k_vld S hK hW 1 rfl (i := 0) (k := 0) (x := v.1) vi7_0 ix_0 rfl dL_lapses_23 ?_
    refine k_vst (f' := pF (v.1, 0, 0, 0, 0, 0, 0)) (ws' := [aI G (h 18) 5 (nF (e.1, e.2.1, e.2.2, nI np, nI n)), aI G (h 23) 7 (pF v), aI G q2 7 (pF (v.1, 0, 0, 0, 0, 0, 0))]) S hK hW 2 rfl (i := 0) (k := 0) vi7_0 ix_0 (up_p0 _ _) rfl dL_lapses_24 (fun H locs hW => ?_)
    refine lv_iinc (v := 1) (lv' := [(5, .int 1), (4, .ref q2), (0, .ref (h 18)), (1, .ref (h 23)), (2, .int (nI w9)), (3, .int x)]) hx hb dL_lapses_25 hl (k := 0) rfl rfl (by decide) rfl (fun ls hl => ?_)
    refine lv_goto (tgt := 9) hx hb dL_lapses_28 (by decide) ?_
    refine lv_iload hx hb dL_lapses_9 (lv_at hl 0 rfl) ?_
    refine lv_bipush (v := 7) hx hb dL_lapses_11 (by decide) ?_
    refine lv_icmp_ge (tgt := 31) hx hb dL_lapses_13 (by decide) (fun c_5 => ?_) (fun c_5 => ?_)
    ·
      exact absurd c_5 (by decide)
    ·
      refine lv_aload hx hb dL_lapses_16 (lv_at hl 1 rfl) ?_
      refine lv_iload hx hb dL_lapses_18 (lv_at hl 0 rfl) ?_
      refine lv_aload_n hx hb dL_lapses_20 rfl (lv_at hl 3 rfl) ?_
      refine lv_iload hx hb dL_lapses_21 (lv_at hl 0 rfl) ?_
      refine k_vld S hK hW 1 rfl (i := 1) (k := 1) (x := v.2.1) vi7_1 ix_1 rfl dL_lapses_23 ?_
      refine k_vst (f' := pF (v.1, v.2.1, 0, 0, 0, 0, 0)) (ws' := [aI G (h 18) 5 (nF (e.1, e.2.1, e.2.2, nI np, nI n)), aI G (h 23) 7 (pF v), aI G q2 7 (pF (v.1, v.2.1, 0, 0, 0, 0, 0))]) S hK hW 2 rfl (i := 1) (k := 1) vi7_1 ix_1 (up_p1 _ _) rfl dL_lapses_24 (fun H locs hW => ?_)
      refine lv_iinc (v := 2) (lv' := [(5, .int 2), (4, .ref q2), (0, .ref (h 18)), (1, .ref (h 23)), (2, .int (nI w9)), (3, .int x)]) hx hb dL_lapses_25 hl (k := 0) rfl rfl (by decide) rfl (fun ls hl => ?_)
      refine lv_goto (tgt := 9) hx hb dL_lapses_28 (by decide) ?_
      refine lv_iload hx hb dL_lapses_9 (lv_at hl 0 rfl) ?_
      refine lv_bipush (v := 7) hx hb dL_lapses_11 (by decide) ?_
      refine lv_icmp_ge (tgt := 31) hx hb dL_lapses_13 (by decide) (fun c_6 => ?_) (fun c_6 => ?_)
      ·
        exact absurd c_6 (by decide)
      ·
        refine lv_aload hx hb dL_lapses_16 (lv_at hl 1 rfl) ?_
        refine lv_iload hx hb dL_lapses_18 (lv_at hl 0 rfl) ?_
        refine lv_aload_n hx hb dL_lapses_20 rfl (lv_at hl 3 rfl) ?_
        refine lv_iload hx hb dL_lapses_21 (lv_at hl 0 rfl) ?_
        refine k_vld S hK hW 1 rfl (i := 2) (k := 2) (x := v.2.2.1) vi7_2 ix_2 rfl dL_lapses_23 ?_
        refine k_vst (f' := pF (v.1, v.2.1, v.2.2.1, 0, 0, 0, 0)) (ws' := [aI G (h 18) 5 (nF (e.1, e.2.1, e.2.2, nI np, nI n)), aI G (h 23) 7 (pF v), aI G q2 7 (pF (v.1, v.2.1, v.2.2.1, 0, 0, 0, 0))]) S hK hW 2 rfl (i := 2) (k := 2) vi7_2 ix_2 (up_p2 _ _) rfl dL_lapses_24 (fun H locs hW => ?_)
        refine lv_iinc (v := 3) (lv' := [(5, .int 3), (4, .ref q2), (0, .ref (h 18)), (1, .ref (h 23)), (2, .int (nI w9)), (3, .int x)]) hx hb dL_lapses_25 hl (k := 0) rfl rfl (by decide) rfl (fun ls hl => ?_)
        refine lv_goto (tgt := 9) hx hb dL_lapses_28 (by decide) ?_
        refine lv_iload hx hb dL_lapses_9 (lv_at hl 0 rfl) ?_
        refine lv_bipush (v := 7) hx hb dL_lapses_11 (by decide) ?_
        refine lv_icmp_ge (tgt := 31) hx hb dL_lapses_13 (by decide) (fun c_7 => ?_) (fun c_7 => ?_)
        ·
          exact absurd c_7 (by decide)
        ·
          refine lv_aload hx hb dL_lapses_16 (lv_at hl 1 rfl) ?_
          refine lv_iload hx hb dL_lapses_18 (lv_at hl 0 rfl) ?_
          refine lv_aload_n hx hb dL_lapses_20 rfl (lv_at hl 3 rfl) ?_
          refine lv_iload hx hb dL_lapses_21 (lv_at hl 0 rfl) ?_
          refine k_vld S hK hW 1 rfl (i := 3) (k := 3) (x := v.2.2.2.1) vi7_3 ix_3 rfl dL_lapses_23 ?_
          refine k_vst (f' := pF (v.1, v.2.1, v.2.2.1, v.2.2.2.1, 0, 0, 0)) (ws' := [aI G (h 18) 5 (nF (e.1, e.2.1, e.2.2, nI np, nI n)), aI G (h 23) 7 (pF v), aI G q2 7 (pF (v.1, v.2.1, v.2.2.1, v.2.2.2.1, 0, 0, 0))]) S hK hW 2 rfl (i := 3) (k := 3) vi7_3 ix_3 (up_p3 _ _) rfl dL_lapses_24 (fun H locs hW => ?_)
          refine lv_iinc (v := 4) (lv' := [(5, .int 4), (4, .ref q2), (0, .ref (h 18)), (1, .ref (h 23)), (2, .int (nI w9)), (3, .int x)]) hx hb dL_lapses_25 hl (k := 0) rfl rfl (by decide) rfl (fun ls hl => ?_)
          refine lv_goto (tgt := 9) hx hb dL_lapses_28 (by decide) ?_
          refine lv_iload hx hb dL_lapses_9 (lv_at hl 0 rfl) ?_
          refine lv_bipush (v := 7) hx hb dL_lapses_11 (by decide) ?_
          refine lv_icmp_ge (tgt := 31) hx hb dL_lapses_13 (by decide) (fun c_8 => ?_) (fun c_8 => ?_)
          ·
            exact absurd c_8 (by decide)
          ·
            refine lv_aload hx hb dL_lapses_16 (lv_at hl 1 rfl) ?_
            refine lv_iload hx hb dL_lapses_18 (lv_at hl 0 rfl) ?_
            refine lv_aload_n hx hb dL_lapses_20 rfl (lv_at hl 3 rfl) ?_
            refine lv_iload hx hb dL_lapses_21 (lv_at hl 0 rfl) ?_
            refine k_vld S hK hW 1 rfl (i := 4) (k := 4) (x := v.2.2.2.2.1) vi7_4 ix_4 rfl dL_lapses_23 ?_
            refine k_vst (f' := pF (v.1, v.2.1, v.2.2.1, v.2.2.2.1, v.2.2.2.2.1, 0, 0)) (ws' := [aI G (h 18) 5 (nF (e.1, e.2.1, e.2.2, nI np, nI n)), aI G (h 23) 7 (pF v), aI G q2 7 (pF (v.1, v.2.1, v.2.2.1, v.2.2.2.1, v.2.2.2.2.1, 0, 0))]) S hK hW 2 rfl (i := 4) (k := 4) vi7_4 ix_4 (up_p4 _ _) rfl dL_lapses_24 (fun H locs hW => ?_)
            refine lv_iinc (v := 5) (lv' := [(5, .int 5), (4, .ref q2), (0, .ref (h 18)), (1, .ref (h 23)), (2, .int (nI w9)), (3, .int x)]) hx hb dL_lapses_25 hl (k := 0) rfl rfl (by decide) rfl (fun ls hl => ?_)
            refine lv_goto (tgt := 9) hx hb dL_lapses_28 (by decide) ?_
            refine lv_iload hx hb dL_lapses_9 (lv_at hl 0 rfl) ?_
            refine lv_bipush (v := 7) hx hb dL_lapses_11 (by decide) ?_
            refine lv_icmp_ge (tgt := 31) hx hb dL_lapses_13 (by decide) (fun c_9 => ?_) (fun c_9 => ?_)
            ·
              exact absurd c_9 (by decide)
            ·
              refine lv_aload hx hb dL_lapses_16 (lv_at hl 1 rfl) ?_
              refine lv_iload hx hb dL_lapses_18 (lv_at hl 0 rfl) ?_
              refine lv_aload_n hx hb dL_lapses_20 rfl (lv_at hl 3 rfl) ?_
              refine lv_iload hx hb dL_lapses_21 (lv_at hl 0 rfl) ?_
              refine k_vld S hK hW 1 rfl (i := 5) (k := 5) (x := v.2.2.2.2.2.1) vi7_5 ix_5 rfl dL_lapses_23 ?_
              refine k_vst (f' := pF (v.1, v.2.1, v.2.2.1, v.2.2.2.1, v.2.2.2.2.1, v.2.2.2.2.2.1, 0)) (ws' := [aI G (h 18) 5 (nF (e.1, e.2.1, e.2.2, nI np, nI n)), aI G (h 23) 7 (pF v), aI G q2 7 (pF (v.1, v.2.1, v.2.2.1, v.2.2.2.1, v.2.2.2.2.1, v.2.2.2.2.2.1, 0))]) S hK hW 2 rfl (i := 5) (k := 5) vi7_5 ix_5 (up_p5 _ _) rfl dL_lapses_24 (fun H locs hW => ?_)
              refine lv_iinc (v := 6) (lv' := [(5, .int 6), (4, .ref q2), (0, .ref (h 18)), (1, .ref (h 23)), (2, .int (nI w9)), (3, .int x)]) hx hb dL_lapses_25 hl (k := 0) rfl rfl (by decide) rfl (fun ls hl => ?_)
              refine lv_goto (tgt := 9) hx hb dL_lapses_28 (by decide) ?_
              refine lv_iload hx hb dL_lapses_9 (lv_at hl 0 rfl) ?_
              refine lv_bipush (v := 7) hx hb dL_lapses_11 (by decide) ?_
              refine lv_icmp_ge (tgt := 31) hx hb dL_lapses_13 (by decide) (fun c_10 => ?_) (fun c_10 => ?_)
              ·
                exact absurd c_10 (by decide)
              ·
                refine lv_aload hx hb dL_lapses_16 (lv_at hl 1 rfl) ?_
                refine lv_iload hx hb dL_lapses_18 (lv_at hl 0 rfl) ?_
                refine lv_aload_n hx hb dL_lapses_20 rfl (lv_at hl 3 rfl) ?_
                refine lv_iload hx hb dL_lapses_21 (lv_at hl 0 rfl) ?_
                refine k_vld S hK hW 1 rfl (i := 6) (k := 6) (x := v.2.2.2.2.2.2) vi7_6 ix_6 rfl dL_lapses_23 ?_
                refine k_vst (f' := pF v) (ws' := [aI G (h 18) 5 (nF (e.1, e.2.1, e.2.2, nI np, nI n)), aI G (h 23) 7 (pF v), aI G q2 7 (pF v)]) S hK hW 2 rfl (i := 6) (k := 6) vi7_6 ix_6 (up_p6 _ _) rfl dL_lapses_24 (fun H locs hW => ?_)
                refine lv_iinc (v := 7) (lv' := [(5, .int 7), (4, .ref q2), (0, .ref (h 18)), (1, .ref (h 23)), (2, .int (nI w9)), (3, .int x)]) hx hb dL_lapses_25 hl (k := 0) rfl rfl (by decide) rfl (fun ls hl => ?_)
                refine lv_goto (tgt := 9) hx hb dL_lapses_28 (by decide) ?_
                refine lv_iload hx hb dL_lapses_9 (lv_at hl 0 rfl) ?_
                refine lv_bipush (v := 7) hx hb dL_lapses_11 (by decide) ?_
                refine lv_icmp_ge (tgt := 31) hx hb dL_lapses_13 (by decide) (fun c_11 => ?_) (fun c_11 => ?_)
                ·
                  refine lv_iload_n hx hb dL_lapses_31 rfl (lv_at hl 5 rfl) ?_
                  refine lv_if_le (tgt := 53) hx hb dL_lapses_32 (by decide) (fun c_12 => ?_) (fun c_12 => ?_)
                  ·
                    refine lv_iconst (v := 0) hx hb dL_lapses_53 (by decide) ?_
                    refine lv_istore (lv' := [(5, .int 0), (4, .ref q2), (0, .ref (h 18)), (1, .ref (h 23)), (2, .int (nI w9)), (3, .int x)]) hx hb dL_lapses_54 hl (by decide) rfl (fun ls hl => ?_)
                    refine lv_iconst (v := 0) hx hb dL_lapses_56 (by decide) ?_
                    refine lv_istore (lv' := [(6, .int 0), (5, .int 0), (4, .ref q2), (0, .ref (h 18)), (1, .ref (h 23)), (2, .int (nI w9)), (3, .int x)]) hx hb dL_lapses_57 hl (by decide) rfl (fun ls hl => ?_)
                    have eF : (F_L_lapses e v x np n w9) = Lp_L_lapses e np n w9 0 v := by
                      unfold F_L_lapses
                      rw [if_pos c_12]
                    exact key w9 0 q2 v (by omega) eF.symm _ _ _ (hW.re [0, 1, 2] rfl rfl) (lv_sub hl [0, 2, 3, 4, 5] (by rw [nI_0] <;> rfl))
                  ·
                    refine lv_aload_n hx hb dL_lapses_35 rfl (lv_at hl 2 rfl) ?_
                    refine lv_aload hx hb dL_lapses_36 (lv_at hl 1 rfl) ?_
                    refine lv_iconst (v := 0) hx hb dL_lapses_38 (by decide) ?_
                    refine lv_iload_n hx hb dL_lapses_39 rfl (lv_at hl 5 rfl) ?_
                    refine lv_aload_n hx hb dL_lapses_40 rfl (lv_at hl 2 rfl) ?_
                    refine lv_iconst (v := 3) hx hb dL_lapses_41 (by decide) ?_
                    refine k_vld S hK hW 0 rfl (i := 3) (k := 3) (x := (nI np)) vi5_3 ix_3 rfl dL_lapses_42 ?_
                    refine k_callSi (As := [.ref (h 18), .ref q2, .int 0, .int x, .int (nI np)]) (rest := []) (wr := [aI G (h 23) 7 (pF v)]) (c_L_acts l G h q2 (e.1, e.2.1, e.2.2, nI np, nI n) v 0 x (nI np)) S hK hW gL_lapses_L_acts rfl ⟨rfl, rfl⟩ nd_L_acts ⟨rfl, rfl⟩ [0, 2] [1] rfl rfl rfl rfl (by decide) rfl hl.1 rfl dL_lapses_43 ⟨Nat.le_refl _, Nat.le_refl _⟩ (fun H locs hW => ?_)
                    have hW : Wd G A sS.heap [aI G (h 23) 7 (pF v), aI G (h 18) 5 (nF (e.1, e.2.1, e.2.2, nI np, nI n)), aI G q2 7 (pF ((F_L_acts (e.1, e.2.1, e.2.2, nI np, nI n) v 0 x (nI np)).2))] H locs := hW
                    refine lv_if_eq (tgt := 53) hx hb dL_lapses_46 (by decide) (fun c_13 => ?_) (fun c_13 => ?_)
                    ·
                      refine lv_iconst (v := 0) hx hb dL_lapses_53 (by decide) ?_
                      refine lv_istore (lv' := [(5, .int 0), (4, .ref q2), (0, .ref (h 18)), (1, .ref (h 23)), (2, .int (nI w9)), (3, .int x)]) hx hb dL_lapses_54 hl (by decide) rfl (fun ls hl => ?_)
                      refine lv_iconst (v := 0) hx hb dL_lapses_56 (by decide) ?_
                      refine lv_istore (lv' := [(6, .int 0), (5, .int 0), (4, .ref q2), (0, .ref (h 18)), (1, .ref (h 23)), (2, .int (nI w9)), (3, .int x)]) hx hb dL_lapses_57 hl (by decide) rfl (fun ls hl => ?_)
                      have eF : (F_L_lapses e v x np n w9) = Lp_L_lapses e np n w9 0 ((F_L_acts (e.1, e.2.1, e.2.2, nI np, nI n) v 0 x (nI np)).2) := by
                        unfold F_L_lapses
                        rw [if_neg c_12, if_pos c_13]
                      exact key w9 0 q2 ((F_L_acts (e.1, e.2.1, e.2.2, nI np, nI n) v 0 x (nI np)).2) (by omega) eF.symm _ _ _ (hW.re [1, 0, 2] rfl rfl) (lv_sub hl [0, 2, 3, 4, 5] (by rw [nI_0] <;> rfl))
                    ·
                      refine lv_iconst (v := 1) hx hb dL_lapses_49 (by decide) ?_
                      refine lv_goto (tgt := 54) hx hb dL_lapses_50 (by decide) ?_
                      refine lv_istore (lv' := [(5, .int 1), (4, .ref q2), (0, .ref (h 18)), (1, .ref (h 23)), (2, .int (nI w9)), (3, .int x)]) hx hb dL_lapses_54 hl (by decide) rfl (fun ls hl => ?_)
                      refine lv_iconst (v := 0) hx hb dL_lapses_56 (by decide) ?_
                      refine lv_istore (lv' := [(6, .int 0), (5, .int 1), (4, .ref q2), (0, .ref (h 18)), (1, .ref (h 23)), (2, .int (nI w9)), (3, .int x)]) hx hb dL_lapses_57 hl (by decide) rfl (fun ls hl => ?_)
                      have eF : (F_L_lapses e v x np n w9) = Lp_L_lapses e np n w9 0 ((F_L_acts (e.1, e.2.1, e.2.2, nI np, nI n) v 0 x (nI np)).2) := by
                        unfold F_L_lapses
                        rw [if_neg c_12, if_neg c_13]
                      exact key w9 0 q2 ((F_L_acts (e.1, e.2.1, e.2.2, nI np, nI n) v 0 x (nI np)).2) (by omega) eF.symm _ _ _ (hW.re [1, 0, 2] rfl rfl) (lv_sub hl [0, 2, 3, 4, 5] (by rw [nI_0] <;> rfl))
                ·
                  exact absurd c_11 (by decide)
