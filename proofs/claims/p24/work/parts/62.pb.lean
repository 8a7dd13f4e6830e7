set_option maxHeartbeats 8000000 in
set_option maxRecDepth 100000 in
theorem pB_L_isPolicy {pP : Program} {l : Launch} {eE : Env} {sS : State} {mM : MethodId} {args : Array Value} {below : List Frame} {meth : Method} {cC : Code} {Q : State → Prop} {G : GG} {A : Nat → Prop} {h : Nat → Nat} {np n xx : Nat} {q : S3} {mo ki am : N32} {sk dn : Nat → Bool} {y1 y2 y3 y4 y5 y6 y7 : N32} {v : S7} {qf af mf df sf cf lf rf gf tf : N32} {w : S7} (hst : l.stackTraces = false) (S : CallFix pP mM cC cL_isPolicy 14 sS args wsL_isPolicy RL) (hK : Kn G sS) (hXE : XE sS) (hXZ : XZ A sS sS.heap) (I : Inv np n q mo ki am sk (dn, y1, y2, y3, y4, y5, y6, y7, v)) (L : LInv np n q mo ki am sk qf af mf df sf cf lf rf gf tf w) (hnp : np ≤ 61) (hxx : xx < 2 ^ 31) (ru : Int32) (K : ∀ (H : Heap) (locs : List Loc) (ls : Array Slot) (tr : S7), Wd G A sS.heap [cF h (nI np), cP (h 1) q, cB h (nI n), cH h, cS (h 4) v, cS (h 5) tr, aI G (h 6) 60 mo, aI G (h 7) 60 ki, aI G (h 8) 60 am, aZ G (h 9) 60 sk, aZ G (h 10) 60 dn, aI G (h 11) 121 y1, aI G (h 12) 121 y2, aI G (h 13) 121 y3, aI G (h 14) 121 y4, aI G (h 15) 121 y5, aI G (h 16) 121 y6, aI G (h 17) 121 y7, aI G (h 18) 5 (nF (q.1, q.2.1, q.2.2, nI np, nI n)), aI G (h 19) 60 qf, aI G (h 22) 60 df, aI G (h 23) 7 (pF w), aI G (h 24) 64 sf, aI G (h 25) 64 cf] H locs → lv_has ls 14 [(10, .int (nI (np + 1))), (9, .int 1), (8, .int ru), (0, .ref (h 0)), (1, .ref (h 18)), (2, .ref (h 19)), (3, .ref (h 22)), (4, .ref (h 23)), (5, .ref (h 24)), (6, .ref (h 25)), (7, .int (nI xx))] → W pP l eE rm_L_isPolicy sS mM args below meth cC H locs 124 744 Q (F0 mM 230 ls [])) :
    ∀ (d i cells slots : Nat) (H : Heap) (locs : List Loc) (ls : Array Slot) (tr : S7), i + d = np + 1 → cells = 2 * i → slots = 12 * i → Wd G A sS.heap [cF h (nI np), cP (h 1) q, cB h (nI n), cH h, cS (h 4) v, cS (h 5) tr, aI G (h 6) 60 mo, aI G (h 7) 60 ki, aI G (h 8) 60 am, aZ G (h 9) 60 sk, aZ G (h 10) 60 dn, aI G (h 11) 121 y1, aI G (h 12) 121 y2, aI G (h 13) 121 y3, aI G (h 14) 121 y4, aI G (h 15) 121 y5, aI G (h 16) 121 y6, aI G (h 17) 121 y7, aI G (h 18) 5 (nF (q.1, q.2.1, q.2.2, nI np, nI n)), aI G (h 19) 60 qf, aI G (h 22) 60 df, aI G (h 23) 7 (pF w), aI G (h 24) 64 sf, aI G (h 25) 64 cf] H locs → lv_has ls 14 [(10, .int (nI i)), (9, .int 1), (8, .int ru), (0, .ref (h 0)), (1, .ref (h 18)), (2, .ref (h 19)), (3, .ref (h 22)), (4, .ref (h 23)), (5, .ref (h 24)), (6, .ref (h 25)), (7, .int (nI xx))] → W pP l eE rm_L_isPolicy sS mM args below meth cC H locs cells slots Q (F0 mM 176 ls []) := by
  have hx := S.1
  have hb := S.2.1
  have hp9 := I.2.1
  intro d
  induction d with
  | zero =>
    intro i cells slots H locs ls tr hi hce hsl hW hl
    have hc : nI np < nI i := nI_lt (by omega) (by omega)
    refine lv_iload hx hb dL_isPolicy_176 (lv_at hl 0 rfl) ?_
    refine lv_aload_n hx hb dL_isPolicy_178 rfl (lv_at hl 4 rfl) ?_
    refine lv_iconst (v := 3) hx hb dL_isPolicy_179 (by decide) ?_
    refine k_vld S hK hW 18 rfl (i := 3) (k := 3) (x := (nI np)) vi5_3 ix_3 rfl dL_isPolicy_180 ?_
    refine lv_icmp_gt (tgt := 230) hx hb dL_isPolicy_181 (by decide) (fun c_1 => ?_) (fun c_1 => ?_)
    ·
      have e9 : i = np + 1 := by omega
      subst e9
      refine W.widen (k := 124) (n := 744) (by omega) (by omega) ?_
      exact K H _ ls _ hW hl
    ·
      exact absurd hc c_1
  | succ d ih =>
    intro i cells slots H locs ls tr hi hce hsl hW hl
    have hc : ¬ nI np < nI i := nI_nlt (by omega) (by omega)
    have him : i ≤ np := by omega
    refine lv_iload hx hb dL_isPolicy_176 (lv_at hl 0 rfl) ?_
    refine lv_aload_n hx hb dL_isPolicy_178 rfl (lv_at hl 4 rfl) ?_
    refine lv_iconst (v := 3) hx hb dL_isPolicy_179 (by decide) ?_
    refine k_vld S hK hW 18 rfl (i := 3) (k := 3) (x := (nI np)) vi5_3 ix_3 rfl dL_isPolicy_180 ?_
    refine lv_icmp_gt (tgt := 230) hx hb dL_isPolicy_181 (by decide) (fun c_2 => ?_) (fun c_2 => ?_)
    ·
      exact absurd c_2 hc
    ·
      refine lv_iload hx hb dL_isPolicy_184 (lv_at hl 1 rfl) ?_
      refine lv_if_eq (tgt := 230) hx hb dL_isPolicy_186 (by decide) (fun c_3 => ?_) (fun c_3 => ?_)
      ·
        exact absurd c_3 (by decide)
      ·
        refine lv_aload_n hx hb dL_isPolicy_189 rfl (lv_at hl 3 rfl) ?_
        refine lv_iload hx hb dL_isPolicy_190 (lv_at hl 0 rfl) ?_
        refine kx_call0 (C := RX4) (As := [.int (nI i)]) (rest := []) (wr := [cP (h 1) q, cB h (nI n), cS (h 4) v, aI G (h 6) 60 mo, aI G (h 7) 60 ki, aI G (h 8) 60 am, aZ G (h 9) 60 sk, aZ G (h 10) 60 dn, aI G (h 18) 5 (nF (q.1, q.2.1, q.2.2, nI np, nI n)), aI G (h 19) 60 qf, aI G (h 22) 60 df, aI G (h 23) 7 (pF w), aI G (h 24) 64 sf, aI G (h 25) 64 cf]) (c_X4_accountAt l hst G h (nI np) y1 y2 y3 y4 y5 y6 y7 tr (nI i)) (by rw [(a_acct I L him tr).1]) (by decide) S hK hW hXE hXZ gL_isPolicy_X4_accountAt rfl ⟨rfl, rfl⟩ nd_X4_accountAt ⟨rfl, rfl⟩ (qb := 0) (ci := 4) rfl rfl [0, 3, 11, 12, 13, 14, 15, 16, 17, 5] [1, 2, 4, 6, 7, 8, 9, 10, 18, 19, 20, 21, 22, 23] rfl rfl rfl rfl (by decide) rfl hl.1 rfl dL_isPolicy_192 ⟨by show _ ≤ 192; omega, by show _ ≤ 1156; omega⟩ (fun H locs hW => ?_)
        rw [(a_acct I L him tr).1] at hW
        have hW : Wd G A sS.heap [cP (h 1) q, cB h (nI n), cS (h 4) v, aI G (h 6) 60 mo, aI G (h 7) 60 ki, aI G (h 8) 60 am, aZ G (h 9) 60 sk, aZ G (h 10) 60 dn, aI G (h 18) 5 (nF (q.1, q.2.1, q.2.2, nI np, nI n)), aI G (h 19) 60 qf, aI G (h 22) 60 df, aI G (h 23) 7 (pF w), aI G (h 24) 64 sf, aI G (h 25) 64 cf, cF h (nI np), cH h, aI G (h 11) 121 y1, aI G (h 12) 121 y2, aI G (h 13) 121 y3, aI G (h 14) 121 y4, aI G (h 15) 121 y5, aI G (h 16) 121 y6, aI G (h 17) 121 y7, cS (h 5) (hrow y1 y2 y3 y4 y5 y6 y7 i)] H locs := hW
        refine W.eq (g2 := F0 mM 195 ls [.int (cf i)]) (by rw [(a_acct I L him tr).1]) ?_
        refine lv_aload hx hb dL_isPolicy_195 (lv_at hl 9 rfl) ?_
        refine lv_iload hx hb dL_isPolicy_197 (lv_at hl 0 rfl) ?_
        refine k_iald (n := 64) S hK hW 13 rfl (i := nI i) (vp_in_nI (by omega) (by omega)) dL_isPolicy_199 ?_
        refine lv_icmp_ne (tgt := 221) hx hb dL_isPolicy_200 (by decide) (fun c_4 => ?_) (fun c_4 => ?_)
        ·
          exact absurd ((congrArg cf (nI_clamp (show i < 2 ^ 31 by omega))).symm) c_4
        ·
          refine lv_aload_n hx hb dL_isPolicy_203 rfl (lv_at hl 3 rfl) ?_
          refine lv_iload hx hb dL_isPolicy_204 (lv_at hl 0 rfl) ?_
          refine kx_call0 (C := RX4) (As := [.int (nI i)]) (rest := []) (wr := [cP (h 1) q, cB h (nI n), cS (h 4) v, aI G (h 6) 60 mo, aI G (h 7) 60 ki, aI G (h 8) 60 am, aZ G (h 9) 60 sk, aZ G (h 10) 60 dn, aI G (h 18) 5 (nF (q.1, q.2.1, q.2.2, nI np, nI n)), aI G (h 19) 60 qf, aI G (h 22) 60 df, aI G (h 23) 7 (pF w), aI G (h 24) 64 sf, aI G (h 25) 64 cf]) (c_X4_stateAt l hst G h (nI np) y1 y2 y3 y4 y5 y6 y7 (hrow y1 y2 y3 y4 y5 y6 y7 i) (nI i)) (by rw [(a_acct I L him (hrow y1 y2 y3 y4 y5 y6 y7 i)).2]) (by decide) S hK hW hXE hXZ gL_isPolicy_X4_stateAt rfl ⟨rfl, rfl⟩ nd_X4_stateAt ⟨rfl, rfl⟩ (qb := 14) (ci := 4) rfl rfl [14, 15, 16, 17, 18, 19, 20, 21, 22, 23] [0, 1, 2, 3, 4, 5, 6, 7, 8, 9, 10, 11, 12, 13] rfl rfl rfl rfl (by decide) rfl hl.1 rfl dL_isPolicy_206 ⟨by show _ ≤ 192; omega, by show _ ≤ 1156; omega⟩ (fun H locs hW => ?_)
          rw [(a_acct I L him (hrow y1 y2 y3 y4 y5 y6 y7 i)).2] at hW
          have hW : Wd G A sS.heap [cP (h 1) q, cB h (nI n), cS (h 4) v, aI G (h 6) 60 mo, aI G (h 7) 60 ki, aI G (h 8) 60 am, aZ G (h 9) 60 sk, aZ G (h 10) 60 dn, aI G (h 18) 5 (nF (q.1, q.2.1, q.2.2, nI np, nI n)), aI G (h 19) 60 qf, aI G (h 22) 60 df, aI G (h 23) 7 (pF w), aI G (h 24) 64 sf, aI G (h 25) 64 cf, cF h (nI np), cH h, aI G (h 11) 121 y1, aI G (h 12) 121 y2, aI G (h 13) 121 y3, aI G (h 14) 121 y4, aI G (h 15) 121 y5, aI G (h 16) 121 y6, aI G (h 17) 121 y7, cS (h 5) (hrow y1 y2 y3 y4 y5 y6 y7 i)] H locs := hW
          refine W.eq (g2 := F0 mM 209 ls [.int (sf i)]) (by rw [(a_acct I L him (hrow y1 y2 y3 y4 y5 y6 y7 i)).2]) ?_
          refine lv_aload hx hb dL_isPolicy_209 (lv_at hl 8 rfl) ?_
          refine lv_iload hx hb dL_isPolicy_211 (lv_at hl 0 rfl) ?_
          refine k_iald (n := 64) S hK hW 12 rfl (i := nI i) (vp_in_nI (by omega) (by omega)) dL_isPolicy_213 ?_
          refine lv_icmp_ne (tgt := 221) hx hb dL_isPolicy_214 (by decide) (fun c_5 => ?_) (fun c_5 => ?_)
          ·
            exact absurd ((congrArg sf (nI_clamp (show i < 2 ^ 31 by omega))).symm) c_5
          ·
            refine lv_iconst (v := 1) hx hb dL_isPolicy_217 (by decide) ?_
            refine lv_goto (tgt := 222) hx hb dL_isPolicy_218 (by decide) ?_
            refine lv_istore (lv' := [(9, .int 1), (10, .int (nI i)), (8, .int ru), (0, .ref (h 0)), (1, .ref (h 18)), (2, .ref (h 19)), (3, .ref (h 22)), (4, .ref (h 23)), (5, .ref (h 24)), (6, .ref (h 25)), (7, .int (nI xx))]) hx hb dL_isPolicy_222 hl (by decide) rfl (fun ls hl => ?_)
            refine lv_iinc (v := (nI i + 1)) (lv' := [(10, .int (nI i + 1)), (9, .int 1), (8, .int ru), (0, .ref (h 0)), (1, .ref (h 18)), (2, .ref (h 19)), (3, .ref (h 22)), (4, .ref (h 23)), (5, .ref (h 24)), (6, .ref (h 25)), (7, .int (nI xx))]) hx hb dL_isPolicy_224 hl (k := 1) rfl rfl (by decide) rfl (fun ls hl => ?_)
            refine lv_goto (tgt := 176) hx hb dL_isPolicy_227 (by decide) ?_
            rw [nI_1] at hl
            exact ih (i + 1) _ _ H _ ls _ (by omega) (by omega) (by omega) (hW.re [14, 0, 1, 15, 2, 23, 3, 4, 5, 6, 7, 16, 17, 18, 19, 20, 21, 22, 8, 9, 10, 11, 12, 13] rfl rfl) (lv_sub hl [0, 1, 2, 3, 4, 5, 6, 7, 8, 9, 10] rfl)
set_option maxHeartbeats 8000000 in
set_option maxRecDepth 100000 in
theorem pC_L_isPolicy {pP : Program} {l : Launch} {eE : Env} {sS : State} {mM : MethodId} {args : Array Value} {below : List Frame} {meth : Method} {cC : Code} {Q : State → Prop} {G : GG} {A : Nat → Prop} {h : Nat → Nat} {np n xx : Nat} {q : S3} {mo ki am : N32} {sk dn : Nat → Bool} {y1 y2 y3 y4 y5 y6 y7 : N32} {v : S7} {qf af mf df sf cf lf rf gf tf : N32} {w : S7} (hst : l.stackTraces = false) (S : CallFix pP mM cC cL_isPolicy 14 sS args wsL_isPolicy RL) (hK : Kn G sS) (hXE : XE sS) (hXZ : XZ A sS sS.heap) (I : Inv np n q mo ki am sk (dn, y1, y2, y3, y4, y5, y6, y7, v)) (L : LInv np n q mo ki am sk qf af mf df sf cf lf rf gf tf w) (hnp : np ≤ 61) (hxx : xx < 2 ^ 31) (ru : Int32) (K : ∀ (H : Heap) (locs : List Loc) (ls : Array Slot) (tr : S7), Wd G A sS.heap [cF h (nI np), cP (h 1) q, cB h (nI n), cH h, cS (h 4) v, cS (h 5) tr, aI G (h 6) 60 mo, aI G (h 7) 60 ki, aI G (h 8) 60 am, aZ G (h 9) 60 sk, aZ G (h 10) 60 dn, aI G (h 11) 121 y1, aI G (h 12) 121 y2, aI G (h 13) 121 y3, aI G (h 14) 121 y4, aI G (h 15) 121 y5, aI G (h 16) 121 y6, aI G (h 17) 121 y7, aI G (h 18) 5 (nF (q.1, q.2.1, q.2.2, nI np, nI n)), aI G (h 19) 60 qf, aI G (h 22) 60 df, aI G (h 23) 7 (pF w), aI G (h 24) 64 sf, aI G (h 25) 64 cf] H locs → lv_has ls 14 [(11, .int 0), (9, .int 1), (8, .int ru), (0, .ref (h 0)), (1, .ref (h 18)), (2, .ref (h 19)), (3, .ref (h 22)), (4, .ref (h 23)), (5, .ref (h 24)), (6, .ref (h 25)), (7, .int (nI xx))] → W pP l eE rm_L_isPolicy sS mM args below meth cC H locs 126 756 Q (F0 mM 295 ls [])) :
    ∀ (H : Heap) (locs : List Loc) (ls : Array Slot) (tr : S7), Wd G A sS.heap [cF h (nI np), cP (h 1) q, cB h (nI n), cH h, cS (h 4) v, cS (h 5) tr, aI G (h 6) 60 mo, aI G (h 7) 60 ki, aI G (h 8) 60 am, aZ G (h 9) 60 sk, aZ G (h 10) 60 dn, aI G (h 11) 121 y1, aI G (h 12) 121 y2, aI G (h 13) 121 y3, aI G (h 14) 121 y4, aI G (h 15) 121 y5, aI G (h 16) 121 y6, aI G (h 17) 121 y7, aI G (h 18) 5 (nF (q.1, q.2.1, q.2.2, nI np, nI n)), aI G (h 19) 60 qf, aI G (h 22) 60 df, aI G (h 23) 7 (pF w), aI G (h 24) 64 sf, aI G (h 25) 64 cf] H locs → lv_has ls 14 [(10, .int (nI (np + 1))), (9, .int 1), (8, .int ru), (0, .ref (h 0)), (1, .ref (h 18)), (2, .ref (h 19)), (3, .ref (h 22)), (4, .ref (h 23)), (5, .ref (h 24)), (6, .ref (h 25)), (7, .int (nI xx))] → W pP l eE rm_L_isPolicy sS mM args below meth cC H locs 124 744 Q (F0 mM 230 ls []) := by
  have hx := S.1
  have hb := S.2.1
  have hp9 := I.2.1
  have hmm : xx % (np + 1) ≤ np := Nat.le_of_lt_succ (Nat.mod_lt _ (Nat.succ_pos np))
  intro H locs ls tr hW hl
  refine lv_iload hx hb dL_isPolicy_230 (lv_at hl 10 rfl) ?_
  refine lv_aload_n hx hb dL_isPolicy_232 rfl (lv_at hl 4 rfl) ?_
  refine lv_iconst (v := 3) hx hb dL_isPolicy_233 (by decide) ?_
  refine k_vld S hK hW 18 rfl (i := 3) (k := 3) (x := (nI np)) vi5_3 ix_3 rfl dL_isPolicy_234 ?_
  refine lv_iconst (v := 1) hx hb dL_isPolicy_235 (by decide) ?_
  refine lv_iadd hx hb dL_isPolicy_236 ?_
  refine W.eq (g2 := F0 mM 237 ls [.int (nI (np + 1)), .int (nI xx)]) (by rw [nI_1 np]) ?_
  refine k_irem hx hb dL_isPolicy_237 (nI_ne0 (by omega) (by omega)) ?_
  refine W.eq (g2 := F0 mM 238 ls [.int (nI (xx % (np + 1)))]) (by rw [irm_nI (a := xx) (D := nI (np + 1)) (np + 1) rfl hxx (by omega) (by omega)]) ?_
  refine lv_istore (lv' := [(10, .int (nI (xx % (np + 1)))), (9, .int 1), (8, .int ru), (0, .ref (h 0)), (1, .ref (h 18)), (2, .ref (h 19)), (3, .ref (h 22)), (4, .ref (h 23)), (5, .ref (h 24)), (6, .ref (h 25)), (7, .int (nI xx))]) hx hb dL_isPolicy_238 hl (by decide) rfl (fun ls hl => ?_)
  refine lv_iload hx hb dL_isPolicy_240 (lv_at hl 1 rfl) ?_
  refine lv_if_eq (tgt := 289) hx hb dL_isPolicy_242 (by decide) (fun c_1 => ?_) (fun c_1 => ?_)
  ·
    exact absurd c_1 (by decide)
  ·
    refine lv_aload_n hx hb dL_isPolicy_245 rfl (lv_at hl 3 rfl) ?_
    refine lv_iload hx hb dL_isPolicy_246 (lv_at hl 0 rfl) ?_
    obtain ⟨tr2, e2⟩ := a_afs I L hmm tr
    refine kx_call0 (C := RX4) (As := [.int (nI (xx % (np + 1)))]) (rest := []) (wr := [cH h, cS (h 4) v, aZ G (h 10) 60 dn, aI G (h 11) 121 y1, aI G (h 12) 121 y2, aI G (h 13) 121 y3, aI G (h 14) 121 y4, aI G (h 15) 121 y5, aI G (h 16) 121 y6, aI G (h 17) 121 y7, aI G (h 18) 5 (nF (q.1, q.2.1, q.2.2, nI np, nI n)), aI G (h 19) 60 qf, aI G (h 22) 60 df, aI G (h 23) 7 (pF w), aI G (h 24) 64 sf, aI G (h 25) 64 cf]) (c_X4_accountFromStart l hst G h mo ki am sk q tr (nI (xx % (np + 1))) np n I.1 I.2.1) (by rw [e2]) (by decide) S hK hW hXE hXZ gL_isPolicy_X4_accountFromStart rfl ⟨rfl, rfl⟩ nd_X4_accountFromStart ⟨rfl, rfl⟩ (qb := 0) (ci := 4) rfl rfl [0, 2, 6, 7, 8, 9, 1, 5] [3, 4, 10, 11, 12, 13, 14, 15, 16, 17, 18, 19, 20, 21, 22, 23] rfl rfl rfl rfl (by decide) rfl hl.1 rfl dL_isPolicy_248 ⟨by decide, by decide⟩ (fun H locs hW => ?_)
    rw [e2] at hW
    have hW : Wd G A sS.heap [cH h, cS (h 4) v, aZ G (h 10) 60 dn, aI G (h 11) 121 y1, aI G (h 12) 121 y2, aI G (h 13) 121 y3, aI G (h 14) 121 y4, aI G (h 15) 121 y5, aI G (h 16) 121 y6, aI G (h 17) 121 y7, aI G (h 18) 5 (nF (q.1, q.2.1, q.2.2, nI np, nI n)), aI G (h 19) 60 qf, aI G (h 22) 60 df, aI G (h 23) 7 (pF w), aI G (h 24) 64 sf, aI G (h 25) 64 cf, cF h (nI np), cB h (nI n), aI G (h 6) 60 mo, aI G (h 7) 60 ki, aI G (h 8) 60 am, aZ G (h 9) 60 sk, cP (h 1) q, cS (h 5) tr2] H locs := hW
    refine W.eq (g2 := F0 mM 251 ls [.int (cf (xx % (np + 1)))]) (by rw [e2]) ?_
    refine lv_aload hx hb dL_isPolicy_251 (lv_at hl 9 rfl) ?_
    refine lv_iload hx hb dL_isPolicy_253 (lv_at hl 0 rfl) ?_
    refine k_iald (n := 64) S hK hW 15 rfl (i := nI (xx % (np + 1))) (vp_in_nI (by omega) (by omega)) dL_isPolicy_255 ?_
    refine lv_icmp_ne (tgt := 289) hx hb dL_isPolicy_256 (by decide) (fun c_2 => ?_) (fun c_2 => ?_)
    ·
      exact absurd ((congrArg cf (nI_clamp (show xx % (np + 1) < 2 ^ 31 by omega))).symm) c_2
    ·
      refine lv_aload_n hx hb dL_isPolicy_259 rfl (lv_at hl 3 rfl) ?_
      refine lv_bipush (v := 18) hx hb dL_isPolicy_260 (by decide) ?_
      refine lv_iload hx hb dL_isPolicy_262 (lv_at hl 10 rfl) ?_
      refine lv_bipush (v := 103) hx hb dL_isPolicy_264 (by decide) ?_
      refine k_irem hx hb dL_isPolicy_266 (by decide) ?_
      refine lv_iadd hx hb dL_isPolicy_267 ?_
      refine W.eq (g2 := F0 mM 268 ls [.int (nI (18 + xx % 103)), .ref (h 0)]) (by rw [irm_nI (a := xx) (D := 103) 103 (by decide +kernel) hxx (by omega) (by omega), add_nI 18 (by decide +kernel)]) ?_
      refine kx_call0 (C := RX4) (As := [.int (nI (18 + xx % 103))]) (rest := []) (wr := [cH h, cS (h 4) v, aZ G (h 10) 60 dn, aI G (h 11) 121 y1, aI G (h 12) 121 y2, aI G (h 13) 121 y3, aI G (h 14) 121 y4, aI G (h 15) 121 y5, aI G (h 16) 121 y6, aI G (h 17) 121 y7, aI G (h 18) 5 (nF (q.1, q.2.1, q.2.2, nI np, nI n)), aI G (h 19) 60 qf, aI G (h 22) 60 df, aI G (h 23) 7 (pF w), aI G (h 24) 64 sf, aI G (h 25) 64 cf, cB h (nI n), aI G (h 6) 60 mo, aI G (h 7) 60 ki, aI G (h 8) 60 am, aZ G (h 9) 60 sk, cS (h 5) tr2]) (c_X4_corridor l hst G h (nI np) q (nI (18 + xx % 103))) (by rw [a_corr (nI_toInt (n := 18 + xx % 103) (by omega)) (by omega) (by omega)]) (by decide) S hK hW hXE hXZ gL_isPolicy_X4_corridor rfl ⟨rfl, rfl⟩ nd_X4_corridor ⟨rfl, rfl⟩ (qb := 16) (ci := 4) rfl rfl [16, 22] [0, 1, 2, 3, 4, 5, 6, 7, 8, 9, 10, 11, 12, 13, 14, 15, 17, 18, 19, 20, 21, 23] rfl rfl rfl rfl (by decide) rfl hl.1 rfl dL_isPolicy_268 ⟨by decide, by decide⟩ (fun H locs hW => ?_)
      have hW : Wd G A sS.heap [cH h, cS (h 4) v, aZ G (h 10) 60 dn, aI G (h 11) 121 y1, aI G (h 12) 121 y2, aI G (h 13) 121 y3, aI G (h 14) 121 y4, aI G (h 15) 121 y5, aI G (h 16) 121 y6, aI G (h 17) 121 y7, aI G (h 18) 5 (nF (q.1, q.2.1, q.2.2, nI np, nI n)), aI G (h 19) 60 qf, aI G (h 22) 60 df, aI G (h 23) 7 (pF w), aI G (h 24) 64 sf, aI G (h 25) 64 cf, cB h (nI n), aI G (h 6) 60 mo, aI G (h 7) 60 ki, aI G (h 8) 60 am, aZ G (h 9) 60 sk, cS (h 5) tr2, cF h (nI np), cP (h 1) q] H locs := hW
      refine W.eq (g2 := F0 mM 271 ls [.int (F_L_corridor (nI (18 + xx % 103)))]) (by rw [a_corr (nI_toInt (n := 18 + xx % 103) (by omega)) (by omega) (by omega)]) ?_
      refine lv_bipush (v := 18) hx hb dL_isPolicy_271 (by decide) ?_
      refine lv_iload hx hb dL_isPolicy_273 (lv_at hl 10 rfl) ?_
      refine lv_bipush (v := 103) hx hb dL_isPolicy_275 (by decide) ?_
      refine k_irem hx hb dL_isPolicy_277 (by decide) ?_
      refine lv_iadd hx hb dL_isPolicy_278 ?_
      refine W.eq (g2 := F0 mM 279 ls [.int (nI (18 + xx % 103)), .int (F_L_corridor (nI (18 + xx % 103)))]) (by rw [irm_nI (a := xx) (D := 103) 103 (by decide +kernel) hxx (by omega) (by omega), add_nI 18 (by decide +kernel)]) ?_
      refine k_callSi (As := [.int (nI (18 + xx % 103))]) (rest := [.int (F_L_corridor (nI (18 + xx % 103)))]) (wr := [cH h, cS (h 4) v, aZ G (h 10) 60 dn, aI G (h 11) 121 y1, aI G (h 12) 121 y2, aI G (h 13) 121 y3, aI G (h 14) 121 y4, aI G (h 15) 121 y5, aI G (h 16) 121 y6, aI G (h 17) 121 y7, aI G (h 18) 5 (nF (q.1, q.2.1, q.2.2, nI np, nI n)), aI G (h 19) 60 qf, aI G (h 22) 60 df, aI G (h 23) 7 (pF w), aI G (h 24) 64 sf, aI G (h 25) 64 cf, cB h (nI n), aI G (h 6) 60 mo, aI G (h 7) 60 ki, aI G (h 8) 60 am, aZ G (h 9) 60 sk, cS (h 5) tr2, cF h (nI np), cP (h 1) q]) (c_L_corridor l G (nI (18 + xx % 103))) S hK hW gL_isPolicy_L_corridor rfl ⟨rfl, rfl⟩ nd_L_corridor ⟨rfl, rfl⟩ [] [0, 1, 2, 3, 4, 5, 6, 7, 8, 9, 10, 11, 12, 13, 14, 15, 16, 17, 18, 19, 20, 21, 22, 23] rfl rfl rfl rfl (by decide) rfl hl.1 rfl dL_isPolicy_279 ⟨by decide, by decide⟩ (fun H locs hW => ?_)
      have hW : Wd G A sS.heap [cH h, cS (h 4) v, aZ G (h 10) 60 dn, aI G (h 11) 121 y1, aI G (h 12) 121 y2, aI G (h 13) 121 y3, aI G (h 14) 121 y4, aI G (h 15) 121 y5, aI G (h 16) 121 y6, aI G (h 17) 121 y7, aI G (h 18) 5 (nF (q.1, q.2.1, q.2.2, nI np, nI n)), aI G (h 19) 60 qf, aI G (h 22) 60 df, aI G (h 23) 7 (pF w), aI G (h 24) 64 sf, aI G (h 25) 64 cf, cB h (nI n), aI G (h 6) 60 mo, aI G (h 7) 60 ki, aI G (h 8) 60 am, aZ G (h 9) 60 sk, cS (h 5) tr2, cF h (nI np), cP (h 1) q] H locs := hW
      refine lv_icmp_ne (tgt := 289) hx hb dL_isPolicy_282 (by decide) (fun c_3 => ?_) (fun c_3 => ?_)
      ·
        exact absurd rfl c_3
      ·
        refine lv_iconst (v := 1) hx hb dL_isPolicy_285 (by decide) ?_
        refine lv_goto (tgt := 290) hx hb dL_isPolicy_286 (by decide) ?_
        refine lv_istore (lv' := [(9, .int 1), (10, .int (nI (xx % (np + 1)))), (8, .int ru), (0, .ref (h 0)), (1, .ref (h 18)), (2, .ref (h 19)), (3, .ref (h 22)), (4, .ref (h 23)), (5, .ref (h 24)), (6, .ref (h 25)), (7, .int (nI xx))]) hx hb dL_isPolicy_290 hl (by decide) rfl (fun ls hl => ?_)
        refine lv_iconst (v := 0) hx hb dL_isPolicy_292 (by decide) ?_
        refine lv_istore (lv' := [(11, .int 0), (9, .int 1), (10, .int (nI (xx % (np + 1)))), (8, .int ru), (0, .ref (h 0)), (1, .ref (h 18)), (2, .ref (h 19)), (3, .ref (h 22)), (4, .ref (h 23)), (5, .ref (h 24)), (6, .ref (h 25)), (7, .int (nI xx))]) hx hb dL_isPolicy_293 hl (by decide) rfl (fun ls hl => ?_)
        exact K H _ ls _ (hW.re [22, 23, 16, 0, 1, 21, 17, 18, 19, 20, 2, 3, 4, 5, 6, 7, 8, 9, 10, 11, 12, 13, 14, 15] rfl rfl) (lv_sub hl [0, 1, 3, 4, 5, 6, 7, 8, 9, 10, 11] rfl)
