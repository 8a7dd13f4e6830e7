set_option maxHeartbeats 8000000 in
set_option maxRecDepth 100000 in
theorem pD_L_isPolicy {pP : Program} {l : Launch} {eE : Env} {sS : State} {mM : MethodId} {args : Array Value} {below : List Frame} {meth : Method} {cC : Code} {Q : State → Prop} {G : GG} {A : Nat → Prop} {h : Nat → Nat} {np n xx : Nat} {q : S3} {mo ki am : N32} {sk dn : Nat → Bool} {y1 y2 y3 y4 y5 y6 y7 : N32} {v : S7} {qf af mf df sf cf lf rf gf tf : N32} {w : S7} (hst : l.stackTraces = false) (S : CallFix pP mM cC cL_isPolicy 14 sS args wsL_isPolicy RL) (hK : Kn G sS) (hXE : XE sS) (hXZ : XZ A sS sS.heap) (I : Inv np n q mo ki am sk (dn, y1, y2, y3, y4, y5, y6, y7, v)) (L : LInv np n q mo ki am sk qf af mf df sf cf lf rf gf tf w) (hnp : np ≤ 61) (hxx : xx < 2 ^ 31) (ru : Int32) (K : ∀ (H : Heap) (locs : List Loc) (ls : Array Slot) (tr : S7), Wd G A sS.heap [cF h (nI np), cP (h 1) q, cB h (nI n), cH h, cS (h 4) v, cS (h 5) tr, aI G (h 6) 60 mo, aI G (h 7) 60 ki, aI G (h 8) 60 am, aZ G (h 9) 60 sk, aZ G (h 10) 60 dn, aI G (h 11) 121 y1, aI G (h 12) 121 y2, aI G (h 13) 121 y3, aI G (h 14) 121 y4, aI G (h 15) 121 y5, aI G (h 16) 121 y6, aI G (h 17) 121 y7, aI G (h 18) 5 (nF (q.1, q.2.1, q.2.2, nI np, nI n)), aI G (h 19) 60 qf, aI G (h 22) 60 df, aI G (h 23) 7 (pF w), aI G (h 24) 64 sf, aI G (h 25) 64 cf] H locs → lv_has ls 14 [(11, .int (nI n)), (9, .int 1), (8, .int ru), (0, .ref (h 0)), (1, .ref (h 18)), (2, .ref (h 19)), (3, .ref (h 22)), (4, .ref (h 23)), (5, .ref (h 24)), (6, .ref (h 25)), (7, .int (nI xx))] → W pP l eE rm_L_isPolicy sS mM args below meth cC H locs 186 1116 Q (F0 mM 347 ls [])) :
    ∀ (d i cells slots : Nat) (H : Heap) (locs : List Loc) (ls : Array Slot) (tr : S7), i + d = n → cells = 126 + i → slots = 756 + 6 * i → Wd G A sS.heap [cF h (nI np), cP (h 1) q, cB h (nI n), cH h, cS (h 4) v, cS (h 5) tr, aI G (h 6) 60 mo, aI G (h 7) 60 ki, aI G (h 8) 60 am, aZ G (h 9) 60 sk, aZ G (h 10) 60 dn, aI G (h 11) 121 y1, aI G (h 12) 121 y2, aI G (h 13) 121 y3, aI G (h 14) 121 y4, aI G (h 15) 121 y5, aI G (h 16) 121 y6, aI G (h 17) 121 y7, aI G (h 18) 5 (nF (q.1, q.2.1, q.2.2, nI np, nI n)), aI G (h 19) 60 qf, aI G (h 22) 60 df, aI G (h 23) 7 (pF w), aI G (h 24) 64 sf, aI G (h 25) 64 cf] H locs → lv_has ls 14 [(11, .int (nI i)), (9, .int 1), (8, .int ru), (0, .ref (h 0)), (1, .ref (h 18)), (2, .ref (h 19)), (3, .ref (h 22)), (4, .ref (h 23)), (5, .ref (h 24)), (6, .ref (h 25)), (7, .int (nI xx))] → W pP l eE rm_L_isPolicy sS mM args below meth cC H locs cells slots Q (F0 mM 295 ls []) := by
  have hx := S.1
  have hb := S.2.1
  have hn := I.1
  intro d
  induction d with
  | zero =>
    intro i cells slots H locs ls tr hi hce hsl hW hl
    have hc : nI n ≤ nI i := nI_le (by omega) (by omega)
    refine lv_iload hx hb dL_isPolicy_295 (lv_at hl 0 rfl) ?_
    refine lv_aload_n hx hb dL_isPolicy_297 rfl (lv_at hl 4 rfl) ?_
    refine lv_iconst (v := 4) hx hb dL_isPolicy_298 (by decide) ?_
    refine k_vld S hK hW 18 rfl (i := 4) (k := 4) (x := (nI n)) vi5_4 ix_4 rfl dL_isPolicy_299 ?_
    refine lv_icmp_ge (tgt := 347) hx hb dL_isPolicy_300 (by decide) (fun c_1 => ?_) (fun c_1 => ?_)
    ·
      have e9 : i = n := by omega
      subst e9
      refine W.widen (k := 186) (n := 1116) (by omega) (by omega) ?_
      exact K H _ ls _ hW hl
    ·
      exact absurd hc c_1
  | succ d ih =>
    intro i cells slots H locs ls tr hi hce hsl hW hl
    have hc : ¬ nI n ≤ nI i := nI_ge (by omega) (by omega)
    have hin : i < n := by omega
    refine lv_iload hx hb dL_isPolicy_295 (lv_at hl 0 rfl) ?_
    refine lv_aload_n hx hb dL_isPolicy_297 rfl (lv_at hl 4 rfl) ?_
    refine lv_iconst (v := 4) hx hb dL_isPolicy_298 (by decide) ?_
    refine k_vld S hK hW 18 rfl (i := 4) (k := 4) (x := (nI n)) vi5_4 ix_4 rfl dL_isPolicy_299 ?_
    refine lv_icmp_ge (tgt := 347) hx hb dL_isPolicy_300 (by decide) (fun c_2 => ?_) (fun c_2 => ?_)
    ·
      exact absurd c_2 hc
    ·
      refine lv_iload hx hb dL_isPolicy_303 (lv_at hl 1 rfl) ?_
      refine lv_if_eq (tgt := 347) hx hb dL_isPolicy_305 (by decide) (fun c_3 => ?_) (fun c_3 => ?_)
      ·
        exact absurd c_3 (by decide)
      ·
        refine lv_aload_n hx hb dL_isPolicy_308 rfl (lv_at hl 3 rfl) ?_
        refine lv_iconst (v := 1) hx hb dL_isPolicy_309 (by decide) ?_
        refine lv_iload hx hb dL_isPolicy_310 (lv_at hl 0 rfl) ?_
        refine kz_callS (As := [.ref (h 0), .int 1, .int (nI i)]) (rest := []) (wr := [cP (h 1) q, cH h, cS (h 4) v, cS (h 5) tr, aI G (h 6) 60 mo, aI G (h 7) 60 ki, aI G (h 8) 60 am, aI G (h 11) 121 y1, aI G (h 12) 121 y2, aI G (h 13) 121 y3, aI G (h 14) 121 y4, aI G (h 15) 121 y5, aI G (h 16) 121 y6, aI G (h 17) 121 y7, aI G (h 18) 5 (nF (q.1, q.2.1, q.2.2, nI np, nI n)), aI G (h 19) 60 qf, aI G (h 22) 60 df, aI G (h 23) 7 (pF w), aI G (h 24) 64 sf, aI G (h 25) 64 cf]) (c_L_does1 l hst G h (nI np) (nI n) sk dn (nI i)) S hK hW hXE hXZ gL_isPolicy_L_does rfl ⟨rfl, rfl⟩ nd_L_does ⟨rfl, rfl⟩ [0, 2, 9, 10] [1, 3, 4, 5, 6, 7, 8, 11, 12, 13, 14, 15, 16, 17, 18, 19, 20, 21, 22, 23] rfl rfl rfl rfl (by decide) rfl hl.1 rfl dL_isPolicy_312 ⟨by show _ ≤ 192; omega, by show _ ≤ 1156; omega⟩ (fun H locs hk hW => ?_) (fun H locs hk hW => ?_)
        ·
          have hW : Wd G A sS.heap [cP (h 1) q, cH h, cS (h 4) v, cS (h 5) tr, aI G (h 6) 60 mo, aI G (h 7) 60 ki, aI G (h 8) 60 am, aI G (h 11) 121 y1, aI G (h 12) 121 y2, aI G (h 13) 121 y3, aI G (h 14) 121 y4, aI G (h 15) 121 y5, aI G (h 16) 121 y6, aI G (h 17) 121 y7, aI G (h 18) 5 (nF (q.1, q.2.1, q.2.2, nI np, nI n)), aI G (h 19) 60 qf, aI G (h 22) 60 df, aI G (h 23) 7 (pF w), aI G (h 24) 64 sf, aI G (h 25) 64 cf, cF h (nI np), cB h (nI n), aZ G (h 9) 60 sk, aZ G (h 10) 60 dn] H locs := hW
          have hq : qf i < 0 := (a_done I L hin).elim (fun z => z.2) (fun z => absurd z.1 hk)
          refine lv_aload_n hx hb dL_isPolicy_315 rfl (lv_at hl 5 rfl) ?_
          refine lv_iload hx hb dL_isPolicy_316 (lv_at hl 0 rfl) ?_
          refine k_iald (n := 60) S hK hW 15 rfl (i := nI i) (vp_in_nI (by omega) (by omega)) dL_isPolicy_318 ?_
          refine lv_if_ge (tgt := 327) hx hb dL_isPolicy_319 (by decide) (fun c_4 => ?_) (fun c_4 => ?_)
          ·
            exact absurd c_4 (fun z => by rw [nI_clamp (show i < 2 ^ 31 by omega)] at z; exact absurd hq (nlt_le.mpr z))
          ·
            refine lv_bipush (v := (-11)) hx hb dL_isPolicy_322 (by decide) ?_
            refine lv_goto (tgt := 331) hx hb dL_isPolicy_324 (by decide) ?_
            refine lv_icmp_ne (tgt := 338) hx hb dL_isPolicy_331 (by decide) (fun c_5 => ?_) (fun c_5 => ?_)
            ·
              exact absurd c_5 (by decide)
            ·
              refine lv_iconst (v := 1) hx hb dL_isPolicy_334 (by decide) ?_
              refine lv_goto (tgt := 339) hx hb dL_isPolicy_335 (by decide) ?_
              refine lv_istore (lv' := [(9, .int 1), (11, .int (nI i)), (8, .int ru), (0, .ref (h 0)), (1, .ref (h 18)), (2, .ref (h 19)), (3, .ref (h 22)), (4, .ref (h 23)), (5, .ref (h 24)), (6, .ref (h 25)), (7, .int (nI xx))]) hx hb dL_isPolicy_339 hl (by decide) rfl (fun ls hl => ?_)
              refine lv_iinc (v := (nI i + 1)) (lv' := [(11, .int (nI i + 1)), (9, .int 1), (8, .int ru), (0, .ref (h 0)), (1, .ref (h 18)), (2, .ref (h 19)), (3, .ref (h 22)), (4, .ref (h 23)), (5, .ref (h 24)), (6, .ref (h 25)), (7, .int (nI xx))]) hx hb dL_isPolicy_341 hl (k := 1) rfl rfl (by decide) rfl (fun ls hl => ?_)
              refine lv_goto (tgt := 295) hx hb dL_isPolicy_344 (by decide) ?_
              rw [nI_1] at hl
              exact ih (i + 1) _ _ H _ ls _ (by omega) (by omega) (by omega) (hW.re [20, 0, 21, 1, 2, 3, 4, 5, 6, 22, 23, 7, 8, 9, 10, 11, 12, 13, 14, 15, 16, 17, 18, 19] rfl rfl) (lv_sub hl [0, 1, 2, 3, 4, 5, 6, 7, 8, 9, 10] rfl)
        ·
          have hW : Wd G A sS.heap [cP (h 1) q, cH h, cS (h 4) v, cS (h 5) tr, aI G (h 6) 60 mo, aI G (h 7) 60 ki, aI G (h 8) 60 am, aI G (h 11) 121 y1, aI G (h 12) 121 y2, aI G (h 13) 121 y3, aI G (h 14) 121 y4, aI G (h 15) 121 y5, aI G (h 16) 121 y6, aI G (h 17) 121 y7, aI G (h 18) 5 (nF (q.1, q.2.1, q.2.2, nI np, nI n)), aI G (h 19) 60 qf, aI G (h 22) 60 df, aI G (h 23) 7 (pF w), aI G (h 24) 64 sf, aI G (h 25) 64 cf, cF h (nI np), cB h (nI n), aZ G (h 9) 60 sk, aZ G (h 10) 60 dn] H locs := hW
          have hq : ¬ qf i < 0 ∧ bI (F_X4_isDone (nI n) sk dn (nI i)).2 = df i := (a_done I L hin).elim (fun z => absurd hk z.1) (fun z => z.2)
          refine W.eq (g2 := F0 mM 315 ls [.int (df i)]) (by rw [← hq.2]) ?_
          refine lv_aload_n hx hb dL_isPolicy_315 rfl (lv_at hl 5 rfl) ?_
          refine lv_iload hx hb dL_isPolicy_316 (lv_at hl 0 rfl) ?_
          refine k_iald (n := 60) S hK hW 15 rfl (i := nI i) (vp_in_nI (by omega) (by omega)) dL_isPolicy_318 ?_
          refine lv_if_ge (tgt := 327) hx hb dL_isPolicy_319 (by decide) (fun c_6 => ?_) (fun c_6 => ?_)
          ·
            refine lv_aload_n hx hb dL_isPolicy_327 rfl (lv_at hl 6 rfl) ?_
            refine lv_iload hx hb dL_isPolicy_328 (lv_at hl 0 rfl) ?_
            refine k_iald (n := 60) S hK hW 16 rfl (i := nI i) (vp_in_nI (by omega) (by omega)) dL_isPolicy_330 ?_
            refine lv_icmp_ne (tgt := 338) hx hb dL_isPolicy_331 (by decide) (fun c_7 => ?_) (fun c_7 => ?_)
            ·
              exact absurd ((congrArg df (nI_clamp (show i < 2 ^ 31 by omega))).symm) c_7
            ·
              refine lv_iconst (v := 1) hx hb dL_isPolicy_334 (by decide) ?_
              refine lv_goto (tgt := 339) hx hb dL_isPolicy_335 (by decide) ?_
              refine lv_istore (lv' := [(9, .int 1), (11, .int (nI i)), (8, .int ru), (0, .ref (h 0)), (1, .ref (h 18)), (2, .ref (h 19)), (3, .ref (h 22)), (4, .ref (h 23)), (5, .ref (h 24)), (6, .ref (h 25)), (7, .int (nI xx))]) hx hb dL_isPolicy_339 hl (by decide) rfl (fun ls hl => ?_)
              refine lv_iinc (v := (nI i + 1)) (lv' := [(11, .int (nI i + 1)), (9, .int 1), (8, .int ru), (0, .ref (h 0)), (1, .ref (h 18)), (2, .ref (h 19)), (3, .ref (h 22)), (4, .ref (h 23)), (5, .ref (h 24)), (6, .ref (h 25)), (7, .int (nI xx))]) hx hb dL_isPolicy_341 hl (k := 1) rfl rfl (by decide) rfl (fun ls hl => ?_)
              refine lv_goto (tgt := 295) hx hb dL_isPolicy_344 (by decide) ?_
              rw [nI_1] at hl
              exact ih (i + 1) _ _ H _ ls _ (by omega) (by omega) (by omega) (hW.re [20, 0, 21, 1, 2, 3, 4, 5, 6, 22, 23, 7, 8, 9, 10, 11, 12, 13, 14, 15, 16, 17, 18, 19] rfl rfl) (lv_sub hl [0, 1, 2, 3, 4, 5, 6, 7, 8, 9, 10] rfl)
          ·
            exact absurd (by rw [nI_clamp (show i < 2 ^ 31 by omega)]; exact nlt_le.mp hq.1) c_6
