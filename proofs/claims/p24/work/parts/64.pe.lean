set_option maxHeartbeats 8000000 in
set_option maxRecDepth 100000 in
theorem pE1_L_isPolicy {pP : Program} {l : Launch} {eE : Env} {sS : State} {mM : MethodId} {args : Array Value} {below : List Frame} {meth : Method} {cC : Code} {Q : State → Prop} {G : GG} {A : Nat → Prop} {h : Nat → Nat} {np n xx : Nat} {q : S3} {mo ki am : N32} {sk dn : Nat → Bool} {y1 y2 y3 y4 y5 y6 y7 : N32} {v : S7} {qf af mf df sf cf lf rf gf tf : N32} {w : S7} (hst : l.stackTraces = false) (S : CallFix pP mM cC cL_isPolicy 14 sS args wsL_isPolicy RL) (hK : Kn G sS) (hXE : XE sS) (hXZ : XZ A sS sS.heap) (I : Inv np n q mo ki am sk (dn, y1, y2, y3, y4, y5, y6, y7, v)) (L : LInv np n q mo ki am sk qf af mf df sf cf lf rf gf tf w) (hnp : np ≤ 61) (hxx : xx < 2 ^ 31) (hag : AG (q.1, q.2.1, q.2.2, nI np, nI n)) (hlv : ¬ 2 ≤ w.1) (hr : meth.sig.returnType = some .boolean) (hlk : meth.locks = false) (hQ : Q = vx_MQ below (QP G A (fun tr => [cF h (nI np), cP (h 1) q, cB h (nI n), cH h, cS (h 4) v, cS (h 5) tr, aI G (h 6) 60 mo, aI G (h 7) 60 ki, aI G (h 8) 60 am, aZ G (h 9) 60 sk, aZ G (h 10) 60 dn, aI G (h 11) 121 y1, aI G (h 12) 121 y2, aI G (h 13) 121 y3, aI G (h 14) 121 y4, aI G (h 15) 121 y5, aI G (h 16) 121 y6, aI G (h 17) 121 y7, aI G (h 18) 5 (nF (q.1, q.2.1, q.2.2, nI np, nI n)), aI G (h 19) 60 qf, aI G (h 22) 60 df, aI G (h 23) 7 (pF w), aI G (h 24) 64 sf, aI G (h 25) 64 cf])) XF args sS 192 1156 A) :
    ∀ (H : Heap) (locs : List Loc) (ls : Array Slot) (tr : S7), Wd G A sS.heap [cF h (nI np), cP (h 1) q, cB h (nI n), cH h, cS (h 4) v, cS (h 5) tr, aI G (h 6) 60 mo, aI G (h 7) 60 ki, aI G (h 8) 60 am, aZ G (h 9) 60 sk, aZ G (h 10) 60 dn, aI G (h 11) 121 y1, aI G (h 12) 121 y2, aI G (h 13) 121 y3, aI G (h 14) 121 y4, aI G (h 15) 121 y5, aI G (h 16) 121 y6, aI G (h 17) 121 y7, aI G (h 18) 5 (nF (q.1, q.2.1, q.2.2, nI np, nI n)), aI G (h 19) 60 qf, aI G (h 22) 60 df, aI G (h 23) 7 (pF w), aI G (h 24) 64 sf, aI G (h 25) 64 cf] H locs → lv_has ls 14 [(11, .int (nI n)), (9, .int 1), (8, .int 1), (0, .ref (h 0)), (1, .ref (h 18)), (2, .ref (h 19)), (3, .ref (h 22)), (4, .ref (h 23)), (5, .ref (h 24)), (6, .ref (h 25)), (7, .int (nI xx))] → W pP l eE rm_L_isPolicy sS mM args below meth cC H locs 186 1116 Q (F0 mM 347 ls []) := by
  subst hQ
  have hx := S.1
  have hb := S.2.1
  have hp9 := I.2.1
  intro H locs ls tr hW hl
  refine lv_iconst (v := 1) hx hb dL_isPolicy_347 (by decide) ?_
  refine lv_iload hx hb dL_isPolicy_348 (lv_at hl 10 rfl) ?_
  refine lv_iconst (v := 5) hx hb dL_isPolicy_350 (by decide) ?_
  refine lv_idiv hx hb dL_isPolicy_351 (by decide) ?_
  refine lv_bipush (v := 120) hx hb dL_isPolicy_352 (by decide) ?_
  refine k_irem hx hb dL_isPolicy_354 (by decide) ?_
  refine lv_iadd hx hb dL_isPolicy_355 ?_
  refine W.eq (g2 := F0 mM 356 ls [.int (nI (1 + xx / 5 % 120))]) (by rw [idv_nI (a := xx) (D := 5) 5 (by decide +kernel) hxx (by omega) (by omega), irm_nI (a := xx / 5) (D := 120) 120 (by decide +kernel) (by omega) (by omega) (by omega), add_nI 1 (by decide +kernel)]) ?_
  refine lv_istore (lv' := [(11, .int (nI (1 + xx / 5 % 120))), (9, .int 1), (8, .int 1), (0, .ref (h 0)), (1, .ref (h 18)), (2, .ref (h 19)), (3, .ref (h 22)), (4, .ref (h 23)), (5, .ref (h 24)), (6, .ref (h 25)), (7, .int (nI xx))]) hx hb dL_isPolicy_356 hl (by decide) rfl (fun ls hl => ?_)
  refine lv_iload hx hb dL_isPolicy_358 (lv_at hl 1 rfl) ?_
  refine lv_if_eq (tgt := 394) hx hb dL_isPolicy_360 (by decide) (fun c_1 => ?_) (fun c_1 => ?_)
  ·
    exact absurd c_1 (by decide)
  ·
    refine lv_aload_n hx hb dL_isPolicy_363 rfl (lv_at hl 3 rfl) ?_
    refine lv_iload hx hb dL_isPolicy_364 (lv_at hl 0 rfl) ?_
    obtain ⟨a1, tr2, e2, f1, f2⟩ := a_would I L (W := 1 + xx / 5 % 120) (by omega) (by omega) tr
    have e2 : F_X4_wouldLapse q v tr (nI (1 + xx / 5 % 120)) np = (0, a1, tr2) := e2
    refine kx_call0 (C := RX4) (As := [.int (nI (1 + xx / 5 % 120))]) (rest := []) (wr := [cB h (nI n), cH h, aI G (h 6) 60 mo, aI G (h 7) 60 ki, aI G (h 8) 60 am, aZ G (h 9) 60 sk, aZ G (h 10) 60 dn, aI G (h 11) 121 y1, aI G (h 12) 121 y2, aI G (h 13) 121 y3, aI G (h 14) 121 y4, aI G (h 15) 121 y5, aI G (h 16) 121 y6, aI G (h 17) 121 y7, aI G (h 18) 5 (nF (q.1, q.2.1, q.2.2, nI np, nI n)), aI G (h 19) 60 qf, aI G (h 22) 60 df, aI G (h 23) 7 (pF w), aI G (h 24) 64 sf, aI G (h 25) 64 cf]) (c_X4_wouldLapse l hst G h q v tr (nI (1 + xx / 5 % 120)) np I.2.1) (by rw [e2]) (by decide) S hK hW hXE hXZ gL_isPolicy_X4_wouldLapse rfl ⟨rfl, rfl⟩ nd_X4_wouldLapse ⟨rfl, rfl⟩ (qb := 0) (ci := 4) rfl rfl [0, 1, 4, 5] [2, 3, 6, 7, 8, 9, 10, 11, 12, 13, 14, 15, 16, 17, 18, 19, 20, 21, 22, 23] rfl rfl rfl rfl (by decide) rfl hl.1 rfl dL_isPolicy_366 ⟨by decide, by decide⟩ (fun H locs hW => ?_)
    rw [e2] at hW
    have hW : Wd G A sS.heap [cB h (nI n), cH h, aI G (h 6) 60 mo, aI G (h 7) 60 ki, aI G (h 8) 60 am, aZ G (h 9) 60 sk, aZ G (h 10) 60 dn, aI G (h 11) 121 y1, aI G (h 12) 121 y2, aI G (h 13) 121 y3, aI G (h 14) 121 y4, aI G (h 15) 121 y5, aI G (h 16) 121 y6, aI G (h 17) 121 y7, aI G (h 18) 5 (nF (q.1, q.2.1, q.2.2, nI np, nI n)), aI G (h 19) 60 qf, aI G (h 22) 60 df, aI G (h 23) 7 (pF w), aI G (h 24) 64 sf, aI G (h 25) 64 cf, cF h (nI np), cP (h 1) q, cS (h 4) v, cS (h 5) tr2] H locs := hW
    refine W.eq (g2 := F0 mM 369 ls [.int a1]) (by rw [e2]) ?_
    refine lv_iload hx hb dL_isPolicy_369 (lv_at hl 2 rfl) ?_
    refine lv_if_eq (tgt := 386) hx hb dL_isPolicy_371 (by decide) (fun c_2 => ?_) (fun c_2 => ?_)
    ·
      exact absurd c_2 (by decide)
    ·
      refine lv_aload_n hx hb dL_isPolicy_374 rfl (lv_at hl 4 rfl) ?_
      refine lv_aload hx hb dL_isPolicy_375 (lv_at hl 7 rfl) ?_
      refine lv_iload hx hb dL_isPolicy_377 (lv_at hl 0 rfl) ?_
      refine lv_iconst (v := 0) hx hb dL_isPolicy_379 (by decide) ?_
      refine k_callSm (As := [.ref (h 18), .ref (h 23), .int (nI (1 + xx / 5 % 120)), .int 0]) (rest := [.int a1]) (wr := [cB h (nI n), cH h, aI G (h 6) 60 mo, aI G (h 7) 60 ki, aI G (h 8) 60 am, aZ G (h 9) 60 sk, aZ G (h 10) 60 dn, aI G (h 11) 121 y1, aI G (h 12) 121 y2, aI G (h 13) 121 y3, aI G (h 14) 121 y4, aI G (h 15) 121 y5, aI G (h 16) 121 y6, aI G (h 17) 121 y7, aI G (h 19) 60 qf, aI G (h 22) 60 df, aI G (h 24) 64 sf, aI G (h 25) 64 cf, cF h (nI np), cP (h 1) q, cS (h 4) v, cS (h 5) tr2]) (c_L_lapses l G h q w 0 np n (1 + xx / 5 % 120) hag I.2.1 (by omega)) S hK hW gL_isPolicy_L_lapses rfl ⟨rfl, rfl⟩ nd_L_lapses ⟨rfl, rfl⟩ [14, 17] [0, 1, 2, 3, 4, 5, 6, 7, 8, 9, 10, 11, 12, 13, 15, 16, 18, 19, 20, 21, 22, 23] rfl rfl rfl rfl (by decide) rfl hl.1 rfl dL_isPolicy_380 ⟨by decide, by decide⟩ (fun H locs hW => ?_)
      have hW : Wd G A sS.heap [cB h (nI n), cH h, aI G (h 6) 60 mo, aI G (h 7) 60 ki, aI G (h 8) 60 am, aZ G (h 9) 60 sk, aZ G (h 10) 60 dn, aI G (h 11) 121 y1, aI G (h 12) 121 y2, aI G (h 13) 121 y3, aI G (h 14) 121 y4, aI G (h 15) 121 y5, aI G (h 16) 121 y6, aI G (h 17) 121 y7, aI G (h 19) 60 qf, aI G (h 22) 60 df, aI G (h 24) 64 sf, aI G (h 25) 64 cf, cF h (nI np), cP (h 1) q, cS (h 4) v, cS (h 5) tr2, aI G (h 18) 5 (nF (q.1, q.2.1, q.2.2, nI np, nI n)), aI G (h 23) 7 (pF w)] H locs := hW
      refine lv_goto (tgt := 387) hx hb dL_isPolicy_383 (by decide) ?_
      refine lv_icmp_ne (tgt := 394) hx hb dL_isPolicy_387 (by decide) (fun c_3 => ?_) (fun c_3 => ?_)
      ·
        exact absurd (f1 hlv) c_3
      ·
        refine lv_iconst (v := 1) hx hb dL_isPolicy_390 (by decide) ?_
        refine lv_goto (tgt := 395) hx hb dL_isPolicy_391 (by decide) ?_
        refine lv_istore (lv' := [(9, .int 1), (11, .int (nI (1 + xx / 5 % 120))), (8, .int 1), (0, .ref (h 0)), (1, .ref (h 18)), (2, .ref (h 19)), (3, .ref (h 22)), (4, .ref (h 23)), (5, .ref (h 24)), (6, .ref (h 25)), (7, .int (nI xx))]) hx hb dL_isPolicy_395 hl (by decide) rfl (fun ls hl => ?_)
        refine lv_iload hx hb dL_isPolicy_397 (lv_at hl 10 rfl) ?_
        refine lv_iconst (v := 3) hx hb dL_isPolicy_399 (by decide) ?_
        refine k_irem hx hb dL_isPolicy_400 (by decide) ?_
        refine lv_if_ne (tgt := 529) hx hb dL_isPolicy_401 (by decide) (fun c_4 => ?_) (fun c_4 => ?_)
        ·
          refine lv_iload hx hb dL_isPolicy_529 (lv_at hl 0 rfl) ?_
          exact kp_ret S hr hlk hK hW [18, 19, 0, 1, 20, 21, 2, 3, 4, 5, 6, 7, 8, 9, 10, 11, 12, 13, 22, 14, 15, 23, 16, 17] tr2 rfl rfl (by decide) (by decide) dL_isPolicy_531
        ·
          refine lv_iload hx hb dL_isPolicy_404 (lv_at hl 0 rfl) ?_
          refine lv_if_eq (tgt := 529) hx hb dL_isPolicy_406 (by decide) (fun c_5 => ?_) (fun c_5 => ?_)
          ·
            exact absurd c_5 (by decide)
          ·
            refine lv_iconst (v := 1) hx hb dL_isPolicy_409 (by decide) ?_
            refine lv_iload hx hb dL_isPolicy_410 (lv_at hl 10 rfl) ?_
            refine lv_bipush (v := 7) hx hb dL_isPolicy_412 (by decide) ?_
            refine lv_idiv hx hb dL_isPolicy_414 (by decide) ?_
            refine lv_bipush (v := 36) hx hb dL_isPolicy_415 (by decide) ?_
            refine k_irem hx hb dL_isPolicy_417 (by decide) ?_
            refine lv_iadd hx hb dL_isPolicy_418 ?_
            refine W.eq (g2 := F0 mM 419 ls [.int (nI (1 + xx / 7 % 36))]) (by rw [idv_nI (a := xx) (D := 7) 7 (by decide +kernel) hxx (by omega) (by omega), irm_nI (a := xx / 7) (D := 36) 36 (by decide +kernel) (by omega) (by omega) (by omega), add_nI 1 (by decide +kernel)]) ?_
            refine lv_istore (lv' := [(12, .int (nI (1 + xx / 7 % 36))), (9, .int 1), (11, .int (nI (1 + xx / 5 % 120))), (8, .int 1), (0, .ref (h 0)), (1, .ref (h 18)), (2, .ref (h 19)), (3, .ref (h 22)), (4, .ref (h 23)), (5, .ref (h 24)), (6, .ref (h 25)), (7, .int (nI xx))]) hx hb dL_isPolicy_419 hl (by decide) rfl (fun ls hl => ?_)
            refine lv_aload_n hx hb dL_isPolicy_421 rfl (lv_at hl 4 rfl) ?_
            refine lv_iload hx hb dL_isPolicy_422 (lv_at hl 0 rfl) ?_
            obtain ⟨a2, tr3, e3, g1, g2⟩ := a_need I L (W := 1 + xx / 7 % 36) (by omega) (by omega) tr2
            have e3 : F_X4_needed q v tr2 (nI (1 + xx / 7 % 36)) np = (0, a2, tr3) := e3
            refine kx_call0 (C := RX4) (As := [.int (nI (1 + xx / 7 % 36))]) (rest := []) (wr := [cB h (nI n), cH h, aI G (h 6) 60 mo, aI G (h 7) 60 ki, aI G (h 8) 60 am, aZ G (h 9) 60 sk, aZ G (h 10) 60 dn, aI G (h 11) 121 y1, aI G (h 12) 121 y2, aI G (h 13) 121 y3, aI G (h 14) 121 y4, aI G (h 15) 121 y5, aI G (h 16) 121 y6, aI G (h 17) 121 y7, aI G (h 19) 60 qf, aI G (h 22) 60 df, aI G (h 24) 64 sf, aI G (h 25) 64 cf, aI G (h 18) 5 (nF (q.1, q.2.1, q.2.2, nI np, nI n)), aI G (h 23) 7 (pF w)]) (c_X4_needed l hst G h q v tr2 (nI (1 + xx / 7 % 36)) np I.2.1) (by rw [e3]) (by decide) S hK hW hXE hXZ gL_isPolicy_X4_needed rfl ⟨rfl, rfl⟩ nd_X4_needed ⟨rfl, rfl⟩ (qb := 18) (ci := 4) rfl rfl [18, 19, 20, 21] [0, 1, 2, 3, 4, 5, 6, 7, 8, 9, 10, 11, 12, 13, 14, 15, 16, 17, 22, 23] rfl rfl rfl rfl (by decide) rfl hl.1 rfl dL_isPolicy_424 ⟨by decide, by decide⟩ (fun H locs hW => ?_)
            rw [e3] at hW
            have hW : Wd G A sS.heap [cB h (nI n), cH h, aI G (h 6) 60 mo, aI G (h 7) 60 ki, aI G (h 8) 60 am, aZ G (h 9) 60 sk, aZ G (h 10) 60 dn, aI G (h 11) 121 y1, aI G (h 12) 121 y2, aI G (h 13) 121 y3, aI G (h 14) 121 y4, aI G (h 15) 121 y5, aI G (h 16) 121 y6, aI G (h 17) 121 y7, aI G (h 19) 60 qf, aI G (h 22) 60 df, aI G (h 24) 64 sf, aI G (h 25) 64 cf, aI G (h 18) 5 (nF (q.1, q.2.1, q.2.2, nI np, nI n)), aI G (h 23) 7 (pF w), cF h (nI np), cP (h 1) q, cS (h 4) v, cS (h 5) tr3] H locs := hW
            refine W.eq (g2 := F0 mM 427 ls [.int a2]) (by rw [e3]) ?_
            rcases g1 hlv with ⟨ha2, hpos⟩ | ⟨p, hp, ha2, hz, hcs⟩
            ·
              subst ha2
              refine lv_istore (lv' := [(13, .int (-1)), (12, .int (nI (1 + xx / 7 % 36))), (9, .int 1), (11, .int (nI (1 + xx / 5 % 120))), (8, .int 1), (0, .ref (h 0)), (1, .ref (h 18)), (2, .ref (h 19)), (3, .ref (h 22)), (4, .ref (h 23)), (5, .ref (h 24)), (6, .ref (h 25)), (7, .int (nI xx))]) hx hb dL_isPolicy_427 hl (by decide) rfl (fun ls hl => ?_)
              refine lv_iload hx hb dL_isPolicy_429 (lv_at hl 4 rfl) ?_
              refine lv_if_ne (tgt := 448) hx hb dL_isPolicy_431 (by decide) (fun c_6 => ?_) (fun c_6 => ?_)
              ·
                refine lv_iload hx hb dL_isPolicy_448 (lv_at hl 0 rfl) ?_
                refine lv_if_ge (tgt := 474) hx hb dL_isPolicy_450 (by decide) (fun c_7 => ?_) (fun c_7 => ?_)
                ·
                  exact absurd c_7 (by decide)
                ·
                  refine lv_aload_n hx hb dL_isPolicy_453 rfl (lv_at hl 6 rfl) ?_
                  refine lv_aload hx hb dL_isPolicy_454 (lv_at hl 9 rfl) ?_
                  refine lv_iload hx hb dL_isPolicy_456 (lv_at hl 1 rfl) ?_
                  refine k_ldc S k_L_isPolicy_c127 dL_isPolicy_458 ?_
                  refine k_callSm (As := [.ref (h 18), .ref (h 23), .int (nI (1 + xx / 7 % 36)), .int 2000000]) (rest := []) (wr := [cB h (nI n), cH h, aI G (h 6) 60 mo, aI G (h 7) 60 ki, aI G (h 8) 60 am, aZ G (h 9) 60 sk, aZ G (h 10) 60 dn, aI G (h 11) 121 y1, aI G (h 12) 121 y2, aI G (h 13) 121 y3, aI G (h 14) 121 y4, aI G (h 15) 121 y5, aI G (h 16) 121 y6, aI G (h 17) 121 y7, aI G (h 19) 60 qf, aI G (h 22) 60 df, aI G (h 24) 64 sf, aI G (h 25) 64 cf, cF h (nI np), cP (h 1) q, cS (h 4) v, cS (h 5) tr3]) (c_L_lapses l G h q w 2000000 np n (1 + xx / 7 % 36) hag I.2.1 (by omega)) S hK hW gL_isPolicy_L_lapses rfl ⟨rfl, rfl⟩ nd_L_lapses ⟨rfl, rfl⟩ [18, 19] [0, 1, 2, 3, 4, 5, 6, 7, 8, 9, 10, 11, 12, 13, 14, 15, 16, 17, 20, 21, 22, 23] rfl rfl rfl rfl (by decide) rfl hl.1 rfl dL_isPolicy_460 ⟨by decide, by decide⟩ (fun H locs hW => ?_)
                  have hW : Wd G A sS.heap [cB h (nI n), cH h, aI G (h 6) 60 mo, aI G (h 7) 60 ki, aI G (h 8) 60 am, aZ G (h 9) 60 sk, aZ G (h 10) 60 dn, aI G (h 11) 121 y1, aI G (h 12) 121 y2, aI G (h 13) 121 y3, aI G (h 14) 121 y4, aI G (h 15) 121 y5, aI G (h 16) 121 y6, aI G (h 17) 121 y7, aI G (h 19) 60 qf, aI G (h 22) 60 df, aI G (h 24) 64 sf, aI G (h 25) 64 cf, cF h (nI np), cP (h 1) q, cS (h 4) v, cS (h 5) tr3, aI G (h 18) 5 (nF (q.1, q.2.1, q.2.2, nI np, nI n)), aI G (h 23) 7 (pF w)] H locs := hW
                  refine lv_if_le (tgt := 470) hx hb dL_isPolicy_463 (by decide) (fun c_8 => ?_) (fun c_8 => ?_)
                  ·
                    exact absurd c_8 hpos
                  ·
                    refine lv_iconst (v := 1) hx hb dL_isPolicy_466 (by decide) ?_
                    refine lv_goto (tgt := 527) hx hb dL_isPolicy_467 (by decide) ?_
                    refine lv_istore (lv' := [(9, .int 1), (13, .int (-1)), (12, .int (nI (1 + xx / 7 % 36))), (11, .int (nI (1 + xx / 5 % 120))), (8, .int 1), (0, .ref (h 0)), (1, .ref (h 18)), (2, .ref (h 19)), (3, .ref (h 22)), (4, .ref (h 23)), (5, .ref (h 24)), (6, .ref (h 25)), (7, .int (nI xx))]) hx hb dL_isPolicy_527 hl (by decide) rfl (fun ls hl => ?_)
                    refine lv_iload hx hb dL_isPolicy_529 (lv_at hl 0 rfl) ?_
                    exact kp_ret S hr hlk hK hW [18, 19, 0, 1, 20, 21, 2, 3, 4, 5, 6, 7, 8, 9, 10, 11, 12, 13, 22, 14, 15, 23, 16, 17] tr3 rfl rfl (by decide) (by decide) dL_isPolicy_531
              ·
                exact absurd c_6 (by decide)
            ·
              subst ha2
              refine lv_istore (lv' := [(13, .int (nI p)), (12, .int (nI (1 + xx / 7 % 36))), (9, .int 1), (11, .int (nI (1 + xx / 5 % 120))), (8, .int 1), (0, .ref (h 0)), (1, .ref (h 18)), (2, .ref (h 19)), (3, .ref (h 22)), (4, .ref (h 23)), (5, .ref (h 24)), (6, .ref (h 25)), (7, .int (nI xx))]) hx hb dL_isPolicy_427 hl (by decide) rfl (fun ls hl => ?_)
              refine lv_iload hx hb dL_isPolicy_429 (lv_at hl 4 rfl) ?_
              refine lv_if_ne (tgt := 448) hx hb dL_isPolicy_431 (by decide) (fun c_9 => ?_) (fun c_9 => ?_)
              ·
                refine lv_iload hx hb dL_isPolicy_448 (lv_at hl 0 rfl) ?_
                refine lv_if_ge (tgt := 474) hx hb dL_isPolicy_450 (by decide) (fun c_10 => ?_) (fun c_10 => ?_)
                ·
                  refine lv_aload_n hx hb dL_isPolicy_474 rfl (lv_at hl 6 rfl) ?_
                  refine lv_aload hx hb dL_isPolicy_475 (lv_at hl 9 rfl) ?_
                  refine lv_iload hx hb dL_isPolicy_477 (lv_at hl 1 rfl) ?_
                  refine lv_iload hx hb dL_isPolicy_479 (lv_at hl 0 rfl) ?_
                  refine k_callSm (As := [.ref (h 18), .ref (h 23), .int (nI (1 + xx / 7 % 36)), .int (nI p)]) (rest := []) (wr := [cB h (nI n), cH h, aI G (h 6) 60 mo, aI G (h 7) 60 ki, aI G (h 8) 60 am, aZ G (h 9) 60 sk, aZ G (h 10) 60 dn, aI G (h 11) 121 y1, aI G (h 12) 121 y2, aI G (h 13) 121 y3, aI G (h 14) 121 y4, aI G (h 15) 121 y5, aI G (h 16) 121 y6, aI G (h 17) 121 y7, aI G (h 19) 60 qf, aI G (h 22) 60 df, aI G (h 24) 64 sf, aI G (h 25) 64 cf, cF h (nI np), cP (h 1) q, cS (h 4) v, cS (h 5) tr3]) (c_L_lapses l G h q w (nI p) np n (1 + xx / 7 % 36) hag I.2.1 (by omega)) S hK hW gL_isPolicy_L_lapses rfl ⟨rfl, rfl⟩ nd_L_lapses ⟨rfl, rfl⟩ [18, 19] [0, 1, 2, 3, 4, 5, 6, 7, 8, 9, 10, 11, 12, 13, 14, 15, 16, 17, 20, 21, 22, 23] rfl rfl rfl rfl (by decide) rfl hl.1 rfl dL_isPolicy_481 ⟨by decide, by decide⟩ (fun H locs hW => ?_)
                  have hW : Wd G A sS.heap [cB h (nI n), cH h, aI G (h 6) 60 mo, aI G (h 7) 60 ki, aI G (h 8) 60 am, aZ G (h 9) 60 sk, aZ G (h 10) 60 dn, aI G (h 11) 121 y1, aI G (h 12) 121 y2, aI G (h 13) 121 y3, aI G (h 14) 121 y4, aI G (h 15) 121 y5, aI G (h 16) 121 y6, aI G (h 17) 121 y7, aI G (h 19) 60 qf, aI G (h 22) 60 df, aI G (h 24) 64 sf, aI G (h 25) 64 cf, cF h (nI np), cP (h 1) q, cS (h 4) v, cS (h 5) tr3, aI G (h 18) 5 (nF (q.1, q.2.1, q.2.2, nI np, nI n)), aI G (h 23) 7 (pF w)] H locs := hW
                  refine lv_if_ge (tgt := 526) hx hb dL_isPolicy_484 (by decide) (fun c_11 => ?_) (fun c_11 => ?_)
                  ·
                    exact absurd c_11 (fun z => by rw [hz] at z; exact absurd z (by decide))
                  ·
                    refine lv_iload hx hb dL_isPolicy_487 (lv_at hl 0 rfl) ?_
                    refine lv_if_eq (tgt := 522) hx hb dL_isPolicy_489 (by decide) (fun c_12 => ?_) (fun c_12 => ?_)
                    ·
                      refine lv_iconst (v := 1) hx hb dL_isPolicy_522 (by decide) ?_
                      refine lv_goto (tgt := 527) hx hb dL_isPolicy_523 (by decide) ?_
                      refine lv_istore (lv' := [(9, .int 1), (13, .int (nI p)), (12, .int (nI (1 + xx / 7 % 36))), (11, .int (nI (1 + xx / 5 % 120))), (8, .int 1), (0, .ref (h 0)), (1, .ref (h 18)), (2, .ref (h 19)), (3, .ref (h 22)), (4, .ref (h 23)), (5, .ref (h 24)), (6, .ref (h 25)), (7, .int (nI xx))]) hx hb dL_isPolicy_527 hl (by decide) rfl (fun ls hl => ?_)
                      refine lv_iload hx hb dL_isPolicy_529 (lv_at hl 0 rfl) ?_
                      exact kp_ret S hr hlk hK hW [18, 19, 0, 1, 20, 21, 2, 3, 4, 5, 6, 7, 8, 9, 10, 11, 12, 13, 22, 14, 15, 23, 16, 17] tr3 rfl rfl (by decide) (by decide) dL_isPolicy_531
                    ·
                      refine lv_aload_n hx hb dL_isPolicy_492 rfl (lv_at hl 6 rfl) ?_
                      refine lv_aload hx hb dL_isPolicy_493 (lv_at hl 9 rfl) ?_
                      refine lv_iload hx hb dL_isPolicy_495 (lv_at hl 1 rfl) ?_
                      refine lv_iload hx hb dL_isPolicy_497 (lv_at hl 0 rfl) ?_
                      refine lv_iconst (v := 1) hx hb dL_isPolicy_499 (by decide) ?_
                      refine lv_isub hx hb dL_isPolicy_500 ?_
                      have hcs2 := hcs.resolve_left (fun z => c_12 (by rw [z]; exact nI_0))
                      refine W.eq (g2 := F0 mM 501 ls [.int (nI (p - 1)), .int (nI (1 + xx / 7 % 36)), .ref (h 23), .ref (h 18)]) (by rw [sub1_nI hcs2.1]) ?_
                      refine k_callSm (As := [.ref (h 18), .ref (h 23), .int (nI (1 + xx / 7 % 36)), .int (nI (p - 1))]) (rest := []) (wr := [cB h (nI n), cH h, aI G (h 6) 60 mo, aI G (h 7) 60 ki, aI G (h 8) 60 am, aZ G (h 9) 60 sk, aZ G (h 10) 60 dn, aI G (h 11) 121 y1, aI G (h 12) 121 y2, aI G (h 13) 121 y3, aI G (h 14) 121 y4, aI G (h 15) 121 y5, aI G (h 16) 121 y6, aI G (h 17) 121 y7, aI G (h 19) 60 qf, aI G (h 22) 60 df, aI G (h 24) 64 sf, aI G (h 25) 64 cf, cF h (nI np), cP (h 1) q, cS (h 4) v, cS (h 5) tr3]) (c_L_lapses l G h q w (nI (p - 1)) np n (1 + xx / 7 % 36) hag I.2.1 (by omega)) S hK hW gL_isPolicy_L_lapses rfl ⟨rfl, rfl⟩ nd_L_lapses ⟨rfl, rfl⟩ [22, 23] [0, 1, 2, 3, 4, 5, 6, 7, 8, 9, 10, 11, 12, 13, 14, 15, 16, 17, 18, 19, 20, 21] rfl rfl rfl rfl (by decide) rfl hl.1 rfl dL_isPolicy_501 ⟨by decide, by decide⟩ (fun H locs hW => ?_)
                      have hW : Wd G A sS.heap [cB h (nI n), cH h, aI G (h 6) 60 mo, aI G (h 7) 60 ki, aI G (h 8) 60 am, aZ G (h 9) 60 sk, aZ G (h 10) 60 dn, aI G (h 11) 121 y1, aI G (h 12) 121 y2, aI G (h 13) 121 y3, aI G (h 14) 121 y4, aI G (h 15) 121 y5, aI G (h 16) 121 y6, aI G (h 17) 121 y7, aI G (h 19) 60 qf, aI G (h 22) 60 df, aI G (h 24) 64 sf, aI G (h 25) 64 cf, cF h (nI np), cP (h 1) q, cS (h 4) v, cS (h 5) tr3, aI G (h 18) 5 (nF (q.1, q.2.1, q.2.2, nI np, nI n)), aI G (h 23) 7 (pF w)] H locs := hW
                      refine lv_if_le (tgt := 526) hx hb dL_isPolicy_504 (by decide) (fun c_13 => ?_) (fun c_13 => ?_)
                      ·
                        exact absurd c_13 hcs2.2.1
                      ·
                        refine lv_aload_n hx hb dL_isPolicy_507 rfl (lv_at hl 6 rfl) ?_
                        refine lv_aload hx hb dL_isPolicy_508 (lv_at hl 9 rfl) ?_
                        refine lv_iload hx hb dL_isPolicy_510 (lv_at hl 1 rfl) ?_
                        refine lv_iload hx hb dL_isPolicy_512 (lv_at hl 0 rfl) ?_
                        refine lv_iconst (v := 2) hx hb dL_isPolicy_514 (by decide) ?_
                        refine lv_idiv hx hb dL_isPolicy_515 (by decide) ?_
                        refine W.eq (g2 := F0 mM 516 ls [.int (nI (p / 2)), .int (nI (1 + xx / 7 % 36)), .ref (h 23), .ref (h 18)]) (by rw [idv_nI (a := p) (D := 2) 2 (by decide +kernel) (by omega) (by omega) (by omega)]) ?_
                        refine k_callSm (As := [.ref (h 18), .ref (h 23), .int (nI (1 + xx / 7 % 36)), .int (nI (p / 2))]) (rest := []) (wr := [cB h (nI n), cH h, aI G (h 6) 60 mo, aI G (h 7) 60 ki, aI G (h 8) 60 am, aZ G (h 9) 60 sk, aZ G (h 10) 60 dn, aI G (h 11) 121 y1, aI G (h 12) 121 y2, aI G (h 13) 121 y3, aI G (h 14) 121 y4, aI G (h 15) 121 y5, aI G (h 16) 121 y6, aI G (h 17) 121 y7, aI G (h 19) 60 qf, aI G (h 22) 60 df, aI G (h 24) 64 sf, aI G (h 25) 64 cf, cF h (nI np), cP (h 1) q, cS (h 4) v, cS (h 5) tr3]) (c_L_lapses l G h q w (nI (p / 2)) np n (1 + xx / 7 % 36) hag I.2.1 (by omega)) S hK hW gL_isPolicy_L_lapses rfl ⟨rfl, rfl⟩ nd_L_lapses ⟨rfl, rfl⟩ [22, 23] [0, 1, 2, 3, 4, 5, 6, 7, 8, 9, 10, 11, 12, 13, 14, 15, 16, 17, 18, 19, 20, 21] rfl rfl rfl rfl (by decide) rfl hl.1 rfl dL_isPolicy_516 ⟨by decide, by decide⟩ (fun H locs hW => ?_)
                        have hW : Wd G A sS.heap [cB h (nI n), cH h, aI G (h 6) 60 mo, aI G (h 7) 60 ki, aI G (h 8) 60 am, aZ G (h 9) 60 sk, aZ G (h 10) 60 dn, aI G (h 11) 121 y1, aI G (h 12) 121 y2, aI G (h 13) 121 y3, aI G (h 14) 121 y4, aI G (h 15) 121 y5, aI G (h 16) 121 y6, aI G (h 17) 121 y7, aI G (h 19) 60 qf, aI G (h 22) 60 df, aI G (h 24) 64 sf, aI G (h 25) 64 cf, cF h (nI np), cP (h 1) q, cS (h 4) v, cS (h 5) tr3, aI G (h 18) 5 (nF (q.1, q.2.1, q.2.2, nI np, nI n)), aI G (h 23) 7 (pF w)] H locs := hW
                        refine lv_if_le (tgt := 526) hx hb dL_isPolicy_519 (by decide) (fun c_14 => ?_) (fun c_14 => ?_)
                        ·
                          exact absurd c_14 hcs2.2.2
                        ·
                          refine lv_iconst (v := 1) hx hb dL_isPolicy_522 (by decide) ?_
                          refine lv_goto (tgt := 527) hx hb dL_isPolicy_523 (by decide) ?_
                          refine lv_istore (lv' := [(9, .int 1), (13, .int (nI p)), (12, .int (nI (1 + xx / 7 % 36))), (11, .int (nI (1 + xx / 5 % 120))), (8, .int 1), (0, .ref (h 0)), (1, .ref (h 18)), (2, .ref (h 19)), (3, .ref (h 22)), (4, .ref (h 23)), (5, .ref (h 24)), (6, .ref (h 25)), (7, .int (nI xx))]) hx hb dL_isPolicy_527 hl (by decide) rfl (fun ls hl => ?_)
                          refine lv_iload hx hb dL_isPolicy_529 (lv_at hl 0 rfl) ?_
                          exact kp_ret S hr hlk hK hW [18, 19, 0, 1, 20, 21, 2, 3, 4, 5, 6, 7, 8, 9, 10, 11, 12, 13, 22, 14, 15, 23, 16, 17] tr3 rfl rfl (by decide) (by decide) dL_isPolicy_531
                ·
                  exact absurd (nI_pos' (by omega)) c_10
              ·
                exact absurd c_9 (by decide)
set_option maxHeartbeats 8000000 in
set_option maxRecDepth 100000 in
theorem pE0_L_isPolicy {pP : Program} {l : Launch} {eE : Env} {sS : State} {mM : MethodId} {args : Array Value} {below : List Frame} {meth : Method} {cC : Code} {Q : State → Prop} {G : GG} {A : Nat → Prop} {h : Nat → Nat} {np n xx : Nat} {q : S3} {mo ki am : N32} {sk dn : Nat → Bool} {y1 y2 y3 y4 y5 y6 y7 : N32} {v : S7} {qf af mf df sf cf lf rf gf tf : N32} {w : S7} (hst : l.stackTraces = false) (S : CallFix pP mM cC cL_isPolicy 14 sS args wsL_isPolicy RL) (hK : Kn G sS) (hXE : XE sS) (hXZ : XZ A sS sS.heap) (I : Inv np n q mo ki am sk (dn, y1, y2, y3, y4, y5, y6, y7, v)) (L : LInv np n q mo ki am sk qf af mf df sf cf lf rf gf tf w) (hnp : np ≤ 61) (hxx : xx < 2 ^ 31) (hag : AG (q.1, q.2.1, q.2.2, nI np, nI n)) (hlv : 2 ≤ w.1) (hr : meth.sig.returnType = some .boolean) (hlk : meth.locks = false) (hQ : Q = vx_MQ below (QP G A (fun tr => [cF h (nI np), cP (h 1) q, cB h (nI n), cH h, cS (h 4) v, cS (h 5) tr, aI G (h 6) 60 mo, aI G (h 7) 60 ki, aI G (h 8) 60 am, aZ G (h 9) 60 sk, aZ G (h 10) 60 dn, aI G (h 11) 121 y1, aI G (h 12) 121 y2, aI G (h 13) 121 y3, aI G (h 14) 121 y4, aI G (h 15) 121 y5, aI G (h 16) 121 y6, aI G (h 17) 121 y7, aI G (h 18) 5 (nF (q.1, q.2.1, q.2.2, nI np, nI n)), aI G (h 19) 60 qf, aI G (h 22) 60 df, aI G (h 23) 7 (pF w), aI G (h 24) 64 sf, aI G (h 25) 64 cf])) XF args sS 192 1156 A) :
    ∀ (H : Heap) (locs : List Loc) (ls : Array Slot) (tr : S7), Wd G A sS.heap [cF h (nI np), cP (h 1) q, cB h (nI n), cH h, cS (h 4) v, cS (h 5) tr, aI G (h 6) 60 mo, aI G (h 7) 60 ki, aI G (h 8) 60 am, aZ G (h 9) 60 sk, aZ G (h 10) 60 dn, aI G (h 11) 121 y1, aI G (h 12) 121 y2, aI G (h 13) 121 y3, aI G (h 14) 121 y4, aI G (h 15) 121 y5, aI G (h 16) 121 y6, aI G (h 17) 121 y7, aI G (h 18) 5 (nF (q.1, q.2.1, q.2.2, nI np, nI n)), aI G (h 19) 60 qf, aI G (h 22) 60 df, aI G (h 23) 7 (pF w), aI G (h 24) 64 sf, aI G (h 25) 64 cf] H locs → lv_has ls 14 [(11, .int (nI n)), (9, .int 1), (8, .int 0), (0, .ref (h 0)), (1, .ref (h 18)), (2, .ref (h 19)), (3, .ref (h 22)), (4, .ref (h 23)), (5, .ref (h 24)), (6, .ref (h 25)), (7, .int (nI xx))] → W pP l eE rm_L_isPolicy sS mM args below meth cC H locs 186 1116 Q (F0 mM 347 ls []) := by
  subst hQ
  have hx := S.1
  have hb := S.2.1
  have hp9 := I.2.1
  intro H locs ls tr hW hl
  refine lv_iconst (v := 1) hx hb dL_isPolicy_347 (by decide) ?_
  refine lv_iload hx hb dL_isPolicy_348 (lv_at hl 10 rfl) ?_
  refine lv_iconst (v := 5) hx hb dL_isPolicy_350 (by decide) ?_
  refine lv_idiv hx hb dL_isPolicy_351 (by decide) ?_
  refine lv_bipush (v := 120) hx hb dL_isPolicy_352 (by decide) ?_
  refine k_irem hx hb dL_isPolicy_354 (by decide) ?_
  refine lv_iadd hx hb dL_isPolicy_355 ?_
  refine W.eq (g2 := F0 mM 356 ls [.int (nI (1 + xx / 5 % 120))]) (by rw [idv_nI (a := xx) (D := 5) 5 (by decide +kernel) hxx (by omega) (by omega), irm_nI (a := xx / 5) (D := 120) 120 (by decide +kernel) (by omega) (by omega) (by omega), add_nI 1 (by decide +kernel)]) ?_
  refine lv_istore (lv' := [(11, .int (nI (1 + xx / 5 % 120))), (9, .int 1), (8, .int 0), (0, .ref (h 0)), (1, .ref (h 18)), (2, .ref (h 19)), (3, .ref (h 22)), (4, .ref (h 23)), (5, .ref (h 24)), (6, .ref (h 25)), (7, .int (nI xx))]) hx hb dL_isPolicy_356 hl (by decide) rfl (fun ls hl => ?_)
  refine lv_iload hx hb dL_isPolicy_358 (lv_at hl 1 rfl) ?_
  refine lv_if_eq (tgt := 394) hx hb dL_isPolicy_360 (by decide) (fun c_1 => ?_) (fun c_1 => ?_)
  ·
    exact absurd c_1 (by decide)
  ·
    refine lv_aload_n hx hb dL_isPolicy_363 rfl (lv_at hl 3 rfl) ?_
    refine lv_iload hx hb dL_isPolicy_364 (lv_at hl 0 rfl) ?_
    obtain ⟨a1, tr2, e2, f1, f2⟩ := a_would I L (W := 1 + xx / 5 % 120) (by omega) (by omega) tr
    have e2 : F_X4_wouldLapse q v tr (nI (1 + xx / 5 % 120)) np = (0, a1, tr2) := e2
    refine kx_call0 (C := RX4) (As := [.int (nI (1 + xx / 5 % 120))]) (rest := []) (wr := [cB h (nI n), cH h, aI G (h 6) 60 mo, aI G (h 7) 60 ki, aI G (h 8) 60 am, aZ G (h 9) 60 sk, aZ G (h 10) 60 dn, aI G (h 11) 121 y1, aI G (h 12) 121 y2, aI G (h 13) 121 y3, aI G (h 14) 121 y4, aI G (h 15) 121 y5, aI G (h 16) 121 y6, aI G (h 17) 121 y7, aI G (h 18) 5 (nF (q.1, q.2.1, q.2.2, nI np, nI n)), aI G (h 19) 60 qf, aI G (h 22) 60 df, aI G (h 23) 7 (pF w), aI G (h 24) 64 sf, aI G (h 25) 64 cf]) (c_X4_wouldLapse l hst G h q v tr (nI (1 + xx / 5 % 120)) np I.2.1) (by rw [e2]) (by decide) S hK hW hXE hXZ gL_isPolicy_X4_wouldLapse rfl ⟨rfl, rfl⟩ nd_X4_wouldLapse ⟨rfl, rfl⟩ (qb := 0) (ci := 4) rfl rfl [0, 1, 4, 5] [2, 3, 6, 7, 8, 9, 10, 11, 12, 13, 14, 15, 16, 17, 18, 19, 20, 21, 22, 23] rfl rfl rfl rfl (by decide) rfl hl.1 rfl dL_isPolicy_366 ⟨by decide, by decide⟩ (fun H locs hW => ?_)
    rw [e2] at hW
    have hW : Wd G A sS.heap [cB h (nI n), cH h, aI G (h 6) 60 mo, aI G (h 7) 60 ki, aI G (h 8) 60 am, aZ G (h 9) 60 sk, aZ G (h 10) 60 dn, aI G (h 11) 121 y1, aI G (h 12) 121 y2, aI G (h 13) 121 y3, aI G (h 14) 121 y4, aI G (h 15) 121 y5, aI G (h 16) 121 y6, aI G (h 17) 121 y7, aI G (h 18) 5 (nF (q.1, q.2.1, q.2.2, nI np, nI n)), aI G (h 19) 60 qf, aI G (h 22) 60 df, aI G (h 23) 7 (pF w), aI G (h 24) 64 sf, aI G (h 25) 64 cf, cF h (nI np), cP (h 1) q, cS (h 4) v, cS (h 5) tr2] H locs := hW
    refine W.eq (g2 := F0 mM 369 ls [.int a1]) (by rw [e2]) ?_
    refine lv_iload hx hb dL_isPolicy_369 (lv_at hl 2 rfl) ?_
    refine lv_if_eq (tgt := 386) hx hb dL_isPolicy_371 (by decide) (fun c_2 => ?_) (fun c_2 => ?_)
    ·
      refine lv_iconst (v := (-1)) hx hb dL_isPolicy_386 (by decide) ?_
      refine lv_icmp_ne (tgt := 394) hx hb dL_isPolicy_387 (by decide) (fun c_3 => ?_) (fun c_3 => ?_)
      ·
        exact absurd (f2 hlv) c_3
      ·
        refine lv_iconst (v := 1) hx hb dL_isPolicy_390 (by decide) ?_
        refine lv_goto (tgt := 395) hx hb dL_isPolicy_391 (by decide) ?_
        refine lv_istore (lv' := [(9, .int 1), (11, .int (nI (1 + xx / 5 % 120))), (8, .int 0), (0, .ref (h 0)), (1, .ref (h 18)), (2, .ref (h 19)), (3, .ref (h 22)), (4, .ref (h 23)), (5, .ref (h 24)), (6, .ref (h 25)), (7, .int (nI xx))]) hx hb dL_isPolicy_395 hl (by decide) rfl (fun ls hl => ?_)
        refine lv_iload hx hb dL_isPolicy_397 (lv_at hl 10 rfl) ?_
        refine lv_iconst (v := 3) hx hb dL_isPolicy_399 (by decide) ?_
        refine k_irem hx hb dL_isPolicy_400 (by decide) ?_
        refine lv_if_ne (tgt := 529) hx hb dL_isPolicy_401 (by decide) (fun c_4 => ?_) (fun c_4 => ?_)
        ·
          refine lv_iload hx hb dL_isPolicy_529 (lv_at hl 0 rfl) ?_
          exact kp_ret S hr hlk hK hW [20, 21, 0, 1, 22, 23, 2, 3, 4, 5, 6, 7, 8, 9, 10, 11, 12, 13, 14, 15, 16, 17, 18, 19] tr2 rfl rfl (by decide) (by decide) dL_isPolicy_531
        ·
          refine lv_iload hx hb dL_isPolicy_404 (lv_at hl 0 rfl) ?_
          refine lv_if_eq (tgt := 529) hx hb dL_isPolicy_406 (by decide) (fun c_5 => ?_) (fun c_5 => ?_)
          ·
            exact absurd c_5 (by decide)
          ·
            refine lv_iconst (v := 1) hx hb dL_isPolicy_409 (by decide) ?_
            refine lv_iload hx hb dL_isPolicy_410 (lv_at hl 10 rfl) ?_
            refine lv_bipush (v := 7) hx hb dL_isPolicy_412 (by decide) ?_
            refine lv_idiv hx hb dL_isPolicy_414 (by decide) ?_
            refine lv_bipush (v := 36) hx hb dL_isPolicy_415 (by decide) ?_
            refine k_irem hx hb dL_isPolicy_417 (by decide) ?_
            refine lv_iadd hx hb dL_isPolicy_418 ?_
            refine W.eq (g2 := F0 mM 419 ls [.int (nI (1 + xx / 7 % 36))]) (by rw [idv_nI (a := xx) (D := 7) 7 (by decide +kernel) hxx (by omega) (by omega), irm_nI (a := xx / 7) (D := 36) 36 (by decide +kernel) (by omega) (by omega) (by omega), add_nI 1 (by decide +kernel)]) ?_
            refine lv_istore (lv' := [(12, .int (nI (1 + xx / 7 % 36))), (9, .int 1), (11, .int (nI (1 + xx / 5 % 120))), (8, .int 0), (0, .ref (h 0)), (1, .ref (h 18)), (2, .ref (h 19)), (3, .ref (h 22)), (4, .ref (h 23)), (5, .ref (h 24)), (6, .ref (h 25)), (7, .int (nI xx))]) hx hb dL_isPolicy_419 hl (by decide) rfl (fun ls hl => ?_)
            refine lv_aload_n hx hb dL_isPolicy_421 rfl (lv_at hl 4 rfl) ?_
            refine lv_iload hx hb dL_isPolicy_422 (lv_at hl 0 rfl) ?_
            obtain ⟨a2, tr3, e3, g1, g2⟩ := a_need I L (W := 1 + xx / 7 % 36) (by omega) (by omega) tr2
            have e3 : F_X4_needed q v tr2 (nI (1 + xx / 7 % 36)) np = (0, a2, tr3) := e3
            refine kx_call0 (C := RX4) (As := [.int (nI (1 + xx / 7 % 36))]) (rest := []) (wr := [cB h (nI n), cH h, aI G (h 6) 60 mo, aI G (h 7) 60 ki, aI G (h 8) 60 am, aZ G (h 9) 60 sk, aZ G (h 10) 60 dn, aI G (h 11) 121 y1, aI G (h 12) 121 y2, aI G (h 13) 121 y3, aI G (h 14) 121 y4, aI G (h 15) 121 y5, aI G (h 16) 121 y6, aI G (h 17) 121 y7, aI G (h 18) 5 (nF (q.1, q.2.1, q.2.2, nI np, nI n)), aI G (h 19) 60 qf, aI G (h 22) 60 df, aI G (h 23) 7 (pF w), aI G (h 24) 64 sf, aI G (h 25) 64 cf]) (c_X4_needed l hst G h q v tr2 (nI (1 + xx / 7 % 36)) np I.2.1) (by rw [e3]) (by decide) S hK hW hXE hXZ gL_isPolicy_X4_needed rfl ⟨rfl, rfl⟩ nd_X4_needed ⟨rfl, rfl⟩ (qb := 20) (ci := 4) rfl rfl [20, 21, 22, 23] [0, 1, 2, 3, 4, 5, 6, 7, 8, 9, 10, 11, 12, 13, 14, 15, 16, 17, 18, 19] rfl rfl rfl rfl (by decide) rfl hl.1 rfl dL_isPolicy_424 ⟨by decide, by decide⟩ (fun H locs hW => ?_)
            rw [e3] at hW
            have hW : Wd G A sS.heap [cB h (nI n), cH h, aI G (h 6) 60 mo, aI G (h 7) 60 ki, aI G (h 8) 60 am, aZ G (h 9) 60 sk, aZ G (h 10) 60 dn, aI G (h 11) 121 y1, aI G (h 12) 121 y2, aI G (h 13) 121 y3, aI G (h 14) 121 y4, aI G (h 15) 121 y5, aI G (h 16) 121 y6, aI G (h 17) 121 y7, aI G (h 18) 5 (nF (q.1, q.2.1, q.2.2, nI np, nI n)), aI G (h 19) 60 qf, aI G (h 22) 60 df, aI G (h 23) 7 (pF w), aI G (h 24) 64 sf, aI G (h 25) 64 cf, cF h (nI np), cP (h 1) q, cS (h 4) v, cS (h 5) tr3] H locs := hW
            refine W.eq (g2 := F0 mM 427 ls [.int a2]) (by rw [e3]) ?_
            refine lv_istore (lv' := [(13, .int a2), (12, .int (nI (1 + xx / 7 % 36))), (9, .int 1), (11, .int (nI (1 + xx / 5 % 120))), (8, .int 0), (0, .ref (h 0)), (1, .ref (h 18)), (2, .ref (h 19)), (3, .ref (h 22)), (4, .ref (h 23)), (5, .ref (h 24)), (6, .ref (h 25)), (7, .int (nI xx))]) hx hb dL_isPolicy_427 hl (by decide) rfl (fun ls hl => ?_)
            refine lv_iload hx hb dL_isPolicy_429 (lv_at hl 4 rfl) ?_
            refine lv_if_ne (tgt := 448) hx hb dL_isPolicy_431 (by decide) (fun c_6 => ?_) (fun c_6 => ?_)
            ·
              exact absurd c_6 (by decide)
            ·
              refine lv_iload hx hb dL_isPolicy_434 (lv_at hl 0 rfl) ?_
              refine lv_iconst (v := (-1)) hx hb dL_isPolicy_436 (by decide) ?_
              refine lv_icmp_ne (tgt := 444) hx hb dL_isPolicy_437 (by decide) (fun c_7 => ?_) (fun c_7 => ?_)
              ·
                exact absurd (g2 hlv) c_7
              ·
                refine lv_iconst (v := 1) hx hb dL_isPolicy_440 (by decide) ?_
                refine lv_goto (tgt := 527) hx hb dL_isPolicy_441 (by decide) ?_
                refine lv_istore (lv' := [(9, .int 1), (13, .int a2), (12, .int (nI (1 + xx / 7 % 36))), (11, .int (nI (1 + xx / 5 % 120))), (8, .int 0), (0, .ref (h 0)), (1, .ref (h 18)), (2, .ref (h 19)), (3, .ref (h 22)), (4, .ref (h 23)), (5, .ref (h 24)), (6, .ref (h 25)), (7, .int (nI xx))]) hx hb dL_isPolicy_527 hl (by decide) rfl (fun ls hl => ?_)
                refine lv_iload hx hb dL_isPolicy_529 (lv_at hl 0 rfl) ?_
                exact kp_ret S hr hlk hK hW [20, 21, 0, 1, 22, 23, 2, 3, 4, 5, 6, 7, 8, 9, 10, 11, 12, 13, 14, 15, 16, 17, 18, 19] tr3 rfl rfl (by decide) (by decide) dL_isPolicy_531
    ·
      exact absurd c_2 (by decide)
