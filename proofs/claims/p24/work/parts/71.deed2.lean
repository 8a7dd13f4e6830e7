set_option maxHeartbeats 8000000 in
set_option maxRecDepth 100000 in
theorem ltell4 {pP : Program} {l : Launch} {eE : Env} {sS : State} {mM : MethodId} {args : Array Value} {below : List Frame} {meth : Method} {cC : Code} {Q : State → Prop} {G : GG} {A : Nat → Prop} {h : Nat → Nat} {b L : Nat} {xs : Nat → Int32} (X : LWX pP l sS mM args cC G A b L xs) {cells slots t Y : Nat} (hY : Y < 2 ^ 31) (hc : cells + 193 ≤ 600130) (hs : slots + 1162 ≤ 7301080) (K : LKd pP l eE sS mM args below meth cC Q G A h b 708 Y t (cells + 1) (slots + 6)) :
    ∀ (np n : Nat) (q : S3) (mo ki am : N32) (sk dn : Nat → Bool) (y1 y2 y3 y4 y5 y6 y7 : N32) (v tr : S7) (qf af mf df sf cf lf rf gf tf : N32) (w : S7), Inv np n q mo ki am sk (dn, y1, y2, y3, y4, y5, y6, y7, v) → LInv np n q mo ki am sk qf af mf df sf cf lf rf gf tf w → np ≤ 61 → ∀ M : Nat, M ≤ np → ∀ Ac : Nat, Ac ≤ 5 → ∀ B : Nat, 1 ≤ B → B ≤ 2000000 → ∀ (H : Heap) (locs : List Loc) (ls : Array Slot), Wd G A sS.heap [cF h (nI np), cP (h 1) q, cB h (nI n), cH h, cS (h 4) v, cS (h 5) tr, aI G (h 6) 60 mo, aI G (h 7) 60 ki, aI G (h 8) 60 am, aZ G (h 9) 60 sk, aZ G (h 10) 60 dn, aI G (h 11) 121 y1, aI G (h 12) 121 y2, aI G (h 13) 121 y3, aI G (h 14) 121 y4, aI G (h 15) 121 y5, aI G (h 16) 121 y6, aI G (h 17) 121 y7, aI G (h 18) 5 (nF (q.1, q.2.1, q.2.2, nI np, nI n)), aI G (h 19) 60 qf, aI G (h 20) 60 af, aI G (h 21) 60 mf, aI G (h 22) 60 df, aI G (h 23) 7 (pF w), aI G (h 24) 64 sf, aI G (h 25) 64 cf, aI G (h 26) 64 lf, aI G (h 27) 64 rf, aI G (h 28) 64 gf, aI G (h 29) 64 tf] H locs → lv_has ls 23 [(20, .int (nI Ac)), (19, .int (nI M)), (18, .int (nI Y)), (15, .int (nI t)), (14, .int 1), (0, .ref b), (1, .ref (h 0)), (2, .ref (h 18)), (3, .ref (h 19)), (4, .ref (h 20)), (5, .ref (h 21)), (6, .ref (h 22)), (7, .ref (h 23)), (8, .ref (h 24)), (9, .ref (h 25)), (10, .ref (h 26)), (11, .ref (h 27)), (12, .ref (h 28)), (13, .ref (h 29))] → W pP l eE room_1 sS mM args below meth cC H locs cells slots Q (F0 mM 398 ls [.int (nI B)]) := by
  obtain ⟨S, hK, hXE, hXZ, hst, hX, hbl, hbA, hL⟩ := X
  have hx := S.1
  have hb := S.2.1
  have hf0 : cells ≤ room_1.cells ∧ slots ≤ room_1.slots := ⟨by show _ ≤ 600130; omega, by show _ ≤ 7301080; omega⟩
  have hf1 : cells + 1 ≤ room_1.cells ∧ slots + 6 ≤ room_1.slots := ⟨by show _ ≤ 600130; omega, by show _ ≤ 7301080; omega⟩
  unfold LKd at K
  intro np n q mo ki am sk dn y1 y2 y3 y4 y5 y6 y7 v tr qf af mf df sf cf lf rf gf tf w I L9 hnp M hM Ac hAc B hB1 hB2 H locs ls hW hl
  have hn := I.1
  have hp := I.2.1
  have hxa : 0 ≤ nI Ac ∧ nI Ac ≤ 5 := rng_nI 0 Ac 5 (by decide +kernel) (by decide +kernel) (by omega) hAc (by omega)
  have hxb : 1 ≤ nI B ∧ nI B ≤ 2000000 := rng_nI 1 B 2000000 (by decide +kernel) (by decide +kernel) hB1 hB2 (by omega)
  refine lv_istore (lv' := [(21, .int (nI B)), (20, .int (nI Ac)), (19, .int (nI M)), (18, .int (nI Y)), (15, .int (nI t)), (14, .int 1), (0, .ref b), (1, .ref (h 0)), (2, .ref (h 18)), (3, .ref (h 19)), (4, .ref (h 20)), (5, .ref (h 21)), (6, .ref (h 22)), (7, .ref (h 23)), (8, .ref (h 24)), (9, .ref (h 25)), (10, .ref (h 26)), (11, .ref (h 27)), (12, .ref (h 28)), (13, .ref (h 29))]) hx hb dL_law_398 hl (by decide) rfl (fun ls hl => ?_)
  refine lv_aload_n hx hb dL_law_400 rfl (lv_at hl 8 rfl) ?_
  refine lv_iconst (v := 4) hx hb dL_law_401 (by decide) ?_
  refine k_vld S hK hW 18 rfl (i := 4) (k := 4) (x := (nI n)) vi5_4 ix_4 rfl dL_law_402 ?_
  refine lv_bipush (v := 60) hx hb dL_law_403 (by decide) ?_
  refine lv_icmp_ge (tgt := 412) hx hb dL_law_405 (by decide) (fun c_1 => ?_) (fun c_1 => ?_)
  ·
    refine lv_iconst (v := 0) hx hb dL_law_412 (by decide) ?_
    refine lv_istore (lv' := [(22, .int 0), (21, .int (nI B)), (20, .int (nI Ac)), (19, .int (nI M)), (18, .int (nI Y)), (15, .int (nI t)), (14, .int 1), (0, .ref b), (1, .ref (h 0)), (2, .ref (h 18)), (3, .ref (h 19)), (4, .ref (h 20)), (5, .ref (h 21)), (6, .ref (h 22)), (7, .ref (h 23)), (8, .ref (h 24)), (9, .ref (h 25)), (10, .ref (h 26)), (11, .ref (h 27)), (12, .ref (h 28)), (13, .ref (h 29))]) hx hb dL_law_413 hl (by decide) rfl (fun ls hl => ?_)
    refine lv_iload hx hb dL_law_415 (lv_at hl 0 rfl) ?_
    refine lv_if_eq (tgt := 477) hx hb dL_law_417 (by decide) (fun c_2 => ?_) (fun c_2 => ?_)
    ·
      refine lv_aload_n hx hb dL_law_477 rfl (lv_at hl 8 rfl) ?_
      refine lv_iload hx hb dL_law_478 (lv_at hl 3 rfl) ?_
      refine lv_iload hx hb dL_law_480 (lv_at hl 2 rfl) ?_
      refine lv_iload hx hb dL_law_482 (lv_at hl 1 rfl) ?_
      have e60 : n = 60 := eq60 hn c_1
      have hk2 := d_full' (mo := mo) (ki := ki) (am := am) (sk := sk) (dn := dn) (y1 := y1) (y2 := y2) (y3 := y3) (y4 := y4) (y5 := y5) (y6 := y6) (y7 := y7) (q := q) (v := v) hp e60 hM (a := nI Ac) (x := nI B) ⟨hxa.1, hxa.2, hxb.1, hxb.2⟩
      refine kz_callS (As := [.ref (h 0), .int (nI M), .int (nI Ac), .int (nI B)]) (rest := []) (wr := [cS (h 5) tr, aI G (h 18) 5 (nF (q.1, q.2.1, q.2.2, nI np, nI n)), aI G (h 19) 60 qf, aI G (h 20) 60 af, aI G (h 21) 60 mf, aI G (h 22) 60 df, aI G (h 23) 7 (pF w), aI G (h 24) 64 sf, aI G (h 25) 64 cf, aI G (h 26) 64 lf, aI G (h 27) 64 rf, aI G (h 28) 64 gf, aI G (h 29) 64 tf]) (c_L_told l hst G h mo ki am sk dn y1 y2 y3 y4 y5 y6 y7 q v (nI M) (nI Ac) (nI B) np n hn hp (fun z => absurd (hk2.symm.trans z) (by decide))) S hK hW hXE hXZ gL_law_L_told rfl ⟨rfl, rfl⟩ nd_L_told ⟨rfl, rfl⟩ [0, 2, 6, 7, 8, 9, 10, 3, 11, 12, 13, 14, 15, 16, 17, 1, 4] [5, 18, 19, 20, 21, 22, 23, 24, 25, 26, 27, 28, 29] rfl rfl rfl rfl (by decide) rfl hl.1 rfl dL_law_484 hf1 (fun H locs hk hW => ?_) (fun H locs hk hW => ?_)
      ·
        have hW : Wd G A sS.heap [cS (h 5) tr, aI G (h 18) 5 (nF (q.1, q.2.1, q.2.2, nI np, nI n)), aI G (h 19) 60 qf, aI G (h 20) 60 af, aI G (h 21) 60 mf, aI G (h 22) 60 df, aI G (h 23) 7 (pF w), aI G (h 24) 64 sf, aI G (h 25) 64 cf, aI G (h 26) 64 lf, aI G (h 27) 64 rf, aI G (h 28) 64 gf, aI G (h 29) 64 tf, cF h (nI np), cB h (nI n), aI G (h 6) 60 mo, aI G (h 7) 60 ki, aI G (h 8) 60 am, aZ G (h 9) 60 sk, aZ G (h 10) 60 dn, cH h, aI G (h 11) 121 y1, aI G (h 12) 121 y2, aI G (h 13) 121 y3, aI G (h 14) 121 y4, aI G (h 15) 121 y5, aI G (h 16) 121 y6, aI G (h 17) 121 y7, cP (h 1) q, cS (h 4) v] H locs := hW
        refine lv_iload hx hb dL_law_487 (lv_at hl 0 rfl) ?_
        refine lv_if_eq (tgt := 503) hx hb dL_law_489 (by decide) (fun c_3 => ?_) (fun c_3 => ?_)
        ·
          refine lv_bipush (v := (-13)) hx hb dL_law_503 (by decide) ?_
          refine lv_icmp_ne (tgt := 512) hx hb dL_law_505 (by decide) (fun c_4 => ?_) (fun c_4 => ?_)
          ·
            exact absurd c_4 (by decide)
          ·
            refine lv_iconst (v := 1) hx hb dL_law_508 (by decide) ?_
            refine lv_goto (tgt := 513) hx hb dL_law_509 (by decide) ?_
            refine lv_istore (lv' := [(14, .int 1), (22, .int 0), (21, .int (nI B)), (20, .int (nI Ac)), (19, .int (nI M)), (18, .int (nI Y)), (15, .int (nI t)), (0, .ref b), (1, .ref (h 0)), (2, .ref (h 18)), (3, .ref (h 19)), (4, .ref (h 20)), (5, .ref (h 21)), (6, .ref (h 22)), (7, .ref (h 23)), (8, .ref (h 24)), (9, .ref (h 25)), (10, .ref (h 26)), (11, .ref (h 27)), (12, .ref (h 28)), (13, .ref (h 29))]) hx hb dL_law_513 hl (by decide) rfl (fun ls hl => ?_)
            refine lv_goto (tgt := 708) hx hb dL_law_515 (by decide) ?_
            exact K np n q mo ki am sk dn y1 y2 y3 y4 y5 y6 y7 v tr qf af mf df sf cf lf rf gf tf w I L9 hnp H _ ls (hW.re [13, 28, 14, 20, 29, 0, 15, 16, 17, 18, 19, 21, 22, 23, 24, 25, 26, 27, 1, 2, 3, 4, 5, 6, 7, 8, 9, 10, 11, 12] rfl rfl) (lv_sub hl [5, 6, 0, 7, 8, 9, 10, 11, 12, 13, 14, 15, 16, 17, 18, 19, 20] rfl)
        ·
          exact absurd c_3 (by decide)
      · exact absurd (hk2.symm.trans hk) (by decide)
    ·
      exact absurd c_2 (by decide)
  ·
    have hcan : n + 1 ≤ 60 := lt60 (by omega) c_1
    refine lv_iconst (v := 1) hx hb dL_law_408 (by decide) ?_
    refine lv_goto (tgt := 413) hx hb dL_law_409 (by decide) ?_
    refine lv_istore (lv' := [(22, .int 1), (21, .int (nI B)), (20, .int (nI Ac)), (19, .int (nI M)), (18, .int (nI Y)), (15, .int (nI t)), (14, .int 1), (0, .ref b), (1, .ref (h 0)), (2, .ref (h 18)), (3, .ref (h 19)), (4, .ref (h 20)), (5, .ref (h 21)), (6, .ref (h 22)), (7, .ref (h 23)), (8, .ref (h 24)), (9, .ref (h 25)), (10, .ref (h 26)), (11, .ref (h 27)), (12, .ref (h 28)), (13, .ref (h 29))]) hx hb dL_law_413 hl (by decide) rfl (fun ls hl => ?_)
    refine lv_iload hx hb dL_law_415 (lv_at hl 0 rfl) ?_
    refine lv_if_eq (tgt := 477) hx hb dL_law_417 (by decide) (fun c_5 => ?_) (fun c_5 => ?_)
    ·
      exact absurd c_5 (by decide)
    ·
      refine lv_aload_n hx hb dL_law_420 rfl (lv_at hl 10 rfl) ?_
      refine lv_aload_n hx hb dL_law_421 rfl (lv_at hl 9 rfl) ?_
      refine lv_iconst (v := 4) hx hb dL_law_422 (by decide) ?_
      refine k_vld S hK hW 18 rfl (i := 4) (k := 4) (x := (nI n)) vi5_4 ix_4 rfl dL_law_423 ?_
      refine lv_iload hx hb dL_law_424 (lv_at hl 3 rfl) ?_
      refine k_vst (f' := (upd qf n (nI M))) (ws' := [cF h (nI np), cP (h 1) q, cB h (nI n), cH h, cS (h 4) v, cS (h 5) tr, aI G (h 6) 60 mo, aI G (h 7) 60 ki, aI G (h 8) 60 am, aZ G (h 9) 60 sk, aZ G (h 10) 60 dn, aI G (h 11) 121 y1, aI G (h 12) 121 y2, aI G (h 13) 121 y3, aI G (h 14) 121 y4, aI G (h 15) 121 y5, aI G (h 16) 121 y6, aI G (h 17) 121 y7, aI G (h 18) 5 (nF (q.1, q.2.1, q.2.2, nI np, nI n)), aI G (h 19) 60 (upd qf n (nI M)), aI G (h 20) 60 af, aI G (h 21) 60 mf, aI G (h 22) 60 df, aI G (h 23) 7 (pF w), aI G (h 24) 64 sf, aI G (h 25) 64 cf, aI G (h 26) 64 lf, aI G (h 27) 64 rf, aI G (h 28) 64 gf, aI G (h 29) 64 tf]) S hK hW 19 rfl (i := nI n) (k := n) (vp_in_nI (by omega) (by omega)) (nI_clamp (by omega)) rfl rfl dL_law_426 (fun H locs hW => ?_)
      refine lv_aload hx hb dL_law_427 (lv_at hl 11 rfl) ?_
      refine lv_aload_n hx hb dL_law_429 rfl (lv_at hl 9 rfl) ?_
      refine lv_iconst (v := 4) hx hb dL_law_430 (by decide) ?_
      refine k_vld S hK hW 18 rfl (i := 4) (k := 4) (x := (nI n)) vi5_4 ix_4 rfl dL_law_431 ?_
      refine lv_iload hx hb dL_law_432 (lv_at hl 2 rfl) ?_
      refine k_vst (f' := (upd af n (nI Ac))) (ws' := [cF h (nI np), cP (h 1) q, cB h (nI n), cH h, cS (h 4) v, cS (h 5) tr, aI G (h 6) 60 mo, aI G (h 7) 60 ki, aI G (h 8) 60 am, aZ G (h 9) 60 sk, aZ G (h 10) 60 dn, aI G (h 11) 121 y1, aI G (h 12) 121 y2, aI G (h 13) 121 y3, aI G (h 14) 121 y4, aI G (h 15) 121 y5, aI G (h 16) 121 y6, aI G (h 17) 121 y7, aI G (h 18) 5 (nF (q.1, q.2.1, q.2.2, nI np, nI n)), aI G (h 19) 60 (upd qf n (nI M)), aI G (h 20) 60 (upd af n (nI Ac)), aI G (h 21) 60 mf, aI G (h 22) 60 df, aI G (h 23) 7 (pF w), aI G (h 24) 64 sf, aI G (h 25) 64 cf, aI G (h 26) 64 lf, aI G (h 27) 64 rf, aI G (h 28) 64 gf, aI G (h 29) 64 tf]) S hK hW 20 rfl (i := nI n) (k := n) (vp_in_nI (by omega) (by omega)) (nI_clamp (by omega)) rfl rfl dL_law_434 (fun H locs hW => ?_)
      refine lv_aload hx hb dL_law_435 (lv_at hl 12 rfl) ?_
      refine lv_aload_n hx hb dL_law_437 rfl (lv_at hl 9 rfl) ?_
      refine lv_iconst (v := 4) hx hb dL_law_438 (by decide) ?_
      refine k_vld S hK hW 18 rfl (i := 4) (k := 4) (x := (nI n)) vi5_4 ix_4 rfl dL_law_439 ?_
      refine lv_iload hx hb dL_law_440 (lv_at hl 1 rfl) ?_
      refine k_vst (f' := (upd mf n (nI B))) (ws' := [cF h (nI np), cP (h 1) q, cB h (nI n), cH h, cS (h 4) v, cS (h 5) tr, aI G (h 6) 60 mo, aI G (h 7) 60 ki, aI G (h 8) 60 am, aZ G (h 9) 60 sk, aZ G (h 10) 60 dn, aI G (h 11) 121 y1, aI G (h 12) 121 y2, aI G (h 13) 121 y3, aI G (h 14) 121 y4, aI G (h 15) 121 y5, aI G (h 16) 121 y6, aI G (h 17) 121 y7, aI G (h 18) 5 (nF (q.1, q.2.1, q.2.2, nI np, nI n)), aI G (h 19) 60 (upd qf n (nI M)), aI G (h 20) 60 (upd af n (nI Ac)), aI G (h 21) 60 (upd mf n (nI B)), aI G (h 22) 60 df, aI G (h 23) 7 (pF w), aI G (h 24) 64 sf, aI G (h 25) 64 cf, aI G (h 26) 64 lf, aI G (h 27) 64 rf, aI G (h 28) 64 gf, aI G (h 29) 64 tf]) S hK hW 21 rfl (i := nI n) (k := n) (vp_in_nI (by omega) (by omega)) (nI_clamp (by omega)) rfl rfl dL_law_442 (fun H locs hW => ?_)
      refine lv_aload_n hx hb dL_law_443 rfl (lv_at hl 9 rfl) ?_
      refine lv_iconst (v := 4) hx hb dL_law_444 (by decide) ?_
      refine lv_dup2_11 hx hb dL_law_445 rfl rfl ?_
      refine k_vld S hK hW 18 rfl (i := 4) (k := 4) (x := (nI n)) vi5_4 ix_4 rfl dL_law_446 ?_
      refine lv_iconst (v := 1) hx hb dL_law_447 (by decide) ?_
      refine lv_iadd hx hb dL_law_448 ?_
      refine k_vst (f' := nF (q.1, q.2.1, q.2.2, nI np, (nI n + 1))) (ws' := [cF h (nI np), cP (h 1) q, cB h (nI n), cH h, cS (h 4) v, cS (h 5) tr, aI G (h 6) 60 mo, aI G (h 7) 60 ki, aI G (h 8) 60 am, aZ G (h 9) 60 sk, aZ G (h 10) 60 dn, aI G (h 11) 121 y1, aI G (h 12) 121 y2, aI G (h 13) 121 y3, aI G (h 14) 121 y4, aI G (h 15) 121 y5, aI G (h 16) 121 y6, aI G (h 17) 121 y7, aI G (h 18) 5 (nF (q.1, q.2.1, q.2.2, nI np, (nI n + 1))), aI G (h 19) 60 (upd qf n (nI M)), aI G (h 20) 60 (upd af n (nI Ac)), aI G (h 21) 60 (upd mf n (nI B)), aI G (h 22) 60 df, aI G (h 23) 7 (pF w), aI G (h 24) 64 sf, aI G (h 25) 64 cf, aI G (h 26) 64 lf, aI G (h 27) 64 rf, aI G (h 28) 64 gf, aI G (h 29) 64 tf]) S hK hW 18 rfl (i := 4) (k := 4) vi5_4 ix_4 (up_n4 _ _) rfl dL_law_449 (fun H locs hW => ?_)
      rw [nI_1 n] at hW
      have hW : Wd G A sS.heap [cF h (nI np), cP (h 1) q, cB h (nI n), cH h, cS (h 4) v, cS (h 5) tr, aI G (h 6) 60 mo, aI G (h 7) 60 ki, aI G (h 8) 60 am, aZ G (h 9) 60 sk, aZ G (h 10) 60 dn, aI G (h 11) 121 y1, aI G (h 12) 121 y2, aI G (h 13) 121 y3, aI G (h 14) 121 y4, aI G (h 15) 121 y5, aI G (h 16) 121 y6, aI G (h 17) 121 y7, aI G (h 18) 5 (nF (q.1, q.2.1, q.2.2, nI np, nI (n + 1))), aI G (h 19) 60 (upd qf n (nI M)), aI G (h 20) 60 (upd af n (nI Ac)), aI G (h 21) 60 (upd mf n (nI B)), aI G (h 22) 60 df, aI G (h 23) 7 (pF w), aI G (h 24) 64 sf, aI G (h 25) 64 cf, aI G (h 26) 64 lf, aI G (h 27) 64 rf, aI G (h 28) 64 gf, aI G (h 29) 64 tf] H locs := hW
      refine lv_aload_n hx hb dL_law_450 rfl (lv_at hl 9 rfl) ?_
      refine lv_aload_n hx hb dL_law_451 rfl (lv_at hl 10 rfl) ?_
      refine lv_aload hx hb dL_law_452 (lv_at hl 11 rfl) ?_
      refine lv_aload hx hb dL_law_454 (lv_at hl 12 rfl) ?_
      refine lv_aload hx hb dL_law_456 (lv_at hl 13 rfl) ?_
      refine lv_aload hx hb dL_law_458 (lv_at hl 14 rfl) ?_
      refine lv_aload hx hb dL_law_460 (lv_at hl 15 rfl) ?_
      refine lv_aload hx hb dL_law_462 (lv_at hl 16 rfl) ?_
      refine lv_aload hx hb dL_law_464 (lv_at hl 17 rfl) ?_
      refine lv_aload hx hb dL_law_466 (lv_at hl 18 rfl) ?_
      refine lv_aload hx hb dL_law_468 (lv_at hl 19 rfl) ?_
      refine lv_aload hx hb dL_law_470 (lv_at hl 20 rfl) ?_
      refine lv_iload hx hb dL_law_472 (lv_at hl 3 rfl) ?_
      have hag := ag_inv I (nI np) (nI (n + 1))
      refine k_callSv (As := [.ref (h 18), .ref (h 19), .ref (h 20), .ref (h 21), .ref (h 22), .ref (h 23), .ref (h 24), .ref (h 25), .ref (h 26), .ref (h 27), .ref (h 28), .ref (h 29), .int (nI M)]) (rest := []) (wr := [cF h (nI np), cP (h 1) q, cB h (nI n), cH h, cS (h 4) v, cS (h 5) tr, aI G (h 6) 60 mo, aI G (h 7) 60 ki, aI G (h 8) 60 am, aZ G (h 9) 60 sk, aZ G (h 10) 60 dn, aI G (h 11) 121 y1, aI G (h 12) 121 y2, aI G (h 13) 121 y3, aI G (h 14) 121 y4, aI G (h 15) 121 y5, aI G (h 16) 121 y6, aI G (h 17) 121 y7]) (c_L_works l G h q np (n + 1) (upd qf n (nI M)) (upd af n (nI Ac)) (upd mf n (nI B)) df sf cf lf rf gf tf M w hcan (by omega) hM hag) S hK hW gL_law_L_works rfl ⟨rfl, rfl⟩ nd_L_works ⟨rfl, rfl⟩ [18, 19, 20, 21, 22, 23, 24, 25, 26, 27, 28, 29] [0, 1, 2, 3, 4, 5, 6, 7, 8, 9, 10, 11, 12, 13, 14, 15, 16, 17] rfl rfl rfl rfl (by decide) rfl hl.1 rfl dL_law_474 hf0 (fun H locs hW => ?_)
      have L2 := t_tell I L9 hcan hM ⟨hxa.1, hxa.2, hxb.1, hxb.2⟩
      have hW : Wd G A sS.heap [cF h (nI np), cP (h 1) q, cB h (nI n), cH h, cS (h 4) v, cS (h 5) tr, aI G (h 6) 60 mo, aI G (h 7) 60 ki, aI G (h 8) 60 am, aZ G (h 9) 60 sk, aZ G (h 10) 60 dn, aI G (h 11) 121 y1, aI G (h 12) 121 y2, aI G (h 13) 121 y3, aI G (h 14) 121 y4, aI G (h 15) 121 y5, aI G (h 16) 121 y6, aI G (h 17) 121 y7, aI G (h 18) 5 (nF (q.1, q.2.1, q.2.2, nI np, nI (n + 1))), aI G (h 19) 60 (upd qf n (nI M)), aI G (h 20) 60 (upd af n (nI Ac)), aI G (h 21) 60 (upd mf n (nI B)), aI G (h 22) 60 ((F_L_works q np (n + 1) (upd qf n (nI M)) (upd af n (nI Ac)) (upd mf n (nI B)) df sf cf lf rf gf tf M).1), aI G (h 23) 7 (pF ((F_L_works q np (n + 1) (upd qf n (nI M)) (upd af n (nI Ac)) (upd mf n (nI B)) df sf cf lf rf gf tf M).2.1)), aI G (h 24) 64 ((F_L_works q np (n + 1) (upd qf n (nI M)) (upd af n (nI Ac)) (upd mf n (nI B)) df sf cf lf rf gf tf M).2.2.1), aI G (h 25) 64 ((F_L_works q np (n + 1) (upd qf n (nI M)) (upd af n (nI Ac)) (upd mf n (nI B)) df sf cf lf rf gf tf M).2.2.2.1), aI G (h 26) 64 ((F_L_works q np (n + 1) (upd qf n (nI M)) (upd af n (nI Ac)) (upd mf n (nI B)) df sf cf lf rf gf tf M).2.2.2.2.1), aI G (h 27) 64 ((F_L_works q np (n + 1) (upd qf n (nI M)) (upd af n (nI Ac)) (upd mf n (nI B)) df sf cf lf rf gf tf M).2.2.2.2.2.1), aI G (h 28) 64 ((F_L_works q np (n + 1) (upd qf n (nI M)) (upd af n (nI Ac)) (upd mf n (nI B)) df sf cf lf rf gf tf M).2.2.2.2.2.2.1), aI G (h 29) 64 ((F_L_works q np (n + 1) (upd qf n (nI M)) (upd af n (nI Ac)) (upd mf n (nI B)) df sf cf lf rf gf tf M).2.2.2.2.2.2.2)] H locs := hW
      generalize F_L_works q np (n + 1) (upd qf n (nI M)) (upd af n (nI Ac)) (upd mf n (nI B)) df sf cf lf rf gf tf M = fw at hW L2
      have hW : Wd G A sS.heap [cF h (nI np), cP (h 1) q, cB h (nI n), cH h, cS (h 4) v, cS (h 5) tr, aI G (h 6) 60 mo, aI G (h 7) 60 ki, aI G (h 8) 60 am, aZ G (h 9) 60 sk, aZ G (h 10) 60 dn, aI G (h 11) 121 y1, aI G (h 12) 121 y2, aI G (h 13) 121 y3, aI G (h 14) 121 y4, aI G (h 15) 121 y5, aI G (h 16) 121 y6, aI G (h 17) 121 y7, aI G (h 18) 5 (nF (q.1, q.2.1, q.2.2, nI np, nI (n + 1))), aI G (h 19) 60 (upd qf n (nI M)), aI G (h 20) 60 (upd af n (nI Ac)), aI G (h 21) 60 (upd mf n (nI B)), aI G (h 22) 60 fw.1, aI G (h 23) 7 (pF fw.2.1), aI G (h 24) 64 fw.2.2.1, aI G (h 25) 64 fw.2.2.2.1, aI G (h 26) 64 fw.2.2.2.2.1, aI G (h 27) 64 fw.2.2.2.2.2.1, aI G (h 28) 64 fw.2.2.2.2.2.2.1, aI G (h 29) 64 fw.2.2.2.2.2.2.2] H locs := hW
      refine lv_aload_n hx hb dL_law_477 rfl (lv_at hl 8 rfl) ?_
      refine lv_iload hx hb dL_law_478 (lv_at hl 3 rfl) ?_
      refine lv_iload hx hb dL_law_480 (lv_at hl 2 rfl) ?_
      refine lv_iload hx hb dL_law_482 (lv_at hl 1 rfl) ?_
      obtain ⟨dn2, z1, z2, z3, z4, z5, z6, z7, v2, e1, I2⟩ := d_tell I hcan hM (a := nI Ac) (x := nI B) ⟨hxa.1, hxa.2, hxb.1, hxb.2⟩
      refine kz_callS (As := [.ref (h 0), .int (nI M), .int (nI Ac), .int (nI B)]) (rest := []) (wr := [cS (h 5) tr, aI G (h 18) 5 (nF (q.1, q.2.1, q.2.2, nI np, nI (n + 1))), aI G (h 19) 60 (upd qf n (nI M)), aI G (h 20) 60 (upd af n (nI Ac)), aI G (h 21) 60 (upd mf n (nI B)), aI G (h 22) 60 fw.1, aI G (h 23) 7 (pF fw.2.1), aI G (h 24) 64 fw.2.2.1, aI G (h 25) 64 fw.2.2.2.1, aI G (h 26) 64 fw.2.2.2.2.1, aI G (h 27) 64 fw.2.2.2.2.2.1, aI G (h 28) 64 fw.2.2.2.2.2.2.1, aI G (h 29) 64 fw.2.2.2.2.2.2.2]) (c_L_told l hst G h mo ki am sk dn y1 y2 y3 y4 y5 y6 y7 q v (nI M) (nI Ac) (nI B) np n hn hp (fun z => absurd ((show (F_X4_tell mo ki am sk dn y1 y2 y3 y4 y5 y6 y7 q v (nI M) (nI Ac) (nI B) np n).1 = 0 by rw [e1]).symm.trans z) (by decide))) S hK hW hXE hXZ gL_law_L_told rfl ⟨rfl, rfl⟩ nd_L_told ⟨rfl, rfl⟩ [0, 2, 6, 7, 8, 9, 10, 3, 11, 12, 13, 14, 15, 16, 17, 1, 4] [5, 18, 19, 20, 21, 22, 23, 24, 25, 26, 27, 28, 29] rfl rfl rfl rfl (by decide) rfl hl.1 rfl dL_law_484 hf1 (fun H locs hk hW => ?_) (fun H locs hk hW => ?_)
      · exact absurd (show (F_X4_tell mo ki am sk dn y1 y2 y3 y4 y5 y6 y7 q v (nI M) (nI Ac) (nI B) np n).1 = 0 by rw [e1]) hk
      ·
        rw [e1] at hW
        have hW : Wd G A sS.heap [cS (h 5) tr, aI G (h 18) 5 (nF (q.1, q.2.1, q.2.2, nI np, nI (n + 1))), aI G (h 19) 60 (upd qf n (nI M)), aI G (h 20) 60 (upd af n (nI Ac)), aI G (h 21) 60 (upd mf n (nI B)), aI G (h 22) 60 fw.1, aI G (h 23) 7 (pF fw.2.1), aI G (h 24) 64 fw.2.2.1, aI G (h 25) 64 fw.2.2.2.1, aI G (h 26) 64 fw.2.2.2.2.1, aI G (h 27) 64 fw.2.2.2.2.2.1, aI G (h 28) 64 fw.2.2.2.2.2.2.1, aI G (h 29) 64 fw.2.2.2.2.2.2.2, cF h (nI np), cB h (nI (n + 1)), aI G (h 6) 60 (upd mo n (nI M)), aI G (h 7) 60 (upd ki n (nI Ac)), aI G (h 8) 60 (upd am n (nI B)), aZ G (h 9) 60 (updB sk n false), aZ G (h 10) 60 dn2, cH h, aI G (h 11) 121 z1, aI G (h 12) 121 z2, aI G (h 13) 121 z3, aI G (h 14) 121 z4, aI G (h 15) 121 z5, aI G (h 16) 121 z6, aI G (h 17) 121 z7, cP (h 1) q, cS (h 4) v2] H locs := hW
        refine W.eq (g2 := F0 mM 487 ls [.int (bI (dn2 n))]) (by rw [e1]) ?_
        refine lv_iload hx hb dL_law_487 (lv_at hl 0 rfl) ?_
        refine lv_if_eq (tgt := 503) hx hb dL_law_489 (by decide) (fun c_6 => ?_) (fun c_6 => ?_)
        ·
          exact absurd c_6 (by decide)
        ·
          refine lv_aload hx hb dL_law_492 (lv_at hl 13 rfl) ?_
          refine lv_aload_n hx hb dL_law_494 rfl (lv_at hl 9 rfl) ?_
          refine lv_iconst (v := 4) hx hb dL_law_495 (by decide) ?_
          refine k_vld S hK hW 1 rfl (i := 4) (k := 4) (x := (nI (n + 1))) vi5_4 ix_4 rfl dL_law_496 ?_
          refine lv_iconst (v := 1) hx hb dL_law_497 (by decide) ?_
          refine lv_isub hx hb dL_law_498 ?_
          refine W.eq (g2 := F0 mM 499 ls [.int (nI n), .ref (h 22), .int (bI (dn2 n))]) (by rw [nI_pred n]) ?_
          refine k_vld S hK hW 5 rfl (i := nI n) (k := n) (x := (fw.1 n)) (vp_in_nI (by omega) (by omega)) (nI_clamp (by omega)) rfl dL_law_499 ?_
          refine lv_goto (tgt := 505) hx hb dL_law_500 (by decide) ?_
          refine lv_icmp_ne (tgt := 512) hx hb dL_law_505 (by decide) (fun c_7 => ?_) (fun c_7 => ?_)
          ·
            exact absurd (a_flag I2 L2 (by omega) (updB_self _ _ _) hM pk_us) c_7
          ·
            refine lv_iconst (v := 1) hx hb dL_law_508 (by decide) ?_
            refine lv_goto (tgt := 513) hx hb dL_law_509 (by decide) ?_
            refine lv_istore (lv' := [(14, .int 1), (22, .int 1), (21, .int (nI B)), (20, .int (nI Ac)), (19, .int (nI M)), (18, .int (nI Y)), (15, .int (nI t)), (0, .ref b), (1, .ref (h 0)), (2, .ref (h 18)), (3, .ref (h 19)), (4, .ref (h 20)), (5, .ref (h 21)), (6, .ref (h 22)), (7, .ref (h 23)), (8, .ref (h 24)), (9, .ref (h 25)), (10, .ref (h 26)), (11, .ref (h 27)), (12, .ref (h 28)), (13, .ref (h 29))]) hx hb dL_law_513 hl (by decide) rfl (fun ls hl => ?_)
            refine lv_goto (tgt := 708) hx hb dL_law_515 (by decide) ?_
            exact K np (n + 1) q (upd mo n (nI M)) (upd ki n (nI Ac)) (upd am n (nI B)) (updB sk n false) dn2 z1 z2 z3 z4 z5 z6 z7 v2 tr (upd qf n (nI M)) (upd af n (nI Ac)) (upd mf n (nI B)) fw.1 fw.2.2.1 fw.2.2.2.1 fw.2.2.2.2.1 fw.2.2.2.2.2.1 fw.2.2.2.2.2.2.1 fw.2.2.2.2.2.2.2 fw.2.1 I2 L2 hnp H _ ls (hW.re [13, 28, 14, 20, 29, 0, 15, 16, 17, 18, 19, 21, 22, 23, 24, 25, 26, 27, 1, 2, 3, 4, 5, 6, 7, 8, 9, 10, 11, 12] rfl rfl) (lv_sub hl [5, 6, 0, 7, 8, 9, 10, 11, 12, 13, 14, 15, 16, 17, 18, 19, 20] rfl)
set_option maxHeartbeats 8000000 in
set_option maxRecDepth 100000 in
theorem lstrike {pP : Program} {l : Launch} {eE : Env} {sS : State} {mM : MethodId} {args : Array Value} {below : List Frame} {meth : Method} {cC : Code} {Q : State → Prop} {G : GG} {A : Nat → Prop} {h : Nat → Nat} {b L : Nat} {xs : Nat → Int32} (X : LWX pP l sS mM args cC G A b L xs) {cells slots t Y : Nat} (hY : Y < 2 ^ 31) (hc : cells + 193 ≤ 600130) (hs : slots + 1162 ≤ 7301080) (K : LKd pP l eE sS mM args below meth cC Q G A h b 708 Y t (cells + 1) (slots + 6)) :
    ∀ (np n : Nat) (q : S3) (mo ki am : N32) (sk dn : Nat → Bool) (y1 y2 y3 y4 y5 y6 y7 : N32) (v tr : S7) (qf af mf df sf cf lf rf gf tf : N32) (w : S7), Inv np n q mo ki am sk (dn, y1, y2, y3, y4, y5, y6, y7, v) → LInv np n q mo ki am sk qf af mf df sf cf lf rf gf tf w → np ≤ 61 → 0 < n → ∀ (H : Heap) (locs : List Loc) (ls : Array Slot), Wd G A sS.heap [cF h (nI np), cP (h 1) q, cB h (nI n), cH h, cS (h 4) v, cS (h 5) tr, aI G (h 6) 60 mo, aI G (h 7) 60 ki, aI G (h 8) 60 am, aZ G (h 9) 60 sk, aZ G (h 10) 60 dn, aI G (h 11) 121 y1, aI G (h 12) 121 y2, aI G (h 13) 121 y3, aI G (h 14) 121 y4, aI G (h 15) 121 y5, aI G (h 16) 121 y6, aI G (h 17) 121 y7, aI G (h 18) 5 (nF (q.1, q.2.1, q.2.2, nI np, nI n)), aI G (h 19) 60 qf, aI G (h 20) 60 af, aI G (h 21) 60 mf, aI G (h 22) 60 df, aI G (h 23) 7 (pF w), aI G (h 24) 64 sf, aI G (h 25) 64 cf, aI G (h 26) 64 lf, aI G (h 27) 64 rf, aI G (h 28) 64 gf, aI G (h 29) 64 tf] H locs → lv_has ls 23 [(18, .int (nI Y)), (15, .int (nI t)), (14, .int 1), (0, .ref b), (1, .ref (h 0)), (2, .ref (h 18)), (3, .ref (h 19)), (4, .ref (h 20)), (5, .ref (h 21)), (6, .ref (h 22)), (7, .ref (h 23)), (8, .ref (h 24)), (9, .ref (h 25)), (10, .ref (h 26)), (11, .ref (h 27)), (12, .ref (h 28)), (13, .ref (h 29))] → W pP l eE room_1 sS mM args below meth cC H locs cells slots Q (F0 mM 531 ls []) := by
  obtain ⟨S, hK, hXE, hXZ, hst, hX, hbl, hbA, hL⟩ := X
  have hx := S.1
  have hb := S.2.1
  have hf0 : cells ≤ room_1.cells ∧ slots ≤ room_1.slots := ⟨by show _ ≤ 600130; omega, by show _ ≤ 7301080; omega⟩
  have hf1 : cells + 1 ≤ room_1.cells ∧ slots + 6 ≤ room_1.slots := ⟨by show _ ≤ 600130; omega, by show _ ≤ 7301080; omega⟩
  unfold LKd at K
  intro np n q mo ki am sk dn y1 y2 y3 y4 y5 y6 y7 v tr qf af mf df sf cf lf rf gf tf w I L9 hnp hn0 H locs ls hW hl
  have hn := I.1
  have hp := I.2.1
  obtain ⟨j, ej⟩ : ∃ j, j = Y % n := ⟨_, rfl⟩
  have hj : j < n := by rw [ej]; exact Nat.mod_lt _ hn0
  refine lv_iload hx hb dL_law_531 (lv_at hl 0 rfl) ?_
  refine lv_aload_n hx hb dL_law_533 rfl (lv_at hl 5 rfl) ?_
  refine lv_iconst (v := 4) hx hb dL_law_534 (by decide) ?_
  refine k_vld S hK hW 18 rfl (i := 4) (k := 4) (x := (nI n)) vi5_4 ix_4 rfl dL_law_535 ?_
  refine k_irem hx hb dL_law_536 (nI_ne0 (by omega) (by omega)) ?_
  refine W.eq (g2 := F0 mM 537 ls [.int (nI j)]) (by rw [ej, irm_nI (a := Y) (D := nI n) n rfl hY (by omega) (by omega)]) ?_
  refine lv_istore (lv' := [(19, .int (nI j)), (18, .int (nI Y)), (15, .int (nI t)), (14, .int 1), (0, .ref b), (1, .ref (h 0)), (2, .ref (h 18)), (3, .ref (h 19)), (4, .ref (h 20)), (5, .ref (h 21)), (6, .ref (h 22)), (7, .ref (h 23)), (8, .ref (h 24)), (9, .ref (h 25)), (10, .ref (h 26)), (11, .ref (h 27)), (12, .ref (h 28)), (13, .ref (h 29))]) hx hb dL_law_537 hl (by decide) rfl (fun ls hl => ?_)
  refine lv_aload_n hx hb dL_law_539 rfl (lv_at hl 7 rfl) ?_
  refine lv_iload hx hb dL_law_540 (lv_at hl 0 rfl) ?_
  refine k_vld S hK hW 19 rfl (i := nI j) (k := j) (x := (qf j)) (vp_in_nI (by omega) (by omega)) (nI_clamp (by omega)) rfl dL_law_542 ?_
  have hqj := (L9.1 j hj).1
  cases hs9 : sk j with
  | true =>
    rw [hs9, if_pos rfl] at hqj
    refine W.eq (g2 := F0 mM 543 ls [.int (-1)]) (by rw [hqj]) ?_
    refine lv_istore (lv' := [(20, .int (-1)), (19, .int (nI j)), (18, .int (nI Y)), (15, .int (nI t)), (14, .int 1), (0, .ref b), (1, .ref (h 0)), (2, .ref (h 18)), (3, .ref (h 19)), (4, .ref (h 20)), (5, .ref (h 21)), (6, .ref (h 22)), (7, .ref (h 23)), (8, .ref (h 24)), (9, .ref (h 25)), (10, .ref (h 26)), (11, .ref (h 27)), (12, .ref (h 28)), (13, .ref (h 29))]) hx hb dL_law_543 hl (by decide) rfl (fun ls hl => ?_)
    refine lv_aload_n hx hb dL_law_545 rfl (lv_at hl 8 rfl) ?_
    refine lv_iload hx hb dL_law_546 (lv_at hl 1 rfl) ?_
    refine lv_iconst (v := (-1)) hx hb dL_law_548 (by decide) ?_
    refine k_vst (f' := (upd qf j (-1))) (ws' := [cF h (nI np), cP (h 1) q, cB h (nI n), cH h, cS (h 4) v, cS (h 5) tr, aI G (h 6) 60 mo, aI G (h 7) 60 ki, aI G (h 8) 60 am, aZ G (h 9) 60 sk, aZ G (h 10) 60 dn, aI G (h 11) 121 y1, aI G (h 12) 121 y2, aI G (h 13) 121 y3, aI G (h 14) 121 y4, aI G (h 15) 121 y5, aI G (h 16) 121 y6, aI G (h 17) 121 y7, aI G (h 18) 5 (nF (q.1, q.2.1, q.2.2, nI np, nI n)), aI G (h 19) 60 (upd qf j (-1)), aI G (h 20) 60 af, aI G (h 21) 60 mf, aI G (h 22) 60 df, aI G (h 23) 7 (pF w), aI G (h 24) 64 sf, aI G (h 25) 64 cf, aI G (h 26) 64 lf, aI G (h 27) 64 rf, aI G (h 28) 64 gf, aI G (h 29) 64 tf]) S hK hW 19 rfl (i := nI j) (k := j) (vp_in_nI (by omega) (by omega)) (nI_clamp (by omega)) rfl rfl dL_law_549 (fun H locs hW => ?_)
    refine lv_aload_n hx hb dL_law_550 rfl (lv_at hl 6 rfl) ?_
    refine lv_iconst (v := 0) hx hb dL_law_551 (by decide) ?_
    refine lv_iload hx hb dL_law_552 (lv_at hl 1 rfl) ?_
    refine kz_callS (As := [.ref (h 0), .int 0, .int (nI j)]) (rest := []) (wr := [cS (h 5) tr, aI G (h 18) 5 (nF (q.1, q.2.1, q.2.2, nI np, nI n)), aI G (h 19) 60 (upd qf j (-1)), aI G (h 20) 60 af, aI G (h 21) 60 mf, aI G (h 22) 60 df, aI G (h 23) 7 (pF w), aI G (h 24) 64 sf, aI G (h 25) 64 cf, aI G (h 26) 64 lf, aI G (h 27) 64 rf, aI G (h 28) 64 gf, aI G (h 29) 64 tf]) (c_L_does0 l hst G h mo ki am sk dn y1 y2 y3 y4 y5 y6 y7 q v (nI j) np n hn hp I.hmo) S hK hW hXE hXZ gL_law_L_does rfl ⟨rfl, rfl⟩ nd_L_does ⟨rfl, rfl⟩ [0, 2, 6, 7, 8, 9, 10, 3, 11, 12, 13, 14, 15, 16, 17, 1, 4] [5, 18, 19, 20, 21, 22, 23, 24, 25, 26, 27, 28, 29] rfl rfl rfl rfl (by decide) rfl hl.1 rfl dL_law_554 hf1 (fun H locs hk hW => ?_) (fun H locs hk hW => ?_)
    ·
      have hW : Wd G A sS.heap [cS (h 5) tr, aI G (h 18) 5 (nF (q.1, q.2.1, q.2.2, nI np, nI n)), aI G (h 19) 60 (upd qf j (-1)), aI G (h 20) 60 af, aI G (h 21) 60 mf, aI G (h 22) 60 df, aI G (h 23) 7 (pF w), aI G (h 24) 64 sf, aI G (h 25) 64 cf, aI G (h 26) 64 lf, aI G (h 27) 64 rf, aI G (h 28) 64 gf, aI G (h 29) 64 tf, cF h (nI np), cB h (nI n), aI G (h 6) 60 mo, aI G (h 7) 60 ki, aI G (h 8) 60 am, aZ G (h 9) 60 sk, aZ G (h 10) 60 dn, cH h, aI G (h 11) 121 y1, aI G (h 12) 121 y2, aI G (h 13) 121 y3, aI G (h 14) 121 y4, aI G (h 15) 121 y5, aI G (h 16) 121 y6, aI G (h 17) 121 y7, cP (h 1) q, cS (h 4) v] H locs := hW
      refine lv_iload hx hb dL_law_557 (lv_at hl 0 rfl) ?_
      refine lv_if_ge (tgt := 567) hx hb dL_law_559 (by decide) (fun c_1 => ?_) (fun c_1 => ?_)
      ·
        exact absurd c_1 (by decide)
      ·
        refine lv_bipush (v := (-11)) hx hb dL_law_562 (by decide) ?_
        refine lv_goto (tgt := 569) hx hb dL_law_564 (by decide) ?_
        refine lv_icmp_ne (tgt := 576) hx hb dL_law_569 (by decide) (fun c_2 => ?_) (fun c_2 => ?_)
        ·
          exact absurd c_2 (by decide)
        ·
          refine lv_iconst (v := 1) hx hb dL_law_572 (by decide) ?_
          refine lv_goto (tgt := 577) hx hb dL_law_573 (by decide) ?_
          refine lv_istore (lv' := [(14, .int 1), (20, .int (-1)), (19, .int (nI j)), (18, .int (nI Y)), (15, .int (nI t)), (0, .ref b), (1, .ref (h 0)), (2, .ref (h 18)), (3, .ref (h 19)), (4, .ref (h 20)), (5, .ref (h 21)), (6, .ref (h 22)), (7, .ref (h 23)), (8, .ref (h 24)), (9, .ref (h 25)), (10, .ref (h 26)), (11, .ref (h 27)), (12, .ref (h 28)), (13, .ref (h 29))]) hx hb dL_law_577 hl (by decide) rfl (fun ls hl => ?_)
          refine lv_iload hx hb dL_law_579 (lv_at hl 1 rfl) ?_
          refine lv_if_lt (tgt := 611) hx hb dL_law_581 (by decide) (fun c_3 => ?_) (fun c_3 => ?_)
          ·
            refine lv_goto (tgt := 708) hx hb dL_law_611 (by decide) ?_
            rw [upd_same hqj] at hW
            exact K np n q mo ki am sk dn y1 y2 y3 y4 y5 y6 y7 v tr qf af mf df sf cf lf rf gf tf w I L9 hnp H _ ls (hW.re [13, 28, 14, 20, 29, 0, 15, 16, 17, 18, 19, 21, 22, 23, 24, 25, 26, 27, 1, 2, 3, 4, 5, 6, 7, 8, 9, 10, 11, 12] rfl rfl) (lv_sub hl [3, 4, 0, 5, 6, 7, 8, 9, 10, 11, 12, 13, 14, 15, 16, 17, 18] rfl)
          ·
            exact absurd c_3 (by decide)
    · exact absurd hk (d_struck hn hj hs9)
  | false =>
    rw [hs9, if_neg (by decide)] at hqj
    obtain ⟨M, hM, hmo⟩ := I.2.2.2.2.1 j hj
    rw [hmo] at hqj
    refine W.eq (g2 := F0 mM 543 ls [.int (nI M)]) (by rw [hqj]) ?_
    refine lv_istore (lv' := [(20, .int (nI M)), (19, .int (nI j)), (18, .int (nI Y)), (15, .int (nI t)), (14, .int 1), (0, .ref b), (1, .ref (h 0)), (2, .ref (h 18)), (3, .ref (h 19)), (4, .ref (h 20)), (5, .ref (h 21)), (6, .ref (h 22)), (7, .ref (h 23)), (8, .ref (h 24)), (9, .ref (h 25)), (10, .ref (h 26)), (11, .ref (h 27)), (12, .ref (h 28)), (13, .ref (h 29))]) hx hb dL_law_543 hl (by decide) rfl (fun ls hl => ?_)
    refine lv_aload_n hx hb dL_law_545 rfl (lv_at hl 8 rfl) ?_
    refine lv_iload hx hb dL_law_546 (lv_at hl 1 rfl) ?_
    refine lv_iconst (v := (-1)) hx hb dL_law_548 (by decide) ?_
    refine k_vst (f' := (upd qf j (-1))) (ws' := [cF h (nI np), cP (h 1) q, cB h (nI n), cH h, cS (h 4) v, cS (h 5) tr, aI G (h 6) 60 mo, aI G (h 7) 60 ki, aI G (h 8) 60 am, aZ G (h 9) 60 sk, aZ G (h 10) 60 dn, aI G (h 11) 121 y1, aI G (h 12) 121 y2, aI G (h 13) 121 y3, aI G (h 14) 121 y4, aI G (h 15) 121 y5, aI G (h 16) 121 y6, aI G (h 17) 121 y7, aI G (h 18) 5 (nF (q.1, q.2.1, q.2.2, nI np, nI n)), aI G (h 19) 60 (upd qf j (-1)), aI G (h 20) 60 af, aI G (h 21) 60 mf, aI G (h 22) 60 df, aI G (h 23) 7 (pF w), aI G (h 24) 64 sf, aI G (h 25) 64 cf, aI G (h 26) 64 lf, aI G (h 27) 64 rf, aI G (h 28) 64 gf, aI G (h 29) 64 tf]) S hK hW 19 rfl (i := nI j) (k := j) (vp_in_nI (by omega) (by omega)) (nI_clamp (by omega)) rfl rfl dL_law_549 (fun H locs hW => ?_)
    refine lv_aload_n hx hb dL_law_550 rfl (lv_at hl 6 rfl) ?_
    refine lv_iconst (v := 0) hx hb dL_law_551 (by decide) ?_
    refine lv_iload hx hb dL_law_552 (lv_at hl 1 rfl) ?_
    obtain ⟨dn2, z1, z2, z3, z4, z5, z6, z7, v2, e1, I2⟩ := d_strike I hj hs9 hM hmo
    refine kz_callS (As := [.ref (h 0), .int 0, .int (nI j)]) (rest := []) (wr := [cS (h 5) tr, aI G (h 18) 5 (nF (q.1, q.2.1, q.2.2, nI np, nI n)), aI G (h 19) 60 (upd qf j (-1)), aI G (h 20) 60 af, aI G (h 21) 60 mf, aI G (h 22) 60 df, aI G (h 23) 7 (pF w), aI G (h 24) 64 sf, aI G (h 25) 64 cf, aI G (h 26) 64 lf, aI G (h 27) 64 rf, aI G (h 28) 64 gf, aI G (h 29) 64 tf]) (c_L_does0 l hst G h mo ki am sk dn y1 y2 y3 y4 y5 y6 y7 q v (nI j) np n hn hp I.hmo) S hK hW hXE hXZ gL_law_L_does rfl ⟨rfl, rfl⟩ nd_L_does ⟨rfl, rfl⟩ [0, 2, 6, 7, 8, 9, 10, 3, 11, 12, 13, 14, 15, 16, 17, 1, 4] [5, 18, 19, 20, 21, 22, 23, 24, 25, 26, 27, 28, 29] rfl rfl rfl rfl (by decide) rfl hl.1 rfl dL_law_554 hf1 (fun H locs hk hW => ?_) (fun H locs hk hW => ?_)
    · exact absurd (show (F_X4_strike mo ki am sk dn y1 y2 y3 y4 y5 y6 y7 q v (nI j) np n).1 = 0 by rw [e1]) hk
    ·
      rw [e1] at hW
      have hW : Wd G A sS.heap [cS (h 5) tr, aI G (h 18) 5 (nF (q.1, q.2.1, q.2.2, nI np, nI n)), aI G (h 19) 60 (upd qf j (-1)), aI G (h 20) 60 af, aI G (h 21) 60 mf, aI G (h 22) 60 df, aI G (h 23) 7 (pF w), aI G (h 24) 64 sf, aI G (h 25) 64 cf, aI G (h 26) 64 lf, aI G (h 27) 64 rf, aI G (h 28) 64 gf, aI G (h 29) 64 tf, cF h (nI np), cB h (nI n), aI G (h 6) 60 mo, aI G (h 7) 60 ki, aI G (h 8) 60 am, aZ G (h 9) 60 (updB sk j true), aZ G (h 10) 60 dn2, cH h, aI G (h 11) 121 z1, aI G (h 12) 121 z2, aI G (h 13) 121 z3, aI G (h 14) 121 z4, aI G (h 15) 121 z5, aI G (h 16) 121 z6, aI G (h 17) 121 z7, cP (h 1) q, cS (h 4) v2] H locs := hW
      refine W.eq (g2 := F0 mM 557 ls [.int (nI M)]) (by rw [e1]) ?_
      refine lv_iload hx hb dL_law_557 (lv_at hl 0 rfl) ?_
      refine lv_if_ge (tgt := 567) hx hb dL_law_559 (by decide) (fun c_4 => ?_) (fun c_4 => ?_)
      ·
        refine lv_iload hx hb dL_law_567 (lv_at hl 0 rfl) ?_
        refine lv_icmp_ne (tgt := 576) hx hb dL_law_569 (by decide) (fun c_5 => ?_) (fun c_5 => ?_)
        ·
          exact absurd rfl c_5
        ·
          refine lv_iconst (v := 1) hx hb dL_law_572 (by decide) ?_
          refine lv_goto (tgt := 577) hx hb dL_law_573 (by decide) ?_
          refine lv_istore (lv' := [(14, .int 1), (20, .int (nI M)), (19, .int (nI j)), (18, .int (nI Y)), (15, .int (nI t)), (0, .ref b), (1, .ref (h 0)), (2, .ref (h 18)), (3, .ref (h 19)), (4, .ref (h 20)), (5, .ref (h 21)), (6, .ref (h 22)), (7, .ref (h 23)), (8, .ref (h 24)), (9, .ref (h 25)), (10, .ref (h 26)), (11, .ref (h 27)), (12, .ref (h 28)), (13, .ref (h 29))]) hx hb dL_law_577 hl (by decide) rfl (fun ls hl => ?_)
          refine lv_iload hx hb dL_law_579 (lv_at hl 1 rfl) ?_
          refine lv_if_lt (tgt := 611) hx hb dL_law_581 (by decide) (fun c_6 => ?_) (fun c_6 => ?_)
          ·
            exact absurd c_6 (nI_pos (by omega))
          ·
            refine lv_aload_n hx hb dL_law_584 rfl (lv_at hl 7 rfl) ?_
            refine lv_aload_n hx hb dL_law_585 rfl (lv_at hl 8 rfl) ?_
            refine lv_aload hx hb dL_law_586 (lv_at hl 9 rfl) ?_
            refine lv_aload hx hb dL_law_588 (lv_at hl 10 rfl) ?_
            refine lv_aload hx hb dL_law_590 (lv_at hl 11 rfl) ?_
            refine lv_aload hx hb dL_law_592 (lv_at hl 12 rfl) ?_
            refine lv_aload hx hb dL_law_594 (lv_at hl 13 rfl) ?_
            refine lv_aload hx hb dL_law_596 (lv_at hl 14 rfl) ?_
            refine lv_aload hx hb dL_law_598 (lv_at hl 15 rfl) ?_
            refine lv_aload hx hb dL_law_600 (lv_at hl 16 rfl) ?_
            refine lv_aload hx hb dL_law_602 (lv_at hl 17 rfl) ?_
            refine lv_aload hx hb dL_law_604 (lv_at hl 18 rfl) ?_
            refine lv_iload hx hb dL_law_606 (lv_at hl 1 rfl) ?_
            have hag := ag_inv I (nI np) (nI n)
            refine k_callSv (As := [.ref (h 18), .ref (h 19), .ref (h 20), .ref (h 21), .ref (h 22), .ref (h 23), .ref (h 24), .ref (h 25), .ref (h 26), .ref (h 27), .ref (h 28), .ref (h 29), .int (nI M)]) (rest := []) (wr := [cS (h 5) tr, cF h (nI np), cB h (nI n), aI G (h 6) 60 mo, aI G (h 7) 60 ki, aI G (h 8) 60 am, aZ G (h 9) 60 (updB sk j true), aZ G (h 10) 60 dn2, cH h, aI G (h 11) 121 z1, aI G (h 12) 121 z2, aI G (h 13) 121 z3, aI G (h 14) 121 z4, aI G (h 15) 121 z5, aI G (h 16) 121 z6, aI G (h 17) 121 z7, cP (h 1) q, cS (h 4) v2]) (c_L_works l G h q np n (upd qf j (-1)) af mf df sf cf lf rf gf tf M w hn (by omega) hM hag) S hK hW gL_law_L_works rfl ⟨rfl, rfl⟩ nd_L_works ⟨rfl, rfl⟩ [1, 2, 3, 4, 5, 6, 7, 8, 9, 10, 11, 12] [0, 13, 14, 15, 16, 17, 18, 19, 20, 21, 22, 23, 24, 25, 26, 27, 28, 29] rfl rfl rfl rfl (by decide) rfl hl.1 rfl dL_law_608 hf1 (fun H locs hW => ?_)
            have L2 := t_strike I L9 hj hM hmo
            have hW : Wd G A sS.heap [cS (h 5) tr, cF h (nI np), cB h (nI n), aI G (h 6) 60 mo, aI G (h 7) 60 ki, aI G (h 8) 60 am, aZ G (h 9) 60 (updB sk j true), aZ G (h 10) 60 dn2, cH h, aI G (h 11) 121 z1, aI G (h 12) 121 z2, aI G (h 13) 121 z3, aI G (h 14) 121 z4, aI G (h 15) 121 z5, aI G (h 16) 121 z6, aI G (h 17) 121 z7, cP (h 1) q, cS (h 4) v2, aI G (h 18) 5 (nF (q.1, q.2.1, q.2.2, nI np, nI n)), aI G (h 19) 60 (upd qf j (-1)), aI G (h 20) 60 af, aI G (h 21) 60 mf, aI G (h 22) 60 ((F_L_works q np n (upd qf j (-1)) af mf df sf cf lf rf gf tf M).1), aI G (h 23) 7 (pF ((F_L_works q np n (upd qf j (-1)) af mf df sf cf lf rf gf tf M).2.1)), aI G (h 24) 64 ((F_L_works q np n (upd qf j (-1)) af mf df sf cf lf rf gf tf M).2.2.1), aI G (h 25) 64 ((F_L_works q np n (upd qf j (-1)) af mf df sf cf lf rf gf tf M).2.2.2.1), aI G (h 26) 64 ((F_L_works q np n (upd qf j (-1)) af mf df sf cf lf rf gf tf M).2.2.2.2.1), aI G (h 27) 64 ((F_L_works q np n (upd qf j (-1)) af mf df sf cf lf rf gf tf M).2.2.2.2.2.1), aI G (h 28) 64 ((F_L_works q np n (upd qf j (-1)) af mf df sf cf lf rf gf tf M).2.2.2.2.2.2.1), aI G (h 29) 64 ((F_L_works q np n (upd qf j (-1)) af mf df sf cf lf rf gf tf M).2.2.2.2.2.2.2)] H locs := hW
            generalize F_L_works q np n (upd qf j (-1)) af mf df sf cf lf rf gf tf M = fw at hW L2
            have hW : Wd G A sS.heap [cS (h 5) tr, cF h (nI np), cB h (nI n), aI G (h 6) 60 mo, aI G (h 7) 60 ki, aI G (h 8) 60 am, aZ G (h 9) 60 (updB sk j true), aZ G (h 10) 60 dn2, cH h, aI G (h 11) 121 z1, aI G (h 12) 121 z2, aI G (h 13) 121 z3, aI G (h 14) 121 z4, aI G (h 15) 121 z5, aI G (h 16) 121 z6, aI G (h 17) 121 z7, cP (h 1) q, cS (h 4) v2, aI G (h 18) 5 (nF (q.1, q.2.1, q.2.2, nI np, nI n)), aI G (h 19) 60 (upd qf j (-1)), aI G (h 20) 60 af, aI G (h 21) 60 mf, aI G (h 22) 60 fw.1, aI G (h 23) 7 (pF fw.2.1), aI G (h 24) 64 fw.2.2.1, aI G (h 25) 64 fw.2.2.2.1, aI G (h 26) 64 fw.2.2.2.2.1, aI G (h 27) 64 fw.2.2.2.2.2.1, aI G (h 28) 64 fw.2.2.2.2.2.2.1, aI G (h 29) 64 fw.2.2.2.2.2.2.2] H locs := hW
            refine lv_goto (tgt := 708) hx hb dL_law_611 (by decide) ?_
            exact K np n q mo ki am (updB sk j true) dn2 z1 z2 z3 z4 z5 z6 z7 v2 tr (upd qf j (-1)) af mf fw.1 fw.2.2.1 fw.2.2.2.1 fw.2.2.2.2.1 fw.2.2.2.2.2.1 fw.2.2.2.2.2.2.1 fw.2.2.2.2.2.2.2 fw.2.1 I2 L2 hnp H _ ls (hW.re [1, 16, 2, 8, 17, 0, 3, 4, 5, 6, 7, 9, 10, 11, 12, 13, 14, 15, 18, 19, 20, 21, 22, 23, 24, 25, 26, 27, 28, 29] rfl rfl) (lv_sub hl [3, 4, 0, 5, 6, 7, 8, 9, 10, 11, 12, 13, 14, 15, 16, 17, 18] rfl)
      ·
        exact absurd (nI_pos' (by omega)) c_4
set_option maxHeartbeats 8000000 in
set_option maxRecDepth 100000 in
theorem lclose1 {pP : Program} {l : Launch} {eE : Env} {sS : State} {mM : MethodId} {args : Array Value} {below : List Frame} {meth : Method} {cC : Code} {Q : State → Prop} {G : GG} {A : Nat → Prop} {h : Nat → Nat} {b L : Nat} {xs : Nat → Int32} (X : LWX pP l sS mM args cC G A b L xs) {cells slots t Y : Nat} (hY : Y < 2 ^ 31) (hc : cells + 193 ≤ 600130) (hs : slots + 1162 ≤ 7301080) (K : ∀ (np n : Nat) (q : S3) (mo ki am : N32) (sk dn : Nat → Bool) (y1 y2 y3 y4 y5 y6 y7 : N32) (v tr : S7) (qf af mf df sf cf lf rf gf tf : N32) (w : S7), Inv np n q mo ki am sk (dn, y1, y2, y3, y4, y5, y6, y7, v) → LInv np n q mo ki am sk qf af mf df sf cf lf rf gf tf w → np ≤ 61 → ∀ W9 : Nat, 1 ≤ W9 → W9 ≤ 24 → ∀ (H : Heap) (locs : List Loc) (ls : Array Slot), Wd G A sS.heap [cF h (nI np), cP (h 1) q, cB h (nI n), cH h, cS (h 4) v, cS (h 5) tr, aI G (h 6) 60 mo, aI G (h 7) 60 ki, aI G (h 8) 60 am, aZ G (h 9) 60 sk, aZ G (h 10) 60 dn, aI G (h 11) 121 y1, aI G (h 12) 121 y2, aI G (h 13) 121 y3, aI G (h 14) 121 y4, aI G (h 15) 121 y5, aI G (h 16) 121 y6, aI G (h 17) 121 y7, aI G (h 18) 5 (nF (q.1, q.2.1, q.2.2, nI np, nI n)), aI G (h 19) 60 qf, aI G (h 20) 60 af, aI G (h 21) 60 mf, aI G (h 22) 60 df, aI G (h 23) 7 (pF w), aI G (h 24) 64 sf, aI G (h 25) 64 cf, aI G (h 26) 64 lf, aI G (h 27) 64 rf, aI G (h 28) 64 gf, aI G (h 29) 64 tf] H locs → lv_has ls 23 [(18, .int (nI Y)), (15, .int (nI t)), (14, .int 1), (0, .ref b), (1, .ref (h 0)), (2, .ref (h 18)), (3, .ref (h 19)), (4, .ref (h 20)), (5, .ref (h 21)), (6, .ref (h 22)), (7, .ref (h 23)), (8, .ref (h 24)), (9, .ref (h 25)), (10, .ref (h 26)), (11, .ref (h 27)), (12, .ref (h 28)), (13, .ref (h 29))] → W pP l eE room_1 sS mM args below meth cC H locs cells slots Q (F0 mM 632 ls [.int (nI W9)])) :
    ∀ (np n : Nat) (q : S3) (mo ki am : N32) (sk dn : Nat → Bool) (y1 y2 y3 y4 y5 y6 y7 : N32) (v tr : S7) (qf af mf df sf cf lf rf gf tf : N32) (w : S7), Inv np n q mo ki am sk (dn, y1, y2, y3, y4, y5, y6, y7, v) → LInv np n q mo ki am sk qf af mf df sf cf lf rf gf tf w → np ≤ 61 → ∀ (H : Heap) (locs : List Loc) (ls : Array Slot), Wd G A sS.heap [cF h (nI np), cP (h 1) q, cB h (nI n), cH h, cS (h 4) v, cS (h 5) tr, aI G (h 6) 60 mo, aI G (h 7) 60 ki, aI G (h 8) 60 am, aZ G (h 9) 60 sk, aZ G (h 10) 60 dn, aI G (h 11) 121 y1, aI G (h 12) 121 y2, aI G (h 13) 121 y3, aI G (h 14) 121 y4, aI G (h 15) 121 y5, aI G (h 16) 121 y6, aI G (h 17) 121 y7, aI G (h 18) 5 (nF (q.1, q.2.1, q.2.2, nI np, nI n)), aI G (h 19) 60 qf, aI G (h 20) 60 af, aI G (h 21) 60 mf, aI G (h 22) 60 df, aI G (h 23) 7 (pF w), aI G (h 24) 64 sf, aI G (h 25) 64 cf, aI G (h 26) 64 lf, aI G (h 27) 64 rf, aI G (h 28) 64 gf, aI G (h 29) 64 tf] H locs → lv_has ls 23 [(18, .int (nI Y)), (15, .int (nI t)), (14, .int 1), (0, .ref b), (1, .ref (h 0)), (2, .ref (h 18)), (3, .ref (h 19)), (4, .ref (h 20)), (5, .ref (h 21)), (6, .ref (h 22)), (7, .ref (h 23)), (8, .ref (h 24)), (9, .ref (h 25)), (10, .ref (h 26)), (11, .ref (h 27)), (12, .ref (h 28)), (13, .ref (h 29))] → W pP l eE room_1 sS mM args below meth cC H locs cells slots Q (F0 mM 614 ls []) := by
  obtain ⟨S, hK, hXE, hXZ, hst, hX, hbl, hbA, hL⟩ := X
  have hx := S.1
  have hb := S.2.1
  have hf0 : cells ≤ room_1.cells ∧ slots ≤ room_1.slots := ⟨by show _ ≤ 600130; omega, by show _ ≤ 7301080; omega⟩
  have hf1 : cells + 1 ≤ room_1.cells ∧ slots + 6 ≤ room_1.slots := ⟨by show _ ≤ 600130; omega, by show _ ≤ 7301080; omega⟩
  intro np n q mo ki am sk dn y1 y2 y3 y4 y5 y6 y7 v tr qf af mf df sf cf lf rf gf tf w I L9 hnp H locs ls hW hl
  have hn := I.1
  have hp := I.2.1
  refine lv_iconst (v := 1) hx hb dL_law_614 (by decide) ?_
  refine lv_iload hx hb dL_law_615 (lv_at hl 0 rfl) ?_
  refine lv_iload hx hb dL_law_617 (lv_at hl 0 rfl) ?_
  refine lv_iconst (v := 4) hx hb dL_law_619 (by decide) ?_
  refine k_irem hx hb dL_law_620 (by decide) ?_
  refine lv_if_ne (tgt := 629) hx hb dL_law_621 (by decide) (fun c_1 => ?_) (fun c_1 => ?_)
  ·
    refine lv_iconst (v := 4) hx hb dL_law_629 (by decide) ?_
    refine k_irem hx hb dL_law_630 (by decide) ?_
    refine lv_iadd hx hb dL_law_631 ?_
    refine W.eq (g2 := F0 mM 632 ls [.int (nI (1 + Y % 4))]) (by rw [irm_nI (a := Y) (D := 4) 4 (by decide +kernel) hY (by omega) (by omega), add_nI 1 (by decide +kernel)]) ?_
    exact K np n q mo ki am sk dn y1 y2 y3 y4 y5 y6 y7 v tr qf af mf df sf cf lf rf gf tf w I L9 hnp (1 + Y % 4) (by omega) (by omega) H _ ls (hW.re [0, 1, 2, 3, 4, 5, 6, 7, 8, 9, 10, 11, 12, 13, 14, 15, 16, 17, 18, 19, 20, 21, 22, 23, 24, 25, 26, 27, 28, 29] rfl rfl) (lv_sub hl [0, 1, 2, 3, 4, 5, 6, 7, 8, 9, 10, 11, 12, 13, 14, 15, 16] rfl)
  ·
    refine lv_bipush (v := 24) hx hb dL_law_624 (by decide) ?_
    refine lv_goto (tgt := 630) hx hb dL_law_626 (by decide) ?_
    refine k_irem hx hb dL_law_630 (by decide) ?_
    refine lv_iadd hx hb dL_law_631 ?_
    refine W.eq (g2 := F0 mM 632 ls [.int (nI (1 + Y % 24))]) (by rw [irm_nI (a := Y) (D := 24) 24 (by decide +kernel) hY (by omega) (by omega), add_nI 1 (by decide +kernel)]) ?_
    exact K np n q mo ki am sk dn y1 y2 y3 y4 y5 y6 y7 v tr qf af mf df sf cf lf rf gf tf w I L9 hnp (1 + Y % 24) (by omega) (by omega) H _ ls (hW.re [0, 1, 2, 3, 4, 5, 6, 7, 8, 9, 10, 11, 12, 13, 14, 15, 16, 17, 18, 19, 20, 21, 22, 23, 24, 25, 26, 27, 28, 29] rfl rfl) (lv_sub hl [0, 1, 2, 3, 4, 5, 6, 7, 8, 9, 10, 11, 12, 13, 14, 15, 16] rfl)
