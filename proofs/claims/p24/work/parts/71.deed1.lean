set_option maxHeartbeats 8000000 in
set_option maxRecDepth 100000 in
theorem ltell1 {pP : Program} {l : Launch} {eE : Env} {sS : State} {mM : MethodId} {args : Array Value} {below : List Frame} {meth : Method} {cC : Code} {Q : State → Prop} {G : GG} {A : Nat → Prop} {h : Nat → Nat} {b L : Nat} {xs : Nat → Int32} (X : LWX pP l sS mM args cC G A b L xs) {cells slots t Y : Nat} (hY : Y < 2 ^ 31) (hc : cells + 193 ≤ 600130) (hs : slots + 1162 ≤ 7301080) (K : ∀ (np n : Nat) (q : S3) (mo ki am : N32) (sk dn : Nat → Bool) (y1 y2 y3 y4 y5 y6 y7 : N32) (v tr : S7) (qf af mf df sf cf lf rf gf tf : N32) (w : S7), Inv np n q mo ki am sk (dn, y1, y2, y3, y4, y5, y6, y7, v) → LInv np n q mo ki am sk qf af mf df sf cf lf rf gf tf w → np ≤ 61 → ∀ M : Nat, M ≤ np → ∀ (H : Heap) (locs : List Loc) (ls : Array Slot), Wd G A sS.heap [cF h (nI np), cP (h 1) q, cB h (nI n), cH h, cS (h 4) v, cS (h 5) tr, aI G (h 6) 60 mo, aI G (h 7) 60 ki, aI G (h 8) 60 am, aZ G (h 9) 60 sk, aZ G (h 10) 60 dn, aI G (h 11) 121 y1, aI G (h 12) 121 y2, aI G (h 13) 121 y3, aI G (h 14) 121 y4, aI G (h 15) 121 y5, aI G (h 16) 121 y6, aI G (h 17) 121 y7, aI G (h 18) 5 (nF (q.1, q.2.1, q.2.2, nI np, nI n)), aI G (h 19) 60 qf, aI G (h 20) 60 af, aI G (h 21) 60 mf, aI G (h 22) 60 df, aI G (h 23) 7 (pF w), aI G (h 24) 64 sf, aI G (h 25) 64 cf, aI G (h 26) 64 lf, aI G (h 27) 64 rf, aI G (h 28) 64 gf, aI G (h 29) 64 tf] H locs → lv_has ls 23 [(18, .int (nI Y)), (15, .int (nI t)), (14, .int 1), (0, .ref b), (1, .ref (h 0)), (2, .ref (h 18)), (3, .ref (h 19)), (4, .ref (h 20)), (5, .ref (h 21)), (6, .ref (h 22)), (7, .ref (h 23)), (8, .ref (h 24)), (9, .ref (h 25)), (10, .ref (h 26)), (11, .ref (h 27)), (12, .ref (h 28)), (13, .ref (h 29))] → W pP l eE room_1 sS mM args below meth cC H locs cells slots Q (F0 mM 320 ls [.int (nI M)])) :
    ∀ (np n : Nat) (q : S3) (mo ki am : N32) (sk dn : Nat → Bool) (y1 y2 y3 y4 y5 y6 y7 : N32) (v tr : S7) (qf af mf df sf cf lf rf gf tf : N32) (w : S7), Inv np n q mo ki am sk (dn, y1, y2, y3, y4, y5, y6, y7, v) → LInv np n q mo ki am sk qf af mf df sf cf lf rf gf tf w → np ≤ 61 → ∀ (H : Heap) (locs : List Loc) (ls : Array Slot), Wd G A sS.heap [cF h (nI np), cP (h 1) q, cB h (nI n), cH h, cS (h 4) v, cS (h 5) tr, aI G (h 6) 60 mo, aI G (h 7) 60 ki, aI G (h 8) 60 am, aZ G (h 9) 60 sk, aZ G (h 10) 60 dn, aI G (h 11) 121 y1, aI G (h 12) 121 y2, aI G (h 13) 121 y3, aI G (h 14) 121 y4, aI G (h 15) 121 y5, aI G (h 16) 121 y6, aI G (h 17) 121 y7, aI G (h 18) 5 (nF (q.1, q.2.1, q.2.2, nI np, nI n)), aI G (h 19) 60 qf, aI G (h 20) 60 af, aI G (h 21) 60 mf, aI G (h 22) 60 df, aI G (h 23) 7 (pF w), aI G (h 24) 64 sf, aI G (h 25) 64 cf, aI G (h 26) 64 lf, aI G (h 27) 64 rf, aI G (h 28) 64 gf, aI G (h 29) 64 tf] H locs → lv_has ls 23 [(18, .int (nI Y)), (15, .int (nI t)), (14, .int 1), (0, .ref b), (1, .ref (h 0)), (2, .ref (h 18)), (3, .ref (h 19)), (4, .ref (h 20)), (5, .ref (h 21)), (6, .ref (h 22)), (7, .ref (h 23)), (8, .ref (h 24)), (9, .ref (h 25)), (10, .ref (h 26)), (11, .ref (h 27)), (12, .ref (h 28)), (13, .ref (h 29))] → W pP l eE room_1 sS mM args below meth cC H locs cells slots Q (F0 mM 297 ls []) := by
  obtain ⟨S, hK, hXE, hXZ, hst, hX, hbl, hbA, hL⟩ := X
  have hx := S.1
  have hb := S.2.1
  have hf0 : cells ≤ room_1.cells ∧ slots ≤ room_1.slots := ⟨by show _ ≤ 600130; omega, by show _ ≤ 7301080; omega⟩
  have hf1 : cells + 1 ≤ room_1.cells ∧ slots + 6 ≤ room_1.slots := ⟨by show _ ≤ 600130; omega, by show _ ≤ 7301080; omega⟩
  intro np n q mo ki am sk dn y1 y2 y3 y4 y5 y6 y7 v tr qf af mf df sf cf lf rf gf tf w I L9 hnp H locs ls hW hl
  have hn := I.1
  have hp := I.2.1
  refine lv_iload hx hb dL_law_297 (lv_at hl 0 rfl) ?_
  refine lv_iconst (v := 3) hx hb dL_law_299 (by decide) ?_
  refine k_irem hx hb dL_law_300 (by decide) ?_
  refine lv_if_le (tgt := 310) hx hb dL_law_301 (by decide) (fun c_1 => ?_) (fun c_1 => ?_)
  ·
    refine lv_iload hx hb dL_law_310 (lv_at hl 0 rfl) ?_
    refine lv_iconst (v := 3) hx hb dL_law_312 (by decide) ?_
    refine lv_idiv hx hb dL_law_313 (by decide) ?_
    refine lv_aload_n hx hb dL_law_314 rfl (lv_at hl 5 rfl) ?_
    refine lv_iconst (v := 3) hx hb dL_law_315 (by decide) ?_
    refine k_vld S hK hW 18 rfl (i := 3) (k := 3) (x := (nI np)) vi5_3 ix_3 rfl dL_law_316 ?_
    refine lv_iconst (v := 1) hx hb dL_law_317 (by decide) ?_
    refine lv_iadd hx hb dL_law_318 ?_
    refine W.eq (g2 := F0 mM 319 ls [.int (nI (np + 1)), .int (nI Y / 3)]) (by rw [nI_1 np]) ?_
    refine W.eq (g2 := F0 mM 319 ls [.int (nI (np + 1)), .int (nI (Y / 3))]) (by rw [idv_nI (a := Y) (D := 3) 3 (by decide +kernel) hY (by omega) (by omega)]) ?_
    refine k_irem hx hb dL_law_319 (nI_ne0 (by omega) (by omega)) ?_
    refine W.eq (g2 := F0 mM 320 ls [.int (nI (Y / 3 % (np + 1)))]) (by rw [irm_nI (a := Y / 3) (D := nI (np + 1)) (np + 1) rfl (by omega) (by omega) (by omega)]) ?_
    exact K np n q mo ki am sk dn y1 y2 y3 y4 y5 y6 y7 v tr qf af mf df sf cf lf rf gf tf w I L9 hnp (Y / 3 % (np + 1)) (Nat.le_of_lt_succ (Nat.mod_lt _ (Nat.succ_pos np))) H _ ls (hW.re [0, 1, 2, 3, 4, 5, 6, 7, 8, 9, 10, 11, 12, 13, 14, 15, 16, 17, 18, 19, 20, 21, 22, 23, 24, 25, 26, 27, 28, 29] rfl rfl) (lv_sub hl [0, 1, 2, 3, 4, 5, 6, 7, 8, 9, 10, 11, 12, 13, 14, 15, 16] rfl)
  ·
    refine lv_aload_n hx hb dL_law_304 rfl (lv_at hl 5 rfl) ?_
    refine lv_iconst (v := 3) hx hb dL_law_305 (by decide) ?_
    refine k_vld S hK hW 18 rfl (i := 3) (k := 3) (x := (nI np)) vi5_3 ix_3 rfl dL_law_306 ?_
    refine lv_goto (tgt := 320) hx hb dL_law_307 (by decide) ?_
    exact K np n q mo ki am sk dn y1 y2 y3 y4 y5 y6 y7 v tr qf af mf df sf cf lf rf gf tf w I L9 hnp (np) (Nat.le_refl np) H _ ls (hW.re [0, 1, 2, 3, 4, 5, 6, 7, 8, 9, 10, 11, 12, 13, 14, 15, 16, 17, 18, 19, 20, 21, 22, 23, 24, 25, 26, 27, 28, 29] rfl rfl) (lv_sub hl [0, 1, 2, 3, 4, 5, 6, 7, 8, 9, 10, 11, 12, 13, 14, 15, 16] rfl)
set_option maxHeartbeats 8000000 in
set_option maxRecDepth 100000 in
theorem ltell2 {pP : Program} {l : Launch} {eE : Env} {sS : State} {mM : MethodId} {args : Array Value} {below : List Frame} {meth : Method} {cC : Code} {Q : State → Prop} {G : GG} {A : Nat → Prop} {h : Nat → Nat} {b L : Nat} {xs : Nat → Int32} (X : LWX pP l sS mM args cC G A b L xs) {cells slots t Y : Nat} (hY : Y < 2 ^ 31) (hc : cells + 193 ≤ 600130) (hs : slots + 1162 ≤ 7301080) (K : ∀ (np n : Nat) (q : S3) (mo ki am : N32) (sk dn : Nat → Bool) (y1 y2 y3 y4 y5 y6 y7 : N32) (v tr : S7) (qf af mf df sf cf lf rf gf tf : N32) (w : S7), Inv np n q mo ki am sk (dn, y1, y2, y3, y4, y5, y6, y7, v) → LInv np n q mo ki am sk qf af mf df sf cf lf rf gf tf w → np ≤ 61 → ∀ M : Nat, M ≤ np → ∀ Ac : Nat, Ac ≤ 5 → ∀ (H : Heap) (locs : List Loc) (ls : Array Slot), Wd G A sS.heap [cF h (nI np), cP (h 1) q, cB h (nI n), cH h, cS (h 4) v, cS (h 5) tr, aI G (h 6) 60 mo, aI G (h 7) 60 ki, aI G (h 8) 60 am, aZ G (h 9) 60 sk, aZ G (h 10) 60 dn, aI G (h 11) 121 y1, aI G (h 12) 121 y2, aI G (h 13) 121 y3, aI G (h 14) 121 y4, aI G (h 15) 121 y5, aI G (h 16) 121 y6, aI G (h 17) 121 y7, aI G (h 18) 5 (nF (q.1, q.2.1, q.2.2, nI np, nI n)), aI G (h 19) 60 qf, aI G (h 20) 60 af, aI G (h 21) 60 mf, aI G (h 22) 60 df, aI G (h 23) 7 (pF w), aI G (h 24) 64 sf, aI G (h 25) 64 cf, aI G (h 26) 64 lf, aI G (h 27) 64 rf, aI G (h 28) 64 gf, aI G (h 29) 64 tf] H locs → lv_has ls 23 [(19, .int (nI M)), (18, .int (nI Y)), (15, .int (nI t)), (14, .int 1), (0, .ref b), (1, .ref (h 0)), (2, .ref (h 18)), (3, .ref (h 19)), (4, .ref (h 20)), (5, .ref (h 21)), (6, .ref (h 22)), (7, .ref (h 23)), (8, .ref (h 24)), (9, .ref (h 25)), (10, .ref (h 26)), (11, .ref (h 27)), (12, .ref (h 28)), (13, .ref (h 29))] → W pP l eE room_1 sS mM args below meth cC H locs cells slots Q (F0 mM 360 ls [.int (nI Ac)])) :
    ∀ (np n : Nat) (q : S3) (mo ki am : N32) (sk dn : Nat → Bool) (y1 y2 y3 y4 y5 y6 y7 : N32) (v tr : S7) (qf af mf df sf cf lf rf gf tf : N32) (w : S7), Inv np n q mo ki am sk (dn, y1, y2, y3, y4, y5, y6, y7, v) → LInv np n q mo ki am sk qf af mf df sf cf lf rf gf tf w → np ≤ 61 → ∀ M : Nat, M ≤ np → ∀ (H : Heap) (locs : List Loc) (ls : Array Slot), Wd G A sS.heap [cF h (nI np), cP (h 1) q, cB h (nI n), cH h, cS (h 4) v, cS (h 5) tr, aI G (h 6) 60 mo, aI G (h 7) 60 ki, aI G (h 8) 60 am, aZ G (h 9) 60 sk, aZ G (h 10) 60 dn, aI G (h 11) 121 y1, aI G (h 12) 121 y2, aI G (h 13) 121 y3, aI G (h 14) 121 y4, aI G (h 15) 121 y5, aI G (h 16) 121 y6, aI G (h 17) 121 y7, aI G (h 18) 5 (nF (q.1, q.2.1, q.2.2, nI np, nI n)), aI G (h 19) 60 qf, aI G (h 20) 60 af, aI G (h 21) 60 mf, aI G (h 22) 60 df, aI G (h 23) 7 (pF w), aI G (h 24) 64 sf, aI G (h 25) 64 cf, aI G (h 26) 64 lf, aI G (h 27) 64 rf, aI G (h 28) 64 gf, aI G (h 29) 64 tf] H locs → lv_has ls 23 [(18, .int (nI Y)), (15, .int (nI t)), (14, .int 1), (0, .ref b), (1, .ref (h 0)), (2, .ref (h 18)), (3, .ref (h 19)), (4, .ref (h 20)), (5, .ref (h 21)), (6, .ref (h 22)), (7, .ref (h 23)), (8, .ref (h 24)), (9, .ref (h 25)), (10, .ref (h 26)), (11, .ref (h 27)), (12, .ref (h 28)), (13, .ref (h 29))] → W pP l eE room_1 sS mM args below meth cC H locs cells slots Q (F0 mM 320 ls [.int (nI M)]) := by
  obtain ⟨S, hK, hXE, hXZ, hst, hX, hbl, hbA, hL⟩ := X
  have hx := S.1
  have hb := S.2.1
  have hf0 : cells ≤ room_1.cells ∧ slots ≤ room_1.slots := ⟨by show _ ≤ 600130; omega, by show _ ≤ 7301080; omega⟩
  have hf1 : cells + 1 ≤ room_1.cells ∧ slots + 6 ≤ room_1.slots := ⟨by show _ ≤ 600130; omega, by show _ ≤ 7301080; omega⟩
  intro np n q mo ki am sk dn y1 y2 y3 y4 y5 y6 y7 v tr qf af mf df sf cf lf rf gf tf w I L9 hnp M hM H locs ls hW hl
  have hn := I.1
  have hp := I.2.1
  refine lv_istore (lv' := [(19, .int (nI M)), (18, .int (nI Y)), (15, .int (nI t)), (14, .int 1), (0, .ref b), (1, .ref (h 0)), (2, .ref (h 18)), (3, .ref (h 19)), (4, .ref (h 20)), (5, .ref (h 21)), (6, .ref (h 22)), (7, .ref (h 23)), (8, .ref (h 24)), (9, .ref (h 25)), (10, .ref (h 26)), (11, .ref (h 27)), (12, .ref (h 28)), (13, .ref (h 29))]) hx hb dL_law_320 hl (by decide) rfl (fun ls hl => ?_)
  refine lv_iload hx hb dL_law_322 (lv_at hl 1 rfl) ?_
  refine lv_iconst (v := 4) hx hb dL_law_324 (by decide) ?_
  refine lv_idiv hx hb dL_law_325 (by decide) ?_
  refine lv_bipush (v := 9) hx hb dL_law_326 (by decide) ?_
  refine k_irem hx hb dL_law_328 (by decide) ?_
  refine W.eq (g2 := F0 mM 329 ls [.int (nI (Y / 4 % 9))]) (by rw [idv_nI (a := Y) (D := 4) 4 (by decide +kernel) hY (by omega) (by omega), irm_nI (a := Y / 4) (D := 9) 9 (by decide +kernel) (by omega) (by omega) (by omega)]) ?_
  refine lv_istore (lv' := [(20, .int (nI (Y / 4 % 9))), (19, .int (nI M)), (18, .int (nI Y)), (15, .int (nI t)), (14, .int 1), (0, .ref b), (1, .ref (h 0)), (2, .ref (h 18)), (3, .ref (h 19)), (4, .ref (h 20)), (5, .ref (h 21)), (6, .ref (h 22)), (7, .ref (h 23)), (8, .ref (h 24)), (9, .ref (h 25)), (10, .ref (h 26)), (11, .ref (h 27)), (12, .ref (h 28)), (13, .ref (h 29))]) hx hb dL_law_329 hl (by decide) rfl (fun ls hl => ?_)
  refine lv_iload hx hb dL_law_331 (lv_at hl 0 rfl) ?_
  refine lv_iconst (v := 5) hx hb dL_law_333 (by decide) ?_
  refine lv_icmp_le (tgt := 341) hx hb dL_law_334 (by decide) (fun c_1 => ?_) (fun c_1 => ?_)
  ·
    refine lv_iload hx hb dL_law_341 (lv_at hl 0 rfl) ?_
    refine lv_iconst (v := 5) hx hb dL_law_343 (by decide) ?_
    refine lv_icmp_ne (tgt := 358) hx hb dL_law_344 (by decide) (fun c_2 => ?_) (fun c_2 => ?_)
    ·
      refine lv_iload hx hb dL_law_358 (lv_at hl 0 rfl) ?_
      exact K np n q mo ki am sk dn y1 y2 y3 y4 y5 y6 y7 v tr qf af mf df sf cf lf rf gf tf w I L9 hnp M hM (Y / 4 % 9) (le5 (by omega) c_1) H _ ls (hW.re [0, 1, 2, 3, 4, 5, 6, 7, 8, 9, 10, 11, 12, 13, 14, 15, 16, 17, 18, 19, 20, 21, 22, 23, 24, 25, 26, 27, 28, 29] rfl rfl) (lv_sub hl [1, 2, 3, 4, 5, 6, 7, 8, 9, 10, 11, 12, 13, 14, 15, 16, 17, 18] rfl)
    ·
      refine lv_iload hx hb dL_law_347 (lv_at hl 2 rfl) ?_
      refine lv_iconst (v := 4) hx hb dL_law_349 (by decide) ?_
      refine k_irem hx hb dL_law_350 (by decide) ?_
      refine lv_if_le (tgt := 358) hx hb dL_law_351 (by decide) (fun c_3 => ?_) (fun c_3 => ?_)
      ·
        refine lv_iload hx hb dL_law_358 (lv_at hl 0 rfl) ?_
        exact K np n q mo ki am sk dn y1 y2 y3 y4 y5 y6 y7 v tr qf af mf df sf cf lf rf gf tf w I L9 hnp M hM (Y / 4 % 9) (le5 (by omega) c_1) H _ ls (hW.re [0, 1, 2, 3, 4, 5, 6, 7, 8, 9, 10, 11, 12, 13, 14, 15, 16, 17, 18, 19, 20, 21, 22, 23, 24, 25, 26, 27, 28, 29] rfl rfl) (lv_sub hl [1, 2, 3, 4, 5, 6, 7, 8, 9, 10, 11, 12, 13, 14, 15, 16, 17, 18] rfl)
      ·
        refine lv_iconst (v := 4) hx hb dL_law_354 (by decide) ?_
        refine lv_goto (tgt := 360) hx hb dL_law_355 (by decide) ?_
        refine W.eq (g2 := F0 mM 360 ls [.int (nI 4)]) (by rw [show nI 4 = 4 by decide +kernel]) ?_
        exact K np n q mo ki am sk dn y1 y2 y3 y4 y5 y6 y7 v tr qf af mf df sf cf lf rf gf tf w I L9 hnp M hM (4) (by omega) H _ ls (hW.re [0, 1, 2, 3, 4, 5, 6, 7, 8, 9, 10, 11, 12, 13, 14, 15, 16, 17, 18, 19, 20, 21, 22, 23, 24, 25, 26, 27, 28, 29] rfl rfl) (lv_sub hl [1, 2, 3, 4, 5, 6, 7, 8, 9, 10, 11, 12, 13, 14, 15, 16, 17, 18] rfl)
  ·
    refine lv_iconst (v := 0) hx hb dL_law_337 (by decide) ?_
    refine lv_goto (tgt := 360) hx hb dL_law_338 (by decide) ?_
    refine W.eq (g2 := F0 mM 360 ls [.int (nI 0)]) (by rw [nI_0]) ?_
    exact K np n q mo ki am sk dn y1 y2 y3 y4 y5 y6 y7 v tr qf af mf df sf cf lf rf gf tf w I L9 hnp M hM (0) (by omega) H _ ls (hW.re [0, 1, 2, 3, 4, 5, 6, 7, 8, 9, 10, 11, 12, 13, 14, 15, 16, 17, 18, 19, 20, 21, 22, 23, 24, 25, 26, 27, 28, 29] rfl rfl) (lv_sub hl [1, 2, 3, 4, 5, 6, 7, 8, 9, 10, 11, 12, 13, 14, 15, 16, 17, 18] rfl)
set_option maxHeartbeats 8000000 in
set_option maxRecDepth 100000 in
theorem ltell3 {pP : Program} {l : Launch} {eE : Env} {sS : State} {mM : MethodId} {args : Array Value} {below : List Frame} {meth : Method} {cC : Code} {Q : State → Prop} {G : GG} {A : Nat → Prop} {h : Nat → Nat} {b L : Nat} {xs : Nat → Int32} (X : LWX pP l sS mM args cC G A b L xs) {cells slots t Y : Nat} (hY : Y < 2 ^ 31) (hc : cells + 193 ≤ 600130) (hs : slots + 1162 ≤ 7301080) (K : ∀ (np n : Nat) (q : S3) (mo ki am : N32) (sk dn : Nat → Bool) (y1 y2 y3 y4 y5 y6 y7 : N32) (v tr : S7) (qf af mf df sf cf lf rf gf tf : N32) (w : S7), Inv np n q mo ki am sk (dn, y1, y2, y3, y4, y5, y6, y7, v) → LInv np n q mo ki am sk qf af mf df sf cf lf rf gf tf w → np ≤ 61 → ∀ M : Nat, M ≤ np → ∀ Ac : Nat, Ac ≤ 5 → ∀ B : Nat, 1 ≤ B → B ≤ 2000000 → ∀ (H : Heap) (locs : List Loc) (ls : Array Slot), Wd G A sS.heap [cF h (nI np), cP (h 1) q, cB h (nI n), cH h, cS (h 4) v, cS (h 5) tr, aI G (h 6) 60 mo, aI G (h 7) 60 ki, aI G (h 8) 60 am, aZ G (h 9) 60 sk, aZ G (h 10) 60 dn, aI G (h 11) 121 y1, aI G (h 12) 121 y2, aI G (h 13) 121 y3, aI G (h 14) 121 y4, aI G (h 15) 121 y5, aI G (h 16) 121 y6, aI G (h 17) 121 y7, aI G (h 18) 5 (nF (q.1, q.2.1, q.2.2, nI np, nI n)), aI G (h 19) 60 qf, aI G (h 20) 60 af, aI G (h 21) 60 mf, aI G (h 22) 60 df, aI G (h 23) 7 (pF w), aI G (h 24) 64 sf, aI G (h 25) 64 cf, aI G (h 26) 64 lf, aI G (h 27) 64 rf, aI G (h 28) 64 gf, aI G (h 29) 64 tf] H locs → lv_has ls 23 [(20, .int (nI Ac)), (19, .int (nI M)), (18, .int (nI Y)), (15, .int (nI t)), (14, .int 1), (0, .ref b), (1, .ref (h 0)), (2, .ref (h 18)), (3, .ref (h 19)), (4, .ref (h 20)), (5, .ref (h 21)), (6, .ref (h 22)), (7, .ref (h 23)), (8, .ref (h 24)), (9, .ref (h 25)), (10, .ref (h 26)), (11, .ref (h 27)), (12, .ref (h 28)), (13, .ref (h 29))] → W pP l eE room_1 sS mM args below meth cC H locs cells slots Q (F0 mM 398 ls [.int (nI B)])) :
    ∀ (np n : Nat) (q : S3) (mo ki am : N32) (sk dn : Nat → Bool) (y1 y2 y3 y4 y5 y6 y7 : N32) (v tr : S7) (qf af mf df sf cf lf rf gf tf : N32) (w : S7), Inv np n q mo ki am sk (dn, y1, y2, y3, y4, y5, y6, y7, v) → LInv np n q mo ki am sk qf af mf df sf cf lf rf gf tf w → np ≤ 61 → ∀ M : Nat, M ≤ np → ∀ Ac : Nat, Ac ≤ 5 → ∀ (H : Heap) (locs : List Loc) (ls : Array Slot), Wd G A sS.heap [cF h (nI np), cP (h 1) q, cB h (nI n), cH h, cS (h 4) v, cS (h 5) tr, aI G (h 6) 60 mo, aI G (h 7) 60 ki, aI G (h 8) 60 am, aZ G (h 9) 60 sk, aZ G (h 10) 60 dn, aI G (h 11) 121 y1, aI G (h 12) 121 y2, aI G (h 13) 121 y3, aI G (h 14) 121 y4, aI G (h 15) 121 y5, aI G (h 16) 121 y6, aI G (h 17) 121 y7, aI G (h 18) 5 (nF (q.1, q.2.1, q.2.2, nI np, nI n)), aI G (h 19) 60 qf, aI G (h 20) 60 af, aI G (h 21) 60 mf, aI G (h 22) 60 df, aI G (h 23) 7 (pF w), aI G (h 24) 64 sf, aI G (h 25) 64 cf, aI G (h 26) 64 lf, aI G (h 27) 64 rf, aI G (h 28) 64 gf, aI G (h 29) 64 tf] H locs → lv_has ls 23 [(19, .int (nI M)), (18, .int (nI Y)), (15, .int (nI t)), (14, .int 1), (0, .ref b), (1, .ref (h 0)), (2, .ref (h 18)), (3, .ref (h 19)), (4, .ref (h 20)), (5, .ref (h 21)), (6, .ref (h 22)), (7, .ref (h 23)), (8, .ref (h 24)), (9, .ref (h 25)), (10, .ref (h 26)), (11, .ref (h 27)), (12, .ref (h 28)), (13, .ref (h 29))] → W pP l eE room_1 sS mM args below meth cC H locs cells slots Q (F0 mM 360 ls [.int (nI Ac)]) := by
  obtain ⟨S, hK, hXE, hXZ, hst, hX, hbl, hbA, hL⟩ := X
  have hx := S.1
  have hb := S.2.1
  have hf0 : cells ≤ room_1.cells ∧ slots ≤ room_1.slots := ⟨by show _ ≤ 600130; omega, by show _ ≤ 7301080; omega⟩
  have hf1 : cells + 1 ≤ room_1.cells ∧ slots + 6 ≤ room_1.slots := ⟨by show _ ≤ 600130; omega, by show _ ≤ 7301080; omega⟩
  intro np n q mo ki am sk dn y1 y2 y3 y4 y5 y6 y7 v tr qf af mf df sf cf lf rf gf tf w I L9 hnp M hM Ac hAc H locs ls hW hl
  have hn := I.1
  have hp := I.2.1
  refine lv_istore (lv' := [(20, .int (nI Ac)), (19, .int (nI M)), (18, .int (nI Y)), (15, .int (nI t)), (14, .int 1), (0, .ref b), (1, .ref (h 0)), (2, .ref (h 18)), (3, .ref (h 19)), (4, .ref (h 20)), (5, .ref (h 21)), (6, .ref (h 22)), (7, .ref (h 23)), (8, .ref (h 24)), (9, .ref (h 25)), (10, .ref (h 26)), (11, .ref (h 27)), (12, .ref (h 28)), (13, .ref (h 29))]) hx hb dL_law_360 hl (by decide) rfl (fun ls hl => ?_)
  refine lv_iconst (v := 1) hx hb dL_law_362 (by decide) ?_
  refine lv_iload hx hb dL_law_363 (lv_at hl 2 rfl) ?_
  refine lv_bipush (v := 36) hx hb dL_law_365 (by decide) ?_
  refine lv_idiv hx hb dL_law_367 (by decide) ?_
  refine lv_iload hx hb dL_law_368 (lv_at hl 2 rfl) ?_
  refine lv_iconst (v := 5) hx hb dL_law_370 (by decide) ?_
  refine k_irem hx hb dL_law_371 (by decide) ?_
  refine lv_if_ne (tgt := 380) hx hb dL_law_372 (by decide) (fun c_1 => ?_) (fun c_1 => ?_)
  ·
    refine lv_iload hx hb dL_law_380 (lv_at hl 2 rfl) ?_
    refine lv_iconst (v := 5) hx hb dL_law_382 (by decide) ?_
    refine k_irem hx hb dL_law_383 (by decide) ?_
    refine lv_iconst (v := 3) hx hb dL_law_384 (by decide) ?_
    refine lv_icmp_ge (tgt := 394) hx hb dL_law_385 (by decide) (fun c_2 => ?_) (fun c_2 => ?_)
    ·
      refine k_ldc S k_L_law_c142 dL_law_394 ?_
      refine W.eq (g2 := F0 mM 396 ls [.int 400000, .int (nI (Y / 36)), .int 1]) (by rw [idv_nI (a := Y) (D := 36) 36 (by decide +kernel) hY (by omega) (by omega)]) ?_
      refine k_irem hx hb dL_law_396 (by decide) ?_
      refine W.eq (g2 := F0 mM 397 ls [.int (nI (Y / 36 % 400000)), .int 1]) (by rw [irm_nI (a := Y / 36) (D := 400000) 400000 (by decide +kernel) (by omega) (by omega) (by omega)]) ?_
      refine lv_iadd hx hb dL_law_397 ?_
      refine W.eq (g2 := F0 mM 398 ls [.int (nI (1 + Y / 36 % 400000))]) (by rw [add_nI 1 (by decide +kernel)]) ?_
      exact K np n q mo ki am sk dn y1 y2 y3 y4 y5 y6 y7 v tr qf af mf df sf cf lf rf gf tf w I L9 hnp M hM Ac hAc (1 + Y / 36 % 400000) (by omega) (by omega) H _ ls (hW.re [0, 1, 2, 3, 4, 5, 6, 7, 8, 9, 10, 11, 12, 13, 14, 15, 16, 17, 18, 19, 20, 21, 22, 23, 24, 25, 26, 27, 28, 29] rfl rfl) (lv_sub hl [0, 1, 2, 3, 4, 5, 6, 7, 8, 9, 10, 11, 12, 13, 14, 15, 16, 17, 18] rfl)
    ·
      refine lv_sipush (v := 30000) hx hb dL_law_388 (by decide) ?_
      refine lv_goto (tgt := 396) hx hb dL_law_391 (by decide) ?_
      refine W.eq (g2 := F0 mM 396 ls [.int 30000, .int (nI (Y / 36)), .int 1]) (by rw [idv_nI (a := Y) (D := 36) 36 (by decide +kernel) hY (by omega) (by omega)]) ?_
      refine k_irem hx hb dL_law_396 (by decide) ?_
      refine W.eq (g2 := F0 mM 397 ls [.int (nI (Y / 36 % 30000)), .int 1]) (by rw [irm_nI (a := Y / 36) (D := 30000) 30000 (by decide +kernel) (by omega) (by omega) (by omega)]) ?_
      refine lv_iadd hx hb dL_law_397 ?_
      refine W.eq (g2 := F0 mM 398 ls [.int (nI (1 + Y / 36 % 30000))]) (by rw [add_nI 1 (by decide +kernel)]) ?_
      exact K np n q mo ki am sk dn y1 y2 y3 y4 y5 y6 y7 v tr qf af mf df sf cf lf rf gf tf w I L9 hnp M hM Ac hAc (1 + Y / 36 % 30000) (by omega) (by omega) H _ ls (hW.re [0, 1, 2, 3, 4, 5, 6, 7, 8, 9, 10, 11, 12, 13, 14, 15, 16, 17, 18, 19, 20, 21, 22, 23, 24, 25, 26, 27, 28, 29] rfl rfl) (lv_sub hl [0, 1, 2, 3, 4, 5, 6, 7, 8, 9, 10, 11, 12, 13, 14, 15, 16, 17, 18] rfl)
  ·
    refine k_ldc S k_L_law_c127 dL_law_375 ?_
    refine lv_goto (tgt := 396) hx hb dL_law_377 (by decide) ?_
    refine W.eq (g2 := F0 mM 396 ls [.int 2000000, .int (nI (Y / 36)), .int 1]) (by rw [idv_nI (a := Y) (D := 36) 36 (by decide +kernel) hY (by omega) (by omega)]) ?_
    refine k_irem hx hb dL_law_396 (by decide) ?_
    refine W.eq (g2 := F0 mM 397 ls [.int (nI (Y / 36 % 2000000)), .int 1]) (by rw [irm_nI (a := Y / 36) (D := 2000000) 2000000 (by decide +kernel) (by omega) (by omega) (by omega)]) ?_
    refine lv_iadd hx hb dL_law_397 ?_
    refine W.eq (g2 := F0 mM 398 ls [.int (nI (1 + Y / 36 % 2000000))]) (by rw [add_nI 1 (by decide +kernel)]) ?_
    exact K np n q mo ki am sk dn y1 y2 y3 y4 y5 y6 y7 v tr qf af mf df sf cf lf rf gf tf w I L9 hnp M hM Ac hAc (1 + Y / 36 % 2000000) (by omega) (by omega) H _ ls (hW.re [0, 1, 2, 3, 4, 5, 6, 7, 8, 9, 10, 11, 12, 13, 14, 15, 16, 17, 18, 19, 20, 21, 22, 23, 24, 25, 26, 27, 28, 29] rfl rfl) (lv_sub hl [0, 1, 2, 3, 4, 5, 6, 7, 8, 9, 10, 11, 12, 13, 14, 15, 16, 17, 18] rfl)
