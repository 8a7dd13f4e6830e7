set_option maxHeartbeats 8000000 in
set_option maxRecDepth 100000 in
theorem l746 {pP : Program} {l : Launch} {eE : Env} {sS : State} {mM : MethodId} {args : Array Value} {below : List Frame} {meth : Method} {cC : Code} {Q : State → Prop} {G : GG} {A : Nat → Prop} {h : Nat → Nat} {b L : Nat} {xs : Nat → Int32} (X : LWX pP l sS mM args cC G A b L xs) {cells slots t Y : Nat} (hY : Y < 2 ^ 31) (hc : cells + 193 ≤ 600130) (hs : slots + 1162 ≤ 7301080) (hPc : cells + 192 ≤ 600130) (hPs : slots + 1156 ≤ 7301080) (K : LHd pP l eE sS mM args below meth cC Q G A h b (t + 1) (cells + 192) (slots + 1156)) :
    ∀ (np n : Nat) (q : S3) (mo ki am : N32) (sk dn : Nat → Bool) (y1 y2 y3 y4 y5 y6 y7 : N32) (v tr : S7) (qf af mf df sf cf lf rf gf tf : N32) (w : S7), Inv np n q mo ki am sk (dn, y1, y2, y3, y4, y5, y6, y7, v) → LInv np n q mo ki am sk qf af mf df sf cf lf rf gf tf w → np ≤ 61 → ∀ (H : Heap) (locs : List Loc) (ls : Array Slot), Wd G A sS.heap [cF h (nI np), cP (h 1) q, cB h (nI n), cH h, cS (h 4) v, cS (h 5) tr, aI G (h 6) 60 mo, aI G (h 7) 60 ki, aI G (h 8) 60 am, aZ G (h 9) 60 sk, aZ G (h 10) 60 dn, aI G (h 11) 121 y1, aI G (h 12) 121 y2, aI G (h 13) 121 y3, aI G (h 14) 121 y4, aI G (h 15) 121 y5, aI G (h 16) 121 y6, aI G (h 17) 121 y7, aI G (h 18) 5 (nF (q.1, q.2.1, q.2.2, nI np, nI n)), aI G (h 19) 60 qf, aI G (h 20) 60 af, aI G (h 21) 60 mf, aI G (h 22) 60 df, aI G (h 23) 7 (pF w), aI G (h 24) 64 sf, aI G (h 25) 64 cf, aI G (h 26) 64 lf, aI G (h 27) 64 rf, aI G (h 28) 64 gf, aI G (h 29) 64 tf] H locs → lv_has ls 23 [(18, .int (nI Y)), (15, .int (nI t)), (14, .int 1), (0, .ref b), (1, .ref (h 0)), (2, .ref (h 18)), (3, .ref (h 19)), (4, .ref (h 20)), (5, .ref (h 21)), (6, .ref (h 22)), (7, .ref (h 23)), (8, .ref (h 24)), (9, .ref (h 25)), (10, .ref (h 26)), (11, .ref (h 27)), (12, .ref (h 28)), (13, .ref (h 29))] → W pP l eE room_1 sS mM args below meth cC H locs cells slots Q (F0 mM 746 ls []) := by
  obtain ⟨S, hK, hXE, hXZ, hst, hX, hbl, hbA, hL⟩ := X
  have hx := S.1
  have hb := S.2.1
  have hf0 : cells ≤ room_1.cells ∧ slots ≤ room_1.slots := ⟨by show _ ≤ 600130; omega, by show _ ≤ 7301080; omega⟩
  have hf1 : cells + 1 ≤ room_1.cells ∧ slots + 6 ≤ room_1.slots := ⟨by show _ ≤ 600130; omega, by show _ ≤ 7301080; omega⟩
  unfold LHd at K
  have hfP : cells + 192 ≤ room_1.cells ∧ slots + 1156 ≤ room_1.slots := ⟨hPc, hPs⟩
  intro np n q mo ki am sk dn y1 y2 y3 y4 y5 y6 y7 v tr qf af mf df sf cf lf rf gf tf w I L9 hnp H locs ls hW hl
  have hn := I.1
  have hp := I.2.1
  refine lv_iload hx hb dL_law_746 (lv_at hl 2 rfl) ?_
  refine lv_if_eq (tgt := 774) hx hb dL_law_748 (by decide) (fun c_1 => ?_) (fun c_1 => ?_)
  ·
    exact absurd c_1 (by decide)
  ·
    refine lv_aload_n hx hb dL_law_751 rfl (lv_at hl 4 rfl) ?_
    refine lv_aload_n hx hb dL_law_752 rfl (lv_at hl 5 rfl) ?_
    refine lv_aload_n hx hb dL_law_753 rfl (lv_at hl 6 rfl) ?_
    refine lv_aload hx hb dL_law_754 (lv_at hl 9 rfl) ?_
    refine lv_aload hx hb dL_law_756 (lv_at hl 10 rfl) ?_
    refine lv_aload hx hb dL_law_758 (lv_at hl 11 rfl) ?_
    refine lv_aload hx hb dL_law_760 (lv_at hl 12 rfl) ?_
    refine lv_iload hx hb dL_law_762 (lv_at hl 0 rfl) ?_
    refine kp_callS (As := [.ref (h 0), .ref (h 18), .ref (h 19), .ref (h 22), .ref (h 23), .ref (h 24), .ref (h 25), .int (nI Y)]) (rest := []) (wr := [aI G (h 20) 60 af, aI G (h 21) 60 mf, aI G (h 26) 64 lf, aI G (h 27) 64 rf, aI G (h 28) 64 gf, aI G (h 29) 64 tf]) (c_L_isPolicy l hst G h np n Y q mo ki am sk dn y1 y2 y3 y4 y5 y6 y7 v qf af mf df sf cf lf rf gf tf w tr I L9 hnp hY) S hK hW hXE hXZ gL_law_L_isPolicy rfl ⟨rfl, rfl⟩ nd_L_isPolicy ⟨rfl, rfl⟩ [0, 1, 2, 3, 4, 5, 6, 7, 8, 9, 10, 11, 12, 13, 14, 15, 16, 17, 18, 19, 22, 23, 24, 25] [20, 21, 26, 27, 28, 29] rfl rfl rfl rfl (by decide) rfl hl.1 rfl dL_law_764 hfP (fun u H locs hW => ?_)
    have hW : Wd G A sS.heap [aI G (h 20) 60 af, aI G (h 21) 60 mf, aI G (h 26) 64 lf, aI G (h 27) 64 rf, aI G (h 28) 64 gf, aI G (h 29) 64 tf, cF h (nI np), cP (h 1) q, cB h (nI n), cH h, cS (h 4) v, cS (h 5) u, aI G (h 6) 60 mo, aI G (h 7) 60 ki, aI G (h 8) 60 am, aZ G (h 9) 60 sk, aZ G (h 10) 60 dn, aI G (h 11) 121 y1, aI G (h 12) 121 y2, aI G (h 13) 121 y3, aI G (h 14) 121 y4, aI G (h 15) 121 y5, aI G (h 16) 121 y6, aI G (h 17) 121 y7, aI G (h 18) 5 (nF (q.1, q.2.1, q.2.2, nI np, nI n)), aI G (h 19) 60 qf, aI G (h 22) 60 df, aI G (h 23) 7 (pF w), aI G (h 24) 64 sf, aI G (h 25) 64 cf] H locs := hW
    refine lv_if_eq (tgt := 774) hx hb dL_law_767 (by decide) (fun c_2 => ?_) (fun c_2 => ?_)
    ·
      exact absurd c_2 (by decide)
    ·
      refine lv_iconst (v := 1) hx hb dL_law_770 (by decide) ?_
      refine lv_goto (tgt := 775) hx hb dL_law_771 (by decide) ?_
      refine lv_istore (lv' := [(14, .int 1), (18, .int (nI Y)), (15, .int (nI t)), (0, .ref b), (1, .ref (h 0)), (2, .ref (h 18)), (3, .ref (h 19)), (4, .ref (h 20)), (5, .ref (h 21)), (6, .ref (h 22)), (7, .ref (h 23)), (8, .ref (h 24)), (9, .ref (h 25)), (10, .ref (h 26)), (11, .ref (h 27)), (12, .ref (h 28)), (13, .ref (h 29))]) hx hb dL_law_775 hl (by decide) rfl (fun ls hl => ?_)
      refine lv_iinc (v := (nI t + 1)) (lv' := [(15, .int (nI t + 1)), (14, .int 1), (18, .int (nI Y)), (0, .ref b), (1, .ref (h 0)), (2, .ref (h 18)), (3, .ref (h 19)), (4, .ref (h 20)), (5, .ref (h 21)), (6, .ref (h 22)), (7, .ref (h 23)), (8, .ref (h 24)), (9, .ref (h 25)), (10, .ref (h 26)), (11, .ref (h 27)), (12, .ref (h 28)), (13, .ref (h 29))]) hx hb dL_law_777 hl (k := 2) rfl rfl (by decide) rfl (fun ls hl => ?_)
      refine lv_goto (tgt := 118) hx hb dL_law_780 (by decide) ?_
      rw [nI_1] at hl
      exact K np n q mo ki am sk dn y1 y2 y3 y4 y5 y6 y7 v u qf af mf df sf cf lf rf gf tf w I L9 hnp H _ ls (hW.re [6, 7, 8, 9, 10, 11, 12, 13, 14, 15, 16, 17, 18, 19, 20, 21, 22, 23, 24, 25, 0, 1, 26, 27, 28, 29, 2, 3, 4, 5] rfl rfl) (lv_sub hl [0, 1, 3, 4, 5, 6, 7, 8, 9, 10, 11, 12, 13, 14, 15, 16] rfl)
set_option maxHeartbeats 8000000 in
set_option maxRecDepth 100000 in
theorem l708 {pP : Program} {l : Launch} {eE : Env} {sS : State} {mM : MethodId} {args : Array Value} {below : List Frame} {meth : Method} {cC : Code} {Q : State → Prop} {G : GG} {A : Nat → Prop} {h : Nat → Nat} {b L : Nat} {xs : Nat → Int32} (X : LWX pP l sS mM args cC G A b L xs) {cells slots t Y : Nat} (hY : Y < 2 ^ 31) (hc : cells + 193 ≤ 600130) (hs : slots + 1162 ≤ 7301080) (K : LKd pP l eE sS mM args below meth cC Q G A h b 746 Y t cells slots) :
    ∀ (np n : Nat) (q : S3) (mo ki am : N32) (sk dn : Nat → Bool) (y1 y2 y3 y4 y5 y6 y7 : N32) (v tr : S7) (qf af mf df sf cf lf rf gf tf : N32) (w : S7), Inv np n q mo ki am sk (dn, y1, y2, y3, y4, y5, y6, y7, v) → LInv np n q mo ki am sk qf af mf df sf cf lf rf gf tf w → np ≤ 61 → ∀ (H : Heap) (locs : List Loc) (ls : Array Slot), Wd G A sS.heap [cF h (nI np), cP (h 1) q, cB h (nI n), cH h, cS (h 4) v, cS (h 5) tr, aI G (h 6) 60 mo, aI G (h 7) 60 ki, aI G (h 8) 60 am, aZ G (h 9) 60 sk, aZ G (h 10) 60 dn, aI G (h 11) 121 y1, aI G (h 12) 121 y2, aI G (h 13) 121 y3, aI G (h 14) 121 y4, aI G (h 15) 121 y5, aI G (h 16) 121 y6, aI G (h 17) 121 y7, aI G (h 18) 5 (nF (q.1, q.2.1, q.2.2, nI np, nI n)), aI G (h 19) 60 qf, aI G (h 20) 60 af, aI G (h 21) 60 mf, aI G (h 22) 60 df, aI G (h 23) 7 (pF w), aI G (h 24) 64 sf, aI G (h 25) 64 cf, aI G (h 26) 64 lf, aI G (h 27) 64 rf, aI G (h 28) 64 gf, aI G (h 29) 64 tf] H locs → lv_has ls 23 [(18, .int (nI Y)), (15, .int (nI t)), (14, .int 1), (0, .ref b), (1, .ref (h 0)), (2, .ref (h 18)), (3, .ref (h 19)), (4, .ref (h 20)), (5, .ref (h 21)), (6, .ref (h 22)), (7, .ref (h 23)), (8, .ref (h 24)), (9, .ref (h 25)), (10, .ref (h 26)), (11, .ref (h 27)), (12, .ref (h 28)), (13, .ref (h 29))] → W pP l eE room_1 sS mM args below meth cC H locs cells slots Q (F0 mM 708 ls []) := by
  obtain ⟨S, hK, hXE, hXZ, hst, hX, hbl, hbA, hL⟩ := X
  have hx := S.1
  have hb := S.2.1
  have hf0 : cells ≤ room_1.cells ∧ slots ≤ room_1.slots := ⟨by show _ ≤ 600130; omega, by show _ ≤ 7301080; omega⟩
  have hf1 : cells + 1 ≤ room_1.cells ∧ slots + 6 ≤ room_1.slots := ⟨by show _ ≤ 600130; omega, by show _ ≤ 7301080; omega⟩
  unfold LKd at K
  intro np n q mo ki am sk dn y1 y2 y3 y4 y5 y6 y7 v tr qf af mf df sf cf lf rf gf tf w I L9 hnp H locs ls hW hl
  have hn := I.1
  have hp := I.2.1
  refine lv_aload_n hx hb dL_law_708 rfl (lv_at hl 5 rfl) ?_
  refine lv_iconst (v := 3) hx hb dL_law_709 (by decide) ?_
  refine k_vld S hK hW 18 rfl (i := 3) (k := 3) (x := (nI np)) vi5_3 ix_3 rfl dL_law_710 ?_
  refine lv_if_ne (tgt := 746) hx hb dL_law_711 (by decide) (fun c_1 => ?_) (fun c_1 => ?_)
  ·
    exact K np n q mo ki am sk dn y1 y2 y3 y4 y5 y6 y7 v tr qf af mf df sf cf lf rf gf tf w I L9 hnp H _ ls (hW.re [0, 1, 2, 3, 4, 5, 6, 7, 8, 9, 10, 11, 12, 13, 14, 15, 16, 17, 18, 19, 20, 21, 22, 23, 24, 25, 26, 27, 28, 29] rfl rfl) (lv_sub hl [0, 1, 2, 3, 4, 5, 6, 7, 8, 9, 10, 11, 12, 13, 14, 15, 16] rfl)
  ·
    refine lv_aload_n hx hb dL_law_714 rfl (lv_at hl 5 rfl) ?_
    refine lv_iconst (v := 4) hx hb dL_law_715 (by decide) ?_
    refine k_vld S hK hW 18 rfl (i := 4) (k := 4) (x := (nI n)) vi5_4 ix_4 rfl dL_law_716 ?_
    refine lv_if_ne (tgt := 746) hx hb dL_law_717 (by decide) (fun c_2 => ?_) (fun c_2 => ?_)
    ·
      exact K np n q mo ki am sk dn y1 y2 y3 y4 y5 y6 y7 v tr qf af mf df sf cf lf rf gf tf w I L9 hnp H _ ls (hW.re [0, 1, 2, 3, 4, 5, 6, 7, 8, 9, 10, 11, 12, 13, 14, 15, 16, 17, 18, 19, 20, 21, 22, 23, 24, 25, 26, 27, 28, 29] rfl rfl) (lv_sub hl [0, 1, 2, 3, 4, 5, 6, 7, 8, 9, 10, 11, 12, 13, 14, 15, 16] rfl)
    ·
      have e1 : np = 0 := nI_zero (by omega) c_1
      have e2 : n = 0 := nI_zero (by omega) c_2
      subst e1
      subst e2
      refine lv_aload_n hx hb dL_law_720 rfl (lv_at hl 5 rfl) ?_
      refine lv_aload_n hx hb dL_law_721 rfl (lv_at hl 6 rfl) ?_
      refine lv_aload hx hb dL_law_722 (lv_at hl 7 rfl) ?_
      refine lv_aload hx hb dL_law_724 (lv_at hl 8 rfl) ?_
      refine lv_aload hx hb dL_law_726 (lv_at hl 9 rfl) ?_
      refine lv_aload hx hb dL_law_728 (lv_at hl 10 rfl) ?_
      refine lv_aload hx hb dL_law_730 (lv_at hl 11 rfl) ?_
      refine lv_aload hx hb dL_law_732 (lv_at hl 12 rfl) ?_
      refine lv_aload hx hb dL_law_734 (lv_at hl 13 rfl) ?_
      refine lv_aload hx hb dL_law_736 (lv_at hl 14 rfl) ?_
      refine lv_aload hx hb dL_law_738 (lv_at hl 15 rfl) ?_
      refine lv_aload hx hb dL_law_740 (lv_at hl 16 rfl) ?_
      refine lv_iconst (v := 0) hx hb dL_law_742 (by decide) ?_
      have hW : Wd G A sS.heap [cF h (nI 0), cP (h 1) q, cB h (nI 0), cH h, cS (h 4) v, cS (h 5) tr, aI G (h 6) 60 mo, aI G (h 7) 60 ki, aI G (h 8) 60 am, aZ G (h 9) 60 sk, aZ G (h 10) 60 dn, aI G (h 11) 121 y1, aI G (h 12) 121 y2, aI G (h 13) 121 y3, aI G (h 14) 121 y4, aI G (h 15) 121 y5, aI G (h 16) 121 y6, aI G (h 17) 121 y7, aI G (h 18) 5 (nF (q.1, q.2.1, q.2.2, nI 0, nI 0)), aI G (h 19) 60 qf, aI G (h 20) 60 af, aI G (h 21) 60 mf, aI G (h 22) 60 df, aI G (h 23) 7 (pF w), aI G (h 24) 64 sf, aI G (h 25) 64 cf, aI G (h 26) 64 lf, aI G (h 27) 64 rf, aI G (h 28) 64 gf, aI G (h 29) 64 tf] H locs := hW
      refine W.eq (g2 := F0 mM 743 ls [.int (nI 0), .ref (h 29), .ref (h 28), .ref (h 27), .ref (h 26), .ref (h 25), .ref (h 24), .ref (h 23), .ref (h 22), .ref (h 21), .ref (h 20), .ref (h 19), .ref (h 18)]) (by rw [nI_0]) ?_
      have hag := ag_inv I (nI 0) (nI 0)
      refine k_callSv (As := [.ref (h 18), .ref (h 19), .ref (h 20), .ref (h 21), .ref (h 22), .ref (h 23), .ref (h 24), .ref (h 25), .ref (h 26), .ref (h 27), .ref (h 28), .ref (h 29), .int (nI 0)]) (rest := []) (wr := [cF h (nI 0), cP (h 1) q, cB h (nI 0), cH h, cS (h 4) v, cS (h 5) tr, aI G (h 6) 60 mo, aI G (h 7) 60 ki, aI G (h 8) 60 am, aZ G (h 9) 60 sk, aZ G (h 10) 60 dn, aI G (h 11) 121 y1, aI G (h 12) 121 y2, aI G (h 13) 121 y3, aI G (h 14) 121 y4, aI G (h 15) 121 y5, aI G (h 16) 121 y6, aI G (h 17) 121 y7]) (c_L_works l G h q 0 0 qf af mf df sf cf lf rf gf tf 0 w (by omega) (by omega) (by omega) hag) S hK hW gL_law_L_works rfl ⟨rfl, rfl⟩ nd_L_works ⟨rfl, rfl⟩ [18, 19, 20, 21, 22, 23, 24, 25, 26, 27, 28, 29] [0, 1, 2, 3, 4, 5, 6, 7, 8, 9, 10, 11, 12, 13, 14, 15, 16, 17] rfl rfl rfl rfl (by decide) rfl hl.1 rfl dL_law_743 hf0 (fun H locs hW => ?_)
      have L2 := t_zero (mo := mo) (ki := ki) (am := am) (sk := sk) (qf := qf) (af := af) (mf := mf) (df := df) I.2.2.1 L9.row0
      have hW : Wd G A sS.heap [cF h (nI 0), cP (h 1) q, cB h (nI 0), cH h, cS (h 4) v, cS (h 5) tr, aI G (h 6) 60 mo, aI G (h 7) 60 ki, aI G (h 8) 60 am, aZ G (h 9) 60 sk, aZ G (h 10) 60 dn, aI G (h 11) 121 y1, aI G (h 12) 121 y2, aI G (h 13) 121 y3, aI G (h 14) 121 y4, aI G (h 15) 121 y5, aI G (h 16) 121 y6, aI G (h 17) 121 y7, aI G (h 18) 5 (nF (q.1, q.2.1, q.2.2, nI 0, nI 0)), aI G (h 19) 60 qf, aI G (h 20) 60 af, aI G (h 21) 60 mf, aI G (h 22) 60 ((F_L_works q 0 0 qf af mf df sf cf lf rf gf tf 0).1), aI G (h 23) 7 (pF ((F_L_works q 0 0 qf af mf df sf cf lf rf gf tf 0).2.1)), aI G (h 24) 64 ((F_L_works q 0 0 qf af mf df sf cf lf rf gf tf 0).2.2.1), aI G (h 25) 64 ((F_L_works q 0 0 qf af mf df sf cf lf rf gf tf 0).2.2.2.1), aI G (h 26) 64 ((F_L_works q 0 0 qf af mf df sf cf lf rf gf tf 0).2.2.2.2.1), aI G (h 27) 64 ((F_L_works q 0 0 qf af mf df sf cf lf rf gf tf 0).2.2.2.2.2.1), aI G (h 28) 64 ((F_L_works q 0 0 qf af mf df sf cf lf rf gf tf 0).2.2.2.2.2.2.1), aI G (h 29) 64 ((F_L_works q 0 0 qf af mf df sf cf lf rf gf tf 0).2.2.2.2.2.2.2)] H locs := hW
      generalize F_L_works q 0 0 qf af mf df sf cf lf rf gf tf 0 = fw at hW L2
      have hW : Wd G A sS.heap [cF h (nI 0), cP (h 1) q, cB h (nI 0), cH h, cS (h 4) v, cS (h 5) tr, aI G (h 6) 60 mo, aI G (h 7) 60 ki, aI G (h 8) 60 am, aZ G (h 9) 60 sk, aZ G (h 10) 60 dn, aI G (h 11) 121 y1, aI G (h 12) 121 y2, aI G (h 13) 121 y3, aI G (h 14) 121 y4, aI G (h 15) 121 y5, aI G (h 16) 121 y6, aI G (h 17) 121 y7, aI G (h 18) 5 (nF (q.1, q.2.1, q.2.2, nI 0, nI 0)), aI G (h 19) 60 qf, aI G (h 20) 60 af, aI G (h 21) 60 mf, aI G (h 22) 60 fw.1, aI G (h 23) 7 (pF fw.2.1), aI G (h 24) 64 fw.2.2.1, aI G (h 25) 64 fw.2.2.2.1, aI G (h 26) 64 fw.2.2.2.2.1, aI G (h 27) 64 fw.2.2.2.2.2.1, aI G (h 28) 64 fw.2.2.2.2.2.2.1, aI G (h 29) 64 fw.2.2.2.2.2.2.2] H locs := hW
      exact K 0 0 q mo ki am sk dn y1 y2 y3 y4 y5 y6 y7 v tr qf af mf fw.1 fw.2.2.1 fw.2.2.2.1 fw.2.2.2.2.1 fw.2.2.2.2.2.1 fw.2.2.2.2.2.2.1 fw.2.2.2.2.2.2.2 fw.2.1 I L2 hnp H _ ls (hW.re [0, 1, 2, 3, 4, 5, 6, 7, 8, 9, 10, 11, 12, 13, 14, 15, 16, 17, 18, 19, 20, 21, 22, 23, 24, 25, 26, 27, 28, 29] rfl rfl) (lv_sub hl [0, 1, 2, 3, 4, 5, 6, 7, 8, 9, 10, 11, 12, 13, 14, 15, 16] rfl)
set_option maxHeartbeats 8000000 in
set_option maxRecDepth 100000 in
theorem lbegin {pP : Program} {l : Launch} {eE : Env} {sS : State} {mM : MethodId} {args : Array Value} {below : List Frame} {meth : Method} {cC : Code} {Q : State → Prop} {G : GG} {A : Nat → Prop} {h : Nat → Nat} {b L : Nat} {xs : Nat → Int32} (X : LWX pP l sS mM args cC G A b L xs) {cells slots t Y : Nat} (hY : Y < 2 ^ 31) (hc : cells + 193 ≤ 600130) (hs : slots + 1162 ≤ 7301080) (K : LKd pP l eE sS mM args below meth cC Q G A h b 746 Y t (cells + 1) (slots + 6)) :
    ∀ (np n : Nat) (q : S3) (mo ki am : N32) (sk dn : Nat → Bool) (y1 y2 y3 y4 y5 y6 y7 : N32) (v tr : S7) (qf af mf df sf cf lf rf gf tf : N32) (w : S7), Inv np n q mo ki am sk (dn, y1, y2, y3, y4, y5, y6, y7, v) → LInv np n q mo ki am sk qf af mf df sf cf lf rf gf tf w → np ≤ 61 → ∀ (H : Heap) (locs : List Loc) (ls : Array Slot), Wd G A sS.heap [cF h (nI np), cP (h 1) q, cB h (nI n), cH h, cS (h 4) v, cS (h 5) tr, aI G (h 6) 60 mo, aI G (h 7) 60 ki, aI G (h 8) 60 am, aZ G (h 9) 60 sk, aZ G (h 10) 60 dn, aI G (h 11) 121 y1, aI G (h 12) 121 y2, aI G (h 13) 121 y3, aI G (h 14) 121 y4, aI G (h 15) 121 y5, aI G (h 16) 121 y6, aI G (h 17) 121 y7, aI G (h 18) 5 (nF (q.1, q.2.1, q.2.2, nI np, nI n)), aI G (h 19) 60 qf, aI G (h 20) 60 af, aI G (h 21) 60 mf, aI G (h 22) 60 df, aI G (h 23) 7 (pF w), aI G (h 24) 64 sf, aI G (h 25) 64 cf, aI G (h 26) 64 lf, aI G (h 27) 64 rf, aI G (h 28) 64 gf, aI G (h 29) 64 tf] H locs → lv_has ls 23 [(18, .int (nI Y)), (15, .int (nI t)), (14, .int 1), (0, .ref b), (1, .ref (h 0)), (2, .ref (h 18)), (3, .ref (h 19)), (4, .ref (h 20)), (5, .ref (h 21)), (6, .ref (h 22)), (7, .ref (h 23)), (8, .ref (h 24)), (9, .ref (h 25)), (10, .ref (h 26)), (11, .ref (h 27)), (12, .ref (h 28)), (13, .ref (h 29))] → W pP l eE room_1 sS mM args below meth cC H locs cells slots Q (F0 mM 201 ls []) := by
  obtain ⟨S, hK, hXE, hXZ, hst, hX, hbl, hbA, hL⟩ := X
  have hx := S.1
  have hb := S.2.1
  have hf0 : cells ≤ room_1.cells ∧ slots ≤ room_1.slots := ⟨by show _ ≤ 600130; omega, by show _ ≤ 7301080; omega⟩
  have hf1 : cells + 1 ≤ room_1.cells ∧ slots + 6 ≤ room_1.slots := ⟨by show _ ≤ 600130; omega, by show _ ≤ 7301080; omega⟩
  unfold LKd at K
  intro np n q mo ki am sk dn y1 y2 y3 y4 y5 y6 y7 v tr qf af mf df sf cf lf rf gf tf w I L9 hnp H locs ls hW hl
  have hn := I.1
  have hp := I.2.1
  refine lv_aload_n hx hb dL_law_201 rfl (lv_at hl 4 rfl) ?_
  refine lv_bipush (v := 18) hx hb dL_law_202 (by decide) ?_
  refine lv_iload hx hb dL_law_204 (lv_at hl 0 rfl) ?_
  refine lv_bipush (v := 53) hx hb dL_law_206 (by decide) ?_
  refine k_irem hx hb dL_law_208 (by decide) ?_
  refine lv_iadd hx hb dL_law_209 ?_
  refine W.eq (g2 := F0 mM 210 ls [.int (nI (18 + Y % 53)), .ref (h 0)]) (by rw [irm_nI (a := Y) (D := 53) 53 (by decide +kernel) hY (by omega) (by omega), add_nI 18 (by decide +kernel)]) ?_
  refine k_ldc S k_L_law_c136 dL_law_210 ?_
  refine lv_iload hx hb dL_law_212 (lv_at hl 0 rfl) ?_
  refine lv_bipush (v := 53) hx hb dL_law_214 (by decide) ?_
  refine lv_idiv hx hb dL_law_216 (by decide) ?_
  refine k_ldc S k_L_law_c137 dL_law_217 ?_
  refine k_irem hx hb dL_law_219 (by decide) ?_
  refine lv_iadd hx hb dL_law_220 ?_
  refine W.eq (g2 := F0 mM 221 ls [.int (nI (100000 + Y / 53 % 49900001)), .int (nI (18 + Y % 53)), .ref (h 0)]) (by rw [idv_nI (a := Y) (D := 53) 53 (by decide +kernel) hY (by omega) (by omega), irm_nI (a := Y / 53) (D := 49900001) 49900001 (by decide +kernel) (by omega) (by omega) (by omega), add_nI 100000 (by decide +kernel)]) ?_
  refine lv_iload hx hb dL_law_221 (lv_at hl 0 rfl) ?_
  refine lv_bipush (v := 11) hx hb dL_law_223 (by decide) ?_
  refine lv_idiv hx hb dL_law_225 (by decide) ?_
  refine lv_iconst (v := 2) hx hb dL_law_226 (by decide) ?_
  refine k_irem hx hb dL_law_227 (by decide) ?_
  refine W.eq (g2 := F0 mM 228 ls [.int (nI (Y / 11 % 2)), .int (nI (100000 + Y / 53 % 49900001)), .int (nI (18 + Y % 53)), .ref (h 0)]) (by rw [idv_nI (a := Y) (D := 11) 11 (by decide +kernel) hY (by omega) (by omega), irm_nI (a := Y / 11) (D := 2) 2 (by decide +kernel) (by omega) (by omega) (by omega)]) ?_
  obtain ⟨e1, I2⟩ := d_begin I (rng_nI 18 (18 + Y % 53) 70 (by decide +kernel) (by decide +kernel) (by omega) (by omega) (by omega) : 18 ≤ nI (18 + Y % 53) ∧ nI (18 + Y % 53) ≤ 70) (rng_nI 100000 (100000 + Y / 53 % 49900001) 50000000 (by decide +kernel) (by decide +kernel) (by omega) (by omega) (by omega) : 100000 ≤ nI (100000 + Y / 53 % 49900001) ∧ nI (100000 + Y / 53 % 49900001) ≤ 50000000) (rng_nI 0 (Y / 11 % 2) 1 (by decide +kernel) (by decide +kernel) (by omega) (by omega) (by omega) : 0 ≤ nI (Y / 11 % 2) ∧ nI (Y / 11 % 2) ≤ 1)
  refine kx_call0 (C := RX4) (As := [.int (nI (18 + Y % 53)), .int (nI (100000 + Y / 53 % 49900001)), .int (nI (Y / 11 % 2))]) (rest := []) (wr := [cH h, cS (h 5) tr, aI G (h 6) 60 mo, aI G (h 7) 60 ki, aI G (h 8) 60 am, aZ G (h 9) 60 sk, aZ G (h 10) 60 dn, aI G (h 11) 121 y1, aI G (h 12) 121 y2, aI G (h 13) 121 y3, aI G (h 14) 121 y4, aI G (h 15) 121 y5, aI G (h 16) 121 y6, aI G (h 17) 121 y7, aI G (h 18) 5 (nF (q.1, q.2.1, q.2.2, nI np, nI n)), aI G (h 19) 60 qf, aI G (h 20) 60 af, aI G (h 21) 60 mf, aI G (h 22) 60 df, aI G (h 23) 7 (pF w), aI G (h 24) 64 sf, aI G (h 25) 64 cf, aI G (h 26) 64 lf, aI G (h 27) 64 rf, aI G (h 28) 64 gf, aI G (h 29) 64 tf]) (c_X4_begin l hst G h (nI np) q (nI n) v (nI (18 + Y % 53)) (nI (100000 + Y / 53 % 49900001)) (nI (Y / 11 % 2))) (by rw [e1]) (by decide) S hK hW hXE hXZ gL_law_X4_begin rfl ⟨rfl, rfl⟩ nd_X4_begin ⟨rfl, rfl⟩ (qb := 0) (ci := 4) rfl rfl [0, 1, 2, 4] [3, 5, 6, 7, 8, 9, 10, 11, 12, 13, 14, 15, 16, 17, 18, 19, 20, 21, 22, 23, 24, 25, 26, 27, 28, 29] rfl rfl rfl rfl (by decide) rfl hl.1 rfl dL_law_228 hf1 (fun H locs hW => ?_)
  rw [e1] at hW
  have hW : Wd G A sS.heap [cH h, cS (h 5) tr, aI G (h 6) 60 mo, aI G (h 7) 60 ki, aI G (h 8) 60 am, aZ G (h 9) 60 sk, aZ G (h 10) 60 dn, aI G (h 11) 121 y1, aI G (h 12) 121 y2, aI G (h 13) 121 y3, aI G (h 14) 121 y4, aI G (h 15) 121 y5, aI G (h 16) 121 y6, aI G (h 17) 121 y7, aI G (h 18) 5 (nF (q.1, q.2.1, q.2.2, nI np, nI n)), aI G (h 19) 60 qf, aI G (h 20) 60 af, aI G (h 21) 60 mf, aI G (h 22) 60 df, aI G (h 23) 7 (pF w), aI G (h 24) 64 sf, aI G (h 25) 64 cf, aI G (h 26) 64 lf, aI G (h 27) 64 rf, aI G (h 28) 64 gf, aI G (h 29) 64 tf, cF h (nI 0), cP (h 1) (nI (18 + Y % 53), nI (100000 + Y / 53 % 49900001), nI (Y / 11 % 2)), cB h (nI 0), cS (h 4) z7] H locs := hW
  refine W.eq (g2 := F0 mM 231 ls [.int (nI np)]) (by rw [e1]) ?_
  refine lv_aload_n hx hb dL_law_231 rfl (lv_at hl 5 rfl) ?_
  refine lv_iconst (v := 3) hx hb dL_law_232 (by decide) ?_
  refine k_vld S hK hW 14 rfl (i := 3) (k := 3) (x := (nI np)) vi5_3 ix_3 rfl dL_law_233 ?_
  refine lv_icmp_ne (tgt := 241) hx hb dL_law_234 (by decide) (fun c_1 => ?_) (fun c_1 => ?_)
  ·
    exact absurd rfl c_1
  ·
    refine lv_iconst (v := 1) hx hb dL_law_237 (by decide) ?_
    refine lv_goto (tgt := 242) hx hb dL_law_238 (by decide) ?_
    refine lv_istore (lv' := [(14, .int 1), (18, .int (nI Y)), (15, .int (nI t)), (0, .ref b), (1, .ref (h 0)), (2, .ref (h 18)), (3, .ref (h 19)), (4, .ref (h 20)), (5, .ref (h 21)), (6, .ref (h 22)), (7, .ref (h 23)), (8, .ref (h 24)), (9, .ref (h 25)), (10, .ref (h 26)), (11, .ref (h 27)), (12, .ref (h 28)), (13, .ref (h 29))]) hx hb dL_law_242 hl (by decide) rfl (fun ls hl => ?_)
    refine lv_aload_n hx hb dL_law_244 rfl (lv_at hl 5 rfl) ?_
    refine lv_iconst (v := 0) hx hb dL_law_245 (by decide) ?_
    refine lv_bipush (v := 18) hx hb dL_law_246 (by decide) ?_
    refine lv_iload hx hb dL_law_248 (lv_at hl 1 rfl) ?_
    refine lv_bipush (v := 53) hx hb dL_law_250 (by decide) ?_
    refine k_irem hx hb dL_law_252 (by decide) ?_
    refine lv_iadd hx hb dL_law_253 ?_
    refine W.eq (g2 := F0 mM 254 ls [.int (nI (18 + Y % 53)), .int 0, .ref (h 18)]) (by rw [irm_nI (a := Y) (D := 53) 53 (by decide +kernel) hY (by omega) (by omega), add_nI 18 (by decide +kernel)]) ?_
    refine k_vst (f' := nF (nI (18 + Y % 53), q.2.1, q.2.2, nI np, nI n)) (ws' := [cH h, cS (h 5) tr, aI G (h 6) 60 mo, aI G (h 7) 60 ki, aI G (h 8) 60 am, aZ G (h 9) 60 sk, aZ G (h 10) 60 dn, aI G (h 11) 121 y1, aI G (h 12) 121 y2, aI G (h 13) 121 y3, aI G (h 14) 121 y4, aI G (h 15) 121 y5, aI G (h 16) 121 y6, aI G (h 17) 121 y7, aI G (h 18) 5 (nF (nI (18 + Y % 53), q.2.1, q.2.2, nI np, nI n)), aI G (h 19) 60 qf, aI G (h 20) 60 af, aI G (h 21) 60 mf, aI G (h 22) 60 df, aI G (h 23) 7 (pF w), aI G (h 24) 64 sf, aI G (h 25) 64 cf, aI G (h 26) 64 lf, aI G (h 27) 64 rf, aI G (h 28) 64 gf, aI G (h 29) 64 tf, cF h (nI 0), cP (h 1) (nI (18 + Y % 53), nI (100000 + Y / 53 % 49900001), nI (Y / 11 % 2)), cB h (nI 0), cS (h 4) z7]) S hK hW 14 rfl (i := 0) (k := 0) vi5_0 ix_0 (up_n0 _ _) rfl dL_law_254 (fun H locs hW => ?_)
    refine lv_aload_n hx hb dL_law_255 rfl (lv_at hl 5 rfl) ?_
    refine lv_iconst (v := 1) hx hb dL_law_256 (by decide) ?_
    refine k_ldc S k_L_law_c136 dL_law_257 ?_
    refine lv_iload hx hb dL_law_259 (lv_at hl 1 rfl) ?_
    refine lv_bipush (v := 53) hx hb dL_law_261 (by decide) ?_
    refine lv_idiv hx hb dL_law_263 (by decide) ?_
    refine k_ldc S k_L_law_c137 dL_law_264 ?_
    refine k_irem hx hb dL_law_266 (by decide) ?_
    refine lv_iadd hx hb dL_law_267 ?_
    refine W.eq (g2 := F0 mM 268 ls [.int (nI (100000 + Y / 53 % 49900001)), .int 1, .ref (h 18)]) (by rw [idv_nI (a := Y) (D := 53) 53 (by decide +kernel) hY (by omega) (by omega), irm_nI (a := Y / 53) (D := 49900001) 49900001 (by decide +kernel) (by omega) (by omega) (by omega), add_nI 100000 (by decide +kernel)]) ?_
    refine k_vst (f' := nF (nI (18 + Y % 53), nI (100000 + Y / 53 % 49900001), q.2.2, nI np, nI n)) (ws' := [cH h, cS (h 5) tr, aI G (h 6) 60 mo, aI G (h 7) 60 ki, aI G (h 8) 60 am, aZ G (h 9) 60 sk, aZ G (h 10) 60 dn, aI G (h 11) 121 y1, aI G (h 12) 121 y2, aI G (h 13) 121 y3, aI G (h 14) 121 y4, aI G (h 15) 121 y5, aI G (h 16) 121 y6, aI G (h 17) 121 y7, aI G (h 18) 5 (nF (nI (18 + Y % 53), nI (100000 + Y / 53 % 49900001), q.2.2, nI np, nI n)), aI G (h 19) 60 qf, aI G (h 20) 60 af, aI G (h 21) 60 mf, aI G (h 22) 60 df, aI G (h 23) 7 (pF w), aI G (h 24) 64 sf, aI G (h 25) 64 cf, aI G (h 26) 64 lf, aI G (h 27) 64 rf, aI G (h 28) 64 gf, aI G (h 29) 64 tf, cF h (nI 0), cP (h 1) (nI (18 + Y % 53), nI (100000 + Y / 53 % 49900001), nI (Y / 11 % 2)), cB h (nI 0), cS (h 4) z7]) S hK hW 14 rfl (i := 1) (k := 1) vi5_1 ix_1 (up_n1 _ _) rfl dL_law_268 (fun H locs hW => ?_)
    refine lv_aload_n hx hb dL_law_269 rfl (lv_at hl 5 rfl) ?_
    refine lv_iconst (v := 2) hx hb dL_law_270 (by decide) ?_
    refine lv_iload hx hb dL_law_271 (lv_at hl 1 rfl) ?_
    refine lv_bipush (v := 11) hx hb dL_law_273 (by decide) ?_
    refine lv_idiv hx hb dL_law_275 (by decide) ?_
    refine lv_iconst (v := 2) hx hb dL_law_276 (by decide) ?_
    refine k_irem hx hb dL_law_277 (by decide) ?_
    refine W.eq (g2 := F0 mM 278 ls [.int (nI (Y / 11 % 2)), .int 2, .ref (h 18)]) (by rw [idv_nI (a := Y) (D := 11) 11 (by decide +kernel) hY (by omega) (by omega), irm_nI (a := Y / 11) (D := 2) 2 (by decide +kernel) (by omega) (by omega) (by omega)]) ?_
    refine k_vst (f' := nF (nI (18 + Y % 53), nI (100000 + Y / 53 % 49900001), nI (Y / 11 % 2), nI np, nI n)) (ws' := [cH h, cS (h 5) tr, aI G (h 6) 60 mo, aI G (h 7) 60 ki, aI G (h 8) 60 am, aZ G (h 9) 60 sk, aZ G (h 10) 60 dn, aI G (h 11) 121 y1, aI G (h 12) 121 y2, aI G (h 13) 121 y3, aI G (h 14) 121 y4, aI G (h 15) 121 y5, aI G (h 16) 121 y6, aI G (h 17) 121 y7, aI G (h 18) 5 (nF (nI (18 + Y % 53), nI (100000 + Y / 53 % 49900001), nI (Y / 11 % 2), nI np, nI n)), aI G (h 19) 60 qf, aI G (h 20) 60 af, aI G (h 21) 60 mf, aI G (h 22) 60 df, aI G (h 23) 7 (pF w), aI G (h 24) 64 sf, aI G (h 25) 64 cf, aI G (h 26) 64 lf, aI G (h 27) 64 rf, aI G (h 28) 64 gf, aI G (h 29) 64 tf, cF h (nI 0), cP (h 1) (nI (18 + Y % 53), nI (100000 + Y / 53 % 49900001), nI (Y / 11 % 2)), cB h (nI 0), cS (h 4) z7]) S hK hW 14 rfl (i := 2) (k := 2) vi5_2 ix_2 (up_n2 _ _) rfl dL_law_278 (fun H locs hW => ?_)
    refine lv_aload_n hx hb dL_law_279 rfl (lv_at hl 5 rfl) ?_
    refine lv_iconst (v := 3) hx hb dL_law_280 (by decide) ?_
    refine lv_iconst (v := 0) hx hb dL_law_281 (by decide) ?_
    refine k_vst (f' := nF (nI (18 + Y % 53), nI (100000 + Y / 53 % 49900001), nI (Y / 11 % 2), 0, nI n)) (ws' := [cH h, cS (h 5) tr, aI G (h 6) 60 mo, aI G (h 7) 60 ki, aI G (h 8) 60 am, aZ G (h 9) 60 sk, aZ G (h 10) 60 dn, aI G (h 11) 121 y1, aI G (h 12) 121 y2, aI G (h 13) 121 y3, aI G (h 14) 121 y4, aI G (h 15) 121 y5, aI G (h 16) 121 y6, aI G (h 17) 121 y7, aI G (h 18) 5 (nF (nI (18 + Y % 53), nI (100000 + Y / 53 % 49900001), nI (Y / 11 % 2), 0, nI n)), aI G (h 19) 60 qf, aI G (h 20) 60 af, aI G (h 21) 60 mf, aI G (h 22) 60 df, aI G (h 23) 7 (pF w), aI G (h 24) 64 sf, aI G (h 25) 64 cf, aI G (h 26) 64 lf, aI G (h 27) 64 rf, aI G (h 28) 64 gf, aI G (h 29) 64 tf, cF h (nI 0), cP (h 1) (nI (18 + Y % 53), nI (100000 + Y / 53 % 49900001), nI (Y / 11 % 2)), cB h (nI 0), cS (h 4) z7]) S hK hW 14 rfl (i := 3) (k := 3) vi5_3 ix_3 (up_n3 _ _) rfl dL_law_282 (fun H locs hW => ?_)
    refine lv_aload_n hx hb dL_law_283 rfl (lv_at hl 5 rfl) ?_
    refine lv_iconst (v := 4) hx hb dL_law_284 (by decide) ?_
    refine lv_iconst (v := 0) hx hb dL_law_285 (by decide) ?_
    refine k_vst (f' := nF (nI (18 + Y % 53), nI (100000 + Y / 53 % 49900001), nI (Y / 11 % 2), 0, 0)) (ws' := [cH h, cS (h 5) tr, aI G (h 6) 60 mo, aI G (h 7) 60 ki, aI G (h 8) 60 am, aZ G (h 9) 60 sk, aZ G (h 10) 60 dn, aI G (h 11) 121 y1, aI G (h 12) 121 y2, aI G (h 13) 121 y3, aI G (h 14) 121 y4, aI G (h 15) 121 y5, aI G (h 16) 121 y6, aI G (h 17) 121 y7, aI G (h 18) 5 (nF (nI (18 + Y % 53), nI (100000 + Y / 53 % 49900001), nI (Y / 11 % 2), 0, 0)), aI G (h 19) 60 qf, aI G (h 20) 60 af, aI G (h 21) 60 mf, aI G (h 22) 60 df, aI G (h 23) 7 (pF w), aI G (h 24) 64 sf, aI G (h 25) 64 cf, aI G (h 26) 64 lf, aI G (h 27) 64 rf, aI G (h 28) 64 gf, aI G (h 29) 64 tf, cF h (nI 0), cP (h 1) (nI (18 + Y % 53), nI (100000 + Y / 53 % 49900001), nI (Y / 11 % 2)), cB h (nI 0), cS (h 4) z7]) S hK hW 14 rfl (i := 4) (k := 4) vi5_4 ix_4 (up_n4 _ _) rfl dL_law_286 (fun H locs hW => ?_)
    refine lv_goto (tgt := 708) hx hb dL_law_287 (by decide) ?_
    refine lv_aload_n hx hb dL_law_708 rfl (lv_at hl 5 rfl) ?_
    refine lv_iconst (v := 3) hx hb dL_law_709 (by decide) ?_
    refine k_vld S hK hW 14 rfl (i := 3) (k := 3) (x := 0) vi5_3 ix_3 rfl dL_law_710 ?_
    refine lv_if_ne (tgt := 746) hx hb dL_law_711 (by decide) (fun c_2 => ?_) (fun c_2 => ?_)
    ·
      exact absurd c_2 (by decide)
    ·
      refine lv_aload_n hx hb dL_law_714 rfl (lv_at hl 5 rfl) ?_
      refine lv_iconst (v := 4) hx hb dL_law_715 (by decide) ?_
      refine k_vld S hK hW 14 rfl (i := 4) (k := 4) (x := 0) vi5_4 ix_4 rfl dL_law_716 ?_
      refine lv_if_ne (tgt := 746) hx hb dL_law_717 (by decide) (fun c_3 => ?_) (fun c_3 => ?_)
      ·
        exact absurd c_3 (by decide)
      ·
        have hW : Wd G A sS.heap [cH h, cS (h 5) tr, aI G (h 6) 60 mo, aI G (h 7) 60 ki, aI G (h 8) 60 am, aZ G (h 9) 60 sk, aZ G (h 10) 60 dn, aI G (h 11) 121 y1, aI G (h 12) 121 y2, aI G (h 13) 121 y3, aI G (h 14) 121 y4, aI G (h 15) 121 y5, aI G (h 16) 121 y6, aI G (h 17) 121 y7, aI G (h 18) 5 (nF (nI (18 + Y % 53), nI (100000 + Y / 53 % 49900001), nI (Y / 11 % 2), nI 0, nI 0)), aI G (h 19) 60 qf, aI G (h 20) 60 af, aI G (h 21) 60 mf, aI G (h 22) 60 df, aI G (h 23) 7 (pF w), aI G (h 24) 64 sf, aI G (h 25) 64 cf, aI G (h 26) 64 lf, aI G (h 27) 64 rf, aI G (h 28) 64 gf, aI G (h 29) 64 tf, cF h (nI 0), cP (h 1) (nI (18 + Y % 53), nI (100000 + Y / 53 % 49900001), nI (Y / 11 % 2)), cB h (nI 0), cS (h 4) z7] H locs := by
          have hW := hW
          rw [nI_0] at hW ⊢
          exact hW
        refine lv_aload_n hx hb dL_law_720 rfl (lv_at hl 5 rfl) ?_
        refine lv_aload_n hx hb dL_law_721 rfl (lv_at hl 6 rfl) ?_
        refine lv_aload hx hb dL_law_722 (lv_at hl 7 rfl) ?_
        refine lv_aload hx hb dL_law_724 (lv_at hl 8 rfl) ?_
        refine lv_aload hx hb dL_law_726 (lv_at hl 9 rfl) ?_
        refine lv_aload hx hb dL_law_728 (lv_at hl 10 rfl) ?_
        refine lv_aload hx hb dL_law_730 (lv_at hl 11 rfl) ?_
        refine lv_aload hx hb dL_law_732 (lv_at hl 12 rfl) ?_
        refine lv_aload hx hb dL_law_734 (lv_at hl 13 rfl) ?_
        refine lv_aload hx hb dL_law_736 (lv_at hl 14 rfl) ?_
        refine lv_aload hx hb dL_law_738 (lv_at hl 15 rfl) ?_
        refine lv_aload hx hb dL_law_740 (lv_at hl 16 rfl) ?_
        refine lv_iconst (v := 0) hx hb dL_law_742 (by decide) ?_
        refine W.eq (g2 := F0 mM 743 ls [.int (nI 0), .ref (h 29), .ref (h 28), .ref (h 27), .ref (h 26), .ref (h 25), .ref (h 24), .ref (h 23), .ref (h 22), .ref (h 21), .ref (h 20), .ref (h 19), .ref (h 18)]) (by rw [nI_0]) ?_
        have hag := ag_inv I2 (nI 0) (nI 0)
        refine k_callSv (As := [.ref (h 18), .ref (h 19), .ref (h 20), .ref (h 21), .ref (h 22), .ref (h 23), .ref (h 24), .ref (h 25), .ref (h 26), .ref (h 27), .ref (h 28), .ref (h 29), .int (nI 0)]) (rest := []) (wr := [cH h, cS (h 5) tr, aI G (h 6) 60 mo, aI G (h 7) 60 ki, aI G (h 8) 60 am, aZ G (h 9) 60 sk, aZ G (h 10) 60 dn, aI G (h 11) 121 y1, aI G (h 12) 121 y2, aI G (h 13) 121 y3, aI G (h 14) 121 y4, aI G (h 15) 121 y5, aI G (h 16) 121 y6, aI G (h 17) 121 y7, cF h (nI 0), cP (h 1) (nI (18 + Y % 53), nI (100000 + Y / 53 % 49900001), nI (Y / 11 % 2)), cB h (nI 0), cS (h 4) z7]) (c_L_works l G h (nI (18 + Y % 53), nI (100000 + Y / 53 % 49900001), nI (Y / 11 % 2)) 0 0 qf af mf df sf cf lf rf gf tf 0 w (by omega) (by omega) (by omega) hag) S hK hW gL_law_L_works rfl ⟨rfl, rfl⟩ nd_L_works ⟨rfl, rfl⟩ [14, 15, 16, 17, 18, 19, 20, 21, 22, 23, 24, 25] [0, 1, 2, 3, 4, 5, 6, 7, 8, 9, 10, 11, 12, 13, 26, 27, 28, 29] rfl rfl rfl rfl (by decide) rfl hl.1 rfl dL_law_743 hf1 (fun H locs hW => ?_)
        have L2 := t_zero (mo := mo) (ki := ki) (am := am) (sk := sk) (qf := qf) (af := af) (mf := mf) (df := df) I2.2.2.1 L9.row0
        have hW : Wd G A sS.heap [cH h, cS (h 5) tr, aI G (h 6) 60 mo, aI G (h 7) 60 ki, aI G (h 8) 60 am, aZ G (h 9) 60 sk, aZ G (h 10) 60 dn, aI G (h 11) 121 y1, aI G (h 12) 121 y2, aI G (h 13) 121 y3, aI G (h 14) 121 y4, aI G (h 15) 121 y5, aI G (h 16) 121 y6, aI G (h 17) 121 y7, cF h (nI 0), cP (h 1) (nI (18 + Y % 53), nI (100000 + Y / 53 % 49900001), nI (Y / 11 % 2)), cB h (nI 0), cS (h 4) z7, aI G (h 18) 5 (nF (nI (18 + Y % 53), nI (100000 + Y / 53 % 49900001), nI (Y / 11 % 2), nI 0, nI 0)), aI G (h 19) 60 qf, aI G (h 20) 60 af, aI G (h 21) 60 mf, aI G (h 22) 60 ((F_L_works (nI (18 + Y % 53), nI (100000 + Y / 53 % 49900001), nI (Y / 11 % 2)) 0 0 qf af mf df sf cf lf rf gf tf 0).1), aI G (h 23) 7 (pF ((F_L_works (nI (18 + Y % 53), nI (100000 + Y / 53 % 49900001), nI (Y / 11 % 2)) 0 0 qf af mf df sf cf lf rf gf tf 0).2.1)), aI G (h 24) 64 ((F_L_works (nI (18 + Y % 53), nI (100000 + Y / 53 % 49900001), nI (Y / 11 % 2)) 0 0 qf af mf df sf cf lf rf gf tf 0).2.2.1), aI G (h 25) 64 ((F_L_works (nI (18 + Y % 53), nI (100000 + Y / 53 % 49900001), nI (Y / 11 % 2)) 0 0 qf af mf df sf cf lf rf gf tf 0).2.2.2.1), aI G (h 26) 64 ((F_L_works (nI (18 + Y % 53), nI (100000 + Y / 53 % 49900001), nI (Y / 11 % 2)) 0 0 qf af mf df sf cf lf rf gf tf 0).2.2.2.2.1), aI G (h 27) 64 ((F_L_works (nI (18 + Y % 53), nI (100000 + Y / 53 % 49900001), nI (Y / 11 % 2)) 0 0 qf af mf df sf cf lf rf gf tf 0).2.2.2.2.2.1), aI G (h 28) 64 ((F_L_works (nI (18 + Y % 53), nI (100000 + Y / 53 % 49900001), nI (Y / 11 % 2)) 0 0 qf af mf df sf cf lf rf gf tf 0).2.2.2.2.2.2.1), aI G (h 29) 64 ((F_L_works (nI (18 + Y % 53), nI (100000 + Y / 53 % 49900001), nI (Y / 11 % 2)) 0 0 qf af mf df sf cf lf rf gf tf 0).2.2.2.2.2.2.2)] H locs := hW
        generalize F_L_works (nI (18 + Y % 53), nI (100000 + Y / 53 % 49900001), nI (Y / 11 % 2)) 0 0 qf af mf df sf cf lf rf gf tf 0 = fw at hW L2
        have hW : Wd G A sS.heap [cH h, cS (h 5) tr, aI G (h 6) 60 mo, aI G (h 7) 60 ki, aI G (h 8) 60 am, aZ G (h 9) 60 sk, aZ G (h 10) 60 dn, aI G (h 11) 121 y1, aI G (h 12) 121 y2, aI G (h 13) 121 y3, aI G (h 14) 121 y4, aI G (h 15) 121 y5, aI G (h 16) 121 y6, aI G (h 17) 121 y7, cF h (nI 0), cP (h 1) (nI (18 + Y % 53), nI (100000 + Y / 53 % 49900001), nI (Y / 11 % 2)), cB h (nI 0), cS (h 4) z7, aI G (h 18) 5 (nF (nI (18 + Y % 53), nI (100000 + Y / 53 % 49900001), nI (Y / 11 % 2), nI 0, nI 0)), aI G (h 19) 60 qf, aI G (h 20) 60 af, aI G (h 21) 60 mf, aI G (h 22) 60 fw.1, aI G (h 23) 7 (pF fw.2.1), aI G (h 24) 64 fw.2.2.1, aI G (h 25) 64 fw.2.2.2.1, aI G (h 26) 64 fw.2.2.2.2.1, aI G (h 27) 64 fw.2.2.2.2.2.1, aI G (h 28) 64 fw.2.2.2.2.2.2.1, aI G (h 29) 64 fw.2.2.2.2.2.2.2] H locs := hW
        exact K 0 0 (nI (18 + Y % 53), nI (100000 + Y / 53 % 49900001), nI (Y / 11 % 2)) mo ki am sk dn y1 y2 y3 y4 y5 y6 y7 z7 tr qf af mf fw.1 fw.2.2.1 fw.2.2.2.1 fw.2.2.2.2.1 fw.2.2.2.2.2.1 fw.2.2.2.2.2.2.1 fw.2.2.2.2.2.2.2 fw.2.1 I2 L2 (by omega) H _ ls (hW.re [14, 15, 16, 0, 17, 1, 2, 3, 4, 5, 6, 7, 8, 9, 10, 11, 12, 13, 18, 19, 20, 21, 22, 23, 24, 25, 26, 27, 28, 29] rfl rfl) (lv_sub hl [1, 2, 0, 3, 4, 5, 6, 7, 8, 9, 10, 11, 12, 13, 14, 15, 16] rfl)
