set_option maxHeartbeats 8000000 in
set_option maxRecDepth 100000 in
theorem lclose2 {pP : Program} {l : Launch} {eE : Env} {sS : State} {mM : MethodId} {args : Array Value} {below : List Frame} {meth : Method} {cC : Code} {Q : State → Prop} {G : GG} {A : Nat → Prop} {h : Nat → Nat} {b L : Nat} {xs : Nat → Int32} (X : LWX pP l sS mM args cC G A b L xs) {cells slots t Y : Nat} (hY : Y < 2 ^ 31) (hc : cells + 193 ≤ 600130) (hs : slots + 1162 ≤ 7301080) (K : LKd pP l eE sS mM args below meth cC Q G A h b 708 Y t (cells + 1) (slots + 6)) :
    ∀ (np n : Nat) (q : S3) (mo ki am : N32) (sk dn : Nat → Bool) (y1 y2 y3 y4 y5 y6 y7 : N32) (v tr : S7) (qf af mf df sf cf lf rf gf tf : N32) (w : S7), Inv np n q mo ki am sk (dn, y1, y2, y3, y4, y5, y6, y7, v) → LInv np n q mo ki am sk qf af mf df sf cf lf rf gf tf w → np ≤ 61 → ∀ W9 : Nat, 1 ≤ W9 → W9 ≤ 24 → ∀ (H : Heap) (locs : List Loc) (ls : Array Slot), Wd G A sS.heap [cF h (nI np), cP (h 1) q, cB h (nI n), cH h, cS (h 4) v, cS (h 5) tr, aI G (h 6) 60 mo, aI G (h 7) 60 ki, aI G (h 8) 60 am, aZ G (h 9) 60 sk, aZ G (h 10) 60 dn, aI G (h 11) 121 y1, aI G (h 12) 121 y2, aI G (h 13) 121 y3, aI G (h 14) 121 y4, aI G (h 15) 121 y5, aI G (h 16) 121 y6, aI G (h 17) 121 y7, aI G (h 18) 5 (nF (q.1, q.2.1, q.2.2, nI np, nI n)), aI G (h 19) 60 qf, aI G (h 20) 60 af, aI G (h 21) 60 mf, aI G (h 22) 60 df, aI G (h 23) 7 (pF w), aI G (h 24) 64 sf, aI G (h 25) 64 cf, aI G (h 26) 64 lf, aI G (h 27) 64 rf, aI G (h 28) 64 gf, aI G (h 29) 64 tf] H locs → lv_has ls 23 [(18, .int (nI Y)), (15, .int (nI t)), (14, .int 1), (0, .ref b), (1, .ref (h 0)), (2, .ref (h 18)), (3, .ref (h 19)), (4, .ref (h 20)), (5, .ref (h 21)), (6, .ref (h 22)), (7, .ref (h 23)), (8, .ref (h 24)), (9, .ref (h 25)), (10, .ref (h 26)), (11, .ref (h 27)), (12, .ref (h 28)), (13, .ref (h 29))] → W pP l eE room_1 sS mM args below meth cC H locs cells slots Q (F0 mM 632 ls [.int (nI W9)]) := by
  obtain ⟨S, hK, hXE, hXZ, hst, hX, hbl, hbA, hL⟩ := X
  have hx := S.1
  have hb := S.2.1
  have hf0 : cells ≤ room_1.cells ∧ slots ≤ room_1.slots := ⟨by show _ ≤ 600130; omega, by show _ ≤ 7301080; omega⟩
  have hf1 : cells + 1 ≤ room_1.cells ∧ slots + 6 ≤ room_1.slots := ⟨by show _ ≤ 600130; omega, by show _ ≤ 7301080; omega⟩
  unfold LKd at K
  intro np n q mo ki am sk dn y1 y2 y3 y4 y5 y6 y7 v tr qf af mf df sf cf lf rf gf tf w I L9 hnp W9 hW1 hW2 H locs ls hW hl
  have hn := I.1
  have hp := I.2.1
  refine lv_istore (lv' := [(19, .int (nI W9)), (18, .int (nI Y)), (15, .int (nI t)), (14, .int 1), (0, .ref b), (1, .ref (h 0)), (2, .ref (h 18)), (3, .ref (h 19)), (4, .ref (h 20)), (5, .ref (h 21)), (6, .ref (h 22)), (7, .ref (h 23)), (8, .ref (h 24)), (9, .ref (h 25)), (10, .ref (h 26)), (11, .ref (h 27)), (12, .ref (h 28)), (13, .ref (h 29))]) hx hb dL_law_632 hl (by decide) rfl (fun ls hl => ?_)
  refine lv_aload_n hx hb dL_law_634 rfl (lv_at hl 6 rfl) ?_
  refine lv_iconst (v := 3) hx hb dL_law_635 (by decide) ?_
  refine k_vld S hK hW 18 rfl (i := 3) (k := 3) (x := (nI np)) vi5_3 ix_3 rfl dL_law_636 ?_
  refine lv_iload hx hb dL_law_637 (lv_at hl 0 rfl) ?_
  refine lv_iadd hx hb dL_law_639 ?_
  refine W.eq (g2 := F0 mM 640 ls [.int (nI (np + W9))]) (by rw [nI_add np W9]) ?_
  refine lv_bipush (v := 62) hx hb dL_law_640 (by decide) ?_
  refine lv_icmp_ge (tgt := 708) hx hb dL_law_642 (by decide) (fun c_1 => ?_) (fun c_1 => ?_)
  ·
    refine W.widen (Nat.le_add_right cells 1) (Nat.le_add_right slots 6) ?_
    exact K np n q mo ki am sk dn y1 y2 y3 y4 y5 y6 y7 v tr qf af mf df sf cf lf rf gf tf w I L9 hnp H _ ls (hW.re [0, 1, 2, 3, 4, 5, 6, 7, 8, 9, 10, 11, 12, 13, 14, 15, 16, 17, 18, 19, 20, 21, 22, 23, 24, 25, 26, 27, 28, 29] rfl rfl) (lv_sub hl [1, 2, 3, 4, 5, 6, 7, 8, 9, 10, 11, 12, 13, 14, 15, 16, 17] rfl)
  ·
    refine lv_aload_n hx hb dL_law_645 rfl (lv_at hl 5 rfl) ?_
    refine lv_iconst (v := 2) hx hb dL_law_646 (by decide) ?_
    refine lv_iload hx hb dL_law_647 (lv_at hl 0 rfl) ?_
    have hnp2 : np + W9 ≤ 61 := lt62 (by omega) c_1
    obtain ⟨v2, z1, z2, z3, z4, z5, z6, z7, e1, I2⟩ := d_close I hW1 hW2 (show np + W9 ≤ 120 by omega)
    refine kz_callS (As := [.ref (h 0), .int 2, .int (nI W9)]) (rest := []) (wr := [cB h (nI n), cS (h 5) tr, aI G (h 6) 60 mo, aI G (h 7) 60 ki, aI G (h 8) 60 am, aZ G (h 9) 60 sk, aZ G (h 10) 60 dn, aI G (h 18) 5 (nF (q.1, q.2.1, q.2.2, nI np, nI n)), aI G (h 19) 60 qf, aI G (h 20) 60 af, aI G (h 21) 60 mf, aI G (h 22) 60 df, aI G (h 23) 7 (pF w), aI G (h 24) 64 sf, aI G (h 25) 64 cf, aI G (h 26) 64 lf, aI G (h 27) 64 rf, aI G (h 28) 64 gf, aI G (h 29) 64 tf]) (c_L_does2 l hst G h q v y1 y2 y3 y4 y5 y6 y7 (nI W9) np hp (by rw [e1])) S hK hW hXE hXZ gL_law_L_does rfl ⟨rfl, rfl⟩ nd_L_does ⟨rfl, rfl⟩ [0, 1, 4, 3, 11, 12, 13, 14, 15, 16, 17] [2, 5, 6, 7, 8, 9, 10, 18, 19, 20, 21, 22, 23, 24, 25, 26, 27, 28, 29] rfl rfl rfl rfl (by decide) rfl hl.1 rfl dL_law_649 hf1 (fun H locs hk hW => ?_) (fun H locs hk hW => ?_)
    · exact absurd (show (F_X4_close q v y1 y2 y3 y4 y5 y6 y7 (nI W9) np).1 = 0 by rw [e1]) hk
    ·
      rw [e1] at hW
      have hW : Wd G A sS.heap [cB h (nI n), cS (h 5) tr, aI G (h 6) 60 mo, aI G (h 7) 60 ki, aI G (h 8) 60 am, aZ G (h 9) 60 sk, aZ G (h 10) 60 dn, aI G (h 18) 5 (nF (q.1, q.2.1, q.2.2, nI np, nI n)), aI G (h 19) 60 qf, aI G (h 20) 60 af, aI G (h 21) 60 mf, aI G (h 22) 60 df, aI G (h 23) 7 (pF w), aI G (h 24) 64 sf, aI G (h 25) 64 cf, aI G (h 26) 64 lf, aI G (h 27) 64 rf, aI G (h 28) 64 gf, aI G (h 29) 64 tf, cF h (nI (np + W9)), cP (h 1) q, cS (h 4) v2, cH h, aI G (h 11) 121 z1, aI G (h 12) 121 z2, aI G (h 13) 121 z3, aI G (h 14) 121 z4, aI G (h 15) 121 z5, aI G (h 16) 121 z6, aI G (h 17) 121 z7] H locs := hW
      refine W.eq (g2 := F0 mM 652 ls [.int (nI (np + W9))]) (by rw [e1]) ?_
      refine lv_aload_n hx hb dL_law_652 rfl (lv_at hl 6 rfl) ?_
      refine lv_iconst (v := 3) hx hb dL_law_653 (by decide) ?_
      refine k_vld S hK hW 7 rfl (i := 3) (k := 3) (x := (nI np)) vi5_3 ix_3 rfl dL_law_654 ?_
      refine lv_iload hx hb dL_law_655 (lv_at hl 0 rfl) ?_
      refine lv_iadd hx hb dL_law_657 ?_
      refine W.eq (g2 := F0 mM 658 ls [.int (nI (np + W9)), .int (nI (np + W9))]) (by rw [nI_add np W9]) ?_
      refine lv_icmp_ne (tgt := 665) hx hb dL_law_658 (by decide) (fun c_2 => ?_) (fun c_2 => ?_)
      ·
        exact absurd rfl c_2
      ·
        refine lv_iconst (v := 1) hx hb dL_law_661 (by decide) ?_
        refine lv_goto (tgt := 666) hx hb dL_law_662 (by decide) ?_
        refine lv_istore (lv' := [(14, .int 1), (19, .int (nI W9)), (18, .int (nI Y)), (15, .int (nI t)), (0, .ref b), (1, .ref (h 0)), (2, .ref (h 18)), (3, .ref (h 19)), (4, .ref (h 20)), (5, .ref (h 21)), (6, .ref (h 22)), (7, .ref (h 23)), (8, .ref (h 24)), (9, .ref (h 25)), (10, .ref (h 26)), (11, .ref (h 27)), (12, .ref (h 28)), (13, .ref (h 29))]) hx hb dL_law_666 hl (by decide) rfl (fun ls hl => ?_)
        refine lv_aload_n hx hb dL_law_668 rfl (lv_at hl 6 rfl) ?_
        refine lv_iconst (v := 3) hx hb dL_law_669 (by decide) ?_
        refine k_vld S hK hW 7 rfl (i := 3) (k := 3) (x := (nI np)) vi5_3 ix_3 rfl dL_law_670 ?_
        refine lv_istore (lv' := [(20, .int (nI np)), (14, .int 1), (19, .int (nI W9)), (18, .int (nI Y)), (15, .int (nI t)), (0, .ref b), (1, .ref (h 0)), (2, .ref (h 18)), (3, .ref (h 19)), (4, .ref (h 20)), (5, .ref (h 21)), (6, .ref (h 22)), (7, .ref (h 23)), (8, .ref (h 24)), (9, .ref (h 25)), (10, .ref (h 26)), (11, .ref (h 27)), (12, .ref (h 28)), (13, .ref (h 29))]) hx hb dL_law_671 hl (by decide) rfl (fun ls hl => ?_)
        refine lv_aload_n hx hb dL_law_673 rfl (lv_at hl 7 rfl) ?_
        refine lv_iconst (v := 3) hx hb dL_law_674 (by decide) ?_
        refine lv_dup2_11 hx hb dL_law_675 rfl rfl ?_
        refine k_vld S hK hW 7 rfl (i := 3) (k := 3) (x := (nI np)) vi5_3 ix_3 rfl dL_law_676 ?_
        refine lv_iload hx hb dL_law_677 (lv_at hl 2 rfl) ?_
        refine lv_iadd hx hb dL_law_679 ?_
        refine W.eq (g2 := F0 mM 680 ls [.int (nI (np + W9)), .int 3, .ref (h 18)]) (by rw [nI_add np W9]) ?_
        refine k_vst (f' := nF (q.1, q.2.1, q.2.2, nI (np + W9), nI n)) (ws' := [cB h (nI n), cS (h 5) tr, aI G (h 6) 60 mo, aI G (h 7) 60 ki, aI G (h 8) 60 am, aZ G (h 9) 60 sk, aZ G (h 10) 60 dn, aI G (h 18) 5 (nF (q.1, q.2.1, q.2.2, nI (np + W9), nI n)), aI G (h 19) 60 qf, aI G (h 20) 60 af, aI G (h 21) 60 mf, aI G (h 22) 60 df, aI G (h 23) 7 (pF w), aI G (h 24) 64 sf, aI G (h 25) 64 cf, aI G (h 26) 64 lf, aI G (h 27) 64 rf, aI G (h 28) 64 gf, aI G (h 29) 64 tf, cF h (nI (np + W9)), cP (h 1) q, cS (h 4) v2, cH h, aI G (h 11) 121 z1, aI G (h 12) 121 z2, aI G (h 13) 121 z3, aI G (h 14) 121 z4, aI G (h 15) 121 z5, aI G (h 16) 121 z6, aI G (h 17) 121 z7]) S hK hW 7 rfl (i := 3) (k := 3) vi5_3 ix_3 (up_n3 _ _) rfl dL_law_680 (fun H locs hW => ?_)
        refine lv_aload_n hx hb dL_law_681 rfl (lv_at hl 7 rfl) ?_
        refine lv_aload_n hx hb dL_law_682 rfl (lv_at hl 8 rfl) ?_
        refine lv_aload hx hb dL_law_683 (lv_at hl 9 rfl) ?_
        refine lv_aload hx hb dL_law_685 (lv_at hl 10 rfl) ?_
        refine lv_aload hx hb dL_law_687 (lv_at hl 11 rfl) ?_
        refine lv_aload hx hb dL_law_689 (lv_at hl 12 rfl) ?_
        refine lv_aload hx hb dL_law_691 (lv_at hl 13 rfl) ?_
        refine lv_aload hx hb dL_law_693 (lv_at hl 14 rfl) ?_
        refine lv_aload hx hb dL_law_695 (lv_at hl 15 rfl) ?_
        refine lv_aload hx hb dL_law_697 (lv_at hl 16 rfl) ?_
        refine lv_aload hx hb dL_law_699 (lv_at hl 17 rfl) ?_
        refine lv_aload hx hb dL_law_701 (lv_at hl 18 rfl) ?_
        refine lv_iload hx hb dL_law_703 (lv_at hl 0 rfl) ?_
        have hag := ag_inv I (nI (np + W9)) (nI n)
        refine k_callSv (As := [.ref (h 18), .ref (h 19), .ref (h 20), .ref (h 21), .ref (h 22), .ref (h 23), .ref (h 24), .ref (h 25), .ref (h 26), .ref (h 27), .ref (h 28), .ref (h 29), .int (nI np)]) (rest := []) (wr := [cB h (nI n), cS (h 5) tr, aI G (h 6) 60 mo, aI G (h 7) 60 ki, aI G (h 8) 60 am, aZ G (h 9) 60 sk, aZ G (h 10) 60 dn, cF h (nI (np + W9)), cP (h 1) q, cS (h 4) v2, cH h, aI G (h 11) 121 z1, aI G (h 12) 121 z2, aI G (h 13) 121 z3, aI G (h 14) 121 z4, aI G (h 15) 121 z5, aI G (h 16) 121 z6, aI G (h 17) 121 z7]) (c_L_works l G h q (np + W9) n qf af mf df sf cf lf rf gf tf np w hn (by omega) (by omega) hag) S hK hW gL_law_L_works rfl ⟨rfl, rfl⟩ nd_L_works ⟨rfl, rfl⟩ [7, 8, 9, 10, 11, 12, 13, 14, 15, 16, 17, 18] [0, 1, 2, 3, 4, 5, 6, 19, 20, 21, 22, 23, 24, 25, 26, 27, 28, 29] rfl rfl rfl rfl (by decide) rfl hl.1 rfl dL_law_705 hf1 (fun H locs hW => ?_)
        have L2 := t_close I L9 (show np ≤ np + W9 by omega) (show np + W9 ≤ 120 by omega)
        have hW : Wd G A sS.heap [cB h (nI n), cS (h 5) tr, aI G (h 6) 60 mo, aI G (h 7) 60 ki, aI G (h 8) 60 am, aZ G (h 9) 60 sk, aZ G (h 10) 60 dn, cF h (nI (np + W9)), cP (h 1) q, cS (h 4) v2, cH h, aI G (h 11) 121 z1, aI G (h 12) 121 z2, aI G (h 13) 121 z3, aI G (h 14) 121 z4, aI G (h 15) 121 z5, aI G (h 16) 121 z6, aI G (h 17) 121 z7, aI G (h 18) 5 (nF (q.1, q.2.1, q.2.2, nI (np + W9), nI n)), aI G (h 19) 60 qf, aI G (h 20) 60 af, aI G (h 21) 60 mf, aI G (h 22) 60 ((F_L_works q (np + W9) n qf af mf df sf cf lf rf gf tf np).1), aI G (h 23) 7 (pF ((F_L_works q (np + W9) n qf af mf df sf cf lf rf gf tf np).2.1)), aI G (h 24) 64 ((F_L_works q (np + W9) n qf af mf df sf cf lf rf gf tf np).2.2.1), aI G (h 25) 64 ((F_L_works q (np + W9) n qf af mf df sf cf lf rf gf tf np).2.2.2.1), aI G (h 26) 64 ((F_L_works q (np + W9) n qf af mf df sf cf lf rf gf tf np).2.2.2.2.1), aI G (h 27) 64 ((F_L_works q (np + W9) n qf af mf df sf cf lf rf gf tf np).2.2.2.2.2.1), aI G (h 28) 64 ((F_L_works q (np + W9) n qf af mf df sf cf lf rf gf tf np).2.2.2.2.2.2.1), aI G (h 29) 64 ((F_L_works q (np + W9) n qf af mf df sf cf lf rf gf tf np).2.2.2.2.2.2.2)] H locs := hW
        generalize F_L_works q (np + W9) n qf af mf df sf cf lf rf gf tf np = fw at hW L2
        have hW : Wd G A sS.heap [cB h (nI n), cS (h 5) tr, aI G (h 6) 60 mo, aI G (h 7) 60 ki, aI G (h 8) 60 am, aZ G (h 9) 60 sk, aZ G (h 10) 60 dn, cF h (nI (np + W9)), cP (h 1) q, cS (h 4) v2, cH h, aI G (h 11) 121 z1, aI G (h 12) 121 z2, aI G (h 13) 121 z3, aI G (h 14) 121 z4, aI G (h 15) 121 z5, aI G (h 16) 121 z6, aI G (h 17) 121 z7, aI G (h 18) 5 (nF (q.1, q.2.1, q.2.2, nI (np + W9), nI n)), aI G (h 19) 60 qf, aI G (h 20) 60 af, aI G (h 21) 60 mf, aI G (h 22) 60 fw.1, aI G (h 23) 7 (pF fw.2.1), aI G (h 24) 64 fw.2.2.1, aI G (h 25) 64 fw.2.2.2.1, aI G (h 26) 64 fw.2.2.2.2.1, aI G (h 27) 64 fw.2.2.2.2.2.1, aI G (h 28) 64 fw.2.2.2.2.2.2.1, aI G (h 29) 64 fw.2.2.2.2.2.2.2] H locs := hW
        exact K (np + W9) n q mo ki am sk dn z1 z2 z3 z4 z5 z6 z7 v2 tr qf af mf fw.1 fw.2.2.1 fw.2.2.2.1 fw.2.2.2.2.1 fw.2.2.2.2.2.1 fw.2.2.2.2.2.2.1 fw.2.2.2.2.2.2.2 fw.2.1 I2 L2 hnp2 H _ ls (hW.re [7, 8, 0, 10, 9, 1, 2, 3, 4, 5, 6, 11, 12, 13, 14, 15, 16, 17, 18, 19, 20, 21, 22, 23, 24, 25, 26, 27, 28, 29] rfl rfl) (lv_sub hl [3, 4, 1, 5, 6, 7, 8, 9, 10, 11, 12, 13, 14, 15, 16, 17, 18] rfl)
