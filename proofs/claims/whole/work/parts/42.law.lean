set_option maxHeartbeats 4000000 in
set_option maxRecDepth 100000 in
theorem lc_isDone {pP : Program} {l : Launch} {eE : Env} {sS : State} {mM : MethodId} {args : Array Value} {below : List Frame} {meth : Method} {cC : Code} {Q : State → Prop} {G : GG} {A : Nat → Prop} {h : Nat → Nat} {b L i : Nat} {xs : Nat → Int32} {cells slots : Nat} (X : LWX pP l sS mM args cC G A b L xs) (hi : i + 4 ≤ L) (hc : cells + 1 ≤ room_1.cells) (hs : slots + 6 ≤ room_1.slots) (K : LWP pP l eE sS mM args below meth cC Q G A h b i (cells + 1) (slots + 6)) (np n : Nat) (q : S3) (mo ki am : N32) (sk dn : Nat → Bool) (y1 y2 y3 y4 y5 y6 y7 : N32) (v tr w5 : S7) (t5 : Int32) (dn5 : Nat → Bool) (fo : Nat → Int64) (I : Inv np n q mo ki am sk (dn, y1, y2, y3, y4, y5, y6, y7, v)) (H : Heap) (locs : List Loc) (ls : Array Slot) (hW : Wd G A sS.heap [cF h (nI np), cP (h 1) q, cB h (nI n), cH h, cS (h 4) v, cS (h 5) tr, aI G (h 6) 60 mo, aI G (h 7) 60 ki, aI G (h 8) 60 am, aZ G (h 9) 60 sk, aZ G (h 10) 60 dn, aI G (h 11) 121 y1, aI G (h 12) 121 y2, aI G (h 13) 121 y3, aI G (h 14) 121 y4, aI G (h 15) 121 y5, aI G (h 16) 121 y6, aI G (h 17) 121 y7, cM h (q.1, q.2.1, q.2.2, (nI np), (nI n)) w5 t5, aI G (h 19) 60 mo, aI G (h 20) 60 ki, aI G (h 21) 60 am, aZ G (h 22) 60 sk, aZ G (h 23) 60 dn5, aJ G (h 24) 1 fo] H locs) (hl : lv_has ls 7 [(0, .ref b), (1, .ref (h 0)), (2, .ref (h 18)), (3, .ref (h 24)), (4, .int (nI i))]) :
    W pP l eE room_1 sS mM args below meth cC H locs cells slots Q (F0 mM 359 ls []) := by
  obtain ⟨S, hK, hXE, hXZ, hst, hX, hbl, hbA, hL⟩ := X
  have hx := S.1
  have hb := S.2.1
  have hn := I.1
  have hp := I.2.1
  have hmo := I.hmo
  have hf1 : cells + 1 ≤ room_1.cells ∧ slots + 6 ≤ room_1.slots := ⟨hc, hs⟩
  have hf0 : cells ≤ room_1.cells ∧ slots ≤ room_1.slots := ⟨Nat.le_of_succ_le hc, Nat.le_trans (Nat.le_add_right _ _) hs⟩
  rcases p_isDone I w5 dn5 (xs (nI i + 1).toNatClampNeg) with ⟨kk, w2, dn6, hkk, e4, e5⟩ | ⟨bb, w2, dn6, e4, e5⟩
  ·
    have e4 : (F_X4_isDone (nI n) sk dn (xs (nI i + 1).toNatClampNeg)).1 = kk := e4
    have e5 : (F_X5_isDone q.1 q.2.1 q.2.2 w5 mo ki am sk dn5 (xs (nI i + 1).toNatClampNeg) np n) = (false, w2, kk, dn6) := e5
    refine lv_aload_n hx hb dL_law_359 rfl (lv_at hl 1 rfl) ?_
    refine lv_aload_n hx hb dL_law_360 rfl (lv_at hl 0 rfl) ?_
    refine lv_iload hx hb dL_law_361 (lv_at hl 4 rfl) ?_
    refine lv_iconst (v := 1) hx hb dL_law_363 (by decide) ?_
    refine lv_iadd hx hb dL_law_364 ?_
    refine va_sld hx hb hX hbl hbA hW.2.2.1 (sc1 hi hL) dL_law_365 ?_
    refine lv_aload_n hx hb dL_law_366 rfl (lv_at hl 3 rfl) ?_
    refine ky_callS (As := [.ref (h 0), .int (xs (nI i + 1).toNatClampNeg), .ref (h 24)]) (rest := []) (wr := [cP (h 1) q, cH h, cS (h 4) v, cS (h 5) tr, aI G (h 6) 60 mo, aI G (h 7) 60 ki, aI G (h 8) 60 am, aI G (h 11) 121 y1, aI G (h 12) 121 y2, aI G (h 13) 121 y3, aI G (h 14) 121 y4, aI G (h 15) 121 y5, aI G (h 16) 121 y6, aI G (h 17) 121 y7, cM h (q.1, q.2.1, q.2.2, (nI np), (nI n)) w5 t5, aI G (h 19) 60 mo, aI G (h 20) 60 ki, aI G (h 21) 60 am, aZ G (h 22) 60 sk, aZ G (h 23) 60 dn5]) (c_L_isDone l hst G h (nI np) (nI n) sk dn fo (xs (nI i + 1).toNatClampNeg)) S hK hW hXE hXZ gL_law_L_isDone rfl ⟨rfl, rfl⟩ nd_L_isDone ⟨rfl, rfl⟩ [0, 2, 9, 10, 24] [1, 3, 4, 5, 6, 7, 8, 11, 12, 13, 14, 15, 16, 17, 18, 19, 20, 21, 22, 23] rfl rfl rfl rfl (by decide) rfl hl.1 rfl dL_law_367 hf1 (fun H locs hk hW => ?_) (fun H locs hk hW => ?_)
    ·
      have hW : Wd G A sS.heap [cP (h 1) q, cH h, cS (h 4) v, cS (h 5) tr, aI G (h 6) 60 mo, aI G (h 7) 60 ki, aI G (h 8) 60 am, aI G (h 11) 121 y1, aI G (h 12) 121 y2, aI G (h 13) 121 y3, aI G (h 14) 121 y4, aI G (h 15) 121 y5, aI G (h 16) 121 y6, aI G (h 17) 121 y7, cM h (q.1, q.2.1, q.2.2, (nI np), (nI n)) w5 t5, aI G (h 19) 60 mo, aI G (h 20) 60 ki, aI G (h 21) 60 am, aZ G (h 22) 60 sk, aZ G (h 23) 60 dn5, cF h (nI np), cB h (nI n), aZ G (h 9) 60 sk, aZ G (h 10) 60 dn, aJ G (h 24) 1 fo] H locs := hW
      rw [e4]
      refine lv_istore (lv' := [(5, .int kk), (0, .ref b), (1, .ref (h 0)), (2, .ref (h 18)), (3, .ref (h 24)), (4, .int (nI i))]) hx hb dL_law_370 hl (by decide) rfl (fun ls hl => ?_)
      refine lv_aload_n hx hb dL_law_372 rfl (lv_at hl 3 rfl) ?_
      refine lv_aload_n hx hb dL_law_373 rfl (lv_at hl 1 rfl) ?_
      refine lv_iload hx hb dL_law_374 (lv_at hl 5 rfl) ?_
      refine lv_iconst (v := 1) hx hb dL_law_376 (by decide) ?_
      refine lv_iadd hx hb dL_law_377 ?_
      refine va_sld hx hb hX hbl hbA hW.2.2.1 (sc1 hi hL) dL_law_378 ?_
      refine k_callVi (C := RX5) (As := [.int (xs (nI i + 1).toNatClampNeg)]) (rest := []) (wr := [cP (h 1) q, cH h, cS (h 4) v, cS (h 5) tr, aI G (h 6) 60 mo, aI G (h 7) 60 ki, aI G (h 8) 60 am, aI G (h 11) 121 y1, aI G (h 12) 121 y2, aI G (h 13) 121 y3, aI G (h 14) 121 y4, aI G (h 15) 121 y5, aI G (h 16) 121 y6, aI G (h 17) 121 y7, cF h (nI np), cB h (nI n), aZ G (h 9) 60 sk, aZ G (h 10) 60 dn, aJ G (h 24) 1 fo]) (c_X5_isDone l G h q.1 q.2.1 q.2.2 w5 t5 mo ki am sk dn5 (xs (nI i + 1).toNatClampNeg) np n (by omega) (by omega)) S hK hW gL_law_X5_isDone rfl ⟨rfl, rfl⟩ nd_X5_isDone ⟨rfl, rfl⟩ (qb := 14) (ci := 5) rfl rfl [14, 15, 16, 17, 18, 19] [0, 1, 2, 3, 4, 5, 6, 7, 8, 9, 10, 11, 12, 13, 20, 21, 22, 23, 24] rfl rfl rfl rfl (by decide) rfl hl.1 rfl dL_law_379 hf1 (fun H locs hW => ?_)
      have hW : Wd G A sS.heap [cP (h 1) q, cH h, cS (h 4) v, cS (h 5) tr, aI G (h 6) 60 mo, aI G (h 7) 60 ki, aI G (h 8) 60 am, aI G (h 11) 121 y1, aI G (h 12) 121 y2, aI G (h 13) 121 y3, aI G (h 14) 121 y4, aI G (h 15) 121 y5, aI G (h 16) 121 y6, aI G (h 17) 121 y7, cF h (nI np), cB h (nI n), aZ G (h 9) 60 sk, aZ G (h 10) 60 dn, aJ G (h 24) 1 fo, cM h (q.1, q.2.1, q.2.2, (nI np), (nI n)) ((F_X5_isDone q.1 q.2.1 q.2.2 w5 mo ki am sk dn5 (xs (nI i + 1).toNatClampNeg) np n).2.1) ((F_X5_isDone q.1 q.2.1 q.2.2 w5 mo ki am sk dn5 (xs (nI i + 1).toNatClampNeg) np n).2.2.1), aI G (h 19) 60 mo, aI G (h 20) 60 ki, aI G (h 21) 60 am, aZ G (h 22) 60 sk, aZ G (h 23) 60 ((F_X5_isDone q.1 q.2.1 q.2.2 w5 mo ki am sk dn5 (xs (nI i + 1).toNatClampNeg) np n).2.2.2)] H locs := hW
      rw [e5] at hW
      rw [e5]
      have hW : Wd G A sS.heap [cP (h 1) q, cH h, cS (h 4) v, cS (h 5) tr, aI G (h 6) 60 mo, aI G (h 7) 60 ki, aI G (h 8) 60 am, aI G (h 11) 121 y1, aI G (h 12) 121 y2, aI G (h 13) 121 y3, aI G (h 14) 121 y4, aI G (h 15) 121 y5, aI G (h 16) 121 y6, aI G (h 17) 121 y7, cF h (nI np), cB h (nI n), aZ G (h 9) 60 sk, aZ G (h 10) 60 dn, aJ G (h 24) 1 fo, cM h (q.1, q.2.1, q.2.2, (nI np), (nI n)) w2 kk, aI G (h 19) 60 mo, aI G (h 20) 60 ki, aI G (h 21) 60 am, aZ G (h 22) 60 sk, aZ G (h 23) 60 dn6] H locs := hW
      refine lv_istore (lv' := [(6, .int (bI false)), (5, .int kk), (0, .ref b), (1, .ref (h 0)), (2, .ref (h 18)), (3, .ref (h 24)), (4, .int (nI i))]) hx hb dL_law_382 hl (by decide) rfl (fun ls hl => ?_)
      refine lv_aload_n hx hb dL_law_384 rfl (lv_at hl 4 rfl) ?_
      refine k_callVi (C := RX5) (As := []) (rest := []) (wr := [cP (h 1) q, cH h, cS (h 4) v, cS (h 5) tr, aI G (h 6) 60 mo, aI G (h 7) 60 ki, aI G (h 8) 60 am, aI G (h 11) 121 y1, aI G (h 12) 121 y2, aI G (h 13) 121 y3, aI G (h 14) 121 y4, aI G (h 15) 121 y5, aI G (h 16) 121 y6, aI G (h 17) 121 y7, cF h (nI np), cB h (nI n), aZ G (h 9) 60 sk, aZ G (h 10) 60 dn, aJ G (h 24) 1 fo, aI G (h 19) 60 mo, aI G (h 20) 60 ki, aI G (h 21) 60 am, aZ G (h 22) 60 sk, aZ G (h 23) 60 dn6]) (c_X5_thrown l G h q.1 q.2.1 q.2.2 (nI np) (nI n) w2 kk) S hK hW gL_law_X5_thrown rfl ⟨rfl, rfl⟩ nd_X5_thrown ⟨rfl, rfl⟩ (qb := 19) (ci := 5) rfl rfl [19] [0, 1, 2, 3, 4, 5, 6, 7, 8, 9, 10, 11, 12, 13, 14, 15, 16, 17, 18, 20, 21, 22, 23, 24] rfl rfl rfl rfl (by decide) rfl hl.1 rfl dL_law_385 hf1 (fun H locs hW => ?_)
      have hW : Wd G A sS.heap [cP (h 1) q, cH h, cS (h 4) v, cS (h 5) tr, aI G (h 6) 60 mo, aI G (h 7) 60 ki, aI G (h 8) 60 am, aI G (h 11) 121 y1, aI G (h 12) 121 y2, aI G (h 13) 121 y3, aI G (h 14) 121 y4, aI G (h 15) 121 y5, aI G (h 16) 121 y6, aI G (h 17) 121 y7, cF h (nI np), cB h (nI n), aZ G (h 9) 60 sk, aZ G (h 10) 60 dn, aJ G (h 24) 1 fo, aI G (h 19) 60 mo, aI G (h 20) 60 ki, aI G (h 21) 60 am, aZ G (h 22) 60 sk, aZ G (h 23) 60 dn6, cM h (q.1, q.2.1, q.2.2, (nI np), (nI n)) w2 kk] H locs := hW
      refine lv_iload hx hb dL_law_388 (lv_at hl 1 rfl) ?_
      refine lv_icmp_eq (tgt := 395) hx hb dL_law_390 (by decide) (fun c_1 => ?_) (fun c_1 => ?_)
      ·
        refine lv_iload hx hb dL_law_395 (lv_at hl 1 rfl) ?_
        refine lv_if_ne (tgt := 419) hx hb dL_law_397 (by decide) (fun c_2 => ?_) (fun c_2 => ?_)
        ·
          refine lv_goto (tgt := 944) hx hb dL_law_419 (by decide) ?_
          exact K np n q mo ki am sk dn y1 y2 y3 y4 y5 y6 y7 v tr w2 kk dn6 fo I _ _ _ (hW.re [14, 0, 15, 1, 2, 3, 4, 5, 6, 16, 17, 7, 8, 9, 10, 11, 12, 13, 24, 19, 20, 21, 22, 23, 18] rfl rfl) (lv_sub hl [2, 3, 4, 5, 6] rfl)
        ·
          exact absurd c_2 hkk
      ·
        exact (c_1 rfl).elim
    · exact absurd (e4.symm.trans hk) hkk
  ·
    have e4 : (F_X4_isDone (nI n) sk dn (xs (nI i + 1).toNatClampNeg)) = (0, bb) := e4
    have e5 : (F_X5_isDone q.1 q.2.1 q.2.2 w5 mo ki am sk dn5 (xs (nI i + 1).toNatClampNeg) np n) = (bb, w2, 0, dn6) := e5
    refine lv_aload_n hx hb dL_law_359 rfl (lv_at hl 1 rfl) ?_
    refine lv_aload_n hx hb dL_law_360 rfl (lv_at hl 0 rfl) ?_
    refine lv_iload hx hb dL_law_361 (lv_at hl 4 rfl) ?_
    refine lv_iconst (v := 1) hx hb dL_law_363 (by decide) ?_
    refine lv_iadd hx hb dL_law_364 ?_
    refine va_sld hx hb hX hbl hbA hW.2.2.1 (sc1 hi hL) dL_law_365 ?_
    refine lv_aload_n hx hb dL_law_366 rfl (lv_at hl 3 rfl) ?_
    refine ky_callS (As := [.ref (h 0), .int (xs (nI i + 1).toNatClampNeg), .ref (h 24)]) (rest := []) (wr := [cP (h 1) q, cH h, cS (h 4) v, cS (h 5) tr, aI G (h 6) 60 mo, aI G (h 7) 60 ki, aI G (h 8) 60 am, aI G (h 11) 121 y1, aI G (h 12) 121 y2, aI G (h 13) 121 y3, aI G (h 14) 121 y4, aI G (h 15) 121 y5, aI G (h 16) 121 y6, aI G (h 17) 121 y7, cM h (q.1, q.2.1, q.2.2, (nI np), (nI n)) w5 t5, aI G (h 19) 60 mo, aI G (h 20) 60 ki, aI G (h 21) 60 am, aZ G (h 22) 60 sk, aZ G (h 23) 60 dn5]) (c_L_isDone l hst G h (nI np) (nI n) sk dn fo (xs (nI i + 1).toNatClampNeg)) S hK hW hXE hXZ gL_law_L_isDone rfl ⟨rfl, rfl⟩ nd_L_isDone ⟨rfl, rfl⟩ [0, 2, 9, 10, 24] [1, 3, 4, 5, 6, 7, 8, 11, 12, 13, 14, 15, 16, 17, 18, 19, 20, 21, 22, 23] rfl rfl rfl rfl (by decide) rfl hl.1 rfl dL_law_367 hf1 (fun H locs hk hW => ?_) (fun H locs hk hW => ?_)
    · exact absurd (show (F_X4_isDone (nI n) sk dn (xs (nI i + 1).toNatClampNeg)).1 = 0 by rw [e4]) hk
    ·
      rw [hk]
      try rw [e4] at hW
      have hW : Wd G A sS.heap [cP (h 1) q, cH h, cS (h 4) v, cS (h 5) tr, aI G (h 6) 60 mo, aI G (h 7) 60 ki, aI G (h 8) 60 am, aI G (h 11) 121 y1, aI G (h 12) 121 y2, aI G (h 13) 121 y3, aI G (h 14) 121 y4, aI G (h 15) 121 y5, aI G (h 16) 121 y6, aI G (h 17) 121 y7, cM h (q.1, q.2.1, q.2.2, (nI np), (nI n)) w5 t5, aI G (h 19) 60 mo, aI G (h 20) 60 ki, aI G (h 21) 60 am, aZ G (h 22) 60 sk, aZ G (h 23) 60 dn5, cF h (nI np), cB h (nI n), aZ G (h 9) 60 sk, aZ G (h 10) 60 dn, aJ G (h 24) 1 (F_L_isDone (nI n) sk dn fo (xs (nI i + 1).toNatClampNeg))] H locs := hW
      refine lv_istore (lv' := [(5, .int 0), (0, .ref b), (1, .ref (h 0)), (2, .ref (h 18)), (3, .ref (h 24)), (4, .int (nI i))]) hx hb dL_law_370 hl (by decide) rfl (fun ls hl => ?_)
      refine lv_aload_n hx hb dL_law_372 rfl (lv_at hl 3 rfl) ?_
      refine lv_aload_n hx hb dL_law_373 rfl (lv_at hl 1 rfl) ?_
      refine lv_iload hx hb dL_law_374 (lv_at hl 5 rfl) ?_
      refine lv_iconst (v := 1) hx hb dL_law_376 (by decide) ?_
      refine lv_iadd hx hb dL_law_377 ?_
      refine va_sld hx hb hX hbl hbA hW.2.2.1 (sc1 hi hL) dL_law_378 ?_
      refine k_callVi (C := RX5) (As := [.int (xs (nI i + 1).toNatClampNeg)]) (rest := []) (wr := [cP (h 1) q, cH h, cS (h 4) v, cS (h 5) tr, aI G (h 6) 60 mo, aI G (h 7) 60 ki, aI G (h 8) 60 am, aI G (h 11) 121 y1, aI G (h 12) 121 y2, aI G (h 13) 121 y3, aI G (h 14) 121 y4, aI G (h 15) 121 y5, aI G (h 16) 121 y6, aI G (h 17) 121 y7, cF h (nI np), cB h (nI n), aZ G (h 9) 60 sk, aZ G (h 10) 60 dn, aJ G (h 24) 1 (F_L_isDone (nI n) sk dn fo (xs (nI i + 1).toNatClampNeg))]) (c_X5_isDone l G h q.1 q.2.1 q.2.2 w5 t5 mo ki am sk dn5 (xs (nI i + 1).toNatClampNeg) np n (by omega) (by omega)) S hK hW gL_law_X5_isDone rfl ⟨rfl, rfl⟩ nd_X5_isDone ⟨rfl, rfl⟩ (qb := 14) (ci := 5) rfl rfl [14, 15, 16, 17, 18, 19] [0, 1, 2, 3, 4, 5, 6, 7, 8, 9, 10, 11, 12, 13, 20, 21, 22, 23, 24] rfl rfl rfl rfl (by decide) rfl hl.1 rfl dL_law_379 hf1 (fun H locs hW => ?_)
      have hW : Wd G A sS.heap [cP (h 1) q, cH h, cS (h 4) v, cS (h 5) tr, aI G (h 6) 60 mo, aI G (h 7) 60 ki, aI G (h 8) 60 am, aI G (h 11) 121 y1, aI G (h 12) 121 y2, aI G (h 13) 121 y3, aI G (h 14) 121 y4, aI G (h 15) 121 y5, aI G (h 16) 121 y6, aI G (h 17) 121 y7, cF h (nI np), cB h (nI n), aZ G (h 9) 60 sk, aZ G (h 10) 60 dn, aJ G (h 24) 1 (F_L_isDone (nI n) sk dn fo (xs (nI i + 1).toNatClampNeg)), cM h (q.1, q.2.1, q.2.2, (nI np), (nI n)) ((F_X5_isDone q.1 q.2.1 q.2.2 w5 mo ki am sk dn5 (xs (nI i + 1).toNatClampNeg) np n).2.1) ((F_X5_isDone q.1 q.2.1 q.2.2 w5 mo ki am sk dn5 (xs (nI i + 1).toNatClampNeg) np n).2.2.1), aI G (h 19) 60 mo, aI G (h 20) 60 ki, aI G (h 21) 60 am, aZ G (h 22) 60 sk, aZ G (h 23) 60 ((F_X5_isDone q.1 q.2.1 q.2.2 w5 mo ki am sk dn5 (xs (nI i + 1).toNatClampNeg) np n).2.2.2)] H locs := hW
      rw [e5] at hW
      rw [e5]
      have hW : Wd G A sS.heap [cP (h 1) q, cH h, cS (h 4) v, cS (h 5) tr, aI G (h 6) 60 mo, aI G (h 7) 60 ki, aI G (h 8) 60 am, aI G (h 11) 121 y1, aI G (h 12) 121 y2, aI G (h 13) 121 y3, aI G (h 14) 121 y4, aI G (h 15) 121 y5, aI G (h 16) 121 y6, aI G (h 17) 121 y7, cF h (nI np), cB h (nI n), aZ G (h 9) 60 sk, aZ G (h 10) 60 dn, aJ G (h 24) 1 (F_L_isDone (nI n) sk dn fo (xs (nI i + 1).toNatClampNeg)), cM h (q.1, q.2.1, q.2.2, (nI np), (nI n)) w2 0, aI G (h 19) 60 mo, aI G (h 20) 60 ki, aI G (h 21) 60 am, aZ G (h 22) 60 sk, aZ G (h 23) 60 dn6] H locs := hW
      refine lv_istore (lv' := [(6, .int (bI bb)), (5, .int 0), (0, .ref b), (1, .ref (h 0)), (2, .ref (h 18)), (3, .ref (h 24)), (4, .int (nI i))]) hx hb dL_law_382 hl (by decide) rfl (fun ls hl => ?_)
      refine lv_aload_n hx hb dL_law_384 rfl (lv_at hl 4 rfl) ?_
      refine k_callVi (C := RX5) (As := []) (rest := []) (wr := [cP (h 1) q, cH h, cS (h 4) v, cS (h 5) tr, aI G (h 6) 60 mo, aI G (h 7) 60 ki, aI G (h 8) 60 am, aI G (h 11) 121 y1, aI G (h 12) 121 y2, aI G (h 13) 121 y3, aI G (h 14) 121 y4, aI G (h 15) 121 y5, aI G (h 16) 121 y6, aI G (h 17) 121 y7, cF h (nI np), cB h (nI n), aZ G (h 9) 60 sk, aZ G (h 10) 60 dn, aJ G (h 24) 1 (F_L_isDone (nI n) sk dn fo (xs (nI i + 1).toNatClampNeg)), aI G (h 19) 60 mo, aI G (h 20) 60 ki, aI G (h 21) 60 am, aZ G (h 22) 60 sk, aZ G (h 23) 60 dn6]) (c_X5_thrown l G h q.1 q.2.1 q.2.2 (nI np) (nI n) w2 0) S hK hW gL_law_X5_thrown rfl ⟨rfl, rfl⟩ nd_X5_thrown ⟨rfl, rfl⟩ (qb := 19) (ci := 5) rfl rfl [19] [0, 1, 2, 3, 4, 5, 6, 7, 8, 9, 10, 11, 12, 13, 14, 15, 16, 17, 18, 20, 21, 22, 23, 24] rfl rfl rfl rfl (by decide) rfl hl.1 rfl dL_law_385 hf1 (fun H locs hW => ?_)
      have hW : Wd G A sS.heap [cP (h 1) q, cH h, cS (h 4) v, cS (h 5) tr, aI G (h 6) 60 mo, aI G (h 7) 60 ki, aI G (h 8) 60 am, aI G (h 11) 121 y1, aI G (h 12) 121 y2, aI G (h 13) 121 y3, aI G (h 14) 121 y4, aI G (h 15) 121 y5, aI G (h 16) 121 y6, aI G (h 17) 121 y7, cF h (nI np), cB h (nI n), aZ G (h 9) 60 sk, aZ G (h 10) 60 dn, aJ G (h 24) 1 (F_L_isDone (nI n) sk dn fo (xs (nI i + 1).toNatClampNeg)), aI G (h 19) 60 mo, aI G (h 20) 60 ki, aI G (h 21) 60 am, aZ G (h 22) 60 sk, aZ G (h 23) 60 dn6, cM h (q.1, q.2.1, q.2.2, (nI np), (nI n)) w2 0] H locs := hW
      refine lv_iload hx hb dL_law_388 (lv_at hl 1 rfl) ?_
      refine lv_icmp_eq (tgt := 395) hx hb dL_law_390 (by decide) (fun c_1 => ?_) (fun c_1 => ?_)
      ·
        refine lv_iload hx hb dL_law_395 (lv_at hl 1 rfl) ?_
        refine lv_if_ne (tgt := 419) hx hb dL_law_397 (by decide) (fun c_2 => ?_) (fun c_2 => ?_)
        ·
          exact absurd c_2 (by decide)
        ·
          refine lv_aload_n hx hb dL_law_400 rfl (lv_at hl 5 rfl) ?_
          refine lv_iconst (v := 0) hx hb dL_law_401 (by decide) ?_
          refine k_lald (n := 1) S hK hW 18 rfl (i := 0) vp_01 dL_law_402 ?_
          refine lv_iload hx hb dL_law_403 (lv_at hl 0 rfl) ?_
          refine lv_if_eq (tgt := 412) hx hb dL_law_405 (by decide) (fun c_3 => ?_) (fun c_3 => ?_)
          ·
            refine lv_lconst (v := 0) hx hb dL_law_412 rfl ?_
            refine W.lcmp hx hb dL_law_413 ?_
            refine lv_if_eq (tgt := 419) hx hb dL_law_414 (by decide) (fun c_4 => ?_) (fun c_4 => ?_)
            ·
              refine lv_goto (tgt := 944) hx hb dL_law_419 (by decide) ?_
              exact K np n q mo ki am sk dn y1 y2 y3 y4 y5 y6 y7 v tr w2 0 dn6 (F_L_isDone (nI n) sk dn fo (xs (nI i + 1).toNatClampNeg)) I _ _ _ (hW.re [14, 0, 15, 1, 2, 3, 4, 5, 6, 16, 17, 7, 8, 9, 10, 11, 12, 13, 24, 19, 20, 21, 22, 23, 18] rfl rfl) (lv_sub hl [2, 3, 4, 5, 6] rfl)
            ·
              have ho : (F_L_isDone (nI n) sk dn fo (xs (nI i + 1).toNatClampNeg)) (0 : Int32).toNatClampNeg = (0 : Int64) := by
                unfold F_L_isDone
                rw [e4]
                dsimp only
                rw [if_pos c_3]
                exact pk_uLs
              exact (c_4 (by rw [ho]; exact lcmp_self _)).elim
          ·
            refine lv_lconst (v := 1) hx hb dL_law_408 rfl ?_
            refine lv_goto (tgt := 413) hx hb dL_law_409 (by decide) ?_
            refine W.lcmp hx hb dL_law_413 ?_
            refine lv_if_eq (tgt := 419) hx hb dL_law_414 (by decide) (fun c_5 => ?_) (fun c_5 => ?_)
            ·
              refine lv_goto (tgt := 944) hx hb dL_law_419 (by decide) ?_
              exact K np n q mo ki am sk dn y1 y2 y3 y4 y5 y6 y7 v tr w2 0 dn6 (F_L_isDone (nI n) sk dn fo (xs (nI i + 1).toNatClampNeg)) I _ _ _ (hW.re [14, 0, 15, 1, 2, 3, 4, 5, 6, 16, 17, 7, 8, 9, 10, 11, 12, 13, 24, 19, 20, 21, 22, 23, 18] rfl rfl) (lv_sub hl [2, 3, 4, 5, 6] rfl)
            ·
              have ho : (F_L_isDone (nI n) sk dn fo (xs (nI i + 1).toNatClampNeg)) (0 : Int32).toNatClampNeg = (1 : Int64) := by
                unfold F_L_isDone
                rw [e4]
                dsimp only
                rw [if_neg c_3]
                exact pk_uLs
              exact (c_5 (by rw [ho]; exact lcmp_self _)).elim
      ·
        exact (c_1 rfl).elim
set_option maxHeartbeats 4000000 in
set_option maxRecDepth 100000 in
theorem lc_close {pP : Program} {l : Launch} {eE : Env} {sS : State} {mM : MethodId} {args : Array Value} {below : List Frame} {meth : Method} {cC : Code} {Q : State → Prop} {G : GG} {A : Nat → Prop} {h : Nat → Nat} {b L i : Nat} {xs : Nat → Int32} {cells slots : Nat} (X : LWX pP l sS mM args cC G A b L xs) (hi : i + 4 ≤ L) (hc : cells + 1 ≤ room_1.cells) (hs : slots + 6 ≤ room_1.slots) (K : LWP pP l eE sS mM args below meth cC Q G A h b i (cells + 1) (slots + 6)) (np n : Nat) (q : S3) (mo ki am : N32) (sk dn : Nat → Bool) (y1 y2 y3 y4 y5 y6 y7 : N32) (v tr w5 : S7) (t5 : Int32) (dn5 : Nat → Bool) (fo : Nat → Int64) (I : Inv np n q mo ki am sk (dn, y1, y2, y3, y4, y5, y6, y7, v)) (H : Heap) (locs : List Loc) (ls : Array Slot) (hW : Wd G A sS.heap [cF h (nI np), cP (h 1) q, cB h (nI n), cH h, cS (h 4) v, cS (h 5) tr, aI G (h 6) 60 mo, aI G (h 7) 60 ki, aI G (h 8) 60 am, aZ G (h 9) 60 sk, aZ G (h 10) 60 dn, aI G (h 11) 121 y1, aI G (h 12) 121 y2, aI G (h 13) 121 y3, aI G (h 14) 121 y4, aI G (h 15) 121 y5, aI G (h 16) 121 y6, aI G (h 17) 121 y7, cM h (q.1, q.2.1, q.2.2, (nI np), (nI n)) w5 t5, aI G (h 19) 60 mo, aI G (h 20) 60 ki, aI G (h 21) 60 am, aZ G (h 22) 60 sk, aZ G (h 23) 60 dn5, aJ G (h 24) 1 fo] H locs) (hl : lv_has ls 7 [(0, .ref b), (1, .ref (h 0)), (2, .ref (h 18)), (3, .ref (h 24)), (4, .int (nI i))]) :
    W pP l eE room_1 sS mM args below meth cC H locs cells slots Q (F0 mM 435 ls []) := by
  obtain ⟨S, hK, hXE, hXZ, hst, hX, hbl, hbA, hL⟩ := X
  have hx := S.1
  have hb := S.2.1
  have hn := I.1
  have hp := I.2.1
  have hmo := I.hmo
  have hf1 : cells + 1 ≤ room_1.cells ∧ slots + 6 ≤ room_1.slots := ⟨hc, hs⟩
  have hf0 : cells ≤ room_1.cells ∧ slots ≤ room_1.slots := ⟨Nat.le_of_succ_le hc, Nat.le_trans (Nat.le_add_right _ _) hs⟩
  rcases p_close I (xs (nI i + 1).toNatClampNeg) with ⟨kk, hkk, e4, e5⟩ | ⟨np2, v2, z1, z2, z3, z4, z5, z6, z7, e4, e5, I2⟩
  ·
    have e4 : (F_X4_close q v y1 y2 y3 y4 y5 y6 y7 (xs (nI i + 1).toNatClampNeg) np).1 = kk := e4
    have e5 : (F_X5_close (nI np) (xs (nI i + 1).toNatClampNeg)) = (0, nI np, kk) := e5
    refine lv_aload_n hx hb dL_law_435 rfl (lv_at hl 1 rfl) ?_
    refine lv_aload_n hx hb dL_law_436 rfl (lv_at hl 0 rfl) ?_
    refine lv_iload hx hb dL_law_437 (lv_at hl 4 rfl) ?_
    refine lv_iconst (v := 1) hx hb dL_law_439 (by decide) ?_
    refine lv_iadd hx hb dL_law_440 ?_
    refine va_sld hx hb hX hbl hbA hW.2.2.1 (sc1 hi hL) dL_law_441 ?_
    refine lv_aload_n hx hb dL_law_442 rfl (lv_at hl 3 rfl) ?_
    refine ky_callS (As := [.ref (h 0), .int (xs (nI i + 1).toNatClampNeg), .ref (h 24)]) (rest := []) (wr := [cB h (nI n), cS (h 5) tr, aI G (h 6) 60 mo, aI G (h 7) 60 ki, aI G (h 8) 60 am, aZ G (h 9) 60 sk, aZ G (h 10) 60 dn, cM h (q.1, q.2.1, q.2.2, (nI np), (nI n)) w5 t5, aI G (h 19) 60 mo, aI G (h 20) 60 ki, aI G (h 21) 60 am, aZ G (h 22) 60 sk, aZ G (h 23) 60 dn5]) (c_L_close l hst G h q v y1 y2 y3 y4 y5 y6 y7 fo (xs (nI i + 1).toNatClampNeg) np hp) S hK hW hXE hXZ gL_law_L_close rfl ⟨rfl, rfl⟩ nd_L_close ⟨rfl, rfl⟩ [0, 1, 4, 3, 11, 12, 13, 14, 15, 16, 17, 24] [2, 5, 6, 7, 8, 9, 10, 18, 19, 20, 21, 22, 23] rfl rfl rfl rfl (by decide) rfl hl.1 rfl dL_law_443 hf1 (fun H locs hk hW => ?_) (fun H locs hk hW => ?_)
    ·
      have hW : Wd G A sS.heap [cB h (nI n), cS (h 5) tr, aI G (h 6) 60 mo, aI G (h 7) 60 ki, aI G (h 8) 60 am, aZ G (h 9) 60 sk, aZ G (h 10) 60 dn, cM h (q.1, q.2.1, q.2.2, (nI np), (nI n)) w5 t5, aI G (h 19) 60 mo, aI G (h 20) 60 ki, aI G (h 21) 60 am, aZ G (h 22) 60 sk, aZ G (h 23) 60 dn5, cF h (nI np), cP (h 1) q, cS (h 4) v, cH h, aI G (h 11) 121 y1, aI G (h 12) 121 y2, aI G (h 13) 121 y3, aI G (h 14) 121 y4, aI G (h 15) 121 y5, aI G (h 16) 121 y6, aI G (h 17) 121 y7, aJ G (h 24) 1 fo] H locs := hW
      rw [e4]
      refine lv_istore (lv' := [(5, .int kk), (0, .ref b), (1, .ref (h 0)), (2, .ref (h 18)), (3, .ref (h 24)), (4, .int (nI i))]) hx hb dL_law_446 hl (by decide) rfl (fun ls hl => ?_)
      refine lv_aload_n hx hb dL_law_448 rfl (lv_at hl 3 rfl) ?_
      refine lv_aload_n hx hb dL_law_449 rfl (lv_at hl 1 rfl) ?_
      refine lv_iload hx hb dL_law_450 (lv_at hl 5 rfl) ?_
      refine lv_iconst (v := 1) hx hb dL_law_452 (by decide) ?_
      refine lv_iadd hx hb dL_law_453 ?_
      refine va_sld hx hb hX hbl hbA hW.2.2.1 (sc1 hi hL) dL_law_454 ?_
      refine k_callVi (C := RX5) (As := [.int (xs (nI i + 1).toNatClampNeg)]) (rest := []) (wr := [cB h (nI n), cS (h 5) tr, aI G (h 6) 60 mo, aI G (h 7) 60 ki, aI G (h 8) 60 am, aZ G (h 9) 60 sk, aZ G (h 10) 60 dn, aI G (h 19) 60 mo, aI G (h 20) 60 ki, aI G (h 21) 60 am, aZ G (h 22) 60 sk, aZ G (h 23) 60 dn5, cF h (nI np), cP (h 1) q, cS (h 4) v, cH h, aI G (h 11) 121 y1, aI G (h 12) 121 y2, aI G (h 13) 121 y3, aI G (h 14) 121 y4, aI G (h 15) 121 y5, aI G (h 16) 121 y6, aI G (h 17) 121 y7, aJ G (h 24) 1 fo]) (c_X5_close l G h q.1 q.2.1 q.2.2 (nI np) (nI n) w5 t5 (xs (nI i + 1).toNatClampNeg)) S hK hW gL_law_X5_close rfl ⟨rfl, rfl⟩ nd_X5_close ⟨rfl, rfl⟩ (qb := 7) (ci := 5) rfl rfl [7] [0, 1, 2, 3, 4, 5, 6, 8, 9, 10, 11, 12, 13, 14, 15, 16, 17, 18, 19, 20, 21, 22, 23, 24] rfl rfl rfl rfl (by decide) rfl hl.1 rfl dL_law_455 hf1 (fun H locs hW => ?_)
      have hW : Wd G A sS.heap [cB h (nI n), cS (h 5) tr, aI G (h 6) 60 mo, aI G (h 7) 60 ki, aI G (h 8) 60 am, aZ G (h 9) 60 sk, aZ G (h 10) 60 dn, aI G (h 19) 60 mo, aI G (h 20) 60 ki, aI G (h 21) 60 am, aZ G (h 22) 60 sk, aZ G (h 23) 60 dn5, cF h (nI np), cP (h 1) q, cS (h 4) v, cH h, aI G (h 11) 121 y1, aI G (h 12) 121 y2, aI G (h 13) 121 y3, aI G (h 14) 121 y4, aI G (h 15) 121 y5, aI G (h 16) 121 y6, aI G (h 17) 121 y7, aJ G (h 24) 1 fo, cM h (q.1, q.2.1, q.2.2, ((F_X5_close (nI np) (xs (nI i + 1).toNatClampNeg)).2.1), (nI n)) w5 ((F_X5_close (nI np) (xs (nI i + 1).toNatClampNeg)).2.2)] H locs := hW
      rw [e5] at hW
      rw [e5]
      have hW : Wd G A sS.heap [cB h (nI n), cS (h 5) tr, aI G (h 6) 60 mo, aI G (h 7) 60 ki, aI G (h 8) 60 am, aZ G (h 9) 60 sk, aZ G (h 10) 60 dn, aI G (h 19) 60 mo, aI G (h 20) 60 ki, aI G (h 21) 60 am, aZ G (h 22) 60 sk, aZ G (h 23) 60 dn5, cF h (nI np), cP (h 1) q, cS (h 4) v, cH h, aI G (h 11) 121 y1, aI G (h 12) 121 y2, aI G (h 13) 121 y3, aI G (h 14) 121 y4, aI G (h 15) 121 y5, aI G (h 16) 121 y6, aI G (h 17) 121 y7, aJ G (h 24) 1 fo, cM h (q.1, q.2.1, q.2.2, (nI np), (nI n)) w5 kk] H locs := hW
      refine lv_istore (lv' := [(6, .int 0), (5, .int kk), (0, .ref b), (1, .ref (h 0)), (2, .ref (h 18)), (3, .ref (h 24)), (4, .int (nI i))]) hx hb dL_law_458 hl (by decide) rfl (fun ls hl => ?_)
      refine lv_aload_n hx hb dL_law_460 rfl (lv_at hl 4 rfl) ?_
      refine k_callVi (C := RX5) (As := []) (rest := []) (wr := [cB h (nI n), cS (h 5) tr, aI G (h 6) 60 mo, aI G (h 7) 60 ki, aI G (h 8) 60 am, aZ G (h 9) 60 sk, aZ G (h 10) 60 dn, aI G (h 19) 60 mo, aI G (h 20) 60 ki, aI G (h 21) 60 am, aZ G (h 22) 60 sk, aZ G (h 23) 60 dn5, cF h (nI np), cP (h 1) q, cS (h 4) v, cH h, aI G (h 11) 121 y1, aI G (h 12) 121 y2, aI G (h 13) 121 y3, aI G (h 14) 121 y4, aI G (h 15) 121 y5, aI G (h 16) 121 y6, aI G (h 17) 121 y7, aJ G (h 24) 1 fo]) (c_X5_thrown l G h q.1 q.2.1 q.2.2 (nI np) (nI n) w5 kk) S hK hW gL_law_X5_thrown rfl ⟨rfl, rfl⟩ nd_X5_thrown ⟨rfl, rfl⟩ (qb := 24) (ci := 5) rfl rfl [24] [0, 1, 2, 3, 4, 5, 6, 7, 8, 9, 10, 11, 12, 13, 14, 15, 16, 17, 18, 19, 20, 21, 22, 23] rfl rfl rfl rfl (by decide) rfl hl.1 rfl dL_law_461 hf1 (fun H locs hW => ?_)
      have hW : Wd G A sS.heap [cB h (nI n), cS (h 5) tr, aI G (h 6) 60 mo, aI G (h 7) 60 ki, aI G (h 8) 60 am, aZ G (h 9) 60 sk, aZ G (h 10) 60 dn, aI G (h 19) 60 mo, aI G (h 20) 60 ki, aI G (h 21) 60 am, aZ G (h 22) 60 sk, aZ G (h 23) 60 dn5, cF h (nI np), cP (h 1) q, cS (h 4) v, cH h, aI G (h 11) 121 y1, aI G (h 12) 121 y2, aI G (h 13) 121 y3, aI G (h 14) 121 y4, aI G (h 15) 121 y5, aI G (h 16) 121 y6, aI G (h 17) 121 y7, aJ G (h 24) 1 fo, cM h (q.1, q.2.1, q.2.2, (nI np), (nI n)) w5 kk] H locs := hW
      refine lv_iload hx hb dL_law_464 (lv_at hl 1 rfl) ?_
      refine lv_icmp_eq (tgt := 471) hx hb dL_law_466 (by decide) (fun c_1 => ?_) (fun c_1 => ?_)
      ·
        refine lv_iload hx hb dL_law_471 (lv_at hl 1 rfl) ?_
        refine lv_if_ne (tgt := 488) hx hb dL_law_473 (by decide) (fun c_2 => ?_) (fun c_2 => ?_)
        ·
          refine lv_goto (tgt := 944) hx hb dL_law_488 (by decide) ?_
          exact K np n q mo ki am sk dn y1 y2 y3 y4 y5 y6 y7 v tr w5 kk dn5 fo I _ _ _ (hW.re [12, 13, 0, 15, 14, 1, 2, 3, 4, 5, 6, 16, 17, 18, 19, 20, 21, 22, 24, 7, 8, 9, 10, 11, 23] rfl rfl) (lv_sub hl [2, 3, 4, 5, 6] rfl)
        ·
          exact absurd c_2 hkk
      ·
        exact (c_1 rfl).elim
    · exact absurd (e4.symm.trans hk) hkk
  ·
    have e4 : (F_X4_close q v y1 y2 y3 y4 y5 y6 y7 (xs (nI i + 1).toNatClampNeg) np) = (0, nI np2, nI np2, v2, z1, z2, z3, z4, z5, z6, z7) := e4
    have e5 : (F_X5_close (nI np) (xs (nI i + 1).toNatClampNeg)) = (nI np2, nI np2, 0) := e5
    refine lv_aload_n hx hb dL_law_435 rfl (lv_at hl 1 rfl) ?_
    refine lv_aload_n hx hb dL_law_436 rfl (lv_at hl 0 rfl) ?_
    refine lv_iload hx hb dL_law_437 (lv_at hl 4 rfl) ?_
    refine lv_iconst (v := 1) hx hb dL_law_439 (by decide) ?_
    refine lv_iadd hx hb dL_law_440 ?_
    refine va_sld hx hb hX hbl hbA hW.2.2.1 (sc1 hi hL) dL_law_441 ?_
    refine lv_aload_n hx hb dL_law_442 rfl (lv_at hl 3 rfl) ?_
    refine ky_callS (As := [.ref (h 0), .int (xs (nI i + 1).toNatClampNeg), .ref (h 24)]) (rest := []) (wr := [cB h (nI n), cS (h 5) tr, aI G (h 6) 60 mo, aI G (h 7) 60 ki, aI G (h 8) 60 am, aZ G (h 9) 60 sk, aZ G (h 10) 60 dn, cM h (q.1, q.2.1, q.2.2, (nI np), (nI n)) w5 t5, aI G (h 19) 60 mo, aI G (h 20) 60 ki, aI G (h 21) 60 am, aZ G (h 22) 60 sk, aZ G (h 23) 60 dn5]) (c_L_close l hst G h q v y1 y2 y3 y4 y5 y6 y7 fo (xs (nI i + 1).toNatClampNeg) np hp) S hK hW hXE hXZ gL_law_L_close rfl ⟨rfl, rfl⟩ nd_L_close ⟨rfl, rfl⟩ [0, 1, 4, 3, 11, 12, 13, 14, 15, 16, 17, 24] [2, 5, 6, 7, 8, 9, 10, 18, 19, 20, 21, 22, 23] rfl rfl rfl rfl (by decide) rfl hl.1 rfl dL_law_443 hf1 (fun H locs hk hW => ?_) (fun H locs hk hW => ?_)
    · exact absurd (show (F_X4_close q v y1 y2 y3 y4 y5 y6 y7 (xs (nI i + 1).toNatClampNeg) np).1 = 0 by rw [e4]) hk
    ·
      rw [hk]
      try rw [e4] at hW
      have hW : Wd G A sS.heap [cB h (nI n), cS (h 5) tr, aI G (h 6) 60 mo, aI G (h 7) 60 ki, aI G (h 8) 60 am, aZ G (h 9) 60 sk, aZ G (h 10) 60 dn, cM h (q.1, q.2.1, q.2.2, (nI np), (nI n)) w5 t5, aI G (h 19) 60 mo, aI G (h 20) 60 ki, aI G (h 21) 60 am, aZ G (h 22) 60 sk, aZ G (h 23) 60 dn5, cF h (nI np2), cP (h 1) q, cS (h 4) v2, cH h, aI G (h 11) 121 z1, aI G (h 12) 121 z2, aI G (h 13) 121 z3, aI G (h 14) 121 z4, aI G (h 15) 121 z5, aI G (h 16) 121 z6, aI G (h 17) 121 z7, aJ G (h 24) 1 (F_L_close q v y1 y2 y3 y4 y5 y6 y7 fo (xs (nI i + 1).toNatClampNeg) np)] H locs := hW
      refine lv_istore (lv' := [(5, .int 0), (0, .ref b), (1, .ref (h 0)), (2, .ref (h 18)), (3, .ref (h 24)), (4, .int (nI i))]) hx hb dL_law_446 hl (by decide) rfl (fun ls hl => ?_)
      refine lv_aload_n hx hb dL_law_448 rfl (lv_at hl 3 rfl) ?_
      refine lv_aload_n hx hb dL_law_449 rfl (lv_at hl 1 rfl) ?_
      refine lv_iload hx hb dL_law_450 (lv_at hl 5 rfl) ?_
      refine lv_iconst (v := 1) hx hb dL_law_452 (by decide) ?_
      refine lv_iadd hx hb dL_law_453 ?_
      refine va_sld hx hb hX hbl hbA hW.2.2.1 (sc1 hi hL) dL_law_454 ?_
      refine k_callVi (C := RX5) (As := [.int (xs (nI i + 1).toNatClampNeg)]) (rest := []) (wr := [cB h (nI n), cS (h 5) tr, aI G (h 6) 60 mo, aI G (h 7) 60 ki, aI G (h 8) 60 am, aZ G (h 9) 60 sk, aZ G (h 10) 60 dn, aI G (h 19) 60 mo, aI G (h 20) 60 ki, aI G (h 21) 60 am, aZ G (h 22) 60 sk, aZ G (h 23) 60 dn5, cF h (nI np2), cP (h 1) q, cS (h 4) v2, cH h, aI G (h 11) 121 z1, aI G (h 12) 121 z2, aI G (h 13) 121 z3, aI G (h 14) 121 z4, aI G (h 15) 121 z5, aI G (h 16) 121 z6, aI G (h 17) 121 z7, aJ G (h 24) 1 (F_L_close q v y1 y2 y3 y4 y5 y6 y7 fo (xs (nI i + 1).toNatClampNeg) np)]) (c_X5_close l G h q.1 q.2.1 q.2.2 (nI np) (nI n) w5 t5 (xs (nI i + 1).toNatClampNeg)) S hK hW gL_law_X5_close rfl ⟨rfl, rfl⟩ nd_X5_close ⟨rfl, rfl⟩ (qb := 7) (ci := 5) rfl rfl [7] [0, 1, 2, 3, 4, 5, 6, 8, 9, 10, 11, 12, 13, 14, 15, 16, 17, 18, 19, 20, 21, 22, 23, 24] rfl rfl rfl rfl (by decide) rfl hl.1 rfl dL_law_455 hf1 (fun H locs hW => ?_)
      have hW : Wd G A sS.heap [cB h (nI n), cS (h 5) tr, aI G (h 6) 60 mo, aI G (h 7) 60 ki, aI G (h 8) 60 am, aZ G (h 9) 60 sk, aZ G (h 10) 60 dn, aI G (h 19) 60 mo, aI G (h 20) 60 ki, aI G (h 21) 60 am, aZ G (h 22) 60 sk, aZ G (h 23) 60 dn5, cF h (nI np2), cP (h 1) q, cS (h 4) v2, cH h, aI G (h 11) 121 z1, aI G (h 12) 121 z2, aI G (h 13) 121 z3, aI G (h 14) 121 z4, aI G (h 15) 121 z5, aI G (h 16) 121 z6, aI G (h 17) 121 z7, aJ G (h 24) 1 (F_L_close q v y1 y2 y3 y4 y5 y6 y7 fo (xs (nI i + 1).toNatClampNeg) np), cM h (q.1, q.2.1, q.2.2, ((F_X5_close (nI np) (xs (nI i + 1).toNatClampNeg)).2.1), (nI n)) w5 ((F_X5_close (nI np) (xs (nI i + 1).toNatClampNeg)).2.2)] H locs := hW
      rw [e5] at hW
      rw [e5]
      have hW : Wd G A sS.heap [cB h (nI n), cS (h 5) tr, aI G (h 6) 60 mo, aI G (h 7) 60 ki, aI G (h 8) 60 am, aZ G (h 9) 60 sk, aZ G (h 10) 60 dn, aI G (h 19) 60 mo, aI G (h 20) 60 ki, aI G (h 21) 60 am, aZ G (h 22) 60 sk, aZ G (h 23) 60 dn5, cF h (nI np2), cP (h 1) q, cS (h 4) v2, cH h, aI G (h 11) 121 z1, aI G (h 12) 121 z2, aI G (h 13) 121 z3, aI G (h 14) 121 z4, aI G (h 15) 121 z5, aI G (h 16) 121 z6, aI G (h 17) 121 z7, aJ G (h 24) 1 (F_L_close q v y1 y2 y3 y4 y5 y6 y7 fo (xs (nI i + 1).toNatClampNeg) np), cM h (q.1, q.2.1, q.2.2, (nI np2), (nI n)) w5 0] H locs := hW
      refine lv_istore (lv' := [(6, .int (nI np2)), (5, .int 0), (0, .ref b), (1, .ref (h 0)), (2, .ref (h 18)), (3, .ref (h 24)), (4, .int (nI i))]) hx hb dL_law_458 hl (by decide) rfl (fun ls hl => ?_)
      refine lv_aload_n hx hb dL_law_460 rfl (lv_at hl 4 rfl) ?_
      refine k_callVi (C := RX5) (As := []) (rest := []) (wr := [cB h (nI n), cS (h 5) tr, aI G (h 6) 60 mo, aI G (h 7) 60 ki, aI G (h 8) 60 am, aZ G (h 9) 60 sk, aZ G (h 10) 60 dn, aI G (h 19) 60 mo, aI G (h 20) 60 ki, aI G (h 21) 60 am, aZ G (h 22) 60 sk, aZ G (h 23) 60 dn5, cF h (nI np2), cP (h 1) q, cS (h 4) v2, cH h, aI G (h 11) 121 z1, aI G (h 12) 121 z2, aI G (h 13) 121 z3, aI G (h 14) 121 z4, aI G (h 15) 121 z5, aI G (h 16) 121 z6, aI G (h 17) 121 z7, aJ G (h 24) 1 (F_L_close q v y1 y2 y3 y4 y5 y6 y7 fo (xs (nI i + 1).toNatClampNeg) np)]) (c_X5_thrown l G h q.1 q.2.1 q.2.2 (nI np2) (nI n) w5 0) S hK hW gL_law_X5_thrown rfl ⟨rfl, rfl⟩ nd_X5_thrown ⟨rfl, rfl⟩ (qb := 24) (ci := 5) rfl rfl [24] [0, 1, 2, 3, 4, 5, 6, 7, 8, 9, 10, 11, 12, 13, 14, 15, 16, 17, 18, 19, 20, 21, 22, 23] rfl rfl rfl rfl (by decide) rfl hl.1 rfl dL_law_461 hf1 (fun H locs hW => ?_)
      have hW : Wd G A sS.heap [cB h (nI n), cS (h 5) tr, aI G (h 6) 60 mo, aI G (h 7) 60 ki, aI G (h 8) 60 am, aZ G (h 9) 60 sk, aZ G (h 10) 60 dn, aI G (h 19) 60 mo, aI G (h 20) 60 ki, aI G (h 21) 60 am, aZ G (h 22) 60 sk, aZ G (h 23) 60 dn5, cF h (nI np2), cP (h 1) q, cS (h 4) v2, cH h, aI G (h 11) 121 z1, aI G (h 12) 121 z2, aI G (h 13) 121 z3, aI G (h 14) 121 z4, aI G (h 15) 121 z5, aI G (h 16) 121 z6, aI G (h 17) 121 z7, aJ G (h 24) 1 (F_L_close q v y1 y2 y3 y4 y5 y6 y7 fo (xs (nI i + 1).toNatClampNeg) np), cM h (q.1, q.2.1, q.2.2, (nI np2), (nI n)) w5 0] H locs := hW
      refine lv_iload hx hb dL_law_464 (lv_at hl 1 rfl) ?_
      refine lv_icmp_eq (tgt := 471) hx hb dL_law_466 (by decide) (fun c_1 => ?_) (fun c_1 => ?_)
      ·
        refine lv_iload hx hb dL_law_471 (lv_at hl 1 rfl) ?_
        refine lv_if_ne (tgt := 488) hx hb dL_law_473 (by decide) (fun c_2 => ?_) (fun c_2 => ?_)
        ·
          exact absurd c_2 (by decide)
        ·
          refine lv_aload_n hx hb dL_law_476 rfl (lv_at hl 5 rfl) ?_
          refine lv_iconst (v := 0) hx hb dL_law_477 (by decide) ?_
          refine k_lald (n := 1) S hK hW 23 rfl (i := 0) vp_01 dL_law_478 ?_
          refine lv_iload hx hb dL_law_479 (lv_at hl 0 rfl) ?_
          refine lv_i2l hx hb dL_law_481 rfl ?_
          refine W.lcmp hx hb dL_law_482 ?_
          refine lv_if_eq (tgt := 488) hx hb dL_law_483 (by decide) (fun c_3 => ?_) (fun c_3 => ?_)
          ·
            refine lv_goto (tgt := 944) hx hb dL_law_488 (by decide) ?_
            exact K np2 n q mo ki am sk dn z1 z2 z3 z4 z5 z6 z7 v2 tr w5 0 dn5 (F_L_close q v y1 y2 y3 y4 y5 y6 y7 fo (xs (nI i + 1).toNatClampNeg) np) I2 _ _ _ (hW.re [12, 13, 0, 15, 14, 1, 2, 3, 4, 5, 6, 16, 17, 18, 19, 20, 21, 22, 24, 7, 8, 9, 10, 11, 23] rfl rfl) (lv_sub hl [2, 3, 4, 5, 6] rfl)
          ·
            have ho : (F_L_close q v y1 y2 y3 y4 y5 y6 y7 fo (xs (nI i + 1).toNatClampNeg) np) (0 : Int32).toNatClampNeg = (nI np2).toInt64 := by
              unfold F_L_close
              rw [e4]
              exact pk_uLs
            exact (c_3 (by rw [ho]; exact lcmp_self _)).elim
      ·
        exact (c_1 rfl).elim
set_option maxHeartbeats 4000000 in
set_option maxRecDepth 100000 in
theorem lc_corridor {pP : Program} {l : Launch} {eE : Env} {sS : State} {mM : MethodId} {args : Array Value} {below : List Frame} {meth : Method} {cC : Code} {Q : State → Prop} {G : GG} {A : Nat → Prop} {h : Nat → Nat} {b L i : Nat} {xs : Nat → Int32} {cells slots : Nat} (X : LWX pP l sS mM args cC G A b L xs) (hi : i + 4 ≤ L) (hc : cells + 1 ≤ room_1.cells) (hs : slots + 6 ≤ room_1.slots) (K : LWP pP l eE sS mM args below meth cC Q G A h b i (cells + 1) (slots + 6)) (np n : Nat) (q : S3) (mo ki am : N32) (sk dn : Nat → Bool) (y1 y2 y3 y4 y5 y6 y7 : N32) (v tr w5 : S7) (t5 : Int32) (dn5 : Nat → Bool) (fo : Nat → Int64) (I : Inv np n q mo ki am sk (dn, y1, y2, y3, y4, y5, y6, y7, v)) (H : Heap) (locs : List Loc) (ls : Array Slot) (hW : Wd G A sS.heap [cF h (nI np), cP (h 1) q, cB h (nI n), cH h, cS (h 4) v, cS (h 5) tr, aI G (h 6) 60 mo, aI G (h 7) 60 ki, aI G (h 8) 60 am, aZ G (h 9) 60 sk, aZ G (h 10) 60 dn, aI G (h 11) 121 y1, aI G (h 12) 121 y2, aI G (h 13) 121 y3, aI G (h 14) 121 y4, aI G (h 15) 121 y5, aI G (h 16) 121 y6, aI G (h 17) 121 y7, cM h (q.1, q.2.1, q.2.2, (nI np), (nI n)) w5 t5, aI G (h 19) 60 mo, aI G (h 20) 60 ki, aI G (h 21) 60 am, aZ G (h 22) 60 sk, aZ G (h 23) 60 dn5, aJ G (h 24) 1 fo] H locs) (hl : lv_has ls 7 [(0, .ref b), (1, .ref (h 0)), (2, .ref (h 18)), (3, .ref (h 24)), (4, .int (nI i))]) :
    W pP l eE room_1 sS mM args below meth cC H locs cells slots Q (F0 mM 608 ls []) := by
  obtain ⟨S, hK, hXE, hXZ, hst, hX, hbl, hbA, hL⟩ := X
  have hx := S.1
  have hb := S.2.1
  have hn := I.1
  have hp := I.2.1
  have hmo := I.hmo
  have hf1 : cells + 1 ≤ room_1.cells ∧ slots + 6 ≤ room_1.slots := ⟨hc, hs⟩
  have hf0 : cells ≤ room_1.cells ∧ slots ≤ room_1.slots := ⟨Nat.le_of_succ_le hc, Nat.le_trans (Nat.le_add_right _ _) hs⟩
  rcases p_corridor (xs (nI i + 1).toNatClampNeg) with ⟨kk, hkk, e4, e5⟩ | ⟨aa, e4, e5⟩
  ·
    have e4 : (F_X4_corridor (xs (nI i + 1).toNatClampNeg)).1 = kk := e4
    have e5 : (F_X5_corridor (xs (nI i + 1).toNatClampNeg)) = (0, kk) := e5
    refine lv_aload_n hx hb dL_law_608 rfl (lv_at hl 1 rfl) ?_
    refine lv_aload_n hx hb dL_law_609 rfl (lv_at hl 0 rfl) ?_
    refine lv_iload hx hb dL_law_610 (lv_at hl 4 rfl) ?_
    refine lv_iconst (v := 1) hx hb dL_law_612 (by decide) ?_
    refine lv_iadd hx hb dL_law_613 ?_
    refine va_sld hx hb hX hbl hbA hW.2.2.1 (sc1 hi hL) dL_law_614 ?_
    refine lv_aload_n hx hb dL_law_615 rfl (lv_at hl 3 rfl) ?_
    refine ky_callS (As := [.ref (h 0), .int (xs (nI i + 1).toNatClampNeg), .ref (h 24)]) (rest := []) (wr := [cB h (nI n), cH h, cS (h 4) v, cS (h 5) tr, aI G (h 6) 60 mo, aI G (h 7) 60 ki, aI G (h 8) 60 am, aZ G (h 9) 60 sk, aZ G (h 10) 60 dn, aI G (h 11) 121 y1, aI G (h 12) 121 y2, aI G (h 13) 121 y3, aI G (h 14) 121 y4, aI G (h 15) 121 y5, aI G (h 16) 121 y6, aI G (h 17) 121 y7, cM h (q.1, q.2.1, q.2.2, (nI np), (nI n)) w5 t5, aI G (h 19) 60 mo, aI G (h 20) 60 ki, aI G (h 21) 60 am, aZ G (h 22) 60 sk, aZ G (h 23) 60 dn5]) (c_L_corridor l hst G h (nI np) q fo (xs (nI i + 1).toNatClampNeg)) S hK hW hXE hXZ gL_law_L_corridor rfl ⟨rfl, rfl⟩ nd_L_corridor ⟨rfl, rfl⟩ [0, 1, 24] [2, 3, 4, 5, 6, 7, 8, 9, 10, 11, 12, 13, 14, 15, 16, 17, 18, 19, 20, 21, 22, 23] rfl rfl rfl rfl (by decide) rfl hl.1 rfl dL_law_616 hf1 (fun H locs hk hW => ?_) (fun H locs hk hW => ?_)
    ·
      have hW : Wd G A sS.heap [cB h (nI n), cH h, cS (h 4) v, cS (h 5) tr, aI G (h 6) 60 mo, aI G (h 7) 60 ki, aI G (h 8) 60 am, aZ G (h 9) 60 sk, aZ G (h 10) 60 dn, aI G (h 11) 121 y1, aI G (h 12) 121 y2, aI G (h 13) 121 y3, aI G (h 14) 121 y4, aI G (h 15) 121 y5, aI G (h 16) 121 y6, aI G (h 17) 121 y7, cM h (q.1, q.2.1, q.2.2, (nI np), (nI n)) w5 t5, aI G (h 19) 60 mo, aI G (h 20) 60 ki, aI G (h 21) 60 am, aZ G (h 22) 60 sk, aZ G (h 23) 60 dn5, cF h (nI np), cP (h 1) q, aJ G (h 24) 1 fo] H locs := hW
      rw [e4]
      refine lv_istore (lv' := [(5, .int kk), (0, .ref b), (1, .ref (h 0)), (2, .ref (h 18)), (3, .ref (h 24)), (4, .int (nI i))]) hx hb dL_law_619 hl (by decide) rfl (fun ls hl => ?_)
      refine lv_aload_n hx hb dL_law_621 rfl (lv_at hl 3 rfl) ?_
      refine lv_aload_n hx hb dL_law_622 rfl (lv_at hl 1 rfl) ?_
      refine lv_iload hx hb dL_law_623 (lv_at hl 5 rfl) ?_
      refine lv_iconst (v := 1) hx hb dL_law_625 (by decide) ?_
      refine lv_iadd hx hb dL_law_626 ?_
      refine va_sld hx hb hX hbl hbA hW.2.2.1 (sc1 hi hL) dL_law_627 ?_
      refine k_callVi (C := RX5) (As := [.int (xs (nI i + 1).toNatClampNeg)]) (rest := []) (wr := [cB h (nI n), cH h, cS (h 4) v, cS (h 5) tr, aI G (h 6) 60 mo, aI G (h 7) 60 ki, aI G (h 8) 60 am, aZ G (h 9) 60 sk, aZ G (h 10) 60 dn, aI G (h 11) 121 y1, aI G (h 12) 121 y2, aI G (h 13) 121 y3, aI G (h 14) 121 y4, aI G (h 15) 121 y5, aI G (h 16) 121 y6, aI G (h 17) 121 y7, aI G (h 19) 60 mo, aI G (h 20) 60 ki, aI G (h 21) 60 am, aZ G (h 22) 60 sk, aZ G (h 23) 60 dn5, cF h (nI np), cP (h 1) q, aJ G (h 24) 1 fo]) (c_X5_corridor l G h q.1 q.2.1 q.2.2 (nI np) (nI n) w5 t5 (xs (nI i + 1).toNatClampNeg)) S hK hW gL_law_X5_corridor rfl ⟨rfl, rfl⟩ nd_X5_corridor ⟨rfl, rfl⟩ (qb := 16) (ci := 5) rfl rfl [16] [0, 1, 2, 3, 4, 5, 6, 7, 8, 9, 10, 11, 12, 13, 14, 15, 17, 18, 19, 20, 21, 22, 23, 24] rfl rfl rfl rfl (by decide) rfl hl.1 rfl dL_law_628 hf1 (fun H locs hW => ?_)
      have hW : Wd G A sS.heap [cB h (nI n), cH h, cS (h 4) v, cS (h 5) tr, aI G (h 6) 60 mo, aI G (h 7) 60 ki, aI G (h 8) 60 am, aZ G (h 9) 60 sk, aZ G (h 10) 60 dn, aI G (h 11) 121 y1, aI G (h 12) 121 y2, aI G (h 13) 121 y3, aI G (h 14) 121 y4, aI G (h 15) 121 y5, aI G (h 16) 121 y6, aI G (h 17) 121 y7, aI G (h 19) 60 mo, aI G (h 20) 60 ki, aI G (h 21) 60 am, aZ G (h 22) 60 sk, aZ G (h 23) 60 dn5, cF h (nI np), cP (h 1) q, aJ G (h 24) 1 fo, cM h (q.1, q.2.1, q.2.2, (nI np), (nI n)) w5 ((F_X5_corridor (xs (nI i + 1).toNatClampNeg)).2)] H locs := hW
      rw [e5] at hW
      rw [e5]
      have hW : Wd G A sS.heap [cB h (nI n), cH h, cS (h 4) v, cS (h 5) tr, aI G (h 6) 60 mo, aI G (h 7) 60 ki, aI G (h 8) 60 am, aZ G (h 9) 60 sk, aZ G (h 10) 60 dn, aI G (h 11) 121 y1, aI G (h 12) 121 y2, aI G (h 13) 121 y3, aI G (h 14) 121 y4, aI G (h 15) 121 y5, aI G (h 16) 121 y6, aI G (h 17) 121 y7, aI G (h 19) 60 mo, aI G (h 20) 60 ki, aI G (h 21) 60 am, aZ G (h 22) 60 sk, aZ G (h 23) 60 dn5, cF h (nI np), cP (h 1) q, aJ G (h 24) 1 fo, cM h (q.1, q.2.1, q.2.2, (nI np), (nI n)) w5 kk] H locs := hW
      refine lv_istore (lv' := [(6, .int 0), (5, .int kk), (0, .ref b), (1, .ref (h 0)), (2, .ref (h 18)), (3, .ref (h 24)), (4, .int (nI i))]) hx hb dL_law_631 hl (by decide) rfl (fun ls hl => ?_)
      refine lv_aload_n hx hb dL_law_633 rfl (lv_at hl 4 rfl) ?_
      refine k_callVi (C := RX5) (As := []) (rest := []) (wr := [cB h (nI n), cH h, cS (h 4) v, cS (h 5) tr, aI G (h 6) 60 mo, aI G (h 7) 60 ki, aI G (h 8) 60 am, aZ G (h 9) 60 sk, aZ G (h 10) 60 dn, aI G (h 11) 121 y1, aI G (h 12) 121 y2, aI G (h 13) 121 y3, aI G (h 14) 121 y4, aI G (h 15) 121 y5, aI G (h 16) 121 y6, aI G (h 17) 121 y7, aI G (h 19) 60 mo, aI G (h 20) 60 ki, aI G (h 21) 60 am, aZ G (h 22) 60 sk, aZ G (h 23) 60 dn5, cF h (nI np), cP (h 1) q, aJ G (h 24) 1 fo]) (c_X5_thrown l G h q.1 q.2.1 q.2.2 (nI np) (nI n) w5 kk) S hK hW gL_law_X5_thrown rfl ⟨rfl, rfl⟩ nd_X5_thrown ⟨rfl, rfl⟩ (qb := 24) (ci := 5) rfl rfl [24] [0, 1, 2, 3, 4, 5, 6, 7, 8, 9, 10, 11, 12, 13, 14, 15, 16, 17, 18, 19, 20, 21, 22, 23] rfl rfl rfl rfl (by decide) rfl hl.1 rfl dL_law_634 hf1 (fun H locs hW => ?_)
      have hW : Wd G A sS.heap [cB h (nI n), cH h, cS (h 4) v, cS (h 5) tr, aI G (h 6) 60 mo, aI G (h 7) 60 ki, aI G (h 8) 60 am, aZ G (h 9) 60 sk, aZ G (h 10) 60 dn, aI G (h 11) 121 y1, aI G (h 12) 121 y2, aI G (h 13) 121 y3, aI G (h 14) 121 y4, aI G (h 15) 121 y5, aI G (h 16) 121 y6, aI G (h 17) 121 y7, aI G (h 19) 60 mo, aI G (h 20) 60 ki, aI G (h 21) 60 am, aZ G (h 22) 60 sk, aZ G (h 23) 60 dn5, cF h (nI np), cP (h 1) q, aJ G (h 24) 1 fo, cM h (q.1, q.2.1, q.2.2, (nI np), (nI n)) w5 kk] H locs := hW
      refine lv_iload hx hb dL_law_637 (lv_at hl 1 rfl) ?_
      refine lv_icmp_eq (tgt := 644) hx hb dL_law_639 (by decide) (fun c_1 => ?_) (fun c_1 => ?_)
      ·
        refine lv_iload hx hb dL_law_644 (lv_at hl 1 rfl) ?_
        refine lv_if_ne (tgt := 661) hx hb dL_law_646 (by decide) (fun c_2 => ?_) (fun c_2 => ?_)
        ·
          refine lv_goto (tgt := 944) hx hb dL_law_661 (by decide) ?_
          exact K np n q mo ki am sk dn y1 y2 y3 y4 y5 y6 y7 v tr w5 kk dn5 fo I _ _ _ (hW.re [21, 22, 0, 1, 2, 3, 4, 5, 6, 7, 8, 9, 10, 11, 12, 13, 14, 15, 24, 16, 17, 18, 19, 20, 23] rfl rfl) (lv_sub hl [2, 3, 4, 5, 6] rfl)
        ·
          exact absurd c_2 hkk
      ·
        exact (c_1 rfl).elim
    · exact absurd (e4.symm.trans hk) hkk
  ·
    have e4 : (F_X4_corridor (xs (nI i + 1).toNatClampNeg)) = (0, aa) := e4
    have e5 : (F_X5_corridor (xs (nI i + 1).toNatClampNeg)) = (aa, 0) := e5
    refine lv_aload_n hx hb dL_law_608 rfl (lv_at hl 1 rfl) ?_
    refine lv_aload_n hx hb dL_law_609 rfl (lv_at hl 0 rfl) ?_
    refine lv_iload hx hb dL_law_610 (lv_at hl 4 rfl) ?_
    refine lv_iconst (v := 1) hx hb dL_law_612 (by decide) ?_
    refine lv_iadd hx hb dL_law_613 ?_
    refine va_sld hx hb hX hbl hbA hW.2.2.1 (sc1 hi hL) dL_law_614 ?_
    refine lv_aload_n hx hb dL_law_615 rfl (lv_at hl 3 rfl) ?_
    refine ky_callS (As := [.ref (h 0), .int (xs (nI i + 1).toNatClampNeg), .ref (h 24)]) (rest := []) (wr := [cB h (nI n), cH h, cS (h 4) v, cS (h 5) tr, aI G (h 6) 60 mo, aI G (h 7) 60 ki, aI G (h 8) 60 am, aZ G (h 9) 60 sk, aZ G (h 10) 60 dn, aI G (h 11) 121 y1, aI G (h 12) 121 y2, aI G (h 13) 121 y3, aI G (h 14) 121 y4, aI G (h 15) 121 y5, aI G (h 16) 121 y6, aI G (h 17) 121 y7, cM h (q.1, q.2.1, q.2.2, (nI np), (nI n)) w5 t5, aI G (h 19) 60 mo, aI G (h 20) 60 ki, aI G (h 21) 60 am, aZ G (h 22) 60 sk, aZ G (h 23) 60 dn5]) (c_L_corridor l hst G h (nI np) q fo (xs (nI i + 1).toNatClampNeg)) S hK hW hXE hXZ gL_law_L_corridor rfl ⟨rfl, rfl⟩ nd_L_corridor ⟨rfl, rfl⟩ [0, 1, 24] [2, 3, 4, 5, 6, 7, 8, 9, 10, 11, 12, 13, 14, 15, 16, 17, 18, 19, 20, 21, 22, 23] rfl rfl rfl rfl (by decide) rfl hl.1 rfl dL_law_616 hf1 (fun H locs hk hW => ?_) (fun H locs hk hW => ?_)
    · exact absurd (show (F_X4_corridor (xs (nI i + 1).toNatClampNeg)).1 = 0 by rw [e4]) hk
    ·
      rw [hk]
      try rw [e4] at hW
      have hW : Wd G A sS.heap [cB h (nI n), cH h, cS (h 4) v, cS (h 5) tr, aI G (h 6) 60 mo, aI G (h 7) 60 ki, aI G (h 8) 60 am, aZ G (h 9) 60 sk, aZ G (h 10) 60 dn, aI G (h 11) 121 y1, aI G (h 12) 121 y2, aI G (h 13) 121 y3, aI G (h 14) 121 y4, aI G (h 15) 121 y5, aI G (h 16) 121 y6, aI G (h 17) 121 y7, cM h (q.1, q.2.1, q.2.2, (nI np), (nI n)) w5 t5, aI G (h 19) 60 mo, aI G (h 20) 60 ki, aI G (h 21) 60 am, aZ G (h 22) 60 sk, aZ G (h 23) 60 dn5, cF h (nI np), cP (h 1) q, aJ G (h 24) 1 (F_L_corridor fo (xs (nI i + 1).toNatClampNeg))] H locs := hW
      refine lv_istore (lv' := [(5, .int 0), (0, .ref b), (1, .ref (h 0)), (2, .ref (h 18)), (3, .ref (h 24)), (4, .int (nI i))]) hx hb dL_law_619 hl (by decide) rfl (fun ls hl => ?_)
      refine lv_aload_n hx hb dL_law_621 rfl (lv_at hl 3 rfl) ?_
      refine lv_aload_n hx hb dL_law_622 rfl (lv_at hl 1 rfl) ?_
      refine lv_iload hx hb dL_law_623 (lv_at hl 5 rfl) ?_
      refine lv_iconst (v := 1) hx hb dL_law_625 (by decide) ?_
      refine lv_iadd hx hb dL_law_626 ?_
      refine va_sld hx hb hX hbl hbA hW.2.2.1 (sc1 hi hL) dL_law_627 ?_
      refine k_callVi (C := RX5) (As := [.int (xs (nI i + 1).toNatClampNeg)]) (rest := []) (wr := [cB h (nI n), cH h, cS (h 4) v, cS (h 5) tr, aI G (h 6) 60 mo, aI G (h 7) 60 ki, aI G (h 8) 60 am, aZ G (h 9) 60 sk, aZ G (h 10) 60 dn, aI G (h 11) 121 y1, aI G (h 12) 121 y2, aI G (h 13) 121 y3, aI G (h 14) 121 y4, aI G (h 15) 121 y5, aI G (h 16) 121 y6, aI G (h 17) 121 y7, aI G (h 19) 60 mo, aI G (h 20) 60 ki, aI G (h 21) 60 am, aZ G (h 22) 60 sk, aZ G (h 23) 60 dn5, cF h (nI np), cP (h 1) q, aJ G (h 24) 1 (F_L_corridor fo (xs (nI i + 1).toNatClampNeg))]) (c_X5_corridor l G h q.1 q.2.1 q.2.2 (nI np) (nI n) w5 t5 (xs (nI i + 1).toNatClampNeg)) S hK hW gL_law_X5_corridor rfl ⟨rfl, rfl⟩ nd_X5_corridor ⟨rfl, rfl⟩ (qb := 16) (ci := 5) rfl rfl [16] [0, 1, 2, 3, 4, 5, 6, 7, 8, 9, 10, 11, 12, 13, 14, 15, 17, 18, 19, 20, 21, 22, 23, 24] rfl rfl rfl rfl (by decide) rfl hl.1 rfl dL_law_628 hf1 (fun H locs hW => ?_)
      have hW : Wd G A sS.heap [cB h (nI n), cH h, cS (h 4) v, cS (h 5) tr, aI G (h 6) 60 mo, aI G (h 7) 60 ki, aI G (h 8) 60 am, aZ G (h 9) 60 sk, aZ G (h 10) 60 dn, aI G (h 11) 121 y1, aI G (h 12) 121 y2, aI G (h 13) 121 y3, aI G (h 14) 121 y4, aI G (h 15) 121 y5, aI G (h 16) 121 y6, aI G (h 17) 121 y7, aI G (h 19) 60 mo, aI G (h 20) 60 ki, aI G (h 21) 60 am, aZ G (h 22) 60 sk, aZ G (h 23) 60 dn5, cF h (nI np), cP (h 1) q, aJ G (h 24) 1 (F_L_corridor fo (xs (nI i + 1).toNatClampNeg)), cM h (q.1, q.2.1, q.2.2, (nI np), (nI n)) w5 ((F_X5_corridor (xs (nI i + 1).toNatClampNeg)).2)] H locs := hW
      rw [e5] at hW
      rw [e5]
      have hW : Wd G A sS.heap [cB h (nI n), cH h, cS (h 4) v, cS (h 5) tr, aI G (h 6) 60 mo, aI G (h 7) 60 ki, aI G (h 8) 60 am, aZ G (h 9) 60 sk, aZ G (h 10) 60 dn, aI G (h 11) 121 y1, aI G (h 12) 121 y2, aI G (h 13) 121 y3, aI G (h 14) 121 y4, aI G (h 15) 121 y5, aI G (h 16) 121 y6, aI G (h 17) 121 y7, aI G (h 19) 60 mo, aI G (h 20) 60 ki, aI G (h 21) 60 am, aZ G (h 22) 60 sk, aZ G (h 23) 60 dn5, cF h (nI np), cP (h 1) q, aJ G (h 24) 1 (F_L_corridor fo (xs (nI i + 1).toNatClampNeg)), cM h (q.1, q.2.1, q.2.2, (nI np), (nI n)) w5 0] H locs := hW
      refine lv_istore (lv' := [(6, .int aa), (5, .int 0), (0, .ref b), (1, .ref (h 0)), (2, .ref (h 18)), (3, .ref (h 24)), (4, .int (nI i))]) hx hb dL_law_631 hl (by decide) rfl (fun ls hl => ?_)
      refine lv_aload_n hx hb dL_law_633 rfl (lv_at hl 4 rfl) ?_
      refine k_callVi (C := RX5) (As := []) (rest := []) (wr := [cB h (nI n), cH h, cS (h 4) v, cS (h 5) tr, aI G (h 6) 60 mo, aI G (h 7) 60 ki, aI G (h 8) 60 am, aZ G (h 9) 60 sk, aZ G (h 10) 60 dn, aI G (h 11) 121 y1, aI G (h 12) 121 y2, aI G (h 13) 121 y3, aI G (h 14) 121 y4, aI G (h 15) 121 y5, aI G (h 16) 121 y6, aI G (h 17) 121 y7, aI G (h 19) 60 mo, aI G (h 20) 60 ki, aI G (h 21) 60 am, aZ G (h 22) 60 sk, aZ G (h 23) 60 dn5, cF h (nI np), cP (h 1) q, aJ G (h 24) 1 (F_L_corridor fo (xs (nI i + 1).toNatClampNeg))]) (c_X5_thrown l G h q.1 q.2.1 q.2.2 (nI np) (nI n) w5 0) S hK hW gL_law_X5_thrown rfl ⟨rfl, rfl⟩ nd_X5_thrown ⟨rfl, rfl⟩ (qb := 24) (ci := 5) rfl rfl [24] [0, 1, 2, 3, 4, 5, 6, 7, 8, 9, 10, 11, 12, 13, 14, 15, 16, 17, 18, 19, 20, 21, 22, 23] rfl rfl rfl rfl (by decide) rfl hl.1 rfl dL_law_634 hf1 (fun H locs hW => ?_)
      have hW : Wd G A sS.heap [cB h (nI n), cH h, cS (h 4) v, cS (h 5) tr, aI G (h 6) 60 mo, aI G (h 7) 60 ki, aI G (h 8) 60 am, aZ G (h 9) 60 sk, aZ G (h 10) 60 dn, aI G (h 11) 121 y1, aI G (h 12) 121 y2, aI G (h 13) 121 y3, aI G (h 14) 121 y4, aI G (h 15) 121 y5, aI G (h 16) 121 y6, aI G (h 17) 121 y7, aI G (h 19) 60 mo, aI G (h 20) 60 ki, aI G (h 21) 60 am, aZ G (h 22) 60 sk, aZ G (h 23) 60 dn5, cF h (nI np), cP (h 1) q, aJ G (h 24) 1 (F_L_corridor fo (xs (nI i + 1).toNatClampNeg)), cM h (q.1, q.2.1, q.2.2, (nI np), (nI n)) w5 0] H locs := hW
      refine lv_iload hx hb dL_law_637 (lv_at hl 1 rfl) ?_
      refine lv_icmp_eq (tgt := 644) hx hb dL_law_639 (by decide) (fun c_1 => ?_) (fun c_1 => ?_)
      ·
        refine lv_iload hx hb dL_law_644 (lv_at hl 1 rfl) ?_
        refine lv_if_ne (tgt := 661) hx hb dL_law_646 (by decide) (fun c_2 => ?_) (fun c_2 => ?_)
        ·
          exact absurd c_2 (by decide)
        ·
          refine lv_aload_n hx hb dL_law_649 rfl (lv_at hl 5 rfl) ?_
          refine lv_iconst (v := 0) hx hb dL_law_650 (by decide) ?_
          refine k_lald (n := 1) S hK hW 23 rfl (i := 0) vp_01 dL_law_651 ?_
          refine lv_iload hx hb dL_law_652 (lv_at hl 0 rfl) ?_
          refine lv_i2l hx hb dL_law_654 rfl ?_
          refine W.lcmp hx hb dL_law_655 ?_
          refine lv_if_eq (tgt := 661) hx hb dL_law_656 (by decide) (fun c_3 => ?_) (fun c_3 => ?_)
          ·
            refine lv_goto (tgt := 944) hx hb dL_law_661 (by decide) ?_
            exact K np n q mo ki am sk dn y1 y2 y3 y4 y5 y6 y7 v tr w5 0 dn5 (F_L_corridor fo (xs (nI i + 1).toNatClampNeg)) I _ _ _ (hW.re [21, 22, 0, 1, 2, 3, 4, 5, 6, 7, 8, 9, 10, 11, 12, 13, 14, 15, 24, 16, 17, 18, 19, 20, 23] rfl rfl) (lv_sub hl [2, 3, 4, 5, 6] rfl)
          ·
            have ho : (F_L_corridor fo (xs (nI i + 1).toNatClampNeg)) (0 : Int32).toNatClampNeg = aa.toInt64 := by
              unfold F_L_corridor
              rw [e4]
              exact pk_uLs
            exact (c_3 (by rw [ho]; exact lcmp_self _)).elim
      ·
        exact (c_1 rfl).elim
set_option maxHeartbeats 4000000 in
set_option maxRecDepth 100000 in
theorem lc_accountAt {pP : Program} {l : Launch} {eE : Env} {sS : State} {mM : MethodId} {args : Array Value} {below : List Frame} {meth : Method} {cC : Code} {Q : State → Prop} {G : GG} {A : Nat → Prop} {h : Nat → Nat} {b L i : Nat} {xs : Nat → Int32} {cells slots : Nat} (X : LWX pP l sS mM args cC G A b L xs) (hi : i + 4 ≤ L) (hc : cells + 1 ≤ room_1.cells) (hs : slots + 6 ≤ room_1.slots) (K : LWP pP l eE sS mM args below meth cC Q G A h b i (cells + 1) (slots + 6)) (np n : Nat) (q : S3) (mo ki am : N32) (sk dn : Nat → Bool) (y1 y2 y3 y4 y5 y6 y7 : N32) (v tr w5 : S7) (t5 : Int32) (dn5 : Nat → Bool) (fo : Nat → Int64) (I : Inv np n q mo ki am sk (dn, y1, y2, y3, y4, y5, y6, y7, v)) (H : Heap) (locs : List Loc) (ls : Array Slot) (hW : Wd G A sS.heap [cF h (nI np), cP (h 1) q, cB h (nI n), cH h, cS (h 4) v, cS (h 5) tr, aI G (h 6) 60 mo, aI G (h 7) 60 ki, aI G (h 8) 60 am, aZ G (h 9) 60 sk, aZ G (h 10) 60 dn, aI G (h 11) 121 y1, aI G (h 12) 121 y2, aI G (h 13) 121 y3, aI G (h 14) 121 y4, aI G (h 15) 121 y5, aI G (h 16) 121 y6, aI G (h 17) 121 y7, cM h (q.1, q.2.1, q.2.2, (nI np), (nI n)) w5 t5, aI G (h 19) 60 mo, aI G (h 20) 60 ki, aI G (h 21) 60 am, aZ G (h 22) 60 sk, aZ G (h 23) 60 dn5, aJ G (h 24) 1 fo] H locs) (hl : lv_has ls 7 [(0, .ref b), (1, .ref (h 0)), (2, .ref (h 18)), (3, .ref (h 24)), (4, .int (nI i))]) :
    W pP l eE room_1 sS mM args below meth cC H locs cells slots Q (F0 mM 664 ls []) := by
  obtain ⟨S, hK, hXE, hXZ, hst, hX, hbl, hbA, hL⟩ := X
  have hx := S.1
  have hb := S.2.1
  have hn := I.1
  have hp := I.2.1
  have hmo := I.hmo
  have hf1 : cells + 1 ≤ room_1.cells ∧ slots + 6 ≤ room_1.slots := ⟨hc, hs⟩
  have hf0 : cells ≤ room_1.cells ∧ slots ≤ room_1.slots := ⟨Nat.le_of_succ_le hc, Nat.le_trans (Nat.le_add_right _ _) hs⟩
  rcases p_accountAt I tr w5 dn5 (xs (nI i + 1).toNatClampNeg) with ⟨kk, w2, dn6, hkk, e4, e5⟩ | ⟨aa, tr2, w2, dn6, e4, e5⟩
  ·
    have e4 : (F_X4_accountAt (nI np) y1 y2 y3 y4 y5 y6 y7 tr (xs (nI i + 1).toNatClampNeg)).1 = kk := e4
    have e5 : (F_X5_accountAt q.1 q.2.1 q.2.2 w5 mo ki am sk dn5 (xs (nI i + 1).toNatClampNeg) np n) = (0, w2, kk, dn6) := e5
    refine lv_aload_n hx hb dL_law_664 rfl (lv_at hl 1 rfl) ?_
    refine lv_aload_n hx hb dL_law_665 rfl (lv_at hl 0 rfl) ?_
    refine lv_iload hx hb dL_law_666 (lv_at hl 4 rfl) ?_
    refine lv_iconst (v := 1) hx hb dL_law_668 (by decide) ?_
    refine lv_iadd hx hb dL_law_669 ?_
    refine va_sld hx hb hX hbl hbA hW.2.2.1 (sc1 hi hL) dL_law_670 ?_
    refine lv_aload_n hx hb dL_law_671 rfl (lv_at hl 3 rfl) ?_
    refine ky_callS (As := [.ref (h 0), .int (xs (nI i + 1).toNatClampNeg), .ref (h 24)]) (rest := []) (wr := [cP (h 1) q, cB h (nI n), cS (h 4) v, aI G (h 6) 60 mo, aI G (h 7) 60 ki, aI G (h 8) 60 am, aZ G (h 9) 60 sk, aZ G (h 10) 60 dn, cM h (q.1, q.2.1, q.2.2, (nI np), (nI n)) w5 t5, aI G (h 19) 60 mo, aI G (h 20) 60 ki, aI G (h 21) 60 am, aZ G (h 22) 60 sk, aZ G (h 23) 60 dn5]) (c_L_accountAt l hst G h (nI np) y1 y2 y3 y4 y5 y6 y7 tr fo (xs (nI i + 1).toNatClampNeg)) S hK hW hXE hXZ gL_law_L_accountAt rfl ⟨rfl, rfl⟩ nd_L_accountAt ⟨rfl, rfl⟩ [0, 3, 11, 12, 13, 14, 15, 16, 17, 5, 24] [1, 2, 4, 6, 7, 8, 9, 10, 18, 19, 20, 21, 22, 23] rfl rfl rfl rfl (by decide) rfl hl.1 rfl dL_law_672 hf1 (fun H locs hk hW => ?_) (fun H locs hk hW => ?_)
    ·
      have hW : Wd G A sS.heap [cP (h 1) q, cB h (nI n), cS (h 4) v, aI G (h 6) 60 mo, aI G (h 7) 60 ki, aI G (h 8) 60 am, aZ G (h 9) 60 sk, aZ G (h 10) 60 dn, cM h (q.1, q.2.1, q.2.2, (nI np), (nI n)) w5 t5, aI G (h 19) 60 mo, aI G (h 20) 60 ki, aI G (h 21) 60 am, aZ G (h 22) 60 sk, aZ G (h 23) 60 dn5, cF h (nI np), cH h, aI G (h 11) 121 y1, aI G (h 12) 121 y2, aI G (h 13) 121 y3, aI G (h 14) 121 y4, aI G (h 15) 121 y5, aI G (h 16) 121 y6, aI G (h 17) 121 y7, cS (h 5) tr, aJ G (h 24) 1 fo] H locs := hW
      rw [e4]
      refine lv_istore (lv' := [(5, .int kk), (0, .ref b), (1, .ref (h 0)), (2, .ref (h 18)), (3, .ref (h 24)), (4, .int (nI i))]) hx hb dL_law_675 hl (by decide) rfl (fun ls hl => ?_)
      refine lv_aload_n hx hb dL_law_677 rfl (lv_at hl 3 rfl) ?_
      refine lv_aload_n hx hb dL_law_678 rfl (lv_at hl 1 rfl) ?_
      refine lv_iload hx hb dL_law_679 (lv_at hl 5 rfl) ?_
      refine lv_iconst (v := 1) hx hb dL_law_681 (by decide) ?_
      refine lv_iadd hx hb dL_law_682 ?_
      refine va_sld hx hb hX hbl hbA hW.2.2.1 (sc1 hi hL) dL_law_683 ?_
      refine k_callVi (C := RX5) (As := [.int (xs (nI i + 1).toNatClampNeg)]) (rest := []) (wr := [cP (h 1) q, cB h (nI n), cS (h 4) v, aI G (h 6) 60 mo, aI G (h 7) 60 ki, aI G (h 8) 60 am, aZ G (h 9) 60 sk, aZ G (h 10) 60 dn, cF h (nI np), cH h, aI G (h 11) 121 y1, aI G (h 12) 121 y2, aI G (h 13) 121 y3, aI G (h 14) 121 y4, aI G (h 15) 121 y5, aI G (h 16) 121 y6, aI G (h 17) 121 y7, cS (h 5) tr, aJ G (h 24) 1 fo]) (c_X5_accountAt l G h q.1 q.2.1 q.2.2 w5 t5 mo ki am sk dn5 (xs (nI i + 1).toNatClampNeg) np n (by omega) (by omega)) S hK hW gL_law_X5_accountAt rfl ⟨rfl, rfl⟩ nd_X5_accountAt ⟨rfl, rfl⟩ (qb := 8) (ci := 5) rfl rfl [8, 9, 10, 11, 12, 13] [0, 1, 2, 3, 4, 5, 6, 7, 14, 15, 16, 17, 18, 19, 20, 21, 22, 23, 24] rfl rfl rfl rfl (by decide) rfl hl.1 rfl dL_law_684 hf1 (fun H locs hW => ?_)
      have hW : Wd G A sS.heap [cP (h 1) q, cB h (nI n), cS (h 4) v, aI G (h 6) 60 mo, aI G (h 7) 60 ki, aI G (h 8) 60 am, aZ G (h 9) 60 sk, aZ G (h 10) 60 dn, cF h (nI np), cH h, aI G (h 11) 121 y1, aI G (h 12) 121 y2, aI G (h 13) 121 y3, aI G (h 14) 121 y4, aI G (h 15) 121 y5, aI G (h 16) 121 y6, aI G (h 17) 121 y7, cS (h 5) tr, aJ G (h 24) 1 fo, cM h (q.1, q.2.1, q.2.2, (nI np), (nI n)) ((F_X5_accountAt q.1 q.2.1 q.2.2 w5 mo ki am sk dn5 (xs (nI i + 1).toNatClampNeg) np n).2.1) ((F_X5_accountAt q.1 q.2.1 q.2.2 w5 mo ki am sk dn5 (xs (nI i + 1).toNatClampNeg) np n).2.2.1), aI G (h 19) 60 mo, aI G (h 20) 60 ki, aI G (h 21) 60 am, aZ G (h 22) 60 sk, aZ G (h 23) 60 ((F_X5_accountAt q.1 q.2.1 q.2.2 w5 mo ki am sk dn5 (xs (nI i + 1).toNatClampNeg) np n).2.2.2)] H locs := hW
      rw [e5] at hW
      rw [e5]
      have hW : Wd G A sS.heap [cP (h 1) q, cB h (nI n), cS (h 4) v, aI G (h 6) 60 mo, aI G (h 7) 60 ki, aI G (h 8) 60 am, aZ G (h 9) 60 sk, aZ G (h 10) 60 dn, cF h (nI np), cH h, aI G (h 11) 121 y1, aI G (h 12) 121 y2, aI G (h 13) 121 y3, aI G (h 14) 121 y4, aI G (h 15) 121 y5, aI G (h 16) 121 y6, aI G (h 17) 121 y7, cS (h 5) tr, aJ G (h 24) 1 fo, cM h (q.1, q.2.1, q.2.2, (nI np), (nI n)) w2 kk, aI G (h 19) 60 mo, aI G (h 20) 60 ki, aI G (h 21) 60 am, aZ G (h 22) 60 sk, aZ G (h 23) 60 dn6] H locs := hW
      refine lv_istore (lv' := [(6, .int 0), (5, .int kk), (0, .ref b), (1, .ref (h 0)), (2, .ref (h 18)), (3, .ref (h 24)), (4, .int (nI i))]) hx hb dL_law_687 hl (by decide) rfl (fun ls hl => ?_)
      refine lv_aload_n hx hb dL_law_689 rfl (lv_at hl 4 rfl) ?_
      refine k_callVi (C := RX5) (As := []) (rest := []) (wr := [cP (h 1) q, cB h (nI n), cS (h 4) v, aI G (h 6) 60 mo, aI G (h 7) 60 ki, aI G (h 8) 60 am, aZ G (h 9) 60 sk, aZ G (h 10) 60 dn, cF h (nI np), cH h, aI G (h 11) 121 y1, aI G (h 12) 121 y2, aI G (h 13) 121 y3, aI G (h 14) 121 y4, aI G (h 15) 121 y5, aI G (h 16) 121 y6, aI G (h 17) 121 y7, cS (h 5) tr, aJ G (h 24) 1 fo, aI G (h 19) 60 mo, aI G (h 20) 60 ki, aI G (h 21) 60 am, aZ G (h 22) 60 sk, aZ G (h 23) 60 dn6]) (c_X5_thrown l G h q.1 q.2.1 q.2.2 (nI np) (nI n) w2 kk) S hK hW gL_law_X5_thrown rfl ⟨rfl, rfl⟩ nd_X5_thrown ⟨rfl, rfl⟩ (qb := 19) (ci := 5) rfl rfl [19] [0, 1, 2, 3, 4, 5, 6, 7, 8, 9, 10, 11, 12, 13, 14, 15, 16, 17, 18, 20, 21, 22, 23, 24] rfl rfl rfl rfl (by decide) rfl hl.1 rfl dL_law_690 hf1 (fun H locs hW => ?_)
      have hW : Wd G A sS.heap [cP (h 1) q, cB h (nI n), cS (h 4) v, aI G (h 6) 60 mo, aI G (h 7) 60 ki, aI G (h 8) 60 am, aZ G (h 9) 60 sk, aZ G (h 10) 60 dn, cF h (nI np), cH h, aI G (h 11) 121 y1, aI G (h 12) 121 y2, aI G (h 13) 121 y3, aI G (h 14) 121 y4, aI G (h 15) 121 y5, aI G (h 16) 121 y6, aI G (h 17) 121 y7, cS (h 5) tr, aJ G (h 24) 1 fo, aI G (h 19) 60 mo, aI G (h 20) 60 ki, aI G (h 21) 60 am, aZ G (h 22) 60 sk, aZ G (h 23) 60 dn6, cM h (q.1, q.2.1, q.2.2, (nI np), (nI n)) w2 kk] H locs := hW
      refine lv_iload hx hb dL_law_693 (lv_at hl 1 rfl) ?_
      refine lv_icmp_eq (tgt := 700) hx hb dL_law_695 (by decide) (fun c_1 => ?_) (fun c_1 => ?_)
      ·
        refine lv_iload hx hb dL_law_700 (lv_at hl 1 rfl) ?_
        refine lv_if_ne (tgt := 717) hx hb dL_law_702 (by decide) (fun c_2 => ?_) (fun c_2 => ?_)
        ·
          refine lv_goto (tgt := 944) hx hb dL_law_717 (by decide) ?_
          exact K np n q mo ki am sk dn y1 y2 y3 y4 y5 y6 y7 v tr w2 kk dn6 fo I _ _ _ (hW.re [8, 0, 1, 9, 2, 17, 3, 4, 5, 6, 7, 10, 11, 12, 13, 14, 15, 16, 24, 19, 20, 21, 22, 23, 18] rfl rfl) (lv_sub hl [2, 3, 4, 5, 6] rfl)
        ·
          exact absurd c_2 hkk
      ·
        exact (c_1 rfl).elim
    · exact absurd (e4.symm.trans hk) hkk
  ·
    have e4 : (F_X4_accountAt (nI np) y1 y2 y3 y4 y5 y6 y7 tr (xs (nI i + 1).toNatClampNeg)) = (0, aa, tr2) := e4
    have e5 : (F_X5_accountAt q.1 q.2.1 q.2.2 w5 mo ki am sk dn5 (xs (nI i + 1).toNatClampNeg) np n) = (aa, w2, 0, dn6) := e5
    refine lv_aload_n hx hb dL_law_664 rfl (lv_at hl 1 rfl) ?_
    refine lv_aload_n hx hb dL_law_665 rfl (lv_at hl 0 rfl) ?_
    refine lv_iload hx hb dL_law_666 (lv_at hl 4 rfl) ?_
    refine lv_iconst (v := 1) hx hb dL_law_668 (by decide) ?_
    refine lv_iadd hx hb dL_law_669 ?_
    refine va_sld hx hb hX hbl hbA hW.2.2.1 (sc1 hi hL) dL_law_670 ?_
    refine lv_aload_n hx hb dL_law_671 rfl (lv_at hl 3 rfl) ?_
    refine ky_callS (As := [.ref (h 0), .int (xs (nI i + 1).toNatClampNeg), .ref (h 24)]) (rest := []) (wr := [cP (h 1) q, cB h (nI n), cS (h 4) v, aI G (h 6) 60 mo, aI G (h 7) 60 ki, aI G (h 8) 60 am, aZ G (h 9) 60 sk, aZ G (h 10) 60 dn, cM h (q.1, q.2.1, q.2.2, (nI np), (nI n)) w5 t5, aI G (h 19) 60 mo, aI G (h 20) 60 ki, aI G (h 21) 60 am, aZ G (h 22) 60 sk, aZ G (h 23) 60 dn5]) (c_L_accountAt l hst G h (nI np) y1 y2 y3 y4 y5 y6 y7 tr fo (xs (nI i + 1).toNatClampNeg)) S hK hW hXE hXZ gL_law_L_accountAt rfl ⟨rfl, rfl⟩ nd_L_accountAt ⟨rfl, rfl⟩ [0, 3, 11, 12, 13, 14, 15, 16, 17, 5, 24] [1, 2, 4, 6, 7, 8, 9, 10, 18, 19, 20, 21, 22, 23] rfl rfl rfl rfl (by decide) rfl hl.1 rfl dL_law_672 hf1 (fun H locs hk hW => ?_) (fun H locs hk hW => ?_)
    · exact absurd (show (F_X4_accountAt (nI np) y1 y2 y3 y4 y5 y6 y7 tr (xs (nI i + 1).toNatClampNeg)).1 = 0 by rw [e4]) hk
    ·
      rw [hk]
      try rw [e4] at hW
      have hW : Wd G A sS.heap [cP (h 1) q, cB h (nI n), cS (h 4) v, aI G (h 6) 60 mo, aI G (h 7) 60 ki, aI G (h 8) 60 am, aZ G (h 9) 60 sk, aZ G (h 10) 60 dn, cM h (q.1, q.2.1, q.2.2, (nI np), (nI n)) w5 t5, aI G (h 19) 60 mo, aI G (h 20) 60 ki, aI G (h 21) 60 am, aZ G (h 22) 60 sk, aZ G (h 23) 60 dn5, cF h (nI np), cH h, aI G (h 11) 121 y1, aI G (h 12) 121 y2, aI G (h 13) 121 y3, aI G (h 14) 121 y4, aI G (h 15) 121 y5, aI G (h 16) 121 y6, aI G (h 17) 121 y7, cS (h 5) tr2, aJ G (h 24) 1 (F_L_accountAt (nI np) y1 y2 y3 y4 y5 y6 y7 tr fo (xs (nI i + 1).toNatClampNeg))] H locs := hW
      refine lv_istore (lv' := [(5, .int 0), (0, .ref b), (1, .ref (h 0)), (2, .ref (h 18)), (3, .ref (h 24)), (4, .int (nI i))]) hx hb dL_law_675 hl (by decide) rfl (fun ls hl => ?_)
      refine lv_aload_n hx hb dL_law_677 rfl (lv_at hl 3 rfl) ?_
      refine lv_aload_n hx hb dL_law_678 rfl (lv_at hl 1 rfl) ?_
      refine lv_iload hx hb dL_law_679 (lv_at hl 5 rfl) ?_
      refine lv_iconst (v := 1) hx hb dL_law_681 (by decide) ?_
      refine lv_iadd hx hb dL_law_682 ?_
      refine va_sld hx hb hX hbl hbA hW.2.2.1 (sc1 hi hL) dL_law_683 ?_
      refine k_callVi (C := RX5) (As := [.int (xs (nI i + 1).toNatClampNeg)]) (rest := []) (wr := [cP (h 1) q, cB h (nI n), cS (h 4) v, aI G (h 6) 60 mo, aI G (h 7) 60 ki, aI G (h 8) 60 am, aZ G (h 9) 60 sk, aZ G (h 10) 60 dn, cF h (nI np), cH h, aI G (h 11) 121 y1, aI G (h 12) 121 y2, aI G (h 13) 121 y3, aI G (h 14) 121 y4, aI G (h 15) 121 y5, aI G (h 16) 121 y6, aI G (h 17) 121 y7, cS (h 5) tr2, aJ G (h 24) 1 (F_L_accountAt (nI np) y1 y2 y3 y4 y5 y6 y7 tr fo (xs (nI i + 1).toNatClampNeg))]) (c_X5_accountAt l G h q.1 q.2.1 q.2.2 w5 t5 mo ki am sk dn5 (xs (nI i + 1).toNatClampNeg) np n (by omega) (by omega)) S hK hW gL_law_X5_accountAt rfl ⟨rfl, rfl⟩ nd_X5_accountAt ⟨rfl, rfl⟩ (qb := 8) (ci := 5) rfl rfl [8, 9, 10, 11, 12, 13] [0, 1, 2, 3, 4, 5, 6, 7, 14, 15, 16, 17, 18, 19, 20, 21, 22, 23, 24] rfl rfl rfl rfl (by decide) rfl hl.1 rfl dL_law_684 hf1 (fun H locs hW => ?_)
      have hW : Wd G A sS.heap [cP (h 1) q, cB h (nI n), cS (h 4) v, aI G (h 6) 60 mo, aI G (h 7) 60 ki, aI G (h 8) 60 am, aZ G (h 9) 60 sk, aZ G (h 10) 60 dn, cF h (nI np), cH h, aI G (h 11) 121 y1, aI G (h 12) 121 y2, aI G (h 13) 121 y3, aI G (h 14) 121 y4, aI G (h 15) 121 y5, aI G (h 16) 121 y6, aI G (h 17) 121 y7, cS (h 5) tr2, aJ G (h 24) 1 (F_L_accountAt (nI np) y1 y2 y3 y4 y5 y6 y7 tr fo (xs (nI i + 1).toNatClampNeg)), cM h (q.1, q.2.1, q.2.2, (nI np), (nI n)) ((F_X5_accountAt q.1 q.2.1 q.2.2 w5 mo ki am sk dn5 (xs (nI i + 1).toNatClampNeg) np n).2.1) ((F_X5_accountAt q.1 q.2.1 q.2.2 w5 mo ki am sk dn5 (xs (nI i + 1).toNatClampNeg) np n).2.2.1), aI G (h 19) 60 mo, aI G (h 20) 60 ki, aI G (h 21) 60 am, aZ G (h 22) 60 sk, aZ G (h 23) 60 ((F_X5_accountAt q.1 q.2.1 q.2.2 w5 mo ki am sk dn5 (xs (nI i + 1).toNatClampNeg) np n).2.2.2)] H locs := hW
      rw [e5] at hW
      rw [e5]
      have hW : Wd G A sS.heap [cP (h 1) q, cB h (nI n), cS (h 4) v, aI G (h 6) 60 mo, aI G (h 7) 60 ki, aI G (h 8) 60 am, aZ G (h 9) 60 sk, aZ G (h 10) 60 dn, cF h (nI np), cH h, aI G (h 11) 121 y1, aI G (h 12) 121 y2, aI G (h 13) 121 y3, aI G (h 14) 121 y4, aI G (h 15) 121 y5, aI G (h 16) 121 y6, aI G (h 17) 121 y7, cS (h 5) tr2, aJ G (h 24) 1 (F_L_accountAt (nI np) y1 y2 y3 y4 y5 y6 y7 tr fo (xs (nI i + 1).toNatClampNeg)), cM h (q.1, q.2.1, q.2.2, (nI np), (nI n)) w2 0, aI G (h 19) 60 mo, aI G (h 20) 60 ki, aI G (h 21) 60 am, aZ G (h 22) 60 sk, aZ G (h 23) 60 dn6] H locs := hW
      refine lv_istore (lv' := [(6, .int aa), (5, .int 0), (0, .ref b), (1, .ref (h 0)), (2, .ref (h 18)), (3, .ref (h 24)), (4, .int (nI i))]) hx hb dL_law_687 hl (by decide) rfl (fun ls hl => ?_)
      refine lv_aload_n hx hb dL_law_689 rfl (lv_at hl 4 rfl) ?_
      refine k_callVi (C := RX5) (As := []) (rest := []) (wr := [cP (h 1) q, cB h (nI n), cS (h 4) v, aI G (h 6) 60 mo, aI G (h 7) 60 ki, aI G (h 8) 60 am, aZ G (h 9) 60 sk, aZ G (h 10) 60 dn, cF h (nI np), cH h, aI G (h 11) 121 y1, aI G (h 12) 121 y2, aI G (h 13) 121 y3, aI G (h 14) 121 y4, aI G (h 15) 121 y5, aI G (h 16) 121 y6, aI G (h 17) 121 y7, cS (h 5) tr2, aJ G (h 24) 1 (F_L_accountAt (nI np) y1 y2 y3 y4 y5 y6 y7 tr fo (xs (nI i + 1).toNatClampNeg)), aI G (h 19) 60 mo, aI G (h 20) 60 ki, aI G (h 21) 60 am, aZ G (h 22) 60 sk, aZ G (h 23) 60 dn6]) (c_X5_thrown l G h q.1 q.2.1 q.2.2 (nI np) (nI n) w2 0) S hK hW gL_law_X5_thrown rfl ⟨rfl, rfl⟩ nd_X5_thrown ⟨rfl, rfl⟩ (qb := 19) (ci := 5) rfl rfl [19] [0, 1, 2, 3, 4, 5, 6, 7, 8, 9, 10, 11, 12, 13, 14, 15, 16, 17, 18, 20, 21, 22, 23, 24] rfl rfl rfl rfl (by decide) rfl hl.1 rfl dL_law_690 hf1 (fun H locs hW => ?_)
      have hW : Wd G A sS.heap [cP (h 1) q, cB h (nI n), cS (h 4) v, aI G (h 6) 60 mo, aI G (h 7) 60 ki, aI G (h 8) 60 am, aZ G (h 9) 60 sk, aZ G (h 10) 60 dn, cF h (nI np), cH h, aI G (h 11) 121 y1, aI G (h 12) 121 y2, aI G (h 13) 121 y3, aI G (h 14) 121 y4, aI G (h 15) 121 y5, aI G (h 16) 121 y6, aI G (h 17) 121 y7, cS (h 5) tr2, aJ G (h 24) 1 (F_L_accountAt (nI np) y1 y2 y3 y4 y5 y6 y7 tr fo (xs (nI i + 1).toNatClampNeg)), aI G (h 19) 60 mo, aI G (h 20) 60 ki, aI G (h 21) 60 am, aZ G (h 22) 60 sk, aZ G (h 23) 60 dn6, cM h (q.1, q.2.1, q.2.2, (nI np), (nI n)) w2 0] H locs := hW
      refine lv_iload hx hb dL_law_693 (lv_at hl 1 rfl) ?_
      refine lv_icmp_eq (tgt := 700) hx hb dL_law_695 (by decide) (fun c_1 => ?_) (fun c_1 => ?_)
      ·
        refine lv_iload hx hb dL_law_700 (lv_at hl 1 rfl) ?_
        refine lv_if_ne (tgt := 717) hx hb dL_law_702 (by decide) (fun c_2 => ?_) (fun c_2 => ?_)
        ·
          exact absurd c_2 (by decide)
        ·
          refine lv_aload_n hx hb dL_law_705 rfl (lv_at hl 5 rfl) ?_
          refine lv_iconst (v := 0) hx hb dL_law_706 (by decide) ?_
          refine k_lald (n := 1) S hK hW 18 rfl (i := 0) vp_01 dL_law_707 ?_
          refine lv_iload hx hb dL_law_708 (lv_at hl 0 rfl) ?_
          refine lv_i2l hx hb dL_law_710 rfl ?_
          refine W.lcmp hx hb dL_law_711 ?_
          refine lv_if_eq (tgt := 717) hx hb dL_law_712 (by decide) (fun c_3 => ?_) (fun c_3 => ?_)
          ·
            refine lv_goto (tgt := 944) hx hb dL_law_717 (by decide) ?_
            exact K np n q mo ki am sk dn y1 y2 y3 y4 y5 y6 y7 v tr2 w2 0 dn6 (F_L_accountAt (nI np) y1 y2 y3 y4 y5 y6 y7 tr fo (xs (nI i + 1).toNatClampNeg)) I _ _ _ (hW.re [8, 0, 1, 9, 2, 17, 3, 4, 5, 6, 7, 10, 11, 12, 13, 14, 15, 16, 24, 19, 20, 21, 22, 23, 18] rfl rfl) (lv_sub hl [2, 3, 4, 5, 6] rfl)
          ·
            have ho : (F_L_accountAt (nI np) y1 y2 y3 y4 y5 y6 y7 tr fo (xs (nI i + 1).toNatClampNeg)) (0 : Int32).toNatClampNeg = aa.toInt64 := by
              unfold F_L_accountAt
              rw [e4]
              exact pk_uLs
            exact (c_3 (by rw [ho]; exact lcmp_self _)).elim
      ·
        exact (c_1 rfl).elim
set_option maxHeartbeats 4000000 in
set_option maxRecDepth 100000 in
theorem lc_accountFromStart {pP : Program} {l : Launch} {eE : Env} {sS : State} {mM : MethodId} {args : Array Value} {below : List Frame} {meth : Method} {cC : Code} {Q : State → Prop} {G : GG} {A : Nat → Prop} {h : Nat → Nat} {b L i : Nat} {xs : Nat → Int32} {cells slots : Nat} (X : LWX pP l sS mM args cC G A b L xs) (hi : i + 4 ≤ L) (hc : cells + 1 ≤ room_1.cells) (hs : slots + 6 ≤ room_1.slots) (K : LWP pP l eE sS mM args below meth cC Q G A h b i (cells + 1) (slots + 6)) (np n : Nat) (q : S3) (mo ki am : N32) (sk dn : Nat → Bool) (y1 y2 y3 y4 y5 y6 y7 : N32) (v tr w5 : S7) (t5 : Int32) (dn5 : Nat → Bool) (fo : Nat → Int64) (I : Inv np n q mo ki am sk (dn, y1, y2, y3, y4, y5, y6, y7, v)) (H : Heap) (locs : List Loc) (ls : Array Slot) (hW : Wd G A sS.heap [cF h (nI np), cP (h 1) q, cB h (nI n), cH h, cS (h 4) v, cS (h 5) tr, aI G (h 6) 60 mo, aI G (h 7) 60 ki, aI G (h 8) 60 am, aZ G (h 9) 60 sk, aZ G (h 10) 60 dn, aI G (h 11) 121 y1, aI G (h 12) 121 y2, aI G (h 13) 121 y3, aI G (h 14) 121 y4, aI G (h 15) 121 y5, aI G (h 16) 121 y6, aI G (h 17) 121 y7, cM h (q.1, q.2.1, q.2.2, (nI np), (nI n)) w5 t5, aI G (h 19) 60 mo, aI G (h 20) 60 ki, aI G (h 21) 60 am, aZ G (h 22) 60 sk, aZ G (h 23) 60 dn5, aJ G (h 24) 1 fo] H locs) (hl : lv_has ls 7 [(0, .ref b), (1, .ref (h 0)), (2, .ref (h 18)), (3, .ref (h 24)), (4, .int (nI i))]) :
    W pP l eE room_1 sS mM args below meth cC H locs cells slots Q (F0 mM 720 ls []) := by
  obtain ⟨S, hK, hXE, hXZ, hst, hX, hbl, hbA, hL⟩ := X
  have hx := S.1
  have hb := S.2.1
  have hn := I.1
  have hp := I.2.1
  have hmo := I.hmo
  have hf1 : cells + 1 ≤ room_1.cells ∧ slots + 6 ≤ room_1.slots := ⟨hc, hs⟩
  have hf0 : cells ≤ room_1.cells ∧ slots ≤ room_1.slots := ⟨Nat.le_of_succ_le hc, Nat.le_trans (Nat.le_add_right _ _) hs⟩
  rcases p_accountFromStart I tr w5 dn5 (xs (nI i + 1).toNatClampNeg) with ⟨kk, w2, dn6, hkk, e4, e5⟩ | ⟨aa, tr2, w2, dn6, e4, e5⟩
  ·
    have e4 : (F_X4_accountFromStart mo ki am sk q tr (xs (nI i + 1).toNatClampNeg) np n).1 = kk := e4
    have e5 : (F_X5_accountFromStart q.1 q.2.1 q.2.2 w5 mo ki am sk dn5 (xs (nI i + 1).toNatClampNeg) np n) = (0, w2, kk, dn6) := e5
    refine lv_aload_n hx hb dL_law_720 rfl (lv_at hl 1 rfl) ?_
    refine lv_aload_n hx hb dL_law_721 rfl (lv_at hl 0 rfl) ?_
    refine lv_iload hx hb dL_law_722 (lv_at hl 4 rfl) ?_
    refine lv_iconst (v := 1) hx hb dL_law_724 (by decide) ?_
    refine lv_iadd hx hb dL_law_725 ?_
    refine va_sld hx hb hX hbl hbA hW.2.2.1 (sc1 hi hL) dL_law_726 ?_
    refine lv_aload_n hx hb dL_law_727 rfl (lv_at hl 3 rfl) ?_
    refine ky_callS (As := [.ref (h 0), .int (xs (nI i + 1).toNatClampNeg), .ref (h 24)]) (rest := []) (wr := [cH h, cS (h 4) v, aZ G (h 10) 60 dn, aI G (h 11) 121 y1, aI G (h 12) 121 y2, aI G (h 13) 121 y3, aI G (h 14) 121 y4, aI G (h 15) 121 y5, aI G (h 16) 121 y6, aI G (h 17) 121 y7, cM h (q.1, q.2.1, q.2.2, (nI np), (nI n)) w5 t5, aI G (h 19) 60 mo, aI G (h 20) 60 ki, aI G (h 21) 60 am, aZ G (h 22) 60 sk, aZ G (h 23) 60 dn5]) (c_L_accountFromStart l hst G h mo ki am sk q tr fo (xs (nI i + 1).toNatClampNeg) np n hn hp) S hK hW hXE hXZ gL_law_L_accountFromStart rfl ⟨rfl, rfl⟩ nd_L_accountFromStart ⟨rfl, rfl⟩ [0, 2, 6, 7, 8, 9, 1, 5, 24] [3, 4, 10, 11, 12, 13, 14, 15, 16, 17, 18, 19, 20, 21, 22, 23] rfl rfl rfl rfl (by decide) rfl hl.1 rfl dL_law_728 hf1 (fun H locs hk hW => ?_) (fun H locs hk hW => ?_)
    ·
      have hW : Wd G A sS.heap [cH h, cS (h 4) v, aZ G (h 10) 60 dn, aI G (h 11) 121 y1, aI G (h 12) 121 y2, aI G (h 13) 121 y3, aI G (h 14) 121 y4, aI G (h 15) 121 y5, aI G (h 16) 121 y6, aI G (h 17) 121 y7, cM h (q.1, q.2.1, q.2.2, (nI np), (nI n)) w5 t5, aI G (h 19) 60 mo, aI G (h 20) 60 ki, aI G (h 21) 60 am, aZ G (h 22) 60 sk, aZ G (h 23) 60 dn5, cF h (nI np), cB h (nI n), aI G (h 6) 60 mo, aI G (h 7) 60 ki, aI G (h 8) 60 am, aZ G (h 9) 60 sk, cP (h 1) q, cS (h 5) tr, aJ G (h 24) 1 fo] H locs := hW
      rw [e4]
      refine lv_istore (lv' := [(5, .int kk), (0, .ref b), (1, .ref (h 0)), (2, .ref (h 18)), (3, .ref (h 24)), (4, .int (nI i))]) hx hb dL_law_731 hl (by decide) rfl (fun ls hl => ?_)
      refine lv_aload_n hx hb dL_law_733 rfl (lv_at hl 3 rfl) ?_
      refine lv_aload_n hx hb dL_law_734 rfl (lv_at hl 1 rfl) ?_
      refine lv_iload hx hb dL_law_735 (lv_at hl 5 rfl) ?_
      refine lv_iconst (v := 1) hx hb dL_law_737 (by decide) ?_
      refine lv_iadd hx hb dL_law_738 ?_
      refine va_sld hx hb hX hbl hbA hW.2.2.1 (sc1 hi hL) dL_law_739 ?_
      refine k_callVi (C := RX5) (As := [.int (xs (nI i + 1).toNatClampNeg)]) (rest := []) (wr := [cH h, cS (h 4) v, aZ G (h 10) 60 dn, aI G (h 11) 121 y1, aI G (h 12) 121 y2, aI G (h 13) 121 y3, aI G (h 14) 121 y4, aI G (h 15) 121 y5, aI G (h 16) 121 y6, aI G (h 17) 121 y7, cF h (nI np), cB h (nI n), aI G (h 6) 60 mo, aI G (h 7) 60 ki, aI G (h 8) 60 am, aZ G (h 9) 60 sk, cP (h 1) q, cS (h 5) tr, aJ G (h 24) 1 fo]) (c_X5_accountFromStart l G h q.1 q.2.1 q.2.2 w5 t5 mo ki am sk dn5 (xs (nI i + 1).toNatClampNeg) np n (by omega) (by omega)) S hK hW gL_law_X5_accountFromStart rfl ⟨rfl, rfl⟩ nd_X5_accountFromStart ⟨rfl, rfl⟩ (qb := 10) (ci := 5) rfl rfl [10, 11, 12, 13, 14, 15] [0, 1, 2, 3, 4, 5, 6, 7, 8, 9, 16, 17, 18, 19, 20, 21, 22, 23, 24] rfl rfl rfl rfl (by decide) rfl hl.1 rfl dL_law_740 hf1 (fun H locs hW => ?_)
      have hW : Wd G A sS.heap [cH h, cS (h 4) v, aZ G (h 10) 60 dn, aI G (h 11) 121 y1, aI G (h 12) 121 y2, aI G (h 13) 121 y3, aI G (h 14) 121 y4, aI G (h 15) 121 y5, aI G (h 16) 121 y6, aI G (h 17) 121 y7, cF h (nI np), cB h (nI n), aI G (h 6) 60 mo, aI G (h 7) 60 ki, aI G (h 8) 60 am, aZ G (h 9) 60 sk, cP (h 1) q, cS (h 5) tr, aJ G (h 24) 1 fo, cM h (q.1, q.2.1, q.2.2, (nI np), (nI n)) ((F_X5_accountFromStart q.1 q.2.1 q.2.2 w5 mo ki am sk dn5 (xs (nI i + 1).toNatClampNeg) np n).2.1) ((F_X5_accountFromStart q.1 q.2.1 q.2.2 w5 mo ki am sk dn5 (xs (nI i + 1).toNatClampNeg) np n).2.2.1), aI G (h 19) 60 mo, aI G (h 20) 60 ki, aI G (h 21) 60 am, aZ G (h 22) 60 sk, aZ G (h 23) 60 ((F_X5_accountFromStart q.1 q.2.1 q.2.2 w5 mo ki am sk dn5 (xs (nI i + 1).toNatClampNeg) np n).2.2.2)] H locs := hW
      rw [e5] at hW
      rw [e5]
      have hW : Wd G A sS.heap [cH h, cS (h 4) v, aZ G (h 10) 60 dn, aI G (h 11) 121 y1, aI G (h 12) 121 y2, aI G (h 13) 121 y3, aI G (h 14) 121 y4, aI G (h 15) 121 y5, aI G (h 16) 121 y6, aI G (h 17) 121 y7, cF h (nI np), cB h (nI n), aI G (h 6) 60 mo, aI G (h 7) 60 ki, aI G (h 8) 60 am, aZ G (h 9) 60 sk, cP (h 1) q, cS (h 5) tr, aJ G (h 24) 1 fo, cM h (q.1, q.2.1, q.2.2, (nI np), (nI n)) w2 kk, aI G (h 19) 60 mo, aI G (h 20) 60 ki, aI G (h 21) 60 am, aZ G (h 22) 60 sk, aZ G (h 23) 60 dn6] H locs := hW
      refine lv_istore (lv' := [(6, .int 0), (5, .int kk), (0, .ref b), (1, .ref (h 0)), (2, .ref (h 18)), (3, .ref (h 24)), (4, .int (nI i))]) hx hb dL_law_743 hl (by decide) rfl (fun ls hl => ?_)
      refine lv_aload_n hx hb dL_law_745 rfl (lv_at hl 4 rfl) ?_
      refine k_callVi (C := RX5) (As := []) (rest := []) (wr := [cH h, cS (h 4) v, aZ G (h 10) 60 dn, aI G (h 11) 121 y1, aI G (h 12) 121 y2, aI G (h 13) 121 y3, aI G (h 14) 121 y4, aI G (h 15) 121 y5, aI G (h 16) 121 y6, aI G (h 17) 121 y7, cF h (nI np), cB h (nI n), aI G (h 6) 60 mo, aI G (h 7) 60 ki, aI G (h 8) 60 am, aZ G (h 9) 60 sk, cP (h 1) q, cS (h 5) tr, aJ G (h 24) 1 fo, aI G (h 19) 60 mo, aI G (h 20) 60 ki, aI G (h 21) 60 am, aZ G (h 22) 60 sk, aZ G (h 23) 60 dn6]) (c_X5_thrown l G h q.1 q.2.1 q.2.2 (nI np) (nI n) w2 kk) S hK hW gL_law_X5_thrown rfl ⟨rfl, rfl⟩ nd_X5_thrown ⟨rfl, rfl⟩ (qb := 19) (ci := 5) rfl rfl [19] [0, 1, 2, 3, 4, 5, 6, 7, 8, 9, 10, 11, 12, 13, 14, 15, 16, 17, 18, 20, 21, 22, 23, 24] rfl rfl rfl rfl (by decide) rfl hl.1 rfl dL_law_746 hf1 (fun H locs hW => ?_)
      have hW : Wd G A sS.heap [cH h, cS (h 4) v, aZ G (h 10) 60 dn, aI G (h 11) 121 y1, aI G (h 12) 121 y2, aI G (h 13) 121 y3, aI G (h 14) 121 y4, aI G (h 15) 121 y5, aI G (h 16) 121 y6, aI G (h 17) 121 y7, cF h (nI np), cB h (nI n), aI G (h 6) 60 mo, aI G (h 7) 60 ki, aI G (h 8) 60 am, aZ G (h 9) 60 sk, cP (h 1) q, cS (h 5) tr, aJ G (h 24) 1 fo, aI G (h 19) 60 mo, aI G (h 20) 60 ki, aI G (h 21) 60 am, aZ G (h 22) 60 sk, aZ G (h 23) 60 dn6, cM h (q.1, q.2.1, q.2.2, (nI np), (nI n)) w2 kk] H locs := hW
      refine lv_iload hx hb dL_law_749 (lv_at hl 1 rfl) ?_
      refine lv_icmp_eq (tgt := 756) hx hb dL_law_751 (by decide) (fun c_1 => ?_) (fun c_1 => ?_)
      ·
        refine lv_iload hx hb dL_law_756 (lv_at hl 1 rfl) ?_
        refine lv_if_ne (tgt := 773) hx hb dL_law_758 (by decide) (fun c_2 => ?_) (fun c_2 => ?_)
        ·
          refine lv_goto (tgt := 944) hx hb dL_law_773 (by decide) ?_
          exact K np n q mo ki am sk dn y1 y2 y3 y4 y5 y6 y7 v tr w2 kk dn6 fo I _ _ _ (hW.re [10, 16, 11, 0, 1, 17, 12, 13, 14, 15, 2, 3, 4, 5, 6, 7, 8, 9, 24, 19, 20, 21, 22, 23, 18] rfl rfl) (lv_sub hl [2, 3, 4, 5, 6] rfl)
        ·
          exact absurd c_2 hkk
      ·
        exact (c_1 rfl).elim
    · exact absurd (e4.symm.trans hk) hkk
  ·
    have e4 : (F_X4_accountFromStart mo ki am sk q tr (xs (nI i + 1).toNatClampNeg) np n) = (0, aa, tr2) := e4
    have e5 : (F_X5_accountFromStart q.1 q.2.1 q.2.2 w5 mo ki am sk dn5 (xs (nI i + 1).toNatClampNeg) np n) = (aa, w2, 0, dn6) := e5
    refine lv_aload_n hx hb dL_law_720 rfl (lv_at hl 1 rfl) ?_
    refine lv_aload_n hx hb dL_law_721 rfl (lv_at hl 0 rfl) ?_
    refine lv_iload hx hb dL_law_722 (lv_at hl 4 rfl) ?_
    refine lv_iconst (v := 1) hx hb dL_law_724 (by decide) ?_
    refine lv_iadd hx hb dL_law_725 ?_
    refine va_sld hx hb hX hbl hbA hW.2.2.1 (sc1 hi hL) dL_law_726 ?_
    refine lv_aload_n hx hb dL_law_727 rfl (lv_at hl 3 rfl) ?_
    refine ky_callS (As := [.ref (h 0), .int (xs (nI i + 1).toNatClampNeg), .ref (h 24)]) (rest := []) (wr := [cH h, cS (h 4) v, aZ G (h 10) 60 dn, aI G (h 11) 121 y1, aI G (h 12) 121 y2, aI G (h 13) 121 y3, aI G (h 14) 121 y4, aI G (h 15) 121 y5, aI G (h 16) 121 y6, aI G (h 17) 121 y7, cM h (q.1, q.2.1, q.2.2, (nI np), (nI n)) w5 t5, aI G (h 19) 60 mo, aI G (h 20) 60 ki, aI G (h 21) 60 am, aZ G (h 22) 60 sk, aZ G (h 23) 60 dn5]) (c_L_accountFromStart l hst G h mo ki am sk q tr fo (xs (nI i + 1).toNatClampNeg) np n hn hp) S hK hW hXE hXZ gL_law_L_accountFromStart rfl ⟨rfl, rfl⟩ nd_L_accountFromStart ⟨rfl, rfl⟩ [0, 2, 6, 7, 8, 9, 1, 5, 24] [3, 4, 10, 11, 12, 13, 14, 15, 16, 17, 18, 19, 20, 21, 22, 23] rfl rfl rfl rfl (by decide) rfl hl.1 rfl dL_law_728 hf1 (fun H locs hk hW => ?_) (fun H locs hk hW => ?_)
    · exact absurd (show (F_X4_accountFromStart mo ki am sk q tr (xs (nI i + 1).toNatClampNeg) np n).1 = 0 by rw [e4]) hk
    ·
      rw [hk]
      try rw [e4] at hW
      have hW : Wd G A sS.heap [cH h, cS (h 4) v, aZ G (h 10) 60 dn, aI G (h 11) 121 y1, aI G (h 12) 121 y2, aI G (h 13) 121 y3, aI G (h 14) 121 y4, aI G (h 15) 121 y5, aI G (h 16) 121 y6, aI G (h 17) 121 y7, cM h (q.1, q.2.1, q.2.2, (nI np), (nI n)) w5 t5, aI G (h 19) 60 mo, aI G (h 20) 60 ki, aI G (h 21) 60 am, aZ G (h 22) 60 sk, aZ G (h 23) 60 dn5, cF h (nI np), cB h (nI n), aI G (h 6) 60 mo, aI G (h 7) 60 ki, aI G (h 8) 60 am, aZ G (h 9) 60 sk, cP (h 1) q, cS (h 5) tr2, aJ G (h 24) 1 (F_L_accountFromStart mo ki am sk q tr fo (xs (nI i + 1).toNatClampNeg) np n)] H locs := hW
      refine lv_istore (lv' := [(5, .int 0), (0, .ref b), (1, .ref (h 0)), (2, .ref (h 18)), (3, .ref (h 24)), (4, .int (nI i))]) hx hb dL_law_731 hl (by decide) rfl (fun ls hl => ?_)
      refine lv_aload_n hx hb dL_law_733 rfl (lv_at hl 3 rfl) ?_
      refine lv_aload_n hx hb dL_law_734 rfl (lv_at hl 1 rfl) ?_
      refine lv_iload hx hb dL_law_735 (lv_at hl 5 rfl) ?_
      refine lv_iconst (v := 1) hx hb dL_law_737 (by decide) ?_
      refine lv_iadd hx hb dL_law_738 ?_
      refine va_sld hx hb hX hbl hbA hW.2.2.1 (sc1 hi hL) dL_law_739 ?_
      refine k_callVi (C := RX5) (As := [.int (xs (nI i + 1).toNatClampNeg)]) (rest := []) (wr := [cH h, cS (h 4) v, aZ G (h 10) 60 dn, aI G (h 11) 121 y1, aI G (h 12) 121 y2, aI G (h 13) 121 y3, aI G (h 14) 121 y4, aI G (h 15) 121 y5, aI G (h 16) 121 y6, aI G (h 17) 121 y7, cF h (nI np), cB h (nI n), aI G (h 6) 60 mo, aI G (h 7) 60 ki, aI G (h 8) 60 am, aZ G (h 9) 60 sk, cP (h 1) q, cS (h 5) tr2, aJ G (h 24) 1 (F_L_accountFromStart mo ki am sk q tr fo (xs (nI i + 1).toNatClampNeg) np n)]) (c_X5_accountFromStart l G h q.1 q.2.1 q.2.2 w5 t5 mo ki am sk dn5 (xs (nI i + 1).toNatClampNeg) np n (by omega) (by omega)) S hK hW gL_law_X5_accountFromStart rfl ⟨rfl, rfl⟩ nd_X5_accountFromStart ⟨rfl, rfl⟩ (qb := 10) (ci := 5) rfl rfl [10, 11, 12, 13, 14, 15] [0, 1, 2, 3, 4, 5, 6, 7, 8, 9, 16, 17, 18, 19, 20, 21, 22, 23, 24] rfl rfl rfl rfl (by decide) rfl hl.1 rfl dL_law_740 hf1 (fun H locs hW => ?_)
      have hW : Wd G A sS.heap [cH h, cS (h 4) v, aZ G (h 10) 60 dn, aI G (h 11) 121 y1, aI G (h 12) 121 y2, aI G (h 13) 121 y3, aI G (h 14) 121 y4, aI G (h 15) 121 y5, aI G (h 16) 121 y6, aI G (h 17) 121 y7, cF h (nI np), cB h (nI n), aI G (h 6) 60 mo, aI G (h 7) 60 ki, aI G (h 8) 60 am, aZ G (h 9) 60 sk, cP (h 1) q, cS (h 5) tr2, aJ G (h 24) 1 (F_L_accountFromStart mo ki am sk q tr fo (xs (nI i + 1).toNatClampNeg) np n), cM h (q.1, q.2.1, q.2.2, (nI np), (nI n)) ((F_X5_accountFromStart q.1 q.2.1 q.2.2 w5 mo ki am sk dn5 (xs (nI i + 1).toNatClampNeg) np n).2.1) ((F_X5_accountFromStart q.1 q.2.1 q.2.2 w5 mo ki am sk dn5 (xs (nI i + 1).toNatClampNeg) np n).2.2.1), aI G (h 19) 60 mo, aI G (h 20) 60 ki, aI G (h 21) 60 am, aZ G (h 22) 60 sk, aZ G (h 23) 60 ((F_X5_accountFromStart q.1 q.2.1 q.2.2 w5 mo ki am sk dn5 (xs (nI i + 1).toNatClampNeg) np n).2.2.2)] H locs := hW
      rw [e5] at hW
      rw [e5]
      have hW : Wd G A sS.heap [cH h, cS (h 4) v, aZ G (h 10) 60 dn, aI G (h 11) 121 y1, aI G (h 12) 121 y2, aI G (h 13) 121 y3, aI G (h 14) 121 y4, aI G (h 15) 121 y5, aI G (h 16) 121 y6, aI G (h 17) 121 y7, cF h (nI np), cB h (nI n), aI G (h 6) 60 mo, aI G (h 7) 60 ki, aI G (h 8) 60 am, aZ G (h 9) 60 sk, cP (h 1) q, cS (h 5) tr2, aJ G (h 24) 1 (F_L_accountFromStart mo ki am sk q tr fo (xs (nI i + 1).toNatClampNeg) np n), cM h (q.1, q.2.1, q.2.2, (nI np), (nI n)) w2 0, aI G (h 19) 60 mo, aI G (h 20) 60 ki, aI G (h 21) 60 am, aZ G (h 22) 60 sk, aZ G (h 23) 60 dn6] H locs := hW
      refine lv_istore (lv' := [(6, .int aa), (5, .int 0), (0, .ref b), (1, .ref (h 0)), (2, .ref (h 18)), (3, .ref (h 24)), (4, .int (nI i))]) hx hb dL_law_743 hl (by decide) rfl (fun ls hl => ?_)
      refine lv_aload_n hx hb dL_law_745 rfl (lv_at hl 4 rfl) ?_
      refine k_callVi (C := RX5) (As := []) (rest := []) (wr := [cH h, cS (h 4) v, aZ G (h 10) 60 dn, aI G (h 11) 121 y1, aI G (h 12) 121 y2, aI G (h 13) 121 y3, aI G (h 14) 121 y4, aI G (h 15) 121 y5, aI G (h 16) 121 y6, aI G (h 17) 121 y7, cF h (nI np), cB h (nI n), aI G (h 6) 60 mo, aI G (h 7) 60 ki, aI G (h 8) 60 am, aZ G (h 9) 60 sk, cP (h 1) q, cS (h 5) tr2, aJ G (h 24) 1 (F_L_accountFromStart mo ki am sk q tr fo (xs (nI i + 1).toNatClampNeg) np n), aI G (h 19) 60 mo, aI G (h 20) 60 ki, aI G (h 21) 60 am, aZ G (h 22) 60 sk, aZ G (h 23) 60 dn6]) (c_X5_thrown l G h q.1 q.2.1 q.2.2 (nI np) (nI n) w2 0) S hK hW gL_law_X5_thrown rfl ⟨rfl, rfl⟩ nd_X5_thrown ⟨rfl, rfl⟩ (qb := 19) (ci := 5) rfl rfl [19] [0, 1, 2, 3, 4, 5, 6, 7, 8, 9, 10, 11, 12, 13, 14, 15, 16, 17, 18, 20, 21, 22, 23, 24] rfl rfl rfl rfl (by decide) rfl hl.1 rfl dL_law_746 hf1 (fun H locs hW => ?_)
      have hW : Wd G A sS.heap [cH h, cS (h 4) v, aZ G (h 10) 60 dn, aI G (h 11) 121 y1, aI G (h 12) 121 y2, aI G (h 13) 121 y3, aI G (h 14) 121 y4, aI G (h 15) 121 y5, aI G (h 16) 121 y6, aI G (h 17) 121 y7, cF h (nI np), cB h (nI n), aI G (h 6) 60 mo, aI G (h 7) 60 ki, aI G (h 8) 60 am, aZ G (h 9) 60 sk, cP (h 1) q, cS (h 5) tr2, aJ G (h 24) 1 (F_L_accountFromStart mo ki am sk q tr fo (xs (nI i + 1).toNatClampNeg) np n), aI G (h 19) 60 mo, aI G (h 20) 60 ki, aI G (h 21) 60 am, aZ G (h 22) 60 sk, aZ G (h 23) 60 dn6, cM h (q.1, q.2.1, q.2.2, (nI np), (nI n)) w2 0] H locs := hW
      refine lv_iload hx hb dL_law_749 (lv_at hl 1 rfl) ?_
      refine lv_icmp_eq (tgt := 756) hx hb dL_law_751 (by decide) (fun c_1 => ?_) (fun c_1 => ?_)
      ·
        refine lv_iload hx hb dL_law_756 (lv_at hl 1 rfl) ?_
        refine lv_if_ne (tgt := 773) hx hb dL_law_758 (by decide) (fun c_2 => ?_) (fun c_2 => ?_)
        ·
          exact absurd c_2 (by decide)
        ·
          refine lv_aload_n hx hb dL_law_761 rfl (lv_at hl 5 rfl) ?_
          refine lv_iconst (v := 0) hx hb dL_law_762 (by decide) ?_
          refine k_lald (n := 1) S hK hW 18 rfl (i := 0) vp_01 dL_law_763 ?_
          refine lv_iload hx hb dL_law_764 (lv_at hl 0 rfl) ?_
          refine lv_i2l hx hb dL_law_766 rfl ?_
          refine W.lcmp hx hb dL_law_767 ?_
          refine lv_if_eq (tgt := 773) hx hb dL_law_768 (by decide) (fun c_3 => ?_) (fun c_3 => ?_)
          ·
            refine lv_goto (tgt := 944) hx hb dL_law_773 (by decide) ?_
            exact K np n q mo ki am sk dn y1 y2 y3 y4 y5 y6 y7 v tr2 w2 0 dn6 (F_L_accountFromStart mo ki am sk q tr fo (xs (nI i + 1).toNatClampNeg) np n) I _ _ _ (hW.re [10, 16, 11, 0, 1, 17, 12, 13, 14, 15, 2, 3, 4, 5, 6, 7, 8, 9, 24, 19, 20, 21, 22, 23, 18] rfl rfl) (lv_sub hl [2, 3, 4, 5, 6] rfl)
          ·
            have ho : (F_L_accountFromStart mo ki am sk q tr fo (xs (nI i + 1).toNatClampNeg) np n) (0 : Int32).toNatClampNeg = aa.toInt64 := by
              unfold F_L_accountFromStart
              rw [e4]
              exact pk_uLs
            exact (c_3 (by rw [ho]; exact lcmp_self _)).elim
      ·
        exact (c_1 rfl).elim
set_option maxHeartbeats 4000000 in
set_option maxRecDepth 100000 in
theorem lc_stateAt {pP : Program} {l : Launch} {eE : Env} {sS : State} {mM : MethodId} {args : Array Value} {below : List Frame} {meth : Method} {cC : Code} {Q : State → Prop} {G : GG} {A : Nat → Prop} {h : Nat → Nat} {b L i : Nat} {xs : Nat → Int32} {cells slots : Nat} (X : LWX pP l sS mM args cC G A b L xs) (hi : i + 4 ≤ L) (hc : cells + 1 ≤ room_1.cells) (hs : slots + 6 ≤ room_1.slots) (K : LWP pP l eE sS mM args below meth cC Q G A h b i (cells + 1) (slots + 6)) (np n : Nat) (q : S3) (mo ki am : N32) (sk dn : Nat → Bool) (y1 y2 y3 y4 y5 y6 y7 : N32) (v tr w5 : S7) (t5 : Int32) (dn5 : Nat → Bool) (fo : Nat → Int64) (I : Inv np n q mo ki am sk (dn, y1, y2, y3, y4, y5, y6, y7, v)) (H : Heap) (locs : List Loc) (ls : Array Slot) (hW : Wd G A sS.heap [cF h (nI np), cP (h 1) q, cB h (nI n), cH h, cS (h 4) v, cS (h 5) tr, aI G (h 6) 60 mo, aI G (h 7) 60 ki, aI G (h 8) 60 am, aZ G (h 9) 60 sk, aZ G (h 10) 60 dn, aI G (h 11) 121 y1, aI G (h 12) 121 y2, aI G (h 13) 121 y3, aI G (h 14) 121 y4, aI G (h 15) 121 y5, aI G (h 16) 121 y6, aI G (h 17) 121 y7, cM h (q.1, q.2.1, q.2.2, (nI np), (nI n)) w5 t5, aI G (h 19) 60 mo, aI G (h 20) 60 ki, aI G (h 21) 60 am, aZ G (h 22) 60 sk, aZ G (h 23) 60 dn5, aJ G (h 24) 1 fo] H locs) (hl : lv_has ls 7 [(0, .ref b), (1, .ref (h 0)), (2, .ref (h 18)), (3, .ref (h 24)), (4, .int (nI i))]) :
    W pP l eE room_1 sS mM args below meth cC H locs cells slots Q (F0 mM 776 ls []) := by
  obtain ⟨S, hK, hXE, hXZ, hst, hX, hbl, hbA, hL⟩ := X
  have hx := S.1
  have hb := S.2.1
  have hn := I.1
  have hp := I.2.1
  have hmo := I.hmo
  have hf1 : cells + 1 ≤ room_1.cells ∧ slots + 6 ≤ room_1.slots := ⟨hc, hs⟩
  have hf0 : cells ≤ room_1.cells ∧ slots ≤ room_1.slots := ⟨Nat.le_of_succ_le hc, Nat.le_trans (Nat.le_add_right _ _) hs⟩
  rcases p_stateAt I tr w5 dn5 (xs (nI i + 1).toNatClampNeg) with ⟨kk, w2, dn6, hkk, e4, e5⟩ | ⟨aa, tr2, w2, dn6, e4, e5⟩
  ·
    have e4 : (F_X4_stateAt (nI np) y1 y2 y3 y4 y5 y6 y7 tr (xs (nI i + 1).toNatClampNeg)).1 = kk := e4
    have e5 : (F_X5_stateAt q.1 q.2.1 q.2.2 w5 mo ki am sk dn5 (xs (nI i + 1).toNatClampNeg) np n) = (0, w2, kk, dn6) := e5
    refine lv_aload_n hx hb dL_law_776 rfl (lv_at hl 1 rfl) ?_
    refine lv_aload_n hx hb dL_law_777 rfl (lv_at hl 0 rfl) ?_
    refine lv_iload hx hb dL_law_778 (lv_at hl 4 rfl) ?_
    refine lv_iconst (v := 1) hx hb dL_law_780 (by decide) ?_
    refine lv_iadd hx hb dL_law_781 ?_
    refine va_sld hx hb hX hbl hbA hW.2.2.1 (sc1 hi hL) dL_law_782 ?_
    refine lv_aload_n hx hb dL_law_783 rfl (lv_at hl 3 rfl) ?_
    refine ky_callS (As := [.ref (h 0), .int (xs (nI i + 1).toNatClampNeg), .ref (h 24)]) (rest := []) (wr := [cP (h 1) q, cB h (nI n), cS (h 4) v, aI G (h 6) 60 mo, aI G (h 7) 60 ki, aI G (h 8) 60 am, aZ G (h 9) 60 sk, aZ G (h 10) 60 dn, cM h (q.1, q.2.1, q.2.2, (nI np), (nI n)) w5 t5, aI G (h 19) 60 mo, aI G (h 20) 60 ki, aI G (h 21) 60 am, aZ G (h 22) 60 sk, aZ G (h 23) 60 dn5]) (c_L_stateAt l hst G h (nI np) y1 y2 y3 y4 y5 y6 y7 tr fo (xs (nI i + 1).toNatClampNeg)) S hK hW hXE hXZ gL_law_L_stateAt rfl ⟨rfl, rfl⟩ nd_L_stateAt ⟨rfl, rfl⟩ [0, 3, 11, 12, 13, 14, 15, 16, 17, 5, 24] [1, 2, 4, 6, 7, 8, 9, 10, 18, 19, 20, 21, 22, 23] rfl rfl rfl rfl (by decide) rfl hl.1 rfl dL_law_784 hf1 (fun H locs hk hW => ?_) (fun H locs hk hW => ?_)
    ·
      have hW : Wd G A sS.heap [cP (h 1) q, cB h (nI n), cS (h 4) v, aI G (h 6) 60 mo, aI G (h 7) 60 ki, aI G (h 8) 60 am, aZ G (h 9) 60 sk, aZ G (h 10) 60 dn, cM h (q.1, q.2.1, q.2.2, (nI np), (nI n)) w5 t5, aI G (h 19) 60 mo, aI G (h 20) 60 ki, aI G (h 21) 60 am, aZ G (h 22) 60 sk, aZ G (h 23) 60 dn5, cF h (nI np), cH h, aI G (h 11) 121 y1, aI G (h 12) 121 y2, aI G (h 13) 121 y3, aI G (h 14) 121 y4, aI G (h 15) 121 y5, aI G (h 16) 121 y6, aI G (h 17) 121 y7, cS (h 5) tr, aJ G (h 24) 1 fo] H locs := hW
      rw [e4]
      refine lv_istore (lv' := [(5, .int kk), (0, .ref b), (1, .ref (h 0)), (2, .ref (h 18)), (3, .ref (h 24)), (4, .int (nI i))]) hx hb dL_law_787 hl (by decide) rfl (fun ls hl => ?_)
      refine lv_aload_n hx hb dL_law_789 rfl (lv_at hl 3 rfl) ?_
      refine lv_aload_n hx hb dL_law_790 rfl (lv_at hl 1 rfl) ?_
      refine lv_iload hx hb dL_law_791 (lv_at hl 5 rfl) ?_
      refine lv_iconst (v := 1) hx hb dL_law_793 (by decide) ?_
      refine lv_iadd hx hb dL_law_794 ?_
      refine va_sld hx hb hX hbl hbA hW.2.2.1 (sc1 hi hL) dL_law_795 ?_
      refine k_callVi (C := RX5) (As := [.int (xs (nI i + 1).toNatClampNeg)]) (rest := []) (wr := [cP (h 1) q, cB h (nI n), cS (h 4) v, aI G (h 6) 60 mo, aI G (h 7) 60 ki, aI G (h 8) 60 am, aZ G (h 9) 60 sk, aZ G (h 10) 60 dn, cF h (nI np), cH h, aI G (h 11) 121 y1, aI G (h 12) 121 y2, aI G (h 13) 121 y3, aI G (h 14) 121 y4, aI G (h 15) 121 y5, aI G (h 16) 121 y6, aI G (h 17) 121 y7, cS (h 5) tr, aJ G (h 24) 1 fo]) (c_X5_stateAt l G h q.1 q.2.1 q.2.2 w5 t5 mo ki am sk dn5 (xs (nI i + 1).toNatClampNeg) np n (by omega) (by omega)) S hK hW gL_law_X5_stateAt rfl ⟨rfl, rfl⟩ nd_X5_stateAt ⟨rfl, rfl⟩ (qb := 8) (ci := 5) rfl rfl [8, 9, 10, 11, 12, 13] [0, 1, 2, 3, 4, 5, 6, 7, 14, 15, 16, 17, 18, 19, 20, 21, 22, 23, 24] rfl rfl rfl rfl (by decide) rfl hl.1 rfl dL_law_796 hf1 (fun H locs hW => ?_)
      have hW : Wd G A sS.heap [cP (h 1) q, cB h (nI n), cS (h 4) v, aI G (h 6) 60 mo, aI G (h 7) 60 ki, aI G (h 8) 60 am, aZ G (h 9) 60 sk, aZ G (h 10) 60 dn, cF h (nI np), cH h, aI G (h 11) 121 y1, aI G (h 12) 121 y2, aI G (h 13) 121 y3, aI G (h 14) 121 y4, aI G (h 15) 121 y5, aI G (h 16) 121 y6, aI G (h 17) 121 y7, cS (h 5) tr, aJ G (h 24) 1 fo, cM h (q.1, q.2.1, q.2.2, (nI np), (nI n)) ((F_X5_stateAt q.1 q.2.1 q.2.2 w5 mo ki am sk dn5 (xs (nI i + 1).toNatClampNeg) np n).2.1) ((F_X5_stateAt q.1 q.2.1 q.2.2 w5 mo ki am sk dn5 (xs (nI i + 1).toNatClampNeg) np n).2.2.1), aI G (h 19) 60 mo, aI G (h 20) 60 ki, aI G (h 21) 60 am, aZ G (h 22) 60 sk, aZ G (h 23) 60 ((F_X5_stateAt q.1 q.2.1 q.2.2 w5 mo ki am sk dn5 (xs (nI i + 1).toNatClampNeg) np n).2.2.2)] H locs := hW
      rw [e5] at hW
      rw [e5]
      have hW : Wd G A sS.heap [cP (h 1) q, cB h (nI n), cS (h 4) v, aI G (h 6) 60 mo, aI G (h 7) 60 ki, aI G (h 8) 60 am, aZ G (h 9) 60 sk, aZ G (h 10) 60 dn, cF h (nI np), cH h, aI G (h 11) 121 y1, aI G (h 12) 121 y2, aI G (h 13) 121 y3, aI G (h 14) 121 y4, aI G (h 15) 121 y5, aI G (h 16) 121 y6, aI G (h 17) 121 y7, cS (h 5) tr, aJ G (h 24) 1 fo, cM h (q.1, q.2.1, q.2.2, (nI np), (nI n)) w2 kk, aI G (h 19) 60 mo, aI G (h 20) 60 ki, aI G (h 21) 60 am, aZ G (h 22) 60 sk, aZ G (h 23) 60 dn6] H locs := hW
      refine lv_istore (lv' := [(6, .int 0), (5, .int kk), (0, .ref b), (1, .ref (h 0)), (2, .ref (h 18)), (3, .ref (h 24)), (4, .int (nI i))]) hx hb dL_law_799 hl (by decide) rfl (fun ls hl => ?_)
      refine lv_aload_n hx hb dL_law_801 rfl (lv_at hl 4 rfl) ?_
      refine k_callVi (C := RX5) (As := []) (rest := []) (wr := [cP (h 1) q, cB h (nI n), cS (h 4) v, aI G (h 6) 60 mo, aI G (h 7) 60 ki, aI G (h 8) 60 am, aZ G (h 9) 60 sk, aZ G (h 10) 60 dn, cF h (nI np), cH h, aI G (h 11) 121 y1, aI G (h 12) 121 y2, aI G (h 13) 121 y3, aI G (h 14) 121 y4, aI G (h 15) 121 y5, aI G (h 16) 121 y6, aI G (h 17) 121 y7, cS (h 5) tr, aJ G (h 24) 1 fo, aI G (h 19) 60 mo, aI G (h 20) 60 ki, aI G (h 21) 60 am, aZ G (h 22) 60 sk, aZ G (h 23) 60 dn6]) (c_X5_thrown l G h q.1 q.2.1 q.2.2 (nI np) (nI n) w2 kk) S hK hW gL_law_X5_thrown rfl ⟨rfl, rfl⟩ nd_X5_thrown ⟨rfl, rfl⟩ (qb := 19) (ci := 5) rfl rfl [19] [0, 1, 2, 3, 4, 5, 6, 7, 8, 9, 10, 11, 12, 13, 14, 15, 16, 17, 18, 20, 21, 22, 23, 24] rfl rfl rfl rfl (by decide) rfl hl.1 rfl dL_law_802 hf1 (fun H locs hW => ?_)
      have hW : Wd G A sS.heap [cP (h 1) q, cB h (nI n), cS (h 4) v, aI G (h 6) 60 mo, aI G (h 7) 60 ki, aI G (h 8) 60 am, aZ G (h 9) 60 sk, aZ G (h 10) 60 dn, cF h (nI np), cH h, aI G (h 11) 121 y1, aI G (h 12) 121 y2, aI G (h 13) 121 y3, aI G (h 14) 121 y4, aI G (h 15) 121 y5, aI G (h 16) 121 y6, aI G (h 17) 121 y7, cS (h 5) tr, aJ G (h 24) 1 fo, aI G (h 19) 60 mo, aI G (h 20) 60 ki, aI G (h 21) 60 am, aZ G (h 22) 60 sk, aZ G (h 23) 60 dn6, cM h (q.1, q.2.1, q.2.2, (nI np), (nI n)) w2 kk] H locs := hW
      refine lv_iload hx hb dL_law_805 (lv_at hl 1 rfl) ?_
      refine lv_icmp_eq (tgt := 812) hx hb dL_law_807 (by decide) (fun c_1 => ?_) (fun c_1 => ?_)
      ·
        refine lv_iload hx hb dL_law_812 (lv_at hl 1 rfl) ?_
        refine lv_if_ne (tgt := 829) hx hb dL_law_814 (by decide) (fun c_2 => ?_) (fun c_2 => ?_)
        ·
          refine lv_goto (tgt := 944) hx hb dL_law_829 (by decide) ?_
          exact K np n q mo ki am sk dn y1 y2 y3 y4 y5 y6 y7 v tr w2 kk dn6 fo I _ _ _ (hW.re [8, 0, 1, 9, 2, 17, 3, 4, 5, 6, 7, 10, 11, 12, 13, 14, 15, 16, 24, 19, 20, 21, 22, 23, 18] rfl rfl) (lv_sub hl [2, 3, 4, 5, 6] rfl)
        ·
          exact absurd c_2 hkk
      ·
        exact (c_1 rfl).elim
    · exact absurd (e4.symm.trans hk) hkk
  ·
    have e4 : (F_X4_stateAt (nI np) y1 y2 y3 y4 y5 y6 y7 tr (xs (nI i + 1).toNatClampNeg)) = (0, aa, tr2) := e4
    have e5 : (F_X5_stateAt q.1 q.2.1 q.2.2 w5 mo ki am sk dn5 (xs (nI i + 1).toNatClampNeg) np n) = (aa, w2, 0, dn6) := e5
    refine lv_aload_n hx hb dL_law_776 rfl (lv_at hl 1 rfl) ?_
    refine lv_aload_n hx hb dL_law_777 rfl (lv_at hl 0 rfl) ?_
    refine lv_iload hx hb dL_law_778 (lv_at hl 4 rfl) ?_
    refine lv_iconst (v := 1) hx hb dL_law_780 (by decide) ?_
    refine lv_iadd hx hb dL_law_781 ?_
    refine va_sld hx hb hX hbl hbA hW.2.2.1 (sc1 hi hL) dL_law_782 ?_
    refine lv_aload_n hx hb dL_law_783 rfl (lv_at hl 3 rfl) ?_
    refine ky_callS (As := [.ref (h 0), .int (xs (nI i + 1).toNatClampNeg), .ref (h 24)]) (rest := []) (wr := [cP (h 1) q, cB h (nI n), cS (h 4) v, aI G (h 6) 60 mo, aI G (h 7) 60 ki, aI G (h 8) 60 am, aZ G (h 9) 60 sk, aZ G (h 10) 60 dn, cM h (q.1, q.2.1, q.2.2, (nI np), (nI n)) w5 t5, aI G (h 19) 60 mo, aI G (h 20) 60 ki, aI G (h 21) 60 am, aZ G (h 22) 60 sk, aZ G (h 23) 60 dn5]) (c_L_stateAt l hst G h (nI np) y1 y2 y3 y4 y5 y6 y7 tr fo (xs (nI i + 1).toNatClampNeg)) S hK hW hXE hXZ gL_law_L_stateAt rfl ⟨rfl, rfl⟩ nd_L_stateAt ⟨rfl, rfl⟩ [0, 3, 11, 12, 13, 14, 15, 16, 17, 5, 24] [1, 2, 4, 6, 7, 8, 9, 10, 18, 19, 20, 21, 22, 23] rfl rfl rfl rfl (by decide) rfl hl.1 rfl dL_law_784 hf1 (fun H locs hk hW => ?_) (fun H locs hk hW => ?_)
    · exact absurd (show (F_X4_stateAt (nI np) y1 y2 y3 y4 y5 y6 y7 tr (xs (nI i + 1).toNatClampNeg)).1 = 0 by rw [e4]) hk
    ·
      rw [hk]
      try rw [e4] at hW
      have hW : Wd G A sS.heap [cP (h 1) q, cB h (nI n), cS (h 4) v, aI G (h 6) 60 mo, aI G (h 7) 60 ki, aI G (h 8) 60 am, aZ G (h 9) 60 sk, aZ G (h 10) 60 dn, cM h (q.1, q.2.1, q.2.2, (nI np), (nI n)) w5 t5, aI G (h 19) 60 mo, aI G (h 20) 60 ki, aI G (h 21) 60 am, aZ G (h 22) 60 sk, aZ G (h 23) 60 dn5, cF h (nI np), cH h, aI G (h 11) 121 y1, aI G (h 12) 121 y2, aI G (h 13) 121 y3, aI G (h 14) 121 y4, aI G (h 15) 121 y5, aI G (h 16) 121 y6, aI G (h 17) 121 y7, cS (h 5) tr2, aJ G (h 24) 1 (F_L_stateAt (nI np) y1 y2 y3 y4 y5 y6 y7 tr fo (xs (nI i + 1).toNatClampNeg))] H locs := hW
      refine lv_istore (lv' := [(5, .int 0), (0, .ref b), (1, .ref (h 0)), (2, .ref (h 18)), (3, .ref (h 24)), (4, .int (nI i))]) hx hb dL_law_787 hl (by decide) rfl (fun ls hl => ?_)
      refine lv_aload_n hx hb dL_law_789 rfl (lv_at hl 3 rfl) ?_
      refine lv_aload_n hx hb dL_law_790 rfl (lv_at hl 1 rfl) ?_
      refine lv_iload hx hb dL_law_791 (lv_at hl 5 rfl) ?_
      refine lv_iconst (v := 1) hx hb dL_law_793 (by decide) ?_
      refine lv_iadd hx hb dL_law_794 ?_
      refine va_sld hx hb hX hbl hbA hW.2.2.1 (sc1 hi hL) dL_law_795 ?_
      refine k_callVi (C := RX5) (As := [.int (xs (nI i + 1).toNatClampNeg)]) (rest := []) (wr := [cP (h 1) q, cB h (nI n), cS (h 4) v, aI G (h 6) 60 mo, aI G (h 7) 60 ki, aI G (h 8) 60 am, aZ G (h 9) 60 sk, aZ G (h 10) 60 dn, cF h (nI np), cH h, aI G (h 11) 121 y1, aI G (h 12) 121 y2, aI G (h 13) 121 y3, aI G (h 14) 121 y4, aI G (h 15) 121 y5, aI G (h 16) 121 y6, aI G (h 17) 121 y7, cS (h 5) tr2, aJ G (h 24) 1 (F_L_stateAt (nI np) y1 y2 y3 y4 y5 y6 y7 tr fo (xs (nI i + 1).toNatClampNeg))]) (c_X5_stateAt l G h q.1 q.2.1 q.2.2 w5 t5 mo ki am sk dn5 (xs (nI i + 1).toNatClampNeg) np n (by omega) (by omega)) S hK hW gL_law_X5_stateAt rfl ⟨rfl, rfl⟩ nd_X5_stateAt ⟨rfl, rfl⟩ (qb := 8) (ci := 5) rfl rfl [8, 9, 10, 11, 12, 13] [0, 1, 2, 3, 4, 5, 6, 7, 14, 15, 16, 17, 18, 19, 20, 21, 22, 23, 24] rfl rfl rfl rfl (by decide) rfl hl.1 rfl dL_law_796 hf1 (fun H locs hW => ?_)
      have hW : Wd G A sS.heap [cP (h 1) q, cB h (nI n), cS (h 4) v, aI G (h 6) 60 mo, aI G (h 7) 60 ki, aI G (h 8) 60 am, aZ G (h 9) 60 sk, aZ G (h 10) 60 dn, cF h (nI np), cH h, aI G (h 11) 121 y1, aI G (h 12) 121 y2, aI G (h 13) 121 y3, aI G (h 14) 121 y4, aI G (h 15) 121 y5, aI G (h 16) 121 y6, aI G (h 17) 121 y7, cS (h 5) tr2, aJ G (h 24) 1 (F_L_stateAt (nI np) y1 y2 y3 y4 y5 y6 y7 tr fo (xs (nI i + 1).toNatClampNeg)), cM h (q.1, q.2.1, q.2.2, (nI np), (nI n)) ((F_X5_stateAt q.1 q.2.1 q.2.2 w5 mo ki am sk dn5 (xs (nI i + 1).toNatClampNeg) np n).2.1) ((F_X5_stateAt q.1 q.2.1 q.2.2 w5 mo ki am sk dn5 (xs (nI i + 1).toNatClampNeg) np n).2.2.1), aI G (h 19) 60 mo, aI G (h 20) 60 ki, aI G (h 21) 60 am, aZ G (h 22) 60 sk, aZ G (h 23) 60 ((F_X5_stateAt q.1 q.2.1 q.2.2 w5 mo ki am sk dn5 (xs (nI i + 1).toNatClampNeg) np n).2.2.2)] H locs := hW
      rw [e5] at hW
      rw [e5]
      have hW : Wd G A sS.heap [cP (h 1) q, cB h (nI n), cS (h 4) v, aI G (h 6) 60 mo, aI G (h 7) 60 ki, aI G (h 8) 60 am, aZ G (h 9) 60 sk, aZ G (h 10) 60 dn, cF h (nI np), cH h, aI G (h 11) 121 y1, aI G (h 12) 121 y2, aI G (h 13) 121 y3, aI G (h 14) 121 y4, aI G (h 15) 121 y5, aI G (h 16) 121 y6, aI G (h 17) 121 y7, cS (h 5) tr2, aJ G (h 24) 1 (F_L_stateAt (nI np) y1 y2 y3 y4 y5 y6 y7 tr fo (xs (nI i + 1).toNatClampNeg)), cM h (q.1, q.2.1, q.2.2, (nI np), (nI n)) w2 0, aI G (h 19) 60 mo, aI G (h 20) 60 ki, aI G (h 21) 60 am, aZ G (h 22) 60 sk, aZ G (h 23) 60 dn6] H locs := hW
      refine lv_istore (lv' := [(6, .int aa), (5, .int 0), (0, .ref b), (1, .ref (h 0)), (2, .ref (h 18)), (3, .ref (h 24)), (4, .int (nI i))]) hx hb dL_law_799 hl (by decide) rfl (fun ls hl => ?_)
      refine lv_aload_n hx hb dL_law_801 rfl (lv_at hl 4 rfl) ?_
      refine k_callVi (C := RX5) (As := []) (rest := []) (wr := [cP (h 1) q, cB h (nI n), cS (h 4) v, aI G (h 6) 60 mo, aI G (h 7) 60 ki, aI G (h 8) 60 am, aZ G (h 9) 60 sk, aZ G (h 10) 60 dn, cF h (nI np), cH h, aI G (h 11) 121 y1, aI G (h 12) 121 y2, aI G (h 13) 121 y3, aI G (h 14) 121 y4, aI G (h 15) 121 y5, aI G (h 16) 121 y6, aI G (h 17) 121 y7, cS (h 5) tr2, aJ G (h 24) 1 (F_L_stateAt (nI np) y1 y2 y3 y4 y5 y6 y7 tr fo (xs (nI i + 1).toNatClampNeg)), aI G (h 19) 60 mo, aI G (h 20) 60 ki, aI G (h 21) 60 am, aZ G (h 22) 60 sk, aZ G (h 23) 60 dn6]) (c_X5_thrown l G h q.1 q.2.1 q.2.2 (nI np) (nI n) w2 0) S hK hW gL_law_X5_thrown rfl ⟨rfl, rfl⟩ nd_X5_thrown ⟨rfl, rfl⟩ (qb := 19) (ci := 5) rfl rfl [19] [0, 1, 2, 3, 4, 5, 6, 7, 8, 9, 10, 11, 12, 13, 14, 15, 16, 17, 18, 20, 21, 22, 23, 24] rfl rfl rfl rfl (by decide) rfl hl.1 rfl dL_law_802 hf1 (fun H locs hW => ?_)
      have hW : Wd G A sS.heap [cP (h 1) q, cB h (nI n), cS (h 4) v, aI G (h 6) 60 mo, aI G (h 7) 60 ki, aI G (h 8) 60 am, aZ G (h 9) 60 sk, aZ G (h 10) 60 dn, cF h (nI np), cH h, aI G (h 11) 121 y1, aI G (h 12) 121 y2, aI G (h 13) 121 y3, aI G (h 14) 121 y4, aI G (h 15) 121 y5, aI G (h 16) 121 y6, aI G (h 17) 121 y7, cS (h 5) tr2, aJ G (h 24) 1 (F_L_stateAt (nI np) y1 y2 y3 y4 y5 y6 y7 tr fo (xs (nI i + 1).toNatClampNeg)), aI G (h 19) 60 mo, aI G (h 20) 60 ki, aI G (h 21) 60 am, aZ G (h 22) 60 sk, aZ G (h 23) 60 dn6, cM h (q.1, q.2.1, q.2.2, (nI np), (nI n)) w2 0] H locs := hW
      refine lv_iload hx hb dL_law_805 (lv_at hl 1 rfl) ?_
      refine lv_icmp_eq (tgt := 812) hx hb dL_law_807 (by decide) (fun c_1 => ?_) (fun c_1 => ?_)
      ·
        refine lv_iload hx hb dL_law_812 (lv_at hl 1 rfl) ?_
        refine lv_if_ne (tgt := 829) hx hb dL_law_814 (by decide) (fun c_2 => ?_) (fun c_2 => ?_)
        ·
          exact absurd c_2 (by decide)
        ·
          refine lv_aload_n hx hb dL_law_817 rfl (lv_at hl 5 rfl) ?_
          refine lv_iconst (v := 0) hx hb dL_law_818 (by decide) ?_
          refine k_lald (n := 1) S hK hW 18 rfl (i := 0) vp_01 dL_law_819 ?_
          refine lv_iload hx hb dL_law_820 (lv_at hl 0 rfl) ?_
          refine lv_i2l hx hb dL_law_822 rfl ?_
          refine W.lcmp hx hb dL_law_823 ?_
          refine lv_if_eq (tgt := 829) hx hb dL_law_824 (by decide) (fun c_3 => ?_) (fun c_3 => ?_)
          ·
            refine lv_goto (tgt := 944) hx hb dL_law_829 (by decide) ?_
            exact K np n q mo ki am sk dn y1 y2 y3 y4 y5 y6 y7 v tr2 w2 0 dn6 (F_L_stateAt (nI np) y1 y2 y3 y4 y5 y6 y7 tr fo (xs (nI i + 1).toNatClampNeg)) I _ _ _ (hW.re [8, 0, 1, 9, 2, 17, 3, 4, 5, 6, 7, 10, 11, 12, 13, 14, 15, 16, 24, 19, 20, 21, 22, 23, 18] rfl rfl) (lv_sub hl [2, 3, 4, 5, 6] rfl)
          ·
            have ho : (F_L_stateAt (nI np) y1 y2 y3 y4 y5 y6 y7 tr fo (xs (nI i + 1).toNatClampNeg)) (0 : Int32).toNatClampNeg = aa.toInt64 := by
              unfold F_L_stateAt
              rw [e4]
              exact pk_uLs
            exact (c_3 (by rw [ho]; exact lcmp_self _)).elim
      ·
        exact (c_1 rfl).elim
set_option maxHeartbeats 4000000 in
set_option maxRecDepth 100000 in
theorem lc_wouldLapse {pP : Program} {l : Launch} {eE : Env} {sS : State} {mM : MethodId} {args : Array Value} {below : List Frame} {meth : Method} {cC : Code} {Q : State → Prop} {G : GG} {A : Nat → Prop} {h : Nat → Nat} {b L i : Nat} {xs : Nat → Int32} {cells slots : Nat} (X : LWX pP l sS mM args cC G A b L xs) (hi : i + 4 ≤ L) (hc : cells + 1 ≤ room_1.cells) (hs : slots + 6 ≤ room_1.slots) (K : LWP pP l eE sS mM args below meth cC Q G A h b i (cells + 1) (slots + 6)) (np n : Nat) (q : S3) (mo ki am : N32) (sk dn : Nat → Bool) (y1 y2 y3 y4 y5 y6 y7 : N32) (v tr w5 : S7) (t5 : Int32) (dn5 : Nat → Bool) (fo : Nat → Int64) (I : Inv np n q mo ki am sk (dn, y1, y2, y3, y4, y5, y6, y7, v)) (H : Heap) (locs : List Loc) (ls : Array Slot) (hW : Wd G A sS.heap [cF h (nI np), cP (h 1) q, cB h (nI n), cH h, cS (h 4) v, cS (h 5) tr, aI G (h 6) 60 mo, aI G (h 7) 60 ki, aI G (h 8) 60 am, aZ G (h 9) 60 sk, aZ G (h 10) 60 dn, aI G (h 11) 121 y1, aI G (h 12) 121 y2, aI G (h 13) 121 y3, aI G (h 14) 121 y4, aI G (h 15) 121 y5, aI G (h 16) 121 y6, aI G (h 17) 121 y7, cM h (q.1, q.2.1, q.2.2, (nI np), (nI n)) w5 t5, aI G (h 19) 60 mo, aI G (h 20) 60 ki, aI G (h 21) 60 am, aZ G (h 22) 60 sk, aZ G (h 23) 60 dn5, aJ G (h 24) 1 fo] H locs) (hl : lv_has ls 7 [(0, .ref b), (1, .ref (h 0)), (2, .ref (h 18)), (3, .ref (h 24)), (4, .int (nI i))]) :
    W pP l eE room_1 sS mM args below meth cC H locs cells slots Q (F0 mM 832 ls []) := by
  obtain ⟨S, hK, hXE, hXZ, hst, hX, hbl, hbA, hL⟩ := X
  have hx := S.1
  have hb := S.2.1
  have hn := I.1
  have hp := I.2.1
  have hmo := I.hmo
  have hf1 : cells + 1 ≤ room_1.cells ∧ slots + 6 ≤ room_1.slots := ⟨hc, hs⟩
  have hf0 : cells ≤ room_1.cells ∧ slots ≤ room_1.slots := ⟨Nat.le_of_succ_le hc, Nat.le_trans (Nat.le_add_right _ _) hs⟩
  rcases p_wouldLapse I tr w5 dn5 (xs (nI i + 1).toNatClampNeg) with ⟨kk, w2, dn6, hkk, e4, e5⟩ | ⟨aa, tr2, w2, dn6, e4, e5⟩
  ·
    have e4 : (F_X4_wouldLapse q v tr (xs (nI i + 1).toNatClampNeg) np).1 = kk := e4
    have e5 : (F_X5_wouldLapse q.1 q.2.1 q.2.2 w5 mo ki am sk dn5 (xs (nI i + 1).toNatClampNeg) np n) = (0, w2, kk, dn6) := e5
    refine lv_aload_n hx hb dL_law_832 rfl (lv_at hl 1 rfl) ?_
    refine lv_aload_n hx hb dL_law_833 rfl (lv_at hl 0 rfl) ?_
    refine lv_iload hx hb dL_law_834 (lv_at hl 4 rfl) ?_
    refine lv_iconst (v := 1) hx hb dL_law_836 (by decide) ?_
    refine lv_iadd hx hb dL_law_837 ?_
    refine va_sld hx hb hX hbl hbA hW.2.2.1 (sc1 hi hL) dL_law_838 ?_
    refine lv_aload_n hx hb dL_law_839 rfl (lv_at hl 3 rfl) ?_
    refine ky_callS (As := [.ref (h 0), .int (xs (nI i + 1).toNatClampNeg), .ref (h 24)]) (rest := []) (wr := [cB h (nI n), cH h, aI G (h 6) 60 mo, aI G (h 7) 60 ki, aI G (h 8) 60 am, aZ G (h 9) 60 sk, aZ G (h 10) 60 dn, aI G (h 11) 121 y1, aI G (h 12) 121 y2, aI G (h 13) 121 y3, aI G (h 14) 121 y4, aI G (h 15) 121 y5, aI G (h 16) 121 y6, aI G (h 17) 121 y7, cM h (q.1, q.2.1, q.2.2, (nI np), (nI n)) w5 t5, aI G (h 19) 60 mo, aI G (h 20) 60 ki, aI G (h 21) 60 am, aZ G (h 22) 60 sk, aZ G (h 23) 60 dn5]) (c_L_wouldLapse l hst G h q v tr fo (xs (nI i + 1).toNatClampNeg) np hp) S hK hW hXE hXZ gL_law_L_wouldLapse rfl ⟨rfl, rfl⟩ nd_L_wouldLapse ⟨rfl, rfl⟩ [0, 1, 4, 5, 24] [2, 3, 6, 7, 8, 9, 10, 11, 12, 13, 14, 15, 16, 17, 18, 19, 20, 21, 22, 23] rfl rfl rfl rfl (by decide) rfl hl.1 rfl dL_law_840 hf1 (fun H locs hk hW => ?_) (fun H locs hk hW => ?_)
    ·
      have hW : Wd G A sS.heap [cB h (nI n), cH h, aI G (h 6) 60 mo, aI G (h 7) 60 ki, aI G (h 8) 60 am, aZ G (h 9) 60 sk, aZ G (h 10) 60 dn, aI G (h 11) 121 y1, aI G (h 12) 121 y2, aI G (h 13) 121 y3, aI G (h 14) 121 y4, aI G (h 15) 121 y5, aI G (h 16) 121 y6, aI G (h 17) 121 y7, cM h (q.1, q.2.1, q.2.2, (nI np), (nI n)) w5 t5, aI G (h 19) 60 mo, aI G (h 20) 60 ki, aI G (h 21) 60 am, aZ G (h 22) 60 sk, aZ G (h 23) 60 dn5, cF h (nI np), cP (h 1) q, cS (h 4) v, cS (h 5) tr, aJ G (h 24) 1 fo] H locs := hW
      rw [e4]
      refine lv_istore (lv' := [(5, .int kk), (0, .ref b), (1, .ref (h 0)), (2, .ref (h 18)), (3, .ref (h 24)), (4, .int (nI i))]) hx hb dL_law_843 hl (by decide) rfl (fun ls hl => ?_)
      refine lv_aload_n hx hb dL_law_845 rfl (lv_at hl 3 rfl) ?_
      refine lv_aload_n hx hb dL_law_846 rfl (lv_at hl 1 rfl) ?_
      refine lv_iload hx hb dL_law_847 (lv_at hl 5 rfl) ?_
      refine lv_iconst (v := 1) hx hb dL_law_849 (by decide) ?_
      refine lv_iadd hx hb dL_law_850 ?_
      refine va_sld hx hb hX hbl hbA hW.2.2.1 (sc1 hi hL) dL_law_851 ?_
      refine k_callVi (C := RX5) (As := [.int (xs (nI i + 1).toNatClampNeg)]) (rest := []) (wr := [cB h (nI n), cH h, aI G (h 6) 60 mo, aI G (h 7) 60 ki, aI G (h 8) 60 am, aZ G (h 9) 60 sk, aZ G (h 10) 60 dn, aI G (h 11) 121 y1, aI G (h 12) 121 y2, aI G (h 13) 121 y3, aI G (h 14) 121 y4, aI G (h 15) 121 y5, aI G (h 16) 121 y6, aI G (h 17) 121 y7, cF h (nI np), cP (h 1) q, cS (h 4) v, cS (h 5) tr, aJ G (h 24) 1 fo]) (c_X5_wouldLapse l G h q.1 q.2.1 q.2.2 w5 t5 mo ki am sk dn5 (xs (nI i + 1).toNatClampNeg) np n (by omega) (by omega)) S hK hW gL_law_X5_wouldLapse rfl ⟨rfl, rfl⟩ nd_X5_wouldLapse ⟨rfl, rfl⟩ (qb := 14) (ci := 5) rfl rfl [14, 15, 16, 17, 18, 19] [0, 1, 2, 3, 4, 5, 6, 7, 8, 9, 10, 11, 12, 13, 20, 21, 22, 23, 24] rfl rfl rfl rfl (by decide) rfl hl.1 rfl dL_law_852 hf1 (fun H locs hW => ?_)
      have hW : Wd G A sS.heap [cB h (nI n), cH h, aI G (h 6) 60 mo, aI G (h 7) 60 ki, aI G (h 8) 60 am, aZ G (h 9) 60 sk, aZ G (h 10) 60 dn, aI G (h 11) 121 y1, aI G (h 12) 121 y2, aI G (h 13) 121 y3, aI G (h 14) 121 y4, aI G (h 15) 121 y5, aI G (h 16) 121 y6, aI G (h 17) 121 y7, cF h (nI np), cP (h 1) q, cS (h 4) v, cS (h 5) tr, aJ G (h 24) 1 fo, cM h (q.1, q.2.1, q.2.2, (nI np), (nI n)) ((F_X5_wouldLapse q.1 q.2.1 q.2.2 w5 mo ki am sk dn5 (xs (nI i + 1).toNatClampNeg) np n).2.1) ((F_X5_wouldLapse q.1 q.2.1 q.2.2 w5 mo ki am sk dn5 (xs (nI i + 1).toNatClampNeg) np n).2.2.1), aI G (h 19) 60 mo, aI G (h 20) 60 ki, aI G (h 21) 60 am, aZ G (h 22) 60 sk, aZ G (h 23) 60 ((F_X5_wouldLapse q.1 q.2.1 q.2.2 w5 mo ki am sk dn5 (xs (nI i + 1).toNatClampNeg) np n).2.2.2)] H locs := hW
      rw [e5] at hW
      rw [e5]
      have hW : Wd G A sS.heap [cB h (nI n), cH h, aI G (h 6) 60 mo, aI G (h 7) 60 ki, aI G (h 8) 60 am, aZ G (h 9) 60 sk, aZ G (h 10) 60 dn, aI G (h 11) 121 y1, aI G (h 12) 121 y2, aI G (h 13) 121 y3, aI G (h 14) 121 y4, aI G (h 15) 121 y5, aI G (h 16) 121 y6, aI G (h 17) 121 y7, cF h (nI np), cP (h 1) q, cS (h 4) v, cS (h 5) tr, aJ G (h 24) 1 fo, cM h (q.1, q.2.1, q.2.2, (nI np), (nI n)) w2 kk, aI G (h 19) 60 mo, aI G (h 20) 60 ki, aI G (h 21) 60 am, aZ G (h 22) 60 sk, aZ G (h 23) 60 dn6] H locs := hW
      refine lv_istore (lv' := [(6, .int 0), (5, .int kk), (0, .ref b), (1, .ref (h 0)), (2, .ref (h 18)), (3, .ref (h 24)), (4, .int (nI i))]) hx hb dL_law_855 hl (by decide) rfl (fun ls hl => ?_)
      refine lv_aload_n hx hb dL_law_857 rfl (lv_at hl 4 rfl) ?_
      refine k_callVi (C := RX5) (As := []) (rest := []) (wr := [cB h (nI n), cH h, aI G (h 6) 60 mo, aI G (h 7) 60 ki, aI G (h 8) 60 am, aZ G (h 9) 60 sk, aZ G (h 10) 60 dn, aI G (h 11) 121 y1, aI G (h 12) 121 y2, aI G (h 13) 121 y3, aI G (h 14) 121 y4, aI G (h 15) 121 y5, aI G (h 16) 121 y6, aI G (h 17) 121 y7, cF h (nI np), cP (h 1) q, cS (h 4) v, cS (h 5) tr, aJ G (h 24) 1 fo, aI G (h 19) 60 mo, aI G (h 20) 60 ki, aI G (h 21) 60 am, aZ G (h 22) 60 sk, aZ G (h 23) 60 dn6]) (c_X5_thrown l G h q.1 q.2.1 q.2.2 (nI np) (nI n) w2 kk) S hK hW gL_law_X5_thrown rfl ⟨rfl, rfl⟩ nd_X5_thrown ⟨rfl, rfl⟩ (qb := 19) (ci := 5) rfl rfl [19] [0, 1, 2, 3, 4, 5, 6, 7, 8, 9, 10, 11, 12, 13, 14, 15, 16, 17, 18, 20, 21, 22, 23, 24] rfl rfl rfl rfl (by decide) rfl hl.1 rfl dL_law_858 hf1 (fun H locs hW => ?_)
      have hW : Wd G A sS.heap [cB h (nI n), cH h, aI G (h 6) 60 mo, aI G (h 7) 60 ki, aI G (h 8) 60 am, aZ G (h 9) 60 sk, aZ G (h 10) 60 dn, aI G (h 11) 121 y1, aI G (h 12) 121 y2, aI G (h 13) 121 y3, aI G (h 14) 121 y4, aI G (h 15) 121 y5, aI G (h 16) 121 y6, aI G (h 17) 121 y7, cF h (nI np), cP (h 1) q, cS (h 4) v, cS (h 5) tr, aJ G (h 24) 1 fo, aI G (h 19) 60 mo, aI G (h 20) 60 ki, aI G (h 21) 60 am, aZ G (h 22) 60 sk, aZ G (h 23) 60 dn6, cM h (q.1, q.2.1, q.2.2, (nI np), (nI n)) w2 kk] H locs := hW
      refine lv_iload hx hb dL_law_861 (lv_at hl 1 rfl) ?_
      refine lv_icmp_eq (tgt := 868) hx hb dL_law_863 (by decide) (fun c_1 => ?_) (fun c_1 => ?_)
      ·
        refine lv_iload hx hb dL_law_868 (lv_at hl 1 rfl) ?_
        refine lv_if_ne (tgt := 885) hx hb dL_law_870 (by decide) (fun c_2 => ?_) (fun c_2 => ?_)
        ·
          refine lv_goto (tgt := 944) hx hb dL_law_885 (by decide) ?_
          exact K np n q mo ki am sk dn y1 y2 y3 y4 y5 y6 y7 v tr w2 kk dn6 fo I _ _ _ (hW.re [14, 15, 0, 1, 16, 17, 2, 3, 4, 5, 6, 7, 8, 9, 10, 11, 12, 13, 24, 19, 20, 21, 22, 23, 18] rfl rfl) (lv_sub hl [2, 3, 4, 5, 6] rfl)
        ·
          exact absurd c_2 hkk
      ·
        exact (c_1 rfl).elim
    · exact absurd (e4.symm.trans hk) hkk
  ·
    have e4 : (F_X4_wouldLapse q v tr (xs (nI i + 1).toNatClampNeg) np) = (0, aa, tr2) := e4
    have e5 : (F_X5_wouldLapse q.1 q.2.1 q.2.2 w5 mo ki am sk dn5 (xs (nI i + 1).toNatClampNeg) np n) = (aa, w2, 0, dn6) := e5
    refine lv_aload_n hx hb dL_law_832 rfl (lv_at hl 1 rfl) ?_
    refine lv_aload_n hx hb dL_law_833 rfl (lv_at hl 0 rfl) ?_
    refine lv_iload hx hb dL_law_834 (lv_at hl 4 rfl) ?_
    refine lv_iconst (v := 1) hx hb dL_law_836 (by decide) ?_
    refine lv_iadd hx hb dL_law_837 ?_
    refine va_sld hx hb hX hbl hbA hW.2.2.1 (sc1 hi hL) dL_law_838 ?_
    refine lv_aload_n hx hb dL_law_839 rfl (lv_at hl 3 rfl) ?_
    refine ky_callS (As := [.ref (h 0), .int (xs (nI i + 1).toNatClampNeg), .ref (h 24)]) (rest := []) (wr := [cB h (nI n), cH h, aI G (h 6) 60 mo, aI G (h 7) 60 ki, aI G (h 8) 60 am, aZ G (h 9) 60 sk, aZ G (h 10) 60 dn, aI G (h 11) 121 y1, aI G (h 12) 121 y2, aI G (h 13) 121 y3, aI G (h 14) 121 y4, aI G (h 15) 121 y5, aI G (h 16) 121 y6, aI G (h 17) 121 y7, cM h (q.1, q.2.1, q.2.2, (nI np), (nI n)) w5 t5, aI G (h 19) 60 mo, aI G (h 20) 60 ki, aI G (h 21) 60 am, aZ G (h 22) 60 sk, aZ G (h 23) 60 dn5]) (c_L_wouldLapse l hst G h q v tr fo (xs (nI i + 1).toNatClampNeg) np hp) S hK hW hXE hXZ gL_law_L_wouldLapse rfl ⟨rfl, rfl⟩ nd_L_wouldLapse ⟨rfl, rfl⟩ [0, 1, 4, 5, 24] [2, 3, 6, 7, 8, 9, 10, 11, 12, 13, 14, 15, 16, 17, 18, 19, 20, 21, 22, 23] rfl rfl rfl rfl (by decide) rfl hl.1 rfl dL_law_840 hf1 (fun H locs hk hW => ?_) (fun H locs hk hW => ?_)
    · exact absurd (show (F_X4_wouldLapse q v tr (xs (nI i + 1).toNatClampNeg) np).1 = 0 by rw [e4]) hk
    ·
      rw [hk]
      try rw [e4] at hW
      have hW : Wd G A sS.heap [cB h (nI n), cH h, aI G (h 6) 60 mo, aI G (h 7) 60 ki, aI G (h 8) 60 am, aZ G (h 9) 60 sk, aZ G (h 10) 60 dn, aI G (h 11) 121 y1, aI G (h 12) 121 y2, aI G (h 13) 121 y3, aI G (h 14) 121 y4, aI G (h 15) 121 y5, aI G (h 16) 121 y6, aI G (h 17) 121 y7, cM h (q.1, q.2.1, q.2.2, (nI np), (nI n)) w5 t5, aI G (h 19) 60 mo, aI G (h 20) 60 ki, aI G (h 21) 60 am, aZ G (h 22) 60 sk, aZ G (h 23) 60 dn5, cF h (nI np), cP (h 1) q, cS (h 4) v, cS (h 5) tr2, aJ G (h 24) 1 (F_L_wouldLapse q v tr fo (xs (nI i + 1).toNatClampNeg) np)] H locs := hW
      refine lv_istore (lv' := [(5, .int 0), (0, .ref b), (1, .ref (h 0)), (2, .ref (h 18)), (3, .ref (h 24)), (4, .int (nI i))]) hx hb dL_law_843 hl (by decide) rfl (fun ls hl => ?_)
      refine lv_aload_n hx hb dL_law_845 rfl (lv_at hl 3 rfl) ?_
      refine lv_aload_n hx hb dL_law_846 rfl (lv_at hl 1 rfl) ?_
      refine lv_iload hx hb dL_law_847 (lv_at hl 5 rfl) ?_
      refine lv_iconst (v := 1) hx hb dL_law_849 (by decide) ?_
      refine lv_iadd hx hb dL_law_850 ?_
      refine va_sld hx hb hX hbl hbA hW.2.2.1 (sc1 hi hL) dL_law_851 ?_
      refine k_callVi (C := RX5) (As := [.int (xs (nI i + 1).toNatClampNeg)]) (rest := []) (wr := [cB h (nI n), cH h, aI G (h 6) 60 mo, aI G (h 7) 60 ki, aI G (h 8) 60 am, aZ G (h 9) 60 sk, aZ G (h 10) 60 dn, aI G (h 11) 121 y1, aI G (h 12) 121 y2, aI G (h 13) 121 y3, aI G (h 14) 121 y4, aI G (h 15) 121 y5, aI G (h 16) 121 y6, aI G (h 17) 121 y7, cF h (nI np), cP (h 1) q, cS (h 4) v, cS (h 5) tr2, aJ G (h 24) 1 (F_L_wouldLapse q v tr fo (xs (nI i + 1).toNatClampNeg) np)]) (c_X5_wouldLapse l G h q.1 q.2.1 q.2.2 w5 t5 mo ki am sk dn5 (xs (nI i + 1).toNatClampNeg) np n (by omega) (by omega)) S hK hW gL_law_X5_wouldLapse rfl ⟨rfl, rfl⟩ nd_X5_wouldLapse ⟨rfl, rfl⟩ (qb := 14) (ci := 5) rfl rfl [14, 15, 16, 17, 18, 19] [0, 1, 2, 3, 4, 5, 6, 7, 8, 9, 10, 11, 12, 13, 20, 21, 22, 23, 24] rfl rfl rfl rfl (by decide) rfl hl.1 rfl dL_law_852 hf1 (fun H locs hW => ?_)
      have hW : Wd G A sS.heap [cB h (nI n), cH h, aI G (h 6) 60 mo, aI G (h 7) 60 ki, aI G (h 8) 60 am, aZ G (h 9) 60 sk, aZ G (h 10) 60 dn, aI G (h 11) 121 y1, aI G (h 12) 121 y2, aI G (h 13) 121 y3, aI G (h 14) 121 y4, aI G (h 15) 121 y5, aI G (h 16) 121 y6, aI G (h 17) 121 y7, cF h (nI np), cP (h 1) q, cS (h 4) v, cS (h 5) tr2, aJ G (h 24) 1 (F_L_wouldLapse q v tr fo (xs (nI i + 1).toNatClampNeg) np), cM h (q.1, q.2.1, q.2.2, (nI np), (nI n)) ((F_X5_wouldLapse q.1 q.2.1 q.2.2 w5 mo ki am sk dn5 (xs (nI i + 1).toNatClampNeg) np n).2.1) ((F_X5_wouldLapse q.1 q.2.1 q.2.2 w5 mo ki am sk dn5 (xs (nI i + 1).toNatClampNeg) np n).2.2.1), aI G (h 19) 60 mo, aI G (h 20) 60 ki, aI G (h 21) 60 am, aZ G (h 22) 60 sk, aZ G (h 23) 60 ((F_X5_wouldLapse q.1 q.2.1 q.2.2 w5 mo ki am sk dn5 (xs (nI i + 1).toNatClampNeg) np n).2.2.2)] H locs := hW
      rw [e5] at hW
      rw [e5]
      have hW : Wd G A sS.heap [cB h (nI n), cH h, aI G (h 6) 60 mo, aI G (h 7) 60 ki, aI G (h 8) 60 am, aZ G (h 9) 60 sk, aZ G (h 10) 60 dn, aI G (h 11) 121 y1, aI G (h 12) 121 y2, aI G (h 13) 121 y3, aI G (h 14) 121 y4, aI G (h 15) 121 y5, aI G (h 16) 121 y6, aI G (h 17) 121 y7, cF h (nI np), cP (h 1) q, cS (h 4) v, cS (h 5) tr2, aJ G (h 24) 1 (F_L_wouldLapse q v tr fo (xs (nI i + 1).toNatClampNeg) np), cM h (q.1, q.2.1, q.2.2, (nI np), (nI n)) w2 0, aI G (h 19) 60 mo, aI G (h 20) 60 ki, aI G (h 21) 60 am, aZ G (h 22) 60 sk, aZ G (h 23) 60 dn6] H locs := hW
      refine lv_istore (lv' := [(6, .int aa), (5, .int 0), (0, .ref b), (1, .ref (h 0)), (2, .ref (h 18)), (3, .ref (h 24)), (4, .int (nI i))]) hx hb dL_law_855 hl (by decide) rfl (fun ls hl => ?_)
      refine lv_aload_n hx hb dL_law_857 rfl (lv_at hl 4 rfl) ?_
      refine k_callVi (C := RX5) (As := []) (rest := []) (wr := [cB h (nI n), cH h, aI G (h 6) 60 mo, aI G (h 7) 60 ki, aI G (h 8) 60 am, aZ G (h 9) 60 sk, aZ G (h 10) 60 dn, aI G (h 11) 121 y1, aI G (h 12) 121 y2, aI G (h 13) 121 y3, aI G (h 14) 121 y4, aI G (h 15) 121 y5, aI G (h 16) 121 y6, aI G (h 17) 121 y7, cF h (nI np), cP (h 1) q, cS (h 4) v, cS (h 5) tr2, aJ G (h 24) 1 (F_L_wouldLapse q v tr fo (xs (nI i + 1).toNatClampNeg) np), aI G (h 19) 60 mo, aI G (h 20) 60 ki, aI G (h 21) 60 am, aZ G (h 22) 60 sk, aZ G (h 23) 60 dn6]) (c_X5_thrown l G h q.1 q.2.1 q.2.2 (nI np) (nI n) w2 0) S hK hW gL_law_X5_thrown rfl ⟨rfl, rfl⟩ nd_X5_thrown ⟨rfl, rfl⟩ (qb := 19) (ci := 5) rfl rfl [19] [0, 1, 2, 3, 4, 5, 6, 7, 8, 9, 10, 11, 12, 13, 14, 15, 16, 17, 18, 20, 21, 22, 23, 24] rfl rfl rfl rfl (by decide) rfl hl.1 rfl dL_law_858 hf1 (fun H locs hW => ?_)
      have hW : Wd G A sS.heap [cB h (nI n), cH h, aI G (h 6) 60 mo, aI G (h 7) 60 ki, aI G (h 8) 60 am, aZ G (h 9) 60 sk, aZ G (h 10) 60 dn, aI G (h 11) 121 y1, aI G (h 12) 121 y2, aI G (h 13) 121 y3, aI G (h 14) 121 y4, aI G (h 15) 121 y5, aI G (h 16) 121 y6, aI G (h 17) 121 y7, cF h (nI np), cP (h 1) q, cS (h 4) v, cS (h 5) tr2, aJ G (h 24) 1 (F_L_wouldLapse q v tr fo (xs (nI i + 1).toNatClampNeg) np), aI G (h 19) 60 mo, aI G (h 20) 60 ki, aI G (h 21) 60 am, aZ G (h 22) 60 sk, aZ G (h 23) 60 dn6, cM h (q.1, q.2.1, q.2.2, (nI np), (nI n)) w2 0] H locs := hW
      refine lv_iload hx hb dL_law_861 (lv_at hl 1 rfl) ?_
      refine lv_icmp_eq (tgt := 868) hx hb dL_law_863 (by decide) (fun c_1 => ?_) (fun c_1 => ?_)
      ·
        refine lv_iload hx hb dL_law_868 (lv_at hl 1 rfl) ?_
        refine lv_if_ne (tgt := 885) hx hb dL_law_870 (by decide) (fun c_2 => ?_) (fun c_2 => ?_)
        ·
          exact absurd c_2 (by decide)
        ·
          refine lv_aload_n hx hb dL_law_873 rfl (lv_at hl 5 rfl) ?_
          refine lv_iconst (v := 0) hx hb dL_law_874 (by decide) ?_
          refine k_lald (n := 1) S hK hW 18 rfl (i := 0) vp_01 dL_law_875 ?_
          refine lv_iload hx hb dL_law_876 (lv_at hl 0 rfl) ?_
          refine lv_i2l hx hb dL_law_878 rfl ?_
          refine W.lcmp hx hb dL_law_879 ?_
          refine lv_if_eq (tgt := 885) hx hb dL_law_880 (by decide) (fun c_3 => ?_) (fun c_3 => ?_)
          ·
            refine lv_goto (tgt := 944) hx hb dL_law_885 (by decide) ?_
            exact K np n q mo ki am sk dn y1 y2 y3 y4 y5 y6 y7 v tr2 w2 0 dn6 (F_L_wouldLapse q v tr fo (xs (nI i + 1).toNatClampNeg) np) I _ _ _ (hW.re [14, 15, 0, 1, 16, 17, 2, 3, 4, 5, 6, 7, 8, 9, 10, 11, 12, 13, 24, 19, 20, 21, 22, 23, 18] rfl rfl) (lv_sub hl [2, 3, 4, 5, 6] rfl)
          ·
            have ho : (F_L_wouldLapse q v tr fo (xs (nI i + 1).toNatClampNeg) np) (0 : Int32).toNatClampNeg = aa.toInt64 := by
              unfold F_L_wouldLapse
              rw [e4]
              exact pk_uLs
            exact (c_3 (by rw [ho]; exact lcmp_self _)).elim
      ·
        exact (c_1 rfl).elim
set_option maxHeartbeats 4000000 in
set_option maxRecDepth 100000 in
theorem lc_needed {pP : Program} {l : Launch} {eE : Env} {sS : State} {mM : MethodId} {args : Array Value} {below : List Frame} {meth : Method} {cC : Code} {Q : State → Prop} {G : GG} {A : Nat → Prop} {h : Nat → Nat} {b L i : Nat} {xs : Nat → Int32} {cells slots : Nat} (X : LWX pP l sS mM args cC G A b L xs) (hi : i + 4 ≤ L) (hc : cells + 1 ≤ room_1.cells) (hs : slots + 6 ≤ room_1.slots) (K : LWP pP l eE sS mM args below meth cC Q G A h b i (cells + 1) (slots + 6)) (np n : Nat) (q : S3) (mo ki am : N32) (sk dn : Nat → Bool) (y1 y2 y3 y4 y5 y6 y7 : N32) (v tr w5 : S7) (t5 : Int32) (dn5 : Nat → Bool) (fo : Nat → Int64) (I : Inv np n q mo ki am sk (dn, y1, y2, y3, y4, y5, y6, y7, v)) (H : Heap) (locs : List Loc) (ls : Array Slot) (hW : Wd G A sS.heap [cF h (nI np), cP (h 1) q, cB h (nI n), cH h, cS (h 4) v, cS (h 5) tr, aI G (h 6) 60 mo, aI G (h 7) 60 ki, aI G (h 8) 60 am, aZ G (h 9) 60 sk, aZ G (h 10) 60 dn, aI G (h 11) 121 y1, aI G (h 12) 121 y2, aI G (h 13) 121 y3, aI G (h 14) 121 y4, aI G (h 15) 121 y5, aI G (h 16) 121 y6, aI G (h 17) 121 y7, cM h (q.1, q.2.1, q.2.2, (nI np), (nI n)) w5 t5, aI G (h 19) 60 mo, aI G (h 20) 60 ki, aI G (h 21) 60 am, aZ G (h 22) 60 sk, aZ G (h 23) 60 dn5, aJ G (h 24) 1 fo] H locs) (hl : lv_has ls 7 [(0, .ref b), (1, .ref (h 0)), (2, .ref (h 18)), (3, .ref (h 24)), (4, .int (nI i))]) :
    W pP l eE room_1 sS mM args below meth cC H locs cells slots Q (F0 mM 888 ls []) := by
  obtain ⟨S, hK, hXE, hXZ, hst, hX, hbl, hbA, hL⟩ := X
  have hx := S.1
  have hb := S.2.1
  have hn := I.1
  have hp := I.2.1
  have hmo := I.hmo
  have hf1 : cells + 1 ≤ room_1.cells ∧ slots + 6 ≤ room_1.slots := ⟨hc, hs⟩
  have hf0 : cells ≤ room_1.cells ∧ slots ≤ room_1.slots := ⟨Nat.le_of_succ_le hc, Nat.le_trans (Nat.le_add_right _ _) hs⟩
  rcases p_needed I tr w5 dn5 (xs (nI i + 1).toNatClampNeg) with ⟨kk, w2, dn6, hkk, e4, e5⟩ | ⟨aa, tr2, w2, dn6, e4, e5⟩
  ·
    have e4 : (F_X4_needed q v tr (xs (nI i + 1).toNatClampNeg) np).1 = kk := e4
    have e5 : (F_X5_needed q.1 q.2.1 q.2.2 w5 mo ki am sk dn5 (xs (nI i + 1).toNatClampNeg) np n) = (0, w2, kk, dn6) := e5
    refine lv_aload_n hx hb dL_law_888 rfl (lv_at hl 1 rfl) ?_
    refine lv_aload_n hx hb dL_law_889 rfl (lv_at hl 0 rfl) ?_
    refine lv_iload hx hb dL_law_890 (lv_at hl 4 rfl) ?_
    refine lv_iconst (v := 1) hx hb dL_law_892 (by decide) ?_
    refine lv_iadd hx hb dL_law_893 ?_
    refine va_sld hx hb hX hbl hbA hW.2.2.1 (sc1 hi hL) dL_law_894 ?_
    refine lv_aload_n hx hb dL_law_895 rfl (lv_at hl 3 rfl) ?_
    refine ky_callS (As := [.ref (h 0), .int (xs (nI i + 1).toNatClampNeg), .ref (h 24)]) (rest := []) (wr := [cB h (nI n), cH h, aI G (h 6) 60 mo, aI G (h 7) 60 ki, aI G (h 8) 60 am, aZ G (h 9) 60 sk, aZ G (h 10) 60 dn, aI G (h 11) 121 y1, aI G (h 12) 121 y2, aI G (h 13) 121 y3, aI G (h 14) 121 y4, aI G (h 15) 121 y5, aI G (h 16) 121 y6, aI G (h 17) 121 y7, cM h (q.1, q.2.1, q.2.2, (nI np), (nI n)) w5 t5, aI G (h 19) 60 mo, aI G (h 20) 60 ki, aI G (h 21) 60 am, aZ G (h 22) 60 sk, aZ G (h 23) 60 dn5]) (c_L_needed l hst G h q v tr fo (xs (nI i + 1).toNatClampNeg) np hp) S hK hW hXE hXZ gL_law_L_needed rfl ⟨rfl, rfl⟩ nd_L_needed ⟨rfl, rfl⟩ [0, 1, 4, 5, 24] [2, 3, 6, 7, 8, 9, 10, 11, 12, 13, 14, 15, 16, 17, 18, 19, 20, 21, 22, 23] rfl rfl rfl rfl (by decide) rfl hl.1 rfl dL_law_896 hf1 (fun H locs hk hW => ?_) (fun H locs hk hW => ?_)
    ·
      have hW : Wd G A sS.heap [cB h (nI n), cH h, aI G (h 6) 60 mo, aI G (h 7) 60 ki, aI G (h 8) 60 am, aZ G (h 9) 60 sk, aZ G (h 10) 60 dn, aI G (h 11) 121 y1, aI G (h 12) 121 y2, aI G (h 13) 121 y3, aI G (h 14) 121 y4, aI G (h 15) 121 y5, aI G (h 16) 121 y6, aI G (h 17) 121 y7, cM h (q.1, q.2.1, q.2.2, (nI np), (nI n)) w5 t5, aI G (h 19) 60 mo, aI G (h 20) 60 ki, aI G (h 21) 60 am, aZ G (h 22) 60 sk, aZ G (h 23) 60 dn5, cF h (nI np), cP (h 1) q, cS (h 4) v, cS (h 5) tr, aJ G (h 24) 1 fo] H locs := hW
      rw [e4]
      refine lv_istore (lv' := [(5, .int kk), (0, .ref b), (1, .ref (h 0)), (2, .ref (h 18)), (3, .ref (h 24)), (4, .int (nI i))]) hx hb dL_law_899 hl (by decide) rfl (fun ls hl => ?_)
      refine lv_aload_n hx hb dL_law_901 rfl (lv_at hl 3 rfl) ?_
      refine lv_aload_n hx hb dL_law_902 rfl (lv_at hl 1 rfl) ?_
      refine lv_iload hx hb dL_law_903 (lv_at hl 5 rfl) ?_
      refine lv_iconst (v := 1) hx hb dL_law_905 (by decide) ?_
      refine lv_iadd hx hb dL_law_906 ?_
      refine va_sld hx hb hX hbl hbA hW.2.2.1 (sc1 hi hL) dL_law_907 ?_
      refine k_callVi (C := RX5) (As := [.int (xs (nI i + 1).toNatClampNeg)]) (rest := []) (wr := [cB h (nI n), cH h, aI G (h 6) 60 mo, aI G (h 7) 60 ki, aI G (h 8) 60 am, aZ G (h 9) 60 sk, aZ G (h 10) 60 dn, aI G (h 11) 121 y1, aI G (h 12) 121 y2, aI G (h 13) 121 y3, aI G (h 14) 121 y4, aI G (h 15) 121 y5, aI G (h 16) 121 y6, aI G (h 17) 121 y7, cF h (nI np), cP (h 1) q, cS (h 4) v, cS (h 5) tr, aJ G (h 24) 1 fo]) (c_X5_needed l G h q.1 q.2.1 q.2.2 w5 t5 mo ki am sk dn5 (xs (nI i + 1).toNatClampNeg) np n (by omega) (by omega)) S hK hW gL_law_X5_needed rfl ⟨rfl, rfl⟩ nd_X5_needed ⟨rfl, rfl⟩ (qb := 14) (ci := 5) rfl rfl [14, 15, 16, 17, 18, 19] [0, 1, 2, 3, 4, 5, 6, 7, 8, 9, 10, 11, 12, 13, 20, 21, 22, 23, 24] rfl rfl rfl rfl (by decide) rfl hl.1 rfl dL_law_908 hf1 (fun H locs hW => ?_)
      have hW : Wd G A sS.heap [cB h (nI n), cH h, aI G (h 6) 60 mo, aI G (h 7) 60 ki, aI G (h 8) 60 am, aZ G (h 9) 60 sk, aZ G (h 10) 60 dn, aI G (h 11) 121 y1, aI G (h 12) 121 y2, aI G (h 13) 121 y3, aI G (h 14) 121 y4, aI G (h 15) 121 y5, aI G (h 16) 121 y6, aI G (h 17) 121 y7, cF h (nI np), cP (h 1) q, cS (h 4) v, cS (h 5) tr, aJ G (h 24) 1 fo, cM h (q.1, q.2.1, q.2.2, (nI np), (nI n)) ((F_X5_needed q.1 q.2.1 q.2.2 w5 mo ki am sk dn5 (xs (nI i + 1).toNatClampNeg) np n).2.1) ((F_X5_needed q.1 q.2.1 q.2.2 w5 mo ki am sk dn5 (xs (nI i + 1).toNatClampNeg) np n).2.2.1), aI G (h 19) 60 mo, aI G (h 20) 60 ki, aI G (h 21) 60 am, aZ G (h 22) 60 sk, aZ G (h 23) 60 ((F_X5_needed q.1 q.2.1 q.2.2 w5 mo ki am sk dn5 (xs (nI i + 1).toNatClampNeg) np n).2.2.2)] H locs := hW
      rw [e5] at hW
      rw [e5]
      have hW : Wd G A sS.heap [cB h (nI n), cH h, aI G (h 6) 60 mo, aI G (h 7) 60 ki, aI G (h 8) 60 am, aZ G (h 9) 60 sk, aZ G (h 10) 60 dn, aI G (h 11) 121 y1, aI G (h 12) 121 y2, aI G (h 13) 121 y3, aI G (h 14) 121 y4, aI G (h 15) 121 y5, aI G (h 16) 121 y6, aI G (h 17) 121 y7, cF h (nI np), cP (h 1) q, cS (h 4) v, cS (h 5) tr, aJ G (h 24) 1 fo, cM h (q.1, q.2.1, q.2.2, (nI np), (nI n)) w2 kk, aI G (h 19) 60 mo, aI G (h 20) 60 ki, aI G (h 21) 60 am, aZ G (h 22) 60 sk, aZ G (h 23) 60 dn6] H locs := hW
      refine lv_istore (lv' := [(6, .int 0), (5, .int kk), (0, .ref b), (1, .ref (h 0)), (2, .ref (h 18)), (3, .ref (h 24)), (4, .int (nI i))]) hx hb dL_law_911 hl (by decide) rfl (fun ls hl => ?_)
      refine lv_aload_n hx hb dL_law_913 rfl (lv_at hl 4 rfl) ?_
      refine k_callVi (C := RX5) (As := []) (rest := []) (wr := [cB h (nI n), cH h, aI G (h 6) 60 mo, aI G (h 7) 60 ki, aI G (h 8) 60 am, aZ G (h 9) 60 sk, aZ G (h 10) 60 dn, aI G (h 11) 121 y1, aI G (h 12) 121 y2, aI G (h 13) 121 y3, aI G (h 14) 121 y4, aI G (h 15) 121 y5, aI G (h 16) 121 y6, aI G (h 17) 121 y7, cF h (nI np), cP (h 1) q, cS (h 4) v, cS (h 5) tr, aJ G (h 24) 1 fo, aI G (h 19) 60 mo, aI G (h 20) 60 ki, aI G (h 21) 60 am, aZ G (h 22) 60 sk, aZ G (h 23) 60 dn6]) (c_X5_thrown l G h q.1 q.2.1 q.2.2 (nI np) (nI n) w2 kk) S hK hW gL_law_X5_thrown rfl ⟨rfl, rfl⟩ nd_X5_thrown ⟨rfl, rfl⟩ (qb := 19) (ci := 5) rfl rfl [19] [0, 1, 2, 3, 4, 5, 6, 7, 8, 9, 10, 11, 12, 13, 14, 15, 16, 17, 18, 20, 21, 22, 23, 24] rfl rfl rfl rfl (by decide) rfl hl.1 rfl dL_law_914 hf1 (fun H locs hW => ?_)
      have hW : Wd G A sS.heap [cB h (nI n), cH h, aI G (h 6) 60 mo, aI G (h 7) 60 ki, aI G (h 8) 60 am, aZ G (h 9) 60 sk, aZ G (h 10) 60 dn, aI G (h 11) 121 y1, aI G (h 12) 121 y2, aI G (h 13) 121 y3, aI G (h 14) 121 y4, aI G (h 15) 121 y5, aI G (h 16) 121 y6, aI G (h 17) 121 y7, cF h (nI np), cP (h 1) q, cS (h 4) v, cS (h 5) tr, aJ G (h 24) 1 fo, aI G (h 19) 60 mo, aI G (h 20) 60 ki, aI G (h 21) 60 am, aZ G (h 22) 60 sk, aZ G (h 23) 60 dn6, cM h (q.1, q.2.1, q.2.2, (nI np), (nI n)) w2 kk] H locs := hW
      refine lv_iload hx hb dL_law_917 (lv_at hl 1 rfl) ?_
      refine lv_icmp_eq (tgt := 924) hx hb dL_law_919 (by decide) (fun c_1 => ?_) (fun c_1 => ?_)
      ·
        refine lv_iload hx hb dL_law_924 (lv_at hl 1 rfl) ?_
        refine lv_if_ne (tgt := 941) hx hb dL_law_926 (by decide) (fun c_2 => ?_) (fun c_2 => ?_)
        ·
          refine lv_goto (tgt := 944) hx hb dL_law_941 (by decide) ?_
          exact K np n q mo ki am sk dn y1 y2 y3 y4 y5 y6 y7 v tr w2 kk dn6 fo I _ _ _ (hW.re [14, 15, 0, 1, 16, 17, 2, 3, 4, 5, 6, 7, 8, 9, 10, 11, 12, 13, 24, 19, 20, 21, 22, 23, 18] rfl rfl) (lv_sub hl [2, 3, 4, 5, 6] rfl)
        ·
          exact absurd c_2 hkk
      ·
        exact (c_1 rfl).elim
    · exact absurd (e4.symm.trans hk) hkk
  ·
    have e4 : (F_X4_needed q v tr (xs (nI i + 1).toNatClampNeg) np) = (0, aa, tr2) := e4
    have e5 : (F_X5_needed q.1 q.2.1 q.2.2 w5 mo ki am sk dn5 (xs (nI i + 1).toNatClampNeg) np n) = (aa, w2, 0, dn6) := e5
    refine lv_aload_n hx hb dL_law_888 rfl (lv_at hl 1 rfl) ?_
    refine lv_aload_n hx hb dL_law_889 rfl (lv_at hl 0 rfl) ?_
    refine lv_iload hx hb dL_law_890 (lv_at hl 4 rfl) ?_
    refine lv_iconst (v := 1) hx hb dL_law_892 (by decide) ?_
    refine lv_iadd hx hb dL_law_893 ?_
    refine va_sld hx hb hX hbl hbA hW.2.2.1 (sc1 hi hL) dL_law_894 ?_
    refine lv_aload_n hx hb dL_law_895 rfl (lv_at hl 3 rfl) ?_
    refine ky_callS (As := [.ref (h 0), .int (xs (nI i + 1).toNatClampNeg), .ref (h 24)]) (rest := []) (wr := [cB h (nI n), cH h, aI G (h 6) 60 mo, aI G (h 7) 60 ki, aI G (h 8) 60 am, aZ G (h 9) 60 sk, aZ G (h 10) 60 dn, aI G (h 11) 121 y1, aI G (h 12) 121 y2, aI G (h 13) 121 y3, aI G (h 14) 121 y4, aI G (h 15) 121 y5, aI G (h 16) 121 y6, aI G (h 17) 121 y7, cM h (q.1, q.2.1, q.2.2, (nI np), (nI n)) w5 t5, aI G (h 19) 60 mo, aI G (h 20) 60 ki, aI G (h 21) 60 am, aZ G (h 22) 60 sk, aZ G (h 23) 60 dn5]) (c_L_needed l hst G h q v tr fo (xs (nI i + 1).toNatClampNeg) np hp) S hK hW hXE hXZ gL_law_L_needed rfl ⟨rfl, rfl⟩ nd_L_needed ⟨rfl, rfl⟩ [0, 1, 4, 5, 24] [2, 3, 6, 7, 8, 9, 10, 11, 12, 13, 14, 15, 16, 17, 18, 19, 20, 21, 22, 23] rfl rfl rfl rfl (by decide) rfl hl.1 rfl dL_law_896 hf1 (fun H locs hk hW => ?_) (fun H locs hk hW => ?_)
    · exact absurd (show (F_X4_needed q v tr (xs (nI i + 1).toNatClampNeg) np).1 = 0 by rw [e4]) hk
    ·
      rw [hk]
      try rw [e4] at hW
      have hW : Wd G A sS.heap [cB h (nI n), cH h, aI G (h 6) 60 mo, aI G (h 7) 60 ki, aI G (h 8) 60 am, aZ G (h 9) 60 sk, aZ G (h 10) 60 dn, aI G (h 11) 121 y1, aI G (h 12) 121 y2, aI G (h 13) 121 y3, aI G (h 14) 121 y4, aI G (h 15) 121 y5, aI G (h 16) 121 y6, aI G (h 17) 121 y7, cM h (q.1, q.2.1, q.2.2, (nI np), (nI n)) w5 t5, aI G (h 19) 60 mo, aI G (h 20) 60 ki, aI G (h 21) 60 am, aZ G (h 22) 60 sk, aZ G (h 23) 60 dn5, cF h (nI np), cP (h 1) q, cS (h 4) v, cS (h 5) tr2, aJ G (h 24) 1 (F_L_needed q v tr fo (xs (nI i + 1).toNatClampNeg) np)] H locs := hW
      refine lv_istore (lv' := [(5, .int 0), (0, .ref b), (1, .ref (h 0)), (2, .ref (h 18)), (3, .ref (h 24)), (4, .int (nI i))]) hx hb dL_law_899 hl (by decide) rfl (fun ls hl => ?_)
      refine lv_aload_n hx hb dL_law_901 rfl (lv_at hl 3 rfl) ?_
      refine lv_aload_n hx hb dL_law_902 rfl (lv_at hl 1 rfl) ?_
      refine lv_iload hx hb dL_law_903 (lv_at hl 5 rfl) ?_
      refine lv_iconst (v := 1) hx hb dL_law_905 (by decide) ?_
      refine lv_iadd hx hb dL_law_906 ?_
      refine va_sld hx hb hX hbl hbA hW.2.2.1 (sc1 hi hL) dL_law_907 ?_
      refine k_callVi (C := RX5) (As := [.int (xs (nI i + 1).toNatClampNeg)]) (rest := []) (wr := [cB h (nI n), cH h, aI G (h 6) 60 mo, aI G (h 7) 60 ki, aI G (h 8) 60 am, aZ G (h 9) 60 sk, aZ G (h 10) 60 dn, aI G (h 11) 121 y1, aI G (h 12) 121 y2, aI G (h 13) 121 y3, aI G (h 14) 121 y4, aI G (h 15) 121 y5, aI G (h 16) 121 y6, aI G (h 17) 121 y7, cF h (nI np), cP (h 1) q, cS (h 4) v, cS (h 5) tr2, aJ G (h 24) 1 (F_L_needed q v tr fo (xs (nI i + 1).toNatClampNeg) np)]) (c_X5_needed l G h q.1 q.2.1 q.2.2 w5 t5 mo ki am sk dn5 (xs (nI i + 1).toNatClampNeg) np n (by omega) (by omega)) S hK hW gL_law_X5_needed rfl ⟨rfl, rfl⟩ nd_X5_needed ⟨rfl, rfl⟩ (qb := 14) (ci := 5) rfl rfl [14, 15, 16, 17, 18, 19] [0, 1, 2, 3, 4, 5, 6, 7, 8, 9, 10, 11, 12, 13, 20, 21, 22, 23, 24] rfl rfl rfl rfl (by decide) rfl hl.1 rfl dL_law_908 hf1 (fun H locs hW => ?_)
      have hW : Wd G A sS.heap [cB h (nI n), cH h, aI G (h 6) 60 mo, aI G (h 7) 60 ki, aI G (h 8) 60 am, aZ G (h 9) 60 sk, aZ G (h 10) 60 dn, aI G (h 11) 121 y1, aI G (h 12) 121 y2, aI G (h 13) 121 y3, aI G (h 14) 121 y4, aI G (h 15) 121 y5, aI G (h 16) 121 y6, aI G (h 17) 121 y7, cF h (nI np), cP (h 1) q, cS (h 4) v, cS (h 5) tr2, aJ G (h 24) 1 (F_L_needed q v tr fo (xs (nI i + 1).toNatClampNeg) np), cM h (q.1, q.2.1, q.2.2, (nI np), (nI n)) ((F_X5_needed q.1 q.2.1 q.2.2 w5 mo ki am sk dn5 (xs (nI i + 1).toNatClampNeg) np n).2.1) ((F_X5_needed q.1 q.2.1 q.2.2 w5 mo ki am sk dn5 (xs (nI i + 1).toNatClampNeg) np n).2.2.1), aI G (h 19) 60 mo, aI G (h 20) 60 ki, aI G (h 21) 60 am, aZ G (h 22) 60 sk, aZ G (h 23) 60 ((F_X5_needed q.1 q.2.1 q.2.2 w5 mo ki am sk dn5 (xs (nI i + 1).toNatClampNeg) np n).2.2.2)] H locs := hW
      rw [e5] at hW
      rw [e5]
      have hW : Wd G A sS.heap [cB h (nI n), cH h, aI G (h 6) 60 mo, aI G (h 7) 60 ki, aI G (h 8) 60 am, aZ G (h 9) 60 sk, aZ G (h 10) 60 dn, aI G (h 11) 121 y1, aI G (h 12) 121 y2, aI G (h 13) 121 y3, aI G (h 14) 121 y4, aI G (h 15) 121 y5, aI G (h 16) 121 y6, aI G (h 17) 121 y7, cF h (nI np), cP (h 1) q, cS (h 4) v, cS (h 5) tr2, aJ G (h 24) 1 (F_L_needed q v tr fo (xs (nI i + 1).toNatClampNeg) np), cM h (q.1, q.2.1, q.2.2, (nI np), (nI n)) w2 0, aI G (h 19) 60 mo, aI G (h 20) 60 ki, aI G (h 21) 60 am, aZ G (h 22) 60 sk, aZ G (h 23) 60 dn6] H locs := hW
      refine lv_istore (lv' := [(6, .int aa), (5, .int 0), (0, .ref b), (1, .ref (h 0)), (2, .ref (h 18)), (3, .ref (h 24)), (4, .int (nI i))]) hx hb dL_law_911 hl (by decide) rfl (fun ls hl => ?_)
      refine lv_aload_n hx hb dL_law_913 rfl (lv_at hl 4 rfl) ?_
      refine k_callVi (C := RX5) (As := []) (rest := []) (wr := [cB h (nI n), cH h, aI G (h 6) 60 mo, aI G (h 7) 60 ki, aI G (h 8) 60 am, aZ G (h 9) 60 sk, aZ G (h 10) 60 dn, aI G (h 11) 121 y1, aI G (h 12) 121 y2, aI G (h 13) 121 y3, aI G (h 14) 121 y4, aI G (h 15) 121 y5, aI G (h 16) 121 y6, aI G (h 17) 121 y7, cF h (nI np), cP (h 1) q, cS (h 4) v, cS (h 5) tr2, aJ G (h 24) 1 (F_L_needed q v tr fo (xs (nI i + 1).toNatClampNeg) np), aI G (h 19) 60 mo, aI G (h 20) 60 ki, aI G (h 21) 60 am, aZ G (h 22) 60 sk, aZ G (h 23) 60 dn6]) (c_X5_thrown l G h q.1 q.2.1 q.2.2 (nI np) (nI n) w2 0) S hK hW gL_law_X5_thrown rfl ⟨rfl, rfl⟩ nd_X5_thrown ⟨rfl, rfl⟩ (qb := 19) (ci := 5) rfl rfl [19] [0, 1, 2, 3, 4, 5, 6, 7, 8, 9, 10, 11, 12, 13, 14, 15, 16, 17, 18, 20, 21, 22, 23, 24] rfl rfl rfl rfl (by decide) rfl hl.1 rfl dL_law_914 hf1 (fun H locs hW => ?_)
      have hW : Wd G A sS.heap [cB h (nI n), cH h, aI G (h 6) 60 mo, aI G (h 7) 60 ki, aI G (h 8) 60 am, aZ G (h 9) 60 sk, aZ G (h 10) 60 dn, aI G (h 11) 121 y1, aI G (h 12) 121 y2, aI G (h 13) 121 y3, aI G (h 14) 121 y4, aI G (h 15) 121 y5, aI G (h 16) 121 y6, aI G (h 17) 121 y7, cF h (nI np), cP (h 1) q, cS (h 4) v, cS (h 5) tr2, aJ G (h 24) 1 (F_L_needed q v tr fo (xs (nI i + 1).toNatClampNeg) np), aI G (h 19) 60 mo, aI G (h 20) 60 ki, aI G (h 21) 60 am, aZ G (h 22) 60 sk, aZ G (h 23) 60 dn6, cM h (q.1, q.2.1, q.2.2, (nI np), (nI n)) w2 0] H locs := hW
      refine lv_iload hx hb dL_law_917 (lv_at hl 1 rfl) ?_
      refine lv_icmp_eq (tgt := 924) hx hb dL_law_919 (by decide) (fun c_1 => ?_) (fun c_1 => ?_)
      ·
        refine lv_iload hx hb dL_law_924 (lv_at hl 1 rfl) ?_
        refine lv_if_ne (tgt := 941) hx hb dL_law_926 (by decide) (fun c_2 => ?_) (fun c_2 => ?_)
        ·
          exact absurd c_2 (by decide)
        ·
          refine lv_aload_n hx hb dL_law_929 rfl (lv_at hl 5 rfl) ?_
          refine lv_iconst (v := 0) hx hb dL_law_930 (by decide) ?_
          refine k_lald (n := 1) S hK hW 18 rfl (i := 0) vp_01 dL_law_931 ?_
          refine lv_iload hx hb dL_law_932 (lv_at hl 0 rfl) ?_
          refine lv_i2l hx hb dL_law_934 rfl ?_
          refine W.lcmp hx hb dL_law_935 ?_
          refine lv_if_eq (tgt := 941) hx hb dL_law_936 (by decide) (fun c_3 => ?_) (fun c_3 => ?_)
          ·
            refine lv_goto (tgt := 944) hx hb dL_law_941 (by decide) ?_
            exact K np n q mo ki am sk dn y1 y2 y3 y4 y5 y6 y7 v tr2 w2 0 dn6 (F_L_needed q v tr fo (xs (nI i + 1).toNatClampNeg) np) I _ _ _ (hW.re [14, 15, 0, 1, 16, 17, 2, 3, 4, 5, 6, 7, 8, 9, 10, 11, 12, 13, 24, 19, 20, 21, 22, 23, 18] rfl rfl) (lv_sub hl [2, 3, 4, 5, 6] rfl)
          ·
            have ho : (F_L_needed q v tr fo (xs (nI i + 1).toNatClampNeg) np) (0 : Int32).toNatClampNeg = aa.toInt64 := by
              unfold F_L_needed
              rw [e4]
              exact pk_uLs
            exact (c_3 (by rw [ho]; exact lcmp_self _)).elim
      ·
        exact (c_1 rfl).elim
