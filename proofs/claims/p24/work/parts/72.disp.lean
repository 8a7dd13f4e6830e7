set_option maxHeartbeats 8000000 in
set_option maxRecDepth 100000 in
theorem ldeed {pP : Program} {l : Launch} {eE : Env} {sS : State} {mM : MethodId} {args : Array Value} {below : List Frame} {meth : Method} {cC : Code} {Q : State → Prop} {G : GG} {A : Nat → Prop} {h : Nat → Nat} {b L : Nat} {xs : Nat → Int32} (X : LWX pP l sS mM args cC G A b L xs) {cells slots t X9 : Nat} (hX9 : X9 < 2 ^ 31) (ht : t < 80) (hc : cells + 400 ≤ 600130) (hs : slots + 3000 ≤ 7301080) (K : LHd pP l eE sS mM args below meth cC Q G A h b (t + 1) (cells + 1 + 192) (slots + 6 + 1156)) :
    ∀ (np n : Nat) (q : S3) (mo ki am : N32) (sk dn : Nat → Bool) (y1 y2 y3 y4 y5 y6 y7 : N32) (v tr : S7) (qf af mf df sf cf lf rf gf tf : N32) (w : S7), Inv np n q mo ki am sk (dn, y1, y2, y3, y4, y5, y6, y7, v) → LInv np n q mo ki am sk qf af mf df sf cf lf rf gf tf w → np ≤ 61 → ∀ (H : Heap) (locs : List Loc) (ls : Array Slot), Wd G A sS.heap [cF h (nI np), cP (h 1) q, cB h (nI n), cH h, cS (h 4) v, cS (h 5) tr, aI G (h 6) 60 mo, aI G (h 7) 60 ki, aI G (h 8) 60 am, aZ G (h 9) 60 sk, aZ G (h 10) 60 dn, aI G (h 11) 121 y1, aI G (h 12) 121 y2, aI G (h 13) 121 y3, aI G (h 14) 121 y4, aI G (h 15) 121 y5, aI G (h 16) 121 y6, aI G (h 17) 121 y7, aI G (h 18) 5 (nF (q.1, q.2.1, q.2.2, nI np, nI n)), aI G (h 19) 60 qf, aI G (h 20) 60 af, aI G (h 21) 60 mf, aI G (h 22) 60 df, aI G (h 23) 7 (pF w), aI G (h 24) 64 sf, aI G (h 25) 64 cf, aI G (h 26) 64 lf, aI G (h 27) 64 rf, aI G (h 28) 64 gf, aI G (h 29) 64 tf] H locs → lv_has ls 23 [(15, .int (nI t)), (14, .int 1), (0, .ref b), (1, .ref (h 0)), (2, .ref (h 18)), (3, .ref (h 19)), (4, .ref (h 20)), (5, .ref (h 21)), (6, .ref (h 22)), (7, .ref (h 23)), (8, .ref (h 24)), (9, .ref (h 25)), (10, .ref (h 26)), (11, .ref (h 27)), (12, .ref (h 28)), (13, .ref (h 29))] → W pP l eE room_1 sS mM args below meth cC H locs cells slots Q (F0 mM 168 ls [.int (nI X9)]) := by
  have hY : X9 / 13 < 2 ^ 31 := by omega
  have K7 : LKd pP l eE sS mM args below meth cC Q G A h b 746 (X9 / 13) t (cells + 1) (slots + 6) := l746 X hY (by omega) (by omega) (by omega) (by omega) K
  have K8 : LKd pP l eE sS mM args below meth cC Q G A h b 708 (X9 / 13) t (cells + 1) (slots + 6) := l708 X hY (by omega) (by omega) K7
  have hc9 : cells + 193 ≤ 600130 := by omega
  have hs9 : slots + 1162 ≤ 7301080 := by omega
  have X0 := X
  obtain ⟨S, hK, hXE, hXZ, hst, hX, hbl, hbA, hL⟩ := X
  have hx := S.1
  have hb := S.2.1
  have hf0 : cells ≤ room_1.cells ∧ slots ≤ room_1.slots := ⟨by show _ ≤ 600130; omega, by show _ ≤ 7301080; omega⟩
  have hf1 : cells + 1 ≤ room_1.cells ∧ slots + 6 ≤ room_1.slots := ⟨by show _ ≤ 600130; omega, by show _ ≤ 7301080; omega⟩
  intro np n q mo ki am sk dn y1 y2 y3 y4 y5 y6 y7 v tr qf af mf df sf cf lf rf gf tf w I L9 hnp H locs ls hW hl
  have hn := I.1
  have hp := I.2.1
  refine lv_istore (lv' := [(16, .int (nI X9)), (15, .int (nI t)), (14, .int 1), (0, .ref b), (1, .ref (h 0)), (2, .ref (h 18)), (3, .ref (h 19)), (4, .ref (h 20)), (5, .ref (h 21)), (6, .ref (h 22)), (7, .ref (h 23)), (8, .ref (h 24)), (9, .ref (h 25)), (10, .ref (h 26)), (11, .ref (h 27)), (12, .ref (h 28)), (13, .ref (h 29))]) hx hb dL_law_168 hl (by decide) rfl (fun ls hl => ?_)
  refine lv_iload hx hb dL_law_170 (lv_at hl 0 rfl) ?_
  refine lv_bipush (v := 13) hx hb dL_law_172 (by decide) ?_
  refine k_irem hx hb dL_law_174 (by decide) ?_
  refine W.eq (g2 := F0 mM 175 ls [.int (nI (X9 % 13))]) (by rw [irm_nI (a := X9) (D := 13) 13 (by decide +kernel) hX9 (by omega) (by omega)]) ?_
  refine lv_istore (lv' := [(17, .int (nI (X9 % 13))), (16, .int (nI X9)), (15, .int (nI t)), (14, .int 1), (0, .ref b), (1, .ref (h 0)), (2, .ref (h 18)), (3, .ref (h 19)), (4, .ref (h 20)), (5, .ref (h 21)), (6, .ref (h 22)), (7, .ref (h 23)), (8, .ref (h 24)), (9, .ref (h 25)), (10, .ref (h 26)), (11, .ref (h 27)), (12, .ref (h 28)), (13, .ref (h 29))]) hx hb dL_law_175 hl (by decide) rfl (fun ls hl => ?_)
  refine lv_iload hx hb dL_law_177 (lv_at hl 1 rfl) ?_
  refine lv_bipush (v := 13) hx hb dL_law_179 (by decide) ?_
  refine lv_idiv hx hb dL_law_181 (by decide) ?_
  refine W.eq (g2 := F0 mM 182 ls [.int (nI (X9 / 13))]) (by rw [idv_nI (a := X9) (D := 13) 13 (by decide +kernel) hX9 (by omega) (by omega)]) ?_
  refine lv_istore (lv' := [(18, .int (nI (X9 / 13))), (17, .int (nI (X9 % 13))), (16, .int (nI X9)), (15, .int (nI t)), (14, .int 1), (0, .ref b), (1, .ref (h 0)), (2, .ref (h 18)), (3, .ref (h 19)), (4, .ref (h 20)), (5, .ref (h 21)), (6, .ref (h 22)), (7, .ref (h 23)), (8, .ref (h 24)), (9, .ref (h 25)), (10, .ref (h 26)), (11, .ref (h 27)), (12, .ref (h 28)), (13, .ref (h 29))]) hx hb dL_law_182 hl (by decide) rfl (fun ls hl => ?_)
  refine lv_iload hx hb dL_law_184 (lv_at hl 3 rfl) ?_
  refine lv_if_eq (tgt := 201) hx hb dL_law_186 (by decide) (fun c_1 => ?_) (fun c_1 => ?_)
  ·
    exact lbegin X0 (Y := X9 / 13) (t := t) hY hc9 hs9 K7 np n q mo ki am sk dn y1 y2 y3 y4 y5 y6 y7 v tr qf af mf df sf cf lf rf gf tf w I L9 hnp H _ ls hW (lv_sub hl [0, 3, 4, 5, 6, 7, 8, 9, 10, 11, 12, 13, 14, 15, 16, 17, 18] rfl)
  ·
    refine lv_iload hx hb dL_law_189 (lv_at hl 1 rfl) ?_
    refine lv_if_ne (tgt := 290) hx hb dL_law_191 (by decide) (fun c_2 => ?_) (fun c_2 => ?_)
    ·
      refine lv_iload hx hb dL_law_290 (lv_at hl 1 rfl) ?_
      refine lv_bipush (v := 8) hx hb dL_law_292 (by decide) ?_
      refine lv_icmp_ge (tgt := 518) hx hb dL_law_294 (by decide) (fun c_3 => ?_) (fun c_3 => ?_)
      ·
        refine lv_iload hx hb dL_law_518 (lv_at hl 1 rfl) ?_
        refine lv_bipush (v := 8) hx hb dL_law_520 (by decide) ?_
        refine lv_icmp_ne (tgt := 614) hx hb dL_law_522 (by decide) (fun c_4 => ?_) (fun c_4 => ?_)
        ·
          exact lclose1 X0 (Y := X9 / 13) (t := t) hY hc9 hs9 (lclose2 X0 (Y := X9 / 13) (t := t) hY hc9 hs9 K8) np n q mo ki am sk dn y1 y2 y3 y4 y5 y6 y7 v tr qf af mf df sf cf lf rf gf tf w I L9 hnp H _ ls hW (lv_sub hl [0, 3, 4, 5, 6, 7, 8, 9, 10, 11, 12, 13, 14, 15, 16, 17, 18] rfl)
        ·
          refine lv_aload_n hx hb dL_law_525 rfl (lv_at hl 7 rfl) ?_
          refine lv_iconst (v := 4) hx hb dL_law_526 (by decide) ?_
          refine k_vld S hK hW 18 rfl (i := 4) (k := 4) (x := (nI n)) vi5_4 ix_4 rfl dL_law_527 ?_
          refine lv_if_le (tgt := 614) hx hb dL_law_528 (by decide) (fun c_5 => ?_) (fun c_5 => ?_)
          ·
            exact lclose1 X0 (Y := X9 / 13) (t := t) hY hc9 hs9 (lclose2 X0 (Y := X9 / 13) (t := t) hY hc9 hs9 K8) np n q mo ki am sk dn y1 y2 y3 y4 y5 y6 y7 v tr qf af mf df sf cf lf rf gf tf w I L9 hnp H _ ls hW (lv_sub hl [0, 3, 4, 5, 6, 7, 8, 9, 10, 11, 12, 13, 14, 15, 16, 17, 18] rfl)
          ·
            exact lstrike X0 (Y := X9 / 13) (t := t) hY hc9 hs9 K8 np n q mo ki am sk dn y1 y2 y3 y4 y5 y6 y7 v tr qf af mf df sf cf lf rf gf tf w I L9 hnp (nle0 (by omega) c_5) H _ ls hW (lv_sub hl [0, 3, 4, 5, 6, 7, 8, 9, 10, 11, 12, 13, 14, 15, 16, 17, 18] rfl)
      ·
        exact ltell1 X0 (Y := X9 / 13) (t := t) hY hc9 hs9 (ltell2 X0 (Y := X9 / 13) (t := t) hY hc9 hs9 (ltell3 X0 (Y := X9 / 13) (t := t) hY hc9 hs9 (ltell4 X0 (Y := X9 / 13) (t := t) hY hc9 hs9 K8))) np n q mo ki am sk dn y1 y2 y3 y4 y5 y6 y7 v tr qf af mf df sf cf lf rf gf tf w I L9 hnp H _ ls hW (lv_sub hl [0, 3, 4, 5, 6, 7, 8, 9, 10, 11, 12, 13, 14, 15, 16, 17, 18] rfl)
    ·
      refine lv_iload hx hb dL_law_194 (lv_at hl 0 rfl) ?_
      refine lv_iconst (v := 5) hx hb dL_law_196 (by decide) ?_
      refine k_irem hx hb dL_law_197 (by decide) ?_
      refine lv_if_ne (tgt := 290) hx hb dL_law_198 (by decide) (fun c_6 => ?_) (fun c_6 => ?_)
      ·
        refine lv_iload hx hb dL_law_290 (lv_at hl 1 rfl) ?_
        refine lv_bipush (v := 8) hx hb dL_law_292 (by decide) ?_
        refine lv_icmp_ge (tgt := 518) hx hb dL_law_294 (by decide) (fun c_7 => ?_) (fun c_7 => ?_)
        ·
          exact absurd c_7 (by rw [c_2]; decide)
        ·
          exact ltell1 X0 (Y := X9 / 13) (t := t) hY hc9 hs9 (ltell2 X0 (Y := X9 / 13) (t := t) hY hc9 hs9 (ltell3 X0 (Y := X9 / 13) (t := t) hY hc9 hs9 (ltell4 X0 (Y := X9 / 13) (t := t) hY hc9 hs9 K8))) np n q mo ki am sk dn y1 y2 y3 y4 y5 y6 y7 v tr qf af mf df sf cf lf rf gf tf w I L9 hnp H _ ls hW (lv_sub hl [0, 3, 4, 5, 6, 7, 8, 9, 10, 11, 12, 13, 14, 15, 16, 17, 18] rfl)
      ·
        exact lbegin X0 (Y := X9 / 13) (t := t) hY hc9 hs9 K7 np n q mo ki am sk dn y1 y2 y3 y4 y5 y6 y7 v tr qf af mf df sf cf lf rf gf tf w I L9 hnp H _ ls hW (lv_sub hl [0, 3, 4, 5, 6, 7, 8, 9, 10, 11, 12, 13, 14, 15, 16, 17, 18] rfl)
