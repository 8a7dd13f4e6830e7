set_option maxHeartbeats 4000000 in
set_option maxRecDepth 100000 in
theorem lc_begin {pP : Program} {l : Launch} {eE : Env} {sS : State} {mM : MethodId} {args : Array Value} {below : List Frame} {meth : Method} {cC : Code} {Q : State → Prop} {G : GG} {A : Nat → Prop} {h : Nat → Nat} {b L i : Nat} {xs : Nat → Int32} {cells slots : Nat} (X : LWX pP l sS mM args cC G A b L xs) (hi : i + 4 ≤ L) (hc : cells + 1 ≤ room_1.cells) (hs : slots + 6 ≤ room_1.slots) (K : LWP pP l eE sS mM args below meth cC Q G A h b i (cells + 1) (slots + 6)) (np n : Nat) (q : S3) (mo ki am : N32) (sk dn : Nat → Bool) (y1 y2 y3 y4 y5 y6 y7 : N32) (v tr w5 : S7) (t5 : Int32) (dn5 : Nat → Bool) (fo : Nat → Int64) (I : Inv np n q mo ki am sk (dn, y1, y2, y3, y4, y5, y6, y7, v)) (H : Heap) (locs : List Loc) (ls : Array Slot) (hW : Wd G A sS.heap [cF h (nI np), cP (h 1) q, cB h (nI n), cH h, cS (h 4) v, cS (h 5) tr, aI G (h 6) 60 mo, aI G (h 7) 60 ki, aI G (h 8) 60 am, aZ G (h 9) 60 sk, aZ G (h 10) 60 dn, aI G (h 11) 121 y1, aI G (h 12) 121 y2, aI G (h 13) 121 y3, aI G (h 14) 121 y4, aI G (h 15) 121 y5, aI G (h 16) 121 y6, aI G (h 17) 121 y7, cM h (q.1, q.2.1, q.2.2, (nI np), (nI n)) w5 t5, aI G (h 19) 60 mo, aI G (h 20) 60 ki, aI G (h 21) 60 am, aZ G (h 22) 60 sk, aZ G (h 23) 60 dn5, aJ G (h 24) 1 fo] H locs) (hl : lv_has ls 7 [(0, .ref b), (1, .ref (h 0)), (2, .ref (h 18)), (3, .ref (h 24)), (4, .int (nI i))]) :
    W pP l eE room_1 sS mM args below meth cC H locs cells slots Q (F0 mM 136 ls []) := by
  obtain ⟨S, hK, hXE, hXZ, hst, hX, hbl, hbA, hL⟩ := X
  have hx := S.1
  have hb := S.2.1
  have hn := I.1
  have hp := I.2.1
  have hmo := I.hmo
  have hf1 : cells + 1 ≤ room_1.cells ∧ slots + 6 ≤ room_1.slots := ⟨hc, hs⟩
  have hf0 : cells ≤ room_1.cells ∧ slots ≤ room_1.slots := ⟨Nat.le_of_succ_le hc, Nat.le_trans (Nat.le_add_right _ _) hs⟩
  rcases p_begin I (xs (nI i + 1).toNatClampNeg) (xs (nI i + 2).toNatClampNeg) (xs (nI i + 3).toNatClampNeg) with ⟨kk, hkk, e4, e5⟩ | ⟨e4, e5, I2⟩
  ·
    have e4 : (F_X4_begin (nI np) q (nI n) v (xs (nI i + 1).toNatClampNeg) (xs (nI i + 2).toNatClampNeg) (xs (nI i + 3).toNatClampNeg)).1 = kk := e4
    have e5 : (F_X5_begin q.1 q.2.1 q.2.2 (nI np) (nI n) (xs (nI i + 1).toNatClampNeg) (xs (nI i + 2).toNatClampNeg) (xs (nI i + 3).toNatClampNeg)) = (0, q.1, q.2.1, q.2.2, nI np, nI n, kk) := e5
    refine lv_aload_n hx hb dL_law_136 rfl (lv_at hl 1 rfl) ?_
    refine lv_aload_n hx hb dL_law_137 rfl (lv_at hl 0 rfl) ?_
    refine lv_iload hx hb dL_law_138 (lv_at hl 4 rfl) ?_
    refine lv_iconst (v := 1) hx hb dL_law_140 (by decide) ?_
    refine lv_iadd hx hb dL_law_141 ?_
    refine va_sld hx hb hX hbl hbA hW.2.2.1 (sc1 hi hL) dL_law_142 ?_
    refine lv_aload_n hx hb dL_law_143 rfl (lv_at hl 0 rfl) ?_
    refine lv_iload hx hb dL_law_144 (lv_at hl 4 rfl) ?_
    refine lv_iconst (v := 2) hx hb dL_law_146 (by decide) ?_
    refine lv_iadd hx hb dL_law_147 ?_
    refine va_sld hx hb hX hbl hbA hW.2.2.1 (sc2 hi hL) dL_law_148 ?_
    refine lv_aload_n hx hb dL_law_149 rfl (lv_at hl 0 rfl) ?_
    refine lv_iload hx hb dL_law_150 (lv_at hl 4 rfl) ?_
    refine lv_iconst (v := 3) hx hb dL_law_152 (by decide) ?_
    refine lv_iadd hx hb dL_law_153 ?_
    refine va_sld hx hb hX hbl hbA hW.2.2.1 (sc3 hi hL) dL_law_154 ?_
    refine lv_aload_n hx hb dL_law_155 rfl (lv_at hl 3 rfl) ?_
    refine ky_callS (As := [.ref (h 0), .int (xs (nI i + 1).toNatClampNeg), .int (xs (nI i + 2).toNatClampNeg), .int (xs (nI i + 3).toNatClampNeg), .ref (h 24)]) (rest := []) (wr := [cH h, cS (h 5) tr, aI G (h 6) 60 mo, aI G (h 7) 60 ki, aI G (h 8) 60 am, aZ G (h 9) 60 sk, aZ G (h 10) 60 dn, aI G (h 11) 121 y1, aI G (h 12) 121 y2, aI G (h 13) 121 y3, aI G (h 14) 121 y4, aI G (h 15) 121 y5, aI G (h 16) 121 y6, aI G (h 17) 121 y7, cM h (q.1, q.2.1, q.2.2, (nI np), (nI n)) w5 t5, aI G (h 19) 60 mo, aI G (h 20) 60 ki, aI G (h 21) 60 am, aZ G (h 22) 60 sk, aZ G (h 23) 60 dn5]) (c_L_begin l hst G h (nI np) q (nI n) v fo (xs (nI i + 1).toNatClampNeg) (xs (nI i + 2).toNatClampNeg) (xs (nI i + 3).toNatClampNeg)) S hK hW hXE hXZ gL_law_L_begin rfl ⟨rfl, rfl⟩ nd_L_begin ⟨rfl, rfl⟩ [0, 1, 2, 4, 24] [3, 5, 6, 7, 8, 9, 10, 11, 12, 13, 14, 15, 16, 17, 18, 19, 20, 21, 22, 23] rfl rfl rfl rfl (by decide) rfl hl.1 rfl dL_law_156 hf1 (fun H locs hk hW => ?_) (fun H locs hk hW => ?_)
    ·
      have hW : Wd G A sS.heap [cH h, cS (h 5) tr, aI G (h 6) 60 mo, aI G (h 7) 60 ki, aI G (h 8) 60 am, aZ G (h 9) 60 sk, aZ G (h 10) 60 dn, aI G (h 11) 121 y1, aI G (h 12) 121 y2, aI G (h 13) 121 y3, aI G (h 14) 121 y4, aI G (h 15) 121 y5, aI G (h 16) 121 y6, aI G (h 17) 121 y7, cM h (q.1, q.2.1, q.2.2, (nI np), (nI n)) w5 t5, aI G (h 19) 60 mo, aI G (h 20) 60 ki, aI G (h 21) 60 am, aZ G (h 22) 60 sk, aZ G (h 23) 60 dn5, cF h (nI np), cP (h 1) q, cB h (nI n), cS (h 4) v, aJ G (h 24) 1 fo] H locs := hW
      rw [e4]
      refine lv_istore (lv' := [(5, .int kk), (0, .ref b), (1, .ref (h 0)), (2, .ref (h 18)), (3, .ref (h 24)), (4, .int (nI i))]) hx hb dL_law_159 hl (by decide) rfl (fun ls hl => ?_)
      refine lv_aload_n hx hb dL_law_161 rfl (lv_at hl 3 rfl) ?_
      refine lv_aload_n hx hb dL_law_162 rfl (lv_at hl 1 rfl) ?_
      refine lv_iload hx hb dL_law_163 (lv_at hl 5 rfl) ?_
      refine lv_iconst (v := 1) hx hb dL_law_165 (by decide) ?_
      refine lv_iadd hx hb dL_law_166 ?_
      refine va_sld hx hb hX hbl hbA hW.2.2.1 (sc1 hi hL) dL_law_167 ?_
      refine lv_aload_n hx hb dL_law_168 rfl (lv_at hl 1 rfl) ?_
      refine lv_iload hx hb dL_law_169 (lv_at hl 5 rfl) ?_
      refine lv_iconst (v := 2) hx hb dL_law_171 (by decide) ?_
      refine lv_iadd hx hb dL_law_172 ?_
      refine va_sld hx hb hX hbl hbA hW.2.2.1 (sc2 hi hL) dL_law_173 ?_
      refine lv_aload_n hx hb dL_law_174 rfl (lv_at hl 1 rfl) ?_
      refine lv_iload hx hb dL_law_175 (lv_at hl 5 rfl) ?_
      refine lv_iconst (v := 3) hx hb dL_law_177 (by decide) ?_
      refine lv_iadd hx hb dL_law_178 ?_
      refine va_sld hx hb hX hbl hbA hW.2.2.1 (sc3 hi hL) dL_law_179 ?_
      refine k_callVi (C := RX5) (As := [.int (xs (nI i + 1).toNatClampNeg), .int (xs (nI i + 2).toNatClampNeg), .int (xs (nI i + 3).toNatClampNeg)]) (rest := []) (wr := [cH h, cS (h 5) tr, aI G (h 6) 60 mo, aI G (h 7) 60 ki, aI G (h 8) 60 am, aZ G (h 9) 60 sk, aZ G (h 10) 60 dn, aI G (h 11) 121 y1, aI G (h 12) 121 y2, aI G (h 13) 121 y3, aI G (h 14) 121 y4, aI G (h 15) 121 y5, aI G (h 16) 121 y6, aI G (h 17) 121 y7, aI G (h 19) 60 mo, aI G (h 20) 60 ki, aI G (h 21) 60 am, aZ G (h 22) 60 sk, aZ G (h 23) 60 dn5, cF h (nI np), cP (h 1) q, cB h (nI n), cS (h 4) v, aJ G (h 24) 1 fo]) (c_X5_begin l G h q.1 q.2.1 q.2.2 (nI np) (nI n) w5 t5 (xs (nI i + 1).toNatClampNeg) (xs (nI i + 2).toNatClampNeg) (xs (nI i + 3).toNatClampNeg)) S hK hW gL_law_X5_begin rfl ⟨rfl, rfl⟩ nd_X5_begin ⟨rfl, rfl⟩ (qb := 14) (ci := 5) rfl rfl [14] [0, 1, 2, 3, 4, 5, 6, 7, 8, 9, 10, 11, 12, 13, 15, 16, 17, 18, 19, 20, 21, 22, 23, 24] rfl rfl rfl rfl (by decide) rfl hl.1 rfl dL_law_180 hf1 (fun H locs hW => ?_)
      have hW : Wd G A sS.heap [cH h, cS (h 5) tr, aI G (h 6) 60 mo, aI G (h 7) 60 ki, aI G (h 8) 60 am, aZ G (h 9) 60 sk, aZ G (h 10) 60 dn, aI G (h 11) 121 y1, aI G (h 12) 121 y2, aI G (h 13) 121 y3, aI G (h 14) 121 y4, aI G (h 15) 121 y5, aI G (h 16) 121 y6, aI G (h 17) 121 y7, aI G (h 19) 60 mo, aI G (h 20) 60 ki, aI G (h 21) 60 am, aZ G (h 22) 60 sk, aZ G (h 23) 60 dn5, cF h (nI np), cP (h 1) q, cB h (nI n), cS (h 4) v, aJ G (h 24) 1 fo, cM h (((F_X5_begin q.1 q.2.1 q.2.2 (nI np) (nI n) (xs (nI i + 1).toNatClampNeg) (xs (nI i + 2).toNatClampNeg) (xs (nI i + 3).toNatClampNeg)).2.1), ((F_X5_begin q.1 q.2.1 q.2.2 (nI np) (nI n) (xs (nI i + 1).toNatClampNeg) (xs (nI i + 2).toNatClampNeg) (xs (nI i + 3).toNatClampNeg)).2.2.1), ((F_X5_begin q.1 q.2.1 q.2.2 (nI np) (nI n) (xs (nI i + 1).toNatClampNeg) (xs (nI i + 2).toNatClampNeg) (xs (nI i + 3).toNatClampNeg)).2.2.2.1), ((F_X5_begin q.1 q.2.1 q.2.2 (nI np) (nI n) (xs (nI i + 1).toNatClampNeg) (xs (nI i + 2).toNatClampNeg) (xs (nI i + 3).toNatClampNeg)).2.2.2.2.1), ((F_X5_begin q.1 q.2.1 q.2.2 (nI np) (nI n) (xs (nI i + 1).toNatClampNeg) (xs (nI i + 2).toNatClampNeg) (xs (nI i + 3).toNatClampNeg)).2.2.2.2.2.1)) w5 ((F_X5_begin q.1 q.2.1 q.2.2 (nI np) (nI n) (xs (nI i + 1).toNatClampNeg) (xs (nI i + 2).toNatClampNeg) (xs (nI i + 3).toNatClampNeg)).2.2.2.2.2.2)] H locs := hW
      rw [e5] at hW
      rw [e5]
      have hW : Wd G A sS.heap [cH h, cS (h 5) tr, aI G (h 6) 60 mo, aI G (h 7) 60 ki, aI G (h 8) 60 am, aZ G (h 9) 60 sk, aZ G (h 10) 60 dn, aI G (h 11) 121 y1, aI G (h 12) 121 y2, aI G (h 13) 121 y3, aI G (h 14) 121 y4, aI G (h 15) 121 y5, aI G (h 16) 121 y6, aI G (h 17) 121 y7, aI G (h 19) 60 mo, aI G (h 20) 60 ki, aI G (h 21) 60 am, aZ G (h 22) 60 sk, aZ G (h 23) 60 dn5, cF h (nI np), cP (h 1) q, cB h (nI n), cS (h 4) v, aJ G (h 24) 1 fo, cM h (q.1, q.2.1, q.2.2, (nI np), (nI n)) w5 kk] H locs := hW
      refine lv_istore (lv' := [(6, .int 0), (5, .int kk), (0, .ref b), (1, .ref (h 0)), (2, .ref (h 18)), (3, .ref (h 24)), (4, .int (nI i))]) hx hb dL_law_183 hl (by decide) rfl (fun ls hl => ?_)
      refine lv_aload_n hx hb dL_law_185 rfl (lv_at hl 4 rfl) ?_
      refine k_callVi (C := RX5) (As := []) (rest := []) (wr := [cH h, cS (h 5) tr, aI G (h 6) 60 mo, aI G (h 7) 60 ki, aI G (h 8) 60 am, aZ G (h 9) 60 sk, aZ G (h 10) 60 dn, aI G (h 11) 121 y1, aI G (h 12) 121 y2, aI G (h 13) 121 y3, aI G (h 14) 121 y4, aI G (h 15) 121 y5, aI G (h 16) 121 y6, aI G (h 17) 121 y7, aI G (h 19) 60 mo, aI G (h 20) 60 ki, aI G (h 21) 60 am, aZ G (h 22) 60 sk, aZ G (h 23) 60 dn5, cF h (nI np), cP (h 1) q, cB h (nI n), cS (h 4) v, aJ G (h 24) 1 fo]) (c_X5_thrown l G h q.1 q.2.1 q.2.2 (nI np) (nI n) w5 kk) S hK hW gL_law_X5_thrown rfl ⟨rfl, rfl⟩ nd_X5_thrown ⟨rfl, rfl⟩ (qb := 24) (ci := 5) rfl rfl [24] [0, 1, 2, 3, 4, 5, 6, 7, 8, 9, 10, 11, 12, 13, 14, 15, 16, 17, 18, 19, 20, 21, 22, 23] rfl rfl rfl rfl (by decide) rfl hl.1 rfl dL_law_186 hf1 (fun H locs hW => ?_)
      have hW : Wd G A sS.heap [cH h, cS (h 5) tr, aI G (h 6) 60 mo, aI G (h 7) 60 ki, aI G (h 8) 60 am, aZ G (h 9) 60 sk, aZ G (h 10) 60 dn, aI G (h 11) 121 y1, aI G (h 12) 121 y2, aI G (h 13) 121 y3, aI G (h 14) 121 y4, aI G (h 15) 121 y5, aI G (h 16) 121 y6, aI G (h 17) 121 y7, aI G (h 19) 60 mo, aI G (h 20) 60 ki, aI G (h 21) 60 am, aZ G (h 22) 60 sk, aZ G (h 23) 60 dn5, cF h (nI np), cP (h 1) q, cB h (nI n), cS (h 4) v, aJ G (h 24) 1 fo, cM h (q.1, q.2.1, q.2.2, (nI np), (nI n)) w5 kk] H locs := hW
      refine lv_iload hx hb dL_law_189 (lv_at hl 1 rfl) ?_
      refine lv_icmp_eq (tgt := 196) hx hb dL_law_191 (by decide) (fun c_1 => ?_) (fun c_1 => ?_)
      ·
        refine lv_iload hx hb dL_law_196 (lv_at hl 1 rfl) ?_
        refine lv_if_ne (tgt := 213) hx hb dL_law_198 (by decide) (fun c_2 => ?_) (fun c_2 => ?_)
        ·
          refine lv_goto (tgt := 944) hx hb dL_law_213 (by decide) ?_
          exact K np n q mo ki am sk dn y1 y2 y3 y4 y5 y6 y7 v tr w5 kk dn5 fo I _ _ _ (hW.re [19, 20, 21, 0, 22, 1, 2, 3, 4, 5, 6, 7, 8, 9, 10, 11, 12, 13, 24, 14, 15, 16, 17, 18, 23] rfl rfl) (lv_sub hl [2, 3, 4, 5, 6] rfl)
        ·
          exact absurd c_2 hkk
      ·
        exact (c_1 rfl).elim
    · exact absurd (e4.symm.trans hk) hkk
  ·
    have e4 : (F_X4_begin (nI np) q (nI n) v (xs (nI i + 1).toNatClampNeg) (xs (nI i + 2).toNatClampNeg) (xs (nI i + 3).toNatClampNeg)) = (0, nI np, nI 0, ((xs (nI i + 1).toNatClampNeg), (xs (nI i + 2).toNatClampNeg), (xs (nI i + 3).toNatClampNeg)), nI 0, z7) := e4
    have e5 : (F_X5_begin q.1 q.2.1 q.2.2 (nI np) (nI n) (xs (nI i + 1).toNatClampNeg) (xs (nI i + 2).toNatClampNeg) (xs (nI i + 3).toNatClampNeg)) = (nI np, (xs (nI i + 1).toNatClampNeg), (xs (nI i + 2).toNatClampNeg), (xs (nI i + 3).toNatClampNeg), nI 0, nI 0, 0) := e5
    refine lv_aload_n hx hb dL_law_136 rfl (lv_at hl 1 rfl) ?_
    refine lv_aload_n hx hb dL_law_137 rfl (lv_at hl 0 rfl) ?_
    refine lv_iload hx hb dL_law_138 (lv_at hl 4 rfl) ?_
    refine lv_iconst (v := 1) hx hb dL_law_140 (by decide) ?_
    refine lv_iadd hx hb dL_law_141 ?_
    refine va_sld hx hb hX hbl hbA hW.2.2.1 (sc1 hi hL) dL_law_142 ?_
    refine lv_aload_n hx hb dL_law_143 rfl (lv_at hl 0 rfl) ?_
    refine lv_iload hx hb dL_law_144 (lv_at hl 4 rfl) ?_
    refine lv_iconst (v := 2) hx hb dL_law_146 (by decide) ?_
    refine lv_iadd hx hb dL_law_147 ?_
    refine va_sld hx hb hX hbl hbA hW.2.2.1 (sc2 hi hL) dL_law_148 ?_
    refine lv_aload_n hx hb dL_law_149 rfl (lv_at hl 0 rfl) ?_
    refine lv_iload hx hb dL_law_150 (lv_at hl 4 rfl) ?_
    refine lv_iconst (v := 3) hx hb dL_law_152 (by decide) ?_
    refine lv_iadd hx hb dL_law_153 ?_
    refine va_sld hx hb hX hbl hbA hW.2.2.1 (sc3 hi hL) dL_law_154 ?_
    refine lv_aload_n hx hb dL_law_155 rfl (lv_at hl 3 rfl) ?_
    refine ky_callS (As := [.ref (h 0), .int (xs (nI i + 1).toNatClampNeg), .int (xs (nI i + 2).toNatClampNeg), .int (xs (nI i + 3).toNatClampNeg), .ref (h 24)]) (rest := []) (wr := [cH h, cS (h 5) tr, aI G (h 6) 60 mo, aI G (h 7) 60 ki, aI G (h 8) 60 am, aZ G (h 9) 60 sk, aZ G (h 10) 60 dn, aI G (h 11) 121 y1, aI G (h 12) 121 y2, aI G (h 13) 121 y3, aI G (h 14) 121 y4, aI G (h 15) 121 y5, aI G (h 16) 121 y6, aI G (h 17) 121 y7, cM h (q.1, q.2.1, q.2.2, (nI np), (nI n)) w5 t5, aI G (h 19) 60 mo, aI G (h 20) 60 ki, aI G (h 21) 60 am, aZ G (h 22) 60 sk, aZ G (h 23) 60 dn5]) (c_L_begin l hst G h (nI np) q (nI n) v fo (xs (nI i + 1).toNatClampNeg) (xs (nI i + 2).toNatClampNeg) (xs (nI i + 3).toNatClampNeg)) S hK hW hXE hXZ gL_law_L_begin rfl ⟨rfl, rfl⟩ nd_L_begin ⟨rfl, rfl⟩ [0, 1, 2, 4, 24] [3, 5, 6, 7, 8, 9, 10, 11, 12, 13, 14, 15, 16, 17, 18, 19, 20, 21, 22, 23] rfl rfl rfl rfl (by decide) rfl hl.1 rfl dL_law_156 hf1 (fun H locs hk hW => ?_) (fun H locs hk hW => ?_)
    · exact absurd (show (F_X4_begin (nI np) q (nI n) v (xs (nI i + 1).toNatClampNeg) (xs (nI i + 2).toNatClampNeg) (xs (nI i + 3).toNatClampNeg)).1 = 0 by rw [e4]) hk
    ·
      rw [hk]
      try rw [e4] at hW
      have hW : Wd G A sS.heap [cH h, cS (h 5) tr, aI G (h 6) 60 mo, aI G (h 7) 60 ki, aI G (h 8) 60 am, aZ G (h 9) 60 sk, aZ G (h 10) 60 dn, aI G (h 11) 121 y1, aI G (h 12) 121 y2, aI G (h 13) 121 y3, aI G (h 14) 121 y4, aI G (h 15) 121 y5, aI G (h 16) 121 y6, aI G (h 17) 121 y7, cM h (q.1, q.2.1, q.2.2, (nI np), (nI n)) w5 t5, aI G (h 19) 60 mo, aI G (h 20) 60 ki, aI G (h 21) 60 am, aZ G (h 22) 60 sk, aZ G (h 23) 60 dn5, cF h (nI 0), cP (h 1) ((xs (nI i + 1).toNatClampNeg), (xs (nI i + 2).toNatClampNeg), (xs (nI i + 3).toNatClampNeg)), cB h (nI 0), cS (h 4) z7, aJ G (h 24) 1 (F_L_begin (nI np) q (nI n) v fo (xs (nI i + 1).toNatClampNeg) (xs (nI i + 2).toNatClampNeg) (xs (nI i + 3).toNatClampNeg))] H locs := hW
      refine lv_istore (lv' := [(5, .int 0), (0, .ref b), (1, .ref (h 0)), (2, .ref (h 18)), (3, .ref (h 24)), (4, .int (nI i))]) hx hb dL_law_159 hl (by decide) rfl (fun ls hl => ?_)
      refine lv_aload_n hx hb dL_law_161 rfl (lv_at hl 3 rfl) ?_
      refine lv_aload_n hx hb dL_law_162 rfl (lv_at hl 1 rfl) ?_
      refine lv_iload hx hb dL_law_163 (lv_at hl 5 rfl) ?_
      refine lv_iconst (v := 1) hx hb dL_law_165 (by decide) ?_
      refine lv_iadd hx hb dL_law_166 ?_
      refine va_sld hx hb hX hbl hbA hW.2.2.1 (sc1 hi hL) dL_law_167 ?_
      refine lv_aload_n hx hb dL_law_168 rfl (lv_at hl 1 rfl) ?_
      refine lv_iload hx hb dL_law_169 (lv_at hl 5 rfl) ?_
      refine lv_iconst (v := 2) hx hb dL_law_171 (by decide) ?_
      refine lv_iadd hx hb dL_law_172 ?_
      refine va_sld hx hb hX hbl hbA hW.2.2.1 (sc2 hi hL) dL_law_173 ?_
      refine lv_aload_n hx hb dL_law_174 rfl (lv_at hl 1 rfl) ?_
      refine lv_iload hx hb dL_law_175 (lv_at hl 5 rfl) ?_
      refine lv_iconst (v := 3) hx hb dL_law_177 (by decide) ?_
      refine lv_iadd hx hb dL_law_178 ?_
      refine va_sld hx hb hX hbl hbA hW.2.2.1 (sc3 hi hL) dL_law_179 ?_
      refine k_callVi (C := RX5) (As := [.int (xs (nI i + 1).toNatClampNeg), .int (xs (nI i + 2).toNatClampNeg), .int (xs (nI i + 3).toNatClampNeg)]) (rest := []) (wr := [cH h, cS (h 5) tr, aI G (h 6) 60 mo, aI G (h 7) 60 ki, aI G (h 8) 60 am, aZ G (h 9) 60 sk, aZ G (h 10) 60 dn, aI G (h 11) 121 y1, aI G (h 12) 121 y2, aI G (h 13) 121 y3, aI G (h 14) 121 y4, aI G (h 15) 121 y5, aI G (h 16) 121 y6, aI G (h 17) 121 y7, aI G (h 19) 60 mo, aI G (h 20) 60 ki, aI G (h 21) 60 am, aZ G (h 22) 60 sk, aZ G (h 23) 60 dn5, cF h (nI 0), cP (h 1) ((xs (nI i + 1).toNatClampNeg), (xs (nI i + 2).toNatClampNeg), (xs (nI i + 3).toNatClampNeg)), cB h (nI 0), cS (h 4) z7, aJ G (h 24) 1 (F_L_begin (nI np) q (nI n) v fo (xs (nI i + 1).toNatClampNeg) (xs (nI i + 2).toNatClampNeg) (xs (nI i + 3).toNatClampNeg))]) (c_X5_begin l G h q.1 q.2.1 q.2.2 (nI np) (nI n) w5 t5 (xs (nI i + 1).toNatClampNeg) (xs (nI i + 2).toNatClampNeg) (xs (nI i + 3).toNatClampNeg)) S hK hW gL_law_X5_begin rfl ⟨rfl, rfl⟩ nd_X5_begin ⟨rfl, rfl⟩ (qb := 14) (ci := 5) rfl rfl [14] [0, 1, 2, 3, 4, 5, 6, 7, 8, 9, 10, 11, 12, 13, 15, 16, 17, 18, 19, 20, 21, 22, 23, 24] rfl rfl rfl rfl (by decide) rfl hl.1 rfl dL_law_180 hf1 (fun H locs hW => ?_)
      have hW : Wd G A sS.heap [cH h, cS (h 5) tr, aI G (h 6) 60 mo, aI G (h 7) 60 ki, aI G (h 8) 60 am, aZ G (h 9) 60 sk, aZ G (h 10) 60 dn, aI G (h 11) 121 y1, aI G (h 12) 121 y2, aI G (h 13) 121 y3, aI G (h 14) 121 y4, aI G (h 15) 121 y5, aI G (h 16) 121 y6, aI G (h 17) 121 y7, aI G (h 19) 60 mo, aI G (h 20) 60 ki, aI G (h 21) 60 am, aZ G (h 22) 60 sk, aZ G (h 23) 60 dn5, cF h (nI 0), cP (h 1) ((xs (nI i + 1).toNatClampNeg), (xs (nI i + 2).toNatClampNeg), (xs (nI i + 3).toNatClampNeg)), cB h (nI 0), cS (h 4) z7, aJ G (h 24) 1 (F_L_begin (nI np) q (nI n) v fo (xs (nI i + 1).toNatClampNeg) (xs (nI i + 2).toNatClampNeg) (xs (nI i + 3).toNatClampNeg)), cM h (((F_X5_begin q.1 q.2.1 q.2.2 (nI np) (nI n) (xs (nI i + 1).toNatClampNeg) (xs (nI i + 2).toNatClampNeg) (xs (nI i + 3).toNatClampNeg)).2.1), ((F_X5_begin q.1 q.2.1 q.2.2 (nI np) (nI n) (xs (nI i + 1).toNatClampNeg) (xs (nI i + 2).toNatClampNeg) (xs (nI i + 3).toNatClampNeg)).2.2.1), ((F_X5_begin q.1 q.2.1 q.2.2 (nI np) (nI n) (xs (nI i + 1).toNatClampNeg) (xs (nI i + 2).toNatClampNeg) (xs (nI i + 3).toNatClampNeg)).2.2.2.1), ((F_X5_begin q.1 q.2.1 q.2.2 (nI np) (nI n) (xs (nI i + 1).toNatClampNeg) (xs (nI i + 2).toNatClampNeg) (xs (nI i + 3).toNatClampNeg)).2.2.2.2.1), ((F_X5_begin q.1 q.2.1 q.2.2 (nI np) (nI n) (xs (nI i + 1).toNatClampNeg) (xs (nI i + 2).toNatClampNeg) (xs (nI i + 3).toNatClampNeg)).2.2.2.2.2.1)) w5 ((F_X5_begin q.1 q.2.1 q.2.2 (nI np) (nI n) (xs (nI i + 1).toNatClampNeg) (xs (nI i + 2).toNatClampNeg) (xs (nI i + 3).toNatClampNeg)).2.2.2.2.2.2)] H locs := hW
      rw [e5] at hW
      rw [e5]
      have hW : Wd G A sS.heap [cH h, cS (h 5) tr, aI G (h 6) 60 mo, aI G (h 7) 60 ki, aI G (h 8) 60 am, aZ G (h 9) 60 sk, aZ G (h 10) 60 dn, aI G (h 11) 121 y1, aI G (h 12) 121 y2, aI G (h 13) 121 y3, aI G (h 14) 121 y4, aI G (h 15) 121 y5, aI G (h 16) 121 y6, aI G (h 17) 121 y7, aI G (h 19) 60 mo, aI G (h 20) 60 ki, aI G (h 21) 60 am, aZ G (h 22) 60 sk, aZ G (h 23) 60 dn5, cF h (nI 0), cP (h 1) ((xs (nI i + 1).toNatClampNeg), (xs (nI i + 2).toNatClampNeg), (xs (nI i + 3).toNatClampNeg)), cB h (nI 0), cS (h 4) z7, aJ G (h 24) 1 (F_L_begin (nI np) q (nI n) v fo (xs (nI i + 1).toNatClampNeg) (xs (nI i + 2).toNatClampNeg) (xs (nI i + 3).toNatClampNeg)), cM h ((xs (nI i + 1).toNatClampNeg), (xs (nI i + 2).toNatClampNeg), (xs (nI i + 3).toNatClampNeg), (nI 0), (nI 0)) w5 0] H locs := hW
      refine lv_istore (lv' := [(6, .int (nI np)), (5, .int 0), (0, .ref b), (1, .ref (h 0)), (2, .ref (h 18)), (3, .ref (h 24)), (4, .int (nI i))]) hx hb dL_law_183 hl (by decide) rfl (fun ls hl => ?_)
      refine lv_aload_n hx hb dL_law_185 rfl (lv_at hl 4 rfl) ?_
      refine k_callVi (C := RX5) (As := []) (rest := []) (wr := [cH h, cS (h 5) tr, aI G (h 6) 60 mo, aI G (h 7) 60 ki, aI G (h 8) 60 am, aZ G (h 9) 60 sk, aZ G (h 10) 60 dn, aI G (h 11) 121 y1, aI G (h 12) 121 y2, aI G (h 13) 121 y3, aI G (h 14) 121 y4, aI G (h 15) 121 y5, aI G (h 16) 121 y6, aI G (h 17) 121 y7, aI G (h 19) 60 mo, aI G (h 20) 60 ki, aI G (h 21) 60 am, aZ G (h 22) 60 sk, aZ G (h 23) 60 dn5, cF h (nI 0), cP (h 1) ((xs (nI i + 1).toNatClampNeg), (xs (nI i + 2).toNatClampNeg), (xs (nI i + 3).toNatClampNeg)), cB h (nI 0), cS (h 4) z7, aJ G (h 24) 1 (F_L_begin (nI np) q (nI n) v fo (xs (nI i + 1).toNatClampNeg) (xs (nI i + 2).toNatClampNeg) (xs (nI i + 3).toNatClampNeg))]) (c_X5_thrown l G h (xs (nI i + 1).toNatClampNeg) (xs (nI i + 2).toNatClampNeg) (xs (nI i + 3).toNatClampNeg) (nI 0) (nI 0) w5 0) S hK hW gL_law_X5_thrown rfl ⟨rfl, rfl⟩ nd_X5_thrown ⟨rfl, rfl⟩ (qb := 24) (ci := 5) rfl rfl [24] [0, 1, 2, 3, 4, 5, 6, 7, 8, 9, 10, 11, 12, 13, 14, 15, 16, 17, 18, 19, 20, 21, 22, 23] rfl rfl rfl rfl (by decide) rfl hl.1 rfl dL_law_186 hf1 (fun H locs hW => ?_)
      have hW : Wd G A sS.heap [cH h, cS (h 5) tr, aI G (h 6) 60 mo, aI G (h 7) 60 ki, aI G (h 8) 60 am, aZ G (h 9) 60 sk, aZ G (h 10) 60 dn, aI G (h 11) 121 y1, aI G (h 12) 121 y2, aI G (h 13) 121 y3, aI G (h 14) 121 y4, aI G (h 15) 121 y5, aI G (h 16) 121 y6, aI G (h 17) 121 y7, aI G (h 19) 60 mo, aI G (h 20) 60 ki, aI G (h 21) 60 am, aZ G (h 22) 60 sk, aZ G (h 23) 60 dn5, cF h (nI 0), cP (h 1) ((xs (nI i + 1).toNatClampNeg), (xs (nI i + 2).toNatClampNeg), (xs (nI i + 3).toNatClampNeg)), cB h (nI 0), cS (h 4) z7, aJ G (h 24) 1 (F_L_begin (nI np) q (nI n) v fo (xs (nI i + 1).toNatClampNeg) (xs (nI i + 2).toNatClampNeg) (xs (nI i + 3).toNatClampNeg)), cM h ((xs (nI i + 1).toNatClampNeg), (xs (nI i + 2).toNatClampNeg), (xs (nI i + 3).toNatClampNeg), (nI 0), (nI 0)) w5 0] H locs := hW
      refine lv_iload hx hb dL_law_189 (lv_at hl 1 rfl) ?_
      refine lv_icmp_eq (tgt := 196) hx hb dL_law_191 (by decide) (fun c_1 => ?_) (fun c_1 => ?_)
      ·
        refine lv_iload hx hb dL_law_196 (lv_at hl 1 rfl) ?_
        refine lv_if_ne (tgt := 213) hx hb dL_law_198 (by decide) (fun c_2 => ?_) (fun c_2 => ?_)
        ·
          exact absurd c_2 (by decide)
        ·
          refine lv_aload_n hx hb dL_law_201 rfl (lv_at hl 5 rfl) ?_
          refine lv_iconst (v := 0) hx hb dL_law_202 (by decide) ?_
          refine k_lald (n := 1) S hK hW 23 rfl (i := 0) vp_01 dL_law_203 ?_
          refine lv_iload hx hb dL_law_204 (lv_at hl 0 rfl) ?_
          refine lv_i2l hx hb dL_law_206 rfl ?_
          refine W.lcmp hx hb dL_law_207 ?_
          refine lv_if_eq (tgt := 213) hx hb dL_law_208 (by decide) (fun c_3 => ?_) (fun c_3 => ?_)
          ·
            refine lv_goto (tgt := 944) hx hb dL_law_213 (by decide) ?_
            exact K 0 0 ((xs (nI i + 1).toNatClampNeg), (xs (nI i + 2).toNatClampNeg), (xs (nI i + 3).toNatClampNeg)) mo ki am sk dn y1 y2 y3 y4 y5 y6 y7 z7 tr w5 0 dn5 (F_L_begin (nI np) q (nI n) v fo (xs (nI i + 1).toNatClampNeg) (xs (nI i + 2).toNatClampNeg) (xs (nI i + 3).toNatClampNeg)) I2 _ _ _ (hW.re [19, 20, 21, 0, 22, 1, 2, 3, 4, 5, 6, 7, 8, 9, 10, 11, 12, 13, 24, 14, 15, 16, 17, 18, 23] rfl rfl) (lv_sub hl [2, 3, 4, 5, 6] rfl)
          ·
            have ho : (F_L_begin (nI np) q (nI n) v fo (xs (nI i + 1).toNatClampNeg) (xs (nI i + 2).toNatClampNeg) (xs (nI i + 3).toNatClampNeg)) (0 : Int32).toNatClampNeg = (nI np).toInt64 := by
              unfold F_L_begin
              rw [e4]
              exact pk_uLs
            exact (c_3 (by rw [ho]; exact lcmp_self _)).elim
      ·
        exact (c_1 rfl).elim
set_option maxHeartbeats 4000000 in
set_option maxRecDepth 100000 in
theorem lc_tell {pP : Program} {l : Launch} {eE : Env} {sS : State} {mM : MethodId} {args : Array Value} {below : List Frame} {meth : Method} {cC : Code} {Q : State → Prop} {G : GG} {A : Nat → Prop} {h : Nat → Nat} {b L i : Nat} {xs : Nat → Int32} {cells slots : Nat} (X : LWX pP l sS mM args cC G A b L xs) (hi : i + 4 ≤ L) (hc : cells + 1 ≤ room_1.cells) (hs : slots + 6 ≤ room_1.slots) (K : LWP pP l eE sS mM args below meth cC Q G A h b i (cells + 1) (slots + 6)) (np n : Nat) (q : S3) (mo ki am : N32) (sk dn : Nat → Bool) (y1 y2 y3 y4 y5 y6 y7 : N32) (v tr w5 : S7) (t5 : Int32) (dn5 : Nat → Bool) (fo : Nat → Int64) (I : Inv np n q mo ki am sk (dn, y1, y2, y3, y4, y5, y6, y7, v)) (H : Heap) (locs : List Loc) (ls : Array Slot) (hW : Wd G A sS.heap [cF h (nI np), cP (h 1) q, cB h (nI n), cH h, cS (h 4) v, cS (h 5) tr, aI G (h 6) 60 mo, aI G (h 7) 60 ki, aI G (h 8) 60 am, aZ G (h 9) 60 sk, aZ G (h 10) 60 dn, aI G (h 11) 121 y1, aI G (h 12) 121 y2, aI G (h 13) 121 y3, aI G (h 14) 121 y4, aI G (h 15) 121 y5, aI G (h 16) 121 y6, aI G (h 17) 121 y7, cM h (q.1, q.2.1, q.2.2, (nI np), (nI n)) w5 t5, aI G (h 19) 60 mo, aI G (h 20) 60 ki, aI G (h 21) 60 am, aZ G (h 22) 60 sk, aZ G (h 23) 60 dn5, aJ G (h 24) 1 fo] H locs) (hl : lv_has ls 7 [(0, .ref b), (1, .ref (h 0)), (2, .ref (h 18)), (3, .ref (h 24)), (4, .int (nI i))]) :
    W pP l eE room_1 sS mM args below meth cC H locs cells slots Q (F0 mM 216 ls []) := by
  obtain ⟨S, hK, hXE, hXZ, hst, hX, hbl, hbA, hL⟩ := X
  have hx := S.1
  have hb := S.2.1
  have hn := I.1
  have hp := I.2.1
  have hmo := I.hmo
  have hf1 : cells + 1 ≤ room_1.cells ∧ slots + 6 ≤ room_1.slots := ⟨hc, hs⟩
  have hf0 : cells ≤ room_1.cells ∧ slots ≤ room_1.slots := ⟨Nat.le_of_succ_le hc, Nat.le_trans (Nat.le_add_right _ _) hs⟩
  rcases p_tell I w5 dn5 (xs (nI i + 1).toNatClampNeg) (xs (nI i + 2).toNatClampNeg) (xs (nI i + 3).toNatClampNeg) with ⟨kk, hkk, e4, e5⟩ | ⟨bb, mo2, ki2, am2, sk2, dn2, z1, z2, z3, z4, z5, z6, z7, v2, w2, dn6, e4, e5, I2⟩
  ·
    have e4 : (F_X4_tell mo ki am sk dn y1 y2 y3 y4 y5 y6 y7 q v (xs (nI i + 1).toNatClampNeg) (xs (nI i + 2).toNatClampNeg) (xs (nI i + 3).toNatClampNeg) np n).1 = kk := e4
    have e5 : (F_X5_tell q.1 q.2.1 q.2.2 w5 mo ki am sk dn5 (xs (nI i + 1).toNatClampNeg) (xs (nI i + 2).toNatClampNeg) (xs (nI i + 3).toNatClampNeg) np n) = (false, nI n, w5, kk, mo, ki, am, sk, dn5) := e5
    refine lv_aload_n hx hb dL_law_216 rfl (lv_at hl 1 rfl) ?_
    refine lv_aload_n hx hb dL_law_217 rfl (lv_at hl 0 rfl) ?_
    refine lv_iload hx hb dL_law_218 (lv_at hl 4 rfl) ?_
    refine lv_iconst (v := 1) hx hb dL_law_220 (by decide) ?_
    refine lv_iadd hx hb dL_law_221 ?_
    refine va_sld hx hb hX hbl hbA hW.2.2.1 (sc1 hi hL) dL_law_222 ?_
    refine lv_aload_n hx hb dL_law_223 rfl (lv_at hl 0 rfl) ?_
    refine lv_iload hx hb dL_law_224 (lv_at hl 4 rfl) ?_
    refine lv_iconst (v := 2) hx hb dL_law_226 (by decide) ?_
    refine lv_iadd hx hb dL_law_227 ?_
    refine va_sld hx hb hX hbl hbA hW.2.2.1 (sc2 hi hL) dL_law_228 ?_
    refine lv_aload_n hx hb dL_law_229 rfl (lv_at hl 0 rfl) ?_
    refine lv_iload hx hb dL_law_230 (lv_at hl 4 rfl) ?_
    refine lv_iconst (v := 3) hx hb dL_law_232 (by decide) ?_
    refine lv_iadd hx hb dL_law_233 ?_
    refine va_sld hx hb hX hbl hbA hW.2.2.1 (sc3 hi hL) dL_law_234 ?_
    refine lv_aload_n hx hb dL_law_235 rfl (lv_at hl 3 rfl) ?_
    refine ky_callS (As := [.ref (h 0), .int (xs (nI i + 1).toNatClampNeg), .int (xs (nI i + 2).toNatClampNeg), .int (xs (nI i + 3).toNatClampNeg), .ref (h 24)]) (rest := []) (wr := [cS (h 5) tr, cM h (q.1, q.2.1, q.2.2, (nI np), (nI n)) w5 t5, aI G (h 19) 60 mo, aI G (h 20) 60 ki, aI G (h 21) 60 am, aZ G (h 22) 60 sk, aZ G (h 23) 60 dn5]) (c_L_tell l hst G h mo ki am sk dn y1 y2 y3 y4 y5 y6 y7 q v fo (xs (nI i + 1).toNatClampNeg) (xs (nI i + 2).toNatClampNeg) (xs (nI i + 3).toNatClampNeg) np n hn hp) S hK hW hXE hXZ gL_law_L_tell rfl ⟨rfl, rfl⟩ nd_L_tell ⟨rfl, rfl⟩ [0, 2, 6, 7, 8, 9, 10, 3, 11, 12, 13, 14, 15, 16, 17, 1, 4, 24] [5, 18, 19, 20, 21, 22, 23] rfl rfl rfl rfl (by decide) rfl hl.1 rfl dL_law_236 hf1 (fun H locs hk hW => ?_) (fun H locs hk hW => ?_)
    ·
      have hW : Wd G A sS.heap [cS (h 5) tr, cM h (q.1, q.2.1, q.2.2, (nI np), (nI n)) w5 t5, aI G (h 19) 60 mo, aI G (h 20) 60 ki, aI G (h 21) 60 am, aZ G (h 22) 60 sk, aZ G (h 23) 60 dn5, cF h (nI np), cB h (nI n), aI G (h 6) 60 mo, aI G (h 7) 60 ki, aI G (h 8) 60 am, aZ G (h 9) 60 sk, aZ G (h 10) 60 dn, cH h, aI G (h 11) 121 y1, aI G (h 12) 121 y2, aI G (h 13) 121 y3, aI G (h 14) 121 y4, aI G (h 15) 121 y5, aI G (h 16) 121 y6, aI G (h 17) 121 y7, cP (h 1) q, cS (h 4) v, aJ G (h 24) 1 fo] H locs := hW
      rw [e4]
      refine lv_istore (lv' := [(5, .int kk), (0, .ref b), (1, .ref (h 0)), (2, .ref (h 18)), (3, .ref (h 24)), (4, .int (nI i))]) hx hb dL_law_239 hl (by decide) rfl (fun ls hl => ?_)
      refine lv_aload_n hx hb dL_law_241 rfl (lv_at hl 3 rfl) ?_
      refine lv_aload_n hx hb dL_law_242 rfl (lv_at hl 1 rfl) ?_
      refine lv_iload hx hb dL_law_243 (lv_at hl 5 rfl) ?_
      refine lv_iconst (v := 1) hx hb dL_law_245 (by decide) ?_
      refine lv_iadd hx hb dL_law_246 ?_
      refine va_sld hx hb hX hbl hbA hW.2.2.1 (sc1 hi hL) dL_law_247 ?_
      refine lv_aload_n hx hb dL_law_248 rfl (lv_at hl 1 rfl) ?_
      refine lv_iload hx hb dL_law_249 (lv_at hl 5 rfl) ?_
      refine lv_iconst (v := 2) hx hb dL_law_251 (by decide) ?_
      refine lv_iadd hx hb dL_law_252 ?_
      refine va_sld hx hb hX hbl hbA hW.2.2.1 (sc2 hi hL) dL_law_253 ?_
      refine lv_aload_n hx hb dL_law_254 rfl (lv_at hl 1 rfl) ?_
      refine lv_iload hx hb dL_law_255 (lv_at hl 5 rfl) ?_
      refine lv_iconst (v := 3) hx hb dL_law_257 (by decide) ?_
      refine lv_iadd hx hb dL_law_258 ?_
      refine va_sld hx hb hX hbl hbA hW.2.2.1 (sc3 hi hL) dL_law_259 ?_
      refine k_callVi (C := RX5) (As := [.int (xs (nI i + 1).toNatClampNeg), .int (xs (nI i + 2).toNatClampNeg), .int (xs (nI i + 3).toNatClampNeg)]) (rest := []) (wr := [cS (h 5) tr, cF h (nI np), cB h (nI n), aI G (h 6) 60 mo, aI G (h 7) 60 ki, aI G (h 8) 60 am, aZ G (h 9) 60 sk, aZ G (h 10) 60 dn, cH h, aI G (h 11) 121 y1, aI G (h 12) 121 y2, aI G (h 13) 121 y3, aI G (h 14) 121 y4, aI G (h 15) 121 y5, aI G (h 16) 121 y6, aI G (h 17) 121 y7, cP (h 1) q, cS (h 4) v, aJ G (h 24) 1 fo]) (c_X5_tell l G h q.1 q.2.1 q.2.2 w5 t5 mo ki am sk dn5 (xs (nI i + 1).toNatClampNeg) (xs (nI i + 2).toNatClampNeg) (xs (nI i + 3).toNatClampNeg) np n (by omega) (by omega)) S hK hW gL_law_X5_tell rfl ⟨rfl, rfl⟩ nd_X5_tell ⟨rfl, rfl⟩ (qb := 1) (ci := 5) rfl rfl [1, 2, 3, 4, 5, 6] [0, 7, 8, 9, 10, 11, 12, 13, 14, 15, 16, 17, 18, 19, 20, 21, 22, 23, 24] rfl rfl rfl rfl (by decide) rfl hl.1 rfl dL_law_260 hf1 (fun H locs hW => ?_)
      have hW : Wd G A sS.heap [cS (h 5) tr, cF h (nI np), cB h (nI n), aI G (h 6) 60 mo, aI G (h 7) 60 ki, aI G (h 8) 60 am, aZ G (h 9) 60 sk, aZ G (h 10) 60 dn, cH h, aI G (h 11) 121 y1, aI G (h 12) 121 y2, aI G (h 13) 121 y3, aI G (h 14) 121 y4, aI G (h 15) 121 y5, aI G (h 16) 121 y6, aI G (h 17) 121 y7, cP (h 1) q, cS (h 4) v, aJ G (h 24) 1 fo, cM h (q.1, q.2.1, q.2.2, (nI np), ((F_X5_tell q.1 q.2.1 q.2.2 w5 mo ki am sk dn5 (xs (nI i + 1).toNatClampNeg) (xs (nI i + 2).toNatClampNeg) (xs (nI i + 3).toNatClampNeg) np n).2.1)) ((F_X5_tell q.1 q.2.1 q.2.2 w5 mo ki am sk dn5 (xs (nI i + 1).toNatClampNeg) (xs (nI i + 2).toNatClampNeg) (xs (nI i + 3).toNatClampNeg) np n).2.2.1) ((F_X5_tell q.1 q.2.1 q.2.2 w5 mo ki am sk dn5 (xs (nI i + 1).toNatClampNeg) (xs (nI i + 2).toNatClampNeg) (xs (nI i + 3).toNatClampNeg) np n).2.2.2.1), aI G (h 19) 60 ((F_X5_tell q.1 q.2.1 q.2.2 w5 mo ki am sk dn5 (xs (nI i + 1).toNatClampNeg) (xs (nI i + 2).toNatClampNeg) (xs (nI i + 3).toNatClampNeg) np n).2.2.2.2.1), aI G (h 20) 60 ((F_X5_tell q.1 q.2.1 q.2.2 w5 mo ki am sk dn5 (xs (nI i + 1).toNatClampNeg) (xs (nI i + 2).toNatClampNeg) (xs (nI i + 3).toNatClampNeg) np n).2.2.2.2.2.1), aI G (h 21) 60 ((F_X5_tell q.1 q.2.1 q.2.2 w5 mo ki am sk dn5 (xs (nI i + 1).toNatClampNeg) (xs (nI i + 2).toNatClampNeg) (xs (nI i + 3).toNatClampNeg) np n).2.2.2.2.2.2.1), aZ G (h 22) 60 ((F_X5_tell q.1 q.2.1 q.2.2 w5 mo ki am sk dn5 (xs (nI i + 1).toNatClampNeg) (xs (nI i + 2).toNatClampNeg) (xs (nI i + 3).toNatClampNeg) np n).2.2.2.2.2.2.2.1), aZ G (h 23) 60 ((F_X5_tell q.1 q.2.1 q.2.2 w5 mo ki am sk dn5 (xs (nI i + 1).toNatClampNeg) (xs (nI i + 2).toNatClampNeg) (xs (nI i + 3).toNatClampNeg) np n).2.2.2.2.2.2.2.2)] H locs := hW
      rw [e5] at hW
      rw [e5]
      have hW : Wd G A sS.heap [cS (h 5) tr, cF h (nI np), cB h (nI n), aI G (h 6) 60 mo, aI G (h 7) 60 ki, aI G (h 8) 60 am, aZ G (h 9) 60 sk, aZ G (h 10) 60 dn, cH h, aI G (h 11) 121 y1, aI G (h 12) 121 y2, aI G (h 13) 121 y3, aI G (h 14) 121 y4, aI G (h 15) 121 y5, aI G (h 16) 121 y6, aI G (h 17) 121 y7, cP (h 1) q, cS (h 4) v, aJ G (h 24) 1 fo, cM h (q.1, q.2.1, q.2.2, (nI np), (nI n)) w5 kk, aI G (h 19) 60 mo, aI G (h 20) 60 ki, aI G (h 21) 60 am, aZ G (h 22) 60 sk, aZ G (h 23) 60 dn5] H locs := hW
      refine lv_istore (lv' := [(6, .int (bI false)), (5, .int kk), (0, .ref b), (1, .ref (h 0)), (2, .ref (h 18)), (3, .ref (h 24)), (4, .int (nI i))]) hx hb dL_law_263 hl (by decide) rfl (fun ls hl => ?_)
      refine lv_aload_n hx hb dL_law_265 rfl (lv_at hl 4 rfl) ?_
      refine k_callVi (C := RX5) (As := []) (rest := []) (wr := [cS (h 5) tr, cF h (nI np), cB h (nI n), aI G (h 6) 60 mo, aI G (h 7) 60 ki, aI G (h 8) 60 am, aZ G (h 9) 60 sk, aZ G (h 10) 60 dn, cH h, aI G (h 11) 121 y1, aI G (h 12) 121 y2, aI G (h 13) 121 y3, aI G (h 14) 121 y4, aI G (h 15) 121 y5, aI G (h 16) 121 y6, aI G (h 17) 121 y7, cP (h 1) q, cS (h 4) v, aJ G (h 24) 1 fo, aI G (h 19) 60 mo, aI G (h 20) 60 ki, aI G (h 21) 60 am, aZ G (h 22) 60 sk, aZ G (h 23) 60 dn5]) (c_X5_thrown l G h q.1 q.2.1 q.2.2 (nI np) (nI n) w5 kk) S hK hW gL_law_X5_thrown rfl ⟨rfl, rfl⟩ nd_X5_thrown ⟨rfl, rfl⟩ (qb := 19) (ci := 5) rfl rfl [19] [0, 1, 2, 3, 4, 5, 6, 7, 8, 9, 10, 11, 12, 13, 14, 15, 16, 17, 18, 20, 21, 22, 23, 24] rfl rfl rfl rfl (by decide) rfl hl.1 rfl dL_law_266 hf1 (fun H locs hW => ?_)
      have hW : Wd G A sS.heap [cS (h 5) tr, cF h (nI np), cB h (nI n), aI G (h 6) 60 mo, aI G (h 7) 60 ki, aI G (h 8) 60 am, aZ G (h 9) 60 sk, aZ G (h 10) 60 dn, cH h, aI G (h 11) 121 y1, aI G (h 12) 121 y2, aI G (h 13) 121 y3, aI G (h 14) 121 y4, aI G (h 15) 121 y5, aI G (h 16) 121 y6, aI G (h 17) 121 y7, cP (h 1) q, cS (h 4) v, aJ G (h 24) 1 fo, aI G (h 19) 60 mo, aI G (h 20) 60 ki, aI G (h 21) 60 am, aZ G (h 22) 60 sk, aZ G (h 23) 60 dn5, cM h (q.1, q.2.1, q.2.2, (nI np), (nI n)) w5 kk] H locs := hW
      refine lv_iload hx hb dL_law_269 (lv_at hl 1 rfl) ?_
      refine lv_icmp_eq (tgt := 276) hx hb dL_law_271 (by decide) (fun c_1 => ?_) (fun c_1 => ?_)
      ·
        refine lv_iload hx hb dL_law_276 (lv_at hl 1 rfl) ?_
        refine lv_if_ne (tgt := 300) hx hb dL_law_278 (by decide) (fun c_2 => ?_) (fun c_2 => ?_)
        ·
          refine lv_goto (tgt := 944) hx hb dL_law_300 (by decide) ?_
          exact K np n q mo ki am sk dn y1 y2 y3 y4 y5 y6 y7 v tr w5 kk dn5 fo I _ _ _ (hW.re [1, 16, 2, 8, 17, 0, 3, 4, 5, 6, 7, 9, 10, 11, 12, 13, 14, 15, 24, 19, 20, 21, 22, 23, 18] rfl rfl) (lv_sub hl [2, 3, 4, 5, 6] rfl)
        ·
          exact absurd c_2 hkk
      ·
        exact (c_1 rfl).elim
    · exact absurd (e4.symm.trans hk) hkk
  ·
    have e4 : (F_X4_tell mo ki am sk dn y1 y2 y3 y4 y5 y6 y7 q v (xs (nI i + 1).toNatClampNeg) (xs (nI i + 2).toNatClampNeg) (xs (nI i + 3).toNatClampNeg) np n) = (0, bb, nI (n + 1), mo2, ki2, am2, sk2, dn2, z1, z2, z3, z4, z5, z6, z7, v2) := e4
    have e5 : (F_X5_tell q.1 q.2.1 q.2.2 w5 mo ki am sk dn5 (xs (nI i + 1).toNatClampNeg) (xs (nI i + 2).toNatClampNeg) (xs (nI i + 3).toNatClampNeg) np n) = (bb, nI (n + 1), w2, 0, mo2, ki2, am2, sk2, dn6) := e5
    refine lv_aload_n hx hb dL_law_216 rfl (lv_at hl 1 rfl) ?_
    refine lv_aload_n hx hb dL_law_217 rfl (lv_at hl 0 rfl) ?_
    refine lv_iload hx hb dL_law_218 (lv_at hl 4 rfl) ?_
    refine lv_iconst (v := 1) hx hb dL_law_220 (by decide) ?_
    refine lv_iadd hx hb dL_law_221 ?_
    refine va_sld hx hb hX hbl hbA hW.2.2.1 (sc1 hi hL) dL_law_222 ?_
    refine lv_aload_n hx hb dL_law_223 rfl (lv_at hl 0 rfl) ?_
    refine lv_iload hx hb dL_law_224 (lv_at hl 4 rfl) ?_
    refine lv_iconst (v := 2) hx hb dL_law_226 (by decide) ?_
    refine lv_iadd hx hb dL_law_227 ?_
    refine va_sld hx hb hX hbl hbA hW.2.2.1 (sc2 hi hL) dL_law_228 ?_
    refine lv_aload_n hx hb dL_law_229 rfl (lv_at hl 0 rfl) ?_
    refine lv_iload hx hb dL_law_230 (lv_at hl 4 rfl) ?_
    refine lv_iconst (v := 3) hx hb dL_law_232 (by decide) ?_
    refine lv_iadd hx hb dL_law_233 ?_
    refine va_sld hx hb hX hbl hbA hW.2.2.1 (sc3 hi hL) dL_law_234 ?_
    refine lv_aload_n hx hb dL_law_235 rfl (lv_at hl 3 rfl) ?_
    refine ky_callS (As := [.ref (h 0), .int (xs (nI i + 1).toNatClampNeg), .int (xs (nI i + 2).toNatClampNeg), .int (xs (nI i + 3).toNatClampNeg), .ref (h 24)]) (rest := []) (wr := [cS (h 5) tr, cM h (q.1, q.2.1, q.2.2, (nI np), (nI n)) w5 t5, aI G (h 19) 60 mo, aI G (h 20) 60 ki, aI G (h 21) 60 am, aZ G (h 22) 60 sk, aZ G (h 23) 60 dn5]) (c_L_tell l hst G h mo ki am sk dn y1 y2 y3 y4 y5 y6 y7 q v fo (xs (nI i + 1).toNatClampNeg) (xs (nI i + 2).toNatClampNeg) (xs (nI i + 3).toNatClampNeg) np n hn hp) S hK hW hXE hXZ gL_law_L_tell rfl ⟨rfl, rfl⟩ nd_L_tell ⟨rfl, rfl⟩ [0, 2, 6, 7, 8, 9, 10, 3, 11, 12, 13, 14, 15, 16, 17, 1, 4, 24] [5, 18, 19, 20, 21, 22, 23] rfl rfl rfl rfl (by decide) rfl hl.1 rfl dL_law_236 hf1 (fun H locs hk hW => ?_) (fun H locs hk hW => ?_)
    · exact absurd (show (F_X4_tell mo ki am sk dn y1 y2 y3 y4 y5 y6 y7 q v (xs (nI i + 1).toNatClampNeg) (xs (nI i + 2).toNatClampNeg) (xs (nI i + 3).toNatClampNeg) np n).1 = 0 by rw [e4]) hk
    ·
      rw [hk]
      try rw [e4] at hW
      have hW : Wd G A sS.heap [cS (h 5) tr, cM h (q.1, q.2.1, q.2.2, (nI np), (nI n)) w5 t5, aI G (h 19) 60 mo, aI G (h 20) 60 ki, aI G (h 21) 60 am, aZ G (h 22) 60 sk, aZ G (h 23) 60 dn5, cF h (nI np), cB h (nI (n + 1)), aI G (h 6) 60 mo2, aI G (h 7) 60 ki2, aI G (h 8) 60 am2, aZ G (h 9) 60 sk2, aZ G (h 10) 60 dn2, cH h, aI G (h 11) 121 z1, aI G (h 12) 121 z2, aI G (h 13) 121 z3, aI G (h 14) 121 z4, aI G (h 15) 121 z5, aI G (h 16) 121 z6, aI G (h 17) 121 z7, cP (h 1) q, cS (h 4) v2, aJ G (h 24) 1 (F_L_tell mo ki am sk dn y1 y2 y3 y4 y5 y6 y7 q v fo (xs (nI i + 1).toNatClampNeg) (xs (nI i + 2).toNatClampNeg) (xs (nI i + 3).toNatClampNeg) np n)] H locs := hW
      refine lv_istore (lv' := [(5, .int 0), (0, .ref b), (1, .ref (h 0)), (2, .ref (h 18)), (3, .ref (h 24)), (4, .int (nI i))]) hx hb dL_law_239 hl (by decide) rfl (fun ls hl => ?_)
      refine lv_aload_n hx hb dL_law_241 rfl (lv_at hl 3 rfl) ?_
      refine lv_aload_n hx hb dL_law_242 rfl (lv_at hl 1 rfl) ?_
      refine lv_iload hx hb dL_law_243 (lv_at hl 5 rfl) ?_
      refine lv_iconst (v := 1) hx hb dL_law_245 (by decide) ?_
      refine lv_iadd hx hb dL_law_246 ?_
      refine va_sld hx hb hX hbl hbA hW.2.2.1 (sc1 hi hL) dL_law_247 ?_
      refine lv_aload_n hx hb dL_law_248 rfl (lv_at hl 1 rfl) ?_
      refine lv_iload hx hb dL_law_249 (lv_at hl 5 rfl) ?_
      refine lv_iconst (v := 2) hx hb dL_law_251 (by decide) ?_
      refine lv_iadd hx hb dL_law_252 ?_
      refine va_sld hx hb hX hbl hbA hW.2.2.1 (sc2 hi hL) dL_law_253 ?_
      refine lv_aload_n hx hb dL_law_254 rfl (lv_at hl 1 rfl) ?_
      refine lv_iload hx hb dL_law_255 (lv_at hl 5 rfl) ?_
      refine lv_iconst (v := 3) hx hb dL_law_257 (by decide) ?_
      refine lv_iadd hx hb dL_law_258 ?_
      refine va_sld hx hb hX hbl hbA hW.2.2.1 (sc3 hi hL) dL_law_259 ?_
      refine k_callVi (C := RX5) (As := [.int (xs (nI i + 1).toNatClampNeg), .int (xs (nI i + 2).toNatClampNeg), .int (xs (nI i + 3).toNatClampNeg)]) (rest := []) (wr := [cS (h 5) tr, cF h (nI np), cB h (nI (n + 1)), aI G (h 6) 60 mo2, aI G (h 7) 60 ki2, aI G (h 8) 60 am2, aZ G (h 9) 60 sk2, aZ G (h 10) 60 dn2, cH h, aI G (h 11) 121 z1, aI G (h 12) 121 z2, aI G (h 13) 121 z3, aI G (h 14) 121 z4, aI G (h 15) 121 z5, aI G (h 16) 121 z6, aI G (h 17) 121 z7, cP (h 1) q, cS (h 4) v2, aJ G (h 24) 1 (F_L_tell mo ki am sk dn y1 y2 y3 y4 y5 y6 y7 q v fo (xs (nI i + 1).toNatClampNeg) (xs (nI i + 2).toNatClampNeg) (xs (nI i + 3).toNatClampNeg) np n)]) (c_X5_tell l G h q.1 q.2.1 q.2.2 w5 t5 mo ki am sk dn5 (xs (nI i + 1).toNatClampNeg) (xs (nI i + 2).toNatClampNeg) (xs (nI i + 3).toNatClampNeg) np n (by omega) (by omega)) S hK hW gL_law_X5_tell rfl ⟨rfl, rfl⟩ nd_X5_tell ⟨rfl, rfl⟩ (qb := 1) (ci := 5) rfl rfl [1, 2, 3, 4, 5, 6] [0, 7, 8, 9, 10, 11, 12, 13, 14, 15, 16, 17, 18, 19, 20, 21, 22, 23, 24] rfl rfl rfl rfl (by decide) rfl hl.1 rfl dL_law_260 hf1 (fun H locs hW => ?_)
      have hW : Wd G A sS.heap [cS (h 5) tr, cF h (nI np), cB h (nI (n + 1)), aI G (h 6) 60 mo2, aI G (h 7) 60 ki2, aI G (h 8) 60 am2, aZ G (h 9) 60 sk2, aZ G (h 10) 60 dn2, cH h, aI G (h 11) 121 z1, aI G (h 12) 121 z2, aI G (h 13) 121 z3, aI G (h 14) 121 z4, aI G (h 15) 121 z5, aI G (h 16) 121 z6, aI G (h 17) 121 z7, cP (h 1) q, cS (h 4) v2, aJ G (h 24) 1 (F_L_tell mo ki am sk dn y1 y2 y3 y4 y5 y6 y7 q v fo (xs (nI i + 1).toNatClampNeg) (xs (nI i + 2).toNatClampNeg) (xs (nI i + 3).toNatClampNeg) np n), cM h (q.1, q.2.1, q.2.2, (nI np), ((F_X5_tell q.1 q.2.1 q.2.2 w5 mo ki am sk dn5 (xs (nI i + 1).toNatClampNeg) (xs (nI i + 2).toNatClampNeg) (xs (nI i + 3).toNatClampNeg) np n).2.1)) ((F_X5_tell q.1 q.2.1 q.2.2 w5 mo ki am sk dn5 (xs (nI i + 1).toNatClampNeg) (xs (nI i + 2).toNatClampNeg) (xs (nI i + 3).toNatClampNeg) np n).2.2.1) ((F_X5_tell q.1 q.2.1 q.2.2 w5 mo ki am sk dn5 (xs (nI i + 1).toNatClampNeg) (xs (nI i + 2).toNatClampNeg) (xs (nI i + 3).toNatClampNeg) np n).2.2.2.1), aI G (h 19) 60 ((F_X5_tell q.1 q.2.1 q.2.2 w5 mo ki am sk dn5 (xs (nI i + 1).toNatClampNeg) (xs (nI i + 2).toNatClampNeg) (xs (nI i + 3).toNatClampNeg) np n).2.2.2.2.1), aI G (h 20) 60 ((F_X5_tell q.1 q.2.1 q.2.2 w5 mo ki am sk dn5 (xs (nI i + 1).toNatClampNeg) (xs (nI i + 2).toNatClampNeg) (xs (nI i + 3).toNatClampNeg) np n).2.2.2.2.2.1), aI G (h 21) 60 ((F_X5_tell q.1 q.2.1 q.2.2 w5 mo ki am sk dn5 (xs (nI i + 1).toNatClampNeg) (xs (nI i + 2).toNatClampNeg) (xs (nI i + 3).toNatClampNeg) np n).2.2.2.2.2.2.1), aZ G (h 22) 60 ((F_X5_tell q.1 q.2.1 q.2.2 w5 mo ki am sk dn5 (xs (nI i + 1).toNatClampNeg) (xs (nI i + 2).toNatClampNeg) (xs (nI i + 3).toNatClampNeg) np n).2.2.2.2.2.2.2.1), aZ G (h 23) 60 ((F_X5_tell q.1 q.2.1 q.2.2 w5 mo ki am sk dn5 (xs (nI i + 1).toNatClampNeg) (xs (nI i + 2).toNatClampNeg) (xs (nI i + 3).toNatClampNeg) np n).2.2.2.2.2.2.2.2)] H locs := hW
      rw [e5] at hW
      rw [e5]
      have hW : Wd G A sS.heap [cS (h 5) tr, cF h (nI np), cB h (nI (n + 1)), aI G (h 6) 60 mo2, aI G (h 7) 60 ki2, aI G (h 8) 60 am2, aZ G (h 9) 60 sk2, aZ G (h 10) 60 dn2, cH h, aI G (h 11) 121 z1, aI G (h 12) 121 z2, aI G (h 13) 121 z3, aI G (h 14) 121 z4, aI G (h 15) 121 z5, aI G (h 16) 121 z6, aI G (h 17) 121 z7, cP (h 1) q, cS (h 4) v2, aJ G (h 24) 1 (F_L_tell mo ki am sk dn y1 y2 y3 y4 y5 y6 y7 q v fo (xs (nI i + 1).toNatClampNeg) (xs (nI i + 2).toNatClampNeg) (xs (nI i + 3).toNatClampNeg) np n), cM h (q.1, q.2.1, q.2.2, (nI np), (nI (n + 1))) w2 0, aI G (h 19) 60 mo2, aI G (h 20) 60 ki2, aI G (h 21) 60 am2, aZ G (h 22) 60 sk2, aZ G (h 23) 60 dn6] H locs := hW
      refine lv_istore (lv' := [(6, .int (bI bb)), (5, .int 0), (0, .ref b), (1, .ref (h 0)), (2, .ref (h 18)), (3, .ref (h 24)), (4, .int (nI i))]) hx hb dL_law_263 hl (by decide) rfl (fun ls hl => ?_)
      refine lv_aload_n hx hb dL_law_265 rfl (lv_at hl 4 rfl) ?_
      refine k_callVi (C := RX5) (As := []) (rest := []) (wr := [cS (h 5) tr, cF h (nI np), cB h (nI (n + 1)), aI G (h 6) 60 mo2, aI G (h 7) 60 ki2, aI G (h 8) 60 am2, aZ G (h 9) 60 sk2, aZ G (h 10) 60 dn2, cH h, aI G (h 11) 121 z1, aI G (h 12) 121 z2, aI G (h 13) 121 z3, aI G (h 14) 121 z4, aI G (h 15) 121 z5, aI G (h 16) 121 z6, aI G (h 17) 121 z7, cP (h 1) q, cS (h 4) v2, aJ G (h 24) 1 (F_L_tell mo ki am sk dn y1 y2 y3 y4 y5 y6 y7 q v fo (xs (nI i + 1).toNatClampNeg) (xs (nI i + 2).toNatClampNeg) (xs (nI i + 3).toNatClampNeg) np n), aI G (h 19) 60 mo2, aI G (h 20) 60 ki2, aI G (h 21) 60 am2, aZ G (h 22) 60 sk2, aZ G (h 23) 60 dn6]) (c_X5_thrown l G h q.1 q.2.1 q.2.2 (nI np) (nI (n + 1)) w2 0) S hK hW gL_law_X5_thrown rfl ⟨rfl, rfl⟩ nd_X5_thrown ⟨rfl, rfl⟩ (qb := 19) (ci := 5) rfl rfl [19] [0, 1, 2, 3, 4, 5, 6, 7, 8, 9, 10, 11, 12, 13, 14, 15, 16, 17, 18, 20, 21, 22, 23, 24] rfl rfl rfl rfl (by decide) rfl hl.1 rfl dL_law_266 hf1 (fun H locs hW => ?_)
      have hW : Wd G A sS.heap [cS (h 5) tr, cF h (nI np), cB h (nI (n + 1)), aI G (h 6) 60 mo2, aI G (h 7) 60 ki2, aI G (h 8) 60 am2, aZ G (h 9) 60 sk2, aZ G (h 10) 60 dn2, cH h, aI G (h 11) 121 z1, aI G (h 12) 121 z2, aI G (h 13) 121 z3, aI G (h 14) 121 z4, aI G (h 15) 121 z5, aI G (h 16) 121 z6, aI G (h 17) 121 z7, cP (h 1) q, cS (h 4) v2, aJ G (h 24) 1 (F_L_tell mo ki am sk dn y1 y2 y3 y4 y5 y6 y7 q v fo (xs (nI i + 1).toNatClampNeg) (xs (nI i + 2).toNatClampNeg) (xs (nI i + 3).toNatClampNeg) np n), aI G (h 19) 60 mo2, aI G (h 20) 60 ki2, aI G (h 21) 60 am2, aZ G (h 22) 60 sk2, aZ G (h 23) 60 dn6, cM h (q.1, q.2.1, q.2.2, (nI np), (nI (n + 1))) w2 0] H locs := hW
      refine lv_iload hx hb dL_law_269 (lv_at hl 1 rfl) ?_
      refine lv_icmp_eq (tgt := 276) hx hb dL_law_271 (by decide) (fun c_1 => ?_) (fun c_1 => ?_)
      ·
        refine lv_iload hx hb dL_law_276 (lv_at hl 1 rfl) ?_
        refine lv_if_ne (tgt := 300) hx hb dL_law_278 (by decide) (fun c_2 => ?_) (fun c_2 => ?_)
        ·
          exact absurd c_2 (by decide)
        ·
          refine lv_aload_n hx hb dL_law_281 rfl (lv_at hl 5 rfl) ?_
          refine lv_iconst (v := 0) hx hb dL_law_282 (by decide) ?_
          refine k_lald (n := 1) S hK hW 18 rfl (i := 0) vp_01 dL_law_283 ?_
          refine lv_iload hx hb dL_law_284 (lv_at hl 0 rfl) ?_
          refine lv_if_eq (tgt := 293) hx hb dL_law_286 (by decide) (fun c_3 => ?_) (fun c_3 => ?_)
          ·
            refine lv_lconst (v := 0) hx hb dL_law_293 rfl ?_
            refine W.lcmp hx hb dL_law_294 ?_
            refine lv_if_eq (tgt := 300) hx hb dL_law_295 (by decide) (fun c_4 => ?_) (fun c_4 => ?_)
            ·
              refine lv_goto (tgt := 944) hx hb dL_law_300 (by decide) ?_
              exact K np (n + 1) q mo2 ki2 am2 sk2 dn2 z1 z2 z3 z4 z5 z6 z7 v2 tr w2 0 dn6 (F_L_tell mo ki am sk dn y1 y2 y3 y4 y5 y6 y7 q v fo (xs (nI i + 1).toNatClampNeg) (xs (nI i + 2).toNatClampNeg) (xs (nI i + 3).toNatClampNeg) np n) I2 _ _ _ (hW.re [1, 16, 2, 8, 17, 0, 3, 4, 5, 6, 7, 9, 10, 11, 12, 13, 14, 15, 24, 19, 20, 21, 22, 23, 18] rfl rfl) (lv_sub hl [2, 3, 4, 5, 6] rfl)
            ·
              have ho : (F_L_tell mo ki am sk dn y1 y2 y3 y4 y5 y6 y7 q v fo (xs (nI i + 1).toNatClampNeg) (xs (nI i + 2).toNatClampNeg) (xs (nI i + 3).toNatClampNeg) np n) (0 : Int32).toNatClampNeg = (0 : Int64) := by
                unfold F_L_tell
                rw [e4]
                dsimp only
                rw [if_pos c_3]
                exact pk_uLs
              exact (c_4 (by rw [ho]; exact lcmp_self _)).elim
          ·
            refine lv_lconst (v := 1) hx hb dL_law_289 rfl ?_
            refine lv_goto (tgt := 294) hx hb dL_law_290 (by decide) ?_
            refine W.lcmp hx hb dL_law_294 ?_
            refine lv_if_eq (tgt := 300) hx hb dL_law_295 (by decide) (fun c_5 => ?_) (fun c_5 => ?_)
            ·
              refine lv_goto (tgt := 944) hx hb dL_law_300 (by decide) ?_
              exact K np (n + 1) q mo2 ki2 am2 sk2 dn2 z1 z2 z3 z4 z5 z6 z7 v2 tr w2 0 dn6 (F_L_tell mo ki am sk dn y1 y2 y3 y4 y5 y6 y7 q v fo (xs (nI i + 1).toNatClampNeg) (xs (nI i + 2).toNatClampNeg) (xs (nI i + 3).toNatClampNeg) np n) I2 _ _ _ (hW.re [1, 16, 2, 8, 17, 0, 3, 4, 5, 6, 7, 9, 10, 11, 12, 13, 14, 15, 24, 19, 20, 21, 22, 23, 18] rfl rfl) (lv_sub hl [2, 3, 4, 5, 6] rfl)
            ·
              have ho : (F_L_tell mo ki am sk dn y1 y2 y3 y4 y5 y6 y7 q v fo (xs (nI i + 1).toNatClampNeg) (xs (nI i + 2).toNatClampNeg) (xs (nI i + 3).toNatClampNeg) np n) (0 : Int32).toNatClampNeg = (1 : Int64) := by
                unfold F_L_tell
                rw [e4]
                dsimp only
                rw [if_neg c_3]
                exact pk_uLs
              exact (c_5 (by rw [ho]; exact lcmp_self _)).elim
      ·
        exact (c_1 rfl).elim
set_option maxHeartbeats 4000000 in
set_option maxRecDepth 100000 in
theorem lc_strike {pP : Program} {l : Launch} {eE : Env} {sS : State} {mM : MethodId} {args : Array Value} {below : List Frame} {meth : Method} {cC : Code} {Q : State → Prop} {G : GG} {A : Nat → Prop} {h : Nat → Nat} {b L i : Nat} {xs : Nat → Int32} {cells slots : Nat} (X : LWX pP l sS mM args cC G A b L xs) (hi : i + 4 ≤ L) (hc : cells + 1 ≤ room_1.cells) (hs : slots + 6 ≤ room_1.slots) (K : LWP pP l eE sS mM args below meth cC Q G A h b i (cells + 1) (slots + 6)) (np n : Nat) (q : S3) (mo ki am : N32) (sk dn : Nat → Bool) (y1 y2 y3 y4 y5 y6 y7 : N32) (v tr w5 : S7) (t5 : Int32) (dn5 : Nat → Bool) (fo : Nat → Int64) (I : Inv np n q mo ki am sk (dn, y1, y2, y3, y4, y5, y6, y7, v)) (H : Heap) (locs : List Loc) (ls : Array Slot) (hW : Wd G A sS.heap [cF h (nI np), cP (h 1) q, cB h (nI n), cH h, cS (h 4) v, cS (h 5) tr, aI G (h 6) 60 mo, aI G (h 7) 60 ki, aI G (h 8) 60 am, aZ G (h 9) 60 sk, aZ G (h 10) 60 dn, aI G (h 11) 121 y1, aI G (h 12) 121 y2, aI G (h 13) 121 y3, aI G (h 14) 121 y4, aI G (h 15) 121 y5, aI G (h 16) 121 y6, aI G (h 17) 121 y7, cM h (q.1, q.2.1, q.2.2, (nI np), (nI n)) w5 t5, aI G (h 19) 60 mo, aI G (h 20) 60 ki, aI G (h 21) 60 am, aZ G (h 22) 60 sk, aZ G (h 23) 60 dn5, aJ G (h 24) 1 fo] H locs) (hl : lv_has ls 7 [(0, .ref b), (1, .ref (h 0)), (2, .ref (h 18)), (3, .ref (h 24)), (4, .int (nI i))]) :
    W pP l eE room_1 sS mM args below meth cC H locs cells slots Q (F0 mM 303 ls []) := by
  obtain ⟨S, hK, hXE, hXZ, hst, hX, hbl, hbA, hL⟩ := X
  have hx := S.1
  have hb := S.2.1
  have hn := I.1
  have hp := I.2.1
  have hmo := I.hmo
  have hf1 : cells + 1 ≤ room_1.cells ∧ slots + 6 ≤ room_1.slots := ⟨hc, hs⟩
  have hf0 : cells ≤ room_1.cells ∧ slots ≤ room_1.slots := ⟨Nat.le_of_succ_le hc, Nat.le_trans (Nat.le_add_right _ _) hs⟩
  rcases p_strike I (xs (nI i + 1).toNatClampNeg) with ⟨kk, hkk, e4, e5⟩ | ⟨aa, sk2, dn2, z1, z2, z3, z4, z5, z6, z7, v2, e4, e5, I2⟩
  ·
    have e4 : (F_X4_strike mo ki am sk dn y1 y2 y3 y4 y5 y6 y7 q v (xs (nI i + 1).toNatClampNeg) np n).1 = kk := e4
    have e5 : (F_X5_strike mo sk (xs (nI i + 1).toNatClampNeg) n) = (0, kk, sk) := e5
    refine lv_aload_n hx hb dL_law_303 rfl (lv_at hl 1 rfl) ?_
    refine lv_aload_n hx hb dL_law_304 rfl (lv_at hl 0 rfl) ?_
    refine lv_iload hx hb dL_law_305 (lv_at hl 4 rfl) ?_
    refine lv_iconst (v := 1) hx hb dL_law_307 (by decide) ?_
    refine lv_iadd hx hb dL_law_308 ?_
    refine va_sld hx hb hX hbl hbA hW.2.2.1 (sc1 hi hL) dL_law_309 ?_
    refine lv_aload_n hx hb dL_law_310 rfl (lv_at hl 3 rfl) ?_
    refine ky_callS (As := [.ref (h 0), .int (xs (nI i + 1).toNatClampNeg), .ref (h 24)]) (rest := []) (wr := [cS (h 5) tr, cM h (q.1, q.2.1, q.2.2, (nI np), (nI n)) w5 t5, aI G (h 19) 60 mo, aI G (h 20) 60 ki, aI G (h 21) 60 am, aZ G (h 22) 60 sk, aZ G (h 23) 60 dn5]) (c_L_strike l hst G h mo ki am sk dn y1 y2 y3 y4 y5 y6 y7 q v fo (xs (nI i + 1).toNatClampNeg) np n hn hp hmo) S hK hW hXE hXZ gL_law_L_strike rfl ⟨rfl, rfl⟩ nd_L_strike ⟨rfl, rfl⟩ [0, 2, 6, 7, 8, 9, 10, 3, 11, 12, 13, 14, 15, 16, 17, 1, 4, 24] [5, 18, 19, 20, 21, 22, 23] rfl rfl rfl rfl (by decide) rfl hl.1 rfl dL_law_311 hf1 (fun H locs hk hW => ?_) (fun H locs hk hW => ?_)
    ·
      have hW : Wd G A sS.heap [cS (h 5) tr, cM h (q.1, q.2.1, q.2.2, (nI np), (nI n)) w5 t5, aI G (h 19) 60 mo, aI G (h 20) 60 ki, aI G (h 21) 60 am, aZ G (h 22) 60 sk, aZ G (h 23) 60 dn5, cF h (nI np), cB h (nI n), aI G (h 6) 60 mo, aI G (h 7) 60 ki, aI G (h 8) 60 am, aZ G (h 9) 60 sk, aZ G (h 10) 60 dn, cH h, aI G (h 11) 121 y1, aI G (h 12) 121 y2, aI G (h 13) 121 y3, aI G (h 14) 121 y4, aI G (h 15) 121 y5, aI G (h 16) 121 y6, aI G (h 17) 121 y7, cP (h 1) q, cS (h 4) v, aJ G (h 24) 1 fo] H locs := hW
      rw [e4]
      refine lv_istore (lv' := [(5, .int kk), (0, .ref b), (1, .ref (h 0)), (2, .ref (h 18)), (3, .ref (h 24)), (4, .int (nI i))]) hx hb dL_law_314 hl (by decide) rfl (fun ls hl => ?_)
      refine lv_aload_n hx hb dL_law_316 rfl (lv_at hl 3 rfl) ?_
      refine lv_aload_n hx hb dL_law_317 rfl (lv_at hl 1 rfl) ?_
      refine lv_iload hx hb dL_law_318 (lv_at hl 5 rfl) ?_
      refine lv_iconst (v := 1) hx hb dL_law_320 (by decide) ?_
      refine lv_iadd hx hb dL_law_321 ?_
      refine va_sld hx hb hX hbl hbA hW.2.2.1 (sc1 hi hL) dL_law_322 ?_
      refine k_callVi (C := RX5) (As := [.int (xs (nI i + 1).toNatClampNeg)]) (rest := []) (wr := [cS (h 5) tr, aI G (h 20) 60 ki, aI G (h 21) 60 am, aZ G (h 23) 60 dn5, cF h (nI np), cB h (nI n), aI G (h 6) 60 mo, aI G (h 7) 60 ki, aI G (h 8) 60 am, aZ G (h 9) 60 sk, aZ G (h 10) 60 dn, cH h, aI G (h 11) 121 y1, aI G (h 12) 121 y2, aI G (h 13) 121 y3, aI G (h 14) 121 y4, aI G (h 15) 121 y5, aI G (h 16) 121 y6, aI G (h 17) 121 y7, cP (h 1) q, cS (h 4) v, aJ G (h 24) 1 fo]) (c_X5_strike l G h q.1 q.2.1 q.2.2 (nI np) w5 t5 mo sk (xs (nI i + 1).toNatClampNeg) n (by omega)) S hK hW gL_law_X5_strike rfl ⟨rfl, rfl⟩ nd_X5_strike ⟨rfl, rfl⟩ (qb := 1) (ci := 5) rfl rfl [1, 2, 5] [0, 3, 4, 6, 7, 8, 9, 10, 11, 12, 13, 14, 15, 16, 17, 18, 19, 20, 21, 22, 23, 24] rfl rfl rfl rfl (by decide) rfl hl.1 rfl dL_law_323 hf1 (fun H locs hW => ?_)
      have hW : Wd G A sS.heap [cS (h 5) tr, aI G (h 20) 60 ki, aI G (h 21) 60 am, aZ G (h 23) 60 dn5, cF h (nI np), cB h (nI n), aI G (h 6) 60 mo, aI G (h 7) 60 ki, aI G (h 8) 60 am, aZ G (h 9) 60 sk, aZ G (h 10) 60 dn, cH h, aI G (h 11) 121 y1, aI G (h 12) 121 y2, aI G (h 13) 121 y3, aI G (h 14) 121 y4, aI G (h 15) 121 y5, aI G (h 16) 121 y6, aI G (h 17) 121 y7, cP (h 1) q, cS (h 4) v, aJ G (h 24) 1 fo, cM h (q.1, q.2.1, q.2.2, (nI np), (nI n)) w5 ((F_X5_strike mo sk (xs (nI i + 1).toNatClampNeg) n).2.1), aI G (h 19) 60 mo, aZ G (h 22) 60 ((F_X5_strike mo sk (xs (nI i + 1).toNatClampNeg) n).2.2)] H locs := hW
      rw [e5] at hW
      rw [e5]
      have hW : Wd G A sS.heap [cS (h 5) tr, aI G (h 20) 60 ki, aI G (h 21) 60 am, aZ G (h 23) 60 dn5, cF h (nI np), cB h (nI n), aI G (h 6) 60 mo, aI G (h 7) 60 ki, aI G (h 8) 60 am, aZ G (h 9) 60 sk, aZ G (h 10) 60 dn, cH h, aI G (h 11) 121 y1, aI G (h 12) 121 y2, aI G (h 13) 121 y3, aI G (h 14) 121 y4, aI G (h 15) 121 y5, aI G (h 16) 121 y6, aI G (h 17) 121 y7, cP (h 1) q, cS (h 4) v, aJ G (h 24) 1 fo, cM h (q.1, q.2.1, q.2.2, (nI np), (nI n)) w5 kk, aI G (h 19) 60 mo, aZ G (h 22) 60 sk] H locs := hW
      refine lv_istore (lv' := [(6, .int 0), (5, .int kk), (0, .ref b), (1, .ref (h 0)), (2, .ref (h 18)), (3, .ref (h 24)), (4, .int (nI i))]) hx hb dL_law_326 hl (by decide) rfl (fun ls hl => ?_)
      refine lv_aload_n hx hb dL_law_328 rfl (lv_at hl 4 rfl) ?_
      refine k_callVi (C := RX5) (As := []) (rest := []) (wr := [cS (h 5) tr, aI G (h 20) 60 ki, aI G (h 21) 60 am, aZ G (h 23) 60 dn5, cF h (nI np), cB h (nI n), aI G (h 6) 60 mo, aI G (h 7) 60 ki, aI G (h 8) 60 am, aZ G (h 9) 60 sk, aZ G (h 10) 60 dn, cH h, aI G (h 11) 121 y1, aI G (h 12) 121 y2, aI G (h 13) 121 y3, aI G (h 14) 121 y4, aI G (h 15) 121 y5, aI G (h 16) 121 y6, aI G (h 17) 121 y7, cP (h 1) q, cS (h 4) v, aJ G (h 24) 1 fo, aI G (h 19) 60 mo, aZ G (h 22) 60 sk]) (c_X5_thrown l G h q.1 q.2.1 q.2.2 (nI np) (nI n) w5 kk) S hK hW gL_law_X5_thrown rfl ⟨rfl, rfl⟩ nd_X5_thrown ⟨rfl, rfl⟩ (qb := 22) (ci := 5) rfl rfl [22] [0, 1, 2, 3, 4, 5, 6, 7, 8, 9, 10, 11, 12, 13, 14, 15, 16, 17, 18, 19, 20, 21, 23, 24] rfl rfl rfl rfl (by decide) rfl hl.1 rfl dL_law_329 hf1 (fun H locs hW => ?_)
      have hW : Wd G A sS.heap [cS (h 5) tr, aI G (h 20) 60 ki, aI G (h 21) 60 am, aZ G (h 23) 60 dn5, cF h (nI np), cB h (nI n), aI G (h 6) 60 mo, aI G (h 7) 60 ki, aI G (h 8) 60 am, aZ G (h 9) 60 sk, aZ G (h 10) 60 dn, cH h, aI G (h 11) 121 y1, aI G (h 12) 121 y2, aI G (h 13) 121 y3, aI G (h 14) 121 y4, aI G (h 15) 121 y5, aI G (h 16) 121 y6, aI G (h 17) 121 y7, cP (h 1) q, cS (h 4) v, aJ G (h 24) 1 fo, aI G (h 19) 60 mo, aZ G (h 22) 60 sk, cM h (q.1, q.2.1, q.2.2, (nI np), (nI n)) w5 kk] H locs := hW
      refine lv_iload hx hb dL_law_332 (lv_at hl 1 rfl) ?_
      refine lv_icmp_eq (tgt := 339) hx hb dL_law_334 (by decide) (fun c_1 => ?_) (fun c_1 => ?_)
      ·
        refine lv_iload hx hb dL_law_339 (lv_at hl 1 rfl) ?_
        refine lv_if_ne (tgt := 356) hx hb dL_law_341 (by decide) (fun c_2 => ?_) (fun c_2 => ?_)
        ·
          refine lv_goto (tgt := 944) hx hb dL_law_356 (by decide) ?_
          exact K np n q mo ki am sk dn y1 y2 y3 y4 y5 y6 y7 v tr w5 kk dn5 fo I _ _ _ (hW.re [4, 19, 5, 11, 20, 0, 6, 7, 8, 9, 10, 12, 13, 14, 15, 16, 17, 18, 24, 22, 1, 2, 23, 3, 21] rfl rfl) (lv_sub hl [2, 3, 4, 5, 6] rfl)
        ·
          exact absurd c_2 hkk
      ·
        exact (c_1 rfl).elim
    · exact absurd (e4.symm.trans hk) hkk
  ·
    have e4 : (F_X4_strike mo ki am sk dn y1 y2 y3 y4 y5 y6 y7 q v (xs (nI i + 1).toNatClampNeg) np n) = (0, aa, sk2, dn2, z1, z2, z3, z4, z5, z6, z7, v2) := e4
    have e5 : (F_X5_strike mo sk (xs (nI i + 1).toNatClampNeg) n) = (aa, 0, sk2) := e5
    refine lv_aload_n hx hb dL_law_303 rfl (lv_at hl 1 rfl) ?_
    refine lv_aload_n hx hb dL_law_304 rfl (lv_at hl 0 rfl) ?_
    refine lv_iload hx hb dL_law_305 (lv_at hl 4 rfl) ?_
    refine lv_iconst (v := 1) hx hb dL_law_307 (by decide) ?_
    refine lv_iadd hx hb dL_law_308 ?_
    refine va_sld hx hb hX hbl hbA hW.2.2.1 (sc1 hi hL) dL_law_309 ?_
    refine lv_aload_n hx hb dL_law_310 rfl (lv_at hl 3 rfl) ?_
    refine ky_callS (As := [.ref (h 0), .int (xs (nI i + 1).toNatClampNeg), .ref (h 24)]) (rest := []) (wr := [cS (h 5) tr, cM h (q.1, q.2.1, q.2.2, (nI np), (nI n)) w5 t5, aI G (h 19) 60 mo, aI G (h 20) 60 ki, aI G (h 21) 60 am, aZ G (h 22) 60 sk, aZ G (h 23) 60 dn5]) (c_L_strike l hst G h mo ki am sk dn y1 y2 y3 y4 y5 y6 y7 q v fo (xs (nI i + 1).toNatClampNeg) np n hn hp hmo) S hK hW hXE hXZ gL_law_L_strike rfl ⟨rfl, rfl⟩ nd_L_strike ⟨rfl, rfl⟩ [0, 2, 6, 7, 8, 9, 10, 3, 11, 12, 13, 14, 15, 16, 17, 1, 4, 24] [5, 18, 19, 20, 21, 22, 23] rfl rfl rfl rfl (by decide) rfl hl.1 rfl dL_law_311 hf1 (fun H locs hk hW => ?_) (fun H locs hk hW => ?_)
    · exact absurd (show (F_X4_strike mo ki am sk dn y1 y2 y3 y4 y5 y6 y7 q v (xs (nI i + 1).toNatClampNeg) np n).1 = 0 by rw [e4]) hk
    ·
      rw [hk]
      try rw [e4] at hW
      have hW : Wd G A sS.heap [cS (h 5) tr, cM h (q.1, q.2.1, q.2.2, (nI np), (nI n)) w5 t5, aI G (h 19) 60 mo, aI G (h 20) 60 ki, aI G (h 21) 60 am, aZ G (h 22) 60 sk, aZ G (h 23) 60 dn5, cF h (nI np), cB h (nI n), aI G (h 6) 60 mo, aI G (h 7) 60 ki, aI G (h 8) 60 am, aZ G (h 9) 60 sk2, aZ G (h 10) 60 dn2, cH h, aI G (h 11) 121 z1, aI G (h 12) 121 z2, aI G (h 13) 121 z3, aI G (h 14) 121 z4, aI G (h 15) 121 z5, aI G (h 16) 121 z6, aI G (h 17) 121 z7, cP (h 1) q, cS (h 4) v2, aJ G (h 24) 1 (F_L_strike mo ki am sk dn y1 y2 y3 y4 y5 y6 y7 q v fo (xs (nI i + 1).toNatClampNeg) np n)] H locs := hW
      refine lv_istore (lv' := [(5, .int 0), (0, .ref b), (1, .ref (h 0)), (2, .ref (h 18)), (3, .ref (h 24)), (4, .int (nI i))]) hx hb dL_law_314 hl (by decide) rfl (fun ls hl => ?_)
      refine lv_aload_n hx hb dL_law_316 rfl (lv_at hl 3 rfl) ?_
      refine lv_aload_n hx hb dL_law_317 rfl (lv_at hl 1 rfl) ?_
      refine lv_iload hx hb dL_law_318 (lv_at hl 5 rfl) ?_
      refine lv_iconst (v := 1) hx hb dL_law_320 (by decide) ?_
      refine lv_iadd hx hb dL_law_321 ?_
      refine va_sld hx hb hX hbl hbA hW.2.2.1 (sc1 hi hL) dL_law_322 ?_
      refine k_callVi (C := RX5) (As := [.int (xs (nI i + 1).toNatClampNeg)]) (rest := []) (wr := [cS (h 5) tr, aI G (h 20) 60 ki, aI G (h 21) 60 am, aZ G (h 23) 60 dn5, cF h (nI np), cB h (nI n), aI G (h 6) 60 mo, aI G (h 7) 60 ki, aI G (h 8) 60 am, aZ G (h 9) 60 sk2, aZ G (h 10) 60 dn2, cH h, aI G (h 11) 121 z1, aI G (h 12) 121 z2, aI G (h 13) 121 z3, aI G (h 14) 121 z4, aI G (h 15) 121 z5, aI G (h 16) 121 z6, aI G (h 17) 121 z7, cP (h 1) q, cS (h 4) v2, aJ G (h 24) 1 (F_L_strike mo ki am sk dn y1 y2 y3 y4 y5 y6 y7 q v fo (xs (nI i + 1).toNatClampNeg) np n)]) (c_X5_strike l G h q.1 q.2.1 q.2.2 (nI np) w5 t5 mo sk (xs (nI i + 1).toNatClampNeg) n (by omega)) S hK hW gL_law_X5_strike rfl ⟨rfl, rfl⟩ nd_X5_strike ⟨rfl, rfl⟩ (qb := 1) (ci := 5) rfl rfl [1, 2, 5] [0, 3, 4, 6, 7, 8, 9, 10, 11, 12, 13, 14, 15, 16, 17, 18, 19, 20, 21, 22, 23, 24] rfl rfl rfl rfl (by decide) rfl hl.1 rfl dL_law_323 hf1 (fun H locs hW => ?_)
      have hW : Wd G A sS.heap [cS (h 5) tr, aI G (h 20) 60 ki, aI G (h 21) 60 am, aZ G (h 23) 60 dn5, cF h (nI np), cB h (nI n), aI G (h 6) 60 mo, aI G (h 7) 60 ki, aI G (h 8) 60 am, aZ G (h 9) 60 sk2, aZ G (h 10) 60 dn2, cH h, aI G (h 11) 121 z1, aI G (h 12) 121 z2, aI G (h 13) 121 z3, aI G (h 14) 121 z4, aI G (h 15) 121 z5, aI G (h 16) 121 z6, aI G (h 17) 121 z7, cP (h 1) q, cS (h 4) v2, aJ G (h 24) 1 (F_L_strike mo ki am sk dn y1 y2 y3 y4 y5 y6 y7 q v fo (xs (nI i + 1).toNatClampNeg) np n), cM h (q.1, q.2.1, q.2.2, (nI np), (nI n)) w5 ((F_X5_strike mo sk (xs (nI i + 1).toNatClampNeg) n).2.1), aI G (h 19) 60 mo, aZ G (h 22) 60 ((F_X5_strike mo sk (xs (nI i + 1).toNatClampNeg) n).2.2)] H locs := hW
      rw [e5] at hW
      rw [e5]
      have hW : Wd G A sS.heap [cS (h 5) tr, aI G (h 20) 60 ki, aI G (h 21) 60 am, aZ G (h 23) 60 dn5, cF h (nI np), cB h (nI n), aI G (h 6) 60 mo, aI G (h 7) 60 ki, aI G (h 8) 60 am, aZ G (h 9) 60 sk2, aZ G (h 10) 60 dn2, cH h, aI G (h 11) 121 z1, aI G (h 12) 121 z2, aI G (h 13) 121 z3, aI G (h 14) 121 z4, aI G (h 15) 121 z5, aI G (h 16) 121 z6, aI G (h 17) 121 z7, cP (h 1) q, cS (h 4) v2, aJ G (h 24) 1 (F_L_strike mo ki am sk dn y1 y2 y3 y4 y5 y6 y7 q v fo (xs (nI i + 1).toNatClampNeg) np n), cM h (q.1, q.2.1, q.2.2, (nI np), (nI n)) w5 0, aI G (h 19) 60 mo, aZ G (h 22) 60 sk2] H locs := hW
      refine lv_istore (lv' := [(6, .int aa), (5, .int 0), (0, .ref b), (1, .ref (h 0)), (2, .ref (h 18)), (3, .ref (h 24)), (4, .int (nI i))]) hx hb dL_law_326 hl (by decide) rfl (fun ls hl => ?_)
      refine lv_aload_n hx hb dL_law_328 rfl (lv_at hl 4 rfl) ?_
      refine k_callVi (C := RX5) (As := []) (rest := []) (wr := [cS (h 5) tr, aI G (h 20) 60 ki, aI G (h 21) 60 am, aZ G (h 23) 60 dn5, cF h (nI np), cB h (nI n), aI G (h 6) 60 mo, aI G (h 7) 60 ki, aI G (h 8) 60 am, aZ G (h 9) 60 sk2, aZ G (h 10) 60 dn2, cH h, aI G (h 11) 121 z1, aI G (h 12) 121 z2, aI G (h 13) 121 z3, aI G (h 14) 121 z4, aI G (h 15) 121 z5, aI G (h 16) 121 z6, aI G (h 17) 121 z7, cP (h 1) q, cS (h 4) v2, aJ G (h 24) 1 (F_L_strike mo ki am sk dn y1 y2 y3 y4 y5 y6 y7 q v fo (xs (nI i + 1).toNatClampNeg) np n), aI G (h 19) 60 mo, aZ G (h 22) 60 sk2]) (c_X5_thrown l G h q.1 q.2.1 q.2.2 (nI np) (nI n) w5 0) S hK hW gL_law_X5_thrown rfl ⟨rfl, rfl⟩ nd_X5_thrown ⟨rfl, rfl⟩ (qb := 22) (ci := 5) rfl rfl [22] [0, 1, 2, 3, 4, 5, 6, 7, 8, 9, 10, 11, 12, 13, 14, 15, 16, 17, 18, 19, 20, 21, 23, 24] rfl rfl rfl rfl (by decide) rfl hl.1 rfl dL_law_329 hf1 (fun H locs hW => ?_)
      have hW : Wd G A sS.heap [cS (h 5) tr, aI G (h 20) 60 ki, aI G (h 21) 60 am, aZ G (h 23) 60 dn5, cF h (nI np), cB h (nI n), aI G (h 6) 60 mo, aI G (h 7) 60 ki, aI G (h 8) 60 am, aZ G (h 9) 60 sk2, aZ G (h 10) 60 dn2, cH h, aI G (h 11) 121 z1, aI G (h 12) 121 z2, aI G (h 13) 121 z3, aI G (h 14) 121 z4, aI G (h 15) 121 z5, aI G (h 16) 121 z6, aI G (h 17) 121 z7, cP (h 1) q, cS (h 4) v2, aJ G (h 24) 1 (F_L_strike mo ki am sk dn y1 y2 y3 y4 y5 y6 y7 q v fo (xs (nI i + 1).toNatClampNeg) np n), aI G (h 19) 60 mo, aZ G (h 22) 60 sk2, cM h (q.1, q.2.1, q.2.2, (nI np), (nI n)) w5 0] H locs := hW
      refine lv_iload hx hb dL_law_332 (lv_at hl 1 rfl) ?_
      refine lv_icmp_eq (tgt := 339) hx hb dL_law_334 (by decide) (fun c_1 => ?_) (fun c_1 => ?_)
      ·
        refine lv_iload hx hb dL_law_339 (lv_at hl 1 rfl) ?_
        refine lv_if_ne (tgt := 356) hx hb dL_law_341 (by decide) (fun c_2 => ?_) (fun c_2 => ?_)
        ·
          exact absurd c_2 (by decide)
        ·
          refine lv_aload_n hx hb dL_law_344 rfl (lv_at hl 5 rfl) ?_
          refine lv_iconst (v := 0) hx hb dL_law_345 (by decide) ?_
          refine k_lald (n := 1) S hK hW 21 rfl (i := 0) vp_01 dL_law_346 ?_
          refine lv_iload hx hb dL_law_347 (lv_at hl 0 rfl) ?_
          refine lv_i2l hx hb dL_law_349 rfl ?_
          refine W.lcmp hx hb dL_law_350 ?_
          refine lv_if_eq (tgt := 356) hx hb dL_law_351 (by decide) (fun c_3 => ?_) (fun c_3 => ?_)
          ·
            refine lv_goto (tgt := 944) hx hb dL_law_356 (by decide) ?_
            exact K np n q mo ki am sk2 dn2 z1 z2 z3 z4 z5 z6 z7 v2 tr w5 0 dn5 (F_L_strike mo ki am sk dn y1 y2 y3 y4 y5 y6 y7 q v fo (xs (nI i + 1).toNatClampNeg) np n) I2 _ _ _ (hW.re [4, 19, 5, 11, 20, 0, 6, 7, 8, 9, 10, 12, 13, 14, 15, 16, 17, 18, 24, 22, 1, 2, 23, 3, 21] rfl rfl) (lv_sub hl [2, 3, 4, 5, 6] rfl)
          ·
            have ho : (F_L_strike mo ki am sk dn y1 y2 y3 y4 y5 y6 y7 q v fo (xs (nI i + 1).toNatClampNeg) np n) (0 : Int32).toNatClampNeg = aa.toInt64 := by
              unfold F_L_strike
              rw [e4]
              exact pk_uLs
            exact (c_3 (by rw [ho]; exact lcmp_self _)).elim
      ·
        exact (c_1 rfl).elim
