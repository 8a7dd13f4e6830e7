set_option maxRecDepth 100000 in
theorem k_L_isPolicy_c127 : Cond.constant RL 127 (2000000) ∈ wsL_isPolicy := by decide +kernel
theorem nd_L_isPolicy : yL_isPolicy.cls ≠ "java/lang/invoke/MethodHandle" ∧ yL_isPolicy.cls ≠ "java/lang/invoke/VarHandle" ∧ (parseMethodDescriptor yL_isPolicy.desc).map (fun d => d.parameters.length) = some 8 := by decide +kernel
abbrev rm_L_isPolicy : Room := { frames := 8, cells := 192, slots := 1156, locals := 164 }
set_option maxHeartbeats 8000000 in
set_option maxRecDepth 100000 in
theorem pA_L_isPolicy {pP : Program} {l : Launch} {eE : Env} {sS : State} {mM : MethodId} {args : Array Value} {below : List Frame} {meth : Method} {cC : Code} {Q : State → Prop} {G : GG} {A : Nat → Prop} {h : Nat → Nat} {np n xx : Nat} {q : S3} {mo ki am : N32} {sk dn : Nat → Bool} {y1 y2 y3 y4 y5 y6 y7 : N32} {v : S7} {qf af mf df sf cf lf rf gf tf : N32} {w : S7} (hst : l.stackTraces = false) (S : CallFix pP mM cC cL_isPolicy 14 sS args wsL_isPolicy RL) (hK : Kn G sS) (hXE : XE sS) (hXZ : XZ A sS sS.heap) (I : Inv np n q mo ki am sk (dn, y1, y2, y3, y4, y5, y6, y7, v)) (L : LInv np n q mo ki am sk qf af mf df sf cf lf rf gf tf w) (hnp : np ≤ 61) (hxx : xx < 2 ^ 31) (hag : AG (q.1, q.2.1, q.2.2, nI np, nI n)) (K : ∀ ru : Int32, ((ru = 1 ∧ ¬ 2 ≤ w.1) ∨ (ru = 0 ∧ 2 ≤ w.1)) → ∀ (H : Heap) (locs : List Loc) (ls : Array Slot) (tr : S7), Wd G A sS.heap [cF h (nI np), cP (h 1) q, cB h (nI n), cH h, cS (h 4) v, cS (h 5) tr, aI G (h 6) 60 mo, aI G (h 7) 60 ki, aI G (h 8) 60 am, aZ G (h 9) 60 sk, aZ G (h 10) 60 dn, aI G (h 11) 121 y1, aI G (h 12) 121 y2, aI G (h 13) 121 y3, aI G (h 14) 121 y4, aI G (h 15) 121 y5, aI G (h 16) 121 y6, aI G (h 17) 121 y7, aI G (h 18) 5 (nF (q.1, q.2.1, q.2.2, nI np, nI n)), aI G (h 19) 60 qf, aI G (h 22) 60 df, aI G (h 23) 7 (pF w), aI G (h 24) 64 sf, aI G (h 25) 64 cf] H locs → lv_has ls 14 [(10, .int 0), (9, .int 1), (8, .int ru), (0, .ref (h 0)), (1, .ref (h 18)), (2, .ref (h 19)), (3, .ref (h 22)), (4, .ref (h 23)), (5, .ref (h 24)), (6, .ref (h 25)), (7, .int (nI xx))] → W pP l eE rm_L_isPolicy sS mM args below meth cC H locs 0 0 Q (F0 mM 176 ls [])) :
    ∀ (H : Heap) (locs : List Loc) (ls : Array Slot) (tr : S7), Wd G A sS.heap [cF h (nI np), cP (h 1) q, cB h (nI n), cH h, cS (h 4) v, cS (h 5) tr, aI G (h 6) 60 mo, aI G (h 7) 60 ki, aI G (h 8) 60 am, aZ G (h 9) 60 sk, aZ G (h 10) 60 dn, aI G (h 11) 121 y1, aI G (h 12) 121 y2, aI G (h 13) 121 y3, aI G (h 14) 121 y4, aI G (h 15) 121 y5, aI G (h 16) 121 y6, aI G (h 17) 121 y7, aI G (h 18) 5 (nF (q.1, q.2.1, q.2.2, nI np, nI n)), aI G (h 19) 60 qf, aI G (h 22) 60 df, aI G (h 23) 7 (pF w), aI G (h 24) 64 sf, aI G (h 25) 64 cf] H locs → lv_has ls 14 [(0, .ref (h 0)), (1, .ref (h 18)), (2, .ref (h 19)), (3, .ref (h 22)), (4, .ref (h 23)), (5, .ref (h 24)), (6, .ref (h 25)), (7, .int (nI xx))] → W pP l eE rm_L_isPolicy sS mM args below meth cC H locs 0 0 Q (F0 mM 0 ls []) := by
  have hx := S.1
  have hb := S.2.1
  have hp9 := I.2.1
  have hw := hag
  intro H locs ls tr hW hl
  refine lv_aload hx hb dL_isPolicy_0 (lv_at hl 4 rfl) ?_
  refine lv_iconst (v := 0) hx hb dL_isPolicy_2 (by decide) ?_
  refine k_vld S hK hW 21 rfl (i := 0) (k := 0) (x := w.1) vi7_0 ix_0 rfl dL_isPolicy_3 ?_
  refine lv_iconst (v := 2) hx hb dL_isPolicy_4 (by decide) ?_
  refine lv_icmp_ge (tgt := 12) hx hb dL_isPolicy_5 (by decide) (fun c_1 => ?_) (fun c_1 => ?_)
  ·
    refine lv_iconst (v := 0) hx hb dL_isPolicy_12 (by decide) ?_
    refine lv_istore (lv' := [(8, .int 0), (0, .ref (h 0)), (1, .ref (h 18)), (2, .ref (h 19)), (3, .ref (h 22)), (4, .ref (h 23)), (5, .ref (h 24)), (6, .ref (h 25)), (7, .int (nI xx))]) hx hb dL_isPolicy_13 hl (by decide) rfl (fun ls hl => ?_)
    refine lv_aload_n hx hb dL_isPolicy_15 rfl (lv_at hl 1 rfl) ?_
    refine k_callVi (C := RX4) (As := []) (rest := []) (wr := [cP (h 1) q, cB h (nI n), cH h, cS (h 4) v, cS (h 5) tr, aI G (h 6) 60 mo, aI G (h 7) 60 ki, aI G (h 8) 60 am, aZ G (h 9) 60 sk, aZ G (h 10) 60 dn, aI G (h 11) 121 y1, aI G (h 12) 121 y2, aI G (h 13) 121 y3, aI G (h 14) 121 y4, aI G (h 15) 121 y5, aI G (h 16) 121 y6, aI G (h 17) 121 y7, aI G (h 18) 5 (nF (q.1, q.2.1, q.2.2, nI np, nI n)), aI G (h 19) 60 qf, aI G (h 22) 60 df, aI G (h 23) 7 (pF w), aI G (h 24) 64 sf, aI G (h 25) 64 cf]) (c_X4_month l G h (nI np)) S hK hW gL_isPolicy_X4_month rfl ⟨rfl, rfl⟩ nd_X4_month ⟨rfl, rfl⟩ (qb := 0) (ci := 4) rfl rfl [0] [1, 2, 3, 4, 5, 6, 7, 8, 9, 10, 11, 12, 13, 14, 15, 16, 17, 18, 19, 20, 21, 22, 23] rfl rfl rfl rfl (by decide) rfl hl.1 rfl dL_isPolicy_16 ⟨by decide, by decide⟩ (fun H locs hW => ?_)
    have hW : Wd G A sS.heap [cP (h 1) q, cB h (nI n), cH h, cS (h 4) v, cS (h 5) tr, aI G (h 6) 60 mo, aI G (h 7) 60 ki, aI G (h 8) 60 am, aZ G (h 9) 60 sk, aZ G (h 10) 60 dn, aI G (h 11) 121 y1, aI G (h 12) 121 y2, aI G (h 13) 121 y3, aI G (h 14) 121 y4, aI G (h 15) 121 y5, aI G (h 16) 121 y6, aI G (h 17) 121 y7, aI G (h 18) 5 (nF (q.1, q.2.1, q.2.2, nI np, nI n)), aI G (h 19) 60 qf, aI G (h 22) 60 df, aI G (h 23) 7 (pF w), aI G (h 24) 64 sf, aI G (h 25) 64 cf, cF h (nI np)] H locs := hW
    refine lv_aload_n hx hb dL_isPolicy_19 rfl (lv_at hl 2 rfl) ?_
    refine lv_iconst (v := 3) hx hb dL_isPolicy_20 (by decide) ?_
    refine k_vld S hK hW 17 rfl (i := 3) (k := 3) (x := (nI np)) vi5_3 ix_3 rfl dL_isPolicy_21 ?_
    refine lv_icmp_ne (tgt := 170) hx hb dL_isPolicy_22 (by decide) (fun c_2 => ?_) (fun c_2 => ?_)
    ·
      exact absurd rfl c_2
    ·
      refine lv_aload_n hx hb dL_isPolicy_25 rfl (lv_at hl 1 rfl) ?_
      refine k_callVi (C := RX4) (As := []) (rest := []) (wr := [cP (h 1) q, cH h, cS (h 4) v, cS (h 5) tr, aI G (h 6) 60 mo, aI G (h 7) 60 ki, aI G (h 8) 60 am, aZ G (h 9) 60 sk, aZ G (h 10) 60 dn, aI G (h 11) 121 y1, aI G (h 12) 121 y2, aI G (h 13) 121 y3, aI G (h 14) 121 y4, aI G (h 15) 121 y5, aI G (h 16) 121 y6, aI G (h 17) 121 y7, aI G (h 18) 5 (nF (q.1, q.2.1, q.2.2, nI np, nI n)), aI G (h 19) 60 qf, aI G (h 22) 60 df, aI G (h 23) 7 (pF w), aI G (h 24) 64 sf, aI G (h 25) 64 cf]) (c_X4_acts l G h (nI np) (nI n)) S hK hW gL_isPolicy_X4_acts rfl ⟨rfl, rfl⟩ nd_X4_acts ⟨rfl, rfl⟩ (qb := 23) (ci := 4) rfl rfl [23, 1] [0, 2, 3, 4, 5, 6, 7, 8, 9, 10, 11, 12, 13, 14, 15, 16, 17, 18, 19, 20, 21, 22] rfl rfl rfl rfl (by decide) rfl hl.1 rfl dL_isPolicy_26 ⟨by decide, by decide⟩ (fun H locs hW => ?_)
      have hW : Wd G A sS.heap [cP (h 1) q, cH h, cS (h 4) v, cS (h 5) tr, aI G (h 6) 60 mo, aI G (h 7) 60 ki, aI G (h 8) 60 am, aZ G (h 9) 60 sk, aZ G (h 10) 60 dn, aI G (h 11) 121 y1, aI G (h 12) 121 y2, aI G (h 13) 121 y3, aI G (h 14) 121 y4, aI G (h 15) 121 y5, aI G (h 16) 121 y6, aI G (h 17) 121 y7, aI G (h 18) 5 (nF (q.1, q.2.1, q.2.2, nI np, nI n)), aI G (h 19) 60 qf, aI G (h 22) 60 df, aI G (h 23) 7 (pF w), aI G (h 24) 64 sf, aI G (h 25) 64 cf, cF h (nI np), cB h (nI n)] H locs := hW
      refine lv_aload_n hx hb dL_isPolicy_29 rfl (lv_at hl 2 rfl) ?_
      refine lv_iconst (v := 4) hx hb dL_isPolicy_30 (by decide) ?_
      refine k_vld S hK hW 16 rfl (i := 4) (k := 4) (x := (nI n)) vi5_4 ix_4 rfl dL_isPolicy_31 ?_
      refine lv_icmp_ne (tgt := 170) hx hb dL_isPolicy_32 (by decide) (fun c_3 => ?_) (fun c_3 => ?_)
      ·
        exact absurd rfl c_3
      ·
        refine lv_aload_n hx hb dL_isPolicy_35 rfl (lv_at hl 1 rfl) ?_
        refine k_callVi (C := RX4) (As := []) (rest := []) (wr := [cP (h 1) q, cH h, cS (h 5) tr, aI G (h 6) 60 mo, aI G (h 7) 60 ki, aI G (h 8) 60 am, aZ G (h 9) 60 sk, aZ G (h 10) 60 dn, aI G (h 11) 121 y1, aI G (h 12) 121 y2, aI G (h 13) 121 y3, aI G (h 14) 121 y4, aI G (h 15) 121 y5, aI G (h 16) 121 y6, aI G (h 17) 121 y7, aI G (h 18) 5 (nF (q.1, q.2.1, q.2.2, nI np, nI n)), aI G (h 19) 60 qf, aI G (h 22) 60 df, aI G (h 23) 7 (pF w), aI G (h 24) 64 sf, aI G (h 25) 64 cf, cB h (nI n)]) (c_X4_state l G h (nI np) v) S hK hW gL_isPolicy_X4_state rfl ⟨rfl, rfl⟩ nd_X4_state ⟨rfl, rfl⟩ (qb := 22) (ci := 4) rfl rfl [22, 2] [0, 1, 3, 4, 5, 6, 7, 8, 9, 10, 11, 12, 13, 14, 15, 16, 17, 18, 19, 20, 21, 23] rfl rfl rfl rfl (by decide) rfl hl.1 rfl dL_isPolicy_36 ⟨by decide, by decide⟩ (fun H locs hW => ?_)
        have hW : Wd G A sS.heap [cP (h 1) q, cH h, cS (h 5) tr, aI G (h 6) 60 mo, aI G (h 7) 60 ki, aI G (h 8) 60 am, aZ G (h 9) 60 sk, aZ G (h 10) 60 dn, aI G (h 11) 121 y1, aI G (h 12) 121 y2, aI G (h 13) 121 y3, aI G (h 14) 121 y4, aI G (h 15) 121 y5, aI G (h 16) 121 y6, aI G (h 17) 121 y7, aI G (h 18) 5 (nF (q.1, q.2.1, q.2.2, nI np, nI n)), aI G (h 19) 60 qf, aI G (h 22) 60 df, aI G (h 23) 7 (pF w), aI G (h 24) 64 sf, aI G (h 25) 64 cf, cB h (nI n), cF h (nI np), cS (h 4) v] H locs := hW
        refine lv_aload hx hb dL_isPolicy_39 (lv_at hl 5 rfl) ?_
        refine lv_iconst (v := 0) hx hb dL_isPolicy_41 (by decide) ?_
        refine k_vld S hK hW 18 rfl (i := 0) (k := 0) (x := w.1) vi7_0 ix_0 rfl dL_isPolicy_42 ?_
        refine lv_icmp_ne (tgt := 170) hx hb dL_isPolicy_43 (by decide) (fun c_4 => ?_) (fun c_4 => ?_)
        ·
          exact absurd ((a_get I L).1) c_4
        ·
          refine lv_aload_n hx hb dL_isPolicy_46 rfl (lv_at hl 1 rfl) ?_
          refine k_callVi (C := RX4) (As := []) (rest := []) (wr := [cP (h 1) q, cH h, cS (h 5) tr, aI G (h 6) 60 mo, aI G (h 7) 60 ki, aI G (h 8) 60 am, aZ G (h 9) 60 sk, aZ G (h 10) 60 dn, aI G (h 11) 121 y1, aI G (h 12) 121 y2, aI G (h 13) 121 y3, aI G (h 14) 121 y4, aI G (h 15) 121 y5, aI G (h 16) 121 y6, aI G (h 17) 121 y7, aI G (h 18) 5 (nF (q.1, q.2.1, q.2.2, nI np, nI n)), aI G (h 19) 60 qf, aI G (h 22) 60 df, aI G (h 23) 7 (pF w), aI G (h 24) 64 sf, aI G (h 25) 64 cf, cB h (nI n)]) (c_X4_account l G h (nI np) v) S hK hW gL_isPolicy_X4_account rfl ⟨rfl, rfl⟩ nd_X4_account ⟨rfl, rfl⟩ (qb := 22) (ci := 4) rfl rfl [22, 23] [0, 1, 2, 3, 4, 5, 6, 7, 8, 9, 10, 11, 12, 13, 14, 15, 16, 17, 18, 19, 20, 21] rfl rfl rfl rfl (by decide) rfl hl.1 rfl dL_isPolicy_47 ⟨by decide, by decide⟩ (fun H locs hW => ?_)
          have hW : Wd G A sS.heap [cP (h 1) q, cH h, cS (h 5) tr, aI G (h 6) 60 mo, aI G (h 7) 60 ki, aI G (h 8) 60 am, aZ G (h 9) 60 sk, aZ G (h 10) 60 dn, aI G (h 11) 121 y1, aI G (h 12) 121 y2, aI G (h 13) 121 y3, aI G (h 14) 121 y4, aI G (h 15) 121 y5, aI G (h 16) 121 y6, aI G (h 17) 121 y7, aI G (h 18) 5 (nF (q.1, q.2.1, q.2.2, nI np, nI n)), aI G (h 19) 60 qf, aI G (h 22) 60 df, aI G (h 23) 7 (pF w), aI G (h 24) 64 sf, aI G (h 25) 64 cf, cB h (nI n), cF h (nI np), cS (h 4) v] H locs := hW
          refine lv_aload hx hb dL_isPolicy_50 (lv_at hl 5 rfl) ?_
          refine lv_iconst (v := 1) hx hb dL_isPolicy_52 (by decide) ?_
          refine k_vld S hK hW 18 rfl (i := 1) (k := 1) (x := w.2.1) vi7_1 ix_1 rfl dL_isPolicy_53 ?_
          refine lv_icmp_ne (tgt := 170) hx hb dL_isPolicy_54 (by decide) (fun c_5 => ?_) (fun c_5 => ?_)
          ·
            exact absurd ((a_get I L).2.1) c_5
          ·
            refine lv_aload_n hx hb dL_isPolicy_57 rfl (lv_at hl 1 rfl) ?_
            refine k_callVi (C := RX4) (As := []) (rest := []) (wr := [cP (h 1) q, cH h, cS (h 5) tr, aI G (h 6) 60 mo, aI G (h 7) 60 ki, aI G (h 8) 60 am, aZ G (h 9) 60 sk, aZ G (h 10) 60 dn, aI G (h 11) 121 y1, aI G (h 12) 121 y2, aI G (h 13) 121 y3, aI G (h 14) 121 y4, aI G (h 15) 121 y5, aI G (h 16) 121 y6, aI G (h 17) 121 y7, aI G (h 18) 5 (nF (q.1, q.2.1, q.2.2, nI np, nI n)), aI G (h 19) 60 qf, aI G (h 22) 60 df, aI G (h 23) 7 (pF w), aI G (h 24) 64 sf, aI G (h 25) 64 cf, cB h (nI n)]) (c_X4_loan l G h (nI np) v) S hK hW gL_isPolicy_X4_loan rfl ⟨rfl, rfl⟩ nd_X4_loan ⟨rfl, rfl⟩ (qb := 22) (ci := 4) rfl rfl [22, 23] [0, 1, 2, 3, 4, 5, 6, 7, 8, 9, 10, 11, 12, 13, 14, 15, 16, 17, 18, 19, 20, 21] rfl rfl rfl rfl (by decide) rfl hl.1 rfl dL_isPolicy_58 ⟨by decide, by decide⟩ (fun H locs hW => ?_)
            have hW : Wd G A sS.heap [cP (h 1) q, cH h, cS (h 5) tr, aI G (h 6) 60 mo, aI G (h 7) 60 ki, aI G (h 8) 60 am, aZ G (h 9) 60 sk, aZ G (h 10) 60 dn, aI G (h 11) 121 y1, aI G (h 12) 121 y2, aI G (h 13) 121 y3, aI G (h 14) 121 y4, aI G (h 15) 121 y5, aI G (h 16) 121 y6, aI G (h 17) 121 y7, aI G (h 18) 5 (nF (q.1, q.2.1, q.2.2, nI np, nI n)), aI G (h 19) 60 qf, aI G (h 22) 60 df, aI G (h 23) 7 (pF w), aI G (h 24) 64 sf, aI G (h 25) 64 cf, cB h (nI n), cF h (nI np), cS (h 4) v] H locs := hW
            refine lv_aload hx hb dL_isPolicy_61 (lv_at hl 5 rfl) ?_
            refine lv_iconst (v := 2) hx hb dL_isPolicy_63 (by decide) ?_
            refine k_vld S hK hW 18 rfl (i := 2) (k := 2) (x := w.2.2.1) vi7_2 ix_2 rfl dL_isPolicy_64 ?_
            refine lv_icmp_ne (tgt := 170) hx hb dL_isPolicy_65 (by decide) (fun c_6 => ?_) (fun c_6 => ?_)
            ·
              exact absurd ((a_get I L).2.2.1) c_6
            ·
              refine lv_aload_n hx hb dL_isPolicy_68 rfl (lv_at hl 1 rfl) ?_
              refine k_callVi (C := RX4) (As := []) (rest := []) (wr := [cP (h 1) q, cH h, cS (h 5) tr, aI G (h 6) 60 mo, aI G (h 7) 60 ki, aI G (h 8) 60 am, aZ G (h 9) 60 sk, aZ G (h 10) 60 dn, aI G (h 11) 121 y1, aI G (h 12) 121 y2, aI G (h 13) 121 y3, aI G (h 14) 121 y4, aI G (h 15) 121 y5, aI G (h 16) 121 y6, aI G (h 17) 121 y7, aI G (h 18) 5 (nF (q.1, q.2.1, q.2.2, nI np, nI n)), aI G (h 19) 60 qf, aI G (h 22) 60 df, aI G (h 23) 7 (pF w), aI G (h 24) 64 sf, aI G (h 25) 64 cf, cB h (nI n)]) (c_X4_arrears l G h (nI np) v) S hK hW gL_isPolicy_X4_arrears rfl ⟨rfl, rfl⟩ nd_X4_arrears ⟨rfl, rfl⟩ (qb := 22) (ci := 4) rfl rfl [22, 23] [0, 1, 2, 3, 4, 5, 6, 7, 8, 9, 10, 11, 12, 13, 14, 15, 16, 17, 18, 19, 20, 21] rfl rfl rfl rfl (by decide) rfl hl.1 rfl dL_isPolicy_69 ⟨by decide, by decide⟩ (fun H locs hW => ?_)
              have hW : Wd G A sS.heap [cP (h 1) q, cH h, cS (h 5) tr, aI G (h 6) 60 mo, aI G (h 7) 60 ki, aI G (h 8) 60 am, aZ G (h 9) 60 sk, aZ G (h 10) 60 dn, aI G (h 11) 121 y1, aI G (h 12) 121 y2, aI G (h 13) 121 y3, aI G (h 14) 121 y4, aI G (h 15) 121 y5, aI G (h 16) 121 y6, aI G (h 17) 121 y7, aI G (h 18) 5 (nF (q.1, q.2.1, q.2.2, nI np, nI n)), aI G (h 19) 60 qf, aI G (h 22) 60 df, aI G (h 23) 7 (pF w), aI G (h 24) 64 sf, aI G (h 25) 64 cf, cB h (nI n), cF h (nI np), cS (h 4) v] H locs := hW
              refine lv_aload hx hb dL_isPolicy_72 (lv_at hl 5 rfl) ?_
              refine lv_iconst (v := 3) hx hb dL_isPolicy_74 (by decide) ?_
              refine k_vld S hK hW 18 rfl (i := 3) (k := 3) (x := w.2.2.2.1) vi7_3 ix_3 rfl dL_isPolicy_75 ?_
              refine lv_icmp_ne (tgt := 170) hx hb dL_isPolicy_76 (by decide) (fun c_7 => ?_) (fun c_7 => ?_)
              ·
                exact absurd ((a_get I L).2.2.2.1) c_7
              ·
                refine lv_aload_n hx hb dL_isPolicy_79 rfl (lv_at hl 1 rfl) ?_
                refine k_callVi (C := RX4) (As := []) (rest := []) (wr := [cP (h 1) q, cH h, cS (h 5) tr, aI G (h 6) 60 mo, aI G (h 7) 60 ki, aI G (h 8) 60 am, aZ G (h 9) 60 sk, aZ G (h 10) 60 dn, aI G (h 11) 121 y1, aI G (h 12) 121 y2, aI G (h 13) 121 y3, aI G (h 14) 121 y4, aI G (h 15) 121 y5, aI G (h 16) 121 y6, aI G (h 17) 121 y7, aI G (h 18) 5 (nF (q.1, q.2.1, q.2.2, nI np, nI n)), aI G (h 19) 60 qf, aI G (h 22) 60 df, aI G (h 23) 7 (pF w), aI G (h 24) 64 sf, aI G (h 25) 64 cf, cB h (nI n)]) (c_X4_grace l G h (nI np) v) S hK hW gL_isPolicy_X4_grace rfl ⟨rfl, rfl⟩ nd_X4_grace ⟨rfl, rfl⟩ (qb := 22) (ci := 4) rfl rfl [22, 23] [0, 1, 2, 3, 4, 5, 6, 7, 8, 9, 10, 11, 12, 13, 14, 15, 16, 17, 18, 19, 20, 21] rfl rfl rfl rfl (by decide) rfl hl.1 rfl dL_isPolicy_80 ⟨by decide, by decide⟩ (fun H locs hW => ?_)
                have hW : Wd G A sS.heap [cP (h 1) q, cH h, cS (h 5) tr, aI G (h 6) 60 mo, aI G (h 7) 60 ki, aI G (h 8) 60 am, aZ G (h 9) 60 sk, aZ G (h 10) 60 dn, aI G (h 11) 121 y1, aI G (h 12) 121 y2, aI G (h 13) 121 y3, aI G (h 14) 121 y4, aI G (h 15) 121 y5, aI G (h 16) 121 y6, aI G (h 17) 121 y7, aI G (h 18) 5 (nF (q.1, q.2.1, q.2.2, nI np, nI n)), aI G (h 19) 60 qf, aI G (h 22) 60 df, aI G (h 23) 7 (pF w), aI G (h 24) 64 sf, aI G (h 25) 64 cf, cB h (nI n), cF h (nI np), cS (h 4) v] H locs := hW
                refine lv_aload hx hb dL_isPolicy_83 (lv_at hl 5 rfl) ?_
                refine lv_iconst (v := 0) hx hb dL_isPolicy_85 (by decide) ?_
                refine k_vld S hK hW 18 rfl (i := 0) (k := 0) (x := w.1) vi7_0 ix_0 rfl dL_isPolicy_86 ?_
                refine lv_iconst (v := 1) hx hb dL_isPolicy_87 (by decide) ?_
                refine lv_icmp_ne (tgt := 98) hx hb dL_isPolicy_88 (by decide) (fun c_8 => ?_) (fun c_8 => ?_)
                ·
                  refine lv_iconst (v := 0) hx hb dL_isPolicy_98 (by decide) ?_
                  refine lv_icmp_ne (tgt := 170) hx hb dL_isPolicy_99 (by decide) (fun c_9 => ?_) (fun c_9 => ?_)
                  ·
                    exact absurd ((a_get I L).2.2.2.2.2.1 c_8) c_9
                  ·
                    refine lv_aload_n hx hb dL_isPolicy_102 rfl (lv_at hl 1 rfl) ?_
                    refine k_callVi (C := RX4) (As := []) (rest := []) (wr := [cP (h 1) q, cH h, cS (h 5) tr, aI G (h 6) 60 mo, aI G (h 7) 60 ki, aI G (h 8) 60 am, aZ G (h 9) 60 sk, aZ G (h 10) 60 dn, aI G (h 11) 121 y1, aI G (h 12) 121 y2, aI G (h 13) 121 y3, aI G (h 14) 121 y4, aI G (h 15) 121 y5, aI G (h 16) 121 y6, aI G (h 17) 121 y7, aI G (h 18) 5 (nF (q.1, q.2.1, q.2.2, nI np, nI n)), aI G (h 19) 60 qf, aI G (h 22) 60 df, aI G (h 23) 7 (pF w), aI G (h 24) 64 sf, aI G (h 25) 64 cf, cB h (nI n)]) (c_X4_paid l G h (nI np) v) S hK hW gL_isPolicy_X4_paid rfl ⟨rfl, rfl⟩ nd_X4_paid ⟨rfl, rfl⟩ (qb := 22) (ci := 4) rfl rfl [22, 23] [0, 1, 2, 3, 4, 5, 6, 7, 8, 9, 10, 11, 12, 13, 14, 15, 16, 17, 18, 19, 20, 21] rfl rfl rfl rfl (by decide) rfl hl.1 rfl dL_isPolicy_103 ⟨by decide, by decide⟩ (fun H locs hW => ?_)
                    have hW : Wd G A sS.heap [cP (h 1) q, cH h, cS (h 5) tr, aI G (h 6) 60 mo, aI G (h 7) 60 ki, aI G (h 8) 60 am, aZ G (h 9) 60 sk, aZ G (h 10) 60 dn, aI G (h 11) 121 y1, aI G (h 12) 121 y2, aI G (h 13) 121 y3, aI G (h 14) 121 y4, aI G (h 15) 121 y5, aI G (h 16) 121 y6, aI G (h 17) 121 y7, aI G (h 18) 5 (nF (q.1, q.2.1, q.2.2, nI np, nI n)), aI G (h 19) 60 qf, aI G (h 22) 60 df, aI G (h 23) 7 (pF w), aI G (h 24) 64 sf, aI G (h 25) 64 cf, cB h (nI n), cF h (nI np), cS (h 4) v] H locs := hW
                    refine lv_aload hx hb dL_isPolicy_106 (lv_at hl 5 rfl) ?_
                    refine lv_bipush (v := 6) hx hb dL_isPolicy_108 (by decide) ?_
                    refine k_vld S hK hW 18 rfl (i := 6) (k := 6) (x := w.2.2.2.2.2.2) vi7_6 ix_6 rfl dL_isPolicy_110 ?_
                    refine lv_icmp_ne (tgt := 170) hx hb dL_isPolicy_111 (by decide) (fun c_10 => ?_) (fun c_10 => ?_)
                    ·
                      exact absurd ((a_get I L).2.2.2.2.2.2) c_10
                    ·
                      refine lv_aload_n hx hb dL_isPolicy_114 rfl (lv_at hl 1 rfl) ?_
                      refine k_callVi (C := RX4) (As := []) (rest := []) (wr := [cH h, cS (h 5) tr, aI G (h 6) 60 mo, aI G (h 7) 60 ki, aI G (h 8) 60 am, aZ G (h 9) 60 sk, aZ G (h 10) 60 dn, aI G (h 11) 121 y1, aI G (h 12) 121 y2, aI G (h 13) 121 y3, aI G (h 14) 121 y4, aI G (h 15) 121 y5, aI G (h 16) 121 y6, aI G (h 17) 121 y7, aI G (h 18) 5 (nF (q.1, q.2.1, q.2.2, nI np, nI n)), aI G (h 19) 60 qf, aI G (h 22) 60 df, aI G (h 23) 7 (pF w), aI G (h 24) 64 sf, aI G (h 25) 64 cf, cB h (nI n)]) (c_X4_deathSum l G h (nI np) q v) S hK hW gL_isPolicy_X4_deathSum rfl ⟨rfl, rfl⟩ nd_X4_deathSum ⟨rfl, rfl⟩ (qb := 22) (ci := 4) rfl rfl [22, 0, 23] [1, 2, 3, 4, 5, 6, 7, 8, 9, 10, 11, 12, 13, 14, 15, 16, 17, 18, 19, 20, 21] rfl rfl rfl rfl (by decide) rfl hl.1 rfl dL_isPolicy_115 ⟨by decide, by decide⟩ (fun H locs hW => ?_)
                      have hW : Wd G A sS.heap [cH h, cS (h 5) tr, aI G (h 6) 60 mo, aI G (h 7) 60 ki, aI G (h 8) 60 am, aZ G (h 9) 60 sk, aZ G (h 10) 60 dn, aI G (h 11) 121 y1, aI G (h 12) 121 y2, aI G (h 13) 121 y3, aI G (h 14) 121 y4, aI G (h 15) 121 y5, aI G (h 16) 121 y6, aI G (h 17) 121 y7, aI G (h 18) 5 (nF (q.1, q.2.1, q.2.2, nI np, nI n)), aI G (h 19) 60 qf, aI G (h 22) 60 df, aI G (h 23) 7 (pF w), aI G (h 24) 64 sf, aI G (h 25) 64 cf, cB h (nI n), cF h (nI np), cP (h 1) q, cS (h 4) v] H locs := hW
                      refine lv_i2l hx hb dL_isPolicy_118 rfl ?_
                      refine lv_iload hx hb dL_isPolicy_119 (lv_at hl 0 rfl) ?_
                      refine lv_if_eq (tgt := 136) hx hb dL_isPolicy_121 (by decide) (fun c_11 => ?_) (fun c_11 => ?_)
                      ·
                        refine lv_lconst (v := 0) hx hb dL_isPolicy_136 rfl ?_
                        refine W.lcmp hx hb dL_isPolicy_137 ?_
                        refine lv_if_ne (tgt := 170) hx hb dL_isPolicy_138 (by decide) (fun c_12 => ?_) (fun c_12 => ?_)
                        ·
                          exact absurd ((a_dn I L c_1).1) c_12
                        ·
                          refine lv_aload_n hx hb dL_isPolicy_141 rfl (lv_at hl 1 rfl) ?_
                          refine k_callVi (C := RX4) (As := []) (rest := []) (wr := [cH h, cS (h 5) tr, aI G (h 6) 60 mo, aI G (h 7) 60 ki, aI G (h 8) 60 am, aZ G (h 9) 60 sk, aZ G (h 10) 60 dn, aI G (h 11) 121 y1, aI G (h 12) 121 y2, aI G (h 13) 121 y3, aI G (h 14) 121 y4, aI G (h 15) 121 y5, aI G (h 16) 121 y6, aI G (h 17) 121 y7, aI G (h 18) 5 (nF (q.1, q.2.1, q.2.2, nI np, nI n)), aI G (h 19) 60 qf, aI G (h 22) 60 df, aI G (h 23) 7 (pF w), aI G (h 24) 64 sf, aI G (h 25) 64 cf, cB h (nI n)]) (c_X4_charge l G h (nI np) q v) S hK hW gL_isPolicy_X4_charge rfl ⟨rfl, rfl⟩ nd_X4_charge ⟨rfl, rfl⟩ (qb := 21) (ci := 4) rfl rfl [21, 22, 23] [0, 1, 2, 3, 4, 5, 6, 7, 8, 9, 10, 11, 12, 13, 14, 15, 16, 17, 18, 19, 20] rfl rfl rfl rfl (by decide) rfl hl.1 rfl dL_isPolicy_142 ⟨by decide, by decide⟩ (fun H locs hW => ?_)
                          have hW : Wd G A sS.heap [cH h, cS (h 5) tr, aI G (h 6) 60 mo, aI G (h 7) 60 ki, aI G (h 8) 60 am, aZ G (h 9) 60 sk, aZ G (h 10) 60 dn, aI G (h 11) 121 y1, aI G (h 12) 121 y2, aI G (h 13) 121 y3, aI G (h 14) 121 y4, aI G (h 15) 121 y5, aI G (h 16) 121 y6, aI G (h 17) 121 y7, aI G (h 18) 5 (nF (q.1, q.2.1, q.2.2, nI np, nI n)), aI G (h 19) 60 qf, aI G (h 22) 60 df, aI G (h 23) 7 (pF w), aI G (h 24) 64 sf, aI G (h 25) 64 cf, cB h (nI n), cF h (nI np), cP (h 1) q, cS (h 4) v] H locs := hW
                          refine lv_iload hx hb dL_isPolicy_145 (lv_at hl 0 rfl) ?_
                          refine lv_if_eq (tgt := 162) hx hb dL_isPolicy_147 (by decide) (fun c_13 => ?_) (fun c_13 => ?_)
                          ·
                            refine lv_iconst (v := 0) hx hb dL_isPolicy_162 (by decide) ?_
                            refine lv_icmp_ne (tgt := 170) hx hb dL_isPolicy_163 (by decide) (fun c_14 => ?_) (fun c_14 => ?_)
                            ·
                              exact absurd ((a_dn I L c_1).2) c_14
                            ·
                              refine lv_iconst (v := 1) hx hb dL_isPolicy_166 (by decide) ?_
                              refine lv_goto (tgt := 171) hx hb dL_isPolicy_167 (by decide) ?_
                              refine lv_istore (lv' := [(9, .int 1), (8, .int 0), (0, .ref (h 0)), (1, .ref (h 18)), (2, .ref (h 19)), (3, .ref (h 22)), (4, .ref (h 23)), (5, .ref (h 24)), (6, .ref (h 25)), (7, .int (nI xx))]) hx hb dL_isPolicy_171 hl (by decide) rfl (fun ls hl => ?_)
                              refine lv_iconst (v := 0) hx hb dL_isPolicy_173 (by decide) ?_
                              refine lv_istore (lv' := [(10, .int 0), (9, .int 1), (8, .int 0), (0, .ref (h 0)), (1, .ref (h 18)), (2, .ref (h 19)), (3, .ref (h 22)), (4, .ref (h 23)), (5, .ref (h 24)), (6, .ref (h 25)), (7, .int (nI xx))]) hx hb dL_isPolicy_174 hl (by decide) rfl (fun ls hl => ?_)
                              exact K 0 (Or.inr ⟨rfl, c_1⟩) H _ ls _ (hW.re [21, 22, 20, 0, 23, 1, 2, 3, 4, 5, 6, 7, 8, 9, 10, 11, 12, 13, 14, 15, 16, 17, 18, 19] rfl rfl) (lv_sub hl [0, 1, 2, 3, 4, 5, 6, 7, 8, 9, 10] rfl)
                          ·
                            exact absurd c_13 (by decide)
                      ·
                        exact absurd c_11 (by decide)
                ·
                  refine lv_aload hx hb dL_isPolicy_91 (lv_at hl 5 rfl) ?_
                  refine lv_iconst (v := 4) hx hb dL_isPolicy_93 (by decide) ?_
                  refine k_vld S hK hW 18 rfl (i := 4) (k := 4) (x := w.2.2.2.2.1) vi7_4 ix_4 rfl dL_isPolicy_94 ?_
                  refine lv_goto (tgt := 99) hx hb dL_isPolicy_95 (by decide) ?_
                  refine lv_icmp_ne (tgt := 170) hx hb dL_isPolicy_99 (by decide) (fun c_15 => ?_) (fun c_15 => ?_)
                  ·
                    exact absurd ((a_get I L).2.2.2.2.1 c_8) c_15
                  ·
                    refine lv_aload_n hx hb dL_isPolicy_102 rfl (lv_at hl 1 rfl) ?_
                    refine k_callVi (C := RX4) (As := []) (rest := []) (wr := [cP (h 1) q, cH h, cS (h 5) tr, aI G (h 6) 60 mo, aI G (h 7) 60 ki, aI G (h 8) 60 am, aZ G (h 9) 60 sk, aZ G (h 10) 60 dn, aI G (h 11) 121 y1, aI G (h 12) 121 y2, aI G (h 13) 121 y3, aI G (h 14) 121 y4, aI G (h 15) 121 y5, aI G (h 16) 121 y6, aI G (h 17) 121 y7, aI G (h 18) 5 (nF (q.1, q.2.1, q.2.2, nI np, nI n)), aI G (h 19) 60 qf, aI G (h 22) 60 df, aI G (h 23) 7 (pF w), aI G (h 24) 64 sf, aI G (h 25) 64 cf, cB h (nI n)]) (c_X4_paid l G h (nI np) v) S hK hW gL_isPolicy_X4_paid rfl ⟨rfl, rfl⟩ nd_X4_paid ⟨rfl, rfl⟩ (qb := 22) (ci := 4) rfl rfl [22, 23] [0, 1, 2, 3, 4, 5, 6, 7, 8, 9, 10, 11, 12, 13, 14, 15, 16, 17, 18, 19, 20, 21] rfl rfl rfl rfl (by decide) rfl hl.1 rfl dL_isPolicy_103 ⟨by decide, by decide⟩ (fun H locs hW => ?_)
                    have hW : Wd G A sS.heap [cP (h 1) q, cH h, cS (h 5) tr, aI G (h 6) 60 mo, aI G (h 7) 60 ki, aI G (h 8) 60 am, aZ G (h 9) 60 sk, aZ G (h 10) 60 dn, aI G (h 11) 121 y1, aI G (h 12) 121 y2, aI G (h 13) 121 y3, aI G (h 14) 121 y4, aI G (h 15) 121 y5, aI G (h 16) 121 y6, aI G (h 17) 121 y7, aI G (h 18) 5 (nF (q.1, q.2.1, q.2.2, nI np, nI n)), aI G (h 19) 60 qf, aI G (h 22) 60 df, aI G (h 23) 7 (pF w), aI G (h 24) 64 sf, aI G (h 25) 64 cf, cB h (nI n), cF h (nI np), cS (h 4) v] H locs := hW
                    refine lv_aload hx hb dL_isPolicy_106 (lv_at hl 5 rfl) ?_
                    refine lv_bipush (v := 6) hx hb dL_isPolicy_108 (by decide) ?_
                    refine k_vld S hK hW 18 rfl (i := 6) (k := 6) (x := w.2.2.2.2.2.2) vi7_6 ix_6 rfl dL_isPolicy_110 ?_
                    refine lv_icmp_ne (tgt := 170) hx hb dL_isPolicy_111 (by decide) (fun c_16 => ?_) (fun c_16 => ?_)
                    ·
                      exact absurd ((a_get I L).2.2.2.2.2.2) c_16
                    ·
                      refine lv_aload_n hx hb dL_isPolicy_114 rfl (lv_at hl 1 rfl) ?_
                      refine k_callVi (C := RX4) (As := []) (rest := []) (wr := [cH h, cS (h 5) tr, aI G (h 6) 60 mo, aI G (h 7) 60 ki, aI G (h 8) 60 am, aZ G (h 9) 60 sk, aZ G (h 10) 60 dn, aI G (h 11) 121 y1, aI G (h 12) 121 y2, aI G (h 13) 121 y3, aI G (h 14) 121 y4, aI G (h 15) 121 y5, aI G (h 16) 121 y6, aI G (h 17) 121 y7, aI G (h 18) 5 (nF (q.1, q.2.1, q.2.2, nI np, nI n)), aI G (h 19) 60 qf, aI G (h 22) 60 df, aI G (h 23) 7 (pF w), aI G (h 24) 64 sf, aI G (h 25) 64 cf, cB h (nI n)]) (c_X4_deathSum l G h (nI np) q v) S hK hW gL_isPolicy_X4_deathSum rfl ⟨rfl, rfl⟩ nd_X4_deathSum ⟨rfl, rfl⟩ (qb := 22) (ci := 4) rfl rfl [22, 0, 23] [1, 2, 3, 4, 5, 6, 7, 8, 9, 10, 11, 12, 13, 14, 15, 16, 17, 18, 19, 20, 21] rfl rfl rfl rfl (by decide) rfl hl.1 rfl dL_isPolicy_115 ⟨by decide, by decide⟩ (fun H locs hW => ?_)
                      have hW : Wd G A sS.heap [cH h, cS (h 5) tr, aI G (h 6) 60 mo, aI G (h 7) 60 ki, aI G (h 8) 60 am, aZ G (h 9) 60 sk, aZ G (h 10) 60 dn, aI G (h 11) 121 y1, aI G (h 12) 121 y2, aI G (h 13) 121 y3, aI G (h 14) 121 y4, aI G (h 15) 121 y5, aI G (h 16) 121 y6, aI G (h 17) 121 y7, aI G (h 18) 5 (nF (q.1, q.2.1, q.2.2, nI np, nI n)), aI G (h 19) 60 qf, aI G (h 22) 60 df, aI G (h 23) 7 (pF w), aI G (h 24) 64 sf, aI G (h 25) 64 cf, cB h (nI n), cF h (nI np), cP (h 1) q, cS (h 4) v] H locs := hW
                      refine lv_i2l hx hb dL_isPolicy_118 rfl ?_
                      refine lv_iload hx hb dL_isPolicy_119 (lv_at hl 0 rfl) ?_
                      refine lv_if_eq (tgt := 136) hx hb dL_isPolicy_121 (by decide) (fun c_17 => ?_) (fun c_17 => ?_)
                      ·
                        refine lv_lconst (v := 0) hx hb dL_isPolicy_136 rfl ?_
                        refine W.lcmp hx hb dL_isPolicy_137 ?_
                        refine lv_if_ne (tgt := 170) hx hb dL_isPolicy_138 (by decide) (fun c_18 => ?_) (fun c_18 => ?_)
                        ·
                          exact absurd ((a_dn I L c_1).1) c_18
                        ·
                          refine lv_aload_n hx hb dL_isPolicy_141 rfl (lv_at hl 1 rfl) ?_
                          refine k_callVi (C := RX4) (As := []) (rest := []) (wr := [cH h, cS (h 5) tr, aI G (h 6) 60 mo, aI G (h 7) 60 ki, aI G (h 8) 60 am, aZ G (h 9) 60 sk, aZ G (h 10) 60 dn, aI G (h 11) 121 y1, aI G (h 12) 121 y2, aI G (h 13) 121 y3, aI G (h 14) 121 y4, aI G (h 15) 121 y5, aI G (h 16) 121 y6, aI G (h 17) 121 y7, aI G (h 18) 5 (nF (q.1, q.2.1, q.2.2, nI np, nI n)), aI G (h 19) 60 qf, aI G (h 22) 60 df, aI G (h 23) 7 (pF w), aI G (h 24) 64 sf, aI G (h 25) 64 cf, cB h (nI n)]) (c_X4_charge l G h (nI np) q v) S hK hW gL_isPolicy_X4_charge rfl ⟨rfl, rfl⟩ nd_X4_charge ⟨rfl, rfl⟩ (qb := 21) (ci := 4) rfl rfl [21, 22, 23] [0, 1, 2, 3, 4, 5, 6, 7, 8, 9, 10, 11, 12, 13, 14, 15, 16, 17, 18, 19, 20] rfl rfl rfl rfl (by decide) rfl hl.1 rfl dL_isPolicy_142 ⟨by decide, by decide⟩ (fun H locs hW => ?_)
                          have hW : Wd G A sS.heap [cH h, cS (h 5) tr, aI G (h 6) 60 mo, aI G (h 7) 60 ki, aI G (h 8) 60 am, aZ G (h 9) 60 sk, aZ G (h 10) 60 dn, aI G (h 11) 121 y1, aI G (h 12) 121 y2, aI G (h 13) 121 y3, aI G (h 14) 121 y4, aI G (h 15) 121 y5, aI G (h 16) 121 y6, aI G (h 17) 121 y7, aI G (h 18) 5 (nF (q.1, q.2.1, q.2.2, nI np, nI n)), aI G (h 19) 60 qf, aI G (h 22) 60 df, aI G (h 23) 7 (pF w), aI G (h 24) 64 sf, aI G (h 25) 64 cf, cB h (nI n), cF h (nI np), cP (h 1) q, cS (h 4) v] H locs := hW
                          refine lv_iload hx hb dL_isPolicy_145 (lv_at hl 0 rfl) ?_
                          refine lv_if_eq (tgt := 162) hx hb dL_isPolicy_147 (by decide) (fun c_19 => ?_) (fun c_19 => ?_)
                          ·
                            refine lv_iconst (v := 0) hx hb dL_isPolicy_162 (by decide) ?_
                            refine lv_icmp_ne (tgt := 170) hx hb dL_isPolicy_163 (by decide) (fun c_20 => ?_) (fun c_20 => ?_)
                            ·
                              exact absurd ((a_dn I L c_1).2) c_20
                            ·
                              refine lv_iconst (v := 1) hx hb dL_isPolicy_166 (by decide) ?_
                              refine lv_goto (tgt := 171) hx hb dL_isPolicy_167 (by decide) ?_
                              refine lv_istore (lv' := [(9, .int 1), (8, .int 0), (0, .ref (h 0)), (1, .ref (h 18)), (2, .ref (h 19)), (3, .ref (h 22)), (4, .ref (h 23)), (5, .ref (h 24)), (6, .ref (h 25)), (7, .int (nI xx))]) hx hb dL_isPolicy_171 hl (by decide) rfl (fun ls hl => ?_)
                              refine lv_iconst (v := 0) hx hb dL_isPolicy_173 (by decide) ?_
                              refine lv_istore (lv' := [(10, .int 0), (9, .int 1), (8, .int 0), (0, .ref (h 0)), (1, .ref (h 18)), (2, .ref (h 19)), (3, .ref (h 22)), (4, .ref (h 23)), (5, .ref (h 24)), (6, .ref (h 25)), (7, .int (nI xx))]) hx hb dL_isPolicy_174 hl (by decide) rfl (fun ls hl => ?_)
                              exact K 0 (Or.inr ⟨rfl, c_1⟩) H _ ls _ (hW.re [21, 22, 20, 0, 23, 1, 2, 3, 4, 5, 6, 7, 8, 9, 10, 11, 12, 13, 14, 15, 16, 17, 18, 19] rfl rfl) (lv_sub hl [0, 1, 2, 3, 4, 5, 6, 7, 8, 9, 10] rfl)
                          ·
                            exact absurd c_19 (by decide)
                      ·
                        exact absurd c_17 (by decide)
  ·
    refine lv_iconst (v := 1) hx hb dL_isPolicy_8 (by decide) ?_
    refine lv_goto (tgt := 13) hx hb dL_isPolicy_9 (by decide) ?_
    refine lv_istore (lv' := [(8, .int 1), (0, .ref (h 0)), (1, .ref (h 18)), (2, .ref (h 19)), (3, .ref (h 22)), (4, .ref (h 23)), (5, .ref (h 24)), (6, .ref (h 25)), (7, .int (nI xx))]) hx hb dL_isPolicy_13 hl (by decide) rfl (fun ls hl => ?_)
    refine lv_aload_n hx hb dL_isPolicy_15 rfl (lv_at hl 1 rfl) ?_
    refine k_callVi (C := RX4) (As := []) (rest := []) (wr := [cP (h 1) q, cB h (nI n), cH h, cS (h 4) v, cS (h 5) tr, aI G (h 6) 60 mo, aI G (h 7) 60 ki, aI G (h 8) 60 am, aZ G (h 9) 60 sk, aZ G (h 10) 60 dn, aI G (h 11) 121 y1, aI G (h 12) 121 y2, aI G (h 13) 121 y3, aI G (h 14) 121 y4, aI G (h 15) 121 y5, aI G (h 16) 121 y6, aI G (h 17) 121 y7, aI G (h 18) 5 (nF (q.1, q.2.1, q.2.2, nI np, nI n)), aI G (h 19) 60 qf, aI G (h 22) 60 df, aI G (h 23) 7 (pF w), aI G (h 24) 64 sf, aI G (h 25) 64 cf]) (c_X4_month l G h (nI np)) S hK hW gL_isPolicy_X4_month rfl ⟨rfl, rfl⟩ nd_X4_month ⟨rfl, rfl⟩ (qb := 0) (ci := 4) rfl rfl [0] [1, 2, 3, 4, 5, 6, 7, 8, 9, 10, 11, 12, 13, 14, 15, 16, 17, 18, 19, 20, 21, 22, 23] rfl rfl rfl rfl (by decide) rfl hl.1 rfl dL_isPolicy_16 ⟨by decide, by decide⟩ (fun H locs hW => ?_)
    have hW : Wd G A sS.heap [cP (h 1) q, cB h (nI n), cH h, cS (h 4) v, cS (h 5) tr, aI G (h 6) 60 mo, aI G (h 7) 60 ki, aI G (h 8) 60 am, aZ G (h 9) 60 sk, aZ G (h 10) 60 dn, aI G (h 11) 121 y1, aI G (h 12) 121 y2, aI G (h 13) 121 y3, aI G (h 14) 121 y4, aI G (h 15) 121 y5, aI G (h 16) 121 y6, aI G (h 17) 121 y7, aI G (h 18) 5 (nF (q.1, q.2.1, q.2.2, nI np, nI n)), aI G (h 19) 60 qf, aI G (h 22) 60 df, aI G (h 23) 7 (pF w), aI G (h 24) 64 sf, aI G (h 25) 64 cf, cF h (nI np)] H locs := hW
    refine lv_aload_n hx hb dL_isPolicy_19 rfl (lv_at hl 2 rfl) ?_
    refine lv_iconst (v := 3) hx hb dL_isPolicy_20 (by decide) ?_
    refine k_vld S hK hW 17 rfl (i := 3) (k := 3) (x := (nI np)) vi5_3 ix_3 rfl dL_isPolicy_21 ?_
    refine lv_icmp_ne (tgt := 170) hx hb dL_isPolicy_22 (by decide) (fun c_21 => ?_) (fun c_21 => ?_)
    ·
      exact absurd rfl c_21
    ·
      refine lv_aload_n hx hb dL_isPolicy_25 rfl (lv_at hl 1 rfl) ?_
      refine k_callVi (C := RX4) (As := []) (rest := []) (wr := [cP (h 1) q, cH h, cS (h 4) v, cS (h 5) tr, aI G (h 6) 60 mo, aI G (h 7) 60 ki, aI G (h 8) 60 am, aZ G (h 9) 60 sk, aZ G (h 10) 60 dn, aI G (h 11) 121 y1, aI G (h 12) 121 y2, aI G (h 13) 121 y3, aI G (h 14) 121 y4, aI G (h 15) 121 y5, aI G (h 16) 121 y6, aI G (h 17) 121 y7, aI G (h 18) 5 (nF (q.1, q.2.1, q.2.2, nI np, nI n)), aI G (h 19) 60 qf, aI G (h 22) 60 df, aI G (h 23) 7 (pF w), aI G (h 24) 64 sf, aI G (h 25) 64 cf]) (c_X4_acts l G h (nI np) (nI n)) S hK hW gL_isPolicy_X4_acts rfl ⟨rfl, rfl⟩ nd_X4_acts ⟨rfl, rfl⟩ (qb := 23) (ci := 4) rfl rfl [23, 1] [0, 2, 3, 4, 5, 6, 7, 8, 9, 10, 11, 12, 13, 14, 15, 16, 17, 18, 19, 20, 21, 22] rfl rfl rfl rfl (by decide) rfl hl.1 rfl dL_isPolicy_26 ⟨by decide, by decide⟩ (fun H locs hW => ?_)
      have hW : Wd G A sS.heap [cP (h 1) q, cH h, cS (h 4) v, cS (h 5) tr, aI G (h 6) 60 mo, aI G (h 7) 60 ki, aI G (h 8) 60 am, aZ G (h 9) 60 sk, aZ G (h 10) 60 dn, aI G (h 11) 121 y1, aI G (h 12) 121 y2, aI G (h 13) 121 y3, aI G (h 14) 121 y4, aI G (h 15) 121 y5, aI G (h 16) 121 y6, aI G (h 17) 121 y7, aI G (h 18) 5 (nF (q.1, q.2.1, q.2.2, nI np, nI n)), aI G (h 19) 60 qf, aI G (h 22) 60 df, aI G (h 23) 7 (pF w), aI G (h 24) 64 sf, aI G (h 25) 64 cf, cF h (nI np), cB h (nI n)] H locs := hW
      refine lv_aload_n hx hb dL_isPolicy_29 rfl (lv_at hl 2 rfl) ?_
      refine lv_iconst (v := 4) hx hb dL_isPolicy_30 (by decide) ?_
      refine k_vld S hK hW 16 rfl (i := 4) (k := 4) (x := (nI n)) vi5_4 ix_4 rfl dL_isPolicy_31 ?_
      refine lv_icmp_ne (tgt := 170) hx hb dL_isPolicy_32 (by decide) (fun c_22 => ?_) (fun c_22 => ?_)
      ·
        exact absurd rfl c_22
      ·
        refine lv_aload_n hx hb dL_isPolicy_35 rfl (lv_at hl 1 rfl) ?_
        refine k_callVi (C := RX4) (As := []) (rest := []) (wr := [cP (h 1) q, cH h, cS (h 5) tr, aI G (h 6) 60 mo, aI G (h 7) 60 ki, aI G (h 8) 60 am, aZ G (h 9) 60 sk, aZ G (h 10) 60 dn, aI G (h 11) 121 y1, aI G (h 12) 121 y2, aI G (h 13) 121 y3, aI G (h 14) 121 y4, aI G (h 15) 121 y5, aI G (h 16) 121 y6, aI G (h 17) 121 y7, aI G (h 18) 5 (nF (q.1, q.2.1, q.2.2, nI np, nI n)), aI G (h 19) 60 qf, aI G (h 22) 60 df, aI G (h 23) 7 (pF w), aI G (h 24) 64 sf, aI G (h 25) 64 cf, cB h (nI n)]) (c_X4_state l G h (nI np) v) S hK hW gL_isPolicy_X4_state rfl ⟨rfl, rfl⟩ nd_X4_state ⟨rfl, rfl⟩ (qb := 22) (ci := 4) rfl rfl [22, 2] [0, 1, 3, 4, 5, 6, 7, 8, 9, 10, 11, 12, 13, 14, 15, 16, 17, 18, 19, 20, 21, 23] rfl rfl rfl rfl (by decide) rfl hl.1 rfl dL_isPolicy_36 ⟨by decide, by decide⟩ (fun H locs hW => ?_)
        have hW : Wd G A sS.heap [cP (h 1) q, cH h, cS (h 5) tr, aI G (h 6) 60 mo, aI G (h 7) 60 ki, aI G (h 8) 60 am, aZ G (h 9) 60 sk, aZ G (h 10) 60 dn, aI G (h 11) 121 y1, aI G (h 12) 121 y2, aI G (h 13) 121 y3, aI G (h 14) 121 y4, aI G (h 15) 121 y5, aI G (h 16) 121 y6, aI G (h 17) 121 y7, aI G (h 18) 5 (nF (q.1, q.2.1, q.2.2, nI np, nI n)), aI G (h 19) 60 qf, aI G (h 22) 60 df, aI G (h 23) 7 (pF w), aI G (h 24) 64 sf, aI G (h 25) 64 cf, cB h (nI n), cF h (nI np), cS (h 4) v] H locs := hW
        refine lv_aload hx hb dL_isPolicy_39 (lv_at hl 5 rfl) ?_
        refine lv_iconst (v := 0) hx hb dL_isPolicy_41 (by decide) ?_
        refine k_vld S hK hW 18 rfl (i := 0) (k := 0) (x := w.1) vi7_0 ix_0 rfl dL_isPolicy_42 ?_
        refine lv_icmp_ne (tgt := 170) hx hb dL_isPolicy_43 (by decide) (fun c_23 => ?_) (fun c_23 => ?_)
        ·
          exact absurd ((a_get I L).1) c_23
        ·
          refine lv_aload_n hx hb dL_isPolicy_46 rfl (lv_at hl 1 rfl) ?_
          refine k_callVi (C := RX4) (As := []) (rest := []) (wr := [cP (h 1) q, cH h, cS (h 5) tr, aI G (h 6) 60 mo, aI G (h 7) 60 ki, aI G (h 8) 60 am, aZ G (h 9) 60 sk, aZ G (h 10) 60 dn, aI G (h 11) 121 y1, aI G (h 12) 121 y2, aI G (h 13) 121 y3, aI G (h 14) 121 y4, aI G (h 15) 121 y5, aI G (h 16) 121 y6, aI G (h 17) 121 y7, aI G (h 18) 5 (nF (q.1, q.2.1, q.2.2, nI np, nI n)), aI G (h 19) 60 qf, aI G (h 22) 60 df, aI G (h 23) 7 (pF w), aI G (h 24) 64 sf, aI G (h 25) 64 cf, cB h (nI n)]) (c_X4_account l G h (nI np) v) S hK hW gL_isPolicy_X4_account rfl ⟨rfl, rfl⟩ nd_X4_account ⟨rfl, rfl⟩ (qb := 22) (ci := 4) rfl rfl [22, 23] [0, 1, 2, 3, 4, 5, 6, 7, 8, 9, 10, 11, 12, 13, 14, 15, 16, 17, 18, 19, 20, 21] rfl rfl rfl rfl (by decide) rfl hl.1 rfl dL_isPolicy_47 ⟨by decide, by decide⟩ (fun H locs hW => ?_)
          have hW : Wd G A sS.heap [cP (h 1) q, cH h, cS (h 5) tr, aI G (h 6) 60 mo, aI G (h 7) 60 ki, aI G (h 8) 60 am, aZ G (h 9) 60 sk, aZ G (h 10) 60 dn, aI G (h 11) 121 y1, aI G (h 12) 121 y2, aI G (h 13) 121 y3, aI G (h 14) 121 y4, aI G (h 15) 121 y5, aI G (h 16) 121 y6, aI G (h 17) 121 y7, aI G (h 18) 5 (nF (q.1, q.2.1, q.2.2, nI np, nI n)), aI G (h 19) 60 qf, aI G (h 22) 60 df, aI G (h 23) 7 (pF w), aI G (h 24) 64 sf, aI G (h 25) 64 cf, cB h (nI n), cF h (nI np), cS (h 4) v] H locs := hW
          refine lv_aload hx hb dL_isPolicy_50 (lv_at hl 5 rfl) ?_
          refine lv_iconst (v := 1) hx hb dL_isPolicy_52 (by decide) ?_
          refine k_vld S hK hW 18 rfl (i := 1) (k := 1) (x := w.2.1) vi7_1 ix_1 rfl dL_isPolicy_53 ?_
          refine lv_icmp_ne (tgt := 170) hx hb dL_isPolicy_54 (by decide) (fun c_24 => ?_) (fun c_24 => ?_)
          ·
            exact absurd ((a_get I L).2.1) c_24
          ·
            refine lv_aload_n hx hb dL_isPolicy_57 rfl (lv_at hl 1 rfl) ?_
            refine k_callVi (C := RX4) (As := []) (rest := []) (wr := [cP (h 1) q, cH h, cS (h 5) tr, aI G (h 6) 60 mo, aI G (h 7) 60 ki, aI G (h 8) 60 am, aZ G (h 9) 60 sk, aZ G (h 10) 60 dn, aI G (h 11) 121 y1, aI G (h 12) 121 y2, aI G (h 13) 121 y3, aI G (h 14) 121 y4, aI G (h 15) 121 y5, aI G (h 16) 121 y6, aI G (h 17) 121 y7, aI G (h 18) 5 (nF (q.1, q.2.1, q.2.2, nI np, nI n)), aI G (h 19) 60 qf, aI G (h 22) 60 df, aI G (h 23) 7 (pF w), aI G (h 24) 64 sf, aI G (h 25) 64 cf, cB h (nI n)]) (c_X4_loan l G h (nI np) v) S hK hW gL_isPolicy_X4_loan rfl ⟨rfl, rfl⟩ nd_X4_loan ⟨rfl, rfl⟩ (qb := 22) (ci := 4) rfl rfl [22, 23] [0, 1, 2, 3, 4, 5, 6, 7, 8, 9, 10, 11, 12, 13, 14, 15, 16, 17, 18, 19, 20, 21] rfl rfl rfl rfl (by decide) rfl hl.1 rfl dL_isPolicy_58 ⟨by decide, by decide⟩ (fun H locs hW => ?_)
            have hW : Wd G A sS.heap [cP (h 1) q, cH h, cS (h 5) tr, aI G (h 6) 60 mo, aI G (h 7) 60 ki, aI G (h 8) 60 am, aZ G (h 9) 60 sk, aZ G (h 10) 60 dn, aI G (h 11) 121 y1, aI G (h 12) 121 y2, aI G (h 13) 121 y3, aI G (h 14) 121 y4, aI G (h 15) 121 y5, aI G (h 16) 121 y6, aI G (h 17) 121 y7, aI G (h 18) 5 (nF (q.1, q.2.1, q.2.2, nI np, nI n)), aI G (h 19) 60 qf, aI G (h 22) 60 df, aI G (h 23) 7 (pF w), aI G (h 24) 64 sf, aI G (h 25) 64 cf, cB h (nI n), cF h (nI np), cS (h 4) v] H locs := hW
            refine lv_aload hx hb dL_isPolicy_61 (lv_at hl 5 rfl) ?_
            refine lv_iconst (v := 2) hx hb dL_isPolicy_63 (by decide) ?_
            refine k_vld S hK hW 18 rfl (i := 2) (k := 2) (x := w.2.2.1) vi7_2 ix_2 rfl dL_isPolicy_64 ?_
            refine lv_icmp_ne (tgt := 170) hx hb dL_isPolicy_65 (by decide) (fun c_25 => ?_) (fun c_25 => ?_)
            ·
              exact absurd ((a_get I L).2.2.1) c_25
            ·
              refine lv_aload_n hx hb dL_isPolicy_68 rfl (lv_at hl 1 rfl) ?_
              refine k_callVi (C := RX4) (As := []) (rest := []) (wr := [cP (h 1) q, cH h, cS (h 5) tr, aI G (h 6) 60 mo, aI G (h 7) 60 ki, aI G (h 8) 60 am, aZ G (h 9) 60 sk, aZ G (h 10) 60 dn, aI G (h 11) 121 y1, aI G (h 12) 121 y2, aI G (h 13) 121 y3, aI G (h 14) 121 y4, aI G (h 15) 121 y5, aI G (h 16) 121 y6, aI G (h 17) 121 y7, aI G (h 18) 5 (nF (q.1, q.2.1, q.2.2, nI np, nI n)), aI G (h 19) 60 qf, aI G (h 22) 60 df, aI G (h 23) 7 (pF w), aI G (h 24) 64 sf, aI G (h 25) 64 cf, cB h (nI n)]) (c_X4_arrears l G h (nI np) v) S hK hW gL_isPolicy_X4_arrears rfl ⟨rfl, rfl⟩ nd_X4_arrears ⟨rfl, rfl⟩ (qb := 22) (ci := 4) rfl rfl [22, 23] [0, 1, 2, 3, 4, 5, 6, 7, 8, 9, 10, 11, 12, 13, 14, 15, 16, 17, 18, 19, 20, 21] rfl rfl rfl rfl (by decide) rfl hl.1 rfl dL_isPolicy_69 ⟨by decide, by decide⟩ (fun H locs hW => ?_)
              have hW : Wd G A sS.heap [cP (h 1) q, cH h, cS (h 5) tr, aI G (h 6) 60 mo, aI G (h 7) 60 ki, aI G (h 8) 60 am, aZ G (h 9) 60 sk, aZ G (h 10) 60 dn, aI G (h 11) 121 y1, aI G (h 12) 121 y2, aI G (h 13) 121 y3, aI G (h 14) 121 y4, aI G (h 15) 121 y5, aI G (h 16) 121 y6, aI G (h 17) 121 y7, aI G (h 18) 5 (nF (q.1, q.2.1, q.2.2, nI np, nI n)), aI G (h 19) 60 qf, aI G (h 22) 60 df, aI G (h 23) 7 (pF w), aI G (h 24) 64 sf, aI G (h 25) 64 cf, cB h (nI n), cF h (nI np), cS (h 4) v] H locs := hW
              refine lv_aload hx hb dL_isPolicy_72 (lv_at hl 5 rfl) ?_
              refine lv_iconst (v := 3) hx hb dL_isPolicy_74 (by decide) ?_
              refine k_vld S hK hW 18 rfl (i := 3) (k := 3) (x := w.2.2.2.1) vi7_3 ix_3 rfl dL_isPolicy_75 ?_
              refine lv_icmp_ne (tgt := 170) hx hb dL_isPolicy_76 (by decide) (fun c_26 => ?_) (fun c_26 => ?_)
              ·
                exact absurd ((a_get I L).2.2.2.1) c_26
              ·
                refine lv_aload_n hx hb dL_isPolicy_79 rfl (lv_at hl 1 rfl) ?_
                refine k_callVi (C := RX4) (As := []) (rest := []) (wr := [cP (h 1) q, cH h, cS (h 5) tr, aI G (h 6) 60 mo, aI G (h 7) 60 ki, aI G (h 8) 60 am, aZ G (h 9) 60 sk, aZ G (h 10) 60 dn, aI G (h 11) 121 y1, aI G (h 12) 121 y2, aI G (h 13) 121 y3, aI G (h 14) 121 y4, aI G (h 15) 121 y5, aI G (h 16) 121 y6, aI G (h 17) 121 y7, aI G (h 18) 5 (nF (q.1, q.2.1, q.2.2, nI np, nI n)), aI G (h 19) 60 qf, aI G (h 22) 60 df, aI G (h 23) 7 (pF w), aI G (h 24) 64 sf, aI G (h 25) 64 cf, cB h (nI n)]) (c_X4_grace l G h (nI np) v) S hK hW gL_isPolicy_X4_grace rfl ⟨rfl, rfl⟩ nd_X4_grace ⟨rfl, rfl⟩ (qb := 22) (ci := 4) rfl rfl [22, 23] [0, 1, 2, 3, 4, 5, 6, 7, 8, 9, 10, 11, 12, 13, 14, 15, 16, 17, 18, 19, 20, 21] rfl rfl rfl rfl (by decide) rfl hl.1 rfl dL_isPolicy_80 ⟨by decide, by decide⟩ (fun H locs hW => ?_)
                have hW : Wd G A sS.heap [cP (h 1) q, cH h, cS (h 5) tr, aI G (h 6) 60 mo, aI G (h 7) 60 ki, aI G (h 8) 60 am, aZ G (h 9) 60 sk, aZ G (h 10) 60 dn, aI G (h 11) 121 y1, aI G (h 12) 121 y2, aI G (h 13) 121 y3, aI G (h 14) 121 y4, aI G (h 15) 121 y5, aI G (h 16) 121 y6, aI G (h 17) 121 y7, aI G (h 18) 5 (nF (q.1, q.2.1, q.2.2, nI np, nI n)), aI G (h 19) 60 qf, aI G (h 22) 60 df, aI G (h 23) 7 (pF w), aI G (h 24) 64 sf, aI G (h 25) 64 cf, cB h (nI n), cF h (nI np), cS (h 4) v] H locs := hW
                refine lv_aload hx hb dL_isPolicy_83 (lv_at hl 5 rfl) ?_
                refine lv_iconst (v := 0) hx hb dL_isPolicy_85 (by decide) ?_
                refine k_vld S hK hW 18 rfl (i := 0) (k := 0) (x := w.1) vi7_0 ix_0 rfl dL_isPolicy_86 ?_
                refine lv_iconst (v := 1) hx hb dL_isPolicy_87 (by decide) ?_
                refine lv_icmp_ne (tgt := 98) hx hb dL_isPolicy_88 (by decide) (fun c_27 => ?_) (fun c_27 => ?_)
                ·
                  refine lv_iconst (v := 0) hx hb dL_isPolicy_98 (by decide) ?_
                  refine lv_icmp_ne (tgt := 170) hx hb dL_isPolicy_99 (by decide) (fun c_28 => ?_) (fun c_28 => ?_)
                  ·
                    exact absurd ((a_get I L).2.2.2.2.2.1 c_27) c_28
                  ·
                    refine lv_aload_n hx hb dL_isPolicy_102 rfl (lv_at hl 1 rfl) ?_
                    refine k_callVi (C := RX4) (As := []) (rest := []) (wr := [cP (h 1) q, cH h, cS (h 5) tr, aI G (h 6) 60 mo, aI G (h 7) 60 ki, aI G (h 8) 60 am, aZ G (h 9) 60 sk, aZ G (h 10) 60 dn, aI G (h 11) 121 y1, aI G (h 12) 121 y2, aI G (h 13) 121 y3, aI G (h 14) 121 y4, aI G (h 15) 121 y5, aI G (h 16) 121 y6, aI G (h 17) 121 y7, aI G (h 18) 5 (nF (q.1, q.2.1, q.2.2, nI np, nI n)), aI G (h 19) 60 qf, aI G (h 22) 60 df, aI G (h 23) 7 (pF w), aI G (h 24) 64 sf, aI G (h 25) 64 cf, cB h (nI n)]) (c_X4_paid l G h (nI np) v) S hK hW gL_isPolicy_X4_paid rfl ⟨rfl, rfl⟩ nd_X4_paid ⟨rfl, rfl⟩ (qb := 22) (ci := 4) rfl rfl [22, 23] [0, 1, 2, 3, 4, 5, 6, 7, 8, 9, 10, 11, 12, 13, 14, 15, 16, 17, 18, 19, 20, 21] rfl rfl rfl rfl (by decide) rfl hl.1 rfl dL_isPolicy_103 ⟨by decide, by decide⟩ (fun H locs hW => ?_)
                    have hW : Wd G A sS.heap [cP (h 1) q, cH h, cS (h 5) tr, aI G (h 6) 60 mo, aI G (h 7) 60 ki, aI G (h 8) 60 am, aZ G (h 9) 60 sk, aZ G (h 10) 60 dn, aI G (h 11) 121 y1, aI G (h 12) 121 y2, aI G (h 13) 121 y3, aI G (h 14) 121 y4, aI G (h 15) 121 y5, aI G (h 16) 121 y6, aI G (h 17) 121 y7, aI G (h 18) 5 (nF (q.1, q.2.1, q.2.2, nI np, nI n)), aI G (h 19) 60 qf, aI G (h 22) 60 df, aI G (h 23) 7 (pF w), aI G (h 24) 64 sf, aI G (h 25) 64 cf, cB h (nI n), cF h (nI np), cS (h 4) v] H locs := hW
                    refine lv_aload hx hb dL_isPolicy_106 (lv_at hl 5 rfl) ?_
                    refine lv_bipush (v := 6) hx hb dL_isPolicy_108 (by decide) ?_
                    refine k_vld S hK hW 18 rfl (i := 6) (k := 6) (x := w.2.2.2.2.2.2) vi7_6 ix_6 rfl dL_isPolicy_110 ?_
                    refine lv_icmp_ne (tgt := 170) hx hb dL_isPolicy_111 (by decide) (fun c_29 => ?_) (fun c_29 => ?_)
                    ·
                      exact absurd ((a_get I L).2.2.2.2.2.2) c_29
                    ·
                      refine lv_aload_n hx hb dL_isPolicy_114 rfl (lv_at hl 1 rfl) ?_
                      refine k_callVi (C := RX4) (As := []) (rest := []) (wr := [cH h, cS (h 5) tr, aI G (h 6) 60 mo, aI G (h 7) 60 ki, aI G (h 8) 60 am, aZ G (h 9) 60 sk, aZ G (h 10) 60 dn, aI G (h 11) 121 y1, aI G (h 12) 121 y2, aI G (h 13) 121 y3, aI G (h 14) 121 y4, aI G (h 15) 121 y5, aI G (h 16) 121 y6, aI G (h 17) 121 y7, aI G (h 18) 5 (nF (q.1, q.2.1, q.2.2, nI np, nI n)), aI G (h 19) 60 qf, aI G (h 22) 60 df, aI G (h 23) 7 (pF w), aI G (h 24) 64 sf, aI G (h 25) 64 cf, cB h (nI n)]) (c_X4_deathSum l G h (nI np) q v) S hK hW gL_isPolicy_X4_deathSum rfl ⟨rfl, rfl⟩ nd_X4_deathSum ⟨rfl, rfl⟩ (qb := 22) (ci := 4) rfl rfl [22, 0, 23] [1, 2, 3, 4, 5, 6, 7, 8, 9, 10, 11, 12, 13, 14, 15, 16, 17, 18, 19, 20, 21] rfl rfl rfl rfl (by decide) rfl hl.1 rfl dL_isPolicy_115 ⟨by decide, by decide⟩ (fun H locs hW => ?_)
                      have hW : Wd G A sS.heap [cH h, cS (h 5) tr, aI G (h 6) 60 mo, aI G (h 7) 60 ki, aI G (h 8) 60 am, aZ G (h 9) 60 sk, aZ G (h 10) 60 dn, aI G (h 11) 121 y1, aI G (h 12) 121 y2, aI G (h 13) 121 y3, aI G (h 14) 121 y4, aI G (h 15) 121 y5, aI G (h 16) 121 y6, aI G (h 17) 121 y7, aI G (h 18) 5 (nF (q.1, q.2.1, q.2.2, nI np, nI n)), aI G (h 19) 60 qf, aI G (h 22) 60 df, aI G (h 23) 7 (pF w), aI G (h 24) 64 sf, aI G (h 25) 64 cf, cB h (nI n), cF h (nI np), cP (h 1) q, cS (h 4) v] H locs := hW
                      refine lv_i2l hx hb dL_isPolicy_118 rfl ?_
                      refine lv_iload hx hb dL_isPolicy_119 (lv_at hl 0 rfl) ?_
                      refine lv_if_eq (tgt := 136) hx hb dL_isPolicy_121 (by decide) (fun c_30 => ?_) (fun c_30 => ?_)
                      ·
                        exact absurd c_30 (by decide)
                      ·
                        refine lv_aload_n hx hb dL_isPolicy_124 rfl (lv_at hl 2 rfl) ?_
                        refine lv_aload hx hb dL_isPolicy_125 (lv_at hl 5 rfl) ?_
                        refine lv_aload_n hx hb dL_isPolicy_127 rfl (lv_at hl 2 rfl) ?_
                        refine lv_iconst (v := 3) hx hb dL_isPolicy_128 (by decide) ?_
                        refine k_vld S hK hW 14 rfl (i := 3) (k := 3) (x := (nI np)) vi5_3 ix_3 rfl dL_isPolicy_129 ?_
                        refine k_callSl (As := [.ref (h 18), .ref (h 23), .int (nI np)]) (rest := [.long ((F_X4_deathSum (nI np) q v).toInt64)]) (wr := [cH h, cS (h 5) tr, aI G (h 6) 60 mo, aI G (h 7) 60 ki, aI G (h 8) 60 am, aZ G (h 9) 60 sk, aZ G (h 10) 60 dn, aI G (h 11) 121 y1, aI G (h 12) 121 y2, aI G (h 13) 121 y3, aI G (h 14) 121 y4, aI G (h 15) 121 y5, aI G (h 16) 121 y6, aI G (h 17) 121 y7, aI G (h 19) 60 qf, aI G (h 22) 60 df, aI G (h 24) 64 sf, aI G (h 25) 64 cf, cB h (nI n), cF h (nI np), cP (h 1) q, cS (h 4) v]) (c_L_death l G h (h 23) (q.1, q.2.1, q.2.2, nI np, nI n) w (nI np)) S hK hW gL_isPolicy_L_death rfl ⟨rfl, rfl⟩ nd_L_death ⟨rfl, rfl⟩ [14, 17] [0, 1, 2, 3, 4, 5, 6, 7, 8, 9, 10, 11, 12, 13, 15, 16, 18, 19, 20, 21, 22, 23] rfl rfl rfl rfl (by decide) rfl hl.1 rfl dL_isPolicy_130 ⟨by decide, by decide⟩ (fun H locs hW => ?_)
                        have hW : Wd G A sS.heap [cH h, cS (h 5) tr, aI G (h 6) 60 mo, aI G (h 7) 60 ki, aI G (h 8) 60 am, aZ G (h 9) 60 sk, aZ G (h 10) 60 dn, aI G (h 11) 121 y1, aI G (h 12) 121 y2, aI G (h 13) 121 y3, aI G (h 14) 121 y4, aI G (h 15) 121 y5, aI G (h 16) 121 y6, aI G (h 17) 121 y7, aI G (h 19) 60 qf, aI G (h 22) 60 df, aI G (h 24) 64 sf, aI G (h 25) 64 cf, cB h (nI n), cF h (nI np), cP (h 1) q, cS (h 4) v, aI G (h 18) 5 (nF (q.1, q.2.1, q.2.2, nI np, nI n)), aI G (h 23) 7 (pF w)] H locs := hW
                        refine lv_goto (tgt := 137) hx hb dL_isPolicy_133 (by decide) ?_
                        refine W.lcmp hx hb dL_isPolicy_137 ?_
                        refine lv_if_ne (tgt := 170) hx hb dL_isPolicy_138 (by decide) (fun c_31 => ?_) (fun c_31 => ?_)
                        ·
                          exact absurd ((a_dc I L c_1).1) c_31
                        ·
                          refine lv_aload_n hx hb dL_isPolicy_141 rfl (lv_at hl 1 rfl) ?_
                          refine k_callVi (C := RX4) (As := []) (rest := []) (wr := [cH h, cS (h 5) tr, aI G (h 6) 60 mo, aI G (h 7) 60 ki, aI G (h 8) 60 am, aZ G (h 9) 60 sk, aZ G (h 10) 60 dn, aI G (h 11) 121 y1, aI G (h 12) 121 y2, aI G (h 13) 121 y3, aI G (h 14) 121 y4, aI G (h 15) 121 y5, aI G (h 16) 121 y6, aI G (h 17) 121 y7, aI G (h 19) 60 qf, aI G (h 22) 60 df, aI G (h 24) 64 sf, aI G (h 25) 64 cf, cB h (nI n), aI G (h 18) 5 (nF (q.1, q.2.1, q.2.2, nI np, nI n)), aI G (h 23) 7 (pF w)]) (c_X4_charge l G h (nI np) q v) S hK hW gL_isPolicy_X4_charge rfl ⟨rfl, rfl⟩ nd_X4_charge ⟨rfl, rfl⟩ (qb := 19) (ci := 4) rfl rfl [19, 20, 21] [0, 1, 2, 3, 4, 5, 6, 7, 8, 9, 10, 11, 12, 13, 14, 15, 16, 17, 18, 22, 23] rfl rfl rfl rfl (by decide) rfl hl.1 rfl dL_isPolicy_142 ⟨by decide, by decide⟩ (fun H locs hW => ?_)
                          have hW : Wd G A sS.heap [cH h, cS (h 5) tr, aI G (h 6) 60 mo, aI G (h 7) 60 ki, aI G (h 8) 60 am, aZ G (h 9) 60 sk, aZ G (h 10) 60 dn, aI G (h 11) 121 y1, aI G (h 12) 121 y2, aI G (h 13) 121 y3, aI G (h 14) 121 y4, aI G (h 15) 121 y5, aI G (h 16) 121 y6, aI G (h 17) 121 y7, aI G (h 19) 60 qf, aI G (h 22) 60 df, aI G (h 24) 64 sf, aI G (h 25) 64 cf, cB h (nI n), aI G (h 18) 5 (nF (q.1, q.2.1, q.2.2, nI np, nI n)), aI G (h 23) 7 (pF w), cF h (nI np), cP (h 1) q, cS (h 4) v] H locs := hW
                          refine lv_iload hx hb dL_isPolicy_145 (lv_at hl 0 rfl) ?_
                          refine lv_if_eq (tgt := 162) hx hb dL_isPolicy_147 (by decide) (fun c_32 => ?_) (fun c_32 => ?_)
                          ·
                            exact absurd c_32 (by decide)
                          ·
                            refine lv_aload_n hx hb dL_isPolicy_150 rfl (lv_at hl 2 rfl) ?_
                            refine lv_aload hx hb dL_isPolicy_151 (lv_at hl 5 rfl) ?_
                            refine lv_aload_n hx hb dL_isPolicy_153 rfl (lv_at hl 2 rfl) ?_
                            refine lv_iconst (v := 3) hx hb dL_isPolicy_154 (by decide) ?_
                            refine k_vld S hK hW 19 rfl (i := 3) (k := 3) (x := (nI np)) vi5_3 ix_3 rfl dL_isPolicy_155 ?_
                            refine k_callSi (As := [.ref (h 18), .ref (h 23), .int (nI np)]) (rest := [.int (F_X4_charge (nI np) q v)]) (wr := [cH h, cS (h 5) tr, aI G (h 6) 60 mo, aI G (h 7) 60 ki, aI G (h 8) 60 am, aZ G (h 9) 60 sk, aZ G (h 10) 60 dn, aI G (h 11) 121 y1, aI G (h 12) 121 y2, aI G (h 13) 121 y3, aI G (h 14) 121 y4, aI G (h 15) 121 y5, aI G (h 16) 121 y6, aI G (h 17) 121 y7, aI G (h 19) 60 qf, aI G (h 22) 60 df, aI G (h 24) 64 sf, aI G (h 25) 64 cf, cB h (nI n), cF h (nI np), cP (h 1) q, cS (h 4) v]) (c_L_charge l G h (h 23) (q.1, q.2.1, q.2.2, nI np, nI n) w np hw (by omega)) S hK hW gL_isPolicy_L_charge rfl ⟨rfl, rfl⟩ nd_L_charge ⟨rfl, rfl⟩ [19, 20] [0, 1, 2, 3, 4, 5, 6, 7, 8, 9, 10, 11, 12, 13, 14, 15, 16, 17, 18, 21, 22, 23] rfl rfl rfl rfl (by decide) rfl hl.1 rfl dL_isPolicy_156 ⟨by decide, by decide⟩ (fun H locs hW => ?_)
                            have hW : Wd G A sS.heap [cH h, cS (h 5) tr, aI G (h 6) 60 mo, aI G (h 7) 60 ki, aI G (h 8) 60 am, aZ G (h 9) 60 sk, aZ G (h 10) 60 dn, aI G (h 11) 121 y1, aI G (h 12) 121 y2, aI G (h 13) 121 y3, aI G (h 14) 121 y4, aI G (h 15) 121 y5, aI G (h 16) 121 y6, aI G (h 17) 121 y7, aI G (h 19) 60 qf, aI G (h 22) 60 df, aI G (h 24) 64 sf, aI G (h 25) 64 cf, cB h (nI n), cF h (nI np), cP (h 1) q, cS (h 4) v, aI G (h 18) 5 (nF (q.1, q.2.1, q.2.2, nI np, nI n)), aI G (h 23) 7 (pF w)] H locs := hW
                            refine lv_goto (tgt := 163) hx hb dL_isPolicy_159 (by decide) ?_
                            refine lv_icmp_ne (tgt := 170) hx hb dL_isPolicy_163 (by decide) (fun c_33 => ?_) (fun c_33 => ?_)
                            ·
                              exact absurd ((a_dc I L c_1).2) c_33
                            ·
                              refine lv_iconst (v := 1) hx hb dL_isPolicy_166 (by decide) ?_
                              refine lv_goto (tgt := 171) hx hb dL_isPolicy_167 (by decide) ?_
                              refine lv_istore (lv' := [(9, .int 1), (8, .int 1), (0, .ref (h 0)), (1, .ref (h 18)), (2, .ref (h 19)), (3, .ref (h 22)), (4, .ref (h 23)), (5, .ref (h 24)), (6, .ref (h 25)), (7, .int (nI xx))]) hx hb dL_isPolicy_171 hl (by decide) rfl (fun ls hl => ?_)
                              refine lv_iconst (v := 0) hx hb dL_isPolicy_173 (by decide) ?_
                              refine lv_istore (lv' := [(10, .int 0), (9, .int 1), (8, .int 1), (0, .ref (h 0)), (1, .ref (h 18)), (2, .ref (h 19)), (3, .ref (h 22)), (4, .ref (h 23)), (5, .ref (h 24)), (6, .ref (h 25)), (7, .int (nI xx))]) hx hb dL_isPolicy_174 hl (by decide) rfl (fun ls hl => ?_)
                              exact K 1 (Or.inl ⟨rfl, c_1⟩) H _ ls _ (hW.re [19, 20, 18, 0, 21, 1, 2, 3, 4, 5, 6, 7, 8, 9, 10, 11, 12, 13, 22, 14, 15, 23, 16, 17] rfl rfl) (lv_sub hl [0, 1, 2, 3, 4, 5, 6, 7, 8, 9, 10] rfl)
                ·
                  refine lv_aload hx hb dL_isPolicy_91 (lv_at hl 5 rfl) ?_
                  refine lv_iconst (v := 4) hx hb dL_isPolicy_93 (by decide) ?_
                  refine k_vld S hK hW 18 rfl (i := 4) (k := 4) (x := w.2.2.2.2.1) vi7_4 ix_4 rfl dL_isPolicy_94 ?_
                  refine lv_goto (tgt := 99) hx hb dL_isPolicy_95 (by decide) ?_
                  refine lv_icmp_ne (tgt := 170) hx hb dL_isPolicy_99 (by decide) (fun c_34 => ?_) (fun c_34 => ?_)
                  ·
                    exact absurd ((a_get I L).2.2.2.2.1 c_27) c_34
                  ·
                    refine lv_aload_n hx hb dL_isPolicy_102 rfl (lv_at hl 1 rfl) ?_
                    refine k_callVi (C := RX4) (As := []) (rest := []) (wr := [cP (h 1) q, cH h, cS (h 5) tr, aI G (h 6) 60 mo, aI G (h 7) 60 ki, aI G (h 8) 60 am, aZ G (h 9) 60 sk, aZ G (h 10) 60 dn, aI G (h 11) 121 y1, aI G (h 12) 121 y2, aI G (h 13) 121 y3, aI G (h 14) 121 y4, aI G (h 15) 121 y5, aI G (h 16) 121 y6, aI G (h 17) 121 y7, aI G (h 18) 5 (nF (q.1, q.2.1, q.2.2, nI np, nI n)), aI G (h 19) 60 qf, aI G (h 22) 60 df, aI G (h 23) 7 (pF w), aI G (h 24) 64 sf, aI G (h 25) 64 cf, cB h (nI n)]) (c_X4_paid l G h (nI np) v) S hK hW gL_isPolicy_X4_paid rfl ⟨rfl, rfl⟩ nd_X4_paid ⟨rfl, rfl⟩ (qb := 22) (ci := 4) rfl rfl [22, 23] [0, 1, 2, 3, 4, 5, 6, 7, 8, 9, 10, 11, 12, 13, 14, 15, 16, 17, 18, 19, 20, 21] rfl rfl rfl rfl (by decide) rfl hl.1 rfl dL_isPolicy_103 ⟨by decide, by decide⟩ (fun H locs hW => ?_)
                    have hW : Wd G A sS.heap [cP (h 1) q, cH h, cS (h 5) tr, aI G (h 6) 60 mo, aI G (h 7) 60 ki, aI G (h 8) 60 am, aZ G (h 9) 60 sk, aZ G (h 10) 60 dn, aI G (h 11) 121 y1, aI G (h 12) 121 y2, aI G (h 13) 121 y3, aI G (h 14) 121 y4, aI G (h 15) 121 y5, aI G (h 16) 121 y6, aI G (h 17) 121 y7, aI G (h 18) 5 (nF (q.1, q.2.1, q.2.2, nI np, nI n)), aI G (h 19) 60 qf, aI G (h 22) 60 df, aI G (h 23) 7 (pF w), aI G (h 24) 64 sf, aI G (h 25) 64 cf, cB h (nI n), cF h (nI np), cS (h 4) v] H locs := hW
                    refine lv_aload hx hb dL_isPolicy_106 (lv_at hl 5 rfl) ?_
                    refine lv_bipush (v := 6) hx hb dL_isPolicy_108 (by decide) ?_
                    refine k_vld S hK hW 18 rfl (i := 6) (k := 6) (x := w.2.2.2.2.2.2) vi7_6 ix_6 rfl dL_isPolicy_110 ?_
                    refine lv_icmp_ne (tgt := 170) hx hb dL_isPolicy_111 (by decide) (fun c_35 => ?_) (fun c_35 => ?_)
                    ·
                      exact absurd ((a_get I L).2.2.2.2.2.2) c_35
                    ·
                      refine lv_aload_n hx hb dL_isPolicy_114 rfl (lv_at hl 1 rfl) ?_
                      refine k_callVi (C := RX4) (As := []) (rest := []) (wr := [cH h, cS (h 5) tr, aI G (h 6) 60 mo, aI G (h 7) 60 ki, aI G (h 8) 60 am, aZ G (h 9) 60 sk, aZ G (h 10) 60 dn, aI G (h 11) 121 y1, aI G (h 12) 121 y2, aI G (h 13) 121 y3, aI G (h 14) 121 y4, aI G (h 15) 121 y5, aI G (h 16) 121 y6, aI G (h 17) 121 y7, aI G (h 18) 5 (nF (q.1, q.2.1, q.2.2, nI np, nI n)), aI G (h 19) 60 qf, aI G (h 22) 60 df, aI G (h 23) 7 (pF w), aI G (h 24) 64 sf, aI G (h 25) 64 cf, cB h (nI n)]) (c_X4_deathSum l G h (nI np) q v) S hK hW gL_isPolicy_X4_deathSum rfl ⟨rfl, rfl⟩ nd_X4_deathSum ⟨rfl, rfl⟩ (qb := 22) (ci := 4) rfl rfl [22, 0, 23] [1, 2, 3, 4, 5, 6, 7, 8, 9, 10, 11, 12, 13, 14, 15, 16, 17, 18, 19, 20, 21] rfl rfl rfl rfl (by decide) rfl hl.1 rfl dL_isPolicy_115 ⟨by decide, by decide⟩ (fun H locs hW => ?_)
                      have hW : Wd G A sS.heap [cH h, cS (h 5) tr, aI G (h 6) 60 mo, aI G (h 7) 60 ki, aI G (h 8) 60 am, aZ G (h 9) 60 sk, aZ G (h 10) 60 dn, aI G (h 11) 121 y1, aI G (h 12) 121 y2, aI G (h 13) 121 y3, aI G (h 14) 121 y4, aI G (h 15) 121 y5, aI G (h 16) 121 y6, aI G (h 17) 121 y7, aI G (h 18) 5 (nF (q.1, q.2.1, q.2.2, nI np, nI n)), aI G (h 19) 60 qf, aI G (h 22) 60 df, aI G (h 23) 7 (pF w), aI G (h 24) 64 sf, aI G (h 25) 64 cf, cB h (nI n), cF h (nI np), cP (h 1) q, cS (h 4) v] H locs := hW
                      refine lv_i2l hx hb dL_isPolicy_118 rfl ?_
                      refine lv_iload hx hb dL_isPolicy_119 (lv_at hl 0 rfl) ?_
                      refine lv_if_eq (tgt := 136) hx hb dL_isPolicy_121 (by decide) (fun c_36 => ?_) (fun c_36 => ?_)
                      ·
                        exact absurd c_36 (by decide)
                      ·
                        refine lv_aload_n hx hb dL_isPolicy_124 rfl (lv_at hl 2 rfl) ?_
                        refine lv_aload hx hb dL_isPolicy_125 (lv_at hl 5 rfl) ?_
                        refine lv_aload_n hx hb dL_isPolicy_127 rfl (lv_at hl 2 rfl) ?_
                        refine lv_iconst (v := 3) hx hb dL_isPolicy_128 (by decide) ?_
                        refine k_vld S hK hW 14 rfl (i := 3) (k := 3) (x := (nI np)) vi5_3 ix_3 rfl dL_isPolicy_129 ?_
                        refine k_callSl (As := [.ref (h 18), .ref (h 23), .int (nI np)]) (rest := [.long ((F_X4_deathSum (nI np) q v).toInt64)]) (wr := [cH h, cS (h 5) tr, aI G (h 6) 60 mo, aI G (h 7) 60 ki, aI G (h 8) 60 am, aZ G (h 9) 60 sk, aZ G (h 10) 60 dn, aI G (h 11) 121 y1, aI G (h 12) 121 y2, aI G (h 13) 121 y3, aI G (h 14) 121 y4, aI G (h 15) 121 y5, aI G (h 16) 121 y6, aI G (h 17) 121 y7, aI G (h 19) 60 qf, aI G (h 22) 60 df, aI G (h 24) 64 sf, aI G (h 25) 64 cf, cB h (nI n), cF h (nI np), cP (h 1) q, cS (h 4) v]) (c_L_death l G h (h 23) (q.1, q.2.1, q.2.2, nI np, nI n) w (nI np)) S hK hW gL_isPolicy_L_death rfl ⟨rfl, rfl⟩ nd_L_death ⟨rfl, rfl⟩ [14, 17] [0, 1, 2, 3, 4, 5, 6, 7, 8, 9, 10, 11, 12, 13, 15, 16, 18, 19, 20, 21, 22, 23] rfl rfl rfl rfl (by decide) rfl hl.1 rfl dL_isPolicy_130 ⟨by decide, by decide⟩ (fun H locs hW => ?_)
                        have hW : Wd G A sS.heap [cH h, cS (h 5) tr, aI G (h 6) 60 mo, aI G (h 7) 60 ki, aI G (h 8) 60 am, aZ G (h 9) 60 sk, aZ G (h 10) 60 dn, aI G (h 11) 121 y1, aI G (h 12) 121 y2, aI G (h 13) 121 y3, aI G (h 14) 121 y4, aI G (h 15) 121 y5, aI G (h 16) 121 y6, aI G (h 17) 121 y7, aI G (h 19) 60 qf, aI G (h 22) 60 df, aI G (h 24) 64 sf, aI G (h 25) 64 cf, cB h (nI n), cF h (nI np), cP (h 1) q, cS (h 4) v, aI G (h 18) 5 (nF (q.1, q.2.1, q.2.2, nI np, nI n)), aI G (h 23) 7 (pF w)] H locs := hW
                        refine lv_goto (tgt := 137) hx hb dL_isPolicy_133 (by decide) ?_
                        refine W.lcmp hx hb dL_isPolicy_137 ?_
                        refine lv_if_ne (tgt := 170) hx hb dL_isPolicy_138 (by decide) (fun c_37 => ?_) (fun c_37 => ?_)
                        ·
                          exact absurd ((a_dc I L c_1).1) c_37
                        ·
                          refine lv_aload_n hx hb dL_isPolicy_141 rfl (lv_at hl 1 rfl) ?_
                          refine k_callVi (C := RX4) (As := []) (rest := []) (wr := [cH h, cS (h 5) tr, aI G (h 6) 60 mo, aI G (h 7) 60 ki, aI G (h 8) 60 am, aZ G (h 9) 60 sk, aZ G (h 10) 60 dn, aI G (h 11) 121 y1, aI G (h 12) 121 y2, aI G (h 13) 121 y3, aI G (h 14) 121 y4, aI G (h 15) 121 y5, aI G (h 16) 121 y6, aI G (h 17) 121 y7, aI G (h 19) 60 qf, aI G (h 22) 60 df, aI G (h 24) 64 sf, aI G (h 25) 64 cf, cB h (nI n), aI G (h 18) 5 (nF (q.1, q.2.1, q.2.2, nI np, nI n)), aI G (h 23) 7 (pF w)]) (c_X4_charge l G h (nI np) q v) S hK hW gL_isPolicy_X4_charge rfl ⟨rfl, rfl⟩ nd_X4_charge ⟨rfl, rfl⟩ (qb := 19) (ci := 4) rfl rfl [19, 20, 21] [0, 1, 2, 3, 4, 5, 6, 7, 8, 9, 10, 11, 12, 13, 14, 15, 16, 17, 18, 22, 23] rfl rfl rfl rfl (by decide) rfl hl.1 rfl dL_isPolicy_142 ⟨by decide, by decide⟩ (fun H locs hW => ?_)
                          have hW : Wd G A sS.heap [cH h, cS (h 5) tr, aI G (h 6) 60 mo, aI G (h 7) 60 ki, aI G (h 8) 60 am, aZ G (h 9) 60 sk, aZ G (h 10) 60 dn, aI G (h 11) 121 y1, aI G (h 12) 121 y2, aI G (h 13) 121 y3, aI G (h 14) 121 y4, aI G (h 15) 121 y5, aI G (h 16) 121 y6, aI G (h 17) 121 y7, aI G (h 19) 60 qf, aI G (h 22) 60 df, aI G (h 24) 64 sf, aI G (h 25) 64 cf, cB h (nI n), aI G (h 18) 5 (nF (q.1, q.2.1, q.2.2, nI np, nI n)), aI G (h 23) 7 (pF w), cF h (nI np), cP (h 1) q, cS (h 4) v] H locs := hW
                          refine lv_iload hx hb dL_isPolicy_145 (lv_at hl 0 rfl) ?_
                          refine lv_if_eq (tgt := 162) hx hb dL_isPolicy_147 (by decide) (fun c_38 => ?_) (fun c_38 => ?_)
                          ·
                            exact absurd c_38 (by decide)
                          ·
                            refine lv_aload_n hx hb dL_isPolicy_150 rfl (lv_at hl 2 rfl) ?_
                            refine lv_aload hx hb dL_isPolicy_151 (lv_at hl 5 rfl) ?_
                            refine lv_aload_n hx hb dL_isPolicy_153 rfl (lv_at hl 2 rfl) ?_
                            refine lv_iconst (v := 3) hx hb dL_isPolicy_154 (by decide) ?_
                            refine k_vld S hK hW 19 rfl (i := 3) (k := 3) (x := (nI np)) vi5_3 ix_3 rfl dL_isPolicy_155 ?_
                            refine k_callSi (As := [.ref (h 18), .ref (h 23), .int (nI np)]) (rest := [.int (F_X4_charge (nI np) q v)]) (wr := [cH h, cS (h 5) tr, aI G (h 6) 60 mo, aI G (h 7) 60 ki, aI G (h 8) 60 am, aZ G (h 9) 60 sk, aZ G (h 10) 60 dn, aI G (h 11) 121 y1, aI G (h 12) 121 y2, aI G (h 13) 121 y3, aI G (h 14) 121 y4, aI G (h 15) 121 y5, aI G (h 16) 121 y6, aI G (h 17) 121 y7, aI G (h 19) 60 qf, aI G (h 22) 60 df, aI G (h 24) 64 sf, aI G (h 25) 64 cf, cB h (nI n), cF h (nI np), cP (h 1) q, cS (h 4) v]) (c_L_charge l G h (h 23) (q.1, q.2.1, q.2.2, nI np, nI n) w np hw (by omega)) S hK hW gL_isPolicy_L_charge rfl ⟨rfl, rfl⟩ nd_L_charge ⟨rfl, rfl⟩ [19, 20] [0, 1, 2, 3, 4, 5, 6, 7, 8, 9, 10, 11, 12, 13, 14, 15, 16, 17, 18, 21, 22, 23] rfl rfl rfl rfl (by decide) rfl hl.1 rfl dL_isPolicy_156 ⟨by decide, by decide⟩ (fun H locs hW => ?_)
                            have hW : Wd G A sS.heap [cH h, cS (h 5) tr, aI G (h 6) 60 mo, aI G (h 7) 60 ki, aI G (h 8) 60 am, aZ G (h 9) 60 sk, aZ G (h 10) 60 dn, aI G (h 11) 121 y1, aI G (h 12) 121 y2, aI G (h 13) 121 y3, aI G (h 14) 121 y4, aI G (h 15) 121 y5, aI G (h 16) 121 y6, aI G (h 17) 121 y7, aI G (h 19) 60 qf, aI G (h 22) 60 df, aI G (h 24) 64 sf, aI G (h 25) 64 cf, cB h (nI n), cF h (nI np), cP (h 1) q, cS (h 4) v, aI G (h 18) 5 (nF (q.1, q.2.1, q.2.2, nI np, nI n)), aI G (h 23) 7 (pF w)] H locs := hW
                            refine lv_goto (tgt := 163) hx hb dL_isPolicy_159 (by decide) ?_
                            refine lv_icmp_ne (tgt := 170) hx hb dL_isPolicy_163 (by decide) (fun c_39 => ?_) (fun c_39 => ?_)
                            ·
                              exact absurd ((a_dc I L c_1).2) c_39
                            ·
                              refine lv_iconst (v := 1) hx hb dL_isPolicy_166 (by decide) ?_
                              refine lv_goto (tgt := 171) hx hb dL_isPolicy_167 (by decide) ?_
                              refine lv_istore (lv' := [(9, .int 1), (8, .int 1), (0, .ref (h 0)), (1, .ref (h 18)), (2, .ref (h 19)), (3, .ref (h 22)), (4, .ref (h 23)), (5, .ref (h 24)), (6, .ref (h 25)), (7, .int (nI xx))]) hx hb dL_isPolicy_171 hl (by decide) rfl (fun ls hl => ?_)
                              refine lv_iconst (v := 0) hx hb dL_isPolicy_173 (by decide) ?_
                              refine lv_istore (lv' := [(10, .int 0), (9, .int 1), (8, .int 1), (0, .ref (h 0)), (1, .ref (h 18)), (2, .ref (h 19)), (3, .ref (h 22)), (4, .ref (h 23)), (5, .ref (h 24)), (6, .ref (h 25)), (7, .int (nI xx))]) hx hb dL_isPolicy_174 hl (by decide) rfl (fun ls hl => ?_)
                              exact K 1 (Or.inl ⟨rfl, c_1⟩) H _ ls _ (hW.re [19, 20, 18, 0, 21, 1, 2, 3, 4, 5, 6, 7, 8, 9, 10, 11, 12, 13, 22, 14, 15, 23, 16, 17] rfl rfl) (lv_sub hl [0, 1, 2, 3, 4, 5, 6, 7, 8, 9, 10] rfl)
