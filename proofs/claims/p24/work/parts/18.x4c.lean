def Lp_X4_workOutFrom (mo : (Nat → Int32)) (ki : (Nat → Int32)) (am : (Nat → Int32)) (sk : (Nat → Bool)) (q : S3) (n : Nat) (np : Nat) (m0 : Nat) : Nat → Nat → S7 → (Nat → Bool) → (Nat → Int32) → (Nat → Int32) → (Nat → Int32) → (Nat → Int32) → (Nat → Int32) → (Nat → Int32) → (Nat → Int32) → (Nat → Bool) × (Nat → Int32) × (Nat → Int32) × (Nat → Int32) × (Nat → Int32) × (Nat → Int32) × (Nat → Int32) × (Nat → Int32) × S7
  | 0, i, v9, dn9, y19, y29, y39, y49, y59, y69, y79 => ((F_X4_performAndNote mo ki am sk dn9 q v9 (nI np) n).1, y19, y29, y39, y49, y59, y69, y79, ((F_X4_performAndNote mo ki am sk dn9 q v9 (nI np) n).2))
  | d + 1, i, v9, dn9, y19, y29, y39, y49, y59, y69, y79 => Lp_X4_workOutFrom mo ki am sk q n np m0 d (i + 1) (F_X4_endMonth q ((F_X4_performAndNote mo ki am sk dn9 q v9 (nI (m0 + i)) n).2) (nI (m0 + i))) ((F_X4_performAndNote mo ki am sk dn9 q v9 (nI (m0 + i)) n).1) ((F_X1_keep y19 y29 y39 y49 y59 y69 y79 (F_X4_endMonth q ((F_X4_performAndNote mo ki am sk dn9 q v9 (nI (m0 + i)) n).2) (nI (m0 + i))) (nI (m0 + i) + 1)).1) ((F_X1_keep y19 y29 y39 y49 y59 y69 y79 (F_X4_endMonth q ((F_X4_performAndNote mo ki am sk dn9 q v9 (nI (m0 + i)) n).2) (nI (m0 + i))) (nI (m0 + i) + 1)).2.1) ((F_X1_keep y19 y29 y39 y49 y59 y69 y79 (F_X4_endMonth q ((F_X4_performAndNote mo ki am sk dn9 q v9 (nI (m0 + i)) n).2) (nI (m0 + i))) (nI (m0 + i) + 1)).2.2.1) ((F_X1_keep y19 y29 y39 y49 y59 y69 y79 (F_X4_endMonth q ((F_X4_performAndNote mo ki am sk dn9 q v9 (nI (m0 + i)) n).2) (nI (m0 + i))) (nI (m0 + i) + 1)).2.2.2.1) ((F_X1_keep y19 y29 y39 y49 y59 y69 y79 (F_X4_endMonth q ((F_X4_performAndNote mo ki am sk dn9 q v9 (nI (m0 + i)) n).2) (nI (m0 + i))) (nI (m0 + i) + 1)).2.2.2.2.1) ((F_X1_keep y19 y29 y39 y49 y59 y69 y79 (F_X4_endMonth q ((F_X4_performAndNote mo ki am sk dn9 q v9 (nI (m0 + i)) n).2) (nI (m0 + i))) (nI (m0 + i) + 1)).2.2.2.2.2.1) ((F_X1_keep y19 y29 y39 y49 y59 y69 y79 (F_X4_endMonth q ((F_X4_performAndNote mo ki am sk dn9 q v9 (nI (m0 + i)) n).2) (nI (m0 + i))) (nI (m0 + i) + 1)).2.2.2.2.2.2)
def F_X4_workOutFrom (mo : (Nat → Int32)) (ki : (Nat → Int32)) (am : (Nat → Int32)) (sk : (Nat → Bool)) (dn : (Nat → Bool)) (y1 : (Nat → Int32)) (y2 : (Nat → Int32)) (y3 : (Nat → Int32)) (y4 : (Nat → Int32)) (y5 : (Nat → Int32)) (y6 : (Nat → Int32)) (y7 : (Nat → Int32)) (q : S3) (v : S7) (n : Nat) (np : Nat) (m0 : Nat) : (Nat → Bool) × (Nat → Int32) × (Nat → Int32) × (Nat → Int32) × (Nat → Int32) × (Nat → Int32) × (Nat → Int32) × (Nat → Int32) × S7 :=
  Lp_X4_workOutFrom mo ki am sk q n np m0 (np - m0) 0 (F_X1_recall y1 y2 y3 y4 y5 y6 y7 v (nI m0)) dn y1 y2 y3 y4 y5 y6 y7
set_option maxRecDepth 100000 in
theorem k_X4_workOutFrom_f40 : Cond.fieldLink RX4 40 "FlexiblePolicy" "present" "I" ∈ wsX4_workOutFrom := by decide +kernel
set_option maxRecDepth 100000 in
theorem k_X4_workOutFrom_in4 : ∀ w ∈ u_ws RX4 TX4 6, w ∈ wsX4_workOutFrom := by decide +kernel
set_option maxRecDepth 100000 in
theorem k_X4_workOutFrom_f33 : Cond.fieldLink RX4 33 "FlexiblePolicy" "now" "LFlexiblePolicy$Standing;" ∈ wsX4_workOutFrom := by decide +kernel
set_option maxRecDepth 100000 in
theorem k_X4_workOutFrom_f26 : Cond.fieldLink RX4 26 "FlexiblePolicy" "history" "LFlexiblePolicy$History;" ∈ wsX4_workOutFrom := by decide +kernel
theorem nd_X4_workOutFrom : yX4_workOutFrom.cls = RX4 ∧ yX4_workOutFrom.cls ≠ "java/lang/invoke/MethodHandle" ∧ yX4_workOutFrom.cls ≠ "java/lang/invoke/VarHandle" ∧ (parseMethodDescriptor yX4_workOutFrom.desc).map (fun d => d.parameters.length) = some 1 := by decide +kernel
abbrev rm_X4_workOutFrom : Room := { frames := 5, cells := 0, slots := 0, locals := 110 }
set_option maxHeartbeats 4000000 in
set_option maxRecDepth 100000 in
theorem c_X4_workOutFrom (l : Launch) (G : GG) (h : Nat → Nat) (mo : (Nat → Int32)) (ki : (Nat → Int32)) (am : (Nat → Int32)) (sk : (Nat → Bool)) (dn : (Nat → Bool)) (y1 : (Nat → Int32)) (y2 : (Nat → Int32)) (y3 : (Nat → Int32)) (y4 : (Nat → Int32)) (y5 : (Nat → Int32)) (y6 : (Nat → Int32)) (y7 : (Nat → Int32)) (q : S3) (v : S7) (n : Nat) (np : Nat) (m0 : Nat) (hn : n ≤ 60) (hm : m0 ≤ np) (hp : np ≤ 120) : CV l G yX4_workOutFrom wsX4_workOutFrom rm_X4_workOutFrom [.ref (h 0), .int (nI m0)] [cF h (nI np), cB h (nI n), aI G (h 6) 60 mo, aI G (h 7) 60 ki, aI G (h 8) 60 am, aZ G (h 9) 60 sk, aZ G (h 10) 60 dn, cH h, aI G (h 11) 121 y1, aI G (h 12) 121 y2, aI G (h 13) 121 y3, aI G (h 14) 121 y4, aI G (h 15) 121 y5, aI G (h 16) 121 y6, aI G (h 17) 121 y7, cP (h 1) q, cS (h 4) v] [cF h (nI np), cB h (nI n), aI G (h 6) 60 mo, aI G (h 7) 60 ki, aI G (h 8) 60 am, aZ G (h 9) 60 sk, aZ G (h 10) 60 ((F_X4_workOutFrom mo ki am sk dn y1 y2 y3 y4 y5 y6 y7 q v n np m0).1), cH h, aI G (h 11) 121 ((F_X4_workOutFrom mo ki am sk dn y1 y2 y3 y4 y5 y6 y7 q v n np m0).2.1), aI G (h 12) 121 ((F_X4_workOutFrom mo ki am sk dn y1 y2 y3 y4 y5 y6 y7 q v n np m0).2.2.1), aI G (h 13) 121 ((F_X4_workOutFrom mo ki am sk dn y1 y2 y3 y4 y5 y6 y7 q v n np m0).2.2.2.1), aI G (h 14) 121 ((F_X4_workOutFrom mo ki am sk dn y1 y2 y3 y4 y5 y6 y7 q v n np m0).2.2.2.2.1), aI G (h 15) 121 ((F_X4_workOutFrom mo ki am sk dn y1 y2 y3 y4 y5 y6 y7 q v n np m0).2.2.2.2.2.1), aI G (h 16) 121 ((F_X4_workOutFrom mo ki am sk dn y1 y2 y3 y4 y5 y6 y7 q v n np m0).2.2.2.2.2.2.1), aI G (h 17) 121 ((F_X4_workOutFrom mo ki am sk dn y1 y2 y3 y4 y5 y6 y7 q v n np m0).2.2.2.2.2.2.2.1), cP (h 1) q, cS (h 4) ((F_X4_workOutFrom mo ki am sk dn y1 y2 y3 y4 y5 y6 y7 q v n np m0).2.2.2.2.2.2.2.2)] := by
  refine CV_of (own := RX4) (by decide +kernel) rfl rfl (Nat.le_of_ble_eq_true rfl) ?_
  intro pP eE sS mM args below meth cC A S hK hr hlk hmn hW ls hl
  have hx := S.1
  have hb := S.2.1
  have hl : lv_has ls 3 [(0, .ref (h 0)), (1, .int (nI m0))] := hl
  have hW : Wd G A sS.heap [cF h (nI np), cB h (nI n), aI G (h 6) 60 mo, aI G (h 7) 60 ki, aI G (h 8) 60 am, aZ G (h 9) 60 sk, aZ G (h 10) 60 dn, cH h, aI G (h 11) 121 y1, aI G (h 12) 121 y2, aI G (h 13) 121 y3, aI G (h 14) 121 y4, aI G (h 15) 121 y5, aI G (h 16) 121 y6, aI G (h 17) 121 y7, cP (h 1) q, cS (h 4) v] sS.heap [] := hW
  have key : ∀ (d i : Nat) (v9 : S7) (dn9 : (Nat → Bool)) (y19 : (Nat → Int32)) (y29 : (Nat → Int32)) (y39 : (Nat → Int32)) (y49 : (Nat → Int32)) (y59 : (Nat → Int32)) (y69 : (Nat → Int32)) (y79 : (Nat → Int32)), i + d = (np - m0) → Lp_X4_workOutFrom mo ki am sk q n np m0 d i v9 dn9 y19 y29 y39 y49 y59 y69 y79 = (F_X4_workOutFrom mo ki am sk dn y1 y2 y3 y4 y5 y6 y7 q v n np m0) → ∀ (H : Heap) (locs : List Loc) (ls : Array Slot), Wd G A sS.heap [cF h (nI np), cB h (nI n), aI G (h 6) 60 mo, aI G (h 7) 60 ki, aI G (h 8) 60 am, aZ G (h 9) 60 sk, aZ G (h 10) 60 dn9, cH h, aI G (h 11) 121 y19, aI G (h 12) 121 y29, aI G (h 13) 121 y39, aI G (h 14) 121 y49, aI G (h 15) 121 y59, aI G (h 16) 121 y69, aI G (h 17) 121 y79, cP (h 1) q, cS (h 4) v9] H locs → lv_has ls 3 [(2, .int (nI (m0 + i))), (0, .ref (h 0))] → W pP l eE rm_X4_workOutFrom sS mM args below meth cC H locs 0 0 (MQ below (QV G A [cF h (nI np), cB h (nI n), aI G (h 6) 60 mo, aI G (h 7) 60 ki, aI G (h 8) 60 am, aZ G (h 9) 60 sk, aZ G (h 10) 60 ((F_X4_workOutFrom mo ki am sk dn y1 y2 y3 y4 y5 y6 y7 q v n np m0).1), cH h, aI G (h 11) 121 ((F_X4_workOutFrom mo ki am sk dn y1 y2 y3 y4 y5 y6 y7 q v n np m0).2.1), aI G (h 12) 121 ((F_X4_workOutFrom mo ki am sk dn y1 y2 y3 y4 y5 y6 y7 q v n np m0).2.2.1), aI G (h 13) 121 ((F_X4_workOutFrom mo ki am sk dn y1 y2 y3 y4 y5 y6 y7 q v n np m0).2.2.2.1), aI G (h 14) 121 ((F_X4_workOutFrom mo ki am sk dn y1 y2 y3 y4 y5 y6 y7 q v n np m0).2.2.2.2.1), aI G (h 15) 121 ((F_X4_workOutFrom mo ki am sk dn y1 y2 y3 y4 y5 y6 y7 q v n np m0).2.2.2.2.2.1), aI G (h 16) 121 ((F_X4_workOutFrom mo ki am sk dn y1 y2 y3 y4 y5 y6 y7 q v n np m0).2.2.2.2.2.2.1), aI G (h 17) 121 ((F_X4_workOutFrom mo ki am sk dn y1 y2 y3 y4 y5 y6 y7 q v n np m0).2.2.2.2.2.2.2.1), cP (h 1) q, cS (h 4) ((F_X4_workOutFrom mo ki am sk dn y1 y2 y3 y4 y5 y6 y7 q v n np m0).2.2.2.2.2.2.2.2)]) args sS 0 0 A) (F0 mM 14 ls []) := by
    intro d
    induction d with
    | zero =>
      intro i v9 dn9 y19 y29 y39 y49 y59 y69 y79 hi hF H locs ls hW hl
      have hc : nI np ≤ nI (m0 + i) := nI_le (by omega) (by omega)
      refine lv_iload_n hx hb dX4_workOutFrom_14 rfl (lv_at hl 0 rfl) ?_
      refine lv_aload_n hx hb dX4_workOutFrom_15 rfl (lv_at hl 1 rfl) ?_
      refine k_get (C := RX4) (T := TX4) (N := 6) (ci := 4) (v := .int (nI np)) S hK hW k_X4_workOutFrom_in4 0 5 rfl rfl (by decide) k_X4_workOutFrom_f40 rfl dX4_workOutFrom_16 ?_
      refine lv_icmp_ge (tgt := 56) hx hb dX4_workOutFrom_19 (by decide) (fun c_1 => ?_) (fun c_1 => ?_)
      ·
        refine lv_aload_n hx hb dX4_workOutFrom_56 rfl (lv_at hl 1 rfl) ?_
        refine lv_aload_n hx hb dX4_workOutFrom_57 rfl (lv_at hl 1 rfl) ?_
        refine k_get (C := RX4) (T := TX4) (N := 6) (ci := 4) (v := .int (nI np)) S hK hW k_X4_workOutFrom_in4 0 5 rfl rfl (by decide) k_X4_workOutFrom_f40 rfl dX4_workOutFrom_58 ?_
        refine k_callVv (C := RX4) (As := [.int (nI np)]) (rest := []) (wr := [cH h, aI G (h 11) 121 y19, aI G (h 12) 121 y29, aI G (h 13) 121 y39, aI G (h 14) 121 y49, aI G (h 15) 121 y59, aI G (h 16) 121 y69, aI G (h 17) 121 y79]) (c_X4_performAndNote l G h (nI np) mo ki am sk dn9 q v9 (nI np) n (by omega)) S hK hW gX4_workOutFrom_X4_performAndNote rfl ⟨rfl, rfl⟩ nd_X4_performAndNote ⟨rfl, rfl⟩ (qb := 0) (ci := 4) rfl rfl [0, 1, 2, 3, 4, 5, 6, 15, 16] [7, 8, 9, 10, 11, 12, 13, 14] rfl rfl rfl rfl (by decide) rfl hl.1 rfl dX4_workOutFrom_61 ⟨Nat.zero_le _, Nat.zero_le _⟩ (fun H locs hW => ?_)
        have hW : Wd G A sS.heap [cH h, aI G (h 11) 121 y19, aI G (h 12) 121 y29, aI G (h 13) 121 y39, aI G (h 14) 121 y49, aI G (h 15) 121 y59, aI G (h 16) 121 y69, aI G (h 17) 121 y79, cF h (nI np), cB h (nI n), aI G (h 6) 60 mo, aI G (h 7) 60 ki, aI G (h 8) 60 am, aZ G (h 9) 60 sk, aZ G (h 10) 60 ((F_X4_performAndNote mo ki am sk dn9 q v9 (nI np) n).1), cP (h 1) q, cS (h 4) ((F_X4_performAndNote mo ki am sk dn9 q v9 (nI np) n).2)] H locs := hW
        have eF : (F_X4_workOutFrom mo ki am sk dn y1 y2 y3 y4 y5 y6 y7 q v n np m0) = ((F_X4_performAndNote mo ki am sk dn9 q v9 (nI np) n).1, y19, y29, y39, y49, y59, y69, y79, ((F_X4_performAndNote mo ki am sk dn9 q v9 (nI np) n).2)) := hF.symm.trans (by
          rw [Lp_X4_workOutFrom])
        exact k_vret (wf := [cF h (nI np), cB h (nI n), aI G (h 6) 60 mo, aI G (h 7) 60 ki, aI G (h 8) 60 am, aZ G (h 9) 60 sk, aZ G (h 10) 60 ((F_X4_performAndNote mo ki am sk dn9 q v9 (nI np) n).1), cH h, aI G (h 11) 121 y19, aI G (h 12) 121 y29, aI G (h 13) 121 y39, aI G (h 14) 121 y49, aI G (h 15) 121 y59, aI G (h 16) 121 y69, aI G (h 17) 121 y79, cP (h 1) q, cS (h 4) ((F_X4_performAndNote mo ki am sk dn9 q v9 (nI np) n).2)]) S hr hlk hK hW [8, 9, 10, 11, 12, 13, 14, 0, 1, 2, 3, 4, 5, 6, 7, 15, 16] rfl rfl (congrArg (fun (z : (Nat → Bool) × (Nat → Int32) × (Nat → Int32) × (Nat → Int32) × (Nat → Int32) × (Nat → Int32) × (Nat → Int32) × (Nat → Int32) × S7) => [cF h (nI np), cB h (nI n), aI G (h 6) 60 mo, aI G (h 7) 60 ki, aI G (h 8) 60 am, aZ G (h 9) 60 sk, aZ G (h 10) 60 z.1, cH h, aI G (h 11) 121 z.2.1, aI G (h 12) 121 z.2.2.1, aI G (h 13) 121 z.2.2.2.1, aI G (h 14) 121 z.2.2.2.2.1, aI G (h 15) 121 z.2.2.2.2.2.1, aI G (h 16) 121 z.2.2.2.2.2.2.1, aI G (h 17) 121 z.2.2.2.2.2.2.2.1, cP (h 1) q, cS (h 4) z.2.2.2.2.2.2.2.2]) eF).symm dX4_workOutFrom_64
      ·
        exact absurd hc c_1
    | succ d ih =>
      intro i v9 dn9 y19 y29 y39 y49 y59 y69 y79 hi hF H locs ls hW hl
      have hc : ¬ nI np ≤ nI (m0 + i) := nI_ge (by omega) (by omega)
      refine lv_iload_n hx hb dX4_workOutFrom_14 rfl (lv_at hl 0 rfl) ?_
      refine lv_aload_n hx hb dX4_workOutFrom_15 rfl (lv_at hl 1 rfl) ?_
      refine k_get (C := RX4) (T := TX4) (N := 6) (ci := 4) (v := .int (nI np)) S hK hW k_X4_workOutFrom_in4 0 5 rfl rfl (by decide) k_X4_workOutFrom_f40 rfl dX4_workOutFrom_16 ?_
      refine lv_icmp_ge (tgt := 56) hx hb dX4_workOutFrom_19 (by decide) (fun c_2 => ?_) (fun c_2 => ?_)
      ·
        exact absurd c_2 hc
      ·
        refine lv_aload_n hx hb dX4_workOutFrom_22 rfl (lv_at hl 1 rfl) ?_
        refine lv_iload_n hx hb dX4_workOutFrom_23 rfl (lv_at hl 0 rfl) ?_
        refine k_callVv (C := RX4) (As := [.int (nI (m0 + i))]) (rest := []) (wr := [cH h, aI G (h 11) 121 y19, aI G (h 12) 121 y29, aI G (h 13) 121 y39, aI G (h 14) 121 y49, aI G (h 15) 121 y59, aI G (h 16) 121 y69, aI G (h 17) 121 y79]) (c_X4_performAndNote l G h (nI np) mo ki am sk dn9 q v9 (nI (m0 + i)) n (by omega)) S hK hW gX4_workOutFrom_X4_performAndNote rfl ⟨rfl, rfl⟩ nd_X4_performAndNote ⟨rfl, rfl⟩ (qb := 0) (ci := 4) rfl rfl [0, 1, 2, 3, 4, 5, 6, 15, 16] [7, 8, 9, 10, 11, 12, 13, 14] rfl rfl rfl rfl (by decide) rfl hl.1 rfl dX4_workOutFrom_24 ⟨Nat.zero_le _, Nat.zero_le _⟩ (fun H locs hW => ?_)
        have hW : Wd G A sS.heap [cH h, aI G (h 11) 121 y19, aI G (h 12) 121 y29, aI G (h 13) 121 y39, aI G (h 14) 121 y49, aI G (h 15) 121 y59, aI G (h 16) 121 y69, aI G (h 17) 121 y79, cF h (nI np), cB h (nI n), aI G (h 6) 60 mo, aI G (h 7) 60 ki, aI G (h 8) 60 am, aZ G (h 9) 60 sk, aZ G (h 10) 60 ((F_X4_performAndNote mo ki am sk dn9 q v9 (nI (m0 + i)) n).1), cP (h 1) q, cS (h 4) ((F_X4_performAndNote mo ki am sk dn9 q v9 (nI (m0 + i)) n).2)] H locs := hW
        refine lv_aload_n hx hb dX4_workOutFrom_27 rfl (lv_at hl 1 rfl) ?_
        refine lv_iload_n hx hb dX4_workOutFrom_28 rfl (lv_at hl 0 rfl) ?_
        refine lv_aload_n hx hb dX4_workOutFrom_29 rfl (lv_at hl 1 rfl) ?_
        refine k_get (C := RX4) (T := TX4) (N := 6) (ci := 4) (v := .ref (h 4)) S hK hW k_X4_workOutFrom_in4 8 3 rfl rfl (by decide) k_X4_workOutFrom_f33 rfl dX4_workOutFrom_30 ?_
        refine k_callVv (C := RX4) (As := [.int (nI (m0 + i)), .ref (h 4)]) (rest := []) (wr := [cH h, aI G (h 11) 121 y19, aI G (h 12) 121 y29, aI G (h 13) 121 y39, aI G (h 14) 121 y49, aI G (h 15) 121 y59, aI G (h 16) 121 y69, aI G (h 17) 121 y79, cB h (nI n), aI G (h 6) 60 mo, aI G (h 7) 60 ki, aI G (h 8) 60 am, aZ G (h 9) 60 sk, aZ G (h 10) 60 ((F_X4_performAndNote mo ki am sk dn9 q v9 (nI (m0 + i)) n).1)]) (c_X4_endMonth l G h (h 4) (nI np) q ((F_X4_performAndNote mo ki am sk dn9 q v9 (nI (m0 + i)) n).2) (nI (m0 + i))) S hK hW gX4_workOutFrom_X4_endMonth rfl ⟨rfl, rfl⟩ nd_X4_endMonth ⟨rfl, rfl⟩ (qb := 8) (ci := 4) rfl rfl [8, 15, 16] [0, 1, 2, 3, 4, 5, 6, 7, 9, 10, 11, 12, 13, 14] rfl rfl rfl rfl (by decide) rfl hl.1 rfl dX4_workOutFrom_33 ⟨Nat.zero_le _, Nat.zero_le _⟩ (fun H locs hW => ?_)
        have hW : Wd G A sS.heap [cH h, aI G (h 11) 121 y19, aI G (h 12) 121 y29, aI G (h 13) 121 y39, aI G (h 14) 121 y49, aI G (h 15) 121 y59, aI G (h 16) 121 y69, aI G (h 17) 121 y79, cB h (nI n), aI G (h 6) 60 mo, aI G (h 7) 60 ki, aI G (h 8) 60 am, aZ G (h 9) 60 sk, aZ G (h 10) 60 ((F_X4_performAndNote mo ki am sk dn9 q v9 (nI (m0 + i)) n).1), cF h (nI np), cP (h 1) q, cS (h 4) (F_X4_endMonth q ((F_X4_performAndNote mo ki am sk dn9 q v9 (nI (m0 + i)) n).2) (nI (m0 + i)))] H locs := hW
        refine lv_aload_n hx hb dX4_workOutFrom_36 rfl (lv_at hl 1 rfl) ?_
        refine k_get (C := RX4) (T := TX4) (N := 6) (ci := 4) (v := .ref (h 3)) S hK hW k_X4_workOutFrom_in4 14 2 rfl rfl (by decide) k_X4_workOutFrom_f26 rfl dX4_workOutFrom_37 ?_
        refine lv_iload_n hx hb dX4_workOutFrom_40 rfl (lv_at hl 0 rfl) ?_
        refine lv_iconst (v := 1) hx hb dX4_workOutFrom_41 (by decide) ?_
        refine lv_iadd hx hb dX4_workOutFrom_42 ?_
        refine lv_aload_n hx hb dX4_workOutFrom_43 rfl (lv_at hl 1 rfl) ?_
        refine k_get (C := RX4) (T := TX4) (N := 6) (ci := 4) (v := .ref (h 4)) S hK hW k_X4_workOutFrom_in4 14 3 rfl rfl (by decide) k_X4_workOutFrom_f33 rfl dX4_workOutFrom_44 ?_
        refine k_callVv (C := RX1) (As := [.int (nI (m0 + i) + 1), .ref (h 4)]) (rest := []) (wr := [cB h (nI n), aI G (h 6) 60 mo, aI G (h 7) 60 ki, aI G (h 8) 60 am, aZ G (h 9) 60 sk, aZ G (h 10) 60 ((F_X4_performAndNote mo ki am sk dn9 q v9 (nI (m0 + i)) n).1), cF h (nI np), cP (h 1) q]) (c_X1_keep l G h (h 4) y19 y29 y39 y49 y59 y69 y79 (F_X4_endMonth q ((F_X4_performAndNote mo ki am sk dn9 q v9 (nI (m0 + i)) n).2) (nI (m0 + i))) (nI (m0 + i) + 1)) S hK hW gX4_workOutFrom_X1_keep rfl ⟨rfl, rfl⟩ nd_X1_keep ⟨rfl, rfl⟩ (qb := 0) (ci := 1) rfl rfl [0, 1, 2, 3, 4, 5, 6, 7, 16] [8, 9, 10, 11, 12, 13, 14, 15] rfl rfl rfl rfl (by decide) rfl hl.1 rfl dX4_workOutFrom_47 ⟨Nat.zero_le _, Nat.zero_le _⟩ (fun H locs hW => ?_)
        have hW : Wd G A sS.heap [cB h (nI n), aI G (h 6) 60 mo, aI G (h 7) 60 ki, aI G (h 8) 60 am, aZ G (h 9) 60 sk, aZ G (h 10) 60 ((F_X4_performAndNote mo ki am sk dn9 q v9 (nI (m0 + i)) n).1), cF h (nI np), cP (h 1) q, cH h, aI G (h 11) 121 ((F_X1_keep y19 y29 y39 y49 y59 y69 y79 (F_X4_endMonth q ((F_X4_performAndNote mo ki am sk dn9 q v9 (nI (m0 + i)) n).2) (nI (m0 + i))) (nI (m0 + i) + 1)).1), aI G (h 12) 121 ((F_X1_keep y19 y29 y39 y49 y59 y69 y79 (F_X4_endMonth q ((F_X4_performAndNote mo ki am sk dn9 q v9 (nI (m0 + i)) n).2) (nI (m0 + i))) (nI (m0 + i) + 1)).2.1), aI G (h 13) 121 ((F_X1_keep y19 y29 y39 y49 y59 y69 y79 (F_X4_endMonth q ((F_X4_performAndNote mo ki am sk dn9 q v9 (nI (m0 + i)) n).2) (nI (m0 + i))) (nI (m0 + i) + 1)).2.2.1), aI G (h 14) 121 ((F_X1_keep y19 y29 y39 y49 y59 y69 y79 (F_X4_endMonth q ((F_X4_performAndNote mo ki am sk dn9 q v9 (nI (m0 + i)) n).2) (nI (m0 + i))) (nI (m0 + i) + 1)).2.2.2.1), aI G (h 15) 121 ((F_X1_keep y19 y29 y39 y49 y59 y69 y79 (F_X4_endMonth q ((F_X4_performAndNote mo ki am sk dn9 q v9 (nI (m0 + i)) n).2) (nI (m0 + i))) (nI (m0 + i) + 1)).2.2.2.2.1), aI G (h 16) 121 ((F_X1_keep y19 y29 y39 y49 y59 y69 y79 (F_X4_endMonth q ((F_X4_performAndNote mo ki am sk dn9 q v9 (nI (m0 + i)) n).2) (nI (m0 + i))) (nI (m0 + i) + 1)).2.2.2.2.2.1), aI G (h 17) 121 ((F_X1_keep y19 y29 y39 y49 y59 y69 y79 (F_X4_endMonth q ((F_X4_performAndNote mo ki am sk dn9 q v9 (nI (m0 + i)) n).2) (nI (m0 + i))) (nI (m0 + i) + 1)).2.2.2.2.2.2), cS (h 4) (F_X4_endMonth q ((F_X4_performAndNote mo ki am sk dn9 q v9 (nI (m0 + i)) n).2) (nI (m0 + i)))] H locs := hW
        refine lv_iinc (v := (nI (m0 + i) + 1)) (lv' := [(2, .int (nI (m0 + i) + 1)), (0, .ref (h 0))]) hx hb dX4_workOutFrom_50 hl (k := 0) rfl rfl (by decide) rfl (fun ls hl => ?_)
        refine lv_goto (tgt := 14) hx hb dX4_workOutFrom_53 (by decide) ?_
        have eS : Lp_X4_workOutFrom mo ki am sk q n np m0 (d + 1) i v9 dn9 y19 y29 y39 y49 y59 y69 y79 = Lp_X4_workOutFrom mo ki am sk q n np m0 d (i + 1) (F_X4_endMonth q ((F_X4_performAndNote mo ki am sk dn9 q v9 (nI (m0 + i)) n).2) (nI (m0 + i))) ((F_X4_performAndNote mo ki am sk dn9 q v9 (nI (m0 + i)) n).1) ((F_X1_keep y19 y29 y39 y49 y59 y69 y79 (F_X4_endMonth q ((F_X4_performAndNote mo ki am sk dn9 q v9 (nI (m0 + i)) n).2) (nI (m0 + i))) (nI (m0 + i) + 1)).1) ((F_X1_keep y19 y29 y39 y49 y59 y69 y79 (F_X4_endMonth q ((F_X4_performAndNote mo ki am sk dn9 q v9 (nI (m0 + i)) n).2) (nI (m0 + i))) (nI (m0 + i) + 1)).2.1) ((F_X1_keep y19 y29 y39 y49 y59 y69 y79 (F_X4_endMonth q ((F_X4_performAndNote mo ki am sk dn9 q v9 (nI (m0 + i)) n).2) (nI (m0 + i))) (nI (m0 + i) + 1)).2.2.1) ((F_X1_keep y19 y29 y39 y49 y59 y69 y79 (F_X4_endMonth q ((F_X4_performAndNote mo ki am sk dn9 q v9 (nI (m0 + i)) n).2) (nI (m0 + i))) (nI (m0 + i) + 1)).2.2.2.1) ((F_X1_keep y19 y29 y39 y49 y59 y69 y79 (F_X4_endMonth q ((F_X4_performAndNote mo ki am sk dn9 q v9 (nI (m0 + i)) n).2) (nI (m0 + i))) (nI (m0 + i) + 1)).2.2.2.2.1) ((F_X1_keep y19 y29 y39 y49 y59 y69 y79 (F_X4_endMonth q ((F_X4_performAndNote mo ki am sk dn9 q v9 (nI (m0 + i)) n).2) (nI (m0 + i))) (nI (m0 + i) + 1)).2.2.2.2.2.1) ((F_X1_keep y19 y29 y39 y49 y59 y69 y79 (F_X4_endMonth q ((F_X4_performAndNote mo ki am sk dn9 q v9 (nI (m0 + i)) n).2) (nI (m0 + i))) (nI (m0 + i) + 1)).2.2.2.2.2.2) := by
          rw [Lp_X4_workOutFrom]
        have hl : lv_has ls 3 [(2, .int (nI (m0 + i + 1))), (0, .ref (h 0))] := by
          first | exact lv_sub hl [0, 1] rfl | (rw [← nI_1]; exact lv_sub hl [0, 1] rfl)
        exact ih (i + 1) (F_X4_endMonth q ((F_X4_performAndNote mo ki am sk dn9 q v9 (nI (m0 + i)) n).2) (nI (m0 + i))) ((F_X4_performAndNote mo ki am sk dn9 q v9 (nI (m0 + i)) n).1) ((F_X1_keep y19 y29 y39 y49 y59 y69 y79 (F_X4_endMonth q ((F_X4_performAndNote mo ki am sk dn9 q v9 (nI (m0 + i)) n).2) (nI (m0 + i))) (nI (m0 + i) + 1)).1) ((F_X1_keep y19 y29 y39 y49 y59 y69 y79 (F_X4_endMonth q ((F_X4_performAndNote mo ki am sk dn9 q v9 (nI (m0 + i)) n).2) (nI (m0 + i))) (nI (m0 + i) + 1)).2.1) ((F_X1_keep y19 y29 y39 y49 y59 y69 y79 (F_X4_endMonth q ((F_X4_performAndNote mo ki am sk dn9 q v9 (nI (m0 + i)) n).2) (nI (m0 + i))) (nI (m0 + i) + 1)).2.2.1) ((F_X1_keep y19 y29 y39 y49 y59 y69 y79 (F_X4_endMonth q ((F_X4_performAndNote mo ki am sk dn9 q v9 (nI (m0 + i)) n).2) (nI (m0 + i))) (nI (m0 + i) + 1)).2.2.2.1) ((F_X1_keep y19 y29 y39 y49 y59 y69 y79 (F_X4_endMonth q ((F_X4_performAndNote mo ki am sk dn9 q v9 (nI (m0 + i)) n).2) (nI (m0 + i))) (nI (m0 + i) + 1)).2.2.2.2.1) ((F_X1_keep y19 y29 y39 y49 y59 y69 y79 (F_X4_endMonth q ((F_X4_performAndNote mo ki am sk dn9 q v9 (nI (m0 + i)) n).2) (nI (m0 + i))) (nI (m0 + i) + 1)).2.2.2.2.2.1) ((F_X1_keep y19 y29 y39 y49 y59 y69 y79 (F_X4_endMonth q ((F_X4_performAndNote mo ki am sk dn9 q v9 (nI (m0 + i)) n).2) (nI (m0 + i))) (nI (m0 + i) + 1)).2.2.2.2.2.2) (by omega) (eS.symm.trans hF) _ _ _ (hW.re [6, 0, 1, 2, 3, 4, 5, 8, 9, 10, 11, 12, 13, 14, 15, 7, 16] rfl rfl) hl
  refine lv_aload_n hx hb dX4_workOutFrom_0 rfl (lv_at hl 0 rfl) ?_
  refine k_get (C := RX4) (T := TX4) (N := 6) (ci := 4) (v := .ref (h 3)) S hK hW k_X4_workOutFrom_in4 0 2 rfl rfl (by decide) k_X4_workOutFrom_f26 rfl dX4_workOutFrom_1 ?_
  refine lv_iload_n hx hb dX4_workOutFrom_4 rfl (lv_at hl 1 rfl) ?_
  refine lv_aload_n hx hb dX4_workOutFrom_5 rfl (lv_at hl 0 rfl) ?_
  refine k_get (C := RX4) (T := TX4) (N := 6) (ci := 4) (v := .ref (h 4)) S hK hW k_X4_workOutFrom_in4 0 3 rfl rfl (by decide) k_X4_workOutFrom_f33 rfl dX4_workOutFrom_6 ?_
  refine k_callVv (C := RX1) (As := [.int (nI m0), .ref (h 4)]) (rest := []) (wr := [cF h (nI np), cB h (nI n), aI G (h 6) 60 mo, aI G (h 7) 60 ki, aI G (h 8) 60 am, aZ G (h 9) 60 sk, aZ G (h 10) 60 dn, cP (h 1) q]) (c_X1_recall l G h (h 4) y1 y2 y3 y4 y5 y6 y7 v (nI m0)) S hK hW gX4_workOutFrom_X1_recall rfl ⟨rfl, rfl⟩ nd_X1_recall ⟨rfl, rfl⟩ (qb := 7) (ci := 1) rfl rfl [7, 8, 9, 10, 11, 12, 13, 14, 16] [0, 1, 2, 3, 4, 5, 6, 15] rfl rfl rfl rfl (by decide) rfl hl.1 rfl dX4_workOutFrom_9 ⟨Nat.zero_le _, Nat.zero_le _⟩ (fun H locs hW => ?_)
  have hW : Wd G A sS.heap [cF h (nI np), cB h (nI n), aI G (h 6) 60 mo, aI G (h 7) 60 ki, aI G (h 8) 60 am, aZ G (h 9) 60 sk, aZ G (h 10) 60 dn, cP (h 1) q, cH h, aI G (h 11) 121 y1, aI G (h 12) 121 y2, aI G (h 13) 121 y3, aI G (h 14) 121 y4, aI G (h 15) 121 y5, aI G (h 16) 121 y6, aI G (h 17) 121 y7, cS (h 4) (F_X1_recall y1 y2 y3 y4 y5 y6 y7 v (nI m0))] H locs := hW
  refine lv_iload_n hx hb dX4_workOutFrom_12 rfl (lv_at hl 1 rfl) ?_
  refine lv_istore_n (lv' := [(2, .int (nI m0)), (0, .ref (h 0)), (1, .int (nI m0))]) hx hb dX4_workOutFrom_13 rfl hl (by decide) rfl (fun ls hl => ?_)
  have eF : (F_X4_workOutFrom mo ki am sk dn y1 y2 y3 y4 y5 y6 y7 q v n np m0) = Lp_X4_workOutFrom mo ki am sk q n np m0 (np - m0) 0 (F_X1_recall y1 y2 y3 y4 y5 y6 y7 v (nI m0)) dn y1 y2 y3 y4 y5 y6 y7 := by
    rfl
  exact key (np - m0) 0 (F_X1_recall y1 y2 y3 y4 y5 y6 y7 v (nI m0)) dn y1 y2 y3 y4 y5 y6 y7 (by omega) eF.symm _ _ _ (hW.re [0, 1, 2, 3, 4, 5, 6, 8, 9, 10, 11, 12, 13, 14, 15, 7, 16] rfl rfl) (lv_sub hl [0, 1] rfl)
def Lp_X4_firstLapsed (q : S3) (np : Nat) : Nat → Nat → S7 → Int32 × S7
  | 0, i, v9 => ((-1), v9)
  | d + 1, i, v9 => if (F_X4_endMonth q v9 (nI (np + i))).1 = 2 then ((nI (np + i) + 1), (F_X4_endMonth q v9 (nI (np + i))))
  else Lp_X4_firstLapsed q np d (i + 1) (F_X4_endMonth q v9 (nI (np + i)))
def F_X4_firstLapsed (q : S3) (v : S7) (x : Int32) (np : Nat) (w : Nat) : Int32 × S7 :=
  if x ≤ 0 then Lp_X4_firstLapsed q np w 0 (F_X3_copy v)
  else Lp_X4_firstLapsed q np w 0 ((F_X3_takePremium (F_X3_copy v) x).2)
set_option maxRecDepth 100000 in
theorem k_X4_firstLapsed_f40 : Cond.fieldLink RX4 40 "FlexiblePolicy" "present" "I" ∈ wsX4_firstLapsed := by decide +kernel
set_option maxRecDepth 100000 in
theorem k_X4_firstLapsed_in4 : ∀ w ∈ u_ws RX4 TX4 6, w ∈ wsX4_firstLapsed := by decide +kernel
set_option maxRecDepth 100000 in
theorem k_X4_firstLapsed_f37 : Cond.fieldLink RX4 37 "FlexiblePolicy" "trial" "LFlexiblePolicy$Standing;" ∈ wsX4_firstLapsed := by decide +kernel
set_option maxRecDepth 100000 in
theorem k_X4_firstLapsed_f132 : Cond.fieldLink RX4 132 "FlexiblePolicy$Standing" "state" "I" ∈ wsX4_firstLapsed := by decide +kernel
set_option maxRecDepth 100000 in
theorem k_X4_firstLapsed_in3 : ∀ w ∈ u_ws RX3 TX3 7, w ∈ wsX4_firstLapsed := by decide +kernel
set_option maxRecDepth 100000 in
theorem k_X4_firstLapsed_f33 : Cond.fieldLink RX4 33 "FlexiblePolicy" "now" "LFlexiblePolicy$Standing;" ∈ wsX4_firstLapsed := by decide +kernel
theorem nd_X4_firstLapsed : yX4_firstLapsed.cls = RX4 ∧ yX4_firstLapsed.cls ≠ "java/lang/invoke/MethodHandle" ∧ yX4_firstLapsed.cls ≠ "java/lang/invoke/VarHandle" ∧ (parseMethodDescriptor yX4_firstLapsed.desc).map (fun d => d.parameters.length) = some 2 := by decide +kernel
abbrev rm_X4_firstLapsed : Room := { frames := 4, cells := 0, slots := 0, locals := 95 }
set_option maxHeartbeats 4000000 in
set_option maxRecDepth 100000 in
theorem c_X4_firstLapsed (l : Launch) (G : GG) (h : Nat → Nat) (q : S3) (v : S7) (tr : S7) (x : Int32) (np : Nat) (w : Nat) (hp : np ≤ 120) (hw : w ≤ 120) : CI l G yX4_firstLapsed wsX4_firstLapsed rm_X4_firstLapsed [.ref (h 0), .int x, .int (nI w)] [cF h (nI np), cP (h 1) q, cS (h 4) v, cS (h 5) tr] ((F_X4_firstLapsed q v x np w).1) [cF h (nI np), cP (h 1) q, cS (h 4) v, cS (h 5) ((F_X4_firstLapsed q v x np w).2)] := by
  refine CI_of (own := RX4) (by decide +kernel) rfl rfl (Nat.le_of_ble_eq_true rfl) ?_
  intro pP eE sS mM args below meth cC A S hK hr hlk hmn hW ls hl
  have hx := S.1
  have hb := S.2.1
  have hl : lv_has ls 4 [(0, .ref (h 0)), (1, .int x), (2, .int (nI w))] := hl
  have hW : Wd G A sS.heap [cF h (nI np), cP (h 1) q, cS (h 4) v, cS (h 5) tr] sS.heap [] := hW
  have key : ∀ (d i : Nat) (v9 : S7), i + d = w → Lp_X4_firstLapsed q np d i v9 = (F_X4_firstLapsed q v x np w) → ∀ (H : Heap) (locs : List Loc) (ls : Array Slot), Wd G A sS.heap [cF h (nI np), cP (h 1) q, cS (h 4) v, cS (h 5) v9] H locs → lv_has ls 4 [(3, .int (nI (np + i))), (0, .ref (h 0)), (2, .int (nI w))] → W pP l eE rm_X4_firstLapsed sS mM args below meth cC H locs 0 0 (MQ below (QI G A ((F_X4_firstLapsed q v x np w).1) [cF h (nI np), cP (h 1) q, cS (h 4) v, cS (h 5) ((F_X4_firstLapsed q v x np w).2)]) args sS 0 0 A) (F0 mM 29 ls []) := by
    intro d
    induction d with
    | zero =>
      intro i v9 hi hF H locs ls hW hl
      have hc : (nI np + nI w) ≤ nI (np + i) := by rw [nI_add]; exact nI_le (by omega) (by omega)
      refine lv_iload_n hx hb dX4_firstLapsed_29 rfl (lv_at hl 0 rfl) ?_
      refine lv_aload_n hx hb dX4_firstLapsed_30 rfl (lv_at hl 1 rfl) ?_
      refine k_get (C := RX4) (T := TX4) (N := 6) (ci := 4) (v := .int (nI np)) S hK hW k_X4_firstLapsed_in4 0 5 rfl rfl (by decide) k_X4_firstLapsed_f40 rfl dX4_firstLapsed_31 ?_
      refine lv_iload_n hx hb dX4_firstLapsed_34 rfl (lv_at hl 2 rfl) ?_
      refine lv_iadd hx hb dX4_firstLapsed_35 ?_
      refine lv_icmp_ge (tgt := 69) hx hb dX4_firstLapsed_36 (by decide) (fun c_1 => ?_) (fun c_1 => ?_)
      ·
        refine lv_iconst (v := (-1)) hx hb dX4_firstLapsed_69 (by decide) ?_
        have eF : (F_X4_firstLapsed q v x np w) = ((-1), v9) := hF.symm.trans (by
          rw [Lp_X4_firstLapsed])
        exact k_iret (wf := [cF h (nI np), cP (h 1) q, cS (h 4) v, cS (h 5) v9]) S hr hlk hK hW [0, 1, 2, 3] rfl rfl (congrArg (fun (z : Int32 × S7) => [cF h (nI np), cP (h 1) q, cS (h 4) v, cS (h 5) z.2]) eF).symm (congrArg (fun (z : Int32 × S7) => z.1) eF).symm dX4_firstLapsed_70
      ·
        exact absurd hc c_1
    | succ d ih =>
      intro i v9 hi hF H locs ls hW hl
      have hc : ¬ (nI np + nI w) ≤ nI (np + i) := by rw [nI_add]; exact nI_ge (by omega) (by omega)
      refine lv_iload_n hx hb dX4_firstLapsed_29 rfl (lv_at hl 0 rfl) ?_
      refine lv_aload_n hx hb dX4_firstLapsed_30 rfl (lv_at hl 1 rfl) ?_
      refine k_get (C := RX4) (T := TX4) (N := 6) (ci := 4) (v := .int (nI np)) S hK hW k_X4_firstLapsed_in4 0 5 rfl rfl (by decide) k_X4_firstLapsed_f40 rfl dX4_firstLapsed_31 ?_
      refine lv_iload_n hx hb dX4_firstLapsed_34 rfl (lv_at hl 2 rfl) ?_
      refine lv_iadd hx hb dX4_firstLapsed_35 ?_
      refine lv_icmp_ge (tgt := 69) hx hb dX4_firstLapsed_36 (by decide) (fun c_2 => ?_) (fun c_2 => ?_)
      ·
        exact absurd c_2 hc
      ·
        refine lv_aload_n hx hb dX4_firstLapsed_39 rfl (lv_at hl 1 rfl) ?_
        refine lv_iload_n hx hb dX4_firstLapsed_40 rfl (lv_at hl 0 rfl) ?_
        refine lv_aload_n hx hb dX4_firstLapsed_41 rfl (lv_at hl 1 rfl) ?_
        refine k_get (C := RX4) (T := TX4) (N := 6) (ci := 4) (v := .ref (h 5)) S hK hW k_X4_firstLapsed_in4 0 4 rfl rfl (by decide) k_X4_firstLapsed_f37 rfl dX4_firstLapsed_42 ?_
        refine k_callVv (C := RX4) (As := [.int (nI (np + i)), .ref (h 5)]) (rest := []) (wr := [cS (h 4) v]) (c_X4_endMonth l G h (h 5) (nI np) q v9 (nI (np + i))) S hK hW gX4_firstLapsed_X4_endMonth rfl ⟨rfl, rfl⟩ nd_X4_endMonth ⟨rfl, rfl⟩ (qb := 0) (ci := 4) rfl rfl [0, 1, 3] [2] rfl rfl rfl rfl (by decide) rfl hl.1 rfl dX4_firstLapsed_45 ⟨Nat.zero_le _, Nat.zero_le _⟩ (fun H locs hW => ?_)
        have hW : Wd G A sS.heap [cS (h 4) v, cF h (nI np), cP (h 1) q, cS (h 5) (F_X4_endMonth q v9 (nI (np + i)))] H locs := hW
        refine lv_aload_n hx hb dX4_firstLapsed_48 rfl (lv_at hl 1 rfl) ?_
        refine k_get (C := RX4) (T := TX4) (N := 6) (ci := 4) (v := .ref (h 5)) S hK hW k_X4_firstLapsed_in4 1 4 rfl rfl (by decide) k_X4_firstLapsed_f37 rfl dX4_firstLapsed_49 ?_
        refine k_get (C := RX3) (T := TX3) (N := 7) (ci := 3) (v := .int ((F_X4_endMonth q v9 (nI (np + i))).1)) S hK hW k_X4_firstLapsed_in3 3 0 rfl rfl (by decide) k_X4_firstLapsed_f132 rfl dX4_firstLapsed_52 ?_
        refine lv_iconst (v := 2) hx hb dX4_firstLapsed_55 (by decide) ?_
        refine lv_icmp_ne (tgt := 63) hx hb dX4_firstLapsed_56 (by decide) (fun c_3 => ?_) (fun c_3 => ?_)
        ·
          refine lv_iinc (v := (nI (np + i) + 1)) (lv' := [(3, .int (nI (np + i) + 1)), (0, .ref (h 0)), (2, .int (nI w))]) hx hb dX4_firstLapsed_63 hl (k := 0) rfl rfl (by decide) rfl (fun ls hl => ?_)
          refine lv_goto (tgt := 29) hx hb dX4_firstLapsed_66 (by decide) ?_
          have eS : Lp_X4_firstLapsed q np (d + 1) i v9 = Lp_X4_firstLapsed q np d (i + 1) (F_X4_endMonth q v9 (nI (np + i))) := by
            rw [Lp_X4_firstLapsed, if_neg c_3]
          have hl : lv_has ls 4 [(3, .int (nI (np + i + 1))), (0, .ref (h 0)), (2, .int (nI w))] := by
            first | exact lv_sub hl [0, 1, 2] rfl | (rw [← nI_1]; exact lv_sub hl [0, 1, 2] rfl)
          exact ih (i + 1) (F_X4_endMonth q v9 (nI (np + i))) (by omega) (eS.symm.trans hF) _ _ _ (hW.re [1, 2, 0, 3] rfl rfl) hl
        ·
          refine lv_iload_n hx hb dX4_firstLapsed_59 rfl (lv_at hl 0 rfl) ?_
          refine lv_iconst (v := 1) hx hb dX4_firstLapsed_60 (by decide) ?_
          refine lv_iadd hx hb dX4_firstLapsed_61 ?_
          have eF : (F_X4_firstLapsed q v x np w) = ((nI (np + i) + 1), (F_X4_endMonth q v9 (nI (np + i)))) := hF.symm.trans (by
            rw [Lp_X4_firstLapsed, if_pos c_3])
          exact k_iret (wf := [cF h (nI np), cP (h 1) q, cS (h 4) v, cS (h 5) (F_X4_endMonth q v9 (nI (np + i)))]) S hr hlk hK hW [1, 2, 0, 3] rfl rfl (congrArg (fun (z : Int32 × S7) => [cF h (nI np), cP (h 1) q, cS (h 4) v, cS (h 5) z.2]) eF).symm (congrArg (fun (z : Int32 × S7) => z.1) eF).symm dX4_firstLapsed_62
  refine lv_aload_n hx hb dX4_firstLapsed_0 rfl (lv_at hl 0 rfl) ?_
  refine k_get (C := RX4) (T := TX4) (N := 6) (ci := 4) (v := .ref (h 5)) S hK hW k_X4_firstLapsed_in4 0 4 rfl rfl (by decide) k_X4_firstLapsed_f37 rfl dX4_firstLapsed_1 ?_
  refine lv_aload_n hx hb dX4_firstLapsed_4 rfl (lv_at hl 0 rfl) ?_
  refine k_get (C := RX4) (T := TX4) (N := 6) (ci := 4) (v := .ref (h 4)) S hK hW k_X4_firstLapsed_in4 0 3 rfl rfl (by decide) k_X4_firstLapsed_f33 rfl dX4_firstLapsed_5 ?_
  refine k_callVv (C := RX3) (As := [.ref (h 4)]) (rest := []) (wr := [cF h (nI np), cP (h 1) q]) (c_X3_copy l G (h 5) (h 4) tr v) S hK hW gX4_firstLapsed_X3_copy rfl ⟨rfl, rfl⟩ nd_X3_copy ⟨rfl, rfl⟩ (qb := 3) (ci := 3) rfl rfl [3, 2] [0, 1] rfl rfl rfl rfl (by decide) rfl hl.1 rfl dX4_firstLapsed_8 ⟨Nat.zero_le _, Nat.zero_le _⟩ (fun H locs hW => ?_)
  have hW : Wd G A sS.heap [cF h (nI np), cP (h 1) q, cS (h 5) (F_X3_copy v), cS (h 4) v] H locs := hW
  refine lv_iload_n hx hb dX4_firstLapsed_11 rfl (lv_at hl 1 rfl) ?_
  refine lv_if_le (tgt := 24) hx hb dX4_firstLapsed_12 (by decide) (fun c_4 => ?_) (fun c_4 => ?_)
  ·
    refine lv_aload_n hx hb dX4_firstLapsed_24 rfl (lv_at hl 0 rfl) ?_
    refine k_get (C := RX4) (T := TX4) (N := 6) (ci := 4) (v := .int (nI np)) S hK hW k_X4_firstLapsed_in4 0 5 rfl rfl (by decide) k_X4_firstLapsed_f40 rfl dX4_firstLapsed_25 ?_
    refine lv_istore_n (lv' := [(3, .int (nI np)), (0, .ref (h 0)), (1, .int x), (2, .int (nI w))]) hx hb dX4_firstLapsed_28 rfl hl (by decide) rfl (fun ls hl => ?_)
    have eF : (F_X4_firstLapsed q v x np w) = Lp_X4_firstLapsed q np w 0 (F_X3_copy v) := by
      unfold F_X4_firstLapsed
      rw [if_pos c_4]
    exact key w 0 (F_X3_copy v) (by omega) eF.symm _ _ _ (hW.re [0, 1, 3, 2] rfl rfl) (lv_sub hl [0, 1, 3] rfl)
  ·
    refine lv_aload_n hx hb dX4_firstLapsed_15 rfl (lv_at hl 0 rfl) ?_
    refine k_get (C := RX4) (T := TX4) (N := 6) (ci := 4) (v := .ref (h 5)) S hK hW k_X4_firstLapsed_in4 0 4 rfl rfl (by decide) k_X4_firstLapsed_f37 rfl dX4_firstLapsed_16 ?_
    refine lv_iload_n hx hb dX4_firstLapsed_19 rfl (lv_at hl 1 rfl) ?_
    refine k_callVi (C := RX3) (As := [.int x]) (rest := []) (wr := [cF h (nI np), cP (h 1) q, cS (h 4) v]) (c_X3_takePremium l G (h 5) (F_X3_copy v) x) S hK hW gX4_firstLapsed_X3_takePremium rfl ⟨rfl, rfl⟩ nd_X3_takePremium ⟨rfl, rfl⟩ (qb := 2) (ci := 3) rfl rfl [2] [0, 1, 3] rfl rfl rfl rfl (by decide) rfl hl.1 rfl dX4_firstLapsed_20 ⟨Nat.zero_le _, Nat.zero_le _⟩ (fun H locs hW => ?_)
    have hW : Wd G A sS.heap [cF h (nI np), cP (h 1) q, cS (h 4) v, cS (h 5) ((F_X3_takePremium (F_X3_copy v) x).2)] H locs := hW
    refine lv_pop hx hb dX4_firstLapsed_23 rfl ?_
    refine lv_aload_n hx hb dX4_firstLapsed_24 rfl (lv_at hl 0 rfl) ?_
    refine k_get (C := RX4) (T := TX4) (N := 6) (ci := 4) (v := .int (nI np)) S hK hW k_X4_firstLapsed_in4 0 5 rfl rfl (by decide) k_X4_firstLapsed_f40 rfl dX4_firstLapsed_25 ?_
    refine lv_istore_n (lv' := [(3, .int (nI np)), (0, .ref (h 0)), (1, .int x), (2, .int (nI w))]) hx hb dX4_firstLapsed_28 rfl hl (by decide) rfl (fun ls hl => ?_)
    have eF : (F_X4_firstLapsed q v x np w) = Lp_X4_firstLapsed q np w 0 ((F_X3_takePremium (F_X3_copy v) x).2) := by
      unfold F_X4_firstLapsed
      rw [if_neg c_4]
    exact key w 0 ((F_X3_takePremium (F_X3_copy v) x).2) (by omega) eF.symm _ _ _ (hW.re [0, 1, 2, 3] rfl rfl) (lv_sub hl [0, 1, 3] rfl)
def Lp_X4_leastPremium (q : S3) (v : S7) (np : Nat) (w : Nat) : Nat → Nat → Int32 → Int32 → S7 → Int32 × S7
  | 0, i, lo9, hi9, t9 => (hi9, t9)
  | d + 1, i, lo9, hi9, t9 => if (hi9 - lo9) ≤ 1 then (hi9, t9)
  else (if (F_X4_firstLapsed q v (lo9 + ((hi9 - lo9) / 2)) np w).1 = (-1) then Lp_X4_leastPremium q v np w d (i + 1) lo9 (lo9 + ((hi9 - lo9) / 2)) ((F_X4_firstLapsed q v (lo9 + ((hi9 - lo9) / 2)) np w).2)
    else Lp_X4_leastPremium q v np w d (i + 1) (lo9 + ((hi9 - lo9) / 2)) hi9 ((F_X4_firstLapsed q v (lo9 + ((hi9 - lo9) / 2)) np w).2))
def F_X4_leastPremium (q : S3) (v : S7) (tr : S7) (np : Nat) (w : Nat) : Int32 × S7 :=
  Lp_X4_leastPremium q v np w 21 0 0 2000000 tr
set_option maxRecDepth 100000 in
theorem k_X4_leastPremium_c71 : Cond.constant RX4 71 (2000000) ∈ wsX4_leastPremium := by decide +kernel
theorem nd_X4_leastPremium : yX4_leastPremium.cls = RX4 ∧ yX4_leastPremium.cls ≠ "java/lang/invoke/MethodHandle" ∧ yX4_leastPremium.cls ≠ "java/lang/invoke/VarHandle" ∧ (parseMethodDescriptor yX4_leastPremium.desc).map (fun d => d.parameters.length) = some 1 := by decide +kernel
abbrev rm_X4_leastPremium : Room := { frames := 5, cells := 0, slots := 0, locals := 118 }
set_option maxHeartbeats 4000000 in
set_option maxRecDepth 100000 in
theorem c_X4_leastPremium (l : Launch) (G : GG) (h : Nat → Nat) (q : S3) (v : S7) (tr : S7) (np : Nat) (w : Nat) (hp : np ≤ 120) (hw : w ≤ 120) : CI l G yX4_leastPremium wsX4_leastPremium rm_X4_leastPremium [.ref (h 0), .int (nI w)] [cF h (nI np), cP (h 1) q, cS (h 4) v, cS (h 5) tr] ((F_X4_leastPremium q v tr np w).1) [cF h (nI np), cP (h 1) q, cS (h 4) v, cS (h 5) ((F_X4_leastPremium q v tr np w).2)] := by
  refine CI_of (own := RX4) (by decide +kernel) rfl rfl (Nat.le_of_ble_eq_true rfl) ?_
  intro pP eE sS mM args below meth cC A S hK hr hlk hmn hW ls hl
  have hx := S.1
  have hb := S.2.1
  have hl : lv_has ls 6 [(0, .ref (h 0)), (1, .int (nI w))] := hl
  have hW : Wd G A sS.heap [cF h (nI np), cP (h 1) q, cS (h 4) v, cS (h 5) tr] sS.heap [] := hW
  have key : ∀ (d i : Nat) (lo9 : Int32) (hi9 : Int32) (t9 : S7), i + d = 21 → Lp_X4_leastPremium q v np w d i lo9 hi9 t9 = (F_X4_leastPremium q v tr np w) → ∀ (H : Heap) (locs : List Loc) (ls : Array Slot), Wd G A sS.heap [cF h (nI np), cP (h 1) q, cS (h 4) v, cS (h 5) t9] H locs → lv_has ls 6 [(4, .int (nI i)), (2, .int lo9), (3, .int hi9), (0, .ref (h 0)), (1, .int (nI w))] → W pP l eE rm_X4_leastPremium sS mM args below meth cC H locs 0 0 (MQ below (QI G A ((F_X4_leastPremium q v tr np w).1) [cF h (nI np), cP (h 1) q, cS (h 4) v, cS (h 5) ((F_X4_leastPremium q v tr np w).2)]) args sS 0 0 A) (F0 mM 8 ls []) := by
    intro d
    induction d with
    | zero =>
      intro i lo9 hi9 t9 hi hF H locs ls hW hl
      have hc : 21 ≤ nI i := by rw [← nI_21]; exact nI_le (by omega) (by omega)
      refine lv_iload hx hb dX4_leastPremium_8 (lv_at hl 0 rfl) ?_
      refine lv_bipush (v := 21) hx hb dX4_leastPremium_10 (by decide) ?_
      refine lv_icmp_ge (tgt := 57) hx hb dX4_leastPremium_12 (by decide) (fun c_1 => ?_) (fun c_1 => ?_)
      ·
        refine lv_iload_n hx hb dX4_leastPremium_57 rfl (lv_at hl 2 rfl) ?_
        have eF : (F_X4_leastPremium q v tr np w) = (hi9, t9) := hF.symm.trans (by
          rw [Lp_X4_leastPremium])
        exact k_iret (wf := [cF h (nI np), cP (h 1) q, cS (h 4) v, cS (h 5) t9]) S hr hlk hK hW [0, 1, 2, 3] rfl rfl (congrArg (fun (z : Int32 × S7) => [cF h (nI np), cP (h 1) q, cS (h 4) v, cS (h 5) z.2]) eF).symm (congrArg (fun (z : Int32 × S7) => z.1) eF).symm dX4_leastPremium_58
      ·
        exact absurd hc c_1
    | succ d ih =>
      intro i lo9 hi9 t9 hi hF H locs ls hW hl
      have hc : ¬ 21 ≤ nI i := by rw [← nI_21]; exact nI_ge (by omega) (by omega)
      refine lv_iload hx hb dX4_leastPremium_8 (lv_at hl 0 rfl) ?_
      refine lv_bipush (v := 21) hx hb dX4_leastPremium_10 (by decide) ?_
      refine lv_icmp_ge (tgt := 57) hx hb dX4_leastPremium_12 (by decide) (fun c_2 => ?_) (fun c_2 => ?_)
      ·
        exact absurd c_2 hc
      ·
        refine lv_iload_n hx hb dX4_leastPremium_15 rfl (lv_at hl 2 rfl) ?_
        refine lv_iload_n hx hb dX4_leastPremium_16 rfl (lv_at hl 1 rfl) ?_
        refine lv_isub hx hb dX4_leastPremium_17 ?_
        refine lv_iconst (v := 1) hx hb dX4_leastPremium_18 (by decide) ?_
        refine lv_icmp_le (tgt := 57) hx hb dX4_leastPremium_19 (by decide) (fun c_3 => ?_) (fun c_3 => ?_)
        ·
          refine lv_iload_n hx hb dX4_leastPremium_57 rfl (lv_at hl 2 rfl) ?_
          have eF : (F_X4_leastPremium q v tr np w) = (hi9, t9) := hF.symm.trans (by
            rw [Lp_X4_leastPremium, if_pos c_3])
          exact k_iret (wf := [cF h (nI np), cP (h 1) q, cS (h 4) v, cS (h 5) t9]) S hr hlk hK hW [0, 1, 2, 3] rfl rfl (congrArg (fun (z : Int32 × S7) => [cF h (nI np), cP (h 1) q, cS (h 4) v, cS (h 5) z.2]) eF).symm (congrArg (fun (z : Int32 × S7) => z.1) eF).symm dX4_leastPremium_58
        ·
          refine lv_iload_n hx hb dX4_leastPremium_22 rfl (lv_at hl 1 rfl) ?_
          refine lv_iload_n hx hb dX4_leastPremium_23 rfl (lv_at hl 2 rfl) ?_
          refine lv_iload_n hx hb dX4_leastPremium_24 rfl (lv_at hl 1 rfl) ?_
          refine lv_isub hx hb dX4_leastPremium_25 ?_
          refine lv_iconst (v := 2) hx hb dX4_leastPremium_26 (by decide) ?_
          refine lv_idiv hx hb dX4_leastPremium_27 (by decide) ?_
          refine lv_iadd hx hb dX4_leastPremium_28 ?_
          refine lv_istore (lv' := [(5, .int (lo9 + ((hi9 - lo9) / 2))), (4, .int (nI i)), (2, .int lo9), (3, .int hi9), (0, .ref (h 0)), (1, .int (nI w))]) hx hb dX4_leastPremium_29 hl (by decide) rfl (fun ls hl => ?_)
          refine lv_aload_n hx hb dX4_leastPremium_31 rfl (lv_at hl 4 rfl) ?_
          refine lv_iload hx hb dX4_leastPremium_32 (lv_at hl 0 rfl) ?_
          refine lv_iload_n hx hb dX4_leastPremium_34 rfl (lv_at hl 5 rfl) ?_
          refine k_callVi (C := RX4) (As := [.int (lo9 + ((hi9 - lo9) / 2)), .int (nI w)]) (rest := []) (wr := []) (c_X4_firstLapsed l G h q v t9 (lo9 + ((hi9 - lo9) / 2)) np w (by omega) (by omega)) S hK hW gX4_leastPremium_X4_firstLapsed rfl ⟨rfl, rfl⟩ nd_X4_firstLapsed ⟨rfl, rfl⟩ (qb := 0) (ci := 4) rfl rfl [0, 1, 2, 3] [] rfl rfl rfl rfl (by decide) rfl hl.1 rfl dX4_leastPremium_35 ⟨Nat.zero_le _, Nat.zero_le _⟩ (fun H locs hW => ?_)
          have hW : Wd G A sS.heap [cF h (nI np), cP (h 1) q, cS (h 4) v, cS (h 5) ((F_X4_firstLapsed q v (lo9 + ((hi9 - lo9) / 2)) np w).2)] H locs := hW
          refine lv_iconst (v := (-1)) hx hb dX4_leastPremium_38 (by decide) ?_
          refine lv_icmp_ne (tgt := 48) hx hb dX4_leastPremium_39 (by decide) (fun c_4 => ?_) (fun c_4 => ?_)
          ·
            refine lv_iload hx hb dX4_leastPremium_48 (lv_at hl 0 rfl) ?_
            refine lv_istore_n (lv' := [(2, .int (lo9 + ((hi9 - lo9) / 2))), (5, .int (lo9 + ((hi9 - lo9) / 2))), (4, .int (nI i)), (3, .int hi9), (0, .ref (h 0)), (1, .int (nI w))]) hx hb dX4_leastPremium_50 rfl hl (by decide) rfl (fun ls hl => ?_)
            refine lv_iinc (v := (nI i + 1)) (lv' := [(4, .int (nI i + 1)), (2, .int (lo9 + ((hi9 - lo9) / 2))), (5, .int (lo9 + ((hi9 - lo9) / 2))), (3, .int hi9), (0, .ref (h 0)), (1, .int (nI w))]) hx hb dX4_leastPremium_51 hl (k := 2) rfl rfl (by decide) rfl (fun ls hl => ?_)
            refine lv_goto (tgt := 8) hx hb dX4_leastPremium_54 (by decide) ?_
            have eS : Lp_X4_leastPremium q v np w (d + 1) i lo9 hi9 t9 = Lp_X4_leastPremium q v np w d (i + 1) (lo9 + ((hi9 - lo9) / 2)) hi9 ((F_X4_firstLapsed q v (lo9 + ((hi9 - lo9) / 2)) np w).2) := by
              rw [Lp_X4_leastPremium, if_neg c_3, if_neg c_4]
            have hl : lv_has ls 6 [(4, .int (nI (i + 1))), (2, .int (lo9 + ((hi9 - lo9) / 2))), (3, .int hi9), (0, .ref (h 0)), (1, .int (nI w))] := by
              first | exact lv_sub hl [0, 1, 3, 4, 5] rfl | (rw [← nI_1]; exact lv_sub hl [0, 1, 3, 4, 5] rfl)
            exact ih (i + 1) (lo9 + ((hi9 - lo9) / 2)) hi9 ((F_X4_firstLapsed q v (lo9 + ((hi9 - lo9) / 2)) np w).2) (by omega) (eS.symm.trans hF) _ _ _ (hW.re [0, 1, 2, 3] rfl rfl) hl
          ·
            refine lv_iload hx hb dX4_leastPremium_42 (lv_at hl 0 rfl) ?_
            refine lv_istore_n (lv' := [(3, .int (lo9 + ((hi9 - lo9) / 2))), (5, .int (lo9 + ((hi9 - lo9) / 2))), (4, .int (nI i)), (2, .int lo9), (0, .ref (h 0)), (1, .int (nI w))]) hx hb dX4_leastPremium_44 rfl hl (by decide) rfl (fun ls hl => ?_)
            refine lv_goto (tgt := 51) hx hb dX4_leastPremium_45 (by decide) ?_
            refine lv_iinc (v := (nI i + 1)) (lv' := [(4, .int (nI i + 1)), (3, .int (lo9 + ((hi9 - lo9) / 2))), (5, .int (lo9 + ((hi9 - lo9) / 2))), (2, .int lo9), (0, .ref (h 0)), (1, .int (nI w))]) hx hb dX4_leastPremium_51 hl (k := 2) rfl rfl (by decide) rfl (fun ls hl => ?_)
            refine lv_goto (tgt := 8) hx hb dX4_leastPremium_54 (by decide) ?_
            have eS : Lp_X4_leastPremium q v np w (d + 1) i lo9 hi9 t9 = Lp_X4_leastPremium q v np w d (i + 1) lo9 (lo9 + ((hi9 - lo9) / 2)) ((F_X4_firstLapsed q v (lo9 + ((hi9 - lo9) / 2)) np w).2) := by
              rw [Lp_X4_leastPremium, if_neg c_3, if_pos c_4]
            have hl : lv_has ls 6 [(4, .int (nI (i + 1))), (2, .int lo9), (3, .int (lo9 + ((hi9 - lo9) / 2))), (0, .ref (h 0)), (1, .int (nI w))] := by
              first | exact lv_sub hl [0, 3, 1, 4, 5] rfl | (rw [← nI_1]; exact lv_sub hl [0, 3, 1, 4, 5] rfl)
            exact ih (i + 1) lo9 (lo9 + ((hi9 - lo9) / 2)) ((F_X4_firstLapsed q v (lo9 + ((hi9 - lo9) / 2)) np w).2) (by omega) (eS.symm.trans hF) _ _ _ (hW.re [0, 1, 2, 3] rfl rfl) hl
  refine lv_iconst (v := 0) hx hb dX4_leastPremium_0 (by decide) ?_
  refine lv_istore_n (lv' := [(2, .int 0), (0, .ref (h 0)), (1, .int (nI w))]) hx hb dX4_leastPremium_1 rfl hl (by decide) rfl (fun ls hl => ?_)
  refine k_ldc S k_X4_leastPremium_c71 dX4_leastPremium_2 ?_
  refine lv_istore_n (lv' := [(3, .int 2000000), (2, .int 0), (0, .ref (h 0)), (1, .int (nI w))]) hx hb dX4_leastPremium_4 rfl hl (by decide) rfl (fun ls hl => ?_)
  refine lv_iconst (v := 0) hx hb dX4_leastPremium_5 (by decide) ?_
  refine lv_istore (lv' := [(4, .int 0), (3, .int 2000000), (2, .int 0), (0, .ref (h 0)), (1, .int (nI w))]) hx hb dX4_leastPremium_6 hl (by decide) rfl (fun ls hl => ?_)
  have eF : (F_X4_leastPremium q v tr np w) = Lp_X4_leastPremium q v np w 21 0 0 2000000 tr := by
    rfl
  exact key 21 0 0 2000000 tr (by omega) eF.symm _ _ _ (hW.re [0, 1, 2, 3] rfl rfl) (lv_sub hl [0, 2, 1, 3, 4] (by rw [nI_0] <;> rfl))
