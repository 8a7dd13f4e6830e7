def Lp_X4_accountFromStart (mo : (Nat → Int32)) (ki : (Nat → Int32)) (am : (Nat → Int32)) (sk : (Nat → Bool)) (q : S3) (n : Nat) : Nat → Nat → S7 → Int32 × Int32 × S7
  | 0, i, v9 => (0, v9.2.1, v9)
  | d + 1, i, v9 => Lp_X4_accountFromStart mo ki am sk q n d (i + 1) (F_X4_endMonth q (F_X4_performAll mo ki am sk q v9 (nI i) n) (nI i))
def F_X4_accountFromStart (mo : (Nat → Int32)) (ki : (Nat → Int32)) (am : (Nat → Int32)) (sk : (Nat → Bool)) (q : S3) (tr : S7) (x : Int32) (np : Nat) (n : Nat) : Int32 × Int32 × S7 :=
  if x < 0 then (1, 0, tr)
  else (if x ≤ nI np then Lp_X4_accountFromStart mo ki am sk q n x.toNatClampNeg 0 F_X3_startFresh
    else (1, 0, tr))
set_option maxRecDepth 100000 in
theorem k_X4_accountFromStart_f37 : Cond.fieldLink RX4 37 "FlexiblePolicy" "trial" "LFlexiblePolicy$Standing;" ∈ wsX4_accountFromStart := by decide +kernel
set_option maxRecDepth 100000 in
theorem k_X4_accountFromStart_in4 : ∀ w ∈ u_ws RX4 TX4 6, w ∈ wsX4_accountFromStart := by decide +kernel
set_option maxRecDepth 100000 in
theorem k_X4_accountFromStart_f135 : Cond.fieldLink RX4 135 "FlexiblePolicy$Standing" "account" "I" ∈ wsX4_accountFromStart := by decide +kernel
set_option maxRecDepth 100000 in
theorem k_X4_accountFromStart_in3 : ∀ w ∈ u_ws RX3 TX3 7, w ∈ wsX4_accountFromStart := by decide +kernel
set_option maxRecDepth 100000 in
theorem k_X4_accountFromStart_xl44 : Cond.classLink RX4 44 nIAE ∈ wsX4_accountFromStart := by decide +kernel
set_option maxRecDepth 100000 in
theorem k_X4_accountFromStart_xi44 : Cond.initialized nIAE ∈ wsX4_accountFromStart := by decide +kernel
set_option maxRecDepth 100000 in
theorem k_X4_accountFromStart_f40 : Cond.fieldLink RX4 40 "FlexiblePolicy" "present" "I" ∈ wsX4_accountFromStart := by decide +kernel
theorem nd_X4_accountFromStart : yX4_accountFromStart.cls = RX4 ∧ yX4_accountFromStart.cls ≠ "java/lang/invoke/MethodHandle" ∧ yX4_accountFromStart.cls ≠ "java/lang/invoke/VarHandle" ∧ (parseMethodDescriptor yX4_accountFromStart.desc).map (fun d => d.parameters.length) = some 1 := by decide +kernel
abbrev rm_X4_accountFromStart : Room := { frames := 6, cells := 1, slots := 6, locals := 111 }
set_option maxHeartbeats 4000000 in
set_option maxRecDepth 100000 in
theorem c_X4_accountFromStart (l : Launch) (hst : l.stackTraces = false) (G : GG) (h : Nat → Nat) (mo : (Nat → Int32)) (ki : (Nat → Int32)) (am : (Nat → Int32)) (sk : (Nat → Bool)) (q : S3) (tr : S7) (x : Int32) (np : Nat) (n : Nat) (hn : n ≤ 60) (hp : np ≤ 120) : CX l G yX4_accountFromStart wsX4_accountFromStart rm_X4_accountFromStart [.ref (h 0), .int x] [cF h (nI np), cB h (nI n), aI G (h 6) 60 mo, aI G (h 7) 60 ki, aI G (h 8) 60 am, aZ G (h 9) 60 sk, cP (h 1) q, cS (h 5) tr] ((F_X4_accountFromStart mo ki am sk q tr x np n).1) ((F_X4_accountFromStart mo ki am sk q tr x np n).2.1) [cF h (nI np), cB h (nI n), aI G (h 6) 60 mo, aI G (h 7) 60 ki, aI G (h 8) 60 am, aZ G (h 9) 60 sk, cP (h 1) q, cS (h 5) ((F_X4_accountFromStart mo ki am sk q tr x np n).2.2)] [(1, nIAE)] := by
  refine CX_of (own := RX4) (by decide +kernel) rfl rfl (Nat.le_of_ble_eq_true rfl) ?_
  intro pP eE sS mM args below meth cC A S hK hr hlk hex hXE hXZ hW ls hl
  have hx := S.1
  have hb := S.2.1
  have hl : lv_has ls 3 [(0, .ref (h 0)), (1, .int x)] := hl
  have hW : Wd G A sS.heap [cF h (nI np), cB h (nI n), aI G (h 6) 60 mo, aI G (h 7) 60 ki, aI G (h 8) 60 am, aZ G (h 9) 60 sk, cP (h 1) q, cS (h 5) tr] sS.heap [] := hW
  have key : ∀ (d i : Nat) (v9 : S7), x = nI x.toNatClampNeg → x.toNatClampNeg ≤ np → i + d = x.toNatClampNeg → Lp_X4_accountFromStart mo ki am sk q n d i v9 = (F_X4_accountFromStart mo ki am sk q tr x np n) → ∀ (H : Heap) (locs : List Loc) (ls : Array Slot), Wd G A sS.heap [cF h (nI np), cB h (nI n), aI G (h 6) 60 mo, aI G (h 7) 60 ki, aI G (h 8) 60 am, aZ G (h 9) 60 sk, cP (h 1) q, cS (h 5) v9] H locs → lv_has ls 3 [(2, .int (nI i)), (0, .ref (h 0)), (1, .int x)] → W pP l eE rm_X4_accountFromStart sS mM args below meth cC H locs 0 0 (vx_MQ below (QXI G A ((F_X4_accountFromStart mo ki am sk q tr x np n).1) ((F_X4_accountFromStart mo ki am sk q tr x np n).2.1) [cF h (nI np), cB h (nI n), aI G (h 6) 60 mo, aI G (h 7) 60 ki, aI G (h 8) 60 am, aZ G (h 9) 60 sk, cP (h 1) q, cS (h 5) ((F_X4_accountFromStart mo ki am sk q tr x np n).2.2)]) (XQ G A ((F_X4_accountFromStart mo ki am sk q tr x np n).1) [cF h (nI np), cB h (nI n), aI G (h 6) 60 mo, aI G (h 7) 60 ki, aI G (h 8) 60 am, aZ G (h 9) 60 sk, cP (h 1) q, cS (h 5) tr] [(1, nIAE)]) args sS 1 6 A) (F0 mM 31 ls []) := by
    intro d
    induction d with
    | zero =>
      intro i v9 hx0 hx1 hi hF H locs ls hW hl
      have hc : x ≤ nI i := by rw [hx0]; exact nI_le (by omega) (by omega)
      refine lv_iload_n hx hb dX4_accountFromStart_31 rfl (lv_at hl 0 rfl) ?_
      refine lv_iload_n hx hb dX4_accountFromStart_32 rfl (lv_at hl 2 rfl) ?_
      refine lv_icmp_ge (tgt := 60) hx hb dX4_accountFromStart_33 (by decide) (fun c_1 => ?_) (fun c_1 => ?_)
      ·
        refine lv_aload_n hx hb dX4_accountFromStart_60 rfl (lv_at hl 1 rfl) ?_
        refine k_get (C := RX4) (T := TX4) (N := 6) (ci := 4) (v := .ref (h 5)) S hK hW k_X4_accountFromStart_in4 0 4 rfl rfl (by decide) k_X4_accountFromStart_f37 rfl dX4_accountFromStart_61 ?_
        refine k_get (C := RX3) (T := TX3) (N := 7) (ci := 3) (v := .int v9.2.1) S hK hW k_X4_accountFromStart_in3 7 1 rfl rfl (by decide) k_X4_accountFromStart_f135 rfl dX4_accountFromStart_64 ?_
        have eF : (F_X4_accountFromStart mo ki am sk q tr x np n) = (0, v9.2.1, v9) := hF.symm.trans (by
          rw [Lp_X4_accountFromStart])
        exact kx_iret (wf := [cF h (nI np), cB h (nI n), aI G (h 6) 60 mo, aI G (h 7) 60 ki, aI G (h 8) 60 am, aZ G (h 9) 60 sk, cP (h 1) q, cS (h 5) v9]) S hr hlk hK hW [0, 1, 2, 3, 4, 5, 6, 7] rfl rfl (congrArg (fun (z : Int32 × Int32 × S7) => [cF h (nI np), cB h (nI n), aI G (h 6) 60 mo, aI G (h 7) 60 ki, aI G (h 8) 60 am, aZ G (h 9) 60 sk, cP (h 1) q, cS (h 5) z.2.2]) eF).symm (congrArg (fun (z : Int32 × Int32 × S7) => z.2.1) eF).symm (congrArg (fun (z : Int32 × Int32 × S7) => z.1) eF) rfl rfl dX4_accountFromStart_67
      ·
        exact absurd hc c_1
    | succ d ih =>
      intro i v9 hx0 hx1 hi hF H locs ls hW hl
      have hc : ¬ x ≤ nI i := by rw [hx0]; exact nI_ge (by omega) (by omega)
      refine lv_iload_n hx hb dX4_accountFromStart_31 rfl (lv_at hl 0 rfl) ?_
      refine lv_iload_n hx hb dX4_accountFromStart_32 rfl (lv_at hl 2 rfl) ?_
      refine lv_icmp_ge (tgt := 60) hx hb dX4_accountFromStart_33 (by decide) (fun c_2 => ?_) (fun c_2 => ?_)
      ·
        exact absurd c_2 hc
      ·
        refine lv_aload_n hx hb dX4_accountFromStart_36 rfl (lv_at hl 1 rfl) ?_
        refine lv_iload_n hx hb dX4_accountFromStart_37 rfl (lv_at hl 0 rfl) ?_
        refine lv_aload_n hx hb dX4_accountFromStart_38 rfl (lv_at hl 1 rfl) ?_
        refine k_get (C := RX4) (T := TX4) (N := 6) (ci := 4) (v := .ref (h 5)) S hK hW k_X4_accountFromStart_in4 0 4 rfl rfl (by decide) k_X4_accountFromStart_f37 rfl dX4_accountFromStart_39 ?_
        refine k_callVv (C := RX4) (As := [.int (nI i), .ref (h 5)]) (rest := []) (wr := []) (c_X4_performAll l G h (h 5) (nI np) mo ki am sk q v9 (nI i) n (by omega)) S hK hW gX4_accountFromStart_X4_performAll rfl ⟨rfl, rfl⟩ nd_X4_performAll ⟨rfl, rfl⟩ (qb := 0) (ci := 4) rfl rfl [0, 1, 2, 3, 4, 5, 6, 7] [] rfl rfl rfl rfl (by decide) rfl hl.1 rfl dX4_accountFromStart_42 ⟨Nat.zero_le _, Nat.zero_le _⟩ (fun H locs hW => ?_)
        have hW : Wd G A sS.heap [cF h (nI np), cB h (nI n), aI G (h 6) 60 mo, aI G (h 7) 60 ki, aI G (h 8) 60 am, aZ G (h 9) 60 sk, cP (h 1) q, cS (h 5) (F_X4_performAll mo ki am sk q v9 (nI i) n)] H locs := hW
        refine lv_aload_n hx hb dX4_accountFromStart_45 rfl (lv_at hl 1 rfl) ?_
        refine lv_iload_n hx hb dX4_accountFromStart_46 rfl (lv_at hl 0 rfl) ?_
        refine lv_aload_n hx hb dX4_accountFromStart_47 rfl (lv_at hl 1 rfl) ?_
        refine k_get (C := RX4) (T := TX4) (N := 6) (ci := 4) (v := .ref (h 5)) S hK hW k_X4_accountFromStart_in4 0 4 rfl rfl (by decide) k_X4_accountFromStart_f37 rfl dX4_accountFromStart_48 ?_
        refine k_callVv (C := RX4) (As := [.int (nI i), .ref (h 5)]) (rest := []) (wr := [cB h (nI n), aI G (h 6) 60 mo, aI G (h 7) 60 ki, aI G (h 8) 60 am, aZ G (h 9) 60 sk]) (c_X4_endMonth l G h (h 5) (nI np) q (F_X4_performAll mo ki am sk q v9 (nI i) n) (nI i)) S hK hW gX4_accountFromStart_X4_endMonth rfl ⟨rfl, rfl⟩ nd_X4_endMonth ⟨rfl, rfl⟩ (qb := 0) (ci := 4) rfl rfl [0, 6, 7] [1, 2, 3, 4, 5] rfl rfl rfl rfl (by decide) rfl hl.1 rfl dX4_accountFromStart_51 ⟨Nat.zero_le _, Nat.zero_le _⟩ (fun H locs hW => ?_)
        have hW : Wd G A sS.heap [cB h (nI n), aI G (h 6) 60 mo, aI G (h 7) 60 ki, aI G (h 8) 60 am, aZ G (h 9) 60 sk, cF h (nI np), cP (h 1) q, cS (h 5) (F_X4_endMonth q (F_X4_performAll mo ki am sk q v9 (nI i) n) (nI i))] H locs := hW
        refine lv_iinc (v := (nI i + 1)) (lv' := [(2, .int (nI i + 1)), (0, .ref (h 0)), (1, .int x)]) hx hb dX4_accountFromStart_54 hl (k := 0) rfl rfl (by decide) rfl (fun ls hl => ?_)
        refine lv_goto (tgt := 31) hx hb dX4_accountFromStart_57 (by decide) ?_
        have eS : Lp_X4_accountFromStart mo ki am sk q n (d + 1) i v9 = Lp_X4_accountFromStart mo ki am sk q n d (i + 1) (F_X4_endMonth q (F_X4_performAll mo ki am sk q v9 (nI i) n) (nI i)) := by
          rw [Lp_X4_accountFromStart]
        have hl : lv_has ls 3 [(2, .int (nI (i + 1))), (0, .ref (h 0)), (1, .int x)] := by
          first | exact lv_sub hl [0, 1, 2] rfl | (rw [← nI_1]; exact lv_sub hl [0, 1, 2] rfl)
        exact ih (i + 1) (F_X4_endMonth q (F_X4_performAll mo ki am sk q v9 (nI i) n) (nI i)) hx0 hx1 (by omega) (eS.symm.trans hF) _ _ _ (hW.re [5, 0, 1, 2, 3, 4, 6, 7] rfl rfl) hl
  refine lv_iload_n hx hb dX4_accountFromStart_0 rfl (lv_at hl 1 rfl) ?_
  refine lv_if_lt (tgt := 12) hx hb dX4_accountFromStart_1 (by decide) (fun c_3 => ?_) (fun c_3 => ?_)
  ·
    have eF : (F_X4_accountFromStart mo ki am sk q tr x np n) = (1, 0, tr) := by
      unfold F_X4_accountFromStart
      rw [if_pos c_3]
    obtain ⟨sa, hsa⟩ := hXE.2.2.2.2.2 (67, "the month is 0 to the present one") (by decide +kernel)
    have eK : ((F_X4_accountFromStart mo ki am sk q tr x np n)).1 = 1 := congrArg (fun (z : Int32 × Int32 × S7) => z.1) eF
    exact kx_throw hst S hlk hex hXE hXZ hK hW [0, 1, 2, 3, 4, 5, 6, 7] rfl rfl (ik := 44) (ix := 67) (ic := 48) (cls := nIAE) (by decide +kernel) k_X4_accountFromStart_xl44 k_X4_accountFromStart_xi44 hsa (fun _ h => List.mem_cons_of_mem _ (List.mem_append_right _ h)) xb_nIAE hXE.1 xg_nIAE hl.1 dX4_accountFromStart_12 dX4_accountFromStart_15 dX4_accountFromStart_16 dX4_accountFromStart_18 dX4_accountFromStart_21 rfl rfl rfl rfl rfl rfl ⟨(1, nIAE), List.mem_cons_self, eK, rfl⟩
  ·
    refine lv_iload_n hx hb dX4_accountFromStart_4 rfl (lv_at hl 1 rfl) ?_
    refine lv_aload_n hx hb dX4_accountFromStart_5 rfl (lv_at hl 0 rfl) ?_
    refine k_get (C := RX4) (T := TX4) (N := 6) (ci := 4) (v := .int (nI np)) S hK hW k_X4_accountFromStart_in4 0 5 rfl rfl (by decide) k_X4_accountFromStart_f40 rfl dX4_accountFromStart_6 ?_
    refine lv_icmp_le (tgt := 22) hx hb dX4_accountFromStart_9 (by decide) (fun c_4 => ?_) (fun c_4 => ?_)
    ·
      have hx0 : x = nI x.toNatClampNeg := cl_of (i_nlt c_3)
      have hx1 : x.toNatClampNeg ≤ np := cl_le (by omega) (i_nlt c_3) c_4
      refine lv_aload_n hx hb dX4_accountFromStart_22 rfl (lv_at hl 0 rfl) ?_
      refine k_get (C := RX4) (T := TX4) (N := 6) (ci := 4) (v := .ref (h 5)) S hK hW k_X4_accountFromStart_in4 0 4 rfl rfl (by decide) k_X4_accountFromStart_f37 rfl dX4_accountFromStart_23 ?_
      refine k_callVv (C := RX3) (As := []) (rest := []) (wr := [cF h (nI np), cB h (nI n), aI G (h 6) 60 mo, aI G (h 7) 60 ki, aI G (h 8) 60 am, aZ G (h 9) 60 sk, cP (h 1) q]) (c_X3_startFresh l G (h 5) tr) S hK hW gX4_accountFromStart_X3_startFresh rfl ⟨rfl, rfl⟩ nd_X3_startFresh ⟨rfl, rfl⟩ (qb := 7) (ci := 3) rfl rfl [7] [0, 1, 2, 3, 4, 5, 6] rfl rfl rfl rfl (by decide) rfl hl.1 rfl dX4_accountFromStart_26 ⟨Nat.zero_le _, Nat.zero_le _⟩ (fun H locs hW => ?_)
      have hW : Wd G A sS.heap [cF h (nI np), cB h (nI n), aI G (h 6) 60 mo, aI G (h 7) 60 ki, aI G (h 8) 60 am, aZ G (h 9) 60 sk, cP (h 1) q, cS (h 5) F_X3_startFresh] H locs := hW
      refine lv_iconst (v := 0) hx hb dX4_accountFromStart_29 (by decide) ?_
      refine lv_istore_n (lv' := [(2, .int 0), (0, .ref (h 0)), (1, .int x)]) hx hb dX4_accountFromStart_30 rfl hl (by decide) rfl (fun ls hl => ?_)
      have eF : (F_X4_accountFromStart mo ki am sk q tr x np n) = Lp_X4_accountFromStart mo ki am sk q n x.toNatClampNeg 0 F_X3_startFresh := by
        unfold F_X4_accountFromStart
        rw [if_neg c_3, if_pos c_4]
      exact key x.toNatClampNeg 0 F_X3_startFresh hx0 hx1 (by omega) eF.symm _ _ _ (hW.re [0, 1, 2, 3, 4, 5, 6, 7] rfl rfl) (lv_sub hl [0, 1, 2] (by rw [nI_0] <;> rfl))
    ·
      have eF : (F_X4_accountFromStart mo ki am sk q tr x np n) = (1, 0, tr) := by
        unfold F_X4_accountFromStart
        rw [if_neg c_3, if_neg c_4]
      obtain ⟨sa, hsa⟩ := hXE.2.2.2.2.2 (67, "the month is 0 to the present one") (by decide +kernel)
      have eK : ((F_X4_accountFromStart mo ki am sk q tr x np n)).1 = 1 := congrArg (fun (z : Int32 × Int32 × S7) => z.1) eF
      exact kx_throw hst S hlk hex hXE hXZ hK hW [0, 1, 2, 3, 4, 5, 6, 7] rfl rfl (ik := 44) (ix := 67) (ic := 48) (cls := nIAE) (by decide +kernel) k_X4_accountFromStart_xl44 k_X4_accountFromStart_xi44 hsa (fun _ h => List.mem_cons_of_mem _ (List.mem_append_right _ h)) xb_nIAE hXE.1 xg_nIAE hl.1 dX4_accountFromStart_12 dX4_accountFromStart_15 dX4_accountFromStart_16 dX4_accountFromStart_18 dX4_accountFromStart_21 rfl rfl rfl rfl rfl rfl ⟨(1, nIAE), List.mem_cons_self, eK, rfl⟩
theorem close_le {x : Int32} {np : Nat} (hp : np ≤ 120) (h : x = nI x.toNatClampNeg ∧ x.toNatClampNeg ≤ 24 ∧ 1 ≤ x.toNatClampNeg) (h3 : (nI np + x) ≤ 120) : np + x.toNatClampNeg ≤ 120 := by
  obtain ⟨h1, h2, -⟩ := h
  rw [h1, nI_add, ← nI_120] at h3
  rcases Nat.lt_or_ge 120 (np + x.toNatClampNeg) with q | q
  · exact absurd h3 (nI_ge q (by omega))
  · exact q
def Lp_X4_close (q : S3) (np : Nat) : Nat → Nat → S7 → (Nat → Int32) → (Nat → Int32) → (Nat → Int32) → (Nat → Int32) → (Nat → Int32) → (Nat → Int32) → (Nat → Int32) → Int32 × Int32 × Int32 × S7 × (Nat → Int32) × (Nat → Int32) × (Nat → Int32) × (Nat → Int32) × (Nat → Int32) × (Nat → Int32) × (Nat → Int32)
  | 0, i, v9, y19, y29, y39, y49, y59, y69, y79 => (0, nI (np + i), nI (np + i), v9, y19, y29, y39, y49, y59, y69, y79)
  | d + 1, i, v9, y19, y29, y39, y49, y59, y69, y79 => Lp_X4_close q np d (i + 1) (F_X4_endMonth q v9 (nI (np + i))) ((F_X1_keep y19 y29 y39 y49 y59 y69 y79 (F_X4_endMonth q v9 (nI (np + i))) (nI (np + i) + 1)).1) ((F_X1_keep y19 y29 y39 y49 y59 y69 y79 (F_X4_endMonth q v9 (nI (np + i))) (nI (np + i) + 1)).2.1) ((F_X1_keep y19 y29 y39 y49 y59 y69 y79 (F_X4_endMonth q v9 (nI (np + i))) (nI (np + i) + 1)).2.2.1) ((F_X1_keep y19 y29 y39 y49 y59 y69 y79 (F_X4_endMonth q v9 (nI (np + i))) (nI (np + i) + 1)).2.2.2.1) ((F_X1_keep y19 y29 y39 y49 y59 y69 y79 (F_X4_endMonth q v9 (nI (np + i))) (nI (np + i) + 1)).2.2.2.2.1) ((F_X1_keep y19 y29 y39 y49 y59 y69 y79 (F_X4_endMonth q v9 (nI (np + i))) (nI (np + i) + 1)).2.2.2.2.2.1) ((F_X1_keep y19 y29 y39 y49 y59 y69 y79 (F_X4_endMonth q v9 (nI (np + i))) (nI (np + i) + 1)).2.2.2.2.2.2)
def F_X4_close (q : S3) (v : S7) (y1 : (Nat → Int32)) (y2 : (Nat → Int32)) (y3 : (Nat → Int32)) (y4 : (Nat → Int32)) (y5 : (Nat → Int32)) (y6 : (Nat → Int32)) (y7 : (Nat → Int32)) (x : Int32) (np : Nat) : Int32 × Int32 × Int32 × S7 × (Nat → Int32) × (Nat → Int32) × (Nat → Int32) × (Nat → Int32) × (Nat → Int32) × (Nat → Int32) × (Nat → Int32) :=
  if x < 1 then (1, 0, nI np, v, y1, y2, y3, y4, y5, y6, y7)
  else (if x ≤ 24 then (if (nI np + x) ≤ 120 then Lp_X4_close q np x.toNatClampNeg 0 v y1 y2 y3 y4 y5 y6 y7
      else (2, 0, nI np, v, y1, y2, y3, y4, y5, y6, y7))
    else (1, 0, nI np, v, y1, y2, y3, y4, y5, y6, y7))
set_option maxRecDepth 100000 in
theorem k_X4_close_f40 : Cond.fieldLink RX4 40 "FlexiblePolicy" "present" "I" ∈ wsX4_close := by decide +kernel
set_option maxRecDepth 100000 in
theorem k_X4_close_in4 : ∀ w ∈ u_ws RX4 TX4 6, w ∈ wsX4_close := by decide +kernel
set_option maxRecDepth 100000 in
theorem k_X4_close_f33 : Cond.fieldLink RX4 33 "FlexiblePolicy" "now" "LFlexiblePolicy$Standing;" ∈ wsX4_close := by decide +kernel
set_option maxRecDepth 100000 in
theorem k_X4_close_f26 : Cond.fieldLink RX4 26 "FlexiblePolicy" "history" "LFlexiblePolicy$History;" ∈ wsX4_close := by decide +kernel
set_option maxRecDepth 100000 in
theorem k_X4_close_xl44 : Cond.classLink RX4 44 nIAE ∈ wsX4_close := by decide +kernel
set_option maxRecDepth 100000 in
theorem k_X4_close_xi44 : Cond.initialized nIAE ∈ wsX4_close := by decide +kernel
set_option maxRecDepth 100000 in
theorem k_X4_close_xl78 : Cond.classLink RX4 78 nISE ∈ wsX4_close := by decide +kernel
set_option maxRecDepth 100000 in
theorem k_X4_close_xi78 : Cond.initialized nISE ∈ wsX4_close := by decide +kernel
theorem nd_X4_close : yX4_close.cls = RX4 ∧ yX4_close.cls ≠ "java/lang/invoke/MethodHandle" ∧ yX4_close.cls ≠ "java/lang/invoke/VarHandle" ∧ (parseMethodDescriptor yX4_close.desc).map (fun d => d.parameters.length) = some 1 := by decide +kernel
abbrev rm_X4_close : Room := { frames := 6, cells := 1, slots := 6, locals := 95 }
set_option maxHeartbeats 4000000 in
set_option maxRecDepth 100000 in
theorem c_X4_close (l : Launch) (hst : l.stackTraces = false) (G : GG) (h : Nat → Nat) (q : S3) (v : S7) (y1 : (Nat → Int32)) (y2 : (Nat → Int32)) (y3 : (Nat → Int32)) (y4 : (Nat → Int32)) (y5 : (Nat → Int32)) (y6 : (Nat → Int32)) (y7 : (Nat → Int32)) (x : Int32) (np : Nat) (hp : np ≤ 120) : CX l G yX4_close wsX4_close rm_X4_close [.ref (h 0), .int x] [cF h (nI np), cP (h 1) q, cS (h 4) v, cH h, aI G (h 11) 121 y1, aI G (h 12) 121 y2, aI G (h 13) 121 y3, aI G (h 14) 121 y4, aI G (h 15) 121 y5, aI G (h 16) 121 y6, aI G (h 17) 121 y7] ((F_X4_close q v y1 y2 y3 y4 y5 y6 y7 x np).1) ((F_X4_close q v y1 y2 y3 y4 y5 y6 y7 x np).2.1) [cF h ((F_X4_close q v y1 y2 y3 y4 y5 y6 y7 x np).2.2.1), cP (h 1) q, cS (h 4) ((F_X4_close q v y1 y2 y3 y4 y5 y6 y7 x np).2.2.2.1), cH h, aI G (h 11) 121 ((F_X4_close q v y1 y2 y3 y4 y5 y6 y7 x np).2.2.2.2.1), aI G (h 12) 121 ((F_X4_close q v y1 y2 y3 y4 y5 y6 y7 x np).2.2.2.2.2.1), aI G (h 13) 121 ((F_X4_close q v y1 y2 y3 y4 y5 y6 y7 x np).2.2.2.2.2.2.1), aI G (h 14) 121 ((F_X4_close q v y1 y2 y3 y4 y5 y6 y7 x np).2.2.2.2.2.2.2.1), aI G (h 15) 121 ((F_X4_close q v y1 y2 y3 y4 y5 y6 y7 x np).2.2.2.2.2.2.2.2.1), aI G (h 16) 121 ((F_X4_close q v y1 y2 y3 y4 y5 y6 y7 x np).2.2.2.2.2.2.2.2.2.1), aI G (h 17) 121 ((F_X4_close q v y1 y2 y3 y4 y5 y6 y7 x np).2.2.2.2.2.2.2.2.2.2)] [(1, nIAE), (2, nISE)] := by
  refine CX_of (own := RX4) (by decide +kernel) rfl rfl (Nat.le_of_ble_eq_true rfl) ?_
  intro pP eE sS mM args below meth cC A S hK hr hlk hex hXE hXZ hW ls hl
  have hx := S.1
  have hb := S.2.1
  have hl : lv_has ls 3 [(0, .ref (h 0)), (1, .int x)] := hl
  have hW : Wd G A sS.heap [cF h (nI np), cP (h 1) q, cS (h 4) v, cH h, aI G (h 11) 121 y1, aI G (h 12) 121 y2, aI G (h 13) 121 y3, aI G (h 14) 121 y4, aI G (h 15) 121 y5, aI G (h 16) 121 y6, aI G (h 17) 121 y7] sS.heap [] := hW
  have key : ∀ (d i : Nat) (v9 : S7) (y19 : (Nat → Int32)) (y29 : (Nat → Int32)) (y39 : (Nat → Int32)) (y49 : (Nat → Int32)) (y59 : (Nat → Int32)) (y69 : (Nat → Int32)) (y79 : (Nat → Int32)), x = nI x.toNatClampNeg → np + x.toNatClampNeg ≤ 120 → i + d = x.toNatClampNeg → Lp_X4_close q np d i v9 y19 y29 y39 y49 y59 y69 y79 = (F_X4_close q v y1 y2 y3 y4 y5 y6 y7 x np) → ∀ (H : Heap) (locs : List Loc) (ls : Array Slot), Wd G A sS.heap [cF h (nI (np + i)), cP (h 1) q, cS (h 4) v9, cH h, aI G (h 11) 121 y19, aI G (h 12) 121 y29, aI G (h 13) 121 y39, aI G (h 14) 121 y49, aI G (h 15) 121 y59, aI G (h 16) 121 y69, aI G (h 17) 121 y79] H locs → lv_has ls 3 [(2, .int (nI i)), (0, .ref (h 0)), (1, .int x)] → W pP l eE rm_X4_close sS mM args below meth cC H locs 0 0 (vx_MQ below (QXI G A ((F_X4_close q v y1 y2 y3 y4 y5 y6 y7 x np).1) ((F_X4_close q v y1 y2 y3 y4 y5 y6 y7 x np).2.1) [cF h ((F_X4_close q v y1 y2 y3 y4 y5 y6 y7 x np).2.2.1), cP (h 1) q, cS (h 4) ((F_X4_close q v y1 y2 y3 y4 y5 y6 y7 x np).2.2.2.1), cH h, aI G (h 11) 121 ((F_X4_close q v y1 y2 y3 y4 y5 y6 y7 x np).2.2.2.2.1), aI G (h 12) 121 ((F_X4_close q v y1 y2 y3 y4 y5 y6 y7 x np).2.2.2.2.2.1), aI G (h 13) 121 ((F_X4_close q v y1 y2 y3 y4 y5 y6 y7 x np).2.2.2.2.2.2.1), aI G (h 14) 121 ((F_X4_close q v y1 y2 y3 y4 y5 y6 y7 x np).2.2.2.2.2.2.2.1), aI G (h 15) 121 ((F_X4_close q v y1 y2 y3 y4 y5 y6 y7 x np).2.2.2.2.2.2.2.2.1), aI G (h 16) 121 ((F_X4_close q v y1 y2 y3 y4 y5 y6 y7 x np).2.2.2.2.2.2.2.2.2.1), aI G (h 17) 121 ((F_X4_close q v y1 y2 y3 y4 y5 y6 y7 x np).2.2.2.2.2.2.2.2.2.2)]) (XQ G A ((F_X4_close q v y1 y2 y3 y4 y5 y6 y7 x np).1) [cF h (nI np), cP (h 1) q, cS (h 4) v, cH h, aI G (h 11) 121 y1, aI G (h 12) 121 y2, aI G (h 13) 121 y3, aI G (h 14) 121 y4, aI G (h 15) 121 y5, aI G (h 16) 121 y6, aI G (h 17) 121 y7] [(1, nIAE), (2, nISE)]) args sS 1 6 A) (F0 mM 44 ls []) := by
    intro d
    induction d with
    | zero =>
      intro i v9 y19 y29 y39 y49 y59 y69 y79 hx0 hx1 hi hF H locs ls hW hl
      have hc : x ≤ nI i := by rw [hx0]; exact nI_le (by omega) (by omega)
      refine lv_iload_n hx hb dX4_close_44 rfl (lv_at hl 0 rfl) ?_
      refine lv_iload_n hx hb dX4_close_45 rfl (lv_at hl 2 rfl) ?_
      refine lv_icmp_ge (tgt := 92) hx hb dX4_close_46 (by decide) (fun c_1 => ?_) (fun c_1 => ?_)
      ·
        refine lv_aload_n hx hb dX4_close_92 rfl (lv_at hl 1 rfl) ?_
        refine k_get (C := RX4) (T := TX4) (N := 6) (ci := 4) (v := .int (nI (np + i))) S hK hW k_X4_close_in4 0 5 rfl rfl (by decide) k_X4_close_f40 rfl dX4_close_93 ?_
        have eF : (F_X4_close q v y1 y2 y3 y4 y5 y6 y7 x np) = (0, nI (np + i), nI (np + i), v9, y19, y29, y39, y49, y59, y69, y79) := hF.symm.trans (by
          rw [Lp_X4_close])
        exact kx_iret (wf := [cF h (nI (np + i)), cP (h 1) q, cS (h 4) v9, cH h, aI G (h 11) 121 y19, aI G (h 12) 121 y29, aI G (h 13) 121 y39, aI G (h 14) 121 y49, aI G (h 15) 121 y59, aI G (h 16) 121 y69, aI G (h 17) 121 y79]) S hr hlk hK hW [0, 1, 2, 3, 4, 5, 6, 7, 8, 9, 10] rfl rfl (congrArg (fun (z : Int32 × Int32 × Int32 × S7 × (Nat → Int32) × (Nat → Int32) × (Nat → Int32) × (Nat → Int32) × (Nat → Int32) × (Nat → Int32) × (Nat → Int32)) => [cF h z.2.2.1, cP (h 1) q, cS (h 4) z.2.2.2.1, cH h, aI G (h 11) 121 z.2.2.2.2.1, aI G (h 12) 121 z.2.2.2.2.2.1, aI G (h 13) 121 z.2.2.2.2.2.2.1, aI G (h 14) 121 z.2.2.2.2.2.2.2.1, aI G (h 15) 121 z.2.2.2.2.2.2.2.2.1, aI G (h 16) 121 z.2.2.2.2.2.2.2.2.2.1, aI G (h 17) 121 z.2.2.2.2.2.2.2.2.2.2]) eF).symm (congrArg (fun (z : Int32 × Int32 × Int32 × S7 × (Nat → Int32) × (Nat → Int32) × (Nat → Int32) × (Nat → Int32) × (Nat → Int32) × (Nat → Int32) × (Nat → Int32)) => z.2.1) eF).symm (congrArg (fun (z : Int32 × Int32 × Int32 × S7 × (Nat → Int32) × (Nat → Int32) × (Nat → Int32) × (Nat → Int32) × (Nat → Int32) × (Nat → Int32) × (Nat → Int32)) => z.1) eF) rfl rfl dX4_close_96
      ·
        exact absurd hc c_1
    | succ d ih =>
      intro i v9 y19 y29 y39 y49 y59 y69 y79 hx0 hx1 hi hF H locs ls hW hl
      have hc : ¬ x ≤ nI i := by rw [hx0]; exact nI_ge (by omega) (by omega)
      refine lv_iload_n hx hb dX4_close_44 rfl (lv_at hl 0 rfl) ?_
      refine lv_iload_n hx hb dX4_close_45 rfl (lv_at hl 2 rfl) ?_
      refine lv_icmp_ge (tgt := 92) hx hb dX4_close_46 (by decide) (fun c_2 => ?_) (fun c_2 => ?_)
      ·
        exact absurd c_2 hc
      ·
        refine lv_aload_n hx hb dX4_close_49 rfl (lv_at hl 1 rfl) ?_
        refine lv_aload_n hx hb dX4_close_50 rfl (lv_at hl 1 rfl) ?_
        refine k_get (C := RX4) (T := TX4) (N := 6) (ci := 4) (v := .int (nI (np + i))) S hK hW k_X4_close_in4 0 5 rfl rfl (by decide) k_X4_close_f40 rfl dX4_close_51 ?_
        refine lv_aload_n hx hb dX4_close_54 rfl (lv_at hl 1 rfl) ?_
        refine k_get (C := RX4) (T := TX4) (N := 6) (ci := 4) (v := .ref (h 4)) S hK hW k_X4_close_in4 0 3 rfl rfl (by decide) k_X4_close_f33 rfl dX4_close_55 ?_
        refine k_callVv (C := RX4) (As := [.int (nI (np + i)), .ref (h 4)]) (rest := []) (wr := [cH h, aI G (h 11) 121 y19, aI G (h 12) 121 y29, aI G (h 13) 121 y39, aI G (h 14) 121 y49, aI G (h 15) 121 y59, aI G (h 16) 121 y69, aI G (h 17) 121 y79]) (c_X4_endMonth l G h (h 4) (nI (np + i)) q v9 (nI (np + i))) S hK hW gX4_close_X4_endMonth rfl ⟨rfl, rfl⟩ nd_X4_endMonth ⟨rfl, rfl⟩ (qb := 0) (ci := 4) rfl rfl [0, 1, 2] [3, 4, 5, 6, 7, 8, 9, 10] rfl rfl rfl rfl (by decide) rfl hl.1 rfl dX4_close_58 ⟨Nat.zero_le _, Nat.zero_le _⟩ (fun H locs hW => ?_)
        have hW : Wd G A sS.heap [cH h, aI G (h 11) 121 y19, aI G (h 12) 121 y29, aI G (h 13) 121 y39, aI G (h 14) 121 y49, aI G (h 15) 121 y59, aI G (h 16) 121 y69, aI G (h 17) 121 y79, cF h (nI (np + i)), cP (h 1) q, cS (h 4) (F_X4_endMonth q v9 (nI (np + i)))] H locs := hW
        refine lv_aload_n hx hb dX4_close_61 rfl (lv_at hl 1 rfl) ?_
        refine lv_dup hx hb dX4_close_62 rfl ?_
        refine k_get (C := RX4) (T := TX4) (N := 6) (ci := 4) (v := .int (nI (np + i))) S hK hW k_X4_close_in4 8 5 rfl rfl (by decide) k_X4_close_f40 rfl dX4_close_63 ?_
        refine lv_iconst (v := 1) hx hb dX4_close_66 (by decide) ?_
        refine lv_iadd hx hb dX4_close_67 ?_
        refine k_put (C := RX4) (T := TX4) (N := 6) (ci := 4) (v := .int (nI (np + i) + 1)) (ws' := [cH h, aI G (h 11) 121 y19, aI G (h 12) 121 y29, aI G (h 13) 121 y39, aI G (h 14) 121 y49, aI G (h 15) 121 y59, aI G (h 16) 121 y69, aI G (h 17) 121 y79, cF h (nI (np + i) + 1), cP (h 1) q, cS (h 4) (F_X4_endMonth q v9 (nI (np + i)))]) S hK hW k_X4_close_in4 tyX4_ok nmX4 8 5 rfl rfl (by decide) k_X4_close_f40 rfl rfl rfl rfl rfl dX4_close_68 (fun H locs hW => ?_)
        refine lv_aload_n hx hb dX4_close_71 rfl (lv_at hl 1 rfl) ?_
        refine k_get (C := RX4) (T := TX4) (N := 6) (ci := 4) (v := .ref (h 3)) S hK hW k_X4_close_in4 8 2 rfl rfl (by decide) k_X4_close_f26 rfl dX4_close_72 ?_
        refine lv_aload_n hx hb dX4_close_75 rfl (lv_at hl 1 rfl) ?_
        refine k_get (C := RX4) (T := TX4) (N := 6) (ci := 4) (v := .int (nI (np + i) + 1)) S hK hW k_X4_close_in4 8 5 rfl rfl (by decide) k_X4_close_f40 rfl dX4_close_76 ?_
        refine lv_aload_n hx hb dX4_close_79 rfl (lv_at hl 1 rfl) ?_
        refine k_get (C := RX4) (T := TX4) (N := 6) (ci := 4) (v := .ref (h 4)) S hK hW k_X4_close_in4 8 3 rfl rfl (by decide) k_X4_close_f33 rfl dX4_close_80 ?_
        refine k_callVv (C := RX1) (As := [.int (nI (np + i) + 1), .ref (h 4)]) (rest := []) (wr := [cF h (nI (np + i) + 1), cP (h 1) q]) (c_X1_keep l G h (h 4) y19 y29 y39 y49 y59 y69 y79 (F_X4_endMonth q v9 (nI (np + i))) (nI (np + i) + 1)) S hK hW gX4_close_X1_keep rfl ⟨rfl, rfl⟩ nd_X1_keep ⟨rfl, rfl⟩ (qb := 0) (ci := 1) rfl rfl [0, 1, 2, 3, 4, 5, 6, 7, 10] [8, 9] rfl rfl rfl rfl (by decide) rfl hl.1 rfl dX4_close_83 ⟨Nat.zero_le _, Nat.zero_le _⟩ (fun H locs hW => ?_)
        have hW : Wd G A sS.heap [cF h (nI (np + i) + 1), cP (h 1) q, cH h, aI G (h 11) 121 ((F_X1_keep y19 y29 y39 y49 y59 y69 y79 (F_X4_endMonth q v9 (nI (np + i))) (nI (np + i) + 1)).1), aI G (h 12) 121 ((F_X1_keep y19 y29 y39 y49 y59 y69 y79 (F_X4_endMonth q v9 (nI (np + i))) (nI (np + i) + 1)).2.1), aI G (h 13) 121 ((F_X1_keep y19 y29 y39 y49 y59 y69 y79 (F_X4_endMonth q v9 (nI (np + i))) (nI (np + i) + 1)).2.2.1), aI G (h 14) 121 ((F_X1_keep y19 y29 y39 y49 y59 y69 y79 (F_X4_endMonth q v9 (nI (np + i))) (nI (np + i) + 1)).2.2.2.1), aI G (h 15) 121 ((F_X1_keep y19 y29 y39 y49 y59 y69 y79 (F_X4_endMonth q v9 (nI (np + i))) (nI (np + i) + 1)).2.2.2.2.1), aI G (h 16) 121 ((F_X1_keep y19 y29 y39 y49 y59 y69 y79 (F_X4_endMonth q v9 (nI (np + i))) (nI (np + i) + 1)).2.2.2.2.2.1), aI G (h 17) 121 ((F_X1_keep y19 y29 y39 y49 y59 y69 y79 (F_X4_endMonth q v9 (nI (np + i))) (nI (np + i) + 1)).2.2.2.2.2.2), cS (h 4) (F_X4_endMonth q v9 (nI (np + i)))] H locs := hW
        have hW : Wd G A sS.heap [cF h (nI (np + i + 1)), cP (h 1) q, cH h, aI G (h 11) 121 ((F_X1_keep y19 y29 y39 y49 y59 y69 y79 (F_X4_endMonth q v9 (nI (np + i))) (nI (np + i) + 1)).1), aI G (h 12) 121 ((F_X1_keep y19 y29 y39 y49 y59 y69 y79 (F_X4_endMonth q v9 (nI (np + i))) (nI (np + i) + 1)).2.1), aI G (h 13) 121 ((F_X1_keep y19 y29 y39 y49 y59 y69 y79 (F_X4_endMonth q v9 (nI (np + i))) (nI (np + i) + 1)).2.2.1), aI G (h 14) 121 ((F_X1_keep y19 y29 y39 y49 y59 y69 y79 (F_X4_endMonth q v9 (nI (np + i))) (nI (np + i) + 1)).2.2.2.1), aI G (h 15) 121 ((F_X1_keep y19 y29 y39 y49 y59 y69 y79 (F_X4_endMonth q v9 (nI (np + i))) (nI (np + i) + 1)).2.2.2.2.1), aI G (h 16) 121 ((F_X1_keep y19 y29 y39 y49 y59 y69 y79 (F_X4_endMonth q v9 (nI (np + i))) (nI (np + i) + 1)).2.2.2.2.2.1), aI G (h 17) 121 ((F_X1_keep y19 y29 y39 y49 y59 y69 y79 (F_X4_endMonth q v9 (nI (np + i))) (nI (np + i) + 1)).2.2.2.2.2.2), cS (h 4) (F_X4_endMonth q v9 (nI (np + i)))] H locs := by rw [← nI_1]; exact hW
        refine lv_iinc (v := (nI i + 1)) (lv' := [(2, .int (nI i + 1)), (0, .ref (h 0)), (1, .int x)]) hx hb dX4_close_86 hl (k := 0) rfl rfl (by decide) rfl (fun ls hl => ?_)
        refine lv_goto (tgt := 44) hx hb dX4_close_89 (by decide) ?_
        have eS : Lp_X4_close q np (d + 1) i v9 y19 y29 y39 y49 y59 y69 y79 = Lp_X4_close q np d (i + 1) (F_X4_endMonth q v9 (nI (np + i))) ((F_X1_keep y19 y29 y39 y49 y59 y69 y79 (F_X4_endMonth q v9 (nI (np + i))) (nI (np + i) + 1)).1) ((F_X1_keep y19 y29 y39 y49 y59 y69 y79 (F_X4_endMonth q v9 (nI (np + i))) (nI (np + i) + 1)).2.1) ((F_X1_keep y19 y29 y39 y49 y59 y69 y79 (F_X4_endMonth q v9 (nI (np + i))) (nI (np + i) + 1)).2.2.1) ((F_X1_keep y19 y29 y39 y49 y59 y69 y79 (F_X4_endMonth q v9 (nI (np + i))) (nI (np + i) + 1)).2.2.2.1) ((F_X1_keep y19 y29 y39 y49 y59 y69 y79 (F_X4_endMonth q v9 (nI (np + i))) (nI (np + i) + 1)).2.2.2.2.1) ((F_X1_keep y19 y29 y39 y49 y59 y69 y79 (F_X4_endMonth q v9 (nI (np + i))) (nI (np + i) + 1)).2.2.2.2.2.1) ((F_X1_keep y19 y29 y39 y49 y59 y69 y79 (F_X4_endMonth q v9 (nI (np + i))) (nI (np + i) + 1)).2.2.2.2.2.2) := by
          rw [Lp_X4_close]
        have hl : lv_has ls 3 [(2, .int (nI (i + 1))), (0, .ref (h 0)), (1, .int x)] := by
          first | exact lv_sub hl [0, 1, 2] rfl | (rw [← nI_1]; exact lv_sub hl [0, 1, 2] rfl)
        exact ih (i + 1) (F_X4_endMonth q v9 (nI (np + i))) ((F_X1_keep y19 y29 y39 y49 y59 y69 y79 (F_X4_endMonth q v9 (nI (np + i))) (nI (np + i) + 1)).1) ((F_X1_keep y19 y29 y39 y49 y59 y69 y79 (F_X4_endMonth q v9 (nI (np + i))) (nI (np + i) + 1)).2.1) ((F_X1_keep y19 y29 y39 y49 y59 y69 y79 (F_X4_endMonth q v9 (nI (np + i))) (nI (np + i) + 1)).2.2.1) ((F_X1_keep y19 y29 y39 y49 y59 y69 y79 (F_X4_endMonth q v9 (nI (np + i))) (nI (np + i) + 1)).2.2.2.1) ((F_X1_keep y19 y29 y39 y49 y59 y69 y79 (F_X4_endMonth q v9 (nI (np + i))) (nI (np + i) + 1)).2.2.2.2.1) ((F_X1_keep y19 y29 y39 y49 y59 y69 y79 (F_X4_endMonth q v9 (nI (np + i))) (nI (np + i) + 1)).2.2.2.2.2.1) ((F_X1_keep y19 y29 y39 y49 y59 y69 y79 (F_X4_endMonth q v9 (nI (np + i))) (nI (np + i) + 1)).2.2.2.2.2.2) hx0 hx1 (by omega) (eS.symm.trans hF) _ _ _ (hW.re [0, 1, 10, 2, 3, 4, 5, 6, 7, 8, 9] rfl rfl) hl
  refine lv_iload_n hx hb dX4_close_0 rfl (lv_at hl 1 rfl) ?_
  refine lv_iconst (v := 1) hx hb dX4_close_1 (by decide) ?_
  refine lv_icmp_lt (tgt := 11) hx hb dX4_close_2 (by decide) (fun c_3 => ?_) (fun c_3 => ?_)
  ·
    have eF : (F_X4_close q v y1 y2 y3 y4 y5 y6 y7 x np) = (1, 0, nI np, v, y1, y2, y3, y4, y5, y6, y7) := by
      unfold F_X4_close
      rw [if_pos c_3]
    obtain ⟨sa, hsa⟩ := hXE.2.2.2.2.2 (121, "1 to 24 months are closed at once") (by decide +kernel)
    have eK : ((F_X4_close q v y1 y2 y3 y4 y5 y6 y7 x np)).1 = 1 := congrArg (fun (z : Int32 × Int32 × Int32 × S7 × (Nat → Int32) × (Nat → Int32) × (Nat → Int32) × (Nat → Int32) × (Nat → Int32) × (Nat → Int32) × (Nat → Int32)) => z.1) eF
    exact kx_throw hst S hlk hex hXE hXZ hK hW [0, 1, 2, 3, 4, 5, 6, 7, 8, 9, 10] rfl rfl (ik := 44) (ix := 121) (ic := 48) (cls := nIAE) (by decide +kernel) k_X4_close_xl44 k_X4_close_xi44 hsa (fun _ h => List.mem_cons_of_mem _ (List.mem_append_left _ (List.mem_append_right _ h))) xb_nIAE hXE.1 xg_nIAE hl.1 dX4_close_11 dX4_close_14 dX4_close_15 dX4_close_17 dX4_close_20 rfl rfl rfl rfl rfl rfl ⟨(1, nIAE), List.mem_cons_self, eK, rfl⟩
  ·
    refine lv_iload_n hx hb dX4_close_5 rfl (lv_at hl 1 rfl) ?_
    refine lv_bipush (v := 24) hx hb dX4_close_6 (by decide) ?_
    refine lv_icmp_le (tgt := 21) hx hb dX4_close_8 (by decide) (fun c_4 => ?_) (fun c_4 => ?_)
    ·
      refine lv_aload_n hx hb dX4_close_21 rfl (lv_at hl 0 rfl) ?_
      refine k_get (C := RX4) (T := TX4) (N := 6) (ci := 4) (v := .int (nI np)) S hK hW k_X4_close_in4 0 5 rfl rfl (by decide) k_X4_close_f40 rfl dX4_close_22 ?_
      refine lv_iload_n hx hb dX4_close_25 rfl (lv_at hl 1 rfl) ?_
      refine lv_iadd hx hb dX4_close_26 ?_
      refine lv_bipush (v := 120) hx hb dX4_close_27 (by decide) ?_
      refine lv_icmp_le (tgt := 42) hx hb dX4_close_29 (by decide) (fun c_5 => ?_) (fun c_5 => ?_)
      ·
        have hx0 := (w_le (b := 24) (by omega) (by decide +kernel) c_3 c_4).1
        have hx1 : np + x.toNatClampNeg ≤ 120 := close_le hp (w_le (b := 24) (by omega) (by decide +kernel) c_3 c_4) c_5
        refine lv_iconst (v := 0) hx hb dX4_close_42 (by decide) ?_
        refine lv_istore_n (lv' := [(2, .int 0), (0, .ref (h 0)), (1, .int x)]) hx hb dX4_close_43 rfl hl (by decide) rfl (fun ls hl => ?_)
        have eF : (F_X4_close q v y1 y2 y3 y4 y5 y6 y7 x np) = Lp_X4_close q np x.toNatClampNeg 0 v y1 y2 y3 y4 y5 y6 y7 := by
          unfold F_X4_close
          rw [if_neg c_3, if_pos c_4, if_pos c_5]
        exact key x.toNatClampNeg 0 v y1 y2 y3 y4 y5 y6 y7 hx0 hx1 (by omega) eF.symm _ _ _ (hW.re [0, 1, 2, 3, 4, 5, 6, 7, 8, 9, 10] rfl rfl) (lv_sub hl [0, 1, 2] (by rw [nI_0] <;> rfl))
      ·
        have eF : (F_X4_close q v y1 y2 y3 y4 y5 y6 y7 x np) = (2, 0, nI np, v, y1, y2, y3, y4, y5, y6, y7) := by
          unfold F_X4_close
          rw [if_neg c_3, if_pos c_4, if_neg c_5]
        obtain ⟨sa, hsa⟩ := hXE.2.2.2.2.2 (123, "at most 120 months are closed") (by decide +kernel)
        have eK : ((F_X4_close q v y1 y2 y3 y4 y5 y6 y7 x np)).1 = 2 := congrArg (fun (z : Int32 × Int32 × Int32 × S7 × (Nat → Int32) × (Nat → Int32) × (Nat → Int32) × (Nat → Int32) × (Nat → Int32) × (Nat → Int32) × (Nat → Int32)) => z.1) eF
        exact kx_throw hst S hlk hex hXE hXZ hK hW [0, 1, 2, 3, 4, 5, 6, 7, 8, 9, 10] rfl rfl (ik := 78) (ix := 123) (ic := 82) (cls := nISE) (by decide +kernel) k_X4_close_xl78 k_X4_close_xi78 hsa (fun _ h => List.mem_cons_of_mem _ (List.mem_append_right _ h)) xb_nISE hXE.2.1 xg_nISE hl.1 dX4_close_32 dX4_close_35 dX4_close_36 dX4_close_38 dX4_close_41 rfl rfl rfl rfl rfl rfl ⟨(2, nISE), List.mem_cons_of_mem _ List.mem_cons_self, eK, rfl⟩
    ·
      have eF : (F_X4_close q v y1 y2 y3 y4 y5 y6 y7 x np) = (1, 0, nI np, v, y1, y2, y3, y4, y5, y6, y7) := by
        unfold F_X4_close
        rw [if_neg c_3, if_neg c_4]
      obtain ⟨sa, hsa⟩ := hXE.2.2.2.2.2 (121, "1 to 24 months are closed at once") (by decide +kernel)
      have eK : ((F_X4_close q v y1 y2 y3 y4 y5 y6 y7 x np)).1 = 1 := congrArg (fun (z : Int32 × Int32 × Int32 × S7 × (Nat → Int32) × (Nat → Int32) × (Nat → Int32) × (Nat → Int32) × (Nat → Int32) × (Nat → Int32) × (Nat → Int32)) => z.1) eF
      exact kx_throw hst S hlk hex hXE hXZ hK hW [0, 1, 2, 3, 4, 5, 6, 7, 8, 9, 10] rfl rfl (ik := 44) (ix := 121) (ic := 48) (cls := nIAE) (by decide +kernel) k_X4_close_xl44 k_X4_close_xi44 hsa (fun _ h => List.mem_cons_of_mem _ (List.mem_append_left _ (List.mem_append_right _ h))) xb_nIAE hXE.1 xg_nIAE hl.1 dX4_close_11 dX4_close_14 dX4_close_15 dX4_close_17 dX4_close_20 rfl rfl rfl rfl rfl rfl ⟨(1, nIAE), List.mem_cons_self, eK, rfl⟩
theorem has_k {n : Nat} {x : Int32} (hn : n ≤ 60) (h : ¬ bI (F_X0_has (nI n) x) = 0) : ∃ k : Nat, k < n ∧ x = nI k := by
  rw [nbI0] at h
  unfold F_X0_has at h
  split at h
  · cases h
  · rename_i h1
    split at h
    · cases h
    · rename_i h2
      obtain ⟨j, hj, rfl⟩ := nI_of h1
      refine ⟨j, ?_, rfl⟩
      rcases Nat.lt_or_ge j n with q | q
      · exact q
      · exact absurd (nI_le q hj) h2
theorem stands_has {n x : Int32} {sk : Nat → Bool} (h : ¬ bI (F_X0_stands n sk x) = 0) : ¬ bI (F_X0_has n x) = 0 := by
  intro q
  apply h
  unfold F_X0_stands
  rw [if_pos q]
  rfl
theorem strike_mo {n np : Nat} {x : Int32} {mo : Nat → Int32} {sk : Nat → Bool} (hn : n ≤ 60) (hmo : ∀ k, k < n → 0 ≤ mo k ∧ mo k ≤ nI np) (h : ¬ bI (F_X0_stands (nI n) sk x) = 0) : 0 ≤ F_X0_monthOf (nI n) mo x ∧ F_X0_monthOf (nI n) mo x ≤ nI np := by
  have hh := stands_has h
  obtain ⟨k, hk, rfl⟩ := has_k hn hh
  unfold F_X0_monthOf
  rw [if_neg hh, nI_clamp (by omega)]
  exact hmo k hk
def F_X4_strike (mo : (Nat → Int32)) (ki : (Nat → Int32)) (am : (Nat → Int32)) (sk : (Nat → Bool)) (dn : (Nat → Bool)) (y1 : (Nat → Int32)) (y2 : (Nat → Int32)) (y3 : (Nat → Int32)) (y4 : (Nat → Int32)) (y5 : (Nat → Int32)) (y6 : (Nat → Int32)) (y7 : (Nat → Int32)) (q : S3) (v : S7) (x : Int32) (np : Nat) (n : Nat) : Int32 × Int32 × (Nat → Bool) × (Nat → Bool) × (Nat → Int32) × (Nat → Int32) × (Nat → Int32) × (Nat → Int32) × (Nat → Int32) × (Nat → Int32) × (Nat → Int32) × S7 :=
  if bI (F_X0_stands (nI n) sk x) = 0 then (1, 0, sk, dn, y1, y2, y3, y4, y5, y6, y7, v)
  else (0, (F_X0_monthOf (nI n) mo x), (F_X0_cross (nI n) sk x), (F_X4_workOutFrom mo ki am (F_X0_cross (nI n) sk x) dn y1 y2 y3 y4 y5 y6 y7 q v n np ((F_X0_monthOf (nI n) mo x).toNatClampNeg)).1, (F_X4_workOutFrom mo ki am (F_X0_cross (nI n) sk x) dn y1 y2 y3 y4 y5 y6 y7 q v n np ((F_X0_monthOf (nI n) mo x).toNatClampNeg)).2.1, (F_X4_workOutFrom mo ki am (F_X0_cross (nI n) sk x) dn y1 y2 y3 y4 y5 y6 y7 q v n np ((F_X0_monthOf (nI n) mo x).toNatClampNeg)).2.2.1, (F_X4_workOutFrom mo ki am (F_X0_cross (nI n) sk x) dn y1 y2 y3 y4 y5 y6 y7 q v n np ((F_X0_monthOf (nI n) mo x).toNatClampNeg)).2.2.2.1, (F_X4_workOutFrom mo ki am (F_X0_cross (nI n) sk x) dn y1 y2 y3 y4 y5 y6 y7 q v n np ((F_X0_monthOf (nI n) mo x).toNatClampNeg)).2.2.2.2.1, (F_X4_workOutFrom mo ki am (F_X0_cross (nI n) sk x) dn y1 y2 y3 y4 y5 y6 y7 q v n np ((F_X0_monthOf (nI n) mo x).toNatClampNeg)).2.2.2.2.2.1, (F_X4_workOutFrom mo ki am (F_X0_cross (nI n) sk x) dn y1 y2 y3 y4 y5 y6 y7 q v n np ((F_X0_monthOf (nI n) mo x).toNatClampNeg)).2.2.2.2.2.2.1, (F_X4_workOutFrom mo ki am (F_X0_cross (nI n) sk x) dn y1 y2 y3 y4 y5 y6 y7 q v n np ((F_X0_monthOf (nI n) mo x).toNatClampNeg)).2.2.2.2.2.2.2.1, ((F_X4_workOutFrom mo ki am (F_X0_cross (nI n) sk x) dn y1 y2 y3 y4 y5 y6 y7 q v n np ((F_X0_monthOf (nI n) mo x).toNatClampNeg)).2.2.2.2.2.2.2.2))
set_option maxRecDepth 100000 in
theorem k_X4_strike_f19 : Cond.fieldLink RX4 19 "FlexiblePolicy" "book" "LFlexiblePolicy$ActBook;" ∈ wsX4_strike := by decide +kernel
set_option maxRecDepth 100000 in
theorem k_X4_strike_in4 : ∀ w ∈ u_ws RX4 TX4 6, w ∈ wsX4_strike := by decide +kernel
set_option maxRecDepth 100000 in
theorem k_X4_strike_xl106 : Cond.classLink RX4 106 nIOB ∈ wsX4_strike := by decide +kernel
set_option maxRecDepth 100000 in
theorem k_X4_strike_xi106 : Cond.initialized nIOB ∈ wsX4_strike := by decide +kernel
theorem nd_X4_strike : yX4_strike.cls = RX4 ∧ yX4_strike.cls ≠ "java/lang/invoke/MethodHandle" ∧ yX4_strike.cls ≠ "java/lang/invoke/VarHandle" ∧ (parseMethodDescriptor yX4_strike.desc).map (fun d => d.parameters.length) = some 1 := by decide +kernel
abbrev rm_X4_strike : Room := { frames := 6, cells := 1, slots := 6, locals := 132 }
set_option maxHeartbeats 4000000 in
set_option maxRecDepth 100000 in
theorem c_X4_strike (l : Launch) (hst : l.stackTraces = false) (G : GG) (h : Nat → Nat) (mo : (Nat → Int32)) (ki : (Nat → Int32)) (am : (Nat → Int32)) (sk : (Nat → Bool)) (dn : (Nat → Bool)) (y1 : (Nat → Int32)) (y2 : (Nat → Int32)) (y3 : (Nat → Int32)) (y4 : (Nat → Int32)) (y5 : (Nat → Int32)) (y6 : (Nat → Int32)) (y7 : (Nat → Int32)) (q : S3) (v : S7) (x : Int32) (np : Nat) (n : Nat) (hn : n ≤ 60) (hp : np ≤ 120) (hmo : ∀ k, k < n → 0 ≤ mo k ∧ mo k ≤ nI np) : CX l G yX4_strike wsX4_strike rm_X4_strike [.ref (h 0), .int x] [cF h (nI np), cB h (nI n), aI G (h 6) 60 mo, aI G (h 7) 60 ki, aI G (h 8) 60 am, aZ G (h 9) 60 sk, aZ G (h 10) 60 dn, cH h, aI G (h 11) 121 y1, aI G (h 12) 121 y2, aI G (h 13) 121 y3, aI G (h 14) 121 y4, aI G (h 15) 121 y5, aI G (h 16) 121 y6, aI G (h 17) 121 y7, cP (h 1) q, cS (h 4) v] ((F_X4_strike mo ki am sk dn y1 y2 y3 y4 y5 y6 y7 q v x np n).1) ((F_X4_strike mo ki am sk dn y1 y2 y3 y4 y5 y6 y7 q v x np n).2.1) [cF h (nI np), cB h (nI n), aI G (h 6) 60 mo, aI G (h 7) 60 ki, aI G (h 8) 60 am, aZ G (h 9) 60 ((F_X4_strike mo ki am sk dn y1 y2 y3 y4 y5 y6 y7 q v x np n).2.2.1), aZ G (h 10) 60 ((F_X4_strike mo ki am sk dn y1 y2 y3 y4 y5 y6 y7 q v x np n).2.2.2.1), cH h, aI G (h 11) 121 ((F_X4_strike mo ki am sk dn y1 y2 y3 y4 y5 y6 y7 q v x np n).2.2.2.2.1), aI G (h 12) 121 ((F_X4_strike mo ki am sk dn y1 y2 y3 y4 y5 y6 y7 q v x np n).2.2.2.2.2.1), aI G (h 13) 121 ((F_X4_strike mo ki am sk dn y1 y2 y3 y4 y5 y6 y7 q v x np n).2.2.2.2.2.2.1), aI G (h 14) 121 ((F_X4_strike mo ki am sk dn y1 y2 y3 y4 y5 y6 y7 q v x np n).2.2.2.2.2.2.2.1), aI G (h 15) 121 ((F_X4_strike mo ki am sk dn y1 y2 y3 y4 y5 y6 y7 q v x np n).2.2.2.2.2.2.2.2.1), aI G (h 16) 121 ((F_X4_strike mo ki am sk dn y1 y2 y3 y4 y5 y6 y7 q v x np n).2.2.2.2.2.2.2.2.2.1), aI G (h 17) 121 ((F_X4_strike mo ki am sk dn y1 y2 y3 y4 y5 y6 y7 q v x np n).2.2.2.2.2.2.2.2.2.2.1), cP (h 1) q, cS (h 4) ((F_X4_strike mo ki am sk dn y1 y2 y3 y4 y5 y6 y7 q v x np n).2.2.2.2.2.2.2.2.2.2.2)] [(1, nIOB)] := by
  refine CX_of (own := RX4) (by decide +kernel) rfl rfl (Nat.le_of_ble_eq_true rfl) ?_
  intro pP eE sS mM args below meth cC A S hK hr hlk hex hXE hXZ hW ls hl
  have hx := S.1
  have hb := S.2.1
  have hl : lv_has ls 3 [(0, .ref (h 0)), (1, .int x)] := hl
  have hW : Wd G A sS.heap [cF h (nI np), cB h (nI n), aI G (h 6) 60 mo, aI G (h 7) 60 ki, aI G (h 8) 60 am, aZ G (h 9) 60 sk, aZ G (h 10) 60 dn, cH h, aI G (h 11) 121 y1, aI G (h 12) 121 y2, aI G (h 13) 121 y3, aI G (h 14) 121 y4, aI G (h 15) 121 y5, aI G (h 16) 121 y6, aI G (h 17) 121 y7, cP (h 1) q, cS (h 4) v] sS.heap [] := hW
  refine lv_aload_n hx hb dX4_strike_0 rfl (lv_at hl 0 rfl) ?_
  refine k_get (C := RX4) (T := TX4) (N := 6) (ci := 4) (v := .ref (h 2)) S hK hW k_X4_strike_in4 0 1 rfl rfl (by decide) k_X4_strike_f19 rfl dX4_strike_1 ?_
  refine lv_iload_n hx hb dX4_strike_4 rfl (lv_at hl 1 rfl) ?_
  refine k_callVi (C := RX0) (As := [.int x]) (rest := []) (wr := [cF h (nI np), aI G (h 6) 60 mo, aI G (h 7) 60 ki, aI G (h 8) 60 am, aZ G (h 10) 60 dn, cH h, aI G (h 11) 121 y1, aI G (h 12) 121 y2, aI G (h 13) 121 y3, aI G (h 14) 121 y4, aI G (h 15) 121 y5, aI G (h 16) 121 y6, aI G (h 17) 121 y7, cP (h 1) q, cS (h 4) v]) (c_X0_stands l G h (nI n) sk x) S hK hW gX4_strike_X0_stands rfl ⟨rfl, rfl⟩ nd_X0_stands ⟨rfl, rfl⟩ (qb := 1) (ci := 0) rfl rfl [1, 5] [0, 2, 3, 4, 6, 7, 8, 9, 10, 11, 12, 13, 14, 15, 16] rfl rfl rfl rfl (by decide) rfl hl.1 rfl dX4_strike_5 ⟨Nat.zero_le _, Nat.zero_le _⟩ (fun H locs hW => ?_)
  have hW : Wd G A sS.heap [cF h (nI np), aI G (h 6) 60 mo, aI G (h 7) 60 ki, aI G (h 8) 60 am, aZ G (h 10) 60 dn, cH h, aI G (h 11) 121 y1, aI G (h 12) 121 y2, aI G (h 13) 121 y3, aI G (h 14) 121 y4, aI G (h 15) 121 y5, aI G (h 16) 121 y6, aI G (h 17) 121 y7, cP (h 1) q, cS (h 4) v, cB h (nI n), aZ G (h 9) 60 sk] H locs := hW
  refine lv_if_ne (tgt := 21) hx hb dX4_strike_8 (by decide) (fun c_1 => ?_) (fun c_1 => ?_)
  ·
    refine lv_aload_n hx hb dX4_strike_21 rfl (lv_at hl 0 rfl) ?_
    refine k_get (C := RX4) (T := TX4) (N := 6) (ci := 4) (v := .ref (h 2)) S hK hW k_X4_strike_in4 0 1 rfl rfl (by decide) k_X4_strike_f19 rfl dX4_strike_22 ?_
    refine lv_iload_n hx hb dX4_strike_25 rfl (lv_at hl 1 rfl) ?_
    refine k_callVi (C := RX0) (As := [.int x]) (rest := []) (wr := [cF h (nI np), aI G (h 7) 60 ki, aI G (h 8) 60 am, aZ G (h 10) 60 dn, cH h, aI G (h 11) 121 y1, aI G (h 12) 121 y2, aI G (h 13) 121 y3, aI G (h 14) 121 y4, aI G (h 15) 121 y5, aI G (h 16) 121 y6, aI G (h 17) 121 y7, cP (h 1) q, cS (h 4) v, aZ G (h 9) 60 sk]) (c_X0_monthOf l G h (nI n) mo x) S hK hW gX4_strike_X0_monthOf rfl ⟨rfl, rfl⟩ nd_X0_monthOf ⟨rfl, rfl⟩ (qb := 15) (ci := 0) rfl rfl [15, 1] [0, 2, 3, 4, 5, 6, 7, 8, 9, 10, 11, 12, 13, 14, 16] rfl rfl rfl rfl (by decide) rfl hl.1 rfl dX4_strike_26 ⟨Nat.zero_le _, Nat.zero_le _⟩ (fun H locs hW => ?_)
    have hW : Wd G A sS.heap [cF h (nI np), aI G (h 7) 60 ki, aI G (h 8) 60 am, aZ G (h 10) 60 dn, cH h, aI G (h 11) 121 y1, aI G (h 12) 121 y2, aI G (h 13) 121 y3, aI G (h 14) 121 y4, aI G (h 15) 121 y5, aI G (h 16) 121 y6, aI G (h 17) 121 y7, cP (h 1) q, cS (h 4) v, aZ G (h 9) 60 sk, cB h (nI n), aI G (h 6) 60 mo] H locs := hW
    refine lv_istore_n (lv' := [(2, .int (F_X0_monthOf (nI n) mo x)), (0, .ref (h 0)), (1, .int x)]) hx hb dX4_strike_29 rfl hl (by decide) rfl (fun ls hl => ?_)
    refine lv_aload_n hx hb dX4_strike_30 rfl (lv_at hl 1 rfl) ?_
    refine k_get (C := RX4) (T := TX4) (N := 6) (ci := 4) (v := .ref (h 2)) S hK hW k_X4_strike_in4 0 1 rfl rfl (by decide) k_X4_strike_f19 rfl dX4_strike_31 ?_
    refine lv_iload_n hx hb dX4_strike_34 rfl (lv_at hl 2 rfl) ?_
    refine k_callVv (C := RX0) (As := [.int x]) (rest := []) (wr := [cF h (nI np), aI G (h 7) 60 ki, aI G (h 8) 60 am, aZ G (h 10) 60 dn, cH h, aI G (h 11) 121 y1, aI G (h 12) 121 y2, aI G (h 13) 121 y3, aI G (h 14) 121 y4, aI G (h 15) 121 y5, aI G (h 16) 121 y6, aI G (h 17) 121 y7, cP (h 1) q, cS (h 4) v, aI G (h 6) 60 mo]) (c_X0_cross l G h (nI n) sk x) S hK hW gX4_strike_X0_cross rfl ⟨rfl, rfl⟩ nd_X0_cross ⟨rfl, rfl⟩ (qb := 15) (ci := 0) rfl rfl [15, 14] [0, 1, 2, 3, 4, 5, 6, 7, 8, 9, 10, 11, 12, 13, 16] rfl rfl rfl rfl (by decide) rfl hl.1 rfl dX4_strike_35 ⟨Nat.zero_le _, Nat.zero_le _⟩ (fun H locs hW => ?_)
    have hW : Wd G A sS.heap [cF h (nI np), aI G (h 7) 60 ki, aI G (h 8) 60 am, aZ G (h 10) 60 dn, cH h, aI G (h 11) 121 y1, aI G (h 12) 121 y2, aI G (h 13) 121 y3, aI G (h 14) 121 y4, aI G (h 15) 121 y5, aI G (h 16) 121 y6, aI G (h 17) 121 y7, cP (h 1) q, cS (h 4) v, aI G (h 6) 60 mo, cB h (nI n), aZ G (h 9) 60 (F_X0_cross (nI n) sk x)] H locs := hW
    refine lv_aload_n hx hb dX4_strike_38 rfl (lv_at hl 1 rfl) ?_
    refine lv_iload_n hx hb dX4_strike_39 rfl (lv_at hl 0 rfl) ?_
    have hz := strike_mo hn hmo c_1
    have hy : (F_X0_monthOf (nI n) mo x).toNatClampNeg ≤ np := cl_le (by omega) hz.1 hz.2
    refine W.eq (g2 := F0 mM 40 ls [.int (nI (F_X0_monthOf (nI n) mo x).toNatClampNeg), .ref (h 0)]) (by rw [← cl_of hz.1]) ?_
    refine k_callVv (C := RX4) (As := [.int (nI (F_X0_monthOf (nI n) mo x).toNatClampNeg)]) (rest := []) (wr := []) (c_X4_workOutFrom l G h mo ki am (F_X0_cross (nI n) sk x) dn y1 y2 y3 y4 y5 y6 y7 q v n np ((F_X0_monthOf (nI n) mo x).toNatClampNeg) (by omega) (by omega) (by omega)) S hK hW gX4_strike_X4_workOutFrom rfl ⟨rfl, rfl⟩ nd_X4_workOutFrom ⟨rfl, rfl⟩ (qb := 0) (ci := 4) rfl rfl [0, 15, 14, 1, 2, 16, 3, 4, 5, 6, 7, 8, 9, 10, 11, 12, 13] [] rfl rfl rfl rfl (by decide) rfl hl.1 rfl dX4_strike_40 ⟨Nat.zero_le _, Nat.zero_le _⟩ (fun H locs hW => ?_)
    have hW : Wd G A sS.heap [cF h (nI np), cB h (nI n), aI G (h 6) 60 mo, aI G (h 7) 60 ki, aI G (h 8) 60 am, aZ G (h 9) 60 (F_X0_cross (nI n) sk x), aZ G (h 10) 60 ((F_X4_workOutFrom mo ki am (F_X0_cross (nI n) sk x) dn y1 y2 y3 y4 y5 y6 y7 q v n np ((F_X0_monthOf (nI n) mo x).toNatClampNeg)).1), cH h, aI G (h 11) 121 ((F_X4_workOutFrom mo ki am (F_X0_cross (nI n) sk x) dn y1 y2 y3 y4 y5 y6 y7 q v n np ((F_X0_monthOf (nI n) mo x).toNatClampNeg)).2.1), aI G (h 12) 121 ((F_X4_workOutFrom mo ki am (F_X0_cross (nI n) sk x) dn y1 y2 y3 y4 y5 y6 y7 q v n np ((F_X0_monthOf (nI n) mo x).toNatClampNeg)).2.2.1), aI G (h 13) 121 ((F_X4_workOutFrom mo ki am (F_X0_cross (nI n) sk x) dn y1 y2 y3 y4 y5 y6 y7 q v n np ((F_X0_monthOf (nI n) mo x).toNatClampNeg)).2.2.2.1), aI G (h 14) 121 ((F_X4_workOutFrom mo ki am (F_X0_cross (nI n) sk x) dn y1 y2 y3 y4 y5 y6 y7 q v n np ((F_X0_monthOf (nI n) mo x).toNatClampNeg)).2.2.2.2.1), aI G (h 15) 121 ((F_X4_workOutFrom mo ki am (F_X0_cross (nI n) sk x) dn y1 y2 y3 y4 y5 y6 y7 q v n np ((F_X0_monthOf (nI n) mo x).toNatClampNeg)).2.2.2.2.2.1), aI G (h 16) 121 ((F_X4_workOutFrom mo ki am (F_X0_cross (nI n) sk x) dn y1 y2 y3 y4 y5 y6 y7 q v n np ((F_X0_monthOf (nI n) mo x).toNatClampNeg)).2.2.2.2.2.2.1), aI G (h 17) 121 ((F_X4_workOutFrom mo ki am (F_X0_cross (nI n) sk x) dn y1 y2 y3 y4 y5 y6 y7 q v n np ((F_X0_monthOf (nI n) mo x).toNatClampNeg)).2.2.2.2.2.2.2.1), cP (h 1) q, cS (h 4) ((F_X4_workOutFrom mo ki am (F_X0_cross (nI n) sk x) dn y1 y2 y3 y4 y5 y6 y7 q v n np ((F_X0_monthOf (nI n) mo x).toNatClampNeg)).2.2.2.2.2.2.2.2)] H locs := hW
    refine lv_iload_n hx hb dX4_strike_43 rfl (lv_at hl 0 rfl) ?_
    have eF : (F_X4_strike mo ki am sk dn y1 y2 y3 y4 y5 y6 y7 q v x np n) = (0, (F_X0_monthOf (nI n) mo x), (F_X0_cross (nI n) sk x), (F_X4_workOutFrom mo ki am (F_X0_cross (nI n) sk x) dn y1 y2 y3 y4 y5 y6 y7 q v n np ((F_X0_monthOf (nI n) mo x).toNatClampNeg)).1, (F_X4_workOutFrom mo ki am (F_X0_cross (nI n) sk x) dn y1 y2 y3 y4 y5 y6 y7 q v n np ((F_X0_monthOf (nI n) mo x).toNatClampNeg)).2.1, (F_X4_workOutFrom mo ki am (F_X0_cross (nI n) sk x) dn y1 y2 y3 y4 y5 y6 y7 q v n np ((F_X0_monthOf (nI n) mo x).toNatClampNeg)).2.2.1, (F_X4_workOutFrom mo ki am (F_X0_cross (nI n) sk x) dn y1 y2 y3 y4 y5 y6 y7 q v n np ((F_X0_monthOf (nI n) mo x).toNatClampNeg)).2.2.2.1, (F_X4_workOutFrom mo ki am (F_X0_cross (nI n) sk x) dn y1 y2 y3 y4 y5 y6 y7 q v n np ((F_X0_monthOf (nI n) mo x).toNatClampNeg)).2.2.2.2.1, (F_X4_workOutFrom mo ki am (F_X0_cross (nI n) sk x) dn y1 y2 y3 y4 y5 y6 y7 q v n np ((F_X0_monthOf (nI n) mo x).toNatClampNeg)).2.2.2.2.2.1, (F_X4_workOutFrom mo ki am (F_X0_cross (nI n) sk x) dn y1 y2 y3 y4 y5 y6 y7 q v n np ((F_X0_monthOf (nI n) mo x).toNatClampNeg)).2.2.2.2.2.2.1, (F_X4_workOutFrom mo ki am (F_X0_cross (nI n) sk x) dn y1 y2 y3 y4 y5 y6 y7 q v n np ((F_X0_monthOf (nI n) mo x).toNatClampNeg)).2.2.2.2.2.2.2.1, ((F_X4_workOutFrom mo ki am (F_X0_cross (nI n) sk x) dn y1 y2 y3 y4 y5 y6 y7 q v n np ((F_X0_monthOf (nI n) mo x).toNatClampNeg)).2.2.2.2.2.2.2.2)) := by
      unfold F_X4_strike
      rw [if_neg c_1]
    exact kx_iret (wf := [cF h (nI np), cB h (nI n), aI G (h 6) 60 mo, aI G (h 7) 60 ki, aI G (h 8) 60 am, aZ G (h 9) 60 (F_X0_cross (nI n) sk x), aZ G (h 10) 60 ((F_X4_workOutFrom mo ki am (F_X0_cross (nI n) sk x) dn y1 y2 y3 y4 y5 y6 y7 q v n np ((F_X0_monthOf (nI n) mo x).toNatClampNeg)).1), cH h, aI G (h 11) 121 ((F_X4_workOutFrom mo ki am (F_X0_cross (nI n) sk x) dn y1 y2 y3 y4 y5 y6 y7 q v n np ((F_X0_monthOf (nI n) mo x).toNatClampNeg)).2.1), aI G (h 12) 121 ((F_X4_workOutFrom mo ki am (F_X0_cross (nI n) sk x) dn y1 y2 y3 y4 y5 y6 y7 q v n np ((F_X0_monthOf (nI n) mo x).toNatClampNeg)).2.2.1), aI G (h 13) 121 ((F_X4_workOutFrom mo ki am (F_X0_cross (nI n) sk x) dn y1 y2 y3 y4 y5 y6 y7 q v n np ((F_X0_monthOf (nI n) mo x).toNatClampNeg)).2.2.2.1), aI G (h 14) 121 ((F_X4_workOutFrom mo ki am (F_X0_cross (nI n) sk x) dn y1 y2 y3 y4 y5 y6 y7 q v n np ((F_X0_monthOf (nI n) mo x).toNatClampNeg)).2.2.2.2.1), aI G (h 15) 121 ((F_X4_workOutFrom mo ki am (F_X0_cross (nI n) sk x) dn y1 y2 y3 y4 y5 y6 y7 q v n np ((F_X0_monthOf (nI n) mo x).toNatClampNeg)).2.2.2.2.2.1), aI G (h 16) 121 ((F_X4_workOutFrom mo ki am (F_X0_cross (nI n) sk x) dn y1 y2 y3 y4 y5 y6 y7 q v n np ((F_X0_monthOf (nI n) mo x).toNatClampNeg)).2.2.2.2.2.2.1), aI G (h 17) 121 ((F_X4_workOutFrom mo ki am (F_X0_cross (nI n) sk x) dn y1 y2 y3 y4 y5 y6 y7 q v n np ((F_X0_monthOf (nI n) mo x).toNatClampNeg)).2.2.2.2.2.2.2.1), cP (h 1) q, cS (h 4) ((F_X4_workOutFrom mo ki am (F_X0_cross (nI n) sk x) dn y1 y2 y3 y4 y5 y6 y7 q v n np ((F_X0_monthOf (nI n) mo x).toNatClampNeg)).2.2.2.2.2.2.2.2)]) S hr hlk hK hW [0, 1, 2, 3, 4, 5, 6, 7, 8, 9, 10, 11, 12, 13, 14, 15, 16] rfl rfl (congrArg (fun (z : Int32 × Int32 × (Nat → Bool) × (Nat → Bool) × (Nat → Int32) × (Nat → Int32) × (Nat → Int32) × (Nat → Int32) × (Nat → Int32) × (Nat → Int32) × (Nat → Int32) × S7) => [cF h (nI np), cB h (nI n), aI G (h 6) 60 mo, aI G (h 7) 60 ki, aI G (h 8) 60 am, aZ G (h 9) 60 z.2.2.1, aZ G (h 10) 60 z.2.2.2.1, cH h, aI G (h 11) 121 z.2.2.2.2.1, aI G (h 12) 121 z.2.2.2.2.2.1, aI G (h 13) 121 z.2.2.2.2.2.2.1, aI G (h 14) 121 z.2.2.2.2.2.2.2.1, aI G (h 15) 121 z.2.2.2.2.2.2.2.2.1, aI G (h 16) 121 z.2.2.2.2.2.2.2.2.2.1, aI G (h 17) 121 z.2.2.2.2.2.2.2.2.2.2.1, cP (h 1) q, cS (h 4) z.2.2.2.2.2.2.2.2.2.2.2]) eF).symm (congrArg (fun (z : Int32 × Int32 × (Nat → Bool) × (Nat → Bool) × (Nat → Int32) × (Nat → Int32) × (Nat → Int32) × (Nat → Int32) × (Nat → Int32) × (Nat → Int32) × (Nat → Int32) × S7) => z.2.1) eF).symm (congrArg (fun (z : Int32 × Int32 × (Nat → Bool) × (Nat → Bool) × (Nat → Int32) × (Nat → Int32) × (Nat → Int32) × (Nat → Int32) × (Nat → Int32) × (Nat → Int32) × (Nat → Int32) × S7) => z.1) eF) rfl rfl dX4_strike_44
  ·
    have eF : (F_X4_strike mo ki am sk dn y1 y2 y3 y4 y5 y6 y7 q v x np n) = (1, 0, sk, dn, y1, y2, y3, y4, y5, y6, y7, v) := by
      unfold F_X4_strike
      rw [if_pos c_1]
    obtain ⟨sa, hsa⟩ := hXE.2.2.2.2.2 (108, "there is no such act") (by decide +kernel)
    have eK : ((F_X4_strike mo ki am sk dn y1 y2 y3 y4 y5 y6 y7 q v x np n)).1 = 1 := congrArg (fun (z : Int32 × Int32 × (Nat → Bool) × (Nat → Bool) × (Nat → Int32) × (Nat → Int32) × (Nat → Int32) × (Nat → Int32) × (Nat → Int32) × (Nat → Int32) × (Nat → Int32) × S7) => z.1) eF
    exact kx_throw hst S hlk hex hXE hXZ hK hW [0, 15, 1, 2, 3, 16, 4, 5, 6, 7, 8, 9, 10, 11, 12, 13, 14] rfl rfl (ik := 106) (ix := 108) (ic := 110) (cls := nIOB) (by decide +kernel) k_X4_strike_xl106 k_X4_strike_xi106 hsa (fun _ h => List.mem_cons_of_mem _ (List.mem_append_right _ h)) xb_nIOB hXE.2.2.1 xg_nIOB hl.1 dX4_strike_11 dX4_strike_14 dX4_strike_15 dX4_strike_17 dX4_strike_20 rfl rfl rfl rfl rfl rfl ⟨(1, nIOB), List.mem_cons_self, eK, rfl⟩
theorem full_lt {n : Nat} (hn : n ≤ 60) (h : bI (F_X0_isFull (nI n)) = 0) : n + 1 ≤ 60 := by
  rw [bI0] at h
  unfold F_X0_isFull at h
  split at h
  · rename_i h1
    rw [← nI_60] at h1
    rcases Nat.lt_or_ge n 60 with q | q
    · omega
    · exact absurd h1 (nI_nlt q (by omega))
  · cases h
theorem write_eq {n : Nat} (hn : n + 1 ≤ 60) (mo ki am : Nat → Int32) (sk : Nat → Bool) (m k x : Int32) : F_X0_write (nI n) mo ki am sk m k x = (nI n, nI (n + 1), upd mo n m, upd ki n k, upd am n x, updB sk n false) := by
  unfold F_X0_write
  rw [if_neg (nI_pos (by omega)), if_pos (by rw [← nI_60]; exact nI_lt (by omega) (by omega)), nI_clamp (by omega), nI_1]
def F_X4_tell (mo : (Nat → Int32)) (ki : (Nat → Int32)) (am : (Nat → Int32)) (sk : (Nat → Bool)) (dn : (Nat → Bool)) (y1 : (Nat → Int32)) (y2 : (Nat → Int32)) (y3 : (Nat → Int32)) (y4 : (Nat → Int32)) (y5 : (Nat → Int32)) (y6 : (Nat → Int32)) (y7 : (Nat → Int32)) (q : S3) (v : S7) (m : Int32) (k : Int32) (x : Int32) (np : Nat) (n : Nat) : Int32 × Bool × Int32 × (Nat → Int32) × (Nat → Int32) × (Nat → Int32) × (Nat → Bool) × (Nat → Bool) × (Nat → Int32) × (Nat → Int32) × (Nat → Int32) × (Nat → Int32) × (Nat → Int32) × (Nat → Int32) × (Nat → Int32) × S7 :=
  if m < 0 then (1, false, nI n, mo, ki, am, sk, dn, y1, y2, y3, y4, y5, y6, y7, v)
  else (if m ≤ nI np then (if k < 0 then (1, false, nI n, mo, ki, am, sk, dn, y1, y2, y3, y4, y5, y6, y7, v)
      else (if k ≤ 5 then (if x < 1 then (1, false, nI n, mo, ki, am, sk, dn, y1, y2, y3, y4, y5, y6, y7, v)
          else (if x ≤ 2000000 then (if bI (F_X0_isFull (nI n)) = 0 then (if m = nI np then (0, (F_X0_wasDone (nI (n + 1)) (F_X0_noteDone (nI (n + 1)) dn (nI n) ((F_X4_perform (nI (n + 1)) (upd mo n m) (upd ki n k) (upd am n x) q v (nI n)).1)) (nI n)), nI (n + 1), (upd mo n m), (upd ki n k), (upd am n x), (updB sk n false), (F_X0_noteDone (nI (n + 1)) dn (nI n) ((F_X4_perform (nI (n + 1)) (upd mo n m) (upd ki n k) (upd am n x) q v (nI n)).1)), y1, y2, y3, y4, y5, y6, y7, ((F_X4_perform (nI (n + 1)) (upd mo n m) (upd ki n k) (upd am n x) q v (nI n)).2))
                else (0, (F_X0_wasDone (nI (n + 1)) ((F_X4_workOutFrom (upd mo n m) (upd ki n k) (upd am n x) (updB sk n false) dn y1 y2 y3 y4 y5 y6 y7 q v (n + 1) np m.toNatClampNeg).1) (nI n)), nI (n + 1), (upd mo n m), (upd ki n k), (upd am n x), (updB sk n false), (F_X4_workOutFrom (upd mo n m) (upd ki n k) (upd am n x) (updB sk n false) dn y1 y2 y3 y4 y5 y6 y7 q v (n + 1) np m.toNatClampNeg).1, (F_X4_workOutFrom (upd mo n m) (upd ki n k) (upd am n x) (updB sk n false) dn y1 y2 y3 y4 y5 y6 y7 q v (n + 1) np m.toNatClampNeg).2.1, (F_X4_workOutFrom (upd mo n m) (upd ki n k) (upd am n x) (updB sk n false) dn y1 y2 y3 y4 y5 y6 y7 q v (n + 1) np m.toNatClampNeg).2.2.1, (F_X4_workOutFrom (upd mo n m) (upd ki n k) (upd am n x) (updB sk n false) dn y1 y2 y3 y4 y5 y6 y7 q v (n + 1) np m.toNatClampNeg).2.2.2.1, (F_X4_workOutFrom (upd mo n m) (upd ki n k) (upd am n x) (updB sk n false) dn y1 y2 y3 y4 y5 y6 y7 q v (n + 1) np m.toNatClampNeg).2.2.2.2.1, (F_X4_workOutFrom (upd mo n m) (upd ki n k) (upd am n x) (updB sk n false) dn y1 y2 y3 y4 y5 y6 y7 q v (n + 1) np m.toNatClampNeg).2.2.2.2.2.1, (F_X4_workOutFrom (upd mo n m) (upd ki n k) (upd am n x) (updB sk n false) dn y1 y2 y3 y4 y5 y6 y7 q v (n + 1) np m.toNatClampNeg).2.2.2.2.2.2.1, (F_X4_workOutFrom (upd mo n m) (upd ki n k) (upd am n x) (updB sk n false) dn y1 y2 y3 y4 y5 y6 y7 q v (n + 1) np m.toNatClampNeg).2.2.2.2.2.2.2.1, ((F_X4_workOutFrom (upd mo n m) (upd ki n k) (upd am n x) (updB sk n false) dn y1 y2 y3 y4 y5 y6 y7 q v (n + 1) np m.toNatClampNeg).2.2.2.2.2.2.2.2)))
              else (2, false, nI n, mo, ki, am, sk, dn, y1, y2, y3, y4, y5, y6, y7, v))
            else (1, false, nI n, mo, ki, am, sk, dn, y1, y2, y3, y4, y5, y6, y7, v)))
        else (1, false, nI n, mo, ki, am, sk, dn, y1, y2, y3, y4, y5, y6, y7, v)))
    else (1, false, nI n, mo, ki, am, sk, dn, y1, y2, y3, y4, y5, y6, y7, v))
set_option maxRecDepth 100000 in
theorem k_X4_tell_xl44 : Cond.classLink RX4 44 nIAE ∈ wsX4_tell := by decide +kernel
set_option maxRecDepth 100000 in
theorem k_X4_tell_xi44 : Cond.initialized nIAE ∈ wsX4_tell := by decide +kernel
set_option maxRecDepth 100000 in
theorem k_X4_tell_f40 : Cond.fieldLink RX4 40 "FlexiblePolicy" "present" "I" ∈ wsX4_tell := by decide +kernel
set_option maxRecDepth 100000 in
theorem k_X4_tell_in4 : ∀ w ∈ u_ws RX4 TX4 6, w ∈ wsX4_tell := by decide +kernel
set_option maxRecDepth 100000 in
theorem k_X4_tell_c71 : Cond.constant RX4 71 (2000000) ∈ wsX4_tell := by decide +kernel
set_option maxRecDepth 100000 in
theorem k_X4_tell_f19 : Cond.fieldLink RX4 19 "FlexiblePolicy" "book" "LFlexiblePolicy$ActBook;" ∈ wsX4_tell := by decide +kernel
set_option maxRecDepth 100000 in
theorem k_X4_tell_f33 : Cond.fieldLink RX4 33 "FlexiblePolicy" "now" "LFlexiblePolicy$Standing;" ∈ wsX4_tell := by decide +kernel
set_option maxRecDepth 100000 in
theorem k_X4_tell_xl78 : Cond.classLink RX4 78 nISE ∈ wsX4_tell := by decide +kernel
set_option maxRecDepth 100000 in
theorem k_X4_tell_xi78 : Cond.initialized nISE ∈ wsX4_tell := by decide +kernel
theorem nd_X4_tell : yX4_tell.cls = RX4 ∧ yX4_tell.cls ≠ "java/lang/invoke/MethodHandle" ∧ yX4_tell.cls ≠ "java/lang/invoke/VarHandle" ∧ (parseMethodDescriptor yX4_tell.desc).map (fun d => d.parameters.length) = some 3 := by decide +kernel
abbrev rm_X4_tell : Room := { frames := 6, cells := 1, slots := 6, locals := 132 }
set_option maxHeartbeats 4000000 in
set_option maxRecDepth 100000 in
theorem c_X4_tell (l : Launch) (hst : l.stackTraces = false) (G : GG) (h : Nat → Nat) (mo : (Nat → Int32)) (ki : (Nat → Int32)) (am : (Nat → Int32)) (sk : (Nat → Bool)) (dn : (Nat → Bool)) (y1 : (Nat → Int32)) (y2 : (Nat → Int32)) (y3 : (Nat → Int32)) (y4 : (Nat → Int32)) (y5 : (Nat → Int32)) (y6 : (Nat → Int32)) (y7 : (Nat → Int32)) (q : S3) (v : S7) (m : Int32) (k : Int32) (x : Int32) (np : Nat) (n : Nat) (hn : n ≤ 60) (hp : np ≤ 120) : CX l G yX4_tell wsX4_tell rm_X4_tell [.ref (h 0), .int m, .int k, .int x] [cF h (nI np), cB h (nI n), aI G (h 6) 60 mo, aI G (h 7) 60 ki, aI G (h 8) 60 am, aZ G (h 9) 60 sk, aZ G (h 10) 60 dn, cH h, aI G (h 11) 121 y1, aI G (h 12) 121 y2, aI G (h 13) 121 y3, aI G (h 14) 121 y4, aI G (h 15) 121 y5, aI G (h 16) 121 y6, aI G (h 17) 121 y7, cP (h 1) q, cS (h 4) v] ((F_X4_tell mo ki am sk dn y1 y2 y3 y4 y5 y6 y7 q v m k x np n).1) (bI ((F_X4_tell mo ki am sk dn y1 y2 y3 y4 y5 y6 y7 q v m k x np n).2.1)) [cF h (nI np), cB h ((F_X4_tell mo ki am sk dn y1 y2 y3 y4 y5 y6 y7 q v m k x np n).2.2.1), aI G (h 6) 60 ((F_X4_tell mo ki am sk dn y1 y2 y3 y4 y5 y6 y7 q v m k x np n).2.2.2.1), aI G (h 7) 60 ((F_X4_tell mo ki am sk dn y1 y2 y3 y4 y5 y6 y7 q v m k x np n).2.2.2.2.1), aI G (h 8) 60 ((F_X4_tell mo ki am sk dn y1 y2 y3 y4 y5 y6 y7 q v m k x np n).2.2.2.2.2.1), aZ G (h 9) 60 ((F_X4_tell mo ki am sk dn y1 y2 y3 y4 y5 y6 y7 q v m k x np n).2.2.2.2.2.2.1), aZ G (h 10) 60 ((F_X4_tell mo ki am sk dn y1 y2 y3 y4 y5 y6 y7 q v m k x np n).2.2.2.2.2.2.2.1), cH h, aI G (h 11) 121 ((F_X4_tell mo ki am sk dn y1 y2 y3 y4 y5 y6 y7 q v m k x np n).2.2.2.2.2.2.2.2.1), aI G (h 12) 121 ((F_X4_tell mo ki am sk dn y1 y2 y3 y4 y5 y6 y7 q v m k x np n).2.2.2.2.2.2.2.2.2.1), aI G (h 13) 121 ((F_X4_tell mo ki am sk dn y1 y2 y3 y4 y5 y6 y7 q v m k x np n).2.2.2.2.2.2.2.2.2.2.1), aI G (h 14) 121 ((F_X4_tell mo ki am sk dn y1 y2 y3 y4 y5 y6 y7 q v m k x np n).2.2.2.2.2.2.2.2.2.2.2.1), aI G (h 15) 121 ((F_X4_tell mo ki am sk dn y1 y2 y3 y4 y5 y6 y7 q v m k x np n).2.2.2.2.2.2.2.2.2.2.2.2.1), aI G (h 16) 121 ((F_X4_tell mo ki am sk dn y1 y2 y3 y4 y5 y6 y7 q v m k x np n).2.2.2.2.2.2.2.2.2.2.2.2.2.1), aI G (h 17) 121 ((F_X4_tell mo ki am sk dn y1 y2 y3 y4 y5 y6 y7 q v m k x np n).2.2.2.2.2.2.2.2.2.2.2.2.2.2.1), cP (h 1) q, cS (h 4) ((F_X4_tell mo ki am sk dn y1 y2 y3 y4 y5 y6 y7 q v m k x np n).2.2.2.2.2.2.2.2.2.2.2.2.2.2.2)] [(1, nIAE), (2, nISE)] := by
  refine CX_of (own := RX4) (by decide +kernel) rfl rfl (Nat.le_of_ble_eq_true rfl) ?_
  intro pP eE sS mM args below meth cC A S hK hr hlk hex hXE hXZ hW ls hl
  have hx := S.1
  have hb := S.2.1
  have hl : lv_has ls 5 [(0, .ref (h 0)), (1, .int m), (2, .int k), (3, .int x)] := hl
  have hW : Wd G A sS.heap [cF h (nI np), cB h (nI n), aI G (h 6) 60 mo, aI G (h 7) 60 ki, aI G (h 8) 60 am, aZ G (h 9) 60 sk, aZ G (h 10) 60 dn, cH h, aI G (h 11) 121 y1, aI G (h 12) 121 y2, aI G (h 13) 121 y3, aI G (h 14) 121 y4, aI G (h 15) 121 y5, aI G (h 16) 121 y6, aI G (h 17) 121 y7, cP (h 1) q, cS (h 4) v] sS.heap [] := hW
  refine lv_iload_n hx hb dX4_tell_0 rfl (lv_at hl 1 rfl) ?_
  refine lv_if_lt (tgt := 12) hx hb dX4_tell_1 (by decide) (fun c_1 => ?_) (fun c_1 => ?_)
  ·
    have eF : (F_X4_tell mo ki am sk dn y1 y2 y3 y4 y5 y6 y7 q v m k x np n) = (1, false, nI n, mo, ki, am, sk, dn, y1, y2, y3, y4, y5, y6, y7, v) := by
      unfold F_X4_tell
      rw [if_pos c_1]
    obtain ⟨sa, hsa⟩ := hXE.2.2.2.2.2 (67, "the month is 0 to the present one") (by decide +kernel)
    have eK : ((F_X4_tell mo ki am sk dn y1 y2 y3 y4 y5 y6 y7 q v m k x np n)).1 = 1 := congrArg (fun (z : Int32 × Bool × Int32 × (Nat → Int32) × (Nat → Int32) × (Nat → Int32) × (Nat → Bool) × (Nat → Bool) × (Nat → Int32) × (Nat → Int32) × (Nat → Int32) × (Nat → Int32) × (Nat → Int32) × (Nat → Int32) × (Nat → Int32) × S7) => z.1) eF
    exact kx_throw hst S hlk hex hXE hXZ hK hW [0, 1, 2, 3, 4, 5, 6, 7, 8, 9, 10, 11, 12, 13, 14, 15, 16] rfl rfl (ik := 44) (ix := 67) (ic := 48) (cls := nIAE) (by decide +kernel) k_X4_tell_xl44 k_X4_tell_xi44 hsa (fun _ h => List.mem_cons_of_mem _ (List.mem_append_left _ (List.mem_append_right _ h))) xb_nIAE hXE.1 xg_nIAE hl.1 dX4_tell_12 dX4_tell_15 dX4_tell_16 dX4_tell_18 dX4_tell_21 rfl rfl rfl rfl rfl rfl ⟨(1, nIAE), List.mem_cons_self, eK, rfl⟩
  ·
    refine lv_iload_n hx hb dX4_tell_4 rfl (lv_at hl 1 rfl) ?_
    refine lv_aload_n hx hb dX4_tell_5 rfl (lv_at hl 0 rfl) ?_
    refine k_get (C := RX4) (T := TX4) (N := 6) (ci := 4) (v := .int (nI np)) S hK hW k_X4_tell_in4 0 5 rfl rfl (by decide) k_X4_tell_f40 rfl dX4_tell_6 ?_
    refine lv_icmp_le (tgt := 22) hx hb dX4_tell_9 (by decide) (fun c_2 => ?_) (fun c_2 => ?_)
    ·
      refine lv_iload_n hx hb dX4_tell_22 rfl (lv_at hl 2 rfl) ?_
      refine lv_if_lt (tgt := 31) hx hb dX4_tell_23 (by decide) (fun c_3 => ?_) (fun c_3 => ?_)
      ·
        have eF : (F_X4_tell mo ki am sk dn y1 y2 y3 y4 y5 y6 y7 q v m k x np n) = (1, false, nI n, mo, ki, am, sk, dn, y1, y2, y3, y4, y5, y6, y7, v) := by
          unfold F_X4_tell
          rw [if_neg c_1, if_pos c_2, if_pos c_3]
        obtain ⟨sa, hsa⟩ := hXE.2.2.2.2.2 (69, "the act is 0 to 5") (by decide +kernel)
        have eK : ((F_X4_tell mo ki am sk dn y1 y2 y3 y4 y5 y6 y7 q v m k x np n)).1 = 1 := congrArg (fun (z : Int32 × Bool × Int32 × (Nat → Int32) × (Nat → Int32) × (Nat → Int32) × (Nat → Bool) × (Nat → Bool) × (Nat → Int32) × (Nat → Int32) × (Nat → Int32) × (Nat → Int32) × (Nat → Int32) × (Nat → Int32) × (Nat → Int32) × S7) => z.1) eF
        exact kx_throw hst S hlk hex hXE hXZ hK hW [0, 1, 2, 3, 4, 5, 6, 7, 8, 9, 10, 11, 12, 13, 14, 15, 16] rfl rfl (ik := 44) (ix := 69) (ic := 48) (cls := nIAE) (by decide +kernel) k_X4_tell_xl44 k_X4_tell_xi44 hsa (fun _ h => List.mem_cons_of_mem _ (List.mem_append_left _ (List.mem_append_right _ h))) xb_nIAE hXE.1 xg_nIAE hl.1 dX4_tell_31 dX4_tell_34 dX4_tell_35 dX4_tell_37 dX4_tell_40 rfl rfl rfl rfl rfl rfl ⟨(1, nIAE), List.mem_cons_self, eK, rfl⟩
      ·
        refine lv_iload_n hx hb dX4_tell_26 rfl (lv_at hl 2 rfl) ?_
        refine lv_iconst (v := 5) hx hb dX4_tell_27 (by decide) ?_
        refine lv_icmp_le (tgt := 41) hx hb dX4_tell_28 (by decide) (fun c_4 => ?_) (fun c_4 => ?_)
        ·
          refine lv_iload_n hx hb dX4_tell_41 rfl (lv_at hl 3 rfl) ?_
          refine lv_iconst (v := 1) hx hb dX4_tell_42 (by decide) ?_
          refine lv_icmp_lt (tgt := 52) hx hb dX4_tell_43 (by decide) (fun c_5 => ?_) (fun c_5 => ?_)
          ·
            have eF : (F_X4_tell mo ki am sk dn y1 y2 y3 y4 y5 y6 y7 q v m k x np n) = (1, false, nI n, mo, ki, am, sk, dn, y1, y2, y3, y4, y5, y6, y7, v) := by
              unfold F_X4_tell
              rw [if_neg c_1, if_pos c_2, if_neg c_3, if_pos c_4, if_pos c_5]
            obtain ⟨sa, hsa⟩ := hXE.2.2.2.2.2 (72, "the amount is 1 to 2000000") (by decide +kernel)
            have eK : ((F_X4_tell mo ki am sk dn y1 y2 y3 y4 y5 y6 y7 q v m k x np n)).1 = 1 := congrArg (fun (z : Int32 × Bool × Int32 × (Nat → Int32) × (Nat → Int32) × (Nat → Int32) × (Nat → Bool) × (Nat → Bool) × (Nat → Int32) × (Nat → Int32) × (Nat → Int32) × (Nat → Int32) × (Nat → Int32) × (Nat → Int32) × (Nat → Int32) × S7) => z.1) eF
            exact kx_throw hst S hlk hex hXE hXZ hK hW [0, 1, 2, 3, 4, 5, 6, 7, 8, 9, 10, 11, 12, 13, 14, 15, 16] rfl rfl (ik := 44) (ix := 72) (ic := 48) (cls := nIAE) (by decide +kernel) k_X4_tell_xl44 k_X4_tell_xi44 hsa (fun _ h => List.mem_cons_of_mem _ (List.mem_append_left _ (List.mem_append_right _ h))) xb_nIAE hXE.1 xg_nIAE hl.1 dX4_tell_52 dX4_tell_55 dX4_tell_56 dX4_tell_58 dX4_tell_61 rfl rfl rfl rfl rfl rfl ⟨(1, nIAE), List.mem_cons_self, eK, rfl⟩
          ·
            refine lv_iload_n hx hb dX4_tell_46 rfl (lv_at hl 3 rfl) ?_
            refine k_ldc S k_X4_tell_c71 dX4_tell_47 ?_
            refine lv_icmp_le (tgt := 62) hx hb dX4_tell_49 (by decide) (fun c_6 => ?_) (fun c_6 => ?_)
            ·
              refine lv_aload_n hx hb dX4_tell_62 rfl (lv_at hl 0 rfl) ?_
              refine k_get (C := RX4) (T := TX4) (N := 6) (ci := 4) (v := .ref (h 2)) S hK hW k_X4_tell_in4 0 1 rfl rfl (by decide) k_X4_tell_f19 rfl dX4_tell_63 ?_
              refine k_callVi (C := RX0) (As := []) (rest := []) (wr := [cF h (nI np), aI G (h 6) 60 mo, aI G (h 7) 60 ki, aI G (h 8) 60 am, aZ G (h 9) 60 sk, aZ G (h 10) 60 dn, cH h, aI G (h 11) 121 y1, aI G (h 12) 121 y2, aI G (h 13) 121 y3, aI G (h 14) 121 y4, aI G (h 15) 121 y5, aI G (h 16) 121 y6, aI G (h 17) 121 y7, cP (h 1) q, cS (h 4) v]) (c_X0_isFull l G h (nI n)) S hK hW gX4_tell_X0_isFull rfl ⟨rfl, rfl⟩ nd_X0_isFull ⟨rfl, rfl⟩ (qb := 1) (ci := 0) rfl rfl [1] [0, 2, 3, 4, 5, 6, 7, 8, 9, 10, 11, 12, 13, 14, 15, 16] rfl rfl rfl rfl (by decide) rfl hl.1 rfl dX4_tell_66 ⟨Nat.zero_le _, Nat.zero_le _⟩ (fun H locs hW => ?_)
              have hW : Wd G A sS.heap [cF h (nI np), aI G (h 6) 60 mo, aI G (h 7) 60 ki, aI G (h 8) 60 am, aZ G (h 9) 60 sk, aZ G (h 10) 60 dn, cH h, aI G (h 11) 121 y1, aI G (h 12) 121 y2, aI G (h 13) 121 y3, aI G (h 14) 121 y4, aI G (h 15) 121 y5, aI G (h 16) 121 y6, aI G (h 17) 121 y7, cP (h 1) q, cS (h 4) v, cB h (nI n)] H locs := hW
              refine lv_if_eq (tgt := 82) hx hb dX4_tell_69 (by decide) (fun c_7 => ?_) (fun c_7 => ?_)
              ·
                refine lv_aload_n hx hb dX4_tell_82 rfl (lv_at hl 0 rfl) ?_
                refine k_get (C := RX4) (T := TX4) (N := 6) (ci := 4) (v := .ref (h 2)) S hK hW k_X4_tell_in4 0 1 rfl rfl (by decide) k_X4_tell_f19 rfl dX4_tell_83 ?_
                refine lv_iload_n hx hb dX4_tell_86 rfl (lv_at hl 1 rfl) ?_
                refine lv_iload_n hx hb dX4_tell_87 rfl (lv_at hl 2 rfl) ?_
                refine lv_iload_n hx hb dX4_tell_88 rfl (lv_at hl 3 rfl) ?_
                refine k_callVi (C := RX0) (As := [.int m, .int k, .int x]) (rest := []) (wr := [cF h (nI np), aZ G (h 10) 60 dn, cH h, aI G (h 11) 121 y1, aI G (h 12) 121 y2, aI G (h 13) 121 y3, aI G (h 14) 121 y4, aI G (h 15) 121 y5, aI G (h 16) 121 y6, aI G (h 17) 121 y7, cP (h 1) q, cS (h 4) v]) (c_X0_write l G h (nI n) mo ki am sk m k x) S hK hW gX4_tell_X0_write rfl ⟨rfl, rfl⟩ nd_X0_write ⟨rfl, rfl⟩ (qb := 16) (ci := 0) rfl rfl [16, 1, 2, 3, 4] [0, 5, 6, 7, 8, 9, 10, 11, 12, 13, 14, 15] rfl rfl rfl rfl (by decide) rfl hl.1 rfl dX4_tell_89 ⟨Nat.zero_le _, Nat.zero_le _⟩ (fun H locs hW => ?_)
                have hW : Wd G A sS.heap [cF h (nI np), aZ G (h 10) 60 dn, cH h, aI G (h 11) 121 y1, aI G (h 12) 121 y2, aI G (h 13) 121 y3, aI G (h 14) 121 y4, aI G (h 15) 121 y5, aI G (h 16) 121 y6, aI G (h 17) 121 y7, cP (h 1) q, cS (h 4) v, cB h ((F_X0_write (nI n) mo ki am sk m k x).2.1), aI G (h 6) 60 ((F_X0_write (nI n) mo ki am sk m k x).2.2.1), aI G (h 7) 60 ((F_X0_write (nI n) mo ki am sk m k x).2.2.2.1), aI G (h 8) 60 ((F_X0_write (nI n) mo ki am sk m k x).2.2.2.2.1), aZ G (h 9) 60 ((F_X0_write (nI n) mo ki am sk m k x).2.2.2.2.2)] H locs := hW
                have hn2 : n + 1 ≤ 60 := full_lt hn c_7
                rw [write_eq hn2] at hW ⊢
                have hW : Wd G A sS.heap [cF h (nI np), aZ G (h 10) 60 dn, cH h, aI G (h 11) 121 y1, aI G (h 12) 121 y2, aI G (h 13) 121 y3, aI G (h 14) 121 y4, aI G (h 15) 121 y5, aI G (h 16) 121 y6, aI G (h 17) 121 y7, cP (h 1) q, cS (h 4) v, cB h (nI (n + 1)), aI G (h 6) 60 (upd mo n m), aI G (h 7) 60 (upd ki n k), aI G (h 8) 60 (upd am n x), aZ G (h 9) 60 (updB sk n false)] H locs := hW
                refine W.eq (g2 := F0 mM 92 ls [.int (nI n)]) rfl ?_
                refine lv_istore (lv' := [(4, .int (nI n)), (0, .ref (h 0)), (1, .int m), (2, .int k), (3, .int x)]) hx hb dX4_tell_92 hl (by decide) rfl (fun ls hl => ?_)
                refine lv_iload_n hx hb dX4_tell_94 rfl (lv_at hl 2 rfl) ?_
                refine lv_aload_n hx hb dX4_tell_95 rfl (lv_at hl 1 rfl) ?_
                refine k_get (C := RX4) (T := TX4) (N := 6) (ci := 4) (v := .int (nI np)) S hK hW k_X4_tell_in4 0 5 rfl rfl (by decide) k_X4_tell_f40 rfl dX4_tell_96 ?_
                refine lv_icmp_ne (tgt := 124) hx hb dX4_tell_99 (by decide) (fun c_8 => ?_) (fun c_8 => ?_)
                ·
                  refine lv_aload_n hx hb dX4_tell_124 rfl (lv_at hl 1 rfl) ?_
                  refine lv_iload_n hx hb dX4_tell_125 rfl (lv_at hl 2 rfl) ?_
                  have hy : m.toNatClampNeg ≤ np := cl_le (by omega) (i_nlt c_1) c_2
                  refine W.eq (g2 := F0 mM 126 ls [.int (nI m.toNatClampNeg), .ref (h 0)]) (by rw [← cl_of (i_nlt c_1)]) ?_
                  refine k_callVv (C := RX4) (As := [.int (nI m.toNatClampNeg)]) (rest := []) (wr := []) (c_X4_workOutFrom l G h (upd mo n m) (upd ki n k) (upd am n x) (updB sk n false) dn y1 y2 y3 y4 y5 y6 y7 q v (n + 1) np m.toNatClampNeg (by omega) (by omega) (by omega)) S hK hW gX4_tell_X4_workOutFrom rfl ⟨rfl, rfl⟩ nd_X4_workOutFrom ⟨rfl, rfl⟩ (qb := 0) (ci := 4) rfl rfl [0, 12, 13, 14, 15, 16, 1, 2, 3, 4, 5, 6, 7, 8, 9, 10, 11] [] rfl rfl rfl rfl (by decide) rfl hl.1 rfl dX4_tell_126 ⟨Nat.zero_le _, Nat.zero_le _⟩ (fun H locs hW => ?_)
                  have hW : Wd G A sS.heap [cF h (nI np), cB h (nI (n + 1)), aI G (h 6) 60 (upd mo n m), aI G (h 7) 60 (upd ki n k), aI G (h 8) 60 (upd am n x), aZ G (h 9) 60 (updB sk n false), aZ G (h 10) 60 ((F_X4_workOutFrom (upd mo n m) (upd ki n k) (upd am n x) (updB sk n false) dn y1 y2 y3 y4 y5 y6 y7 q v (n + 1) np m.toNatClampNeg).1), cH h, aI G (h 11) 121 ((F_X4_workOutFrom (upd mo n m) (upd ki n k) (upd am n x) (updB sk n false) dn y1 y2 y3 y4 y5 y6 y7 q v (n + 1) np m.toNatClampNeg).2.1), aI G (h 12) 121 ((F_X4_workOutFrom (upd mo n m) (upd ki n k) (upd am n x) (updB sk n false) dn y1 y2 y3 y4 y5 y6 y7 q v (n + 1) np m.toNatClampNeg).2.2.1), aI G (h 13) 121 ((F_X4_workOutFrom (upd mo n m) (upd ki n k) (upd am n x) (updB sk n false) dn y1 y2 y3 y4 y5 y6 y7 q v (n + 1) np m.toNatClampNeg).2.2.2.1), aI G (h 14) 121 ((F_X4_workOutFrom (upd mo n m) (upd ki n k) (upd am n x) (updB sk n false) dn y1 y2 y3 y4 y5 y6 y7 q v (n + 1) np m.toNatClampNeg).2.2.2.2.1), aI G (h 15) 121 ((F_X4_workOutFrom (upd mo n m) (upd ki n k) (upd am n x) (updB sk n false) dn y1 y2 y3 y4 y5 y6 y7 q v (n + 1) np m.toNatClampNeg).2.2.2.2.2.1), aI G (h 16) 121 ((F_X4_workOutFrom (upd mo n m) (upd ki n k) (upd am n x) (updB sk n false) dn y1 y2 y3 y4 y5 y6 y7 q v (n + 1) np m.toNatClampNeg).2.2.2.2.2.2.1), aI G (h 17) 121 ((F_X4_workOutFrom (upd mo n m) (upd ki n k) (upd am n x) (updB sk n false) dn y1 y2 y3 y4 y5 y6 y7 q v (n + 1) np m.toNatClampNeg).2.2.2.2.2.2.2.1), cP (h 1) q, cS (h 4) ((F_X4_workOutFrom (upd mo n m) (upd ki n k) (upd am n x) (updB sk n false) dn y1 y2 y3 y4 y5 y6 y7 q v (n + 1) np m.toNatClampNeg).2.2.2.2.2.2.2.2)] H locs := hW
                  refine lv_aload_n hx hb dX4_tell_129 rfl (lv_at hl 1 rfl) ?_
                  refine k_get (C := RX4) (T := TX4) (N := 6) (ci := 4) (v := .ref (h 2)) S hK hW k_X4_tell_in4 0 1 rfl rfl (by decide) k_X4_tell_f19 rfl dX4_tell_130 ?_
                  refine lv_iload hx hb dX4_tell_133 (lv_at hl 0 rfl) ?_
                  refine k_callVi (C := RX0) (As := [.int (nI n)]) (rest := []) (wr := [cF h (nI np), aI G (h 6) 60 (upd mo n m), aI G (h 7) 60 (upd ki n k), aI G (h 8) 60 (upd am n x), aZ G (h 9) 60 (updB sk n false), cH h, aI G (h 11) 121 ((F_X4_workOutFrom (upd mo n m) (upd ki n k) (upd am n x) (updB sk n false) dn y1 y2 y3 y4 y5 y6 y7 q v (n + 1) np m.toNatClampNeg).2.1), aI G (h 12) 121 ((F_X4_workOutFrom (upd mo n m) (upd ki n k) (upd am n x) (updB sk n false) dn y1 y2 y3 y4 y5 y6 y7 q v (n + 1) np m.toNatClampNeg).2.2.1), aI G (h 13) 121 ((F_X4_workOutFrom (upd mo n m) (upd ki n k) (upd am n x) (updB sk n false) dn y1 y2 y3 y4 y5 y6 y7 q v (n + 1) np m.toNatClampNeg).2.2.2.1), aI G (h 14) 121 ((F_X4_workOutFrom (upd mo n m) (upd ki n k) (upd am n x) (updB sk n false) dn y1 y2 y3 y4 y5 y6 y7 q v (n + 1) np m.toNatClampNeg).2.2.2.2.1), aI G (h 15) 121 ((F_X4_workOutFrom (upd mo n m) (upd ki n k) (upd am n x) (updB sk n false) dn y1 y2 y3 y4 y5 y6 y7 q v (n + 1) np m.toNatClampNeg).2.2.2.2.2.1), aI G (h 16) 121 ((F_X4_workOutFrom (upd mo n m) (upd ki n k) (upd am n x) (updB sk n false) dn y1 y2 y3 y4 y5 y6 y7 q v (n + 1) np m.toNatClampNeg).2.2.2.2.2.2.1), aI G (h 17) 121 ((F_X4_workOutFrom (upd mo n m) (upd ki n k) (upd am n x) (updB sk n false) dn y1 y2 y3 y4 y5 y6 y7 q v (n + 1) np m.toNatClampNeg).2.2.2.2.2.2.2.1), cP (h 1) q, cS (h 4) ((F_X4_workOutFrom (upd mo n m) (upd ki n k) (upd am n x) (updB sk n false) dn y1 y2 y3 y4 y5 y6 y7 q v (n + 1) np m.toNatClampNeg).2.2.2.2.2.2.2.2)]) (c_X0_wasDone l G h (nI (n + 1)) ((F_X4_workOutFrom (upd mo n m) (upd ki n k) (upd am n x) (updB sk n false) dn y1 y2 y3 y4 y5 y6 y7 q v (n + 1) np m.toNatClampNeg).1) (nI n)) S hK hW gX4_tell_X0_wasDone rfl ⟨rfl, rfl⟩ nd_X0_wasDone ⟨rfl, rfl⟩ (qb := 1) (ci := 0) rfl rfl [1, 6] [0, 2, 3, 4, 5, 7, 8, 9, 10, 11, 12, 13, 14, 15, 16] rfl rfl rfl rfl (by decide) rfl hl.1 rfl dX4_tell_135 ⟨Nat.zero_le _, Nat.zero_le _⟩ (fun H locs hW => ?_)
                  have hW : Wd G A sS.heap [cF h (nI np), aI G (h 6) 60 (upd mo n m), aI G (h 7) 60 (upd ki n k), aI G (h 8) 60 (upd am n x), aZ G (h 9) 60 (updB sk n false), cH h, aI G (h 11) 121 ((F_X4_workOutFrom (upd mo n m) (upd ki n k) (upd am n x) (updB sk n false) dn y1 y2 y3 y4 y5 y6 y7 q v (n + 1) np m.toNatClampNeg).2.1), aI G (h 12) 121 ((F_X4_workOutFrom (upd mo n m) (upd ki n k) (upd am n x) (updB sk n false) dn y1 y2 y3 y4 y5 y6 y7 q v (n + 1) np m.toNatClampNeg).2.2.1), aI G (h 13) 121 ((F_X4_workOutFrom (upd mo n m) (upd ki n k) (upd am n x) (updB sk n false) dn y1 y2 y3 y4 y5 y6 y7 q v (n + 1) np m.toNatClampNeg).2.2.2.1), aI G (h 14) 121 ((F_X4_workOutFrom (upd mo n m) (upd ki n k) (upd am n x) (updB sk n false) dn y1 y2 y3 y4 y5 y6 y7 q v (n + 1) np m.toNatClampNeg).2.2.2.2.1), aI G (h 15) 121 ((F_X4_workOutFrom (upd mo n m) (upd ki n k) (upd am n x) (updB sk n false) dn y1 y2 y3 y4 y5 y6 y7 q v (n + 1) np m.toNatClampNeg).2.2.2.2.2.1), aI G (h 16) 121 ((F_X4_workOutFrom (upd mo n m) (upd ki n k) (upd am n x) (updB sk n false) dn y1 y2 y3 y4 y5 y6 y7 q v (n + 1) np m.toNatClampNeg).2.2.2.2.2.2.1), aI G (h 17) 121 ((F_X4_workOutFrom (upd mo n m) (upd ki n k) (upd am n x) (updB sk n false) dn y1 y2 y3 y4 y5 y6 y7 q v (n + 1) np m.toNatClampNeg).2.2.2.2.2.2.2.1), cP (h 1) q, cS (h 4) ((F_X4_workOutFrom (upd mo n m) (upd ki n k) (upd am n x) (updB sk n false) dn y1 y2 y3 y4 y5 y6 y7 q v (n + 1) np m.toNatClampNeg).2.2.2.2.2.2.2.2), cB h (nI (n + 1)), aZ G (h 10) 60 ((F_X4_workOutFrom (upd mo n m) (upd ki n k) (upd am n x) (updB sk n false) dn y1 y2 y3 y4 y5 y6 y7 q v (n + 1) np m.toNatClampNeg).1)] H locs := hW
                  have eF : (F_X4_tell mo ki am sk dn y1 y2 y3 y4 y5 y6 y7 q v m k x np n) = (0, (F_X0_wasDone (nI (n + 1)) ((F_X4_workOutFrom (upd mo n m) (upd ki n k) (upd am n x) (updB sk n false) dn y1 y2 y3 y4 y5 y6 y7 q v (n + 1) np m.toNatClampNeg).1) (nI n)), nI (n + 1), (upd mo n m), (upd ki n k), (upd am n x), (updB sk n false), (F_X4_workOutFrom (upd mo n m) (upd ki n k) (upd am n x) (updB sk n false) dn y1 y2 y3 y4 y5 y6 y7 q v (n + 1) np m.toNatClampNeg).1, (F_X4_workOutFrom (upd mo n m) (upd ki n k) (upd am n x) (updB sk n false) dn y1 y2 y3 y4 y5 y6 y7 q v (n + 1) np m.toNatClampNeg).2.1, (F_X4_workOutFrom (upd mo n m) (upd ki n k) (upd am n x) (updB sk n false) dn y1 y2 y3 y4 y5 y6 y7 q v (n + 1) np m.toNatClampNeg).2.2.1, (F_X4_workOutFrom (upd mo n m) (upd ki n k) (upd am n x) (updB sk n false) dn y1 y2 y3 y4 y5 y6 y7 q v (n + 1) np m.toNatClampNeg).2.2.2.1, (F_X4_workOutFrom (upd mo n m) (upd ki n k) (upd am n x) (updB sk n false) dn y1 y2 y3 y4 y5 y6 y7 q v (n + 1) np m.toNatClampNeg).2.2.2.2.1, (F_X4_workOutFrom (upd mo n m) (upd ki n k) (upd am n x) (updB sk n false) dn y1 y2 y3 y4 y5 y6 y7 q v (n + 1) np m.toNatClampNeg).2.2.2.2.2.1, (F_X4_workOutFrom (upd mo n m) (upd ki n k) (upd am n x) (updB sk n false) dn y1 y2 y3 y4 y5 y6 y7 q v (n + 1) np m.toNatClampNeg).2.2.2.2.2.2.1, (F_X4_workOutFrom (upd mo n m) (upd ki n k) (upd am n x) (updB sk n false) dn y1 y2 y3 y4 y5 y6 y7 q v (n + 1) np m.toNatClampNeg).2.2.2.2.2.2.2.1, ((F_X4_workOutFrom (upd mo n m) (upd ki n k) (upd am n x) (updB sk n false) dn y1 y2 y3 y4 y5 y6 y7 q v (n + 1) np m.toNatClampNeg).2.2.2.2.2.2.2.2)) := by
                    unfold F_X4_tell
                    rw [if_neg c_1, if_pos c_2, if_neg c_3, if_pos c_4, if_neg c_5, if_pos c_6, if_pos c_7, if_neg c_8]
                  exact kx_zret (wf := [cF h (nI np), cB h (nI (n + 1)), aI G (h 6) 60 (upd mo n m), aI G (h 7) 60 (upd ki n k), aI G (h 8) 60 (upd am n x), aZ G (h 9) 60 (updB sk n false), aZ G (h 10) 60 ((F_X4_workOutFrom (upd mo n m) (upd ki n k) (upd am n x) (updB sk n false) dn y1 y2 y3 y4 y5 y6 y7 q v (n + 1) np m.toNatClampNeg).1), cH h, aI G (h 11) 121 ((F_X4_workOutFrom (upd mo n m) (upd ki n k) (upd am n x) (updB sk n false) dn y1 y2 y3 y4 y5 y6 y7 q v (n + 1) np m.toNatClampNeg).2.1), aI G (h 12) 121 ((F_X4_workOutFrom (upd mo n m) (upd ki n k) (upd am n x) (updB sk n false) dn y1 y2 y3 y4 y5 y6 y7 q v (n + 1) np m.toNatClampNeg).2.2.1), aI G (h 13) 121 ((F_X4_workOutFrom (upd mo n m) (upd ki n k) (upd am n x) (updB sk n false) dn y1 y2 y3 y4 y5 y6 y7 q v (n + 1) np m.toNatClampNeg).2.2.2.1), aI G (h 14) 121 ((F_X4_workOutFrom (upd mo n m) (upd ki n k) (upd am n x) (updB sk n false) dn y1 y2 y3 y4 y5 y6 y7 q v (n + 1) np m.toNatClampNeg).2.2.2.2.1), aI G (h 15) 121 ((F_X4_workOutFrom (upd mo n m) (upd ki n k) (upd am n x) (updB sk n false) dn y1 y2 y3 y4 y5 y6 y7 q v (n + 1) np m.toNatClampNeg).2.2.2.2.2.1), aI G (h 16) 121 ((F_X4_workOutFrom (upd mo n m) (upd ki n k) (upd am n x) (updB sk n false) dn y1 y2 y3 y4 y5 y6 y7 q v (n + 1) np m.toNatClampNeg).2.2.2.2.2.2.1), aI G (h 17) 121 ((F_X4_workOutFrom (upd mo n m) (upd ki n k) (upd am n x) (updB sk n false) dn y1 y2 y3 y4 y5 y6 y7 q v (n + 1) np m.toNatClampNeg).2.2.2.2.2.2.2.1), cP (h 1) q, cS (h 4) ((F_X4_workOutFrom (upd mo n m) (upd ki n k) (upd am n x) (updB sk n false) dn y1 y2 y3 y4 y5 y6 y7 q v (n + 1) np m.toNatClampNeg).2.2.2.2.2.2.2.2)]) S hr hlk hK hW [0, 15, 1, 2, 3, 4, 16, 5, 6, 7, 8, 9, 10, 11, 12, 13, 14] rfl rfl (congrArg (fun (z : Int32 × Bool × Int32 × (Nat → Int32) × (Nat → Int32) × (Nat → Int32) × (Nat → Bool) × (Nat → Bool) × (Nat → Int32) × (Nat → Int32) × (Nat → Int32) × (Nat → Int32) × (Nat → Int32) × (Nat → Int32) × (Nat → Int32) × S7) => [cF h (nI np), cB h z.2.2.1, aI G (h 6) 60 z.2.2.2.1, aI G (h 7) 60 z.2.2.2.2.1, aI G (h 8) 60 z.2.2.2.2.2.1, aZ G (h 9) 60 z.2.2.2.2.2.2.1, aZ G (h 10) 60 z.2.2.2.2.2.2.2.1, cH h, aI G (h 11) 121 z.2.2.2.2.2.2.2.2.1, aI G (h 12) 121 z.2.2.2.2.2.2.2.2.2.1, aI G (h 13) 121 z.2.2.2.2.2.2.2.2.2.2.1, aI G (h 14) 121 z.2.2.2.2.2.2.2.2.2.2.2.1, aI G (h 15) 121 z.2.2.2.2.2.2.2.2.2.2.2.2.1, aI G (h 16) 121 z.2.2.2.2.2.2.2.2.2.2.2.2.2.1, aI G (h 17) 121 z.2.2.2.2.2.2.2.2.2.2.2.2.2.2.1, cP (h 1) q, cS (h 4) z.2.2.2.2.2.2.2.2.2.2.2.2.2.2.2]) eF).symm (congrArg (fun (z : Int32 × Bool × Int32 × (Nat → Int32) × (Nat → Int32) × (Nat → Int32) × (Nat → Bool) × (Nat → Bool) × (Nat → Int32) × (Nat → Int32) × (Nat → Int32) × (Nat → Int32) × (Nat → Int32) × (Nat → Int32) × (Nat → Int32) × S7) => bI z.2.1) eF).symm (congrArg (fun (z : Int32 × Bool × Int32 × (Nat → Int32) × (Nat → Int32) × (Nat → Int32) × (Nat → Bool) × (Nat → Bool) × (Nat → Int32) × (Nat → Int32) × (Nat → Int32) × (Nat → Int32) × (Nat → Int32) × (Nat → Int32) × (Nat → Int32) × S7) => z.1) eF) rfl rfl dX4_tell_138
                ·
                  refine lv_aload_n hx hb dX4_tell_102 rfl (lv_at hl 1 rfl) ?_
                  refine k_get (C := RX4) (T := TX4) (N := 6) (ci := 4) (v := .ref (h 2)) S hK hW k_X4_tell_in4 0 1 rfl rfl (by decide) k_X4_tell_f19 rfl dX4_tell_103 ?_
                  refine lv_iload hx hb dX4_tell_106 (lv_at hl 0 rfl) ?_
                  refine lv_aload_n hx hb dX4_tell_108 rfl (lv_at hl 1 rfl) ?_
                  refine lv_iload hx hb dX4_tell_109 (lv_at hl 0 rfl) ?_
                  refine lv_aload_n hx hb dX4_tell_111 rfl (lv_at hl 1 rfl) ?_
                  refine k_get (C := RX4) (T := TX4) (N := 6) (ci := 4) (v := .ref (h 4)) S hK hW k_X4_tell_in4 0 3 rfl rfl (by decide) k_X4_tell_f33 rfl dX4_tell_112 ?_
                  refine k_callVi (C := RX4) (As := [.int (nI n), .ref (h 4)]) (rest := [.int (nI n), .ref (h 2)]) (wr := [aZ G (h 10) 60 dn, cH h, aI G (h 11) 121 y1, aI G (h 12) 121 y2, aI G (h 13) 121 y3, aI G (h 14) 121 y4, aI G (h 15) 121 y5, aI G (h 16) 121 y6, aI G (h 17) 121 y7, aZ G (h 9) 60 (updB sk n false)]) (c_X4_perform l G h (h 4) (nI np) (nI (n + 1)) (upd mo n m) (upd ki n k) (upd am n x) q v (nI n)) S hK hW gX4_tell_X4_perform rfl ⟨rfl, rfl⟩ nd_X4_perform ⟨rfl, rfl⟩ (qb := 0) (ci := 4) rfl rfl [0, 12, 13, 14, 15, 10, 11] [1, 2, 3, 4, 5, 6, 7, 8, 9, 16] rfl rfl rfl rfl (by decide) rfl hl.1 rfl dX4_tell_115 ⟨Nat.zero_le _, Nat.zero_le _⟩ (fun H locs hW => ?_)
                  have hW : Wd G A sS.heap [aZ G (h 10) 60 dn, cH h, aI G (h 11) 121 y1, aI G (h 12) 121 y2, aI G (h 13) 121 y3, aI G (h 14) 121 y4, aI G (h 15) 121 y5, aI G (h 16) 121 y6, aI G (h 17) 121 y7, aZ G (h 9) 60 (updB sk n false), cF h (nI np), cB h (nI (n + 1)), aI G (h 6) 60 (upd mo n m), aI G (h 7) 60 (upd ki n k), aI G (h 8) 60 (upd am n x), cP (h 1) q, cS (h 4) ((F_X4_perform (nI (n + 1)) (upd mo n m) (upd ki n k) (upd am n x) q v (nI n)).2)] H locs := hW
                  refine k_callVv (C := RX0) (As := [.int (nI n), .int (bI ((F_X4_perform (nI (n + 1)) (upd mo n m) (upd ki n k) (upd am n x) q v (nI n)).1))]) (rest := []) (wr := [cH h, aI G (h 11) 121 y1, aI G (h 12) 121 y2, aI G (h 13) 121 y3, aI G (h 14) 121 y4, aI G (h 15) 121 y5, aI G (h 16) 121 y6, aI G (h 17) 121 y7, aZ G (h 9) 60 (updB sk n false), cF h (nI np), aI G (h 6) 60 (upd mo n m), aI G (h 7) 60 (upd ki n k), aI G (h 8) 60 (upd am n x), cP (h 1) q, cS (h 4) ((F_X4_perform (nI (n + 1)) (upd mo n m) (upd ki n k) (upd am n x) q v (nI n)).2)]) (c_X0_noteDone l G h (nI (n + 1)) dn (nI n) ((F_X4_perform (nI (n + 1)) (upd mo n m) (upd ki n k) (upd am n x) q v (nI n)).1)) S hK hW gX4_tell_X0_noteDone rfl ⟨rfl, rfl⟩ nd_X0_noteDone ⟨rfl, rfl⟩ (qb := 11) (ci := 0) rfl rfl [11, 0] [1, 2, 3, 4, 5, 6, 7, 8, 9, 10, 12, 13, 14, 15, 16] rfl rfl rfl rfl (by decide) rfl hl.1 rfl dX4_tell_118 ⟨Nat.zero_le _, Nat.zero_le _⟩ (fun H locs hW => ?_)
                  have hW : Wd G A sS.heap [cH h, aI G (h 11) 121 y1, aI G (h 12) 121 y2, aI G (h 13) 121 y3, aI G (h 14) 121 y4, aI G (h 15) 121 y5, aI G (h 16) 121 y6, aI G (h 17) 121 y7, aZ G (h 9) 60 (updB sk n false), cF h (nI np), aI G (h 6) 60 (upd mo n m), aI G (h 7) 60 (upd ki n k), aI G (h 8) 60 (upd am n x), cP (h 1) q, cS (h 4) ((F_X4_perform (nI (n + 1)) (upd mo n m) (upd ki n k) (upd am n x) q v (nI n)).2), cB h (nI (n + 1)), aZ G (h 10) 60 (F_X0_noteDone (nI (n + 1)) dn (nI n) ((F_X4_perform (nI (n + 1)) (upd mo n m) (upd ki n k) (upd am n x) q v (nI n)).1))] H locs := hW
                  refine lv_goto (tgt := 129) hx hb dX4_tell_121 (by decide) ?_
                  refine lv_aload_n hx hb dX4_tell_129 rfl (lv_at hl 1 rfl) ?_
                  refine k_get (C := RX4) (T := TX4) (N := 6) (ci := 4) (v := .ref (h 2)) S hK hW k_X4_tell_in4 9 1 rfl rfl (by decide) k_X4_tell_f19 rfl dX4_tell_130 ?_
                  refine lv_iload hx hb dX4_tell_133 (lv_at hl 0 rfl) ?_
                  refine k_callVi (C := RX0) (As := [.int (nI n)]) (rest := []) (wr := [cH h, aI G (h 11) 121 y1, aI G (h 12) 121 y2, aI G (h 13) 121 y3, aI G (h 14) 121 y4, aI G (h 15) 121 y5, aI G (h 16) 121 y6, aI G (h 17) 121 y7, aZ G (h 9) 60 (updB sk n false), cF h (nI np), aI G (h 6) 60 (upd mo n m), aI G (h 7) 60 (upd ki n k), aI G (h 8) 60 (upd am n x), cP (h 1) q, cS (h 4) ((F_X4_perform (nI (n + 1)) (upd mo n m) (upd ki n k) (upd am n x) q v (nI n)).2)]) (c_X0_wasDone l G h (nI (n + 1)) (F_X0_noteDone (nI (n + 1)) dn (nI n) ((F_X4_perform (nI (n + 1)) (upd mo n m) (upd ki n k) (upd am n x) q v (nI n)).1)) (nI n)) S hK hW gX4_tell_X0_wasDone rfl ⟨rfl, rfl⟩ nd_X0_wasDone ⟨rfl, rfl⟩ (qb := 15) (ci := 0) rfl rfl [15, 16] [0, 1, 2, 3, 4, 5, 6, 7, 8, 9, 10, 11, 12, 13, 14] rfl rfl rfl rfl (by decide) rfl hl.1 rfl dX4_tell_135 ⟨Nat.zero_le _, Nat.zero_le _⟩ (fun H locs hW => ?_)
                  have hW : Wd G A sS.heap [cH h, aI G (h 11) 121 y1, aI G (h 12) 121 y2, aI G (h 13) 121 y3, aI G (h 14) 121 y4, aI G (h 15) 121 y5, aI G (h 16) 121 y6, aI G (h 17) 121 y7, aZ G (h 9) 60 (updB sk n false), cF h (nI np), aI G (h 6) 60 (upd mo n m), aI G (h 7) 60 (upd ki n k), aI G (h 8) 60 (upd am n x), cP (h 1) q, cS (h 4) ((F_X4_perform (nI (n + 1)) (upd mo n m) (upd ki n k) (upd am n x) q v (nI n)).2), cB h (nI (n + 1)), aZ G (h 10) 60 (F_X0_noteDone (nI (n + 1)) dn (nI n) ((F_X4_perform (nI (n + 1)) (upd mo n m) (upd ki n k) (upd am n x) q v (nI n)).1))] H locs := hW
                  have eF : (F_X4_tell mo ki am sk dn y1 y2 y3 y4 y5 y6 y7 q v m k x np n) = (0, (F_X0_wasDone (nI (n + 1)) (F_X0_noteDone (nI (n + 1)) dn (nI n) ((F_X4_perform (nI (n + 1)) (upd mo n m) (upd ki n k) (upd am n x) q v (nI n)).1)) (nI n)), nI (n + 1), (upd mo n m), (upd ki n k), (upd am n x), (updB sk n false), (F_X0_noteDone (nI (n + 1)) dn (nI n) ((F_X4_perform (nI (n + 1)) (upd mo n m) (upd ki n k) (upd am n x) q v (nI n)).1)), y1, y2, y3, y4, y5, y6, y7, ((F_X4_perform (nI (n + 1)) (upd mo n m) (upd ki n k) (upd am n x) q v (nI n)).2)) := by
                    unfold F_X4_tell
                    rw [if_neg c_1, if_pos c_2, if_neg c_3, if_pos c_4, if_neg c_5, if_pos c_6, if_pos c_7, if_pos c_8]
                  exact kx_zret (wf := [cF h (nI np), cB h (nI (n + 1)), aI G (h 6) 60 (upd mo n m), aI G (h 7) 60 (upd ki n k), aI G (h 8) 60 (upd am n x), aZ G (h 9) 60 (updB sk n false), aZ G (h 10) 60 (F_X0_noteDone (nI (n + 1)) dn (nI n) ((F_X4_perform (nI (n + 1)) (upd mo n m) (upd ki n k) (upd am n x) q v (nI n)).1)), cH h, aI G (h 11) 121 y1, aI G (h 12) 121 y2, aI G (h 13) 121 y3, aI G (h 14) 121 y4, aI G (h 15) 121 y5, aI G (h 16) 121 y6, aI G (h 17) 121 y7, cP (h 1) q, cS (h 4) ((F_X4_perform (nI (n + 1)) (upd mo n m) (upd ki n k) (upd am n x) q v (nI n)).2)]) S hr hlk hK hW [9, 15, 10, 11, 12, 8, 16, 0, 1, 2, 3, 4, 5, 6, 7, 13, 14] rfl rfl (congrArg (fun (z : Int32 × Bool × Int32 × (Nat → Int32) × (Nat → Int32) × (Nat → Int32) × (Nat → Bool) × (Nat → Bool) × (Nat → Int32) × (Nat → Int32) × (Nat → Int32) × (Nat → Int32) × (Nat → Int32) × (Nat → Int32) × (Nat → Int32) × S7) => [cF h (nI np), cB h z.2.2.1, aI G (h 6) 60 z.2.2.2.1, aI G (h 7) 60 z.2.2.2.2.1, aI G (h 8) 60 z.2.2.2.2.2.1, aZ G (h 9) 60 z.2.2.2.2.2.2.1, aZ G (h 10) 60 z.2.2.2.2.2.2.2.1, cH h, aI G (h 11) 121 z.2.2.2.2.2.2.2.2.1, aI G (h 12) 121 z.2.2.2.2.2.2.2.2.2.1, aI G (h 13) 121 z.2.2.2.2.2.2.2.2.2.2.1, aI G (h 14) 121 z.2.2.2.2.2.2.2.2.2.2.2.1, aI G (h 15) 121 z.2.2.2.2.2.2.2.2.2.2.2.2.1, aI G (h 16) 121 z.2.2.2.2.2.2.2.2.2.2.2.2.2.1, aI G (h 17) 121 z.2.2.2.2.2.2.2.2.2.2.2.2.2.2.1, cP (h 1) q, cS (h 4) z.2.2.2.2.2.2.2.2.2.2.2.2.2.2.2]) eF).symm (congrArg (fun (z : Int32 × Bool × Int32 × (Nat → Int32) × (Nat → Int32) × (Nat → Int32) × (Nat → Bool) × (Nat → Bool) × (Nat → Int32) × (Nat → Int32) × (Nat → Int32) × (Nat → Int32) × (Nat → Int32) × (Nat → Int32) × (Nat → Int32) × S7) => bI z.2.1) eF).symm (congrArg (fun (z : Int32 × Bool × Int32 × (Nat → Int32) × (Nat → Int32) × (Nat → Int32) × (Nat → Bool) × (Nat → Bool) × (Nat → Int32) × (Nat → Int32) × (Nat → Int32) × (Nat → Int32) × (Nat → Int32) × (Nat → Int32) × (Nat → Int32) × S7) => z.1) eF) rfl rfl dX4_tell_138
              ·
                have eF : (F_X4_tell mo ki am sk dn y1 y2 y3 y4 y5 y6 y7 q v m k x np n) = (2, false, nI n, mo, ki, am, sk, dn, y1, y2, y3, y4, y5, y6, y7, v) := by
                  unfold F_X4_tell
                  rw [if_neg c_1, if_pos c_2, if_neg c_3, if_pos c_4, if_neg c_5, if_pos c_6, if_neg c_7]
                obtain ⟨sa, hsa⟩ := hXE.2.2.2.2.2 (80, "60 acts were told") (by decide +kernel)
                have eK : ((F_X4_tell mo ki am sk dn y1 y2 y3 y4 y5 y6 y7 q v m k x np n)).1 = 2 := congrArg (fun (z : Int32 × Bool × Int32 × (Nat → Int32) × (Nat → Int32) × (Nat → Int32) × (Nat → Bool) × (Nat → Bool) × (Nat → Int32) × (Nat → Int32) × (Nat → Int32) × (Nat → Int32) × (Nat → Int32) × (Nat → Int32) × (Nat → Int32) × S7) => z.1) eF
                exact kx_throw hst S hlk hex hXE hXZ hK hW [0, 16, 1, 2, 3, 4, 5, 6, 7, 8, 9, 10, 11, 12, 13, 14, 15] rfl rfl (ik := 78) (ix := 80) (ic := 82) (cls := nISE) (by decide +kernel) k_X4_tell_xl78 k_X4_tell_xi78 hsa (fun _ h => List.mem_cons_of_mem _ (List.mem_append_right _ h)) xb_nISE hXE.2.1 xg_nISE hl.1 dX4_tell_72 dX4_tell_75 dX4_tell_76 dX4_tell_78 dX4_tell_81 rfl rfl rfl rfl rfl rfl ⟨(2, nISE), List.mem_cons_of_mem _ List.mem_cons_self, eK, rfl⟩
            ·
              have eF : (F_X4_tell mo ki am sk dn y1 y2 y3 y4 y5 y6 y7 q v m k x np n) = (1, false, nI n, mo, ki, am, sk, dn, y1, y2, y3, y4, y5, y6, y7, v) := by
                unfold F_X4_tell
                rw [if_neg c_1, if_pos c_2, if_neg c_3, if_pos c_4, if_neg c_5, if_neg c_6]
              obtain ⟨sa, hsa⟩ := hXE.2.2.2.2.2 (72, "the amount is 1 to 2000000") (by decide +kernel)
              have eK : ((F_X4_tell mo ki am sk dn y1 y2 y3 y4 y5 y6 y7 q v m k x np n)).1 = 1 := congrArg (fun (z : Int32 × Bool × Int32 × (Nat → Int32) × (Nat → Int32) × (Nat → Int32) × (Nat → Bool) × (Nat → Bool) × (Nat → Int32) × (Nat → Int32) × (Nat → Int32) × (Nat → Int32) × (Nat → Int32) × (Nat → Int32) × (Nat → Int32) × S7) => z.1) eF
              exact kx_throw hst S hlk hex hXE hXZ hK hW [0, 1, 2, 3, 4, 5, 6, 7, 8, 9, 10, 11, 12, 13, 14, 15, 16] rfl rfl (ik := 44) (ix := 72) (ic := 48) (cls := nIAE) (by decide +kernel) k_X4_tell_xl44 k_X4_tell_xi44 hsa (fun _ h => List.mem_cons_of_mem _ (List.mem_append_left _ (List.mem_append_right _ h))) xb_nIAE hXE.1 xg_nIAE hl.1 dX4_tell_52 dX4_tell_55 dX4_tell_56 dX4_tell_58 dX4_tell_61 rfl rfl rfl rfl rfl rfl ⟨(1, nIAE), List.mem_cons_self, eK, rfl⟩
        ·
          have eF : (F_X4_tell mo ki am sk dn y1 y2 y3 y4 y5 y6 y7 q v m k x np n) = (1, false, nI n, mo, ki, am, sk, dn, y1, y2, y3, y4, y5, y6, y7, v) := by
            unfold F_X4_tell
            rw [if_neg c_1, if_pos c_2, if_neg c_3, if_neg c_4]
          obtain ⟨sa, hsa⟩ := hXE.2.2.2.2.2 (69, "the act is 0 to 5") (by decide +kernel)
          have eK : ((F_X4_tell mo ki am sk dn y1 y2 y3 y4 y5 y6 y7 q v m k x np n)).1 = 1 := congrArg (fun (z : Int32 × Bool × Int32 × (Nat → Int32) × (Nat → Int32) × (Nat → Int32) × (Nat → Bool) × (Nat → Bool) × (Nat → Int32) × (Nat → Int32) × (Nat → Int32) × (Nat → Int32) × (Nat → Int32) × (Nat → Int32) × (Nat → Int32) × S7) => z.1) eF
          exact kx_throw hst S hlk hex hXE hXZ hK hW [0, 1, 2, 3, 4, 5, 6, 7, 8, 9, 10, 11, 12, 13, 14, 15, 16] rfl rfl (ik := 44) (ix := 69) (ic := 48) (cls := nIAE) (by decide +kernel) k_X4_tell_xl44 k_X4_tell_xi44 hsa (fun _ h => List.mem_cons_of_mem _ (List.mem_append_left _ (List.mem_append_right _ h))) xb_nIAE hXE.1 xg_nIAE hl.1 dX4_tell_31 dX4_tell_34 dX4_tell_35 dX4_tell_37 dX4_tell_40 rfl rfl rfl rfl rfl rfl ⟨(1, nIAE), List.mem_cons_self, eK, rfl⟩
    ·
      have eF : (F_X4_tell mo ki am sk dn y1 y2 y3 y4 y5 y6 y7 q v m k x np n) = (1, false, nI n, mo, ki, am, sk, dn, y1, y2, y3, y4, y5, y6, y7, v) := by
        unfold F_X4_tell
        rw [if_neg c_1, if_neg c_2]
      obtain ⟨sa, hsa⟩ := hXE.2.2.2.2.2 (67, "the month is 0 to the present one") (by decide +kernel)
      have eK : ((F_X4_tell mo ki am sk dn y1 y2 y3 y4 y5 y6 y7 q v m k x np n)).1 = 1 := congrArg (fun (z : Int32 × Bool × Int32 × (Nat → Int32) × (Nat → Int32) × (Nat → Int32) × (Nat → Bool) × (Nat → Bool) × (Nat → Int32) × (Nat → Int32) × (Nat → Int32) × (Nat → Int32) × (Nat → Int32) × (Nat → Int32) × (Nat → Int32) × S7) => z.1) eF
      exact kx_throw hst S hlk hex hXE hXZ hK hW [0, 1, 2, 3, 4, 5, 6, 7, 8, 9, 10, 11, 12, 13, 14, 15, 16] rfl rfl (ik := 44) (ix := 67) (ic := 48) (cls := nIAE) (by decide +kernel) k_X4_tell_xl44 k_X4_tell_xi44 hsa (fun _ h => List.mem_cons_of_mem _ (List.mem_append_left _ (List.mem_append_right _ h))) xb_nIAE hXE.1 xg_nIAE hl.1 dX4_tell_12 dX4_tell_15 dX4_tell_16 dX4_tell_18 dX4_tell_21 rfl rfl rfl rfl rfl rfl ⟨(1, nIAE), List.mem_cons_self, eK, rfl⟩
