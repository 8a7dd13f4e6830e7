def F_X4_begin (p : Int32) (q : S3) (c : Int32) (v : S7) (x1 : Int32) (x2 : Int32) (x3 : Int32) : Int32 × Int32 × Int32 × S3 × Int32 × S7 :=
  if x1 < 18 then (1, 0, p, q, c, v)
  else (if x1 ≤ 70 then (if x2 < 100000 then (1, 0, p, q, c, v)
      else (if x2 ≤ 50000000 then (if x3 < 0 then (1, 0, p, q, c, v)
          else (if x3 ≤ 1 then (0, p, 0, (F_X2_agree x1 x2 x3), F_X0_empty, F_X3_startFresh)
            else (1, 0, p, q, c, v)))
        else (1, 0, p, q, c, v)))
    else (1, 0, p, q, c, v))
set_option maxRecDepth 100000 in
theorem k_X4_begin_xl44 : Cond.classLink RX4 44 nIAE ∈ wsX4_begin := by decide +kernel
set_option maxRecDepth 100000 in
theorem k_X4_begin_xi44 : Cond.initialized nIAE ∈ wsX4_begin := by decide +kernel
set_option maxRecDepth 100000 in
theorem k_X4_begin_c51 : Cond.constant RX4 51 (100000) ∈ wsX4_begin := by decide +kernel
set_option maxRecDepth 100000 in
theorem k_X4_begin_c52 : Cond.constant RX4 52 (50000000) ∈ wsX4_begin := by decide +kernel
set_option maxRecDepth 100000 in
theorem k_X4_begin_f40 : Cond.fieldLink RX4 40 "FlexiblePolicy" "present" "I" ∈ wsX4_begin := by decide +kernel
set_option maxRecDepth 100000 in
theorem k_X4_begin_in4 : ∀ w ∈ u_ws RX4 TX4 6, w ∈ wsX4_begin := by decide +kernel
set_option maxRecDepth 100000 in
theorem k_X4_begin_f10 : Cond.fieldLink RX4 10 "FlexiblePolicy" "plan" "LFlexiblePolicy$Plan;" ∈ wsX4_begin := by decide +kernel
set_option maxRecDepth 100000 in
theorem k_X4_begin_f19 : Cond.fieldLink RX4 19 "FlexiblePolicy" "book" "LFlexiblePolicy$ActBook;" ∈ wsX4_begin := by decide +kernel
set_option maxRecDepth 100000 in
theorem k_X4_begin_f33 : Cond.fieldLink RX4 33 "FlexiblePolicy" "now" "LFlexiblePolicy$Standing;" ∈ wsX4_begin := by decide +kernel
theorem nd_X4_begin : yX4_begin.cls = RX4 ∧ yX4_begin.cls ≠ "java/lang/invoke/MethodHandle" ∧ yX4_begin.cls ≠ "java/lang/invoke/VarHandle" ∧ (parseMethodDescriptor yX4_begin.desc).map (fun d => d.parameters.length) = some 3 := by decide +kernel
abbrev rm_X4_begin : Room := { frames := 6, cells := 1, slots := 6, locals := 82 }
set_option maxHeartbeats 4000000 in
set_option maxRecDepth 100000 in
theorem c_X4_begin (l : Launch) (hst : l.stackTraces = false) (G : GG) (h : Nat → Nat) (p : Int32) (q : S3) (c : Int32) (v : S7) (x1 : Int32) (x2 : Int32) (x3 : Int32) : CX l G yX4_begin wsX4_begin rm_X4_begin [.ref (h 0), .int x1, .int x2, .int x3] [cF h p, cP (h 1) q, cB h c, cS (h 4) v] ((F_X4_begin p q c v x1 x2 x3).1) ((F_X4_begin p q c v x1 x2 x3).2.1) [cF h ((F_X4_begin p q c v x1 x2 x3).2.2.1), cP (h 1) ((F_X4_begin p q c v x1 x2 x3).2.2.2.1), cB h ((F_X4_begin p q c v x1 x2 x3).2.2.2.2.1), cS (h 4) ((F_X4_begin p q c v x1 x2 x3).2.2.2.2.2)] [(1, nIAE)] := by
  refine CX_of (own := RX4) (by decide +kernel) rfl rfl (Nat.le_of_ble_eq_true rfl) ?_
  intro pP eE sS mM args below meth cC A S hK hr hlk hex hXE hXZ hW ls hl
  have hx := S.1
  have hb := S.2.1
  have hl : lv_has ls 5 [(0, .ref (h 0)), (1, .int x1), (2, .int x2), (3, .int x3)] := hl
  have hW : Wd G A sS.heap [cF h p, cP (h 1) q, cB h c, cS (h 4) v] sS.heap [] := hW
  refine lv_iload_n hx hb dX4_begin_0 rfl (lv_at hl 1 rfl) ?_
  refine lv_bipush (v := 18) hx hb dX4_begin_1 (by decide) ?_
  refine lv_icmp_lt (tgt := 12) hx hb dX4_begin_3 (by decide) (fun c_1 => ?_) (fun c_1 => ?_)
  ·
    have eF : (F_X4_begin p q c v x1 x2 x3) = (1, 0, p, q, c, v) := by
      unfold F_X4_begin
      rw [if_pos c_1]
    obtain ⟨sa, hsa⟩ := hXE.2.2.2.2.2 (46, "the age is 18 to 70") (by decide +kernel)
    have eK : ((F_X4_begin p q c v x1 x2 x3)).1 = 1 := congrArg (fun (z : Int32 × Int32 × Int32 × S3 × Int32 × S7) => z.1) eF
    exact kx_throw hst S hlk hex hXE hXZ hK hW [0, 1, 2, 3] rfl rfl (ik := 44) (ix := 46) (ic := 48) (cls := nIAE) (by decide +kernel) k_X4_begin_xl44 k_X4_begin_xi44 hsa (fun _ h => List.mem_cons_of_mem _ (List.mem_append_right _ h)) xb_nIAE hXE.1 xg_nIAE hl.1 dX4_begin_12 dX4_begin_15 dX4_begin_16 dX4_begin_18 dX4_begin_21 rfl rfl rfl rfl rfl rfl ⟨(1, nIAE), List.mem_cons_self, eK, rfl⟩
  ·
    refine lv_iload_n hx hb dX4_begin_6 rfl (lv_at hl 1 rfl) ?_
    refine lv_bipush (v := 70) hx hb dX4_begin_7 (by decide) ?_
    refine lv_icmp_le (tgt := 22) hx hb dX4_begin_9 (by decide) (fun c_2 => ?_) (fun c_2 => ?_)
    ·
      refine lv_iload_n hx hb dX4_begin_22 rfl (lv_at hl 2 rfl) ?_
      refine k_ldc S k_X4_begin_c51 dX4_begin_23 ?_
      refine lv_icmp_lt (tgt := 34) hx hb dX4_begin_25 (by decide) (fun c_3 => ?_) (fun c_3 => ?_)
      ·
        have eF : (F_X4_begin p q c v x1 x2 x3) = (1, 0, p, q, c, v) := by
          unfold F_X4_begin
          rw [if_neg c_1, if_pos c_2, if_pos c_3]
        obtain ⟨sa, hsa⟩ := hXE.2.2.2.2.2 (53, "the sum is 100000 to 50000000") (by decide +kernel)
        have eK : ((F_X4_begin p q c v x1 x2 x3)).1 = 1 := congrArg (fun (z : Int32 × Int32 × Int32 × S3 × Int32 × S7) => z.1) eF
        exact kx_throw hst S hlk hex hXE hXZ hK hW [0, 1, 2, 3] rfl rfl (ik := 44) (ix := 53) (ic := 48) (cls := nIAE) (by decide +kernel) k_X4_begin_xl44 k_X4_begin_xi44 hsa (fun _ h => List.mem_cons_of_mem _ (List.mem_append_right _ h)) xb_nIAE hXE.1 xg_nIAE hl.1 dX4_begin_34 dX4_begin_37 dX4_begin_38 dX4_begin_40 dX4_begin_43 rfl rfl rfl rfl rfl rfl ⟨(1, nIAE), List.mem_cons_self, eK, rfl⟩
      ·
        refine lv_iload_n hx hb dX4_begin_28 rfl (lv_at hl 2 rfl) ?_
        refine k_ldc S k_X4_begin_c52 dX4_begin_29 ?_
        refine lv_icmp_le (tgt := 44) hx hb dX4_begin_31 (by decide) (fun c_4 => ?_) (fun c_4 => ?_)
        ·
          refine lv_iload_n hx hb dX4_begin_44 rfl (lv_at hl 3 rfl) ?_
          refine lv_if_lt (tgt := 53) hx hb dX4_begin_45 (by decide) (fun c_5 => ?_) (fun c_5 => ?_)
          ·
            have eF : (F_X4_begin p q c v x1 x2 x3) = (1, 0, p, q, c, v) := by
              unfold F_X4_begin
              rw [if_neg c_1, if_pos c_2, if_neg c_3, if_pos c_4, if_pos c_5]
            obtain ⟨sa, hsa⟩ := hXE.2.2.2.2.2 (55, "the kind is 0 or 1") (by decide +kernel)
            have eK : ((F_X4_begin p q c v x1 x2 x3)).1 = 1 := congrArg (fun (z : Int32 × Int32 × Int32 × S3 × Int32 × S7) => z.1) eF
            exact kx_throw hst S hlk hex hXE hXZ hK hW [0, 1, 2, 3] rfl rfl (ik := 44) (ix := 55) (ic := 48) (cls := nIAE) (by decide +kernel) k_X4_begin_xl44 k_X4_begin_xi44 hsa (fun _ h => List.mem_cons_of_mem _ (List.mem_append_right _ h)) xb_nIAE hXE.1 xg_nIAE hl.1 dX4_begin_53 dX4_begin_56 dX4_begin_57 dX4_begin_59 dX4_begin_62 rfl rfl rfl rfl rfl rfl ⟨(1, nIAE), List.mem_cons_self, eK, rfl⟩
          ·
            refine lv_iload_n hx hb dX4_begin_48 rfl (lv_at hl 3 rfl) ?_
            refine lv_iconst (v := 1) hx hb dX4_begin_49 (by decide) ?_
            refine lv_icmp_le (tgt := 63) hx hb dX4_begin_50 (by decide) (fun c_6 => ?_) (fun c_6 => ?_)
            ·
              refine lv_aload_n hx hb dX4_begin_63 rfl (lv_at hl 0 rfl) ?_
              refine k_get (C := RX4) (T := TX4) (N := 6) (ci := 4) (v := .int p) S hK hW k_X4_begin_in4 0 5 rfl rfl (by decide) k_X4_begin_f40 rfl dX4_begin_64 ?_
              refine lv_istore (lv' := [(4, .int p), (0, .ref (h 0)), (1, .int x1), (2, .int x2), (3, .int x3)]) hx hb dX4_begin_67 hl (by decide) rfl (fun ls hl => ?_)
              refine lv_aload_n hx hb dX4_begin_69 rfl (lv_at hl 1 rfl) ?_
              refine k_get (C := RX4) (T := TX4) (N := 6) (ci := 4) (v := .ref (h 1)) S hK hW k_X4_begin_in4 0 0 rfl rfl (by decide) k_X4_begin_f10 rfl dX4_begin_70 ?_
              refine lv_iload_n hx hb dX4_begin_73 rfl (lv_at hl 2 rfl) ?_
              refine lv_iload_n hx hb dX4_begin_74 rfl (lv_at hl 3 rfl) ?_
              refine lv_iload_n hx hb dX4_begin_75 rfl (lv_at hl 4 rfl) ?_
              refine k_callVv (C := RX2) (As := [.int x1, .int x2, .int x3]) (rest := []) (wr := [cF h p, cB h c, cS (h 4) v]) (c_X2_agree l G (h 1) q x1 x2 x3) S hK hW gX4_begin_X2_agree rfl ⟨rfl, rfl⟩ nd_X2_agree ⟨rfl, rfl⟩ (qb := 1) (ci := 2) rfl rfl [1] [0, 2, 3] rfl rfl rfl rfl (by decide) rfl hl.1 rfl dX4_begin_76 ⟨Nat.zero_le _, Nat.zero_le _⟩ (fun H locs hW => ?_)
              have hW : Wd G A sS.heap [cF h p, cB h c, cS (h 4) v, cP (h 1) (F_X2_agree x1 x2 x3)] H locs := hW
              refine lv_aload_n hx hb dX4_begin_79 rfl (lv_at hl 1 rfl) ?_
              refine k_get (C := RX4) (T := TX4) (N := 6) (ci := 4) (v := .ref (h 2)) S hK hW k_X4_begin_in4 0 1 rfl rfl (by decide) k_X4_begin_f19 rfl dX4_begin_80 ?_
              refine k_callVv (C := RX0) (As := []) (rest := []) (wr := [cF h p, cS (h 4) v, cP (h 1) (F_X2_agree x1 x2 x3)]) (c_X0_empty l G h c) S hK hW gX4_begin_X0_empty rfl ⟨rfl, rfl⟩ nd_X0_empty ⟨rfl, rfl⟩ (qb := 1) (ci := 0) rfl rfl [1] [0, 2, 3] rfl rfl rfl rfl (by decide) rfl hl.1 rfl dX4_begin_83 ⟨Nat.zero_le _, Nat.zero_le _⟩ (fun H locs hW => ?_)
              have hW : Wd G A sS.heap [cF h p, cS (h 4) v, cP (h 1) (F_X2_agree x1 x2 x3), cB h F_X0_empty] H locs := hW
              refine lv_aload_n hx hb dX4_begin_86 rfl (lv_at hl 1 rfl) ?_
              refine k_get (C := RX4) (T := TX4) (N := 6) (ci := 4) (v := .ref (h 4)) S hK hW k_X4_begin_in4 0 3 rfl rfl (by decide) k_X4_begin_f33 rfl dX4_begin_87 ?_
              refine k_callVv (C := RX3) (As := []) (rest := []) (wr := [cF h p, cP (h 1) (F_X2_agree x1 x2 x3), cB h F_X0_empty]) (c_X3_startFresh l G (h 4) v) S hK hW gX4_begin_X3_startFresh rfl ⟨rfl, rfl⟩ nd_X3_startFresh ⟨rfl, rfl⟩ (qb := 1) (ci := 3) rfl rfl [1] [0, 2, 3] rfl rfl rfl rfl (by decide) rfl hl.1 rfl dX4_begin_90 ⟨Nat.zero_le _, Nat.zero_le _⟩ (fun H locs hW => ?_)
              have hW : Wd G A sS.heap [cF h p, cP (h 1) (F_X2_agree x1 x2 x3), cB h F_X0_empty, cS (h 4) F_X3_startFresh] H locs := hW
              refine lv_aload_n hx hb dX4_begin_93 rfl (lv_at hl 1 rfl) ?_
              refine lv_iconst (v := 0) hx hb dX4_begin_94 (by decide) ?_
              refine k_put (C := RX4) (T := TX4) (N := 6) (ci := 4) (v := .int 0) (ws' := [cF h 0, cP (h 1) (F_X2_agree x1 x2 x3), cB h F_X0_empty, cS (h 4) F_X3_startFresh]) S hK hW k_X4_begin_in4 tyX4_ok nmX4 0 5 rfl rfl (by decide) k_X4_begin_f40 rfl rfl rfl rfl rfl dX4_begin_95 (fun H locs hW => ?_)
              refine lv_iload hx hb dX4_begin_98 (lv_at hl 0 rfl) ?_
              have eF : (F_X4_begin p q c v x1 x2 x3) = (0, p, 0, (F_X2_agree x1 x2 x3), F_X0_empty, F_X3_startFresh) := by
                unfold F_X4_begin
                rw [if_neg c_1, if_pos c_2, if_neg c_3, if_pos c_4, if_neg c_5, if_pos c_6]
              exact kx_iret (wf := [cF h 0, cP (h 1) (F_X2_agree x1 x2 x3), cB h F_X0_empty, cS (h 4) F_X3_startFresh]) S hr hlk hK hW [0, 1, 2, 3] rfl rfl (congrArg (fun (z : Int32 × Int32 × Int32 × S3 × Int32 × S7) => [cF h z.2.2.1, cP (h 1) z.2.2.2.1, cB h z.2.2.2.2.1, cS (h 4) z.2.2.2.2.2]) eF).symm (congrArg (fun (z : Int32 × Int32 × Int32 × S3 × Int32 × S7) => z.2.1) eF).symm (congrArg (fun (z : Int32 × Int32 × Int32 × S3 × Int32 × S7) => z.1) eF) rfl rfl dX4_begin_100
            ·
              have eF : (F_X4_begin p q c v x1 x2 x3) = (1, 0, p, q, c, v) := by
                unfold F_X4_begin
                rw [if_neg c_1, if_pos c_2, if_neg c_3, if_pos c_4, if_neg c_5, if_neg c_6]
              obtain ⟨sa, hsa⟩ := hXE.2.2.2.2.2 (55, "the kind is 0 or 1") (by decide +kernel)
              have eK : ((F_X4_begin p q c v x1 x2 x3)).1 = 1 := congrArg (fun (z : Int32 × Int32 × Int32 × S3 × Int32 × S7) => z.1) eF
              exact kx_throw hst S hlk hex hXE hXZ hK hW [0, 1, 2, 3] rfl rfl (ik := 44) (ix := 55) (ic := 48) (cls := nIAE) (by decide +kernel) k_X4_begin_xl44 k_X4_begin_xi44 hsa (fun _ h => List.mem_cons_of_mem _ (List.mem_append_right _ h)) xb_nIAE hXE.1 xg_nIAE hl.1 dX4_begin_53 dX4_begin_56 dX4_begin_57 dX4_begin_59 dX4_begin_62 rfl rfl rfl rfl rfl rfl ⟨(1, nIAE), List.mem_cons_self, eK, rfl⟩
        ·
          have eF : (F_X4_begin p q c v x1 x2 x3) = (1, 0, p, q, c, v) := by
            unfold F_X4_begin
            rw [if_neg c_1, if_pos c_2, if_neg c_3, if_neg c_4]
          obtain ⟨sa, hsa⟩ := hXE.2.2.2.2.2 (53, "the sum is 100000 to 50000000") (by decide +kernel)
          have eK : ((F_X4_begin p q c v x1 x2 x3)).1 = 1 := congrArg (fun (z : Int32 × Int32 × Int32 × S3 × Int32 × S7) => z.1) eF
          exact kx_throw hst S hlk hex hXE hXZ hK hW [0, 1, 2, 3] rfl rfl (ik := 44) (ix := 53) (ic := 48) (cls := nIAE) (by decide +kernel) k_X4_begin_xl44 k_X4_begin_xi44 hsa (fun _ h => List.mem_cons_of_mem _ (List.mem_append_right _ h)) xb_nIAE hXE.1 xg_nIAE hl.1 dX4_begin_34 dX4_begin_37 dX4_begin_38 dX4_begin_40 dX4_begin_43 rfl rfl rfl rfl rfl rfl ⟨(1, nIAE), List.mem_cons_self, eK, rfl⟩
    ·
      have eF : (F_X4_begin p q c v x1 x2 x3) = (1, 0, p, q, c, v) := by
        unfold F_X4_begin
        rw [if_neg c_1, if_neg c_2]
      obtain ⟨sa, hsa⟩ := hXE.2.2.2.2.2 (46, "the age is 18 to 70") (by decide +kernel)
      have eK : ((F_X4_begin p q c v x1 x2 x3)).1 = 1 := congrArg (fun (z : Int32 × Int32 × Int32 × S3 × Int32 × S7) => z.1) eF
      exact kx_throw hst S hlk hex hXE hXZ hK hW [0, 1, 2, 3] rfl rfl (ik := 44) (ix := 46) (ic := 48) (cls := nIAE) (by decide +kernel) k_X4_begin_xl44 k_X4_begin_xi44 hsa (fun _ h => List.mem_cons_of_mem _ (List.mem_append_right _ h)) xb_nIAE hXE.1 xg_nIAE hl.1 dX4_begin_12 dX4_begin_15 dX4_begin_16 dX4_begin_18 dX4_begin_21 rfl rfl rfl rfl rfl rfl ⟨(1, nIAE), List.mem_cons_self, eK, rfl⟩
def F_X4_corridor (x : Int32) : Int32 × Int32 :=
  if x < 18 then (1, 0)
  else (if x ≤ 120 then (0, (F_X2_corridorFor x))
    else (1, 0))
set_option maxRecDepth 100000 in
theorem k_X4_corridor_xl44 : Cond.classLink RX4 44 nIAE ∈ wsX4_corridor := by decide +kernel
set_option maxRecDepth 100000 in
theorem k_X4_corridor_xi44 : Cond.initialized nIAE ∈ wsX4_corridor := by decide +kernel
set_option maxRecDepth 100000 in
theorem k_X4_corridor_f10 : Cond.fieldLink RX4 10 "FlexiblePolicy" "plan" "LFlexiblePolicy$Plan;" ∈ wsX4_corridor := by decide +kernel
set_option maxRecDepth 100000 in
theorem k_X4_corridor_in4 : ∀ w ∈ u_ws RX4 TX4 6, w ∈ wsX4_corridor := by decide +kernel
theorem nd_X4_corridor : yX4_corridor.cls = RX4 ∧ yX4_corridor.cls ≠ "java/lang/invoke/MethodHandle" ∧ yX4_corridor.cls ≠ "java/lang/invoke/VarHandle" ∧ (parseMethodDescriptor yX4_corridor.desc).map (fun d => d.parameters.length) = some 1 := by decide +kernel
abbrev rm_X4_corridor : Room := { frames := 6, cells := 1, slots := 6, locals := 82 }
set_option maxHeartbeats 4000000 in
set_option maxRecDepth 100000 in
theorem c_X4_corridor (l : Launch) (hst : l.stackTraces = false) (G : GG) (h : Nat → Nat) (p : Int32) (q : S3) (x : Int32) : CX l G yX4_corridor wsX4_corridor rm_X4_corridor [.ref (h 0), .int x] [cF h p, cP (h 1) q] ((F_X4_corridor x).1) ((F_X4_corridor x).2) [cF h p, cP (h 1) q] [(1, nIAE)] := by
  refine CX_of (own := RX4) (by decide +kernel) rfl rfl (Nat.le_of_ble_eq_true rfl) ?_
  intro pP eE sS mM args below meth cC A S hK hr hlk hex hXE hXZ hW ls hl
  have hx := S.1
  have hb := S.2.1
  have hl : lv_has ls 2 [(0, .ref (h 0)), (1, .int x)] := hl
  have hW : Wd G A sS.heap [cF h p, cP (h 1) q] sS.heap [] := hW
  refine lv_iload_n hx hb dX4_corridor_0 rfl (lv_at hl 1 rfl) ?_
  refine lv_bipush (v := 18) hx hb dX4_corridor_1 (by decide) ?_
  refine lv_icmp_lt (tgt := 12) hx hb dX4_corridor_3 (by decide) (fun c_1 => ?_) (fun c_1 => ?_)
  ·
    have eF : (F_X4_corridor x) = (1, 0) := by
      unfold F_X4_corridor
      rw [if_pos c_1]
    obtain ⟨sa, hsa⟩ := hXE.2.2.2.2.2 (160, "the age is 18 to 120") (by decide +kernel)
    have eK : ((F_X4_corridor x)).1 = 1 := congrArg (fun (z : Int32 × Int32) => z.1) eF
    exact kx_throw hst S hlk hex hXE hXZ hK hW [0, 1] rfl rfl (ik := 44) (ix := 160) (ic := 48) (cls := nIAE) (by decide +kernel) k_X4_corridor_xl44 k_X4_corridor_xi44 hsa (fun _ h => List.mem_cons_of_mem _ (List.mem_append_right _ h)) xb_nIAE hXE.1 xg_nIAE hl.1 dX4_corridor_12 dX4_corridor_15 dX4_corridor_16 dX4_corridor_18 dX4_corridor_21 rfl rfl rfl rfl rfl rfl ⟨(1, nIAE), List.mem_cons_self, eK, rfl⟩
  ·
    refine lv_iload_n hx hb dX4_corridor_6 rfl (lv_at hl 1 rfl) ?_
    refine lv_bipush (v := 120) hx hb dX4_corridor_7 (by decide) ?_
    refine lv_icmp_le (tgt := 22) hx hb dX4_corridor_9 (by decide) (fun c_2 => ?_) (fun c_2 => ?_)
    ·
      refine lv_aload_n hx hb dX4_corridor_22 rfl (lv_at hl 0 rfl) ?_
      refine k_get (C := RX4) (T := TX4) (N := 6) (ci := 4) (v := .ref (h 1)) S hK hW k_X4_corridor_in4 0 0 rfl rfl (by decide) k_X4_corridor_f10 rfl dX4_corridor_23 ?_
      refine lv_iload_n hx hb dX4_corridor_26 rfl (lv_at hl 1 rfl) ?_
      refine k_callVi (C := RX2) (As := [.int x]) (rest := []) (wr := [cF h p]) (c_X2_corridorFor l G (h 1) q x) S hK hW gX4_corridor_X2_corridorFor rfl ⟨rfl, rfl⟩ nd_X2_corridorFor ⟨rfl, rfl⟩ (qb := 1) (ci := 2) rfl rfl [1] [0] rfl rfl rfl rfl (by decide) rfl hl.1 rfl dX4_corridor_27 ⟨Nat.zero_le _, Nat.zero_le _⟩ (fun H locs hW => ?_)
      have hW : Wd G A sS.heap [cF h p, cP (h 1) q] H locs := hW
      have eF : (F_X4_corridor x) = (0, (F_X2_corridorFor x)) := by
        unfold F_X4_corridor
        rw [if_neg c_1, if_pos c_2]
      exact kx_iret (wf := [cF h p, cP (h 1) q]) S hr hlk hK hW [0, 1] rfl rfl rfl (congrArg (fun (z : Int32 × Int32) => z.2) eF).symm (congrArg (fun (z : Int32 × Int32) => z.1) eF) rfl rfl dX4_corridor_30
    ·
      have eF : (F_X4_corridor x) = (1, 0) := by
        unfold F_X4_corridor
        rw [if_neg c_1, if_neg c_2]
      obtain ⟨sa, hsa⟩ := hXE.2.2.2.2.2 (160, "the age is 18 to 120") (by decide +kernel)
      have eK : ((F_X4_corridor x)).1 = 1 := congrArg (fun (z : Int32 × Int32) => z.1) eF
      exact kx_throw hst S hlk hex hXE hXZ hK hW [0, 1] rfl rfl (ik := 44) (ix := 160) (ic := 48) (cls := nIAE) (by decide +kernel) k_X4_corridor_xl44 k_X4_corridor_xi44 hsa (fun _ h => List.mem_cons_of_mem _ (List.mem_append_right _ h)) xb_nIAE hXE.1 xg_nIAE hl.1 dX4_corridor_12 dX4_corridor_15 dX4_corridor_16 dX4_corridor_18 dX4_corridor_21 rfl rfl rfl rfl rfl rfl ⟨(1, nIAE), List.mem_cons_self, eK, rfl⟩
def F_X4_accountAt (p : Int32) (y1 : (Nat → Int32)) (y2 : (Nat → Int32)) (y3 : (Nat → Int32)) (y4 : (Nat → Int32)) (y5 : (Nat → Int32)) (y6 : (Nat → Int32)) (y7 : (Nat → Int32)) (tr : S7) (x : Int32) : Int32 × Int32 × S7 :=
  if x < 0 then (1, 0, tr)
  else (if x ≤ p then (0, (F_X1_recall y1 y2 y3 y4 y5 y6 y7 tr x).2.1, (F_X1_recall y1 y2 y3 y4 y5 y6 y7 tr x))
    else (1, 0, tr))
set_option maxRecDepth 100000 in
theorem k_X4_accountAt_xl44 : Cond.classLink RX4 44 nIAE ∈ wsX4_accountAt := by decide +kernel
set_option maxRecDepth 100000 in
theorem k_X4_accountAt_xi44 : Cond.initialized nIAE ∈ wsX4_accountAt := by decide +kernel
set_option maxRecDepth 100000 in
theorem k_X4_accountAt_f40 : Cond.fieldLink RX4 40 "FlexiblePolicy" "present" "I" ∈ wsX4_accountAt := by decide +kernel
set_option maxRecDepth 100000 in
theorem k_X4_accountAt_in4 : ∀ w ∈ u_ws RX4 TX4 6, w ∈ wsX4_accountAt := by decide +kernel
set_option maxRecDepth 100000 in
theorem k_X4_accountAt_f26 : Cond.fieldLink RX4 26 "FlexiblePolicy" "history" "LFlexiblePolicy$History;" ∈ wsX4_accountAt := by decide +kernel
set_option maxRecDepth 100000 in
theorem k_X4_accountAt_f37 : Cond.fieldLink RX4 37 "FlexiblePolicy" "trial" "LFlexiblePolicy$Standing;" ∈ wsX4_accountAt := by decide +kernel
set_option maxRecDepth 100000 in
theorem k_X4_accountAt_f135 : Cond.fieldLink RX4 135 "FlexiblePolicy$Standing" "account" "I" ∈ wsX4_accountAt := by decide +kernel
set_option maxRecDepth 100000 in
theorem k_X4_accountAt_in3 : ∀ w ∈ u_ws RX3 TX3 7, w ∈ wsX4_accountAt := by decide +kernel
theorem nd_X4_accountAt : yX4_accountAt.cls = RX4 ∧ yX4_accountAt.cls ≠ "java/lang/invoke/MethodHandle" ∧ yX4_accountAt.cls ≠ "java/lang/invoke/VarHandle" ∧ (parseMethodDescriptor yX4_accountAt.desc).map (fun d => d.parameters.length) = some 1 := by decide +kernel
abbrev rm_X4_accountAt : Room := { frames := 6, cells := 1, slots := 6, locals := 82 }
set_option maxHeartbeats 4000000 in
set_option maxRecDepth 100000 in
theorem c_X4_accountAt (l : Launch) (hst : l.stackTraces = false) (G : GG) (h : Nat → Nat) (p : Int32) (y1 : (Nat → Int32)) (y2 : (Nat → Int32)) (y3 : (Nat → Int32)) (y4 : (Nat → Int32)) (y5 : (Nat → Int32)) (y6 : (Nat → Int32)) (y7 : (Nat → Int32)) (tr : S7) (x : Int32) : CX l G yX4_accountAt wsX4_accountAt rm_X4_accountAt [.ref (h 0), .int x] [cF h p, cH h, aI G (h 11) 121 y1, aI G (h 12) 121 y2, aI G (h 13) 121 y3, aI G (h 14) 121 y4, aI G (h 15) 121 y5, aI G (h 16) 121 y6, aI G (h 17) 121 y7, cS (h 5) tr] ((F_X4_accountAt p y1 y2 y3 y4 y5 y6 y7 tr x).1) ((F_X4_accountAt p y1 y2 y3 y4 y5 y6 y7 tr x).2.1) [cF h p, cH h, aI G (h 11) 121 y1, aI G (h 12) 121 y2, aI G (h 13) 121 y3, aI G (h 14) 121 y4, aI G (h 15) 121 y5, aI G (h 16) 121 y6, aI G (h 17) 121 y7, cS (h 5) ((F_X4_accountAt p y1 y2 y3 y4 y5 y6 y7 tr x).2.2)] [(1, nIAE)] := by
  refine CX_of (own := RX4) (by decide +kernel) rfl rfl (Nat.le_of_ble_eq_true rfl) ?_
  intro pP eE sS mM args below meth cC A S hK hr hlk hex hXE hXZ hW ls hl
  have hx := S.1
  have hb := S.2.1
  have hl : lv_has ls 2 [(0, .ref (h 0)), (1, .int x)] := hl
  have hW : Wd G A sS.heap [cF h p, cH h, aI G (h 11) 121 y1, aI G (h 12) 121 y2, aI G (h 13) 121 y3, aI G (h 14) 121 y4, aI G (h 15) 121 y5, aI G (h 16) 121 y6, aI G (h 17) 121 y7, cS (h 5) tr] sS.heap [] := hW
  refine lv_iload_n hx hb dX4_accountAt_0 rfl (lv_at hl 1 rfl) ?_
  refine lv_if_lt (tgt := 12) hx hb dX4_accountAt_1 (by decide) (fun c_1 => ?_) (fun c_1 => ?_)
  ·
    have eF : (F_X4_accountAt p y1 y2 y3 y4 y5 y6 y7 tr x) = (1, 0, tr) := by
      unfold F_X4_accountAt
      rw [if_pos c_1]
    obtain ⟨sa, hsa⟩ := hXE.2.2.2.2.2 (67, "the month is 0 to the present one") (by decide +kernel)
    have eK : ((F_X4_accountAt p y1 y2 y3 y4 y5 y6 y7 tr x)).1 = 1 := congrArg (fun (z : Int32 × Int32 × S7) => z.1) eF
    exact kx_throw hst S hlk hex hXE hXZ hK hW [0, 1, 2, 3, 4, 5, 6, 7, 8, 9] rfl rfl (ik := 44) (ix := 67) (ic := 48) (cls := nIAE) (by decide +kernel) k_X4_accountAt_xl44 k_X4_accountAt_xi44 hsa (fun _ h => List.mem_cons_of_mem _ (List.mem_append_right _ h)) xb_nIAE hXE.1 xg_nIAE hl.1 dX4_accountAt_12 dX4_accountAt_15 dX4_accountAt_16 dX4_accountAt_18 dX4_accountAt_21 rfl rfl rfl rfl rfl rfl ⟨(1, nIAE), List.mem_cons_self, eK, rfl⟩
  ·
    refine lv_iload_n hx hb dX4_accountAt_4 rfl (lv_at hl 1 rfl) ?_
    refine lv_aload_n hx hb dX4_accountAt_5 rfl (lv_at hl 0 rfl) ?_
    refine k_get (C := RX4) (T := TX4) (N := 6) (ci := 4) (v := .int p) S hK hW k_X4_accountAt_in4 0 5 rfl rfl (by decide) k_X4_accountAt_f40 rfl dX4_accountAt_6 ?_
    refine lv_icmp_le (tgt := 22) hx hb dX4_accountAt_9 (by decide) (fun c_2 => ?_) (fun c_2 => ?_)
    ·
      refine lv_aload_n hx hb dX4_accountAt_22 rfl (lv_at hl 0 rfl) ?_
      refine k_get (C := RX4) (T := TX4) (N := 6) (ci := 4) (v := .ref (h 3)) S hK hW k_X4_accountAt_in4 0 2 rfl rfl (by decide) k_X4_accountAt_f26 rfl dX4_accountAt_23 ?_
      refine lv_iload_n hx hb dX4_accountAt_26 rfl (lv_at hl 1 rfl) ?_
      refine lv_aload_n hx hb dX4_accountAt_27 rfl (lv_at hl 0 rfl) ?_
      refine k_get (C := RX4) (T := TX4) (N := 6) (ci := 4) (v := .ref (h 5)) S hK hW k_X4_accountAt_in4 0 4 rfl rfl (by decide) k_X4_accountAt_f37 rfl dX4_accountAt_28 ?_
      refine k_callVv (C := RX1) (As := [.int x, .ref (h 5)]) (rest := []) (wr := [cF h p]) (c_X1_recall l G h (h 5) y1 y2 y3 y4 y5 y6 y7 tr x) S hK hW gX4_accountAt_X1_recall rfl ⟨rfl, rfl⟩ nd_X1_recall ⟨rfl, rfl⟩ (qb := 1) (ci := 1) rfl rfl [1, 2, 3, 4, 5, 6, 7, 8, 9] [0] rfl rfl rfl rfl (by decide) rfl hl.1 rfl dX4_accountAt_31 ⟨Nat.zero_le _, Nat.zero_le _⟩ (fun H locs hW => ?_)
      have hW : Wd G A sS.heap [cF h p, cH h, aI G (h 11) 121 y1, aI G (h 12) 121 y2, aI G (h 13) 121 y3, aI G (h 14) 121 y4, aI G (h 15) 121 y5, aI G (h 16) 121 y6, aI G (h 17) 121 y7, cS (h 5) (F_X1_recall y1 y2 y3 y4 y5 y6 y7 tr x)] H locs := hW
      refine lv_aload_n hx hb dX4_accountAt_34 rfl (lv_at hl 0 rfl) ?_
      refine k_get (C := RX4) (T := TX4) (N := 6) (ci := 4) (v := .ref (h 5)) S hK hW k_X4_accountAt_in4 0 4 rfl rfl (by decide) k_X4_accountAt_f37 rfl dX4_accountAt_35 ?_
      refine k_get (C := RX3) (T := TX3) (N := 7) (ci := 3) (v := .int ((F_X1_recall y1 y2 y3 y4 y5 y6 y7 tr x).2.1)) S hK hW k_X4_accountAt_in3 9 1 rfl rfl (by decide) k_X4_accountAt_f135 rfl dX4_accountAt_38 ?_
      have eF : (F_X4_accountAt p y1 y2 y3 y4 y5 y6 y7 tr x) = (0, (F_X1_recall y1 y2 y3 y4 y5 y6 y7 tr x).2.1, (F_X1_recall y1 y2 y3 y4 y5 y6 y7 tr x)) := by
        unfold F_X4_accountAt
        rw [if_neg c_1, if_pos c_2]
      exact kx_iret (wf := [cF h p, cH h, aI G (h 11) 121 y1, aI G (h 12) 121 y2, aI G (h 13) 121 y3, aI G (h 14) 121 y4, aI G (h 15) 121 y5, aI G (h 16) 121 y6, aI G (h 17) 121 y7, cS (h 5) (F_X1_recall y1 y2 y3 y4 y5 y6 y7 tr x)]) S hr hlk hK hW [0, 1, 2, 3, 4, 5, 6, 7, 8, 9] rfl rfl (congrArg (fun (z : Int32 × Int32 × S7) => [cF h p, cH h, aI G (h 11) 121 y1, aI G (h 12) 121 y2, aI G (h 13) 121 y3, aI G (h 14) 121 y4, aI G (h 15) 121 y5, aI G (h 16) 121 y6, aI G (h 17) 121 y7, cS (h 5) z.2.2]) eF).symm (congrArg (fun (z : Int32 × Int32 × S7) => z.2.1) eF).symm (congrArg (fun (z : Int32 × Int32 × S7) => z.1) eF) rfl rfl dX4_accountAt_41
    ·
      have eF : (F_X4_accountAt p y1 y2 y3 y4 y5 y6 y7 tr x) = (1, 0, tr) := by
        unfold F_X4_accountAt
        rw [if_neg c_1, if_neg c_2]
      obtain ⟨sa, hsa⟩ := hXE.2.2.2.2.2 (67, "the month is 0 to the present one") (by decide +kernel)
      have eK : ((F_X4_accountAt p y1 y2 y3 y4 y5 y6 y7 tr x)).1 = 1 := congrArg (fun (z : Int32 × Int32 × S7) => z.1) eF
      exact kx_throw hst S hlk hex hXE hXZ hK hW [0, 1, 2, 3, 4, 5, 6, 7, 8, 9] rfl rfl (ik := 44) (ix := 67) (ic := 48) (cls := nIAE) (by decide +kernel) k_X4_accountAt_xl44 k_X4_accountAt_xi44 hsa (fun _ h => List.mem_cons_of_mem _ (List.mem_append_right _ h)) xb_nIAE hXE.1 xg_nIAE hl.1 dX4_accountAt_12 dX4_accountAt_15 dX4_accountAt_16 dX4_accountAt_18 dX4_accountAt_21 rfl rfl rfl rfl rfl rfl ⟨(1, nIAE), List.mem_cons_self, eK, rfl⟩
def F_X4_stateAt (p : Int32) (y1 : (Nat → Int32)) (y2 : (Nat → Int32)) (y3 : (Nat → Int32)) (y4 : (Nat → Int32)) (y5 : (Nat → Int32)) (y6 : (Nat → Int32)) (y7 : (Nat → Int32)) (tr : S7) (x : Int32) : Int32 × Int32 × S7 :=
  if x < 0 then (1, 0, tr)
  else (if x ≤ p then (0, (F_X1_recall y1 y2 y3 y4 y5 y6 y7 tr x).1, (F_X1_recall y1 y2 y3 y4 y5 y6 y7 tr x))
    else (1, 0, tr))
set_option maxRecDepth 100000 in
theorem k_X4_stateAt_xl44 : Cond.classLink RX4 44 nIAE ∈ wsX4_stateAt := by decide +kernel
set_option maxRecDepth 100000 in
theorem k_X4_stateAt_xi44 : Cond.initialized nIAE ∈ wsX4_stateAt := by decide +kernel
set_option maxRecDepth 100000 in
theorem k_X4_stateAt_f40 : Cond.fieldLink RX4 40 "FlexiblePolicy" "present" "I" ∈ wsX4_stateAt := by decide +kernel
set_option maxRecDepth 100000 in
theorem k_X4_stateAt_in4 : ∀ w ∈ u_ws RX4 TX4 6, w ∈ wsX4_stateAt := by decide +kernel
set_option maxRecDepth 100000 in
theorem k_X4_stateAt_f26 : Cond.fieldLink RX4 26 "FlexiblePolicy" "history" "LFlexiblePolicy$History;" ∈ wsX4_stateAt := by decide +kernel
set_option maxRecDepth 100000 in
theorem k_X4_stateAt_f37 : Cond.fieldLink RX4 37 "FlexiblePolicy" "trial" "LFlexiblePolicy$Standing;" ∈ wsX4_stateAt := by decide +kernel
set_option maxRecDepth 100000 in
theorem k_X4_stateAt_f132 : Cond.fieldLink RX4 132 "FlexiblePolicy$Standing" "state" "I" ∈ wsX4_stateAt := by decide +kernel
set_option maxRecDepth 100000 in
theorem k_X4_stateAt_in3 : ∀ w ∈ u_ws RX3 TX3 7, w ∈ wsX4_stateAt := by decide +kernel
theorem nd_X4_stateAt : yX4_stateAt.cls = RX4 ∧ yX4_stateAt.cls ≠ "java/lang/invoke/MethodHandle" ∧ yX4_stateAt.cls ≠ "java/lang/invoke/VarHandle" ∧ (parseMethodDescriptor yX4_stateAt.desc).map (fun d => d.parameters.length) = some 1 := by decide +kernel
abbrev rm_X4_stateAt : Room := { frames := 6, cells := 1, slots := 6, locals := 82 }
set_option maxHeartbeats 4000000 in
set_option maxRecDepth 100000 in
theorem c_X4_stateAt (l : Launch) (hst : l.stackTraces = false) (G : GG) (h : Nat → Nat) (p : Int32) (y1 : (Nat → Int32)) (y2 : (Nat → Int32)) (y3 : (Nat → Int32)) (y4 : (Nat → Int32)) (y5 : (Nat → Int32)) (y6 : (Nat → Int32)) (y7 : (Nat → Int32)) (tr : S7) (x : Int32) : CX l G yX4_stateAt wsX4_stateAt rm_X4_stateAt [.ref (h 0), .int x] [cF h p, cH h, aI G (h 11) 121 y1, aI G (h 12) 121 y2, aI G (h 13) 121 y3, aI G (h 14) 121 y4, aI G (h 15) 121 y5, aI G (h 16) 121 y6, aI G (h 17) 121 y7, cS (h 5) tr] ((F_X4_stateAt p y1 y2 y3 y4 y5 y6 y7 tr x).1) ((F_X4_stateAt p y1 y2 y3 y4 y5 y6 y7 tr x).2.1) [cF h p, cH h, aI G (h 11) 121 y1, aI G (h 12) 121 y2, aI G (h 13) 121 y3, aI G (h 14) 121 y4, aI G (h 15) 121 y5, aI G (h 16) 121 y6, aI G (h 17) 121 y7, cS (h 5) ((F_X4_stateAt p y1 y2 y3 y4 y5 y6 y7 tr x).2.2)] [(1, nIAE)] := by
  refine CX_of (own := RX4) (by decide +kernel) rfl rfl (Nat.le_of_ble_eq_true rfl) ?_
  intro pP eE sS mM args below meth cC A S hK hr hlk hex hXE hXZ hW ls hl
  have hx := S.1
  have hb := S.2.1
  have hl : lv_has ls 2 [(0, .ref (h 0)), (1, .int x)] := hl
  have hW : Wd G A sS.heap [cF h p, cH h, aI G (h 11) 121 y1, aI G (h 12) 121 y2, aI G (h 13) 121 y3, aI G (h 14) 121 y4, aI G (h 15) 121 y5, aI G (h 16) 121 y6, aI G (h 17) 121 y7, cS (h 5) tr] sS.heap [] := hW
  refine lv_iload_n hx hb dX4_stateAt_0 rfl (lv_at hl 1 rfl) ?_
  refine lv_if_lt (tgt := 12) hx hb dX4_stateAt_1 (by decide) (fun c_1 => ?_) (fun c_1 => ?_)
  ·
    have eF : (F_X4_stateAt p y1 y2 y3 y4 y5 y6 y7 tr x) = (1, 0, tr) := by
      unfold F_X4_stateAt
      rw [if_pos c_1]
    obtain ⟨sa, hsa⟩ := hXE.2.2.2.2.2 (67, "the month is 0 to the present one") (by decide +kernel)
    have eK : ((F_X4_stateAt p y1 y2 y3 y4 y5 y6 y7 tr x)).1 = 1 := congrArg (fun (z : Int32 × Int32 × S7) => z.1) eF
    exact kx_throw hst S hlk hex hXE hXZ hK hW [0, 1, 2, 3, 4, 5, 6, 7, 8, 9] rfl rfl (ik := 44) (ix := 67) (ic := 48) (cls := nIAE) (by decide +kernel) k_X4_stateAt_xl44 k_X4_stateAt_xi44 hsa (fun _ h => List.mem_cons_of_mem _ (List.mem_append_right _ h)) xb_nIAE hXE.1 xg_nIAE hl.1 dX4_stateAt_12 dX4_stateAt_15 dX4_stateAt_16 dX4_stateAt_18 dX4_stateAt_21 rfl rfl rfl rfl rfl rfl ⟨(1, nIAE), List.mem_cons_self, eK, rfl⟩
  ·
    refine lv_iload_n hx hb dX4_stateAt_4 rfl (lv_at hl 1 rfl) ?_
    refine lv_aload_n hx hb dX4_stateAt_5 rfl (lv_at hl 0 rfl) ?_
    refine k_get (C := RX4) (T := TX4) (N := 6) (ci := 4) (v := .int p) S hK hW k_X4_stateAt_in4 0 5 rfl rfl (by decide) k_X4_stateAt_f40 rfl dX4_stateAt_6 ?_
    refine lv_icmp_le (tgt := 22) hx hb dX4_stateAt_9 (by decide) (fun c_2 => ?_) (fun c_2 => ?_)
    ·
      refine lv_aload_n hx hb dX4_stateAt_22 rfl (lv_at hl 0 rfl) ?_
      refine k_get (C := RX4) (T := TX4) (N := 6) (ci := 4) (v := .ref (h 3)) S hK hW k_X4_stateAt_in4 0 2 rfl rfl (by decide) k_X4_stateAt_f26 rfl dX4_stateAt_23 ?_
      refine lv_iload_n hx hb dX4_stateAt_26 rfl (lv_at hl 1 rfl) ?_
      refine lv_aload_n hx hb dX4_stateAt_27 rfl (lv_at hl 0 rfl) ?_
      refine k_get (C := RX4) (T := TX4) (N := 6) (ci := 4) (v := .ref (h 5)) S hK hW k_X4_stateAt_in4 0 4 rfl rfl (by decide) k_X4_stateAt_f37 rfl dX4_stateAt_28 ?_
      refine k_callVv (C := RX1) (As := [.int x, .ref (h 5)]) (rest := []) (wr := [cF h p]) (c_X1_recall l G h (h 5) y1 y2 y3 y4 y5 y6 y7 tr x) S hK hW gX4_stateAt_X1_recall rfl ⟨rfl, rfl⟩ nd_X1_recall ⟨rfl, rfl⟩ (qb := 1) (ci := 1) rfl rfl [1, 2, 3, 4, 5, 6, 7, 8, 9] [0] rfl rfl rfl rfl (by decide) rfl hl.1 rfl dX4_stateAt_31 ⟨Nat.zero_le _, Nat.zero_le _⟩ (fun H locs hW => ?_)
      have hW : Wd G A sS.heap [cF h p, cH h, aI G (h 11) 121 y1, aI G (h 12) 121 y2, aI G (h 13) 121 y3, aI G (h 14) 121 y4, aI G (h 15) 121 y5, aI G (h 16) 121 y6, aI G (h 17) 121 y7, cS (h 5) (F_X1_recall y1 y2 y3 y4 y5 y6 y7 tr x)] H locs := hW
      refine lv_aload_n hx hb dX4_stateAt_34 rfl (lv_at hl 0 rfl) ?_
      refine k_get (C := RX4) (T := TX4) (N := 6) (ci := 4) (v := .ref (h 5)) S hK hW k_X4_stateAt_in4 0 4 rfl rfl (by decide) k_X4_stateAt_f37 rfl dX4_stateAt_35 ?_
      refine k_get (C := RX3) (T := TX3) (N := 7) (ci := 3) (v := .int ((F_X1_recall y1 y2 y3 y4 y5 y6 y7 tr x).1)) S hK hW k_X4_stateAt_in3 9 0 rfl rfl (by decide) k_X4_stateAt_f132 rfl dX4_stateAt_38 ?_
      have eF : (F_X4_stateAt p y1 y2 y3 y4 y5 y6 y7 tr x) = (0, (F_X1_recall y1 y2 y3 y4 y5 y6 y7 tr x).1, (F_X1_recall y1 y2 y3 y4 y5 y6 y7 tr x)) := by
        unfold F_X4_stateAt
        rw [if_neg c_1, if_pos c_2]
      exact kx_iret (wf := [cF h p, cH h, aI G (h 11) 121 y1, aI G (h 12) 121 y2, aI G (h 13) 121 y3, aI G (h 14) 121 y4, aI G (h 15) 121 y5, aI G (h 16) 121 y6, aI G (h 17) 121 y7, cS (h 5) (F_X1_recall y1 y2 y3 y4 y5 y6 y7 tr x)]) S hr hlk hK hW [0, 1, 2, 3, 4, 5, 6, 7, 8, 9] rfl rfl (congrArg (fun (z : Int32 × Int32 × S7) => [cF h p, cH h, aI G (h 11) 121 y1, aI G (h 12) 121 y2, aI G (h 13) 121 y3, aI G (h 14) 121 y4, aI G (h 15) 121 y5, aI G (h 16) 121 y6, aI G (h 17) 121 y7, cS (h 5) z.2.2]) eF).symm (congrArg (fun (z : Int32 × Int32 × S7) => z.2.1) eF).symm (congrArg (fun (z : Int32 × Int32 × S7) => z.1) eF) rfl rfl dX4_stateAt_41
    ·
      have eF : (F_X4_stateAt p y1 y2 y3 y4 y5 y6 y7 tr x) = (1, 0, tr) := by
        unfold F_X4_stateAt
        rw [if_neg c_1, if_neg c_2]
      obtain ⟨sa, hsa⟩ := hXE.2.2.2.2.2 (67, "the month is 0 to the present one") (by decide +kernel)
      have eK : ((F_X4_stateAt p y1 y2 y3 y4 y5 y6 y7 tr x)).1 = 1 := congrArg (fun (z : Int32 × Int32 × S7) => z.1) eF
      exact kx_throw hst S hlk hex hXE hXZ hK hW [0, 1, 2, 3, 4, 5, 6, 7, 8, 9] rfl rfl (ik := 44) (ix := 67) (ic := 48) (cls := nIAE) (by decide +kernel) k_X4_stateAt_xl44 k_X4_stateAt_xi44 hsa (fun _ h => List.mem_cons_of_mem _ (List.mem_append_right _ h)) xb_nIAE hXE.1 xg_nIAE hl.1 dX4_stateAt_12 dX4_stateAt_15 dX4_stateAt_16 dX4_stateAt_18 dX4_stateAt_21 rfl rfl rfl rfl rfl rfl ⟨(1, nIAE), List.mem_cons_self, eK, rfl⟩
def F_X4_isDone (c : Int32) (sk : (Nat → Bool)) (dn : (Nat → Bool)) (x : Int32) : Int32 × Bool :=
  if bI (F_X0_stands c sk x) = 0 then (1, false)
  else (0, (F_X0_wasDone c dn x))
set_option maxRecDepth 100000 in
theorem k_X4_isDone_f19 : Cond.fieldLink RX4 19 "FlexiblePolicy" "book" "LFlexiblePolicy$ActBook;" ∈ wsX4_isDone := by decide +kernel
set_option maxRecDepth 100000 in
theorem k_X4_isDone_in4 : ∀ w ∈ u_ws RX4 TX4 6, w ∈ wsX4_isDone := by decide +kernel
set_option maxRecDepth 100000 in
theorem k_X4_isDone_xl106 : Cond.classLink RX4 106 nIOB ∈ wsX4_isDone := by decide +kernel
set_option maxRecDepth 100000 in
theorem k_X4_isDone_xi106 : Cond.initialized nIOB ∈ wsX4_isDone := by decide +kernel
theorem nd_X4_isDone : yX4_isDone.cls = RX4 ∧ yX4_isDone.cls ≠ "java/lang/invoke/MethodHandle" ∧ yX4_isDone.cls ≠ "java/lang/invoke/VarHandle" ∧ (parseMethodDescriptor yX4_isDone.desc).map (fun d => d.parameters.length) = some 1 := by decide +kernel
abbrev rm_X4_isDone : Room := { frames := 6, cells := 1, slots := 6, locals := 82 }
set_option maxHeartbeats 4000000 in
set_option maxRecDepth 100000 in
theorem c_X4_isDone (l : Launch) (hst : l.stackTraces = false) (G : GG) (h : Nat → Nat) (p : Int32) (c : Int32) (sk : (Nat → Bool)) (dn : (Nat → Bool)) (x : Int32) : CX l G yX4_isDone wsX4_isDone rm_X4_isDone [.ref (h 0), .int x] [cF h p, cB h c, aZ G (h 9) 60 sk, aZ G (h 10) 60 dn] ((F_X4_isDone c sk dn x).1) (bI ((F_X4_isDone c sk dn x).2)) [cF h p, cB h c, aZ G (h 9) 60 sk, aZ G (h 10) 60 dn] [(1, nIOB)] := by
  refine CX_of (own := RX4) (by decide +kernel) rfl rfl (Nat.le_of_ble_eq_true rfl) ?_
  intro pP eE sS mM args below meth cC A S hK hr hlk hex hXE hXZ hW ls hl
  have hx := S.1
  have hb := S.2.1
  have hl : lv_has ls 2 [(0, .ref (h 0)), (1, .int x)] := hl
  have hW : Wd G A sS.heap [cF h p, cB h c, aZ G (h 9) 60 sk, aZ G (h 10) 60 dn] sS.heap [] := hW
  refine lv_aload_n hx hb dX4_isDone_0 rfl (lv_at hl 0 rfl) ?_
  refine k_get (C := RX4) (T := TX4) (N := 6) (ci := 4) (v := .ref (h 2)) S hK hW k_X4_isDone_in4 0 1 rfl rfl (by decide) k_X4_isDone_f19 rfl dX4_isDone_1 ?_
  refine lv_iload_n hx hb dX4_isDone_4 rfl (lv_at hl 1 rfl) ?_
  refine k_callVi (C := RX0) (As := [.int x]) (rest := []) (wr := [cF h p, aZ G (h 10) 60 dn]) (c_X0_stands l G h c sk x) S hK hW gX4_isDone_X0_stands rfl ⟨rfl, rfl⟩ nd_X0_stands ⟨rfl, rfl⟩ (qb := 1) (ci := 0) rfl rfl [1, 2] [0, 3] rfl rfl rfl rfl (by decide) rfl hl.1 rfl dX4_isDone_5 ⟨Nat.zero_le _, Nat.zero_le _⟩ (fun H locs hW => ?_)
  have hW : Wd G A sS.heap [cF h p, aZ G (h 10) 60 dn, cB h c, aZ G (h 9) 60 sk] H locs := hW
  refine lv_if_ne (tgt := 21) hx hb dX4_isDone_8 (by decide) (fun c_1 => ?_) (fun c_1 => ?_)
  ·
    refine lv_aload_n hx hb dX4_isDone_21 rfl (lv_at hl 0 rfl) ?_
    refine k_get (C := RX4) (T := TX4) (N := 6) (ci := 4) (v := .ref (h 2)) S hK hW k_X4_isDone_in4 0 1 rfl rfl (by decide) k_X4_isDone_f19 rfl dX4_isDone_22 ?_
    refine lv_iload_n hx hb dX4_isDone_25 rfl (lv_at hl 1 rfl) ?_
    refine k_callVi (C := RX0) (As := [.int x]) (rest := []) (wr := [cF h p, aZ G (h 9) 60 sk]) (c_X0_wasDone l G h c dn x) S hK hW gX4_isDone_X0_wasDone rfl ⟨rfl, rfl⟩ nd_X0_wasDone ⟨rfl, rfl⟩ (qb := 2) (ci := 0) rfl rfl [2, 1] [0, 3] rfl rfl rfl rfl (by decide) rfl hl.1 rfl dX4_isDone_26 ⟨Nat.zero_le _, Nat.zero_le _⟩ (fun H locs hW => ?_)
    have hW : Wd G A sS.heap [cF h p, aZ G (h 9) 60 sk, cB h c, aZ G (h 10) 60 dn] H locs := hW
    have eF : (F_X4_isDone c sk dn x) = (0, (F_X0_wasDone c dn x)) := by
      unfold F_X4_isDone
      rw [if_neg c_1]
    exact kx_zret (wf := [cF h p, cB h c, aZ G (h 9) 60 sk, aZ G (h 10) 60 dn]) S hr hlk hK hW [0, 2, 1, 3] rfl rfl rfl (congrArg (fun (z : Int32 × Bool) => bI z.2) eF).symm (congrArg (fun (z : Int32 × Bool) => z.1) eF) rfl rfl dX4_isDone_29
  ·
    have eF : (F_X4_isDone c sk dn x) = (1, false) := by
      unfold F_X4_isDone
      rw [if_pos c_1]
    obtain ⟨sa, hsa⟩ := hXE.2.2.2.2.2 (108, "there is no such act") (by decide +kernel)
    have eK : ((F_X4_isDone c sk dn x)).1 = 1 := congrArg (fun (z : Int32 × Bool) => z.1) eF
    exact kx_throw hst S hlk hex hXE hXZ hK hW [0, 2, 3, 1] rfl rfl (ik := 106) (ix := 108) (ic := 110) (cls := nIOB) (by decide +kernel) k_X4_isDone_xl106 k_X4_isDone_xi106 hsa (fun _ h => List.mem_cons_of_mem _ (List.mem_append_right _ h)) xb_nIOB hXE.2.2.1 xg_nIOB hl.1 dX4_isDone_11 dX4_isDone_14 dX4_isDone_15 dX4_isDone_17 dX4_isDone_20 rfl rfl rfl rfl rfl rfl ⟨(1, nIOB), List.mem_cons_self, eK, rfl⟩
theorem w_le {x : Int32} {b : Nat} {B : Int32} (hb : b < 2 ^ 31) (hB : B = nI b) (h1 : ¬ x < 1) (h2 : x ≤ B) : x = nI x.toNatClampNeg ∧ x.toNatClampNeg ≤ b ∧ 1 ≤ x.toNatClampNeg := by
  rw [hB] at h2
  have h0 : 0 ≤ x := by
    rw [Int32.lt_iff_toInt_lt] at h1
    rw [Int32.le_iff_toInt_le]
    have e0 : (0 : Int32).toInt = 0 := by decide
    have e1 : (1 : Int32).toInt = 1 := by decide
    omega
  have e := cl_of h0
  have hle := cl_le hb h0 h2
  refine ⟨e, hle, ?_⟩
  rw [e, Int32.lt_iff_toInt_lt, nI_toInt (by omega)] at h1
  have e1 : (1 : Int32).toInt = 1 := by decide
  omega
def F_X4_wouldLapse (q : S3) (v : S7) (tr : S7) (x : Int32) (np : Nat) : Int32 × Int32 × S7 :=
  if x < 1 then (1, 0, tr)
  else (if x ≤ 120 then (if bI (F_X3_isLive v) = 0 then (0, (-1), tr)
      else (0, (F_X4_firstLapsed q v 0 np x.toNatClampNeg).1, ((F_X4_firstLapsed q v 0 np x.toNatClampNeg).2)))
    else (1, 0, tr))
set_option maxRecDepth 100000 in
theorem k_X4_wouldLapse_xl44 : Cond.classLink RX4 44 nIAE ∈ wsX4_wouldLapse := by decide +kernel
set_option maxRecDepth 100000 in
theorem k_X4_wouldLapse_xi44 : Cond.initialized nIAE ∈ wsX4_wouldLapse := by decide +kernel
set_option maxRecDepth 100000 in
theorem k_X4_wouldLapse_f33 : Cond.fieldLink RX4 33 "FlexiblePolicy" "now" "LFlexiblePolicy$Standing;" ∈ wsX4_wouldLapse := by decide +kernel
set_option maxRecDepth 100000 in
theorem k_X4_wouldLapse_in4 : ∀ w ∈ u_ws RX4 TX4 6, w ∈ wsX4_wouldLapse := by decide +kernel
theorem nd_X4_wouldLapse : yX4_wouldLapse.cls = RX4 ∧ yX4_wouldLapse.cls ≠ "java/lang/invoke/MethodHandle" ∧ yX4_wouldLapse.cls ≠ "java/lang/invoke/VarHandle" ∧ (parseMethodDescriptor yX4_wouldLapse.desc).map (fun d => d.parameters.length) = some 1 := by decide +kernel
abbrev rm_X4_wouldLapse : Room := { frames := 6, cells := 1, slots := 6, locals := 118 }
set_option maxHeartbeats 4000000 in
set_option maxRecDepth 100000 in
theorem c_X4_wouldLapse (l : Launch) (hst : l.stackTraces = false) (G : GG) (h : Nat → Nat) (q : S3) (v : S7) (tr : S7) (x : Int32) (np : Nat) (hp : np ≤ 120) : CX l G yX4_wouldLapse wsX4_wouldLapse rm_X4_wouldLapse [.ref (h 0), .int x] [cF h (nI np), cP (h 1) q, cS (h 4) v, cS (h 5) tr] ((F_X4_wouldLapse q v tr x np).1) ((F_X4_wouldLapse q v tr x np).2.1) [cF h (nI np), cP (h 1) q, cS (h 4) v, cS (h 5) ((F_X4_wouldLapse q v tr x np).2.2)] [(1, nIAE)] := by
  refine CX_of (own := RX4) (by decide +kernel) rfl rfl (Nat.le_of_ble_eq_true rfl) ?_
  intro pP eE sS mM args below meth cC A S hK hr hlk hex hXE hXZ hW ls hl
  have hx := S.1
  have hb := S.2.1
  have hl : lv_has ls 2 [(0, .ref (h 0)), (1, .int x)] := hl
  have hW : Wd G A sS.heap [cF h (nI np), cP (h 1) q, cS (h 4) v, cS (h 5) tr] sS.heap [] := hW
  refine lv_iload_n hx hb dX4_wouldLapse_0 rfl (lv_at hl 1 rfl) ?_
  refine lv_iconst (v := 1) hx hb dX4_wouldLapse_1 (by decide) ?_
  refine lv_icmp_lt (tgt := 11) hx hb dX4_wouldLapse_2 (by decide) (fun c_1 => ?_) (fun c_1 => ?_)
  ·
    have eF : (F_X4_wouldLapse q v tr x np) = (1, 0, tr) := by
      unfold F_X4_wouldLapse
      rw [if_pos c_1]
    obtain ⟨sa, hsa⟩ := hXE.2.2.2.2.2 (171, "1 to 120 months are looked at") (by decide +kernel)
    have eK : ((F_X4_wouldLapse q v tr x np)).1 = 1 := congrArg (fun (z : Int32 × Int32 × S7) => z.1) eF
    exact kx_throw hst S hlk hex hXE hXZ hK hW [0, 1, 2, 3] rfl rfl (ik := 44) (ix := 171) (ic := 48) (cls := nIAE) (by decide +kernel) k_X4_wouldLapse_xl44 k_X4_wouldLapse_xi44 hsa (fun _ h => List.mem_cons_of_mem _ (List.mem_append_right _ h)) xb_nIAE hXE.1 xg_nIAE hl.1 dX4_wouldLapse_11 dX4_wouldLapse_14 dX4_wouldLapse_15 dX4_wouldLapse_17 dX4_wouldLapse_20 rfl rfl rfl rfl rfl rfl ⟨(1, nIAE), List.mem_cons_self, eK, rfl⟩
  ·
    refine lv_iload_n hx hb dX4_wouldLapse_5 rfl (lv_at hl 1 rfl) ?_
    refine lv_bipush (v := 120) hx hb dX4_wouldLapse_6 (by decide) ?_
    refine lv_icmp_le (tgt := 21) hx hb dX4_wouldLapse_8 (by decide) (fun c_2 => ?_) (fun c_2 => ?_)
    ·
      refine lv_aload_n hx hb dX4_wouldLapse_21 rfl (lv_at hl 0 rfl) ?_
      refine k_get (C := RX4) (T := TX4) (N := 6) (ci := 4) (v := .ref (h 4)) S hK hW k_X4_wouldLapse_in4 0 3 rfl rfl (by decide) k_X4_wouldLapse_f33 rfl dX4_wouldLapse_22 ?_
      refine k_callVi (C := RX3) (As := []) (rest := []) (wr := [cF h (nI np), cP (h 1) q, cS (h 5) tr]) (c_X3_isLive l G (h 4) v) S hK hW gX4_wouldLapse_X3_isLive rfl ⟨rfl, rfl⟩ nd_X3_isLive ⟨rfl, rfl⟩ (qb := 2) (ci := 3) rfl rfl [2] [0, 1, 3] rfl rfl rfl rfl (by decide) rfl hl.1 rfl dX4_wouldLapse_25 ⟨Nat.zero_le _, Nat.zero_le _⟩ (fun H locs hW => ?_)
      have hW : Wd G A sS.heap [cF h (nI np), cP (h 1) q, cS (h 5) tr, cS (h 4) v] H locs := hW
      refine lv_if_ne (tgt := 33) hx hb dX4_wouldLapse_28 (by decide) (fun c_3 => ?_) (fun c_3 => ?_)
      ·
        refine lv_aload_n hx hb dX4_wouldLapse_33 rfl (lv_at hl 0 rfl) ?_
        refine lv_iconst (v := 0) hx hb dX4_wouldLapse_34 (by decide) ?_
        refine lv_iload_n hx hb dX4_wouldLapse_35 rfl (lv_at hl 1 rfl) ?_
        have hy36 := w_le (b := 120) (by omega) (by decide +kernel) c_1 c_2
        refine W.eq (g2 := F0 mM 36 ls [.int (nI x.toNatClampNeg), .int 0, .ref (h 0)]) (by rw [← hy36.1]) ?_
        have hw36 := hy36.2.1
        refine k_callVi (C := RX4) (As := [.int 0, .int (nI x.toNatClampNeg)]) (rest := []) (wr := []) (c_X4_firstLapsed l G h q v tr 0 np x.toNatClampNeg (by omega) (by omega)) S hK hW gX4_wouldLapse_X4_firstLapsed rfl ⟨rfl, rfl⟩ nd_X4_firstLapsed ⟨rfl, rfl⟩ (qb := 0) (ci := 4) rfl rfl [0, 1, 3, 2] [] rfl rfl rfl rfl (by decide) rfl hl.1 rfl dX4_wouldLapse_36 ⟨Nat.zero_le _, Nat.zero_le _⟩ (fun H locs hW => ?_)
        have hW : Wd G A sS.heap [cF h (nI np), cP (h 1) q, cS (h 4) v, cS (h 5) ((F_X4_firstLapsed q v 0 np x.toNatClampNeg).2)] H locs := hW
        have eF : (F_X4_wouldLapse q v tr x np) = (0, (F_X4_firstLapsed q v 0 np x.toNatClampNeg).1, ((F_X4_firstLapsed q v 0 np x.toNatClampNeg).2)) := by
          unfold F_X4_wouldLapse
          rw [if_neg c_1, if_pos c_2, if_neg c_3]
        exact kx_iret (wf := [cF h (nI np), cP (h 1) q, cS (h 4) v, cS (h 5) ((F_X4_firstLapsed q v 0 np x.toNatClampNeg).2)]) S hr hlk hK hW [0, 1, 2, 3] rfl rfl (congrArg (fun (z : Int32 × Int32 × S7) => [cF h (nI np), cP (h 1) q, cS (h 4) v, cS (h 5) z.2.2]) eF).symm (congrArg (fun (z : Int32 × Int32 × S7) => z.2.1) eF).symm (congrArg (fun (z : Int32 × Int32 × S7) => z.1) eF) rfl rfl dX4_wouldLapse_39
      ·
        refine lv_iconst (v := (-1)) hx hb dX4_wouldLapse_31 (by decide) ?_
        have eF : (F_X4_wouldLapse q v tr x np) = (0, (-1), tr) := by
          unfold F_X4_wouldLapse
          rw [if_neg c_1, if_pos c_2, if_pos c_3]
        exact kx_iret (wf := [cF h (nI np), cP (h 1) q, cS (h 4) v, cS (h 5) tr]) S hr hlk hK hW [0, 1, 3, 2] rfl rfl (congrArg (fun (z : Int32 × Int32 × S7) => [cF h (nI np), cP (h 1) q, cS (h 4) v, cS (h 5) z.2.2]) eF).symm (congrArg (fun (z : Int32 × Int32 × S7) => z.2.1) eF).symm (congrArg (fun (z : Int32 × Int32 × S7) => z.1) eF) rfl rfl dX4_wouldLapse_32
    ·
      have eF : (F_X4_wouldLapse q v tr x np) = (1, 0, tr) := by
        unfold F_X4_wouldLapse
        rw [if_neg c_1, if_neg c_2]
      obtain ⟨sa, hsa⟩ := hXE.2.2.2.2.2 (171, "1 to 120 months are looked at") (by decide +kernel)
      have eK : ((F_X4_wouldLapse q v tr x np)).1 = 1 := congrArg (fun (z : Int32 × Int32 × S7) => z.1) eF
      exact kx_throw hst S hlk hex hXE hXZ hK hW [0, 1, 2, 3] rfl rfl (ik := 44) (ix := 171) (ic := 48) (cls := nIAE) (by decide +kernel) k_X4_wouldLapse_xl44 k_X4_wouldLapse_xi44 hsa (fun _ h => List.mem_cons_of_mem _ (List.mem_append_right _ h)) xb_nIAE hXE.1 xg_nIAE hl.1 dX4_wouldLapse_11 dX4_wouldLapse_14 dX4_wouldLapse_15 dX4_wouldLapse_17 dX4_wouldLapse_20 rfl rfl rfl rfl rfl rfl ⟨(1, nIAE), List.mem_cons_self, eK, rfl⟩
def F_X4_needed (q : S3) (v : S7) (tr : S7) (x : Int32) (np : Nat) : Int32 × Int32 × S7 :=
  if x < 1 then (1, 0, tr)
  else (if x ≤ 36 then (if bI (F_X3_isLive v) = 0 then (0, (-1), tr)
      else (if (F_X4_firstLapsed q v 0 np x.toNatClampNeg).1 = (-1) then (0, 0, ((F_X4_firstLapsed q v 0 np x.toNatClampNeg).2))
        else (if (F_X4_firstLapsed q v 2000000 np x.toNatClampNeg).1 = (-1) then (0, (F_X4_leastPremium q v ((F_X4_firstLapsed q v 2000000 np x.toNatClampNeg).2) np x.toNatClampNeg).1, ((F_X4_leastPremium q v ((F_X4_firstLapsed q v 2000000 np x.toNatClampNeg).2) np x.toNatClampNeg).2))
          else (0, (-1), ((F_X4_firstLapsed q v 2000000 np x.toNatClampNeg).2)))))
    else (1, 0, tr))
set_option maxRecDepth 100000 in
theorem k_X4_needed_xl44 : Cond.classLink RX4 44 nIAE ∈ wsX4_needed := by decide +kernel
set_option maxRecDepth 100000 in
theorem k_X4_needed_xi44 : Cond.initialized nIAE ∈ wsX4_needed := by decide +kernel
set_option maxRecDepth 100000 in
theorem k_X4_needed_f33 : Cond.fieldLink RX4 33 "FlexiblePolicy" "now" "LFlexiblePolicy$Standing;" ∈ wsX4_needed := by decide +kernel
set_option maxRecDepth 100000 in
theorem k_X4_needed_in4 : ∀ w ∈ u_ws RX4 TX4 6, w ∈ wsX4_needed := by decide +kernel
set_option maxRecDepth 100000 in
theorem k_X4_needed_c71 : Cond.constant RX4 71 (2000000) ∈ wsX4_needed := by decide +kernel
theorem nd_X4_needed : yX4_needed.cls = RX4 ∧ yX4_needed.cls ≠ "java/lang/invoke/MethodHandle" ∧ yX4_needed.cls ≠ "java/lang/invoke/VarHandle" ∧ (parseMethodDescriptor yX4_needed.desc).map (fun d => d.parameters.length) = some 1 := by decide +kernel
abbrev rm_X4_needed : Room := { frames := 6, cells := 1, slots := 6, locals := 143 }
set_option maxHeartbeats 4000000 in
set_option maxRecDepth 100000 in
theorem c_X4_needed (l : Launch) (hst : l.stackTraces = false) (G : GG) (h : Nat → Nat) (q : S3) (v : S7) (tr : S7) (x : Int32) (np : Nat) (hp : np ≤ 120) : CX l G yX4_needed wsX4_needed rm_X4_needed [.ref (h 0), .int x] [cF h (nI np), cP (h 1) q, cS (h 4) v, cS (h 5) tr] ((F_X4_needed q v tr x np).1) ((F_X4_needed q v tr x np).2.1) [cF h (nI np), cP (h 1) q, cS (h 4) v, cS (h 5) ((F_X4_needed q v tr x np).2.2)] [(1, nIAE)] := by
  refine CX_of (own := RX4) (by decide +kernel) rfl rfl (Nat.le_of_ble_eq_true rfl) ?_
  intro pP eE sS mM args below meth cC A S hK hr hlk hex hXE hXZ hW ls hl
  have hx := S.1
  have hb := S.2.1
  have hl : lv_has ls 2 [(0, .ref (h 0)), (1, .int x)] := hl
  have hW : Wd G A sS.heap [cF h (nI np), cP (h 1) q, cS (h 4) v, cS (h 5) tr] sS.heap [] := hW
  refine lv_iload_n hx hb dX4_needed_0 rfl (lv_at hl 1 rfl) ?_
  refine lv_iconst (v := 1) hx hb dX4_needed_1 (by decide) ?_
  refine lv_icmp_lt (tgt := 11) hx hb dX4_needed_2 (by decide) (fun c_1 => ?_) (fun c_1 => ?_)
  ·
    have eF : (F_X4_needed q v tr x np) = (1, 0, tr) := by
      unfold F_X4_needed
      rw [if_pos c_1]
    obtain ⟨sa, hsa⟩ := hXE.2.2.2.2.2 (176, "1 to 36 months are looked at") (by decide +kernel)
    have eK : ((F_X4_needed q v tr x np)).1 = 1 := congrArg (fun (z : Int32 × Int32 × S7) => z.1) eF
    exact kx_throw hst S hlk hex hXE hXZ hK hW [0, 1, 2, 3] rfl rfl (ik := 44) (ix := 176) (ic := 48) (cls := nIAE) (by decide +kernel) k_X4_needed_xl44 k_X4_needed_xi44 hsa (fun _ h => List.mem_cons_of_mem _ (List.mem_append_right _ h)) xb_nIAE hXE.1 xg_nIAE hl.1 dX4_needed_11 dX4_needed_14 dX4_needed_15 dX4_needed_17 dX4_needed_20 rfl rfl rfl rfl rfl rfl ⟨(1, nIAE), List.mem_cons_self, eK, rfl⟩
  ·
    refine lv_iload_n hx hb dX4_needed_5 rfl (lv_at hl 1 rfl) ?_
    refine lv_bipush (v := 36) hx hb dX4_needed_6 (by decide) ?_
    refine lv_icmp_le (tgt := 21) hx hb dX4_needed_8 (by decide) (fun c_2 => ?_) (fun c_2 => ?_)
    ·
      refine lv_aload_n hx hb dX4_needed_21 rfl (lv_at hl 0 rfl) ?_
      refine k_get (C := RX4) (T := TX4) (N := 6) (ci := 4) (v := .ref (h 4)) S hK hW k_X4_needed_in4 0 3 rfl rfl (by decide) k_X4_needed_f33 rfl dX4_needed_22 ?_
      refine k_callVi (C := RX3) (As := []) (rest := []) (wr := [cF h (nI np), cP (h 1) q, cS (h 5) tr]) (c_X3_isLive l G (h 4) v) S hK hW gX4_needed_X3_isLive rfl ⟨rfl, rfl⟩ nd_X3_isLive ⟨rfl, rfl⟩ (qb := 2) (ci := 3) rfl rfl [2] [0, 1, 3] rfl rfl rfl rfl (by decide) rfl hl.1 rfl dX4_needed_25 ⟨Nat.zero_le _, Nat.zero_le _⟩ (fun H locs hW => ?_)
      have hW : Wd G A sS.heap [cF h (nI np), cP (h 1) q, cS (h 5) tr, cS (h 4) v] H locs := hW
      refine lv_if_ne (tgt := 33) hx hb dX4_needed_28 (by decide) (fun c_3 => ?_) (fun c_3 => ?_)
      ·
        refine lv_aload_n hx hb dX4_needed_33 rfl (lv_at hl 0 rfl) ?_
        refine lv_iconst (v := 0) hx hb dX4_needed_34 (by decide) ?_
        refine lv_iload_n hx hb dX4_needed_35 rfl (lv_at hl 1 rfl) ?_
        have hy36 := w_le (b := 36) (by omega) (by decide +kernel) c_1 c_2
        refine W.eq (g2 := F0 mM 36 ls [.int (nI x.toNatClampNeg), .int 0, .ref (h 0)]) (by rw [← hy36.1]) ?_
        have hw36 := hy36.2.1
        refine k_callVi (C := RX4) (As := [.int 0, .int (nI x.toNatClampNeg)]) (rest := []) (wr := []) (c_X4_firstLapsed l G h q v tr 0 np x.toNatClampNeg (by omega) (by omega)) S hK hW gX4_needed_X4_firstLapsed rfl ⟨rfl, rfl⟩ nd_X4_firstLapsed ⟨rfl, rfl⟩ (qb := 0) (ci := 4) rfl rfl [0, 1, 3, 2] [] rfl rfl rfl rfl (by decide) rfl hl.1 rfl dX4_needed_36 ⟨Nat.zero_le _, Nat.zero_le _⟩ (fun H locs hW => ?_)
        have hW : Wd G A sS.heap [cF h (nI np), cP (h 1) q, cS (h 4) v, cS (h 5) ((F_X4_firstLapsed q v 0 np x.toNatClampNeg).2)] H locs := hW
        refine lv_iconst (v := (-1)) hx hb dX4_needed_39 (by decide) ?_
        refine lv_icmp_ne (tgt := 45) hx hb dX4_needed_40 (by decide) (fun c_4 => ?_) (fun c_4 => ?_)
        ·
          refine lv_aload_n hx hb dX4_needed_45 rfl (lv_at hl 0 rfl) ?_
          refine k_ldc S k_X4_needed_c71 dX4_needed_46 ?_
          refine lv_iload_n hx hb dX4_needed_48 rfl (lv_at hl 1 rfl) ?_
          have hy49 := w_le (b := 36) (by omega) (by decide +kernel) c_1 c_2
          refine W.eq (g2 := F0 mM 49 ls [.int (nI x.toNatClampNeg), .int 2000000, .ref (h 0)]) (by rw [← hy49.1]) ?_
          have hw49 := hy49.2.1
          refine k_callVi (C := RX4) (As := [.int 2000000, .int (nI x.toNatClampNeg)]) (rest := []) (wr := []) (c_X4_firstLapsed l G h q v ((F_X4_firstLapsed q v 0 np x.toNatClampNeg).2) 2000000 np x.toNatClampNeg (by omega) (by omega)) S hK hW gX4_needed_X4_firstLapsed rfl ⟨rfl, rfl⟩ nd_X4_firstLapsed ⟨rfl, rfl⟩ (qb := 0) (ci := 4) rfl rfl [0, 1, 2, 3] [] rfl rfl rfl rfl (by decide) rfl hl.1 rfl dX4_needed_49 ⟨Nat.zero_le _, Nat.zero_le _⟩ (fun H locs hW => ?_)
          have hW : Wd G A sS.heap [cF h (nI np), cP (h 1) q, cS (h 4) v, cS (h 5) ((F_X4_firstLapsed q v 2000000 np x.toNatClampNeg).2)] H locs := hW
          refine lv_iconst (v := (-1)) hx hb dX4_needed_52 (by decide) ?_
          refine lv_icmp_eq (tgt := 58) hx hb dX4_needed_53 (by decide) (fun c_5 => ?_) (fun c_5 => ?_)
          ·
            refine lv_aload_n hx hb dX4_needed_58 rfl (lv_at hl 0 rfl) ?_
            refine lv_iload_n hx hb dX4_needed_59 rfl (lv_at hl 1 rfl) ?_
            have hy60 := w_le (b := 36) (by omega) (by decide +kernel) c_1 c_2
            refine W.eq (g2 := F0 mM 60 ls [.int (nI x.toNatClampNeg), .ref (h 0)]) (by rw [← hy60.1]) ?_
            have hw60 := hy60.2.1
            refine k_callVi (C := RX4) (As := [.int (nI x.toNatClampNeg)]) (rest := []) (wr := []) (c_X4_leastPremium l G h q v ((F_X4_firstLapsed q v 2000000 np x.toNatClampNeg).2) np x.toNatClampNeg (by omega) (by omega)) S hK hW gX4_needed_X4_leastPremium rfl ⟨rfl, rfl⟩ nd_X4_leastPremium ⟨rfl, rfl⟩ (qb := 0) (ci := 4) rfl rfl [0, 1, 2, 3] [] rfl rfl rfl rfl (by decide) rfl hl.1 rfl dX4_needed_60 ⟨Nat.zero_le _, Nat.zero_le _⟩ (fun H locs hW => ?_)
            have hW : Wd G A sS.heap [cF h (nI np), cP (h 1) q, cS (h 4) v, cS (h 5) ((F_X4_leastPremium q v ((F_X4_firstLapsed q v 2000000 np x.toNatClampNeg).2) np x.toNatClampNeg).2)] H locs := hW
            have eF : (F_X4_needed q v tr x np) = (0, (F_X4_leastPremium q v ((F_X4_firstLapsed q v 2000000 np x.toNatClampNeg).2) np x.toNatClampNeg).1, ((F_X4_leastPremium q v ((F_X4_firstLapsed q v 2000000 np x.toNatClampNeg).2) np x.toNatClampNeg).2)) := by
              unfold F_X4_needed
              rw [if_neg c_1, if_pos c_2, if_neg c_3, if_neg c_4, if_pos c_5]
            exact kx_iret (wf := [cF h (nI np), cP (h 1) q, cS (h 4) v, cS (h 5) ((F_X4_leastPremium q v ((F_X4_firstLapsed q v 2000000 np x.toNatClampNeg).2) np x.toNatClampNeg).2)]) S hr hlk hK hW [0, 1, 2, 3] rfl rfl (congrArg (fun (z : Int32 × Int32 × S7) => [cF h (nI np), cP (h 1) q, cS (h 4) v, cS (h 5) z.2.2]) eF).symm (congrArg (fun (z : Int32 × Int32 × S7) => z.2.1) eF).symm (congrArg (fun (z : Int32 × Int32 × S7) => z.1) eF) rfl rfl dX4_needed_63
          ·
            refine lv_iconst (v := (-1)) hx hb dX4_needed_56 (by decide) ?_
            have eF : (F_X4_needed q v tr x np) = (0, (-1), ((F_X4_firstLapsed q v 2000000 np x.toNatClampNeg).2)) := by
              unfold F_X4_needed
              rw [if_neg c_1, if_pos c_2, if_neg c_3, if_neg c_4, if_neg c_5]
            exact kx_iret (wf := [cF h (nI np), cP (h 1) q, cS (h 4) v, cS (h 5) ((F_X4_firstLapsed q v 2000000 np x.toNatClampNeg).2)]) S hr hlk hK hW [0, 1, 2, 3] rfl rfl (congrArg (fun (z : Int32 × Int32 × S7) => [cF h (nI np), cP (h 1) q, cS (h 4) v, cS (h 5) z.2.2]) eF).symm (congrArg (fun (z : Int32 × Int32 × S7) => z.2.1) eF).symm (congrArg (fun (z : Int32 × Int32 × S7) => z.1) eF) rfl rfl dX4_needed_57
        ·
          refine lv_iconst (v := 0) hx hb dX4_needed_43 (by decide) ?_
          have eF : (F_X4_needed q v tr x np) = (0, 0, ((F_X4_firstLapsed q v 0 np x.toNatClampNeg).2)) := by
            unfold F_X4_needed
            rw [if_neg c_1, if_pos c_2, if_neg c_3, if_pos c_4]
          exact kx_iret (wf := [cF h (nI np), cP (h 1) q, cS (h 4) v, cS (h 5) ((F_X4_firstLapsed q v 0 np x.toNatClampNeg).2)]) S hr hlk hK hW [0, 1, 2, 3] rfl rfl (congrArg (fun (z : Int32 × Int32 × S7) => [cF h (nI np), cP (h 1) q, cS (h 4) v, cS (h 5) z.2.2]) eF).symm (congrArg (fun (z : Int32 × Int32 × S7) => z.2.1) eF).symm (congrArg (fun (z : Int32 × Int32 × S7) => z.1) eF) rfl rfl dX4_needed_44
      ·
        refine lv_iconst (v := (-1)) hx hb dX4_needed_31 (by decide) ?_
        have eF : (F_X4_needed q v tr x np) = (0, (-1), tr) := by
          unfold F_X4_needed
          rw [if_neg c_1, if_pos c_2, if_pos c_3]
        exact kx_iret (wf := [cF h (nI np), cP (h 1) q, cS (h 4) v, cS (h 5) tr]) S hr hlk hK hW [0, 1, 3, 2] rfl rfl (congrArg (fun (z : Int32 × Int32 × S7) => [cF h (nI np), cP (h 1) q, cS (h 4) v, cS (h 5) z.2.2]) eF).symm (congrArg (fun (z : Int32 × Int32 × S7) => z.2.1) eF).symm (congrArg (fun (z : Int32 × Int32 × S7) => z.1) eF) rfl rfl dX4_needed_32
    ·
      have eF : (F_X4_needed q v tr x np) = (1, 0, tr) := by
        unfold F_X4_needed
        rw [if_neg c_1, if_neg c_2]
      obtain ⟨sa, hsa⟩ := hXE.2.2.2.2.2 (176, "1 to 36 months are looked at") (by decide +kernel)
      have eK : ((F_X4_needed q v tr x np)).1 = 1 := congrArg (fun (z : Int32 × Int32 × S7) => z.1) eF
      exact kx_throw hst S hlk hex hXE hXZ hK hW [0, 1, 2, 3] rfl rfl (ik := 44) (ix := 176) (ic := 48) (cls := nIAE) (by decide +kernel) k_X4_needed_xl44 k_X4_needed_xi44 hsa (fun _ h => List.mem_cons_of_mem _ (List.mem_append_right _ h)) xb_nIAE hXE.1 xg_nIAE hl.1 dX4_needed_11 dX4_needed_14 dX4_needed_15 dX4_needed_17 dX4_needed_20 rfl rfl rfl rfl rfl rfl ⟨(1, nIAE), List.mem_cons_self, eK, rfl⟩
