def F_L_begin (p : Int32) (q : S3) (c : Int32) (v : S7) (fo : (Nat → Int64)) (x1 : Int32) (x2 : Int32) (x3 : Int32) : Nat → Int64 :=
  (vp_updL fo (0 : Int32).toNatClampNeg (((F_X4_begin p q c v x1 x2 x3).2.1).toInt64))
set_option maxRecDepth 100000 in
theorem k_L_begin_cl13 : Cond.classLink RL 13 nIAE ∈ wsL_begin := by decide +kernel
theorem nd_L_begin : yL_begin.cls ≠ "java/lang/invoke/MethodHandle" ∧ yL_begin.cls ≠ "java/lang/invoke/VarHandle" ∧ (parseMethodDescriptor yL_begin.desc).map (fun d => d.parameters.length) = some 5 := by decide +kernel
abbrev rm_L_begin : Room := { frames := 7, cells := 1, slots := 6, locals := 106 }
set_option maxHeartbeats 4000000 in
set_option maxRecDepth 100000 in
theorem c_L_begin (l : Launch) (hst : l.stackTraces = false) (G : GG) (h : Nat → Nat) (p : Int32) (q : S3) (c : Int32) (v : S7) (fo : (Nat → Int64)) (x1 : Int32) (x2 : Int32) (x3 : Int32) : CY l G yL_begin wsL_begin rm_L_begin [.ref (h 0), .int x1, .int x2, .int x3, .ref (h 24)] [cF h p, cP (h 1) q, cB h c, cS (h 4) v, aJ G (h 24) 1 fo] ((F_X4_begin p q c v x1 x2 x3).1) [cF h ((F_X4_begin p q c v x1 x2 x3).2.2.1), cP (h 1) ((F_X4_begin p q c v x1 x2 x3).2.2.2.1), cB h ((F_X4_begin p q c v x1 x2 x3).2.2.2.2.1), cS (h 4) ((F_X4_begin p q c v x1 x2 x3).2.2.2.2.2), aJ G (h 24) 1 (F_L_begin p q c v fo x1 x2 x3)] := by
  refine CY_of (own := RL) (by decide +kernel) rfl rfl (Nat.le_of_ble_eq_true rfl) ?_
  intro pP eE sS mM args below meth cC A S hK hr hlk htb hXE hXZ hW ls hl
  have hx := S.1
  have hb := S.2.1
  have hts := S.2.2.2.2
  have hl : lv_has ls 6 [(0, .ref (h 0)), (1, .int x1), (2, .int x2), (3, .int x3), (4, .ref (h 24))] := hl
  have hW : Wd G A sS.heap [cF h p, cP (h 1) q, cB h c, cS (h 4) v, aJ G (h 24) 1 fo] sS.heap [] := hW
  refine lv_aload hx hb dL_begin_0 (lv_at hl 4 rfl) ?_
  refine lv_iconst (v := 0) hx hb dL_begin_2 (by decide) ?_
  refine lv_aload_n hx hb dL_begin_3 rfl (lv_at hl 0 rfl) ?_
  refine lv_iload_n hx hb dL_begin_4 rfl (lv_at hl 1 rfl) ?_
  refine lv_iload_n hx hb dL_begin_5 rfl (lv_at hl 2 rfl) ?_
  refine lv_iload_n hx hb dL_begin_6 rfl (lv_at hl 3 rfl) ?_
  refine kx_callV (C := RX4) (As := [.int x1, .int x2, .int x3]) (rest := [.int 0, .ref (h 24)]) (wr := [aJ G (h 24) 1 fo]) (c_X4_begin l hst G h p q c v x1 x2 x3) S hK hW hXE hXZ gL_begin_X4_begin rfl ⟨rfl, rfl⟩ nd_X4_begin ⟨rfl, rfl⟩ (qb := 0) (ci := 4) rfl rfl [0, 1, 2, 3] [4] rfl rfl rfl rfl (by decide) rfl hl.1 rfl dL_begin_7 ⟨rfl, rfl⟩ (fun H locs q9 ce E hE hW hq9 hv9 hc9 => ?_) (fun H locs hk0 hW => ?_)
  ·
    have hW : Wd G A sS.heap [aJ G (h 24) 1 fo, cF h p, cP (h 1) q, cB h c, cS (h 4) v] H locs := hW
    obtain ⟨q, hq, hk, rfl⟩ := hE
    obtain rfl := List.mem_singleton.mp hq
    refine vx_catch (name := nIAE) S.2.2.2.1 [] ⟨0, 12, 15, 13⟩ [] htb (fun _ h => absurd h List.not_mem_nil) (by decide) (by decide) (hts _ k_L_begin_cl13) (va_Nw.use rfl hXE.1) hq9 hv9 hc9 ?_
    refine lv_astore (lv' := [(5, .ref q9), (0, .ref (h 0)), (1, .int x1), (2, .int x2), (3, .int x3), (4, .ref (h 24))]) hx hb dL_begin_15 hl (by decide) rfl (fun ls hl => ?_)
    refine lv_iconst (v := 1) hx hb dL_begin_17 (by decide) ?_
    exact ky_iret S hr hlk hK false (wf := [cF h p, cP (h 1) q, cB h c, cS (h 4) v, aJ G (h 24) 1 fo]) hW [1, 2, 3, 4, 0] rfl rfl rfl hk.symm (by rw [hk]; decide) rfl rfl dL_begin_18
  ·
    have hW : Wd G A sS.heap [aJ G (h 24) 1 fo, cF h ((F_X4_begin p q c v x1 x2 x3).2.2.1), cP (h 1) ((F_X4_begin p q c v x1 x2 x3).2.2.2.1), cB h ((F_X4_begin p q c v x1 x2 x3).2.2.2.2.1), cS (h 4) ((F_X4_begin p q c v x1 x2 x3).2.2.2.2.2)] H locs := hW
    refine lv_i2l hx hb dL_begin_10 rfl ?_
    refine k_last (n := 1) (ws' := [aJ G (h 24) 1 (vp_updL fo (0 : Int32).toNatClampNeg (((F_X4_begin p q c v x1 x2 x3).2.1).toInt64)), cF h ((F_X4_begin p q c v x1 x2 x3).2.2.1), cP (h 1) ((F_X4_begin p q c v x1 x2 x3).2.2.2.1), cB h ((F_X4_begin p q c v x1 x2 x3).2.2.2.2.1), cS (h 4) ((F_X4_begin p q c v x1 x2 x3).2.2.2.2.2)]) S hK hW 0 rfl (i := 0) vp_01 rfl dL_begin_11 (fun H locs hW => ?_)
    refine lv_goto (tgt := 19) hx hb dL_begin_12 (by decide) ?_
    refine lv_iconst (v := 0) hx hb dL_begin_19 (by decide) ?_
    have eF : (F_L_begin p q c v fo x1 x2 x3) = (vp_updL fo (0 : Int32).toNatClampNeg (((F_X4_begin p q c v x1 x2 x3).2.1).toInt64)) := by
      rfl
    exact ky_iret S hr hlk hK true (wf := [cF h ((F_X4_begin p q c v x1 x2 x3).2.2.1), cP (h 1) ((F_X4_begin p q c v x1 x2 x3).2.2.2.1), cB h ((F_X4_begin p q c v x1 x2 x3).2.2.2.2.1), cS (h 4) ((F_X4_begin p q c v x1 x2 x3).2.2.2.2.2), aJ G (h 24) 1 (vp_updL fo (0 : Int32).toNatClampNeg (((F_X4_begin p q c v x1 x2 x3).2.1).toInt64))]) hW [1, 2, 3, 4, 0] rfl rfl (congrArg (fun (z : Nat → Int64) => [cF h ((F_X4_begin p q c v x1 x2 x3).2.2.1), cP (h 1) ((F_X4_begin p q c v x1 x2 x3).2.2.2.1), cB h ((F_X4_begin p q c v x1 x2 x3).2.2.2.2.1), cS (h 4) ((F_X4_begin p q c v x1 x2 x3).2.2.2.2.2), aJ G (h 24) 1 z]) eF).symm hk0.symm ⟨fun _ => hk0, fun _ => rfl⟩ rfl rfl dL_begin_20
def F_L_corridor (fo : (Nat → Int64)) (x : Int32) : Nat → Int64 :=
  (vp_updL fo (0 : Int32).toNatClampNeg (((F_X4_corridor x).2).toInt64))
set_option maxRecDepth 100000 in
theorem k_L_corridor_cl13 : Cond.classLink RL 13 nIAE ∈ wsL_corridor := by decide +kernel
theorem nd_L_corridor : yL_corridor.cls ≠ "java/lang/invoke/MethodHandle" ∧ yL_corridor.cls ≠ "java/lang/invoke/VarHandle" ∧ (parseMethodDescriptor yL_corridor.desc).map (fun d => d.parameters.length) = some 3 := by decide +kernel
abbrev rm_L_corridor : Room := { frames := 7, cells := 1, slots := 6, locals := 103 }
set_option maxHeartbeats 4000000 in
set_option maxRecDepth 100000 in
theorem c_L_corridor (l : Launch) (hst : l.stackTraces = false) (G : GG) (h : Nat → Nat) (p : Int32) (q : S3) (fo : (Nat → Int64)) (x : Int32) : CY l G yL_corridor wsL_corridor rm_L_corridor [.ref (h 0), .int x, .ref (h 24)] [cF h p, cP (h 1) q, aJ G (h 24) 1 fo] ((F_X4_corridor x).1) [cF h p, cP (h 1) q, aJ G (h 24) 1 (F_L_corridor fo x)] := by
  refine CY_of (own := RL) (by decide +kernel) rfl rfl (Nat.le_of_ble_eq_true rfl) ?_
  intro pP eE sS mM args below meth cC A S hK hr hlk htb hXE hXZ hW ls hl
  have hx := S.1
  have hb := S.2.1
  have hts := S.2.2.2.2
  have hl : lv_has ls 4 [(0, .ref (h 0)), (1, .int x), (2, .ref (h 24))] := hl
  have hW : Wd G A sS.heap [cF h p, cP (h 1) q, aJ G (h 24) 1 fo] sS.heap [] := hW
  refine lv_aload_n hx hb dL_corridor_0 rfl (lv_at hl 2 rfl) ?_
  refine lv_iconst (v := 0) hx hb dL_corridor_1 (by decide) ?_
  refine lv_aload_n hx hb dL_corridor_2 rfl (lv_at hl 0 rfl) ?_
  refine lv_iload_n hx hb dL_corridor_3 rfl (lv_at hl 1 rfl) ?_
  refine kx_callV (C := RX4) (As := [.int x]) (rest := [.int 0, .ref (h 24)]) (wr := [aJ G (h 24) 1 fo]) (c_X4_corridor l hst G h p q x) S hK hW hXE hXZ gL_corridor_X4_corridor rfl ⟨rfl, rfl⟩ nd_X4_corridor ⟨rfl, rfl⟩ (qb := 0) (ci := 4) rfl rfl [0, 1] [2] rfl rfl rfl rfl (by decide) rfl hl.1 rfl dL_corridor_4 ⟨rfl, rfl⟩ (fun H locs q9 ce E hE hW hq9 hv9 hc9 => ?_) (fun H locs hk0 hW => ?_)
  ·
    have hW : Wd G A sS.heap [aJ G (h 24) 1 fo, cF h p, cP (h 1) q] H locs := hW
    obtain ⟨q, hq, hk, rfl⟩ := hE
    obtain rfl := List.mem_singleton.mp hq
    refine vx_catch (name := nIAE) S.2.2.2.1 [] ⟨0, 9, 12, 13⟩ [] htb (fun _ h => absurd h List.not_mem_nil) (by decide) (by decide) (hts _ k_L_corridor_cl13) (va_Nw.use rfl hXE.1) hq9 hv9 hc9 ?_
    refine lv_astore_n (lv' := [(3, .ref q9), (0, .ref (h 0)), (1, .int x), (2, .ref (h 24))]) hx hb dL_corridor_12 rfl hl (by decide) rfl (fun ls hl => ?_)
    refine lv_iconst (v := 1) hx hb dL_corridor_13 (by decide) ?_
    exact ky_iret S hr hlk hK false (wf := [cF h p, cP (h 1) q, aJ G (h 24) 1 fo]) hW [1, 2, 0] rfl rfl rfl hk.symm (by rw [hk]; decide) rfl rfl dL_corridor_14
  ·
    have hW : Wd G A sS.heap [aJ G (h 24) 1 fo, cF h p, cP (h 1) q] H locs := hW
    refine lv_i2l hx hb dL_corridor_7 rfl ?_
    refine k_last (n := 1) (ws' := [aJ G (h 24) 1 (vp_updL fo (0 : Int32).toNatClampNeg (((F_X4_corridor x).2).toInt64)), cF h p, cP (h 1) q]) S hK hW 0 rfl (i := 0) vp_01 rfl dL_corridor_8 (fun H locs hW => ?_)
    refine lv_goto (tgt := 15) hx hb dL_corridor_9 (by decide) ?_
    refine lv_iconst (v := 0) hx hb dL_corridor_15 (by decide) ?_
    have eF : (F_L_corridor fo x) = (vp_updL fo (0 : Int32).toNatClampNeg (((F_X4_corridor x).2).toInt64)) := by
      rfl
    exact ky_iret S hr hlk hK true (wf := [cF h p, cP (h 1) q, aJ G (h 24) 1 (vp_updL fo (0 : Int32).toNatClampNeg (((F_X4_corridor x).2).toInt64))]) hW [1, 2, 0] rfl rfl (congrArg (fun (z : Nat → Int64) => [cF h p, cP (h 1) q, aJ G (h 24) 1 z]) eF).symm hk0.symm ⟨fun _ => hk0, fun _ => rfl⟩ rfl rfl dL_corridor_16
def F_L_accountAt (p : Int32) (y1 : (Nat → Int32)) (y2 : (Nat → Int32)) (y3 : (Nat → Int32)) (y4 : (Nat → Int32)) (y5 : (Nat → Int32)) (y6 : (Nat → Int32)) (y7 : (Nat → Int32)) (tr : S7) (fo : (Nat → Int64)) (x : Int32) : Nat → Int64 :=
  (vp_updL fo (0 : Int32).toNatClampNeg (((F_X4_accountAt p y1 y2 y3 y4 y5 y6 y7 tr x).2.1).toInt64))
set_option maxRecDepth 100000 in
theorem k_L_accountAt_cl13 : Cond.classLink RL 13 nIAE ∈ wsL_accountAt := by decide +kernel
theorem nd_L_accountAt : yL_accountAt.cls ≠ "java/lang/invoke/MethodHandle" ∧ yL_accountAt.cls ≠ "java/lang/invoke/VarHandle" ∧ (parseMethodDescriptor yL_accountAt.desc).map (fun d => d.parameters.length) = some 3 := by decide +kernel
abbrev rm_L_accountAt : Room := { frames := 7, cells := 1, slots := 6, locals := 103 }
set_option maxHeartbeats 4000000 in
set_option maxRecDepth 100000 in
theorem c_L_accountAt (l : Launch) (hst : l.stackTraces = false) (G : GG) (h : Nat → Nat) (p : Int32) (y1 : (Nat → Int32)) (y2 : (Nat → Int32)) (y3 : (Nat → Int32)) (y4 : (Nat → Int32)) (y5 : (Nat → Int32)) (y6 : (Nat → Int32)) (y7 : (Nat → Int32)) (tr : S7) (fo : (Nat → Int64)) (x : Int32) : CY l G yL_accountAt wsL_accountAt rm_L_accountAt [.ref (h 0), .int x, .ref (h 24)] [cF h p, cH h, aI G (h 11) 121 y1, aI G (h 12) 121 y2, aI G (h 13) 121 y3, aI G (h 14) 121 y4, aI G (h 15) 121 y5, aI G (h 16) 121 y6, aI G (h 17) 121 y7, cS (h 5) tr, aJ G (h 24) 1 fo] ((F_X4_accountAt p y1 y2 y3 y4 y5 y6 y7 tr x).1) [cF h p, cH h, aI G (h 11) 121 y1, aI G (h 12) 121 y2, aI G (h 13) 121 y3, aI G (h 14) 121 y4, aI G (h 15) 121 y5, aI G (h 16) 121 y6, aI G (h 17) 121 y7, cS (h 5) ((F_X4_accountAt p y1 y2 y3 y4 y5 y6 y7 tr x).2.2), aJ G (h 24) 1 (F_L_accountAt p y1 y2 y3 y4 y5 y6 y7 tr fo x)] := by
  refine CY_of (own := RL) (by decide +kernel) rfl rfl (Nat.le_of_ble_eq_true rfl) ?_
  intro pP eE sS mM args below meth cC A S hK hr hlk htb hXE hXZ hW ls hl
  have hx := S.1
  have hb := S.2.1
  have hts := S.2.2.2.2
  have hl : lv_has ls 4 [(0, .ref (h 0)), (1, .int x), (2, .ref (h 24))] := hl
  have hW : Wd G A sS.heap [cF h p, cH h, aI G (h 11) 121 y1, aI G (h 12) 121 y2, aI G (h 13) 121 y3, aI G (h 14) 121 y4, aI G (h 15) 121 y5, aI G (h 16) 121 y6, aI G (h 17) 121 y7, cS (h 5) tr, aJ G (h 24) 1 fo] sS.heap [] := hW
  refine lv_aload_n hx hb dL_accountAt_0 rfl (lv_at hl 2 rfl) ?_
  refine lv_iconst (v := 0) hx hb dL_accountAt_1 (by decide) ?_
  refine lv_aload_n hx hb dL_accountAt_2 rfl (lv_at hl 0 rfl) ?_
  refine lv_iload_n hx hb dL_accountAt_3 rfl (lv_at hl 1 rfl) ?_
  refine kx_callV (C := RX4) (As := [.int x]) (rest := [.int 0, .ref (h 24)]) (wr := [aJ G (h 24) 1 fo]) (c_X4_accountAt l hst G h p y1 y2 y3 y4 y5 y6 y7 tr x) S hK hW hXE hXZ gL_accountAt_X4_accountAt rfl ⟨rfl, rfl⟩ nd_X4_accountAt ⟨rfl, rfl⟩ (qb := 0) (ci := 4) rfl rfl [0, 1, 2, 3, 4, 5, 6, 7, 8, 9] [10] rfl rfl rfl rfl (by decide) rfl hl.1 rfl dL_accountAt_4 ⟨rfl, rfl⟩ (fun H locs q9 ce E hE hW hq9 hv9 hc9 => ?_) (fun H locs hk0 hW => ?_)
  ·
    have hW : Wd G A sS.heap [aJ G (h 24) 1 fo, cF h p, cH h, aI G (h 11) 121 y1, aI G (h 12) 121 y2, aI G (h 13) 121 y3, aI G (h 14) 121 y4, aI G (h 15) 121 y5, aI G (h 16) 121 y6, aI G (h 17) 121 y7, cS (h 5) tr] H locs := hW
    obtain ⟨q, hq, hk, rfl⟩ := hE
    obtain rfl := List.mem_singleton.mp hq
    refine vx_catch (name := nIAE) S.2.2.2.1 [] ⟨0, 9, 12, 13⟩ [] htb (fun _ h => absurd h List.not_mem_nil) (by decide) (by decide) (hts _ k_L_accountAt_cl13) (va_Nw.use rfl hXE.1) hq9 hv9 hc9 ?_
    refine lv_astore_n (lv' := [(3, .ref q9), (0, .ref (h 0)), (1, .int x), (2, .ref (h 24))]) hx hb dL_accountAt_12 rfl hl (by decide) rfl (fun ls hl => ?_)
    refine lv_iconst (v := 1) hx hb dL_accountAt_13 (by decide) ?_
    exact ky_iret S hr hlk hK false (wf := [cF h p, cH h, aI G (h 11) 121 y1, aI G (h 12) 121 y2, aI G (h 13) 121 y3, aI G (h 14) 121 y4, aI G (h 15) 121 y5, aI G (h 16) 121 y6, aI G (h 17) 121 y7, cS (h 5) tr, aJ G (h 24) 1 fo]) hW [1, 2, 3, 4, 5, 6, 7, 8, 9, 10, 0] rfl rfl rfl hk.symm (by rw [hk]; decide) rfl rfl dL_accountAt_14
  ·
    have hW : Wd G A sS.heap [aJ G (h 24) 1 fo, cF h p, cH h, aI G (h 11) 121 y1, aI G (h 12) 121 y2, aI G (h 13) 121 y3, aI G (h 14) 121 y4, aI G (h 15) 121 y5, aI G (h 16) 121 y6, aI G (h 17) 121 y7, cS (h 5) ((F_X4_accountAt p y1 y2 y3 y4 y5 y6 y7 tr x).2.2)] H locs := hW
    refine lv_i2l hx hb dL_accountAt_7 rfl ?_
    refine k_last (n := 1) (ws' := [aJ G (h 24) 1 (vp_updL fo (0 : Int32).toNatClampNeg (((F_X4_accountAt p y1 y2 y3 y4 y5 y6 y7 tr x).2.1).toInt64)), cF h p, cH h, aI G (h 11) 121 y1, aI G (h 12) 121 y2, aI G (h 13) 121 y3, aI G (h 14) 121 y4, aI G (h 15) 121 y5, aI G (h 16) 121 y6, aI G (h 17) 121 y7, cS (h 5) ((F_X4_accountAt p y1 y2 y3 y4 y5 y6 y7 tr x).2.2)]) S hK hW 0 rfl (i := 0) vp_01 rfl dL_accountAt_8 (fun H locs hW => ?_)
    refine lv_goto (tgt := 15) hx hb dL_accountAt_9 (by decide) ?_
    refine lv_iconst (v := 0) hx hb dL_accountAt_15 (by decide) ?_
    have eF : (F_L_accountAt p y1 y2 y3 y4 y5 y6 y7 tr fo x) = (vp_updL fo (0 : Int32).toNatClampNeg (((F_X4_accountAt p y1 y2 y3 y4 y5 y6 y7 tr x).2.1).toInt64)) := by
      rfl
    exact ky_iret S hr hlk hK true (wf := [cF h p, cH h, aI G (h 11) 121 y1, aI G (h 12) 121 y2, aI G (h 13) 121 y3, aI G (h 14) 121 y4, aI G (h 15) 121 y5, aI G (h 16) 121 y6, aI G (h 17) 121 y7, cS (h 5) ((F_X4_accountAt p y1 y2 y3 y4 y5 y6 y7 tr x).2.2), aJ G (h 24) 1 (vp_updL fo (0 : Int32).toNatClampNeg (((F_X4_accountAt p y1 y2 y3 y4 y5 y6 y7 tr x).2.1).toInt64))]) hW [1, 2, 3, 4, 5, 6, 7, 8, 9, 10, 0] rfl rfl (congrArg (fun (z : Nat → Int64) => [cF h p, cH h, aI G (h 11) 121 y1, aI G (h 12) 121 y2, aI G (h 13) 121 y3, aI G (h 14) 121 y4, aI G (h 15) 121 y5, aI G (h 16) 121 y6, aI G (h 17) 121 y7, cS (h 5) ((F_X4_accountAt p y1 y2 y3 y4 y5 y6 y7 tr x).2.2), aJ G (h 24) 1 z]) eF).symm hk0.symm ⟨fun _ => hk0, fun _ => rfl⟩ rfl rfl dL_accountAt_16
def F_L_stateAt (p : Int32) (y1 : (Nat → Int32)) (y2 : (Nat → Int32)) (y3 : (Nat → Int32)) (y4 : (Nat → Int32)) (y5 : (Nat → Int32)) (y6 : (Nat → Int32)) (y7 : (Nat → Int32)) (tr : S7) (fo : (Nat → Int64)) (x : Int32) : Nat → Int64 :=
  (vp_updL fo (0 : Int32).toNatClampNeg (((F_X4_stateAt p y1 y2 y3 y4 y5 y6 y7 tr x).2.1).toInt64))
set_option maxRecDepth 100000 in
theorem k_L_stateAt_cl13 : Cond.classLink RL 13 nIAE ∈ wsL_stateAt := by decide +kernel
theorem nd_L_stateAt : yL_stateAt.cls ≠ "java/lang/invoke/MethodHandle" ∧ yL_stateAt.cls ≠ "java/lang/invoke/VarHandle" ∧ (parseMethodDescriptor yL_stateAt.desc).map (fun d => d.parameters.length) = some 3 := by decide +kernel
abbrev rm_L_stateAt : Room := { frames := 7, cells := 1, slots := 6, locals := 103 }
set_option maxHeartbeats 4000000 in
set_option maxRecDepth 100000 in
theorem c_L_stateAt (l : Launch) (hst : l.stackTraces = false) (G : GG) (h : Nat → Nat) (p : Int32) (y1 : (Nat → Int32)) (y2 : (Nat → Int32)) (y3 : (Nat → Int32)) (y4 : (Nat → Int32)) (y5 : (Nat → Int32)) (y6 : (Nat → Int32)) (y7 : (Nat → Int32)) (tr : S7) (fo : (Nat → Int64)) (x : Int32) : CY l G yL_stateAt wsL_stateAt rm_L_stateAt [.ref (h 0), .int x, .ref (h 24)] [cF h p, cH h, aI G (h 11) 121 y1, aI G (h 12) 121 y2, aI G (h 13) 121 y3, aI G (h 14) 121 y4, aI G (h 15) 121 y5, aI G (h 16) 121 y6, aI G (h 17) 121 y7, cS (h 5) tr, aJ G (h 24) 1 fo] ((F_X4_stateAt p y1 y2 y3 y4 y5 y6 y7 tr x).1) [cF h p, cH h, aI G (h 11) 121 y1, aI G (h 12) 121 y2, aI G (h 13) 121 y3, aI G (h 14) 121 y4, aI G (h 15) 121 y5, aI G (h 16) 121 y6, aI G (h 17) 121 y7, cS (h 5) ((F_X4_stateAt p y1 y2 y3 y4 y5 y6 y7 tr x).2.2), aJ G (h 24) 1 (F_L_stateAt p y1 y2 y3 y4 y5 y6 y7 tr fo x)] := by
  refine CY_of (own := RL) (by decide +kernel) rfl rfl (Nat.le_of_ble_eq_true rfl) ?_
  intro pP eE sS mM args below meth cC A S hK hr hlk htb hXE hXZ hW ls hl
  have hx := S.1
  have hb := S.2.1
  have hts := S.2.2.2.2
  have hl : lv_has ls 4 [(0, .ref (h 0)), (1, .int x), (2, .ref (h 24))] := hl
  have hW : Wd G A sS.heap [cF h p, cH h, aI G (h 11) 121 y1, aI G (h 12) 121 y2, aI G (h 13) 121 y3, aI G (h 14) 121 y4, aI G (h 15) 121 y5, aI G (h 16) 121 y6, aI G (h 17) 121 y7, cS (h 5) tr, aJ G (h 24) 1 fo] sS.heap [] := hW
  refine lv_aload_n hx hb dL_stateAt_0 rfl (lv_at hl 2 rfl) ?_
  refine lv_iconst (v := 0) hx hb dL_stateAt_1 (by decide) ?_
  refine lv_aload_n hx hb dL_stateAt_2 rfl (lv_at hl 0 rfl) ?_
  refine lv_iload_n hx hb dL_stateAt_3 rfl (lv_at hl 1 rfl) ?_
  refine kx_callV (C := RX4) (As := [.int x]) (rest := [.int 0, .ref (h 24)]) (wr := [aJ G (h 24) 1 fo]) (c_X4_stateAt l hst G h p y1 y2 y3 y4 y5 y6 y7 tr x) S hK hW hXE hXZ gL_stateAt_X4_stateAt rfl ⟨rfl, rfl⟩ nd_X4_stateAt ⟨rfl, rfl⟩ (qb := 0) (ci := 4) rfl rfl [0, 1, 2, 3, 4, 5, 6, 7, 8, 9] [10] rfl rfl rfl rfl (by decide) rfl hl.1 rfl dL_stateAt_4 ⟨rfl, rfl⟩ (fun H locs q9 ce E hE hW hq9 hv9 hc9 => ?_) (fun H locs hk0 hW => ?_)
  ·
    have hW : Wd G A sS.heap [aJ G (h 24) 1 fo, cF h p, cH h, aI G (h 11) 121 y1, aI G (h 12) 121 y2, aI G (h 13) 121 y3, aI G (h 14) 121 y4, aI G (h 15) 121 y5, aI G (h 16) 121 y6, aI G (h 17) 121 y7, cS (h 5) tr] H locs := hW
    obtain ⟨q, hq, hk, rfl⟩ := hE
    obtain rfl := List.mem_singleton.mp hq
    refine vx_catch (name := nIAE) S.2.2.2.1 [] ⟨0, 9, 12, 13⟩ [] htb (fun _ h => absurd h List.not_mem_nil) (by decide) (by decide) (hts _ k_L_stateAt_cl13) (va_Nw.use rfl hXE.1) hq9 hv9 hc9 ?_
    refine lv_astore_n (lv' := [(3, .ref q9), (0, .ref (h 0)), (1, .int x), (2, .ref (h 24))]) hx hb dL_stateAt_12 rfl hl (by decide) rfl (fun ls hl => ?_)
    refine lv_iconst (v := 1) hx hb dL_stateAt_13 (by decide) ?_
    exact ky_iret S hr hlk hK false (wf := [cF h p, cH h, aI G (h 11) 121 y1, aI G (h 12) 121 y2, aI G (h 13) 121 y3, aI G (h 14) 121 y4, aI G (h 15) 121 y5, aI G (h 16) 121 y6, aI G (h 17) 121 y7, cS (h 5) tr, aJ G (h 24) 1 fo]) hW [1, 2, 3, 4, 5, 6, 7, 8, 9, 10, 0] rfl rfl rfl hk.symm (by rw [hk]; decide) rfl rfl dL_stateAt_14
  ·
    have hW : Wd G A sS.heap [aJ G (h 24) 1 fo, cF h p, cH h, aI G (h 11) 121 y1, aI G (h 12) 121 y2, aI G (h 13) 121 y3, aI G (h 14) 121 y4, aI G (h 15) 121 y5, aI G (h 16) 121 y6, aI G (h 17) 121 y7, cS (h 5) ((F_X4_stateAt p y1 y2 y3 y4 y5 y6 y7 tr x).2.2)] H locs := hW
    refine lv_i2l hx hb dL_stateAt_7 rfl ?_
    refine k_last (n := 1) (ws' := [aJ G (h 24) 1 (vp_updL fo (0 : Int32).toNatClampNeg (((F_X4_stateAt p y1 y2 y3 y4 y5 y6 y7 tr x).2.1).toInt64)), cF h p, cH h, aI G (h 11) 121 y1, aI G (h 12) 121 y2, aI G (h 13) 121 y3, aI G (h 14) 121 y4, aI G (h 15) 121 y5, aI G (h 16) 121 y6, aI G (h 17) 121 y7, cS (h 5) ((F_X4_stateAt p y1 y2 y3 y4 y5 y6 y7 tr x).2.2)]) S hK hW 0 rfl (i := 0) vp_01 rfl dL_stateAt_8 (fun H locs hW => ?_)
    refine lv_goto (tgt := 15) hx hb dL_stateAt_9 (by decide) ?_
    refine lv_iconst (v := 0) hx hb dL_stateAt_15 (by decide) ?_
    have eF : (F_L_stateAt p y1 y2 y3 y4 y5 y6 y7 tr fo x) = (vp_updL fo (0 : Int32).toNatClampNeg (((F_X4_stateAt p y1 y2 y3 y4 y5 y6 y7 tr x).2.1).toInt64)) := by
      rfl
    exact ky_iret S hr hlk hK true (wf := [cF h p, cH h, aI G (h 11) 121 y1, aI G (h 12) 121 y2, aI G (h 13) 121 y3, aI G (h 14) 121 y4, aI G (h 15) 121 y5, aI G (h 16) 121 y6, aI G (h 17) 121 y7, cS (h 5) ((F_X4_stateAt p y1 y2 y3 y4 y5 y6 y7 tr x).2.2), aJ G (h 24) 1 (vp_updL fo (0 : Int32).toNatClampNeg (((F_X4_stateAt p y1 y2 y3 y4 y5 y6 y7 tr x).2.1).toInt64))]) hW [1, 2, 3, 4, 5, 6, 7, 8, 9, 10, 0] rfl rfl (congrArg (fun (z : Nat → Int64) => [cF h p, cH h, aI G (h 11) 121 y1, aI G (h 12) 121 y2, aI G (h 13) 121 y3, aI G (h 14) 121 y4, aI G (h 15) 121 y5, aI G (h 16) 121 y6, aI G (h 17) 121 y7, cS (h 5) ((F_X4_stateAt p y1 y2 y3 y4 y5 y6 y7 tr x).2.2), aJ G (h 24) 1 z]) eF).symm hk0.symm ⟨fun _ => hk0, fun _ => rfl⟩ rfl rfl dL_stateAt_16
def F_L_isDone (c : Int32) (sk : (Nat → Bool)) (dn : (Nat → Bool)) (fo : (Nat → Int64)) (x : Int32) : Nat → Int64 :=
  if bI ((F_X4_isDone c sk dn x).2) = 0 then (vp_updL fo (0 : Int32).toNatClampNeg 0)
  else (vp_updL fo (0 : Int32).toNatClampNeg 1)
set_option maxRecDepth 100000 in
theorem k_L_isDone_cl25 : Cond.classLink RL 25 nIOB ∈ wsL_isDone := by decide +kernel
theorem nd_L_isDone : yL_isDone.cls ≠ "java/lang/invoke/MethodHandle" ∧ yL_isDone.cls ≠ "java/lang/invoke/VarHandle" ∧ (parseMethodDescriptor yL_isDone.desc).map (fun d => d.parameters.length) = some 3 := by decide +kernel
abbrev rm_L_isDone : Room := { frames := 7, cells := 1, slots := 6, locals := 103 }
set_option maxHeartbeats 4000000 in
set_option maxRecDepth 100000 in
theorem c_L_isDone (l : Launch) (hst : l.stackTraces = false) (G : GG) (h : Nat → Nat) (p : Int32) (c : Int32) (sk : (Nat → Bool)) (dn : (Nat → Bool)) (fo : (Nat → Int64)) (x : Int32) : CY l G yL_isDone wsL_isDone rm_L_isDone [.ref (h 0), .int x, .ref (h 24)] [cF h p, cB h c, aZ G (h 9) 60 sk, aZ G (h 10) 60 dn, aJ G (h 24) 1 fo] ((F_X4_isDone c sk dn x).1) [cF h p, cB h c, aZ G (h 9) 60 sk, aZ G (h 10) 60 dn, aJ G (h 24) 1 (F_L_isDone c sk dn fo x)] := by
  refine CY_of (own := RL) (by decide +kernel) rfl rfl (Nat.le_of_ble_eq_true rfl) ?_
  intro pP eE sS mM args below meth cC A S hK hr hlk htb hXE hXZ hW ls hl
  have hx := S.1
  have hb := S.2.1
  have hts := S.2.2.2.2
  have hl : lv_has ls 4 [(0, .ref (h 0)), (1, .int x), (2, .ref (h 24))] := hl
  have hW : Wd G A sS.heap [cF h p, cB h c, aZ G (h 9) 60 sk, aZ G (h 10) 60 dn, aJ G (h 24) 1 fo] sS.heap [] := hW
  refine lv_aload_n hx hb dL_isDone_0 rfl (lv_at hl 2 rfl) ?_
  refine lv_iconst (v := 0) hx hb dL_isDone_1 (by decide) ?_
  refine lv_aload_n hx hb dL_isDone_2 rfl (lv_at hl 0 rfl) ?_
  refine lv_iload_n hx hb dL_isDone_3 rfl (lv_at hl 1 rfl) ?_
  refine kx_callV (C := RX4) (As := [.int x]) (rest := [.int 0, .ref (h 24)]) (wr := [aJ G (h 24) 1 fo]) (c_X4_isDone l hst G h p c sk dn x) S hK hW hXE hXZ gL_isDone_X4_isDone rfl ⟨rfl, rfl⟩ nd_X4_isDone ⟨rfl, rfl⟩ (qb := 0) (ci := 4) rfl rfl [0, 1, 2, 3] [4] rfl rfl rfl rfl (by decide) rfl hl.1 rfl dL_isDone_4 ⟨rfl, rfl⟩ (fun H locs q9 ce E hE hW hq9 hv9 hc9 => ?_) (fun H locs hk0 hW => ?_)
  ·
    have hW : Wd G A sS.heap [aJ G (h 24) 1 fo, cF h p, cB h c, aZ G (h 9) 60 sk, aZ G (h 10) 60 dn] H locs := hW
    obtain ⟨q, hq, hk, rfl⟩ := hE
    obtain rfl := List.mem_singleton.mp hq
    refine vx_catch (name := nIOB) S.2.2.2.1 [] ⟨0, 16, 19, 25⟩ [] htb (fun _ h => absurd h List.not_mem_nil) (by decide) (by decide) (hts _ k_L_isDone_cl25) (va_Nw.use rfl hXE.2.2.1) hq9 hv9 hc9 ?_
    refine lv_astore_n (lv' := [(3, .ref q9), (0, .ref (h 0)), (1, .int x), (2, .ref (h 24))]) hx hb dL_isDone_19 rfl hl (by decide) rfl (fun ls hl => ?_)
    refine lv_iconst (v := 1) hx hb dL_isDone_20 (by decide) ?_
    exact ky_iret S hr hlk hK false (wf := [cF h p, cB h c, aZ G (h 9) 60 sk, aZ G (h 10) 60 dn, aJ G (h 24) 1 fo]) hW [1, 2, 3, 4, 0] rfl rfl rfl hk.symm (by rw [hk]; decide) rfl rfl dL_isDone_21
  ·
    have hW : Wd G A sS.heap [aJ G (h 24) 1 fo, cF h p, cB h c, aZ G (h 9) 60 sk, aZ G (h 10) 60 dn] H locs := hW
    refine lv_if_eq (tgt := 14) hx hb dL_isDone_7 (by decide) (fun c_1 => ?_) (fun c_1 => ?_)
    ·
      refine lv_lconst (v := 0) hx hb dL_isDone_14 rfl ?_
      refine k_last (n := 1) (ws' := [aJ G (h 24) 1 (vp_updL fo (0 : Int32).toNatClampNeg 0), cF h p, cB h c, aZ G (h 9) 60 sk, aZ G (h 10) 60 dn]) S hK hW 0 rfl (i := 0) vp_01 rfl dL_isDone_15 (fun H locs hW => ?_)
      refine lv_goto (tgt := 22) hx hb dL_isDone_16 (by decide) ?_
      refine lv_iconst (v := 0) hx hb dL_isDone_22 (by decide) ?_
      have eF : (F_L_isDone c sk dn fo x) = (vp_updL fo (0 : Int32).toNatClampNeg 0) := by
        unfold F_L_isDone
        rw [if_pos c_1]
      exact ky_iret S hr hlk hK true (wf := [cF h p, cB h c, aZ G (h 9) 60 sk, aZ G (h 10) 60 dn, aJ G (h 24) 1 (vp_updL fo (0 : Int32).toNatClampNeg 0)]) hW [1, 2, 3, 4, 0] rfl rfl (congrArg (fun (z : Nat → Int64) => [cF h p, cB h c, aZ G (h 9) 60 sk, aZ G (h 10) 60 dn, aJ G (h 24) 1 z]) eF).symm hk0.symm ⟨fun _ => hk0, fun _ => rfl⟩ rfl rfl dL_isDone_23
    ·
      refine lv_lconst (v := 1) hx hb dL_isDone_10 rfl ?_
      refine lv_goto (tgt := 15) hx hb dL_isDone_11 (by decide) ?_
      refine k_last (n := 1) (ws' := [aJ G (h 24) 1 (vp_updL fo (0 : Int32).toNatClampNeg 1), cF h p, cB h c, aZ G (h 9) 60 sk, aZ G (h 10) 60 dn]) S hK hW 0 rfl (i := 0) vp_01 rfl dL_isDone_15 (fun H locs hW => ?_)
      refine lv_goto (tgt := 22) hx hb dL_isDone_16 (by decide) ?_
      refine lv_iconst (v := 0) hx hb dL_isDone_22 (by decide) ?_
      have eF : (F_L_isDone c sk dn fo x) = (vp_updL fo (0 : Int32).toNatClampNeg 1) := by
        unfold F_L_isDone
        rw [if_neg c_1]
      exact ky_iret S hr hlk hK true (wf := [cF h p, cB h c, aZ G (h 9) 60 sk, aZ G (h 10) 60 dn, aJ G (h 24) 1 (vp_updL fo (0 : Int32).toNatClampNeg 1)]) hW [1, 2, 3, 4, 0] rfl rfl (congrArg (fun (z : Nat → Int64) => [cF h p, cB h c, aZ G (h 9) 60 sk, aZ G (h 10) 60 dn, aJ G (h 24) 1 z]) eF).symm hk0.symm ⟨fun _ => hk0, fun _ => rfl⟩ rfl rfl dL_isDone_23
def F_L_wouldLapse (q : S3) (v : S7) (tr : S7) (fo : (Nat → Int64)) (x : Int32) (np : Nat) : Nat → Int64 :=
  (vp_updL fo (0 : Int32).toNatClampNeg (((F_X4_wouldLapse q v tr x np).2.1).toInt64))
set_option maxRecDepth 100000 in
theorem k_L_wouldLapse_cl13 : Cond.classLink RL 13 nIAE ∈ wsL_wouldLapse := by decide +kernel
theorem nd_L_wouldLapse : yL_wouldLapse.cls ≠ "java/lang/invoke/MethodHandle" ∧ yL_wouldLapse.cls ≠ "java/lang/invoke/VarHandle" ∧ (parseMethodDescriptor yL_wouldLapse.desc).map (fun d => d.parameters.length) = some 3 := by decide +kernel
abbrev rm_L_wouldLapse : Room := { frames := 7, cells := 1, slots := 6, locals := 139 }
set_option maxHeartbeats 4000000 in
set_option maxRecDepth 100000 in
theorem c_L_wouldLapse (l : Launch) (hst : l.stackTraces = false) (G : GG) (h : Nat → Nat) (q : S3) (v : S7) (tr : S7) (fo : (Nat → Int64)) (x : Int32) (np : Nat) (hp : np ≤ 120) : CY l G yL_wouldLapse wsL_wouldLapse rm_L_wouldLapse [.ref (h 0), .int x, .ref (h 24)] [cF h (nI np), cP (h 1) q, cS (h 4) v, cS (h 5) tr, aJ G (h 24) 1 fo] ((F_X4_wouldLapse q v tr x np).1) [cF h (nI np), cP (h 1) q, cS (h 4) v, cS (h 5) ((F_X4_wouldLapse q v tr x np).2.2), aJ G (h 24) 1 (F_L_wouldLapse q v tr fo x np)] := by
  refine CY_of (own := RL) (by decide +kernel) rfl rfl (Nat.le_of_ble_eq_true rfl) ?_
  intro pP eE sS mM args below meth cC A S hK hr hlk htb hXE hXZ hW ls hl
  have hx := S.1
  have hb := S.2.1
  have hts := S.2.2.2.2
  have hl : lv_has ls 4 [(0, .ref (h 0)), (1, .int x), (2, .ref (h 24))] := hl
  have hW : Wd G A sS.heap [cF h (nI np), cP (h 1) q, cS (h 4) v, cS (h 5) tr, aJ G (h 24) 1 fo] sS.heap [] := hW
  refine lv_aload_n hx hb dL_wouldLapse_0 rfl (lv_at hl 2 rfl) ?_
  refine lv_iconst (v := 0) hx hb dL_wouldLapse_1 (by decide) ?_
  refine lv_aload_n hx hb dL_wouldLapse_2 rfl (lv_at hl 0 rfl) ?_
  refine lv_iload_n hx hb dL_wouldLapse_3 rfl (lv_at hl 1 rfl) ?_
  refine kx_callV (C := RX4) (As := [.int x]) (rest := [.int 0, .ref (h 24)]) (wr := [aJ G (h 24) 1 fo]) (c_X4_wouldLapse l hst G h q v tr x np hp) S hK hW hXE hXZ gL_wouldLapse_X4_wouldLapse rfl ⟨rfl, rfl⟩ nd_X4_wouldLapse ⟨rfl, rfl⟩ (qb := 0) (ci := 4) rfl rfl [0, 1, 2, 3] [4] rfl rfl rfl rfl (by decide) rfl hl.1 rfl dL_wouldLapse_4 ⟨rfl, rfl⟩ (fun H locs q9 ce E hE hW hq9 hv9 hc9 => ?_) (fun H locs hk0 hW => ?_)
  ·
    have hW : Wd G A sS.heap [aJ G (h 24) 1 fo, cF h (nI np), cP (h 1) q, cS (h 4) v, cS (h 5) tr] H locs := hW
    obtain ⟨q, hq, hk, rfl⟩ := hE
    obtain rfl := List.mem_singleton.mp hq
    refine vx_catch (name := nIAE) S.2.2.2.1 [] ⟨0, 9, 12, 13⟩ [] htb (fun _ h => absurd h List.not_mem_nil) (by decide) (by decide) (hts _ k_L_wouldLapse_cl13) (va_Nw.use rfl hXE.1) hq9 hv9 hc9 ?_
    refine lv_astore_n (lv' := [(3, .ref q9), (0, .ref (h 0)), (1, .int x), (2, .ref (h 24))]) hx hb dL_wouldLapse_12 rfl hl (by decide) rfl (fun ls hl => ?_)
    refine lv_iconst (v := 1) hx hb dL_wouldLapse_13 (by decide) ?_
    exact ky_iret S hr hlk hK false (wf := [cF h (nI np), cP (h 1) q, cS (h 4) v, cS (h 5) tr, aJ G (h 24) 1 fo]) hW [1, 2, 3, 4, 0] rfl rfl rfl hk.symm (by rw [hk]; decide) rfl rfl dL_wouldLapse_14
  ·
    have hW : Wd G A sS.heap [aJ G (h 24) 1 fo, cF h (nI np), cP (h 1) q, cS (h 4) v, cS (h 5) ((F_X4_wouldLapse q v tr x np).2.2)] H locs := hW
    refine lv_i2l hx hb dL_wouldLapse_7 rfl ?_
    refine k_last (n := 1) (ws' := [aJ G (h 24) 1 (vp_updL fo (0 : Int32).toNatClampNeg (((F_X4_wouldLapse q v tr x np).2.1).toInt64)), cF h (nI np), cP (h 1) q, cS (h 4) v, cS (h 5) ((F_X4_wouldLapse q v tr x np).2.2)]) S hK hW 0 rfl (i := 0) vp_01 rfl dL_wouldLapse_8 (fun H locs hW => ?_)
    refine lv_goto (tgt := 15) hx hb dL_wouldLapse_9 (by decide) ?_
    refine lv_iconst (v := 0) hx hb dL_wouldLapse_15 (by decide) ?_
    have eF : (F_L_wouldLapse q v tr fo x np) = (vp_updL fo (0 : Int32).toNatClampNeg (((F_X4_wouldLapse q v tr x np).2.1).toInt64)) := by
      rfl
    exact ky_iret S hr hlk hK true (wf := [cF h (nI np), cP (h 1) q, cS (h 4) v, cS (h 5) ((F_X4_wouldLapse q v tr x np).2.2), aJ G (h 24) 1 (vp_updL fo (0 : Int32).toNatClampNeg (((F_X4_wouldLapse q v tr x np).2.1).toInt64))]) hW [1, 2, 3, 4, 0] rfl rfl (congrArg (fun (z : Nat → Int64) => [cF h (nI np), cP (h 1) q, cS (h 4) v, cS (h 5) ((F_X4_wouldLapse q v tr x np).2.2), aJ G (h 24) 1 z]) eF).symm hk0.symm ⟨fun _ => hk0, fun _ => rfl⟩ rfl rfl dL_wouldLapse_16
def F_L_needed (q : S3) (v : S7) (tr : S7) (fo : (Nat → Int64)) (x : Int32) (np : Nat) : Nat → Int64 :=
  (vp_updL fo (0 : Int32).toNatClampNeg (((F_X4_needed q v tr x np).2.1).toInt64))
set_option maxRecDepth 100000 in
theorem k_L_needed_cl13 : Cond.classLink RL 13 nIAE ∈ wsL_needed := by decide +kernel
theorem nd_L_needed : yL_needed.cls ≠ "java/lang/invoke/MethodHandle" ∧ yL_needed.cls ≠ "java/lang/invoke/VarHandle" ∧ (parseMethodDescriptor yL_needed.desc).map (fun d => d.parameters.length) = some 3 := by decide +kernel
abbrev rm_L_needed : Room := { frames := 7, cells := 1, slots := 6, locals := 164 }
set_option maxHeartbeats 4000000 in
set_option maxRecDepth 100000 in
theorem c_L_needed (l : Launch) (hst : l.stackTraces = false) (G : GG) (h : Nat → Nat) (q : S3) (v : S7) (tr : S7) (fo : (Nat → Int64)) (x : Int32) (np : Nat) (hp : np ≤ 120) : CY l G yL_needed wsL_needed rm_L_needed [.ref (h 0), .int x, .ref (h 24)] [cF h (nI np), cP (h 1) q, cS (h 4) v, cS (h 5) tr, aJ G (h 24) 1 fo] ((F_X4_needed q v tr x np).1) [cF h (nI np), cP (h 1) q, cS (h 4) v, cS (h 5) ((F_X4_needed q v tr x np).2.2), aJ G (h 24) 1 (F_L_needed q v tr fo x np)] := by
  refine CY_of (own := RL) (by decide +kernel) rfl rfl (Nat.le_of_ble_eq_true rfl) ?_
  intro pP eE sS mM args below meth cC A S hK hr hlk htb hXE hXZ hW ls hl
  have hx := S.1
  have hb := S.2.1
  have hts := S.2.2.2.2
  have hl : lv_has ls 4 [(0, .ref (h 0)), (1, .int x), (2, .ref (h 24))] := hl
  have hW : Wd G A sS.heap [cF h (nI np), cP (h 1) q, cS (h 4) v, cS (h 5) tr, aJ G (h 24) 1 fo] sS.heap [] := hW
  refine lv_aload_n hx hb dL_needed_0 rfl (lv_at hl 2 rfl) ?_
  refine lv_iconst (v := 0) hx hb dL_needed_1 (by decide) ?_
  refine lv_aload_n hx hb dL_needed_2 rfl (lv_at hl 0 rfl) ?_
  refine lv_iload_n hx hb dL_needed_3 rfl (lv_at hl 1 rfl) ?_
  refine kx_callV (C := RX4) (As := [.int x]) (rest := [.int 0, .ref (h 24)]) (wr := [aJ G (h 24) 1 fo]) (c_X4_needed l hst G h q v tr x np hp) S hK hW hXE hXZ gL_needed_X4_needed rfl ⟨rfl, rfl⟩ nd_X4_needed ⟨rfl, rfl⟩ (qb := 0) (ci := 4) rfl rfl [0, 1, 2, 3] [4] rfl rfl rfl rfl (by decide) rfl hl.1 rfl dL_needed_4 ⟨rfl, rfl⟩ (fun H locs q9 ce E hE hW hq9 hv9 hc9 => ?_) (fun H locs hk0 hW => ?_)
  ·
    have hW : Wd G A sS.heap [aJ G (h 24) 1 fo, cF h (nI np), cP (h 1) q, cS (h 4) v, cS (h 5) tr] H locs := hW
    obtain ⟨q, hq, hk, rfl⟩ := hE
    obtain rfl := List.mem_singleton.mp hq
    refine vx_catch (name := nIAE) S.2.2.2.1 [] ⟨0, 9, 12, 13⟩ [] htb (fun _ h => absurd h List.not_mem_nil) (by decide) (by decide) (hts _ k_L_needed_cl13) (va_Nw.use rfl hXE.1) hq9 hv9 hc9 ?_
    refine lv_astore_n (lv' := [(3, .ref q9), (0, .ref (h 0)), (1, .int x), (2, .ref (h 24))]) hx hb dL_needed_12 rfl hl (by decide) rfl (fun ls hl => ?_)
    refine lv_iconst (v := 1) hx hb dL_needed_13 (by decide) ?_
    exact ky_iret S hr hlk hK false (wf := [cF h (nI np), cP (h 1) q, cS (h 4) v, cS (h 5) tr, aJ G (h 24) 1 fo]) hW [1, 2, 3, 4, 0] rfl rfl rfl hk.symm (by rw [hk]; decide) rfl rfl dL_needed_14
  ·
    have hW : Wd G A sS.heap [aJ G (h 24) 1 fo, cF h (nI np), cP (h 1) q, cS (h 4) v, cS (h 5) ((F_X4_needed q v tr x np).2.2)] H locs := hW
    refine lv_i2l hx hb dL_needed_7 rfl ?_
    refine k_last (n := 1) (ws' := [aJ G (h 24) 1 (vp_updL fo (0 : Int32).toNatClampNeg (((F_X4_needed q v tr x np).2.1).toInt64)), cF h (nI np), cP (h 1) q, cS (h 4) v, cS (h 5) ((F_X4_needed q v tr x np).2.2)]) S hK hW 0 rfl (i := 0) vp_01 rfl dL_needed_8 (fun H locs hW => ?_)
    refine lv_goto (tgt := 15) hx hb dL_needed_9 (by decide) ?_
    refine lv_iconst (v := 0) hx hb dL_needed_15 (by decide) ?_
    have eF : (F_L_needed q v tr fo x np) = (vp_updL fo (0 : Int32).toNatClampNeg (((F_X4_needed q v tr x np).2.1).toInt64)) := by
      rfl
    exact ky_iret S hr hlk hK true (wf := [cF h (nI np), cP (h 1) q, cS (h 4) v, cS (h 5) ((F_X4_needed q v tr x np).2.2), aJ G (h 24) 1 (vp_updL fo (0 : Int32).toNatClampNeg (((F_X4_needed q v tr x np).2.1).toInt64))]) hW [1, 2, 3, 4, 0] rfl rfl (congrArg (fun (z : Nat → Int64) => [cF h (nI np), cP (h 1) q, cS (h 4) v, cS (h 5) ((F_X4_needed q v tr x np).2.2), aJ G (h 24) 1 z]) eF).symm hk0.symm ⟨fun _ => hk0, fun _ => rfl⟩ rfl rfl dL_needed_16
def F_L_accountFromStart (mo : (Nat → Int32)) (ki : (Nat → Int32)) (am : (Nat → Int32)) (sk : (Nat → Bool)) (q : S3) (tr : S7) (fo : (Nat → Int64)) (x : Int32) (np : Nat) (n : Nat) : Nat → Int64 :=
  (vp_updL fo (0 : Int32).toNatClampNeg (((F_X4_accountFromStart mo ki am sk q tr x np n).2.1).toInt64))
set_option maxRecDepth 100000 in
theorem k_L_accountFromStart_cl13 : Cond.classLink RL 13 nIAE ∈ wsL_accountFromStart := by decide +kernel
theorem nd_L_accountFromStart : yL_accountFromStart.cls ≠ "java/lang/invoke/MethodHandle" ∧ yL_accountFromStart.cls ≠ "java/lang/invoke/VarHandle" ∧ (parseMethodDescriptor yL_accountFromStart.desc).map (fun d => d.parameters.length) = some 3 := by decide +kernel
abbrev rm_L_accountFromStart : Room := { frames := 7, cells := 1, slots := 6, locals := 133 }
set_option maxHeartbeats 4000000 in
set_option maxRecDepth 100000 in
theorem c_L_accountFromStart (l : Launch) (hst : l.stackTraces = false) (G : GG) (h : Nat → Nat) (mo : (Nat → Int32)) (ki : (Nat → Int32)) (am : (Nat → Int32)) (sk : (Nat → Bool)) (q : S3) (tr : S7) (fo : (Nat → Int64)) (x : Int32) (np : Nat) (n : Nat) (hn : n ≤ 60) (hp : np ≤ 120) : CY l G yL_accountFromStart wsL_accountFromStart rm_L_accountFromStart [.ref (h 0), .int x, .ref (h 24)] [cF h (nI np), cB h (nI n), aI G (h 6) 60 mo, aI G (h 7) 60 ki, aI G (h 8) 60 am, aZ G (h 9) 60 sk, cP (h 1) q, cS (h 5) tr, aJ G (h 24) 1 fo] ((F_X4_accountFromStart mo ki am sk q tr x np n).1) [cF h (nI np), cB h (nI n), aI G (h 6) 60 mo, aI G (h 7) 60 ki, aI G (h 8) 60 am, aZ G (h 9) 60 sk, cP (h 1) q, cS (h 5) ((F_X4_accountFromStart mo ki am sk q tr x np n).2.2), aJ G (h 24) 1 (F_L_accountFromStart mo ki am sk q tr fo x np n)] := by
  refine CY_of (own := RL) (by decide +kernel) rfl rfl (Nat.le_of_ble_eq_true rfl) ?_
  intro pP eE sS mM args below meth cC A S hK hr hlk htb hXE hXZ hW ls hl
  have hx := S.1
  have hb := S.2.1
  have hts := S.2.2.2.2
  have hl : lv_has ls 4 [(0, .ref (h 0)), (1, .int x), (2, .ref (h 24))] := hl
  have hW : Wd G A sS.heap [cF h (nI np), cB h (nI n), aI G (h 6) 60 mo, aI G (h 7) 60 ki, aI G (h 8) 60 am, aZ G (h 9) 60 sk, cP (h 1) q, cS (h 5) tr, aJ G (h 24) 1 fo] sS.heap [] := hW
  refine lv_aload_n hx hb dL_accountFromStart_0 rfl (lv_at hl 2 rfl) ?_
  refine lv_iconst (v := 0) hx hb dL_accountFromStart_1 (by decide) ?_
  refine lv_aload_n hx hb dL_accountFromStart_2 rfl (lv_at hl 0 rfl) ?_
  refine lv_iload_n hx hb dL_accountFromStart_3 rfl (lv_at hl 1 rfl) ?_
  refine kx_callV (C := RX4) (As := [.int x]) (rest := [.int 0, .ref (h 24)]) (wr := [aJ G (h 24) 1 fo]) (c_X4_accountFromStart l hst G h mo ki am sk q tr x np n hn hp) S hK hW hXE hXZ gL_accountFromStart_X4_accountFromStart rfl ⟨rfl, rfl⟩ nd_X4_accountFromStart ⟨rfl, rfl⟩ (qb := 0) (ci := 4) rfl rfl [0, 1, 2, 3, 4, 5, 6, 7] [8] rfl rfl rfl rfl (by decide) rfl hl.1 rfl dL_accountFromStart_4 ⟨rfl, rfl⟩ (fun H locs q9 ce E hE hW hq9 hv9 hc9 => ?_) (fun H locs hk0 hW => ?_)
  ·
    have hW : Wd G A sS.heap [aJ G (h 24) 1 fo, cF h (nI np), cB h (nI n), aI G (h 6) 60 mo, aI G (h 7) 60 ki, aI G (h 8) 60 am, aZ G (h 9) 60 sk, cP (h 1) q, cS (h 5) tr] H locs := hW
    obtain ⟨q, hq, hk, rfl⟩ := hE
    obtain rfl := List.mem_singleton.mp hq
    refine vx_catch (name := nIAE) S.2.2.2.1 [] ⟨0, 9, 12, 13⟩ [] htb (fun _ h => absurd h List.not_mem_nil) (by decide) (by decide) (hts _ k_L_accountFromStart_cl13) (va_Nw.use rfl hXE.1) hq9 hv9 hc9 ?_
    refine lv_astore_n (lv' := [(3, .ref q9), (0, .ref (h 0)), (1, .int x), (2, .ref (h 24))]) hx hb dL_accountFromStart_12 rfl hl (by decide) rfl (fun ls hl => ?_)
    refine lv_iconst (v := 1) hx hb dL_accountFromStart_13 (by decide) ?_
    exact ky_iret S hr hlk hK false (wf := [cF h (nI np), cB h (nI n), aI G (h 6) 60 mo, aI G (h 7) 60 ki, aI G (h 8) 60 am, aZ G (h 9) 60 sk, cP (h 1) q, cS (h 5) tr, aJ G (h 24) 1 fo]) hW [1, 2, 3, 4, 5, 6, 7, 8, 0] rfl rfl rfl hk.symm (by rw [hk]; decide) rfl rfl dL_accountFromStart_14
  ·
    have hW : Wd G A sS.heap [aJ G (h 24) 1 fo, cF h (nI np), cB h (nI n), aI G (h 6) 60 mo, aI G (h 7) 60 ki, aI G (h 8) 60 am, aZ G (h 9) 60 sk, cP (h 1) q, cS (h 5) ((F_X4_accountFromStart mo ki am sk q tr x np n).2.2)] H locs := hW
    refine lv_i2l hx hb dL_accountFromStart_7 rfl ?_
    refine k_last (n := 1) (ws' := [aJ G (h 24) 1 (vp_updL fo (0 : Int32).toNatClampNeg (((F_X4_accountFromStart mo ki am sk q tr x np n).2.1).toInt64)), cF h (nI np), cB h (nI n), aI G (h 6) 60 mo, aI G (h 7) 60 ki, aI G (h 8) 60 am, aZ G (h 9) 60 sk, cP (h 1) q, cS (h 5) ((F_X4_accountFromStart mo ki am sk q tr x np n).2.2)]) S hK hW 0 rfl (i := 0) vp_01 rfl dL_accountFromStart_8 (fun H locs hW => ?_)
    refine lv_goto (tgt := 15) hx hb dL_accountFromStart_9 (by decide) ?_
    refine lv_iconst (v := 0) hx hb dL_accountFromStart_15 (by decide) ?_
    have eF : (F_L_accountFromStart mo ki am sk q tr fo x np n) = (vp_updL fo (0 : Int32).toNatClampNeg (((F_X4_accountFromStart mo ki am sk q tr x np n).2.1).toInt64)) := by
      rfl
    exact ky_iret S hr hlk hK true (wf := [cF h (nI np), cB h (nI n), aI G (h 6) 60 mo, aI G (h 7) 60 ki, aI G (h 8) 60 am, aZ G (h 9) 60 sk, cP (h 1) q, cS (h 5) ((F_X4_accountFromStart mo ki am sk q tr x np n).2.2), aJ G (h 24) 1 (vp_updL fo (0 : Int32).toNatClampNeg (((F_X4_accountFromStart mo ki am sk q tr x np n).2.1).toInt64))]) hW [1, 2, 3, 4, 5, 6, 7, 8, 0] rfl rfl (congrArg (fun (z : Nat → Int64) => [cF h (nI np), cB h (nI n), aI G (h 6) 60 mo, aI G (h 7) 60 ki, aI G (h 8) 60 am, aZ G (h 9) 60 sk, cP (h 1) q, cS (h 5) ((F_X4_accountFromStart mo ki am sk q tr x np n).2.2), aJ G (h 24) 1 z]) eF).symm hk0.symm ⟨fun _ => hk0, fun _ => rfl⟩ rfl rfl dL_accountFromStart_16
def F_L_close (q : S3) (v : S7) (y1 : (Nat → Int32)) (y2 : (Nat → Int32)) (y3 : (Nat → Int32)) (y4 : (Nat → Int32)) (y5 : (Nat → Int32)) (y6 : (Nat → Int32)) (y7 : (Nat → Int32)) (fo : (Nat → Int64)) (x : Int32) (np : Nat) : Nat → Int64 :=
  (vp_updL fo (0 : Int32).toNatClampNeg (((F_X4_close q v y1 y2 y3 y4 y5 y6 y7 x np).2.1).toInt64))
set_option maxRecDepth 100000 in
theorem k_L_close_cl13 : Cond.classLink RL 13 nIAE ∈ wsL_close := by decide +kernel
set_option maxRecDepth 100000 in
theorem k_L_close_cl19 : Cond.classLink RL 19 nISE ∈ wsL_close := by decide +kernel
theorem nd_L_close : yL_close.cls ≠ "java/lang/invoke/MethodHandle" ∧ yL_close.cls ≠ "java/lang/invoke/VarHandle" ∧ (parseMethodDescriptor yL_close.desc).map (fun d => d.parameters.length) = some 3 := by decide +kernel
abbrev rm_L_close : Room := { frames := 7, cells := 1, slots := 6, locals := 117 }
set_option maxHeartbeats 4000000 in
set_option maxRecDepth 100000 in
theorem c_L_close (l : Launch) (hst : l.stackTraces = false) (G : GG) (h : Nat → Nat) (q : S3) (v : S7) (y1 : (Nat → Int32)) (y2 : (Nat → Int32)) (y3 : (Nat → Int32)) (y4 : (Nat → Int32)) (y5 : (Nat → Int32)) (y6 : (Nat → Int32)) (y7 : (Nat → Int32)) (fo : (Nat → Int64)) (x : Int32) (np : Nat) (hp : np ≤ 120) : CY l G yL_close wsL_close rm_L_close [.ref (h 0), .int x, .ref (h 24)] [cF h (nI np), cP (h 1) q, cS (h 4) v, cH h, aI G (h 11) 121 y1, aI G (h 12) 121 y2, aI G (h 13) 121 y3, aI G (h 14) 121 y4, aI G (h 15) 121 y5, aI G (h 16) 121 y6, aI G (h 17) 121 y7, aJ G (h 24) 1 fo] ((F_X4_close q v y1 y2 y3 y4 y5 y6 y7 x np).1) [cF h ((F_X4_close q v y1 y2 y3 y4 y5 y6 y7 x np).2.2.1), cP (h 1) q, cS (h 4) ((F_X4_close q v y1 y2 y3 y4 y5 y6 y7 x np).2.2.2.1), cH h, aI G (h 11) 121 ((F_X4_close q v y1 y2 y3 y4 y5 y6 y7 x np).2.2.2.2.1), aI G (h 12) 121 ((F_X4_close q v y1 y2 y3 y4 y5 y6 y7 x np).2.2.2.2.2.1), aI G (h 13) 121 ((F_X4_close q v y1 y2 y3 y4 y5 y6 y7 x np).2.2.2.2.2.2.1), aI G (h 14) 121 ((F_X4_close q v y1 y2 y3 y4 y5 y6 y7 x np).2.2.2.2.2.2.2.1), aI G (h 15) 121 ((F_X4_close q v y1 y2 y3 y4 y5 y6 y7 x np).2.2.2.2.2.2.2.2.1), aI G (h 16) 121 ((F_X4_close q v y1 y2 y3 y4 y5 y6 y7 x np).2.2.2.2.2.2.2.2.2.1), aI G (h 17) 121 ((F_X4_close q v y1 y2 y3 y4 y5 y6 y7 x np).2.2.2.2.2.2.2.2.2.2), aJ G (h 24) 1 (F_L_close q v y1 y2 y3 y4 y5 y6 y7 fo x np)] := by
  refine CY_of (own := RL) (by decide +kernel) rfl rfl (Nat.le_of_ble_eq_true rfl) ?_
  intro pP eE sS mM args below meth cC A S hK hr hlk htb hXE hXZ hW ls hl
  have hx := S.1
  have hb := S.2.1
  have hts := S.2.2.2.2
  have hl : lv_has ls 4 [(0, .ref (h 0)), (1, .int x), (2, .ref (h 24))] := hl
  have hW : Wd G A sS.heap [cF h (nI np), cP (h 1) q, cS (h 4) v, cH h, aI G (h 11) 121 y1, aI G (h 12) 121 y2, aI G (h 13) 121 y3, aI G (h 14) 121 y4, aI G (h 15) 121 y5, aI G (h 16) 121 y6, aI G (h 17) 121 y7, aJ G (h 24) 1 fo] sS.heap [] := hW
  refine lv_aload_n hx hb dL_close_0 rfl (lv_at hl 2 rfl) ?_
  refine lv_iconst (v := 0) hx hb dL_close_1 (by decide) ?_
  refine lv_aload_n hx hb dL_close_2 rfl (lv_at hl 0 rfl) ?_
  refine lv_iload_n hx hb dL_close_3 rfl (lv_at hl 1 rfl) ?_
  refine kx_callV (C := RX4) (As := [.int x]) (rest := [.int 0, .ref (h 24)]) (wr := [aJ G (h 24) 1 fo]) (c_X4_close l hst G h q v y1 y2 y3 y4 y5 y6 y7 x np hp) S hK hW hXE hXZ gL_close_X4_close rfl ⟨rfl, rfl⟩ nd_X4_close ⟨rfl, rfl⟩ (qb := 0) (ci := 4) rfl rfl [0, 1, 2, 3, 4, 5, 6, 7, 8, 9, 10] [11] rfl rfl rfl rfl (by decide) rfl hl.1 rfl dL_close_4 ⟨rfl, rfl⟩ (fun H locs q9 ce E hE hW hq9 hv9 hc9 => ?_) (fun H locs hk0 hW => ?_)
  ·
    have hW : Wd G A sS.heap [aJ G (h 24) 1 fo, cF h (nI np), cP (h 1) q, cS (h 4) v, cH h, aI G (h 11) 121 y1, aI G (h 12) 121 y2, aI G (h 13) 121 y3, aI G (h 14) 121 y4, aI G (h 15) 121 y5, aI G (h 16) 121 y6, aI G (h 17) 121 y7] H locs := hW
    obtain ⟨q, hq, hk, rfl⟩ := hE
    rcases List.mem_cons.mp hq with rfl | hq
    ·
      refine vx_catch (name := nIAE) S.2.2.2.1 [] ⟨0, 9, 12, 13⟩ [⟨0, 9, 15, 19⟩] htb (fun _ h => absurd h List.not_mem_nil) (by decide) (by decide) (hts _ k_L_close_cl13) (va_Nw.use rfl hXE.1) hq9 hv9 hc9 ?_
      refine lv_astore_n (lv' := [(3, .ref q9), (0, .ref (h 0)), (1, .int x), (2, .ref (h 24))]) hx hb dL_close_12 rfl hl (by decide) rfl (fun ls hl => ?_)
      refine lv_iconst (v := 1) hx hb dL_close_13 (by decide) ?_
      exact ky_iret S hr hlk hK false (wf := [cF h (nI np), cP (h 1) q, cS (h 4) v, cH h, aI G (h 11) 121 y1, aI G (h 12) 121 y2, aI G (h 13) 121 y3, aI G (h 14) 121 y4, aI G (h 15) 121 y5, aI G (h 16) 121 y6, aI G (h 17) 121 y7, aJ G (h 24) 1 fo]) hW [1, 2, 3, 4, 5, 6, 7, 8, 9, 10, 11, 0] rfl rfl rfl hk.symm (by rw [hk]; decide) rfl rfl dL_close_14
    ·
      obtain rfl := List.mem_singleton.mp hq
      refine vx_catch (name := nISE) S.2.2.2.1 [⟨0, 9, 12, 13⟩] ⟨0, 9, 15, 19⟩ [] htb (fun z hz => by obtain rfl := List.mem_singleton.mp hz; exact Or.inr ⟨by decide, nIAE, hts _ k_L_close_cl13, hXE.2.2.2.1⟩) (by decide) (by decide) (hts _ k_L_close_cl19) (va_Nw.use rfl hXE.2.1) hq9 hv9 hc9 ?_
      refine lv_astore_n (lv' := [(3, .ref q9), (0, .ref (h 0)), (1, .int x), (2, .ref (h 24))]) hx hb dL_close_15 rfl hl (by decide) rfl (fun ls hl => ?_)
      refine lv_iconst (v := 2) hx hb dL_close_16 (by decide) ?_
      exact ky_iret S hr hlk hK false (wf := [cF h (nI np), cP (h 1) q, cS (h 4) v, cH h, aI G (h 11) 121 y1, aI G (h 12) 121 y2, aI G (h 13) 121 y3, aI G (h 14) 121 y4, aI G (h 15) 121 y5, aI G (h 16) 121 y6, aI G (h 17) 121 y7, aJ G (h 24) 1 fo]) hW [1, 2, 3, 4, 5, 6, 7, 8, 9, 10, 11, 0] rfl rfl rfl hk.symm (by rw [hk]; decide) rfl rfl dL_close_17
  ·
    have hW : Wd G A sS.heap [aJ G (h 24) 1 fo, cF h ((F_X4_close q v y1 y2 y3 y4 y5 y6 y7 x np).2.2.1), cP (h 1) q, cS (h 4) ((F_X4_close q v y1 y2 y3 y4 y5 y6 y7 x np).2.2.2.1), cH h, aI G (h 11) 121 ((F_X4_close q v y1 y2 y3 y4 y5 y6 y7 x np).2.2.2.2.1), aI G (h 12) 121 ((F_X4_close q v y1 y2 y3 y4 y5 y6 y7 x np).2.2.2.2.2.1), aI G (h 13) 121 ((F_X4_close q v y1 y2 y3 y4 y5 y6 y7 x np).2.2.2.2.2.2.1), aI G (h 14) 121 ((F_X4_close q v y1 y2 y3 y4 y5 y6 y7 x np).2.2.2.2.2.2.2.1), aI G (h 15) 121 ((F_X4_close q v y1 y2 y3 y4 y5 y6 y7 x np).2.2.2.2.2.2.2.2.1), aI G (h 16) 121 ((F_X4_close q v y1 y2 y3 y4 y5 y6 y7 x np).2.2.2.2.2.2.2.2.2.1), aI G (h 17) 121 ((F_X4_close q v y1 y2 y3 y4 y5 y6 y7 x np).2.2.2.2.2.2.2.2.2.2)] H locs := hW
    refine lv_i2l hx hb dL_close_7 rfl ?_
    refine k_last (n := 1) (ws' := [aJ G (h 24) 1 (vp_updL fo (0 : Int32).toNatClampNeg (((F_X4_close q v y1 y2 y3 y4 y5 y6 y7 x np).2.1).toInt64)), cF h ((F_X4_close q v y1 y2 y3 y4 y5 y6 y7 x np).2.2.1), cP (h 1) q, cS (h 4) ((F_X4_close q v y1 y2 y3 y4 y5 y6 y7 x np).2.2.2.1), cH h, aI G (h 11) 121 ((F_X4_close q v y1 y2 y3 y4 y5 y6 y7 x np).2.2.2.2.1), aI G (h 12) 121 ((F_X4_close q v y1 y2 y3 y4 y5 y6 y7 x np).2.2.2.2.2.1), aI G (h 13) 121 ((F_X4_close q v y1 y2 y3 y4 y5 y6 y7 x np).2.2.2.2.2.2.1), aI G (h 14) 121 ((F_X4_close q v y1 y2 y3 y4 y5 y6 y7 x np).2.2.2.2.2.2.2.1), aI G (h 15) 121 ((F_X4_close q v y1 y2 y3 y4 y5 y6 y7 x np).2.2.2.2.2.2.2.2.1), aI G (h 16) 121 ((F_X4_close q v y1 y2 y3 y4 y5 y6 y7 x np).2.2.2.2.2.2.2.2.2.1), aI G (h 17) 121 ((F_X4_close q v y1 y2 y3 y4 y5 y6 y7 x np).2.2.2.2.2.2.2.2.2.2)]) S hK hW 0 rfl (i := 0) vp_01 rfl dL_close_8 (fun H locs hW => ?_)
    refine lv_goto (tgt := 18) hx hb dL_close_9 (by decide) ?_
    refine lv_iconst (v := 0) hx hb dL_close_18 (by decide) ?_
    have eF : (F_L_close q v y1 y2 y3 y4 y5 y6 y7 fo x np) = (vp_updL fo (0 : Int32).toNatClampNeg (((F_X4_close q v y1 y2 y3 y4 y5 y6 y7 x np).2.1).toInt64)) := by
      rfl
    exact ky_iret S hr hlk hK true (wf := [cF h ((F_X4_close q v y1 y2 y3 y4 y5 y6 y7 x np).2.2.1), cP (h 1) q, cS (h 4) ((F_X4_close q v y1 y2 y3 y4 y5 y6 y7 x np).2.2.2.1), cH h, aI G (h 11) 121 ((F_X4_close q v y1 y2 y3 y4 y5 y6 y7 x np).2.2.2.2.1), aI G (h 12) 121 ((F_X4_close q v y1 y2 y3 y4 y5 y6 y7 x np).2.2.2.2.2.1), aI G (h 13) 121 ((F_X4_close q v y1 y2 y3 y4 y5 y6 y7 x np).2.2.2.2.2.2.1), aI G (h 14) 121 ((F_X4_close q v y1 y2 y3 y4 y5 y6 y7 x np).2.2.2.2.2.2.2.1), aI G (h 15) 121 ((F_X4_close q v y1 y2 y3 y4 y5 y6 y7 x np).2.2.2.2.2.2.2.2.1), aI G (h 16) 121 ((F_X4_close q v y1 y2 y3 y4 y5 y6 y7 x np).2.2.2.2.2.2.2.2.2.1), aI G (h 17) 121 ((F_X4_close q v y1 y2 y3 y4 y5 y6 y7 x np).2.2.2.2.2.2.2.2.2.2), aJ G (h 24) 1 (vp_updL fo (0 : Int32).toNatClampNeg (((F_X4_close q v y1 y2 y3 y4 y5 y6 y7 x np).2.1).toInt64))]) hW [1, 2, 3, 4, 5, 6, 7, 8, 9, 10, 11, 0] rfl rfl (congrArg (fun (z : Nat → Int64) => [cF h ((F_X4_close q v y1 y2 y3 y4 y5 y6 y7 x np).2.2.1), cP (h 1) q, cS (h 4) ((F_X4_close q v y1 y2 y3 y4 y5 y6 y7 x np).2.2.2.1), cH h, aI G (h 11) 121 ((F_X4_close q v y1 y2 y3 y4 y5 y6 y7 x np).2.2.2.2.1), aI G (h 12) 121 ((F_X4_close q v y1 y2 y3 y4 y5 y6 y7 x np).2.2.2.2.2.1), aI G (h 13) 121 ((F_X4_close q v y1 y2 y3 y4 y5 y6 y7 x np).2.2.2.2.2.2.1), aI G (h 14) 121 ((F_X4_close q v y1 y2 y3 y4 y5 y6 y7 x np).2.2.2.2.2.2.2.1), aI G (h 15) 121 ((F_X4_close q v y1 y2 y3 y4 y5 y6 y7 x np).2.2.2.2.2.2.2.2.1), aI G (h 16) 121 ((F_X4_close q v y1 y2 y3 y4 y5 y6 y7 x np).2.2.2.2.2.2.2.2.2.1), aI G (h 17) 121 ((F_X4_close q v y1 y2 y3 y4 y5 y6 y7 x np).2.2.2.2.2.2.2.2.2.2), aJ G (h 24) 1 z]) eF).symm hk0.symm ⟨fun _ => hk0, fun _ => rfl⟩ rfl rfl dL_close_19
def F_L_strike (mo : (Nat → Int32)) (ki : (Nat → Int32)) (am : (Nat → Int32)) (sk : (Nat → Bool)) (dn : (Nat → Bool)) (y1 : (Nat → Int32)) (y2 : (Nat → Int32)) (y3 : (Nat → Int32)) (y4 : (Nat → Int32)) (y5 : (Nat → Int32)) (y6 : (Nat → Int32)) (y7 : (Nat → Int32)) (q : S3) (v : S7) (fo : (Nat → Int64)) (x : Int32) (np : Nat) (n : Nat) : Nat → Int64 :=
  (vp_updL fo (0 : Int32).toNatClampNeg (((F_X4_strike mo ki am sk dn y1 y2 y3 y4 y5 y6 y7 q v x np n).2.1).toInt64))
set_option maxRecDepth 100000 in
theorem k_L_strike_cl25 : Cond.classLink RL 25 nIOB ∈ wsL_strike := by decide +kernel
theorem nd_L_strike : yL_strike.cls ≠ "java/lang/invoke/MethodHandle" ∧ yL_strike.cls ≠ "java/lang/invoke/VarHandle" ∧ (parseMethodDescriptor yL_strike.desc).map (fun d => d.parameters.length) = some 3 := by decide +kernel
abbrev rm_L_strike : Room := { frames := 7, cells := 1, slots := 6, locals := 154 }
set_option maxHeartbeats 4000000 in
set_option maxRecDepth 100000 in
theorem c_L_strike (l : Launch) (hst : l.stackTraces = false) (G : GG) (h : Nat → Nat) (mo : (Nat → Int32)) (ki : (Nat → Int32)) (am : (Nat → Int32)) (sk : (Nat → Bool)) (dn : (Nat → Bool)) (y1 : (Nat → Int32)) (y2 : (Nat → Int32)) (y3 : (Nat → Int32)) (y4 : (Nat → Int32)) (y5 : (Nat → Int32)) (y6 : (Nat → Int32)) (y7 : (Nat → Int32)) (q : S3) (v : S7) (fo : (Nat → Int64)) (x : Int32) (np : Nat) (n : Nat) (hn : n ≤ 60) (hp : np ≤ 120) (hmo : ∀ k, k < n → 0 ≤ mo k ∧ mo k ≤ nI np) : CY l G yL_strike wsL_strike rm_L_strike [.ref (h 0), .int x, .ref (h 24)] [cF h (nI np), cB h (nI n), aI G (h 6) 60 mo, aI G (h 7) 60 ki, aI G (h 8) 60 am, aZ G (h 9) 60 sk, aZ G (h 10) 60 dn, cH h, aI G (h 11) 121 y1, aI G (h 12) 121 y2, aI G (h 13) 121 y3, aI G (h 14) 121 y4, aI G (h 15) 121 y5, aI G (h 16) 121 y6, aI G (h 17) 121 y7, cP (h 1) q, cS (h 4) v, aJ G (h 24) 1 fo] ((F_X4_strike mo ki am sk dn y1 y2 y3 y4 y5 y6 y7 q v x np n).1) [cF h (nI np), cB h (nI n), aI G (h 6) 60 mo, aI G (h 7) 60 ki, aI G (h 8) 60 am, aZ G (h 9) 60 ((F_X4_strike mo ki am sk dn y1 y2 y3 y4 y5 y6 y7 q v x np n).2.2.1), aZ G (h 10) 60 ((F_X4_strike mo ki am sk dn y1 y2 y3 y4 y5 y6 y7 q v x np n).2.2.2.1), cH h, aI G (h 11) 121 ((F_X4_strike mo ki am sk dn y1 y2 y3 y4 y5 y6 y7 q v x np n).2.2.2.2.1), aI G (h 12) 121 ((F_X4_strike mo ki am sk dn y1 y2 y3 y4 y5 y6 y7 q v x np n).2.2.2.2.2.1), aI G (h 13) 121 ((F_X4_strike mo ki am sk dn y1 y2 y3 y4 y5 y6 y7 q v x np n).2.2.2.2.2.2.1), aI G (h 14) 121 ((F_X4_strike mo ki am sk dn y1 y2 y3 y4 y5 y6 y7 q v x np n).2.2.2.2.2.2.2.1), aI G (h 15) 121 ((F_X4_strike mo ki am sk dn y1 y2 y3 y4 y5 y6 y7 q v x np n).2.2.2.2.2.2.2.2.1), aI G (h 16) 121 ((F_X4_strike mo ki am sk dn y1 y2 y3 y4 y5 y6 y7 q v x np n).2.2.2.2.2.2.2.2.2.1), aI G (h 17) 121 ((F_X4_strike mo ki am sk dn y1 y2 y3 y4 y5 y6 y7 q v x np n).2.2.2.2.2.2.2.2.2.2.1), cP (h 1) q, cS (h 4) ((F_X4_strike mo ki am sk dn y1 y2 y3 y4 y5 y6 y7 q v x np n).2.2.2.2.2.2.2.2.2.2.2), aJ G (h 24) 1 (F_L_strike mo ki am sk dn y1 y2 y3 y4 y5 y6 y7 q v fo x np n)] := by
  refine CY_of (own := RL) (by decide +kernel) rfl rfl (Nat.le_of_ble_eq_true rfl) ?_
  intro pP eE sS mM args below meth cC A S hK hr hlk htb hXE hXZ hW ls hl
  have hx := S.1
  have hb := S.2.1
  have hts := S.2.2.2.2
  have hl : lv_has ls 4 [(0, .ref (h 0)), (1, .int x), (2, .ref (h 24))] := hl
  have hW : Wd G A sS.heap [cF h (nI np), cB h (nI n), aI G (h 6) 60 mo, aI G (h 7) 60 ki, aI G (h 8) 60 am, aZ G (h 9) 60 sk, aZ G (h 10) 60 dn, cH h, aI G (h 11) 121 y1, aI G (h 12) 121 y2, aI G (h 13) 121 y3, aI G (h 14) 121 y4, aI G (h 15) 121 y5, aI G (h 16) 121 y6, aI G (h 17) 121 y7, cP (h 1) q, cS (h 4) v, aJ G (h 24) 1 fo] sS.heap [] := hW
  refine lv_aload_n hx hb dL_strike_0 rfl (lv_at hl 2 rfl) ?_
  refine lv_iconst (v := 0) hx hb dL_strike_1 (by decide) ?_
  refine lv_aload_n hx hb dL_strike_2 rfl (lv_at hl 0 rfl) ?_
  refine lv_iload_n hx hb dL_strike_3 rfl (lv_at hl 1 rfl) ?_
  refine kx_callV (C := RX4) (As := [.int x]) (rest := [.int 0, .ref (h 24)]) (wr := [aJ G (h 24) 1 fo]) (c_X4_strike l hst G h mo ki am sk dn y1 y2 y3 y4 y5 y6 y7 q v x np n hn hp hmo) S hK hW hXE hXZ gL_strike_X4_strike rfl ⟨rfl, rfl⟩ nd_X4_strike ⟨rfl, rfl⟩ (qb := 0) (ci := 4) rfl rfl [0, 1, 2, 3, 4, 5, 6, 7, 8, 9, 10, 11, 12, 13, 14, 15, 16] [17] rfl rfl rfl rfl (by decide) rfl hl.1 rfl dL_strike_4 ⟨rfl, rfl⟩ (fun H locs q9 ce E hE hW hq9 hv9 hc9 => ?_) (fun H locs hk0 hW => ?_)
  ·
    have hW : Wd G A sS.heap [aJ G (h 24) 1 fo, cF h (nI np), cB h (nI n), aI G (h 6) 60 mo, aI G (h 7) 60 ki, aI G (h 8) 60 am, aZ G (h 9) 60 sk, aZ G (h 10) 60 dn, cH h, aI G (h 11) 121 y1, aI G (h 12) 121 y2, aI G (h 13) 121 y3, aI G (h 14) 121 y4, aI G (h 15) 121 y5, aI G (h 16) 121 y6, aI G (h 17) 121 y7, cP (h 1) q, cS (h 4) v] H locs := hW
    obtain ⟨q, hq, hk, rfl⟩ := hE
    obtain rfl := List.mem_singleton.mp hq
    refine vx_catch (name := nIOB) S.2.2.2.1 [] ⟨0, 9, 12, 25⟩ [] htb (fun _ h => absurd h List.not_mem_nil) (by decide) (by decide) (hts _ k_L_strike_cl25) (va_Nw.use rfl hXE.2.2.1) hq9 hv9 hc9 ?_
    refine lv_astore_n (lv' := [(3, .ref q9), (0, .ref (h 0)), (1, .int x), (2, .ref (h 24))]) hx hb dL_strike_12 rfl hl (by decide) rfl (fun ls hl => ?_)
    refine lv_iconst (v := 1) hx hb dL_strike_13 (by decide) ?_
    exact ky_iret S hr hlk hK false (wf := [cF h (nI np), cB h (nI n), aI G (h 6) 60 mo, aI G (h 7) 60 ki, aI G (h 8) 60 am, aZ G (h 9) 60 sk, aZ G (h 10) 60 dn, cH h, aI G (h 11) 121 y1, aI G (h 12) 121 y2, aI G (h 13) 121 y3, aI G (h 14) 121 y4, aI G (h 15) 121 y5, aI G (h 16) 121 y6, aI G (h 17) 121 y7, cP (h 1) q, cS (h 4) v, aJ G (h 24) 1 fo]) hW [1, 2, 3, 4, 5, 6, 7, 8, 9, 10, 11, 12, 13, 14, 15, 16, 17, 0] rfl rfl rfl hk.symm (by rw [hk]; decide) rfl rfl dL_strike_14
  ·
    have hW : Wd G A sS.heap [aJ G (h 24) 1 fo, cF h (nI np), cB h (nI n), aI G (h 6) 60 mo, aI G (h 7) 60 ki, aI G (h 8) 60 am, aZ G (h 9) 60 ((F_X4_strike mo ki am sk dn y1 y2 y3 y4 y5 y6 y7 q v x np n).2.2.1), aZ G (h 10) 60 ((F_X4_strike mo ki am sk dn y1 y2 y3 y4 y5 y6 y7 q v x np n).2.2.2.1), cH h, aI G (h 11) 121 ((F_X4_strike mo ki am sk dn y1 y2 y3 y4 y5 y6 y7 q v x np n).2.2.2.2.1), aI G (h 12) 121 ((F_X4_strike mo ki am sk dn y1 y2 y3 y4 y5 y6 y7 q v x np n).2.2.2.2.2.1), aI G (h 13) 121 ((F_X4_strike mo ki am sk dn y1 y2 y3 y4 y5 y6 y7 q v x np n).2.2.2.2.2.2.1), aI G (h 14) 121 ((F_X4_strike mo ki am sk dn y1 y2 y3 y4 y5 y6 y7 q v x np n).2.2.2.2.2.2.2.1), aI G (h 15) 121 ((F_X4_strike mo ki am sk dn y1 y2 y3 y4 y5 y6 y7 q v x np n).2.2.2.2.2.2.2.2.1), aI G (h 16) 121 ((F_X4_strike mo ki am sk dn y1 y2 y3 y4 y5 y6 y7 q v x np n).2.2.2.2.2.2.2.2.2.1), aI G (h 17) 121 ((F_X4_strike mo ki am sk dn y1 y2 y3 y4 y5 y6 y7 q v x np n).2.2.2.2.2.2.2.2.2.2.1), cP (h 1) q, cS (h 4) ((F_X4_strike mo ki am sk dn y1 y2 y3 y4 y5 y6 y7 q v x np n).2.2.2.2.2.2.2.2.2.2.2)] H locs := hW
    refine lv_i2l hx hb dL_strike_7 rfl ?_
    refine k_last (n := 1) (ws' := [aJ G (h 24) 1 (vp_updL fo (0 : Int32).toNatClampNeg (((F_X4_strike mo ki am sk dn y1 y2 y3 y4 y5 y6 y7 q v x np n).2.1).toInt64)), cF h (nI np), cB h (nI n), aI G (h 6) 60 mo, aI G (h 7) 60 ki, aI G (h 8) 60 am, aZ G (h 9) 60 ((F_X4_strike mo ki am sk dn y1 y2 y3 y4 y5 y6 y7 q v x np n).2.2.1), aZ G (h 10) 60 ((F_X4_strike mo ki am sk dn y1 y2 y3 y4 y5 y6 y7 q v x np n).2.2.2.1), cH h, aI G (h 11) 121 ((F_X4_strike mo ki am sk dn y1 y2 y3 y4 y5 y6 y7 q v x np n).2.2.2.2.1), aI G (h 12) 121 ((F_X4_strike mo ki am sk dn y1 y2 y3 y4 y5 y6 y7 q v x np n).2.2.2.2.2.1), aI G (h 13) 121 ((F_X4_strike mo ki am sk dn y1 y2 y3 y4 y5 y6 y7 q v x np n).2.2.2.2.2.2.1), aI G (h 14) 121 ((F_X4_strike mo ki am sk dn y1 y2 y3 y4 y5 y6 y7 q v x np n).2.2.2.2.2.2.2.1), aI G (h 15) 121 ((F_X4_strike mo ki am sk dn y1 y2 y3 y4 y5 y6 y7 q v x np n).2.2.2.2.2.2.2.2.1), aI G (h 16) 121 ((F_X4_strike mo ki am sk dn y1 y2 y3 y4 y5 y6 y7 q v x np n).2.2.2.2.2.2.2.2.2.1), aI G (h 17) 121 ((F_X4_strike mo ki am sk dn y1 y2 y3 y4 y5 y6 y7 q v x np n).2.2.2.2.2.2.2.2.2.2.1), cP (h 1) q, cS (h 4) ((F_X4_strike mo ki am sk dn y1 y2 y3 y4 y5 y6 y7 q v x np n).2.2.2.2.2.2.2.2.2.2.2)]) S hK hW 0 rfl (i := 0) vp_01 rfl dL_strike_8 (fun H locs hW => ?_)
    refine lv_goto (tgt := 15) hx hb dL_strike_9 (by decide) ?_
    refine lv_iconst (v := 0) hx hb dL_strike_15 (by decide) ?_
    have eF : (F_L_strike mo ki am sk dn y1 y2 y3 y4 y5 y6 y7 q v fo x np n) = (vp_updL fo (0 : Int32).toNatClampNeg (((F_X4_strike mo ki am sk dn y1 y2 y3 y4 y5 y6 y7 q v x np n).2.1).toInt64)) := by
      rfl
    exact ky_iret S hr hlk hK true (wf := [cF h (nI np), cB h (nI n), aI G (h 6) 60 mo, aI G (h 7) 60 ki, aI G (h 8) 60 am, aZ G (h 9) 60 ((F_X4_strike mo ki am sk dn y1 y2 y3 y4 y5 y6 y7 q v x np n).2.2.1), aZ G (h 10) 60 ((F_X4_strike mo ki am sk dn y1 y2 y3 y4 y5 y6 y7 q v x np n).2.2.2.1), cH h, aI G (h 11) 121 ((F_X4_strike mo ki am sk dn y1 y2 y3 y4 y5 y6 y7 q v x np n).2.2.2.2.1), aI G (h 12) 121 ((F_X4_strike mo ki am sk dn y1 y2 y3 y4 y5 y6 y7 q v x np n).2.2.2.2.2.1), aI G (h 13) 121 ((F_X4_strike mo ki am sk dn y1 y2 y3 y4 y5 y6 y7 q v x np n).2.2.2.2.2.2.1), aI G (h 14) 121 ((F_X4_strike mo ki am sk dn y1 y2 y3 y4 y5 y6 y7 q v x np n).2.2.2.2.2.2.2.1), aI G (h 15) 121 ((F_X4_strike mo ki am sk dn y1 y2 y3 y4 y5 y6 y7 q v x np n).2.2.2.2.2.2.2.2.1), aI G (h 16) 121 ((F_X4_strike mo ki am sk dn y1 y2 y3 y4 y5 y6 y7 q v x np n).2.2.2.2.2.2.2.2.2.1), aI G (h 17) 121 ((F_X4_strike mo ki am sk dn y1 y2 y3 y4 y5 y6 y7 q v x np n).2.2.2.2.2.2.2.2.2.2.1), cP (h 1) q, cS (h 4) ((F_X4_strike mo ki am sk dn y1 y2 y3 y4 y5 y6 y7 q v x np n).2.2.2.2.2.2.2.2.2.2.2), aJ G (h 24) 1 (vp_updL fo (0 : Int32).toNatClampNeg (((F_X4_strike mo ki am sk dn y1 y2 y3 y4 y5 y6 y7 q v x np n).2.1).toInt64))]) hW [1, 2, 3, 4, 5, 6, 7, 8, 9, 10, 11, 12, 13, 14, 15, 16, 17, 0] rfl rfl (congrArg (fun (z : Nat → Int64) => [cF h (nI np), cB h (nI n), aI G (h 6) 60 mo, aI G (h 7) 60 ki, aI G (h 8) 60 am, aZ G (h 9) 60 ((F_X4_strike mo ki am sk dn y1 y2 y3 y4 y5 y6 y7 q v x np n).2.2.1), aZ G (h 10) 60 ((F_X4_strike mo ki am sk dn y1 y2 y3 y4 y5 y6 y7 q v x np n).2.2.2.1), cH h, aI G (h 11) 121 ((F_X4_strike mo ki am sk dn y1 y2 y3 y4 y5 y6 y7 q v x np n).2.2.2.2.1), aI G (h 12) 121 ((F_X4_strike mo ki am sk dn y1 y2 y3 y4 y5 y6 y7 q v x np n).2.2.2.2.2.1), aI G (h 13) 121 ((F_X4_strike mo ki am sk dn y1 y2 y3 y4 y5 y6 y7 q v x np n).2.2.2.2.2.2.1), aI G (h 14) 121 ((F_X4_strike mo ki am sk dn y1 y2 y3 y4 y5 y6 y7 q v x np n).2.2.2.2.2.2.2.1), aI G (h 15) 121 ((F_X4_strike mo ki am sk dn y1 y2 y3 y4 y5 y6 y7 q v x np n).2.2.2.2.2.2.2.2.1), aI G (h 16) 121 ((F_X4_strike mo ki am sk dn y1 y2 y3 y4 y5 y6 y7 q v x np n).2.2.2.2.2.2.2.2.2.1), aI G (h 17) 121 ((F_X4_strike mo ki am sk dn y1 y2 y3 y4 y5 y6 y7 q v x np n).2.2.2.2.2.2.2.2.2.2.1), cP (h 1) q, cS (h 4) ((F_X4_strike mo ki am sk dn y1 y2 y3 y4 y5 y6 y7 q v x np n).2.2.2.2.2.2.2.2.2.2.2), aJ G (h 24) 1 z]) eF).symm hk0.symm ⟨fun _ => hk0, fun _ => rfl⟩ rfl rfl dL_strike_16
def F_L_tell (mo : (Nat → Int32)) (ki : (Nat → Int32)) (am : (Nat → Int32)) (sk : (Nat → Bool)) (dn : (Nat → Bool)) (y1 : (Nat → Int32)) (y2 : (Nat → Int32)) (y3 : (Nat → Int32)) (y4 : (Nat → Int32)) (y5 : (Nat → Int32)) (y6 : (Nat → Int32)) (y7 : (Nat → Int32)) (q : S3) (v : S7) (fo : (Nat → Int64)) (m : Int32) (k : Int32) (x : Int32) (np : Nat) (n : Nat) : Nat → Int64 :=
  if bI ((F_X4_tell mo ki am sk dn y1 y2 y3 y4 y5 y6 y7 q v m k x np n).2.1) = 0 then (vp_updL fo (0 : Int32).toNatClampNeg 0)
  else (vp_updL fo (0 : Int32).toNatClampNeg 1)
set_option maxRecDepth 100000 in
theorem k_L_tell_cl13 : Cond.classLink RL 13 nIAE ∈ wsL_tell := by decide +kernel
set_option maxRecDepth 100000 in
theorem k_L_tell_cl19 : Cond.classLink RL 19 nISE ∈ wsL_tell := by decide +kernel
theorem nd_L_tell : yL_tell.cls ≠ "java/lang/invoke/MethodHandle" ∧ yL_tell.cls ≠ "java/lang/invoke/VarHandle" ∧ (parseMethodDescriptor yL_tell.desc).map (fun d => d.parameters.length) = some 5 := by decide +kernel
abbrev rm_L_tell : Room := { frames := 7, cells := 1, slots := 6, locals := 156 }
set_option maxHeartbeats 4000000 in
set_option maxRecDepth 100000 in
theorem c_L_tell (l : Launch) (hst : l.stackTraces = false) (G : GG) (h : Nat → Nat) (mo : (Nat → Int32)) (ki : (Nat → Int32)) (am : (Nat → Int32)) (sk : (Nat → Bool)) (dn : (Nat → Bool)) (y1 : (Nat → Int32)) (y2 : (Nat → Int32)) (y3 : (Nat → Int32)) (y4 : (Nat → Int32)) (y5 : (Nat → Int32)) (y6 : (Nat → Int32)) (y7 : (Nat → Int32)) (q : S3) (v : S7) (fo : (Nat → Int64)) (m : Int32) (k : Int32) (x : Int32) (np : Nat) (n : Nat) (hn : n ≤ 60) (hp : np ≤ 120) : CY l G yL_tell wsL_tell rm_L_tell [.ref (h 0), .int m, .int k, .int x, .ref (h 24)] [cF h (nI np), cB h (nI n), aI G (h 6) 60 mo, aI G (h 7) 60 ki, aI G (h 8) 60 am, aZ G (h 9) 60 sk, aZ G (h 10) 60 dn, cH h, aI G (h 11) 121 y1, aI G (h 12) 121 y2, aI G (h 13) 121 y3, aI G (h 14) 121 y4, aI G (h 15) 121 y5, aI G (h 16) 121 y6, aI G (h 17) 121 y7, cP (h 1) q, cS (h 4) v, aJ G (h 24) 1 fo] ((F_X4_tell mo ki am sk dn y1 y2 y3 y4 y5 y6 y7 q v m k x np n).1) [cF h (nI np), cB h ((F_X4_tell mo ki am sk dn y1 y2 y3 y4 y5 y6 y7 q v m k x np n).2.2.1), aI G (h 6) 60 ((F_X4_tell mo ki am sk dn y1 y2 y3 y4 y5 y6 y7 q v m k x np n).2.2.2.1), aI G (h 7) 60 ((F_X4_tell mo ki am sk dn y1 y2 y3 y4 y5 y6 y7 q v m k x np n).2.2.2.2.1), aI G (h 8) 60 ((F_X4_tell mo ki am sk dn y1 y2 y3 y4 y5 y6 y7 q v m k x np n).2.2.2.2.2.1), aZ G (h 9) 60 ((F_X4_tell mo ki am sk dn y1 y2 y3 y4 y5 y6 y7 q v m k x np n).2.2.2.2.2.2.1), aZ G (h 10) 60 ((F_X4_tell mo ki am sk dn y1 y2 y3 y4 y5 y6 y7 q v m k x np n).2.2.2.2.2.2.2.1), cH h, aI G (h 11) 121 ((F_X4_tell mo ki am sk dn y1 y2 y3 y4 y5 y6 y7 q v m k x np n).2.2.2.2.2.2.2.2.1), aI G (h 12) 121 ((F_X4_tell mo ki am sk dn y1 y2 y3 y4 y5 y6 y7 q v m k x np n).2.2.2.2.2.2.2.2.2.1), aI G (h 13) 121 ((F_X4_tell mo ki am sk dn y1 y2 y3 y4 y5 y6 y7 q v m k x np n).2.2.2.2.2.2.2.2.2.2.1), aI G (h 14) 121 ((F_X4_tell mo ki am sk dn y1 y2 y3 y4 y5 y6 y7 q v m k x np n).2.2.2.2.2.2.2.2.2.2.2.1), aI G (h 15) 121 ((F_X4_tell mo ki am sk dn y1 y2 y3 y4 y5 y6 y7 q v m k x np n).2.2.2.2.2.2.2.2.2.2.2.2.1), aI G (h 16) 121 ((F_X4_tell mo ki am sk dn y1 y2 y3 y4 y5 y6 y7 q v m k x np n).2.2.2.2.2.2.2.2.2.2.2.2.2.1), aI G (h 17) 121 ((F_X4_tell mo ki am sk dn y1 y2 y3 y4 y5 y6 y7 q v m k x np n).2.2.2.2.2.2.2.2.2.2.2.2.2.2.1), cP (h 1) q, cS (h 4) ((F_X4_tell mo ki am sk dn y1 y2 y3 y4 y5 y6 y7 q v m k x np n).2.2.2.2.2.2.2.2.2.2.2.2.2.2.2), aJ G (h 24) 1 (F_L_tell mo ki am sk dn y1 y2 y3 y4 y5 y6 y7 q v fo m k x np n)] := by
  refine CY_of (own := RL) (by decide +kernel) rfl rfl (Nat.le_of_ble_eq_true rfl) ?_
  intro pP eE sS mM args below meth cC A S hK hr hlk htb hXE hXZ hW ls hl
  have hx := S.1
  have hb := S.2.1
  have hts := S.2.2.2.2
  have hl : lv_has ls 6 [(0, .ref (h 0)), (1, .int m), (2, .int k), (3, .int x), (4, .ref (h 24))] := hl
  have hW : Wd G A sS.heap [cF h (nI np), cB h (nI n), aI G (h 6) 60 mo, aI G (h 7) 60 ki, aI G (h 8) 60 am, aZ G (h 9) 60 sk, aZ G (h 10) 60 dn, cH h, aI G (h 11) 121 y1, aI G (h 12) 121 y2, aI G (h 13) 121 y3, aI G (h 14) 121 y4, aI G (h 15) 121 y5, aI G (h 16) 121 y6, aI G (h 17) 121 y7, cP (h 1) q, cS (h 4) v, aJ G (h 24) 1 fo] sS.heap [] := hW
  refine lv_aload hx hb dL_tell_0 (lv_at hl 4 rfl) ?_
  refine lv_iconst (v := 0) hx hb dL_tell_2 (by decide) ?_
  refine lv_aload_n hx hb dL_tell_3 rfl (lv_at hl 0 rfl) ?_
  refine lv_iload_n hx hb dL_tell_4 rfl (lv_at hl 1 rfl) ?_
  refine lv_iload_n hx hb dL_tell_5 rfl (lv_at hl 2 rfl) ?_
  refine lv_iload_n hx hb dL_tell_6 rfl (lv_at hl 3 rfl) ?_
  refine kx_callV (C := RX4) (As := [.int m, .int k, .int x]) (rest := [.int 0, .ref (h 24)]) (wr := [aJ G (h 24) 1 fo]) (c_X4_tell l hst G h mo ki am sk dn y1 y2 y3 y4 y5 y6 y7 q v m k x np n hn hp) S hK hW hXE hXZ gL_tell_X4_tell rfl ⟨rfl, rfl⟩ nd_X4_tell ⟨rfl, rfl⟩ (qb := 0) (ci := 4) rfl rfl [0, 1, 2, 3, 4, 5, 6, 7, 8, 9, 10, 11, 12, 13, 14, 15, 16] [17] rfl rfl rfl rfl (by decide) rfl hl.1 rfl dL_tell_7 ⟨rfl, rfl⟩ (fun H locs q9 ce E hE hW hq9 hv9 hc9 => ?_) (fun H locs hk0 hW => ?_)
  ·
    have hW : Wd G A sS.heap [aJ G (h 24) 1 fo, cF h (nI np), cB h (nI n), aI G (h 6) 60 mo, aI G (h 7) 60 ki, aI G (h 8) 60 am, aZ G (h 9) 60 sk, aZ G (h 10) 60 dn, cH h, aI G (h 11) 121 y1, aI G (h 12) 121 y2, aI G (h 13) 121 y3, aI G (h 14) 121 y4, aI G (h 15) 121 y5, aI G (h 16) 121 y6, aI G (h 17) 121 y7, cP (h 1) q, cS (h 4) v] H locs := hW
    obtain ⟨q, hq, hk, rfl⟩ := hE
    rcases List.mem_cons.mp hq with rfl | hq
    ·
      refine vx_catch (name := nIAE) S.2.2.2.1 [] ⟨0, 19, 22, 13⟩ [⟨0, 19, 26, 19⟩] htb (fun _ h => absurd h List.not_mem_nil) (by decide) (by decide) (hts _ k_L_tell_cl13) (va_Nw.use rfl hXE.1) hq9 hv9 hc9 ?_
      refine lv_astore (lv' := [(5, .ref q9), (0, .ref (h 0)), (1, .int m), (2, .int k), (3, .int x), (4, .ref (h 24))]) hx hb dL_tell_22 hl (by decide) rfl (fun ls hl => ?_)
      refine lv_iconst (v := 1) hx hb dL_tell_24 (by decide) ?_
      exact ky_iret S hr hlk hK false (wf := [cF h (nI np), cB h (nI n), aI G (h 6) 60 mo, aI G (h 7) 60 ki, aI G (h 8) 60 am, aZ G (h 9) 60 sk, aZ G (h 10) 60 dn, cH h, aI G (h 11) 121 y1, aI G (h 12) 121 y2, aI G (h 13) 121 y3, aI G (h 14) 121 y4, aI G (h 15) 121 y5, aI G (h 16) 121 y6, aI G (h 17) 121 y7, cP (h 1) q, cS (h 4) v, aJ G (h 24) 1 fo]) hW [1, 2, 3, 4, 5, 6, 7, 8, 9, 10, 11, 12, 13, 14, 15, 16, 17, 0] rfl rfl rfl hk.symm (by rw [hk]; decide) rfl rfl dL_tell_25
    ·
      obtain rfl := List.mem_singleton.mp hq
      refine vx_catch (name := nISE) S.2.2.2.1 [⟨0, 19, 22, 13⟩] ⟨0, 19, 26, 19⟩ [] htb (fun z hz => by obtain rfl := List.mem_singleton.mp hz; exact Or.inr ⟨by decide, nIAE, hts _ k_L_tell_cl13, hXE.2.2.2.1⟩) (by decide) (by decide) (hts _ k_L_tell_cl19) (va_Nw.use rfl hXE.2.1) hq9 hv9 hc9 ?_
      refine lv_astore (lv' := [(5, .ref q9), (0, .ref (h 0)), (1, .int m), (2, .int k), (3, .int x), (4, .ref (h 24))]) hx hb dL_tell_26 hl (by decide) rfl (fun ls hl => ?_)
      refine lv_iconst (v := 2) hx hb dL_tell_28 (by decide) ?_
      exact ky_iret S hr hlk hK false (wf := [cF h (nI np), cB h (nI n), aI G (h 6) 60 mo, aI G (h 7) 60 ki, aI G (h 8) 60 am, aZ G (h 9) 60 sk, aZ G (h 10) 60 dn, cH h, aI G (h 11) 121 y1, aI G (h 12) 121 y2, aI G (h 13) 121 y3, aI G (h 14) 121 y4, aI G (h 15) 121 y5, aI G (h 16) 121 y6, aI G (h 17) 121 y7, cP (h 1) q, cS (h 4) v, aJ G (h 24) 1 fo]) hW [1, 2, 3, 4, 5, 6, 7, 8, 9, 10, 11, 12, 13, 14, 15, 16, 17, 0] rfl rfl rfl hk.symm (by rw [hk]; decide) rfl rfl dL_tell_29
  ·
    have hW : Wd G A sS.heap [aJ G (h 24) 1 fo, cF h (nI np), cB h ((F_X4_tell mo ki am sk dn y1 y2 y3 y4 y5 y6 y7 q v m k x np n).2.2.1), aI G (h 6) 60 ((F_X4_tell mo ki am sk dn y1 y2 y3 y4 y5 y6 y7 q v m k x np n).2.2.2.1), aI G (h 7) 60 ((F_X4_tell mo ki am sk dn y1 y2 y3 y4 y5 y6 y7 q v m k x np n).2.2.2.2.1), aI G (h 8) 60 ((F_X4_tell mo ki am sk dn y1 y2 y3 y4 y5 y6 y7 q v m k x np n).2.2.2.2.2.1), aZ G (h 9) 60 ((F_X4_tell mo ki am sk dn y1 y2 y3 y4 y5 y6 y7 q v m k x np n).2.2.2.2.2.2.1), aZ G (h 10) 60 ((F_X4_tell mo ki am sk dn y1 y2 y3 y4 y5 y6 y7 q v m k x np n).2.2.2.2.2.2.2.1), cH h, aI G (h 11) 121 ((F_X4_tell mo ki am sk dn y1 y2 y3 y4 y5 y6 y7 q v m k x np n).2.2.2.2.2.2.2.2.1), aI G (h 12) 121 ((F_X4_tell mo ki am sk dn y1 y2 y3 y4 y5 y6 y7 q v m k x np n).2.2.2.2.2.2.2.2.2.1), aI G (h 13) 121 ((F_X4_tell mo ki am sk dn y1 y2 y3 y4 y5 y6 y7 q v m k x np n).2.2.2.2.2.2.2.2.2.2.1), aI G (h 14) 121 ((F_X4_tell mo ki am sk dn y1 y2 y3 y4 y5 y6 y7 q v m k x np n).2.2.2.2.2.2.2.2.2.2.2.1), aI G (h 15) 121 ((F_X4_tell mo ki am sk dn y1 y2 y3 y4 y5 y6 y7 q v m k x np n).2.2.2.2.2.2.2.2.2.2.2.2.1), aI G (h 16) 121 ((F_X4_tell mo ki am sk dn y1 y2 y3 y4 y5 y6 y7 q v m k x np n).2.2.2.2.2.2.2.2.2.2.2.2.2.1), aI G (h 17) 121 ((F_X4_tell mo ki am sk dn y1 y2 y3 y4 y5 y6 y7 q v m k x np n).2.2.2.2.2.2.2.2.2.2.2.2.2.2.1), cP (h 1) q, cS (h 4) ((F_X4_tell mo ki am sk dn y1 y2 y3 y4 y5 y6 y7 q v m k x np n).2.2.2.2.2.2.2.2.2.2.2.2.2.2.2)] H locs := hW
    refine lv_if_eq (tgt := 17) hx hb dL_tell_10 (by decide) (fun c_1 => ?_) (fun c_1 => ?_)
    ·
      refine lv_lconst (v := 0) hx hb dL_tell_17 rfl ?_
      refine k_last (n := 1) (ws' := [aJ G (h 24) 1 (vp_updL fo (0 : Int32).toNatClampNeg 0), cF h (nI np), cB h ((F_X4_tell mo ki am sk dn y1 y2 y3 y4 y5 y6 y7 q v m k x np n).2.2.1), aI G (h 6) 60 ((F_X4_tell mo ki am sk dn y1 y2 y3 y4 y5 y6 y7 q v m k x np n).2.2.2.1), aI G (h 7) 60 ((F_X4_tell mo ki am sk dn y1 y2 y3 y4 y5 y6 y7 q v m k x np n).2.2.2.2.1), aI G (h 8) 60 ((F_X4_tell mo ki am sk dn y1 y2 y3 y4 y5 y6 y7 q v m k x np n).2.2.2.2.2.1), aZ G (h 9) 60 ((F_X4_tell mo ki am sk dn y1 y2 y3 y4 y5 y6 y7 q v m k x np n).2.2.2.2.2.2.1), aZ G (h 10) 60 ((F_X4_tell mo ki am sk dn y1 y2 y3 y4 y5 y6 y7 q v m k x np n).2.2.2.2.2.2.2.1), cH h, aI G (h 11) 121 ((F_X4_tell mo ki am sk dn y1 y2 y3 y4 y5 y6 y7 q v m k x np n).2.2.2.2.2.2.2.2.1), aI G (h 12) 121 ((F_X4_tell mo ki am sk dn y1 y2 y3 y4 y5 y6 y7 q v m k x np n).2.2.2.2.2.2.2.2.2.1), aI G (h 13) 121 ((F_X4_tell mo ki am sk dn y1 y2 y3 y4 y5 y6 y7 q v m k x np n).2.2.2.2.2.2.2.2.2.2.1), aI G (h 14) 121 ((F_X4_tell mo ki am sk dn y1 y2 y3 y4 y5 y6 y7 q v m k x np n).2.2.2.2.2.2.2.2.2.2.2.1), aI G (h 15) 121 ((F_X4_tell mo ki am sk dn y1 y2 y3 y4 y5 y6 y7 q v m k x np n).2.2.2.2.2.2.2.2.2.2.2.2.1), aI G (h 16) 121 ((F_X4_tell mo ki am sk dn y1 y2 y3 y4 y5 y6 y7 q v m k x np n).2.2.2.2.2.2.2.2.2.2.2.2.2.1), aI G (h 17) 121 ((F_X4_tell mo ki am sk dn y1 y2 y3 y4 y5 y6 y7 q v m k x np n).2.2.2.2.2.2.2.2.2.2.2.2.2.2.1), cP (h 1) q, cS (h 4) ((F_X4_tell mo ki am sk dn y1 y2 y3 y4 y5 y6 y7 q v m k x np n).2.2.2.2.2.2.2.2.2.2.2.2.2.2.2)]) S hK hW 0 rfl (i := 0) vp_01 rfl dL_tell_18 (fun H locs hW => ?_)
      refine lv_goto (tgt := 30) hx hb dL_tell_19 (by decide) ?_
      refine lv_iconst (v := 0) hx hb dL_tell_30 (by decide) ?_
      have eF : (F_L_tell mo ki am sk dn y1 y2 y3 y4 y5 y6 y7 q v fo m k x np n) = (vp_updL fo (0 : Int32).toNatClampNeg 0) := by
        unfold F_L_tell
        rw [if_pos c_1]
      exact ky_iret S hr hlk hK true (wf := [cF h (nI np), cB h ((F_X4_tell mo ki am sk dn y1 y2 y3 y4 y5 y6 y7 q v m k x np n).2.2.1), aI G (h 6) 60 ((F_X4_tell mo ki am sk dn y1 y2 y3 y4 y5 y6 y7 q v m k x np n).2.2.2.1), aI G (h 7) 60 ((F_X4_tell mo ki am sk dn y1 y2 y3 y4 y5 y6 y7 q v m k x np n).2.2.2.2.1), aI G (h 8) 60 ((F_X4_tell mo ki am sk dn y1 y2 y3 y4 y5 y6 y7 q v m k x np n).2.2.2.2.2.1), aZ G (h 9) 60 ((F_X4_tell mo ki am sk dn y1 y2 y3 y4 y5 y6 y7 q v m k x np n).2.2.2.2.2.2.1), aZ G (h 10) 60 ((F_X4_tell mo ki am sk dn y1 y2 y3 y4 y5 y6 y7 q v m k x np n).2.2.2.2.2.2.2.1), cH h, aI G (h 11) 121 ((F_X4_tell mo ki am sk dn y1 y2 y3 y4 y5 y6 y7 q v m k x np n).2.2.2.2.2.2.2.2.1), aI G (h 12) 121 ((F_X4_tell mo ki am sk dn y1 y2 y3 y4 y5 y6 y7 q v m k x np n).2.2.2.2.2.2.2.2.2.1), aI G (h 13) 121 ((F_X4_tell mo ki am sk dn y1 y2 y3 y4 y5 y6 y7 q v m k x np n).2.2.2.2.2.2.2.2.2.2.1), aI G (h 14) 121 ((F_X4_tell mo ki am sk dn y1 y2 y3 y4 y5 y6 y7 q v m k x np n).2.2.2.2.2.2.2.2.2.2.2.1), aI G (h 15) 121 ((F_X4_tell mo ki am sk dn y1 y2 y3 y4 y5 y6 y7 q v m k x np n).2.2.2.2.2.2.2.2.2.2.2.2.1), aI G (h 16) 121 ((F_X4_tell mo ki am sk dn y1 y2 y3 y4 y5 y6 y7 q v m k x np n).2.2.2.2.2.2.2.2.2.2.2.2.2.1), aI G (h 17) 121 ((F_X4_tell mo ki am sk dn y1 y2 y3 y4 y5 y6 y7 q v m k x np n).2.2.2.2.2.2.2.2.2.2.2.2.2.2.1), cP (h 1) q, cS (h 4) ((F_X4_tell mo ki am sk dn y1 y2 y3 y4 y5 y6 y7 q v m k x np n).2.2.2.2.2.2.2.2.2.2.2.2.2.2.2), aJ G (h 24) 1 (vp_updL fo (0 : Int32).toNatClampNeg 0)]) hW [1, 2, 3, 4, 5, 6, 7, 8, 9, 10, 11, 12, 13, 14, 15, 16, 17, 0] rfl rfl (congrArg (fun (z : Nat → Int64) => [cF h (nI np), cB h ((F_X4_tell mo ki am sk dn y1 y2 y3 y4 y5 y6 y7 q v m k x np n).2.2.1), aI G (h 6) 60 ((F_X4_tell mo ki am sk dn y1 y2 y3 y4 y5 y6 y7 q v m k x np n).2.2.2.1), aI G (h 7) 60 ((F_X4_tell mo ki am sk dn y1 y2 y3 y4 y5 y6 y7 q v m k x np n).2.2.2.2.1), aI G (h 8) 60 ((F_X4_tell mo ki am sk dn y1 y2 y3 y4 y5 y6 y7 q v m k x np n).2.2.2.2.2.1), aZ G (h 9) 60 ((F_X4_tell mo ki am sk dn y1 y2 y3 y4 y5 y6 y7 q v m k x np n).2.2.2.2.2.2.1), aZ G (h 10) 60 ((F_X4_tell mo ki am sk dn y1 y2 y3 y4 y5 y6 y7 q v m k x np n).2.2.2.2.2.2.2.1), cH h, aI G (h 11) 121 ((F_X4_tell mo ki am sk dn y1 y2 y3 y4 y5 y6 y7 q v m k x np n).2.2.2.2.2.2.2.2.1), aI G (h 12) 121 ((F_X4_tell mo ki am sk dn y1 y2 y3 y4 y5 y6 y7 q v m k x np n).2.2.2.2.2.2.2.2.2.1), aI G (h 13) 121 ((F_X4_tell mo ki am sk dn y1 y2 y3 y4 y5 y6 y7 q v m k x np n).2.2.2.2.2.2.2.2.2.2.1), aI G (h 14) 121 ((F_X4_tell mo ki am sk dn y1 y2 y3 y4 y5 y6 y7 q v m k x np n).2.2.2.2.2.2.2.2.2.2.2.1), aI G (h 15) 121 ((F_X4_tell mo ki am sk dn y1 y2 y3 y4 y5 y6 y7 q v m k x np n).2.2.2.2.2.2.2.2.2.2.2.2.1), aI G (h 16) 121 ((F_X4_tell mo ki am sk dn y1 y2 y3 y4 y5 y6 y7 q v m k x np n).2.2.2.2.2.2.2.2.2.2.2.2.2.1), aI G (h 17) 121 ((F_X4_tell mo ki am sk dn y1 y2 y3 y4 y5 y6 y7 q v m k x np n).2.2.2.2.2.2.2.2.2.2.2.2.2.2.1), cP (h 1) q, cS (h 4) ((F_X4_tell mo ki am sk dn y1 y2 y3 y4 y5 y6 y7 q v m k x np n).2.2.2.2.2.2.2.2.2.2.2.2.2.2.2), aJ G (h 24) 1 z]) eF).symm hk0.symm ⟨fun _ => hk0, fun _ => rfl⟩ rfl rfl dL_tell_31
    ·
      refine lv_lconst (v := 1) hx hb dL_tell_13 rfl ?_
      refine lv_goto (tgt := 18) hx hb dL_tell_14 (by decide) ?_
      refine k_last (n := 1) (ws' := [aJ G (h 24) 1 (vp_updL fo (0 : Int32).toNatClampNeg 1), cF h (nI np), cB h ((F_X4_tell mo ki am sk dn y1 y2 y3 y4 y5 y6 y7 q v m k x np n).2.2.1), aI G (h 6) 60 ((F_X4_tell mo ki am sk dn y1 y2 y3 y4 y5 y6 y7 q v m k x np n).2.2.2.1), aI G (h 7) 60 ((F_X4_tell mo ki am sk dn y1 y2 y3 y4 y5 y6 y7 q v m k x np n).2.2.2.2.1), aI G (h 8) 60 ((F_X4_tell mo ki am sk dn y1 y2 y3 y4 y5 y6 y7 q v m k x np n).2.2.2.2.2.1), aZ G (h 9) 60 ((F_X4_tell mo ki am sk dn y1 y2 y3 y4 y5 y6 y7 q v m k x np n).2.2.2.2.2.2.1), aZ G (h 10) 60 ((F_X4_tell mo ki am sk dn y1 y2 y3 y4 y5 y6 y7 q v m k x np n).2.2.2.2.2.2.2.1), cH h, aI G (h 11) 121 ((F_X4_tell mo ki am sk dn y1 y2 y3 y4 y5 y6 y7 q v m k x np n).2.2.2.2.2.2.2.2.1), aI G (h 12) 121 ((F_X4_tell mo ki am sk dn y1 y2 y3 y4 y5 y6 y7 q v m k x np n).2.2.2.2.2.2.2.2.2.1), aI G (h 13) 121 ((F_X4_tell mo ki am sk dn y1 y2 y3 y4 y5 y6 y7 q v m k x np n).2.2.2.2.2.2.2.2.2.2.1), aI G (h 14) 121 ((F_X4_tell mo ki am sk dn y1 y2 y3 y4 y5 y6 y7 q v m k x np n).2.2.2.2.2.2.2.2.2.2.2.1), aI G (h 15) 121 ((F_X4_tell mo ki am sk dn y1 y2 y3 y4 y5 y6 y7 q v m k x np n).2.2.2.2.2.2.2.2.2.2.2.2.1), aI G (h 16) 121 ((F_X4_tell mo ki am sk dn y1 y2 y3 y4 y5 y6 y7 q v m k x np n).2.2.2.2.2.2.2.2.2.2.2.2.2.1), aI G (h 17) 121 ((F_X4_tell mo ki am sk dn y1 y2 y3 y4 y5 y6 y7 q v m k x np n).2.2.2.2.2.2.2.2.2.2.2.2.2.2.1), cP (h 1) q, cS (h 4) ((F_X4_tell mo ki am sk dn y1 y2 y3 y4 y5 y6 y7 q v m k x np n).2.2.2.2.2.2.2.2.2.2.2.2.2.2.2)]) S hK hW 0 rfl (i := 0) vp_01 rfl dL_tell_18 (fun H locs hW => ?_)
      refine lv_goto (tgt := 30) hx hb dL_tell_19 (by decide) ?_
      refine lv_iconst (v := 0) hx hb dL_tell_30 (by decide) ?_
      have eF : (F_L_tell mo ki am sk dn y1 y2 y3 y4 y5 y6 y7 q v fo m k x np n) = (vp_updL fo (0 : Int32).toNatClampNeg 1) := by
        unfold F_L_tell
        rw [if_neg c_1]
      exact ky_iret S hr hlk hK true (wf := [cF h (nI np), cB h ((F_X4_tell mo ki am sk dn y1 y2 y3 y4 y5 y6 y7 q v m k x np n).2.2.1), aI G (h 6) 60 ((F_X4_tell mo ki am sk dn y1 y2 y3 y4 y5 y6 y7 q v m k x np n).2.2.2.1), aI G (h 7) 60 ((F_X4_tell mo ki am sk dn y1 y2 y3 y4 y5 y6 y7 q v m k x np n).2.2.2.2.1), aI G (h 8) 60 ((F_X4_tell mo ki am sk dn y1 y2 y3 y4 y5 y6 y7 q v m k x np n).2.2.2.2.2.1), aZ G (h 9) 60 ((F_X4_tell mo ki am sk dn y1 y2 y3 y4 y5 y6 y7 q v m k x np n).2.2.2.2.2.2.1), aZ G (h 10) 60 ((F_X4_tell mo ki am sk dn y1 y2 y3 y4 y5 y6 y7 q v m k x np n).2.2.2.2.2.2.2.1), cH h, aI G (h 11) 121 ((F_X4_tell mo ki am sk dn y1 y2 y3 y4 y5 y6 y7 q v m k x np n).2.2.2.2.2.2.2.2.1), aI G (h 12) 121 ((F_X4_tell mo ki am sk dn y1 y2 y3 y4 y5 y6 y7 q v m k x np n).2.2.2.2.2.2.2.2.2.1), aI G (h 13) 121 ((F_X4_tell mo ki am sk dn y1 y2 y3 y4 y5 y6 y7 q v m k x np n).2.2.2.2.2.2.2.2.2.2.1), aI G (h 14) 121 ((F_X4_tell mo ki am sk dn y1 y2 y3 y4 y5 y6 y7 q v m k x np n).2.2.2.2.2.2.2.2.2.2.2.1), aI G (h 15) 121 ((F_X4_tell mo ki am sk dn y1 y2 y3 y4 y5 y6 y7 q v m k x np n).2.2.2.2.2.2.2.2.2.2.2.2.1), aI G (h 16) 121 ((F_X4_tell mo ki am sk dn y1 y2 y3 y4 y5 y6 y7 q v m k x np n).2.2.2.2.2.2.2.2.2.2.2.2.2.1), aI G (h 17) 121 ((F_X4_tell mo ki am sk dn y1 y2 y3 y4 y5 y6 y7 q v m k x np n).2.2.2.2.2.2.2.2.2.2.2.2.2.2.1), cP (h 1) q, cS (h 4) ((F_X4_tell mo ki am sk dn y1 y2 y3 y4 y5 y6 y7 q v m k x np n).2.2.2.2.2.2.2.2.2.2.2.2.2.2.2), aJ G (h 24) 1 (vp_updL fo (0 : Int32).toNatClampNeg 1)]) hW [1, 2, 3, 4, 5, 6, 7, 8, 9, 10, 11, 12, 13, 14, 15, 16, 17, 0] rfl rfl (congrArg (fun (z : Nat → Int64) => [cF h (nI np), cB h ((F_X4_tell mo ki am sk dn y1 y2 y3 y4 y5 y6 y7 q v m k x np n).2.2.1), aI G (h 6) 60 ((F_X4_tell mo ki am sk dn y1 y2 y3 y4 y5 y6 y7 q v m k x np n).2.2.2.1), aI G (h 7) 60 ((F_X4_tell mo ki am sk dn y1 y2 y3 y4 y5 y6 y7 q v m k x np n).2.2.2.2.1), aI G (h 8) 60 ((F_X4_tell mo ki am sk dn y1 y2 y3 y4 y5 y6 y7 q v m k x np n).2.2.2.2.2.1), aZ G (h 9) 60 ((F_X4_tell mo ki am sk dn y1 y2 y3 y4 y5 y6 y7 q v m k x np n).2.2.2.2.2.2.1), aZ G (h 10) 60 ((F_X4_tell mo ki am sk dn y1 y2 y3 y4 y5 y6 y7 q v m k x np n).2.2.2.2.2.2.2.1), cH h, aI G (h 11) 121 ((F_X4_tell mo ki am sk dn y1 y2 y3 y4 y5 y6 y7 q v m k x np n).2.2.2.2.2.2.2.2.1), aI G (h 12) 121 ((F_X4_tell mo ki am sk dn y1 y2 y3 y4 y5 y6 y7 q v m k x np n).2.2.2.2.2.2.2.2.2.1), aI G (h 13) 121 ((F_X4_tell mo ki am sk dn y1 y2 y3 y4 y5 y6 y7 q v m k x np n).2.2.2.2.2.2.2.2.2.2.1), aI G (h 14) 121 ((F_X4_tell mo ki am sk dn y1 y2 y3 y4 y5 y6 y7 q v m k x np n).2.2.2.2.2.2.2.2.2.2.2.1), aI G (h 15) 121 ((F_X4_tell mo ki am sk dn y1 y2 y3 y4 y5 y6 y7 q v m k x np n).2.2.2.2.2.2.2.2.2.2.2.2.1), aI G (h 16) 121 ((F_X4_tell mo ki am sk dn y1 y2 y3 y4 y5 y6 y7 q v m k x np n).2.2.2.2.2.2.2.2.2.2.2.2.2.1), aI G (h 17) 121 ((F_X4_tell mo ki am sk dn y1 y2 y3 y4 y5 y6 y7 q v m k x np n).2.2.2.2.2.2.2.2.2.2.2.2.2.2.1), cP (h 1) q, cS (h 4) ((F_X4_tell mo ki am sk dn y1 y2 y3 y4 y5 y6 y7 q v m k x np n).2.2.2.2.2.2.2.2.2.2.2.2.2.2.2), aJ G (h 24) 1 z]) eF).symm hk0.symm ⟨fun _ => hk0, fun _ => rfl⟩ rfl rfl dL_tell_31
