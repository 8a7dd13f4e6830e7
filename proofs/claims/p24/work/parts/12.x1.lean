def F_X1_hasRow (x : Int32) : Bool :=
  if x < 0 then false
  else (if 121 ≤ x then false
    else true)
theorem nd_X1_hasRow : yX1_hasRow.cls = RX1 ∧ yX1_hasRow.cls ≠ "java/lang/invoke/MethodHandle" ∧ yX1_hasRow.cls ≠ "java/lang/invoke/VarHandle" ∧ (parseMethodDescriptor yX1_hasRow.desc).map (fun d => d.parameters.length) = some 1 := by decide +kernel
abbrev rm_X1_hasRow : Room := { frames := 0, cells := 0, slots := 0, locals := 0 }
set_option maxHeartbeats 4000000 in
set_option maxRecDepth 100000 in
theorem c_X1_hasRow (l : Launch) (G : GG) (h : Nat → Nat) (x : Int32) : CI l G yX1_hasRow wsX1_hasRow rm_X1_hasRow [.ref (h 3), .int x] [cH h] (bI (F_X1_hasRow x)) [cH h] := by
  refine CI_of (own := RX1) (by decide +kernel) rfl rfl (Nat.le_of_ble_eq_true rfl) ?_
  intro pP eE sS mM args below meth cC A S hK hr hlk hmn hW ls hl
  have hx := S.1
  have hb := S.2.1
  have hl : lv_has ls 2 [(0, .ref (h 3)), (1, .int x)] := hl
  have hW : Wd G A sS.heap [cH h] sS.heap [] := hW
  refine lv_iload_n hx hb dX1_hasRow_0 rfl (lv_at hl 1 rfl) ?_
  refine lv_if_lt (tgt := 14) hx hb dX1_hasRow_1 (by decide) (fun c_1 => ?_) (fun c_1 => ?_)
  ·
    refine lv_iconst (v := 0) hx hb dX1_hasRow_14 (by decide) ?_
    have eF : (F_X1_hasRow x) = false := by
      unfold F_X1_hasRow
      rw [if_pos c_1]
    exact k_zret (wf := [cH h]) S hr hlk hK hW [0] rfl rfl rfl (congrArg (fun (z : Bool) => bI z) eF).symm dX1_hasRow_15
  ·
    refine lv_iload_n hx hb dX1_hasRow_4 rfl (lv_at hl 1 rfl) ?_
    refine lv_bipush (v := 121) hx hb dX1_hasRow_5 (by decide) ?_
    refine lv_icmp_ge (tgt := 14) hx hb dX1_hasRow_7 (by decide) (fun c_2 => ?_) (fun c_2 => ?_)
    ·
      refine lv_iconst (v := 0) hx hb dX1_hasRow_14 (by decide) ?_
      have eF : (F_X1_hasRow x) = false := by
        unfold F_X1_hasRow
        rw [if_neg c_1, if_pos c_2]
      exact k_zret (wf := [cH h]) S hr hlk hK hW [0] rfl rfl rfl (congrArg (fun (z : Bool) => bI z) eF).symm dX1_hasRow_15
    ·
      refine lv_iconst (v := 1) hx hb dX1_hasRow_10 (by decide) ?_
      refine lv_goto (tgt := 15) hx hb dX1_hasRow_11 (by decide) ?_
      have eF : (F_X1_hasRow x) = true := by
        unfold F_X1_hasRow
        rw [if_neg c_1, if_neg c_2]
      exact k_zret (wf := [cH h]) S hr hlk hK hW [0] rfl rfl rfl (congrArg (fun (z : Bool) => bI z) eF).symm dX1_hasRow_15
theorem row_in {x : Int32} (h : ¬ bI (F_X1_hasRow x) = 0) : vp_in x 121 := by
  rw [nbI0] at h
  unfold F_X1_hasRow at h
  split at h
  · cases h
  · rename_i h1
    split at h
    · cases h
    · rename_i h2
      rw [vp_in_iff]
      rw [Int32.lt_iff_toInt_lt] at h1
      rw [Int32.le_iff_toInt_le] at h2
      have e0 : (0 : Int32).toInt = 0 := by decide
      have e1 : (121 : Int32).toInt = 121 := by decide
      omega
def F_X1_keep (y1 : (Nat → Int32)) (y2 : (Nat → Int32)) (y3 : (Nat → Int32)) (y4 : (Nat → Int32)) (y5 : (Nat → Int32)) (y6 : (Nat → Int32)) (y7 : (Nat → Int32)) (v : S7) (x : Int32) : (Nat → Int32) × (Nat → Int32) × (Nat → Int32) × (Nat → Int32) × (Nat → Int32) × (Nat → Int32) × (Nat → Int32) :=
  if bI (F_X1_hasRow x) = 0 then (y1, y2, y3, y4, y5, y6, y7)
  else ((upd y1 x.toNatClampNeg v.1), (upd y2 x.toNatClampNeg v.2.1), (upd y3 x.toNatClampNeg v.2.2.1), (upd y4 x.toNatClampNeg v.2.2.2.1), (upd y5 x.toNatClampNeg v.2.2.2.2.1), (upd y6 x.toNatClampNeg v.2.2.2.2.2.1), (upd y7 x.toNatClampNeg v.2.2.2.2.2.2))
set_option maxRecDepth 100000 in
theorem k_X1_keep_f11 : Cond.fieldLink RX1 11 "FlexiblePolicy$History" "states" "[I" ∈ wsX1_keep := by decide +kernel
set_option maxRecDepth 100000 in
theorem k_X1_keep_in1 : ∀ w ∈ u_ws RX1 TX1 7, w ∈ wsX1_keep := by decide +kernel
set_option maxRecDepth 100000 in
theorem k_X1_keep_f37 : Cond.fieldLink RX1 37 "FlexiblePolicy$Standing" "state" "I" ∈ wsX1_keep := by decide +kernel
set_option maxRecDepth 100000 in
theorem k_X1_keep_in3 : ∀ w ∈ u_ws RX3 TX3 7, w ∈ wsX1_keep := by decide +kernel
set_option maxRecDepth 100000 in
theorem k_X1_keep_f15 : Cond.fieldLink RX1 15 "FlexiblePolicy$History" "accounts" "[I" ∈ wsX1_keep := by decide +kernel
set_option maxRecDepth 100000 in
theorem k_X1_keep_f43 : Cond.fieldLink RX1 43 "FlexiblePolicy$Standing" "account" "I" ∈ wsX1_keep := by decide +kernel
set_option maxRecDepth 100000 in
theorem k_X1_keep_f18 : Cond.fieldLink RX1 18 "FlexiblePolicy$History" "loans" "[I" ∈ wsX1_keep := by decide +kernel
set_option maxRecDepth 100000 in
theorem k_X1_keep_f46 : Cond.fieldLink RX1 46 "FlexiblePolicy$Standing" "loan" "I" ∈ wsX1_keep := by decide +kernel
set_option maxRecDepth 100000 in
theorem k_X1_keep_f21 : Cond.fieldLink RX1 21 "FlexiblePolicy$History" "arrearsRows" "[I" ∈ wsX1_keep := by decide +kernel
set_option maxRecDepth 100000 in
theorem k_X1_keep_f49 : Cond.fieldLink RX1 49 "FlexiblePolicy$Standing" "arrears" "I" ∈ wsX1_keep := by decide +kernel
set_option maxRecDepth 100000 in
theorem k_X1_keep_f24 : Cond.fieldLink RX1 24 "FlexiblePolicy$History" "graces" "[I" ∈ wsX1_keep := by decide +kernel
set_option maxRecDepth 100000 in
theorem k_X1_keep_f52 : Cond.fieldLink RX1 52 "FlexiblePolicy$Standing" "grace" "I" ∈ wsX1_keep := by decide +kernel
set_option maxRecDepth 100000 in
theorem k_X1_keep_f27 : Cond.fieldLink RX1 27 "FlexiblePolicy$History" "lapsedFroms" "[I" ∈ wsX1_keep := by decide +kernel
set_option maxRecDepth 100000 in
theorem k_X1_keep_f55 : Cond.fieldLink RX1 55 "FlexiblePolicy$Standing" "lapsedFrom" "I" ∈ wsX1_keep := by decide +kernel
set_option maxRecDepth 100000 in
theorem k_X1_keep_f30 : Cond.fieldLink RX1 30 "FlexiblePolicy$History" "paids" "[I" ∈ wsX1_keep := by decide +kernel
set_option maxRecDepth 100000 in
theorem k_X1_keep_f58 : Cond.fieldLink RX1 58 "FlexiblePolicy$Standing" "paid" "I" ∈ wsX1_keep := by decide +kernel
theorem nd_X1_keep : yX1_keep.cls = RX1 ∧ yX1_keep.cls ≠ "java/lang/invoke/MethodHandle" ∧ yX1_keep.cls ≠ "java/lang/invoke/VarHandle" ∧ (parseMethodDescriptor yX1_keep.desc).map (fun d => d.parameters.length) = some 2 := by decide +kernel
abbrev rm_X1_keep : Room := { frames := 1, cells := 0, slots := 0, locals := 21 }
set_option maxHeartbeats 4000000 in
set_option maxRecDepth 100000 in
theorem c_X1_keep (l : Launch) (G : GG) (h : Nat → Nat) (a : Nat) (y1 : (Nat → Int32)) (y2 : (Nat → Int32)) (y3 : (Nat → Int32)) (y4 : (Nat → Int32)) (y5 : (Nat → Int32)) (y6 : (Nat → Int32)) (y7 : (Nat → Int32)) (v : S7) (x : Int32) : CV l G yX1_keep wsX1_keep rm_X1_keep [.ref (h 3), .int x, .ref a] [cH h, aI G (h 11) 121 y1, aI G (h 12) 121 y2, aI G (h 13) 121 y3, aI G (h 14) 121 y4, aI G (h 15) 121 y5, aI G (h 16) 121 y6, aI G (h 17) 121 y7, cS a v] [cH h, aI G (h 11) 121 ((F_X1_keep y1 y2 y3 y4 y5 y6 y7 v x).1), aI G (h 12) 121 ((F_X1_keep y1 y2 y3 y4 y5 y6 y7 v x).2.1), aI G (h 13) 121 ((F_X1_keep y1 y2 y3 y4 y5 y6 y7 v x).2.2.1), aI G (h 14) 121 ((F_X1_keep y1 y2 y3 y4 y5 y6 y7 v x).2.2.2.1), aI G (h 15) 121 ((F_X1_keep y1 y2 y3 y4 y5 y6 y7 v x).2.2.2.2.1), aI G (h 16) 121 ((F_X1_keep y1 y2 y3 y4 y5 y6 y7 v x).2.2.2.2.2.1), aI G (h 17) 121 ((F_X1_keep y1 y2 y3 y4 y5 y6 y7 v x).2.2.2.2.2.2), cS a v] := by
  refine CV_of (own := RX1) (by decide +kernel) rfl rfl (Nat.le_of_ble_eq_true rfl) ?_
  intro pP eE sS mM args below meth cC A S hK hr hlk hmn hW ls hl
  have hx := S.1
  have hb := S.2.1
  have hl : lv_has ls 3 [(0, .ref (h 3)), (1, .int x), (2, .ref a)] := hl
  have hW : Wd G A sS.heap [cH h, aI G (h 11) 121 y1, aI G (h 12) 121 y2, aI G (h 13) 121 y3, aI G (h 14) 121 y4, aI G (h 15) 121 y5, aI G (h 16) 121 y6, aI G (h 17) 121 y7, cS a v] sS.heap [] := hW
  refine lv_aload_n hx hb dX1_keep_0 rfl (lv_at hl 0 rfl) ?_
  refine lv_iload_n hx hb dX1_keep_1 rfl (lv_at hl 1 rfl) ?_
  refine k_callVi (C := RX1) (As := [.int x]) (rest := []) (wr := [aI G (h 11) 121 y1, aI G (h 12) 121 y2, aI G (h 13) 121 y3, aI G (h 14) 121 y4, aI G (h 15) 121 y5, aI G (h 16) 121 y6, aI G (h 17) 121 y7, cS a v]) (c_X1_hasRow l G h x) S hK hW gX1_keep_X1_hasRow rfl ⟨rfl, rfl⟩ nd_X1_hasRow ⟨rfl, rfl⟩ (qb := 0) (ci := 1) rfl rfl [0] [1, 2, 3, 4, 5, 6, 7, 8] rfl rfl rfl rfl (by decide) rfl hl.1 rfl dX1_keep_2 ⟨Nat.zero_le _, Nat.zero_le _⟩ (fun H locs hW => ?_)
  have hW : Wd G A sS.heap [aI G (h 11) 121 y1, aI G (h 12) 121 y2, aI G (h 13) 121 y3, aI G (h 14) 121 y4, aI G (h 15) 121 y5, aI G (h 16) 121 y6, aI G (h 17) 121 y7, cS a v, cH h] H locs := hW
  refine lv_if_eq (tgt := 78) hx hb dX1_keep_5 (by decide) (fun c_1 => ?_) (fun c_1 => ?_)
  ·
    have eF : (F_X1_keep y1 y2 y3 y4 y5 y6 y7 v x) = (y1, y2, y3, y4, y5, y6, y7) := by
      unfold F_X1_keep
      rw [if_pos c_1]
    exact k_vret (wf := [cH h, aI G (h 11) 121 y1, aI G (h 12) 121 y2, aI G (h 13) 121 y3, aI G (h 14) 121 y4, aI G (h 15) 121 y5, aI G (h 16) 121 y6, aI G (h 17) 121 y7, cS a v]) S hr hlk hK hW [8, 0, 1, 2, 3, 4, 5, 6, 7] rfl rfl (congrArg (fun (z : (Nat → Int32) × (Nat → Int32) × (Nat → Int32) × (Nat → Int32) × (Nat → Int32) × (Nat → Int32) × (Nat → Int32)) => [cH h, aI G (h 11) 121 z.1, aI G (h 12) 121 z.2.1, aI G (h 13) 121 z.2.2.1, aI G (h 14) 121 z.2.2.2.1, aI G (h 15) 121 z.2.2.2.2.1, aI G (h 16) 121 z.2.2.2.2.2.1, aI G (h 17) 121 z.2.2.2.2.2.2, cS a v]) eF).symm dX1_keep_78
  ·
    refine lv_aload_n hx hb dX1_keep_8 rfl (lv_at hl 0 rfl) ?_
    refine k_get (C := RX1) (T := TX1) (N := 7) (ci := 1) (v := .ref (h 11)) S hK hW k_X1_keep_in1 8 0 rfl rfl (by decide) k_X1_keep_f11 rfl dX1_keep_9 ?_
    refine lv_iload_n hx hb dX1_keep_12 rfl (lv_at hl 1 rfl) ?_
    refine lv_aload_n hx hb dX1_keep_13 rfl (lv_at hl 2 rfl) ?_
    refine k_get (C := RX3) (T := TX3) (N := 7) (ci := 3) (v := .int v.1) S hK hW k_X1_keep_in3 7 0 rfl rfl (by decide) k_X1_keep_f37 rfl dX1_keep_14 ?_
    refine k_iast (n := 121) (ws' := [aI G (h 11) 121 (upd y1 x.toNatClampNeg v.1), aI G (h 12) 121 y2, aI G (h 13) 121 y3, aI G (h 14) 121 y4, aI G (h 15) 121 y5, aI G (h 16) 121 y6, aI G (h 17) 121 y7, cS a v, cH h]) S hK hW 0 rfl (i := x) (row_in c_1) rfl dX1_keep_17 (fun H locs hW => ?_)
    refine lv_aload_n hx hb dX1_keep_18 rfl (lv_at hl 0 rfl) ?_
    refine k_get (C := RX1) (T := TX1) (N := 7) (ci := 1) (v := .ref (h 12)) S hK hW k_X1_keep_in1 8 1 rfl rfl (by decide) k_X1_keep_f15 rfl dX1_keep_19 ?_
    refine lv_iload_n hx hb dX1_keep_22 rfl (lv_at hl 1 rfl) ?_
    refine lv_aload_n hx hb dX1_keep_23 rfl (lv_at hl 2 rfl) ?_
    refine k_get (C := RX3) (T := TX3) (N := 7) (ci := 3) (v := .int v.2.1) S hK hW k_X1_keep_in3 7 1 rfl rfl (by decide) k_X1_keep_f43 rfl dX1_keep_24 ?_
    refine k_iast (n := 121) (ws' := [aI G (h 11) 121 (upd y1 x.toNatClampNeg v.1), aI G (h 12) 121 (upd y2 x.toNatClampNeg v.2.1), aI G (h 13) 121 y3, aI G (h 14) 121 y4, aI G (h 15) 121 y5, aI G (h 16) 121 y6, aI G (h 17) 121 y7, cS a v, cH h]) S hK hW 1 rfl (i := x) (row_in c_1) rfl dX1_keep_27 (fun H locs hW => ?_)
    refine lv_aload_n hx hb dX1_keep_28 rfl (lv_at hl 0 rfl) ?_
    refine k_get (C := RX1) (T := TX1) (N := 7) (ci := 1) (v := .ref (h 13)) S hK hW k_X1_keep_in1 8 2 rfl rfl (by decide) k_X1_keep_f18 rfl dX1_keep_29 ?_
    refine lv_iload_n hx hb dX1_keep_32 rfl (lv_at hl 1 rfl) ?_
    refine lv_aload_n hx hb dX1_keep_33 rfl (lv_at hl 2 rfl) ?_
    refine k_get (C := RX3) (T := TX3) (N := 7) (ci := 3) (v := .int v.2.2.1) S hK hW k_X1_keep_in3 7 2 rfl rfl (by decide) k_X1_keep_f46 rfl dX1_keep_34 ?_
    refine k_iast (n := 121) (ws' := [aI G (h 11) 121 (upd y1 x.toNatClampNeg v.1), aI G (h 12) 121 (upd y2 x.toNatClampNeg v.2.1), aI G (h 13) 121 (upd y3 x.toNatClampNeg v.2.2.1), aI G (h 14) 121 y4, aI G (h 15) 121 y5, aI G (h 16) 121 y6, aI G (h 17) 121 y7, cS a v, cH h]) S hK hW 2 rfl (i := x) (row_in c_1) rfl dX1_keep_37 (fun H locs hW => ?_)
    refine lv_aload_n hx hb dX1_keep_38 rfl (lv_at hl 0 rfl) ?_
    refine k_get (C := RX1) (T := TX1) (N := 7) (ci := 1) (v := .ref (h 14)) S hK hW k_X1_keep_in1 8 3 rfl rfl (by decide) k_X1_keep_f21 rfl dX1_keep_39 ?_
    refine lv_iload_n hx hb dX1_keep_42 rfl (lv_at hl 1 rfl) ?_
    refine lv_aload_n hx hb dX1_keep_43 rfl (lv_at hl 2 rfl) ?_
    refine k_get (C := RX3) (T := TX3) (N := 7) (ci := 3) (v := .int v.2.2.2.1) S hK hW k_X1_keep_in3 7 3 rfl rfl (by decide) k_X1_keep_f49 rfl dX1_keep_44 ?_
    refine k_iast (n := 121) (ws' := [aI G (h 11) 121 (upd y1 x.toNatClampNeg v.1), aI G (h 12) 121 (upd y2 x.toNatClampNeg v.2.1), aI G (h 13) 121 (upd y3 x.toNatClampNeg v.2.2.1), aI G (h 14) 121 (upd y4 x.toNatClampNeg v.2.2.2.1), aI G (h 15) 121 y5, aI G (h 16) 121 y6, aI G (h 17) 121 y7, cS a v, cH h]) S hK hW 3 rfl (i := x) (row_in c_1) rfl dX1_keep_47 (fun H locs hW => ?_)
    refine lv_aload_n hx hb dX1_keep_48 rfl (lv_at hl 0 rfl) ?_
    refine k_get (C := RX1) (T := TX1) (N := 7) (ci := 1) (v := .ref (h 15)) S hK hW k_X1_keep_in1 8 4 rfl rfl (by decide) k_X1_keep_f24 rfl dX1_keep_49 ?_
    refine lv_iload_n hx hb dX1_keep_52 rfl (lv_at hl 1 rfl) ?_
    refine lv_aload_n hx hb dX1_keep_53 rfl (lv_at hl 2 rfl) ?_
    refine k_get (C := RX3) (T := TX3) (N := 7) (ci := 3) (v := .int v.2.2.2.2.1) S hK hW k_X1_keep_in3 7 4 rfl rfl (by decide) k_X1_keep_f52 rfl dX1_keep_54 ?_
    refine k_iast (n := 121) (ws' := [aI G (h 11) 121 (upd y1 x.toNatClampNeg v.1), aI G (h 12) 121 (upd y2 x.toNatClampNeg v.2.1), aI G (h 13) 121 (upd y3 x.toNatClampNeg v.2.2.1), aI G (h 14) 121 (upd y4 x.toNatClampNeg v.2.2.2.1), aI G (h 15) 121 (upd y5 x.toNatClampNeg v.2.2.2.2.1), aI G (h 16) 121 y6, aI G (h 17) 121 y7, cS a v, cH h]) S hK hW 4 rfl (i := x) (row_in c_1) rfl dX1_keep_57 (fun H locs hW => ?_)
    refine lv_aload_n hx hb dX1_keep_58 rfl (lv_at hl 0 rfl) ?_
    refine k_get (C := RX1) (T := TX1) (N := 7) (ci := 1) (v := .ref (h 16)) S hK hW k_X1_keep_in1 8 5 rfl rfl (by decide) k_X1_keep_f27 rfl dX1_keep_59 ?_
    refine lv_iload_n hx hb dX1_keep_62 rfl (lv_at hl 1 rfl) ?_
    refine lv_aload_n hx hb dX1_keep_63 rfl (lv_at hl 2 rfl) ?_
    refine k_get (C := RX3) (T := TX3) (N := 7) (ci := 3) (v := .int v.2.2.2.2.2.1) S hK hW k_X1_keep_in3 7 5 rfl rfl (by decide) k_X1_keep_f55 rfl dX1_keep_64 ?_
    refine k_iast (n := 121) (ws' := [aI G (h 11) 121 (upd y1 x.toNatClampNeg v.1), aI G (h 12) 121 (upd y2 x.toNatClampNeg v.2.1), aI G (h 13) 121 (upd y3 x.toNatClampNeg v.2.2.1), aI G (h 14) 121 (upd y4 x.toNatClampNeg v.2.2.2.1), aI G (h 15) 121 (upd y5 x.toNatClampNeg v.2.2.2.2.1), aI G (h 16) 121 (upd y6 x.toNatClampNeg v.2.2.2.2.2.1), aI G (h 17) 121 y7, cS a v, cH h]) S hK hW 5 rfl (i := x) (row_in c_1) rfl dX1_keep_67 (fun H locs hW => ?_)
    refine lv_aload_n hx hb dX1_keep_68 rfl (lv_at hl 0 rfl) ?_
    refine k_get (C := RX1) (T := TX1) (N := 7) (ci := 1) (v := .ref (h 17)) S hK hW k_X1_keep_in1 8 6 rfl rfl (by decide) k_X1_keep_f30 rfl dX1_keep_69 ?_
    refine lv_iload_n hx hb dX1_keep_72 rfl (lv_at hl 1 rfl) ?_
    refine lv_aload_n hx hb dX1_keep_73 rfl (lv_at hl 2 rfl) ?_
    refine k_get (C := RX3) (T := TX3) (N := 7) (ci := 3) (v := .int v.2.2.2.2.2.2) S hK hW k_X1_keep_in3 7 6 rfl rfl (by decide) k_X1_keep_f58 rfl dX1_keep_74 ?_
    refine k_iast (n := 121) (ws' := [aI G (h 11) 121 (upd y1 x.toNatClampNeg v.1), aI G (h 12) 121 (upd y2 x.toNatClampNeg v.2.1), aI G (h 13) 121 (upd y3 x.toNatClampNeg v.2.2.1), aI G (h 14) 121 (upd y4 x.toNatClampNeg v.2.2.2.1), aI G (h 15) 121 (upd y5 x.toNatClampNeg v.2.2.2.2.1), aI G (h 16) 121 (upd y6 x.toNatClampNeg v.2.2.2.2.2.1), aI G (h 17) 121 (upd y7 x.toNatClampNeg v.2.2.2.2.2.2), cS a v, cH h]) S hK hW 6 rfl (i := x) (row_in c_1) rfl dX1_keep_77 (fun H locs hW => ?_)
    have eF : (F_X1_keep y1 y2 y3 y4 y5 y6 y7 v x) = ((upd y1 x.toNatClampNeg v.1), (upd y2 x.toNatClampNeg v.2.1), (upd y3 x.toNatClampNeg v.2.2.1), (upd y4 x.toNatClampNeg v.2.2.2.1), (upd y5 x.toNatClampNeg v.2.2.2.2.1), (upd y6 x.toNatClampNeg v.2.2.2.2.2.1), (upd y7 x.toNatClampNeg v.2.2.2.2.2.2)) := by
      unfold F_X1_keep
      rw [if_neg c_1]
    exact k_vret (wf := [cH h, aI G (h 11) 121 (upd y1 x.toNatClampNeg v.1), aI G (h 12) 121 (upd y2 x.toNatClampNeg v.2.1), aI G (h 13) 121 (upd y3 x.toNatClampNeg v.2.2.1), aI G (h 14) 121 (upd y4 x.toNatClampNeg v.2.2.2.1), aI G (h 15) 121 (upd y5 x.toNatClampNeg v.2.2.2.2.1), aI G (h 16) 121 (upd y6 x.toNatClampNeg v.2.2.2.2.2.1), aI G (h 17) 121 (upd y7 x.toNatClampNeg v.2.2.2.2.2.2), cS a v]) S hr hlk hK hW [8, 0, 1, 2, 3, 4, 5, 6, 7] rfl rfl (congrArg (fun (z : (Nat → Int32) × (Nat → Int32) × (Nat → Int32) × (Nat → Int32) × (Nat → Int32) × (Nat → Int32) × (Nat → Int32)) => [cH h, aI G (h 11) 121 z.1, aI G (h 12) 121 z.2.1, aI G (h 13) 121 z.2.2.1, aI G (h 14) 121 z.2.2.2.1, aI G (h 15) 121 z.2.2.2.2.1, aI G (h 16) 121 z.2.2.2.2.2.1, aI G (h 17) 121 z.2.2.2.2.2.2, cS a v]) eF).symm dX1_keep_78
def F_X1_recall (y1 : (Nat → Int32)) (y2 : (Nat → Int32)) (y3 : (Nat → Int32)) (y4 : (Nat → Int32)) (y5 : (Nat → Int32)) (y6 : (Nat → Int32)) (y7 : (Nat → Int32)) (v : S7) (x : Int32) : S7 :=
  if bI (F_X1_hasRow x) = 0 then v
  else ((y1 x.toNatClampNeg), (y2 x.toNatClampNeg), (y3 x.toNatClampNeg), (y4 x.toNatClampNeg), (y5 x.toNatClampNeg), (y6 x.toNatClampNeg), (y7 x.toNatClampNeg))
set_option maxRecDepth 100000 in
theorem k_X1_recall_f11 : Cond.fieldLink RX1 11 "FlexiblePolicy$History" "states" "[I" ∈ wsX1_recall := by decide +kernel
set_option maxRecDepth 100000 in
theorem k_X1_recall_in1 : ∀ w ∈ u_ws RX1 TX1 7, w ∈ wsX1_recall := by decide +kernel
set_option maxRecDepth 100000 in
theorem k_X1_recall_f37 : Cond.fieldLink RX1 37 "FlexiblePolicy$Standing" "state" "I" ∈ wsX1_recall := by decide +kernel
set_option maxRecDepth 100000 in
theorem k_X1_recall_in3 : ∀ w ∈ u_ws RX3 TX3 7, w ∈ wsX1_recall := by decide +kernel
set_option maxRecDepth 100000 in
theorem k_X1_recall_f15 : Cond.fieldLink RX1 15 "FlexiblePolicy$History" "accounts" "[I" ∈ wsX1_recall := by decide +kernel
set_option maxRecDepth 100000 in
theorem k_X1_recall_f43 : Cond.fieldLink RX1 43 "FlexiblePolicy$Standing" "account" "I" ∈ wsX1_recall := by decide +kernel
set_option maxRecDepth 100000 in
theorem k_X1_recall_f18 : Cond.fieldLink RX1 18 "FlexiblePolicy$History" "loans" "[I" ∈ wsX1_recall := by decide +kernel
set_option maxRecDepth 100000 in
theorem k_X1_recall_f46 : Cond.fieldLink RX1 46 "FlexiblePolicy$Standing" "loan" "I" ∈ wsX1_recall := by decide +kernel
set_option maxRecDepth 100000 in
theorem k_X1_recall_f21 : Cond.fieldLink RX1 21 "FlexiblePolicy$History" "arrearsRows" "[I" ∈ wsX1_recall := by decide +kernel
set_option maxRecDepth 100000 in
theorem k_X1_recall_f49 : Cond.fieldLink RX1 49 "FlexiblePolicy$Standing" "arrears" "I" ∈ wsX1_recall := by decide +kernel
set_option maxRecDepth 100000 in
theorem k_X1_recall_f24 : Cond.fieldLink RX1 24 "FlexiblePolicy$History" "graces" "[I" ∈ wsX1_recall := by decide +kernel
set_option maxRecDepth 100000 in
theorem k_X1_recall_f52 : Cond.fieldLink RX1 52 "FlexiblePolicy$Standing" "grace" "I" ∈ wsX1_recall := by decide +kernel
set_option maxRecDepth 100000 in
theorem k_X1_recall_f27 : Cond.fieldLink RX1 27 "FlexiblePolicy$History" "lapsedFroms" "[I" ∈ wsX1_recall := by decide +kernel
set_option maxRecDepth 100000 in
theorem k_X1_recall_f55 : Cond.fieldLink RX1 55 "FlexiblePolicy$Standing" "lapsedFrom" "I" ∈ wsX1_recall := by decide +kernel
set_option maxRecDepth 100000 in
theorem k_X1_recall_f30 : Cond.fieldLink RX1 30 "FlexiblePolicy$History" "paids" "[I" ∈ wsX1_recall := by decide +kernel
set_option maxRecDepth 100000 in
theorem k_X1_recall_f58 : Cond.fieldLink RX1 58 "FlexiblePolicy$Standing" "paid" "I" ∈ wsX1_recall := by decide +kernel
theorem nd_X1_recall : yX1_recall.cls = RX1 ∧ yX1_recall.cls ≠ "java/lang/invoke/MethodHandle" ∧ yX1_recall.cls ≠ "java/lang/invoke/VarHandle" ∧ (parseMethodDescriptor yX1_recall.desc).map (fun d => d.parameters.length) = some 2 := by decide +kernel
abbrev rm_X1_recall : Room := { frames := 1, cells := 0, slots := 0, locals := 21 }
set_option maxHeartbeats 4000000 in
set_option maxRecDepth 100000 in
theorem c_X1_recall (l : Launch) (G : GG) (h : Nat → Nat) (a : Nat) (y1 : (Nat → Int32)) (y2 : (Nat → Int32)) (y3 : (Nat → Int32)) (y4 : (Nat → Int32)) (y5 : (Nat → Int32)) (y6 : (Nat → Int32)) (y7 : (Nat → Int32)) (v : S7) (x : Int32) : CV l G yX1_recall wsX1_recall rm_X1_recall [.ref (h 3), .int x, .ref a] [cH h, aI G (h 11) 121 y1, aI G (h 12) 121 y2, aI G (h 13) 121 y3, aI G (h 14) 121 y4, aI G (h 15) 121 y5, aI G (h 16) 121 y6, aI G (h 17) 121 y7, cS a v] [cH h, aI G (h 11) 121 y1, aI G (h 12) 121 y2, aI G (h 13) 121 y3, aI G (h 14) 121 y4, aI G (h 15) 121 y5, aI G (h 16) 121 y6, aI G (h 17) 121 y7, cS a (F_X1_recall y1 y2 y3 y4 y5 y6 y7 v x)] := by
  refine CV_of (own := RX1) (by decide +kernel) rfl rfl (Nat.le_of_ble_eq_true rfl) ?_
  intro pP eE sS mM args below meth cC A S hK hr hlk hmn hW ls hl
  have hx := S.1
  have hb := S.2.1
  have hl : lv_has ls 3 [(0, .ref (h 3)), (1, .int x), (2, .ref a)] := hl
  have hW : Wd G A sS.heap [cH h, aI G (h 11) 121 y1, aI G (h 12) 121 y2, aI G (h 13) 121 y3, aI G (h 14) 121 y4, aI G (h 15) 121 y5, aI G (h 16) 121 y6, aI G (h 17) 121 y7, cS a v] sS.heap [] := hW
  refine lv_aload_n hx hb dX1_recall_0 rfl (lv_at hl 0 rfl) ?_
  refine lv_iload_n hx hb dX1_recall_1 rfl (lv_at hl 1 rfl) ?_
  refine k_callVi (C := RX1) (As := [.int x]) (rest := []) (wr := [aI G (h 11) 121 y1, aI G (h 12) 121 y2, aI G (h 13) 121 y3, aI G (h 14) 121 y4, aI G (h 15) 121 y5, aI G (h 16) 121 y6, aI G (h 17) 121 y7, cS a v]) (c_X1_hasRow l G h x) S hK hW gX1_recall_X1_hasRow rfl ⟨rfl, rfl⟩ nd_X1_hasRow ⟨rfl, rfl⟩ (qb := 0) (ci := 1) rfl rfl [0] [1, 2, 3, 4, 5, 6, 7, 8] rfl rfl rfl rfl (by decide) rfl hl.1 rfl dX1_recall_2 ⟨Nat.zero_le _, Nat.zero_le _⟩ (fun H locs hW => ?_)
  have hW : Wd G A sS.heap [aI G (h 11) 121 y1, aI G (h 12) 121 y2, aI G (h 13) 121 y3, aI G (h 14) 121 y4, aI G (h 15) 121 y5, aI G (h 16) 121 y6, aI G (h 17) 121 y7, cS a v, cH h] H locs := hW
  refine lv_if_eq (tgt := 78) hx hb dX1_recall_5 (by decide) (fun c_1 => ?_) (fun c_1 => ?_)
  ·
    have eF : (F_X1_recall y1 y2 y3 y4 y5 y6 y7 v x) = v := by
      unfold F_X1_recall
      rw [if_pos c_1]
    exact k_vret (wf := [cH h, aI G (h 11) 121 y1, aI G (h 12) 121 y2, aI G (h 13) 121 y3, aI G (h 14) 121 y4, aI G (h 15) 121 y5, aI G (h 16) 121 y6, aI G (h 17) 121 y7, cS a v]) S hr hlk hK hW [8, 0, 1, 2, 3, 4, 5, 6, 7] rfl rfl (congrArg (fun (z : S7) => [cH h, aI G (h 11) 121 y1, aI G (h 12) 121 y2, aI G (h 13) 121 y3, aI G (h 14) 121 y4, aI G (h 15) 121 y5, aI G (h 16) 121 y6, aI G (h 17) 121 y7, cS a z]) eF).symm dX1_recall_78
  ·
    refine lv_aload_n hx hb dX1_recall_8 rfl (lv_at hl 2 rfl) ?_
    refine lv_aload_n hx hb dX1_recall_9 rfl (lv_at hl 0 rfl) ?_
    refine k_get (C := RX1) (T := TX1) (N := 7) (ci := 1) (v := .ref (h 11)) S hK hW k_X1_recall_in1 8 0 rfl rfl (by decide) k_X1_recall_f11 rfl dX1_recall_10 ?_
    refine lv_iload_n hx hb dX1_recall_13 rfl (lv_at hl 1 rfl) ?_
    refine k_iald (n := 121) S hK hW 0 rfl (i := x) (row_in c_1) dX1_recall_14 ?_
    refine lv_topi (fun z_2 ez_2 => ?_)
    refine k_put (C := RX3) (T := TX3) (N := 7) (ci := 3) (v := .int z_2) (ws' := [aI G (h 11) 121 y1, aI G (h 12) 121 y2, aI G (h 13) 121 y3, aI G (h 14) 121 y4, aI G (h 15) 121 y5, aI G (h 16) 121 y6, aI G (h 17) 121 y7, cS a (z_2, v.2.1, v.2.2.1, v.2.2.2.1, v.2.2.2.2.1, v.2.2.2.2.2.1, v.2.2.2.2.2.2), cH h]) S hK hW k_X1_recall_in3 tyX3_ok nmX3 7 0 rfl rfl (by decide) k_X1_recall_f37 rfl rfl rfl rfl rfl dX1_recall_15 (fun H locs hW => ?_)
    refine lv_aload_n hx hb dX1_recall_18 rfl (lv_at hl 2 rfl) ?_
    refine lv_aload_n hx hb dX1_recall_19 rfl (lv_at hl 0 rfl) ?_
    refine k_get (C := RX1) (T := TX1) (N := 7) (ci := 1) (v := .ref (h 12)) S hK hW k_X1_recall_in1 8 1 rfl rfl (by decide) k_X1_recall_f15 rfl dX1_recall_20 ?_
    refine lv_iload_n hx hb dX1_recall_23 rfl (lv_at hl 1 rfl) ?_
    refine k_iald (n := 121) S hK hW 1 rfl (i := x) (row_in c_1) dX1_recall_24 ?_
    refine lv_topi (fun z_3 ez_3 => ?_)
    refine k_put (C := RX3) (T := TX3) (N := 7) (ci := 3) (v := .int z_3) (ws' := [aI G (h 11) 121 y1, aI G (h 12) 121 y2, aI G (h 13) 121 y3, aI G (h 14) 121 y4, aI G (h 15) 121 y5, aI G (h 16) 121 y6, aI G (h 17) 121 y7, cS a (z_2, z_3, v.2.2.1, v.2.2.2.1, v.2.2.2.2.1, v.2.2.2.2.2.1, v.2.2.2.2.2.2), cH h]) S hK hW k_X1_recall_in3 tyX3_ok nmX3 7 1 rfl rfl (by decide) k_X1_recall_f43 rfl rfl rfl rfl rfl dX1_recall_25 (fun H locs hW => ?_)
    refine lv_aload_n hx hb dX1_recall_28 rfl (lv_at hl 2 rfl) ?_
    refine lv_aload_n hx hb dX1_recall_29 rfl (lv_at hl 0 rfl) ?_
    refine k_get (C := RX1) (T := TX1) (N := 7) (ci := 1) (v := .ref (h 13)) S hK hW k_X1_recall_in1 8 2 rfl rfl (by decide) k_X1_recall_f18 rfl dX1_recall_30 ?_
    refine lv_iload_n hx hb dX1_recall_33 rfl (lv_at hl 1 rfl) ?_
    refine k_iald (n := 121) S hK hW 2 rfl (i := x) (row_in c_1) dX1_recall_34 ?_
    refine lv_topi (fun z_4 ez_4 => ?_)
    refine k_put (C := RX3) (T := TX3) (N := 7) (ci := 3) (v := .int z_4) (ws' := [aI G (h 11) 121 y1, aI G (h 12) 121 y2, aI G (h 13) 121 y3, aI G (h 14) 121 y4, aI G (h 15) 121 y5, aI G (h 16) 121 y6, aI G (h 17) 121 y7, cS a (z_2, z_3, z_4, v.2.2.2.1, v.2.2.2.2.1, v.2.2.2.2.2.1, v.2.2.2.2.2.2), cH h]) S hK hW k_X1_recall_in3 tyX3_ok nmX3 7 2 rfl rfl (by decide) k_X1_recall_f46 rfl rfl rfl rfl rfl dX1_recall_35 (fun H locs hW => ?_)
    refine lv_aload_n hx hb dX1_recall_38 rfl (lv_at hl 2 rfl) ?_
    refine lv_aload_n hx hb dX1_recall_39 rfl (lv_at hl 0 rfl) ?_
    refine k_get (C := RX1) (T := TX1) (N := 7) (ci := 1) (v := .ref (h 14)) S hK hW k_X1_recall_in1 8 3 rfl rfl (by decide) k_X1_recall_f21 rfl dX1_recall_40 ?_
    refine lv_iload_n hx hb dX1_recall_43 rfl (lv_at hl 1 rfl) ?_
    refine k_iald (n := 121) S hK hW 3 rfl (i := x) (row_in c_1) dX1_recall_44 ?_
    refine lv_topi (fun z_5 ez_5 => ?_)
    refine k_put (C := RX3) (T := TX3) (N := 7) (ci := 3) (v := .int z_5) (ws' := [aI G (h 11) 121 y1, aI G (h 12) 121 y2, aI G (h 13) 121 y3, aI G (h 14) 121 y4, aI G (h 15) 121 y5, aI G (h 16) 121 y6, aI G (h 17) 121 y7, cS a (z_2, z_3, z_4, z_5, v.2.2.2.2.1, v.2.2.2.2.2.1, v.2.2.2.2.2.2), cH h]) S hK hW k_X1_recall_in3 tyX3_ok nmX3 7 3 rfl rfl (by decide) k_X1_recall_f49 rfl rfl rfl rfl rfl dX1_recall_45 (fun H locs hW => ?_)
    refine lv_aload_n hx hb dX1_recall_48 rfl (lv_at hl 2 rfl) ?_
    refine lv_aload_n hx hb dX1_recall_49 rfl (lv_at hl 0 rfl) ?_
    refine k_get (C := RX1) (T := TX1) (N := 7) (ci := 1) (v := .ref (h 15)) S hK hW k_X1_recall_in1 8 4 rfl rfl (by decide) k_X1_recall_f24 rfl dX1_recall_50 ?_
    refine lv_iload_n hx hb dX1_recall_53 rfl (lv_at hl 1 rfl) ?_
    refine k_iald (n := 121) S hK hW 4 rfl (i := x) (row_in c_1) dX1_recall_54 ?_
    refine lv_topi (fun z_6 ez_6 => ?_)
    refine k_put (C := RX3) (T := TX3) (N := 7) (ci := 3) (v := .int z_6) (ws' := [aI G (h 11) 121 y1, aI G (h 12) 121 y2, aI G (h 13) 121 y3, aI G (h 14) 121 y4, aI G (h 15) 121 y5, aI G (h 16) 121 y6, aI G (h 17) 121 y7, cS a (z_2, z_3, z_4, z_5, z_6, v.2.2.2.2.2.1, v.2.2.2.2.2.2), cH h]) S hK hW k_X1_recall_in3 tyX3_ok nmX3 7 4 rfl rfl (by decide) k_X1_recall_f52 rfl rfl rfl rfl rfl dX1_recall_55 (fun H locs hW => ?_)
    refine lv_aload_n hx hb dX1_recall_58 rfl (lv_at hl 2 rfl) ?_
    refine lv_aload_n hx hb dX1_recall_59 rfl (lv_at hl 0 rfl) ?_
    refine k_get (C := RX1) (T := TX1) (N := 7) (ci := 1) (v := .ref (h 16)) S hK hW k_X1_recall_in1 8 5 rfl rfl (by decide) k_X1_recall_f27 rfl dX1_recall_60 ?_
    refine lv_iload_n hx hb dX1_recall_63 rfl (lv_at hl 1 rfl) ?_
    refine k_iald (n := 121) S hK hW 5 rfl (i := x) (row_in c_1) dX1_recall_64 ?_
    refine lv_topi (fun z_7 ez_7 => ?_)
    refine k_put (C := RX3) (T := TX3) (N := 7) (ci := 3) (v := .int z_7) (ws' := [aI G (h 11) 121 y1, aI G (h 12) 121 y2, aI G (h 13) 121 y3, aI G (h 14) 121 y4, aI G (h 15) 121 y5, aI G (h 16) 121 y6, aI G (h 17) 121 y7, cS a (z_2, z_3, z_4, z_5, z_6, z_7, v.2.2.2.2.2.2), cH h]) S hK hW k_X1_recall_in3 tyX3_ok nmX3 7 5 rfl rfl (by decide) k_X1_recall_f55 rfl rfl rfl rfl rfl dX1_recall_65 (fun H locs hW => ?_)
    refine lv_aload_n hx hb dX1_recall_68 rfl (lv_at hl 2 rfl) ?_
    refine lv_aload_n hx hb dX1_recall_69 rfl (lv_at hl 0 rfl) ?_
    refine k_get (C := RX1) (T := TX1) (N := 7) (ci := 1) (v := .ref (h 17)) S hK hW k_X1_recall_in1 8 6 rfl rfl (by decide) k_X1_recall_f30 rfl dX1_recall_70 ?_
    refine lv_iload_n hx hb dX1_recall_73 rfl (lv_at hl 1 rfl) ?_
    refine k_iald (n := 121) S hK hW 6 rfl (i := x) (row_in c_1) dX1_recall_74 ?_
    refine lv_topi (fun z_8 ez_8 => ?_)
    refine k_put (C := RX3) (T := TX3) (N := 7) (ci := 3) (v := .int z_8) (ws' := [aI G (h 11) 121 y1, aI G (h 12) 121 y2, aI G (h 13) 121 y3, aI G (h 14) 121 y4, aI G (h 15) 121 y5, aI G (h 16) 121 y6, aI G (h 17) 121 y7, cS a (z_2, z_3, z_4, z_5, z_6, z_7, z_8), cH h]) S hK hW k_X1_recall_in3 tyX3_ok nmX3 7 6 rfl rfl (by decide) k_X1_recall_f58 rfl rfl rfl rfl rfl dX1_recall_75 (fun H locs hW => ?_)
    have hW9 := hW
    have hl9 := hl
    subst ez_2
    subst ez_3
    subst ez_4
    subst ez_5
    subst ez_6
    subst ez_7
    subst ez_8
    have eF : (F_X1_recall y1 y2 y3 y4 y5 y6 y7 v x) = ((y1 x.toNatClampNeg), (y2 x.toNatClampNeg), (y3 x.toNatClampNeg), (y4 x.toNatClampNeg), (y5 x.toNatClampNeg), (y6 x.toNatClampNeg), (y7 x.toNatClampNeg)) := by
      unfold F_X1_recall
      rw [if_neg c_1]
    exact k_vret (wf := [cH h, aI G (h 11) 121 y1, aI G (h 12) 121 y2, aI G (h 13) 121 y3, aI G (h 14) 121 y4, aI G (h 15) 121 y5, aI G (h 16) 121 y6, aI G (h 17) 121 y7, cS a ((y1 x.toNatClampNeg), (y2 x.toNatClampNeg), (y3 x.toNatClampNeg), (y4 x.toNatClampNeg), (y5 x.toNatClampNeg), (y6 x.toNatClampNeg), (y7 x.toNatClampNeg))]) S hr hlk hK hW9 [8, 0, 1, 2, 3, 4, 5, 6, 7] rfl rfl (congrArg (fun (z : S7) => [cH h, aI G (h 11) 121 y1, aI G (h 12) 121 y2, aI G (h 13) 121 y3, aI G (h 14) 121 y4, aI G (h 15) 121 y5, aI G (h 16) 121 y6, aI G (h 17) 121 y7, cS a z]) eF).symm dX1_recall_78
