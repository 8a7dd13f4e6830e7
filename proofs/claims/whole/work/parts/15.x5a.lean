def F_X5_in (x : Int32) (y : Int32) (z : Int32) : Bool :=
  if x < y then false
  else (if z < x then false
    else true)
theorem nd_X5_in : yX5_in.cls ≠ "java/lang/invoke/MethodHandle" ∧ yX5_in.cls ≠ "java/lang/invoke/VarHandle" ∧ (parseMethodDescriptor yX5_in.desc).map (fun d => d.parameters.length) = some 3 := by decide +kernel
abbrev rm_X5_in : Room := { frames := 0, cells := 0, slots := 0, locals := 0 }
set_option maxHeartbeats 4000000 in
set_option maxRecDepth 100000 in
theorem c_X5_in (l : Launch) (G : GG)  (x : Int32) (y : Int32) (z : Int32) : CI l G yX5_in wsX5_in rm_X5_in [.int x, .int y, .int z] [] (bI (F_X5_in x y z)) [] := by
  refine CI_of (own := RX5) (by decide +kernel) rfl rfl (Nat.le_of_ble_eq_true rfl) ?_
  intro pP eE sS mM args below meth cC A S hK hr hlk hmn hW ls hl
  have hx := S.1
  have hb := S.2.1
  have hl : lv_has ls 3 [(0, .int x), (1, .int y), (2, .int z)] := hl
  have hW : Wd G A sS.heap [] sS.heap [] := hW
  refine lv_iload_n hx hb dX5_in_0 rfl (lv_at hl 0 rfl) ?_
  refine lv_iload_n hx hb dX5_in_1 rfl (lv_at hl 1 rfl) ?_
  refine lv_icmp_lt (tgt := 14) hx hb dX5_in_2 (by decide) (fun c_1 => ?_) (fun c_1 => ?_)
  ·
    refine lv_iconst (v := 0) hx hb dX5_in_14 (by decide) ?_
    have eF : (F_X5_in x y z) = false := by
      unfold F_X5_in
      rw [if_pos c_1]
    exact k_zret (wf := []) S hr hlk hK hW [] rfl rfl rfl (congrArg (fun (z : Bool) => bI z) eF).symm dX5_in_15
  ·
    refine lv_iload_n hx hb dX5_in_5 rfl (lv_at hl 0 rfl) ?_
    refine lv_iload_n hx hb dX5_in_6 rfl (lv_at hl 2 rfl) ?_
    refine lv_icmp_gt (tgt := 14) hx hb dX5_in_7 (by decide) (fun c_2 => ?_) (fun c_2 => ?_)
    ·
      refine lv_iconst (v := 0) hx hb dX5_in_14 (by decide) ?_
      have eF : (F_X5_in x y z) = false := by
        unfold F_X5_in
        rw [if_neg c_1, if_pos c_2]
      exact k_zret (wf := []) S hr hlk hK hW [] rfl rfl rfl (congrArg (fun (z : Bool) => bI z) eF).symm dX5_in_15
    ·
      refine lv_iconst (v := 1) hx hb dX5_in_10 (by decide) ?_
      refine lv_goto (tgt := 15) hx hb dX5_in_11 (by decide) ?_
      have eF : (F_X5_in x y z) = true := by
        unfold F_X5_in
        rw [if_neg c_1, if_neg c_2]
      exact k_zret (wf := []) S hr hlk hK hW [] rfl rfl rfl (congrArg (fun (z : Bool) => bI z) eF).symm dX5_in_15
def F_X5_corridorAt (x : Int32) : Int32 :=
  if 40 < x then (if 105 ≤ (250 - (5 * (x - 40))) then (250 - (5 * (x - 40)))
    else 105)
  else 250
theorem nd_X5_corridorAt : yX5_corridorAt.cls ≠ "java/lang/invoke/MethodHandle" ∧ yX5_corridorAt.cls ≠ "java/lang/invoke/VarHandle" ∧ (parseMethodDescriptor yX5_corridorAt.desc).map (fun d => d.parameters.length) = some 1 := by decide +kernel
abbrev rm_X5_corridorAt : Room := { frames := 0, cells := 0, slots := 0, locals := 0 }
set_option maxHeartbeats 4000000 in
set_option maxRecDepth 100000 in
theorem c_X5_corridorAt (l : Launch) (G : GG)  (x : Int32) : CI l G yX5_corridorAt wsX5_corridorAt rm_X5_corridorAt [.int x] [] (F_X5_corridorAt x) [] := by
  refine CI_of (own := RX5) (by decide +kernel) rfl rfl (Nat.le_of_ble_eq_true rfl) ?_
  intro pP eE sS mM args below meth cC A S hK hr hlk hmn hW ls hl
  have hx := S.1
  have hb := S.2.1
  have hl : lv_has ls 2 [(0, .int x)] := hl
  have hW : Wd G A sS.heap [] sS.heap [] := hW
  refine lv_iload_n hx hb dX5_corridorAt_0 rfl (lv_at hl 0 rfl) ?_
  refine lv_bipush (v := 40) hx hb dX5_corridorAt_1 (by decide) ?_
  refine lv_icmp_gt (tgt := 12) hx hb dX5_corridorAt_3 (by decide) (fun c_1 => ?_) (fun c_1 => ?_)
  ·
    refine lv_sipush (v := 250) hx hb dX5_corridorAt_12 (by decide) ?_
    refine lv_iconst (v := 5) hx hb dX5_corridorAt_15 (by decide) ?_
    refine lv_iload_n hx hb dX5_corridorAt_16 rfl (lv_at hl 0 rfl) ?_
    refine lv_bipush (v := 40) hx hb dX5_corridorAt_17 (by decide) ?_
    refine lv_isub hx hb dX5_corridorAt_19 ?_
    refine lv_imul hx hb dX5_corridorAt_20 ?_
    refine lv_isub hx hb dX5_corridorAt_21 ?_
    refine lv_istore_n (lv' := [(1, .int (250 - (5 * (x - 40)))), (0, .int x)]) hx hb dX5_corridorAt_22 rfl hl (by decide) rfl (fun ls hl => ?_)
    refine lv_iload_n hx hb dX5_corridorAt_23 rfl (lv_at hl 0 rfl) ?_
    refine lv_bipush (v := 105) hx hb dX5_corridorAt_24 (by decide) ?_
    refine lv_icmp_ge (tgt := 34) hx hb dX5_corridorAt_26 (by decide) (fun c_2 => ?_) (fun c_2 => ?_)
    ·
      refine lv_iload_n hx hb dX5_corridorAt_34 rfl (lv_at hl 0 rfl) ?_
      have eF : (F_X5_corridorAt x) = (250 - (5 * (x - 40))) := by
        unfold F_X5_corridorAt
        rw [if_pos c_1, if_pos c_2]
      exact k_iret (wf := []) S hr hlk hK hW [] rfl rfl rfl (congrArg (fun (z : Int32) => z) eF).symm dX5_corridorAt_35
    ·
      refine lv_bipush (v := 105) hx hb dX5_corridorAt_29 (by decide) ?_
      refine lv_goto (tgt := 35) hx hb dX5_corridorAt_31 (by decide) ?_
      have eF : (F_X5_corridorAt x) = 105 := by
        unfold F_X5_corridorAt
        rw [if_pos c_1, if_neg c_2]
      exact k_iret (wf := []) S hr hlk hK hW [] rfl rfl rfl (congrArg (fun (z : Int32) => z) eF).symm dX5_corridorAt_35
  ·
    refine lv_sipush (v := 250) hx hb dX5_corridorAt_6 (by decide) ?_
    refine lv_goto (tgt := 22) hx hb dX5_corridorAt_9 (by decide) ?_
    refine lv_istore_n (lv' := [(1, .int 250), (0, .int x)]) hx hb dX5_corridorAt_22 rfl hl (by decide) rfl (fun ls hl => ?_)
    refine lv_iload_n hx hb dX5_corridorAt_23 rfl (lv_at hl 0 rfl) ?_
    refine lv_bipush (v := 105) hx hb dX5_corridorAt_24 (by decide) ?_
    refine lv_icmp_ge (tgt := 34) hx hb dX5_corridorAt_26 (by decide) (fun c_3 => ?_) (fun c_3 => ?_)
    ·
      refine lv_iload_n hx hb dX5_corridorAt_34 rfl (lv_at hl 0 rfl) ?_
      have eF : (F_X5_corridorAt x) = 250 := by
        unfold F_X5_corridorAt
        rw [if_neg c_1]
      exact k_iret (wf := []) S hr hlk hK hW [] rfl rfl rfl (congrArg (fun (z : Int32) => z) eF).symm dX5_corridorAt_35
    ·
      exact absurd c_3 (by decide)
def F_X5_thrown (t : Int32) : Int32 :=
  t
set_option maxRecDepth 100000 in
theorem k_X5_thrown_f34 : Cond.fieldLink RX5 34 "FlexiblePolicyModel" "thrown" "I" ∈ wsX5_thrown := by decide +kernel
set_option maxRecDepth 100000 in
theorem k_X5_thrown_in5 : ∀ w ∈ u_ws RX5 TX5 18, w ∈ wsX5_thrown := by decide +kernel
theorem nd_X5_thrown : yX5_thrown.cls = RX5 ∧ yX5_thrown.cls ≠ "java/lang/invoke/MethodHandle" ∧ yX5_thrown.cls ≠ "java/lang/invoke/VarHandle" ∧ (parseMethodDescriptor yX5_thrown.desc).map (fun d => d.parameters.length) = some 0 := by decide +kernel
abbrev rm_X5_thrown : Room := { frames := 0, cells := 0, slots := 0, locals := 0 }
set_option maxHeartbeats 4000000 in
set_option maxRecDepth 100000 in
theorem c_X5_thrown (l : Launch) (G : GG) (h : Nat → Nat) (ka : Int32) (kb : Int32) (kc : Int32) (kd : Int32) (ke : Int32) (v : S7) (t : Int32) : CI l G yX5_thrown wsX5_thrown rm_X5_thrown [.ref (h 18)] [cM h (ka, kb, kc, kd, ke) v t] (F_X5_thrown t) [cM h (ka, kb, kc, kd, ke) v t] := by
  refine CI_of (own := RX5) (by decide +kernel) rfl rfl (Nat.le_of_ble_eq_true rfl) ?_
  intro pP eE sS mM args below meth cC A S hK hr hlk hmn hW ls hl
  have hx := S.1
  have hb := S.2.1
  have hl : lv_has ls 1 [(0, .ref (h 18))] := hl
  have hW : Wd G A sS.heap [cM h (ka, kb, kc, kd, ke) v t] sS.heap [] := hW
  refine lv_aload_n hx hb dX5_thrown_0 rfl (lv_at hl 0 rfl) ?_
  refine k_get (C := RX5) (T := TX5) (N := 18) (ci := 5) (v := .int t) S hK hW k_X5_thrown_in5 0 17 rfl rfl (by decide) k_X5_thrown_f34 rfl dX5_thrown_1 ?_
  have eF : (F_X5_thrown t) = t := by
    rfl
  exact k_iret (wf := [cM h (ka, kb, kc, kd, ke) v t]) S hr hlk hK hW [0] rfl rfl rfl (congrArg (fun (z : Int32) => z) eF).symm dX5_thrown_4
def F_X5_acts (ke : Int32) : Int32 × Int32 :=
  (ke, 0)
set_option maxRecDepth 100000 in
theorem k_X5_acts_f34 : Cond.fieldLink RX5 34 "FlexiblePolicyModel" "thrown" "I" ∈ wsX5_acts := by decide +kernel
set_option maxRecDepth 100000 in
theorem k_X5_acts_in5 : ∀ w ∈ u_ws RX5 TX5 18, w ∈ wsX5_acts := by decide +kernel
set_option maxRecDepth 100000 in
theorem k_X5_acts_f105 : Cond.fieldLink RX5 105 "FlexiblePolicyModel" "actMany" "I" ∈ wsX5_acts := by decide +kernel
theorem nd_X5_acts : yX5_acts.cls = RX5 ∧ yX5_acts.cls ≠ "java/lang/invoke/MethodHandle" ∧ yX5_acts.cls ≠ "java/lang/invoke/VarHandle" ∧ (parseMethodDescriptor yX5_acts.desc).map (fun d => d.parameters.length) = some 0 := by decide +kernel
abbrev rm_X5_acts : Room := { frames := 0, cells := 0, slots := 0, locals := 0 }
set_option maxHeartbeats 4000000 in
set_option maxRecDepth 100000 in
theorem c_X5_acts (l : Launch) (G : GG) (h : Nat → Nat) (ka : Int32) (kb : Int32) (kc : Int32) (kd : Int32) (ke : Int32) (v : S7) (t : Int32) : CI l G yX5_acts wsX5_acts rm_X5_acts [.ref (h 18)] [cM h (ka, kb, kc, kd, ke) v t] ((F_X5_acts ke).1) [cM h (ka, kb, kc, kd, ke) v ((F_X5_acts ke).2)] := by
  refine CI_of (own := RX5) (by decide +kernel) rfl rfl (Nat.le_of_ble_eq_true rfl) ?_
  intro pP eE sS mM args below meth cC A S hK hr hlk hmn hW ls hl
  have hx := S.1
  have hb := S.2.1
  have hl : lv_has ls 1 [(0, .ref (h 18))] := hl
  have hW : Wd G A sS.heap [cM h (ka, kb, kc, kd, ke) v t] sS.heap [] := hW
  refine lv_aload_n hx hb dX5_acts_0 rfl (lv_at hl 0 rfl) ?_
  refine lv_iconst (v := 0) hx hb dX5_acts_1 (by decide) ?_
  refine k_put (C := RX5) (T := TX5) (N := 18) (ci := 5) (v := .int 0) (ws' := [cM h (ka, kb, kc, kd, ke) v 0]) S hK hW k_X5_acts_in5 tyX5_ok nmX5 0 17 rfl rfl (by decide) k_X5_acts_f34 rfl rfl rfl rfl rfl dX5_acts_2 (fun H locs hW => ?_)
  refine lv_aload_n hx hb dX5_acts_5 rfl (lv_at hl 0 rfl) ?_
  refine k_get (C := RX5) (T := TX5) (N := 18) (ci := 5) (v := .int ke) S hK hW k_X5_acts_in5 0 4 rfl rfl (by decide) k_X5_acts_f105 rfl dX5_acts_6 ?_
  have eF : (F_X5_acts ke) = (ke, 0) := by
    rfl
  exact k_iret (wf := [cM h (ka, kb, kc, kd, ke) v 0]) S hr hlk hK hW [0] rfl rfl (congrArg (fun (z : Int32 × Int32) => [cM h (ka, kb, kc, kd, ke) v z.2]) eF).symm (congrArg (fun (z : Int32 × Int32) => z.1) eF).symm dX5_acts_9
def F_X5_month (kd : Int32) : Int32 × Int32 :=
  (kd, 0)
set_option maxRecDepth 100000 in
theorem k_X5_month_f34 : Cond.fieldLink RX5 34 "FlexiblePolicyModel" "thrown" "I" ∈ wsX5_month := by decide +kernel
set_option maxRecDepth 100000 in
theorem k_X5_month_in5 : ∀ w ∈ u_ws RX5 TX5 18, w ∈ wsX5_month := by decide +kernel
set_option maxRecDepth 100000 in
theorem k_X5_month_f122 : Cond.fieldLink RX5 122 "FlexiblePolicyModel" "now" "I" ∈ wsX5_month := by decide +kernel
theorem nd_X5_month : yX5_month.cls = RX5 ∧ yX5_month.cls ≠ "java/lang/invoke/MethodHandle" ∧ yX5_month.cls ≠ "java/lang/invoke/VarHandle" ∧ (parseMethodDescriptor yX5_month.desc).map (fun d => d.parameters.length) = some 0 := by decide +kernel
abbrev rm_X5_month : Room := { frames := 0, cells := 0, slots := 0, locals := 0 }
set_option maxHeartbeats 4000000 in
set_option maxRecDepth 100000 in
theorem c_X5_month (l : Launch) (G : GG) (h : Nat → Nat) (ka : Int32) (kb : Int32) (kc : Int32) (kd : Int32) (ke : Int32) (v : S7) (t : Int32) : CI l G yX5_month wsX5_month rm_X5_month [.ref (h 18)] [cM h (ka, kb, kc, kd, ke) v t] ((F_X5_month kd).1) [cM h (ka, kb, kc, kd, ke) v ((F_X5_month kd).2)] := by
  refine CI_of (own := RX5) (by decide +kernel) rfl rfl (Nat.le_of_ble_eq_true rfl) ?_
  intro pP eE sS mM args below meth cC A S hK hr hlk hmn hW ls hl
  have hx := S.1
  have hb := S.2.1
  have hl : lv_has ls 1 [(0, .ref (h 18))] := hl
  have hW : Wd G A sS.heap [cM h (ka, kb, kc, kd, ke) v t] sS.heap [] := hW
  refine lv_aload_n hx hb dX5_month_0 rfl (lv_at hl 0 rfl) ?_
  refine lv_iconst (v := 0) hx hb dX5_month_1 (by decide) ?_
  refine k_put (C := RX5) (T := TX5) (N := 18) (ci := 5) (v := .int 0) (ws' := [cM h (ka, kb, kc, kd, ke) v 0]) S hK hW k_X5_month_in5 tyX5_ok nmX5 0 17 rfl rfl (by decide) k_X5_month_f34 rfl rfl rfl rfl rfl dX5_month_2 (fun H locs hW => ?_)
  refine lv_aload_n hx hb dX5_month_5 rfl (lv_at hl 0 rfl) ?_
  refine k_get (C := RX5) (T := TX5) (N := 18) (ci := 5) (v := .int kd) S hK hW k_X5_month_in5 0 3 rfl rfl (by decide) k_X5_month_f122 rfl dX5_month_6 ?_
  have eF : (F_X5_month kd) = (kd, 0) := by
    rfl
  exact k_iret (wf := [cM h (ka, kb, kc, kd, ke) v 0]) S hr hlk hK hW [0] rfl rfl (congrArg (fun (z : Int32 × Int32) => [cM h (ka, kb, kc, kd, ke) v z.2]) eF).symm (congrArg (fun (z : Int32 × Int32) => z.1) eF).symm dX5_month_9
def F_X5_ageIn (ka : Int32) (m : Int32) : Int32 :=
  (ka + (m / 12))
set_option maxRecDepth 100000 in
theorem k_X5_ageIn_f26 : Cond.fieldLink RX5 26 "FlexiblePolicyModel" "beginAge" "I" ∈ wsX5_ageIn := by decide +kernel
set_option maxRecDepth 100000 in
theorem k_X5_ageIn_in5 : ∀ w ∈ u_ws RX5 TX5 18, w ∈ wsX5_ageIn := by decide +kernel
theorem nd_X5_ageIn : yX5_ageIn.cls = RX5 ∧ yX5_ageIn.cls ≠ "java/lang/invoke/MethodHandle" ∧ yX5_ageIn.cls ≠ "java/lang/invoke/VarHandle" ∧ (parseMethodDescriptor yX5_ageIn.desc).map (fun d => d.parameters.length) = some 1 := by decide +kernel
abbrev rm_X5_ageIn : Room := { frames := 0, cells := 0, slots := 0, locals := 0 }
set_option maxHeartbeats 4000000 in
set_option maxRecDepth 100000 in
theorem c_X5_ageIn (l : Launch) (G : GG) (h : Nat → Nat) (ka : Int32) (kb : Int32) (kc : Int32) (kd : Int32) (ke : Int32) (v : S7) (t : Int32) (m : Int32) : CI l G yX5_ageIn wsX5_ageIn rm_X5_ageIn [.ref (h 18), .int m] [cM h (ka, kb, kc, kd, ke) v t] (F_X5_ageIn ka m) [cM h (ka, kb, kc, kd, ke) v t] := by
  refine CI_of (own := RX5) (by decide +kernel) rfl rfl (Nat.le_of_ble_eq_true rfl) ?_
  intro pP eE sS mM args below meth cC A S hK hr hlk hmn hW ls hl
  have hx := S.1
  have hb := S.2.1
  have hl : lv_has ls 2 [(0, .ref (h 18)), (1, .int m)] := hl
  have hW : Wd G A sS.heap [cM h (ka, kb, kc, kd, ke) v t] sS.heap [] := hW
  refine lv_aload_n hx hb dX5_ageIn_0 rfl (lv_at hl 0 rfl) ?_
  refine k_get (C := RX5) (T := TX5) (N := 18) (ci := 5) (v := .int ka) S hK hW k_X5_ageIn_in5 0 0 rfl rfl (by decide) k_X5_ageIn_f26 rfl dX5_ageIn_1 ?_
  refine lv_iload_n hx hb dX5_ageIn_4 rfl (lv_at hl 1 rfl) ?_
  refine lv_bipush (v := 12) hx hb dX5_ageIn_5 (by decide) ?_
  refine lv_idiv hx hb dX5_ageIn_7 (by decide) ?_
  refine lv_iadd hx hb dX5_ageIn_8 ?_
  have eF : (F_X5_ageIn ka m) = (ka + (m / 12)) := by
    rfl
  exact k_iret (wf := [cM h (ka, kb, kc, kd, ke) v t]) S hr hlk hK hW [0] rfl rfl rfl (congrArg (fun (z : Int32) => z) eF).symm dX5_ageIn_9
def F_X5_deathSumIn (ka : Int32) (kb : Int32) (kc : Int32) (v : S7) (m : Int32) : Int64 :=
  if kc = 0 then (if 0 ≤ (lg_cmp kb.toInt64 ((v.2.1.toInt64 * (F_X5_corridorAt (F_X5_ageIn ka m)).toInt64) / 100)) then kb.toInt64
    else ((v.2.1.toInt64 * (F_X5_corridorAt (F_X5_ageIn ka m)).toInt64) / 100))
  else (if 0 ≤ (lg_cmp (kb.toInt64 + v.2.1.toInt64) ((v.2.1.toInt64 * (F_X5_corridorAt (F_X5_ageIn ka m)).toInt64) / 100)) then (kb.toInt64 + v.2.1.toInt64)
    else ((v.2.1.toInt64 * (F_X5_corridorAt (F_X5_ageIn ka m)).toInt64) / 100))
set_option maxRecDepth 100000 in
theorem k_X5_deathSumIn_f37 : Cond.fieldLink RX5 37 "FlexiblePolicyModel" "kind" "I" ∈ wsX5_deathSumIn := by decide +kernel
set_option maxRecDepth 100000 in
theorem k_X5_deathSumIn_in5 : ∀ w ∈ u_ws RX5 TX5 18, w ∈ wsX5_deathSumIn := by decide +kernel
set_option maxRecDepth 100000 in
theorem k_X5_deathSumIn_f31 : Cond.fieldLink RX5 31 "FlexiblePolicyModel" "sum" "I" ∈ wsX5_deathSumIn := by decide +kernel
set_option maxRecDepth 100000 in
theorem k_X5_deathSumIn_f40 : Cond.fieldLink RX5 40 "FlexiblePolicyModel" "account" "I" ∈ wsX5_deathSumIn := by decide +kernel
set_option maxRecDepth 100000 in
theorem k_X5_deathSumIn_c50 : Cond.constantLong RX5 50 (100) ∈ wsX5_deathSumIn := by decide +kernel
theorem nd_X5_deathSumIn : yX5_deathSumIn.cls = RX5 ∧ yX5_deathSumIn.cls ≠ "java/lang/invoke/MethodHandle" ∧ yX5_deathSumIn.cls ≠ "java/lang/invoke/VarHandle" ∧ (parseMethodDescriptor yX5_deathSumIn.desc).map (fun d => d.parameters.length) = some 1 := by decide +kernel
abbrev rm_X5_deathSumIn : Room := { frames := 1, cells := 0, slots := 0, locals := 21 }
set_option maxHeartbeats 4000000 in
set_option maxRecDepth 100000 in
theorem c_X5_deathSumIn (l : Launch) (G : GG) (h : Nat → Nat) (ka : Int32) (kb : Int32) (kc : Int32) (kd : Int32) (ke : Int32) (v : S7) (t : Int32) (m : Int32) : CL l G yX5_deathSumIn wsX5_deathSumIn rm_X5_deathSumIn [.ref (h 18), .int m] [cM h (ka, kb, kc, kd, ke) v t] (F_X5_deathSumIn ka kb kc v m) [cM h (ka, kb, kc, kd, ke) v t] := by
  refine CL_of (own := RX5) (by decide +kernel) rfl rfl (Nat.le_of_ble_eq_true rfl) ?_
  intro pP eE sS mM args below meth cC A S hK hr hlk hmn hW ls hl
  have hx := S.1
  have hb := S.2.1
  have hl : lv_has ls 6 [(0, .ref (h 18)), (1, .int m)] := hl
  have hW : Wd G A sS.heap [cM h (ka, kb, kc, kd, ke) v t] sS.heap [] := hW
  refine lv_aload_n hx hb dX5_deathSumIn_0 rfl (lv_at hl 0 rfl) ?_
  refine k_get (C := RX5) (T := TX5) (N := 18) (ci := 5) (v := .int kc) S hK hW k_X5_deathSumIn_in5 0 2 rfl rfl (by decide) k_X5_deathSumIn_f37 rfl dX5_deathSumIn_1 ?_
  refine lv_if_ne (tgt := 15) hx hb dX5_deathSumIn_4 (by decide) (fun c_1 => ?_) (fun c_1 => ?_)
  ·
    refine lv_aload_n hx hb dX5_deathSumIn_15 rfl (lv_at hl 0 rfl) ?_
    refine k_get (C := RX5) (T := TX5) (N := 18) (ci := 5) (v := .int kb) S hK hW k_X5_deathSumIn_in5 0 1 rfl rfl (by decide) k_X5_deathSumIn_f31 rfl dX5_deathSumIn_16 ?_
    refine lv_i2l hx hb dX5_deathSumIn_19 rfl ?_
    refine lv_aload_n hx hb dX5_deathSumIn_20 rfl (lv_at hl 0 rfl) ?_
    refine k_get (C := RX5) (T := TX5) (N := 18) (ci := 5) (v := .int v.2.1) S hK hW k_X5_deathSumIn_in5 0 11 rfl rfl (by decide) k_X5_deathSumIn_f40 rfl dX5_deathSumIn_21 ?_
    refine lv_i2l hx hb dX5_deathSumIn_24 rfl ?_
    refine lv_ladd hx hb dX5_deathSumIn_25 ?_
    refine lv_lstore_n (lv' := [(2, .long (kb.toInt64 + v.2.1.toInt64)), (0, .ref (h 18)), (1, .int m)]) hx hb dX5_deathSumIn_26 rfl hl (by decide) rfl (fun ls hl => ?_)
    refine lv_aload_n hx hb dX5_deathSumIn_27 rfl (lv_at hl 1 rfl) ?_
    refine k_get (C := RX5) (T := TX5) (N := 18) (ci := 5) (v := .int v.2.1) S hK hW k_X5_deathSumIn_in5 0 11 rfl rfl (by decide) k_X5_deathSumIn_f40 rfl dX5_deathSumIn_28 ?_
    refine lv_i2l hx hb dX5_deathSumIn_31 rfl ?_
    refine lv_aload_n hx hb dX5_deathSumIn_32 rfl (lv_at hl 1 rfl) ?_
    refine lv_iload_n hx hb dX5_deathSumIn_33 rfl (lv_at hl 2 rfl) ?_
    refine k_callVi (C := RX5) (As := [.int m]) (rest := [.long v.2.1.toInt64]) (wr := []) (c_X5_ageIn l G h ka kb kc kd ke v t m) S hK hW gX5_deathSumIn_X5_ageIn rfl ⟨rfl, rfl⟩ nd_X5_ageIn ⟨rfl, rfl⟩ (qb := 0) (ci := 5) rfl rfl [0] [] rfl rfl rfl rfl (by decide) rfl hl.1 rfl dX5_deathSumIn_34 ⟨Nat.zero_le _, Nat.zero_le _⟩ (fun H locs hW => ?_)
    have hW : Wd G A sS.heap [cM h (ka, kb, kc, kd, ke) v t] H locs := hW
    refine k_callSi (As := [.int (F_X5_ageIn ka m)]) (rest := [.long v.2.1.toInt64]) (wr := [cM h (ka, kb, kc, kd, ke) v t]) (c_X5_corridorAt l G (F_X5_ageIn ka m)) S hK hW gX5_deathSumIn_X5_corridorAt rfl ⟨rfl, rfl⟩ nd_X5_corridorAt ⟨rfl, rfl⟩ [] [0] rfl rfl rfl rfl (by decide) rfl hl.1 rfl dX5_deathSumIn_37 ⟨Nat.zero_le _, Nat.zero_le _⟩ (fun H locs hW => ?_)
    have hW : Wd G A sS.heap [cM h (ka, kb, kc, kd, ke) v t] H locs := hW
    refine lv_i2l hx hb dX5_deathSumIn_40 rfl ?_
    refine lv_lmul hx hb dX5_deathSumIn_41 ?_
    refine k_ldc2 S k_X5_deathSumIn_c50 dX5_deathSumIn_42 ?_
    refine lv_ldiv hx hb dX5_deathSumIn_45 (by decide) ?_
    refine lv_lstore (lv' := [(4, .long ((v.2.1.toInt64 * (F_X5_corridorAt (F_X5_ageIn ka m)).toInt64) / 100)), (2, .long (kb.toInt64 + v.2.1.toInt64)), (0, .ref (h 18)), (1, .int m)]) hx hb dX5_deathSumIn_46 hl (by decide) rfl (fun ls hl => ?_)
    refine lv_lload_n hx hb dX5_deathSumIn_48 rfl (lv_at hl 1 rfl) ?_
    refine lv_lload hx hb dX5_deathSumIn_49 (lv_at hl 0 rfl) ?_
    refine W.lcmp hx hb dX5_deathSumIn_51 ?_
    refine lv_if_ge (tgt := 60) hx hb dX5_deathSumIn_52 (by decide) (fun c_2 => ?_) (fun c_2 => ?_)
    ·
      refine lv_lload_n hx hb dX5_deathSumIn_60 rfl (lv_at hl 1 rfl) ?_
      have eF : (F_X5_deathSumIn ka kb kc v m) = (kb.toInt64 + v.2.1.toInt64) := by
        unfold F_X5_deathSumIn
        rw [if_neg c_1, if_pos c_2]
      exact k_lret (wf := [cM h (ka, kb, kc, kd, ke) v t]) S hr hlk hK hW [0] rfl rfl rfl (congrArg (fun (z : Int64) => z) eF).symm dX5_deathSumIn_61
    ·
      refine lv_lload hx hb dX5_deathSumIn_55 (lv_at hl 0 rfl) ?_
      refine lv_goto (tgt := 61) hx hb dX5_deathSumIn_57 (by decide) ?_
      have eF : (F_X5_deathSumIn ka kb kc v m) = ((v.2.1.toInt64 * (F_X5_corridorAt (F_X5_ageIn ka m)).toInt64) / 100) := by
        unfold F_X5_deathSumIn
        rw [if_neg c_1, if_neg c_2]
      exact k_lret (wf := [cM h (ka, kb, kc, kd, ke) v t]) S hr hlk hK hW [0] rfl rfl rfl (congrArg (fun (z : Int64) => z) eF).symm dX5_deathSumIn_61
  ·
    refine lv_aload_n hx hb dX5_deathSumIn_7 rfl (lv_at hl 0 rfl) ?_
    refine k_get (C := RX5) (T := TX5) (N := 18) (ci := 5) (v := .int kb) S hK hW k_X5_deathSumIn_in5 0 1 rfl rfl (by decide) k_X5_deathSumIn_f31 rfl dX5_deathSumIn_8 ?_
    refine lv_i2l hx hb dX5_deathSumIn_11 rfl ?_
    refine lv_goto (tgt := 26) hx hb dX5_deathSumIn_12 (by decide) ?_
    refine lv_lstore_n (lv' := [(2, .long kb.toInt64), (0, .ref (h 18)), (1, .int m)]) hx hb dX5_deathSumIn_26 rfl hl (by decide) rfl (fun ls hl => ?_)
    refine lv_aload_n hx hb dX5_deathSumIn_27 rfl (lv_at hl 1 rfl) ?_
    refine k_get (C := RX5) (T := TX5) (N := 18) (ci := 5) (v := .int v.2.1) S hK hW k_X5_deathSumIn_in5 0 11 rfl rfl (by decide) k_X5_deathSumIn_f40 rfl dX5_deathSumIn_28 ?_
    refine lv_i2l hx hb dX5_deathSumIn_31 rfl ?_
    refine lv_aload_n hx hb dX5_deathSumIn_32 rfl (lv_at hl 1 rfl) ?_
    refine lv_iload_n hx hb dX5_deathSumIn_33 rfl (lv_at hl 2 rfl) ?_
    refine k_callVi (C := RX5) (As := [.int m]) (rest := [.long v.2.1.toInt64]) (wr := []) (c_X5_ageIn l G h ka kb kc kd ke v t m) S hK hW gX5_deathSumIn_X5_ageIn rfl ⟨rfl, rfl⟩ nd_X5_ageIn ⟨rfl, rfl⟩ (qb := 0) (ci := 5) rfl rfl [0] [] rfl rfl rfl rfl (by decide) rfl hl.1 rfl dX5_deathSumIn_34 ⟨Nat.zero_le _, Nat.zero_le _⟩ (fun H locs hW => ?_)
    have hW : Wd G A sS.heap [cM h (ka, kb, kc, kd, ke) v t] H locs := hW
    refine k_callSi (As := [.int (F_X5_ageIn ka m)]) (rest := [.long v.2.1.toInt64]) (wr := [cM h (ka, kb, kc, kd, ke) v t]) (c_X5_corridorAt l G (F_X5_ageIn ka m)) S hK hW gX5_deathSumIn_X5_corridorAt rfl ⟨rfl, rfl⟩ nd_X5_corridorAt ⟨rfl, rfl⟩ [] [0] rfl rfl rfl rfl (by decide) rfl hl.1 rfl dX5_deathSumIn_37 ⟨Nat.zero_le _, Nat.zero_le _⟩ (fun H locs hW => ?_)
    have hW : Wd G A sS.heap [cM h (ka, kb, kc, kd, ke) v t] H locs := hW
    refine lv_i2l hx hb dX5_deathSumIn_40 rfl ?_
    refine lv_lmul hx hb dX5_deathSumIn_41 ?_
    refine k_ldc2 S k_X5_deathSumIn_c50 dX5_deathSumIn_42 ?_
    refine lv_ldiv hx hb dX5_deathSumIn_45 (by decide) ?_
    refine lv_lstore (lv' := [(4, .long ((v.2.1.toInt64 * (F_X5_corridorAt (F_X5_ageIn ka m)).toInt64) / 100)), (2, .long kb.toInt64), (0, .ref (h 18)), (1, .int m)]) hx hb dX5_deathSumIn_46 hl (by decide) rfl (fun ls hl => ?_)
    refine lv_lload_n hx hb dX5_deathSumIn_48 rfl (lv_at hl 1 rfl) ?_
    refine lv_lload hx hb dX5_deathSumIn_49 (lv_at hl 0 rfl) ?_
    refine W.lcmp hx hb dX5_deathSumIn_51 ?_
    refine lv_if_ge (tgt := 60) hx hb dX5_deathSumIn_52 (by decide) (fun c_3 => ?_) (fun c_3 => ?_)
    ·
      refine lv_lload_n hx hb dX5_deathSumIn_60 rfl (lv_at hl 1 rfl) ?_
      have eF : (F_X5_deathSumIn ka kb kc v m) = kb.toInt64 := by
        unfold F_X5_deathSumIn
        rw [if_pos c_1, if_pos c_3]
      exact k_lret (wf := [cM h (ka, kb, kc, kd, ke) v t]) S hr hlk hK hW [0] rfl rfl rfl (congrArg (fun (z : Int64) => z) eF).symm dX5_deathSumIn_61
    ·
      refine lv_lload hx hb dX5_deathSumIn_55 (lv_at hl 0 rfl) ?_
      refine lv_goto (tgt := 61) hx hb dX5_deathSumIn_57 (by decide) ?_
      have eF : (F_X5_deathSumIn ka kb kc v m) = ((v.2.1.toInt64 * (F_X5_corridorAt (F_X5_ageIn ka m)).toInt64) / 100) := by
        unfold F_X5_deathSumIn
        rw [if_pos c_1, if_neg c_3]
      exact k_lret (wf := [cM h (ka, kb, kc, kd, ke) v t]) S hr hlk hK hW [0] rfl rfl rfl (congrArg (fun (z : Int64) => z) eF).symm dX5_deathSumIn_61
def F_X5_freePart (v : S7) : Int32 :=
  if v.2.1 ≤ v.2.2.1 then 0
  else (v.2.1 - v.2.2.1)
set_option maxRecDepth 100000 in
theorem k_X5_freePart_f40 : Cond.fieldLink RX5 40 "FlexiblePolicyModel" "account" "I" ∈ wsX5_freePart := by decide +kernel
set_option maxRecDepth 100000 in
theorem k_X5_freePart_in5 : ∀ w ∈ u_ws RX5 TX5 18, w ∈ wsX5_freePart := by decide +kernel
set_option maxRecDepth 100000 in
theorem k_X5_freePart_f52 : Cond.fieldLink RX5 52 "FlexiblePolicyModel" "loan" "I" ∈ wsX5_freePart := by decide +kernel
theorem nd_X5_freePart : yX5_freePart.cls = RX5 ∧ yX5_freePart.cls ≠ "java/lang/invoke/MethodHandle" ∧ yX5_freePart.cls ≠ "java/lang/invoke/VarHandle" ∧ (parseMethodDescriptor yX5_freePart.desc).map (fun d => d.parameters.length) = some 0 := by decide +kernel
abbrev rm_X5_freePart : Room := { frames := 0, cells := 0, slots := 0, locals := 0 }
set_option maxHeartbeats 4000000 in
set_option maxRecDepth 100000 in
theorem c_X5_freePart (l : Launch) (G : GG) (h : Nat → Nat) (ka : Int32) (kb : Int32) (kc : Int32) (kd : Int32) (ke : Int32) (v : S7) (t : Int32) : CI l G yX5_freePart wsX5_freePart rm_X5_freePart [.ref (h 18)] [cM h (ka, kb, kc, kd, ke) v t] (F_X5_freePart v) [cM h (ka, kb, kc, kd, ke) v t] := by
  refine CI_of (own := RX5) (by decide +kernel) rfl rfl (Nat.le_of_ble_eq_true rfl) ?_
  intro pP eE sS mM args below meth cC A S hK hr hlk hmn hW ls hl
  have hx := S.1
  have hb := S.2.1
  have hl : lv_has ls 1 [(0, .ref (h 18))] := hl
  have hW : Wd G A sS.heap [cM h (ka, kb, kc, kd, ke) v t] sS.heap [] := hW
  refine lv_aload_n hx hb dX5_freePart_0 rfl (lv_at hl 0 rfl) ?_
  refine k_get (C := RX5) (T := TX5) (N := 18) (ci := 5) (v := .int v.2.1) S hK hW k_X5_freePart_in5 0 11 rfl rfl (by decide) k_X5_freePart_f40 rfl dX5_freePart_1 ?_
  refine lv_aload_n hx hb dX5_freePart_4 rfl (lv_at hl 0 rfl) ?_
  refine k_get (C := RX5) (T := TX5) (N := 18) (ci := 5) (v := .int v.2.2.1) S hK hW k_X5_freePart_in5 0 12 rfl rfl (by decide) k_X5_freePart_f52 rfl dX5_freePart_5 ?_
  refine lv_icmp_le (tgt := 23) hx hb dX5_freePart_8 (by decide) (fun c_1 => ?_) (fun c_1 => ?_)
  ·
    refine lv_iconst (v := 0) hx hb dX5_freePart_23 (by decide) ?_
    have eF : (F_X5_freePart v) = 0 := by
      unfold F_X5_freePart
      rw [if_pos c_1]
    exact k_iret (wf := [cM h (ka, kb, kc, kd, ke) v t]) S hr hlk hK hW [0] rfl rfl rfl (congrArg (fun (z : Int32) => z) eF).symm dX5_freePart_24
  ·
    refine lv_aload_n hx hb dX5_freePart_11 rfl (lv_at hl 0 rfl) ?_
    refine k_get (C := RX5) (T := TX5) (N := 18) (ci := 5) (v := .int v.2.1) S hK hW k_X5_freePart_in5 0 11 rfl rfl (by decide) k_X5_freePart_f40 rfl dX5_freePart_12 ?_
    refine lv_aload_n hx hb dX5_freePart_15 rfl (lv_at hl 0 rfl) ?_
    refine k_get (C := RX5) (T := TX5) (N := 18) (ci := 5) (v := .int v.2.2.1) S hK hW k_X5_freePart_in5 0 12 rfl rfl (by decide) k_X5_freePart_f52 rfl dX5_freePart_16 ?_
    refine lv_isub hx hb dX5_freePart_19 ?_
    refine lv_goto (tgt := 24) hx hb dX5_freePart_20 (by decide) ?_
    have eF : (F_X5_freePart v) = (v.2.1 - v.2.2.1) := by
      unfold F_X5_freePart
      rw [if_neg c_1]
    exact k_iret (wf := [cM h (ka, kb, kc, kd, ke) v t]) S hr hlk hK hW [0] rfl rfl rfl (congrArg (fun (z : Int32) => z) eF).symm dX5_freePart_24
def F_X5_chargeIn (ka : Int32) (kb : Int32) (kc : Int32) (v : S7) (m : Int32) : Int32 :=
  if 30 < (F_X5_ageIn ka m) then (if 0 ≤ (lg_cmp ((F_X5_deathSumIn ka kb kc v m) - v.2.1.toInt64) 0) then (500 + ((((F_X5_deathSumIn ka kb kc v m) - v.2.1.toInt64) * (10 + (2 * ((F_X5_ageIn ka m) - 30))).toInt64) / 100000).toInt32)
    else (500 + ((0 * (10 + (2 * ((F_X5_ageIn ka m) - 30))).toInt64) / 100000).toInt32))
  else (if 0 ≤ (lg_cmp ((F_X5_deathSumIn ka kb kc v m) - v.2.1.toInt64) 0) then (500 + ((((F_X5_deathSumIn ka kb kc v m) - v.2.1.toInt64) * (10 : Int32).toInt64) / 100000).toInt32)
    else (500 + ((0 * (10 : Int32).toInt64) / 100000).toInt32))
set_option maxRecDepth 100000 in
theorem k_X5_chargeIn_f40 : Cond.fieldLink RX5 40 "FlexiblePolicyModel" "account" "I" ∈ wsX5_chargeIn := by decide +kernel
set_option maxRecDepth 100000 in
theorem k_X5_chargeIn_in5 : ∀ w ∈ u_ws RX5 TX5 18, w ∈ wsX5_chargeIn := by decide +kernel
set_option maxRecDepth 100000 in
theorem k_X5_chargeIn_c59 : Cond.constantLong RX5 59 (100000) ∈ wsX5_chargeIn := by decide +kernel
theorem nd_X5_chargeIn : yX5_chargeIn.cls = RX5 ∧ yX5_chargeIn.cls ≠ "java/lang/invoke/MethodHandle" ∧ yX5_chargeIn.cls ≠ "java/lang/invoke/VarHandle" ∧ (parseMethodDescriptor yX5_chargeIn.desc).map (fun d => d.parameters.length) = some 1 := by decide +kernel
abbrev rm_X5_chargeIn : Room := { frames := 2, cells := 0, slots := 0, locals := 46 }
set_option maxHeartbeats 4000000 in
set_option maxRecDepth 100000 in
theorem c_X5_chargeIn (l : Launch) (G : GG) (h : Nat → Nat) (ka : Int32) (kb : Int32) (kc : Int32) (kd : Int32) (ke : Int32) (v : S7) (t : Int32) (m : Int32) : CI l G yX5_chargeIn wsX5_chargeIn rm_X5_chargeIn [.ref (h 18), .int m] [cM h (ka, kb, kc, kd, ke) v t] (F_X5_chargeIn ka kb kc v m) [cM h (ka, kb, kc, kd, ke) v t] := by
  refine CI_of (own := RX5) (by decide +kernel) rfl rfl (Nat.le_of_ble_eq_true rfl) ?_
  intro pP eE sS mM args below meth cC A S hK hr hlk hmn hW ls hl
  have hx := S.1
  have hb := S.2.1
  have hl : lv_has ls 6 [(0, .ref (h 18)), (1, .int m)] := hl
  have hW : Wd G A sS.heap [cM h (ka, kb, kc, kd, ke) v t] sS.heap [] := hW
  refine lv_aload_n hx hb dX5_chargeIn_0 rfl (lv_at hl 0 rfl) ?_
  refine lv_iload_n hx hb dX5_chargeIn_1 rfl (lv_at hl 1 rfl) ?_
  refine k_callVl (C := RX5) (As := [.int m]) (rest := []) (wr := []) (c_X5_deathSumIn l G h ka kb kc kd ke v t m) S hK hW gX5_chargeIn_X5_deathSumIn rfl ⟨rfl, rfl⟩ nd_X5_deathSumIn ⟨rfl, rfl⟩ (qb := 0) (ci := 5) rfl rfl [0] [] rfl rfl rfl rfl (by decide) rfl hl.1 rfl dX5_chargeIn_2 ⟨Nat.zero_le _, Nat.zero_le _⟩ (fun H locs hW => ?_)
  have hW : Wd G A sS.heap [cM h (ka, kb, kc, kd, ke) v t] H locs := hW
  refine lv_aload_n hx hb dX5_chargeIn_5 rfl (lv_at hl 0 rfl) ?_
  refine k_get (C := RX5) (T := TX5) (N := 18) (ci := 5) (v := .int v.2.1) S hK hW k_X5_chargeIn_in5 0 11 rfl rfl (by decide) k_X5_chargeIn_f40 rfl dX5_chargeIn_6 ?_
  refine lv_i2l hx hb dX5_chargeIn_9 rfl ?_
  refine lv_lsub hx hb dX5_chargeIn_10 ?_
  refine lv_lstore_n (lv' := [(2, .long ((F_X5_deathSumIn ka kb kc v m) - v.2.1.toInt64)), (0, .ref (h 18)), (1, .int m)]) hx hb dX5_chargeIn_11 rfl hl (by decide) rfl (fun ls hl => ?_)
  refine lv_aload_n hx hb dX5_chargeIn_12 rfl (lv_at hl 1 rfl) ?_
  refine lv_iload_n hx hb dX5_chargeIn_13 rfl (lv_at hl 2 rfl) ?_
  refine k_callVi (C := RX5) (As := [.int m]) (rest := []) (wr := []) (c_X5_ageIn l G h ka kb kc kd ke v t m) S hK hW gX5_chargeIn_X5_ageIn rfl ⟨rfl, rfl⟩ nd_X5_ageIn ⟨rfl, rfl⟩ (qb := 0) (ci := 5) rfl rfl [0] [] rfl rfl rfl rfl (by decide) rfl hl.1 rfl dX5_chargeIn_14 ⟨Nat.zero_le _, Nat.zero_le _⟩ (fun H locs hW => ?_)
  have hW : Wd G A sS.heap [cM h (ka, kb, kc, kd, ke) v t] H locs := hW
  refine lv_istore (lv' := [(4, .int (F_X5_ageIn ka m)), (2, .long ((F_X5_deathSumIn ka kb kc v m) - v.2.1.toInt64)), (0, .ref (h 18)), (1, .int m)]) hx hb dX5_chargeIn_17 hl (by decide) rfl (fun ls hl => ?_)
  refine lv_iload hx hb dX5_chargeIn_19 (lv_at hl 0 rfl) ?_
  refine lv_bipush (v := 30) hx hb dX5_chargeIn_21 (by decide) ?_
  refine lv_icmp_gt (tgt := 31) hx hb dX5_chargeIn_23 (by decide) (fun c_1 => ?_) (fun c_1 => ?_)
  ·
    refine lv_bipush (v := 10) hx hb dX5_chargeIn_31 (by decide) ?_
    refine lv_iconst (v := 2) hx hb dX5_chargeIn_33 (by decide) ?_
    refine lv_iload hx hb dX5_chargeIn_34 (lv_at hl 0 rfl) ?_
    refine lv_bipush (v := 30) hx hb dX5_chargeIn_36 (by decide) ?_
    refine lv_isub hx hb dX5_chargeIn_38 ?_
    refine lv_imul hx hb dX5_chargeIn_39 ?_
    refine lv_iadd hx hb dX5_chargeIn_40 ?_
    refine lv_istore (lv' := [(5, .int (10 + (2 * ((F_X5_ageIn ka m) - 30)))), (4, .int (F_X5_ageIn ka m)), (2, .long ((F_X5_deathSumIn ka kb kc v m) - v.2.1.toInt64)), (0, .ref (h 18)), (1, .int m)]) hx hb dX5_chargeIn_41 hl (by decide) rfl (fun ls hl => ?_)
    refine lv_sipush (v := 500) hx hb dX5_chargeIn_43 (by decide) ?_
    refine lv_lload_n hx hb dX5_chargeIn_46 rfl (lv_at hl 2 rfl) ?_
    refine lv_lconst (v := 0) hx hb dX5_chargeIn_47 rfl ?_
    refine W.lcmp hx hb dX5_chargeIn_48 ?_
    refine lv_if_ge (tgt := 56) hx hb dX5_chargeIn_49 (by decide) (fun c_2 => ?_) (fun c_2 => ?_)
    ·
      refine lv_lload_n hx hb dX5_chargeIn_56 rfl (lv_at hl 2 rfl) ?_
      refine lv_iload hx hb dX5_chargeIn_57 (lv_at hl 0 rfl) ?_
      refine lv_i2l hx hb dX5_chargeIn_59 rfl ?_
      refine lv_lmul hx hb dX5_chargeIn_60 ?_
      refine k_ldc2 S k_X5_chargeIn_c59 dX5_chargeIn_61 ?_
      refine lv_ldiv hx hb dX5_chargeIn_64 (by decide) ?_
      refine lv_l2i hx hb dX5_chargeIn_65 rfl ?_
      refine lv_iadd hx hb dX5_chargeIn_66 ?_
      have eF : (F_X5_chargeIn ka kb kc v m) = (500 + ((((F_X5_deathSumIn ka kb kc v m) - v.2.1.toInt64) * (10 + (2 * ((F_X5_ageIn ka m) - 30))).toInt64) / 100000).toInt32) := by
        unfold F_X5_chargeIn
        rw [if_pos c_1, if_pos c_2]
      exact k_iret (wf := [cM h (ka, kb, kc, kd, ke) v t]) S hr hlk hK hW [0] rfl rfl rfl (congrArg (fun (z : Int32) => z) eF).symm dX5_chargeIn_67
    ·
      refine lv_lconst (v := 0) hx hb dX5_chargeIn_52 rfl ?_
      refine lv_goto (tgt := 57) hx hb dX5_chargeIn_53 (by decide) ?_
      refine lv_iload hx hb dX5_chargeIn_57 (lv_at hl 0 rfl) ?_
      refine lv_i2l hx hb dX5_chargeIn_59 rfl ?_
      refine lv_lmul hx hb dX5_chargeIn_60 ?_
      refine k_ldc2 S k_X5_chargeIn_c59 dX5_chargeIn_61 ?_
      refine lv_ldiv hx hb dX5_chargeIn_64 (by decide) ?_
      refine lv_l2i hx hb dX5_chargeIn_65 rfl ?_
      refine lv_iadd hx hb dX5_chargeIn_66 ?_
      have eF : (F_X5_chargeIn ka kb kc v m) = (500 + ((0 * (10 + (2 * ((F_X5_ageIn ka m) - 30))).toInt64) / 100000).toInt32) := by
        unfold F_X5_chargeIn
        rw [if_pos c_1, if_neg c_2]
      exact k_iret (wf := [cM h (ka, kb, kc, kd, ke) v t]) S hr hlk hK hW [0] rfl rfl rfl (congrArg (fun (z : Int32) => z) eF).symm dX5_chargeIn_67
  ·
    refine lv_bipush (v := 10) hx hb dX5_chargeIn_26 (by decide) ?_
    refine lv_goto (tgt := 41) hx hb dX5_chargeIn_28 (by decide) ?_
    refine lv_istore (lv' := [(5, .int 10), (4, .int (F_X5_ageIn ka m)), (2, .long ((F_X5_deathSumIn ka kb kc v m) - v.2.1.toInt64)), (0, .ref (h 18)), (1, .int m)]) hx hb dX5_chargeIn_41 hl (by decide) rfl (fun ls hl => ?_)
    refine lv_sipush (v := 500) hx hb dX5_chargeIn_43 (by decide) ?_
    refine lv_lload_n hx hb dX5_chargeIn_46 rfl (lv_at hl 2 rfl) ?_
    refine lv_lconst (v := 0) hx hb dX5_chargeIn_47 rfl ?_
    refine W.lcmp hx hb dX5_chargeIn_48 ?_
    refine lv_if_ge (tgt := 56) hx hb dX5_chargeIn_49 (by decide) (fun c_3 => ?_) (fun c_3 => ?_)
    ·
      refine lv_lload_n hx hb dX5_chargeIn_56 rfl (lv_at hl 2 rfl) ?_
      refine lv_iload hx hb dX5_chargeIn_57 (lv_at hl 0 rfl) ?_
      refine lv_i2l hx hb dX5_chargeIn_59 rfl ?_
      refine lv_lmul hx hb dX5_chargeIn_60 ?_
      refine k_ldc2 S k_X5_chargeIn_c59 dX5_chargeIn_61 ?_
      refine lv_ldiv hx hb dX5_chargeIn_64 (by decide) ?_
      refine lv_l2i hx hb dX5_chargeIn_65 rfl ?_
      refine lv_iadd hx hb dX5_chargeIn_66 ?_
      have eF : (F_X5_chargeIn ka kb kc v m) = (500 + ((((F_X5_deathSumIn ka kb kc v m) - v.2.1.toInt64) * (10 : Int32).toInt64) / 100000).toInt32) := by
        unfold F_X5_chargeIn
        rw [if_neg c_1, if_pos c_3]
      exact k_iret (wf := [cM h (ka, kb, kc, kd, ke) v t]) S hr hlk hK hW [0] rfl rfl rfl (congrArg (fun (z : Int32) => z) eF).symm dX5_chargeIn_67
    ·
      refine lv_lconst (v := 0) hx hb dX5_chargeIn_52 rfl ?_
      refine lv_goto (tgt := 57) hx hb dX5_chargeIn_53 (by decide) ?_
      refine lv_iload hx hb dX5_chargeIn_57 (lv_at hl 0 rfl) ?_
      refine lv_i2l hx hb dX5_chargeIn_59 rfl ?_
      refine lv_lmul hx hb dX5_chargeIn_60 ?_
      refine k_ldc2 S k_X5_chargeIn_c59 dX5_chargeIn_61 ?_
      refine lv_ldiv hx hb dX5_chargeIn_64 (by decide) ?_
      refine lv_l2i hx hb dX5_chargeIn_65 rfl ?_
      refine lv_iadd hx hb dX5_chargeIn_66 ?_
      have eF : (F_X5_chargeIn ka kb kc v m) = (500 + ((0 * (10 : Int32).toInt64) / 100000).toInt32) := by
        unfold F_X5_chargeIn
        rw [if_neg c_1, if_neg c_3]
      exact k_iret (wf := [cM h (ka, kb, kc, kd, ke) v t]) S hr hlk hK hW [0] rfl rfl rfl (congrArg (fun (z : Int32) => z) eF).symm dX5_chargeIn_67
def F_X5_start  : S7 :=
  (0, 0, 0, 0, 0, 0, (-1))
set_option maxRecDepth 100000 in
theorem k_X5_start_f61 : Cond.fieldLink RX5 61 "FlexiblePolicyModel" "state" "I" ∈ wsX5_start := by decide +kernel
set_option maxRecDepth 100000 in
theorem k_X5_start_in5 : ∀ w ∈ u_ws RX5 TX5 18, w ∈ wsX5_start := by decide +kernel
set_option maxRecDepth 100000 in
theorem k_X5_start_f40 : Cond.fieldLink RX5 40 "FlexiblePolicyModel" "account" "I" ∈ wsX5_start := by decide +kernel
set_option maxRecDepth 100000 in
theorem k_X5_start_f52 : Cond.fieldLink RX5 52 "FlexiblePolicyModel" "loan" "I" ∈ wsX5_start := by decide +kernel
set_option maxRecDepth 100000 in
theorem k_X5_start_f64 : Cond.fieldLink RX5 64 "FlexiblePolicyModel" "arrears" "I" ∈ wsX5_start := by decide +kernel
set_option maxRecDepth 100000 in
theorem k_X5_start_f67 : Cond.fieldLink RX5 67 "FlexiblePolicyModel" "graceMonths" "I" ∈ wsX5_start := by decide +kernel
set_option maxRecDepth 100000 in
theorem k_X5_start_f70 : Cond.fieldLink RX5 70 "FlexiblePolicyModel" "lapsedMonths" "I" ∈ wsX5_start := by decide +kernel
set_option maxRecDepth 100000 in
theorem k_X5_start_f73 : Cond.fieldLink RX5 73 "FlexiblePolicyModel" "paidSum" "I" ∈ wsX5_start := by decide +kernel
theorem nd_X5_start : yX5_start.cls = RX5 ∧ yX5_start.cls ≠ "java/lang/invoke/MethodHandle" ∧ yX5_start.cls ≠ "java/lang/invoke/VarHandle" ∧ (parseMethodDescriptor yX5_start.desc).map (fun d => d.parameters.length) = some 0 := by decide +kernel
abbrev rm_X5_start : Room := { frames := 0, cells := 0, slots := 0, locals := 0 }
set_option maxHeartbeats 4000000 in
set_option maxRecDepth 100000 in
theorem c_X5_start (l : Launch) (G : GG) (h : Nat → Nat) (ka : Int32) (kb : Int32) (kc : Int32) (kd : Int32) (ke : Int32) (v : S7) (t : Int32) : CV l G yX5_start wsX5_start rm_X5_start [.ref (h 18)] [cM h (ka, kb, kc, kd, ke) v t] [cM h (ka, kb, kc, kd, ke) F_X5_start t] := by
  refine CV_of (own := RX5) (by decide +kernel) rfl rfl (Nat.le_of_ble_eq_true rfl) ?_
  intro pP eE sS mM args below meth cC A S hK hr hlk hmn hW ls hl
  have hx := S.1
  have hb := S.2.1
  have hl : lv_has ls 1 [(0, .ref (h 18))] := hl
  have hW : Wd G A sS.heap [cM h (ka, kb, kc, kd, ke) v t] sS.heap [] := hW
  refine lv_aload_n hx hb dX5_start_0 rfl (lv_at hl 0 rfl) ?_
  refine lv_iconst (v := 0) hx hb dX5_start_1 (by decide) ?_
  refine k_put (C := RX5) (T := TX5) (N := 18) (ci := 5) (v := .int 0) (ws' := [cM h (ka, kb, kc, kd, ke) (0, v.2.1, v.2.2.1, v.2.2.2.1, v.2.2.2.2.1, v.2.2.2.2.2.1, v.2.2.2.2.2.2) t]) S hK hW k_X5_start_in5 tyX5_ok nmX5 0 10 rfl rfl (by decide) k_X5_start_f61 rfl rfl rfl rfl rfl dX5_start_2 (fun H locs hW => ?_)
  refine lv_aload_n hx hb dX5_start_5 rfl (lv_at hl 0 rfl) ?_
  refine lv_iconst (v := 0) hx hb dX5_start_6 (by decide) ?_
  refine k_put (C := RX5) (T := TX5) (N := 18) (ci := 5) (v := .int 0) (ws' := [cM h (ka, kb, kc, kd, ke) (0, 0, v.2.2.1, v.2.2.2.1, v.2.2.2.2.1, v.2.2.2.2.2.1, v.2.2.2.2.2.2) t]) S hK hW k_X5_start_in5 tyX5_ok nmX5 0 11 rfl rfl (by decide) k_X5_start_f40 rfl rfl rfl rfl rfl dX5_start_7 (fun H locs hW => ?_)
  refine lv_aload_n hx hb dX5_start_10 rfl (lv_at hl 0 rfl) ?_
  refine lv_iconst (v := 0) hx hb dX5_start_11 (by decide) ?_
  refine k_put (C := RX5) (T := TX5) (N := 18) (ci := 5) (v := .int 0) (ws' := [cM h (ka, kb, kc, kd, ke) (0, 0, 0, v.2.2.2.1, v.2.2.2.2.1, v.2.2.2.2.2.1, v.2.2.2.2.2.2) t]) S hK hW k_X5_start_in5 tyX5_ok nmX5 0 12 rfl rfl (by decide) k_X5_start_f52 rfl rfl rfl rfl rfl dX5_start_12 (fun H locs hW => ?_)
  refine lv_aload_n hx hb dX5_start_15 rfl (lv_at hl 0 rfl) ?_
  refine lv_iconst (v := 0) hx hb dX5_start_16 (by decide) ?_
  refine k_put (C := RX5) (T := TX5) (N := 18) (ci := 5) (v := .int 0) (ws' := [cM h (ka, kb, kc, kd, ke) (0, 0, 0, 0, v.2.2.2.2.1, v.2.2.2.2.2.1, v.2.2.2.2.2.2) t]) S hK hW k_X5_start_in5 tyX5_ok nmX5 0 13 rfl rfl (by decide) k_X5_start_f64 rfl rfl rfl rfl rfl dX5_start_17 (fun H locs hW => ?_)
  refine lv_aload_n hx hb dX5_start_20 rfl (lv_at hl 0 rfl) ?_
  refine lv_iconst (v := 0) hx hb dX5_start_21 (by decide) ?_
  refine k_put (C := RX5) (T := TX5) (N := 18) (ci := 5) (v := .int 0) (ws' := [cM h (ka, kb, kc, kd, ke) (0, 0, 0, 0, 0, v.2.2.2.2.2.1, v.2.2.2.2.2.2) t]) S hK hW k_X5_start_in5 tyX5_ok nmX5 0 14 rfl rfl (by decide) k_X5_start_f67 rfl rfl rfl rfl rfl dX5_start_22 (fun H locs hW => ?_)
  refine lv_aload_n hx hb dX5_start_25 rfl (lv_at hl 0 rfl) ?_
  refine lv_iconst (v := 0) hx hb dX5_start_26 (by decide) ?_
  refine k_put (C := RX5) (T := TX5) (N := 18) (ci := 5) (v := .int 0) (ws' := [cM h (ka, kb, kc, kd, ke) (0, 0, 0, 0, 0, 0, v.2.2.2.2.2.2) t]) S hK hW k_X5_start_in5 tyX5_ok nmX5 0 15 rfl rfl (by decide) k_X5_start_f70 rfl rfl rfl rfl rfl dX5_start_27 (fun H locs hW => ?_)
  refine lv_aload_n hx hb dX5_start_30 rfl (lv_at hl 0 rfl) ?_
  refine lv_iconst (v := (-1)) hx hb dX5_start_31 (by decide) ?_
  refine k_put (C := RX5) (T := TX5) (N := 18) (ci := 5) (v := .int (-1)) (ws' := [cM h (ka, kb, kc, kd, ke) (0, 0, 0, 0, 0, 0, (-1)) t]) S hK hW k_X5_start_in5 tyX5_ok nmX5 0 16 rfl rfl (by decide) k_X5_start_f73 rfl rfl rfl rfl rfl dX5_start_32 (fun H locs hW => ?_)
  have eF : F_X5_start = (0, 0, 0, 0, 0, 0, (-1)) := by
    rfl
  exact k_vret (wf := [cM h (ka, kb, kc, kd, ke) (0, 0, 0, 0, 0, 0, (-1)) t]) S hr hlk hK hW [0] rfl rfl (congrArg (fun (z : S7) => [cM h (ka, kb, kc, kd, ke) z t]) eF).symm dX5_start_35
def F_X5_premium (v : S7) (x : Int32) : Bool × S7 :=
  if v.1 ≤ 1 then (if v.2.2.2.1 ≤ x then (if (v.2.2.2.1 - v.2.2.2.1) = 0 then (true, (0, (v.2.1 + (x - v.2.2.2.1)), v.2.2.1, (v.2.2.2.1 - v.2.2.2.1), 0, v.2.2.2.2.2.1, v.2.2.2.2.2.2))
      else (true, (v.1, (v.2.1 + (x - v.2.2.2.1)), v.2.2.1, (v.2.2.2.1 - v.2.2.2.1), v.2.2.2.2.1, v.2.2.2.2.2.1, v.2.2.2.2.2.2)))
    else (if (v.2.2.2.1 - x) = 0 then (true, (0, (v.2.1 + (x - x)), v.2.2.1, (v.2.2.2.1 - x), 0, v.2.2.2.2.2.1, v.2.2.2.2.2.2))
      else (true, (v.1, (v.2.1 + (x - x)), v.2.2.1, (v.2.2.2.1 - x), v.2.2.2.2.1, v.2.2.2.2.2.1, v.2.2.2.2.2.2))))
  else (false, v)
set_option maxRecDepth 100000 in
theorem k_X5_premium_f61 : Cond.fieldLink RX5 61 "FlexiblePolicyModel" "state" "I" ∈ wsX5_premium := by decide +kernel
set_option maxRecDepth 100000 in
theorem k_X5_premium_in5 : ∀ w ∈ u_ws RX5 TX5 18, w ∈ wsX5_premium := by decide +kernel
set_option maxRecDepth 100000 in
theorem k_X5_premium_f64 : Cond.fieldLink RX5 64 "FlexiblePolicyModel" "arrears" "I" ∈ wsX5_premium := by decide +kernel
set_option maxRecDepth 100000 in
theorem k_X5_premium_f40 : Cond.fieldLink RX5 40 "FlexiblePolicyModel" "account" "I" ∈ wsX5_premium := by decide +kernel
set_option maxRecDepth 100000 in
theorem k_X5_premium_f67 : Cond.fieldLink RX5 67 "FlexiblePolicyModel" "graceMonths" "I" ∈ wsX5_premium := by decide +kernel
theorem nd_X5_premium : yX5_premium.cls = RX5 ∧ yX5_premium.cls ≠ "java/lang/invoke/MethodHandle" ∧ yX5_premium.cls ≠ "java/lang/invoke/VarHandle" ∧ (parseMethodDescriptor yX5_premium.desc).map (fun d => d.parameters.length) = some 1 := by decide +kernel
abbrev rm_X5_premium : Room := { frames := 0, cells := 0, slots := 0, locals := 0 }
set_option maxHeartbeats 4000000 in
set_option maxRecDepth 100000 in
theorem c_X5_premium (l : Launch) (G : GG) (h : Nat → Nat) (ka : Int32) (kb : Int32) (kc : Int32) (kd : Int32) (ke : Int32) (v : S7) (t : Int32) (x : Int32) : CI l G yX5_premium wsX5_premium rm_X5_premium [.ref (h 18), .int x] [cM h (ka, kb, kc, kd, ke) v t] (bI ((F_X5_premium v x).1)) [cM h (ka, kb, kc, kd, ke) ((F_X5_premium v x).2) t] := by
  refine CI_of (own := RX5) (by decide +kernel) rfl rfl (Nat.le_of_ble_eq_true rfl) ?_
  intro pP eE sS mM args below meth cC A S hK hr hlk hmn hW ls hl
  have hx := S.1
  have hb := S.2.1
  have hl : lv_has ls 3 [(0, .ref (h 18)), (1, .int x)] := hl
  have hW : Wd G A sS.heap [cM h (ka, kb, kc, kd, ke) v t] sS.heap [] := hW
  refine lv_aload_n hx hb dX5_premium_0 rfl (lv_at hl 0 rfl) ?_
  refine k_get (C := RX5) (T := TX5) (N := 18) (ci := 5) (v := .int v.1) S hK hW k_X5_premium_in5 0 10 rfl rfl (by decide) k_X5_premium_f61 rfl dX5_premium_1 ?_
  refine lv_iconst (v := 1) hx hb dX5_premium_4 (by decide) ?_
  refine lv_icmp_le (tgt := 10) hx hb dX5_premium_5 (by decide) (fun c_1 => ?_) (fun c_1 => ?_)
  ·
    refine lv_iload_n hx hb dX5_premium_10 rfl (lv_at hl 1 rfl) ?_
    refine lv_aload_n hx hb dX5_premium_11 rfl (lv_at hl 0 rfl) ?_
    refine k_get (C := RX5) (T := TX5) (N := 18) (ci := 5) (v := .int v.2.2.2.1) S hK hW k_X5_premium_in5 0 13 rfl rfl (by decide) k_X5_premium_f64 rfl dX5_premium_12 ?_
    refine lv_icmp_ge (tgt := 22) hx hb dX5_premium_15 (by decide) (fun c_2 => ?_) (fun c_2 => ?_)
    ·
      refine lv_aload_n hx hb dX5_premium_22 rfl (lv_at hl 0 rfl) ?_
      refine k_get (C := RX5) (T := TX5) (N := 18) (ci := 5) (v := .int v.2.2.2.1) S hK hW k_X5_premium_in5 0 13 rfl rfl (by decide) k_X5_premium_f64 rfl dX5_premium_23 ?_
      refine lv_istore_n (lv' := [(2, .int v.2.2.2.1), (0, .ref (h 18)), (1, .int x)]) hx hb dX5_premium_26 rfl hl (by decide) rfl (fun ls hl => ?_)
      refine lv_aload_n hx hb dX5_premium_27 rfl (lv_at hl 1 rfl) ?_
      refine lv_dup hx hb dX5_premium_28 rfl ?_
      refine k_get (C := RX5) (T := TX5) (N := 18) (ci := 5) (v := .int v.2.2.2.1) S hK hW k_X5_premium_in5 0 13 rfl rfl (by decide) k_X5_premium_f64 rfl dX5_premium_29 ?_
      refine lv_iload_n hx hb dX5_premium_32 rfl (lv_at hl 0 rfl) ?_
      refine lv_isub hx hb dX5_premium_33 ?_
      refine lv_topi (fun z_3 ez_3 => ?_)
      refine k_put (C := RX5) (T := TX5) (N := 18) (ci := 5) (v := .int z_3) (ws' := [cM h (ka, kb, kc, kd, ke) (v.1, v.2.1, v.2.2.1, z_3, v.2.2.2.2.1, v.2.2.2.2.2.1, v.2.2.2.2.2.2) t]) S hK hW k_X5_premium_in5 tyX5_ok nmX5 0 13 rfl rfl (by decide) k_X5_premium_f64 rfl rfl rfl rfl rfl dX5_premium_34 (fun H locs hW => ?_)
      refine lv_aload_n hx hb dX5_premium_37 rfl (lv_at hl 1 rfl) ?_
      refine lv_dup hx hb dX5_premium_38 rfl ?_
      refine k_get (C := RX5) (T := TX5) (N := 18) (ci := 5) (v := .int v.2.1) S hK hW k_X5_premium_in5 0 11 rfl rfl (by decide) k_X5_premium_f40 rfl dX5_premium_39 ?_
      refine lv_iload_n hx hb dX5_premium_42 rfl (lv_at hl 2 rfl) ?_
      refine lv_iload_n hx hb dX5_premium_43 rfl (lv_at hl 0 rfl) ?_
      refine lv_isub hx hb dX5_premium_44 ?_
      refine lv_iadd hx hb dX5_premium_45 ?_
      refine lv_topi (fun z_4 ez_4 => ?_)
      refine k_put (C := RX5) (T := TX5) (N := 18) (ci := 5) (v := .int z_4) (ws' := [cM h (ka, kb, kc, kd, ke) (v.1, z_4, v.2.2.1, z_3, v.2.2.2.2.1, v.2.2.2.2.2.1, v.2.2.2.2.2.2) t]) S hK hW k_X5_premium_in5 tyX5_ok nmX5 0 11 rfl rfl (by decide) k_X5_premium_f40 rfl rfl rfl rfl rfl dX5_premium_46 (fun H locs hW => ?_)
      refine lv_aload_n hx hb dX5_premium_49 rfl (lv_at hl 1 rfl) ?_
      refine k_get (C := RX5) (T := TX5) (N := 18) (ci := 5) (v := .int z_3) S hK hW k_X5_premium_in5 0 13 rfl rfl (by decide) k_X5_premium_f64 rfl dX5_premium_50 ?_
      refine lv_if_ne (tgt := 66) hx hb dX5_premium_53 (by decide) (fun c_5 => ?_) (fun c_5 => ?_)
      ·
        refine lv_iconst (v := 1) hx hb dX5_premium_66 (by decide) ?_
        have hW9 := hW
        have hl9 := hl
        subst ez_3
        subst ez_4
        have eF : (F_X5_premium v x) = (true, (v.1, (v.2.1 + (x - v.2.2.2.1)), v.2.2.1, (v.2.2.2.1 - v.2.2.2.1), v.2.2.2.2.1, v.2.2.2.2.2.1, v.2.2.2.2.2.2)) := by
          unfold F_X5_premium
          rw [if_pos c_1, if_pos c_2, if_neg c_5]
        exact k_zret (wf := [cM h (ka, kb, kc, kd, ke) (v.1, (v.2.1 + (x - v.2.2.2.1)), v.2.2.1, (v.2.2.2.1 - v.2.2.2.1), v.2.2.2.2.1, v.2.2.2.2.2.1, v.2.2.2.2.2.2) t]) S hr hlk hK hW9 [0] rfl rfl (congrArg (fun (z : Bool × S7) => [cM h (ka, kb, kc, kd, ke) z.2 t]) eF).symm (congrArg (fun (z : Bool × S7) => bI z.1) eF).symm dX5_premium_67
      ·
        refine lv_aload_n hx hb dX5_premium_56 rfl (lv_at hl 1 rfl) ?_
        refine lv_iconst (v := 0) hx hb dX5_premium_57 (by decide) ?_
        refine k_put (C := RX5) (T := TX5) (N := 18) (ci := 5) (v := .int 0) (ws' := [cM h (ka, kb, kc, kd, ke) (0, z_4, v.2.2.1, z_3, v.2.2.2.2.1, v.2.2.2.2.2.1, v.2.2.2.2.2.2) t]) S hK hW k_X5_premium_in5 tyX5_ok nmX5 0 10 rfl rfl (by decide) k_X5_premium_f61 rfl rfl rfl rfl rfl dX5_premium_58 (fun H locs hW => ?_)
        refine lv_aload_n hx hb dX5_premium_61 rfl (lv_at hl 1 rfl) ?_
        refine lv_iconst (v := 0) hx hb dX5_premium_62 (by decide) ?_
        refine k_put (C := RX5) (T := TX5) (N := 18) (ci := 5) (v := .int 0) (ws' := [cM h (ka, kb, kc, kd, ke) (0, z_4, v.2.2.1, z_3, 0, v.2.2.2.2.2.1, v.2.2.2.2.2.2) t]) S hK hW k_X5_premium_in5 tyX5_ok nmX5 0 14 rfl rfl (by decide) k_X5_premium_f67 rfl rfl rfl rfl rfl dX5_premium_63 (fun H locs hW => ?_)
        refine lv_iconst (v := 1) hx hb dX5_premium_66 (by decide) ?_
        have hW9 := hW
        have hl9 := hl
        subst ez_3
        subst ez_4
        have eF : (F_X5_premium v x) = (true, (0, (v.2.1 + (x - v.2.2.2.1)), v.2.2.1, (v.2.2.2.1 - v.2.2.2.1), 0, v.2.2.2.2.2.1, v.2.2.2.2.2.2)) := by
          unfold F_X5_premium
          rw [if_pos c_1, if_pos c_2, if_pos c_5]
        exact k_zret (wf := [cM h (ka, kb, kc, kd, ke) (0, (v.2.1 + (x - v.2.2.2.1)), v.2.2.1, (v.2.2.2.1 - v.2.2.2.1), 0, v.2.2.2.2.2.1, v.2.2.2.2.2.2) t]) S hr hlk hK hW9 [0] rfl rfl (congrArg (fun (z : Bool × S7) => [cM h (ka, kb, kc, kd, ke) z.2 t]) eF).symm (congrArg (fun (z : Bool × S7) => bI z.1) eF).symm dX5_premium_67
    ·
      refine lv_iload_n hx hb dX5_premium_18 rfl (lv_at hl 1 rfl) ?_
      refine lv_goto (tgt := 26) hx hb dX5_premium_19 (by decide) ?_
      refine lv_istore_n (lv' := [(2, .int x), (0, .ref (h 18)), (1, .int x)]) hx hb dX5_premium_26 rfl hl (by decide) rfl (fun ls hl => ?_)
      refine lv_aload_n hx hb dX5_premium_27 rfl (lv_at hl 1 rfl) ?_
      refine lv_dup hx hb dX5_premium_28 rfl ?_
      refine k_get (C := RX5) (T := TX5) (N := 18) (ci := 5) (v := .int v.2.2.2.1) S hK hW k_X5_premium_in5 0 13 rfl rfl (by decide) k_X5_premium_f64 rfl dX5_premium_29 ?_
      refine lv_iload_n hx hb dX5_premium_32 rfl (lv_at hl 0 rfl) ?_
      refine lv_isub hx hb dX5_premium_33 ?_
      refine lv_topi (fun z_6 ez_6 => ?_)
      refine k_put (C := RX5) (T := TX5) (N := 18) (ci := 5) (v := .int z_6) (ws' := [cM h (ka, kb, kc, kd, ke) (v.1, v.2.1, v.2.2.1, z_6, v.2.2.2.2.1, v.2.2.2.2.2.1, v.2.2.2.2.2.2) t]) S hK hW k_X5_premium_in5 tyX5_ok nmX5 0 13 rfl rfl (by decide) k_X5_premium_f64 rfl rfl rfl rfl rfl dX5_premium_34 (fun H locs hW => ?_)
      refine lv_aload_n hx hb dX5_premium_37 rfl (lv_at hl 1 rfl) ?_
      refine lv_dup hx hb dX5_premium_38 rfl ?_
      refine k_get (C := RX5) (T := TX5) (N := 18) (ci := 5) (v := .int v.2.1) S hK hW k_X5_premium_in5 0 11 rfl rfl (by decide) k_X5_premium_f40 rfl dX5_premium_39 ?_
      refine lv_iload_n hx hb dX5_premium_42 rfl (lv_at hl 2 rfl) ?_
      refine lv_iload_n hx hb dX5_premium_43 rfl (lv_at hl 0 rfl) ?_
      refine lv_isub hx hb dX5_premium_44 ?_
      refine lv_iadd hx hb dX5_premium_45 ?_
      refine lv_topi (fun z_7 ez_7 => ?_)
      refine k_put (C := RX5) (T := TX5) (N := 18) (ci := 5) (v := .int z_7) (ws' := [cM h (ka, kb, kc, kd, ke) (v.1, z_7, v.2.2.1, z_6, v.2.2.2.2.1, v.2.2.2.2.2.1, v.2.2.2.2.2.2) t]) S hK hW k_X5_premium_in5 tyX5_ok nmX5 0 11 rfl rfl (by decide) k_X5_premium_f40 rfl rfl rfl rfl rfl dX5_premium_46 (fun H locs hW => ?_)
      refine lv_aload_n hx hb dX5_premium_49 rfl (lv_at hl 1 rfl) ?_
      refine k_get (C := RX5) (T := TX5) (N := 18) (ci := 5) (v := .int z_6) S hK hW k_X5_premium_in5 0 13 rfl rfl (by decide) k_X5_premium_f64 rfl dX5_premium_50 ?_
      refine lv_if_ne (tgt := 66) hx hb dX5_premium_53 (by decide) (fun c_8 => ?_) (fun c_8 => ?_)
      ·
        refine lv_iconst (v := 1) hx hb dX5_premium_66 (by decide) ?_
        have hW9 := hW
        have hl9 := hl
        subst ez_6
        subst ez_7
        have eF : (F_X5_premium v x) = (true, (v.1, (v.2.1 + (x - x)), v.2.2.1, (v.2.2.2.1 - x), v.2.2.2.2.1, v.2.2.2.2.2.1, v.2.2.2.2.2.2)) := by
          unfold F_X5_premium
          rw [if_pos c_1, if_neg c_2, if_neg c_8]
        exact k_zret (wf := [cM h (ka, kb, kc, kd, ke) (v.1, (v.2.1 + (x - x)), v.2.2.1, (v.2.2.2.1 - x), v.2.2.2.2.1, v.2.2.2.2.2.1, v.2.2.2.2.2.2) t]) S hr hlk hK hW9 [0] rfl rfl (congrArg (fun (z : Bool × S7) => [cM h (ka, kb, kc, kd, ke) z.2 t]) eF).symm (congrArg (fun (z : Bool × S7) => bI z.1) eF).symm dX5_premium_67
      ·
        refine lv_aload_n hx hb dX5_premium_56 rfl (lv_at hl 1 rfl) ?_
        refine lv_iconst (v := 0) hx hb dX5_premium_57 (by decide) ?_
        refine k_put (C := RX5) (T := TX5) (N := 18) (ci := 5) (v := .int 0) (ws' := [cM h (ka, kb, kc, kd, ke) (0, z_7, v.2.2.1, z_6, v.2.2.2.2.1, v.2.2.2.2.2.1, v.2.2.2.2.2.2) t]) S hK hW k_X5_premium_in5 tyX5_ok nmX5 0 10 rfl rfl (by decide) k_X5_premium_f61 rfl rfl rfl rfl rfl dX5_premium_58 (fun H locs hW => ?_)
        refine lv_aload_n hx hb dX5_premium_61 rfl (lv_at hl 1 rfl) ?_
        refine lv_iconst (v := 0) hx hb dX5_premium_62 (by decide) ?_
        refine k_put (C := RX5) (T := TX5) (N := 18) (ci := 5) (v := .int 0) (ws' := [cM h (ka, kb, kc, kd, ke) (0, z_7, v.2.2.1, z_6, 0, v.2.2.2.2.2.1, v.2.2.2.2.2.2) t]) S hK hW k_X5_premium_in5 tyX5_ok nmX5 0 14 rfl rfl (by decide) k_X5_premium_f67 rfl rfl rfl rfl rfl dX5_premium_63 (fun H locs hW => ?_)
        refine lv_iconst (v := 1) hx hb dX5_premium_66 (by decide) ?_
        have hW9 := hW
        have hl9 := hl
        subst ez_6
        subst ez_7
        have eF : (F_X5_premium v x) = (true, (0, (v.2.1 + (x - x)), v.2.2.1, (v.2.2.2.1 - x), 0, v.2.2.2.2.2.1, v.2.2.2.2.2.2)) := by
          unfold F_X5_premium
          rw [if_pos c_1, if_neg c_2, if_pos c_8]
        exact k_zret (wf := [cM h (ka, kb, kc, kd, ke) (0, (v.2.1 + (x - x)), v.2.2.1, (v.2.2.2.1 - x), 0, v.2.2.2.2.2.1, v.2.2.2.2.2.2) t]) S hr hlk hK hW9 [0] rfl rfl (congrArg (fun (z : Bool × S7) => [cM h (ka, kb, kc, kd, ke) z.2 t]) eF).symm (congrArg (fun (z : Bool × S7) => bI z.1) eF).symm dX5_premium_67
  ·
    refine lv_iconst (v := 0) hx hb dX5_premium_8 (by decide) ?_
    have eF : (F_X5_premium v x) = (false, v) := by
      unfold F_X5_premium
      rw [if_neg c_1]
    exact k_zret (wf := [cM h (ka, kb, kc, kd, ke) v t]) S hr hlk hK hW [0] rfl rfl (congrArg (fun (z : Bool × S7) => [cM h (ka, kb, kc, kd, ke) z.2 t]) eF).symm (congrArg (fun (z : Bool × S7) => bI z.1) eF).symm dX5_premium_9
def F_X5_revive (v : S7) (x : Int32) : Bool × S7 :=
  if v.1 = 2 then (if 24 ≤ v.2.2.2.2.2.1 then (false, v)
    else (if (v.2.2.2.1 + (500 * v.2.2.2.2.2.1)) ≤ x then (true, (0, (x - (v.2.2.2.1 + (500 * v.2.2.2.2.2.1))), v.2.2.1, 0, 0, v.2.2.2.2.2.1, v.2.2.2.2.2.2))
      else (false, v)))
  else (false, v)
set_option maxRecDepth 100000 in
theorem k_X5_revive_f64 : Cond.fieldLink RX5 64 "FlexiblePolicyModel" "arrears" "I" ∈ wsX5_revive := by decide +kernel
set_option maxRecDepth 100000 in
theorem k_X5_revive_in5 : ∀ w ∈ u_ws RX5 TX5 18, w ∈ wsX5_revive := by decide +kernel
set_option maxRecDepth 100000 in
theorem k_X5_revive_f70 : Cond.fieldLink RX5 70 "FlexiblePolicyModel" "lapsedMonths" "I" ∈ wsX5_revive := by decide +kernel
set_option maxRecDepth 100000 in
theorem k_X5_revive_f61 : Cond.fieldLink RX5 61 "FlexiblePolicyModel" "state" "I" ∈ wsX5_revive := by decide +kernel
set_option maxRecDepth 100000 in
theorem k_X5_revive_f40 : Cond.fieldLink RX5 40 "FlexiblePolicyModel" "account" "I" ∈ wsX5_revive := by decide +kernel
set_option maxRecDepth 100000 in
theorem k_X5_revive_f67 : Cond.fieldLink RX5 67 "FlexiblePolicyModel" "graceMonths" "I" ∈ wsX5_revive := by decide +kernel
theorem nd_X5_revive : yX5_revive.cls = RX5 ∧ yX5_revive.cls ≠ "java/lang/invoke/MethodHandle" ∧ yX5_revive.cls ≠ "java/lang/invoke/VarHandle" ∧ (parseMethodDescriptor yX5_revive.desc).map (fun d => d.parameters.length) = some 1 := by decide +kernel
abbrev rm_X5_revive : Room := { frames := 0, cells := 0, slots := 0, locals := 0 }
set_option maxHeartbeats 4000000 in
set_option maxRecDepth 100000 in
theorem c_X5_revive (l : Launch) (G : GG) (h : Nat → Nat) (ka : Int32) (kb : Int32) (kc : Int32) (kd : Int32) (ke : Int32) (v : S7) (t : Int32) (x : Int32) : CI l G yX5_revive wsX5_revive rm_X5_revive [.ref (h 18), .int x] [cM h (ka, kb, kc, kd, ke) v t] (bI ((F_X5_revive v x).1)) [cM h (ka, kb, kc, kd, ke) ((F_X5_revive v x).2) t] := by
  refine CI_of (own := RX5) (by decide +kernel) rfl rfl (Nat.le_of_ble_eq_true rfl) ?_
  intro pP eE sS mM args below meth cC A S hK hr hlk hmn hW ls hl
  have hx := S.1
  have hb := S.2.1
  have hl : lv_has ls 3 [(0, .ref (h 18)), (1, .int x)] := hl
  have hW : Wd G A sS.heap [cM h (ka, kb, kc, kd, ke) v t] sS.heap [] := hW
  refine lv_aload_n hx hb dX5_revive_0 rfl (lv_at hl 0 rfl) ?_
  refine k_get (C := RX5) (T := TX5) (N := 18) (ci := 5) (v := .int v.2.2.2.1) S hK hW k_X5_revive_in5 0 13 rfl rfl (by decide) k_X5_revive_f64 rfl dX5_revive_1 ?_
  refine lv_sipush (v := 500) hx hb dX5_revive_4 (by decide) ?_
  refine lv_aload_n hx hb dX5_revive_7 rfl (lv_at hl 0 rfl) ?_
  refine k_get (C := RX5) (T := TX5) (N := 18) (ci := 5) (v := .int v.2.2.2.2.2.1) S hK hW k_X5_revive_in5 0 15 rfl rfl (by decide) k_X5_revive_f70 rfl dX5_revive_8 ?_
  refine lv_imul hx hb dX5_revive_11 ?_
  refine lv_iadd hx hb dX5_revive_12 ?_
  refine lv_istore_n (lv' := [(2, .int (v.2.2.2.1 + (500 * v.2.2.2.2.2.1))), (0, .ref (h 18)), (1, .int x)]) hx hb dX5_revive_13 rfl hl (by decide) rfl (fun ls hl => ?_)
  refine lv_aload_n hx hb dX5_revive_14 rfl (lv_at hl 1 rfl) ?_
  refine k_get (C := RX5) (T := TX5) (N := 18) (ci := 5) (v := .int v.1) S hK hW k_X5_revive_in5 0 10 rfl rfl (by decide) k_X5_revive_f61 rfl dX5_revive_15 ?_
  refine lv_iconst (v := 2) hx hb dX5_revive_18 (by decide) ?_
  refine lv_icmp_ne (tgt := 36) hx hb dX5_revive_19 (by decide) (fun c_1 => ?_) (fun c_1 => ?_)
  ·
    refine lv_iconst (v := 0) hx hb dX5_revive_36 (by decide) ?_
    have eF : (F_X5_revive v x) = (false, v) := by
      unfold F_X5_revive
      rw [if_neg c_1]
    exact k_zret (wf := [cM h (ka, kb, kc, kd, ke) v t]) S hr hlk hK hW [0] rfl rfl (congrArg (fun (z : Bool × S7) => [cM h (ka, kb, kc, kd, ke) z.2 t]) eF).symm (congrArg (fun (z : Bool × S7) => bI z.1) eF).symm dX5_revive_37
  ·
    refine lv_aload_n hx hb dX5_revive_22 rfl (lv_at hl 1 rfl) ?_
    refine k_get (C := RX5) (T := TX5) (N := 18) (ci := 5) (v := .int v.2.2.2.2.2.1) S hK hW k_X5_revive_in5 0 15 rfl rfl (by decide) k_X5_revive_f70 rfl dX5_revive_23 ?_
    refine lv_bipush (v := 24) hx hb dX5_revive_26 (by decide) ?_
    refine lv_icmp_ge (tgt := 36) hx hb dX5_revive_28 (by decide) (fun c_2 => ?_) (fun c_2 => ?_)
    ·
      refine lv_iconst (v := 0) hx hb dX5_revive_36 (by decide) ?_
      have eF : (F_X5_revive v x) = (false, v) := by
        unfold F_X5_revive
        rw [if_pos c_1, if_pos c_2]
      exact k_zret (wf := [cM h (ka, kb, kc, kd, ke) v t]) S hr hlk hK hW [0] rfl rfl (congrArg (fun (z : Bool × S7) => [cM h (ka, kb, kc, kd, ke) z.2 t]) eF).symm (congrArg (fun (z : Bool × S7) => bI z.1) eF).symm dX5_revive_37
    ·
      refine lv_iload_n hx hb dX5_revive_31 rfl (lv_at hl 2 rfl) ?_
      refine lv_iload_n hx hb dX5_revive_32 rfl (lv_at hl 0 rfl) ?_
      refine lv_icmp_ge (tgt := 38) hx hb dX5_revive_33 (by decide) (fun c_3 => ?_) (fun c_3 => ?_)
      ·
        refine lv_aload_n hx hb dX5_revive_38 rfl (lv_at hl 1 rfl) ?_
        refine lv_iload_n hx hb dX5_revive_39 rfl (lv_at hl 2 rfl) ?_
        refine lv_iload_n hx hb dX5_revive_40 rfl (lv_at hl 0 rfl) ?_
        refine lv_isub hx hb dX5_revive_41 ?_
        refine lv_topi (fun z_4 ez_4 => ?_)
        refine k_put (C := RX5) (T := TX5) (N := 18) (ci := 5) (v := .int z_4) (ws' := [cM h (ka, kb, kc, kd, ke) (v.1, z_4, v.2.2.1, v.2.2.2.1, v.2.2.2.2.1, v.2.2.2.2.2.1, v.2.2.2.2.2.2) t]) S hK hW k_X5_revive_in5 tyX5_ok nmX5 0 11 rfl rfl (by decide) k_X5_revive_f40 rfl rfl rfl rfl rfl dX5_revive_42 (fun H locs hW => ?_)
        refine lv_aload_n hx hb dX5_revive_45 rfl (lv_at hl 1 rfl) ?_
        refine lv_iconst (v := 0) hx hb dX5_revive_46 (by decide) ?_
        refine k_put (C := RX5) (T := TX5) (N := 18) (ci := 5) (v := .int 0) (ws' := [cM h (ka, kb, kc, kd, ke) (v.1, z_4, v.2.2.1, 0, v.2.2.2.2.1, v.2.2.2.2.2.1, v.2.2.2.2.2.2) t]) S hK hW k_X5_revive_in5 tyX5_ok nmX5 0 13 rfl rfl (by decide) k_X5_revive_f64 rfl rfl rfl rfl rfl dX5_revive_47 (fun H locs hW => ?_)
        refine lv_aload_n hx hb dX5_revive_50 rfl (lv_at hl 1 rfl) ?_
        refine lv_iconst (v := 0) hx hb dX5_revive_51 (by decide) ?_
        refine k_put (C := RX5) (T := TX5) (N := 18) (ci := 5) (v := .int 0) (ws' := [cM h (ka, kb, kc, kd, ke) (v.1, z_4, v.2.2.1, 0, 0, v.2.2.2.2.2.1, v.2.2.2.2.2.2) t]) S hK hW k_X5_revive_in5 tyX5_ok nmX5 0 14 rfl rfl (by decide) k_X5_revive_f67 rfl rfl rfl rfl rfl dX5_revive_52 (fun H locs hW => ?_)
        refine lv_aload_n hx hb dX5_revive_55 rfl (lv_at hl 1 rfl) ?_
        refine lv_iconst (v := 0) hx hb dX5_revive_56 (by decide) ?_
        refine k_put (C := RX5) (T := TX5) (N := 18) (ci := 5) (v := .int 0) (ws' := [cM h (ka, kb, kc, kd, ke) (0, z_4, v.2.2.1, 0, 0, v.2.2.2.2.2.1, v.2.2.2.2.2.2) t]) S hK hW k_X5_revive_in5 tyX5_ok nmX5 0 10 rfl rfl (by decide) k_X5_revive_f61 rfl rfl rfl rfl rfl dX5_revive_57 (fun H locs hW => ?_)
        refine lv_iconst (v := 1) hx hb dX5_revive_60 (by decide) ?_
        have hW9 := hW
        have hl9 := hl
        subst ez_4
        have eF : (F_X5_revive v x) = (true, (0, (x - (v.2.2.2.1 + (500 * v.2.2.2.2.2.1))), v.2.2.1, 0, 0, v.2.2.2.2.2.1, v.2.2.2.2.2.2)) := by
          unfold F_X5_revive
          rw [if_pos c_1, if_neg c_2, if_pos c_3]
        exact k_zret (wf := [cM h (ka, kb, kc, kd, ke) (0, (x - (v.2.2.2.1 + (500 * v.2.2.2.2.2.1))), v.2.2.1, 0, 0, v.2.2.2.2.2.1, v.2.2.2.2.2.2) t]) S hr hlk hK hW9 [0] rfl rfl (congrArg (fun (z : Bool × S7) => [cM h (ka, kb, kc, kd, ke) z.2 t]) eF).symm (congrArg (fun (z : Bool × S7) => bI z.1) eF).symm dX5_revive_61
      ·
        refine lv_iconst (v := 0) hx hb dX5_revive_36 (by decide) ?_
        have eF : (F_X5_revive v x) = (false, v) := by
          unfold F_X5_revive
          rw [if_pos c_1, if_neg c_2, if_neg c_3]
        exact k_zret (wf := [cM h (ka, kb, kc, kd, ke) v t]) S hr hlk hK hW [0] rfl rfl (congrArg (fun (z : Bool × S7) => [cM h (ka, kb, kc, kd, ke) z.2 t]) eF).symm (congrArg (fun (z : Bool × S7) => bI z.1) eF).symm dX5_revive_37
def F_X5_act (ka : Int32) (kb : Int32) (kc : Int32) (v : S7) (a : Int32) (x : Int32) (m : Int32) : Bool × S7 :=
  if a = 0 then ((F_X5_premium v x).1, ((F_X5_premium v x).2))
  else (if a = 1 then (if v.1 = 0 then (if (F_X5_freePart v) < x then (false, (v.1, v.2.1, (v.2.2.1 + 0), v.2.2.2.1, v.2.2.2.2.1, v.2.2.2.2.2.1, v.2.2.2.2.2.2))
        else (true, (v.1, v.2.1, (v.2.2.1 + x), v.2.2.2.1, v.2.2.2.2.1, v.2.2.2.2.2.1, v.2.2.2.2.2.2)))
      else (false, (v.1, v.2.1, (v.2.2.1 + 0), v.2.2.2.1, v.2.2.2.2.1, v.2.2.2.2.2.1, v.2.2.2.2.2.2)))
    else (if a = 2 then (if 1 < v.1 then (false, (v.1, v.2.1, (v.2.2.1 - 0), v.2.2.2.1, v.2.2.2.2.1, v.2.2.2.2.2.1, v.2.2.2.2.2.2))
        else (if v.2.2.1 < x then (false, (v.1, v.2.1, (v.2.2.1 - 0), v.2.2.2.1, v.2.2.2.2.1, v.2.2.2.2.2.1, v.2.2.2.2.2.2))
          else (true, (v.1, v.2.1, (v.2.2.1 - x), v.2.2.2.1, v.2.2.2.2.1, v.2.2.2.2.2.1, v.2.2.2.2.2.2))))
      else (if a = 3 then (if v.1 = 0 then (if (F_X5_freePart v) < x then (false, (v.1, (v.2.1 - 0), v.2.2.1, v.2.2.2.1, v.2.2.2.2.1, v.2.2.2.2.2.1, v.2.2.2.2.2.2))
            else (true, (v.1, (v.2.1 - x), v.2.2.1, v.2.2.2.1, v.2.2.2.2.1, v.2.2.2.2.2.1, v.2.2.2.2.2.2)))
          else (false, (v.1, (v.2.1 - 0), v.2.2.1, v.2.2.2.1, v.2.2.2.2.1, v.2.2.2.2.2.1, v.2.2.2.2.2.2)))
        else (if a = 4 then ((F_X5_revive v x).1, ((F_X5_revive v x).2))
          else (if 1 < v.1 then (false, v)
            else (if 0 ≤ (lg_cmp ((F_X5_deathSumIn ka kb kc v m) - v.2.2.1.toInt64) 0) then (true, (3, v.2.1, v.2.2.1, v.2.2.2.1, v.2.2.2.2.1, v.2.2.2.2.2.1, (((F_X5_deathSumIn ka kb kc v m) - v.2.2.1.toInt64).toInt32)))
              else (true, (3, v.2.1, v.2.2.1, v.2.2.2.1, v.2.2.2.2.1, v.2.2.2.2.2.1, 0))))))))
set_option maxRecDepth 100000 in
theorem k_X5_act_f61 : Cond.fieldLink RX5 61 "FlexiblePolicyModel" "state" "I" ∈ wsX5_act := by decide +kernel
set_option maxRecDepth 100000 in
theorem k_X5_act_in5 : ∀ w ∈ u_ws RX5 TX5 18, w ∈ wsX5_act := by decide +kernel
set_option maxRecDepth 100000 in
theorem k_X5_act_f52 : Cond.fieldLink RX5 52 "FlexiblePolicyModel" "loan" "I" ∈ wsX5_act := by decide +kernel
set_option maxRecDepth 100000 in
theorem k_X5_act_f73 : Cond.fieldLink RX5 73 "FlexiblePolicyModel" "paidSum" "I" ∈ wsX5_act := by decide +kernel
set_option maxRecDepth 100000 in
theorem k_X5_act_f40 : Cond.fieldLink RX5 40 "FlexiblePolicyModel" "account" "I" ∈ wsX5_act := by decide +kernel
theorem nd_X5_act : yX5_act.cls = RX5 ∧ yX5_act.cls ≠ "java/lang/invoke/MethodHandle" ∧ yX5_act.cls ≠ "java/lang/invoke/VarHandle" ∧ (parseMethodDescriptor yX5_act.desc).map (fun d => d.parameters.length) = some 3 := by decide +kernel
abbrev rm_X5_act : Room := { frames := 2, cells := 0, slots := 0, locals := 46 }
set_option maxHeartbeats 4000000 in
set_option maxRecDepth 100000 in
theorem c_X5_act (l : Launch) (G : GG) (h : Nat → Nat) (ka : Int32) (kb : Int32) (kc : Int32) (kd : Int32) (ke : Int32) (v : S7) (t : Int32) (a : Int32) (x : Int32) (m : Int32) : CI l G yX5_act wsX5_act rm_X5_act [.ref (h 18), .int a, .int x, .int m] [cM h (ka, kb, kc, kd, ke) v t] (bI ((F_X5_act ka kb kc v a x m).1)) [cM h (ka, kb, kc, kd, ke) ((F_X5_act ka kb kc v a x m).2) t] := by
  refine CI_of (own := RX5) (by decide +kernel) rfl rfl (Nat.le_of_ble_eq_true rfl) ?_
  intro pP eE sS mM args below meth cC A S hK hr hlk hmn hW ls hl
  have hx := S.1
  have hb := S.2.1
  have hl : lv_has ls 7 [(0, .ref (h 18)), (1, .int a), (2, .int x), (3, .int m)] := hl
  have hW : Wd G A sS.heap [cM h (ka, kb, kc, kd, ke) v t] sS.heap [] := hW
  refine lv_iconst (v := 0) hx hb dX5_act_0 (by decide) ?_
  refine lv_istore (lv' := [(4, .int 0), (0, .ref (h 18)), (1, .int a), (2, .int x), (3, .int m)]) hx hb dX5_act_1 hl (by decide) rfl (fun ls hl => ?_)
  refine lv_iload_n hx hb dX5_act_3 rfl (lv_at hl 2 rfl) ?_
  refine lv_if_ne (tgt := 17) hx hb dX5_act_4 (by decide) (fun c_1 => ?_) (fun c_1 => ?_)
  ·
    refine lv_iload_n hx hb dX5_act_17 rfl (lv_at hl 2 rfl) ?_
    refine lv_iconst (v := 1) hx hb dX5_act_18 (by decide) ?_
    refine lv_icmp_ne (tgt := 66) hx hb dX5_act_19 (by decide) (fun c_2 => ?_) (fun c_2 => ?_)
    ·
      refine lv_iload_n hx hb dX5_act_66 rfl (lv_at hl 2 rfl) ?_
      refine lv_iconst (v := 2) hx hb dX5_act_67 (by decide) ?_
      refine lv_icmp_ne (tgt := 116) hx hb dX5_act_68 (by decide) (fun c_3 => ?_) (fun c_3 => ?_)
      ·
        refine lv_iload_n hx hb dX5_act_116 rfl (lv_at hl 2 rfl) ?_
        refine lv_iconst (v := 3) hx hb dX5_act_117 (by decide) ?_
        refine lv_icmp_ne (tgt := 165) hx hb dX5_act_118 (by decide) (fun c_4 => ?_) (fun c_4 => ?_)
        ·
          refine lv_iload_n hx hb dX5_act_165 rfl (lv_at hl 2 rfl) ?_
          refine lv_iconst (v := 4) hx hb dX5_act_166 (by decide) ?_
          refine lv_icmp_ne (tgt := 180) hx hb dX5_act_167 (by decide) (fun c_5 => ?_) (fun c_5 => ?_)
          ·
            refine lv_aload_n hx hb dX5_act_180 rfl (lv_at hl 1 rfl) ?_
            refine k_get (C := RX5) (T := TX5) (N := 18) (ci := 5) (v := .int v.1) S hK hW k_X5_act_in5 0 10 rfl rfl (by decide) k_X5_act_f61 rfl dX5_act_181 ?_
            refine lv_iconst (v := 1) hx hb dX5_act_184 (by decide) ?_
            refine lv_icmp_gt (tgt := 227) hx hb dX5_act_185 (by decide) (fun c_6 => ?_) (fun c_6 => ?_)
            ·
              refine lv_iload hx hb dX5_act_227 (lv_at hl 0 rfl) ?_
              have eF : (F_X5_act ka kb kc v a x m) = (false, v) := by
                unfold F_X5_act
                rw [if_neg c_1, if_neg c_2, if_neg c_3, if_neg c_4, if_neg c_5, if_pos c_6]
              exact k_zret (wf := [cM h (ka, kb, kc, kd, ke) v t]) S hr hlk hK hW [0] rfl rfl (congrArg (fun (z : Bool × S7) => [cM h (ka, kb, kc, kd, ke) z.2 t]) eF).symm (congrArg (fun (z : Bool × S7) => bI z.1) eF).symm dX5_act_229
            ·
              refine lv_iconst (v := 1) hx hb dX5_act_188 (by decide) ?_
              refine lv_istore (lv' := [(4, .int 1), (0, .ref (h 18)), (1, .int a), (2, .int x), (3, .int m)]) hx hb dX5_act_189 hl (by decide) rfl (fun ls hl => ?_)
              refine lv_aload_n hx hb dX5_act_191 rfl (lv_at hl 1 rfl) ?_
              refine lv_iload_n hx hb dX5_act_192 rfl (lv_at hl 4 rfl) ?_
              refine k_callVl (C := RX5) (As := [.int m]) (rest := []) (wr := []) (c_X5_deathSumIn l G h ka kb kc kd ke v t m) S hK hW gX5_act_X5_deathSumIn rfl ⟨rfl, rfl⟩ nd_X5_deathSumIn ⟨rfl, rfl⟩ (qb := 0) (ci := 5) rfl rfl [0] [] rfl rfl rfl rfl (by decide) rfl hl.1 rfl dX5_act_193 ⟨Nat.zero_le _, Nat.zero_le _⟩ (fun H locs hW => ?_)
              have hW : Wd G A sS.heap [cM h (ka, kb, kc, kd, ke) v t] H locs := hW
              refine lv_aload_n hx hb dX5_act_196 rfl (lv_at hl 1 rfl) ?_
              refine k_get (C := RX5) (T := TX5) (N := 18) (ci := 5) (v := .int v.2.2.1) S hK hW k_X5_act_in5 0 12 rfl rfl (by decide) k_X5_act_f52 rfl dX5_act_197 ?_
              refine lv_i2l hx hb dX5_act_200 rfl ?_
              refine lv_lsub hx hb dX5_act_201 ?_
              refine lv_lstore (lv' := [(5, .long ((F_X5_deathSumIn ka kb kc v m) - v.2.2.1.toInt64)), (4, .int 1), (0, .ref (h 18)), (1, .int a), (2, .int x), (3, .int m)]) hx hb dX5_act_202 hl (by decide) rfl (fun ls hl => ?_)
              refine lv_aload_n hx hb dX5_act_204 rfl (lv_at hl 2 rfl) ?_
              refine lv_lload hx hb dX5_act_205 (lv_at hl 0 rfl) ?_
              refine lv_lconst (v := 0) hx hb dX5_act_207 rfl ?_
              refine W.lcmp hx hb dX5_act_208 ?_
              refine lv_if_ge (tgt := 216) hx hb dX5_act_209 (by decide) (fun c_7 => ?_) (fun c_7 => ?_)
              ·
                refine lv_lload hx hb dX5_act_216 (lv_at hl 0 rfl) ?_
                refine lv_l2i hx hb dX5_act_218 rfl ?_
                refine lv_topi (fun z_8 ez_8 => ?_)
                refine k_put (C := RX5) (T := TX5) (N := 18) (ci := 5) (v := .int z_8) (ws' := [cM h (ka, kb, kc, kd, ke) (v.1, v.2.1, v.2.2.1, v.2.2.2.1, v.2.2.2.2.1, v.2.2.2.2.2.1, z_8) t]) S hK hW k_X5_act_in5 tyX5_ok nmX5 0 16 rfl rfl (by decide) k_X5_act_f73 rfl rfl rfl rfl rfl dX5_act_219 (fun H locs hW => ?_)
                refine lv_aload_n hx hb dX5_act_222 rfl (lv_at hl 2 rfl) ?_
                refine lv_iconst (v := 3) hx hb dX5_act_223 (by decide) ?_
                refine k_put (C := RX5) (T := TX5) (N := 18) (ci := 5) (v := .int 3) (ws' := [cM h (ka, kb, kc, kd, ke) (3, v.2.1, v.2.2.1, v.2.2.2.1, v.2.2.2.2.1, v.2.2.2.2.2.1, z_8) t]) S hK hW k_X5_act_in5 tyX5_ok nmX5 0 10 rfl rfl (by decide) k_X5_act_f61 rfl rfl rfl rfl rfl dX5_act_224 (fun H locs hW => ?_)
                refine lv_iload hx hb dX5_act_227 (lv_at hl 1 rfl) ?_
                have hW9 := hW
                have hl9 := hl
                subst ez_8
                have eF : (F_X5_act ka kb kc v a x m) = (true, (3, v.2.1, v.2.2.1, v.2.2.2.1, v.2.2.2.2.1, v.2.2.2.2.2.1, (((F_X5_deathSumIn ka kb kc v m) - v.2.2.1.toInt64).toInt32))) := by
                  unfold F_X5_act
                  rw [if_neg c_1, if_neg c_2, if_neg c_3, if_neg c_4, if_neg c_5, if_neg c_6, if_pos c_7]
                exact k_zret (wf := [cM h (ka, kb, kc, kd, ke) (3, v.2.1, v.2.2.1, v.2.2.2.1, v.2.2.2.2.1, v.2.2.2.2.2.1, (((F_X5_deathSumIn ka kb kc v m) - v.2.2.1.toInt64).toInt32)) t]) S hr hlk hK hW9 [0] rfl rfl (congrArg (fun (z : Bool × S7) => [cM h (ka, kb, kc, kd, ke) z.2 t]) eF).symm (congrArg (fun (z : Bool × S7) => bI z.1) eF).symm dX5_act_229
              ·
                refine lv_iconst (v := 0) hx hb dX5_act_212 (by decide) ?_
                refine lv_goto (tgt := 219) hx hb dX5_act_213 (by decide) ?_
                refine k_put (C := RX5) (T := TX5) (N := 18) (ci := 5) (v := .int 0) (ws' := [cM h (ka, kb, kc, kd, ke) (v.1, v.2.1, v.2.2.1, v.2.2.2.1, v.2.2.2.2.1, v.2.2.2.2.2.1, 0) t]) S hK hW k_X5_act_in5 tyX5_ok nmX5 0 16 rfl rfl (by decide) k_X5_act_f73 rfl rfl rfl rfl rfl dX5_act_219 (fun H locs hW => ?_)
                refine lv_aload_n hx hb dX5_act_222 rfl (lv_at hl 2 rfl) ?_
                refine lv_iconst (v := 3) hx hb dX5_act_223 (by decide) ?_
                refine k_put (C := RX5) (T := TX5) (N := 18) (ci := 5) (v := .int 3) (ws' := [cM h (ka, kb, kc, kd, ke) (3, v.2.1, v.2.2.1, v.2.2.2.1, v.2.2.2.2.1, v.2.2.2.2.2.1, 0) t]) S hK hW k_X5_act_in5 tyX5_ok nmX5 0 10 rfl rfl (by decide) k_X5_act_f61 rfl rfl rfl rfl rfl dX5_act_224 (fun H locs hW => ?_)
                refine lv_iload hx hb dX5_act_227 (lv_at hl 1 rfl) ?_
                have eF : (F_X5_act ka kb kc v a x m) = (true, (3, v.2.1, v.2.2.1, v.2.2.2.1, v.2.2.2.2.1, v.2.2.2.2.2.1, 0)) := by
                  unfold F_X5_act
                  rw [if_neg c_1, if_neg c_2, if_neg c_3, if_neg c_4, if_neg c_5, if_neg c_6, if_neg c_7]
                exact k_zret (wf := [cM h (ka, kb, kc, kd, ke) (3, v.2.1, v.2.2.1, v.2.2.2.1, v.2.2.2.2.1, v.2.2.2.2.2.1, 0) t]) S hr hlk hK hW [0] rfl rfl (congrArg (fun (z : Bool × S7) => [cM h (ka, kb, kc, kd, ke) z.2 t]) eF).symm (congrArg (fun (z : Bool × S7) => bI z.1) eF).symm dX5_act_229
          ·
            refine lv_aload_n hx hb dX5_act_170 rfl (lv_at hl 1 rfl) ?_
            refine lv_iload_n hx hb dX5_act_171 rfl (lv_at hl 3 rfl) ?_
            refine k_callVi (C := RX5) (As := [.int x]) (rest := []) (wr := []) (c_X5_revive l G h ka kb kc kd ke v t x) S hK hW gX5_act_X5_revive rfl ⟨rfl, rfl⟩ nd_X5_revive ⟨rfl, rfl⟩ (qb := 0) (ci := 5) rfl rfl [0] [] rfl rfl rfl rfl (by decide) rfl hl.1 rfl dX5_act_172 ⟨Nat.zero_le _, Nat.zero_le _⟩ (fun H locs hW => ?_)
            have hW : Wd G A sS.heap [cM h (ka, kb, kc, kd, ke) ((F_X5_revive v x).2) t] H locs := hW
            refine lv_istore (lv' := [(4, .int (bI ((F_X5_revive v x).1))), (0, .ref (h 18)), (1, .int a), (2, .int x), (3, .int m)]) hx hb dX5_act_175 hl (by decide) rfl (fun ls hl => ?_)
            refine lv_goto (tgt := 227) hx hb dX5_act_177 (by decide) ?_
            refine lv_iload hx hb dX5_act_227 (lv_at hl 0 rfl) ?_
            have eF : (F_X5_act ka kb kc v a x m) = ((F_X5_revive v x).1, ((F_X5_revive v x).2)) := by
              unfold F_X5_act
              rw [if_neg c_1, if_neg c_2, if_neg c_3, if_neg c_4, if_pos c_5]
            exact k_zret (wf := [cM h (ka, kb, kc, kd, ke) ((F_X5_revive v x).2) t]) S hr hlk hK hW [0] rfl rfl (congrArg (fun (z : Bool × S7) => [cM h (ka, kb, kc, kd, ke) z.2 t]) eF).symm (congrArg (fun (z : Bool × S7) => bI z.1) eF).symm dX5_act_229
        ·
          refine lv_aload_n hx hb dX5_act_121 rfl (lv_at hl 1 rfl) ?_
          refine k_get (C := RX5) (T := TX5) (N := 18) (ci := 5) (v := .int v.1) S hK hW k_X5_act_in5 0 10 rfl rfl (by decide) k_X5_act_f61 rfl dX5_act_122 ?_
          refine lv_if_ne (tgt := 140) hx hb dX5_act_125 (by decide) (fun c_9 => ?_) (fun c_9 => ?_)
          ·
            refine lv_iconst (v := 0) hx hb dX5_act_140 (by decide) ?_
            refine lv_istore (lv' := [(4, .int 0), (0, .ref (h 18)), (1, .int a), (2, .int x), (3, .int m)]) hx hb dX5_act_141 hl (by decide) rfl (fun ls hl => ?_)
            refine lv_aload_n hx hb dX5_act_143 rfl (lv_at hl 1 rfl) ?_
            refine lv_dup hx hb dX5_act_144 rfl ?_
            refine k_get (C := RX5) (T := TX5) (N := 18) (ci := 5) (v := .int v.2.1) S hK hW k_X5_act_in5 0 11 rfl rfl (by decide) k_X5_act_f40 rfl dX5_act_145 ?_
            refine lv_iload hx hb dX5_act_148 (lv_at hl 0 rfl) ?_
            refine lv_if_eq (tgt := 157) hx hb dX5_act_150 (by decide) (fun c_10 => ?_) (fun c_10 => ?_)
            ·
              refine lv_iconst (v := 0) hx hb dX5_act_157 (by decide) ?_
              refine lv_isub hx hb dX5_act_158 ?_
              refine lv_topi (fun z_11 ez_11 => ?_)
              refine k_put (C := RX5) (T := TX5) (N := 18) (ci := 5) (v := .int z_11) (ws' := [cM h (ka, kb, kc, kd, ke) (v.1, z_11, v.2.2.1, v.2.2.2.1, v.2.2.2.2.1, v.2.2.2.2.2.1, v.2.2.2.2.2.2) t]) S hK hW k_X5_act_in5 tyX5_ok nmX5 0 11 rfl rfl (by decide) k_X5_act_f40 rfl rfl rfl rfl rfl dX5_act_159 (fun H locs hW => ?_)
              refine lv_goto (tgt := 227) hx hb dX5_act_162 (by decide) ?_
              refine lv_iload hx hb dX5_act_227 (lv_at hl 0 rfl) ?_
              have hW9 := hW
              have hl9 := hl
              subst ez_11
              have eF : (F_X5_act ka kb kc v a x m) = (false, (v.1, (v.2.1 - 0), v.2.2.1, v.2.2.2.1, v.2.2.2.2.1, v.2.2.2.2.2.1, v.2.2.2.2.2.2)) := by
                unfold F_X5_act
                rw [if_neg c_1, if_neg c_2, if_neg c_3, if_pos c_4, if_neg c_9]
              exact k_zret (wf := [cM h (ka, kb, kc, kd, ke) (v.1, (v.2.1 - 0), v.2.2.1, v.2.2.2.1, v.2.2.2.2.1, v.2.2.2.2.2.1, v.2.2.2.2.2.2) t]) S hr hlk hK hW9 [0] rfl rfl (congrArg (fun (z : Bool × S7) => [cM h (ka, kb, kc, kd, ke) z.2 t]) eF).symm (congrArg (fun (z : Bool × S7) => bI z.1) eF).symm dX5_act_229
            ·
              exact absurd c_10 (by decide)
          ·
            refine lv_iload_n hx hb dX5_act_128 rfl (lv_at hl 3 rfl) ?_
            refine lv_aload_n hx hb dX5_act_129 rfl (lv_at hl 1 rfl) ?_
            refine k_callVi (C := RX5) (As := []) (rest := [.int x]) (wr := []) (c_X5_freePart l G h ka kb kc kd ke v t) S hK hW gX5_act_X5_freePart rfl ⟨rfl, rfl⟩ nd_X5_freePart ⟨rfl, rfl⟩ (qb := 0) (ci := 5) rfl rfl [0] [] rfl rfl rfl rfl (by decide) rfl hl.1 rfl dX5_act_130 ⟨Nat.zero_le _, Nat.zero_le _⟩ (fun H locs hW => ?_)
            have hW : Wd G A sS.heap [cM h (ka, kb, kc, kd, ke) v t] H locs := hW
            refine lv_icmp_gt (tgt := 140) hx hb dX5_act_133 (by decide) (fun c_12 => ?_) (fun c_12 => ?_)
            ·
              refine lv_iconst (v := 0) hx hb dX5_act_140 (by decide) ?_
              refine lv_istore (lv' := [(4, .int 0), (0, .ref (h 18)), (1, .int a), (2, .int x), (3, .int m)]) hx hb dX5_act_141 hl (by decide) rfl (fun ls hl => ?_)
              refine lv_aload_n hx hb dX5_act_143 rfl (lv_at hl 1 rfl) ?_
              refine lv_dup hx hb dX5_act_144 rfl ?_
              refine k_get (C := RX5) (T := TX5) (N := 18) (ci := 5) (v := .int v.2.1) S hK hW k_X5_act_in5 0 11 rfl rfl (by decide) k_X5_act_f40 rfl dX5_act_145 ?_
              refine lv_iload hx hb dX5_act_148 (lv_at hl 0 rfl) ?_
              refine lv_if_eq (tgt := 157) hx hb dX5_act_150 (by decide) (fun c_13 => ?_) (fun c_13 => ?_)
              ·
                refine lv_iconst (v := 0) hx hb dX5_act_157 (by decide) ?_
                refine lv_isub hx hb dX5_act_158 ?_
                refine lv_topi (fun z_14 ez_14 => ?_)
                refine k_put (C := RX5) (T := TX5) (N := 18) (ci := 5) (v := .int z_14) (ws' := [cM h (ka, kb, kc, kd, ke) (v.1, z_14, v.2.2.1, v.2.2.2.1, v.2.2.2.2.1, v.2.2.2.2.2.1, v.2.2.2.2.2.2) t]) S hK hW k_X5_act_in5 tyX5_ok nmX5 0 11 rfl rfl (by decide) k_X5_act_f40 rfl rfl rfl rfl rfl dX5_act_159 (fun H locs hW => ?_)
                refine lv_goto (tgt := 227) hx hb dX5_act_162 (by decide) ?_
                refine lv_iload hx hb dX5_act_227 (lv_at hl 0 rfl) ?_
                have hW9 := hW
                have hl9 := hl
                subst ez_14
                have eF : (F_X5_act ka kb kc v a x m) = (false, (v.1, (v.2.1 - 0), v.2.2.1, v.2.2.2.1, v.2.2.2.2.1, v.2.2.2.2.2.1, v.2.2.2.2.2.2)) := by
                  unfold F_X5_act
                  rw [if_neg c_1, if_neg c_2, if_neg c_3, if_pos c_4, if_pos c_9, if_pos c_12]
                exact k_zret (wf := [cM h (ka, kb, kc, kd, ke) (v.1, (v.2.1 - 0), v.2.2.1, v.2.2.2.1, v.2.2.2.2.1, v.2.2.2.2.2.1, v.2.2.2.2.2.2) t]) S hr hlk hK hW9 [0] rfl rfl (congrArg (fun (z : Bool × S7) => [cM h (ka, kb, kc, kd, ke) z.2 t]) eF).symm (congrArg (fun (z : Bool × S7) => bI z.1) eF).symm dX5_act_229
              ·
                exact absurd c_13 (by decide)
            ·
              refine lv_iconst (v := 1) hx hb dX5_act_136 (by decide) ?_
              refine lv_goto (tgt := 141) hx hb dX5_act_137 (by decide) ?_
              refine lv_istore (lv' := [(4, .int 1), (0, .ref (h 18)), (1, .int a), (2, .int x), (3, .int m)]) hx hb dX5_act_141 hl (by decide) rfl (fun ls hl => ?_)
              refine lv_aload_n hx hb dX5_act_143 rfl (lv_at hl 1 rfl) ?_
              refine lv_dup hx hb dX5_act_144 rfl ?_
              refine k_get (C := RX5) (T := TX5) (N := 18) (ci := 5) (v := .int v.2.1) S hK hW k_X5_act_in5 0 11 rfl rfl (by decide) k_X5_act_f40 rfl dX5_act_145 ?_
              refine lv_iload hx hb dX5_act_148 (lv_at hl 0 rfl) ?_
              refine lv_if_eq (tgt := 157) hx hb dX5_act_150 (by decide) (fun c_15 => ?_) (fun c_15 => ?_)
              ·
                exact absurd c_15 (by decide)
              ·
                refine lv_iload_n hx hb dX5_act_153 rfl (lv_at hl 3 rfl) ?_
                refine lv_goto (tgt := 158) hx hb dX5_act_154 (by decide) ?_
                refine lv_isub hx hb dX5_act_158 ?_
                refine lv_topi (fun z_16 ez_16 => ?_)
                refine k_put (C := RX5) (T := TX5) (N := 18) (ci := 5) (v := .int z_16) (ws' := [cM h (ka, kb, kc, kd, ke) (v.1, z_16, v.2.2.1, v.2.2.2.1, v.2.2.2.2.1, v.2.2.2.2.2.1, v.2.2.2.2.2.2) t]) S hK hW k_X5_act_in5 tyX5_ok nmX5 0 11 rfl rfl (by decide) k_X5_act_f40 rfl rfl rfl rfl rfl dX5_act_159 (fun H locs hW => ?_)
                refine lv_goto (tgt := 227) hx hb dX5_act_162 (by decide) ?_
                refine lv_iload hx hb dX5_act_227 (lv_at hl 0 rfl) ?_
                have hW9 := hW
                have hl9 := hl
                subst ez_16
                have eF : (F_X5_act ka kb kc v a x m) = (true, (v.1, (v.2.1 - x), v.2.2.1, v.2.2.2.1, v.2.2.2.2.1, v.2.2.2.2.2.1, v.2.2.2.2.2.2)) := by
                  unfold F_X5_act
                  rw [if_neg c_1, if_neg c_2, if_neg c_3, if_pos c_4, if_pos c_9, if_neg c_12]
                exact k_zret (wf := [cM h (ka, kb, kc, kd, ke) (v.1, (v.2.1 - x), v.2.2.1, v.2.2.2.1, v.2.2.2.2.1, v.2.2.2.2.2.1, v.2.2.2.2.2.2) t]) S hr hlk hK hW9 [0] rfl rfl (congrArg (fun (z : Bool × S7) => [cM h (ka, kb, kc, kd, ke) z.2 t]) eF).symm (congrArg (fun (z : Bool × S7) => bI z.1) eF).symm dX5_act_229
      ·
        refine lv_aload_n hx hb dX5_act_71 rfl (lv_at hl 1 rfl) ?_
        refine k_get (C := RX5) (T := TX5) (N := 18) (ci := 5) (v := .int v.1) S hK hW k_X5_act_in5 0 10 rfl rfl (by decide) k_X5_act_f61 rfl dX5_act_72 ?_
        refine lv_iconst (v := 1) hx hb dX5_act_75 (by decide) ?_
        refine lv_icmp_gt (tgt := 91) hx hb dX5_act_76 (by decide) (fun c_17 => ?_) (fun c_17 => ?_)
        ·
          refine lv_iconst (v := 0) hx hb dX5_act_91 (by decide) ?_
          refine lv_istore (lv' := [(4, .int 0), (0, .ref (h 18)), (1, .int a), (2, .int x), (3, .int m)]) hx hb dX5_act_92 hl (by decide) rfl (fun ls hl => ?_)
          refine lv_aload_n hx hb dX5_act_94 rfl (lv_at hl 1 rfl) ?_
          refine lv_dup hx hb dX5_act_95 rfl ?_
          refine k_get (C := RX5) (T := TX5) (N := 18) (ci := 5) (v := .int v.2.2.1) S hK hW k_X5_act_in5 0 12 rfl rfl (by decide) k_X5_act_f52 rfl dX5_act_96 ?_
          refine lv_iload hx hb dX5_act_99 (lv_at hl 0 rfl) ?_
          refine lv_if_eq (tgt := 108) hx hb dX5_act_101 (by decide) (fun c_18 => ?_) (fun c_18 => ?_)
          ·
            refine lv_iconst (v := 0) hx hb dX5_act_108 (by decide) ?_
            refine lv_isub hx hb dX5_act_109 ?_
            refine lv_topi (fun z_19 ez_19 => ?_)
            refine k_put (C := RX5) (T := TX5) (N := 18) (ci := 5) (v := .int z_19) (ws' := [cM h (ka, kb, kc, kd, ke) (v.1, v.2.1, z_19, v.2.2.2.1, v.2.2.2.2.1, v.2.2.2.2.2.1, v.2.2.2.2.2.2) t]) S hK hW k_X5_act_in5 tyX5_ok nmX5 0 12 rfl rfl (by decide) k_X5_act_f52 rfl rfl rfl rfl rfl dX5_act_110 (fun H locs hW => ?_)
            refine lv_goto (tgt := 227) hx hb dX5_act_113 (by decide) ?_
            refine lv_iload hx hb dX5_act_227 (lv_at hl 0 rfl) ?_
            have hW9 := hW
            have hl9 := hl
            subst ez_19
            have eF : (F_X5_act ka kb kc v a x m) = (false, (v.1, v.2.1, (v.2.2.1 - 0), v.2.2.2.1, v.2.2.2.2.1, v.2.2.2.2.2.1, v.2.2.2.2.2.2)) := by
              unfold F_X5_act
              rw [if_neg c_1, if_neg c_2, if_pos c_3, if_pos c_17]
            exact k_zret (wf := [cM h (ka, kb, kc, kd, ke) (v.1, v.2.1, (v.2.2.1 - 0), v.2.2.2.1, v.2.2.2.2.1, v.2.2.2.2.2.1, v.2.2.2.2.2.2) t]) S hr hlk hK hW9 [0] rfl rfl (congrArg (fun (z : Bool × S7) => [cM h (ka, kb, kc, kd, ke) z.2 t]) eF).symm (congrArg (fun (z : Bool × S7) => bI z.1) eF).symm dX5_act_229
          ·
            exact absurd c_18 (by decide)
        ·
          refine lv_iload_n hx hb dX5_act_79 rfl (lv_at hl 3 rfl) ?_
          refine lv_aload_n hx hb dX5_act_80 rfl (lv_at hl 1 rfl) ?_
          refine k_get (C := RX5) (T := TX5) (N := 18) (ci := 5) (v := .int v.2.2.1) S hK hW k_X5_act_in5 0 12 rfl rfl (by decide) k_X5_act_f52 rfl dX5_act_81 ?_
          refine lv_icmp_gt (tgt := 91) hx hb dX5_act_84 (by decide) (fun c_20 => ?_) (fun c_20 => ?_)
          ·
            refine lv_iconst (v := 0) hx hb dX5_act_91 (by decide) ?_
            refine lv_istore (lv' := [(4, .int 0), (0, .ref (h 18)), (1, .int a), (2, .int x), (3, .int m)]) hx hb dX5_act_92 hl (by decide) rfl (fun ls hl => ?_)
            refine lv_aload_n hx hb dX5_act_94 rfl (lv_at hl 1 rfl) ?_
            refine lv_dup hx hb dX5_act_95 rfl ?_
            refine k_get (C := RX5) (T := TX5) (N := 18) (ci := 5) (v := .int v.2.2.1) S hK hW k_X5_act_in5 0 12 rfl rfl (by decide) k_X5_act_f52 rfl dX5_act_96 ?_
            refine lv_iload hx hb dX5_act_99 (lv_at hl 0 rfl) ?_
            refine lv_if_eq (tgt := 108) hx hb dX5_act_101 (by decide) (fun c_21 => ?_) (fun c_21 => ?_)
            ·
              refine lv_iconst (v := 0) hx hb dX5_act_108 (by decide) ?_
              refine lv_isub hx hb dX5_act_109 ?_
              refine lv_topi (fun z_22 ez_22 => ?_)
              refine k_put (C := RX5) (T := TX5) (N := 18) (ci := 5) (v := .int z_22) (ws' := [cM h (ka, kb, kc, kd, ke) (v.1, v.2.1, z_22, v.2.2.2.1, v.2.2.2.2.1, v.2.2.2.2.2.1, v.2.2.2.2.2.2) t]) S hK hW k_X5_act_in5 tyX5_ok nmX5 0 12 rfl rfl (by decide) k_X5_act_f52 rfl rfl rfl rfl rfl dX5_act_110 (fun H locs hW => ?_)
              refine lv_goto (tgt := 227) hx hb dX5_act_113 (by decide) ?_
              refine lv_iload hx hb dX5_act_227 (lv_at hl 0 rfl) ?_
              have hW9 := hW
              have hl9 := hl
              subst ez_22
              have eF : (F_X5_act ka kb kc v a x m) = (false, (v.1, v.2.1, (v.2.2.1 - 0), v.2.2.2.1, v.2.2.2.2.1, v.2.2.2.2.2.1, v.2.2.2.2.2.2)) := by
                unfold F_X5_act
                rw [if_neg c_1, if_neg c_2, if_pos c_3, if_neg c_17, if_pos c_20]
              exact k_zret (wf := [cM h (ka, kb, kc, kd, ke) (v.1, v.2.1, (v.2.2.1 - 0), v.2.2.2.1, v.2.2.2.2.1, v.2.2.2.2.2.1, v.2.2.2.2.2.2) t]) S hr hlk hK hW9 [0] rfl rfl (congrArg (fun (z : Bool × S7) => [cM h (ka, kb, kc, kd, ke) z.2 t]) eF).symm (congrArg (fun (z : Bool × S7) => bI z.1) eF).symm dX5_act_229
            ·
              exact absurd c_21 (by decide)
          ·
            refine lv_iconst (v := 1) hx hb dX5_act_87 (by decide) ?_
            refine lv_goto (tgt := 92) hx hb dX5_act_88 (by decide) ?_
            refine lv_istore (lv' := [(4, .int 1), (0, .ref (h 18)), (1, .int a), (2, .int x), (3, .int m)]) hx hb dX5_act_92 hl (by decide) rfl (fun ls hl => ?_)
            refine lv_aload_n hx hb dX5_act_94 rfl (lv_at hl 1 rfl) ?_
            refine lv_dup hx hb dX5_act_95 rfl ?_
            refine k_get (C := RX5) (T := TX5) (N := 18) (ci := 5) (v := .int v.2.2.1) S hK hW k_X5_act_in5 0 12 rfl rfl (by decide) k_X5_act_f52 rfl dX5_act_96 ?_
            refine lv_iload hx hb dX5_act_99 (lv_at hl 0 rfl) ?_
            refine lv_if_eq (tgt := 108) hx hb dX5_act_101 (by decide) (fun c_23 => ?_) (fun c_23 => ?_)
            ·
              exact absurd c_23 (by decide)
            ·
              refine lv_iload_n hx hb dX5_act_104 rfl (lv_at hl 3 rfl) ?_
              refine lv_goto (tgt := 109) hx hb dX5_act_105 (by decide) ?_
              refine lv_isub hx hb dX5_act_109 ?_
              refine lv_topi (fun z_24 ez_24 => ?_)
              refine k_put (C := RX5) (T := TX5) (N := 18) (ci := 5) (v := .int z_24) (ws' := [cM h (ka, kb, kc, kd, ke) (v.1, v.2.1, z_24, v.2.2.2.1, v.2.2.2.2.1, v.2.2.2.2.2.1, v.2.2.2.2.2.2) t]) S hK hW k_X5_act_in5 tyX5_ok nmX5 0 12 rfl rfl (by decide) k_X5_act_f52 rfl rfl rfl rfl rfl dX5_act_110 (fun H locs hW => ?_)
              refine lv_goto (tgt := 227) hx hb dX5_act_113 (by decide) ?_
              refine lv_iload hx hb dX5_act_227 (lv_at hl 0 rfl) ?_
              have hW9 := hW
              have hl9 := hl
              subst ez_24
              have eF : (F_X5_act ka kb kc v a x m) = (true, (v.1, v.2.1, (v.2.2.1 - x), v.2.2.2.1, v.2.2.2.2.1, v.2.2.2.2.2.1, v.2.2.2.2.2.2)) := by
                unfold F_X5_act
                rw [if_neg c_1, if_neg c_2, if_pos c_3, if_neg c_17, if_neg c_20]
              exact k_zret (wf := [cM h (ka, kb, kc, kd, ke) (v.1, v.2.1, (v.2.2.1 - x), v.2.2.2.1, v.2.2.2.2.1, v.2.2.2.2.2.1, v.2.2.2.2.2.2) t]) S hr hlk hK hW9 [0] rfl rfl (congrArg (fun (z : Bool × S7) => [cM h (ka, kb, kc, kd, ke) z.2 t]) eF).symm (congrArg (fun (z : Bool × S7) => bI z.1) eF).symm dX5_act_229
    ·
      refine lv_aload_n hx hb dX5_act_22 rfl (lv_at hl 1 rfl) ?_
      refine k_get (C := RX5) (T := TX5) (N := 18) (ci := 5) (v := .int v.1) S hK hW k_X5_act_in5 0 10 rfl rfl (by decide) k_X5_act_f61 rfl dX5_act_23 ?_
      refine lv_if_ne (tgt := 41) hx hb dX5_act_26 (by decide) (fun c_25 => ?_) (fun c_25 => ?_)
      ·
        refine lv_iconst (v := 0) hx hb dX5_act_41 (by decide) ?_
        refine lv_istore (lv' := [(4, .int 0), (0, .ref (h 18)), (1, .int a), (2, .int x), (3, .int m)]) hx hb dX5_act_42 hl (by decide) rfl (fun ls hl => ?_)
        refine lv_aload_n hx hb dX5_act_44 rfl (lv_at hl 1 rfl) ?_
        refine lv_dup hx hb dX5_act_45 rfl ?_
        refine k_get (C := RX5) (T := TX5) (N := 18) (ci := 5) (v := .int v.2.2.1) S hK hW k_X5_act_in5 0 12 rfl rfl (by decide) k_X5_act_f52 rfl dX5_act_46 ?_
        refine lv_iload hx hb dX5_act_49 (lv_at hl 0 rfl) ?_
        refine lv_if_eq (tgt := 58) hx hb dX5_act_51 (by decide) (fun c_26 => ?_) (fun c_26 => ?_)
        ·
          refine lv_iconst (v := 0) hx hb dX5_act_58 (by decide) ?_
          refine lv_iadd hx hb dX5_act_59 ?_
          refine lv_topi (fun z_27 ez_27 => ?_)
          refine k_put (C := RX5) (T := TX5) (N := 18) (ci := 5) (v := .int z_27) (ws' := [cM h (ka, kb, kc, kd, ke) (v.1, v.2.1, z_27, v.2.2.2.1, v.2.2.2.2.1, v.2.2.2.2.2.1, v.2.2.2.2.2.2) t]) S hK hW k_X5_act_in5 tyX5_ok nmX5 0 12 rfl rfl (by decide) k_X5_act_f52 rfl rfl rfl rfl rfl dX5_act_60 (fun H locs hW => ?_)
          refine lv_goto (tgt := 227) hx hb dX5_act_63 (by decide) ?_
          refine lv_iload hx hb dX5_act_227 (lv_at hl 0 rfl) ?_
          have hW9 := hW
          have hl9 := hl
          subst ez_27
          have eF : (F_X5_act ka kb kc v a x m) = (false, (v.1, v.2.1, (v.2.2.1 + 0), v.2.2.2.1, v.2.2.2.2.1, v.2.2.2.2.2.1, v.2.2.2.2.2.2)) := by
            unfold F_X5_act
            rw [if_neg c_1, if_pos c_2, if_neg c_25]
          exact k_zret (wf := [cM h (ka, kb, kc, kd, ke) (v.1, v.2.1, (v.2.2.1 + 0), v.2.2.2.1, v.2.2.2.2.1, v.2.2.2.2.2.1, v.2.2.2.2.2.2) t]) S hr hlk hK hW9 [0] rfl rfl (congrArg (fun (z : Bool × S7) => [cM h (ka, kb, kc, kd, ke) z.2 t]) eF).symm (congrArg (fun (z : Bool × S7) => bI z.1) eF).symm dX5_act_229
        ·
          exact absurd c_26 (by decide)
      ·
        refine lv_iload_n hx hb dX5_act_29 rfl (lv_at hl 3 rfl) ?_
        refine lv_aload_n hx hb dX5_act_30 rfl (lv_at hl 1 rfl) ?_
        refine k_callVi (C := RX5) (As := []) (rest := [.int x]) (wr := []) (c_X5_freePart l G h ka kb kc kd ke v t) S hK hW gX5_act_X5_freePart rfl ⟨rfl, rfl⟩ nd_X5_freePart ⟨rfl, rfl⟩ (qb := 0) (ci := 5) rfl rfl [0] [] rfl rfl rfl rfl (by decide) rfl hl.1 rfl dX5_act_31 ⟨Nat.zero_le _, Nat.zero_le _⟩ (fun H locs hW => ?_)
        have hW : Wd G A sS.heap [cM h (ka, kb, kc, kd, ke) v t] H locs := hW
        refine lv_icmp_gt (tgt := 41) hx hb dX5_act_34 (by decide) (fun c_28 => ?_) (fun c_28 => ?_)
        ·
          refine lv_iconst (v := 0) hx hb dX5_act_41 (by decide) ?_
          refine lv_istore (lv' := [(4, .int 0), (0, .ref (h 18)), (1, .int a), (2, .int x), (3, .int m)]) hx hb dX5_act_42 hl (by decide) rfl (fun ls hl => ?_)
          refine lv_aload_n hx hb dX5_act_44 rfl (lv_at hl 1 rfl) ?_
          refine lv_dup hx hb dX5_act_45 rfl ?_
          refine k_get (C := RX5) (T := TX5) (N := 18) (ci := 5) (v := .int v.2.2.1) S hK hW k_X5_act_in5 0 12 rfl rfl (by decide) k_X5_act_f52 rfl dX5_act_46 ?_
          refine lv_iload hx hb dX5_act_49 (lv_at hl 0 rfl) ?_
          refine lv_if_eq (tgt := 58) hx hb dX5_act_51 (by decide) (fun c_29 => ?_) (fun c_29 => ?_)
          ·
            refine lv_iconst (v := 0) hx hb dX5_act_58 (by decide) ?_
            refine lv_iadd hx hb dX5_act_59 ?_
            refine lv_topi (fun z_30 ez_30 => ?_)
            refine k_put (C := RX5) (T := TX5) (N := 18) (ci := 5) (v := .int z_30) (ws' := [cM h (ka, kb, kc, kd, ke) (v.1, v.2.1, z_30, v.2.2.2.1, v.2.2.2.2.1, v.2.2.2.2.2.1, v.2.2.2.2.2.2) t]) S hK hW k_X5_act_in5 tyX5_ok nmX5 0 12 rfl rfl (by decide) k_X5_act_f52 rfl rfl rfl rfl rfl dX5_act_60 (fun H locs hW => ?_)
            refine lv_goto (tgt := 227) hx hb dX5_act_63 (by decide) ?_
            refine lv_iload hx hb dX5_act_227 (lv_at hl 0 rfl) ?_
            have hW9 := hW
            have hl9 := hl
            subst ez_30
            have eF : (F_X5_act ka kb kc v a x m) = (false, (v.1, v.2.1, (v.2.2.1 + 0), v.2.2.2.1, v.2.2.2.2.1, v.2.2.2.2.2.1, v.2.2.2.2.2.2)) := by
              unfold F_X5_act
              rw [if_neg c_1, if_pos c_2, if_pos c_25, if_pos c_28]
            exact k_zret (wf := [cM h (ka, kb, kc, kd, ke) (v.1, v.2.1, (v.2.2.1 + 0), v.2.2.2.1, v.2.2.2.2.1, v.2.2.2.2.2.1, v.2.2.2.2.2.2) t]) S hr hlk hK hW9 [0] rfl rfl (congrArg (fun (z : Bool × S7) => [cM h (ka, kb, kc, kd, ke) z.2 t]) eF).symm (congrArg (fun (z : Bool × S7) => bI z.1) eF).symm dX5_act_229
          ·
            exact absurd c_29 (by decide)
        ·
          refine lv_iconst (v := 1) hx hb dX5_act_37 (by decide) ?_
          refine lv_goto (tgt := 42) hx hb dX5_act_38 (by decide) ?_
          refine lv_istore (lv' := [(4, .int 1), (0, .ref (h 18)), (1, .int a), (2, .int x), (3, .int m)]) hx hb dX5_act_42 hl (by decide) rfl (fun ls hl => ?_)
          refine lv_aload_n hx hb dX5_act_44 rfl (lv_at hl 1 rfl) ?_
          refine lv_dup hx hb dX5_act_45 rfl ?_
          refine k_get (C := RX5) (T := TX5) (N := 18) (ci := 5) (v := .int v.2.2.1) S hK hW k_X5_act_in5 0 12 rfl rfl (by decide) k_X5_act_f52 rfl dX5_act_46 ?_
          refine lv_iload hx hb dX5_act_49 (lv_at hl 0 rfl) ?_
          refine lv_if_eq (tgt := 58) hx hb dX5_act_51 (by decide) (fun c_31 => ?_) (fun c_31 => ?_)
          ·
            exact absurd c_31 (by decide)
          ·
            refine lv_iload_n hx hb dX5_act_54 rfl (lv_at hl 3 rfl) ?_
            refine lv_goto (tgt := 59) hx hb dX5_act_55 (by decide) ?_
            refine lv_iadd hx hb dX5_act_59 ?_
            refine lv_topi (fun z_32 ez_32 => ?_)
            refine k_put (C := RX5) (T := TX5) (N := 18) (ci := 5) (v := .int z_32) (ws' := [cM h (ka, kb, kc, kd, ke) (v.1, v.2.1, z_32, v.2.2.2.1, v.2.2.2.2.1, v.2.2.2.2.2.1, v.2.2.2.2.2.2) t]) S hK hW k_X5_act_in5 tyX5_ok nmX5 0 12 rfl rfl (by decide) k_X5_act_f52 rfl rfl rfl rfl rfl dX5_act_60 (fun H locs hW => ?_)
            refine lv_goto (tgt := 227) hx hb dX5_act_63 (by decide) ?_
            refine lv_iload hx hb dX5_act_227 (lv_at hl 0 rfl) ?_
            have hW9 := hW
            have hl9 := hl
            subst ez_32
            have eF : (F_X5_act ka kb kc v a x m) = (true, (v.1, v.2.1, (v.2.2.1 + x), v.2.2.2.1, v.2.2.2.2.1, v.2.2.2.2.2.1, v.2.2.2.2.2.2)) := by
              unfold F_X5_act
              rw [if_neg c_1, if_pos c_2, if_pos c_25, if_neg c_28]
            exact k_zret (wf := [cM h (ka, kb, kc, kd, ke) (v.1, v.2.1, (v.2.2.1 + x), v.2.2.2.1, v.2.2.2.2.1, v.2.2.2.2.2.1, v.2.2.2.2.2.2) t]) S hr hlk hK hW9 [0] rfl rfl (congrArg (fun (z : Bool × S7) => [cM h (ka, kb, kc, kd, ke) z.2 t]) eF).symm (congrArg (fun (z : Bool × S7) => bI z.1) eF).symm dX5_act_229
  ·
    refine lv_aload_n hx hb dX5_act_7 rfl (lv_at hl 1 rfl) ?_
    refine lv_iload_n hx hb dX5_act_8 rfl (lv_at hl 3 rfl) ?_
    refine k_callVi (C := RX5) (As := [.int x]) (rest := []) (wr := []) (c_X5_premium l G h ka kb kc kd ke v t x) S hK hW gX5_act_X5_premium rfl ⟨rfl, rfl⟩ nd_X5_premium ⟨rfl, rfl⟩ (qb := 0) (ci := 5) rfl rfl [0] [] rfl rfl rfl rfl (by decide) rfl hl.1 rfl dX5_act_9 ⟨Nat.zero_le _, Nat.zero_le _⟩ (fun H locs hW => ?_)
    have hW : Wd G A sS.heap [cM h (ka, kb, kc, kd, ke) ((F_X5_premium v x).2) t] H locs := hW
    refine lv_istore (lv' := [(4, .int (bI ((F_X5_premium v x).1))), (0, .ref (h 18)), (1, .int a), (2, .int x), (3, .int m)]) hx hb dX5_act_12 hl (by decide) rfl (fun ls hl => ?_)
    refine lv_goto (tgt := 227) hx hb dX5_act_14 (by decide) ?_
    refine lv_iload hx hb dX5_act_227 (lv_at hl 0 rfl) ?_
    have eF : (F_X5_act ka kb kc v a x m) = ((F_X5_premium v x).1, ((F_X5_premium v x).2)) := by
      unfold F_X5_act
      rw [if_pos c_1]
    exact k_zret (wf := [cM h (ka, kb, kc, kd, ke) ((F_X5_premium v x).2) t]) S hr hlk hK hW [0] rfl rfl (congrArg (fun (z : Bool × S7) => [cM h (ka, kb, kc, kd, ke) z.2 t]) eF).symm (congrArg (fun (z : Bool × S7) => bI z.1) eF).symm dX5_act_229
def F_X5_earn (v : S7) : S7 :=
  if v.2.2.1 ≤ v.2.1 then (if 0 ≤ (lg_cmp (v.2.1.toInt64 - v.2.2.1.toInt64) 1000000) then (v.1, (v.2.1 + ((((2 * v.2.2.1.toInt64) + (3 * 1000000)) + (4 * ((v.2.1.toInt64 - v.2.2.1.toInt64) - 1000000))) / 1200).toInt32), (v.2.2.1 + ((5 * v.2.2.1.toInt64) / 1200).toInt32), v.2.2.2.1, v.2.2.2.2.1, v.2.2.2.2.2.1, v.2.2.2.2.2.2)
    else (v.1, (v.2.1 + ((((2 * v.2.2.1.toInt64) + (3 * (v.2.1.toInt64 - v.2.2.1.toInt64))) + (4 * ((v.2.1.toInt64 - v.2.2.1.toInt64) - (v.2.1.toInt64 - v.2.2.1.toInt64)))) / 1200).toInt32), (v.2.2.1 + ((5 * v.2.2.1.toInt64) / 1200).toInt32), v.2.2.2.1, v.2.2.2.2.1, v.2.2.2.2.2.1, v.2.2.2.2.2.2))
  else (if 0 ≤ (lg_cmp (v.2.1.toInt64 - v.2.1.toInt64) 1000000) then (v.1, (v.2.1 + ((((2 * v.2.1.toInt64) + (3 * 1000000)) + (4 * ((v.2.1.toInt64 - v.2.1.toInt64) - 1000000))) / 1200).toInt32), (v.2.2.1 + ((5 * v.2.2.1.toInt64) / 1200).toInt32), v.2.2.2.1, v.2.2.2.2.1, v.2.2.2.2.2.1, v.2.2.2.2.2.2)
    else (v.1, (v.2.1 + ((((2 * v.2.1.toInt64) + (3 * (v.2.1.toInt64 - v.2.1.toInt64))) + (4 * ((v.2.1.toInt64 - v.2.1.toInt64) - (v.2.1.toInt64 - v.2.1.toInt64)))) / 1200).toInt32), (v.2.2.1 + ((5 * v.2.2.1.toInt64) / 1200).toInt32), v.2.2.2.1, v.2.2.2.2.1, v.2.2.2.2.2.1, v.2.2.2.2.2.2))
set_option maxRecDepth 100000 in
theorem k_X5_earn_f40 : Cond.fieldLink RX5 40 "FlexiblePolicyModel" "account" "I" ∈ wsX5_earn := by decide +kernel
set_option maxRecDepth 100000 in
theorem k_X5_earn_in5 : ∀ w ∈ u_ws RX5 TX5 18, w ∈ wsX5_earn := by decide +kernel
set_option maxRecDepth 100000 in
theorem k_X5_earn_f52 : Cond.fieldLink RX5 52 "FlexiblePolicyModel" "loan" "I" ∈ wsX5_earn := by decide +kernel
set_option maxRecDepth 100000 in
theorem k_X5_earn_c93 : Cond.constantLong RX5 93 (1000000) ∈ wsX5_earn := by decide +kernel
set_option maxRecDepth 100000 in
theorem k_X5_earn_c95 : Cond.constantLong RX5 95 (2) ∈ wsX5_earn := by decide +kernel
set_option maxRecDepth 100000 in
theorem k_X5_earn_c97 : Cond.constantLong RX5 97 (3) ∈ wsX5_earn := by decide +kernel
set_option maxRecDepth 100000 in
theorem k_X5_earn_c99 : Cond.constantLong RX5 99 (4) ∈ wsX5_earn := by decide +kernel
set_option maxRecDepth 100000 in
theorem k_X5_earn_c101 : Cond.constantLong RX5 101 (1200) ∈ wsX5_earn := by decide +kernel
set_option maxRecDepth 100000 in
theorem k_X5_earn_c103 : Cond.constantLong RX5 103 (5) ∈ wsX5_earn := by decide +kernel
theorem nd_X5_earn : yX5_earn.cls = RX5 ∧ yX5_earn.cls ≠ "java/lang/invoke/MethodHandle" ∧ yX5_earn.cls ≠ "java/lang/invoke/VarHandle" ∧ (parseMethodDescriptor yX5_earn.desc).map (fun d => d.parameters.length) = some 0 := by decide +kernel
abbrev rm_X5_earn : Room := { frames := 0, cells := 0, slots := 0, locals := 0 }
set_option maxHeartbeats 4000000 in
set_option maxRecDepth 100000 in
theorem c_X5_earn (l : Launch) (G : GG) (h : Nat → Nat) (ka : Int32) (kb : Int32) (kc : Int32) (kd : Int32) (ke : Int32) (v : S7) (t : Int32) : CV l G yX5_earn wsX5_earn rm_X5_earn [.ref (h 18)] [cM h (ka, kb, kc, kd, ke) v t] [cM h (ka, kb, kc, kd, ke) (F_X5_earn v) t] := by
  refine CV_of (own := RX5) (by decide +kernel) rfl rfl (Nat.le_of_ble_eq_true rfl) ?_
  intro pP eE sS mM args below meth cC A S hK hr hlk hmn hW ls hl
  have hx := S.1
  have hb := S.2.1
  have hl : lv_has ls 7 [(0, .ref (h 18))] := hl
  have hW : Wd G A sS.heap [cM h (ka, kb, kc, kd, ke) v t] sS.heap [] := hW
  refine lv_aload_n hx hb dX5_earn_0 rfl (lv_at hl 0 rfl) ?_
  refine k_get (C := RX5) (T := TX5) (N := 18) (ci := 5) (v := .int v.2.1) S hK hW k_X5_earn_in5 0 11 rfl rfl (by decide) k_X5_earn_f40 rfl dX5_earn_1 ?_
  refine lv_aload_n hx hb dX5_earn_4 rfl (lv_at hl 0 rfl) ?_
  refine k_get (C := RX5) (T := TX5) (N := 18) (ci := 5) (v := .int v.2.2.1) S hK hW k_X5_earn_in5 0 12 rfl rfl (by decide) k_X5_earn_f52 rfl dX5_earn_5 ?_
  refine lv_icmp_ge (tgt := 19) hx hb dX5_earn_8 (by decide) (fun c_1 => ?_) (fun c_1 => ?_)
  ·
    refine lv_aload_n hx hb dX5_earn_19 rfl (lv_at hl 0 rfl) ?_
    refine k_get (C := RX5) (T := TX5) (N := 18) (ci := 5) (v := .int v.2.2.1) S hK hW k_X5_earn_in5 0 12 rfl rfl (by decide) k_X5_earn_f52 rfl dX5_earn_20 ?_
    refine lv_i2l hx hb dX5_earn_23 rfl ?_
    refine lv_lstore_n (lv' := [(1, .long v.2.2.1.toInt64), (0, .ref (h 18))]) hx hb dX5_earn_24 rfl hl (by decide) rfl (fun ls hl => ?_)
    refine lv_aload_n hx hb dX5_earn_25 rfl (lv_at hl 1 rfl) ?_
    refine k_get (C := RX5) (T := TX5) (N := 18) (ci := 5) (v := .int v.2.1) S hK hW k_X5_earn_in5 0 11 rfl rfl (by decide) k_X5_earn_f40 rfl dX5_earn_26 ?_
    refine lv_i2l hx hb dX5_earn_29 rfl ?_
    refine lv_lload_n hx hb dX5_earn_30 rfl (lv_at hl 0 rfl) ?_
    refine lv_lsub hx hb dX5_earn_31 ?_
    refine lv_lstore_n (lv' := [(3, .long (v.2.1.toInt64 - v.2.2.1.toInt64)), (1, .long v.2.2.1.toInt64), (0, .ref (h 18))]) hx hb dX5_earn_32 rfl hl (by decide) rfl (fun ls hl => ?_)
    refine lv_lload_n hx hb dX5_earn_33 rfl (lv_at hl 0 rfl) ?_
    refine k_ldc2 S k_X5_earn_c93 dX5_earn_34 ?_
    refine W.lcmp hx hb dX5_earn_37 ?_
    refine lv_if_ge (tgt := 45) hx hb dX5_earn_38 (by decide) (fun c_2 => ?_) (fun c_2 => ?_)
    ·
      refine k_ldc2 S k_X5_earn_c93 dX5_earn_45 ?_
      refine lv_lstore (lv' := [(5, .long 1000000), (3, .long (v.2.1.toInt64 - v.2.2.1.toInt64)), (1, .long v.2.2.1.toInt64), (0, .ref (h 18))]) hx hb dX5_earn_48 hl (by decide) rfl (fun ls hl => ?_)
      refine lv_aload_n hx hb dX5_earn_50 rfl (lv_at hl 3 rfl) ?_
      refine lv_dup hx hb dX5_earn_51 rfl ?_
      refine k_get (C := RX5) (T := TX5) (N := 18) (ci := 5) (v := .int v.2.1) S hK hW k_X5_earn_in5 0 11 rfl rfl (by decide) k_X5_earn_f40 rfl dX5_earn_52 ?_
      refine k_ldc2 S k_X5_earn_c95 dX5_earn_55 ?_
      refine lv_lload_n hx hb dX5_earn_58 rfl (lv_at hl 2 rfl) ?_
      refine lv_lmul hx hb dX5_earn_59 ?_
      refine k_ldc2 S k_X5_earn_c97 dX5_earn_60 ?_
      refine lv_lload hx hb dX5_earn_63 (lv_at hl 0 rfl) ?_
      refine lv_lmul hx hb dX5_earn_65 ?_
      refine lv_ladd hx hb dX5_earn_66 ?_
      refine k_ldc2 S k_X5_earn_c99 dX5_earn_67 ?_
      refine lv_lload_n hx hb dX5_earn_70 rfl (lv_at hl 1 rfl) ?_
      refine lv_lload hx hb dX5_earn_71 (lv_at hl 0 rfl) ?_
      refine lv_lsub hx hb dX5_earn_73 ?_
      refine lv_lmul hx hb dX5_earn_74 ?_
      refine lv_ladd hx hb dX5_earn_75 ?_
      refine k_ldc2 S k_X5_earn_c101 dX5_earn_76 ?_
      refine lv_ldiv hx hb dX5_earn_79 (by decide) ?_
      refine lv_l2i hx hb dX5_earn_80 rfl ?_
      refine lv_iadd hx hb dX5_earn_81 ?_
      refine lv_topi (fun z_3 ez_3 => ?_)
      refine k_put (C := RX5) (T := TX5) (N := 18) (ci := 5) (v := .int z_3) (ws' := [cM h (ka, kb, kc, kd, ke) (v.1, z_3, v.2.2.1, v.2.2.2.1, v.2.2.2.2.1, v.2.2.2.2.2.1, v.2.2.2.2.2.2) t]) S hK hW k_X5_earn_in5 tyX5_ok nmX5 0 11 rfl rfl (by decide) k_X5_earn_f40 rfl rfl rfl rfl rfl dX5_earn_82 (fun H locs hW => ?_)
      refine lv_aload_n hx hb dX5_earn_85 rfl (lv_at hl 3 rfl) ?_
      refine lv_dup hx hb dX5_earn_86 rfl ?_
      refine k_get (C := RX5) (T := TX5) (N := 18) (ci := 5) (v := .int v.2.2.1) S hK hW k_X5_earn_in5 0 12 rfl rfl (by decide) k_X5_earn_f52 rfl dX5_earn_87 ?_
      refine k_ldc2 S k_X5_earn_c103 dX5_earn_90 ?_
      refine lv_aload_n hx hb dX5_earn_93 rfl (lv_at hl 3 rfl) ?_
      refine k_get (C := RX5) (T := TX5) (N := 18) (ci := 5) (v := .int v.2.2.1) S hK hW k_X5_earn_in5 0 12 rfl rfl (by decide) k_X5_earn_f52 rfl dX5_earn_94 ?_
      refine lv_i2l hx hb dX5_earn_97 rfl ?_
      refine lv_lmul hx hb dX5_earn_98 ?_
      refine k_ldc2 S k_X5_earn_c101 dX5_earn_99 ?_
      refine lv_ldiv hx hb dX5_earn_102 (by decide) ?_
      refine lv_l2i hx hb dX5_earn_103 rfl ?_
      refine lv_iadd hx hb dX5_earn_104 ?_
      refine lv_topi (fun z_4 ez_4 => ?_)
      refine k_put (C := RX5) (T := TX5) (N := 18) (ci := 5) (v := .int z_4) (ws' := [cM h (ka, kb, kc, kd, ke) (v.1, z_3, z_4, v.2.2.2.1, v.2.2.2.2.1, v.2.2.2.2.2.1, v.2.2.2.2.2.2) t]) S hK hW k_X5_earn_in5 tyX5_ok nmX5 0 12 rfl rfl (by decide) k_X5_earn_f52 rfl rfl rfl rfl rfl dX5_earn_105 (fun H locs hW => ?_)
      have hW9 := hW
      have hl9 := hl
      subst ez_3
      subst ez_4
      have eF : (F_X5_earn v) = (v.1, (v.2.1 + ((((2 * v.2.2.1.toInt64) + (3 * 1000000)) + (4 * ((v.2.1.toInt64 - v.2.2.1.toInt64) - 1000000))) / 1200).toInt32), (v.2.2.1 + ((5 * v.2.2.1.toInt64) / 1200).toInt32), v.2.2.2.1, v.2.2.2.2.1, v.2.2.2.2.2.1, v.2.2.2.2.2.2) := by
        unfold F_X5_earn
        rw [if_pos c_1, if_pos c_2]
      exact k_vret (wf := [cM h (ka, kb, kc, kd, ke) (v.1, (v.2.1 + ((((2 * v.2.2.1.toInt64) + (3 * 1000000)) + (4 * ((v.2.1.toInt64 - v.2.2.1.toInt64) - 1000000))) / 1200).toInt32), (v.2.2.1 + ((5 * v.2.2.1.toInt64) / 1200).toInt32), v.2.2.2.1, v.2.2.2.2.1, v.2.2.2.2.2.1, v.2.2.2.2.2.2) t]) S hr hlk hK hW9 [0] rfl rfl (congrArg (fun (z : S7) => [cM h (ka, kb, kc, kd, ke) z t]) eF).symm dX5_earn_108
    ·
      refine lv_lload_n hx hb dX5_earn_41 rfl (lv_at hl 0 rfl) ?_
      refine lv_goto (tgt := 48) hx hb dX5_earn_42 (by decide) ?_
      refine lv_lstore (lv' := [(5, .long (v.2.1.toInt64 - v.2.2.1.toInt64)), (3, .long (v.2.1.toInt64 - v.2.2.1.toInt64)), (1, .long v.2.2.1.toInt64), (0, .ref (h 18))]) hx hb dX5_earn_48 hl (by decide) rfl (fun ls hl => ?_)
      refine lv_aload_n hx hb dX5_earn_50 rfl (lv_at hl 3 rfl) ?_
      refine lv_dup hx hb dX5_earn_51 rfl ?_
      refine k_get (C := RX5) (T := TX5) (N := 18) (ci := 5) (v := .int v.2.1) S hK hW k_X5_earn_in5 0 11 rfl rfl (by decide) k_X5_earn_f40 rfl dX5_earn_52 ?_
      refine k_ldc2 S k_X5_earn_c95 dX5_earn_55 ?_
      refine lv_lload_n hx hb dX5_earn_58 rfl (lv_at hl 2 rfl) ?_
      refine lv_lmul hx hb dX5_earn_59 ?_
      refine k_ldc2 S k_X5_earn_c97 dX5_earn_60 ?_
      refine lv_lload hx hb dX5_earn_63 (lv_at hl 0 rfl) ?_
      refine lv_lmul hx hb dX5_earn_65 ?_
      refine lv_ladd hx hb dX5_earn_66 ?_
      refine k_ldc2 S k_X5_earn_c99 dX5_earn_67 ?_
      refine lv_lload_n hx hb dX5_earn_70 rfl (lv_at hl 1 rfl) ?_
      refine lv_lload hx hb dX5_earn_71 (lv_at hl 0 rfl) ?_
      refine lv_lsub hx hb dX5_earn_73 ?_
      refine lv_lmul hx hb dX5_earn_74 ?_
      refine lv_ladd hx hb dX5_earn_75 ?_
      refine k_ldc2 S k_X5_earn_c101 dX5_earn_76 ?_
      refine lv_ldiv hx hb dX5_earn_79 (by decide) ?_
      refine lv_l2i hx hb dX5_earn_80 rfl ?_
      refine lv_iadd hx hb dX5_earn_81 ?_
      refine lv_topi (fun z_5 ez_5 => ?_)
      refine k_put (C := RX5) (T := TX5) (N := 18) (ci := 5) (v := .int z_5) (ws' := [cM h (ka, kb, kc, kd, ke) (v.1, z_5, v.2.2.1, v.2.2.2.1, v.2.2.2.2.1, v.2.2.2.2.2.1, v.2.2.2.2.2.2) t]) S hK hW k_X5_earn_in5 tyX5_ok nmX5 0 11 rfl rfl (by decide) k_X5_earn_f40 rfl rfl rfl rfl rfl dX5_earn_82 (fun H locs hW => ?_)
      refine lv_aload_n hx hb dX5_earn_85 rfl (lv_at hl 3 rfl) ?_
      refine lv_dup hx hb dX5_earn_86 rfl ?_
      refine k_get (C := RX5) (T := TX5) (N := 18) (ci := 5) (v := .int v.2.2.1) S hK hW k_X5_earn_in5 0 12 rfl rfl (by decide) k_X5_earn_f52 rfl dX5_earn_87 ?_
      refine k_ldc2 S k_X5_earn_c103 dX5_earn_90 ?_
      refine lv_aload_n hx hb dX5_earn_93 rfl (lv_at hl 3 rfl) ?_
      refine k_get (C := RX5) (T := TX5) (N := 18) (ci := 5) (v := .int v.2.2.1) S hK hW k_X5_earn_in5 0 12 rfl rfl (by decide) k_X5_earn_f52 rfl dX5_earn_94 ?_
      refine lv_i2l hx hb dX5_earn_97 rfl ?_
      refine lv_lmul hx hb dX5_earn_98 ?_
      refine k_ldc2 S k_X5_earn_c101 dX5_earn_99 ?_
      refine lv_ldiv hx hb dX5_earn_102 (by decide) ?_
      refine lv_l2i hx hb dX5_earn_103 rfl ?_
      refine lv_iadd hx hb dX5_earn_104 ?_
      refine lv_topi (fun z_6 ez_6 => ?_)
      refine k_put (C := RX5) (T := TX5) (N := 18) (ci := 5) (v := .int z_6) (ws' := [cM h (ka, kb, kc, kd, ke) (v.1, z_5, z_6, v.2.2.2.1, v.2.2.2.2.1, v.2.2.2.2.2.1, v.2.2.2.2.2.2) t]) S hK hW k_X5_earn_in5 tyX5_ok nmX5 0 12 rfl rfl (by decide) k_X5_earn_f52 rfl rfl rfl rfl rfl dX5_earn_105 (fun H locs hW => ?_)
      have hW9 := hW
      have hl9 := hl
      subst ez_5
      subst ez_6
      have eF : (F_X5_earn v) = (v.1, (v.2.1 + ((((2 * v.2.2.1.toInt64) + (3 * (v.2.1.toInt64 - v.2.2.1.toInt64))) + (4 * ((v.2.1.toInt64 - v.2.2.1.toInt64) - (v.2.1.toInt64 - v.2.2.1.toInt64)))) / 1200).toInt32), (v.2.2.1 + ((5 * v.2.2.1.toInt64) / 1200).toInt32), v.2.2.2.1, v.2.2.2.2.1, v.2.2.2.2.2.1, v.2.2.2.2.2.2) := by
        unfold F_X5_earn
        rw [if_pos c_1, if_neg c_2]
      exact k_vret (wf := [cM h (ka, kb, kc, kd, ke) (v.1, (v.2.1 + ((((2 * v.2.2.1.toInt64) + (3 * (v.2.1.toInt64 - v.2.2.1.toInt64))) + (4 * ((v.2.1.toInt64 - v.2.2.1.toInt64) - (v.2.1.toInt64 - v.2.2.1.toInt64)))) / 1200).toInt32), (v.2.2.1 + ((5 * v.2.2.1.toInt64) / 1200).toInt32), v.2.2.2.1, v.2.2.2.2.1, v.2.2.2.2.2.1, v.2.2.2.2.2.2) t]) S hr hlk hK hW9 [0] rfl rfl (congrArg (fun (z : S7) => [cM h (ka, kb, kc, kd, ke) z t]) eF).symm dX5_earn_108
  ·
    refine lv_aload_n hx hb dX5_earn_11 rfl (lv_at hl 0 rfl) ?_
    refine k_get (C := RX5) (T := TX5) (N := 18) (ci := 5) (v := .int v.2.1) S hK hW k_X5_earn_in5 0 11 rfl rfl (by decide) k_X5_earn_f40 rfl dX5_earn_12 ?_
    refine lv_i2l hx hb dX5_earn_15 rfl ?_
    refine lv_goto (tgt := 24) hx hb dX5_earn_16 (by decide) ?_
    refine lv_lstore_n (lv' := [(1, .long v.2.1.toInt64), (0, .ref (h 18))]) hx hb dX5_earn_24 rfl hl (by decide) rfl (fun ls hl => ?_)
    refine lv_aload_n hx hb dX5_earn_25 rfl (lv_at hl 1 rfl) ?_
    refine k_get (C := RX5) (T := TX5) (N := 18) (ci := 5) (v := .int v.2.1) S hK hW k_X5_earn_in5 0 11 rfl rfl (by decide) k_X5_earn_f40 rfl dX5_earn_26 ?_
    refine lv_i2l hx hb dX5_earn_29 rfl ?_
    refine lv_lload_n hx hb dX5_earn_30 rfl (lv_at hl 0 rfl) ?_
    refine lv_lsub hx hb dX5_earn_31 ?_
    refine lv_lstore_n (lv' := [(3, .long (v.2.1.toInt64 - v.2.1.toInt64)), (1, .long v.2.1.toInt64), (0, .ref (h 18))]) hx hb dX5_earn_32 rfl hl (by decide) rfl (fun ls hl => ?_)
    refine lv_lload_n hx hb dX5_earn_33 rfl (lv_at hl 0 rfl) ?_
    refine k_ldc2 S k_X5_earn_c93 dX5_earn_34 ?_
    refine W.lcmp hx hb dX5_earn_37 ?_
    refine lv_if_ge (tgt := 45) hx hb dX5_earn_38 (by decide) (fun c_7 => ?_) (fun c_7 => ?_)
    ·
      refine k_ldc2 S k_X5_earn_c93 dX5_earn_45 ?_
      refine lv_lstore (lv' := [(5, .long 1000000), (3, .long (v.2.1.toInt64 - v.2.1.toInt64)), (1, .long v.2.1.toInt64), (0, .ref (h 18))]) hx hb dX5_earn_48 hl (by decide) rfl (fun ls hl => ?_)
      refine lv_aload_n hx hb dX5_earn_50 rfl (lv_at hl 3 rfl) ?_
      refine lv_dup hx hb dX5_earn_51 rfl ?_
      refine k_get (C := RX5) (T := TX5) (N := 18) (ci := 5) (v := .int v.2.1) S hK hW k_X5_earn_in5 0 11 rfl rfl (by decide) k_X5_earn_f40 rfl dX5_earn_52 ?_
      refine k_ldc2 S k_X5_earn_c95 dX5_earn_55 ?_
      refine lv_lload_n hx hb dX5_earn_58 rfl (lv_at hl 2 rfl) ?_
      refine lv_lmul hx hb dX5_earn_59 ?_
      refine k_ldc2 S k_X5_earn_c97 dX5_earn_60 ?_
      refine lv_lload hx hb dX5_earn_63 (lv_at hl 0 rfl) ?_
      refine lv_lmul hx hb dX5_earn_65 ?_
      refine lv_ladd hx hb dX5_earn_66 ?_
      refine k_ldc2 S k_X5_earn_c99 dX5_earn_67 ?_
      refine lv_lload_n hx hb dX5_earn_70 rfl (lv_at hl 1 rfl) ?_
      refine lv_lload hx hb dX5_earn_71 (lv_at hl 0 rfl) ?_
      refine lv_lsub hx hb dX5_earn_73 ?_
      refine lv_lmul hx hb dX5_earn_74 ?_
      refine lv_ladd hx hb dX5_earn_75 ?_
      refine k_ldc2 S k_X5_earn_c101 dX5_earn_76 ?_
      refine lv_ldiv hx hb dX5_earn_79 (by decide) ?_
      refine lv_l2i hx hb dX5_earn_80 rfl ?_
      refine lv_iadd hx hb dX5_earn_81 ?_
      refine lv_topi (fun z_8 ez_8 => ?_)
      refine k_put (C := RX5) (T := TX5) (N := 18) (ci := 5) (v := .int z_8) (ws' := [cM h (ka, kb, kc, kd, ke) (v.1, z_8, v.2.2.1, v.2.2.2.1, v.2.2.2.2.1, v.2.2.2.2.2.1, v.2.2.2.2.2.2) t]) S hK hW k_X5_earn_in5 tyX5_ok nmX5 0 11 rfl rfl (by decide) k_X5_earn_f40 rfl rfl rfl rfl rfl dX5_earn_82 (fun H locs hW => ?_)
      refine lv_aload_n hx hb dX5_earn_85 rfl (lv_at hl 3 rfl) ?_
      refine lv_dup hx hb dX5_earn_86 rfl ?_
      refine k_get (C := RX5) (T := TX5) (N := 18) (ci := 5) (v := .int v.2.2.1) S hK hW k_X5_earn_in5 0 12 rfl rfl (by decide) k_X5_earn_f52 rfl dX5_earn_87 ?_
      refine k_ldc2 S k_X5_earn_c103 dX5_earn_90 ?_
      refine lv_aload_n hx hb dX5_earn_93 rfl (lv_at hl 3 rfl) ?_
      refine k_get (C := RX5) (T := TX5) (N := 18) (ci := 5) (v := .int v.2.2.1) S hK hW k_X5_earn_in5 0 12 rfl rfl (by decide) k_X5_earn_f52 rfl dX5_earn_94 ?_
      refine lv_i2l hx hb dX5_earn_97 rfl ?_
      refine lv_lmul hx hb dX5_earn_98 ?_
      refine k_ldc2 S k_X5_earn_c101 dX5_earn_99 ?_
      refine lv_ldiv hx hb dX5_earn_102 (by decide) ?_
      refine lv_l2i hx hb dX5_earn_103 rfl ?_
      refine lv_iadd hx hb dX5_earn_104 ?_
      refine lv_topi (fun z_9 ez_9 => ?_)
      refine k_put (C := RX5) (T := TX5) (N := 18) (ci := 5) (v := .int z_9) (ws' := [cM h (ka, kb, kc, kd, ke) (v.1, z_8, z_9, v.2.2.2.1, v.2.2.2.2.1, v.2.2.2.2.2.1, v.2.2.2.2.2.2) t]) S hK hW k_X5_earn_in5 tyX5_ok nmX5 0 12 rfl rfl (by decide) k_X5_earn_f52 rfl rfl rfl rfl rfl dX5_earn_105 (fun H locs hW => ?_)
      have hW9 := hW
      have hl9 := hl
      subst ez_8
      subst ez_9
      have eF : (F_X5_earn v) = (v.1, (v.2.1 + ((((2 * v.2.1.toInt64) + (3 * 1000000)) + (4 * ((v.2.1.toInt64 - v.2.1.toInt64) - 1000000))) / 1200).toInt32), (v.2.2.1 + ((5 * v.2.2.1.toInt64) / 1200).toInt32), v.2.2.2.1, v.2.2.2.2.1, v.2.2.2.2.2.1, v.2.2.2.2.2.2) := by
        unfold F_X5_earn
        rw [if_neg c_1, if_pos c_7]
      exact k_vret (wf := [cM h (ka, kb, kc, kd, ke) (v.1, (v.2.1 + ((((2 * v.2.1.toInt64) + (3 * 1000000)) + (4 * ((v.2.1.toInt64 - v.2.1.toInt64) - 1000000))) / 1200).toInt32), (v.2.2.1 + ((5 * v.2.2.1.toInt64) / 1200).toInt32), v.2.2.2.1, v.2.2.2.2.1, v.2.2.2.2.2.1, v.2.2.2.2.2.2) t]) S hr hlk hK hW9 [0] rfl rfl (congrArg (fun (z : S7) => [cM h (ka, kb, kc, kd, ke) z t]) eF).symm dX5_earn_108
    ·
      refine lv_lload_n hx hb dX5_earn_41 rfl (lv_at hl 0 rfl) ?_
      refine lv_goto (tgt := 48) hx hb dX5_earn_42 (by decide) ?_
      refine lv_lstore (lv' := [(5, .long (v.2.1.toInt64 - v.2.1.toInt64)), (3, .long (v.2.1.toInt64 - v.2.1.toInt64)), (1, .long v.2.1.toInt64), (0, .ref (h 18))]) hx hb dX5_earn_48 hl (by decide) rfl (fun ls hl => ?_)
      refine lv_aload_n hx hb dX5_earn_50 rfl (lv_at hl 3 rfl) ?_
      refine lv_dup hx hb dX5_earn_51 rfl ?_
      refine k_get (C := RX5) (T := TX5) (N := 18) (ci := 5) (v := .int v.2.1) S hK hW k_X5_earn_in5 0 11 rfl rfl (by decide) k_X5_earn_f40 rfl dX5_earn_52 ?_
      refine k_ldc2 S k_X5_earn_c95 dX5_earn_55 ?_
      refine lv_lload_n hx hb dX5_earn_58 rfl (lv_at hl 2 rfl) ?_
      refine lv_lmul hx hb dX5_earn_59 ?_
      refine k_ldc2 S k_X5_earn_c97 dX5_earn_60 ?_
      refine lv_lload hx hb dX5_earn_63 (lv_at hl 0 rfl) ?_
      refine lv_lmul hx hb dX5_earn_65 ?_
      refine lv_ladd hx hb dX5_earn_66 ?_
      refine k_ldc2 S k_X5_earn_c99 dX5_earn_67 ?_
      refine lv_lload_n hx hb dX5_earn_70 rfl (lv_at hl 1 rfl) ?_
      refine lv_lload hx hb dX5_earn_71 (lv_at hl 0 rfl) ?_
      refine lv_lsub hx hb dX5_earn_73 ?_
      refine lv_lmul hx hb dX5_earn_74 ?_
      refine lv_ladd hx hb dX5_earn_75 ?_
      refine k_ldc2 S k_X5_earn_c101 dX5_earn_76 ?_
      refine lv_ldiv hx hb dX5_earn_79 (by decide) ?_
      refine lv_l2i hx hb dX5_earn_80 rfl ?_
      refine lv_iadd hx hb dX5_earn_81 ?_
      refine lv_topi (fun z_10 ez_10 => ?_)
      refine k_put (C := RX5) (T := TX5) (N := 18) (ci := 5) (v := .int z_10) (ws' := [cM h (ka, kb, kc, kd, ke) (v.1, z_10, v.2.2.1, v.2.2.2.1, v.2.2.2.2.1, v.2.2.2.2.2.1, v.2.2.2.2.2.2) t]) S hK hW k_X5_earn_in5 tyX5_ok nmX5 0 11 rfl rfl (by decide) k_X5_earn_f40 rfl rfl rfl rfl rfl dX5_earn_82 (fun H locs hW => ?_)
      refine lv_aload_n hx hb dX5_earn_85 rfl (lv_at hl 3 rfl) ?_
      refine lv_dup hx hb dX5_earn_86 rfl ?_
      refine k_get (C := RX5) (T := TX5) (N := 18) (ci := 5) (v := .int v.2.2.1) S hK hW k_X5_earn_in5 0 12 rfl rfl (by decide) k_X5_earn_f52 rfl dX5_earn_87 ?_
      refine k_ldc2 S k_X5_earn_c103 dX5_earn_90 ?_
      refine lv_aload_n hx hb dX5_earn_93 rfl (lv_at hl 3 rfl) ?_
      refine k_get (C := RX5) (T := TX5) (N := 18) (ci := 5) (v := .int v.2.2.1) S hK hW k_X5_earn_in5 0 12 rfl rfl (by decide) k_X5_earn_f52 rfl dX5_earn_94 ?_
      refine lv_i2l hx hb dX5_earn_97 rfl ?_
      refine lv_lmul hx hb dX5_earn_98 ?_
      refine k_ldc2 S k_X5_earn_c101 dX5_earn_99 ?_
      refine lv_ldiv hx hb dX5_earn_102 (by decide) ?_
      refine lv_l2i hx hb dX5_earn_103 rfl ?_
      refine lv_iadd hx hb dX5_earn_104 ?_
      refine lv_topi (fun z_11 ez_11 => ?_)
      refine k_put (C := RX5) (T := TX5) (N := 18) (ci := 5) (v := .int z_11) (ws' := [cM h (ka, kb, kc, kd, ke) (v.1, z_10, z_11, v.2.2.2.1, v.2.2.2.2.1, v.2.2.2.2.2.1, v.2.2.2.2.2.2) t]) S hK hW k_X5_earn_in5 tyX5_ok nmX5 0 12 rfl rfl (by decide) k_X5_earn_f52 rfl rfl rfl rfl rfl dX5_earn_105 (fun H locs hW => ?_)
      have hW9 := hW
      have hl9 := hl
      subst ez_10
      subst ez_11
      have eF : (F_X5_earn v) = (v.1, (v.2.1 + ((((2 * v.2.1.toInt64) + (3 * (v.2.1.toInt64 - v.2.1.toInt64))) + (4 * ((v.2.1.toInt64 - v.2.1.toInt64) - (v.2.1.toInt64 - v.2.1.toInt64)))) / 1200).toInt32), (v.2.2.1 + ((5 * v.2.2.1.toInt64) / 1200).toInt32), v.2.2.2.1, v.2.2.2.2.1, v.2.2.2.2.2.1, v.2.2.2.2.2.2) := by
        unfold F_X5_earn
        rw [if_neg c_1, if_neg c_7]
      exact k_vret (wf := [cM h (ka, kb, kc, kd, ke) (v.1, (v.2.1 + ((((2 * v.2.1.toInt64) + (3 * (v.2.1.toInt64 - v.2.1.toInt64))) + (4 * ((v.2.1.toInt64 - v.2.1.toInt64) - (v.2.1.toInt64 - v.2.1.toInt64)))) / 1200).toInt32), (v.2.2.1 + ((5 * v.2.2.1.toInt64) / 1200).toInt32), v.2.2.2.1, v.2.2.2.2.1, v.2.2.2.2.2.1, v.2.2.2.2.2.2) t]) S hr hlk hK hW9 [0] rfl rfl (congrArg (fun (z : S7) => [cM h (ka, kb, kc, kd, ke) z t]) eF).symm dX5_earn_108
def F_X5_closeMonth (ka : Int32) (kb : Int32) (kc : Int32) (v : S7) (m : Int32) : S7 :=
  if v.1 = 2 then (if v.1 ≤ 1 then (if (F_X5_freePart (v.1, v.2.1, v.2.2.1, v.2.2.2.1, v.2.2.2.2.1, (v.2.2.2.2.2.1 + 1), v.2.2.2.2.2.2)) < ((F_X5_chargeIn ka kb kc (v.1, v.2.1, v.2.2.1, v.2.2.2.1, v.2.2.2.2.1, (v.2.2.2.2.2.1 + 1), v.2.2.2.2.2.2) m) + v.2.2.2.1) then (if (v.2.2.2.2.1 + 1) = 3 then (2, 0, 0, (v.2.2.2.1 + (F_X5_chargeIn ka kb kc (v.1, v.2.1, v.2.2.1, v.2.2.2.1, v.2.2.2.2.1, (v.2.2.2.2.2.1 + 1), v.2.2.2.2.2.2) m)), 0, 0, v.2.2.2.2.2.2)
        else (F_X5_earn (1, v.2.1, v.2.2.1, (v.2.2.2.1 + (F_X5_chargeIn ka kb kc (v.1, v.2.1, v.2.2.1, v.2.2.2.1, v.2.2.2.2.1, (v.2.2.2.2.2.1 + 1), v.2.2.2.2.2.2) m)), (v.2.2.2.2.1 + 1), (v.2.2.2.2.2.1 + 1), v.2.2.2.2.2.2)))
      else (F_X5_earn (0, (v.2.1 - ((F_X5_chargeIn ka kb kc (v.1, v.2.1, v.2.2.1, v.2.2.2.1, v.2.2.2.2.1, (v.2.2.2.2.2.1 + 1), v.2.2.2.2.2.2) m) + v.2.2.2.1)), v.2.2.1, 0, 0, (v.2.2.2.2.2.1 + 1), v.2.2.2.2.2.2)))
    else (v.1, v.2.1, v.2.2.1, v.2.2.2.1, v.2.2.2.2.1, (v.2.2.2.2.2.1 + 1), v.2.2.2.2.2.2))
  else (if v.1 ≤ 1 then (if (F_X5_freePart v) < ((F_X5_chargeIn ka kb kc v m) + v.2.2.2.1) then (if (v.2.2.2.2.1 + 1) = 3 then (2, 0, 0, (v.2.2.2.1 + (F_X5_chargeIn ka kb kc v m)), 0, 0, v.2.2.2.2.2.2)
        else (F_X5_earn (1, v.2.1, v.2.2.1, (v.2.2.2.1 + (F_X5_chargeIn ka kb kc v m)), (v.2.2.2.2.1 + 1), v.2.2.2.2.2.1, v.2.2.2.2.2.2)))
      else (F_X5_earn (0, (v.2.1 - ((F_X5_chargeIn ka kb kc v m) + v.2.2.2.1)), v.2.2.1, 0, 0, v.2.2.2.2.2.1, v.2.2.2.2.2.2)))
    else v)
set_option maxRecDepth 100000 in
theorem k_X5_closeMonth_f61 : Cond.fieldLink RX5 61 "FlexiblePolicyModel" "state" "I" ∈ wsX5_closeMonth := by decide +kernel
set_option maxRecDepth 100000 in
theorem k_X5_closeMonth_in5 : ∀ w ∈ u_ws RX5 TX5 18, w ∈ wsX5_closeMonth := by decide +kernel
set_option maxRecDepth 100000 in
theorem k_X5_closeMonth_f64 : Cond.fieldLink RX5 64 "FlexiblePolicyModel" "arrears" "I" ∈ wsX5_closeMonth := by decide +kernel
set_option maxRecDepth 100000 in
theorem k_X5_closeMonth_f67 : Cond.fieldLink RX5 67 "FlexiblePolicyModel" "graceMonths" "I" ∈ wsX5_closeMonth := by decide +kernel
set_option maxRecDepth 100000 in
theorem k_X5_closeMonth_f40 : Cond.fieldLink RX5 40 "FlexiblePolicyModel" "account" "I" ∈ wsX5_closeMonth := by decide +kernel
set_option maxRecDepth 100000 in
theorem k_X5_closeMonth_f52 : Cond.fieldLink RX5 52 "FlexiblePolicyModel" "loan" "I" ∈ wsX5_closeMonth := by decide +kernel
set_option maxRecDepth 100000 in
theorem k_X5_closeMonth_f70 : Cond.fieldLink RX5 70 "FlexiblePolicyModel" "lapsedMonths" "I" ∈ wsX5_closeMonth := by decide +kernel
theorem nd_X5_closeMonth : yX5_closeMonth.cls = RX5 ∧ yX5_closeMonth.cls ≠ "java/lang/invoke/MethodHandle" ∧ yX5_closeMonth.cls ≠ "java/lang/invoke/VarHandle" ∧ (parseMethodDescriptor yX5_closeMonth.desc).map (fun d => d.parameters.length) = some 1 := by decide +kernel
abbrev rm_X5_closeMonth : Room := { frames := 3, cells := 0, slots := 0, locals := 71 }
set_option maxHeartbeats 4000000 in
set_option maxRecDepth 100000 in
theorem c_X5_closeMonth (l : Launch) (G : GG) (h : Nat → Nat) (ka : Int32) (kb : Int32) (kc : Int32) (kd : Int32) (ke : Int32) (v : S7) (t : Int32) (m : Int32) : CV l G yX5_closeMonth wsX5_closeMonth rm_X5_closeMonth [.ref (h 18), .int m] [cM h (ka, kb, kc, kd, ke) v t] [cM h (ka, kb, kc, kd, ke) (F_X5_closeMonth ka kb kc v m) t] := by
  refine CV_of (own := RX5) (by decide +kernel) rfl rfl (Nat.le_of_ble_eq_true rfl) ?_
  intro pP eE sS mM args below meth cC A S hK hr hlk hmn hW ls hl
  have hx := S.1
  have hb := S.2.1
  have hl : lv_has ls 3 [(0, .ref (h 18)), (1, .int m)] := hl
  have hW : Wd G A sS.heap [cM h (ka, kb, kc, kd, ke) v t] sS.heap [] := hW
  refine lv_aload_n hx hb dX5_closeMonth_0 rfl (lv_at hl 0 rfl) ?_
  refine k_get (C := RX5) (T := TX5) (N := 18) (ci := 5) (v := .int v.1) S hK hW k_X5_closeMonth_in5 0 10 rfl rfl (by decide) k_X5_closeMonth_f61 rfl dX5_closeMonth_1 ?_
  refine lv_iconst (v := 2) hx hb dX5_closeMonth_4 (by decide) ?_
  refine lv_icmp_ne (tgt := 18) hx hb dX5_closeMonth_5 (by decide) (fun c_1 => ?_) (fun c_1 => ?_)
  ·
    refine lv_aload_n hx hb dX5_closeMonth_18 rfl (lv_at hl 0 rfl) ?_
    refine k_get (C := RX5) (T := TX5) (N := 18) (ci := 5) (v := .int v.1) S hK hW k_X5_closeMonth_in5 0 10 rfl rfl (by decide) k_X5_closeMonth_f61 rfl dX5_closeMonth_19 ?_
    refine lv_iconst (v := 1) hx hb dX5_closeMonth_22 (by decide) ?_
    refine lv_icmp_le (tgt := 27) hx hb dX5_closeMonth_23 (by decide) (fun c_2 => ?_) (fun c_2 => ?_)
    ·
      refine lv_aload_n hx hb dX5_closeMonth_27 rfl (lv_at hl 0 rfl) ?_
      refine lv_iload_n hx hb dX5_closeMonth_28 rfl (lv_at hl 1 rfl) ?_
      refine k_callVi (C := RX5) (As := [.int m]) (rest := []) (wr := []) (c_X5_chargeIn l G h ka kb kc kd ke v t m) S hK hW gX5_closeMonth_X5_chargeIn rfl ⟨rfl, rfl⟩ nd_X5_chargeIn ⟨rfl, rfl⟩ (qb := 0) (ci := 5) rfl rfl [0] [] rfl rfl rfl rfl (by decide) rfl hl.1 rfl dX5_closeMonth_29 ⟨Nat.zero_le _, Nat.zero_le _⟩ (fun H locs hW => ?_)
      have hW : Wd G A sS.heap [cM h (ka, kb, kc, kd, ke) v t] H locs := hW
      refine lv_istore_n (lv' := [(2, .int (F_X5_chargeIn ka kb kc v m)), (0, .ref (h 18)), (1, .int m)]) hx hb dX5_closeMonth_32 rfl hl (by decide) rfl (fun ls hl => ?_)
      refine lv_aload_n hx hb dX5_closeMonth_33 rfl (lv_at hl 1 rfl) ?_
      refine k_callVi (C := RX5) (As := []) (rest := []) (wr := []) (c_X5_freePart l G h ka kb kc kd ke v t) S hK hW gX5_closeMonth_X5_freePart rfl ⟨rfl, rfl⟩ nd_X5_freePart ⟨rfl, rfl⟩ (qb := 0) (ci := 5) rfl rfl [0] [] rfl rfl rfl rfl (by decide) rfl hl.1 rfl dX5_closeMonth_34 ⟨Nat.zero_le _, Nat.zero_le _⟩ (fun H locs hW => ?_)
      have hW : Wd G A sS.heap [cM h (ka, kb, kc, kd, ke) v t] H locs := hW
      refine lv_iload_n hx hb dX5_closeMonth_37 rfl (lv_at hl 0 rfl) ?_
      refine lv_aload_n hx hb dX5_closeMonth_38 rfl (lv_at hl 1 rfl) ?_
      refine k_get (C := RX5) (T := TX5) (N := 18) (ci := 5) (v := .int v.2.2.2.1) S hK hW k_X5_closeMonth_in5 0 13 rfl rfl (by decide) k_X5_closeMonth_f64 rfl dX5_closeMonth_39 ?_
      refine lv_iadd hx hb dX5_closeMonth_42 ?_
      refine lv_icmp_lt (tgt := 79) hx hb dX5_closeMonth_43 (by decide) (fun c_3 => ?_) (fun c_3 => ?_)
      ·
        refine lv_aload_n hx hb dX5_closeMonth_79 rfl (lv_at hl 1 rfl) ?_
        refine lv_dup hx hb dX5_closeMonth_80 rfl ?_
        refine k_get (C := RX5) (T := TX5) (N := 18) (ci := 5) (v := .int v.2.2.2.1) S hK hW k_X5_closeMonth_in5 0 13 rfl rfl (by decide) k_X5_closeMonth_f64 rfl dX5_closeMonth_81 ?_
        refine lv_iload_n hx hb dX5_closeMonth_84 rfl (lv_at hl 0 rfl) ?_
        refine lv_iadd hx hb dX5_closeMonth_85 ?_
        refine lv_topi (fun z_4 ez_4 => ?_)
        refine k_put (C := RX5) (T := TX5) (N := 18) (ci := 5) (v := .int z_4) (ws' := [cM h (ka, kb, kc, kd, ke) (v.1, v.2.1, v.2.2.1, z_4, v.2.2.2.2.1, v.2.2.2.2.2.1, v.2.2.2.2.2.2) t]) S hK hW k_X5_closeMonth_in5 tyX5_ok nmX5 0 13 rfl rfl (by decide) k_X5_closeMonth_f64 rfl rfl rfl rfl rfl dX5_closeMonth_86 (fun H locs hW => ?_)
        refine lv_aload_n hx hb dX5_closeMonth_89 rfl (lv_at hl 1 rfl) ?_
        refine lv_iconst (v := 1) hx hb dX5_closeMonth_90 (by decide) ?_
        refine k_put (C := RX5) (T := TX5) (N := 18) (ci := 5) (v := .int 1) (ws' := [cM h (ka, kb, kc, kd, ke) (1, v.2.1, v.2.2.1, z_4, v.2.2.2.2.1, v.2.2.2.2.2.1, v.2.2.2.2.2.2) t]) S hK hW k_X5_closeMonth_in5 tyX5_ok nmX5 0 10 rfl rfl (by decide) k_X5_closeMonth_f61 rfl rfl rfl rfl rfl dX5_closeMonth_91 (fun H locs hW => ?_)
        refine lv_aload_n hx hb dX5_closeMonth_94 rfl (lv_at hl 1 rfl) ?_
        refine lv_dup hx hb dX5_closeMonth_95 rfl ?_
        refine k_get (C := RX5) (T := TX5) (N := 18) (ci := 5) (v := .int v.2.2.2.2.1) S hK hW k_X5_closeMonth_in5 0 14 rfl rfl (by decide) k_X5_closeMonth_f67 rfl dX5_closeMonth_96 ?_
        refine lv_iconst (v := 1) hx hb dX5_closeMonth_99 (by decide) ?_
        refine lv_iadd hx hb dX5_closeMonth_100 ?_
        refine lv_topi (fun z_5 ez_5 => ?_)
        refine k_put (C := RX5) (T := TX5) (N := 18) (ci := 5) (v := .int z_5) (ws' := [cM h (ka, kb, kc, kd, ke) (1, v.2.1, v.2.2.1, z_4, z_5, v.2.2.2.2.2.1, v.2.2.2.2.2.2) t]) S hK hW k_X5_closeMonth_in5 tyX5_ok nmX5 0 14 rfl rfl (by decide) k_X5_closeMonth_f67 rfl rfl rfl rfl rfl dX5_closeMonth_101 (fun H locs hW => ?_)
        refine lv_aload_n hx hb dX5_closeMonth_104 rfl (lv_at hl 1 rfl) ?_
        refine k_get (C := RX5) (T := TX5) (N := 18) (ci := 5) (v := .int z_5) S hK hW k_X5_closeMonth_in5 0 14 rfl rfl (by decide) k_X5_closeMonth_f67 rfl dX5_closeMonth_105 ?_
        refine lv_iconst (v := 3) hx hb dX5_closeMonth_108 (by decide) ?_
        refine lv_icmp_ne (tgt := 140) hx hb dX5_closeMonth_109 (by decide) (fun c_6 => ?_) (fun c_6 => ?_)
        ·
          refine lv_aload_n hx hb dX5_closeMonth_140 rfl (lv_at hl 1 rfl) ?_
          refine k_callVv (C := RX5) (As := []) (rest := []) (wr := []) (c_X5_earn l G h ka kb kc kd ke (1, v.2.1, v.2.2.1, z_4, z_5, v.2.2.2.2.2.1, v.2.2.2.2.2.2) t) S hK hW gX5_closeMonth_X5_earn rfl ⟨rfl, rfl⟩ nd_X5_earn ⟨rfl, rfl⟩ (qb := 0) (ci := 5) rfl rfl [0] [] rfl rfl rfl rfl (by decide) rfl hl.1 rfl dX5_closeMonth_141 ⟨Nat.zero_le _, Nat.zero_le _⟩ (fun H locs hW => ?_)
          have hW : Wd G A sS.heap [cM h (ka, kb, kc, kd, ke) (F_X5_earn (1, v.2.1, v.2.2.1, z_4, z_5, v.2.2.2.2.2.1, v.2.2.2.2.2.2)) t] H locs := hW
          have hW9 := hW
          have hl9 := hl
          subst ez_4
          subst ez_5
          have eF : (F_X5_closeMonth ka kb kc v m) = (F_X5_earn (1, v.2.1, v.2.2.1, (v.2.2.2.1 + (F_X5_chargeIn ka kb kc v m)), (v.2.2.2.2.1 + 1), v.2.2.2.2.2.1, v.2.2.2.2.2.2)) := by
            unfold F_X5_closeMonth
            rw [if_neg c_1, if_pos c_2, if_pos c_3, if_neg c_6]
          exact k_vret (wf := [cM h (ka, kb, kc, kd, ke) (F_X5_earn (1, v.2.1, v.2.2.1, (v.2.2.2.1 + (F_X5_chargeIn ka kb kc v m)), (v.2.2.2.2.1 + 1), v.2.2.2.2.2.1, v.2.2.2.2.2.2)) t]) S hr hlk hK hW9 [0] rfl rfl (congrArg (fun (z : S7) => [cM h (ka, kb, kc, kd, ke) z t]) eF).symm dX5_closeMonth_144
        ·
          refine lv_aload_n hx hb dX5_closeMonth_112 rfl (lv_at hl 1 rfl) ?_
          refine lv_iconst (v := 2) hx hb dX5_closeMonth_113 (by decide) ?_
          refine k_put (C := RX5) (T := TX5) (N := 18) (ci := 5) (v := .int 2) (ws' := [cM h (ka, kb, kc, kd, ke) (2, v.2.1, v.2.2.1, z_4, z_5, v.2.2.2.2.2.1, v.2.2.2.2.2.2) t]) S hK hW k_X5_closeMonth_in5 tyX5_ok nmX5 0 10 rfl rfl (by decide) k_X5_closeMonth_f61 rfl rfl rfl rfl rfl dX5_closeMonth_114 (fun H locs hW => ?_)
          refine lv_aload_n hx hb dX5_closeMonth_117 rfl (lv_at hl 1 rfl) ?_
          refine lv_iconst (v := 0) hx hb dX5_closeMonth_118 (by decide) ?_
          refine k_put (C := RX5) (T := TX5) (N := 18) (ci := 5) (v := .int 0) (ws' := [cM h (ka, kb, kc, kd, ke) (2, 0, v.2.2.1, z_4, z_5, v.2.2.2.2.2.1, v.2.2.2.2.2.2) t]) S hK hW k_X5_closeMonth_in5 tyX5_ok nmX5 0 11 rfl rfl (by decide) k_X5_closeMonth_f40 rfl rfl rfl rfl rfl dX5_closeMonth_119 (fun H locs hW => ?_)
          refine lv_aload_n hx hb dX5_closeMonth_122 rfl (lv_at hl 1 rfl) ?_
          refine lv_iconst (v := 0) hx hb dX5_closeMonth_123 (by decide) ?_
          refine k_put (C := RX5) (T := TX5) (N := 18) (ci := 5) (v := .int 0) (ws' := [cM h (ka, kb, kc, kd, ke) (2, 0, 0, z_4, z_5, v.2.2.2.2.2.1, v.2.2.2.2.2.2) t]) S hK hW k_X5_closeMonth_in5 tyX5_ok nmX5 0 12 rfl rfl (by decide) k_X5_closeMonth_f52 rfl rfl rfl rfl rfl dX5_closeMonth_124 (fun H locs hW => ?_)
          refine lv_aload_n hx hb dX5_closeMonth_127 rfl (lv_at hl 1 rfl) ?_
          refine lv_iconst (v := 0) hx hb dX5_closeMonth_128 (by decide) ?_
          refine k_put (C := RX5) (T := TX5) (N := 18) (ci := 5) (v := .int 0) (ws' := [cM h (ka, kb, kc, kd, ke) (2, 0, 0, z_4, 0, v.2.2.2.2.2.1, v.2.2.2.2.2.2) t]) S hK hW k_X5_closeMonth_in5 tyX5_ok nmX5 0 14 rfl rfl (by decide) k_X5_closeMonth_f67 rfl rfl rfl rfl rfl dX5_closeMonth_129 (fun H locs hW => ?_)
          refine lv_aload_n hx hb dX5_closeMonth_132 rfl (lv_at hl 1 rfl) ?_
          refine lv_iconst (v := 0) hx hb dX5_closeMonth_133 (by decide) ?_
          refine k_put (C := RX5) (T := TX5) (N := 18) (ci := 5) (v := .int 0) (ws' := [cM h (ka, kb, kc, kd, ke) (2, 0, 0, z_4, 0, 0, v.2.2.2.2.2.2) t]) S hK hW k_X5_closeMonth_in5 tyX5_ok nmX5 0 15 rfl rfl (by decide) k_X5_closeMonth_f70 rfl rfl rfl rfl rfl dX5_closeMonth_134 (fun H locs hW => ?_)
          refine lv_goto (tgt := 144) hx hb dX5_closeMonth_137 (by decide) ?_
          have hW9 := hW
          have hl9 := hl
          subst ez_4
          subst ez_5
          have eF : (F_X5_closeMonth ka kb kc v m) = (2, 0, 0, (v.2.2.2.1 + (F_X5_chargeIn ka kb kc v m)), 0, 0, v.2.2.2.2.2.2) := by
            unfold F_X5_closeMonth
            rw [if_neg c_1, if_pos c_2, if_pos c_3, if_pos c_6]
          exact k_vret (wf := [cM h (ka, kb, kc, kd, ke) (2, 0, 0, (v.2.2.2.1 + (F_X5_chargeIn ka kb kc v m)), 0, 0, v.2.2.2.2.2.2) t]) S hr hlk hK hW9 [0] rfl rfl (congrArg (fun (z : S7) => [cM h (ka, kb, kc, kd, ke) z t]) eF).symm dX5_closeMonth_144
      ·
        refine lv_aload_n hx hb dX5_closeMonth_46 rfl (lv_at hl 1 rfl) ?_
        refine lv_dup hx hb dX5_closeMonth_47 rfl ?_
        refine k_get (C := RX5) (T := TX5) (N := 18) (ci := 5) (v := .int v.2.1) S hK hW k_X5_closeMonth_in5 0 11 rfl rfl (by decide) k_X5_closeMonth_f40 rfl dX5_closeMonth_48 ?_
        refine lv_iload_n hx hb dX5_closeMonth_51 rfl (lv_at hl 0 rfl) ?_
        refine lv_aload_n hx hb dX5_closeMonth_52 rfl (lv_at hl 1 rfl) ?_
        refine k_get (C := RX5) (T := TX5) (N := 18) (ci := 5) (v := .int v.2.2.2.1) S hK hW k_X5_closeMonth_in5 0 13 rfl rfl (by decide) k_X5_closeMonth_f64 rfl dX5_closeMonth_53 ?_
        refine lv_iadd hx hb dX5_closeMonth_56 ?_
        refine lv_isub hx hb dX5_closeMonth_57 ?_
        refine lv_topi (fun z_7 ez_7 => ?_)
        refine k_put (C := RX5) (T := TX5) (N := 18) (ci := 5) (v := .int z_7) (ws' := [cM h (ka, kb, kc, kd, ke) (v.1, z_7, v.2.2.1, v.2.2.2.1, v.2.2.2.2.1, v.2.2.2.2.2.1, v.2.2.2.2.2.2) t]) S hK hW k_X5_closeMonth_in5 tyX5_ok nmX5 0 11 rfl rfl (by decide) k_X5_closeMonth_f40 rfl rfl rfl rfl rfl dX5_closeMonth_58 (fun H locs hW => ?_)
        refine lv_aload_n hx hb dX5_closeMonth_61 rfl (lv_at hl 1 rfl) ?_
        refine lv_iconst (v := 0) hx hb dX5_closeMonth_62 (by decide) ?_
        refine k_put (C := RX5) (T := TX5) (N := 18) (ci := 5) (v := .int 0) (ws' := [cM h (ka, kb, kc, kd, ke) (v.1, z_7, v.2.2.1, 0, v.2.2.2.2.1, v.2.2.2.2.2.1, v.2.2.2.2.2.2) t]) S hK hW k_X5_closeMonth_in5 tyX5_ok nmX5 0 13 rfl rfl (by decide) k_X5_closeMonth_f64 rfl rfl rfl rfl rfl dX5_closeMonth_63 (fun H locs hW => ?_)
        refine lv_aload_n hx hb dX5_closeMonth_66 rfl (lv_at hl 1 rfl) ?_
        refine lv_iconst (v := 0) hx hb dX5_closeMonth_67 (by decide) ?_
        refine k_put (C := RX5) (T := TX5) (N := 18) (ci := 5) (v := .int 0) (ws' := [cM h (ka, kb, kc, kd, ke) (0, z_7, v.2.2.1, 0, v.2.2.2.2.1, v.2.2.2.2.2.1, v.2.2.2.2.2.2) t]) S hK hW k_X5_closeMonth_in5 tyX5_ok nmX5 0 10 rfl rfl (by decide) k_X5_closeMonth_f61 rfl rfl rfl rfl rfl dX5_closeMonth_68 (fun H locs hW => ?_)
        refine lv_aload_n hx hb dX5_closeMonth_71 rfl (lv_at hl 1 rfl) ?_
        refine lv_iconst (v := 0) hx hb dX5_closeMonth_72 (by decide) ?_
        refine k_put (C := RX5) (T := TX5) (N := 18) (ci := 5) (v := .int 0) (ws' := [cM h (ka, kb, kc, kd, ke) (0, z_7, v.2.2.1, 0, 0, v.2.2.2.2.2.1, v.2.2.2.2.2.2) t]) S hK hW k_X5_closeMonth_in5 tyX5_ok nmX5 0 14 rfl rfl (by decide) k_X5_closeMonth_f67 rfl rfl rfl rfl rfl dX5_closeMonth_73 (fun H locs hW => ?_)
        refine lv_goto (tgt := 104) hx hb dX5_closeMonth_76 (by decide) ?_
        refine lv_aload_n hx hb dX5_closeMonth_104 rfl (lv_at hl 1 rfl) ?_
        refine k_get (C := RX5) (T := TX5) (N := 18) (ci := 5) (v := .int 0) S hK hW k_X5_closeMonth_in5 0 14 rfl rfl (by decide) k_X5_closeMonth_f67 rfl dX5_closeMonth_105 ?_
        refine lv_iconst (v := 3) hx hb dX5_closeMonth_108 (by decide) ?_
        refine lv_icmp_ne (tgt := 140) hx hb dX5_closeMonth_109 (by decide) (fun c_8 => ?_) (fun c_8 => ?_)
        ·
          refine lv_aload_n hx hb dX5_closeMonth_140 rfl (lv_at hl 1 rfl) ?_
          refine k_callVv (C := RX5) (As := []) (rest := []) (wr := []) (c_X5_earn l G h ka kb kc kd ke (0, z_7, v.2.2.1, 0, 0, v.2.2.2.2.2.1, v.2.2.2.2.2.2) t) S hK hW gX5_closeMonth_X5_earn rfl ⟨rfl, rfl⟩ nd_X5_earn ⟨rfl, rfl⟩ (qb := 0) (ci := 5) rfl rfl [0] [] rfl rfl rfl rfl (by decide) rfl hl.1 rfl dX5_closeMonth_141 ⟨Nat.zero_le _, Nat.zero_le _⟩ (fun H locs hW => ?_)
          have hW : Wd G A sS.heap [cM h (ka, kb, kc, kd, ke) (F_X5_earn (0, z_7, v.2.2.1, 0, 0, v.2.2.2.2.2.1, v.2.2.2.2.2.2)) t] H locs := hW
          have hW9 := hW
          have hl9 := hl
          subst ez_7
          have eF : (F_X5_closeMonth ka kb kc v m) = (F_X5_earn (0, (v.2.1 - ((F_X5_chargeIn ka kb kc v m) + v.2.2.2.1)), v.2.2.1, 0, 0, v.2.2.2.2.2.1, v.2.2.2.2.2.2)) := by
            unfold F_X5_closeMonth
            rw [if_neg c_1, if_pos c_2, if_neg c_3]
          exact k_vret (wf := [cM h (ka, kb, kc, kd, ke) (F_X5_earn (0, (v.2.1 - ((F_X5_chargeIn ka kb kc v m) + v.2.2.2.1)), v.2.2.1, 0, 0, v.2.2.2.2.2.1, v.2.2.2.2.2.2)) t]) S hr hlk hK hW9 [0] rfl rfl (congrArg (fun (z : S7) => [cM h (ka, kb, kc, kd, ke) z t]) eF).symm dX5_closeMonth_144
        ·
          exact absurd c_8 (by decide)
    ·
      have eF : (F_X5_closeMonth ka kb kc v m) = v := by
        unfold F_X5_closeMonth
        rw [if_neg c_1, if_neg c_2]
      exact k_vret (wf := [cM h (ka, kb, kc, kd, ke) v t]) S hr hlk hK hW [0] rfl rfl (congrArg (fun (z : S7) => [cM h (ka, kb, kc, kd, ke) z t]) eF).symm dX5_closeMonth_26
  ·
    refine lv_aload_n hx hb dX5_closeMonth_8 rfl (lv_at hl 0 rfl) ?_
    refine lv_dup hx hb dX5_closeMonth_9 rfl ?_
    refine k_get (C := RX5) (T := TX5) (N := 18) (ci := 5) (v := .int v.2.2.2.2.2.1) S hK hW k_X5_closeMonth_in5 0 15 rfl rfl (by decide) k_X5_closeMonth_f70 rfl dX5_closeMonth_10 ?_
    refine lv_iconst (v := 1) hx hb dX5_closeMonth_13 (by decide) ?_
    refine lv_iadd hx hb dX5_closeMonth_14 ?_
    refine lv_topi (fun z_9 ez_9 => ?_)
    refine k_put (C := RX5) (T := TX5) (N := 18) (ci := 5) (v := .int z_9) (ws' := [cM h (ka, kb, kc, kd, ke) (v.1, v.2.1, v.2.2.1, v.2.2.2.1, v.2.2.2.2.1, z_9, v.2.2.2.2.2.2) t]) S hK hW k_X5_closeMonth_in5 tyX5_ok nmX5 0 15 rfl rfl (by decide) k_X5_closeMonth_f70 rfl rfl rfl rfl rfl dX5_closeMonth_15 (fun H locs hW => ?_)
    refine lv_aload_n hx hb dX5_closeMonth_18 rfl (lv_at hl 0 rfl) ?_
    refine k_get (C := RX5) (T := TX5) (N := 18) (ci := 5) (v := .int v.1) S hK hW k_X5_closeMonth_in5 0 10 rfl rfl (by decide) k_X5_closeMonth_f61 rfl dX5_closeMonth_19 ?_
    refine lv_iconst (v := 1) hx hb dX5_closeMonth_22 (by decide) ?_
    refine lv_icmp_le (tgt := 27) hx hb dX5_closeMonth_23 (by decide) (fun c_10 => ?_) (fun c_10 => ?_)
    ·
      refine lv_aload_n hx hb dX5_closeMonth_27 rfl (lv_at hl 0 rfl) ?_
      refine lv_iload_n hx hb dX5_closeMonth_28 rfl (lv_at hl 1 rfl) ?_
      refine k_callVi (C := RX5) (As := [.int m]) (rest := []) (wr := []) (c_X5_chargeIn l G h ka kb kc kd ke (v.1, v.2.1, v.2.2.1, v.2.2.2.1, v.2.2.2.2.1, z_9, v.2.2.2.2.2.2) t m) S hK hW gX5_closeMonth_X5_chargeIn rfl ⟨rfl, rfl⟩ nd_X5_chargeIn ⟨rfl, rfl⟩ (qb := 0) (ci := 5) rfl rfl [0] [] rfl rfl rfl rfl (by decide) rfl hl.1 rfl dX5_closeMonth_29 ⟨Nat.zero_le _, Nat.zero_le _⟩ (fun H locs hW => ?_)
      have hW : Wd G A sS.heap [cM h (ka, kb, kc, kd, ke) (v.1, v.2.1, v.2.2.1, v.2.2.2.1, v.2.2.2.2.1, z_9, v.2.2.2.2.2.2) t] H locs := hW
      refine lv_istore_n (lv' := [(2, .int (F_X5_chargeIn ka kb kc (v.1, v.2.1, v.2.2.1, v.2.2.2.1, v.2.2.2.2.1, z_9, v.2.2.2.2.2.2) m)), (0, .ref (h 18)), (1, .int m)]) hx hb dX5_closeMonth_32 rfl hl (by decide) rfl (fun ls hl => ?_)
      refine lv_aload_n hx hb dX5_closeMonth_33 rfl (lv_at hl 1 rfl) ?_
      refine k_callVi (C := RX5) (As := []) (rest := []) (wr := []) (c_X5_freePart l G h ka kb kc kd ke (v.1, v.2.1, v.2.2.1, v.2.2.2.1, v.2.2.2.2.1, z_9, v.2.2.2.2.2.2) t) S hK hW gX5_closeMonth_X5_freePart rfl ⟨rfl, rfl⟩ nd_X5_freePart ⟨rfl, rfl⟩ (qb := 0) (ci := 5) rfl rfl [0] [] rfl rfl rfl rfl (by decide) rfl hl.1 rfl dX5_closeMonth_34 ⟨Nat.zero_le _, Nat.zero_le _⟩ (fun H locs hW => ?_)
      have hW : Wd G A sS.heap [cM h (ka, kb, kc, kd, ke) (v.1, v.2.1, v.2.2.1, v.2.2.2.1, v.2.2.2.2.1, z_9, v.2.2.2.2.2.2) t] H locs := hW
      refine lv_iload_n hx hb dX5_closeMonth_37 rfl (lv_at hl 0 rfl) ?_
      refine lv_aload_n hx hb dX5_closeMonth_38 rfl (lv_at hl 1 rfl) ?_
      refine k_get (C := RX5) (T := TX5) (N := 18) (ci := 5) (v := .int v.2.2.2.1) S hK hW k_X5_closeMonth_in5 0 13 rfl rfl (by decide) k_X5_closeMonth_f64 rfl dX5_closeMonth_39 ?_
      refine lv_iadd hx hb dX5_closeMonth_42 ?_
      refine lv_icmp_lt (tgt := 79) hx hb dX5_closeMonth_43 (by decide) (fun c_11 => ?_) (fun c_11 => ?_)
      ·
        refine lv_aload_n hx hb dX5_closeMonth_79 rfl (lv_at hl 1 rfl) ?_
        refine lv_dup hx hb dX5_closeMonth_80 rfl ?_
        refine k_get (C := RX5) (T := TX5) (N := 18) (ci := 5) (v := .int v.2.2.2.1) S hK hW k_X5_closeMonth_in5 0 13 rfl rfl (by decide) k_X5_closeMonth_f64 rfl dX5_closeMonth_81 ?_
        refine lv_iload_n hx hb dX5_closeMonth_84 rfl (lv_at hl 0 rfl) ?_
        refine lv_iadd hx hb dX5_closeMonth_85 ?_
        refine lv_topi (fun z_12 ez_12 => ?_)
        refine k_put (C := RX5) (T := TX5) (N := 18) (ci := 5) (v := .int z_12) (ws' := [cM h (ka, kb, kc, kd, ke) (v.1, v.2.1, v.2.2.1, z_12, v.2.2.2.2.1, z_9, v.2.2.2.2.2.2) t]) S hK hW k_X5_closeMonth_in5 tyX5_ok nmX5 0 13 rfl rfl (by decide) k_X5_closeMonth_f64 rfl rfl rfl rfl rfl dX5_closeMonth_86 (fun H locs hW => ?_)
        refine lv_aload_n hx hb dX5_closeMonth_89 rfl (lv_at hl 1 rfl) ?_
        refine lv_iconst (v := 1) hx hb dX5_closeMonth_90 (by decide) ?_
        refine k_put (C := RX5) (T := TX5) (N := 18) (ci := 5) (v := .int 1) (ws' := [cM h (ka, kb, kc, kd, ke) (1, v.2.1, v.2.2.1, z_12, v.2.2.2.2.1, z_9, v.2.2.2.2.2.2) t]) S hK hW k_X5_closeMonth_in5 tyX5_ok nmX5 0 10 rfl rfl (by decide) k_X5_closeMonth_f61 rfl rfl rfl rfl rfl dX5_closeMonth_91 (fun H locs hW => ?_)
        refine lv_aload_n hx hb dX5_closeMonth_94 rfl (lv_at hl 1 rfl) ?_
        refine lv_dup hx hb dX5_closeMonth_95 rfl ?_
        refine k_get (C := RX5) (T := TX5) (N := 18) (ci := 5) (v := .int v.2.2.2.2.1) S hK hW k_X5_closeMonth_in5 0 14 rfl rfl (by decide) k_X5_closeMonth_f67 rfl dX5_closeMonth_96 ?_
        refine lv_iconst (v := 1) hx hb dX5_closeMonth_99 (by decide) ?_
        refine lv_iadd hx hb dX5_closeMonth_100 ?_
        refine lv_topi (fun z_13 ez_13 => ?_)
        refine k_put (C := RX5) (T := TX5) (N := 18) (ci := 5) (v := .int z_13) (ws' := [cM h (ka, kb, kc, kd, ke) (1, v.2.1, v.2.2.1, z_12, z_13, z_9, v.2.2.2.2.2.2) t]) S hK hW k_X5_closeMonth_in5 tyX5_ok nmX5 0 14 rfl rfl (by decide) k_X5_closeMonth_f67 rfl rfl rfl rfl rfl dX5_closeMonth_101 (fun H locs hW => ?_)
        refine lv_aload_n hx hb dX5_closeMonth_104 rfl (lv_at hl 1 rfl) ?_
        refine k_get (C := RX5) (T := TX5) (N := 18) (ci := 5) (v := .int z_13) S hK hW k_X5_closeMonth_in5 0 14 rfl rfl (by decide) k_X5_closeMonth_f67 rfl dX5_closeMonth_105 ?_
        refine lv_iconst (v := 3) hx hb dX5_closeMonth_108 (by decide) ?_
        refine lv_icmp_ne (tgt := 140) hx hb dX5_closeMonth_109 (by decide) (fun c_14 => ?_) (fun c_14 => ?_)
        ·
          refine lv_aload_n hx hb dX5_closeMonth_140 rfl (lv_at hl 1 rfl) ?_
          refine k_callVv (C := RX5) (As := []) (rest := []) (wr := []) (c_X5_earn l G h ka kb kc kd ke (1, v.2.1, v.2.2.1, z_12, z_13, z_9, v.2.2.2.2.2.2) t) S hK hW gX5_closeMonth_X5_earn rfl ⟨rfl, rfl⟩ nd_X5_earn ⟨rfl, rfl⟩ (qb := 0) (ci := 5) rfl rfl [0] [] rfl rfl rfl rfl (by decide) rfl hl.1 rfl dX5_closeMonth_141 ⟨Nat.zero_le _, Nat.zero_le _⟩ (fun H locs hW => ?_)
          have hW : Wd G A sS.heap [cM h (ka, kb, kc, kd, ke) (F_X5_earn (1, v.2.1, v.2.2.1, z_12, z_13, z_9, v.2.2.2.2.2.2)) t] H locs := hW
          have hW9 := hW
          have hl9 := hl
          subst ez_9
          subst ez_12
          subst ez_13
          have eF : (F_X5_closeMonth ka kb kc v m) = (F_X5_earn (1, v.2.1, v.2.2.1, (v.2.2.2.1 + (F_X5_chargeIn ka kb kc (v.1, v.2.1, v.2.2.1, v.2.2.2.1, v.2.2.2.2.1, (v.2.2.2.2.2.1 + 1), v.2.2.2.2.2.2) m)), (v.2.2.2.2.1 + 1), (v.2.2.2.2.2.1 + 1), v.2.2.2.2.2.2)) := by
            unfold F_X5_closeMonth
            rw [if_pos c_1, if_pos c_10, if_pos c_11, if_neg c_14]
          exact k_vret (wf := [cM h (ka, kb, kc, kd, ke) (F_X5_earn (1, v.2.1, v.2.2.1, (v.2.2.2.1 + (F_X5_chargeIn ka kb kc (v.1, v.2.1, v.2.2.1, v.2.2.2.1, v.2.2.2.2.1, (v.2.2.2.2.2.1 + 1), v.2.2.2.2.2.2) m)), (v.2.2.2.2.1 + 1), (v.2.2.2.2.2.1 + 1), v.2.2.2.2.2.2)) t]) S hr hlk hK hW9 [0] rfl rfl (congrArg (fun (z : S7) => [cM h (ka, kb, kc, kd, ke) z t]) eF).symm dX5_closeMonth_144
        ·
          refine lv_aload_n hx hb dX5_closeMonth_112 rfl (lv_at hl 1 rfl) ?_
          refine lv_iconst (v := 2) hx hb dX5_closeMonth_113 (by decide) ?_
          refine k_put (C := RX5) (T := TX5) (N := 18) (ci := 5) (v := .int 2) (ws' := [cM h (ka, kb, kc, kd, ke) (2, v.2.1, v.2.2.1, z_12, z_13, z_9, v.2.2.2.2.2.2) t]) S hK hW k_X5_closeMonth_in5 tyX5_ok nmX5 0 10 rfl rfl (by decide) k_X5_closeMonth_f61 rfl rfl rfl rfl rfl dX5_closeMonth_114 (fun H locs hW => ?_)
          refine lv_aload_n hx hb dX5_closeMonth_117 rfl (lv_at hl 1 rfl) ?_
          refine lv_iconst (v := 0) hx hb dX5_closeMonth_118 (by decide) ?_
          refine k_put (C := RX5) (T := TX5) (N := 18) (ci := 5) (v := .int 0) (ws' := [cM h (ka, kb, kc, kd, ke) (2, 0, v.2.2.1, z_12, z_13, z_9, v.2.2.2.2.2.2) t]) S hK hW k_X5_closeMonth_in5 tyX5_ok nmX5 0 11 rfl rfl (by decide) k_X5_closeMonth_f40 rfl rfl rfl rfl rfl dX5_closeMonth_119 (fun H locs hW => ?_)
          refine lv_aload_n hx hb dX5_closeMonth_122 rfl (lv_at hl 1 rfl) ?_
          refine lv_iconst (v := 0) hx hb dX5_closeMonth_123 (by decide) ?_
          refine k_put (C := RX5) (T := TX5) (N := 18) (ci := 5) (v := .int 0) (ws' := [cM h (ka, kb, kc, kd, ke) (2, 0, 0, z_12, z_13, z_9, v.2.2.2.2.2.2) t]) S hK hW k_X5_closeMonth_in5 tyX5_ok nmX5 0 12 rfl rfl (by decide) k_X5_closeMonth_f52 rfl rfl rfl rfl rfl dX5_closeMonth_124 (fun H locs hW => ?_)
          refine lv_aload_n hx hb dX5_closeMonth_127 rfl (lv_at hl 1 rfl) ?_
          refine lv_iconst (v := 0) hx hb dX5_closeMonth_128 (by decide) ?_
          refine k_put (C := RX5) (T := TX5) (N := 18) (ci := 5) (v := .int 0) (ws' := [cM h (ka, kb, kc, kd, ke) (2, 0, 0, z_12, 0, z_9, v.2.2.2.2.2.2) t]) S hK hW k_X5_closeMonth_in5 tyX5_ok nmX5 0 14 rfl rfl (by decide) k_X5_closeMonth_f67 rfl rfl rfl rfl rfl dX5_closeMonth_129 (fun H locs hW => ?_)
          refine lv_aload_n hx hb dX5_closeMonth_132 rfl (lv_at hl 1 rfl) ?_
          refine lv_iconst (v := 0) hx hb dX5_closeMonth_133 (by decide) ?_
          refine k_put (C := RX5) (T := TX5) (N := 18) (ci := 5) (v := .int 0) (ws' := [cM h (ka, kb, kc, kd, ke) (2, 0, 0, z_12, 0, 0, v.2.2.2.2.2.2) t]) S hK hW k_X5_closeMonth_in5 tyX5_ok nmX5 0 15 rfl rfl (by decide) k_X5_closeMonth_f70 rfl rfl rfl rfl rfl dX5_closeMonth_134 (fun H locs hW => ?_)
          refine lv_goto (tgt := 144) hx hb dX5_closeMonth_137 (by decide) ?_
          have hW9 := hW
          have hl9 := hl
          subst ez_9
          subst ez_12
          subst ez_13
          have eF : (F_X5_closeMonth ka kb kc v m) = (2, 0, 0, (v.2.2.2.1 + (F_X5_chargeIn ka kb kc (v.1, v.2.1, v.2.2.1, v.2.2.2.1, v.2.2.2.2.1, (v.2.2.2.2.2.1 + 1), v.2.2.2.2.2.2) m)), 0, 0, v.2.2.2.2.2.2) := by
            unfold F_X5_closeMonth
            rw [if_pos c_1, if_pos c_10, if_pos c_11, if_pos c_14]
          exact k_vret (wf := [cM h (ka, kb, kc, kd, ke) (2, 0, 0, (v.2.2.2.1 + (F_X5_chargeIn ka kb kc (v.1, v.2.1, v.2.2.1, v.2.2.2.1, v.2.2.2.2.1, (v.2.2.2.2.2.1 + 1), v.2.2.2.2.2.2) m)), 0, 0, v.2.2.2.2.2.2) t]) S hr hlk hK hW9 [0] rfl rfl (congrArg (fun (z : S7) => [cM h (ka, kb, kc, kd, ke) z t]) eF).symm dX5_closeMonth_144
      ·
        refine lv_aload_n hx hb dX5_closeMonth_46 rfl (lv_at hl 1 rfl) ?_
        refine lv_dup hx hb dX5_closeMonth_47 rfl ?_
        refine k_get (C := RX5) (T := TX5) (N := 18) (ci := 5) (v := .int v.2.1) S hK hW k_X5_closeMonth_in5 0 11 rfl rfl (by decide) k_X5_closeMonth_f40 rfl dX5_closeMonth_48 ?_
        refine lv_iload_n hx hb dX5_closeMonth_51 rfl (lv_at hl 0 rfl) ?_
        refine lv_aload_n hx hb dX5_closeMonth_52 rfl (lv_at hl 1 rfl) ?_
        refine k_get (C := RX5) (T := TX5) (N := 18) (ci := 5) (v := .int v.2.2.2.1) S hK hW k_X5_closeMonth_in5 0 13 rfl rfl (by decide) k_X5_closeMonth_f64 rfl dX5_closeMonth_53 ?_
        refine lv_iadd hx hb dX5_closeMonth_56 ?_
        refine lv_isub hx hb dX5_closeMonth_57 ?_
        refine lv_topi (fun z_15 ez_15 => ?_)
        refine k_put (C := RX5) (T := TX5) (N := 18) (ci := 5) (v := .int z_15) (ws' := [cM h (ka, kb, kc, kd, ke) (v.1, z_15, v.2.2.1, v.2.2.2.1, v.2.2.2.2.1, z_9, v.2.2.2.2.2.2) t]) S hK hW k_X5_closeMonth_in5 tyX5_ok nmX5 0 11 rfl rfl (by decide) k_X5_closeMonth_f40 rfl rfl rfl rfl rfl dX5_closeMonth_58 (fun H locs hW => ?_)
        refine lv_aload_n hx hb dX5_closeMonth_61 rfl (lv_at hl 1 rfl) ?_
        refine lv_iconst (v := 0) hx hb dX5_closeMonth_62 (by decide) ?_
        refine k_put (C := RX5) (T := TX5) (N := 18) (ci := 5) (v := .int 0) (ws' := [cM h (ka, kb, kc, kd, ke) (v.1, z_15, v.2.2.1, 0, v.2.2.2.2.1, z_9, v.2.2.2.2.2.2) t]) S hK hW k_X5_closeMonth_in5 tyX5_ok nmX5 0 13 rfl rfl (by decide) k_X5_closeMonth_f64 rfl rfl rfl rfl rfl dX5_closeMonth_63 (fun H locs hW => ?_)
        refine lv_aload_n hx hb dX5_closeMonth_66 rfl (lv_at hl 1 rfl) ?_
        refine lv_iconst (v := 0) hx hb dX5_closeMonth_67 (by decide) ?_
        refine k_put (C := RX5) (T := TX5) (N := 18) (ci := 5) (v := .int 0) (ws' := [cM h (ka, kb, kc, kd, ke) (0, z_15, v.2.2.1, 0, v.2.2.2.2.1, z_9, v.2.2.2.2.2.2) t]) S hK hW k_X5_closeMonth_in5 tyX5_ok nmX5 0 10 rfl rfl (by decide) k_X5_closeMonth_f61 rfl rfl rfl rfl rfl dX5_closeMonth_68 (fun H locs hW => ?_)
        refine lv_aload_n hx hb dX5_closeMonth_71 rfl (lv_at hl 1 rfl) ?_
        refine lv_iconst (v := 0) hx hb dX5_closeMonth_72 (by decide) ?_
        refine k_put (C := RX5) (T := TX5) (N := 18) (ci := 5) (v := .int 0) (ws' := [cM h (ka, kb, kc, kd, ke) (0, z_15, v.2.2.1, 0, 0, z_9, v.2.2.2.2.2.2) t]) S hK hW k_X5_closeMonth_in5 tyX5_ok nmX5 0 14 rfl rfl (by decide) k_X5_closeMonth_f67 rfl rfl rfl rfl rfl dX5_closeMonth_73 (fun H locs hW => ?_)
        refine lv_goto (tgt := 104) hx hb dX5_closeMonth_76 (by decide) ?_
        refine lv_aload_n hx hb dX5_closeMonth_104 rfl (lv_at hl 1 rfl) ?_
        refine k_get (C := RX5) (T := TX5) (N := 18) (ci := 5) (v := .int 0) S hK hW k_X5_closeMonth_in5 0 14 rfl rfl (by decide) k_X5_closeMonth_f67 rfl dX5_closeMonth_105 ?_
        refine lv_iconst (v := 3) hx hb dX5_closeMonth_108 (by decide) ?_
        refine lv_icmp_ne (tgt := 140) hx hb dX5_closeMonth_109 (by decide) (fun c_16 => ?_) (fun c_16 => ?_)
        ·
          refine lv_aload_n hx hb dX5_closeMonth_140 rfl (lv_at hl 1 rfl) ?_
          refine k_callVv (C := RX5) (As := []) (rest := []) (wr := []) (c_X5_earn l G h ka kb kc kd ke (0, z_15, v.2.2.1, 0, 0, z_9, v.2.2.2.2.2.2) t) S hK hW gX5_closeMonth_X5_earn rfl ⟨rfl, rfl⟩ nd_X5_earn ⟨rfl, rfl⟩ (qb := 0) (ci := 5) rfl rfl [0] [] rfl rfl rfl rfl (by decide) rfl hl.1 rfl dX5_closeMonth_141 ⟨Nat.zero_le _, Nat.zero_le _⟩ (fun H locs hW => ?_)
          have hW : Wd G A sS.heap [cM h (ka, kb, kc, kd, ke) (F_X5_earn (0, z_15, v.2.2.1, 0, 0, z_9, v.2.2.2.2.2.2)) t] H locs := hW
          have hW9 := hW
          have hl9 := hl
          subst ez_9
          subst ez_15
          have eF : (F_X5_closeMonth ka kb kc v m) = (F_X5_earn (0, (v.2.1 - ((F_X5_chargeIn ka kb kc (v.1, v.2.1, v.2.2.1, v.2.2.2.1, v.2.2.2.2.1, (v.2.2.2.2.2.1 + 1), v.2.2.2.2.2.2) m) + v.2.2.2.1)), v.2.2.1, 0, 0, (v.2.2.2.2.2.1 + 1), v.2.2.2.2.2.2)) := by
            unfold F_X5_closeMonth
            rw [if_pos c_1, if_pos c_10, if_neg c_11]
          exact k_vret (wf := [cM h (ka, kb, kc, kd, ke) (F_X5_earn (0, (v.2.1 - ((F_X5_chargeIn ka kb kc (v.1, v.2.1, v.2.2.1, v.2.2.2.1, v.2.2.2.2.1, (v.2.2.2.2.2.1 + 1), v.2.2.2.2.2.2) m) + v.2.2.2.1)), v.2.2.1, 0, 0, (v.2.2.2.2.2.1 + 1), v.2.2.2.2.2.2)) t]) S hr hlk hK hW9 [0] rfl rfl (congrArg (fun (z : S7) => [cM h (ka, kb, kc, kd, ke) z t]) eF).symm dX5_closeMonth_144
        ·
          exact absurd c_16 (by decide)
    ·
      have hW9 := hW
      have hl9 := hl
      subst ez_9
      have eF : (F_X5_closeMonth ka kb kc v m) = (v.1, v.2.1, v.2.2.1, v.2.2.2.1, v.2.2.2.2.1, (v.2.2.2.2.2.1 + 1), v.2.2.2.2.2.2) := by
        unfold F_X5_closeMonth
        rw [if_pos c_1, if_neg c_10]
      exact k_vret (wf := [cM h (ka, kb, kc, kd, ke) (v.1, v.2.1, v.2.2.1, v.2.2.2.1, v.2.2.2.2.1, (v.2.2.2.2.2.1 + 1), v.2.2.2.2.2.2) t]) S hr hlk hK hW9 [0] rfl rfl (congrArg (fun (z : S7) => [cM h (ka, kb, kc, kd, ke) z t]) eF).symm dX5_closeMonth_26
def F_X5_begin (ka : Int32) (kb : Int32) (kc : Int32) (kd : Int32) (ke : Int32) (x1 : Int32) (x2 : Int32) (x3 : Int32) : Int32 × Int32 × Int32 × Int32 × Int32 × Int32 × Int32 :=
  if bI (F_X5_in x1 18 70) = 0 then (0, ka, kb, kc, kd, ke, 1)
  else (if bI (F_X5_in x2 100000 50000000) = 0 then (0, ka, kb, kc, kd, ke, 1)
    else (if bI (F_X5_in x3 0 1) = 0 then (0, ka, kb, kc, kd, ke, 1)
      else (kd, x1, x2, x3, 0, 0, 0)))
set_option maxRecDepth 100000 in
theorem k_X5_begin_f34 : Cond.fieldLink RX5 34 "FlexiblePolicyModel" "thrown" "I" ∈ wsX5_begin := by decide +kernel
set_option maxRecDepth 100000 in
theorem k_X5_begin_in5 : ∀ w ∈ u_ws RX5 TX5 18, w ∈ wsX5_begin := by decide +kernel
set_option maxRecDepth 100000 in
theorem k_X5_begin_c131 : Cond.constant RX5 131 (100000) ∈ wsX5_begin := by decide +kernel
set_option maxRecDepth 100000 in
theorem k_X5_begin_c132 : Cond.constant RX5 132 (50000000) ∈ wsX5_begin := by decide +kernel
set_option maxRecDepth 100000 in
theorem k_X5_begin_f122 : Cond.fieldLink RX5 122 "FlexiblePolicyModel" "now" "I" ∈ wsX5_begin := by decide +kernel
set_option maxRecDepth 100000 in
theorem k_X5_begin_f26 : Cond.fieldLink RX5 26 "FlexiblePolicyModel" "beginAge" "I" ∈ wsX5_begin := by decide +kernel
set_option maxRecDepth 100000 in
theorem k_X5_begin_f31 : Cond.fieldLink RX5 31 "FlexiblePolicyModel" "sum" "I" ∈ wsX5_begin := by decide +kernel
set_option maxRecDepth 100000 in
theorem k_X5_begin_f37 : Cond.fieldLink RX5 37 "FlexiblePolicyModel" "kind" "I" ∈ wsX5_begin := by decide +kernel
set_option maxRecDepth 100000 in
theorem k_X5_begin_f105 : Cond.fieldLink RX5 105 "FlexiblePolicyModel" "actMany" "I" ∈ wsX5_begin := by decide +kernel
theorem nd_X5_begin : yX5_begin.cls = RX5 ∧ yX5_begin.cls ≠ "java/lang/invoke/MethodHandle" ∧ yX5_begin.cls ≠ "java/lang/invoke/VarHandle" ∧ (parseMethodDescriptor yX5_begin.desc).map (fun d => d.parameters.length) = some 3 := by decide +kernel
abbrev rm_X5_begin : Room := { frames := 1, cells := 0, slots := 0, locals := 22 }
set_option maxHeartbeats 4000000 in
set_option maxRecDepth 100000 in
theorem c_X5_begin (l : Launch) (G : GG) (h : Nat → Nat) (ka : Int32) (kb : Int32) (kc : Int32) (kd : Int32) (ke : Int32) (v : S7) (t : Int32) (x1 : Int32) (x2 : Int32) (x3 : Int32) : CI l G yX5_begin wsX5_begin rm_X5_begin [.ref (h 18), .int x1, .int x2, .int x3] [cM h (ka, kb, kc, kd, ke) v t] ((F_X5_begin ka kb kc kd ke x1 x2 x3).1) [cM h (((F_X5_begin ka kb kc kd ke x1 x2 x3).2.1), ((F_X5_begin ka kb kc kd ke x1 x2 x3).2.2.1), ((F_X5_begin ka kb kc kd ke x1 x2 x3).2.2.2.1), ((F_X5_begin ka kb kc kd ke x1 x2 x3).2.2.2.2.1), ((F_X5_begin ka kb kc kd ke x1 x2 x3).2.2.2.2.2.1)) v ((F_X5_begin ka kb kc kd ke x1 x2 x3).2.2.2.2.2.2)] := by
  refine CI_of (own := RX5) (by decide +kernel) rfl rfl (Nat.le_of_ble_eq_true rfl) ?_
  intro pP eE sS mM args below meth cC A S hK hr hlk hmn hW ls hl
  have hx := S.1
  have hb := S.2.1
  have hl : lv_has ls 5 [(0, .ref (h 18)), (1, .int x1), (2, .int x2), (3, .int x3)] := hl
  have hW : Wd G A sS.heap [cM h (ka, kb, kc, kd, ke) v t] sS.heap [] := hW
  refine lv_aload_n hx hb dX5_begin_0 rfl (lv_at hl 0 rfl) ?_
  refine lv_iload_n hx hb dX5_begin_1 rfl (lv_at hl 1 rfl) ?_
  refine lv_bipush (v := 18) hx hb dX5_begin_2 (by decide) ?_
  refine lv_bipush (v := 70) hx hb dX5_begin_4 (by decide) ?_
  refine k_callSi (As := [.int x1, .int 18, .int 70]) (rest := [.ref (h 18)]) (wr := [cM h (ka, kb, kc, kd, ke) v t]) (c_X5_in l G x1 18 70) S hK hW gX5_begin_X5_in rfl ⟨rfl, rfl⟩ nd_X5_in ⟨rfl, rfl⟩ [] [0] rfl rfl rfl rfl (by decide) rfl hl.1 rfl dX5_begin_6 ⟨Nat.zero_le _, Nat.zero_le _⟩ (fun H locs hW => ?_)
  have hW : Wd G A sS.heap [cM h (ka, kb, kc, kd, ke) v t] H locs := hW
  refine lv_if_eq (tgt := 32) hx hb dX5_begin_9 (by decide) (fun c_1 => ?_) (fun c_1 => ?_)
  ·
    refine lv_iconst (v := 1) hx hb dX5_begin_32 (by decide) ?_
    refine lv_goto (tgt := 37) hx hb dX5_begin_33 (by decide) ?_
    refine k_put (C := RX5) (T := TX5) (N := 18) (ci := 5) (v := .int 1) (ws' := [cM h (ka, kb, kc, kd, ke) v 1]) S hK hW k_X5_begin_in5 tyX5_ok nmX5 0 17 rfl rfl (by decide) k_X5_begin_f34 rfl rfl rfl rfl rfl dX5_begin_37 (fun H locs hW => ?_)
    refine lv_aload_n hx hb dX5_begin_40 rfl (lv_at hl 0 rfl) ?_
    refine k_get (C := RX5) (T := TX5) (N := 18) (ci := 5) (v := .int 1) S hK hW k_X5_begin_in5 0 17 rfl rfl (by decide) k_X5_begin_f34 rfl dX5_begin_41 ?_
    refine lv_if_le (tgt := 49) hx hb dX5_begin_44 (by decide) (fun c_2 => ?_) (fun c_2 => ?_)
    ·
      exact absurd c_2 (by decide)
    ·
      refine lv_iconst (v := 0) hx hb dX5_begin_47 (by decide) ?_
      have eF : (F_X5_begin ka kb kc kd ke x1 x2 x3) = (0, ka, kb, kc, kd, ke, 1) := by
        unfold F_X5_begin
        rw [if_pos c_1]
      exact k_iret (wf := [cM h (ka, kb, kc, kd, ke) v 1]) S hr hlk hK hW [0] rfl rfl (congrArg (fun (z : Int32 × Int32 × Int32 × Int32 × Int32 × Int32 × Int32) => [cM h (z.2.1, z.2.2.1, z.2.2.2.1, z.2.2.2.2.1, z.2.2.2.2.2.1) v z.2.2.2.2.2.2]) eF).symm (congrArg (fun (z : Int32 × Int32 × Int32 × Int32 × Int32 × Int32 × Int32) => z.1) eF).symm dX5_begin_48
  ·
    refine lv_iload_n hx hb dX5_begin_12 rfl (lv_at hl 2 rfl) ?_
    refine k_ldc S k_X5_begin_c131 dX5_begin_13 ?_
    refine k_ldc S k_X5_begin_c132 dX5_begin_15 ?_
    refine k_callSi (As := [.int x2, .int 100000, .int 50000000]) (rest := [.ref (h 18)]) (wr := [cM h (ka, kb, kc, kd, ke) v t]) (c_X5_in l G x2 100000 50000000) S hK hW gX5_begin_X5_in rfl ⟨rfl, rfl⟩ nd_X5_in ⟨rfl, rfl⟩ [] [0] rfl rfl rfl rfl (by decide) rfl hl.1 rfl dX5_begin_17 ⟨Nat.zero_le _, Nat.zero_le _⟩ (fun H locs hW => ?_)
    have hW : Wd G A sS.heap [cM h (ka, kb, kc, kd, ke) v t] H locs := hW
    refine lv_if_eq (tgt := 32) hx hb dX5_begin_20 (by decide) (fun c_3 => ?_) (fun c_3 => ?_)
    ·
      refine lv_iconst (v := 1) hx hb dX5_begin_32 (by decide) ?_
      refine lv_goto (tgt := 37) hx hb dX5_begin_33 (by decide) ?_
      refine k_put (C := RX5) (T := TX5) (N := 18) (ci := 5) (v := .int 1) (ws' := [cM h (ka, kb, kc, kd, ke) v 1]) S hK hW k_X5_begin_in5 tyX5_ok nmX5 0 17 rfl rfl (by decide) k_X5_begin_f34 rfl rfl rfl rfl rfl dX5_begin_37 (fun H locs hW => ?_)
      refine lv_aload_n hx hb dX5_begin_40 rfl (lv_at hl 0 rfl) ?_
      refine k_get (C := RX5) (T := TX5) (N := 18) (ci := 5) (v := .int 1) S hK hW k_X5_begin_in5 0 17 rfl rfl (by decide) k_X5_begin_f34 rfl dX5_begin_41 ?_
      refine lv_if_le (tgt := 49) hx hb dX5_begin_44 (by decide) (fun c_4 => ?_) (fun c_4 => ?_)
      ·
        exact absurd c_4 (by decide)
      ·
        refine lv_iconst (v := 0) hx hb dX5_begin_47 (by decide) ?_
        have eF : (F_X5_begin ka kb kc kd ke x1 x2 x3) = (0, ka, kb, kc, kd, ke, 1) := by
          unfold F_X5_begin
          rw [if_neg c_1, if_pos c_3]
        exact k_iret (wf := [cM h (ka, kb, kc, kd, ke) v 1]) S hr hlk hK hW [0] rfl rfl (congrArg (fun (z : Int32 × Int32 × Int32 × Int32 × Int32 × Int32 × Int32) => [cM h (z.2.1, z.2.2.1, z.2.2.2.1, z.2.2.2.2.1, z.2.2.2.2.2.1) v z.2.2.2.2.2.2]) eF).symm (congrArg (fun (z : Int32 × Int32 × Int32 × Int32 × Int32 × Int32 × Int32) => z.1) eF).symm dX5_begin_48
    ·
      refine lv_iload_n hx hb dX5_begin_23 rfl (lv_at hl 3 rfl) ?_
      refine lv_iconst (v := 0) hx hb dX5_begin_24 (by decide) ?_
      refine lv_iconst (v := 1) hx hb dX5_begin_25 (by decide) ?_
      refine k_callSi (As := [.int x3, .int 0, .int 1]) (rest := [.ref (h 18)]) (wr := [cM h (ka, kb, kc, kd, ke) v t]) (c_X5_in l G x3 0 1) S hK hW gX5_begin_X5_in rfl ⟨rfl, rfl⟩ nd_X5_in ⟨rfl, rfl⟩ [] [0] rfl rfl rfl rfl (by decide) rfl hl.1 rfl dX5_begin_26 ⟨Nat.zero_le _, Nat.zero_le _⟩ (fun H locs hW => ?_)
      have hW : Wd G A sS.heap [cM h (ka, kb, kc, kd, ke) v t] H locs := hW
      refine lv_if_ne (tgt := 36) hx hb dX5_begin_29 (by decide) (fun c_5 => ?_) (fun c_5 => ?_)
      ·
        refine lv_iconst (v := 0) hx hb dX5_begin_36 (by decide) ?_
        refine k_put (C := RX5) (T := TX5) (N := 18) (ci := 5) (v := .int 0) (ws' := [cM h (ka, kb, kc, kd, ke) v 0]) S hK hW k_X5_begin_in5 tyX5_ok nmX5 0 17 rfl rfl (by decide) k_X5_begin_f34 rfl rfl rfl rfl rfl dX5_begin_37 (fun H locs hW => ?_)
        refine lv_aload_n hx hb dX5_begin_40 rfl (lv_at hl 0 rfl) ?_
        refine k_get (C := RX5) (T := TX5) (N := 18) (ci := 5) (v := .int 0) S hK hW k_X5_begin_in5 0 17 rfl rfl (by decide) k_X5_begin_f34 rfl dX5_begin_41 ?_
        refine lv_if_le (tgt := 49) hx hb dX5_begin_44 (by decide) (fun c_6 => ?_) (fun c_6 => ?_)
        ·
          refine lv_aload_n hx hb dX5_begin_49 rfl (lv_at hl 0 rfl) ?_
          refine k_get (C := RX5) (T := TX5) (N := 18) (ci := 5) (v := .int kd) S hK hW k_X5_begin_in5 0 3 rfl rfl (by decide) k_X5_begin_f122 rfl dX5_begin_50 ?_
          refine lv_istore (lv' := [(4, .int kd), (0, .ref (h 18)), (1, .int x1), (2, .int x2), (3, .int x3)]) hx hb dX5_begin_53 hl (by decide) rfl (fun ls hl => ?_)
          refine lv_aload_n hx hb dX5_begin_55 rfl (lv_at hl 1 rfl) ?_
          refine lv_iload_n hx hb dX5_begin_56 rfl (lv_at hl 2 rfl) ?_
          refine k_put (C := RX5) (T := TX5) (N := 18) (ci := 5) (v := .int x1) (ws' := [cM h (x1, kb, kc, kd, ke) v 0]) S hK hW k_X5_begin_in5 tyX5_ok nmX5 0 0 rfl rfl (by decide) k_X5_begin_f26 rfl rfl rfl rfl rfl dX5_begin_57 (fun H locs hW => ?_)
          refine lv_aload_n hx hb dX5_begin_60 rfl (lv_at hl 1 rfl) ?_
          refine lv_iload_n hx hb dX5_begin_61 rfl (lv_at hl 3 rfl) ?_
          refine k_put (C := RX5) (T := TX5) (N := 18) (ci := 5) (v := .int x2) (ws' := [cM h (x1, x2, kc, kd, ke) v 0]) S hK hW k_X5_begin_in5 tyX5_ok nmX5 0 1 rfl rfl (by decide) k_X5_begin_f31 rfl rfl rfl rfl rfl dX5_begin_62 (fun H locs hW => ?_)
          refine lv_aload_n hx hb dX5_begin_65 rfl (lv_at hl 1 rfl) ?_
          refine lv_iload_n hx hb dX5_begin_66 rfl (lv_at hl 4 rfl) ?_
          refine k_put (C := RX5) (T := TX5) (N := 18) (ci := 5) (v := .int x3) (ws' := [cM h (x1, x2, x3, kd, ke) v 0]) S hK hW k_X5_begin_in5 tyX5_ok nmX5 0 2 rfl rfl (by decide) k_X5_begin_f37 rfl rfl rfl rfl rfl dX5_begin_67 (fun H locs hW => ?_)
          refine lv_aload_n hx hb dX5_begin_70 rfl (lv_at hl 1 rfl) ?_
          refine lv_iconst (v := 0) hx hb dX5_begin_71 (by decide) ?_
          refine k_put (C := RX5) (T := TX5) (N := 18) (ci := 5) (v := .int 0) (ws' := [cM h (x1, x2, x3, 0, ke) v 0]) S hK hW k_X5_begin_in5 tyX5_ok nmX5 0 3 rfl rfl (by decide) k_X5_begin_f122 rfl rfl rfl rfl rfl dX5_begin_72 (fun H locs hW => ?_)
          refine lv_aload_n hx hb dX5_begin_75 rfl (lv_at hl 1 rfl) ?_
          refine lv_iconst (v := 0) hx hb dX5_begin_76 (by decide) ?_
          refine k_put (C := RX5) (T := TX5) (N := 18) (ci := 5) (v := .int 0) (ws' := [cM h (x1, x2, x3, 0, 0) v 0]) S hK hW k_X5_begin_in5 tyX5_ok nmX5 0 4 rfl rfl (by decide) k_X5_begin_f105 rfl rfl rfl rfl rfl dX5_begin_77 (fun H locs hW => ?_)
          refine lv_iload hx hb dX5_begin_80 (lv_at hl 0 rfl) ?_
          have eF : (F_X5_begin ka kb kc kd ke x1 x2 x3) = (kd, x1, x2, x3, 0, 0, 0) := by
            unfold F_X5_begin
            rw [if_neg c_1, if_neg c_3, if_neg c_5]
          exact k_iret (wf := [cM h (x1, x2, x3, 0, 0) v 0]) S hr hlk hK hW [0] rfl rfl (congrArg (fun (z : Int32 × Int32 × Int32 × Int32 × Int32 × Int32 × Int32) => [cM h (z.2.1, z.2.2.1, z.2.2.2.1, z.2.2.2.2.1, z.2.2.2.2.2.1) v z.2.2.2.2.2.2]) eF).symm (congrArg (fun (z : Int32 × Int32 × Int32 × Int32 × Int32 × Int32 × Int32) => z.1) eF).symm dX5_begin_82
        ·
          exact absurd c_6 (by decide)
      ·
        refine lv_iconst (v := 1) hx hb dX5_begin_32 (by decide) ?_
        refine lv_goto (tgt := 37) hx hb dX5_begin_33 (by decide) ?_
        refine k_put (C := RX5) (T := TX5) (N := 18) (ci := 5) (v := .int 1) (ws' := [cM h (ka, kb, kc, kd, ke) v 1]) S hK hW k_X5_begin_in5 tyX5_ok nmX5 0 17 rfl rfl (by decide) k_X5_begin_f34 rfl rfl rfl rfl rfl dX5_begin_37 (fun H locs hW => ?_)
        refine lv_aload_n hx hb dX5_begin_40 rfl (lv_at hl 0 rfl) ?_
        refine k_get (C := RX5) (T := TX5) (N := 18) (ci := 5) (v := .int 1) S hK hW k_X5_begin_in5 0 17 rfl rfl (by decide) k_X5_begin_f34 rfl dX5_begin_41 ?_
        refine lv_if_le (tgt := 49) hx hb dX5_begin_44 (by decide) (fun c_7 => ?_) (fun c_7 => ?_)
        ·
          exact absurd c_7 (by decide)
        ·
          refine lv_iconst (v := 0) hx hb dX5_begin_47 (by decide) ?_
          have eF : (F_X5_begin ka kb kc kd ke x1 x2 x3) = (0, ka, kb, kc, kd, ke, 1) := by
            unfold F_X5_begin
            rw [if_neg c_1, if_neg c_3, if_pos c_5]
          exact k_iret (wf := [cM h (ka, kb, kc, kd, ke) v 1]) S hr hlk hK hW [0] rfl rfl (congrArg (fun (z : Int32 × Int32 × Int32 × Int32 × Int32 × Int32 × Int32) => [cM h (z.2.1, z.2.2.1, z.2.2.2.1, z.2.2.2.2.1, z.2.2.2.2.2.1) v z.2.2.2.2.2.2]) eF).symm (congrArg (fun (z : Int32 × Int32 × Int32 × Int32 × Int32 × Int32 × Int32) => z.1) eF).symm dX5_begin_48
def F_X5_close (kd : Int32) (x : Int32) : Int32 × Int32 × Int32 :=
  if bI (F_X5_in x 1 24) = 0 then (0, kd, 1)
  else (if (kd + x) ≤ 120 then ((kd + x), (kd + x), 0)
    else (0, kd, 2))
set_option maxRecDepth 100000 in
theorem k_X5_close_f122 : Cond.fieldLink RX5 122 "FlexiblePolicyModel" "now" "I" ∈ wsX5_close := by decide +kernel
set_option maxRecDepth 100000 in
theorem k_X5_close_in5 : ∀ w ∈ u_ws RX5 TX5 18, w ∈ wsX5_close := by decide +kernel
set_option maxRecDepth 100000 in
theorem k_X5_close_f34 : Cond.fieldLink RX5 34 "FlexiblePolicyModel" "thrown" "I" ∈ wsX5_close := by decide +kernel
theorem nd_X5_close : yX5_close.cls = RX5 ∧ yX5_close.cls ≠ "java/lang/invoke/MethodHandle" ∧ yX5_close.cls ≠ "java/lang/invoke/VarHandle" ∧ (parseMethodDescriptor yX5_close.desc).map (fun d => d.parameters.length) = some 1 := by decide +kernel
abbrev rm_X5_close : Room := { frames := 1, cells := 0, slots := 0, locals := 22 }
set_option maxHeartbeats 4000000 in
set_option maxRecDepth 100000 in
theorem c_X5_close (l : Launch) (G : GG) (h : Nat → Nat) (ka : Int32) (kb : Int32) (kc : Int32) (kd : Int32) (ke : Int32) (v : S7) (t : Int32) (x : Int32) : CI l G yX5_close wsX5_close rm_X5_close [.ref (h 18), .int x] [cM h (ka, kb, kc, kd, ke) v t] ((F_X5_close kd x).1) [cM h (ka, kb, kc, ((F_X5_close kd x).2.1), ke) v ((F_X5_close kd x).2.2)] := by
  refine CI_of (own := RX5) (by decide +kernel) rfl rfl (Nat.le_of_ble_eq_true rfl) ?_
  intro pP eE sS mM args below meth cC A S hK hr hlk hmn hW ls hl
  have hx := S.1
  have hb := S.2.1
  have hl : lv_has ls 2 [(0, .ref (h 18)), (1, .int x)] := hl
  have hW : Wd G A sS.heap [cM h (ka, kb, kc, kd, ke) v t] sS.heap [] := hW
  refine lv_aload_n hx hb dX5_close_0 rfl (lv_at hl 0 rfl) ?_
  refine lv_iload_n hx hb dX5_close_1 rfl (lv_at hl 1 rfl) ?_
  refine lv_iconst (v := 1) hx hb dX5_close_2 (by decide) ?_
  refine lv_bipush (v := 24) hx hb dX5_close_3 (by decide) ?_
  refine k_callSi (As := [.int x, .int 1, .int 24]) (rest := [.ref (h 18)]) (wr := [cM h (ka, kb, kc, kd, ke) v t]) (c_X5_in l G x 1 24) S hK hW gX5_close_X5_in rfl ⟨rfl, rfl⟩ nd_X5_in ⟨rfl, rfl⟩ [] [0] rfl rfl rfl rfl (by decide) rfl hl.1 rfl dX5_close_5 ⟨Nat.zero_le _, Nat.zero_le _⟩ (fun H locs hW => ?_)
  have hW : Wd G A sS.heap [cM h (ka, kb, kc, kd, ke) v t] H locs := hW
  refine lv_if_ne (tgt := 15) hx hb dX5_close_8 (by decide) (fun c_1 => ?_) (fun c_1 => ?_)
  ·
    refine lv_aload_n hx hb dX5_close_15 rfl (lv_at hl 0 rfl) ?_
    refine k_get (C := RX5) (T := TX5) (N := 18) (ci := 5) (v := .int kd) S hK hW k_X5_close_in5 0 3 rfl rfl (by decide) k_X5_close_f122 rfl dX5_close_16 ?_
    refine lv_iload_n hx hb dX5_close_19 rfl (lv_at hl 1 rfl) ?_
    refine lv_iadd hx hb dX5_close_20 ?_
    refine lv_bipush (v := 120) hx hb dX5_close_21 (by decide) ?_
    refine lv_icmp_le (tgt := 30) hx hb dX5_close_23 (by decide) (fun c_2 => ?_) (fun c_2 => ?_)
    ·
      refine lv_iconst (v := 0) hx hb dX5_close_30 (by decide) ?_
      refine k_put (C := RX5) (T := TX5) (N := 18) (ci := 5) (v := .int 0) (ws' := [cM h (ka, kb, kc, kd, ke) v 0]) S hK hW k_X5_close_in5 tyX5_ok nmX5 0 17 rfl rfl (by decide) k_X5_close_f34 rfl rfl rfl rfl rfl dX5_close_31 (fun H locs hW => ?_)
      refine lv_aload_n hx hb dX5_close_34 rfl (lv_at hl 0 rfl) ?_
      refine k_get (C := RX5) (T := TX5) (N := 18) (ci := 5) (v := .int 0) S hK hW k_X5_close_in5 0 17 rfl rfl (by decide) k_X5_close_f34 rfl dX5_close_35 ?_
      refine lv_if_le (tgt := 43) hx hb dX5_close_38 (by decide) (fun c_3 => ?_) (fun c_3 => ?_)
      ·
        refine lv_aload_n hx hb dX5_close_43 rfl (lv_at hl 0 rfl) ?_
        refine lv_dup hx hb dX5_close_44 rfl ?_
        refine k_get (C := RX5) (T := TX5) (N := 18) (ci := 5) (v := .int kd) S hK hW k_X5_close_in5 0 3 rfl rfl (by decide) k_X5_close_f122 rfl dX5_close_45 ?_
        refine lv_iload_n hx hb dX5_close_48 rfl (lv_at hl 1 rfl) ?_
        refine lv_iadd hx hb dX5_close_49 ?_
        refine lv_topi (fun z_4 ez_4 => ?_)
        refine k_put (C := RX5) (T := TX5) (N := 18) (ci := 5) (v := .int z_4) (ws' := [cM h (ka, kb, kc, z_4, ke) v 0]) S hK hW k_X5_close_in5 tyX5_ok nmX5 0 3 rfl rfl (by decide) k_X5_close_f122 rfl rfl rfl rfl rfl dX5_close_50 (fun H locs hW => ?_)
        refine lv_aload_n hx hb dX5_close_53 rfl (lv_at hl 0 rfl) ?_
        refine k_get (C := RX5) (T := TX5) (N := 18) (ci := 5) (v := .int z_4) S hK hW k_X5_close_in5 0 3 rfl rfl (by decide) k_X5_close_f122 rfl dX5_close_54 ?_
        have hW9 := hW
        have hl9 := hl
        subst ez_4
        have eF : (F_X5_close kd x) = ((kd + x), (kd + x), 0) := by
          unfold F_X5_close
          rw [if_neg c_1, if_pos c_2]
        exact k_iret (wf := [cM h (ka, kb, kc, (kd + x), ke) v 0]) S hr hlk hK hW9 [0] rfl rfl (congrArg (fun (z : Int32 × Int32 × Int32) => [cM h (ka, kb, kc, z.2.1, ke) v z.2.2]) eF).symm (congrArg (fun (z : Int32 × Int32 × Int32) => z.1) eF).symm dX5_close_57
      ·
        exact absurd c_3 (by decide)
    ·
      refine lv_iconst (v := 2) hx hb dX5_close_26 (by decide) ?_
      refine lv_goto (tgt := 31) hx hb dX5_close_27 (by decide) ?_
      refine k_put (C := RX5) (T := TX5) (N := 18) (ci := 5) (v := .int 2) (ws' := [cM h (ka, kb, kc, kd, ke) v 2]) S hK hW k_X5_close_in5 tyX5_ok nmX5 0 17 rfl rfl (by decide) k_X5_close_f34 rfl rfl rfl rfl rfl dX5_close_31 (fun H locs hW => ?_)
      refine lv_aload_n hx hb dX5_close_34 rfl (lv_at hl 0 rfl) ?_
      refine k_get (C := RX5) (T := TX5) (N := 18) (ci := 5) (v := .int 2) S hK hW k_X5_close_in5 0 17 rfl rfl (by decide) k_X5_close_f34 rfl dX5_close_35 ?_
      refine lv_if_le (tgt := 43) hx hb dX5_close_38 (by decide) (fun c_5 => ?_) (fun c_5 => ?_)
      ·
        exact absurd c_5 (by decide)
      ·
        refine lv_iconst (v := 0) hx hb dX5_close_41 (by decide) ?_
        have eF : (F_X5_close kd x) = (0, kd, 2) := by
          unfold F_X5_close
          rw [if_neg c_1, if_neg c_2]
        exact k_iret (wf := [cM h (ka, kb, kc, kd, ke) v 2]) S hr hlk hK hW [0] rfl rfl (congrArg (fun (z : Int32 × Int32 × Int32) => [cM h (ka, kb, kc, z.2.1, ke) v z.2.2]) eF).symm (congrArg (fun (z : Int32 × Int32 × Int32) => z.1) eF).symm dX5_close_42
  ·
    refine lv_iconst (v := 1) hx hb dX5_close_11 (by decide) ?_
    refine lv_goto (tgt := 31) hx hb dX5_close_12 (by decide) ?_
    refine k_put (C := RX5) (T := TX5) (N := 18) (ci := 5) (v := .int 1) (ws' := [cM h (ka, kb, kc, kd, ke) v 1]) S hK hW k_X5_close_in5 tyX5_ok nmX5 0 17 rfl rfl (by decide) k_X5_close_f34 rfl rfl rfl rfl rfl dX5_close_31 (fun H locs hW => ?_)
    refine lv_aload_n hx hb dX5_close_34 rfl (lv_at hl 0 rfl) ?_
    refine k_get (C := RX5) (T := TX5) (N := 18) (ci := 5) (v := .int 1) S hK hW k_X5_close_in5 0 17 rfl rfl (by decide) k_X5_close_f34 rfl dX5_close_35 ?_
    refine lv_if_le (tgt := 43) hx hb dX5_close_38 (by decide) (fun c_6 => ?_) (fun c_6 => ?_)
    ·
      exact absurd c_6 (by decide)
    ·
      refine lv_iconst (v := 0) hx hb dX5_close_41 (by decide) ?_
      have eF : (F_X5_close kd x) = (0, kd, 1) := by
        unfold F_X5_close
        rw [if_pos c_1]
      exact k_iret (wf := [cM h (ka, kb, kc, kd, ke) v 1]) S hr hlk hK hW [0] rfl rfl (congrArg (fun (z : Int32 × Int32 × Int32) => [cM h (ka, kb, kc, z.2.1, ke) v z.2.2]) eF).symm (congrArg (fun (z : Int32 × Int32 × Int32) => z.1) eF).symm dX5_close_42
def F_X5_corridor (x : Int32) : Int32 × Int32 :=
  if bI (F_X5_in x 18 120) = 0 then (0, 1)
  else ((F_X5_corridorAt x), 0)
set_option maxRecDepth 100000 in
theorem k_X5_corridor_f34 : Cond.fieldLink RX5 34 "FlexiblePolicyModel" "thrown" "I" ∈ wsX5_corridor := by decide +kernel
set_option maxRecDepth 100000 in
theorem k_X5_corridor_in5 : ∀ w ∈ u_ws RX5 TX5 18, w ∈ wsX5_corridor := by decide +kernel
theorem nd_X5_corridor : yX5_corridor.cls = RX5 ∧ yX5_corridor.cls ≠ "java/lang/invoke/MethodHandle" ∧ yX5_corridor.cls ≠ "java/lang/invoke/VarHandle" ∧ (parseMethodDescriptor yX5_corridor.desc).map (fun d => d.parameters.length) = some 1 := by decide +kernel
abbrev rm_X5_corridor : Room := { frames := 1, cells := 0, slots := 0, locals := 22 }
set_option maxHeartbeats 4000000 in
set_option maxRecDepth 100000 in
theorem c_X5_corridor (l : Launch) (G : GG) (h : Nat → Nat) (ka : Int32) (kb : Int32) (kc : Int32) (kd : Int32) (ke : Int32) (v : S7) (t : Int32) (x : Int32) : CI l G yX5_corridor wsX5_corridor rm_X5_corridor [.ref (h 18), .int x] [cM h (ka, kb, kc, kd, ke) v t] ((F_X5_corridor x).1) [cM h (ka, kb, kc, kd, ke) v ((F_X5_corridor x).2)] := by
  refine CI_of (own := RX5) (by decide +kernel) rfl rfl (Nat.le_of_ble_eq_true rfl) ?_
  intro pP eE sS mM args below meth cC A S hK hr hlk hmn hW ls hl
  have hx := S.1
  have hb := S.2.1
  have hl : lv_has ls 2 [(0, .ref (h 18)), (1, .int x)] := hl
  have hW : Wd G A sS.heap [cM h (ka, kb, kc, kd, ke) v t] sS.heap [] := hW
  refine lv_aload_n hx hb dX5_corridor_0 rfl (lv_at hl 0 rfl) ?_
  refine lv_iload_n hx hb dX5_corridor_1 rfl (lv_at hl 1 rfl) ?_
  refine lv_bipush (v := 18) hx hb dX5_corridor_2 (by decide) ?_
  refine lv_bipush (v := 120) hx hb dX5_corridor_4 (by decide) ?_
  refine k_callSi (As := [.int x, .int 18, .int 120]) (rest := [.ref (h 18)]) (wr := [cM h (ka, kb, kc, kd, ke) v t]) (c_X5_in l G x 18 120) S hK hW gX5_corridor_X5_in rfl ⟨rfl, rfl⟩ nd_X5_in ⟨rfl, rfl⟩ [] [0] rfl rfl rfl rfl (by decide) rfl hl.1 rfl dX5_corridor_6 ⟨Nat.zero_le _, Nat.zero_le _⟩ (fun H locs hW => ?_)
  have hW : Wd G A sS.heap [cM h (ka, kb, kc, kd, ke) v t] H locs := hW
  refine lv_if_eq (tgt := 16) hx hb dX5_corridor_9 (by decide) (fun c_1 => ?_) (fun c_1 => ?_)
  ·
    refine lv_iconst (v := 1) hx hb dX5_corridor_16 (by decide) ?_
    refine k_put (C := RX5) (T := TX5) (N := 18) (ci := 5) (v := .int 1) (ws' := [cM h (ka, kb, kc, kd, ke) v 1]) S hK hW k_X5_corridor_in5 tyX5_ok nmX5 0 17 rfl rfl (by decide) k_X5_corridor_f34 rfl rfl rfl rfl rfl dX5_corridor_17 (fun H locs hW => ?_)
    refine lv_aload_n hx hb dX5_corridor_20 rfl (lv_at hl 0 rfl) ?_
    refine k_get (C := RX5) (T := TX5) (N := 18) (ci := 5) (v := .int 1) S hK hW k_X5_corridor_in5 0 17 rfl rfl (by decide) k_X5_corridor_f34 rfl dX5_corridor_21 ?_
    refine lv_if_ne (tgt := 34) hx hb dX5_corridor_24 (by decide) (fun c_2 => ?_) (fun c_2 => ?_)
    ·
      refine lv_iconst (v := 0) hx hb dX5_corridor_34 (by decide) ?_
      have eF : (F_X5_corridor x) = (0, 1) := by
        unfold F_X5_corridor
        rw [if_pos c_1]
      exact k_iret (wf := [cM h (ka, kb, kc, kd, ke) v 1]) S hr hlk hK hW [0] rfl rfl (congrArg (fun (z : Int32 × Int32) => [cM h (ka, kb, kc, kd, ke) v z.2]) eF).symm (congrArg (fun (z : Int32 × Int32) => z.1) eF).symm dX5_corridor_35
    ·
      exact absurd c_2 (by decide)
  ·
    refine lv_iconst (v := 0) hx hb dX5_corridor_12 (by decide) ?_
    refine lv_goto (tgt := 17) hx hb dX5_corridor_13 (by decide) ?_
    refine k_put (C := RX5) (T := TX5) (N := 18) (ci := 5) (v := .int 0) (ws' := [cM h (ka, kb, kc, kd, ke) v 0]) S hK hW k_X5_corridor_in5 tyX5_ok nmX5 0 17 rfl rfl (by decide) k_X5_corridor_f34 rfl rfl rfl rfl rfl dX5_corridor_17 (fun H locs hW => ?_)
    refine lv_aload_n hx hb dX5_corridor_20 rfl (lv_at hl 0 rfl) ?_
    refine k_get (C := RX5) (T := TX5) (N := 18) (ci := 5) (v := .int 0) S hK hW k_X5_corridor_in5 0 17 rfl rfl (by decide) k_X5_corridor_f34 rfl dX5_corridor_21 ?_
    refine lv_if_ne (tgt := 34) hx hb dX5_corridor_24 (by decide) (fun c_3 => ?_) (fun c_3 => ?_)
    ·
      exact absurd c_3 (by decide)
    ·
      refine lv_iload_n hx hb dX5_corridor_27 rfl (lv_at hl 1 rfl) ?_
      refine k_callSi (As := [.int x]) (rest := []) (wr := [cM h (ka, kb, kc, kd, ke) v 0]) (c_X5_corridorAt l G x) S hK hW gX5_corridor_X5_corridorAt rfl ⟨rfl, rfl⟩ nd_X5_corridorAt ⟨rfl, rfl⟩ [] [0] rfl rfl rfl rfl (by decide) rfl hl.1 rfl dX5_corridor_28 ⟨Nat.zero_le _, Nat.zero_le _⟩ (fun H locs hW => ?_)
      have hW : Wd G A sS.heap [cM h (ka, kb, kc, kd, ke) v 0] H locs := hW
      refine lv_goto (tgt := 35) hx hb dX5_corridor_31 (by decide) ?_
      have eF : (F_X5_corridor x) = ((F_X5_corridorAt x), 0) := by
        unfold F_X5_corridor
        rw [if_neg c_1]
      exact k_iret (wf := [cM h (ka, kb, kc, kd, ke) v 0]) S hr hlk hK hW [0] rfl rfl (congrArg (fun (z : Int32 × Int32) => [cM h (ka, kb, kc, kd, ke) v z.2]) eF).symm (congrArg (fun (z : Int32 × Int32) => z.1) eF).symm dX5_corridor_35
